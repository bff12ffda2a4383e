/-! Rows: a row r lies in places of the cells k+1 (there), k+2 (lanes), k+3 (sizes), k+4 (items) behind its object k. -/
def SX5_isRow : zS := fun as σ Ret => match as with
  | [.inl r] => Ret (some (.inl (if 0 ≤ r ∧ r < 8 then 1 else 0))) σ
  | _ => False
def tX5_isRow_0 (X : Nat → zB) (Ret : zR) (L : zL) (st : List zV) (σ : zM) : Prop := (z_iload 0 (z_iflt (z_push 0 (z_zret Ret)) (z_iload 0 (z_push 8 (z_icge (z_push 0 (z_zret Ret)) (z_push 1 (z_goto (z_zret Ret)))))))) L st σ
theorem pX5_isRow {as : List zV} {σ : zM} {Ret : zR} (h : SX5_isRow as σ Ret) : ∃ (x1 : Int), as = [.inl x1] := by
  unfold SX5_isRow at h
  split at h
  · exact ⟨_, rfl⟩
  · exact h.elim
set_option maxRecDepth 10000 in
set_option maxHeartbeats 4000000 in
theorem vX5_isRow {X : Nat → zB} {Ret : zR} (h0 : ∀ L st σ, tX5_isRow_0 X Ret L st σ → X 0 L st σ) (x1 : Int) (σ : zM) (hx1 : -2147483648 ≤ x1 ∧ x1 ≤ 2147483647) (hσ : z_okm σ) (h : SX5_isRow [.inl x1] σ Ret) : X 0 [some (.inl x1)] [] σ := by
  refine h0 _ _ _ ?_
  simp only [SX5_isRow] at h
  simp only [z_push, z_lpush, z_iload, z_lload, z_aload, z_istore, z_istoreP, z_lstore, z_astore, z_iinc, z_iincP, z_iadd, z_isub, z_imul, z_iaddW, z_isubW, z_imulW, z_idiv, z_irem, z_iand, z_ior, z_ixor, z_ishl, z_ishr, z_iushr, z_ineg, z_i2l, z_i2b, z_i2s, z_i2c, z_l2i, z_ladd, z_lsub, z_land, z_lor, z_lshl, z_lshr, z_lcmp, z_dup, z_pop, z_dup2, z_goto, z_tsw, z_cases, z_geti, z_getr, z_puti, z_putz, z_ald, z_iast, z_bast, z_zast, z_alen, z_acopy, z_mmax, z_mmin, z_mabs, z_mabsL, z_iret, z_zret, z_nret, z_lret, z_aret, z_vret, z_cat, z_ldcs, z_strv, z_strc, z_gcs, z_gfm, z_sln, z_sald, z_ifeq, z_ifne, z_iflt, z_ifge, z_ifgt, z_ifle, z_iceq, z_icne, z_iclt, z_icge, z_icgt, z_icle, z_cs0, z_cs1, z_cs2, z_cs3, z_cs4, z_cs5, z_cs6, z_cs7, z_cv0, z_cv1, z_cv2, z_cv3, z_cv4, z_cv5, z_cv6, z_cv7, z_g0, z_s0, z_g1, z_s1, z_g2, z_s2, z_g3, z_s3, z_g4, z_s4, z_g5, z_s5, z_g6, z_s6, z_g7, z_s7, z_g8, z_s8, z_g9, z_s9, z_g10, z_s10, z_g11, z_s11, z_g12, z_s12, z_g13, z_s13, z_b0, z_b1, z_b0n, z_b1n, z_up_far1, z_up_far2, z_up_far3, z_up_far4, z_up_far5, z_up_far6, Classical.not_not, not_true_eq_false, z_in, z_inL, Int.cast_ofNat_Int, Nat.reduceLeDiff, List.length_cons, List.length_nil, Nat.reduceAdd, Nat.zero_add, Nat.le_refl, true_and, and_true, List.length, Nat.reduceLT, true_or, or_true, false_or, or_false, false_and, and_false, not_true_eq_false, not_false_eq_true, forall_const, false_implies, true_implies, Int.reduceEq, Int.reduceLT, Int.reduceLE, Int.reduceAdd, Int.reduceSub, Int.reduceMul, Int.reduceNeg, Int.reduceToNat, Int.toNat_natCast, ↓reduceIte, reduceIte, Nat.reduceEqDiff, Nat.reduceSub, Nat.reduceMul, ne_eq, Int.zero_add, Int.add_zero, Int.sub_zero, Nat.add_zero, Int.ofNat_eq_natCast, tX5_isRow_0]
  repeat' (first | (intro _) | (with_reducible assumption) | (refine And.intro ?_ ?_))
  all_goals first | omega | assumption | (refine z_fin h ?_ rfl; first | rfl | omega | (split <;> omega) | (split <;> split <;> omega)) | skip
theorem dX5_isRow_0 : decode cX5_isRow 0 = .ok (.iload_n 0, 1) := by decide +kernel
theorem dX5_isRow_1 : decode cX5_isRow 1 = .ok (.ifCond .lt 13, 3) := by decide +kernel
theorem dX5_isRow_4 : decode cX5_isRow 4 = .ok (.iload_n 0, 1) := by decide +kernel
theorem dX5_isRow_5 : decode cX5_isRow 5 = .ok (.bipush 8, 2) := by decide +kernel
theorem dX5_isRow_7 : decode cX5_isRow 7 = .ok (.if_icmp .ge 7, 3) := by decide +kernel
theorem dX5_isRow_10 : decode cX5_isRow 10 = .ok (.iconst 1, 1) := by decide +kernel
theorem dX5_isRow_11 : decode cX5_isRow 11 = .ok (.goto 4, 3) := by decide +kernel
theorem dX5_isRow_14 : decode cX5_isRow 14 = .ok (.iconst 0, 1) := by decide +kernel
theorem dX5_isRow_15 : decode cX5_isRow 15 = .ok (.ireturn, 1) := by decide +kernel
set_option maxRecDepth 100000 in
theorem rX5_isRow_0 {p : Program} {l : Launch} {e : Env} {s : State} {m : MethodId} {args : Array Value} {below : List Frame} {meth : Method} {c : Code} {D : va_G} {cA : Nat → ClassId} {ad : Nat → Nat} {Ret : zR} (C : z_Cx p { frames := 0, cells := 0, slots := 0, locals := 0 } s m args c cX5_isRow yX5_isRow.cls 1 D cA ad) (hr : meth.sig.returnType = (some .boolean)) (hlocks : meth.locks = false) : ∀ L st σ, tX5_isRow_0 (z_X p l e { frames := 0, cells := 0, slots := 0, locals := 0 } s m args below meth c (MQ below (z_Qc D cA ad Ret) args s 0 0 (z_A ad)) 1 D cA ad true) Ret L st σ → z_X p l e { frames := 0, cells := 0, slots := 0, locals := 0 } s m args below meth c (MQ below (z_Qc D cA ad Ret) args s 0 0 (z_A ad)) 1 D cA ad true 0 L st σ := (s_iload_n C dX5_isRow_0 rfl (s_iflt C dX5_isRow_1 (by decide) (s_iconst C dX5_isRow_14 rfl ⟨by decide, by decide⟩ (s_zret C dX5_isRow_15 hr ⟨rfl, rfl⟩ hlocks)) (s_iload_n C dX5_isRow_4 rfl (s_bipush C dX5_isRow_5 rfl ⟨by decide, by decide⟩ (s_icge C dX5_isRow_7 (by decide) (s_iconst C dX5_isRow_14 rfl ⟨by decide, by decide⟩ (s_zret C dX5_isRow_15 hr ⟨rfl, rfl⟩ hlocks)) (s_iconst C dX5_isRow_10 rfl ⟨by decide, by decide⟩ (s_goto C dX5_isRow_11 (by decide) (s_zret C dX5_isRow_15 hr ⟨rfl, rfl⟩ hlocks))))))))
theorem okX5_isRow (l : Launch) : z_OK l yX5_isRow cX5_isRow 1 (some .boolean) 0 0 SX5_isRow := by
  refine z_ok_of true (by decide +kernel) ?_ ?_
  · intro as σ Ret h
    obtain ⟨x1, rfl⟩ := pX5_isRow h
    exact ⟨Nat.le_of_ble_eq_true rfl, by simp⟩
  · intro p e s m args below meth c D cA ad Ret C hr hlocks as σ has hσ h
    obtain ⟨x1, rfl⟩ := pX5_isRow h
    exact vX5_isRow (rX5_isRow_0 C hr hlocks) x1 σ (has _ (List.mem_of_getElem? (i := 0) rfl)) hσ h
def SX5_isThere : zS := fun as σ Ret => match as with
  | [.inr (.inr (5, 0, k)), .inl r] => Ret (some (.inl (if (0 ≤ r ∧ r < 8) ∧ ¬ σ (k + 1) r.toNat = 0 then 1 else 0))) σ
  | _ => False
def tX5_isThere_0 (X : Nat → zB) (Ret : zR) (L : zL) (st : List zV) (σ : zM) : Prop := (z_iload 1 (z_cs1 SX5_isRow (z_ifeq (z_push 0 (z_zret Ret)) (z_aload 0 (z_getr 5 1 102 8 (z_iload 1 (z_ald 2 (z_ifeq (z_push 0 (z_zret Ret)) (z_push 1 (z_goto (z_zret Ret))))))))))) L st σ
theorem pX5_isThere {as : List zV} {σ : zM} {Ret : zR} (h : SX5_isThere as σ Ret) : ∃ (k0 : Nat) (x1 : Int), as = [.inr (.inr (5, 0, k0)), .inl x1] := by
  unfold SX5_isThere at h
  split at h
  · exact ⟨_, _, rfl⟩
  · exact h.elim
set_option maxRecDepth 10000 in
set_option maxHeartbeats 4000000 in
theorem vX5_isThere {X : Nat → zB} {Ret : zR} (h0 : ∀ L st σ, tX5_isThere_0 X Ret L st σ → X 0 L st σ) (k0 : Nat) (x1 : Int) (σ : zM) (hk0 : z_kd k0 = (5, 0)) (hx1 : -2147483648 ≤ x1 ∧ x1 ≤ 2147483647) (hσ : z_okm σ) (h : SX5_isThere [.inr (.inr (5, 0, k0)), .inl x1] σ Ret) : X 0 [some (.inr (.inr (5, 0, k0))), some (.inl x1)] [] σ := by
  refine h0 _ _ _ ?_
  simp only [z_push, z_lpush, z_iload, z_lload, z_aload, z_istore, z_istoreP, z_lstore, z_astore, z_iinc, z_iincP, z_iadd, z_isub, z_imul, z_iaddW, z_isubW, z_imulW, z_idiv, z_irem, z_iand, z_ior, z_ixor, z_ishl, z_ishr, z_iushr, z_ineg, z_i2l, z_i2b, z_i2s, z_i2c, z_l2i, z_ladd, z_lsub, z_land, z_lor, z_lshl, z_lshr, z_lcmp, z_dup, z_pop, z_dup2, z_goto, z_tsw, z_cases, z_geti, z_getr, z_puti, z_putz, z_ald, z_iast, z_bast, z_zast, z_alen, z_acopy, z_mmax, z_mmin, z_mabs, z_mabsL, z_iret, z_zret, z_nret, z_lret, z_aret, z_vret, z_cat, z_ldcs, z_strv, z_strc, z_gcs, z_gfm, z_sln, z_sald, z_ifeq, z_ifne, z_iflt, z_ifge, z_ifgt, z_ifle, z_iceq, z_icne, z_iclt, z_icge, z_icgt, z_icle, z_cs0, z_cs1, z_cs2, z_cs3, z_cs4, z_cs5, z_cs6, z_cs7, z_cv0, z_cv1, z_cv2, z_cv3, z_cv4, z_cv5, z_cv6, z_cv7, z_g0, z_s0, z_g1, z_s1, z_g2, z_s2, z_g3, z_s3, z_g4, z_s4, z_g5, z_s5, z_g6, z_s6, z_g7, z_s7, z_g8, z_s8, z_g9, z_s9, z_g10, z_s10, z_g11, z_s11, z_g12, z_s12, z_g13, z_s13, z_b0, z_b1, z_b0n, z_b1n, z_up_far1, z_up_far2, z_up_far3, z_up_far4, z_up_far5, z_up_far6, Classical.not_not, not_true_eq_false, z_in, z_inL, Int.cast_ofNat_Int, Nat.reduceLeDiff, List.length_cons, List.length_nil, Nat.reduceAdd, Nat.zero_add, Nat.le_refl, true_and, and_true, List.length, Nat.reduceLT, true_or, or_true, false_or, or_false, false_and, and_false, not_true_eq_false, not_false_eq_true, forall_const, false_implies, true_implies, Int.reduceEq, Int.reduceLT, Int.reduceLE, Int.reduceAdd, Int.reduceSub, Int.reduceMul, Int.reduceNeg, Int.reduceToNat, Int.toNat_natCast, ↓reduceIte, reduceIte, Nat.reduceEqDiff, Nat.reduceSub, Nat.reduceMul, ne_eq, Int.zero_add, Int.add_zero, Int.sub_zero, Nat.add_zero, Int.ofNat_eq_natCast, tX5_isThere_0, SX5_isRow]
  simp only [SX5_isThere] at h
  repeat' (first | (intro _) | (with_reducible assumption) | (refine And.intro ?_ ?_))
  all_goals first | omega | assumption | (refine z_fin h ?_ rfl; first | rfl | omega | (split <;> omega) | (split <;> split <;> omega)) | skip
theorem dX5_isThere_0 : decode cX5_isThere 0 = .ok (.iload_n 1, 1) := by decide +kernel
theorem dX5_isThere_1 : decode cX5_isThere 1 = .ok (.invokestatic 23, 3) := by decide +kernel
theorem dX5_isThere_4 : decode cX5_isThere 4 = .ok (.ifCond .eq 16, 3) := by decide +kernel
theorem dX5_isThere_7 : decode cX5_isThere 7 = .ok (.aload_n 0, 1) := by decide +kernel
theorem dX5_isThere_8 : decode cX5_isThere 8 = .ok (.getfield 9, 3) := by decide +kernel
theorem dX5_isThere_11 : decode cX5_isThere 11 = .ok (.iload_n 1, 1) := by decide +kernel
theorem dX5_isThere_12 : decode cX5_isThere 12 = .ok (.baload, 1) := by decide +kernel
theorem dX5_isThere_13 : decode cX5_isThere 13 = .ok (.ifCond .eq 7, 3) := by decide +kernel
theorem dX5_isThere_16 : decode cX5_isThere 16 = .ok (.iconst 1, 1) := by decide +kernel
theorem dX5_isThere_17 : decode cX5_isThere 17 = .ok (.goto 4, 3) := by decide +kernel
theorem dX5_isThere_20 : decode cX5_isThere 20 = .ok (.iconst 0, 1) := by decide +kernel
theorem dX5_isThere_21 : decode cX5_isThere 21 = .ok (.ireturn, 1) := by decide +kernel
set_option maxRecDepth 100000 in
theorem rX5_isThere_0 {p : Program} {l : Launch} {e : Env} {s : State} {m : MethodId} {args : Array Value} {below : List Frame} {meth : Method} {c : Code} {D : va_G} {cA : Nat → ClassId} {ad : Nat → Nat} {Ret : zR} (C : z_Cx p { frames := 1, cells := 0, slots := 0, locals := 20 } s m args c cX5_isThere yX5_isThere.cls 2 D cA ad) (hr : meth.sig.returnType = (some .boolean)) (hlocks : meth.locks = false) : ∀ L st σ, tX5_isThere_0 (z_X p l e { frames := 1, cells := 0, slots := 0, locals := 20 } s m args below meth c (MQ below (z_Qc D cA ad Ret) args s 0 0 (z_A ad)) 2 D cA ad true) Ret L st σ → z_X p l e { frames := 1, cells := 0, slots := 0, locals := 20 } s m args below meth c (MQ below (z_Qc D cA ad Ret) args s 0 0 (z_A ad)) 2 D cA ad true 0 L st σ := (s_iload_n C dX5_isThere_0 rfl (s_cs1 C dX5_isThere_1 (okX5_isRow l) wd_414 wd_402 wd_77 wd_403 ⟨by decide, by decide, by decide +kernel⟩ ⟨by decide, by decide⟩ (s_ifeq C dX5_isThere_4 (by decide) (s_iconst C dX5_isThere_20 rfl ⟨by decide, by decide⟩ (s_zret C dX5_isThere_21 hr ⟨rfl, rfl⟩ hlocks)) (s_aload_n C dX5_isThere_7 rfl (s_getr C dX5_isThere_8 (j := 0) cls_X5 (by decide) rfl (by decide) (by decide) (by decide +kernel) wd_139 (s_iload_n C dX5_isThere_11 rfl (s_zald C dX5_isThere_12 (s_ifeq C dX5_isThere_13 (by decide) (s_iconst C dX5_isThere_20 rfl ⟨by decide, by decide⟩ (s_zret C dX5_isThere_21 hr ⟨rfl, rfl⟩ hlocks)) (s_iconst C dX5_isThere_16 rfl ⟨by decide, by decide⟩ (s_goto C dX5_isThere_17 (by decide) (s_zret C dX5_isThere_21 hr ⟨rfl, rfl⟩ hlocks)))))))))))
theorem okX5_isThere (l : Launch) : z_OK l yX5_isThere cX5_isThere 2 (some .boolean) 1 20 SX5_isThere := by
  refine z_ok_of true (by decide +kernel) ?_ ?_
  · intro as σ Ret h
    obtain ⟨k0, x1, rfl⟩ := pX5_isThere h
    exact ⟨Nat.le_of_ble_eq_true rfl, by simp⟩
  · intro p e s m args below meth c D cA ad Ret C hr hlocks as σ has hσ h
    obtain ⟨k0, x1, rfl⟩ := pX5_isThere h
    exact vX5_isThere (rX5_isThere_0 C hr hlocks) k0 x1 σ (has _ (List.mem_of_getElem? (i := 0) rfl)) (has _ (List.mem_of_getElem? (i := 1) rfl)) hσ h
def SX5_areAlike : zS := fun as σ Ret => match as with
  | [.inr (.inr (5, 0, k)), .inl a, .inl b] => Ret (some (.inl (if ((0 ≤ a ∧ a < 8) ∧ ¬ σ (k + 1) a.toNat = 0) ∧ ((0 ≤ b ∧ b < 8) ∧ ¬ σ (k + 1) b.toNat = 0) ∧ σ (k + 2) a.toNat = σ (k + 2) b.toNat then 1 else 0))) σ
  | _ => False
def tX5_areAlike_0 (X : Nat → zB) (Ret : zR) (L : zL) (st : List zV) (σ : zM) : Prop := (z_aload 0 (z_iload 1 (z_cv1 5 SX5_isThere (z_ifeq (z_push 0 (z_zret Ret)) (z_aload 0 (z_iload 2 (z_cv1 5 SX5_isThere (z_ifeq (z_push 0 (z_zret Ret)) (z_aload 0 (z_getr 5 2 100 8 (z_iload 1 (z_ald 0 (z_aload 0 (z_getr 5 2 100 8 (z_iload 2 (z_ald 0 (z_icne (z_push 0 (z_zret Ret)) (z_push 1 (z_goto (z_zret Ret)))))))))))))))))))) L st σ
theorem pX5_areAlike {as : List zV} {σ : zM} {Ret : zR} (h : SX5_areAlike as σ Ret) : ∃ (k0 : Nat) (x1 : Int) (x2 : Int), as = [.inr (.inr (5, 0, k0)), .inl x1, .inl x2] := by
  unfold SX5_areAlike at h
  split at h
  · exact ⟨_, _, _, rfl⟩
  · exact h.elim
set_option maxRecDepth 10000 in
set_option maxHeartbeats 4000000 in
theorem vX5_areAlike {X : Nat → zB} {Ret : zR} (h0 : ∀ L st σ, tX5_areAlike_0 X Ret L st σ → X 0 L st σ) (k0 : Nat) (x1 : Int) (x2 : Int) (σ : zM) (hk0 : z_kd k0 = (5, 0)) (hx1 : -2147483648 ≤ x1 ∧ x1 ≤ 2147483647) (hx2 : -2147483648 ≤ x2 ∧ x2 ≤ 2147483647) (hσ : z_okm σ) (h : SX5_areAlike [.inr (.inr (5, 0, k0)), .inl x1, .inl x2] σ Ret) : X 0 [some (.inr (.inr (5, 0, k0))), some (.inl x1), some (.inl x2)] [] σ := by
  refine h0 _ _ _ ?_
  simp only [SX5_areAlike] at h
  simp only [z_push, z_lpush, z_iload, z_lload, z_aload, z_istore, z_istoreP, z_lstore, z_astore, z_iinc, z_iincP, z_iadd, z_isub, z_imul, z_iaddW, z_isubW, z_imulW, z_idiv, z_irem, z_iand, z_ior, z_ixor, z_ishl, z_ishr, z_iushr, z_ineg, z_i2l, z_i2b, z_i2s, z_i2c, z_l2i, z_ladd, z_lsub, z_land, z_lor, z_lshl, z_lshr, z_lcmp, z_dup, z_pop, z_dup2, z_goto, z_tsw, z_cases, z_geti, z_getr, z_puti, z_putz, z_ald, z_iast, z_bast, z_zast, z_alen, z_acopy, z_mmax, z_mmin, z_mabs, z_mabsL, z_iret, z_zret, z_nret, z_lret, z_aret, z_vret, z_cat, z_ldcs, z_strv, z_strc, z_gcs, z_gfm, z_sln, z_sald, z_ifeq, z_ifne, z_iflt, z_ifge, z_ifgt, z_ifle, z_iceq, z_icne, z_iclt, z_icge, z_icgt, z_icle, z_cs0, z_cs1, z_cs2, z_cs3, z_cs4, z_cs5, z_cs6, z_cs7, z_cv0, z_cv1, z_cv2, z_cv3, z_cv4, z_cv5, z_cv6, z_cv7, z_g0, z_s0, z_g1, z_s1, z_g2, z_s2, z_g3, z_s3, z_g4, z_s4, z_g5, z_s5, z_g6, z_s6, z_g7, z_s7, z_g8, z_s8, z_g9, z_s9, z_g10, z_s10, z_g11, z_s11, z_g12, z_s12, z_g13, z_s13, z_b0, z_b1, z_b0n, z_b1n, z_up_far1, z_up_far2, z_up_far3, z_up_far4, z_up_far5, z_up_far6, Classical.not_not, not_true_eq_false, z_in, z_inL, Int.cast_ofNat_Int, Nat.reduceLeDiff, List.length_cons, List.length_nil, Nat.reduceAdd, Nat.zero_add, Nat.le_refl, true_and, and_true, List.length, Nat.reduceLT, true_or, or_true, false_or, or_false, false_and, and_false, not_true_eq_false, not_false_eq_true, forall_const, false_implies, true_implies, Int.reduceEq, Int.reduceLT, Int.reduceLE, Int.reduceAdd, Int.reduceSub, Int.reduceMul, Int.reduceNeg, Int.reduceToNat, Int.toNat_natCast, ↓reduceIte, reduceIte, Nat.reduceEqDiff, Nat.reduceSub, Nat.reduceMul, ne_eq, Int.zero_add, Int.add_zero, Int.sub_zero, Nat.add_zero, Int.ofNat_eq_natCast, tX5_areAlike_0, SX5_isThere]
  repeat' (first | (intro _) | (with_reducible assumption) | (refine And.intro ?_ ?_))
  all_goals first | omega | assumption | (refine z_fin h ?_ rfl; first | rfl | omega | (split <;> omega) | (split <;> split <;> omega)) | skip
theorem dX5_areAlike_0 : decode cX5_areAlike 0 = .ok (.aload_n 0, 1) := by decide +kernel
theorem dX5_areAlike_1 : decode cX5_areAlike 1 = .ok (.iload_n 1, 1) := by decide +kernel
theorem dX5_areAlike_2 : decode cX5_areAlike 2 = .ok (.invokevirtual 27, 3) := by decide +kernel
theorem dX5_areAlike_5 : decode cX5_areAlike 5 = .ok (.ifCond .eq 30, 3) := by decide +kernel
theorem dX5_areAlike_8 : decode cX5_areAlike 8 = .ok (.aload_n 0, 1) := by decide +kernel
theorem dX5_areAlike_9 : decode cX5_areAlike 9 = .ok (.iload_n 2, 1) := by decide +kernel
theorem dX5_areAlike_10 : decode cX5_areAlike 10 = .ok (.invokevirtual 27, 3) := by decide +kernel
theorem dX5_areAlike_13 : decode cX5_areAlike 13 = .ok (.ifCond .eq 22, 3) := by decide +kernel
theorem dX5_areAlike_16 : decode cX5_areAlike 16 = .ok (.aload_n 0, 1) := by decide +kernel
theorem dX5_areAlike_17 : decode cX5_areAlike 17 = .ok (.getfield 13, 3) := by decide +kernel
theorem dX5_areAlike_20 : decode cX5_areAlike 20 = .ok (.iload_n 1, 1) := by decide +kernel
theorem dX5_areAlike_21 : decode cX5_areAlike 21 = .ok (.iaload, 1) := by decide +kernel
theorem dX5_areAlike_22 : decode cX5_areAlike 22 = .ok (.aload_n 0, 1) := by decide +kernel
theorem dX5_areAlike_23 : decode cX5_areAlike 23 = .ok (.getfield 13, 3) := by decide +kernel
theorem dX5_areAlike_26 : decode cX5_areAlike 26 = .ok (.iload_n 2, 1) := by decide +kernel
theorem dX5_areAlike_27 : decode cX5_areAlike 27 = .ok (.iaload, 1) := by decide +kernel
theorem dX5_areAlike_28 : decode cX5_areAlike 28 = .ok (.if_icmp .ne 7, 3) := by decide +kernel
theorem dX5_areAlike_31 : decode cX5_areAlike 31 = .ok (.iconst 1, 1) := by decide +kernel
theorem dX5_areAlike_32 : decode cX5_areAlike 32 = .ok (.goto 4, 3) := by decide +kernel
theorem dX5_areAlike_35 : decode cX5_areAlike 35 = .ok (.iconst 0, 1) := by decide +kernel
theorem dX5_areAlike_36 : decode cX5_areAlike 36 = .ok (.ireturn, 1) := by decide +kernel
set_option maxRecDepth 100000 in
theorem rX5_areAlike_0 {p : Program} {l : Launch} {e : Env} {s : State} {m : MethodId} {args : Array Value} {below : List Frame} {meth : Method} {c : Code} {D : va_G} {cA : Nat → ClassId} {ad : Nat → Nat} {Ret : zR} (C : z_Cx p { frames := 2, cells := 0, slots := 0, locals := 41 } s m args c cX5_areAlike yX5_areAlike.cls 3 D cA ad) (hr : meth.sig.returnType = (some .boolean)) (hlocks : meth.locks = false) : ∀ L st σ, tX5_areAlike_0 (z_X p l e { frames := 2, cells := 0, slots := 0, locals := 41 } s m args below meth c (MQ below (z_Qc D cA ad Ret) args s 0 0 (z_A ad)) 3 D cA ad true) Ret L st σ → z_X p l e { frames := 2, cells := 0, slots := 0, locals := 41 } s m args below meth c (MQ below (z_Qc D cA ad Ret) args s 0 0 (z_A ad)) 3 D cA ad true 0 L st σ := (s_aload_n C dX5_areAlike_0 rfl (s_iload_n C dX5_areAlike_1 rfl (s_cv1 C dX5_areAlike_2 (okX5_isThere l) cls_X5 wd_431 wd_424 wd_425 wd_77 wd_426 ⟨by decide, by decide, by decide +kernel⟩ ⟨by decide, by decide⟩ (s_ifeq C dX5_areAlike_5 (by decide) (s_iconst C dX5_areAlike_35 rfl ⟨by decide, by decide⟩ (s_zret C dX5_areAlike_36 hr ⟨rfl, rfl⟩ hlocks)) (s_aload_n C dX5_areAlike_8 rfl (s_iload_n C dX5_areAlike_9 rfl (s_cv1 C dX5_areAlike_10 (okX5_isThere l) cls_X5 wd_431 wd_424 wd_425 wd_77 wd_426 ⟨by decide, by decide, by decide +kernel⟩ ⟨by decide, by decide⟩ (s_ifeq C dX5_areAlike_13 (by decide) (s_iconst C dX5_areAlike_35 rfl ⟨by decide, by decide⟩ (s_zret C dX5_areAlike_36 hr ⟨rfl, rfl⟩ hlocks)) (s_aload_n C dX5_areAlike_16 rfl (s_getr C dX5_areAlike_17 (j := 1) cls_X5 (by decide) rfl (by decide) (by decide) (by decide +kernel) wd_140 (s_iload_n C dX5_areAlike_20 rfl (s_iald C dX5_areAlike_21 (s_aload_n C dX5_areAlike_22 rfl (s_getr C dX5_areAlike_23 (j := 1) cls_X5 (by decide) rfl (by decide) (by decide) (by decide +kernel) wd_140 (s_iload_n C dX5_areAlike_26 rfl (s_iald C dX5_areAlike_27 (s_icne C dX5_areAlike_28 (by decide) (s_iconst C dX5_areAlike_35 rfl ⟨by decide, by decide⟩ (s_zret C dX5_areAlike_36 hr ⟨rfl, rfl⟩ hlocks)) (s_iconst C dX5_areAlike_31 rfl ⟨by decide, by decide⟩ (s_goto C dX5_areAlike_32 (by decide) (s_zret C dX5_areAlike_36 hr ⟨rfl, rfl⟩ hlocks))))))))))))))))))))
theorem okX5_areAlike (l : Launch) : z_OK l yX5_areAlike cX5_areAlike 3 (some .boolean) 2 41 SX5_areAlike := by
  refine z_ok_of true (by decide +kernel) ?_ ?_
  · intro as σ Ret h
    obtain ⟨k0, x1, x2, rfl⟩ := pX5_areAlike h
    exact ⟨Nat.le_of_ble_eq_true rfl, by simp⟩
  · intro p e s m args below meth c D cA ad Ret C hr hlocks as σ has hσ h
    obtain ⟨k0, x1, x2, rfl⟩ := pX5_areAlike h
    exact vX5_areAlike (rX5_areAlike_0 C hr hlocks) k0 x1 x2 σ (has _ (List.mem_of_getElem? (i := 0) rfl)) (has _ (List.mem_of_getElem? (i := 1) rfl)) (has _ (List.mem_of_getElem? (i := 2) rfl)) hσ h
def SX5_hasPlaces : zS := fun as σ Ret => match as with
  | [.inr (.inr (5, 0, k)), .inl r, .inl i, .inl n] => Ret (some (.inl (if ((0 ≤ r ∧ r < 8) ∧ ¬ σ (k + 1) r.toNat = 0) ∧ 0 ≤ i ∧ 0 ≤ n ∧ i ≤ σ (k + 3) r.toNat ∧ n ≤ σ (k + 3) r.toNat - i then 1 else 0))) σ
  | _ => False
def tX5_hasPlaces_0 (X : Nat → zB) (Ret : zR) (L : zL) (st : List zV) (σ : zM) : Prop := (z_aload 0 (z_iload 1 (z_cv1 5 SX5_isThere (z_ifeq (z_push 0 (z_zret Ret)) (z_iload 2 (z_iflt (z_push 0 (z_zret Ret)) (z_iload 3 (z_iflt (z_push 0 (z_zret Ret)) (z_iload 2 (z_aload 0 (z_getr 5 3 100 8 (z_iload 1 (z_ald 0 (z_icgt (z_push 0 (z_zret Ret)) (z_iload 3 (z_aload 0 (z_getr 5 3 100 8 (z_iload 1 (z_ald 0 (z_iload 2 (z_isub (z_icgt (z_push 0 (z_zret Ret)) (z_push 1 (z_goto (z_zret Ret))))))))))))))))))))))))) L st σ
theorem pX5_hasPlaces {as : List zV} {σ : zM} {Ret : zR} (h : SX5_hasPlaces as σ Ret) : ∃ (k0 : Nat) (x1 : Int) (x2 : Int) (x3 : Int), as = [.inr (.inr (5, 0, k0)), .inl x1, .inl x2, .inl x3] := by
  unfold SX5_hasPlaces at h
  split at h
  · exact ⟨_, _, _, _, rfl⟩
  · exact h.elim
set_option maxRecDepth 10000 in
set_option maxHeartbeats 4000000 in
theorem vX5_hasPlaces {X : Nat → zB} {Ret : zR} (h0 : ∀ L st σ, tX5_hasPlaces_0 X Ret L st σ → X 0 L st σ) (k0 : Nat) (x1 : Int) (x2 : Int) (x3 : Int) (σ : zM) (hk0 : z_kd k0 = (5, 0)) (hx1 : -2147483648 ≤ x1 ∧ x1 ≤ 2147483647) (hx2 : -2147483648 ≤ x2 ∧ x2 ≤ 2147483647) (hx3 : -2147483648 ≤ x3 ∧ x3 ≤ 2147483647) (hσ : z_okm σ) (h : SX5_hasPlaces [.inr (.inr (5, 0, k0)), .inl x1, .inl x2, .inl x3] σ Ret) : X 0 [some (.inr (.inr (5, 0, k0))), some (.inl x1), some (.inl x2), some (.inl x3)] [] σ := by
  refine h0 _ _ _ ?_
  simp only [SX5_hasPlaces] at h
  simp only [z_push, z_lpush, z_iload, z_lload, z_aload, z_istore, z_istoreP, z_lstore, z_astore, z_iinc, z_iincP, z_iadd, z_isub, z_imul, z_iaddW, z_isubW, z_imulW, z_idiv, z_irem, z_iand, z_ior, z_ixor, z_ishl, z_ishr, z_iushr, z_ineg, z_i2l, z_i2b, z_i2s, z_i2c, z_l2i, z_ladd, z_lsub, z_land, z_lor, z_lshl, z_lshr, z_lcmp, z_dup, z_pop, z_dup2, z_goto, z_tsw, z_cases, z_geti, z_getr, z_puti, z_putz, z_ald, z_iast, z_bast, z_zast, z_alen, z_acopy, z_mmax, z_mmin, z_mabs, z_mabsL, z_iret, z_zret, z_nret, z_lret, z_aret, z_vret, z_cat, z_ldcs, z_strv, z_strc, z_gcs, z_gfm, z_sln, z_sald, z_ifeq, z_ifne, z_iflt, z_ifge, z_ifgt, z_ifle, z_iceq, z_icne, z_iclt, z_icge, z_icgt, z_icle, z_cs0, z_cs1, z_cs2, z_cs3, z_cs4, z_cs5, z_cs6, z_cs7, z_cv0, z_cv1, z_cv2, z_cv3, z_cv4, z_cv5, z_cv6, z_cv7, z_g0, z_s0, z_g1, z_s1, z_g2, z_s2, z_g3, z_s3, z_g4, z_s4, z_g5, z_s5, z_g6, z_s6, z_g7, z_s7, z_g8, z_s8, z_g9, z_s9, z_g10, z_s10, z_g11, z_s11, z_g12, z_s12, z_g13, z_s13, z_b0, z_b1, z_b0n, z_b1n, z_up_far1, z_up_far2, z_up_far3, z_up_far4, z_up_far5, z_up_far6, Classical.not_not, not_true_eq_false, z_in, z_inL, Int.cast_ofNat_Int, Nat.reduceLeDiff, List.length_cons, List.length_nil, Nat.reduceAdd, Nat.zero_add, Nat.le_refl, true_and, and_true, List.length, Nat.reduceLT, true_or, or_true, false_or, or_false, false_and, and_false, not_true_eq_false, not_false_eq_true, forall_const, false_implies, true_implies, Int.reduceEq, Int.reduceLT, Int.reduceLE, Int.reduceAdd, Int.reduceSub, Int.reduceMul, Int.reduceNeg, Int.reduceToNat, Int.toNat_natCast, ↓reduceIte, reduceIte, Nat.reduceEqDiff, Nat.reduceSub, Nat.reduceMul, ne_eq, Int.zero_add, Int.add_zero, Int.sub_zero, Nat.add_zero, Int.ofNat_eq_natCast, tX5_hasPlaces_0, SX5_isThere]
  repeat' (first | (intro _) | (with_reducible assumption) | (refine And.intro ?_ ?_))
  all_goals first | omega | assumption | (refine z_fin h ?_ rfl; first | rfl | omega | (split <;> omega) | (split <;> split <;> omega)) | skip
theorem dX5_hasPlaces_0 : decode cX5_hasPlaces 0 = .ok (.aload_n 0, 1) := by decide +kernel
theorem dX5_hasPlaces_1 : decode cX5_hasPlaces 1 = .ok (.iload_n 1, 1) := by decide +kernel
theorem dX5_hasPlaces_2 : decode cX5_hasPlaces 2 = .ok (.invokevirtual 27, 3) := by decide +kernel
theorem dX5_hasPlaces_5 : decode cX5_hasPlaces 5 = .ok (.ifCond .eq 37, 3) := by decide +kernel
theorem dX5_hasPlaces_8 : decode cX5_hasPlaces 8 = .ok (.iload_n 2, 1) := by decide +kernel
theorem dX5_hasPlaces_9 : decode cX5_hasPlaces 9 = .ok (.ifCond .lt 33, 3) := by decide +kernel
theorem dX5_hasPlaces_12 : decode cX5_hasPlaces 12 = .ok (.iload_n 3, 1) := by decide +kernel
theorem dX5_hasPlaces_13 : decode cX5_hasPlaces 13 = .ok (.ifCond .lt 29, 3) := by decide +kernel
theorem dX5_hasPlaces_16 : decode cX5_hasPlaces 16 = .ok (.iload_n 2, 1) := by decide +kernel
theorem dX5_hasPlaces_17 : decode cX5_hasPlaces 17 = .ok (.aload_n 0, 1) := by decide +kernel
theorem dX5_hasPlaces_18 : decode cX5_hasPlaces 18 = .ok (.getfield 17, 3) := by decide +kernel
theorem dX5_hasPlaces_21 : decode cX5_hasPlaces 21 = .ok (.iload_n 1, 1) := by decide +kernel
theorem dX5_hasPlaces_22 : decode cX5_hasPlaces 22 = .ok (.iaload, 1) := by decide +kernel
theorem dX5_hasPlaces_23 : decode cX5_hasPlaces 23 = .ok (.if_icmp .gt 19, 3) := by decide +kernel
theorem dX5_hasPlaces_26 : decode cX5_hasPlaces 26 = .ok (.iload_n 3, 1) := by decide +kernel
theorem dX5_hasPlaces_27 : decode cX5_hasPlaces 27 = .ok (.aload_n 0, 1) := by decide +kernel
theorem dX5_hasPlaces_28 : decode cX5_hasPlaces 28 = .ok (.getfield 17, 3) := by decide +kernel
theorem dX5_hasPlaces_31 : decode cX5_hasPlaces 31 = .ok (.iload_n 1, 1) := by decide +kernel
theorem dX5_hasPlaces_32 : decode cX5_hasPlaces 32 = .ok (.iaload, 1) := by decide +kernel
theorem dX5_hasPlaces_33 : decode cX5_hasPlaces 33 = .ok (.iload_n 2, 1) := by decide +kernel
theorem dX5_hasPlaces_34 : decode cX5_hasPlaces 34 = .ok (.isub, 1) := by decide +kernel
theorem dX5_hasPlaces_35 : decode cX5_hasPlaces 35 = .ok (.if_icmp .gt 7, 3) := by decide +kernel
theorem dX5_hasPlaces_38 : decode cX5_hasPlaces 38 = .ok (.iconst 1, 1) := by decide +kernel
theorem dX5_hasPlaces_39 : decode cX5_hasPlaces 39 = .ok (.goto 4, 3) := by decide +kernel
theorem dX5_hasPlaces_42 : decode cX5_hasPlaces 42 = .ok (.iconst 0, 1) := by decide +kernel
theorem dX5_hasPlaces_43 : decode cX5_hasPlaces 43 = .ok (.ireturn, 1) := by decide +kernel
set_option maxRecDepth 100000 in
theorem rX5_hasPlaces_0 {p : Program} {l : Launch} {e : Env} {s : State} {m : MethodId} {args : Array Value} {below : List Frame} {meth : Method} {c : Code} {D : va_G} {cA : Nat → ClassId} {ad : Nat → Nat} {Ret : zR} (C : z_Cx p { frames := 2, cells := 0, slots := 0, locals := 41 } s m args c cX5_hasPlaces yX5_hasPlaces.cls 4 D cA ad) (hr : meth.sig.returnType = (some .boolean)) (hlocks : meth.locks = false) : ∀ L st σ, tX5_hasPlaces_0 (z_X p l e { frames := 2, cells := 0, slots := 0, locals := 41 } s m args below meth c (MQ below (z_Qc D cA ad Ret) args s 0 0 (z_A ad)) 4 D cA ad true) Ret L st σ → z_X p l e { frames := 2, cells := 0, slots := 0, locals := 41 } s m args below meth c (MQ below (z_Qc D cA ad Ret) args s 0 0 (z_A ad)) 4 D cA ad true 0 L st σ := (s_aload_n C dX5_hasPlaces_0 rfl (s_iload_n C dX5_hasPlaces_1 rfl (s_cv1 C dX5_hasPlaces_2 (okX5_isThere l) cls_X5 wd_431 wd_424 wd_425 wd_77 wd_426 ⟨by decide, by decide, by decide +kernel⟩ ⟨by decide, by decide⟩ (s_ifeq C dX5_hasPlaces_5 (by decide) (s_iconst C dX5_hasPlaces_42 rfl ⟨by decide, by decide⟩ (s_zret C dX5_hasPlaces_43 hr ⟨rfl, rfl⟩ hlocks)) (s_iload_n C dX5_hasPlaces_8 rfl (s_iflt C dX5_hasPlaces_9 (by decide) (s_iconst C dX5_hasPlaces_42 rfl ⟨by decide, by decide⟩ (s_zret C dX5_hasPlaces_43 hr ⟨rfl, rfl⟩ hlocks)) (s_iload_n C dX5_hasPlaces_12 rfl (s_iflt C dX5_hasPlaces_13 (by decide) (s_iconst C dX5_hasPlaces_42 rfl ⟨by decide, by decide⟩ (s_zret C dX5_hasPlaces_43 hr ⟨rfl, rfl⟩ hlocks)) (s_iload_n C dX5_hasPlaces_16 rfl (s_aload_n C dX5_hasPlaces_17 rfl (s_getr C dX5_hasPlaces_18 (j := 2) cls_X5 (by decide) rfl (by decide) (by decide) (by decide +kernel) wd_141 (s_iload_n C dX5_hasPlaces_21 rfl (s_iald C dX5_hasPlaces_22 (s_icgt C dX5_hasPlaces_23 (by decide) (s_iconst C dX5_hasPlaces_42 rfl ⟨by decide, by decide⟩ (s_zret C dX5_hasPlaces_43 hr ⟨rfl, rfl⟩ hlocks)) (s_iload_n C dX5_hasPlaces_26 rfl (s_aload_n C dX5_hasPlaces_27 rfl (s_getr C dX5_hasPlaces_28 (j := 2) cls_X5 (by decide) rfl (by decide) (by decide) (by decide +kernel) wd_141 (s_iload_n C dX5_hasPlaces_31 rfl (s_iald C dX5_hasPlaces_32 (s_iload_n C dX5_hasPlaces_33 rfl (s_isub C dX5_hasPlaces_34 (s_icgt C dX5_hasPlaces_35 (by decide) (s_iconst C dX5_hasPlaces_42 rfl ⟨by decide, by decide⟩ (s_zret C dX5_hasPlaces_43 hr ⟨rfl, rfl⟩ hlocks)) (s_iconst C dX5_hasPlaces_38 rfl ⟨by decide, by decide⟩ (s_goto C dX5_hasPlaces_39 (by decide) (s_zret C dX5_hasPlaces_43 hr ⟨rfl, rfl⟩ hlocks)))))))))))))))))))))))))
theorem okX5_hasPlaces (l : Launch) : z_OK l yX5_hasPlaces cX5_hasPlaces 4 (some .boolean) 2 41 SX5_hasPlaces := by
  refine z_ok_of true (by decide +kernel) ?_ ?_
  · intro as σ Ret h
    obtain ⟨k0, x1, x2, x3, rfl⟩ := pX5_hasPlaces h
    exact ⟨Nat.le_of_ble_eq_true rfl, by simp⟩
  · intro p e s m args below meth c D cA ad Ret C hr hlocks as σ has hσ h
    obtain ⟨k0, x1, x2, x3, rfl⟩ := pX5_hasPlaces h
    exact vX5_hasPlaces (rX5_hasPlaces_0 C hr hlocks) k0 x1 x2 x3 σ (has _ (List.mem_of_getElem? (i := 0) rfl)) (has _ (List.mem_of_getElem? (i := 1) rfl)) (has _ (List.mem_of_getElem? (i := 2) rfl)) (has _ (List.mem_of_getElem? (i := 3) rfl)) hσ h
def SX5_make : zS := fun as σ Ret => match as with
  | [.inr (.inr (5, 0, k)), .inl r, .inl l, .inl n] => ((0 ≤ r ∧ r < 8) ∧ 0 ≤ n ∧ n ≤ 40) ∧ Ret none (z_fill (z_up (z_up (z_up σ (k + 1) r.toNat 1) (k + 2) r.toNat l) (k + 3) r.toNat n) (k + 4) (40 * r.toNat) n.toNat 0)
  | _ => False
def tX5_make_0 (X : Nat → zB) (Ret : zR) (L : zL) (st : List zV) (σ : zM) : Prop := (z_iload 1 (z_cs1 SX5_isRow (z_ifeq (z_vret Ret) (z_iload 3 (z_iflt (z_vret Ret) (z_iload 3 (z_push 40 (z_icle (z_aload 0 (z_getr 5 1 102 8 (z_iload 1 (z_push 1 (z_zast (z_aload 0 (z_getr 5 2 100 8 (z_iload 1 (z_iload 2 (z_iast (z_aload 0 (z_getr 5 3 100 8 (z_iload 1 (z_iload 3 (z_iast (z_push 0 (z_istore 4 (X 42)))))))))))))))))) (z_vret Ret))))))))) L st σ
def tX5_make_42 (X : Nat → zB) (Ret : zR) (L : zL) (st : List zV) (σ : zM) : Prop := (z_iload 4 (z_iload 3 (z_icge (z_vret Ret) (z_aload 0 (z_getr 5 4 100 320 (z_iload 1 (z_push 40 (z_imul (z_iload 4 (z_iadd (z_push 0 (z_iast (z_iinc 4 1 (z_goto (X 42))))))))))))))) L st σ
theorem pX5_make {as : List zV} {σ : zM} {Ret : zR} (h : SX5_make as σ Ret) : ∃ (k0 : Nat) (x1 : Int) (x2 : Int) (x3 : Int), as = [.inr (.inr (5, 0, k0)), .inl x1, .inl x2, .inl x3] := by
  unfold SX5_make at h
  split at h
  · exact ⟨_, _, _, _, rfl⟩
  · exact h.elim
set_option maxRecDepth 10000 in
set_option maxHeartbeats 4000000 in
theorem vX5_make {X : Nat → zB} {Ret : zR} (h0 : ∀ L st σ, tX5_make_0 X Ret L st σ → X 0 L st σ) (h42 : ∀ L st σ, tX5_make_42 X Ret L st σ → X 42 L st σ) (k0 : Nat) (x1 : Int) (x2 : Int) (x3 : Int) (σ : zM) (hk0 : z_kd k0 = (5, 0)) (hx1 : -2147483648 ≤ x1 ∧ x1 ≤ 2147483647) (hx2 : -2147483648 ≤ x2 ∧ x2 ≤ 2147483647) (hx3 : -2147483648 ≤ x3 ∧ x3 ≤ 2147483647) (hσ : z_okm σ) (h : SX5_make [.inr (.inr (5, 0, k0)), .inl x1, .inl x2, .inl x3] σ Ret) : X 0 [some (.inr (.inr (5, 0, k0))), some (.inl x1), some (.inl x2), some (.inl x3), none] [] σ := by
  obtain ⟨⟨hr, hn0, hn4⟩, h⟩ := h
  obtain ⟨r, rfl⟩ := z_nat hr.1
  obtain ⟨n, rfl⟩ := z_nat hn0
  generalize hτ : z_up (z_up (z_up σ (k0 + 1) r 1) (k0 + 2) r x2) (k0 + 3) r n = τ
  have h : Ret none (z_fill τ (k0 + 4) (40 * r) n 0) := by rw [← hτ]; exact h
  have loop : ∀ (d i : Nat), i + d = n → X 42 [some (.inr (.inr (5, 0, k0))), some (.inl (r : Int)), some (.inl x2), some (.inl (n : Int)), some (.inl (i : Int))] [] (z_fill τ (k0 + 4) (40 * r) i 0) := by
    intro d
    induction d with
    | zero =>
      intro i hi
      refine h42 _ _ _ ?_
      simp only [z_push, z_lpush, z_iload, z_lload, z_aload, z_istore, z_istoreP, z_lstore, z_astore, z_iinc, z_iincP, z_iadd, z_isub, z_imul, z_iaddW, z_isubW, z_imulW, z_idiv, z_irem, z_iand, z_ior, z_ixor, z_ishl, z_ishr, z_iushr, z_ineg, z_i2l, z_i2b, z_i2s, z_i2c, z_l2i, z_ladd, z_lsub, z_land, z_lor, z_lshl, z_lshr, z_lcmp, z_dup, z_pop, z_dup2, z_goto, z_tsw, z_cases, z_geti, z_getr, z_puti, z_putz, z_ald, z_iast, z_bast, z_zast, z_alen, z_acopy, z_mmax, z_mmin, z_mabs, z_mabsL, z_iret, z_zret, z_nret, z_lret, z_aret, z_vret, z_cat, z_ldcs, z_strv, z_strc, z_gcs, z_gfm, z_sln, z_sald, z_ifeq, z_ifne, z_iflt, z_ifge, z_ifgt, z_ifle, z_iceq, z_icne, z_iclt, z_icge, z_icgt, z_icle, z_cs0, z_cs1, z_cs2, z_cs3, z_cs4, z_cs5, z_cs6, z_cs7, z_cv0, z_cv1, z_cv2, z_cv3, z_cv4, z_cv5, z_cv6, z_cv7, z_g0, z_s0, z_g1, z_s1, z_g2, z_s2, z_g3, z_s3, z_g4, z_s4, z_g5, z_s5, z_g6, z_s6, z_g7, z_s7, z_g8, z_s8, z_g9, z_s9, z_g10, z_s10, z_g11, z_s11, z_g12, z_s12, z_g13, z_s13, z_b0, z_b1, z_b0n, z_b1n, z_up_far1, z_up_far2, z_up_far3, z_up_far4, z_up_far5, z_up_far6, Classical.not_not, not_true_eq_false, z_in, z_inL, Int.cast_ofNat_Int, Nat.reduceLeDiff, List.length_cons, List.length_nil, Nat.reduceAdd, Nat.zero_add, Nat.le_refl, true_and, and_true, List.length, Nat.reduceLT, true_or, or_true, false_or, or_false, false_and, and_false, not_true_eq_false, not_false_eq_true, forall_const, false_implies, true_implies, Int.reduceEq, Int.reduceLT, Int.reduceLE, Int.reduceAdd, Int.reduceSub, Int.reduceMul, Int.reduceNeg, Int.reduceToNat, Int.toNat_natCast, ↓reduceIte, reduceIte, Nat.reduceEqDiff, Nat.reduceSub, Nat.reduceMul, ne_eq, Int.zero_add, Int.add_zero, Int.sub_zero, Nat.add_zero, Int.ofNat_eq_natCast, tX5_make_42]
      have e : i = n := by omega
      subst e
      repeat' (first | (intro _) | (with_reducible assumption) | (refine And.intro ?_ ?_))
      all_goals first | omega | assumption | (refine z_fin h ?_ rfl; first | rfl | omega | (split <;> omega) | (split <;> split <;> omega)) | skip
    | succ d ih =>
      intro i hi
      refine h42 _ _ _ ?_
      simp only [z_push, z_lpush, z_iload, z_lload, z_aload, z_istore, z_istoreP, z_lstore, z_astore, z_iinc, z_iincP, z_iadd, z_isub, z_imul, z_iaddW, z_isubW, z_imulW, z_idiv, z_irem, z_iand, z_ior, z_ixor, z_ishl, z_ishr, z_iushr, z_ineg, z_i2l, z_i2b, z_i2s, z_i2c, z_l2i, z_ladd, z_lsub, z_land, z_lor, z_lshl, z_lshr, z_lcmp, z_dup, z_pop, z_dup2, z_goto, z_tsw, z_cases, z_geti, z_getr, z_puti, z_putz, z_ald, z_iast, z_bast, z_zast, z_alen, z_acopy, z_mmax, z_mmin, z_mabs, z_mabsL, z_iret, z_zret, z_nret, z_lret, z_aret, z_vret, z_cat, z_ldcs, z_strv, z_strc, z_gcs, z_gfm, z_sln, z_sald, z_ifeq, z_ifne, z_iflt, z_ifge, z_ifgt, z_ifle, z_iceq, z_icne, z_iclt, z_icge, z_icgt, z_icle, z_cs0, z_cs1, z_cs2, z_cs3, z_cs4, z_cs5, z_cs6, z_cs7, z_cv0, z_cv1, z_cv2, z_cv3, z_cv4, z_cv5, z_cv6, z_cv7, z_g0, z_s0, z_g1, z_s1, z_g2, z_s2, z_g3, z_s3, z_g4, z_s4, z_g5, z_s5, z_g6, z_s6, z_g7, z_s7, z_g8, z_s8, z_g9, z_s9, z_g10, z_s10, z_g11, z_s11, z_g12, z_s12, z_g13, z_s13, z_b0, z_b1, z_b0n, z_b1n, z_up_far1, z_up_far2, z_up_far3, z_up_far4, z_up_far5, z_up_far6, Classical.not_not, not_true_eq_false, z_in, z_inL, Int.cast_ofNat_Int, Nat.reduceLeDiff, List.length_cons, List.length_nil, Nat.reduceAdd, Nat.zero_add, Nat.le_refl, true_and, and_true, List.length, Nat.reduceLT, true_or, or_true, false_or, or_false, false_and, and_false, not_true_eq_false, not_false_eq_true, forall_const, false_implies, true_implies, Int.reduceEq, Int.reduceLT, Int.reduceLE, Int.reduceAdd, Int.reduceSub, Int.reduceMul, Int.reduceNeg, Int.reduceToNat, Int.toNat_natCast, ↓reduceIte, reduceIte, Nat.reduceEqDiff, Nat.reduceSub, Nat.reduceMul, ne_eq, Int.zero_add, Int.add_zero, Int.sub_zero, Nat.add_zero, Int.ofNat_eq_natCast, tX5_make_42]
      repeat' (first | (intro _) | (with_reducible assumption) | (refine And.intro ?_ ?_))
      all_goals first | omega | assumption | (refine z_fin h ?_ rfl; first | rfl | omega | (split <;> omega) | (split <;> split <;> omega)) | skip
      rw [show ((r : Int) * 40 + i).toNat = 40 * r + i by omega, z_fill_S]
      exact ih (i + 1) (by omega)
  have l0 := loop n 0 (by omega)
  rw [z_fill_0, ← hτ] at l0
  refine h0 _ _ _ ?_
  simp only [z_push, z_lpush, z_iload, z_lload, z_aload, z_istore, z_istoreP, z_lstore, z_astore, z_iinc, z_iincP, z_iadd, z_isub, z_imul, z_iaddW, z_isubW, z_imulW, z_idiv, z_irem, z_iand, z_ior, z_ixor, z_ishl, z_ishr, z_iushr, z_ineg, z_i2l, z_i2b, z_i2s, z_i2c, z_l2i, z_ladd, z_lsub, z_land, z_lor, z_lshl, z_lshr, z_lcmp, z_dup, z_pop, z_dup2, z_goto, z_tsw, z_cases, z_geti, z_getr, z_puti, z_putz, z_ald, z_iast, z_bast, z_zast, z_alen, z_acopy, z_mmax, z_mmin, z_mabs, z_mabsL, z_iret, z_zret, z_nret, z_lret, z_aret, z_vret, z_cat, z_ldcs, z_strv, z_strc, z_gcs, z_gfm, z_sln, z_sald, z_ifeq, z_ifne, z_iflt, z_ifge, z_ifgt, z_ifle, z_iceq, z_icne, z_iclt, z_icge, z_icgt, z_icle, z_cs0, z_cs1, z_cs2, z_cs3, z_cs4, z_cs5, z_cs6, z_cs7, z_cv0, z_cv1, z_cv2, z_cv3, z_cv4, z_cv5, z_cv6, z_cv7, z_g0, z_s0, z_g1, z_s1, z_g2, z_s2, z_g3, z_s3, z_g4, z_s4, z_g5, z_s5, z_g6, z_s6, z_g7, z_s7, z_g8, z_s8, z_g9, z_s9, z_g10, z_s10, z_g11, z_s11, z_g12, z_s12, z_g13, z_s13, z_b0, z_b1, z_b0n, z_b1n, z_up_far1, z_up_far2, z_up_far3, z_up_far4, z_up_far5, z_up_far6, Classical.not_not, not_true_eq_false, z_in, z_inL, Int.cast_ofNat_Int, Nat.reduceLeDiff, List.length_cons, List.length_nil, Nat.reduceAdd, Nat.zero_add, Nat.le_refl, true_and, and_true, List.length, Nat.reduceLT, true_or, or_true, false_or, or_false, false_and, and_false, not_true_eq_false, not_false_eq_true, forall_const, false_implies, true_implies, Int.reduceEq, Int.reduceLT, Int.reduceLE, Int.reduceAdd, Int.reduceSub, Int.reduceMul, Int.reduceNeg, Int.reduceToNat, Int.toNat_natCast, ↓reduceIte, reduceIte, Nat.reduceEqDiff, Nat.reduceSub, Nat.reduceMul, ne_eq, Int.zero_add, Int.add_zero, Int.sub_zero, Nat.add_zero, Int.ofNat_eq_natCast, tX5_make_0, SX5_isRow]
  repeat' (first | (intro _) | (with_reducible assumption) | (refine And.intro ?_ ?_))
  all_goals first | omega | assumption | (refine z_fin h ?_ rfl; first | rfl | omega | (split <;> omega) | (split <;> split <;> omega)) | skip
  all_goals exact l0
theorem dX5_make_0 : decode cX5_make 0 = .ok (.iload_n 1, 1) := by decide +kernel
theorem dX5_make_1 : decode cX5_make 1 = .ok (.invokestatic 23, 3) := by decide +kernel
theorem dX5_make_4 : decode cX5_make 4 = .ok (.ifCond .eq 13, 3) := by decide +kernel
theorem dX5_make_7 : decode cX5_make 7 = .ok (.iload_n 3, 1) := by decide +kernel
theorem dX5_make_8 : decode cX5_make 8 = .ok (.ifCond .lt 9, 3) := by decide +kernel
theorem dX5_make_11 : decode cX5_make 11 = .ok (.iload_n 3, 1) := by decide +kernel
theorem dX5_make_12 : decode cX5_make 12 = .ok (.bipush 40, 2) := by decide +kernel
theorem dX5_make_14 : decode cX5_make 14 = .ok (.if_icmp .le 4, 3) := by decide +kernel
theorem dX5_make_17 : decode cX5_make 17 = .ok (.return_, 1) := by decide +kernel
theorem dX5_make_18 : decode cX5_make 18 = .ok (.aload_n 0, 1) := by decide +kernel
theorem dX5_make_19 : decode cX5_make 19 = .ok (.getfield 9, 3) := by decide +kernel
theorem dX5_make_22 : decode cX5_make 22 = .ok (.iload_n 1, 1) := by decide +kernel
theorem dX5_make_23 : decode cX5_make 23 = .ok (.iconst 1, 1) := by decide +kernel
theorem dX5_make_24 : decode cX5_make 24 = .ok (.bastore, 1) := by decide +kernel
theorem dX5_make_25 : decode cX5_make 25 = .ok (.aload_n 0, 1) := by decide +kernel
theorem dX5_make_26 : decode cX5_make 26 = .ok (.getfield 13, 3) := by decide +kernel
theorem dX5_make_29 : decode cX5_make 29 = .ok (.iload_n 1, 1) := by decide +kernel
theorem dX5_make_30 : decode cX5_make 30 = .ok (.iload_n 2, 1) := by decide +kernel
theorem dX5_make_31 : decode cX5_make 31 = .ok (.iastore, 1) := by decide +kernel
theorem dX5_make_32 : decode cX5_make 32 = .ok (.aload_n 0, 1) := by decide +kernel
theorem dX5_make_33 : decode cX5_make 33 = .ok (.getfield 17, 3) := by decide +kernel
theorem dX5_make_36 : decode cX5_make 36 = .ok (.iload_n 1, 1) := by decide +kernel
theorem dX5_make_37 : decode cX5_make 37 = .ok (.iload_n 3, 1) := by decide +kernel
theorem dX5_make_38 : decode cX5_make 38 = .ok (.iastore, 1) := by decide +kernel
theorem dX5_make_39 : decode cX5_make 39 = .ok (.iconst 0, 1) := by decide +kernel
theorem dX5_make_40 : decode cX5_make 40 = .ok (.istore 4, 2) := by decide +kernel
theorem dX5_make_42 : decode cX5_make 42 = .ok (.iload 4, 2) := by decide +kernel
theorem dX5_make_44 : decode cX5_make 44 = .ok (.iload_n 3, 1) := by decide +kernel
theorem dX5_make_45 : decode cX5_make 45 = .ok (.if_icmp .ge 22, 3) := by decide +kernel
theorem dX5_make_48 : decode cX5_make 48 = .ok (.aload_n 0, 1) := by decide +kernel
theorem dX5_make_49 : decode cX5_make 49 = .ok (.getfield 20, 3) := by decide +kernel
theorem dX5_make_52 : decode cX5_make 52 = .ok (.iload_n 1, 1) := by decide +kernel
theorem dX5_make_53 : decode cX5_make 53 = .ok (.bipush 40, 2) := by decide +kernel
theorem dX5_make_55 : decode cX5_make 55 = .ok (.imul, 1) := by decide +kernel
theorem dX5_make_56 : decode cX5_make 56 = .ok (.iload 4, 2) := by decide +kernel
theorem dX5_make_58 : decode cX5_make 58 = .ok (.iadd, 1) := by decide +kernel
theorem dX5_make_59 : decode cX5_make 59 = .ok (.iconst 0, 1) := by decide +kernel
theorem dX5_make_60 : decode cX5_make 60 = .ok (.iastore, 1) := by decide +kernel
theorem dX5_make_61 : decode cX5_make 61 = .ok (.iinc 4 1, 3) := by decide +kernel
theorem dX5_make_64 : decode cX5_make 64 = .ok (.goto (-22), 3) := by decide +kernel
theorem dX5_make_67 : decode cX5_make 67 = .ok (.return_, 1) := by decide +kernel
set_option maxRecDepth 100000 in
theorem rX5_make_0 {p : Program} {l : Launch} {e : Env} {s : State} {m : MethodId} {args : Array Value} {below : List Frame} {meth : Method} {c : Code} {D : va_G} {cA : Nat → ClassId} {ad : Nat → Nat} {Ret : zR} (C : z_Cx p { frames := 1, cells := 0, slots := 0, locals := 20 } s m args c cX5_make yX5_make.cls 5 D cA ad) (hr : meth.sig.returnType = none) (hlocks : meth.locks = false) : ∀ L st σ, tX5_make_0 (z_X p l e { frames := 1, cells := 0, slots := 0, locals := 20 } s m args below meth c (MQ below (z_Qc D cA ad Ret) args s 0 0 (z_A ad)) 5 D cA ad true) Ret L st σ → z_X p l e { frames := 1, cells := 0, slots := 0, locals := 20 } s m args below meth c (MQ below (z_Qc D cA ad Ret) args s 0 0 (z_A ad)) 5 D cA ad true 0 L st σ := (s_iload_n C dX5_make_0 rfl (s_cs1 C dX5_make_1 (okX5_isRow l) wd_414 wd_402 wd_77 wd_403 ⟨by decide, by decide, by decide +kernel⟩ ⟨by decide, by decide⟩ (s_ifeq C dX5_make_4 (by decide) (s_vret C dX5_make_17 hr hlocks) (s_iload_n C dX5_make_7 rfl (s_iflt C dX5_make_8 (by decide) (s_vret C dX5_make_17 hr hlocks) (s_iload_n C dX5_make_11 rfl (s_bipush C dX5_make_12 rfl ⟨by decide, by decide⟩ (s_icle C dX5_make_14 (by decide) (s_aload_n C dX5_make_18 rfl (s_getr C dX5_make_19 (j := 0) cls_X5 (by decide) rfl (by decide) (by decide) (by decide +kernel) wd_139 (s_iload_n C dX5_make_22 rfl (s_iconst C dX5_make_23 rfl ⟨by decide, by decide⟩ (s_zast C dX5_make_24 (s_aload_n C dX5_make_25 rfl (s_getr C dX5_make_26 (j := 1) cls_X5 (by decide) rfl (by decide) (by decide) (by decide +kernel) wd_140 (s_iload_n C dX5_make_29 rfl (s_iload_n C dX5_make_30 rfl (s_iast C dX5_make_31 (s_aload_n C dX5_make_32 rfl (s_getr C dX5_make_33 (j := 2) cls_X5 (by decide) rfl (by decide) (by decide) (by decide +kernel) wd_141 (s_iload_n C dX5_make_36 rfl (s_iload_n C dX5_make_37 rfl (s_iast C dX5_make_38 (s_iconst C dX5_make_39 rfl ⟨by decide, by decide⟩ (s_istore C dX5_make_40 (by decide) rfl (fun _ _ _ h => h)))))))))))))))))) (s_vret C dX5_make_17 hr hlocks)))))))))
set_option maxRecDepth 100000 in
theorem rX5_make_42 {p : Program} {l : Launch} {e : Env} {s : State} {m : MethodId} {args : Array Value} {below : List Frame} {meth : Method} {c : Code} {D : va_G} {cA : Nat → ClassId} {ad : Nat → Nat} {Ret : zR} (C : z_Cx p { frames := 1, cells := 0, slots := 0, locals := 20 } s m args c cX5_make yX5_make.cls 5 D cA ad) (hr : meth.sig.returnType = none) (hlocks : meth.locks = false) : ∀ L st σ, tX5_make_42 (z_X p l e { frames := 1, cells := 0, slots := 0, locals := 20 } s m args below meth c (MQ below (z_Qc D cA ad Ret) args s 0 0 (z_A ad)) 5 D cA ad true) Ret L st σ → z_X p l e { frames := 1, cells := 0, slots := 0, locals := 20 } s m args below meth c (MQ below (z_Qc D cA ad Ret) args s 0 0 (z_A ad)) 5 D cA ad true 42 L st σ := (s_iload C dX5_make_42 (s_iload_n C dX5_make_44 rfl (s_icge C dX5_make_45 (by decide) (s_vret C dX5_make_67 hr hlocks) (s_aload_n C dX5_make_48 rfl (s_getr C dX5_make_49 (j := 3) cls_X5 (by decide) rfl (by decide) (by decide) (by decide +kernel) wd_142 (s_iload_n C dX5_make_52 rfl (s_bipush C dX5_make_53 rfl ⟨by decide, by decide⟩ (s_imul C dX5_make_55 (s_iload C dX5_make_56 (s_iadd C dX5_make_58 (s_iconst C dX5_make_59 rfl ⟨by decide, by decide⟩ (s_iast C dX5_make_60 (s_iinc C dX5_make_61 (by decide) rfl (s_goto C dX5_make_64 (by decide) (fun _ _ _ h => h)))))))))))))))
theorem okX5_make (l : Launch) : z_OK l yX5_make cX5_make 5 none 1 20 SX5_make := by
  refine z_ok_of true (by decide +kernel) ?_ ?_
  · intro as σ Ret h
    obtain ⟨k0, x1, x2, x3, rfl⟩ := pX5_make h
    exact ⟨Nat.le_of_ble_eq_true rfl, by simp⟩
  · intro p e s m args below meth c D cA ad Ret C hr hlocks as σ has hσ h
    obtain ⟨k0, x1, x2, x3, rfl⟩ := pX5_make h
    exact vX5_make (rX5_make_0 C hr hlocks) (rX5_make_42 C hr hlocks) k0 x1 x2 x3 σ (has _ (List.mem_of_getElem? (i := 0) rfl)) (has _ (List.mem_of_getElem? (i := 1) rfl)) (has _ (List.mem_of_getElem? (i := 2) rfl)) (has _ (List.mem_of_getElem? (i := 3) rfl)) hσ h
def q_nar (l v : Int) : Int := if l = 0 then z_wr8 v else if l = 1 then z_wr16 v else v
def SX5_put : zS := fun as σ Ret => match as with
  | [.inr (.inr (5, 0, k)), .inl r, .inl i, .inl v] => (((0 ≤ r ∧ r < 8) ∧ ¬ σ (k + 1) r.toNat = 0) ∧ 0 ≤ i ∧ i < σ (k + 3) r.toNat ∧ σ (k + 3) r.toNat ≤ 40) ∧ Ret (some (.inl (q_nar (σ (k + 2) r.toNat) v))) (z_up σ (k + 4) (40 * r.toNat + i.toNat) (q_nar (σ (k + 2) r.toNat) v))
  | _ => False
def tX5_put_0 (X : Nat → zB) (Ret : zR) (L : zL) (st : List zV) (σ : zM) : Prop := (z_aload 0 (z_iload 1 (z_iload 2 (z_push 1 (z_cv3 5 SX5_hasPlaces (z_ifne (z_aload 0 (z_getr 5 2 100 8 (z_iload 1 (z_ald 0 (z_ifne (z_aload 0 (z_getr 5 2 100 8 (z_iload 1 (z_ald 0 (z_push 1 (z_icne (z_iload 3 (X 42)) (z_iload 3 (z_i2s (z_goto (X 42)))))))))) (z_iload 3 (z_i2b (z_goto (X 42))))))))) (z_push 0 (z_iret Ret)))))))) L st σ
def tX5_put_42 (X : Nat → zB) (Ret : zR) (L : zL) (st : List zV) (σ : zM) : Prop := (z_istore 4 (z_aload 0 (z_getr 5 4 100 320 (z_iload 1 (z_push 40 (z_imul (z_iload 2 (z_iadd (z_iload 4 (z_iast (z_iload 4 (z_iret Ret)))))))))))) L st σ
theorem pX5_put {as : List zV} {σ : zM} {Ret : zR} (h : SX5_put as σ Ret) : ∃ (k0 : Nat) (x1 : Int) (x2 : Int) (x3 : Int), as = [.inr (.inr (5, 0, k0)), .inl x1, .inl x2, .inl x3] := by
  unfold SX5_put at h
  split at h
  · exact ⟨_, _, _, _, rfl⟩
  · exact h.elim
set_option maxRecDepth 10000 in
set_option maxHeartbeats 4000000 in
theorem vX5_put {X : Nat → zB} {Ret : zR} (h0 : ∀ L st σ, tX5_put_0 X Ret L st σ → X 0 L st σ) (h42 : ∀ L st σ, tX5_put_42 X Ret L st σ → X 42 L st σ) (k0 : Nat) (x1 : Int) (x2 : Int) (x3 : Int) (σ : zM) (hk0 : z_kd k0 = (5, 0)) (hx1 : -2147483648 ≤ x1 ∧ x1 ≤ 2147483647) (hx2 : -2147483648 ≤ x2 ∧ x2 ≤ 2147483647) (hx3 : -2147483648 ≤ x3 ∧ x3 ≤ 2147483647) (hσ : z_okm σ) (h : SX5_put [.inr (.inr (5, 0, k0)), .inl x1, .inl x2, .inl x3] σ Ret) : X 0 [some (.inr (.inr (5, 0, k0))), some (.inl x1), some (.inl x2), some (.inl x3), none] [] σ := by
  obtain ⟨⟨⟨hr, ht⟩, hi0, hi1, hs⟩, h⟩ := h
  have hr0 := hr.1
  obtain ⟨r, rfl⟩ := z_nat hr0
  obtain ⟨i, rfl⟩ := z_nat hi0
  simp only [Int.toNat_natCast] at *
  have fin : ∀ w : Int, w = q_nar (σ (k0 + 2) r) x3 → X 42 [some (.inr (.inr (5, 0, k0))), some (.inl (r : Int)), some (.inl (i : Int)), some (.inl x3), none] [.inl w] σ := by
    intro w hw
    refine h42 _ _ _ ?_
    simp only [z_push, z_lpush, z_iload, z_lload, z_aload, z_istore, z_istoreP, z_lstore, z_astore, z_iinc, z_iincP, z_iadd, z_isub, z_imul, z_iaddW, z_isubW, z_imulW, z_idiv, z_irem, z_iand, z_ior, z_ixor, z_ishl, z_ishr, z_iushr, z_ineg, z_i2l, z_i2b, z_i2s, z_i2c, z_l2i, z_ladd, z_lsub, z_land, z_lor, z_lshl, z_lshr, z_lcmp, z_dup, z_pop, z_dup2, z_goto, z_tsw, z_cases, z_geti, z_getr, z_puti, z_putz, z_ald, z_iast, z_bast, z_zast, z_alen, z_acopy, z_mmax, z_mmin, z_mabs, z_mabsL, z_iret, z_zret, z_nret, z_lret, z_aret, z_vret, z_cat, z_ldcs, z_strv, z_strc, z_gcs, z_gfm, z_sln, z_sald, z_ifeq, z_ifne, z_iflt, z_ifge, z_ifgt, z_ifle, z_iceq, z_icne, z_iclt, z_icge, z_icgt, z_icle, z_cs0, z_cs1, z_cs2, z_cs3, z_cs4, z_cs5, z_cs6, z_cs7, z_cv0, z_cv1, z_cv2, z_cv3, z_cv4, z_cv5, z_cv6, z_cv7, z_g0, z_s0, z_g1, z_s1, z_g2, z_s2, z_g3, z_s3, z_g4, z_s4, z_g5, z_s5, z_g6, z_s6, z_g7, z_s7, z_g8, z_s8, z_g9, z_s9, z_g10, z_s10, z_g11, z_s11, z_g12, z_s12, z_g13, z_s13, z_b0, z_b1, z_b0n, z_b1n, z_up_far1, z_up_far2, z_up_far3, z_up_far4, z_up_far5, z_up_far6, Classical.not_not, not_true_eq_false, z_in, z_inL, Int.cast_ofNat_Int, Nat.reduceLeDiff, List.length_cons, List.length_nil, Nat.reduceAdd, Nat.zero_add, Nat.le_refl, true_and, and_true, List.length, Nat.reduceLT, true_or, or_true, false_or, or_false, false_and, and_false, not_true_eq_false, not_false_eq_true, forall_const, false_implies, true_implies, Int.reduceEq, Int.reduceLT, Int.reduceLE, Int.reduceAdd, Int.reduceSub, Int.reduceMul, Int.reduceNeg, Int.reduceToNat, Int.toNat_natCast, ↓reduceIte, reduceIte, Nat.reduceEqDiff, Nat.reduceSub, Nat.reduceMul, ne_eq, Int.zero_add, Int.add_zero, Int.sub_zero, Nat.add_zero, Int.ofNat_eq_natCast, tX5_put_42]
    rw [show ((r : Int) * 40 + i).toNat = 40 * r + i by omega, hw]
    repeat' (first | (intro _) | (with_reducible assumption) | (refine And.intro ?_ ?_))
    all_goals first | omega | assumption | (refine z_fin h ?_ rfl; first | rfl | omega | (split <;> omega) | (split <;> split <;> omega)) | skip
    all_goals exact h
  refine h0 _ _ _ ?_
  simp only [z_push, z_lpush, z_iload, z_lload, z_aload, z_istore, z_istoreP, z_lstore, z_astore, z_iinc, z_iincP, z_iadd, z_isub, z_imul, z_iaddW, z_isubW, z_imulW, z_idiv, z_irem, z_iand, z_ior, z_ixor, z_ishl, z_ishr, z_iushr, z_ineg, z_i2l, z_i2b, z_i2s, z_i2c, z_l2i, z_ladd, z_lsub, z_land, z_lor, z_lshl, z_lshr, z_lcmp, z_dup, z_pop, z_dup2, z_goto, z_tsw, z_cases, z_geti, z_getr, z_puti, z_putz, z_ald, z_iast, z_bast, z_zast, z_alen, z_acopy, z_mmax, z_mmin, z_mabs, z_mabsL, z_iret, z_zret, z_nret, z_lret, z_aret, z_vret, z_cat, z_ldcs, z_strv, z_strc, z_gcs, z_gfm, z_sln, z_sald, z_ifeq, z_ifne, z_iflt, z_ifge, z_ifgt, z_ifle, z_iceq, z_icne, z_iclt, z_icge, z_icgt, z_icle, z_cs0, z_cs1, z_cs2, z_cs3, z_cs4, z_cs5, z_cs6, z_cs7, z_cv0, z_cv1, z_cv2, z_cv3, z_cv4, z_cv5, z_cv6, z_cv7, z_g0, z_s0, z_g1, z_s1, z_g2, z_s2, z_g3, z_s3, z_g4, z_s4, z_g5, z_s5, z_g6, z_s6, z_g7, z_s7, z_g8, z_s8, z_g9, z_s9, z_g10, z_s10, z_g11, z_s11, z_g12, z_s12, z_g13, z_s13, z_b0, z_b1, z_b0n, z_b1n, z_up_far1, z_up_far2, z_up_far3, z_up_far4, z_up_far5, z_up_far6, Classical.not_not, not_true_eq_false, z_in, z_inL, Int.cast_ofNat_Int, Nat.reduceLeDiff, List.length_cons, List.length_nil, Nat.reduceAdd, Nat.zero_add, Nat.le_refl, true_and, and_true, List.length, Nat.reduceLT, true_or, or_true, false_or, or_false, false_and, and_false, not_true_eq_false, not_false_eq_true, forall_const, false_implies, true_implies, Int.reduceEq, Int.reduceLT, Int.reduceLE, Int.reduceAdd, Int.reduceSub, Int.reduceMul, Int.reduceNeg, Int.reduceToNat, Int.toNat_natCast, ↓reduceIte, reduceIte, Nat.reduceEqDiff, Nat.reduceSub, Nat.reduceMul, ne_eq, Int.zero_add, Int.add_zero, Int.sub_zero, Nat.add_zero, Int.ofNat_eq_natCast, tX5_put_0, SX5_hasPlaces]
  have c1 : ((0 ≤ (r : Int) ∧ (r : Int) < 8) ∧ ¬ σ (k0 + 1) r = 0) ∧ 0 ≤ (i : Int) ∧ 0 ≤ (1 : Int) ∧ (i : Int) ≤ σ (k0 + 3) r ∧ 1 ≤ σ (k0 + 3) r - i := ⟨⟨hr, ht⟩, by omega, by omega, by omega, by omega⟩
  simp only [z_push, z_lpush, z_iload, z_lload, z_aload, z_istore, z_istoreP, z_lstore, z_astore, z_iinc, z_iincP, z_iadd, z_isub, z_imul, z_iaddW, z_isubW, z_imulW, z_idiv, z_irem, z_iand, z_ior, z_ixor, z_ishl, z_ishr, z_iushr, z_ineg, z_i2l, z_i2b, z_i2s, z_i2c, z_l2i, z_ladd, z_lsub, z_land, z_lor, z_lshl, z_lshr, z_lcmp, z_dup, z_pop, z_dup2, z_goto, z_tsw, z_cases, z_geti, z_getr, z_puti, z_putz, z_ald, z_iast, z_bast, z_zast, z_alen, z_acopy, z_mmax, z_mmin, z_mabs, z_mabsL, z_iret, z_zret, z_nret, z_lret, z_aret, z_vret, z_cat, z_ldcs, z_strv, z_strc, z_gcs, z_gfm, z_sln, z_sald, z_ifeq, z_ifne, z_iflt, z_ifge, z_ifgt, z_ifle, z_iceq, z_icne, z_iclt, z_icge, z_icgt, z_icle, z_cs0, z_cs1, z_cs2, z_cs3, z_cs4, z_cs5, z_cs6, z_cs7, z_cv0, z_cv1, z_cv2, z_cv3, z_cv4, z_cv5, z_cv6, z_cv7, z_g0, z_s0, z_g1, z_s1, z_g2, z_s2, z_g3, z_s3, z_g4, z_s4, z_g5, z_s5, z_g6, z_s6, z_g7, z_s7, z_g8, z_s8, z_g9, z_s9, z_g10, z_s10, z_g11, z_s11, z_g12, z_s12, z_g13, z_s13, z_b0, z_b1, z_b0n, z_b1n, z_up_far1, z_up_far2, z_up_far3, z_up_far4, z_up_far5, z_up_far6, Classical.not_not, not_true_eq_false, z_in, z_inL, Int.cast_ofNat_Int, Nat.reduceLeDiff, List.length_cons, List.length_nil, Nat.reduceAdd, Nat.zero_add, Nat.le_refl, true_and, and_true, List.length, Nat.reduceLT, true_or, or_true, false_or, or_false, false_and, and_false, not_true_eq_false, not_false_eq_true, forall_const, false_implies, true_implies, Int.reduceEq, Int.reduceLT, Int.reduceLE, Int.reduceAdd, Int.reduceSub, Int.reduceMul, Int.reduceNeg, Int.reduceToNat, Int.toNat_natCast, ↓reduceIte, reduceIte, Nat.reduceEqDiff, Nat.reduceSub, Nat.reduceMul, ne_eq, Int.zero_add, Int.add_zero, Int.sub_zero, Nat.add_zero, Int.ofNat_eq_natCast, c1]
  repeat' (first | (intro _) | (with_reducible assumption) | (refine And.intro ?_ ?_))
  all_goals first | omega | assumption | (refine z_fin h ?_ rfl; first | rfl | omega | (split <;> omega) | (split <;> split <;> omega)) | skip
  · exact fin _ (by simp only [q_nar]; repeat' split <;> first | rfl | omega)
  · exact fin _ (by simp only [q_nar]; repeat' split <;> first | rfl | omega)
  · exact fin _ (by simp only [q_nar]; repeat' split <;> first | rfl | omega)
theorem dX5_put_0 : decode cX5_put 0 = .ok (.aload_n 0, 1) := by decide +kernel
theorem dX5_put_1 : decode cX5_put 1 = .ok (.iload_n 1, 1) := by decide +kernel
theorem dX5_put_2 : decode cX5_put 2 = .ok (.iload_n 2, 1) := by decide +kernel
theorem dX5_put_3 : decode cX5_put 3 = .ok (.iconst 1, 1) := by decide +kernel
theorem dX5_put_4 : decode cX5_put 4 = .ok (.invokevirtual 30, 3) := by decide +kernel
theorem dX5_put_7 : decode cX5_put 7 = .ok (.ifCond .ne 5, 3) := by decide +kernel
theorem dX5_put_10 : decode cX5_put 10 = .ok (.iconst 0, 1) := by decide +kernel
theorem dX5_put_11 : decode cX5_put 11 = .ok (.ireturn, 1) := by decide +kernel
theorem dX5_put_12 : decode cX5_put 12 = .ok (.aload_n 0, 1) := by decide +kernel
theorem dX5_put_13 : decode cX5_put 13 = .ok (.getfield 13, 3) := by decide +kernel
theorem dX5_put_16 : decode cX5_put 16 = .ok (.iload_n 1, 1) := by decide +kernel
theorem dX5_put_17 : decode cX5_put 17 = .ok (.iaload, 1) := by decide +kernel
theorem dX5_put_18 : decode cX5_put 18 = .ok (.ifCond .ne 8, 3) := by decide +kernel
theorem dX5_put_21 : decode cX5_put 21 = .ok (.iload_n 3, 1) := by decide +kernel
theorem dX5_put_22 : decode cX5_put 22 = .ok (.i2b, 1) := by decide +kernel
theorem dX5_put_23 : decode cX5_put 23 = .ok (.goto 19, 3) := by decide +kernel
theorem dX5_put_26 : decode cX5_put 26 = .ok (.aload_n 0, 1) := by decide +kernel
theorem dX5_put_27 : decode cX5_put 27 = .ok (.getfield 13, 3) := by decide +kernel
theorem dX5_put_30 : decode cX5_put 30 = .ok (.iload_n 1, 1) := by decide +kernel
theorem dX5_put_31 : decode cX5_put 31 = .ok (.iaload, 1) := by decide +kernel
theorem dX5_put_32 : decode cX5_put 32 = .ok (.iconst 1, 1) := by decide +kernel
theorem dX5_put_33 : decode cX5_put 33 = .ok (.if_icmp .ne 8, 3) := by decide +kernel
theorem dX5_put_36 : decode cX5_put 36 = .ok (.iload_n 3, 1) := by decide +kernel
theorem dX5_put_37 : decode cX5_put 37 = .ok (.i2s, 1) := by decide +kernel
theorem dX5_put_38 : decode cX5_put 38 = .ok (.goto 4, 3) := by decide +kernel
theorem dX5_put_41 : decode cX5_put 41 = .ok (.iload_n 3, 1) := by decide +kernel
theorem dX5_put_42 : decode cX5_put 42 = .ok (.istore 4, 2) := by decide +kernel
theorem dX5_put_44 : decode cX5_put 44 = .ok (.aload_n 0, 1) := by decide +kernel
theorem dX5_put_45 : decode cX5_put 45 = .ok (.getfield 20, 3) := by decide +kernel
theorem dX5_put_48 : decode cX5_put 48 = .ok (.iload_n 1, 1) := by decide +kernel
theorem dX5_put_49 : decode cX5_put 49 = .ok (.bipush 40, 2) := by decide +kernel
theorem dX5_put_51 : decode cX5_put 51 = .ok (.imul, 1) := by decide +kernel
theorem dX5_put_52 : decode cX5_put 52 = .ok (.iload_n 2, 1) := by decide +kernel
theorem dX5_put_53 : decode cX5_put 53 = .ok (.iadd, 1) := by decide +kernel
theorem dX5_put_54 : decode cX5_put 54 = .ok (.iload 4, 2) := by decide +kernel
theorem dX5_put_56 : decode cX5_put 56 = .ok (.iastore, 1) := by decide +kernel
theorem dX5_put_57 : decode cX5_put 57 = .ok (.iload 4, 2) := by decide +kernel
theorem dX5_put_59 : decode cX5_put 59 = .ok (.ireturn, 1) := by decide +kernel
set_option maxRecDepth 100000 in
theorem rX5_put_0 {p : Program} {l : Launch} {e : Env} {s : State} {m : MethodId} {args : Array Value} {below : List Frame} {meth : Method} {c : Code} {D : va_G} {cA : Nat → ClassId} {ad : Nat → Nat} {Ret : zR} (C : z_Cx p { frames := 3, cells := 0, slots := 0, locals := 64 } s m args c cX5_put yX5_put.cls 5 D cA ad) (hr : meth.sig.returnType = (some .int)) (hlocks : meth.locks = false) : ∀ L st σ, tX5_put_0 (z_X p l e { frames := 3, cells := 0, slots := 0, locals := 64 } s m args below meth c (MQ below (z_Qc D cA ad Ret) args s 0 0 (z_A ad)) 5 D cA ad true) Ret L st σ → z_X p l e { frames := 3, cells := 0, slots := 0, locals := 64 } s m args below meth c (MQ below (z_Qc D cA ad Ret) args s 0 0 (z_A ad)) 5 D cA ad true 0 L st σ := (s_aload_n C dX5_put_0 rfl (s_iload_n C dX5_put_1 rfl (s_iload_n C dX5_put_2 rfl (s_iconst C dX5_put_3 rfl ⟨by decide, by decide⟩ (s_cv3 C dX5_put_4 (okX5_hasPlaces l) cls_X5 wd_436 wd_428 wd_429 wd_77 wd_430 ⟨by decide, by decide, by decide +kernel⟩ ⟨by decide, by decide⟩ (s_ifne C dX5_put_7 (by decide) (s_aload_n C dX5_put_12 rfl (s_getr C dX5_put_13 (j := 1) cls_X5 (by decide) rfl (by decide) (by decide) (by decide +kernel) wd_140 (s_iload_n C dX5_put_16 rfl (s_iald C dX5_put_17 (s_ifne C dX5_put_18 (by decide) (s_aload_n C dX5_put_26 rfl (s_getr C dX5_put_27 (j := 1) cls_X5 (by decide) rfl (by decide) (by decide) (by decide +kernel) wd_140 (s_iload_n C dX5_put_30 rfl (s_iald C dX5_put_31 (s_iconst C dX5_put_32 rfl ⟨by decide, by decide⟩ (s_icne C dX5_put_33 (by decide) (s_iload_n C dX5_put_41 rfl (fun _ _ _ h => h)) (s_iload_n C dX5_put_36 rfl (s_i2s C dX5_put_37 (s_goto C dX5_put_38 (by decide) (fun _ _ _ h => h)))))))))) (s_iload_n C dX5_put_21 rfl (s_i2b C dX5_put_22 (s_goto C dX5_put_23 (by decide) (fun _ _ _ h => h))))))))) (s_iconst C dX5_put_10 rfl ⟨by decide, by decide⟩ (s_iret C dX5_put_11 hr hlocks))))))))
set_option maxRecDepth 100000 in
theorem rX5_put_42 {p : Program} {l : Launch} {e : Env} {s : State} {m : MethodId} {args : Array Value} {below : List Frame} {meth : Method} {c : Code} {D : va_G} {cA : Nat → ClassId} {ad : Nat → Nat} {Ret : zR} (C : z_Cx p { frames := 3, cells := 0, slots := 0, locals := 64 } s m args c cX5_put yX5_put.cls 5 D cA ad) (hr : meth.sig.returnType = (some .int)) (hlocks : meth.locks = false) : ∀ L st σ, tX5_put_42 (z_X p l e { frames := 3, cells := 0, slots := 0, locals := 64 } s m args below meth c (MQ below (z_Qc D cA ad Ret) args s 0 0 (z_A ad)) 5 D cA ad true) Ret L st σ → z_X p l e { frames := 3, cells := 0, slots := 0, locals := 64 } s m args below meth c (MQ below (z_Qc D cA ad Ret) args s 0 0 (z_A ad)) 5 D cA ad true 42 L st σ := (s_istore C dX5_put_42 (by decide) rfl (s_aload_n C dX5_put_44 rfl (s_getr C dX5_put_45 (j := 3) cls_X5 (by decide) rfl (by decide) (by decide) (by decide +kernel) wd_142 (s_iload_n C dX5_put_48 rfl (s_bipush C dX5_put_49 rfl ⟨by decide, by decide⟩ (s_imul C dX5_put_51 (s_iload_n C dX5_put_52 rfl (s_iadd C dX5_put_53 (s_iload C dX5_put_54 (s_iast C dX5_put_56 (s_iload C dX5_put_57 (s_iret C dX5_put_59 hr hlocks))))))))))))
theorem okX5_put (l : Launch) : z_OK l yX5_put cX5_put 5 (some .int) 3 64 SX5_put := by
  refine z_ok_of true (by decide +kernel) ?_ ?_
  · intro as σ Ret h
    obtain ⟨k0, x1, x2, x3, rfl⟩ := pX5_put h
    exact ⟨Nat.le_of_ble_eq_true rfl, by simp⟩
  · intro p e s m args below meth c D cA ad Ret C hr hlocks as σ has hσ h
    obtain ⟨k0, x1, x2, x3, rfl⟩ := pX5_put h
    exact vX5_put (rX5_put_0 C hr hlocks) (rX5_put_42 C hr hlocks) k0 x1 x2 x3 σ (has _ (List.mem_of_getElem? (i := 0) rfl)) (has _ (List.mem_of_getElem? (i := 1) rfl)) (has _ (List.mem_of_getElem? (i := 2) rfl)) (has _ (List.mem_of_getElem? (i := 3) rfl)) hσ h
def SX5_move : zS := fun as σ Ret => match as with
  | [.inr (.inr (5, 0, k)), .inl a, .inl i, .inl b, .inl j, .inl n] => ((((0 ≤ a ∧ a < 8) ∧ ¬ σ (k + 1) a.toNat = 0) ∧ 0 ≤ i ∧ 0 ≤ n ∧ i ≤ σ (k + 3) a.toNat ∧ n ≤ σ (k + 3) a.toNat - i ∧ σ (k + 3) a.toNat ≤ 40) ∧ (((0 ≤ b ∧ b < 8) ∧ ¬ σ (k + 1) b.toNat = 0) ∧ 0 ≤ j ∧ 0 ≤ n ∧ j ≤ σ (k + 3) b.toNat ∧ n ≤ σ (k + 3) b.toNat - j ∧ σ (k + 3) b.toNat ≤ 40)) ∧ Ret none (z_cpy σ (k + 4) (40 * a.toNat + i.toNat) (k + 4) (40 * b.toNat + j.toNat) n.toNat)
  | _ => False
def tX5_move_0 (X : Nat → zB) (Ret : zR) (L : zL) (st : List zV) (σ : zM) : Prop := (z_aload 0 (z_iload 1 (z_iload 2 (z_iload 5 (z_cv3 5 SX5_hasPlaces (z_ifeq (z_vret Ret) (z_aload 0 (z_iload 3 (z_iload 4 (z_iload 5 (z_cv3 5 SX5_hasPlaces (z_ifeq (z_vret Ret) (z_aload 0 (z_getr 5 4 100 320 (z_iload 1 (z_push 40 (z_imul (z_iload 2 (z_iadd (z_aload 0 (z_getr 5 4 100 320 (z_iload 3 (z_push 40 (z_imul (z_iload 4 (z_iadd (z_iload 5 (z_acopy (z_vret Ret))))))))))))))))))))))))))))) L st σ
theorem pX5_move {as : List zV} {σ : zM} {Ret : zR} (h : SX5_move as σ Ret) : ∃ (k0 : Nat) (x1 : Int) (x2 : Int) (x3 : Int) (x4 : Int) (x5 : Int), as = [.inr (.inr (5, 0, k0)), .inl x1, .inl x2, .inl x3, .inl x4, .inl x5] := by
  unfold SX5_move at h
  split at h
  · exact ⟨_, _, _, _, _, _, rfl⟩
  · exact h.elim
set_option maxRecDepth 10000 in
set_option maxHeartbeats 4000000 in
theorem vX5_move {X : Nat → zB} {Ret : zR} (h0 : ∀ L st σ, tX5_move_0 X Ret L st σ → X 0 L st σ) (k0 : Nat) (x1 : Int) (x2 : Int) (x3 : Int) (x4 : Int) (x5 : Int) (σ : zM) (hk0 : z_kd k0 = (5, 0)) (hx1 : -2147483648 ≤ x1 ∧ x1 ≤ 2147483647) (hx2 : -2147483648 ≤ x2 ∧ x2 ≤ 2147483647) (hx3 : -2147483648 ≤ x3 ∧ x3 ≤ 2147483647) (hx4 : -2147483648 ≤ x4 ∧ x4 ≤ 2147483647) (hx5 : -2147483648 ≤ x5 ∧ x5 ≤ 2147483647) (hσ : z_okm σ) (h : SX5_move [.inr (.inr (5, 0, k0)), .inl x1, .inl x2, .inl x3, .inl x4, .inl x5] σ Ret) : X 0 [some (.inr (.inr (5, 0, k0))), some (.inl x1), some (.inl x2), some (.inl x3), some (.inl x4), some (.inl x5)] [] σ := by
  obtain ⟨⟨⟨hra, hia0, hn0, hia1, hna, hsa⟩, ⟨hrb, hib0, -, hib1, hnb, hsb⟩⟩, h⟩ := h
  have ca : ((0 ≤ x1 ∧ x1 < 8) ∧ ¬ σ (k0 + 1) x1.toNat = 0) ∧ 0 ≤ x2 ∧ 0 ≤ x5 ∧ x2 ≤ σ (k0 + 3) x1.toNat ∧ x5 ≤ σ (k0 + 3) x1.toNat - x2 := ⟨hra, by omega, by omega, by omega, by omega⟩
  have cb : ((0 ≤ x3 ∧ x3 < 8) ∧ ¬ σ (k0 + 1) x3.toNat = 0) ∧ 0 ≤ x4 ∧ 0 ≤ x5 ∧ x4 ≤ σ (k0 + 3) x3.toNat ∧ x5 ≤ σ (k0 + 3) x3.toNat - x4 := ⟨hrb, by omega, by omega, by omega, by omega⟩
  refine h0 _ _ _ ?_
  simp only [z_push, z_lpush, z_iload, z_lload, z_aload, z_istore, z_istoreP, z_lstore, z_astore, z_iinc, z_iincP, z_iadd, z_isub, z_imul, z_iaddW, z_isubW, z_imulW, z_idiv, z_irem, z_iand, z_ior, z_ixor, z_ishl, z_ishr, z_iushr, z_ineg, z_i2l, z_i2b, z_i2s, z_i2c, z_l2i, z_ladd, z_lsub, z_land, z_lor, z_lshl, z_lshr, z_lcmp, z_dup, z_pop, z_dup2, z_goto, z_tsw, z_cases, z_geti, z_getr, z_puti, z_putz, z_ald, z_iast, z_bast, z_zast, z_alen, z_acopy, z_mmax, z_mmin, z_mabs, z_mabsL, z_iret, z_zret, z_nret, z_lret, z_aret, z_vret, z_cat, z_ldcs, z_strv, z_strc, z_gcs, z_gfm, z_sln, z_sald, z_ifeq, z_ifne, z_iflt, z_ifge, z_ifgt, z_ifle, z_iceq, z_icne, z_iclt, z_icge, z_icgt, z_icle, z_cs0, z_cs1, z_cs2, z_cs3, z_cs4, z_cs5, z_cs6, z_cs7, z_cv0, z_cv1, z_cv2, z_cv3, z_cv4, z_cv5, z_cv6, z_cv7, z_g0, z_s0, z_g1, z_s1, z_g2, z_s2, z_g3, z_s3, z_g4, z_s4, z_g5, z_s5, z_g6, z_s6, z_g7, z_s7, z_g8, z_s8, z_g9, z_s9, z_g10, z_s10, z_g11, z_s11, z_g12, z_s12, z_g13, z_s13, z_b0, z_b1, z_b0n, z_b1n, z_up_far1, z_up_far2, z_up_far3, z_up_far4, z_up_far5, z_up_far6, Classical.not_not, not_true_eq_false, z_in, z_inL, Int.cast_ofNat_Int, Nat.reduceLeDiff, List.length_cons, List.length_nil, Nat.reduceAdd, Nat.zero_add, Nat.le_refl, true_and, and_true, List.length, Nat.reduceLT, true_or, or_true, false_or, or_false, false_and, and_false, not_true_eq_false, not_false_eq_true, forall_const, false_implies, true_implies, Int.reduceEq, Int.reduceLT, Int.reduceLE, Int.reduceAdd, Int.reduceSub, Int.reduceMul, Int.reduceNeg, Int.reduceToNat, Int.toNat_natCast, ↓reduceIte, reduceIte, Nat.reduceEqDiff, Nat.reduceSub, Nat.reduceMul, ne_eq, Int.zero_add, Int.add_zero, Int.sub_zero, Nat.add_zero, Int.ofNat_eq_natCast, tX5_move_0, SX5_hasPlaces, ca, cb]
  rw [show (x1 * 40 + x2).toNat = 40 * x1.toNat + x2.toNat by omega, show (x3 * 40 + x4).toNat = 40 * x3.toNat + x4.toNat by omega]
  have := hra.1.2
  have := hrb.1.2
  repeat' (first | (intro _) | (with_reducible assumption) | (refine And.intro ?_ ?_))
  all_goals first | omega | assumption | (refine z_fin h ?_ rfl; first | rfl | omega | (split <;> omega) | (split <;> split <;> omega)) | skip
  all_goals exact h
theorem dX5_move_0 : decode cX5_move 0 = .ok (.aload_n 0, 1) := by decide +kernel
theorem dX5_move_1 : decode cX5_move 1 = .ok (.iload_n 1, 1) := by decide +kernel
theorem dX5_move_2 : decode cX5_move 2 = .ok (.iload_n 2, 1) := by decide +kernel
theorem dX5_move_3 : decode cX5_move 3 = .ok (.iload 5, 2) := by decide +kernel
theorem dX5_move_5 : decode cX5_move 5 = .ok (.invokevirtual 30, 3) := by decide +kernel
theorem dX5_move_8 : decode cX5_move 8 = .ok (.ifCond .eq 41, 3) := by decide +kernel
theorem dX5_move_11 : decode cX5_move 11 = .ok (.aload_n 0, 1) := by decide +kernel
theorem dX5_move_12 : decode cX5_move 12 = .ok (.iload_n 3, 1) := by decide +kernel
theorem dX5_move_13 : decode cX5_move 13 = .ok (.iload 4, 2) := by decide +kernel
theorem dX5_move_15 : decode cX5_move 15 = .ok (.iload 5, 2) := by decide +kernel
theorem dX5_move_17 : decode cX5_move 17 = .ok (.invokevirtual 30, 3) := by decide +kernel
theorem dX5_move_20 : decode cX5_move 20 = .ok (.ifCond .eq 29, 3) := by decide +kernel
theorem dX5_move_23 : decode cX5_move 23 = .ok (.aload_n 0, 1) := by decide +kernel
theorem dX5_move_24 : decode cX5_move 24 = .ok (.getfield 20, 3) := by decide +kernel
theorem dX5_move_27 : decode cX5_move 27 = .ok (.iload_n 1, 1) := by decide +kernel
theorem dX5_move_28 : decode cX5_move 28 = .ok (.bipush 40, 2) := by decide +kernel
theorem dX5_move_30 : decode cX5_move 30 = .ok (.imul, 1) := by decide +kernel
theorem dX5_move_31 : decode cX5_move 31 = .ok (.iload_n 2, 1) := by decide +kernel
theorem dX5_move_32 : decode cX5_move 32 = .ok (.iadd, 1) := by decide +kernel
theorem dX5_move_33 : decode cX5_move 33 = .ok (.aload_n 0, 1) := by decide +kernel
theorem dX5_move_34 : decode cX5_move 34 = .ok (.getfield 20, 3) := by decide +kernel
theorem dX5_move_37 : decode cX5_move 37 = .ok (.iload_n 3, 1) := by decide +kernel
theorem dX5_move_38 : decode cX5_move 38 = .ok (.bipush 40, 2) := by decide +kernel
theorem dX5_move_40 : decode cX5_move 40 = .ok (.imul, 1) := by decide +kernel
theorem dX5_move_41 : decode cX5_move 41 = .ok (.iload 4, 2) := by decide +kernel
theorem dX5_move_43 : decode cX5_move 43 = .ok (.iadd, 1) := by decide +kernel
theorem dX5_move_44 : decode cX5_move 44 = .ok (.iload 5, 2) := by decide +kernel
theorem dX5_move_46 : decode cX5_move 46 = .ok (.invokestatic 34, 3) := by decide +kernel
theorem dX5_move_49 : decode cX5_move 49 = .ok (.return_, 1) := by decide +kernel
set_option maxRecDepth 100000 in
theorem rX5_move_0 {p : Program} {l : Launch} {e : Env} {s : State} {m : MethodId} {args : Array Value} {below : List Frame} {meth : Method} {c : Code} {D : va_G} {cA : Nat → ClassId} {ad : Nat → Nat} {Ret : zR} (C : z_Cx p { frames := 3, cells := 0, slots := 0, locals := 64 } s m args c cX5_move yX5_move.cls 6 D cA ad) (hr : meth.sig.returnType = none) (hlocks : meth.locks = false) : ∀ L st σ, tX5_move_0 (z_X p l e { frames := 3, cells := 0, slots := 0, locals := 64 } s m args below meth c (MQ below (z_Qc D cA ad Ret) args s 0 0 (z_A ad)) 6 D cA ad true) Ret L st σ → z_X p l e { frames := 3, cells := 0, slots := 0, locals := 64 } s m args below meth c (MQ below (z_Qc D cA ad Ret) args s 0 0 (z_A ad)) 6 D cA ad true 0 L st σ := (s_aload_n C dX5_move_0 rfl (s_iload_n C dX5_move_1 rfl (s_iload_n C dX5_move_2 rfl (s_iload C dX5_move_3 (s_cv3 C dX5_move_5 (okX5_hasPlaces l) cls_X5 wd_436 wd_428 wd_429 wd_77 wd_430 ⟨by decide, by decide, by decide +kernel⟩ ⟨by decide, by decide⟩ (s_ifeq C dX5_move_8 (by decide) (s_vret C dX5_move_49 hr hlocks) (s_aload_n C dX5_move_11 rfl (s_iload_n C dX5_move_12 rfl (s_iload C dX5_move_13 (s_iload C dX5_move_15 (s_cv3 C dX5_move_17 (okX5_hasPlaces l) cls_X5 wd_436 wd_428 wd_429 wd_77 wd_430 ⟨by decide, by decide, by decide +kernel⟩ ⟨by decide, by decide⟩ (s_ifeq C dX5_move_20 (by decide) (s_vret C dX5_move_49 hr hlocks) (s_aload_n C dX5_move_23 rfl (s_getr C dX5_move_24 (j := 3) cls_X5 (by decide) rfl (by decide) (by decide) (by decide +kernel) wd_142 (s_iload_n C dX5_move_27 rfl (s_bipush C dX5_move_28 rfl ⟨by decide, by decide⟩ (s_imul C dX5_move_30 (s_iload_n C dX5_move_31 rfl (s_iadd C dX5_move_32 (s_aload_n C dX5_move_33 rfl (s_getr C dX5_move_34 (j := 3) cls_X5 (by decide) rfl (by decide) (by decide) (by decide +kernel) wd_142 (s_iload_n C dX5_move_37 rfl (s_bipush C dX5_move_38 rfl ⟨by decide, by decide⟩ (s_imul C dX5_move_40 (s_iload C dX5_move_41 (s_iadd C dX5_move_43 (s_iload C dX5_move_44 (s_acopy C dX5_move_46 wd_449 wd_451 wd_450 wd_86 ⟨by decide, by decide⟩ (s_vret C dX5_move_49 hr hlocks)))))))))))))))))))))))))))))
theorem okX5_move (l : Launch) : z_OK l yX5_move cX5_move 6 none 3 64 SX5_move := by
  refine z_ok_of true (by decide +kernel) ?_ ?_
  · intro as σ Ret h
    obtain ⟨k0, x1, x2, x3, x4, x5, rfl⟩ := pX5_move h
    exact ⟨Nat.le_of_ble_eq_true rfl, by simp⟩
  · intro p e s m args below meth c D cA ad Ret C hr hlocks as σ has hσ h
    obtain ⟨k0, x1, x2, x3, x4, x5, rfl⟩ := pX5_move h
    exact vX5_move (rX5_move_0 C hr hlocks) k0 x1 x2 x3 x4 x5 σ (has _ (List.mem_of_getElem? (i := 0) rfl)) (has _ (List.mem_of_getElem? (i := 1) rfl)) (has _ (List.mem_of_getElem? (i := 2) rfl)) (has _ (List.mem_of_getElem? (i := 3) rfl)) (has _ (List.mem_of_getElem? (i := 4) rfl)) (has _ (List.mem_of_getElem? (i := 5) rfl)) hσ h
def SX5_read : zS := fun as σ Ret => match as with
  | [.inr (.inr (5, 0, k)), .inl r, .inl i, .inr (.inr (100, n2, k2)), .inl n] => (((0 ≤ r ∧ r < 8) ∧ ¬ σ (k + 1) r.toNat = 0) ∧ 0 ≤ i ∧ 0 ≤ n ∧ i ≤ σ (k + 3) r.toNat ∧ n ≤ σ (k + 3) r.toNat - i ∧ σ (k + 3) r.toNat ≤ 40 ∧ n ≤ n2) ∧ Ret none (z_cpy σ (k + 4) (40 * r.toNat + i.toNat) k2 0 n.toNat)
  | _ => False
def tX5_read_0 (X : Nat → zB) (Ret : zR) (L : zL) (st : List zV) (σ : zM) : Prop := (z_aload 0 (z_iload 1 (z_iload 2 (z_iload 4 (z_cv3 5 SX5_hasPlaces (z_ifeq (z_vret Ret) (z_iload 4 (z_aload 3 (z_alen (z_icgt (z_vret Ret) (z_aload 0 (z_getr 5 4 100 320 (z_iload 1 (z_push 40 (z_imul (z_iload 2 (z_iadd (z_aload 3 (z_push 0 (z_iload 4 (z_acopy (z_vret Ret)))))))))))))))))))))) L st σ
theorem pX5_read {as : List zV} {σ : zM} {Ret : zR} (h : SX5_read as σ Ret) : ∃ (k0 : Nat) (x1 : Int) (x2 : Int) (n3 k3 : Nat) (x4 : Int), as = [.inr (.inr (5, 0, k0)), .inl x1, .inl x2, .inr (.inr (100, n3, k3)), .inl x4] := by
  unfold SX5_read at h
  split at h
  · exact ⟨_, _, _, _, _, _, rfl⟩
  · exact h.elim
set_option maxRecDepth 10000 in
set_option maxHeartbeats 4000000 in
theorem vX5_read {X : Nat → zB} {Ret : zR} (h0 : ∀ L st σ, tX5_read_0 X Ret L st σ → X 0 L st σ) (k0 : Nat) (x1 : Int) (x2 : Int) (n3 k3 : Nat) (x4 : Int) (σ : zM) (hk0 : z_kd k0 = (5, 0)) (hx1 : -2147483648 ≤ x1 ∧ x1 ≤ 2147483647) (hx2 : -2147483648 ≤ x2 ∧ x2 ≤ 2147483647) (hk3 : z_kd k3 = (100, n3)) (hx4 : -2147483648 ≤ x4 ∧ x4 ≤ 2147483647) (hσ : z_okm σ) (h : SX5_read [.inr (.inr (5, 0, k0)), .inl x1, .inl x2, .inr (.inr (100, n3, k3)), .inl x4] σ Ret) : X 0 [some (.inr (.inr (5, 0, k0))), some (.inl x1), some (.inl x2), some (.inr (.inr (100, n3, k3))), some (.inl x4)] [] σ := by
  obtain ⟨⟨hr, hi0, hn0, hi1, hn, hs, hn2⟩, h⟩ := h
  have ca : ((0 ≤ x1 ∧ x1 < 8) ∧ ¬ σ (k0 + 1) x1.toNat = 0) ∧ 0 ≤ x2 ∧ 0 ≤ x4 ∧ x2 ≤ σ (k0 + 3) x1.toNat ∧ x4 ≤ σ (k0 + 3) x1.toNat - x2 := ⟨hr, by omega, by omega, by omega, by omega⟩
  refine h0 _ _ _ ?_
  simp only [z_push, z_lpush, z_iload, z_lload, z_aload, z_istore, z_istoreP, z_lstore, z_astore, z_iinc, z_iincP, z_iadd, z_isub, z_imul, z_iaddW, z_isubW, z_imulW, z_idiv, z_irem, z_iand, z_ior, z_ixor, z_ishl, z_ishr, z_iushr, z_ineg, z_i2l, z_i2b, z_i2s, z_i2c, z_l2i, z_ladd, z_lsub, z_land, z_lor, z_lshl, z_lshr, z_lcmp, z_dup, z_pop, z_dup2, z_goto, z_tsw, z_cases, z_geti, z_getr, z_puti, z_putz, z_ald, z_iast, z_bast, z_zast, z_alen, z_acopy, z_mmax, z_mmin, z_mabs, z_mabsL, z_iret, z_zret, z_nret, z_lret, z_aret, z_vret, z_cat, z_ldcs, z_strv, z_strc, z_gcs, z_gfm, z_sln, z_sald, z_ifeq, z_ifne, z_iflt, z_ifge, z_ifgt, z_ifle, z_iceq, z_icne, z_iclt, z_icge, z_icgt, z_icle, z_cs0, z_cs1, z_cs2, z_cs3, z_cs4, z_cs5, z_cs6, z_cs7, z_cv0, z_cv1, z_cv2, z_cv3, z_cv4, z_cv5, z_cv6, z_cv7, z_g0, z_s0, z_g1, z_s1, z_g2, z_s2, z_g3, z_s3, z_g4, z_s4, z_g5, z_s5, z_g6, z_s6, z_g7, z_s7, z_g8, z_s8, z_g9, z_s9, z_g10, z_s10, z_g11, z_s11, z_g12, z_s12, z_g13, z_s13, z_b0, z_b1, z_b0n, z_b1n, z_up_far1, z_up_far2, z_up_far3, z_up_far4, z_up_far5, z_up_far6, Classical.not_not, not_true_eq_false, z_in, z_inL, Int.cast_ofNat_Int, Nat.reduceLeDiff, List.length_cons, List.length_nil, Nat.reduceAdd, Nat.zero_add, Nat.le_refl, true_and, and_true, List.length, Nat.reduceLT, true_or, or_true, false_or, or_false, false_and, and_false, not_true_eq_false, not_false_eq_true, forall_const, false_implies, true_implies, Int.reduceEq, Int.reduceLT, Int.reduceLE, Int.reduceAdd, Int.reduceSub, Int.reduceMul, Int.reduceNeg, Int.reduceToNat, Int.toNat_natCast, ↓reduceIte, reduceIte, Nat.reduceEqDiff, Nat.reduceSub, Nat.reduceMul, ne_eq, Int.zero_add, Int.add_zero, Int.sub_zero, Nat.add_zero, Int.ofNat_eq_natCast, tX5_read_0, SX5_hasPlaces, ca]
  rw [show (x1 * 40 + x2).toNat = 40 * x1.toNat + x2.toNat by omega]
  have := hr.1.2
  repeat' (first | (intro _) | (with_reducible assumption) | (refine And.intro ?_ ?_))
  all_goals first | omega | assumption | (refine z_fin h ?_ rfl; first | rfl | omega | (split <;> omega) | (split <;> split <;> omega)) | skip
  all_goals exact h
theorem dX5_read_0 : decode cX5_read 0 = .ok (.aload_n 0, 1) := by decide +kernel
theorem dX5_read_1 : decode cX5_read 1 = .ok (.iload_n 1, 1) := by decide +kernel
theorem dX5_read_2 : decode cX5_read 2 = .ok (.iload_n 2, 1) := by decide +kernel
theorem dX5_read_3 : decode cX5_read 3 = .ok (.iload 4, 2) := by decide +kernel
theorem dX5_read_5 : decode cX5_read 5 = .ok (.invokevirtual 30, 3) := by decide +kernel
theorem dX5_read_8 : decode cX5_read 8 = .ok (.ifCond .eq 27, 3) := by decide +kernel
theorem dX5_read_11 : decode cX5_read 11 = .ok (.iload 4, 2) := by decide +kernel
theorem dX5_read_13 : decode cX5_read 13 = .ok (.aload_n 3, 1) := by decide +kernel
theorem dX5_read_14 : decode cX5_read 14 = .ok (.arraylength, 1) := by decide +kernel
theorem dX5_read_15 : decode cX5_read 15 = .ok (.if_icmp .gt 20, 3) := by decide +kernel
theorem dX5_read_18 : decode cX5_read 18 = .ok (.aload_n 0, 1) := by decide +kernel
theorem dX5_read_19 : decode cX5_read 19 = .ok (.getfield 20, 3) := by decide +kernel
theorem dX5_read_22 : decode cX5_read 22 = .ok (.iload_n 1, 1) := by decide +kernel
theorem dX5_read_23 : decode cX5_read 23 = .ok (.bipush 40, 2) := by decide +kernel
theorem dX5_read_25 : decode cX5_read 25 = .ok (.imul, 1) := by decide +kernel
theorem dX5_read_26 : decode cX5_read 26 = .ok (.iload_n 2, 1) := by decide +kernel
theorem dX5_read_27 : decode cX5_read 27 = .ok (.iadd, 1) := by decide +kernel
theorem dX5_read_28 : decode cX5_read 28 = .ok (.aload_n 3, 1) := by decide +kernel
theorem dX5_read_29 : decode cX5_read 29 = .ok (.iconst 0, 1) := by decide +kernel
theorem dX5_read_30 : decode cX5_read 30 = .ok (.iload 4, 2) := by decide +kernel
theorem dX5_read_32 : decode cX5_read 32 = .ok (.invokestatic 34, 3) := by decide +kernel
theorem dX5_read_35 : decode cX5_read 35 = .ok (.return_, 1) := by decide +kernel
set_option maxRecDepth 100000 in
theorem rX5_read_0 {p : Program} {l : Launch} {e : Env} {s : State} {m : MethodId} {args : Array Value} {below : List Frame} {meth : Method} {c : Code} {D : va_G} {cA : Nat → ClassId} {ad : Nat → Nat} {Ret : zR} (C : z_Cx p { frames := 3, cells := 0, slots := 0, locals := 64 } s m args c cX5_read yX5_read.cls 5 D cA ad) (hr : meth.sig.returnType = none) (hlocks : meth.locks = false) : ∀ L st σ, tX5_read_0 (z_X p l e { frames := 3, cells := 0, slots := 0, locals := 64 } s m args below meth c (MQ below (z_Qc D cA ad Ret) args s 0 0 (z_A ad)) 5 D cA ad true) Ret L st σ → z_X p l e { frames := 3, cells := 0, slots := 0, locals := 64 } s m args below meth c (MQ below (z_Qc D cA ad Ret) args s 0 0 (z_A ad)) 5 D cA ad true 0 L st σ := (s_aload_n C dX5_read_0 rfl (s_iload_n C dX5_read_1 rfl (s_iload_n C dX5_read_2 rfl (s_iload C dX5_read_3 (s_cv3 C dX5_read_5 (okX5_hasPlaces l) cls_X5 wd_436 wd_428 wd_429 wd_77 wd_430 ⟨by decide, by decide, by decide +kernel⟩ ⟨by decide, by decide⟩ (s_ifeq C dX5_read_8 (by decide) (s_vret C dX5_read_35 hr hlocks) (s_iload C dX5_read_11 (s_aload_n C dX5_read_13 rfl (s_alen C dX5_read_14 (s_icgt C dX5_read_15 (by decide) (s_vret C dX5_read_35 hr hlocks) (s_aload_n C dX5_read_18 rfl (s_getr C dX5_read_19 (j := 3) cls_X5 (by decide) rfl (by decide) (by decide) (by decide +kernel) wd_142 (s_iload_n C dX5_read_22 rfl (s_bipush C dX5_read_23 rfl ⟨by decide, by decide⟩ (s_imul C dX5_read_25 (s_iload_n C dX5_read_26 rfl (s_iadd C dX5_read_27 (s_aload_n C dX5_read_28 rfl (s_iconst C dX5_read_29 rfl ⟨by decide, by decide⟩ (s_iload C dX5_read_30 (s_acopy C dX5_read_32 wd_449 wd_451 wd_450 wd_86 ⟨by decide, by decide⟩ (s_vret C dX5_read_35 hr hlocks))))))))))))))))))))))
theorem okX5_read (l : Launch) : z_OK l yX5_read cX5_read 5 none 3 64 SX5_read := by
  refine z_ok_of true (by decide +kernel) ?_ ?_
  · intro as σ Ret h
    obtain ⟨k0, x1, x2, n3, k3, x4, rfl⟩ := pX5_read h
    exact ⟨Nat.le_of_ble_eq_true rfl, by simp⟩
  · intro p e s m args below meth c D cA ad Ret C hr hlocks as σ has hσ h
    obtain ⟨k0, x1, x2, n3, k3, x4, rfl⟩ := pX5_read h
    exact vX5_read (rX5_read_0 C hr hlocks) k0 x1 x2 n3 k3 x4 σ (has _ (List.mem_of_getElem? (i := 0) rfl)) (has _ (List.mem_of_getElem? (i := 1) rfl)) (has _ (List.mem_of_getElem? (i := 2) rfl)) (has _ (List.mem_of_getElem? (i := 3) rfl)) (has _ (List.mem_of_getElem? (i := 4) rfl)) hσ h
def SX5_takeAway : zS := fun as σ Ret => match as with
  | [.inr (.inr (5, 0, k)), .inl r] => ((0 ≤ r ∧ r < 8) ∧ ¬ σ (k + 1) r.toNat = 0) ∧ Ret (some (.inl (σ (k + 3) r.toNat))) (z_up σ (k + 1) r.toNat 0)
  | _ => False
def tX5_takeAway_0 (X : Nat → zB) (Ret : zR) (L : zL) (st : List zV) (σ : zM) : Prop := (z_aload 0 (z_iload 1 (z_cv1 5 SX5_isThere (z_ifne (z_aload 0 (z_getr 5 1 102 8 (z_iload 1 (z_push 0 (z_zast (z_aload 0 (z_getr 5 3 100 8 (z_iload 1 (z_ald 0 (z_iret Ret)))))))))) (z_push 0 (z_iret Ret)))))) L st σ
theorem pX5_takeAway {as : List zV} {σ : zM} {Ret : zR} (h : SX5_takeAway as σ Ret) : ∃ (k0 : Nat) (x1 : Int), as = [.inr (.inr (5, 0, k0)), .inl x1] := by
  unfold SX5_takeAway at h
  split at h
  · exact ⟨_, _, rfl⟩
  · exact h.elim
set_option maxRecDepth 10000 in
set_option maxHeartbeats 4000000 in
theorem vX5_takeAway {X : Nat → zB} {Ret : zR} (h0 : ∀ L st σ, tX5_takeAway_0 X Ret L st σ → X 0 L st σ) (k0 : Nat) (x1 : Int) (σ : zM) (hk0 : z_kd k0 = (5, 0)) (hx1 : -2147483648 ≤ x1 ∧ x1 ≤ 2147483647) (hσ : z_okm σ) (h : SX5_takeAway [.inr (.inr (5, 0, k0)), .inl x1] σ Ret) : X 0 [some (.inr (.inr (5, 0, k0))), some (.inl x1)] [] σ := by
  obtain ⟨hr, h⟩ := h
  refine h0 _ _ _ ?_
  simp only [z_push, z_lpush, z_iload, z_lload, z_aload, z_istore, z_istoreP, z_lstore, z_astore, z_iinc, z_iincP, z_iadd, z_isub, z_imul, z_iaddW, z_isubW, z_imulW, z_idiv, z_irem, z_iand, z_ior, z_ixor, z_ishl, z_ishr, z_iushr, z_ineg, z_i2l, z_i2b, z_i2s, z_i2c, z_l2i, z_ladd, z_lsub, z_land, z_lor, z_lshl, z_lshr, z_lcmp, z_dup, z_pop, z_dup2, z_goto, z_tsw, z_cases, z_geti, z_getr, z_puti, z_putz, z_ald, z_iast, z_bast, z_zast, z_alen, z_acopy, z_mmax, z_mmin, z_mabs, z_mabsL, z_iret, z_zret, z_nret, z_lret, z_aret, z_vret, z_cat, z_ldcs, z_strv, z_strc, z_gcs, z_gfm, z_sln, z_sald, z_ifeq, z_ifne, z_iflt, z_ifge, z_ifgt, z_ifle, z_iceq, z_icne, z_iclt, z_icge, z_icgt, z_icle, z_cs0, z_cs1, z_cs2, z_cs3, z_cs4, z_cs5, z_cs6, z_cs7, z_cv0, z_cv1, z_cv2, z_cv3, z_cv4, z_cv5, z_cv6, z_cv7, z_g0, z_s0, z_g1, z_s1, z_g2, z_s2, z_g3, z_s3, z_g4, z_s4, z_g5, z_s5, z_g6, z_s6, z_g7, z_s7, z_g8, z_s8, z_g9, z_s9, z_g10, z_s10, z_g11, z_s11, z_g12, z_s12, z_g13, z_s13, z_b0, z_b1, z_b0n, z_b1n, z_up_far1, z_up_far2, z_up_far3, z_up_far4, z_up_far5, z_up_far6, Classical.not_not, not_true_eq_false, z_in, z_inL, Int.cast_ofNat_Int, Nat.reduceLeDiff, List.length_cons, List.length_nil, Nat.reduceAdd, Nat.zero_add, Nat.le_refl, true_and, and_true, List.length, Nat.reduceLT, true_or, or_true, false_or, or_false, false_and, and_false, not_true_eq_false, not_false_eq_true, forall_const, false_implies, true_implies, Int.reduceEq, Int.reduceLT, Int.reduceLE, Int.reduceAdd, Int.reduceSub, Int.reduceMul, Int.reduceNeg, Int.reduceToNat, Int.toNat_natCast, ↓reduceIte, reduceIte, Nat.reduceEqDiff, Nat.reduceSub, Nat.reduceMul, ne_eq, Int.zero_add, Int.add_zero, Int.sub_zero, Nat.add_zero, Int.ofNat_eq_natCast, tX5_takeAway_0, SX5_isThere, hr]
  rw [z_up_ne (by omega)]
  repeat' (first | (intro _) | (with_reducible assumption) | (refine And.intro ?_ ?_))
  all_goals first | omega | assumption | (refine z_fin h ?_ rfl; first | rfl | omega | (split <;> omega) | (split <;> split <;> omega)) | skip
theorem dX5_takeAway_0 : decode cX5_takeAway 0 = .ok (.aload_n 0, 1) := by decide +kernel
theorem dX5_takeAway_1 : decode cX5_takeAway 1 = .ok (.iload_n 1, 1) := by decide +kernel
theorem dX5_takeAway_2 : decode cX5_takeAway 2 = .ok (.invokevirtual 27, 3) := by decide +kernel
theorem dX5_takeAway_5 : decode cX5_takeAway 5 = .ok (.ifCond .ne 5, 3) := by decide +kernel
theorem dX5_takeAway_8 : decode cX5_takeAway 8 = .ok (.iconst 0, 1) := by decide +kernel
theorem dX5_takeAway_9 : decode cX5_takeAway 9 = .ok (.ireturn, 1) := by decide +kernel
theorem dX5_takeAway_10 : decode cX5_takeAway 10 = .ok (.aload_n 0, 1) := by decide +kernel
theorem dX5_takeAway_11 : decode cX5_takeAway 11 = .ok (.getfield 9, 3) := by decide +kernel
theorem dX5_takeAway_14 : decode cX5_takeAway 14 = .ok (.iload_n 1, 1) := by decide +kernel
theorem dX5_takeAway_15 : decode cX5_takeAway 15 = .ok (.iconst 0, 1) := by decide +kernel
theorem dX5_takeAway_16 : decode cX5_takeAway 16 = .ok (.bastore, 1) := by decide +kernel
theorem dX5_takeAway_17 : decode cX5_takeAway 17 = .ok (.aload_n 0, 1) := by decide +kernel
theorem dX5_takeAway_18 : decode cX5_takeAway 18 = .ok (.getfield 17, 3) := by decide +kernel
theorem dX5_takeAway_21 : decode cX5_takeAway 21 = .ok (.iload_n 1, 1) := by decide +kernel
theorem dX5_takeAway_22 : decode cX5_takeAway 22 = .ok (.iaload, 1) := by decide +kernel
theorem dX5_takeAway_23 : decode cX5_takeAway 23 = .ok (.ireturn, 1) := by decide +kernel
set_option maxRecDepth 100000 in
theorem rX5_takeAway_0 {p : Program} {l : Launch} {e : Env} {s : State} {m : MethodId} {args : Array Value} {below : List Frame} {meth : Method} {c : Code} {D : va_G} {cA : Nat → ClassId} {ad : Nat → Nat} {Ret : zR} (C : z_Cx p { frames := 2, cells := 0, slots := 0, locals := 41 } s m args c cX5_takeAway yX5_takeAway.cls 2 D cA ad) (hr : meth.sig.returnType = (some .int)) (hlocks : meth.locks = false) : ∀ L st σ, tX5_takeAway_0 (z_X p l e { frames := 2, cells := 0, slots := 0, locals := 41 } s m args below meth c (MQ below (z_Qc D cA ad Ret) args s 0 0 (z_A ad)) 2 D cA ad true) Ret L st σ → z_X p l e { frames := 2, cells := 0, slots := 0, locals := 41 } s m args below meth c (MQ below (z_Qc D cA ad Ret) args s 0 0 (z_A ad)) 2 D cA ad true 0 L st σ := (s_aload_n C dX5_takeAway_0 rfl (s_iload_n C dX5_takeAway_1 rfl (s_cv1 C dX5_takeAway_2 (okX5_isThere l) cls_X5 wd_431 wd_424 wd_425 wd_77 wd_426 ⟨by decide, by decide, by decide +kernel⟩ ⟨by decide, by decide⟩ (s_ifne C dX5_takeAway_5 (by decide) (s_aload_n C dX5_takeAway_10 rfl (s_getr C dX5_takeAway_11 (j := 0) cls_X5 (by decide) rfl (by decide) (by decide) (by decide +kernel) wd_139 (s_iload_n C dX5_takeAway_14 rfl (s_iconst C dX5_takeAway_15 rfl ⟨by decide, by decide⟩ (s_zast C dX5_takeAway_16 (s_aload_n C dX5_takeAway_17 rfl (s_getr C dX5_takeAway_18 (j := 2) cls_X5 (by decide) rfl (by decide) (by decide) (by decide +kernel) wd_141 (s_iload_n C dX5_takeAway_21 rfl (s_iald C dX5_takeAway_22 (s_iret C dX5_takeAway_23 hr hlocks)))))))))) (s_iconst C dX5_takeAway_8 rfl ⟨by decide, by decide⟩ (s_iret C dX5_takeAway_9 hr hlocks))))))
theorem okX5_takeAway (l : Launch) : z_OK l yX5_takeAway cX5_takeAway 2 (some .int) 2 41 SX5_takeAway := by
  refine z_ok_of true (by decide +kernel) ?_ ?_
  · intro as σ Ret h
    obtain ⟨k0, x1, rfl⟩ := pX5_takeAway h
    exact ⟨Nat.le_of_ble_eq_true rfl, by simp⟩
  · intro p e s m args below meth c D cA ad Ret C hr hlocks as σ has hσ h
    obtain ⟨k0, x1, rfl⟩ := pX5_takeAway h
    exact vX5_takeAway (rX5_takeAway_0 C hr hlocks) k0 x1 σ (has _ (List.mem_of_getElem? (i := 0) rfl)) (has _ (List.mem_of_getElem? (i := 1) rfl)) hσ h
def SX5_countThere : zS := fun as σ Ret => match as with
  | [.inr (.inr (5, 0, k))] => Ret (some (.inl (z_sumf (fun r => if σ (k + 1) r = 0 then 0 else 1) 8))) σ
  | _ => False
theorem z_sumf_01 (f : Nat → Int) (h : ∀ i, f i = 0 ∨ f i = 1) : ∀ n : Nat, 0 ≤ z_sumf f n ∧ z_sumf f n ≤ n
  | 0 => ⟨Int.le_refl _, Int.le_refl _⟩
  | n + 1 => by
    have := z_sumf_01 f h n
    have := h n
    simp only [z_sumf]
    omega
def tX5_countThere_0 (X : Nat → zB) (Ret : zR) (L : zL) (st : List zV) (σ : zM) : Prop := (z_push 0 (z_istore 1 (z_push 0 (z_istore 2 (X 4))))) L st σ
def tX5_countThere_4 (X : Nat → zB) (Ret : zR) (L : zL) (st : List zV) (σ : zM) : Prop := (z_iload 2 (z_push 8 (z_icge (z_iload 1 (z_iret Ret)) (z_iload 1 (z_aload 0 (z_getr 5 1 102 8 (z_iload 2 (z_ald 2 (z_ifeq (z_push 0 (z_iadd (z_istore 1 (z_iinc 2 1 (z_goto (X 4)))))) (z_push 1 (z_goto (z_iadd (z_istore 1 (z_iinc 2 1 (z_goto (X 4)))))))))))))))) L st σ
theorem pX5_countThere {as : List zV} {σ : zM} {Ret : zR} (h : SX5_countThere as σ Ret) : ∃ (k0 : Nat), as = [.inr (.inr (5, 0, k0))] := by
  unfold SX5_countThere at h
  split at h
  · exact ⟨_, rfl⟩
  · exact h.elim
set_option maxRecDepth 10000 in
set_option maxHeartbeats 4000000 in
theorem vX5_countThere {X : Nat → zB} {Ret : zR} (h0 : ∀ L st σ, tX5_countThere_0 X Ret L st σ → X 0 L st σ) (h4 : ∀ L st σ, tX5_countThere_4 X Ret L st σ → X 4 L st σ) (k0 : Nat) (σ : zM) (hk0 : z_kd k0 = (5, 0)) (hσ : z_okm σ) (h : SX5_countThere [.inr (.inr (5, 0, k0))] σ Ret) : X 0 [some (.inr (.inr (5, 0, k0))), none, none] [] σ := by
  generalize hf : (fun r : Nat => if σ (k0 + 1) r = 0 then (0 : Int) else 1) = f
  have h : Ret (some (.inl (z_sumf f 8))) σ := by rw [← hf]; exact h
  have fe : ∀ r, f r = if σ (k0 + 1) r = 0 then (0 : Int) else 1 := fun r => by rw [← hf]
  have hb := z_sumf_01 f (fun i => by rw [fe]; split <;> simp)
  have loop : ∀ (d r : Nat), r + d = 8 → X 4 [some (.inr (.inr (5, 0, k0))), some (.inl (z_sumf f r)), some (.inl (r : Int))] [] σ := by
    intro d
    induction d with
    | zero =>
      intro r hr
      refine h4 _ _ _ ?_
      simp only [z_push, z_lpush, z_iload, z_lload, z_aload, z_istore, z_istoreP, z_lstore, z_astore, z_iinc, z_iincP, z_iadd, z_isub, z_imul, z_iaddW, z_isubW, z_imulW, z_idiv, z_irem, z_iand, z_ior, z_ixor, z_ishl, z_ishr, z_iushr, z_ineg, z_i2l, z_i2b, z_i2s, z_i2c, z_l2i, z_ladd, z_lsub, z_land, z_lor, z_lshl, z_lshr, z_lcmp, z_dup, z_pop, z_dup2, z_goto, z_tsw, z_cases, z_geti, z_getr, z_puti, z_putz, z_ald, z_iast, z_bast, z_zast, z_alen, z_acopy, z_mmax, z_mmin, z_mabs, z_mabsL, z_iret, z_zret, z_nret, z_lret, z_aret, z_vret, z_cat, z_ldcs, z_strv, z_strc, z_gcs, z_gfm, z_sln, z_sald, z_ifeq, z_ifne, z_iflt, z_ifge, z_ifgt, z_ifle, z_iceq, z_icne, z_iclt, z_icge, z_icgt, z_icle, z_cs0, z_cs1, z_cs2, z_cs3, z_cs4, z_cs5, z_cs6, z_cs7, z_cv0, z_cv1, z_cv2, z_cv3, z_cv4, z_cv5, z_cv6, z_cv7, z_g0, z_s0, z_g1, z_s1, z_g2, z_s2, z_g3, z_s3, z_g4, z_s4, z_g5, z_s5, z_g6, z_s6, z_g7, z_s7, z_g8, z_s8, z_g9, z_s9, z_g10, z_s10, z_g11, z_s11, z_g12, z_s12, z_g13, z_s13, z_b0, z_b1, z_b0n, z_b1n, z_up_far1, z_up_far2, z_up_far3, z_up_far4, z_up_far5, z_up_far6, Classical.not_not, not_true_eq_false, z_in, z_inL, Int.cast_ofNat_Int, Nat.reduceLeDiff, List.length_cons, List.length_nil, Nat.reduceAdd, Nat.zero_add, Nat.le_refl, true_and, and_true, List.length, Nat.reduceLT, true_or, or_true, false_or, or_false, false_and, and_false, not_true_eq_false, not_false_eq_true, forall_const, false_implies, true_implies, Int.reduceEq, Int.reduceLT, Int.reduceLE, Int.reduceAdd, Int.reduceSub, Int.reduceMul, Int.reduceNeg, Int.reduceToNat, Int.toNat_natCast, ↓reduceIte, reduceIte, Nat.reduceEqDiff, Nat.reduceSub, Nat.reduceMul, ne_eq, Int.zero_add, Int.add_zero, Int.sub_zero, Nat.add_zero, Int.ofNat_eq_natCast, tX5_countThere_4]
      have e : r = 8 := by omega
      subst e
      repeat' (first | (intro _) | (with_reducible assumption) | (refine And.intro ?_ ?_))
      all_goals first | omega | assumption | (refine z_fin h ?_ rfl; first | rfl | omega | (split <;> omega) | (split <;> split <;> omega)) | skip
    | succ d ih =>
      intro r hr
      have hb1 := hb r
      have e1 := ih (r + 1) (by omega)
      simp only [z_sumf, fe] at e1
      refine h4 _ _ _ ?_
      simp only [z_push, z_lpush, z_iload, z_lload, z_aload, z_istore, z_istoreP, z_lstore, z_astore, z_iinc, z_iincP, z_iadd, z_isub, z_imul, z_iaddW, z_isubW, z_imulW, z_idiv, z_irem, z_iand, z_ior, z_ixor, z_ishl, z_ishr, z_iushr, z_ineg, z_i2l, z_i2b, z_i2s, z_i2c, z_l2i, z_ladd, z_lsub, z_land, z_lor, z_lshl, z_lshr, z_lcmp, z_dup, z_pop, z_dup2, z_goto, z_tsw, z_cases, z_geti, z_getr, z_puti, z_putz, z_ald, z_iast, z_bast, z_zast, z_alen, z_acopy, z_mmax, z_mmin, z_mabs, z_mabsL, z_iret, z_zret, z_nret, z_lret, z_aret, z_vret, z_cat, z_ldcs, z_strv, z_strc, z_gcs, z_gfm, z_sln, z_sald, z_ifeq, z_ifne, z_iflt, z_ifge, z_ifgt, z_ifle, z_iceq, z_icne, z_iclt, z_icge, z_icgt, z_icle, z_cs0, z_cs1, z_cs2, z_cs3, z_cs4, z_cs5, z_cs6, z_cs7, z_cv0, z_cv1, z_cv2, z_cv3, z_cv4, z_cv5, z_cv6, z_cv7, z_g0, z_s0, z_g1, z_s1, z_g2, z_s2, z_g3, z_s3, z_g4, z_s4, z_g5, z_s5, z_g6, z_s6, z_g7, z_s7, z_g8, z_s8, z_g9, z_s9, z_g10, z_s10, z_g11, z_s11, z_g12, z_s12, z_g13, z_s13, z_b0, z_b1, z_b0n, z_b1n, z_up_far1, z_up_far2, z_up_far3, z_up_far4, z_up_far5, z_up_far6, Classical.not_not, not_true_eq_false, z_in, z_inL, Int.cast_ofNat_Int, Nat.reduceLeDiff, List.length_cons, List.length_nil, Nat.reduceAdd, Nat.zero_add, Nat.le_refl, true_and, and_true, List.length, Nat.reduceLT, true_or, or_true, false_or, or_false, false_and, and_false, not_true_eq_false, not_false_eq_true, forall_const, false_implies, true_implies, Int.reduceEq, Int.reduceLT, Int.reduceLE, Int.reduceAdd, Int.reduceSub, Int.reduceMul, Int.reduceNeg, Int.reduceToNat, Int.toNat_natCast, ↓reduceIte, reduceIte, Nat.reduceEqDiff, Nat.reduceSub, Nat.reduceMul, ne_eq, Int.zero_add, Int.add_zero, Int.sub_zero, Nat.add_zero, Int.ofNat_eq_natCast, tX5_countThere_4]
      repeat' (first | (intro _) | (with_reducible assumption) | (refine And.intro ?_ ?_))
      all_goals first | omega | assumption | (refine z_fin h ?_ rfl; first | rfl | omega | (split <;> omega) | (split <;> split <;> omega)) | skip
      all_goals
        rename_i q
        simp only [q, if_true, if_false, not_false_eq_true, Int.add_zero] at e1
        exact e1
  refine h0 _ _ _ ?_
  simp only [z_push, z_lpush, z_iload, z_lload, z_aload, z_istore, z_istoreP, z_lstore, z_astore, z_iinc, z_iincP, z_iadd, z_isub, z_imul, z_iaddW, z_isubW, z_imulW, z_idiv, z_irem, z_iand, z_ior, z_ixor, z_ishl, z_ishr, z_iushr, z_ineg, z_i2l, z_i2b, z_i2s, z_i2c, z_l2i, z_ladd, z_lsub, z_land, z_lor, z_lshl, z_lshr, z_lcmp, z_dup, z_pop, z_dup2, z_goto, z_tsw, z_cases, z_geti, z_getr, z_puti, z_putz, z_ald, z_iast, z_bast, z_zast, z_alen, z_acopy, z_mmax, z_mmin, z_mabs, z_mabsL, z_iret, z_zret, z_nret, z_lret, z_aret, z_vret, z_cat, z_ldcs, z_strv, z_strc, z_gcs, z_gfm, z_sln, z_sald, z_ifeq, z_ifne, z_iflt, z_ifge, z_ifgt, z_ifle, z_iceq, z_icne, z_iclt, z_icge, z_icgt, z_icle, z_cs0, z_cs1, z_cs2, z_cs3, z_cs4, z_cs5, z_cs6, z_cs7, z_cv0, z_cv1, z_cv2, z_cv3, z_cv4, z_cv5, z_cv6, z_cv7, z_g0, z_s0, z_g1, z_s1, z_g2, z_s2, z_g3, z_s3, z_g4, z_s4, z_g5, z_s5, z_g6, z_s6, z_g7, z_s7, z_g8, z_s8, z_g9, z_s9, z_g10, z_s10, z_g11, z_s11, z_g12, z_s12, z_g13, z_s13, z_b0, z_b1, z_b0n, z_b1n, z_up_far1, z_up_far2, z_up_far3, z_up_far4, z_up_far5, z_up_far6, Classical.not_not, not_true_eq_false, z_in, z_inL, Int.cast_ofNat_Int, Nat.reduceLeDiff, List.length_cons, List.length_nil, Nat.reduceAdd, Nat.zero_add, Nat.le_refl, true_and, and_true, List.length, Nat.reduceLT, true_or, or_true, false_or, or_false, false_and, and_false, not_true_eq_false, not_false_eq_true, forall_const, false_implies, true_implies, Int.reduceEq, Int.reduceLT, Int.reduceLE, Int.reduceAdd, Int.reduceSub, Int.reduceMul, Int.reduceNeg, Int.reduceToNat, Int.toNat_natCast, ↓reduceIte, reduceIte, Nat.reduceEqDiff, Nat.reduceSub, Nat.reduceMul, ne_eq, Int.zero_add, Int.add_zero, Int.sub_zero, Nat.add_zero, Int.ofNat_eq_natCast, tX5_countThere_0]
  exact loop 8 0 (by omega)
theorem dX5_countThere_0 : decode cX5_countThere 0 = .ok (.iconst 0, 1) := by decide +kernel
theorem dX5_countThere_1 : decode cX5_countThere 1 = .ok (.istore_n 1, 1) := by decide +kernel
theorem dX5_countThere_2 : decode cX5_countThere 2 = .ok (.iconst 0, 1) := by decide +kernel
theorem dX5_countThere_3 : decode cX5_countThere 3 = .ok (.istore_n 2, 1) := by decide +kernel
theorem dX5_countThere_4 : decode cX5_countThere 4 = .ok (.iload_n 2, 1) := by decide +kernel
theorem dX5_countThere_5 : decode cX5_countThere 5 = .ok (.bipush 8, 2) := by decide +kernel
theorem dX5_countThere_7 : decode cX5_countThere 7 = .ok (.if_icmp .ge 26, 3) := by decide +kernel
theorem dX5_countThere_10 : decode cX5_countThere 10 = .ok (.iload_n 1, 1) := by decide +kernel
theorem dX5_countThere_11 : decode cX5_countThere 11 = .ok (.aload_n 0, 1) := by decide +kernel
theorem dX5_countThere_12 : decode cX5_countThere 12 = .ok (.getfield 9, 3) := by decide +kernel
theorem dX5_countThere_15 : decode cX5_countThere 15 = .ok (.iload_n 2, 1) := by decide +kernel
theorem dX5_countThere_16 : decode cX5_countThere 16 = .ok (.baload, 1) := by decide +kernel
theorem dX5_countThere_17 : decode cX5_countThere 17 = .ok (.ifCond .eq 7, 3) := by decide +kernel
theorem dX5_countThere_20 : decode cX5_countThere 20 = .ok (.iconst 1, 1) := by decide +kernel
theorem dX5_countThere_21 : decode cX5_countThere 21 = .ok (.goto 4, 3) := by decide +kernel
theorem dX5_countThere_24 : decode cX5_countThere 24 = .ok (.iconst 0, 1) := by decide +kernel
theorem dX5_countThere_25 : decode cX5_countThere 25 = .ok (.iadd, 1) := by decide +kernel
theorem dX5_countThere_26 : decode cX5_countThere 26 = .ok (.istore_n 1, 1) := by decide +kernel
theorem dX5_countThere_27 : decode cX5_countThere 27 = .ok (.iinc 2 1, 3) := by decide +kernel
theorem dX5_countThere_30 : decode cX5_countThere 30 = .ok (.goto (-26), 3) := by decide +kernel
theorem dX5_countThere_33 : decode cX5_countThere 33 = .ok (.iload_n 1, 1) := by decide +kernel
theorem dX5_countThere_34 : decode cX5_countThere 34 = .ok (.ireturn, 1) := by decide +kernel
set_option maxRecDepth 100000 in
theorem rX5_countThere_0 {p : Program} {l : Launch} {e : Env} {s : State} {m : MethodId} {args : Array Value} {below : List Frame} {meth : Method} {c : Code} {D : va_G} {cA : Nat → ClassId} {ad : Nat → Nat} {Ret : zR} (C : z_Cx p { frames := 0, cells := 0, slots := 0, locals := 0 } s m args c cX5_countThere yX5_countThere.cls 3 D cA ad) (hr : meth.sig.returnType = (some .int)) (hlocks : meth.locks = false) : ∀ L st σ, tX5_countThere_0 (z_X p l e { frames := 0, cells := 0, slots := 0, locals := 0 } s m args below meth c (MQ below (z_Qc D cA ad Ret) args s 0 0 (z_A ad)) 3 D cA ad true) Ret L st σ → z_X p l e { frames := 0, cells := 0, slots := 0, locals := 0 } s m args below meth c (MQ below (z_Qc D cA ad Ret) args s 0 0 (z_A ad)) 3 D cA ad true 0 L st σ := (s_iconst C dX5_countThere_0 rfl ⟨by decide, by decide⟩ (s_istore_n C dX5_countThere_1 (by decide) rfl rfl (s_iconst C dX5_countThere_2 rfl ⟨by decide, by decide⟩ (s_istore_n C dX5_countThere_3 (by decide) rfl rfl (fun _ _ _ h => h)))))
set_option maxRecDepth 100000 in
theorem rX5_countThere_4 {p : Program} {l : Launch} {e : Env} {s : State} {m : MethodId} {args : Array Value} {below : List Frame} {meth : Method} {c : Code} {D : va_G} {cA : Nat → ClassId} {ad : Nat → Nat} {Ret : zR} (C : z_Cx p { frames := 0, cells := 0, slots := 0, locals := 0 } s m args c cX5_countThere yX5_countThere.cls 3 D cA ad) (hr : meth.sig.returnType = (some .int)) (hlocks : meth.locks = false) : ∀ L st σ, tX5_countThere_4 (z_X p l e { frames := 0, cells := 0, slots := 0, locals := 0 } s m args below meth c (MQ below (z_Qc D cA ad Ret) args s 0 0 (z_A ad)) 3 D cA ad true) Ret L st σ → z_X p l e { frames := 0, cells := 0, slots := 0, locals := 0 } s m args below meth c (MQ below (z_Qc D cA ad Ret) args s 0 0 (z_A ad)) 3 D cA ad true 4 L st σ := (s_iload_n C dX5_countThere_4 rfl (s_bipush C dX5_countThere_5 rfl ⟨by decide, by decide⟩ (s_icge C dX5_countThere_7 (by decide) (s_iload_n C dX5_countThere_33 rfl (s_iret C dX5_countThere_34 hr hlocks)) (s_iload_n C dX5_countThere_10 rfl (s_aload_n C dX5_countThere_11 rfl (s_getr C dX5_countThere_12 (j := 0) cls_X5 (by decide) rfl (by decide) (by decide) (by decide +kernel) wd_139 (s_iload_n C dX5_countThere_15 rfl (s_zald C dX5_countThere_16 (s_ifeq C dX5_countThere_17 (by decide) (s_iconst C dX5_countThere_24 rfl ⟨by decide, by decide⟩ (s_iadd C dX5_countThere_25 (s_istore_n C dX5_countThere_26 (by decide) rfl rfl (s_iinc C dX5_countThere_27 (by decide) rfl (s_goto C dX5_countThere_30 (by decide) (fun _ _ _ h => h)))))) (s_iconst C dX5_countThere_20 rfl ⟨by decide, by decide⟩ (s_goto C dX5_countThere_21 (by decide) (s_iadd C dX5_countThere_25 (s_istore_n C dX5_countThere_26 (by decide) rfl rfl (s_iinc C dX5_countThere_27 (by decide) rfl (s_goto C dX5_countThere_30 (by decide) (fun _ _ _ h => h))))))))))))))))
theorem okX5_countThere (l : Launch) : z_OK l yX5_countThere cX5_countThere 3 (some .int) 0 0 SX5_countThere := by
  refine z_ok_of true (by decide +kernel) ?_ ?_
  · intro as σ Ret h
    obtain ⟨k0, rfl⟩ := pX5_countThere h
    exact ⟨Nat.le_of_ble_eq_true rfl, by simp⟩
  · intro p e s m args below meth c D cA ad Ret C hr hlocks as σ has hσ h
    obtain ⟨k0, rfl⟩ := pX5_countThere h
    exact vX5_countThere (rX5_countThere_0 C hr hlocks) (rX5_countThere_4 C hr hlocks) k0 σ (has _ (List.mem_of_getElem? (i := 0) rfl)) hσ h
