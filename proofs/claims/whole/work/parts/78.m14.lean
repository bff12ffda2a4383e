/-! years in the model -/
def q_gr (σ : zM) (n : Nat) : zM := fun c j => if c = 98 ∧ j < n ∧ σ 93 (6 + 6 * j + 4) = 0 ∧ σ 93 (6 + 6 * j + 5) = 0 then max 10 (min 999 (σ 98 j + σ 93 (6 + 6 * j + 3))) else σ c j
theorem q_gr_ne {σ : zM} {n c j : Nat} (h : c ≠ 98) : q_gr σ n c j = σ c j := by
  unfold q_gr
  rw [if_neg (fun q => h q.1)]
theorem q_gr_ge {σ : zM} {n j : Nat} (h : n ≤ j) : q_gr σ n 98 j = σ 98 j := by
  unfold q_gr
  rw [if_neg (by omega)]
theorem q_gr_0 {σ : zM} : q_gr σ 0 = σ := by
  funext c j
  unfold q_gr
  rw [if_neg (by omega)]
theorem q_gr_S {σ : zM} {n : Nat} (h : σ 93 (6 + 6 * n + 4) = 0 ∧ σ 93 (6 + 6 * n + 5) = 0) : z_up (q_gr σ n) 98 n (max 10 (min 999 (σ 98 n + σ 93 (6 + 6 * n + 3)))) = q_gr σ (n + 1) := by
  funext c j
  simp only [z_up, q_gr]
  by_cases e : c = 98 ∧ j = n
  · obtain ⟨rfl, rfl⟩ := e
    rw [if_pos ⟨rfl, rfl⟩, if_pos ⟨rfl, by omega, h⟩]
  · rw [if_neg e]
    by_cases e2 : c = 98 ∧ j < n ∧ σ 93 (6 + 6 * j + 4) = 0 ∧ σ 93 (6 + 6 * j + 5) = 0
    · rw [if_pos e2, if_pos ⟨e2.1, by omega, e2.2.2⟩]
    · rw [if_neg e2, if_neg (fun q => e2 ⟨q.1, by omega, q.2.2⟩)]
theorem q_gr_N {σ : zM} {n : Nat} (h : ¬ (σ 93 (6 + 6 * n + 4) = 0 ∧ σ 93 (6 + 6 * n + 5) = 0)) : q_gr σ n = q_gr σ (n + 1) := by
  funext c j
  simp only [q_gr]
  by_cases e2 : c = 98 ∧ j < n ∧ σ 93 (6 + 6 * j + 4) = 0 ∧ σ 93 (6 + 6 * j + 5) = 0
  · rw [if_pos e2, if_pos ⟨e2.1, by omega, e2.2.2⟩]
  · rw [if_neg e2, if_neg (fun q => by
      by_cases e3 : j = n
      · subst e3; exact h q.2.2
      · exact e2 ⟨q.1, by omega, q.2.2⟩)]
def SX10_grow : zS := fun as σ Ret => match as with
  | [.inr (.inr (10, 0, _))] => (q_Dok (σ 93) ∧ ∀ t : Nat, (t : Int) < σ 93 0 → 0 ≤ σ 98 t ∧ σ 98 t ≤ 999) ∧ Ret none (q_gr σ (σ 93 0).toNat)
  | _ => False
def tX10_grow_0 (X : Nat → zB) (Ret : zR) (L : zL) (st : List zV) (σ : zM) : Prop := (z_push 0 (z_istore 1 (X 2))) L st σ
def tX10_grow_2 (X : Nat → zB) (Ret : zR) (L : zL) (st : List zV) (σ : zM) : Prop := (z_iload 1 (z_aload 0 (z_getr 10 4 100 106 (z_push 0 (z_ald 0 (z_icge (z_vret Ret) (z_aload 0 (z_iload 1 (z_push 4 (z_cv2 10 SX10_of (z_ifne (z_iinc 1 1 (z_goto (X 2))) (z_aload 0 (z_iload 1 (z_push 5 (z_cv2 10 SX10_of (z_ifne (z_iinc 1 1 (z_goto (X 2))) (z_aload 0 (z_getr 10 9 100 12 (z_iload 1 (z_aload 0 (z_aload 0 (z_getr 10 9 100 12 (z_iload 1 (z_ald 0 (z_aload 0 (z_iload 1 (z_push 3 (z_cv2 10 SX10_of (z_iadd (z_cv1 10 SX10_lengthOf (z_iast (z_iinc 1 1 (z_goto (X 2)))))))))))))))))))))))))))))))))) L st σ
theorem pX10_grow {as : List zV} {σ : zM} {Ret : zR} (h : SX10_grow as σ Ret) : ∃ (k0 : Nat), as = [.inr (.inr (10, 0, k0))] := by
  unfold SX10_grow at h
  split at h
  · exact ⟨_, rfl⟩
  · exact h.elim
set_option maxRecDepth 10000 in
set_option maxHeartbeats 4000000 in
theorem vX10_grow {X : Nat → zB} {Ret : zR} (h0 : ∀ L st σ, tX10_grow_0 X Ret L st σ → X 0 L st σ) (h2 : ∀ L st σ, tX10_grow_2 X Ret L st σ → X 2 L st σ) (k0 : Nat) (σ : zM) (hk0 : z_kd k0 = (10, 0)) (hσ : z_okm σ) (h : SX10_grow [.inr (.inr (10, 0, k0))] σ Ret) : X 0 [some (.inr (.inr (10, 0, k0))), none] [] σ := by
  obtain ⟨⟨K, sp⟩, h⟩ := h
  obtain rfl := z_kd10 hk0
  have k0 := K.1.1
  obtain ⟨n, hn⟩ := z_nat k0.1
  rw [hn, Int.toNat_natCast] at h
  have L2 : ∀ (d i : Nat), i + d = n → X 2 [some (.inr (.inr (10, 0, 89))), some (.inl (i : Int))] [] (q_gr σ i) := by
    intro d
    induction d with
    | zero =>
      intro i hi
      obtain rfl : i = n := by omega
      have e0 : q_gr σ i 93 0 = i := by rw [q_gr_ne (by omega), hn]
      refine h2 _ _ _ ?_
      simp only [z_push, z_lpush, z_iload, z_lload, z_aload, z_istore, z_istoreP, z_lstore, z_astore, z_iinc, z_iincP, z_iadd, z_isub, z_imul, z_iaddW, z_isubW, z_imulW, z_idiv, z_irem, z_iand, z_ior, z_ixor, z_ishl, z_ishr, z_iushr, z_ineg, z_i2l, z_i2b, z_i2s, z_i2c, z_l2i, z_ladd, z_lsub, z_land, z_lor, z_lshl, z_lshr, z_lcmp, z_dup, z_pop, z_dup2, z_goto, z_tsw, z_cases, z_geti, z_getr, z_puti, z_putz, z_ald, z_iast, z_bast, z_zast, z_alen, z_acopy, z_mmax, z_mmin, z_mabs, z_mabsL, z_iret, z_zret, z_nret, z_lret, z_aret, z_vret, z_cat, z_ldcs, z_strv, z_strc, z_gcs, z_gfm, z_sln, z_sald, z_ifeq, z_ifne, z_iflt, z_ifge, z_ifgt, z_ifle, z_iceq, z_icne, z_iclt, z_icge, z_icgt, z_icle, z_cs0, z_cs1, z_cs2, z_cs3, z_cs4, z_cs5, z_cs6, z_cs7, z_cv0, z_cv1, z_cv2, z_cv3, z_cv4, z_cv5, z_cv6, z_cv7, z_g0, z_s0, z_g1, z_s1, z_g2, z_s2, z_g3, z_s3, z_g4, z_s4, z_g5, z_s5, z_g6, z_s6, z_g7, z_s7, z_g8, z_s8, z_g9, z_s9, z_g10, z_s10, z_g11, z_s11, z_g12, z_s12, z_g13, z_s13, z_b0, z_b1, z_b0n, z_b1n, z_up_far1, z_up_far2, z_up_far3, z_up_far4, z_up_far5, z_up_far6, Classical.not_not, not_true_eq_false, z_in, z_inL, Int.cast_ofNat_Int, Nat.reduceLeDiff, List.length_cons, List.length_nil, Nat.reduceAdd, Nat.zero_add, Nat.le_refl, true_and, and_true, List.length, Nat.reduceLT, true_or, or_true, false_or, or_false, false_and, and_false, not_true_eq_false, not_false_eq_true, forall_const, false_implies, true_implies, Int.reduceEq, Int.reduceLT, Int.reduceLE, Int.reduceAdd, Int.reduceSub, Int.reduceMul, Int.reduceNeg, Int.reduceToNat, Int.toNat_natCast, ↓reduceIte, reduceIte, Nat.reduceEqDiff, Nat.reduceSub, Nat.reduceMul, ne_eq, Int.zero_add, Int.add_zero, Int.sub_zero, Nat.add_zero, Int.ofNat_eq_natCast, tX10_grow_2, e0]
      repeat' (first | (intro _) | (with_reducible assumption) | (refine And.intro ?_ ?_))
      all_goals first | omega | assumption | (refine z_fin h ?_ rfl; first | rfl | omega | (split <;> omega) | (split <;> split <;> omega)) | skip
    | succ d ih =>
      intro i hi
      have nx := ih (i + 1) (by omega)
      have e0 : ∀ j, q_gr σ i 93 j = σ 93 j := fun j => q_gr_ne (by omega)
      have e98 : q_gr σ i 98 i = σ 98 i := q_gr_ge (by omega)
      have q := K.2.1 i (by omega)
      have s1 := sp i (by omega)
      refine h2 _ _ _ ?_
      simp only [z_push, z_lpush, z_iload, z_lload, z_aload, z_istore, z_istoreP, z_lstore, z_astore, z_iinc, z_iincP, z_iadd, z_isub, z_imul, z_iaddW, z_isubW, z_imulW, z_idiv, z_irem, z_iand, z_ior, z_ixor, z_ishl, z_ishr, z_iushr, z_ineg, z_i2l, z_i2b, z_i2s, z_i2c, z_l2i, z_ladd, z_lsub, z_land, z_lor, z_lshl, z_lshr, z_lcmp, z_dup, z_pop, z_dup2, z_goto, z_tsw, z_cases, z_geti, z_getr, z_puti, z_putz, z_ald, z_iast, z_bast, z_zast, z_alen, z_acopy, z_mmax, z_mmin, z_mabs, z_mabsL, z_iret, z_zret, z_nret, z_lret, z_aret, z_vret, z_cat, z_ldcs, z_strv, z_strc, z_gcs, z_gfm, z_sln, z_sald, z_ifeq, z_ifne, z_iflt, z_ifge, z_ifgt, z_ifle, z_iceq, z_icne, z_iclt, z_icge, z_icgt, z_icle, z_cs0, z_cs1, z_cs2, z_cs3, z_cs4, z_cs5, z_cs6, z_cs7, z_cv0, z_cv1, z_cv2, z_cv3, z_cv4, z_cv5, z_cv6, z_cv7, z_g0, z_s0, z_g1, z_s1, z_g2, z_s2, z_g3, z_s3, z_g4, z_s4, z_g5, z_s5, z_g6, z_s6, z_g7, z_s7, z_g8, z_s8, z_g9, z_s9, z_g10, z_s10, z_g11, z_s11, z_g12, z_s12, z_g13, z_s13, z_b0, z_b1, z_b0n, z_b1n, z_up_far1, z_up_far2, z_up_far3, z_up_far4, z_up_far5, z_up_far6, Classical.not_not, not_true_eq_false, z_in, z_inL, Int.cast_ofNat_Int, Nat.reduceLeDiff, List.length_cons, List.length_nil, Nat.reduceAdd, Nat.zero_add, Nat.le_refl, true_and, and_true, List.length, Nat.reduceLT, true_or, or_true, false_or, or_false, false_and, and_false, not_true_eq_false, not_false_eq_true, forall_const, false_implies, true_implies, Int.reduceEq, Int.reduceLT, Int.reduceLE, Int.reduceAdd, Int.reduceSub, Int.reduceMul, Int.reduceNeg, Int.reduceToNat, Int.toNat_natCast, ↓reduceIte, reduceIte, Nat.reduceEqDiff, Nat.reduceSub, Nat.reduceMul, ne_eq, Int.zero_add, Int.add_zero, Int.sub_zero, Nat.add_zero, Int.ofNat_eq_natCast, tX10_grow_2, SX10_of, SX10_lengthOf, e0, hn, e98]
      by_cases c : σ 93 (6 + 6 * i + 4) = 0 ∧ σ 93 (6 + 6 * i + 5) = 0
      · rw [← q_gr_S c] at nx
        repeat' (first | (intro _) | (with_reducible assumption) | (refine And.intro ?_ ?_))
        all_goals first | omega | assumption | (refine z_fin nx ?_ rfl; first | rfl | omega | (split <;> omega) | (split <;> split <;> omega)) | skip
        all_goals (exfalso; omega)
      · rw [← q_gr_N c] at nx
        repeat' (first | (intro _) | (with_reducible assumption) | (refine And.intro ?_ ?_))
        all_goals first | omega | assumption | (refine z_fin nx ?_ rfl; first | rfl | omega | (split <;> omega) | (split <;> split <;> omega)) | skip
        all_goals (exfalso; omega)
  have nx := L2 n 0 (by omega)
  rw [q_gr_0] at nx
  refine h0 _ _ _ ?_
  simp only [z_push, z_lpush, z_iload, z_lload, z_aload, z_istore, z_istoreP, z_lstore, z_astore, z_iinc, z_iincP, z_iadd, z_isub, z_imul, z_iaddW, z_isubW, z_imulW, z_idiv, z_irem, z_iand, z_ior, z_ixor, z_ishl, z_ishr, z_iushr, z_ineg, z_i2l, z_i2b, z_i2s, z_i2c, z_l2i, z_ladd, z_lsub, z_land, z_lor, z_lshl, z_lshr, z_lcmp, z_dup, z_pop, z_dup2, z_goto, z_tsw, z_cases, z_geti, z_getr, z_puti, z_putz, z_ald, z_iast, z_bast, z_zast, z_alen, z_acopy, z_mmax, z_mmin, z_mabs, z_mabsL, z_iret, z_zret, z_nret, z_lret, z_aret, z_vret, z_cat, z_ldcs, z_strv, z_strc, z_gcs, z_gfm, z_sln, z_sald, z_ifeq, z_ifne, z_iflt, z_ifge, z_ifgt, z_ifle, z_iceq, z_icne, z_iclt, z_icge, z_icgt, z_icle, z_cs0, z_cs1, z_cs2, z_cs3, z_cs4, z_cs5, z_cs6, z_cs7, z_cv0, z_cv1, z_cv2, z_cv3, z_cv4, z_cv5, z_cv6, z_cv7, z_g0, z_s0, z_g1, z_s1, z_g2, z_s2, z_g3, z_s3, z_g4, z_s4, z_g5, z_s5, z_g6, z_s6, z_g7, z_s7, z_g8, z_s8, z_g9, z_s9, z_g10, z_s10, z_g11, z_s11, z_g12, z_s12, z_g13, z_s13, z_b0, z_b1, z_b0n, z_b1n, z_up_far1, z_up_far2, z_up_far3, z_up_far4, z_up_far5, z_up_far6, Classical.not_not, not_true_eq_false, z_in, z_inL, Int.cast_ofNat_Int, Nat.reduceLeDiff, List.length_cons, List.length_nil, Nat.reduceAdd, Nat.zero_add, Nat.le_refl, true_and, and_true, List.length, Nat.reduceLT, true_or, or_true, false_or, or_false, false_and, and_false, not_true_eq_false, not_false_eq_true, forall_const, false_implies, true_implies, Int.reduceEq, Int.reduceLT, Int.reduceLE, Int.reduceAdd, Int.reduceSub, Int.reduceMul, Int.reduceNeg, Int.reduceToNat, Int.toNat_natCast, ↓reduceIte, reduceIte, Nat.reduceEqDiff, Nat.reduceSub, Nat.reduceMul, ne_eq, Int.zero_add, Int.add_zero, Int.sub_zero, Nat.add_zero, Int.ofNat_eq_natCast, tX10_grow_0]
  exact nx
theorem dX10_grow_0 : decode cX10_grow 0 = .ok (.iconst 0, 1) := by decide +kernel
theorem dX10_grow_1 : decode cX10_grow 1 = .ok (.istore_n 1, 1) := by decide +kernel
theorem dX10_grow_2 : decode cX10_grow 2 = .ok (.iload_n 1, 1) := by decide +kernel
theorem dX10_grow_3 : decode cX10_grow 3 = .ok (.aload_n 0, 1) := by decide +kernel
theorem dX10_grow_4 : decode cX10_grow 4 = .ok (.getfield 19, 3) := by decide +kernel
theorem dX10_grow_7 : decode cX10_grow 7 = .ok (.iconst 0, 1) := by decide +kernel
theorem dX10_grow_8 : decode cX10_grow 8 = .ok (.iaload, 1) := by decide +kernel
theorem dX10_grow_9 : decode cX10_grow 9 = .ok (.if_icmp .ge 50, 3) := by decide +kernel
theorem dX10_grow_12 : decode cX10_grow 12 = .ok (.aload_n 0, 1) := by decide +kernel
theorem dX10_grow_13 : decode cX10_grow 13 = .ok (.iload_n 1, 1) := by decide +kernel
theorem dX10_grow_14 : decode cX10_grow 14 = .ok (.iconst 4, 1) := by decide +kernel
theorem dX10_grow_15 : decode cX10_grow 15 = .ok (.invokevirtual 227, 3) := by decide +kernel
theorem dX10_grow_18 : decode cX10_grow 18 = .ok (.ifCond .ne 35, 3) := by decide +kernel
theorem dX10_grow_21 : decode cX10_grow 21 = .ok (.aload_n 0, 1) := by decide +kernel
theorem dX10_grow_22 : decode cX10_grow 22 = .ok (.iload_n 1, 1) := by decide +kernel
theorem dX10_grow_23 : decode cX10_grow 23 = .ok (.iconst 5, 1) := by decide +kernel
theorem dX10_grow_24 : decode cX10_grow 24 = .ok (.invokevirtual 227, 3) := by decide +kernel
theorem dX10_grow_27 : decode cX10_grow 27 = .ok (.ifCond .ne 26, 3) := by decide +kernel
theorem dX10_grow_30 : decode cX10_grow 30 = .ok (.aload_n 0, 1) := by decide +kernel
theorem dX10_grow_31 : decode cX10_grow 31 = .ok (.getfield 34, 3) := by decide +kernel
theorem dX10_grow_34 : decode cX10_grow 34 = .ok (.iload_n 1, 1) := by decide +kernel
theorem dX10_grow_35 : decode cX10_grow 35 = .ok (.aload_n 0, 1) := by decide +kernel
theorem dX10_grow_36 : decode cX10_grow 36 = .ok (.aload_n 0, 1) := by decide +kernel
theorem dX10_grow_37 : decode cX10_grow 37 = .ok (.getfield 34, 3) := by decide +kernel
theorem dX10_grow_40 : decode cX10_grow 40 = .ok (.iload_n 1, 1) := by decide +kernel
theorem dX10_grow_41 : decode cX10_grow 41 = .ok (.iaload, 1) := by decide +kernel
theorem dX10_grow_42 : decode cX10_grow 42 = .ok (.aload_n 0, 1) := by decide +kernel
theorem dX10_grow_43 : decode cX10_grow 43 = .ok (.iload_n 1, 1) := by decide +kernel
theorem dX10_grow_44 : decode cX10_grow 44 = .ok (.iconst 3, 1) := by decide +kernel
theorem dX10_grow_45 : decode cX10_grow 45 = .ok (.invokevirtual 227, 3) := by decide +kernel
theorem dX10_grow_48 : decode cX10_grow 48 = .ok (.iadd, 1) := by decide +kernel
theorem dX10_grow_49 : decode cX10_grow 49 = .ok (.invokevirtual 216, 3) := by decide +kernel
theorem dX10_grow_52 : decode cX10_grow 52 = .ok (.iastore, 1) := by decide +kernel
theorem dX10_grow_53 : decode cX10_grow 53 = .ok (.iinc 1 1, 3) := by decide +kernel
theorem dX10_grow_56 : decode cX10_grow 56 = .ok (.goto (-54), 3) := by decide +kernel
theorem dX10_grow_59 : decode cX10_grow 59 = .ok (.return_, 1) := by decide +kernel
set_option maxRecDepth 100000 in
theorem rX10_grow_0 {p : Program} {l : Launch} {e : Env} {s : State} {m : MethodId} {args : Array Value} {below : List Frame} {meth : Method} {c : Code} {D : va_G} {cA : Nat → ClassId} {ad : Nat → Nat} {Ret : zR} (C : z_Cx p { frames := 1, cells := 0, slots := 0, locals := 22 } s m args c cX10_grow yX10_grow.cls 2 D cA ad) (hr : meth.sig.returnType = none) (hlocks : meth.locks = false) : ∀ L st σ, tX10_grow_0 (z_X p l e { frames := 1, cells := 0, slots := 0, locals := 22 } s m args below meth c (MQ below (z_Qc D cA ad Ret) args s 0 0 (z_A ad)) 2 D cA ad true) Ret L st σ → z_X p l e { frames := 1, cells := 0, slots := 0, locals := 22 } s m args below meth c (MQ below (z_Qc D cA ad Ret) args s 0 0 (z_A ad)) 2 D cA ad true 0 L st σ := (s_iconst C dX10_grow_0 rfl ⟨by decide, by decide⟩ (s_istore_n C dX10_grow_1 (by decide) rfl rfl (fun _ _ _ h => h)))
set_option maxRecDepth 100000 in
theorem rX10_grow_2 {p : Program} {l : Launch} {e : Env} {s : State} {m : MethodId} {args : Array Value} {below : List Frame} {meth : Method} {c : Code} {D : va_G} {cA : Nat → ClassId} {ad : Nat → Nat} {Ret : zR} (C : z_Cx p { frames := 1, cells := 0, slots := 0, locals := 22 } s m args c cX10_grow yX10_grow.cls 2 D cA ad) (hr : meth.sig.returnType = none) (hlocks : meth.locks = false) : ∀ L st σ, tX10_grow_2 (z_X p l e { frames := 1, cells := 0, slots := 0, locals := 22 } s m args below meth c (MQ below (z_Qc D cA ad Ret) args s 0 0 (z_A ad)) 2 D cA ad true) Ret L st σ → z_X p l e { frames := 1, cells := 0, slots := 0, locals := 22 } s m args below meth c (MQ below (z_Qc D cA ad Ret) args s 0 0 (z_A ad)) 2 D cA ad true 2 L st σ := (s_iload_n C dX10_grow_2 rfl (s_aload_n C dX10_grow_3 rfl (s_getr C dX10_grow_4 (j := 5) cls_X10 (by decide) rfl (by decide) (by decide) (by decide +kernel) wd_973 (s_iconst C dX10_grow_7 rfl ⟨by decide, by decide⟩ (s_iald C dX10_grow_8 (s_icge C dX10_grow_9 (by decide) (s_vret C dX10_grow_59 hr hlocks) (s_aload_n C dX10_grow_12 rfl (s_iload_n C dX10_grow_13 rfl (s_iconst C dX10_grow_14 rfl ⟨by decide, by decide⟩ (s_cv2 C dX10_grow_15 (okX10_of l) cls_X10 wd_1232 wd_1234 wd_55 wd_85 wd_1235 ⟨by decide, by decide, by decide +kernel⟩ ⟨by decide, by decide⟩ (s_ifne C dX10_grow_18 (by decide) (s_iinc C dX10_grow_53 (by decide) rfl (s_goto C dX10_grow_56 (by decide) (fun _ _ _ h => h))) (s_aload_n C dX10_grow_21 rfl (s_iload_n C dX10_grow_22 rfl (s_iconst C dX10_grow_23 rfl ⟨by decide, by decide⟩ (s_cv2 C dX10_grow_24 (okX10_of l) cls_X10 wd_1232 wd_1234 wd_55 wd_85 wd_1235 ⟨by decide, by decide, by decide +kernel⟩ ⟨by decide, by decide⟩ (s_ifne C dX10_grow_27 (by decide) (s_iinc C dX10_grow_53 (by decide) rfl (s_goto C dX10_grow_56 (by decide) (fun _ _ _ h => h))) (s_aload_n C dX10_grow_30 rfl (s_getr C dX10_grow_31 (j := 21) cls_X10 (by decide) rfl (by decide) (by decide) (by decide +kernel) wd_989 (s_iload_n C dX10_grow_34 rfl (s_aload_n C dX10_grow_35 rfl (s_aload_n C dX10_grow_36 rfl (s_getr C dX10_grow_37 (j := 21) cls_X10 (by decide) rfl (by decide) (by decide) (by decide +kernel) wd_989 (s_iload_n C dX10_grow_40 rfl (s_iald C dX10_grow_41 (s_aload_n C dX10_grow_42 rfl (s_iload_n C dX10_grow_43 rfl (s_iconst C dX10_grow_44 rfl ⟨by decide, by decide⟩ (s_cv2 C dX10_grow_45 (okX10_of l) cls_X10 wd_1232 wd_1234 wd_55 wd_85 wd_1235 ⟨by decide, by decide, by decide +kernel⟩ ⟨by decide, by decide⟩ (s_iadd C dX10_grow_48 (s_cv1 C dX10_grow_49 (okX10_lengthOf l) cls_X10 wd_1211 wd_1213 wd_53 wd_85 wd_1214 ⟨by decide, by decide, by decide +kernel⟩ ⟨by decide, by decide⟩ (s_iast C dX10_grow_52 (s_iinc C dX10_grow_53 (by decide) rfl (s_goto C dX10_grow_56 (by decide) (fun _ _ _ h => h))))))))))))))))))))))))))))))))))
theorem okX10_grow (l : Launch) : z_OK l yX10_grow cX10_grow 2 none 1 22 SX10_grow := by
  refine z_ok_of true (by decide +kernel) ?_ ?_
  · intro as σ Ret h
    obtain ⟨k0, rfl⟩ := pX10_grow h
    exact ⟨Nat.le_of_ble_eq_true rfl, by simp⟩
  · intro p e s m args below meth c D cA ad Ret C hr hlocks as σ has hσ h
    obtain ⟨k0, rfl⟩ := pX10_grow h
    exact vX10_grow (rX10_grow_0 C hr hlocks) (rX10_grow_2 C hr hlocks) k0 σ (has _ (List.mem_of_getElem? (i := 0) rfl)) hσ h
/-- n years in the lengths laid out -/
def q_sp (σ : zM) (D : Nat → Int) (n : Int) : Prop := ∀ t : Nat, (t : Int) < D 0 → σ 98 t = q_gwD D n (6 + 6 * t + 0)
theorem q_gwD_at {D : Nat → Int} {n : Int} {t : Nat} (ht : (t : Int) < D 0) : q_gwD D n (6 + 6 * t + 0) = if D (6 + 6 * t + 4) = 0 ∧ D (6 + 6 * t + 5) = 0 then max 10 (min 999 (D (6 + 6 * t + 0) + n * D (6 + 6 * t + 3))) else D (6 + 6 * t + 0) := by
  unfold q_gwD
  simp only [Nat.add_zero]
  by_cases c : D (6 + 6 * t + 4) = 0 ∧ D (6 + 6 * t + 5) = 0
  · rw [if_pos c, if_pos ⟨by omega, c⟩]
  · rw [if_neg c, if_neg (fun q => c q.2)]
theorem q_gwD_0 {D : Nat → Int} (K : q_Dok D) {t : Nat} (ht : (t : Int) < D 0) : q_gwD D 0 (6 + 6 * t + 0) = D (6 + 6 * t + 0) := by
  rw [q_gwD_at ht, Int.zero_mul, Int.add_zero]
  have := K.2.1 t ht
  split
  · omega
  · rfl
theorem q_gwD_in {D : Nat → Int} (K : q_Dok D) {n : Int} {t : Nat} (ht : (t : Int) < D 0) : 10 ≤ q_gwD D n (6 + 6 * t + 0) ∧ q_gwD D n (6 + 6 * t + 0) ≤ 999 := by
  rw [q_gwD_at ht]
  have := K.2.1 t ht
  split
  · exact q_clamp _
  · exact this.1
theorem q_sp_S {σ σ' : zM} {D : Nat → Int} {n : Int} (K : q_Dok D) (hn : 0 ≤ n) (e : σ 93 = D) (h : q_sp σ D n) (g : ∀ j, σ' 98 j = q_gr σ (D 0).toNat 98 j) : q_sp σ' D (n + 1) := by
  intro t ht
  have q := K.2.1 t ht
  rw [g t, q_gwD_at ht]
  unfold q_gr
  rw [e, h t ht, q_gwD_at ht]
  have hm : (n + 1) * D (6 + 6 * t + 3) = n * D (6 + 6 * t + 3) + D (6 + 6 * t + 3) := by rw [Int.add_mul, Int.one_mul]
  have hp : 0 ≤ n * D (6 + 6 * t + 3) := Int.mul_nonneg hn (by omega)
  rw [hm]
  generalize n * D (6 + 6 * t + 3) = y at hp
  by_cases c : D (6 + 6 * t + 4) = 0 ∧ D (6 + 6 * t + 5) = 0
  · rw [if_pos c, if_pos c, if_pos ⟨rfl, by omega, c⟩]
    omega
  · rw [if_neg c, if_neg c, if_neg (fun q => c q.2.2)]
def SX10_go : zS := fun as σ Ret => match as with
  | [.inr (.inr (10, 0, _)), .inl n] => q_S10 (q_gGo n) (q_fGo n) σ Ret
  | _ => False
def tX10_go_0 (X : Nat → zB) (Ret : zR) (L : zL) (st : List zV) (σ : zM) : Prop := (z_aload 0 (z_push 0 (z_puti 10 0 (z_aload 0 (z_geti 10 7 (z_ifne (z_iload 1 (z_i2l (z_lpush 1 (z_lpush 60 (z_cs3 SX10_in (z_ifne (z_aload 0 (z_cv0 10 SX10_layLengths (z_push 0 (z_istore 2 (X 36))))) (z_push (-1000001) (z_iret Ret)))))))) (z_push (-1000002) (z_iret Ret)))))))) L st σ
def tX10_go_36 (X : Nat → zB) (Ret : zR) (L : zL) (st : List zV) (σ : zM) : Prop := (z_iload 2 (z_iload 1 (z_icge (z_push 0 (z_istore 2 (X 53))) (z_aload 0 (z_cv0 10 SX10_grow (z_iinc 2 1 (z_goto (X 36)))))))) L st σ
def tX10_go_53 (X : Nat → zB) (Ret : zR) (L : zL) (st : List zV) (σ : zM) : Prop := (z_iload 2 (z_aload 0 (z_getr 10 4 100 106 (z_push 0 (z_ald 0 (z_icge (z_aload 0 (z_getr 10 4 100 106 (z_push 3 (z_dup2 (z_ald 0 (z_iload 1 (z_iaddW (z_iast (z_aload 0 (z_getr 10 4 100 106 (z_push 3 (z_ald 0 (z_iret Ret))))))))))))) (z_aload 0 (z_getr 10 4 100 106 (z_push 6 (z_push 6 (z_iload 2 (z_imul (z_iadd (z_aload 0 (z_getr 10 9 100 12 (z_iload 2 (z_ald 0 (z_iast (z_iinc 2 1 (z_goto (X 53))))))))))))))))))))) L st σ
theorem pX10_go {as : List zV} {σ : zM} {Ret : zR} (h : SX10_go as σ Ret) : ∃ (k0 : Nat) (x1 : Int), as = [.inr (.inr (10, 0, k0)), .inl x1] := by
  unfold SX10_go at h
  split at h
  · exact ⟨_, _, rfl⟩
  · exact h.elim
set_option maxRecDepth 10000 in
set_option maxHeartbeats 4000000 in
theorem vX10_go {X : Nat → zB} {Ret : zR} (h0 : ∀ L st σ, tX10_go_0 X Ret L st σ → X 0 L st σ) (h36 : ∀ L st σ, tX10_go_36 X Ret L st σ → X 36 L st σ) (h53 : ∀ L st σ, tX10_go_53 X Ret L st σ → X 53 L st σ) (k0 : Nat) (x1 : Int) (σ : zM) (hk0 : z_kd k0 = (10, 0)) (hx1 : -2147483648 ≤ x1 ∧ x1 ≤ 2147483647) (hσ : z_okm σ) (h : SX10_go [.inr (.inr (10, 0, k0)), .inl x1] σ Ret) : X 0 [some (.inr (.inr (10, 0, k0))), some (.inl x1), none] [] σ := by
  obtain ⟨m, h⟩ := h
  obtain rfl := z_kd10 hk0
  have e7 : z_up σ 89 0 0 89 7 = σ 89 7 := z_up_ne (by omega)
  by_cases c1 : σ 89 7 = 0
  · have fin := h (z_up σ 89 0 0) q_th.1 (by unfold q_fGo; rw [if_pos c1]; exact q_th.2)
    simp only [q_gGo, if_pos c1] at fin
    rw [c1] at e7
    refine h0 _ _ _ ?_
    simp only [z_push, z_lpush, z_iload, z_lload, z_aload, z_istore, z_istoreP, z_lstore, z_astore, z_iinc, z_iincP, z_iadd, z_isub, z_imul, z_iaddW, z_isubW, z_imulW, z_idiv, z_irem, z_iand, z_ior, z_ixor, z_ishl, z_ishr, z_iushr, z_ineg, z_i2l, z_i2b, z_i2s, z_i2c, z_l2i, z_ladd, z_lsub, z_land, z_lor, z_lshl, z_lshr, z_lcmp, z_dup, z_pop, z_dup2, z_goto, z_tsw, z_cases, z_geti, z_getr, z_puti, z_putz, z_ald, z_iast, z_bast, z_zast, z_alen, z_acopy, z_mmax, z_mmin, z_mabs, z_mabsL, z_iret, z_zret, z_nret, z_lret, z_aret, z_vret, z_cat, z_ldcs, z_strv, z_strc, z_gcs, z_gfm, z_sln, z_sald, z_ifeq, z_ifne, z_iflt, z_ifge, z_ifgt, z_ifle, z_iceq, z_icne, z_iclt, z_icge, z_icgt, z_icle, z_cs0, z_cs1, z_cs2, z_cs3, z_cs4, z_cs5, z_cs6, z_cs7, z_cv0, z_cv1, z_cv2, z_cv3, z_cv4, z_cv5, z_cv6, z_cv7, z_g0, z_s0, z_g1, z_s1, z_g2, z_s2, z_g3, z_s3, z_g4, z_s4, z_g5, z_s5, z_g6, z_s6, z_g7, z_s7, z_g8, z_s8, z_g9, z_s9, z_g10, z_s10, z_g11, z_s11, z_g12, z_s12, z_g13, z_s13, z_b0, z_b1, z_b0n, z_b1n, z_up_far1, z_up_far2, z_up_far3, z_up_far4, z_up_far5, z_up_far6, Classical.not_not, not_true_eq_false, z_in, z_inL, Int.cast_ofNat_Int, Nat.reduceLeDiff, List.length_cons, List.length_nil, Nat.reduceAdd, Nat.zero_add, Nat.le_refl, true_and, and_true, List.length, Nat.reduceLT, true_or, or_true, false_or, or_false, false_and, and_false, not_true_eq_false, not_false_eq_true, forall_const, false_implies, true_implies, Int.reduceEq, Int.reduceLT, Int.reduceLE, Int.reduceAdd, Int.reduceSub, Int.reduceMul, Int.reduceNeg, Int.reduceToNat, Int.toNat_natCast, ↓reduceIte, reduceIte, Nat.reduceEqDiff, Nat.reduceSub, Nat.reduceMul, ne_eq, Int.zero_add, Int.add_zero, Int.sub_zero, Nat.add_zero, Int.ofNat_eq_natCast, tX10_go_0, SX10_in, e7]
    repeat' (first | (intro _) | (with_reducible assumption) | (refine And.intro ?_ ?_))
    all_goals first | omega | assumption | (refine z_fin fin ?_ rfl; first | rfl | omega | (split <;> omega) | (split <;> split <;> omega)) | skip
  by_cases c2 : ¬ (1 ≤ x1 ∧ x1 ≤ 60)
  · have fin := h (z_up σ 89 0 0) q_th.1 (by unfold q_fGo; rw [if_neg c1, if_pos c2]; exact q_th.2)
    simp only [q_gGo, if_neg c1, if_pos c2] at fin
    refine h0 _ _ _ ?_
    simp only [z_push, z_lpush, z_iload, z_lload, z_aload, z_istore, z_istoreP, z_lstore, z_astore, z_iinc, z_iincP, z_iadd, z_isub, z_imul, z_iaddW, z_isubW, z_imulW, z_idiv, z_irem, z_iand, z_ior, z_ixor, z_ishl, z_ishr, z_iushr, z_ineg, z_i2l, z_i2b, z_i2s, z_i2c, z_l2i, z_ladd, z_lsub, z_land, z_lor, z_lshl, z_lshr, z_lcmp, z_dup, z_pop, z_dup2, z_goto, z_tsw, z_cases, z_geti, z_getr, z_puti, z_putz, z_ald, z_iast, z_bast, z_zast, z_alen, z_acopy, z_mmax, z_mmin, z_mabs, z_mabsL, z_iret, z_zret, z_nret, z_lret, z_aret, z_vret, z_cat, z_ldcs, z_strv, z_strc, z_gcs, z_gfm, z_sln, z_sald, z_ifeq, z_ifne, z_iflt, z_ifge, z_ifgt, z_ifle, z_iceq, z_icne, z_iclt, z_icge, z_icgt, z_icle, z_cs0, z_cs1, z_cs2, z_cs3, z_cs4, z_cs5, z_cs6, z_cs7, z_cv0, z_cv1, z_cv2, z_cv3, z_cv4, z_cv5, z_cv6, z_cv7, z_g0, z_s0, z_g1, z_s1, z_g2, z_s2, z_g3, z_s3, z_g4, z_s4, z_g5, z_s5, z_g6, z_s6, z_g7, z_s7, z_g8, z_s8, z_g9, z_s9, z_g10, z_s10, z_g11, z_s11, z_g12, z_s12, z_g13, z_s13, z_b0, z_b1, z_b0n, z_b1n, z_up_far1, z_up_far2, z_up_far3, z_up_far4, z_up_far5, z_up_far6, Classical.not_not, not_true_eq_false, z_in, z_inL, Int.cast_ofNat_Int, Nat.reduceLeDiff, List.length_cons, List.length_nil, Nat.reduceAdd, Nat.zero_add, Nat.le_refl, true_and, and_true, List.length, Nat.reduceLT, true_or, or_true, false_or, or_false, false_and, and_false, not_true_eq_false, not_false_eq_true, forall_const, false_implies, true_implies, Int.reduceEq, Int.reduceLT, Int.reduceLE, Int.reduceAdd, Int.reduceSub, Int.reduceMul, Int.reduceNeg, Int.reduceToNat, Int.toNat_natCast, ↓reduceIte, reduceIte, Nat.reduceEqDiff, Nat.reduceSub, Nat.reduceMul, ne_eq, Int.zero_add, Int.add_zero, Int.sub_zero, Nat.add_zero, Int.ofNat_eq_natCast, tX10_go_0, SX10_in, e7, c1]
    repeat' (first | (intro _) | (with_reducible assumption) | (refine And.intro ?_ ?_))
    all_goals first | omega | assumption | (refine z_fin fin ?_ rfl; first | rfl | omega | (split <;> omega) | (split <;> split <;> omega)) | skip
  obtain ⟨n, rfl⟩ := z_nat (show 0 ≤ x1 by omega)
  have K := m.2.1.1
  have k0 := K.1.1
  obtain ⟨N, hN⟩ := z_nat k0.1
  -- the lengths written back
  have L53 : ∀ (d i : Nat) (σ1 : zM), i + d = N → (∀ c j, c ≠ 98 → c ≠ 93 → σ1 c j = z_up σ 89 0 0 c j) → q_sp σ1 (σ 93) n → (∀ j, σ1 93 j = if (6 ≤ j ∧ j < 6 + 6 * i ∧ j % 6 = 0) then q_gwD (σ 93) n j else σ 93 j) → X 53 [some (.inr (.inr (10, 0, 89))), some (.inl (n : Int)), some (.inl (i : Int))] [] σ1 := by
    intro d
    induction d with
    | zero =>
      intro i σ1 hi f1 f2 f3
      obtain rfl : i = N := by omega
      have e0 : σ1 93 0 = i := by rw [f3, if_neg (by omega), hN]
      have e3 : σ1 93 3 = σ 93 3 := by rw [f3, if_neg (by omega)]
      have fin := h (z_up σ1 93 3 (z_wr (σ 93 3 + n))) (fun c hc => funext fun j => by rw [z_up_ne (by omega), f1 c j (by omega) (by omega), z_up_ne (by omega)]) (fun a j hc => by
        unfold q_fGo
        rw [if_neg c1, if_neg c2]
        unfold q_last at hc
        by_cases a93 : a = 93
        · subst a93
          rw [q_set_eq]
          by_cases j3 : j = 3
          · subst j3
            rw [z_up_eq, q_d1_eq]
          · rw [z_up_ne (by omega), q_d1_ne j3, f3]
            by_cases cj : 6 ≤ j ∧ j < 6 + 6 * i ∧ j % 6 = 0
            · rw [if_pos cj]
            · rw [if_neg cj]
              unfold q_gwD
              rw [if_neg (by omega)]
        · rw [q_set_ne a93, z_up_ne (by omega), f1 a j (by omega) a93, z_up_ne (by omega)])
      simp only [q_gGo, if_neg c1, if_neg c2] at fin
      refine h53 _ _ _ ?_
      simp only [z_push, z_lpush, z_iload, z_lload, z_aload, z_istore, z_istoreP, z_lstore, z_astore, z_iinc, z_iincP, z_iadd, z_isub, z_imul, z_iaddW, z_isubW, z_imulW, z_idiv, z_irem, z_iand, z_ior, z_ixor, z_ishl, z_ishr, z_iushr, z_ineg, z_i2l, z_i2b, z_i2s, z_i2c, z_l2i, z_ladd, z_lsub, z_land, z_lor, z_lshl, z_lshr, z_lcmp, z_dup, z_pop, z_dup2, z_goto, z_tsw, z_cases, z_geti, z_getr, z_puti, z_putz, z_ald, z_iast, z_bast, z_zast, z_alen, z_acopy, z_mmax, z_mmin, z_mabs, z_mabsL, z_iret, z_zret, z_nret, z_lret, z_aret, z_vret, z_cat, z_ldcs, z_strv, z_strc, z_gcs, z_gfm, z_sln, z_sald, z_ifeq, z_ifne, z_iflt, z_ifge, z_ifgt, z_ifle, z_iceq, z_icne, z_iclt, z_icge, z_icgt, z_icle, z_cs0, z_cs1, z_cs2, z_cs3, z_cs4, z_cs5, z_cs6, z_cs7, z_cv0, z_cv1, z_cv2, z_cv3, z_cv4, z_cv5, z_cv6, z_cv7, z_g0, z_s0, z_g1, z_s1, z_g2, z_s2, z_g3, z_s3, z_g4, z_s4, z_g5, z_s5, z_g6, z_s6, z_g7, z_s7, z_g8, z_s8, z_g9, z_s9, z_g10, z_s10, z_g11, z_s11, z_g12, z_s12, z_g13, z_s13, z_b0, z_b1, z_b0n, z_b1n, z_up_far1, z_up_far2, z_up_far3, z_up_far4, z_up_far5, z_up_far6, Classical.not_not, not_true_eq_false, z_in, z_inL, Int.cast_ofNat_Int, Nat.reduceLeDiff, List.length_cons, List.length_nil, Nat.reduceAdd, Nat.zero_add, Nat.le_refl, true_and, and_true, List.length, Nat.reduceLT, true_or, or_true, false_or, or_false, false_and, and_false, not_true_eq_false, not_false_eq_true, forall_const, false_implies, true_implies, Int.reduceEq, Int.reduceLT, Int.reduceLE, Int.reduceAdd, Int.reduceSub, Int.reduceMul, Int.reduceNeg, Int.reduceToNat, Int.toNat_natCast, ↓reduceIte, reduceIte, Nat.reduceEqDiff, Nat.reduceSub, Nat.reduceMul, ne_eq, Int.zero_add, Int.add_zero, Int.sub_zero, Nat.add_zero, Int.ofNat_eq_natCast, tX10_go_53, e0, e3, z_up_eq]
      repeat' (first | (intro _) | (with_reducible assumption) | (refine And.intro ?_ ?_))
      all_goals first | omega | assumption | (refine z_fin fin ?_ rfl; first | rfl | omega | (split <;> omega) | (split <;> split <;> omega)) | skip
    | succ d ih =>
      intro i σ1 hi f1 f2 f3
      have e0 : σ1 93 0 = N := by rw [f3, if_neg (by omega), hN]
      have nx := ih (i + 1) (z_up σ1 93 (6 + 6 * i) (σ1 98 i)) (by omega) (fun c j a1 a2 => by rw [z_up_ne (by omega)]; exact f1 c j a1 a2) (fun t ht => by rw [z_up_ne (by omega)]; exact f2 t ht) (fun j => by
        by_cases e : j = 6 + 6 * i
        · subst e
          rw [z_up_eq, if_pos (by omega)]
          exact f2 i (by omega)
        · rw [z_up_ne (by omega), f3]
          by_cases e2 : 6 ≤ j ∧ j < 6 + 6 * i ∧ j % 6 = 0
          · rw [if_pos e2, if_pos (by omega)]
          · rw [if_neg e2, if_neg (by omega)])
      have e : (6 + 6 * (i : Int)).toNat = 6 + 6 * i := by omega
      refine h53 _ _ _ ?_
      simp only [z_push, z_lpush, z_iload, z_lload, z_aload, z_istore, z_istoreP, z_lstore, z_astore, z_iinc, z_iincP, z_iadd, z_isub, z_imul, z_iaddW, z_isubW, z_imulW, z_idiv, z_irem, z_iand, z_ior, z_ixor, z_ishl, z_ishr, z_iushr, z_ineg, z_i2l, z_i2b, z_i2s, z_i2c, z_l2i, z_ladd, z_lsub, z_land, z_lor, z_lshl, z_lshr, z_lcmp, z_dup, z_pop, z_dup2, z_goto, z_tsw, z_cases, z_geti, z_getr, z_puti, z_putz, z_ald, z_iast, z_bast, z_zast, z_alen, z_acopy, z_mmax, z_mmin, z_mabs, z_mabsL, z_iret, z_zret, z_nret, z_lret, z_aret, z_vret, z_cat, z_ldcs, z_strv, z_strc, z_gcs, z_gfm, z_sln, z_sald, z_ifeq, z_ifne, z_iflt, z_ifge, z_ifgt, z_ifle, z_iceq, z_icne, z_iclt, z_icge, z_icgt, z_icle, z_cs0, z_cs1, z_cs2, z_cs3, z_cs4, z_cs5, z_cs6, z_cs7, z_cv0, z_cv1, z_cv2, z_cv3, z_cv4, z_cv5, z_cv6, z_cv7, z_g0, z_s0, z_g1, z_s1, z_g2, z_s2, z_g3, z_s3, z_g4, z_s4, z_g5, z_s5, z_g6, z_s6, z_g7, z_s7, z_g8, z_s8, z_g9, z_s9, z_g10, z_s10, z_g11, z_s11, z_g12, z_s12, z_g13, z_s13, z_b0, z_b1, z_b0n, z_b1n, z_up_far1, z_up_far2, z_up_far3, z_up_far4, z_up_far5, z_up_far6, Classical.not_not, not_true_eq_false, z_in, z_inL, Int.cast_ofNat_Int, Nat.reduceLeDiff, List.length_cons, List.length_nil, Nat.reduceAdd, Nat.zero_add, Nat.le_refl, true_and, and_true, List.length, Nat.reduceLT, true_or, or_true, false_or, or_false, false_and, and_false, not_true_eq_false, not_false_eq_true, forall_const, false_implies, true_implies, Int.reduceEq, Int.reduceLT, Int.reduceLE, Int.reduceAdd, Int.reduceSub, Int.reduceMul, Int.reduceNeg, Int.reduceToNat, Int.toNat_natCast, ↓reduceIte, reduceIte, Nat.reduceEqDiff, Nat.reduceSub, Nat.reduceMul, ne_eq, Int.zero_add, Int.add_zero, Int.sub_zero, Nat.add_zero, Int.ofNat_eq_natCast, tX10_go_53, e0, e]
      repeat' (first | (intro _) | (with_reducible assumption) | (refine And.intro ?_ ?_))
      all_goals first | omega | assumption | (refine z_fin nx ?_ rfl; first | rfl | omega | (split <;> omega) | (split <;> split <;> omega)) | skip
  have L36 : ∀ (d i : Nat) (σ1 : zM), i + d = n → (∀ c j, c ≠ 98 → σ1 c j = z_up σ 89 0 0 c j) → q_sp σ1 (σ 93) i → X 36 [some (.inr (.inr (10, 0, 89))), some (.inl (n : Int)), some (.inl (i : Int))] [] σ1 := by
    intro d
    induction d with
    | zero =>
      intro i σ1 hi f1 f2
      obtain rfl : i = n := by omega
      have nx := L53 N 0 σ1 (by omega) (fun c j a1 a2 => f1 c j a1) f2 (fun j => by rw [if_neg (by omega), f1 93 j (by omega), z_up_ne (by omega)])
      refine h36 _ _ _ ?_
      simp only [z_push, z_lpush, z_iload, z_lload, z_aload, z_istore, z_istoreP, z_lstore, z_astore, z_iinc, z_iincP, z_iadd, z_isub, z_imul, z_iaddW, z_isubW, z_imulW, z_idiv, z_irem, z_iand, z_ior, z_ixor, z_ishl, z_ishr, z_iushr, z_ineg, z_i2l, z_i2b, z_i2s, z_i2c, z_l2i, z_ladd, z_lsub, z_land, z_lor, z_lshl, z_lshr, z_lcmp, z_dup, z_pop, z_dup2, z_goto, z_tsw, z_cases, z_geti, z_getr, z_puti, z_putz, z_ald, z_iast, z_bast, z_zast, z_alen, z_acopy, z_mmax, z_mmin, z_mabs, z_mabsL, z_iret, z_zret, z_nret, z_lret, z_aret, z_vret, z_cat, z_ldcs, z_strv, z_strc, z_gcs, z_gfm, z_sln, z_sald, z_ifeq, z_ifne, z_iflt, z_ifge, z_ifgt, z_ifle, z_iceq, z_icne, z_iclt, z_icge, z_icgt, z_icle, z_cs0, z_cs1, z_cs2, z_cs3, z_cs4, z_cs5, z_cs6, z_cs7, z_cv0, z_cv1, z_cv2, z_cv3, z_cv4, z_cv5, z_cv6, z_cv7, z_g0, z_s0, z_g1, z_s1, z_g2, z_s2, z_g3, z_s3, z_g4, z_s4, z_g5, z_s5, z_g6, z_s6, z_g7, z_s7, z_g8, z_s8, z_g9, z_s9, z_g10, z_s10, z_g11, z_s11, z_g12, z_s12, z_g13, z_s13, z_b0, z_b1, z_b0n, z_b1n, z_up_far1, z_up_far2, z_up_far3, z_up_far4, z_up_far5, z_up_far6, Classical.not_not, not_true_eq_false, z_in, z_inL, Int.cast_ofNat_Int, Nat.reduceLeDiff, List.length_cons, List.length_nil, Nat.reduceAdd, Nat.zero_add, Nat.le_refl, true_and, and_true, List.length, Nat.reduceLT, true_or, or_true, false_or, or_false, false_and, and_false, not_true_eq_false, not_false_eq_true, forall_const, false_implies, true_implies, Int.reduceEq, Int.reduceLT, Int.reduceLE, Int.reduceAdd, Int.reduceSub, Int.reduceMul, Int.reduceNeg, Int.reduceToNat, Int.toNat_natCast, ↓reduceIte, reduceIte, Nat.reduceEqDiff, Nat.reduceSub, Nat.reduceMul, ne_eq, Int.zero_add, Int.add_zero, Int.sub_zero, Nat.add_zero, Int.ofNat_eq_natCast, tX10_go_36]
      repeat' (first | (intro _) | (with_reducible assumption) | (refine And.intro ?_ ?_))
      all_goals first | omega | assumption | (refine z_fin nx ?_ rfl; first | rfl | omega | (split <;> omega) | (split <;> split <;> omega)) | skip
    | succ d ih =>
      intro i σ1 hi f1 f2
      have e93 : σ1 93 = σ 93 := funext fun j => by rw [f1 93 j (by omega), z_up_ne (by omega)]
      have nx := ih (i + 1) (q_gr σ1 (σ 93 0).toNat) (by omega) (fun c j hc => by rw [q_gr_ne hc]; exact f1 c j hc) (q_sp_S K (by omega) e93 f2 (fun _ => rfl))
      refine h36 _ _ _ ?_
      simp only [z_push, z_lpush, z_iload, z_lload, z_aload, z_istore, z_istoreP, z_lstore, z_astore, z_iinc, z_iincP, z_iadd, z_isub, z_imul, z_iaddW, z_isubW, z_imulW, z_idiv, z_irem, z_iand, z_ior, z_ixor, z_ishl, z_ishr, z_iushr, z_ineg, z_i2l, z_i2b, z_i2s, z_i2c, z_l2i, z_ladd, z_lsub, z_land, z_lor, z_lshl, z_lshr, z_lcmp, z_dup, z_pop, z_dup2, z_goto, z_tsw, z_cases, z_geti, z_getr, z_puti, z_putz, z_ald, z_iast, z_bast, z_zast, z_alen, z_acopy, z_mmax, z_mmin, z_mabs, z_mabsL, z_iret, z_zret, z_nret, z_lret, z_aret, z_vret, z_cat, z_ldcs, z_strv, z_strc, z_gcs, z_gfm, z_sln, z_sald, z_ifeq, z_ifne, z_iflt, z_ifge, z_ifgt, z_ifle, z_iceq, z_icne, z_iclt, z_icge, z_icgt, z_icle, z_cs0, z_cs1, z_cs2, z_cs3, z_cs4, z_cs5, z_cs6, z_cs7, z_cv0, z_cv1, z_cv2, z_cv3, z_cv4, z_cv5, z_cv6, z_cv7, z_g0, z_s0, z_g1, z_s1, z_g2, z_s2, z_g3, z_s3, z_g4, z_s4, z_g5, z_s5, z_g6, z_s6, z_g7, z_s7, z_g8, z_s8, z_g9, z_s9, z_g10, z_s10, z_g11, z_s11, z_g12, z_s12, z_g13, z_s13, z_b0, z_b1, z_b0n, z_b1n, z_up_far1, z_up_far2, z_up_far3, z_up_far4, z_up_far5, z_up_far6, Classical.not_not, not_true_eq_false, z_in, z_inL, Int.cast_ofNat_Int, Nat.reduceLeDiff, List.length_cons, List.length_nil, Nat.reduceAdd, Nat.zero_add, Nat.le_refl, true_and, and_true, List.length, Nat.reduceLT, true_or, or_true, false_or, or_false, false_and, and_false, not_true_eq_false, not_false_eq_true, forall_const, false_implies, true_implies, Int.reduceEq, Int.reduceLT, Int.reduceLE, Int.reduceAdd, Int.reduceSub, Int.reduceMul, Int.reduceNeg, Int.reduceToNat, Int.toNat_natCast, ↓reduceIte, reduceIte, Nat.reduceEqDiff, Nat.reduceSub, Nat.reduceMul, ne_eq, Int.zero_add, Int.add_zero, Int.sub_zero, Nat.add_zero, Int.ofNat_eq_natCast, tX10_go_36, SX10_grow, e93]
      refine ⟨fun e => absurd e (by omega), fun _ => ⟨⟨K, fun t ht => by rw [f2 t ht]; have := q_gwD_in (n := i) K ht; omega⟩, by omega, nx⟩⟩
  refine h0 _ _ _ ?_
  simp only [z_push, z_lpush, z_iload, z_lload, z_aload, z_istore, z_istoreP, z_lstore, z_astore, z_iinc, z_iincP, z_iadd, z_isub, z_imul, z_iaddW, z_isubW, z_imulW, z_idiv, z_irem, z_iand, z_ior, z_ixor, z_ishl, z_ishr, z_iushr, z_ineg, z_i2l, z_i2b, z_i2s, z_i2c, z_l2i, z_ladd, z_lsub, z_land, z_lor, z_lshl, z_lshr, z_lcmp, z_dup, z_pop, z_dup2, z_goto, z_tsw, z_cases, z_geti, z_getr, z_puti, z_putz, z_ald, z_iast, z_bast, z_zast, z_alen, z_acopy, z_mmax, z_mmin, z_mabs, z_mabsL, z_iret, z_zret, z_nret, z_lret, z_aret, z_vret, z_cat, z_ldcs, z_strv, z_strc, z_gcs, z_gfm, z_sln, z_sald, z_ifeq, z_ifne, z_iflt, z_ifge, z_ifgt, z_ifle, z_iceq, z_icne, z_iclt, z_icge, z_icgt, z_icle, z_cs0, z_cs1, z_cs2, z_cs3, z_cs4, z_cs5, z_cs6, z_cs7, z_cv0, z_cv1, z_cv2, z_cv3, z_cv4, z_cv5, z_cv6, z_cv7, z_g0, z_s0, z_g1, z_s1, z_g2, z_s2, z_g3, z_s3, z_g4, z_s4, z_g5, z_s5, z_g6, z_s6, z_g7, z_s7, z_g8, z_s8, z_g9, z_s9, z_g10, z_s10, z_g11, z_s11, z_g12, z_s12, z_g13, z_s13, z_b0, z_b1, z_b0n, z_b1n, z_up_far1, z_up_far2, z_up_far3, z_up_far4, z_up_far5, z_up_far6, Classical.not_not, not_true_eq_false, z_in, z_inL, Int.cast_ofNat_Int, Nat.reduceLeDiff, List.length_cons, List.length_nil, Nat.reduceAdd, Nat.zero_add, Nat.le_refl, true_and, and_true, List.length, Nat.reduceLT, true_or, or_true, false_or, or_false, false_and, and_false, not_true_eq_false, not_false_eq_true, forall_const, false_implies, true_implies, Int.reduceEq, Int.reduceLT, Int.reduceLE, Int.reduceAdd, Int.reduceSub, Int.reduceMul, Int.reduceNeg, Int.reduceToNat, Int.toNat_natCast, ↓reduceIte, reduceIte, Nat.reduceEqDiff, Nat.reduceSub, Nat.reduceMul, ne_eq, Int.zero_add, Int.add_zero, Int.sub_zero, Nat.add_zero, Int.ofNat_eq_natCast, tX10_go_0, SX10_in, SX10_layLengths, e7, c1]
  refine fun _ => ⟨fun _ σ1 f1 f2 => ?_, fun e => absurd e (by omega)⟩
  exact L36 n 0 σ1 (by omega) f1 (fun t ht => by rw [f2 t (by omega), z_up_ne (by omega)]; exact (q_gwD_0 K ht).symm)
theorem dX10_go_0 : decode cX10_go 0 = .ok (.aload_n 0, 1) := by decide +kernel
theorem dX10_go_1 : decode cX10_go 1 = .ok (.iconst 0, 1) := by decide +kernel
theorem dX10_go_2 : decode cX10_go 2 = .ok (.putfield 65, 3) := by decide +kernel
theorem dX10_go_5 : decode cX10_go 5 = .ok (.aload_n 0, 1) := by decide +kernel
theorem dX10_go_6 : decode cX10_go 6 = .ok (.getfield 205, 3) := by decide +kernel
theorem dX10_go_9 : decode cX10_go 9 = .ok (.ifCond .ne 6, 3) := by decide +kernel
theorem dX10_go_12 : decode cX10_go 12 = .ok (.ldc 219, 2) := by decide +kernel
theorem dX10_go_14 : decode cX10_go 14 = .ok (.ireturn, 1) := by decide +kernel
theorem dX10_go_15 : decode cX10_go 15 = .ok (.iload_n 1, 1) := by decide +kernel
theorem dX10_go_16 : decode cX10_go 16 = .ok (.i2l, 1) := by decide +kernel
theorem dX10_go_17 : decode cX10_go 17 = .ok (.lconst 1, 1) := by decide +kernel
theorem dX10_go_18 : decode cX10_go 18 = .ok (.ldc2_w 230, 3) := by decide +kernel
theorem dX10_go_21 : decode cX10_go 21 = .ok (.invokestatic 75, 3) := by decide +kernel
theorem dX10_go_24 : decode cX10_go 24 = .ok (.ifCond .ne 6, 3) := by decide +kernel
theorem dX10_go_27 : decode cX10_go 27 = .ok (.ldc 85, 2) := by decide +kernel
theorem dX10_go_29 : decode cX10_go 29 = .ok (.ireturn, 1) := by decide +kernel
theorem dX10_go_30 : decode cX10_go 30 = .ok (.aload_n 0, 1) := by decide +kernel
theorem dX10_go_31 : decode cX10_go 31 = .ok (.invokevirtual 232, 3) := by decide +kernel
theorem dX10_go_34 : decode cX10_go 34 = .ok (.iconst 0, 1) := by decide +kernel
theorem dX10_go_35 : decode cX10_go 35 = .ok (.istore_n 2, 1) := by decide +kernel
theorem dX10_go_36 : decode cX10_go 36 = .ok (.iload_n 2, 1) := by decide +kernel
theorem dX10_go_37 : decode cX10_go 37 = .ok (.iload_n 1, 1) := by decide +kernel
theorem dX10_go_38 : decode cX10_go 38 = .ok (.if_icmp .ge 13, 3) := by decide +kernel
theorem dX10_go_41 : decode cX10_go 41 = .ok (.aload_n 0, 1) := by decide +kernel
theorem dX10_go_42 : decode cX10_go 42 = .ok (.invokevirtual 235, 3) := by decide +kernel
theorem dX10_go_45 : decode cX10_go 45 = .ok (.iinc 2 1, 3) := by decide +kernel
theorem dX10_go_48 : decode cX10_go 48 = .ok (.goto (-12), 3) := by decide +kernel
theorem dX10_go_51 : decode cX10_go 51 = .ok (.iconst 0, 1) := by decide +kernel
theorem dX10_go_52 : decode cX10_go 52 = .ok (.istore_n 2, 1) := by decide +kernel
theorem dX10_go_53 : decode cX10_go 53 = .ok (.iload_n 2, 1) := by decide +kernel
theorem dX10_go_54 : decode cX10_go 54 = .ok (.aload_n 0, 1) := by decide +kernel
theorem dX10_go_55 : decode cX10_go 55 = .ok (.getfield 19, 3) := by decide +kernel
theorem dX10_go_58 : decode cX10_go 58 = .ok (.iconst 0, 1) := by decide +kernel
theorem dX10_go_59 : decode cX10_go 59 = .ok (.iaload, 1) := by decide +kernel
theorem dX10_go_60 : decode cX10_go 60 = .ok (.if_icmp .ge 27, 3) := by decide +kernel
theorem dX10_go_63 : decode cX10_go 63 = .ok (.aload_n 0, 1) := by decide +kernel
theorem dX10_go_64 : decode cX10_go 64 = .ok (.getfield 19, 3) := by decide +kernel
theorem dX10_go_67 : decode cX10_go 67 = .ok (.bipush 6, 2) := by decide +kernel
theorem dX10_go_69 : decode cX10_go 69 = .ok (.bipush 6, 2) := by decide +kernel
theorem dX10_go_71 : decode cX10_go 71 = .ok (.iload_n 2, 1) := by decide +kernel
theorem dX10_go_72 : decode cX10_go 72 = .ok (.imul, 1) := by decide +kernel
theorem dX10_go_73 : decode cX10_go 73 = .ok (.iadd, 1) := by decide +kernel
theorem dX10_go_74 : decode cX10_go 74 = .ok (.aload_n 0, 1) := by decide +kernel
theorem dX10_go_75 : decode cX10_go 75 = .ok (.getfield 34, 3) := by decide +kernel
theorem dX10_go_78 : decode cX10_go 78 = .ok (.iload_n 2, 1) := by decide +kernel
theorem dX10_go_79 : decode cX10_go 79 = .ok (.iaload, 1) := by decide +kernel
theorem dX10_go_80 : decode cX10_go 80 = .ok (.iastore, 1) := by decide +kernel
theorem dX10_go_81 : decode cX10_go 81 = .ok (.iinc 2 1, 3) := by decide +kernel
theorem dX10_go_84 : decode cX10_go 84 = .ok (.goto (-31), 3) := by decide +kernel
theorem dX10_go_87 : decode cX10_go 87 = .ok (.aload_n 0, 1) := by decide +kernel
theorem dX10_go_88 : decode cX10_go 88 = .ok (.getfield 19, 3) := by decide +kernel
theorem dX10_go_91 : decode cX10_go 91 = .ok (.iconst 3, 1) := by decide +kernel
theorem dX10_go_92 : decode cX10_go 92 = .ok (.dup2, 1) := by decide +kernel
theorem dX10_go_93 : decode cX10_go 93 = .ok (.iaload, 1) := by decide +kernel
theorem dX10_go_94 : decode cX10_go 94 = .ok (.iload_n 1, 1) := by decide +kernel
theorem dX10_go_95 : decode cX10_go 95 = .ok (.iadd, 1) := by decide +kernel
theorem dX10_go_96 : decode cX10_go 96 = .ok (.iastore, 1) := by decide +kernel
theorem dX10_go_97 : decode cX10_go 97 = .ok (.aload_n 0, 1) := by decide +kernel
theorem dX10_go_98 : decode cX10_go 98 = .ok (.getfield 19, 3) := by decide +kernel
theorem dX10_go_101 : decode cX10_go 101 = .ok (.iconst 3, 1) := by decide +kernel
theorem dX10_go_102 : decode cX10_go 102 = .ok (.iaload, 1) := by decide +kernel
theorem dX10_go_103 : decode cX10_go 103 = .ok (.ireturn, 1) := by decide +kernel
set_option maxRecDepth 100000 in
theorem rX10_go_0 {p : Program} {l : Launch} {e : Env} {s : State} {m : MethodId} {args : Array Value} {below : List Frame} {meth : Method} {c : Code} {D : va_G} {cA : Nat → ClassId} {ad : Nat → Nat} {Ret : zR} (C : z_Cx p { frames := 2, cells := 0, slots := 0, locals := 43 } s m args c cX10_go yX10_go.cls 3 D cA ad) (hr : meth.sig.returnType = (some .int)) (hlocks : meth.locks = false) : ∀ L st σ, tX10_go_0 (z_X p l e { frames := 2, cells := 0, slots := 0, locals := 43 } s m args below meth c (MQ below (z_Qc D cA ad Ret) args s 0 0 (z_A ad)) 3 D cA ad true) Ret L st σ → z_X p l e { frames := 2, cells := 0, slots := 0, locals := 43 } s m args below meth c (MQ below (z_Qc D cA ad Ret) args s 0 0 (z_A ad)) 3 D cA ad true 0 L st σ := (s_aload_n C dX10_go_0 rfl (s_iconst C dX10_go_1 rfl ⟨by decide, by decide⟩ (s_puti C dX10_go_2 cls_X10 (by decide) rfl wd_968 rfl rfl (s_aload_n C dX10_go_5 rfl (s_geti C dX10_go_6 cls_X10 (by decide) rfl wd_975 (s_ifne C dX10_go_9 (by decide) (s_iload_n C dX10_go_15 rfl (s_i2l C dX10_go_16 (s_lconst C dX10_go_17 (v := 1) rfl ⟨by decide, by decide⟩ (s_ldc2 C dX10_go_18 (v := 60) wd_1227 ⟨by decide, by decide⟩ (s_cs3 C dX10_go_21 (okX10_in l) wd_1082 wd_1083 wd_85 wd_1084 ⟨by decide, by decide, by decide +kernel⟩ ⟨by decide, by decide⟩ (s_ifne C dX10_go_24 (by decide) (s_aload_n C dX10_go_30 rfl (s_cv0 C dX10_go_31 (okX10_layLengths l) cls_X10 wd_1228 wd_1230 wd_54 wd_85 wd_1231 ⟨by decide, by decide, by decide +kernel⟩ ⟨by decide, by decide⟩ (s_iconst C dX10_go_34 rfl ⟨by decide, by decide⟩ (s_istore_n C dX10_go_35 (by decide) rfl rfl (fun _ _ _ h => h))))) (s_ldc C dX10_go_27 (v := -1000001) wd_1086 ⟨by decide, by decide⟩ (s_iret C dX10_go_29 hr hlocks)))))))) (s_ldc C dX10_go_12 (v := -1000002) wd_1191 ⟨by decide, by decide⟩ (s_iret C dX10_go_14 hr hlocks))))))))
set_option maxRecDepth 100000 in
theorem rX10_go_36 {p : Program} {l : Launch} {e : Env} {s : State} {m : MethodId} {args : Array Value} {below : List Frame} {meth : Method} {c : Code} {D : va_G} {cA : Nat → ClassId} {ad : Nat → Nat} {Ret : zR} (C : z_Cx p { frames := 2, cells := 0, slots := 0, locals := 43 } s m args c cX10_go yX10_go.cls 3 D cA ad) (hr : meth.sig.returnType = (some .int)) (hlocks : meth.locks = false) : ∀ L st σ, tX10_go_36 (z_X p l e { frames := 2, cells := 0, slots := 0, locals := 43 } s m args below meth c (MQ below (z_Qc D cA ad Ret) args s 0 0 (z_A ad)) 3 D cA ad true) Ret L st σ → z_X p l e { frames := 2, cells := 0, slots := 0, locals := 43 } s m args below meth c (MQ below (z_Qc D cA ad Ret) args s 0 0 (z_A ad)) 3 D cA ad true 36 L st σ := (s_iload_n C dX10_go_36 rfl (s_iload_n C dX10_go_37 rfl (s_icge C dX10_go_38 (by decide) (s_iconst C dX10_go_51 rfl ⟨by decide, by decide⟩ (s_istore_n C dX10_go_52 (by decide) rfl rfl (fun _ _ _ h => h))) (s_aload_n C dX10_go_41 rfl (s_cv0 C dX10_go_42 (okX10_grow l) cls_X10 wd_1236 wd_1238 wd_56 wd_85 wd_1239 ⟨by decide, by decide, by decide +kernel⟩ ⟨by decide, by decide⟩ (s_iinc C dX10_go_45 (by decide) rfl (s_goto C dX10_go_48 (by decide) (fun _ _ _ h => h))))))))
set_option maxRecDepth 100000 in
theorem rX10_go_53 {p : Program} {l : Launch} {e : Env} {s : State} {m : MethodId} {args : Array Value} {below : List Frame} {meth : Method} {c : Code} {D : va_G} {cA : Nat → ClassId} {ad : Nat → Nat} {Ret : zR} (C : z_Cx p { frames := 2, cells := 0, slots := 0, locals := 43 } s m args c cX10_go yX10_go.cls 3 D cA ad) (hr : meth.sig.returnType = (some .int)) (hlocks : meth.locks = false) : ∀ L st σ, tX10_go_53 (z_X p l e { frames := 2, cells := 0, slots := 0, locals := 43 } s m args below meth c (MQ below (z_Qc D cA ad Ret) args s 0 0 (z_A ad)) 3 D cA ad true) Ret L st σ → z_X p l e { frames := 2, cells := 0, slots := 0, locals := 43 } s m args below meth c (MQ below (z_Qc D cA ad Ret) args s 0 0 (z_A ad)) 3 D cA ad true 53 L st σ := (s_iload_n C dX10_go_53 rfl (s_aload_n C dX10_go_54 rfl (s_getr C dX10_go_55 (j := 5) cls_X10 (by decide) rfl (by decide) (by decide) (by decide +kernel) wd_973 (s_iconst C dX10_go_58 rfl ⟨by decide, by decide⟩ (s_iald C dX10_go_59 (s_icge C dX10_go_60 (by decide) (s_aload_n C dX10_go_87 rfl (s_getr C dX10_go_88 (j := 5) cls_X10 (by decide) rfl (by decide) (by decide) (by decide +kernel) wd_973 (s_iconst C dX10_go_91 rfl ⟨by decide, by decide⟩ (s_dup2 C dX10_go_92 (s_iald C dX10_go_93 (s_iload_n C dX10_go_94 rfl (s_iaddW C dX10_go_95 (s_iast C dX10_go_96 (s_aload_n C dX10_go_97 rfl (s_getr C dX10_go_98 (j := 5) cls_X10 (by decide) rfl (by decide) (by decide) (by decide +kernel) wd_973 (s_iconst C dX10_go_101 rfl ⟨by decide, by decide⟩ (s_iald C dX10_go_102 (s_iret C dX10_go_103 hr hlocks))))))))))))) (s_aload_n C dX10_go_63 rfl (s_getr C dX10_go_64 (j := 5) cls_X10 (by decide) rfl (by decide) (by decide) (by decide +kernel) wd_973 (s_bipush C dX10_go_67 rfl ⟨by decide, by decide⟩ (s_bipush C dX10_go_69 rfl ⟨by decide, by decide⟩ (s_iload_n C dX10_go_71 rfl (s_imul C dX10_go_72 (s_iadd C dX10_go_73 (s_aload_n C dX10_go_74 rfl (s_getr C dX10_go_75 (j := 21) cls_X10 (by decide) rfl (by decide) (by decide) (by decide +kernel) wd_989 (s_iload_n C dX10_go_78 rfl (s_iald C dX10_go_79 (s_iast C dX10_go_80 (s_iinc C dX10_go_81 (by decide) rfl (s_goto C dX10_go_84 (by decide) (fun _ _ _ h => h)))))))))))))))))))))
theorem okX10_go (l : Launch) : z_OK l yX10_go cX10_go 3 (some .int) 2 43 SX10_go := by
  refine z_ok_of true (by decide +kernel) ?_ ?_
  · intro as σ Ret h
    obtain ⟨k0, x1, rfl⟩ := pX10_go h
    exact ⟨Nat.le_of_ble_eq_true rfl, by simp⟩
  · intro p e s m args below meth c D cA ad Ret C hr hlocks as σ has hσ h
    obtain ⟨k0, x1, rfl⟩ := pX10_go h
    exact vX10_go (rX10_go_0 C hr hlocks) (rX10_go_36 C hr hlocks) (rX10_go_53 C hr hlocks) k0 x1 σ (has _ (List.mem_of_getElem? (i := 0) rfl)) (has _ (List.mem_of_getElem? (i := 1) rfl)) hσ h
