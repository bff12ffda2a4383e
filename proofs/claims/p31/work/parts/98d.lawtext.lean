/-! what the law tells, byte by byte -/
def w_num (v : Int) : List Int := 32 :: ((if 99 < v then [48 + v / 100, 48 + v / 10 % 10] else if 9 < v then [48 + v / 10] else []) ++ [48 + v % 10])
theorem w_num_len (v : Int) : (w_num v).length ≤ 4 := by
  unfold w_num
  split
  · simp
  · split <;> simp
theorem w_bym0 {w : Int} (h : 0 ≤ w ∧ w ≤ 127) : w_bs w 1 = [w] := by
  obtain ⟨n, rfl⟩ := z_nat h.1
  have k : ∀ n : Nat, n < 128 → q_bym (n : Int) 0 = (n : Int) := by decide +kernel
  show [q_bym (n : Int) 0] = _
  rw [k n (by omega)]
def SL_number (zx : zX) : zS := fun as σ Ret => match as with
  | [.inr (.inr (9, 0, _)), .inl v] => ∃ D O h b, w_at σ D O h b ∧ (0 ≤ v ∧ v ≤ 999) ∧ b.length ≤ 390 ∧ ∀ σ', w_fr σ σ' → w_at σ' D O h (b ++ w_num v) → Ret none σ'
  | _ => False
def tL_number_0 (zx : zX) (X : Nat → zB) (Ret : zR) (L : zL) (st : List zV) (σ : zM) : Prop := (z_iload 1 (z_push 99 (z_icle (z_iload 1 (z_push 9 (z_icle (z_aload 0 (z_lpush 32 (z_push 1 (z_cv2 9 SW_feed (X 87))))) (z_aload 0 (z_lpush 32 (z_push 1 (z_cv2 9 SW_feed (z_aload 0 (z_push 48 (z_iload 1 (z_push 10 (z_idiv (z_iadd (z_i2l (z_push 1 (z_cv2 9 SW_feed (z_iadd (z_goto (X 87))))))))))))))))))) (z_aload 0 (z_lpush 32 (z_push 1 (z_cv2 9 SW_feed (z_aload 0 (z_push 48 (z_iload 1 (z_push 100 (z_idiv (z_iadd (z_i2l (z_push 1 (z_cv2 9 SW_feed (z_iadd (z_aload 0 (z_push 48 (z_iload 1 (z_push 10 (z_idiv (z_push 10 (z_irem (z_iadd (z_i2l (z_push 1 (z_cv2 9 SW_feed (z_iadd (z_goto (X 87))))))))))))))))))))))))))))))) L st σ
def tL_number_87 (zx : zX) (X : Nat → zB) (Ret : zR) (L : zL) (st : List zV) (σ : zM) : Prop := (z_istore 2 (z_aload 0 (z_push 48 (z_iload 1 (z_push 10 (z_irem (z_iadd (z_i2l (z_push 1 (z_cv2 9 SW_feed (z_istore 2 (z_vret Ret)))))))))))) L st σ
theorem pL_number {zx : zX} {as : List zV} {σ : zM} {Ret : zR} (h : (SL_number zx) as σ Ret) : ∃ (k1 : Nat) (x2 : Int), as = [.inr (.inr (9, 0, k1)), .inl x2] := by
  unfold SL_number at h
  split at h
  · exact ⟨_, _, rfl⟩
  · exact h.elim
set_option maxRecDepth 10000 in
set_option maxHeartbeats 4000000 in
theorem vL_number {zx : zX} {X : Nat → zB} {Ret : zR} (h0 : ∀ L st σ, tL_number_0 zx X Ret L st σ → X 0 L st σ) (h87 : ∀ L st σ, tL_number_87 zx X Ret L st σ → X 87 L st σ) (k1 : Nat) (x2 : Int) (σ : zM) (hk1 : z_kd k1 = (9, 0)) (hx2 : -2147483648 ≤ x2 ∧ x2 ≤ 2147483647) (hσ : z_okm σ) (h : (SL_number zx) [.inr (.inr (9, 0, k1)), .inl x2] σ Ret) : X 0 [some (.inr (.inr (9, 0, k1))), some (.inl x2), none] [] σ := by
  obtain ⟨D, O, hh, b, a, c, l, k⟩ := h
  have e10 : x2.tdiv 10 = x2 / 10 := Int.tdiv_eq_ediv_of_nonneg c.1
  have e100 : x2.tdiv 100 = x2 / 100 := Int.tdiv_eq_ediv_of_nonneg c.1
  have m10 : x2.tmod 10 = x2 % 10 := Int.tmod_eq_emod_of_nonneg c.1
  have m100 : (x2 / 10).tmod 10 = x2 / 10 % 10 := Int.tmod_eq_emod_of_nonneg (by omega)
  have d10 : (x2 / 10).tdiv 10 = x2 / 10 / 10 := Int.tdiv_eq_ediv_of_nonneg (by omega)
  have tl : ∀ (b1 : List Int) (σ1 : zM) (y : Int) (u : Option zV), w_fr σ σ1 → w_at σ1 D O hh b1 → b1.length ≤ 396 → b1 ++ [48 + x2 % 10] = b ++ w_num x2 → X 87 [some (.inr (.inr (9, 0, k1))), some (.inl x2), u] [.inl y] σ1 := by
    intro b1 σ1 y u f1 a1 l1 e1
    refine h87 _ _ _ ?_
    simp only [z_push, z_lpush, z_iload, z_lload, z_aload, z_istore, z_istoreP, z_lstore, z_astore, z_iinc, z_iincP, z_iadd, z_isub, z_imul, z_iaddW, z_isubW, z_imulW, z_idiv, z_irem, z_iand, z_ior, z_ixor, z_ishl, z_ishr, z_iushr, z_ineg, z_i2l, z_i2b, z_i2s, z_i2c, z_l2i, z_ladd, z_lsub, z_land, z_lor, z_lshl, z_lshr, z_lcmp, z_dup, z_pop, z_dup2, z_goto, z_tsw, z_cases, z_geti, z_getr, z_puti, z_putz, z_ald, z_iast, z_bast, z_zast, z_alen, z_acopy, z_mmax, z_mmin, z_mabs, z_mabsL, z_iret, z_zret, z_nret, z_lret, z_aret, z_vret, z_cat, z_xald, z_xlen, z_ldcs, z_strv, z_strc, z_gcs, z_gfm, z_sln, z_sald, z_ifeq, z_ifne, z_iflt, z_ifge, z_ifgt, z_ifle, z_iceq, z_icne, z_iclt, z_icge, z_icgt, z_icle, z_cs0, z_cs1, z_cs2, z_cs3, z_cs4, z_cs5, z_cs6, z_cs7, z_cv0, z_cv1, z_cv2, z_cv3, z_cv4, z_cv5, z_cv6, z_cv7, z_g0, z_s0, z_g1, z_s1, z_g2, z_s2, z_g3, z_s3, z_g4, z_s4, z_g5, z_s5, z_g6, z_s6, z_g7, z_s7, z_g8, z_s8, z_g9, z_s9, z_g10, z_s10, z_g11, z_s11, z_g12, z_s12, z_g13, z_s13, z_b0, z_b1, z_b0n, z_b1n, z_up_far1, z_up_far2, z_up_far3, z_up_far4, z_up_far5, z_up_far6, Classical.not_not, not_true_eq_false, z_in, z_inL, Int.cast_ofNat_Int, Nat.reduceLeDiff, List.length_cons, List.length_nil, Nat.reduceAdd, Nat.zero_add, Nat.le_refl, true_and, and_true, List.length, Nat.reduceLT, true_or, or_true, false_or, or_false, false_and, and_false, not_true_eq_false, not_false_eq_true, forall_const, false_implies, true_implies, Int.reduceEq, Int.reduceLT, Int.reduceLE, Int.reduceAdd, Int.reduceSub, Int.reduceMul, Int.reduceNeg, Int.reduceToNat, Int.toNat_natCast, ↓reduceIte, reduceIte, Nat.reduceEqDiff, Nat.reduceSub, Nat.reduceMul, ne_eq, Int.zero_add, Int.add_zero, Int.sub_zero, Nat.add_zero, Int.ofNat_eq_natCast, tL_number_87, SW_feed, e10, m10]
    refine ⟨by omega, by omega, D, O, hh, b1, a1, by omega, fun σ2 f2 a2 => ?_⟩
    rw [w_bym0 (by omega), e1] at a2
    exact k σ2 (f1.tr f2) a2
  have l1 : ∀ (b1 : List Int) (w : Int), (b1 ++ [w]).length = b1.length + 1 := fun b1 w => by simp
  have w32 : w_bs 32 1 = [32] := w_bym0 (by omega)
  refine h0 _ _ _ ?_
  simp only [z_push, z_lpush, z_iload, z_lload, z_aload, z_istore, z_istoreP, z_lstore, z_astore, z_iinc, z_iincP, z_iadd, z_isub, z_imul, z_iaddW, z_isubW, z_imulW, z_idiv, z_irem, z_iand, z_ior, z_ixor, z_ishl, z_ishr, z_iushr, z_ineg, z_i2l, z_i2b, z_i2s, z_i2c, z_l2i, z_ladd, z_lsub, z_land, z_lor, z_lshl, z_lshr, z_lcmp, z_dup, z_pop, z_dup2, z_goto, z_tsw, z_cases, z_geti, z_getr, z_puti, z_putz, z_ald, z_iast, z_bast, z_zast, z_alen, z_acopy, z_mmax, z_mmin, z_mabs, z_mabsL, z_iret, z_zret, z_nret, z_lret, z_aret, z_vret, z_cat, z_xald, z_xlen, z_ldcs, z_strv, z_strc, z_gcs, z_gfm, z_sln, z_sald, z_ifeq, z_ifne, z_iflt, z_ifge, z_ifgt, z_ifle, z_iceq, z_icne, z_iclt, z_icge, z_icgt, z_icle, z_cs0, z_cs1, z_cs2, z_cs3, z_cs4, z_cs5, z_cs6, z_cs7, z_cv0, z_cv1, z_cv2, z_cv3, z_cv4, z_cv5, z_cv6, z_cv7, z_g0, z_s0, z_g1, z_s1, z_g2, z_s2, z_g3, z_s3, z_g4, z_s4, z_g5, z_s5, z_g6, z_s6, z_g7, z_s7, z_g8, z_s8, z_g9, z_s9, z_g10, z_s10, z_g11, z_s11, z_g12, z_s12, z_g13, z_s13, z_b0, z_b1, z_b0n, z_b1n, z_up_far1, z_up_far2, z_up_far3, z_up_far4, z_up_far5, z_up_far6, Classical.not_not, not_true_eq_false, z_in, z_inL, Int.cast_ofNat_Int, Nat.reduceLeDiff, List.length_cons, List.length_nil, Nat.reduceAdd, Nat.zero_add, Nat.le_refl, true_and, and_true, List.length, Nat.reduceLT, true_or, or_true, false_or, or_false, false_and, and_false, not_true_eq_false, not_false_eq_true, forall_const, false_implies, true_implies, Int.reduceEq, Int.reduceLT, Int.reduceLE, Int.reduceAdd, Int.reduceSub, Int.reduceMul, Int.reduceNeg, Int.reduceToNat, Int.toNat_natCast, ↓reduceIte, reduceIte, Nat.reduceEqDiff, Nat.reduceSub, Nat.reduceMul, ne_eq, Int.zero_add, Int.add_zero, Int.sub_zero, Nat.add_zero, Int.ofNat_eq_natCast, tL_number_0, SW_feed, e10, e100, m10, m100, d10]
  refine ⟨fun c1 => ⟨fun c2 => ?_, fun c2 => ?_⟩, fun c1 => ?_⟩
  · refine ⟨D, O, hh, b, a, by omega, fun σ1 f1 a1 => ?_⟩
    rw [w32] at a1
    refine tl _ σ1 _ _ f1 a1 (by rw [l1]; omega) ?_
    unfold w_num
    rw [if_neg (by omega), if_neg (by omega)]
    simp
  · refine ⟨D, O, hh, b, a, by omega, fun σ1 f1 a1 => ?_⟩
    rw [w32] at a1
    refine ⟨by omega, by omega, D, O, hh, _, a1, by rw [l1]; omega, fun σ2 f2 a2 => ?_⟩
    rw [w_bym0 (by omega)] at a2
    rw [l1]
    refine ⟨by omega, tl _ σ2 _ _ (f1.tr f2) a2 (by rw [l1, l1]; omega) ?_⟩
    unfold w_num
    rw [if_neg (by omega), if_pos (by omega)]
    simp
  · refine ⟨D, O, hh, b, a, by omega, fun σ1 f1 a1 => ?_⟩
    rw [w32] at a1
    refine ⟨by omega, by omega, D, O, hh, _, a1, by rw [l1]; omega, fun σ2 f2 a2 => ?_⟩
    rw [w_bym0 (by omega)] at a2
    rw [l1]
    refine ⟨by omega, by omega, by omega, by omega, D, O, hh, _, a2, by rw [l1, l1]; omega, fun σ3 f3 a3 => ?_⟩
    rw [w_bym0 (by omega)] at a3
    rw [l1, l1]
    refine ⟨by omega, tl _ σ3 _ _ ((f1.tr f2).tr f3) a3 (by rw [l1, l1, l1]; omega) ?_⟩
    unfold w_num
    rw [if_pos (by omega)]
    simp
theorem dL_number_0 : decode cL_number 0 = .ok (.iload_n 1, 1) := by decide +kernel
theorem dL_number_1 : decode cL_number 1 = .ok (.bipush 99, 2) := by decide +kernel
theorem dL_number_3 : decode cL_number 3 = .ok (.if_icmp .le 45, 3) := by decide +kernel
theorem dL_number_6 : decode cL_number 6 = .ok (.aload_n 0, 1) := by decide +kernel
theorem dL_number_7 : decode cL_number 7 = .ok (.ldc2_w 9, 3) := by decide +kernel
theorem dL_number_10 : decode cL_number 10 = .ok (.iconst 1, 1) := by decide +kernel
theorem dL_number_11 : decode cL_number 11 = .ok (.invokevirtual 11, 3) := by decide +kernel
theorem dL_number_14 : decode cL_number 14 = .ok (.aload_n 0, 1) := by decide +kernel
theorem dL_number_15 : decode cL_number 15 = .ok (.bipush 48, 2) := by decide +kernel
theorem dL_number_17 : decode cL_number 17 = .ok (.iload_n 1, 1) := by decide +kernel
theorem dL_number_18 : decode cL_number 18 = .ok (.bipush 100, 2) := by decide +kernel
theorem dL_number_20 : decode cL_number 20 = .ok (.idiv, 1) := by decide +kernel
theorem dL_number_21 : decode cL_number 21 = .ok (.iadd, 1) := by decide +kernel
theorem dL_number_22 : decode cL_number 22 = .ok (.i2l, 1) := by decide +kernel
theorem dL_number_23 : decode cL_number 23 = .ok (.iconst 1, 1) := by decide +kernel
theorem dL_number_24 : decode cL_number 24 = .ok (.invokevirtual 11, 3) := by decide +kernel
theorem dL_number_27 : decode cL_number 27 = .ok (.iadd, 1) := by decide +kernel
theorem dL_number_28 : decode cL_number 28 = .ok (.aload_n 0, 1) := by decide +kernel
theorem dL_number_29 : decode cL_number 29 = .ok (.bipush 48, 2) := by decide +kernel
theorem dL_number_31 : decode cL_number 31 = .ok (.iload_n 1, 1) := by decide +kernel
theorem dL_number_32 : decode cL_number 32 = .ok (.bipush 10, 2) := by decide +kernel
theorem dL_number_34 : decode cL_number 34 = .ok (.idiv, 1) := by decide +kernel
theorem dL_number_35 : decode cL_number 35 = .ok (.bipush 10, 2) := by decide +kernel
theorem dL_number_37 : decode cL_number 37 = .ok (.irem, 1) := by decide +kernel
theorem dL_number_38 : decode cL_number 38 = .ok (.iadd, 1) := by decide +kernel
theorem dL_number_39 : decode cL_number 39 = .ok (.i2l, 1) := by decide +kernel
theorem dL_number_40 : decode cL_number 40 = .ok (.iconst 1, 1) := by decide +kernel
theorem dL_number_41 : decode cL_number 41 = .ok (.invokevirtual 11, 3) := by decide +kernel
theorem dL_number_44 : decode cL_number 44 = .ok (.iadd, 1) := by decide +kernel
theorem dL_number_45 : decode cL_number 45 = .ok (.goto 42, 3) := by decide +kernel
theorem dL_number_48 : decode cL_number 48 = .ok (.iload_n 1, 1) := by decide +kernel
theorem dL_number_49 : decode cL_number 49 = .ok (.bipush 9, 2) := by decide +kernel
theorem dL_number_51 : decode cL_number 51 = .ok (.if_icmp .le 28, 3) := by decide +kernel
theorem dL_number_54 : decode cL_number 54 = .ok (.aload_n 0, 1) := by decide +kernel
theorem dL_number_55 : decode cL_number 55 = .ok (.ldc2_w 9, 3) := by decide +kernel
theorem dL_number_58 : decode cL_number 58 = .ok (.iconst 1, 1) := by decide +kernel
theorem dL_number_59 : decode cL_number 59 = .ok (.invokevirtual 11, 3) := by decide +kernel
theorem dL_number_62 : decode cL_number 62 = .ok (.aload_n 0, 1) := by decide +kernel
theorem dL_number_63 : decode cL_number 63 = .ok (.bipush 48, 2) := by decide +kernel
theorem dL_number_65 : decode cL_number 65 = .ok (.iload_n 1, 1) := by decide +kernel
theorem dL_number_66 : decode cL_number 66 = .ok (.bipush 10, 2) := by decide +kernel
theorem dL_number_68 : decode cL_number 68 = .ok (.idiv, 1) := by decide +kernel
theorem dL_number_69 : decode cL_number 69 = .ok (.iadd, 1) := by decide +kernel
theorem dL_number_70 : decode cL_number 70 = .ok (.i2l, 1) := by decide +kernel
theorem dL_number_71 : decode cL_number 71 = .ok (.iconst 1, 1) := by decide +kernel
theorem dL_number_72 : decode cL_number 72 = .ok (.invokevirtual 11, 3) := by decide +kernel
theorem dL_number_75 : decode cL_number 75 = .ok (.iadd, 1) := by decide +kernel
theorem dL_number_76 : decode cL_number 76 = .ok (.goto 11, 3) := by decide +kernel
theorem dL_number_79 : decode cL_number 79 = .ok (.aload_n 0, 1) := by decide +kernel
theorem dL_number_80 : decode cL_number 80 = .ok (.ldc2_w 9, 3) := by decide +kernel
theorem dL_number_83 : decode cL_number 83 = .ok (.iconst 1, 1) := by decide +kernel
theorem dL_number_84 : decode cL_number 84 = .ok (.invokevirtual 11, 3) := by decide +kernel
theorem dL_number_87 : decode cL_number 87 = .ok (.istore_n 2, 1) := by decide +kernel
theorem dL_number_88 : decode cL_number 88 = .ok (.aload_n 0, 1) := by decide +kernel
theorem dL_number_89 : decode cL_number 89 = .ok (.bipush 48, 2) := by decide +kernel
theorem dL_number_91 : decode cL_number 91 = .ok (.iload_n 1, 1) := by decide +kernel
theorem dL_number_92 : decode cL_number 92 = .ok (.bipush 10, 2) := by decide +kernel
theorem dL_number_94 : decode cL_number 94 = .ok (.irem, 1) := by decide +kernel
theorem dL_number_95 : decode cL_number 95 = .ok (.iadd, 1) := by decide +kernel
theorem dL_number_96 : decode cL_number 96 = .ok (.i2l, 1) := by decide +kernel
theorem dL_number_97 : decode cL_number 97 = .ok (.iconst 1, 1) := by decide +kernel
theorem dL_number_98 : decode cL_number 98 = .ok (.invokevirtual 11, 3) := by decide +kernel
theorem dL_number_101 : decode cL_number 101 = .ok (.istore_n 2, 1) := by decide +kernel
theorem dL_number_102 : decode cL_number 102 = .ok (.return_, 1) := by decide +kernel
set_option maxRecDepth 100000 in
theorem rL_number_0 {zx : zX} {zn : Nat} {p : Program} {l : Launch} {e : Env} {s : State} {m : MethodId} {args : Array Value} {below : List Frame} {meth : Method} {c : Code} {D : va_G} {cA : Nat → ClassId} {ad : Nat → Nat} {Ret : zR} (C : z_Cx zx zn (z_A zn ad) 0 0 p { frames := 2, cells := 0, slots := 0, locals := 47 } s m args c cL_number yL_number.cls 3 D cA ad) (hr : meth.sig.returnType = none) (hlocks : meth.locks = false) : ∀ L st σ, tL_number_0 zx (z_X zx zn (z_A zn ad) 0 0 p l e { frames := 2, cells := 0, slots := 0, locals := 47 } s m args below meth c (MQ below (z_Qc zn D cA ad Ret) args s 0 0 (z_A zn ad)) 3 D cA ad true) Ret L st σ → z_X zx zn (z_A zn ad) 0 0 p l e { frames := 2, cells := 0, slots := 0, locals := 47 } s m args below meth c (MQ below (z_Qc zn D cA ad Ret) args s 0 0 (z_A zn ad)) 3 D cA ad true 0 L st σ := (s_iload_n C dL_number_0 rfl (s_bipush C dL_number_1 rfl ⟨by decide, by decide⟩ (s_icle C dL_number_3 (by decide) (s_iload_n C dL_number_48 rfl (s_bipush C dL_number_49 rfl ⟨by decide, by decide⟩ (s_icle C dL_number_51 (by decide) (s_aload_n C dL_number_79 rfl (s_ldc2 C dL_number_80 (v := 32) wd_575 ⟨by decide, by decide⟩ (s_iconst C dL_number_83 rfl ⟨by decide, by decide⟩ (s_cv2 C dL_number_84 (okW_feed l) cls_X9 wd_561 wd_562 wd_563 wd_17 wd_564 ⟨by decide, by decide, by decide +kernel⟩ ⟨by decide, by decide⟩ (fun _ _ _ h => h))))) (s_aload_n C dL_number_54 rfl (s_ldc2 C dL_number_55 (v := 32) wd_575 ⟨by decide, by decide⟩ (s_iconst C dL_number_58 rfl ⟨by decide, by decide⟩ (s_cv2 C dL_number_59 (okW_feed l) cls_X9 wd_561 wd_562 wd_563 wd_17 wd_564 ⟨by decide, by decide, by decide +kernel⟩ ⟨by decide, by decide⟩ (s_aload_n C dL_number_62 rfl (s_bipush C dL_number_63 rfl ⟨by decide, by decide⟩ (s_iload_n C dL_number_65 rfl (s_bipush C dL_number_66 rfl ⟨by decide, by decide⟩ (s_idiv C dL_number_68 (s_iadd C dL_number_69 (s_i2l C dL_number_70 (s_iconst C dL_number_71 rfl ⟨by decide, by decide⟩ (s_cv2 C dL_number_72 (okW_feed l) cls_X9 wd_561 wd_562 wd_563 wd_17 wd_564 ⟨by decide, by decide, by decide +kernel⟩ ⟨by decide, by decide⟩ (s_iadd C dL_number_75 (s_goto C dL_number_76 (by decide) (fun _ _ _ h => h))))))))))))))))))) (s_aload_n C dL_number_6 rfl (s_ldc2 C dL_number_7 (v := 32) wd_575 ⟨by decide, by decide⟩ (s_iconst C dL_number_10 rfl ⟨by decide, by decide⟩ (s_cv2 C dL_number_11 (okW_feed l) cls_X9 wd_561 wd_562 wd_563 wd_17 wd_564 ⟨by decide, by decide, by decide +kernel⟩ ⟨by decide, by decide⟩ (s_aload_n C dL_number_14 rfl (s_bipush C dL_number_15 rfl ⟨by decide, by decide⟩ (s_iload_n C dL_number_17 rfl (s_bipush C dL_number_18 rfl ⟨by decide, by decide⟩ (s_idiv C dL_number_20 (s_iadd C dL_number_21 (s_i2l C dL_number_22 (s_iconst C dL_number_23 rfl ⟨by decide, by decide⟩ (s_cv2 C dL_number_24 (okW_feed l) cls_X9 wd_561 wd_562 wd_563 wd_17 wd_564 ⟨by decide, by decide, by decide +kernel⟩ ⟨by decide, by decide⟩ (s_iadd C dL_number_27 (s_aload_n C dL_number_28 rfl (s_bipush C dL_number_29 rfl ⟨by decide, by decide⟩ (s_iload_n C dL_number_31 rfl (s_bipush C dL_number_32 rfl ⟨by decide, by decide⟩ (s_idiv C dL_number_34 (s_bipush C dL_number_35 rfl ⟨by decide, by decide⟩ (s_irem C dL_number_37 (s_iadd C dL_number_38 (s_i2l C dL_number_39 (s_iconst C dL_number_40 rfl ⟨by decide, by decide⟩ (s_cv2 C dL_number_41 (okW_feed l) cls_X9 wd_561 wd_562 wd_563 wd_17 wd_564 ⟨by decide, by decide, by decide +kernel⟩ ⟨by decide, by decide⟩ (s_iadd C dL_number_44 (s_goto C dL_number_45 (by decide) (fun _ _ _ h => h)))))))))))))))))))))))))))))))
set_option maxRecDepth 100000 in
theorem rL_number_87 {zx : zX} {zn : Nat} {p : Program} {l : Launch} {e : Env} {s : State} {m : MethodId} {args : Array Value} {below : List Frame} {meth : Method} {c : Code} {D : va_G} {cA : Nat → ClassId} {ad : Nat → Nat} {Ret : zR} (C : z_Cx zx zn (z_A zn ad) 0 0 p { frames := 2, cells := 0, slots := 0, locals := 47 } s m args c cL_number yL_number.cls 3 D cA ad) (hr : meth.sig.returnType = none) (hlocks : meth.locks = false) : ∀ L st σ, tL_number_87 zx (z_X zx zn (z_A zn ad) 0 0 p l e { frames := 2, cells := 0, slots := 0, locals := 47 } s m args below meth c (MQ below (z_Qc zn D cA ad Ret) args s 0 0 (z_A zn ad)) 3 D cA ad true) Ret L st σ → z_X zx zn (z_A zn ad) 0 0 p l e { frames := 2, cells := 0, slots := 0, locals := 47 } s m args below meth c (MQ below (z_Qc zn D cA ad Ret) args s 0 0 (z_A zn ad)) 3 D cA ad true 87 L st σ := (s_istore_n C dL_number_87 (by decide) rfl rfl (s_aload_n C dL_number_88 rfl (s_bipush C dL_number_89 rfl ⟨by decide, by decide⟩ (s_iload_n C dL_number_91 rfl (s_bipush C dL_number_92 rfl ⟨by decide, by decide⟩ (s_irem C dL_number_94 (s_iadd C dL_number_95 (s_i2l C dL_number_96 (s_iconst C dL_number_97 rfl ⟨by decide, by decide⟩ (s_cv2 C dL_number_98 (okW_feed l) cls_X9 wd_561 wd_562 wd_563 wd_17 wd_564 ⟨by decide, by decide, by decide +kernel⟩ ⟨by decide, by decide⟩ (s_istore_n C dL_number_101 (by decide) rfl rfl (s_vret C dL_number_102 hr hlocks))))))))))))
theorem okL_number {zx : zX} {zn : Nat} (l : Launch) : z_OK zx zn l yL_number cL_number 3 none 2 47 (SL_number zx) := by
  refine z_ok_of true (by decide +kernel) ?_ ?_
  · intro as σ Ret h
    obtain ⟨k1, x2, rfl⟩ := pL_number h
    exact ⟨Nat.le_of_ble_eq_true rfl, by simp⟩
  · intro p e s m args below meth c D cA ad Ret C hr hlocks as σ has hσ h
    obtain ⟨k1, x2, rfl⟩ := pL_number h
    exact vL_number (rL_number_0 C hr hlocks) (rL_number_87 C hr hlocks) k1 x2 σ (has _ (List.mem_of_getElem? (i := 0) rfl)).1 (has _ (List.mem_of_getElem? (i := 1) rfl)) hσ h
/-- the words that the law tells, as it has them, and byte by byte -/
def w_wd : List (Int × List Int) := [(1953654117, [116, 114, 101, 101]), (59, [59]), (2003398244, [119, 105, 110, 100]), (1953853029, [116, 117, 110, 101]), (6518132, [99, 117, 116]), (7103860, [108, 101, 116]), (1953854062, [116, 117, 114, 110]), (6906725, [105, 99, 101]), (1952997751, [116, 104, 97, 119]), (1717922924, [102, 101, 108, 108]), (7824756, [119, 101, 116]), (6582905, [100, 114, 121])]
def w_sh (w : Int) (i : Nat) : Int := (Int64.ofInt w >>> ((Int32.ofInt (8 * (i : Int))).toInt64 &&& 63)).toInt
theorem w_wd_ok : ∀ p ∈ w_wd, (1 ≤ p.2.length ∧ p.2.length ≤ 4) ∧ (∀ i, i < p.2.length → 1 ≤ i → ¬ w_sh p.1 i = 0) ∧ w_sh p.1 p.2.length = 0 ∧ w_bs p.1 p.2.length = p.2 := by decide +kernel
theorem w_okp {L : zL} {j : Nat} (h : ∀ x, z_get L j ≠ some (.inr (.inl x))) : z_okp L (j + 1) := fun i x e => by
  have : i = j := by omega
  subst this
  exact h x
def SL_word (zx : zX) : zS := fun as σ Ret => match as with
  | [.inr (.inr (9, 0, _)), .inr (.inl w)] => ∃ D O h b, w_at σ D O h b ∧ ∃ t, (w, t) ∈ w_wd ∧ b.length ≤ 390 ∧ ∀ σ', w_fr σ σ' → w_at σ' D O h (b ++ t) → Ret none σ'
  | _ => False
def tL_word_0 (zx : zX) (X : Nat → zB) (Ret : zR) (L : zL) (st : List zV) (σ : zM) : Prop := (z_push 1 (z_istoreP 3 (X 2))) L st σ
def tL_word_2 (zx : zX) (X : Nat → zB) (Ret : zR) (L : zL) (st : List zV) (σ : zM) : Prop := (z_iload 3 (z_push 8 (z_icge (X 25) (z_lload 1 (z_push 8 (z_iload 3 (z_imul (z_lshr (z_lpush 0 (z_lcmp (z_ifeq (X 25) (z_iincP 3 1 (z_goto (X 2)))))))))))))) L st σ
def tL_word_25 (zx : zX) (X : Nat → zB) (Ret : zR) (L : zL) (st : List zV) (σ : zM) : Prop := (z_aload 0 (z_lload 1 (z_iload 3 (z_cv2 9 SW_feed (z_istoreP 4 (z_vret Ret)))))) L st σ
theorem pL_word {zx : zX} {as : List zV} {σ : zM} {Ret : zR} (h : (SL_word zx) as σ Ret) : ∃ (k1 : Nat) (x2 : Int), as = [.inr (.inr (9, 0, k1)), .inr (.inl x2)] := by
  unfold SL_word at h
  split at h
  · exact ⟨_, _, rfl⟩
  · exact h.elim
set_option maxRecDepth 10000 in
set_option maxHeartbeats 4000000 in
theorem vL_word {zx : zX} {X : Nat → zB} {Ret : zR} (h0 : ∀ L st σ, tL_word_0 zx X Ret L st σ → X 0 L st σ) (h2 : ∀ L st σ, tL_word_2 zx X Ret L st σ → X 2 L st σ) (h25 : ∀ L st σ, tL_word_25 zx X Ret L st σ → X 25 L st σ) (k1 : Nat) (x2 : Int) (σ : zM) (hk1 : z_kd k1 = (9, 0)) (hx2 : -9223372036854775808 ≤ x2 ∧ x2 ≤ 9223372036854775807) (hσ : z_okm σ) (h : (SL_word zx) [.inr (.inr (9, 0, k1)), .inr (.inl x2)] σ Ret) : X 0 [some (.inr (.inr (9, 0, k1))), some (.inr (.inl x2)), none, none, none] [] σ := by
  obtain ⟨D, O, hh, b, a, t, ht, l, k⟩ := h
  obtain ⟨⟨t1, t2⟩, t3, t4, t5⟩ := w_wd_ok _ ht
  dsimp only at t1 t2 t3 t4 t5
  have X25 : X 25 [some (.inr (.inr (9, 0, k1))), some (.inr (.inl x2)), none, some (.inl (t.length : Int)), none] [] σ := by
    refine h25 _ _ _ ?_
    simp only [z_push, z_lpush, z_iload, z_lload, z_aload, z_istore, z_istoreP, z_lstore, z_astore, z_iinc, z_iincP, z_iadd, z_isub, z_imul, z_iaddW, z_isubW, z_imulW, z_idiv, z_irem, z_iand, z_ior, z_ixor, z_ishl, z_ishr, z_iushr, z_ineg, z_i2l, z_i2b, z_i2s, z_i2c, z_l2i, z_ladd, z_lsub, z_land, z_lor, z_lshl, z_lshr, z_lcmp, z_dup, z_pop, z_dup2, z_goto, z_tsw, z_cases, z_geti, z_getr, z_puti, z_putz, z_ald, z_iast, z_bast, z_zast, z_alen, z_acopy, z_mmax, z_mmin, z_mabs, z_mabsL, z_iret, z_zret, z_nret, z_lret, z_aret, z_vret, z_cat, z_xald, z_xlen, z_ldcs, z_strv, z_strc, z_gcs, z_gfm, z_sln, z_sald, z_ifeq, z_ifne, z_iflt, z_ifge, z_ifgt, z_ifle, z_iceq, z_icne, z_iclt, z_icge, z_icgt, z_icle, z_cs0, z_cs1, z_cs2, z_cs3, z_cs4, z_cs5, z_cs6, z_cs7, z_cv0, z_cv1, z_cv2, z_cv3, z_cv4, z_cv5, z_cv6, z_cv7, z_g0, z_s0, z_g1, z_s1, z_g2, z_s2, z_g3, z_s3, z_g4, z_s4, z_g5, z_s5, z_g6, z_s6, z_g7, z_s7, z_g8, z_s8, z_g9, z_s9, z_g10, z_s10, z_g11, z_s11, z_g12, z_s12, z_g13, z_s13, z_b0, z_b1, z_b0n, z_b1n, z_up_far1, z_up_far2, z_up_far3, z_up_far4, z_up_far5, z_up_far6, Classical.not_not, not_true_eq_false, z_in, z_inL, Int.cast_ofNat_Int, Nat.reduceLeDiff, List.length_cons, List.length_nil, Nat.reduceAdd, Nat.zero_add, Nat.le_refl, true_and, and_true, List.length, Nat.reduceLT, true_or, or_true, false_or, or_false, false_and, and_false, not_true_eq_false, not_false_eq_true, forall_const, false_implies, true_implies, Int.reduceEq, Int.reduceLT, Int.reduceLE, Int.reduceAdd, Int.reduceSub, Int.reduceMul, Int.reduceNeg, Int.reduceToNat, Int.toNat_natCast, ↓reduceIte, reduceIte, Nat.reduceEqDiff, Nat.reduceSub, Nat.reduceMul, ne_eq, Int.zero_add, Int.add_zero, Int.sub_zero, Nat.add_zero, Int.ofNat_eq_natCast, tL_word_25, SW_feed]
    refine ⟨D, O, hh, b, a, ⟨by omega, by omega, by omega⟩, fun σ2 f2 a2 => ⟨w_okp (fun x => by simp [z_get]), ?_⟩⟩
    rw [t5] at a2
    exact k σ2 f2 a2
  have lp : ∀ (d i : Nat), t.length - i < d → 1 ≤ i → i ≤ t.length → X 2 [some (.inr (.inr (9, 0, k1))), some (.inr (.inl x2)), none, some (.inl (i : Int)), none] [] σ := by
    intro d
    induction d with
    | zero => intro i g; omega
    | succ d ih =>
      intro i g g1 g2
      have e8 : (Int64.ofInt x2 >>> ((Int32.ofInt (8 * (i : Int))).toInt64 &&& 63)).toInt = w_sh x2 i := rfl
      refine h2 _ _ _ ?_
      by_cases c : i = t.length
      · rw [← c] at t4 X25
        simp only [z_push, z_lpush, z_iload, z_lload, z_aload, z_istore, z_istoreP, z_lstore, z_astore, z_iinc, z_iincP, z_iadd, z_isub, z_imul, z_iaddW, z_isubW, z_imulW, z_idiv, z_irem, z_iand, z_ior, z_ixor, z_ishl, z_ishr, z_iushr, z_ineg, z_i2l, z_i2b, z_i2s, z_i2c, z_l2i, z_ladd, z_lsub, z_land, z_lor, z_lshl, z_lshr, z_lcmp, z_dup, z_pop, z_dup2, z_goto, z_tsw, z_cases, z_geti, z_getr, z_puti, z_putz, z_ald, z_iast, z_bast, z_zast, z_alen, z_acopy, z_mmax, z_mmin, z_mabs, z_mabsL, z_iret, z_zret, z_nret, z_lret, z_aret, z_vret, z_cat, z_xald, z_xlen, z_ldcs, z_strv, z_strc, z_gcs, z_gfm, z_sln, z_sald, z_ifeq, z_ifne, z_iflt, z_ifge, z_ifgt, z_ifle, z_iceq, z_icne, z_iclt, z_icge, z_icgt, z_icle, z_cs0, z_cs1, z_cs2, z_cs3, z_cs4, z_cs5, z_cs6, z_cs7, z_cv0, z_cv1, z_cv2, z_cv3, z_cv4, z_cv5, z_cv6, z_cv7, z_g0, z_s0, z_g1, z_s1, z_g2, z_s2, z_g3, z_s3, z_g4, z_s4, z_g5, z_s5, z_g6, z_s6, z_g7, z_s7, z_g8, z_s8, z_g9, z_s9, z_g10, z_s10, z_g11, z_s11, z_g12, z_s12, z_g13, z_s13, z_b0, z_b1, z_b0n, z_b1n, z_up_far1, z_up_far2, z_up_far3, z_up_far4, z_up_far5, z_up_far6, Classical.not_not, not_true_eq_false, z_in, z_inL, Int.cast_ofNat_Int, Nat.reduceLeDiff, List.length_cons, List.length_nil, Nat.reduceAdd, Nat.zero_add, Nat.le_refl, true_and, and_true, List.length, Nat.reduceLT, true_or, or_true, false_or, or_false, false_and, and_false, not_true_eq_false, not_false_eq_true, forall_const, false_implies, true_implies, Int.reduceEq, Int.reduceLT, Int.reduceLE, Int.reduceAdd, Int.reduceSub, Int.reduceMul, Int.reduceNeg, Int.reduceToNat, Int.toNat_natCast, ↓reduceIte, reduceIte, Nat.reduceEqDiff, Nat.reduceSub, Nat.reduceMul, ne_eq, Int.zero_add, Int.add_zero, Int.sub_zero, Nat.add_zero, Int.ofNat_eq_natCast, tL_word_2, e8, t4]
        exact ⟨fun _ => X25, fun _ => ⟨by omega, X25⟩⟩
      · have t3i := t3 i (by omega) g1
        simp only [z_push, z_lpush, z_iload, z_lload, z_aload, z_istore, z_istoreP, z_lstore, z_astore, z_iinc, z_iincP, z_iadd, z_isub, z_imul, z_iaddW, z_isubW, z_imulW, z_idiv, z_irem, z_iand, z_ior, z_ixor, z_ishl, z_ishr, z_iushr, z_ineg, z_i2l, z_i2b, z_i2s, z_i2c, z_l2i, z_ladd, z_lsub, z_land, z_lor, z_lshl, z_lshr, z_lcmp, z_dup, z_pop, z_dup2, z_goto, z_tsw, z_cases, z_geti, z_getr, z_puti, z_putz, z_ald, z_iast, z_bast, z_zast, z_alen, z_acopy, z_mmax, z_mmin, z_mabs, z_mabsL, z_iret, z_zret, z_nret, z_lret, z_aret, z_vret, z_cat, z_xald, z_xlen, z_ldcs, z_strv, z_strc, z_gcs, z_gfm, z_sln, z_sald, z_ifeq, z_ifne, z_iflt, z_ifge, z_ifgt, z_ifle, z_iceq, z_icne, z_iclt, z_icge, z_icgt, z_icle, z_cs0, z_cs1, z_cs2, z_cs3, z_cs4, z_cs5, z_cs6, z_cs7, z_cv0, z_cv1, z_cv2, z_cv3, z_cv4, z_cv5, z_cv6, z_cv7, z_g0, z_s0, z_g1, z_s1, z_g2, z_s2, z_g3, z_s3, z_g4, z_s4, z_g5, z_s5, z_g6, z_s6, z_g7, z_s7, z_g8, z_s8, z_g9, z_s9, z_g10, z_s10, z_g11, z_s11, z_g12, z_s12, z_g13, z_s13, z_b0, z_b1, z_b0n, z_b1n, z_up_far1, z_up_far2, z_up_far3, z_up_far4, z_up_far5, z_up_far6, Classical.not_not, not_true_eq_false, z_in, z_inL, Int.cast_ofNat_Int, Nat.reduceLeDiff, List.length_cons, List.length_nil, Nat.reduceAdd, Nat.zero_add, Nat.le_refl, true_and, and_true, List.length, Nat.reduceLT, true_or, or_true, false_or, or_false, false_and, and_false, not_true_eq_false, not_false_eq_true, forall_const, false_implies, true_implies, Int.reduceEq, Int.reduceLT, Int.reduceLE, Int.reduceAdd, Int.reduceSub, Int.reduceMul, Int.reduceNeg, Int.reduceToNat, Int.toNat_natCast, ↓reduceIte, reduceIte, Nat.reduceEqDiff, Nat.reduceSub, Nat.reduceMul, ne_eq, Int.zero_add, Int.add_zero, Int.sub_zero, Nat.add_zero, Int.ofNat_eq_natCast, tL_word_2, e8]
        refine ⟨fun q => by omega, fun _ => ⟨by omega, fun q => ?_, fun _ => ⟨⟨by omega, w_okp (fun x => by simp [z_get])⟩, ?_⟩⟩⟩
        · exfalso
          split at q <;> omega
        · exact ih (i + 1) (by omega) (by omega) (by omega)
  refine h0 _ _ _ ?_
  simp only [z_push, z_lpush, z_iload, z_lload, z_aload, z_istore, z_istoreP, z_lstore, z_astore, z_iinc, z_iincP, z_iadd, z_isub, z_imul, z_iaddW, z_isubW, z_imulW, z_idiv, z_irem, z_iand, z_ior, z_ixor, z_ishl, z_ishr, z_iushr, z_ineg, z_i2l, z_i2b, z_i2s, z_i2c, z_l2i, z_ladd, z_lsub, z_land, z_lor, z_lshl, z_lshr, z_lcmp, z_dup, z_pop, z_dup2, z_goto, z_tsw, z_cases, z_geti, z_getr, z_puti, z_putz, z_ald, z_iast, z_bast, z_zast, z_alen, z_acopy, z_mmax, z_mmin, z_mabs, z_mabsL, z_iret, z_zret, z_nret, z_lret, z_aret, z_vret, z_cat, z_xald, z_xlen, z_ldcs, z_strv, z_strc, z_gcs, z_gfm, z_sln, z_sald, z_ifeq, z_ifne, z_iflt, z_ifge, z_ifgt, z_ifle, z_iceq, z_icne, z_iclt, z_icge, z_icgt, z_icle, z_cs0, z_cs1, z_cs2, z_cs3, z_cs4, z_cs5, z_cs6, z_cs7, z_cv0, z_cv1, z_cv2, z_cv3, z_cv4, z_cv5, z_cv6, z_cv7, z_g0, z_s0, z_g1, z_s1, z_g2, z_s2, z_g3, z_s3, z_g4, z_s4, z_g5, z_s5, z_g6, z_s6, z_g7, z_s7, z_g8, z_s8, z_g9, z_s9, z_g10, z_s10, z_g11, z_s11, z_g12, z_s12, z_g13, z_s13, z_b0, z_b1, z_b0n, z_b1n, z_up_far1, z_up_far2, z_up_far3, z_up_far4, z_up_far5, z_up_far6, Classical.not_not, not_true_eq_false, z_in, z_inL, Int.cast_ofNat_Int, Nat.reduceLeDiff, List.length_cons, List.length_nil, Nat.reduceAdd, Nat.zero_add, Nat.le_refl, true_and, and_true, List.length, Nat.reduceLT, true_or, or_true, false_or, or_false, false_and, and_false, not_true_eq_false, not_false_eq_true, forall_const, false_implies, true_implies, Int.reduceEq, Int.reduceLT, Int.reduceLE, Int.reduceAdd, Int.reduceSub, Int.reduceMul, Int.reduceNeg, Int.reduceToNat, Int.toNat_natCast, ↓reduceIte, reduceIte, Nat.reduceEqDiff, Nat.reduceSub, Nat.reduceMul, ne_eq, Int.zero_add, Int.add_zero, Int.sub_zero, Nat.add_zero, Int.ofNat_eq_natCast, tL_word_0]
  exact ⟨w_okp (fun x => by simp [z_get]), lp (t.length + 1) 1 (by omega) (by omega) t1⟩
theorem dL_word_0 : decode cL_word 0 = .ok (.iconst 1, 1) := by decide +kernel
theorem dL_word_1 : decode cL_word 1 = .ok (.istore_n 3, 1) := by decide +kernel
theorem dL_word_2 : decode cL_word 2 = .ok (.iload_n 3, 1) := by decide +kernel
theorem dL_word_3 : decode cL_word 3 = .ok (.bipush 8, 2) := by decide +kernel
theorem dL_word_5 : decode cL_word 5 = .ok (.if_icmp .ge 20, 3) := by decide +kernel
theorem dL_word_8 : decode cL_word 8 = .ok (.lload_n 1, 1) := by decide +kernel
theorem dL_word_9 : decode cL_word 9 = .ok (.bipush 8, 2) := by decide +kernel
theorem dL_word_11 : decode cL_word 11 = .ok (.iload_n 3, 1) := by decide +kernel
theorem dL_word_12 : decode cL_word 12 = .ok (.imul, 1) := by decide +kernel
theorem dL_word_13 : decode cL_word 13 = .ok (.lshr, 1) := by decide +kernel
theorem dL_word_14 : decode cL_word 14 = .ok (.lconst 0, 1) := by decide +kernel
theorem dL_word_15 : decode cL_word 15 = .ok (.lcmp, 1) := by decide +kernel
theorem dL_word_16 : decode cL_word 16 = .ok (.ifCond .eq 9, 3) := by decide +kernel
theorem dL_word_19 : decode cL_word 19 = .ok (.iinc 3 1, 3) := by decide +kernel
theorem dL_word_22 : decode cL_word 22 = .ok (.goto (-20), 3) := by decide +kernel
theorem dL_word_25 : decode cL_word 25 = .ok (.aload_n 0, 1) := by decide +kernel
theorem dL_word_26 : decode cL_word 26 = .ok (.lload_n 1, 1) := by decide +kernel
theorem dL_word_27 : decode cL_word 27 = .ok (.iload_n 3, 1) := by decide +kernel
theorem dL_word_28 : decode cL_word 28 = .ok (.invokevirtual 11, 3) := by decide +kernel
theorem dL_word_31 : decode cL_word 31 = .ok (.istore 4, 2) := by decide +kernel
theorem dL_word_33 : decode cL_word 33 = .ok (.return_, 1) := by decide +kernel
set_option maxRecDepth 100000 in
theorem rL_word_0 {zx : zX} {zn : Nat} {p : Program} {l : Launch} {e : Env} {s : State} {m : MethodId} {args : Array Value} {below : List Frame} {meth : Method} {c : Code} {D : va_G} {cA : Nat → ClassId} {ad : Nat → Nat} {Ret : zR} (C : z_Cx zx zn (z_A zn ad) 0 0 p { frames := 2, cells := 0, slots := 0, locals := 47 } s m args c cL_word yL_word.cls 5 D cA ad) (hr : meth.sig.returnType = none) (hlocks : meth.locks = false) : ∀ L st σ, tL_word_0 zx (z_X zx zn (z_A zn ad) 0 0 p l e { frames := 2, cells := 0, slots := 0, locals := 47 } s m args below meth c (MQ below (z_Qc zn D cA ad Ret) args s 0 0 (z_A zn ad)) 5 D cA ad false) Ret L st σ → z_X zx zn (z_A zn ad) 0 0 p l e { frames := 2, cells := 0, slots := 0, locals := 47 } s m args below meth c (MQ below (z_Qc zn D cA ad Ret) args s 0 0 (z_A zn ad)) 5 D cA ad false 0 L st σ := (s_iconst C dL_word_0 rfl ⟨by decide, by decide⟩ (s_istoreP_n C dL_word_1 (by decide) rfl  (fun _ _ _ h => h)))
set_option maxRecDepth 100000 in
theorem rL_word_2 {zx : zX} {zn : Nat} {p : Program} {l : Launch} {e : Env} {s : State} {m : MethodId} {args : Array Value} {below : List Frame} {meth : Method} {c : Code} {D : va_G} {cA : Nat → ClassId} {ad : Nat → Nat} {Ret : zR} (C : z_Cx zx zn (z_A zn ad) 0 0 p { frames := 2, cells := 0, slots := 0, locals := 47 } s m args c cL_word yL_word.cls 5 D cA ad) (hr : meth.sig.returnType = none) (hlocks : meth.locks = false) : ∀ L st σ, tL_word_2 zx (z_X zx zn (z_A zn ad) 0 0 p l e { frames := 2, cells := 0, slots := 0, locals := 47 } s m args below meth c (MQ below (z_Qc zn D cA ad Ret) args s 0 0 (z_A zn ad)) 5 D cA ad false) Ret L st σ → z_X zx zn (z_A zn ad) 0 0 p l e { frames := 2, cells := 0, slots := 0, locals := 47 } s m args below meth c (MQ below (z_Qc zn D cA ad Ret) args s 0 0 (z_A zn ad)) 5 D cA ad false 2 L st σ := (s_iload_n C dL_word_2 rfl (s_bipush C dL_word_3 rfl ⟨by decide, by decide⟩ (s_icge C dL_word_5 (by decide) (fun _ _ _ h => h) (s_lload_n C dL_word_8 rfl (s_bipush C dL_word_9 rfl ⟨by decide, by decide⟩ (s_iload_n C dL_word_11 rfl (s_imul C dL_word_12 (s_lshr C dL_word_13 (s_lconst C dL_word_14 (v := 0) rfl ⟨by decide, by decide⟩ (s_lcmp C dL_word_15 (s_ifeq C dL_word_16 (by decide) (fun _ _ _ h => h) (s_iincP C dL_word_19 (by decide)  (s_goto C dL_word_22 (by decide) (fun _ _ _ h => h))))))))))))))
set_option maxRecDepth 100000 in
theorem rL_word_25 {zx : zX} {zn : Nat} {p : Program} {l : Launch} {e : Env} {s : State} {m : MethodId} {args : Array Value} {below : List Frame} {meth : Method} {c : Code} {D : va_G} {cA : Nat → ClassId} {ad : Nat → Nat} {Ret : zR} (C : z_Cx zx zn (z_A zn ad) 0 0 p { frames := 2, cells := 0, slots := 0, locals := 47 } s m args c cL_word yL_word.cls 5 D cA ad) (hr : meth.sig.returnType = none) (hlocks : meth.locks = false) : ∀ L st σ, tL_word_25 zx (z_X zx zn (z_A zn ad) 0 0 p l e { frames := 2, cells := 0, slots := 0, locals := 47 } s m args below meth c (MQ below (z_Qc zn D cA ad Ret) args s 0 0 (z_A zn ad)) 5 D cA ad false) Ret L st σ → z_X zx zn (z_A zn ad) 0 0 p l e { frames := 2, cells := 0, slots := 0, locals := 47 } s m args below meth c (MQ below (z_Qc zn D cA ad Ret) args s 0 0 (z_A zn ad)) 5 D cA ad false 25 L st σ := (s_aload_n C dL_word_25 rfl (s_lload_n C dL_word_26 rfl (s_iload_n C dL_word_27 rfl (s_cv2 C dL_word_28 (okW_feed l) cls_X9 wd_561 wd_562 wd_563 wd_17 wd_564 ⟨by decide, by decide, by decide +kernel⟩ ⟨by decide, by decide⟩ (s_istoreP C dL_word_31 (by decide)  (s_vret C dL_word_33 hr hlocks))))))
theorem okL_word {zx : zX} {zn : Nat} (l : Launch) : z_OK zx zn l yL_word cL_word 5 none 2 47 (SL_word zx) := by
  refine z_ok_of false (by decide +kernel) ?_ ?_
  · intro as σ Ret h
    obtain ⟨k1, x2, rfl⟩ := pL_word h
    exact ⟨Nat.le_of_ble_eq_true rfl, by intro h; cases h⟩
  · intro p e s m args below meth c D cA ad Ret C hr hlocks as σ has hσ h
    obtain ⟨k1, x2, rfl⟩ := pL_word h
    exact vL_word (rL_word_0 C hr hlocks) (rL_word_2 C hr hlocks) (rL_word_25 C hr hlocks) k1 x2 σ (has _ (List.mem_of_getElem? (i := 0) rfl)).1 (has _ (List.mem_of_getElem? (i := 1) rfl)) hσ h
