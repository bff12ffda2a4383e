/-! which order a name is -/
def q_oof (w : Int) : Int := if w = 6518132 then 0 else if w = 7103860 then 1 else if w = 1953854062 then 2 else if w = 6906725 then 3 else if w = 1952997751 then 4 else if w = 1717922924 then 5 else if w = 7824756 then 6 else if w = 6582905 then 7 else -1000000
def SX10_orderOf : zS := fun as σ Ret => match as with
  | [.inr (.inl w)] => Ret (some (.inl (q_oof w))) σ
  | _ => False
def tX10_orderOf_0 (X : Nat → zB) (Ret : zR) (L : zL) (st : List zV) (σ : zM) : Prop := (z_lload 0 (z_lpush 6518132 (z_lcmp (z_ifne (z_lload 0 (z_lpush 7103860 (z_lcmp (z_ifne (z_lload 0 (z_lpush 1953854062 (z_lcmp (z_ifne (z_lload 0 (z_lpush 6906725 (z_lcmp (z_ifne (z_push (-1000000) (X 50)) (z_push 3 (z_goto (X 50))))))) (z_push 2 (z_goto (X 50))))))) (z_push 1 (z_goto (X 50))))))) (z_push 0 (z_goto (X 50))))))) L st σ
def tX10_orderOf_50 (X : Nat → zB) (Ret : zR) (L : zL) (st : List zV) (σ : zM) : Prop := (z_istoreP 2 (z_iload 2 (z_push (-1000000) (z_iceq (z_lload 0 (z_lpush 1952997751 (z_lcmp (z_ifne (z_lload 0 (z_lpush 1717922924 (z_lcmp (z_ifne (z_lload 0 (z_lpush 7824756 (z_lcmp (z_ifne (z_lload 0 (z_lpush 6582905 (z_lcmp (z_ifne (z_push (-1000000) (z_iret Ret)) (z_push 7 (z_goto (z_iret Ret))))))) (z_push 6 (z_goto (z_iret Ret))))))) (z_push 5 (z_goto (z_iret Ret))))))) (z_push 4 (z_goto (z_iret Ret))))))) (z_iload 2 (z_goto (z_iret Ret))))))) L st σ
theorem pX10_orderOf {as : List zV} {σ : zM} {Ret : zR} (h : SX10_orderOf as σ Ret) : ∃ (x1 : Int), as = [.inr (.inl x1)] := by
  unfold SX10_orderOf at h
  split at h
  · exact ⟨_, rfl⟩
  · exact h.elim
set_option maxRecDepth 10000 in
set_option maxHeartbeats 4000000 in
theorem vX10_orderOf {X : Nat → zB} {Ret : zR} (h0 : ∀ L st σ, tX10_orderOf_0 X Ret L st σ → X 0 L st σ) (h50 : ∀ L st σ, tX10_orderOf_50 X Ret L st σ → X 50 L st σ) (x1 : Int) (σ : zM) (hx1 : -9223372036854775808 ≤ x1 ∧ x1 ≤ 9223372036854775807) (hσ : z_okm σ) (h : SX10_orderOf [.inr (.inl x1)] σ Ret) : X 0 [some (.inr (.inl x1)), none, none] [] σ := by
  simp only [SX10_orderOf] at h
  have lc : ∀ (a b : Int), (if a < b then (-1 : Int) else if a = b then 0 else 1) = 0 ↔ a = b := fun a b => by
    by_cases c : a < b
    · rw [if_pos c]; omega
    · rw [if_neg c]
      by_cases e : a = b
      · rw [if_pos e]; omega
      · rw [if_neg e]; omega
  have okp : ∀ (L : zL), z_get L 1 = none → z_okp L 2 := fun L hL j x e => by
    obtain rfl : j = 1 := by omega
    rw [hL]
    exact fun q => by cases q
  have L50 : ∀ (v : Int), -2147483648 ≤ v ∧ v ≤ 2147483647 → (¬ v = -1000000 → Ret (some (.inl v)) σ) → (v = -1000000 → Ret (some (.inl (if x1 = 1952997751 then 4 else if x1 = 1717922924 then 5 else if x1 = 7824756 then 6 else if x1 = 6582905 then 7 else -1000000))) σ) → X 50 [some (.inr (.inl x1)), none, none] [.inl v] σ := by
    intro v hv g1 g2
    refine h50 _ _ _ ?_
    simp only [z_push, z_lpush, z_iload, z_lload, z_aload, z_istore, z_istoreP, z_lstore, z_astore, z_iinc, z_iincP, z_iadd, z_isub, z_imul, z_iaddW, z_isubW, z_imulW, z_idiv, z_irem, z_iand, z_ior, z_ixor, z_ishl, z_ishr, z_iushr, z_ineg, z_i2l, z_i2b, z_i2s, z_i2c, z_l2i, z_ladd, z_lsub, z_land, z_lor, z_lshl, z_lshr, z_lcmp, z_dup, z_pop, z_dup2, z_goto, z_tsw, z_cases, z_geti, z_getr, z_puti, z_putz, z_ald, z_iast, z_bast, z_zast, z_alen, z_acopy, z_mmax, z_mmin, z_mabs, z_mabsL, z_iret, z_zret, z_nret, z_lret, z_aret, z_vret, z_cat, z_ldcs, z_strv, z_strc, z_gcs, z_gfm, z_sln, z_sald, z_ifeq, z_ifne, z_iflt, z_ifge, z_ifgt, z_ifle, z_iceq, z_icne, z_iclt, z_icge, z_icgt, z_icle, z_cs0, z_cs1, z_cs2, z_cs3, z_cs4, z_cs5, z_cs6, z_cs7, z_cv0, z_cv1, z_cv2, z_cv3, z_cv4, z_cv5, z_cv6, z_cv7, z_g0, z_s0, z_g1, z_s1, z_g2, z_s2, z_g3, z_s3, z_g4, z_s4, z_g5, z_s5, z_g6, z_s6, z_g7, z_s7, z_g8, z_s8, z_g9, z_s9, z_g10, z_s10, z_g11, z_s11, z_g12, z_s12, z_g13, z_s13, z_b0, z_b1, z_b0n, z_b1n, z_up_far1, z_up_far2, z_up_far3, z_up_far4, z_up_far5, z_up_far6, Classical.not_not, not_true_eq_false, z_in, z_inL, Int.cast_ofNat_Int, Nat.reduceLeDiff, List.length_cons, List.length_nil, Nat.reduceAdd, Nat.zero_add, Nat.le_refl, true_and, and_true, List.length, Nat.reduceLT, true_or, or_true, false_or, or_false, false_and, and_false, not_true_eq_false, not_false_eq_true, forall_const, false_implies, true_implies, Int.reduceEq, Int.reduceLT, Int.reduceLE, Int.reduceAdd, Int.reduceSub, Int.reduceMul, Int.reduceNeg, Int.reduceToNat, Int.toNat_natCast, ↓reduceIte, reduceIte, Nat.reduceEqDiff, Nat.reduceSub, Nat.reduceMul, ne_eq, Int.zero_add, Int.add_zero, Int.sub_zero, Nat.add_zero, Int.ofNat_eq_natCast, tX10_orderOf_50, lc]
    refine ⟨okp _ rfl, fun e => ?_, fun e => g1 e⟩
    have g := g2 e
    refine ⟨fun e1 => ⟨fun e2 => ⟨fun e3 => ⟨fun e4 => ?_, fun e4 => ?_⟩, fun e3 => ?_⟩, fun e2 => ?_⟩, fun e1 => ?_⟩
    · rw [if_neg e1, if_neg e2, if_neg e3, if_neg e4] at g; exact g
    · rw [if_neg e1, if_neg e2, if_neg e3, if_pos e4] at g; exact g
    · rw [if_neg e1, if_neg e2, if_pos e3] at g; exact g
    · rw [if_neg e1, if_pos e2] at g; exact g
    · rw [if_pos e1] at g; exact g
  refine h0 _ _ _ ?_
  simp only [z_push, z_lpush, z_iload, z_lload, z_aload, z_istore, z_istoreP, z_lstore, z_astore, z_iinc, z_iincP, z_iadd, z_isub, z_imul, z_iaddW, z_isubW, z_imulW, z_idiv, z_irem, z_iand, z_ior, z_ixor, z_ishl, z_ishr, z_iushr, z_ineg, z_i2l, z_i2b, z_i2s, z_i2c, z_l2i, z_ladd, z_lsub, z_land, z_lor, z_lshl, z_lshr, z_lcmp, z_dup, z_pop, z_dup2, z_goto, z_tsw, z_cases, z_geti, z_getr, z_puti, z_putz, z_ald, z_iast, z_bast, z_zast, z_alen, z_acopy, z_mmax, z_mmin, z_mabs, z_mabsL, z_iret, z_zret, z_nret, z_lret, z_aret, z_vret, z_cat, z_ldcs, z_strv, z_strc, z_gcs, z_gfm, z_sln, z_sald, z_ifeq, z_ifne, z_iflt, z_ifge, z_ifgt, z_ifle, z_iceq, z_icne, z_iclt, z_icge, z_icgt, z_icle, z_cs0, z_cs1, z_cs2, z_cs3, z_cs4, z_cs5, z_cs6, z_cs7, z_cv0, z_cv1, z_cv2, z_cv3, z_cv4, z_cv5, z_cv6, z_cv7, z_g0, z_s0, z_g1, z_s1, z_g2, z_s2, z_g3, z_s3, z_g4, z_s4, z_g5, z_s5, z_g6, z_s6, z_g7, z_s7, z_g8, z_s8, z_g9, z_s9, z_g10, z_s10, z_g11, z_s11, z_g12, z_s12, z_g13, z_s13, z_b0, z_b1, z_b0n, z_b1n, z_up_far1, z_up_far2, z_up_far3, z_up_far4, z_up_far5, z_up_far6, Classical.not_not, not_true_eq_false, z_in, z_inL, Int.cast_ofNat_Int, Nat.reduceLeDiff, List.length_cons, List.length_nil, Nat.reduceAdd, Nat.zero_add, Nat.le_refl, true_and, and_true, List.length, Nat.reduceLT, true_or, or_true, false_or, or_false, false_and, and_false, not_true_eq_false, not_false_eq_true, forall_const, false_implies, true_implies, Int.reduceEq, Int.reduceLT, Int.reduceLE, Int.reduceAdd, Int.reduceSub, Int.reduceMul, Int.reduceNeg, Int.reduceToNat, Int.toNat_natCast, ↓reduceIte, reduceIte, Nat.reduceEqDiff, Nat.reduceSub, Nat.reduceMul, ne_eq, Int.zero_add, Int.add_zero, Int.sub_zero, Nat.add_zero, Int.ofNat_eq_natCast, tX10_orderOf_0, lc]
  unfold q_oof at h
  refine ⟨fun e1 => ⟨fun e2 => ⟨fun e3 => ⟨fun e4 => ?_, fun e4 => ?_⟩, fun e3 => ?_⟩, fun e2 => ?_⟩, fun e1 => ?_⟩
  · rw [if_neg e1, if_neg e2, if_neg e3, if_neg e4] at h
    exact L50 _ (by omega) (fun q => absurd rfl q) (fun _ => h)
  · rw [if_neg e1, if_neg e2, if_neg e3, if_pos e4] at h
    exact L50 3 (by omega) (fun _ => h) (fun q => by omega)
  · rw [if_neg e1, if_neg e2, if_pos e3] at h
    exact L50 2 (by omega) (fun _ => h) (fun q => by omega)
  · rw [if_neg e1, if_pos e2] at h
    exact L50 1 (by omega) (fun _ => h) (fun q => by omega)
  · rw [if_pos e1] at h
    exact L50 0 (by omega) (fun _ => h) (fun q => by omega)
theorem dX10_orderOf_0 : decode cX10_orderOf 0 = .ok (.lload_n 0, 1) := by decide +kernel
theorem dX10_orderOf_1 : decode cX10_orderOf 1 = .ok (.ldc2_w 144, 3) := by decide +kernel
theorem dX10_orderOf_4 : decode cX10_orderOf 4 = .ok (.lcmp, 1) := by decide +kernel
theorem dX10_orderOf_5 : decode cX10_orderOf 5 = .ok (.ifCond .ne 7, 3) := by decide +kernel
theorem dX10_orderOf_8 : decode cX10_orderOf 8 = .ok (.iconst 0, 1) := by decide +kernel
theorem dX10_orderOf_9 : decode cX10_orderOf 9 = .ok (.goto 41, 3) := by decide +kernel
theorem dX10_orderOf_12 : decode cX10_orderOf 12 = .ok (.lload_n 0, 1) := by decide +kernel
theorem dX10_orderOf_13 : decode cX10_orderOf 13 = .ok (.ldc2_w 146, 3) := by decide +kernel
theorem dX10_orderOf_16 : decode cX10_orderOf 16 = .ok (.lcmp, 1) := by decide +kernel
theorem dX10_orderOf_17 : decode cX10_orderOf 17 = .ok (.ifCond .ne 7, 3) := by decide +kernel
theorem dX10_orderOf_20 : decode cX10_orderOf 20 = .ok (.iconst 1, 1) := by decide +kernel
theorem dX10_orderOf_21 : decode cX10_orderOf 21 = .ok (.goto 29, 3) := by decide +kernel
theorem dX10_orderOf_24 : decode cX10_orderOf 24 = .ok (.lload_n 0, 1) := by decide +kernel
theorem dX10_orderOf_25 : decode cX10_orderOf 25 = .ok (.ldc2_w 148, 3) := by decide +kernel
theorem dX10_orderOf_28 : decode cX10_orderOf 28 = .ok (.lcmp, 1) := by decide +kernel
theorem dX10_orderOf_29 : decode cX10_orderOf 29 = .ok (.ifCond .ne 7, 3) := by decide +kernel
theorem dX10_orderOf_32 : decode cX10_orderOf 32 = .ok (.iconst 2, 1) := by decide +kernel
theorem dX10_orderOf_33 : decode cX10_orderOf 33 = .ok (.goto 17, 3) := by decide +kernel
theorem dX10_orderOf_36 : decode cX10_orderOf 36 = .ok (.lload_n 0, 1) := by decide +kernel
theorem dX10_orderOf_37 : decode cX10_orderOf 37 = .ok (.ldc2_w 150, 3) := by decide +kernel
theorem dX10_orderOf_40 : decode cX10_orderOf 40 = .ok (.lcmp, 1) := by decide +kernel
theorem dX10_orderOf_41 : decode cX10_orderOf 41 = .ok (.ifCond .ne 7, 3) := by decide +kernel
theorem dX10_orderOf_44 : decode cX10_orderOf 44 = .ok (.iconst 3, 1) := by decide +kernel
theorem dX10_orderOf_45 : decode cX10_orderOf 45 = .ok (.goto 5, 3) := by decide +kernel
theorem dX10_orderOf_48 : decode cX10_orderOf 48 = .ok (.ldc 101, 2) := by decide +kernel
theorem dX10_orderOf_50 : decode cX10_orderOf 50 = .ok (.istore_n 2, 1) := by decide +kernel
theorem dX10_orderOf_51 : decode cX10_orderOf 51 = .ok (.iload_n 2, 1) := by decide +kernel
theorem dX10_orderOf_52 : decode cX10_orderOf 52 = .ok (.ldc 101, 2) := by decide +kernel
theorem dX10_orderOf_54 : decode cX10_orderOf 54 = .ok (.if_icmp .eq 7, 3) := by decide +kernel
theorem dX10_orderOf_57 : decode cX10_orderOf 57 = .ok (.iload_n 2, 1) := by decide +kernel
theorem dX10_orderOf_58 : decode cX10_orderOf 58 = .ok (.goto 55, 3) := by decide +kernel
theorem dX10_orderOf_61 : decode cX10_orderOf 61 = .ok (.lload_n 0, 1) := by decide +kernel
theorem dX10_orderOf_62 : decode cX10_orderOf 62 = .ok (.ldc2_w 152, 3) := by decide +kernel
theorem dX10_orderOf_65 : decode cX10_orderOf 65 = .ok (.lcmp, 1) := by decide +kernel
theorem dX10_orderOf_66 : decode cX10_orderOf 66 = .ok (.ifCond .ne 7, 3) := by decide +kernel
theorem dX10_orderOf_69 : decode cX10_orderOf 69 = .ok (.iconst 4, 1) := by decide +kernel
theorem dX10_orderOf_70 : decode cX10_orderOf 70 = .ok (.goto 43, 3) := by decide +kernel
theorem dX10_orderOf_73 : decode cX10_orderOf 73 = .ok (.lload_n 0, 1) := by decide +kernel
theorem dX10_orderOf_74 : decode cX10_orderOf 74 = .ok (.ldc2_w 154, 3) := by decide +kernel
theorem dX10_orderOf_77 : decode cX10_orderOf 77 = .ok (.lcmp, 1) := by decide +kernel
theorem dX10_orderOf_78 : decode cX10_orderOf 78 = .ok (.ifCond .ne 7, 3) := by decide +kernel
theorem dX10_orderOf_81 : decode cX10_orderOf 81 = .ok (.iconst 5, 1) := by decide +kernel
theorem dX10_orderOf_82 : decode cX10_orderOf 82 = .ok (.goto 31, 3) := by decide +kernel
theorem dX10_orderOf_85 : decode cX10_orderOf 85 = .ok (.lload_n 0, 1) := by decide +kernel
theorem dX10_orderOf_86 : decode cX10_orderOf 86 = .ok (.ldc2_w 156, 3) := by decide +kernel
theorem dX10_orderOf_89 : decode cX10_orderOf 89 = .ok (.lcmp, 1) := by decide +kernel
theorem dX10_orderOf_90 : decode cX10_orderOf 90 = .ok (.ifCond .ne 8, 3) := by decide +kernel
theorem dX10_orderOf_93 : decode cX10_orderOf 93 = .ok (.bipush 6, 2) := by decide +kernel
theorem dX10_orderOf_95 : decode cX10_orderOf 95 = .ok (.goto 18, 3) := by decide +kernel
theorem dX10_orderOf_98 : decode cX10_orderOf 98 = .ok (.lload_n 0, 1) := by decide +kernel
theorem dX10_orderOf_99 : decode cX10_orderOf 99 = .ok (.ldc2_w 158, 3) := by decide +kernel
theorem dX10_orderOf_102 : decode cX10_orderOf 102 = .ok (.lcmp, 1) := by decide +kernel
theorem dX10_orderOf_103 : decode cX10_orderOf 103 = .ok (.ifCond .ne 8, 3) := by decide +kernel
theorem dX10_orderOf_106 : decode cX10_orderOf 106 = .ok (.bipush 7, 2) := by decide +kernel
theorem dX10_orderOf_108 : decode cX10_orderOf 108 = .ok (.goto 5, 3) := by decide +kernel
theorem dX10_orderOf_111 : decode cX10_orderOf 111 = .ok (.ldc 101, 2) := by decide +kernel
theorem dX10_orderOf_113 : decode cX10_orderOf 113 = .ok (.ireturn, 1) := by decide +kernel
set_option maxRecDepth 100000 in
theorem rX10_orderOf_0 {p : Program} {l : Launch} {e : Env} {s : State} {m : MethodId} {args : Array Value} {below : List Frame} {meth : Method} {c : Code} {D : va_G} {cA : Nat → ClassId} {ad : Nat → Nat} {Ret : zR} (C : z_Cx p { frames := 0, cells := 0, slots := 0, locals := 0 } s m args c cX10_orderOf yX10_orderOf.cls 3 D cA ad) (hr : meth.sig.returnType = (some .int)) (hlocks : meth.locks = false) : ∀ L st σ, tX10_orderOf_0 (z_X p l e { frames := 0, cells := 0, slots := 0, locals := 0 } s m args below meth c (MQ below (z_Qc D cA ad Ret) args s 0 0 (z_A ad)) 3 D cA ad false) Ret L st σ → z_X p l e { frames := 0, cells := 0, slots := 0, locals := 0 } s m args below meth c (MQ below (z_Qc D cA ad Ret) args s 0 0 (z_A ad)) 3 D cA ad false 0 L st σ := (s_lload_n C dX10_orderOf_0 rfl (s_ldc2 C dX10_orderOf_1 (v := 6518132) wd_1195 ⟨by decide, by decide⟩ (s_lcmp C dX10_orderOf_4 (s_ifne C dX10_orderOf_5 (by decide) (s_lload_n C dX10_orderOf_12 rfl (s_ldc2 C dX10_orderOf_13 (v := 7103860) wd_1196 ⟨by decide, by decide⟩ (s_lcmp C dX10_orderOf_16 (s_ifne C dX10_orderOf_17 (by decide) (s_lload_n C dX10_orderOf_24 rfl (s_ldc2 C dX10_orderOf_25 (v := 1953854062) wd_1197 ⟨by decide, by decide⟩ (s_lcmp C dX10_orderOf_28 (s_ifne C dX10_orderOf_29 (by decide) (s_lload_n C dX10_orderOf_36 rfl (s_ldc2 C dX10_orderOf_37 (v := 6906725) wd_1198 ⟨by decide, by decide⟩ (s_lcmp C dX10_orderOf_40 (s_ifne C dX10_orderOf_41 (by decide) (s_ldc C dX10_orderOf_48 (v := -1000000) wd_1127 ⟨by decide, by decide⟩ (fun _ _ _ h => h)) (s_iconst C dX10_orderOf_44 rfl ⟨by decide, by decide⟩ (s_goto C dX10_orderOf_45 (by decide) (fun _ _ _ h => h))))))) (s_iconst C dX10_orderOf_32 rfl ⟨by decide, by decide⟩ (s_goto C dX10_orderOf_33 (by decide) (fun _ _ _ h => h))))))) (s_iconst C dX10_orderOf_20 rfl ⟨by decide, by decide⟩ (s_goto C dX10_orderOf_21 (by decide) (fun _ _ _ h => h))))))) (s_iconst C dX10_orderOf_8 rfl ⟨by decide, by decide⟩ (s_goto C dX10_orderOf_9 (by decide) (fun _ _ _ h => h)))))))
set_option maxRecDepth 100000 in
theorem rX10_orderOf_50 {p : Program} {l : Launch} {e : Env} {s : State} {m : MethodId} {args : Array Value} {below : List Frame} {meth : Method} {c : Code} {D : va_G} {cA : Nat → ClassId} {ad : Nat → Nat} {Ret : zR} (C : z_Cx p { frames := 0, cells := 0, slots := 0, locals := 0 } s m args c cX10_orderOf yX10_orderOf.cls 3 D cA ad) (hr : meth.sig.returnType = (some .int)) (hlocks : meth.locks = false) : ∀ L st σ, tX10_orderOf_50 (z_X p l e { frames := 0, cells := 0, slots := 0, locals := 0 } s m args below meth c (MQ below (z_Qc D cA ad Ret) args s 0 0 (z_A ad)) 3 D cA ad false) Ret L st σ → z_X p l e { frames := 0, cells := 0, slots := 0, locals := 0 } s m args below meth c (MQ below (z_Qc D cA ad Ret) args s 0 0 (z_A ad)) 3 D cA ad false 50 L st σ := (s_istoreP_n C dX10_orderOf_50 (by decide) rfl  (s_iload_n C dX10_orderOf_51 rfl (s_ldc C dX10_orderOf_52 (v := -1000000) wd_1127 ⟨by decide, by decide⟩ (s_iceq C dX10_orderOf_54 (by decide) (s_lload_n C dX10_orderOf_61 rfl (s_ldc2 C dX10_orderOf_62 (v := 1952997751) wd_1199 ⟨by decide, by decide⟩ (s_lcmp C dX10_orderOf_65 (s_ifne C dX10_orderOf_66 (by decide) (s_lload_n C dX10_orderOf_73 rfl (s_ldc2 C dX10_orderOf_74 (v := 1717922924) wd_1200 ⟨by decide, by decide⟩ (s_lcmp C dX10_orderOf_77 (s_ifne C dX10_orderOf_78 (by decide) (s_lload_n C dX10_orderOf_85 rfl (s_ldc2 C dX10_orderOf_86 (v := 7824756) wd_1201 ⟨by decide, by decide⟩ (s_lcmp C dX10_orderOf_89 (s_ifne C dX10_orderOf_90 (by decide) (s_lload_n C dX10_orderOf_98 rfl (s_ldc2 C dX10_orderOf_99 (v := 6582905) wd_1202 ⟨by decide, by decide⟩ (s_lcmp C dX10_orderOf_102 (s_ifne C dX10_orderOf_103 (by decide) (s_ldc C dX10_orderOf_111 (v := -1000000) wd_1127 ⟨by decide, by decide⟩ (s_iret C dX10_orderOf_113 hr hlocks)) (s_bipush C dX10_orderOf_106 rfl ⟨by decide, by decide⟩ (s_goto C dX10_orderOf_108 (by decide) (s_iret C dX10_orderOf_113 hr hlocks))))))) (s_bipush C dX10_orderOf_93 rfl ⟨by decide, by decide⟩ (s_goto C dX10_orderOf_95 (by decide) (s_iret C dX10_orderOf_113 hr hlocks))))))) (s_iconst C dX10_orderOf_81 rfl ⟨by decide, by decide⟩ (s_goto C dX10_orderOf_82 (by decide) (s_iret C dX10_orderOf_113 hr hlocks))))))) (s_iconst C dX10_orderOf_69 rfl ⟨by decide, by decide⟩ (s_goto C dX10_orderOf_70 (by decide) (s_iret C dX10_orderOf_113 hr hlocks))))))) (s_iload_n C dX10_orderOf_57 rfl (s_goto C dX10_orderOf_58 (by decide) (s_iret C dX10_orderOf_113 hr hlocks)))))))
theorem okX10_orderOf (l : Launch) : z_OK l yX10_orderOf cX10_orderOf 3 (some .int) 0 0 SX10_orderOf := by
  refine z_ok_of false (by decide +kernel) ?_ ?_
  · intro as σ Ret h
    obtain ⟨x1, rfl⟩ := pX10_orderOf h
    exact ⟨Nat.le_of_ble_eq_true rfl, by intro h; cases h⟩
  · intro p e s m args below meth c D cA ad Ret C hr hlocks as σ has hσ h
    obtain ⟨x1, rfl⟩ := pX10_orderOf h
    exact vX10_orderOf (rX10_orderOf_0 C hr hlocks) (rX10_orderOf_50 C hr hlocks) x1 σ (has _ (List.mem_of_getElem? (i := 0) rfl)) hσ h
theorem q_nm_w {b : Nat → Int} {T p : Nat} (hb : ∀ i, i < T → 0 ≤ b i ∧ b i ≤ 255) (hp : p ≤ T) : (q_nm b T p = 1953654117 ↔ q_isw b T p 0 = true) ∧ (q_nm b T p = 2003398244 ↔ q_isw b T p 1 = true) ∧ (q_nm b T p = 1953853029 ↔ q_isw b T p 2 = true) ∧ (q_nm b T p = 6518132 ↔ q_isw b T p 3 = true) ∧ (q_nm b T p = 7103860 ↔ q_isw b T p 4 = true) ∧ (q_nm b T p = 1953854062 ↔ q_isw b T p 5 = true) ∧ (q_nm b T p = 6906725 ↔ q_isw b T p 6 = true) ∧ (q_nm b T p = 1952997751 ↔ q_isw b T p 7 = true) ∧ (q_nm b T p = 1717922924 ↔ q_isw b T p 8 = true) ∧ (q_nm b T p = 7824756 ↔ q_isw b T p 9 = true) ∧ (q_nm b T p = 6582905 ↔ q_isw b T p 10 = true) := by
  refine ⟨?_, ?_, ?_, ?_, ?_, ?_, ?_, ?_, ?_, ?_, ?_⟩
  · exact q_nm4 (j := 0) (c0 := 116) (c1 := 114) (c2 := 101) (c3 := 101) hb hp rfl rfl rfl rfl rfl (by omega)
  · exact q_nm4 (j := 1) (c0 := 119) (c1 := 105) (c2 := 110) (c3 := 100) hb hp rfl rfl rfl rfl rfl (by omega)
  · exact q_nm4 (j := 2) (c0 := 116) (c1 := 117) (c2 := 110) (c3 := 101) hb hp rfl rfl rfl rfl rfl (by omega)
  · exact q_nm3 (j := 3) (c0 := 99) (c1 := 117) (c2 := 116) hb hp rfl rfl rfl rfl (by omega)
  · exact q_nm3 (j := 4) (c0 := 108) (c1 := 101) (c2 := 116) hb hp rfl rfl rfl rfl (by omega)
  · exact q_nm4 (j := 5) (c0 := 116) (c1 := 117) (c2 := 114) (c3 := 110) hb hp rfl rfl rfl rfl rfl (by omega)
  · exact q_nm3 (j := 6) (c0 := 105) (c1 := 99) (c2 := 101) hb hp rfl rfl rfl rfl (by omega)
  · exact q_nm4 (j := 7) (c0 := 116) (c1 := 104) (c2 := 97) (c3 := 119) hb hp rfl rfl rfl rfl rfl (by omega)
  · exact q_nm4 (j := 8) (c0 := 102) (c1 := 101) (c2 := 108) (c3 := 108) hb hp rfl rfl rfl rfl rfl (by omega)
  · exact q_nm3 (j := 9) (c0 := 119) (c1 := 101) (c2 := 116) hb hp rfl rfl rfl rfl (by omega)
  · exact q_nm3 (j := 10) (c0 := 100) (c1 := 114) (c2 := 121) hb hp rfl rfl rfl rfl (by omega)
theorem q_oof_ord {b : Nat → Int} {T p : Nat} (hb : ∀ i, i < T → 0 ≤ b i ∧ b i ≤ 255) (hp : p ≤ T) : q_oof (q_nm b T p) = if q_ord b T p < 0 then -1000000 else q_ord b T p := by
  obtain ⟨-, -, -, w3, w4, w5, w6, w7, w8, w9, w10⟩ := q_nm_w hb hp
  have step : ∀ n o, q_ordn b T p (n + 1) o = if q_isw b T p (3 + o) then (o : Int) else q_ordn b T p n (o + 1) := fun n o => by rw [q_ordn]
  have base : ∀ o, q_ordn b T p 0 o = -1 := fun o => by rw [q_ordn]
  unfold q_oof q_ord
  rw [step 7 0, step 6 1, step 5 2, step 4 3, step 3 4, step 2 5, step 1 6, step 0 7, base]
  by_cases e3 : q_isw b T p 3 = true
  · rw [if_pos (w3.mpr e3), if_pos e3]; rfl
  rw [if_neg (fun q => e3 (w3.mp q)), if_neg e3]
  by_cases e4 : q_isw b T p 4 = true
  · rw [if_pos (w4.mpr e4), if_pos e4]; rfl
  rw [if_neg (fun q => e4 (w4.mp q)), if_neg e4]
  by_cases e5 : q_isw b T p 5 = true
  · rw [if_pos (w5.mpr e5), if_pos e5]; rfl
  rw [if_neg (fun q => e5 (w5.mp q)), if_neg e5]
  by_cases e6 : q_isw b T p 6 = true
  · rw [if_pos (w6.mpr e6), if_pos e6]; rfl
  rw [if_neg (fun q => e6 (w6.mp q)), if_neg e6]
  by_cases e7 : q_isw b T p 7 = true
  · rw [if_pos (w7.mpr e7), if_pos e7]; rfl
  rw [if_neg (fun q => e7 (w7.mp q)), if_neg e7]
  by_cases e8 : q_isw b T p 8 = true
  · rw [if_pos (w8.mpr e8), if_pos e8]; rfl
  rw [if_neg (fun q => e8 (w8.mp q)), if_neg e8]
  by_cases e9 : q_isw b T p 9 = true
  · rw [if_pos (w9.mpr e9), if_pos e9]; rfl
  rw [if_neg (fun q => e9 (w9.mp q)), if_neg e9]
  by_cases e10 : q_isw b T p 10 = true
  · rw [if_pos (w10.mpr e10), if_pos e10]; rfl
  rw [if_neg (fun q => e10 (w10.mp q)), if_neg e10]
  rfl
