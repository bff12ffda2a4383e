/-! kinds, asked of the program -/
def q_kdD (D : Nat → Int) (t w : Nat) : Int := if D (6 + 6 * t + 5) = 1 then 5 else if D (6 + 6 * t + 4) = 1 then 2 else if q_sdD D w t = false then 1 else if (q_bzD D w).testBit t = true then 4 else 3
theorem q_bzD_lt {D : Nat → Int} {w : Nat} (k : q_Dok D) : q_bzD D w < 4096 := q_bo_lt (fun i hi => by have := q_lsD_mem (D := D) (w := w) hi; have := k.1.1; show (q_lsD D w).getD i 0 < 12; omega) _ (Nat.le_refl _)
theorem q_kdD_in {D : Nat → Int} {t w : Nat} : 1 ≤ q_kdD D t w ∧ q_kdD D t w ≤ 5 := by
  unfold q_kdD
  split
  · omega
  · split
    · omega
    · split
      · omega
      · split <;> omega
def SX9_kindIn : zS := fun as σ Ret => match as with
  | [.inr (.inr (9, 0, _)), .inl t, .inl w] => ∃ D, (q_wd σ 8 D ∧ q_Dok D ∧ (0 ≤ t ∧ t < D 0) ∧ (0 ≤ w ∧ w < D 1)) ∧ ∀ σ' : zM, (∀ c j, ¬ (80 ≤ c ∧ c ≤ 83) → σ' c j = σ c j) → Ret (some (.inl (q_kdD D t.toNat w.toNat))) σ'
  | _ => False
def tX9_kindIn_0 (X : Nat → zB) (Ret : zR) (L : zL) (st : List zV) (σ : zM) : Prop := (z_aload 0 (z_getr 9 8 8 0 (z_getr 8 1 6 0 (z_iload 1 (z_cv1 6 SX6_has (z_ifne (z_aload 0 (z_getr 9 8 8 0 (z_getr 8 1 6 0 (z_getr 6 6 100 12 (z_iload 1 (z_ald 0 (z_push 1 (z_icne (z_aload 0 (z_getr 9 8 8 0 (z_getr 8 1 6 0 (z_getr 6 5 100 12 (z_iload 1 (z_ald 0 (z_push 1 (z_icne (z_aload 0 (z_getr 9 8 8 0 (z_iload 1 (z_iload 2 (z_cv2 8 SX8_sounds (z_ifne (z_aload 0 (z_getr 9 80 3 0 (z_aload 0 (z_getr 9 8 8 0 (z_iload 2 (z_cv2 3 SX3_listen (z_aload 0 (z_getr 9 80 3 0 (z_cv0 3 SX3_buzzing (z_iload 1 (z_ishr (z_push 1 (z_iand (z_push 1 (z_icne (z_push 3 (z_iret Ret)) (z_push 4 (z_goto (z_iret Ret)))))))))))))))))) (z_push 1 (z_iret Ret)))))))) (z_push 2 (z_iret Ret)))))))))) (z_push 5 (z_iret Ret)))))))))) (z_push 0 (z_iret Ret)))))))) L st σ
theorem pX9_kindIn {as : List zV} {σ : zM} {Ret : zR} (h : SX9_kindIn as σ Ret) : ∃ (k0 : Nat) (x1 : Int) (x2 : Int), as = [.inr (.inr (9, 0, k0)), .inl x1, .inl x2] := by
  unfold SX9_kindIn at h
  split at h
  · exact ⟨_, _, _, rfl⟩
  · exact h.elim
set_option maxRecDepth 10000 in
set_option maxHeartbeats 4000000 in
theorem vX9_kindIn {X : Nat → zB} {Ret : zR} (h0 : ∀ L st σ, tX9_kindIn_0 X Ret L st σ → X 0 L st σ) (k0 : Nat) (x1 : Int) (x2 : Int) (σ : zM) (hk0 : z_kd k0 = (9, 0)) (hx1 : -2147483648 ≤ x1 ∧ x1 ≤ 2147483647) (hx2 : -2147483648 ≤ x2 ∧ x2 ≤ 2147483647) (hσ : z_okm σ) (h : SX9_kindIn [.inr (.inr (9, 0, k0)), .inl x1, .inl x2] σ Ret) : X 0 [some (.inr (.inr (9, 0, k0))), some (.inl x1), some (.inl x2)] [] σ := by
  obtain ⟨D, ⟨W, K, ⟨t0, t1⟩, w0, w1⟩, h⟩ := h
  obtain rfl := z_kd9 hk0
  obtain ⟨t, rfl⟩ := z_nat t0
  obtain ⟨w, rfl⟩ := z_nat w0
  simp only [Int.toNat_natCast] at h
  have W0 : σ 9 6 = D 0 := W.1.1.1
  have W1 : σ 16 3 = D 1 := W.1.2.1.1
  have K0 := K.1.1
  have K1 := K.1.2.1
  have T5 : σ 15 t = D (6 + 6 * t + 5) := W.2.1 t 5 t1 (by omega)
  have T4 : σ 14 t = D (6 + 6 * t + 4) := W.2.1 t 4 t1 (by omega)
  refine h0 _ _ _ ?_
  simp only [z_push, z_lpush, z_iload, z_lload, z_aload, z_istore, z_istoreP, z_lstore, z_astore, z_iinc, z_iincP, z_iadd, z_isub, z_imul, z_iaddW, z_isubW, z_imulW, z_idiv, z_irem, z_iand, z_ior, z_ixor, z_ishl, z_ishr, z_iushr, z_ineg, z_i2l, z_i2b, z_i2s, z_i2c, z_l2i, z_ladd, z_lsub, z_land, z_lor, z_lshl, z_lshr, z_lcmp, z_dup, z_pop, z_dup2, z_goto, z_tsw, z_cases, z_geti, z_getr, z_puti, z_putz, z_ald, z_iast, z_bast, z_zast, z_alen, z_acopy, z_mmax, z_mmin, z_mabs, z_mabsL, z_iret, z_zret, z_nret, z_lret, z_aret, z_vret, z_cat, z_ldcs, z_strv, z_strc, z_gcs, z_gfm, z_sln, z_sald, z_ifeq, z_ifne, z_iflt, z_ifge, z_ifgt, z_ifle, z_iceq, z_icne, z_iclt, z_icge, z_icgt, z_icle, z_cs0, z_cs1, z_cs2, z_cs3, z_cs4, z_cs5, z_cs6, z_cs7, z_cv0, z_cv1, z_cv2, z_cv3, z_cv4, z_cv5, z_cv6, z_cv7, z_g0, z_s0, z_g1, z_s1, z_g2, z_s2, z_g3, z_s3, z_g4, z_s4, z_g5, z_s5, z_g6, z_s6, z_g7, z_s7, z_g8, z_s8, z_g9, z_s9, z_g10, z_s10, z_g11, z_s11, z_g12, z_s12, z_g13, z_s13, z_b0, z_b1, z_b0n, z_b1n, z_up_far1, z_up_far2, z_up_far3, z_up_far4, z_up_far5, z_up_far6, Classical.not_not, not_true_eq_false, z_in, z_inL, Int.cast_ofNat_Int, Nat.reduceLeDiff, List.length_cons, List.length_nil, Nat.reduceAdd, Nat.zero_add, Nat.le_refl, true_and, and_true, List.length, Nat.reduceLT, true_or, or_true, false_or, or_false, false_and, and_false, not_true_eq_false, not_false_eq_true, forall_const, false_implies, true_implies, Int.reduceEq, Int.reduceLT, Int.reduceLE, Int.reduceAdd, Int.reduceSub, Int.reduceMul, Int.reduceNeg, Int.reduceToNat, Int.toNat_natCast, ↓reduceIte, reduceIte, Nat.reduceEqDiff, Nat.reduceSub, Nat.reduceMul, ne_eq, Int.zero_add, Int.add_zero, Int.sub_zero, Nat.add_zero, Int.ofNat_eq_natCast, tX9_kindIn_0, SX6_has, SX8_sounds, SX3_listen, SX3_buzzing, W0, W1, T5, T4]
  have q := K.2.1 t t1
  have qw := K.2.2.1 w w1
  have T1 : σ 11 t = D (6 + 6 * t + 1) := W.2.1 t 1 t1 (by omega)
  have T2 : σ 12 t = D (6 + 6 * t + 2) := W.2.1 t 2 t1 (by omega)
  have V0 : σ 17 w = D (78 + 3 * w + 0) := W.2.2.1 w 0 w1 (by omega)
  have ls : (q_ls (q_sndb σ 8 w) (D 0).toNat) = (q_ls (q_sndb σ 8 w) (σ 9 6).toNat) := by rw [W0]
  have sd : q_sdD D w t = true ↔ q_snd (D (6 + 6 * t + 5)) (D (6 + 6 * t + 4)) (σ 12 t) (σ 11 t) (σ 17 w) (σ 18 w) := by
    rw [← q_wd_sd W w1 t1, q_sndb_iff]
    show q_snd (σ 15 t) (σ 14 t) (σ 12 t) (σ 11 t) (σ 17 w) (σ 18 w) ↔ _
    rw [T5, T4]
  have out := h σ (fun _ _ _ => rfl)
  unfold q_kdD at h out
  refine ⟨fun _ => ⟨by omega, fun _ => ⟨fun c5 => ⟨by omega, fun _ => ⟨fun c4 => ⟨by omega, fun cs => ⟨⟨q_wd_wok W K, by omega⟩, fun σ1 f1 f2 => ?_⟩, fun cs => ?_⟩, fun c4 => ?_⟩⟩, fun c5 => ?_⟩⟩, fun e => absurd e (by omega)⟩
  · rw [if_neg c5, if_neg c4, if_neg (by rw [sd.mpr cs]; decide)] at h
    rw [ls] at f2
    have f3 := q_ear_D W (w := w) w1 f2
    have fin := h σ1 (fun c j hc => f1 c j (by omega))
    have eb : q_bo (σ1 81) (fun i => (σ1 82 i).toNat) (σ1 80 3).toNat (σ1 80 3).toNat = q_bzD D w := q_ear_bz f3
    rw [eb, z_bit1 _ (q_bzD_lt K) t (by omega)]
    refine ⟨q_ear_ok K f3, fun e => ?_, fun e => ?_⟩
    · rw [if_neg (fun g => e (by rw [if_pos g]))] at fin
      exact fin
    · have g : (q_bzD D w).testBit t = true := by
        by_cases g : (q_bzD D w).testBit t = true
        · exact g
        · rw [if_neg g] at e; cases e
      rw [if_pos g] at fin
      exact fin
  · rw [if_neg c5, if_neg c4, if_pos (by cases hh : q_sdD D w t with | false => rfl | true => exact absurd (sd.mp hh) cs)] at out
    exact out
  · rw [if_neg c5, if_pos c4] at out
    exact out
  · rw [if_pos c5] at out
    exact out
theorem dX9_kindIn_0 : decode cX9_kindIn 0 = .ok (.aload_n 0, 1) := by decide +kernel
theorem dX9_kindIn_1 : decode cX9_kindIn 1 = .ok (.getfield 26, 3) := by decide +kernel
theorem dX9_kindIn_4 : decode cX9_kindIn 4 = .ok (.getfield 132, 3) := by decide +kernel
theorem dX9_kindIn_7 : decode cX9_kindIn 7 = .ok (.iload_n 1, 1) := by decide +kernel
theorem dX9_kindIn_8 : decode cX9_kindIn 8 = .ok (.invokevirtual 170, 3) := by decide +kernel
theorem dX9_kindIn_11 : decode cX9_kindIn 11 = .ok (.ifCond .ne 5, 3) := by decide +kernel
theorem dX9_kindIn_14 : decode cX9_kindIn 14 = .ok (.iconst 0, 1) := by decide +kernel
theorem dX9_kindIn_15 : decode cX9_kindIn 15 = .ok (.ireturn, 1) := by decide +kernel
theorem dX9_kindIn_16 : decode cX9_kindIn 16 = .ok (.aload_n 0, 1) := by decide +kernel
theorem dX9_kindIn_17 : decode cX9_kindIn 17 = .ok (.getfield 26, 3) := by decide +kernel
theorem dX9_kindIn_20 : decode cX9_kindIn 20 = .ok (.getfield 132, 3) := by decide +kernel
theorem dX9_kindIn_23 : decode cX9_kindIn 23 = .ok (.getfield 188, 3) := by decide +kernel
theorem dX9_kindIn_26 : decode cX9_kindIn 26 = .ok (.iload_n 1, 1) := by decide +kernel
theorem dX9_kindIn_27 : decode cX9_kindIn 27 = .ok (.iaload, 1) := by decide +kernel
theorem dX9_kindIn_28 : decode cX9_kindIn 28 = .ok (.iconst 1, 1) := by decide +kernel
theorem dX9_kindIn_29 : decode cX9_kindIn 29 = .ok (.if_icmp .ne 5, 3) := by decide +kernel
theorem dX9_kindIn_32 : decode cX9_kindIn 32 = .ok (.iconst 5, 1) := by decide +kernel
theorem dX9_kindIn_33 : decode cX9_kindIn 33 = .ok (.ireturn, 1) := by decide +kernel
theorem dX9_kindIn_34 : decode cX9_kindIn 34 = .ok (.aload_n 0, 1) := by decide +kernel
theorem dX9_kindIn_35 : decode cX9_kindIn 35 = .ok (.getfield 26, 3) := by decide +kernel
theorem dX9_kindIn_38 : decode cX9_kindIn 38 = .ok (.getfield 132, 3) := by decide +kernel
theorem dX9_kindIn_41 : decode cX9_kindIn 41 = .ok (.getfield 185, 3) := by decide +kernel
theorem dX9_kindIn_44 : decode cX9_kindIn 44 = .ok (.iload_n 1, 1) := by decide +kernel
theorem dX9_kindIn_45 : decode cX9_kindIn 45 = .ok (.iaload, 1) := by decide +kernel
theorem dX9_kindIn_46 : decode cX9_kindIn 46 = .ok (.iconst 1, 1) := by decide +kernel
theorem dX9_kindIn_47 : decode cX9_kindIn 47 = .ok (.if_icmp .ne 5, 3) := by decide +kernel
theorem dX9_kindIn_50 : decode cX9_kindIn 50 = .ok (.iconst 2, 1) := by decide +kernel
theorem dX9_kindIn_51 : decode cX9_kindIn 51 = .ok (.ireturn, 1) := by decide +kernel
theorem dX9_kindIn_52 : decode cX9_kindIn 52 = .ok (.aload_n 0, 1) := by decide +kernel
theorem dX9_kindIn_53 : decode cX9_kindIn 53 = .ok (.getfield 26, 3) := by decide +kernel
theorem dX9_kindIn_56 : decode cX9_kindIn 56 = .ok (.iload_n 1, 1) := by decide +kernel
theorem dX9_kindIn_57 : decode cX9_kindIn 57 = .ok (.iload_n 2, 1) := by decide +kernel
theorem dX9_kindIn_58 : decode cX9_kindIn 58 = .ok (.invokevirtual 321, 3) := by decide +kernel
theorem dX9_kindIn_61 : decode cX9_kindIn 61 = .ok (.ifCond .ne 5, 3) := by decide +kernel
theorem dX9_kindIn_64 : decode cX9_kindIn 64 = .ok (.iconst 1, 1) := by decide +kernel
theorem dX9_kindIn_65 : decode cX9_kindIn 65 = .ok (.ireturn, 1) := by decide +kernel
theorem dX9_kindIn_66 : decode cX9_kindIn 66 = .ok (.aload_n 0, 1) := by decide +kernel
theorem dX9_kindIn_67 : decode cX9_kindIn 67 = .ok (.getfield 49, 3) := by decide +kernel
theorem dX9_kindIn_70 : decode cX9_kindIn 70 = .ok (.aload_n 0, 1) := by decide +kernel
theorem dX9_kindIn_71 : decode cX9_kindIn 71 = .ok (.getfield 26, 3) := by decide +kernel
theorem dX9_kindIn_74 : decode cX9_kindIn 74 = .ok (.iload_n 2, 1) := by decide +kernel
theorem dX9_kindIn_75 : decode cX9_kindIn 75 = .ok (.invokevirtual 201, 3) := by decide +kernel
theorem dX9_kindIn_78 : decode cX9_kindIn 78 = .ok (.aload_n 0, 1) := by decide +kernel
theorem dX9_kindIn_79 : decode cX9_kindIn 79 = .ok (.getfield 49, 3) := by decide +kernel
theorem dX9_kindIn_82 : decode cX9_kindIn 82 = .ok (.invokevirtual 239, 3) := by decide +kernel
theorem dX9_kindIn_85 : decode cX9_kindIn 85 = .ok (.iload_n 1, 1) := by decide +kernel
theorem dX9_kindIn_86 : decode cX9_kindIn 86 = .ok (.ishr, 1) := by decide +kernel
theorem dX9_kindIn_87 : decode cX9_kindIn 87 = .ok (.iconst 1, 1) := by decide +kernel
theorem dX9_kindIn_88 : decode cX9_kindIn 88 = .ok (.iand, 1) := by decide +kernel
theorem dX9_kindIn_89 : decode cX9_kindIn 89 = .ok (.iconst 1, 1) := by decide +kernel
theorem dX9_kindIn_90 : decode cX9_kindIn 90 = .ok (.if_icmp .ne 7, 3) := by decide +kernel
theorem dX9_kindIn_93 : decode cX9_kindIn 93 = .ok (.iconst 4, 1) := by decide +kernel
theorem dX9_kindIn_94 : decode cX9_kindIn 94 = .ok (.goto 4, 3) := by decide +kernel
theorem dX9_kindIn_97 : decode cX9_kindIn 97 = .ok (.iconst 3, 1) := by decide +kernel
theorem dX9_kindIn_98 : decode cX9_kindIn 98 = .ok (.ireturn, 1) := by decide +kernel
set_option maxRecDepth 100000 in
theorem rX9_kindIn_0 {p : Program} {l : Launch} {e : Env} {s : State} {m : MethodId} {args : Array Value} {below : List Frame} {meth : Method} {c : Code} {D : va_G} {cA : Nat → ClassId} {ad : Nat → Nat} {Ret : zR} (C : z_Cx p { frames := 3, cells := 0, slots := 0, locals := 68 } s m args c cX9_kindIn yX9_kindIn.cls 3 D cA ad) (hr : meth.sig.returnType = (some .int)) (hlocks : meth.locks = false) : ∀ L st σ, tX9_kindIn_0 (z_X p l e { frames := 3, cells := 0, slots := 0, locals := 68 } s m args below meth c (MQ below (z_Qc D cA ad Ret) args s 0 0 (z_A ad)) 3 D cA ad true) Ret L st σ → z_X p l e { frames := 3, cells := 0, slots := 0, locals := 68 } s m args below meth c (MQ below (z_Qc D cA ad Ret) args s 0 0 (z_A ad)) 3 D cA ad true 0 L st σ := (s_aload_n C dX9_kindIn_0 rfl (s_getr C dX9_kindIn_1 (j := 2) cls_X9 (by decide) rfl (by decide) (by decide) (by decide +kernel) wd_359 (s_getr C dX9_kindIn_4 (j := 0) cls_X8 (by decide) rfl (by decide) (by decide) (by decide +kernel) wd_258 (s_iload_n C dX9_kindIn_7 rfl (s_cv1 C dX9_kindIn_8 (okX6_has l) cls_X6 wd_714 wd_667 wd_668 wd_79 wd_669 ⟨by decide, by decide, by decide +kernel⟩ ⟨by decide, by decide⟩ (s_ifne C dX9_kindIn_11 (by decide) (s_aload_n C dX9_kindIn_16 rfl (s_getr C dX9_kindIn_17 (j := 2) cls_X9 (by decide) rfl (by decide) (by decide) (by decide +kernel) wd_359 (s_getr C dX9_kindIn_20 (j := 0) cls_X8 (by decide) rfl (by decide) (by decide) (by decide +kernel) wd_258 (s_getr C dX9_kindIn_23 (j := 5) cls_X6 (by decide) rfl (by decide) (by decide) (by decide +kernel) wd_183 (s_iload_n C dX9_kindIn_26 rfl (s_iald C dX9_kindIn_27 (s_iconst C dX9_kindIn_28 rfl ⟨by decide, by decide⟩ (s_icne C dX9_kindIn_29 (by decide) (s_aload_n C dX9_kindIn_34 rfl (s_getr C dX9_kindIn_35 (j := 2) cls_X9 (by decide) rfl (by decide) (by decide) (by decide +kernel) wd_359 (s_getr C dX9_kindIn_38 (j := 0) cls_X8 (by decide) rfl (by decide) (by decide) (by decide +kernel) wd_258 (s_getr C dX9_kindIn_41 (j := 4) cls_X6 (by decide) rfl (by decide) (by decide) (by decide +kernel) wd_180 (s_iload_n C dX9_kindIn_44 rfl (s_iald C dX9_kindIn_45 (s_iconst C dX9_kindIn_46 rfl ⟨by decide, by decide⟩ (s_icne C dX9_kindIn_47 (by decide) (s_aload_n C dX9_kindIn_52 rfl (s_getr C dX9_kindIn_53 (j := 2) cls_X9 (by decide) rfl (by decide) (by decide) (by decide +kernel) wd_359 (s_iload_n C dX9_kindIn_56 rfl (s_iload_n C dX9_kindIn_57 rfl (s_cv2 C dX9_kindIn_58 (okX8_sounds l) cls_X8 wd_878 wd_735 wd_736 wd_78 wd_737 ⟨by decide, by decide, by decide +kernel⟩ ⟨by decide, by decide⟩ (s_ifne C dX9_kindIn_61 (by decide) (s_aload_n C dX9_kindIn_66 rfl (s_getr C dX9_kindIn_67 (j := 7) cls_X9 (by decide) rfl (by decide) (by decide) (by decide +kernel) wd_364 (s_aload_n C dX9_kindIn_70 rfl (s_getr C dX9_kindIn_71 (j := 2) cls_X9 (by decide) rfl (by decide) (by decide) (by decide +kernel) wd_359 (s_iload_n C dX9_kindIn_74 rfl (s_cv2 C dX9_kindIn_75 (okX3_listen l) cls_X3 wd_730 wd_731 wd_732 wd_82 wd_733 ⟨by decide, by decide, by decide +kernel⟩ ⟨by decide, by decide⟩ (s_aload_n C dX9_kindIn_78 rfl (s_getr C dX9_kindIn_79 (j := 7) cls_X9 (by decide) rfl (by decide) (by decide) (by decide +kernel) wd_364 (s_cv0 C dX9_kindIn_82 (okX3_buzzing l) cls_X3 wd_812 wd_813 wd_814 wd_82 wd_815 ⟨by decide, by decide, by decide +kernel⟩ ⟨by decide, by decide⟩ (s_iload_n C dX9_kindIn_85 rfl (s_ishr C dX9_kindIn_86 (s_iconst C dX9_kindIn_87 rfl ⟨by decide, by decide⟩ (s_iand C dX9_kindIn_88 (s_iconst C dX9_kindIn_89 rfl ⟨by decide, by decide⟩ (s_icne C dX9_kindIn_90 (by decide) (s_iconst C dX9_kindIn_97 rfl ⟨by decide, by decide⟩ (s_iret C dX9_kindIn_98 hr hlocks)) (s_iconst C dX9_kindIn_93 rfl ⟨by decide, by decide⟩ (s_goto C dX9_kindIn_94 (by decide) (s_iret C dX9_kindIn_98 hr hlocks)))))))))))))))))) (s_iconst C dX9_kindIn_64 rfl ⟨by decide, by decide⟩ (s_iret C dX9_kindIn_65 hr hlocks)))))))) (s_iconst C dX9_kindIn_50 rfl ⟨by decide, by decide⟩ (s_iret C dX9_kindIn_51 hr hlocks)))))))))) (s_iconst C dX9_kindIn_32 rfl ⟨by decide, by decide⟩ (s_iret C dX9_kindIn_33 hr hlocks)))))))))) (s_iconst C dX9_kindIn_14 rfl ⟨by decide, by decide⟩ (s_iret C dX9_kindIn_15 hr hlocks))))))))
theorem okX9_kindIn (l : Launch) : z_OK l yX9_kindIn cX9_kindIn 3 (some .int) 3 68 SX9_kindIn := by
  refine z_ok_of true (by decide +kernel) ?_ ?_
  · intro as σ Ret h
    obtain ⟨k0, x1, x2, rfl⟩ := pX9_kindIn h
    exact ⟨Nat.le_of_ble_eq_true rfl, by simp⟩
  · intro p e s m args below meth c D cA ad Ret C hr hlocks as σ has hσ h
    obtain ⟨k0, x1, x2, rfl⟩ := pX9_kindIn h
    exact vX9_kindIn (rX9_kindIn_0 C hr hlocks) k0 x1 x2 σ (has _ (List.mem_of_getElem? (i := 0) rfl)) (has _ (List.mem_of_getElem? (i := 1) rfl)) (has _ (List.mem_of_getElem? (i := 2) rfl)) hσ h
