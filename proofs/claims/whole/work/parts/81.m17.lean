/-! kinds in the model -/
theorem q_snd_pre {σ : zM} {t w : Nat} (K : q_Dok (σ 93)) (ht : (t : Int) < σ 93 0) (hw : (w : Int) < σ 93 1) : ((0 ≤ (t : Int) ∧ (t : Int) < 12) ∧ (0 ≤ (w : Int) ∧ (w : Int) < 6) ∧ (0 ≤ σ 93 (6 + 6 * t + 2) ∧ σ 93 (6 + 6 * t + 2) ≤ 7) ∧ (0 ≤ σ 93 (78 + 3 * w) ∧ σ 93 (78 + 3 * w) ≤ 7) ∧ (0 ≤ σ 93 (6 + 6 * t + 1) ∧ σ 93 (6 + 6 * t + 1) ≤ 20) ∧ (0 ≤ σ 93 (6 + 6 * t + 4) ∧ σ 93 (6 + 6 * t + 4) ≤ 1) ∧ (0 ≤ σ 93 (6 + 6 * t + 5) ∧ σ 93 (6 + 6 * t + 5) ≤ 1)) := by
  have k0 := K.1.1
  have k1 := K.1.2.1
  have q := K.2.1 t ht
  have qw := K.2.2.1 w hw
  simp only [Nat.add_zero] at qw
  omega
def SX10_kindOf : zS := fun as σ Ret => match as with
  | [.inr (.inr (10, 0, _)), .inl t, .inl w] => (q_Dok (σ 93) ∧ (0 ≤ t ∧ t < σ 93 0) ∧ 0 ≤ w ∧ w < σ 93 1) ∧ ∀ σ' : zM, (∀ c j, ¬ (c = 89 ∧ j = 24 ∨ 98 ≤ c ∧ c ≤ 100) → σ' c j = σ c j) → (∀ j : Nat, j < 12 → σ' 98 j = σ 93 (6 + 6 * j + 0)) → Ret (some (.inl (q_kdD (σ 93) t.toNat w.toNat))) σ'
  | _ => False
def tX10_kindOf_0 (X : Nat → zB) (Ret : zR) (L : zL) (st : List zV) (σ : zM) : Prop := (z_aload 0 (z_cv0 10 SX10_layLengths (z_aload 0 (z_iload 2 (z_cv1 10 SX10_listen (z_aload 0 (z_iload 1 (z_push 5 (z_cv2 10 SX10_of (z_push 1 (z_iceq (z_aload 0 (z_iload 1 (z_push 5 (z_cv2 10 SX10_of (z_push 1 (z_icne (z_push 2 (z_iret Ret)) (z_push 5 (z_goto (z_iret Ret))))))))) (z_aload 0 (z_iload 1 (z_push 4 (z_cv2 10 SX10_of (z_push 1 (z_icne (z_aload 0 (z_iload 1 (z_iload 2 (z_cv2 10 SX10_sounds (z_ifne (z_aload 0 (z_cv0 10 SX10_buzzNow (z_iload 1 (z_ishr (z_push 1 (z_iand (z_push 1 (z_icne (z_push 3 (z_iret Ret)) (z_push 4 (z_goto (z_iret Ret))))))))))) (z_push 1 (z_goto (z_iret Ret)))))))) (z_aload 0 (z_iload 1 (z_push 5 (z_cv2 10 SX10_of (z_push 1 (z_icne (z_push 2 (z_iret Ret)) (z_push 5 (z_goto (z_iret Ret)))))))))))))))))))))))))) L st σ
theorem pX10_kindOf {as : List zV} {σ : zM} {Ret : zR} (h : SX10_kindOf as σ Ret) : ∃ (k0 : Nat) (x1 : Int) (x2 : Int), as = [.inr (.inr (10, 0, k0)), .inl x1, .inl x2] := by
  unfold SX10_kindOf at h
  split at h
  · exact ⟨_, _, _, rfl⟩
  · exact h.elim
set_option maxRecDepth 10000 in
set_option maxHeartbeats 4000000 in
theorem vX10_kindOf {X : Nat → zB} {Ret : zR} (h0 : ∀ L st σ, tX10_kindOf_0 X Ret L st σ → X 0 L st σ) (k0 : Nat) (x1 : Int) (x2 : Int) (σ : zM) (hk0 : z_kd k0 = (10, 0)) (hx1 : -2147483648 ≤ x1 ∧ x1 ≤ 2147483647) (hx2 : -2147483648 ≤ x2 ∧ x2 ≤ 2147483647) (hσ : z_okm σ) (h : SX10_kindOf [.inr (.inr (10, 0, k0)), .inl x1, .inl x2] σ Ret) : X 0 [some (.inr (.inr (10, 0, k0))), some (.inl x1), some (.inl x2)] [] σ := by
  obtain ⟨⟨K, ⟨t0, t1⟩, w0, w1⟩, h⟩ := h
  obtain rfl := z_kd10 hk0
  obtain ⟨t, rfl⟩ := z_nat t0
  obtain ⟨w, rfl⟩ := z_nat w0
  have K0 := K.1.1
  refine h0 _ _ _ ?_
  simp only [z_push, z_lpush, z_iload, z_lload, z_aload, z_istore, z_istoreP, z_lstore, z_astore, z_iinc, z_iincP, z_iadd, z_isub, z_imul, z_iaddW, z_isubW, z_imulW, z_idiv, z_irem, z_iand, z_ior, z_ixor, z_ishl, z_ishr, z_iushr, z_ineg, z_i2l, z_i2b, z_i2s, z_i2c, z_l2i, z_ladd, z_lsub, z_land, z_lor, z_lshl, z_lshr, z_lcmp, z_dup, z_pop, z_dup2, z_goto, z_tsw, z_cases, z_geti, z_getr, z_puti, z_putz, z_ald, z_iast, z_bast, z_zast, z_alen, z_acopy, z_mmax, z_mmin, z_mabs, z_mabsL, z_iret, z_zret, z_nret, z_lret, z_aret, z_vret, z_cat, z_ldcs, z_strv, z_strc, z_gcs, z_gfm, z_sln, z_sald, z_ifeq, z_ifne, z_iflt, z_ifge, z_ifgt, z_ifle, z_iceq, z_icne, z_iclt, z_icge, z_icgt, z_icle, z_cs0, z_cs1, z_cs2, z_cs3, z_cs4, z_cs5, z_cs6, z_cs7, z_cv0, z_cv1, z_cv2, z_cv3, z_cv4, z_cv5, z_cv6, z_cv7, z_g0, z_s0, z_g1, z_s1, z_g2, z_s2, z_g3, z_s3, z_g4, z_s4, z_g5, z_s5, z_g6, z_s6, z_g7, z_s7, z_g8, z_s8, z_g9, z_s9, z_g10, z_s10, z_g11, z_s11, z_g12, z_s12, z_g13, z_s13, z_b0, z_b1, z_b0n, z_b1n, z_up_far1, z_up_far2, z_up_far3, z_up_far4, z_up_far5, z_up_far6, Classical.not_not, not_true_eq_false, z_in, z_inL, Int.cast_ofNat_Int, Nat.reduceLeDiff, List.length_cons, List.length_nil, Nat.reduceAdd, Nat.zero_add, Nat.le_refl, true_and, and_true, List.length, Nat.reduceLT, true_or, or_true, false_or, or_false, false_and, and_false, not_true_eq_false, not_false_eq_true, forall_const, false_implies, true_implies, Int.reduceEq, Int.reduceLT, Int.reduceLE, Int.reduceAdd, Int.reduceSub, Int.reduceMul, Int.reduceNeg, Int.reduceToNat, Int.toNat_natCast, ↓reduceIte, reduceIte, Nat.reduceEqDiff, Nat.reduceSub, Nat.reduceMul, ne_eq, Int.zero_add, Int.add_zero, Int.sub_zero, Nat.add_zero, Int.ofNat_eq_natCast, tX10_kindOf_0, SX10_layLengths, SX10_listen, SX10_of, SX10_sounds, SX10_buzzNow]
  intro σ1 f1 f2
  have e93 : σ1 93 = σ 93 := funext fun j => f1 93 j (by omega)
  have ly : q_ly σ1 (σ 93) := q_ly_id K (fun j => by rw [e93]) (fun j hj => by rw [f2 j hj, Nat.add_zero])
  refine ⟨⟨by rw [e93]; exact K, by rw [e93]; omega, fun a ht h2 => ?_⟩, fun σ2 f3 g => ?_⟩
  · rw [e93] at h2
    rw [← ly.2 a h2]
    have := K.2.1 a h2
    omega
  have g' := g.D ly K (by omega)
  have mi := q_me_in K g'
  have e93' : σ2 93 = σ 93 := funext fun j => by rw [f3 93 j (by omega), f1 93 j (by omega)]
  have fin := h σ2 (fun c j hc => by rw [f3 c j (by omega), f1 c j (by omega)]) (fun j hj => by rw [f3 98 j (by omega), f2 j hj, Nat.add_zero])
  simp only [Int.toNat_natCast] at fin
  unfold q_kdD at fin
  have pre := q_snd_pre (σ := σ) K t1 w1
  rw [q_me_bz g', z_bit1 _ (q_bzD_lt K) t (by omega)]
  simp only [e93']
  by_cases c5 : σ 93 (6 + 6 * t + 5) = 1
  · rw [if_pos c5] at fin
    repeat' (first | (intro _) | (with_reducible assumption) | (refine And.intro ?_ ?_))
    all_goals first | omega | assumption | (refine z_fin fin ?_ rfl; first | rfl | omega | (split <;> omega) | (split <;> split <;> omega)) | skip
    all_goals contradiction
  rw [if_neg c5] at fin
  by_cases c4 : σ 93 (6 + 6 * t + 4) = 1
  · rw [if_pos c4] at fin
    repeat' (first | (intro _) | (with_reducible assumption) | (refine And.intro ?_ ?_))
    all_goals first | omega | assumption | (refine z_fin fin ?_ rfl; first | rfl | omega | (split <;> omega) | (split <;> split <;> omega)) | skip
    all_goals contradiction
  rw [if_neg c4] at fin
  by_cases cs : q_sdD (σ 93) w t = true
  · rw [if_neg (by rw [cs]; decide)] at fin
    by_cases cb : (q_bzD (σ 93) w).testBit t = true
    · rw [if_pos cb] at fin
      rw [if_pos cb]
      repeat' (first | (intro _) | (with_reducible assumption) | (refine And.intro ?_ ?_))
      all_goals first | omega | assumption | (refine z_fin fin ?_ rfl; first | rfl | omega | (split <;> omega) | (split <;> split <;> omega)) | skip
      all_goals first | exact (mi.2.1 _ (by assumption)).1 | exact (mi.2.1 _ (by assumption)).2 | exact (mi.2.2 _ (by assumption)).1 | exact (mi.2.2 _ (by assumption)).2 | contradiction
    · rw [if_neg cb] at fin
      rw [if_neg cb]
      repeat' (first | (intro _) | (with_reducible assumption) | (refine And.intro ?_ ?_))
      all_goals first | omega | assumption | (refine z_fin fin ?_ rfl; first | rfl | omega | (split <;> omega) | (split <;> split <;> omega)) | skip
      all_goals first | exact (mi.2.1 _ (by assumption)).1 | exact (mi.2.1 _ (by assumption)).2 | exact (mi.2.2 _ (by assumption)).1 | exact (mi.2.2 _ (by assumption)).2 | contradiction
  · rw [if_pos (by simpa using cs)] at fin
    repeat' (first | (intro _) | (with_reducible assumption) | (refine And.intro ?_ ?_))
    all_goals first | omega | assumption | (refine z_fin fin ?_ rfl; first | rfl | omega | (split <;> omega) | (split <;> split <;> omega)) | skip
    all_goals contradiction
theorem dX10_kindOf_0 : decode cX10_kindOf 0 = .ok (.aload_n 0, 1) := by decide +kernel
theorem dX10_kindOf_1 : decode cX10_kindOf 1 = .ok (.invokevirtual 232, 3) := by decide +kernel
theorem dX10_kindOf_4 : decode cX10_kindOf 4 = .ok (.aload_n 0, 1) := by decide +kernel
theorem dX10_kindOf_5 : decode cX10_kindOf 5 = .ok (.iload_n 2, 1) := by decide +kernel
theorem dX10_kindOf_6 : decode cX10_kindOf 6 = .ok (.invokevirtual 256, 3) := by decide +kernel
theorem dX10_kindOf_9 : decode cX10_kindOf 9 = .ok (.aload_n 0, 1) := by decide +kernel
theorem dX10_kindOf_10 : decode cX10_kindOf 10 = .ok (.iload_n 1, 1) := by decide +kernel
theorem dX10_kindOf_11 : decode cX10_kindOf 11 = .ok (.iconst 5, 1) := by decide +kernel
theorem dX10_kindOf_12 : decode cX10_kindOf 12 = .ok (.invokevirtual 227, 3) := by decide +kernel
theorem dX10_kindOf_15 : decode cX10_kindOf 15 = .ok (.iconst 1, 1) := by decide +kernel
theorem dX10_kindOf_16 : decode cX10_kindOf 16 = .ok (.if_icmp .eq 13, 3) := by decide +kernel
theorem dX10_kindOf_19 : decode cX10_kindOf 19 = .ok (.aload_n 0, 1) := by decide +kernel
theorem dX10_kindOf_20 : decode cX10_kindOf 20 = .ok (.iload_n 1, 1) := by decide +kernel
theorem dX10_kindOf_21 : decode cX10_kindOf 21 = .ok (.iconst 4, 1) := by decide +kernel
theorem dX10_kindOf_22 : decode cX10_kindOf 22 = .ok (.invokevirtual 227, 3) := by decide +kernel
theorem dX10_kindOf_25 : decode cX10_kindOf 25 = .ok (.iconst 1, 1) := by decide +kernel
theorem dX10_kindOf_26 : decode cX10_kindOf 26 = .ok (.if_icmp .ne 19, 3) := by decide +kernel
theorem dX10_kindOf_29 : decode cX10_kindOf 29 = .ok (.aload_n 0, 1) := by decide +kernel
theorem dX10_kindOf_30 : decode cX10_kindOf 30 = .ok (.iload_n 1, 1) := by decide +kernel
theorem dX10_kindOf_31 : decode cX10_kindOf 31 = .ok (.iconst 5, 1) := by decide +kernel
theorem dX10_kindOf_32 : decode cX10_kindOf 32 = .ok (.invokevirtual 227, 3) := by decide +kernel
theorem dX10_kindOf_35 : decode cX10_kindOf 35 = .ok (.iconst 1, 1) := by decide +kernel
theorem dX10_kindOf_36 : decode cX10_kindOf 36 = .ok (.if_icmp .ne 7, 3) := by decide +kernel
theorem dX10_kindOf_39 : decode cX10_kindOf 39 = .ok (.iconst 5, 1) := by decide +kernel
theorem dX10_kindOf_40 : decode cX10_kindOf 40 = .ok (.goto 4, 3) := by decide +kernel
theorem dX10_kindOf_43 : decode cX10_kindOf 43 = .ok (.iconst 2, 1) := by decide +kernel
theorem dX10_kindOf_44 : decode cX10_kindOf 44 = .ok (.ireturn, 1) := by decide +kernel
theorem dX10_kindOf_45 : decode cX10_kindOf 45 = .ok (.aload_n 0, 1) := by decide +kernel
theorem dX10_kindOf_46 : decode cX10_kindOf 46 = .ok (.iload_n 1, 1) := by decide +kernel
theorem dX10_kindOf_47 : decode cX10_kindOf 47 = .ok (.iload_n 2, 1) := by decide +kernel
theorem dX10_kindOf_48 : decode cX10_kindOf 48 = .ok (.invokevirtual 249, 3) := by decide +kernel
theorem dX10_kindOf_51 : decode cX10_kindOf 51 = .ok (.ifCond .ne 7, 3) := by decide +kernel
theorem dX10_kindOf_54 : decode cX10_kindOf 54 = .ok (.iconst 1, 1) := by decide +kernel
theorem dX10_kindOf_55 : decode cX10_kindOf 55 = .ok (.goto 20, 3) := by decide +kernel
theorem dX10_kindOf_58 : decode cX10_kindOf 58 = .ok (.aload_n 0, 1) := by decide +kernel
theorem dX10_kindOf_59 : decode cX10_kindOf 59 = .ok (.invokevirtual 291, 3) := by decide +kernel
theorem dX10_kindOf_62 : decode cX10_kindOf 62 = .ok (.iload_n 1, 1) := by decide +kernel
theorem dX10_kindOf_63 : decode cX10_kindOf 63 = .ok (.ishr, 1) := by decide +kernel
theorem dX10_kindOf_64 : decode cX10_kindOf 64 = .ok (.iconst 1, 1) := by decide +kernel
theorem dX10_kindOf_65 : decode cX10_kindOf 65 = .ok (.iand, 1) := by decide +kernel
theorem dX10_kindOf_66 : decode cX10_kindOf 66 = .ok (.iconst 1, 1) := by decide +kernel
theorem dX10_kindOf_67 : decode cX10_kindOf 67 = .ok (.if_icmp .ne 7, 3) := by decide +kernel
theorem dX10_kindOf_70 : decode cX10_kindOf 70 = .ok (.iconst 4, 1) := by decide +kernel
theorem dX10_kindOf_71 : decode cX10_kindOf 71 = .ok (.goto 4, 3) := by decide +kernel
theorem dX10_kindOf_74 : decode cX10_kindOf 74 = .ok (.iconst 3, 1) := by decide +kernel
theorem dX10_kindOf_75 : decode cX10_kindOf 75 = .ok (.ireturn, 1) := by decide +kernel
set_option maxRecDepth 100000 in
theorem rX10_kindOf_0 {p : Program} {l : Launch} {e : Env} {s : State} {m : MethodId} {args : Array Value} {below : List Frame} {meth : Method} {c : Code} {D : va_G} {cA : Nat → ClassId} {ad : Nat → Nat} {Ret : zR} (C : z_Cx p { frames := 3, cells := 0, slots := 0, locals := 68 } s m args c cX10_kindOf yX10_kindOf.cls 3 D cA ad) (hr : meth.sig.returnType = (some .int)) (hlocks : meth.locks = false) : ∀ L st σ, tX10_kindOf_0 (z_X p l e { frames := 3, cells := 0, slots := 0, locals := 68 } s m args below meth c (MQ below (z_Qc D cA ad Ret) args s 0 0 (z_A ad)) 3 D cA ad true) Ret L st σ → z_X p l e { frames := 3, cells := 0, slots := 0, locals := 68 } s m args below meth c (MQ below (z_Qc D cA ad Ret) args s 0 0 (z_A ad)) 3 D cA ad true 0 L st σ := (s_aload_n C dX10_kindOf_0 rfl (s_cv0 C dX10_kindOf_1 (okX10_layLengths l) cls_X10 wd_1228 wd_1230 wd_54 wd_85 wd_1231 ⟨by decide, by decide, by decide +kernel⟩ ⟨by decide, by decide⟩ (s_aload_n C dX10_kindOf_4 rfl (s_iload_n C dX10_kindOf_5 rfl (s_cv1 C dX10_kindOf_6 (okX10_listen l) cls_X10 wd_1261 wd_1263 wd_60 wd_85 wd_1264 ⟨by decide, by decide, by decide +kernel⟩ ⟨by decide, by decide⟩ (s_aload_n C dX10_kindOf_9 rfl (s_iload_n C dX10_kindOf_10 rfl (s_iconst C dX10_kindOf_11 rfl ⟨by decide, by decide⟩ (s_cv2 C dX10_kindOf_12 (okX10_of l) cls_X10 wd_1232 wd_1234 wd_55 wd_85 wd_1235 ⟨by decide, by decide, by decide +kernel⟩ ⟨by decide, by decide⟩ (s_iconst C dX10_kindOf_15 rfl ⟨by decide, by decide⟩ (s_iceq C dX10_kindOf_16 (by decide) (s_aload_n C dX10_kindOf_29 rfl (s_iload_n C dX10_kindOf_30 rfl (s_iconst C dX10_kindOf_31 rfl ⟨by decide, by decide⟩ (s_cv2 C dX10_kindOf_32 (okX10_of l) cls_X10 wd_1232 wd_1234 wd_55 wd_85 wd_1235 ⟨by decide, by decide, by decide +kernel⟩ ⟨by decide, by decide⟩ (s_iconst C dX10_kindOf_35 rfl ⟨by decide, by decide⟩ (s_icne C dX10_kindOf_36 (by decide) (s_iconst C dX10_kindOf_43 rfl ⟨by decide, by decide⟩ (s_iret C dX10_kindOf_44 hr hlocks)) (s_iconst C dX10_kindOf_39 rfl ⟨by decide, by decide⟩ (s_goto C dX10_kindOf_40 (by decide) (s_iret C dX10_kindOf_44 hr hlocks))))))))) (s_aload_n C dX10_kindOf_19 rfl (s_iload_n C dX10_kindOf_20 rfl (s_iconst C dX10_kindOf_21 rfl ⟨by decide, by decide⟩ (s_cv2 C dX10_kindOf_22 (okX10_of l) cls_X10 wd_1232 wd_1234 wd_55 wd_85 wd_1235 ⟨by decide, by decide, by decide +kernel⟩ ⟨by decide, by decide⟩ (s_iconst C dX10_kindOf_25 rfl ⟨by decide, by decide⟩ (s_icne C dX10_kindOf_26 (by decide) (s_aload_n C dX10_kindOf_45 rfl (s_iload_n C dX10_kindOf_46 rfl (s_iload_n C dX10_kindOf_47 rfl (s_cv2 C dX10_kindOf_48 (okX10_sounds l) cls_X10 wd_1265 wd_1267 wd_61 wd_85 wd_1268 ⟨by decide, by decide, by decide +kernel⟩ ⟨by decide, by decide⟩ (s_ifne C dX10_kindOf_51 (by decide) (s_aload_n C dX10_kindOf_58 rfl (s_cv0 C dX10_kindOf_59 (okX10_buzzNow l) cls_X10 wd_1315 wd_1317 wd_65 wd_85 wd_1318 ⟨by decide, by decide, by decide +kernel⟩ ⟨by decide, by decide⟩ (s_iload_n C dX10_kindOf_62 rfl (s_ishr C dX10_kindOf_63 (s_iconst C dX10_kindOf_64 rfl ⟨by decide, by decide⟩ (s_iand C dX10_kindOf_65 (s_iconst C dX10_kindOf_66 rfl ⟨by decide, by decide⟩ (s_icne C dX10_kindOf_67 (by decide) (s_iconst C dX10_kindOf_74 rfl ⟨by decide, by decide⟩ (s_iret C dX10_kindOf_75 hr hlocks)) (s_iconst C dX10_kindOf_70 rfl ⟨by decide, by decide⟩ (s_goto C dX10_kindOf_71 (by decide) (s_iret C dX10_kindOf_75 hr hlocks))))))))))) (s_iconst C dX10_kindOf_54 rfl ⟨by decide, by decide⟩ (s_goto C dX10_kindOf_55 (by decide) (s_iret C dX10_kindOf_75 hr hlocks)))))))) (s_aload_n C dX10_kindOf_29 rfl (s_iload_n C dX10_kindOf_30 rfl (s_iconst C dX10_kindOf_31 rfl ⟨by decide, by decide⟩ (s_cv2 C dX10_kindOf_32 (okX10_of l) cls_X10 wd_1232 wd_1234 wd_55 wd_85 wd_1235 ⟨by decide, by decide, by decide +kernel⟩ ⟨by decide, by decide⟩ (s_iconst C dX10_kindOf_35 rfl ⟨by decide, by decide⟩ (s_icne C dX10_kindOf_36 (by decide) (s_iconst C dX10_kindOf_43 rfl ⟨by decide, by decide⟩ (s_iret C dX10_kindOf_44 hr hlocks)) (s_iconst C dX10_kindOf_39 rfl ⟨by decide, by decide⟩ (s_goto C dX10_kindOf_40 (by decide) (s_iret C dX10_kindOf_44 hr hlocks))))))))))))))))))))))))))
theorem okX10_kindOf (l : Launch) : z_OK l yX10_kindOf cX10_kindOf 3 (some .int) 3 68 SX10_kindOf := by
  refine z_ok_of true (by decide +kernel) ?_ ?_
  · intro as σ Ret h
    obtain ⟨k0, x1, x2, rfl⟩ := pX10_kindOf h
    exact ⟨Nat.le_of_ble_eq_true rfl, by simp⟩
  · intro p e s m args below meth c D cA ad Ret C hr hlocks as σ has hσ h
    obtain ⟨k0, x1, x2, rfl⟩ := pX10_kindOf h
    exact vX10_kindOf (rX10_kindOf_0 C hr hlocks) k0 x1 x2 σ (has _ (List.mem_of_getElem? (i := 0) rfl)) (has _ (List.mem_of_getElem? (i := 1) rfl)) (has _ (List.mem_of_getElem? (i := 2) rfl)) hσ h
