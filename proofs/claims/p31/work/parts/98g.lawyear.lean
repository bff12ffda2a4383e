def w_bg (zx : zX) (j : Nat) : Int := if j % 6 < 4 ∧ ((j / 6 : Nat) : Int) < w_nt zx then w_tr zx (j / 6) (j % 6) else 0
def SL_begins (zx : zX) : zS := fun as σ Ret => match as with
  | [.inr (.inr (252, 0, _)), .inr (.inr (100, 64, k))] => ∀ σ', w_ek k σ σ' → (∀ j, j < 48 → σ' k j = w_bg zx j) → (σ' k 48 = 0 ∧ σ' k 49 = 0 ∧ σ' k 50 = 0) → Ret none σ'
  | _ => False
def tL_begins_0 (zx : zX) (X : Nat → zB) (Ret : zR) (L : zL) (st : List zV) (σ : zM) : Prop := (z_push 0 (z_istore 2 (X 2))) L st σ
def tL_begins_2 (zx : zX) (X : Nat → zB) (Ret : zR) (L : zL) (st : List zV) (σ : zM) : Prop := (z_iload 2 (z_push 48 (z_icge (z_aload 1 (z_push 48 (z_push 0 (z_iast (z_aload 1 (z_push 49 (z_push 0 (z_iast (z_aload 1 (z_push 50 (z_push 0 (z_iast (z_vret Ret))))))))))))) (z_aload 1 (z_iload 2 (z_iload 2 (z_push 6 (z_irem (z_push 4 (z_icge (z_push 0 (z_iast (z_iinc 2 1 (z_goto (X 2))))) (z_iload 2 (z_push 6 (z_idiv (z_aload 0 (z_cs1 (SL_trees zx) (z_icge (z_push 0 (z_iast (z_iinc 2 1 (z_goto (X 2))))) (z_aload 0 (z_iload 2 (z_push 6 (z_idiv (z_iload 2 (z_push 6 (z_irem (z_cs3 (SL_tree zx) (z_goto (z_iast (z_iinc 2 1 (z_goto (X 2))))))))))))))))))))))))))))) L st σ
theorem pL_begins {zx : zX} {as : List zV} {σ : zM} {Ret : zR} (h : (SL_begins zx) as σ Ret) : ∃ (k1 : Nat) (k2 : Nat), as = [.inr (.inr (252, 0, k1)), .inr (.inr (100, 64, k2))] := by
  unfold SL_begins at h
  split at h
  · exact ⟨_, _, rfl⟩
  · exact h.elim
set_option maxRecDepth 10000 in
set_option maxHeartbeats 4000000 in
theorem vL_begins {zx : zX} {X : Nat → zB} {Ret : zR} (h0 : ∀ L st σ, tL_begins_0 zx X Ret L st σ → X 0 L st σ) (h2 : ∀ L st σ, tL_begins_2 zx X Ret L st σ → X 2 L st σ) (k1 : Nat) (k2 : Nat) (σ : zM) (hk1 : z_kd k1 = (252, 0)) (hk2 : z_kd k2 = (100, 64)) (hσ : z_okm σ) (h : (SL_begins zx) [.inr (.inr (252, 0, k1)), .inr (.inr (100, 64, k2))] σ Ret) : X 0 [some (.inr (.inr (252, 0, k1))), some (.inr (.inr (100, 64, k2))), none] [] σ := by
  simp only [SL_begins] at h
  have nt := w_nt_in zx
  have lp : ∀ (d i : Nat) (τ : zM), i + d = 48 → w_ek k2 σ τ → (∀ j, j < i → τ k2 j = w_bg zx j) → X 2 [some (.inr (.inr (252, 0, k1))), some (.inr (.inr (100, 64, k2))), some (.inl (i : Int))] [] τ := by
    intro d
    induction d with
    | zero =>
      intro i τ hi f r
      refine h2 _ _ _ ?_
      simp only [z_push, z_lpush, z_iload, z_lload, z_aload, z_istore, z_istoreP, z_lstore, z_astore, z_iinc, z_iincP, z_iadd, z_isub, z_imul, z_iaddW, z_isubW, z_imulW, z_idiv, z_irem, z_iand, z_ior, z_ixor, z_ishl, z_ishr, z_iushr, z_ineg, z_i2l, z_i2b, z_i2s, z_i2c, z_l2i, z_ladd, z_lsub, z_land, z_lor, z_lshl, z_lshr, z_lcmp, z_dup, z_pop, z_dup2, z_goto, z_tsw, z_cases, z_geti, z_getr, z_puti, z_putz, z_ald, z_iast, z_bast, z_zast, z_alen, z_acopy, z_mmax, z_mmin, z_mabs, z_mabsL, z_iret, z_zret, z_nret, z_lret, z_aret, z_vret, z_cat, z_xald, z_xlen, z_ldcs, z_strv, z_strc, z_gcs, z_gfm, z_sln, z_sald, z_ifeq, z_ifne, z_iflt, z_ifge, z_ifgt, z_ifle, z_iceq, z_icne, z_iclt, z_icge, z_icgt, z_icle, z_cs0, z_cs1, z_cs2, z_cs3, z_cs4, z_cs5, z_cs6, z_cs7, z_cv0, z_cv1, z_cv2, z_cv3, z_cv4, z_cv5, z_cv6, z_cv7, z_g0, z_s0, z_g1, z_s1, z_g2, z_s2, z_g3, z_s3, z_g4, z_s4, z_g5, z_s5, z_g6, z_s6, z_g7, z_s7, z_g8, z_s8, z_g9, z_s9, z_g10, z_s10, z_g11, z_s11, z_g12, z_s12, z_g13, z_s13, z_b0, z_b1, z_b0n, z_b1n, z_up_far1, z_up_far2, z_up_far3, z_up_far4, z_up_far5, z_up_far6, Classical.not_not, not_true_eq_false, z_in, z_inL, Int.cast_ofNat_Int, Nat.reduceLeDiff, List.length_cons, List.length_nil, Nat.reduceAdd, Nat.zero_add, Nat.le_refl, true_and, and_true, List.length, Nat.reduceLT, true_or, or_true, false_or, or_false, false_and, and_false, not_true_eq_false, not_false_eq_true, forall_const, false_implies, true_implies, Int.reduceEq, Int.reduceLT, Int.reduceLE, Int.reduceAdd, Int.reduceSub, Int.reduceMul, Int.reduceNeg, Int.reduceToNat, Int.toNat_natCast, ↓reduceIte, reduceIte, Nat.reduceEqDiff, Nat.reduceSub, Nat.reduceMul, ne_eq, Int.zero_add, Int.add_zero, Int.sub_zero, Nat.add_zero, Int.ofNat_eq_natCast, tL_begins_2]
      refine ⟨fun _ => h _ (((f.up _ _).up _ _).up _ _) (fun j hj => ?_) ?_, fun q => by omega⟩
      · rw [z_up_ne (by omega), z_up_ne (by omega), z_up_ne (by omega)]
        exact r j (by omega)
      · refine ⟨?_, ?_, z_up_eq⟩
        · rw [z_up_ne (by omega), z_up_ne (by omega), z_up_eq]
        · rw [z_up_ne (by omega), z_up_eq]
    | succ d ih =>
      intro i τ hi f r
      have e6 : (i : Int).tmod 6 = ((i % 6 : Nat) : Int) := by rw [Int.tmod_eq_emod_of_nonneg (by omega)]; omega
      have d6 : (i : Int).tdiv 6 = ((i / 6 : Nat) : Int) := by rw [Int.tdiv_eq_ediv_of_nonneg (by omega)]; omega
      have st : ∀ v, v = w_bg zx i → ∀ j, j < i + 1 → z_up τ k2 i v k2 j = w_bg zx j := by
        intro v hv j hj
        by_cases e : j = i
        · subst e
          rw [z_up_eq, hv]
        · rw [z_up_ne (by omega)]
          exact r j (by omega)
      refine h2 _ _ _ ?_
      simp only [z_push, z_lpush, z_iload, z_lload, z_aload, z_istore, z_istoreP, z_lstore, z_astore, z_iinc, z_iincP, z_iadd, z_isub, z_imul, z_iaddW, z_isubW, z_imulW, z_idiv, z_irem, z_iand, z_ior, z_ixor, z_ishl, z_ishr, z_iushr, z_ineg, z_i2l, z_i2b, z_i2s, z_i2c, z_l2i, z_ladd, z_lsub, z_land, z_lor, z_lshl, z_lshr, z_lcmp, z_dup, z_pop, z_dup2, z_goto, z_tsw, z_cases, z_geti, z_getr, z_puti, z_putz, z_ald, z_iast, z_bast, z_zast, z_alen, z_acopy, z_mmax, z_mmin, z_mabs, z_mabsL, z_iret, z_zret, z_nret, z_lret, z_aret, z_vret, z_cat, z_xald, z_xlen, z_ldcs, z_strv, z_strc, z_gcs, z_gfm, z_sln, z_sald, z_ifeq, z_ifne, z_iflt, z_ifge, z_ifgt, z_ifle, z_iceq, z_icne, z_iclt, z_icge, z_icgt, z_icle, z_cs0, z_cs1, z_cs2, z_cs3, z_cs4, z_cs5, z_cs6, z_cs7, z_cv0, z_cv1, z_cv2, z_cv3, z_cv4, z_cv5, z_cv6, z_cv7, z_g0, z_s0, z_g1, z_s1, z_g2, z_s2, z_g3, z_s3, z_g4, z_s4, z_g5, z_s5, z_g6, z_s6, z_g7, z_s7, z_g8, z_s8, z_g9, z_s9, z_g10, z_s10, z_g11, z_s11, z_g12, z_s12, z_g13, z_s13, z_b0, z_b1, z_b0n, z_b1n, z_up_far1, z_up_far2, z_up_far3, z_up_far4, z_up_far5, z_up_far6, Classical.not_not, not_true_eq_false, z_in, z_inL, Int.cast_ofNat_Int, Nat.reduceLeDiff, List.length_cons, List.length_nil, Nat.reduceAdd, Nat.zero_add, Nat.le_refl, true_and, and_true, List.length, Nat.reduceLT, true_or, or_true, false_or, or_false, false_and, and_false, not_true_eq_false, not_false_eq_true, forall_const, false_implies, true_implies, Int.reduceEq, Int.reduceLT, Int.reduceLE, Int.reduceAdd, Int.reduceSub, Int.reduceMul, Int.reduceNeg, Int.reduceToNat, Int.toNat_natCast, ↓reduceIte, reduceIte, Nat.reduceEqDiff, Nat.reduceSub, Nat.reduceMul, ne_eq, Int.zero_add, Int.add_zero, Int.sub_zero, Nat.add_zero, Int.ofNat_eq_natCast, tL_begins_2, SL_trees, SL_tree, e6, d6]
      refine ⟨fun q => by omega, fun _ => ?_⟩
      by_cases c : i % 6 < 4 ∧ ((i / 6 : Nat) : Int) < w_nt zx
      · have b : w_tr zx (i / 6) (i % 6) = w_bg zx i := (if_pos c).symm
        have nx := ih (i + 1) _ (by omega) (f.up i _) (st _ b)
        repeat' (first | (intro _) | (with_reducible assumption) | (refine And.intro ?_ ?_))
        all_goals first | omega | assumption | (refine z_fin nx ?_ rfl; first | rfl | omega | (split <;> omega) | (split <;> split <;> omega)) | skip
      · have b : 0 = w_bg zx i := (if_neg c).symm
        have nx := ih (i + 1) _ (by omega) (f.up i _) (st _ b)
        repeat' (first | (intro _) | (with_reducible assumption) | (refine And.intro ?_ ?_))
        all_goals first | omega | assumption | (refine z_fin nx ?_ rfl; first | rfl | omega | (split <;> omega) | (split <;> split <;> omega)) | skip
  refine h0 _ _ _ ?_
  simp only [z_push, z_lpush, z_iload, z_lload, z_aload, z_istore, z_istoreP, z_lstore, z_astore, z_iinc, z_iincP, z_iadd, z_isub, z_imul, z_iaddW, z_isubW, z_imulW, z_idiv, z_irem, z_iand, z_ior, z_ixor, z_ishl, z_ishr, z_iushr, z_ineg, z_i2l, z_i2b, z_i2s, z_i2c, z_l2i, z_ladd, z_lsub, z_land, z_lor, z_lshl, z_lshr, z_lcmp, z_dup, z_pop, z_dup2, z_goto, z_tsw, z_cases, z_geti, z_getr, z_puti, z_putz, z_ald, z_iast, z_bast, z_zast, z_alen, z_acopy, z_mmax, z_mmin, z_mabs, z_mabsL, z_iret, z_zret, z_nret, z_lret, z_aret, z_vret, z_cat, z_xald, z_xlen, z_ldcs, z_strv, z_strc, z_gcs, z_gfm, z_sln, z_sald, z_ifeq, z_ifne, z_iflt, z_ifge, z_ifgt, z_ifle, z_iceq, z_icne, z_iclt, z_icge, z_icgt, z_icle, z_cs0, z_cs1, z_cs2, z_cs3, z_cs4, z_cs5, z_cs6, z_cs7, z_cv0, z_cv1, z_cv2, z_cv3, z_cv4, z_cv5, z_cv6, z_cv7, z_g0, z_s0, z_g1, z_s1, z_g2, z_s2, z_g3, z_s3, z_g4, z_s4, z_g5, z_s5, z_g6, z_s6, z_g7, z_s7, z_g8, z_s8, z_g9, z_s9, z_g10, z_s10, z_g11, z_s11, z_g12, z_s12, z_g13, z_s13, z_b0, z_b1, z_b0n, z_b1n, z_up_far1, z_up_far2, z_up_far3, z_up_far4, z_up_far5, z_up_far6, Classical.not_not, not_true_eq_false, z_in, z_inL, Int.cast_ofNat_Int, Nat.reduceLeDiff, List.length_cons, List.length_nil, Nat.reduceAdd, Nat.zero_add, Nat.le_refl, true_and, and_true, List.length, Nat.reduceLT, true_or, or_true, false_or, or_false, false_and, and_false, not_true_eq_false, not_false_eq_true, forall_const, false_implies, true_implies, Int.reduceEq, Int.reduceLT, Int.reduceLE, Int.reduceAdd, Int.reduceSub, Int.reduceMul, Int.reduceNeg, Int.reduceToNat, Int.toNat_natCast, ↓reduceIte, reduceIte, Nat.reduceEqDiff, Nat.reduceSub, Nat.reduceMul, ne_eq, Int.zero_add, Int.add_zero, Int.sub_zero, Nat.add_zero, Int.ofNat_eq_natCast, tL_begins_0]
  exact lp 48 0 σ rfl (fun _ _ => rfl) (fun j hj => absurd hj (Nat.not_lt_zero _))
theorem dL_begins_0 : decode cL_begins 0 = .ok (.iconst 0, 1) := by decide +kernel
theorem dL_begins_1 : decode cL_begins 1 = .ok (.istore_n 2, 1) := by decide +kernel
theorem dL_begins_2 : decode cL_begins 2 = .ok (.iload_n 2, 1) := by decide +kernel
theorem dL_begins_3 : decode cL_begins 3 = .ok (.bipush 48, 2) := by decide +kernel
theorem dL_begins_5 : decode cL_begins 5 = .ok (.if_icmp .ge 47, 3) := by decide +kernel
theorem dL_begins_8 : decode cL_begins 8 = .ok (.aload_n 1, 1) := by decide +kernel
theorem dL_begins_9 : decode cL_begins 9 = .ok (.iload_n 2, 1) := by decide +kernel
theorem dL_begins_10 : decode cL_begins 10 = .ok (.iload_n 2, 1) := by decide +kernel
theorem dL_begins_11 : decode cL_begins 11 = .ok (.bipush 6, 2) := by decide +kernel
theorem dL_begins_13 : decode cL_begins 13 = .ok (.irem, 1) := by decide +kernel
theorem dL_begins_14 : decode cL_begins 14 = .ok (.iconst 4, 1) := by decide +kernel
theorem dL_begins_15 : decode cL_begins 15 = .ok (.if_icmp .ge 29, 3) := by decide +kernel
theorem dL_begins_18 : decode cL_begins 18 = .ok (.iload_n 2, 1) := by decide +kernel
theorem dL_begins_19 : decode cL_begins 19 = .ok (.bipush 6, 2) := by decide +kernel
theorem dL_begins_21 : decode cL_begins 21 = .ok (.idiv, 1) := by decide +kernel
theorem dL_begins_22 : decode cL_begins 22 = .ok (.aload_n 0, 1) := by decide +kernel
theorem dL_begins_23 : decode cL_begins 23 = .ok (.invokestatic 27, 3) := by decide +kernel
theorem dL_begins_26 : decode cL_begins 26 = .ok (.if_icmp .ge 18, 3) := by decide +kernel
theorem dL_begins_29 : decode cL_begins 29 = .ok (.aload_n 0, 1) := by decide +kernel
theorem dL_begins_30 : decode cL_begins 30 = .ok (.iload_n 2, 1) := by decide +kernel
theorem dL_begins_31 : decode cL_begins 31 = .ok (.bipush 6, 2) := by decide +kernel
theorem dL_begins_33 : decode cL_begins 33 = .ok (.idiv, 1) := by decide +kernel
theorem dL_begins_34 : decode cL_begins 34 = .ok (.iload_n 2, 1) := by decide +kernel
theorem dL_begins_35 : decode cL_begins 35 = .ok (.bipush 6, 2) := by decide +kernel
theorem dL_begins_37 : decode cL_begins 37 = .ok (.irem, 1) := by decide +kernel
theorem dL_begins_38 : decode cL_begins 38 = .ok (.invokestatic 31, 3) := by decide +kernel
theorem dL_begins_41 : decode cL_begins 41 = .ok (.goto 4, 3) := by decide +kernel
theorem dL_begins_44 : decode cL_begins 44 = .ok (.iconst 0, 1) := by decide +kernel
theorem dL_begins_45 : decode cL_begins 45 = .ok (.iastore, 1) := by decide +kernel
theorem dL_begins_46 : decode cL_begins 46 = .ok (.iinc 2 1, 3) := by decide +kernel
theorem dL_begins_49 : decode cL_begins 49 = .ok (.goto (-47), 3) := by decide +kernel
theorem dL_begins_52 : decode cL_begins 52 = .ok (.aload_n 1, 1) := by decide +kernel
theorem dL_begins_53 : decode cL_begins 53 = .ok (.bipush 48, 2) := by decide +kernel
theorem dL_begins_55 : decode cL_begins 55 = .ok (.iconst 0, 1) := by decide +kernel
theorem dL_begins_56 : decode cL_begins 56 = .ok (.iastore, 1) := by decide +kernel
theorem dL_begins_57 : decode cL_begins 57 = .ok (.aload_n 1, 1) := by decide +kernel
theorem dL_begins_58 : decode cL_begins 58 = .ok (.bipush 49, 2) := by decide +kernel
theorem dL_begins_60 : decode cL_begins 60 = .ok (.iconst 0, 1) := by decide +kernel
theorem dL_begins_61 : decode cL_begins 61 = .ok (.iastore, 1) := by decide +kernel
theorem dL_begins_62 : decode cL_begins 62 = .ok (.aload_n 1, 1) := by decide +kernel
theorem dL_begins_63 : decode cL_begins 63 = .ok (.bipush 50, 2) := by decide +kernel
theorem dL_begins_65 : decode cL_begins 65 = .ok (.iconst 0, 1) := by decide +kernel
theorem dL_begins_66 : decode cL_begins 66 = .ok (.iastore, 1) := by decide +kernel
theorem dL_begins_67 : decode cL_begins 67 = .ok (.return_, 1) := by decide +kernel
set_option maxRecDepth 100000 in
theorem rL_begins_0 {zx : zX} {zn : Nat} {p : Program} {l : Launch} {e : Env} {s : State} {m : MethodId} {args : Array Value} {below : List Frame} {meth : Method} {c : Code} {D : va_G} {cA : Nat → ClassId} {ad : Nat → Nat} {Ret : zR} (C : z_Cx zx zn (z_A zn ad) 0 0 p { frames := 2, cells := 0, slots := 0, locals := 44 } s m args c cL_begins yL_begins.cls 3 D cA ad) (hr : meth.sig.returnType = none) (hlocks : meth.locks = false) : ∀ L st σ, tL_begins_0 zx (z_X zx zn (z_A zn ad) 0 0 p l e { frames := 2, cells := 0, slots := 0, locals := 44 } s m args below meth c (MQ below (z_Qc zn D cA ad Ret) args s 0 0 (z_A zn ad)) 3 D cA ad true) Ret L st σ → z_X zx zn (z_A zn ad) 0 0 p l e { frames := 2, cells := 0, slots := 0, locals := 44 } s m args below meth c (MQ below (z_Qc zn D cA ad Ret) args s 0 0 (z_A zn ad)) 3 D cA ad true 0 L st σ := (s_iconst C dL_begins_0 rfl ⟨by decide, by decide⟩ (s_istore_n C dL_begins_1 (by decide) rfl rfl (fun _ _ _ h => h)))
set_option maxRecDepth 100000 in
theorem rL_begins_2 {zx : zX} {zn : Nat} {p : Program} {l : Launch} {e : Env} {s : State} {m : MethodId} {args : Array Value} {below : List Frame} {meth : Method} {c : Code} {D : va_G} {cA : Nat → ClassId} {ad : Nat → Nat} {Ret : zR} (C : z_Cx zx zn (z_A zn ad) 0 0 p { frames := 2, cells := 0, slots := 0, locals := 44 } s m args c cL_begins yL_begins.cls 3 D cA ad) (hr : meth.sig.returnType = none) (hlocks : meth.locks = false) : ∀ L st σ, tL_begins_2 zx (z_X zx zn (z_A zn ad) 0 0 p l e { frames := 2, cells := 0, slots := 0, locals := 44 } s m args below meth c (MQ below (z_Qc zn D cA ad Ret) args s 0 0 (z_A zn ad)) 3 D cA ad true) Ret L st σ → z_X zx zn (z_A zn ad) 0 0 p l e { frames := 2, cells := 0, slots := 0, locals := 44 } s m args below meth c (MQ below (z_Qc zn D cA ad Ret) args s 0 0 (z_A zn ad)) 3 D cA ad true 2 L st σ := (s_iload_n C dL_begins_2 rfl (s_bipush C dL_begins_3 rfl ⟨by decide, by decide⟩ (s_icge C dL_begins_5 (by decide) (s_aload_n C dL_begins_52 rfl (s_bipush C dL_begins_53 rfl ⟨by decide, by decide⟩ (s_iconst C dL_begins_55 rfl ⟨by decide, by decide⟩ (s_iast C dL_begins_56 (s_aload_n C dL_begins_57 rfl (s_bipush C dL_begins_58 rfl ⟨by decide, by decide⟩ (s_iconst C dL_begins_60 rfl ⟨by decide, by decide⟩ (s_iast C dL_begins_61 (s_aload_n C dL_begins_62 rfl (s_bipush C dL_begins_63 rfl ⟨by decide, by decide⟩ (s_iconst C dL_begins_65 rfl ⟨by decide, by decide⟩ (s_iast C dL_begins_66 (s_vret C dL_begins_67 hr hlocks))))))))))))) (s_aload_n C dL_begins_8 rfl (s_iload_n C dL_begins_9 rfl (s_iload_n C dL_begins_10 rfl (s_bipush C dL_begins_11 rfl ⟨by decide, by decide⟩ (s_irem C dL_begins_13 (s_iconst C dL_begins_14 rfl ⟨by decide, by decide⟩ (s_icge C dL_begins_15 (by decide) (s_iconst C dL_begins_44 rfl ⟨by decide, by decide⟩ (s_iast C dL_begins_45 (s_iinc C dL_begins_46 (by decide) rfl (s_goto C dL_begins_49 (by decide) (fun _ _ _ h => h))))) (s_iload_n C dL_begins_18 rfl (s_bipush C dL_begins_19 rfl ⟨by decide, by decide⟩ (s_idiv C dL_begins_21 (s_aload_n C dL_begins_22 rfl (s_cs1 C dL_begins_23 (okL_trees l) wd_548 wd_549 wd_16 wd_550 ⟨by decide, by decide, by decide +kernel⟩ ⟨by decide, by decide⟩ (s_icge C dL_begins_26 (by decide) (s_iconst C dL_begins_44 rfl ⟨by decide, by decide⟩ (s_iast C dL_begins_45 (s_iinc C dL_begins_46 (by decide) rfl (s_goto C dL_begins_49 (by decide) (fun _ _ _ h => h))))) (s_aload_n C dL_begins_29 rfl (s_iload_n C dL_begins_30 rfl (s_bipush C dL_begins_31 rfl ⟨by decide, by decide⟩ (s_idiv C dL_begins_33 (s_iload_n C dL_begins_34 rfl (s_bipush C dL_begins_35 rfl ⟨by decide, by decide⟩ (s_irem C dL_begins_37 (s_cs3 C dL_begins_38 (okL_tree l) wd_569 wd_570 wd_16 wd_571 ⟨by decide, by decide, by decide +kernel⟩ ⟨by decide, by decide⟩ (s_goto C dL_begins_41 (by decide) (s_iast C dL_begins_45 (s_iinc C dL_begins_46 (by decide) rfl (s_goto C dL_begins_49 (by decide) (fun _ _ _ h => h)))))))))))))))))))))))))))))
theorem okL_begins {zx : zX} {zn : Nat} (l : Launch) : z_OK zx zn l yL_begins cL_begins 3 none 2 44 (SL_begins zx) := by
  refine z_ok_of true (by decide +kernel) ?_ ?_
  · intro as σ Ret h
    obtain ⟨k1, k2, rfl⟩ := pL_begins h
    exact ⟨Nat.le_of_ble_eq_true rfl, by simp⟩
  · intro p e s m args below meth c D cA ad Ret C hr hlocks as σ has hσ h
    obtain ⟨k1, k2, rfl⟩ := pL_begins h
    exact vL_begins (rL_begins_0 C hr hlocks) (rL_begins_2 C hr hlocks) k1 k2 σ (has _ (List.mem_of_getElem? (i := 0) rfl)).1 (has _ (List.mem_of_getElem? (i := 1) rfl)).1 hσ h
def SL_year (zx : zX) : zS := fun as σ Ret => match as with
  | [.inr (.inr (252, 0, _)), .inr (.inr (100, 64, k))] => ∃ D, q_Dok D ∧ D 0 = w_nt zx ∧ (0 ≤ D 3 ∧ D 3 ≤ 1000) ∧ w_t σ k D ∧ ∀ σ', w_ek k σ σ' → w_t σ' k (q_d1 (q_gwD D 1) 3 (D 3 + 1)) → Ret none σ'
  | _ => False
def tL_year_0 (zx : zX) (X : Nat → zB) (Ret : zR) (L : zL) (st : List zV) (σ : zM) : Prop := (z_push 0 (z_istore 2 (X 2))) L st σ
def tL_year_2 (zx : zX) (X : Nat → zB) (Ret : zR) (L : zL) (st : List zV) (σ : zM) : Prop := (z_iload 2 (z_aload 0 (z_cs1 (SL_trees zx) (z_icge (z_aload 1 (z_push 49 (z_dup2 (z_ald 0 (z_push 1 (z_iadd (z_iast (z_vret Ret)))))))) (z_aload 1 (z_push 6 (z_iload 2 (z_imul (z_aload 1 (z_push 6 (z_iload 2 (z_imul (z_push 4 (z_iadd (z_ald 0 (z_aload 1 (z_push 6 (z_iload 2 (z_imul (z_push 5 (z_iadd (z_ald 0 (z_iadd (z_ifle (z_aload 1 (z_push 6 (z_iload 2 (z_imul (z_ald 0 (z_aload 1 (z_push 6 (z_iload 2 (z_imul (z_push 3 (z_iadd (z_ald 0 (z_iadd (z_cs1 (SL_fit zx) (z_iast (z_iinc 2 1 (z_goto (X 2)))))))))))))))))) (z_aload 1 (z_push 6 (z_iload 2 (z_imul (z_ald 0 (z_goto (z_iast (z_iinc 2 1 (z_goto (X 2)))))))))))))))))))))))))))))))))) L st σ
theorem pL_year {zx : zX} {as : List zV} {σ : zM} {Ret : zR} (h : (SL_year zx) as σ Ret) : ∃ (k1 : Nat) (k2 : Nat), as = [.inr (.inr (252, 0, k1)), .inr (.inr (100, 64, k2))] := by
  unfold SL_year at h
  split at h
  · exact ⟨_, _, rfl⟩
  · exact h.elim
set_option maxRecDepth 10000 in
set_option maxHeartbeats 4000000 in
theorem vL_year {zx : zX} {X : Nat → zB} {Ret : zR} (h0 : ∀ L st σ, tL_year_0 zx X Ret L st σ → X 0 L st σ) (h2 : ∀ L st σ, tL_year_2 zx X Ret L st σ → X 2 L st σ) (k1 : Nat) (k2 : Nat) (σ : zM) (hk1 : z_kd k1 = (252, 0)) (hk2 : z_kd k2 = (100, 64)) (hσ : z_okm σ) (h : (SL_year zx) [.inr (.inr (252, 0, k1)), .inr (.inr (100, 64, k2))] σ Ret) : X 0 [some (.inr (.inr (252, 0, k1))), some (.inr (.inr (100, 64, k2))), none] [] σ := by
  obtain ⟨D, K, n0, d3, tt, h⟩ := h
  have nt := w_nt_in zx
  obtain ⟨n, hn⟩ := z_nat (show 0 ≤ w_nt zx by omega)
  have lp : ∀ (d i : Nat) (τ : zM), i + d = n → w_ek k2 σ τ → (∀ j, τ k2 j = if j % 6 = 0 ∧ j < 6 * i then q_gwD D 1 (6 + j) else σ k2 j) → X 2 [some (.inr (.inr (252, 0, k1))), some (.inr (.inr (100, 64, k2))), some (.inl (i : Int))] [] τ := by
    intro d
    induction d with
    | zero =>
      intro i τ hi f r
      have e49 : τ k2 49 = D 3 := by rw [r, if_neg (by omega), tt.2.2.1]
      refine h2 _ _ _ ?_
      simp only [z_push, z_lpush, z_iload, z_lload, z_aload, z_istore, z_istoreP, z_lstore, z_astore, z_iinc, z_iincP, z_iadd, z_isub, z_imul, z_iaddW, z_isubW, z_imulW, z_idiv, z_irem, z_iand, z_ior, z_ixor, z_ishl, z_ishr, z_iushr, z_ineg, z_i2l, z_i2b, z_i2s, z_i2c, z_l2i, z_ladd, z_lsub, z_land, z_lor, z_lshl, z_lshr, z_lcmp, z_dup, z_pop, z_dup2, z_goto, z_tsw, z_cases, z_geti, z_getr, z_puti, z_putz, z_ald, z_iast, z_bast, z_zast, z_alen, z_acopy, z_mmax, z_mmin, z_mabs, z_mabsL, z_iret, z_zret, z_nret, z_lret, z_aret, z_vret, z_cat, z_xald, z_xlen, z_ldcs, z_strv, z_strc, z_gcs, z_gfm, z_sln, z_sald, z_ifeq, z_ifne, z_iflt, z_ifge, z_ifgt, z_ifle, z_iceq, z_icne, z_iclt, z_icge, z_icgt, z_icle, z_cs0, z_cs1, z_cs2, z_cs3, z_cs4, z_cs5, z_cs6, z_cs7, z_cv0, z_cv1, z_cv2, z_cv3, z_cv4, z_cv5, z_cv6, z_cv7, z_g0, z_s0, z_g1, z_s1, z_g2, z_s2, z_g3, z_s3, z_g4, z_s4, z_g5, z_s5, z_g6, z_s6, z_g7, z_s7, z_g8, z_s8, z_g9, z_s9, z_g10, z_s10, z_g11, z_s11, z_g12, z_s12, z_g13, z_s13, z_b0, z_b1, z_b0n, z_b1n, z_up_far1, z_up_far2, z_up_far3, z_up_far4, z_up_far5, z_up_far6, Classical.not_not, not_true_eq_false, z_in, z_inL, Int.cast_ofNat_Int, Nat.reduceLeDiff, List.length_cons, List.length_nil, Nat.reduceAdd, Nat.zero_add, Nat.le_refl, true_and, and_true, List.length, Nat.reduceLT, true_or, or_true, false_or, or_false, false_and, and_false, not_true_eq_false, not_false_eq_true, forall_const, false_implies, true_implies, Int.reduceEq, Int.reduceLT, Int.reduceLE, Int.reduceAdd, Int.reduceSub, Int.reduceMul, Int.reduceNeg, Int.reduceToNat, Int.toNat_natCast, ↓reduceIte, reduceIte, Nat.reduceEqDiff, Nat.reduceSub, Nat.reduceMul, ne_eq, Int.zero_add, Int.add_zero, Int.sub_zero, Nat.add_zero, Int.ofNat_eq_natCast, tL_year_2, SL_trees, hn, e49]
      refine ⟨fun _ => fun _ => ⟨by omega, h _ (f.up _ _) ⟨fun t q ht hq => ?_, ?_, ?_, ?_⟩⟩, fun q => by omega⟩
      · have ht : (t : Int) < D 0 := by rw [q_d1_ne (by omega), q_gwD_ne (by omega)] at ht; exact ht
        rw [z_up_ne (by omega), r, q_d1_ne (by omega)]
        by_cases c : q = 0
        · subst c
          rw [if_pos (by omega)]
          rfl
        · rw [if_neg (by omega), q_gwD_ne (by omega)]
          exact tt.1 t q ht hq
      · rw [z_up_ne (by omega), r, if_neg (by omega), q_d1_ne (by omega), q_gwD_ne (by omega)]; exact tt.2.1
      · rw [z_up_eq, q_d1_eq]
      · rw [z_up_ne (by omega), r, if_neg (by omega), q_d1_ne (by omega), q_gwD_ne (by omega)]; exact tt.2.2.2
    | succ d ih =>
      intro i τ hi f r
      have hi2 : (i : Int) < D 0 := by omega
      have e0 : (6 * (i : Int)).toNat = 6 * i := by omega
      have e3 : (6 * (i : Int) + 3).toNat = 6 * i + 3 := by omega
      have e4 : (6 * (i : Int) + 4).toNat = 6 * i + 4 := by omega
      have e5 : (6 * (i : Int) + 5).toNat = 6 * i + 5 := by omega
      have r0 : τ k2 (6 * i) = D (6 + 6 * i + 0) := by rw [r, if_neg (by omega)]; exact tt.1 i 0 hi2 (by omega)
      have r3 : τ k2 (6 * i + 3) = D (6 + 6 * i + 3) := by rw [r, if_neg (by omega)]; exact tt.1 i 3 hi2 (by omega)
      have r4 : τ k2 (6 * i + 4) = D (6 + 6 * i + 4) := by rw [r, if_neg (by omega)]; exact tt.1 i 4 hi2 (by omega)
      have r5 : τ k2 (6 * i + 5) = D (6 + 6 * i + 5) := by rw [r, if_neg (by omega)]; exact tt.1 i 5 hi2 (by omega)
      have q := K.2.1 i hi2
      have ga := q_gwD_at (D := D) (n := 1) hi2
      rw [Int.one_mul] at ga
      have st : ∀ v, v = q_gwD D 1 (6 + 6 * i + 0) → ∀ j, z_up τ k2 (6 * i) v k2 j = if j % 6 = 0 ∧ j < 6 * (i + 1) then q_gwD D 1 (6 + j) else σ k2 j := by
        intro v hv j
        by_cases e : j = 6 * i
        · subst e
          rw [z_up_eq, hv, if_pos (by omega)]
          rfl
        · rw [z_up_ne (by omega), r]
          by_cases c : j % 6 = 0 ∧ j < 6 * i
          · rw [if_pos c, if_pos (by omega)]
          · rw [if_neg c, if_neg (by omega)]
      refine h2 _ _ _ ?_
      simp only [z_push, z_lpush, z_iload, z_lload, z_aload, z_istore, z_istoreP, z_lstore, z_astore, z_iinc, z_iincP, z_iadd, z_isub, z_imul, z_iaddW, z_isubW, z_imulW, z_idiv, z_irem, z_iand, z_ior, z_ixor, z_ishl, z_ishr, z_iushr, z_ineg, z_i2l, z_i2b, z_i2s, z_i2c, z_l2i, z_ladd, z_lsub, z_land, z_lor, z_lshl, z_lshr, z_lcmp, z_dup, z_pop, z_dup2, z_goto, z_tsw, z_cases, z_geti, z_getr, z_puti, z_putz, z_ald, z_iast, z_bast, z_zast, z_alen, z_acopy, z_mmax, z_mmin, z_mabs, z_mabsL, z_iret, z_zret, z_nret, z_lret, z_aret, z_vret, z_cat, z_xald, z_xlen, z_ldcs, z_strv, z_strc, z_gcs, z_gfm, z_sln, z_sald, z_ifeq, z_ifne, z_iflt, z_ifge, z_ifgt, z_ifle, z_iceq, z_icne, z_iclt, z_icge, z_icgt, z_icle, z_cs0, z_cs1, z_cs2, z_cs3, z_cs4, z_cs5, z_cs6, z_cs7, z_cv0, z_cv1, z_cv2, z_cv3, z_cv4, z_cv5, z_cv6, z_cv7, z_g0, z_s0, z_g1, z_s1, z_g2, z_s2, z_g3, z_s3, z_g4, z_s4, z_g5, z_s5, z_g6, z_s6, z_g7, z_s7, z_g8, z_s8, z_g9, z_s9, z_g10, z_s10, z_g11, z_s11, z_g12, z_s12, z_g13, z_s13, z_b0, z_b1, z_b0n, z_b1n, z_up_far1, z_up_far2, z_up_far3, z_up_far4, z_up_far5, z_up_far6, Classical.not_not, not_true_eq_false, z_in, z_inL, Int.cast_ofNat_Int, Nat.reduceLeDiff, List.length_cons, List.length_nil, Nat.reduceAdd, Nat.zero_add, Nat.le_refl, true_and, and_true, List.length, Nat.reduceLT, true_or, or_true, false_or, or_false, false_and, and_false, not_true_eq_false, not_false_eq_true, forall_const, false_implies, true_implies, Int.reduceEq, Int.reduceLT, Int.reduceLE, Int.reduceAdd, Int.reduceSub, Int.reduceMul, Int.reduceNeg, Int.reduceToNat, Int.toNat_natCast, ↓reduceIte, reduceIte, Nat.reduceEqDiff, Nat.reduceSub, Nat.reduceMul, ne_eq, Int.zero_add, Int.add_zero, Int.sub_zero, Nat.add_zero, Int.ofNat_eq_natCast, tL_year_2, SL_trees, SL_fit, hn, e0, e3, e4, e5, r0, r3, r4, r5]
      refine ⟨fun q => by omega, fun _ => ?_⟩
      by_cases c : D (6 + 6 * i + 4) = 0 ∧ D (6 + 6 * i + 5) = 0
      · rw [if_pos c] at ga
        have nx := ih (i + 1) _ (by omega) (f.up (6 * i) _) (st _ ga.symm)
        simp only [w_fit, Nat.add_zero] at nx q ⊢
        repeat' (first | (intro _) | (with_reducible assumption) | (refine And.intro ?_ ?_))
        all_goals first | omega | assumption | (refine z_fin nx ?_ rfl; first | rfl | omega | (split <;> omega) | (split <;> split <;> omega)) | skip
      · rw [if_neg c] at ga
        have nx := ih (i + 1) _ (by omega) (f.up (6 * i) _) (st _ ga.symm)
        simp only [w_fit, Nat.add_zero] at nx q ⊢
        repeat' (first | (intro _) | (with_reducible assumption) | (refine And.intro ?_ ?_))
        all_goals first | omega | assumption | (refine z_fin nx ?_ rfl; first | rfl | omega | (split <;> omega) | (split <;> split <;> omega)) | skip
  refine h0 _ _ _ ?_
  simp only [z_push, z_lpush, z_iload, z_lload, z_aload, z_istore, z_istoreP, z_lstore, z_astore, z_iinc, z_iincP, z_iadd, z_isub, z_imul, z_iaddW, z_isubW, z_imulW, z_idiv, z_irem, z_iand, z_ior, z_ixor, z_ishl, z_ishr, z_iushr, z_ineg, z_i2l, z_i2b, z_i2s, z_i2c, z_l2i, z_ladd, z_lsub, z_land, z_lor, z_lshl, z_lshr, z_lcmp, z_dup, z_pop, z_dup2, z_goto, z_tsw, z_cases, z_geti, z_getr, z_puti, z_putz, z_ald, z_iast, z_bast, z_zast, z_alen, z_acopy, z_mmax, z_mmin, z_mabs, z_mabsL, z_iret, z_zret, z_nret, z_lret, z_aret, z_vret, z_cat, z_xald, z_xlen, z_ldcs, z_strv, z_strc, z_gcs, z_gfm, z_sln, z_sald, z_ifeq, z_ifne, z_iflt, z_ifge, z_ifgt, z_ifle, z_iceq, z_icne, z_iclt, z_icge, z_icgt, z_icle, z_cs0, z_cs1, z_cs2, z_cs3, z_cs4, z_cs5, z_cs6, z_cs7, z_cv0, z_cv1, z_cv2, z_cv3, z_cv4, z_cv5, z_cv6, z_cv7, z_g0, z_s0, z_g1, z_s1, z_g2, z_s2, z_g3, z_s3, z_g4, z_s4, z_g5, z_s5, z_g6, z_s6, z_g7, z_s7, z_g8, z_s8, z_g9, z_s9, z_g10, z_s10, z_g11, z_s11, z_g12, z_s12, z_g13, z_s13, z_b0, z_b1, z_b0n, z_b1n, z_up_far1, z_up_far2, z_up_far3, z_up_far4, z_up_far5, z_up_far6, Classical.not_not, not_true_eq_false, z_in, z_inL, Int.cast_ofNat_Int, Nat.reduceLeDiff, List.length_cons, List.length_nil, Nat.reduceAdd, Nat.zero_add, Nat.le_refl, true_and, and_true, List.length, Nat.reduceLT, true_or, or_true, false_or, or_false, false_and, and_false, not_true_eq_false, not_false_eq_true, forall_const, false_implies, true_implies, Int.reduceEq, Int.reduceLT, Int.reduceLE, Int.reduceAdd, Int.reduceSub, Int.reduceMul, Int.reduceNeg, Int.reduceToNat, Int.toNat_natCast, ↓reduceIte, reduceIte, Nat.reduceEqDiff, Nat.reduceSub, Nat.reduceMul, ne_eq, Int.zero_add, Int.add_zero, Int.sub_zero, Nat.add_zero, Int.ofNat_eq_natCast, tL_year_0]
  exact lp n 0 σ (by omega) (fun _ _ => rfl) (fun j => by rw [if_neg (by omega)])
theorem dL_year_0 : decode cL_year 0 = .ok (.iconst 0, 1) := by decide +kernel
theorem dL_year_1 : decode cL_year 1 = .ok (.istore_n 2, 1) := by decide +kernel
theorem dL_year_2 : decode cL_year 2 = .ok (.iload_n 2, 1) := by decide +kernel
theorem dL_year_3 : decode cL_year 3 = .ok (.aload_n 0, 1) := by decide +kernel
theorem dL_year_4 : decode cL_year 4 = .ok (.invokestatic 27, 3) := by decide +kernel
theorem dL_year_7 : decode cL_year 7 = .ok (.if_icmp .ge 62, 3) := by decide +kernel
theorem dL_year_10 : decode cL_year 10 = .ok (.aload_n 1, 1) := by decide +kernel
theorem dL_year_11 : decode cL_year 11 = .ok (.bipush 6, 2) := by decide +kernel
theorem dL_year_13 : decode cL_year 13 = .ok (.iload_n 2, 1) := by decide +kernel
theorem dL_year_14 : decode cL_year 14 = .ok (.imul, 1) := by decide +kernel
theorem dL_year_15 : decode cL_year 15 = .ok (.aload_n 1, 1) := by decide +kernel
theorem dL_year_16 : decode cL_year 16 = .ok (.bipush 6, 2) := by decide +kernel
theorem dL_year_18 : decode cL_year 18 = .ok (.iload_n 2, 1) := by decide +kernel
theorem dL_year_19 : decode cL_year 19 = .ok (.imul, 1) := by decide +kernel
theorem dL_year_20 : decode cL_year 20 = .ok (.iconst 4, 1) := by decide +kernel
theorem dL_year_21 : decode cL_year 21 = .ok (.iadd, 1) := by decide +kernel
theorem dL_year_22 : decode cL_year 22 = .ok (.iaload, 1) := by decide +kernel
theorem dL_year_23 : decode cL_year 23 = .ok (.aload_n 1, 1) := by decide +kernel
theorem dL_year_24 : decode cL_year 24 = .ok (.bipush 6, 2) := by decide +kernel
theorem dL_year_26 : decode cL_year 26 = .ok (.iload_n 2, 1) := by decide +kernel
theorem dL_year_27 : decode cL_year 27 = .ok (.imul, 1) := by decide +kernel
theorem dL_year_28 : decode cL_year 28 = .ok (.iconst 5, 1) := by decide +kernel
theorem dL_year_29 : decode cL_year 29 = .ok (.iadd, 1) := by decide +kernel
theorem dL_year_30 : decode cL_year 30 = .ok (.iaload, 1) := by decide +kernel
theorem dL_year_31 : decode cL_year 31 = .ok (.iadd, 1) := by decide +kernel
theorem dL_year_32 : decode cL_year 32 = .ok (.ifCond .le 12, 3) := by decide +kernel
theorem dL_year_35 : decode cL_year 35 = .ok (.aload_n 1, 1) := by decide +kernel
theorem dL_year_36 : decode cL_year 36 = .ok (.bipush 6, 2) := by decide +kernel
theorem dL_year_38 : decode cL_year 38 = .ok (.iload_n 2, 1) := by decide +kernel
theorem dL_year_39 : decode cL_year 39 = .ok (.imul, 1) := by decide +kernel
theorem dL_year_40 : decode cL_year 40 = .ok (.iaload, 1) := by decide +kernel
theorem dL_year_41 : decode cL_year 41 = .ok (.goto 21, 3) := by decide +kernel
theorem dL_year_44 : decode cL_year 44 = .ok (.aload_n 1, 1) := by decide +kernel
theorem dL_year_45 : decode cL_year 45 = .ok (.bipush 6, 2) := by decide +kernel
theorem dL_year_47 : decode cL_year 47 = .ok (.iload_n 2, 1) := by decide +kernel
theorem dL_year_48 : decode cL_year 48 = .ok (.imul, 1) := by decide +kernel
theorem dL_year_49 : decode cL_year 49 = .ok (.iaload, 1) := by decide +kernel
theorem dL_year_50 : decode cL_year 50 = .ok (.aload_n 1, 1) := by decide +kernel
theorem dL_year_51 : decode cL_year 51 = .ok (.bipush 6, 2) := by decide +kernel
theorem dL_year_53 : decode cL_year 53 = .ok (.iload_n 2, 1) := by decide +kernel
theorem dL_year_54 : decode cL_year 54 = .ok (.imul, 1) := by decide +kernel
theorem dL_year_55 : decode cL_year 55 = .ok (.iconst 3, 1) := by decide +kernel
theorem dL_year_56 : decode cL_year 56 = .ok (.iadd, 1) := by decide +kernel
theorem dL_year_57 : decode cL_year 57 = .ok (.iaload, 1) := by decide +kernel
theorem dL_year_58 : decode cL_year 58 = .ok (.iadd, 1) := by decide +kernel
theorem dL_year_59 : decode cL_year 59 = .ok (.invokestatic 78, 3) := by decide +kernel
theorem dL_year_62 : decode cL_year 62 = .ok (.iastore, 1) := by decide +kernel
theorem dL_year_63 : decode cL_year 63 = .ok (.iinc 2 1, 3) := by decide +kernel
theorem dL_year_66 : decode cL_year 66 = .ok (.goto (-64), 3) := by decide +kernel
theorem dL_year_69 : decode cL_year 69 = .ok (.aload_n 1, 1) := by decide +kernel
theorem dL_year_70 : decode cL_year 70 = .ok (.bipush 49, 2) := by decide +kernel
theorem dL_year_72 : decode cL_year 72 = .ok (.dup2, 1) := by decide +kernel
theorem dL_year_73 : decode cL_year 73 = .ok (.iaload, 1) := by decide +kernel
theorem dL_year_74 : decode cL_year 74 = .ok (.iconst 1, 1) := by decide +kernel
theorem dL_year_75 : decode cL_year 75 = .ok (.iadd, 1) := by decide +kernel
theorem dL_year_76 : decode cL_year 76 = .ok (.iastore, 1) := by decide +kernel
theorem dL_year_77 : decode cL_year 77 = .ok (.return_, 1) := by decide +kernel
set_option maxRecDepth 100000 in
theorem rL_year_0 {zx : zX} {zn : Nat} {p : Program} {l : Launch} {e : Env} {s : State} {m : MethodId} {args : Array Value} {below : List Frame} {meth : Method} {c : Code} {D : va_G} {cA : Nat → ClassId} {ad : Nat → Nat} {Ret : zR} (C : z_Cx zx zn (z_A zn ad) 0 0 p { frames := 2, cells := 0, slots := 0, locals := 41 } s m args c cL_year yL_year.cls 3 D cA ad) (hr : meth.sig.returnType = none) (hlocks : meth.locks = false) : ∀ L st σ, tL_year_0 zx (z_X zx zn (z_A zn ad) 0 0 p l e { frames := 2, cells := 0, slots := 0, locals := 41 } s m args below meth c (MQ below (z_Qc zn D cA ad Ret) args s 0 0 (z_A zn ad)) 3 D cA ad true) Ret L st σ → z_X zx zn (z_A zn ad) 0 0 p l e { frames := 2, cells := 0, slots := 0, locals := 41 } s m args below meth c (MQ below (z_Qc zn D cA ad Ret) args s 0 0 (z_A zn ad)) 3 D cA ad true 0 L st σ := (s_iconst C dL_year_0 rfl ⟨by decide, by decide⟩ (s_istore_n C dL_year_1 (by decide) rfl rfl (fun _ _ _ h => h)))
set_option maxRecDepth 100000 in
theorem rL_year_2 {zx : zX} {zn : Nat} {p : Program} {l : Launch} {e : Env} {s : State} {m : MethodId} {args : Array Value} {below : List Frame} {meth : Method} {c : Code} {D : va_G} {cA : Nat → ClassId} {ad : Nat → Nat} {Ret : zR} (C : z_Cx zx zn (z_A zn ad) 0 0 p { frames := 2, cells := 0, slots := 0, locals := 41 } s m args c cL_year yL_year.cls 3 D cA ad) (hr : meth.sig.returnType = none) (hlocks : meth.locks = false) : ∀ L st σ, tL_year_2 zx (z_X zx zn (z_A zn ad) 0 0 p l e { frames := 2, cells := 0, slots := 0, locals := 41 } s m args below meth c (MQ below (z_Qc zn D cA ad Ret) args s 0 0 (z_A zn ad)) 3 D cA ad true) Ret L st σ → z_X zx zn (z_A zn ad) 0 0 p l e { frames := 2, cells := 0, slots := 0, locals := 41 } s m args below meth c (MQ below (z_Qc zn D cA ad Ret) args s 0 0 (z_A zn ad)) 3 D cA ad true 2 L st σ := (s_iload_n C dL_year_2 rfl (s_aload_n C dL_year_3 rfl (s_cs1 C dL_year_4 (okL_trees l) wd_548 wd_549 wd_16 wd_550 ⟨by decide, by decide, by decide +kernel⟩ ⟨by decide, by decide⟩ (s_icge C dL_year_7 (by decide) (s_aload_n C dL_year_69 rfl (s_bipush C dL_year_70 rfl ⟨by decide, by decide⟩ (s_dup2 C dL_year_72 (s_iald C dL_year_73 (s_iconst C dL_year_74 rfl ⟨by decide, by decide⟩ (s_iadd C dL_year_75 (s_iast C dL_year_76 (s_vret C dL_year_77 hr hlocks)))))))) (s_aload_n C dL_year_10 rfl (s_bipush C dL_year_11 rfl ⟨by decide, by decide⟩ (s_iload_n C dL_year_13 rfl (s_imul C dL_year_14 (s_aload_n C dL_year_15 rfl (s_bipush C dL_year_16 rfl ⟨by decide, by decide⟩ (s_iload_n C dL_year_18 rfl (s_imul C dL_year_19 (s_iconst C dL_year_20 rfl ⟨by decide, by decide⟩ (s_iadd C dL_year_21 (s_iald C dL_year_22 (s_aload_n C dL_year_23 rfl (s_bipush C dL_year_24 rfl ⟨by decide, by decide⟩ (s_iload_n C dL_year_26 rfl (s_imul C dL_year_27 (s_iconst C dL_year_28 rfl ⟨by decide, by decide⟩ (s_iadd C dL_year_29 (s_iald C dL_year_30 (s_iadd C dL_year_31 (s_ifle C dL_year_32 (by decide) (s_aload_n C dL_year_44 rfl (s_bipush C dL_year_45 rfl ⟨by decide, by decide⟩ (s_iload_n C dL_year_47 rfl (s_imul C dL_year_48 (s_iald C dL_year_49 (s_aload_n C dL_year_50 rfl (s_bipush C dL_year_51 rfl ⟨by decide, by decide⟩ (s_iload_n C dL_year_53 rfl (s_imul C dL_year_54 (s_iconst C dL_year_55 rfl ⟨by decide, by decide⟩ (s_iadd C dL_year_56 (s_iald C dL_year_57 (s_iadd C dL_year_58 (s_cs1 C dL_year_59 (okL_fit l) wd_668 wd_669 wd_16 wd_670 ⟨by decide, by decide, by decide +kernel⟩ ⟨by decide, by decide⟩ (s_iast C dL_year_62 (s_iinc C dL_year_63 (by decide) rfl (s_goto C dL_year_66 (by decide) (fun _ _ _ h => h)))))))))))))))))) (s_aload_n C dL_year_35 rfl (s_bipush C dL_year_36 rfl ⟨by decide, by decide⟩ (s_iload_n C dL_year_38 rfl (s_imul C dL_year_39 (s_iald C dL_year_40 (s_goto C dL_year_41 (by decide) (s_iast C dL_year_62 (s_iinc C dL_year_63 (by decide) rfl (s_goto C dL_year_66 (by decide) (fun _ _ _ h => h))))))))))))))))))))))))))))))))))
theorem okL_year {zx : zX} {zn : Nat} (l : Launch) : z_OK zx zn l yL_year cL_year 3 none 2 41 (SL_year zx) := by
  refine z_ok_of true (by decide +kernel) ?_ ?_
  · intro as σ Ret h
    obtain ⟨k1, k2, rfl⟩ := pL_year h
    exact ⟨Nat.le_of_ble_eq_true rfl, by simp⟩
  · intro p e s m args below meth c D cA ad Ret C hr hlocks as σ has hσ h
    obtain ⟨k1, k2, rfl⟩ := pL_year h
    exact vL_year (rL_year_0 C hr hlocks) (rL_year_2 C hr hlocks) k1 k2 σ (has _ (List.mem_of_getElem? (i := 0) rfl)).1 (has _ (List.mem_of_getElem? (i := 1) rfl)).1 hσ h
def w_enc (p r v : Int) : Int := (if p = 4 then 48 else p - 6) + 64 * r + 128 * (if r = 1 then v + 1000 else v)
def SL_undoes (zx : zX) : zS := fun as σ Ret => match as with
  | [.inr (.inr (100, 64, k)), .inl x] => ∃ D O h, q_Wok D O h ∧ D 0 ≤ 8 ∧ 1 ≤ D 5 ∧ x = w_enc (O (3 * (D 5 - 1).toNat)) (O (3 * (D 5 - 1).toNat + 1)) (O (3 * (D 5 - 1).toNat + 2)) ∧ w_t σ k D ∧ ∀ σ', w_ek k σ σ' → w_t σ' k (q_unD D O) → Ret none σ'
  | _ => False
def tL_undoes_0 (zx : zX) (X : Nat → zB) (Ret : zR) (L : zL) (st : List zV) (σ : zM) : Prop := (z_iload 1 (z_push 63 (z_iand (z_istore 2 (z_aload 0 (z_iload 2 (z_iload 1 (z_push 64 (z_iand (z_ifne (z_aload 0 (z_iload 2 (z_ald 0 (z_iload 1 (z_push 7 (z_ishr (z_iadd (z_push 1000 (z_isub (z_cs1 (SL_fit zx) (X 36))))))))))) (z_iload 1 (z_push 7 (z_ishr (z_goto (X 36))))))))))))))) L st σ
def tL_undoes_36 (zx : zX) (X : Nat → zB) (Ret : zR) (L : zL) (st : List zV) (σ : zM) : Prop := (z_iast (z_aload 0 (z_push 50 (z_dup2 (z_ald 0 (z_push 1 (z_isub (z_iast (z_vret Ret))))))))) L st σ
theorem pL_undoes {zx : zX} {as : List zV} {σ : zM} {Ret : zR} (h : (SL_undoes zx) as σ Ret) : ∃ (k1 : Nat) (x2 : Int), as = [.inr (.inr (100, 64, k1)), .inl x2] := by
  unfold SL_undoes at h
  split at h
  · exact ⟨_, _, rfl⟩
  · exact h.elim
set_option maxRecDepth 10000 in
set_option maxHeartbeats 4000000 in
theorem vL_undoes {zx : zX} {X : Nat → zB} {Ret : zR} (h0 : ∀ L st σ, tL_undoes_0 zx X Ret L st σ → X 0 L st σ) (h36 : ∀ L st σ, tL_undoes_36 zx X Ret L st σ → X 36 L st σ) (k1 : Nat) (x2 : Int) (σ : zM) (hk1 : z_kd k1 = (100, 64)) (hx2 : -2147483648 ≤ x2 ∧ x2 ≤ 2147483647) (hσ : z_okm σ) (h : (SL_undoes zx) [.inr (.inr (100, 64, k1)), .inl x2] σ Ret) : X 0 [some (.inr (.inr (100, 64, k1))), some (.inl x2), none] [] σ := by
  obtain ⟨D, O, hh, ⟨K, dn, -, -⟩, d8, d5, ex, tt, h⟩ := h
  obtain ⟨c, hc⟩ := z_nat (show 0 ≤ D 5 - 1 by omega)
  have b := dn c (by omega)
  have cD : (D 5 - 1).toNat = c := by omega
  rw [cD] at ex
  have un : ∀ (p : Nat) (v : Int) (σ' : zM), w_ek k1 σ σ' → (O (3 * c)).toNat = p → (p = 4 ∨ (6 ≤ p ∧ p < 54)) → v = (if O (3 * c + 1) = 1 then max 10 (min 999 (D p + O (3 * c + 2))) else O (3 * c + 2)) → (∀ j, σ' k1 j = if j = 50 then D 5 - 1 else if j = (if p = 4 then 48 else p - 6) then v else σ k1 j) → Ret none σ' := by
    intro p v σ' f e1 e2 e3 e4
    have eu : q_unD D O = q_d1 (q_d1 D p v) 5 (D 5 - 1) := by
      unfold q_unD
      rw [cD, e1, ← e3]
    refine h σ' f ?_
    rw [eu]
    have D0 : q_d1 (q_d1 D p v) 5 (D 5 - 1) 0 = D 0 := by rw [q_d1_ne (by omega), q_d1_ne (by omega)]
    refine ⟨fun t q ht hq => ?_, ?_, ?_, ?_⟩
    · rw [D0] at ht
      rw [e4, if_neg (by omega), q_d1_ne (by omega)]
      by_cases e : 6 + 6 * t + q = p
      · rw [← e, q_d1_eq, if_pos (by rw [if_neg (by omega)]; omega)]
      · rw [q_d1_ne e, if_neg (by split <;> omega)]
        exact tt.1 t q ht hq
    · rw [e4, if_neg (by omega), q_d1_ne (by omega)]
      by_cases e : p = 4
      · subst e
        rw [q_d1_eq, if_pos rfl, if_pos rfl]
      · rw [q_d1_ne (by omega), if_neg (by rw [if_neg e]; omega)]
        exact tt.2.1
    · rw [e4, if_neg (by omega), q_d1_ne (by omega), q_d1_ne (by omega), if_neg (by split <;> omega)]
      exact tt.2.2.1
    · rw [e4, if_pos rfl, q_d1_eq]
  have X36 : ∀ (p : Nat) (v : Int) (u : Option zV), (O (3 * c)).toNat = p → (p = 4 ∨ (6 ≤ p ∧ p < 54)) → v = (if O (3 * c + 1) = 1 then max 10 (min 999 (D p + O (3 * c + 2))) else O (3 * c + 2)) → X 36 [some (.inr (.inr (100, 64, k1))), some (.inl x2), u] [.inl v, .inl (((if p = 4 then 48 else p - 6 : Nat)) : Int), .inr (.inr (100, 64, k1))] σ := by
    intro p v u e1 e2 e3
    obtain ⟨pl, hpl⟩ : ∃ pl : Nat, pl = if p = 4 then 48 else p - 6 := ⟨_, rfl⟩
    have hp : pl ≤ 48 := by split at hpl <;> omega
    have z50 : z_up σ k1 pl v k1 50 = D 5 := by rw [z_up_ne (by omega)]; exact tt.2.2.2
    rw [← hpl]
    refine h36 _ _ _ ?_
    simp only [z_push, z_lpush, z_iload, z_lload, z_aload, z_istore, z_istoreP, z_lstore, z_astore, z_iinc, z_iincP, z_iadd, z_isub, z_imul, z_iaddW, z_isubW, z_imulW, z_idiv, z_irem, z_iand, z_ior, z_ixor, z_ishl, z_ishr, z_iushr, z_ineg, z_i2l, z_i2b, z_i2s, z_i2c, z_l2i, z_ladd, z_lsub, z_land, z_lor, z_lshl, z_lshr, z_lcmp, z_dup, z_pop, z_dup2, z_goto, z_tsw, z_cases, z_geti, z_getr, z_puti, z_putz, z_ald, z_iast, z_bast, z_zast, z_alen, z_acopy, z_mmax, z_mmin, z_mabs, z_mabsL, z_iret, z_zret, z_nret, z_lret, z_aret, z_vret, z_cat, z_xald, z_xlen, z_ldcs, z_strv, z_strc, z_gcs, z_gfm, z_sln, z_sald, z_ifeq, z_ifne, z_iflt, z_ifge, z_ifgt, z_ifle, z_iceq, z_icne, z_iclt, z_icge, z_icgt, z_icle, z_cs0, z_cs1, z_cs2, z_cs3, z_cs4, z_cs5, z_cs6, z_cs7, z_cv0, z_cv1, z_cv2, z_cv3, z_cv4, z_cv5, z_cv6, z_cv7, z_g0, z_s0, z_g1, z_s1, z_g2, z_s2, z_g3, z_s3, z_g4, z_s4, z_g5, z_s5, z_g6, z_s6, z_g7, z_s7, z_g8, z_s8, z_g9, z_s9, z_g10, z_s10, z_g11, z_s11, z_g12, z_s12, z_g13, z_s13, z_b0, z_b1, z_b0n, z_b1n, z_up_far1, z_up_far2, z_up_far3, z_up_far4, z_up_far5, z_up_far6, Classical.not_not, not_true_eq_false, z_in, z_inL, Int.cast_ofNat_Int, Nat.reduceLeDiff, List.length_cons, List.length_nil, Nat.reduceAdd, Nat.zero_add, Nat.le_refl, true_and, and_true, List.length, Nat.reduceLT, true_or, or_true, false_or, or_false, false_and, and_false, not_true_eq_false, not_false_eq_true, forall_const, false_implies, true_implies, Int.reduceEq, Int.reduceLT, Int.reduceLE, Int.reduceAdd, Int.reduceSub, Int.reduceMul, Int.reduceNeg, Int.reduceToNat, Int.toNat_natCast, ↓reduceIte, reduceIte, Nat.reduceEqDiff, Nat.reduceSub, Nat.reduceMul, ne_eq, Int.zero_add, Int.add_zero, Int.sub_zero, Nat.add_zero, Int.ofNat_eq_natCast, tL_undoes_36, z50]
    refine ⟨by omega, fun _ => ⟨by omega, un p v _ ((w_ek.up (w_ek.up (fun _ _ => rfl) _ _) _ _)) e1 e2 e3 (fun j => ?_)⟩⟩
    rw [← hpl]
    by_cases g : j = 50
    · subst g
      rw [z_up_eq, if_pos rfl]
    · rw [z_up_ne (by omega), if_neg g]
      by_cases g2 : j = pl
      · subst g2
        rw [z_up_eq, if_pos rfl]
      · rw [z_up_ne (by omega), if_neg g2]
  have key : ∀ (p : Nat), O (3 * c) = (p : Int) → (p = 4 ∨ (6 ≤ p ∧ p < 54)) → ((O (3 * c + 1) = 1 ∧ (-1000 ≤ O (3 * c + 2) ∧ O (3 * c + 2) ≤ 1000) ∧ 10 ≤ D p ∧ D p ≤ 999) ∨ (O (3 * c + 1) = 0 ∧ 0 ≤ O (3 * c + 2) ∧ O (3 * c + 2) ≤ 7)) → σ k1 (if p = 4 then 48 else p - 6) = D p → X 0 [some (.inr (.inr (100, 64, k1))), some (.inl x2), none] [] σ := by
    intro p hp p1 p2 p3
    have XX := X36 p
    obtain ⟨pl, hpl⟩ : ∃ pl : Nat, pl = if p = 4 then 48 else p - 6 := ⟨_, rfl⟩
    rw [← hpl] at p3 XX
    have ep : (if O (3 * c) = 4 then 48 else O (3 * c) - 6) = (pl : Int) := by
      rw [hpl, hp]
      split <;> split <;> omega
    have hl : pl ≤ 48 := by split at hpl <;> omega
    unfold w_enc at ex
    rw [ep] at ex
    have eO : (O (3 * c)).toNat = p := by omega
    rcases p2 with ⟨q1, q2, q3⟩ | ⟨q1, q2⟩
    · rw [q1, if_pos rfl] at ex
      have x0 : 0 ≤ x2 ∧ x2 ≤ 2147483647 := by omega
      have a1 : (Int32.ofInt x2 &&& Int32.ofInt 63).toInt = (pl : Int) := by rw [w_and63 x0]; omega
      have a2 : (Int32.ofInt x2 &&& Int32.ofInt 64).toInt = 64 := by rw [w_and64 x0]; omega
      have a3 : (Int32.ofInt x2 >>> (Int32.ofInt 7 &&& 31)).toInt = O (3 * c + 2) + 1000 := by rw [w_sar7 hx2]; omega
      have XX := XX _ (some (.inl (pl : Int))) eO p1 rfl
      rw [if_pos q1] at XX
      refine h0 _ _ _ ?_
      simp only [z_push, z_lpush, z_iload, z_lload, z_aload, z_istore, z_istoreP, z_lstore, z_astore, z_iinc, z_iincP, z_iadd, z_isub, z_imul, z_iaddW, z_isubW, z_imulW, z_idiv, z_irem, z_iand, z_ior, z_ixor, z_ishl, z_ishr, z_iushr, z_ineg, z_i2l, z_i2b, z_i2s, z_i2c, z_l2i, z_ladd, z_lsub, z_land, z_lor, z_lshl, z_lshr, z_lcmp, z_dup, z_pop, z_dup2, z_goto, z_tsw, z_cases, z_geti, z_getr, z_puti, z_putz, z_ald, z_iast, z_bast, z_zast, z_alen, z_acopy, z_mmax, z_mmin, z_mabs, z_mabsL, z_iret, z_zret, z_nret, z_lret, z_aret, z_vret, z_cat, z_xald, z_xlen, z_ldcs, z_strv, z_strc, z_gcs, z_gfm, z_sln, z_sald, z_ifeq, z_ifne, z_iflt, z_ifge, z_ifgt, z_ifle, z_iceq, z_icne, z_iclt, z_icge, z_icgt, z_icle, z_cs0, z_cs1, z_cs2, z_cs3, z_cs4, z_cs5, z_cs6, z_cs7, z_cv0, z_cv1, z_cv2, z_cv3, z_cv4, z_cv5, z_cv6, z_cv7, z_g0, z_s0, z_g1, z_s1, z_g2, z_s2, z_g3, z_s3, z_g4, z_s4, z_g5, z_s5, z_g6, z_s6, z_g7, z_s7, z_g8, z_s8, z_g9, z_s9, z_g10, z_s10, z_g11, z_s11, z_g12, z_s12, z_g13, z_s13, z_b0, z_b1, z_b0n, z_b1n, z_up_far1, z_up_far2, z_up_far3, z_up_far4, z_up_far5, z_up_far6, Classical.not_not, not_true_eq_false, z_in, z_inL, Int.cast_ofNat_Int, Nat.reduceLeDiff, List.length_cons, List.length_nil, Nat.reduceAdd, Nat.zero_add, Nat.le_refl, true_and, and_true, List.length, Nat.reduceLT, true_or, or_true, false_or, or_false, false_and, and_false, not_true_eq_false, not_false_eq_true, forall_const, false_implies, true_implies, Int.reduceEq, Int.reduceLT, Int.reduceLE, Int.reduceAdd, Int.reduceSub, Int.reduceMul, Int.reduceNeg, Int.reduceToNat, Int.toNat_natCast, ↓reduceIte, reduceIte, Nat.reduceEqDiff, Nat.reduceSub, Nat.reduceMul, ne_eq, Int.zero_add, Int.add_zero, Int.sub_zero, Nat.add_zero, Int.ofNat_eq_natCast, tL_undoes_0, SL_fit, a1, a2, a3, p3]
      rw [show D p + O (3 * c + 2) = D p + (O (3 * c + 2) + 1000) - 1000 by omega] at XX
      exact ⟨by omega, fun _ => ⟨by omega, by omega, XX⟩⟩
    · rw [q1, if_neg (by decide)] at ex
      have x0 : 0 ≤ x2 ∧ x2 ≤ 2147483647 := by omega
      have a1 : (Int32.ofInt x2 &&& Int32.ofInt 63).toInt = (pl : Int) := by rw [w_and63 x0]; omega
      have a2 : (Int32.ofInt x2 &&& Int32.ofInt 64).toInt = 0 := by rw [w_and64 x0]; omega
      have a3 : (Int32.ofInt x2 >>> (Int32.ofInt 7 &&& 31)).toInt = O (3 * c + 2) := by rw [w_sar7 hx2]; omega
      have XX := XX _ (some (.inl (pl : Int))) eO p1 rfl
      rw [if_neg (by omega)] at XX
      refine h0 _ _ _ ?_
      simp only [z_push, z_lpush, z_iload, z_lload, z_aload, z_istore, z_istoreP, z_lstore, z_astore, z_iinc, z_iincP, z_iadd, z_isub, z_imul, z_iaddW, z_isubW, z_imulW, z_idiv, z_irem, z_iand, z_ior, z_ixor, z_ishl, z_ishr, z_iushr, z_ineg, z_i2l, z_i2b, z_i2s, z_i2c, z_l2i, z_ladd, z_lsub, z_land, z_lor, z_lshl, z_lshr, z_lcmp, z_dup, z_pop, z_dup2, z_goto, z_tsw, z_cases, z_geti, z_getr, z_puti, z_putz, z_ald, z_iast, z_bast, z_zast, z_alen, z_acopy, z_mmax, z_mmin, z_mabs, z_mabsL, z_iret, z_zret, z_nret, z_lret, z_aret, z_vret, z_cat, z_xald, z_xlen, z_ldcs, z_strv, z_strc, z_gcs, z_gfm, z_sln, z_sald, z_ifeq, z_ifne, z_iflt, z_ifge, z_ifgt, z_ifle, z_iceq, z_icne, z_iclt, z_icge, z_icgt, z_icle, z_cs0, z_cs1, z_cs2, z_cs3, z_cs4, z_cs5, z_cs6, z_cs7, z_cv0, z_cv1, z_cv2, z_cv3, z_cv4, z_cv5, z_cv6, z_cv7, z_g0, z_s0, z_g1, z_s1, z_g2, z_s2, z_g3, z_s3, z_g4, z_s4, z_g5, z_s5, z_g6, z_s6, z_g7, z_s7, z_g8, z_s8, z_g9, z_s9, z_g10, z_s10, z_g11, z_s11, z_g12, z_s12, z_g13, z_s13, z_b0, z_b1, z_b0n, z_b1n, z_up_far1, z_up_far2, z_up_far3, z_up_far4, z_up_far5, z_up_far6, Classical.not_not, not_true_eq_false, z_in, z_inL, Int.cast_ofNat_Int, Nat.reduceLeDiff, List.length_cons, List.length_nil, Nat.reduceAdd, Nat.zero_add, Nat.le_refl, true_and, and_true, List.length, Nat.reduceLT, true_or, or_true, false_or, or_false, false_and, and_false, not_true_eq_false, not_false_eq_true, forall_const, false_implies, true_implies, Int.reduceEq, Int.reduceLT, Int.reduceLE, Int.reduceAdd, Int.reduceSub, Int.reduceMul, Int.reduceNeg, Int.reduceToNat, Int.toNat_natCast, ↓reduceIte, reduceIte, Nat.reduceEqDiff, Nat.reduceSub, Nat.reduceMul, ne_eq, Int.zero_add, Int.add_zero, Int.sub_zero, Nat.add_zero, Int.ofNat_eq_natCast, tL_undoes_0, SL_fit, a1, a2, a3, p3]
      exact XX
  rcases b with ⟨t, ht, b⟩ | ⟨b1, b2, b3, b4⟩
  · have q := K.2.1 t ht
    simp only [Nat.add_zero] at q
    have t0 := tt.1 t 0 ht (by omega)
    have t2 := tt.1 t 2 ht (by omega)
    have t4 := tt.1 t 4 ht (by omega)
    have t5 := tt.1 t 5 ht (by omega)
    rcases b with ⟨b1, b2, b3, b4⟩ | ⟨b1, b2, b3, b4⟩ | ⟨b1 | b1, b2, b3, b4⟩
    · exact key (6 + 6 * t) (by omega) (by omega) (Or.inl ⟨b2, ⟨b3, b4⟩, q.1⟩) (by rw [if_neg (by omega), show 6 + 6 * t - 6 = 6 * t + 0 by omega]; exact t0)
    · exact key (6 + 6 * t + 2) (by omega) (by omega) (Or.inr ⟨b2, b3, b4⟩) (by rw [if_neg (by omega), show 6 + 6 * t + 2 - 6 = 6 * t + 2 by omega]; exact t2)
    · exact key (6 + 6 * t + 4) (by omega) (by omega) (Or.inr ⟨b2, b3, by omega⟩) (by rw [if_neg (by omega), show 6 + 6 * t + 4 - 6 = 6 * t + 4 by omega]; exact t4)
    · exact key (6 + 6 * t + 5) (by omega) (by omega) (Or.inr ⟨b2, b3, by omega⟩) (by rw [if_neg (by omega), show 6 + 6 * t + 5 - 6 = 6 * t + 5 by omega]; exact t5)
  · exact key 4 (by omega) (by omega) (Or.inr ⟨b2, b3, by omega⟩) (by rw [if_pos rfl]; exact tt.2.1)
theorem dL_undoes_0 : decode cL_undoes 0 = .ok (.iload_n 1, 1) := by decide +kernel
theorem dL_undoes_1 : decode cL_undoes 1 = .ok (.bipush 63, 2) := by decide +kernel
theorem dL_undoes_3 : decode cL_undoes 3 = .ok (.iand, 1) := by decide +kernel
theorem dL_undoes_4 : decode cL_undoes 4 = .ok (.istore_n 2, 1) := by decide +kernel
theorem dL_undoes_5 : decode cL_undoes 5 = .ok (.aload_n 0, 1) := by decide +kernel
theorem dL_undoes_6 : decode cL_undoes 6 = .ok (.iload_n 2, 1) := by decide +kernel
theorem dL_undoes_7 : decode cL_undoes 7 = .ok (.iload_n 1, 1) := by decide +kernel
theorem dL_undoes_8 : decode cL_undoes 8 = .ok (.bipush 64, 2) := by decide +kernel
theorem dL_undoes_10 : decode cL_undoes 10 = .ok (.iand, 1) := by decide +kernel
theorem dL_undoes_11 : decode cL_undoes 11 = .ok (.ifCond .ne 10, 3) := by decide +kernel
theorem dL_undoes_14 : decode cL_undoes 14 = .ok (.iload_n 1, 1) := by decide +kernel
theorem dL_undoes_15 : decode cL_undoes 15 = .ok (.bipush 7, 2) := by decide +kernel
theorem dL_undoes_17 : decode cL_undoes 17 = .ok (.ishr, 1) := by decide +kernel
theorem dL_undoes_18 : decode cL_undoes 18 = .ok (.goto 18, 3) := by decide +kernel
theorem dL_undoes_21 : decode cL_undoes 21 = .ok (.aload_n 0, 1) := by decide +kernel
theorem dL_undoes_22 : decode cL_undoes 22 = .ok (.iload_n 2, 1) := by decide +kernel
theorem dL_undoes_23 : decode cL_undoes 23 = .ok (.iaload, 1) := by decide +kernel
theorem dL_undoes_24 : decode cL_undoes 24 = .ok (.iload_n 1, 1) := by decide +kernel
theorem dL_undoes_25 : decode cL_undoes 25 = .ok (.bipush 7, 2) := by decide +kernel
theorem dL_undoes_27 : decode cL_undoes 27 = .ok (.ishr, 1) := by decide +kernel
theorem dL_undoes_28 : decode cL_undoes 28 = .ok (.iadd, 1) := by decide +kernel
theorem dL_undoes_29 : decode cL_undoes 29 = .ok (.sipush 1000, 3) := by decide +kernel
theorem dL_undoes_32 : decode cL_undoes 32 = .ok (.isub, 1) := by decide +kernel
theorem dL_undoes_33 : decode cL_undoes 33 = .ok (.invokestatic 78, 3) := by decide +kernel
theorem dL_undoes_36 : decode cL_undoes 36 = .ok (.iastore, 1) := by decide +kernel
theorem dL_undoes_37 : decode cL_undoes 37 = .ok (.aload_n 0, 1) := by decide +kernel
theorem dL_undoes_38 : decode cL_undoes 38 = .ok (.bipush 50, 2) := by decide +kernel
theorem dL_undoes_40 : decode cL_undoes 40 = .ok (.dup2, 1) := by decide +kernel
theorem dL_undoes_41 : decode cL_undoes 41 = .ok (.iaload, 1) := by decide +kernel
theorem dL_undoes_42 : decode cL_undoes 42 = .ok (.iconst 1, 1) := by decide +kernel
theorem dL_undoes_43 : decode cL_undoes 43 = .ok (.isub, 1) := by decide +kernel
theorem dL_undoes_44 : decode cL_undoes 44 = .ok (.iastore, 1) := by decide +kernel
theorem dL_undoes_45 : decode cL_undoes 45 = .ok (.return_, 1) := by decide +kernel
set_option maxRecDepth 100000 in
theorem rL_undoes_0 {zx : zX} {zn : Nat} {p : Program} {l : Launch} {e : Env} {s : State} {m : MethodId} {args : Array Value} {below : List Frame} {meth : Method} {c : Code} {D : va_G} {cA : Nat → ClassId} {ad : Nat → Nat} {Ret : zR} (C : z_Cx zx zn (z_A zn ad) 0 0 p { frames := 1, cells := 0, slots := 0, locals := 20 } s m args c cL_undoes yL_undoes.cls 3 D cA ad) (hr : meth.sig.returnType = none) (hlocks : meth.locks = false) : ∀ L st σ, tL_undoes_0 zx (z_X zx zn (z_A zn ad) 0 0 p l e { frames := 1, cells := 0, slots := 0, locals := 20 } s m args below meth c (MQ below (z_Qc zn D cA ad Ret) args s 0 0 (z_A zn ad)) 3 D cA ad true) Ret L st σ → z_X zx zn (z_A zn ad) 0 0 p l e { frames := 1, cells := 0, slots := 0, locals := 20 } s m args below meth c (MQ below (z_Qc zn D cA ad Ret) args s 0 0 (z_A zn ad)) 3 D cA ad true 0 L st σ := (s_iload_n C dL_undoes_0 rfl (s_bipush C dL_undoes_1 rfl ⟨by decide, by decide⟩ (s_iand C dL_undoes_3 (s_istore_n C dL_undoes_4 (by decide) rfl rfl (s_aload_n C dL_undoes_5 rfl (s_iload_n C dL_undoes_6 rfl (s_iload_n C dL_undoes_7 rfl (s_bipush C dL_undoes_8 rfl ⟨by decide, by decide⟩ (s_iand C dL_undoes_10 (s_ifne C dL_undoes_11 (by decide) (s_aload_n C dL_undoes_21 rfl (s_iload_n C dL_undoes_22 rfl (s_iald C dL_undoes_23 (s_iload_n C dL_undoes_24 rfl (s_bipush C dL_undoes_25 rfl ⟨by decide, by decide⟩ (s_ishr C dL_undoes_27 (s_iadd C dL_undoes_28 (s_sipush C dL_undoes_29 rfl ⟨by decide, by decide⟩ (s_isub C dL_undoes_32 (s_cs1 C dL_undoes_33 (okL_fit l) wd_668 wd_669 wd_16 wd_670 ⟨by decide, by decide, by decide +kernel⟩ ⟨by decide, by decide⟩ (fun _ _ _ h => h))))))))))) (s_iload_n C dL_undoes_14 rfl (s_bipush C dL_undoes_15 rfl ⟨by decide, by decide⟩ (s_ishr C dL_undoes_17 (s_goto C dL_undoes_18 (by decide) (fun _ _ _ h => h)))))))))))))))
set_option maxRecDepth 100000 in
theorem rL_undoes_36 {zx : zX} {zn : Nat} {p : Program} {l : Launch} {e : Env} {s : State} {m : MethodId} {args : Array Value} {below : List Frame} {meth : Method} {c : Code} {D : va_G} {cA : Nat → ClassId} {ad : Nat → Nat} {Ret : zR} (C : z_Cx zx zn (z_A zn ad) 0 0 p { frames := 1, cells := 0, slots := 0, locals := 20 } s m args c cL_undoes yL_undoes.cls 3 D cA ad) (hr : meth.sig.returnType = none) (hlocks : meth.locks = false) : ∀ L st σ, tL_undoes_36 zx (z_X zx zn (z_A zn ad) 0 0 p l e { frames := 1, cells := 0, slots := 0, locals := 20 } s m args below meth c (MQ below (z_Qc zn D cA ad Ret) args s 0 0 (z_A zn ad)) 3 D cA ad true) Ret L st σ → z_X zx zn (z_A zn ad) 0 0 p l e { frames := 1, cells := 0, slots := 0, locals := 20 } s m args below meth c (MQ below (z_Qc zn D cA ad Ret) args s 0 0 (z_A zn ad)) 3 D cA ad true 36 L st σ := (s_iast C dL_undoes_36 (s_aload_n C dL_undoes_37 rfl (s_bipush C dL_undoes_38 rfl ⟨by decide, by decide⟩ (s_dup2 C dL_undoes_40 (s_iald C dL_undoes_41 (s_iconst C dL_undoes_42 rfl ⟨by decide, by decide⟩ (s_isub C dL_undoes_43 (s_iast C dL_undoes_44 (s_vret C dL_undoes_45 hr hlocks)))))))))
theorem okL_undoes {zx : zX} {zn : Nat} (l : Launch) : z_OK zx zn l yL_undoes cL_undoes 3 none 1 20 (SL_undoes zx) := by
  refine z_ok_of true (by decide +kernel) ?_ ?_
  · intro as σ Ret h
    obtain ⟨k1, x2, rfl⟩ := pL_undoes h
    exact ⟨Nat.le_of_ble_eq_true rfl, by simp⟩
  · intro p e s m args below meth c D cA ad Ret C hr hlocks as σ has hσ h
    obtain ⟨k1, x2, rfl⟩ := pL_undoes h
    exact vL_undoes (rL_undoes_0 C hr hlocks) (rL_undoes_36 C hr hlocks) k1 x2 σ (has _ (List.mem_of_getElem? (i := 0) rfl)).1 (has _ (List.mem_of_getElem? (i := 1) rfl)) hσ h
