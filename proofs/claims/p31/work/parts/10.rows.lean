/-! Rows: a row r lies in places of the cells k+1 (there), k+2 (lanes), k+3 (sizes), k+4 (items) behind its object k. -/
def q_nar (l v : Int) : Int := if l = 0 then z_wr8 v else if l = 1 then z_wr16 v else v
def SX5_countThere : zS := fun as σ Ret => match as with
  | [.inr (.inr (5, 0, k))] => Ret (some (.inl (z_sumf (fun r => if σ (k + 1) r = 0 then 0 else 1) 8))) σ
  | _ => False
theorem z_sumf_01 (f : Nat → Int) (h : ∀ i, f i = 0 ∨ f i = 1) : ∀ n : Nat, 0 ≤ z_sumf f n ∧ z_sumf f n ≤ n
  | 0 => ⟨Int.le_refl _, Int.le_refl _⟩
  | n + 1 => by
    have := z_sumf_01 f h n
    have := h n
    simp only [z_sumf]
    omega
def tX5_countThere_0 (X : Nat → zB) (Ret : zR) (L : zL) (st : List zV) (σ : zM) : Prop := (z_push 0 (z_istore 1 (z_push 0 (z_istore 2 (X 4))))) L st σ
def tX5_countThere_4 (X : Nat → zB) (Ret : zR) (L : zL) (st : List zV) (σ : zM) : Prop := (z_iload 2 (z_push 8 (z_icge (z_iload 1 (z_iret Ret)) (z_iload 1 (z_aload 0 (z_getr 5 1 102 8 (z_iload 2 (z_ald 2 (z_ifeq (z_push 0 (z_iadd (z_istore 1 (z_iinc 2 1 (z_goto (X 4)))))) (z_push 1 (z_goto (z_iadd (z_istore 1 (z_iinc 2 1 (z_goto (X 4)))))))))))))))) L st σ
theorem pX5_countThere {as : List zV} {σ : zM} {Ret : zR} (h : SX5_countThere as σ Ret) : ∃ (k0 : Nat), as = [.inr (.inr (5, 0, k0))] := by
  unfold SX5_countThere at h
  split at h
  · exact ⟨_, rfl⟩
  · exact h.elim
set_option maxRecDepth 10000 in
set_option maxHeartbeats 4000000 in
theorem vX5_countThere {X : Nat → zB} {Ret : zR} (h0 : ∀ L st σ, tX5_countThere_0 X Ret L st σ → X 0 L st σ) (h4 : ∀ L st σ, tX5_countThere_4 X Ret L st σ → X 4 L st σ) (k0 : Nat) (σ : zM) (hk0 : z_kd k0 = (5, 0)) (hσ : z_okm σ) (h : SX5_countThere [.inr (.inr (5, 0, k0))] σ Ret) : X 0 [some (.inr (.inr (5, 0, k0))), none, none] [] σ := by
  generalize hf : (fun r : Nat => if σ (k0 + 1) r = 0 then (0 : Int) else 1) = f
  have h : Ret (some (.inl (z_sumf f 8))) σ := by rw [← hf]; exact h
  have fe : ∀ r, f r = if σ (k0 + 1) r = 0 then (0 : Int) else 1 := fun r => by rw [← hf]
  have hb := z_sumf_01 f (fun i => by rw [fe]; split <;> simp)
  have loop : ∀ (d r : Nat), r + d = 8 → X 4 [some (.inr (.inr (5, 0, k0))), some (.inl (z_sumf f r)), some (.inl (r : Int))] [] σ := by
    intro d
    induction d with
    | zero =>
      intro r hr
      refine h4 _ _ _ ?_
      simp only [z_push, z_lpush, z_iload, z_lload, z_aload, z_istore, z_istoreP, z_lstore, z_astore, z_iinc, z_iincP, z_iadd, z_isub, z_imul, z_iaddW, z_isubW, z_imulW, z_idiv, z_irem, z_iand, z_ior, z_ixor, z_ishl, z_ishr, z_iushr, z_ineg, z_i2l, z_i2b, z_i2s, z_i2c, z_l2i, z_ladd, z_lsub, z_land, z_lor, z_lshl, z_lshr, z_lcmp, z_dup, z_pop, z_dup2, z_goto, z_tsw, z_cases, z_geti, z_getr, z_puti, z_putz, z_ald, z_iast, z_bast, z_zast, z_alen, z_acopy, z_mmax, z_mmin, z_mabs, z_mabsL, z_iret, z_zret, z_nret, z_lret, z_aret, z_vret, z_cat, z_xald, z_xlen, z_ldcs, z_strv, z_strc, z_gcs, z_gfm, z_sln, z_sald, z_ifeq, z_ifne, z_iflt, z_ifge, z_ifgt, z_ifle, z_iceq, z_icne, z_iclt, z_icge, z_icgt, z_icle, z_cs0, z_cs1, z_cs2, z_cs3, z_cs4, z_cs5, z_cs6, z_cs7, z_cv0, z_cv1, z_cv2, z_cv3, z_cv4, z_cv5, z_cv6, z_cv7, z_g0, z_s0, z_g1, z_s1, z_g2, z_s2, z_g3, z_s3, z_g4, z_s4, z_g5, z_s5, z_g6, z_s6, z_g7, z_s7, z_g8, z_s8, z_g9, z_s9, z_g10, z_s10, z_g11, z_s11, z_g12, z_s12, z_g13, z_s13, z_b0, z_b1, z_b0n, z_b1n, z_up_far1, z_up_far2, z_up_far3, z_up_far4, z_up_far5, z_up_far6, Classical.not_not, not_true_eq_false, z_in, z_inL, Int.cast_ofNat_Int, Nat.reduceLeDiff, List.length_cons, List.length_nil, Nat.reduceAdd, Nat.zero_add, Nat.le_refl, true_and, and_true, List.length, Nat.reduceLT, true_or, or_true, false_or, or_false, false_and, and_false, not_true_eq_false, not_false_eq_true, forall_const, false_implies, true_implies, Int.reduceEq, Int.reduceLT, Int.reduceLE, Int.reduceAdd, Int.reduceSub, Int.reduceMul, Int.reduceNeg, Int.reduceToNat, Int.toNat_natCast, ↓reduceIte, reduceIte, Nat.reduceEqDiff, Nat.reduceSub, Nat.reduceMul, ne_eq, Int.zero_add, Int.add_zero, Int.sub_zero, Nat.add_zero, Int.ofNat_eq_natCast, tX5_countThere_4]
      have e : r = 8 := by omega
      subst e
      repeat' (first | (intro _) | (with_reducible assumption) | (refine And.intro ?_ ?_))
      all_goals first | omega | assumption | (refine z_fin h ?_ rfl; first | rfl | omega | (split <;> omega) | (split <;> split <;> omega)) | skip
    | succ d ih =>
      intro r hr
      have hb1 := hb r
      have e1 := ih (r + 1) (by omega)
      simp only [z_sumf, fe] at e1
      refine h4 _ _ _ ?_
      simp only [z_push, z_lpush, z_iload, z_lload, z_aload, z_istore, z_istoreP, z_lstore, z_astore, z_iinc, z_iincP, z_iadd, z_isub, z_imul, z_iaddW, z_isubW, z_imulW, z_idiv, z_irem, z_iand, z_ior, z_ixor, z_ishl, z_ishr, z_iushr, z_ineg, z_i2l, z_i2b, z_i2s, z_i2c, z_l2i, z_ladd, z_lsub, z_land, z_lor, z_lshl, z_lshr, z_lcmp, z_dup, z_pop, z_dup2, z_goto, z_tsw, z_cases, z_geti, z_getr, z_puti, z_putz, z_ald, z_iast, z_bast, z_zast, z_alen, z_acopy, z_mmax, z_mmin, z_mabs, z_mabsL, z_iret, z_zret, z_nret, z_lret, z_aret, z_vret, z_cat, z_xald, z_xlen, z_ldcs, z_strv, z_strc, z_gcs, z_gfm, z_sln, z_sald, z_ifeq, z_ifne, z_iflt, z_ifge, z_ifgt, z_ifle, z_iceq, z_icne, z_iclt, z_icge, z_icgt, z_icle, z_cs0, z_cs1, z_cs2, z_cs3, z_cs4, z_cs5, z_cs6, z_cs7, z_cv0, z_cv1, z_cv2, z_cv3, z_cv4, z_cv5, z_cv6, z_cv7, z_g0, z_s0, z_g1, z_s1, z_g2, z_s2, z_g3, z_s3, z_g4, z_s4, z_g5, z_s5, z_g6, z_s6, z_g7, z_s7, z_g8, z_s8, z_g9, z_s9, z_g10, z_s10, z_g11, z_s11, z_g12, z_s12, z_g13, z_s13, z_b0, z_b1, z_b0n, z_b1n, z_up_far1, z_up_far2, z_up_far3, z_up_far4, z_up_far5, z_up_far6, Classical.not_not, not_true_eq_false, z_in, z_inL, Int.cast_ofNat_Int, Nat.reduceLeDiff, List.length_cons, List.length_nil, Nat.reduceAdd, Nat.zero_add, Nat.le_refl, true_and, and_true, List.length, Nat.reduceLT, true_or, or_true, false_or, or_false, false_and, and_false, not_true_eq_false, not_false_eq_true, forall_const, false_implies, true_implies, Int.reduceEq, Int.reduceLT, Int.reduceLE, Int.reduceAdd, Int.reduceSub, Int.reduceMul, Int.reduceNeg, Int.reduceToNat, Int.toNat_natCast, ↓reduceIte, reduceIte, Nat.reduceEqDiff, Nat.reduceSub, Nat.reduceMul, ne_eq, Int.zero_add, Int.add_zero, Int.sub_zero, Nat.add_zero, Int.ofNat_eq_natCast, tX5_countThere_4]
      repeat' (first | (intro _) | (with_reducible assumption) | (refine And.intro ?_ ?_))
      all_goals first | omega | assumption | (refine z_fin h ?_ rfl; first | rfl | omega | (split <;> omega) | (split <;> split <;> omega)) | skip
      all_goals
        rename_i q
        simp only [q, if_true, if_false, not_false_eq_true, Int.add_zero] at e1
        exact e1
  refine h0 _ _ _ ?_
  simp only [z_push, z_lpush, z_iload, z_lload, z_aload, z_istore, z_istoreP, z_lstore, z_astore, z_iinc, z_iincP, z_iadd, z_isub, z_imul, z_iaddW, z_isubW, z_imulW, z_idiv, z_irem, z_iand, z_ior, z_ixor, z_ishl, z_ishr, z_iushr, z_ineg, z_i2l, z_i2b, z_i2s, z_i2c, z_l2i, z_ladd, z_lsub, z_land, z_lor, z_lshl, z_lshr, z_lcmp, z_dup, z_pop, z_dup2, z_goto, z_tsw, z_cases, z_geti, z_getr, z_puti, z_putz, z_ald, z_iast, z_bast, z_zast, z_alen, z_acopy, z_mmax, z_mmin, z_mabs, z_mabsL, z_iret, z_zret, z_nret, z_lret, z_aret, z_vret, z_cat, z_xald, z_xlen, z_ldcs, z_strv, z_strc, z_gcs, z_gfm, z_sln, z_sald, z_ifeq, z_ifne, z_iflt, z_ifge, z_ifgt, z_ifle, z_iceq, z_icne, z_iclt, z_icge, z_icgt, z_icle, z_cs0, z_cs1, z_cs2, z_cs3, z_cs4, z_cs5, z_cs6, z_cs7, z_cv0, z_cv1, z_cv2, z_cv3, z_cv4, z_cv5, z_cv6, z_cv7, z_g0, z_s0, z_g1, z_s1, z_g2, z_s2, z_g3, z_s3, z_g4, z_s4, z_g5, z_s5, z_g6, z_s6, z_g7, z_s7, z_g8, z_s8, z_g9, z_s9, z_g10, z_s10, z_g11, z_s11, z_g12, z_s12, z_g13, z_s13, z_b0, z_b1, z_b0n, z_b1n, z_up_far1, z_up_far2, z_up_far3, z_up_far4, z_up_far5, z_up_far6, Classical.not_not, not_true_eq_false, z_in, z_inL, Int.cast_ofNat_Int, Nat.reduceLeDiff, List.length_cons, List.length_nil, Nat.reduceAdd, Nat.zero_add, Nat.le_refl, true_and, and_true, List.length, Nat.reduceLT, true_or, or_true, false_or, or_false, false_and, and_false, not_true_eq_false, not_false_eq_true, forall_const, false_implies, true_implies, Int.reduceEq, Int.reduceLT, Int.reduceLE, Int.reduceAdd, Int.reduceSub, Int.reduceMul, Int.reduceNeg, Int.reduceToNat, Int.toNat_natCast, ↓reduceIte, reduceIte, Nat.reduceEqDiff, Nat.reduceSub, Nat.reduceMul, ne_eq, Int.zero_add, Int.add_zero, Int.sub_zero, Nat.add_zero, Int.ofNat_eq_natCast, tX5_countThere_0]
  exact loop 8 0 (by omega)
theorem dX5_countThere_0 : decode cX5_countThere 0 = .ok (.iconst 0, 1) := by decide +kernel
theorem dX5_countThere_1 : decode cX5_countThere 1 = .ok (.istore_n 1, 1) := by decide +kernel
theorem dX5_countThere_2 : decode cX5_countThere 2 = .ok (.iconst 0, 1) := by decide +kernel
theorem dX5_countThere_3 : decode cX5_countThere 3 = .ok (.istore_n 2, 1) := by decide +kernel
theorem dX5_countThere_4 : decode cX5_countThere 4 = .ok (.iload_n 2, 1) := by decide +kernel
theorem dX5_countThere_5 : decode cX5_countThere 5 = .ok (.bipush 8, 2) := by decide +kernel
theorem dX5_countThere_7 : decode cX5_countThere 7 = .ok (.if_icmp .ge 26, 3) := by decide +kernel
theorem dX5_countThere_10 : decode cX5_countThere 10 = .ok (.iload_n 1, 1) := by decide +kernel
theorem dX5_countThere_11 : decode cX5_countThere 11 = .ok (.aload_n 0, 1) := by decide +kernel
theorem dX5_countThere_12 : decode cX5_countThere 12 = .ok (.getfield 9, 3) := by decide +kernel
theorem dX5_countThere_15 : decode cX5_countThere 15 = .ok (.iload_n 2, 1) := by decide +kernel
theorem dX5_countThere_16 : decode cX5_countThere 16 = .ok (.baload, 1) := by decide +kernel
theorem dX5_countThere_17 : decode cX5_countThere 17 = .ok (.ifCond .eq 7, 3) := by decide +kernel
theorem dX5_countThere_20 : decode cX5_countThere 20 = .ok (.iconst 1, 1) := by decide +kernel
theorem dX5_countThere_21 : decode cX5_countThere 21 = .ok (.goto 4, 3) := by decide +kernel
theorem dX5_countThere_24 : decode cX5_countThere 24 = .ok (.iconst 0, 1) := by decide +kernel
theorem dX5_countThere_25 : decode cX5_countThere 25 = .ok (.iadd, 1) := by decide +kernel
theorem dX5_countThere_26 : decode cX5_countThere 26 = .ok (.istore_n 1, 1) := by decide +kernel
theorem dX5_countThere_27 : decode cX5_countThere 27 = .ok (.iinc 2 1, 3) := by decide +kernel
theorem dX5_countThere_30 : decode cX5_countThere 30 = .ok (.goto (-26), 3) := by decide +kernel
theorem dX5_countThere_33 : decode cX5_countThere 33 = .ok (.iload_n 1, 1) := by decide +kernel
theorem dX5_countThere_34 : decode cX5_countThere 34 = .ok (.ireturn, 1) := by decide +kernel
set_option maxRecDepth 100000 in
theorem rX5_countThere_0 {zx : zX} {zn : Nat} {p : Program} {l : Launch} {e : Env} {s : State} {m : MethodId} {args : Array Value} {below : List Frame} {meth : Method} {c : Code} {D : va_G} {cA : Nat → ClassId} {ad : Nat → Nat} {Ret : zR} (C : z_Cx zx zn (z_A zn ad) 0 0 p { frames := 0, cells := 0, slots := 0, locals := 0 } s m args c cX5_countThere yX5_countThere.cls 3 D cA ad) (hr : meth.sig.returnType = (some .int)) (hlocks : meth.locks = false) : ∀ L st σ, tX5_countThere_0 (z_X zx zn (z_A zn ad) 0 0 p l e { frames := 0, cells := 0, slots := 0, locals := 0 } s m args below meth c (MQ below (z_Qc zn D cA ad Ret) args s 0 0 (z_A zn ad)) 3 D cA ad true) Ret L st σ → z_X zx zn (z_A zn ad) 0 0 p l e { frames := 0, cells := 0, slots := 0, locals := 0 } s m args below meth c (MQ below (z_Qc zn D cA ad Ret) args s 0 0 (z_A zn ad)) 3 D cA ad true 0 L st σ := (s_iconst C dX5_countThere_0 rfl ⟨by decide, by decide⟩ (s_istore_n C dX5_countThere_1 (by decide) rfl rfl (s_iconst C dX5_countThere_2 rfl ⟨by decide, by decide⟩ (s_istore_n C dX5_countThere_3 (by decide) rfl rfl (fun _ _ _ h => h)))))
set_option maxRecDepth 100000 in
theorem rX5_countThere_4 {zx : zX} {zn : Nat} {p : Program} {l : Launch} {e : Env} {s : State} {m : MethodId} {args : Array Value} {below : List Frame} {meth : Method} {c : Code} {D : va_G} {cA : Nat → ClassId} {ad : Nat → Nat} {Ret : zR} (C : z_Cx zx zn (z_A zn ad) 0 0 p { frames := 0, cells := 0, slots := 0, locals := 0 } s m args c cX5_countThere yX5_countThere.cls 3 D cA ad) (hr : meth.sig.returnType = (some .int)) (hlocks : meth.locks = false) : ∀ L st σ, tX5_countThere_4 (z_X zx zn (z_A zn ad) 0 0 p l e { frames := 0, cells := 0, slots := 0, locals := 0 } s m args below meth c (MQ below (z_Qc zn D cA ad Ret) args s 0 0 (z_A zn ad)) 3 D cA ad true) Ret L st σ → z_X zx zn (z_A zn ad) 0 0 p l e { frames := 0, cells := 0, slots := 0, locals := 0 } s m args below meth c (MQ below (z_Qc zn D cA ad Ret) args s 0 0 (z_A zn ad)) 3 D cA ad true 4 L st σ := (s_iload_n C dX5_countThere_4 rfl (s_bipush C dX5_countThere_5 rfl ⟨by decide, by decide⟩ (s_icge C dX5_countThere_7 (by decide) (s_iload_n C dX5_countThere_33 rfl (s_iret C dX5_countThere_34 hr hlocks)) (s_iload_n C dX5_countThere_10 rfl (s_aload_n C dX5_countThere_11 rfl (s_getr C dX5_countThere_12 (j := 0) cls_X5 (by decide) rfl (by decide) (by decide) (by decide +kernel) wd_79 (s_iload_n C dX5_countThere_15 rfl (s_zald C dX5_countThere_16 (s_ifeq C dX5_countThere_17 (by decide) (s_iconst C dX5_countThere_24 rfl ⟨by decide, by decide⟩ (s_iadd C dX5_countThere_25 (s_istore_n C dX5_countThere_26 (by decide) rfl rfl (s_iinc C dX5_countThere_27 (by decide) rfl (s_goto C dX5_countThere_30 (by decide) (fun _ _ _ h => h)))))) (s_iconst C dX5_countThere_20 rfl ⟨by decide, by decide⟩ (s_goto C dX5_countThere_21 (by decide) (s_iadd C dX5_countThere_25 (s_istore_n C dX5_countThere_26 (by decide) rfl rfl (s_iinc C dX5_countThere_27 (by decide) rfl (s_goto C dX5_countThere_30 (by decide) (fun _ _ _ h => h))))))))))))))))
theorem okX5_countThere {zx : zX} {zn : Nat} (l : Launch) : z_OK zx zn l yX5_countThere cX5_countThere 3 (some .int) 0 0 SX5_countThere := by
  refine z_ok_of true (by decide +kernel) ?_ ?_
  · intro as σ Ret h
    obtain ⟨k0, rfl⟩ := pX5_countThere h
    exact ⟨Nat.le_of_ble_eq_true rfl, by simp⟩
  · intro p e s m args below meth c D cA ad Ret C hr hlocks as σ has hσ h
    obtain ⟨k0, rfl⟩ := pX5_countThere h
    exact vX5_countThere (rX5_countThere_0 C hr hlocks) (rX5_countThere_4 C hr hlocks) k0 σ (has _ (List.mem_of_getElem? (i := 0) rfl)).1 hσ h
