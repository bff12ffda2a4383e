/-! the JDK's members on String constants -/
def SJ0_coder_7d493 : zS := fun as σ Ret => match as with
  | [.inr (.inr (200, 0, _))] => Ret (some (.inl 0)) σ
  | _ => False
def tJ0_coder_7d493_0 (X : Nat → zB) (Ret : zR) (L : zL) (st : List zV) (σ : zM) : Prop := (z_gcs (z_ifeq (z_push 1 (z_nret .byte Ret)) (z_aload 0 (z_strc (z_goto (z_nret .byte Ret)))))) L st σ
theorem pJ0_coder_7d493 {as : List zV} {σ : zM} {Ret : zR} (h : SJ0_coder_7d493 as σ Ret) : ∃ (k0 : Nat), as = [.inr (.inr (200, 0, k0))] := by
  unfold SJ0_coder_7d493 at h
  split at h
  · exact ⟨_, rfl⟩
  · exact h.elim
set_option maxRecDepth 10000 in
set_option maxHeartbeats 4000000 in
theorem vJ0_coder_7d493 {X : Nat → zB} {Ret : zR} (h0 : ∀ L st σ, tJ0_coder_7d493_0 X Ret L st σ → X 0 L st σ) (k0 : Nat) (σ : zM) (hk0 : z_kd k0 = (200, 0)) (hσ : z_okm σ) (h : SJ0_coder_7d493 [.inr (.inr (200, 0, k0))] σ Ret) : X 0 [some (.inr (.inr (200, 0, k0)))] [] σ := by
  refine h0 _ _ _ ?_
  simp only [z_push, z_lpush, z_iload, z_lload, z_aload, z_istore, z_istoreP, z_lstore, z_astore, z_iinc, z_iincP, z_iadd, z_isub, z_imul, z_iaddW, z_isubW, z_imulW, z_idiv, z_irem, z_iand, z_ior, z_ixor, z_ishl, z_ishr, z_iushr, z_ineg, z_i2l, z_i2b, z_i2s, z_i2c, z_l2i, z_ladd, z_lsub, z_land, z_lor, z_lshl, z_lshr, z_lcmp, z_dup, z_pop, z_dup2, z_goto, z_tsw, z_cases, z_geti, z_getr, z_puti, z_putz, z_ald, z_iast, z_bast, z_zast, z_alen, z_acopy, z_mmax, z_mmin, z_mabs, z_mabsL, z_iret, z_zret, z_nret, z_lret, z_aret, z_vret, z_cat, z_xald, z_xlen, z_ldcs, z_strv, z_strc, z_gcs, z_gfm, z_sln, z_sald, z_ifeq, z_ifne, z_iflt, z_ifge, z_ifgt, z_ifle, z_iceq, z_icne, z_iclt, z_icge, z_icgt, z_icle, z_cs0, z_cs1, z_cs2, z_cs3, z_cs4, z_cs5, z_cs6, z_cs7, z_cv0, z_cv1, z_cv2, z_cv3, z_cv4, z_cv5, z_cv6, z_cv7, z_g0, z_s0, z_g1, z_s1, z_g2, z_s2, z_g3, z_s3, z_g4, z_s4, z_g5, z_s5, z_g6, z_s6, z_g7, z_s7, z_g8, z_s8, z_g9, z_s9, z_g10, z_s10, z_g11, z_s11, z_g12, z_s12, z_g13, z_s13, z_b0, z_b1, z_b0n, z_b1n, z_up_far1, z_up_far2, z_up_far3, z_up_far4, z_up_far5, z_up_far6, Classical.not_not, not_true_eq_false, z_in, z_inL, Int.cast_ofNat_Int, Nat.reduceLeDiff, List.length_cons, List.length_nil, Nat.reduceAdd, Nat.zero_add, Nat.le_refl, true_and, and_true, List.length, Nat.reduceLT, true_or, or_true, false_or, or_false, false_and, and_false, not_true_eq_false, not_false_eq_true, forall_const, false_implies, true_implies, Int.reduceEq, Int.reduceLT, Int.reduceLE, Int.reduceAdd, Int.reduceSub, Int.reduceMul, Int.reduceNeg, Int.reduceToNat, Int.toNat_natCast, ↓reduceIte, reduceIte, Nat.reduceEqDiff, Nat.reduceSub, Nat.reduceMul, ne_eq, Int.zero_add, Int.add_zero, Int.sub_zero, Nat.add_zero, Int.ofNat_eq_natCast, tJ0_coder_7d493_0]
  repeat' (first | (intro _) | (with_reducible assumption) | (refine And.intro ?_ ?_))
  all_goals first | omega | assumption | (refine z_fin h ?_ rfl; first | rfl | omega | (split <;> omega) | (split <;> split <;> omega)) | skip
  all_goals first | rfl | exact h
theorem dJ0_coder_7d493_0 : decode cJ0_coder_7d493 0 = .ok (.getstatic 38, 3) := by decide +kernel
theorem dJ0_coder_7d493_3 : decode cJ0_coder_7d493 3 = .ok (.ifCond .eq 10, 3) := by decide +kernel
theorem dJ0_coder_7d493_6 : decode cJ0_coder_7d493 6 = .ok (.aload_n 0, 1) := by decide +kernel
theorem dJ0_coder_7d493_7 : decode cJ0_coder_7d493 7 = .ok (.getfield 15, 3) := by decide +kernel
theorem dJ0_coder_7d493_10 : decode cJ0_coder_7d493 10 = .ok (.goto 4, 3) := by decide +kernel
theorem dJ0_coder_7d493_13 : decode cJ0_coder_7d493 13 = .ok (.iconst 1, 1) := by decide +kernel
theorem dJ0_coder_7d493_14 : decode cJ0_coder_7d493 14 = .ok (.ireturn, 1) := by decide +kernel
set_option maxRecDepth 100000 in
theorem rJ0_coder_7d493_0 {zx : zX} {zn : Nat} {p : Program} {l : Launch} {e : Env} {s : State} {m : MethodId} {args : Array Value} {below : List Frame} {meth : Method} {c : Code} {D : va_G} {cA : Nat → ClassId} {ad : Nat → Nat} {Ret : zR} (C : z_Cx zx zn (z_A zn ad) 0 0 p { frames := 0, cells := 0, slots := 0, locals := 0 } s m args c cJ0_coder_7d493 yJ0_coder_7d493.cls 1 D cA ad) (hr : meth.sig.returnType = (some .byte)) (hlocks : meth.locks = false) : ∀ L st σ, tJ0_coder_7d493_0 (z_X zx zn (z_A zn ad) 0 0 p l e { frames := 0, cells := 0, slots := 0, locals := 0 } s m args below meth c (MQ below (z_Qc zn D cA ad Ret) args s 0 0 (z_A zn ad)) 1 D cA ad true) Ret L st σ → z_X zx zn (z_A zn ad) 0 0 p l e { frames := 0, cells := 0, slots := 0, locals := 0 } s m args below meth c (MQ below (z_Qc zn D cA ad Ret) args s 0 0 (z_A zn ad)) 1 D cA ad true 0 L st σ := (s_gcs C dJ0_coder_7d493_0 wd_387 (s_ifeq C dJ0_coder_7d493_3 (by decide) (s_iconst C dJ0_coder_7d493_13 rfl ⟨by decide, by decide⟩ (s_nret C dJ0_coder_7d493_14 hr hlocks)) (s_aload_n C dJ0_coder_7d493_6 rfl (s_strc C dJ0_coder_7d493_7 wd_690 (s_goto C dJ0_coder_7d493_10 (by decide) (s_nret C dJ0_coder_7d493_14 hr hlocks))))))
theorem okJ0_coder_7d493 {zx : zX} {zn : Nat} (l : Launch) : z_OK zx zn l yJ0_coder_7d493 cJ0_coder_7d493 1 (some .byte) 0 0 SJ0_coder_7d493 := by
  refine z_ok_of true (by decide +kernel) ?_ ?_
  · intro as σ Ret h
    obtain ⟨k0, rfl⟩ := pJ0_coder_7d493 h
    exact ⟨Nat.le_of_ble_eq_true rfl, by simp⟩
  · intro p e s m args below meth c D cA ad Ret C hr hlocks as σ has hσ h
    obtain ⟨k0, rfl⟩ := pJ0_coder_7d493 h
    exact vJ0_coder_7d493 (rJ0_coder_7d493_0 C hr hlocks) k0 σ (has _ (List.mem_of_getElem? (i := 0) rfl)).1 hσ h
def SJ0_isLatin1_aae02 : zS := fun as σ Ret => match as with
  | [.inr (.inr (200, 0, _))] => Ret (some (.inl 1)) σ
  | _ => False
def tJ0_isLatin1_aae02_0 (X : Nat → zB) (Ret : zR) (L : zL) (st : List zV) (σ : zM) : Prop := (z_gcs (z_ifeq (z_push 0 (z_zret Ret)) (z_aload 0 (z_strc (z_ifne (z_push 0 (z_zret Ret)) (z_push 1 (z_goto (z_zret Ret)))))))) L st σ
theorem pJ0_isLatin1_aae02 {as : List zV} {σ : zM} {Ret : zR} (h : SJ0_isLatin1_aae02 as σ Ret) : ∃ (k0 : Nat), as = [.inr (.inr (200, 0, k0))] := by
  unfold SJ0_isLatin1_aae02 at h
  split at h
  · exact ⟨_, rfl⟩
  · exact h.elim
set_option maxRecDepth 10000 in
set_option maxHeartbeats 4000000 in
theorem vJ0_isLatin1_aae02 {X : Nat → zB} {Ret : zR} (h0 : ∀ L st σ, tJ0_isLatin1_aae02_0 X Ret L st σ → X 0 L st σ) (k0 : Nat) (σ : zM) (hk0 : z_kd k0 = (200, 0)) (hσ : z_okm σ) (h : SJ0_isLatin1_aae02 [.inr (.inr (200, 0, k0))] σ Ret) : X 0 [some (.inr (.inr (200, 0, k0)))] [] σ := by
  refine h0 _ _ _ ?_
  simp only [z_push, z_lpush, z_iload, z_lload, z_aload, z_istore, z_istoreP, z_lstore, z_astore, z_iinc, z_iincP, z_iadd, z_isub, z_imul, z_iaddW, z_isubW, z_imulW, z_idiv, z_irem, z_iand, z_ior, z_ixor, z_ishl, z_ishr, z_iushr, z_ineg, z_i2l, z_i2b, z_i2s, z_i2c, z_l2i, z_ladd, z_lsub, z_land, z_lor, z_lshl, z_lshr, z_lcmp, z_dup, z_pop, z_dup2, z_goto, z_tsw, z_cases, z_geti, z_getr, z_puti, z_putz, z_ald, z_iast, z_bast, z_zast, z_alen, z_acopy, z_mmax, z_mmin, z_mabs, z_mabsL, z_iret, z_zret, z_nret, z_lret, z_aret, z_vret, z_cat, z_xald, z_xlen, z_ldcs, z_strv, z_strc, z_gcs, z_gfm, z_sln, z_sald, z_ifeq, z_ifne, z_iflt, z_ifge, z_ifgt, z_ifle, z_iceq, z_icne, z_iclt, z_icge, z_icgt, z_icle, z_cs0, z_cs1, z_cs2, z_cs3, z_cs4, z_cs5, z_cs6, z_cs7, z_cv0, z_cv1, z_cv2, z_cv3, z_cv4, z_cv5, z_cv6, z_cv7, z_g0, z_s0, z_g1, z_s1, z_g2, z_s2, z_g3, z_s3, z_g4, z_s4, z_g5, z_s5, z_g6, z_s6, z_g7, z_s7, z_g8, z_s8, z_g9, z_s9, z_g10, z_s10, z_g11, z_s11, z_g12, z_s12, z_g13, z_s13, z_b0, z_b1, z_b0n, z_b1n, z_up_far1, z_up_far2, z_up_far3, z_up_far4, z_up_far5, z_up_far6, Classical.not_not, not_true_eq_false, z_in, z_inL, Int.cast_ofNat_Int, Nat.reduceLeDiff, List.length_cons, List.length_nil, Nat.reduceAdd, Nat.zero_add, Nat.le_refl, true_and, and_true, List.length, Nat.reduceLT, true_or, or_true, false_or, or_false, false_and, and_false, not_true_eq_false, not_false_eq_true, forall_const, false_implies, true_implies, Int.reduceEq, Int.reduceLT, Int.reduceLE, Int.reduceAdd, Int.reduceSub, Int.reduceMul, Int.reduceNeg, Int.reduceToNat, Int.toNat_natCast, ↓reduceIte, reduceIte, Nat.reduceEqDiff, Nat.reduceSub, Nat.reduceMul, ne_eq, Int.zero_add, Int.add_zero, Int.sub_zero, Nat.add_zero, Int.ofNat_eq_natCast, tJ0_isLatin1_aae02_0]
  repeat' (first | (intro _) | (with_reducible assumption) | (refine And.intro ?_ ?_))
  all_goals first | omega | assumption | (refine z_fin h ?_ rfl; first | rfl | omega | (split <;> omega) | (split <;> split <;> omega)) | skip
theorem dJ0_isLatin1_aae02_0 : decode cJ0_isLatin1_aae02 0 = .ok (.getstatic 38, 3) := by decide +kernel
theorem dJ0_isLatin1_aae02_3 : decode cJ0_isLatin1_aae02 3 = .ok (.ifCond .eq 14, 3) := by decide +kernel
theorem dJ0_isLatin1_aae02_6 : decode cJ0_isLatin1_aae02 6 = .ok (.aload_n 0, 1) := by decide +kernel
theorem dJ0_isLatin1_aae02_7 : decode cJ0_isLatin1_aae02 7 = .ok (.getfield 15, 3) := by decide +kernel
theorem dJ0_isLatin1_aae02_10 : decode cJ0_isLatin1_aae02 10 = .ok (.ifCond .ne 7, 3) := by decide +kernel
theorem dJ0_isLatin1_aae02_13 : decode cJ0_isLatin1_aae02 13 = .ok (.iconst 1, 1) := by decide +kernel
theorem dJ0_isLatin1_aae02_14 : decode cJ0_isLatin1_aae02 14 = .ok (.goto 4, 3) := by decide +kernel
theorem dJ0_isLatin1_aae02_17 : decode cJ0_isLatin1_aae02 17 = .ok (.iconst 0, 1) := by decide +kernel
theorem dJ0_isLatin1_aae02_18 : decode cJ0_isLatin1_aae02 18 = .ok (.ireturn, 1) := by decide +kernel
set_option maxRecDepth 100000 in
theorem rJ0_isLatin1_aae02_0 {zx : zX} {zn : Nat} {p : Program} {l : Launch} {e : Env} {s : State} {m : MethodId} {args : Array Value} {below : List Frame} {meth : Method} {c : Code} {D : va_G} {cA : Nat → ClassId} {ad : Nat → Nat} {Ret : zR} (C : z_Cx zx zn (z_A zn ad) 0 0 p { frames := 0, cells := 0, slots := 0, locals := 0 } s m args c cJ0_isLatin1_aae02 yJ0_isLatin1_aae02.cls 1 D cA ad) (hr : meth.sig.returnType = (some .boolean)) (hlocks : meth.locks = false) : ∀ L st σ, tJ0_isLatin1_aae02_0 (z_X zx zn (z_A zn ad) 0 0 p l e { frames := 0, cells := 0, slots := 0, locals := 0 } s m args below meth c (MQ below (z_Qc zn D cA ad Ret) args s 0 0 (z_A zn ad)) 1 D cA ad true) Ret L st σ → z_X zx zn (z_A zn ad) 0 0 p l e { frames := 0, cells := 0, slots := 0, locals := 0 } s m args below meth c (MQ below (z_Qc zn D cA ad Ret) args s 0 0 (z_A zn ad)) 1 D cA ad true 0 L st σ := (s_gcs C dJ0_isLatin1_aae02_0 wd_387 (s_ifeq C dJ0_isLatin1_aae02_3 (by decide) (s_iconst C dJ0_isLatin1_aae02_17 rfl ⟨by decide, by decide⟩ (s_zret C dJ0_isLatin1_aae02_18 hr ⟨rfl, rfl⟩ hlocks)) (s_aload_n C dJ0_isLatin1_aae02_6 rfl (s_strc C dJ0_isLatin1_aae02_7 wd_690 (s_ifne C dJ0_isLatin1_aae02_10 (by decide) (s_iconst C dJ0_isLatin1_aae02_17 rfl ⟨by decide, by decide⟩ (s_zret C dJ0_isLatin1_aae02_18 hr ⟨rfl, rfl⟩ hlocks)) (s_iconst C dJ0_isLatin1_aae02_13 rfl ⟨by decide, by decide⟩ (s_goto C dJ0_isLatin1_aae02_14 (by decide) (s_zret C dJ0_isLatin1_aae02_18 hr ⟨rfl, rfl⟩ hlocks))))))))
theorem okJ0_isLatin1_aae02 {zx : zX} {zn : Nat} (l : Launch) : z_OK zx zn l yJ0_isLatin1_aae02 cJ0_isLatin1_aae02 1 (some .boolean) 0 0 SJ0_isLatin1_aae02 := by
  refine z_ok_of true (by decide +kernel) ?_ ?_
  · intro as σ Ret h
    obtain ⟨k0, rfl⟩ := pJ0_isLatin1_aae02 h
    exact ⟨Nat.le_of_ble_eq_true rfl, by simp⟩
  · intro p e s m args below meth c D cA ad Ret C hr hlocks as σ has hσ h
    obtain ⟨k0, rfl⟩ := pJ0_isLatin1_aae02 h
    exact vJ0_isLatin1_aae02 (rJ0_isLatin1_aae02_0 C hr hlocks) k0 σ (has _ (List.mem_of_getElem? (i := 0) rfl)).1 hσ h
def SJ0_length_8abf5 : zS := fun as σ Ret => match as with
  | [.inr (.inr (200, 0, k))] => Ret (some (.inl (z_slen.getD (k - 1000) 0 : Int))) σ
  | _ => False
theorem z_shr00 (x : Int) (h : z_in x) : (Int32.ofInt x >>> (Int32.ofInt 0 &&& 31)).toInt = x := by
  rw [show Int32.ofInt 0 = (0 : Int32) from rfl, sb_shr0, z_toInt h]
theorem z_slen_le (j : Nat) : z_slen.getD j 0 ≤ 4 := by
  have key : ∀ i, i < 11 → z_slen.getD i 0 ≤ 4 := by decide
  rcases Nat.lt_or_ge j 11 with q | q
  · exact key j q
  · rw [List.getD_eq_getElem?_getD, List.getElem?_eq_none (by exact q)]; exact Nat.zero_le _
def tJ0_length_8abf5_0 (X : Nat → zB) (Ret : zR) (L : zL) (st : List zV) (σ : zM) : Prop := (z_aload 0 (z_strv (z_sln (z_aload 0 (z_cv0 200 SJ0_coder_7d493 (z_ishr (z_iret Ret))))))) L st σ
theorem pJ0_length_8abf5 {as : List zV} {σ : zM} {Ret : zR} (h : SJ0_length_8abf5 as σ Ret) : ∃ (k0 : Nat), as = [.inr (.inr (200, 0, k0))] := by
  unfold SJ0_length_8abf5 at h
  split at h
  · exact ⟨_, rfl⟩
  · exact h.elim
set_option maxRecDepth 10000 in
set_option maxHeartbeats 4000000 in
theorem vJ0_length_8abf5 {X : Nat → zB} {Ret : zR} (h0 : ∀ L st σ, tJ0_length_8abf5_0 X Ret L st σ → X 0 L st σ) (k0 : Nat) (σ : zM) (hk0 : z_kd k0 = (200, 0)) (hσ : z_okm σ) (h : SJ0_length_8abf5 [.inr (.inr (200, 0, k0))] σ Ret) : X 0 [some (.inr (.inr (200, 0, k0)))] [] σ := by
  have l1 := z_slen_le (k0 - 1000)
  have e := z_shr00 (z_slen.getD (k0 - 1000) 0 : Int) ⟨by omega, by omega⟩
  refine h0 _ _ _ ?_
  simp only [z_push, z_lpush, z_iload, z_lload, z_aload, z_istore, z_istoreP, z_lstore, z_astore, z_iinc, z_iincP, z_iadd, z_isub, z_imul, z_iaddW, z_isubW, z_imulW, z_idiv, z_irem, z_iand, z_ior, z_ixor, z_ishl, z_ishr, z_iushr, z_ineg, z_i2l, z_i2b, z_i2s, z_i2c, z_l2i, z_ladd, z_lsub, z_land, z_lor, z_lshl, z_lshr, z_lcmp, z_dup, z_pop, z_dup2, z_goto, z_tsw, z_cases, z_geti, z_getr, z_puti, z_putz, z_ald, z_iast, z_bast, z_zast, z_alen, z_acopy, z_mmax, z_mmin, z_mabs, z_mabsL, z_iret, z_zret, z_nret, z_lret, z_aret, z_vret, z_cat, z_xald, z_xlen, z_ldcs, z_strv, z_strc, z_gcs, z_gfm, z_sln, z_sald, z_ifeq, z_ifne, z_iflt, z_ifge, z_ifgt, z_ifle, z_iceq, z_icne, z_iclt, z_icge, z_icgt, z_icle, z_cs0, z_cs1, z_cs2, z_cs3, z_cs4, z_cs5, z_cs6, z_cs7, z_cv0, z_cv1, z_cv2, z_cv3, z_cv4, z_cv5, z_cv6, z_cv7, z_g0, z_s0, z_g1, z_s1, z_g2, z_s2, z_g3, z_s3, z_g4, z_s4, z_g5, z_s5, z_g6, z_s6, z_g7, z_s7, z_g8, z_s8, z_g9, z_s9, z_g10, z_s10, z_g11, z_s11, z_g12, z_s12, z_g13, z_s13, z_b0, z_b1, z_b0n, z_b1n, z_up_far1, z_up_far2, z_up_far3, z_up_far4, z_up_far5, z_up_far6, Classical.not_not, not_true_eq_false, z_in, z_inL, Int.cast_ofNat_Int, Nat.reduceLeDiff, List.length_cons, List.length_nil, Nat.reduceAdd, Nat.zero_add, Nat.le_refl, true_and, and_true, List.length, Nat.reduceLT, true_or, or_true, false_or, or_false, false_and, and_false, not_true_eq_false, not_false_eq_true, forall_const, false_implies, true_implies, Int.reduceEq, Int.reduceLT, Int.reduceLE, Int.reduceAdd, Int.reduceSub, Int.reduceMul, Int.reduceNeg, Int.reduceToNat, Int.toNat_natCast, ↓reduceIte, reduceIte, Nat.reduceEqDiff, Nat.reduceSub, Nat.reduceMul, ne_eq, Int.zero_add, Int.add_zero, Int.sub_zero, Nat.add_zero, Int.ofNat_eq_natCast, tJ0_length_8abf5_0, SJ0_coder_7d493, e]
  exact h
theorem dJ0_length_8abf5_0 : decode cJ0_length_8abf5 0 = .ok (.aload_n 0, 1) := by decide +kernel
theorem dJ0_length_8abf5_1 : decode cJ0_length_8abf5 1 = .ok (.getfield 9, 3) := by decide +kernel
theorem dJ0_length_8abf5_4 : decode cJ0_length_8abf5 4 = .ok (.arraylength, 1) := by decide +kernel
theorem dJ0_length_8abf5_5 : decode cJ0_length_8abf5 5 = .ok (.aload_n 0, 1) := by decide +kernel
theorem dJ0_length_8abf5_6 : decode cJ0_length_8abf5 6 = .ok (.invokevirtual 335, 3) := by decide +kernel
theorem dJ0_length_8abf5_9 : decode cJ0_length_8abf5 9 = .ok (.ishr, 1) := by decide +kernel
theorem dJ0_length_8abf5_10 : decode cJ0_length_8abf5 10 = .ok (.ireturn, 1) := by decide +kernel
set_option maxRecDepth 100000 in
theorem rJ0_length_8abf5_0 {zx : zX} {zn : Nat} {p : Program} {l : Launch} {e : Env} {s : State} {m : MethodId} {args : Array Value} {below : List Frame} {meth : Method} {c : Code} {D : va_G} {cA : Nat → ClassId} {ad : Nat → Nat} {Ret : zR} (C : z_Cx zx zn (z_A zn ad) 0 0 p { frames := 1, cells := 0, slots := 0, locals := 20 } s m args c cJ0_length_8abf5 yJ0_length_8abf5.cls 1 D cA ad) (hr : meth.sig.returnType = (some .int)) (hlocks : meth.locks = false) : ∀ L st σ, tJ0_length_8abf5_0 (z_X zx zn (z_A zn ad) 0 0 p l e { frames := 1, cells := 0, slots := 0, locals := 20 } s m args below meth c (MQ below (z_Qc zn D cA ad Ret) args s 0 0 (z_A zn ad)) 1 D cA ad true) Ret L st σ → z_X zx zn (z_A zn ad) 0 0 p l e { frames := 1, cells := 0, slots := 0, locals := 20 } s m args below meth c (MQ below (z_Qc zn D cA ad Ret) args s 0 0 (z_A zn ad)) 1 D cA ad true 0 L st σ := (s_aload_n C dJ0_length_8abf5_0 rfl (s_strv C dJ0_length_8abf5_1 wd_689 (s_sln C dJ0_length_8abf5_4 (s_aload_n C dJ0_length_8abf5_5 rfl (s_cz0 C dJ0_length_8abf5_6 (okJ0_coder_7d493 l) rfl wd_383 wd_384 wd_385 wd_27 wd_386 ⟨by decide, by decide, by decide +kernel⟩ ⟨by decide, by decide⟩ (s_ishr C dJ0_length_8abf5_9 (s_iret C dJ0_length_8abf5_10 hr hlocks)))))))
theorem okJ0_length_8abf5 {zx : zX} {zn : Nat} (l : Launch) : z_OK zx zn l yJ0_length_8abf5 cJ0_length_8abf5 1 (some .int) 1 20 SJ0_length_8abf5 := by
  refine z_ok_of true (by decide +kernel) ?_ ?_
  · intro as σ Ret h
    obtain ⟨k0, rfl⟩ := pJ0_length_8abf5 h
    exact ⟨Nat.le_of_ble_eq_true rfl, by simp⟩
  · intro p e s m args below meth c D cA ad Ret C hr hlocks as σ has hσ h
    obtain ⟨k0, rfl⟩ := pJ0_length_8abf5 h
    exact vJ0_length_8abf5 (rJ0_length_8abf5_0 C hr hlocks) k0 σ (has _ (List.mem_of_getElem? (i := 0) rfl)).1 hσ h
def SJ3_checkIndex_8e157 : zS := fun as σ Ret => match as with
  | [.inl i, .inl n, .inr (.inr (_, _, _))] => (0 ≤ i ∧ i < n) ∧ Ret (some (.inl i)) σ
  | _ => False
def tJ3_checkIndex_8e157_0 (X : Nat → zB) (Ret : zR) (L : zL) (st : List zV) (σ : zM) : Prop := (z_iload 0 (z_iflt (fun _ _ _ => False) (z_iload 0 (z_iload 1 (z_iclt (z_iload 0 (z_iret Ret)) (fun _ _ _ => False)))))) L st σ
theorem pJ3_checkIndex_8e157 {as : List zV} {σ : zM} {Ret : zR} (h : SJ3_checkIndex_8e157 as σ Ret) : ∃ (x1 : Int) (x2 : Int) (c3 n3 k3 : Nat), as = [.inl x1, .inl x2, .inr (.inr (c3, n3, k3))] := by
  unfold SJ3_checkIndex_8e157 at h
  split at h
  · exact ⟨_, _, _, _, _, rfl⟩
  · exact h.elim
set_option maxRecDepth 10000 in
set_option maxHeartbeats 4000000 in
theorem vJ3_checkIndex_8e157 {X : Nat → zB} {Ret : zR} (h0 : ∀ L st σ, tJ3_checkIndex_8e157_0 X Ret L st σ → X 0 L st σ) (x1 : Int) (x2 : Int) (c3 n3 k3 : Nat) (σ : zM) (hx1 : -2147483648 ≤ x1 ∧ x1 ≤ 2147483647) (hx2 : -2147483648 ≤ x2 ∧ x2 ≤ 2147483647) (hk3 : z_kd k3 = (c3, n3)) (hσ : z_okm σ) (h : SJ3_checkIndex_8e157 [.inl x1, .inl x2, .inr (.inr (c3, n3, k3))] σ Ret) : X 0 [some (.inl x1), some (.inl x2), some (.inr (.inr (c3, n3, k3)))] [] σ := by
  obtain ⟨hc, h⟩ := h
  refine h0 _ _ _ ?_
  simp only [z_push, z_lpush, z_iload, z_lload, z_aload, z_istore, z_istoreP, z_lstore, z_astore, z_iinc, z_iincP, z_iadd, z_isub, z_imul, z_iaddW, z_isubW, z_imulW, z_idiv, z_irem, z_iand, z_ior, z_ixor, z_ishl, z_ishr, z_iushr, z_ineg, z_i2l, z_i2b, z_i2s, z_i2c, z_l2i, z_ladd, z_lsub, z_land, z_lor, z_lshl, z_lshr, z_lcmp, z_dup, z_pop, z_dup2, z_goto, z_tsw, z_cases, z_geti, z_getr, z_puti, z_putz, z_ald, z_iast, z_bast, z_zast, z_alen, z_acopy, z_mmax, z_mmin, z_mabs, z_mabsL, z_iret, z_zret, z_nret, z_lret, z_aret, z_vret, z_cat, z_xald, z_xlen, z_ldcs, z_strv, z_strc, z_gcs, z_gfm, z_sln, z_sald, z_ifeq, z_ifne, z_iflt, z_ifge, z_ifgt, z_ifle, z_iceq, z_icne, z_iclt, z_icge, z_icgt, z_icle, z_cs0, z_cs1, z_cs2, z_cs3, z_cs4, z_cs5, z_cs6, z_cs7, z_cv0, z_cv1, z_cv2, z_cv3, z_cv4, z_cv5, z_cv6, z_cv7, z_g0, z_s0, z_g1, z_s1, z_g2, z_s2, z_g3, z_s3, z_g4, z_s4, z_g5, z_s5, z_g6, z_s6, z_g7, z_s7, z_g8, z_s8, z_g9, z_s9, z_g10, z_s10, z_g11, z_s11, z_g12, z_s12, z_g13, z_s13, z_b0, z_b1, z_b0n, z_b1n, z_up_far1, z_up_far2, z_up_far3, z_up_far4, z_up_far5, z_up_far6, Classical.not_not, not_true_eq_false, z_in, z_inL, Int.cast_ofNat_Int, Nat.reduceLeDiff, List.length_cons, List.length_nil, Nat.reduceAdd, Nat.zero_add, Nat.le_refl, true_and, and_true, List.length, Nat.reduceLT, true_or, or_true, false_or, or_false, false_and, and_false, not_true_eq_false, not_false_eq_true, forall_const, false_implies, true_implies, Int.reduceEq, Int.reduceLT, Int.reduceLE, Int.reduceAdd, Int.reduceSub, Int.reduceMul, Int.reduceNeg, Int.reduceToNat, Int.toNat_natCast, ↓reduceIte, reduceIte, Nat.reduceEqDiff, Nat.reduceSub, Nat.reduceMul, ne_eq, Int.zero_add, Int.add_zero, Int.sub_zero, Nat.add_zero, Int.ofNat_eq_natCast, tJ3_checkIndex_8e157_0]
  repeat' (first | (intro _) | (with_reducible assumption) | (refine And.intro ?_ ?_))
  all_goals first | omega | assumption | (refine z_fin h ?_ rfl; first | rfl | omega | (split <;> omega) | (split <;> split <;> omega)) | skip
theorem dJ3_checkIndex_8e157_0 : decode cJ3_checkIndex_8e157 0 = .ok (.iload_n 0, 1) := by decide +kernel
theorem dJ3_checkIndex_8e157_1 : decode cJ3_checkIndex_8e157 1 = .ok (.ifCond .lt 8, 3) := by decide +kernel
theorem dJ3_checkIndex_8e157_4 : decode cJ3_checkIndex_8e157 4 = .ok (.iload_n 0, 1) := by decide +kernel
theorem dJ3_checkIndex_8e157_5 : decode cJ3_checkIndex_8e157 5 = .ok (.iload_n 1, 1) := by decide +kernel
theorem dJ3_checkIndex_8e157_6 : decode cJ3_checkIndex_8e157 6 = .ok (.if_icmp .lt 10, 3) := by decide +kernel
theorem dJ3_checkIndex_8e157_9 : decode cJ3_checkIndex_8e157 9 = .ok (.aload_n 2, 1) := by decide +kernel
theorem dJ3_checkIndex_8e157_16 : decode cJ3_checkIndex_8e157 16 = .ok (.iload_n 0, 1) := by decide +kernel
theorem dJ3_checkIndex_8e157_17 : decode cJ3_checkIndex_8e157 17 = .ok (.ireturn, 1) := by decide +kernel
set_option maxRecDepth 100000 in
theorem rJ3_checkIndex_8e157_0 {zx : zX} {zn : Nat} {p : Program} {l : Launch} {e : Env} {s : State} {m : MethodId} {args : Array Value} {below : List Frame} {meth : Method} {c : Code} {D : va_G} {cA : Nat → ClassId} {ad : Nat → Nat} {Ret : zR} (C : z_Cx zx zn (z_A zn ad) 0 0 p { frames := 0, cells := 0, slots := 0, locals := 0 } s m args c cJ3_checkIndex_8e157 yJ3_checkIndex_8e157.cls 3 D cA ad) (hr : meth.sig.returnType = (some .int)) (hlocks : meth.locks = false) : ∀ L st σ, tJ3_checkIndex_8e157_0 (z_X zx zn (z_A zn ad) 0 0 p l e { frames := 0, cells := 0, slots := 0, locals := 0 } s m args below meth c (MQ below (z_Qc zn D cA ad Ret) args s 0 0 (z_A zn ad)) 3 D cA ad true) Ret L st σ → z_X zx zn (z_A zn ad) 0 0 p l e { frames := 0, cells := 0, slots := 0, locals := 0 } s m args below meth c (MQ below (z_Qc zn D cA ad Ret) args s 0 0 (z_A zn ad)) 3 D cA ad true 0 L st σ := (s_iload_n C dJ3_checkIndex_8e157_0 rfl (s_iflt C dJ3_checkIndex_8e157_1 (tgt := 9) (by decide) (fun _ _ _ h => h.elim) (s_iload_n C dJ3_checkIndex_8e157_4 rfl (s_iload_n C dJ3_checkIndex_8e157_5 rfl (s_iclt C dJ3_checkIndex_8e157_6 (by decide) (s_iload_n C dJ3_checkIndex_8e157_16 rfl (s_iret C dJ3_checkIndex_8e157_17 hr hlocks)) (fun _ _ _ h => h.elim))))))
theorem okJ3_checkIndex_8e157 {zx : zX} {zn : Nat} (l : Launch) : z_OK zx zn l yJ3_checkIndex_8e157 cJ3_checkIndex_8e157 3 (some .int) 0 0 SJ3_checkIndex_8e157 := by
  refine z_ok_of true (by decide +kernel) ?_ ?_
  · intro as σ Ret h
    obtain ⟨x1, x2, c3, n3, k3, rfl⟩ := pJ3_checkIndex_8e157 h
    exact ⟨Nat.le_of_ble_eq_true rfl, by simp⟩
  · intro p e s m args below meth c D cA ad Ret C hr hlocks as σ has hσ h
    obtain ⟨x1, x2, c3, n3, k3, rfl⟩ := pJ3_checkIndex_8e157 h
    exact vJ3_checkIndex_8e157 (rJ3_checkIndex_8e157_0 C hr hlocks) x1 x2 c3 n3 k3 σ (has _ (List.mem_of_getElem? (i := 0) rfl)) (has _ (List.mem_of_getElem? (i := 1) rfl)) (has _ (List.mem_of_getElem? (i := 2) rfl)).1 hσ h
def SJ0_checkIndex_df160 : zS := fun as σ Ret => match as with
  | [.inl i, .inl n] => (0 ≤ i ∧ i < n) ∧ Ret none σ
  | _ => False
def tJ0_checkIndex_df160_0 (X : Nat → zB) (Ret : zR) (L : zL) (st : List zV) (σ : zM) : Prop := (z_iload 0 (z_iload 1 (z_gfm (z_cs3 SJ3_checkIndex_8e157 (z_pop (z_vret Ret)))))) L st σ
theorem pJ0_checkIndex_df160 {as : List zV} {σ : zM} {Ret : zR} (h : SJ0_checkIndex_df160 as σ Ret) : ∃ (x1 : Int) (x2 : Int), as = [.inl x1, .inl x2] := by
  unfold SJ0_checkIndex_df160 at h
  split at h
  · exact ⟨_, _, rfl⟩
  · exact h.elim
set_option maxRecDepth 10000 in
set_option maxHeartbeats 4000000 in
theorem vJ0_checkIndex_df160 {X : Nat → zB} {Ret : zR} (h0 : ∀ L st σ, tJ0_checkIndex_df160_0 X Ret L st σ → X 0 L st σ) (x1 : Int) (x2 : Int) (σ : zM) (hx1 : -2147483648 ≤ x1 ∧ x1 ≤ 2147483647) (hx2 : -2147483648 ≤ x2 ∧ x2 ≤ 2147483647) (hσ : z_okm σ) (h : SJ0_checkIndex_df160 [.inl x1, .inl x2] σ Ret) : X 0 [some (.inl x1), some (.inl x2)] [] σ := by
  obtain ⟨hc, h⟩ := h
  refine h0 _ _ _ ?_
  simp only [z_push, z_lpush, z_iload, z_lload, z_aload, z_istore, z_istoreP, z_lstore, z_astore, z_iinc, z_iincP, z_iadd, z_isub, z_imul, z_iaddW, z_isubW, z_imulW, z_idiv, z_irem, z_iand, z_ior, z_ixor, z_ishl, z_ishr, z_iushr, z_ineg, z_i2l, z_i2b, z_i2s, z_i2c, z_l2i, z_ladd, z_lsub, z_land, z_lor, z_lshl, z_lshr, z_lcmp, z_dup, z_pop, z_dup2, z_goto, z_tsw, z_cases, z_geti, z_getr, z_puti, z_putz, z_ald, z_iast, z_bast, z_zast, z_alen, z_acopy, z_mmax, z_mmin, z_mabs, z_mabsL, z_iret, z_zret, z_nret, z_lret, z_aret, z_vret, z_cat, z_xald, z_xlen, z_ldcs, z_strv, z_strc, z_gcs, z_gfm, z_sln, z_sald, z_ifeq, z_ifne, z_iflt, z_ifge, z_ifgt, z_ifle, z_iceq, z_icne, z_iclt, z_icge, z_icgt, z_icle, z_cs0, z_cs1, z_cs2, z_cs3, z_cs4, z_cs5, z_cs6, z_cs7, z_cv0, z_cv1, z_cv2, z_cv3, z_cv4, z_cv5, z_cv6, z_cv7, z_g0, z_s0, z_g1, z_s1, z_g2, z_s2, z_g3, z_s3, z_g4, z_s4, z_g5, z_s5, z_g6, z_s6, z_g7, z_s7, z_g8, z_s8, z_g9, z_s9, z_g10, z_s10, z_g11, z_s11, z_g12, z_s12, z_g13, z_s13, z_b0, z_b1, z_b0n, z_b1n, z_up_far1, z_up_far2, z_up_far3, z_up_far4, z_up_far5, z_up_far6, Classical.not_not, not_true_eq_false, z_in, z_inL, Int.cast_ofNat_Int, Nat.reduceLeDiff, List.length_cons, List.length_nil, Nat.reduceAdd, Nat.zero_add, Nat.le_refl, true_and, and_true, List.length, Nat.reduceLT, true_or, or_true, false_or, or_false, false_and, and_false, not_true_eq_false, not_false_eq_true, forall_const, false_implies, true_implies, Int.reduceEq, Int.reduceLT, Int.reduceLE, Int.reduceAdd, Int.reduceSub, Int.reduceMul, Int.reduceNeg, Int.reduceToNat, Int.toNat_natCast, ↓reduceIte, reduceIte, Nat.reduceEqDiff, Nat.reduceSub, Nat.reduceMul, ne_eq, Int.zero_add, Int.add_zero, Int.sub_zero, Nat.add_zero, Int.ofNat_eq_natCast, tJ0_checkIndex_df160_0, SJ3_checkIndex_8e157, hc]
  repeat' (first | (intro _) | (with_reducible assumption) | (refine And.intro ?_ ?_))
  all_goals first | omega | assumption | (refine z_fin h ?_ rfl; first | rfl | omega | (split <;> omega) | (split <;> split <;> omega)) | skip
theorem dJ0_checkIndex_df160_0 : decode cJ0_checkIndex_df160 0 = .ok (.iload_n 0, 1) := by decide +kernel
theorem dJ0_checkIndex_df160_1 : decode cJ0_checkIndex_df160 1 = .ok (.iload_n 1, 1) := by decide +kernel
theorem dJ0_checkIndex_df160_2 : decode cJ0_checkIndex_df160 2 = .ok (.getstatic 1053, 3) := by decide +kernel
theorem dJ0_checkIndex_df160_5 : decode cJ0_checkIndex_df160 5 = .ok (.invokestatic 1059, 3) := by decide +kernel
theorem dJ0_checkIndex_df160_8 : decode cJ0_checkIndex_df160 8 = .ok (.pop, 1) := by decide +kernel
theorem dJ0_checkIndex_df160_9 : decode cJ0_checkIndex_df160 9 = .ok (.return_, 1) := by decide +kernel
set_option maxRecDepth 100000 in
theorem rJ0_checkIndex_df160_0 {zx : zX} {zn : Nat} {p : Program} {l : Launch} {e : Env} {s : State} {m : MethodId} {args : Array Value} {below : List Frame} {meth : Method} {c : Code} {D : va_G} {cA : Nat → ClassId} {ad : Nat → Nat} {Ret : zR} (C : z_Cx zx zn (z_A zn ad) 0 0 p { frames := 1, cells := 0, slots := 0, locals := 22 } s m args c cJ0_checkIndex_df160 yJ0_checkIndex_df160.cls 2 D cA ad) (hr : meth.sig.returnType = none) (hlocks : meth.locks = false) : ∀ L st σ, tJ0_checkIndex_df160_0 (z_X zx zn (z_A zn ad) 0 0 p l e { frames := 1, cells := 0, slots := 0, locals := 22 } s m args below meth c (MQ below (z_Qc zn D cA ad Ret) args s 0 0 (z_A zn ad)) 2 D cA ad true) Ret L st σ → z_X zx zn (z_A zn ad) 0 0 p l e { frames := 1, cells := 0, slots := 0, locals := 22 } s m args below meth c (MQ below (z_Qc zn D cA ad Ret) args s 0 0 (z_A zn ad)) 2 D cA ad true 0 L st σ := (s_iload_n C dJ0_checkIndex_df160_0 rfl (s_iload_n C dJ0_checkIndex_df160_1 rfl (s_gfm C dJ0_checkIndex_df160_2 wd_403 (s_cs3 C dJ0_checkIndex_df160_5 (okJ3_checkIndex_8e157 l) wd_405 wd_406 wd_29 wd_407 ⟨by decide, by decide, by decide +kernel⟩ ⟨by decide, by decide⟩ (s_pop C dJ0_checkIndex_df160_8 (s_vret C dJ0_checkIndex_df160_9 hr hlocks))))))
theorem okJ0_checkIndex_df160 {zx : zX} {zn : Nat} (l : Launch) : z_OK zx zn l yJ0_checkIndex_df160 cJ0_checkIndex_df160 2 none 1 22 SJ0_checkIndex_df160 := by
  refine z_ok_of true (by decide +kernel) ?_ ?_
  · intro as σ Ret h
    obtain ⟨x1, x2, rfl⟩ := pJ0_checkIndex_df160 h
    exact ⟨Nat.le_of_ble_eq_true rfl, by simp⟩
  · intro p e s m args below meth c D cA ad Ret C hr hlocks as σ has hσ h
    obtain ⟨x1, x2, rfl⟩ := pJ0_checkIndex_df160 h
    exact vJ0_checkIndex_df160 (rJ0_checkIndex_df160_0 C hr hlocks) x1 x2 σ (has _ (List.mem_of_getElem? (i := 0) rfl)) (has _ (List.mem_of_getElem? (i := 1) rfl)) hσ h
theorem z_sch_ok : ∀ j, j < 11 → ∀ i, i < z_slen.getD j 0 → z_wrc (Int32.ofInt (z_sch j i) &&& Int32.ofInt 255).toInt = z_sch j i ∧ narrow .char (.int (Int32.ofInt (z_sch j i))) = .int (Int32.ofInt (z_sch j i)) ∧ 97 ≤ z_sch j i ∧ z_sch j i ≤ 122 := by decide +kernel
def SJ1_charAt_3b067 : zS := fun as σ Ret => match as with
  | [.inr (.inr (201, n, k)), .inl i] => (0 ≤ i ∧ i < (n : Int)) ∧ Ret (some (.inl (z_sch (k - 1100) i.toNat))) σ
  | _ => False
def tJ1_charAt_3b067_0 (X : Nat → zB) (Ret : zR) (L : zL) (st : List zV) (σ : zM) : Prop := (z_iload 1 (z_aload 0 (z_sln (z_cs2 SJ0_checkIndex_df160 (z_aload 0 (z_iload 1 (z_sald (z_push 255 (z_iand (z_i2c (z_nret .char Ret))))))))))) L st σ
theorem pJ1_charAt_3b067 {as : List zV} {σ : zM} {Ret : zR} (h : SJ1_charAt_3b067 as σ Ret) : ∃ (n1 k1 : Nat) (x2 : Int), as = [.inr (.inr (201, n1, k1)), .inl x2] := by
  unfold SJ1_charAt_3b067 at h
  split at h
  · exact ⟨_, _, _, rfl⟩
  · exact h.elim
set_option maxRecDepth 10000 in
set_option maxHeartbeats 4000000 in
theorem vJ1_charAt_3b067 {X : Nat → zB} {Ret : zR} (h0 : ∀ L st σ, tJ1_charAt_3b067_0 X Ret L st σ → X 0 L st σ) (n1 k1 : Nat) (x2 : Int) (σ : zM) (hk1 : z_kd k1 = (201, n1)) (hx2 : -2147483648 ≤ x2 ∧ x2 ≤ 2147483647) (hσ : z_okm σ) (h : SJ1_charAt_3b067 [.inr (.inr (201, n1, k1)), .inl x2] σ Ret) : X 0 [some (.inr (.inr (201, n1, k1))), some (.inl x2)] [] σ := by
  obtain ⟨⟨i0, i1⟩, h⟩ := h
  obtain ⟨j, hj, rfl, rfl⟩ := z_kd201 hk1
  obtain ⟨i, rfl⟩ := z_nat i0
  simp only [Int.toNat_natCast, show 1100 + j - 1100 = j by omega] at h
  have q := z_sch_ok j hj i (by omega)
  refine h0 _ _ _ ?_
  simp only [z_push, z_lpush, z_iload, z_lload, z_aload, z_istore, z_istoreP, z_lstore, z_astore, z_iinc, z_iincP, z_iadd, z_isub, z_imul, z_iaddW, z_isubW, z_imulW, z_idiv, z_irem, z_iand, z_ior, z_ixor, z_ishl, z_ishr, z_iushr, z_ineg, z_i2l, z_i2b, z_i2s, z_i2c, z_l2i, z_ladd, z_lsub, z_land, z_lor, z_lshl, z_lshr, z_lcmp, z_dup, z_pop, z_dup2, z_goto, z_tsw, z_cases, z_geti, z_getr, z_puti, z_putz, z_ald, z_iast, z_bast, z_zast, z_alen, z_acopy, z_mmax, z_mmin, z_mabs, z_mabsL, z_iret, z_zret, z_nret, z_lret, z_aret, z_vret, z_cat, z_xald, z_xlen, z_ldcs, z_strv, z_strc, z_gcs, z_gfm, z_sln, z_sald, z_ifeq, z_ifne, z_iflt, z_ifge, z_ifgt, z_ifle, z_iceq, z_icne, z_iclt, z_icge, z_icgt, z_icle, z_cs0, z_cs1, z_cs2, z_cs3, z_cs4, z_cs5, z_cs6, z_cs7, z_cv0, z_cv1, z_cv2, z_cv3, z_cv4, z_cv5, z_cv6, z_cv7, z_g0, z_s0, z_g1, z_s1, z_g2, z_s2, z_g3, z_s3, z_g4, z_s4, z_g5, z_s5, z_g6, z_s6, z_g7, z_s7, z_g8, z_s8, z_g9, z_s9, z_g10, z_s10, z_g11, z_s11, z_g12, z_s12, z_g13, z_s13, z_b0, z_b1, z_b0n, z_b1n, z_up_far1, z_up_far2, z_up_far3, z_up_far4, z_up_far5, z_up_far6, Classical.not_not, not_true_eq_false, z_in, z_inL, Int.cast_ofNat_Int, Nat.reduceLeDiff, List.length_cons, List.length_nil, Nat.reduceAdd, Nat.zero_add, Nat.le_refl, true_and, and_true, List.length, Nat.reduceLT, true_or, or_true, false_or, or_false, false_and, and_false, not_true_eq_false, not_false_eq_true, forall_const, false_implies, true_implies, Int.reduceEq, Int.reduceLT, Int.reduceLE, Int.reduceAdd, Int.reduceSub, Int.reduceMul, Int.reduceNeg, Int.reduceToNat, Int.toNat_natCast, ↓reduceIte, reduceIte, Nat.reduceEqDiff, Nat.reduceSub, Nat.reduceMul, ne_eq, Int.zero_add, Int.add_zero, Int.sub_zero, Nat.add_zero, Int.ofNat_eq_natCast, tJ1_charAt_3b067_0, SJ0_checkIndex_df160, show 1100 + j - 1100 = j by omega, q.1, q.2.1]
  repeat' (first | (intro _) | (with_reducible assumption) | (refine And.intro ?_ ?_))
  all_goals first | omega | assumption | (refine z_fin h ?_ rfl; first | rfl | omega | (split <;> omega) | (split <;> split <;> omega)) | skip
theorem dJ1_charAt_3b067_0 : decode cJ1_charAt_3b067 0 = .ok (.iload_n 1, 1) := by decide +kernel
theorem dJ1_charAt_3b067_1 : decode cJ1_charAt_3b067 1 = .ok (.aload_n 0, 1) := by decide +kernel
theorem dJ1_charAt_3b067_2 : decode cJ1_charAt_3b067 2 = .ok (.arraylength, 1) := by decide +kernel
theorem dJ1_charAt_3b067_3 : decode cJ1_charAt_3b067 3 = .ok (.invokestatic 9, 3) := by decide +kernel
theorem dJ1_charAt_3b067_6 : decode cJ1_charAt_3b067 6 = .ok (.aload_n 0, 1) := by decide +kernel
theorem dJ1_charAt_3b067_7 : decode cJ1_charAt_3b067 7 = .ok (.iload_n 1, 1) := by decide +kernel
theorem dJ1_charAt_3b067_8 : decode cJ1_charAt_3b067 8 = .ok (.baload, 1) := by decide +kernel
theorem dJ1_charAt_3b067_9 : decode cJ1_charAt_3b067 9 = .ok (.sipush 255, 3) := by decide +kernel
theorem dJ1_charAt_3b067_12 : decode cJ1_charAt_3b067 12 = .ok (.iand, 1) := by decide +kernel
theorem dJ1_charAt_3b067_13 : decode cJ1_charAt_3b067 13 = .ok (.i2c, 1) := by decide +kernel
theorem dJ1_charAt_3b067_14 : decode cJ1_charAt_3b067 14 = .ok (.ireturn, 1) := by decide +kernel
set_option maxRecDepth 100000 in
theorem rJ1_charAt_3b067_0 {zx : zX} {zn : Nat} {p : Program} {l : Launch} {e : Env} {s : State} {m : MethodId} {args : Array Value} {below : List Frame} {meth : Method} {c : Code} {D : va_G} {cA : Nat → ClassId} {ad : Nat → Nat} {Ret : zR} (C : z_Cx zx zn (z_A zn ad) 0 0 p { frames := 2, cells := 0, slots := 0, locals := 43 } s m args c cJ1_charAt_3b067 yJ1_charAt_3b067.cls 2 D cA ad) (hr : meth.sig.returnType = (some .char)) (hlocks : meth.locks = false) : ∀ L st σ, tJ1_charAt_3b067_0 (z_X zx zn (z_A zn ad) 0 0 p l e { frames := 2, cells := 0, slots := 0, locals := 43 } s m args below meth c (MQ below (z_Qc zn D cA ad Ret) args s 0 0 (z_A zn ad)) 2 D cA ad true) Ret L st σ → z_X zx zn (z_A zn ad) 0 0 p l e { frames := 2, cells := 0, slots := 0, locals := 43 } s m args below meth c (MQ below (z_Qc zn D cA ad Ret) args s 0 0 (z_A zn ad)) 2 D cA ad true 0 L st σ := (s_iload_n C dJ1_charAt_3b067_0 rfl (s_aload_n C dJ1_charAt_3b067_1 rfl (s_sln C dJ1_charAt_3b067_2 (s_cs2 C dJ1_charAt_3b067_3 (okJ0_checkIndex_df160 l) wd_400 wd_401 wd_27 wd_402 ⟨by decide, by decide, by decide +kernel⟩ ⟨by decide, by decide⟩ (s_aload_n C dJ1_charAt_3b067_6 rfl (s_iload_n C dJ1_charAt_3b067_7 rfl (s_sald C dJ1_charAt_3b067_8 (s_sipush C dJ1_charAt_3b067_9 rfl ⟨by decide, by decide⟩ (s_iand C dJ1_charAt_3b067_12 (s_i2c C dJ1_charAt_3b067_13 (s_nret C dJ1_charAt_3b067_14 hr hlocks)))))))))))
theorem okJ1_charAt_3b067 {zx : zX} {zn : Nat} (l : Launch) : z_OK zx zn l yJ1_charAt_3b067 cJ1_charAt_3b067 2 (some .char) 2 43 SJ1_charAt_3b067 := by
  refine z_ok_of true (by decide +kernel) ?_ ?_
  · intro as σ Ret h
    obtain ⟨n1, k1, x2, rfl⟩ := pJ1_charAt_3b067 h
    exact ⟨Nat.le_of_ble_eq_true rfl, by simp⟩
  · intro p e s m args below meth c D cA ad Ret C hr hlocks as σ has hσ h
    obtain ⟨n1, k1, x2, rfl⟩ := pJ1_charAt_3b067 h
    exact vJ1_charAt_3b067 (rJ1_charAt_3b067_0 C hr hlocks) n1 k1 x2 σ (has _ (List.mem_of_getElem? (i := 0) rfl)).1 (has _ (List.mem_of_getElem? (i := 1) rfl)) hσ h
def SJ0_charAt_5068e : zS := fun as σ Ret => match as with
  | [.inr (.inr (200, 0, k)), .inl i] => (0 ≤ i ∧ i < (z_slen.getD (k - 1000) 0 : Int)) ∧ Ret (some (.inl (z_sch (k - 1000) i.toNat))) σ
  | _ => False
def tJ0_charAt_5068e_0 (X : Nat → zB) (Ret : zR) (L : zL) (st : List zV) (σ : zM) : Prop := (z_aload 0 (z_cv0 200 SJ0_isLatin1_aae02 (z_ifeq (z_aload 0 (z_strv (z_iload 1 (fun _ _ _ => False)))) (z_aload 0 (z_strv (z_iload 1 (z_cs2 SJ1_charAt_3b067 (z_nret .char Ret)))))))) L st σ
theorem pJ0_charAt_5068e {as : List zV} {σ : zM} {Ret : zR} (h : SJ0_charAt_5068e as σ Ret) : ∃ (k0 : Nat) (x1 : Int), as = [.inr (.inr (200, 0, k0)), .inl x1] := by
  unfold SJ0_charAt_5068e at h
  split at h
  · exact ⟨_, _, rfl⟩
  · exact h.elim
set_option maxRecDepth 10000 in
set_option maxHeartbeats 4000000 in
theorem vJ0_charAt_5068e {X : Nat → zB} {Ret : zR} (h0 : ∀ L st σ, tJ0_charAt_5068e_0 X Ret L st σ → X 0 L st σ) (k0 : Nat) (x1 : Int) (σ : zM) (hk0 : z_kd k0 = (200, 0)) (hx1 : -2147483648 ≤ x1 ∧ x1 ≤ 2147483647) (hσ : z_okm σ) (h : SJ0_charAt_5068e [.inr (.inr (200, 0, k0)), .inl x1] σ Ret) : X 0 [some (.inr (.inr (200, 0, k0))), some (.inl x1)] [] σ := by
  obtain ⟨⟨i0, i1⟩, h⟩ := h
  obtain ⟨j, hj, rfl, -⟩ := z_kd200 hk0
  obtain ⟨i, rfl⟩ := z_nat i0
  simp only [Int.toNat_natCast, show 1000 + j - 1000 = j by omega] at h i1
  have q := z_sch_ok j hj i (by omega)
  refine h0 _ _ _ ?_
  simp only [z_push, z_lpush, z_iload, z_lload, z_aload, z_istore, z_istoreP, z_lstore, z_astore, z_iinc, z_iincP, z_iadd, z_isub, z_imul, z_iaddW, z_isubW, z_imulW, z_idiv, z_irem, z_iand, z_ior, z_ixor, z_ishl, z_ishr, z_iushr, z_ineg, z_i2l, z_i2b, z_i2s, z_i2c, z_l2i, z_ladd, z_lsub, z_land, z_lor, z_lshl, z_lshr, z_lcmp, z_dup, z_pop, z_dup2, z_goto, z_tsw, z_cases, z_geti, z_getr, z_puti, z_putz, z_ald, z_iast, z_bast, z_zast, z_alen, z_acopy, z_mmax, z_mmin, z_mabs, z_mabsL, z_iret, z_zret, z_nret, z_lret, z_aret, z_vret, z_cat, z_xald, z_xlen, z_ldcs, z_strv, z_strc, z_gcs, z_gfm, z_sln, z_sald, z_ifeq, z_ifne, z_iflt, z_ifge, z_ifgt, z_ifle, z_iceq, z_icne, z_iclt, z_icge, z_icgt, z_icle, z_cs0, z_cs1, z_cs2, z_cs3, z_cs4, z_cs5, z_cs6, z_cs7, z_cv0, z_cv1, z_cv2, z_cv3, z_cv4, z_cv5, z_cv6, z_cv7, z_g0, z_s0, z_g1, z_s1, z_g2, z_s2, z_g3, z_s3, z_g4, z_s4, z_g5, z_s5, z_g6, z_s6, z_g7, z_s7, z_g8, z_s8, z_g9, z_s9, z_g10, z_s10, z_g11, z_s11, z_g12, z_s12, z_g13, z_s13, z_b0, z_b1, z_b0n, z_b1n, z_up_far1, z_up_far2, z_up_far3, z_up_far4, z_up_far5, z_up_far6, Classical.not_not, not_true_eq_false, z_in, z_inL, Int.cast_ofNat_Int, Nat.reduceLeDiff, List.length_cons, List.length_nil, Nat.reduceAdd, Nat.zero_add, Nat.le_refl, true_and, and_true, List.length, Nat.reduceLT, true_or, or_true, false_or, or_false, false_and, and_false, not_true_eq_false, not_false_eq_true, forall_const, false_implies, true_implies, Int.reduceEq, Int.reduceLT, Int.reduceLE, Int.reduceAdd, Int.reduceSub, Int.reduceMul, Int.reduceNeg, Int.reduceToNat, Int.toNat_natCast, ↓reduceIte, reduceIte, Nat.reduceEqDiff, Nat.reduceSub, Nat.reduceMul, ne_eq, Int.zero_add, Int.add_zero, Int.sub_zero, Nat.add_zero, Int.ofNat_eq_natCast, tJ0_charAt_5068e_0, SJ0_isLatin1_aae02, SJ1_charAt_3b067, show 1000 + j - 1000 = j by omega, show 1000 + j + 100 - 1100 = j by omega, q.2.1]
  repeat' (first | (intro _) | (with_reducible assumption) | (refine And.intro ?_ ?_))
  all_goals first | omega | assumption | (refine z_fin h ?_ rfl; first | rfl | omega | (split <;> omega) | (split <;> split <;> omega)) | skip
theorem dJ0_charAt_5068e_0 : decode cJ0_charAt_5068e 0 = .ok (.aload_n 0, 1) := by decide +kernel
theorem dJ0_charAt_5068e_1 : decode cJ0_charAt_5068e 1 = .ok (.invokevirtual 492, 3) := by decide +kernel
theorem dJ0_charAt_5068e_4 : decode cJ0_charAt_5068e 4 = .ok (.ifCond .eq 12, 3) := by decide +kernel
theorem dJ0_charAt_5068e_7 : decode cJ0_charAt_5068e 7 = .ok (.aload_n 0, 1) := by decide +kernel
theorem dJ0_charAt_5068e_8 : decode cJ0_charAt_5068e 8 = .ok (.getfield 9, 3) := by decide +kernel
theorem dJ0_charAt_5068e_11 : decode cJ0_charAt_5068e 11 = .ok (.iload_n 1, 1) := by decide +kernel
theorem dJ0_charAt_5068e_12 : decode cJ0_charAt_5068e 12 = .ok (.invokestatic 495, 3) := by decide +kernel
theorem dJ0_charAt_5068e_15 : decode cJ0_charAt_5068e 15 = .ok (.ireturn, 1) := by decide +kernel
theorem dJ0_charAt_5068e_16 : decode cJ0_charAt_5068e 16 = .ok (.aload_n 0, 1) := by decide +kernel
theorem dJ0_charAt_5068e_17 : decode cJ0_charAt_5068e 17 = .ok (.getfield 9, 3) := by decide +kernel
theorem dJ0_charAt_5068e_20 : decode cJ0_charAt_5068e 20 = .ok (.iload_n 1, 1) := by decide +kernel
theorem dJ0_charAt_5068e_21 : decode cJ0_charAt_5068e 21 = .ok (.invokestatic 498, 3) := by decide +kernel
set_option maxRecDepth 100000 in
theorem rJ0_charAt_5068e_0 {zx : zX} {zn : Nat} {p : Program} {l : Launch} {e : Env} {s : State} {m : MethodId} {args : Array Value} {below : List Frame} {meth : Method} {c : Code} {D : va_G} {cA : Nat → ClassId} {ad : Nat → Nat} {Ret : zR} (C : z_Cx zx zn (z_A zn ad) 0 0 p { frames := 3, cells := 0, slots := 0, locals := 64 } s m args c cJ0_charAt_5068e yJ0_charAt_5068e.cls 2 D cA ad) (hr : meth.sig.returnType = (some .char)) (hlocks : meth.locks = false) : ∀ L st σ, tJ0_charAt_5068e_0 (z_X zx zn (z_A zn ad) 0 0 p l e { frames := 3, cells := 0, slots := 0, locals := 64 } s m args below meth c (MQ below (z_Qc zn D cA ad Ret) args s 0 0 (z_A zn ad)) 2 D cA ad true) Ret L st σ → z_X zx zn (z_A zn ad) 0 0 p l e { frames := 3, cells := 0, slots := 0, locals := 64 } s m args below meth c (MQ below (z_Qc zn D cA ad Ret) args s 0 0 (z_A zn ad)) 2 D cA ad true 0 L st σ := (s_aload_n C dJ0_charAt_5068e_0 rfl (s_cz0 C dJ0_charAt_5068e_1 (okJ0_isLatin1_aae02 l) rfl wd_393 wd_394 wd_395 wd_27 wd_396 ⟨by decide, by decide, by decide +kernel⟩ ⟨by decide, by decide⟩ (s_ifeq C dJ0_charAt_5068e_4 (by decide) (s_aload_n C dJ0_charAt_5068e_16 rfl (s_strv C dJ0_charAt_5068e_17 wd_689 (s_iload_n C dJ0_charAt_5068e_20 rfl (fun _ _ _ h => h.elim)))) (s_aload_n C dJ0_charAt_5068e_7 rfl (s_strv C dJ0_charAt_5068e_8 wd_689 (s_iload_n C dJ0_charAt_5068e_11 rfl (s_cs2 C dJ0_charAt_5068e_12 (okJ1_charAt_3b067 l) wd_397 wd_398 wd_28 wd_399 ⟨by decide, by decide, by decide +kernel⟩ ⟨by decide, by decide⟩ (s_nret C dJ0_charAt_5068e_15 hr hlocks))))))))
theorem okJ0_charAt_5068e {zx : zX} {zn : Nat} (l : Launch) : z_OK zx zn l yJ0_charAt_5068e cJ0_charAt_5068e 2 (some .char) 3 64 SJ0_charAt_5068e := by
  refine z_ok_of true (by decide +kernel) ?_ ?_
  · intro as σ Ret h
    obtain ⟨k0, x1, rfl⟩ := pJ0_charAt_5068e h
    exact ⟨Nat.le_of_ble_eq_true rfl, by simp⟩
  · intro p e s m args below meth c D cA ad Ret C hr hlocks as σ has hσ h
    obtain ⟨k0, x1, rfl⟩ := pJ0_charAt_5068e h
    exact vJ0_charAt_5068e (rJ0_charAt_5068e_0 C hr hlocks) k0 x1 σ (has _ (List.mem_of_getElem? (i := 0) rfl)).1 (has _ (List.mem_of_getElem? (i := 1) rfl)) hσ h
