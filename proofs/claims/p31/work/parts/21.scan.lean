/-! the reader's scanning: Reader k: tape k+1, size (k, 1), start (k, 2), fault (k, 3), at (k, 4), sort (k, 5), value (k, 6) -/
def q_by (a : Nat → Int) (T : Nat) (p : Nat) : Int := if p < T then a p else -1
def q_bl (c : Int) : Bool := decide (c = 32 ∨ c = 10)
def q_let (c : Int) : Bool := decide (97 ≤ c ∧ c ≤ 122)
def q_fig (c : Int) : Bool := decide (48 ≤ c ∧ c ≤ 57)
def SX4_byteAt : zS := fun as σ Ret => match as with
  | [.inr (.inr (4, 0, k)), .inl p] => Ret (some (.inl (if (0 ≤ p ∧ p < σ k 1) ∧ p < 400 then σ (k + 1) p.toNat else -1))) σ
  | _ => False
def tX4_byteAt_0 (X : Nat → zB) (Ret : zR) (L : zL) (st : List zV) (σ : zM) : Prop := (z_iload 1 (z_iflt (z_push (-1) (z_iret Ret)) (z_iload 1 (z_aload 0 (z_geti 4 1 (z_icge (z_push (-1) (z_iret Ret)) (z_iload 1 (z_push 400 (z_icge (z_push (-1) (z_iret Ret)) (z_aload 0 (z_getr 4 1 101 400 (z_iload 1 (z_ald 1 (z_goto (z_iret Ret))))))))))))))) L st σ
theorem pX4_byteAt {as : List zV} {σ : zM} {Ret : zR} (h : SX4_byteAt as σ Ret) : ∃ (k0 : Nat) (x1 : Int), as = [.inr (.inr (4, 0, k0)), .inl x1] := by
  unfold SX4_byteAt at h
  split at h
  · exact ⟨_, _, rfl⟩
  · exact h.elim
set_option maxRecDepth 10000 in
set_option maxHeartbeats 4000000 in
theorem vX4_byteAt {X : Nat → zB} {Ret : zR} (h0 : ∀ L st σ, tX4_byteAt_0 X Ret L st σ → X 0 L st σ) (k0 : Nat) (x1 : Int) (σ : zM) (hk0 : z_kd k0 = (4, 0)) (hx1 : -2147483648 ≤ x1 ∧ x1 ≤ 2147483647) (hσ : z_okm σ) (h : SX4_byteAt [.inr (.inr (4, 0, k0)), .inl x1] σ Ret) : X 0 [some (.inr (.inr (4, 0, k0))), some (.inl x1)] [] σ := by
  refine h0 _ _ _ ?_
  simp only [SX4_byteAt] at h
  simp only [z_push, z_lpush, z_iload, z_lload, z_aload, z_istore, z_istoreP, z_lstore, z_astore, z_iinc, z_iincP, z_iadd, z_isub, z_imul, z_iaddW, z_isubW, z_imulW, z_idiv, z_irem, z_iand, z_ior, z_ixor, z_ishl, z_ishr, z_iushr, z_ineg, z_i2l, z_i2b, z_i2s, z_i2c, z_l2i, z_ladd, z_lsub, z_land, z_lor, z_lshl, z_lshr, z_lcmp, z_dup, z_pop, z_dup2, z_goto, z_tsw, z_cases, z_geti, z_getr, z_puti, z_putz, z_ald, z_iast, z_bast, z_zast, z_alen, z_acopy, z_mmax, z_mmin, z_mabs, z_mabsL, z_iret, z_zret, z_nret, z_lret, z_aret, z_vret, z_cat, z_xald, z_xlen, z_ldcs, z_strv, z_strc, z_gcs, z_gfm, z_sln, z_sald, z_ifeq, z_ifne, z_iflt, z_ifge, z_ifgt, z_ifle, z_iceq, z_icne, z_iclt, z_icge, z_icgt, z_icle, z_cs0, z_cs1, z_cs2, z_cs3, z_cs4, z_cs5, z_cs6, z_cs7, z_cv0, z_cv1, z_cv2, z_cv3, z_cv4, z_cv5, z_cv6, z_cv7, z_g0, z_s0, z_g1, z_s1, z_g2, z_s2, z_g3, z_s3, z_g4, z_s4, z_g5, z_s5, z_g6, z_s6, z_g7, z_s7, z_g8, z_s8, z_g9, z_s9, z_g10, z_s10, z_g11, z_s11, z_g12, z_s12, z_g13, z_s13, z_b0, z_b1, z_b0n, z_b1n, z_up_far1, z_up_far2, z_up_far3, z_up_far4, z_up_far5, z_up_far6, Classical.not_not, not_true_eq_false, z_in, z_inL, Int.cast_ofNat_Int, Nat.reduceLeDiff, List.length_cons, List.length_nil, Nat.reduceAdd, Nat.zero_add, Nat.le_refl, true_and, and_true, List.length, Nat.reduceLT, true_or, or_true, false_or, or_false, false_and, and_false, not_true_eq_false, not_false_eq_true, forall_const, false_implies, true_implies, Int.reduceEq, Int.reduceLT, Int.reduceLE, Int.reduceAdd, Int.reduceSub, Int.reduceMul, Int.reduceNeg, Int.reduceToNat, Int.toNat_natCast, ↓reduceIte, reduceIte, Nat.reduceEqDiff, Nat.reduceSub, Nat.reduceMul, ne_eq, Int.zero_add, Int.add_zero, Int.sub_zero, Nat.add_zero, Int.ofNat_eq_natCast, tX4_byteAt_0]
  repeat' (first | (intro _) | (with_reducible assumption) | (refine And.intro ?_ ?_))
  all_goals first | omega | assumption | (refine z_fin h ?_ rfl; first | rfl | omega | (split <;> omega) | (split <;> split <;> omega)) | skip
theorem dX4_byteAt_0 : decode cX4_byteAt 0 = .ok (.iload_n 1, 1) := by decide +kernel
theorem dX4_byteAt_1 : decode cX4_byteAt 1 = .ok (.ifCond .lt 27, 3) := by decide +kernel
theorem dX4_byteAt_4 : decode cX4_byteAt 4 = .ok (.iload_n 1, 1) := by decide +kernel
theorem dX4_byteAt_5 : decode cX4_byteAt 5 = .ok (.aload_n 0, 1) := by decide +kernel
theorem dX4_byteAt_6 : decode cX4_byteAt 6 = .ok (.getfield 15, 3) := by decide +kernel
theorem dX4_byteAt_9 : decode cX4_byteAt 9 = .ok (.if_icmp .ge 19, 3) := by decide +kernel
theorem dX4_byteAt_12 : decode cX4_byteAt 12 = .ok (.iload_n 1, 1) := by decide +kernel
theorem dX4_byteAt_13 : decode cX4_byteAt 13 = .ok (.sipush 400, 3) := by decide +kernel
theorem dX4_byteAt_16 : decode cX4_byteAt 16 = .ok (.if_icmp .ge 12, 3) := by decide +kernel
theorem dX4_byteAt_19 : decode cX4_byteAt 19 = .ok (.aload_n 0, 1) := by decide +kernel
theorem dX4_byteAt_20 : decode cX4_byteAt 20 = .ok (.getfield 9, 3) := by decide +kernel
theorem dX4_byteAt_23 : decode cX4_byteAt 23 = .ok (.iload_n 1, 1) := by decide +kernel
theorem dX4_byteAt_24 : decode cX4_byteAt 24 = .ok (.baload, 1) := by decide +kernel
theorem dX4_byteAt_25 : decode cX4_byteAt 25 = .ok (.goto 4, 3) := by decide +kernel
theorem dX4_byteAt_28 : decode cX4_byteAt 28 = .ok (.iconst (-1), 1) := by decide +kernel
theorem dX4_byteAt_29 : decode cX4_byteAt 29 = .ok (.ireturn, 1) := by decide +kernel
set_option maxRecDepth 100000 in
theorem rX4_byteAt_0 {zx : zX} {zn : Nat} {p : Program} {l : Launch} {e : Env} {s : State} {m : MethodId} {args : Array Value} {below : List Frame} {meth : Method} {c : Code} {D : va_G} {cA : Nat → ClassId} {ad : Nat → Nat} {Ret : zR} (C : z_Cx zx zn (z_A zn ad) 0 0 p { frames := 0, cells := 0, slots := 0, locals := 0 } s m args c cX4_byteAt yX4_byteAt.cls 2 D cA ad) (hr : meth.sig.returnType = (some .int)) (hlocks : meth.locks = false) : ∀ L st σ, tX4_byteAt_0 (z_X zx zn (z_A zn ad) 0 0 p l e { frames := 0, cells := 0, slots := 0, locals := 0 } s m args below meth c (MQ below (z_Qc zn D cA ad Ret) args s 0 0 (z_A zn ad)) 2 D cA ad true) Ret L st σ → z_X zx zn (z_A zn ad) 0 0 p l e { frames := 0, cells := 0, slots := 0, locals := 0 } s m args below meth c (MQ below (z_Qc zn D cA ad Ret) args s 0 0 (z_A zn ad)) 2 D cA ad true 0 L st σ := (s_iload_n C dX4_byteAt_0 rfl (s_iflt C dX4_byteAt_1 (by decide) (s_iconst C dX4_byteAt_28 rfl ⟨by decide, by decide⟩ (s_iret C dX4_byteAt_29 hr hlocks)) (s_iload_n C dX4_byteAt_4 rfl (s_aload_n C dX4_byteAt_5 rfl (s_geti C dX4_byteAt_6 cls_X4 (by decide) rfl wd_48 (s_icge C dX4_byteAt_9 (by decide) (s_iconst C dX4_byteAt_28 rfl ⟨by decide, by decide⟩ (s_iret C dX4_byteAt_29 hr hlocks)) (s_iload_n C dX4_byteAt_12 rfl (s_sipush C dX4_byteAt_13 rfl ⟨by decide, by decide⟩ (s_icge C dX4_byteAt_16 (by decide) (s_iconst C dX4_byteAt_28 rfl ⟨by decide, by decide⟩ (s_iret C dX4_byteAt_29 hr hlocks)) (s_aload_n C dX4_byteAt_19 rfl (s_getr C dX4_byteAt_20 (j := 0) cls_X4 (by decide) rfl (by decide) (by decide) (by decide +kernel) wd_47 (s_iload_n C dX4_byteAt_23 rfl (s_bald C dX4_byteAt_24 (s_goto C dX4_byteAt_25 (by decide) (s_iret C dX4_byteAt_29 hr hlocks)))))))))))))))
theorem okX4_byteAt {zx : zX} {zn : Nat} (l : Launch) : z_OK zx zn l yX4_byteAt cX4_byteAt 2 (some .int) 0 0 SX4_byteAt := by
  refine z_ok_of true (by decide +kernel) ?_ ?_
  · intro as σ Ret h
    obtain ⟨k0, x1, rfl⟩ := pX4_byteAt h
    exact ⟨Nat.le_of_ble_eq_true rfl, by simp⟩
  · intro p e s m args below meth c D cA ad Ret C hr hlocks as σ has hσ h
    obtain ⟨k0, x1, rfl⟩ := pX4_byteAt h
    exact vX4_byteAt (rX4_byteAt_0 C hr hlocks) k0 x1 σ (has _ (List.mem_of_getElem? (i := 0) rfl)).1 (has _ (List.mem_of_getElem? (i := 1) rfl)) hσ h
def SX4_isBlank : zS := fun as σ Ret => match as with
  | [.inl c] => Ret (some (.inl (if q_bl c then 1 else 0))) σ
  | _ => False
def tX4_isBlank_0 (X : Nat → zB) (Ret : zR) (L : zL) (st : List zV) (σ : zM) : Prop := (z_iload 0 (z_push 32 (z_iceq (z_push 1 (z_goto (z_zret Ret))) (z_iload 0 (z_push 10 (z_icne (z_push 0 (z_zret Ret)) (z_push 1 (z_goto (z_zret Ret))))))))) L st σ
theorem pX4_isBlank {as : List zV} {σ : zM} {Ret : zR} (h : SX4_isBlank as σ Ret) : ∃ (x1 : Int), as = [.inl x1] := by
  unfold SX4_isBlank at h
  split at h
  · exact ⟨_, rfl⟩
  · exact h.elim
set_option maxRecDepth 10000 in
set_option maxHeartbeats 4000000 in
theorem vX4_isBlank {X : Nat → zB} {Ret : zR} (h0 : ∀ L st σ, tX4_isBlank_0 X Ret L st σ → X 0 L st σ) (x1 : Int) (σ : zM) (hx1 : -2147483648 ≤ x1 ∧ x1 ≤ 2147483647) (hσ : z_okm σ) (h : SX4_isBlank [.inl x1] σ Ret) : X 0 [some (.inl x1)] [] σ := by
  refine h0 _ _ _ ?_
  simp only [SX4_isBlank, q_bl, decide_eq_true_eq] at h
  simp only [z_push, z_lpush, z_iload, z_lload, z_aload, z_istore, z_istoreP, z_lstore, z_astore, z_iinc, z_iincP, z_iadd, z_isub, z_imul, z_iaddW, z_isubW, z_imulW, z_idiv, z_irem, z_iand, z_ior, z_ixor, z_ishl, z_ishr, z_iushr, z_ineg, z_i2l, z_i2b, z_i2s, z_i2c, z_l2i, z_ladd, z_lsub, z_land, z_lor, z_lshl, z_lshr, z_lcmp, z_dup, z_pop, z_dup2, z_goto, z_tsw, z_cases, z_geti, z_getr, z_puti, z_putz, z_ald, z_iast, z_bast, z_zast, z_alen, z_acopy, z_mmax, z_mmin, z_mabs, z_mabsL, z_iret, z_zret, z_nret, z_lret, z_aret, z_vret, z_cat, z_xald, z_xlen, z_ldcs, z_strv, z_strc, z_gcs, z_gfm, z_sln, z_sald, z_ifeq, z_ifne, z_iflt, z_ifge, z_ifgt, z_ifle, z_iceq, z_icne, z_iclt, z_icge, z_icgt, z_icle, z_cs0, z_cs1, z_cs2, z_cs3, z_cs4, z_cs5, z_cs6, z_cs7, z_cv0, z_cv1, z_cv2, z_cv3, z_cv4, z_cv5, z_cv6, z_cv7, z_g0, z_s0, z_g1, z_s1, z_g2, z_s2, z_g3, z_s3, z_g4, z_s4, z_g5, z_s5, z_g6, z_s6, z_g7, z_s7, z_g8, z_s8, z_g9, z_s9, z_g10, z_s10, z_g11, z_s11, z_g12, z_s12, z_g13, z_s13, z_b0, z_b1, z_b0n, z_b1n, z_up_far1, z_up_far2, z_up_far3, z_up_far4, z_up_far5, z_up_far6, Classical.not_not, not_true_eq_false, z_in, z_inL, Int.cast_ofNat_Int, Nat.reduceLeDiff, List.length_cons, List.length_nil, Nat.reduceAdd, Nat.zero_add, Nat.le_refl, true_and, and_true, List.length, Nat.reduceLT, true_or, or_true, false_or, or_false, false_and, and_false, not_true_eq_false, not_false_eq_true, forall_const, false_implies, true_implies, Int.reduceEq, Int.reduceLT, Int.reduceLE, Int.reduceAdd, Int.reduceSub, Int.reduceMul, Int.reduceNeg, Int.reduceToNat, Int.toNat_natCast, ↓reduceIte, reduceIte, Nat.reduceEqDiff, Nat.reduceSub, Nat.reduceMul, ne_eq, Int.zero_add, Int.add_zero, Int.sub_zero, Nat.add_zero, Int.ofNat_eq_natCast, tX4_isBlank_0]
  repeat' (first | (intro _) | (with_reducible assumption) | (refine And.intro ?_ ?_))
  all_goals first | omega | assumption | (refine z_fin h ?_ rfl; first | rfl | omega | (split <;> omega) | (split <;> split <;> omega)) | skip
theorem dX4_isBlank_0 : decode cX4_isBlank 0 = .ok (.iload_n 0, 1) := by decide +kernel
theorem dX4_isBlank_1 : decode cX4_isBlank 1 = .ok (.bipush 32, 2) := by decide +kernel
theorem dX4_isBlank_3 : decode cX4_isBlank 3 = .ok (.if_icmp .eq 9, 3) := by decide +kernel
theorem dX4_isBlank_6 : decode cX4_isBlank 6 = .ok (.iload_n 0, 1) := by decide +kernel
theorem dX4_isBlank_7 : decode cX4_isBlank 7 = .ok (.bipush 10, 2) := by decide +kernel
theorem dX4_isBlank_9 : decode cX4_isBlank 9 = .ok (.if_icmp .ne 7, 3) := by decide +kernel
theorem dX4_isBlank_12 : decode cX4_isBlank 12 = .ok (.iconst 1, 1) := by decide +kernel
theorem dX4_isBlank_13 : decode cX4_isBlank 13 = .ok (.goto 4, 3) := by decide +kernel
theorem dX4_isBlank_16 : decode cX4_isBlank 16 = .ok (.iconst 0, 1) := by decide +kernel
theorem dX4_isBlank_17 : decode cX4_isBlank 17 = .ok (.ireturn, 1) := by decide +kernel
set_option maxRecDepth 100000 in
theorem rX4_isBlank_0 {zx : zX} {zn : Nat} {p : Program} {l : Launch} {e : Env} {s : State} {m : MethodId} {args : Array Value} {below : List Frame} {meth : Method} {c : Code} {D : va_G} {cA : Nat → ClassId} {ad : Nat → Nat} {Ret : zR} (C : z_Cx zx zn (z_A zn ad) 0 0 p { frames := 0, cells := 0, slots := 0, locals := 0 } s m args c cX4_isBlank yX4_isBlank.cls 1 D cA ad) (hr : meth.sig.returnType = (some .boolean)) (hlocks : meth.locks = false) : ∀ L st σ, tX4_isBlank_0 (z_X zx zn (z_A zn ad) 0 0 p l e { frames := 0, cells := 0, slots := 0, locals := 0 } s m args below meth c (MQ below (z_Qc zn D cA ad Ret) args s 0 0 (z_A zn ad)) 1 D cA ad true) Ret L st σ → z_X zx zn (z_A zn ad) 0 0 p l e { frames := 0, cells := 0, slots := 0, locals := 0 } s m args below meth c (MQ below (z_Qc zn D cA ad Ret) args s 0 0 (z_A zn ad)) 1 D cA ad true 0 L st σ := (s_iload_n C dX4_isBlank_0 rfl (s_bipush C dX4_isBlank_1 rfl ⟨by decide, by decide⟩ (s_iceq C dX4_isBlank_3 (by decide) (s_iconst C dX4_isBlank_12 rfl ⟨by decide, by decide⟩ (s_goto C dX4_isBlank_13 (by decide) (s_zret C dX4_isBlank_17 hr ⟨rfl, rfl⟩ hlocks))) (s_iload_n C dX4_isBlank_6 rfl (s_bipush C dX4_isBlank_7 rfl ⟨by decide, by decide⟩ (s_icne C dX4_isBlank_9 (by decide) (s_iconst C dX4_isBlank_16 rfl ⟨by decide, by decide⟩ (s_zret C dX4_isBlank_17 hr ⟨rfl, rfl⟩ hlocks)) (s_iconst C dX4_isBlank_12 rfl ⟨by decide, by decide⟩ (s_goto C dX4_isBlank_13 (by decide) (s_zret C dX4_isBlank_17 hr ⟨rfl, rfl⟩ hlocks)))))))))
theorem okX4_isBlank {zx : zX} {zn : Nat} (l : Launch) : z_OK zx zn l yX4_isBlank cX4_isBlank 1 (some .boolean) 0 0 SX4_isBlank := by
  refine z_ok_of true (by decide +kernel) ?_ ?_
  · intro as σ Ret h
    obtain ⟨x1, rfl⟩ := pX4_isBlank h
    exact ⟨Nat.le_of_ble_eq_true rfl, by simp⟩
  · intro p e s m args below meth c D cA ad Ret C hr hlocks as σ has hσ h
    obtain ⟨x1, rfl⟩ := pX4_isBlank h
    exact vX4_isBlank (rX4_isBlank_0 C hr hlocks) x1 σ (has _ (List.mem_of_getElem? (i := 0) rfl)) hσ h
def SX4_isLetter : zS := fun as σ Ret => match as with
  | [.inl c] => Ret (some (.inl (if q_let c then 1 else 0))) σ
  | _ => False
def tX4_isLetter_0 (X : Nat → zB) (Ret : zR) (L : zL) (st : List zV) (σ : zM) : Prop := (z_iload 0 (z_push 97 (z_iclt (z_push 0 (z_zret Ret)) (z_iload 0 (z_push 122 (z_icgt (z_push 0 (z_zret Ret)) (z_push 1 (z_goto (z_zret Ret))))))))) L st σ
theorem pX4_isLetter {as : List zV} {σ : zM} {Ret : zR} (h : SX4_isLetter as σ Ret) : ∃ (x1 : Int), as = [.inl x1] := by
  unfold SX4_isLetter at h
  split at h
  · exact ⟨_, rfl⟩
  · exact h.elim
set_option maxRecDepth 10000 in
set_option maxHeartbeats 4000000 in
theorem vX4_isLetter {X : Nat → zB} {Ret : zR} (h0 : ∀ L st σ, tX4_isLetter_0 X Ret L st σ → X 0 L st σ) (x1 : Int) (σ : zM) (hx1 : -2147483648 ≤ x1 ∧ x1 ≤ 2147483647) (hσ : z_okm σ) (h : SX4_isLetter [.inl x1] σ Ret) : X 0 [some (.inl x1)] [] σ := by
  refine h0 _ _ _ ?_
  simp only [SX4_isLetter, q_let, decide_eq_true_eq] at h
  simp only [z_push, z_lpush, z_iload, z_lload, z_aload, z_istore, z_istoreP, z_lstore, z_astore, z_iinc, z_iincP, z_iadd, z_isub, z_imul, z_iaddW, z_isubW, z_imulW, z_idiv, z_irem, z_iand, z_ior, z_ixor, z_ishl, z_ishr, z_iushr, z_ineg, z_i2l, z_i2b, z_i2s, z_i2c, z_l2i, z_ladd, z_lsub, z_land, z_lor, z_lshl, z_lshr, z_lcmp, z_dup, z_pop, z_dup2, z_goto, z_tsw, z_cases, z_geti, z_getr, z_puti, z_putz, z_ald, z_iast, z_bast, z_zast, z_alen, z_acopy, z_mmax, z_mmin, z_mabs, z_mabsL, z_iret, z_zret, z_nret, z_lret, z_aret, z_vret, z_cat, z_xald, z_xlen, z_ldcs, z_strv, z_strc, z_gcs, z_gfm, z_sln, z_sald, z_ifeq, z_ifne, z_iflt, z_ifge, z_ifgt, z_ifle, z_iceq, z_icne, z_iclt, z_icge, z_icgt, z_icle, z_cs0, z_cs1, z_cs2, z_cs3, z_cs4, z_cs5, z_cs6, z_cs7, z_cv0, z_cv1, z_cv2, z_cv3, z_cv4, z_cv5, z_cv6, z_cv7, z_g0, z_s0, z_g1, z_s1, z_g2, z_s2, z_g3, z_s3, z_g4, z_s4, z_g5, z_s5, z_g6, z_s6, z_g7, z_s7, z_g8, z_s8, z_g9, z_s9, z_g10, z_s10, z_g11, z_s11, z_g12, z_s12, z_g13, z_s13, z_b0, z_b1, z_b0n, z_b1n, z_up_far1, z_up_far2, z_up_far3, z_up_far4, z_up_far5, z_up_far6, Classical.not_not, not_true_eq_false, z_in, z_inL, Int.cast_ofNat_Int, Nat.reduceLeDiff, List.length_cons, List.length_nil, Nat.reduceAdd, Nat.zero_add, Nat.le_refl, true_and, and_true, List.length, Nat.reduceLT, true_or, or_true, false_or, or_false, false_and, and_false, not_true_eq_false, not_false_eq_true, forall_const, false_implies, true_implies, Int.reduceEq, Int.reduceLT, Int.reduceLE, Int.reduceAdd, Int.reduceSub, Int.reduceMul, Int.reduceNeg, Int.reduceToNat, Int.toNat_natCast, ↓reduceIte, reduceIte, Nat.reduceEqDiff, Nat.reduceSub, Nat.reduceMul, ne_eq, Int.zero_add, Int.add_zero, Int.sub_zero, Nat.add_zero, Int.ofNat_eq_natCast, tX4_isLetter_0]
  repeat' (first | (intro _) | (with_reducible assumption) | (refine And.intro ?_ ?_))
  all_goals first | omega | assumption | (refine z_fin h ?_ rfl; first | rfl | omega | (split <;> omega) | (split <;> split <;> omega)) | skip
theorem dX4_isLetter_0 : decode cX4_isLetter 0 = .ok (.iload_n 0, 1) := by decide +kernel
theorem dX4_isLetter_1 : decode cX4_isLetter 1 = .ok (.bipush 97, 2) := by decide +kernel
theorem dX4_isLetter_3 : decode cX4_isLetter 3 = .ok (.if_icmp .lt 13, 3) := by decide +kernel
theorem dX4_isLetter_6 : decode cX4_isLetter 6 = .ok (.iload_n 0, 1) := by decide +kernel
theorem dX4_isLetter_7 : decode cX4_isLetter 7 = .ok (.bipush 122, 2) := by decide +kernel
theorem dX4_isLetter_9 : decode cX4_isLetter 9 = .ok (.if_icmp .gt 7, 3) := by decide +kernel
theorem dX4_isLetter_12 : decode cX4_isLetter 12 = .ok (.iconst 1, 1) := by decide +kernel
theorem dX4_isLetter_13 : decode cX4_isLetter 13 = .ok (.goto 4, 3) := by decide +kernel
theorem dX4_isLetter_16 : decode cX4_isLetter 16 = .ok (.iconst 0, 1) := by decide +kernel
theorem dX4_isLetter_17 : decode cX4_isLetter 17 = .ok (.ireturn, 1) := by decide +kernel
set_option maxRecDepth 100000 in
theorem rX4_isLetter_0 {zx : zX} {zn : Nat} {p : Program} {l : Launch} {e : Env} {s : State} {m : MethodId} {args : Array Value} {below : List Frame} {meth : Method} {c : Code} {D : va_G} {cA : Nat → ClassId} {ad : Nat → Nat} {Ret : zR} (C : z_Cx zx zn (z_A zn ad) 0 0 p { frames := 0, cells := 0, slots := 0, locals := 0 } s m args c cX4_isLetter yX4_isLetter.cls 1 D cA ad) (hr : meth.sig.returnType = (some .boolean)) (hlocks : meth.locks = false) : ∀ L st σ, tX4_isLetter_0 (z_X zx zn (z_A zn ad) 0 0 p l e { frames := 0, cells := 0, slots := 0, locals := 0 } s m args below meth c (MQ below (z_Qc zn D cA ad Ret) args s 0 0 (z_A zn ad)) 1 D cA ad true) Ret L st σ → z_X zx zn (z_A zn ad) 0 0 p l e { frames := 0, cells := 0, slots := 0, locals := 0 } s m args below meth c (MQ below (z_Qc zn D cA ad Ret) args s 0 0 (z_A zn ad)) 1 D cA ad true 0 L st σ := (s_iload_n C dX4_isLetter_0 rfl (s_bipush C dX4_isLetter_1 rfl ⟨by decide, by decide⟩ (s_iclt C dX4_isLetter_3 (by decide) (s_iconst C dX4_isLetter_16 rfl ⟨by decide, by decide⟩ (s_zret C dX4_isLetter_17 hr ⟨rfl, rfl⟩ hlocks)) (s_iload_n C dX4_isLetter_6 rfl (s_bipush C dX4_isLetter_7 rfl ⟨by decide, by decide⟩ (s_icgt C dX4_isLetter_9 (by decide) (s_iconst C dX4_isLetter_16 rfl ⟨by decide, by decide⟩ (s_zret C dX4_isLetter_17 hr ⟨rfl, rfl⟩ hlocks)) (s_iconst C dX4_isLetter_12 rfl ⟨by decide, by decide⟩ (s_goto C dX4_isLetter_13 (by decide) (s_zret C dX4_isLetter_17 hr ⟨rfl, rfl⟩ hlocks)))))))))
theorem okX4_isLetter {zx : zX} {zn : Nat} (l : Launch) : z_OK zx zn l yX4_isLetter cX4_isLetter 1 (some .boolean) 0 0 SX4_isLetter := by
  refine z_ok_of true (by decide +kernel) ?_ ?_
  · intro as σ Ret h
    obtain ⟨x1, rfl⟩ := pX4_isLetter h
    exact ⟨Nat.le_of_ble_eq_true rfl, by simp⟩
  · intro p e s m args below meth c D cA ad Ret C hr hlocks as σ has hσ h
    obtain ⟨x1, rfl⟩ := pX4_isLetter h
    exact vX4_isLetter (rX4_isLetter_0 C hr hlocks) x1 σ (has _ (List.mem_of_getElem? (i := 0) rfl)) hσ h
def SX4_isFigure : zS := fun as σ Ret => match as with
  | [.inl c] => Ret (some (.inl (if q_fig c then 1 else 0))) σ
  | _ => False
def tX4_isFigure_0 (X : Nat → zB) (Ret : zR) (L : zL) (st : List zV) (σ : zM) : Prop := (z_iload 0 (z_push 48 (z_iclt (z_push 0 (z_zret Ret)) (z_iload 0 (z_push 57 (z_icgt (z_push 0 (z_zret Ret)) (z_push 1 (z_goto (z_zret Ret))))))))) L st σ
theorem pX4_isFigure {as : List zV} {σ : zM} {Ret : zR} (h : SX4_isFigure as σ Ret) : ∃ (x1 : Int), as = [.inl x1] := by
  unfold SX4_isFigure at h
  split at h
  · exact ⟨_, rfl⟩
  · exact h.elim
set_option maxRecDepth 10000 in
set_option maxHeartbeats 4000000 in
theorem vX4_isFigure {X : Nat → zB} {Ret : zR} (h0 : ∀ L st σ, tX4_isFigure_0 X Ret L st σ → X 0 L st σ) (x1 : Int) (σ : zM) (hx1 : -2147483648 ≤ x1 ∧ x1 ≤ 2147483647) (hσ : z_okm σ) (h : SX4_isFigure [.inl x1] σ Ret) : X 0 [some (.inl x1)] [] σ := by
  refine h0 _ _ _ ?_
  simp only [SX4_isFigure, q_fig, decide_eq_true_eq] at h
  simp only [z_push, z_lpush, z_iload, z_lload, z_aload, z_istore, z_istoreP, z_lstore, z_astore, z_iinc, z_iincP, z_iadd, z_isub, z_imul, z_iaddW, z_isubW, z_imulW, z_idiv, z_irem, z_iand, z_ior, z_ixor, z_ishl, z_ishr, z_iushr, z_ineg, z_i2l, z_i2b, z_i2s, z_i2c, z_l2i, z_ladd, z_lsub, z_land, z_lor, z_lshl, z_lshr, z_lcmp, z_dup, z_pop, z_dup2, z_goto, z_tsw, z_cases, z_geti, z_getr, z_puti, z_putz, z_ald, z_iast, z_bast, z_zast, z_alen, z_acopy, z_mmax, z_mmin, z_mabs, z_mabsL, z_iret, z_zret, z_nret, z_lret, z_aret, z_vret, z_cat, z_xald, z_xlen, z_ldcs, z_strv, z_strc, z_gcs, z_gfm, z_sln, z_sald, z_ifeq, z_ifne, z_iflt, z_ifge, z_ifgt, z_ifle, z_iceq, z_icne, z_iclt, z_icge, z_icgt, z_icle, z_cs0, z_cs1, z_cs2, z_cs3, z_cs4, z_cs5, z_cs6, z_cs7, z_cv0, z_cv1, z_cv2, z_cv3, z_cv4, z_cv5, z_cv6, z_cv7, z_g0, z_s0, z_g1, z_s1, z_g2, z_s2, z_g3, z_s3, z_g4, z_s4, z_g5, z_s5, z_g6, z_s6, z_g7, z_s7, z_g8, z_s8, z_g9, z_s9, z_g10, z_s10, z_g11, z_s11, z_g12, z_s12, z_g13, z_s13, z_b0, z_b1, z_b0n, z_b1n, z_up_far1, z_up_far2, z_up_far3, z_up_far4, z_up_far5, z_up_far6, Classical.not_not, not_true_eq_false, z_in, z_inL, Int.cast_ofNat_Int, Nat.reduceLeDiff, List.length_cons, List.length_nil, Nat.reduceAdd, Nat.zero_add, Nat.le_refl, true_and, and_true, List.length, Nat.reduceLT, true_or, or_true, false_or, or_false, false_and, and_false, not_true_eq_false, not_false_eq_true, forall_const, false_implies, true_implies, Int.reduceEq, Int.reduceLT, Int.reduceLE, Int.reduceAdd, Int.reduceSub, Int.reduceMul, Int.reduceNeg, Int.reduceToNat, Int.toNat_natCast, ↓reduceIte, reduceIte, Nat.reduceEqDiff, Nat.reduceSub, Nat.reduceMul, ne_eq, Int.zero_add, Int.add_zero, Int.sub_zero, Nat.add_zero, Int.ofNat_eq_natCast, tX4_isFigure_0]
  repeat' (first | (intro _) | (with_reducible assumption) | (refine And.intro ?_ ?_))
  all_goals first | omega | assumption | (refine z_fin h ?_ rfl; first | rfl | omega | (split <;> omega) | (split <;> split <;> omega)) | skip
theorem dX4_isFigure_0 : decode cX4_isFigure 0 = .ok (.iload_n 0, 1) := by decide +kernel
theorem dX4_isFigure_1 : decode cX4_isFigure 1 = .ok (.bipush 48, 2) := by decide +kernel
theorem dX4_isFigure_3 : decode cX4_isFigure 3 = .ok (.if_icmp .lt 13, 3) := by decide +kernel
theorem dX4_isFigure_6 : decode cX4_isFigure 6 = .ok (.iload_n 0, 1) := by decide +kernel
theorem dX4_isFigure_7 : decode cX4_isFigure 7 = .ok (.bipush 57, 2) := by decide +kernel
theorem dX4_isFigure_9 : decode cX4_isFigure 9 = .ok (.if_icmp .gt 7, 3) := by decide +kernel
theorem dX4_isFigure_12 : decode cX4_isFigure 12 = .ok (.iconst 1, 1) := by decide +kernel
theorem dX4_isFigure_13 : decode cX4_isFigure 13 = .ok (.goto 4, 3) := by decide +kernel
theorem dX4_isFigure_16 : decode cX4_isFigure 16 = .ok (.iconst 0, 1) := by decide +kernel
theorem dX4_isFigure_17 : decode cX4_isFigure 17 = .ok (.ireturn, 1) := by decide +kernel
set_option maxRecDepth 100000 in
theorem rX4_isFigure_0 {zx : zX} {zn : Nat} {p : Program} {l : Launch} {e : Env} {s : State} {m : MethodId} {args : Array Value} {below : List Frame} {meth : Method} {c : Code} {D : va_G} {cA : Nat → ClassId} {ad : Nat → Nat} {Ret : zR} (C : z_Cx zx zn (z_A zn ad) 0 0 p { frames := 0, cells := 0, slots := 0, locals := 0 } s m args c cX4_isFigure yX4_isFigure.cls 1 D cA ad) (hr : meth.sig.returnType = (some .boolean)) (hlocks : meth.locks = false) : ∀ L st σ, tX4_isFigure_0 (z_X zx zn (z_A zn ad) 0 0 p l e { frames := 0, cells := 0, slots := 0, locals := 0 } s m args below meth c (MQ below (z_Qc zn D cA ad Ret) args s 0 0 (z_A zn ad)) 1 D cA ad true) Ret L st σ → z_X zx zn (z_A zn ad) 0 0 p l e { frames := 0, cells := 0, slots := 0, locals := 0 } s m args below meth c (MQ below (z_Qc zn D cA ad Ret) args s 0 0 (z_A zn ad)) 1 D cA ad true 0 L st σ := (s_iload_n C dX4_isFigure_0 rfl (s_bipush C dX4_isFigure_1 rfl ⟨by decide, by decide⟩ (s_iclt C dX4_isFigure_3 (by decide) (s_iconst C dX4_isFigure_16 rfl ⟨by decide, by decide⟩ (s_zret C dX4_isFigure_17 hr ⟨rfl, rfl⟩ hlocks)) (s_iload_n C dX4_isFigure_6 rfl (s_bipush C dX4_isFigure_7 rfl ⟨by decide, by decide⟩ (s_icgt C dX4_isFigure_9 (by decide) (s_iconst C dX4_isFigure_16 rfl ⟨by decide, by decide⟩ (s_zret C dX4_isFigure_17 hr ⟨rfl, rfl⟩ hlocks)) (s_iconst C dX4_isFigure_12 rfl ⟨by decide, by decide⟩ (s_goto C dX4_isFigure_13 (by decide) (s_zret C dX4_isFigure_17 hr ⟨rfl, rfl⟩ hlocks)))))))))
theorem okX4_isFigure {zx : zX} {zn : Nat} (l : Launch) : z_OK zx zn l yX4_isFigure cX4_isFigure 1 (some .boolean) 0 0 SX4_isFigure := by
  refine z_ok_of true (by decide +kernel) ?_ ?_
  · intro as σ Ret h
    obtain ⟨x1, rfl⟩ := pX4_isFigure h
    exact ⟨Nat.le_of_ble_eq_true rfl, by simp⟩
  · intro p e s m args below meth c D cA ad Ret C hr hlocks as σ has hσ h
    obtain ⟨x1, rfl⟩ := pX4_isFigure h
    exact vX4_isFigure (rX4_isFigure_0 C hr hlocks) x1 σ (has _ (List.mem_of_getElem? (i := 0) rfl)) hσ h
def SX4_isMore : zS := fun as σ Ret => match as with
  | [.inr (.inr (4, 0, k))] => Ret (some (.inl (if σ k 3 = 0 ∧ ¬ σ k 5 = 0 then 1 else 0))) σ
  | _ => False
def tX4_isMore_0 (X : Nat → zB) (Ret : zR) (L : zL) (st : List zV) (σ : zM) : Prop := (z_aload 0 (z_geti 4 3 (z_ifne (z_push 0 (z_zret Ret)) (z_aload 0 (z_geti 4 5 (z_ifeq (z_push 0 (z_zret Ret)) (z_push 1 (z_goto (z_zret Ret))))))))) L st σ
theorem pX4_isMore {as : List zV} {σ : zM} {Ret : zR} (h : SX4_isMore as σ Ret) : ∃ (k0 : Nat), as = [.inr (.inr (4, 0, k0))] := by
  unfold SX4_isMore at h
  split at h
  · exact ⟨_, rfl⟩
  · exact h.elim
set_option maxRecDepth 10000 in
set_option maxHeartbeats 4000000 in
theorem vX4_isMore {X : Nat → zB} {Ret : zR} (h0 : ∀ L st σ, tX4_isMore_0 X Ret L st σ → X 0 L st σ) (k0 : Nat) (σ : zM) (hk0 : z_kd k0 = (4, 0)) (hσ : z_okm σ) (h : SX4_isMore [.inr (.inr (4, 0, k0))] σ Ret) : X 0 [some (.inr (.inr (4, 0, k0)))] [] σ := by
  refine h0 _ _ _ ?_
  simp only [SX4_isMore] at h
  simp only [z_push, z_lpush, z_iload, z_lload, z_aload, z_istore, z_istoreP, z_lstore, z_astore, z_iinc, z_iincP, z_iadd, z_isub, z_imul, z_iaddW, z_isubW, z_imulW, z_idiv, z_irem, z_iand, z_ior, z_ixor, z_ishl, z_ishr, z_iushr, z_ineg, z_i2l, z_i2b, z_i2s, z_i2c, z_l2i, z_ladd, z_lsub, z_land, z_lor, z_lshl, z_lshr, z_lcmp, z_dup, z_pop, z_dup2, z_goto, z_tsw, z_cases, z_geti, z_getr, z_puti, z_putz, z_ald, z_iast, z_bast, z_zast, z_alen, z_acopy, z_mmax, z_mmin, z_mabs, z_mabsL, z_iret, z_zret, z_nret, z_lret, z_aret, z_vret, z_cat, z_xald, z_xlen, z_ldcs, z_strv, z_strc, z_gcs, z_gfm, z_sln, z_sald, z_ifeq, z_ifne, z_iflt, z_ifge, z_ifgt, z_ifle, z_iceq, z_icne, z_iclt, z_icge, z_icgt, z_icle, z_cs0, z_cs1, z_cs2, z_cs3, z_cs4, z_cs5, z_cs6, z_cs7, z_cv0, z_cv1, z_cv2, z_cv3, z_cv4, z_cv5, z_cv6, z_cv7, z_g0, z_s0, z_g1, z_s1, z_g2, z_s2, z_g3, z_s3, z_g4, z_s4, z_g5, z_s5, z_g6, z_s6, z_g7, z_s7, z_g8, z_s8, z_g9, z_s9, z_g10, z_s10, z_g11, z_s11, z_g12, z_s12, z_g13, z_s13, z_b0, z_b1, z_b0n, z_b1n, z_up_far1, z_up_far2, z_up_far3, z_up_far4, z_up_far5, z_up_far6, Classical.not_not, not_true_eq_false, z_in, z_inL, Int.cast_ofNat_Int, Nat.reduceLeDiff, List.length_cons, List.length_nil, Nat.reduceAdd, Nat.zero_add, Nat.le_refl, true_and, and_true, List.length, Nat.reduceLT, true_or, or_true, false_or, or_false, false_and, and_false, not_true_eq_false, not_false_eq_true, forall_const, false_implies, true_implies, Int.reduceEq, Int.reduceLT, Int.reduceLE, Int.reduceAdd, Int.reduceSub, Int.reduceMul, Int.reduceNeg, Int.reduceToNat, Int.toNat_natCast, ↓reduceIte, reduceIte, Nat.reduceEqDiff, Nat.reduceSub, Nat.reduceMul, ne_eq, Int.zero_add, Int.add_zero, Int.sub_zero, Nat.add_zero, Int.ofNat_eq_natCast, tX4_isMore_0]
  repeat' (first | (intro _) | (with_reducible assumption) | (refine And.intro ?_ ?_))
  all_goals first | omega | assumption | (refine z_fin h ?_ rfl; first | rfl | omega | (split <;> omega) | (split <;> split <;> omega)) | skip
theorem dX4_isMore_0 : decode cX4_isMore 0 = .ok (.aload_n 0, 1) := by decide +kernel
theorem dX4_isMore_1 : decode cX4_isMore 1 = .ok (.getfield 47, 3) := by decide +kernel
theorem dX4_isMore_4 : decode cX4_isMore 4 = .ok (.ifCond .ne 14, 3) := by decide +kernel
theorem dX4_isMore_7 : decode cX4_isMore 7 = .ok (.aload_n 0, 1) := by decide +kernel
theorem dX4_isMore_8 : decode cX4_isMore 8 = .ok (.getfield 53, 3) := by decide +kernel
theorem dX4_isMore_11 : decode cX4_isMore 11 = .ok (.ifCond .eq 7, 3) := by decide +kernel
theorem dX4_isMore_14 : decode cX4_isMore 14 = .ok (.iconst 1, 1) := by decide +kernel
theorem dX4_isMore_15 : decode cX4_isMore 15 = .ok (.goto 4, 3) := by decide +kernel
theorem dX4_isMore_18 : decode cX4_isMore 18 = .ok (.iconst 0, 1) := by decide +kernel
theorem dX4_isMore_19 : decode cX4_isMore 19 = .ok (.ireturn, 1) := by decide +kernel
set_option maxRecDepth 100000 in
theorem rX4_isMore_0 {zx : zX} {zn : Nat} {p : Program} {l : Launch} {e : Env} {s : State} {m : MethodId} {args : Array Value} {below : List Frame} {meth : Method} {c : Code} {D : va_G} {cA : Nat → ClassId} {ad : Nat → Nat} {Ret : zR} (C : z_Cx zx zn (z_A zn ad) 0 0 p { frames := 0, cells := 0, slots := 0, locals := 0 } s m args c cX4_isMore yX4_isMore.cls 1 D cA ad) (hr : meth.sig.returnType = (some .boolean)) (hlocks : meth.locks = false) : ∀ L st σ, tX4_isMore_0 (z_X zx zn (z_A zn ad) 0 0 p l e { frames := 0, cells := 0, slots := 0, locals := 0 } s m args below meth c (MQ below (z_Qc zn D cA ad Ret) args s 0 0 (z_A zn ad)) 1 D cA ad true) Ret L st σ → z_X zx zn (z_A zn ad) 0 0 p l e { frames := 0, cells := 0, slots := 0, locals := 0 } s m args below meth c (MQ below (z_Qc zn D cA ad Ret) args s 0 0 (z_A zn ad)) 1 D cA ad true 0 L st σ := (s_aload_n C dX4_isMore_0 rfl (s_geti C dX4_isMore_1 cls_X4 (by decide) rfl wd_52 (s_ifne C dX4_isMore_4 (by decide) (s_iconst C dX4_isMore_18 rfl ⟨by decide, by decide⟩ (s_zret C dX4_isMore_19 hr ⟨rfl, rfl⟩ hlocks)) (s_aload_n C dX4_isMore_7 rfl (s_geti C dX4_isMore_8 cls_X4 (by decide) rfl wd_55 (s_ifeq C dX4_isMore_11 (by decide) (s_iconst C dX4_isMore_18 rfl ⟨by decide, by decide⟩ (s_zret C dX4_isMore_19 hr ⟨rfl, rfl⟩ hlocks)) (s_iconst C dX4_isMore_14 rfl ⟨by decide, by decide⟩ (s_goto C dX4_isMore_15 (by decide) (s_zret C dX4_isMore_19 hr ⟨rfl, rfl⟩ hlocks)))))))))
theorem okX4_isMore {zx : zX} {zn : Nat} (l : Launch) : z_OK zx zn l yX4_isMore cX4_isMore 1 (some .boolean) 0 0 SX4_isMore := by
  refine z_ok_of true (by decide +kernel) ?_ ?_
  · intro as σ Ret h
    obtain ⟨k0, rfl⟩ := pX4_isMore h
    exact ⟨Nat.le_of_ble_eq_true rfl, by simp⟩
  · intro p e s m args below meth c D cA ad Ret C hr hlocks as σ has hσ h
    obtain ⟨k0, rfl⟩ := pX4_isMore h
    exact vX4_isMore (rX4_isMore_0 C hr hlocks) k0 σ (has _ (List.mem_of_getElem? (i := 0) rfl)).1 hσ h
def SX4_fail : zS := fun as σ Ret => match as with
  | [.inr (.inr (4, 0, k)), .inl n] => (σ k 3 = 0 → Ret none (z_up σ k 3 n)) ∧ (¬ σ k 3 = 0 → Ret none σ)
  | _ => False
def tX4_fail_0 (X : Nat → zB) (Ret : zR) (L : zL) (st : List zV) (σ : zM) : Prop := (z_aload 0 (z_geti 4 3 (z_ifne (z_vret Ret) (z_aload 0 (z_iload 1 (z_puti 4 3 (z_vret Ret))))))) L st σ
theorem pX4_fail {as : List zV} {σ : zM} {Ret : zR} (h : SX4_fail as σ Ret) : ∃ (k0 : Nat) (x1 : Int), as = [.inr (.inr (4, 0, k0)), .inl x1] := by
  unfold SX4_fail at h
  split at h
  · exact ⟨_, _, rfl⟩
  · exact h.elim
set_option maxRecDepth 10000 in
set_option maxHeartbeats 4000000 in
theorem vX4_fail {X : Nat → zB} {Ret : zR} (h0 : ∀ L st σ, tX4_fail_0 X Ret L st σ → X 0 L st σ) (k0 : Nat) (x1 : Int) (σ : zM) (hk0 : z_kd k0 = (4, 0)) (hx1 : -2147483648 ≤ x1 ∧ x1 ≤ 2147483647) (hσ : z_okm σ) (h : SX4_fail [.inr (.inr (4, 0, k0)), .inl x1] σ Ret) : X 0 [some (.inr (.inr (4, 0, k0))), some (.inl x1)] [] σ := by
  refine h0 _ _ _ ?_
  simp only [SX4_fail] at h
  simp only [z_push, z_lpush, z_iload, z_lload, z_aload, z_istore, z_istoreP, z_lstore, z_astore, z_iinc, z_iincP, z_iadd, z_isub, z_imul, z_iaddW, z_isubW, z_imulW, z_idiv, z_irem, z_iand, z_ior, z_ixor, z_ishl, z_ishr, z_iushr, z_ineg, z_i2l, z_i2b, z_i2s, z_i2c, z_l2i, z_ladd, z_lsub, z_land, z_lor, z_lshl, z_lshr, z_lcmp, z_dup, z_pop, z_dup2, z_goto, z_tsw, z_cases, z_geti, z_getr, z_puti, z_putz, z_ald, z_iast, z_bast, z_zast, z_alen, z_acopy, z_mmax, z_mmin, z_mabs, z_mabsL, z_iret, z_zret, z_nret, z_lret, z_aret, z_vret, z_cat, z_xald, z_xlen, z_ldcs, z_strv, z_strc, z_gcs, z_gfm, z_sln, z_sald, z_ifeq, z_ifne, z_iflt, z_ifge, z_ifgt, z_ifle, z_iceq, z_icne, z_iclt, z_icge, z_icgt, z_icle, z_cs0, z_cs1, z_cs2, z_cs3, z_cs4, z_cs5, z_cs6, z_cs7, z_cv0, z_cv1, z_cv2, z_cv3, z_cv4, z_cv5, z_cv6, z_cv7, z_g0, z_s0, z_g1, z_s1, z_g2, z_s2, z_g3, z_s3, z_g4, z_s4, z_g5, z_s5, z_g6, z_s6, z_g7, z_s7, z_g8, z_s8, z_g9, z_s9, z_g10, z_s10, z_g11, z_s11, z_g12, z_s12, z_g13, z_s13, z_b0, z_b1, z_b0n, z_b1n, z_up_far1, z_up_far2, z_up_far3, z_up_far4, z_up_far5, z_up_far6, Classical.not_not, not_true_eq_false, z_in, z_inL, Int.cast_ofNat_Int, Nat.reduceLeDiff, List.length_cons, List.length_nil, Nat.reduceAdd, Nat.zero_add, Nat.le_refl, true_and, and_true, List.length, Nat.reduceLT, true_or, or_true, false_or, or_false, false_and, and_false, not_true_eq_false, not_false_eq_true, forall_const, false_implies, true_implies, Int.reduceEq, Int.reduceLT, Int.reduceLE, Int.reduceAdd, Int.reduceSub, Int.reduceMul, Int.reduceNeg, Int.reduceToNat, Int.toNat_natCast, ↓reduceIte, reduceIte, Nat.reduceEqDiff, Nat.reduceSub, Nat.reduceMul, ne_eq, Int.zero_add, Int.add_zero, Int.sub_zero, Nat.add_zero, Int.ofNat_eq_natCast, tX4_fail_0]
  repeat' (first | (intro _) | (with_reducible assumption) | (refine And.intro ?_ ?_))
  all_goals first | omega | assumption | (refine z_fin h ?_ rfl; first | rfl | omega | (split <;> omega) | (split <;> split <;> omega)) | skip
  · exact h.2 (by assumption)
  · exact h.1 (by assumption)
theorem dX4_fail_0 : decode cX4_fail 0 = .ok (.aload_n 0, 1) := by decide +kernel
theorem dX4_fail_1 : decode cX4_fail 1 = .ok (.getfield 47, 3) := by decide +kernel
theorem dX4_fail_4 : decode cX4_fail 4 = .ok (.ifCond .ne 8, 3) := by decide +kernel
theorem dX4_fail_7 : decode cX4_fail 7 = .ok (.aload_n 0, 1) := by decide +kernel
theorem dX4_fail_8 : decode cX4_fail 8 = .ok (.iload_n 1, 1) := by decide +kernel
theorem dX4_fail_9 : decode cX4_fail 9 = .ok (.putfield 47, 3) := by decide +kernel
theorem dX4_fail_12 : decode cX4_fail 12 = .ok (.return_, 1) := by decide +kernel
set_option maxRecDepth 100000 in
theorem rX4_fail_0 {zx : zX} {zn : Nat} {p : Program} {l : Launch} {e : Env} {s : State} {m : MethodId} {args : Array Value} {below : List Frame} {meth : Method} {c : Code} {D : va_G} {cA : Nat → ClassId} {ad : Nat → Nat} {Ret : zR} (C : z_Cx zx zn (z_A zn ad) 0 0 p { frames := 0, cells := 0, slots := 0, locals := 0 } s m args c cX4_fail yX4_fail.cls 2 D cA ad) (hr : meth.sig.returnType = none) (hlocks : meth.locks = false) : ∀ L st σ, tX4_fail_0 (z_X zx zn (z_A zn ad) 0 0 p l e { frames := 0, cells := 0, slots := 0, locals := 0 } s m args below meth c (MQ below (z_Qc zn D cA ad Ret) args s 0 0 (z_A zn ad)) 2 D cA ad true) Ret L st σ → z_X zx zn (z_A zn ad) 0 0 p l e { frames := 0, cells := 0, slots := 0, locals := 0 } s m args below meth c (MQ below (z_Qc zn D cA ad Ret) args s 0 0 (z_A zn ad)) 2 D cA ad true 0 L st σ := (s_aload_n C dX4_fail_0 rfl (s_geti C dX4_fail_1 cls_X4 (by decide) rfl wd_52 (s_ifne C dX4_fail_4 (by decide) (s_vret C dX4_fail_12 hr hlocks) (s_aload_n C dX4_fail_7 rfl (s_iload_n C dX4_fail_8 rfl (s_puti C dX4_fail_9 cls_X4 (by decide) rfl wd_52 rfl rfl (s_vret C dX4_fail_12 hr hlocks)))))))
theorem okX4_fail {zx : zX} {zn : Nat} (l : Launch) : z_OK zx zn l yX4_fail cX4_fail 2 none 0 0 SX4_fail := by
  refine z_ok_of true (by decide +kernel) ?_ ?_
  · intro as σ Ret h
    obtain ⟨k0, x1, rfl⟩ := pX4_fail h
    exact ⟨Nat.le_of_ble_eq_true rfl, by simp⟩
  · intro p e s m args below meth c D cA ad Ret C hr hlocks as σ has hσ h
    obtain ⟨k0, x1, rfl⟩ := pX4_fail h
    exact vX4_fail (rX4_fail_0 C hr hlocks) k0 x1 σ (has _ (List.mem_of_getElem? (i := 0) rfl)).1 (has _ (List.mem_of_getElem? (i := 1) rfl)) hσ h
/-- the end of a run of bytes that f takes, from p on -/
def q_end (f : Nat → Bool) (p : Nat) : Nat → Nat
  | 0 => p
  | n + 1 => if f p then q_end f (p + 1) n else p
theorem q_end_ge (f : Nat → Bool) : ∀ (n p : Nat), p ≤ q_end f p n
  | 0, _ => Nat.le_refl _
  | n + 1, p => by
    unfold q_end
    split
    · have := q_end_ge f n (p + 1); omega
    · exact Nat.le_refl _
theorem q_end_le (f : Nat → Bool) : ∀ (n p : Nat), q_end f p n ≤ p + n
  | 0, _ => Nat.le_refl _
  | n + 1, p => by
    unfold q_end
    split
    · have := q_end_le f n (p + 1); omega
    · omega
/-- tokens over the bytes b (none at T and behind): start, end, sort (0 end, 1 name, 2 number, 3 sign, 4 none), number -/
def q_ts (b : Nat → Int) (T p : Nat) : Nat := q_end (fun i => q_bl (b i)) p (T - p)
def q_te (b : Nat → Int) (T p : Nat) : Nat := if T ≤ q_ts b T p then q_ts b T p else if q_let (b (q_ts b T p)) then q_end (fun i => q_let (b i)) (q_ts b T p) (T - q_ts b T p) else if q_fig (b (q_ts b T p)) then q_end (fun i => q_fig (b i)) (q_ts b T p) (T - q_ts b T p) else q_ts b T p + 1
def q_tk (b : Nat → Int) (T p : Nat) : Int := if T ≤ q_ts b T p then 0 else if q_let (b (q_ts b T p)) then 1 else if q_fig (b (q_ts b T p)) then (if q_ts b T p + 3 < q_te b T p then 4 else 2) else if b (q_ts b T p) = 59 then 3 else 4
def q_num (b : Nat → Int) (s : Nat) : Nat → Int
  | 0 => 0
  | n + 1 => 10 * q_num b s n + b (s + n) - 48
theorem q_ts_in {b : Nat → Int} {T p : Nat} (h : p ≤ T) : p ≤ q_ts b T p ∧ q_ts b T p ≤ T := by
  unfold q_ts
  have h1 := q_end_ge (fun i => q_bl (b i)) (T - p) p
  have h2 := q_end_le (fun i => q_bl (b i)) (T - p) p
  omega
theorem q_te_in {b : Nat → Int} {T p : Nat} (h : p ≤ T) : q_ts b T p ≤ q_te b T p ∧ q_te b T p ≤ T := by
  have h0 := q_ts_in (b := b) h
  unfold q_te
  split
  · omega
  · split
    · have h1 := q_end_ge (fun i => q_let (b i)) (T - q_ts b T p) (q_ts b T p)
      have h2 := q_end_le (fun i => q_let (b i)) (T - q_ts b T p) (q_ts b T p)
      omega
    · split
      · have h1 := q_end_ge (fun i => q_fig (b i)) (T - q_ts b T p) (q_ts b T p)
        have h2 := q_end_le (fun i => q_fig (b i)) (T - q_ts b T p) (q_ts b T p)
        omega
      · omega
/-- the reader stands behind the token that begins at p or behind blanks -/
def q_at (σ : zM) (k : Nat) (b : Nat → Int) (T p : Nat) : Prop := σ k 2 = (q_ts b T p : Int) ∧ σ k 4 = (q_te b T p : Int) ∧ σ k 5 = q_tk b T p ∧ (q_tk b T p = 2 → σ k 6 = q_num b (q_ts b T p) (q_te b T p - q_ts b T p))
def q_rd (σ : zM) (k : Nat) (a : Nat → Int) (T : Nat) : Prop := σ k 1 = (T : Int) ∧ T ≤ 400 ∧ ∀ j, σ (k + 1) j = a j
def SX4_next : zS := fun as σ Ret => match as with
  | [.inr (.inr (4, 0, k))] => (0 ≤ σ k 4 ∧ σ k 4 ≤ σ k 1 ∧ σ k 1 ≤ 400) ∧ ∀ σ' : zM, (∀ c j, ¬ (c = k ∧ (j = 2 ∨ j = 4 ∨ j = 5 ∨ j = 6)) → σ' c j = σ c j) → q_at σ' k (q_by (σ (k + 1)) (σ k 1).toNat) (σ k 1).toNat (σ k 4).toNat → Ret none σ'
  | _ => False
