/-! Asks k: bodies k+1, how many (k, 1), tree (k, 2), kind (k, 3), length (k, 4), tone (k, 5) -/
def q_lv (σ : zM) (k : Nat) (b : Int) : zM := if σ k 1 < 16 then z_up (z_up σ (k + 1) (σ k 1).toNat b) k 1 (σ k 1 + 1) else σ
theorem q_lv_ne {σ : zM} {k : Nat} {b : Int} {j : Nat} (h : j ≠ 1) : q_lv σ k b k j = σ k j := by
  unfold q_lv
  split
  · rw [z_up_ne (Or.inr h), z_up_ne (Or.inl (by omega))]
  · rfl
theorem q_lv_1 {σ : zM} {k : Nat} {b : Int} (h : 0 ≤ σ k 1) : 0 ≤ q_lv σ k b k 1 := by
  unfold q_lv
  split
  · rw [z_up_eq]; omega
  · exact h
theorem q_lv_far {σ : zM} {k : Nat} {b : Int} {c j : Nat} (h : c ≠ k ∧ c ≠ k + 1) : q_lv σ k b c j = σ c j := by
  unfold q_lv
  split
  · rw [z_up_ne (Or.inl h.1), z_up_ne (Or.inl h.2)]
  · rfl
def q_ak (σ : zM) (k : Nat) : Prop := 0 ≤ σ k 1 ∧ (0 ≤ σ k 2 ∧ σ k 2 ≤ 1000) ∧ (0 ≤ σ k 4 ∧ σ k 4 ≤ 1000) ∧ 0 ≤ σ k 5 ∧ σ k 5 ≤ 1000000
theorem q_ak_lv {σ : zM} {k : Nat} {b : Int} (h : q_ak σ k) : q_ak (q_lv σ k b) k := by
  unfold q_ak at h ⊢
  rw [q_lv_ne (j := 2) (by decide), q_lv_ne (j := 4) (by decide), q_lv_ne (j := 5) (by decide)]
  exact ⟨q_lv_1 h.1, h.2⟩
def SX0_begin : zS := fun as σ Ret => match as with
  | [.inr (.inr (0, 0, k)), .inl t, .inl d, .inl l, .inl n] => Ret none (z_up (z_up (z_up (z_up (z_up σ k 1 0) k 2 t) k 3 d) k 4 l) k 5 n)
  | _ => False
def tX0_begin_0 (X : Nat → zB) (Ret : zR) (L : zL) (st : List zV) (σ : zM) : Prop := (z_aload 0 (z_push 0 (z_puti 0 1 (z_aload 0 (z_iload 1 (z_puti 0 2 (z_aload 0 (z_iload 2 (z_puti 0 3 (z_aload 0 (z_iload 3 (z_puti 0 4 (z_aload 0 (z_iload 4 (z_puti 0 5 (z_vret Ret)))))))))))))))) L st σ
theorem pX0_begin {as : List zV} {σ : zM} {Ret : zR} (h : SX0_begin as σ Ret) : ∃ (k0 : Nat) (x1 : Int) (x2 : Int) (x3 : Int) (x4 : Int), as = [.inr (.inr (0, 0, k0)), .inl x1, .inl x2, .inl x3, .inl x4] := by
  unfold SX0_begin at h
  split at h
  · exact ⟨_, _, _, _, _, rfl⟩
  · exact h.elim
set_option maxRecDepth 10000 in
set_option maxHeartbeats 4000000 in
theorem vX0_begin {X : Nat → zB} {Ret : zR} (h0 : ∀ L st σ, tX0_begin_0 X Ret L st σ → X 0 L st σ) (k0 : Nat) (x1 : Int) (x2 : Int) (x3 : Int) (x4 : Int) (σ : zM) (hk0 : z_kd k0 = (0, 0)) (hx1 : -2147483648 ≤ x1 ∧ x1 ≤ 2147483647) (hx2 : -2147483648 ≤ x2 ∧ x2 ≤ 2147483647) (hx3 : -2147483648 ≤ x3 ∧ x3 ≤ 2147483647) (hx4 : -2147483648 ≤ x4 ∧ x4 ≤ 2147483647) (hσ : z_okm σ) (h : SX0_begin [.inr (.inr (0, 0, k0)), .inl x1, .inl x2, .inl x3, .inl x4] σ Ret) : X 0 [some (.inr (.inr (0, 0, k0))), some (.inl x1), some (.inl x2), some (.inl x3), some (.inl x4)] [] σ := by
  refine h0 _ _ _ ?_
  simp only [z_push, z_lpush, z_iload, z_lload, z_aload, z_istore, z_istoreP, z_lstore, z_astore, z_iinc, z_iincP, z_iadd, z_isub, z_imul, z_iaddW, z_isubW, z_imulW, z_idiv, z_irem, z_iand, z_ior, z_ixor, z_ishl, z_ishr, z_iushr, z_ineg, z_i2l, z_i2b, z_i2s, z_i2c, z_l2i, z_ladd, z_lsub, z_land, z_lor, z_lshl, z_lshr, z_lcmp, z_dup, z_pop, z_dup2, z_goto, z_tsw, z_cases, z_geti, z_getr, z_puti, z_putz, z_ald, z_iast, z_bast, z_zast, z_alen, z_acopy, z_mmax, z_mmin, z_mabs, z_mabsL, z_iret, z_zret, z_nret, z_lret, z_aret, z_vret, z_cat, z_ldcs, z_strv, z_strc, z_gcs, z_gfm, z_sln, z_sald, z_ifeq, z_ifne, z_iflt, z_ifge, z_ifgt, z_ifle, z_iceq, z_icne, z_iclt, z_icge, z_icgt, z_icle, z_cs0, z_cs1, z_cs2, z_cs3, z_cs4, z_cs5, z_cs6, z_cs7, z_cv0, z_cv1, z_cv2, z_cv3, z_cv4, z_cv5, z_cv6, z_cv7, z_g0, z_s0, z_g1, z_s1, z_g2, z_s2, z_g3, z_s3, z_g4, z_s4, z_g5, z_s5, z_g6, z_s6, z_g7, z_s7, z_g8, z_s8, z_g9, z_s9, z_g10, z_s10, z_g11, z_s11, z_g12, z_s12, z_g13, z_s13, z_b0, z_b1, z_b0n, z_b1n, z_up_far1, z_up_far2, z_up_far3, z_up_far4, z_up_far5, z_up_far6, Classical.not_not, not_true_eq_false, z_in, z_inL, Int.cast_ofNat_Int, Nat.reduceLeDiff, List.length_cons, List.length_nil, Nat.reduceAdd, Nat.zero_add, Nat.le_refl, true_and, and_true, List.length, Nat.reduceLT, true_or, or_true, false_or, or_false, false_and, and_false, not_true_eq_false, not_false_eq_true, forall_const, false_implies, true_implies, Int.reduceEq, Int.reduceLT, Int.reduceLE, Int.reduceAdd, Int.reduceSub, Int.reduceMul, Int.reduceNeg, Int.reduceToNat, Int.toNat_natCast, ↓reduceIte, reduceIte, Nat.reduceEqDiff, Nat.reduceSub, Nat.reduceMul, ne_eq, Int.zero_add, Int.add_zero, Int.sub_zero, Nat.add_zero, Int.ofNat_eq_natCast, tX0_begin_0]
  exact h
theorem dX0_begin_0 : decode cX0_begin 0 = .ok (.aload_n 0, 1) := by decide +kernel
theorem dX0_begin_1 : decode cX0_begin 1 = .ok (.iconst 0, 1) := by decide +kernel
theorem dX0_begin_2 : decode cX0_begin 2 = .ok (.putfield 15, 3) := by decide +kernel
theorem dX0_begin_5 : decode cX0_begin 5 = .ok (.aload_n 0, 1) := by decide +kernel
theorem dX0_begin_6 : decode cX0_begin 6 = .ok (.iload_n 1, 1) := by decide +kernel
theorem dX0_begin_7 : decode cX0_begin 7 = .ok (.putfield 19, 3) := by decide +kernel
theorem dX0_begin_10 : decode cX0_begin 10 = .ok (.aload_n 0, 1) := by decide +kernel
theorem dX0_begin_11 : decode cX0_begin 11 = .ok (.iload_n 2, 1) := by decide +kernel
theorem dX0_begin_12 : decode cX0_begin 12 = .ok (.putfield 22, 3) := by decide +kernel
theorem dX0_begin_15 : decode cX0_begin 15 = .ok (.aload_n 0, 1) := by decide +kernel
theorem dX0_begin_16 : decode cX0_begin 16 = .ok (.iload_n 3, 1) := by decide +kernel
theorem dX0_begin_17 : decode cX0_begin 17 = .ok (.putfield 25, 3) := by decide +kernel
theorem dX0_begin_20 : decode cX0_begin 20 = .ok (.aload_n 0, 1) := by decide +kernel
theorem dX0_begin_21 : decode cX0_begin 21 = .ok (.iload 4, 2) := by decide +kernel
theorem dX0_begin_23 : decode cX0_begin 23 = .ok (.putfield 28, 3) := by decide +kernel
theorem dX0_begin_26 : decode cX0_begin 26 = .ok (.return_, 1) := by decide +kernel
set_option maxRecDepth 100000 in
theorem rX0_begin_0 {p : Program} {l : Launch} {e : Env} {s : State} {m : MethodId} {args : Array Value} {below : List Frame} {meth : Method} {c : Code} {D : va_G} {cA : Nat → ClassId} {ad : Nat → Nat} {Ret : zR} (C : z_Cx p { frames := 0, cells := 0, slots := 0, locals := 0 } s m args c cX0_begin yX0_begin.cls 5 D cA ad) (hr : meth.sig.returnType = none) (hlocks : meth.locks = false) : ∀ L st σ, tX0_begin_0 (z_X p l e { frames := 0, cells := 0, slots := 0, locals := 0 } s m args below meth c (MQ below (z_Qc D cA ad Ret) args s 0 0 (z_A ad)) 5 D cA ad true) Ret L st σ → z_X p l e { frames := 0, cells := 0, slots := 0, locals := 0 } s m args below meth c (MQ below (z_Qc D cA ad Ret) args s 0 0 (z_A ad)) 5 D cA ad true 0 L st σ := (s_aload_n C dX0_begin_0 rfl (s_iconst C dX0_begin_1 rfl ⟨by decide, by decide⟩ (s_puti C dX0_begin_2 cls_X0 (by decide) rfl wd_338 rfl rfl (s_aload_n C dX0_begin_5 rfl (s_iload_n C dX0_begin_6 rfl (s_puti C dX0_begin_7 cls_X0 (by decide) rfl wd_340 rfl rfl (s_aload_n C dX0_begin_10 rfl (s_iload_n C dX0_begin_11 rfl (s_puti C dX0_begin_12 cls_X0 (by decide) rfl wd_341 rfl rfl (s_aload_n C dX0_begin_15 rfl (s_iload_n C dX0_begin_16 rfl (s_puti C dX0_begin_17 cls_X0 (by decide) rfl wd_342 rfl rfl (s_aload_n C dX0_begin_20 rfl (s_iload C dX0_begin_21 (s_puti C dX0_begin_23 cls_X0 (by decide) rfl wd_343 rfl rfl (s_vret C dX0_begin_26 hr hlocks))))))))))))))))
theorem okX0_begin (l : Launch) : z_OK l yX0_begin cX0_begin 5 none 0 0 SX0_begin := by
  refine z_ok_of true (by decide +kernel) ?_ ?_
  · intro as σ Ret h
    obtain ⟨k0, x1, x2, x3, x4, rfl⟩ := pX0_begin h
    exact ⟨Nat.le_of_ble_eq_true rfl, by simp⟩
  · intro p e s m args below meth c D cA ad Ret C hr hlocks as σ has hσ h
    obtain ⟨k0, x1, x2, x3, x4, rfl⟩ := pX0_begin h
    exact vX0_begin (rX0_begin_0 C hr hlocks) k0 x1 x2 x3 x4 σ (has _ (List.mem_of_getElem? (i := 0) rfl)) (has _ (List.mem_of_getElem? (i := 1) rfl)) (has _ (List.mem_of_getElem? (i := 2) rfl)) (has _ (List.mem_of_getElem? (i := 3) rfl)) (has _ (List.mem_of_getElem? (i := 4) rfl)) hσ h
def SX0_leave : zS := fun as σ Ret => match as with
  | [.inr (.inr (0, 0, k)), .inl b] => 0 ≤ σ k 1 ∧ Ret none (q_lv σ k b)
  | _ => False
def tX0_leave_0 (X : Nat → zB) (Ret : zR) (L : zL) (st : List zV) (σ : zM) : Prop := (z_aload 0 (z_geti 0 1 (z_push 16 (z_icge (z_vret Ret) (z_aload 0 (z_getr 0 1 100 16 (z_aload 0 (z_geti 0 1 (z_iload 1 (z_iast (z_aload 0 (z_dup (z_geti 0 1 (z_push 1 (z_iadd (z_puti 0 1 (z_vret Ret))))))))))))))))) L st σ
theorem pX0_leave {as : List zV} {σ : zM} {Ret : zR} (h : SX0_leave as σ Ret) : ∃ (k0 : Nat) (x1 : Int), as = [.inr (.inr (0, 0, k0)), .inl x1] := by
  unfold SX0_leave at h
  split at h
  · exact ⟨_, _, rfl⟩
  · exact h.elim
set_option maxRecDepth 10000 in
set_option maxHeartbeats 4000000 in
theorem vX0_leave {X : Nat → zB} {Ret : zR} (h0 : ∀ L st σ, tX0_leave_0 X Ret L st σ → X 0 L st σ) (k0 : Nat) (x1 : Int) (σ : zM) (hk0 : z_kd k0 = (0, 0)) (hx1 : -2147483648 ≤ x1 ∧ x1 ≤ 2147483647) (hσ : z_okm σ) (h : SX0_leave [.inr (.inr (0, 0, k0)), .inl x1] σ Ret) : X 0 [some (.inr (.inr (0, 0, k0))), some (.inl x1)] [] σ := by
  obtain ⟨hc, h⟩ := h
  unfold q_lv at h
  refine h0 _ _ _ ?_
  simp only [z_push, z_lpush, z_iload, z_lload, z_aload, z_istore, z_istoreP, z_lstore, z_astore, z_iinc, z_iincP, z_iadd, z_isub, z_imul, z_iaddW, z_isubW, z_imulW, z_idiv, z_irem, z_iand, z_ior, z_ixor, z_ishl, z_ishr, z_iushr, z_ineg, z_i2l, z_i2b, z_i2s, z_i2c, z_l2i, z_ladd, z_lsub, z_land, z_lor, z_lshl, z_lshr, z_lcmp, z_dup, z_pop, z_dup2, z_goto, z_tsw, z_cases, z_geti, z_getr, z_puti, z_putz, z_ald, z_iast, z_bast, z_zast, z_alen, z_acopy, z_mmax, z_mmin, z_mabs, z_mabsL, z_iret, z_zret, z_nret, z_lret, z_aret, z_vret, z_cat, z_ldcs, z_strv, z_strc, z_gcs, z_gfm, z_sln, z_sald, z_ifeq, z_ifne, z_iflt, z_ifge, z_ifgt, z_ifle, z_iceq, z_icne, z_iclt, z_icge, z_icgt, z_icle, z_cs0, z_cs1, z_cs2, z_cs3, z_cs4, z_cs5, z_cs6, z_cs7, z_cv0, z_cv1, z_cv2, z_cv3, z_cv4, z_cv5, z_cv6, z_cv7, z_g0, z_s0, z_g1, z_s1, z_g2, z_s2, z_g3, z_s3, z_g4, z_s4, z_g5, z_s5, z_g6, z_s6, z_g7, z_s7, z_g8, z_s8, z_g9, z_s9, z_g10, z_s10, z_g11, z_s11, z_g12, z_s12, z_g13, z_s13, z_b0, z_b1, z_b0n, z_b1n, z_up_far1, z_up_far2, z_up_far3, z_up_far4, z_up_far5, z_up_far6, Classical.not_not, not_true_eq_false, z_in, z_inL, Int.cast_ofNat_Int, Nat.reduceLeDiff, List.length_cons, List.length_nil, Nat.reduceAdd, Nat.zero_add, Nat.le_refl, true_and, and_true, List.length, Nat.reduceLT, true_or, or_true, false_or, or_false, false_and, and_false, not_true_eq_false, not_false_eq_true, forall_const, false_implies, true_implies, Int.reduceEq, Int.reduceLT, Int.reduceLE, Int.reduceAdd, Int.reduceSub, Int.reduceMul, Int.reduceNeg, Int.reduceToNat, Int.toNat_natCast, ↓reduceIte, reduceIte, Nat.reduceEqDiff, Nat.reduceSub, Nat.reduceMul, ne_eq, Int.zero_add, Int.add_zero, Int.sub_zero, Nat.add_zero, Int.ofNat_eq_natCast, tX0_leave_0]
  by_cases q : σ k0 1 < 16
  · rw [if_pos q] at h
    repeat' (first | (intro _) | (with_reducible assumption) | (refine And.intro ?_ ?_))
    all_goals first | omega | assumption | (refine z_fin h ?_ rfl; first | rfl | omega | (split <;> omega) | (split <;> split <;> omega)) | skip
  · rw [if_neg q] at h
    repeat' (first | (intro _) | (with_reducible assumption) | (refine And.intro ?_ ?_))
    all_goals first | omega | assumption | (refine z_fin h ?_ rfl; first | rfl | omega | (split <;> omega) | (split <;> split <;> omega)) | skip
theorem dX0_leave_0 : decode cX0_leave 0 = .ok (.aload_n 0, 1) := by decide +kernel
theorem dX0_leave_1 : decode cX0_leave 1 = .ok (.getfield 15, 3) := by decide +kernel
theorem dX0_leave_4 : decode cX0_leave 4 = .ok (.bipush 16, 2) := by decide +kernel
theorem dX0_leave_6 : decode cX0_leave 6 = .ok (.if_icmp .ge 23, 3) := by decide +kernel
theorem dX0_leave_9 : decode cX0_leave 9 = .ok (.aload_n 0, 1) := by decide +kernel
theorem dX0_leave_10 : decode cX0_leave 10 = .ok (.getfield 11, 3) := by decide +kernel
theorem dX0_leave_13 : decode cX0_leave 13 = .ok (.aload_n 0, 1) := by decide +kernel
theorem dX0_leave_14 : decode cX0_leave 14 = .ok (.getfield 15, 3) := by decide +kernel
theorem dX0_leave_17 : decode cX0_leave 17 = .ok (.iload_n 1, 1) := by decide +kernel
theorem dX0_leave_18 : decode cX0_leave 18 = .ok (.iastore, 1) := by decide +kernel
theorem dX0_leave_19 : decode cX0_leave 19 = .ok (.aload_n 0, 1) := by decide +kernel
theorem dX0_leave_20 : decode cX0_leave 20 = .ok (.dup, 1) := by decide +kernel
theorem dX0_leave_21 : decode cX0_leave 21 = .ok (.getfield 15, 3) := by decide +kernel
theorem dX0_leave_24 : decode cX0_leave 24 = .ok (.iconst 1, 1) := by decide +kernel
theorem dX0_leave_25 : decode cX0_leave 25 = .ok (.iadd, 1) := by decide +kernel
theorem dX0_leave_26 : decode cX0_leave 26 = .ok (.putfield 15, 3) := by decide +kernel
theorem dX0_leave_29 : decode cX0_leave 29 = .ok (.return_, 1) := by decide +kernel
set_option maxRecDepth 100000 in
theorem rX0_leave_0 {p : Program} {l : Launch} {e : Env} {s : State} {m : MethodId} {args : Array Value} {below : List Frame} {meth : Method} {c : Code} {D : va_G} {cA : Nat → ClassId} {ad : Nat → Nat} {Ret : zR} (C : z_Cx p { frames := 0, cells := 0, slots := 0, locals := 0 } s m args c cX0_leave yX0_leave.cls 2 D cA ad) (hr : meth.sig.returnType = none) (hlocks : meth.locks = false) : ∀ L st σ, tX0_leave_0 (z_X p l e { frames := 0, cells := 0, slots := 0, locals := 0 } s m args below meth c (MQ below (z_Qc D cA ad Ret) args s 0 0 (z_A ad)) 2 D cA ad true) Ret L st σ → z_X p l e { frames := 0, cells := 0, slots := 0, locals := 0 } s m args below meth c (MQ below (z_Qc D cA ad Ret) args s 0 0 (z_A ad)) 2 D cA ad true 0 L st σ := (s_aload_n C dX0_leave_0 rfl (s_geti C dX0_leave_1 cls_X0 (by decide) rfl wd_338 (s_bipush C dX0_leave_4 rfl ⟨by decide, by decide⟩ (s_icge C dX0_leave_6 (by decide) (s_vret C dX0_leave_29 hr hlocks) (s_aload_n C dX0_leave_9 rfl (s_getr C dX0_leave_10 (j := 0) cls_X0 (by decide) rfl (by decide) (by decide) (by decide +kernel) wd_336 (s_aload_n C dX0_leave_13 rfl (s_geti C dX0_leave_14 cls_X0 (by decide) rfl wd_338 (s_iload_n C dX0_leave_17 rfl (s_iast C dX0_leave_18 (s_aload_n C dX0_leave_19 rfl (s_dup C dX0_leave_20 (s_geti C dX0_leave_21 cls_X0 (by decide) rfl wd_338 (s_iconst C dX0_leave_24 rfl ⟨by decide, by decide⟩ (s_iadd C dX0_leave_25 (s_puti C dX0_leave_26 cls_X0 (by decide) rfl wd_338 rfl rfl (s_vret C dX0_leave_29 hr hlocks)))))))))))))))))
theorem okX0_leave (l : Launch) : z_OK l yX0_leave cX0_leave 2 none 0 0 SX0_leave := by
  refine z_ok_of true (by decide +kernel) ?_ ?_
  · intro as σ Ret h
    obtain ⟨k0, x1, rfl⟩ := pX0_leave h
    exact ⟨Nat.le_of_ble_eq_true rfl, by simp⟩
  · intro p e s m args below meth c D cA ad Ret C hr hlocks as σ has hσ h
    obtain ⟨k0, x1, rfl⟩ := pX0_leave h
    exact vX0_leave (rX0_leave_0 C hr hlocks) k0 x1 σ (has _ (List.mem_of_getElem? (i := 0) rfl)) (has _ (List.mem_of_getElem? (i := 1) rfl)) hσ h
def SX0_body10 : zS := fun as σ Ret => match as with
  | [.inr (.inr (0, 0, k))] => q_ak σ k ∧ Ret (some (.inl (σ k 4))) (q_lv (σ) k 10)
  | _ => False
def tX0_body10_0 (X : Nat → zB) (Ret : zR) (L : zL) (st : List zV) (σ : zM) : Prop := (z_aload 0 (z_push 10 (z_cv1 0 SX0_leave (z_aload 0 (z_geti 0 4 (z_iret Ret)))))) L st σ
theorem pX0_body10 {as : List zV} {σ : zM} {Ret : zR} (h : SX0_body10 as σ Ret) : ∃ (k0 : Nat), as = [.inr (.inr (0, 0, k0))] := by
  unfold SX0_body10 at h
  split at h
  · exact ⟨_, rfl⟩
  · exact h.elim
set_option maxRecDepth 10000 in
set_option maxHeartbeats 4000000 in
theorem vX0_body10 {X : Nat → zB} {Ret : zR} (h0 : ∀ L st σ, tX0_body10_0 X Ret L st σ → X 0 L st σ) (k0 : Nat) (σ : zM) (hk0 : z_kd k0 = (0, 0)) (hσ : z_okm σ) (h : SX0_body10 [.inr (.inr (0, 0, k0))] σ Ret) : X 0 [some (.inr (.inr (0, 0, k0)))] [] σ := by
  obtain ⟨ok, h⟩ := h
  have okl := fun b => q_ak_lv (b := b) ok
  have okl2 := fun b c => q_ak_lv (b := c) (okl b)
  have okl3 := fun b c d => q_ak_lv (b := d) (okl2 b c)
  obtain ⟨o1, o2, o4, o5⟩ := id ok
  have n2 : ∀ (τ : zM) b, q_lv τ k0 b k0 2 = τ k0 2 := fun τ b => q_lv_ne (by decide)
  have n4 : ∀ (τ : zM) b, q_lv τ k0 b k0 4 = τ k0 4 := fun τ b => q_lv_ne (by decide)
  have n5 : ∀ (τ : zM) b, q_lv τ k0 b k0 5 = τ k0 5 := fun τ b => q_lv_ne (by decide)
  refine h0 _ _ _ ?_
  simp only [z_push, z_lpush, z_iload, z_lload, z_aload, z_istore, z_istoreP, z_lstore, z_astore, z_iinc, z_iincP, z_iadd, z_isub, z_imul, z_iaddW, z_isubW, z_imulW, z_idiv, z_irem, z_iand, z_ior, z_ixor, z_ishl, z_ishr, z_iushr, z_ineg, z_i2l, z_i2b, z_i2s, z_i2c, z_l2i, z_ladd, z_lsub, z_land, z_lor, z_lshl, z_lshr, z_lcmp, z_dup, z_pop, z_dup2, z_goto, z_tsw, z_cases, z_geti, z_getr, z_puti, z_putz, z_ald, z_iast, z_bast, z_zast, z_alen, z_acopy, z_mmax, z_mmin, z_mabs, z_mabsL, z_iret, z_zret, z_nret, z_lret, z_aret, z_vret, z_cat, z_ldcs, z_strv, z_strc, z_gcs, z_gfm, z_sln, z_sald, z_ifeq, z_ifne, z_iflt, z_ifge, z_ifgt, z_ifle, z_iceq, z_icne, z_iclt, z_icge, z_icgt, z_icle, z_cs0, z_cs1, z_cs2, z_cs3, z_cs4, z_cs5, z_cs6, z_cs7, z_cv0, z_cv1, z_cv2, z_cv3, z_cv4, z_cv5, z_cv6, z_cv7, z_g0, z_s0, z_g1, z_s1, z_g2, z_s2, z_g3, z_s3, z_g4, z_s4, z_g5, z_s5, z_g6, z_s6, z_g7, z_s7, z_g8, z_s8, z_g9, z_s9, z_g10, z_s10, z_g11, z_s11, z_g12, z_s12, z_g13, z_s13, z_b0, z_b1, z_b0n, z_b1n, z_up_far1, z_up_far2, z_up_far3, z_up_far4, z_up_far5, z_up_far6, Classical.not_not, not_true_eq_false, z_in, z_inL, Int.cast_ofNat_Int, Nat.reduceLeDiff, List.length_cons, List.length_nil, Nat.reduceAdd, Nat.zero_add, Nat.le_refl, true_and, and_true, List.length, Nat.reduceLT, true_or, or_true, false_or, or_false, false_and, and_false, not_true_eq_false, not_false_eq_true, forall_const, false_implies, true_implies, Int.reduceEq, Int.reduceLT, Int.reduceLE, Int.reduceAdd, Int.reduceSub, Int.reduceMul, Int.reduceNeg, Int.reduceToNat, Int.toNat_natCast, ↓reduceIte, reduceIte, Nat.reduceEqDiff, Nat.reduceSub, Nat.reduceMul, ne_eq, Int.zero_add, Int.add_zero, Int.sub_zero, Nat.add_zero, Int.ofNat_eq_natCast, tX0_body10_0, SX0_leave, n2, n4, n5, okl, okl2, okl3, ok, o1]
  repeat' (first | (intro _) | (with_reducible assumption) | (refine And.intro ?_ ?_))
  all_goals first | omega | assumption | (refine z_fin h ?_ rfl; first | rfl | omega | (split <;> omega) | (split <;> split <;> omega)) | skip
theorem dX0_body10_0 : decode cX0_body10 0 = .ok (.aload_n 0, 1) := by decide +kernel
theorem dX0_body10_1 : decode cX0_body10 1 = .ok (.bipush 10, 2) := by decide +kernel
theorem dX0_body10_3 : decode cX0_body10 3 = .ok (.invokevirtual 62, 3) := by decide +kernel
theorem dX0_body10_6 : decode cX0_body10 6 = .ok (.aload_n 0, 1) := by decide +kernel
theorem dX0_body10_7 : decode cX0_body10 7 = .ok (.getfield 25, 3) := by decide +kernel
theorem dX0_body10_10 : decode cX0_body10 10 = .ok (.ireturn, 1) := by decide +kernel
set_option maxRecDepth 100000 in
theorem rX0_body10_0 {p : Program} {l : Launch} {e : Env} {s : State} {m : MethodId} {args : Array Value} {below : List Frame} {meth : Method} {c : Code} {D : va_G} {cA : Nat → ClassId} {ad : Nat → Nat} {Ret : zR} (C : z_Cx p { frames := 1, cells := 0, slots := 0, locals := 21 } s m args c cX0_body10 yX0_body10.cls 1 D cA ad) (hr : meth.sig.returnType = (some .int)) (hlocks : meth.locks = false) : ∀ L st σ, tX0_body10_0 (z_X p l e { frames := 1, cells := 0, slots := 0, locals := 21 } s m args below meth c (MQ below (z_Qc D cA ad Ret) args s 0 0 (z_A ad)) 1 D cA ad true) Ret L st σ → z_X p l e { frames := 1, cells := 0, slots := 0, locals := 21 } s m args below meth c (MQ below (z_Qc D cA ad Ret) args s 0 0 (z_A ad)) 1 D cA ad true 0 L st σ := (s_aload_n C dX0_body10_0 rfl (s_bipush C dX0_body10_1 rfl ⟨by decide, by decide⟩ (s_cv1 C dX0_body10_3 (okX0_leave l) cls_X0 wd_902 wd_904 wd_25 wd_84 wd_905 ⟨by decide, by decide, by decide +kernel⟩ ⟨by decide, by decide⟩ (s_aload_n C dX0_body10_6 rfl (s_geti C dX0_body10_7 cls_X0 (by decide) rfl wd_342 (s_iret C dX0_body10_10 hr hlocks))))))
theorem okX0_body10 (l : Launch) : z_OK l yX0_body10 cX0_body10 1 (some .int) 1 21 SX0_body10 := by
  refine z_ok_of true (by decide +kernel) ?_ ?_
  · intro as σ Ret h
    obtain ⟨k0, rfl⟩ := pX0_body10 h
    exact ⟨Nat.le_of_ble_eq_true rfl, by simp⟩
  · intro p e s m args below meth c D cA ad Ret C hr hlocks as σ has hσ h
    obtain ⟨k0, rfl⟩ := pX0_body10 h
    exact vX0_body10 (rX0_body10_0 C hr hlocks) k0 σ (has _ (List.mem_of_getElem? (i := 0) rfl)) hσ h

def SX0_body20 : zS := fun as σ Ret => match as with
  | [.inr (.inr (0, 0, k))] => q_ak σ k ∧ Ret (some (.inl (σ k 2))) (q_lv (σ) k 20)
  | _ => False
def tX0_body20_0 (X : Nat → zB) (Ret : zR) (L : zL) (st : List zV) (σ : zM) : Prop := (z_aload 0 (z_push 20 (z_cv1 0 SX0_leave (z_aload 0 (z_geti 0 2 (z_iret Ret)))))) L st σ
theorem pX0_body20 {as : List zV} {σ : zM} {Ret : zR} (h : SX0_body20 as σ Ret) : ∃ (k0 : Nat), as = [.inr (.inr (0, 0, k0))] := by
  unfold SX0_body20 at h
  split at h
  · exact ⟨_, rfl⟩
  · exact h.elim
set_option maxRecDepth 10000 in
set_option maxHeartbeats 4000000 in
theorem vX0_body20 {X : Nat → zB} {Ret : zR} (h0 : ∀ L st σ, tX0_body20_0 X Ret L st σ → X 0 L st σ) (k0 : Nat) (σ : zM) (hk0 : z_kd k0 = (0, 0)) (hσ : z_okm σ) (h : SX0_body20 [.inr (.inr (0, 0, k0))] σ Ret) : X 0 [some (.inr (.inr (0, 0, k0)))] [] σ := by
  obtain ⟨ok, h⟩ := h
  have okl := fun b => q_ak_lv (b := b) ok
  have okl2 := fun b c => q_ak_lv (b := c) (okl b)
  have okl3 := fun b c d => q_ak_lv (b := d) (okl2 b c)
  obtain ⟨o1, o2, o4, o5⟩ := id ok
  have n2 : ∀ (τ : zM) b, q_lv τ k0 b k0 2 = τ k0 2 := fun τ b => q_lv_ne (by decide)
  have n4 : ∀ (τ : zM) b, q_lv τ k0 b k0 4 = τ k0 4 := fun τ b => q_lv_ne (by decide)
  have n5 : ∀ (τ : zM) b, q_lv τ k0 b k0 5 = τ k0 5 := fun τ b => q_lv_ne (by decide)
  refine h0 _ _ _ ?_
  simp only [z_push, z_lpush, z_iload, z_lload, z_aload, z_istore, z_istoreP, z_lstore, z_astore, z_iinc, z_iincP, z_iadd, z_isub, z_imul, z_iaddW, z_isubW, z_imulW, z_idiv, z_irem, z_iand, z_ior, z_ixor, z_ishl, z_ishr, z_iushr, z_ineg, z_i2l, z_i2b, z_i2s, z_i2c, z_l2i, z_ladd, z_lsub, z_land, z_lor, z_lshl, z_lshr, z_lcmp, z_dup, z_pop, z_dup2, z_goto, z_tsw, z_cases, z_geti, z_getr, z_puti, z_putz, z_ald, z_iast, z_bast, z_zast, z_alen, z_acopy, z_mmax, z_mmin, z_mabs, z_mabsL, z_iret, z_zret, z_nret, z_lret, z_aret, z_vret, z_cat, z_ldcs, z_strv, z_strc, z_gcs, z_gfm, z_sln, z_sald, z_ifeq, z_ifne, z_iflt, z_ifge, z_ifgt, z_ifle, z_iceq, z_icne, z_iclt, z_icge, z_icgt, z_icle, z_cs0, z_cs1, z_cs2, z_cs3, z_cs4, z_cs5, z_cs6, z_cs7, z_cv0, z_cv1, z_cv2, z_cv3, z_cv4, z_cv5, z_cv6, z_cv7, z_g0, z_s0, z_g1, z_s1, z_g2, z_s2, z_g3, z_s3, z_g4, z_s4, z_g5, z_s5, z_g6, z_s6, z_g7, z_s7, z_g8, z_s8, z_g9, z_s9, z_g10, z_s10, z_g11, z_s11, z_g12, z_s12, z_g13, z_s13, z_b0, z_b1, z_b0n, z_b1n, z_up_far1, z_up_far2, z_up_far3, z_up_far4, z_up_far5, z_up_far6, Classical.not_not, not_true_eq_false, z_in, z_inL, Int.cast_ofNat_Int, Nat.reduceLeDiff, List.length_cons, List.length_nil, Nat.reduceAdd, Nat.zero_add, Nat.le_refl, true_and, and_true, List.length, Nat.reduceLT, true_or, or_true, false_or, or_false, false_and, and_false, not_true_eq_false, not_false_eq_true, forall_const, false_implies, true_implies, Int.reduceEq, Int.reduceLT, Int.reduceLE, Int.reduceAdd, Int.reduceSub, Int.reduceMul, Int.reduceNeg, Int.reduceToNat, Int.toNat_natCast, ↓reduceIte, reduceIte, Nat.reduceEqDiff, Nat.reduceSub, Nat.reduceMul, ne_eq, Int.zero_add, Int.add_zero, Int.sub_zero, Nat.add_zero, Int.ofNat_eq_natCast, tX0_body20_0, SX0_leave, n2, n4, n5, okl, okl2, okl3, ok, o1]
  repeat' (first | (intro _) | (with_reducible assumption) | (refine And.intro ?_ ?_))
  all_goals first | omega | assumption | (refine z_fin h ?_ rfl; first | rfl | omega | (split <;> omega) | (split <;> split <;> omega)) | skip
theorem dX0_body20_0 : decode cX0_body20 0 = .ok (.aload_n 0, 1) := by decide +kernel
theorem dX0_body20_1 : decode cX0_body20 1 = .ok (.bipush 20, 2) := by decide +kernel
theorem dX0_body20_3 : decode cX0_body20 3 = .ok (.invokevirtual 62, 3) := by decide +kernel
theorem dX0_body20_6 : decode cX0_body20 6 = .ok (.aload_n 0, 1) := by decide +kernel
theorem dX0_body20_7 : decode cX0_body20 7 = .ok (.getfield 19, 3) := by decide +kernel
theorem dX0_body20_10 : decode cX0_body20 10 = .ok (.ireturn, 1) := by decide +kernel
set_option maxRecDepth 100000 in
theorem rX0_body20_0 {p : Program} {l : Launch} {e : Env} {s : State} {m : MethodId} {args : Array Value} {below : List Frame} {meth : Method} {c : Code} {D : va_G} {cA : Nat → ClassId} {ad : Nat → Nat} {Ret : zR} (C : z_Cx p { frames := 1, cells := 0, slots := 0, locals := 21 } s m args c cX0_body20 yX0_body20.cls 1 D cA ad) (hr : meth.sig.returnType = (some .int)) (hlocks : meth.locks = false) : ∀ L st σ, tX0_body20_0 (z_X p l e { frames := 1, cells := 0, slots := 0, locals := 21 } s m args below meth c (MQ below (z_Qc D cA ad Ret) args s 0 0 (z_A ad)) 1 D cA ad true) Ret L st σ → z_X p l e { frames := 1, cells := 0, slots := 0, locals := 21 } s m args below meth c (MQ below (z_Qc D cA ad Ret) args s 0 0 (z_A ad)) 1 D cA ad true 0 L st σ := (s_aload_n C dX0_body20_0 rfl (s_bipush C dX0_body20_1 rfl ⟨by decide, by decide⟩ (s_cv1 C dX0_body20_3 (okX0_leave l) cls_X0 wd_902 wd_904 wd_25 wd_84 wd_905 ⟨by decide, by decide, by decide +kernel⟩ ⟨by decide, by decide⟩ (s_aload_n C dX0_body20_6 rfl (s_geti C dX0_body20_7 cls_X0 (by decide) rfl wd_340 (s_iret C dX0_body20_10 hr hlocks))))))
theorem okX0_body20 (l : Launch) : z_OK l yX0_body20 cX0_body20 1 (some .int) 1 21 SX0_body20 := by
  refine z_ok_of true (by decide +kernel) ?_ ?_
  · intro as σ Ret h
    obtain ⟨k0, rfl⟩ := pX0_body20 h
    exact ⟨Nat.le_of_ble_eq_true rfl, by simp⟩
  · intro p e s m args below meth c D cA ad Ret C hr hlocks as σ has hσ h
    obtain ⟨k0, rfl⟩ := pX0_body20 h
    exact vX0_body20 (rX0_body20_0 C hr hlocks) k0 σ (has _ (List.mem_of_getElem? (i := 0) rfl)) hσ h

def SX0_body21 : zS := fun as σ Ret => match as with
  | [.inr (.inr (0, 0, k))] => q_ak σ k ∧ Ret (some (.inl (σ k 2 + σ k 5))) (q_lv (q_lv (σ) k 21) k 20)
  | _ => False
def tX0_body21_0 (X : Nat → zB) (Ret : zR) (L : zL) (st : List zV) (σ : zM) : Prop := (z_aload 0 (z_push 21 (z_cv1 0 SX0_leave (z_aload 0 (z_cv0 0 SX0_body20 (z_aload 0 (z_geti 0 5 (z_iadd (z_iret Ret))))))))) L st σ
theorem pX0_body21 {as : List zV} {σ : zM} {Ret : zR} (h : SX0_body21 as σ Ret) : ∃ (k0 : Nat), as = [.inr (.inr (0, 0, k0))] := by
  unfold SX0_body21 at h
  split at h
  · exact ⟨_, rfl⟩
  · exact h.elim
set_option maxRecDepth 10000 in
set_option maxHeartbeats 4000000 in
theorem vX0_body21 {X : Nat → zB} {Ret : zR} (h0 : ∀ L st σ, tX0_body21_0 X Ret L st σ → X 0 L st σ) (k0 : Nat) (σ : zM) (hk0 : z_kd k0 = (0, 0)) (hσ : z_okm σ) (h : SX0_body21 [.inr (.inr (0, 0, k0))] σ Ret) : X 0 [some (.inr (.inr (0, 0, k0)))] [] σ := by
  obtain ⟨ok, h⟩ := h
  have okl := fun b => q_ak_lv (b := b) ok
  have okl2 := fun b c => q_ak_lv (b := c) (okl b)
  have okl3 := fun b c d => q_ak_lv (b := d) (okl2 b c)
  obtain ⟨o1, o2, o4, o5⟩ := id ok
  have n2 : ∀ (τ : zM) b, q_lv τ k0 b k0 2 = τ k0 2 := fun τ b => q_lv_ne (by decide)
  have n4 : ∀ (τ : zM) b, q_lv τ k0 b k0 4 = τ k0 4 := fun τ b => q_lv_ne (by decide)
  have n5 : ∀ (τ : zM) b, q_lv τ k0 b k0 5 = τ k0 5 := fun τ b => q_lv_ne (by decide)
  refine h0 _ _ _ ?_
  simp only [z_push, z_lpush, z_iload, z_lload, z_aload, z_istore, z_istoreP, z_lstore, z_astore, z_iinc, z_iincP, z_iadd, z_isub, z_imul, z_iaddW, z_isubW, z_imulW, z_idiv, z_irem, z_iand, z_ior, z_ixor, z_ishl, z_ishr, z_iushr, z_ineg, z_i2l, z_i2b, z_i2s, z_i2c, z_l2i, z_ladd, z_lsub, z_land, z_lor, z_lshl, z_lshr, z_lcmp, z_dup, z_pop, z_dup2, z_goto, z_tsw, z_cases, z_geti, z_getr, z_puti, z_putz, z_ald, z_iast, z_bast, z_zast, z_alen, z_acopy, z_mmax, z_mmin, z_mabs, z_mabsL, z_iret, z_zret, z_nret, z_lret, z_aret, z_vret, z_cat, z_ldcs, z_strv, z_strc, z_gcs, z_gfm, z_sln, z_sald, z_ifeq, z_ifne, z_iflt, z_ifge, z_ifgt, z_ifle, z_iceq, z_icne, z_iclt, z_icge, z_icgt, z_icle, z_cs0, z_cs1, z_cs2, z_cs3, z_cs4, z_cs5, z_cs6, z_cs7, z_cv0, z_cv1, z_cv2, z_cv3, z_cv4, z_cv5, z_cv6, z_cv7, z_g0, z_s0, z_g1, z_s1, z_g2, z_s2, z_g3, z_s3, z_g4, z_s4, z_g5, z_s5, z_g6, z_s6, z_g7, z_s7, z_g8, z_s8, z_g9, z_s9, z_g10, z_s10, z_g11, z_s11, z_g12, z_s12, z_g13, z_s13, z_b0, z_b1, z_b0n, z_b1n, z_up_far1, z_up_far2, z_up_far3, z_up_far4, z_up_far5, z_up_far6, Classical.not_not, not_true_eq_false, z_in, z_inL, Int.cast_ofNat_Int, Nat.reduceLeDiff, List.length_cons, List.length_nil, Nat.reduceAdd, Nat.zero_add, Nat.le_refl, true_and, and_true, List.length, Nat.reduceLT, true_or, or_true, false_or, or_false, false_and, and_false, not_true_eq_false, not_false_eq_true, forall_const, false_implies, true_implies, Int.reduceEq, Int.reduceLT, Int.reduceLE, Int.reduceAdd, Int.reduceSub, Int.reduceMul, Int.reduceNeg, Int.reduceToNat, Int.toNat_natCast, ↓reduceIte, reduceIte, Nat.reduceEqDiff, Nat.reduceSub, Nat.reduceMul, ne_eq, Int.zero_add, Int.add_zero, Int.sub_zero, Nat.add_zero, Int.ofNat_eq_natCast, tX0_body21_0, SX0_leave, SX0_body20, n2, n4, n5, okl, okl2, okl3, ok, o1]
  repeat' (first | (intro _) | (with_reducible assumption) | (refine And.intro ?_ ?_))
  all_goals first | omega | assumption | (refine z_fin h ?_ rfl; first | rfl | omega | (split <;> omega) | (split <;> split <;> omega)) | skip
theorem dX0_body21_0 : decode cX0_body21 0 = .ok (.aload_n 0, 1) := by decide +kernel
theorem dX0_body21_1 : decode cX0_body21 1 = .ok (.bipush 21, 2) := by decide +kernel
theorem dX0_body21_3 : decode cX0_body21 3 = .ok (.invokevirtual 62, 3) := by decide +kernel
theorem dX0_body21_6 : decode cX0_body21 6 = .ok (.aload_n 0, 1) := by decide +kernel
theorem dX0_body21_7 : decode cX0_body21 7 = .ok (.invokevirtual 59, 3) := by decide +kernel
theorem dX0_body21_10 : decode cX0_body21 10 = .ok (.aload_n 0, 1) := by decide +kernel
theorem dX0_body21_11 : decode cX0_body21 11 = .ok (.getfield 28, 3) := by decide +kernel
theorem dX0_body21_14 : decode cX0_body21 14 = .ok (.iadd, 1) := by decide +kernel
theorem dX0_body21_15 : decode cX0_body21 15 = .ok (.ireturn, 1) := by decide +kernel
set_option maxRecDepth 100000 in
theorem rX0_body21_0 {p : Program} {l : Launch} {e : Env} {s : State} {m : MethodId} {args : Array Value} {below : List Frame} {meth : Method} {c : Code} {D : va_G} {cA : Nat → ClassId} {ad : Nat → Nat} {Ret : zR} (C : z_Cx p { frames := 2, cells := 0, slots := 0, locals := 41 } s m args c cX0_body21 yX0_body21.cls 1 D cA ad) (hr : meth.sig.returnType = (some .int)) (hlocks : meth.locks = false) : ∀ L st σ, tX0_body21_0 (z_X p l e { frames := 2, cells := 0, slots := 0, locals := 41 } s m args below meth c (MQ below (z_Qc D cA ad Ret) args s 0 0 (z_A ad)) 1 D cA ad true) Ret L st σ → z_X p l e { frames := 2, cells := 0, slots := 0, locals := 41 } s m args below meth c (MQ below (z_Qc D cA ad Ret) args s 0 0 (z_A ad)) 1 D cA ad true 0 L st σ := (s_aload_n C dX0_body21_0 rfl (s_bipush C dX0_body21_1 rfl ⟨by decide, by decide⟩ (s_cv1 C dX0_body21_3 (okX0_leave l) cls_X0 wd_902 wd_904 wd_25 wd_84 wd_905 ⟨by decide, by decide, by decide +kernel⟩ ⟨by decide, by decide⟩ (s_aload_n C dX0_body21_6 rfl (s_cv0 C dX0_body21_7 (okX0_body20 l) cls_X0 wd_914 wd_916 wd_28 wd_84 wd_917 ⟨by decide, by decide, by decide +kernel⟩ ⟨by decide, by decide⟩ (s_aload_n C dX0_body21_10 rfl (s_geti C dX0_body21_11 cls_X0 (by decide) rfl wd_343 (s_iadd C dX0_body21_14 (s_iret C dX0_body21_15 hr hlocks)))))))))
theorem okX0_body21 (l : Launch) : z_OK l yX0_body21 cX0_body21 1 (some .int) 2 41 SX0_body21 := by
  refine z_ok_of true (by decide +kernel) ?_ ?_
  · intro as σ Ret h
    obtain ⟨k0, rfl⟩ := pX0_body21 h
    exact ⟨Nat.le_of_ble_eq_true rfl, by simp⟩
  · intro p e s m args below meth c D cA ad Ret C hr hlocks as σ has hσ h
    obtain ⟨k0, rfl⟩ := pX0_body21 h
    exact vX0_body21 (rX0_body21_0 C hr hlocks) k0 σ (has _ (List.mem_of_getElem? (i := 0) rfl)) hσ h

def SX0_body11 : zS := fun as σ Ret => match as with
  | [.inr (.inr (0, 0, k))] => q_ak σ k ∧ Ret (some (.inl (σ k 4 + (σ k 2 + σ k 5)))) (q_lv (q_lv (q_lv (q_lv (σ) k 11) k 10) k 21) k 20)
  | _ => False
def tX0_body11_0 (X : Nat → zB) (Ret : zR) (L : zL) (st : List zV) (σ : zM) : Prop := (z_aload 0 (z_push 11 (z_cv1 0 SX0_leave (z_aload 0 (z_cv0 0 SX0_body10 (z_istore 1 (z_iload 1 (z_aload 0 (z_cv0 0 SX0_body21 (z_iadd (z_iret Ret))))))))))) L st σ
theorem pX0_body11 {as : List zV} {σ : zM} {Ret : zR} (h : SX0_body11 as σ Ret) : ∃ (k0 : Nat), as = [.inr (.inr (0, 0, k0))] := by
  unfold SX0_body11 at h
  split at h
  · exact ⟨_, rfl⟩
  · exact h.elim
set_option maxRecDepth 10000 in
set_option maxHeartbeats 4000000 in
theorem vX0_body11 {X : Nat → zB} {Ret : zR} (h0 : ∀ L st σ, tX0_body11_0 X Ret L st σ → X 0 L st σ) (k0 : Nat) (σ : zM) (hk0 : z_kd k0 = (0, 0)) (hσ : z_okm σ) (h : SX0_body11 [.inr (.inr (0, 0, k0))] σ Ret) : X 0 [some (.inr (.inr (0, 0, k0))), none] [] σ := by
  obtain ⟨ok, h⟩ := h
  have okl := fun b => q_ak_lv (b := b) ok
  have okl2 := fun b c => q_ak_lv (b := c) (okl b)
  have okl3 := fun b c d => q_ak_lv (b := d) (okl2 b c)
  obtain ⟨o1, o2, o4, o5⟩ := id ok
  have n2 : ∀ (τ : zM) b, q_lv τ k0 b k0 2 = τ k0 2 := fun τ b => q_lv_ne (by decide)
  have n4 : ∀ (τ : zM) b, q_lv τ k0 b k0 4 = τ k0 4 := fun τ b => q_lv_ne (by decide)
  have n5 : ∀ (τ : zM) b, q_lv τ k0 b k0 5 = τ k0 5 := fun τ b => q_lv_ne (by decide)
  refine h0 _ _ _ ?_
  simp only [z_push, z_lpush, z_iload, z_lload, z_aload, z_istore, z_istoreP, z_lstore, z_astore, z_iinc, z_iincP, z_iadd, z_isub, z_imul, z_iaddW, z_isubW, z_imulW, z_idiv, z_irem, z_iand, z_ior, z_ixor, z_ishl, z_ishr, z_iushr, z_ineg, z_i2l, z_i2b, z_i2s, z_i2c, z_l2i, z_ladd, z_lsub, z_land, z_lor, z_lshl, z_lshr, z_lcmp, z_dup, z_pop, z_dup2, z_goto, z_tsw, z_cases, z_geti, z_getr, z_puti, z_putz, z_ald, z_iast, z_bast, z_zast, z_alen, z_acopy, z_mmax, z_mmin, z_mabs, z_mabsL, z_iret, z_zret, z_nret, z_lret, z_aret, z_vret, z_cat, z_ldcs, z_strv, z_strc, z_gcs, z_gfm, z_sln, z_sald, z_ifeq, z_ifne, z_iflt, z_ifge, z_ifgt, z_ifle, z_iceq, z_icne, z_iclt, z_icge, z_icgt, z_icle, z_cs0, z_cs1, z_cs2, z_cs3, z_cs4, z_cs5, z_cs6, z_cs7, z_cv0, z_cv1, z_cv2, z_cv3, z_cv4, z_cv5, z_cv6, z_cv7, z_g0, z_s0, z_g1, z_s1, z_g2, z_s2, z_g3, z_s3, z_g4, z_s4, z_g5, z_s5, z_g6, z_s6, z_g7, z_s7, z_g8, z_s8, z_g9, z_s9, z_g10, z_s10, z_g11, z_s11, z_g12, z_s12, z_g13, z_s13, z_b0, z_b1, z_b0n, z_b1n, z_up_far1, z_up_far2, z_up_far3, z_up_far4, z_up_far5, z_up_far6, Classical.not_not, not_true_eq_false, z_in, z_inL, Int.cast_ofNat_Int, Nat.reduceLeDiff, List.length_cons, List.length_nil, Nat.reduceAdd, Nat.zero_add, Nat.le_refl, true_and, and_true, List.length, Nat.reduceLT, true_or, or_true, false_or, or_false, false_and, and_false, not_true_eq_false, not_false_eq_true, forall_const, false_implies, true_implies, Int.reduceEq, Int.reduceLT, Int.reduceLE, Int.reduceAdd, Int.reduceSub, Int.reduceMul, Int.reduceNeg, Int.reduceToNat, Int.toNat_natCast, ↓reduceIte, reduceIte, Nat.reduceEqDiff, Nat.reduceSub, Nat.reduceMul, ne_eq, Int.zero_add, Int.add_zero, Int.sub_zero, Nat.add_zero, Int.ofNat_eq_natCast, tX0_body11_0, SX0_leave, SX0_body10, SX0_body21, n2, n4, n5, okl, okl2, okl3, ok, o1]
  repeat' (first | (intro _) | (with_reducible assumption) | (refine And.intro ?_ ?_))
  all_goals first | omega | assumption | (refine z_fin h ?_ rfl; first | rfl | omega | (split <;> omega) | (split <;> split <;> omega)) | skip
theorem dX0_body11_0 : decode cX0_body11 0 = .ok (.aload_n 0, 1) := by decide +kernel
theorem dX0_body11_1 : decode cX0_body11 1 = .ok (.bipush 11, 2) := by decide +kernel
theorem dX0_body11_3 : decode cX0_body11 3 = .ok (.invokevirtual 62, 3) := by decide +kernel
theorem dX0_body11_6 : decode cX0_body11 6 = .ok (.aload_n 0, 1) := by decide +kernel
theorem dX0_body11_7 : decode cX0_body11 7 = .ok (.invokevirtual 44, 3) := by decide +kernel
theorem dX0_body11_10 : decode cX0_body11 10 = .ok (.istore_n 1, 1) := by decide +kernel
theorem dX0_body11_11 : decode cX0_body11 11 = .ok (.iload_n 1, 1) := by decide +kernel
theorem dX0_body11_12 : decode cX0_body11 12 = .ok (.aload_n 0, 1) := by decide +kernel
theorem dX0_body11_13 : decode cX0_body11 13 = .ok (.invokevirtual 47, 3) := by decide +kernel
theorem dX0_body11_16 : decode cX0_body11 16 = .ok (.iadd, 1) := by decide +kernel
theorem dX0_body11_17 : decode cX0_body11 17 = .ok (.ireturn, 1) := by decide +kernel
set_option maxRecDepth 100000 in
theorem rX0_body11_0 {p : Program} {l : Launch} {e : Env} {s : State} {m : MethodId} {args : Array Value} {below : List Frame} {meth : Method} {c : Code} {D : va_G} {cA : Nat → ClassId} {ad : Nat → Nat} {Ret : zR} (C : z_Cx p { frames := 3, cells := 0, slots := 0, locals := 61 } s m args c cX0_body11 yX0_body11.cls 2 D cA ad) (hr : meth.sig.returnType = (some .int)) (hlocks : meth.locks = false) : ∀ L st σ, tX0_body11_0 (z_X p l e { frames := 3, cells := 0, slots := 0, locals := 61 } s m args below meth c (MQ below (z_Qc D cA ad Ret) args s 0 0 (z_A ad)) 2 D cA ad true) Ret L st σ → z_X p l e { frames := 3, cells := 0, slots := 0, locals := 61 } s m args below meth c (MQ below (z_Qc D cA ad Ret) args s 0 0 (z_A ad)) 2 D cA ad true 0 L st σ := (s_aload_n C dX0_body11_0 rfl (s_bipush C dX0_body11_1 rfl ⟨by decide, by decide⟩ (s_cv1 C dX0_body11_3 (okX0_leave l) cls_X0 wd_902 wd_904 wd_25 wd_84 wd_905 ⟨by decide, by decide, by decide +kernel⟩ ⟨by decide, by decide⟩ (s_aload_n C dX0_body11_6 rfl (s_cv0 C dX0_body11_7 (okX0_body10 l) cls_X0 wd_906 wd_908 wd_26 wd_84 wd_909 ⟨by decide, by decide, by decide +kernel⟩ ⟨by decide, by decide⟩ (s_istore_n C dX0_body11_10 (by decide) rfl rfl (s_iload_n C dX0_body11_11 rfl (s_aload_n C dX0_body11_12 rfl (s_cv0 C dX0_body11_13 (okX0_body21 l) cls_X0 wd_910 wd_912 wd_27 wd_84 wd_913 ⟨by decide, by decide, by decide +kernel⟩ ⟨by decide, by decide⟩ (s_iadd C dX0_body11_16 (s_iret C dX0_body11_17 hr hlocks)))))))))))
theorem okX0_body11 (l : Launch) : z_OK l yX0_body11 cX0_body11 2 (some .int) 3 61 SX0_body11 := by
  refine z_ok_of true (by decide +kernel) ?_ ?_
  · intro as σ Ret h
    obtain ⟨k0, rfl⟩ := pX0_body11 h
    exact ⟨Nat.le_of_ble_eq_true rfl, by simp⟩
  · intro p e s m args below meth c D cA ad Ret C hr hlocks as σ has hσ h
    obtain ⟨k0, rfl⟩ := pX0_body11 h
    exact vX0_body11 (rX0_body11_0 C hr hlocks) k0 σ (has _ (List.mem_of_getElem? (i := 0) rfl)) hσ h

def SX0_body12 : zS := fun as σ Ret => match as with
  | [.inr (.inr (0, 0, k))] => q_ak σ k ∧ Ret (some (.inl (-(σ k 4 + (σ k 2 + σ k 5))))) (q_lv (q_lv (q_lv (q_lv (q_lv (σ) k 12) k 11) k 10) k 21) k 20)
  | _ => False
def tX0_body12_0 (X : Nat → zB) (Ret : zR) (L : zL) (st : List zV) (σ : zM) : Prop := (z_aload 0 (z_push 12 (z_cv1 0 SX0_leave (z_aload 0 (z_cv0 0 SX0_body11 (z_ineg (z_iret Ret))))))) L st σ
theorem pX0_body12 {as : List zV} {σ : zM} {Ret : zR} (h : SX0_body12 as σ Ret) : ∃ (k0 : Nat), as = [.inr (.inr (0, 0, k0))] := by
  unfold SX0_body12 at h
  split at h
  · exact ⟨_, rfl⟩
  · exact h.elim
set_option maxRecDepth 10000 in
set_option maxHeartbeats 4000000 in
theorem vX0_body12 {X : Nat → zB} {Ret : zR} (h0 : ∀ L st σ, tX0_body12_0 X Ret L st σ → X 0 L st σ) (k0 : Nat) (σ : zM) (hk0 : z_kd k0 = (0, 0)) (hσ : z_okm σ) (h : SX0_body12 [.inr (.inr (0, 0, k0))] σ Ret) : X 0 [some (.inr (.inr (0, 0, k0)))] [] σ := by
  obtain ⟨ok, h⟩ := h
  have okl := fun b => q_ak_lv (b := b) ok
  have okl2 := fun b c => q_ak_lv (b := c) (okl b)
  have okl3 := fun b c d => q_ak_lv (b := d) (okl2 b c)
  obtain ⟨o1, o2, o4, o5⟩ := id ok
  have n2 : ∀ (τ : zM) b, q_lv τ k0 b k0 2 = τ k0 2 := fun τ b => q_lv_ne (by decide)
  have n4 : ∀ (τ : zM) b, q_lv τ k0 b k0 4 = τ k0 4 := fun τ b => q_lv_ne (by decide)
  have n5 : ∀ (τ : zM) b, q_lv τ k0 b k0 5 = τ k0 5 := fun τ b => q_lv_ne (by decide)
  refine h0 _ _ _ ?_
  simp only [z_push, z_lpush, z_iload, z_lload, z_aload, z_istore, z_istoreP, z_lstore, z_astore, z_iinc, z_iincP, z_iadd, z_isub, z_imul, z_iaddW, z_isubW, z_imulW, z_idiv, z_irem, z_iand, z_ior, z_ixor, z_ishl, z_ishr, z_iushr, z_ineg, z_i2l, z_i2b, z_i2s, z_i2c, z_l2i, z_ladd, z_lsub, z_land, z_lor, z_lshl, z_lshr, z_lcmp, z_dup, z_pop, z_dup2, z_goto, z_tsw, z_cases, z_geti, z_getr, z_puti, z_putz, z_ald, z_iast, z_bast, z_zast, z_alen, z_acopy, z_mmax, z_mmin, z_mabs, z_mabsL, z_iret, z_zret, z_nret, z_lret, z_aret, z_vret, z_cat, z_ldcs, z_strv, z_strc, z_gcs, z_gfm, z_sln, z_sald, z_ifeq, z_ifne, z_iflt, z_ifge, z_ifgt, z_ifle, z_iceq, z_icne, z_iclt, z_icge, z_icgt, z_icle, z_cs0, z_cs1, z_cs2, z_cs3, z_cs4, z_cs5, z_cs6, z_cs7, z_cv0, z_cv1, z_cv2, z_cv3, z_cv4, z_cv5, z_cv6, z_cv7, z_g0, z_s0, z_g1, z_s1, z_g2, z_s2, z_g3, z_s3, z_g4, z_s4, z_g5, z_s5, z_g6, z_s6, z_g7, z_s7, z_g8, z_s8, z_g9, z_s9, z_g10, z_s10, z_g11, z_s11, z_g12, z_s12, z_g13, z_s13, z_b0, z_b1, z_b0n, z_b1n, z_up_far1, z_up_far2, z_up_far3, z_up_far4, z_up_far5, z_up_far6, Classical.not_not, not_true_eq_false, z_in, z_inL, Int.cast_ofNat_Int, Nat.reduceLeDiff, List.length_cons, List.length_nil, Nat.reduceAdd, Nat.zero_add, Nat.le_refl, true_and, and_true, List.length, Nat.reduceLT, true_or, or_true, false_or, or_false, false_and, and_false, not_true_eq_false, not_false_eq_true, forall_const, false_implies, true_implies, Int.reduceEq, Int.reduceLT, Int.reduceLE, Int.reduceAdd, Int.reduceSub, Int.reduceMul, Int.reduceNeg, Int.reduceToNat, Int.toNat_natCast, ↓reduceIte, reduceIte, Nat.reduceEqDiff, Nat.reduceSub, Nat.reduceMul, ne_eq, Int.zero_add, Int.add_zero, Int.sub_zero, Nat.add_zero, Int.ofNat_eq_natCast, tX0_body12_0, SX0_leave, SX0_body11, n2, n4, n5, okl, okl2, okl3, ok, o1]
  repeat' (first | (intro _) | (with_reducible assumption) | (refine And.intro ?_ ?_))
  all_goals first | omega | assumption | (refine z_fin h ?_ rfl; first | rfl | omega | (split <;> omega) | (split <;> split <;> omega)) | skip
theorem dX0_body12_0 : decode cX0_body12 0 = .ok (.aload_n 0, 1) := by decide +kernel
theorem dX0_body12_1 : decode cX0_body12 1 = .ok (.bipush 12, 2) := by decide +kernel
theorem dX0_body12_3 : decode cX0_body12 3 = .ok (.invokevirtual 62, 3) := by decide +kernel
theorem dX0_body12_6 : decode cX0_body12 6 = .ok (.aload_n 0, 1) := by decide +kernel
theorem dX0_body12_7 : decode cX0_body12 7 = .ok (.invokevirtual 31, 3) := by decide +kernel
theorem dX0_body12_10 : decode cX0_body12 10 = .ok (.ineg, 1) := by decide +kernel
theorem dX0_body12_11 : decode cX0_body12 11 = .ok (.ireturn, 1) := by decide +kernel
set_option maxRecDepth 100000 in
theorem rX0_body12_0 {p : Program} {l : Launch} {e : Env} {s : State} {m : MethodId} {args : Array Value} {below : List Frame} {meth : Method} {c : Code} {D : va_G} {cA : Nat → ClassId} {ad : Nat → Nat} {Ret : zR} (C : z_Cx p { frames := 4, cells := 0, slots := 0, locals := 82 } s m args c cX0_body12 yX0_body12.cls 1 D cA ad) (hr : meth.sig.returnType = (some .int)) (hlocks : meth.locks = false) : ∀ L st σ, tX0_body12_0 (z_X p l e { frames := 4, cells := 0, slots := 0, locals := 82 } s m args below meth c (MQ below (z_Qc D cA ad Ret) args s 0 0 (z_A ad)) 1 D cA ad true) Ret L st σ → z_X p l e { frames := 4, cells := 0, slots := 0, locals := 82 } s m args below meth c (MQ below (z_Qc D cA ad Ret) args s 0 0 (z_A ad)) 1 D cA ad true 0 L st σ := (s_aload_n C dX0_body12_0 rfl (s_bipush C dX0_body12_1 rfl ⟨by decide, by decide⟩ (s_cv1 C dX0_body12_3 (okX0_leave l) cls_X0 wd_902 wd_904 wd_25 wd_84 wd_905 ⟨by decide, by decide, by decide +kernel⟩ ⟨by decide, by decide⟩ (s_aload_n C dX0_body12_6 rfl (s_cv0 C dX0_body12_7 (okX0_body11 l) cls_X0 wd_898 wd_900 wd_24 wd_84 wd_901 ⟨by decide, by decide, by decide +kernel⟩ ⟨by decide, by decide⟩ (s_ineg C dX0_body12_10 (s_iret C dX0_body12_11 hr hlocks)))))))
theorem okX0_body12 (l : Launch) : z_OK l yX0_body12 cX0_body12 1 (some .int) 4 82 SX0_body12 := by
  refine z_ok_of true (by decide +kernel) ?_ ?_
  · intro as σ Ret h
    obtain ⟨k0, rfl⟩ := pX0_body12 h
    exact ⟨Nat.le_of_ble_eq_true rfl, by simp⟩
  · intro p e s m args below meth c D cA ad Ret C hr hlocks as σ has hσ h
    obtain ⟨k0, rfl⟩ := pX0_body12 h
    exact vX0_body12 (rX0_body12_0 C hr hlocks) k0 σ (has _ (List.mem_of_getElem? (i := 0) rfl)) hσ h

def SX0_body13 : zS := fun as σ Ret => match as with
  | [.inr (.inr (0, 0, k))] => q_ak σ k ∧ Ret (some (.inl (σ k 4 - 1000))) (q_lv (q_lv (σ) k 13) k 10)
  | _ => False
def tX0_body13_0 (X : Nat → zB) (Ret : zR) (L : zL) (st : List zV) (σ : zM) : Prop := (z_aload 0 (z_push 13 (z_cv1 0 SX0_leave (z_aload 0 (z_cv0 0 SX0_body10 (z_push 1000 (z_isub (z_iret Ret)))))))) L st σ
theorem pX0_body13 {as : List zV} {σ : zM} {Ret : zR} (h : SX0_body13 as σ Ret) : ∃ (k0 : Nat), as = [.inr (.inr (0, 0, k0))] := by
  unfold SX0_body13 at h
  split at h
  · exact ⟨_, rfl⟩
  · exact h.elim
set_option maxRecDepth 10000 in
set_option maxHeartbeats 4000000 in
theorem vX0_body13 {X : Nat → zB} {Ret : zR} (h0 : ∀ L st σ, tX0_body13_0 X Ret L st σ → X 0 L st σ) (k0 : Nat) (σ : zM) (hk0 : z_kd k0 = (0, 0)) (hσ : z_okm σ) (h : SX0_body13 [.inr (.inr (0, 0, k0))] σ Ret) : X 0 [some (.inr (.inr (0, 0, k0)))] [] σ := by
  obtain ⟨ok, h⟩ := h
  have okl := fun b => q_ak_lv (b := b) ok
  have okl2 := fun b c => q_ak_lv (b := c) (okl b)
  have okl3 := fun b c d => q_ak_lv (b := d) (okl2 b c)
  obtain ⟨o1, o2, o4, o5⟩ := id ok
  have n2 : ∀ (τ : zM) b, q_lv τ k0 b k0 2 = τ k0 2 := fun τ b => q_lv_ne (by decide)
  have n4 : ∀ (τ : zM) b, q_lv τ k0 b k0 4 = τ k0 4 := fun τ b => q_lv_ne (by decide)
  have n5 : ∀ (τ : zM) b, q_lv τ k0 b k0 5 = τ k0 5 := fun τ b => q_lv_ne (by decide)
  refine h0 _ _ _ ?_
  simp only [z_push, z_lpush, z_iload, z_lload, z_aload, z_istore, z_istoreP, z_lstore, z_astore, z_iinc, z_iincP, z_iadd, z_isub, z_imul, z_iaddW, z_isubW, z_imulW, z_idiv, z_irem, z_iand, z_ior, z_ixor, z_ishl, z_ishr, z_iushr, z_ineg, z_i2l, z_i2b, z_i2s, z_i2c, z_l2i, z_ladd, z_lsub, z_land, z_lor, z_lshl, z_lshr, z_lcmp, z_dup, z_pop, z_dup2, z_goto, z_tsw, z_cases, z_geti, z_getr, z_puti, z_putz, z_ald, z_iast, z_bast, z_zast, z_alen, z_acopy, z_mmax, z_mmin, z_mabs, z_mabsL, z_iret, z_zret, z_nret, z_lret, z_aret, z_vret, z_cat, z_ldcs, z_strv, z_strc, z_gcs, z_gfm, z_sln, z_sald, z_ifeq, z_ifne, z_iflt, z_ifge, z_ifgt, z_ifle, z_iceq, z_icne, z_iclt, z_icge, z_icgt, z_icle, z_cs0, z_cs1, z_cs2, z_cs3, z_cs4, z_cs5, z_cs6, z_cs7, z_cv0, z_cv1, z_cv2, z_cv3, z_cv4, z_cv5, z_cv6, z_cv7, z_g0, z_s0, z_g1, z_s1, z_g2, z_s2, z_g3, z_s3, z_g4, z_s4, z_g5, z_s5, z_g6, z_s6, z_g7, z_s7, z_g8, z_s8, z_g9, z_s9, z_g10, z_s10, z_g11, z_s11, z_g12, z_s12, z_g13, z_s13, z_b0, z_b1, z_b0n, z_b1n, z_up_far1, z_up_far2, z_up_far3, z_up_far4, z_up_far5, z_up_far6, Classical.not_not, not_true_eq_false, z_in, z_inL, Int.cast_ofNat_Int, Nat.reduceLeDiff, List.length_cons, List.length_nil, Nat.reduceAdd, Nat.zero_add, Nat.le_refl, true_and, and_true, List.length, Nat.reduceLT, true_or, or_true, false_or, or_false, false_and, and_false, not_true_eq_false, not_false_eq_true, forall_const, false_implies, true_implies, Int.reduceEq, Int.reduceLT, Int.reduceLE, Int.reduceAdd, Int.reduceSub, Int.reduceMul, Int.reduceNeg, Int.reduceToNat, Int.toNat_natCast, ↓reduceIte, reduceIte, Nat.reduceEqDiff, Nat.reduceSub, Nat.reduceMul, ne_eq, Int.zero_add, Int.add_zero, Int.sub_zero, Nat.add_zero, Int.ofNat_eq_natCast, tX0_body13_0, SX0_leave, SX0_body10, n2, n4, n5, okl, okl2, okl3, ok, o1]
  repeat' (first | (intro _) | (with_reducible assumption) | (refine And.intro ?_ ?_))
  all_goals first | omega | assumption | (refine z_fin h ?_ rfl; first | rfl | omega | (split <;> omega) | (split <;> split <;> omega)) | skip
theorem dX0_body13_0 : decode cX0_body13 0 = .ok (.aload_n 0, 1) := by decide +kernel
theorem dX0_body13_1 : decode cX0_body13 1 = .ok (.bipush 13, 2) := by decide +kernel
theorem dX0_body13_3 : decode cX0_body13 3 = .ok (.invokevirtual 62, 3) := by decide +kernel
theorem dX0_body13_6 : decode cX0_body13 6 = .ok (.aload_n 0, 1) := by decide +kernel
theorem dX0_body13_7 : decode cX0_body13 7 = .ok (.invokevirtual 44, 3) := by decide +kernel
theorem dX0_body13_10 : decode cX0_body13 10 = .ok (.sipush 1000, 3) := by decide +kernel
theorem dX0_body13_13 : decode cX0_body13 13 = .ok (.isub, 1) := by decide +kernel
theorem dX0_body13_14 : decode cX0_body13 14 = .ok (.ireturn, 1) := by decide +kernel
set_option maxRecDepth 100000 in
theorem rX0_body13_0 {p : Program} {l : Launch} {e : Env} {s : State} {m : MethodId} {args : Array Value} {below : List Frame} {meth : Method} {c : Code} {D : va_G} {cA : Nat → ClassId} {ad : Nat → Nat} {Ret : zR} (C : z_Cx p { frames := 2, cells := 0, slots := 0, locals := 41 } s m args c cX0_body13 yX0_body13.cls 1 D cA ad) (hr : meth.sig.returnType = (some .int)) (hlocks : meth.locks = false) : ∀ L st σ, tX0_body13_0 (z_X p l e { frames := 2, cells := 0, slots := 0, locals := 41 } s m args below meth c (MQ below (z_Qc D cA ad Ret) args s 0 0 (z_A ad)) 1 D cA ad true) Ret L st σ → z_X p l e { frames := 2, cells := 0, slots := 0, locals := 41 } s m args below meth c (MQ below (z_Qc D cA ad Ret) args s 0 0 (z_A ad)) 1 D cA ad true 0 L st σ := (s_aload_n C dX0_body13_0 rfl (s_bipush C dX0_body13_1 rfl ⟨by decide, by decide⟩ (s_cv1 C dX0_body13_3 (okX0_leave l) cls_X0 wd_902 wd_904 wd_25 wd_84 wd_905 ⟨by decide, by decide, by decide +kernel⟩ ⟨by decide, by decide⟩ (s_aload_n C dX0_body13_6 rfl (s_cv0 C dX0_body13_7 (okX0_body10 l) cls_X0 wd_906 wd_908 wd_26 wd_84 wd_909 ⟨by decide, by decide, by decide +kernel⟩ ⟨by decide, by decide⟩ (s_sipush C dX0_body13_10 rfl ⟨by decide, by decide⟩ (s_isub C dX0_body13_13 (s_iret C dX0_body13_14 hr hlocks))))))))
theorem okX0_body13 (l : Launch) : z_OK l yX0_body13 cX0_body13 1 (some .int) 2 41 SX0_body13 := by
  refine z_ok_of true (by decide +kernel) ?_ ?_
  · intro as σ Ret h
    obtain ⟨k0, rfl⟩ := pX0_body13 h
    exact ⟨Nat.le_of_ble_eq_true rfl, by simp⟩
  · intro p e s m args below meth c D cA ad Ret C hr hlocks as σ has hσ h
    obtain ⟨k0, rfl⟩ := pX0_body13 h
    exact vX0_body13 (rX0_body13_0 C hr hlocks) k0 σ (has _ (List.mem_of_getElem? (i := 0) rfl)) hσ h

def SX0_body14 : zS := fun as σ Ret => match as with
  | [.inr (.inr (0, 0, k))] => q_ak σ k ∧ Ret (some (.inl (2 * (σ k 4 - 1000)))) (q_lv (q_lv (q_lv (σ) k 14) k 13) k 10)
  | _ => False
def tX0_body14_0 (X : Nat → zB) (Ret : zR) (L : zL) (st : List zV) (σ : zM) : Prop := (z_aload 0 (z_push 14 (z_cv1 0 SX0_leave (z_push 2 (z_aload 0 (z_cv0 0 SX0_body13 (z_imul (z_iret Ret)))))))) L st σ
theorem pX0_body14 {as : List zV} {σ : zM} {Ret : zR} (h : SX0_body14 as σ Ret) : ∃ (k0 : Nat), as = [.inr (.inr (0, 0, k0))] := by
  unfold SX0_body14 at h
  split at h
  · exact ⟨_, rfl⟩
  · exact h.elim
set_option maxRecDepth 10000 in
set_option maxHeartbeats 4000000 in
theorem vX0_body14 {X : Nat → zB} {Ret : zR} (h0 : ∀ L st σ, tX0_body14_0 X Ret L st σ → X 0 L st σ) (k0 : Nat) (σ : zM) (hk0 : z_kd k0 = (0, 0)) (hσ : z_okm σ) (h : SX0_body14 [.inr (.inr (0, 0, k0))] σ Ret) : X 0 [some (.inr (.inr (0, 0, k0)))] [] σ := by
  obtain ⟨ok, h⟩ := h
  have okl := fun b => q_ak_lv (b := b) ok
  have okl2 := fun b c => q_ak_lv (b := c) (okl b)
  have okl3 := fun b c d => q_ak_lv (b := d) (okl2 b c)
  obtain ⟨o1, o2, o4, o5⟩ := id ok
  have n2 : ∀ (τ : zM) b, q_lv τ k0 b k0 2 = τ k0 2 := fun τ b => q_lv_ne (by decide)
  have n4 : ∀ (τ : zM) b, q_lv τ k0 b k0 4 = τ k0 4 := fun τ b => q_lv_ne (by decide)
  have n5 : ∀ (τ : zM) b, q_lv τ k0 b k0 5 = τ k0 5 := fun τ b => q_lv_ne (by decide)
  refine h0 _ _ _ ?_
  simp only [z_push, z_lpush, z_iload, z_lload, z_aload, z_istore, z_istoreP, z_lstore, z_astore, z_iinc, z_iincP, z_iadd, z_isub, z_imul, z_iaddW, z_isubW, z_imulW, z_idiv, z_irem, z_iand, z_ior, z_ixor, z_ishl, z_ishr, z_iushr, z_ineg, z_i2l, z_i2b, z_i2s, z_i2c, z_l2i, z_ladd, z_lsub, z_land, z_lor, z_lshl, z_lshr, z_lcmp, z_dup, z_pop, z_dup2, z_goto, z_tsw, z_cases, z_geti, z_getr, z_puti, z_putz, z_ald, z_iast, z_bast, z_zast, z_alen, z_acopy, z_mmax, z_mmin, z_mabs, z_mabsL, z_iret, z_zret, z_nret, z_lret, z_aret, z_vret, z_cat, z_ldcs, z_strv, z_strc, z_gcs, z_gfm, z_sln, z_sald, z_ifeq, z_ifne, z_iflt, z_ifge, z_ifgt, z_ifle, z_iceq, z_icne, z_iclt, z_icge, z_icgt, z_icle, z_cs0, z_cs1, z_cs2, z_cs3, z_cs4, z_cs5, z_cs6, z_cs7, z_cv0, z_cv1, z_cv2, z_cv3, z_cv4, z_cv5, z_cv6, z_cv7, z_g0, z_s0, z_g1, z_s1, z_g2, z_s2, z_g3, z_s3, z_g4, z_s4, z_g5, z_s5, z_g6, z_s6, z_g7, z_s7, z_g8, z_s8, z_g9, z_s9, z_g10, z_s10, z_g11, z_s11, z_g12, z_s12, z_g13, z_s13, z_b0, z_b1, z_b0n, z_b1n, z_up_far1, z_up_far2, z_up_far3, z_up_far4, z_up_far5, z_up_far6, Classical.not_not, not_true_eq_false, z_in, z_inL, Int.cast_ofNat_Int, Nat.reduceLeDiff, List.length_cons, List.length_nil, Nat.reduceAdd, Nat.zero_add, Nat.le_refl, true_and, and_true, List.length, Nat.reduceLT, true_or, or_true, false_or, or_false, false_and, and_false, not_true_eq_false, not_false_eq_true, forall_const, false_implies, true_implies, Int.reduceEq, Int.reduceLT, Int.reduceLE, Int.reduceAdd, Int.reduceSub, Int.reduceMul, Int.reduceNeg, Int.reduceToNat, Int.toNat_natCast, ↓reduceIte, reduceIte, Nat.reduceEqDiff, Nat.reduceSub, Nat.reduceMul, ne_eq, Int.zero_add, Int.add_zero, Int.sub_zero, Nat.add_zero, Int.ofNat_eq_natCast, tX0_body14_0, SX0_leave, SX0_body13, n2, n4, n5, okl, okl2, okl3, ok, o1]
  repeat' (first | (intro _) | (with_reducible assumption) | (refine And.intro ?_ ?_))
  all_goals first | omega | assumption | (refine z_fin h ?_ rfl; first | rfl | omega | (split <;> omega) | (split <;> split <;> omega)) | skip
theorem dX0_body14_0 : decode cX0_body14 0 = .ok (.aload_n 0, 1) := by decide +kernel
theorem dX0_body14_1 : decode cX0_body14 1 = .ok (.bipush 14, 2) := by decide +kernel
theorem dX0_body14_3 : decode cX0_body14 3 = .ok (.invokevirtual 62, 3) := by decide +kernel
theorem dX0_body14_6 : decode cX0_body14 6 = .ok (.iconst 2, 1) := by decide +kernel
theorem dX0_body14_7 : decode cX0_body14 7 = .ok (.aload_n 0, 1) := by decide +kernel
theorem dX0_body14_8 : decode cX0_body14 8 = .ok (.invokevirtual 38, 3) := by decide +kernel
theorem dX0_body14_11 : decode cX0_body14 11 = .ok (.imul, 1) := by decide +kernel
theorem dX0_body14_12 : decode cX0_body14 12 = .ok (.ireturn, 1) := by decide +kernel
set_option maxRecDepth 100000 in
theorem rX0_body14_0 {p : Program} {l : Launch} {e : Env} {s : State} {m : MethodId} {args : Array Value} {below : List Frame} {meth : Method} {c : Code} {D : va_G} {cA : Nat → ClassId} {ad : Nat → Nat} {Ret : zR} (C : z_Cx p { frames := 3, cells := 0, slots := 0, locals := 61 } s m args c cX0_body14 yX0_body14.cls 1 D cA ad) (hr : meth.sig.returnType = (some .int)) (hlocks : meth.locks = false) : ∀ L st σ, tX0_body14_0 (z_X p l e { frames := 3, cells := 0, slots := 0, locals := 61 } s m args below meth c (MQ below (z_Qc D cA ad Ret) args s 0 0 (z_A ad)) 1 D cA ad true) Ret L st σ → z_X p l e { frames := 3, cells := 0, slots := 0, locals := 61 } s m args below meth c (MQ below (z_Qc D cA ad Ret) args s 0 0 (z_A ad)) 1 D cA ad true 0 L st σ := (s_aload_n C dX0_body14_0 rfl (s_bipush C dX0_body14_1 rfl ⟨by decide, by decide⟩ (s_cv1 C dX0_body14_3 (okX0_leave l) cls_X0 wd_902 wd_904 wd_25 wd_84 wd_905 ⟨by decide, by decide, by decide +kernel⟩ ⟨by decide, by decide⟩ (s_iconst C dX0_body14_6 rfl ⟨by decide, by decide⟩ (s_aload_n C dX0_body14_7 rfl (s_cv0 C dX0_body14_8 (okX0_body13 l) cls_X0 wd_922 wd_924 wd_30 wd_84 wd_925 ⟨by decide, by decide, by decide +kernel⟩ ⟨by decide, by decide⟩ (s_imul C dX0_body14_11 (s_iret C dX0_body14_12 hr hlocks))))))))
theorem okX0_body14 (l : Launch) : z_OK l yX0_body14 cX0_body14 1 (some .int) 3 61 SX0_body14 := by
  refine z_ok_of true (by decide +kernel) ?_ ?_
  · intro as σ Ret h
    obtain ⟨k0, rfl⟩ := pX0_body14 h
    exact ⟨Nat.le_of_ble_eq_true rfl, by simp⟩
  · intro p e s m args below meth c D cA ad Ret C hr hlocks as σ has hσ h
    obtain ⟨k0, rfl⟩ := pX0_body14 h
    exact vX0_body14 (rX0_body14_0 C hr hlocks) k0 σ (has _ (List.mem_of_getElem? (i := 0) rfl)) hσ h

def SX0_body23 : zS := fun as σ Ret => match as with
  | [.inr (.inr (0, 0, k))] => q_ak σ k ∧ Ret (some (.inl (-σ k 2))) (q_lv (q_lv (σ) k 23) k 20)
  | _ => False
def tX0_body23_0 (X : Nat → zB) (Ret : zR) (L : zL) (st : List zV) (σ : zM) : Prop := (z_aload 0 (z_push 23 (z_cv1 0 SX0_leave (z_aload 0 (z_cv0 0 SX0_body20 (z_ineg (z_iret Ret))))))) L st σ
theorem pX0_body23 {as : List zV} {σ : zM} {Ret : zR} (h : SX0_body23 as σ Ret) : ∃ (k0 : Nat), as = [.inr (.inr (0, 0, k0))] := by
  unfold SX0_body23 at h
  split at h
  · exact ⟨_, rfl⟩
  · exact h.elim
set_option maxRecDepth 10000 in
set_option maxHeartbeats 4000000 in
theorem vX0_body23 {X : Nat → zB} {Ret : zR} (h0 : ∀ L st σ, tX0_body23_0 X Ret L st σ → X 0 L st σ) (k0 : Nat) (σ : zM) (hk0 : z_kd k0 = (0, 0)) (hσ : z_okm σ) (h : SX0_body23 [.inr (.inr (0, 0, k0))] σ Ret) : X 0 [some (.inr (.inr (0, 0, k0)))] [] σ := by
  obtain ⟨ok, h⟩ := h
  have okl := fun b => q_ak_lv (b := b) ok
  have okl2 := fun b c => q_ak_lv (b := c) (okl b)
  have okl3 := fun b c d => q_ak_lv (b := d) (okl2 b c)
  obtain ⟨o1, o2, o4, o5⟩ := id ok
  have n2 : ∀ (τ : zM) b, q_lv τ k0 b k0 2 = τ k0 2 := fun τ b => q_lv_ne (by decide)
  have n4 : ∀ (τ : zM) b, q_lv τ k0 b k0 4 = τ k0 4 := fun τ b => q_lv_ne (by decide)
  have n5 : ∀ (τ : zM) b, q_lv τ k0 b k0 5 = τ k0 5 := fun τ b => q_lv_ne (by decide)
  refine h0 _ _ _ ?_
  simp only [z_push, z_lpush, z_iload, z_lload, z_aload, z_istore, z_istoreP, z_lstore, z_astore, z_iinc, z_iincP, z_iadd, z_isub, z_imul, z_iaddW, z_isubW, z_imulW, z_idiv, z_irem, z_iand, z_ior, z_ixor, z_ishl, z_ishr, z_iushr, z_ineg, z_i2l, z_i2b, z_i2s, z_i2c, z_l2i, z_ladd, z_lsub, z_land, z_lor, z_lshl, z_lshr, z_lcmp, z_dup, z_pop, z_dup2, z_goto, z_tsw, z_cases, z_geti, z_getr, z_puti, z_putz, z_ald, z_iast, z_bast, z_zast, z_alen, z_acopy, z_mmax, z_mmin, z_mabs, z_mabsL, z_iret, z_zret, z_nret, z_lret, z_aret, z_vret, z_cat, z_ldcs, z_strv, z_strc, z_gcs, z_gfm, z_sln, z_sald, z_ifeq, z_ifne, z_iflt, z_ifge, z_ifgt, z_ifle, z_iceq, z_icne, z_iclt, z_icge, z_icgt, z_icle, z_cs0, z_cs1, z_cs2, z_cs3, z_cs4, z_cs5, z_cs6, z_cs7, z_cv0, z_cv1, z_cv2, z_cv3, z_cv4, z_cv5, z_cv6, z_cv7, z_g0, z_s0, z_g1, z_s1, z_g2, z_s2, z_g3, z_s3, z_g4, z_s4, z_g5, z_s5, z_g6, z_s6, z_g7, z_s7, z_g8, z_s8, z_g9, z_s9, z_g10, z_s10, z_g11, z_s11, z_g12, z_s12, z_g13, z_s13, z_b0, z_b1, z_b0n, z_b1n, z_up_far1, z_up_far2, z_up_far3, z_up_far4, z_up_far5, z_up_far6, Classical.not_not, not_true_eq_false, z_in, z_inL, Int.cast_ofNat_Int, Nat.reduceLeDiff, List.length_cons, List.length_nil, Nat.reduceAdd, Nat.zero_add, Nat.le_refl, true_and, and_true, List.length, Nat.reduceLT, true_or, or_true, false_or, or_false, false_and, and_false, not_true_eq_false, not_false_eq_true, forall_const, false_implies, true_implies, Int.reduceEq, Int.reduceLT, Int.reduceLE, Int.reduceAdd, Int.reduceSub, Int.reduceMul, Int.reduceNeg, Int.reduceToNat, Int.toNat_natCast, ↓reduceIte, reduceIte, Nat.reduceEqDiff, Nat.reduceSub, Nat.reduceMul, ne_eq, Int.zero_add, Int.add_zero, Int.sub_zero, Nat.add_zero, Int.ofNat_eq_natCast, tX0_body23_0, SX0_leave, SX0_body20, n2, n4, n5, okl, okl2, okl3, ok, o1]
  repeat' (first | (intro _) | (with_reducible assumption) | (refine And.intro ?_ ?_))
  all_goals first | omega | assumption | (refine z_fin h ?_ rfl; first | rfl | omega | (split <;> omega) | (split <;> split <;> omega)) | skip
theorem dX0_body23_0 : decode cX0_body23 0 = .ok (.aload_n 0, 1) := by decide +kernel
theorem dX0_body23_1 : decode cX0_body23 1 = .ok (.bipush 23, 2) := by decide +kernel
theorem dX0_body23_3 : decode cX0_body23 3 = .ok (.invokevirtual 62, 3) := by decide +kernel
theorem dX0_body23_6 : decode cX0_body23 6 = .ok (.aload_n 0, 1) := by decide +kernel
theorem dX0_body23_7 : decode cX0_body23 7 = .ok (.invokevirtual 59, 3) := by decide +kernel
theorem dX0_body23_10 : decode cX0_body23 10 = .ok (.ineg, 1) := by decide +kernel
theorem dX0_body23_11 : decode cX0_body23 11 = .ok (.ireturn, 1) := by decide +kernel
set_option maxRecDepth 100000 in
theorem rX0_body23_0 {p : Program} {l : Launch} {e : Env} {s : State} {m : MethodId} {args : Array Value} {below : List Frame} {meth : Method} {c : Code} {D : va_G} {cA : Nat → ClassId} {ad : Nat → Nat} {Ret : zR} (C : z_Cx p { frames := 2, cells := 0, slots := 0, locals := 41 } s m args c cX0_body23 yX0_body23.cls 1 D cA ad) (hr : meth.sig.returnType = (some .int)) (hlocks : meth.locks = false) : ∀ L st σ, tX0_body23_0 (z_X p l e { frames := 2, cells := 0, slots := 0, locals := 41 } s m args below meth c (MQ below (z_Qc D cA ad Ret) args s 0 0 (z_A ad)) 1 D cA ad true) Ret L st σ → z_X p l e { frames := 2, cells := 0, slots := 0, locals := 41 } s m args below meth c (MQ below (z_Qc D cA ad Ret) args s 0 0 (z_A ad)) 1 D cA ad true 0 L st σ := (s_aload_n C dX0_body23_0 rfl (s_bipush C dX0_body23_1 rfl ⟨by decide, by decide⟩ (s_cv1 C dX0_body23_3 (okX0_leave l) cls_X0 wd_902 wd_904 wd_25 wd_84 wd_905 ⟨by decide, by decide, by decide +kernel⟩ ⟨by decide, by decide⟩ (s_aload_n C dX0_body23_6 rfl (s_cv0 C dX0_body23_7 (okX0_body20 l) cls_X0 wd_914 wd_916 wd_28 wd_84 wd_917 ⟨by decide, by decide, by decide +kernel⟩ ⟨by decide, by decide⟩ (s_ineg C dX0_body23_10 (s_iret C dX0_body23_11 hr hlocks)))))))
theorem okX0_body23 (l : Launch) : z_OK l yX0_body23 cX0_body23 1 (some .int) 2 41 SX0_body23 := by
  refine z_ok_of true (by decide +kernel) ?_ ?_
  · intro as σ Ret h
    obtain ⟨k0, rfl⟩ := pX0_body23 h
    exact ⟨Nat.le_of_ble_eq_true rfl, by simp⟩
  · intro p e s m args below meth c D cA ad Ret C hr hlocks as σ has hσ h
    obtain ⟨k0, rfl⟩ := pX0_body23 h
    exact vX0_body23 (rX0_body23_0 C hr hlocks) k0 σ (has _ (List.mem_of_getElem? (i := 0) rfl)) hσ h

def SX0_body22 : zS := fun as σ Ret => match as with
  | [.inr (.inr (0, 0, k))] => q_ak σ k ∧ Ret (some (.inl (-σ k 2 + (σ k 4 - 1000)))) (q_lv (q_lv (q_lv (q_lv (q_lv (σ) k 22) k 23) k 20) k 13) k 10)
  | _ => False
def tX0_body22_0 (X : Nat → zB) (Ret : zR) (L : zL) (st : List zV) (σ : zM) : Prop := (z_aload 0 (z_push 22 (z_cv1 0 SX0_leave (z_aload 0 (z_cv0 0 SX0_body23 (z_istore 1 (z_iload 1 (z_aload 0 (z_cv0 0 SX0_body13 (z_iadd (z_iret Ret))))))))))) L st σ
theorem pX0_body22 {as : List zV} {σ : zM} {Ret : zR} (h : SX0_body22 as σ Ret) : ∃ (k0 : Nat), as = [.inr (.inr (0, 0, k0))] := by
  unfold SX0_body22 at h
  split at h
  · exact ⟨_, rfl⟩
  · exact h.elim
set_option maxRecDepth 10000 in
set_option maxHeartbeats 4000000 in
theorem vX0_body22 {X : Nat → zB} {Ret : zR} (h0 : ∀ L st σ, tX0_body22_0 X Ret L st σ → X 0 L st σ) (k0 : Nat) (σ : zM) (hk0 : z_kd k0 = (0, 0)) (hσ : z_okm σ) (h : SX0_body22 [.inr (.inr (0, 0, k0))] σ Ret) : X 0 [some (.inr (.inr (0, 0, k0))), none] [] σ := by
  obtain ⟨ok, h⟩ := h
  have okl := fun b => q_ak_lv (b := b) ok
  have okl2 := fun b c => q_ak_lv (b := c) (okl b)
  have okl3 := fun b c d => q_ak_lv (b := d) (okl2 b c)
  obtain ⟨o1, o2, o4, o5⟩ := id ok
  have n2 : ∀ (τ : zM) b, q_lv τ k0 b k0 2 = τ k0 2 := fun τ b => q_lv_ne (by decide)
  have n4 : ∀ (τ : zM) b, q_lv τ k0 b k0 4 = τ k0 4 := fun τ b => q_lv_ne (by decide)
  have n5 : ∀ (τ : zM) b, q_lv τ k0 b k0 5 = τ k0 5 := fun τ b => q_lv_ne (by decide)
  refine h0 _ _ _ ?_
  simp only [z_push, z_lpush, z_iload, z_lload, z_aload, z_istore, z_istoreP, z_lstore, z_astore, z_iinc, z_iincP, z_iadd, z_isub, z_imul, z_iaddW, z_isubW, z_imulW, z_idiv, z_irem, z_iand, z_ior, z_ixor, z_ishl, z_ishr, z_iushr, z_ineg, z_i2l, z_i2b, z_i2s, z_i2c, z_l2i, z_ladd, z_lsub, z_land, z_lor, z_lshl, z_lshr, z_lcmp, z_dup, z_pop, z_dup2, z_goto, z_tsw, z_cases, z_geti, z_getr, z_puti, z_putz, z_ald, z_iast, z_bast, z_zast, z_alen, z_acopy, z_mmax, z_mmin, z_mabs, z_mabsL, z_iret, z_zret, z_nret, z_lret, z_aret, z_vret, z_cat, z_ldcs, z_strv, z_strc, z_gcs, z_gfm, z_sln, z_sald, z_ifeq, z_ifne, z_iflt, z_ifge, z_ifgt, z_ifle, z_iceq, z_icne, z_iclt, z_icge, z_icgt, z_icle, z_cs0, z_cs1, z_cs2, z_cs3, z_cs4, z_cs5, z_cs6, z_cs7, z_cv0, z_cv1, z_cv2, z_cv3, z_cv4, z_cv5, z_cv6, z_cv7, z_g0, z_s0, z_g1, z_s1, z_g2, z_s2, z_g3, z_s3, z_g4, z_s4, z_g5, z_s5, z_g6, z_s6, z_g7, z_s7, z_g8, z_s8, z_g9, z_s9, z_g10, z_s10, z_g11, z_s11, z_g12, z_s12, z_g13, z_s13, z_b0, z_b1, z_b0n, z_b1n, z_up_far1, z_up_far2, z_up_far3, z_up_far4, z_up_far5, z_up_far6, Classical.not_not, not_true_eq_false, z_in, z_inL, Int.cast_ofNat_Int, Nat.reduceLeDiff, List.length_cons, List.length_nil, Nat.reduceAdd, Nat.zero_add, Nat.le_refl, true_and, and_true, List.length, Nat.reduceLT, true_or, or_true, false_or, or_false, false_and, and_false, not_true_eq_false, not_false_eq_true, forall_const, false_implies, true_implies, Int.reduceEq, Int.reduceLT, Int.reduceLE, Int.reduceAdd, Int.reduceSub, Int.reduceMul, Int.reduceNeg, Int.reduceToNat, Int.toNat_natCast, ↓reduceIte, reduceIte, Nat.reduceEqDiff, Nat.reduceSub, Nat.reduceMul, ne_eq, Int.zero_add, Int.add_zero, Int.sub_zero, Nat.add_zero, Int.ofNat_eq_natCast, tX0_body22_0, SX0_leave, SX0_body13, SX0_body23, n2, n4, n5, okl, okl2, okl3, ok, o1]
  repeat' (first | (intro _) | (with_reducible assumption) | (refine And.intro ?_ ?_))
  all_goals first | omega | assumption | (refine z_fin h ?_ rfl; first | rfl | omega | (split <;> omega) | (split <;> split <;> omega)) | skip
theorem dX0_body22_0 : decode cX0_body22 0 = .ok (.aload_n 0, 1) := by decide +kernel
theorem dX0_body22_1 : decode cX0_body22 1 = .ok (.bipush 22, 2) := by decide +kernel
theorem dX0_body22_3 : decode cX0_body22 3 = .ok (.invokevirtual 62, 3) := by decide +kernel
theorem dX0_body22_6 : decode cX0_body22 6 = .ok (.aload_n 0, 1) := by decide +kernel
theorem dX0_body22_7 : decode cX0_body22 7 = .ok (.invokevirtual 53, 3) := by decide +kernel
theorem dX0_body22_10 : decode cX0_body22 10 = .ok (.istore_n 1, 1) := by decide +kernel
theorem dX0_body22_11 : decode cX0_body22 11 = .ok (.iload_n 1, 1) := by decide +kernel
theorem dX0_body22_12 : decode cX0_body22 12 = .ok (.aload_n 0, 1) := by decide +kernel
theorem dX0_body22_13 : decode cX0_body22 13 = .ok (.invokevirtual 38, 3) := by decide +kernel
theorem dX0_body22_16 : decode cX0_body22 16 = .ok (.iadd, 1) := by decide +kernel
theorem dX0_body22_17 : decode cX0_body22 17 = .ok (.ireturn, 1) := by decide +kernel
set_option maxRecDepth 100000 in
theorem rX0_body22_0 {p : Program} {l : Launch} {e : Env} {s : State} {m : MethodId} {args : Array Value} {below : List Frame} {meth : Method} {c : Code} {D : va_G} {cA : Nat → ClassId} {ad : Nat → Nat} {Ret : zR} (C : z_Cx p { frames := 3, cells := 0, slots := 0, locals := 61 } s m args c cX0_body22 yX0_body22.cls 2 D cA ad) (hr : meth.sig.returnType = (some .int)) (hlocks : meth.locks = false) : ∀ L st σ, tX0_body22_0 (z_X p l e { frames := 3, cells := 0, slots := 0, locals := 61 } s m args below meth c (MQ below (z_Qc D cA ad Ret) args s 0 0 (z_A ad)) 2 D cA ad true) Ret L st σ → z_X p l e { frames := 3, cells := 0, slots := 0, locals := 61 } s m args below meth c (MQ below (z_Qc D cA ad Ret) args s 0 0 (z_A ad)) 2 D cA ad true 0 L st σ := (s_aload_n C dX0_body22_0 rfl (s_bipush C dX0_body22_1 rfl ⟨by decide, by decide⟩ (s_cv1 C dX0_body22_3 (okX0_leave l) cls_X0 wd_902 wd_904 wd_25 wd_84 wd_905 ⟨by decide, by decide, by decide +kernel⟩ ⟨by decide, by decide⟩ (s_aload_n C dX0_body22_6 rfl (s_cv0 C dX0_body22_7 (okX0_body23 l) cls_X0 wd_938 wd_940 wd_33 wd_84 wd_941 ⟨by decide, by decide, by decide +kernel⟩ ⟨by decide, by decide⟩ (s_istore_n C dX0_body22_10 (by decide) rfl rfl (s_iload_n C dX0_body22_11 rfl (s_aload_n C dX0_body22_12 rfl (s_cv0 C dX0_body22_13 (okX0_body13 l) cls_X0 wd_922 wd_924 wd_30 wd_84 wd_925 ⟨by decide, by decide, by decide +kernel⟩ ⟨by decide, by decide⟩ (s_iadd C dX0_body22_16 (s_iret C dX0_body22_17 hr hlocks)))))))))))
theorem okX0_body22 (l : Launch) : z_OK l yX0_body22 cX0_body22 2 (some .int) 3 61 SX0_body22 := by
  refine z_ok_of true (by decide +kernel) ?_ ?_
  · intro as σ Ret h
    obtain ⟨k0, rfl⟩ := pX0_body22 h
    exact ⟨Nat.le_of_ble_eq_true rfl, by simp⟩
  · intro p e s m args below meth c D cA ad Ret C hr hlocks as σ has hσ h
    obtain ⟨k0, rfl⟩ := pX0_body22 h
    exact vX0_body22 (rX0_body22_0 C hr hlocks) k0 σ (has _ (List.mem_of_getElem? (i := 0) rfl)) hσ h

def SX0_body24 : zS := fun as σ Ret => match as with
  | [.inr (.inr (0, 0, k))] => q_ak σ k ∧ Ret (some (.inl (-σ k 2 - 100))) (q_lv (q_lv (q_lv (σ) k 24) k 23) k 20)
  | _ => False
def tX0_body24_0 (X : Nat → zB) (Ret : zR) (L : zL) (st : List zV) (σ : zM) : Prop := (z_aload 0 (z_push 24 (z_cv1 0 SX0_leave (z_aload 0 (z_cv0 0 SX0_body23 (z_push 100 (z_isub (z_iret Ret)))))))) L st σ
theorem pX0_body24 {as : List zV} {σ : zM} {Ret : zR} (h : SX0_body24 as σ Ret) : ∃ (k0 : Nat), as = [.inr (.inr (0, 0, k0))] := by
  unfold SX0_body24 at h
  split at h
  · exact ⟨_, rfl⟩
  · exact h.elim
set_option maxRecDepth 10000 in
set_option maxHeartbeats 4000000 in
theorem vX0_body24 {X : Nat → zB} {Ret : zR} (h0 : ∀ L st σ, tX0_body24_0 X Ret L st σ → X 0 L st σ) (k0 : Nat) (σ : zM) (hk0 : z_kd k0 = (0, 0)) (hσ : z_okm σ) (h : SX0_body24 [.inr (.inr (0, 0, k0))] σ Ret) : X 0 [some (.inr (.inr (0, 0, k0)))] [] σ := by
  obtain ⟨ok, h⟩ := h
  have okl := fun b => q_ak_lv (b := b) ok
  have okl2 := fun b c => q_ak_lv (b := c) (okl b)
  have okl3 := fun b c d => q_ak_lv (b := d) (okl2 b c)
  obtain ⟨o1, o2, o4, o5⟩ := id ok
  have n2 : ∀ (τ : zM) b, q_lv τ k0 b k0 2 = τ k0 2 := fun τ b => q_lv_ne (by decide)
  have n4 : ∀ (τ : zM) b, q_lv τ k0 b k0 4 = τ k0 4 := fun τ b => q_lv_ne (by decide)
  have n5 : ∀ (τ : zM) b, q_lv τ k0 b k0 5 = τ k0 5 := fun τ b => q_lv_ne (by decide)
  refine h0 _ _ _ ?_
  simp only [z_push, z_lpush, z_iload, z_lload, z_aload, z_istore, z_istoreP, z_lstore, z_astore, z_iinc, z_iincP, z_iadd, z_isub, z_imul, z_iaddW, z_isubW, z_imulW, z_idiv, z_irem, z_iand, z_ior, z_ixor, z_ishl, z_ishr, z_iushr, z_ineg, z_i2l, z_i2b, z_i2s, z_i2c, z_l2i, z_ladd, z_lsub, z_land, z_lor, z_lshl, z_lshr, z_lcmp, z_dup, z_pop, z_dup2, z_goto, z_tsw, z_cases, z_geti, z_getr, z_puti, z_putz, z_ald, z_iast, z_bast, z_zast, z_alen, z_acopy, z_mmax, z_mmin, z_mabs, z_mabsL, z_iret, z_zret, z_nret, z_lret, z_aret, z_vret, z_cat, z_ldcs, z_strv, z_strc, z_gcs, z_gfm, z_sln, z_sald, z_ifeq, z_ifne, z_iflt, z_ifge, z_ifgt, z_ifle, z_iceq, z_icne, z_iclt, z_icge, z_icgt, z_icle, z_cs0, z_cs1, z_cs2, z_cs3, z_cs4, z_cs5, z_cs6, z_cs7, z_cv0, z_cv1, z_cv2, z_cv3, z_cv4, z_cv5, z_cv6, z_cv7, z_g0, z_s0, z_g1, z_s1, z_g2, z_s2, z_g3, z_s3, z_g4, z_s4, z_g5, z_s5, z_g6, z_s6, z_g7, z_s7, z_g8, z_s8, z_g9, z_s9, z_g10, z_s10, z_g11, z_s11, z_g12, z_s12, z_g13, z_s13, z_b0, z_b1, z_b0n, z_b1n, z_up_far1, z_up_far2, z_up_far3, z_up_far4, z_up_far5, z_up_far6, Classical.not_not, not_true_eq_false, z_in, z_inL, Int.cast_ofNat_Int, Nat.reduceLeDiff, List.length_cons, List.length_nil, Nat.reduceAdd, Nat.zero_add, Nat.le_refl, true_and, and_true, List.length, Nat.reduceLT, true_or, or_true, false_or, or_false, false_and, and_false, not_true_eq_false, not_false_eq_true, forall_const, false_implies, true_implies, Int.reduceEq, Int.reduceLT, Int.reduceLE, Int.reduceAdd, Int.reduceSub, Int.reduceMul, Int.reduceNeg, Int.reduceToNat, Int.toNat_natCast, ↓reduceIte, reduceIte, Nat.reduceEqDiff, Nat.reduceSub, Nat.reduceMul, ne_eq, Int.zero_add, Int.add_zero, Int.sub_zero, Nat.add_zero, Int.ofNat_eq_natCast, tX0_body24_0, SX0_leave, SX0_body23, n2, n4, n5, okl, okl2, okl3, ok, o1]
  repeat' (first | (intro _) | (with_reducible assumption) | (refine And.intro ?_ ?_))
  all_goals first | omega | assumption | (refine z_fin h ?_ rfl; first | rfl | omega | (split <;> omega) | (split <;> split <;> omega)) | skip
theorem dX0_body24_0 : decode cX0_body24 0 = .ok (.aload_n 0, 1) := by decide +kernel
theorem dX0_body24_1 : decode cX0_body24 1 = .ok (.bipush 24, 2) := by decide +kernel
theorem dX0_body24_3 : decode cX0_body24 3 = .ok (.invokevirtual 62, 3) := by decide +kernel
theorem dX0_body24_6 : decode cX0_body24 6 = .ok (.aload_n 0, 1) := by decide +kernel
theorem dX0_body24_7 : decode cX0_body24 7 = .ok (.invokevirtual 53, 3) := by decide +kernel
theorem dX0_body24_10 : decode cX0_body24 10 = .ok (.bipush 100, 2) := by decide +kernel
theorem dX0_body24_12 : decode cX0_body24 12 = .ok (.isub, 1) := by decide +kernel
theorem dX0_body24_13 : decode cX0_body24 13 = .ok (.ireturn, 1) := by decide +kernel
set_option maxRecDepth 100000 in
theorem rX0_body24_0 {p : Program} {l : Launch} {e : Env} {s : State} {m : MethodId} {args : Array Value} {below : List Frame} {meth : Method} {c : Code} {D : va_G} {cA : Nat → ClassId} {ad : Nat → Nat} {Ret : zR} (C : z_Cx p { frames := 3, cells := 0, slots := 0, locals := 61 } s m args c cX0_body24 yX0_body24.cls 1 D cA ad) (hr : meth.sig.returnType = (some .int)) (hlocks : meth.locks = false) : ∀ L st σ, tX0_body24_0 (z_X p l e { frames := 3, cells := 0, slots := 0, locals := 61 } s m args below meth c (MQ below (z_Qc D cA ad Ret) args s 0 0 (z_A ad)) 1 D cA ad true) Ret L st σ → z_X p l e { frames := 3, cells := 0, slots := 0, locals := 61 } s m args below meth c (MQ below (z_Qc D cA ad Ret) args s 0 0 (z_A ad)) 1 D cA ad true 0 L st σ := (s_aload_n C dX0_body24_0 rfl (s_bipush C dX0_body24_1 rfl ⟨by decide, by decide⟩ (s_cv1 C dX0_body24_3 (okX0_leave l) cls_X0 wd_902 wd_904 wd_25 wd_84 wd_905 ⟨by decide, by decide, by decide +kernel⟩ ⟨by decide, by decide⟩ (s_aload_n C dX0_body24_6 rfl (s_cv0 C dX0_body24_7 (okX0_body23 l) cls_X0 wd_938 wd_940 wd_33 wd_84 wd_941 ⟨by decide, by decide, by decide +kernel⟩ ⟨by decide, by decide⟩ (s_bipush C dX0_body24_10 rfl ⟨by decide, by decide⟩ (s_isub C dX0_body24_12 (s_iret C dX0_body24_13 hr hlocks))))))))
theorem okX0_body24 (l : Launch) : z_OK l yX0_body24 cX0_body24 1 (some .int) 3 61 SX0_body24 := by
  refine z_ok_of true (by decide +kernel) ?_ ?_
  · intro as σ Ret h
    obtain ⟨k0, rfl⟩ := pX0_body24 h
    exact ⟨Nat.le_of_ble_eq_true rfl, by simp⟩
  · intro p e s m args below meth c D cA ad Ret C hr hlocks as σ has hσ h
    obtain ⟨k0, rfl⟩ := pX0_body24 h
    exact vX0_body24 (rX0_body24_0 C hr hlocks) k0 σ (has _ (List.mem_of_getElem? (i := 0) rfl)) hσ h
def SX0_sizeAsked : zS := fun as σ Ret => match as with
  | [.inr (.inr (0, 0, k))] => (q_ak σ k ∧ 1 ≤ σ k 3 ∧ σ k 3 ≤ 5) ∧
      (σ k 3 = 3 → Ret (some (.inl (σ k 4 + (σ k 2 + σ k 5)))) (q_lv (q_lv (q_lv (q_lv σ k 11) k 10) k 21) k 20)) ∧
      (σ k 3 = 4 → Ret (some (.inl (-(σ k 4 + (σ k 2 + σ k 5))))) (q_lv (q_lv (q_lv (q_lv (q_lv σ k 12) k 11) k 10) k 21) k 20)) ∧
      (σ k 3 = 1 ∨ σ k 3 = 2 → Ret (some (.inl (σ k 4 - 1000))) (q_lv (q_lv σ k 13) k 10)) ∧
      (σ k 3 = 5 → Ret (some (.inl (2 * (σ k 4 - 1000)))) (q_lv (q_lv (q_lv σ k 14) k 13) k 10))
  | _ => False
def tX0_sizeAsked_0 (X : Nat → zB) (Ret : zR) (L : zL) (st : List zV) (σ : zM) : Prop := (z_aload 0 (z_geti 0 3 (z_tsw 1 [(z_aload 0 (z_cv0 0 SX0_body13 (z_iret Ret))), (z_aload 0 (z_cv0 0 SX0_body13 (z_iret Ret))), (z_aload 0 (z_cv0 0 SX0_body11 (z_iret Ret))), (z_aload 0 (z_cv0 0 SX0_body12 (z_iret Ret))), (z_aload 0 (z_cv0 0 SX0_body14 (z_iret Ret)))] (z_aload 0 (z_cv0 0 SX0_body10 (z_iret Ret)))))) L st σ
theorem pX0_sizeAsked {as : List zV} {σ : zM} {Ret : zR} (h : SX0_sizeAsked as σ Ret) : ∃ (k0 : Nat), as = [.inr (.inr (0, 0, k0))] := by
  unfold SX0_sizeAsked at h
  split at h
  · exact ⟨_, rfl⟩
  · exact h.elim
set_option maxRecDepth 10000 in
set_option maxHeartbeats 4000000 in
theorem vX0_sizeAsked {X : Nat → zB} {Ret : zR} (h0 : ∀ L st σ, tX0_sizeAsked_0 X Ret L st σ → X 0 L st σ) (k0 : Nat) (σ : zM) (hk0 : z_kd k0 = (0, 0)) (hσ : z_okm σ) (h : SX0_sizeAsked [.inr (.inr (0, 0, k0))] σ Ret) : X 0 [some (.inr (.inr (0, 0, k0)))] [] σ := by
  obtain ⟨⟨ok, d1, d5⟩, hh3, hh4, hh12, hh5⟩ := h
  have hd : σ k0 3 = 1 ∨ σ k0 3 = 2 ∨ σ k0 3 = 3 ∨ σ k0 3 = 4 ∨ σ k0 3 = 5 := by omega
  rcases hd with q | q | q | q | q
  all_goals
    refine h0 _ _ _ ?_
    simp only [z_push, z_lpush, z_iload, z_lload, z_aload, z_istore, z_istoreP, z_lstore, z_astore, z_iinc, z_iincP, z_iadd, z_isub, z_imul, z_iaddW, z_isubW, z_imulW, z_idiv, z_irem, z_iand, z_ior, z_ixor, z_ishl, z_ishr, z_iushr, z_ineg, z_i2l, z_i2b, z_i2s, z_i2c, z_l2i, z_ladd, z_lsub, z_land, z_lor, z_lshl, z_lshr, z_lcmp, z_dup, z_pop, z_dup2, z_goto, z_tsw, z_cases, z_geti, z_getr, z_puti, z_putz, z_ald, z_iast, z_bast, z_zast, z_alen, z_acopy, z_mmax, z_mmin, z_mabs, z_mabsL, z_iret, z_zret, z_nret, z_lret, z_aret, z_vret, z_cat, z_ldcs, z_strv, z_strc, z_gcs, z_gfm, z_sln, z_sald, z_ifeq, z_ifne, z_iflt, z_ifge, z_ifgt, z_ifle, z_iceq, z_icne, z_iclt, z_icge, z_icgt, z_icle, z_cs0, z_cs1, z_cs2, z_cs3, z_cs4, z_cs5, z_cs6, z_cs7, z_cv0, z_cv1, z_cv2, z_cv3, z_cv4, z_cv5, z_cv6, z_cv7, z_g0, z_s0, z_g1, z_s1, z_g2, z_s2, z_g3, z_s3, z_g4, z_s4, z_g5, z_s5, z_g6, z_s6, z_g7, z_s7, z_g8, z_s8, z_g9, z_s9, z_g10, z_s10, z_g11, z_s11, z_g12, z_s12, z_g13, z_s13, z_b0, z_b1, z_b0n, z_b1n, z_up_far1, z_up_far2, z_up_far3, z_up_far4, z_up_far5, z_up_far6, Classical.not_not, not_true_eq_false, z_in, z_inL, Int.cast_ofNat_Int, Nat.reduceLeDiff, List.length_cons, List.length_nil, Nat.reduceAdd, Nat.zero_add, Nat.le_refl, true_and, and_true, List.length, Nat.reduceLT, true_or, or_true, false_or, or_false, false_and, and_false, not_true_eq_false, not_false_eq_true, forall_const, false_implies, true_implies, Int.reduceEq, Int.reduceLT, Int.reduceLE, Int.reduceAdd, Int.reduceSub, Int.reduceMul, Int.reduceNeg, Int.reduceToNat, Int.toNat_natCast, ↓reduceIte, reduceIte, Nat.reduceEqDiff, Nat.reduceSub, Nat.reduceMul, ne_eq, Int.zero_add, Int.add_zero, Int.sub_zero, Nat.add_zero, Int.ofNat_eq_natCast, tX0_sizeAsked_0, SX0_body11, SX0_body12, SX0_body13, SX0_body14, q, ok]
    simp only [q, Int.reduceEq, true_or, or_true, or_self, forall_const, false_implies, true_implies] at hh3 hh4 hh12 hh5
    repeat' (first | (intro _) | (with_reducible assumption) | (refine And.intro ?_ ?_))
    all_goals first | omega | assumption | (refine z_fin hh3 ?_ rfl; first | rfl | omega | (split <;> omega) | (split <;> split <;> omega)) | skip
theorem dX0_sizeAsked_0 : decode cX0_sizeAsked 0 = .ok (.aload_n 0, 1) := by decide +kernel
theorem dX0_sizeAsked_1 : decode cX0_sizeAsked 1 = .ok (.getfield 22, 3) := by decide +kernel
theorem dX0_sizeAsked_4 : decode cX0_sizeAsked 4 = .ok (.tableswitch 56 1 5 #[46, 46, 36, 41, 51], 36) := by decide +kernel
theorem dX0_sizeAsked_40 : decode cX0_sizeAsked 40 = .ok (.aload_n 0, 1) := by decide +kernel
theorem dX0_sizeAsked_41 : decode cX0_sizeAsked 41 = .ok (.invokevirtual 31, 3) := by decide +kernel
theorem dX0_sizeAsked_44 : decode cX0_sizeAsked 44 = .ok (.ireturn, 1) := by decide +kernel
theorem dX0_sizeAsked_45 : decode cX0_sizeAsked 45 = .ok (.aload_n 0, 1) := by decide +kernel
theorem dX0_sizeAsked_46 : decode cX0_sizeAsked 46 = .ok (.invokevirtual 35, 3) := by decide +kernel
theorem dX0_sizeAsked_49 : decode cX0_sizeAsked 49 = .ok (.ireturn, 1) := by decide +kernel
theorem dX0_sizeAsked_50 : decode cX0_sizeAsked 50 = .ok (.aload_n 0, 1) := by decide +kernel
theorem dX0_sizeAsked_51 : decode cX0_sizeAsked 51 = .ok (.invokevirtual 38, 3) := by decide +kernel
theorem dX0_sizeAsked_54 : decode cX0_sizeAsked 54 = .ok (.ireturn, 1) := by decide +kernel
theorem dX0_sizeAsked_55 : decode cX0_sizeAsked 55 = .ok (.aload_n 0, 1) := by decide +kernel
theorem dX0_sizeAsked_56 : decode cX0_sizeAsked 56 = .ok (.invokevirtual 41, 3) := by decide +kernel
theorem dX0_sizeAsked_59 : decode cX0_sizeAsked 59 = .ok (.ireturn, 1) := by decide +kernel
theorem dX0_sizeAsked_60 : decode cX0_sizeAsked 60 = .ok (.aload_n 0, 1) := by decide +kernel
theorem dX0_sizeAsked_61 : decode cX0_sizeAsked 61 = .ok (.invokevirtual 44, 3) := by decide +kernel
theorem dX0_sizeAsked_64 : decode cX0_sizeAsked 64 = .ok (.ireturn, 1) := by decide +kernel
set_option maxRecDepth 100000 in
theorem rX0_sizeAsked_0 {p : Program} {l : Launch} {e : Env} {s : State} {m : MethodId} {args : Array Value} {below : List Frame} {meth : Method} {c : Code} {D : va_G} {cA : Nat → ClassId} {ad : Nat → Nat} {Ret : zR} (C : z_Cx p { frames := 5, cells := 0, slots := 0, locals := 102 } s m args c cX0_sizeAsked yX0_sizeAsked.cls 1 D cA ad) (hr : meth.sig.returnType = (some .int)) (hlocks : meth.locks = false) : ∀ L st σ, tX0_sizeAsked_0 (z_X p l e { frames := 5, cells := 0, slots := 0, locals := 102 } s m args below meth c (MQ below (z_Qc D cA ad Ret) args s 0 0 (z_A ad)) 1 D cA ad true) Ret L st σ → z_X p l e { frames := 5, cells := 0, slots := 0, locals := 102 } s m args below meth c (MQ below (z_Qc D cA ad Ret) args s 0 0 (z_A ad)) 1 D cA ad true 0 L st σ := (s_aload_n C dX0_sizeAsked_0 rfl (s_geti C dX0_sizeAsked_1 cls_X0 (by decide) rfl wd_341 (s_tsw C dX0_sizeAsked_4 (by decide) rfl (s_aload_n C dX0_sizeAsked_60 rfl (s_cv0 C dX0_sizeAsked_61 (okX0_body10 l) cls_X0 wd_906 wd_908 wd_26 wd_84 wd_909 ⟨by decide, by decide, by decide +kernel⟩ ⟨by decide, by decide⟩ (s_iret C dX0_sizeAsked_64 hr hlocks))) (fun i hi => match i, hi with | 0, _ => ⟨46, 50, _, rfl, by decide, rfl, (s_aload_n C dX0_sizeAsked_50 rfl (s_cv0 C dX0_sizeAsked_51 (okX0_body13 l) cls_X0 wd_922 wd_924 wd_30 wd_84 wd_925 ⟨by decide, by decide, by decide +kernel⟩ ⟨by decide, by decide⟩ (s_iret C dX0_sizeAsked_54 hr hlocks)))⟩ | 1, _ => ⟨46, 50, _, rfl, by decide, rfl, (s_aload_n C dX0_sizeAsked_50 rfl (s_cv0 C dX0_sizeAsked_51 (okX0_body13 l) cls_X0 wd_922 wd_924 wd_30 wd_84 wd_925 ⟨by decide, by decide, by decide +kernel⟩ ⟨by decide, by decide⟩ (s_iret C dX0_sizeAsked_54 hr hlocks)))⟩ | 2, _ => ⟨36, 40, _, rfl, by decide, rfl, (s_aload_n C dX0_sizeAsked_40 rfl (s_cv0 C dX0_sizeAsked_41 (okX0_body11 l) cls_X0 wd_898 wd_900 wd_24 wd_84 wd_901 ⟨by decide, by decide, by decide +kernel⟩ ⟨by decide, by decide⟩ (s_iret C dX0_sizeAsked_44 hr hlocks)))⟩ | 3, _ => ⟨41, 45, _, rfl, by decide, rfl, (s_aload_n C dX0_sizeAsked_45 rfl (s_cv0 C dX0_sizeAsked_46 (okX0_body12 l) cls_X0 wd_918 wd_920 wd_29 wd_84 wd_921 ⟨by decide, by decide, by decide +kernel⟩ ⟨by decide, by decide⟩ (s_iret C dX0_sizeAsked_49 hr hlocks)))⟩ | 4, _ => ⟨51, 55, _, rfl, by decide, rfl, (s_aload_n C dX0_sizeAsked_55 rfl (s_cv0 C dX0_sizeAsked_56 (okX0_body14 l) cls_X0 wd_926 wd_928 wd_31 wd_84 wd_929 ⟨by decide, by decide, by decide +kernel⟩ ⟨by decide, by decide⟩ (s_iret C dX0_sizeAsked_59 hr hlocks)))⟩) ⟨by decide, by decide⟩ ⟨by decide, by decide⟩)))
theorem okX0_sizeAsked (l : Launch) : z_OK l yX0_sizeAsked cX0_sizeAsked 1 (some .int) 5 102 SX0_sizeAsked := by
  refine z_ok_of true (by decide +kernel) ?_ ?_
  · intro as σ Ret h
    obtain ⟨k0, rfl⟩ := pX0_sizeAsked h
    exact ⟨Nat.le_of_ble_eq_true rfl, by simp⟩
  · intro p e s m args below meth c D cA ad Ret C hr hlocks as σ has hσ h
    obtain ⟨k0, rfl⟩ := pX0_sizeAsked h
    exact vX0_sizeAsked (rX0_sizeAsked_0 C hr hlocks) k0 σ (has _ (List.mem_of_getElem? (i := 0) rfl)) hσ h
def SX0_markAsked : zS := fun as σ Ret => match as with
  | [.inr (.inr (0, 0, k))] => (q_ak σ k ∧ 1 ≤ σ k 3 ∧ σ k 3 ≤ 5) ∧
      (σ k 3 = 3 ∨ σ k 3 = 4 → Ret (some (.inl (σ k 2 + σ k 5))) (q_lv (q_lv σ k 21) k 20)) ∧
      (σ k 3 = 2 → Ret (some (.inl (-σ k 2 + (σ k 4 - 1000)))) (q_lv (q_lv (q_lv (q_lv (q_lv σ k 22) k 23) k 20) k 13) k 10)) ∧
      (σ k 3 = 1 → Ret (some (.inl (-σ k 2))) (q_lv (q_lv σ k 23) k 20)) ∧
      (σ k 3 = 5 → Ret (some (.inl (-σ k 2 - 100))) (q_lv (q_lv (q_lv σ k 24) k 23) k 20))
  | _ => False
def tX0_markAsked_0 (X : Nat → zB) (Ret : zR) (L : zL) (st : List zV) (σ : zM) : Prop := (z_aload 0 (z_geti 0 3 (z_tsw 1 [(z_aload 0 (z_cv0 0 SX0_body23 (z_iret Ret))), (z_aload 0 (z_cv0 0 SX0_body22 (z_iret Ret))), (z_aload 0 (z_cv0 0 SX0_body21 (z_iret Ret))), (z_aload 0 (z_cv0 0 SX0_body21 (z_iret Ret))), (z_aload 0 (z_cv0 0 SX0_body24 (z_iret Ret)))] (z_aload 0 (z_cv0 0 SX0_body20 (z_iret Ret)))))) L st σ
theorem pX0_markAsked {as : List zV} {σ : zM} {Ret : zR} (h : SX0_markAsked as σ Ret) : ∃ (k0 : Nat), as = [.inr (.inr (0, 0, k0))] := by
  unfold SX0_markAsked at h
  split at h
  · exact ⟨_, rfl⟩
  · exact h.elim
set_option maxRecDepth 10000 in
set_option maxHeartbeats 4000000 in
theorem vX0_markAsked {X : Nat → zB} {Ret : zR} (h0 : ∀ L st σ, tX0_markAsked_0 X Ret L st σ → X 0 L st σ) (k0 : Nat) (σ : zM) (hk0 : z_kd k0 = (0, 0)) (hσ : z_okm σ) (h : SX0_markAsked [.inr (.inr (0, 0, k0))] σ Ret) : X 0 [some (.inr (.inr (0, 0, k0)))] [] σ := by
  obtain ⟨⟨ok, d1, d5⟩, hh34, hh2, hh1, hh5⟩ := h
  have hd : σ k0 3 = 1 ∨ σ k0 3 = 2 ∨ σ k0 3 = 3 ∨ σ k0 3 = 4 ∨ σ k0 3 = 5 := by omega
  rcases hd with q | q | q | q | q
  all_goals
    refine h0 _ _ _ ?_
    simp only [z_push, z_lpush, z_iload, z_lload, z_aload, z_istore, z_istoreP, z_lstore, z_astore, z_iinc, z_iincP, z_iadd, z_isub, z_imul, z_iaddW, z_isubW, z_imulW, z_idiv, z_irem, z_iand, z_ior, z_ixor, z_ishl, z_ishr, z_iushr, z_ineg, z_i2l, z_i2b, z_i2s, z_i2c, z_l2i, z_ladd, z_lsub, z_land, z_lor, z_lshl, z_lshr, z_lcmp, z_dup, z_pop, z_dup2, z_goto, z_tsw, z_cases, z_geti, z_getr, z_puti, z_putz, z_ald, z_iast, z_bast, z_zast, z_alen, z_acopy, z_mmax, z_mmin, z_mabs, z_mabsL, z_iret, z_zret, z_nret, z_lret, z_aret, z_vret, z_cat, z_ldcs, z_strv, z_strc, z_gcs, z_gfm, z_sln, z_sald, z_ifeq, z_ifne, z_iflt, z_ifge, z_ifgt, z_ifle, z_iceq, z_icne, z_iclt, z_icge, z_icgt, z_icle, z_cs0, z_cs1, z_cs2, z_cs3, z_cs4, z_cs5, z_cs6, z_cs7, z_cv0, z_cv1, z_cv2, z_cv3, z_cv4, z_cv5, z_cv6, z_cv7, z_g0, z_s0, z_g1, z_s1, z_g2, z_s2, z_g3, z_s3, z_g4, z_s4, z_g5, z_s5, z_g6, z_s6, z_g7, z_s7, z_g8, z_s8, z_g9, z_s9, z_g10, z_s10, z_g11, z_s11, z_g12, z_s12, z_g13, z_s13, z_b0, z_b1, z_b0n, z_b1n, z_up_far1, z_up_far2, z_up_far3, z_up_far4, z_up_far5, z_up_far6, Classical.not_not, not_true_eq_false, z_in, z_inL, Int.cast_ofNat_Int, Nat.reduceLeDiff, List.length_cons, List.length_nil, Nat.reduceAdd, Nat.zero_add, Nat.le_refl, true_and, and_true, List.length, Nat.reduceLT, true_or, or_true, false_or, or_false, false_and, and_false, not_true_eq_false, not_false_eq_true, forall_const, false_implies, true_implies, Int.reduceEq, Int.reduceLT, Int.reduceLE, Int.reduceAdd, Int.reduceSub, Int.reduceMul, Int.reduceNeg, Int.reduceToNat, Int.toNat_natCast, ↓reduceIte, reduceIte, Nat.reduceEqDiff, Nat.reduceSub, Nat.reduceMul, ne_eq, Int.zero_add, Int.add_zero, Int.sub_zero, Nat.add_zero, Int.ofNat_eq_natCast, tX0_markAsked_0, SX0_body21, SX0_body22, SX0_body23, SX0_body24, q, ok]
    simp only [q, Int.reduceEq, true_or, or_true, or_self, forall_const, false_implies, true_implies] at hh34 hh2 hh1 hh5
    repeat' (first | (intro _) | (with_reducible assumption) | (refine And.intro ?_ ?_))
    all_goals first | omega | assumption | (refine z_fin hh1 ?_ rfl; first | rfl | omega | (split <;> omega) | (split <;> split <;> omega)) | skip
theorem dX0_markAsked_0 : decode cX0_markAsked 0 = .ok (.aload_n 0, 1) := by decide +kernel
theorem dX0_markAsked_1 : decode cX0_markAsked 1 = .ok (.getfield 22, 3) := by decide +kernel
theorem dX0_markAsked_4 : decode cX0_markAsked 4 = .ok (.tableswitch 56 1 5 #[46, 41, 36, 36, 51], 36) := by decide +kernel
theorem dX0_markAsked_40 : decode cX0_markAsked 40 = .ok (.aload_n 0, 1) := by decide +kernel
theorem dX0_markAsked_41 : decode cX0_markAsked 41 = .ok (.invokevirtual 47, 3) := by decide +kernel
theorem dX0_markAsked_44 : decode cX0_markAsked 44 = .ok (.ireturn, 1) := by decide +kernel
theorem dX0_markAsked_45 : decode cX0_markAsked 45 = .ok (.aload_n 0, 1) := by decide +kernel
theorem dX0_markAsked_46 : decode cX0_markAsked 46 = .ok (.invokevirtual 50, 3) := by decide +kernel
theorem dX0_markAsked_49 : decode cX0_markAsked 49 = .ok (.ireturn, 1) := by decide +kernel
theorem dX0_markAsked_50 : decode cX0_markAsked 50 = .ok (.aload_n 0, 1) := by decide +kernel
theorem dX0_markAsked_51 : decode cX0_markAsked 51 = .ok (.invokevirtual 53, 3) := by decide +kernel
theorem dX0_markAsked_54 : decode cX0_markAsked 54 = .ok (.ireturn, 1) := by decide +kernel
theorem dX0_markAsked_55 : decode cX0_markAsked 55 = .ok (.aload_n 0, 1) := by decide +kernel
theorem dX0_markAsked_56 : decode cX0_markAsked 56 = .ok (.invokevirtual 56, 3) := by decide +kernel
theorem dX0_markAsked_59 : decode cX0_markAsked 59 = .ok (.ireturn, 1) := by decide +kernel
theorem dX0_markAsked_60 : decode cX0_markAsked 60 = .ok (.aload_n 0, 1) := by decide +kernel
theorem dX0_markAsked_61 : decode cX0_markAsked 61 = .ok (.invokevirtual 59, 3) := by decide +kernel
theorem dX0_markAsked_64 : decode cX0_markAsked 64 = .ok (.ireturn, 1) := by decide +kernel
set_option maxRecDepth 100000 in
theorem rX0_markAsked_0 {p : Program} {l : Launch} {e : Env} {s : State} {m : MethodId} {args : Array Value} {below : List Frame} {meth : Method} {c : Code} {D : va_G} {cA : Nat → ClassId} {ad : Nat → Nat} {Ret : zR} (C : z_Cx p { frames := 4, cells := 0, slots := 0, locals := 82 } s m args c cX0_markAsked yX0_markAsked.cls 1 D cA ad) (hr : meth.sig.returnType = (some .int)) (hlocks : meth.locks = false) : ∀ L st σ, tX0_markAsked_0 (z_X p l e { frames := 4, cells := 0, slots := 0, locals := 82 } s m args below meth c (MQ below (z_Qc D cA ad Ret) args s 0 0 (z_A ad)) 1 D cA ad true) Ret L st σ → z_X p l e { frames := 4, cells := 0, slots := 0, locals := 82 } s m args below meth c (MQ below (z_Qc D cA ad Ret) args s 0 0 (z_A ad)) 1 D cA ad true 0 L st σ := (s_aload_n C dX0_markAsked_0 rfl (s_geti C dX0_markAsked_1 cls_X0 (by decide) rfl wd_341 (s_tsw C dX0_markAsked_4 (by decide) rfl (s_aload_n C dX0_markAsked_60 rfl (s_cv0 C dX0_markAsked_61 (okX0_body20 l) cls_X0 wd_914 wd_916 wd_28 wd_84 wd_917 ⟨by decide, by decide, by decide +kernel⟩ ⟨by decide, by decide⟩ (s_iret C dX0_markAsked_64 hr hlocks))) (fun i hi => match i, hi with | 0, _ => ⟨46, 50, _, rfl, by decide, rfl, (s_aload_n C dX0_markAsked_50 rfl (s_cv0 C dX0_markAsked_51 (okX0_body23 l) cls_X0 wd_938 wd_940 wd_33 wd_84 wd_941 ⟨by decide, by decide, by decide +kernel⟩ ⟨by decide, by decide⟩ (s_iret C dX0_markAsked_54 hr hlocks)))⟩ | 1, _ => ⟨41, 45, _, rfl, by decide, rfl, (s_aload_n C dX0_markAsked_45 rfl (s_cv0 C dX0_markAsked_46 (okX0_body22 l) cls_X0 wd_934 wd_936 wd_32 wd_84 wd_937 ⟨by decide, by decide, by decide +kernel⟩ ⟨by decide, by decide⟩ (s_iret C dX0_markAsked_49 hr hlocks)))⟩ | 2, _ => ⟨36, 40, _, rfl, by decide, rfl, (s_aload_n C dX0_markAsked_40 rfl (s_cv0 C dX0_markAsked_41 (okX0_body21 l) cls_X0 wd_910 wd_912 wd_27 wd_84 wd_913 ⟨by decide, by decide, by decide +kernel⟩ ⟨by decide, by decide⟩ (s_iret C dX0_markAsked_44 hr hlocks)))⟩ | 3, _ => ⟨36, 40, _, rfl, by decide, rfl, (s_aload_n C dX0_markAsked_40 rfl (s_cv0 C dX0_markAsked_41 (okX0_body21 l) cls_X0 wd_910 wd_912 wd_27 wd_84 wd_913 ⟨by decide, by decide, by decide +kernel⟩ ⟨by decide, by decide⟩ (s_iret C dX0_markAsked_44 hr hlocks)))⟩ | 4, _ => ⟨51, 55, _, rfl, by decide, rfl, (s_aload_n C dX0_markAsked_55 rfl (s_cv0 C dX0_markAsked_56 (okX0_body24 l) cls_X0 wd_942 wd_944 wd_34 wd_84 wd_945 ⟨by decide, by decide, by decide +kernel⟩ ⟨by decide, by decide⟩ (s_iret C dX0_markAsked_59 hr hlocks)))⟩) ⟨by decide, by decide⟩ ⟨by decide, by decide⟩)))
theorem okX0_markAsked (l : Launch) : z_OK l yX0_markAsked cX0_markAsked 1 (some .int) 4 82 SX0_markAsked := by
  refine z_ok_of true (by decide +kernel) ?_ ?_
  · intro as σ Ret h
    obtain ⟨k0, rfl⟩ := pX0_markAsked h
    exact ⟨Nat.le_of_ble_eq_true rfl, by simp⟩
  · intro p e s m args below meth c D cA ad Ret C hr hlocks as σ has hσ h
    obtain ⟨k0, rfl⟩ := pX0_markAsked h
    exact vX0_markAsked (rX0_markAsked_0 C hr hlocks) k0 σ (has _ (List.mem_of_getElem? (i := 0) rfl)) hσ h
