/-! Trees, Winds, Deeds: Trees k: arrays k+1 length, k+2 pull, k+3 side, k+4 grows, k+5 ice, k+6 felled, number of them at (k, 6). -/
def SX6_has : zS := fun as σ Ret => match as with
  | [.inr (.inr (6, 0, k)), .inl i] => Ret (some (.inl (if (0 ≤ i ∧ i < σ k 6) ∧ i < 12 then 1 else 0))) σ
  | _ => False
def tX6_has_0 (X : Nat → zB) (Ret : zR) (L : zL) (st : List zV) (σ : zM) : Prop := (z_iload 1 (z_iflt (z_push 0 (z_zret Ret)) (z_iload 1 (z_aload 0 (z_geti 6 6 (z_icge (z_push 0 (z_zret Ret)) (z_iload 1 (z_push 12 (z_icge (z_push 0 (z_zret Ret)) (z_push 1 (z_goto (z_zret Ret)))))))))))) L st σ
theorem pX6_has {as : List zV} {σ : zM} {Ret : zR} (h : SX6_has as σ Ret) : ∃ (k0 : Nat) (x1 : Int), as = [.inr (.inr (6, 0, k0)), .inl x1] := by
  unfold SX6_has at h
  split at h
  · exact ⟨_, _, rfl⟩
  · exact h.elim
set_option maxRecDepth 10000 in
set_option maxHeartbeats 4000000 in
theorem vX6_has {X : Nat → zB} {Ret : zR} (h0 : ∀ L st σ, tX6_has_0 X Ret L st σ → X 0 L st σ) (k0 : Nat) (x1 : Int) (σ : zM) (hk0 : z_kd k0 = (6, 0)) (hx1 : -2147483648 ≤ x1 ∧ x1 ≤ 2147483647) (hσ : z_okm σ) (h : SX6_has [.inr (.inr (6, 0, k0)), .inl x1] σ Ret) : X 0 [some (.inr (.inr (6, 0, k0))), some (.inl x1)] [] σ := by
  refine h0 _ _ _ ?_
  simp only [SX6_has] at h
  simp only [z_push, z_lpush, z_iload, z_lload, z_aload, z_istore, z_istoreP, z_lstore, z_astore, z_iinc, z_iincP, z_iadd, z_isub, z_imul, z_iaddW, z_isubW, z_imulW, z_idiv, z_irem, z_iand, z_ior, z_ixor, z_ishl, z_ishr, z_iushr, z_ineg, z_i2l, z_i2b, z_i2s, z_i2c, z_l2i, z_ladd, z_lsub, z_land, z_lor, z_lshl, z_lshr, z_lcmp, z_dup, z_pop, z_dup2, z_goto, z_tsw, z_cases, z_geti, z_getr, z_puti, z_putz, z_ald, z_iast, z_bast, z_zast, z_alen, z_acopy, z_mmax, z_mmin, z_mabs, z_mabsL, z_iret, z_zret, z_nret, z_lret, z_aret, z_vret, z_cat, z_xald, z_xlen, z_ldcs, z_strv, z_strc, z_gcs, z_gfm, z_sln, z_sald, z_ifeq, z_ifne, z_iflt, z_ifge, z_ifgt, z_ifle, z_iceq, z_icne, z_iclt, z_icge, z_icgt, z_icle, z_cs0, z_cs1, z_cs2, z_cs3, z_cs4, z_cs5, z_cs6, z_cs7, z_cv0, z_cv1, z_cv2, z_cv3, z_cv4, z_cv5, z_cv6, z_cv7, z_g0, z_s0, z_g1, z_s1, z_g2, z_s2, z_g3, z_s3, z_g4, z_s4, z_g5, z_s5, z_g6, z_s6, z_g7, z_s7, z_g8, z_s8, z_g9, z_s9, z_g10, z_s10, z_g11, z_s11, z_g12, z_s12, z_g13, z_s13, z_b0, z_b1, z_b0n, z_b1n, z_up_far1, z_up_far2, z_up_far3, z_up_far4, z_up_far5, z_up_far6, Classical.not_not, not_true_eq_false, z_in, z_inL, Int.cast_ofNat_Int, Nat.reduceLeDiff, List.length_cons, List.length_nil, Nat.reduceAdd, Nat.zero_add, Nat.le_refl, true_and, and_true, List.length, Nat.reduceLT, true_or, or_true, false_or, or_false, false_and, and_false, not_true_eq_false, not_false_eq_true, forall_const, false_implies, true_implies, Int.reduceEq, Int.reduceLT, Int.reduceLE, Int.reduceAdd, Int.reduceSub, Int.reduceMul, Int.reduceNeg, Int.reduceToNat, Int.toNat_natCast, ↓reduceIte, reduceIte, Nat.reduceEqDiff, Nat.reduceSub, Nat.reduceMul, ne_eq, Int.zero_add, Int.add_zero, Int.sub_zero, Nat.add_zero, Int.ofNat_eq_natCast, tX6_has_0]
  repeat' (first | (intro _) | (with_reducible assumption) | (refine And.intro ?_ ?_))
  all_goals first | omega | assumption | (refine z_fin h ?_ rfl; first | rfl | omega | (split <;> omega) | (split <;> split <;> omega)) | skip
theorem dX6_has_0 : decode cX6_has 0 = .ok (.iload_n 1, 1) := by decide +kernel
theorem dX6_has_1 : decode cX6_has 1 = .ok (.ifCond .lt 21, 3) := by decide +kernel
theorem dX6_has_4 : decode cX6_has 4 = .ok (.iload_n 1, 1) := by decide +kernel
theorem dX6_has_5 : decode cX6_has 5 = .ok (.aload_n 0, 1) := by decide +kernel
theorem dX6_has_6 : decode cX6_has 6 = .ok (.getfield 30, 3) := by decide +kernel
theorem dX6_has_9 : decode cX6_has 9 = .ok (.if_icmp .ge 13, 3) := by decide +kernel
theorem dX6_has_12 : decode cX6_has 12 = .ok (.iload_n 1, 1) := by decide +kernel
theorem dX6_has_13 : decode cX6_has 13 = .ok (.bipush 12, 2) := by decide +kernel
theorem dX6_has_15 : decode cX6_has 15 = .ok (.if_icmp .ge 7, 3) := by decide +kernel
theorem dX6_has_18 : decode cX6_has 18 = .ok (.iconst 1, 1) := by decide +kernel
theorem dX6_has_19 : decode cX6_has 19 = .ok (.goto 4, 3) := by decide +kernel
theorem dX6_has_22 : decode cX6_has 22 = .ok (.iconst 0, 1) := by decide +kernel
theorem dX6_has_23 : decode cX6_has 23 = .ok (.ireturn, 1) := by decide +kernel
set_option maxRecDepth 100000 in
theorem rX6_has_0 {zx : zX} {zn : Nat} {p : Program} {l : Launch} {e : Env} {s : State} {m : MethodId} {args : Array Value} {below : List Frame} {meth : Method} {c : Code} {D : va_G} {cA : Nat → ClassId} {ad : Nat → Nat} {Ret : zR} (C : z_Cx zx zn (z_A zn ad) 0 0 p { frames := 0, cells := 0, slots := 0, locals := 0 } s m args c cX6_has yX6_has.cls 2 D cA ad) (hr : meth.sig.returnType = (some .boolean)) (hlocks : meth.locks = false) : ∀ L st σ, tX6_has_0 (z_X zx zn (z_A zn ad) 0 0 p l e { frames := 0, cells := 0, slots := 0, locals := 0 } s m args below meth c (MQ below (z_Qc zn D cA ad Ret) args s 0 0 (z_A zn ad)) 2 D cA ad true) Ret L st σ → z_X zx zn (z_A zn ad) 0 0 p l e { frames := 0, cells := 0, slots := 0, locals := 0 } s m args below meth c (MQ below (z_Qc zn D cA ad Ret) args s 0 0 (z_A zn ad)) 2 D cA ad true 0 L st σ := (s_iload_n C dX6_has_0 rfl (s_iflt C dX6_has_1 (by decide) (s_iconst C dX6_has_22 rfl ⟨by decide, by decide⟩ (s_zret C dX6_has_23 hr ⟨rfl, rfl⟩ hlocks)) (s_iload_n C dX6_has_4 rfl (s_aload_n C dX6_has_5 rfl (s_geti C dX6_has_6 cls_X6 (by decide) rfl wd_124 (s_icge C dX6_has_9 (by decide) (s_iconst C dX6_has_22 rfl ⟨by decide, by decide⟩ (s_zret C dX6_has_23 hr ⟨rfl, rfl⟩ hlocks)) (s_iload_n C dX6_has_12 rfl (s_bipush C dX6_has_13 rfl ⟨by decide, by decide⟩ (s_icge C dX6_has_15 (by decide) (s_iconst C dX6_has_22 rfl ⟨by decide, by decide⟩ (s_zret C dX6_has_23 hr ⟨rfl, rfl⟩ hlocks)) (s_iconst C dX6_has_18 rfl ⟨by decide, by decide⟩ (s_goto C dX6_has_19 (by decide) (s_zret C dX6_has_23 hr ⟨rfl, rfl⟩ hlocks))))))))))))
theorem okX6_has {zx : zX} {zn : Nat} (l : Launch) : z_OK zx zn l yX6_has cX6_has 2 (some .boolean) 0 0 SX6_has := by
  refine z_ok_of true (by decide +kernel) ?_ ?_
  · intro as σ Ret h
    obtain ⟨k0, x1, rfl⟩ := pX6_has h
    exact ⟨Nat.le_of_ble_eq_true rfl, by simp⟩
  · intro p e s m args below meth c D cA ad Ret C hr hlocks as σ has hσ h
    obtain ⟨k0, x1, rfl⟩ := pX6_has h
    exact vX6_has (rX6_has_0 C hr hlocks) k0 x1 σ (has _ (List.mem_of_getElem? (i := 0) rfl)).1 (has _ (List.mem_of_getElem? (i := 1) rfl)) hσ h
def SX7_has : zS := fun as σ Ret => match as with
  | [.inr (.inr (7, 0, k)), .inl i] => Ret (some (.inl (if (0 ≤ i ∧ i < σ k 3) ∧ i < 6 then 1 else 0))) σ
  | _ => False
def tX7_has_0 (X : Nat → zB) (Ret : zR) (L : zL) (st : List zV) (σ : zM) : Prop := (z_iload 1 (z_iflt (z_push 0 (z_zret Ret)) (z_iload 1 (z_aload 0 (z_geti 7 3 (z_icge (z_push 0 (z_zret Ret)) (z_iload 1 (z_push 6 (z_icge (z_push 0 (z_zret Ret)) (z_push 1 (z_goto (z_zret Ret)))))))))))) L st σ
theorem pX7_has {as : List zV} {σ : zM} {Ret : zR} (h : SX7_has as σ Ret) : ∃ (k0 : Nat) (x1 : Int), as = [.inr (.inr (7, 0, k0)), .inl x1] := by
  unfold SX7_has at h
  split at h
  · exact ⟨_, _, rfl⟩
  · exact h.elim
set_option maxRecDepth 10000 in
set_option maxHeartbeats 4000000 in
theorem vX7_has {X : Nat → zB} {Ret : zR} (h0 : ∀ L st σ, tX7_has_0 X Ret L st σ → X 0 L st σ) (k0 : Nat) (x1 : Int) (σ : zM) (hk0 : z_kd k0 = (7, 0)) (hx1 : -2147483648 ≤ x1 ∧ x1 ≤ 2147483647) (hσ : z_okm σ) (h : SX7_has [.inr (.inr (7, 0, k0)), .inl x1] σ Ret) : X 0 [some (.inr (.inr (7, 0, k0))), some (.inl x1)] [] σ := by
  refine h0 _ _ _ ?_
  simp only [SX7_has] at h
  simp only [z_push, z_lpush, z_iload, z_lload, z_aload, z_istore, z_istoreP, z_lstore, z_astore, z_iinc, z_iincP, z_iadd, z_isub, z_imul, z_iaddW, z_isubW, z_imulW, z_idiv, z_irem, z_iand, z_ior, z_ixor, z_ishl, z_ishr, z_iushr, z_ineg, z_i2l, z_i2b, z_i2s, z_i2c, z_l2i, z_ladd, z_lsub, z_land, z_lor, z_lshl, z_lshr, z_lcmp, z_dup, z_pop, z_dup2, z_goto, z_tsw, z_cases, z_geti, z_getr, z_puti, z_putz, z_ald, z_iast, z_bast, z_zast, z_alen, z_acopy, z_mmax, z_mmin, z_mabs, z_mabsL, z_iret, z_zret, z_nret, z_lret, z_aret, z_vret, z_cat, z_xald, z_xlen, z_ldcs, z_strv, z_strc, z_gcs, z_gfm, z_sln, z_sald, z_ifeq, z_ifne, z_iflt, z_ifge, z_ifgt, z_ifle, z_iceq, z_icne, z_iclt, z_icge, z_icgt, z_icle, z_cs0, z_cs1, z_cs2, z_cs3, z_cs4, z_cs5, z_cs6, z_cs7, z_cv0, z_cv1, z_cv2, z_cv3, z_cv4, z_cv5, z_cv6, z_cv7, z_g0, z_s0, z_g1, z_s1, z_g2, z_s2, z_g3, z_s3, z_g4, z_s4, z_g5, z_s5, z_g6, z_s6, z_g7, z_s7, z_g8, z_s8, z_g9, z_s9, z_g10, z_s10, z_g11, z_s11, z_g12, z_s12, z_g13, z_s13, z_b0, z_b1, z_b0n, z_b1n, z_up_far1, z_up_far2, z_up_far3, z_up_far4, z_up_far5, z_up_far6, Classical.not_not, not_true_eq_false, z_in, z_inL, Int.cast_ofNat_Int, Nat.reduceLeDiff, List.length_cons, List.length_nil, Nat.reduceAdd, Nat.zero_add, Nat.le_refl, true_and, and_true, List.length, Nat.reduceLT, true_or, or_true, false_or, or_false, false_and, and_false, not_true_eq_false, not_false_eq_true, forall_const, false_implies, true_implies, Int.reduceEq, Int.reduceLT, Int.reduceLE, Int.reduceAdd, Int.reduceSub, Int.reduceMul, Int.reduceNeg, Int.reduceToNat, Int.toNat_natCast, ↓reduceIte, reduceIte, Nat.reduceEqDiff, Nat.reduceSub, Nat.reduceMul, ne_eq, Int.zero_add, Int.add_zero, Int.sub_zero, Nat.add_zero, Int.ofNat_eq_natCast, tX7_has_0]
  repeat' (first | (intro _) | (with_reducible assumption) | (refine And.intro ?_ ?_))
  all_goals first | omega | assumption | (refine z_fin h ?_ rfl; first | rfl | omega | (split <;> omega) | (split <;> split <;> omega)) | skip
theorem dX7_has_0 : decode cX7_has 0 = .ok (.iload_n 1, 1) := by decide +kernel
theorem dX7_has_1 : decode cX7_has 1 = .ok (.ifCond .lt 21, 3) := by decide +kernel
theorem dX7_has_4 : decode cX7_has 4 = .ok (.iload_n 1, 1) := by decide +kernel
theorem dX7_has_5 : decode cX7_has 5 = .ok (.aload_n 0, 1) := by decide +kernel
theorem dX7_has_6 : decode cX7_has 6 = .ok (.getfield 21, 3) := by decide +kernel
theorem dX7_has_9 : decode cX7_has 9 = .ok (.if_icmp .ge 13, 3) := by decide +kernel
theorem dX7_has_12 : decode cX7_has 12 = .ok (.iload_n 1, 1) := by decide +kernel
theorem dX7_has_13 : decode cX7_has 13 = .ok (.bipush 6, 2) := by decide +kernel
theorem dX7_has_15 : decode cX7_has 15 = .ok (.if_icmp .ge 7, 3) := by decide +kernel
theorem dX7_has_18 : decode cX7_has 18 = .ok (.iconst 1, 1) := by decide +kernel
theorem dX7_has_19 : decode cX7_has 19 = .ok (.goto 4, 3) := by decide +kernel
theorem dX7_has_22 : decode cX7_has 22 = .ok (.iconst 0, 1) := by decide +kernel
theorem dX7_has_23 : decode cX7_has 23 = .ok (.ireturn, 1) := by decide +kernel
set_option maxRecDepth 100000 in
theorem rX7_has_0 {zx : zX} {zn : Nat} {p : Program} {l : Launch} {e : Env} {s : State} {m : MethodId} {args : Array Value} {below : List Frame} {meth : Method} {c : Code} {D : va_G} {cA : Nat → ClassId} {ad : Nat → Nat} {Ret : zR} (C : z_Cx zx zn (z_A zn ad) 0 0 p { frames := 0, cells := 0, slots := 0, locals := 0 } s m args c cX7_has yX7_has.cls 2 D cA ad) (hr : meth.sig.returnType = (some .boolean)) (hlocks : meth.locks = false) : ∀ L st σ, tX7_has_0 (z_X zx zn (z_A zn ad) 0 0 p l e { frames := 0, cells := 0, slots := 0, locals := 0 } s m args below meth c (MQ below (z_Qc zn D cA ad Ret) args s 0 0 (z_A zn ad)) 2 D cA ad true) Ret L st σ → z_X zx zn (z_A zn ad) 0 0 p l e { frames := 0, cells := 0, slots := 0, locals := 0 } s m args below meth c (MQ below (z_Qc zn D cA ad Ret) args s 0 0 (z_A zn ad)) 2 D cA ad true 0 L st σ := (s_iload_n C dX7_has_0 rfl (s_iflt C dX7_has_1 (by decide) (s_iconst C dX7_has_22 rfl ⟨by decide, by decide⟩ (s_zret C dX7_has_23 hr ⟨rfl, rfl⟩ hlocks)) (s_iload_n C dX7_has_4 rfl (s_aload_n C dX7_has_5 rfl (s_geti C dX7_has_6 cls_X7 (by decide) rfl wd_154 (s_icge C dX7_has_9 (by decide) (s_iconst C dX7_has_22 rfl ⟨by decide, by decide⟩ (s_zret C dX7_has_23 hr ⟨rfl, rfl⟩ hlocks)) (s_iload_n C dX7_has_12 rfl (s_bipush C dX7_has_13 rfl ⟨by decide, by decide⟩ (s_icge C dX7_has_15 (by decide) (s_iconst C dX7_has_22 rfl ⟨by decide, by decide⟩ (s_zret C dX7_has_23 hr ⟨rfl, rfl⟩ hlocks)) (s_iconst C dX7_has_18 rfl ⟨by decide, by decide⟩ (s_goto C dX7_has_19 (by decide) (s_zret C dX7_has_23 hr ⟨rfl, rfl⟩ hlocks))))))))))))
theorem okX7_has {zx : zX} {zn : Nat} (l : Launch) : z_OK zx zn l yX7_has cX7_has 2 (some .boolean) 0 0 SX7_has := by
  refine z_ok_of true (by decide +kernel) ?_ ?_
  · intro as σ Ret h
    obtain ⟨k0, x1, rfl⟩ := pX7_has h
    exact ⟨Nat.le_of_ble_eq_true rfl, by simp⟩
  · intro p e s m args below meth c D cA ad Ret C hr hlocks as σ has hσ h
    obtain ⟨k0, x1, rfl⟩ := pX7_has h
    exact vX7_has (rX7_has_0 C hr hlocks) k0 x1 σ (has _ (List.mem_of_getElem? (i := 0) rfl)).1 (has _ (List.mem_of_getElem? (i := 1) rfl)) hσ h
def SX6_add : zS := fun as σ Ret => match as with
  | [.inr (.inr (6, 0, k)), .inl l, .inl p, .inl s, .inl g] => (0 ≤ σ k 6 ∧ σ k 6 < 12) ∧ Ret none (z_up (z_up (z_up (z_up (z_up (z_up (z_up σ (k + 1) (σ k 6).toNat l) (k + 2) (σ k 6).toNat p) (k + 3) (σ k 6).toNat s) (k + 4) (σ k 6).toNat g) (k + 5) (σ k 6).toNat 0) (k + 6) (σ k 6).toNat 0) k 6 (σ k 6 + 1))
  | _ => False
def tX6_add_0 (X : Nat → zB) (Ret : zR) (L : zL) (st : List zV) (σ : zM) : Prop := (z_aload 0 (z_geti 6 6 (z_push 12 (z_iclt (z_aload 0 (z_getr 6 1 100 12 (z_aload 0 (z_geti 6 6 (z_iload 1 (z_iast (z_aload 0 (z_getr 6 2 100 12 (z_aload 0 (z_geti 6 6 (z_iload 2 (z_iast (z_aload 0 (z_getr 6 3 100 12 (z_aload 0 (z_geti 6 6 (z_iload 3 (z_iast (z_aload 0 (z_getr 6 4 100 12 (z_aload 0 (z_geti 6 6 (z_iload 4 (z_iast (z_aload 0 (z_getr 6 5 100 12 (z_aload 0 (z_geti 6 6 (z_push 0 (z_iast (z_aload 0 (z_getr 6 6 100 12 (z_aload 0 (z_geti 6 6 (z_push 0 (z_iast (z_aload 0 (z_dup (z_geti 6 6 (z_push 1 (z_iadd (z_puti 6 6 (z_vret Ret))))))))))))))))))))))))))))))))))))))))))) (z_vret Ret))))) L st σ
theorem pX6_add {as : List zV} {σ : zM} {Ret : zR} (h : SX6_add as σ Ret) : ∃ (k0 : Nat) (x1 : Int) (x2 : Int) (x3 : Int) (x4 : Int), as = [.inr (.inr (6, 0, k0)), .inl x1, .inl x2, .inl x3, .inl x4] := by
  unfold SX6_add at h
  split at h
  · exact ⟨_, _, _, _, _, rfl⟩
  · exact h.elim
set_option maxRecDepth 10000 in
set_option maxHeartbeats 4000000 in
theorem vX6_add {X : Nat → zB} {Ret : zR} (h0 : ∀ L st σ, tX6_add_0 X Ret L st σ → X 0 L st σ) (k0 : Nat) (x1 : Int) (x2 : Int) (x3 : Int) (x4 : Int) (σ : zM) (hk0 : z_kd k0 = (6, 0)) (hx1 : -2147483648 ≤ x1 ∧ x1 ≤ 2147483647) (hx2 : -2147483648 ≤ x2 ∧ x2 ≤ 2147483647) (hx3 : -2147483648 ≤ x3 ∧ x3 ≤ 2147483647) (hx4 : -2147483648 ≤ x4 ∧ x4 ≤ 2147483647) (hσ : z_okm σ) (h : SX6_add [.inr (.inr (6, 0, k0)), .inl x1, .inl x2, .inl x3, .inl x4] σ Ret) : X 0 [some (.inr (.inr (6, 0, k0))), some (.inl x1), some (.inl x2), some (.inl x3), some (.inl x4)] [] σ := by
  obtain ⟨hc, h⟩ := h
  refine h0 _ _ _ ?_
  simp only [z_push, z_lpush, z_iload, z_lload, z_aload, z_istore, z_istoreP, z_lstore, z_astore, z_iinc, z_iincP, z_iadd, z_isub, z_imul, z_iaddW, z_isubW, z_imulW, z_idiv, z_irem, z_iand, z_ior, z_ixor, z_ishl, z_ishr, z_iushr, z_ineg, z_i2l, z_i2b, z_i2s, z_i2c, z_l2i, z_ladd, z_lsub, z_land, z_lor, z_lshl, z_lshr, z_lcmp, z_dup, z_pop, z_dup2, z_goto, z_tsw, z_cases, z_geti, z_getr, z_puti, z_putz, z_ald, z_iast, z_bast, z_zast, z_alen, z_acopy, z_mmax, z_mmin, z_mabs, z_mabsL, z_iret, z_zret, z_nret, z_lret, z_aret, z_vret, z_cat, z_xald, z_xlen, z_ldcs, z_strv, z_strc, z_gcs, z_gfm, z_sln, z_sald, z_ifeq, z_ifne, z_iflt, z_ifge, z_ifgt, z_ifle, z_iceq, z_icne, z_iclt, z_icge, z_icgt, z_icle, z_cs0, z_cs1, z_cs2, z_cs3, z_cs4, z_cs5, z_cs6, z_cs7, z_cv0, z_cv1, z_cv2, z_cv3, z_cv4, z_cv5, z_cv6, z_cv7, z_g0, z_s0, z_g1, z_s1, z_g2, z_s2, z_g3, z_s3, z_g4, z_s4, z_g5, z_s5, z_g6, z_s6, z_g7, z_s7, z_g8, z_s8, z_g9, z_s9, z_g10, z_s10, z_g11, z_s11, z_g12, z_s12, z_g13, z_s13, z_b0, z_b1, z_b0n, z_b1n, z_up_far1, z_up_far2, z_up_far3, z_up_far4, z_up_far5, z_up_far6, Classical.not_not, not_true_eq_false, z_in, z_inL, Int.cast_ofNat_Int, Nat.reduceLeDiff, List.length_cons, List.length_nil, Nat.reduceAdd, Nat.zero_add, Nat.le_refl, true_and, and_true, List.length, Nat.reduceLT, true_or, or_true, false_or, or_false, false_and, and_false, not_true_eq_false, not_false_eq_true, forall_const, false_implies, true_implies, Int.reduceEq, Int.reduceLT, Int.reduceLE, Int.reduceAdd, Int.reduceSub, Int.reduceMul, Int.reduceNeg, Int.reduceToNat, Int.toNat_natCast, ↓reduceIte, reduceIte, Nat.reduceEqDiff, Nat.reduceSub, Nat.reduceMul, ne_eq, Int.zero_add, Int.add_zero, Int.sub_zero, Nat.add_zero, Int.ofNat_eq_natCast, tX6_add_0]
  repeat' (first | (intro _) | (with_reducible assumption) | (refine And.intro ?_ ?_))
  all_goals first | omega | assumption | (refine z_fin h ?_ rfl; first | rfl | omega | (split <;> omega) | (split <;> split <;> omega)) | skip
theorem dX6_add_0 : decode cX6_add 0 = .ok (.aload_n 0, 1) := by decide +kernel
theorem dX6_add_1 : decode cX6_add 1 = .ok (.getfield 30, 3) := by decide +kernel
theorem dX6_add_4 : decode cX6_add 4 = .ok (.bipush 12, 2) := by decide +kernel
theorem dX6_add_6 : decode cX6_add 6 = .ok (.if_icmp .lt 4, 3) := by decide +kernel
theorem dX6_add_9 : decode cX6_add 9 = .ok (.return_, 1) := by decide +kernel
theorem dX6_add_10 : decode cX6_add 10 = .ok (.aload_n 0, 1) := by decide +kernel
theorem dX6_add_11 : decode cX6_add 11 = .ok (.getfield 9, 3) := by decide +kernel
theorem dX6_add_14 : decode cX6_add 14 = .ok (.aload_n 0, 1) := by decide +kernel
theorem dX6_add_15 : decode cX6_add 15 = .ok (.getfield 30, 3) := by decide +kernel
theorem dX6_add_18 : decode cX6_add 18 = .ok (.iload_n 1, 1) := by decide +kernel
theorem dX6_add_19 : decode cX6_add 19 = .ok (.iastore, 1) := by decide +kernel
theorem dX6_add_20 : decode cX6_add 20 = .ok (.aload_n 0, 1) := by decide +kernel
theorem dX6_add_21 : decode cX6_add 21 = .ok (.getfield 15, 3) := by decide +kernel
theorem dX6_add_24 : decode cX6_add 24 = .ok (.aload_n 0, 1) := by decide +kernel
theorem dX6_add_25 : decode cX6_add 25 = .ok (.getfield 30, 3) := by decide +kernel
theorem dX6_add_28 : decode cX6_add 28 = .ok (.iload_n 2, 1) := by decide +kernel
theorem dX6_add_29 : decode cX6_add 29 = .ok (.iastore, 1) := by decide +kernel
theorem dX6_add_30 : decode cX6_add 30 = .ok (.aload_n 0, 1) := by decide +kernel
theorem dX6_add_31 : decode cX6_add 31 = .ok (.getfield 18, 3) := by decide +kernel
theorem dX6_add_34 : decode cX6_add 34 = .ok (.aload_n 0, 1) := by decide +kernel
theorem dX6_add_35 : decode cX6_add 35 = .ok (.getfield 30, 3) := by decide +kernel
theorem dX6_add_38 : decode cX6_add 38 = .ok (.iload_n 3, 1) := by decide +kernel
theorem dX6_add_39 : decode cX6_add 39 = .ok (.iastore, 1) := by decide +kernel
theorem dX6_add_40 : decode cX6_add 40 = .ok (.aload_n 0, 1) := by decide +kernel
theorem dX6_add_41 : decode cX6_add 41 = .ok (.getfield 21, 3) := by decide +kernel
theorem dX6_add_44 : decode cX6_add 44 = .ok (.aload_n 0, 1) := by decide +kernel
theorem dX6_add_45 : decode cX6_add 45 = .ok (.getfield 30, 3) := by decide +kernel
theorem dX6_add_48 : decode cX6_add 48 = .ok (.iload 4, 2) := by decide +kernel
theorem dX6_add_50 : decode cX6_add 50 = .ok (.iastore, 1) := by decide +kernel
theorem dX6_add_51 : decode cX6_add 51 = .ok (.aload_n 0, 1) := by decide +kernel
theorem dX6_add_52 : decode cX6_add 52 = .ok (.getfield 24, 3) := by decide +kernel
theorem dX6_add_55 : decode cX6_add 55 = .ok (.aload_n 0, 1) := by decide +kernel
theorem dX6_add_56 : decode cX6_add 56 = .ok (.getfield 30, 3) := by decide +kernel
theorem dX6_add_59 : decode cX6_add 59 = .ok (.iconst 0, 1) := by decide +kernel
theorem dX6_add_60 : decode cX6_add 60 = .ok (.iastore, 1) := by decide +kernel
theorem dX6_add_61 : decode cX6_add 61 = .ok (.aload_n 0, 1) := by decide +kernel
theorem dX6_add_62 : decode cX6_add 62 = .ok (.getfield 27, 3) := by decide +kernel
theorem dX6_add_65 : decode cX6_add 65 = .ok (.aload_n 0, 1) := by decide +kernel
theorem dX6_add_66 : decode cX6_add 66 = .ok (.getfield 30, 3) := by decide +kernel
theorem dX6_add_69 : decode cX6_add 69 = .ok (.iconst 0, 1) := by decide +kernel
theorem dX6_add_70 : decode cX6_add 70 = .ok (.iastore, 1) := by decide +kernel
theorem dX6_add_71 : decode cX6_add 71 = .ok (.aload_n 0, 1) := by decide +kernel
theorem dX6_add_72 : decode cX6_add 72 = .ok (.dup, 1) := by decide +kernel
theorem dX6_add_73 : decode cX6_add 73 = .ok (.getfield 30, 3) := by decide +kernel
theorem dX6_add_76 : decode cX6_add 76 = .ok (.iconst 1, 1) := by decide +kernel
theorem dX6_add_77 : decode cX6_add 77 = .ok (.iadd, 1) := by decide +kernel
theorem dX6_add_78 : decode cX6_add 78 = .ok (.putfield 30, 3) := by decide +kernel
theorem dX6_add_81 : decode cX6_add 81 = .ok (.return_, 1) := by decide +kernel
set_option maxRecDepth 100000 in
theorem rX6_add_0 {zx : zX} {zn : Nat} {p : Program} {l : Launch} {e : Env} {s : State} {m : MethodId} {args : Array Value} {below : List Frame} {meth : Method} {c : Code} {D : va_G} {cA : Nat → ClassId} {ad : Nat → Nat} {Ret : zR} (C : z_Cx zx zn (z_A zn ad) 0 0 p { frames := 0, cells := 0, slots := 0, locals := 0 } s m args c cX6_add yX6_add.cls 5 D cA ad) (hr : meth.sig.returnType = none) (hlocks : meth.locks = false) : ∀ L st σ, tX6_add_0 (z_X zx zn (z_A zn ad) 0 0 p l e { frames := 0, cells := 0, slots := 0, locals := 0 } s m args below meth c (MQ below (z_Qc zn D cA ad Ret) args s 0 0 (z_A zn ad)) 5 D cA ad true) Ret L st σ → z_X zx zn (z_A zn ad) 0 0 p l e { frames := 0, cells := 0, slots := 0, locals := 0 } s m args below meth c (MQ below (z_Qc zn D cA ad Ret) args s 0 0 (z_A zn ad)) 5 D cA ad true 0 L st σ := (s_aload_n C dX6_add_0 rfl (s_geti C dX6_add_1 cls_X6 (by decide) rfl wd_124 (s_bipush C dX6_add_4 rfl ⟨by decide, by decide⟩ (s_iclt C dX6_add_6 (by decide) (s_aload_n C dX6_add_10 rfl (s_getr C dX6_add_11 (j := 0) cls_X6 (by decide) rfl (by decide) (by decide) (by decide +kernel) wd_106 (s_aload_n C dX6_add_14 rfl (s_geti C dX6_add_15 cls_X6 (by decide) rfl wd_124 (s_iload_n C dX6_add_18 rfl (s_iast C dX6_add_19 (s_aload_n C dX6_add_20 rfl (s_getr C dX6_add_21 (j := 1) cls_X6 (by decide) rfl (by decide) (by decide) (by decide +kernel) wd_109 (s_aload_n C dX6_add_24 rfl (s_geti C dX6_add_25 cls_X6 (by decide) rfl wd_124 (s_iload_n C dX6_add_28 rfl (s_iast C dX6_add_29 (s_aload_n C dX6_add_30 rfl (s_getr C dX6_add_31 (j := 2) cls_X6 (by decide) rfl (by decide) (by decide) (by decide +kernel) wd_112 (s_aload_n C dX6_add_34 rfl (s_geti C dX6_add_35 cls_X6 (by decide) rfl wd_124 (s_iload_n C dX6_add_38 rfl (s_iast C dX6_add_39 (s_aload_n C dX6_add_40 rfl (s_getr C dX6_add_41 (j := 3) cls_X6 (by decide) rfl (by decide) (by decide) (by decide +kernel) wd_115 (s_aload_n C dX6_add_44 rfl (s_geti C dX6_add_45 cls_X6 (by decide) rfl wd_124 (s_iload C dX6_add_48 (s_iast C dX6_add_50 (s_aload_n C dX6_add_51 rfl (s_getr C dX6_add_52 (j := 4) cls_X6 (by decide) rfl (by decide) (by decide) (by decide +kernel) wd_117 (s_aload_n C dX6_add_55 rfl (s_geti C dX6_add_56 cls_X6 (by decide) rfl wd_124 (s_iconst C dX6_add_59 rfl ⟨by decide, by decide⟩ (s_iast C dX6_add_60 (s_aload_n C dX6_add_61 rfl (s_getr C dX6_add_62 (j := 5) cls_X6 (by decide) rfl (by decide) (by decide) (by decide +kernel) wd_120 (s_aload_n C dX6_add_65 rfl (s_geti C dX6_add_66 cls_X6 (by decide) rfl wd_124 (s_iconst C dX6_add_69 rfl ⟨by decide, by decide⟩ (s_iast C dX6_add_70 (s_aload_n C dX6_add_71 rfl (s_dup C dX6_add_72 (s_geti C dX6_add_73 cls_X6 (by decide) rfl wd_124 (s_iconst C dX6_add_76 rfl ⟨by decide, by decide⟩ (s_iadd C dX6_add_77 (s_puti C dX6_add_78 cls_X6 (by decide) rfl wd_124 rfl rfl (s_vret C dX6_add_81 hr hlocks))))))))))))))))))))))))))))))))))))))))))) (s_vret C dX6_add_9 hr hlocks)))))
theorem okX6_add {zx : zX} {zn : Nat} (l : Launch) : z_OK zx zn l yX6_add cX6_add 5 none 0 0 SX6_add := by
  refine z_ok_of true (by decide +kernel) ?_ ?_
  · intro as σ Ret h
    obtain ⟨k0, x1, x2, x3, x4, rfl⟩ := pX6_add h
    exact ⟨Nat.le_of_ble_eq_true rfl, by simp⟩
  · intro p e s m args below meth c D cA ad Ret C hr hlocks as σ has hσ h
    obtain ⟨k0, x1, x2, x3, x4, rfl⟩ := pX6_add h
    exact vX6_add (rX6_add_0 C hr hlocks) k0 x1 x2 x3 x4 σ (has _ (List.mem_of_getElem? (i := 0) rfl)).1 (has _ (List.mem_of_getElem? (i := 1) rfl)) (has _ (List.mem_of_getElem? (i := 2) rfl)) (has _ (List.mem_of_getElem? (i := 3) rfl)) (has _ (List.mem_of_getElem? (i := 4) rfl)) hσ h
def SX7_add : zS := fun as σ Ret => match as with
  | [.inr (.inr (7, 0, k)), .inl a, .inl b, .inl c] => (0 ≤ σ k 3 ∧ σ k 3 < 6) ∧ Ret none (z_up (z_up (z_up (z_up σ (k + 1) (σ k 3).toNat a) (k + 2) (σ k 3).toNat b) (k + 3) (σ k 3).toNat c) k 3 (σ k 3 + 1))
  | _ => False
def tX7_add_0 (X : Nat → zB) (Ret : zR) (L : zL) (st : List zV) (σ : zM) : Prop := (z_aload 0 (z_geti 7 3 (z_push 6 (z_iclt (z_aload 0 (z_getr 7 1 100 6 (z_aload 0 (z_geti 7 3 (z_iload 1 (z_iast (z_aload 0 (z_getr 7 2 100 6 (z_aload 0 (z_geti 7 3 (z_iload 2 (z_iast (z_aload 0 (z_getr 7 3 100 6 (z_aload 0 (z_geti 7 3 (z_iload 3 (z_iast (z_aload 0 (z_dup (z_geti 7 3 (z_push 1 (z_iadd (z_puti 7 3 (z_vret Ret))))))))))))))))))))))))) (z_vret Ret))))) L st σ
theorem pX7_add {as : List zV} {σ : zM} {Ret : zR} (h : SX7_add as σ Ret) : ∃ (k0 : Nat) (x1 : Int) (x2 : Int) (x3 : Int), as = [.inr (.inr (7, 0, k0)), .inl x1, .inl x2, .inl x3] := by
  unfold SX7_add at h
  split at h
  · exact ⟨_, _, _, _, rfl⟩
  · exact h.elim
set_option maxRecDepth 10000 in
set_option maxHeartbeats 4000000 in
theorem vX7_add {X : Nat → zB} {Ret : zR} (h0 : ∀ L st σ, tX7_add_0 X Ret L st σ → X 0 L st σ) (k0 : Nat) (x1 : Int) (x2 : Int) (x3 : Int) (σ : zM) (hk0 : z_kd k0 = (7, 0)) (hx1 : -2147483648 ≤ x1 ∧ x1 ≤ 2147483647) (hx2 : -2147483648 ≤ x2 ∧ x2 ≤ 2147483647) (hx3 : -2147483648 ≤ x3 ∧ x3 ≤ 2147483647) (hσ : z_okm σ) (h : SX7_add [.inr (.inr (7, 0, k0)), .inl x1, .inl x2, .inl x3] σ Ret) : X 0 [some (.inr (.inr (7, 0, k0))), some (.inl x1), some (.inl x2), some (.inl x3)] [] σ := by
  obtain ⟨hc, h⟩ := h
  refine h0 _ _ _ ?_
  simp only [z_push, z_lpush, z_iload, z_lload, z_aload, z_istore, z_istoreP, z_lstore, z_astore, z_iinc, z_iincP, z_iadd, z_isub, z_imul, z_iaddW, z_isubW, z_imulW, z_idiv, z_irem, z_iand, z_ior, z_ixor, z_ishl, z_ishr, z_iushr, z_ineg, z_i2l, z_i2b, z_i2s, z_i2c, z_l2i, z_ladd, z_lsub, z_land, z_lor, z_lshl, z_lshr, z_lcmp, z_dup, z_pop, z_dup2, z_goto, z_tsw, z_cases, z_geti, z_getr, z_puti, z_putz, z_ald, z_iast, z_bast, z_zast, z_alen, z_acopy, z_mmax, z_mmin, z_mabs, z_mabsL, z_iret, z_zret, z_nret, z_lret, z_aret, z_vret, z_cat, z_xald, z_xlen, z_ldcs, z_strv, z_strc, z_gcs, z_gfm, z_sln, z_sald, z_ifeq, z_ifne, z_iflt, z_ifge, z_ifgt, z_ifle, z_iceq, z_icne, z_iclt, z_icge, z_icgt, z_icle, z_cs0, z_cs1, z_cs2, z_cs3, z_cs4, z_cs5, z_cs6, z_cs7, z_cv0, z_cv1, z_cv2, z_cv3, z_cv4, z_cv5, z_cv6, z_cv7, z_g0, z_s0, z_g1, z_s1, z_g2, z_s2, z_g3, z_s3, z_g4, z_s4, z_g5, z_s5, z_g6, z_s6, z_g7, z_s7, z_g8, z_s8, z_g9, z_s9, z_g10, z_s10, z_g11, z_s11, z_g12, z_s12, z_g13, z_s13, z_b0, z_b1, z_b0n, z_b1n, z_up_far1, z_up_far2, z_up_far3, z_up_far4, z_up_far5, z_up_far6, Classical.not_not, not_true_eq_false, z_in, z_inL, Int.cast_ofNat_Int, Nat.reduceLeDiff, List.length_cons, List.length_nil, Nat.reduceAdd, Nat.zero_add, Nat.le_refl, true_and, and_true, List.length, Nat.reduceLT, true_or, or_true, false_or, or_false, false_and, and_false, not_true_eq_false, not_false_eq_true, forall_const, false_implies, true_implies, Int.reduceEq, Int.reduceLT, Int.reduceLE, Int.reduceAdd, Int.reduceSub, Int.reduceMul, Int.reduceNeg, Int.reduceToNat, Int.toNat_natCast, ↓reduceIte, reduceIte, Nat.reduceEqDiff, Nat.reduceSub, Nat.reduceMul, ne_eq, Int.zero_add, Int.add_zero, Int.sub_zero, Nat.add_zero, Int.ofNat_eq_natCast, tX7_add_0]
  repeat' (first | (intro _) | (with_reducible assumption) | (refine And.intro ?_ ?_))
  all_goals first | omega | assumption | (refine z_fin h ?_ rfl; first | rfl | omega | (split <;> omega) | (split <;> split <;> omega)) | skip
theorem dX7_add_0 : decode cX7_add 0 = .ok (.aload_n 0, 1) := by decide +kernel
theorem dX7_add_1 : decode cX7_add 1 = .ok (.getfield 21, 3) := by decide +kernel
theorem dX7_add_4 : decode cX7_add 4 = .ok (.bipush 6, 2) := by decide +kernel
theorem dX7_add_6 : decode cX7_add 6 = .ok (.if_icmp .lt 4, 3) := by decide +kernel
theorem dX7_add_9 : decode cX7_add 9 = .ok (.return_, 1) := by decide +kernel
theorem dX7_add_10 : decode cX7_add 10 = .ok (.aload_n 0, 1) := by decide +kernel
theorem dX7_add_11 : decode cX7_add 11 = .ok (.getfield 9, 3) := by decide +kernel
theorem dX7_add_14 : decode cX7_add 14 = .ok (.aload_n 0, 1) := by decide +kernel
theorem dX7_add_15 : decode cX7_add 15 = .ok (.getfield 21, 3) := by decide +kernel
theorem dX7_add_18 : decode cX7_add 18 = .ok (.iload_n 1, 1) := by decide +kernel
theorem dX7_add_19 : decode cX7_add 19 = .ok (.iastore, 1) := by decide +kernel
theorem dX7_add_20 : decode cX7_add 20 = .ok (.aload_n 0, 1) := by decide +kernel
theorem dX7_add_21 : decode cX7_add 21 = .ok (.getfield 15, 3) := by decide +kernel
theorem dX7_add_24 : decode cX7_add 24 = .ok (.aload_n 0, 1) := by decide +kernel
theorem dX7_add_25 : decode cX7_add 25 = .ok (.getfield 21, 3) := by decide +kernel
theorem dX7_add_28 : decode cX7_add 28 = .ok (.iload_n 2, 1) := by decide +kernel
theorem dX7_add_29 : decode cX7_add 29 = .ok (.iastore, 1) := by decide +kernel
theorem dX7_add_30 : decode cX7_add 30 = .ok (.aload_n 0, 1) := by decide +kernel
theorem dX7_add_31 : decode cX7_add 31 = .ok (.getfield 18, 3) := by decide +kernel
theorem dX7_add_34 : decode cX7_add 34 = .ok (.aload_n 0, 1) := by decide +kernel
theorem dX7_add_35 : decode cX7_add 35 = .ok (.getfield 21, 3) := by decide +kernel
theorem dX7_add_38 : decode cX7_add 38 = .ok (.iload_n 3, 1) := by decide +kernel
theorem dX7_add_39 : decode cX7_add 39 = .ok (.iastore, 1) := by decide +kernel
theorem dX7_add_40 : decode cX7_add 40 = .ok (.aload_n 0, 1) := by decide +kernel
theorem dX7_add_41 : decode cX7_add 41 = .ok (.dup, 1) := by decide +kernel
theorem dX7_add_42 : decode cX7_add 42 = .ok (.getfield 21, 3) := by decide +kernel
theorem dX7_add_45 : decode cX7_add 45 = .ok (.iconst 1, 1) := by decide +kernel
theorem dX7_add_46 : decode cX7_add 46 = .ok (.iadd, 1) := by decide +kernel
theorem dX7_add_47 : decode cX7_add 47 = .ok (.putfield 21, 3) := by decide +kernel
theorem dX7_add_50 : decode cX7_add 50 = .ok (.return_, 1) := by decide +kernel
set_option maxRecDepth 100000 in
theorem rX7_add_0 {zx : zX} {zn : Nat} {p : Program} {l : Launch} {e : Env} {s : State} {m : MethodId} {args : Array Value} {below : List Frame} {meth : Method} {c : Code} {D : va_G} {cA : Nat → ClassId} {ad : Nat → Nat} {Ret : zR} (C : z_Cx zx zn (z_A zn ad) 0 0 p { frames := 0, cells := 0, slots := 0, locals := 0 } s m args c cX7_add yX7_add.cls 4 D cA ad) (hr : meth.sig.returnType = none) (hlocks : meth.locks = false) : ∀ L st σ, tX7_add_0 (z_X zx zn (z_A zn ad) 0 0 p l e { frames := 0, cells := 0, slots := 0, locals := 0 } s m args below meth c (MQ below (z_Qc zn D cA ad Ret) args s 0 0 (z_A zn ad)) 4 D cA ad true) Ret L st σ → z_X zx zn (z_A zn ad) 0 0 p l e { frames := 0, cells := 0, slots := 0, locals := 0 } s m args below meth c (MQ below (z_Qc zn D cA ad Ret) args s 0 0 (z_A zn ad)) 4 D cA ad true 0 L st σ := (s_aload_n C dX7_add_0 rfl (s_geti C dX7_add_1 cls_X7 (by decide) rfl wd_154 (s_bipush C dX7_add_4 rfl ⟨by decide, by decide⟩ (s_iclt C dX7_add_6 (by decide) (s_aload_n C dX7_add_10 rfl (s_getr C dX7_add_11 (j := 0) cls_X7 (by decide) rfl (by decide) (by decide) (by decide +kernel) wd_149 (s_aload_n C dX7_add_14 rfl (s_geti C dX7_add_15 cls_X7 (by decide) rfl wd_154 (s_iload_n C dX7_add_18 rfl (s_iast C dX7_add_19 (s_aload_n C dX7_add_20 rfl (s_getr C dX7_add_21 (j := 1) cls_X7 (by decide) rfl (by decide) (by decide) (by decide +kernel) wd_151 (s_aload_n C dX7_add_24 rfl (s_geti C dX7_add_25 cls_X7 (by decide) rfl wd_154 (s_iload_n C dX7_add_28 rfl (s_iast C dX7_add_29 (s_aload_n C dX7_add_30 rfl (s_getr C dX7_add_31 (j := 2) cls_X7 (by decide) rfl (by decide) (by decide) (by decide +kernel) wd_153 (s_aload_n C dX7_add_34 rfl (s_geti C dX7_add_35 cls_X7 (by decide) rfl wd_154 (s_iload_n C dX7_add_38 rfl (s_iast C dX7_add_39 (s_aload_n C dX7_add_40 rfl (s_dup C dX7_add_41 (s_geti C dX7_add_42 cls_X7 (by decide) rfl wd_154 (s_iconst C dX7_add_45 rfl ⟨by decide, by decide⟩ (s_iadd C dX7_add_46 (s_puti C dX7_add_47 cls_X7 (by decide) rfl wd_154 rfl rfl (s_vret C dX7_add_50 hr hlocks))))))))))))))))))))))))) (s_vret C dX7_add_9 hr hlocks)))))
theorem okX7_add {zx : zX} {zn : Nat} (l : Launch) : z_OK zx zn l yX7_add cX7_add 4 none 0 0 SX7_add := by
  refine z_ok_of true (by decide +kernel) ?_ ?_
  · intro as σ Ret h
    obtain ⟨k0, x1, x2, x3, rfl⟩ := pX7_add h
    exact ⟨Nat.le_of_ble_eq_true rfl, by simp⟩
  · intro p e s m args below meth c D cA ad Ret C hr hlocks as σ has hσ h
    obtain ⟨k0, x1, x2, x3, rfl⟩ := pX7_add h
    exact vX7_add (rX7_add_0 C hr hlocks) k0 x1 x2 x3 σ (has _ (List.mem_of_getElem? (i := 0) rfl)).1 (has _ (List.mem_of_getElem? (i := 1) rfl)) (has _ (List.mem_of_getElem? (i := 2) rfl)) (has _ (List.mem_of_getElem? (i := 3) rfl)) hσ h
def SX2_add : zS := fun as σ Ret => match as with
  | [.inr (.inr (2, 0, k)), .inl a, .inl b, .inl c] => (0 ≤ σ k 3 ∧ σ k 3 < 60) ∧ Ret none (z_up (z_up (z_up (z_up σ (k + 1) (σ k 3).toNat a) (k + 2) (σ k 3).toNat b) (k + 3) (σ k 3).toNat c) k 3 (σ k 3 + 1))
  | _ => False
def tX2_add_0 (X : Nat → zB) (Ret : zR) (L : zL) (st : List zV) (σ : zM) : Prop := (z_aload 0 (z_geti 2 3 (z_push 60 (z_iclt (z_aload 0 (z_getr 2 1 100 60 (z_aload 0 (z_geti 2 3 (z_iload 1 (z_iast (z_aload 0 (z_getr 2 2 100 60 (z_aload 0 (z_geti 2 3 (z_iload 2 (z_iast (z_aload 0 (z_getr 2 3 100 60 (z_aload 0 (z_geti 2 3 (z_iload 3 (z_iast (z_aload 0 (z_dup (z_geti 2 3 (z_push 1 (z_iadd (z_puti 2 3 (z_vret Ret))))))))))))))))))))))))) (z_vret Ret))))) L st σ
theorem pX2_add {as : List zV} {σ : zM} {Ret : zR} (h : SX2_add as σ Ret) : ∃ (k0 : Nat) (x1 : Int) (x2 : Int) (x3 : Int), as = [.inr (.inr (2, 0, k0)), .inl x1, .inl x2, .inl x3] := by
  unfold SX2_add at h
  split at h
  · exact ⟨_, _, _, _, rfl⟩
  · exact h.elim
set_option maxRecDepth 10000 in
set_option maxHeartbeats 4000000 in
theorem vX2_add {X : Nat → zB} {Ret : zR} (h0 : ∀ L st σ, tX2_add_0 X Ret L st σ → X 0 L st σ) (k0 : Nat) (x1 : Int) (x2 : Int) (x3 : Int) (σ : zM) (hk0 : z_kd k0 = (2, 0)) (hx1 : -2147483648 ≤ x1 ∧ x1 ≤ 2147483647) (hx2 : -2147483648 ≤ x2 ∧ x2 ≤ 2147483647) (hx3 : -2147483648 ≤ x3 ∧ x3 ≤ 2147483647) (hσ : z_okm σ) (h : SX2_add [.inr (.inr (2, 0, k0)), .inl x1, .inl x2, .inl x3] σ Ret) : X 0 [some (.inr (.inr (2, 0, k0))), some (.inl x1), some (.inl x2), some (.inl x3)] [] σ := by
  obtain ⟨hc, h⟩ := h
  refine h0 _ _ _ ?_
  simp only [z_push, z_lpush, z_iload, z_lload, z_aload, z_istore, z_istoreP, z_lstore, z_astore, z_iinc, z_iincP, z_iadd, z_isub, z_imul, z_iaddW, z_isubW, z_imulW, z_idiv, z_irem, z_iand, z_ior, z_ixor, z_ishl, z_ishr, z_iushr, z_ineg, z_i2l, z_i2b, z_i2s, z_i2c, z_l2i, z_ladd, z_lsub, z_land, z_lor, z_lshl, z_lshr, z_lcmp, z_dup, z_pop, z_dup2, z_goto, z_tsw, z_cases, z_geti, z_getr, z_puti, z_putz, z_ald, z_iast, z_bast, z_zast, z_alen, z_acopy, z_mmax, z_mmin, z_mabs, z_mabsL, z_iret, z_zret, z_nret, z_lret, z_aret, z_vret, z_cat, z_xald, z_xlen, z_ldcs, z_strv, z_strc, z_gcs, z_gfm, z_sln, z_sald, z_ifeq, z_ifne, z_iflt, z_ifge, z_ifgt, z_ifle, z_iceq, z_icne, z_iclt, z_icge, z_icgt, z_icle, z_cs0, z_cs1, z_cs2, z_cs3, z_cs4, z_cs5, z_cs6, z_cs7, z_cv0, z_cv1, z_cv2, z_cv3, z_cv4, z_cv5, z_cv6, z_cv7, z_g0, z_s0, z_g1, z_s1, z_g2, z_s2, z_g3, z_s3, z_g4, z_s4, z_g5, z_s5, z_g6, z_s6, z_g7, z_s7, z_g8, z_s8, z_g9, z_s9, z_g10, z_s10, z_g11, z_s11, z_g12, z_s12, z_g13, z_s13, z_b0, z_b1, z_b0n, z_b1n, z_up_far1, z_up_far2, z_up_far3, z_up_far4, z_up_far5, z_up_far6, Classical.not_not, not_true_eq_false, z_in, z_inL, Int.cast_ofNat_Int, Nat.reduceLeDiff, List.length_cons, List.length_nil, Nat.reduceAdd, Nat.zero_add, Nat.le_refl, true_and, and_true, List.length, Nat.reduceLT, true_or, or_true, false_or, or_false, false_and, and_false, not_true_eq_false, not_false_eq_true, forall_const, false_implies, true_implies, Int.reduceEq, Int.reduceLT, Int.reduceLE, Int.reduceAdd, Int.reduceSub, Int.reduceMul, Int.reduceNeg, Int.reduceToNat, Int.toNat_natCast, ↓reduceIte, reduceIte, Nat.reduceEqDiff, Nat.reduceSub, Nat.reduceMul, ne_eq, Int.zero_add, Int.add_zero, Int.sub_zero, Nat.add_zero, Int.ofNat_eq_natCast, tX2_add_0]
  repeat' (first | (intro _) | (with_reducible assumption) | (refine And.intro ?_ ?_))
  all_goals first | omega | assumption | (refine z_fin h ?_ rfl; first | rfl | omega | (split <;> omega) | (split <;> split <;> omega)) | skip
theorem dX2_add_0 : decode cX2_add 0 = .ok (.aload_n 0, 1) := by decide +kernel
theorem dX2_add_1 : decode cX2_add 1 = .ok (.getfield 21, 3) := by decide +kernel
theorem dX2_add_4 : decode cX2_add 4 = .ok (.bipush 60, 2) := by decide +kernel
theorem dX2_add_6 : decode cX2_add 6 = .ok (.if_icmp .lt 4, 3) := by decide +kernel
theorem dX2_add_9 : decode cX2_add 9 = .ok (.return_, 1) := by decide +kernel
theorem dX2_add_10 : decode cX2_add 10 = .ok (.aload_n 0, 1) := by decide +kernel
theorem dX2_add_11 : decode cX2_add 11 = .ok (.getfield 9, 3) := by decide +kernel
theorem dX2_add_14 : decode cX2_add 14 = .ok (.aload_n 0, 1) := by decide +kernel
theorem dX2_add_15 : decode cX2_add 15 = .ok (.getfield 21, 3) := by decide +kernel
theorem dX2_add_18 : decode cX2_add 18 = .ok (.iload_n 1, 1) := by decide +kernel
theorem dX2_add_19 : decode cX2_add 19 = .ok (.iastore, 1) := by decide +kernel
theorem dX2_add_20 : decode cX2_add 20 = .ok (.aload_n 0, 1) := by decide +kernel
theorem dX2_add_21 : decode cX2_add 21 = .ok (.getfield 15, 3) := by decide +kernel
theorem dX2_add_24 : decode cX2_add 24 = .ok (.aload_n 0, 1) := by decide +kernel
theorem dX2_add_25 : decode cX2_add 25 = .ok (.getfield 21, 3) := by decide +kernel
theorem dX2_add_28 : decode cX2_add 28 = .ok (.iload_n 2, 1) := by decide +kernel
theorem dX2_add_29 : decode cX2_add 29 = .ok (.iastore, 1) := by decide +kernel
theorem dX2_add_30 : decode cX2_add 30 = .ok (.aload_n 0, 1) := by decide +kernel
theorem dX2_add_31 : decode cX2_add 31 = .ok (.getfield 18, 3) := by decide +kernel
theorem dX2_add_34 : decode cX2_add 34 = .ok (.aload_n 0, 1) := by decide +kernel
theorem dX2_add_35 : decode cX2_add 35 = .ok (.getfield 21, 3) := by decide +kernel
theorem dX2_add_38 : decode cX2_add 38 = .ok (.iload_n 3, 1) := by decide +kernel
theorem dX2_add_39 : decode cX2_add 39 = .ok (.iastore, 1) := by decide +kernel
theorem dX2_add_40 : decode cX2_add 40 = .ok (.aload_n 0, 1) := by decide +kernel
theorem dX2_add_41 : decode cX2_add 41 = .ok (.dup, 1) := by decide +kernel
theorem dX2_add_42 : decode cX2_add 42 = .ok (.getfield 21, 3) := by decide +kernel
theorem dX2_add_45 : decode cX2_add 45 = .ok (.iconst 1, 1) := by decide +kernel
theorem dX2_add_46 : decode cX2_add 46 = .ok (.iadd, 1) := by decide +kernel
theorem dX2_add_47 : decode cX2_add 47 = .ok (.putfield 21, 3) := by decide +kernel
theorem dX2_add_50 : decode cX2_add 50 = .ok (.return_, 1) := by decide +kernel
set_option maxRecDepth 100000 in
theorem rX2_add_0 {zx : zX} {zn : Nat} {p : Program} {l : Launch} {e : Env} {s : State} {m : MethodId} {args : Array Value} {below : List Frame} {meth : Method} {c : Code} {D : va_G} {cA : Nat → ClassId} {ad : Nat → Nat} {Ret : zR} (C : z_Cx zx zn (z_A zn ad) 0 0 p { frames := 0, cells := 0, slots := 0, locals := 0 } s m args c cX2_add yX2_add.cls 4 D cA ad) (hr : meth.sig.returnType = none) (hlocks : meth.locks = false) : ∀ L st σ, tX2_add_0 (z_X zx zn (z_A zn ad) 0 0 p l e { frames := 0, cells := 0, slots := 0, locals := 0 } s m args below meth c (MQ below (z_Qc zn D cA ad Ret) args s 0 0 (z_A zn ad)) 4 D cA ad true) Ret L st σ → z_X zx zn (z_A zn ad) 0 0 p l e { frames := 0, cells := 0, slots := 0, locals := 0 } s m args below meth c (MQ below (z_Qc zn D cA ad Ret) args s 0 0 (z_A zn ad)) 4 D cA ad true 0 L st σ := (s_aload_n C dX2_add_0 rfl (s_geti C dX2_add_1 cls_X2 (by decide) rfl wd_179 (s_bipush C dX2_add_4 rfl ⟨by decide, by decide⟩ (s_iclt C dX2_add_6 (by decide) (s_aload_n C dX2_add_10 rfl (s_getr C dX2_add_11 (j := 0) cls_X2 (by decide) rfl (by decide) (by decide) (by decide +kernel) wd_173 (s_aload_n C dX2_add_14 rfl (s_geti C dX2_add_15 cls_X2 (by decide) rfl wd_179 (s_iload_n C dX2_add_18 rfl (s_iast C dX2_add_19 (s_aload_n C dX2_add_20 rfl (s_getr C dX2_add_21 (j := 1) cls_X2 (by decide) rfl (by decide) (by decide) (by decide +kernel) wd_175 (s_aload_n C dX2_add_24 rfl (s_geti C dX2_add_25 cls_X2 (by decide) rfl wd_179 (s_iload_n C dX2_add_28 rfl (s_iast C dX2_add_29 (s_aload_n C dX2_add_30 rfl (s_getr C dX2_add_31 (j := 2) cls_X2 (by decide) rfl (by decide) (by decide) (by decide +kernel) wd_177 (s_aload_n C dX2_add_34 rfl (s_geti C dX2_add_35 cls_X2 (by decide) rfl wd_179 (s_iload_n C dX2_add_38 rfl (s_iast C dX2_add_39 (s_aload_n C dX2_add_40 rfl (s_dup C dX2_add_41 (s_geti C dX2_add_42 cls_X2 (by decide) rfl wd_179 (s_iconst C dX2_add_45 rfl ⟨by decide, by decide⟩ (s_iadd C dX2_add_46 (s_puti C dX2_add_47 cls_X2 (by decide) rfl wd_179 rfl rfl (s_vret C dX2_add_50 hr hlocks))))))))))))))))))))))))) (s_vret C dX2_add_9 hr hlocks)))))
theorem okX2_add {zx : zX} {zn : Nat} (l : Launch) : z_OK zx zn l yX2_add cX2_add 4 none 0 0 SX2_add := by
  refine z_ok_of true (by decide +kernel) ?_ ?_
  · intro as σ Ret h
    obtain ⟨k0, x1, x2, x3, rfl⟩ := pX2_add h
    exact ⟨Nat.le_of_ble_eq_true rfl, by simp⟩
  · intro p e s m args below meth c D cA ad Ret C hr hlocks as σ has hσ h
    obtain ⟨k0, x1, x2, x3, rfl⟩ := pX2_add h
    exact vX2_add (rX2_add_0 C hr hlocks) k0 x1 x2 x3 σ (has _ (List.mem_of_getElem? (i := 0) rfl)).1 (has _ (List.mem_of_getElem? (i := 1) rfl)) (has _ (List.mem_of_getElem? (i := 2) rfl)) (has _ (List.mem_of_getElem? (i := 3) rfl)) hσ h
def SX6_longer : zS := fun as σ Ret => match as with
  | [.inl l, .inl b] => (-100000 ≤ l ∧ l ≤ 100000 ∧ -100000 ≤ b ∧ b ≤ 100000) ∧ Ret (some (.inl (max 10 (min 999 (l + b))))) σ
  | _ => False
def tX6_longer_0 (X : Nat → zB) (Ret : zR) (L : zL) (st : List zV) (σ : zM) : Prop := (z_push 10 (z_push 999 (z_iload 0 (z_iload 1 (z_iadd (z_mmin (z_mmax (z_iret Ret)))))))) L st σ
theorem pX6_longer {as : List zV} {σ : zM} {Ret : zR} (h : SX6_longer as σ Ret) : ∃ (x1 : Int) (x2 : Int), as = [.inl x1, .inl x2] := by
  unfold SX6_longer at h
  split at h
  · exact ⟨_, _, rfl⟩
  · exact h.elim
set_option maxRecDepth 10000 in
set_option maxHeartbeats 4000000 in
theorem vX6_longer {X : Nat → zB} {Ret : zR} (h0 : ∀ L st σ, tX6_longer_0 X Ret L st σ → X 0 L st σ) (x1 : Int) (x2 : Int) (σ : zM) (hx1 : -2147483648 ≤ x1 ∧ x1 ≤ 2147483647) (hx2 : -2147483648 ≤ x2 ∧ x2 ≤ 2147483647) (hσ : z_okm σ) (h : SX6_longer [.inl x1, .inl x2] σ Ret) : X 0 [some (.inl x1), some (.inl x2)] [] σ := by
  obtain ⟨hc, h⟩ := h
  refine h0 _ _ _ ?_
  simp only [z_push, z_lpush, z_iload, z_lload, z_aload, z_istore, z_istoreP, z_lstore, z_astore, z_iinc, z_iincP, z_iadd, z_isub, z_imul, z_iaddW, z_isubW, z_imulW, z_idiv, z_irem, z_iand, z_ior, z_ixor, z_ishl, z_ishr, z_iushr, z_ineg, z_i2l, z_i2b, z_i2s, z_i2c, z_l2i, z_ladd, z_lsub, z_land, z_lor, z_lshl, z_lshr, z_lcmp, z_dup, z_pop, z_dup2, z_goto, z_tsw, z_cases, z_geti, z_getr, z_puti, z_putz, z_ald, z_iast, z_bast, z_zast, z_alen, z_acopy, z_mmax, z_mmin, z_mabs, z_mabsL, z_iret, z_zret, z_nret, z_lret, z_aret, z_vret, z_cat, z_xald, z_xlen, z_ldcs, z_strv, z_strc, z_gcs, z_gfm, z_sln, z_sald, z_ifeq, z_ifne, z_iflt, z_ifge, z_ifgt, z_ifle, z_iceq, z_icne, z_iclt, z_icge, z_icgt, z_icle, z_cs0, z_cs1, z_cs2, z_cs3, z_cs4, z_cs5, z_cs6, z_cs7, z_cv0, z_cv1, z_cv2, z_cv3, z_cv4, z_cv5, z_cv6, z_cv7, z_g0, z_s0, z_g1, z_s1, z_g2, z_s2, z_g3, z_s3, z_g4, z_s4, z_g5, z_s5, z_g6, z_s6, z_g7, z_s7, z_g8, z_s8, z_g9, z_s9, z_g10, z_s10, z_g11, z_s11, z_g12, z_s12, z_g13, z_s13, z_b0, z_b1, z_b0n, z_b1n, z_up_far1, z_up_far2, z_up_far3, z_up_far4, z_up_far5, z_up_far6, Classical.not_not, not_true_eq_false, z_in, z_inL, Int.cast_ofNat_Int, Nat.reduceLeDiff, List.length_cons, List.length_nil, Nat.reduceAdd, Nat.zero_add, Nat.le_refl, true_and, and_true, List.length, Nat.reduceLT, true_or, or_true, false_or, or_false, false_and, and_false, not_true_eq_false, not_false_eq_true, forall_const, false_implies, true_implies, Int.reduceEq, Int.reduceLT, Int.reduceLE, Int.reduceAdd, Int.reduceSub, Int.reduceMul, Int.reduceNeg, Int.reduceToNat, Int.toNat_natCast, ↓reduceIte, reduceIte, Nat.reduceEqDiff, Nat.reduceSub, Nat.reduceMul, ne_eq, Int.zero_add, Int.add_zero, Int.sub_zero, Nat.add_zero, Int.ofNat_eq_natCast, tX6_longer_0]
  repeat' (first | (intro _) | (with_reducible assumption) | (refine And.intro ?_ ?_))
  all_goals first | omega | assumption | (refine z_fin h ?_ rfl; first | rfl | omega | (split <;> omega) | (split <;> split <;> omega)) | skip
theorem dX6_longer_0 : decode cX6_longer 0 = .ok (.bipush 10, 2) := by decide +kernel
theorem dX6_longer_2 : decode cX6_longer 2 = .ok (.sipush 999, 3) := by decide +kernel
theorem dX6_longer_5 : decode cX6_longer 5 = .ok (.iload_n 0, 1) := by decide +kernel
theorem dX6_longer_6 : decode cX6_longer 6 = .ok (.iload_n 1, 1) := by decide +kernel
theorem dX6_longer_7 : decode cX6_longer 7 = .ok (.iadd, 1) := by decide +kernel
theorem dX6_longer_8 : decode cX6_longer 8 = .ok (.invokestatic 34, 3) := by decide +kernel
theorem dX6_longer_11 : decode cX6_longer 11 = .ok (.invokestatic 40, 3) := by decide +kernel
theorem dX6_longer_14 : decode cX6_longer 14 = .ok (.ireturn, 1) := by decide +kernel
set_option maxRecDepth 100000 in
theorem rX6_longer_0 {zx : zX} {zn : Nat} {p : Program} {l : Launch} {e : Env} {s : State} {m : MethodId} {args : Array Value} {below : List Frame} {meth : Method} {c : Code} {D : va_G} {cA : Nat → ClassId} {ad : Nat → Nat} {Ret : zR} (C : z_Cx zx zn (z_A zn ad) 0 0 p { frames := 1, cells := 0, slots := 0, locals := 21 } s m args c cX6_longer yX6_longer.cls 2 D cA ad) (hr : meth.sig.returnType = (some .int)) (hlocks : meth.locks = false) : ∀ L st σ, tX6_longer_0 (z_X zx zn (z_A zn ad) 0 0 p l e { frames := 1, cells := 0, slots := 0, locals := 21 } s m args below meth c (MQ below (z_Qc zn D cA ad Ret) args s 0 0 (z_A zn ad)) 2 D cA ad true) Ret L st σ → z_X zx zn (z_A zn ad) 0 0 p l e { frames := 1, cells := 0, slots := 0, locals := 21 } s m args below meth c (MQ below (z_Qc zn D cA ad Ret) args s 0 0 (z_A zn ad)) 2 D cA ad true 0 L st σ := (s_bipush C dX6_longer_0 rfl ⟨by decide, by decide⟩ (s_sipush C dX6_longer_2 rfl ⟨by decide, by decide⟩ (s_iload_n C dX6_longer_5 rfl (s_iload_n C dX6_longer_6 rfl (s_iadd C dX6_longer_7 (s_mmin C dX6_longer_8 wd_469 wd_470 wd_32 wd_471 ⟨by decide, by decide⟩ (s_mmax C dX6_longer_11 wd_472 wd_473 wd_32 wd_474 ⟨by decide, by decide⟩ (s_iret C dX6_longer_14 hr hlocks))))))))
theorem okX6_longer {zx : zX} {zn : Nat} (l : Launch) : z_OK zx zn l yX6_longer cX6_longer 2 (some .int) 1 21 SX6_longer := by
  refine z_ok_of true (by decide +kernel) ?_ ?_
  · intro as σ Ret h
    obtain ⟨x1, x2, rfl⟩ := pX6_longer h
    exact ⟨Nat.le_of_ble_eq_true rfl, by simp⟩
  · intro p e s m args below meth c D cA ad Ret C hr hlocks as σ has hσ h
    obtain ⟨x1, x2, rfl⟩ := pX6_longer h
    exact vX6_longer (rX6_longer_0 C hr hlocks) x1 x2 σ (has _ (List.mem_of_getElem? (i := 0) rfl)) (has _ (List.mem_of_getElem? (i := 1) rfl)) hσ h
def SX6_stretch : zS := fun as σ Ret => match as with
  | [.inr (.inr (6, 0, k)), .inl t, .inl b] => ((0 ≤ t ∧ t < σ k 6) ∧ t < 12 ∧ -100000 ≤ σ (k + 1) t.toNat ∧ σ (k + 1) t.toNat ≤ 100000 ∧ -100000 ≤ b ∧ b ≤ 100000) ∧ Ret (some (.inl (max 10 (min 999 (σ (k + 1) t.toNat + b)) - σ (k + 1) t.toNat))) (z_up σ (k + 1) t.toNat (max 10 (min 999 (σ (k + 1) t.toNat + b))))
  | _ => False
def tX6_stretch_0 (X : Nat → zB) (Ret : zR) (L : zL) (st : List zV) (σ : zM) : Prop := (z_aload 0 (z_iload 1 (z_cv1 6 SX6_has (z_ifne (z_aload 0 (z_getr 6 1 100 12 (z_iload 1 (z_ald 0 (z_istore 3 (z_aload 0 (z_getr 6 1 100 12 (z_iload 1 (z_iload 3 (z_iload 2 (z_cs2 SX6_longer (z_iast (z_aload 0 (z_getr 6 1 100 12 (z_iload 1 (z_ald 0 (z_iload 3 (z_isub (z_iret Ret))))))))))))))))))) (z_push 0 (z_iret Ret)))))) L st σ
theorem pX6_stretch {as : List zV} {σ : zM} {Ret : zR} (h : SX6_stretch as σ Ret) : ∃ (k0 : Nat) (x1 : Int) (x2 : Int), as = [.inr (.inr (6, 0, k0)), .inl x1, .inl x2] := by
  unfold SX6_stretch at h
  split at h
  · exact ⟨_, _, _, rfl⟩
  · exact h.elim
set_option maxRecDepth 10000 in
set_option maxHeartbeats 4000000 in
theorem vX6_stretch {X : Nat → zB} {Ret : zR} (h0 : ∀ L st σ, tX6_stretch_0 X Ret L st σ → X 0 L st σ) (k0 : Nat) (x1 : Int) (x2 : Int) (σ : zM) (hk0 : z_kd k0 = (6, 0)) (hx1 : -2147483648 ≤ x1 ∧ x1 ≤ 2147483647) (hx2 : -2147483648 ≤ x2 ∧ x2 ≤ 2147483647) (hσ : z_okm σ) (h : SX6_stretch [.inr (.inr (6, 0, k0)), .inl x1, .inl x2] σ Ret) : X 0 [some (.inr (.inr (6, 0, k0))), some (.inl x1), some (.inl x2), none] [] σ := by
  obtain ⟨⟨h1, h2, h3, h4, h5, h6⟩, h⟩ := h
  refine h0 _ _ _ ?_
  simp only [z_push, z_lpush, z_iload, z_lload, z_aload, z_istore, z_istoreP, z_lstore, z_astore, z_iinc, z_iincP, z_iadd, z_isub, z_imul, z_iaddW, z_isubW, z_imulW, z_idiv, z_irem, z_iand, z_ior, z_ixor, z_ishl, z_ishr, z_iushr, z_ineg, z_i2l, z_i2b, z_i2s, z_i2c, z_l2i, z_ladd, z_lsub, z_land, z_lor, z_lshl, z_lshr, z_lcmp, z_dup, z_pop, z_dup2, z_goto, z_tsw, z_cases, z_geti, z_getr, z_puti, z_putz, z_ald, z_iast, z_bast, z_zast, z_alen, z_acopy, z_mmax, z_mmin, z_mabs, z_mabsL, z_iret, z_zret, z_nret, z_lret, z_aret, z_vret, z_cat, z_xald, z_xlen, z_ldcs, z_strv, z_strc, z_gcs, z_gfm, z_sln, z_sald, z_ifeq, z_ifne, z_iflt, z_ifge, z_ifgt, z_ifle, z_iceq, z_icne, z_iclt, z_icge, z_icgt, z_icle, z_cs0, z_cs1, z_cs2, z_cs3, z_cs4, z_cs5, z_cs6, z_cs7, z_cv0, z_cv1, z_cv2, z_cv3, z_cv4, z_cv5, z_cv6, z_cv7, z_g0, z_s0, z_g1, z_s1, z_g2, z_s2, z_g3, z_s3, z_g4, z_s4, z_g5, z_s5, z_g6, z_s6, z_g7, z_s7, z_g8, z_s8, z_g9, z_s9, z_g10, z_s10, z_g11, z_s11, z_g12, z_s12, z_g13, z_s13, z_b0, z_b1, z_b0n, z_b1n, z_up_far1, z_up_far2, z_up_far3, z_up_far4, z_up_far5, z_up_far6, Classical.not_not, not_true_eq_false, z_in, z_inL, Int.cast_ofNat_Int, Nat.reduceLeDiff, List.length_cons, List.length_nil, Nat.reduceAdd, Nat.zero_add, Nat.le_refl, true_and, and_true, List.length, Nat.reduceLT, true_or, or_true, false_or, or_false, false_and, and_false, not_true_eq_false, not_false_eq_true, forall_const, false_implies, true_implies, Int.reduceEq, Int.reduceLT, Int.reduceLE, Int.reduceAdd, Int.reduceSub, Int.reduceMul, Int.reduceNeg, Int.reduceToNat, Int.toNat_natCast, ↓reduceIte, reduceIte, Nat.reduceEqDiff, Nat.reduceSub, Nat.reduceMul, ne_eq, Int.zero_add, Int.add_zero, Int.sub_zero, Nat.add_zero, Int.ofNat_eq_natCast, tX6_stretch_0, SX6_has, SX6_longer, h1, h2, z_up_eq]
  repeat' (first | (intro _) | (with_reducible assumption) | (refine And.intro ?_ ?_))
  all_goals first | omega | assumption | (refine z_fin h ?_ rfl; first | rfl | omega | (split <;> omega) | (split <;> split <;> omega)) | skip
theorem dX6_stretch_0 : decode cX6_stretch 0 = .ok (.aload_n 0, 1) := by decide +kernel
theorem dX6_stretch_1 : decode cX6_stretch 1 = .ok (.iload_n 1, 1) := by decide +kernel
theorem dX6_stretch_2 : decode cX6_stretch 2 = .ok (.invokevirtual 43, 3) := by decide +kernel
theorem dX6_stretch_5 : decode cX6_stretch 5 = .ok (.ifCond .ne 5, 3) := by decide +kernel
theorem dX6_stretch_8 : decode cX6_stretch 8 = .ok (.iconst 0, 1) := by decide +kernel
theorem dX6_stretch_9 : decode cX6_stretch 9 = .ok (.ireturn, 1) := by decide +kernel
theorem dX6_stretch_10 : decode cX6_stretch 10 = .ok (.aload_n 0, 1) := by decide +kernel
theorem dX6_stretch_11 : decode cX6_stretch 11 = .ok (.getfield 9, 3) := by decide +kernel
theorem dX6_stretch_14 : decode cX6_stretch 14 = .ok (.iload_n 1, 1) := by decide +kernel
theorem dX6_stretch_15 : decode cX6_stretch 15 = .ok (.iaload, 1) := by decide +kernel
theorem dX6_stretch_16 : decode cX6_stretch 16 = .ok (.istore_n 3, 1) := by decide +kernel
theorem dX6_stretch_17 : decode cX6_stretch 17 = .ok (.aload_n 0, 1) := by decide +kernel
theorem dX6_stretch_18 : decode cX6_stretch 18 = .ok (.getfield 9, 3) := by decide +kernel
theorem dX6_stretch_21 : decode cX6_stretch 21 = .ok (.iload_n 1, 1) := by decide +kernel
theorem dX6_stretch_22 : decode cX6_stretch 22 = .ok (.iload_n 3, 1) := by decide +kernel
theorem dX6_stretch_23 : decode cX6_stretch 23 = .ok (.iload_n 2, 1) := by decide +kernel
theorem dX6_stretch_24 : decode cX6_stretch 24 = .ok (.invokestatic 47, 3) := by decide +kernel
theorem dX6_stretch_27 : decode cX6_stretch 27 = .ok (.iastore, 1) := by decide +kernel
theorem dX6_stretch_28 : decode cX6_stretch 28 = .ok (.aload_n 0, 1) := by decide +kernel
theorem dX6_stretch_29 : decode cX6_stretch 29 = .ok (.getfield 9, 3) := by decide +kernel
theorem dX6_stretch_32 : decode cX6_stretch 32 = .ok (.iload_n 1, 1) := by decide +kernel
theorem dX6_stretch_33 : decode cX6_stretch 33 = .ok (.iaload, 1) := by decide +kernel
theorem dX6_stretch_34 : decode cX6_stretch 34 = .ok (.iload_n 3, 1) := by decide +kernel
theorem dX6_stretch_35 : decode cX6_stretch 35 = .ok (.isub, 1) := by decide +kernel
theorem dX6_stretch_36 : decode cX6_stretch 36 = .ok (.ireturn, 1) := by decide +kernel
set_option maxRecDepth 100000 in
theorem rX6_stretch_0 {zx : zX} {zn : Nat} {p : Program} {l : Launch} {e : Env} {s : State} {m : MethodId} {args : Array Value} {below : List Frame} {meth : Method} {c : Code} {D : va_G} {cA : Nat → ClassId} {ad : Nat → Nat} {Ret : zR} (C : z_Cx zx zn (z_A zn ad) 0 0 p { frames := 2, cells := 0, slots := 0, locals := 42 } s m args c cX6_stretch yX6_stretch.cls 4 D cA ad) (hr : meth.sig.returnType = (some .int)) (hlocks : meth.locks = false) : ∀ L st σ, tX6_stretch_0 (z_X zx zn (z_A zn ad) 0 0 p l e { frames := 2, cells := 0, slots := 0, locals := 42 } s m args below meth c (MQ below (z_Qc zn D cA ad Ret) args s 0 0 (z_A zn ad)) 4 D cA ad true) Ret L st σ → z_X zx zn (z_A zn ad) 0 0 p l e { frames := 2, cells := 0, slots := 0, locals := 42 } s m args below meth c (MQ below (z_Qc zn D cA ad Ret) args s 0 0 (z_A zn ad)) 4 D cA ad true 0 L st σ := (s_aload_n C dX6_stretch_0 rfl (s_iload_n C dX6_stretch_1 rfl (s_cv1 C dX6_stretch_2 (okX6_has l) cls_X6 wd_465 wd_458 wd_459 wd_21 wd_460 ⟨by decide, by decide, by decide +kernel⟩ ⟨by decide, by decide⟩ (s_ifne C dX6_stretch_5 (by decide) (s_aload_n C dX6_stretch_10 rfl (s_getr C dX6_stretch_11 (j := 0) cls_X6 (by decide) rfl (by decide) (by decide) (by decide +kernel) wd_106 (s_iload_n C dX6_stretch_14 rfl (s_iald C dX6_stretch_15 (s_istore_n C dX6_stretch_16 (by decide) rfl rfl (s_aload_n C dX6_stretch_17 rfl (s_getr C dX6_stretch_18 (j := 0) cls_X6 (by decide) rfl (by decide) (by decide) (by decide +kernel) wd_106 (s_iload_n C dX6_stretch_21 rfl (s_iload_n C dX6_stretch_22 rfl (s_iload_n C dX6_stretch_23 rfl (s_cs2 C dX6_stretch_24 (okX6_longer l) wd_466 wd_467 wd_21 wd_468 ⟨by decide, by decide, by decide +kernel⟩ ⟨by decide, by decide⟩ (s_iast C dX6_stretch_27 (s_aload_n C dX6_stretch_28 rfl (s_getr C dX6_stretch_29 (j := 0) cls_X6 (by decide) rfl (by decide) (by decide) (by decide +kernel) wd_106 (s_iload_n C dX6_stretch_32 rfl (s_iald C dX6_stretch_33 (s_iload_n C dX6_stretch_34 rfl (s_isub C dX6_stretch_35 (s_iret C dX6_stretch_36 hr hlocks))))))))))))))))))) (s_iconst C dX6_stretch_8 rfl ⟨by decide, by decide⟩ (s_iret C dX6_stretch_9 hr hlocks))))))
theorem okX6_stretch {zx : zX} {zn : Nat} (l : Launch) : z_OK zx zn l yX6_stretch cX6_stretch 4 (some .int) 2 42 SX6_stretch := by
  refine z_ok_of true (by decide +kernel) ?_ ?_
  · intro as σ Ret h
    obtain ⟨k0, x1, x2, rfl⟩ := pX6_stretch h
    exact ⟨Nat.le_of_ble_eq_true rfl, by simp⟩
  · intro p e s m args below meth c D cA ad Ret C hr hlocks as σ has hσ h
    obtain ⟨k0, x1, x2, rfl⟩ := pX6_stretch h
    exact vX6_stretch (rX6_stretch_0 C hr hlocks) k0 x1 x2 σ (has _ (List.mem_of_getElem? (i := 0) rfl)).1 (has _ (List.mem_of_getElem? (i := 1) rfl)) (has _ (List.mem_of_getElem? (i := 2) rfl)) hσ h
def q_grow (σ : zM) (k : Nat) (y : Int) (n : Nat) : zM := fun c j => if c = k + 1 ∧ j < n ∧ σ (k + 5) j = 0 ∧ σ (k + 6) j = 0 then max 10 (min 999 (σ (k + 1) j + y * σ (k + 4) j)) else σ c j
theorem q_grow_ne {σ : zM} {k : Nat} {y : Int} {n c j : Nat} (h : c ≠ k + 1) : q_grow σ k y n c j = σ c j := by
  unfold q_grow
  rw [if_neg (fun q => h q.1)]
theorem q_grow_ge {σ : zM} {k : Nat} {y : Int} {n j : Nat} (h : n ≤ j) : q_grow σ k y n (k + 1) j = σ (k + 1) j := by
  unfold q_grow
  rw [if_neg (fun q => by have := q.2.1; omega)]
theorem q_grow_0 {σ : zM} {k : Nat} {y : Int} : q_grow σ k y 0 = σ := by
  funext c j
  unfold q_grow
  rw [if_neg (fun q => by have := q.2.1; omega)]
theorem q_grow_S {σ : zM} {k : Nat} {y : Int} {n : Nat} (h1 : σ (k + 5) n = 0) (h2 : σ (k + 6) n = 0) : z_up (q_grow σ k y n) (k + 1) n (max 10 (min 999 (σ (k + 1) n + y * σ (k + 4) n))) = q_grow σ k y (n + 1) := by
  funext c j
  simp only [q_grow, z_up]
  by_cases hc : c = k + 1
  · by_cases hj : j = n
    · subst hj; rw [if_pos ⟨hc, rfl⟩, if_pos ⟨hc, by omega, h1, h2⟩]
    · rw [if_neg (fun q => hj q.2)]
      by_cases h3 : j < n ∧ σ (k + 5) j = 0 ∧ σ (k + 6) j = 0
      · rw [if_pos ⟨hc, h3⟩, if_pos ⟨hc, by omega, h3.2⟩]
      · rw [if_neg (fun q => h3 q.2), if_neg (fun q => h3 ⟨by have := q.2.1; omega, q.2.2⟩)]
  · rw [if_neg (fun q => hc q.1), if_neg (fun q => hc q.1), if_neg (fun q => hc q.1)]
theorem q_grow_N {σ : zM} {k : Nat} {y : Int} {n : Nat} (h : ¬ (σ (k + 5) n = 0 ∧ σ (k + 6) n = 0)) : q_grow σ k y n = q_grow σ k y (n + 1) := by
  funext c j
  simp only [q_grow]
  by_cases h3 : c = k + 1 ∧ j < n ∧ σ (k + 5) j = 0 ∧ σ (k + 6) j = 0
  · rw [if_pos h3, if_pos ⟨h3.1, by have := h3.2.1; omega, h3.2.2⟩]
  · rw [if_neg h3, if_neg (fun q => h3 ⟨q.1, by
      have := q.2.1
      rcases Nat.lt_or_ge j n with g | g
      · exact g
      · have e : j = n := by omega
        rw [e] at q
        exact absurd q.2.2 h, q.2.2⟩)]
def SX6_growAll : zS := fun as σ Ret => match as with
  | [.inr (.inr (6, 0, k)), .inl y] => ((0 ≤ σ k 6 ∧ σ k 6 ≤ 12) ∧ (0 ≤ y ∧ y ≤ 60) ∧ ∀ j : Nat, (j : Int) < σ k 6 → (0 ≤ σ (k + 1) j ∧ σ (k + 1) j ≤ 999) ∧ 0 ≤ σ (k + 4) j ∧ σ (k + 4) j ≤ 5) ∧ Ret none (q_grow σ k y (σ k 6).toNat)
  | _ => False
def tX6_growAll_0 (X : Nat → zB) (Ret : zR) (L : zL) (st : List zV) (σ : zM) : Prop := (z_push 0 (z_istore 2 (X 2))) L st σ
def tX6_growAll_2 (X : Nat → zB) (Ret : zR) (L : zL) (st : List zV) (σ : zM) : Prop := (z_iload 2 (z_aload 0 (z_geti 6 6 (z_icge (z_vret Ret) (z_aload 0 (z_getr 6 5 100 12 (z_iload 2 (z_ald 0 (z_ifne (z_iinc 2 1 (z_goto (X 2))) (z_aload 0 (z_getr 6 6 100 12 (z_iload 2 (z_ald 0 (z_ifne (z_iinc 2 1 (z_goto (X 2))) (z_aload 0 (z_iload 2 (z_iload 1 (z_aload 0 (z_getr 6 4 100 12 (z_iload 2 (z_ald 0 (z_imul (z_cv2 6 SX6_stretch (z_pop (z_iinc 2 1 (z_goto (X 2))))))))))))))))))))))))))) L st σ
theorem pX6_growAll {as : List zV} {σ : zM} {Ret : zR} (h : SX6_growAll as σ Ret) : ∃ (k0 : Nat) (x1 : Int), as = [.inr (.inr (6, 0, k0)), .inl x1] := by
  unfold SX6_growAll at h
  split at h
  · exact ⟨_, _, rfl⟩
  · exact h.elim
set_option maxRecDepth 10000 in
set_option maxHeartbeats 4000000 in
theorem vX6_growAll {X : Nat → zB} {Ret : zR} (h0 : ∀ L st σ, tX6_growAll_0 X Ret L st σ → X 0 L st σ) (h2 : ∀ L st σ, tX6_growAll_2 X Ret L st σ → X 2 L st σ) (k0 : Nat) (x1 : Int) (σ : zM) (hk0 : z_kd k0 = (6, 0)) (hx1 : -2147483648 ≤ x1 ∧ x1 ≤ 2147483647) (hσ : z_okm σ) (h : SX6_growAll [.inr (.inr (6, 0, k0)), .inl x1] σ Ret) : X 0 [some (.inr (.inr (6, 0, k0))), some (.inl x1), none] [] σ := by
  obtain ⟨⟨⟨hc0, hc1⟩, ⟨hy0, hy1⟩, hw⟩, h⟩ := h
  obtain ⟨n, hn⟩ := z_nat hc0
  rw [hn, Int.toNat_natCast] at h
  have ne : ∀ i c j, c ≠ k0 + 1 → q_grow σ k0 x1 i c j = σ c j := fun i c j hc => q_grow_ne hc
  have n6 : ∀ i, q_grow σ k0 x1 i k0 6 = σ k0 6 := fun i => ne _ _ _ (by omega)
  have n4 : ∀ i j, q_grow σ k0 x1 i (k0 + 4) j = σ (k0 + 4) j := fun i j => ne _ _ _ (by omega)
  have n5 : ∀ i j, q_grow σ k0 x1 i (k0 + 5) j = σ (k0 + 5) j := fun i j => ne _ _ _ (by omega)
  have n66 : ∀ i j, q_grow σ k0 x1 i (k0 + 6) j = σ (k0 + 6) j := fun i j => ne _ _ _ (by omega)
  have g1 : ∀ i, q_grow σ k0 x1 i (k0 + 1) i = σ (k0 + 1) i := fun i => q_grow_ge (Nat.le_refl _)
  have loop : ∀ (d i : Nat), i + d = n → X 2 [some (.inr (.inr (6, 0, k0))), some (.inl x1), some (.inl (i : Int))] [] (q_grow σ k0 x1 i) := by
    intro d
    induction d with
    | zero =>
      intro i hi
      refine h2 _ _ _ ?_
      simp only [z_push, z_lpush, z_iload, z_lload, z_aload, z_istore, z_istoreP, z_lstore, z_astore, z_iinc, z_iincP, z_iadd, z_isub, z_imul, z_iaddW, z_isubW, z_imulW, z_idiv, z_irem, z_iand, z_ior, z_ixor, z_ishl, z_ishr, z_iushr, z_ineg, z_i2l, z_i2b, z_i2s, z_i2c, z_l2i, z_ladd, z_lsub, z_land, z_lor, z_lshl, z_lshr, z_lcmp, z_dup, z_pop, z_dup2, z_goto, z_tsw, z_cases, z_geti, z_getr, z_puti, z_putz, z_ald, z_iast, z_bast, z_zast, z_alen, z_acopy, z_mmax, z_mmin, z_mabs, z_mabsL, z_iret, z_zret, z_nret, z_lret, z_aret, z_vret, z_cat, z_xald, z_xlen, z_ldcs, z_strv, z_strc, z_gcs, z_gfm, z_sln, z_sald, z_ifeq, z_ifne, z_iflt, z_ifge, z_ifgt, z_ifle, z_iceq, z_icne, z_iclt, z_icge, z_icgt, z_icle, z_cs0, z_cs1, z_cs2, z_cs3, z_cs4, z_cs5, z_cs6, z_cs7, z_cv0, z_cv1, z_cv2, z_cv3, z_cv4, z_cv5, z_cv6, z_cv7, z_g0, z_s0, z_g1, z_s1, z_g2, z_s2, z_g3, z_s3, z_g4, z_s4, z_g5, z_s5, z_g6, z_s6, z_g7, z_s7, z_g8, z_s8, z_g9, z_s9, z_g10, z_s10, z_g11, z_s11, z_g12, z_s12, z_g13, z_s13, z_b0, z_b1, z_b0n, z_b1n, z_up_far1, z_up_far2, z_up_far3, z_up_far4, z_up_far5, z_up_far6, Classical.not_not, not_true_eq_false, z_in, z_inL, Int.cast_ofNat_Int, Nat.reduceLeDiff, List.length_cons, List.length_nil, Nat.reduceAdd, Nat.zero_add, Nat.le_refl, true_and, and_true, List.length, Nat.reduceLT, true_or, or_true, false_or, or_false, false_and, and_false, not_true_eq_false, not_false_eq_true, forall_const, false_implies, true_implies, Int.reduceEq, Int.reduceLT, Int.reduceLE, Int.reduceAdd, Int.reduceSub, Int.reduceMul, Int.reduceNeg, Int.reduceToNat, Int.toNat_natCast, ↓reduceIte, reduceIte, Nat.reduceEqDiff, Nat.reduceSub, Nat.reduceMul, ne_eq, Int.zero_add, Int.add_zero, Int.sub_zero, Nat.add_zero, Int.ofNat_eq_natCast, tX6_growAll_2, n6, hn]
      have e : i = n := by omega
      subst e
      repeat' (first | (intro _) | (with_reducible assumption) | (refine And.intro ?_ ?_))
      all_goals first | omega | assumption | (refine z_fin h ?_ rfl; first | rfl | omega | (split <;> omega) | (split <;> split <;> omega)) | skip
    | succ d ih =>
      intro i hi
      have e1 := ih (i + 1) (by omega)
      have hwi := hw i (by omega)
      have hm : 0 ≤ x1 * σ (k0 + 4) i ∧ x1 * σ (k0 + 4) i ≤ 300 := by
        have h5 := hwi.2.2
        have h50 := hwi.2.1
        constructor
        · exact Int.mul_nonneg hy0 h50
        · calc x1 * σ (k0 + 4) i ≤ 60 * 5 := Int.mul_le_mul hy1 h5 h50 (by omega)
            _ = 300 := rfl
      refine h2 _ _ _ ?_
      simp only [z_push, z_lpush, z_iload, z_lload, z_aload, z_istore, z_istoreP, z_lstore, z_astore, z_iinc, z_iincP, z_iadd, z_isub, z_imul, z_iaddW, z_isubW, z_imulW, z_idiv, z_irem, z_iand, z_ior, z_ixor, z_ishl, z_ishr, z_iushr, z_ineg, z_i2l, z_i2b, z_i2s, z_i2c, z_l2i, z_ladd, z_lsub, z_land, z_lor, z_lshl, z_lshr, z_lcmp, z_dup, z_pop, z_dup2, z_goto, z_tsw, z_cases, z_geti, z_getr, z_puti, z_putz, z_ald, z_iast, z_bast, z_zast, z_alen, z_acopy, z_mmax, z_mmin, z_mabs, z_mabsL, z_iret, z_zret, z_nret, z_lret, z_aret, z_vret, z_cat, z_xald, z_xlen, z_ldcs, z_strv, z_strc, z_gcs, z_gfm, z_sln, z_sald, z_ifeq, z_ifne, z_iflt, z_ifge, z_ifgt, z_ifle, z_iceq, z_icne, z_iclt, z_icge, z_icgt, z_icle, z_cs0, z_cs1, z_cs2, z_cs3, z_cs4, z_cs5, z_cs6, z_cs7, z_cv0, z_cv1, z_cv2, z_cv3, z_cv4, z_cv5, z_cv6, z_cv7, z_g0, z_s0, z_g1, z_s1, z_g2, z_s2, z_g3, z_s3, z_g4, z_s4, z_g5, z_s5, z_g6, z_s6, z_g7, z_s7, z_g8, z_s8, z_g9, z_s9, z_g10, z_s10, z_g11, z_s11, z_g12, z_s12, z_g13, z_s13, z_b0, z_b1, z_b0n, z_b1n, z_up_far1, z_up_far2, z_up_far3, z_up_far4, z_up_far5, z_up_far6, Classical.not_not, not_true_eq_false, z_in, z_inL, Int.cast_ofNat_Int, Nat.reduceLeDiff, List.length_cons, List.length_nil, Nat.reduceAdd, Nat.zero_add, Nat.le_refl, true_and, and_true, List.length, Nat.reduceLT, true_or, or_true, false_or, or_false, false_and, and_false, not_true_eq_false, not_false_eq_true, forall_const, false_implies, true_implies, Int.reduceEq, Int.reduceLT, Int.reduceLE, Int.reduceAdd, Int.reduceSub, Int.reduceMul, Int.reduceNeg, Int.reduceToNat, Int.toNat_natCast, ↓reduceIte, reduceIte, Nat.reduceEqDiff, Nat.reduceSub, Nat.reduceMul, ne_eq, Int.zero_add, Int.add_zero, Int.sub_zero, Nat.add_zero, Int.ofNat_eq_natCast, tX6_growAll_2, n6, n4, n5, n66, g1, hn, SX6_stretch]
      by_cases a5 : σ (k0 + 5) i = 0
      · by_cases a6 : σ (k0 + 6) i = 0
        · simp only [z_push, z_lpush, z_iload, z_lload, z_aload, z_istore, z_istoreP, z_lstore, z_astore, z_iinc, z_iincP, z_iadd, z_isub, z_imul, z_iaddW, z_isubW, z_imulW, z_idiv, z_irem, z_iand, z_ior, z_ixor, z_ishl, z_ishr, z_iushr, z_ineg, z_i2l, z_i2b, z_i2s, z_i2c, z_l2i, z_ladd, z_lsub, z_land, z_lor, z_lshl, z_lshr, z_lcmp, z_dup, z_pop, z_dup2, z_goto, z_tsw, z_cases, z_geti, z_getr, z_puti, z_putz, z_ald, z_iast, z_bast, z_zast, z_alen, z_acopy, z_mmax, z_mmin, z_mabs, z_mabsL, z_iret, z_zret, z_nret, z_lret, z_aret, z_vret, z_cat, z_xald, z_xlen, z_ldcs, z_strv, z_strc, z_gcs, z_gfm, z_sln, z_sald, z_ifeq, z_ifne, z_iflt, z_ifge, z_ifgt, z_ifle, z_iceq, z_icne, z_iclt, z_icge, z_icgt, z_icle, z_cs0, z_cs1, z_cs2, z_cs3, z_cs4, z_cs5, z_cs6, z_cs7, z_cv0, z_cv1, z_cv2, z_cv3, z_cv4, z_cv5, z_cv6, z_cv7, z_g0, z_s0, z_g1, z_s1, z_g2, z_s2, z_g3, z_s3, z_g4, z_s4, z_g5, z_s5, z_g6, z_s6, z_g7, z_s7, z_g8, z_s8, z_g9, z_s9, z_g10, z_s10, z_g11, z_s11, z_g12, z_s12, z_g13, z_s13, z_b0, z_b1, z_b0n, z_b1n, z_up_far1, z_up_far2, z_up_far3, z_up_far4, z_up_far5, z_up_far6, Classical.not_not, not_true_eq_false, z_in, z_inL, Int.cast_ofNat_Int, Nat.reduceLeDiff, List.length_cons, List.length_nil, Nat.reduceAdd, Nat.zero_add, Nat.le_refl, true_and, and_true, List.length, Nat.reduceLT, true_or, or_true, false_or, or_false, false_and, and_false, not_true_eq_false, not_false_eq_true, forall_const, false_implies, true_implies, Int.reduceEq, Int.reduceLT, Int.reduceLE, Int.reduceAdd, Int.reduceSub, Int.reduceMul, Int.reduceNeg, Int.reduceToNat, Int.toNat_natCast, ↓reduceIte, reduceIte, Nat.reduceEqDiff, Nat.reduceSub, Nat.reduceMul, ne_eq, Int.zero_add, Int.add_zero, Int.sub_zero, Nat.add_zero, Int.ofNat_eq_natCast, a5, a6]
          rw [q_grow_S a5 a6]
          repeat' (first | (intro _) | (with_reducible assumption) | (refine And.intro ?_ ?_))
          all_goals first | omega | assumption | (refine z_fin h ?_ rfl; first | rfl | omega | (split <;> omega) | (split <;> split <;> omega)) | skip
        · rw [← q_grow_N (fun q => a6 q.2)] at e1
          simp only [z_push, z_lpush, z_iload, z_lload, z_aload, z_istore, z_istoreP, z_lstore, z_astore, z_iinc, z_iincP, z_iadd, z_isub, z_imul, z_iaddW, z_isubW, z_imulW, z_idiv, z_irem, z_iand, z_ior, z_ixor, z_ishl, z_ishr, z_iushr, z_ineg, z_i2l, z_i2b, z_i2s, z_i2c, z_l2i, z_ladd, z_lsub, z_land, z_lor, z_lshl, z_lshr, z_lcmp, z_dup, z_pop, z_dup2, z_goto, z_tsw, z_cases, z_geti, z_getr, z_puti, z_putz, z_ald, z_iast, z_bast, z_zast, z_alen, z_acopy, z_mmax, z_mmin, z_mabs, z_mabsL, z_iret, z_zret, z_nret, z_lret, z_aret, z_vret, z_cat, z_xald, z_xlen, z_ldcs, z_strv, z_strc, z_gcs, z_gfm, z_sln, z_sald, z_ifeq, z_ifne, z_iflt, z_ifge, z_ifgt, z_ifle, z_iceq, z_icne, z_iclt, z_icge, z_icgt, z_icle, z_cs0, z_cs1, z_cs2, z_cs3, z_cs4, z_cs5, z_cs6, z_cs7, z_cv0, z_cv1, z_cv2, z_cv3, z_cv4, z_cv5, z_cv6, z_cv7, z_g0, z_s0, z_g1, z_s1, z_g2, z_s2, z_g3, z_s3, z_g4, z_s4, z_g5, z_s5, z_g6, z_s6, z_g7, z_s7, z_g8, z_s8, z_g9, z_s9, z_g10, z_s10, z_g11, z_s11, z_g12, z_s12, z_g13, z_s13, z_b0, z_b1, z_b0n, z_b1n, z_up_far1, z_up_far2, z_up_far3, z_up_far4, z_up_far5, z_up_far6, Classical.not_not, not_true_eq_false, z_in, z_inL, Int.cast_ofNat_Int, Nat.reduceLeDiff, List.length_cons, List.length_nil, Nat.reduceAdd, Nat.zero_add, Nat.le_refl, true_and, and_true, List.length, Nat.reduceLT, true_or, or_true, false_or, or_false, false_and, and_false, not_true_eq_false, not_false_eq_true, forall_const, false_implies, true_implies, Int.reduceEq, Int.reduceLT, Int.reduceLE, Int.reduceAdd, Int.reduceSub, Int.reduceMul, Int.reduceNeg, Int.reduceToNat, Int.toNat_natCast, ↓reduceIte, reduceIte, Nat.reduceEqDiff, Nat.reduceSub, Nat.reduceMul, ne_eq, Int.zero_add, Int.add_zero, Int.sub_zero, Nat.add_zero, Int.ofNat_eq_natCast, a5, a6]
          repeat' (first | (intro _) | (with_reducible assumption) | (refine And.intro ?_ ?_))
          all_goals first | omega | assumption | (refine z_fin h ?_ rfl; first | rfl | omega | (split <;> omega) | (split <;> split <;> omega)) | skip
      · rw [← q_grow_N (fun q => a5 q.1)] at e1
        simp only [z_push, z_lpush, z_iload, z_lload, z_aload, z_istore, z_istoreP, z_lstore, z_astore, z_iinc, z_iincP, z_iadd, z_isub, z_imul, z_iaddW, z_isubW, z_imulW, z_idiv, z_irem, z_iand, z_ior, z_ixor, z_ishl, z_ishr, z_iushr, z_ineg, z_i2l, z_i2b, z_i2s, z_i2c, z_l2i, z_ladd, z_lsub, z_land, z_lor, z_lshl, z_lshr, z_lcmp, z_dup, z_pop, z_dup2, z_goto, z_tsw, z_cases, z_geti, z_getr, z_puti, z_putz, z_ald, z_iast, z_bast, z_zast, z_alen, z_acopy, z_mmax, z_mmin, z_mabs, z_mabsL, z_iret, z_zret, z_nret, z_lret, z_aret, z_vret, z_cat, z_xald, z_xlen, z_ldcs, z_strv, z_strc, z_gcs, z_gfm, z_sln, z_sald, z_ifeq, z_ifne, z_iflt, z_ifge, z_ifgt, z_ifle, z_iceq, z_icne, z_iclt, z_icge, z_icgt, z_icle, z_cs0, z_cs1, z_cs2, z_cs3, z_cs4, z_cs5, z_cs6, z_cs7, z_cv0, z_cv1, z_cv2, z_cv3, z_cv4, z_cv5, z_cv6, z_cv7, z_g0, z_s0, z_g1, z_s1, z_g2, z_s2, z_g3, z_s3, z_g4, z_s4, z_g5, z_s5, z_g6, z_s6, z_g7, z_s7, z_g8, z_s8, z_g9, z_s9, z_g10, z_s10, z_g11, z_s11, z_g12, z_s12, z_g13, z_s13, z_b0, z_b1, z_b0n, z_b1n, z_up_far1, z_up_far2, z_up_far3, z_up_far4, z_up_far5, z_up_far6, Classical.not_not, not_true_eq_false, z_in, z_inL, Int.cast_ofNat_Int, Nat.reduceLeDiff, List.length_cons, List.length_nil, Nat.reduceAdd, Nat.zero_add, Nat.le_refl, true_and, and_true, List.length, Nat.reduceLT, true_or, or_true, false_or, or_false, false_and, and_false, not_true_eq_false, not_false_eq_true, forall_const, false_implies, true_implies, Int.reduceEq, Int.reduceLT, Int.reduceLE, Int.reduceAdd, Int.reduceSub, Int.reduceMul, Int.reduceNeg, Int.reduceToNat, Int.toNat_natCast, ↓reduceIte, reduceIte, Nat.reduceEqDiff, Nat.reduceSub, Nat.reduceMul, ne_eq, Int.zero_add, Int.add_zero, Int.sub_zero, Nat.add_zero, Int.ofNat_eq_natCast, a5]
        repeat' (first | (intro _) | (with_reducible assumption) | (refine And.intro ?_ ?_))
        all_goals first | omega | assumption | (refine z_fin h ?_ rfl; first | rfl | omega | (split <;> omega) | (split <;> split <;> omega)) | skip
  refine h0 _ _ _ ?_
  simp only [z_push, z_lpush, z_iload, z_lload, z_aload, z_istore, z_istoreP, z_lstore, z_astore, z_iinc, z_iincP, z_iadd, z_isub, z_imul, z_iaddW, z_isubW, z_imulW, z_idiv, z_irem, z_iand, z_ior, z_ixor, z_ishl, z_ishr, z_iushr, z_ineg, z_i2l, z_i2b, z_i2s, z_i2c, z_l2i, z_ladd, z_lsub, z_land, z_lor, z_lshl, z_lshr, z_lcmp, z_dup, z_pop, z_dup2, z_goto, z_tsw, z_cases, z_geti, z_getr, z_puti, z_putz, z_ald, z_iast, z_bast, z_zast, z_alen, z_acopy, z_mmax, z_mmin, z_mabs, z_mabsL, z_iret, z_zret, z_nret, z_lret, z_aret, z_vret, z_cat, z_xald, z_xlen, z_ldcs, z_strv, z_strc, z_gcs, z_gfm, z_sln, z_sald, z_ifeq, z_ifne, z_iflt, z_ifge, z_ifgt, z_ifle, z_iceq, z_icne, z_iclt, z_icge, z_icgt, z_icle, z_cs0, z_cs1, z_cs2, z_cs3, z_cs4, z_cs5, z_cs6, z_cs7, z_cv0, z_cv1, z_cv2, z_cv3, z_cv4, z_cv5, z_cv6, z_cv7, z_g0, z_s0, z_g1, z_s1, z_g2, z_s2, z_g3, z_s3, z_g4, z_s4, z_g5, z_s5, z_g6, z_s6, z_g7, z_s7, z_g8, z_s8, z_g9, z_s9, z_g10, z_s10, z_g11, z_s11, z_g12, z_s12, z_g13, z_s13, z_b0, z_b1, z_b0n, z_b1n, z_up_far1, z_up_far2, z_up_far3, z_up_far4, z_up_far5, z_up_far6, Classical.not_not, not_true_eq_false, z_in, z_inL, Int.cast_ofNat_Int, Nat.reduceLeDiff, List.length_cons, List.length_nil, Nat.reduceAdd, Nat.zero_add, Nat.le_refl, true_and, and_true, List.length, Nat.reduceLT, true_or, or_true, false_or, or_false, false_and, and_false, not_true_eq_false, not_false_eq_true, forall_const, false_implies, true_implies, Int.reduceEq, Int.reduceLT, Int.reduceLE, Int.reduceAdd, Int.reduceSub, Int.reduceMul, Int.reduceNeg, Int.reduceToNat, Int.toNat_natCast, ↓reduceIte, reduceIte, Nat.reduceEqDiff, Nat.reduceSub, Nat.reduceMul, ne_eq, Int.zero_add, Int.add_zero, Int.sub_zero, Nat.add_zero, Int.ofNat_eq_natCast, tX6_growAll_0]
  have l0 := loop n 0 (by omega)
  rw [q_grow_0] at l0
  exact l0
theorem dX6_growAll_0 : decode cX6_growAll 0 = .ok (.iconst 0, 1) := by decide +kernel
theorem dX6_growAll_1 : decode cX6_growAll 1 = .ok (.istore_n 2, 1) := by decide +kernel
theorem dX6_growAll_2 : decode cX6_growAll 2 = .ok (.iload_n 2, 1) := by decide +kernel
theorem dX6_growAll_3 : decode cX6_growAll 3 = .ok (.aload_n 0, 1) := by decide +kernel
theorem dX6_growAll_4 : decode cX6_growAll 4 = .ok (.getfield 30, 3) := by decide +kernel
theorem dX6_growAll_7 : decode cX6_growAll 7 = .ok (.if_icmp .ge 41, 3) := by decide +kernel
theorem dX6_growAll_10 : decode cX6_growAll 10 = .ok (.aload_n 0, 1) := by decide +kernel
theorem dX6_growAll_11 : decode cX6_growAll 11 = .ok (.getfield 24, 3) := by decide +kernel
theorem dX6_growAll_14 : decode cX6_growAll 14 = .ok (.iload_n 2, 1) := by decide +kernel
theorem dX6_growAll_15 : decode cX6_growAll 15 = .ok (.iaload, 1) := by decide +kernel
theorem dX6_growAll_16 : decode cX6_growAll 16 = .ok (.ifCond .ne 26, 3) := by decide +kernel
theorem dX6_growAll_19 : decode cX6_growAll 19 = .ok (.aload_n 0, 1) := by decide +kernel
theorem dX6_growAll_20 : decode cX6_growAll 20 = .ok (.getfield 27, 3) := by decide +kernel
theorem dX6_growAll_23 : decode cX6_growAll 23 = .ok (.iload_n 2, 1) := by decide +kernel
theorem dX6_growAll_24 : decode cX6_growAll 24 = .ok (.iaload, 1) := by decide +kernel
theorem dX6_growAll_25 : decode cX6_growAll 25 = .ok (.ifCond .ne 17, 3) := by decide +kernel
theorem dX6_growAll_28 : decode cX6_growAll 28 = .ok (.aload_n 0, 1) := by decide +kernel
theorem dX6_growAll_29 : decode cX6_growAll 29 = .ok (.iload_n 2, 1) := by decide +kernel
theorem dX6_growAll_30 : decode cX6_growAll 30 = .ok (.iload_n 1, 1) := by decide +kernel
theorem dX6_growAll_31 : decode cX6_growAll 31 = .ok (.aload_n 0, 1) := by decide +kernel
theorem dX6_growAll_32 : decode cX6_growAll 32 = .ok (.getfield 21, 3) := by decide +kernel
theorem dX6_growAll_35 : decode cX6_growAll 35 = .ok (.iload_n 2, 1) := by decide +kernel
theorem dX6_growAll_36 : decode cX6_growAll 36 = .ok (.iaload, 1) := by decide +kernel
theorem dX6_growAll_37 : decode cX6_growAll 37 = .ok (.imul, 1) := by decide +kernel
theorem dX6_growAll_38 : decode cX6_growAll 38 = .ok (.invokevirtual 50, 3) := by decide +kernel
theorem dX6_growAll_41 : decode cX6_growAll 41 = .ok (.pop, 1) := by decide +kernel
theorem dX6_growAll_42 : decode cX6_growAll 42 = .ok (.iinc 2 1, 3) := by decide +kernel
theorem dX6_growAll_45 : decode cX6_growAll 45 = .ok (.goto (-43), 3) := by decide +kernel
theorem dX6_growAll_48 : decode cX6_growAll 48 = .ok (.return_, 1) := by decide +kernel
set_option maxRecDepth 100000 in
theorem rX6_growAll_0 {zx : zX} {zn : Nat} {p : Program} {l : Launch} {e : Env} {s : State} {m : MethodId} {args : Array Value} {below : List Frame} {meth : Method} {c : Code} {D : va_G} {cA : Nat → ClassId} {ad : Nat → Nat} {Ret : zR} (C : z_Cx zx zn (z_A zn ad) 0 0 p { frames := 3, cells := 0, slots := 0, locals := 65 } s m args c cX6_growAll yX6_growAll.cls 3 D cA ad) (hr : meth.sig.returnType = none) (hlocks : meth.locks = false) : ∀ L st σ, tX6_growAll_0 (z_X zx zn (z_A zn ad) 0 0 p l e { frames := 3, cells := 0, slots := 0, locals := 65 } s m args below meth c (MQ below (z_Qc zn D cA ad Ret) args s 0 0 (z_A zn ad)) 3 D cA ad true) Ret L st σ → z_X zx zn (z_A zn ad) 0 0 p l e { frames := 3, cells := 0, slots := 0, locals := 65 } s m args below meth c (MQ below (z_Qc zn D cA ad Ret) args s 0 0 (z_A zn ad)) 3 D cA ad true 0 L st σ := (s_iconst C dX6_growAll_0 rfl ⟨by decide, by decide⟩ (s_istore_n C dX6_growAll_1 (by decide) rfl rfl (fun _ _ _ h => h)))
set_option maxRecDepth 100000 in
theorem rX6_growAll_2 {zx : zX} {zn : Nat} {p : Program} {l : Launch} {e : Env} {s : State} {m : MethodId} {args : Array Value} {below : List Frame} {meth : Method} {c : Code} {D : va_G} {cA : Nat → ClassId} {ad : Nat → Nat} {Ret : zR} (C : z_Cx zx zn (z_A zn ad) 0 0 p { frames := 3, cells := 0, slots := 0, locals := 65 } s m args c cX6_growAll yX6_growAll.cls 3 D cA ad) (hr : meth.sig.returnType = none) (hlocks : meth.locks = false) : ∀ L st σ, tX6_growAll_2 (z_X zx zn (z_A zn ad) 0 0 p l e { frames := 3, cells := 0, slots := 0, locals := 65 } s m args below meth c (MQ below (z_Qc zn D cA ad Ret) args s 0 0 (z_A zn ad)) 3 D cA ad true) Ret L st σ → z_X zx zn (z_A zn ad) 0 0 p l e { frames := 3, cells := 0, slots := 0, locals := 65 } s m args below meth c (MQ below (z_Qc zn D cA ad Ret) args s 0 0 (z_A zn ad)) 3 D cA ad true 2 L st σ := (s_iload_n C dX6_growAll_2 rfl (s_aload_n C dX6_growAll_3 rfl (s_geti C dX6_growAll_4 cls_X6 (by decide) rfl wd_124 (s_icge C dX6_growAll_7 (by decide) (s_vret C dX6_growAll_48 hr hlocks) (s_aload_n C dX6_growAll_10 rfl (s_getr C dX6_growAll_11 (j := 4) cls_X6 (by decide) rfl (by decide) (by decide) (by decide +kernel) wd_117 (s_iload_n C dX6_growAll_14 rfl (s_iald C dX6_growAll_15 (s_ifne C dX6_growAll_16 (by decide) (s_iinc C dX6_growAll_42 (by decide) rfl (s_goto C dX6_growAll_45 (by decide) (fun _ _ _ h => h))) (s_aload_n C dX6_growAll_19 rfl (s_getr C dX6_growAll_20 (j := 5) cls_X6 (by decide) rfl (by decide) (by decide) (by decide +kernel) wd_120 (s_iload_n C dX6_growAll_23 rfl (s_iald C dX6_growAll_24 (s_ifne C dX6_growAll_25 (by decide) (s_iinc C dX6_growAll_42 (by decide) rfl (s_goto C dX6_growAll_45 (by decide) (fun _ _ _ h => h))) (s_aload_n C dX6_growAll_28 rfl (s_iload_n C dX6_growAll_29 rfl (s_iload_n C dX6_growAll_30 rfl (s_aload_n C dX6_growAll_31 rfl (s_getr C dX6_growAll_32 (j := 3) cls_X6 (by decide) rfl (by decide) (by decide) (by decide +kernel) wd_115 (s_iload_n C dX6_growAll_35 rfl (s_iald C dX6_growAll_36 (s_imul C dX6_growAll_37 (s_cv2 C dX6_growAll_38 (okX6_stretch l) cls_X6 wd_497 wd_462 wd_463 wd_21 wd_464 ⟨by decide, by decide, by decide +kernel⟩ ⟨by decide, by decide⟩ (s_pop C dX6_growAll_41 (s_iinc C dX6_growAll_42 (by decide) rfl (s_goto C dX6_growAll_45 (by decide) (fun _ _ _ h => h)))))))))))))))))))))))))))
theorem okX6_growAll {zx : zX} {zn : Nat} (l : Launch) : z_OK zx zn l yX6_growAll cX6_growAll 3 none 3 65 SX6_growAll := by
  refine z_ok_of true (by decide +kernel) ?_ ?_
  · intro as σ Ret h
    obtain ⟨k0, x1, rfl⟩ := pX6_growAll h
    exact ⟨Nat.le_of_ble_eq_true rfl, by simp⟩
  · intro p e s m args below meth c D cA ad Ret C hr hlocks as σ has hσ h
    obtain ⟨k0, x1, rfl⟩ := pX6_growAll h
    exact vX6_growAll (rX6_growAll_0 C hr hlocks) (rX6_growAll_2 C hr hlocks) k0 x1 σ (has _ (List.mem_of_getElem? (i := 0) rfl)).1 (has _ (List.mem_of_getElem? (i := 1) rfl)) hσ h
def SX6_takeOver : zS := fun as σ Ret => match as with
  | [.inr (.inr (6, 0, k)), .inr (.inr (6, 0, o))] => (k + 6 < o ∨ o + 6 < k) ∧ ∀ σ' : zM, (∀ c j, ¬ (k ≤ c ∧ c ≤ k + 6) → σ' c j = σ c j) → σ' k 6 = σ o 6 → (∀ i j, 1 ≤ i → i ≤ 6 → j < 12 → σ' (k + i) j = σ (o + i) j) → Ret none σ'
  | _ => False
def tX6_takeOver_0 (X : Nat → zB) (Ret : zR) (L : zL) (st : List zV) (σ : zM) : Prop := (z_aload 1 (z_getr 6 1 100 12 (z_push 0 (z_aload 0 (z_getr 6 1 100 12 (z_push 0 (z_push 12 (z_acopy (z_aload 1 (z_getr 6 2 100 12 (z_push 0 (z_aload 0 (z_getr 6 2 100 12 (z_push 0 (z_push 12 (z_acopy (z_aload 1 (z_getr 6 3 100 12 (z_push 0 (z_aload 0 (z_getr 6 3 100 12 (z_push 0 (z_push 12 (z_acopy (z_aload 1 (z_getr 6 4 100 12 (z_push 0 (z_aload 0 (z_getr 6 4 100 12 (z_push 0 (z_push 12 (z_acopy (z_aload 1 (z_getr 6 5 100 12 (z_push 0 (z_aload 0 (z_getr 6 5 100 12 (z_push 0 (z_push 12 (z_acopy (z_aload 1 (z_getr 6 6 100 12 (z_push 0 (z_aload 0 (z_getr 6 6 100 12 (z_push 0 (z_push 12 (z_acopy (z_aload 0 (z_aload 1 (z_geti 6 6 (z_puti 6 6 (z_vret Ret))))))))))))))))))))))))))))))))))))))))))))))))))))) L st σ
theorem pX6_takeOver {as : List zV} {σ : zM} {Ret : zR} (h : SX6_takeOver as σ Ret) : ∃ (k0 : Nat) (k1 : Nat), as = [.inr (.inr (6, 0, k0)), .inr (.inr (6, 0, k1))] := by
  unfold SX6_takeOver at h
  split at h
  · exact ⟨_, _, rfl⟩
  · exact h.elim
set_option maxRecDepth 10000 in
set_option maxHeartbeats 4000000 in
theorem vX6_takeOver {X : Nat → zB} {Ret : zR} (h0 : ∀ L st σ, tX6_takeOver_0 X Ret L st σ → X 0 L st σ) (k0 : Nat) (k1 : Nat) (σ : zM) (hk0 : z_kd k0 = (6, 0)) (hk1 : z_kd k1 = (6, 0)) (hσ : z_okm σ) (h : SX6_takeOver [.inr (.inr (6, 0, k0)), .inr (.inr (6, 0, k1))] σ Ret) : X 0 [some (.inr (.inr (6, 0, k0))), some (.inr (.inr (6, 0, k1)))] [] σ := by
  obtain ⟨hd, h⟩ := h
  refine h0 _ _ _ ?_
  simp only [z_push, z_lpush, z_iload, z_lload, z_aload, z_istore, z_istoreP, z_lstore, z_astore, z_iinc, z_iincP, z_iadd, z_isub, z_imul, z_iaddW, z_isubW, z_imulW, z_idiv, z_irem, z_iand, z_ior, z_ixor, z_ishl, z_ishr, z_iushr, z_ineg, z_i2l, z_i2b, z_i2s, z_i2c, z_l2i, z_ladd, z_lsub, z_land, z_lor, z_lshl, z_lshr, z_lcmp, z_dup, z_pop, z_dup2, z_goto, z_tsw, z_cases, z_geti, z_getr, z_puti, z_putz, z_ald, z_iast, z_bast, z_zast, z_alen, z_acopy, z_mmax, z_mmin, z_mabs, z_mabsL, z_iret, z_zret, z_nret, z_lret, z_aret, z_vret, z_cat, z_xald, z_xlen, z_ldcs, z_strv, z_strc, z_gcs, z_gfm, z_sln, z_sald, z_ifeq, z_ifne, z_iflt, z_ifge, z_ifgt, z_ifle, z_iceq, z_icne, z_iclt, z_icge, z_icgt, z_icle, z_cs0, z_cs1, z_cs2, z_cs3, z_cs4, z_cs5, z_cs6, z_cs7, z_cv0, z_cv1, z_cv2, z_cv3, z_cv4, z_cv5, z_cv6, z_cv7, z_g0, z_s0, z_g1, z_s1, z_g2, z_s2, z_g3, z_s3, z_g4, z_s4, z_g5, z_s5, z_g6, z_s6, z_g7, z_s7, z_g8, z_s8, z_g9, z_s9, z_g10, z_s10, z_g11, z_s11, z_g12, z_s12, z_g13, z_s13, z_b0, z_b1, z_b0n, z_b1n, z_up_far1, z_up_far2, z_up_far3, z_up_far4, z_up_far5, z_up_far6, Classical.not_not, not_true_eq_false, z_in, z_inL, Int.cast_ofNat_Int, Nat.reduceLeDiff, List.length_cons, List.length_nil, Nat.reduceAdd, Nat.zero_add, Nat.le_refl, true_and, and_true, List.length, Nat.reduceLT, true_or, or_true, false_or, or_false, false_and, and_false, not_true_eq_false, not_false_eq_true, forall_const, false_implies, true_implies, Int.reduceEq, Int.reduceLT, Int.reduceLE, Int.reduceAdd, Int.reduceSub, Int.reduceMul, Int.reduceNeg, Int.reduceToNat, Int.toNat_natCast, ↓reduceIte, reduceIte, Nat.reduceEqDiff, Nat.reduceSub, Nat.reduceMul, ne_eq, Int.zero_add, Int.add_zero, Int.sub_zero, Nat.add_zero, Int.ofNat_eq_natCast, tX6_takeOver_0]
  repeat' (first | (intro _) | (with_reducible assumption) | (refine And.intro ?_ ?_))
  all_goals first | omega | assumption | (refine z_fin h ?_ rfl; first | rfl | omega | (split <;> omega) | (split <;> split <;> omega)) | skip
  refine h _ ?_ ?_ ?_
  · intro c j hc
    (simp only [z_up, z_cpy]; simp (disch := omega) only [if_neg, if_pos, Nat.sub_zero, Nat.zero_add, and_self, true_and, and_true, ↓reduceIte])
  · (simp only [z_up, z_cpy]; simp (disch := omega) only [if_neg, if_pos, Nat.sub_zero, Nat.zero_add, and_self, true_and, and_true, ↓reduceIte])
  · intro i j h1 h2 h3
    have hi : i = 1 ∨ i = 2 ∨ i = 3 ∨ i = 4 ∨ i = 5 ∨ i = 6 := by omega
    rcases hi with rfl | rfl | rfl | rfl | rfl | rfl
    all_goals
      (simp only [z_up, z_cpy]; simp (disch := omega) only [if_neg, if_pos, Nat.sub_zero, Nat.zero_add, and_self, true_and, and_true, ↓reduceIte])
theorem dX6_takeOver_0 : decode cX6_takeOver 0 = .ok (.aload_n 1, 1) := by decide +kernel
theorem dX6_takeOver_1 : decode cX6_takeOver 1 = .ok (.getfield 9, 3) := by decide +kernel
theorem dX6_takeOver_4 : decode cX6_takeOver 4 = .ok (.iconst 0, 1) := by decide +kernel
theorem dX6_takeOver_5 : decode cX6_takeOver 5 = .ok (.aload_n 0, 1) := by decide +kernel
theorem dX6_takeOver_6 : decode cX6_takeOver 6 = .ok (.getfield 9, 3) := by decide +kernel
theorem dX6_takeOver_9 : decode cX6_takeOver 9 = .ok (.iconst 0, 1) := by decide +kernel
theorem dX6_takeOver_10 : decode cX6_takeOver 10 = .ok (.bipush 12, 2) := by decide +kernel
theorem dX6_takeOver_12 : decode cX6_takeOver 12 = .ok (.invokestatic 53, 3) := by decide +kernel
theorem dX6_takeOver_15 : decode cX6_takeOver 15 = .ok (.aload_n 1, 1) := by decide +kernel
theorem dX6_takeOver_16 : decode cX6_takeOver 16 = .ok (.getfield 15, 3) := by decide +kernel
theorem dX6_takeOver_19 : decode cX6_takeOver 19 = .ok (.iconst 0, 1) := by decide +kernel
theorem dX6_takeOver_20 : decode cX6_takeOver 20 = .ok (.aload_n 0, 1) := by decide +kernel
theorem dX6_takeOver_21 : decode cX6_takeOver 21 = .ok (.getfield 15, 3) := by decide +kernel
theorem dX6_takeOver_24 : decode cX6_takeOver 24 = .ok (.iconst 0, 1) := by decide +kernel
theorem dX6_takeOver_25 : decode cX6_takeOver 25 = .ok (.bipush 12, 2) := by decide +kernel
theorem dX6_takeOver_27 : decode cX6_takeOver 27 = .ok (.invokestatic 53, 3) := by decide +kernel
theorem dX6_takeOver_30 : decode cX6_takeOver 30 = .ok (.aload_n 1, 1) := by decide +kernel
theorem dX6_takeOver_31 : decode cX6_takeOver 31 = .ok (.getfield 18, 3) := by decide +kernel
theorem dX6_takeOver_34 : decode cX6_takeOver 34 = .ok (.iconst 0, 1) := by decide +kernel
theorem dX6_takeOver_35 : decode cX6_takeOver 35 = .ok (.aload_n 0, 1) := by decide +kernel
theorem dX6_takeOver_36 : decode cX6_takeOver 36 = .ok (.getfield 18, 3) := by decide +kernel
theorem dX6_takeOver_39 : decode cX6_takeOver 39 = .ok (.iconst 0, 1) := by decide +kernel
theorem dX6_takeOver_40 : decode cX6_takeOver 40 = .ok (.bipush 12, 2) := by decide +kernel
theorem dX6_takeOver_42 : decode cX6_takeOver 42 = .ok (.invokestatic 53, 3) := by decide +kernel
theorem dX6_takeOver_45 : decode cX6_takeOver 45 = .ok (.aload_n 1, 1) := by decide +kernel
theorem dX6_takeOver_46 : decode cX6_takeOver 46 = .ok (.getfield 21, 3) := by decide +kernel
theorem dX6_takeOver_49 : decode cX6_takeOver 49 = .ok (.iconst 0, 1) := by decide +kernel
theorem dX6_takeOver_50 : decode cX6_takeOver 50 = .ok (.aload_n 0, 1) := by decide +kernel
theorem dX6_takeOver_51 : decode cX6_takeOver 51 = .ok (.getfield 21, 3) := by decide +kernel
theorem dX6_takeOver_54 : decode cX6_takeOver 54 = .ok (.iconst 0, 1) := by decide +kernel
theorem dX6_takeOver_55 : decode cX6_takeOver 55 = .ok (.bipush 12, 2) := by decide +kernel
theorem dX6_takeOver_57 : decode cX6_takeOver 57 = .ok (.invokestatic 53, 3) := by decide +kernel
theorem dX6_takeOver_60 : decode cX6_takeOver 60 = .ok (.aload_n 1, 1) := by decide +kernel
theorem dX6_takeOver_61 : decode cX6_takeOver 61 = .ok (.getfield 24, 3) := by decide +kernel
theorem dX6_takeOver_64 : decode cX6_takeOver 64 = .ok (.iconst 0, 1) := by decide +kernel
theorem dX6_takeOver_65 : decode cX6_takeOver 65 = .ok (.aload_n 0, 1) := by decide +kernel
theorem dX6_takeOver_66 : decode cX6_takeOver 66 = .ok (.getfield 24, 3) := by decide +kernel
theorem dX6_takeOver_69 : decode cX6_takeOver 69 = .ok (.iconst 0, 1) := by decide +kernel
theorem dX6_takeOver_70 : decode cX6_takeOver 70 = .ok (.bipush 12, 2) := by decide +kernel
theorem dX6_takeOver_72 : decode cX6_takeOver 72 = .ok (.invokestatic 53, 3) := by decide +kernel
theorem dX6_takeOver_75 : decode cX6_takeOver 75 = .ok (.aload_n 1, 1) := by decide +kernel
theorem dX6_takeOver_76 : decode cX6_takeOver 76 = .ok (.getfield 27, 3) := by decide +kernel
theorem dX6_takeOver_79 : decode cX6_takeOver 79 = .ok (.iconst 0, 1) := by decide +kernel
theorem dX6_takeOver_80 : decode cX6_takeOver 80 = .ok (.aload_n 0, 1) := by decide +kernel
theorem dX6_takeOver_81 : decode cX6_takeOver 81 = .ok (.getfield 27, 3) := by decide +kernel
theorem dX6_takeOver_84 : decode cX6_takeOver 84 = .ok (.iconst 0, 1) := by decide +kernel
theorem dX6_takeOver_85 : decode cX6_takeOver 85 = .ok (.bipush 12, 2) := by decide +kernel
theorem dX6_takeOver_87 : decode cX6_takeOver 87 = .ok (.invokestatic 53, 3) := by decide +kernel
theorem dX6_takeOver_90 : decode cX6_takeOver 90 = .ok (.aload_n 0, 1) := by decide +kernel
theorem dX6_takeOver_91 : decode cX6_takeOver 91 = .ok (.aload_n 1, 1) := by decide +kernel
theorem dX6_takeOver_92 : decode cX6_takeOver 92 = .ok (.getfield 30, 3) := by decide +kernel
theorem dX6_takeOver_95 : decode cX6_takeOver 95 = .ok (.putfield 30, 3) := by decide +kernel
theorem dX6_takeOver_98 : decode cX6_takeOver 98 = .ok (.return_, 1) := by decide +kernel
set_option maxRecDepth 100000 in
theorem rX6_takeOver_0 {zx : zX} {zn : Nat} {p : Program} {l : Launch} {e : Env} {s : State} {m : MethodId} {args : Array Value} {below : List Frame} {meth : Method} {c : Code} {D : va_G} {cA : Nat → ClassId} {ad : Nat → Nat} {Ret : zR} (C : z_Cx zx zn (z_A zn ad) 0 0 p { frames := 1, cells := 0, slots := 0, locals := 26 } s m args c cX6_takeOver yX6_takeOver.cls 2 D cA ad) (hr : meth.sig.returnType = none) (hlocks : meth.locks = false) : ∀ L st σ, tX6_takeOver_0 (z_X zx zn (z_A zn ad) 0 0 p l e { frames := 1, cells := 0, slots := 0, locals := 26 } s m args below meth c (MQ below (z_Qc zn D cA ad Ret) args s 0 0 (z_A zn ad)) 2 D cA ad true) Ret L st σ → z_X zx zn (z_A zn ad) 0 0 p l e { frames := 1, cells := 0, slots := 0, locals := 26 } s m args below meth c (MQ below (z_Qc zn D cA ad Ret) args s 0 0 (z_A zn ad)) 2 D cA ad true 0 L st σ := (s_aload_n C dX6_takeOver_0 rfl (s_getr C dX6_takeOver_1 (j := 0) cls_X6 (by decide) rfl (by decide) (by decide) (by decide +kernel) wd_106 (s_iconst C dX6_takeOver_4 rfl ⟨by decide, by decide⟩ (s_aload_n C dX6_takeOver_5 rfl (s_getr C dX6_takeOver_6 (j := 0) cls_X6 (by decide) rfl (by decide) (by decide) (by decide +kernel) wd_106 (s_iconst C dX6_takeOver_9 rfl ⟨by decide, by decide⟩ (s_bipush C dX6_takeOver_10 rfl ⟨by decide, by decide⟩ (s_acopy C dX6_takeOver_12 wd_639 wd_641 wd_640 wd_31 ⟨by decide, by decide⟩ (s_aload_n C dX6_takeOver_15 rfl (s_getr C dX6_takeOver_16 (j := 1) cls_X6 (by decide) rfl (by decide) (by decide) (by decide +kernel) wd_109 (s_iconst C dX6_takeOver_19 rfl ⟨by decide, by decide⟩ (s_aload_n C dX6_takeOver_20 rfl (s_getr C dX6_takeOver_21 (j := 1) cls_X6 (by decide) rfl (by decide) (by decide) (by decide +kernel) wd_109 (s_iconst C dX6_takeOver_24 rfl ⟨by decide, by decide⟩ (s_bipush C dX6_takeOver_25 rfl ⟨by decide, by decide⟩ (s_acopy C dX6_takeOver_27 wd_639 wd_641 wd_640 wd_31 ⟨by decide, by decide⟩ (s_aload_n C dX6_takeOver_30 rfl (s_getr C dX6_takeOver_31 (j := 2) cls_X6 (by decide) rfl (by decide) (by decide) (by decide +kernel) wd_112 (s_iconst C dX6_takeOver_34 rfl ⟨by decide, by decide⟩ (s_aload_n C dX6_takeOver_35 rfl (s_getr C dX6_takeOver_36 (j := 2) cls_X6 (by decide) rfl (by decide) (by decide) (by decide +kernel) wd_112 (s_iconst C dX6_takeOver_39 rfl ⟨by decide, by decide⟩ (s_bipush C dX6_takeOver_40 rfl ⟨by decide, by decide⟩ (s_acopy C dX6_takeOver_42 wd_639 wd_641 wd_640 wd_31 ⟨by decide, by decide⟩ (s_aload_n C dX6_takeOver_45 rfl (s_getr C dX6_takeOver_46 (j := 3) cls_X6 (by decide) rfl (by decide) (by decide) (by decide +kernel) wd_115 (s_iconst C dX6_takeOver_49 rfl ⟨by decide, by decide⟩ (s_aload_n C dX6_takeOver_50 rfl (s_getr C dX6_takeOver_51 (j := 3) cls_X6 (by decide) rfl (by decide) (by decide) (by decide +kernel) wd_115 (s_iconst C dX6_takeOver_54 rfl ⟨by decide, by decide⟩ (s_bipush C dX6_takeOver_55 rfl ⟨by decide, by decide⟩ (s_acopy C dX6_takeOver_57 wd_639 wd_641 wd_640 wd_31 ⟨by decide, by decide⟩ (s_aload_n C dX6_takeOver_60 rfl (s_getr C dX6_takeOver_61 (j := 4) cls_X6 (by decide) rfl (by decide) (by decide) (by decide +kernel) wd_117 (s_iconst C dX6_takeOver_64 rfl ⟨by decide, by decide⟩ (s_aload_n C dX6_takeOver_65 rfl (s_getr C dX6_takeOver_66 (j := 4) cls_X6 (by decide) rfl (by decide) (by decide) (by decide +kernel) wd_117 (s_iconst C dX6_takeOver_69 rfl ⟨by decide, by decide⟩ (s_bipush C dX6_takeOver_70 rfl ⟨by decide, by decide⟩ (s_acopy C dX6_takeOver_72 wd_639 wd_641 wd_640 wd_31 ⟨by decide, by decide⟩ (s_aload_n C dX6_takeOver_75 rfl (s_getr C dX6_takeOver_76 (j := 5) cls_X6 (by decide) rfl (by decide) (by decide) (by decide +kernel) wd_120 (s_iconst C dX6_takeOver_79 rfl ⟨by decide, by decide⟩ (s_aload_n C dX6_takeOver_80 rfl (s_getr C dX6_takeOver_81 (j := 5) cls_X6 (by decide) rfl (by decide) (by decide) (by decide +kernel) wd_120 (s_iconst C dX6_takeOver_84 rfl ⟨by decide, by decide⟩ (s_bipush C dX6_takeOver_85 rfl ⟨by decide, by decide⟩ (s_acopy C dX6_takeOver_87 wd_639 wd_641 wd_640 wd_31 ⟨by decide, by decide⟩ (s_aload_n C dX6_takeOver_90 rfl (s_aload_n C dX6_takeOver_91 rfl (s_geti C dX6_takeOver_92 cls_X6 (by decide) rfl wd_124 (s_puti C dX6_takeOver_95 cls_X6 (by decide) rfl wd_124 rfl rfl (s_vret C dX6_takeOver_98 hr hlocks)))))))))))))))))))))))))))))))))))))))))))))))))))))
theorem okX6_takeOver {zx : zX} {zn : Nat} (l : Launch) : z_OK zx zn l yX6_takeOver cX6_takeOver 2 none 1 26 SX6_takeOver := by
  refine z_ok_of true (by decide +kernel) ?_ ?_
  · intro as σ Ret h
    obtain ⟨k0, k1, rfl⟩ := pX6_takeOver h
    exact ⟨Nat.le_of_ble_eq_true rfl, by simp⟩
  · intro p e s m args below meth c D cA ad Ret C hr hlocks as σ has hσ h
    obtain ⟨k0, k1, rfl⟩ := pX6_takeOver h
    exact vX6_takeOver (rX6_takeOver_0 C hr hlocks) k0 k1 σ (has _ (List.mem_of_getElem? (i := 0) rfl)).1 (has _ (List.mem_of_getElem? (i := 1) rfl)).1 hσ h
def SX7_takeOver : zS := fun as σ Ret => match as with
  | [.inr (.inr (7, 0, k)), .inr (.inr (7, 0, o))] => (k + 3 < o ∨ o + 3 < k) ∧ ∀ σ' : zM, (∀ c j, ¬ (k ≤ c ∧ c ≤ k + 3) → σ' c j = σ c j) → σ' k 3 = σ o 3 → (∀ i j, 1 ≤ i → i ≤ 3 → j < 6 → σ' (k + i) j = σ (o + i) j) → Ret none σ'
  | _ => False
def tX7_takeOver_0 (X : Nat → zB) (Ret : zR) (L : zL) (st : List zV) (σ : zM) : Prop := (z_aload 1 (z_getr 7 1 100 6 (z_push 0 (z_aload 0 (z_getr 7 1 100 6 (z_push 0 (z_push 6 (z_acopy (z_aload 1 (z_getr 7 2 100 6 (z_push 0 (z_aload 0 (z_getr 7 2 100 6 (z_push 0 (z_push 6 (z_acopy (z_aload 1 (z_getr 7 3 100 6 (z_push 0 (z_aload 0 (z_getr 7 3 100 6 (z_push 0 (z_push 6 (z_acopy (z_aload 0 (z_aload 1 (z_geti 7 3 (z_puti 7 3 (z_vret Ret))))))))))))))))))))))))))))) L st σ
theorem pX7_takeOver {as : List zV} {σ : zM} {Ret : zR} (h : SX7_takeOver as σ Ret) : ∃ (k0 : Nat) (k1 : Nat), as = [.inr (.inr (7, 0, k0)), .inr (.inr (7, 0, k1))] := by
  unfold SX7_takeOver at h
  split at h
  · exact ⟨_, _, rfl⟩
  · exact h.elim
set_option maxRecDepth 10000 in
set_option maxHeartbeats 4000000 in
theorem vX7_takeOver {X : Nat → zB} {Ret : zR} (h0 : ∀ L st σ, tX7_takeOver_0 X Ret L st σ → X 0 L st σ) (k0 : Nat) (k1 : Nat) (σ : zM) (hk0 : z_kd k0 = (7, 0)) (hk1 : z_kd k1 = (7, 0)) (hσ : z_okm σ) (h : SX7_takeOver [.inr (.inr (7, 0, k0)), .inr (.inr (7, 0, k1))] σ Ret) : X 0 [some (.inr (.inr (7, 0, k0))), some (.inr (.inr (7, 0, k1)))] [] σ := by
  obtain ⟨hd, h⟩ := h
  refine h0 _ _ _ ?_
  simp only [z_push, z_lpush, z_iload, z_lload, z_aload, z_istore, z_istoreP, z_lstore, z_astore, z_iinc, z_iincP, z_iadd, z_isub, z_imul, z_iaddW, z_isubW, z_imulW, z_idiv, z_irem, z_iand, z_ior, z_ixor, z_ishl, z_ishr, z_iushr, z_ineg, z_i2l, z_i2b, z_i2s, z_i2c, z_l2i, z_ladd, z_lsub, z_land, z_lor, z_lshl, z_lshr, z_lcmp, z_dup, z_pop, z_dup2, z_goto, z_tsw, z_cases, z_geti, z_getr, z_puti, z_putz, z_ald, z_iast, z_bast, z_zast, z_alen, z_acopy, z_mmax, z_mmin, z_mabs, z_mabsL, z_iret, z_zret, z_nret, z_lret, z_aret, z_vret, z_cat, z_xald, z_xlen, z_ldcs, z_strv, z_strc, z_gcs, z_gfm, z_sln, z_sald, z_ifeq, z_ifne, z_iflt, z_ifge, z_ifgt, z_ifle, z_iceq, z_icne, z_iclt, z_icge, z_icgt, z_icle, z_cs0, z_cs1, z_cs2, z_cs3, z_cs4, z_cs5, z_cs6, z_cs7, z_cv0, z_cv1, z_cv2, z_cv3, z_cv4, z_cv5, z_cv6, z_cv7, z_g0, z_s0, z_g1, z_s1, z_g2, z_s2, z_g3, z_s3, z_g4, z_s4, z_g5, z_s5, z_g6, z_s6, z_g7, z_s7, z_g8, z_s8, z_g9, z_s9, z_g10, z_s10, z_g11, z_s11, z_g12, z_s12, z_g13, z_s13, z_b0, z_b1, z_b0n, z_b1n, z_up_far1, z_up_far2, z_up_far3, z_up_far4, z_up_far5, z_up_far6, Classical.not_not, not_true_eq_false, z_in, z_inL, Int.cast_ofNat_Int, Nat.reduceLeDiff, List.length_cons, List.length_nil, Nat.reduceAdd, Nat.zero_add, Nat.le_refl, true_and, and_true, List.length, Nat.reduceLT, true_or, or_true, false_or, or_false, false_and, and_false, not_true_eq_false, not_false_eq_true, forall_const, false_implies, true_implies, Int.reduceEq, Int.reduceLT, Int.reduceLE, Int.reduceAdd, Int.reduceSub, Int.reduceMul, Int.reduceNeg, Int.reduceToNat, Int.toNat_natCast, ↓reduceIte, reduceIte, Nat.reduceEqDiff, Nat.reduceSub, Nat.reduceMul, ne_eq, Int.zero_add, Int.add_zero, Int.sub_zero, Nat.add_zero, Int.ofNat_eq_natCast, tX7_takeOver_0]
  repeat' (first | (intro _) | (with_reducible assumption) | (refine And.intro ?_ ?_))
  all_goals first | omega | assumption | (refine z_fin h ?_ rfl; first | rfl | omega | (split <;> omega) | (split <;> split <;> omega)) | skip
  refine h _ ?_ ?_ ?_
  · intro c j hc
    (simp only [z_up, z_cpy]; simp (disch := omega) only [if_neg, if_pos, Nat.sub_zero, Nat.zero_add, and_self, true_and, and_true, ↓reduceIte])
  · (simp only [z_up, z_cpy]; simp (disch := omega) only [if_neg, if_pos, Nat.sub_zero, Nat.zero_add, and_self, true_and, and_true, ↓reduceIte])
  · intro i j h1 h2 h3
    have hi : i = 1 ∨ i = 2 ∨ i = 3 := by omega
    rcases hi with rfl | rfl | rfl
    all_goals
      (simp only [z_up, z_cpy]; simp (disch := omega) only [if_neg, if_pos, Nat.sub_zero, Nat.zero_add, and_self, true_and, and_true, ↓reduceIte])
theorem dX7_takeOver_0 : decode cX7_takeOver 0 = .ok (.aload_n 1, 1) := by decide +kernel
theorem dX7_takeOver_1 : decode cX7_takeOver 1 = .ok (.getfield 9, 3) := by decide +kernel
theorem dX7_takeOver_4 : decode cX7_takeOver 4 = .ok (.iconst 0, 1) := by decide +kernel
theorem dX7_takeOver_5 : decode cX7_takeOver 5 = .ok (.aload_n 0, 1) := by decide +kernel
theorem dX7_takeOver_6 : decode cX7_takeOver 6 = .ok (.getfield 9, 3) := by decide +kernel
theorem dX7_takeOver_9 : decode cX7_takeOver 9 = .ok (.iconst 0, 1) := by decide +kernel
theorem dX7_takeOver_10 : decode cX7_takeOver 10 = .ok (.bipush 6, 2) := by decide +kernel
theorem dX7_takeOver_12 : decode cX7_takeOver 12 = .ok (.invokestatic 25, 3) := by decide +kernel
theorem dX7_takeOver_15 : decode cX7_takeOver 15 = .ok (.aload_n 1, 1) := by decide +kernel
theorem dX7_takeOver_16 : decode cX7_takeOver 16 = .ok (.getfield 15, 3) := by decide +kernel
theorem dX7_takeOver_19 : decode cX7_takeOver 19 = .ok (.iconst 0, 1) := by decide +kernel
theorem dX7_takeOver_20 : decode cX7_takeOver 20 = .ok (.aload_n 0, 1) := by decide +kernel
theorem dX7_takeOver_21 : decode cX7_takeOver 21 = .ok (.getfield 15, 3) := by decide +kernel
theorem dX7_takeOver_24 : decode cX7_takeOver 24 = .ok (.iconst 0, 1) := by decide +kernel
theorem dX7_takeOver_25 : decode cX7_takeOver 25 = .ok (.bipush 6, 2) := by decide +kernel
theorem dX7_takeOver_27 : decode cX7_takeOver 27 = .ok (.invokestatic 25, 3) := by decide +kernel
theorem dX7_takeOver_30 : decode cX7_takeOver 30 = .ok (.aload_n 1, 1) := by decide +kernel
theorem dX7_takeOver_31 : decode cX7_takeOver 31 = .ok (.getfield 18, 3) := by decide +kernel
theorem dX7_takeOver_34 : decode cX7_takeOver 34 = .ok (.iconst 0, 1) := by decide +kernel
theorem dX7_takeOver_35 : decode cX7_takeOver 35 = .ok (.aload_n 0, 1) := by decide +kernel
theorem dX7_takeOver_36 : decode cX7_takeOver 36 = .ok (.getfield 18, 3) := by decide +kernel
theorem dX7_takeOver_39 : decode cX7_takeOver 39 = .ok (.iconst 0, 1) := by decide +kernel
theorem dX7_takeOver_40 : decode cX7_takeOver 40 = .ok (.bipush 6, 2) := by decide +kernel
theorem dX7_takeOver_42 : decode cX7_takeOver 42 = .ok (.invokestatic 25, 3) := by decide +kernel
theorem dX7_takeOver_45 : decode cX7_takeOver 45 = .ok (.aload_n 0, 1) := by decide +kernel
theorem dX7_takeOver_46 : decode cX7_takeOver 46 = .ok (.aload_n 1, 1) := by decide +kernel
theorem dX7_takeOver_47 : decode cX7_takeOver 47 = .ok (.getfield 21, 3) := by decide +kernel
theorem dX7_takeOver_50 : decode cX7_takeOver 50 = .ok (.putfield 21, 3) := by decide +kernel
theorem dX7_takeOver_53 : decode cX7_takeOver 53 = .ok (.return_, 1) := by decide +kernel
set_option maxRecDepth 100000 in
theorem rX7_takeOver_0 {zx : zX} {zn : Nat} {p : Program} {l : Launch} {e : Env} {s : State} {m : MethodId} {args : Array Value} {below : List Frame} {meth : Method} {c : Code} {D : va_G} {cA : Nat → ClassId} {ad : Nat → Nat} {Ret : zR} (C : z_Cx zx zn (z_A zn ad) 0 0 p { frames := 1, cells := 0, slots := 0, locals := 26 } s m args c cX7_takeOver yX7_takeOver.cls 2 D cA ad) (hr : meth.sig.returnType = none) (hlocks : meth.locks = false) : ∀ L st σ, tX7_takeOver_0 (z_X zx zn (z_A zn ad) 0 0 p l e { frames := 1, cells := 0, slots := 0, locals := 26 } s m args below meth c (MQ below (z_Qc zn D cA ad Ret) args s 0 0 (z_A zn ad)) 2 D cA ad true) Ret L st σ → z_X zx zn (z_A zn ad) 0 0 p l e { frames := 1, cells := 0, slots := 0, locals := 26 } s m args below meth c (MQ below (z_Qc zn D cA ad Ret) args s 0 0 (z_A zn ad)) 2 D cA ad true 0 L st σ := (s_aload_n C dX7_takeOver_0 rfl (s_getr C dX7_takeOver_1 (j := 0) cls_X7 (by decide) rfl (by decide) (by decide) (by decide +kernel) wd_149 (s_iconst C dX7_takeOver_4 rfl ⟨by decide, by decide⟩ (s_aload_n C dX7_takeOver_5 rfl (s_getr C dX7_takeOver_6 (j := 0) cls_X7 (by decide) rfl (by decide) (by decide) (by decide +kernel) wd_149 (s_iconst C dX7_takeOver_9 rfl ⟨by decide, by decide⟩ (s_bipush C dX7_takeOver_10 rfl ⟨by decide, by decide⟩ (s_acopy C dX7_takeOver_12 wd_646 wd_641 wd_640 wd_31 ⟨by decide, by decide⟩ (s_aload_n C dX7_takeOver_15 rfl (s_getr C dX7_takeOver_16 (j := 1) cls_X7 (by decide) rfl (by decide) (by decide) (by decide +kernel) wd_151 (s_iconst C dX7_takeOver_19 rfl ⟨by decide, by decide⟩ (s_aload_n C dX7_takeOver_20 rfl (s_getr C dX7_takeOver_21 (j := 1) cls_X7 (by decide) rfl (by decide) (by decide) (by decide +kernel) wd_151 (s_iconst C dX7_takeOver_24 rfl ⟨by decide, by decide⟩ (s_bipush C dX7_takeOver_25 rfl ⟨by decide, by decide⟩ (s_acopy C dX7_takeOver_27 wd_646 wd_641 wd_640 wd_31 ⟨by decide, by decide⟩ (s_aload_n C dX7_takeOver_30 rfl (s_getr C dX7_takeOver_31 (j := 2) cls_X7 (by decide) rfl (by decide) (by decide) (by decide +kernel) wd_153 (s_iconst C dX7_takeOver_34 rfl ⟨by decide, by decide⟩ (s_aload_n C dX7_takeOver_35 rfl (s_getr C dX7_takeOver_36 (j := 2) cls_X7 (by decide) rfl (by decide) (by decide) (by decide +kernel) wd_153 (s_iconst C dX7_takeOver_39 rfl ⟨by decide, by decide⟩ (s_bipush C dX7_takeOver_40 rfl ⟨by decide, by decide⟩ (s_acopy C dX7_takeOver_42 wd_646 wd_641 wd_640 wd_31 ⟨by decide, by decide⟩ (s_aload_n C dX7_takeOver_45 rfl (s_aload_n C dX7_takeOver_46 rfl (s_geti C dX7_takeOver_47 cls_X7 (by decide) rfl wd_154 (s_puti C dX7_takeOver_50 cls_X7 (by decide) rfl wd_154 rfl rfl (s_vret C dX7_takeOver_53 hr hlocks)))))))))))))))))))))))))))))
theorem okX7_takeOver {zx : zX} {zn : Nat} (l : Launch) : z_OK zx zn l yX7_takeOver cX7_takeOver 2 none 1 26 SX7_takeOver := by
  refine z_ok_of true (by decide +kernel) ?_ ?_
  · intro as σ Ret h
    obtain ⟨k0, k1, rfl⟩ := pX7_takeOver h
    exact ⟨Nat.le_of_ble_eq_true rfl, by simp⟩
  · intro p e s m args below meth c D cA ad Ret C hr hlocks as σ has hσ h
    obtain ⟨k0, k1, rfl⟩ := pX7_takeOver h
    exact vX7_takeOver (rX7_takeOver_0 C hr hlocks) k0 k1 σ (has _ (List.mem_of_getElem? (i := 0) rfl)).1 (has _ (List.mem_of_getElem? (i := 1) rfl)).1 hσ h
def SX2_takeOver : zS := fun as σ Ret => match as with
  | [.inr (.inr (2, 0, k)), .inr (.inr (2, 0, o))] => (k + 3 < o ∨ o + 3 < k) ∧ ∀ σ' : zM, (∀ c j, ¬ (k ≤ c ∧ c ≤ k + 3) → σ' c j = σ c j) → σ' k 3 = σ o 3 → (∀ i j, 1 ≤ i → i ≤ 3 → j < 60 → σ' (k + i) j = σ (o + i) j) → Ret none σ'
  | _ => False
def tX2_takeOver_0 (X : Nat → zB) (Ret : zR) (L : zL) (st : List zV) (σ : zM) : Prop := (z_aload 1 (z_getr 2 1 100 60 (z_push 0 (z_aload 0 (z_getr 2 1 100 60 (z_push 0 (z_push 60 (z_acopy (z_aload 1 (z_getr 2 2 100 60 (z_push 0 (z_aload 0 (z_getr 2 2 100 60 (z_push 0 (z_push 60 (z_acopy (z_aload 1 (z_getr 2 3 100 60 (z_push 0 (z_aload 0 (z_getr 2 3 100 60 (z_push 0 (z_push 60 (z_acopy (z_aload 0 (z_aload 1 (z_geti 2 3 (z_puti 2 3 (z_vret Ret))))))))))))))))))))))))))))) L st σ
theorem pX2_takeOver {as : List zV} {σ : zM} {Ret : zR} (h : SX2_takeOver as σ Ret) : ∃ (k0 : Nat) (k1 : Nat), as = [.inr (.inr (2, 0, k0)), .inr (.inr (2, 0, k1))] := by
  unfold SX2_takeOver at h
  split at h
  · exact ⟨_, _, rfl⟩
  · exact h.elim
set_option maxRecDepth 10000 in
set_option maxHeartbeats 4000000 in
theorem vX2_takeOver {X : Nat → zB} {Ret : zR} (h0 : ∀ L st σ, tX2_takeOver_0 X Ret L st σ → X 0 L st σ) (k0 : Nat) (k1 : Nat) (σ : zM) (hk0 : z_kd k0 = (2, 0)) (hk1 : z_kd k1 = (2, 0)) (hσ : z_okm σ) (h : SX2_takeOver [.inr (.inr (2, 0, k0)), .inr (.inr (2, 0, k1))] σ Ret) : X 0 [some (.inr (.inr (2, 0, k0))), some (.inr (.inr (2, 0, k1)))] [] σ := by
  obtain ⟨hd, h⟩ := h
  refine h0 _ _ _ ?_
  simp only [z_push, z_lpush, z_iload, z_lload, z_aload, z_istore, z_istoreP, z_lstore, z_astore, z_iinc, z_iincP, z_iadd, z_isub, z_imul, z_iaddW, z_isubW, z_imulW, z_idiv, z_irem, z_iand, z_ior, z_ixor, z_ishl, z_ishr, z_iushr, z_ineg, z_i2l, z_i2b, z_i2s, z_i2c, z_l2i, z_ladd, z_lsub, z_land, z_lor, z_lshl, z_lshr, z_lcmp, z_dup, z_pop, z_dup2, z_goto, z_tsw, z_cases, z_geti, z_getr, z_puti, z_putz, z_ald, z_iast, z_bast, z_zast, z_alen, z_acopy, z_mmax, z_mmin, z_mabs, z_mabsL, z_iret, z_zret, z_nret, z_lret, z_aret, z_vret, z_cat, z_xald, z_xlen, z_ldcs, z_strv, z_strc, z_gcs, z_gfm, z_sln, z_sald, z_ifeq, z_ifne, z_iflt, z_ifge, z_ifgt, z_ifle, z_iceq, z_icne, z_iclt, z_icge, z_icgt, z_icle, z_cs0, z_cs1, z_cs2, z_cs3, z_cs4, z_cs5, z_cs6, z_cs7, z_cv0, z_cv1, z_cv2, z_cv3, z_cv4, z_cv5, z_cv6, z_cv7, z_g0, z_s0, z_g1, z_s1, z_g2, z_s2, z_g3, z_s3, z_g4, z_s4, z_g5, z_s5, z_g6, z_s6, z_g7, z_s7, z_g8, z_s8, z_g9, z_s9, z_g10, z_s10, z_g11, z_s11, z_g12, z_s12, z_g13, z_s13, z_b0, z_b1, z_b0n, z_b1n, z_up_far1, z_up_far2, z_up_far3, z_up_far4, z_up_far5, z_up_far6, Classical.not_not, not_true_eq_false, z_in, z_inL, Int.cast_ofNat_Int, Nat.reduceLeDiff, List.length_cons, List.length_nil, Nat.reduceAdd, Nat.zero_add, Nat.le_refl, true_and, and_true, List.length, Nat.reduceLT, true_or, or_true, false_or, or_false, false_and, and_false, not_true_eq_false, not_false_eq_true, forall_const, false_implies, true_implies, Int.reduceEq, Int.reduceLT, Int.reduceLE, Int.reduceAdd, Int.reduceSub, Int.reduceMul, Int.reduceNeg, Int.reduceToNat, Int.toNat_natCast, ↓reduceIte, reduceIte, Nat.reduceEqDiff, Nat.reduceSub, Nat.reduceMul, ne_eq, Int.zero_add, Int.add_zero, Int.sub_zero, Nat.add_zero, Int.ofNat_eq_natCast, tX2_takeOver_0]
  repeat' (first | (intro _) | (with_reducible assumption) | (refine And.intro ?_ ?_))
  all_goals first | omega | assumption | (refine z_fin h ?_ rfl; first | rfl | omega | (split <;> omega) | (split <;> split <;> omega)) | skip
  refine h _ ?_ ?_ ?_
  · intro c j hc
    (simp only [z_up, z_cpy]; simp (disch := omega) only [if_neg, if_pos, Nat.sub_zero, Nat.zero_add, and_self, true_and, and_true, ↓reduceIte])
  · (simp only [z_up, z_cpy]; simp (disch := omega) only [if_neg, if_pos, Nat.sub_zero, Nat.zero_add, and_self, true_and, and_true, ↓reduceIte])
  · intro i j h1 h2 h3
    have hi : i = 1 ∨ i = 2 ∨ i = 3 := by omega
    rcases hi with rfl | rfl | rfl
    all_goals
      (simp only [z_up, z_cpy]; simp (disch := omega) only [if_neg, if_pos, Nat.sub_zero, Nat.zero_add, and_self, true_and, and_true, ↓reduceIte])
theorem dX2_takeOver_0 : decode cX2_takeOver 0 = .ok (.aload_n 1, 1) := by decide +kernel
theorem dX2_takeOver_1 : decode cX2_takeOver 1 = .ok (.getfield 9, 3) := by decide +kernel
theorem dX2_takeOver_4 : decode cX2_takeOver 4 = .ok (.iconst 0, 1) := by decide +kernel
theorem dX2_takeOver_5 : decode cX2_takeOver 5 = .ok (.aload_n 0, 1) := by decide +kernel
theorem dX2_takeOver_6 : decode cX2_takeOver 6 = .ok (.getfield 9, 3) := by decide +kernel
theorem dX2_takeOver_9 : decode cX2_takeOver 9 = .ok (.iconst 0, 1) := by decide +kernel
theorem dX2_takeOver_10 : decode cX2_takeOver 10 = .ok (.bipush 60, 2) := by decide +kernel
theorem dX2_takeOver_12 : decode cX2_takeOver 12 = .ok (.invokestatic 25, 3) := by decide +kernel
theorem dX2_takeOver_15 : decode cX2_takeOver 15 = .ok (.aload_n 1, 1) := by decide +kernel
theorem dX2_takeOver_16 : decode cX2_takeOver 16 = .ok (.getfield 15, 3) := by decide +kernel
theorem dX2_takeOver_19 : decode cX2_takeOver 19 = .ok (.iconst 0, 1) := by decide +kernel
theorem dX2_takeOver_20 : decode cX2_takeOver 20 = .ok (.aload_n 0, 1) := by decide +kernel
theorem dX2_takeOver_21 : decode cX2_takeOver 21 = .ok (.getfield 15, 3) := by decide +kernel
theorem dX2_takeOver_24 : decode cX2_takeOver 24 = .ok (.iconst 0, 1) := by decide +kernel
theorem dX2_takeOver_25 : decode cX2_takeOver 25 = .ok (.bipush 60, 2) := by decide +kernel
theorem dX2_takeOver_27 : decode cX2_takeOver 27 = .ok (.invokestatic 25, 3) := by decide +kernel
theorem dX2_takeOver_30 : decode cX2_takeOver 30 = .ok (.aload_n 1, 1) := by decide +kernel
theorem dX2_takeOver_31 : decode cX2_takeOver 31 = .ok (.getfield 18, 3) := by decide +kernel
theorem dX2_takeOver_34 : decode cX2_takeOver 34 = .ok (.iconst 0, 1) := by decide +kernel
theorem dX2_takeOver_35 : decode cX2_takeOver 35 = .ok (.aload_n 0, 1) := by decide +kernel
theorem dX2_takeOver_36 : decode cX2_takeOver 36 = .ok (.getfield 18, 3) := by decide +kernel
theorem dX2_takeOver_39 : decode cX2_takeOver 39 = .ok (.iconst 0, 1) := by decide +kernel
theorem dX2_takeOver_40 : decode cX2_takeOver 40 = .ok (.bipush 60, 2) := by decide +kernel
theorem dX2_takeOver_42 : decode cX2_takeOver 42 = .ok (.invokestatic 25, 3) := by decide +kernel
theorem dX2_takeOver_45 : decode cX2_takeOver 45 = .ok (.aload_n 0, 1) := by decide +kernel
theorem dX2_takeOver_46 : decode cX2_takeOver 46 = .ok (.aload_n 1, 1) := by decide +kernel
theorem dX2_takeOver_47 : decode cX2_takeOver 47 = .ok (.getfield 21, 3) := by decide +kernel
theorem dX2_takeOver_50 : decode cX2_takeOver 50 = .ok (.putfield 21, 3) := by decide +kernel
theorem dX2_takeOver_53 : decode cX2_takeOver 53 = .ok (.return_, 1) := by decide +kernel
set_option maxRecDepth 100000 in
theorem rX2_takeOver_0 {zx : zX} {zn : Nat} {p : Program} {l : Launch} {e : Env} {s : State} {m : MethodId} {args : Array Value} {below : List Frame} {meth : Method} {c : Code} {D : va_G} {cA : Nat → ClassId} {ad : Nat → Nat} {Ret : zR} (C : z_Cx zx zn (z_A zn ad) 0 0 p { frames := 1, cells := 0, slots := 0, locals := 26 } s m args c cX2_takeOver yX2_takeOver.cls 2 D cA ad) (hr : meth.sig.returnType = none) (hlocks : meth.locks = false) : ∀ L st σ, tX2_takeOver_0 (z_X zx zn (z_A zn ad) 0 0 p l e { frames := 1, cells := 0, slots := 0, locals := 26 } s m args below meth c (MQ below (z_Qc zn D cA ad Ret) args s 0 0 (z_A zn ad)) 2 D cA ad true) Ret L st σ → z_X zx zn (z_A zn ad) 0 0 p l e { frames := 1, cells := 0, slots := 0, locals := 26 } s m args below meth c (MQ below (z_Qc zn D cA ad Ret) args s 0 0 (z_A zn ad)) 2 D cA ad true 0 L st σ := (s_aload_n C dX2_takeOver_0 rfl (s_getr C dX2_takeOver_1 (j := 0) cls_X2 (by decide) rfl (by decide) (by decide) (by decide +kernel) wd_173 (s_iconst C dX2_takeOver_4 rfl ⟨by decide, by decide⟩ (s_aload_n C dX2_takeOver_5 rfl (s_getr C dX2_takeOver_6 (j := 0) cls_X2 (by decide) rfl (by decide) (by decide) (by decide +kernel) wd_173 (s_iconst C dX2_takeOver_9 rfl ⟨by decide, by decide⟩ (s_bipush C dX2_takeOver_10 rfl ⟨by decide, by decide⟩ (s_acopy C dX2_takeOver_12 wd_651 wd_641 wd_640 wd_31 ⟨by decide, by decide⟩ (s_aload_n C dX2_takeOver_15 rfl (s_getr C dX2_takeOver_16 (j := 1) cls_X2 (by decide) rfl (by decide) (by decide) (by decide +kernel) wd_175 (s_iconst C dX2_takeOver_19 rfl ⟨by decide, by decide⟩ (s_aload_n C dX2_takeOver_20 rfl (s_getr C dX2_takeOver_21 (j := 1) cls_X2 (by decide) rfl (by decide) (by decide) (by decide +kernel) wd_175 (s_iconst C dX2_takeOver_24 rfl ⟨by decide, by decide⟩ (s_bipush C dX2_takeOver_25 rfl ⟨by decide, by decide⟩ (s_acopy C dX2_takeOver_27 wd_651 wd_641 wd_640 wd_31 ⟨by decide, by decide⟩ (s_aload_n C dX2_takeOver_30 rfl (s_getr C dX2_takeOver_31 (j := 2) cls_X2 (by decide) rfl (by decide) (by decide) (by decide +kernel) wd_177 (s_iconst C dX2_takeOver_34 rfl ⟨by decide, by decide⟩ (s_aload_n C dX2_takeOver_35 rfl (s_getr C dX2_takeOver_36 (j := 2) cls_X2 (by decide) rfl (by decide) (by decide) (by decide +kernel) wd_177 (s_iconst C dX2_takeOver_39 rfl ⟨by decide, by decide⟩ (s_bipush C dX2_takeOver_40 rfl ⟨by decide, by decide⟩ (s_acopy C dX2_takeOver_42 wd_651 wd_641 wd_640 wd_31 ⟨by decide, by decide⟩ (s_aload_n C dX2_takeOver_45 rfl (s_aload_n C dX2_takeOver_46 rfl (s_geti C dX2_takeOver_47 cls_X2 (by decide) rfl wd_179 (s_puti C dX2_takeOver_50 cls_X2 (by decide) rfl wd_179 rfl rfl (s_vret C dX2_takeOver_53 hr hlocks)))))))))))))))))))))))))))))
theorem okX2_takeOver {zx : zX} {zn : Nat} (l : Launch) : z_OK zx zn l yX2_takeOver cX2_takeOver 2 none 1 26 SX2_takeOver := by
  refine z_ok_of true (by decide +kernel) ?_ ?_
  · intro as σ Ret h
    obtain ⟨k0, k1, rfl⟩ := pX2_takeOver h
    exact ⟨Nat.le_of_ble_eq_true rfl, by simp⟩
  · intro p e s m args below meth c D cA ad Ret C hr hlocks as σ has hσ h
    obtain ⟨k0, k1, rfl⟩ := pX2_takeOver h
    exact vX2_takeOver (rX2_takeOver_0 C hr hlocks) k0 k1 σ (has _ (List.mem_of_getElem? (i := 0) rfl)).1 (has _ (List.mem_of_getElem? (i := 1) rfl)).1 hσ h
