/-! kind and as, asked of the program -/
def q_gKind (t w : Int) (τ : zM) : Int := if ¬ ((0 ≤ t ∧ t < τ 93 0) ∧ 0 ≤ w ∧ w < τ 93 1) then -1000001 else q_kdD (τ 93) t.toNat w.toNat
def SX9_kind : zS := fun as σ Ret => match as with
  | [.inr (.inr (9, 0, _)), .inl t, .inl w] => q_S9 (q_gKind t w) q_fId σ Ret
  | _ => False
def tX9_kind_0 (X : Nat → zB) (Ret : zR) (L : zL) (st : List zV) (σ : zM) : Prop := (z_aload 0 (z_getr 9 8 8 0 (z_getr 8 1 6 0 (z_iload 1 (z_cv1 6 SX6_has (z_ifeq (z_push (-1000001) (z_iret Ret)) (z_aload 0 (z_getr 9 8 8 0 (z_getr 8 8 7 0 (z_iload 2 (z_cv1 7 SX7_has (z_ifne (z_aload 0 (z_iload 1 (z_iload 2 (z_cv2 9 SX9_kindIn (z_iret Ret))))) (z_push (-1000001) (z_iret Ret)))))))))))))) L st σ
theorem pX9_kind {as : List zV} {σ : zM} {Ret : zR} (h : SX9_kind as σ Ret) : ∃ (k0 : Nat) (x1 : Int) (x2 : Int), as = [.inr (.inr (9, 0, k0)), .inl x1, .inl x2] := by
  unfold SX9_kind at h
  split at h
  · exact ⟨_, _, _, rfl⟩
  · exact h.elim
set_option maxRecDepth 10000 in
set_option maxHeartbeats 4000000 in
theorem vX9_kind {X : Nat → zB} {Ret : zR} (h0 : ∀ L st σ, tX9_kind_0 X Ret L st σ → X 0 L st σ) (k0 : Nat) (x1 : Int) (x2 : Int) (σ : zM) (hk0 : z_kd k0 = (9, 0)) (hx1 : -2147483648 ≤ x1 ∧ x1 ≤ 2147483647) (hx2 : -2147483648 ≤ x2 ∧ x2 ≤ 2147483647) (hσ : z_okm σ) (h : SX9_kind [.inr (.inr (9, 0, k0)), .inl x1, .inl x2] σ Ret) : X 0 [some (.inr (.inr (9, 0, k0))), some (.inl x1), some (.inl x2)] [] σ := by
  obtain ⟨⟨R, m⟩, h⟩ := h
  obtain rfl := z_kd9 hk0
  have W := R.2.2.2.2.1.1
  have K := m.2.1.1
  have W0 : σ 9 6 = σ 93 0 := W.1.1.1
  have W1 : σ 16 3 = σ 93 1 := W.1.2.1.1
  have K0 := K.1.1
  have K1 := K.1.2.1
  by_cases c : ¬ ((0 ≤ x1 ∧ x1 < σ 93 0) ∧ 0 ≤ x2 ∧ x2 < σ 93 1)
  · have fin := h σ (fun _ _ => rfl) R
    simp only [q_gKind, if_pos c] at fin
    refine h0 _ _ _ ?_
    simp only [z_push, z_lpush, z_iload, z_lload, z_aload, z_istore, z_istoreP, z_lstore, z_astore, z_iinc, z_iincP, z_iadd, z_isub, z_imul, z_iaddW, z_isubW, z_imulW, z_idiv, z_irem, z_iand, z_ior, z_ixor, z_ishl, z_ishr, z_iushr, z_ineg, z_i2l, z_i2b, z_i2s, z_i2c, z_l2i, z_ladd, z_lsub, z_land, z_lor, z_lshl, z_lshr, z_lcmp, z_dup, z_pop, z_dup2, z_goto, z_tsw, z_cases, z_geti, z_getr, z_puti, z_putz, z_ald, z_iast, z_bast, z_zast, z_alen, z_acopy, z_mmax, z_mmin, z_mabs, z_mabsL, z_iret, z_zret, z_nret, z_lret, z_aret, z_vret, z_cat, z_ldcs, z_strv, z_strc, z_gcs, z_gfm, z_sln, z_sald, z_ifeq, z_ifne, z_iflt, z_ifge, z_ifgt, z_ifle, z_iceq, z_icne, z_iclt, z_icge, z_icgt, z_icle, z_cs0, z_cs1, z_cs2, z_cs3, z_cs4, z_cs5, z_cs6, z_cs7, z_cv0, z_cv1, z_cv2, z_cv3, z_cv4, z_cv5, z_cv6, z_cv7, z_g0, z_s0, z_g1, z_s1, z_g2, z_s2, z_g3, z_s3, z_g4, z_s4, z_g5, z_s5, z_g6, z_s6, z_g7, z_s7, z_g8, z_s8, z_g9, z_s9, z_g10, z_s10, z_g11, z_s11, z_g12, z_s12, z_g13, z_s13, z_b0, z_b1, z_b0n, z_b1n, z_up_far1, z_up_far2, z_up_far3, z_up_far4, z_up_far5, z_up_far6, Classical.not_not, not_true_eq_false, z_in, z_inL, Int.cast_ofNat_Int, Nat.reduceLeDiff, List.length_cons, List.length_nil, Nat.reduceAdd, Nat.zero_add, Nat.le_refl, true_and, and_true, List.length, Nat.reduceLT, true_or, or_true, false_or, or_false, false_and, and_false, not_true_eq_false, not_false_eq_true, forall_const, false_implies, true_implies, Int.reduceEq, Int.reduceLT, Int.reduceLE, Int.reduceAdd, Int.reduceSub, Int.reduceMul, Int.reduceNeg, Int.reduceToNat, Int.toNat_natCast, ↓reduceIte, reduceIte, Nat.reduceEqDiff, Nat.reduceSub, Nat.reduceMul, ne_eq, Int.zero_add, Int.add_zero, Int.sub_zero, Nat.add_zero, Int.ofNat_eq_natCast, tX9_kind_0, SX6_has, SX7_has, W0, W1]
    repeat' (first | (intro _) | (with_reducible assumption) | (refine And.intro ?_ ?_))
    all_goals first | omega | assumption | (refine z_fin fin ?_ rfl; first | rfl | omega | (split <;> omega) | (split <;> split <;> omega)) | skip
  refine h0 _ _ _ ?_
  simp only [z_push, z_lpush, z_iload, z_lload, z_aload, z_istore, z_istoreP, z_lstore, z_astore, z_iinc, z_iincP, z_iadd, z_isub, z_imul, z_iaddW, z_isubW, z_imulW, z_idiv, z_irem, z_iand, z_ior, z_ixor, z_ishl, z_ishr, z_iushr, z_ineg, z_i2l, z_i2b, z_i2s, z_i2c, z_l2i, z_ladd, z_lsub, z_land, z_lor, z_lshl, z_lshr, z_lcmp, z_dup, z_pop, z_dup2, z_goto, z_tsw, z_cases, z_geti, z_getr, z_puti, z_putz, z_ald, z_iast, z_bast, z_zast, z_alen, z_acopy, z_mmax, z_mmin, z_mabs, z_mabsL, z_iret, z_zret, z_nret, z_lret, z_aret, z_vret, z_cat, z_ldcs, z_strv, z_strc, z_gcs, z_gfm, z_sln, z_sald, z_ifeq, z_ifne, z_iflt, z_ifge, z_ifgt, z_ifle, z_iceq, z_icne, z_iclt, z_icge, z_icgt, z_icle, z_cs0, z_cs1, z_cs2, z_cs3, z_cs4, z_cs5, z_cs6, z_cs7, z_cv0, z_cv1, z_cv2, z_cv3, z_cv4, z_cv5, z_cv6, z_cv7, z_g0, z_s0, z_g1, z_s1, z_g2, z_s2, z_g3, z_s3, z_g4, z_s4, z_g5, z_s5, z_g6, z_s6, z_g7, z_s7, z_g8, z_s8, z_g9, z_s9, z_g10, z_s10, z_g11, z_s11, z_g12, z_s12, z_g13, z_s13, z_b0, z_b1, z_b0n, z_b1n, z_up_far1, z_up_far2, z_up_far3, z_up_far4, z_up_far5, z_up_far6, Classical.not_not, not_true_eq_false, z_in, z_inL, Int.cast_ofNat_Int, Nat.reduceLeDiff, List.length_cons, List.length_nil, Nat.reduceAdd, Nat.zero_add, Nat.le_refl, true_and, and_true, List.length, Nat.reduceLT, true_or, or_true, false_or, or_false, false_and, and_false, not_true_eq_false, not_false_eq_true, forall_const, false_implies, true_implies, Int.reduceEq, Int.reduceLT, Int.reduceLE, Int.reduceAdd, Int.reduceSub, Int.reduceMul, Int.reduceNeg, Int.reduceToNat, Int.toNat_natCast, ↓reduceIte, reduceIte, Nat.reduceEqDiff, Nat.reduceSub, Nat.reduceMul, ne_eq, Int.zero_add, Int.add_zero, Int.sub_zero, Nat.add_zero, Int.ofNat_eq_natCast, tX9_kind_0, SX6_has, SX7_has, SX9_kindIn, W0, W1]
  refine ⟨fun e => absurd e (by omega), fun _ => ⟨fun _ => ⟨σ 93, ⟨W, K, by omega⟩, fun σ1 f1 => ?_⟩, fun e => absurd e (by omega)⟩⟩
  have e9 : ∀ c, 89 ≤ c → σ1 c = σ c := fun c hc => funext fun j => f1 c j (by omega)
  have fin := h σ1 e9 (q_R2_id R (fun c j hc => f1 c j (by unfold q_lastP at hc; omega)))
  simp only [q_gKind, e9 93 (by omega), if_neg c] at fin
  exact fin
theorem dX9_kind_0 : decode cX9_kind 0 = .ok (.aload_n 0, 1) := by decide +kernel
theorem dX9_kind_1 : decode cX9_kind 1 = .ok (.getfield 26, 3) := by decide +kernel
theorem dX9_kind_4 : decode cX9_kind 4 = .ok (.getfield 132, 3) := by decide +kernel
theorem dX9_kind_7 : decode cX9_kind 7 = .ok (.iload_n 1, 1) := by decide +kernel
theorem dX9_kind_8 : decode cX9_kind 8 = .ok (.invokevirtual 170, 3) := by decide +kernel
theorem dX9_kind_11 : decode cX9_kind 11 = .ok (.ifCond .eq 17, 3) := by decide +kernel
theorem dX9_kind_14 : decode cX9_kind 14 = .ok (.aload_n 0, 1) := by decide +kernel
theorem dX9_kind_15 : decode cX9_kind 15 = .ok (.getfield 26, 3) := by decide +kernel
theorem dX9_kind_18 : decode cX9_kind 18 = .ok (.getfield 194, 3) := by decide +kernel
theorem dX9_kind_21 : decode cX9_kind 21 = .ok (.iload_n 2, 1) := by decide +kernel
theorem dX9_kind_22 : decode cX9_kind 22 = .ok (.invokevirtual 198, 3) := by decide +kernel
theorem dX9_kind_25 : decode cX9_kind 25 = .ok (.ifCond .ne 6, 3) := by decide +kernel
theorem dX9_kind_28 : decode cX9_kind 28 = .ok (.ldc 75, 2) := by decide +kernel
theorem dX9_kind_30 : decode cX9_kind 30 = .ok (.ireturn, 1) := by decide +kernel
theorem dX9_kind_31 : decode cX9_kind 31 = .ok (.aload_n 0, 1) := by decide +kernel
theorem dX9_kind_32 : decode cX9_kind 32 = .ok (.iload_n 1, 1) := by decide +kernel
theorem dX9_kind_33 : decode cX9_kind 33 = .ok (.iload_n 2, 1) := by decide +kernel
theorem dX9_kind_34 : decode cX9_kind 34 = .ok (.invokevirtual 267, 3) := by decide +kernel
theorem dX9_kind_37 : decode cX9_kind 37 = .ok (.ireturn, 1) := by decide +kernel
set_option maxRecDepth 100000 in
theorem rX9_kind_0 {p : Program} {l : Launch} {e : Env} {s : State} {m : MethodId} {args : Array Value} {below : List Frame} {meth : Method} {c : Code} {D : va_G} {cA : Nat → ClassId} {ad : Nat → Nat} {Ret : zR} (C : z_Cx p { frames := 4, cells := 0, slots := 0, locals := 90 } s m args c cX9_kind yX9_kind.cls 3 D cA ad) (hr : meth.sig.returnType = (some .int)) (hlocks : meth.locks = false) : ∀ L st σ, tX9_kind_0 (z_X p l e { frames := 4, cells := 0, slots := 0, locals := 90 } s m args below meth c (MQ below (z_Qc D cA ad Ret) args s 0 0 (z_A ad)) 3 D cA ad true) Ret L st σ → z_X p l e { frames := 4, cells := 0, slots := 0, locals := 90 } s m args below meth c (MQ below (z_Qc D cA ad Ret) args s 0 0 (z_A ad)) 3 D cA ad true 0 L st σ := (s_aload_n C dX9_kind_0 rfl (s_getr C dX9_kind_1 (j := 2) cls_X9 (by decide) rfl (by decide) (by decide) (by decide +kernel) wd_359 (s_getr C dX9_kind_4 (j := 0) cls_X8 (by decide) rfl (by decide) (by decide) (by decide +kernel) wd_258 (s_iload_n C dX9_kind_7 rfl (s_cv1 C dX9_kind_8 (okX6_has l) cls_X6 wd_714 wd_667 wd_668 wd_79 wd_669 ⟨by decide, by decide, by decide +kernel⟩ ⟨by decide, by decide⟩ (s_ifeq C dX9_kind_11 (by decide) (s_ldc C dX9_kind_28 (v := -1000001) wd_404 ⟨by decide, by decide⟩ (s_iret C dX9_kind_30 hr hlocks)) (s_aload_n C dX9_kind_14 rfl (s_getr C dX9_kind_15 (j := 2) cls_X9 (by decide) rfl (by decide) (by decide) (by decide +kernel) wd_359 (s_getr C dX9_kind_18 (j := 1) cls_X8 (by decide) rfl (by decide) (by decide) (by decide +kernel) wd_261 (s_iload_n C dX9_kind_21 rfl (s_cv1 C dX9_kind_22 (okX7_has l) cls_X7 wd_726 wd_727 wd_728 wd_80 wd_729 ⟨by decide, by decide, by decide +kernel⟩ ⟨by decide, by decide⟩ (s_ifne C dX9_kind_25 (by decide) (s_aload_n C dX9_kind_31 rfl (s_iload_n C dX9_kind_32 rfl (s_iload_n C dX9_kind_33 rfl (s_cv2 C dX9_kind_34 (okX9_kindIn l) cls_X9 wd_874 wd_876 wd_23 wd_75 wd_877 ⟨by decide, by decide, by decide +kernel⟩ ⟨by decide, by decide⟩ (s_iret C dX9_kind_37 hr hlocks))))) (s_ldc C dX9_kind_28 (v := -1000001) wd_404 ⟨by decide, by decide⟩ (s_iret C dX9_kind_30 hr hlocks))))))))))))))
theorem okX9_kind (l : Launch) : z_OK l yX9_kind cX9_kind 3 (some .int) 4 90 SX9_kind := by
  refine z_ok_of true (by decide +kernel) ?_ ?_
  · intro as σ Ret h
    obtain ⟨k0, x1, x2, rfl⟩ := pX9_kind h
    exact ⟨Nat.le_of_ble_eq_true rfl, by simp⟩
  · intro p e s m args below meth c D cA ad Ret C hr hlocks as σ has hσ h
    obtain ⟨k0, x1, x2, rfl⟩ := pX9_kind h
    exact vX9_kind (rX9_kind_0 C hr hlocks) k0 x1 x2 σ (has _ (List.mem_of_getElem? (i := 0) rfl)) (has _ (List.mem_of_getElem? (i := 1) rfl)) (has _ (List.mem_of_getElem? (i := 2) rfl)) hσ h
def q_isofb (d k : Int) : Bool := decide (k = 0 ∨ k = d ∨ (k = 1 ∧ (d = 2 ∨ d = 5)) ∨ (k = 3 ∧ d = 4))
theorem q_isofb_iff {d k : Int} : q_isofb d k = true ↔ q_isof d k := by
  unfold q_isofb q_isof
  rw [decide_eq_true_eq]
def q_gAs (t w k : Int) (τ : zM) : Int := if ¬ ((0 ≤ t ∧ t < τ 93 0) ∧ (0 ≤ w ∧ w < τ 93 1) ∧ 0 ≤ k ∧ k ≤ 5) then -1000001 else if q_isofb (q_kdD (τ 93) t.toNat w.toNat) k = true then t else -1000013
def q_fAs (t w k : Int) (τ : zM) : zM := if ¬ ((0 ≤ t ∧ t < τ 93 0) ∧ (0 ≤ w ∧ w < τ 93 1) ∧ 0 ≤ k ∧ k ≤ 5) then τ else if q_isofb (q_kdD (τ 93) t.toNat w.toNat) k = true then z_up τ 89 1 0 else z_up τ 89 1 3
def SX9_as : zS := fun as σ Ret => match as with
  | [.inr (.inr (9, 0, _)), .inl t, .inl w, .inl k] => q_S9 (q_gAs t w k) (q_fAs t w k) σ Ret
  | _ => False
def tX9_as_0 (X : Nat → zB) (Ret : zR) (L : zL) (st : List zV) (σ : zM) : Prop := (z_aload 0 (z_getr 9 8 8 0 (z_getr 8 1 6 0 (z_iload 1 (z_cv1 6 SX6_has (z_ifeq (z_push (-1000001) (z_iret Ret)) (z_aload 0 (z_getr 9 8 8 0 (z_getr 8 8 7 0 (z_iload 2 (z_cv1 7 SX7_has (z_ifeq (z_push (-1000001) (z_iret Ret)) (z_iload 3 (z_iflt (z_push (-1000001) (z_iret Ret)) (z_iload 3 (z_push 5 (z_icle (z_aload 0 (z_iload 1 (z_iload 2 (z_cv2 9 SX9_kindIn (z_iload 3 (z_cs2 SX9_isOfKind (z_ifne (z_aload 0 (z_iload 1 (z_cv1 9 SX9_passed (z_iret Ret)))) (z_aload 0 (z_push 3 (z_cv1 9 SX9_found (z_iret Ret))))))))))) (z_push (-1000001) (z_iret Ret))))))))))))))))))) L st σ
theorem pX9_as {as : List zV} {σ : zM} {Ret : zR} (h : SX9_as as σ Ret) : ∃ (k0 : Nat) (x1 : Int) (x2 : Int) (x3 : Int), as = [.inr (.inr (9, 0, k0)), .inl x1, .inl x2, .inl x3] := by
  unfold SX9_as at h
  split at h
  · exact ⟨_, _, _, _, rfl⟩
  · exact h.elim
set_option maxRecDepth 10000 in
set_option maxHeartbeats 4000000 in
theorem vX9_as {X : Nat → zB} {Ret : zR} (h0 : ∀ L st σ, tX9_as_0 X Ret L st σ → X 0 L st σ) (k0 : Nat) (x1 : Int) (x2 : Int) (x3 : Int) (σ : zM) (hk0 : z_kd k0 = (9, 0)) (hx1 : -2147483648 ≤ x1 ∧ x1 ≤ 2147483647) (hx2 : -2147483648 ≤ x2 ∧ x2 ≤ 2147483647) (hx3 : -2147483648 ≤ x3 ∧ x3 ≤ 2147483647) (hσ : z_okm σ) (h : SX9_as [.inr (.inr (9, 0, k0)), .inl x1, .inl x2, .inl x3] σ Ret) : X 0 [some (.inr (.inr (9, 0, k0))), some (.inl x1), some (.inl x2), some (.inl x3)] [] σ := by
  obtain ⟨⟨R, m⟩, h⟩ := h
  obtain rfl := z_kd9 hk0
  have W := R.2.2.2.2.1.1
  have K := m.2.1.1
  have W0 : σ 9 6 = σ 93 0 := W.1.1.1
  have W1 : σ 16 3 = σ 93 1 := W.1.2.1.1
  have K0 := K.1.1
  have K1 := K.1.2.1
  by_cases c : ¬ ((0 ≤ x1 ∧ x1 < σ 93 0) ∧ (0 ≤ x2 ∧ x2 < σ 93 1) ∧ 0 ≤ x3 ∧ x3 ≤ 5)
  · have fin := h σ (fun _ _ => rfl) (by unfold q_fAs; rw [if_pos c]; exact R)
    simp only [q_gAs, if_pos c] at fin
    refine h0 _ _ _ ?_
    simp only [z_push, z_lpush, z_iload, z_lload, z_aload, z_istore, z_istoreP, z_lstore, z_astore, z_iinc, z_iincP, z_iadd, z_isub, z_imul, z_iaddW, z_isubW, z_imulW, z_idiv, z_irem, z_iand, z_ior, z_ixor, z_ishl, z_ishr, z_iushr, z_ineg, z_i2l, z_i2b, z_i2s, z_i2c, z_l2i, z_ladd, z_lsub, z_land, z_lor, z_lshl, z_lshr, z_lcmp, z_dup, z_pop, z_dup2, z_goto, z_tsw, z_cases, z_geti, z_getr, z_puti, z_putz, z_ald, z_iast, z_bast, z_zast, z_alen, z_acopy, z_mmax, z_mmin, z_mabs, z_mabsL, z_iret, z_zret, z_nret, z_lret, z_aret, z_vret, z_cat, z_ldcs, z_strv, z_strc, z_gcs, z_gfm, z_sln, z_sald, z_ifeq, z_ifne, z_iflt, z_ifge, z_ifgt, z_ifle, z_iceq, z_icne, z_iclt, z_icge, z_icgt, z_icle, z_cs0, z_cs1, z_cs2, z_cs3, z_cs4, z_cs5, z_cs6, z_cs7, z_cv0, z_cv1, z_cv2, z_cv3, z_cv4, z_cv5, z_cv6, z_cv7, z_g0, z_s0, z_g1, z_s1, z_g2, z_s2, z_g3, z_s3, z_g4, z_s4, z_g5, z_s5, z_g6, z_s6, z_g7, z_s7, z_g8, z_s8, z_g9, z_s9, z_g10, z_s10, z_g11, z_s11, z_g12, z_s12, z_g13, z_s13, z_b0, z_b1, z_b0n, z_b1n, z_up_far1, z_up_far2, z_up_far3, z_up_far4, z_up_far5, z_up_far6, Classical.not_not, not_true_eq_false, z_in, z_inL, Int.cast_ofNat_Int, Nat.reduceLeDiff, List.length_cons, List.length_nil, Nat.reduceAdd, Nat.zero_add, Nat.le_refl, true_and, and_true, List.length, Nat.reduceLT, true_or, or_true, false_or, or_false, false_and, and_false, not_true_eq_false, not_false_eq_true, forall_const, false_implies, true_implies, Int.reduceEq, Int.reduceLT, Int.reduceLE, Int.reduceAdd, Int.reduceSub, Int.reduceMul, Int.reduceNeg, Int.reduceToNat, Int.toNat_natCast, ↓reduceIte, reduceIte, Nat.reduceEqDiff, Nat.reduceSub, Nat.reduceMul, ne_eq, Int.zero_add, Int.add_zero, Int.sub_zero, Nat.add_zero, Int.ofNat_eq_natCast, tX9_as_0, SX6_has, SX7_has, W0, W1]
    repeat' (first | (intro _) | (with_reducible assumption) | (refine And.intro ?_ ?_))
    all_goals first | omega | assumption | (refine z_fin fin ?_ rfl; first | rfl | omega | (split <;> omega) | (split <;> split <;> omega)) | skip
  have key : ∀ σ1 : zM, (∀ c j, ¬ (80 ≤ c ∧ c ≤ 83) → σ1 c j = σ c j) → ∀ v, q_fAs x1 x2 x3 (z_up σ1 0 12 v) = z_up (z_up σ1 0 12 v) 89 1 v → Ret (some (.inl (q_gAs x1 x2 x3 σ))) (z_up σ1 0 12 v) := by
    intro σ1 f1 v e
    have e9 : ∀ c, 89 ≤ c → σ1 c = σ c := fun c hc => funext fun j => f1 c j (by omega)
    have R1 : q_R2 σ1 σ1 := q_R2_id R (fun c j hc => f1 c j (by unfold q_lastP at hc; omega))
    have e93 : z_up σ1 0 12 v 93 = σ 93 := by rw [q_up89 (by omega) 93 (by omega), e9 93 (by omega)]
    have fin := h (z_up σ1 0 12 v) (fun c hc => by rw [q_up89 (by omega) c hc, e9 c hc]) (by rw [e]; exact q_R2_fnd R1 v)
    unfold q_gAs at fin ⊢
    rw [e93] at fin
    exact fin
  have fe : ∀ σ1 : zM, (∀ c j, ¬ (80 ≤ c ∧ c ≤ 83) → σ1 c j = σ c j) → ∀ v, q_fAs x1 x2 x3 (z_up σ1 0 12 v) = if q_isofb (q_kdD (σ 93) x1.toNat x2.toNat) x3 = true then z_up (z_up σ1 0 12 v) 89 1 0 else z_up (z_up σ1 0 12 v) 89 1 3 := by
    intro σ1 f1 v
    have e93 : z_up σ1 0 12 v 93 = σ 93 := by rw [q_up89 (by omega) 93 (by omega)]; exact funext fun j => f1 93 j (by omega)
    unfold q_fAs
    rw [e93, if_neg c]
  refine h0 _ _ _ ?_
  simp only [z_push, z_lpush, z_iload, z_lload, z_aload, z_istore, z_istoreP, z_lstore, z_astore, z_iinc, z_iincP, z_iadd, z_isub, z_imul, z_iaddW, z_isubW, z_imulW, z_idiv, z_irem, z_iand, z_ior, z_ixor, z_ishl, z_ishr, z_iushr, z_ineg, z_i2l, z_i2b, z_i2s, z_i2c, z_l2i, z_ladd, z_lsub, z_land, z_lor, z_lshl, z_lshr, z_lcmp, z_dup, z_pop, z_dup2, z_goto, z_tsw, z_cases, z_geti, z_getr, z_puti, z_putz, z_ald, z_iast, z_bast, z_zast, z_alen, z_acopy, z_mmax, z_mmin, z_mabs, z_mabsL, z_iret, z_zret, z_nret, z_lret, z_aret, z_vret, z_cat, z_ldcs, z_strv, z_strc, z_gcs, z_gfm, z_sln, z_sald, z_ifeq, z_ifne, z_iflt, z_ifge, z_ifgt, z_ifle, z_iceq, z_icne, z_iclt, z_icge, z_icgt, z_icle, z_cs0, z_cs1, z_cs2, z_cs3, z_cs4, z_cs5, z_cs6, z_cs7, z_cv0, z_cv1, z_cv2, z_cv3, z_cv4, z_cv5, z_cv6, z_cv7, z_g0, z_s0, z_g1, z_s1, z_g2, z_s2, z_g3, z_s3, z_g4, z_s4, z_g5, z_s5, z_g6, z_s6, z_g7, z_s7, z_g8, z_s8, z_g9, z_s9, z_g10, z_s10, z_g11, z_s11, z_g12, z_s12, z_g13, z_s13, z_b0, z_b1, z_b0n, z_b1n, z_up_far1, z_up_far2, z_up_far3, z_up_far4, z_up_far5, z_up_far6, Classical.not_not, not_true_eq_false, z_in, z_inL, Int.cast_ofNat_Int, Nat.reduceLeDiff, List.length_cons, List.length_nil, Nat.reduceAdd, Nat.zero_add, Nat.le_refl, true_and, and_true, List.length, Nat.reduceLT, true_or, or_true, false_or, or_false, false_and, and_false, not_true_eq_false, not_false_eq_true, forall_const, false_implies, true_implies, Int.reduceEq, Int.reduceLT, Int.reduceLE, Int.reduceAdd, Int.reduceSub, Int.reduceMul, Int.reduceNeg, Int.reduceToNat, Int.toNat_natCast, ↓reduceIte, reduceIte, Nat.reduceEqDiff, Nat.reduceSub, Nat.reduceMul, ne_eq, Int.zero_add, Int.add_zero, Int.sub_zero, Nat.add_zero, Int.ofNat_eq_natCast, tX9_as_0, SX6_has, SX7_has, SX9_kindIn, SX9_isOfKind, SX9_found, SX9_passed, W0, W1]
  refine ⟨fun e => absurd e (by omega), fun _ => ⟨fun e => absurd e (by omega), fun _ => ⟨fun e => absurd e (by omega), fun _ => ⟨fun _ => ⟨σ 93, ⟨W, K, by omega⟩, fun σ1 f1 => ⟨fun g => ?_, fun g => ?_⟩⟩, fun e => absurd e (by omega)⟩⟩⟩⟩
  · have g2 := q_isofb_iff.mpr g
    have fin := key σ1 f1 0 (by rw [fe σ1 f1, if_pos g2])
    unfold q_gAs at fin
    rw [if_neg c, if_pos g2] at fin
    exact fin
  · have g2 : ¬ q_isofb (q_kdD (σ 93) x1.toNat x2.toNat) x3 = true := fun q => g (q_isofb_iff.mp q)
    have fin := key σ1 f1 3 (by rw [fe σ1 f1, if_neg g2])
    unfold q_gAs at fin
    rw [if_neg c, if_neg g2] at fin
    exact fin
theorem dX9_as_0 : decode cX9_as 0 = .ok (.aload_n 0, 1) := by decide +kernel
theorem dX9_as_1 : decode cX9_as 1 = .ok (.getfield 26, 3) := by decide +kernel
theorem dX9_as_4 : decode cX9_as 4 = .ok (.getfield 132, 3) := by decide +kernel
theorem dX9_as_7 : decode cX9_as 7 = .ok (.iload_n 1, 1) := by decide +kernel
theorem dX9_as_8 : decode cX9_as 8 = .ok (.invokevirtual 170, 3) := by decide +kernel
theorem dX9_as_11 : decode cX9_as 11 = .ok (.ifCond .eq 26, 3) := by decide +kernel
theorem dX9_as_14 : decode cX9_as 14 = .ok (.aload_n 0, 1) := by decide +kernel
theorem dX9_as_15 : decode cX9_as 15 = .ok (.getfield 26, 3) := by decide +kernel
theorem dX9_as_18 : decode cX9_as 18 = .ok (.getfield 194, 3) := by decide +kernel
theorem dX9_as_21 : decode cX9_as 21 = .ok (.iload_n 2, 1) := by decide +kernel
theorem dX9_as_22 : decode cX9_as 22 = .ok (.invokevirtual 198, 3) := by decide +kernel
theorem dX9_as_25 : decode cX9_as 25 = .ok (.ifCond .eq 12, 3) := by decide +kernel
theorem dX9_as_28 : decode cX9_as 28 = .ok (.iload_n 3, 1) := by decide +kernel
theorem dX9_as_29 : decode cX9_as 29 = .ok (.ifCond .lt 8, 3) := by decide +kernel
theorem dX9_as_32 : decode cX9_as 32 = .ok (.iload_n 3, 1) := by decide +kernel
theorem dX9_as_33 : decode cX9_as 33 = .ok (.iconst 5, 1) := by decide +kernel
theorem dX9_as_34 : decode cX9_as 34 = .ok (.if_icmp .le 6, 3) := by decide +kernel
theorem dX9_as_37 : decode cX9_as 37 = .ok (.ldc 75, 2) := by decide +kernel
theorem dX9_as_39 : decode cX9_as 39 = .ok (.ireturn, 1) := by decide +kernel
theorem dX9_as_40 : decode cX9_as 40 = .ok (.aload_n 0, 1) := by decide +kernel
theorem dX9_as_41 : decode cX9_as 41 = .ok (.iload_n 1, 1) := by decide +kernel
theorem dX9_as_42 : decode cX9_as 42 = .ok (.iload_n 2, 1) := by decide +kernel
theorem dX9_as_43 : decode cX9_as 43 = .ok (.invokevirtual 267, 3) := by decide +kernel
theorem dX9_as_46 : decode cX9_as 46 = .ok (.iload_n 3, 1) := by decide +kernel
theorem dX9_as_47 : decode cX9_as 47 = .ok (.invokestatic 270, 3) := by decide +kernel
theorem dX9_as_50 : decode cX9_as 50 = .ok (.ifCond .ne 9, 3) := by decide +kernel
theorem dX9_as_53 : decode cX9_as 53 = .ok (.aload_n 0, 1) := by decide +kernel
theorem dX9_as_54 : decode cX9_as 54 = .ok (.iconst 3, 1) := by decide +kernel
theorem dX9_as_55 : decode cX9_as 55 = .ok (.invokevirtual 76, 3) := by decide +kernel
theorem dX9_as_58 : decode cX9_as 58 = .ok (.ireturn, 1) := by decide +kernel
theorem dX9_as_59 : decode cX9_as 59 = .ok (.aload_n 0, 1) := by decide +kernel
theorem dX9_as_60 : decode cX9_as 60 = .ok (.iload_n 1, 1) := by decide +kernel
theorem dX9_as_61 : decode cX9_as 61 = .ok (.invokevirtual 84, 3) := by decide +kernel
theorem dX9_as_64 : decode cX9_as 64 = .ok (.ireturn, 1) := by decide +kernel
set_option maxRecDepth 100000 in
theorem rX9_as_0 {p : Program} {l : Launch} {e : Env} {s : State} {m : MethodId} {args : Array Value} {below : List Frame} {meth : Method} {c : Code} {D : va_G} {cA : Nat → ClassId} {ad : Nat → Nat} {Ret : zR} (C : z_Cx p { frames := 4, cells := 0, slots := 0, locals := 90 } s m args c cX9_as yX9_as.cls 4 D cA ad) (hr : meth.sig.returnType = (some .int)) (hlocks : meth.locks = false) : ∀ L st σ, tX9_as_0 (z_X p l e { frames := 4, cells := 0, slots := 0, locals := 90 } s m args below meth c (MQ below (z_Qc D cA ad Ret) args s 0 0 (z_A ad)) 4 D cA ad true) Ret L st σ → z_X p l e { frames := 4, cells := 0, slots := 0, locals := 90 } s m args below meth c (MQ below (z_Qc D cA ad Ret) args s 0 0 (z_A ad)) 4 D cA ad true 0 L st σ := (s_aload_n C dX9_as_0 rfl (s_getr C dX9_as_1 (j := 2) cls_X9 (by decide) rfl (by decide) (by decide) (by decide +kernel) wd_359 (s_getr C dX9_as_4 (j := 0) cls_X8 (by decide) rfl (by decide) (by decide) (by decide +kernel) wd_258 (s_iload_n C dX9_as_7 rfl (s_cv1 C dX9_as_8 (okX6_has l) cls_X6 wd_714 wd_667 wd_668 wd_79 wd_669 ⟨by decide, by decide, by decide +kernel⟩ ⟨by decide, by decide⟩ (s_ifeq C dX9_as_11 (by decide) (s_ldc C dX9_as_37 (v := -1000001) wd_404 ⟨by decide, by decide⟩ (s_iret C dX9_as_39 hr hlocks)) (s_aload_n C dX9_as_14 rfl (s_getr C dX9_as_15 (j := 2) cls_X9 (by decide) rfl (by decide) (by decide) (by decide +kernel) wd_359 (s_getr C dX9_as_18 (j := 1) cls_X8 (by decide) rfl (by decide) (by decide) (by decide +kernel) wd_261 (s_iload_n C dX9_as_21 rfl (s_cv1 C dX9_as_22 (okX7_has l) cls_X7 wd_726 wd_727 wd_728 wd_80 wd_729 ⟨by decide, by decide, by decide +kernel⟩ ⟨by decide, by decide⟩ (s_ifeq C dX9_as_25 (by decide) (s_ldc C dX9_as_37 (v := -1000001) wd_404 ⟨by decide, by decide⟩ (s_iret C dX9_as_39 hr hlocks)) (s_iload_n C dX9_as_28 rfl (s_iflt C dX9_as_29 (by decide) (s_ldc C dX9_as_37 (v := -1000001) wd_404 ⟨by decide, by decide⟩ (s_iret C dX9_as_39 hr hlocks)) (s_iload_n C dX9_as_32 rfl (s_iconst C dX9_as_33 rfl ⟨by decide, by decide⟩ (s_icle C dX9_as_34 (by decide) (s_aload_n C dX9_as_40 rfl (s_iload_n C dX9_as_41 rfl (s_iload_n C dX9_as_42 rfl (s_cv2 C dX9_as_43 (okX9_kindIn l) cls_X9 wd_874 wd_876 wd_23 wd_75 wd_877 ⟨by decide, by decide, by decide +kernel⟩ ⟨by decide, by decide⟩ (s_iload_n C dX9_as_46 rfl (s_cs2 C dX9_as_47 (okX9_isOfKind l) wd_883 wd_884 wd_75 wd_885 ⟨by decide, by decide, by decide +kernel⟩ ⟨by decide, by decide⟩ (s_ifne C dX9_as_50 (by decide) (s_aload_n C dX9_as_59 rfl (s_iload_n C dX9_as_60 rfl (s_cv1 C dX9_as_61 (okX9_passed l) cls_X9 wd_415 wd_417 wd_1 wd_75 wd_418 ⟨by decide, by decide, by decide +kernel⟩ ⟨by decide, by decide⟩ (s_iret C dX9_as_64 hr hlocks)))) (s_aload_n C dX9_as_53 rfl (s_iconst C dX9_as_54 rfl ⟨by decide, by decide⟩ (s_cv1 C dX9_as_55 (okX9_found l) cls_X9 wd_405 wd_407 wd_0 wd_75 wd_408 ⟨by decide, by decide, by decide +kernel⟩ ⟨by decide, by decide⟩ (s_iret C dX9_as_58 hr hlocks))))))))))) (s_ldc C dX9_as_37 (v := -1000001) wd_404 ⟨by decide, by decide⟩ (s_iret C dX9_as_39 hr hlocks)))))))))))))))))))
theorem okX9_as (l : Launch) : z_OK l yX9_as cX9_as 4 (some .int) 4 90 SX9_as := by
  refine z_ok_of true (by decide +kernel) ?_ ?_
  · intro as σ Ret h
    obtain ⟨k0, x1, x2, x3, rfl⟩ := pX9_as h
    exact ⟨Nat.le_of_ble_eq_true rfl, by simp⟩
  · intro p e s m args below meth c D cA ad Ret C hr hlocks as σ has hσ h
    obtain ⟨k0, x1, x2, x3, rfl⟩ := pX9_as h
    exact vX9_as (rX9_as_0 C hr hlocks) k0 x1 x2 x3 σ (has _ (List.mem_of_getElem? (i := 0) rfl)) (has _ (List.mem_of_getElem? (i := 1) rfl)) (has _ (List.mem_of_getElem? (i := 2) rfl)) (has _ (List.mem_of_getElem? (i := 3) rfl)) hσ h
