/-! more that the model answers -/
def SX10_tree : zS := fun as σ Ret => match as with
  | [.inr (.inr (10, 0, _)), .inl t, .inl w] => q_S10 (q_gTree t w) q_fId σ Ret
  | _ => False
def tX10_tree_0 (X : Nat → zB) (Ret : zR) (L : zL) (st : List zV) (σ : zM) : Prop := (z_aload 0 (z_push 0 (z_puti 10 0 (z_aload 0 (z_iload 1 (z_cv1 10 SX10_isTree (z_ifeq (z_push (-1000001) (z_iret Ret)) (z_iload 2 (z_i2l (z_lpush 0 (z_lpush 6 (z_cs3 SX10_in (z_ifne (z_aload 0 (z_cv0 10 SX10_layLengths (z_iload 2 (z_push 6 (z_icge (z_aload 0 (z_iload 1 (z_cv1 10 SX10_tone (z_iret Ret)))) (z_aload 0 (z_iload 1 (z_iload 2 (z_cv2 10 SX10_of (z_goto (z_iret Ret))))))))))) (z_push (-1000001) (z_iret Ret))))))))))))))) L st σ
theorem pX10_tree {as : List zV} {σ : zM} {Ret : zR} (h : SX10_tree as σ Ret) : ∃ (k0 : Nat) (x1 : Int) (x2 : Int), as = [.inr (.inr (10, 0, k0)), .inl x1, .inl x2] := by
  unfold SX10_tree at h
  split at h
  · exact ⟨_, _, _, rfl⟩
  · exact h.elim
set_option maxRecDepth 10000 in
set_option maxHeartbeats 4000000 in
theorem vX10_tree {X : Nat → zB} {Ret : zR} (h0 : ∀ L st σ, tX10_tree_0 X Ret L st σ → X 0 L st σ) (k0 : Nat) (x1 : Int) (x2 : Int) (σ : zM) (hk0 : z_kd k0 = (10, 0)) (hx1 : -2147483648 ≤ x1 ∧ x1 ≤ 2147483647) (hx2 : -2147483648 ≤ x2 ∧ x2 ≤ 2147483647) (hσ : z_okm σ) (h : SX10_tree [.inr (.inr (10, 0, k0)), .inl x1, .inl x2] σ Ret) : X 0 [some (.inr (.inr (10, 0, k0))), some (.inl x1), some (.inl x2)] [] σ := by
  obtain ⟨m, h⟩ := h
  obtain rfl := z_kd10 hk0
  have K := m.2.1.1
  have K0 := K.1.1
  have e0 : z_up σ 89 0 0 93 0 = σ 93 0 := z_up_ne (by omega)
  by_cases c : ¬ ((0 ≤ x1 ∧ x1 < σ 93 0) ∧ 0 ≤ x2 ∧ x2 ≤ 6)
  · have fin := h (z_up σ 89 0 0) q_th.1 q_th.2
    simp only [q_gTree, if_pos c] at fin
    refine h0 _ _ _ ?_
    simp only [z_push, z_lpush, z_iload, z_lload, z_aload, z_istore, z_istoreP, z_lstore, z_astore, z_iinc, z_iincP, z_iadd, z_isub, z_imul, z_iaddW, z_isubW, z_imulW, z_idiv, z_irem, z_iand, z_ior, z_ixor, z_ishl, z_ishr, z_iushr, z_ineg, z_i2l, z_i2b, z_i2s, z_i2c, z_l2i, z_ladd, z_lsub, z_land, z_lor, z_lshl, z_lshr, z_lcmp, z_dup, z_pop, z_dup2, z_goto, z_tsw, z_cases, z_geti, z_getr, z_puti, z_putz, z_ald, z_iast, z_bast, z_zast, z_alen, z_acopy, z_mmax, z_mmin, z_mabs, z_mabsL, z_iret, z_zret, z_nret, z_lret, z_aret, z_vret, z_cat, z_ldcs, z_strv, z_strc, z_gcs, z_gfm, z_sln, z_sald, z_ifeq, z_ifne, z_iflt, z_ifge, z_ifgt, z_ifle, z_iceq, z_icne, z_iclt, z_icge, z_icgt, z_icle, z_cs0, z_cs1, z_cs2, z_cs3, z_cs4, z_cs5, z_cs6, z_cs7, z_cv0, z_cv1, z_cv2, z_cv3, z_cv4, z_cv5, z_cv6, z_cv7, z_g0, z_s0, z_g1, z_s1, z_g2, z_s2, z_g3, z_s3, z_g4, z_s4, z_g5, z_s5, z_g6, z_s6, z_g7, z_s7, z_g8, z_s8, z_g9, z_s9, z_g10, z_s10, z_g11, z_s11, z_g12, z_s12, z_g13, z_s13, z_b0, z_b1, z_b0n, z_b1n, z_up_far1, z_up_far2, z_up_far3, z_up_far4, z_up_far5, z_up_far6, Classical.not_not, not_true_eq_false, z_in, z_inL, Int.cast_ofNat_Int, Nat.reduceLeDiff, List.length_cons, List.length_nil, Nat.reduceAdd, Nat.zero_add, Nat.le_refl, true_and, and_true, List.length, Nat.reduceLT, true_or, or_true, false_or, or_false, false_and, and_false, not_true_eq_false, not_false_eq_true, forall_const, false_implies, true_implies, Int.reduceEq, Int.reduceLT, Int.reduceLE, Int.reduceAdd, Int.reduceSub, Int.reduceMul, Int.reduceNeg, Int.reduceToNat, Int.toNat_natCast, ↓reduceIte, reduceIte, Nat.reduceEqDiff, Nat.reduceSub, Nat.reduceMul, ne_eq, Int.zero_add, Int.add_zero, Int.sub_zero, Nat.add_zero, Int.ofNat_eq_natCast, tX10_tree_0, SX10_isTree, SX10_in, e0]
    repeat' (first | (intro _) | (with_reducible assumption) | (refine And.intro ?_ ?_))
    all_goals first | omega | assumption | (refine z_fin fin ?_ rfl; first | rfl | omega | (split <;> omega) | (split <;> split <;> omega)) | skip
  obtain ⟨t, rfl⟩ := z_nat (show 0 ≤ x1 by omega)
  obtain ⟨w, rfl⟩ := z_nat (show 0 ≤ x2 by omega)
  have key : ∀ σ1 : zM, (∀ c j, c ≠ 98 → σ1 c j = z_up σ 89 0 0 c j) → Ret (some (.inl (q_gTree t w σ))) σ1 := by
    intro σ1 f1
    refine h σ1 (fun c hc => funext fun j => by rw [f1 c j (by omega), z_up_ne (by omega)]) (fun c j hc => ?_)
    unfold q_last at hc
    rw [f1 c j (by omega), z_up_ne (by omega)]
    rfl
  refine h0 _ _ _ ?_
  simp only [z_push, z_lpush, z_iload, z_lload, z_aload, z_istore, z_istoreP, z_lstore, z_astore, z_iinc, z_iincP, z_iadd, z_isub, z_imul, z_iaddW, z_isubW, z_imulW, z_idiv, z_irem, z_iand, z_ior, z_ixor, z_ishl, z_ishr, z_iushr, z_ineg, z_i2l, z_i2b, z_i2s, z_i2c, z_l2i, z_ladd, z_lsub, z_land, z_lor, z_lshl, z_lshr, z_lcmp, z_dup, z_pop, z_dup2, z_goto, z_tsw, z_cases, z_geti, z_getr, z_puti, z_putz, z_ald, z_iast, z_bast, z_zast, z_alen, z_acopy, z_mmax, z_mmin, z_mabs, z_mabsL, z_iret, z_zret, z_nret, z_lret, z_aret, z_vret, z_cat, z_ldcs, z_strv, z_strc, z_gcs, z_gfm, z_sln, z_sald, z_ifeq, z_ifne, z_iflt, z_ifge, z_ifgt, z_ifle, z_iceq, z_icne, z_iclt, z_icge, z_icgt, z_icle, z_cs0, z_cs1, z_cs2, z_cs3, z_cs4, z_cs5, z_cs6, z_cs7, z_cv0, z_cv1, z_cv2, z_cv3, z_cv4, z_cv5, z_cv6, z_cv7, z_g0, z_s0, z_g1, z_s1, z_g2, z_s2, z_g3, z_s3, z_g4, z_s4, z_g5, z_s5, z_g6, z_s6, z_g7, z_s7, z_g8, z_s8, z_g9, z_s9, z_g10, z_s10, z_g11, z_s11, z_g12, z_s12, z_g13, z_s13, z_b0, z_b1, z_b0n, z_b1n, z_up_far1, z_up_far2, z_up_far3, z_up_far4, z_up_far5, z_up_far6, Classical.not_not, not_true_eq_false, z_in, z_inL, Int.cast_ofNat_Int, Nat.reduceLeDiff, List.length_cons, List.length_nil, Nat.reduceAdd, Nat.zero_add, Nat.le_refl, true_and, and_true, List.length, Nat.reduceLT, true_or, or_true, false_or, or_false, false_and, and_false, not_true_eq_false, not_false_eq_true, forall_const, false_implies, true_implies, Int.reduceEq, Int.reduceLT, Int.reduceLE, Int.reduceAdd, Int.reduceSub, Int.reduceMul, Int.reduceNeg, Int.reduceToNat, Int.toNat_natCast, ↓reduceIte, reduceIte, Nat.reduceEqDiff, Nat.reduceSub, Nat.reduceMul, ne_eq, Int.zero_add, Int.add_zero, Int.sub_zero, Nat.add_zero, Int.ofNat_eq_natCast, tX10_tree_0, SX10_isTree, SX10_in, SX10_layLengths, SX10_of, SX10_tone, e0]
  refine ⟨by omega, fun e => absurd e (by omega), fun _ => ⟨fun _ σ1 f1 f2 => ?_, fun e => absurd e (by omega)⟩⟩
  have k := key σ1 f1
  have e93 : ∀ j, σ1 93 j = σ 93 j := fun j => by rw [f1 93 j (by omega), z_up_ne (by omega)]
  have e98 : σ1 98 t = σ 93 (6 + 6 * t + 0) := by rw [f2 t (by omega), z_up_ne (by omega)]; rfl
  have q := K.2.1 t (by omega)
  unfold q_gTree at k
  rw [if_neg c, Int.toNat_natCast, Int.toNat_natCast] at k
  rw [e98, e93, e93, e93]
  refine ⟨fun e => ⟨by omega, ?_⟩, fun e => ⟨by omega, ?_⟩⟩
  · rw [if_neg (by omega)] at k
    exact k
  · rw [if_pos (by omega)] at k
    exact k
theorem dX10_tree_0 : decode cX10_tree 0 = .ok (.aload_n 0, 1) := by decide +kernel
theorem dX10_tree_1 : decode cX10_tree 1 = .ok (.iconst 0, 1) := by decide +kernel
theorem dX10_tree_2 : decode cX10_tree 2 = .ok (.putfield 65, 3) := by decide +kernel
theorem dX10_tree_5 : decode cX10_tree 5 = .ok (.aload_n 0, 1) := by decide +kernel
theorem dX10_tree_6 : decode cX10_tree 6 = .ok (.iload_n 1, 1) := by decide +kernel
theorem dX10_tree_7 : decode cX10_tree 7 = .ok (.invokevirtual 238, 3) := by decide +kernel
theorem dX10_tree_10 : decode cX10_tree 10 = .ok (.ifCond .eq 15, 3) := by decide +kernel
theorem dX10_tree_13 : decode cX10_tree 13 = .ok (.iload_n 2, 1) := by decide +kernel
theorem dX10_tree_14 : decode cX10_tree 14 = .ok (.i2l, 1) := by decide +kernel
theorem dX10_tree_15 : decode cX10_tree 15 = .ok (.lconst 0, 1) := by decide +kernel
theorem dX10_tree_16 : decode cX10_tree 16 = .ok (.ldc2_w 241, 3) := by decide +kernel
theorem dX10_tree_19 : decode cX10_tree 19 = .ok (.invokestatic 75, 3) := by decide +kernel
theorem dX10_tree_22 : decode cX10_tree 22 = .ok (.ifCond .ne 6, 3) := by decide +kernel
theorem dX10_tree_25 : decode cX10_tree 25 = .ok (.ldc 85, 2) := by decide +kernel
theorem dX10_tree_27 : decode cX10_tree 27 = .ok (.ireturn, 1) := by decide +kernel
theorem dX10_tree_28 : decode cX10_tree 28 = .ok (.aload_n 0, 1) := by decide +kernel
theorem dX10_tree_29 : decode cX10_tree 29 = .ok (.invokevirtual 232, 3) := by decide +kernel
theorem dX10_tree_32 : decode cX10_tree 32 = .ok (.iload_n 2, 1) := by decide +kernel
theorem dX10_tree_33 : decode cX10_tree 33 = .ok (.bipush 6, 2) := by decide +kernel
theorem dX10_tree_35 : decode cX10_tree 35 = .ok (.if_icmp .ge 12, 3) := by decide +kernel
theorem dX10_tree_38 : decode cX10_tree 38 = .ok (.aload_n 0, 1) := by decide +kernel
theorem dX10_tree_39 : decode cX10_tree 39 = .ok (.iload_n 1, 1) := by decide +kernel
theorem dX10_tree_40 : decode cX10_tree 40 = .ok (.iload_n 2, 1) := by decide +kernel
theorem dX10_tree_41 : decode cX10_tree 41 = .ok (.invokevirtual 227, 3) := by decide +kernel
theorem dX10_tree_44 : decode cX10_tree 44 = .ok (.goto 8, 3) := by decide +kernel
theorem dX10_tree_47 : decode cX10_tree 47 = .ok (.aload_n 0, 1) := by decide +kernel
theorem dX10_tree_48 : decode cX10_tree 48 = .ok (.iload_n 1, 1) := by decide +kernel
theorem dX10_tree_49 : decode cX10_tree 49 = .ok (.invokevirtual 243, 3) := by decide +kernel
theorem dX10_tree_52 : decode cX10_tree 52 = .ok (.ireturn, 1) := by decide +kernel
set_option maxRecDepth 100000 in
theorem rX10_tree_0 {p : Program} {l : Launch} {e : Env} {s : State} {m : MethodId} {args : Array Value} {below : List Frame} {meth : Method} {c : Code} {D : va_G} {cA : Nat → ClassId} {ad : Nat → Nat} {Ret : zR} (C : z_Cx p { frames := 2, cells := 0, slots := 0, locals := 46 } s m args c cX10_tree yX10_tree.cls 3 D cA ad) (hr : meth.sig.returnType = (some .int)) (hlocks : meth.locks = false) : ∀ L st σ, tX10_tree_0 (z_X p l e { frames := 2, cells := 0, slots := 0, locals := 46 } s m args below meth c (MQ below (z_Qc D cA ad Ret) args s 0 0 (z_A ad)) 3 D cA ad true) Ret L st σ → z_X p l e { frames := 2, cells := 0, slots := 0, locals := 46 } s m args below meth c (MQ below (z_Qc D cA ad Ret) args s 0 0 (z_A ad)) 3 D cA ad true 0 L st σ := (s_aload_n C dX10_tree_0 rfl (s_iconst C dX10_tree_1 rfl ⟨by decide, by decide⟩ (s_puti C dX10_tree_2 cls_X10 (by decide) rfl wd_968 rfl rfl (s_aload_n C dX10_tree_5 rfl (s_iload_n C dX10_tree_6 rfl (s_cv1 C dX10_tree_7 (okX10_isTree l) cls_X10 wd_1244 wd_1246 wd_57 wd_85 wd_1247 ⟨by decide, by decide, by decide +kernel⟩ ⟨by decide, by decide⟩ (s_ifeq C dX10_tree_10 (by decide) (s_ldc C dX10_tree_25 (v := -1000001) wd_1086 ⟨by decide, by decide⟩ (s_iret C dX10_tree_27 hr hlocks)) (s_iload_n C dX10_tree_13 rfl (s_i2l C dX10_tree_14 (s_lconst C dX10_tree_15 (v := 0) rfl ⟨by decide, by decide⟩ (s_ldc2 C dX10_tree_16 (v := 6) wd_1248 ⟨by decide, by decide⟩ (s_cs3 C dX10_tree_19 (okX10_in l) wd_1082 wd_1083 wd_85 wd_1084 ⟨by decide, by decide, by decide +kernel⟩ ⟨by decide, by decide⟩ (s_ifne C dX10_tree_22 (by decide) (s_aload_n C dX10_tree_28 rfl (s_cv0 C dX10_tree_29 (okX10_layLengths l) cls_X10 wd_1228 wd_1230 wd_54 wd_85 wd_1231 ⟨by decide, by decide, by decide +kernel⟩ ⟨by decide, by decide⟩ (s_iload_n C dX10_tree_32 rfl (s_bipush C dX10_tree_33 rfl ⟨by decide, by decide⟩ (s_icge C dX10_tree_35 (by decide) (s_aload_n C dX10_tree_47 rfl (s_iload_n C dX10_tree_48 rfl (s_cv1 C dX10_tree_49 (okX10_tone l) cls_X10 wd_1249 wd_1251 wd_58 wd_85 wd_1252 ⟨by decide, by decide, by decide +kernel⟩ ⟨by decide, by decide⟩ (s_iret C dX10_tree_52 hr hlocks)))) (s_aload_n C dX10_tree_38 rfl (s_iload_n C dX10_tree_39 rfl (s_iload_n C dX10_tree_40 rfl (s_cv2 C dX10_tree_41 (okX10_of l) cls_X10 wd_1232 wd_1234 wd_55 wd_85 wd_1235 ⟨by decide, by decide, by decide +kernel⟩ ⟨by decide, by decide⟩ (s_goto C dX10_tree_44 (by decide) (s_iret C dX10_tree_52 hr hlocks))))))))))) (s_ldc C dX10_tree_25 (v := -1000001) wd_1086 ⟨by decide, by decide⟩ (s_iret C dX10_tree_27 hr hlocks)))))))))))))))
theorem okX10_tree (l : Launch) : z_OK l yX10_tree cX10_tree 3 (some .int) 2 46 SX10_tree := by
  refine z_ok_of true (by decide +kernel) ?_ ?_
  · intro as σ Ret h
    obtain ⟨k0, x1, x2, rfl⟩ := pX10_tree h
    exact ⟨Nat.le_of_ble_eq_true rfl, by simp⟩
  · intro p e s m args below meth c D cA ad Ret C hr hlocks as σ has hσ h
    obtain ⟨k0, x1, x2, rfl⟩ := pX10_tree h
    exact vX10_tree (rX10_tree_0 C hr hlocks) k0 x1 x2 σ (has _ (List.mem_of_getElem? (i := 0) rfl)) (has _ (List.mem_of_getElem? (i := 1) rfl)) (has _ (List.mem_of_getElem? (i := 2) rfl)) hσ h
/-! rows made in the model -/
def SX10_row : zS := fun as σ Ret => match as with
  | [.inr (.inr (10, 0, _)), .inl r, .inl l, .inl n] => q_S10 (q_gRow r l n) (q_fRow r l n) σ Ret
  | _ => False
def tX10_row_0 (X : Nat → zB) (Ret : zR) (L : zL) (st : List zV) (σ : zM) : Prop := (z_aload 0 (z_push 0 (z_puti 10 0 (z_iload 1 (z_cs1 SX10_isRow (z_ifeq (z_push (-1000001) (z_iret Ret)) (z_iload 2 (z_i2l (z_lpush 0 (z_lpush 2 (z_cs3 SX10_in (z_ifeq (z_push (-1000001) (z_iret Ret)) (z_iload 3 (z_push 40 (z_icle (z_aload 0 (z_push 0 (z_puti 10 1 (z_iload 3 (z_ifge (z_aload 0 (z_getr 10 1 100 8 (z_iload 1 (z_iload 2 (z_iast (z_aload 0 (z_getr 10 2 100 8 (z_iload 1 (z_iload 3 (z_iast (z_push 0 (z_istore 4 (X 65))))))))))))) (z_aload 0 (z_push 4 (z_cv1 10 SX10_finding (z_iret Ret))))))))) (z_push (-1000001) (z_iret Ret))))))))))))))))) L st σ
def tX10_row_65 (X : Nat → zB) (Ret : zR) (L : zL) (st : List zV) (σ : zM) : Prop := (z_iload 4 (z_push 40 (z_icge (z_iload 3 (z_iret Ret)) (z_aload 0 (z_getr 10 3 100 320 (z_push 40 (z_iload 1 (z_imul (z_iload 4 (z_iadd (z_push 0 (z_iast (z_iinc 4 1 (z_goto (X 65))))))))))))))) L st σ
theorem pX10_row {as : List zV} {σ : zM} {Ret : zR} (h : SX10_row as σ Ret) : ∃ (k0 : Nat) (x1 : Int) (x2 : Int) (x3 : Int), as = [.inr (.inr (10, 0, k0)), .inl x1, .inl x2, .inl x3] := by
  unfold SX10_row at h
  split at h
  · exact ⟨_, _, _, _, rfl⟩
  · exact h.elim
set_option maxRecDepth 10000 in
set_option maxHeartbeats 4000000 in
theorem vX10_row {X : Nat → zB} {Ret : zR} (h0 : ∀ L st σ, tX10_row_0 X Ret L st σ → X 0 L st σ) (h65 : ∀ L st σ, tX10_row_65 X Ret L st σ → X 65 L st σ) (k0 : Nat) (x1 : Int) (x2 : Int) (x3 : Int) (σ : zM) (hk0 : z_kd k0 = (10, 0)) (hx1 : -2147483648 ≤ x1 ∧ x1 ≤ 2147483647) (hx2 : -2147483648 ≤ x2 ∧ x2 ≤ 2147483647) (hx3 : -2147483648 ≤ x3 ∧ x3 ≤ 2147483647) (hσ : z_okm σ) (h : SX10_row [.inr (.inr (10, 0, k0)), .inl x1, .inl x2, .inl x3] σ Ret) : X 0 [some (.inr (.inr (10, 0, k0))), some (.inl x1), some (.inl x2), some (.inl x3), none] [] σ := by
  obtain ⟨m, h⟩ := h
  obtain rfl := z_kd10 hk0
  by_cases c1 : ¬ ((0 ≤ x1 ∧ x1 < 8) ∧ (0 ≤ x2 ∧ x2 ≤ 2) ∧ x3 ≤ 40)
  · have fin := h (z_up σ 89 0 0) q_th.1 (by unfold q_fRow; rw [if_pos c1]; exact q_th.2)
    simp only [q_gRow, if_pos c1] at fin
    refine h0 _ _ _ ?_
    simp only [z_push, z_lpush, z_iload, z_lload, z_aload, z_istore, z_istoreP, z_lstore, z_astore, z_iinc, z_iincP, z_iadd, z_isub, z_imul, z_iaddW, z_isubW, z_imulW, z_idiv, z_irem, z_iand, z_ior, z_ixor, z_ishl, z_ishr, z_iushr, z_ineg, z_i2l, z_i2b, z_i2s, z_i2c, z_l2i, z_ladd, z_lsub, z_land, z_lor, z_lshl, z_lshr, z_lcmp, z_dup, z_pop, z_dup2, z_goto, z_tsw, z_cases, z_geti, z_getr, z_puti, z_putz, z_ald, z_iast, z_bast, z_zast, z_alen, z_acopy, z_mmax, z_mmin, z_mabs, z_mabsL, z_iret, z_zret, z_nret, z_lret, z_aret, z_vret, z_cat, z_ldcs, z_strv, z_strc, z_gcs, z_gfm, z_sln, z_sald, z_ifeq, z_ifne, z_iflt, z_ifge, z_ifgt, z_ifle, z_iceq, z_icne, z_iclt, z_icge, z_icgt, z_icle, z_cs0, z_cs1, z_cs2, z_cs3, z_cs4, z_cs5, z_cs6, z_cs7, z_cv0, z_cv1, z_cv2, z_cv3, z_cv4, z_cv5, z_cv6, z_cv7, z_g0, z_s0, z_g1, z_s1, z_g2, z_s2, z_g3, z_s3, z_g4, z_s4, z_g5, z_s5, z_g6, z_s6, z_g7, z_s7, z_g8, z_s8, z_g9, z_s9, z_g10, z_s10, z_g11, z_s11, z_g12, z_s12, z_g13, z_s13, z_b0, z_b1, z_b0n, z_b1n, z_up_far1, z_up_far2, z_up_far3, z_up_far4, z_up_far5, z_up_far6, Classical.not_not, not_true_eq_false, z_in, z_inL, Int.cast_ofNat_Int, Nat.reduceLeDiff, List.length_cons, List.length_nil, Nat.reduceAdd, Nat.zero_add, Nat.le_refl, true_and, and_true, List.length, Nat.reduceLT, true_or, or_true, false_or, or_false, false_and, and_false, not_true_eq_false, not_false_eq_true, forall_const, false_implies, true_implies, Int.reduceEq, Int.reduceLT, Int.reduceLE, Int.reduceAdd, Int.reduceSub, Int.reduceMul, Int.reduceNeg, Int.reduceToNat, Int.toNat_natCast, ↓reduceIte, reduceIte, Nat.reduceEqDiff, Nat.reduceSub, Nat.reduceMul, ne_eq, Int.zero_add, Int.add_zero, Int.sub_zero, Nat.add_zero, Int.ofNat_eq_natCast, tX10_row_0, SX10_isRow, SX10_in]
    repeat' (first | (intro _) | (with_reducible assumption) | (refine And.intro ?_ ?_))
    all_goals first | omega | assumption | (refine z_fin fin ?_ rfl; first | rfl | omega | (split <;> omega) | (split <;> split <;> omega)) | skip
  by_cases c2 : x3 < 0
  · have fin := h (z_up (z_up (z_up σ 89 0 0) 89 1 0) 89 1 4) q_th2.1 (by unfold q_fRow; rw [if_neg c1, if_pos c2]; exact q_th2.2)
    simp only [q_gRow, if_neg c1, if_pos c2] at fin
    refine h0 _ _ _ ?_
    simp only [z_push, z_lpush, z_iload, z_lload, z_aload, z_istore, z_istoreP, z_lstore, z_astore, z_iinc, z_iincP, z_iadd, z_isub, z_imul, z_iaddW, z_isubW, z_imulW, z_idiv, z_irem, z_iand, z_ior, z_ixor, z_ishl, z_ishr, z_iushr, z_ineg, z_i2l, z_i2b, z_i2s, z_i2c, z_l2i, z_ladd, z_lsub, z_land, z_lor, z_lshl, z_lshr, z_lcmp, z_dup, z_pop, z_dup2, z_goto, z_tsw, z_cases, z_geti, z_getr, z_puti, z_putz, z_ald, z_iast, z_bast, z_zast, z_alen, z_acopy, z_mmax, z_mmin, z_mabs, z_mabsL, z_iret, z_zret, z_nret, z_lret, z_aret, z_vret, z_cat, z_ldcs, z_strv, z_strc, z_gcs, z_gfm, z_sln, z_sald, z_ifeq, z_ifne, z_iflt, z_ifge, z_ifgt, z_ifle, z_iceq, z_icne, z_iclt, z_icge, z_icgt, z_icle, z_cs0, z_cs1, z_cs2, z_cs3, z_cs4, z_cs5, z_cs6, z_cs7, z_cv0, z_cv1, z_cv2, z_cv3, z_cv4, z_cv5, z_cv6, z_cv7, z_g0, z_s0, z_g1, z_s1, z_g2, z_s2, z_g3, z_s3, z_g4, z_s4, z_g5, z_s5, z_g6, z_s6, z_g7, z_s7, z_g8, z_s8, z_g9, z_s9, z_g10, z_s10, z_g11, z_s11, z_g12, z_s12, z_g13, z_s13, z_b0, z_b1, z_b0n, z_b1n, z_up_far1, z_up_far2, z_up_far3, z_up_far4, z_up_far5, z_up_far6, Classical.not_not, not_true_eq_false, z_in, z_inL, Int.cast_ofNat_Int, Nat.reduceLeDiff, List.length_cons, List.length_nil, Nat.reduceAdd, Nat.zero_add, Nat.le_refl, true_and, and_true, List.length, Nat.reduceLT, true_or, or_true, false_or, or_false, false_and, and_false, not_true_eq_false, not_false_eq_true, forall_const, false_implies, true_implies, Int.reduceEq, Int.reduceLT, Int.reduceLE, Int.reduceAdd, Int.reduceSub, Int.reduceMul, Int.reduceNeg, Int.reduceToNat, Int.toNat_natCast, ↓reduceIte, reduceIte, Nat.reduceEqDiff, Nat.reduceSub, Nat.reduceMul, ne_eq, Int.zero_add, Int.add_zero, Int.sub_zero, Nat.add_zero, Int.ofNat_eq_natCast, tX10_row_0, SX10_isRow, SX10_in, SX10_finding]
    repeat' (first | (intro _) | (with_reducible assumption) | (refine And.intro ?_ ?_))
    all_goals first | omega | assumption | (refine z_fin fin ?_ rfl; first | rfl | omega | (split <;> omega) | (split <;> split <;> omega)) | skip
  obtain ⟨r, rfl⟩ := z_nat (show 0 ≤ x1 by omega)
  obtain ⟨n, rfl⟩ := z_nat (show 0 ≤ x3 by omega)
  generalize hb : z_up (z_up (z_up (z_up σ 89 0 0) 89 1 0) 90 r x2) 91 r (n : Int) = B
  have fin := h (z_fill B 92 (40 * r) 40 0) (fun c hc => funext fun j => by subst hb; simp only [z_fill, z_up]; simp (disch := omega) only [if_neg]) (fun a j hc => by
    subst hb
    unfold q_fRow
    rw [if_neg c1, if_neg c2, Int.toNat_natCast]
    unfold q_last at hc
    simp only [z_fill, z_up]
    rw [if_neg (show ¬ (a = 89 ∧ j = 0) by omega)])
  simp only [q_gRow, if_neg c1, if_neg c2] at fin
  have L65 : ∀ (d i : Nat), i + d = 40 → X 65 [some (.inr (.inr (10, 0, 89))), some (.inl (r : Int)), some (.inl x2), some (.inl (n : Int)), some (.inl (i : Int))] [] (z_fill B 92 (40 * r) i 0) := by
    intro d
    induction d with
    | zero =>
      intro i hi
      obtain rfl : i = 40 := by omega
      refine h65 _ _ _ ?_
      simp only [z_push, z_lpush, z_iload, z_lload, z_aload, z_istore, z_istoreP, z_lstore, z_astore, z_iinc, z_iincP, z_iadd, z_isub, z_imul, z_iaddW, z_isubW, z_imulW, z_idiv, z_irem, z_iand, z_ior, z_ixor, z_ishl, z_ishr, z_iushr, z_ineg, z_i2l, z_i2b, z_i2s, z_i2c, z_l2i, z_ladd, z_lsub, z_land, z_lor, z_lshl, z_lshr, z_lcmp, z_dup, z_pop, z_dup2, z_goto, z_tsw, z_cases, z_geti, z_getr, z_puti, z_putz, z_ald, z_iast, z_bast, z_zast, z_alen, z_acopy, z_mmax, z_mmin, z_mabs, z_mabsL, z_iret, z_zret, z_nret, z_lret, z_aret, z_vret, z_cat, z_ldcs, z_strv, z_strc, z_gcs, z_gfm, z_sln, z_sald, z_ifeq, z_ifne, z_iflt, z_ifge, z_ifgt, z_ifle, z_iceq, z_icne, z_iclt, z_icge, z_icgt, z_icle, z_cs0, z_cs1, z_cs2, z_cs3, z_cs4, z_cs5, z_cs6, z_cs7, z_cv0, z_cv1, z_cv2, z_cv3, z_cv4, z_cv5, z_cv6, z_cv7, z_g0, z_s0, z_g1, z_s1, z_g2, z_s2, z_g3, z_s3, z_g4, z_s4, z_g5, z_s5, z_g6, z_s6, z_g7, z_s7, z_g8, z_s8, z_g9, z_s9, z_g10, z_s10, z_g11, z_s11, z_g12, z_s12, z_g13, z_s13, z_b0, z_b1, z_b0n, z_b1n, z_up_far1, z_up_far2, z_up_far3, z_up_far4, z_up_far5, z_up_far6, Classical.not_not, not_true_eq_false, z_in, z_inL, Int.cast_ofNat_Int, Nat.reduceLeDiff, List.length_cons, List.length_nil, Nat.reduceAdd, Nat.zero_add, Nat.le_refl, true_and, and_true, List.length, Nat.reduceLT, true_or, or_true, false_or, or_false, false_and, and_false, not_true_eq_false, not_false_eq_true, forall_const, false_implies, true_implies, Int.reduceEq, Int.reduceLT, Int.reduceLE, Int.reduceAdd, Int.reduceSub, Int.reduceMul, Int.reduceNeg, Int.reduceToNat, Int.toNat_natCast, ↓reduceIte, reduceIte, Nat.reduceEqDiff, Nat.reduceSub, Nat.reduceMul, ne_eq, Int.zero_add, Int.add_zero, Int.sub_zero, Nat.add_zero, Int.ofNat_eq_natCast, tX10_row_65]
      repeat' (first | (intro _) | (with_reducible assumption) | (refine And.intro ?_ ?_))
      all_goals first | omega | assumption | (refine z_fin fin ?_ rfl; first | rfl | omega | (split <;> omega) | (split <;> split <;> omega)) | skip
    | succ d ih =>
      intro i hi
      have nx := ih (i + 1) (by omega)
      rw [← z_fill_S] at nx
      have e : (40 * (r : Int) + (i : Int)).toNat = 40 * r + i := by omega
      refine h65 _ _ _ ?_
      simp only [z_push, z_lpush, z_iload, z_lload, z_aload, z_istore, z_istoreP, z_lstore, z_astore, z_iinc, z_iincP, z_iadd, z_isub, z_imul, z_iaddW, z_isubW, z_imulW, z_idiv, z_irem, z_iand, z_ior, z_ixor, z_ishl, z_ishr, z_iushr, z_ineg, z_i2l, z_i2b, z_i2s, z_i2c, z_l2i, z_ladd, z_lsub, z_land, z_lor, z_lshl, z_lshr, z_lcmp, z_dup, z_pop, z_dup2, z_goto, z_tsw, z_cases, z_geti, z_getr, z_puti, z_putz, z_ald, z_iast, z_bast, z_zast, z_alen, z_acopy, z_mmax, z_mmin, z_mabs, z_mabsL, z_iret, z_zret, z_nret, z_lret, z_aret, z_vret, z_cat, z_ldcs, z_strv, z_strc, z_gcs, z_gfm, z_sln, z_sald, z_ifeq, z_ifne, z_iflt, z_ifge, z_ifgt, z_ifle, z_iceq, z_icne, z_iclt, z_icge, z_icgt, z_icle, z_cs0, z_cs1, z_cs2, z_cs3, z_cs4, z_cs5, z_cs6, z_cs7, z_cv0, z_cv1, z_cv2, z_cv3, z_cv4, z_cv5, z_cv6, z_cv7, z_g0, z_s0, z_g1, z_s1, z_g2, z_s2, z_g3, z_s3, z_g4, z_s4, z_g5, z_s5, z_g6, z_s6, z_g7, z_s7, z_g8, z_s8, z_g9, z_s9, z_g10, z_s10, z_g11, z_s11, z_g12, z_s12, z_g13, z_s13, z_b0, z_b1, z_b0n, z_b1n, z_up_far1, z_up_far2, z_up_far3, z_up_far4, z_up_far5, z_up_far6, Classical.not_not, not_true_eq_false, z_in, z_inL, Int.cast_ofNat_Int, Nat.reduceLeDiff, List.length_cons, List.length_nil, Nat.reduceAdd, Nat.zero_add, Nat.le_refl, true_and, and_true, List.length, Nat.reduceLT, true_or, or_true, false_or, or_false, false_and, and_false, not_true_eq_false, not_false_eq_true, forall_const, false_implies, true_implies, Int.reduceEq, Int.reduceLT, Int.reduceLE, Int.reduceAdd, Int.reduceSub, Int.reduceMul, Int.reduceNeg, Int.reduceToNat, Int.toNat_natCast, ↓reduceIte, reduceIte, Nat.reduceEqDiff, Nat.reduceSub, Nat.reduceMul, ne_eq, Int.zero_add, Int.add_zero, Int.sub_zero, Nat.add_zero, Int.ofNat_eq_natCast, tX10_row_65, e]
      repeat' (first | (intro _) | (with_reducible assumption) | (refine And.intro ?_ ?_))
      all_goals first | omega | assumption | (refine z_fin nx ?_ rfl; first | rfl | omega | (split <;> omega) | (split <;> split <;> omega)) | skip
  have nx := L65 40 0 (by omega)
  rw [z_fill_0, ← hb] at nx
  refine h0 _ _ _ ?_
  simp only [z_push, z_lpush, z_iload, z_lload, z_aload, z_istore, z_istoreP, z_lstore, z_astore, z_iinc, z_iincP, z_iadd, z_isub, z_imul, z_iaddW, z_isubW, z_imulW, z_idiv, z_irem, z_iand, z_ior, z_ixor, z_ishl, z_ishr, z_iushr, z_ineg, z_i2l, z_i2b, z_i2s, z_i2c, z_l2i, z_ladd, z_lsub, z_land, z_lor, z_lshl, z_lshr, z_lcmp, z_dup, z_pop, z_dup2, z_goto, z_tsw, z_cases, z_geti, z_getr, z_puti, z_putz, z_ald, z_iast, z_bast, z_zast, z_alen, z_acopy, z_mmax, z_mmin, z_mabs, z_mabsL, z_iret, z_zret, z_nret, z_lret, z_aret, z_vret, z_cat, z_ldcs, z_strv, z_strc, z_gcs, z_gfm, z_sln, z_sald, z_ifeq, z_ifne, z_iflt, z_ifge, z_ifgt, z_ifle, z_iceq, z_icne, z_iclt, z_icge, z_icgt, z_icle, z_cs0, z_cs1, z_cs2, z_cs3, z_cs4, z_cs5, z_cs6, z_cs7, z_cv0, z_cv1, z_cv2, z_cv3, z_cv4, z_cv5, z_cv6, z_cv7, z_g0, z_s0, z_g1, z_s1, z_g2, z_s2, z_g3, z_s3, z_g4, z_s4, z_g5, z_s5, z_g6, z_s6, z_g7, z_s7, z_g8, z_s8, z_g9, z_s9, z_g10, z_s10, z_g11, z_s11, z_g12, z_s12, z_g13, z_s13, z_b0, z_b1, z_b0n, z_b1n, z_up_far1, z_up_far2, z_up_far3, z_up_far4, z_up_far5, z_up_far6, Classical.not_not, not_true_eq_false, z_in, z_inL, Int.cast_ofNat_Int, Nat.reduceLeDiff, List.length_cons, List.length_nil, Nat.reduceAdd, Nat.zero_add, Nat.le_refl, true_and, and_true, List.length, Nat.reduceLT, true_or, or_true, false_or, or_false, false_and, and_false, not_true_eq_false, not_false_eq_true, forall_const, false_implies, true_implies, Int.reduceEq, Int.reduceLT, Int.reduceLE, Int.reduceAdd, Int.reduceSub, Int.reduceMul, Int.reduceNeg, Int.reduceToNat, Int.toNat_natCast, ↓reduceIte, reduceIte, Nat.reduceEqDiff, Nat.reduceSub, Nat.reduceMul, ne_eq, Int.zero_add, Int.add_zero, Int.sub_zero, Nat.add_zero, Int.ofNat_eq_natCast, tX10_row_0, SX10_isRow, SX10_in, SX10_finding]
  repeat' (first | (intro _) | (with_reducible assumption) | (refine And.intro ?_ ?_))
  all_goals first | omega | assumption | (refine z_fin nx ?_ rfl; first | rfl | omega | (split <;> omega) | (split <;> split <;> omega)) | skip
theorem dX10_row_0 : decode cX10_row 0 = .ok (.aload_n 0, 1) := by decide +kernel
theorem dX10_row_1 : decode cX10_row 1 = .ok (.iconst 0, 1) := by decide +kernel
theorem dX10_row_2 : decode cX10_row 2 = .ok (.putfield 65, 3) := by decide +kernel
theorem dX10_row_5 : decode cX10_row 5 = .ok (.iload_n 1, 1) := by decide +kernel
theorem dX10_row_6 : decode cX10_row 6 = .ok (.invokestatic 79, 3) := by decide +kernel
theorem dX10_row_9 : decode cX10_row 9 = .ok (.ifCond .eq 21, 3) := by decide +kernel
theorem dX10_row_12 : decode cX10_row 12 = .ok (.iload_n 2, 1) := by decide +kernel
theorem dX10_row_13 : decode cX10_row 13 = .ok (.i2l, 1) := by decide +kernel
theorem dX10_row_14 : decode cX10_row 14 = .ok (.lconst 0, 1) := by decide +kernel
theorem dX10_row_15 : decode cX10_row 15 = .ok (.ldc2_w 83, 3) := by decide +kernel
theorem dX10_row_18 : decode cX10_row 18 = .ok (.invokestatic 75, 3) := by decide +kernel
theorem dX10_row_21 : decode cX10_row 21 = .ok (.ifCond .eq 9, 3) := by decide +kernel
theorem dX10_row_24 : decode cX10_row 24 = .ok (.iload_n 3, 1) := by decide +kernel
theorem dX10_row_25 : decode cX10_row 25 = .ok (.bipush 40, 2) := by decide +kernel
theorem dX10_row_27 : decode cX10_row 27 = .ok (.if_icmp .le 6, 3) := by decide +kernel
theorem dX10_row_30 : decode cX10_row 30 = .ok (.ldc 85, 2) := by decide +kernel
theorem dX10_row_32 : decode cX10_row 32 = .ok (.ireturn, 1) := by decide +kernel
theorem dX10_row_33 : decode cX10_row 33 = .ok (.aload_n 0, 1) := by decide +kernel
theorem dX10_row_34 : decode cX10_row 34 = .ok (.iconst 0, 1) := by decide +kernel
theorem dX10_row_35 : decode cX10_row 35 = .ok (.putfield 69, 3) := by decide +kernel
theorem dX10_row_38 : decode cX10_row 38 = .ok (.iload_n 3, 1) := by decide +kernel
theorem dX10_row_39 : decode cX10_row 39 = .ok (.ifCond .ge 9, 3) := by decide +kernel
theorem dX10_row_42 : decode cX10_row 42 = .ok (.aload_n 0, 1) := by decide +kernel
theorem dX10_row_43 : decode cX10_row 43 = .ok (.iconst 4, 1) := by decide +kernel
theorem dX10_row_44 : decode cX10_row 44 = .ok (.invokevirtual 86, 3) := by decide +kernel
theorem dX10_row_47 : decode cX10_row 47 = .ok (.ireturn, 1) := by decide +kernel
theorem dX10_row_48 : decode cX10_row 48 = .ok (.aload_n 0, 1) := by decide +kernel
theorem dX10_row_49 : decode cX10_row 49 = .ok (.getfield 7, 3) := by decide +kernel
theorem dX10_row_52 : decode cX10_row 52 = .ok (.iload_n 1, 1) := by decide +kernel
theorem dX10_row_53 : decode cX10_row 53 = .ok (.iload_n 2, 1) := by decide +kernel
theorem dX10_row_54 : decode cX10_row 54 = .ok (.iastore, 1) := by decide +kernel
theorem dX10_row_55 : decode cX10_row 55 = .ok (.aload_n 0, 1) := by decide +kernel
theorem dX10_row_56 : decode cX10_row 56 = .ok (.getfield 13, 3) := by decide +kernel
theorem dX10_row_59 : decode cX10_row 59 = .ok (.iload_n 1, 1) := by decide +kernel
theorem dX10_row_60 : decode cX10_row 60 = .ok (.iload_n 3, 1) := by decide +kernel
theorem dX10_row_61 : decode cX10_row 61 = .ok (.iastore, 1) := by decide +kernel
theorem dX10_row_62 : decode cX10_row 62 = .ok (.iconst 0, 1) := by decide +kernel
theorem dX10_row_63 : decode cX10_row 63 = .ok (.istore 4, 2) := by decide +kernel
theorem dX10_row_65 : decode cX10_row 65 = .ok (.iload 4, 2) := by decide +kernel
theorem dX10_row_67 : decode cX10_row 67 = .ok (.bipush 40, 2) := by decide +kernel
theorem dX10_row_69 : decode cX10_row 69 = .ok (.if_icmp .ge 22, 3) := by decide +kernel
theorem dX10_row_72 : decode cX10_row 72 = .ok (.aload_n 0, 1) := by decide +kernel
theorem dX10_row_73 : decode cX10_row 73 = .ok (.getfield 16, 3) := by decide +kernel
theorem dX10_row_76 : decode cX10_row 76 = .ok (.bipush 40, 2) := by decide +kernel
theorem dX10_row_78 : decode cX10_row 78 = .ok (.iload_n 1, 1) := by decide +kernel
theorem dX10_row_79 : decode cX10_row 79 = .ok (.imul, 1) := by decide +kernel
theorem dX10_row_80 : decode cX10_row 80 = .ok (.iload 4, 2) := by decide +kernel
theorem dX10_row_82 : decode cX10_row 82 = .ok (.iadd, 1) := by decide +kernel
theorem dX10_row_83 : decode cX10_row 83 = .ok (.iconst 0, 1) := by decide +kernel
theorem dX10_row_84 : decode cX10_row 84 = .ok (.iastore, 1) := by decide +kernel
theorem dX10_row_85 : decode cX10_row 85 = .ok (.iinc 4 1, 3) := by decide +kernel
theorem dX10_row_88 : decode cX10_row 88 = .ok (.goto (-23), 3) := by decide +kernel
theorem dX10_row_91 : decode cX10_row 91 = .ok (.iload_n 3, 1) := by decide +kernel
theorem dX10_row_92 : decode cX10_row 92 = .ok (.ireturn, 1) := by decide +kernel
set_option maxRecDepth 100000 in
theorem rX10_row_0 {p : Program} {l : Launch} {e : Env} {s : State} {m : MethodId} {args : Array Value} {below : List Frame} {meth : Method} {c : Code} {D : va_G} {cA : Nat → ClassId} {ad : Nat → Nat} {Ret : zR} (C : z_Cx p { frames := 2, cells := 0, slots := 0, locals := 45 } s m args c cX10_row yX10_row.cls 5 D cA ad) (hr : meth.sig.returnType = (some .int)) (hlocks : meth.locks = false) : ∀ L st σ, tX10_row_0 (z_X p l e { frames := 2, cells := 0, slots := 0, locals := 45 } s m args below meth c (MQ below (z_Qc D cA ad Ret) args s 0 0 (z_A ad)) 5 D cA ad true) Ret L st σ → z_X p l e { frames := 2, cells := 0, slots := 0, locals := 45 } s m args below meth c (MQ below (z_Qc D cA ad Ret) args s 0 0 (z_A ad)) 5 D cA ad true 0 L st σ := (s_aload_n C dX10_row_0 rfl (s_iconst C dX10_row_1 rfl ⟨by decide, by decide⟩ (s_puti C dX10_row_2 cls_X10 (by decide) rfl wd_968 rfl rfl (s_iload_n C dX10_row_5 rfl (s_cs1 C dX10_row_6 (okX10_isRow l) wd_1078 wd_1079 wd_85 wd_1080 ⟨by decide, by decide, by decide +kernel⟩ ⟨by decide, by decide⟩ (s_ifeq C dX10_row_9 (by decide) (s_ldc C dX10_row_30 (v := -1000001) wd_1086 ⟨by decide, by decide⟩ (s_iret C dX10_row_32 hr hlocks)) (s_iload_n C dX10_row_12 rfl (s_i2l C dX10_row_13 (s_lconst C dX10_row_14 (v := 0) rfl ⟨by decide, by decide⟩ (s_ldc2 C dX10_row_15 (v := 2) wd_1085 ⟨by decide, by decide⟩ (s_cs3 C dX10_row_18 (okX10_in l) wd_1082 wd_1083 wd_85 wd_1084 ⟨by decide, by decide, by decide +kernel⟩ ⟨by decide, by decide⟩ (s_ifeq C dX10_row_21 (by decide) (s_ldc C dX10_row_30 (v := -1000001) wd_1086 ⟨by decide, by decide⟩ (s_iret C dX10_row_32 hr hlocks)) (s_iload_n C dX10_row_24 rfl (s_bipush C dX10_row_25 rfl ⟨by decide, by decide⟩ (s_icle C dX10_row_27 (by decide) (s_aload_n C dX10_row_33 rfl (s_iconst C dX10_row_34 rfl ⟨by decide, by decide⟩ (s_puti C dX10_row_35 cls_X10 (by decide) rfl wd_969 rfl rfl (s_iload_n C dX10_row_38 rfl (s_ifge C dX10_row_39 (by decide) (s_aload_n C dX10_row_48 rfl (s_getr C dX10_row_49 (j := 2) cls_X10 (by decide) rfl (by decide) (by decide) (by decide +kernel) wd_970 (s_iload_n C dX10_row_52 rfl (s_iload_n C dX10_row_53 rfl (s_iast C dX10_row_54 (s_aload_n C dX10_row_55 rfl (s_getr C dX10_row_56 (j := 3) cls_X10 (by decide) rfl (by decide) (by decide) (by decide +kernel) wd_971 (s_iload_n C dX10_row_59 rfl (s_iload_n C dX10_row_60 rfl (s_iast C dX10_row_61 (s_iconst C dX10_row_62 rfl ⟨by decide, by decide⟩ (s_istore C dX10_row_63 (by decide) rfl (fun _ _ _ h => h))))))))))))) (s_aload_n C dX10_row_42 rfl (s_iconst C dX10_row_43 rfl ⟨by decide, by decide⟩ (s_cv1 C dX10_row_44 (okX10_finding l) cls_X10 wd_1087 wd_1089 wd_35 wd_85 wd_1090 ⟨by decide, by decide, by decide +kernel⟩ ⟨by decide, by decide⟩ (s_iret C dX10_row_47 hr hlocks))))))))) (s_ldc C dX10_row_30 (v := -1000001) wd_1086 ⟨by decide, by decide⟩ (s_iret C dX10_row_32 hr hlocks)))))))))))))))))
set_option maxRecDepth 100000 in
theorem rX10_row_65 {p : Program} {l : Launch} {e : Env} {s : State} {m : MethodId} {args : Array Value} {below : List Frame} {meth : Method} {c : Code} {D : va_G} {cA : Nat → ClassId} {ad : Nat → Nat} {Ret : zR} (C : z_Cx p { frames := 2, cells := 0, slots := 0, locals := 45 } s m args c cX10_row yX10_row.cls 5 D cA ad) (hr : meth.sig.returnType = (some .int)) (hlocks : meth.locks = false) : ∀ L st σ, tX10_row_65 (z_X p l e { frames := 2, cells := 0, slots := 0, locals := 45 } s m args below meth c (MQ below (z_Qc D cA ad Ret) args s 0 0 (z_A ad)) 5 D cA ad true) Ret L st σ → z_X p l e { frames := 2, cells := 0, slots := 0, locals := 45 } s m args below meth c (MQ below (z_Qc D cA ad Ret) args s 0 0 (z_A ad)) 5 D cA ad true 65 L st σ := (s_iload C dX10_row_65 (s_bipush C dX10_row_67 rfl ⟨by decide, by decide⟩ (s_icge C dX10_row_69 (by decide) (s_iload_n C dX10_row_91 rfl (s_iret C dX10_row_92 hr hlocks)) (s_aload_n C dX10_row_72 rfl (s_getr C dX10_row_73 (j := 4) cls_X10 (by decide) rfl (by decide) (by decide) (by decide +kernel) wd_972 (s_bipush C dX10_row_76 rfl ⟨by decide, by decide⟩ (s_iload_n C dX10_row_78 rfl (s_imul C dX10_row_79 (s_iload C dX10_row_80 (s_iadd C dX10_row_82 (s_iconst C dX10_row_83 rfl ⟨by decide, by decide⟩ (s_iast C dX10_row_84 (s_iinc C dX10_row_85 (by decide) rfl (s_goto C dX10_row_88 (by decide) (fun _ _ _ h => h)))))))))))))))
theorem okX10_row (l : Launch) : z_OK l yX10_row cX10_row 5 (some .int) 2 45 SX10_row := by
  refine z_ok_of true (by decide +kernel) ?_ ?_
  · intro as σ Ret h
    obtain ⟨k0, x1, x2, x3, rfl⟩ := pX10_row h
    exact ⟨Nat.le_of_ble_eq_true rfl, by simp⟩
  · intro p e s m args below meth c D cA ad Ret C hr hlocks as σ has hσ h
    obtain ⟨k0, x1, x2, x3, rfl⟩ := pX10_row h
    exact vX10_row (rX10_row_0 C hr hlocks) (rX10_row_65 C hr hlocks) k0 x1 x2 x3 σ (has _ (List.mem_of_getElem? (i := 0) rfl)) (has _ (List.mem_of_getElem? (i := 1) rfl)) (has _ (List.mem_of_getElem? (i := 2) rfl)) (has _ (List.mem_of_getElem? (i := 3) rfl)) hσ h
/-! numbers asked of the model -/
def SX10_count : zS := fun as σ Ret => match as with
  | [.inr (.inr (10, 0, _)), .inl w] => q_S10 (q_gCount w) q_fId σ Ret
  | _ => False
def tX10_count_0 (X : Nat → zB) (Ret : zR) (L : zL) (st : List zV) (σ : zM) : Prop := (z_aload 0 (z_push 0 (z_puti 10 0 (z_push 0 (z_istore 2 (z_iload 1 (z_tsw 0 [(z_push 0 (z_istore 3 (X 58))), (z_aload 0 (z_getr 10 4 100 106 (z_iload 1 (z_push 1 (z_isub (z_ald 0 (z_iret Ret))))))), (z_aload 0 (z_getr 10 4 100 106 (z_iload 1 (z_push 1 (z_isub (z_ald 0 (z_iret Ret))))))), (z_aload 0 (z_getr 10 4 100 106 (z_iload 1 (z_push 1 (z_isub (z_ald 0 (z_iret Ret))))))), (z_aload 0 (z_getr 10 4 100 106 (z_iload 1 (z_push 1 (z_isub (z_ald 0 (z_iret Ret))))))), (z_aload 0 (z_getr 10 4 100 106 (z_iload 1 (z_push 1 (z_isub (z_ald 0 (z_iret Ret))))))), (z_aload 0 (z_getr 10 4 100 106 (z_iload 1 (z_push 1 (z_isub (z_ald 0 (z_iret Ret))))))), (z_aload 0 (z_geti 10 12 (z_iret Ret)))] (z_push (-1000001) (z_iret Ret))))))))) L st σ
def tX10_count_58 (X : Nat → zB) (Ret : zR) (L : zL) (st : List zV) (σ : zM) : Prop := (z_iload 3 (z_push 8 (z_icge (z_iload 2 (z_iret Ret)) (z_iload 2 (z_aload 0 (z_getr 10 1 100 8 (z_iload 3 (z_ald 0 (z_iflt (z_push 0 (z_iadd (z_istore 2 (z_iinc 3 1 (z_goto (X 58)))))) (z_push 1 (z_goto (z_iadd (z_istore 2 (z_iinc 3 1 (z_goto (X 58)))))))))))))))) L st σ
theorem pX10_count {as : List zV} {σ : zM} {Ret : zR} (h : SX10_count as σ Ret) : ∃ (k0 : Nat) (x1 : Int), as = [.inr (.inr (10, 0, k0)), .inl x1] := by
  unfold SX10_count at h
  split at h
  · exact ⟨_, _, rfl⟩
  · exact h.elim
set_option maxRecDepth 10000 in
set_option maxHeartbeats 4000000 in
theorem vX10_count {X : Nat → zB} {Ret : zR} (h0 : ∀ L st σ, tX10_count_0 X Ret L st σ → X 0 L st σ) (h58 : ∀ L st σ, tX10_count_58 X Ret L st σ → X 58 L st σ) (k0 : Nat) (x1 : Int) (σ : zM) (hk0 : z_kd k0 = (10, 0)) (hx1 : -2147483648 ≤ x1 ∧ x1 ≤ 2147483647) (hσ : z_okm σ) (h : SX10_count [.inr (.inr (10, 0, k0)), .inl x1] σ Ret) : X 0 [some (.inr (.inr (10, 0, k0))), some (.inl x1), none, none] [] σ := by
  obtain ⟨m, h⟩ := h
  obtain rfl := z_kd10 hk0
  have fin := h (z_up σ 89 0 0) q_th.1 q_th.2
  have e0 : ∀ c j, c ≠ 89 → z_up σ 89 0 0 c j = σ c j := fun c j hc => z_up_ne (by omega)
  have e12 : z_up σ 89 0 0 89 12 = σ 89 12 := z_up_ne (by omega)
  have sm := z_sumf_01 (fun r => if σ 90 r < 0 then 0 else 1) (fun i => by by_cases c : σ 90 i < 0 <;> simp [c])
  by_cases c0 : x1 = 0
  · subst c0
    simp only [q_gCount, ↓reduceIte] at fin
    have L58 : ∀ (d i : Nat), i + d = 8 → X 58 [some (.inr (.inr (10, 0, 89))), some (.inl 0), some (.inl (z_sumf (fun r => if σ 90 r < 0 then 0 else 1) i)), some (.inl (i : Int))] [] (z_up σ 89 0 0) := by
      intro d
      induction d with
      | zero =>
        intro i hi
        obtain rfl : i = 8 := by omega
        refine h58 _ _ _ ?_
        simp only [z_push, z_lpush, z_iload, z_lload, z_aload, z_istore, z_istoreP, z_lstore, z_astore, z_iinc, z_iincP, z_iadd, z_isub, z_imul, z_iaddW, z_isubW, z_imulW, z_idiv, z_irem, z_iand, z_ior, z_ixor, z_ishl, z_ishr, z_iushr, z_ineg, z_i2l, z_i2b, z_i2s, z_i2c, z_l2i, z_ladd, z_lsub, z_land, z_lor, z_lshl, z_lshr, z_lcmp, z_dup, z_pop, z_dup2, z_goto, z_tsw, z_cases, z_geti, z_getr, z_puti, z_putz, z_ald, z_iast, z_bast, z_zast, z_alen, z_acopy, z_mmax, z_mmin, z_mabs, z_mabsL, z_iret, z_zret, z_nret, z_lret, z_aret, z_vret, z_cat, z_ldcs, z_strv, z_strc, z_gcs, z_gfm, z_sln, z_sald, z_ifeq, z_ifne, z_iflt, z_ifge, z_ifgt, z_ifle, z_iceq, z_icne, z_iclt, z_icge, z_icgt, z_icle, z_cs0, z_cs1, z_cs2, z_cs3, z_cs4, z_cs5, z_cs6, z_cs7, z_cv0, z_cv1, z_cv2, z_cv3, z_cv4, z_cv5, z_cv6, z_cv7, z_g0, z_s0, z_g1, z_s1, z_g2, z_s2, z_g3, z_s3, z_g4, z_s4, z_g5, z_s5, z_g6, z_s6, z_g7, z_s7, z_g8, z_s8, z_g9, z_s9, z_g10, z_s10, z_g11, z_s11, z_g12, z_s12, z_g13, z_s13, z_b0, z_b1, z_b0n, z_b1n, z_up_far1, z_up_far2, z_up_far3, z_up_far4, z_up_far5, z_up_far6, Classical.not_not, not_true_eq_false, z_in, z_inL, Int.cast_ofNat_Int, Nat.reduceLeDiff, List.length_cons, List.length_nil, Nat.reduceAdd, Nat.zero_add, Nat.le_refl, true_and, and_true, List.length, Nat.reduceLT, true_or, or_true, false_or, or_false, false_and, and_false, not_true_eq_false, not_false_eq_true, forall_const, false_implies, true_implies, Int.reduceEq, Int.reduceLT, Int.reduceLE, Int.reduceAdd, Int.reduceSub, Int.reduceMul, Int.reduceNeg, Int.reduceToNat, Int.toNat_natCast, ↓reduceIte, reduceIte, Nat.reduceEqDiff, Nat.reduceSub, Nat.reduceMul, ne_eq, Int.zero_add, Int.add_zero, Int.sub_zero, Nat.add_zero, Int.ofNat_eq_natCast, tX10_count_58]
        repeat' (first | (intro _) | (with_reducible assumption) | (refine And.intro ?_ ?_))
        all_goals first | omega | assumption | (refine z_fin fin ?_ rfl; first | rfl | omega | (split <;> omega) | (split <;> split <;> omega)) | skip
      | succ d ih =>
        intro i hi
        have nx := ih (i + 1) (by omega)
        rw [z_sumf] at nx
        have b := sm i
        refine h58 _ _ _ ?_
        have e90 : z_up σ 89 0 0 90 i = σ 90 i := e0 _ _ (by omega)
        by_cases cn : σ 90 i < 0
        · rw [if_pos cn, Int.add_zero] at nx
          simp only [z_push, z_lpush, z_iload, z_lload, z_aload, z_istore, z_istoreP, z_lstore, z_astore, z_iinc, z_iincP, z_iadd, z_isub, z_imul, z_iaddW, z_isubW, z_imulW, z_idiv, z_irem, z_iand, z_ior, z_ixor, z_ishl, z_ishr, z_iushr, z_ineg, z_i2l, z_i2b, z_i2s, z_i2c, z_l2i, z_ladd, z_lsub, z_land, z_lor, z_lshl, z_lshr, z_lcmp, z_dup, z_pop, z_dup2, z_goto, z_tsw, z_cases, z_geti, z_getr, z_puti, z_putz, z_ald, z_iast, z_bast, z_zast, z_alen, z_acopy, z_mmax, z_mmin, z_mabs, z_mabsL, z_iret, z_zret, z_nret, z_lret, z_aret, z_vret, z_cat, z_ldcs, z_strv, z_strc, z_gcs, z_gfm, z_sln, z_sald, z_ifeq, z_ifne, z_iflt, z_ifge, z_ifgt, z_ifle, z_iceq, z_icne, z_iclt, z_icge, z_icgt, z_icle, z_cs0, z_cs1, z_cs2, z_cs3, z_cs4, z_cs5, z_cs6, z_cs7, z_cv0, z_cv1, z_cv2, z_cv3, z_cv4, z_cv5, z_cv6, z_cv7, z_g0, z_s0, z_g1, z_s1, z_g2, z_s2, z_g3, z_s3, z_g4, z_s4, z_g5, z_s5, z_g6, z_s6, z_g7, z_s7, z_g8, z_s8, z_g9, z_s9, z_g10, z_s10, z_g11, z_s11, z_g12, z_s12, z_g13, z_s13, z_b0, z_b1, z_b0n, z_b1n, z_up_far1, z_up_far2, z_up_far3, z_up_far4, z_up_far5, z_up_far6, Classical.not_not, not_true_eq_false, z_in, z_inL, Int.cast_ofNat_Int, Nat.reduceLeDiff, List.length_cons, List.length_nil, Nat.reduceAdd, Nat.zero_add, Nat.le_refl, true_and, and_true, List.length, Nat.reduceLT, true_or, or_true, false_or, or_false, false_and, and_false, not_true_eq_false, not_false_eq_true, forall_const, false_implies, true_implies, Int.reduceEq, Int.reduceLT, Int.reduceLE, Int.reduceAdd, Int.reduceSub, Int.reduceMul, Int.reduceNeg, Int.reduceToNat, Int.toNat_natCast, ↓reduceIte, reduceIte, Nat.reduceEqDiff, Nat.reduceSub, Nat.reduceMul, ne_eq, Int.zero_add, Int.add_zero, Int.sub_zero, Nat.add_zero, Int.ofNat_eq_natCast, tX10_count_58, e90]
          repeat' (first | (intro _) | (with_reducible assumption) | (refine And.intro ?_ ?_))
          all_goals first | omega | assumption | (refine z_fin nx ?_ rfl; first | rfl | omega | (split <;> omega) | (split <;> split <;> omega)) | skip
        · rw [if_neg cn] at nx
          simp only [z_push, z_lpush, z_iload, z_lload, z_aload, z_istore, z_istoreP, z_lstore, z_astore, z_iinc, z_iincP, z_iadd, z_isub, z_imul, z_iaddW, z_isubW, z_imulW, z_idiv, z_irem, z_iand, z_ior, z_ixor, z_ishl, z_ishr, z_iushr, z_ineg, z_i2l, z_i2b, z_i2s, z_i2c, z_l2i, z_ladd, z_lsub, z_land, z_lor, z_lshl, z_lshr, z_lcmp, z_dup, z_pop, z_dup2, z_goto, z_tsw, z_cases, z_geti, z_getr, z_puti, z_putz, z_ald, z_iast, z_bast, z_zast, z_alen, z_acopy, z_mmax, z_mmin, z_mabs, z_mabsL, z_iret, z_zret, z_nret, z_lret, z_aret, z_vret, z_cat, z_ldcs, z_strv, z_strc, z_gcs, z_gfm, z_sln, z_sald, z_ifeq, z_ifne, z_iflt, z_ifge, z_ifgt, z_ifle, z_iceq, z_icne, z_iclt, z_icge, z_icgt, z_icle, z_cs0, z_cs1, z_cs2, z_cs3, z_cs4, z_cs5, z_cs6, z_cs7, z_cv0, z_cv1, z_cv2, z_cv3, z_cv4, z_cv5, z_cv6, z_cv7, z_g0, z_s0, z_g1, z_s1, z_g2, z_s2, z_g3, z_s3, z_g4, z_s4, z_g5, z_s5, z_g6, z_s6, z_g7, z_s7, z_g8, z_s8, z_g9, z_s9, z_g10, z_s10, z_g11, z_s11, z_g12, z_s12, z_g13, z_s13, z_b0, z_b1, z_b0n, z_b1n, z_up_far1, z_up_far2, z_up_far3, z_up_far4, z_up_far5, z_up_far6, Classical.not_not, not_true_eq_false, z_in, z_inL, Int.cast_ofNat_Int, Nat.reduceLeDiff, List.length_cons, List.length_nil, Nat.reduceAdd, Nat.zero_add, Nat.le_refl, true_and, and_true, List.length, Nat.reduceLT, true_or, or_true, false_or, or_false, false_and, and_false, not_true_eq_false, not_false_eq_true, forall_const, false_implies, true_implies, Int.reduceEq, Int.reduceLT, Int.reduceLE, Int.reduceAdd, Int.reduceSub, Int.reduceMul, Int.reduceNeg, Int.reduceToNat, Int.toNat_natCast, ↓reduceIte, reduceIte, Nat.reduceEqDiff, Nat.reduceSub, Nat.reduceMul, ne_eq, Int.zero_add, Int.add_zero, Int.sub_zero, Nat.add_zero, Int.ofNat_eq_natCast, tX10_count_58, e90]
          repeat' (first | (intro _) | (with_reducible assumption) | (refine And.intro ?_ ?_))
          all_goals first | omega | assumption | (refine z_fin nx ?_ rfl; first | rfl | omega | (split <;> omega) | (split <;> split <;> omega)) | skip
    have nx := L58 8 0 (by omega)
    refine h0 _ _ _ ?_
    simp only [z_push, z_lpush, z_iload, z_lload, z_aload, z_istore, z_istoreP, z_lstore, z_astore, z_iinc, z_iincP, z_iadd, z_isub, z_imul, z_iaddW, z_isubW, z_imulW, z_idiv, z_irem, z_iand, z_ior, z_ixor, z_ishl, z_ishr, z_iushr, z_ineg, z_i2l, z_i2b, z_i2s, z_i2c, z_l2i, z_ladd, z_lsub, z_land, z_lor, z_lshl, z_lshr, z_lcmp, z_dup, z_pop, z_dup2, z_goto, z_tsw, z_cases, z_geti, z_getr, z_puti, z_putz, z_ald, z_iast, z_bast, z_zast, z_alen, z_acopy, z_mmax, z_mmin, z_mabs, z_mabsL, z_iret, z_zret, z_nret, z_lret, z_aret, z_vret, z_cat, z_ldcs, z_strv, z_strc, z_gcs, z_gfm, z_sln, z_sald, z_ifeq, z_ifne, z_iflt, z_ifge, z_ifgt, z_ifle, z_iceq, z_icne, z_iclt, z_icge, z_icgt, z_icle, z_cs0, z_cs1, z_cs2, z_cs3, z_cs4, z_cs5, z_cs6, z_cs7, z_cv0, z_cv1, z_cv2, z_cv3, z_cv4, z_cv5, z_cv6, z_cv7, z_g0, z_s0, z_g1, z_s1, z_g2, z_s2, z_g3, z_s3, z_g4, z_s4, z_g5, z_s5, z_g6, z_s6, z_g7, z_s7, z_g8, z_s8, z_g9, z_s9, z_g10, z_s10, z_g11, z_s11, z_g12, z_s12, z_g13, z_s13, z_b0, z_b1, z_b0n, z_b1n, z_up_far1, z_up_far2, z_up_far3, z_up_far4, z_up_far5, z_up_far6, Classical.not_not, not_true_eq_false, z_in, z_inL, Int.cast_ofNat_Int, Nat.reduceLeDiff, List.length_cons, List.length_nil, Nat.reduceAdd, Nat.zero_add, Nat.le_refl, true_and, and_true, List.length, Nat.reduceLT, true_or, or_true, false_or, or_false, false_and, and_false, not_true_eq_false, not_false_eq_true, forall_const, false_implies, true_implies, Int.reduceEq, Int.reduceLT, Int.reduceLE, Int.reduceAdd, Int.reduceSub, Int.reduceMul, Int.reduceNeg, Int.reduceToNat, Int.toNat_natCast, ↓reduceIte, reduceIte, Nat.reduceEqDiff, Nat.reduceSub, Nat.reduceMul, ne_eq, Int.zero_add, Int.add_zero, Int.sub_zero, Nat.add_zero, Int.ofNat_eq_natCast, tX10_count_0]
    exact nx
  by_cases c1 : 1 ≤ x1 ∧ x1 ≤ 6
  · simp only [q_gCount, if_neg c0, if_pos c1] at fin
    rw [← e0 93 _ (by omega)] at fin
    refine h0 _ _ _ ?_
    simp only [z_push, z_lpush, z_iload, z_lload, z_aload, z_istore, z_istoreP, z_lstore, z_astore, z_iinc, z_iincP, z_iadd, z_isub, z_imul, z_iaddW, z_isubW, z_imulW, z_idiv, z_irem, z_iand, z_ior, z_ixor, z_ishl, z_ishr, z_iushr, z_ineg, z_i2l, z_i2b, z_i2s, z_i2c, z_l2i, z_ladd, z_lsub, z_land, z_lor, z_lshl, z_lshr, z_lcmp, z_dup, z_pop, z_dup2, z_goto, z_tsw, z_cases, z_geti, z_getr, z_puti, z_putz, z_ald, z_iast, z_bast, z_zast, z_alen, z_acopy, z_mmax, z_mmin, z_mabs, z_mabsL, z_iret, z_zret, z_nret, z_lret, z_aret, z_vret, z_cat, z_ldcs, z_strv, z_strc, z_gcs, z_gfm, z_sln, z_sald, z_ifeq, z_ifne, z_iflt, z_ifge, z_ifgt, z_ifle, z_iceq, z_icne, z_iclt, z_icge, z_icgt, z_icle, z_cs0, z_cs1, z_cs2, z_cs3, z_cs4, z_cs5, z_cs6, z_cs7, z_cv0, z_cv1, z_cv2, z_cv3, z_cv4, z_cv5, z_cv6, z_cv7, z_g0, z_s0, z_g1, z_s1, z_g2, z_s2, z_g3, z_s3, z_g4, z_s4, z_g5, z_s5, z_g6, z_s6, z_g7, z_s7, z_g8, z_s8, z_g9, z_s9, z_g10, z_s10, z_g11, z_s11, z_g12, z_s12, z_g13, z_s13, z_b0, z_b1, z_b0n, z_b1n, z_up_far1, z_up_far2, z_up_far3, z_up_far4, z_up_far5, z_up_far6, Classical.not_not, not_true_eq_false, z_in, z_inL, Int.cast_ofNat_Int, Nat.reduceLeDiff, List.length_cons, List.length_nil, Nat.reduceAdd, Nat.zero_add, Nat.le_refl, true_and, and_true, List.length, Nat.reduceLT, true_or, or_true, false_or, or_false, false_and, and_false, not_true_eq_false, not_false_eq_true, forall_const, false_implies, true_implies, Int.reduceEq, Int.reduceLT, Int.reduceLE, Int.reduceAdd, Int.reduceSub, Int.reduceMul, Int.reduceNeg, Int.reduceToNat, Int.toNat_natCast, ↓reduceIte, reduceIte, Nat.reduceEqDiff, Nat.reduceSub, Nat.reduceMul, ne_eq, Int.zero_add, Int.add_zero, Int.sub_zero, Nat.add_zero, Int.ofNat_eq_natCast, tX10_count_0]
    repeat' (first | (intro _) | (with_reducible assumption) | (refine And.intro ?_ ?_))
    all_goals first | omega | assumption | (refine z_fin fin ?_ rfl; first | rfl | omega | (split <;> omega) | (split <;> split <;> omega)) | skip
  by_cases c7 : x1 = 7
  · simp only [q_gCount, if_neg c0, if_neg c1, if_pos c7] at fin
    refine h0 _ _ _ ?_
    simp only [z_push, z_lpush, z_iload, z_lload, z_aload, z_istore, z_istoreP, z_lstore, z_astore, z_iinc, z_iincP, z_iadd, z_isub, z_imul, z_iaddW, z_isubW, z_imulW, z_idiv, z_irem, z_iand, z_ior, z_ixor, z_ishl, z_ishr, z_iushr, z_ineg, z_i2l, z_i2b, z_i2s, z_i2c, z_l2i, z_ladd, z_lsub, z_land, z_lor, z_lshl, z_lshr, z_lcmp, z_dup, z_pop, z_dup2, z_goto, z_tsw, z_cases, z_geti, z_getr, z_puti, z_putz, z_ald, z_iast, z_bast, z_zast, z_alen, z_acopy, z_mmax, z_mmin, z_mabs, z_mabsL, z_iret, z_zret, z_nret, z_lret, z_aret, z_vret, z_cat, z_ldcs, z_strv, z_strc, z_gcs, z_gfm, z_sln, z_sald, z_ifeq, z_ifne, z_iflt, z_ifge, z_ifgt, z_ifle, z_iceq, z_icne, z_iclt, z_icge, z_icgt, z_icle, z_cs0, z_cs1, z_cs2, z_cs3, z_cs4, z_cs5, z_cs6, z_cs7, z_cv0, z_cv1, z_cv2, z_cv3, z_cv4, z_cv5, z_cv6, z_cv7, z_g0, z_s0, z_g1, z_s1, z_g2, z_s2, z_g3, z_s3, z_g4, z_s4, z_g5, z_s5, z_g6, z_s6, z_g7, z_s7, z_g8, z_s8, z_g9, z_s9, z_g10, z_s10, z_g11, z_s11, z_g12, z_s12, z_g13, z_s13, z_b0, z_b1, z_b0n, z_b1n, z_up_far1, z_up_far2, z_up_far3, z_up_far4, z_up_far5, z_up_far6, Classical.not_not, not_true_eq_false, z_in, z_inL, Int.cast_ofNat_Int, Nat.reduceLeDiff, List.length_cons, List.length_nil, Nat.reduceAdd, Nat.zero_add, Nat.le_refl, true_and, and_true, List.length, Nat.reduceLT, true_or, or_true, false_or, or_false, false_and, and_false, not_true_eq_false, not_false_eq_true, forall_const, false_implies, true_implies, Int.reduceEq, Int.reduceLT, Int.reduceLE, Int.reduceAdd, Int.reduceSub, Int.reduceMul, Int.reduceNeg, Int.reduceToNat, Int.toNat_natCast, ↓reduceIte, reduceIte, Nat.reduceEqDiff, Nat.reduceSub, Nat.reduceMul, ne_eq, Int.zero_add, Int.add_zero, Int.sub_zero, Nat.add_zero, Int.ofNat_eq_natCast, tX10_count_0, e12]
    repeat' (first | (intro _) | (with_reducible assumption) | (refine And.intro ?_ ?_))
    all_goals first | omega | assumption | (refine z_fin fin ?_ rfl; first | rfl | omega | (split <;> omega) | (split <;> split <;> omega)) | skip
  · simp only [q_gCount, if_neg c0, if_neg c1, if_neg c7] at fin
    refine h0 _ _ _ ?_
    simp only [z_push, z_lpush, z_iload, z_lload, z_aload, z_istore, z_istoreP, z_lstore, z_astore, z_iinc, z_iincP, z_iadd, z_isub, z_imul, z_iaddW, z_isubW, z_imulW, z_idiv, z_irem, z_iand, z_ior, z_ixor, z_ishl, z_ishr, z_iushr, z_ineg, z_i2l, z_i2b, z_i2s, z_i2c, z_l2i, z_ladd, z_lsub, z_land, z_lor, z_lshl, z_lshr, z_lcmp, z_dup, z_pop, z_dup2, z_goto, z_tsw, z_cases, z_geti, z_getr, z_puti, z_putz, z_ald, z_iast, z_bast, z_zast, z_alen, z_acopy, z_mmax, z_mmin, z_mabs, z_mabsL, z_iret, z_zret, z_nret, z_lret, z_aret, z_vret, z_cat, z_ldcs, z_strv, z_strc, z_gcs, z_gfm, z_sln, z_sald, z_ifeq, z_ifne, z_iflt, z_ifge, z_ifgt, z_ifle, z_iceq, z_icne, z_iclt, z_icge, z_icgt, z_icle, z_cs0, z_cs1, z_cs2, z_cs3, z_cs4, z_cs5, z_cs6, z_cs7, z_cv0, z_cv1, z_cv2, z_cv3, z_cv4, z_cv5, z_cv6, z_cv7, z_g0, z_s0, z_g1, z_s1, z_g2, z_s2, z_g3, z_s3, z_g4, z_s4, z_g5, z_s5, z_g6, z_s6, z_g7, z_s7, z_g8, z_s8, z_g9, z_s9, z_g10, z_s10, z_g11, z_s11, z_g12, z_s12, z_g13, z_s13, z_b0, z_b1, z_b0n, z_b1n, z_up_far1, z_up_far2, z_up_far3, z_up_far4, z_up_far5, z_up_far6, Classical.not_not, not_true_eq_false, z_in, z_inL, Int.cast_ofNat_Int, Nat.reduceLeDiff, List.length_cons, List.length_nil, Nat.reduceAdd, Nat.zero_add, Nat.le_refl, true_and, and_true, List.length, Nat.reduceLT, true_or, or_true, false_or, or_false, false_and, and_false, not_true_eq_false, not_false_eq_true, forall_const, false_implies, true_implies, Int.reduceEq, Int.reduceLT, Int.reduceLE, Int.reduceAdd, Int.reduceSub, Int.reduceMul, Int.reduceNeg, Int.reduceToNat, Int.toNat_natCast, ↓reduceIte, reduceIte, Nat.reduceEqDiff, Nat.reduceSub, Nat.reduceMul, ne_eq, Int.zero_add, Int.add_zero, Int.sub_zero, Nat.add_zero, Int.ofNat_eq_natCast, tX10_count_0]
    repeat' (first | (intro _) | (with_reducible assumption) | (refine And.intro ?_ ?_))
    all_goals first | omega | assumption | (refine z_fin fin ?_ rfl; first | rfl | omega | (split <;> omega) | (split <;> split <;> omega)) | skip
theorem dX10_count_0 : decode cX10_count 0 = .ok (.aload_n 0, 1) := by decide +kernel
theorem dX10_count_1 : decode cX10_count 1 = .ok (.iconst 0, 1) := by decide +kernel
theorem dX10_count_2 : decode cX10_count 2 = .ok (.putfield 65, 3) := by decide +kernel
theorem dX10_count_5 : decode cX10_count 5 = .ok (.iconst 0, 1) := by decide +kernel
theorem dX10_count_6 : decode cX10_count 6 = .ok (.istore_n 2, 1) := by decide +kernel
theorem dX10_count_7 : decode cX10_count 7 = .ok (.iload_n 1, 1) := by decide +kernel
theorem dX10_count_8 : decode cX10_count 8 = .ok (.tableswitch 95 0 7 #[48, 81, 81, 81, 81, 81, 81, 90], 48) := by decide +kernel
theorem dX10_count_56 : decode cX10_count 56 = .ok (.iconst 0, 1) := by decide +kernel
theorem dX10_count_57 : decode cX10_count 57 = .ok (.istore_n 3, 1) := by decide +kernel
theorem dX10_count_58 : decode cX10_count 58 = .ok (.iload_n 3, 1) := by decide +kernel
theorem dX10_count_59 : decode cX10_count 59 = .ok (.bipush 8, 2) := by decide +kernel
theorem dX10_count_61 : decode cX10_count 61 = .ok (.if_icmp .ge 26, 3) := by decide +kernel
theorem dX10_count_64 : decode cX10_count 64 = .ok (.iload_n 2, 1) := by decide +kernel
theorem dX10_count_65 : decode cX10_count 65 = .ok (.aload_n 0, 1) := by decide +kernel
theorem dX10_count_66 : decode cX10_count 66 = .ok (.getfield 7, 3) := by decide +kernel
theorem dX10_count_69 : decode cX10_count 69 = .ok (.iload_n 3, 1) := by decide +kernel
theorem dX10_count_70 : decode cX10_count 70 = .ok (.iaload, 1) := by decide +kernel
theorem dX10_count_71 : decode cX10_count 71 = .ok (.ifCond .lt 7, 3) := by decide +kernel
theorem dX10_count_74 : decode cX10_count 74 = .ok (.iconst 1, 1) := by decide +kernel
theorem dX10_count_75 : decode cX10_count 75 = .ok (.goto 4, 3) := by decide +kernel
theorem dX10_count_78 : decode cX10_count 78 = .ok (.iconst 0, 1) := by decide +kernel
theorem dX10_count_79 : decode cX10_count 79 = .ok (.iadd, 1) := by decide +kernel
theorem dX10_count_80 : decode cX10_count 80 = .ok (.istore_n 2, 1) := by decide +kernel
theorem dX10_count_81 : decode cX10_count 81 = .ok (.iinc 3 1, 3) := by decide +kernel
theorem dX10_count_84 : decode cX10_count 84 = .ok (.goto (-26), 3) := by decide +kernel
theorem dX10_count_87 : decode cX10_count 87 = .ok (.iload_n 2, 1) := by decide +kernel
theorem dX10_count_88 : decode cX10_count 88 = .ok (.ireturn, 1) := by decide +kernel
theorem dX10_count_89 : decode cX10_count 89 = .ok (.aload_n 0, 1) := by decide +kernel
theorem dX10_count_90 : decode cX10_count 90 = .ok (.getfield 19, 3) := by decide +kernel
theorem dX10_count_93 : decode cX10_count 93 = .ok (.iload_n 1, 1) := by decide +kernel
theorem dX10_count_94 : decode cX10_count 94 = .ok (.iconst 1, 1) := by decide +kernel
theorem dX10_count_95 : decode cX10_count 95 = .ok (.isub, 1) := by decide +kernel
theorem dX10_count_96 : decode cX10_count 96 = .ok (.iaload, 1) := by decide +kernel
theorem dX10_count_97 : decode cX10_count 97 = .ok (.ireturn, 1) := by decide +kernel
theorem dX10_count_98 : decode cX10_count 98 = .ok (.aload_n 0, 1) := by decide +kernel
theorem dX10_count_99 : decode cX10_count 99 = .ok (.getfield 92, 3) := by decide +kernel
theorem dX10_count_102 : decode cX10_count 102 = .ok (.ireturn, 1) := by decide +kernel
theorem dX10_count_103 : decode cX10_count 103 = .ok (.ldc 85, 2) := by decide +kernel
theorem dX10_count_105 : decode cX10_count 105 = .ok (.ireturn, 1) := by decide +kernel
set_option maxRecDepth 100000 in
theorem rX10_count_0 {p : Program} {l : Launch} {e : Env} {s : State} {m : MethodId} {args : Array Value} {below : List Frame} {meth : Method} {c : Code} {D : va_G} {cA : Nat → ClassId} {ad : Nat → Nat} {Ret : zR} (C : z_Cx p { frames := 0, cells := 0, slots := 0, locals := 0 } s m args c cX10_count yX10_count.cls 4 D cA ad) (hr : meth.sig.returnType = (some .int)) (hlocks : meth.locks = false) : ∀ L st σ, tX10_count_0 (z_X p l e { frames := 0, cells := 0, slots := 0, locals := 0 } s m args below meth c (MQ below (z_Qc D cA ad Ret) args s 0 0 (z_A ad)) 4 D cA ad true) Ret L st σ → z_X p l e { frames := 0, cells := 0, slots := 0, locals := 0 } s m args below meth c (MQ below (z_Qc D cA ad Ret) args s 0 0 (z_A ad)) 4 D cA ad true 0 L st σ := (s_aload_n C dX10_count_0 rfl (s_iconst C dX10_count_1 rfl ⟨by decide, by decide⟩ (s_puti C dX10_count_2 cls_X10 (by decide) rfl wd_968 rfl rfl (s_iconst C dX10_count_5 rfl ⟨by decide, by decide⟩ (s_istore_n C dX10_count_6 (by decide) rfl rfl (s_iload_n C dX10_count_7 rfl (s_tsw C dX10_count_8 (by decide) rfl (s_ldc C dX10_count_103 (v := -1000001) wd_1086 ⟨by decide, by decide⟩ (s_iret C dX10_count_105 hr hlocks)) (fun i hi => match i, hi with | 0, _ => ⟨48, 56, _, rfl, by decide, rfl, (s_iconst C dX10_count_56 rfl ⟨by decide, by decide⟩ (s_istore_n C dX10_count_57 (by decide) rfl rfl (fun _ _ _ h => h)))⟩ | 1, _ => ⟨81, 89, _, rfl, by decide, rfl, (s_aload_n C dX10_count_89 rfl (s_getr C dX10_count_90 (j := 5) cls_X10 (by decide) rfl (by decide) (by decide) (by decide +kernel) wd_973 (s_iload_n C dX10_count_93 rfl (s_iconst C dX10_count_94 rfl ⟨by decide, by decide⟩ (s_isub C dX10_count_95 (s_iald C dX10_count_96 (s_iret C dX10_count_97 hr hlocks)))))))⟩ | 2, _ => ⟨81, 89, _, rfl, by decide, rfl, (s_aload_n C dX10_count_89 rfl (s_getr C dX10_count_90 (j := 5) cls_X10 (by decide) rfl (by decide) (by decide) (by decide +kernel) wd_973 (s_iload_n C dX10_count_93 rfl (s_iconst C dX10_count_94 rfl ⟨by decide, by decide⟩ (s_isub C dX10_count_95 (s_iald C dX10_count_96 (s_iret C dX10_count_97 hr hlocks)))))))⟩ | 3, _ => ⟨81, 89, _, rfl, by decide, rfl, (s_aload_n C dX10_count_89 rfl (s_getr C dX10_count_90 (j := 5) cls_X10 (by decide) rfl (by decide) (by decide) (by decide +kernel) wd_973 (s_iload_n C dX10_count_93 rfl (s_iconst C dX10_count_94 rfl ⟨by decide, by decide⟩ (s_isub C dX10_count_95 (s_iald C dX10_count_96 (s_iret C dX10_count_97 hr hlocks)))))))⟩ | 4, _ => ⟨81, 89, _, rfl, by decide, rfl, (s_aload_n C dX10_count_89 rfl (s_getr C dX10_count_90 (j := 5) cls_X10 (by decide) rfl (by decide) (by decide) (by decide +kernel) wd_973 (s_iload_n C dX10_count_93 rfl (s_iconst C dX10_count_94 rfl ⟨by decide, by decide⟩ (s_isub C dX10_count_95 (s_iald C dX10_count_96 (s_iret C dX10_count_97 hr hlocks)))))))⟩ | 5, _ => ⟨81, 89, _, rfl, by decide, rfl, (s_aload_n C dX10_count_89 rfl (s_getr C dX10_count_90 (j := 5) cls_X10 (by decide) rfl (by decide) (by decide) (by decide +kernel) wd_973 (s_iload_n C dX10_count_93 rfl (s_iconst C dX10_count_94 rfl ⟨by decide, by decide⟩ (s_isub C dX10_count_95 (s_iald C dX10_count_96 (s_iret C dX10_count_97 hr hlocks)))))))⟩ | 6, _ => ⟨81, 89, _, rfl, by decide, rfl, (s_aload_n C dX10_count_89 rfl (s_getr C dX10_count_90 (j := 5) cls_X10 (by decide) rfl (by decide) (by decide) (by decide +kernel) wd_973 (s_iload_n C dX10_count_93 rfl (s_iconst C dX10_count_94 rfl ⟨by decide, by decide⟩ (s_isub C dX10_count_95 (s_iald C dX10_count_96 (s_iret C dX10_count_97 hr hlocks)))))))⟩ | 7, _ => ⟨90, 98, _, rfl, by decide, rfl, (s_aload_n C dX10_count_98 rfl (s_geti C dX10_count_99 cls_X10 (by decide) rfl wd_980 (s_iret C dX10_count_102 hr hlocks)))⟩) ⟨by decide, by decide⟩ ⟨by decide, by decide⟩)))))))
set_option maxRecDepth 100000 in
theorem rX10_count_58 {p : Program} {l : Launch} {e : Env} {s : State} {m : MethodId} {args : Array Value} {below : List Frame} {meth : Method} {c : Code} {D : va_G} {cA : Nat → ClassId} {ad : Nat → Nat} {Ret : zR} (C : z_Cx p { frames := 0, cells := 0, slots := 0, locals := 0 } s m args c cX10_count yX10_count.cls 4 D cA ad) (hr : meth.sig.returnType = (some .int)) (hlocks : meth.locks = false) : ∀ L st σ, tX10_count_58 (z_X p l e { frames := 0, cells := 0, slots := 0, locals := 0 } s m args below meth c (MQ below (z_Qc D cA ad Ret) args s 0 0 (z_A ad)) 4 D cA ad true) Ret L st σ → z_X p l e { frames := 0, cells := 0, slots := 0, locals := 0 } s m args below meth c (MQ below (z_Qc D cA ad Ret) args s 0 0 (z_A ad)) 4 D cA ad true 58 L st σ := (s_iload_n C dX10_count_58 rfl (s_bipush C dX10_count_59 rfl ⟨by decide, by decide⟩ (s_icge C dX10_count_61 (by decide) (s_iload_n C dX10_count_87 rfl (s_iret C dX10_count_88 hr hlocks)) (s_iload_n C dX10_count_64 rfl (s_aload_n C dX10_count_65 rfl (s_getr C dX10_count_66 (j := 2) cls_X10 (by decide) rfl (by decide) (by decide) (by decide +kernel) wd_970 (s_iload_n C dX10_count_69 rfl (s_iald C dX10_count_70 (s_iflt C dX10_count_71 (by decide) (s_iconst C dX10_count_78 rfl ⟨by decide, by decide⟩ (s_iadd C dX10_count_79 (s_istore_n C dX10_count_80 (by decide) rfl rfl (s_iinc C dX10_count_81 (by decide) rfl (s_goto C dX10_count_84 (by decide) (fun _ _ _ h => h)))))) (s_iconst C dX10_count_74 rfl ⟨by decide, by decide⟩ (s_goto C dX10_count_75 (by decide) (s_iadd C dX10_count_79 (s_istore_n C dX10_count_80 (by decide) rfl rfl (s_iinc C dX10_count_81 (by decide) rfl (s_goto C dX10_count_84 (by decide) (fun _ _ _ h => h))))))))))))))))
theorem okX10_count (l : Launch) : z_OK l yX10_count cX10_count 4 (some .int) 0 0 SX10_count := by
  refine z_ok_of true (by decide +kernel) ?_ ?_
  · intro as σ Ret h
    obtain ⟨k0, x1, rfl⟩ := pX10_count h
    exact ⟨Nat.le_of_ble_eq_true rfl, by simp⟩
  · intro p e s m args below meth c D cA ad Ret C hr hlocks as σ has hσ h
    obtain ⟨k0, x1, rfl⟩ := pX10_count h
    exact vX10_count (rX10_count_0 C hr hlocks) (rX10_count_58 C hr hlocks) k0 x1 σ (has _ (List.mem_of_getElem? (i := 0) rfl)) (has _ (List.mem_of_getElem? (i := 1) rfl)) hσ h
