/-! back to an image, asked of the program -/
def q_gRestore (k : Int) (τ : zM) : Int := if ¬ (0 ≤ k ∧ k ≤ 1) then -1000001 else if τ 104 k.toNat = 0 then -1000002 else 1
def q_rp (τ : zM) (k : Nat) : zM := fun c j => if c = 93 ∧ j < 106 then τ 105 (106 * k + j) else if c = 95 ∧ j < 180 then τ 106 (180 * k + j) else τ c j
def q_fRestore (k : Int) (τ : zM) : zM := if ¬ (0 ≤ k ∧ k ≤ 1) then τ else if τ 104 k.toNat = 0 then τ else q_rp τ k.toNat
def SX9_restore : zS := fun as σ Ret => match as with
  | [.inr (.inr (9, 0, _)), .inl k] => q_S9 (q_gRestore k) (q_fRestore k) σ Ret
  | _ => False
def tX9_restore_0 (X : Nat → zB) (Ret : zR) (L : zL) (st : List zV) (σ : zM) : Prop := (z_iload 1 (z_iflt (z_push (-1000001) (z_iret Ret)) (z_iload 1 (z_push 1 (z_icle (z_aload 0 (z_iload 1 (z_cv1 9 SX9_imageAt (z_geti 8 7 (z_ifne (z_aload 0 (z_getr 9 8 8 0 (z_aload 0 (z_iload 1 (z_cv1 9 SX9_imageAt (z_cv1 8 SX8_takeOver (z_push 1 (z_iret Ret)))))))) (z_push (-1000002) (z_iret Ret))))))) (z_push (-1000001) (z_iret Ret))))))) L st σ
theorem pX9_restore {as : List zV} {σ : zM} {Ret : zR} (h : SX9_restore as σ Ret) : ∃ (k0 : Nat) (x1 : Int), as = [.inr (.inr (9, 0, k0)), .inl x1] := by
  unfold SX9_restore at h
  split at h
  · exact ⟨_, _, rfl⟩
  · exact h.elim
set_option maxRecDepth 10000 in
set_option maxHeartbeats 4000000 in
theorem vX9_restore {X : Nat → zB} {Ret : zR} (h0 : ∀ L st σ, tX9_restore_0 X Ret L st σ → X 0 L st σ) (k0 : Nat) (x1 : Int) (σ : zM) (hk0 : z_kd k0 = (9, 0)) (hx1 : -2147483648 ≤ x1 ∧ x1 ≤ 2147483647) (hσ : z_okm σ) (h : SX9_restore [.inr (.inr (9, 0, k0)), .inl x1] σ Ret) : X 0 [some (.inr (.inr (9, 0, k0))), some (.inl x1)] [] σ := by
  obtain ⟨⟨R, m⟩, h⟩ := h
  obtain rfl := z_kd9 hk0
  by_cases c2 : ¬ (0 ≤ x1 ∧ x1 ≤ 1)
  · have fin := h σ (fun _ _ => rfl) (by unfold q_fRestore; rw [if_pos c2]; exact R)
    simp only [q_gRestore, if_pos c2] at fin
    refine h0 _ _ _ ?_
    simp only [z_push, z_lpush, z_iload, z_lload, z_aload, z_istore, z_istoreP, z_lstore, z_astore, z_iinc, z_iincP, z_iadd, z_isub, z_imul, z_iaddW, z_isubW, z_imulW, z_idiv, z_irem, z_iand, z_ior, z_ixor, z_ishl, z_ishr, z_iushr, z_ineg, z_i2l, z_i2b, z_i2s, z_i2c, z_l2i, z_ladd, z_lsub, z_land, z_lor, z_lshl, z_lshr, z_lcmp, z_dup, z_pop, z_dup2, z_goto, z_tsw, z_cases, z_geti, z_getr, z_puti, z_putz, z_ald, z_iast, z_bast, z_zast, z_alen, z_acopy, z_mmax, z_mmin, z_mabs, z_mabsL, z_iret, z_zret, z_nret, z_lret, z_aret, z_vret, z_cat, z_ldcs, z_strv, z_strc, z_gcs, z_gfm, z_sln, z_sald, z_ifeq, z_ifne, z_iflt, z_ifge, z_ifgt, z_ifle, z_iceq, z_icne, z_iclt, z_icge, z_icgt, z_icle, z_cs0, z_cs1, z_cs2, z_cs3, z_cs4, z_cs5, z_cs6, z_cs7, z_cv0, z_cv1, z_cv2, z_cv3, z_cv4, z_cv5, z_cv6, z_cv7, z_g0, z_s0, z_g1, z_s1, z_g2, z_s2, z_g3, z_s3, z_g4, z_s4, z_g5, z_s5, z_g6, z_s6, z_g7, z_s7, z_g8, z_s8, z_g9, z_s9, z_g10, z_s10, z_g11, z_s11, z_g12, z_s12, z_g13, z_s13, z_b0, z_b1, z_b0n, z_b1n, z_up_far1, z_up_far2, z_up_far3, z_up_far4, z_up_far5, z_up_far6, Classical.not_not, not_true_eq_false, z_in, z_inL, Int.cast_ofNat_Int, Nat.reduceLeDiff, List.length_cons, List.length_nil, Nat.reduceAdd, Nat.zero_add, Nat.le_refl, true_and, and_true, List.length, Nat.reduceLT, true_or, or_true, false_or, or_false, false_and, and_false, not_true_eq_false, not_false_eq_true, forall_const, false_implies, true_implies, Int.reduceEq, Int.reduceLT, Int.reduceLE, Int.reduceAdd, Int.reduceSub, Int.reduceMul, Int.reduceNeg, Int.reduceToNat, Int.toNat_natCast, ↓reduceIte, reduceIte, Nat.reduceEqDiff, Nat.reduceSub, Nat.reduceMul, ne_eq, Int.zero_add, Int.add_zero, Int.sub_zero, Nat.add_zero, Int.ofNat_eq_natCast, tX9_restore_0]
    repeat' (first | (intro _) | (with_reducible assumption) | (refine And.intro ?_ ?_))
    all_goals first | omega | assumption | (refine z_fin fin ?_ rfl; first | rfl | omega | (split <;> omega) | (split <;> split <;> omega)) | skip
  obtain ⟨k, rfl⟩ := z_nat (show 0 ≤ x1 by omega)
  have hk : k < 2 := by omega
  have W := R.2.2.2.2.2 k hk
  have W3 := W.2.2
  obtain ⟨⟨-, -, m3, -⟩, m4⟩ := m.2.2.1 k hk
  by_cases c1 : σ 104 k = 0
  · have fin := h σ (fun _ _ => rfl) (by unfold q_fRestore; rw [if_neg c2, Int.toNat_natCast, if_pos c1]; exact R)
    simp only [q_gRestore, if_neg c2, Int.toNat_natCast, if_pos c1] at fin
    rw [c1] at W3
    refine h0 _ _ _ ?_
    simp only [z_push, z_lpush, z_iload, z_lload, z_aload, z_istore, z_istoreP, z_lstore, z_astore, z_iinc, z_iincP, z_iadd, z_isub, z_imul, z_iaddW, z_isubW, z_imulW, z_idiv, z_irem, z_iand, z_ior, z_ixor, z_ishl, z_ishr, z_iushr, z_ineg, z_i2l, z_i2b, z_i2s, z_i2c, z_l2i, z_ladd, z_lsub, z_land, z_lor, z_lshl, z_lshr, z_lcmp, z_dup, z_pop, z_dup2, z_goto, z_tsw, z_cases, z_geti, z_getr, z_puti, z_putz, z_ald, z_iast, z_bast, z_zast, z_alen, z_acopy, z_mmax, z_mmin, z_mabs, z_mabsL, z_iret, z_zret, z_nret, z_lret, z_aret, z_vret, z_cat, z_ldcs, z_strv, z_strc, z_gcs, z_gfm, z_sln, z_sald, z_ifeq, z_ifne, z_iflt, z_ifge, z_ifgt, z_ifle, z_iceq, z_icne, z_iclt, z_icge, z_icgt, z_icle, z_cs0, z_cs1, z_cs2, z_cs3, z_cs4, z_cs5, z_cs6, z_cs7, z_cv0, z_cv1, z_cv2, z_cv3, z_cv4, z_cv5, z_cv6, z_cv7, z_g0, z_s0, z_g1, z_s1, z_g2, z_s2, z_g3, z_s3, z_g4, z_s4, z_g5, z_s5, z_g6, z_s6, z_g7, z_s7, z_g8, z_s8, z_g9, z_s9, z_g10, z_s10, z_g11, z_s11, z_g12, z_s12, z_g13, z_s13, z_b0, z_b1, z_b0n, z_b1n, z_up_far1, z_up_far2, z_up_far3, z_up_far4, z_up_far5, z_up_far6, Classical.not_not, not_true_eq_false, z_in, z_inL, Int.cast_ofNat_Int, Nat.reduceLeDiff, List.length_cons, List.length_nil, Nat.reduceAdd, Nat.zero_add, Nat.le_refl, true_and, and_true, List.length, Nat.reduceLT, true_or, or_true, false_or, or_false, false_and, and_false, not_true_eq_false, not_false_eq_true, forall_const, false_implies, true_implies, Int.reduceEq, Int.reduceLT, Int.reduceLE, Int.reduceAdd, Int.reduceSub, Int.reduceMul, Int.reduceNeg, Int.reduceToNat, Int.toNat_natCast, ↓reduceIte, reduceIte, Nat.reduceEqDiff, Nat.reduceSub, Nat.reduceMul, ne_eq, Int.zero_add, Int.add_zero, Int.sub_zero, Nat.add_zero, Int.ofNat_eq_natCast, tX9_restore_0, SX9_imageAt, W3]
    repeat' (first | (intro _) | (with_reducible assumption) | (refine And.intro ?_ ?_))
    all_goals first | omega | assumption | (refine z_fin fin ?_ rfl; first | rfl | omega | (split <;> omega) | (split <;> split <;> omega)) | skip
  refine h0 _ _ _ ?_
  simp only [z_push, z_lpush, z_iload, z_lload, z_aload, z_istore, z_istoreP, z_lstore, z_astore, z_iinc, z_iincP, z_iadd, z_isub, z_imul, z_iaddW, z_isubW, z_imulW, z_idiv, z_irem, z_iand, z_ior, z_ixor, z_ishl, z_ishr, z_iushr, z_ineg, z_i2l, z_i2b, z_i2s, z_i2c, z_l2i, z_ladd, z_lsub, z_land, z_lor, z_lshl, z_lshr, z_lcmp, z_dup, z_pop, z_dup2, z_goto, z_tsw, z_cases, z_geti, z_getr, z_puti, z_putz, z_ald, z_iast, z_bast, z_zast, z_alen, z_acopy, z_mmax, z_mmin, z_mabs, z_mabsL, z_iret, z_zret, z_nret, z_lret, z_aret, z_vret, z_cat, z_ldcs, z_strv, z_strc, z_gcs, z_gfm, z_sln, z_sald, z_ifeq, z_ifne, z_iflt, z_ifge, z_ifgt, z_ifle, z_iceq, z_icne, z_iclt, z_icge, z_icgt, z_icle, z_cs0, z_cs1, z_cs2, z_cs3, z_cs4, z_cs5, z_cs6, z_cs7, z_cv0, z_cv1, z_cv2, z_cv3, z_cv4, z_cv5, z_cv6, z_cv7, z_g0, z_s0, z_g1, z_s1, z_g2, z_s2, z_g3, z_s3, z_g4, z_s4, z_g5, z_s5, z_g6, z_s6, z_g7, z_s7, z_g8, z_s8, z_g9, z_s9, z_g10, z_s10, z_g11, z_s11, z_g12, z_s12, z_g13, z_s13, z_b0, z_b1, z_b0n, z_b1n, z_up_far1, z_up_far2, z_up_far3, z_up_far4, z_up_far5, z_up_far6, Classical.not_not, not_true_eq_false, z_in, z_inL, Int.cast_ofNat_Int, Nat.reduceLeDiff, List.length_cons, List.length_nil, Nat.reduceAdd, Nat.zero_add, Nat.le_refl, true_and, and_true, List.length, Nat.reduceLT, true_or, or_true, false_or, or_false, false_and, and_false, not_true_eq_false, not_false_eq_true, forall_const, false_implies, true_implies, Int.reduceEq, Int.reduceLT, Int.reduceLE, Int.reduceAdd, Int.reduceSub, Int.reduceMul, Int.reduceNeg, Int.reduceToNat, Int.toNat_natCast, ↓reduceIte, reduceIte, Nat.reduceEqDiff, Nat.reduceSub, Nat.reduceMul, ne_eq, Int.zero_add, Int.add_zero, Int.sub_zero, Nat.add_zero, Int.ofNat_eq_natCast, tX9_restore_0, SX9_imageAt, SX8_takeOver, W3, c1]
  refine ⟨fun e => absurd e (by omega), fun _ => ⟨fun _ => ⟨by omega, fun _ => ⟨by omega, ⟨⟨by omega, by omega⟩, fun σ1 f1 f2 => ?_⟩⟩⟩, fun e => absurd e (by omega)⟩⟩
  have e9 : ∀ c, 89 ≤ c → σ1 c = σ c := fun c hc => funext fun j => f1 c j (by omega)
  have ef : q_fRestore k σ1 = q_rp σ1 k := by unfold q_fRestore; rw [if_neg c2, Int.toNat_natCast, e9 104 (by omega), if_neg c1]
  have kn : ∀ c j, c ≠ 93 → c ≠ 95 → q_rp σ1 k c j = σ1 c j := by
    intro c j h1 h2
    unfold q_rp
    rw [if_neg (by omega), if_neg (by omega)]
  have r2 : q_R2 σ1 (q_fRestore k σ1) := by
    rw [ef]
    refine q_R2_wood R ?_ (fun c j h1 h2 => f1 c j (by omega)) (fun c j h1 h2 h3 h4 => by rw [kn c j h2 h3, e9 c h1])
    have w1 : q_W σ1 8 (q_kw σ k) (q_ko σ k) (σ 104 k) := q_W_take W (fun i j hv => f2 i j hv)
    have w2 := q_W_cgD (D' := q_rp σ1 k 93) (O' := q_rp σ1 k 95) w1 (fun i hi => by unfold q_rp q_kw; rw [if_pos ⟨rfl, hi⟩, e9 105 (by omega)]) (fun i hi => by unfold q_rp q_ko; rw [if_neg (by omega), if_pos ⟨rfl, hi⟩, e9 106 (by omega)])
    unfold q_rwood
    have e7 : q_rp σ1 k 89 7 = σ 104 k := by rw [kn _ _ (by omega) (by omega), e9 89 (by omega)]; have := m4 (by omega); omega
    rw [e7]
    exact w2
  have fin := h σ1 e9 r2
  simp only [q_gRestore, if_neg c2, Int.toNat_natCast, e9 104 (by omega), if_neg c1] at fin
  exact fin
theorem dX9_restore_0 : decode cX9_restore 0 = .ok (.iload_n 1, 1) := by decide +kernel
theorem dX9_restore_1 : decode cX9_restore 1 = .ok (.ifCond .lt 8, 3) := by decide +kernel
theorem dX9_restore_4 : decode cX9_restore 4 = .ok (.iload_n 1, 1) := by decide +kernel
theorem dX9_restore_5 : decode cX9_restore 5 = .ok (.iconst 1, 1) := by decide +kernel
theorem dX9_restore_6 : decode cX9_restore 6 = .ok (.if_icmp .le 6, 3) := by decide +kernel
theorem dX9_restore_9 : decode cX9_restore 9 = .ok (.ldc 75, 2) := by decide +kernel
theorem dX9_restore_11 : decode cX9_restore 11 = .ok (.ireturn, 1) := by decide +kernel
theorem dX9_restore_12 : decode cX9_restore 12 = .ok (.aload_n 0, 1) := by decide +kernel
theorem dX9_restore_13 : decode cX9_restore 13 = .ok (.iload_n 1, 1) := by decide +kernel
theorem dX9_restore_14 : decode cX9_restore 14 = .ok (.invokevirtual 263, 3) := by decide +kernel
theorem dX9_restore_17 : decode cX9_restore 17 = .ok (.getfield 141, 3) := by decide +kernel
theorem dX9_restore_20 : decode cX9_restore 20 = .ok (.ifCond .ne 6, 3) := by decide +kernel
theorem dX9_restore_23 : decode cX9_restore 23 = .ok (.ldc 144, 2) := by decide +kernel
theorem dX9_restore_25 : decode cX9_restore 25 = .ok (.ireturn, 1) := by decide +kernel
theorem dX9_restore_26 : decode cX9_restore 26 = .ok (.aload_n 0, 1) := by decide +kernel
theorem dX9_restore_27 : decode cX9_restore 27 = .ok (.getfield 26, 3) := by decide +kernel
theorem dX9_restore_30 : decode cX9_restore 30 = .ok (.aload_n 0, 1) := by decide +kernel
theorem dX9_restore_31 : decode cX9_restore 31 = .ok (.iload_n 1, 1) := by decide +kernel
theorem dX9_restore_32 : decode cX9_restore 32 = .ok (.invokevirtual 263, 3) := by decide +kernel
theorem dX9_restore_35 : decode cX9_restore 35 = .ok (.invokevirtual 129, 3) := by decide +kernel
theorem dX9_restore_38 : decode cX9_restore 38 = .ok (.iconst 1, 1) := by decide +kernel
theorem dX9_restore_39 : decode cX9_restore 39 = .ok (.ireturn, 1) := by decide +kernel
set_option maxRecDepth 100000 in
theorem rX9_restore_0 {p : Program} {l : Launch} {e : Env} {s : State} {m : MethodId} {args : Array Value} {below : List Frame} {meth : Method} {c : Code} {D : va_G} {cA : Nat → ClassId} {ad : Nat → Nat} {Ret : zR} (C : z_Cx p { frames := 3, cells := 0, slots := 0, locals := 68 } s m args c cX9_restore yX9_restore.cls 2 D cA ad) (hr : meth.sig.returnType = (some .int)) (hlocks : meth.locks = false) : ∀ L st σ, tX9_restore_0 (z_X p l e { frames := 3, cells := 0, slots := 0, locals := 68 } s m args below meth c (MQ below (z_Qc D cA ad Ret) args s 0 0 (z_A ad)) 2 D cA ad true) Ret L st σ → z_X p l e { frames := 3, cells := 0, slots := 0, locals := 68 } s m args below meth c (MQ below (z_Qc D cA ad Ret) args s 0 0 (z_A ad)) 2 D cA ad true 0 L st σ := (s_iload_n C dX9_restore_0 rfl (s_iflt C dX9_restore_1 (by decide) (s_ldc C dX9_restore_9 (v := -1000001) wd_404 ⟨by decide, by decide⟩ (s_iret C dX9_restore_11 hr hlocks)) (s_iload_n C dX9_restore_4 rfl (s_iconst C dX9_restore_5 rfl ⟨by decide, by decide⟩ (s_icle C dX9_restore_6 (by decide) (s_aload_n C dX9_restore_12 rfl (s_iload_n C dX9_restore_13 rfl (s_cv1 C dX9_restore_14 (okX9_imageAt l) cls_X9 wd_862 wd_864 wd_22 wd_75 wd_865 ⟨by decide, by decide, by decide +kernel⟩ ⟨by decide, by decide⟩ (s_geti C dX9_restore_17 cls_X8 (by decide) rfl wd_274 (s_ifne C dX9_restore_20 (by decide) (s_aload_n C dX9_restore_26 rfl (s_getr C dX9_restore_27 (j := 2) cls_X9 (by decide) rfl (by decide) (by decide) (by decide +kernel) wd_359 (s_aload_n C dX9_restore_30 rfl (s_iload_n C dX9_restore_31 rfl (s_cv1 C dX9_restore_32 (okX9_imageAt l) cls_X9 wd_862 wd_864 wd_22 wd_75 wd_865 ⟨by decide, by decide, by decide +kernel⟩ ⟨by decide, by decide⟩ (s_cv1 C dX9_restore_35 (okX8_takeOver l) cls_X8 wd_606 wd_607 wd_608 wd_78 wd_609 ⟨by decide, by decide, by decide +kernel⟩ ⟨by decide, by decide⟩ (s_iconst C dX9_restore_38 rfl ⟨by decide, by decide⟩ (s_iret C dX9_restore_39 hr hlocks)))))))) (s_ldc C dX9_restore_23 (v := -1000002) wd_630 ⟨by decide, by decide⟩ (s_iret C dX9_restore_25 hr hlocks))))))) (s_ldc C dX9_restore_9 (v := -1000001) wd_404 ⟨by decide, by decide⟩ (s_iret C dX9_restore_11 hr hlocks)))))))
theorem okX9_restore (l : Launch) : z_OK l yX9_restore cX9_restore 2 (some .int) 3 68 SX9_restore := by
  refine z_ok_of true (by decide +kernel) ?_ ?_
  · intro as σ Ret h
    obtain ⟨k0, x1, rfl⟩ := pX9_restore h
    exact ⟨Nat.le_of_ble_eq_true rfl, by simp⟩
  · intro p e s m args below meth c D cA ad Ret C hr hlocks as σ has hσ h
    obtain ⟨k0, x1, rfl⟩ := pX9_restore h
    exact vX9_restore (rX9_restore_0 C hr hlocks) k0 x1 σ (has _ (List.mem_of_getElem? (i := 0) rfl)) (has _ (List.mem_of_getElem? (i := 1) rfl)) hσ h
