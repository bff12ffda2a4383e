/-! taking back, asked of both -/
def q_gUndo (τ : zM) : Int := if τ 93 5 = 0 then -1000002 else τ 93 5 - 1
def q_fUndo (τ : zM) : zM := if τ 93 5 = 0 then τ else q_set τ 93 (q_unD (τ 93) (τ 95))
def SX9_undo : zS := fun as σ Ret => match as with
  | [.inr (.inr (9, 0, _))] => q_S9 q_gUndo q_fUndo σ Ret
  | _ => False
def tX9_undo_0 (X : Nat → zB) (Ret : zR) (L : zL) (st : List zV) (σ : zM) : Prop := (z_aload 0 (z_getr 9 8 8 0 (z_getr 8 12 2 0 (z_geti 2 3 (z_push 1 (z_icge (z_aload 0 (z_getr 9 8 8 0 (z_cv0 8 SX8_takeBack (z_aload 0 (z_getr 9 8 8 0 (z_getr 8 12 2 0 (z_geti 2 3 (z_iret Ret)))))))) (z_push (-1000002) (z_iret Ret)))))))) L st σ
theorem pX9_undo {as : List zV} {σ : zM} {Ret : zR} (h : SX9_undo as σ Ret) : ∃ (k0 : Nat), as = [.inr (.inr (9, 0, k0))] := by
  unfold SX9_undo at h
  split at h
  · exact ⟨_, rfl⟩
  · exact h.elim
set_option maxRecDepth 10000 in
set_option maxHeartbeats 4000000 in
theorem vX9_undo {X : Nat → zB} {Ret : zR} (h0 : ∀ L st σ, tX9_undo_0 X Ret L st σ → X 0 L st σ) (k0 : Nat) (σ : zM) (hk0 : z_kd k0 = (9, 0)) (hσ : z_okm σ) (h : SX9_undo [.inr (.inr (9, 0, k0))] σ Ret) : X 0 [some (.inr (.inr (9, 0, k0)))] [] σ := by
  obtain ⟨⟨R, m⟩, h⟩ := h
  obtain rfl := z_kd9 hk0
  have WW := R.2.2.2.2.1
  have W := WW.1
  obtain ⟨K, d, -, -⟩ := m.2.1
  have W5 : σ 20 3 = σ 93 5 := W.1.2.2.2.2.2.1
  have W0 : σ 9 6 = σ 93 0 := W.1.1.1
  have K5 := K.1.2.2.2.2
  have K0 := K.1.1
  by_cases c : σ 93 5 = 0
  · have fin := h σ (fun _ _ => rfl) (by unfold q_fUndo; rw [if_pos c]; exact R)
    simp only [q_gUndo, if_pos c] at fin
    refine h0 _ _ _ ?_
    simp only [z_push, z_lpush, z_iload, z_lload, z_aload, z_istore, z_istoreP, z_lstore, z_astore, z_iinc, z_iincP, z_iadd, z_isub, z_imul, z_iaddW, z_isubW, z_imulW, z_idiv, z_irem, z_iand, z_ior, z_ixor, z_ishl, z_ishr, z_iushr, z_ineg, z_i2l, z_i2b, z_i2s, z_i2c, z_l2i, z_ladd, z_lsub, z_land, z_lor, z_lshl, z_lshr, z_lcmp, z_dup, z_pop, z_dup2, z_goto, z_tsw, z_cases, z_geti, z_getr, z_puti, z_putz, z_ald, z_iast, z_bast, z_zast, z_alen, z_acopy, z_mmax, z_mmin, z_mabs, z_mabsL, z_iret, z_zret, z_nret, z_lret, z_aret, z_vret, z_cat, z_xald, z_xlen, z_ldcs, z_strv, z_strc, z_gcs, z_gfm, z_sln, z_sald, z_ifeq, z_ifne, z_iflt, z_ifge, z_ifgt, z_ifle, z_iceq, z_icne, z_iclt, z_icge, z_icgt, z_icle, z_cs0, z_cs1, z_cs2, z_cs3, z_cs4, z_cs5, z_cs6, z_cs7, z_cv0, z_cv1, z_cv2, z_cv3, z_cv4, z_cv5, z_cv6, z_cv7, z_g0, z_s0, z_g1, z_s1, z_g2, z_s2, z_g3, z_s3, z_g4, z_s4, z_g5, z_s5, z_g6, z_s6, z_g7, z_s7, z_g8, z_s8, z_g9, z_s9, z_g10, z_s10, z_g11, z_s11, z_g12, z_s12, z_g13, z_s13, z_b0, z_b1, z_b0n, z_b1n, z_up_far1, z_up_far2, z_up_far3, z_up_far4, z_up_far5, z_up_far6, Classical.not_not, not_true_eq_false, z_in, z_inL, Int.cast_ofNat_Int, Nat.reduceLeDiff, List.length_cons, List.length_nil, Nat.reduceAdd, Nat.zero_add, Nat.le_refl, true_and, and_true, List.length, Nat.reduceLT, true_or, or_true, false_or, or_false, false_and, and_false, not_true_eq_false, not_false_eq_true, forall_const, false_implies, true_implies, Int.reduceEq, Int.reduceLT, Int.reduceLE, Int.reduceAdd, Int.reduceSub, Int.reduceMul, Int.reduceNeg, Int.reduceToNat, Int.toNat_natCast, ↓reduceIte, reduceIte, Nat.reduceEqDiff, Nat.reduceSub, Nat.reduceMul, ne_eq, Int.zero_add, Int.add_zero, Int.sub_zero, Nat.add_zero, Int.ofNat_eq_natCast, tX9_undo_0, W5, c]
    repeat' (first | (intro _) | (with_reducible assumption) | (refine And.intro ?_ ?_))
    all_goals first | omega | assumption | (refine z_fin fin ?_ rfl; first | rfl | omega | (split <;> omega) | (split <;> split <;> omega)) | skip
  obtain ⟨i, hi⟩ := z_nat (show 0 ≤ σ 93 5 - 1 by omega)
  have dd := WW.2.1 i (by omega)
  simp only [Nat.reduceAdd] at dd
  obtain ⟨⟨d1, ⟨d2, d3⟩, d4⟩, -⟩ := dd
  obtain ⟨t, ht⟩ := z_nat d2
  have q := K.2.1 t (by omega)
  have T0 : σ 10 t = σ 93 (6 + 6 * t + 0) := W.2.1 t 0 (by omega) (by omega)
  simp only [Nat.add_zero] at q T0
  have cl := q_cl_cases 8 (σ 21 i) t
  have ne : ∀ c j, ¬ (8 ≤ c ∧ c ≤ 24) → q_back σ 8 c j = σ c j := by
    intro c j hc
    unfold q_back
    simp only [Nat.reduceAdd, W5, hi, Int.toNat_natCast, ht]
    rw [z_up_ne (by omega), z_up_ne (by omega)]
  have e9 : ∀ c, 89 ≤ c → q_back σ 8 c = σ c := fun c hc => funext fun j => ne c j (by omega)
  have r2 : q_R2 (q_back σ 8) (q_fUndo (q_back σ 8)) := by
    unfold q_fUndo
    rw [e9 93 (by omega), e9 95 (by omega), if_neg c]
    refine q_R2_wood R ?_ (fun c j h1 h2 => ne c j (by omega)) (fun c j h1 h2 h3 h4 => by rw [q_set_ne h2, e9 c h1])
    unfold q_rwood
    rw [q_set_eq, q_set_ne (by omega), q_set_ne (by omega), e9 95 (by omega), e9 89 (by omega)]
    exact q_W_back WW K d (by omega)
  have fin := h (q_back σ 8) e9 r2
  simp only [q_gUndo, e9 93 (by omega), if_neg c] at fin
  have e5 : q_back σ 8 20 3 = σ 93 5 - 1 := by
    unfold q_back
    simp only [Nat.reduceAdd, W5]
    rw [z_up_eq]
  refine h0 _ _ _ ?_
  simp only [z_push, z_lpush, z_iload, z_lload, z_aload, z_istore, z_istoreP, z_lstore, z_astore, z_iinc, z_iincP, z_iadd, z_isub, z_imul, z_iaddW, z_isubW, z_imulW, z_idiv, z_irem, z_iand, z_ior, z_ixor, z_ishl, z_ishr, z_iushr, z_ineg, z_i2l, z_i2b, z_i2s, z_i2c, z_l2i, z_ladd, z_lsub, z_land, z_lor, z_lshl, z_lshr, z_lcmp, z_dup, z_pop, z_dup2, z_goto, z_tsw, z_cases, z_geti, z_getr, z_puti, z_putz, z_ald, z_iast, z_bast, z_zast, z_alen, z_acopy, z_mmax, z_mmin, z_mabs, z_mabsL, z_iret, z_zret, z_nret, z_lret, z_aret, z_vret, z_cat, z_xald, z_xlen, z_ldcs, z_strv, z_strc, z_gcs, z_gfm, z_sln, z_sald, z_ifeq, z_ifne, z_iflt, z_ifge, z_ifgt, z_ifle, z_iceq, z_icne, z_iclt, z_icge, z_icgt, z_icle, z_cs0, z_cs1, z_cs2, z_cs3, z_cs4, z_cs5, z_cs6, z_cs7, z_cv0, z_cv1, z_cv2, z_cv3, z_cv4, z_cv5, z_cv6, z_cv7, z_g0, z_s0, z_g1, z_s1, z_g2, z_s2, z_g3, z_s3, z_g4, z_s4, z_g5, z_s5, z_g6, z_s6, z_g7, z_s7, z_g8, z_s8, z_g9, z_s9, z_g10, z_s10, z_g11, z_s11, z_g12, z_s12, z_g13, z_s13, z_b0, z_b1, z_b0n, z_b1n, z_up_far1, z_up_far2, z_up_far3, z_up_far4, z_up_far5, z_up_far6, Classical.not_not, not_true_eq_false, z_in, z_inL, Int.cast_ofNat_Int, Nat.reduceLeDiff, List.length_cons, List.length_nil, Nat.reduceAdd, Nat.zero_add, Nat.le_refl, true_and, and_true, List.length, Nat.reduceLT, true_or, or_true, false_or, or_false, false_and, and_false, not_true_eq_false, not_false_eq_true, forall_const, false_implies, true_implies, Int.reduceEq, Int.reduceLT, Int.reduceLE, Int.reduceAdd, Int.reduceSub, Int.reduceMul, Int.reduceNeg, Int.reduceToNat, Int.toNat_natCast, ↓reduceIte, reduceIte, Nat.reduceEqDiff, Nat.reduceSub, Nat.reduceMul, ne_eq, Int.zero_add, Int.add_zero, Int.sub_zero, Nat.add_zero, Int.ofNat_eq_natCast, tX9_undo_0, SX8_takeBack, W5, e5, hi, ht, T0, W0]
  rw [hi] at fin
  repeat' (first | (intro _) | (with_reducible assumption) | (refine And.intro ?_ ?_))
  all_goals first | omega | assumption | (refine z_fin fin ?_ rfl; first | rfl | omega | (split <;> omega) | (split <;> split <;> omega)) | skip
theorem dX9_undo_0 : decode cX9_undo 0 = .ok (.aload_n 0, 1) := by decide +kernel
theorem dX9_undo_1 : decode cX9_undo 1 = .ok (.getfield 26, 3) := by decide +kernel
theorem dX9_undo_4 : decode cX9_undo 4 = .ok (.getfield 150, 3) := by decide +kernel
theorem dX9_undo_7 : decode cX9_undo 7 = .ok (.getfield 149, 3) := by decide +kernel
theorem dX9_undo_10 : decode cX9_undo 10 = .ok (.iconst 1, 1) := by decide +kernel
theorem dX9_undo_11 : decode cX9_undo 11 = .ok (.if_icmp .ge 6, 3) := by decide +kernel
theorem dX9_undo_14 : decode cX9_undo 14 = .ok (.ldc 144, 2) := by decide +kernel
theorem dX9_undo_16 : decode cX9_undo 16 = .ok (.ireturn, 1) := by decide +kernel
theorem dX9_undo_17 : decode cX9_undo 17 = .ok (.aload_n 0, 1) := by decide +kernel
theorem dX9_undo_18 : decode cX9_undo 18 = .ok (.getfield 26, 3) := by decide +kernel
theorem dX9_undo_21 : decode cX9_undo 21 = .ok (.invokevirtual 160, 3) := by decide +kernel
theorem dX9_undo_24 : decode cX9_undo 24 = .ok (.aload_n 0, 1) := by decide +kernel
theorem dX9_undo_25 : decode cX9_undo 25 = .ok (.getfield 26, 3) := by decide +kernel
theorem dX9_undo_28 : decode cX9_undo 28 = .ok (.getfield 150, 3) := by decide +kernel
theorem dX9_undo_31 : decode cX9_undo 31 = .ok (.getfield 149, 3) := by decide +kernel
theorem dX9_undo_34 : decode cX9_undo 34 = .ok (.ireturn, 1) := by decide +kernel
set_option maxRecDepth 100000 in
theorem rX9_undo_0 {zx : zX} {zn : Nat} {p : Program} {l : Launch} {e : Env} {s : State} {m : MethodId} {args : Array Value} {below : List Frame} {meth : Method} {c : Code} {D : va_G} {cA : Nat → ClassId} {ad : Nat → Nat} {Ret : zR} (C : z_Cx zx zn (z_A zn ad) 0 0 p { frames := 4, cells := 0, slots := 0, locals := 88 } s m args c cX9_undo yX9_undo.cls 1 D cA ad) (hr : meth.sig.returnType = (some .int)) (hlocks : meth.locks = false) : ∀ L st σ, tX9_undo_0 (z_X zx zn (z_A zn ad) 0 0 p l e { frames := 4, cells := 0, slots := 0, locals := 88 } s m args below meth c (MQ below (z_Qc zn D cA ad Ret) args s 0 0 (z_A zn ad)) 1 D cA ad true) Ret L st σ → z_X zx zn (z_A zn ad) 0 0 p l e { frames := 4, cells := 0, slots := 0, locals := 88 } s m args below meth c (MQ below (z_Qc zn D cA ad Ret) args s 0 0 (z_A zn ad)) 1 D cA ad true 0 L st σ := (s_aload_n C dX9_undo_0 rfl (s_getr C dX9_undo_1 (j := 2) cls_X9 (by decide) rfl (by decide) (by decide) (by decide +kernel) wd_285 (s_getr C dX9_undo_4 (j := 2) cls_X8 (by decide) rfl (by decide) (by decide) (by decide +kernel) wd_200 (s_geti C dX9_undo_7 cls_X2 (by decide) rfl wd_182 (s_iconst C dX9_undo_10 rfl ⟨by decide, by decide⟩ (s_icge C dX9_undo_11 (by decide) (s_aload_n C dX9_undo_17 rfl (s_getr C dX9_undo_18 (j := 2) cls_X9 (by decide) rfl (by decide) (by decide) (by decide +kernel) wd_285 (s_cv0 C dX9_undo_21 (okX8_takeBack l) cls_X8 wd_480 wd_481 wd_482 wd_20 wd_483 ⟨by decide, by decide, by decide +kernel⟩ ⟨by decide, by decide⟩ (s_aload_n C dX9_undo_24 rfl (s_getr C dX9_undo_25 (j := 2) cls_X9 (by decide) rfl (by decide) (by decide) (by decide +kernel) wd_285 (s_getr C dX9_undo_28 (j := 2) cls_X8 (by decide) rfl (by decide) (by decide) (by decide +kernel) wd_200 (s_geti C dX9_undo_31 cls_X2 (by decide) rfl wd_182 (s_iret C dX9_undo_34 hr hlocks)))))))) (s_ldc C dX9_undo_14 (v := -1000002) wd_326 ⟨by decide, by decide⟩ (s_iret C dX9_undo_16 hr hlocks))))))))
theorem okX9_undo {zx : zX} {zn : Nat} (l : Launch) : z_OK zx zn l yX9_undo cX9_undo 1 (some .int) 4 88 SX9_undo := by
  refine z_ok_of true (by decide +kernel) ?_ ?_
  · intro as σ Ret h
    obtain ⟨k0, rfl⟩ := pX9_undo h
    exact ⟨Nat.le_of_ble_eq_true rfl, by simp⟩
  · intro p e s m args below meth c D cA ad Ret C hr hlocks as σ has hσ h
    obtain ⟨k0, rfl⟩ := pX9_undo h
    exact vX9_undo (rX9_undo_0 C hr hlocks) k0 σ (has _ (List.mem_of_getElem? (i := 0) rfl)).1 hσ h
