/-! lengths laid out against the numbers of a wood -/
def q_ly (σ : zM) (D : Nat → Int) : Prop := (∀ j : Nat, ¬ (6 ≤ j ∧ (j : Int) < 6 + 6 * D 0 ∧ j % 6 = 0) → D j = σ 93 j) ∧ ∀ t : Nat, (t : Int) < D 0 → D (6 + 6 * t + 0) = σ 98 t
theorem q_ly.sd {σ : zM} {D : Nat → Int} (h : q_ly σ D) (k : q_Dok D) {w t : Nat} (hw : (w : Int) < D 1) : q_sdD D w t = q_sdD (σ 93) w t := by
  have k0 := k.1.1
  unfold q_sdD
  rw [h.1 (6 + 6 * t + 5) (by omega), h.1 (6 + 6 * t + 4) (by omega), h.1 (6 + 6 * t + 2) (by omega), h.1 (6 + 6 * t + 1) (by omega), h.1 (78 + 3 * w + 0) (by omega), h.1 (78 + 3 * w + 1) (by omega)]
theorem q_ly.ls {σ : zM} {D : Nat → Int} (h : q_ly σ D) (k : q_Dok D) {w : Nat} (hw : (w : Int) < D 1) : q_lsD D w = q_lsD (σ 93) w := by
  unfold q_lsD
  rw [← h.1 0 (by omega)]
  exact q_ls_cg _ (fun i _ => h.sd k hw)
theorem q_ly.tn {σ : zM} {D : Nat → Int} (h : q_ly σ D) {t : Nat} (ht : (t : Int) < D 0) : q_tns σ t = q_tnD D t := by
  unfold q_tns q_tnD
  rw [h.2 t ht, h.1 (6 + 6 * t + 1) (by omega), h.1 4 (by omega)]
theorem q_ly_id {σ1 : zM} {D : Nat → Int} (k : q_Dok D) (e : ∀ j, σ1 93 j = D j) (g : ∀ j : Nat, j < 12 → σ1 98 j = D (6 + 6 * j + 0)) : q_ly σ1 D := by
  have k0 := k.1.1
  exact ⟨fun j _ => (e j).symm, fun t ht => (g t (by omega)).symm⟩
theorem q_me.D {σ1 σ : zM} {D : Nat → Int} {w : Nat} (g : q_me σ1 (q_lsD (σ 93) w) (q_tns σ)) (h : q_ly σ D) (k : q_Dok D) (hw : (w : Int) < D 1) : q_me σ1 (q_lsD D w) (q_tnD D) := by
  rw [← h.ls k hw] at g
  refine ⟨g.1, fun i hi => ?_, g.2.2⟩
  rw [g.2.1 i hi]
  exact h.tn (q_lsD_mem hi)
theorem q_me_in {σ1 : zM} {D : Nat → Int} {w : Nat} (k : q_Dok D) (g : q_me σ1 (q_lsD D w) (q_tnD D)) : (0 ≤ σ1 89 24 ∧ σ1 89 24 ≤ 12) ∧ (∀ i : Nat, (i : Int) < σ1 89 24 → 0 ≤ σ1 99 i ∧ σ1 99 i ≤ 20000) ∧ ∀ i : Nat, (i : Int) < σ1 89 24 → 0 ≤ σ1 100 i ∧ σ1 100 i < 12 := by
  have ll := q_lsD_len (w := w) k
  have k0 := k.1.1
  obtain ⟨g1, g2, g3⟩ := g
  refine ⟨by omega, fun i hi => ?_, fun i hi => ?_⟩
  · rw [g2 i (by omega)]
    exact q_tnD_in k (q_lsD_mem (by omega))
  · rw [g3 i (by omega)]
    have := q_lsD_mem (D := D) (w := w) (i := i) (by omega)
    omega
theorem q_c_cg {a b a' b' : Nat → Int} {t : Int} {i j : Nat} (h1 : a i = a' i) (h2 : b j = b' j) : q_c a b t i j = q_c a' b' t i j := by
  unfold q_c
  rw [h1, h2]
/-! slips in a wind, in the model -/
def SX10_slipsIn : zS := fun as σ Ret => match as with
  | [.inr (.inr (10, 0, _)), .inl w, .inl t] => ∃ D, (q_Dok (σ 93) ∧ q_Dok D ∧ q_ly σ D ∧ 0 ≤ w ∧ w < D 1) ∧ ∀ σ' : zM, (∀ c j, ¬ (c = 89 ∧ j = 24 ∨ 99 ≤ c ∧ c ≤ 102) → σ' c j = σ c j) → Ret (some (.inl (q_slD D w.toNat t))) σ'
  | _ => False
def tX10_slipsIn_0 (X : Nat → zB) (Ret : zR) (L : zL) (st : List zV) (σ : zM) : Prop := (z_aload 0 (z_iload 1 (z_cv1 10 SX10_listen (z_aload 0 (z_iload 2 (z_cv1 10 SX10_slipsNow (z_iret Ret))))))) L st σ
theorem pX10_slipsIn {as : List zV} {σ : zM} {Ret : zR} (h : SX10_slipsIn as σ Ret) : ∃ (k0 : Nat) (x1 : Int) (x2 : Int), as = [.inr (.inr (10, 0, k0)), .inl x1, .inl x2] := by
  unfold SX10_slipsIn at h
  split at h
  · exact ⟨_, _, _, rfl⟩
  · exact h.elim
set_option maxRecDepth 10000 in
set_option maxHeartbeats 4000000 in
theorem vX10_slipsIn {X : Nat → zB} {Ret : zR} (h0 : ∀ L st σ, tX10_slipsIn_0 X Ret L st σ → X 0 L st σ) (k0 : Nat) (x1 : Int) (x2 : Int) (σ : zM) (hk0 : z_kd k0 = (10, 0)) (hx1 : -2147483648 ≤ x1 ∧ x1 ≤ 2147483647) (hx2 : -2147483648 ≤ x2 ∧ x2 ≤ 2147483647) (hσ : z_okm σ) (h : SX10_slipsIn [.inr (.inr (10, 0, k0)), .inl x1, .inl x2] σ Ret) : X 0 [some (.inr (.inr (10, 0, k0))), some (.inl x1), some (.inl x2)] [] σ := by
  obtain ⟨D, ⟨K, KD, ly, w0, w1⟩, h⟩ := h
  obtain rfl := z_kd10 hk0
  obtain ⟨w, rfl⟩ := z_nat w0
  have l0 := ly.1 0 (by omega)
  have l1 := ly.1 1 (by omega)
  have l2 := ly.1 2 (by omega)
  refine h0 _ _ _ ?_
  simp only [z_push, z_lpush, z_iload, z_lload, z_aload, z_istore, z_istoreP, z_lstore, z_astore, z_iinc, z_iincP, z_iadd, z_isub, z_imul, z_iaddW, z_isubW, z_imulW, z_idiv, z_irem, z_iand, z_ior, z_ixor, z_ishl, z_ishr, z_iushr, z_ineg, z_i2l, z_i2b, z_i2s, z_i2c, z_l2i, z_ladd, z_lsub, z_land, z_lor, z_lshl, z_lshr, z_lcmp, z_dup, z_pop, z_dup2, z_goto, z_tsw, z_cases, z_geti, z_getr, z_puti, z_putz, z_ald, z_iast, z_bast, z_zast, z_alen, z_acopy, z_mmax, z_mmin, z_mabs, z_mabsL, z_iret, z_zret, z_nret, z_lret, z_aret, z_vret, z_cat, z_ldcs, z_strv, z_strc, z_gcs, z_gfm, z_sln, z_sald, z_ifeq, z_ifne, z_iflt, z_ifge, z_ifgt, z_ifle, z_iceq, z_icne, z_iclt, z_icge, z_icgt, z_icle, z_cs0, z_cs1, z_cs2, z_cs3, z_cs4, z_cs5, z_cs6, z_cs7, z_cv0, z_cv1, z_cv2, z_cv3, z_cv4, z_cv5, z_cv6, z_cv7, z_g0, z_s0, z_g1, z_s1, z_g2, z_s2, z_g3, z_s3, z_g4, z_s4, z_g5, z_s5, z_g6, z_s6, z_g7, z_s7, z_g8, z_s8, z_g9, z_s9, z_g10, z_s10, z_g11, z_s11, z_g12, z_s12, z_g13, z_s13, z_b0, z_b1, z_b0n, z_b1n, z_up_far1, z_up_far2, z_up_far3, z_up_far4, z_up_far5, z_up_far6, Classical.not_not, not_true_eq_false, z_in, z_inL, Int.cast_ofNat_Int, Nat.reduceLeDiff, List.length_cons, List.length_nil, Nat.reduceAdd, Nat.zero_add, Nat.le_refl, true_and, and_true, List.length, Nat.reduceLT, true_or, or_true, false_or, or_false, false_and, and_false, not_true_eq_false, not_false_eq_true, forall_const, false_implies, true_implies, Int.reduceEq, Int.reduceLT, Int.reduceLE, Int.reduceAdd, Int.reduceSub, Int.reduceMul, Int.reduceNeg, Int.reduceToNat, Int.toNat_natCast, ↓reduceIte, reduceIte, Nat.reduceEqDiff, Nat.reduceSub, Nat.reduceMul, ne_eq, Int.zero_add, Int.add_zero, Int.sub_zero, Nat.add_zero, Int.ofNat_eq_natCast, tX10_slipsIn_0, SX10_listen, SX10_slipsNow]
  refine ⟨⟨K, by omega, fun t ht h2 => ?_⟩, fun σ1 f1 g => ?_⟩
  · rw [← ly.2 t (by omega)]
    have := KD.2.1 t (by omega)
    omega
  have g' := g.D ly KD w1
  have mi := q_me_in KD g'
  have e93 : ∀ j, σ1 93 j = σ 93 j := fun j => f1 93 j (by omega)
  have k2 := KD.1.2.2.1
  refine ⟨⟨by rw [e93, ← l2]; exact k2, mi.1, mi.2.1, fun j hj => ?_⟩, fun σ2 f2 => ?_⟩
  · rw [e93, ← l2] at hj
    rw [e93, ← ly.1 (96 + j) (by have := KD.1.1; omega)]
    exact KD.2.2.2 j hj
  have fin := h σ2 (fun c j hc => by rw [f2 c j (by omega) (by omega), f1 c j (by omega)])
  have e5 : q_slD D w x2 = q_dp (q_c (σ1 99) (fun j => σ1 93 (96 + j)) x2) (σ1 89 24).toNat (σ1 93 2).toNat := by
    unfold q_slD
    rw [g'.1, e93, ← l2, Int.toNat_natCast]
    refine q_dp_cg _ _ (fun i j hi hj => ?_)
    refine q_c_cg (g'.2.1 i hi).symm ?_
    show D (96 + j) = σ1 93 (96 + j)
    rw [e93, ly.1 (96 + j) (by have := KD.1.1; omega)]
  rw [Int.toNat_natCast, e5] at fin
  exact fin
theorem dX10_slipsIn_0 : decode cX10_slipsIn 0 = .ok (.aload_n 0, 1) := by decide +kernel
theorem dX10_slipsIn_1 : decode cX10_slipsIn 1 = .ok (.iload_n 1, 1) := by decide +kernel
theorem dX10_slipsIn_2 : decode cX10_slipsIn 2 = .ok (.invokevirtual 256, 3) := by decide +kernel
theorem dX10_slipsIn_5 : decode cX10_slipsIn 5 = .ok (.aload_n 0, 1) := by decide +kernel
theorem dX10_slipsIn_6 : decode cX10_slipsIn 6 = .ok (.iload_n 2, 1) := by decide +kernel
theorem dX10_slipsIn_7 : decode cX10_slipsIn 7 = .ok (.invokevirtual 266, 3) := by decide +kernel
theorem dX10_slipsIn_10 : decode cX10_slipsIn 10 = .ok (.ireturn, 1) := by decide +kernel
set_option maxRecDepth 100000 in
theorem rX10_slipsIn_0 {p : Program} {l : Launch} {e : Env} {s : State} {m : MethodId} {args : Array Value} {below : List Frame} {meth : Method} {c : Code} {D : va_G} {cA : Nat → ClassId} {ad : Nat → Nat} {Ret : zR} (C : z_Cx p { frames := 3, cells := 0, slots := 0, locals := 68 } s m args c cX10_slipsIn yX10_slipsIn.cls 3 D cA ad) (hr : meth.sig.returnType = (some .int)) (hlocks : meth.locks = false) : ∀ L st σ, tX10_slipsIn_0 (z_X p l e { frames := 3, cells := 0, slots := 0, locals := 68 } s m args below meth c (MQ below (z_Qc D cA ad Ret) args s 0 0 (z_A ad)) 3 D cA ad true) Ret L st σ → z_X p l e { frames := 3, cells := 0, slots := 0, locals := 68 } s m args below meth c (MQ below (z_Qc D cA ad Ret) args s 0 0 (z_A ad)) 3 D cA ad true 0 L st σ := (s_aload_n C dX10_slipsIn_0 rfl (s_iload_n C dX10_slipsIn_1 rfl (s_cv1 C dX10_slipsIn_2 (okX10_listen l) cls_X10 wd_1261 wd_1263 wd_60 wd_85 wd_1264 ⟨by decide, by decide, by decide +kernel⟩ ⟨by decide, by decide⟩ (s_aload_n C dX10_slipsIn_5 rfl (s_iload_n C dX10_slipsIn_6 rfl (s_cv1 C dX10_slipsIn_7 (okX10_slipsNow l) cls_X10 wd_1281 wd_1283 wd_63 wd_85 wd_1284 ⟨by decide, by decide, by decide +kernel⟩ ⟨by decide, by decide⟩ (s_iret C dX10_slipsIn_10 hr hlocks)))))))
theorem okX10_slipsIn (l : Launch) : z_OK l yX10_slipsIn cX10_slipsIn 3 (some .int) 3 68 SX10_slipsIn := by
  refine z_ok_of true (by decide +kernel) ?_ ?_
  · intro as σ Ret h
    obtain ⟨k0, x1, x2, rfl⟩ := pX10_slipsIn h
    exact ⟨Nat.le_of_ble_eq_true rfl, by simp⟩
  · intro p e s m args below meth c D cA ad Ret C hr hlocks as σ has hσ h
    obtain ⟨k0, x1, x2, rfl⟩ := pX10_slipsIn h
    exact vX10_slipsIn (rX10_slipsIn_0 C hr hlocks) k0 x1 x2 σ (has _ (List.mem_of_getElem? (i := 0) rfl)) (has _ (List.mem_of_getElem? (i := 1) rfl)) (has _ (List.mem_of_getElem? (i := 2) rfl)) hσ h
def SX10_slips : zS := fun as σ Ret => match as with
  | [.inr (.inr (10, 0, _)), .inl w, .inl t] => q_S10 (q_gSlips w t) q_fId σ Ret
  | _ => False
def tX10_slips_0 (X : Nat → zB) (Ret : zR) (L : zL) (st : List zV) (σ : zM) : Prop := (z_aload 0 (z_push 0 (z_puti 10 0 (z_aload 0 (z_iload 1 (z_cv1 10 SX10_isWind (z_ifeq (z_push (-1000001) (z_iret Ret)) (z_iload 2 (z_cs1 SX10_isApart (z_ifne (z_aload 0 (z_cv0 10 SX10_layLengths (z_aload 0 (z_iload 1 (z_iload 2 (z_cv2 10 SX10_slipsIn (z_iret Ret))))))) (z_push (-1000001) (z_iret Ret)))))))))))) L st σ
theorem pX10_slips {as : List zV} {σ : zM} {Ret : zR} (h : SX10_slips as σ Ret) : ∃ (k0 : Nat) (x1 : Int) (x2 : Int), as = [.inr (.inr (10, 0, k0)), .inl x1, .inl x2] := by
  unfold SX10_slips at h
  split at h
  · exact ⟨_, _, _, rfl⟩
  · exact h.elim
set_option maxRecDepth 10000 in
set_option maxHeartbeats 4000000 in
theorem vX10_slips {X : Nat → zB} {Ret : zR} (h0 : ∀ L st σ, tX10_slips_0 X Ret L st σ → X 0 L st σ) (k0 : Nat) (x1 : Int) (x2 : Int) (σ : zM) (hk0 : z_kd k0 = (10, 0)) (hx1 : -2147483648 ≤ x1 ∧ x1 ≤ 2147483647) (hx2 : -2147483648 ≤ x2 ∧ x2 ≤ 2147483647) (hσ : z_okm σ) (h : SX10_slips [.inr (.inr (10, 0, k0)), .inl x1, .inl x2] σ Ret) : X 0 [some (.inr (.inr (10, 0, k0))), some (.inl x1), some (.inl x2)] [] σ := by
  obtain ⟨m, h⟩ := h
  obtain rfl := z_kd10 hk0
  have K := m.2.1.1
  have K0 := K.1.1
  have K1 := K.1.2.1
  have e1 : z_up σ 89 0 0 93 1 = σ 93 1 := z_up_ne (by omega)
  by_cases c : ¬ ((0 ≤ x1 ∧ x1 < σ 93 1) ∧ 0 ≤ x2 ∧ x2 ≤ 99)
  · have fin := h (z_up σ 89 0 0) q_th.1 q_th.2
    simp only [q_gSlips, if_pos c] at fin
    refine h0 _ _ _ ?_
    simp only [z_push, z_lpush, z_iload, z_lload, z_aload, z_istore, z_istoreP, z_lstore, z_astore, z_iinc, z_iincP, z_iadd, z_isub, z_imul, z_iaddW, z_isubW, z_imulW, z_idiv, z_irem, z_iand, z_ior, z_ixor, z_ishl, z_ishr, z_iushr, z_ineg, z_i2l, z_i2b, z_i2s, z_i2c, z_l2i, z_ladd, z_lsub, z_land, z_lor, z_lshl, z_lshr, z_lcmp, z_dup, z_pop, z_dup2, z_goto, z_tsw, z_cases, z_geti, z_getr, z_puti, z_putz, z_ald, z_iast, z_bast, z_zast, z_alen, z_acopy, z_mmax, z_mmin, z_mabs, z_mabsL, z_iret, z_zret, z_nret, z_lret, z_aret, z_vret, z_cat, z_ldcs, z_strv, z_strc, z_gcs, z_gfm, z_sln, z_sald, z_ifeq, z_ifne, z_iflt, z_ifge, z_ifgt, z_ifle, z_iceq, z_icne, z_iclt, z_icge, z_icgt, z_icle, z_cs0, z_cs1, z_cs2, z_cs3, z_cs4, z_cs5, z_cs6, z_cs7, z_cv0, z_cv1, z_cv2, z_cv3, z_cv4, z_cv5, z_cv6, z_cv7, z_g0, z_s0, z_g1, z_s1, z_g2, z_s2, z_g3, z_s3, z_g4, z_s4, z_g5, z_s5, z_g6, z_s6, z_g7, z_s7, z_g8, z_s8, z_g9, z_s9, z_g10, z_s10, z_g11, z_s11, z_g12, z_s12, z_g13, z_s13, z_b0, z_b1, z_b0n, z_b1n, z_up_far1, z_up_far2, z_up_far3, z_up_far4, z_up_far5, z_up_far6, Classical.not_not, not_true_eq_false, z_in, z_inL, Int.cast_ofNat_Int, Nat.reduceLeDiff, List.length_cons, List.length_nil, Nat.reduceAdd, Nat.zero_add, Nat.le_refl, true_and, and_true, List.length, Nat.reduceLT, true_or, or_true, false_or, or_false, false_and, and_false, not_true_eq_false, not_false_eq_true, forall_const, false_implies, true_implies, Int.reduceEq, Int.reduceLT, Int.reduceLE, Int.reduceAdd, Int.reduceSub, Int.reduceMul, Int.reduceNeg, Int.reduceToNat, Int.toNat_natCast, ↓reduceIte, reduceIte, Nat.reduceEqDiff, Nat.reduceSub, Nat.reduceMul, ne_eq, Int.zero_add, Int.add_zero, Int.sub_zero, Nat.add_zero, Int.ofNat_eq_natCast, tX10_slips_0, SX10_isWind, SX10_isApart, e1]
    repeat' (first | (intro _) | (with_reducible assumption) | (refine And.intro ?_ ?_))
    all_goals first | omega | assumption | (refine z_fin fin ?_ rfl; first | rfl | omega | (split <;> omega) | (split <;> split <;> omega)) | skip
  refine h0 _ _ _ ?_
  simp only [z_push, z_lpush, z_iload, z_lload, z_aload, z_istore, z_istoreP, z_lstore, z_astore, z_iinc, z_iincP, z_iadd, z_isub, z_imul, z_iaddW, z_isubW, z_imulW, z_idiv, z_irem, z_iand, z_ior, z_ixor, z_ishl, z_ishr, z_iushr, z_ineg, z_i2l, z_i2b, z_i2s, z_i2c, z_l2i, z_ladd, z_lsub, z_land, z_lor, z_lshl, z_lshr, z_lcmp, z_dup, z_pop, z_dup2, z_goto, z_tsw, z_cases, z_geti, z_getr, z_puti, z_putz, z_ald, z_iast, z_bast, z_zast, z_alen, z_acopy, z_mmax, z_mmin, z_mabs, z_mabsL, z_iret, z_zret, z_nret, z_lret, z_aret, z_vret, z_cat, z_ldcs, z_strv, z_strc, z_gcs, z_gfm, z_sln, z_sald, z_ifeq, z_ifne, z_iflt, z_ifge, z_ifgt, z_ifle, z_iceq, z_icne, z_iclt, z_icge, z_icgt, z_icle, z_cs0, z_cs1, z_cs2, z_cs3, z_cs4, z_cs5, z_cs6, z_cs7, z_cv0, z_cv1, z_cv2, z_cv3, z_cv4, z_cv5, z_cv6, z_cv7, z_g0, z_s0, z_g1, z_s1, z_g2, z_s2, z_g3, z_s3, z_g4, z_s4, z_g5, z_s5, z_g6, z_s6, z_g7, z_s7, z_g8, z_s8, z_g9, z_s9, z_g10, z_s10, z_g11, z_s11, z_g12, z_s12, z_g13, z_s13, z_b0, z_b1, z_b0n, z_b1n, z_up_far1, z_up_far2, z_up_far3, z_up_far4, z_up_far5, z_up_far6, Classical.not_not, not_true_eq_false, z_in, z_inL, Int.cast_ofNat_Int, Nat.reduceLeDiff, List.length_cons, List.length_nil, Nat.reduceAdd, Nat.zero_add, Nat.le_refl, true_and, and_true, List.length, Nat.reduceLT, true_or, or_true, false_or, or_false, false_and, and_false, not_true_eq_false, not_false_eq_true, forall_const, false_implies, true_implies, Int.reduceEq, Int.reduceLT, Int.reduceLE, Int.reduceAdd, Int.reduceSub, Int.reduceMul, Int.reduceNeg, Int.reduceToNat, Int.toNat_natCast, ↓reduceIte, reduceIte, Nat.reduceEqDiff, Nat.reduceSub, Nat.reduceMul, ne_eq, Int.zero_add, Int.add_zero, Int.sub_zero, Nat.add_zero, Int.ofNat_eq_natCast, tX10_slips_0, SX10_isWind, SX10_isApart, SX10_layLengths, SX10_slipsIn, e1]
  refine ⟨by omega, fun e => absurd e (by omega), fun _ => ⟨fun _ σ1 f1 f2 => ?_, fun e => absurd e (by omega)⟩⟩
  have e93 : σ1 93 = σ 93 := funext fun j => by rw [f1 93 j (by omega), z_up_ne (by omega)]
  refine ⟨σ 93, ⟨by rw [e93]; exact K, K, q_ly_id K (fun j => by rw [e93]) (fun j hj => by rw [f2 j hj, z_up_ne (by omega), Nat.add_zero]), by omega, by omega⟩, fun σ2 f3 => ?_⟩
  have fin := h σ2 (fun c hc => funext fun j => by rw [f3 c j (by omega), f1 c j (by omega), z_up_ne (by omega)]) (fun c j hc => by
    unfold q_last at hc
    rw [f3 c j (by omega), f1 c j (by omega), z_up_ne (by omega)]
    rfl)
  simp only [q_gSlips, if_neg c] at fin
  exact fin
theorem dX10_slips_0 : decode cX10_slips 0 = .ok (.aload_n 0, 1) := by decide +kernel
theorem dX10_slips_1 : decode cX10_slips 1 = .ok (.iconst 0, 1) := by decide +kernel
theorem dX10_slips_2 : decode cX10_slips 2 = .ok (.putfield 65, 3) := by decide +kernel
theorem dX10_slips_5 : decode cX10_slips 5 = .ok (.aload_n 0, 1) := by decide +kernel
theorem dX10_slips_6 : decode cX10_slips 6 = .ok (.iload_n 1, 1) := by decide +kernel
theorem dX10_slips_7 : decode cX10_slips 7 = .ok (.invokevirtual 253, 3) := by decide +kernel
theorem dX10_slips_10 : decode cX10_slips 10 = .ok (.ifCond .eq 10, 3) := by decide +kernel
theorem dX10_slips_13 : decode cX10_slips 13 = .ok (.iload_n 2, 1) := by decide +kernel
theorem dX10_slips_14 : decode cX10_slips 14 = .ok (.invokestatic 273, 3) := by decide +kernel
theorem dX10_slips_17 : decode cX10_slips 17 = .ok (.ifCond .ne 6, 3) := by decide +kernel
theorem dX10_slips_20 : decode cX10_slips 20 = .ok (.ldc 85, 2) := by decide +kernel
theorem dX10_slips_22 : decode cX10_slips 22 = .ok (.ireturn, 1) := by decide +kernel
theorem dX10_slips_23 : decode cX10_slips 23 = .ok (.aload_n 0, 1) := by decide +kernel
theorem dX10_slips_24 : decode cX10_slips 24 = .ok (.invokevirtual 232, 3) := by decide +kernel
theorem dX10_slips_27 : decode cX10_slips 27 = .ok (.aload_n 0, 1) := by decide +kernel
theorem dX10_slips_28 : decode cX10_slips 28 = .ok (.iload_n 1, 1) := by decide +kernel
theorem dX10_slips_29 : decode cX10_slips 29 = .ok (.iload_n 2, 1) := by decide +kernel
theorem dX10_slips_30 : decode cX10_slips 30 = .ok (.invokevirtual 276, 3) := by decide +kernel
theorem dX10_slips_33 : decode cX10_slips 33 = .ok (.ireturn, 1) := by decide +kernel
set_option maxRecDepth 100000 in
theorem rX10_slips_0 {p : Program} {l : Launch} {e : Env} {s : State} {m : MethodId} {args : Array Value} {below : List Frame} {meth : Method} {c : Code} {D : va_G} {cA : Nat → ClassId} {ad : Nat → Nat} {Ret : zR} (C : z_Cx p { frames := 4, cells := 0, slots := 0, locals := 90 } s m args c cX10_slips yX10_slips.cls 3 D cA ad) (hr : meth.sig.returnType = (some .int)) (hlocks : meth.locks = false) : ∀ L st σ, tX10_slips_0 (z_X p l e { frames := 4, cells := 0, slots := 0, locals := 90 } s m args below meth c (MQ below (z_Qc D cA ad Ret) args s 0 0 (z_A ad)) 3 D cA ad true) Ret L st σ → z_X p l e { frames := 4, cells := 0, slots := 0, locals := 90 } s m args below meth c (MQ below (z_Qc D cA ad Ret) args s 0 0 (z_A ad)) 3 D cA ad true 0 L st σ := (s_aload_n C dX10_slips_0 rfl (s_iconst C dX10_slips_1 rfl ⟨by decide, by decide⟩ (s_puti C dX10_slips_2 cls_X10 (by decide) rfl wd_968 rfl rfl (s_aload_n C dX10_slips_5 rfl (s_iload_n C dX10_slips_6 rfl (s_cv1 C dX10_slips_7 (okX10_isWind l) cls_X10 wd_1257 wd_1259 wd_59 wd_85 wd_1260 ⟨by decide, by decide, by decide +kernel⟩ ⟨by decide, by decide⟩ (s_ifeq C dX10_slips_10 (by decide) (s_ldc C dX10_slips_20 (v := -1000001) wd_1086 ⟨by decide, by decide⟩ (s_iret C dX10_slips_22 hr hlocks)) (s_iload_n C dX10_slips_13 rfl (s_cs1 C dX10_slips_14 (okX10_isApart l) wd_1273 wd_1274 wd_85 wd_1275 ⟨by decide, by decide, by decide +kernel⟩ ⟨by decide, by decide⟩ (s_ifne C dX10_slips_17 (by decide) (s_aload_n C dX10_slips_23 rfl (s_cv0 C dX10_slips_24 (okX10_layLengths l) cls_X10 wd_1228 wd_1230 wd_54 wd_85 wd_1231 ⟨by decide, by decide, by decide +kernel⟩ ⟨by decide, by decide⟩ (s_aload_n C dX10_slips_27 rfl (s_iload_n C dX10_slips_28 rfl (s_iload_n C dX10_slips_29 rfl (s_cv2 C dX10_slips_30 (okX10_slipsIn l) cls_X10 wd_1277 wd_1279 wd_62 wd_85 wd_1280 ⟨by decide, by decide, by decide +kernel⟩ ⟨by decide, by decide⟩ (s_iret C dX10_slips_33 hr hlocks))))))) (s_ldc C dX10_slips_20 (v := -1000001) wd_1086 ⟨by decide, by decide⟩ (s_iret C dX10_slips_22 hr hlocks))))))))))))
theorem okX10_slips (l : Launch) : z_OK l yX10_slips cX10_slips 3 (some .int) 4 90 SX10_slips := by
  refine z_ok_of true (by decide +kernel) ?_ ?_
  · intro as σ Ret h
    obtain ⟨k0, x1, x2, rfl⟩ := pX10_slips h
    exact ⟨Nat.le_of_ble_eq_true rfl, by simp⟩
  · intro p e s m args below meth c D cA ad Ret C hr hlocks as σ has hσ h
    obtain ⟨k0, x1, x2, rfl⟩ := pX10_slips h
    exact vX10_slips (rX10_slips_0 C hr hlocks) k0 x1 x2 σ (has _ (List.mem_of_getElem? (i := 0) rfl)) (has _ (List.mem_of_getElem? (i := 1) rfl)) (has _ (List.mem_of_getElem? (i := 2) rfl)) hσ h
/-! buzzing in the model -/
def SX10_buzzNow : zS := fun as σ Ret => match as with
  | [.inr (.inr (10, 0, _))] => ((0 ≤ σ 89 24 ∧ σ 89 24 ≤ 12) ∧ (∀ i : Nat, (i : Int) < σ 89 24 → 0 ≤ σ 99 i ∧ σ 99 i ≤ 20000) ∧ ∀ i : Nat, (i : Int) < σ 89 24 → 0 ≤ σ 100 i ∧ σ 100 i < 12) ∧ Ret (some (.inl (q_bo (σ 99) (fun i => (σ 100 i).toNat) (σ 89 24).toNat (σ 89 24).toNat))) σ
  | _ => False
def tX10_buzzNow_0 (X : Nat → zB) (Ret : zR) (L : zL) (st : List zV) (σ : zM) : Prop := (z_push 0 (z_istore 1 (z_push 0 (z_istore 2 (X 4))))) L st σ
def tX10_buzzNow_4 (X : Nat → zB) (Ret : zR) (L : zL) (st : List zV) (σ : zM) : Prop := (z_iload 2 (z_aload 0 (z_geti 10 24 (z_icge (z_iload 1 (z_iret Ret)) (z_push 0 (z_istore 3 (X 14))))))) L st σ
def tX10_buzzNow_14 (X : Nat → zB) (Ret : zR) (L : zL) (st : List zV) (σ : zM) : Prop := (z_iload 3 (z_aload 0 (z_geti 10 24 (z_icge (z_iinc 2 1 (z_goto (X 4))) (z_aload 0 (z_getr 10 10 100 12 (z_iload 2 (z_ald 0 (z_aload 0 (z_getr 10 10 100 12 (z_iload 3 (z_ald 0 (z_iceq (z_push 0 (z_istore 4 (z_iload 1 (z_iload 4 (z_ifeq (z_push 0 (z_ior (z_istore 1 (z_iinc 3 1 (z_goto (X 14)))))) (z_push 1 (z_aload 0 (z_getr 10 11 100 12 (z_iload 2 (z_ald 0 (z_ishl (z_goto (z_ior (z_istore 1 (z_iinc 3 1 (z_goto (X 14))))))))))))))))) (z_aload 0 (z_getr 10 10 100 12 (z_iload 2 (z_ald 0 (z_aload 0 (z_getr 10 10 100 12 (z_iload 3 (z_ald 0 (z_push 3 (z_cs3 SX10_isNear (z_ifeq (z_push 0 (z_istore 4 (z_iload 1 (z_iload 4 (z_ifeq (z_push 0 (z_ior (z_istore 1 (z_iinc 3 1 (z_goto (X 14)))))) (z_push 1 (z_aload 0 (z_getr 10 11 100 12 (z_iload 2 (z_ald 0 (z_ishl (z_goto (z_ior (z_istore 1 (z_iinc 3 1 (z_goto (X 14))))))))))))))))) (z_push 1 (z_goto (z_istore 4 (z_iload 1 (z_iload 4 (z_ifeq (z_push 0 (z_ior (z_istore 1 (z_iinc 3 1 (z_goto (X 14)))))) (z_push 1 (z_aload 0 (z_getr 10 11 100 12 (z_iload 2 (z_ald 0 (z_ishl (z_goto (z_ior (z_istore 1 (z_iinc 3 1 (z_goto (X 14)))))))))))))))))))))))))))))))))))))))))) L st σ
theorem pX10_buzzNow {as : List zV} {σ : zM} {Ret : zR} (h : SX10_buzzNow as σ Ret) : ∃ (k0 : Nat), as = [.inr (.inr (10, 0, k0))] := by
  unfold SX10_buzzNow at h
  split at h
  · exact ⟨_, rfl⟩
  · exact h.elim
set_option maxRecDepth 10000 in
set_option maxHeartbeats 4000000 in
theorem vX10_buzzNow {X : Nat → zB} {Ret : zR} (h0 : ∀ L st σ, tX10_buzzNow_0 X Ret L st σ → X 0 L st σ) (h4 : ∀ L st σ, tX10_buzzNow_4 X Ret L st σ → X 4 L st σ) (h14 : ∀ L st σ, tX10_buzzNow_14 X Ret L st σ → X 14 L st σ) (k0 : Nat) (σ : zM) (hk0 : z_kd k0 = (10, 0)) (hσ : z_okm σ) (h : SX10_buzzNow [.inr (.inr (10, 0, k0))] σ Ret) : X 0 [some (.inr (.inr (10, 0, k0))), none, none, none, none] [] σ := by
  obtain ⟨⟨⟨c0, c1⟩, hr, htr⟩, h⟩ := h
  obtain rfl := z_kd10 hk0
  obtain ⟨cnt, hcnt⟩ := z_nat c0
  rw [hcnt] at h
  simp only [Int.toNat_natCast] at h
  generalize htt : (fun i => (σ 100 i).toNat) = tr at h
  have ht : ∀ i, i < cnt → tr i < 12 ∧ σ 100 i = (tr i : Int) := fun i hi => by
    have := htr i (by omega)
    rw [← htt]
    simp only
    omega
  have b0 := q_bo_lt (a := σ 99) (cnt := cnt) (fun i hi => (ht i hi).1)
  have L4 : ∀ (d i : Nat) (u v : Option zV), i + d = cnt → X 4 [some (.inr (.inr (10, 0, 89))), some (.inl (q_bo (σ 99) tr cnt i : Int)), some (.inl (i : Int)), u, v] [] σ := by
    intro d
    induction d with
    | zero =>
      intro i u v hi
      have e : i = cnt := by omega
      subst e
      refine h4 _ _ _ ?_
      simp only [z_push, z_lpush, z_iload, z_lload, z_aload, z_istore, z_istoreP, z_lstore, z_astore, z_iinc, z_iincP, z_iadd, z_isub, z_imul, z_iaddW, z_isubW, z_imulW, z_idiv, z_irem, z_iand, z_ior, z_ixor, z_ishl, z_ishr, z_iushr, z_ineg, z_i2l, z_i2b, z_i2s, z_i2c, z_l2i, z_ladd, z_lsub, z_land, z_lor, z_lshl, z_lshr, z_lcmp, z_dup, z_pop, z_dup2, z_goto, z_tsw, z_cases, z_geti, z_getr, z_puti, z_putz, z_ald, z_iast, z_bast, z_zast, z_alen, z_acopy, z_mmax, z_mmin, z_mabs, z_mabsL, z_iret, z_zret, z_nret, z_lret, z_aret, z_vret, z_cat, z_ldcs, z_strv, z_strc, z_gcs, z_gfm, z_sln, z_sald, z_ifeq, z_ifne, z_iflt, z_ifge, z_ifgt, z_ifle, z_iceq, z_icne, z_iclt, z_icge, z_icgt, z_icle, z_cs0, z_cs1, z_cs2, z_cs3, z_cs4, z_cs5, z_cs6, z_cs7, z_cv0, z_cv1, z_cv2, z_cv3, z_cv4, z_cv5, z_cv6, z_cv7, z_g0, z_s0, z_g1, z_s1, z_g2, z_s2, z_g3, z_s3, z_g4, z_s4, z_g5, z_s5, z_g6, z_s6, z_g7, z_s7, z_g8, z_s8, z_g9, z_s9, z_g10, z_s10, z_g11, z_s11, z_g12, z_s12, z_g13, z_s13, z_b0, z_b1, z_b0n, z_b1n, z_up_far1, z_up_far2, z_up_far3, z_up_far4, z_up_far5, z_up_far6, Classical.not_not, not_true_eq_false, z_in, z_inL, Int.cast_ofNat_Int, Nat.reduceLeDiff, List.length_cons, List.length_nil, Nat.reduceAdd, Nat.zero_add, Nat.le_refl, true_and, and_true, List.length, Nat.reduceLT, true_or, or_true, false_or, or_false, false_and, and_false, not_true_eq_false, not_false_eq_true, forall_const, false_implies, true_implies, Int.reduceEq, Int.reduceLT, Int.reduceLE, Int.reduceAdd, Int.reduceSub, Int.reduceMul, Int.reduceNeg, Int.reduceToNat, Int.toNat_natCast, ↓reduceIte, reduceIte, Nat.reduceEqDiff, Nat.reduceSub, Nat.reduceMul, ne_eq, Int.zero_add, Int.add_zero, Int.sub_zero, Nat.add_zero, Int.ofNat_eq_natCast, tX10_buzzNow_4, hcnt]
      repeat' (first | (intro _) | (with_reducible assumption) | (refine And.intro ?_ ?_))
      all_goals first | omega | assumption | (refine z_fin h ?_ rfl; first | rfl | omega | (split <;> omega) | (split <;> split <;> omega)) | skip
    | succ d ih =>
      intro i u v hi
      obtain ⟨ti, te⟩ := ht i (by omega)
      have pi : 2 ^ tr i < 4096 := Nat.pow_lt_pow_right (by decide) (show tr i < 12 from ti)
      have L14 : ∀ (d j : Nat) (v : Option zV), j + d = cnt → X 14 [some (.inr (.inr (10, 0, 89))), some (.inl ((q_bo (σ 99) tr cnt i ||| q_bi (σ 99) i (2 ^ tr i) j : Nat) : Int)), some (.inl (i : Int)), some (.inl (j : Int)), v] [] σ := by
        intro d
        induction d with
        | zero =>
          intro j v hj
          have e : j = cnt := by omega
          subst e
          have nx := ih (i + 1) (some (.inl (j : Int))) v (by omega)
          rw [q_bo] at nx
          refine h14 _ _ _ ?_
          simp only [z_push, z_lpush, z_iload, z_lload, z_aload, z_istore, z_istoreP, z_lstore, z_astore, z_iinc, z_iincP, z_iadd, z_isub, z_imul, z_iaddW, z_isubW, z_imulW, z_idiv, z_irem, z_iand, z_ior, z_ixor, z_ishl, z_ishr, z_iushr, z_ineg, z_i2l, z_i2b, z_i2s, z_i2c, z_l2i, z_ladd, z_lsub, z_land, z_lor, z_lshl, z_lshr, z_lcmp, z_dup, z_pop, z_dup2, z_goto, z_tsw, z_cases, z_geti, z_getr, z_puti, z_putz, z_ald, z_iast, z_bast, z_zast, z_alen, z_acopy, z_mmax, z_mmin, z_mabs, z_mabsL, z_iret, z_zret, z_nret, z_lret, z_aret, z_vret, z_cat, z_ldcs, z_strv, z_strc, z_gcs, z_gfm, z_sln, z_sald, z_ifeq, z_ifne, z_iflt, z_ifge, z_ifgt, z_ifle, z_iceq, z_icne, z_iclt, z_icge, z_icgt, z_icle, z_cs0, z_cs1, z_cs2, z_cs3, z_cs4, z_cs5, z_cs6, z_cs7, z_cv0, z_cv1, z_cv2, z_cv3, z_cv4, z_cv5, z_cv6, z_cv7, z_g0, z_s0, z_g1, z_s1, z_g2, z_s2, z_g3, z_s3, z_g4, z_s4, z_g5, z_s5, z_g6, z_s6, z_g7, z_s7, z_g8, z_s8, z_g9, z_s9, z_g10, z_s10, z_g11, z_s11, z_g12, z_s12, z_g13, z_s13, z_b0, z_b1, z_b0n, z_b1n, z_up_far1, z_up_far2, z_up_far3, z_up_far4, z_up_far5, z_up_far6, Classical.not_not, not_true_eq_false, z_in, z_inL, Int.cast_ofNat_Int, Nat.reduceLeDiff, List.length_cons, List.length_nil, Nat.reduceAdd, Nat.zero_add, Nat.le_refl, true_and, and_true, List.length, Nat.reduceLT, true_or, or_true, false_or, or_false, false_and, and_false, not_true_eq_false, not_false_eq_true, forall_const, false_implies, true_implies, Int.reduceEq, Int.reduceLT, Int.reduceLE, Int.reduceAdd, Int.reduceSub, Int.reduceMul, Int.reduceNeg, Int.reduceToNat, Int.toNat_natCast, ↓reduceIte, reduceIte, Nat.reduceEqDiff, Nat.reduceSub, Nat.reduceMul, ne_eq, Int.zero_add, Int.add_zero, Int.sub_zero, Nat.add_zero, Int.ofNat_eq_natCast, tX10_buzzNow_14, hcnt]
          repeat' (first | (intro _) | (with_reducible assumption) | (refine And.intro ?_ ?_))
          all_goals first | omega | assumption | (refine z_fin nx ?_ rfl; first | rfl | omega | (split <;> omega) | (split <;> split <;> omega)) | skip
        | succ d ih2 =>
          intro j v hj
          have e1 := fun v => ih2 (j + 1) v (by omega)
          have l1 : (q_bo (σ 99) tr cnt i ||| q_bi (σ 99) i (2 ^ tr i) j) < 4096 := Nat.or_lt_two_pow (n := 12) (b0 i (by omega)) (q_bi_lt pi j)
          have r1 := hr i (by omega)
          have r2 := hr j (by omega)
          rw [q_bi, ← Nat.or_assoc] at e1
          have z0 : (Int32.ofInt ((q_bo (σ 99) tr cnt i ||| q_bi (σ 99) i (2 ^ tr i) j : Nat) : Int) ||| Int32.ofInt 0).toInt = ((q_bo (σ 99) tr cnt i ||| q_bi (σ 99) i (2 ^ tr i) j : Nat) : Int) := by
            have := z_bor (x := q_bo (σ 99) tr cnt i ||| q_bi (σ 99) i (2 ^ tr i) j) (y := 0) (by omega) (by omega)
            rw [Nat.or_zero] at this
            exact this
          by_cases c : ¬ σ 99 i = σ 99 j ∧ σ 99 i - σ 99 j ≤ 3 ∧ σ 99 j - σ 99 i ≤ 3
          · rw [if_pos c, ← z_bor (by omega) (by omega)] at e1
            refine h14 _ _ _ ?_
            simp only [z_push, z_lpush, z_iload, z_lload, z_aload, z_istore, z_istoreP, z_lstore, z_astore, z_iinc, z_iincP, z_iadd, z_isub, z_imul, z_iaddW, z_isubW, z_imulW, z_idiv, z_irem, z_iand, z_ior, z_ixor, z_ishl, z_ishr, z_iushr, z_ineg, z_i2l, z_i2b, z_i2s, z_i2c, z_l2i, z_ladd, z_lsub, z_land, z_lor, z_lshl, z_lshr, z_lcmp, z_dup, z_pop, z_dup2, z_goto, z_tsw, z_cases, z_geti, z_getr, z_puti, z_putz, z_ald, z_iast, z_bast, z_zast, z_alen, z_acopy, z_mmax, z_mmin, z_mabs, z_mabsL, z_iret, z_zret, z_nret, z_lret, z_aret, z_vret, z_cat, z_ldcs, z_strv, z_strc, z_gcs, z_gfm, z_sln, z_sald, z_ifeq, z_ifne, z_iflt, z_ifge, z_ifgt, z_ifle, z_iceq, z_icne, z_iclt, z_icge, z_icgt, z_icle, z_cs0, z_cs1, z_cs2, z_cs3, z_cs4, z_cs5, z_cs6, z_cs7, z_cv0, z_cv1, z_cv2, z_cv3, z_cv4, z_cv5, z_cv6, z_cv7, z_g0, z_s0, z_g1, z_s1, z_g2, z_s2, z_g3, z_s3, z_g4, z_s4, z_g5, z_s5, z_g6, z_s6, z_g7, z_s7, z_g8, z_s8, z_g9, z_s9, z_g10, z_s10, z_g11, z_s11, z_g12, z_s12, z_g13, z_s13, z_b0, z_b1, z_b0n, z_b1n, z_up_far1, z_up_far2, z_up_far3, z_up_far4, z_up_far5, z_up_far6, Classical.not_not, not_true_eq_false, z_in, z_inL, Int.cast_ofNat_Int, Nat.reduceLeDiff, List.length_cons, List.length_nil, Nat.reduceAdd, Nat.zero_add, Nat.le_refl, true_and, and_true, List.length, Nat.reduceLT, true_or, or_true, false_or, or_false, false_and, and_false, not_true_eq_false, not_false_eq_true, forall_const, false_implies, true_implies, Int.reduceEq, Int.reduceLT, Int.reduceLE, Int.reduceAdd, Int.reduceSub, Int.reduceMul, Int.reduceNeg, Int.reduceToNat, Int.toNat_natCast, ↓reduceIte, reduceIte, Nat.reduceEqDiff, Nat.reduceSub, Nat.reduceMul, ne_eq, Int.zero_add, Int.add_zero, Int.sub_zero, Nat.add_zero, Int.ofNat_eq_natCast, tX10_buzzNow_14, hcnt, SX10_isNear, te, z_shl1 (tr i) ti, c]
            repeat' (first | (intro _) | (with_reducible assumption) | (refine And.intro ?_ ?_))
            all_goals first | omega | assumption | (refine z_fin h ?_ rfl; first | rfl | omega | (split <;> omega) | (split <;> split <;> omega)) | skip
            all_goals exact e1 _
          · rw [if_neg c, Nat.or_zero, ← z0] at e1
            refine h14 _ _ _ ?_
            simp only [z_push, z_lpush, z_iload, z_lload, z_aload, z_istore, z_istoreP, z_lstore, z_astore, z_iinc, z_iincP, z_iadd, z_isub, z_imul, z_iaddW, z_isubW, z_imulW, z_idiv, z_irem, z_iand, z_ior, z_ixor, z_ishl, z_ishr, z_iushr, z_ineg, z_i2l, z_i2b, z_i2s, z_i2c, z_l2i, z_ladd, z_lsub, z_land, z_lor, z_lshl, z_lshr, z_lcmp, z_dup, z_pop, z_dup2, z_goto, z_tsw, z_cases, z_geti, z_getr, z_puti, z_putz, z_ald, z_iast, z_bast, z_zast, z_alen, z_acopy, z_mmax, z_mmin, z_mabs, z_mabsL, z_iret, z_zret, z_nret, z_lret, z_aret, z_vret, z_cat, z_ldcs, z_strv, z_strc, z_gcs, z_gfm, z_sln, z_sald, z_ifeq, z_ifne, z_iflt, z_ifge, z_ifgt, z_ifle, z_iceq, z_icne, z_iclt, z_icge, z_icgt, z_icle, z_cs0, z_cs1, z_cs2, z_cs3, z_cs4, z_cs5, z_cs6, z_cs7, z_cv0, z_cv1, z_cv2, z_cv3, z_cv4, z_cv5, z_cv6, z_cv7, z_g0, z_s0, z_g1, z_s1, z_g2, z_s2, z_g3, z_s3, z_g4, z_s4, z_g5, z_s5, z_g6, z_s6, z_g7, z_s7, z_g8, z_s8, z_g9, z_s9, z_g10, z_s10, z_g11, z_s11, z_g12, z_s12, z_g13, z_s13, z_b0, z_b1, z_b0n, z_b1n, z_up_far1, z_up_far2, z_up_far3, z_up_far4, z_up_far5, z_up_far6, Classical.not_not, not_true_eq_false, z_in, z_inL, Int.cast_ofNat_Int, Nat.reduceLeDiff, List.length_cons, List.length_nil, Nat.reduceAdd, Nat.zero_add, Nat.le_refl, true_and, and_true, List.length, Nat.reduceLT, true_or, or_true, false_or, or_false, false_and, and_false, not_true_eq_false, not_false_eq_true, forall_const, false_implies, true_implies, Int.reduceEq, Int.reduceLT, Int.reduceLE, Int.reduceAdd, Int.reduceSub, Int.reduceMul, Int.reduceNeg, Int.reduceToNat, Int.toNat_natCast, ↓reduceIte, reduceIte, Nat.reduceEqDiff, Nat.reduceSub, Nat.reduceMul, ne_eq, Int.zero_add, Int.add_zero, Int.sub_zero, Nat.add_zero, Int.ofNat_eq_natCast, tX10_buzzNow_14, hcnt, SX10_isNear, te, z_shl1 (tr i) ti]
            repeat' (first | (intro _) | (with_reducible assumption) | (refine And.intro ?_ ?_))
            all_goals first | omega | assumption | (refine z_fin h ?_ rfl; first | rfl | omega | (split <;> omega) | (split <;> split <;> omega)) | skip
            all_goals first | exact e1 _ | (exfalso; omega)
      have e1 := fun v => L14 cnt 0 v (by omega)
      rw [show q_bi (σ 99) i (2 ^ tr i) 0 = 0 from rfl, Nat.or_zero] at e1
      refine h4 _ _ _ ?_
      simp only [z_push, z_lpush, z_iload, z_lload, z_aload, z_istore, z_istoreP, z_lstore, z_astore, z_iinc, z_iincP, z_iadd, z_isub, z_imul, z_iaddW, z_isubW, z_imulW, z_idiv, z_irem, z_iand, z_ior, z_ixor, z_ishl, z_ishr, z_iushr, z_ineg, z_i2l, z_i2b, z_i2s, z_i2c, z_l2i, z_ladd, z_lsub, z_land, z_lor, z_lshl, z_lshr, z_lcmp, z_dup, z_pop, z_dup2, z_goto, z_tsw, z_cases, z_geti, z_getr, z_puti, z_putz, z_ald, z_iast, z_bast, z_zast, z_alen, z_acopy, z_mmax, z_mmin, z_mabs, z_mabsL, z_iret, z_zret, z_nret, z_lret, z_aret, z_vret, z_cat, z_ldcs, z_strv, z_strc, z_gcs, z_gfm, z_sln, z_sald, z_ifeq, z_ifne, z_iflt, z_ifge, z_ifgt, z_ifle, z_iceq, z_icne, z_iclt, z_icge, z_icgt, z_icle, z_cs0, z_cs1, z_cs2, z_cs3, z_cs4, z_cs5, z_cs6, z_cs7, z_cv0, z_cv1, z_cv2, z_cv3, z_cv4, z_cv5, z_cv6, z_cv7, z_g0, z_s0, z_g1, z_s1, z_g2, z_s2, z_g3, z_s3, z_g4, z_s4, z_g5, z_s5, z_g6, z_s6, z_g7, z_s7, z_g8, z_s8, z_g9, z_s9, z_g10, z_s10, z_g11, z_s11, z_g12, z_s12, z_g13, z_s13, z_b0, z_b1, z_b0n, z_b1n, z_up_far1, z_up_far2, z_up_far3, z_up_far4, z_up_far5, z_up_far6, Classical.not_not, not_true_eq_false, z_in, z_inL, Int.cast_ofNat_Int, Nat.reduceLeDiff, List.length_cons, List.length_nil, Nat.reduceAdd, Nat.zero_add, Nat.le_refl, true_and, and_true, List.length, Nat.reduceLT, true_or, or_true, false_or, or_false, false_and, and_false, not_true_eq_false, not_false_eq_true, forall_const, false_implies, true_implies, Int.reduceEq, Int.reduceLT, Int.reduceLE, Int.reduceAdd, Int.reduceSub, Int.reduceMul, Int.reduceNeg, Int.reduceToNat, Int.toNat_natCast, ↓reduceIte, reduceIte, Nat.reduceEqDiff, Nat.reduceSub, Nat.reduceMul, ne_eq, Int.zero_add, Int.add_zero, Int.sub_zero, Nat.add_zero, Int.ofNat_eq_natCast, tX10_buzzNow_4, hcnt]
      repeat' (first | (intro _) | (with_reducible assumption) | (refine And.intro ?_ ?_))
      all_goals first | omega | assumption | (refine z_fin h ?_ rfl; first | rfl | omega | (split <;> omega) | (split <;> split <;> omega)) | skip
      all_goals exact e1 _
  refine h0 _ _ _ ?_
  simp only [z_push, z_lpush, z_iload, z_lload, z_aload, z_istore, z_istoreP, z_lstore, z_astore, z_iinc, z_iincP, z_iadd, z_isub, z_imul, z_iaddW, z_isubW, z_imulW, z_idiv, z_irem, z_iand, z_ior, z_ixor, z_ishl, z_ishr, z_iushr, z_ineg, z_i2l, z_i2b, z_i2s, z_i2c, z_l2i, z_ladd, z_lsub, z_land, z_lor, z_lshl, z_lshr, z_lcmp, z_dup, z_pop, z_dup2, z_goto, z_tsw, z_cases, z_geti, z_getr, z_puti, z_putz, z_ald, z_iast, z_bast, z_zast, z_alen, z_acopy, z_mmax, z_mmin, z_mabs, z_mabsL, z_iret, z_zret, z_nret, z_lret, z_aret, z_vret, z_cat, z_ldcs, z_strv, z_strc, z_gcs, z_gfm, z_sln, z_sald, z_ifeq, z_ifne, z_iflt, z_ifge, z_ifgt, z_ifle, z_iceq, z_icne, z_iclt, z_icge, z_icgt, z_icle, z_cs0, z_cs1, z_cs2, z_cs3, z_cs4, z_cs5, z_cs6, z_cs7, z_cv0, z_cv1, z_cv2, z_cv3, z_cv4, z_cv5, z_cv6, z_cv7, z_g0, z_s0, z_g1, z_s1, z_g2, z_s2, z_g3, z_s3, z_g4, z_s4, z_g5, z_s5, z_g6, z_s6, z_g7, z_s7, z_g8, z_s8, z_g9, z_s9, z_g10, z_s10, z_g11, z_s11, z_g12, z_s12, z_g13, z_s13, z_b0, z_b1, z_b0n, z_b1n, z_up_far1, z_up_far2, z_up_far3, z_up_far4, z_up_far5, z_up_far6, Classical.not_not, not_true_eq_false, z_in, z_inL, Int.cast_ofNat_Int, Nat.reduceLeDiff, List.length_cons, List.length_nil, Nat.reduceAdd, Nat.zero_add, Nat.le_refl, true_and, and_true, List.length, Nat.reduceLT, true_or, or_true, false_or, or_false, false_and, and_false, not_true_eq_false, not_false_eq_true, forall_const, false_implies, true_implies, Int.reduceEq, Int.reduceLT, Int.reduceLE, Int.reduceAdd, Int.reduceSub, Int.reduceMul, Int.reduceNeg, Int.reduceToNat, Int.toNat_natCast, ↓reduceIte, reduceIte, Nat.reduceEqDiff, Nat.reduceSub, Nat.reduceMul, ne_eq, Int.zero_add, Int.add_zero, Int.sub_zero, Nat.add_zero, Int.ofNat_eq_natCast, tX10_buzzNow_0]
  exact L4 cnt 0 none none (by omega)
theorem dX10_buzzNow_0 : decode cX10_buzzNow 0 = .ok (.iconst 0, 1) := by decide +kernel
theorem dX10_buzzNow_1 : decode cX10_buzzNow 1 = .ok (.istore_n 1, 1) := by decide +kernel
theorem dX10_buzzNow_2 : decode cX10_buzzNow 2 = .ok (.iconst 0, 1) := by decide +kernel
theorem dX10_buzzNow_3 : decode cX10_buzzNow 3 = .ok (.istore_n 2, 1) := by decide +kernel
theorem dX10_buzzNow_4 : decode cX10_buzzNow 4 = .ok (.iload_n 2, 1) := by decide +kernel
theorem dX10_buzzNow_5 : decode cX10_buzzNow 5 = .ok (.aload_n 0, 1) := by decide +kernel
theorem dX10_buzzNow_6 : decode cX10_buzzNow 6 = .ok (.getfield 246, 3) := by decide +kernel
theorem dX10_buzzNow_9 : decode cX10_buzzNow 9 = .ok (.if_icmp .ge 86, 3) := by decide +kernel
theorem dX10_buzzNow_12 : decode cX10_buzzNow 12 = .ok (.iconst 0, 1) := by decide +kernel
theorem dX10_buzzNow_13 : decode cX10_buzzNow 13 = .ok (.istore_n 3, 1) := by decide +kernel
theorem dX10_buzzNow_14 : decode cX10_buzzNow 14 = .ok (.iload_n 3, 1) := by decide +kernel
theorem dX10_buzzNow_15 : decode cX10_buzzNow 15 = .ok (.aload_n 0, 1) := by decide +kernel
theorem dX10_buzzNow_16 : decode cX10_buzzNow 16 = .ok (.getfield 246, 3) := by decide +kernel
theorem dX10_buzzNow_19 : decode cX10_buzzNow 19 = .ok (.if_icmp .ge 70, 3) := by decide +kernel
theorem dX10_buzzNow_22 : decode cX10_buzzNow 22 = .ok (.aload_n 0, 1) := by decide +kernel
theorem dX10_buzzNow_23 : decode cX10_buzzNow 23 = .ok (.getfield 37, 3) := by decide +kernel
theorem dX10_buzzNow_26 : decode cX10_buzzNow 26 = .ok (.iload_n 2, 1) := by decide +kernel
theorem dX10_buzzNow_27 : decode cX10_buzzNow 27 = .ok (.iaload, 1) := by decide +kernel
theorem dX10_buzzNow_28 : decode cX10_buzzNow 28 = .ok (.aload_n 0, 1) := by decide +kernel
theorem dX10_buzzNow_29 : decode cX10_buzzNow 29 = .ok (.getfield 37, 3) := by decide +kernel
theorem dX10_buzzNow_32 : decode cX10_buzzNow 32 = .ok (.iload_n 3, 1) := by decide +kernel
theorem dX10_buzzNow_33 : decode cX10_buzzNow 33 = .ok (.iaload, 1) := by decide +kernel
theorem dX10_buzzNow_34 : decode cX10_buzzNow 34 = .ok (.if_icmp .eq 26, 3) := by decide +kernel
theorem dX10_buzzNow_37 : decode cX10_buzzNow 37 = .ok (.aload_n 0, 1) := by decide +kernel
theorem dX10_buzzNow_38 : decode cX10_buzzNow 38 = .ok (.getfield 37, 3) := by decide +kernel
theorem dX10_buzzNow_41 : decode cX10_buzzNow 41 = .ok (.iload_n 2, 1) := by decide +kernel
theorem dX10_buzzNow_42 : decode cX10_buzzNow 42 = .ok (.iaload, 1) := by decide +kernel
theorem dX10_buzzNow_43 : decode cX10_buzzNow 43 = .ok (.aload_n 0, 1) := by decide +kernel
theorem dX10_buzzNow_44 : decode cX10_buzzNow 44 = .ok (.getfield 37, 3) := by decide +kernel
theorem dX10_buzzNow_47 : decode cX10_buzzNow 47 = .ok (.iload_n 3, 1) := by decide +kernel
theorem dX10_buzzNow_48 : decode cX10_buzzNow 48 = .ok (.iaload, 1) := by decide +kernel
theorem dX10_buzzNow_49 : decode cX10_buzzNow 49 = .ok (.iconst 3, 1) := by decide +kernel
theorem dX10_buzzNow_50 : decode cX10_buzzNow 50 = .ok (.invokestatic 259, 3) := by decide +kernel
theorem dX10_buzzNow_53 : decode cX10_buzzNow 53 = .ok (.ifCond .eq 7, 3) := by decide +kernel
theorem dX10_buzzNow_56 : decode cX10_buzzNow 56 = .ok (.iconst 1, 1) := by decide +kernel
theorem dX10_buzzNow_57 : decode cX10_buzzNow 57 = .ok (.goto 4, 3) := by decide +kernel
theorem dX10_buzzNow_60 : decode cX10_buzzNow 60 = .ok (.iconst 0, 1) := by decide +kernel
theorem dX10_buzzNow_61 : decode cX10_buzzNow 61 = .ok (.istore 4, 2) := by decide +kernel
theorem dX10_buzzNow_63 : decode cX10_buzzNow 63 = .ok (.iload_n 1, 1) := by decide +kernel
theorem dX10_buzzNow_64 : decode cX10_buzzNow 64 = .ok (.iload 4, 2) := by decide +kernel
theorem dX10_buzzNow_66 : decode cX10_buzzNow 66 = .ok (.ifCond .eq 14, 3) := by decide +kernel
theorem dX10_buzzNow_69 : decode cX10_buzzNow 69 = .ok (.iconst 1, 1) := by decide +kernel
theorem dX10_buzzNow_70 : decode cX10_buzzNow 70 = .ok (.aload_n 0, 1) := by decide +kernel
theorem dX10_buzzNow_71 : decode cX10_buzzNow 71 = .ok (.getfield 40, 3) := by decide +kernel
theorem dX10_buzzNow_74 : decode cX10_buzzNow 74 = .ok (.iload_n 2, 1) := by decide +kernel
theorem dX10_buzzNow_75 : decode cX10_buzzNow 75 = .ok (.iaload, 1) := by decide +kernel
theorem dX10_buzzNow_76 : decode cX10_buzzNow 76 = .ok (.ishl, 1) := by decide +kernel
theorem dX10_buzzNow_77 : decode cX10_buzzNow 77 = .ok (.goto 4, 3) := by decide +kernel
theorem dX10_buzzNow_80 : decode cX10_buzzNow 80 = .ok (.iconst 0, 1) := by decide +kernel
theorem dX10_buzzNow_81 : decode cX10_buzzNow 81 = .ok (.ior, 1) := by decide +kernel
theorem dX10_buzzNow_82 : decode cX10_buzzNow 82 = .ok (.istore_n 1, 1) := by decide +kernel
theorem dX10_buzzNow_83 : decode cX10_buzzNow 83 = .ok (.iinc 3 1, 3) := by decide +kernel
theorem dX10_buzzNow_86 : decode cX10_buzzNow 86 = .ok (.goto (-72), 3) := by decide +kernel
theorem dX10_buzzNow_89 : decode cX10_buzzNow 89 = .ok (.iinc 2 1, 3) := by decide +kernel
theorem dX10_buzzNow_92 : decode cX10_buzzNow 92 = .ok (.goto (-88), 3) := by decide +kernel
theorem dX10_buzzNow_95 : decode cX10_buzzNow 95 = .ok (.iload_n 1, 1) := by decide +kernel
theorem dX10_buzzNow_96 : decode cX10_buzzNow 96 = .ok (.ireturn, 1) := by decide +kernel
set_option maxRecDepth 100000 in
theorem rX10_buzzNow_0 {p : Program} {l : Launch} {e : Env} {s : State} {m : MethodId} {args : Array Value} {below : List Frame} {meth : Method} {c : Code} {D : va_G} {cA : Nat → ClassId} {ad : Nat → Nat} {Ret : zR} (C : z_Cx p { frames := 1, cells := 0, slots := 0, locals := 22 } s m args c cX10_buzzNow yX10_buzzNow.cls 5 D cA ad) (hr : meth.sig.returnType = (some .int)) (hlocks : meth.locks = false) : ∀ L st σ, tX10_buzzNow_0 (z_X p l e { frames := 1, cells := 0, slots := 0, locals := 22 } s m args below meth c (MQ below (z_Qc D cA ad Ret) args s 0 0 (z_A ad)) 5 D cA ad true) Ret L st σ → z_X p l e { frames := 1, cells := 0, slots := 0, locals := 22 } s m args below meth c (MQ below (z_Qc D cA ad Ret) args s 0 0 (z_A ad)) 5 D cA ad true 0 L st σ := (s_iconst C dX10_buzzNow_0 rfl ⟨by decide, by decide⟩ (s_istore_n C dX10_buzzNow_1 (by decide) rfl rfl (s_iconst C dX10_buzzNow_2 rfl ⟨by decide, by decide⟩ (s_istore_n C dX10_buzzNow_3 (by decide) rfl rfl (fun _ _ _ h => h)))))
set_option maxRecDepth 100000 in
theorem rX10_buzzNow_4 {p : Program} {l : Launch} {e : Env} {s : State} {m : MethodId} {args : Array Value} {below : List Frame} {meth : Method} {c : Code} {D : va_G} {cA : Nat → ClassId} {ad : Nat → Nat} {Ret : zR} (C : z_Cx p { frames := 1, cells := 0, slots := 0, locals := 22 } s m args c cX10_buzzNow yX10_buzzNow.cls 5 D cA ad) (hr : meth.sig.returnType = (some .int)) (hlocks : meth.locks = false) : ∀ L st σ, tX10_buzzNow_4 (z_X p l e { frames := 1, cells := 0, slots := 0, locals := 22 } s m args below meth c (MQ below (z_Qc D cA ad Ret) args s 0 0 (z_A ad)) 5 D cA ad true) Ret L st σ → z_X p l e { frames := 1, cells := 0, slots := 0, locals := 22 } s m args below meth c (MQ below (z_Qc D cA ad Ret) args s 0 0 (z_A ad)) 5 D cA ad true 4 L st σ := (s_iload_n C dX10_buzzNow_4 rfl (s_aload_n C dX10_buzzNow_5 rfl (s_geti C dX10_buzzNow_6 cls_X10 (by decide) rfl wd_992 (s_icge C dX10_buzzNow_9 (by decide) (s_iload_n C dX10_buzzNow_95 rfl (s_iret C dX10_buzzNow_96 hr hlocks)) (s_iconst C dX10_buzzNow_12 rfl ⟨by decide, by decide⟩ (s_istore_n C dX10_buzzNow_13 (by decide) rfl rfl (fun _ _ _ h => h)))))))
set_option maxRecDepth 100000 in
theorem rX10_buzzNow_14 {p : Program} {l : Launch} {e : Env} {s : State} {m : MethodId} {args : Array Value} {below : List Frame} {meth : Method} {c : Code} {D : va_G} {cA : Nat → ClassId} {ad : Nat → Nat} {Ret : zR} (C : z_Cx p { frames := 1, cells := 0, slots := 0, locals := 22 } s m args c cX10_buzzNow yX10_buzzNow.cls 5 D cA ad) (hr : meth.sig.returnType = (some .int)) (hlocks : meth.locks = false) : ∀ L st σ, tX10_buzzNow_14 (z_X p l e { frames := 1, cells := 0, slots := 0, locals := 22 } s m args below meth c (MQ below (z_Qc D cA ad Ret) args s 0 0 (z_A ad)) 5 D cA ad true) Ret L st σ → z_X p l e { frames := 1, cells := 0, slots := 0, locals := 22 } s m args below meth c (MQ below (z_Qc D cA ad Ret) args s 0 0 (z_A ad)) 5 D cA ad true 14 L st σ := (s_iload_n C dX10_buzzNow_14 rfl (s_aload_n C dX10_buzzNow_15 rfl (s_geti C dX10_buzzNow_16 cls_X10 (by decide) rfl wd_992 (s_icge C dX10_buzzNow_19 (by decide) (s_iinc C dX10_buzzNow_89 (by decide) rfl (s_goto C dX10_buzzNow_92 (by decide) (fun _ _ _ h => h))) (s_aload_n C dX10_buzzNow_22 rfl (s_getr C dX10_buzzNow_23 (j := 22) cls_X10 (by decide) rfl (by decide) (by decide) (by decide +kernel) wd_990 (s_iload_n C dX10_buzzNow_26 rfl (s_iald C dX10_buzzNow_27 (s_aload_n C dX10_buzzNow_28 rfl (s_getr C dX10_buzzNow_29 (j := 22) cls_X10 (by decide) rfl (by decide) (by decide) (by decide +kernel) wd_990 (s_iload_n C dX10_buzzNow_32 rfl (s_iald C dX10_buzzNow_33 (s_iceq C dX10_buzzNow_34 (by decide) (s_iconst C dX10_buzzNow_60 rfl ⟨by decide, by decide⟩ (s_istore C dX10_buzzNow_61 (by decide) rfl (s_iload_n C dX10_buzzNow_63 rfl (s_iload C dX10_buzzNow_64 (s_ifeq C dX10_buzzNow_66 (by decide) (s_iconst C dX10_buzzNow_80 rfl ⟨by decide, by decide⟩ (s_ior C dX10_buzzNow_81 (s_istore_n C dX10_buzzNow_82 (by decide) rfl rfl (s_iinc C dX10_buzzNow_83 (by decide) rfl (s_goto C dX10_buzzNow_86 (by decide) (fun _ _ _ h => h)))))) (s_iconst C dX10_buzzNow_69 rfl ⟨by decide, by decide⟩ (s_aload_n C dX10_buzzNow_70 rfl (s_getr C dX10_buzzNow_71 (j := 23) cls_X10 (by decide) rfl (by decide) (by decide) (by decide +kernel) wd_991 (s_iload_n C dX10_buzzNow_74 rfl (s_iald C dX10_buzzNow_75 (s_ishl C dX10_buzzNow_76 (s_goto C dX10_buzzNow_77 (by decide) (s_ior C dX10_buzzNow_81 (s_istore_n C dX10_buzzNow_82 (by decide) rfl rfl (s_iinc C dX10_buzzNow_83 (by decide) rfl (s_goto C dX10_buzzNow_86 (by decide) (fun _ _ _ h => h))))))))))))))))) (s_aload_n C dX10_buzzNow_37 rfl (s_getr C dX10_buzzNow_38 (j := 22) cls_X10 (by decide) rfl (by decide) (by decide) (by decide +kernel) wd_990 (s_iload_n C dX10_buzzNow_41 rfl (s_iald C dX10_buzzNow_42 (s_aload_n C dX10_buzzNow_43 rfl (s_getr C dX10_buzzNow_44 (j := 22) cls_X10 (by decide) rfl (by decide) (by decide) (by decide +kernel) wd_990 (s_iload_n C dX10_buzzNow_47 rfl (s_iald C dX10_buzzNow_48 (s_iconst C dX10_buzzNow_49 rfl ⟨by decide, by decide⟩ (s_cs3 C dX10_buzzNow_50 (okX10_isNear l) wd_1285 wd_1286 wd_85 wd_1287 ⟨by decide, by decide, by decide +kernel⟩ ⟨by decide, by decide⟩ (s_ifeq C dX10_buzzNow_53 (by decide) (s_iconst C dX10_buzzNow_60 rfl ⟨by decide, by decide⟩ (s_istore C dX10_buzzNow_61 (by decide) rfl (s_iload_n C dX10_buzzNow_63 rfl (s_iload C dX10_buzzNow_64 (s_ifeq C dX10_buzzNow_66 (by decide) (s_iconst C dX10_buzzNow_80 rfl ⟨by decide, by decide⟩ (s_ior C dX10_buzzNow_81 (s_istore_n C dX10_buzzNow_82 (by decide) rfl rfl (s_iinc C dX10_buzzNow_83 (by decide) rfl (s_goto C dX10_buzzNow_86 (by decide) (fun _ _ _ h => h)))))) (s_iconst C dX10_buzzNow_69 rfl ⟨by decide, by decide⟩ (s_aload_n C dX10_buzzNow_70 rfl (s_getr C dX10_buzzNow_71 (j := 23) cls_X10 (by decide) rfl (by decide) (by decide) (by decide +kernel) wd_991 (s_iload_n C dX10_buzzNow_74 rfl (s_iald C dX10_buzzNow_75 (s_ishl C dX10_buzzNow_76 (s_goto C dX10_buzzNow_77 (by decide) (s_ior C dX10_buzzNow_81 (s_istore_n C dX10_buzzNow_82 (by decide) rfl rfl (s_iinc C dX10_buzzNow_83 (by decide) rfl (s_goto C dX10_buzzNow_86 (by decide) (fun _ _ _ h => h))))))))))))))))) (s_iconst C dX10_buzzNow_56 rfl ⟨by decide, by decide⟩ (s_goto C dX10_buzzNow_57 (by decide) (s_istore C dX10_buzzNow_61 (by decide) rfl (s_iload_n C dX10_buzzNow_63 rfl (s_iload C dX10_buzzNow_64 (s_ifeq C dX10_buzzNow_66 (by decide) (s_iconst C dX10_buzzNow_80 rfl ⟨by decide, by decide⟩ (s_ior C dX10_buzzNow_81 (s_istore_n C dX10_buzzNow_82 (by decide) rfl rfl (s_iinc C dX10_buzzNow_83 (by decide) rfl (s_goto C dX10_buzzNow_86 (by decide) (fun _ _ _ h => h)))))) (s_iconst C dX10_buzzNow_69 rfl ⟨by decide, by decide⟩ (s_aload_n C dX10_buzzNow_70 rfl (s_getr C dX10_buzzNow_71 (j := 23) cls_X10 (by decide) rfl (by decide) (by decide) (by decide +kernel) wd_991 (s_iload_n C dX10_buzzNow_74 rfl (s_iald C dX10_buzzNow_75 (s_ishl C dX10_buzzNow_76 (s_goto C dX10_buzzNow_77 (by decide) (s_ior C dX10_buzzNow_81 (s_istore_n C dX10_buzzNow_82 (by decide) rfl rfl (s_iinc C dX10_buzzNow_83 (by decide) rfl (s_goto C dX10_buzzNow_86 (by decide) (fun _ _ _ h => h))))))))))))))))))))))))))))))))))))))))))
theorem okX10_buzzNow (l : Launch) : z_OK l yX10_buzzNow cX10_buzzNow 5 (some .int) 1 22 SX10_buzzNow := by
  refine z_ok_of true (by decide +kernel) ?_ ?_
  · intro as σ Ret h
    obtain ⟨k0, rfl⟩ := pX10_buzzNow h
    exact ⟨Nat.le_of_ble_eq_true rfl, by simp⟩
  · intro p e s m args below meth c D cA ad Ret C hr hlocks as σ has hσ h
    obtain ⟨k0, rfl⟩ := pX10_buzzNow h
    exact vX10_buzzNow (rX10_buzzNow_0 C hr hlocks) (rX10_buzzNow_4 C hr hlocks) (rX10_buzzNow_14 C hr hlocks) k0 σ (has _ (List.mem_of_getElem? (i := 0) rfl)) hσ h
theorem q_me_bz {τ : zM} {w : Nat} {D : Nat → Int} (h : q_me τ (q_lsD D w) (q_tnD D)) : q_bo (τ 99) (fun i => (τ 100 i).toNat) (τ 89 24).toNat (τ 89 24).toNat = q_bzD D w := by
  obtain ⟨h1, h2, h3⟩ := h
  rw [h1, Int.toNat_natCast]
  exact q_bo_cg h2 (fun x hx => by rw [h3 x hx, Int.toNat_natCast]) _ (Nat.le_refl _)
def SX10_buzz : zS := fun as σ Ret => match as with
  | [.inr (.inr (10, 0, _)), .inl w] => q_S10 (q_gBuzz w) q_fId σ Ret
  | _ => False
def tX10_buzz_0 (X : Nat → zB) (Ret : zR) (L : zL) (st : List zV) (σ : zM) : Prop := (z_aload 0 (z_push 0 (z_puti 10 0 (z_aload 0 (z_iload 1 (z_cv1 10 SX10_isWind (z_ifne (z_aload 0 (z_cv0 10 SX10_layLengths (z_aload 0 (z_iload 1 (z_cv1 10 SX10_listen (z_aload 0 (z_cv0 10 SX10_buzzNow (z_iret Ret)))))))) (z_push (-1000001) (z_iret Ret))))))))) L st σ
theorem pX10_buzz {as : List zV} {σ : zM} {Ret : zR} (h : SX10_buzz as σ Ret) : ∃ (k0 : Nat) (x1 : Int), as = [.inr (.inr (10, 0, k0)), .inl x1] := by
  unfold SX10_buzz at h
  split at h
  · exact ⟨_, _, rfl⟩
  · exact h.elim
set_option maxRecDepth 10000 in
set_option maxHeartbeats 4000000 in
theorem vX10_buzz {X : Nat → zB} {Ret : zR} (h0 : ∀ L st σ, tX10_buzz_0 X Ret L st σ → X 0 L st σ) (k0 : Nat) (x1 : Int) (σ : zM) (hk0 : z_kd k0 = (10, 0)) (hx1 : -2147483648 ≤ x1 ∧ x1 ≤ 2147483647) (hσ : z_okm σ) (h : SX10_buzz [.inr (.inr (10, 0, k0)), .inl x1] σ Ret) : X 0 [some (.inr (.inr (10, 0, k0))), some (.inl x1)] [] σ := by
  obtain ⟨m, h⟩ := h
  obtain rfl := z_kd10 hk0
  have K := m.2.1.1
  have K0 := K.1.1
  have K1 := K.1.2.1
  have e1 : z_up σ 89 0 0 93 1 = σ 93 1 := z_up_ne (by omega)
  by_cases c : ¬ (0 ≤ x1 ∧ x1 < σ 93 1)
  · have fin := h (z_up σ 89 0 0) q_th.1 q_th.2
    simp only [q_gBuzz, if_pos c] at fin
    refine h0 _ _ _ ?_
    simp only [z_push, z_lpush, z_iload, z_lload, z_aload, z_istore, z_istoreP, z_lstore, z_astore, z_iinc, z_iincP, z_iadd, z_isub, z_imul, z_iaddW, z_isubW, z_imulW, z_idiv, z_irem, z_iand, z_ior, z_ixor, z_ishl, z_ishr, z_iushr, z_ineg, z_i2l, z_i2b, z_i2s, z_i2c, z_l2i, z_ladd, z_lsub, z_land, z_lor, z_lshl, z_lshr, z_lcmp, z_dup, z_pop, z_dup2, z_goto, z_tsw, z_cases, z_geti, z_getr, z_puti, z_putz, z_ald, z_iast, z_bast, z_zast, z_alen, z_acopy, z_mmax, z_mmin, z_mabs, z_mabsL, z_iret, z_zret, z_nret, z_lret, z_aret, z_vret, z_cat, z_ldcs, z_strv, z_strc, z_gcs, z_gfm, z_sln, z_sald, z_ifeq, z_ifne, z_iflt, z_ifge, z_ifgt, z_ifle, z_iceq, z_icne, z_iclt, z_icge, z_icgt, z_icle, z_cs0, z_cs1, z_cs2, z_cs3, z_cs4, z_cs5, z_cs6, z_cs7, z_cv0, z_cv1, z_cv2, z_cv3, z_cv4, z_cv5, z_cv6, z_cv7, z_g0, z_s0, z_g1, z_s1, z_g2, z_s2, z_g3, z_s3, z_g4, z_s4, z_g5, z_s5, z_g6, z_s6, z_g7, z_s7, z_g8, z_s8, z_g9, z_s9, z_g10, z_s10, z_g11, z_s11, z_g12, z_s12, z_g13, z_s13, z_b0, z_b1, z_b0n, z_b1n, z_up_far1, z_up_far2, z_up_far3, z_up_far4, z_up_far5, z_up_far6, Classical.not_not, not_true_eq_false, z_in, z_inL, Int.cast_ofNat_Int, Nat.reduceLeDiff, List.length_cons, List.length_nil, Nat.reduceAdd, Nat.zero_add, Nat.le_refl, true_and, and_true, List.length, Nat.reduceLT, true_or, or_true, false_or, or_false, false_and, and_false, not_true_eq_false, not_false_eq_true, forall_const, false_implies, true_implies, Int.reduceEq, Int.reduceLT, Int.reduceLE, Int.reduceAdd, Int.reduceSub, Int.reduceMul, Int.reduceNeg, Int.reduceToNat, Int.toNat_natCast, ↓reduceIte, reduceIte, Nat.reduceEqDiff, Nat.reduceSub, Nat.reduceMul, ne_eq, Int.zero_add, Int.add_zero, Int.sub_zero, Nat.add_zero, Int.ofNat_eq_natCast, tX10_buzz_0, SX10_isWind, e1]
    repeat' (first | (intro _) | (with_reducible assumption) | (refine And.intro ?_ ?_))
    all_goals first | omega | assumption | (refine z_fin fin ?_ rfl; first | rfl | omega | (split <;> omega) | (split <;> split <;> omega)) | skip
  obtain ⟨w, rfl⟩ := z_nat (show 0 ≤ x1 by omega)
  refine h0 _ _ _ ?_
  simp only [z_push, z_lpush, z_iload, z_lload, z_aload, z_istore, z_istoreP, z_lstore, z_astore, z_iinc, z_iincP, z_iadd, z_isub, z_imul, z_iaddW, z_isubW, z_imulW, z_idiv, z_irem, z_iand, z_ior, z_ixor, z_ishl, z_ishr, z_iushr, z_ineg, z_i2l, z_i2b, z_i2s, z_i2c, z_l2i, z_ladd, z_lsub, z_land, z_lor, z_lshl, z_lshr, z_lcmp, z_dup, z_pop, z_dup2, z_goto, z_tsw, z_cases, z_geti, z_getr, z_puti, z_putz, z_ald, z_iast, z_bast, z_zast, z_alen, z_acopy, z_mmax, z_mmin, z_mabs, z_mabsL, z_iret, z_zret, z_nret, z_lret, z_aret, z_vret, z_cat, z_ldcs, z_strv, z_strc, z_gcs, z_gfm, z_sln, z_sald, z_ifeq, z_ifne, z_iflt, z_ifge, z_ifgt, z_ifle, z_iceq, z_icne, z_iclt, z_icge, z_icgt, z_icle, z_cs0, z_cs1, z_cs2, z_cs3, z_cs4, z_cs5, z_cs6, z_cs7, z_cv0, z_cv1, z_cv2, z_cv3, z_cv4, z_cv5, z_cv6, z_cv7, z_g0, z_s0, z_g1, z_s1, z_g2, z_s2, z_g3, z_s3, z_g4, z_s4, z_g5, z_s5, z_g6, z_s6, z_g7, z_s7, z_g8, z_s8, z_g9, z_s9, z_g10, z_s10, z_g11, z_s11, z_g12, z_s12, z_g13, z_s13, z_b0, z_b1, z_b0n, z_b1n, z_up_far1, z_up_far2, z_up_far3, z_up_far4, z_up_far5, z_up_far6, Classical.not_not, not_true_eq_false, z_in, z_inL, Int.cast_ofNat_Int, Nat.reduceLeDiff, List.length_cons, List.length_nil, Nat.reduceAdd, Nat.zero_add, Nat.le_refl, true_and, and_true, List.length, Nat.reduceLT, true_or, or_true, false_or, or_false, false_and, and_false, not_true_eq_false, not_false_eq_true, forall_const, false_implies, true_implies, Int.reduceEq, Int.reduceLT, Int.reduceLE, Int.reduceAdd, Int.reduceSub, Int.reduceMul, Int.reduceNeg, Int.reduceToNat, Int.toNat_natCast, ↓reduceIte, reduceIte, Nat.reduceEqDiff, Nat.reduceSub, Nat.reduceMul, ne_eq, Int.zero_add, Int.add_zero, Int.sub_zero, Nat.add_zero, Int.ofNat_eq_natCast, tX10_buzz_0, SX10_isWind, SX10_layLengths, SX10_listen, SX10_buzzNow, e1]
  refine ⟨by omega, fun _ σ1 f1 f2 => ?_, fun e => absurd e (by omega)⟩
  have e93 : σ1 93 = σ 93 := funext fun j => by rw [f1 93 j (by omega), z_up_ne (by omega)]
  have ly : q_ly σ1 (σ 93) := q_ly_id K (fun j => by rw [e93]) (fun j hj => by rw [f2 j hj, z_up_ne (by omega), Nat.add_zero])
  refine ⟨⟨by rw [e93]; exact K, by rw [e93]; omega, fun t ht h2 => ?_⟩, fun σ2 f3 g => ?_⟩
  · rw [e93] at h2
    rw [← ly.2 t h2]
    have := K.2.1 t h2
    omega
  have g' := g.D ly K (by omega)
  have mi := q_me_in K g'
  have fin := h σ2 (fun c hc => funext fun j => by rw [f3 c j (by omega), f1 c j (by omega), z_up_ne (by omega)]) (fun c j hc => by
    unfold q_last at hc
    rw [f3 c j (by omega), f1 c j (by omega), z_up_ne (by omega)]
    rfl)
  simp only [q_gBuzz, if_neg c, Int.toNat_natCast] at fin
  rw [← q_me_bz g'] at fin
  exact ⟨mi, fin⟩
theorem dX10_buzz_0 : decode cX10_buzz 0 = .ok (.aload_n 0, 1) := by decide +kernel
theorem dX10_buzz_1 : decode cX10_buzz 1 = .ok (.iconst 0, 1) := by decide +kernel
theorem dX10_buzz_2 : decode cX10_buzz 2 = .ok (.putfield 65, 3) := by decide +kernel
theorem dX10_buzz_5 : decode cX10_buzz 5 = .ok (.aload_n 0, 1) := by decide +kernel
theorem dX10_buzz_6 : decode cX10_buzz 6 = .ok (.iload_n 1, 1) := by decide +kernel
theorem dX10_buzz_7 : decode cX10_buzz 7 = .ok (.invokevirtual 253, 3) := by decide +kernel
theorem dX10_buzz_10 : decode cX10_buzz 10 = .ok (.ifCond .ne 6, 3) := by decide +kernel
theorem dX10_buzz_13 : decode cX10_buzz 13 = .ok (.ldc 85, 2) := by decide +kernel
theorem dX10_buzz_15 : decode cX10_buzz 15 = .ok (.ireturn, 1) := by decide +kernel
theorem dX10_buzz_16 : decode cX10_buzz 16 = .ok (.aload_n 0, 1) := by decide +kernel
theorem dX10_buzz_17 : decode cX10_buzz 17 = .ok (.invokevirtual 232, 3) := by decide +kernel
theorem dX10_buzz_20 : decode cX10_buzz 20 = .ok (.aload_n 0, 1) := by decide +kernel
theorem dX10_buzz_21 : decode cX10_buzz 21 = .ok (.iload_n 1, 1) := by decide +kernel
theorem dX10_buzz_22 : decode cX10_buzz 22 = .ok (.invokevirtual 256, 3) := by decide +kernel
theorem dX10_buzz_25 : decode cX10_buzz 25 = .ok (.aload_n 0, 1) := by decide +kernel
theorem dX10_buzz_26 : decode cX10_buzz 26 = .ok (.invokevirtual 291, 3) := by decide +kernel
theorem dX10_buzz_29 : decode cX10_buzz 29 = .ok (.ireturn, 1) := by decide +kernel
set_option maxRecDepth 100000 in
theorem rX10_buzz_0 {p : Program} {l : Launch} {e : Env} {s : State} {m : MethodId} {args : Array Value} {below : List Frame} {meth : Method} {c : Code} {D : va_G} {cA : Nat → ClassId} {ad : Nat → Nat} {Ret : zR} (C : z_Cx p { frames := 3, cells := 0, slots := 0, locals := 68 } s m args c cX10_buzz yX10_buzz.cls 2 D cA ad) (hr : meth.sig.returnType = (some .int)) (hlocks : meth.locks = false) : ∀ L st σ, tX10_buzz_0 (z_X p l e { frames := 3, cells := 0, slots := 0, locals := 68 } s m args below meth c (MQ below (z_Qc D cA ad Ret) args s 0 0 (z_A ad)) 2 D cA ad true) Ret L st σ → z_X p l e { frames := 3, cells := 0, slots := 0, locals := 68 } s m args below meth c (MQ below (z_Qc D cA ad Ret) args s 0 0 (z_A ad)) 2 D cA ad true 0 L st σ := (s_aload_n C dX10_buzz_0 rfl (s_iconst C dX10_buzz_1 rfl ⟨by decide, by decide⟩ (s_puti C dX10_buzz_2 cls_X10 (by decide) rfl wd_968 rfl rfl (s_aload_n C dX10_buzz_5 rfl (s_iload_n C dX10_buzz_6 rfl (s_cv1 C dX10_buzz_7 (okX10_isWind l) cls_X10 wd_1257 wd_1259 wd_59 wd_85 wd_1260 ⟨by decide, by decide, by decide +kernel⟩ ⟨by decide, by decide⟩ (s_ifne C dX10_buzz_10 (by decide) (s_aload_n C dX10_buzz_16 rfl (s_cv0 C dX10_buzz_17 (okX10_layLengths l) cls_X10 wd_1228 wd_1230 wd_54 wd_85 wd_1231 ⟨by decide, by decide, by decide +kernel⟩ ⟨by decide, by decide⟩ (s_aload_n C dX10_buzz_20 rfl (s_iload_n C dX10_buzz_21 rfl (s_cv1 C dX10_buzz_22 (okX10_listen l) cls_X10 wd_1261 wd_1263 wd_60 wd_85 wd_1264 ⟨by decide, by decide, by decide +kernel⟩ ⟨by decide, by decide⟩ (s_aload_n C dX10_buzz_25 rfl (s_cv0 C dX10_buzz_26 (okX10_buzzNow l) cls_X10 wd_1315 wd_1317 wd_65 wd_85 wd_1318 ⟨by decide, by decide, by decide +kernel⟩ ⟨by decide, by decide⟩ (s_iret C dX10_buzz_29 hr hlocks)))))))) (s_ldc C dX10_buzz_13 (v := -1000001) wd_1086 ⟨by decide, by decide⟩ (s_iret C dX10_buzz_15 hr hlocks)))))))))
theorem okX10_buzz (l : Launch) : z_OK l yX10_buzz cX10_buzz 2 (some .int) 3 68 SX10_buzz := by
  refine z_ok_of true (by decide +kernel) ?_ ?_
  · intro as σ Ret h
    obtain ⟨k0, x1, rfl⟩ := pX10_buzz h
    exact ⟨Nat.le_of_ble_eq_true rfl, by simp⟩
  · intro p e s m args below meth c D cA ad Ret C hr hlocks as σ has hσ h
    obtain ⟨k0, x1, rfl⟩ := pX10_buzz h
    exact vX10_buzz (rX10_buzz_0 C hr hlocks) k0 x1 σ (has _ (List.mem_of_getElem? (i := 0) rfl)) (has _ (List.mem_of_getElem? (i := 1) rfl)) hσ h
