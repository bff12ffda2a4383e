/-! slips, in the numbers of a wood -/
theorem q_dp_cg {c d : Nat → Nat → Int} : ∀ (n m : Nat), (∀ i j, i < n → j < m → c i j = d i j) → q_dp c n m = q_dp d n m := by
  intro n
  induction n with
  | zero => intro m h; rw [q_dp, q_dp]
  | succ n ih =>
    intro m
    induction m with
    | zero => intro h; rw [q_dp, q_dp]
    | succ m ih2 =>
      intro h
      rw [q_dp, q_dp, ih m (fun i j a b => h i j (by omega) (by omega)), ih2 (fun i j a b => h i j a (by omega)), ih (m + 1) (fun i j a b => h i j (by omega) b), h n m (by omega) (by omega)]
def q_slD (D : Nat → Int) (w : Nat) (t : Int) : Int := q_dp (q_c (fun i => q_tnD D ((q_lsD D w).getD i 0)) (fun j => D (96 + j)) t) (q_lsD D w).length (D 2).toNat
def SX9_slipsIn : zS := fun as σ Ret => match as with
  | [.inr (.inr (9, 0, _)), .inr (.inr (8, 0, b)), .inl w, .inl t] => ∃ D, (q_wd σ b D ∧ q_Dok D ∧ (0 ≤ w ∧ w < D 1)) ∧ ∀ σ' : zM, (∀ c j, ¬ (80 ≤ c ∧ c ≤ 83) → σ' c j = σ c j) → Ret (some (.inl (q_slD D w.toNat t))) σ'
  | _ => False
def tX9_slipsIn_0 (X : Nat → zB) (Ret : zR) (L : zL) (st : List zV) (σ : zM) : Prop := (z_aload 0 (z_getr 9 80 3 0 (z_aload 1 (z_iload 2 (z_cv2 3 SX3_listen (z_aload 0 (z_getr 9 80 3 0 (z_aload 1 (z_getr 8 16 100 10 (z_aload 1 (z_geti 8 4 (z_iload 3 (z_cv3 3 SX3_slipsFrom (z_iret Ret)))))))))))))) L st σ
theorem pX9_slipsIn {as : List zV} {σ : zM} {Ret : zR} (h : SX9_slipsIn as σ Ret) : ∃ (k0 : Nat) (k1 : Nat) (x2 : Int) (x3 : Int), as = [.inr (.inr (9, 0, k0)), .inr (.inr (8, 0, k1)), .inl x2, .inl x3] := by
  unfold SX9_slipsIn at h
  split at h
  · exact ⟨_, _, _, _, rfl⟩
  · exact h.elim
set_option maxRecDepth 10000 in
set_option maxHeartbeats 4000000 in
theorem vX9_slipsIn {X : Nat → zB} {Ret : zR} (h0 : ∀ L st σ, tX9_slipsIn_0 X Ret L st σ → X 0 L st σ) (k0 : Nat) (k1 : Nat) (x2 : Int) (x3 : Int) (σ : zM) (hk0 : z_kd k0 = (9, 0)) (hk1 : z_kd k1 = (8, 0)) (hx2 : -2147483648 ≤ x2 ∧ x2 ≤ 2147483647) (hx3 : -2147483648 ≤ x3 ∧ x3 ≤ 2147483647) (hσ : z_okm σ) (h : SX9_slipsIn [.inr (.inr (9, 0, k0)), .inr (.inr (8, 0, k1)), .inl x2, .inl x3] σ Ret) : X 0 [some (.inr (.inr (9, 0, k0))), some (.inr (.inr (8, 0, k1))), some (.inl x2), some (.inl x3)] [] σ := by
  obtain ⟨D, ⟨W, K, w0, w1⟩, h⟩ := h
  obtain rfl := z_kd9 hk0
  have ew := z_kd8 hk1
  obtain ⟨w, rfl⟩ := z_nat w0
  have W1 := W.1.2.1.1
  have W2 := W.1.2.2.1.1
  have K2 := K.1.2.2.1
  refine h0 _ _ _ ?_
  simp only [z_push, z_lpush, z_iload, z_lload, z_aload, z_istore, z_istoreP, z_lstore, z_astore, z_iinc, z_iincP, z_iadd, z_isub, z_imul, z_iaddW, z_isubW, z_imulW, z_idiv, z_irem, z_iand, z_ior, z_ixor, z_ishl, z_ishr, z_iushr, z_ineg, z_i2l, z_i2b, z_i2s, z_i2c, z_l2i, z_ladd, z_lsub, z_land, z_lor, z_lshl, z_lshr, z_lcmp, z_dup, z_pop, z_dup2, z_goto, z_tsw, z_cases, z_geti, z_getr, z_puti, z_putz, z_ald, z_iast, z_bast, z_zast, z_alen, z_acopy, z_mmax, z_mmin, z_mabs, z_mabsL, z_iret, z_zret, z_nret, z_lret, z_aret, z_vret, z_cat, z_ldcs, z_strv, z_strc, z_gcs, z_gfm, z_sln, z_sald, z_ifeq, z_ifne, z_iflt, z_ifge, z_ifgt, z_ifle, z_iceq, z_icne, z_iclt, z_icge, z_icgt, z_icle, z_cs0, z_cs1, z_cs2, z_cs3, z_cs4, z_cs5, z_cs6, z_cs7, z_cv0, z_cv1, z_cv2, z_cv3, z_cv4, z_cv5, z_cv6, z_cv7, z_g0, z_s0, z_g1, z_s1, z_g2, z_s2, z_g3, z_s3, z_g4, z_s4, z_g5, z_s5, z_g6, z_s6, z_g7, z_s7, z_g8, z_s8, z_g9, z_s9, z_g10, z_s10, z_g11, z_s11, z_g12, z_s12, z_g13, z_s13, z_b0, z_b1, z_b0n, z_b1n, z_up_far1, z_up_far2, z_up_far3, z_up_far4, z_up_far5, z_up_far6, Classical.not_not, not_true_eq_false, z_in, z_inL, Int.cast_ofNat_Int, Nat.reduceLeDiff, List.length_cons, List.length_nil, Nat.reduceAdd, Nat.zero_add, Nat.le_refl, true_and, and_true, List.length, Nat.reduceLT, true_or, or_true, false_or, or_false, false_and, and_false, not_true_eq_false, not_false_eq_true, forall_const, false_implies, true_implies, Int.reduceEq, Int.reduceLT, Int.reduceLE, Int.reduceAdd, Int.reduceSub, Int.reduceMul, Int.reduceNeg, Int.reduceToNat, Int.toNat_natCast, ↓reduceIte, reduceIte, Nat.reduceEqDiff, Nat.reduceSub, Nat.reduceMul, ne_eq, Int.zero_add, Int.add_zero, Int.sub_zero, Nat.add_zero, Int.ofNat_eq_natCast, tX9_slipsIn_0, SX3_listen, SX3_slipsFrom, W1]
  refine ⟨⟨q_wd_wok W K, by omega⟩, fun σ1 f1 f2 => ?_⟩
  obtain ⟨g1, g2, g3⟩ := q_ear_D W (w := w) w1 f2
  have ll := q_lsD_len (D := D) (w := w) K
  have e4 : σ1 k1 4 = D 2 := by rw [f1 _ _ (by omega)]; exact W2
  rw [e4, g1]
  refine fun _ => ⟨by omega, fun σ2 f3 => ?_⟩
  have fin := h σ2 (fun c j hc => by rw [f3 c j (by omega), f1 c j (by omega)])
  have e5 : q_slD D w x3 = q_dp (q_c (σ1 81) (σ1 (k1 + 16)) x3) (q_lsD D w).length (D 2).toNat := by
    unfold q_slD
    refine q_dp_cg _ _ (fun i j hi hj => ?_)
    unfold q_c
    rw [g2 i hi, f1 (k1 + 16) j (by omega), W.2.2.2 j (by omega)]
  rw [Int.toNat_natCast, e5] at fin
  rw [Int.toNat_natCast]
  exact fin
theorem dX9_slipsIn_0 : decode cX9_slipsIn 0 = .ok (.aload_n 0, 1) := by decide +kernel
theorem dX9_slipsIn_1 : decode cX9_slipsIn 1 = .ok (.getfield 49, 3) := by decide +kernel
theorem dX9_slipsIn_4 : decode cX9_slipsIn 4 = .ok (.aload_n 1, 1) := by decide +kernel
theorem dX9_slipsIn_5 : decode cX9_slipsIn 5 = .ok (.iload_n 2, 1) := by decide +kernel
theorem dX9_slipsIn_6 : decode cX9_slipsIn 6 = .ok (.invokevirtual 201, 3) := by decide +kernel
theorem dX9_slipsIn_9 : decode cX9_slipsIn 9 = .ok (.aload_n 0, 1) := by decide +kernel
theorem dX9_slipsIn_10 : decode cX9_slipsIn 10 = .ok (.getfield 49, 3) := by decide +kernel
theorem dX9_slipsIn_13 : decode cX9_slipsIn 13 = .ok (.aload_n 1, 1) := by decide +kernel
theorem dX9_slipsIn_14 : decode cX9_slipsIn 14 = .ok (.getfield 304, 3) := by decide +kernel
theorem dX9_slipsIn_17 : decode cX9_slipsIn 17 = .ok (.aload_n 1, 1) := by decide +kernel
theorem dX9_slipsIn_18 : decode cX9_slipsIn 18 = .ok (.getfield 290, 3) := by decide +kernel
theorem dX9_slipsIn_21 : decode cX9_slipsIn 21 = .ok (.iload_n 3, 1) := by decide +kernel
theorem dX9_slipsIn_22 : decode cX9_slipsIn 22 = .ok (.invokevirtual 307, 3) := by decide +kernel
theorem dX9_slipsIn_25 : decode cX9_slipsIn 25 = .ok (.ireturn, 1) := by decide +kernel
set_option maxRecDepth 100000 in
theorem rX9_slipsIn_0 {p : Program} {l : Launch} {e : Env} {s : State} {m : MethodId} {args : Array Value} {below : List Frame} {meth : Method} {c : Code} {D : va_G} {cA : Nat → ClassId} {ad : Nat → Nat} {Ret : zR} (C : z_Cx p { frames := 3, cells := 0, slots := 0, locals := 71 } s m args c cX9_slipsIn yX9_slipsIn.cls 4 D cA ad) (hr : meth.sig.returnType = (some .int)) (hlocks : meth.locks = false) : ∀ L st σ, tX9_slipsIn_0 (z_X p l e { frames := 3, cells := 0, slots := 0, locals := 71 } s m args below meth c (MQ below (z_Qc D cA ad Ret) args s 0 0 (z_A ad)) 4 D cA ad true) Ret L st σ → z_X p l e { frames := 3, cells := 0, slots := 0, locals := 71 } s m args below meth c (MQ below (z_Qc D cA ad Ret) args s 0 0 (z_A ad)) 4 D cA ad true 0 L st σ := (s_aload_n C dX9_slipsIn_0 rfl (s_getr C dX9_slipsIn_1 (j := 7) cls_X9 (by decide) rfl (by decide) (by decide) (by decide +kernel) wd_364 (s_aload_n C dX9_slipsIn_4 rfl (s_iload_n C dX9_slipsIn_5 rfl (s_cv2 C dX9_slipsIn_6 (okX3_listen l) cls_X3 wd_730 wd_731 wd_732 wd_82 wd_733 ⟨by decide, by decide, by decide +kernel⟩ ⟨by decide, by decide⟩ (s_aload_n C dX9_slipsIn_9 rfl (s_getr C dX9_slipsIn_10 (j := 7) cls_X9 (by decide) rfl (by decide) (by decide) (by decide +kernel) wd_364 (s_aload_n C dX9_slipsIn_13 rfl (s_getr C dX9_slipsIn_14 (j := 3) cls_X8 (by decide) rfl (by decide) (by decide) (by decide +kernel) wd_265 (s_aload_n C dX9_slipsIn_17 rfl (s_geti C dX9_slipsIn_18 cls_X8 (by decide) rfl wd_268 (s_iload_n C dX9_slipsIn_21 rfl (s_cv3 C dX9_slipsIn_22 (okX3_slipsFrom l) cls_X3 wd_755 wd_756 wd_757 wd_82 wd_758 ⟨by decide, by decide, by decide +kernel⟩ ⟨by decide, by decide⟩ (s_iret C dX9_slipsIn_25 hr hlocks))))))))))))))
theorem okX9_slipsIn (l : Launch) : z_OK l yX9_slipsIn cX9_slipsIn 4 (some .int) 3 71 SX9_slipsIn := by
  refine z_ok_of true (by decide +kernel) ?_ ?_
  · intro as σ Ret h
    obtain ⟨k0, k1, x2, x3, rfl⟩ := pX9_slipsIn h
    exact ⟨Nat.le_of_ble_eq_true rfl, by simp⟩
  · intro p e s m args below meth c D cA ad Ret C hr hlocks as σ has hσ h
    obtain ⟨k0, k1, x2, x3, rfl⟩ := pX9_slipsIn h
    exact vX9_slipsIn (rX9_slipsIn_0 C hr hlocks) k0 k1 x2 x3 σ (has _ (List.mem_of_getElem? (i := 0) rfl)) (has _ (List.mem_of_getElem? (i := 1) rfl)) (has _ (List.mem_of_getElem? (i := 2) rfl)) (has _ (List.mem_of_getElem? (i := 3) rfl)) hσ h
def q_gSlips (w t : Int) (τ : zM) : Int := if ¬ ((0 ≤ w ∧ w < τ 93 1) ∧ 0 ≤ t ∧ t ≤ 99) then -1000001 else q_slD (τ 93) w.toNat t
def SX9_slips : zS := fun as σ Ret => match as with
  | [.inr (.inr (9, 0, _)), .inl w, .inl t] => q_S9 (q_gSlips w t) q_fId σ Ret
  | _ => False
def tX9_slips_0 (X : Nat → zB) (Ret : zR) (L : zL) (st : List zV) (σ : zM) : Prop := (z_aload 0 (z_getr 9 8 8 0 (z_getr 8 8 7 0 (z_iload 1 (z_cv1 7 SX7_has (z_ifeq (z_push (-1000001) (z_iret Ret)) (z_iload 2 (z_cs1 SX9_isApart (z_ifne (z_aload 0 (z_aload 0 (z_getr 9 8 8 0 (z_iload 1 (z_iload 2 (z_cv3 9 SX9_slipsIn (z_iret Ret))))))) (z_push (-1000001) (z_iret Ret))))))))))) L st σ
theorem pX9_slips {as : List zV} {σ : zM} {Ret : zR} (h : SX9_slips as σ Ret) : ∃ (k0 : Nat) (x1 : Int) (x2 : Int), as = [.inr (.inr (9, 0, k0)), .inl x1, .inl x2] := by
  unfold SX9_slips at h
  split at h
  · exact ⟨_, _, _, rfl⟩
  · exact h.elim
set_option maxRecDepth 10000 in
set_option maxHeartbeats 4000000 in
theorem vX9_slips {X : Nat → zB} {Ret : zR} (h0 : ∀ L st σ, tX9_slips_0 X Ret L st σ → X 0 L st σ) (k0 : Nat) (x1 : Int) (x2 : Int) (σ : zM) (hk0 : z_kd k0 = (9, 0)) (hx1 : -2147483648 ≤ x1 ∧ x1 ≤ 2147483647) (hx2 : -2147483648 ≤ x2 ∧ x2 ≤ 2147483647) (hσ : z_okm σ) (h : SX9_slips [.inr (.inr (9, 0, k0)), .inl x1, .inl x2] σ Ret) : X 0 [some (.inr (.inr (9, 0, k0))), some (.inl x1), some (.inl x2)] [] σ := by
  obtain ⟨⟨R, m⟩, h⟩ := h
  obtain rfl := z_kd9 hk0
  have W := R.2.2.2.2.1.1
  have K := m.2.1.1
  have W1 : σ 16 3 = σ 93 1 := W.1.2.1.1
  have K1 := K.1.2.1
  by_cases c : ¬ ((0 ≤ x1 ∧ x1 < σ 93 1) ∧ 0 ≤ x2 ∧ x2 ≤ 99)
  · have fin := h σ (fun _ _ => rfl) R
    simp only [q_gSlips, if_pos c] at fin
    refine h0 _ _ _ ?_
    simp only [z_push, z_lpush, z_iload, z_lload, z_aload, z_istore, z_istoreP, z_lstore, z_astore, z_iinc, z_iincP, z_iadd, z_isub, z_imul, z_iaddW, z_isubW, z_imulW, z_idiv, z_irem, z_iand, z_ior, z_ixor, z_ishl, z_ishr, z_iushr, z_ineg, z_i2l, z_i2b, z_i2s, z_i2c, z_l2i, z_ladd, z_lsub, z_land, z_lor, z_lshl, z_lshr, z_lcmp, z_dup, z_pop, z_dup2, z_goto, z_tsw, z_cases, z_geti, z_getr, z_puti, z_putz, z_ald, z_iast, z_bast, z_zast, z_alen, z_acopy, z_mmax, z_mmin, z_mabs, z_mabsL, z_iret, z_zret, z_nret, z_lret, z_aret, z_vret, z_cat, z_ldcs, z_strv, z_strc, z_gcs, z_gfm, z_sln, z_sald, z_ifeq, z_ifne, z_iflt, z_ifge, z_ifgt, z_ifle, z_iceq, z_icne, z_iclt, z_icge, z_icgt, z_icle, z_cs0, z_cs1, z_cs2, z_cs3, z_cs4, z_cs5, z_cs6, z_cs7, z_cv0, z_cv1, z_cv2, z_cv3, z_cv4, z_cv5, z_cv6, z_cv7, z_g0, z_s0, z_g1, z_s1, z_g2, z_s2, z_g3, z_s3, z_g4, z_s4, z_g5, z_s5, z_g6, z_s6, z_g7, z_s7, z_g8, z_s8, z_g9, z_s9, z_g10, z_s10, z_g11, z_s11, z_g12, z_s12, z_g13, z_s13, z_b0, z_b1, z_b0n, z_b1n, z_up_far1, z_up_far2, z_up_far3, z_up_far4, z_up_far5, z_up_far6, Classical.not_not, not_true_eq_false, z_in, z_inL, Int.cast_ofNat_Int, Nat.reduceLeDiff, List.length_cons, List.length_nil, Nat.reduceAdd, Nat.zero_add, Nat.le_refl, true_and, and_true, List.length, Nat.reduceLT, true_or, or_true, false_or, or_false, false_and, and_false, not_true_eq_false, not_false_eq_true, forall_const, false_implies, true_implies, Int.reduceEq, Int.reduceLT, Int.reduceLE, Int.reduceAdd, Int.reduceSub, Int.reduceMul, Int.reduceNeg, Int.reduceToNat, Int.toNat_natCast, ↓reduceIte, reduceIte, Nat.reduceEqDiff, Nat.reduceSub, Nat.reduceMul, ne_eq, Int.zero_add, Int.add_zero, Int.sub_zero, Nat.add_zero, Int.ofNat_eq_natCast, tX9_slips_0, SX7_has, SX9_isApart, W1]
    repeat' (first | (intro _) | (with_reducible assumption) | (refine And.intro ?_ ?_))
    all_goals first | omega | assumption | (refine z_fin fin ?_ rfl; first | rfl | omega | (split <;> omega) | (split <;> split <;> omega)) | skip
  obtain ⟨w, rfl⟩ := z_nat (show 0 ≤ x1 by omega)
  refine h0 _ _ _ ?_
  simp only [z_push, z_lpush, z_iload, z_lload, z_aload, z_istore, z_istoreP, z_lstore, z_astore, z_iinc, z_iincP, z_iadd, z_isub, z_imul, z_iaddW, z_isubW, z_imulW, z_idiv, z_irem, z_iand, z_ior, z_ixor, z_ishl, z_ishr, z_iushr, z_ineg, z_i2l, z_i2b, z_i2s, z_i2c, z_l2i, z_ladd, z_lsub, z_land, z_lor, z_lshl, z_lshr, z_lcmp, z_dup, z_pop, z_dup2, z_goto, z_tsw, z_cases, z_geti, z_getr, z_puti, z_putz, z_ald, z_iast, z_bast, z_zast, z_alen, z_acopy, z_mmax, z_mmin, z_mabs, z_mabsL, z_iret, z_zret, z_nret, z_lret, z_aret, z_vret, z_cat, z_ldcs, z_strv, z_strc, z_gcs, z_gfm, z_sln, z_sald, z_ifeq, z_ifne, z_iflt, z_ifge, z_ifgt, z_ifle, z_iceq, z_icne, z_iclt, z_icge, z_icgt, z_icle, z_cs0, z_cs1, z_cs2, z_cs3, z_cs4, z_cs5, z_cs6, z_cs7, z_cv0, z_cv1, z_cv2, z_cv3, z_cv4, z_cv5, z_cv6, z_cv7, z_g0, z_s0, z_g1, z_s1, z_g2, z_s2, z_g3, z_s3, z_g4, z_s4, z_g5, z_s5, z_g6, z_s6, z_g7, z_s7, z_g8, z_s8, z_g9, z_s9, z_g10, z_s10, z_g11, z_s11, z_g12, z_s12, z_g13, z_s13, z_b0, z_b1, z_b0n, z_b1n, z_up_far1, z_up_far2, z_up_far3, z_up_far4, z_up_far5, z_up_far6, Classical.not_not, not_true_eq_false, z_in, z_inL, Int.cast_ofNat_Int, Nat.reduceLeDiff, List.length_cons, List.length_nil, Nat.reduceAdd, Nat.zero_add, Nat.le_refl, true_and, and_true, List.length, Nat.reduceLT, true_or, or_true, false_or, or_false, false_and, and_false, not_true_eq_false, not_false_eq_true, forall_const, false_implies, true_implies, Int.reduceEq, Int.reduceLT, Int.reduceLE, Int.reduceAdd, Int.reduceSub, Int.reduceMul, Int.reduceNeg, Int.reduceToNat, Int.toNat_natCast, ↓reduceIte, reduceIte, Nat.reduceEqDiff, Nat.reduceSub, Nat.reduceMul, ne_eq, Int.zero_add, Int.add_zero, Int.sub_zero, Nat.add_zero, Int.ofNat_eq_natCast, tX9_slips_0, SX7_has, SX9_isApart, SX9_slipsIn, W1]
  refine ⟨fun e => absurd e (by omega), fun _ => ⟨fun _ => ⟨σ 93, ⟨W, K, by omega⟩, fun σ1 f1 => ?_⟩, fun e => absurd e (by omega)⟩⟩
  have e9 : ∀ c, 89 ≤ c → σ1 c = σ c := fun c hc => funext fun j => f1 c j (by omega)
  have fin := h σ1 e9 (q_R2_id R (fun c j hc => f1 c j (by unfold q_lastP at hc; omega)))
  simp only [q_gSlips, e9 93 (by omega), if_neg c, Int.toNat_natCast] at fin
  exact fin
theorem dX9_slips_0 : decode cX9_slips 0 = .ok (.aload_n 0, 1) := by decide +kernel
theorem dX9_slips_1 : decode cX9_slips 1 = .ok (.getfield 26, 3) := by decide +kernel
theorem dX9_slips_4 : decode cX9_slips 4 = .ok (.getfield 194, 3) := by decide +kernel
theorem dX9_slips_7 : decode cX9_slips 7 = .ok (.iload_n 1, 1) := by decide +kernel
theorem dX9_slips_8 : decode cX9_slips 8 = .ok (.invokevirtual 198, 3) := by decide +kernel
theorem dX9_slips_11 : decode cX9_slips 11 = .ok (.ifCond .eq 10, 3) := by decide +kernel
theorem dX9_slips_14 : decode cX9_slips 14 = .ok (.iload_n 2, 1) := by decide +kernel
theorem dX9_slips_15 : decode cX9_slips 15 = .ok (.invokestatic 210, 3) := by decide +kernel
theorem dX9_slips_18 : decode cX9_slips 18 = .ok (.ifCond .ne 6, 3) := by decide +kernel
theorem dX9_slips_21 : decode cX9_slips 21 = .ok (.ldc 75, 2) := by decide +kernel
theorem dX9_slips_23 : decode cX9_slips 23 = .ok (.ireturn, 1) := by decide +kernel
theorem dX9_slips_24 : decode cX9_slips 24 = .ok (.aload_n 0, 1) := by decide +kernel
theorem dX9_slips_25 : decode cX9_slips 25 = .ok (.aload_n 0, 1) := by decide +kernel
theorem dX9_slips_26 : decode cX9_slips 26 = .ok (.getfield 26, 3) := by decide +kernel
theorem dX9_slips_29 : decode cX9_slips 29 = .ok (.iload_n 1, 1) := by decide +kernel
theorem dX9_slips_30 : decode cX9_slips 30 = .ok (.iload_n 2, 1) := by decide +kernel
theorem dX9_slips_31 : decode cX9_slips 31 = .ok (.invokevirtual 213, 3) := by decide +kernel
theorem dX9_slips_34 : decode cX9_slips 34 = .ok (.ireturn, 1) := by decide +kernel
set_option maxRecDepth 100000 in
theorem rX9_slips_0 {p : Program} {l : Launch} {e : Env} {s : State} {m : MethodId} {args : Array Value} {below : List Frame} {meth : Method} {c : Code} {D : va_G} {cA : Nat → ClassId} {ad : Nat → Nat} {Ret : zR} (C : z_Cx p { frames := 4, cells := 0, slots := 0, locals := 94 } s m args c cX9_slips yX9_slips.cls 3 D cA ad) (hr : meth.sig.returnType = (some .int)) (hlocks : meth.locks = false) : ∀ L st σ, tX9_slips_0 (z_X p l e { frames := 4, cells := 0, slots := 0, locals := 94 } s m args below meth c (MQ below (z_Qc D cA ad Ret) args s 0 0 (z_A ad)) 3 D cA ad true) Ret L st σ → z_X p l e { frames := 4, cells := 0, slots := 0, locals := 94 } s m args below meth c (MQ below (z_Qc D cA ad Ret) args s 0 0 (z_A ad)) 3 D cA ad true 0 L st σ := (s_aload_n C dX9_slips_0 rfl (s_getr C dX9_slips_1 (j := 2) cls_X9 (by decide) rfl (by decide) (by decide) (by decide +kernel) wd_359 (s_getr C dX9_slips_4 (j := 1) cls_X8 (by decide) rfl (by decide) (by decide) (by decide +kernel) wd_261 (s_iload_n C dX9_slips_7 rfl (s_cv1 C dX9_slips_8 (okX7_has l) cls_X7 wd_726 wd_727 wd_728 wd_80 wd_729 ⟨by decide, by decide, by decide +kernel⟩ ⟨by decide, by decide⟩ (s_ifeq C dX9_slips_11 (by decide) (s_ldc C dX9_slips_21 (v := -1000001) wd_404 ⟨by decide, by decide⟩ (s_iret C dX9_slips_23 hr hlocks)) (s_iload_n C dX9_slips_14 rfl (s_cs1 C dX9_slips_15 (okX9_isApart l) wd_748 wd_749 wd_75 wd_750 ⟨by decide, by decide, by decide +kernel⟩ ⟨by decide, by decide⟩ (s_ifne C dX9_slips_18 (by decide) (s_aload_n C dX9_slips_24 rfl (s_aload_n C dX9_slips_25 rfl (s_getr C dX9_slips_26 (j := 2) cls_X9 (by decide) rfl (by decide) (by decide) (by decide +kernel) wd_359 (s_iload_n C dX9_slips_29 rfl (s_iload_n C dX9_slips_30 rfl (s_cv3 C dX9_slips_31 (okX9_slipsIn l) cls_X9 wd_751 wd_753 wd_18 wd_75 wd_754 ⟨by decide, by decide, by decide +kernel⟩ ⟨by decide, by decide⟩ (s_iret C dX9_slips_34 hr hlocks))))))) (s_ldc C dX9_slips_21 (v := -1000001) wd_404 ⟨by decide, by decide⟩ (s_iret C dX9_slips_23 hr hlocks)))))))))))
theorem okX9_slips (l : Launch) : z_OK l yX9_slips cX9_slips 3 (some .int) 4 94 SX9_slips := by
  refine z_ok_of true (by decide +kernel) ?_ ?_
  · intro as σ Ret h
    obtain ⟨k0, x1, x2, rfl⟩ := pX9_slips h
    exact ⟨Nat.le_of_ble_eq_true rfl, by simp⟩
  · intro p e s m args below meth c D cA ad Ret C hr hlocks as σ has hσ h
    obtain ⟨k0, x1, x2, rfl⟩ := pX9_slips h
    exact vX9_slips (rX9_slips_0 C hr hlocks) k0 x1 x2 σ (has _ (List.mem_of_getElem? (i := 0) rfl)) (has _ (List.mem_of_getElem? (i := 1) rfl)) (has _ (List.mem_of_getElem? (i := 2) rfl)) hσ h
