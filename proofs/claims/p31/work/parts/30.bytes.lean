/-! eight bytes of a long -/
def q_by8 (w : Int) (i : Nat) : Int := z_wr8 (z_wr8 (z_wr (Int64.ofInt w >>> ((Int32.ofInt (8 * (i : Int))).toInt64 &&& 63)).toInt))
def q_fd (k : Nat) (w : Int) : Nat → zM → zM
  | 0, σ => σ
  | n + 1, σ => q_fd k w n (z_up (z_up σ (k + 1) (σ k 1).toNat (q_by8 w n)) k 1 (σ k 1 + 1))
def SX4_addBytes : zS := fun as σ Ret => match as with
  | [.inr (.inr (4, 0, k)), .inr (.inl w), .inl n] => (0 ≤ σ k 1 ∧ 0 ≤ n ∧ n ≤ 8 ∧ σ k 1 + n ≤ 400) ∧ Ret none (q_fd k w n.toNat σ)
  | _ => False
def tX4_addBytes_0 (X : Nat → zB) (Ret : zR) (L : zL) (st : List zV) (σ : zM) : Prop := (z_iload 3 (z_push 1 (z_isub (z_istoreP 4 (X 5))))) L st σ
def tX4_addBytes_5 (X : Nat → zB) (Ret : zR) (L : zL) (st : List zV) (σ : zM) : Prop := (z_iload 4 (z_iflt (z_vret Ret) (z_aload 0 (z_geti 4 1 (z_push 400 (z_icge (z_vret Ret) (z_aload 0 (z_getr 4 1 101 400 (z_aload 0 (z_geti 4 1 (z_lload 1 (z_push 8 (z_iload 4 (z_imul (z_lshr (z_l2i (z_i2b (z_bast (z_aload 0 (z_dup (z_geti 4 1 (z_push 1 (z_iadd (z_puti 4 1 (z_iincP 4 (-1) (z_goto (X 5))))))))))))))))))))))))))) L st σ
theorem pX4_addBytes {as : List zV} {σ : zM} {Ret : zR} (h : SX4_addBytes as σ Ret) : ∃ (k0 : Nat) (x1 : Int) (x2 : Int), as = [.inr (.inr (4, 0, k0)), .inr (.inl x1), .inl x2] := by
  unfold SX4_addBytes at h
  split at h
  · exact ⟨_, _, _, rfl⟩
  · exact h.elim
set_option maxRecDepth 10000 in
set_option maxHeartbeats 4000000 in
theorem vX4_addBytes {X : Nat → zB} {Ret : zR} (h0 : ∀ L st σ, tX4_addBytes_0 X Ret L st σ → X 0 L st σ) (h5 : ∀ L st σ, tX4_addBytes_5 X Ret L st σ → X 5 L st σ) (k0 : Nat) (x1 : Int) (x2 : Int) (σ : zM) (hk0 : z_kd k0 = (4, 0)) (hx1 : -9223372036854775808 ≤ x1 ∧ x1 ≤ 9223372036854775807) (hx2 : -2147483648 ≤ x2 ∧ x2 ≤ 2147483647) (hσ : z_okm σ) (h : SX4_addBytes [.inr (.inr (4, 0, k0)), .inr (.inl x1), .inl x2] σ Ret) : X 0 [some (.inr (.inr (4, 0, k0))), some (.inr (.inl x1)), none, some (.inl x2), none] [] σ := by
  obtain ⟨⟨c0, c1, c2, c3⟩, h⟩ := h
  obtain ⟨n, rfl⟩ := z_nat c1
  have L5 : ∀ (d : Nat) (σ1 : zM), d ≤ 8 → 0 ≤ σ1 k0 1 → σ1 k0 1 + (d : Int) ≤ 400 → Ret none (q_fd k0 x1 d σ1) → X 5 [some (.inr (.inr (4, 0, k0))), some (.inr (.inl x1)), none, some (.inl (n : Int)), some (.inl ((d : Int) - 1))] [] σ1 := by
    intro d
    induction d with
    | zero =>
      intro σ1 hd h0 h1 hr
      refine h5 _ _ _ ?_
      simp only [z_push, z_lpush, z_iload, z_lload, z_aload, z_istore, z_istoreP, z_lstore, z_astore, z_iinc, z_iincP, z_iadd, z_isub, z_imul, z_iaddW, z_isubW, z_imulW, z_idiv, z_irem, z_iand, z_ior, z_ixor, z_ishl, z_ishr, z_iushr, z_ineg, z_i2l, z_i2b, z_i2s, z_i2c, z_l2i, z_ladd, z_lsub, z_land, z_lor, z_lshl, z_lshr, z_lcmp, z_dup, z_pop, z_dup2, z_goto, z_tsw, z_cases, z_geti, z_getr, z_puti, z_putz, z_ald, z_iast, z_bast, z_zast, z_alen, z_acopy, z_mmax, z_mmin, z_mabs, z_mabsL, z_iret, z_zret, z_nret, z_lret, z_aret, z_vret, z_cat, z_xald, z_xlen, z_ldcs, z_strv, z_strc, z_gcs, z_gfm, z_sln, z_sald, z_ifeq, z_ifne, z_iflt, z_ifge, z_ifgt, z_ifle, z_iceq, z_icne, z_iclt, z_icge, z_icgt, z_icle, z_cs0, z_cs1, z_cs2, z_cs3, z_cs4, z_cs5, z_cs6, z_cs7, z_cv0, z_cv1, z_cv2, z_cv3, z_cv4, z_cv5, z_cv6, z_cv7, z_g0, z_s0, z_g1, z_s1, z_g2, z_s2, z_g3, z_s3, z_g4, z_s4, z_g5, z_s5, z_g6, z_s6, z_g7, z_s7, z_g8, z_s8, z_g9, z_s9, z_g10, z_s10, z_g11, z_s11, z_g12, z_s12, z_g13, z_s13, z_b0, z_b1, z_b0n, z_b1n, z_up_far1, z_up_far2, z_up_far3, z_up_far4, z_up_far5, z_up_far6, Classical.not_not, not_true_eq_false, z_in, z_inL, Int.cast_ofNat_Int, Nat.reduceLeDiff, List.length_cons, List.length_nil, Nat.reduceAdd, Nat.zero_add, Nat.le_refl, true_and, and_true, List.length, Nat.reduceLT, true_or, or_true, false_or, or_false, false_and, and_false, not_true_eq_false, not_false_eq_true, forall_const, false_implies, true_implies, Int.reduceEq, Int.reduceLT, Int.reduceLE, Int.reduceAdd, Int.reduceSub, Int.reduceMul, Int.reduceNeg, Int.reduceToNat, Int.toNat_natCast, ↓reduceIte, reduceIte, Nat.reduceEqDiff, Nat.reduceSub, Nat.reduceMul, ne_eq, Int.zero_add, Int.add_zero, Int.sub_zero, Nat.add_zero, Int.ofNat_eq_natCast, tX4_addBytes_5]
      exact hr
    | succ d ih =>
      intro σ1 hd h0 h1 hr
      have e1 : ((d + 1 : Nat) : Int) - 1 = (d : Int) := by omega
      rw [e1]
      refine h5 _ _ _ ?_
      simp only [z_push, z_lpush, z_iload, z_lload, z_aload, z_istore, z_istoreP, z_lstore, z_astore, z_iinc, z_iincP, z_iadd, z_isub, z_imul, z_iaddW, z_isubW, z_imulW, z_idiv, z_irem, z_iand, z_ior, z_ixor, z_ishl, z_ishr, z_iushr, z_ineg, z_i2l, z_i2b, z_i2s, z_i2c, z_l2i, z_ladd, z_lsub, z_land, z_lor, z_lshl, z_lshr, z_lcmp, z_dup, z_pop, z_dup2, z_goto, z_tsw, z_cases, z_geti, z_getr, z_puti, z_putz, z_ald, z_iast, z_bast, z_zast, z_alen, z_acopy, z_mmax, z_mmin, z_mabs, z_mabsL, z_iret, z_zret, z_nret, z_lret, z_aret, z_vret, z_cat, z_xald, z_xlen, z_ldcs, z_strv, z_strc, z_gcs, z_gfm, z_sln, z_sald, z_ifeq, z_ifne, z_iflt, z_ifge, z_ifgt, z_ifle, z_iceq, z_icne, z_iclt, z_icge, z_icgt, z_icle, z_cs0, z_cs1, z_cs2, z_cs3, z_cs4, z_cs5, z_cs6, z_cs7, z_cv0, z_cv1, z_cv2, z_cv3, z_cv4, z_cv5, z_cv6, z_cv7, z_g0, z_s0, z_g1, z_s1, z_g2, z_s2, z_g3, z_s3, z_g4, z_s4, z_g5, z_s5, z_g6, z_s6, z_g7, z_s7, z_g8, z_s8, z_g9, z_s9, z_g10, z_s10, z_g11, z_s11, z_g12, z_s12, z_g13, z_s13, z_b0, z_b1, z_b0n, z_b1n, z_up_far1, z_up_far2, z_up_far3, z_up_far4, z_up_far5, z_up_far6, Classical.not_not, not_true_eq_false, z_in, z_inL, Int.cast_ofNat_Int, Nat.reduceLeDiff, List.length_cons, List.length_nil, Nat.reduceAdd, Nat.zero_add, Nat.le_refl, true_and, and_true, List.length, Nat.reduceLT, true_or, or_true, false_or, or_false, false_and, and_false, not_true_eq_false, not_false_eq_true, forall_const, false_implies, true_implies, Int.reduceEq, Int.reduceLT, Int.reduceLE, Int.reduceAdd, Int.reduceSub, Int.reduceMul, Int.reduceNeg, Int.reduceToNat, Int.toNat_natCast, ↓reduceIte, reduceIte, Nat.reduceEqDiff, Nat.reduceSub, Nat.reduceMul, ne_eq, Int.zero_add, Int.add_zero, Int.sub_zero, Nat.add_zero, Int.ofNat_eq_natCast, tX4_addBytes_5]
      have nx := ih (z_up (z_up σ1 (k0 + 1) (σ1 k0 1).toNat (q_by8 x1 d)) k0 1 (σ1 k0 1 + 1)) (by omega) (by rw [z_up_eq]; omega) (by rw [z_up_eq]; omega) hr
      refine ⟨fun e => by omega, fun _ _ => ⟨fun e => by omega, fun _ _ => ⟨by omega, by omega, fun _ => ⟨by omega, ⟨by omega, ?_⟩, nx⟩⟩⟩⟩
      exact fun j x e => by obtain rfl : j = 3 := (by omega); exact fun q => by cases q
  refine h0 _ _ _ ?_
  simp only [z_push, z_lpush, z_iload, z_lload, z_aload, z_istore, z_istoreP, z_lstore, z_astore, z_iinc, z_iincP, z_iadd, z_isub, z_imul, z_iaddW, z_isubW, z_imulW, z_idiv, z_irem, z_iand, z_ior, z_ixor, z_ishl, z_ishr, z_iushr, z_ineg, z_i2l, z_i2b, z_i2s, z_i2c, z_l2i, z_ladd, z_lsub, z_land, z_lor, z_lshl, z_lshr, z_lcmp, z_dup, z_pop, z_dup2, z_goto, z_tsw, z_cases, z_geti, z_getr, z_puti, z_putz, z_ald, z_iast, z_bast, z_zast, z_alen, z_acopy, z_mmax, z_mmin, z_mabs, z_mabsL, z_iret, z_zret, z_nret, z_lret, z_aret, z_vret, z_cat, z_xald, z_xlen, z_ldcs, z_strv, z_strc, z_gcs, z_gfm, z_sln, z_sald, z_ifeq, z_ifne, z_iflt, z_ifge, z_ifgt, z_ifle, z_iceq, z_icne, z_iclt, z_icge, z_icgt, z_icle, z_cs0, z_cs1, z_cs2, z_cs3, z_cs4, z_cs5, z_cs6, z_cs7, z_cv0, z_cv1, z_cv2, z_cv3, z_cv4, z_cv5, z_cv6, z_cv7, z_g0, z_s0, z_g1, z_s1, z_g2, z_s2, z_g3, z_s3, z_g4, z_s4, z_g5, z_s5, z_g6, z_s6, z_g7, z_s7, z_g8, z_s8, z_g9, z_s9, z_g10, z_s10, z_g11, z_s11, z_g12, z_s12, z_g13, z_s13, z_b0, z_b1, z_b0n, z_b1n, z_up_far1, z_up_far2, z_up_far3, z_up_far4, z_up_far5, z_up_far6, Classical.not_not, not_true_eq_false, z_in, z_inL, Int.cast_ofNat_Int, Nat.reduceLeDiff, List.length_cons, List.length_nil, Nat.reduceAdd, Nat.zero_add, Nat.le_refl, true_and, and_true, List.length, Nat.reduceLT, true_or, or_true, false_or, or_false, false_and, and_false, not_true_eq_false, not_false_eq_true, forall_const, false_implies, true_implies, Int.reduceEq, Int.reduceLT, Int.reduceLE, Int.reduceAdd, Int.reduceSub, Int.reduceMul, Int.reduceNeg, Int.reduceToNat, Int.toNat_natCast, ↓reduceIte, reduceIte, Nat.reduceEqDiff, Nat.reduceSub, Nat.reduceMul, ne_eq, Int.zero_add, Int.add_zero, Int.sub_zero, Nat.add_zero, Int.ofNat_eq_natCast, tX4_addBytes_0]
  refine ⟨by omega, ?_, L5 n σ (by omega) c0 (by omega) h⟩
  exact fun j x e => by obtain rfl : j = 3 := (by omega); exact fun q => by cases q
theorem dX4_addBytes_0 : decode cX4_addBytes 0 = .ok (.iload_n 3, 1) := by decide +kernel
theorem dX4_addBytes_1 : decode cX4_addBytes 1 = .ok (.iconst 1, 1) := by decide +kernel
theorem dX4_addBytes_2 : decode cX4_addBytes 2 = .ok (.isub, 1) := by decide +kernel
theorem dX4_addBytes_3 : decode cX4_addBytes 3 = .ok (.istore 4, 2) := by decide +kernel
theorem dX4_addBytes_5 : decode cX4_addBytes 5 = .ok (.iload 4, 2) := by decide +kernel
theorem dX4_addBytes_7 : decode cX4_addBytes 7 = .ok (.ifCond .lt 47, 3) := by decide +kernel
theorem dX4_addBytes_10 : decode cX4_addBytes 10 = .ok (.aload_n 0, 1) := by decide +kernel
theorem dX4_addBytes_11 : decode cX4_addBytes 11 = .ok (.getfield 15, 3) := by decide +kernel
theorem dX4_addBytes_14 : decode cX4_addBytes 14 = .ok (.sipush 400, 3) := by decide +kernel
theorem dX4_addBytes_17 : decode cX4_addBytes 17 = .ok (.if_icmp .ge 37, 3) := by decide +kernel
theorem dX4_addBytes_20 : decode cX4_addBytes 20 = .ok (.aload_n 0, 1) := by decide +kernel
theorem dX4_addBytes_21 : decode cX4_addBytes 21 = .ok (.getfield 9, 3) := by decide +kernel
theorem dX4_addBytes_24 : decode cX4_addBytes 24 = .ok (.aload_n 0, 1) := by decide +kernel
theorem dX4_addBytes_25 : decode cX4_addBytes 25 = .ok (.getfield 15, 3) := by decide +kernel
theorem dX4_addBytes_28 : decode cX4_addBytes 28 = .ok (.lload_n 1, 1) := by decide +kernel
theorem dX4_addBytes_29 : decode cX4_addBytes 29 = .ok (.bipush 8, 2) := by decide +kernel
theorem dX4_addBytes_31 : decode cX4_addBytes 31 = .ok (.iload 4, 2) := by decide +kernel
theorem dX4_addBytes_33 : decode cX4_addBytes 33 = .ok (.imul, 1) := by decide +kernel
theorem dX4_addBytes_34 : decode cX4_addBytes 34 = .ok (.lshr, 1) := by decide +kernel
theorem dX4_addBytes_35 : decode cX4_addBytes 35 = .ok (.l2i, 1) := by decide +kernel
theorem dX4_addBytes_36 : decode cX4_addBytes 36 = .ok (.i2b, 1) := by decide +kernel
theorem dX4_addBytes_37 : decode cX4_addBytes 37 = .ok (.bastore, 1) := by decide +kernel
theorem dX4_addBytes_38 : decode cX4_addBytes 38 = .ok (.aload_n 0, 1) := by decide +kernel
theorem dX4_addBytes_39 : decode cX4_addBytes 39 = .ok (.dup, 1) := by decide +kernel
theorem dX4_addBytes_40 : decode cX4_addBytes 40 = .ok (.getfield 15, 3) := by decide +kernel
theorem dX4_addBytes_43 : decode cX4_addBytes 43 = .ok (.iconst 1, 1) := by decide +kernel
theorem dX4_addBytes_44 : decode cX4_addBytes 44 = .ok (.iadd, 1) := by decide +kernel
theorem dX4_addBytes_45 : decode cX4_addBytes 45 = .ok (.putfield 15, 3) := by decide +kernel
theorem dX4_addBytes_48 : decode cX4_addBytes 48 = .ok (.iinc 4 (-1), 3) := by decide +kernel
theorem dX4_addBytes_51 : decode cX4_addBytes 51 = .ok (.goto (-46), 3) := by decide +kernel
theorem dX4_addBytes_54 : decode cX4_addBytes 54 = .ok (.return_, 1) := by decide +kernel
set_option maxRecDepth 100000 in
theorem rX4_addBytes_0 {zx : zX} {zn : Nat} {p : Program} {l : Launch} {e : Env} {s : State} {m : MethodId} {args : Array Value} {below : List Frame} {meth : Method} {c : Code} {D : va_G} {cA : Nat → ClassId} {ad : Nat → Nat} {Ret : zR} (C : z_Cx zx zn (z_A zn ad) 0 0 p { frames := 0, cells := 0, slots := 0, locals := 0 } s m args c cX4_addBytes yX4_addBytes.cls 5 D cA ad) (hr : meth.sig.returnType = none) (hlocks : meth.locks = false) : ∀ L st σ, tX4_addBytes_0 (z_X zx zn (z_A zn ad) 0 0 p l e { frames := 0, cells := 0, slots := 0, locals := 0 } s m args below meth c (MQ below (z_Qc zn D cA ad Ret) args s 0 0 (z_A zn ad)) 5 D cA ad false) Ret L st σ → z_X zx zn (z_A zn ad) 0 0 p l e { frames := 0, cells := 0, slots := 0, locals := 0 } s m args below meth c (MQ below (z_Qc zn D cA ad Ret) args s 0 0 (z_A zn ad)) 5 D cA ad false 0 L st σ := (s_iload_n C dX4_addBytes_0 rfl (s_iconst C dX4_addBytes_1 rfl ⟨by decide, by decide⟩ (s_isub C dX4_addBytes_2 (s_istoreP C dX4_addBytes_3 (by decide)  (fun _ _ _ h => h)))))
set_option maxRecDepth 100000 in
theorem rX4_addBytes_5 {zx : zX} {zn : Nat} {p : Program} {l : Launch} {e : Env} {s : State} {m : MethodId} {args : Array Value} {below : List Frame} {meth : Method} {c : Code} {D : va_G} {cA : Nat → ClassId} {ad : Nat → Nat} {Ret : zR} (C : z_Cx zx zn (z_A zn ad) 0 0 p { frames := 0, cells := 0, slots := 0, locals := 0 } s m args c cX4_addBytes yX4_addBytes.cls 5 D cA ad) (hr : meth.sig.returnType = none) (hlocks : meth.locks = false) : ∀ L st σ, tX4_addBytes_5 (z_X zx zn (z_A zn ad) 0 0 p l e { frames := 0, cells := 0, slots := 0, locals := 0 } s m args below meth c (MQ below (z_Qc zn D cA ad Ret) args s 0 0 (z_A zn ad)) 5 D cA ad false) Ret L st σ → z_X zx zn (z_A zn ad) 0 0 p l e { frames := 0, cells := 0, slots := 0, locals := 0 } s m args below meth c (MQ below (z_Qc zn D cA ad Ret) args s 0 0 (z_A zn ad)) 5 D cA ad false 5 L st σ := (s_iload C dX4_addBytes_5 (s_iflt C dX4_addBytes_7 (by decide) (s_vret C dX4_addBytes_54 hr hlocks) (s_aload_n C dX4_addBytes_10 rfl (s_geti C dX4_addBytes_11 cls_X4 (by decide) rfl wd_48 (s_sipush C dX4_addBytes_14 rfl ⟨by decide, by decide⟩ (s_icge C dX4_addBytes_17 (by decide) (s_vret C dX4_addBytes_54 hr hlocks) (s_aload_n C dX4_addBytes_20 rfl (s_getr C dX4_addBytes_21 (j := 0) cls_X4 (by decide) rfl (by decide) (by decide) (by decide +kernel) wd_47 (s_aload_n C dX4_addBytes_24 rfl (s_geti C dX4_addBytes_25 cls_X4 (by decide) rfl wd_48 (s_lload_n C dX4_addBytes_28 rfl (s_bipush C dX4_addBytes_29 rfl ⟨by decide, by decide⟩ (s_iload C dX4_addBytes_31 (s_imul C dX4_addBytes_33 (s_lshr C dX4_addBytes_34 (s_l2i C dX4_addBytes_35 (s_i2b C dX4_addBytes_36 (s_bast C dX4_addBytes_37 (s_aload_n C dX4_addBytes_38 rfl (s_dup C dX4_addBytes_39 (s_geti C dX4_addBytes_40 cls_X4 (by decide) rfl wd_48 (s_iconst C dX4_addBytes_43 rfl ⟨by decide, by decide⟩ (s_iadd C dX4_addBytes_44 (s_puti C dX4_addBytes_45 cls_X4 (by decide) rfl wd_48 rfl rfl (s_iincP C dX4_addBytes_48 (by decide)  (s_goto C dX4_addBytes_51 (by decide) (fun _ _ _ h => h)))))))))))))))))))))))))))
theorem okX4_addBytes {zx : zX} {zn : Nat} (l : Launch) : z_OK zx zn l yX4_addBytes cX4_addBytes 5 none 0 0 SX4_addBytes := by
  refine z_ok_of false (by decide +kernel) ?_ ?_
  · intro as σ Ret h
    obtain ⟨k0, x1, x2, rfl⟩ := pX4_addBytes h
    exact ⟨Nat.le_of_ble_eq_true rfl, by intro h; cases h⟩
  · intro p e s m args below meth c D cA ad Ret C hr hlocks as σ has hσ h
    obtain ⟨k0, x1, x2, rfl⟩ := pX4_addBytes h
    exact vX4_addBytes (rX4_addBytes_0 C hr hlocks) (rX4_addBytes_5 C hr hlocks) k0 x1 x2 σ (has _ (List.mem_of_getElem? (i := 0) rfl)).1 (has _ (List.mem_of_getElem? (i := 1) rfl)) (has _ (List.mem_of_getElem? (i := 2) rfl)) hσ h
