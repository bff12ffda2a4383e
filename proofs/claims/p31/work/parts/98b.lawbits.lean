/-! the law's own numbers -/
theorem w_m31 (X : Int32) : 0 ≤ (X &&& Int32.ofInt 2147483647).toInt ∧ (X &&& Int32.ofInt 2147483647).toInt ≤ 2147483647 := by
  have h : (X &&& Int32.ofInt 2147483647).toBitVec.toNat ≤ 2147483647 := by
    rw [Int32.toBitVec_and, BitVec.toNat_and]
    exact Nat.and_le_right
  have h1 : (X &&& Int32.ofInt 2147483647).toInt = ((X &&& Int32.ofInt 2147483647).toBitVec.toNat : Int) := by
    rw [← Int32.toInt_toBitVec]
    exact BitVec.toInt_eq_toNat_of_lt (by omega)
  omega
theorem w_nat {x : Int} (h : 0 ≤ x ∧ x ≤ 2147483647) : (Int32.ofInt x).toBitVec.toNat = x.toNat := by
  have h1 : (Int32.ofInt x).toInt = x := z_toInt ⟨by omega, h.2⟩
  have h2 : (Int32.ofInt x).toInt % 4294967296 = ((Int32.ofInt x).toBitVec.toNat : Int) % 4294967296 := by
    rw [← Int32.toInt_toBitVec, BitVec.toInt_eq_toNat_bmod]
    exact Int.bmod_emod
  have h3 := (Int32.ofInt x).toBitVec.isLt
  omega
theorem w_and63 {x : Int} (h : 0 ≤ x ∧ x ≤ 2147483647) : (Int32.ofInt x &&& Int32.ofInt 63).toInt = x % 64 := by
  have h0 : (Int32.ofInt x &&& Int32.ofInt 63).toBitVec.toNat = x.toNat % 64 := by
    rw [Int32.toBitVec_and, BitVec.toNat_and, w_nat h]
    show x.toNat &&& 63 = _
    exact Nat.and_two_pow_sub_one_eq_mod _ 6
  have h1 : (Int32.ofInt x &&& Int32.ofInt 63).toInt = ((Int32.ofInt x &&& Int32.ofInt 63).toBitVec.toNat : Int) := by
    rw [← Int32.toInt_toBitVec]
    exact BitVec.toInt_eq_toNat_of_lt (by omega)
  rw [h1, h0]
  omega
theorem w_and64 {x : Int} (h : 0 ≤ x ∧ x ≤ 2147483647) : (Int32.ofInt x &&& Int32.ofInt 64).toInt = 64 * (x / 64 % 2) := by
  have h0 : (Int32.ofInt x &&& Int32.ofInt 64).toBitVec.toNat = 64 * (x.toNat / 64 % 2) := by
    rw [Int32.toBitVec_and, BitVec.toNat_and, w_nat h]
    show x.toNat &&& 64 = _
    have e : x.toNat &&& 64 = x.toNat % 128 &&& 64 := by
      rw [← Nat.and_two_pow_sub_one_eq_mod x.toNat 7, Nat.and_assoc]
      rfl
    have k : ∀ y, y < 128 → y &&& 64 = 64 * (y / 64 % 2) := by decide +kernel
    rw [e, k _ (Nat.mod_lt _ (by omega))]
    omega
  have h1 : (Int32.ofInt x &&& Int32.ofInt 64).toInt = ((Int32.ofInt x &&& Int32.ofInt 64).toBitVec.toNat : Int) := by
    rw [← Int32.toInt_toBitVec]
    exact BitVec.toInt_eq_toNat_of_lt (by omega)
  rw [h1, h0]
  omega
theorem w_sar7 {x : Int} (h : z_in x) : (Int32.ofInt x >>> (Int32.ofInt 7 &&& 31)).toInt = x / 128 := by
  rw [← Int32.toInt_toBitVec, Int32.toBitVec_shiftRight, show (Int32.ofInt 7 &&& 31) = Int32.ofInt 7 by decide]
  show ((Int32.ofInt x).toBitVec.sshiftRight 7).toInt = _
  rw [BitVec.toInt_sshiftRight, Int32.toInt_toBitVec, z_toInt h, Int.shiftRight_eq_div_pow]
  rfl
def w_low (v n : Int) : Int := ((Int32.ofInt v &&& Int32.ofInt 2147483647).toInt).tmod n
theorem w_low_in {v n : Int} (h : 1 ≤ n) : 0 ≤ w_low v n ∧ w_low v n < n := by
  unfold w_low
  have a := w_m31 (Int32.ofInt v)
  rw [Int.tmod_eq_emod_of_nonneg a.1]
  exact ⟨Int.emod_nonneg _ (by omega), Int.emod_lt_of_pos _ (by omega)⟩
def w_sar (x k : Int) : Int := (Int32.ofInt x >>> (Int32.ofInt k &&& 31)).toInt
def w_b1 (x : Int) : Int := (Int32.ofInt x &&& Int32.ofInt 1).toInt
def w_b3 (x : Int) : Int := (Int32.ofInt x &&& Int32.ofInt 3).toInt
theorem w_sar_f (x k : Int) : (Int32.ofInt x >>> (Int32.ofInt k &&& 31)).toInt = w_sar x k := rfl
theorem w_b1_f (x : Int) : (Int32.ofInt x &&& Int32.ofInt 1).toInt = w_b1 x := rfl
theorem w_b3_f (x : Int) : (Int32.ofInt x &&& Int32.ofInt 3).toInt = w_b3 x := rfl
theorem w_sar_in (x k : Int) : -2147483648 ≤ w_sar x k ∧ w_sar x k ≤ 2147483647 := z_in32 _
def w_cell (zx : zX) (k : Nat) : Int := if (k : Int) < (zx.1 : Int) then (zx.2 k).toInt else z_wr (1013904223 * ((k : Int) + 1))
theorem w_cell_in (zx : zX) (k : Nat) : -2147483648 ≤ w_cell zx k ∧ w_cell zx k ≤ 2147483647 := by
  unfold w_cell
  split
  · exact z_in32 _
  · exact z_in32 _
def SL_cell (zx : zX) : zS := fun as σ Ret => match as with
  | [.inr (.inr (252, 0, _)), .inl k] => (0 ≤ k ∧ k ≤ 1000) ∧ Ret (some (.inl (w_cell zx k.toNat))) σ
  | _ => False
def tL_cell_0 (zx : zX) (X : Nat → zB) (Ret : zR) (L : zL) (st : List zV) (σ : zM) : Prop := (z_iload 1 (z_aload 0 (z_xlen zx (z_icge (z_push 1013904223 (z_iload 1 (z_push 1 (z_iadd (z_imulW (z_iret Ret)))))) (z_aload 0 (z_iload 1 (z_xald zx (z_goto (z_iret Ret))))))))) L st σ
theorem pL_cell {zx : zX} {as : List zV} {σ : zM} {Ret : zR} (h : (SL_cell zx) as σ Ret) : ∃ (k1 : Nat) (x2 : Int), as = [.inr (.inr (252, 0, k1)), .inl x2] := by
  unfold SL_cell at h
  split at h
  · exact ⟨_, _, rfl⟩
  · exact h.elim
set_option maxRecDepth 10000 in
set_option maxHeartbeats 4000000 in
theorem vL_cell {zx : zX} {X : Nat → zB} {Ret : zR} (h0 : ∀ L st σ, tL_cell_0 zx X Ret L st σ → X 0 L st σ) (k1 : Nat) (x2 : Int) (σ : zM) (hk1 : z_kd k1 = (252, 0)) (hx2 : -2147483648 ≤ x2 ∧ x2 ≤ 2147483647) (hσ : z_okm σ) (h : (SL_cell zx) [.inr (.inr (252, 0, k1)), .inl x2] σ Ret) : X 0 [some (.inr (.inr (252, 0, k1))), some (.inl x2)] [] σ := by
  obtain ⟨c, h⟩ := h
  obtain ⟨k, rfl⟩ := z_nat c.1
  refine h0 _ _ _ ?_
  unfold w_cell at h
  rw [Int.toNat_natCast] at h
  simp only [z_push, z_lpush, z_iload, z_lload, z_aload, z_istore, z_istoreP, z_lstore, z_astore, z_iinc, z_iincP, z_iadd, z_isub, z_imul, z_iaddW, z_isubW, z_imulW, z_idiv, z_irem, z_iand, z_ior, z_ixor, z_ishl, z_ishr, z_iushr, z_ineg, z_i2l, z_i2b, z_i2s, z_i2c, z_l2i, z_ladd, z_lsub, z_land, z_lor, z_lshl, z_lshr, z_lcmp, z_dup, z_pop, z_dup2, z_goto, z_tsw, z_cases, z_geti, z_getr, z_puti, z_putz, z_ald, z_iast, z_bast, z_zast, z_alen, z_acopy, z_mmax, z_mmin, z_mabs, z_mabsL, z_iret, z_zret, z_nret, z_lret, z_aret, z_vret, z_cat, z_xald, z_xlen, z_ldcs, z_strv, z_strc, z_gcs, z_gfm, z_sln, z_sald, z_ifeq, z_ifne, z_iflt, z_ifge, z_ifgt, z_ifle, z_iceq, z_icne, z_iclt, z_icge, z_icgt, z_icle, z_cs0, z_cs1, z_cs2, z_cs3, z_cs4, z_cs5, z_cs6, z_cs7, z_cv0, z_cv1, z_cv2, z_cv3, z_cv4, z_cv5, z_cv6, z_cv7, z_g0, z_s0, z_g1, z_s1, z_g2, z_s2, z_g3, z_s3, z_g4, z_s4, z_g5, z_s5, z_g6, z_s6, z_g7, z_s7, z_g8, z_s8, z_g9, z_s9, z_g10, z_s10, z_g11, z_s11, z_g12, z_s12, z_g13, z_s13, z_b0, z_b1, z_b0n, z_b1n, z_up_far1, z_up_far2, z_up_far3, z_up_far4, z_up_far5, z_up_far6, Classical.not_not, not_true_eq_false, z_in, z_inL, Int.cast_ofNat_Int, Nat.reduceLeDiff, List.length_cons, List.length_nil, Nat.reduceAdd, Nat.zero_add, Nat.le_refl, true_and, and_true, List.length, Nat.reduceLT, true_or, or_true, false_or, or_false, false_and, and_false, not_true_eq_false, not_false_eq_true, forall_const, false_implies, true_implies, Int.reduceEq, Int.reduceLT, Int.reduceLE, Int.reduceAdd, Int.reduceSub, Int.reduceMul, Int.reduceNeg, Int.reduceToNat, Int.toNat_natCast, ↓reduceIte, reduceIte, Nat.reduceEqDiff, Nat.reduceSub, Nat.reduceMul, ne_eq, Int.zero_add, Int.add_zero, Int.sub_zero, Nat.add_zero, Int.ofNat_eq_natCast, tL_cell_0]
  refine ⟨fun e => ?_, fun e => ?_⟩
  · rw [if_neg (by omega)] at h
    exact ⟨⟨by omega, by omega⟩, h⟩
  · rw [if_pos (by omega)] at h
    exact ⟨⟨by omega, by omega⟩, h⟩
theorem dL_cell_0 : decode cL_cell 0 = .ok (.iload_n 1, 1) := by decide +kernel
theorem dL_cell_1 : decode cL_cell 1 = .ok (.aload_n 0, 1) := by decide +kernel
theorem dL_cell_2 : decode cL_cell 2 = .ok (.arraylength, 1) := by decide +kernel
theorem dL_cell_3 : decode cL_cell 3 = .ok (.if_icmp .ge 9, 3) := by decide +kernel
theorem dL_cell_6 : decode cL_cell 6 = .ok (.aload_n 0, 1) := by decide +kernel
theorem dL_cell_7 : decode cL_cell 7 = .ok (.iload_n 1, 1) := by decide +kernel
theorem dL_cell_8 : decode cL_cell 8 = .ok (.iaload, 1) := by decide +kernel
theorem dL_cell_9 : decode cL_cell 9 = .ok (.goto 9, 3) := by decide +kernel
theorem dL_cell_12 : decode cL_cell 12 = .ok (.ldc 7, 2) := by decide +kernel
theorem dL_cell_14 : decode cL_cell 14 = .ok (.iload_n 1, 1) := by decide +kernel
theorem dL_cell_15 : decode cL_cell 15 = .ok (.iconst 1, 1) := by decide +kernel
theorem dL_cell_16 : decode cL_cell 16 = .ok (.iadd, 1) := by decide +kernel
theorem dL_cell_17 : decode cL_cell 17 = .ok (.imul, 1) := by decide +kernel
theorem dL_cell_18 : decode cL_cell 18 = .ok (.ireturn, 1) := by decide +kernel
set_option maxRecDepth 100000 in
theorem rL_cell_0 {zx : zX} {zn : Nat} {p : Program} {l : Launch} {e : Env} {s : State} {m : MethodId} {args : Array Value} {below : List Frame} {meth : Method} {c : Code} {D : va_G} {cA : Nat → ClassId} {ad : Nat → Nat} {Ret : zR} (C : z_Cx zx zn (z_A zn ad) 0 0 p { frames := 0, cells := 0, slots := 0, locals := 0 } s m args c cL_cell yL_cell.cls 2 D cA ad) (hr : meth.sig.returnType = (some .int)) (hlocks : meth.locks = false) : ∀ L st σ, tL_cell_0 zx (z_X zx zn (z_A zn ad) 0 0 p l e { frames := 0, cells := 0, slots := 0, locals := 0 } s m args below meth c (MQ below (z_Qc zn D cA ad Ret) args s 0 0 (z_A zn ad)) 2 D cA ad true) Ret L st σ → z_X zx zn (z_A zn ad) 0 0 p l e { frames := 0, cells := 0, slots := 0, locals := 0 } s m args below meth c (MQ below (z_Qc zn D cA ad Ret) args s 0 0 (z_A zn ad)) 2 D cA ad true 0 L st σ := (s_iload_n C dL_cell_0 rfl (s_aload_n C dL_cell_1 rfl (s_xlen C dL_cell_2 (s_icge C dL_cell_3 (by decide) (s_ldc C dL_cell_12 (v := 1013904223) wd_543 ⟨by decide, by decide⟩ (s_iload_n C dL_cell_14 rfl (s_iconst C dL_cell_15 rfl ⟨by decide, by decide⟩ (s_iadd C dL_cell_16 (s_imulW C dL_cell_17 (s_iret C dL_cell_18 hr hlocks)))))) (s_aload_n C dL_cell_6 rfl (s_iload_n C dL_cell_7 rfl (s_xald C dL_cell_8 (s_goto C dL_cell_9 (by decide) (s_iret C dL_cell_18 hr hlocks)))))))))
theorem okL_cell {zx : zX} {zn : Nat} (l : Launch) : z_OK zx zn l yL_cell cL_cell 2 (some .int) 0 0 (SL_cell zx) := by
  refine z_ok_of true (by decide +kernel) ?_ ?_
  · intro as σ Ret h
    obtain ⟨k1, x2, rfl⟩ := pL_cell h
    exact ⟨Nat.le_of_ble_eq_true rfl, by simp⟩
  · intro p e s m args below meth c D cA ad Ret C hr hlocks as σ has hσ h
    obtain ⟨k1, x2, rfl⟩ := pL_cell h
    exact vL_cell (rL_cell_0 C hr hlocks) k1 x2 σ (has _ (List.mem_of_getElem? (i := 0) rfl)).1 (has _ (List.mem_of_getElem? (i := 1) rfl)) hσ h
def SL_low (zx : zX) : zS := fun as σ Ret => match as with
  | [.inl v, .inl n] => (1 ≤ n ∧ n ≤ 1000) ∧ Ret (some (.inl (w_low v n))) σ
  | _ => False
def tL_low_0 (zx : zX) (X : Nat → zB) (Ret : zR) (L : zL) (st : List zV) (σ : zM) : Prop := (z_iload 0 (z_push 2147483647 (z_iand (z_iload 1 (z_irem (z_iret Ret)))))) L st σ
theorem pL_low {zx : zX} {as : List zV} {σ : zM} {Ret : zR} (h : (SL_low zx) as σ Ret) : ∃ (x1 : Int) (x2 : Int), as = [.inl x1, .inl x2] := by
  unfold SL_low at h
  split at h
  · exact ⟨_, _, rfl⟩
  · exact h.elim
set_option maxRecDepth 10000 in
set_option maxHeartbeats 4000000 in
theorem vL_low {zx : zX} {X : Nat → zB} {Ret : zR} (h0 : ∀ L st σ, tL_low_0 zx X Ret L st σ → X 0 L st σ) (x1 : Int) (x2 : Int) (σ : zM) (hx1 : -2147483648 ≤ x1 ∧ x1 ≤ 2147483647) (hx2 : -2147483648 ≤ x2 ∧ x2 ≤ 2147483647) (hσ : z_okm σ) (h : (SL_low zx) [.inl x1, .inl x2] σ Ret) : X 0 [some (.inl x1), some (.inl x2)] [] σ := by
  obtain ⟨c, h⟩ := h
  have a := w_low_in (v := x1) c.1
  have b := w_m31 (Int32.ofInt x1)
  unfold w_low at h a
  refine h0 _ _ _ ?_
  simp only [z_push, z_lpush, z_iload, z_lload, z_aload, z_istore, z_istoreP, z_lstore, z_astore, z_iinc, z_iincP, z_iadd, z_isub, z_imul, z_iaddW, z_isubW, z_imulW, z_idiv, z_irem, z_iand, z_ior, z_ixor, z_ishl, z_ishr, z_iushr, z_ineg, z_i2l, z_i2b, z_i2s, z_i2c, z_l2i, z_ladd, z_lsub, z_land, z_lor, z_lshl, z_lshr, z_lcmp, z_dup, z_pop, z_dup2, z_goto, z_tsw, z_cases, z_geti, z_getr, z_puti, z_putz, z_ald, z_iast, z_bast, z_zast, z_alen, z_acopy, z_mmax, z_mmin, z_mabs, z_mabsL, z_iret, z_zret, z_nret, z_lret, z_aret, z_vret, z_cat, z_xald, z_xlen, z_ldcs, z_strv, z_strc, z_gcs, z_gfm, z_sln, z_sald, z_ifeq, z_ifne, z_iflt, z_ifge, z_ifgt, z_ifle, z_iceq, z_icne, z_iclt, z_icge, z_icgt, z_icle, z_cs0, z_cs1, z_cs2, z_cs3, z_cs4, z_cs5, z_cs6, z_cs7, z_cv0, z_cv1, z_cv2, z_cv3, z_cv4, z_cv5, z_cv6, z_cv7, z_g0, z_s0, z_g1, z_s1, z_g2, z_s2, z_g3, z_s3, z_g4, z_s4, z_g5, z_s5, z_g6, z_s6, z_g7, z_s7, z_g8, z_s8, z_g9, z_s9, z_g10, z_s10, z_g11, z_s11, z_g12, z_s12, z_g13, z_s13, z_b0, z_b1, z_b0n, z_b1n, z_up_far1, z_up_far2, z_up_far3, z_up_far4, z_up_far5, z_up_far6, Classical.not_not, not_true_eq_false, z_in, z_inL, Int.cast_ofNat_Int, Nat.reduceLeDiff, List.length_cons, List.length_nil, Nat.reduceAdd, Nat.zero_add, Nat.le_refl, true_and, and_true, List.length, Nat.reduceLT, true_or, or_true, false_or, or_false, false_and, and_false, not_true_eq_false, not_false_eq_true, forall_const, false_implies, true_implies, Int.reduceEq, Int.reduceLT, Int.reduceLE, Int.reduceAdd, Int.reduceSub, Int.reduceMul, Int.reduceNeg, Int.reduceToNat, Int.toNat_natCast, ↓reduceIte, reduceIte, Nat.reduceEqDiff, Nat.reduceSub, Nat.reduceMul, ne_eq, Int.zero_add, Int.add_zero, Int.sub_zero, Nat.add_zero, Int.ofNat_eq_natCast, tL_low_0]
  generalize (Int32.ofInt x1 &&& Int32.ofInt 2147483647).toInt = y at *
  have t : 0 ≤ y.tdiv x2 ∧ y.tdiv x2 ≤ y := ⟨Int.tdiv_nonneg b.1 (by omega), Int.tdiv_le_self _ b.1⟩
  exact ⟨⟨⟨by omega, by omega⟩, by omega⟩, h⟩
theorem dL_low_0 : decode cL_low 0 = .ok (.iload_n 0, 1) := by decide +kernel
theorem dL_low_1 : decode cL_low 1 = .ok (.ldc 8, 2) := by decide +kernel
theorem dL_low_3 : decode cL_low 3 = .ok (.iand, 1) := by decide +kernel
theorem dL_low_4 : decode cL_low 4 = .ok (.iload_n 1, 1) := by decide +kernel
theorem dL_low_5 : decode cL_low 5 = .ok (.irem, 1) := by decide +kernel
theorem dL_low_6 : decode cL_low 6 = .ok (.ireturn, 1) := by decide +kernel
set_option maxRecDepth 100000 in
theorem rL_low_0 {zx : zX} {zn : Nat} {p : Program} {l : Launch} {e : Env} {s : State} {m : MethodId} {args : Array Value} {below : List Frame} {meth : Method} {c : Code} {D : va_G} {cA : Nat → ClassId} {ad : Nat → Nat} {Ret : zR} (C : z_Cx zx zn (z_A zn ad) 0 0 p { frames := 0, cells := 0, slots := 0, locals := 0 } s m args c cL_low yL_low.cls 2 D cA ad) (hr : meth.sig.returnType = (some .int)) (hlocks : meth.locks = false) : ∀ L st σ, tL_low_0 zx (z_X zx zn (z_A zn ad) 0 0 p l e { frames := 0, cells := 0, slots := 0, locals := 0 } s m args below meth c (MQ below (z_Qc zn D cA ad Ret) args s 0 0 (z_A zn ad)) 2 D cA ad true) Ret L st σ → z_X zx zn (z_A zn ad) 0 0 p l e { frames := 0, cells := 0, slots := 0, locals := 0 } s m args below meth c (MQ below (z_Qc zn D cA ad Ret) args s 0 0 (z_A zn ad)) 2 D cA ad true 0 L st σ := (s_iload_n C dL_low_0 rfl (s_ldc C dL_low_1 (v := 2147483647) wd_547 ⟨by decide, by decide⟩ (s_iand C dL_low_3 (s_iload_n C dL_low_4 rfl (s_irem C dL_low_5 (s_iret C dL_low_6 hr hlocks))))))
theorem okL_low {zx : zX} {zn : Nat} (l : Launch) : z_OK zx zn l yL_low cL_low 2 (some .int) 0 0 (SL_low zx) := by
  refine z_ok_of true (by decide +kernel) ?_ ?_
  · intro as σ Ret h
    obtain ⟨x1, x2, rfl⟩ := pL_low h
    exact ⟨Nat.le_of_ble_eq_true rfl, by simp⟩
  · intro p e s m args below meth c D cA ad Ret C hr hlocks as σ has hσ h
    obtain ⟨x1, x2, rfl⟩ := pL_low h
    exact vL_low (rL_low_0 C hr hlocks) x1 x2 σ (has _ (List.mem_of_getElem? (i := 0) rfl)) (has _ (List.mem_of_getElem? (i := 1) rfl)) hσ h
def w_nt (zx : zX) : Int := 1 + w_low (w_cell zx 0) 8
def w_nw (zx : zX) : Int := w_low (w_sar (w_cell zx 0) 3) 5
def w_nn (zx : zX) : Int := w_low (w_sar (w_cell zx 0) 6) 7
theorem w_nt_in (zx : zX) : 1 ≤ w_nt zx ∧ w_nt zx ≤ 8 := by
  unfold w_nt
  have := w_low_in (v := w_cell zx 0) (n := 8) (by omega)
  omega
theorem w_nw_in (zx : zX) : 0 ≤ w_nw zx ∧ w_nw zx ≤ 4 := by
  unfold w_nw
  have := w_low_in (v := w_sar (w_cell zx 0) 3) (n := 5) (by omega)
  omega
theorem w_nn_in (zx : zX) : 0 ≤ w_nn zx ∧ w_nn zx ≤ 6 := by
  unfold w_nn
  have := w_low_in (v := w_sar (w_cell zx 0) 6) (n := 7) (by omega)
  omega
def SL_trees (zx : zX) : zS := fun as σ Ret => match as with
  | [.inr (.inr (252, 0, _))] => Ret (some (.inl (w_nt zx))) σ
  | _ => False
def tL_trees_0 (zx : zX) (X : Nat → zB) (Ret : zR) (L : zL) (st : List zV) (σ : zM) : Prop := (z_push 1 (z_aload 0 (z_push 0 (z_cs2 (SL_cell zx) (z_push 8 (z_cs2 (SL_low zx) (z_iadd (z_iret Ret)))))))) L st σ
theorem pL_trees {zx : zX} {as : List zV} {σ : zM} {Ret : zR} (h : (SL_trees zx) as σ Ret) : ∃ (k1 : Nat), as = [.inr (.inr (252, 0, k1))] := by
  unfold SL_trees at h
  split at h
  · exact ⟨_, rfl⟩
  · exact h.elim
set_option maxRecDepth 10000 in
set_option maxHeartbeats 4000000 in
theorem vL_trees {zx : zX} {X : Nat → zB} {Ret : zR} (h0 : ∀ L st σ, tL_trees_0 zx X Ret L st σ → X 0 L st σ) (k1 : Nat) (σ : zM) (hk1 : z_kd k1 = (252, 0)) (hσ : z_okm σ) (h : (SL_trees zx) [.inr (.inr (252, 0, k1))] σ Ret) : X 0 [some (.inr (.inr (252, 0, k1)))] [] σ := by
  have b := w_nt_in zx
  unfold SL_trees at h
  unfold w_nt at h b
  refine h0 _ _ _ ?_
  simp only [z_push, z_lpush, z_iload, z_lload, z_aload, z_istore, z_istoreP, z_lstore, z_astore, z_iinc, z_iincP, z_iadd, z_isub, z_imul, z_iaddW, z_isubW, z_imulW, z_idiv, z_irem, z_iand, z_ior, z_ixor, z_ishl, z_ishr, z_iushr, z_ineg, z_i2l, z_i2b, z_i2s, z_i2c, z_l2i, z_ladd, z_lsub, z_land, z_lor, z_lshl, z_lshr, z_lcmp, z_dup, z_pop, z_dup2, z_goto, z_tsw, z_cases, z_geti, z_getr, z_puti, z_putz, z_ald, z_iast, z_bast, z_zast, z_alen, z_acopy, z_mmax, z_mmin, z_mabs, z_mabsL, z_iret, z_zret, z_nret, z_lret, z_aret, z_vret, z_cat, z_xald, z_xlen, z_ldcs, z_strv, z_strc, z_gcs, z_gfm, z_sln, z_sald, z_ifeq, z_ifne, z_iflt, z_ifge, z_ifgt, z_ifle, z_iceq, z_icne, z_iclt, z_icge, z_icgt, z_icle, z_cs0, z_cs1, z_cs2, z_cs3, z_cs4, z_cs5, z_cs6, z_cs7, z_cv0, z_cv1, z_cv2, z_cv3, z_cv4, z_cv5, z_cv6, z_cv7, z_g0, z_s0, z_g1, z_s1, z_g2, z_s2, z_g3, z_s3, z_g4, z_s4, z_g5, z_s5, z_g6, z_s6, z_g7, z_s7, z_g8, z_s8, z_g9, z_s9, z_g10, z_s10, z_g11, z_s11, z_g12, z_s12, z_g13, z_s13, z_b0, z_b1, z_b0n, z_b1n, z_up_far1, z_up_far2, z_up_far3, z_up_far4, z_up_far5, z_up_far6, Classical.not_not, not_true_eq_false, z_in, z_inL, Int.cast_ofNat_Int, Nat.reduceLeDiff, List.length_cons, List.length_nil, Nat.reduceAdd, Nat.zero_add, Nat.le_refl, true_and, and_true, List.length, Nat.reduceLT, true_or, or_true, false_or, or_false, false_and, and_false, not_true_eq_false, not_false_eq_true, forall_const, false_implies, true_implies, Int.reduceEq, Int.reduceLT, Int.reduceLE, Int.reduceAdd, Int.reduceSub, Int.reduceMul, Int.reduceNeg, Int.reduceToNat, Int.toNat_natCast, ↓reduceIte, reduceIte, Nat.reduceEqDiff, Nat.reduceSub, Nat.reduceMul, ne_eq, Int.zero_add, Int.add_zero, Int.sub_zero, Nat.add_zero, Int.ofNat_eq_natCast, tL_trees_0, SL_cell, SL_low]
  exact ⟨by omega, h⟩
theorem dL_trees_0 : decode cL_trees 0 = .ok (.iconst 1, 1) := by decide +kernel
theorem dL_trees_1 : decode cL_trees 1 = .ok (.aload_n 0, 1) := by decide +kernel
theorem dL_trees_2 : decode cL_trees 2 = .ok (.iconst 0, 1) := by decide +kernel
theorem dL_trees_3 : decode cL_trees 3 = .ok (.invokestatic 17, 3) := by decide +kernel
theorem dL_trees_6 : decode cL_trees 6 = .ok (.bipush 8, 2) := by decide +kernel
theorem dL_trees_8 : decode cL_trees 8 = .ok (.invokestatic 23, 3) := by decide +kernel
theorem dL_trees_11 : decode cL_trees 11 = .ok (.iadd, 1) := by decide +kernel
theorem dL_trees_12 : decode cL_trees 12 = .ok (.ireturn, 1) := by decide +kernel
set_option maxRecDepth 100000 in
theorem rL_trees_0 {zx : zX} {zn : Nat} {p : Program} {l : Launch} {e : Env} {s : State} {m : MethodId} {args : Array Value} {below : List Frame} {meth : Method} {c : Code} {D : va_G} {cA : Nat → ClassId} {ad : Nat → Nat} {Ret : zR} (C : z_Cx zx zn (z_A zn ad) 0 0 p { frames := 1, cells := 0, slots := 0, locals := 21 } s m args c cL_trees yL_trees.cls 1 D cA ad) (hr : meth.sig.returnType = (some .int)) (hlocks : meth.locks = false) : ∀ L st σ, tL_trees_0 zx (z_X zx zn (z_A zn ad) 0 0 p l e { frames := 1, cells := 0, slots := 0, locals := 21 } s m args below meth c (MQ below (z_Qc zn D cA ad Ret) args s 0 0 (z_A zn ad)) 1 D cA ad true) Ret L st σ → z_X zx zn (z_A zn ad) 0 0 p l e { frames := 1, cells := 0, slots := 0, locals := 21 } s m args below meth c (MQ below (z_Qc zn D cA ad Ret) args s 0 0 (z_A zn ad)) 1 D cA ad true 0 L st σ := (s_iconst C dL_trees_0 rfl ⟨by decide, by decide⟩ (s_aload_n C dL_trees_1 rfl (s_iconst C dL_trees_2 rfl ⟨by decide, by decide⟩ (s_cs2 C dL_trees_3 (okL_cell l) wd_540 wd_541 wd_16 wd_542 ⟨by decide, by decide, by decide +kernel⟩ ⟨by decide, by decide⟩ (s_bipush C dL_trees_6 rfl ⟨by decide, by decide⟩ (s_cs2 C dL_trees_8 (okL_low l) wd_544 wd_545 wd_16 wd_546 ⟨by decide, by decide, by decide +kernel⟩ ⟨by decide, by decide⟩ (s_iadd C dL_trees_11 (s_iret C dL_trees_12 hr hlocks))))))))
theorem okL_trees {zx : zX} {zn : Nat} (l : Launch) : z_OK zx zn l yL_trees cL_trees 1 (some .int) 1 21 (SL_trees zx) := by
  refine z_ok_of true (by decide +kernel) ?_ ?_
  · intro as σ Ret h
    obtain ⟨k1, rfl⟩ := pL_trees h
    exact ⟨Nat.le_of_ble_eq_true rfl, by simp⟩
  · intro p e s m args below meth c D cA ad Ret C hr hlocks as σ has hσ h
    obtain ⟨k1, rfl⟩ := pL_trees h
    exact vL_trees (rL_trees_0 C hr hlocks) k1 σ (has _ (List.mem_of_getElem? (i := 0) rfl)).1 hσ h
def SL_winds (zx : zX) : zS := fun as σ Ret => match as with
  | [.inr (.inr (252, 0, _))] => Ret (some (.inl (w_nw zx))) σ
  | _ => False
def tL_winds_0 (zx : zX) (X : Nat → zB) (Ret : zR) (L : zL) (st : List zV) (σ : zM) : Prop := (z_aload 0 (z_push 0 (z_cs2 (SL_cell zx) (z_push 3 (z_ishr (z_push 5 (z_cs2 (SL_low zx) (z_iret Ret)))))))) L st σ
theorem pL_winds {zx : zX} {as : List zV} {σ : zM} {Ret : zR} (h : (SL_winds zx) as σ Ret) : ∃ (k1 : Nat), as = [.inr (.inr (252, 0, k1))] := by
  unfold SL_winds at h
  split at h
  · exact ⟨_, rfl⟩
  · exact h.elim
set_option maxRecDepth 10000 in
set_option maxHeartbeats 4000000 in
theorem vL_winds {zx : zX} {X : Nat → zB} {Ret : zR} (h0 : ∀ L st σ, tL_winds_0 zx X Ret L st σ → X 0 L st σ) (k1 : Nat) (σ : zM) (hk1 : z_kd k1 = (252, 0)) (hσ : z_okm σ) (h : (SL_winds zx) [.inr (.inr (252, 0, k1))] σ Ret) : X 0 [some (.inr (.inr (252, 0, k1)))] [] σ := by
  unfold SL_winds w_nw w_sar at h
  refine h0 _ _ _ ?_
  simp only [z_push, z_lpush, z_iload, z_lload, z_aload, z_istore, z_istoreP, z_lstore, z_astore, z_iinc, z_iincP, z_iadd, z_isub, z_imul, z_iaddW, z_isubW, z_imulW, z_idiv, z_irem, z_iand, z_ior, z_ixor, z_ishl, z_ishr, z_iushr, z_ineg, z_i2l, z_i2b, z_i2s, z_i2c, z_l2i, z_ladd, z_lsub, z_land, z_lor, z_lshl, z_lshr, z_lcmp, z_dup, z_pop, z_dup2, z_goto, z_tsw, z_cases, z_geti, z_getr, z_puti, z_putz, z_ald, z_iast, z_bast, z_zast, z_alen, z_acopy, z_mmax, z_mmin, z_mabs, z_mabsL, z_iret, z_zret, z_nret, z_lret, z_aret, z_vret, z_cat, z_xald, z_xlen, z_ldcs, z_strv, z_strc, z_gcs, z_gfm, z_sln, z_sald, z_ifeq, z_ifne, z_iflt, z_ifge, z_ifgt, z_ifle, z_iceq, z_icne, z_iclt, z_icge, z_icgt, z_icle, z_cs0, z_cs1, z_cs2, z_cs3, z_cs4, z_cs5, z_cs6, z_cs7, z_cv0, z_cv1, z_cv2, z_cv3, z_cv4, z_cv5, z_cv6, z_cv7, z_g0, z_s0, z_g1, z_s1, z_g2, z_s2, z_g3, z_s3, z_g4, z_s4, z_g5, z_s5, z_g6, z_s6, z_g7, z_s7, z_g8, z_s8, z_g9, z_s9, z_g10, z_s10, z_g11, z_s11, z_g12, z_s12, z_g13, z_s13, z_b0, z_b1, z_b0n, z_b1n, z_up_far1, z_up_far2, z_up_far3, z_up_far4, z_up_far5, z_up_far6, Classical.not_not, not_true_eq_false, z_in, z_inL, Int.cast_ofNat_Int, Nat.reduceLeDiff, List.length_cons, List.length_nil, Nat.reduceAdd, Nat.zero_add, Nat.le_refl, true_and, and_true, List.length, Nat.reduceLT, true_or, or_true, false_or, or_false, false_and, and_false, not_true_eq_false, not_false_eq_true, forall_const, false_implies, true_implies, Int.reduceEq, Int.reduceLT, Int.reduceLE, Int.reduceAdd, Int.reduceSub, Int.reduceMul, Int.reduceNeg, Int.reduceToNat, Int.toNat_natCast, ↓reduceIte, reduceIte, Nat.reduceEqDiff, Nat.reduceSub, Nat.reduceMul, ne_eq, Int.zero_add, Int.add_zero, Int.sub_zero, Nat.add_zero, Int.ofNat_eq_natCast, tL_winds_0, SL_cell, SL_low]
  exact h
theorem dL_winds_0 : decode cL_winds 0 = .ok (.aload_n 0, 1) := by decide +kernel
theorem dL_winds_1 : decode cL_winds 1 = .ok (.iconst 0, 1) := by decide +kernel
theorem dL_winds_2 : decode cL_winds 2 = .ok (.invokestatic 17, 3) := by decide +kernel
theorem dL_winds_5 : decode cL_winds 5 = .ok (.iconst 3, 1) := by decide +kernel
theorem dL_winds_6 : decode cL_winds 6 = .ok (.ishr, 1) := by decide +kernel
theorem dL_winds_7 : decode cL_winds 7 = .ok (.iconst 5, 1) := by decide +kernel
theorem dL_winds_8 : decode cL_winds 8 = .ok (.invokestatic 23, 3) := by decide +kernel
theorem dL_winds_11 : decode cL_winds 11 = .ok (.ireturn, 1) := by decide +kernel
set_option maxRecDepth 100000 in
theorem rL_winds_0 {zx : zX} {zn : Nat} {p : Program} {l : Launch} {e : Env} {s : State} {m : MethodId} {args : Array Value} {below : List Frame} {meth : Method} {c : Code} {D : va_G} {cA : Nat → ClassId} {ad : Nat → Nat} {Ret : zR} (C : z_Cx zx zn (z_A zn ad) 0 0 p { frames := 1, cells := 0, slots := 0, locals := 21 } s m args c cL_winds yL_winds.cls 1 D cA ad) (hr : meth.sig.returnType = (some .int)) (hlocks : meth.locks = false) : ∀ L st σ, tL_winds_0 zx (z_X zx zn (z_A zn ad) 0 0 p l e { frames := 1, cells := 0, slots := 0, locals := 21 } s m args below meth c (MQ below (z_Qc zn D cA ad Ret) args s 0 0 (z_A zn ad)) 1 D cA ad true) Ret L st σ → z_X zx zn (z_A zn ad) 0 0 p l e { frames := 1, cells := 0, slots := 0, locals := 21 } s m args below meth c (MQ below (z_Qc zn D cA ad Ret) args s 0 0 (z_A zn ad)) 1 D cA ad true 0 L st σ := (s_aload_n C dL_winds_0 rfl (s_iconst C dL_winds_1 rfl ⟨by decide, by decide⟩ (s_cs2 C dL_winds_2 (okL_cell l) wd_540 wd_541 wd_16 wd_542 ⟨by decide, by decide, by decide +kernel⟩ ⟨by decide, by decide⟩ (s_iconst C dL_winds_5 rfl ⟨by decide, by decide⟩ (s_ishr C dL_winds_6 (s_iconst C dL_winds_7 rfl ⟨by decide, by decide⟩ (s_cs2 C dL_winds_8 (okL_low l) wd_544 wd_545 wd_16 wd_546 ⟨by decide, by decide, by decide +kernel⟩ ⟨by decide, by decide⟩ (s_iret C dL_winds_11 hr hlocks))))))))
theorem okL_winds {zx : zX} {zn : Nat} (l : Launch) : z_OK zx zn l yL_winds cL_winds 1 (some .int) 1 21 (SL_winds zx) := by
  refine z_ok_of true (by decide +kernel) ?_ ?_
  · intro as σ Ret h
    obtain ⟨k1, rfl⟩ := pL_winds h
    exact ⟨Nat.le_of_ble_eq_true rfl, by simp⟩
  · intro p e s m args below meth c D cA ad Ret C hr hlocks as σ has hσ h
    obtain ⟨k1, rfl⟩ := pL_winds h
    exact vL_winds (rL_winds_0 C hr hlocks) k1 σ (has _ (List.mem_of_getElem? (i := 0) rfl)).1 hσ h
def SL_tones (zx : zX) : zS := fun as σ Ret => match as with
  | [.inr (.inr (252, 0, _))] => Ret (some (.inl (w_nn zx))) σ
  | _ => False
def tL_tones_0 (zx : zX) (X : Nat → zB) (Ret : zR) (L : zL) (st : List zV) (σ : zM) : Prop := (z_aload 0 (z_push 0 (z_cs2 (SL_cell zx) (z_push 6 (z_ishr (z_push 7 (z_cs2 (SL_low zx) (z_iret Ret)))))))) L st σ
theorem pL_tones {zx : zX} {as : List zV} {σ : zM} {Ret : zR} (h : (SL_tones zx) as σ Ret) : ∃ (k1 : Nat), as = [.inr (.inr (252, 0, k1))] := by
  unfold SL_tones at h
  split at h
  · exact ⟨_, rfl⟩
  · exact h.elim
set_option maxRecDepth 10000 in
set_option maxHeartbeats 4000000 in
theorem vL_tones {zx : zX} {X : Nat → zB} {Ret : zR} (h0 : ∀ L st σ, tL_tones_0 zx X Ret L st σ → X 0 L st σ) (k1 : Nat) (σ : zM) (hk1 : z_kd k1 = (252, 0)) (hσ : z_okm σ) (h : (SL_tones zx) [.inr (.inr (252, 0, k1))] σ Ret) : X 0 [some (.inr (.inr (252, 0, k1)))] [] σ := by
  unfold SL_tones w_nn w_sar at h
  refine h0 _ _ _ ?_
  simp only [z_push, z_lpush, z_iload, z_lload, z_aload, z_istore, z_istoreP, z_lstore, z_astore, z_iinc, z_iincP, z_iadd, z_isub, z_imul, z_iaddW, z_isubW, z_imulW, z_idiv, z_irem, z_iand, z_ior, z_ixor, z_ishl, z_ishr, z_iushr, z_ineg, z_i2l, z_i2b, z_i2s, z_i2c, z_l2i, z_ladd, z_lsub, z_land, z_lor, z_lshl, z_lshr, z_lcmp, z_dup, z_pop, z_dup2, z_goto, z_tsw, z_cases, z_geti, z_getr, z_puti, z_putz, z_ald, z_iast, z_bast, z_zast, z_alen, z_acopy, z_mmax, z_mmin, z_mabs, z_mabsL, z_iret, z_zret, z_nret, z_lret, z_aret, z_vret, z_cat, z_xald, z_xlen, z_ldcs, z_strv, z_strc, z_gcs, z_gfm, z_sln, z_sald, z_ifeq, z_ifne, z_iflt, z_ifge, z_ifgt, z_ifle, z_iceq, z_icne, z_iclt, z_icge, z_icgt, z_icle, z_cs0, z_cs1, z_cs2, z_cs3, z_cs4, z_cs5, z_cs6, z_cs7, z_cv0, z_cv1, z_cv2, z_cv3, z_cv4, z_cv5, z_cv6, z_cv7, z_g0, z_s0, z_g1, z_s1, z_g2, z_s2, z_g3, z_s3, z_g4, z_s4, z_g5, z_s5, z_g6, z_s6, z_g7, z_s7, z_g8, z_s8, z_g9, z_s9, z_g10, z_s10, z_g11, z_s11, z_g12, z_s12, z_g13, z_s13, z_b0, z_b1, z_b0n, z_b1n, z_up_far1, z_up_far2, z_up_far3, z_up_far4, z_up_far5, z_up_far6, Classical.not_not, not_true_eq_false, z_in, z_inL, Int.cast_ofNat_Int, Nat.reduceLeDiff, List.length_cons, List.length_nil, Nat.reduceAdd, Nat.zero_add, Nat.le_refl, true_and, and_true, List.length, Nat.reduceLT, true_or, or_true, false_or, or_false, false_and, and_false, not_true_eq_false, not_false_eq_true, forall_const, false_implies, true_implies, Int.reduceEq, Int.reduceLT, Int.reduceLE, Int.reduceAdd, Int.reduceSub, Int.reduceMul, Int.reduceNeg, Int.reduceToNat, Int.toNat_natCast, ↓reduceIte, reduceIte, Nat.reduceEqDiff, Nat.reduceSub, Nat.reduceMul, ne_eq, Int.zero_add, Int.add_zero, Int.sub_zero, Nat.add_zero, Int.ofNat_eq_natCast, tL_tones_0, SL_cell, SL_low]
  exact h
theorem dL_tones_0 : decode cL_tones 0 = .ok (.aload_n 0, 1) := by decide +kernel
theorem dL_tones_1 : decode cL_tones 1 = .ok (.iconst 0, 1) := by decide +kernel
theorem dL_tones_2 : decode cL_tones 2 = .ok (.invokestatic 17, 3) := by decide +kernel
theorem dL_tones_5 : decode cL_tones 5 = .ok (.bipush 6, 2) := by decide +kernel
theorem dL_tones_7 : decode cL_tones 7 = .ok (.ishr, 1) := by decide +kernel
theorem dL_tones_8 : decode cL_tones 8 = .ok (.bipush 7, 2) := by decide +kernel
theorem dL_tones_10 : decode cL_tones 10 = .ok (.invokestatic 23, 3) := by decide +kernel
theorem dL_tones_13 : decode cL_tones 13 = .ok (.ireturn, 1) := by decide +kernel
set_option maxRecDepth 100000 in
theorem rL_tones_0 {zx : zX} {zn : Nat} {p : Program} {l : Launch} {e : Env} {s : State} {m : MethodId} {args : Array Value} {below : List Frame} {meth : Method} {c : Code} {D : va_G} {cA : Nat → ClassId} {ad : Nat → Nat} {Ret : zR} (C : z_Cx zx zn (z_A zn ad) 0 0 p { frames := 1, cells := 0, slots := 0, locals := 21 } s m args c cL_tones yL_tones.cls 1 D cA ad) (hr : meth.sig.returnType = (some .int)) (hlocks : meth.locks = false) : ∀ L st σ, tL_tones_0 zx (z_X zx zn (z_A zn ad) 0 0 p l e { frames := 1, cells := 0, slots := 0, locals := 21 } s m args below meth c (MQ below (z_Qc zn D cA ad Ret) args s 0 0 (z_A zn ad)) 1 D cA ad true) Ret L st σ → z_X zx zn (z_A zn ad) 0 0 p l e { frames := 1, cells := 0, slots := 0, locals := 21 } s m args below meth c (MQ below (z_Qc zn D cA ad Ret) args s 0 0 (z_A zn ad)) 1 D cA ad true 0 L st σ := (s_aload_n C dL_tones_0 rfl (s_iconst C dL_tones_1 rfl ⟨by decide, by decide⟩ (s_cs2 C dL_tones_2 (okL_cell l) wd_540 wd_541 wd_16 wd_542 ⟨by decide, by decide, by decide +kernel⟩ ⟨by decide, by decide⟩ (s_bipush C dL_tones_5 rfl ⟨by decide, by decide⟩ (s_ishr C dL_tones_7 (s_bipush C dL_tones_8 rfl ⟨by decide, by decide⟩ (s_cs2 C dL_tones_10 (okL_low l) wd_544 wd_545 wd_16 wd_546 ⟨by decide, by decide, by decide +kernel⟩ ⟨by decide, by decide⟩ (s_iret C dL_tones_13 hr hlocks))))))))
theorem okL_tones {zx : zX} {zn : Nat} (l : Launch) : z_OK zx zn l yL_tones cL_tones 1 (some .int) 1 21 (SL_tones zx) := by
  refine z_ok_of true (by decide +kernel) ?_ ?_
  · intro as σ Ret h
    obtain ⟨k1, rfl⟩ := pL_tones h
    exact ⟨Nat.le_of_ble_eq_true rfl, by simp⟩
  · intro p e s m args below meth c D cA ad Ret C hr hlocks as σ has hσ h
    obtain ⟨k1, rfl⟩ := pL_tones h
    exact vL_tones (rL_tones_0 C hr hlocks) k1 σ (has _ (List.mem_of_getElem? (i := 0) rfl)).1 hσ h
