/-! bits: what buzzes, what is missing -/
theorem z_bor {x y : Nat} (hx : x < 2147483648) (hy : y < 2147483648) : (Int32.ofInt x ||| Int32.ofInt y).toInt = ((x ||| y : Nat) : Int) := by
  have h1 : (Int32.ofInt x).toBitVec.toNat = x := by
    show ((BitVec.ofInt 32 x)).toNat = x
    rw [BitVec.toNat_ofInt]; omega
  have h2 : (Int32.ofInt y).toBitVec.toNat = y := by
    show ((BitVec.ofInt 32 y)).toNat = y
    rw [BitVec.toNat_ofInt]; omega
  have h3 : x ||| y < 2 ^ 31 := Nat.or_lt_two_pow (by omega) (by omega)
  show (Int32.ofInt x ||| Int32.ofInt y).toBitVec.toInt = _
  rw [Int32.toBitVec_or, BitVec.toInt_eq_toNat_of_lt, BitVec.toNat_or, h1, h2]
  rw [BitVec.toNat_or, h1, h2]
  omega
theorem z_shl1 : ∀ y : Nat, y < 12 → (Int32.ofInt 1 <<< (Int32.ofInt (y : Int) &&& 31)).toInt = ((2 ^ y : Nat) : Int) := by decide +kernel
theorem z_two {P : Nat → Prop} (h : ∀ a, a < 64 → ∀ b, b < 64 → P (64 * a + b)) (s : Nat) (hs : s < 4096) : P s := by
  have := h (s / 64) (by omega) (s % 64) (by omega)
  rwa [Nat.div_add_mod] at this
theorem z_sh31 : ∀ y : Nat, y < 12 → ((Int32.ofInt (y : Int) &&& 31).toBitVec.smod 32).toNat = y := by decide +kernel
theorem z_bit1 (s : Nat) (hs : s < 4096) (y : Nat) (hy : y < 12) : (Int32.ofInt (Int32.ofInt (s : Int) >>> (Int32.ofInt (y : Int) &&& 31)).toInt &&& Int32.ofInt 1).toInt = if s.testBit y then 1 else 0 := by
  have e1 : Int32.ofInt (s : Int) >>> (Int32.ofInt (y : Int) &&& 31) = nI (s / 2 ^ y) := pk_shrN (n := s) (by omega) _ y (z_sh31 y hy)
  have hle : s / 2 ^ y ≤ s := Nat.div_le_self _ _
  have e2 : nI (s / 2 ^ y) &&& Int32.ofInt 1 = nI ((s / 2 ^ y) % 2 ^ 1) := pk_andN (n := s / 2 ^ y) (by omega) 1 rfl
  rw [e1, z_of32, e2, nI_toInt (by omega), Nat.testBit_eq_decide_div_mod_eq]
  have : s / 2 ^ y % 2 = 0 ∨ s / 2 ^ y % 2 = 1 := by omega
  rcases this with q | q
  · rw [show s / 2 ^ y % 2 ^ 1 = 0 from q]; rfl
  · rw [show s / 2 ^ y % 2 ^ 1 = 1 from q]; rfl
def q_pop (s : Nat) : Nat → Nat
  | 0 => 0
  | n + 1 => q_pop s n + if s.testBit n then 1 else 0
/-- Integer.bitCount -/
def SJ6_bitCount_0f7a4 : zS := fun as σ Ret => match as with
  | [.inl x] => (0 ≤ x ∧ x < 4096) ∧ Ret (some (.inl (q_pop x.toNat 12))) σ
  | _ => False
def q_bu (x y : Int) : Int := ((Int32.ofInt x).toUInt32 >>> ((Int32.ofInt y).toUInt32 &&& Int32.toUInt32 31)).toInt32.toInt
def q_ba (x y : Int) : Int := (Int32.ofInt x &&& Int32.ofInt y).toInt
def q_b1 (x : Int) : Int := z_wr (x - q_ba (q_bu x 1) 1431655765)
def q_b2 (x : Int) : Int := z_wr (q_ba x 858993459 + q_ba (q_bu x 2) 858993459)
def q_b3 (x : Int) : Int := q_ba (z_wr (x + q_bu x 4)) 252645135
def q_b4 (x y : Int) : Int := z_wr (x + q_bu x y)
def q_bc (x : Int) : Int := q_ba (q_b4 (q_b4 (q_b3 (q_b2 (q_b1 x))) 8) 16) 63
theorem q_bc_pop (s : Nat) (hs : s < 4096) : q_bc s = q_pop s 12 := z_two (P := fun s => q_bc s = q_pop s 12) (by decide +kernel) s hs
def tJ6_bitCount_0f7a4_0 (X : Nat → zB) (Ret : zR) (L : zL) (st : List zV) (σ : zM) : Prop := (z_iload 0 (z_iload 0 (z_push 1 (z_iushr (z_push 1431655765 (z_iand (z_isubW (z_istore 0 (z_iload 0 (z_push 858993459 (z_iand (z_iload 0 (z_push 2 (z_iushr (z_push 858993459 (z_iand (z_iaddW (z_istore 0 (z_iload 0 (z_iload 0 (z_push 4 (z_iushr (z_iaddW (z_push 252645135 (z_iand (z_istore 0 (z_iload 0 (z_iload 0 (z_push 8 (z_iushr (z_iaddW (z_istore 0 (z_iload 0 (z_iload 0 (z_push 16 (z_iushr (z_iaddW (z_istore 0 (z_iload 0 (z_push 63 (z_iand (z_iret Ret)))))))))))))))))))))))))))))))))))))))))) L st σ
theorem pJ6_bitCount_0f7a4 {as : List zV} {σ : zM} {Ret : zR} (h : SJ6_bitCount_0f7a4 as σ Ret) : ∃ (x1 : Int), as = [.inl x1] := by
  unfold SJ6_bitCount_0f7a4 at h
  split at h
  · exact ⟨_, rfl⟩
  · exact h.elim
set_option maxRecDepth 10000 in
set_option maxHeartbeats 4000000 in
theorem vJ6_bitCount_0f7a4 {X : Nat → zB} {Ret : zR} (h0 : ∀ L st σ, tJ6_bitCount_0f7a4_0 X Ret L st σ → X 0 L st σ) (x1 : Int) (σ : zM) (hx1 : -2147483648 ≤ x1 ∧ x1 ≤ 2147483647) (hσ : z_okm σ) (h : SJ6_bitCount_0f7a4 [.inl x1] σ Ret) : X 0 [some (.inl x1)] [] σ := by
  obtain ⟨⟨x0, xl⟩, h⟩ := h
  obtain ⟨s, rfl⟩ := z_nat x0
  rw [Int.toNat_natCast, ← q_bc_pop s (by omega)] at h
  refine h0 _ _ _ ?_
  simp only [z_push, z_lpush, z_iload, z_lload, z_aload, z_istore, z_istoreP, z_lstore, z_astore, z_iinc, z_iincP, z_iadd, z_isub, z_imul, z_iaddW, z_isubW, z_imulW, z_idiv, z_irem, z_iand, z_ior, z_ixor, z_ishl, z_ishr, z_iushr, z_ineg, z_i2l, z_i2b, z_i2s, z_i2c, z_l2i, z_ladd, z_lsub, z_land, z_lor, z_lshl, z_lshr, z_lcmp, z_dup, z_pop, z_dup2, z_goto, z_tsw, z_cases, z_geti, z_getr, z_puti, z_putz, z_ald, z_iast, z_bast, z_zast, z_alen, z_acopy, z_mmax, z_mmin, z_mabs, z_mabsL, z_iret, z_zret, z_nret, z_lret, z_aret, z_vret, z_cat, z_ldcs, z_strv, z_strc, z_gcs, z_gfm, z_sln, z_sald, z_ifeq, z_ifne, z_iflt, z_ifge, z_ifgt, z_ifle, z_iceq, z_icne, z_iclt, z_icge, z_icgt, z_icle, z_cs0, z_cs1, z_cs2, z_cs3, z_cs4, z_cs5, z_cs6, z_cs7, z_cv0, z_cv1, z_cv2, z_cv3, z_cv4, z_cv5, z_cv6, z_cv7, z_g0, z_s0, z_g1, z_s1, z_g2, z_s2, z_g3, z_s3, z_g4, z_s4, z_g5, z_s5, z_g6, z_s6, z_g7, z_s7, z_g8, z_s8, z_g9, z_s9, z_g10, z_s10, z_g11, z_s11, z_g12, z_s12, z_g13, z_s13, z_b0, z_b1, z_b0n, z_b1n, z_up_far1, z_up_far2, z_up_far3, z_up_far4, z_up_far5, z_up_far6, Classical.not_not, not_true_eq_false, z_in, z_inL, Int.cast_ofNat_Int, Nat.reduceLeDiff, List.length_cons, List.length_nil, Nat.reduceAdd, Nat.zero_add, Nat.le_refl, true_and, and_true, List.length, Nat.reduceLT, true_or, or_true, false_or, or_false, false_and, and_false, not_true_eq_false, not_false_eq_true, forall_const, false_implies, true_implies, Int.reduceEq, Int.reduceLT, Int.reduceLE, Int.reduceAdd, Int.reduceSub, Int.reduceMul, Int.reduceNeg, Int.reduceToNat, Int.toNat_natCast, ↓reduceIte, reduceIte, Nat.reduceEqDiff, Nat.reduceSub, Nat.reduceMul, ne_eq, Int.zero_add, Int.add_zero, Int.sub_zero, Nat.add_zero, Int.ofNat_eq_natCast, tJ6_bitCount_0f7a4_0]
  exact h
theorem dJ6_bitCount_0f7a4_0 : decode cJ6_bitCount_0f7a4 0 = .ok (.iload_n 0, 1) := by decide +kernel
theorem dJ6_bitCount_0f7a4_1 : decode cJ6_bitCount_0f7a4 1 = .ok (.iload_n 0, 1) := by decide +kernel
theorem dJ6_bitCount_0f7a4_2 : decode cJ6_bitCount_0f7a4 2 = .ok (.iconst 1, 1) := by decide +kernel
theorem dJ6_bitCount_0f7a4_3 : decode cJ6_bitCount_0f7a4 3 = .ok (.iushr, 1) := by decide +kernel
theorem dJ6_bitCount_0f7a4_4 : decode cJ6_bitCount_0f7a4 4 = .ok (.ldc_w 265, 3) := by decide +kernel
theorem dJ6_bitCount_0f7a4_7 : decode cJ6_bitCount_0f7a4 7 = .ok (.iand, 1) := by decide +kernel
theorem dJ6_bitCount_0f7a4_8 : decode cJ6_bitCount_0f7a4 8 = .ok (.isub, 1) := by decide +kernel
theorem dJ6_bitCount_0f7a4_9 : decode cJ6_bitCount_0f7a4 9 = .ok (.istore_n 0, 1) := by decide +kernel
theorem dJ6_bitCount_0f7a4_10 : decode cJ6_bitCount_0f7a4 10 = .ok (.iload_n 0, 1) := by decide +kernel
theorem dJ6_bitCount_0f7a4_11 : decode cJ6_bitCount_0f7a4 11 = .ok (.ldc_w 266, 3) := by decide +kernel
theorem dJ6_bitCount_0f7a4_14 : decode cJ6_bitCount_0f7a4 14 = .ok (.iand, 1) := by decide +kernel
theorem dJ6_bitCount_0f7a4_15 : decode cJ6_bitCount_0f7a4 15 = .ok (.iload_n 0, 1) := by decide +kernel
theorem dJ6_bitCount_0f7a4_16 : decode cJ6_bitCount_0f7a4 16 = .ok (.iconst 2, 1) := by decide +kernel
theorem dJ6_bitCount_0f7a4_17 : decode cJ6_bitCount_0f7a4 17 = .ok (.iushr, 1) := by decide +kernel
theorem dJ6_bitCount_0f7a4_18 : decode cJ6_bitCount_0f7a4 18 = .ok (.ldc_w 266, 3) := by decide +kernel
theorem dJ6_bitCount_0f7a4_21 : decode cJ6_bitCount_0f7a4 21 = .ok (.iand, 1) := by decide +kernel
theorem dJ6_bitCount_0f7a4_22 : decode cJ6_bitCount_0f7a4 22 = .ok (.iadd, 1) := by decide +kernel
theorem dJ6_bitCount_0f7a4_23 : decode cJ6_bitCount_0f7a4 23 = .ok (.istore_n 0, 1) := by decide +kernel
theorem dJ6_bitCount_0f7a4_24 : decode cJ6_bitCount_0f7a4 24 = .ok (.iload_n 0, 1) := by decide +kernel
theorem dJ6_bitCount_0f7a4_25 : decode cJ6_bitCount_0f7a4 25 = .ok (.iload_n 0, 1) := by decide +kernel
theorem dJ6_bitCount_0f7a4_26 : decode cJ6_bitCount_0f7a4 26 = .ok (.iconst 4, 1) := by decide +kernel
theorem dJ6_bitCount_0f7a4_27 : decode cJ6_bitCount_0f7a4 27 = .ok (.iushr, 1) := by decide +kernel
theorem dJ6_bitCount_0f7a4_28 : decode cJ6_bitCount_0f7a4 28 = .ok (.iadd, 1) := by decide +kernel
theorem dJ6_bitCount_0f7a4_29 : decode cJ6_bitCount_0f7a4 29 = .ok (.ldc_w 267, 3) := by decide +kernel
theorem dJ6_bitCount_0f7a4_32 : decode cJ6_bitCount_0f7a4 32 = .ok (.iand, 1) := by decide +kernel
theorem dJ6_bitCount_0f7a4_33 : decode cJ6_bitCount_0f7a4 33 = .ok (.istore_n 0, 1) := by decide +kernel
theorem dJ6_bitCount_0f7a4_34 : decode cJ6_bitCount_0f7a4 34 = .ok (.iload_n 0, 1) := by decide +kernel
theorem dJ6_bitCount_0f7a4_35 : decode cJ6_bitCount_0f7a4 35 = .ok (.iload_n 0, 1) := by decide +kernel
theorem dJ6_bitCount_0f7a4_36 : decode cJ6_bitCount_0f7a4 36 = .ok (.bipush 8, 2) := by decide +kernel
theorem dJ6_bitCount_0f7a4_38 : decode cJ6_bitCount_0f7a4 38 = .ok (.iushr, 1) := by decide +kernel
theorem dJ6_bitCount_0f7a4_39 : decode cJ6_bitCount_0f7a4 39 = .ok (.iadd, 1) := by decide +kernel
theorem dJ6_bitCount_0f7a4_40 : decode cJ6_bitCount_0f7a4 40 = .ok (.istore_n 0, 1) := by decide +kernel
theorem dJ6_bitCount_0f7a4_41 : decode cJ6_bitCount_0f7a4 41 = .ok (.iload_n 0, 1) := by decide +kernel
theorem dJ6_bitCount_0f7a4_42 : decode cJ6_bitCount_0f7a4 42 = .ok (.iload_n 0, 1) := by decide +kernel
theorem dJ6_bitCount_0f7a4_43 : decode cJ6_bitCount_0f7a4 43 = .ok (.bipush 16, 2) := by decide +kernel
theorem dJ6_bitCount_0f7a4_45 : decode cJ6_bitCount_0f7a4 45 = .ok (.iushr, 1) := by decide +kernel
theorem dJ6_bitCount_0f7a4_46 : decode cJ6_bitCount_0f7a4 46 = .ok (.iadd, 1) := by decide +kernel
theorem dJ6_bitCount_0f7a4_47 : decode cJ6_bitCount_0f7a4 47 = .ok (.istore_n 0, 1) := by decide +kernel
theorem dJ6_bitCount_0f7a4_48 : decode cJ6_bitCount_0f7a4 48 = .ok (.iload_n 0, 1) := by decide +kernel
theorem dJ6_bitCount_0f7a4_49 : decode cJ6_bitCount_0f7a4 49 = .ok (.bipush 63, 2) := by decide +kernel
theorem dJ6_bitCount_0f7a4_51 : decode cJ6_bitCount_0f7a4 51 = .ok (.iand, 1) := by decide +kernel
theorem dJ6_bitCount_0f7a4_52 : decode cJ6_bitCount_0f7a4 52 = .ok (.ireturn, 1) := by decide +kernel
set_option maxRecDepth 100000 in
theorem rJ6_bitCount_0f7a4_0 {p : Program} {l : Launch} {e : Env} {s : State} {m : MethodId} {args : Array Value} {below : List Frame} {meth : Method} {c : Code} {D : va_G} {cA : Nat → ClassId} {ad : Nat → Nat} {Ret : zR} (C : z_Cx p { frames := 0, cells := 0, slots := 0, locals := 0 } s m args c cJ6_bitCount_0f7a4 yJ6_bitCount_0f7a4.cls 1 D cA ad) (hr : meth.sig.returnType = (some .int)) (hlocks : meth.locks = false) : ∀ L st σ, tJ6_bitCount_0f7a4_0 (z_X p l e { frames := 0, cells := 0, slots := 0, locals := 0 } s m args below meth c (MQ below (z_Qc D cA ad Ret) args s 0 0 (z_A ad)) 1 D cA ad true) Ret L st σ → z_X p l e { frames := 0, cells := 0, slots := 0, locals := 0 } s m args below meth c (MQ below (z_Qc D cA ad Ret) args s 0 0 (z_A ad)) 1 D cA ad true 0 L st σ := (s_iload_n C dJ6_bitCount_0f7a4_0 rfl (s_iload_n C dJ6_bitCount_0f7a4_1 rfl (s_iconst C dJ6_bitCount_0f7a4_2 rfl ⟨by decide, by decide⟩ (s_iushr C dJ6_bitCount_0f7a4_3 (s_ldcw C dJ6_bitCount_0f7a4_4 (v := 1431655765) wd_850 ⟨by decide, by decide⟩ (s_iand C dJ6_bitCount_0f7a4_7 (s_isubW C dJ6_bitCount_0f7a4_8 (s_istore_n C dJ6_bitCount_0f7a4_9 (by decide) rfl rfl (s_iload_n C dJ6_bitCount_0f7a4_10 rfl (s_ldcw C dJ6_bitCount_0f7a4_11 (v := 858993459) wd_851 ⟨by decide, by decide⟩ (s_iand C dJ6_bitCount_0f7a4_14 (s_iload_n C dJ6_bitCount_0f7a4_15 rfl (s_iconst C dJ6_bitCount_0f7a4_16 rfl ⟨by decide, by decide⟩ (s_iushr C dJ6_bitCount_0f7a4_17 (s_ldcw C dJ6_bitCount_0f7a4_18 (v := 858993459) wd_851 ⟨by decide, by decide⟩ (s_iand C dJ6_bitCount_0f7a4_21 (s_iaddW C dJ6_bitCount_0f7a4_22 (s_istore_n C dJ6_bitCount_0f7a4_23 (by decide) rfl rfl (s_iload_n C dJ6_bitCount_0f7a4_24 rfl (s_iload_n C dJ6_bitCount_0f7a4_25 rfl (s_iconst C dJ6_bitCount_0f7a4_26 rfl ⟨by decide, by decide⟩ (s_iushr C dJ6_bitCount_0f7a4_27 (s_iaddW C dJ6_bitCount_0f7a4_28 (s_ldcw C dJ6_bitCount_0f7a4_29 (v := 252645135) wd_852 ⟨by decide, by decide⟩ (s_iand C dJ6_bitCount_0f7a4_32 (s_istore_n C dJ6_bitCount_0f7a4_33 (by decide) rfl rfl (s_iload_n C dJ6_bitCount_0f7a4_34 rfl (s_iload_n C dJ6_bitCount_0f7a4_35 rfl (s_bipush C dJ6_bitCount_0f7a4_36 rfl ⟨by decide, by decide⟩ (s_iushr C dJ6_bitCount_0f7a4_38 (s_iaddW C dJ6_bitCount_0f7a4_39 (s_istore_n C dJ6_bitCount_0f7a4_40 (by decide) rfl rfl (s_iload_n C dJ6_bitCount_0f7a4_41 rfl (s_iload_n C dJ6_bitCount_0f7a4_42 rfl (s_bipush C dJ6_bitCount_0f7a4_43 rfl ⟨by decide, by decide⟩ (s_iushr C dJ6_bitCount_0f7a4_45 (s_iaddW C dJ6_bitCount_0f7a4_46 (s_istore_n C dJ6_bitCount_0f7a4_47 (by decide) rfl rfl (s_iload_n C dJ6_bitCount_0f7a4_48 rfl (s_bipush C dJ6_bitCount_0f7a4_49 rfl ⟨by decide, by decide⟩ (s_iand C dJ6_bitCount_0f7a4_51 (s_iret C dJ6_bitCount_0f7a4_52 hr hlocks))))))))))))))))))))))))))))))))))))))))))
theorem okJ6_bitCount_0f7a4 (l : Launch) : z_OK l yJ6_bitCount_0f7a4 cJ6_bitCount_0f7a4 1 (some .int) 0 0 SJ6_bitCount_0f7a4 := by
  refine z_ok_of true (by decide +kernel) ?_ ?_
  · intro as σ Ret h
    obtain ⟨x1, rfl⟩ := pJ6_bitCount_0f7a4 h
    exact ⟨Nat.le_of_ble_eq_true rfl, by simp⟩
  · intro p e s m args below meth c D cA ad Ret C hr hlocks as σ has hσ h
    obtain ⟨x1, rfl⟩ := pJ6_bitCount_0f7a4 h
    exact vJ6_bitCount_0f7a4 (rJ6_bitCount_0f7a4_0 C hr hlocks) x1 σ (has _ (List.mem_of_getElem? (i := 0) rfl)) hσ h
def q_bi (a : Nat → Int) (i p : Nat) : Nat → Nat
  | 0 => 0
  | j + 1 => q_bi a i p j ||| (if ¬ a i = a j ∧ a i - a j ≤ 3 ∧ a j - a i ≤ 3 then p else 0)
def q_bo (a : Nat → Int) (tr : Nat → Nat) (cnt : Nat) : Nat → Nat
  | 0 => 0
  | i + 1 => q_bo a tr cnt i ||| q_bi a i (2 ^ tr i) cnt
theorem q_bi_lt {a : Nat → Int} {i p : Nat} (hp : p < 4096) : ∀ j, q_bi a i p j < 4096
  | 0 => Nat.succ_pos _
  | j + 1 => by
    unfold q_bi
    exact Nat.or_lt_two_pow (n := 12) (q_bi_lt hp j) (by split <;> omega)
theorem q_bo_lt {a : Nat → Int} {tr : Nat → Nat} {cnt : Nat} (ht : ∀ i, i < cnt → tr i < 12) : ∀ i, i ≤ cnt → q_bo a tr cnt i < 4096
  | 0, _ => Nat.succ_pos _
  | i + 1, hi => by
    unfold q_bo
    refine Nat.or_lt_two_pow (n := 12) (q_bo_lt ht i (by omega)) (q_bi_lt ?_ cnt)
    exact Nat.pow_lt_pow_right (by decide) (ht i (by omega))
def SX3_buzzing : zS := fun as σ Ret => match as with
  | [.inr (.inr (3, 0, e))] => ((0 ≤ σ e 3 ∧ σ e 3 ≤ 12) ∧ ∀ i : Nat, (i : Int) < σ e 3 → 0 ≤ σ (e + 2) i ∧ σ (e + 2) i < 12) ∧ Ret (some (.inl (q_bo (σ (e + 1)) (fun i => (σ (e + 2) i).toNat) (σ e 3).toNat (σ e 3).toNat))) σ
  | _ => False
def tX3_buzzing_0 (X : Nat → zB) (Ret : zR) (L : zL) (st : List zV) (σ : zM) : Prop := (z_push 0 (z_istore 1 (z_push 0 (z_istore 2 (X 4))))) L st σ
def tX3_buzzing_4 (X : Nat → zB) (Ret : zR) (L : zL) (st : List zV) (σ : zM) : Prop := (z_iload 2 (z_aload 0 (z_geti 3 3 (z_icge (z_iload 1 (z_iret Ret)) (z_push 0 (z_istore 3 (X 14))))))) L st σ
def tX3_buzzing_14 (X : Nat → zB) (Ret : zR) (L : zL) (st : List zV) (σ : zM) : Prop := (z_iload 3 (z_aload 0 (z_geti 3 3 (z_icge (z_iinc 2 1 (z_goto (X 4))) (z_aload 0 (z_getr 3 1 100 12 (z_iload 2 (z_ald 0 (z_aload 0 (z_getr 3 1 100 12 (z_iload 3 (z_ald 0 (z_iceq (z_iinc 3 1 (z_goto (X 14))) (z_aload 0 (z_getr 3 1 100 12 (z_iload 2 (z_ald 0 (z_aload 0 (z_getr 3 1 100 12 (z_iload 3 (z_ald 0 (z_push 3 (z_cs3 SX3_areSame (z_ifeq (z_iinc 3 1 (z_goto (X 14))) (z_iload 1 (z_push 1 (z_aload 0 (z_getr 3 2 100 12 (z_iload 2 (z_ald 0 (z_ishl (z_ior (z_istore 1 (z_iinc 3 1 (z_goto (X 14)))))))))))))))))))))))))))))))))))) L st σ
theorem pX3_buzzing {as : List zV} {σ : zM} {Ret : zR} (h : SX3_buzzing as σ Ret) : ∃ (k0 : Nat), as = [.inr (.inr (3, 0, k0))] := by
  unfold SX3_buzzing at h
  split at h
  · exact ⟨_, rfl⟩
  · exact h.elim
set_option maxRecDepth 10000 in
set_option maxHeartbeats 4000000 in
theorem vX3_buzzing {X : Nat → zB} {Ret : zR} (h0 : ∀ L st σ, tX3_buzzing_0 X Ret L st σ → X 0 L st σ) (h4 : ∀ L st σ, tX3_buzzing_4 X Ret L st σ → X 4 L st σ) (h14 : ∀ L st σ, tX3_buzzing_14 X Ret L st σ → X 14 L st σ) (k0 : Nat) (σ : zM) (hk0 : z_kd k0 = (3, 0)) (hσ : z_okm σ) (h : SX3_buzzing [.inr (.inr (3, 0, k0))] σ Ret) : X 0 [some (.inr (.inr (3, 0, k0))), none, none, none] [] σ := by
  obtain ⟨⟨⟨c0, c1⟩, htr⟩, h⟩ := h
  obtain ⟨cnt, hcnt⟩ := z_nat c0
  rw [hcnt] at h
  simp only [Int.toNat_natCast] at h
  generalize htt : (fun i => (σ (k0 + 2) i).toNat) = tr at h
  have ht : ∀ i, i < cnt → tr i < 12 ∧ σ (k0 + 2) i = (tr i : Int) := fun i hi => by
    have := htr i (by omega)
    rw [← htt]
    simp only
    omega
  have b0 := q_bo_lt (a := σ (k0 + 1)) (cnt := cnt) (fun i hi => (ht i hi).1)
  have L4 : ∀ (d i : Nat) (u : Option zV), i + d = cnt → X 4 [some (.inr (.inr (3, 0, k0))), some (.inl (q_bo (σ (k0 + 1)) tr cnt i : Int)), some (.inl (i : Int)), u] [] σ := by
    intro d
    induction d with
    | zero =>
      intro i u hi
      have e : i = cnt := by omega
      subst e
      refine h4 _ _ _ ?_
      simp only [z_push, z_lpush, z_iload, z_lload, z_aload, z_istore, z_istoreP, z_lstore, z_astore, z_iinc, z_iincP, z_iadd, z_isub, z_imul, z_iaddW, z_isubW, z_imulW, z_idiv, z_irem, z_iand, z_ior, z_ixor, z_ishl, z_ishr, z_iushr, z_ineg, z_i2l, z_i2b, z_i2s, z_i2c, z_l2i, z_ladd, z_lsub, z_land, z_lor, z_lshl, z_lshr, z_lcmp, z_dup, z_pop, z_dup2, z_goto, z_tsw, z_cases, z_geti, z_getr, z_puti, z_putz, z_ald, z_iast, z_bast, z_zast, z_alen, z_acopy, z_mmax, z_mmin, z_mabs, z_mabsL, z_iret, z_zret, z_nret, z_lret, z_aret, z_vret, z_cat, z_ldcs, z_strv, z_strc, z_gcs, z_gfm, z_sln, z_sald, z_ifeq, z_ifne, z_iflt, z_ifge, z_ifgt, z_ifle, z_iceq, z_icne, z_iclt, z_icge, z_icgt, z_icle, z_cs0, z_cs1, z_cs2, z_cs3, z_cs4, z_cs5, z_cs6, z_cs7, z_cv0, z_cv1, z_cv2, z_cv3, z_cv4, z_cv5, z_cv6, z_cv7, z_g0, z_s0, z_g1, z_s1, z_g2, z_s2, z_g3, z_s3, z_g4, z_s4, z_g5, z_s5, z_g6, z_s6, z_g7, z_s7, z_g8, z_s8, z_g9, z_s9, z_g10, z_s10, z_g11, z_s11, z_g12, z_s12, z_g13, z_s13, z_b0, z_b1, z_b0n, z_b1n, z_up_far1, z_up_far2, z_up_far3, z_up_far4, z_up_far5, z_up_far6, Classical.not_not, not_true_eq_false, z_in, z_inL, Int.cast_ofNat_Int, Nat.reduceLeDiff, List.length_cons, List.length_nil, Nat.reduceAdd, Nat.zero_add, Nat.le_refl, true_and, and_true, List.length, Nat.reduceLT, true_or, or_true, false_or, or_false, false_and, and_false, not_true_eq_false, not_false_eq_true, forall_const, false_implies, true_implies, Int.reduceEq, Int.reduceLT, Int.reduceLE, Int.reduceAdd, Int.reduceSub, Int.reduceMul, Int.reduceNeg, Int.reduceToNat, Int.toNat_natCast, ↓reduceIte, reduceIte, Nat.reduceEqDiff, Nat.reduceSub, Nat.reduceMul, ne_eq, Int.zero_add, Int.add_zero, Int.sub_zero, Nat.add_zero, Int.ofNat_eq_natCast, tX3_buzzing_4, hcnt]
      repeat' (first | (intro _) | (with_reducible assumption) | (refine And.intro ?_ ?_))
      all_goals first | omega | assumption | (refine z_fin h ?_ rfl; first | rfl | omega | (split <;> omega) | (split <;> split <;> omega)) | skip
    | succ d ih =>
      intro i u hi
      obtain ⟨ti, te⟩ := ht i (by omega)
      have pi : 2 ^ tr i < 4096 := Nat.pow_lt_pow_right (by decide) (show tr i < 12 from ti)
      have L14 : ∀ (d j : Nat), j + d = cnt → X 14 [some (.inr (.inr (3, 0, k0))), some (.inl ((q_bo (σ (k0 + 1)) tr cnt i ||| q_bi (σ (k0 + 1)) i (2 ^ tr i) j : Nat) : Int)), some (.inl (i : Int)), some (.inl (j : Int))] [] σ := by
        intro d
        induction d with
        | zero =>
          intro j hj
          have e : j = cnt := by omega
          subst e
          refine h14 _ _ _ ?_
          simp only [z_push, z_lpush, z_iload, z_lload, z_aload, z_istore, z_istoreP, z_lstore, z_astore, z_iinc, z_iincP, z_iadd, z_isub, z_imul, z_iaddW, z_isubW, z_imulW, z_idiv, z_irem, z_iand, z_ior, z_ixor, z_ishl, z_ishr, z_iushr, z_ineg, z_i2l, z_i2b, z_i2s, z_i2c, z_l2i, z_ladd, z_lsub, z_land, z_lor, z_lshl, z_lshr, z_lcmp, z_dup, z_pop, z_dup2, z_goto, z_tsw, z_cases, z_geti, z_getr, z_puti, z_putz, z_ald, z_iast, z_bast, z_zast, z_alen, z_acopy, z_mmax, z_mmin, z_mabs, z_mabsL, z_iret, z_zret, z_nret, z_lret, z_aret, z_vret, z_cat, z_ldcs, z_strv, z_strc, z_gcs, z_gfm, z_sln, z_sald, z_ifeq, z_ifne, z_iflt, z_ifge, z_ifgt, z_ifle, z_iceq, z_icne, z_iclt, z_icge, z_icgt, z_icle, z_cs0, z_cs1, z_cs2, z_cs3, z_cs4, z_cs5, z_cs6, z_cs7, z_cv0, z_cv1, z_cv2, z_cv3, z_cv4, z_cv5, z_cv6, z_cv7, z_g0, z_s0, z_g1, z_s1, z_g2, z_s2, z_g3, z_s3, z_g4, z_s4, z_g5, z_s5, z_g6, z_s6, z_g7, z_s7, z_g8, z_s8, z_g9, z_s9, z_g10, z_s10, z_g11, z_s11, z_g12, z_s12, z_g13, z_s13, z_b0, z_b1, z_b0n, z_b1n, z_up_far1, z_up_far2, z_up_far3, z_up_far4, z_up_far5, z_up_far6, Classical.not_not, not_true_eq_false, z_in, z_inL, Int.cast_ofNat_Int, Nat.reduceLeDiff, List.length_cons, List.length_nil, Nat.reduceAdd, Nat.zero_add, Nat.le_refl, true_and, and_true, List.length, Nat.reduceLT, true_or, or_true, false_or, or_false, false_and, and_false, not_true_eq_false, not_false_eq_true, forall_const, false_implies, true_implies, Int.reduceEq, Int.reduceLT, Int.reduceLE, Int.reduceAdd, Int.reduceSub, Int.reduceMul, Int.reduceNeg, Int.reduceToNat, Int.toNat_natCast, ↓reduceIte, reduceIte, Nat.reduceEqDiff, Nat.reduceSub, Nat.reduceMul, ne_eq, Int.zero_add, Int.add_zero, Int.sub_zero, Nat.add_zero, Int.ofNat_eq_natCast, tX3_buzzing_14, hcnt]
          repeat' (first | (intro _) | (with_reducible assumption) | (refine And.intro ?_ ?_))
          all_goals first | omega | assumption | (refine z_fin h ?_ rfl; first | rfl | omega | (split <;> omega) | (split <;> split <;> omega)) | skip
          exact ih (i + 1) _ (by omega)
        | succ d ih2 =>
          intro j hj
          have e1 := ih2 (j + 1) (by omega)
          have l1 : (q_bo (σ (k0 + 1)) tr cnt i ||| q_bi (σ (k0 + 1)) i (2 ^ tr i) j) < 4096 := Nat.or_lt_two_pow (n := 12) (b0 i (by omega)) (q_bi_lt pi j)
          rw [q_bi, ← Nat.or_assoc] at e1
          refine h14 _ _ _ ?_
          simp only [z_push, z_lpush, z_iload, z_lload, z_aload, z_istore, z_istoreP, z_lstore, z_astore, z_iinc, z_iincP, z_iadd, z_isub, z_imul, z_iaddW, z_isubW, z_imulW, z_idiv, z_irem, z_iand, z_ior, z_ixor, z_ishl, z_ishr, z_iushr, z_ineg, z_i2l, z_i2b, z_i2s, z_i2c, z_l2i, z_ladd, z_lsub, z_land, z_lor, z_lshl, z_lshr, z_lcmp, z_dup, z_pop, z_dup2, z_goto, z_tsw, z_cases, z_geti, z_getr, z_puti, z_putz, z_ald, z_iast, z_bast, z_zast, z_alen, z_acopy, z_mmax, z_mmin, z_mabs, z_mabsL, z_iret, z_zret, z_nret, z_lret, z_aret, z_vret, z_cat, z_ldcs, z_strv, z_strc, z_gcs, z_gfm, z_sln, z_sald, z_ifeq, z_ifne, z_iflt, z_ifge, z_ifgt, z_ifle, z_iceq, z_icne, z_iclt, z_icge, z_icgt, z_icle, z_cs0, z_cs1, z_cs2, z_cs3, z_cs4, z_cs5, z_cs6, z_cs7, z_cv0, z_cv1, z_cv2, z_cv3, z_cv4, z_cv5, z_cv6, z_cv7, z_g0, z_s0, z_g1, z_s1, z_g2, z_s2, z_g3, z_s3, z_g4, z_s4, z_g5, z_s5, z_g6, z_s6, z_g7, z_s7, z_g8, z_s8, z_g9, z_s9, z_g10, z_s10, z_g11, z_s11, z_g12, z_s12, z_g13, z_s13, z_b0, z_b1, z_b0n, z_b1n, z_up_far1, z_up_far2, z_up_far3, z_up_far4, z_up_far5, z_up_far6, Classical.not_not, not_true_eq_false, z_in, z_inL, Int.cast_ofNat_Int, Nat.reduceLeDiff, List.length_cons, List.length_nil, Nat.reduceAdd, Nat.zero_add, Nat.le_refl, true_and, and_true, List.length, Nat.reduceLT, true_or, or_true, false_or, or_false, false_and, and_false, not_true_eq_false, not_false_eq_true, forall_const, false_implies, true_implies, Int.reduceEq, Int.reduceLT, Int.reduceLE, Int.reduceAdd, Int.reduceSub, Int.reduceMul, Int.reduceNeg, Int.reduceToNat, Int.toNat_natCast, ↓reduceIte, reduceIte, Nat.reduceEqDiff, Nat.reduceSub, Nat.reduceMul, ne_eq, Int.zero_add, Int.add_zero, Int.sub_zero, Nat.add_zero, Int.ofNat_eq_natCast, tX3_buzzing_14, hcnt, SX3_areSame, te, z_shl1 (tr i) ti]
          repeat' (first | (intro _) | (with_reducible assumption) | (refine And.intro ?_ ?_))
          all_goals first | omega | assumption | (refine z_fin h ?_ rfl; first | rfl | omega | (split <;> omega) | (split <;> split <;> omega)) | skip
          all_goals first
            | (rw [if_neg (by omega), Nat.or_zero] at e1; exact e1)
            | (rw [if_pos (by omega)] at e1; rw [z_bor (by omega) (by omega)]; exact e1)
      have e1 := L14 cnt 0 (by omega)
      rw [show q_bi (σ (k0 + 1)) i (2 ^ tr i) 0 = 0 from rfl, Nat.or_zero] at e1
      refine h4 _ _ _ ?_
      simp only [z_push, z_lpush, z_iload, z_lload, z_aload, z_istore, z_istoreP, z_lstore, z_astore, z_iinc, z_iincP, z_iadd, z_isub, z_imul, z_iaddW, z_isubW, z_imulW, z_idiv, z_irem, z_iand, z_ior, z_ixor, z_ishl, z_ishr, z_iushr, z_ineg, z_i2l, z_i2b, z_i2s, z_i2c, z_l2i, z_ladd, z_lsub, z_land, z_lor, z_lshl, z_lshr, z_lcmp, z_dup, z_pop, z_dup2, z_goto, z_tsw, z_cases, z_geti, z_getr, z_puti, z_putz, z_ald, z_iast, z_bast, z_zast, z_alen, z_acopy, z_mmax, z_mmin, z_mabs, z_mabsL, z_iret, z_zret, z_nret, z_lret, z_aret, z_vret, z_cat, z_ldcs, z_strv, z_strc, z_gcs, z_gfm, z_sln, z_sald, z_ifeq, z_ifne, z_iflt, z_ifge, z_ifgt, z_ifle, z_iceq, z_icne, z_iclt, z_icge, z_icgt, z_icle, z_cs0, z_cs1, z_cs2, z_cs3, z_cs4, z_cs5, z_cs6, z_cs7, z_cv0, z_cv1, z_cv2, z_cv3, z_cv4, z_cv5, z_cv6, z_cv7, z_g0, z_s0, z_g1, z_s1, z_g2, z_s2, z_g3, z_s3, z_g4, z_s4, z_g5, z_s5, z_g6, z_s6, z_g7, z_s7, z_g8, z_s8, z_g9, z_s9, z_g10, z_s10, z_g11, z_s11, z_g12, z_s12, z_g13, z_s13, z_b0, z_b1, z_b0n, z_b1n, z_up_far1, z_up_far2, z_up_far3, z_up_far4, z_up_far5, z_up_far6, Classical.not_not, not_true_eq_false, z_in, z_inL, Int.cast_ofNat_Int, Nat.reduceLeDiff, List.length_cons, List.length_nil, Nat.reduceAdd, Nat.zero_add, Nat.le_refl, true_and, and_true, List.length, Nat.reduceLT, true_or, or_true, false_or, or_false, false_and, and_false, not_true_eq_false, not_false_eq_true, forall_const, false_implies, true_implies, Int.reduceEq, Int.reduceLT, Int.reduceLE, Int.reduceAdd, Int.reduceSub, Int.reduceMul, Int.reduceNeg, Int.reduceToNat, Int.toNat_natCast, ↓reduceIte, reduceIte, Nat.reduceEqDiff, Nat.reduceSub, Nat.reduceMul, ne_eq, Int.zero_add, Int.add_zero, Int.sub_zero, Nat.add_zero, Int.ofNat_eq_natCast, tX3_buzzing_4, hcnt]
      repeat' (first | (intro _) | (with_reducible assumption) | (refine And.intro ?_ ?_))
      all_goals first | omega | assumption | (refine z_fin h ?_ rfl; first | rfl | omega | (split <;> omega) | (split <;> split <;> omega)) | skip
  refine h0 _ _ _ ?_
  simp only [z_push, z_lpush, z_iload, z_lload, z_aload, z_istore, z_istoreP, z_lstore, z_astore, z_iinc, z_iincP, z_iadd, z_isub, z_imul, z_iaddW, z_isubW, z_imulW, z_idiv, z_irem, z_iand, z_ior, z_ixor, z_ishl, z_ishr, z_iushr, z_ineg, z_i2l, z_i2b, z_i2s, z_i2c, z_l2i, z_ladd, z_lsub, z_land, z_lor, z_lshl, z_lshr, z_lcmp, z_dup, z_pop, z_dup2, z_goto, z_tsw, z_cases, z_geti, z_getr, z_puti, z_putz, z_ald, z_iast, z_bast, z_zast, z_alen, z_acopy, z_mmax, z_mmin, z_mabs, z_mabsL, z_iret, z_zret, z_nret, z_lret, z_aret, z_vret, z_cat, z_ldcs, z_strv, z_strc, z_gcs, z_gfm, z_sln, z_sald, z_ifeq, z_ifne, z_iflt, z_ifge, z_ifgt, z_ifle, z_iceq, z_icne, z_iclt, z_icge, z_icgt, z_icle, z_cs0, z_cs1, z_cs2, z_cs3, z_cs4, z_cs5, z_cs6, z_cs7, z_cv0, z_cv1, z_cv2, z_cv3, z_cv4, z_cv5, z_cv6, z_cv7, z_g0, z_s0, z_g1, z_s1, z_g2, z_s2, z_g3, z_s3, z_g4, z_s4, z_g5, z_s5, z_g6, z_s6, z_g7, z_s7, z_g8, z_s8, z_g9, z_s9, z_g10, z_s10, z_g11, z_s11, z_g12, z_s12, z_g13, z_s13, z_b0, z_b1, z_b0n, z_b1n, z_up_far1, z_up_far2, z_up_far3, z_up_far4, z_up_far5, z_up_far6, Classical.not_not, not_true_eq_false, z_in, z_inL, Int.cast_ofNat_Int, Nat.reduceLeDiff, List.length_cons, List.length_nil, Nat.reduceAdd, Nat.zero_add, Nat.le_refl, true_and, and_true, List.length, Nat.reduceLT, true_or, or_true, false_or, or_false, false_and, and_false, not_true_eq_false, not_false_eq_true, forall_const, false_implies, true_implies, Int.reduceEq, Int.reduceLT, Int.reduceLE, Int.reduceAdd, Int.reduceSub, Int.reduceMul, Int.reduceNeg, Int.reduceToNat, Int.toNat_natCast, ↓reduceIte, reduceIte, Nat.reduceEqDiff, Nat.reduceSub, Nat.reduceMul, ne_eq, Int.zero_add, Int.add_zero, Int.sub_zero, Nat.add_zero, Int.ofNat_eq_natCast, tX3_buzzing_0]
  exact L4 cnt 0 none (by omega)
theorem dX3_buzzing_0 : decode cX3_buzzing 0 = .ok (.iconst 0, 1) := by decide +kernel
theorem dX3_buzzing_1 : decode cX3_buzzing 1 = .ok (.istore_n 1, 1) := by decide +kernel
theorem dX3_buzzing_2 : decode cX3_buzzing 2 = .ok (.iconst 0, 1) := by decide +kernel
theorem dX3_buzzing_3 : decode cX3_buzzing 3 = .ok (.istore_n 2, 1) := by decide +kernel
theorem dX3_buzzing_4 : decode cX3_buzzing 4 = .ok (.iload_n 2, 1) := by decide +kernel
theorem dX3_buzzing_5 : decode cX3_buzzing 5 = .ok (.aload_n 0, 1) := by decide +kernel
theorem dX3_buzzing_6 : decode cX3_buzzing 6 = .ok (.getfield 21, 3) := by decide +kernel
theorem dX3_buzzing_9 : decode cX3_buzzing 9 = .ok (.if_icmp .ge 70, 3) := by decide +kernel
theorem dX3_buzzing_12 : decode cX3_buzzing 12 = .ok (.iconst 0, 1) := by decide +kernel
theorem dX3_buzzing_13 : decode cX3_buzzing 13 = .ok (.istore_n 3, 1) := by decide +kernel
theorem dX3_buzzing_14 : decode cX3_buzzing 14 = .ok (.iload_n 3, 1) := by decide +kernel
theorem dX3_buzzing_15 : decode cX3_buzzing 15 = .ok (.aload_n 0, 1) := by decide +kernel
theorem dX3_buzzing_16 : decode cX3_buzzing 16 = .ok (.getfield 21, 3) := by decide +kernel
theorem dX3_buzzing_19 : decode cX3_buzzing 19 = .ok (.if_icmp .ge 54, 3) := by decide +kernel
theorem dX3_buzzing_22 : decode cX3_buzzing 22 = .ok (.aload_n 0, 1) := by decide +kernel
theorem dX3_buzzing_23 : decode cX3_buzzing 23 = .ok (.getfield 9, 3) := by decide +kernel
theorem dX3_buzzing_26 : decode cX3_buzzing 26 = .ok (.iload_n 2, 1) := by decide +kernel
theorem dX3_buzzing_27 : decode cX3_buzzing 27 = .ok (.iaload, 1) := by decide +kernel
theorem dX3_buzzing_28 : decode cX3_buzzing 28 = .ok (.aload_n 0, 1) := by decide +kernel
theorem dX3_buzzing_29 : decode cX3_buzzing 29 = .ok (.getfield 9, 3) := by decide +kernel
theorem dX3_buzzing_32 : decode cX3_buzzing 32 = .ok (.iload_n 3, 1) := by decide +kernel
theorem dX3_buzzing_33 : decode cX3_buzzing 33 = .ok (.iaload, 1) := by decide +kernel
theorem dX3_buzzing_34 : decode cX3_buzzing 34 = .ok (.if_icmp .eq 33, 3) := by decide +kernel
theorem dX3_buzzing_37 : decode cX3_buzzing 37 = .ok (.aload_n 0, 1) := by decide +kernel
theorem dX3_buzzing_38 : decode cX3_buzzing 38 = .ok (.getfield 9, 3) := by decide +kernel
theorem dX3_buzzing_41 : decode cX3_buzzing 41 = .ok (.iload_n 2, 1) := by decide +kernel
theorem dX3_buzzing_42 : decode cX3_buzzing 42 = .ok (.iaload, 1) := by decide +kernel
theorem dX3_buzzing_43 : decode cX3_buzzing 43 = .ok (.aload_n 0, 1) := by decide +kernel
theorem dX3_buzzing_44 : decode cX3_buzzing 44 = .ok (.getfield 9, 3) := by decide +kernel
theorem dX3_buzzing_47 : decode cX3_buzzing 47 = .ok (.iload_n 3, 1) := by decide +kernel
theorem dX3_buzzing_48 : decode cX3_buzzing 48 = .ok (.iaload, 1) := by decide +kernel
theorem dX3_buzzing_49 : decode cX3_buzzing 49 = .ok (.iconst 3, 1) := by decide +kernel
theorem dX3_buzzing_50 : decode cX3_buzzing 50 = .ok (.invokestatic 47, 3) := by decide +kernel
theorem dX3_buzzing_53 : decode cX3_buzzing 53 = .ok (.ifCond .eq 14, 3) := by decide +kernel
theorem dX3_buzzing_56 : decode cX3_buzzing 56 = .ok (.iload_n 1, 1) := by decide +kernel
theorem dX3_buzzing_57 : decode cX3_buzzing 57 = .ok (.iconst 1, 1) := by decide +kernel
theorem dX3_buzzing_58 : decode cX3_buzzing 58 = .ok (.aload_n 0, 1) := by decide +kernel
theorem dX3_buzzing_59 : decode cX3_buzzing 59 = .ok (.getfield 15, 3) := by decide +kernel
theorem dX3_buzzing_62 : decode cX3_buzzing 62 = .ok (.iload_n 2, 1) := by decide +kernel
theorem dX3_buzzing_63 : decode cX3_buzzing 63 = .ok (.iaload, 1) := by decide +kernel
theorem dX3_buzzing_64 : decode cX3_buzzing 64 = .ok (.ishl, 1) := by decide +kernel
theorem dX3_buzzing_65 : decode cX3_buzzing 65 = .ok (.ior, 1) := by decide +kernel
theorem dX3_buzzing_66 : decode cX3_buzzing 66 = .ok (.istore_n 1, 1) := by decide +kernel
theorem dX3_buzzing_67 : decode cX3_buzzing 67 = .ok (.iinc 3 1, 3) := by decide +kernel
theorem dX3_buzzing_70 : decode cX3_buzzing 70 = .ok (.goto (-56), 3) := by decide +kernel
theorem dX3_buzzing_73 : decode cX3_buzzing 73 = .ok (.iinc 2 1, 3) := by decide +kernel
theorem dX3_buzzing_76 : decode cX3_buzzing 76 = .ok (.goto (-72), 3) := by decide +kernel
theorem dX3_buzzing_79 : decode cX3_buzzing 79 = .ok (.iload_n 1, 1) := by decide +kernel
theorem dX3_buzzing_80 : decode cX3_buzzing 80 = .ok (.ireturn, 1) := by decide +kernel
set_option maxRecDepth 100000 in
theorem rX3_buzzing_0 {p : Program} {l : Launch} {e : Env} {s : State} {m : MethodId} {args : Array Value} {below : List Frame} {meth : Method} {c : Code} {D : va_G} {cA : Nat → ClassId} {ad : Nat → Nat} {Ret : zR} (C : z_Cx p { frames := 2, cells := 0, slots := 0, locals := 43 } s m args c cX3_buzzing yX3_buzzing.cls 4 D cA ad) (hr : meth.sig.returnType = (some .int)) (hlocks : meth.locks = false) : ∀ L st σ, tX3_buzzing_0 (z_X p l e { frames := 2, cells := 0, slots := 0, locals := 43 } s m args below meth c (MQ below (z_Qc D cA ad Ret) args s 0 0 (z_A ad)) 4 D cA ad true) Ret L st σ → z_X p l e { frames := 2, cells := 0, slots := 0, locals := 43 } s m args below meth c (MQ below (z_Qc D cA ad Ret) args s 0 0 (z_A ad)) 4 D cA ad true 0 L st σ := (s_iconst C dX3_buzzing_0 rfl ⟨by decide, by decide⟩ (s_istore_n C dX3_buzzing_1 (by decide) rfl rfl (s_iconst C dX3_buzzing_2 rfl ⟨by decide, by decide⟩ (s_istore_n C dX3_buzzing_3 (by decide) rfl rfl (fun _ _ _ h => h)))))
set_option maxRecDepth 100000 in
theorem rX3_buzzing_4 {p : Program} {l : Launch} {e : Env} {s : State} {m : MethodId} {args : Array Value} {below : List Frame} {meth : Method} {c : Code} {D : va_G} {cA : Nat → ClassId} {ad : Nat → Nat} {Ret : zR} (C : z_Cx p { frames := 2, cells := 0, slots := 0, locals := 43 } s m args c cX3_buzzing yX3_buzzing.cls 4 D cA ad) (hr : meth.sig.returnType = (some .int)) (hlocks : meth.locks = false) : ∀ L st σ, tX3_buzzing_4 (z_X p l e { frames := 2, cells := 0, slots := 0, locals := 43 } s m args below meth c (MQ below (z_Qc D cA ad Ret) args s 0 0 (z_A ad)) 4 D cA ad true) Ret L st σ → z_X p l e { frames := 2, cells := 0, slots := 0, locals := 43 } s m args below meth c (MQ below (z_Qc D cA ad Ret) args s 0 0 (z_A ad)) 4 D cA ad true 4 L st σ := (s_iload_n C dX3_buzzing_4 rfl (s_aload_n C dX3_buzzing_5 rfl (s_geti C dX3_buzzing_6 cls_X3 (by decide) rfl wd_305 (s_icge C dX3_buzzing_9 (by decide) (s_iload_n C dX3_buzzing_79 rfl (s_iret C dX3_buzzing_80 hr hlocks)) (s_iconst C dX3_buzzing_12 rfl ⟨by decide, by decide⟩ (s_istore_n C dX3_buzzing_13 (by decide) rfl rfl (fun _ _ _ h => h)))))))
set_option maxRecDepth 100000 in
theorem rX3_buzzing_14 {p : Program} {l : Launch} {e : Env} {s : State} {m : MethodId} {args : Array Value} {below : List Frame} {meth : Method} {c : Code} {D : va_G} {cA : Nat → ClassId} {ad : Nat → Nat} {Ret : zR} (C : z_Cx p { frames := 2, cells := 0, slots := 0, locals := 43 } s m args c cX3_buzzing yX3_buzzing.cls 4 D cA ad) (hr : meth.sig.returnType = (some .int)) (hlocks : meth.locks = false) : ∀ L st σ, tX3_buzzing_14 (z_X p l e { frames := 2, cells := 0, slots := 0, locals := 43 } s m args below meth c (MQ below (z_Qc D cA ad Ret) args s 0 0 (z_A ad)) 4 D cA ad true) Ret L st σ → z_X p l e { frames := 2, cells := 0, slots := 0, locals := 43 } s m args below meth c (MQ below (z_Qc D cA ad Ret) args s 0 0 (z_A ad)) 4 D cA ad true 14 L st σ := (s_iload_n C dX3_buzzing_14 rfl (s_aload_n C dX3_buzzing_15 rfl (s_geti C dX3_buzzing_16 cls_X3 (by decide) rfl wd_305 (s_icge C dX3_buzzing_19 (by decide) (s_iinc C dX3_buzzing_73 (by decide) rfl (s_goto C dX3_buzzing_76 (by decide) (fun _ _ _ h => h))) (s_aload_n C dX3_buzzing_22 rfl (s_getr C dX3_buzzing_23 (j := 0) cls_X3 (by decide) rfl (by decide) (by decide) (by decide +kernel) wd_300 (s_iload_n C dX3_buzzing_26 rfl (s_iald C dX3_buzzing_27 (s_aload_n C dX3_buzzing_28 rfl (s_getr C dX3_buzzing_29 (j := 0) cls_X3 (by decide) rfl (by decide) (by decide) (by decide +kernel) wd_300 (s_iload_n C dX3_buzzing_32 rfl (s_iald C dX3_buzzing_33 (s_iceq C dX3_buzzing_34 (by decide) (s_iinc C dX3_buzzing_67 (by decide) rfl (s_goto C dX3_buzzing_70 (by decide) (fun _ _ _ h => h))) (s_aload_n C dX3_buzzing_37 rfl (s_getr C dX3_buzzing_38 (j := 0) cls_X3 (by decide) rfl (by decide) (by decide) (by decide +kernel) wd_300 (s_iload_n C dX3_buzzing_41 rfl (s_iald C dX3_buzzing_42 (s_aload_n C dX3_buzzing_43 rfl (s_getr C dX3_buzzing_44 (j := 0) cls_X3 (by decide) rfl (by decide) (by decide) (by decide +kernel) wd_300 (s_iload_n C dX3_buzzing_47 rfl (s_iald C dX3_buzzing_48 (s_iconst C dX3_buzzing_49 rfl ⟨by decide, by decide⟩ (s_cs3 C dX3_buzzing_50 (okX3_areSame l) wd_759 wd_760 wd_82 wd_761 ⟨by decide, by decide, by decide +kernel⟩ ⟨by decide, by decide⟩ (s_ifeq C dX3_buzzing_53 (by decide) (s_iinc C dX3_buzzing_67 (by decide) rfl (s_goto C dX3_buzzing_70 (by decide) (fun _ _ _ h => h))) (s_iload_n C dX3_buzzing_56 rfl (s_iconst C dX3_buzzing_57 rfl ⟨by decide, by decide⟩ (s_aload_n C dX3_buzzing_58 rfl (s_getr C dX3_buzzing_59 (j := 1) cls_X3 (by decide) rfl (by decide) (by decide) (by decide +kernel) wd_302 (s_iload_n C dX3_buzzing_62 rfl (s_iald C dX3_buzzing_63 (s_ishl C dX3_buzzing_64 (s_ior C dX3_buzzing_65 (s_istore_n C dX3_buzzing_66 (by decide) rfl rfl (s_iinc C dX3_buzzing_67 (by decide) rfl (s_goto C dX3_buzzing_70 (by decide) (fun _ _ _ h => h))))))))))))))))))))))))))))))))))))
theorem okX3_buzzing (l : Launch) : z_OK l yX3_buzzing cX3_buzzing 4 (some .int) 2 43 SX3_buzzing := by
  refine z_ok_of true (by decide +kernel) ?_ ?_
  · intro as σ Ret h
    obtain ⟨k0, rfl⟩ := pX3_buzzing h
    exact ⟨Nat.le_of_ble_eq_true rfl, by simp⟩
  · intro p e s m args below meth c D cA ad Ret C hr hlocks as σ has hσ h
    obtain ⟨k0, rfl⟩ := pX3_buzzing h
    exact vX3_buzzing (rX3_buzzing_0 C hr hlocks) (rX3_buzzing_4 C hr hlocks) (rX3_buzzing_14 C hr hlocks) k0 σ (has _ (List.mem_of_getElem? (i := 0) rfl)) hσ h
