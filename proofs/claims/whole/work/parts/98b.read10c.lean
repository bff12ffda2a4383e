/-! the model's reader: names and numbers -/
theorem z_shl8 {x y : Nat} (hx : x < 36028797018963968) (hy : y < 256) : (Int64.ofInt (Int64.ofInt (x : Int) <<< ((Int32.ofInt 8).toInt64 &&& 63)).toInt ||| Int64.ofInt (y : Int)).toInt = ((x * 256 + y : Nat) : Int) := by
  rw [Int64.ofInt_toInt]
  have hX : (Int64.ofInt (x : Int)).toBitVec.toNat = x := by
    show (BitVec.ofInt 64 (x : Int)).toNat = x
    rw [BitVec.toNat_ofInt]; omega
  have hY : (Int64.ofInt (y : Int)).toBitVec.toNat = y := by
    show (BitVec.ofInt 64 (y : Int)).toNat = y
    rw [BitVec.toNat_ofInt]; omega
  have h8 : ((Int32.ofInt 8).toInt64 &&& 63).toBitVec.smod 64 = 8#64 := by decide
  have hS : (Int64.ofInt (x : Int) <<< ((Int32.ofInt 8).toInt64 &&& 63)).toBitVec.toNat = x * 256 := by
    rw [Int64.toBitVec_shiftLeft, h8]
    show ((Int64.ofInt (x : Int)).toBitVec <<< 8).toNat = x * 256
    rw [BitVec.toNat_shiftLeft, hX, Nat.shiftLeft_eq]
    exact Nat.mod_eq_of_lt (by omega)
  have hO : (Int64.ofInt (x : Int) <<< ((Int32.ofInt 8).toInt64 &&& 63) ||| Int64.ofInt (y : Int)).toBitVec.toNat = x * 256 + y := by
    rw [Int64.toBitVec_or, BitVec.toNat_or, hS, hY]
    have e := Nat.shiftLeft_add_eq_or_of_lt (i := 8) (b := y) hy x
    rw [Nat.shiftLeft_eq] at e
    exact e.symm
  rw [← Int64.toInt_toBitVec, BitVec.toInt_eq_toNat_of_lt (by rw [hO]; omega), hO]
/-- the bytes of a name as one number -/
def q_nf (b : Nat → Int) (s : Nat) : Nat → Nat
  | 0 => 0
  | n + 1 => q_nf b s n * 256 + (b (s + n)).toNat
theorem q_nf_lt {b : Nat → Int} {s : Nat} : ∀ n : Nat, (∀ i, i < n → 0 ≤ b (s + i) ∧ b (s + i) ≤ 255) → q_nf b s n < 256 ^ n
  | 0, _ => by rw [q_nf]; exact Nat.one_pos
  | n + 1, h => by
    have ih := q_nf_lt n (fun i hi => h i (by omega))
    have := h n (by omega)
    rw [q_nf, Nat.pow_succ]
    omega
def q_nm (b : Nat → Int) (T p : Nat) : Int := if q_tk b T p = 1 ∧ q_te b T p - q_ts b T p < 8 then (q_nf b (q_ts b T p) (q_te b T p - q_ts b T p) : Int) else 0
def SX10_name : zS := fun as σ Ret => match as with
  | [.inr (.inr (10, 0, _))] => ∃ b T p f, q_ms σ b T p f ∧ Ret (some (.inr (.inl (if f = 0 then q_nm b T p else 0)))) σ
  | _ => False
def tX10_name_0 (X : Nat → zB) (Ret : zR) (L : zL) (st : List zV) (σ : zM) : Prop := (z_lpush 0 (z_lstore 1 (z_aload 0 (z_geti 10 17 (z_istoreP 3 (X 7)))))) L st σ
def tX10_name_7 (X : Nat → zB) (Ret : zR) (L : zL) (st : List zV) (σ : zM) : Prop := (z_iload 3 (z_aload 0 (z_geti 10 18 (z_icge (z_aload 0 (z_geti 10 19 (z_ifne (z_lpush 0 (z_lret Ret)) (z_lload 1 (z_goto (z_lret Ret)))))) (z_aload 0 (z_geti 10 16 (z_push 2 (z_icne (z_aload 0 (z_geti 10 19 (z_ifne (z_lpush 0 (z_lret Ret)) (z_lload 1 (z_goto (z_lret Ret)))))) (z_aload 0 (z_geti 10 18 (z_aload 0 (z_geti 10 17 (z_isub (z_push 8 (z_icge (z_aload 0 (z_geti 10 19 (z_ifne (z_lpush 0 (z_lret Ret)) (z_lload 1 (z_goto (z_lret Ret)))))) (z_lload 1 (z_push 8 (z_lshl (z_aload 0 (z_getr 10 8 100 400 (z_iload 3 (z_ald 0 (z_i2l (z_lor (z_lstore 1 (z_iincP 3 1 (z_goto (X 7)))))))))))))))))))))))))))) L st σ
theorem pX10_name {as : List zV} {σ : zM} {Ret : zR} (h : SX10_name as σ Ret) : ∃ (k0 : Nat), as = [.inr (.inr (10, 0, k0))] := by
  unfold SX10_name at h
  split at h
  · exact ⟨_, rfl⟩
  · exact h.elim
set_option maxRecDepth 10000 in
set_option maxHeartbeats 4000000 in
theorem vX10_name {X : Nat → zB} {Ret : zR} (h0 : ∀ L st σ, tX10_name_0 X Ret L st σ → X 0 L st σ) (h7 : ∀ L st σ, tX10_name_7 X Ret L st σ → X 7 L st σ) (k0 : Nat) (σ : zM) (hk0 : z_kd k0 = (10, 0)) (hσ : z_okm σ) (h : SX10_name [.inr (.inr (10, 0, k0))] σ Ret) : X 0 [some (.inr (.inr (10, 0, k0))), none, none, none] [] σ := by
  obtain ⟨b, T, p, f, ms, h⟩ := h
  obtain rfl := z_kd10 hk0
  have m19 := ms.2.2.2.2.2.2.1
  obtain ⟨m15, m16, m17, m18⟩ := ms.2.2.2.2.1
  have mt := (q_mt_is (q_tk_in (b := b) (T := T) (p := p))).2.1
  have hs := q_ts_in (b := b) ms.2.2.2.2.2.1
  have he := q_te_in (b := b) ms.2.2.2.2.2.1
  have T4 := ms.2.1
  have b255 := fun j hj => ms.b255 (j := j) hj
  have out : ∀ (v : Int) (w : Option zV), (f = 0 → v = q_nm b T p) → ∀ (k : Nat), (¬ (k < q_te b T p ∧ q_tk b T p = 1 ∧ q_te b T p - q_ts b T p < 8)) → k ≤ 400 → X 7 [some (.inr (.inr (10, 0, 89))), some (.inr (.inl v)), none, some (.inl (k : Int))] [] σ := by
    intro v w hv k hk k4
    by_cases c : f = 0
    · rw [if_pos c, ← hv c] at h
      rw [c] at m19
      refine h7 _ _ _ ?_
      simp only [z_push, z_lpush, z_iload, z_lload, z_aload, z_istore, z_istoreP, z_lstore, z_astore, z_iinc, z_iincP, z_iadd, z_isub, z_imul, z_iaddW, z_isubW, z_imulW, z_idiv, z_irem, z_iand, z_ior, z_ixor, z_ishl, z_ishr, z_iushr, z_ineg, z_i2l, z_i2b, z_i2s, z_i2c, z_l2i, z_ladd, z_lsub, z_land, z_lor, z_lshl, z_lshr, z_lcmp, z_dup, z_pop, z_dup2, z_goto, z_tsw, z_cases, z_geti, z_getr, z_puti, z_putz, z_ald, z_iast, z_bast, z_zast, z_alen, z_acopy, z_mmax, z_mmin, z_mabs, z_mabsL, z_iret, z_zret, z_nret, z_lret, z_aret, z_vret, z_cat, z_ldcs, z_strv, z_strc, z_gcs, z_gfm, z_sln, z_sald, z_ifeq, z_ifne, z_iflt, z_ifge, z_ifgt, z_ifle, z_iceq, z_icne, z_iclt, z_icge, z_icgt, z_icle, z_cs0, z_cs1, z_cs2, z_cs3, z_cs4, z_cs5, z_cs6, z_cs7, z_cv0, z_cv1, z_cv2, z_cv3, z_cv4, z_cv5, z_cv6, z_cv7, z_g0, z_s0, z_g1, z_s1, z_g2, z_s2, z_g3, z_s3, z_g4, z_s4, z_g5, z_s5, z_g6, z_s6, z_g7, z_s7, z_g8, z_s8, z_g9, z_s9, z_g10, z_s10, z_g11, z_s11, z_g12, z_s12, z_g13, z_s13, z_b0, z_b1, z_b0n, z_b1n, z_up_far1, z_up_far2, z_up_far3, z_up_far4, z_up_far5, z_up_far6, Classical.not_not, not_true_eq_false, z_in, z_inL, Int.cast_ofNat_Int, Nat.reduceLeDiff, List.length_cons, List.length_nil, Nat.reduceAdd, Nat.zero_add, Nat.le_refl, true_and, and_true, List.length, Nat.reduceLT, true_or, or_true, false_or, or_false, false_and, and_false, not_true_eq_false, not_false_eq_true, forall_const, false_implies, true_implies, Int.reduceEq, Int.reduceLT, Int.reduceLE, Int.reduceAdd, Int.reduceSub, Int.reduceMul, Int.reduceNeg, Int.reduceToNat, Int.toNat_natCast, ↓reduceIte, reduceIte, Nat.reduceEqDiff, Nat.reduceSub, Nat.reduceMul, ne_eq, Int.zero_add, Int.add_zero, Int.sub_zero, Nat.add_zero, Int.ofNat_eq_natCast, tX10_name_7, m15, m16, m17, m18, m19, mt]
      repeat' (first | (intro _) | (with_reducible assumption) | (refine And.intro ?_ ?_))
      all_goals first | omega | assumption | (refine z_fin h ?_ rfl; first | rfl | omega | (split <;> omega) | (split <;> split <;> omega)) | skip
      all_goals first | exact h | (exfalso; exact hk ⟨by omega, by assumption, by omega⟩) | (exfalso; omega)
    · rw [if_neg c] at h
      refine h7 _ _ _ ?_
      simp only [z_push, z_lpush, z_iload, z_lload, z_aload, z_istore, z_istoreP, z_lstore, z_astore, z_iinc, z_iincP, z_iadd, z_isub, z_imul, z_iaddW, z_isubW, z_imulW, z_idiv, z_irem, z_iand, z_ior, z_ixor, z_ishl, z_ishr, z_iushr, z_ineg, z_i2l, z_i2b, z_i2s, z_i2c, z_l2i, z_ladd, z_lsub, z_land, z_lor, z_lshl, z_lshr, z_lcmp, z_dup, z_pop, z_dup2, z_goto, z_tsw, z_cases, z_geti, z_getr, z_puti, z_putz, z_ald, z_iast, z_bast, z_zast, z_alen, z_acopy, z_mmax, z_mmin, z_mabs, z_mabsL, z_iret, z_zret, z_nret, z_lret, z_aret, z_vret, z_cat, z_ldcs, z_strv, z_strc, z_gcs, z_gfm, z_sln, z_sald, z_ifeq, z_ifne, z_iflt, z_ifge, z_ifgt, z_ifle, z_iceq, z_icne, z_iclt, z_icge, z_icgt, z_icle, z_cs0, z_cs1, z_cs2, z_cs3, z_cs4, z_cs5, z_cs6, z_cs7, z_cv0, z_cv1, z_cv2, z_cv3, z_cv4, z_cv5, z_cv6, z_cv7, z_g0, z_s0, z_g1, z_s1, z_g2, z_s2, z_g3, z_s3, z_g4, z_s4, z_g5, z_s5, z_g6, z_s6, z_g7, z_s7, z_g8, z_s8, z_g9, z_s9, z_g10, z_s10, z_g11, z_s11, z_g12, z_s12, z_g13, z_s13, z_b0, z_b1, z_b0n, z_b1n, z_up_far1, z_up_far2, z_up_far3, z_up_far4, z_up_far5, z_up_far6, Classical.not_not, not_true_eq_false, z_in, z_inL, Int.cast_ofNat_Int, Nat.reduceLeDiff, List.length_cons, List.length_nil, Nat.reduceAdd, Nat.zero_add, Nat.le_refl, true_and, and_true, List.length, Nat.reduceLT, true_or, or_true, false_or, or_false, false_and, and_false, not_true_eq_false, not_false_eq_true, forall_const, false_implies, true_implies, Int.reduceEq, Int.reduceLT, Int.reduceLE, Int.reduceAdd, Int.reduceSub, Int.reduceMul, Int.reduceNeg, Int.reduceToNat, Int.toNat_natCast, ↓reduceIte, reduceIte, Nat.reduceEqDiff, Nat.reduceSub, Nat.reduceMul, ne_eq, Int.zero_add, Int.add_zero, Int.sub_zero, Nat.add_zero, Int.ofNat_eq_natCast, tX10_name_7, m15, m16, m17, m18, m19, mt, c]
      repeat' (first | (intro _) | (with_reducible assumption) | (refine And.intro ?_ ?_))
      all_goals first | omega | assumption | (refine z_fin h ?_ rfl; first | rfl | omega | (split <;> omega) | (split <;> split <;> omega)) | skip
      all_goals first | exact h | (exfalso; exact hk ⟨by omega, by assumption, by omega⟩) | (exfalso; omega) | contradiction
  have okp : ∀ (L : zL), z_get L 2 = none → z_okp L 3 := fun L hL j x e => by
    obtain rfl : j = 2 := by omega
    rw [hL]
    exact fun q => by cases q
  have go : X 7 [some (.inr (.inr (10, 0, 89))), some (.inr (.inl 0)), none, some (.inl (q_ts b T p : Int))] [] σ := by
    by_cases c : q_tk b T p = 1 ∧ q_te b T p - q_ts b T p < 8
    · have L7 : ∀ (d i : Nat), i + d = q_te b T p - q_ts b T p → X 7 [some (.inr (.inr (10, 0, 89))), some (.inr (.inl (q_nf b (q_ts b T p) i : Int))), none, some (.inl ((q_ts b T p + i : Nat) : Int))] [] σ := by
        intro d
        induction d with
        | zero =>
          intro i hi
          obtain rfl : i = q_te b T p - q_ts b T p := by omega
          exact out _ none (fun _ => by unfold q_nm; rw [if_pos c]) _ (by omega) (by omega)
        | succ d ih =>
          intro i hi
          have nx := ih (i + 1) (by omega)
          have bb := b255 (q_ts b T p + i) (by omega)
          have eb : σ 97 (q_ts b T p + i) = (((b (q_ts b T p + i)).toNat : Nat) : Int) := by rw [← bb.1]; omega
          have lt := q_nf_lt (b := b) (s := q_ts b T p) i (fun k hk => (b255 _ (by omega)).2)
          have l7 : (256 : Nat) ^ i ≤ 256 ^ 6 := Nat.pow_le_pow_right (by decide) (by omega)
          have l8 : (256 : Nat) ^ 6 = 281474976710656 := by decide
          have sh := z_shl8 (x := q_nf b (q_ts b T p) i) (y := (b (q_ts b T p + i)).toNat) (by omega) (by omega)
          rw [q_nf, ← sh] at nx
          have k1 : q_mt (q_tk b T p) = 2 := mt.mpr c.1
          have c2 : (q_te b T p : Int) - (q_ts b T p : Int) < 8 := by omega
          refine h7 _ _ _ ?_
          simp only [z_push, z_lpush, z_iload, z_lload, z_aload, z_istore, z_istoreP, z_lstore, z_astore, z_iinc, z_iincP, z_iadd, z_isub, z_imul, z_iaddW, z_isubW, z_imulW, z_idiv, z_irem, z_iand, z_ior, z_ixor, z_ishl, z_ishr, z_iushr, z_ineg, z_i2l, z_i2b, z_i2s, z_i2c, z_l2i, z_ladd, z_lsub, z_land, z_lor, z_lshl, z_lshr, z_lcmp, z_dup, z_pop, z_dup2, z_goto, z_tsw, z_cases, z_geti, z_getr, z_puti, z_putz, z_ald, z_iast, z_bast, z_zast, z_alen, z_acopy, z_mmax, z_mmin, z_mabs, z_mabsL, z_iret, z_zret, z_nret, z_lret, z_aret, z_vret, z_cat, z_ldcs, z_strv, z_strc, z_gcs, z_gfm, z_sln, z_sald, z_ifeq, z_ifne, z_iflt, z_ifge, z_ifgt, z_ifle, z_iceq, z_icne, z_iclt, z_icge, z_icgt, z_icle, z_cs0, z_cs1, z_cs2, z_cs3, z_cs4, z_cs5, z_cs6, z_cs7, z_cv0, z_cv1, z_cv2, z_cv3, z_cv4, z_cv5, z_cv6, z_cv7, z_g0, z_s0, z_g1, z_s1, z_g2, z_s2, z_g3, z_s3, z_g4, z_s4, z_g5, z_s5, z_g6, z_s6, z_g7, z_s7, z_g8, z_s8, z_g9, z_s9, z_g10, z_s10, z_g11, z_s11, z_g12, z_s12, z_g13, z_s13, z_b0, z_b1, z_b0n, z_b1n, z_up_far1, z_up_far2, z_up_far3, z_up_far4, z_up_far5, z_up_far6, Classical.not_not, not_true_eq_false, z_in, z_inL, Int.cast_ofNat_Int, Nat.reduceLeDiff, List.length_cons, List.length_nil, Nat.reduceAdd, Nat.zero_add, Nat.le_refl, true_and, and_true, List.length, Nat.reduceLT, true_or, or_true, false_or, or_false, false_and, and_false, not_true_eq_false, not_false_eq_true, forall_const, false_implies, true_implies, Int.reduceEq, Int.reduceLT, Int.reduceLE, Int.reduceAdd, Int.reduceSub, Int.reduceMul, Int.reduceNeg, Int.reduceToNat, Int.toNat_natCast, ↓reduceIte, reduceIte, Nat.reduceEqDiff, Nat.reduceSub, Nat.reduceMul, ne_eq, Int.zero_add, Int.add_zero, Int.sub_zero, Nat.add_zero, Int.ofNat_eq_natCast, tX10_name_7, m15, m16, m17, m18, k1, eb]
          repeat' (first | (intro _) | (with_reducible assumption) | (refine And.intro ?_ ?_))
          all_goals first | omega | assumption | (refine z_fin c2 ?_ rfl; first | rfl | omega | (split <;> omega) | (split <;> split <;> omega)) | skip
          all_goals first | exact nx | (rename_i j x e1 e2; rcases j with _ | _ | _ | j <;> first | omega | (cases e2; done))
      exact L7 (q_te b T p - q_ts b T p) 0 (by omega)
    · exact out 0 none (fun _ => by unfold q_nm; rw [if_neg c]) _ (fun q => c q.2) (by omega)
  refine h0 _ _ _ ?_
  simp only [z_push, z_lpush, z_iload, z_lload, z_aload, z_istore, z_istoreP, z_lstore, z_astore, z_iinc, z_iincP, z_iadd, z_isub, z_imul, z_iaddW, z_isubW, z_imulW, z_idiv, z_irem, z_iand, z_ior, z_ixor, z_ishl, z_ishr, z_iushr, z_ineg, z_i2l, z_i2b, z_i2s, z_i2c, z_l2i, z_ladd, z_lsub, z_land, z_lor, z_lshl, z_lshr, z_lcmp, z_dup, z_pop, z_dup2, z_goto, z_tsw, z_cases, z_geti, z_getr, z_puti, z_putz, z_ald, z_iast, z_bast, z_zast, z_alen, z_acopy, z_mmax, z_mmin, z_mabs, z_mabsL, z_iret, z_zret, z_nret, z_lret, z_aret, z_vret, z_cat, z_ldcs, z_strv, z_strc, z_gcs, z_gfm, z_sln, z_sald, z_ifeq, z_ifne, z_iflt, z_ifge, z_ifgt, z_ifle, z_iceq, z_icne, z_iclt, z_icge, z_icgt, z_icle, z_cs0, z_cs1, z_cs2, z_cs3, z_cs4, z_cs5, z_cs6, z_cs7, z_cv0, z_cv1, z_cv2, z_cv3, z_cv4, z_cv5, z_cv6, z_cv7, z_g0, z_s0, z_g1, z_s1, z_g2, z_s2, z_g3, z_s3, z_g4, z_s4, z_g5, z_s5, z_g6, z_s6, z_g7, z_s7, z_g8, z_s8, z_g9, z_s9, z_g10, z_s10, z_g11, z_s11, z_g12, z_s12, z_g13, z_s13, z_b0, z_b1, z_b0n, z_b1n, z_up_far1, z_up_far2, z_up_far3, z_up_far4, z_up_far5, z_up_far6, Classical.not_not, not_true_eq_false, z_in, z_inL, Int.cast_ofNat_Int, Nat.reduceLeDiff, List.length_cons, List.length_nil, Nat.reduceAdd, Nat.zero_add, Nat.le_refl, true_and, and_true, List.length, Nat.reduceLT, true_or, or_true, false_or, or_false, false_and, and_false, not_true_eq_false, not_false_eq_true, forall_const, false_implies, true_implies, Int.reduceEq, Int.reduceLT, Int.reduceLE, Int.reduceAdd, Int.reduceSub, Int.reduceMul, Int.reduceNeg, Int.reduceToNat, Int.toNat_natCast, ↓reduceIte, reduceIte, Nat.reduceEqDiff, Nat.reduceSub, Nat.reduceMul, ne_eq, Int.zero_add, Int.add_zero, Int.sub_zero, Nat.add_zero, Int.ofNat_eq_natCast, tX10_name_0, m17]
  refine ⟨fun j x e => ?_, fun _ => ⟨okp _ rfl, go⟩⟩
  obtain rfl : j = 0 := by omega
  exact fun q => by cases q
theorem dX10_name_0 : decode cX10_name 0 = .ok (.lconst 0, 1) := by decide +kernel
theorem dX10_name_1 : decode cX10_name 1 = .ok (.lstore_n 1, 1) := by decide +kernel
theorem dX10_name_2 : decode cX10_name 2 = .ok (.aload_n 0, 1) := by decide +kernel
theorem dX10_name_3 : decode cX10_name 3 = .ok (.getfield 108, 3) := by decide +kernel
theorem dX10_name_6 : decode cX10_name 6 = .ok (.istore_n 3, 1) := by decide +kernel
theorem dX10_name_7 : decode cX10_name 7 = .ok (.iload_n 3, 1) := by decide +kernel
theorem dX10_name_8 : decode cX10_name 8 = .ok (.aload_n 0, 1) := by decide +kernel
theorem dX10_name_9 : decode cX10_name 9 = .ok (.getfield 120, 3) := by decide +kernel
theorem dX10_name_12 : decode cX10_name 12 = .ok (.if_icmp .ge 44, 3) := by decide +kernel
theorem dX10_name_15 : decode cX10_name 15 = .ok (.aload_n 0, 1) := by decide +kernel
theorem dX10_name_16 : decode cX10_name 16 = .ok (.getfield 111, 3) := by decide +kernel
theorem dX10_name_19 : decode cX10_name 19 = .ok (.iconst 2, 1) := by decide +kernel
theorem dX10_name_20 : decode cX10_name 20 = .ok (.if_icmp .ne 36, 3) := by decide +kernel
theorem dX10_name_23 : decode cX10_name 23 = .ok (.aload_n 0, 1) := by decide +kernel
theorem dX10_name_24 : decode cX10_name 24 = .ok (.getfield 120, 3) := by decide +kernel
theorem dX10_name_27 : decode cX10_name 27 = .ok (.aload_n 0, 1) := by decide +kernel
theorem dX10_name_28 : decode cX10_name 28 = .ok (.getfield 108, 3) := by decide +kernel
theorem dX10_name_31 : decode cX10_name 31 = .ok (.isub, 1) := by decide +kernel
theorem dX10_name_32 : decode cX10_name 32 = .ok (.bipush 8, 2) := by decide +kernel
theorem dX10_name_34 : decode cX10_name 34 = .ok (.if_icmp .ge 22, 3) := by decide +kernel
theorem dX10_name_37 : decode cX10_name 37 = .ok (.lload_n 1, 1) := by decide +kernel
theorem dX10_name_38 : decode cX10_name 38 = .ok (.bipush 8, 2) := by decide +kernel
theorem dX10_name_40 : decode cX10_name 40 = .ok (.lshl, 1) := by decide +kernel
theorem dX10_name_41 : decode cX10_name 41 = .ok (.aload_n 0, 1) := by decide +kernel
theorem dX10_name_42 : decode cX10_name 42 = .ok (.getfield 31, 3) := by decide +kernel
theorem dX10_name_45 : decode cX10_name 45 = .ok (.iload_n 3, 1) := by decide +kernel
theorem dX10_name_46 : decode cX10_name 46 = .ok (.iaload, 1) := by decide +kernel
theorem dX10_name_47 : decode cX10_name 47 = .ok (.i2l, 1) := by decide +kernel
theorem dX10_name_48 : decode cX10_name 48 = .ok (.lor, 1) := by decide +kernel
theorem dX10_name_49 : decode cX10_name 49 = .ok (.lstore_n 1, 1) := by decide +kernel
theorem dX10_name_50 : decode cX10_name 50 = .ok (.iinc 3 1, 3) := by decide +kernel
theorem dX10_name_53 : decode cX10_name 53 = .ok (.goto (-46), 3) := by decide +kernel
theorem dX10_name_56 : decode cX10_name 56 = .ok (.aload_n 0, 1) := by decide +kernel
theorem dX10_name_57 : decode cX10_name 57 = .ok (.getfield 123, 3) := by decide +kernel
theorem dX10_name_60 : decode cX10_name 60 = .ok (.ifCond .ne 7, 3) := by decide +kernel
theorem dX10_name_63 : decode cX10_name 63 = .ok (.lload_n 1, 1) := by decide +kernel
theorem dX10_name_64 : decode cX10_name 64 = .ok (.goto 4, 3) := by decide +kernel
theorem dX10_name_67 : decode cX10_name 67 = .ok (.lconst 0, 1) := by decide +kernel
theorem dX10_name_68 : decode cX10_name 68 = .ok (.lreturn, 1) := by decide +kernel
set_option maxRecDepth 100000 in
theorem rX10_name_0 {p : Program} {l : Launch} {e : Env} {s : State} {m : MethodId} {args : Array Value} {below : List Frame} {meth : Method} {c : Code} {D : va_G} {cA : Nat → ClassId} {ad : Nat → Nat} {Ret : zR} (C : z_Cx p { frames := 0, cells := 0, slots := 0, locals := 0 } s m args c cX10_name yX10_name.cls 4 D cA ad) (hr : meth.sig.returnType = (some .long)) (hlocks : meth.locks = false) : ∀ L st σ, tX10_name_0 (z_X p l e { frames := 0, cells := 0, slots := 0, locals := 0 } s m args below meth c (MQ below (z_Qc D cA ad Ret) args s 0 0 (z_A ad)) 4 D cA ad false) Ret L st σ → z_X p l e { frames := 0, cells := 0, slots := 0, locals := 0 } s m args below meth c (MQ below (z_Qc D cA ad Ret) args s 0 0 (z_A ad)) 4 D cA ad false 0 L st σ := (s_lconst C dX10_name_0 (v := 0) rfl ⟨by decide, by decide⟩ (s_lstore_n C dX10_name_1 (by decide) rfl rfl (s_aload_n C dX10_name_2 rfl (s_geti C dX10_name_3 cls_X10 (by decide) rfl wd_985 (s_istoreP_n C dX10_name_6 (by decide) rfl  (fun _ _ _ h => h))))))
set_option maxRecDepth 100000 in
theorem rX10_name_7 {p : Program} {l : Launch} {e : Env} {s : State} {m : MethodId} {args : Array Value} {below : List Frame} {meth : Method} {c : Code} {D : va_G} {cA : Nat → ClassId} {ad : Nat → Nat} {Ret : zR} (C : z_Cx p { frames := 0, cells := 0, slots := 0, locals := 0 } s m args c cX10_name yX10_name.cls 4 D cA ad) (hr : meth.sig.returnType = (some .long)) (hlocks : meth.locks = false) : ∀ L st σ, tX10_name_7 (z_X p l e { frames := 0, cells := 0, slots := 0, locals := 0 } s m args below meth c (MQ below (z_Qc D cA ad Ret) args s 0 0 (z_A ad)) 4 D cA ad false) Ret L st σ → z_X p l e { frames := 0, cells := 0, slots := 0, locals := 0 } s m args below meth c (MQ below (z_Qc D cA ad Ret) args s 0 0 (z_A ad)) 4 D cA ad false 7 L st σ := (s_iload_n C dX10_name_7 rfl (s_aload_n C dX10_name_8 rfl (s_geti C dX10_name_9 cls_X10 (by decide) rfl wd_986 (s_icge C dX10_name_12 (by decide) (s_aload_n C dX10_name_56 rfl (s_geti C dX10_name_57 cls_X10 (by decide) rfl wd_987 (s_ifne C dX10_name_60 (by decide) (s_lconst C dX10_name_67 (v := 0) rfl ⟨by decide, by decide⟩ (s_lret C dX10_name_68 hr hlocks)) (s_lload_n C dX10_name_63 rfl (s_goto C dX10_name_64 (by decide) (s_lret C dX10_name_68 hr hlocks)))))) (s_aload_n C dX10_name_15 rfl (s_geti C dX10_name_16 cls_X10 (by decide) rfl wd_984 (s_iconst C dX10_name_19 rfl ⟨by decide, by decide⟩ (s_icne C dX10_name_20 (by decide) (s_aload_n C dX10_name_56 rfl (s_geti C dX10_name_57 cls_X10 (by decide) rfl wd_987 (s_ifne C dX10_name_60 (by decide) (s_lconst C dX10_name_67 (v := 0) rfl ⟨by decide, by decide⟩ (s_lret C dX10_name_68 hr hlocks)) (s_lload_n C dX10_name_63 rfl (s_goto C dX10_name_64 (by decide) (s_lret C dX10_name_68 hr hlocks)))))) (s_aload_n C dX10_name_23 rfl (s_geti C dX10_name_24 cls_X10 (by decide) rfl wd_986 (s_aload_n C dX10_name_27 rfl (s_geti C dX10_name_28 cls_X10 (by decide) rfl wd_985 (s_isub C dX10_name_31 (s_bipush C dX10_name_32 rfl ⟨by decide, by decide⟩ (s_icge C dX10_name_34 (by decide) (s_aload_n C dX10_name_56 rfl (s_geti C dX10_name_57 cls_X10 (by decide) rfl wd_987 (s_ifne C dX10_name_60 (by decide) (s_lconst C dX10_name_67 (v := 0) rfl ⟨by decide, by decide⟩ (s_lret C dX10_name_68 hr hlocks)) (s_lload_n C dX10_name_63 rfl (s_goto C dX10_name_64 (by decide) (s_lret C dX10_name_68 hr hlocks)))))) (s_lload_n C dX10_name_37 rfl (s_bipush C dX10_name_38 rfl ⟨by decide, by decide⟩ (s_lshl C dX10_name_40 (s_aload_n C dX10_name_41 rfl (s_getr C dX10_name_42 (j := 11) cls_X10 (by decide) rfl (by decide) (by decide) (by decide +kernel) wd_979 (s_iload_n C dX10_name_45 rfl (s_iald C dX10_name_46 (s_i2l C dX10_name_47 (s_lor C dX10_name_48 (s_lstore_n C dX10_name_49 (by decide) rfl rfl (s_iincP C dX10_name_50 (by decide)  (s_goto C dX10_name_53 (by decide) (fun _ _ _ h => h))))))))))))))))))))))))))))
theorem okX10_name (l : Launch) : z_OK l yX10_name cX10_name 4 (some .long) 0 0 SX10_name := by
  refine z_ok_of false (by decide +kernel) ?_ ?_
  · intro as σ Ret h
    obtain ⟨k0, rfl⟩ := pX10_name h
    exact ⟨Nat.le_of_ble_eq_true rfl, by intro h; cases h⟩
  · intro p e s m args below meth c D cA ad Ret C hr hlocks as σ has hσ h
    obtain ⟨k0, rfl⟩ := pX10_name h
    exact vX10_name (rX10_name_0 C hr hlocks) (rX10_name_7 C hr hlocks) k0 σ (has _ (List.mem_of_getElem? (i := 0) rfl)) hσ h
/-- a name is a word -/
theorem q_nm4 {b : Nat → Int} {T p j : Nat} {c0 c1 c2 c3 : Int} (hb : ∀ i, i < T → 0 ≤ b i ∧ b i ≤ 255) (hp : p ≤ T) (hl : z_slen.getD j 0 = 4) (e0 : z_sch j 0 = c0) (e1 : z_sch j 1 = c1) (e2 : z_sch j 2 = c2) (e3 : z_sch j 3 = c3) (hc : (97 ≤ c0 ∧ c0 ≤ 122) ∧ (97 ≤ c1 ∧ c1 ≤ 122) ∧ (97 ≤ c2 ∧ c2 ≤ 122) ∧ (97 ≤ c3 ∧ c3 ≤ 122)) : q_nm b T p = ((c0 * 256 + c1) * 256 + c2) * 256 + c3 ↔ q_isw b T p j = true := by
  unfold q_nm q_isw
  rw [decide_eq_true_eq, hl]
  by_cases k : q_tk b T p = 1
  · obtain ⟨k1, k2, k3⟩ := q_tk1 k
    have al : ∀ i, q_ts b T p ≤ i → i < q_te b T p → 97 ≤ b i ∧ b i ≤ 122 := fun i h1 h2 => by
      have := q_end_all (f := fun i => q_let (b i)) _ _ i h1 (by rw [← k2]; exact h2)
      unfold q_let at this
      rw [decide_eq_true_eq] at this
      exact this
    have gt : q_ts b T p < q_te b T p := (q_te_gt hp (by omega)).2.2
    generalize q_ts b T p = s at k1 k2 al gt
    obtain ⟨n, hn⟩ : ∃ n, q_te b T p = s + n := ⟨q_te b T p - s, by omega⟩
    rw [hn, Nat.add_sub_cancel_left]
    rw [hn] at al gt
    have a0 := al s (by omega) (by omega)
    by_cases n4 : n = 4
    · subst n4
      have a1 := al (s + 1) (by omega) (by omega)
      have a2 := al (s + 2) (by omega) (by omega)
      have a3 := al (s + 3) (by omega) (by omega)
      rw [if_pos ⟨k, by omega⟩]
      have v : (q_nf b s 4 : Int) = ((b s * 256 + b (s + 1)) * 256 + b (s + 2)) * 256 + b (s + 3) := by
        simp only [q_nf, Nat.add_zero, Nat.zero_mul, Nat.zero_add]
        omega
      rw [v]
      constructor
      · intro e
        refine ⟨k, rfl, fun i hi => ?_⟩
        have : i = 0 ∨ i = 1 ∨ i = 2 ∨ i = 3 := by omega
        rcases this with rfl | rfl | rfl | rfl
        · rw [e0, Nat.add_zero]; omega
        · rw [e1]; omega
        · rw [e2]; omega
        · rw [e3]; omega
      · rintro ⟨-, -, e⟩
        have q0 := e 0 (by omega)
        have q1 := e 1 (by omega)
        have q2 := e 2 (by omega)
        have q3 := e 3 (by omega)
        rw [e0, Nat.add_zero] at q0
        rw [e1] at q1
        rw [e2] at q2
        rw [e3] at q3
        rw [q0, q1, q2, q3]
    · refine ⟨fun e => ?_, fun e => absurd e.2.1 n4⟩
      exfalso
      by_cases n8 : n < 8
      · rw [if_pos ⟨k, n8⟩] at e
        have nf := fun m (hm : m < n) => al (s + m) (by omega) (by omega)
        have : n = 1 ∨ n = 2 ∨ n = 3 ∨ n = 5 ∨ n = 6 ∨ n = 7 := by omega
        rcases this with rfl | rfl | rfl | rfl | rfl | rfl <;> simp only [q_nf, Nat.add_zero, Nat.zero_mul, Nat.zero_add] at e
        · omega
        · have f1 := nf 1 (by omega)
          omega
        · have f1 := nf 1 (by omega)
          have f2 := nf 2 (by omega)
          omega
        · omega
        · omega
        · omega
      · rw [if_neg (fun q => n8 q.2)] at e
        omega
  · rw [if_neg (fun q => k q.1)]
    exact ⟨fun e => by omega, fun e => absurd e.1 k⟩
theorem q_nm3 {b : Nat → Int} {T p j : Nat} {c0 c1 c2 : Int} (hb : ∀ i, i < T → 0 ≤ b i ∧ b i ≤ 255) (hp : p ≤ T) (hl : z_slen.getD j 0 = 3) (e0 : z_sch j 0 = c0) (e1 : z_sch j 1 = c1) (e2 : z_sch j 2 = c2) (hc : (97 ≤ c0 ∧ c0 ≤ 122) ∧ (97 ≤ c1 ∧ c1 ≤ 122) ∧ (97 ≤ c2 ∧ c2 ≤ 122)) : q_nm b T p = (c0 * 256 + c1) * 256 + c2 ↔ q_isw b T p j = true := by
  unfold q_nm q_isw
  rw [decide_eq_true_eq, hl]
  by_cases k : q_tk b T p = 1
  · obtain ⟨k1, k2, k3⟩ := q_tk1 k
    have al : ∀ i, q_ts b T p ≤ i → i < q_te b T p → 97 ≤ b i ∧ b i ≤ 122 := fun i h1 h2 => by
      have := q_end_all (f := fun i => q_let (b i)) _ _ i h1 (by rw [← k2]; exact h2)
      unfold q_let at this
      rw [decide_eq_true_eq] at this
      exact this
    have gt : q_ts b T p < q_te b T p := (q_te_gt hp (by omega)).2.2
    generalize q_ts b T p = s at k1 k2 al gt
    obtain ⟨n, hn⟩ : ∃ n, q_te b T p = s + n := ⟨q_te b T p - s, by omega⟩
    rw [hn, Nat.add_sub_cancel_left]
    rw [hn] at al gt
    have a0 := al s (by omega) (by omega)
    by_cases n4 : n = 3
    · subst n4
      have a1 := al (s + 1) (by omega) (by omega)
      have a2 := al (s + 2) (by omega) (by omega)
      rw [if_pos ⟨k, by omega⟩]
      have v : (q_nf b s 3 : Int) = (b s * 256 + b (s + 1)) * 256 + b (s + 2) := by
        simp only [q_nf, Nat.add_zero, Nat.zero_mul, Nat.zero_add]
        omega
      rw [v]
      constructor
      · intro e
        refine ⟨k, rfl, fun i hi => ?_⟩
        have : i = 0 ∨ i = 1 ∨ i = 2 := by omega
        rcases this with rfl | rfl | rfl
        · rw [e0, Nat.add_zero]; omega
        · rw [e1]; omega
        · rw [e2]; omega
      · rintro ⟨-, -, e⟩
        have q0 := e 0 (by omega)
        have q1 := e 1 (by omega)
        have q2 := e 2 (by omega)
        rw [e0, Nat.add_zero] at q0
        rw [e1] at q1
        rw [e2] at q2
        rw [q0, q1, q2]
    · refine ⟨fun e => ?_, fun e => absurd e.2.1 n4⟩
      exfalso
      by_cases n8 : n < 8
      · rw [if_pos ⟨k, n8⟩] at e
        have nf := fun m (hm : m < n) => al (s + m) (by omega) (by omega)
        have : n = 1 ∨ n = 2 ∨ n = 4 ∨ n = 5 ∨ n = 6 ∨ n = 7 := by omega
        rcases this with rfl | rfl | rfl | rfl | rfl | rfl <;> simp only [q_nf, Nat.add_zero, Nat.zero_mul, Nat.zero_add] at e
        · omega
        · have f1 := nf 1 (by omega)
          omega
        · omega
        · omega
        · omega
        · omega
      · rw [if_neg (fun q => n8 q.2)] at e
        omega
  · rw [if_neg (fun q => k q.1)]
    exact ⟨fun e => by omega, fun e => absurd e.1 k⟩
/-! figures and numbers -/
theorem q_num_in {b : Nat → Int} {T p : Nat} (h : q_tk b T p = 2) : ∀ n : Nat, n ≤ q_te b T p - q_ts b T p → (0 ≤ q_num b (q_ts b T p) n ∧ q_num b (q_ts b T p) n ≤ 999 ∧ (n = 0 → q_num b (q_ts b T p) n ≤ 0) ∧ (n ≤ 1 → q_num b (q_ts b T p) n ≤ 9) ∧ (n ≤ 2 → q_num b (q_ts b T p) n ≤ 99))
  | 0, _ => by rw [q_num]; omega
  | n + 1, hn => by
    have i := q_num_in h n (by omega)
    have t := q_tk2 h
    have f := (t.2.2 (q_ts b T p + n) (by omega) (by omega)).1
    unfold q_fig at f
    rw [decide_eq_true_eq] at f
    rw [q_num]
    omega
def SX10_figures : zS := fun as σ Ret => match as with
  | [.inr (.inr (10, 0, _))] => ∃ b T p f, q_ms σ b T p f ∧ Ret (some (.inl (if q_tk b T p = 2 then q_num b (q_ts b T p) (q_te b T p - q_ts b T p) else 0))) σ
  | _ => False
def tX10_figures_0 (X : Nat → zB) (Ret : zR) (L : zL) (st : List zV) (σ : zM) : Prop := (z_push 0 (z_istore 1 (z_aload 0 (z_geti 10 17 (z_istore 2 (X 7)))))) L st σ
def tX10_figures_7 (X : Nat → zB) (Ret : zR) (L : zL) (st : List zV) (σ : zM) : Prop := (z_iload 2 (z_aload 0 (z_geti 10 18 (z_icge (z_iload 1 (z_iret Ret)) (z_aload 0 (z_geti 10 16 (z_push 3 (z_icne (z_iload 1 (z_iret Ret)) (z_push 10 (z_iload 1 (z_imul (z_aload 0 (z_getr 10 8 100 400 (z_iload 2 (z_ald 0 (z_iadd (z_push 48 (z_isub (z_istore 1 (z_iinc 2 1 (z_goto (X 7)))))))))))))))))))))) L st σ
theorem pX10_figures {as : List zV} {σ : zM} {Ret : zR} (h : SX10_figures as σ Ret) : ∃ (k0 : Nat), as = [.inr (.inr (10, 0, k0))] := by
  unfold SX10_figures at h
  split at h
  · exact ⟨_, rfl⟩
  · exact h.elim
set_option maxRecDepth 10000 in
set_option maxHeartbeats 4000000 in
theorem vX10_figures {X : Nat → zB} {Ret : zR} (h0 : ∀ L st σ, tX10_figures_0 X Ret L st σ → X 0 L st σ) (h7 : ∀ L st σ, tX10_figures_7 X Ret L st σ → X 7 L st σ) (k0 : Nat) (σ : zM) (hk0 : z_kd k0 = (10, 0)) (hσ : z_okm σ) (h : SX10_figures [.inr (.inr (10, 0, k0))] σ Ret) : X 0 [some (.inr (.inr (10, 0, k0))), none, none] [] σ := by
  obtain ⟨b, T, p, f, ms, h⟩ := h
  obtain rfl := z_kd10 hk0
  obtain ⟨m15, m16, m17, m18⟩ := ms.2.2.2.2.1
  have mt := (q_mt_is (q_tk_in (b := b) (T := T) (p := p))).2.2.1
  have hs := q_ts_in (b := b) ms.2.2.2.2.2.1
  have he := q_te_in (b := b) ms.2.2.2.2.2.1
  have T4 := ms.2.1
  refine h0 _ _ _ ?_
  simp only [z_push, z_lpush, z_iload, z_lload, z_aload, z_istore, z_istoreP, z_lstore, z_astore, z_iinc, z_iincP, z_iadd, z_isub, z_imul, z_iaddW, z_isubW, z_imulW, z_idiv, z_irem, z_iand, z_ior, z_ixor, z_ishl, z_ishr, z_iushr, z_ineg, z_i2l, z_i2b, z_i2s, z_i2c, z_l2i, z_ladd, z_lsub, z_land, z_lor, z_lshl, z_lshr, z_lcmp, z_dup, z_pop, z_dup2, z_goto, z_tsw, z_cases, z_geti, z_getr, z_puti, z_putz, z_ald, z_iast, z_bast, z_zast, z_alen, z_acopy, z_mmax, z_mmin, z_mabs, z_mabsL, z_iret, z_zret, z_nret, z_lret, z_aret, z_vret, z_cat, z_ldcs, z_strv, z_strc, z_gcs, z_gfm, z_sln, z_sald, z_ifeq, z_ifne, z_iflt, z_ifge, z_ifgt, z_ifle, z_iceq, z_icne, z_iclt, z_icge, z_icgt, z_icle, z_cs0, z_cs1, z_cs2, z_cs3, z_cs4, z_cs5, z_cs6, z_cs7, z_cv0, z_cv1, z_cv2, z_cv3, z_cv4, z_cv5, z_cv6, z_cv7, z_g0, z_s0, z_g1, z_s1, z_g2, z_s2, z_g3, z_s3, z_g4, z_s4, z_g5, z_s5, z_g6, z_s6, z_g7, z_s7, z_g8, z_s8, z_g9, z_s9, z_g10, z_s10, z_g11, z_s11, z_g12, z_s12, z_g13, z_s13, z_b0, z_b1, z_b0n, z_b1n, z_up_far1, z_up_far2, z_up_far3, z_up_far4, z_up_far5, z_up_far6, Classical.not_not, not_true_eq_false, z_in, z_inL, Int.cast_ofNat_Int, Nat.reduceLeDiff, List.length_cons, List.length_nil, Nat.reduceAdd, Nat.zero_add, Nat.le_refl, true_and, and_true, List.length, Nat.reduceLT, true_or, or_true, false_or, or_false, false_and, and_false, not_true_eq_false, not_false_eq_true, forall_const, false_implies, true_implies, Int.reduceEq, Int.reduceLT, Int.reduceLE, Int.reduceAdd, Int.reduceSub, Int.reduceMul, Int.reduceNeg, Int.reduceToNat, Int.toNat_natCast, ↓reduceIte, reduceIte, Nat.reduceEqDiff, Nat.reduceSub, Nat.reduceMul, ne_eq, Int.zero_add, Int.add_zero, Int.sub_zero, Nat.add_zero, Int.ofNat_eq_natCast, tX10_figures_0, m17]
  refine fun _ => ?_
  by_cases c : q_tk b T p = 2
  · rw [if_pos c] at h
    have L7 : ∀ (d i : Nat), i + d = q_te b T p - q_ts b T p → X 7 [some (.inr (.inr (10, 0, 89))), some (.inl (q_num b (q_ts b T p) i)), some (.inl ((q_ts b T p + i : Nat) : Int))] [] σ := by
      intro d
      induction d with
      | zero =>
        intro i hi
        obtain rfl : i = q_te b T p - q_ts b T p := by omega
        refine h7 _ _ _ ?_
        simp only [z_push, z_lpush, z_iload, z_lload, z_aload, z_istore, z_istoreP, z_lstore, z_astore, z_iinc, z_iincP, z_iadd, z_isub, z_imul, z_iaddW, z_isubW, z_imulW, z_idiv, z_irem, z_iand, z_ior, z_ixor, z_ishl, z_ishr, z_iushr, z_ineg, z_i2l, z_i2b, z_i2s, z_i2c, z_l2i, z_ladd, z_lsub, z_land, z_lor, z_lshl, z_lshr, z_lcmp, z_dup, z_pop, z_dup2, z_goto, z_tsw, z_cases, z_geti, z_getr, z_puti, z_putz, z_ald, z_iast, z_bast, z_zast, z_alen, z_acopy, z_mmax, z_mmin, z_mabs, z_mabsL, z_iret, z_zret, z_nret, z_lret, z_aret, z_vret, z_cat, z_ldcs, z_strv, z_strc, z_gcs, z_gfm, z_sln, z_sald, z_ifeq, z_ifne, z_iflt, z_ifge, z_ifgt, z_ifle, z_iceq, z_icne, z_iclt, z_icge, z_icgt, z_icle, z_cs0, z_cs1, z_cs2, z_cs3, z_cs4, z_cs5, z_cs6, z_cs7, z_cv0, z_cv1, z_cv2, z_cv3, z_cv4, z_cv5, z_cv6, z_cv7, z_g0, z_s0, z_g1, z_s1, z_g2, z_s2, z_g3, z_s3, z_g4, z_s4, z_g5, z_s5, z_g6, z_s6, z_g7, z_s7, z_g8, z_s8, z_g9, z_s9, z_g10, z_s10, z_g11, z_s11, z_g12, z_s12, z_g13, z_s13, z_b0, z_b1, z_b0n, z_b1n, z_up_far1, z_up_far2, z_up_far3, z_up_far4, z_up_far5, z_up_far6, Classical.not_not, not_true_eq_false, z_in, z_inL, Int.cast_ofNat_Int, Nat.reduceLeDiff, List.length_cons, List.length_nil, Nat.reduceAdd, Nat.zero_add, Nat.le_refl, true_and, and_true, List.length, Nat.reduceLT, true_or, or_true, false_or, or_false, false_and, and_false, not_true_eq_false, not_false_eq_true, forall_const, false_implies, true_implies, Int.reduceEq, Int.reduceLT, Int.reduceLE, Int.reduceAdd, Int.reduceSub, Int.reduceMul, Int.reduceNeg, Int.reduceToNat, Int.toNat_natCast, ↓reduceIte, reduceIte, Nat.reduceEqDiff, Nat.reduceSub, Nat.reduceMul, ne_eq, Int.zero_add, Int.add_zero, Int.sub_zero, Nat.add_zero, Int.ofNat_eq_natCast, tX10_figures_7, m18]
        repeat' (first | (intro _) | (with_reducible assumption) | (refine And.intro ?_ ?_))
        all_goals first | omega | assumption | (refine z_fin h ?_ rfl; first | rfl | omega | (split <;> omega) | (split <;> split <;> omega)) | skip
      | succ d ih =>
        intro i hi
        have nx := ih (i + 1) (by omega)
        have bb := ms.b255 (j := q_ts b T p + i) (by omega)
        have q := q_num_in c i (by omega)
        have q2 := q_num_in c (i + 1) (by omega)
        have t := q_tk2 c
        rw [q_num] at nx q2
        rw [bb.1] at nx q2
        have k1 : q_mt (q_tk b T p) = 3 := mt.mpr c
        refine h7 _ _ _ ?_
        simp only [z_push, z_lpush, z_iload, z_lload, z_aload, z_istore, z_istoreP, z_lstore, z_astore, z_iinc, z_iincP, z_iadd, z_isub, z_imul, z_iaddW, z_isubW, z_imulW, z_idiv, z_irem, z_iand, z_ior, z_ixor, z_ishl, z_ishr, z_iushr, z_ineg, z_i2l, z_i2b, z_i2s, z_i2c, z_l2i, z_ladd, z_lsub, z_land, z_lor, z_lshl, z_lshr, z_lcmp, z_dup, z_pop, z_dup2, z_goto, z_tsw, z_cases, z_geti, z_getr, z_puti, z_putz, z_ald, z_iast, z_bast, z_zast, z_alen, z_acopy, z_mmax, z_mmin, z_mabs, z_mabsL, z_iret, z_zret, z_nret, z_lret, z_aret, z_vret, z_cat, z_ldcs, z_strv, z_strc, z_gcs, z_gfm, z_sln, z_sald, z_ifeq, z_ifne, z_iflt, z_ifge, z_ifgt, z_ifle, z_iceq, z_icne, z_iclt, z_icge, z_icgt, z_icle, z_cs0, z_cs1, z_cs2, z_cs3, z_cs4, z_cs5, z_cs6, z_cs7, z_cv0, z_cv1, z_cv2, z_cv3, z_cv4, z_cv5, z_cv6, z_cv7, z_g0, z_s0, z_g1, z_s1, z_g2, z_s2, z_g3, z_s3, z_g4, z_s4, z_g5, z_s5, z_g6, z_s6, z_g7, z_s7, z_g8, z_s8, z_g9, z_s9, z_g10, z_s10, z_g11, z_s11, z_g12, z_s12, z_g13, z_s13, z_b0, z_b1, z_b0n, z_b1n, z_up_far1, z_up_far2, z_up_far3, z_up_far4, z_up_far5, z_up_far6, Classical.not_not, not_true_eq_false, z_in, z_inL, Int.cast_ofNat_Int, Nat.reduceLeDiff, List.length_cons, List.length_nil, Nat.reduceAdd, Nat.zero_add, Nat.le_refl, true_and, and_true, List.length, Nat.reduceLT, true_or, or_true, false_or, or_false, false_and, and_false, not_true_eq_false, not_false_eq_true, forall_const, false_implies, true_implies, Int.reduceEq, Int.reduceLT, Int.reduceLE, Int.reduceAdd, Int.reduceSub, Int.reduceMul, Int.reduceNeg, Int.reduceToNat, Int.toNat_natCast, ↓reduceIte, reduceIte, Nat.reduceEqDiff, Nat.reduceSub, Nat.reduceMul, ne_eq, Int.zero_add, Int.add_zero, Int.sub_zero, Nat.add_zero, Int.ofNat_eq_natCast, tX10_figures_7, m16, m18, k1]
        repeat' (first | (intro _) | (with_reducible assumption) | (refine And.intro ?_ ?_))
        all_goals first | omega | assumption | (refine z_fin nx ?_ rfl; first | rfl | omega | (split <;> omega) | (split <;> split <;> omega)) | skip
    exact L7 (q_te b T p - q_ts b T p) 0 (by omega)
  · rw [if_neg c] at h
    have k1 : ¬ q_mt (q_tk b T p) = 3 := fun q => c (mt.mp q)
    refine h7 _ _ _ ?_
    simp only [z_push, z_lpush, z_iload, z_lload, z_aload, z_istore, z_istoreP, z_lstore, z_astore, z_iinc, z_iincP, z_iadd, z_isub, z_imul, z_iaddW, z_isubW, z_imulW, z_idiv, z_irem, z_iand, z_ior, z_ixor, z_ishl, z_ishr, z_iushr, z_ineg, z_i2l, z_i2b, z_i2s, z_i2c, z_l2i, z_ladd, z_lsub, z_land, z_lor, z_lshl, z_lshr, z_lcmp, z_dup, z_pop, z_dup2, z_goto, z_tsw, z_cases, z_geti, z_getr, z_puti, z_putz, z_ald, z_iast, z_bast, z_zast, z_alen, z_acopy, z_mmax, z_mmin, z_mabs, z_mabsL, z_iret, z_zret, z_nret, z_lret, z_aret, z_vret, z_cat, z_ldcs, z_strv, z_strc, z_gcs, z_gfm, z_sln, z_sald, z_ifeq, z_ifne, z_iflt, z_ifge, z_ifgt, z_ifle, z_iceq, z_icne, z_iclt, z_icge, z_icgt, z_icle, z_cs0, z_cs1, z_cs2, z_cs3, z_cs4, z_cs5, z_cs6, z_cs7, z_cv0, z_cv1, z_cv2, z_cv3, z_cv4, z_cv5, z_cv6, z_cv7, z_g0, z_s0, z_g1, z_s1, z_g2, z_s2, z_g3, z_s3, z_g4, z_s4, z_g5, z_s5, z_g6, z_s6, z_g7, z_s7, z_g8, z_s8, z_g9, z_s9, z_g10, z_s10, z_g11, z_s11, z_g12, z_s12, z_g13, z_s13, z_b0, z_b1, z_b0n, z_b1n, z_up_far1, z_up_far2, z_up_far3, z_up_far4, z_up_far5, z_up_far6, Classical.not_not, not_true_eq_false, z_in, z_inL, Int.cast_ofNat_Int, Nat.reduceLeDiff, List.length_cons, List.length_nil, Nat.reduceAdd, Nat.zero_add, Nat.le_refl, true_and, and_true, List.length, Nat.reduceLT, true_or, or_true, false_or, or_false, false_and, and_false, not_true_eq_false, not_false_eq_true, forall_const, false_implies, true_implies, Int.reduceEq, Int.reduceLT, Int.reduceLE, Int.reduceAdd, Int.reduceSub, Int.reduceMul, Int.reduceNeg, Int.reduceToNat, Int.toNat_natCast, ↓reduceIte, reduceIte, Nat.reduceEqDiff, Nat.reduceSub, Nat.reduceMul, ne_eq, Int.zero_add, Int.add_zero, Int.sub_zero, Nat.add_zero, Int.ofNat_eq_natCast, tX10_figures_7, m16, m18]
    repeat' (first | (intro _) | (with_reducible assumption) | (refine And.intro ?_ ?_))
    all_goals first | omega | assumption | (refine z_fin h ?_ rfl; first | rfl | omega | (split <;> omega) | (split <;> split <;> omega)) | skip
    all_goals contradiction
theorem dX10_figures_0 : decode cX10_figures 0 = .ok (.iconst 0, 1) := by decide +kernel
theorem dX10_figures_1 : decode cX10_figures 1 = .ok (.istore_n 1, 1) := by decide +kernel
theorem dX10_figures_2 : decode cX10_figures 2 = .ok (.aload_n 0, 1) := by decide +kernel
theorem dX10_figures_3 : decode cX10_figures 3 = .ok (.getfield 108, 3) := by decide +kernel
theorem dX10_figures_6 : decode cX10_figures 6 = .ok (.istore_n 2, 1) := by decide +kernel
theorem dX10_figures_7 : decode cX10_figures 7 = .ok (.iload_n 2, 1) := by decide +kernel
theorem dX10_figures_8 : decode cX10_figures 8 = .ok (.aload_n 0, 1) := by decide +kernel
theorem dX10_figures_9 : decode cX10_figures 9 = .ok (.getfield 120, 3) := by decide +kernel
theorem dX10_figures_12 : decode cX10_figures 12 = .ok (.if_icmp .ge 32, 3) := by decide +kernel
theorem dX10_figures_15 : decode cX10_figures 15 = .ok (.aload_n 0, 1) := by decide +kernel
theorem dX10_figures_16 : decode cX10_figures 16 = .ok (.getfield 111, 3) := by decide +kernel
theorem dX10_figures_19 : decode cX10_figures 19 = .ok (.iconst 3, 1) := by decide +kernel
theorem dX10_figures_20 : decode cX10_figures 20 = .ok (.if_icmp .ne 24, 3) := by decide +kernel
theorem dX10_figures_23 : decode cX10_figures 23 = .ok (.bipush 10, 2) := by decide +kernel
theorem dX10_figures_25 : decode cX10_figures 25 = .ok (.iload_n 1, 1) := by decide +kernel
theorem dX10_figures_26 : decode cX10_figures 26 = .ok (.imul, 1) := by decide +kernel
theorem dX10_figures_27 : decode cX10_figures 27 = .ok (.aload_n 0, 1) := by decide +kernel
theorem dX10_figures_28 : decode cX10_figures 28 = .ok (.getfield 31, 3) := by decide +kernel
theorem dX10_figures_31 : decode cX10_figures 31 = .ok (.iload_n 2, 1) := by decide +kernel
theorem dX10_figures_32 : decode cX10_figures 32 = .ok (.iaload, 1) := by decide +kernel
theorem dX10_figures_33 : decode cX10_figures 33 = .ok (.iadd, 1) := by decide +kernel
theorem dX10_figures_34 : decode cX10_figures 34 = .ok (.bipush 48, 2) := by decide +kernel
theorem dX10_figures_36 : decode cX10_figures 36 = .ok (.isub, 1) := by decide +kernel
theorem dX10_figures_37 : decode cX10_figures 37 = .ok (.istore_n 1, 1) := by decide +kernel
theorem dX10_figures_38 : decode cX10_figures 38 = .ok (.iinc 2 1, 3) := by decide +kernel
theorem dX10_figures_41 : decode cX10_figures 41 = .ok (.goto (-34), 3) := by decide +kernel
theorem dX10_figures_44 : decode cX10_figures 44 = .ok (.iload_n 1, 1) := by decide +kernel
theorem dX10_figures_45 : decode cX10_figures 45 = .ok (.ireturn, 1) := by decide +kernel
set_option maxRecDepth 100000 in
theorem rX10_figures_0 {p : Program} {l : Launch} {e : Env} {s : State} {m : MethodId} {args : Array Value} {below : List Frame} {meth : Method} {c : Code} {D : va_G} {cA : Nat → ClassId} {ad : Nat → Nat} {Ret : zR} (C : z_Cx p { frames := 0, cells := 0, slots := 0, locals := 0 } s m args c cX10_figures yX10_figures.cls 3 D cA ad) (hr : meth.sig.returnType = (some .int)) (hlocks : meth.locks = false) : ∀ L st σ, tX10_figures_0 (z_X p l e { frames := 0, cells := 0, slots := 0, locals := 0 } s m args below meth c (MQ below (z_Qc D cA ad Ret) args s 0 0 (z_A ad)) 3 D cA ad true) Ret L st σ → z_X p l e { frames := 0, cells := 0, slots := 0, locals := 0 } s m args below meth c (MQ below (z_Qc D cA ad Ret) args s 0 0 (z_A ad)) 3 D cA ad true 0 L st σ := (s_iconst C dX10_figures_0 rfl ⟨by decide, by decide⟩ (s_istore_n C dX10_figures_1 (by decide) rfl rfl (s_aload_n C dX10_figures_2 rfl (s_geti C dX10_figures_3 cls_X10 (by decide) rfl wd_985 (s_istore_n C dX10_figures_6 (by decide) rfl rfl (fun _ _ _ h => h))))))
set_option maxRecDepth 100000 in
theorem rX10_figures_7 {p : Program} {l : Launch} {e : Env} {s : State} {m : MethodId} {args : Array Value} {below : List Frame} {meth : Method} {c : Code} {D : va_G} {cA : Nat → ClassId} {ad : Nat → Nat} {Ret : zR} (C : z_Cx p { frames := 0, cells := 0, slots := 0, locals := 0 } s m args c cX10_figures yX10_figures.cls 3 D cA ad) (hr : meth.sig.returnType = (some .int)) (hlocks : meth.locks = false) : ∀ L st σ, tX10_figures_7 (z_X p l e { frames := 0, cells := 0, slots := 0, locals := 0 } s m args below meth c (MQ below (z_Qc D cA ad Ret) args s 0 0 (z_A ad)) 3 D cA ad true) Ret L st σ → z_X p l e { frames := 0, cells := 0, slots := 0, locals := 0 } s m args below meth c (MQ below (z_Qc D cA ad Ret) args s 0 0 (z_A ad)) 3 D cA ad true 7 L st σ := (s_iload_n C dX10_figures_7 rfl (s_aload_n C dX10_figures_8 rfl (s_geti C dX10_figures_9 cls_X10 (by decide) rfl wd_986 (s_icge C dX10_figures_12 (by decide) (s_iload_n C dX10_figures_44 rfl (s_iret C dX10_figures_45 hr hlocks)) (s_aload_n C dX10_figures_15 rfl (s_geti C dX10_figures_16 cls_X10 (by decide) rfl wd_984 (s_iconst C dX10_figures_19 rfl ⟨by decide, by decide⟩ (s_icne C dX10_figures_20 (by decide) (s_iload_n C dX10_figures_44 rfl (s_iret C dX10_figures_45 hr hlocks)) (s_bipush C dX10_figures_23 rfl ⟨by decide, by decide⟩ (s_iload_n C dX10_figures_25 rfl (s_imul C dX10_figures_26 (s_aload_n C dX10_figures_27 rfl (s_getr C dX10_figures_28 (j := 11) cls_X10 (by decide) rfl (by decide) (by decide) (by decide +kernel) wd_979 (s_iload_n C dX10_figures_31 rfl (s_iald C dX10_figures_32 (s_iadd C dX10_figures_33 (s_bipush C dX10_figures_34 rfl ⟨by decide, by decide⟩ (s_isub C dX10_figures_36 (s_istore_n C dX10_figures_37 (by decide) rfl rfl (s_iinc C dX10_figures_38 (by decide) rfl (s_goto C dX10_figures_41 (by decide) (fun _ _ _ h => h))))))))))))))))))))))
theorem okX10_figures (l : Launch) : z_OK l yX10_figures cX10_figures 3 (some .int) 0 0 SX10_figures := by
  refine z_ok_of true (by decide +kernel) ?_ ?_
  · intro as σ Ret h
    obtain ⟨k0, rfl⟩ := pX10_figures h
    exact ⟨Nat.le_of_ble_eq_true rfl, by simp⟩
  · intro p e s m args below meth c D cA ad Ret C hr hlocks as σ has hσ h
    obtain ⟨k0, rfl⟩ := pX10_figures h
    exact vX10_figures (rX10_figures_0 C hr hlocks) (rX10_figures_7 C hr hlocks) k0 σ (has _ (List.mem_of_getElem? (i := 0) rfl)) hσ h
def SX10_number : zS := fun as σ Ret => match as with
  | [.inr (.inr (10, 0, _)), .inl lo, .inl hi] => ∃ b T p f, q_ms σ b T p f ∧ ∀ (σ' : zM) (v : Int), q_fx σ σ' → q_ms σ' b T (q_pn b T p f lo hi).2.1 (q_pn b T p f lo hi).2.2 → ((q_pn b T p f lo hi).2.2 = 0 → v = (q_pn b T p f lo hi).1) → Ret (some (.inl v)) σ'
  | _ => False
def tX10_number_0 (X : Nat → zB) (Ret : zR) (L : zL) (st : List zV) (σ : zM) : Prop := (z_aload 0 (z_geti 10 19 (z_ifle (z_aload 0 (z_cv0 10 SX10_figures (z_istore 3 (z_aload 0 (z_geti 10 16 (z_push 3 (z_icne (X 39) (z_iload 3 (z_i2l (z_iload 1 (z_i2l (z_iload 2 (z_i2l (z_cs3 SX10_in (z_ifne (X 39) (z_aload 0 (z_push 2 (z_cv1 10 SX10_bad (X 39))))))))))))))))))) (z_push 0 (z_iret Ret))))) L st σ
def tX10_number_39 (X : Nat → zB) (Ret : zR) (L : zL) (st : List zV) (σ : zM) : Prop := (z_aload 0 (z_aload 0 (z_geti 10 16 (z_push 3 (z_icne (z_push 0 (z_cv1 10 SX10_must (z_iload 3 (z_iret Ret)))) (z_push 1 (z_goto (z_cv1 10 SX10_must (z_iload 3 (z_iret Ret)))))))))) L st σ
theorem pX10_number {as : List zV} {σ : zM} {Ret : zR} (h : SX10_number as σ Ret) : ∃ (k0 : Nat) (x1 : Int) (x2 : Int), as = [.inr (.inr (10, 0, k0)), .inl x1, .inl x2] := by
  unfold SX10_number at h
  split at h
  · exact ⟨_, _, _, rfl⟩
  · exact h.elim
set_option maxRecDepth 10000 in
set_option maxHeartbeats 4000000 in
theorem vX10_number {X : Nat → zB} {Ret : zR} (h0 : ∀ L st σ, tX10_number_0 X Ret L st σ → X 0 L st σ) (h39 : ∀ L st σ, tX10_number_39 X Ret L st σ → X 39 L st σ) (k0 : Nat) (x1 : Int) (x2 : Int) (σ : zM) (hk0 : z_kd k0 = (10, 0)) (hx1 : -2147483648 ≤ x1 ∧ x1 ≤ 2147483647) (hx2 : -2147483648 ≤ x2 ∧ x2 ≤ 2147483647) (hσ : z_okm σ) (h : SX10_number [.inr (.inr (10, 0, k0)), .inl x1, .inl x2] σ Ret) : X 0 [some (.inr (.inr (10, 0, k0))), some (.inl x1), some (.inl x2), none] [] σ := by
  obtain ⟨b, T, p, f, ms, h⟩ := h
  obtain rfl := z_kd10 hk0
  have m19 := ms.2.2.2.2.2.2.1
  have fr := ms.2.2.2.2.2.2.2.1
  obtain ⟨m15, m16, m17, m18⟩ := ms.2.2.2.2.1
  have mt := (q_mt_is (q_tk_in (b := b) (T := T) (p := p))).2.2.1
  by_cases c : f = 0
  · subst c
    by_cases k : q_tk b T p = 2
    · have k1 : q_mt (q_tk b T p) = 3 := mt.mpr k
      by_cases g : q_num b (q_ts b T p) (q_te b T p - q_ts b T p) < x1 ∨ x2 < q_num b (q_ts b T p) (q_te b T p - q_ts b T p)
      · have e : q_pn b T p 0 x1 x2 = (x1, p, 2) := by unfold q_pn; rw [if_neg (by omega), if_neg (by omega), if_pos g]
        rw [e] at h
        have mb := ms.bad (τ' := z_up (z_up σ 89 19 2) 89 20 (σ 89 17)) (n := 2) (by omega) (fun c j hc => by rw [z_up_ne (by omega), z_up_ne (by omega)]) (by rw [z_up_ne (by omega), z_up_eq]) z_up_eq
        have fb : q_fx σ (z_up (z_up σ 89 19 2) 89 20 (σ 89 17)) := fun c j hc => by rw [z_up_ne (by omega), z_up_ne (by omega)]
        have e16 : z_up (z_up σ 89 19 2) 89 20 (σ 89 17) 89 16 = 3 := by rw [z_up_ne (by omega), z_up_ne (by omega), m16, k1]
        have L39 : X 39 [some (.inr (.inr (10, 0, 89))), some (.inl x1), some (.inl x2), some (.inl (q_num b (q_ts b T p) (q_te b T p - q_ts b T p)))] [] (z_up (z_up σ 89 19 2) 89 20 (σ 89 17)) := by
          refine h39 _ _ _ ?_
          simp only [z_push, z_lpush, z_iload, z_lload, z_aload, z_istore, z_istoreP, z_lstore, z_astore, z_iinc, z_iincP, z_iadd, z_isub, z_imul, z_iaddW, z_isubW, z_imulW, z_idiv, z_irem, z_iand, z_ior, z_ixor, z_ishl, z_ishr, z_iushr, z_ineg, z_i2l, z_i2b, z_i2s, z_i2c, z_l2i, z_ladd, z_lsub, z_land, z_lor, z_lshl, z_lshr, z_lcmp, z_dup, z_pop, z_dup2, z_goto, z_tsw, z_cases, z_geti, z_getr, z_puti, z_putz, z_ald, z_iast, z_bast, z_zast, z_alen, z_acopy, z_mmax, z_mmin, z_mabs, z_mabsL, z_iret, z_zret, z_nret, z_lret, z_aret, z_vret, z_cat, z_ldcs, z_strv, z_strc, z_gcs, z_gfm, z_sln, z_sald, z_ifeq, z_ifne, z_iflt, z_ifge, z_ifgt, z_ifle, z_iceq, z_icne, z_iclt, z_icge, z_icgt, z_icle, z_cs0, z_cs1, z_cs2, z_cs3, z_cs4, z_cs5, z_cs6, z_cs7, z_cv0, z_cv1, z_cv2, z_cv3, z_cv4, z_cv5, z_cv6, z_cv7, z_g0, z_s0, z_g1, z_s1, z_g2, z_s2, z_g3, z_s3, z_g4, z_s4, z_g5, z_s5, z_g6, z_s6, z_g7, z_s7, z_g8, z_s8, z_g9, z_s9, z_g10, z_s10, z_g11, z_s11, z_g12, z_s12, z_g13, z_s13, z_b0, z_b1, z_b0n, z_b1n, z_up_far1, z_up_far2, z_up_far3, z_up_far4, z_up_far5, z_up_far6, Classical.not_not, not_true_eq_false, z_in, z_inL, Int.cast_ofNat_Int, Nat.reduceLeDiff, List.length_cons, List.length_nil, Nat.reduceAdd, Nat.zero_add, Nat.le_refl, true_and, and_true, List.length, Nat.reduceLT, true_or, or_true, false_or, or_false, false_and, and_false, not_true_eq_false, not_false_eq_true, forall_const, false_implies, true_implies, Int.reduceEq, Int.reduceLT, Int.reduceLE, Int.reduceAdd, Int.reduceSub, Int.reduceMul, Int.reduceNeg, Int.reduceToNat, Int.toNat_natCast, ↓reduceIte, reduceIte, Nat.reduceEqDiff, Nat.reduceSub, Nat.reduceMul, ne_eq, Int.zero_add, Int.add_zero, Int.sub_zero, Nat.add_zero, Int.ofNat_eq_natCast, tX10_number_39, SX10_must, e16]
          exact ⟨b, T, p, 2, mb, fun σ1 f1 g1 => h σ1 _ (fb.tr f1) g1 (fun q => by have q : (2 : Int) = 0 := q; omega)⟩
        refine h0 _ _ _ ?_
        simp only [z_push, z_lpush, z_iload, z_lload, z_aload, z_istore, z_istoreP, z_lstore, z_astore, z_iinc, z_iincP, z_iadd, z_isub, z_imul, z_iaddW, z_isubW, z_imulW, z_idiv, z_irem, z_iand, z_ior, z_ixor, z_ishl, z_ishr, z_iushr, z_ineg, z_i2l, z_i2b, z_i2s, z_i2c, z_l2i, z_ladd, z_lsub, z_land, z_lor, z_lshl, z_lshr, z_lcmp, z_dup, z_pop, z_dup2, z_goto, z_tsw, z_cases, z_geti, z_getr, z_puti, z_putz, z_ald, z_iast, z_bast, z_zast, z_alen, z_acopy, z_mmax, z_mmin, z_mabs, z_mabsL, z_iret, z_zret, z_nret, z_lret, z_aret, z_vret, z_cat, z_ldcs, z_strv, z_strc, z_gcs, z_gfm, z_sln, z_sald, z_ifeq, z_ifne, z_iflt, z_ifge, z_ifgt, z_ifle, z_iceq, z_icne, z_iclt, z_icge, z_icgt, z_icle, z_cs0, z_cs1, z_cs2, z_cs3, z_cs4, z_cs5, z_cs6, z_cs7, z_cv0, z_cv1, z_cv2, z_cv3, z_cv4, z_cv5, z_cv6, z_cv7, z_g0, z_s0, z_g1, z_s1, z_g2, z_s2, z_g3, z_s3, z_g4, z_s4, z_g5, z_s5, z_g6, z_s6, z_g7, z_s7, z_g8, z_s8, z_g9, z_s9, z_g10, z_s10, z_g11, z_s11, z_g12, z_s12, z_g13, z_s13, z_b0, z_b1, z_b0n, z_b1n, z_up_far1, z_up_far2, z_up_far3, z_up_far4, z_up_far5, z_up_far6, Classical.not_not, not_true_eq_false, z_in, z_inL, Int.cast_ofNat_Int, Nat.reduceLeDiff, List.length_cons, List.length_nil, Nat.reduceAdd, Nat.zero_add, Nat.le_refl, true_and, and_true, List.length, Nat.reduceLT, true_or, or_true, false_or, or_false, false_and, and_false, not_true_eq_false, not_false_eq_true, forall_const, false_implies, true_implies, Int.reduceEq, Int.reduceLT, Int.reduceLE, Int.reduceAdd, Int.reduceSub, Int.reduceMul, Int.reduceNeg, Int.reduceToNat, Int.toNat_natCast, ↓reduceIte, reduceIte, Nat.reduceEqDiff, Nat.reduceSub, Nat.reduceMul, ne_eq, Int.zero_add, Int.add_zero, Int.sub_zero, Nat.add_zero, Int.ofNat_eq_natCast, tX10_number_0, SX10_figures, SX10_in, SX10_bad, m19, m16, k1]
        refine ⟨b, T, p, 0, ms, ?_⟩
        rw [if_pos k]
        exact ⟨fun q => by omega, fun _ => L39⟩
      · have e : q_pn b T p 0 x1 x2 = (q_num b (q_ts b T p) (q_te b T p - q_ts b T p), q_te b T p, 0) := by unfold q_pn; rw [if_neg (by omega), if_neg (by omega), if_neg g]
        rw [e] at h
        have L39 : X 39 [some (.inr (.inr (10, 0, 89))), some (.inl x1), some (.inl x2), some (.inl (q_num b (q_ts b T p) (q_te b T p - q_ts b T p)))] [] σ := by
          refine h39 _ _ _ ?_
          simp only [z_push, z_lpush, z_iload, z_lload, z_aload, z_istore, z_istoreP, z_lstore, z_astore, z_iinc, z_iincP, z_iadd, z_isub, z_imul, z_iaddW, z_isubW, z_imulW, z_idiv, z_irem, z_iand, z_ior, z_ixor, z_ishl, z_ishr, z_iushr, z_ineg, z_i2l, z_i2b, z_i2s, z_i2c, z_l2i, z_ladd, z_lsub, z_land, z_lor, z_lshl, z_lshr, z_lcmp, z_dup, z_pop, z_dup2, z_goto, z_tsw, z_cases, z_geti, z_getr, z_puti, z_putz, z_ald, z_iast, z_bast, z_zast, z_alen, z_acopy, z_mmax, z_mmin, z_mabs, z_mabsL, z_iret, z_zret, z_nret, z_lret, z_aret, z_vret, z_cat, z_ldcs, z_strv, z_strc, z_gcs, z_gfm, z_sln, z_sald, z_ifeq, z_ifne, z_iflt, z_ifge, z_ifgt, z_ifle, z_iceq, z_icne, z_iclt, z_icge, z_icgt, z_icle, z_cs0, z_cs1, z_cs2, z_cs3, z_cs4, z_cs5, z_cs6, z_cs7, z_cv0, z_cv1, z_cv2, z_cv3, z_cv4, z_cv5, z_cv6, z_cv7, z_g0, z_s0, z_g1, z_s1, z_g2, z_s2, z_g3, z_s3, z_g4, z_s4, z_g5, z_s5, z_g6, z_s6, z_g7, z_s7, z_g8, z_s8, z_g9, z_s9, z_g10, z_s10, z_g11, z_s11, z_g12, z_s12, z_g13, z_s13, z_b0, z_b1, z_b0n, z_b1n, z_up_far1, z_up_far2, z_up_far3, z_up_far4, z_up_far5, z_up_far6, Classical.not_not, not_true_eq_false, z_in, z_inL, Int.cast_ofNat_Int, Nat.reduceLeDiff, List.length_cons, List.length_nil, Nat.reduceAdd, Nat.zero_add, Nat.le_refl, true_and, and_true, List.length, Nat.reduceLT, true_or, or_true, false_or, or_false, false_and, and_false, not_true_eq_false, not_false_eq_true, forall_const, false_implies, true_implies, Int.reduceEq, Int.reduceLT, Int.reduceLE, Int.reduceAdd, Int.reduceSub, Int.reduceMul, Int.reduceNeg, Int.reduceToNat, Int.toNat_natCast, ↓reduceIte, reduceIte, Nat.reduceEqDiff, Nat.reduceSub, Nat.reduceMul, ne_eq, Int.zero_add, Int.add_zero, Int.sub_zero, Nat.add_zero, Int.ofNat_eq_natCast, tX10_number_39, SX10_must, m16, k1]
          exact ⟨b, T, p, 0, ms, fun σ1 f1 g1 => h σ1 _ f1 g1 (fun _ => rfl)⟩
        refine h0 _ _ _ ?_
        simp only [z_push, z_lpush, z_iload, z_lload, z_aload, z_istore, z_istoreP, z_lstore, z_astore, z_iinc, z_iincP, z_iadd, z_isub, z_imul, z_iaddW, z_isubW, z_imulW, z_idiv, z_irem, z_iand, z_ior, z_ixor, z_ishl, z_ishr, z_iushr, z_ineg, z_i2l, z_i2b, z_i2s, z_i2c, z_l2i, z_ladd, z_lsub, z_land, z_lor, z_lshl, z_lshr, z_lcmp, z_dup, z_pop, z_dup2, z_goto, z_tsw, z_cases, z_geti, z_getr, z_puti, z_putz, z_ald, z_iast, z_bast, z_zast, z_alen, z_acopy, z_mmax, z_mmin, z_mabs, z_mabsL, z_iret, z_zret, z_nret, z_lret, z_aret, z_vret, z_cat, z_ldcs, z_strv, z_strc, z_gcs, z_gfm, z_sln, z_sald, z_ifeq, z_ifne, z_iflt, z_ifge, z_ifgt, z_ifle, z_iceq, z_icne, z_iclt, z_icge, z_icgt, z_icle, z_cs0, z_cs1, z_cs2, z_cs3, z_cs4, z_cs5, z_cs6, z_cs7, z_cv0, z_cv1, z_cv2, z_cv3, z_cv4, z_cv5, z_cv6, z_cv7, z_g0, z_s0, z_g1, z_s1, z_g2, z_s2, z_g3, z_s3, z_g4, z_s4, z_g5, z_s5, z_g6, z_s6, z_g7, z_s7, z_g8, z_s8, z_g9, z_s9, z_g10, z_s10, z_g11, z_s11, z_g12, z_s12, z_g13, z_s13, z_b0, z_b1, z_b0n, z_b1n, z_up_far1, z_up_far2, z_up_far3, z_up_far4, z_up_far5, z_up_far6, Classical.not_not, not_true_eq_false, z_in, z_inL, Int.cast_ofNat_Int, Nat.reduceLeDiff, List.length_cons, List.length_nil, Nat.reduceAdd, Nat.zero_add, Nat.le_refl, true_and, and_true, List.length, Nat.reduceLT, true_or, or_true, false_or, or_false, false_and, and_false, not_true_eq_false, not_false_eq_true, forall_const, false_implies, true_implies, Int.reduceEq, Int.reduceLT, Int.reduceLE, Int.reduceAdd, Int.reduceSub, Int.reduceMul, Int.reduceNeg, Int.reduceToNat, Int.toNat_natCast, ↓reduceIte, reduceIte, Nat.reduceEqDiff, Nat.reduceSub, Nat.reduceMul, ne_eq, Int.zero_add, Int.add_zero, Int.sub_zero, Nat.add_zero, Int.ofNat_eq_natCast, tX10_number_0, SX10_figures, SX10_in, SX10_bad, m19, m16, k1]
        refine ⟨b, T, p, 0, ms, ?_⟩
        rw [if_pos k]
        exact ⟨fun _ => L39, fun q => by omega⟩
    · have k1 : ¬ q_mt (q_tk b T p) = 3 := fun q => k (mt.mp q)
      have e : q_pn b T p 0 x1 x2 = (x1, p, 1) := by unfold q_pn; rw [if_neg (by omega), if_pos k]
      rw [e] at h
      have L39 : X 39 [some (.inr (.inr (10, 0, 89))), some (.inl x1), some (.inl x2), some (.inl 0)] [] σ := by
        refine h39 _ _ _ ?_
        simp only [z_push, z_lpush, z_iload, z_lload, z_aload, z_istore, z_istoreP, z_lstore, z_astore, z_iinc, z_iincP, z_iadd, z_isub, z_imul, z_iaddW, z_isubW, z_imulW, z_idiv, z_irem, z_iand, z_ior, z_ixor, z_ishl, z_ishr, z_iushr, z_ineg, z_i2l, z_i2b, z_i2s, z_i2c, z_l2i, z_ladd, z_lsub, z_land, z_lor, z_lshl, z_lshr, z_lcmp, z_dup, z_pop, z_dup2, z_goto, z_tsw, z_cases, z_geti, z_getr, z_puti, z_putz, z_ald, z_iast, z_bast, z_zast, z_alen, z_acopy, z_mmax, z_mmin, z_mabs, z_mabsL, z_iret, z_zret, z_nret, z_lret, z_aret, z_vret, z_cat, z_ldcs, z_strv, z_strc, z_gcs, z_gfm, z_sln, z_sald, z_ifeq, z_ifne, z_iflt, z_ifge, z_ifgt, z_ifle, z_iceq, z_icne, z_iclt, z_icge, z_icgt, z_icle, z_cs0, z_cs1, z_cs2, z_cs3, z_cs4, z_cs5, z_cs6, z_cs7, z_cv0, z_cv1, z_cv2, z_cv3, z_cv4, z_cv5, z_cv6, z_cv7, z_g0, z_s0, z_g1, z_s1, z_g2, z_s2, z_g3, z_s3, z_g4, z_s4, z_g5, z_s5, z_g6, z_s6, z_g7, z_s7, z_g8, z_s8, z_g9, z_s9, z_g10, z_s10, z_g11, z_s11, z_g12, z_s12, z_g13, z_s13, z_b0, z_b1, z_b0n, z_b1n, z_up_far1, z_up_far2, z_up_far3, z_up_far4, z_up_far5, z_up_far6, Classical.not_not, not_true_eq_false, z_in, z_inL, Int.cast_ofNat_Int, Nat.reduceLeDiff, List.length_cons, List.length_nil, Nat.reduceAdd, Nat.zero_add, Nat.le_refl, true_and, and_true, List.length, Nat.reduceLT, true_or, or_true, false_or, or_false, false_and, and_false, not_true_eq_false, not_false_eq_true, forall_const, false_implies, true_implies, Int.reduceEq, Int.reduceLT, Int.reduceLE, Int.reduceAdd, Int.reduceSub, Int.reduceMul, Int.reduceNeg, Int.reduceToNat, Int.toNat_natCast, ↓reduceIte, reduceIte, Nat.reduceEqDiff, Nat.reduceSub, Nat.reduceMul, ne_eq, Int.zero_add, Int.add_zero, Int.sub_zero, Nat.add_zero, Int.ofNat_eq_natCast, tX10_number_39, SX10_must, m16]
        refine fun _ => ⟨fun _ => ⟨b, T, p, 0, ms, fun σ1 f1 g1 => h σ1 _ f1 g1 (fun q => by have q : (1 : Int) = 0 := q; omega)⟩, fun q => absurd q k1⟩
      refine h0 _ _ _ ?_
      simp only [z_push, z_lpush, z_iload, z_lload, z_aload, z_istore, z_istoreP, z_lstore, z_astore, z_iinc, z_iincP, z_iadd, z_isub, z_imul, z_iaddW, z_isubW, z_imulW, z_idiv, z_irem, z_iand, z_ior, z_ixor, z_ishl, z_ishr, z_iushr, z_ineg, z_i2l, z_i2b, z_i2s, z_i2c, z_l2i, z_ladd, z_lsub, z_land, z_lor, z_lshl, z_lshr, z_lcmp, z_dup, z_pop, z_dup2, z_goto, z_tsw, z_cases, z_geti, z_getr, z_puti, z_putz, z_ald, z_iast, z_bast, z_zast, z_alen, z_acopy, z_mmax, z_mmin, z_mabs, z_mabsL, z_iret, z_zret, z_nret, z_lret, z_aret, z_vret, z_cat, z_ldcs, z_strv, z_strc, z_gcs, z_gfm, z_sln, z_sald, z_ifeq, z_ifne, z_iflt, z_ifge, z_ifgt, z_ifle, z_iceq, z_icne, z_iclt, z_icge, z_icgt, z_icle, z_cs0, z_cs1, z_cs2, z_cs3, z_cs4, z_cs5, z_cs6, z_cs7, z_cv0, z_cv1, z_cv2, z_cv3, z_cv4, z_cv5, z_cv6, z_cv7, z_g0, z_s0, z_g1, z_s1, z_g2, z_s2, z_g3, z_s3, z_g4, z_s4, z_g5, z_s5, z_g6, z_s6, z_g7, z_s7, z_g8, z_s8, z_g9, z_s9, z_g10, z_s10, z_g11, z_s11, z_g12, z_s12, z_g13, z_s13, z_b0, z_b1, z_b0n, z_b1n, z_up_far1, z_up_far2, z_up_far3, z_up_far4, z_up_far5, z_up_far6, Classical.not_not, not_true_eq_false, z_in, z_inL, Int.cast_ofNat_Int, Nat.reduceLeDiff, List.length_cons, List.length_nil, Nat.reduceAdd, Nat.zero_add, Nat.le_refl, true_and, and_true, List.length, Nat.reduceLT, true_or, or_true, false_or, or_false, false_and, and_false, not_true_eq_false, not_false_eq_true, forall_const, false_implies, true_implies, Int.reduceEq, Int.reduceLT, Int.reduceLE, Int.reduceAdd, Int.reduceSub, Int.reduceMul, Int.reduceNeg, Int.reduceToNat, Int.toNat_natCast, ↓reduceIte, reduceIte, Nat.reduceEqDiff, Nat.reduceSub, Nat.reduceMul, ne_eq, Int.zero_add, Int.add_zero, Int.sub_zero, Nat.add_zero, Int.ofNat_eq_natCast, tX10_number_0, SX10_figures, SX10_in, SX10_bad, m19, m16]
      refine ⟨b, T, p, 0, ms, ?_⟩
      rw [if_neg k]
      exact fun _ => ⟨fun _ => L39, fun q => absurd q k1⟩
  · have e : q_pn b T p f x1 x2 = (x1, p, f) := by unfold q_pn; rw [if_pos c]
    rw [e] at h
    have fin := h σ 0 q_fx.rf ms (fun q => absurd q c)
    refine h0 _ _ _ ?_
    simp only [z_push, z_lpush, z_iload, z_lload, z_aload, z_istore, z_istoreP, z_lstore, z_astore, z_iinc, z_iincP, z_iadd, z_isub, z_imul, z_iaddW, z_isubW, z_imulW, z_idiv, z_irem, z_iand, z_ior, z_ixor, z_ishl, z_ishr, z_iushr, z_ineg, z_i2l, z_i2b, z_i2s, z_i2c, z_l2i, z_ladd, z_lsub, z_land, z_lor, z_lshl, z_lshr, z_lcmp, z_dup, z_pop, z_dup2, z_goto, z_tsw, z_cases, z_geti, z_getr, z_puti, z_putz, z_ald, z_iast, z_bast, z_zast, z_alen, z_acopy, z_mmax, z_mmin, z_mabs, z_mabsL, z_iret, z_zret, z_nret, z_lret, z_aret, z_vret, z_cat, z_ldcs, z_strv, z_strc, z_gcs, z_gfm, z_sln, z_sald, z_ifeq, z_ifne, z_iflt, z_ifge, z_ifgt, z_ifle, z_iceq, z_icne, z_iclt, z_icge, z_icgt, z_icle, z_cs0, z_cs1, z_cs2, z_cs3, z_cs4, z_cs5, z_cs6, z_cs7, z_cv0, z_cv1, z_cv2, z_cv3, z_cv4, z_cv5, z_cv6, z_cv7, z_g0, z_s0, z_g1, z_s1, z_g2, z_s2, z_g3, z_s3, z_g4, z_s4, z_g5, z_s5, z_g6, z_s6, z_g7, z_s7, z_g8, z_s8, z_g9, z_s9, z_g10, z_s10, z_g11, z_s11, z_g12, z_s12, z_g13, z_s13, z_b0, z_b1, z_b0n, z_b1n, z_up_far1, z_up_far2, z_up_far3, z_up_far4, z_up_far5, z_up_far6, Classical.not_not, not_true_eq_false, z_in, z_inL, Int.cast_ofNat_Int, Nat.reduceLeDiff, List.length_cons, List.length_nil, Nat.reduceAdd, Nat.zero_add, Nat.le_refl, true_and, and_true, List.length, Nat.reduceLT, true_or, or_true, false_or, or_false, false_and, and_false, not_true_eq_false, not_false_eq_true, forall_const, false_implies, true_implies, Int.reduceEq, Int.reduceLT, Int.reduceLE, Int.reduceAdd, Int.reduceSub, Int.reduceMul, Int.reduceNeg, Int.reduceToNat, Int.toNat_natCast, ↓reduceIte, reduceIte, Nat.reduceEqDiff, Nat.reduceSub, Nat.reduceMul, ne_eq, Int.zero_add, Int.add_zero, Int.sub_zero, Nat.add_zero, Int.ofNat_eq_natCast, tX10_number_0, m19]
    repeat' (first | (intro _) | (with_reducible assumption) | (refine And.intro ?_ ?_))
    all_goals first | omega | assumption | (refine z_fin fin ?_ rfl; first | rfl | omega | (split <;> omega) | (split <;> split <;> omega)) | skip
theorem dX10_number_0 : decode cX10_number 0 = .ok (.aload_n 0, 1) := by decide +kernel
theorem dX10_number_1 : decode cX10_number 1 = .ok (.getfield 123, 3) := by decide +kernel
theorem dX10_number_4 : decode cX10_number 4 = .ok (.ifCond .le 5, 3) := by decide +kernel
theorem dX10_number_7 : decode cX10_number 7 = .ok (.iconst 0, 1) := by decide +kernel
theorem dX10_number_8 : decode cX10_number 8 = .ok (.ireturn, 1) := by decide +kernel
theorem dX10_number_9 : decode cX10_number 9 = .ok (.aload_n 0, 1) := by decide +kernel
theorem dX10_number_10 : decode cX10_number 10 = .ok (.invokevirtual 136, 3) := by decide +kernel
theorem dX10_number_13 : decode cX10_number 13 = .ok (.istore_n 3, 1) := by decide +kernel
theorem dX10_number_14 : decode cX10_number 14 = .ok (.aload_n 0, 1) := by decide +kernel
theorem dX10_number_15 : decode cX10_number 15 = .ok (.getfield 111, 3) := by decide +kernel
theorem dX10_number_18 : decode cX10_number 18 = .ok (.iconst 3, 1) := by decide +kernel
theorem dX10_number_19 : decode cX10_number 19 = .ok (.if_icmp .ne 20, 3) := by decide +kernel
theorem dX10_number_22 : decode cX10_number 22 = .ok (.iload_n 3, 1) := by decide +kernel
theorem dX10_number_23 : decode cX10_number 23 = .ok (.i2l, 1) := by decide +kernel
theorem dX10_number_24 : decode cX10_number 24 = .ok (.iload_n 1, 1) := by decide +kernel
theorem dX10_number_25 : decode cX10_number 25 = .ok (.i2l, 1) := by decide +kernel
theorem dX10_number_26 : decode cX10_number 26 = .ok (.iload_n 2, 1) := by decide +kernel
theorem dX10_number_27 : decode cX10_number 27 = .ok (.i2l, 1) := by decide +kernel
theorem dX10_number_28 : decode cX10_number 28 = .ok (.invokestatic 75, 3) := by decide +kernel
theorem dX10_number_31 : decode cX10_number 31 = .ok (.ifCond .ne 8, 3) := by decide +kernel
theorem dX10_number_34 : decode cX10_number 34 = .ok (.aload_n 0, 1) := by decide +kernel
theorem dX10_number_35 : decode cX10_number 35 = .ok (.iconst 2, 1) := by decide +kernel
theorem dX10_number_36 : decode cX10_number 36 = .ok (.invokevirtual 132, 3) := by decide +kernel
theorem dX10_number_39 : decode cX10_number 39 = .ok (.aload_n 0, 1) := by decide +kernel
theorem dX10_number_40 : decode cX10_number 40 = .ok (.aload_n 0, 1) := by decide +kernel
theorem dX10_number_41 : decode cX10_number 41 = .ok (.getfield 111, 3) := by decide +kernel
theorem dX10_number_44 : decode cX10_number 44 = .ok (.iconst 3, 1) := by decide +kernel
theorem dX10_number_45 : decode cX10_number 45 = .ok (.if_icmp .ne 7, 3) := by decide +kernel
theorem dX10_number_48 : decode cX10_number 48 = .ok (.iconst 1, 1) := by decide +kernel
theorem dX10_number_49 : decode cX10_number 49 = .ok (.goto 4, 3) := by decide +kernel
theorem dX10_number_52 : decode cX10_number 52 = .ok (.iconst 0, 1) := by decide +kernel
theorem dX10_number_53 : decode cX10_number 53 = .ok (.invokevirtual 140, 3) := by decide +kernel
theorem dX10_number_56 : decode cX10_number 56 = .ok (.iload_n 3, 1) := by decide +kernel
theorem dX10_number_57 : decode cX10_number 57 = .ok (.ireturn, 1) := by decide +kernel
set_option maxRecDepth 100000 in
theorem rX10_number_0 {p : Program} {l : Launch} {e : Env} {s : State} {m : MethodId} {args : Array Value} {below : List Frame} {meth : Method} {c : Code} {D : va_G} {cA : Nat → ClassId} {ad : Nat → Nat} {Ret : zR} (C : z_Cx p { frames := 3, cells := 0, slots := 0, locals := 63 } s m args c cX10_number yX10_number.cls 4 D cA ad) (hr : meth.sig.returnType = (some .int)) (hlocks : meth.locks = false) : ∀ L st σ, tX10_number_0 (z_X p l e { frames := 3, cells := 0, slots := 0, locals := 63 } s m args below meth c (MQ below (z_Qc D cA ad Ret) args s 0 0 (z_A ad)) 4 D cA ad true) Ret L st σ → z_X p l e { frames := 3, cells := 0, slots := 0, locals := 63 } s m args below meth c (MQ below (z_Qc D cA ad Ret) args s 0 0 (z_A ad)) 4 D cA ad true 0 L st σ := (s_aload_n C dX10_number_0 rfl (s_geti C dX10_number_1 cls_X10 (by decide) rfl wd_987 (s_ifle C dX10_number_4 (by decide) (s_aload_n C dX10_number_9 rfl (s_cv0 C dX10_number_10 (okX10_figures l) cls_X10 wd_1159 wd_1161 wd_45 wd_85 wd_1162 ⟨by decide, by decide, by decide +kernel⟩ ⟨by decide, by decide⟩ (s_istore_n C dX10_number_13 (by decide) rfl rfl (s_aload_n C dX10_number_14 rfl (s_geti C dX10_number_15 cls_X10 (by decide) rfl wd_984 (s_iconst C dX10_number_18 rfl ⟨by decide, by decide⟩ (s_icne C dX10_number_19 (by decide) (fun _ _ _ h => h) (s_iload_n C dX10_number_22 rfl (s_i2l C dX10_number_23 (s_iload_n C dX10_number_24 rfl (s_i2l C dX10_number_25 (s_iload_n C dX10_number_26 rfl (s_i2l C dX10_number_27 (s_cs3 C dX10_number_28 (okX10_in l) wd_1082 wd_1083 wd_85 wd_1084 ⟨by decide, by decide, by decide +kernel⟩ ⟨by decide, by decide⟩ (s_ifne C dX10_number_31 (by decide) (fun _ _ _ h => h) (s_aload_n C dX10_number_34 rfl (s_iconst C dX10_number_35 rfl ⟨by decide, by decide⟩ (s_cv1 C dX10_number_36 (okX10_bad l) cls_X10 wd_1139 wd_1141 wd_40 wd_85 wd_1142 ⟨by decide, by decide, by decide +kernel⟩ ⟨by decide, by decide⟩ (fun _ _ _ h => h))))))))))))))))))) (s_iconst C dX10_number_7 rfl ⟨by decide, by decide⟩ (s_iret C dX10_number_8 hr hlocks)))))
set_option maxRecDepth 100000 in
theorem rX10_number_39 {p : Program} {l : Launch} {e : Env} {s : State} {m : MethodId} {args : Array Value} {below : List Frame} {meth : Method} {c : Code} {D : va_G} {cA : Nat → ClassId} {ad : Nat → Nat} {Ret : zR} (C : z_Cx p { frames := 3, cells := 0, slots := 0, locals := 63 } s m args c cX10_number yX10_number.cls 4 D cA ad) (hr : meth.sig.returnType = (some .int)) (hlocks : meth.locks = false) : ∀ L st σ, tX10_number_39 (z_X p l e { frames := 3, cells := 0, slots := 0, locals := 63 } s m args below meth c (MQ below (z_Qc D cA ad Ret) args s 0 0 (z_A ad)) 4 D cA ad true) Ret L st σ → z_X p l e { frames := 3, cells := 0, slots := 0, locals := 63 } s m args below meth c (MQ below (z_Qc D cA ad Ret) args s 0 0 (z_A ad)) 4 D cA ad true 39 L st σ := (s_aload_n C dX10_number_39 rfl (s_aload_n C dX10_number_40 rfl (s_geti C dX10_number_41 cls_X10 (by decide) rfl wd_984 (s_iconst C dX10_number_44 rfl ⟨by decide, by decide⟩ (s_icne C dX10_number_45 (by decide) (s_iconst C dX10_number_52 rfl ⟨by decide, by decide⟩ (s_cv1 C dX10_number_53 (okX10_must l) cls_X10 wd_1151 wd_1153 wd_43 wd_85 wd_1154 ⟨by decide, by decide, by decide +kernel⟩ ⟨by decide, by decide⟩ (s_iload_n C dX10_number_56 rfl (s_iret C dX10_number_57 hr hlocks)))) (s_iconst C dX10_number_48 rfl ⟨by decide, by decide⟩ (s_goto C dX10_number_49 (by decide) (s_cv1 C dX10_number_53 (okX10_must l) cls_X10 wd_1151 wd_1153 wd_43 wd_85 wd_1154 ⟨by decide, by decide, by decide +kernel⟩ ⟨by decide, by decide⟩ (s_iload_n C dX10_number_56 rfl (s_iret C dX10_number_57 hr hlocks))))))))))
theorem okX10_number (l : Launch) : z_OK l yX10_number cX10_number 4 (some .int) 3 63 SX10_number := by
  refine z_ok_of true (by decide +kernel) ?_ ?_
  · intro as σ Ret h
    obtain ⟨k0, x1, x2, rfl⟩ := pX10_number h
    exact ⟨Nat.le_of_ble_eq_true rfl, by simp⟩
  · intro p e s m args below meth c D cA ad Ret C hr hlocks as σ has hσ h
    obtain ⟨k0, x1, x2, rfl⟩ := pX10_number h
    exact vX10_number (rX10_number_0 C hr hlocks) (rX10_number_39 C hr hlocks) k0 x1 x2 σ (has _ (List.mem_of_getElem? (i := 0) rfl)) (has _ (List.mem_of_getElem? (i := 1) rfl)) (has _ (List.mem_of_getElem? (i := 2) rfl)) hσ h
