/-! bytes told, to both -/
theorem q_and255 (X : Int64) : (X &&& Int64.ofInt 255).toInt = X.toInt % 256 := by
  have h : (X &&& Int64.ofInt 255).toBitVec.toNat = X.toBitVec.toNat % 256 := by
    rw [Int64.toBitVec_and, BitVec.toNat_and]
    show X.toBitVec.toNat &&& 255 = _
    exact Nat.and_two_pow_sub_one_eq_mod _ 8
  have h1 : (X &&& Int64.ofInt 255).toInt = ((X &&& Int64.ofInt 255).toBitVec.toNat : Int) := by
    rw [← Int64.toInt_toBitVec]
    exact BitVec.toInt_eq_toNat_of_lt (by rw [h]; have := Nat.mod_lt X.toBitVec.toNat (show 0 < 256 by omega); omega)
  have h2 : X.toInt % 18446744073709551616 = (X.toBitVec.toNat : Int) % 18446744073709551616 := by
    rw [← Int64.toInt_toBitVec, BitVec.toInt_eq_toNat_bmod]
    exact Int.bmod_emod
  rw [h1, h]
  omega
theorem z_wr8_bmod (x : Int) : z_wr8 x = x.bmod 256 := by
  unfold z_wr8
  rw [Int32.toInt_toInt8, Int32.toInt_ofInt]
  exact Int.bmod_bmod_of_dvd ⟨16777216, rfl⟩
def q_bym (w : Int) (i : Nat) : Int := z_wr (Int64.ofInt (Int64.ofInt w >>> ((Int32.ofInt (8 * (i : Int))).toInt64 &&& 63)).toInt &&& Int64.ofInt 255).toInt
theorem q_bym_ok (w : Int) (i : Nat) : q_by8 w i = z_wr8 (q_bym w i) ∧ 0 ≤ q_bym w i ∧ q_bym w i ≤ 255 := by
  unfold q_by8 q_bym
  generalize Int64.ofInt w >>> ((Int32.ofInt (8 * (i : Int))).toInt64 &&& 63) = X
  rw [Int64.ofInt_toInt, q_and255]
  have r : 0 ≤ X.toInt % 256 ∧ X.toInt % 256 ≤ 255 := by omega
  rw [z_wr_eq (x := X.toInt % 256) (by omega)]
  refine ⟨?_, r⟩
  rw [z_wr8_bmod, z_wr8_bmod, z_wr8_bmod, Int.bmod_bmod_of_dvd (Nat.dvd_refl _)]
  unfold z_wr
  rw [Int32.toInt_ofInt, Int.bmod_bmod_of_dvd (n := 256) (m := Int32.size) ⟨16777216, rfl⟩]
  exact (Int.emod_bmod _ 256).symm
def q_fm (w : Int) : Nat → zM → zM
  | 0, τ => τ
  | n + 1, τ => q_fm w n (z_up (z_up τ 97 (τ 89 12).toNat (q_bym w n)) 89 12 (τ 89 12 + 1))
theorem q_fm_ne {w : Int} {c j : Nat} (h : c ≠ 97 ∧ ¬ (c = 89 ∧ j = 12)) : ∀ (n : Nat) (τ : zM), q_fm w n τ c j = τ c j
  | 0, _ => rfl
  | n + 1, τ => by rw [q_fm, q_fm_ne h n, z_up_ne (by omega), z_up_ne (by omega)]
theorem q_fd_ne {w : Int} {c j : Nat} (h : c ≠ 2 ∧ ¬ (c = 1 ∧ j = 1)) : ∀ (n : Nat) (τ : zM), q_fd 1 w n τ c j = τ c j
  | 0, _ => rfl
  | n + 1, τ => by rw [q_fd, q_fd_ne h n, z_up_ne (by omega), z_up_ne (by omega)]
theorem q_fm_12 {w : Int} : ∀ (n : Nat) (τ : zM), q_fm w n τ 89 12 = τ 89 12 + n
  | 0, τ => (Int.add_zero _).symm
  | n + 1, τ => by rw [q_fm, q_fm_12 n, z_up_eq]; omega
theorem q_fm_cg {w : Int} : ∀ (n : Nat) (σ τ : zM), (∀ c j, ¬ (c = 89 ∧ j = 0) → σ c j = τ c j) → ∀ c j, ¬ (c = 89 ∧ j = 0) → q_fm w n σ c j = q_fm w n τ c j
  | 0, _, _, h => h
  | n + 1, σ, τ, h => by
    rw [q_fm, q_fm]
    refine q_fm_cg n _ _ (fun c j hc => ?_)
    rw [h 89 12 (by omega)]
    simp only [z_up]
    rw [h c j hc]
theorem q_fm_cg' {w : Int} : ∀ (n : Nat) (σ τ : zM), (∀ j, σ 97 j = τ 97 j) → σ 89 12 = τ 89 12 → ∀ j, q_fm w n σ 97 j = q_fm w n τ 97 j
  | 0, _, _, h, _ => h
  | n + 1, σ, τ, h, h1 => by
    rw [q_fm, q_fm]
    refine q_fm_cg' n _ _ (fun j => ?_) (by rw [z_up_eq, z_up_eq, h1])
    rw [h1]
    simp only [z_up]
    rw [h j]
theorem q_fd_rel {w : Int} : ∀ (n : Nat) {σ τ : zM}, q_rtape σ τ → 0 ≤ τ 89 12 → q_rtape (q_fd 1 w n σ) (q_fm w n τ)
  | 0, _, _, h, _ => h
  | n + 1, σ, τ, h, h0 => by
    rw [q_fd, q_fm]
    obtain ⟨h1, h2⟩ := h
    refine q_fd_rel n ⟨?_, fun j hj => ?_⟩ (by rw [z_up_eq]; omega)
    · rw [z_up_eq, z_up_eq, h1]
    · rw [z_up_eq] at hj
      rw [h1]
      simp only [Nat.reduceAdd]
      by_cases e : j = (τ 89 12).toNat
      · subst e
        rw [z_up_ne (by omega), z_up_eq, z_up_ne (by omega), z_up_eq]
        exact (q_bym_ok w n).1
      · rw [z_up_ne (by omega), z_up_ne (by omega), z_up_ne (by omega), z_up_ne (by omega)]
        exact h2 j (by omega)
def q_tpok (τ : zM) : Prop := (0 ≤ τ 89 12 ∧ τ 89 12 ≤ 400) ∧ ∀ j : Nat, (j : Int) < τ 89 12 → 0 ≤ τ 97 j ∧ τ 97 j ≤ 255
theorem q_fm_ok {w : Int} : ∀ (n : Nat) {τ : zM}, q_tpok τ → τ 89 12 + n ≤ 400 → q_tpok (q_fm w n τ)
  | 0, _, h, _ => h
  | n + 1, τ, h, h0 => by
    rw [q_fm]
    obtain ⟨h1, h2⟩ := h
    refine q_fm_ok n ⟨by rw [z_up_eq]; omega, fun j hj => ?_⟩ (by rw [z_up_eq]; omega)
    rw [z_up_eq] at hj
    by_cases e : j = (τ 89 12).toNat
    · subst e
      rw [z_up_ne (by omega), z_up_eq]
      exact (q_bym_ok w n).2
    · rw [z_up_ne (by omega), z_up_ne (by omega)]
      exact h2 j (by omega)
theorem q_R2_tape {σ σ' τ' : zM} (R : q_R2 σ σ) (ht : q_rtape σ' τ') (hf : σ' 0 11 = τ' 89 13) (e : ∀ c j, q_lastP c j → ¬ (c = 2 ∨ (c = 1 ∧ j = 1) ∨ (c = 0 ∧ j = 11)) → σ' c j = σ c j) (f : ∀ c j, 89 ≤ c → c ≠ 97 → ¬ (c = 89 ∧ (j = 12 ∨ j = 13)) → τ' c j = σ c j) : q_R2 σ' τ' := by
  obtain ⟨h1, ⟨h2, h3⟩, h4, h5, h6, h7⟩ := R
  refine ⟨q_rrow_cg h1 (fun c j a1 a2 => e c j (by unfold q_lastP; omega) (by omega)) (fun c j a1 a2 => f c j (by omega) (by omega) (by omega)), ⟨?_, hf⟩, ht, q_rtr_cg h5 (e _ _ (by unfold q_lastP; omega) (by omega)) (fun j => e _ _ (by unfold q_lastP; omega) (by omega)) (f _ _ (by omega) (by omega) (by omega)) (fun j => f _ _ (by omega) (by omega) (by omega)), q_rwood_cg h6 (fun c j a1 a2 => e c j (by unfold q_lastP; omega) (by omega)) (fun j => f _ _ (by omega) (by omega) (by omega)) (fun j => f _ _ (by omega) (by omega) (by omega)) (f _ _ (by omega) (by omega) (by omega)), q_rimg_cg h7 (fun c j a1 a2 => e c j (by unfold q_lastP; omega) (by omega)) (fun c j a1 a2 => f c j (by omega) (by omega) (by omega))⟩
  rw [e _ _ (by unfold q_lastP; omega) (by omega), f _ _ (by omega) (by omega) (by omega)]; exact h2
def q_gFeed (n : Int) (τ : zM) : Int := if ¬ (1 ≤ n ∧ n ≤ 8) then -1000001 else if 400 < τ 89 12 + n then -1000003 else τ 89 12 + n
def q_fFeed (w n : Int) (τ : zM) : zM := if ¬ (1 ≤ n ∧ n ≤ 8) then τ else if 400 < τ 89 12 + n then τ else q_fm w n.toNat τ
def SX9_feed : zS := fun as σ Ret => match as with
  | [.inr (.inr (9, 0, _)), .inr (.inl w), .inl n] => q_S9 (q_gFeed n) (q_fFeed w n) σ Ret
  | _ => False
def tX9_feed_0 (X : Nat → zB) (Ret : zR) (L : zL) (st : List zV) (σ : zM) : Prop := (z_iload 3 (z_push 1 (z_iclt (z_push (-1000001) (z_iret Ret)) (z_iload 3 (z_push 8 (z_icle (z_aload 0 (z_getr 9 1 4 0 (z_geti 4 1 (z_push 400 (z_iload 3 (z_isub (z_icle (z_aload 0 (z_getr 9 1 4 0 (z_lload 1 (z_iload 3 (z_cv2 4 SX4_addBytes (z_aload 0 (z_getr 9 1 4 0 (z_geti 4 1 (z_iret Ret))))))))) (z_push (-1000003) (z_iret Ret))))))))) (z_push (-1000001) (z_iret Ret)))))))) L st σ
theorem pX9_feed {as : List zV} {σ : zM} {Ret : zR} (h : SX9_feed as σ Ret) : ∃ (k0 : Nat) (x1 : Int) (x2 : Int), as = [.inr (.inr (9, 0, k0)), .inr (.inl x1), .inl x2] := by
  unfold SX9_feed at h
  split at h
  · exact ⟨_, _, _, rfl⟩
  · exact h.elim
set_option maxRecDepth 10000 in
set_option maxHeartbeats 4000000 in
theorem vX9_feed {X : Nat → zB} {Ret : zR} (h0 : ∀ L st σ, tX9_feed_0 X Ret L st σ → X 0 L st σ) (k0 : Nat) (x1 : Int) (x2 : Int) (σ : zM) (hk0 : z_kd k0 = (9, 0)) (hx1 : -9223372036854775808 ≤ x1 ∧ x1 ≤ 9223372036854775807) (hx2 : -2147483648 ≤ x2 ∧ x2 ≤ 2147483647) (hσ : z_okm σ) (h : SX9_feed [.inr (.inr (9, 0, k0)), .inr (.inl x1), .inl x2] σ Ret) : X 0 [some (.inr (.inr (9, 0, k0))), some (.inr (.inl x1)), none, some (.inl x2)] [] σ := by
  obtain ⟨⟨R, m⟩, h⟩ := h
  obtain rfl := z_kd9 hk0
  have t1 : σ 1 1 = σ 89 12 := R.2.2.1.1
  have t2 := m.2.2.2.1.1
  by_cases c : ¬ (1 ≤ x2 ∧ x2 ≤ 8)
  · have fin := h σ (fun _ _ => rfl) (by unfold q_fFeed; rw [if_pos c]; exact R)
    simp only [q_gFeed, if_pos c] at fin
    refine h0 _ _ _ ?_
    simp only [z_push, z_lpush, z_iload, z_lload, z_aload, z_istore, z_istoreP, z_lstore, z_astore, z_iinc, z_iincP, z_iadd, z_isub, z_imul, z_iaddW, z_isubW, z_imulW, z_idiv, z_irem, z_iand, z_ior, z_ixor, z_ishl, z_ishr, z_iushr, z_ineg, z_i2l, z_i2b, z_i2s, z_i2c, z_l2i, z_ladd, z_lsub, z_land, z_lor, z_lshl, z_lshr, z_lcmp, z_dup, z_pop, z_dup2, z_goto, z_tsw, z_cases, z_geti, z_getr, z_puti, z_putz, z_ald, z_iast, z_bast, z_zast, z_alen, z_acopy, z_mmax, z_mmin, z_mabs, z_mabsL, z_iret, z_zret, z_nret, z_lret, z_aret, z_vret, z_cat, z_xald, z_xlen, z_ldcs, z_strv, z_strc, z_gcs, z_gfm, z_sln, z_sald, z_ifeq, z_ifne, z_iflt, z_ifge, z_ifgt, z_ifle, z_iceq, z_icne, z_iclt, z_icge, z_icgt, z_icle, z_cs0, z_cs1, z_cs2, z_cs3, z_cs4, z_cs5, z_cs6, z_cs7, z_cv0, z_cv1, z_cv2, z_cv3, z_cv4, z_cv5, z_cv6, z_cv7, z_g0, z_s0, z_g1, z_s1, z_g2, z_s2, z_g3, z_s3, z_g4, z_s4, z_g5, z_s5, z_g6, z_s6, z_g7, z_s7, z_g8, z_s8, z_g9, z_s9, z_g10, z_s10, z_g11, z_s11, z_g12, z_s12, z_g13, z_s13, z_b0, z_b1, z_b0n, z_b1n, z_up_far1, z_up_far2, z_up_far3, z_up_far4, z_up_far5, z_up_far6, Classical.not_not, not_true_eq_false, z_in, z_inL, Int.cast_ofNat_Int, Nat.reduceLeDiff, List.length_cons, List.length_nil, Nat.reduceAdd, Nat.zero_add, Nat.le_refl, true_and, and_true, List.length, Nat.reduceLT, true_or, or_true, false_or, or_false, false_and, and_false, not_true_eq_false, not_false_eq_true, forall_const, false_implies, true_implies, Int.reduceEq, Int.reduceLT, Int.reduceLE, Int.reduceAdd, Int.reduceSub, Int.reduceMul, Int.reduceNeg, Int.reduceToNat, Int.toNat_natCast, ↓reduceIte, reduceIte, Nat.reduceEqDiff, Nat.reduceSub, Nat.reduceMul, ne_eq, Int.zero_add, Int.add_zero, Int.sub_zero, Nat.add_zero, Int.ofNat_eq_natCast, tX9_feed_0]
    repeat' (first | (intro _) | (with_reducible assumption) | (refine And.intro ?_ ?_))
    all_goals first | omega | assumption | (refine z_fin fin ?_ rfl; first | rfl | omega | (split <;> omega) | (split <;> split <;> omega)) | skip
  by_cases c2 : 400 < σ 89 12 + x2
  · have fin := h σ (fun _ _ => rfl) (by unfold q_fFeed; rw [if_neg c, if_pos c2]; exact R)
    simp only [q_gFeed, if_neg c, if_pos c2] at fin
    refine h0 _ _ _ ?_
    simp only [z_push, z_lpush, z_iload, z_lload, z_aload, z_istore, z_istoreP, z_lstore, z_astore, z_iinc, z_iincP, z_iadd, z_isub, z_imul, z_iaddW, z_isubW, z_imulW, z_idiv, z_irem, z_iand, z_ior, z_ixor, z_ishl, z_ishr, z_iushr, z_ineg, z_i2l, z_i2b, z_i2s, z_i2c, z_l2i, z_ladd, z_lsub, z_land, z_lor, z_lshl, z_lshr, z_lcmp, z_dup, z_pop, z_dup2, z_goto, z_tsw, z_cases, z_geti, z_getr, z_puti, z_putz, z_ald, z_iast, z_bast, z_zast, z_alen, z_acopy, z_mmax, z_mmin, z_mabs, z_mabsL, z_iret, z_zret, z_nret, z_lret, z_aret, z_vret, z_cat, z_xald, z_xlen, z_ldcs, z_strv, z_strc, z_gcs, z_gfm, z_sln, z_sald, z_ifeq, z_ifne, z_iflt, z_ifge, z_ifgt, z_ifle, z_iceq, z_icne, z_iclt, z_icge, z_icgt, z_icle, z_cs0, z_cs1, z_cs2, z_cs3, z_cs4, z_cs5, z_cs6, z_cs7, z_cv0, z_cv1, z_cv2, z_cv3, z_cv4, z_cv5, z_cv6, z_cv7, z_g0, z_s0, z_g1, z_s1, z_g2, z_s2, z_g3, z_s3, z_g4, z_s4, z_g5, z_s5, z_g6, z_s6, z_g7, z_s7, z_g8, z_s8, z_g9, z_s9, z_g10, z_s10, z_g11, z_s11, z_g12, z_s12, z_g13, z_s13, z_b0, z_b1, z_b0n, z_b1n, z_up_far1, z_up_far2, z_up_far3, z_up_far4, z_up_far5, z_up_far6, Classical.not_not, not_true_eq_false, z_in, z_inL, Int.cast_ofNat_Int, Nat.reduceLeDiff, List.length_cons, List.length_nil, Nat.reduceAdd, Nat.zero_add, Nat.le_refl, true_and, and_true, List.length, Nat.reduceLT, true_or, or_true, false_or, or_false, false_and, and_false, not_true_eq_false, not_false_eq_true, forall_const, false_implies, true_implies, Int.reduceEq, Int.reduceLT, Int.reduceLE, Int.reduceAdd, Int.reduceSub, Int.reduceMul, Int.reduceNeg, Int.reduceToNat, Int.toNat_natCast, ↓reduceIte, reduceIte, Nat.reduceEqDiff, Nat.reduceSub, Nat.reduceMul, ne_eq, Int.zero_add, Int.add_zero, Int.sub_zero, Nat.add_zero, Int.ofNat_eq_natCast, tX9_feed_0, t1]
    repeat' (first | (intro _) | (with_reducible assumption) | (refine And.intro ?_ ?_))
    all_goals first | omega | assumption | (refine z_fin fin ?_ rfl; first | rfl | omega | (split <;> omega) | (split <;> split <;> omega)) | skip
  obtain ⟨n, rfl⟩ := z_nat (show 0 ≤ x2 by omega)
  have e9 : ∀ c, 89 ≤ c → q_fd 1 x1 n σ c = σ c := fun c hc => funext fun j => q_fd_ne (by omega) n σ
  have fe : q_fFeed x1 n (q_fd 1 x1 n σ) = q_fm x1 n (q_fd 1 x1 n σ) := by
    unfold q_fFeed
    rw [e9 89 (by omega), if_neg c, if_neg c2, Int.toNat_natCast]
  have rt : q_rtape (q_fd 1 x1 n σ) (q_fm x1 n (q_fd 1 x1 n σ)) := by
    have r := q_fd_rel (w := x1) n R.2.2.1 t2.1
    refine q_rtape_cg r rfl (fun _ => rfl) ?_ (fun j => ?_)
    · rw [q_fm_12, q_fm_12, e9 89 (by omega)]
    · exact q_fm_cg' n (q_fd 1 x1 n σ) σ (fun j => by rw [e9 97 (by omega)]) (by rw [e9 89 (by omega)]) j
  have fin := h (q_fd 1 x1 n σ) e9 (by
    rw [fe]
    refine q_R2_tape R rt ?_ (fun c j h1 h2 => q_fd_ne (by omega) n σ) (fun c j h1 h2 h3 => by rw [q_fm_ne (by omega), e9 c h1])
    rw [q_fd_ne (by omega), q_fm_ne (by omega), e9 89 (by omega)]
    exact R.2.1.2)
  simp only [q_gFeed, e9 89 (by omega), if_neg c, if_neg c2] at fin
  have e1 : q_fd 1 x1 n σ 1 1 = σ 89 12 + n := by rw [rt.1, q_fm_12, e9 89 (by omega)]
  refine h0 _ _ _ ?_
  simp only [z_push, z_lpush, z_iload, z_lload, z_aload, z_istore, z_istoreP, z_lstore, z_astore, z_iinc, z_iincP, z_iadd, z_isub, z_imul, z_iaddW, z_isubW, z_imulW, z_idiv, z_irem, z_iand, z_ior, z_ixor, z_ishl, z_ishr, z_iushr, z_ineg, z_i2l, z_i2b, z_i2s, z_i2c, z_l2i, z_ladd, z_lsub, z_land, z_lor, z_lshl, z_lshr, z_lcmp, z_dup, z_pop, z_dup2, z_goto, z_tsw, z_cases, z_geti, z_getr, z_puti, z_putz, z_ald, z_iast, z_bast, z_zast, z_alen, z_acopy, z_mmax, z_mmin, z_mabs, z_mabsL, z_iret, z_zret, z_nret, z_lret, z_aret, z_vret, z_cat, z_xald, z_xlen, z_ldcs, z_strv, z_strc, z_gcs, z_gfm, z_sln, z_sald, z_ifeq, z_ifne, z_iflt, z_ifge, z_ifgt, z_ifle, z_iceq, z_icne, z_iclt, z_icge, z_icgt, z_icle, z_cs0, z_cs1, z_cs2, z_cs3, z_cs4, z_cs5, z_cs6, z_cs7, z_cv0, z_cv1, z_cv2, z_cv3, z_cv4, z_cv5, z_cv6, z_cv7, z_g0, z_s0, z_g1, z_s1, z_g2, z_s2, z_g3, z_s3, z_g4, z_s4, z_g5, z_s5, z_g6, z_s6, z_g7, z_s7, z_g8, z_s8, z_g9, z_s9, z_g10, z_s10, z_g11, z_s11, z_g12, z_s12, z_g13, z_s13, z_b0, z_b1, z_b0n, z_b1n, z_up_far1, z_up_far2, z_up_far3, z_up_far4, z_up_far5, z_up_far6, Classical.not_not, not_true_eq_false, z_in, z_inL, Int.cast_ofNat_Int, Nat.reduceLeDiff, List.length_cons, List.length_nil, Nat.reduceAdd, Nat.zero_add, Nat.le_refl, true_and, and_true, List.length, Nat.reduceLT, true_or, or_true, false_or, or_false, false_and, and_false, not_true_eq_false, not_false_eq_true, forall_const, false_implies, true_implies, Int.reduceEq, Int.reduceLT, Int.reduceLE, Int.reduceAdd, Int.reduceSub, Int.reduceMul, Int.reduceNeg, Int.reduceToNat, Int.toNat_natCast, ↓reduceIte, reduceIte, Nat.reduceEqDiff, Nat.reduceSub, Nat.reduceMul, ne_eq, Int.zero_add, Int.add_zero, Int.sub_zero, Nat.add_zero, Int.ofNat_eq_natCast, tX9_feed_0, SX4_addBytes, t1, e1]
  repeat' (first | (intro _) | (with_reducible assumption) | (refine And.intro ?_ ?_))
  all_goals first | omega | assumption | (refine z_fin fin ?_ rfl; first | rfl | omega | (split <;> omega) | (split <;> split <;> omega)) | skip
theorem dX9_feed_0 : decode cX9_feed 0 = .ok (.iload_n 3, 1) := by decide +kernel
theorem dX9_feed_1 : decode cX9_feed 1 = .ok (.iconst 1, 1) := by decide +kernel
theorem dX9_feed_2 : decode cX9_feed 2 = .ok (.if_icmp .lt 9, 3) := by decide +kernel
theorem dX9_feed_5 : decode cX9_feed 5 = .ok (.iload_n 3, 1) := by decide +kernel
theorem dX9_feed_6 : decode cX9_feed 6 = .ok (.bipush 8, 2) := by decide +kernel
theorem dX9_feed_8 : decode cX9_feed 8 = .ok (.if_icmp .le 6, 3) := by decide +kernel
theorem dX9_feed_11 : decode cX9_feed 11 = .ok (.ldc 75, 2) := by decide +kernel
theorem dX9_feed_13 : decode cX9_feed 13 = .ok (.ireturn, 1) := by decide +kernel
theorem dX9_feed_14 : decode cX9_feed 14 = .ok (.aload_n 0, 1) := by decide +kernel
theorem dX9_feed_15 : decode cX9_feed 15 = .ok (.getfield 10, 3) := by decide +kernel
theorem dX9_feed_18 : decode cX9_feed 18 = .ok (.getfield 109, 3) := by decide +kernel
theorem dX9_feed_21 : decode cX9_feed 21 = .ok (.sipush 400, 3) := by decide +kernel
theorem dX9_feed_24 : decode cX9_feed 24 = .ok (.iload_n 3, 1) := by decide +kernel
theorem dX9_feed_25 : decode cX9_feed 25 = .ok (.isub, 1) := by decide +kernel
theorem dX9_feed_26 : decode cX9_feed 26 = .ok (.if_icmp .le 6, 3) := by decide +kernel
theorem dX9_feed_29 : decode cX9_feed 29 = .ok (.ldc 113, 2) := by decide +kernel
theorem dX9_feed_31 : decode cX9_feed 31 = .ok (.ireturn, 1) := by decide +kernel
theorem dX9_feed_32 : decode cX9_feed 32 = .ok (.aload_n 0, 1) := by decide +kernel
theorem dX9_feed_33 : decode cX9_feed 33 = .ok (.getfield 10, 3) := by decide +kernel
theorem dX9_feed_36 : decode cX9_feed 36 = .ok (.lload_n 1, 1) := by decide +kernel
theorem dX9_feed_37 : decode cX9_feed 37 = .ok (.iload_n 3, 1) := by decide +kernel
theorem dX9_feed_38 : decode cX9_feed 38 = .ok (.invokevirtual 114, 3) := by decide +kernel
theorem dX9_feed_41 : decode cX9_feed 41 = .ok (.aload_n 0, 1) := by decide +kernel
theorem dX9_feed_42 : decode cX9_feed 42 = .ok (.getfield 10, 3) := by decide +kernel
theorem dX9_feed_45 : decode cX9_feed 45 = .ok (.getfield 109, 3) := by decide +kernel
theorem dX9_feed_48 : decode cX9_feed 48 = .ok (.ireturn, 1) := by decide +kernel
set_option maxRecDepth 100000 in
theorem rX9_feed_0 {zx : zX} {zn : Nat} {p : Program} {l : Launch} {e : Env} {s : State} {m : MethodId} {args : Array Value} {below : List Frame} {meth : Method} {c : Code} {D : va_G} {cA : Nat → ClassId} {ad : Nat → Nat} {Ret : zR} (C : z_Cx zx zn (z_A zn ad) 0 0 p { frames := 1, cells := 0, slots := 0, locals := 24 } s m args c cX9_feed yX9_feed.cls 4 D cA ad) (hr : meth.sig.returnType = (some .int)) (hlocks : meth.locks = false) : ∀ L st σ, tX9_feed_0 (z_X zx zn (z_A zn ad) 0 0 p l e { frames := 1, cells := 0, slots := 0, locals := 24 } s m args below meth c (MQ below (z_Qc zn D cA ad Ret) args s 0 0 (z_A zn ad)) 4 D cA ad false) Ret L st σ → z_X zx zn (z_A zn ad) 0 0 p l e { frames := 1, cells := 0, slots := 0, locals := 24 } s m args below meth c (MQ below (z_Qc zn D cA ad Ret) args s 0 0 (z_A zn ad)) 4 D cA ad false 0 L st σ := (s_iload_n C dX9_feed_0 rfl (s_iconst C dX9_feed_1 rfl ⟨by decide, by decide⟩ (s_iclt C dX9_feed_2 (by decide) (s_ldc C dX9_feed_11 (v := -1000001) wd_488 ⟨by decide, by decide⟩ (s_iret C dX9_feed_13 hr hlocks)) (s_iload_n C dX9_feed_5 rfl (s_bipush C dX9_feed_6 rfl ⟨by decide, by decide⟩ (s_icle C dX9_feed_8 (by decide) (s_aload_n C dX9_feed_14 rfl (s_getr C dX9_feed_15 (j := 0) cls_X9 (by decide) rfl (by decide) (by decide) (by decide +kernel) wd_283 (s_geti C dX9_feed_18 cls_X4 (by decide) rfl wd_49 (s_sipush C dX9_feed_21 rfl ⟨by decide, by decide⟩ (s_iload_n C dX9_feed_24 rfl (s_isub C dX9_feed_25 (s_icle C dX9_feed_26 (by decide) (s_aload_n C dX9_feed_32 rfl (s_getr C dX9_feed_33 (j := 0) cls_X9 (by decide) rfl (by decide) (by decide) (by decide +kernel) wd_283 (s_lload_n C dX9_feed_36 rfl (s_iload_n C dX9_feed_37 rfl (s_cv2 C dX9_feed_38 (okX4_addBytes l) cls_X4 wd_565 wd_566 wd_567 wd_18 wd_568 ⟨by decide, by decide, by decide +kernel⟩ ⟨by decide, by decide⟩ (s_aload_n C dX9_feed_41 rfl (s_getr C dX9_feed_42 (j := 0) cls_X9 (by decide) rfl (by decide) (by decide) (by decide +kernel) wd_283 (s_geti C dX9_feed_45 cls_X4 (by decide) rfl wd_49 (s_iret C dX9_feed_48 hr hlocks))))))))) (s_ldc C dX9_feed_29 (v := -1000003) wd_448 ⟨by decide, by decide⟩ (s_iret C dX9_feed_31 hr hlocks))))))))) (s_ldc C dX9_feed_11 (v := -1000001) wd_488 ⟨by decide, by decide⟩ (s_iret C dX9_feed_13 hr hlocks))))))))
theorem okX9_feed {zx : zX} {zn : Nat} (l : Launch) : z_OK zx zn l yX9_feed cX9_feed 4 (some .int) 1 24 SX9_feed := by
  refine z_ok_of false (by decide +kernel) ?_ ?_
  · intro as σ Ret h
    obtain ⟨k0, x1, x2, rfl⟩ := pX9_feed h
    exact ⟨Nat.le_of_ble_eq_true rfl, by intro h; cases h⟩
  · intro p e s m args below meth c D cA ad Ret C hr hlocks as σ has hσ h
    obtain ⟨k0, x1, x2, rfl⟩ := pX9_feed h
    exact vX9_feed (rX9_feed_0 C hr hlocks) k0 x1 x2 σ (has _ (List.mem_of_getElem? (i := 0) rfl)).1 (has _ (List.mem_of_getElem? (i := 1) rfl)) (has _ (List.mem_of_getElem? (i := 2) rfl)) hσ h
