/-! trees, winds, tunes, orders off the tape -/
theorem z_kd4 {k : Nat} (h : z_kd k = (4, 0)) : k = 1 := by
  have key : ∀ i, i < 111 → z_kd i = (4, 0) → i = 1 := by decide +kernel
  exact key k (z_kd_lt h (by decide)) h
theorem z_kd6 {k : Nat} (h : z_kd k = (6, 0)) : k = 9 ∨ k = 26 ∨ k = 43 ∨ k = 60 := by
  have key : ∀ i, i < 111 → z_kd i = (6, 0) → i = 9 ∨ i = 26 ∨ i = 43 ∨ i = 60 := by decide +kernel
  exact key k (z_kd_lt h (by decide)) h
theorem z_kd7 {k : Nat} (h : z_kd k = (7, 0)) : k = 16 ∨ k = 33 ∨ k = 50 ∨ k = 67 := by
  have key : ∀ i, i < 111 → z_kd i = (7, 0) → i = 16 ∨ i = 33 ∨ i = 50 ∨ i = 67 := by decide +kernel
  exact key k (z_kd_lt h (by decide)) h
theorem z_kd2 {k : Nat} (h : z_kd k = (2, 0)) : k = 20 ∨ k = 37 ∨ k = 54 ∨ k = 71 ∨ k = 76 := by
  have key : ∀ i, i < 111 → z_kd i = (2, 0) → i = 20 ∨ i = 37 ∨ i = 54 ∨ i = 71 ∨ i = 76 := by decide +kernel
  exact key k (z_kd_lt h (by decide)) h
theorem q_fr.cong {k : Nat} {σ τ : zM} (h : q_fr k σ τ) (c i : Nat) (v : Int) : q_fr k (z_up σ c i v) (z_up τ c i v) := by
  intro a j hj
  simp only [z_up]
  split
  · rfl
  · exact h a j hj
theorem q_rs.far {σ : zM} {k : Nat} {b : Nat → Int} {T p : Nat} {f : Int} (h : q_rs σ k b T p f) {c : Nat} (hc : c ≠ k ∧ c ≠ k + 1) (i : Nat) (v : Int) : q_rs (z_up σ c i v) k b T p f := by
  obtain ⟨h1, h2, h3, ⟨a1, a2, a3, a4⟩, h5, h6⟩ := h
  have ne : ∀ j, z_up σ c i v k j = σ k j := fun j => z_up_ne (Or.inl (fun e => hc.1 e.symm))
  have e : z_up σ c i v (k + 1) = σ (k + 1) := funext fun j => z_up_ne (Or.inl (fun e => hc.2 e.symm))
  exact ⟨by rw [ne]; exact h1, h2, by rw [e]; exact h3, ⟨by rw [ne]; exact a1, by rw [ne]; exact a2, by rw [ne]; exact a3, fun q => by rw [ne]; exact a4 q⟩, h5, by rw [ne]; exact h6⟩
def q_t1 (b : Nat → Int) (T p : Nat) : Int × Nat × Int := q_pn b T (q_te b T p) 0 10 99
def q_t2 (b : Nat → Int) (T p : Nat) : Int × Nat × Int := q_pn b T (q_t1 b T p).2.1 (q_t1 b T p).2.2 1 20
def q_t3 (b : Nat → Int) (T p : Nat) : Int × Nat × Int := q_pn b T (q_t2 b T p).2.1 (q_t2 b T p).2.2 0 7
def q_t4 (b : Nat → Int) (T p : Nat) : Int × Nat × Int := q_pn b T (q_t3 b T p).2.1 (q_t3 b T p).2.2 0 5
def q_t5 (b : Nat → Int) (T p : Nat) : Nat × Int := q_ps b T (q_t4 b T p).2.1 (q_t4 b T p).2.2
def q_addT (σ : zM) (t : Nat) (l u s g : Int) : zM := z_up (z_up (z_up (z_up (z_up (z_up (z_up σ (t + 1) (σ t 6).toNat l) (t + 2) (σ t 6).toNat u) (t + 3) (σ t 6).toNat s) (t + 4) (σ t 6).toNat g) (t + 5) (σ t 6).toNat 0) (t + 6) (σ t 6).toNat 0) t 6 (σ t 6 + 1)
def SX4_readTree : zS := fun as σ Ret => match as with
  | [.inr (.inr (4, 0, k)), .inr (.inr (6, 0, t))] => ∃ b T p, (q_rs σ k b T p 0 ∧ 0 ≤ σ t 6 ∧ σ t 6 ≤ 12) ∧ (12 ≤ σ t 6 → ∀ σ' : zM, q_fr k σ σ' → q_rs σ' k b T p 3 → Ret none σ') ∧ (σ t 6 < 12 → ∀ σ' : zM, q_fr k (q_addT σ t (q_t1 b T p).1 (q_t2 b T p).1 (q_t3 b T p).1 (q_t4 b T p).1) σ' → q_rs σ' k b T (q_t5 b T p).1 (q_t5 b T p).2 → Ret none σ')
  | _ => False
def tX4_readTree_0 (X : Nat → zB) (Ret : zR) (L : zL) (st : List zV) (σ : zM) : Prop := (z_aload 1 (z_geti 6 6 (z_push 12 (z_iclt (z_aload 0 (z_cv0 4 SX4_next (z_aload 0 (z_push 10 (z_push 99 (z_cv2 4 SX4_takeNumber (z_istore 2 (z_aload 0 (z_push 1 (z_push 20 (z_cv2 4 SX4_takeNumber (z_istore 3 (z_aload 0 (z_push 0 (z_push 7 (z_cv2 4 SX4_takeNumber (z_istore 4 (z_aload 0 (z_push 0 (z_push 5 (z_cv2 4 SX4_takeNumber (z_istore 5 (z_aload 0 (z_cv0 4 SX4_takeSign (z_aload 1 (z_iload 2 (z_iload 3 (z_iload 4 (z_iload 5 (z_cv4 6 SX6_add (z_vret Ret))))))))))))))))))))))))))))))) (z_aload 0 (z_push 3 (z_cv1 4 SX4_fail (z_vret Ret)))))))) L st σ
theorem pX4_readTree {as : List zV} {σ : zM} {Ret : zR} (h : SX4_readTree as σ Ret) : ∃ (k0 : Nat) (k1 : Nat), as = [.inr (.inr (4, 0, k0)), .inr (.inr (6, 0, k1))] := by
  unfold SX4_readTree at h
  split at h
  · exact ⟨_, _, rfl⟩
  · exact h.elim
set_option maxRecDepth 10000 in
set_option maxHeartbeats 4000000 in
theorem vX4_readTree {X : Nat → zB} {Ret : zR} (h0 : ∀ L st σ, tX4_readTree_0 X Ret L st σ → X 0 L st σ) (k0 : Nat) (k1 : Nat) (σ : zM) (hk0 : z_kd k0 = (4, 0)) (hk1 : z_kd k1 = (6, 0)) (hσ : z_okm σ) (h : SX4_readTree [.inr (.inr (4, 0, k0)), .inr (.inr (6, 0, k1))] σ Ret) : X 0 [some (.inr (.inr (4, 0, k0))), some (.inr (.inr (6, 0, k1))), none, none, none, none] [] σ := by
  obtain ⟨b, T, p, ⟨rs, c0, c1⟩, hf, hs⟩ := h
  have ek := z_kd4 hk0
  have et := z_kd6 hk1
  have r3 : σ k0 3 = 0 := rs.2.2.2.2.2
  by_cases hc : 12 ≤ σ k1 6
  · have fin := hf hc (z_up σ k0 3 3) (q_fr.rf.up (by omega) 3) (rs.fault 3)
    refine h0 _ _ _ ?_
    simp only [z_push, z_lpush, z_iload, z_lload, z_aload, z_istore, z_istoreP, z_lstore, z_astore, z_iinc, z_iincP, z_iadd, z_isub, z_imul, z_iaddW, z_isubW, z_imulW, z_idiv, z_irem, z_iand, z_ior, z_ixor, z_ishl, z_ishr, z_iushr, z_ineg, z_i2l, z_i2b, z_i2s, z_i2c, z_l2i, z_ladd, z_lsub, z_land, z_lor, z_lshl, z_lshr, z_lcmp, z_dup, z_pop, z_dup2, z_goto, z_tsw, z_cases, z_geti, z_getr, z_puti, z_putz, z_ald, z_iast, z_bast, z_zast, z_alen, z_acopy, z_mmax, z_mmin, z_mabs, z_mabsL, z_iret, z_zret, z_nret, z_lret, z_aret, z_vret, z_cat, z_xald, z_xlen, z_ldcs, z_strv, z_strc, z_gcs, z_gfm, z_sln, z_sald, z_ifeq, z_ifne, z_iflt, z_ifge, z_ifgt, z_ifle, z_iceq, z_icne, z_iclt, z_icge, z_icgt, z_icle, z_cs0, z_cs1, z_cs2, z_cs3, z_cs4, z_cs5, z_cs6, z_cs7, z_cv0, z_cv1, z_cv2, z_cv3, z_cv4, z_cv5, z_cv6, z_cv7, z_g0, z_s0, z_g1, z_s1, z_g2, z_s2, z_g3, z_s3, z_g4, z_s4, z_g5, z_s5, z_g6, z_s6, z_g7, z_s7, z_g8, z_s8, z_g9, z_s9, z_g10, z_s10, z_g11, z_s11, z_g12, z_s12, z_g13, z_s13, z_b0, z_b1, z_b0n, z_b1n, z_up_far1, z_up_far2, z_up_far3, z_up_far4, z_up_far5, z_up_far6, Classical.not_not, not_true_eq_false, z_in, z_inL, Int.cast_ofNat_Int, Nat.reduceLeDiff, List.length_cons, List.length_nil, Nat.reduceAdd, Nat.zero_add, Nat.le_refl, true_and, and_true, List.length, Nat.reduceLT, true_or, or_true, false_or, or_false, false_and, and_false, not_true_eq_false, not_false_eq_true, forall_const, false_implies, true_implies, Int.reduceEq, Int.reduceLT, Int.reduceLE, Int.reduceAdd, Int.reduceSub, Int.reduceMul, Int.reduceNeg, Int.reduceToNat, Int.toNat_natCast, ↓reduceIte, reduceIte, Nat.reduceEqDiff, Nat.reduceSub, Nat.reduceMul, ne_eq, Int.zero_add, Int.add_zero, Int.sub_zero, Nat.add_zero, Int.ofNat_eq_natCast, tX4_readTree_0, SX4_fail, r3]
    repeat' (first | (with_reducible intro _) | (with_reducible assumption) | (with_reducible refine And.intro ?_ ?_))
    all_goals first | omega | (with_reducible assumption) | (with_reducible refine z_fin fin ?_ rfl; first | rfl | omega | (split <;> omega) | (split <;> split <;> omega)) | skip
  · have hs := hs (by omega)
    refine h0 _ _ _ ?_
    simp only [z_push, z_lpush, z_iload, z_lload, z_aload, z_istore, z_istoreP, z_lstore, z_astore, z_iinc, z_iincP, z_iadd, z_isub, z_imul, z_iaddW, z_isubW, z_imulW, z_idiv, z_irem, z_iand, z_ior, z_ixor, z_ishl, z_ishr, z_iushr, z_ineg, z_i2l, z_i2b, z_i2s, z_i2c, z_l2i, z_ladd, z_lsub, z_land, z_lor, z_lshl, z_lshr, z_lcmp, z_dup, z_pop, z_dup2, z_goto, z_tsw, z_cases, z_geti, z_getr, z_puti, z_putz, z_ald, z_iast, z_bast, z_zast, z_alen, z_acopy, z_mmax, z_mmin, z_mabs, z_mabsL, z_iret, z_zret, z_nret, z_lret, z_aret, z_vret, z_cat, z_xald, z_xlen, z_ldcs, z_strv, z_strc, z_gcs, z_gfm, z_sln, z_sald, z_ifeq, z_ifne, z_iflt, z_ifge, z_ifgt, z_ifle, z_iceq, z_icne, z_iclt, z_icge, z_icgt, z_icle, z_cs0, z_cs1, z_cs2, z_cs3, z_cs4, z_cs5, z_cs6, z_cs7, z_cv0, z_cv1, z_cv2, z_cv3, z_cv4, z_cv5, z_cv6, z_cv7, z_g0, z_s0, z_g1, z_s1, z_g2, z_s2, z_g3, z_s3, z_g4, z_s4, z_g5, z_s5, z_g6, z_s6, z_g7, z_s7, z_g8, z_s8, z_g9, z_s9, z_g10, z_s10, z_g11, z_s11, z_g12, z_s12, z_g13, z_s13, z_b0, z_b1, z_b0n, z_b1n, z_up_far1, z_up_far2, z_up_far3, z_up_far4, z_up_far5, z_up_far6, Classical.not_not, not_true_eq_false, z_in, z_inL, Int.cast_ofNat_Int, Nat.reduceLeDiff, List.length_cons, List.length_nil, Nat.reduceAdd, Nat.zero_add, Nat.le_refl, true_and, and_true, List.length, Nat.reduceLT, true_or, or_true, false_or, or_false, false_and, and_false, not_true_eq_false, not_false_eq_true, forall_const, false_implies, true_implies, Int.reduceEq, Int.reduceLT, Int.reduceLE, Int.reduceAdd, Int.reduceSub, Int.reduceMul, Int.reduceNeg, Int.reduceToNat, Int.toNat_natCast, ↓reduceIte, reduceIte, Nat.reduceEqDiff, Nat.reduceSub, Nat.reduceMul, ne_eq, Int.zero_add, Int.add_zero, Int.sub_zero, Nat.add_zero, Int.ofNat_eq_natCast, tX4_readTree_0]
    repeat' (first | (with_reducible intro _) | (with_reducible assumption) | (with_reducible refine And.intro ?_ ?_))
    all_goals first | omega | (with_reducible assumption) | (with_reducible refine z_fin hs ?_ rfl; first | rfl | omega | (split <;> omega) | (split <;> split <;> omega)) | skip
    refine q_next rs (fun σ1 f1 g1 => ?_)
    simp only [z_push, z_lpush, z_iload, z_lload, z_aload, z_istore, z_istoreP, z_lstore, z_astore, z_iinc, z_iincP, z_iadd, z_isub, z_imul, z_iaddW, z_isubW, z_imulW, z_idiv, z_irem, z_iand, z_ior, z_ixor, z_ishl, z_ishr, z_iushr, z_ineg, z_i2l, z_i2b, z_i2s, z_i2c, z_l2i, z_ladd, z_lsub, z_land, z_lor, z_lshl, z_lshr, z_lcmp, z_dup, z_pop, z_dup2, z_goto, z_tsw, z_cases, z_geti, z_getr, z_puti, z_putz, z_ald, z_iast, z_bast, z_zast, z_alen, z_acopy, z_mmax, z_mmin, z_mabs, z_mabsL, z_iret, z_zret, z_nret, z_lret, z_aret, z_vret, z_cat, z_xald, z_xlen, z_ldcs, z_strv, z_strc, z_gcs, z_gfm, z_sln, z_sald, z_ifeq, z_ifne, z_iflt, z_ifge, z_ifgt, z_ifle, z_iceq, z_icne, z_iclt, z_icge, z_icgt, z_icle, z_cs0, z_cs1, z_cs2, z_cs3, z_cs4, z_cs5, z_cs6, z_cs7, z_cv0, z_cv1, z_cv2, z_cv3, z_cv4, z_cv5, z_cv6, z_cv7, z_g0, z_s0, z_g1, z_s1, z_g2, z_s2, z_g3, z_s3, z_g4, z_s4, z_g5, z_s5, z_g6, z_s6, z_g7, z_s7, z_g8, z_s8, z_g9, z_s9, z_g10, z_s10, z_g11, z_s11, z_g12, z_s12, z_g13, z_s13, z_b0, z_b1, z_b0n, z_b1n, z_up_far1, z_up_far2, z_up_far3, z_up_far4, z_up_far5, z_up_far6, Classical.not_not, not_true_eq_false, z_in, z_inL, Int.cast_ofNat_Int, Nat.reduceLeDiff, List.length_cons, List.length_nil, Nat.reduceAdd, Nat.zero_add, Nat.le_refl, true_and, and_true, List.length, Nat.reduceLT, true_or, or_true, false_or, or_false, false_and, and_false, not_true_eq_false, not_false_eq_true, forall_const, false_implies, true_implies, Int.reduceEq, Int.reduceLT, Int.reduceLE, Int.reduceAdd, Int.reduceSub, Int.reduceMul, Int.reduceNeg, Int.reduceToNat, Int.toNat_natCast, ↓reduceIte, reduceIte, Nat.reduceEqDiff, Nat.reduceSub, Nat.reduceMul, ne_eq, Int.zero_add, Int.add_zero, Int.sub_zero, Nat.add_zero, Int.ofNat_eq_natCast, SX4_takeNumber, SX4_takeSign, SX6_add]
    refine ⟨b, T, _, _, g1, fun σ2 f2 g2 => ⟨b, T, _, _, g2, fun σ3 f3 g3 => ⟨b, T, _, _, g3, fun σ4 f4 g4 => ⟨b, T, _, _, g4, fun σ5 f5 g5 => ⟨b, T, _, _, g5, fun σ6 f6 g6 => ?_⟩⟩⟩⟩⟩
    have fr := ((((f1.tr f2).tr f3).tr f4).tr f5).tr f6
    have e6 : σ6 k1 6 = σ k1 6 := fr _ _ (by omega)
    rw [e6]
    refine ⟨⟨by omega, by omega⟩, ?_⟩
    refine hs _ ?_ ?_
    · exact ((((((fr.cong _ _ _).cong _ _ _).cong _ _ _).cong _ _ _).cong _ _ _).cong _ _ _).cong _ _ _
    · exact ((((((g6.far (by omega) _ _).far (by omega) _ _).far (by omega) _ _).far (by omega) _ _).far (by omega) _ _).far (by omega) _ _).far (by omega) _ _
theorem dX4_readTree_0 : decode cX4_readTree 0 = .ok (.aload_n 1, 1) := by decide +kernel
theorem dX4_readTree_1 : decode cX4_readTree 1 = .ok (.getfield 90, 3) := by decide +kernel
theorem dX4_readTree_4 : decode cX4_readTree 4 = .ok (.bipush 12, 2) := by decide +kernel
theorem dX4_readTree_6 : decode cX4_readTree 6 = .ok (.if_icmp .lt 9, 3) := by decide +kernel
theorem dX4_readTree_9 : decode cX4_readTree 9 = .ok (.aload_n 0, 1) := by decide +kernel
theorem dX4_readTree_10 : decode cX4_readTree 10 = .ok (.iconst 3, 1) := by decide +kernel
theorem dX4_readTree_11 : decode cX4_readTree 11 = .ok (.invokevirtual 86, 3) := by decide +kernel
theorem dX4_readTree_14 : decode cX4_readTree 14 = .ok (.return_, 1) := by decide +kernel
theorem dX4_readTree_15 : decode cX4_readTree 15 = .ok (.aload_n 0, 1) := by decide +kernel
theorem dX4_readTree_16 : decode cX4_readTree 16 = .ok (.invokevirtual 50, 3) := by decide +kernel
theorem dX4_readTree_19 : decode cX4_readTree 19 = .ok (.aload_n 0, 1) := by decide +kernel
theorem dX4_readTree_20 : decode cX4_readTree 20 = .ok (.bipush 10, 2) := by decide +kernel
theorem dX4_readTree_22 : decode cX4_readTree 22 = .ok (.bipush 99, 2) := by decide +kernel
theorem dX4_readTree_24 : decode cX4_readTree 24 = .ok (.invokevirtual 93, 3) := by decide +kernel
theorem dX4_readTree_27 : decode cX4_readTree 27 = .ok (.istore_n 2, 1) := by decide +kernel
theorem dX4_readTree_28 : decode cX4_readTree 28 = .ok (.aload_n 0, 1) := by decide +kernel
theorem dX4_readTree_29 : decode cX4_readTree 29 = .ok (.iconst 1, 1) := by decide +kernel
theorem dX4_readTree_30 : decode cX4_readTree 30 = .ok (.bipush 20, 2) := by decide +kernel
theorem dX4_readTree_32 : decode cX4_readTree 32 = .ok (.invokevirtual 93, 3) := by decide +kernel
theorem dX4_readTree_35 : decode cX4_readTree 35 = .ok (.istore_n 3, 1) := by decide +kernel
theorem dX4_readTree_36 : decode cX4_readTree 36 = .ok (.aload_n 0, 1) := by decide +kernel
theorem dX4_readTree_37 : decode cX4_readTree 37 = .ok (.iconst 0, 1) := by decide +kernel
theorem dX4_readTree_38 : decode cX4_readTree 38 = .ok (.bipush 7, 2) := by decide +kernel
theorem dX4_readTree_40 : decode cX4_readTree 40 = .ok (.invokevirtual 93, 3) := by decide +kernel
theorem dX4_readTree_43 : decode cX4_readTree 43 = .ok (.istore 4, 2) := by decide +kernel
theorem dX4_readTree_45 : decode cX4_readTree 45 = .ok (.aload_n 0, 1) := by decide +kernel
theorem dX4_readTree_46 : decode cX4_readTree 46 = .ok (.iconst 0, 1) := by decide +kernel
theorem dX4_readTree_47 : decode cX4_readTree 47 = .ok (.iconst 5, 1) := by decide +kernel
theorem dX4_readTree_48 : decode cX4_readTree 48 = .ok (.invokevirtual 93, 3) := by decide +kernel
theorem dX4_readTree_51 : decode cX4_readTree 51 = .ok (.istore 5, 2) := by decide +kernel
theorem dX4_readTree_53 : decode cX4_readTree 53 = .ok (.aload_n 0, 1) := by decide +kernel
theorem dX4_readTree_54 : decode cX4_readTree 54 = .ok (.invokevirtual 97, 3) := by decide +kernel
theorem dX4_readTree_57 : decode cX4_readTree 57 = .ok (.aload_n 1, 1) := by decide +kernel
theorem dX4_readTree_58 : decode cX4_readTree 58 = .ok (.iload_n 2, 1) := by decide +kernel
theorem dX4_readTree_59 : decode cX4_readTree 59 = .ok (.iload_n 3, 1) := by decide +kernel
theorem dX4_readTree_60 : decode cX4_readTree 60 = .ok (.iload 4, 2) := by decide +kernel
theorem dX4_readTree_62 : decode cX4_readTree 62 = .ok (.iload 5, 2) := by decide +kernel
theorem dX4_readTree_64 : decode cX4_readTree 64 = .ok (.invokevirtual 100, 3) := by decide +kernel
theorem dX4_readTree_67 : decode cX4_readTree 67 = .ok (.return_, 1) := by decide +kernel
set_option maxRecDepth 100000 in
theorem rX4_readTree_0 {zx : zX} {zn : Nat} {p : Program} {l : Launch} {e : Env} {s : State} {m : MethodId} {args : Array Value} {below : List Frame} {meth : Method} {c : Code} {D : va_G} {cA : Nat → ClassId} {ad : Nat → Nat} {Ret : zR} (C : z_Cx zx zn (z_A zn ad) 0 0 p { frames := 3, cells := 0, slots := 0, locals := 65 } s m args c cX4_readTree yX4_readTree.cls 6 D cA ad) (hr : meth.sig.returnType = none) (hlocks : meth.locks = false) : ∀ L st σ, tX4_readTree_0 (z_X zx zn (z_A zn ad) 0 0 p l e { frames := 3, cells := 0, slots := 0, locals := 65 } s m args below meth c (MQ below (z_Qc zn D cA ad Ret) args s 0 0 (z_A zn ad)) 6 D cA ad true) Ret L st σ → z_X zx zn (z_A zn ad) 0 0 p l e { frames := 3, cells := 0, slots := 0, locals := 65 } s m args below meth c (MQ below (z_Qc zn D cA ad Ret) args s 0 0 (z_A zn ad)) 6 D cA ad true 0 L st σ := (s_aload_n C dX4_readTree_0 rfl (s_geti C dX4_readTree_1 cls_X6 (by decide) rfl wd_127 (s_bipush C dX4_readTree_4 rfl ⟨by decide, by decide⟩ (s_iclt C dX4_readTree_6 (by decide) (s_aload_n C dX4_readTree_15 rfl (s_cv0 C dX4_readTree_16 (okX4_next l) cls_X4 wd_335 wd_337 wd_1 wd_18 wd_338 ⟨by decide, by decide, by decide +kernel⟩ ⟨by decide, by decide⟩ (s_aload_n C dX4_readTree_19 rfl (s_bipush C dX4_readTree_20 rfl ⟨by decide, by decide⟩ (s_bipush C dX4_readTree_22 rfl ⟨by decide, by decide⟩ (s_cv2 C dX4_readTree_24 (okX4_takeNumber l) cls_X4 wd_431 wd_433 wd_8 wd_18 wd_434 ⟨by decide, by decide, by decide +kernel⟩ ⟨by decide, by decide⟩ (s_istore_n C dX4_readTree_27 (by decide) rfl rfl (s_aload_n C dX4_readTree_28 rfl (s_iconst C dX4_readTree_29 rfl ⟨by decide, by decide⟩ (s_bipush C dX4_readTree_30 rfl ⟨by decide, by decide⟩ (s_cv2 C dX4_readTree_32 (okX4_takeNumber l) cls_X4 wd_431 wd_433 wd_8 wd_18 wd_434 ⟨by decide, by decide, by decide +kernel⟩ ⟨by decide, by decide⟩ (s_istore_n C dX4_readTree_35 (by decide) rfl rfl (s_aload_n C dX4_readTree_36 rfl (s_iconst C dX4_readTree_37 rfl ⟨by decide, by decide⟩ (s_bipush C dX4_readTree_38 rfl ⟨by decide, by decide⟩ (s_cv2 C dX4_readTree_40 (okX4_takeNumber l) cls_X4 wd_431 wd_433 wd_8 wd_18 wd_434 ⟨by decide, by decide, by decide +kernel⟩ ⟨by decide, by decide⟩ (s_istore C dX4_readTree_43 (by decide) rfl (s_aload_n C dX4_readTree_45 rfl (s_iconst C dX4_readTree_46 rfl ⟨by decide, by decide⟩ (s_iconst C dX4_readTree_47 rfl ⟨by decide, by decide⟩ (s_cv2 C dX4_readTree_48 (okX4_takeNumber l) cls_X4 wd_431 wd_433 wd_8 wd_18 wd_434 ⟨by decide, by decide, by decide +kernel⟩ ⟨by decide, by decide⟩ (s_istore C dX4_readTree_51 (by decide) rfl (s_aload_n C dX4_readTree_53 rfl (s_cv0 C dX4_readTree_54 (okX4_takeSign l) cls_X4 wd_435 wd_437 wd_9 wd_18 wd_438 ⟨by decide, by decide, by decide +kernel⟩ ⟨by decide, by decide⟩ (s_aload_n C dX4_readTree_57 rfl (s_iload_n C dX4_readTree_58 rfl (s_iload_n C dX4_readTree_59 rfl (s_iload C dX4_readTree_60 (s_iload C dX4_readTree_62 (s_cv4 C dX4_readTree_64 (okX6_add l) cls_X6 wd_609 wd_610 wd_611 wd_21 wd_612 ⟨by decide, by decide, by decide +kernel⟩ ⟨by decide, by decide⟩ (s_vret C dX4_readTree_67 hr hlocks))))))))))))))))))))))))))))))) (s_aload_n C dX4_readTree_9 rfl (s_iconst C dX4_readTree_10 rfl ⟨by decide, by decide⟩ (s_cv1 C dX4_readTree_11 (okX4_fail l) cls_X4 wd_427 wd_429 wd_7 wd_18 wd_430 ⟨by decide, by decide, by decide +kernel⟩ ⟨by decide, by decide⟩ (s_vret C dX4_readTree_14 hr hlocks))))))))
theorem okX4_readTree {zx : zX} {zn : Nat} (l : Launch) : z_OK zx zn l yX4_readTree cX4_readTree 6 none 3 65 SX4_readTree := by
  refine z_ok_of true (by decide +kernel) ?_ ?_
  · intro as σ Ret h
    obtain ⟨k0, k1, rfl⟩ := pX4_readTree h
    exact ⟨Nat.le_of_ble_eq_true rfl, by simp⟩
  · intro p e s m args below meth c D cA ad Ret C hr hlocks as σ has hσ h
    obtain ⟨k0, k1, rfl⟩ := pX4_readTree h
    exact vX4_readTree (rX4_readTree_0 C hr hlocks) k0 k1 σ (has _ (List.mem_of_getElem? (i := 0) rfl)).1 (has _ (List.mem_of_getElem? (i := 1) rfl)).1 hσ h
def q_w1 (b : Nat → Int) (T p : Nat) : Int × Nat × Int := q_pn b T (q_te b T p) 0 0 7
def q_w2 (b : Nat → Int) (T p : Nat) : Int × Nat × Int := q_pn b T (q_w1 b T p).2.1 (q_w1 b T p).2.2 1 20
def q_w3 (b : Nat → Int) (T p : Nat) : Int × Nat × Int := q_pn b T (q_w2 b T p).2.1 (q_w2 b T p).2.2 1 99
def q_w4 (b : Nat → Int) (T p : Nat) : Nat × Int := q_ps b T (q_w3 b T p).2.1 (q_w3 b T p).2.2
def q_addW (σ : zM) (t : Nat) (x y z : Int) : zM := z_up (z_up (z_up (z_up σ (t + 1) (σ t 3).toNat x) (t + 2) (σ t 3).toNat y) (t + 3) (σ t 3).toNat z) t 3 (σ t 3 + 1)
def SX4_readWind : zS := fun as σ Ret => match as with
  | [.inr (.inr (4, 0, k)), .inr (.inr (7, 0, t))] => ∃ b T p, (q_rs σ k b T p 0 ∧ 0 ≤ σ t 3 ∧ σ t 3 ≤ 6) ∧ (6 ≤ σ t 3 → ∀ σ' : zM, q_fr k σ σ' → q_rs σ' k b T p 3 → Ret none σ') ∧ (σ t 3 < 6 → ∀ σ' : zM, q_fr k (q_addW σ t (q_w1 b T p).1 (q_w2 b T p).1 (q_w3 b T p).1) σ' → q_rs σ' k b T (q_w4 b T p).1 (q_w4 b T p).2 → Ret none σ')
  | _ => False
def tX4_readWind_0 (X : Nat → zB) (Ret : zR) (L : zL) (st : List zV) (σ : zM) : Prop := (z_aload 1 (z_geti 7 3 (z_push 6 (z_iclt (z_aload 0 (z_cv0 4 SX4_next (z_aload 0 (z_push 0 (z_push 7 (z_cv2 4 SX4_takeNumber (z_istore 2 (z_aload 0 (z_push 1 (z_push 20 (z_cv2 4 SX4_takeNumber (z_istore 3 (z_aload 0 (z_push 1 (z_push 99 (z_cv2 4 SX4_takeNumber (z_istore 4 (z_aload 0 (z_cv0 4 SX4_takeSign (z_aload 1 (z_iload 2 (z_iload 3 (z_iload 4 (z_cv3 7 SX7_add (z_vret Ret))))))))))))))))))))))))) (z_aload 0 (z_push 3 (z_cv1 4 SX4_fail (z_vret Ret)))))))) L st σ
theorem pX4_readWind {as : List zV} {σ : zM} {Ret : zR} (h : SX4_readWind as σ Ret) : ∃ (k0 : Nat) (k1 : Nat), as = [.inr (.inr (4, 0, k0)), .inr (.inr (7, 0, k1))] := by
  unfold SX4_readWind at h
  split at h
  · exact ⟨_, _, rfl⟩
  · exact h.elim
set_option maxRecDepth 10000 in
set_option maxHeartbeats 4000000 in
theorem vX4_readWind {X : Nat → zB} {Ret : zR} (h0 : ∀ L st σ, tX4_readWind_0 X Ret L st σ → X 0 L st σ) (k0 : Nat) (k1 : Nat) (σ : zM) (hk0 : z_kd k0 = (4, 0)) (hk1 : z_kd k1 = (7, 0)) (hσ : z_okm σ) (h : SX4_readWind [.inr (.inr (4, 0, k0)), .inr (.inr (7, 0, k1))] σ Ret) : X 0 [some (.inr (.inr (4, 0, k0))), some (.inr (.inr (7, 0, k1))), none, none, none] [] σ := by
  obtain ⟨b, T, p, ⟨rs, c0, c1⟩, hf, hs⟩ := h
  have ek := z_kd4 hk0
  have et := z_kd7 hk1
  have r3 : σ k0 3 = 0 := rs.2.2.2.2.2
  by_cases hc : 6 ≤ σ k1 3
  · have fin := hf hc (z_up σ k0 3 3) (q_fr.rf.up (by omega) 3) (rs.fault 3)
    refine h0 _ _ _ ?_
    simp only [z_push, z_lpush, z_iload, z_lload, z_aload, z_istore, z_istoreP, z_lstore, z_astore, z_iinc, z_iincP, z_iadd, z_isub, z_imul, z_iaddW, z_isubW, z_imulW, z_idiv, z_irem, z_iand, z_ior, z_ixor, z_ishl, z_ishr, z_iushr, z_ineg, z_i2l, z_i2b, z_i2s, z_i2c, z_l2i, z_ladd, z_lsub, z_land, z_lor, z_lshl, z_lshr, z_lcmp, z_dup, z_pop, z_dup2, z_goto, z_tsw, z_cases, z_geti, z_getr, z_puti, z_putz, z_ald, z_iast, z_bast, z_zast, z_alen, z_acopy, z_mmax, z_mmin, z_mabs, z_mabsL, z_iret, z_zret, z_nret, z_lret, z_aret, z_vret, z_cat, z_xald, z_xlen, z_ldcs, z_strv, z_strc, z_gcs, z_gfm, z_sln, z_sald, z_ifeq, z_ifne, z_iflt, z_ifge, z_ifgt, z_ifle, z_iceq, z_icne, z_iclt, z_icge, z_icgt, z_icle, z_cs0, z_cs1, z_cs2, z_cs3, z_cs4, z_cs5, z_cs6, z_cs7, z_cv0, z_cv1, z_cv2, z_cv3, z_cv4, z_cv5, z_cv6, z_cv7, z_g0, z_s0, z_g1, z_s1, z_g2, z_s2, z_g3, z_s3, z_g4, z_s4, z_g5, z_s5, z_g6, z_s6, z_g7, z_s7, z_g8, z_s8, z_g9, z_s9, z_g10, z_s10, z_g11, z_s11, z_g12, z_s12, z_g13, z_s13, z_b0, z_b1, z_b0n, z_b1n, z_up_far1, z_up_far2, z_up_far3, z_up_far4, z_up_far5, z_up_far6, Classical.not_not, not_true_eq_false, z_in, z_inL, Int.cast_ofNat_Int, Nat.reduceLeDiff, List.length_cons, List.length_nil, Nat.reduceAdd, Nat.zero_add, Nat.le_refl, true_and, and_true, List.length, Nat.reduceLT, true_or, or_true, false_or, or_false, false_and, and_false, not_true_eq_false, not_false_eq_true, forall_const, false_implies, true_implies, Int.reduceEq, Int.reduceLT, Int.reduceLE, Int.reduceAdd, Int.reduceSub, Int.reduceMul, Int.reduceNeg, Int.reduceToNat, Int.toNat_natCast, ↓reduceIte, reduceIte, Nat.reduceEqDiff, Nat.reduceSub, Nat.reduceMul, ne_eq, Int.zero_add, Int.add_zero, Int.sub_zero, Nat.add_zero, Int.ofNat_eq_natCast, tX4_readWind_0, SX4_fail, r3]
    repeat' (first | (with_reducible intro _) | (with_reducible assumption) | (with_reducible refine And.intro ?_ ?_))
    all_goals first | omega | (with_reducible assumption) | (with_reducible refine z_fin fin ?_ rfl; first | rfl | omega | (split <;> omega) | (split <;> split <;> omega)) | skip
  · have hs := hs (by omega)
    refine h0 _ _ _ ?_
    simp only [z_push, z_lpush, z_iload, z_lload, z_aload, z_istore, z_istoreP, z_lstore, z_astore, z_iinc, z_iincP, z_iadd, z_isub, z_imul, z_iaddW, z_isubW, z_imulW, z_idiv, z_irem, z_iand, z_ior, z_ixor, z_ishl, z_ishr, z_iushr, z_ineg, z_i2l, z_i2b, z_i2s, z_i2c, z_l2i, z_ladd, z_lsub, z_land, z_lor, z_lshl, z_lshr, z_lcmp, z_dup, z_pop, z_dup2, z_goto, z_tsw, z_cases, z_geti, z_getr, z_puti, z_putz, z_ald, z_iast, z_bast, z_zast, z_alen, z_acopy, z_mmax, z_mmin, z_mabs, z_mabsL, z_iret, z_zret, z_nret, z_lret, z_aret, z_vret, z_cat, z_xald, z_xlen, z_ldcs, z_strv, z_strc, z_gcs, z_gfm, z_sln, z_sald, z_ifeq, z_ifne, z_iflt, z_ifge, z_ifgt, z_ifle, z_iceq, z_icne, z_iclt, z_icge, z_icgt, z_icle, z_cs0, z_cs1, z_cs2, z_cs3, z_cs4, z_cs5, z_cs6, z_cs7, z_cv0, z_cv1, z_cv2, z_cv3, z_cv4, z_cv5, z_cv6, z_cv7, z_g0, z_s0, z_g1, z_s1, z_g2, z_s2, z_g3, z_s3, z_g4, z_s4, z_g5, z_s5, z_g6, z_s6, z_g7, z_s7, z_g8, z_s8, z_g9, z_s9, z_g10, z_s10, z_g11, z_s11, z_g12, z_s12, z_g13, z_s13, z_b0, z_b1, z_b0n, z_b1n, z_up_far1, z_up_far2, z_up_far3, z_up_far4, z_up_far5, z_up_far6, Classical.not_not, not_true_eq_false, z_in, z_inL, Int.cast_ofNat_Int, Nat.reduceLeDiff, List.length_cons, List.length_nil, Nat.reduceAdd, Nat.zero_add, Nat.le_refl, true_and, and_true, List.length, Nat.reduceLT, true_or, or_true, false_or, or_false, false_and, and_false, not_true_eq_false, not_false_eq_true, forall_const, false_implies, true_implies, Int.reduceEq, Int.reduceLT, Int.reduceLE, Int.reduceAdd, Int.reduceSub, Int.reduceMul, Int.reduceNeg, Int.reduceToNat, Int.toNat_natCast, ↓reduceIte, reduceIte, Nat.reduceEqDiff, Nat.reduceSub, Nat.reduceMul, ne_eq, Int.zero_add, Int.add_zero, Int.sub_zero, Nat.add_zero, Int.ofNat_eq_natCast, tX4_readWind_0]
    repeat' (first | (with_reducible intro _) | (with_reducible assumption) | (with_reducible refine And.intro ?_ ?_))
    all_goals first | omega | (with_reducible assumption) | (with_reducible refine z_fin hs ?_ rfl; first | rfl | omega | (split <;> omega) | (split <;> split <;> omega)) | skip
    refine q_next rs (fun σ1 f1 g1 => ?_)
    simp only [z_push, z_lpush, z_iload, z_lload, z_aload, z_istore, z_istoreP, z_lstore, z_astore, z_iinc, z_iincP, z_iadd, z_isub, z_imul, z_iaddW, z_isubW, z_imulW, z_idiv, z_irem, z_iand, z_ior, z_ixor, z_ishl, z_ishr, z_iushr, z_ineg, z_i2l, z_i2b, z_i2s, z_i2c, z_l2i, z_ladd, z_lsub, z_land, z_lor, z_lshl, z_lshr, z_lcmp, z_dup, z_pop, z_dup2, z_goto, z_tsw, z_cases, z_geti, z_getr, z_puti, z_putz, z_ald, z_iast, z_bast, z_zast, z_alen, z_acopy, z_mmax, z_mmin, z_mabs, z_mabsL, z_iret, z_zret, z_nret, z_lret, z_aret, z_vret, z_cat, z_xald, z_xlen, z_ldcs, z_strv, z_strc, z_gcs, z_gfm, z_sln, z_sald, z_ifeq, z_ifne, z_iflt, z_ifge, z_ifgt, z_ifle, z_iceq, z_icne, z_iclt, z_icge, z_icgt, z_icle, z_cs0, z_cs1, z_cs2, z_cs3, z_cs4, z_cs5, z_cs6, z_cs7, z_cv0, z_cv1, z_cv2, z_cv3, z_cv4, z_cv5, z_cv6, z_cv7, z_g0, z_s0, z_g1, z_s1, z_g2, z_s2, z_g3, z_s3, z_g4, z_s4, z_g5, z_s5, z_g6, z_s6, z_g7, z_s7, z_g8, z_s8, z_g9, z_s9, z_g10, z_s10, z_g11, z_s11, z_g12, z_s12, z_g13, z_s13, z_b0, z_b1, z_b0n, z_b1n, z_up_far1, z_up_far2, z_up_far3, z_up_far4, z_up_far5, z_up_far6, Classical.not_not, not_true_eq_false, z_in, z_inL, Int.cast_ofNat_Int, Nat.reduceLeDiff, List.length_cons, List.length_nil, Nat.reduceAdd, Nat.zero_add, Nat.le_refl, true_and, and_true, List.length, Nat.reduceLT, true_or, or_true, false_or, or_false, false_and, and_false, not_true_eq_false, not_false_eq_true, forall_const, false_implies, true_implies, Int.reduceEq, Int.reduceLT, Int.reduceLE, Int.reduceAdd, Int.reduceSub, Int.reduceMul, Int.reduceNeg, Int.reduceToNat, Int.toNat_natCast, ↓reduceIte, reduceIte, Nat.reduceEqDiff, Nat.reduceSub, Nat.reduceMul, ne_eq, Int.zero_add, Int.add_zero, Int.sub_zero, Nat.add_zero, Int.ofNat_eq_natCast, SX4_takeNumber, SX4_takeSign, SX7_add]
    refine ⟨b, T, _, _, g1, fun σ2 f2 g2 => ⟨b, T, _, _, g2, fun σ3 f3 g3 => ⟨b, T, _, _, g3, fun σ4 f4 g4 => ⟨b, T, _, _, g4, fun σ6 f6 g6 => ?_⟩⟩⟩⟩
    have fr := (((f1.tr f2).tr f3).tr f4).tr f6
    have e6 : σ6 k1 3 = σ k1 3 := fr _ _ (by omega)
    rw [e6]
    refine ⟨⟨by omega, by omega⟩, ?_⟩
    refine hs _ ?_ ?_
    · exact (((fr.cong _ _ _).cong _ _ _).cong _ _ _).cong _ _ _
    · exact (((g6.far (by omega) _ _).far (by omega) _ _).far (by omega) _ _).far (by omega) _ _
theorem dX4_readWind_0 : decode cX4_readWind 0 = .ok (.aload_n 1, 1) := by decide +kernel
theorem dX4_readWind_1 : decode cX4_readWind 1 = .ok (.getfield 104, 3) := by decide +kernel
theorem dX4_readWind_4 : decode cX4_readWind 4 = .ok (.bipush 6, 2) := by decide +kernel
theorem dX4_readWind_6 : decode cX4_readWind 6 = .ok (.if_icmp .lt 9, 3) := by decide +kernel
theorem dX4_readWind_9 : decode cX4_readWind 9 = .ok (.aload_n 0, 1) := by decide +kernel
theorem dX4_readWind_10 : decode cX4_readWind 10 = .ok (.iconst 3, 1) := by decide +kernel
theorem dX4_readWind_11 : decode cX4_readWind 11 = .ok (.invokevirtual 86, 3) := by decide +kernel
theorem dX4_readWind_14 : decode cX4_readWind 14 = .ok (.return_, 1) := by decide +kernel
theorem dX4_readWind_15 : decode cX4_readWind 15 = .ok (.aload_n 0, 1) := by decide +kernel
theorem dX4_readWind_16 : decode cX4_readWind 16 = .ok (.invokevirtual 50, 3) := by decide +kernel
theorem dX4_readWind_19 : decode cX4_readWind 19 = .ok (.aload_n 0, 1) := by decide +kernel
theorem dX4_readWind_20 : decode cX4_readWind 20 = .ok (.iconst 0, 1) := by decide +kernel
theorem dX4_readWind_21 : decode cX4_readWind 21 = .ok (.bipush 7, 2) := by decide +kernel
theorem dX4_readWind_23 : decode cX4_readWind 23 = .ok (.invokevirtual 93, 3) := by decide +kernel
theorem dX4_readWind_26 : decode cX4_readWind 26 = .ok (.istore_n 2, 1) := by decide +kernel
theorem dX4_readWind_27 : decode cX4_readWind 27 = .ok (.aload_n 0, 1) := by decide +kernel
theorem dX4_readWind_28 : decode cX4_readWind 28 = .ok (.iconst 1, 1) := by decide +kernel
theorem dX4_readWind_29 : decode cX4_readWind 29 = .ok (.bipush 20, 2) := by decide +kernel
theorem dX4_readWind_31 : decode cX4_readWind 31 = .ok (.invokevirtual 93, 3) := by decide +kernel
theorem dX4_readWind_34 : decode cX4_readWind 34 = .ok (.istore_n 3, 1) := by decide +kernel
theorem dX4_readWind_35 : decode cX4_readWind 35 = .ok (.aload_n 0, 1) := by decide +kernel
theorem dX4_readWind_36 : decode cX4_readWind 36 = .ok (.iconst 1, 1) := by decide +kernel
theorem dX4_readWind_37 : decode cX4_readWind 37 = .ok (.bipush 99, 2) := by decide +kernel
theorem dX4_readWind_39 : decode cX4_readWind 39 = .ok (.invokevirtual 93, 3) := by decide +kernel
theorem dX4_readWind_42 : decode cX4_readWind 42 = .ok (.istore 4, 2) := by decide +kernel
theorem dX4_readWind_44 : decode cX4_readWind 44 = .ok (.aload_n 0, 1) := by decide +kernel
theorem dX4_readWind_45 : decode cX4_readWind 45 = .ok (.invokevirtual 97, 3) := by decide +kernel
theorem dX4_readWind_48 : decode cX4_readWind 48 = .ok (.aload_n 1, 1) := by decide +kernel
theorem dX4_readWind_49 : decode cX4_readWind 49 = .ok (.iload_n 2, 1) := by decide +kernel
theorem dX4_readWind_50 : decode cX4_readWind 50 = .ok (.iload_n 3, 1) := by decide +kernel
theorem dX4_readWind_51 : decode cX4_readWind 51 = .ok (.iload 4, 2) := by decide +kernel
theorem dX4_readWind_53 : decode cX4_readWind 53 = .ok (.invokevirtual 107, 3) := by decide +kernel
theorem dX4_readWind_56 : decode cX4_readWind 56 = .ok (.return_, 1) := by decide +kernel
set_option maxRecDepth 100000 in
theorem rX4_readWind_0 {zx : zX} {zn : Nat} {p : Program} {l : Launch} {e : Env} {s : State} {m : MethodId} {args : Array Value} {below : List Frame} {meth : Method} {c : Code} {D : va_G} {cA : Nat → ClassId} {ad : Nat → Nat} {Ret : zR} (C : z_Cx zx zn (z_A zn ad) 0 0 p { frames := 3, cells := 0, slots := 0, locals := 65 } s m args c cX4_readWind yX4_readWind.cls 5 D cA ad) (hr : meth.sig.returnType = none) (hlocks : meth.locks = false) : ∀ L st σ, tX4_readWind_0 (z_X zx zn (z_A zn ad) 0 0 p l e { frames := 3, cells := 0, slots := 0, locals := 65 } s m args below meth c (MQ below (z_Qc zn D cA ad Ret) args s 0 0 (z_A zn ad)) 5 D cA ad true) Ret L st σ → z_X zx zn (z_A zn ad) 0 0 p l e { frames := 3, cells := 0, slots := 0, locals := 65 } s m args below meth c (MQ below (z_Qc zn D cA ad Ret) args s 0 0 (z_A zn ad)) 5 D cA ad true 0 L st σ := (s_aload_n C dX4_readWind_0 rfl (s_geti C dX4_readWind_1 cls_X7 (by decide) rfl wd_156 (s_bipush C dX4_readWind_4 rfl ⟨by decide, by decide⟩ (s_iclt C dX4_readWind_6 (by decide) (s_aload_n C dX4_readWind_15 rfl (s_cv0 C dX4_readWind_16 (okX4_next l) cls_X4 wd_335 wd_337 wd_1 wd_18 wd_338 ⟨by decide, by decide, by decide +kernel⟩ ⟨by decide, by decide⟩ (s_aload_n C dX4_readWind_19 rfl (s_iconst C dX4_readWind_20 rfl ⟨by decide, by decide⟩ (s_bipush C dX4_readWind_21 rfl ⟨by decide, by decide⟩ (s_cv2 C dX4_readWind_23 (okX4_takeNumber l) cls_X4 wd_431 wd_433 wd_8 wd_18 wd_434 ⟨by decide, by decide, by decide +kernel⟩ ⟨by decide, by decide⟩ (s_istore_n C dX4_readWind_26 (by decide) rfl rfl (s_aload_n C dX4_readWind_27 rfl (s_iconst C dX4_readWind_28 rfl ⟨by decide, by decide⟩ (s_bipush C dX4_readWind_29 rfl ⟨by decide, by decide⟩ (s_cv2 C dX4_readWind_31 (okX4_takeNumber l) cls_X4 wd_431 wd_433 wd_8 wd_18 wd_434 ⟨by decide, by decide, by decide +kernel⟩ ⟨by decide, by decide⟩ (s_istore_n C dX4_readWind_34 (by decide) rfl rfl (s_aload_n C dX4_readWind_35 rfl (s_iconst C dX4_readWind_36 rfl ⟨by decide, by decide⟩ (s_bipush C dX4_readWind_37 rfl ⟨by decide, by decide⟩ (s_cv2 C dX4_readWind_39 (okX4_takeNumber l) cls_X4 wd_431 wd_433 wd_8 wd_18 wd_434 ⟨by decide, by decide, by decide +kernel⟩ ⟨by decide, by decide⟩ (s_istore C dX4_readWind_42 (by decide) rfl (s_aload_n C dX4_readWind_44 rfl (s_cv0 C dX4_readWind_45 (okX4_takeSign l) cls_X4 wd_435 wd_437 wd_9 wd_18 wd_438 ⟨by decide, by decide, by decide +kernel⟩ ⟨by decide, by decide⟩ (s_aload_n C dX4_readWind_48 rfl (s_iload_n C dX4_readWind_49 rfl (s_iload_n C dX4_readWind_50 rfl (s_iload C dX4_readWind_51 (s_cv3 C dX4_readWind_53 (okX7_add l) cls_X7 wd_618 wd_619 wd_620 wd_22 wd_621 ⟨by decide, by decide, by decide +kernel⟩ ⟨by decide, by decide⟩ (s_vret C dX4_readWind_56 hr hlocks))))))))))))))))))))))))) (s_aload_n C dX4_readWind_9 rfl (s_iconst C dX4_readWind_10 rfl ⟨by decide, by decide⟩ (s_cv1 C dX4_readWind_11 (okX4_fail l) cls_X4 wd_427 wd_429 wd_7 wd_18 wd_430 ⟨by decide, by decide, by decide +kernel⟩ ⟨by decide, by decide⟩ (s_vret C dX4_readWind_14 hr hlocks))))))))
theorem okX4_readWind {zx : zX} {zn : Nat} (l : Launch) : z_OK zx zn l yX4_readWind cX4_readWind 5 none 3 65 SX4_readWind := by
  refine z_ok_of true (by decide +kernel) ?_ ?_
  · intro as σ Ret h
    obtain ⟨k0, k1, rfl⟩ := pX4_readWind h
    exact ⟨Nat.le_of_ble_eq_true rfl, by simp⟩
  · intro p e s m args below meth c D cA ad Ret C hr hlocks as σ has hσ h
    obtain ⟨k0, k1, rfl⟩ := pX4_readWind h
    exact vX4_readWind (rX4_readWind_0 C hr hlocks) k0 k1 σ (has _ (List.mem_of_getElem? (i := 0) rfl)).1 (has _ (List.mem_of_getElem? (i := 1) rfl)).1 hσ h
