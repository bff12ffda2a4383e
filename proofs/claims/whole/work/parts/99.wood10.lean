/-! a tree, a wind, a tune off the model's tape -/
def q_fy (σ σ' : zM) : Prop := ∀ c j, ¬ (c = 89 ∧ 15 ≤ j ∧ j ≤ 20) → c ≠ 94 → σ' c j = σ c j
theorem q_fx.fy {σ σ' : zM} (h : q_fx σ σ') : q_fy σ σ' := fun c j h1 _ => h c j h1
theorem q_fy.tr {σ τ υ : zM} (h1 : q_fy σ τ) (h2 : q_fy τ υ) : q_fy σ υ := fun c j h g => (h2 c j h g).trans (h1 c j h g)
theorem q_fy.rf {σ : zM} : q_fy σ σ := fun _ _ _ _ => rfl
theorem q_pn_f {b : Nat → Int} {T p : Nat} {f lo hi : Int} (h : (q_pn b T p f lo hi).2.2 = 0) : f = 0 := by
  unfold q_pn at h
  by_cases c : ¬ f = 0
  · rw [if_pos c] at h; exact absurd h c
  · omega
theorem q_ps_f {b : Nat → Int} {T p : Nat} {f : Int} (h : (q_ps b T p f).2 = 0) : f = 0 := by
  unfold q_ps at h
  by_cases c : ¬ f = 0
  · rw [if_pos c] at h; exact absurd h c
  · omega
theorem q_pn_3 {b : Nat → Int} {T p : Nat} {f lo hi : Int} (h : ¬ f = 0) : (q_pn b T p f lo hi).2 = (p, f) := by
  unfold q_pn
  rw [if_pos h]
theorem q_ps_3 {b : Nat → Int} {T p : Nat} {f : Int} (h : ¬ f = 0) : q_ps b T p f = (p, f) := by
  unfold q_ps
  rw [if_pos h]
theorem q_94 {σ : zM} {E : Nat → Int} {i : Nat} {v : Int} (h : ∀ j, j < 106 → σ 94 j = E j) : ∀ j, j < 106 → z_up σ 94 i v 94 j = q_d1 E i v j := by
  intro j hj
  by_cases e : j = i
  · subst e; rw [z_up_eq, q_d1_eq]
  · rw [z_up_ne (by omega), q_d1_ne e]; exact h j hj
def SX10_readTree : zS := fun as σ Ret => match as with
  | [.inr (.inr (10, 0, _))] => ∃ b T p D, (q_ms σ b T p 0 ∧ q_Dok D ∧ ∀ j, j < 106 → σ 94 j = D j) ∧ ∀ (σ' : zM) (p' : Nat) (f' : Int), q_fy σ σ' → q_ms σ' b T p' f' → (12 ≤ D 0 → p' = p ∧ f' = 3) → (D 0 < 12 → p' = (q_t5 b T p).1 ∧ f' = (q_t5 b T p).2) → (f' = 0 → ∀ j, j < 106 → σ' 94 j = q_dT D (q_t1 b T p).1 (q_t2 b T p).1 (q_t3 b T p).1 (q_t4 b T p).1 j) → Ret none σ'
  | _ => False
def tX10_readTree_0 (X : Nat → zB) (Ret : zR) (L : zL) (st : List zV) (σ : zM) : Prop := (z_aload 0 (z_push 0 (z_push 12 (z_cv2 10 SX10_begins (z_aload 0 (z_push 10 (z_push 99 (z_cv2 10 SX10_number (z_istore 1 (z_aload 0 (z_push 1 (z_push 20 (z_cv2 10 SX10_number (z_istore 2 (z_aload 0 (z_push 0 (z_push 7 (z_cv2 10 SX10_number (z_istore 3 (z_aload 0 (z_push 0 (z_push 5 (z_cv2 10 SX10_number (z_istore 4 (z_aload 0 (z_cv0 10 SX10_mustEnd (z_aload 0 (z_geti 10 19 (z_ifne (z_vret Ret) (z_push 6 (z_push 6 (z_aload 0 (z_getr 10 5 100 106 (z_push 0 (z_ald 0 (z_imul (z_iadd (z_istore 5 (z_aload 0 (z_getr 10 5 100 106 (z_iload 5 (z_iload 1 (z_iast (z_aload 0 (z_getr 10 5 100 106 (z_iload 5 (z_push 1 (z_iadd (z_iload 2 (z_iast (z_aload 0 (z_getr 10 5 100 106 (z_iload 5 (z_push 2 (z_iadd (z_iload 3 (z_iast (z_aload 0 (z_getr 10 5 100 106 (z_iload 5 (z_push 3 (z_iadd (z_iload 4 (z_iast (z_aload 0 (z_getr 10 5 100 106 (z_push 0 (z_dup2 (z_ald 0 (z_push 1 (z_iadd (z_iast (z_vret Ret))))))))))))))))))))))))))))))))))))))))))))))))))))))))))))))))))))))))) L st σ
theorem pX10_readTree {as : List zV} {σ : zM} {Ret : zR} (h : SX10_readTree as σ Ret) : ∃ (k0 : Nat), as = [.inr (.inr (10, 0, k0))] := by
  unfold SX10_readTree at h
  split at h
  · exact ⟨_, rfl⟩
  · exact h.elim
set_option maxRecDepth 10000 in
set_option maxHeartbeats 4000000 in
theorem vX10_readTree {X : Nat → zB} {Ret : zR} (h0 : ∀ L st σ, tX10_readTree_0 X Ret L st σ → X 0 L st σ) (k0 : Nat) (σ : zM) (hk0 : z_kd k0 = (10, 0)) (hσ : z_okm σ) (h : SX10_readTree [.inr (.inr (10, 0, k0))] σ Ret) : X 0 [some (.inr (.inr (10, 0, k0))), none, none, none, none, none] [] σ := by
  obtain ⟨b, T, p, D, ⟨ms, K, hD⟩, h⟩ := h
  obtain rfl := z_kd10 hk0
  have k0 := K.1.1
  have d0 := hD 0 (by omega)
  obtain ⟨n, hn⟩ := z_nat k0.1
  refine h0 _ _ _ ?_
  simp only [z_push, z_lpush, z_iload, z_lload, z_aload, z_istore, z_istoreP, z_lstore, z_astore, z_iinc, z_iincP, z_iadd, z_isub, z_imul, z_iaddW, z_isubW, z_imulW, z_idiv, z_irem, z_iand, z_ior, z_ixor, z_ishl, z_ishr, z_iushr, z_ineg, z_i2l, z_i2b, z_i2s, z_i2c, z_l2i, z_ladd, z_lsub, z_land, z_lor, z_lshl, z_lshr, z_lcmp, z_dup, z_pop, z_dup2, z_goto, z_tsw, z_cases, z_geti, z_getr, z_puti, z_putz, z_ald, z_iast, z_bast, z_zast, z_alen, z_acopy, z_mmax, z_mmin, z_mabs, z_mabsL, z_iret, z_zret, z_nret, z_lret, z_aret, z_vret, z_cat, z_ldcs, z_strv, z_strc, z_gcs, z_gfm, z_sln, z_sald, z_ifeq, z_ifne, z_iflt, z_ifge, z_ifgt, z_ifle, z_iceq, z_icne, z_iclt, z_icge, z_icgt, z_icle, z_cs0, z_cs1, z_cs2, z_cs3, z_cs4, z_cs5, z_cs6, z_cs7, z_cv0, z_cv1, z_cv2, z_cv3, z_cv4, z_cv5, z_cv6, z_cv7, z_g0, z_s0, z_g1, z_s1, z_g2, z_s2, z_g3, z_s3, z_g4, z_s4, z_g5, z_s5, z_g6, z_s6, z_g7, z_s7, z_g8, z_s8, z_g9, z_s9, z_g10, z_s10, z_g11, z_s11, z_g12, z_s12, z_g13, z_s13, z_b0, z_b1, z_b0n, z_b1n, z_up_far1, z_up_far2, z_up_far3, z_up_far4, z_up_far5, z_up_far6, Classical.not_not, not_true_eq_false, z_in, z_inL, Int.cast_ofNat_Int, Nat.reduceLeDiff, List.length_cons, List.length_nil, Nat.reduceAdd, Nat.zero_add, Nat.le_refl, true_and, and_true, List.length, Nat.reduceLT, true_or, or_true, false_or, or_false, false_and, and_false, not_true_eq_false, not_false_eq_true, forall_const, false_implies, true_implies, Int.reduceEq, Int.reduceLT, Int.reduceLE, Int.reduceAdd, Int.reduceSub, Int.reduceMul, Int.reduceNeg, Int.reduceToNat, Int.toNat_natCast, ↓reduceIte, reduceIte, Nat.reduceEqDiff, Nat.reduceSub, Nat.reduceMul, ne_eq, Int.zero_add, Int.add_zero, Int.sub_zero, Nat.add_zero, Int.ofNat_eq_natCast, tX10_readTree_0, SX10_begins, SX10_number, SX10_mustEnd]
  refine ⟨b, T, p, ms, fun σ1 f1 ga gb => ?_⟩
  by_cases c : 12 ≤ D 0
  · have ms1 := ga (by omega)
    refine ⟨b, T, _, _, ms1, fun σ2 v1 f2 ms2 _ => ⟨b, T, _, _, ms2, fun σ3 v2 f3 ms3 _ => ⟨b, T, _, _, ms3, fun σ4 v3 f4 ms4 _ => ⟨b, T, _, _, ms4, fun σ5 v4 f5 ms5 _ => ⟨b, T, _, _, ms5, fun σ6 f6 ms6 => ?_⟩⟩⟩⟩⟩
    rw [q_pn_3 (f := 3) (by omega)] at ms6
    dsimp only at ms6
    rw [q_pn_3 (f := 3) (by omega)] at ms6
    dsimp only at ms6
    rw [q_pn_3 (f := 3) (by omega)] at ms6
    dsimp only at ms6
    rw [q_pn_3 (f := 3) (by omega)] at ms6
    dsimp only at ms6
    rw [q_ps_3 (by omega)] at ms6
    have m19 := ms6.2.2.2.2.2.2.1
    have m19 := ms6.2.2.2.2.2.2.1
    have fin := h σ6 p 3 ((((((f1.tr f2).tr f3).tr f4).tr f5).tr f6).fy) ms6 (fun _ => ⟨rfl, rfl⟩) (fun q => by omega) (fun q => by omega)
    rw [m19]
    exact fun _ => ⟨fun _ => fin, fun q => by have q : (3 : Int) = 0 := q; omega⟩
  · have ms1 := gb (by omega)
    refine ⟨b, T, _, _, ms1, fun σ2 v1 f2 ms2 e1 => ⟨b, T, _, _, ms2, fun σ3 v2 f3 ms3 e2 => ⟨b, T, _, _, ms3, fun σ4 v3 f4 ms4 e3 => ⟨b, T, _, _, ms4, fun σ5 v4 f5 ms5 e4 => ⟨b, T, _, _, ms5, fun σ6 f6 ms6 => ?_⟩⟩⟩⟩⟩
    have ms6 : q_ms σ6 b T (q_t5 b T p).1 (q_t5 b T p).2 := ms6
    have e1 : (q_t1 b T p).2.2 = 0 → v1 = (q_t1 b T p).1 := e1
    have e2 : (q_t2 b T p).2.2 = 0 → v2 = (q_t2 b T p).1 := e2
    have e3 : (q_t3 b T p).2.2 = 0 → v3 = (q_t3 b T p).1 := e3
    have e4 : (q_t4 b T p).2.2 = 0 → v4 = (q_t4 b T p).1 := e4
    have m19 := ms6.2.2.2.2.2.2.1
    have ff := ((((f1.tr f2).tr f3).tr f4).tr f5).tr f6
    rw [m19]
    by_cases z : (q_t5 b T p).2 = 0
    · have z4 : (q_t4 b T p).2.2 = 0 := q_ps_f z
      have z3 : (q_t3 b T p).2.2 = 0 := q_pn_f z4
      have z2 : (q_t2 b T p).2.2 = 0 := q_pn_f z3
      have z1 : (q_t1 b T p).2.2 = 0 := q_pn_f z2
      have w1 := e1 z1
      have w2 := e2 z2
      have w3 := e3 z3
      have w4 := e4 z4
      have c6 : ∀ j, j < 106 → σ6 94 j = D j := fun j hj => by rw [ff 94 j (by omega)]; exact hD j hj
      have c0 : σ6 94 0 = (n : Int) := by rw [c6 0 (by omega), hn]
      have t0 : (6 + 6 * (n : Int)).toNat = 6 + 6 * n := by omega
      have t1 : (6 + 6 * (n : Int) + 1).toNat = 6 + 6 * n + 1 := by omega
      have t2 : (6 + 6 * (n : Int) + 2).toNat = 6 + 6 * n + 2 := by omega
      have t3 : (6 + 6 * (n : Int) + 3).toNat = 6 + 6 * n + 3 := by omega
      have r0 : z_up (z_up (z_up (z_up σ6 94 (6 + 6 * n) v1) 94 (6 + 6 * n + 1) v2) 94 (6 + 6 * n + 2) v3) 94 (6 + 6 * n + 3) v4 94 0 = (n : Int) := by rw [z_up_ne (by omega), z_up_ne (by omega), z_up_ne (by omega), z_up_ne (by omega), c0]
      rw [c0, t0, t1, t2, t3, r0]
      have fin := h (z_up (z_up (z_up (z_up (z_up σ6 94 (6 + 6 * n) v1) 94 (6 + 6 * n + 1) v2) 94 (6 + 6 * n + 2) v3) 94 (6 + 6 * n + 3) v4) 94 0 ((n : Int) + 1)) _ _ (fun c j h1 h2 => by rw [z_up_ne (by omega), z_up_ne (by omega), z_up_ne (by omega), z_up_ne (by omega), z_up_ne (by omega)]; exact ff c j h1) (ms6.fr (fun c j hc => by rw [z_up_ne (by omega), z_up_ne (by omega), z_up_ne (by omega), z_up_ne (by omega), z_up_ne (by omega)])) (fun q => absurd q c) (fun _ => ⟨rfl, rfl⟩) (fun _ => by
        unfold q_dT
        rw [hn, Int.toNat_natCast, ← w1, ← w2, ← w3, ← w4]
        exact q_94 (q_94 (q_94 (q_94 (q_94 c6)))))
      exact fun _ => ⟨fun q => absurd z q, fun _ _ => ⟨by omega, by omega, by omega, by omega, by omega, by omega, by omega, by omega, by omega, fun _ => ⟨by omega, fin⟩⟩⟩
    · have fin := h σ6 _ _ ff.fy ms6 (fun q => absurd q c) (fun _ => ⟨rfl, rfl⟩) (fun q => absurd q z)
      exact fun _ => ⟨fun _ => fin, fun q => absurd q z⟩
theorem dX10_readTree_0 : decode cX10_readTree 0 = .ok (.aload_n 0, 1) := by decide +kernel
theorem dX10_readTree_1 : decode cX10_readTree 1 = .ok (.iconst 0, 1) := by decide +kernel
theorem dX10_readTree_2 : decode cX10_readTree 2 = .ok (.bipush 12, 2) := by decide +kernel
theorem dX10_readTree_4 : decode cX10_readTree 4 = .ok (.invokevirtual 160, 3) := by decide +kernel
theorem dX10_readTree_7 : decode cX10_readTree 7 = .ok (.aload_n 0, 1) := by decide +kernel
theorem dX10_readTree_8 : decode cX10_readTree 8 = .ok (.bipush 10, 2) := by decide +kernel
theorem dX10_readTree_10 : decode cX10_readTree 10 = .ok (.bipush 99, 2) := by decide +kernel
theorem dX10_readTree_12 : decode cX10_readTree 12 = .ok (.invokevirtual 164, 3) := by decide +kernel
theorem dX10_readTree_15 : decode cX10_readTree 15 = .ok (.istore_n 1, 1) := by decide +kernel
theorem dX10_readTree_16 : decode cX10_readTree 16 = .ok (.aload_n 0, 1) := by decide +kernel
theorem dX10_readTree_17 : decode cX10_readTree 17 = .ok (.iconst 1, 1) := by decide +kernel
theorem dX10_readTree_18 : decode cX10_readTree 18 = .ok (.bipush 20, 2) := by decide +kernel
theorem dX10_readTree_20 : decode cX10_readTree 20 = .ok (.invokevirtual 164, 3) := by decide +kernel
theorem dX10_readTree_23 : decode cX10_readTree 23 = .ok (.istore_n 2, 1) := by decide +kernel
theorem dX10_readTree_24 : decode cX10_readTree 24 = .ok (.aload_n 0, 1) := by decide +kernel
theorem dX10_readTree_25 : decode cX10_readTree 25 = .ok (.iconst 0, 1) := by decide +kernel
theorem dX10_readTree_26 : decode cX10_readTree 26 = .ok (.bipush 7, 2) := by decide +kernel
theorem dX10_readTree_28 : decode cX10_readTree 28 = .ok (.invokevirtual 164, 3) := by decide +kernel
theorem dX10_readTree_31 : decode cX10_readTree 31 = .ok (.istore_n 3, 1) := by decide +kernel
theorem dX10_readTree_32 : decode cX10_readTree 32 = .ok (.aload_n 0, 1) := by decide +kernel
theorem dX10_readTree_33 : decode cX10_readTree 33 = .ok (.iconst 0, 1) := by decide +kernel
theorem dX10_readTree_34 : decode cX10_readTree 34 = .ok (.iconst 5, 1) := by decide +kernel
theorem dX10_readTree_35 : decode cX10_readTree 35 = .ok (.invokevirtual 164, 3) := by decide +kernel
theorem dX10_readTree_38 : decode cX10_readTree 38 = .ok (.istore 4, 2) := by decide +kernel
theorem dX10_readTree_40 : decode cX10_readTree 40 = .ok (.aload_n 0, 1) := by decide +kernel
theorem dX10_readTree_41 : decode cX10_readTree 41 = .ok (.invokevirtual 168, 3) := by decide +kernel
theorem dX10_readTree_44 : decode cX10_readTree 44 = .ok (.aload_n 0, 1) := by decide +kernel
theorem dX10_readTree_45 : decode cX10_readTree 45 = .ok (.getfield 123, 3) := by decide +kernel
theorem dX10_readTree_48 : decode cX10_readTree 48 = .ok (.ifCond .ne 66, 3) := by decide +kernel
theorem dX10_readTree_51 : decode cX10_readTree 51 = .ok (.bipush 6, 2) := by decide +kernel
theorem dX10_readTree_53 : decode cX10_readTree 53 = .ok (.bipush 6, 2) := by decide +kernel
theorem dX10_readTree_55 : decode cX10_readTree 55 = .ok (.aload_n 0, 1) := by decide +kernel
theorem dX10_readTree_56 : decode cX10_readTree 56 = .ok (.getfield 22, 3) := by decide +kernel
theorem dX10_readTree_59 : decode cX10_readTree 59 = .ok (.iconst 0, 1) := by decide +kernel
theorem dX10_readTree_60 : decode cX10_readTree 60 = .ok (.iaload, 1) := by decide +kernel
theorem dX10_readTree_61 : decode cX10_readTree 61 = .ok (.imul, 1) := by decide +kernel
theorem dX10_readTree_62 : decode cX10_readTree 62 = .ok (.iadd, 1) := by decide +kernel
theorem dX10_readTree_63 : decode cX10_readTree 63 = .ok (.istore 5, 2) := by decide +kernel
theorem dX10_readTree_65 : decode cX10_readTree 65 = .ok (.aload_n 0, 1) := by decide +kernel
theorem dX10_readTree_66 : decode cX10_readTree 66 = .ok (.getfield 22, 3) := by decide +kernel
theorem dX10_readTree_69 : decode cX10_readTree 69 = .ok (.iload 5, 2) := by decide +kernel
theorem dX10_readTree_71 : decode cX10_readTree 71 = .ok (.iload_n 1, 1) := by decide +kernel
theorem dX10_readTree_72 : decode cX10_readTree 72 = .ok (.iastore, 1) := by decide +kernel
theorem dX10_readTree_73 : decode cX10_readTree 73 = .ok (.aload_n 0, 1) := by decide +kernel
theorem dX10_readTree_74 : decode cX10_readTree 74 = .ok (.getfield 22, 3) := by decide +kernel
theorem dX10_readTree_77 : decode cX10_readTree 77 = .ok (.iload 5, 2) := by decide +kernel
theorem dX10_readTree_79 : decode cX10_readTree 79 = .ok (.iconst 1, 1) := by decide +kernel
theorem dX10_readTree_80 : decode cX10_readTree 80 = .ok (.iadd, 1) := by decide +kernel
theorem dX10_readTree_81 : decode cX10_readTree 81 = .ok (.iload_n 2, 1) := by decide +kernel
theorem dX10_readTree_82 : decode cX10_readTree 82 = .ok (.iastore, 1) := by decide +kernel
theorem dX10_readTree_83 : decode cX10_readTree 83 = .ok (.aload_n 0, 1) := by decide +kernel
theorem dX10_readTree_84 : decode cX10_readTree 84 = .ok (.getfield 22, 3) := by decide +kernel
theorem dX10_readTree_87 : decode cX10_readTree 87 = .ok (.iload 5, 2) := by decide +kernel
theorem dX10_readTree_89 : decode cX10_readTree 89 = .ok (.iconst 2, 1) := by decide +kernel
theorem dX10_readTree_90 : decode cX10_readTree 90 = .ok (.iadd, 1) := by decide +kernel
theorem dX10_readTree_91 : decode cX10_readTree 91 = .ok (.iload_n 3, 1) := by decide +kernel
theorem dX10_readTree_92 : decode cX10_readTree 92 = .ok (.iastore, 1) := by decide +kernel
theorem dX10_readTree_93 : decode cX10_readTree 93 = .ok (.aload_n 0, 1) := by decide +kernel
theorem dX10_readTree_94 : decode cX10_readTree 94 = .ok (.getfield 22, 3) := by decide +kernel
theorem dX10_readTree_97 : decode cX10_readTree 97 = .ok (.iload 5, 2) := by decide +kernel
theorem dX10_readTree_99 : decode cX10_readTree 99 = .ok (.iconst 3, 1) := by decide +kernel
theorem dX10_readTree_100 : decode cX10_readTree 100 = .ok (.iadd, 1) := by decide +kernel
theorem dX10_readTree_101 : decode cX10_readTree 101 = .ok (.iload 4, 2) := by decide +kernel
theorem dX10_readTree_103 : decode cX10_readTree 103 = .ok (.iastore, 1) := by decide +kernel
theorem dX10_readTree_104 : decode cX10_readTree 104 = .ok (.aload_n 0, 1) := by decide +kernel
theorem dX10_readTree_105 : decode cX10_readTree 105 = .ok (.getfield 22, 3) := by decide +kernel
theorem dX10_readTree_108 : decode cX10_readTree 108 = .ok (.iconst 0, 1) := by decide +kernel
theorem dX10_readTree_109 : decode cX10_readTree 109 = .ok (.dup2, 1) := by decide +kernel
theorem dX10_readTree_110 : decode cX10_readTree 110 = .ok (.iaload, 1) := by decide +kernel
theorem dX10_readTree_111 : decode cX10_readTree 111 = .ok (.iconst 1, 1) := by decide +kernel
theorem dX10_readTree_112 : decode cX10_readTree 112 = .ok (.iadd, 1) := by decide +kernel
theorem dX10_readTree_113 : decode cX10_readTree 113 = .ok (.iastore, 1) := by decide +kernel
theorem dX10_readTree_114 : decode cX10_readTree 114 = .ok (.return_, 1) := by decide +kernel
set_option maxRecDepth 100000 in
theorem rX10_readTree_0 {p : Program} {l : Launch} {e : Env} {s : State} {m : MethodId} {args : Array Value} {below : List Frame} {meth : Method} {c : Code} {D : va_G} {cA : Nat → ClassId} {ad : Nat → Nat} {Ret : zR} (C : z_Cx p { frames := 4, cells := 0, slots := 0, locals := 86 } s m args c cX10_readTree yX10_readTree.cls 6 D cA ad) (hr : meth.sig.returnType = none) (hlocks : meth.locks = false) : ∀ L st σ, tX10_readTree_0 (z_X p l e { frames := 4, cells := 0, slots := 0, locals := 86 } s m args below meth c (MQ below (z_Qc D cA ad Ret) args s 0 0 (z_A ad)) 6 D cA ad true) Ret L st σ → z_X p l e { frames := 4, cells := 0, slots := 0, locals := 86 } s m args below meth c (MQ below (z_Qc D cA ad Ret) args s 0 0 (z_A ad)) 6 D cA ad true 0 L st σ := (s_aload_n C dX10_readTree_0 rfl (s_iconst C dX10_readTree_1 rfl ⟨by decide, by decide⟩ (s_bipush C dX10_readTree_2 rfl ⟨by decide, by decide⟩ (s_cv2 C dX10_readTree_4 (okX10_begins l) cls_X10 wd_1147 wd_1149 wd_42 wd_85 wd_1150 ⟨by decide, by decide, by decide +kernel⟩ ⟨by decide, by decide⟩ (s_aload_n C dX10_readTree_7 rfl (s_bipush C dX10_readTree_8 rfl ⟨by decide, by decide⟩ (s_bipush C dX10_readTree_10 rfl ⟨by decide, by decide⟩ (s_cv2 C dX10_readTree_12 (okX10_number l) cls_X10 wd_1155 wd_1157 wd_44 wd_85 wd_1158 ⟨by decide, by decide, by decide +kernel⟩ ⟨by decide, by decide⟩ (s_istore_n C dX10_readTree_15 (by decide) rfl rfl (s_aload_n C dX10_readTree_16 rfl (s_iconst C dX10_readTree_17 rfl ⟨by decide, by decide⟩ (s_bipush C dX10_readTree_18 rfl ⟨by decide, by decide⟩ (s_cv2 C dX10_readTree_20 (okX10_number l) cls_X10 wd_1155 wd_1157 wd_44 wd_85 wd_1158 ⟨by decide, by decide, by decide +kernel⟩ ⟨by decide, by decide⟩ (s_istore_n C dX10_readTree_23 (by decide) rfl rfl (s_aload_n C dX10_readTree_24 rfl (s_iconst C dX10_readTree_25 rfl ⟨by decide, by decide⟩ (s_bipush C dX10_readTree_26 rfl ⟨by decide, by decide⟩ (s_cv2 C dX10_readTree_28 (okX10_number l) cls_X10 wd_1155 wd_1157 wd_44 wd_85 wd_1158 ⟨by decide, by decide, by decide +kernel⟩ ⟨by decide, by decide⟩ (s_istore_n C dX10_readTree_31 (by decide) rfl rfl (s_aload_n C dX10_readTree_32 rfl (s_iconst C dX10_readTree_33 rfl ⟨by decide, by decide⟩ (s_iconst C dX10_readTree_34 rfl ⟨by decide, by decide⟩ (s_cv2 C dX10_readTree_35 (okX10_number l) cls_X10 wd_1155 wd_1157 wd_44 wd_85 wd_1158 ⟨by decide, by decide, by decide +kernel⟩ ⟨by decide, by decide⟩ (s_istore C dX10_readTree_38 (by decide) rfl (s_aload_n C dX10_readTree_40 rfl (s_cv0 C dX10_readTree_41 (okX10_mustEnd l) cls_X10 wd_1163 wd_1165 wd_46 wd_85 wd_1166 ⟨by decide, by decide, by decide +kernel⟩ ⟨by decide, by decide⟩ (s_aload_n C dX10_readTree_44 rfl (s_geti C dX10_readTree_45 cls_X10 (by decide) rfl wd_987 (s_ifne C dX10_readTree_48 (by decide) (s_vret C dX10_readTree_114 hr hlocks) (s_bipush C dX10_readTree_51 rfl ⟨by decide, by decide⟩ (s_bipush C dX10_readTree_53 rfl ⟨by decide, by decide⟩ (s_aload_n C dX10_readTree_55 rfl (s_getr C dX10_readTree_56 (j := 6) cls_X10 (by decide) rfl (by decide) (by decide) (by decide +kernel) wd_974 (s_iconst C dX10_readTree_59 rfl ⟨by decide, by decide⟩ (s_iald C dX10_readTree_60 (s_imul C dX10_readTree_61 (s_iadd C dX10_readTree_62 (s_istore C dX10_readTree_63 (by decide) rfl (s_aload_n C dX10_readTree_65 rfl (s_getr C dX10_readTree_66 (j := 6) cls_X10 (by decide) rfl (by decide) (by decide) (by decide +kernel) wd_974 (s_iload C dX10_readTree_69 (s_iload_n C dX10_readTree_71 rfl (s_iast C dX10_readTree_72 (s_aload_n C dX10_readTree_73 rfl (s_getr C dX10_readTree_74 (j := 6) cls_X10 (by decide) rfl (by decide) (by decide) (by decide +kernel) wd_974 (s_iload C dX10_readTree_77 (s_iconst C dX10_readTree_79 rfl ⟨by decide, by decide⟩ (s_iadd C dX10_readTree_80 (s_iload_n C dX10_readTree_81 rfl (s_iast C dX10_readTree_82 (s_aload_n C dX10_readTree_83 rfl (s_getr C dX10_readTree_84 (j := 6) cls_X10 (by decide) rfl (by decide) (by decide) (by decide +kernel) wd_974 (s_iload C dX10_readTree_87 (s_iconst C dX10_readTree_89 rfl ⟨by decide, by decide⟩ (s_iadd C dX10_readTree_90 (s_iload_n C dX10_readTree_91 rfl (s_iast C dX10_readTree_92 (s_aload_n C dX10_readTree_93 rfl (s_getr C dX10_readTree_94 (j := 6) cls_X10 (by decide) rfl (by decide) (by decide) (by decide +kernel) wd_974 (s_iload C dX10_readTree_97 (s_iconst C dX10_readTree_99 rfl ⟨by decide, by decide⟩ (s_iadd C dX10_readTree_100 (s_iload C dX10_readTree_101 (s_iast C dX10_readTree_103 (s_aload_n C dX10_readTree_104 rfl (s_getr C dX10_readTree_105 (j := 6) cls_X10 (by decide) rfl (by decide) (by decide) (by decide +kernel) wd_974 (s_iconst C dX10_readTree_108 rfl ⟨by decide, by decide⟩ (s_dup2 C dX10_readTree_109 (s_iald C dX10_readTree_110 (s_iconst C dX10_readTree_111 rfl ⟨by decide, by decide⟩ (s_iadd C dX10_readTree_112 (s_iast C dX10_readTree_113 (s_vret C dX10_readTree_114 hr hlocks)))))))))))))))))))))))))))))))))))))))))))))))))))))))))))))))))))))))))
theorem okX10_readTree (l : Launch) : z_OK l yX10_readTree cX10_readTree 6 none 4 86 SX10_readTree := by
  refine z_ok_of true (by decide +kernel) ?_ ?_
  · intro as σ Ret h
    obtain ⟨k0, rfl⟩ := pX10_readTree h
    exact ⟨Nat.le_of_ble_eq_true rfl, by simp⟩
  · intro p e s m args below meth c D cA ad Ret C hr hlocks as σ has hσ h
    obtain ⟨k0, rfl⟩ := pX10_readTree h
    exact vX10_readTree (rX10_readTree_0 C hr hlocks) k0 σ (has _ (List.mem_of_getElem? (i := 0) rfl)) hσ h
def SX10_readWind : zS := fun as σ Ret => match as with
  | [.inr (.inr (10, 0, _))] => ∃ b T p D, (q_ms σ b T p 0 ∧ q_Dok D ∧ ∀ j, j < 106 → σ 94 j = D j) ∧ ∀ (σ' : zM) (p' : Nat) (f' : Int), q_fy σ σ' → q_ms σ' b T p' f' → (6 ≤ D 1 → p' = p ∧ f' = 3) → (D 1 < 6 → p' = (q_w4 b T p).1 ∧ f' = (q_w4 b T p).2) → (f' = 0 → ∀ j, j < 106 → σ' 94 j = q_dW D (q_w1 b T p).1 (q_w2 b T p).1 (q_w3 b T p).1 j) → Ret none σ'
  | _ => False
def tX10_readWind_0 (X : Nat → zB) (Ret : zR) (L : zL) (st : List zV) (σ : zM) : Prop := (z_aload 0 (z_push 1 (z_push 6 (z_cv2 10 SX10_begins (z_aload 0 (z_push 0 (z_push 7 (z_cv2 10 SX10_number (z_istore 1 (z_aload 0 (z_push 1 (z_push 20 (z_cv2 10 SX10_number (z_istore 2 (z_aload 0 (z_push 1 (z_push 99 (z_cv2 10 SX10_number (z_istore 3 (z_aload 0 (z_cv0 10 SX10_mustEnd (z_aload 0 (z_geti 10 19 (z_ifne (z_vret Ret) (z_push 78 (z_push 3 (z_aload 0 (z_getr 10 5 100 106 (z_push 1 (z_ald 0 (z_imul (z_iadd (z_istore 4 (z_aload 0 (z_getr 10 5 100 106 (z_iload 4 (z_iload 1 (z_iast (z_aload 0 (z_getr 10 5 100 106 (z_iload 4 (z_push 1 (z_iadd (z_iload 2 (z_iast (z_aload 0 (z_getr 10 5 100 106 (z_iload 4 (z_push 2 (z_iadd (z_iload 3 (z_iast (z_aload 0 (z_getr 10 5 100 106 (z_push 1 (z_dup2 (z_ald 0 (z_push 1 (z_iadd (z_iast (z_vret Ret))))))))))))))))))))))))))))))))))))))))))))))))))))))))))))) L st σ
theorem pX10_readWind {as : List zV} {σ : zM} {Ret : zR} (h : SX10_readWind as σ Ret) : ∃ (k0 : Nat), as = [.inr (.inr (10, 0, k0))] := by
  unfold SX10_readWind at h
  split at h
  · exact ⟨_, rfl⟩
  · exact h.elim
set_option maxRecDepth 10000 in
set_option maxHeartbeats 4000000 in
theorem vX10_readWind {X : Nat → zB} {Ret : zR} (h0 : ∀ L st σ, tX10_readWind_0 X Ret L st σ → X 0 L st σ) (k0 : Nat) (σ : zM) (hk0 : z_kd k0 = (10, 0)) (hσ : z_okm σ) (h : SX10_readWind [.inr (.inr (10, 0, k0))] σ Ret) : X 0 [some (.inr (.inr (10, 0, k0))), none, none, none, none] [] σ := by
  obtain ⟨b, T, p, D, ⟨ms, K, hD⟩, h⟩ := h
  obtain rfl := z_kd10 hk0
  have k1 := K.1.2.1
  have d1 := hD 1 (by omega)
  obtain ⟨n, hn⟩ := z_nat k1.1
  refine h0 _ _ _ ?_
  simp only [z_push, z_lpush, z_iload, z_lload, z_aload, z_istore, z_istoreP, z_lstore, z_astore, z_iinc, z_iincP, z_iadd, z_isub, z_imul, z_iaddW, z_isubW, z_imulW, z_idiv, z_irem, z_iand, z_ior, z_ixor, z_ishl, z_ishr, z_iushr, z_ineg, z_i2l, z_i2b, z_i2s, z_i2c, z_l2i, z_ladd, z_lsub, z_land, z_lor, z_lshl, z_lshr, z_lcmp, z_dup, z_pop, z_dup2, z_goto, z_tsw, z_cases, z_geti, z_getr, z_puti, z_putz, z_ald, z_iast, z_bast, z_zast, z_alen, z_acopy, z_mmax, z_mmin, z_mabs, z_mabsL, z_iret, z_zret, z_nret, z_lret, z_aret, z_vret, z_cat, z_ldcs, z_strv, z_strc, z_gcs, z_gfm, z_sln, z_sald, z_ifeq, z_ifne, z_iflt, z_ifge, z_ifgt, z_ifle, z_iceq, z_icne, z_iclt, z_icge, z_icgt, z_icle, z_cs0, z_cs1, z_cs2, z_cs3, z_cs4, z_cs5, z_cs6, z_cs7, z_cv0, z_cv1, z_cv2, z_cv3, z_cv4, z_cv5, z_cv6, z_cv7, z_g0, z_s0, z_g1, z_s1, z_g2, z_s2, z_g3, z_s3, z_g4, z_s4, z_g5, z_s5, z_g6, z_s6, z_g7, z_s7, z_g8, z_s8, z_g9, z_s9, z_g10, z_s10, z_g11, z_s11, z_g12, z_s12, z_g13, z_s13, z_b0, z_b1, z_b0n, z_b1n, z_up_far1, z_up_far2, z_up_far3, z_up_far4, z_up_far5, z_up_far6, Classical.not_not, not_true_eq_false, z_in, z_inL, Int.cast_ofNat_Int, Nat.reduceLeDiff, List.length_cons, List.length_nil, Nat.reduceAdd, Nat.zero_add, Nat.le_refl, true_and, and_true, List.length, Nat.reduceLT, true_or, or_true, false_or, or_false, false_and, and_false, not_true_eq_false, not_false_eq_true, forall_const, false_implies, true_implies, Int.reduceEq, Int.reduceLT, Int.reduceLE, Int.reduceAdd, Int.reduceSub, Int.reduceMul, Int.reduceNeg, Int.reduceToNat, Int.toNat_natCast, ↓reduceIte, reduceIte, Nat.reduceEqDiff, Nat.reduceSub, Nat.reduceMul, ne_eq, Int.zero_add, Int.add_zero, Int.sub_zero, Nat.add_zero, Int.ofNat_eq_natCast, tX10_readWind_0, SX10_begins, SX10_number, SX10_mustEnd]
  refine ⟨b, T, p, ms, fun σ1 f1 ga gb => ?_⟩
  by_cases c : 6 ≤ D 1
  · have ms1 := ga (by omega)
    refine ⟨b, T, _, _, ms1, fun σ2 v1 f2 ms2 _ => ⟨b, T, _, _, ms2, fun σ3 v2 f3 ms3 _ => ⟨b, T, _, _, ms3, fun σ4 v3 f4 ms4 _ => ⟨b, T, _, _, ms4, fun σ6 f6 ms6 => ?_⟩⟩⟩⟩
    rw [q_pn_3 (f := 3) (by omega)] at ms6
    dsimp only at ms6
    rw [q_pn_3 (f := 3) (by omega)] at ms6
    dsimp only at ms6
    rw [q_pn_3 (f := 3) (by omega)] at ms6
    dsimp only at ms6
    rw [q_ps_3 (by omega)] at ms6
    have m19 := ms6.2.2.2.2.2.2.1
    have fin := h σ6 p 3 (((((f1.tr f2).tr f3).tr f4).tr f6).fy) ms6 (fun _ => ⟨rfl, rfl⟩) (fun q => by omega) (fun q => by omega)
    rw [m19]
    exact fun _ => ⟨fun _ => fin, fun q => by have q : (3 : Int) = 0 := q; omega⟩
  · have ms1 := gb (by omega)
    refine ⟨b, T, _, _, ms1, fun σ2 v1 f2 ms2 e1 => ⟨b, T, _, _, ms2, fun σ3 v2 f3 ms3 e2 => ⟨b, T, _, _, ms3, fun σ4 v3 f4 ms4 e3 => ⟨b, T, _, _, ms4, fun σ6 f6 ms6 => ?_⟩⟩⟩⟩
    have ms6 : q_ms σ6 b T (q_w4 b T p).1 (q_w4 b T p).2 := ms6
    have e1 : (q_w1 b T p).2.2 = 0 → v1 = (q_w1 b T p).1 := e1
    have e2 : (q_w2 b T p).2.2 = 0 → v2 = (q_w2 b T p).1 := e2
    have e3 : (q_w3 b T p).2.2 = 0 → v3 = (q_w3 b T p).1 := e3
    have m19 := ms6.2.2.2.2.2.2.1
    have ff := (((f1.tr f2).tr f3).tr f4).tr f6
    rw [m19]
    by_cases z : (q_w4 b T p).2 = 0
    · have z3 : (q_w3 b T p).2.2 = 0 := q_ps_f z
      have z2 : (q_w2 b T p).2.2 = 0 := q_pn_f z3
      have z1 : (q_w1 b T p).2.2 = 0 := q_pn_f z2
      have w1 := e1 z1
      have w2 := e2 z2
      have w3 := e3 z3
      have c6 : ∀ j, j < 106 → σ6 94 j = D j := fun j hj => by rw [ff 94 j (by omega)]; exact hD j hj
      have c0 : σ6 94 1 = (n : Int) := by rw [c6 1 (by omega), hn]
      have t0 : (78 + 3 * (n : Int)).toNat = 78 + 3 * n := by omega
      have t1 : (78 + 3 * (n : Int) + 1).toNat = 78 + 3 * n + 1 := by omega
      have t2 : (78 + 3 * (n : Int) + 2).toNat = 78 + 3 * n + 2 := by omega
      have r0 : z_up (z_up (z_up σ6 94 (78 + 3 * n) v1) 94 (78 + 3 * n + 1) v2) 94 (78 + 3 * n + 2) v3 94 1 = (n : Int) := by rw [z_up_ne (by omega), z_up_ne (by omega), z_up_ne (by omega), c0]
      rw [c0, t0, t1, t2, r0]
      have fin := h (z_up (z_up (z_up (z_up σ6 94 (78 + 3 * n) v1) 94 (78 + 3 * n + 1) v2) 94 (78 + 3 * n + 2) v3) 94 1 ((n : Int) + 1)) _ _ (fun c j h1 h2 => by rw [z_up_ne (by omega), z_up_ne (by omega), z_up_ne (by omega), z_up_ne (by omega)]; exact ff c j h1) (ms6.fr (fun c j hc => by rw [z_up_ne (by omega), z_up_ne (by omega), z_up_ne (by omega), z_up_ne (by omega)])) (fun q => absurd q c) (fun _ => ⟨rfl, rfl⟩) (fun _ => by
        unfold q_dW
        rw [hn, Int.toNat_natCast, ← w1, ← w2, ← w3]
        exact q_94 (q_94 (q_94 (q_94 c6))))
      exact fun _ => ⟨fun q => absurd z q, fun _ _ => ⟨by omega, by omega, by omega, by omega, by omega, by omega, by omega, fun _ => ⟨by omega, fin⟩⟩⟩
    · have fin := h σ6 _ _ ff.fy ms6 (fun q => absurd q c) (fun _ => ⟨rfl, rfl⟩) (fun q => absurd q z)
      exact fun _ => ⟨fun _ => fin, fun q => absurd q z⟩
theorem dX10_readWind_0 : decode cX10_readWind 0 = .ok (.aload_n 0, 1) := by decide +kernel
theorem dX10_readWind_1 : decode cX10_readWind 1 = .ok (.iconst 1, 1) := by decide +kernel
theorem dX10_readWind_2 : decode cX10_readWind 2 = .ok (.bipush 6, 2) := by decide +kernel
theorem dX10_readWind_4 : decode cX10_readWind 4 = .ok (.invokevirtual 160, 3) := by decide +kernel
theorem dX10_readWind_7 : decode cX10_readWind 7 = .ok (.aload_n 0, 1) := by decide +kernel
theorem dX10_readWind_8 : decode cX10_readWind 8 = .ok (.iconst 0, 1) := by decide +kernel
theorem dX10_readWind_9 : decode cX10_readWind 9 = .ok (.bipush 7, 2) := by decide +kernel
theorem dX10_readWind_11 : decode cX10_readWind 11 = .ok (.invokevirtual 164, 3) := by decide +kernel
theorem dX10_readWind_14 : decode cX10_readWind 14 = .ok (.istore_n 1, 1) := by decide +kernel
theorem dX10_readWind_15 : decode cX10_readWind 15 = .ok (.aload_n 0, 1) := by decide +kernel
theorem dX10_readWind_16 : decode cX10_readWind 16 = .ok (.iconst 1, 1) := by decide +kernel
theorem dX10_readWind_17 : decode cX10_readWind 17 = .ok (.bipush 20, 2) := by decide +kernel
theorem dX10_readWind_19 : decode cX10_readWind 19 = .ok (.invokevirtual 164, 3) := by decide +kernel
theorem dX10_readWind_22 : decode cX10_readWind 22 = .ok (.istore_n 2, 1) := by decide +kernel
theorem dX10_readWind_23 : decode cX10_readWind 23 = .ok (.aload_n 0, 1) := by decide +kernel
theorem dX10_readWind_24 : decode cX10_readWind 24 = .ok (.iconst 1, 1) := by decide +kernel
theorem dX10_readWind_25 : decode cX10_readWind 25 = .ok (.bipush 99, 2) := by decide +kernel
theorem dX10_readWind_27 : decode cX10_readWind 27 = .ok (.invokevirtual 164, 3) := by decide +kernel
theorem dX10_readWind_30 : decode cX10_readWind 30 = .ok (.istore_n 3, 1) := by decide +kernel
theorem dX10_readWind_31 : decode cX10_readWind 31 = .ok (.aload_n 0, 1) := by decide +kernel
theorem dX10_readWind_32 : decode cX10_readWind 32 = .ok (.invokevirtual 168, 3) := by decide +kernel
theorem dX10_readWind_35 : decode cX10_readWind 35 = .ok (.aload_n 0, 1) := by decide +kernel
theorem dX10_readWind_36 : decode cX10_readWind 36 = .ok (.getfield 123, 3) := by decide +kernel
theorem dX10_readWind_39 : decode cX10_readWind 39 = .ok (.ifCond .ne 54, 3) := by decide +kernel
theorem dX10_readWind_42 : decode cX10_readWind 42 = .ok (.bipush 78, 2) := by decide +kernel
theorem dX10_readWind_44 : decode cX10_readWind 44 = .ok (.iconst 3, 1) := by decide +kernel
theorem dX10_readWind_45 : decode cX10_readWind 45 = .ok (.aload_n 0, 1) := by decide +kernel
theorem dX10_readWind_46 : decode cX10_readWind 46 = .ok (.getfield 22, 3) := by decide +kernel
theorem dX10_readWind_49 : decode cX10_readWind 49 = .ok (.iconst 1, 1) := by decide +kernel
theorem dX10_readWind_50 : decode cX10_readWind 50 = .ok (.iaload, 1) := by decide +kernel
theorem dX10_readWind_51 : decode cX10_readWind 51 = .ok (.imul, 1) := by decide +kernel
theorem dX10_readWind_52 : decode cX10_readWind 52 = .ok (.iadd, 1) := by decide +kernel
theorem dX10_readWind_53 : decode cX10_readWind 53 = .ok (.istore 4, 2) := by decide +kernel
theorem dX10_readWind_55 : decode cX10_readWind 55 = .ok (.aload_n 0, 1) := by decide +kernel
theorem dX10_readWind_56 : decode cX10_readWind 56 = .ok (.getfield 22, 3) := by decide +kernel
theorem dX10_readWind_59 : decode cX10_readWind 59 = .ok (.iload 4, 2) := by decide +kernel
theorem dX10_readWind_61 : decode cX10_readWind 61 = .ok (.iload_n 1, 1) := by decide +kernel
theorem dX10_readWind_62 : decode cX10_readWind 62 = .ok (.iastore, 1) := by decide +kernel
theorem dX10_readWind_63 : decode cX10_readWind 63 = .ok (.aload_n 0, 1) := by decide +kernel
theorem dX10_readWind_64 : decode cX10_readWind 64 = .ok (.getfield 22, 3) := by decide +kernel
theorem dX10_readWind_67 : decode cX10_readWind 67 = .ok (.iload 4, 2) := by decide +kernel
theorem dX10_readWind_69 : decode cX10_readWind 69 = .ok (.iconst 1, 1) := by decide +kernel
theorem dX10_readWind_70 : decode cX10_readWind 70 = .ok (.iadd, 1) := by decide +kernel
theorem dX10_readWind_71 : decode cX10_readWind 71 = .ok (.iload_n 2, 1) := by decide +kernel
theorem dX10_readWind_72 : decode cX10_readWind 72 = .ok (.iastore, 1) := by decide +kernel
theorem dX10_readWind_73 : decode cX10_readWind 73 = .ok (.aload_n 0, 1) := by decide +kernel
theorem dX10_readWind_74 : decode cX10_readWind 74 = .ok (.getfield 22, 3) := by decide +kernel
theorem dX10_readWind_77 : decode cX10_readWind 77 = .ok (.iload 4, 2) := by decide +kernel
theorem dX10_readWind_79 : decode cX10_readWind 79 = .ok (.iconst 2, 1) := by decide +kernel
theorem dX10_readWind_80 : decode cX10_readWind 80 = .ok (.iadd, 1) := by decide +kernel
theorem dX10_readWind_81 : decode cX10_readWind 81 = .ok (.iload_n 3, 1) := by decide +kernel
theorem dX10_readWind_82 : decode cX10_readWind 82 = .ok (.iastore, 1) := by decide +kernel
theorem dX10_readWind_83 : decode cX10_readWind 83 = .ok (.aload_n 0, 1) := by decide +kernel
theorem dX10_readWind_84 : decode cX10_readWind 84 = .ok (.getfield 22, 3) := by decide +kernel
theorem dX10_readWind_87 : decode cX10_readWind 87 = .ok (.iconst 1, 1) := by decide +kernel
theorem dX10_readWind_88 : decode cX10_readWind 88 = .ok (.dup2, 1) := by decide +kernel
theorem dX10_readWind_89 : decode cX10_readWind 89 = .ok (.iaload, 1) := by decide +kernel
theorem dX10_readWind_90 : decode cX10_readWind 90 = .ok (.iconst 1, 1) := by decide +kernel
theorem dX10_readWind_91 : decode cX10_readWind 91 = .ok (.iadd, 1) := by decide +kernel
theorem dX10_readWind_92 : decode cX10_readWind 92 = .ok (.iastore, 1) := by decide +kernel
theorem dX10_readWind_93 : decode cX10_readWind 93 = .ok (.return_, 1) := by decide +kernel
set_option maxRecDepth 100000 in
theorem rX10_readWind_0 {p : Program} {l : Launch} {e : Env} {s : State} {m : MethodId} {args : Array Value} {below : List Frame} {meth : Method} {c : Code} {D : va_G} {cA : Nat → ClassId} {ad : Nat → Nat} {Ret : zR} (C : z_Cx p { frames := 4, cells := 0, slots := 0, locals := 86 } s m args c cX10_readWind yX10_readWind.cls 5 D cA ad) (hr : meth.sig.returnType = none) (hlocks : meth.locks = false) : ∀ L st σ, tX10_readWind_0 (z_X p l e { frames := 4, cells := 0, slots := 0, locals := 86 } s m args below meth c (MQ below (z_Qc D cA ad Ret) args s 0 0 (z_A ad)) 5 D cA ad true) Ret L st σ → z_X p l e { frames := 4, cells := 0, slots := 0, locals := 86 } s m args below meth c (MQ below (z_Qc D cA ad Ret) args s 0 0 (z_A ad)) 5 D cA ad true 0 L st σ := (s_aload_n C dX10_readWind_0 rfl (s_iconst C dX10_readWind_1 rfl ⟨by decide, by decide⟩ (s_bipush C dX10_readWind_2 rfl ⟨by decide, by decide⟩ (s_cv2 C dX10_readWind_4 (okX10_begins l) cls_X10 wd_1147 wd_1149 wd_42 wd_85 wd_1150 ⟨by decide, by decide, by decide +kernel⟩ ⟨by decide, by decide⟩ (s_aload_n C dX10_readWind_7 rfl (s_iconst C dX10_readWind_8 rfl ⟨by decide, by decide⟩ (s_bipush C dX10_readWind_9 rfl ⟨by decide, by decide⟩ (s_cv2 C dX10_readWind_11 (okX10_number l) cls_X10 wd_1155 wd_1157 wd_44 wd_85 wd_1158 ⟨by decide, by decide, by decide +kernel⟩ ⟨by decide, by decide⟩ (s_istore_n C dX10_readWind_14 (by decide) rfl rfl (s_aload_n C dX10_readWind_15 rfl (s_iconst C dX10_readWind_16 rfl ⟨by decide, by decide⟩ (s_bipush C dX10_readWind_17 rfl ⟨by decide, by decide⟩ (s_cv2 C dX10_readWind_19 (okX10_number l) cls_X10 wd_1155 wd_1157 wd_44 wd_85 wd_1158 ⟨by decide, by decide, by decide +kernel⟩ ⟨by decide, by decide⟩ (s_istore_n C dX10_readWind_22 (by decide) rfl rfl (s_aload_n C dX10_readWind_23 rfl (s_iconst C dX10_readWind_24 rfl ⟨by decide, by decide⟩ (s_bipush C dX10_readWind_25 rfl ⟨by decide, by decide⟩ (s_cv2 C dX10_readWind_27 (okX10_number l) cls_X10 wd_1155 wd_1157 wd_44 wd_85 wd_1158 ⟨by decide, by decide, by decide +kernel⟩ ⟨by decide, by decide⟩ (s_istore_n C dX10_readWind_30 (by decide) rfl rfl (s_aload_n C dX10_readWind_31 rfl (s_cv0 C dX10_readWind_32 (okX10_mustEnd l) cls_X10 wd_1163 wd_1165 wd_46 wd_85 wd_1166 ⟨by decide, by decide, by decide +kernel⟩ ⟨by decide, by decide⟩ (s_aload_n C dX10_readWind_35 rfl (s_geti C dX10_readWind_36 cls_X10 (by decide) rfl wd_987 (s_ifne C dX10_readWind_39 (by decide) (s_vret C dX10_readWind_93 hr hlocks) (s_bipush C dX10_readWind_42 rfl ⟨by decide, by decide⟩ (s_iconst C dX10_readWind_44 rfl ⟨by decide, by decide⟩ (s_aload_n C dX10_readWind_45 rfl (s_getr C dX10_readWind_46 (j := 6) cls_X10 (by decide) rfl (by decide) (by decide) (by decide +kernel) wd_974 (s_iconst C dX10_readWind_49 rfl ⟨by decide, by decide⟩ (s_iald C dX10_readWind_50 (s_imul C dX10_readWind_51 (s_iadd C dX10_readWind_52 (s_istore C dX10_readWind_53 (by decide) rfl (s_aload_n C dX10_readWind_55 rfl (s_getr C dX10_readWind_56 (j := 6) cls_X10 (by decide) rfl (by decide) (by decide) (by decide +kernel) wd_974 (s_iload C dX10_readWind_59 (s_iload_n C dX10_readWind_61 rfl (s_iast C dX10_readWind_62 (s_aload_n C dX10_readWind_63 rfl (s_getr C dX10_readWind_64 (j := 6) cls_X10 (by decide) rfl (by decide) (by decide) (by decide +kernel) wd_974 (s_iload C dX10_readWind_67 (s_iconst C dX10_readWind_69 rfl ⟨by decide, by decide⟩ (s_iadd C dX10_readWind_70 (s_iload_n C dX10_readWind_71 rfl (s_iast C dX10_readWind_72 (s_aload_n C dX10_readWind_73 rfl (s_getr C dX10_readWind_74 (j := 6) cls_X10 (by decide) rfl (by decide) (by decide) (by decide +kernel) wd_974 (s_iload C dX10_readWind_77 (s_iconst C dX10_readWind_79 rfl ⟨by decide, by decide⟩ (s_iadd C dX10_readWind_80 (s_iload_n C dX10_readWind_81 rfl (s_iast C dX10_readWind_82 (s_aload_n C dX10_readWind_83 rfl (s_getr C dX10_readWind_84 (j := 6) cls_X10 (by decide) rfl (by decide) (by decide) (by decide +kernel) wd_974 (s_iconst C dX10_readWind_87 rfl ⟨by decide, by decide⟩ (s_dup2 C dX10_readWind_88 (s_iald C dX10_readWind_89 (s_iconst C dX10_readWind_90 rfl ⟨by decide, by decide⟩ (s_iadd C dX10_readWind_91 (s_iast C dX10_readWind_92 (s_vret C dX10_readWind_93 hr hlocks)))))))))))))))))))))))))))))))))))))))))))))))))))))))))))))
theorem okX10_readWind (l : Launch) : z_OK l yX10_readWind cX10_readWind 5 none 4 86 SX10_readWind := by
  refine z_ok_of true (by decide +kernel) ?_ ?_
  · intro as σ Ret h
    obtain ⟨k0, rfl⟩ := pX10_readWind h
    exact ⟨Nat.le_of_ble_eq_true rfl, by simp⟩
  · intro p e s m args below meth c D cA ad Ret C hr hlocks as σ has hσ h
    obtain ⟨k0, rfl⟩ := pX10_readWind h
    exact vX10_readWind (rX10_readWind_0 C hr hlocks) k0 σ (has _ (List.mem_of_getElem? (i := 0) rfl)) hσ h
def SX10_readTone : zS := fun as σ Ret => match as with
  | [.inr (.inr (10, 0, _))] => ∃ b T p D, (q_ms σ b T p 0 ∧ (0 ≤ D 2 ∧ D 2 ≤ 10) ∧ (D 2 = 10 → q_tk b T p = 2) ∧ ∀ j, j < 106 → σ 94 j = D j) ∧ ∀ (σ' : zM) (p' : Nat) (f' : Int), q_fy σ σ' → q_ms σ' b T p' f' → (D 2 = 10 → p' = p ∧ f' = 3) → (D 2 < 10 → p' = (q_pn b T p 0 0 999).2.1 ∧ f' = (q_pn b T p 0 0 999).2.2) → (f' = 0 → ∀ j, j < 106 → σ' 94 j = q_dJ D (q_pn b T p 0 0 999).1 j) → Ret none σ'
  | _ => False
def tX10_readTone_0 (X : Nat → zB) (Ret : zR) (L : zL) (st : List zV) (σ : zM) : Prop := (z_aload 0 (z_getr 10 5 100 106 (z_push 2 (z_ald 0 (z_push 10 (z_icne (X 39) (z_aload 0 (z_geti 10 16 (z_push 3 (z_icne (X 39) (z_aload 0 (z_cv0 10 SX10_figures (z_i2l (z_lpush 0 (z_lpush 999 (z_cs3 SX10_in (z_ifeq (X 39) (z_aload 0 (z_push 3 (z_cv1 10 SX10_bad (X 39))))))))))))))))))))) L st σ
def tX10_readTone_39 (X : Nat → zB) (Ret : zR) (L : zL) (st : List zV) (σ : zM) : Prop := (z_aload 0 (z_push 0 (z_push 999 (z_cv2 10 SX10_number (z_istore 1 (z_aload 0 (z_geti 10 19 (z_ifne (z_vret Ret) (z_aload 0 (z_getr 10 5 100 106 (z_push 96 (z_aload 0 (z_getr 10 5 100 106 (z_push 2 (z_ald 0 (z_iadd (z_iload 1 (z_iast (z_aload 0 (z_getr 10 5 100 106 (z_push 2 (z_dup2 (z_ald 0 (z_push 1 (z_iadd (z_iast (z_vret Ret))))))))))))))))))))))))))) L st σ
theorem pX10_readTone {as : List zV} {σ : zM} {Ret : zR} (h : SX10_readTone as σ Ret) : ∃ (k0 : Nat), as = [.inr (.inr (10, 0, k0))] := by
  unfold SX10_readTone at h
  split at h
  · exact ⟨_, rfl⟩
  · exact h.elim
set_option maxRecDepth 10000 in
set_option maxHeartbeats 4000000 in
theorem vX10_readTone {X : Nat → zB} {Ret : zR} (h0 : ∀ L st σ, tX10_readTone_0 X Ret L st σ → X 0 L st σ) (h39 : ∀ L st σ, tX10_readTone_39 X Ret L st σ → X 39 L st σ) (k0 : Nat) (σ : zM) (hk0 : z_kd k0 = (10, 0)) (hσ : z_okm σ) (h : SX10_readTone [.inr (.inr (10, 0, k0))] σ Ret) : X 0 [some (.inr (.inr (10, 0, k0))), none] [] σ := by
  obtain ⟨b, T, p, D, ⟨ms, k2, h10, hD⟩, h⟩ := h
  obtain rfl := z_kd10 hk0
  have d2 := hD 2 (by omega)
  obtain ⟨n, hn⟩ := z_nat k2.1
  have m16 := ms.2.2.2.2.1.2.1
  have m19 := ms.2.2.2.2.2.2.1
  have mt := (q_mt_is (q_tk_in (b := b) (T := T) (p := p))).2.2.1
  by_cases c : D 2 = 10
  · have k := h10 c
    have k1 : q_mt (q_tk b T p) = 3 := mt.mpr k
    have q := q_num_in k (q_te b T p - q_ts b T p) (Nat.le_refl _)
    have e2 : σ 94 2 = 10 := by omega
    have mb := ms.bad (τ' := z_up (z_up σ 89 19 3) 89 20 (σ 89 17)) (n := 3) (by omega) (fun c j hc => by rw [z_up_ne (by omega), z_up_ne (by omega)]) (by rw [z_up_ne (by omega), z_up_eq]) z_up_eq
    have fb : q_fx σ (z_up (z_up σ 89 19 3) 89 20 (σ 89 17)) := fun c j hc => by rw [z_up_ne (by omega), z_up_ne (by omega)]
    have L39 : X 39 [some (.inr (.inr (10, 0, 89))), none] [] (z_up (z_up σ 89 19 3) 89 20 (σ 89 17)) := by
      refine h39 _ _ _ ?_
      simp only [z_push, z_lpush, z_iload, z_lload, z_aload, z_istore, z_istoreP, z_lstore, z_astore, z_iinc, z_iincP, z_iadd, z_isub, z_imul, z_iaddW, z_isubW, z_imulW, z_idiv, z_irem, z_iand, z_ior, z_ixor, z_ishl, z_ishr, z_iushr, z_ineg, z_i2l, z_i2b, z_i2s, z_i2c, z_l2i, z_ladd, z_lsub, z_land, z_lor, z_lshl, z_lshr, z_lcmp, z_dup, z_pop, z_dup2, z_goto, z_tsw, z_cases, z_geti, z_getr, z_puti, z_putz, z_ald, z_iast, z_bast, z_zast, z_alen, z_acopy, z_mmax, z_mmin, z_mabs, z_mabsL, z_iret, z_zret, z_nret, z_lret, z_aret, z_vret, z_cat, z_ldcs, z_strv, z_strc, z_gcs, z_gfm, z_sln, z_sald, z_ifeq, z_ifne, z_iflt, z_ifge, z_ifgt, z_ifle, z_iceq, z_icne, z_iclt, z_icge, z_icgt, z_icle, z_cs0, z_cs1, z_cs2, z_cs3, z_cs4, z_cs5, z_cs6, z_cs7, z_cv0, z_cv1, z_cv2, z_cv3, z_cv4, z_cv5, z_cv6, z_cv7, z_g0, z_s0, z_g1, z_s1, z_g2, z_s2, z_g3, z_s3, z_g4, z_s4, z_g5, z_s5, z_g6, z_s6, z_g7, z_s7, z_g8, z_s8, z_g9, z_s9, z_g10, z_s10, z_g11, z_s11, z_g12, z_s12, z_g13, z_s13, z_b0, z_b1, z_b0n, z_b1n, z_up_far1, z_up_far2, z_up_far3, z_up_far4, z_up_far5, z_up_far6, Classical.not_not, not_true_eq_false, z_in, z_inL, Int.cast_ofNat_Int, Nat.reduceLeDiff, List.length_cons, List.length_nil, Nat.reduceAdd, Nat.zero_add, Nat.le_refl, true_and, and_true, List.length, Nat.reduceLT, true_or, or_true, false_or, or_false, false_and, and_false, not_true_eq_false, not_false_eq_true, forall_const, false_implies, true_implies, Int.reduceEq, Int.reduceLT, Int.reduceLE, Int.reduceAdd, Int.reduceSub, Int.reduceMul, Int.reduceNeg, Int.reduceToNat, Int.toNat_natCast, ↓reduceIte, reduceIte, Nat.reduceEqDiff, Nat.reduceSub, Nat.reduceMul, ne_eq, Int.zero_add, Int.add_zero, Int.sub_zero, Nat.add_zero, Int.ofNat_eq_natCast, tX10_readTone_39, SX10_number]
      refine ⟨b, T, p, 3, mb, fun σ1 v f1 ms1 _ => ?_⟩
      rw [q_pn_3 (f := 3) (by omega)] at ms1
      have m19 := ms1.2.2.2.2.2.2.1
      have fin := h σ1 p 3 (fb.tr f1).fy ms1 (fun _ => ⟨rfl, rfl⟩) (fun q => by omega) (fun q => by omega)
      rw [m19]
      exact fun _ => ⟨fun _ => fin, fun q => by have q : (3 : Int) = 0 := q; omega⟩
    refine h0 _ _ _ ?_
    simp only [z_push, z_lpush, z_iload, z_lload, z_aload, z_istore, z_istoreP, z_lstore, z_astore, z_iinc, z_iincP, z_iadd, z_isub, z_imul, z_iaddW, z_isubW, z_imulW, z_idiv, z_irem, z_iand, z_ior, z_ixor, z_ishl, z_ishr, z_iushr, z_ineg, z_i2l, z_i2b, z_i2s, z_i2c, z_l2i, z_ladd, z_lsub, z_land, z_lor, z_lshl, z_lshr, z_lcmp, z_dup, z_pop, z_dup2, z_goto, z_tsw, z_cases, z_geti, z_getr, z_puti, z_putz, z_ald, z_iast, z_bast, z_zast, z_alen, z_acopy, z_mmax, z_mmin, z_mabs, z_mabsL, z_iret, z_zret, z_nret, z_lret, z_aret, z_vret, z_cat, z_ldcs, z_strv, z_strc, z_gcs, z_gfm, z_sln, z_sald, z_ifeq, z_ifne, z_iflt, z_ifge, z_ifgt, z_ifle, z_iceq, z_icne, z_iclt, z_icge, z_icgt, z_icle, z_cs0, z_cs1, z_cs2, z_cs3, z_cs4, z_cs5, z_cs6, z_cs7, z_cv0, z_cv1, z_cv2, z_cv3, z_cv4, z_cv5, z_cv6, z_cv7, z_g0, z_s0, z_g1, z_s1, z_g2, z_s2, z_g3, z_s3, z_g4, z_s4, z_g5, z_s5, z_g6, z_s6, z_g7, z_s7, z_g8, z_s8, z_g9, z_s9, z_g10, z_s10, z_g11, z_s11, z_g12, z_s12, z_g13, z_s13, z_b0, z_b1, z_b0n, z_b1n, z_up_far1, z_up_far2, z_up_far3, z_up_far4, z_up_far5, z_up_far6, Classical.not_not, not_true_eq_false, z_in, z_inL, Int.cast_ofNat_Int, Nat.reduceLeDiff, List.length_cons, List.length_nil, Nat.reduceAdd, Nat.zero_add, Nat.le_refl, true_and, and_true, List.length, Nat.reduceLT, true_or, or_true, false_or, or_false, false_and, and_false, not_true_eq_false, not_false_eq_true, forall_const, false_implies, true_implies, Int.reduceEq, Int.reduceLT, Int.reduceLE, Int.reduceAdd, Int.reduceSub, Int.reduceMul, Int.reduceNeg, Int.reduceToNat, Int.toNat_natCast, ↓reduceIte, reduceIte, Nat.reduceEqDiff, Nat.reduceSub, Nat.reduceMul, ne_eq, Int.zero_add, Int.add_zero, Int.sub_zero, Nat.add_zero, Int.ofNat_eq_natCast, tX10_readTone_0, SX10_figures, SX10_in, SX10_bad, e2, m16, k1, m19]
    refine ⟨b, T, p, 0, ms, ?_⟩
    rw [if_pos k]
    exact ⟨fun q => by omega, fun _ => L39⟩
  · have e2 : ¬ σ 94 2 = 10 := by omega
    have L39 : X 39 [some (.inr (.inr (10, 0, 89))), none] [] σ := by
      refine h39 _ _ _ ?_
      simp only [z_push, z_lpush, z_iload, z_lload, z_aload, z_istore, z_istoreP, z_lstore, z_astore, z_iinc, z_iincP, z_iadd, z_isub, z_imul, z_iaddW, z_isubW, z_imulW, z_idiv, z_irem, z_iand, z_ior, z_ixor, z_ishl, z_ishr, z_iushr, z_ineg, z_i2l, z_i2b, z_i2s, z_i2c, z_l2i, z_ladd, z_lsub, z_land, z_lor, z_lshl, z_lshr, z_lcmp, z_dup, z_pop, z_dup2, z_goto, z_tsw, z_cases, z_geti, z_getr, z_puti, z_putz, z_ald, z_iast, z_bast, z_zast, z_alen, z_acopy, z_mmax, z_mmin, z_mabs, z_mabsL, z_iret, z_zret, z_nret, z_lret, z_aret, z_vret, z_cat, z_ldcs, z_strv, z_strc, z_gcs, z_gfm, z_sln, z_sald, z_ifeq, z_ifne, z_iflt, z_ifge, z_ifgt, z_ifle, z_iceq, z_icne, z_iclt, z_icge, z_icgt, z_icle, z_cs0, z_cs1, z_cs2, z_cs3, z_cs4, z_cs5, z_cs6, z_cs7, z_cv0, z_cv1, z_cv2, z_cv3, z_cv4, z_cv5, z_cv6, z_cv7, z_g0, z_s0, z_g1, z_s1, z_g2, z_s2, z_g3, z_s3, z_g4, z_s4, z_g5, z_s5, z_g6, z_s6, z_g7, z_s7, z_g8, z_s8, z_g9, z_s9, z_g10, z_s10, z_g11, z_s11, z_g12, z_s12, z_g13, z_s13, z_b0, z_b1, z_b0n, z_b1n, z_up_far1, z_up_far2, z_up_far3, z_up_far4, z_up_far5, z_up_far6, Classical.not_not, not_true_eq_false, z_in, z_inL, Int.cast_ofNat_Int, Nat.reduceLeDiff, List.length_cons, List.length_nil, Nat.reduceAdd, Nat.zero_add, Nat.le_refl, true_and, and_true, List.length, Nat.reduceLT, true_or, or_true, false_or, or_false, false_and, and_false, not_true_eq_false, not_false_eq_true, forall_const, false_implies, true_implies, Int.reduceEq, Int.reduceLT, Int.reduceLE, Int.reduceAdd, Int.reduceSub, Int.reduceMul, Int.reduceNeg, Int.reduceToNat, Int.toNat_natCast, ↓reduceIte, reduceIte, Nat.reduceEqDiff, Nat.reduceSub, Nat.reduceMul, ne_eq, Int.zero_add, Int.add_zero, Int.sub_zero, Nat.add_zero, Int.ofNat_eq_natCast, tX10_readTone_39, SX10_number]
      refine ⟨b, T, p, 0, ms, fun σ1 v f1 ms1 e1 => ?_⟩
      have m19 := ms1.2.2.2.2.2.2.1
      rw [m19]
      by_cases z : (q_pn b T p 0 0 999).2.2 = 0
      · have w1 := e1 z
        have c6 : ∀ j, j < 106 → σ1 94 j = D j := fun j hj => by rw [f1 94 j (by omega)]; exact hD j hj
        have c0 : σ1 94 2 = (n : Int) := by rw [c6 2 (by omega), hn]
        have t0 : (96 + (n : Int)).toNat = 96 + n := by omega
        have r0 : z_up σ1 94 (96 + n) v 94 2 = (n : Int) := by rw [z_up_ne (by omega), c0]
        rw [c0, t0, r0]
        have fin := h (z_up (z_up σ1 94 (96 + n) v) 94 2 ((n : Int) + 1)) _ _ (fun c j h1 h2 => by rw [z_up_ne (by omega), z_up_ne (by omega)]; exact f1 c j h1) (ms1.fr (fun c j hc => by rw [z_up_ne (by omega), z_up_ne (by omega)])) (fun q => absurd q c) (fun _ => ⟨rfl, rfl⟩) (fun _ => by
          unfold q_dJ
          rw [hn, Int.toNat_natCast, ← w1]
          exact q_94 (q_94 c6))
        exact fun _ => ⟨fun q => absurd z q, fun _ _ => ⟨by omega, by omega, fun _ => ⟨by omega, fin⟩⟩⟩
      · have fin := h σ1 _ _ f1.fy ms1 (fun q => absurd q c) (fun _ => ⟨rfl, rfl⟩) (fun q => absurd q z)
        exact fun _ => ⟨fun _ => fin, fun q => absurd q z⟩
    refine h0 _ _ _ ?_
    simp only [z_push, z_lpush, z_iload, z_lload, z_aload, z_istore, z_istoreP, z_lstore, z_astore, z_iinc, z_iincP, z_iadd, z_isub, z_imul, z_iaddW, z_isubW, z_imulW, z_idiv, z_irem, z_iand, z_ior, z_ixor, z_ishl, z_ishr, z_iushr, z_ineg, z_i2l, z_i2b, z_i2s, z_i2c, z_l2i, z_ladd, z_lsub, z_land, z_lor, z_lshl, z_lshr, z_lcmp, z_dup, z_pop, z_dup2, z_goto, z_tsw, z_cases, z_geti, z_getr, z_puti, z_putz, z_ald, z_iast, z_bast, z_zast, z_alen, z_acopy, z_mmax, z_mmin, z_mabs, z_mabsL, z_iret, z_zret, z_nret, z_lret, z_aret, z_vret, z_cat, z_ldcs, z_strv, z_strc, z_gcs, z_gfm, z_sln, z_sald, z_ifeq, z_ifne, z_iflt, z_ifge, z_ifgt, z_ifle, z_iceq, z_icne, z_iclt, z_icge, z_icgt, z_icle, z_cs0, z_cs1, z_cs2, z_cs3, z_cs4, z_cs5, z_cs6, z_cs7, z_cv0, z_cv1, z_cv2, z_cv3, z_cv4, z_cv5, z_cv6, z_cv7, z_g0, z_s0, z_g1, z_s1, z_g2, z_s2, z_g3, z_s3, z_g4, z_s4, z_g5, z_s5, z_g6, z_s6, z_g7, z_s7, z_g8, z_s8, z_g9, z_s9, z_g10, z_s10, z_g11, z_s11, z_g12, z_s12, z_g13, z_s13, z_b0, z_b1, z_b0n, z_b1n, z_up_far1, z_up_far2, z_up_far3, z_up_far4, z_up_far5, z_up_far6, Classical.not_not, not_true_eq_false, z_in, z_inL, Int.cast_ofNat_Int, Nat.reduceLeDiff, List.length_cons, List.length_nil, Nat.reduceAdd, Nat.zero_add, Nat.le_refl, true_and, and_true, List.length, Nat.reduceLT, true_or, or_true, false_or, or_false, false_and, and_false, not_true_eq_false, not_false_eq_true, forall_const, false_implies, true_implies, Int.reduceEq, Int.reduceLT, Int.reduceLE, Int.reduceAdd, Int.reduceSub, Int.reduceMul, Int.reduceNeg, Int.reduceToNat, Int.toNat_natCast, ↓reduceIte, reduceIte, Nat.reduceEqDiff, Nat.reduceSub, Nat.reduceMul, ne_eq, Int.zero_add, Int.add_zero, Int.sub_zero, Nat.add_zero, Int.ofNat_eq_natCast, tX10_readTone_0, SX10_figures, SX10_in, SX10_bad, m16, m19]
    exact fun _ => ⟨fun _ => L39, fun q => absurd q e2⟩
theorem dX10_readTone_0 : decode cX10_readTone 0 = .ok (.aload_n 0, 1) := by decide +kernel
theorem dX10_readTone_1 : decode cX10_readTone 1 = .ok (.getfield 22, 3) := by decide +kernel
theorem dX10_readTone_4 : decode cX10_readTone 4 = .ok (.iconst 2, 1) := by decide +kernel
theorem dX10_readTone_5 : decode cX10_readTone 5 = .ok (.iaload, 1) := by decide +kernel
theorem dX10_readTone_6 : decode cX10_readTone 6 = .ok (.bipush 10, 2) := by decide +kernel
theorem dX10_readTone_8 : decode cX10_readTone 8 = .ok (.if_icmp .ne 31, 3) := by decide +kernel
theorem dX10_readTone_11 : decode cX10_readTone 11 = .ok (.aload_n 0, 1) := by decide +kernel
theorem dX10_readTone_12 : decode cX10_readTone 12 = .ok (.getfield 111, 3) := by decide +kernel
theorem dX10_readTone_15 : decode cX10_readTone 15 = .ok (.iconst 3, 1) := by decide +kernel
theorem dX10_readTone_16 : decode cX10_readTone 16 = .ok (.if_icmp .ne 23, 3) := by decide +kernel
theorem dX10_readTone_19 : decode cX10_readTone 19 = .ok (.aload_n 0, 1) := by decide +kernel
theorem dX10_readTone_20 : decode cX10_readTone 20 = .ok (.invokevirtual 136, 3) := by decide +kernel
theorem dX10_readTone_23 : decode cX10_readTone 23 = .ok (.i2l, 1) := by decide +kernel
theorem dX10_readTone_24 : decode cX10_readTone 24 = .ok (.lconst 0, 1) := by decide +kernel
theorem dX10_readTone_25 : decode cX10_readTone 25 = .ok (.ldc2_w 171, 3) := by decide +kernel
theorem dX10_readTone_28 : decode cX10_readTone 28 = .ok (.invokestatic 75, 3) := by decide +kernel
theorem dX10_readTone_31 : decode cX10_readTone 31 = .ok (.ifCond .eq 8, 3) := by decide +kernel
theorem dX10_readTone_34 : decode cX10_readTone 34 = .ok (.aload_n 0, 1) := by decide +kernel
theorem dX10_readTone_35 : decode cX10_readTone 35 = .ok (.iconst 3, 1) := by decide +kernel
theorem dX10_readTone_36 : decode cX10_readTone 36 = .ok (.invokevirtual 132, 3) := by decide +kernel
theorem dX10_readTone_39 : decode cX10_readTone 39 = .ok (.aload_n 0, 1) := by decide +kernel
theorem dX10_readTone_40 : decode cX10_readTone 40 = .ok (.iconst 0, 1) := by decide +kernel
theorem dX10_readTone_41 : decode cX10_readTone 41 = .ok (.sipush 999, 3) := by decide +kernel
theorem dX10_readTone_44 : decode cX10_readTone 44 = .ok (.invokevirtual 164, 3) := by decide +kernel
theorem dX10_readTone_47 : decode cX10_readTone 47 = .ok (.istore_n 1, 1) := by decide +kernel
theorem dX10_readTone_48 : decode cX10_readTone 48 = .ok (.aload_n 0, 1) := by decide +kernel
theorem dX10_readTone_49 : decode cX10_readTone 49 = .ok (.getfield 123, 3) := by decide +kernel
theorem dX10_readTone_52 : decode cX10_readTone 52 = .ok (.ifCond .ne 28, 3) := by decide +kernel
theorem dX10_readTone_55 : decode cX10_readTone 55 = .ok (.aload_n 0, 1) := by decide +kernel
theorem dX10_readTone_56 : decode cX10_readTone 56 = .ok (.getfield 22, 3) := by decide +kernel
theorem dX10_readTone_59 : decode cX10_readTone 59 = .ok (.bipush 96, 2) := by decide +kernel
theorem dX10_readTone_61 : decode cX10_readTone 61 = .ok (.aload_n 0, 1) := by decide +kernel
theorem dX10_readTone_62 : decode cX10_readTone 62 = .ok (.getfield 22, 3) := by decide +kernel
theorem dX10_readTone_65 : decode cX10_readTone 65 = .ok (.iconst 2, 1) := by decide +kernel
theorem dX10_readTone_66 : decode cX10_readTone 66 = .ok (.iaload, 1) := by decide +kernel
theorem dX10_readTone_67 : decode cX10_readTone 67 = .ok (.iadd, 1) := by decide +kernel
theorem dX10_readTone_68 : decode cX10_readTone 68 = .ok (.iload_n 1, 1) := by decide +kernel
theorem dX10_readTone_69 : decode cX10_readTone 69 = .ok (.iastore, 1) := by decide +kernel
theorem dX10_readTone_70 : decode cX10_readTone 70 = .ok (.aload_n 0, 1) := by decide +kernel
theorem dX10_readTone_71 : decode cX10_readTone 71 = .ok (.getfield 22, 3) := by decide +kernel
theorem dX10_readTone_74 : decode cX10_readTone 74 = .ok (.iconst 2, 1) := by decide +kernel
theorem dX10_readTone_75 : decode cX10_readTone 75 = .ok (.dup2, 1) := by decide +kernel
theorem dX10_readTone_76 : decode cX10_readTone 76 = .ok (.iaload, 1) := by decide +kernel
theorem dX10_readTone_77 : decode cX10_readTone 77 = .ok (.iconst 1, 1) := by decide +kernel
theorem dX10_readTone_78 : decode cX10_readTone 78 = .ok (.iadd, 1) := by decide +kernel
theorem dX10_readTone_79 : decode cX10_readTone 79 = .ok (.iastore, 1) := by decide +kernel
theorem dX10_readTone_80 : decode cX10_readTone 80 = .ok (.return_, 1) := by decide +kernel
set_option maxRecDepth 100000 in
theorem rX10_readTone_0 {p : Program} {l : Launch} {e : Env} {s : State} {m : MethodId} {args : Array Value} {below : List Frame} {meth : Method} {c : Code} {D : va_G} {cA : Nat → ClassId} {ad : Nat → Nat} {Ret : zR} (C : z_Cx p { frames := 4, cells := 0, slots := 0, locals := 86 } s m args c cX10_readTone yX10_readTone.cls 2 D cA ad) (hr : meth.sig.returnType = none) (hlocks : meth.locks = false) : ∀ L st σ, tX10_readTone_0 (z_X p l e { frames := 4, cells := 0, slots := 0, locals := 86 } s m args below meth c (MQ below (z_Qc D cA ad Ret) args s 0 0 (z_A ad)) 2 D cA ad true) Ret L st σ → z_X p l e { frames := 4, cells := 0, slots := 0, locals := 86 } s m args below meth c (MQ below (z_Qc D cA ad Ret) args s 0 0 (z_A ad)) 2 D cA ad true 0 L st σ := (s_aload_n C dX10_readTone_0 rfl (s_getr C dX10_readTone_1 (j := 6) cls_X10 (by decide) rfl (by decide) (by decide) (by decide +kernel) wd_974 (s_iconst C dX10_readTone_4 rfl ⟨by decide, by decide⟩ (s_iald C dX10_readTone_5 (s_bipush C dX10_readTone_6 rfl ⟨by decide, by decide⟩ (s_icne C dX10_readTone_8 (by decide) (fun _ _ _ h => h) (s_aload_n C dX10_readTone_11 rfl (s_geti C dX10_readTone_12 cls_X10 (by decide) rfl wd_984 (s_iconst C dX10_readTone_15 rfl ⟨by decide, by decide⟩ (s_icne C dX10_readTone_16 (by decide) (fun _ _ _ h => h) (s_aload_n C dX10_readTone_19 rfl (s_cv0 C dX10_readTone_20 (okX10_figures l) cls_X10 wd_1159 wd_1161 wd_45 wd_85 wd_1162 ⟨by decide, by decide, by decide +kernel⟩ ⟨by decide, by decide⟩ (s_i2l C dX10_readTone_23 (s_lconst C dX10_readTone_24 (v := 0) rfl ⟨by decide, by decide⟩ (s_ldc2 C dX10_readTone_25 (v := 999) wd_1181 ⟨by decide, by decide⟩ (s_cs3 C dX10_readTone_28 (okX10_in l) wd_1082 wd_1083 wd_85 wd_1084 ⟨by decide, by decide, by decide +kernel⟩ ⟨by decide, by decide⟩ (s_ifeq C dX10_readTone_31 (by decide) (fun _ _ _ h => h) (s_aload_n C dX10_readTone_34 rfl (s_iconst C dX10_readTone_35 rfl ⟨by decide, by decide⟩ (s_cv1 C dX10_readTone_36 (okX10_bad l) cls_X10 wd_1139 wd_1141 wd_40 wd_85 wd_1142 ⟨by decide, by decide, by decide +kernel⟩ ⟨by decide, by decide⟩ (fun _ _ _ h => h)))))))))))))))))))))
set_option maxRecDepth 100000 in
theorem rX10_readTone_39 {p : Program} {l : Launch} {e : Env} {s : State} {m : MethodId} {args : Array Value} {below : List Frame} {meth : Method} {c : Code} {D : va_G} {cA : Nat → ClassId} {ad : Nat → Nat} {Ret : zR} (C : z_Cx p { frames := 4, cells := 0, slots := 0, locals := 86 } s m args c cX10_readTone yX10_readTone.cls 2 D cA ad) (hr : meth.sig.returnType = none) (hlocks : meth.locks = false) : ∀ L st σ, tX10_readTone_39 (z_X p l e { frames := 4, cells := 0, slots := 0, locals := 86 } s m args below meth c (MQ below (z_Qc D cA ad Ret) args s 0 0 (z_A ad)) 2 D cA ad true) Ret L st σ → z_X p l e { frames := 4, cells := 0, slots := 0, locals := 86 } s m args below meth c (MQ below (z_Qc D cA ad Ret) args s 0 0 (z_A ad)) 2 D cA ad true 39 L st σ := (s_aload_n C dX10_readTone_39 rfl (s_iconst C dX10_readTone_40 rfl ⟨by decide, by decide⟩ (s_sipush C dX10_readTone_41 rfl ⟨by decide, by decide⟩ (s_cv2 C dX10_readTone_44 (okX10_number l) cls_X10 wd_1155 wd_1157 wd_44 wd_85 wd_1158 ⟨by decide, by decide, by decide +kernel⟩ ⟨by decide, by decide⟩ (s_istore_n C dX10_readTone_47 (by decide) rfl rfl (s_aload_n C dX10_readTone_48 rfl (s_geti C dX10_readTone_49 cls_X10 (by decide) rfl wd_987 (s_ifne C dX10_readTone_52 (by decide) (s_vret C dX10_readTone_80 hr hlocks) (s_aload_n C dX10_readTone_55 rfl (s_getr C dX10_readTone_56 (j := 6) cls_X10 (by decide) rfl (by decide) (by decide) (by decide +kernel) wd_974 (s_bipush C dX10_readTone_59 rfl ⟨by decide, by decide⟩ (s_aload_n C dX10_readTone_61 rfl (s_getr C dX10_readTone_62 (j := 6) cls_X10 (by decide) rfl (by decide) (by decide) (by decide +kernel) wd_974 (s_iconst C dX10_readTone_65 rfl ⟨by decide, by decide⟩ (s_iald C dX10_readTone_66 (s_iadd C dX10_readTone_67 (s_iload_n C dX10_readTone_68 rfl (s_iast C dX10_readTone_69 (s_aload_n C dX10_readTone_70 rfl (s_getr C dX10_readTone_71 (j := 6) cls_X10 (by decide) rfl (by decide) (by decide) (by decide +kernel) wd_974 (s_iconst C dX10_readTone_74 rfl ⟨by decide, by decide⟩ (s_dup2 C dX10_readTone_75 (s_iald C dX10_readTone_76 (s_iconst C dX10_readTone_77 rfl ⟨by decide, by decide⟩ (s_iadd C dX10_readTone_78 (s_iast C dX10_readTone_79 (s_vret C dX10_readTone_80 hr hlocks)))))))))))))))))))))))))))
theorem okX10_readTone (l : Launch) : z_OK l yX10_readTone cX10_readTone 2 none 4 86 SX10_readTone := by
  refine z_ok_of true (by decide +kernel) ?_ ?_
  · intro as σ Ret h
    obtain ⟨k0, rfl⟩ := pX10_readTone h
    exact ⟨Nat.le_of_ble_eq_true rfl, by simp⟩
  · intro p e s m args below meth c D cA ad Ret C hr hlocks as σ has hσ h
    obtain ⟨k0, rfl⟩ := pX10_readTone h
    exact vX10_readTone (rX10_readTone_0 C hr hlocks) (rX10_readTone_39 C hr hlocks) k0 σ (has _ (List.mem_of_getElem? (i := 0) rfl)) hσ h
