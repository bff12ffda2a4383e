/-! an order is done in the model -/
def SX10_does : zS := fun as σ Ret => match as with
  | [.inr (.inr (10, 0, _)), .inl o, .inl t, .inl v] => (q_Dok (σ 93) ∧ (0 ≤ o ∧ o ≤ 7) ∧ (0 ≤ t ∧ t < σ 93 0) ∧ (0 ≤ v ∧ v ≤ 100) ∧ (o = 2 → v ≤ 7) ∧ σ 93 5 < 60) ∧ ∀ σ' : zM, (∀ c j, c ≠ 93 → c ≠ 95 → σ' c j = σ c j) → σ' 93 = q_ddD (σ 93) o t.toNat v → σ' 95 = q_ddO (σ 93) (σ 95) o t.toNat v → Ret none σ'
  | _ => False
def tX10_does_0 (X : Nat → zB) (Ret : zR) (L : zL) (st : List zV) (σ : zM) : Prop := (z_push 6 (z_push 6 (z_iload 2 (z_imul (z_iadd (z_istore 4 (z_iload 1 (z_push 2 (z_icne (z_iload 1 (z_push 3 (z_iceq (z_iload 4 (z_push 4 (z_iadd (z_goto (X 64))))) (z_iload 1 (z_push 4 (z_icne (z_iload 1 (z_push 5 (z_icne (z_iload 1 (z_push 6 (z_iclt (z_iload 4 (z_push 0 (z_iadd (X 64)))) (z_push 4 (z_goto (X 64)))))) (z_iload 4 (z_push 5 (z_iadd (z_goto (X 64)))))))) (z_iload 4 (z_push 4 (z_iadd (z_goto (X 64))))))))))) (z_iload 4 (z_push 2 (z_iadd (z_goto (X 64)))))))))))))) L st σ
def tX10_does_64 (X : Nat → zB) (Ret : zR) (L : zL) (st : List zV) (σ : zM) : Prop := (z_istore 5 (z_aload 0 (z_getr 10 4 100 106 (z_iload 5 (z_ald 0 (z_istore 6 (z_aload 0 (z_getr 10 4 100 106 (z_iload 5 (z_iload 1 (z_push 2 (z_icne (z_iload 1 (z_push 3 (z_iceq (z_push 1 (z_goto (X 144))) (z_iload 1 (z_push 5 (z_iceq (z_push 1 (z_goto (X 144))) (z_iload 1 (z_push 6 (z_icne (z_iload 1 (z_push 4 (z_iceq (z_push 0 (z_goto (X 144))) (z_iload 1 (z_push 7 (z_icne (z_aload 0 (z_iload 1 (z_ifne (z_iload 6 (z_iload 3 (z_iadd (z_cv1 10 SX10_lengthOf (X 144))))) (z_iload 6 (z_iload 3 (z_isub (z_goto (z_cv1 10 SX10_lengthOf (X 144))))))))) (z_push 0 (z_goto (X 144))))))))) (z_push 1 (z_goto (X 144)))))))))))) (z_iload 3 (z_goto (X 144))))))))))))))) L st σ
def tX10_does_144 (X : Nat → zB) (Ret : zR) (L : zL) (st : List zV) (σ : zM) : Prop := (z_iast (z_push 3 (z_aload 0 (z_getr 10 4 100 106 (z_push 5 (z_ald 0 (z_imul (z_istore 7 (z_aload 0 (z_getr 10 6 100 180 (z_iload 7 (z_iload 5 (z_iast (z_aload 0 (z_getr 10 6 100 180 (z_iload 7 (z_push 1 (z_iadd (z_iload 1 (z_push 2 (z_icge (z_push 0 (X 182)) (z_push 1 (z_goto (X 182)))))))))))))))))))))))) L st σ
def tX10_does_182 (X : Nat → zB) (Ret : zR) (L : zL) (st : List zV) (σ : zM) : Prop := (z_iast (z_aload 0 (z_getr 10 6 100 180 (z_iload 7 (z_push 2 (z_iadd (z_iload 1 (z_push 2 (z_icge (z_iload 6 (X 211)) (z_iload 6 (z_aload 0 (z_getr 10 4 100 106 (z_iload 5 (z_ald 0 (z_isub (z_goto (X 211))))))))))))))))) L st σ
def tX10_does_211 (X : Nat → zB) (Ret : zR) (L : zL) (st : List zV) (σ : zM) : Prop := (z_iast (z_aload 0 (z_getr 10 4 100 106 (z_push 5 (z_dup2 (z_ald 0 (z_push 1 (z_iadd (z_iast (z_vret Ret)))))))))) L st σ
theorem pX10_does {as : List zV} {σ : zM} {Ret : zR} (h : SX10_does as σ Ret) : ∃ (k0 : Nat) (x1 : Int) (x2 : Int) (x3 : Int), as = [.inr (.inr (10, 0, k0)), .inl x1, .inl x2, .inl x3] := by
  unfold SX10_does at h
  split at h
  · exact ⟨_, _, _, _, rfl⟩
  · exact h.elim
set_option maxRecDepth 10000 in
set_option maxHeartbeats 4000000 in
theorem vX10_does {X : Nat → zB} {Ret : zR} (h0 : ∀ L st σ, tX10_does_0 X Ret L st σ → X 0 L st σ) (h64 : ∀ L st σ, tX10_does_64 X Ret L st σ → X 64 L st σ) (h144 : ∀ L st σ, tX10_does_144 X Ret L st σ → X 144 L st σ) (h182 : ∀ L st σ, tX10_does_182 X Ret L st σ → X 182 L st σ) (h211 : ∀ L st σ, tX10_does_211 X Ret L st σ → X 211 L st σ) (k0 : Nat) (x1 : Int) (x2 : Int) (x3 : Int) (σ : zM) (hk0 : z_kd k0 = (10, 0)) (hx1 : -2147483648 ≤ x1 ∧ x1 ≤ 2147483647) (hx2 : -2147483648 ≤ x2 ∧ x2 ≤ 2147483647) (hx3 : -2147483648 ≤ x3 ∧ x3 ≤ 2147483647) (hσ : z_okm σ) (h : SX10_does [.inr (.inr (10, 0, k0)), .inl x1, .inl x2, .inl x3] σ Ret) : X 0 [some (.inr (.inr (10, 0, k0))), some (.inl x1), some (.inl x2), some (.inl x3), none, none, none, none] [] σ := by
  obtain ⟨⟨K, ho, ⟨t0, t1⟩, hv, hv2, h5⟩, h⟩ := h
  obtain rfl := z_kd10 hk0
  obtain ⟨t, rfl⟩ := z_nat t0
  rw [Int.toNat_natCast] at h
  have k0 := K.1.1
  have k5 := K.1.2.2.2.2
  obtain ⟨n, hn⟩ := z_nat k5.1
  have pc := q_pl_cases x1 t ho
  have pn := q_pl_ne (t := t) ho
  have at1 := q_Dok_at K ho t1
  have nw := q_new_in (v := σ 93 (q_pl x1 t).toNat) (n := x3) ho (fun q => ⟨hv.1, hv2 q⟩)
  have pr : (q_pl x1 t) = (((q_pl x1 t).toNat : Nat) : Int) ∧ (q_pl x1 t).toNat < 106 := by
    rcases pc with ⟨e, e2, e3⟩ | ⟨e, e2, e3⟩ | ⟨e, e2, e3⟩ | ⟨e, e2, e3⟩ | ⟨e, e2, e3⟩ <;> omega
  generalize hp : (q_pl x1 t).toNat = p at pn at1 nw pr
  generalize hN : q_new x1 x3 (σ 93 p) = N at nw
  have hnB : -1000 ≤ N ∧ N ≤ 1000 ∧ -1000 ≤ σ 93 p ∧ σ 93 p ≤ 1000 := by
    have : x1 < 2 ∨ x1 = 2 ∨ 3 ≤ x1 := by omega
    rcases this with e | e | e
    · have := at1.1 e; have := nw.1 e; omega
    · have := at1.2.1 e; have := nw.2.1 e; omega
    · have := at1.2.2 e; have := nw.2.2 e; omega
  have fin : Ret none (z_up (z_up (z_up (z_up (z_up σ 93 p N) 95 (3 * n) (p : Int)) 95 (3 * n + 1) (if x1 < 2 then 1 else 0)) 95 (3 * n + 2) (if x1 < 2 then σ 93 p - N else σ 93 p)) 93 5 ((n : Int) + 1)) := by
    refine h _ (fun c j h1 h2 => by rw [z_up_ne (by omega), z_up_ne (by omega), z_up_ne (by omega), z_up_ne (by omega), z_up_ne (by omega)]) (funext fun j => ?_) (funext fun j => ?_)
    · unfold q_ddD
      rw [hp, hN, hn]
      by_cases e : j = 5
      · subst e; rw [z_up_eq, q_d1_eq]
      · rw [z_up_ne (by omega), z_up_ne (by omega), z_up_ne (by omega), z_up_ne (by omega), q_d1_ne e]
        by_cases e2 : j = p
        · subst e2; rw [z_up_eq, q_d1_eq]
        · rw [z_up_ne (by omega), q_d1_ne e2]
    · unfold q_ddO
      rw [hp, hN, hn, Int.toNat_natCast, pr.1]
      rw [z_up_ne (by omega)]
      by_cases e : j = 3 * n + 2
      · subst e; rw [z_up_eq, q_d1_eq]
      · rw [z_up_ne (by omega), q_d1_ne e]
        by_cases e2 : j = 3 * n + 1
        · subst e2; rw [z_up_eq, q_d1_eq]
        · rw [z_up_ne (by omega), q_d1_ne e2]
          by_cases e3 : j = 3 * n
          · subst e3; rw [z_up_eq, q_d1_eq]
          · rw [z_up_ne (by omega), q_d1_ne e3, z_up_ne (by omega)]
  have s0 : (3 * (n : Int)).toNat = 3 * n := by omega
  have s1 : (3 * (n : Int) + 1).toNat = 3 * n + 1 := by omega
  have s2 : (3 * (n : Int) + 2).toNat = 3 * n + 2 := by omega
  have L211 : ∀ x, x = (if x1 < 2 then σ 93 p - N else σ 93 p) → X 211 [some (.inr (.inr (10, 0, 89))), some (.inl x1), some (.inl (t : Int)), some (.inl x3), some (.inl (6 + 6 * (t : Int))), some (.inl (p : Int)), some (.inl (σ 93 p)), some (.inl (3 * (n : Int)))] [.inl x, .inl (3 * (n : Int) + 2), .inr (.inr (100, 180, 95))] (z_up (z_up (z_up σ 93 p N) 95 (3 * n) (p : Int)) 95 (3 * n + 1) (if x1 < 2 then 1 else 0)) := by
    intro x hx
    subst hx
    have r5 : z_up σ 93 p N 93 5 = (n : Int) := by rw [z_up_ne (by omega), hn]
    refine h211 _ _ _ ?_
    simp only [z_push, z_lpush, z_iload, z_lload, z_aload, z_istore, z_istoreP, z_lstore, z_astore, z_iinc, z_iincP, z_iadd, z_isub, z_imul, z_iaddW, z_isubW, z_imulW, z_idiv, z_irem, z_iand, z_ior, z_ixor, z_ishl, z_ishr, z_iushr, z_ineg, z_i2l, z_i2b, z_i2s, z_i2c, z_l2i, z_ladd, z_lsub, z_land, z_lor, z_lshl, z_lshr, z_lcmp, z_dup, z_pop, z_dup2, z_goto, z_tsw, z_cases, z_geti, z_getr, z_puti, z_putz, z_ald, z_iast, z_bast, z_zast, z_alen, z_acopy, z_mmax, z_mmin, z_mabs, z_mabsL, z_iret, z_zret, z_nret, z_lret, z_aret, z_vret, z_cat, z_ldcs, z_strv, z_strc, z_gcs, z_gfm, z_sln, z_sald, z_ifeq, z_ifne, z_iflt, z_ifge, z_ifgt, z_ifle, z_iceq, z_icne, z_iclt, z_icge, z_icgt, z_icle, z_cs0, z_cs1, z_cs2, z_cs3, z_cs4, z_cs5, z_cs6, z_cs7, z_cv0, z_cv1, z_cv2, z_cv3, z_cv4, z_cv5, z_cv6, z_cv7, z_g0, z_s0, z_g1, z_s1, z_g2, z_s2, z_g3, z_s3, z_g4, z_s4, z_g5, z_s5, z_g6, z_s6, z_g7, z_s7, z_g8, z_s8, z_g9, z_s9, z_g10, z_s10, z_g11, z_s11, z_g12, z_s12, z_g13, z_s13, z_b0, z_b1, z_b0n, z_b1n, z_up_far1, z_up_far2, z_up_far3, z_up_far4, z_up_far5, z_up_far6, Classical.not_not, not_true_eq_false, z_in, z_inL, Int.cast_ofNat_Int, Nat.reduceLeDiff, List.length_cons, List.length_nil, Nat.reduceAdd, Nat.zero_add, Nat.le_refl, true_and, and_true, List.length, Nat.reduceLT, true_or, or_true, false_or, or_false, false_and, and_false, not_true_eq_false, not_false_eq_true, forall_const, false_implies, true_implies, Int.reduceEq, Int.reduceLT, Int.reduceLE, Int.reduceAdd, Int.reduceSub, Int.reduceMul, Int.reduceNeg, Int.reduceToNat, Int.toNat_natCast, ↓reduceIte, reduceIte, Nat.reduceEqDiff, Nat.reduceSub, Nat.reduceMul, ne_eq, Int.zero_add, Int.add_zero, Int.sub_zero, Nat.add_zero, Int.ofNat_eq_natCast, tX10_does_211, s2, r5]
    repeat' (first | (with_reducible intro _) | (with_reducible assumption) | (with_reducible refine And.intro ?_ ?_))
    all_goals first | omega | (with_reducible assumption) | (with_reducible refine z_fin fin ?_ rfl; first | rfl | omega | (split <;> omega) | (split <;> split <;> omega)) | skip
  have L182 : X 182 [some (.inr (.inr (10, 0, 89))), some (.inl x1), some (.inl (t : Int)), some (.inl x3), some (.inl (6 + 6 * (t : Int))), some (.inl (p : Int)), some (.inl (σ 93 p)), some (.inl (3 * (n : Int)))] [.inl (if x1 < 2 then 1 else 0), .inl (3 * (n : Int) + 1), .inr (.inr (100, 180, 95))] (z_up (z_up σ 93 p N) 95 (3 * n) (p : Int)) := by
    have r5 : z_up σ 93 p N 93 p = N := z_up_eq
    have p106 := pr.2
    refine h182 _ _ _ ?_
    simp only [z_push, z_lpush, z_iload, z_lload, z_aload, z_istore, z_istoreP, z_lstore, z_astore, z_iinc, z_iincP, z_iadd, z_isub, z_imul, z_iaddW, z_isubW, z_imulW, z_idiv, z_irem, z_iand, z_ior, z_ixor, z_ishl, z_ishr, z_iushr, z_ineg, z_i2l, z_i2b, z_i2s, z_i2c, z_l2i, z_ladd, z_lsub, z_land, z_lor, z_lshl, z_lshr, z_lcmp, z_dup, z_pop, z_dup2, z_goto, z_tsw, z_cases, z_geti, z_getr, z_puti, z_putz, z_ald, z_iast, z_bast, z_zast, z_alen, z_acopy, z_mmax, z_mmin, z_mabs, z_mabsL, z_iret, z_zret, z_nret, z_lret, z_aret, z_vret, z_cat, z_ldcs, z_strv, z_strc, z_gcs, z_gfm, z_sln, z_sald, z_ifeq, z_ifne, z_iflt, z_ifge, z_ifgt, z_ifle, z_iceq, z_icne, z_iclt, z_icge, z_icgt, z_icle, z_cs0, z_cs1, z_cs2, z_cs3, z_cs4, z_cs5, z_cs6, z_cs7, z_cv0, z_cv1, z_cv2, z_cv3, z_cv4, z_cv5, z_cv6, z_cv7, z_g0, z_s0, z_g1, z_s1, z_g2, z_s2, z_g3, z_s3, z_g4, z_s4, z_g5, z_s5, z_g6, z_s6, z_g7, z_s7, z_g8, z_s8, z_g9, z_s9, z_g10, z_s10, z_g11, z_s11, z_g12, z_s12, z_g13, z_s13, z_b0, z_b1, z_b0n, z_b1n, z_up_far1, z_up_far2, z_up_far3, z_up_far4, z_up_far5, z_up_far6, Classical.not_not, not_true_eq_false, z_in, z_inL, Int.cast_ofNat_Int, Nat.reduceLeDiff, List.length_cons, List.length_nil, Nat.reduceAdd, Nat.zero_add, Nat.le_refl, true_and, and_true, List.length, Nat.reduceLT, true_or, or_true, false_or, or_false, false_and, and_false, not_true_eq_false, not_false_eq_true, forall_const, false_implies, true_implies, Int.reduceEq, Int.reduceLT, Int.reduceLE, Int.reduceAdd, Int.reduceSub, Int.reduceMul, Int.reduceNeg, Int.reduceToNat, Int.toNat_natCast, ↓reduceIte, reduceIte, Nat.reduceEqDiff, Nat.reduceSub, Nat.reduceMul, ne_eq, Int.zero_add, Int.add_zero, Int.sub_zero, Nat.add_zero, Int.ofNat_eq_natCast, tX10_does_182, s1, r5]
    by_cases e : x1 < 2
    · have L := L211 (σ 93 p - N) (by rw [if_pos e])
      repeat' (first | (with_reducible intro _) | (with_reducible assumption) | (with_reducible refine And.intro ?_ ?_))
      all_goals first | omega | (with_reducible assumption) | (with_reducible refine z_fin fin ?_ rfl; first | rfl | omega | (split <;> omega) | (split <;> split <;> omega)) | skip
      all_goals first | exact L | (exfalso; omega)
    · have L := L211 (σ 93 p) (by rw [if_neg e])
      repeat' (first | (with_reducible intro _) | (with_reducible assumption) | (with_reducible refine And.intro ?_ ?_))
      all_goals first | omega | (with_reducible assumption) | (with_reducible refine z_fin fin ?_ rfl; first | rfl | omega | (split <;> omega) | (split <;> split <;> omega)) | skip
      all_goals first | exact L | (exfalso; omega)
  have L144 : ∀ w : Option zV, X 144 [some (.inr (.inr (10, 0, 89))), some (.inl x1), some (.inl (t : Int)), some (.inl x3), some (.inl (6 + 6 * (t : Int))), some (.inl (p : Int)), some (.inl (σ 93 p)), w] [.inl N, .inl (p : Int), .inr (.inr (100, 106, 93))] σ := by
    intro w
    have r5 : z_up σ 93 p N 93 5 = (n : Int) := by rw [z_up_ne (by omega), hn]
    refine h144 _ _ _ ?_
    simp only [z_push, z_lpush, z_iload, z_lload, z_aload, z_istore, z_istoreP, z_lstore, z_astore, z_iinc, z_iincP, z_iadd, z_isub, z_imul, z_iaddW, z_isubW, z_imulW, z_idiv, z_irem, z_iand, z_ior, z_ixor, z_ishl, z_ishr, z_iushr, z_ineg, z_i2l, z_i2b, z_i2s, z_i2c, z_l2i, z_ladd, z_lsub, z_land, z_lor, z_lshl, z_lshr, z_lcmp, z_dup, z_pop, z_dup2, z_goto, z_tsw, z_cases, z_geti, z_getr, z_puti, z_putz, z_ald, z_iast, z_bast, z_zast, z_alen, z_acopy, z_mmax, z_mmin, z_mabs, z_mabsL, z_iret, z_zret, z_nret, z_lret, z_aret, z_vret, z_cat, z_ldcs, z_strv, z_strc, z_gcs, z_gfm, z_sln, z_sald, z_ifeq, z_ifne, z_iflt, z_ifge, z_ifgt, z_ifle, z_iceq, z_icne, z_iclt, z_icge, z_icgt, z_icle, z_cs0, z_cs1, z_cs2, z_cs3, z_cs4, z_cs5, z_cs6, z_cs7, z_cv0, z_cv1, z_cv2, z_cv3, z_cv4, z_cv5, z_cv6, z_cv7, z_g0, z_s0, z_g1, z_s1, z_g2, z_s2, z_g3, z_s3, z_g4, z_s4, z_g5, z_s5, z_g6, z_s6, z_g7, z_s7, z_g8, z_s8, z_g9, z_s9, z_g10, z_s10, z_g11, z_s11, z_g12, z_s12, z_g13, z_s13, z_b0, z_b1, z_b0n, z_b1n, z_up_far1, z_up_far2, z_up_far3, z_up_far4, z_up_far5, z_up_far6, Classical.not_not, not_true_eq_false, z_in, z_inL, Int.cast_ofNat_Int, Nat.reduceLeDiff, List.length_cons, List.length_nil, Nat.reduceAdd, Nat.zero_add, Nat.le_refl, true_and, and_true, List.length, Nat.reduceLT, true_or, or_true, false_or, or_false, false_and, and_false, not_true_eq_false, not_false_eq_true, forall_const, false_implies, true_implies, Int.reduceEq, Int.reduceLT, Int.reduceLE, Int.reduceAdd, Int.reduceSub, Int.reduceMul, Int.reduceNeg, Int.reduceToNat, Int.toNat_natCast, ↓reduceIte, reduceIte, Nat.reduceEqDiff, Nat.reduceSub, Nat.reduceMul, ne_eq, Int.zero_add, Int.add_zero, Int.sub_zero, Nat.add_zero, Int.ofNat_eq_natCast, tX10_does_144, s0, r5]
    have p106 := pr.2
    have L := L182
    by_cases e : x1 < 2
    · rw [if_pos e] at L
      repeat' (first | (with_reducible intro _) | (with_reducible assumption) | (with_reducible refine And.intro ?_ ?_))
      all_goals first | omega | (with_reducible assumption) | (with_reducible refine z_fin fin ?_ rfl; first | rfl | omega | (split <;> omega) | (split <;> split <;> omega)) | skip
      all_goals first | exact L | (exfalso; omega)
    · rw [if_neg e] at L
      repeat' (first | (with_reducible intro _) | (with_reducible assumption) | (with_reducible refine And.intro ?_ ?_))
      all_goals first | omega | (with_reducible assumption) | (with_reducible refine z_fin fin ?_ rfl; first | rfl | omega | (split <;> omega) | (split <;> split <;> omega)) | skip
      all_goals first | exact L | (exfalso; omega)
  have L64 : X 64 [some (.inr (.inr (10, 0, 89))), some (.inl x1), some (.inl (t : Int)), some (.inl x3), some (.inl (6 + 6 * (t : Int))), none, none, none] [.inl (p : Int)] σ := by
    have p106 := pr.2
    have L := L144 none
    have hd : x1 = 0 ∨ x1 = 1 ∨ x1 = 2 ∨ x1 = 3 ∨ x1 = 4 ∨ x1 = 5 ∨ x1 = 6 ∨ x1 = 7 := by omega
    clear fin L211 L182 L144 h
    refine h64 _ _ _ ?_
    rcases hd with rfl | rfl | rfl | rfl | rfl | rfl | rfl | rfl
    · have hN : max 10 (min 999 (σ 93 p - x3)) = N := by rw [← hN, Int.sub_eq_add_neg]; rfl
      rw [← hN] at L
      simp only [z_push, z_lpush, z_iload, z_lload, z_aload, z_istore, z_istoreP, z_lstore, z_astore, z_iinc, z_iincP, z_iadd, z_isub, z_imul, z_iaddW, z_isubW, z_imulW, z_idiv, z_irem, z_iand, z_ior, z_ixor, z_ishl, z_ishr, z_iushr, z_ineg, z_i2l, z_i2b, z_i2s, z_i2c, z_l2i, z_ladd, z_lsub, z_land, z_lor, z_lshl, z_lshr, z_lcmp, z_dup, z_pop, z_dup2, z_goto, z_tsw, z_cases, z_geti, z_getr, z_puti, z_putz, z_ald, z_iast, z_bast, z_zast, z_alen, z_acopy, z_mmax, z_mmin, z_mabs, z_mabsL, z_iret, z_zret, z_nret, z_lret, z_aret, z_vret, z_cat, z_ldcs, z_strv, z_strc, z_gcs, z_gfm, z_sln, z_sald, z_ifeq, z_ifne, z_iflt, z_ifge, z_ifgt, z_ifle, z_iceq, z_icne, z_iclt, z_icge, z_icgt, z_icle, z_cs0, z_cs1, z_cs2, z_cs3, z_cs4, z_cs5, z_cs6, z_cs7, z_cv0, z_cv1, z_cv2, z_cv3, z_cv4, z_cv5, z_cv6, z_cv7, z_g0, z_s0, z_g1, z_s1, z_g2, z_s2, z_g3, z_s3, z_g4, z_s4, z_g5, z_s5, z_g6, z_s6, z_g7, z_s7, z_g8, z_s8, z_g9, z_s9, z_g10, z_s10, z_g11, z_s11, z_g12, z_s12, z_g13, z_s13, z_b0, z_b1, z_b0n, z_b1n, z_up_far1, z_up_far2, z_up_far3, z_up_far4, z_up_far5, z_up_far6, Classical.not_not, not_true_eq_false, z_in, z_inL, Int.cast_ofNat_Int, Nat.reduceLeDiff, List.length_cons, List.length_nil, Nat.reduceAdd, Nat.zero_add, Nat.le_refl, true_and, and_true, List.length, Nat.reduceLT, true_or, or_true, false_or, or_false, false_and, and_false, not_true_eq_false, not_false_eq_true, forall_const, false_implies, true_implies, Int.reduceEq, Int.reduceLT, Int.reduceLE, Int.reduceAdd, Int.reduceSub, Int.reduceMul, Int.reduceNeg, Int.reduceToNat, Int.toNat_natCast, ↓reduceIte, reduceIte, Nat.reduceEqDiff, Nat.reduceSub, Nat.reduceMul, ne_eq, Int.zero_add, Int.add_zero, Int.sub_zero, Nat.add_zero, Int.ofNat_eq_natCast, tX10_does_64, SX10_lengthOf]
      exact ⟨by omega, fun _ => ⟨by omega, L⟩⟩
    · have hN : max 10 (min 999 (σ 93 p + x3)) = N := by rw [← hN]; rfl
      rw [← hN] at L
      simp only [z_push, z_lpush, z_iload, z_lload, z_aload, z_istore, z_istoreP, z_lstore, z_astore, z_iinc, z_iincP, z_iadd, z_isub, z_imul, z_iaddW, z_isubW, z_imulW, z_idiv, z_irem, z_iand, z_ior, z_ixor, z_ishl, z_ishr, z_iushr, z_ineg, z_i2l, z_i2b, z_i2s, z_i2c, z_l2i, z_ladd, z_lsub, z_land, z_lor, z_lshl, z_lshr, z_lcmp, z_dup, z_pop, z_dup2, z_goto, z_tsw, z_cases, z_geti, z_getr, z_puti, z_putz, z_ald, z_iast, z_bast, z_zast, z_alen, z_acopy, z_mmax, z_mmin, z_mabs, z_mabsL, z_iret, z_zret, z_nret, z_lret, z_aret, z_vret, z_cat, z_ldcs, z_strv, z_strc, z_gcs, z_gfm, z_sln, z_sald, z_ifeq, z_ifne, z_iflt, z_ifge, z_ifgt, z_ifle, z_iceq, z_icne, z_iclt, z_icge, z_icgt, z_icle, z_cs0, z_cs1, z_cs2, z_cs3, z_cs4, z_cs5, z_cs6, z_cs7, z_cv0, z_cv1, z_cv2, z_cv3, z_cv4, z_cv5, z_cv6, z_cv7, z_g0, z_s0, z_g1, z_s1, z_g2, z_s2, z_g3, z_s3, z_g4, z_s4, z_g5, z_s5, z_g6, z_s6, z_g7, z_s7, z_g8, z_s8, z_g9, z_s9, z_g10, z_s10, z_g11, z_s11, z_g12, z_s12, z_g13, z_s13, z_b0, z_b1, z_b0n, z_b1n, z_up_far1, z_up_far2, z_up_far3, z_up_far4, z_up_far5, z_up_far6, Classical.not_not, not_true_eq_false, z_in, z_inL, Int.cast_ofNat_Int, Nat.reduceLeDiff, List.length_cons, List.length_nil, Nat.reduceAdd, Nat.zero_add, Nat.le_refl, true_and, and_true, List.length, Nat.reduceLT, true_or, or_true, false_or, or_false, false_and, and_false, not_true_eq_false, not_false_eq_true, forall_const, false_implies, true_implies, Int.reduceEq, Int.reduceLT, Int.reduceLE, Int.reduceAdd, Int.reduceSub, Int.reduceMul, Int.reduceNeg, Int.reduceToNat, Int.toNat_natCast, ↓reduceIte, reduceIte, Nat.reduceEqDiff, Nat.reduceSub, Nat.reduceMul, ne_eq, Int.zero_add, Int.add_zero, Int.sub_zero, Nat.add_zero, Int.ofNat_eq_natCast, tX10_does_64, SX10_lengthOf]
      exact ⟨by omega, fun _ => ⟨by omega, L⟩⟩
    · have hN : x3 = N := by rw [← hN]; rfl
      rw [← hN] at L
      simp only [z_push, z_lpush, z_iload, z_lload, z_aload, z_istore, z_istoreP, z_lstore, z_astore, z_iinc, z_iincP, z_iadd, z_isub, z_imul, z_iaddW, z_isubW, z_imulW, z_idiv, z_irem, z_iand, z_ior, z_ixor, z_ishl, z_ishr, z_iushr, z_ineg, z_i2l, z_i2b, z_i2s, z_i2c, z_l2i, z_ladd, z_lsub, z_land, z_lor, z_lshl, z_lshr, z_lcmp, z_dup, z_pop, z_dup2, z_goto, z_tsw, z_cases, z_geti, z_getr, z_puti, z_putz, z_ald, z_iast, z_bast, z_zast, z_alen, z_acopy, z_mmax, z_mmin, z_mabs, z_mabsL, z_iret, z_zret, z_nret, z_lret, z_aret, z_vret, z_cat, z_ldcs, z_strv, z_strc, z_gcs, z_gfm, z_sln, z_sald, z_ifeq, z_ifne, z_iflt, z_ifge, z_ifgt, z_ifle, z_iceq, z_icne, z_iclt, z_icge, z_icgt, z_icle, z_cs0, z_cs1, z_cs2, z_cs3, z_cs4, z_cs5, z_cs6, z_cs7, z_cv0, z_cv1, z_cv2, z_cv3, z_cv4, z_cv5, z_cv6, z_cv7, z_g0, z_s0, z_g1, z_s1, z_g2, z_s2, z_g3, z_s3, z_g4, z_s4, z_g5, z_s5, z_g6, z_s6, z_g7, z_s7, z_g8, z_s8, z_g9, z_s9, z_g10, z_s10, z_g11, z_s11, z_g12, z_s12, z_g13, z_s13, z_b0, z_b1, z_b0n, z_b1n, z_up_far1, z_up_far2, z_up_far3, z_up_far4, z_up_far5, z_up_far6, Classical.not_not, not_true_eq_false, z_in, z_inL, Int.cast_ofNat_Int, Nat.reduceLeDiff, List.length_cons, List.length_nil, Nat.reduceAdd, Nat.zero_add, Nat.le_refl, true_and, and_true, List.length, Nat.reduceLT, true_or, or_true, false_or, or_false, false_and, and_false, not_true_eq_false, not_false_eq_true, forall_const, false_implies, true_implies, Int.reduceEq, Int.reduceLT, Int.reduceLE, Int.reduceAdd, Int.reduceSub, Int.reduceMul, Int.reduceNeg, Int.reduceToNat, Int.toNat_natCast, ↓reduceIte, reduceIte, Nat.reduceEqDiff, Nat.reduceSub, Nat.reduceMul, ne_eq, Int.zero_add, Int.add_zero, Int.sub_zero, Nat.add_zero, Int.ofNat_eq_natCast, tX10_does_64, SX10_lengthOf]
      exact ⟨by omega, fun _ => L⟩
    · have hN : 1 = N := by rw [← hN]; rfl
      rw [← hN] at L
      simp only [z_push, z_lpush, z_iload, z_lload, z_aload, z_istore, z_istoreP, z_lstore, z_astore, z_iinc, z_iincP, z_iadd, z_isub, z_imul, z_iaddW, z_isubW, z_imulW, z_idiv, z_irem, z_iand, z_ior, z_ixor, z_ishl, z_ishr, z_iushr, z_ineg, z_i2l, z_i2b, z_i2s, z_i2c, z_l2i, z_ladd, z_lsub, z_land, z_lor, z_lshl, z_lshr, z_lcmp, z_dup, z_pop, z_dup2, z_goto, z_tsw, z_cases, z_geti, z_getr, z_puti, z_putz, z_ald, z_iast, z_bast, z_zast, z_alen, z_acopy, z_mmax, z_mmin, z_mabs, z_mabsL, z_iret, z_zret, z_nret, z_lret, z_aret, z_vret, z_cat, z_ldcs, z_strv, z_strc, z_gcs, z_gfm, z_sln, z_sald, z_ifeq, z_ifne, z_iflt, z_ifge, z_ifgt, z_ifle, z_iceq, z_icne, z_iclt, z_icge, z_icgt, z_icle, z_cs0, z_cs1, z_cs2, z_cs3, z_cs4, z_cs5, z_cs6, z_cs7, z_cv0, z_cv1, z_cv2, z_cv3, z_cv4, z_cv5, z_cv6, z_cv7, z_g0, z_s0, z_g1, z_s1, z_g2, z_s2, z_g3, z_s3, z_g4, z_s4, z_g5, z_s5, z_g6, z_s6, z_g7, z_s7, z_g8, z_s8, z_g9, z_s9, z_g10, z_s10, z_g11, z_s11, z_g12, z_s12, z_g13, z_s13, z_b0, z_b1, z_b0n, z_b1n, z_up_far1, z_up_far2, z_up_far3, z_up_far4, z_up_far5, z_up_far6, Classical.not_not, not_true_eq_false, z_in, z_inL, Int.cast_ofNat_Int, Nat.reduceLeDiff, List.length_cons, List.length_nil, Nat.reduceAdd, Nat.zero_add, Nat.le_refl, true_and, and_true, List.length, Nat.reduceLT, true_or, or_true, false_or, or_false, false_and, and_false, not_true_eq_false, not_false_eq_true, forall_const, false_implies, true_implies, Int.reduceEq, Int.reduceLT, Int.reduceLE, Int.reduceAdd, Int.reduceSub, Int.reduceMul, Int.reduceNeg, Int.reduceToNat, Int.toNat_natCast, ↓reduceIte, reduceIte, Nat.reduceEqDiff, Nat.reduceSub, Nat.reduceMul, ne_eq, Int.zero_add, Int.add_zero, Int.sub_zero, Nat.add_zero, Int.ofNat_eq_natCast, tX10_does_64, SX10_lengthOf]
      exact ⟨by omega, fun _ => L⟩
    · have hN : 0 = N := by rw [← hN]; rfl
      rw [← hN] at L
      simp only [z_push, z_lpush, z_iload, z_lload, z_aload, z_istore, z_istoreP, z_lstore, z_astore, z_iinc, z_iincP, z_iadd, z_isub, z_imul, z_iaddW, z_isubW, z_imulW, z_idiv, z_irem, z_iand, z_ior, z_ixor, z_ishl, z_ishr, z_iushr, z_ineg, z_i2l, z_i2b, z_i2s, z_i2c, z_l2i, z_ladd, z_lsub, z_land, z_lor, z_lshl, z_lshr, z_lcmp, z_dup, z_pop, z_dup2, z_goto, z_tsw, z_cases, z_geti, z_getr, z_puti, z_putz, z_ald, z_iast, z_bast, z_zast, z_alen, z_acopy, z_mmax, z_mmin, z_mabs, z_mabsL, z_iret, z_zret, z_nret, z_lret, z_aret, z_vret, z_cat, z_ldcs, z_strv, z_strc, z_gcs, z_gfm, z_sln, z_sald, z_ifeq, z_ifne, z_iflt, z_ifge, z_ifgt, z_ifle, z_iceq, z_icne, z_iclt, z_icge, z_icgt, z_icle, z_cs0, z_cs1, z_cs2, z_cs3, z_cs4, z_cs5, z_cs6, z_cs7, z_cv0, z_cv1, z_cv2, z_cv3, z_cv4, z_cv5, z_cv6, z_cv7, z_g0, z_s0, z_g1, z_s1, z_g2, z_s2, z_g3, z_s3, z_g4, z_s4, z_g5, z_s5, z_g6, z_s6, z_g7, z_s7, z_g8, z_s8, z_g9, z_s9, z_g10, z_s10, z_g11, z_s11, z_g12, z_s12, z_g13, z_s13, z_b0, z_b1, z_b0n, z_b1n, z_up_far1, z_up_far2, z_up_far3, z_up_far4, z_up_far5, z_up_far6, Classical.not_not, not_true_eq_false, z_in, z_inL, Int.cast_ofNat_Int, Nat.reduceLeDiff, List.length_cons, List.length_nil, Nat.reduceAdd, Nat.zero_add, Nat.le_refl, true_and, and_true, List.length, Nat.reduceLT, true_or, or_true, false_or, or_false, false_and, and_false, not_true_eq_false, not_false_eq_true, forall_const, false_implies, true_implies, Int.reduceEq, Int.reduceLT, Int.reduceLE, Int.reduceAdd, Int.reduceSub, Int.reduceMul, Int.reduceNeg, Int.reduceToNat, Int.toNat_natCast, ↓reduceIte, reduceIte, Nat.reduceEqDiff, Nat.reduceSub, Nat.reduceMul, ne_eq, Int.zero_add, Int.add_zero, Int.sub_zero, Nat.add_zero, Int.ofNat_eq_natCast, tX10_does_64, SX10_lengthOf]
      exact ⟨by omega, fun _ => L⟩
    · have hN : 1 = N := by rw [← hN]; rfl
      rw [← hN] at L
      simp only [z_push, z_lpush, z_iload, z_lload, z_aload, z_istore, z_istoreP, z_lstore, z_astore, z_iinc, z_iincP, z_iadd, z_isub, z_imul, z_iaddW, z_isubW, z_imulW, z_idiv, z_irem, z_iand, z_ior, z_ixor, z_ishl, z_ishr, z_iushr, z_ineg, z_i2l, z_i2b, z_i2s, z_i2c, z_l2i, z_ladd, z_lsub, z_land, z_lor, z_lshl, z_lshr, z_lcmp, z_dup, z_pop, z_dup2, z_goto, z_tsw, z_cases, z_geti, z_getr, z_puti, z_putz, z_ald, z_iast, z_bast, z_zast, z_alen, z_acopy, z_mmax, z_mmin, z_mabs, z_mabsL, z_iret, z_zret, z_nret, z_lret, z_aret, z_vret, z_cat, z_ldcs, z_strv, z_strc, z_gcs, z_gfm, z_sln, z_sald, z_ifeq, z_ifne, z_iflt, z_ifge, z_ifgt, z_ifle, z_iceq, z_icne, z_iclt, z_icge, z_icgt, z_icle, z_cs0, z_cs1, z_cs2, z_cs3, z_cs4, z_cs5, z_cs6, z_cs7, z_cv0, z_cv1, z_cv2, z_cv3, z_cv4, z_cv5, z_cv6, z_cv7, z_g0, z_s0, z_g1, z_s1, z_g2, z_s2, z_g3, z_s3, z_g4, z_s4, z_g5, z_s5, z_g6, z_s6, z_g7, z_s7, z_g8, z_s8, z_g9, z_s9, z_g10, z_s10, z_g11, z_s11, z_g12, z_s12, z_g13, z_s13, z_b0, z_b1, z_b0n, z_b1n, z_up_far1, z_up_far2, z_up_far3, z_up_far4, z_up_far5, z_up_far6, Classical.not_not, not_true_eq_false, z_in, z_inL, Int.cast_ofNat_Int, Nat.reduceLeDiff, List.length_cons, List.length_nil, Nat.reduceAdd, Nat.zero_add, Nat.le_refl, true_and, and_true, List.length, Nat.reduceLT, true_or, or_true, false_or, or_false, false_and, and_false, not_true_eq_false, not_false_eq_true, forall_const, false_implies, true_implies, Int.reduceEq, Int.reduceLT, Int.reduceLE, Int.reduceAdd, Int.reduceSub, Int.reduceMul, Int.reduceNeg, Int.reduceToNat, Int.toNat_natCast, ↓reduceIte, reduceIte, Nat.reduceEqDiff, Nat.reduceSub, Nat.reduceMul, ne_eq, Int.zero_add, Int.add_zero, Int.sub_zero, Nat.add_zero, Int.ofNat_eq_natCast, tX10_does_64, SX10_lengthOf]
      exact ⟨by omega, fun _ => L⟩
    · have hN : 1 = N := by rw [← hN]; rfl
      rw [← hN] at L
      simp only [z_push, z_lpush, z_iload, z_lload, z_aload, z_istore, z_istoreP, z_lstore, z_astore, z_iinc, z_iincP, z_iadd, z_isub, z_imul, z_iaddW, z_isubW, z_imulW, z_idiv, z_irem, z_iand, z_ior, z_ixor, z_ishl, z_ishr, z_iushr, z_ineg, z_i2l, z_i2b, z_i2s, z_i2c, z_l2i, z_ladd, z_lsub, z_land, z_lor, z_lshl, z_lshr, z_lcmp, z_dup, z_pop, z_dup2, z_goto, z_tsw, z_cases, z_geti, z_getr, z_puti, z_putz, z_ald, z_iast, z_bast, z_zast, z_alen, z_acopy, z_mmax, z_mmin, z_mabs, z_mabsL, z_iret, z_zret, z_nret, z_lret, z_aret, z_vret, z_cat, z_ldcs, z_strv, z_strc, z_gcs, z_gfm, z_sln, z_sald, z_ifeq, z_ifne, z_iflt, z_ifge, z_ifgt, z_ifle, z_iceq, z_icne, z_iclt, z_icge, z_icgt, z_icle, z_cs0, z_cs1, z_cs2, z_cs3, z_cs4, z_cs5, z_cs6, z_cs7, z_cv0, z_cv1, z_cv2, z_cv3, z_cv4, z_cv5, z_cv6, z_cv7, z_g0, z_s0, z_g1, z_s1, z_g2, z_s2, z_g3, z_s3, z_g4, z_s4, z_g5, z_s5, z_g6, z_s6, z_g7, z_s7, z_g8, z_s8, z_g9, z_s9, z_g10, z_s10, z_g11, z_s11, z_g12, z_s12, z_g13, z_s13, z_b0, z_b1, z_b0n, z_b1n, z_up_far1, z_up_far2, z_up_far3, z_up_far4, z_up_far5, z_up_far6, Classical.not_not, not_true_eq_false, z_in, z_inL, Int.cast_ofNat_Int, Nat.reduceLeDiff, List.length_cons, List.length_nil, Nat.reduceAdd, Nat.zero_add, Nat.le_refl, true_and, and_true, List.length, Nat.reduceLT, true_or, or_true, false_or, or_false, false_and, and_false, not_true_eq_false, not_false_eq_true, forall_const, false_implies, true_implies, Int.reduceEq, Int.reduceLT, Int.reduceLE, Int.reduceAdd, Int.reduceSub, Int.reduceMul, Int.reduceNeg, Int.reduceToNat, Int.toNat_natCast, ↓reduceIte, reduceIte, Nat.reduceEqDiff, Nat.reduceSub, Nat.reduceMul, ne_eq, Int.zero_add, Int.add_zero, Int.sub_zero, Nat.add_zero, Int.ofNat_eq_natCast, tX10_does_64, SX10_lengthOf]
      exact ⟨by omega, fun _ => L⟩
    · have hN : 0 = N := by rw [← hN]; rfl
      rw [← hN] at L
      simp only [z_push, z_lpush, z_iload, z_lload, z_aload, z_istore, z_istoreP, z_lstore, z_astore, z_iinc, z_iincP, z_iadd, z_isub, z_imul, z_iaddW, z_isubW, z_imulW, z_idiv, z_irem, z_iand, z_ior, z_ixor, z_ishl, z_ishr, z_iushr, z_ineg, z_i2l, z_i2b, z_i2s, z_i2c, z_l2i, z_ladd, z_lsub, z_land, z_lor, z_lshl, z_lshr, z_lcmp, z_dup, z_pop, z_dup2, z_goto, z_tsw, z_cases, z_geti, z_getr, z_puti, z_putz, z_ald, z_iast, z_bast, z_zast, z_alen, z_acopy, z_mmax, z_mmin, z_mabs, z_mabsL, z_iret, z_zret, z_nret, z_lret, z_aret, z_vret, z_cat, z_ldcs, z_strv, z_strc, z_gcs, z_gfm, z_sln, z_sald, z_ifeq, z_ifne, z_iflt, z_ifge, z_ifgt, z_ifle, z_iceq, z_icne, z_iclt, z_icge, z_icgt, z_icle, z_cs0, z_cs1, z_cs2, z_cs3, z_cs4, z_cs5, z_cs6, z_cs7, z_cv0, z_cv1, z_cv2, z_cv3, z_cv4, z_cv5, z_cv6, z_cv7, z_g0, z_s0, z_g1, z_s1, z_g2, z_s2, z_g3, z_s3, z_g4, z_s4, z_g5, z_s5, z_g6, z_s6, z_g7, z_s7, z_g8, z_s8, z_g9, z_s9, z_g10, z_s10, z_g11, z_s11, z_g12, z_s12, z_g13, z_s13, z_b0, z_b1, z_b0n, z_b1n, z_up_far1, z_up_far2, z_up_far3, z_up_far4, z_up_far5, z_up_far6, Classical.not_not, not_true_eq_false, z_in, z_inL, Int.cast_ofNat_Int, Nat.reduceLeDiff, List.length_cons, List.length_nil, Nat.reduceAdd, Nat.zero_add, Nat.le_refl, true_and, and_true, List.length, Nat.reduceLT, true_or, or_true, false_or, or_false, false_and, and_false, not_true_eq_false, not_false_eq_true, forall_const, false_implies, true_implies, Int.reduceEq, Int.reduceLT, Int.reduceLE, Int.reduceAdd, Int.reduceSub, Int.reduceMul, Int.reduceNeg, Int.reduceToNat, Int.toNat_natCast, ↓reduceIte, reduceIte, Nat.reduceEqDiff, Nat.reduceSub, Nat.reduceMul, ne_eq, Int.zero_add, Int.add_zero, Int.sub_zero, Nat.add_zero, Int.ofNat_eq_natCast, tX10_does_64, SX10_lengthOf]
      exact ⟨by omega, fun _ => L⟩
  have ep : (p : Int) = q_pl x1 t := pr.1.symm
  rw [ep] at L64
  clear fin L211 L182 L144 h
  refine h0 _ _ _ ?_
  rcases pc with ⟨e, e2, e3⟩ | ⟨e, e2, e3⟩ | ⟨e, e2, e3⟩ | ⟨e, e2, e3⟩ | ⟨e, e2, e3⟩
  · rw [e2] at L64
    have hd : x1 = 0 ∨ x1 = 1 := by omega
    rcases hd with rfl | rfl
    all_goals
      simp only [z_push, z_lpush, z_iload, z_lload, z_aload, z_istore, z_istoreP, z_lstore, z_astore, z_iinc, z_iincP, z_iadd, z_isub, z_imul, z_iaddW, z_isubW, z_imulW, z_idiv, z_irem, z_iand, z_ior, z_ixor, z_ishl, z_ishr, z_iushr, z_ineg, z_i2l, z_i2b, z_i2s, z_i2c, z_l2i, z_ladd, z_lsub, z_land, z_lor, z_lshl, z_lshr, z_lcmp, z_dup, z_pop, z_dup2, z_goto, z_tsw, z_cases, z_geti, z_getr, z_puti, z_putz, z_ald, z_iast, z_bast, z_zast, z_alen, z_acopy, z_mmax, z_mmin, z_mabs, z_mabsL, z_iret, z_zret, z_nret, z_lret, z_aret, z_vret, z_cat, z_ldcs, z_strv, z_strc, z_gcs, z_gfm, z_sln, z_sald, z_ifeq, z_ifne, z_iflt, z_ifge, z_ifgt, z_ifle, z_iceq, z_icne, z_iclt, z_icge, z_icgt, z_icle, z_cs0, z_cs1, z_cs2, z_cs3, z_cs4, z_cs5, z_cs6, z_cs7, z_cv0, z_cv1, z_cv2, z_cv3, z_cv4, z_cv5, z_cv6, z_cv7, z_g0, z_s0, z_g1, z_s1, z_g2, z_s2, z_g3, z_s3, z_g4, z_s4, z_g5, z_s5, z_g6, z_s6, z_g7, z_s7, z_g8, z_s8, z_g9, z_s9, z_g10, z_s10, z_g11, z_s11, z_g12, z_s12, z_g13, z_s13, z_b0, z_b1, z_b0n, z_b1n, z_up_far1, z_up_far2, z_up_far3, z_up_far4, z_up_far5, z_up_far6, Classical.not_not, not_true_eq_false, z_in, z_inL, Int.cast_ofNat_Int, Nat.reduceLeDiff, List.length_cons, List.length_nil, Nat.reduceAdd, Nat.zero_add, Nat.le_refl, true_and, and_true, List.length, Nat.reduceLT, true_or, or_true, false_or, or_false, false_and, and_false, not_true_eq_false, not_false_eq_true, forall_const, false_implies, true_implies, Int.reduceEq, Int.reduceLT, Int.reduceLE, Int.reduceAdd, Int.reduceSub, Int.reduceMul, Int.reduceNeg, Int.reduceToNat, Int.toNat_natCast, ↓reduceIte, reduceIte, Nat.reduceEqDiff, Nat.reduceSub, Nat.reduceMul, ne_eq, Int.zero_add, Int.add_zero, Int.sub_zero, Nat.add_zero, Int.ofNat_eq_natCast, tX10_does_0]
      repeat' (first | (intro _) | (with_reducible assumption) | (refine And.intro ?_ ?_))
      all_goals first | omega | assumption | (refine z_fin hn ?_ rfl; first | rfl | omega | (split <;> omega) | (split <;> split <;> omega)) | skip
  · rw [e2] at L64
    subst e
    simp only [z_push, z_lpush, z_iload, z_lload, z_aload, z_istore, z_istoreP, z_lstore, z_astore, z_iinc, z_iincP, z_iadd, z_isub, z_imul, z_iaddW, z_isubW, z_imulW, z_idiv, z_irem, z_iand, z_ior, z_ixor, z_ishl, z_ishr, z_iushr, z_ineg, z_i2l, z_i2b, z_i2s, z_i2c, z_l2i, z_ladd, z_lsub, z_land, z_lor, z_lshl, z_lshr, z_lcmp, z_dup, z_pop, z_dup2, z_goto, z_tsw, z_cases, z_geti, z_getr, z_puti, z_putz, z_ald, z_iast, z_bast, z_zast, z_alen, z_acopy, z_mmax, z_mmin, z_mabs, z_mabsL, z_iret, z_zret, z_nret, z_lret, z_aret, z_vret, z_cat, z_ldcs, z_strv, z_strc, z_gcs, z_gfm, z_sln, z_sald, z_ifeq, z_ifne, z_iflt, z_ifge, z_ifgt, z_ifle, z_iceq, z_icne, z_iclt, z_icge, z_icgt, z_icle, z_cs0, z_cs1, z_cs2, z_cs3, z_cs4, z_cs5, z_cs6, z_cs7, z_cv0, z_cv1, z_cv2, z_cv3, z_cv4, z_cv5, z_cv6, z_cv7, z_g0, z_s0, z_g1, z_s1, z_g2, z_s2, z_g3, z_s3, z_g4, z_s4, z_g5, z_s5, z_g6, z_s6, z_g7, z_s7, z_g8, z_s8, z_g9, z_s9, z_g10, z_s10, z_g11, z_s11, z_g12, z_s12, z_g13, z_s13, z_b0, z_b1, z_b0n, z_b1n, z_up_far1, z_up_far2, z_up_far3, z_up_far4, z_up_far5, z_up_far6, Classical.not_not, not_true_eq_false, z_in, z_inL, Int.cast_ofNat_Int, Nat.reduceLeDiff, List.length_cons, List.length_nil, Nat.reduceAdd, Nat.zero_add, Nat.le_refl, true_and, and_true, List.length, Nat.reduceLT, true_or, or_true, false_or, or_false, false_and, and_false, not_true_eq_false, not_false_eq_true, forall_const, false_implies, true_implies, Int.reduceEq, Int.reduceLT, Int.reduceLE, Int.reduceAdd, Int.reduceSub, Int.reduceMul, Int.reduceNeg, Int.reduceToNat, Int.toNat_natCast, ↓reduceIte, reduceIte, Nat.reduceEqDiff, Nat.reduceSub, Nat.reduceMul, ne_eq, Int.zero_add, Int.add_zero, Int.sub_zero, Nat.add_zero, Int.ofNat_eq_natCast, tX10_does_0]
    repeat' (first | (intro _) | (with_reducible assumption) | (refine And.intro ?_ ?_))
    all_goals first | omega | assumption | (refine z_fin hn ?_ rfl; first | rfl | omega | (split <;> omega) | (split <;> split <;> omega)) | skip
  · rw [e2] at L64
    rcases e with rfl | rfl
    all_goals
      simp only [z_push, z_lpush, z_iload, z_lload, z_aload, z_istore, z_istoreP, z_lstore, z_astore, z_iinc, z_iincP, z_iadd, z_isub, z_imul, z_iaddW, z_isubW, z_imulW, z_idiv, z_irem, z_iand, z_ior, z_ixor, z_ishl, z_ishr, z_iushr, z_ineg, z_i2l, z_i2b, z_i2s, z_i2c, z_l2i, z_ladd, z_lsub, z_land, z_lor, z_lshl, z_lshr, z_lcmp, z_dup, z_pop, z_dup2, z_goto, z_tsw, z_cases, z_geti, z_getr, z_puti, z_putz, z_ald, z_iast, z_bast, z_zast, z_alen, z_acopy, z_mmax, z_mmin, z_mabs, z_mabsL, z_iret, z_zret, z_nret, z_lret, z_aret, z_vret, z_cat, z_ldcs, z_strv, z_strc, z_gcs, z_gfm, z_sln, z_sald, z_ifeq, z_ifne, z_iflt, z_ifge, z_ifgt, z_ifle, z_iceq, z_icne, z_iclt, z_icge, z_icgt, z_icle, z_cs0, z_cs1, z_cs2, z_cs3, z_cs4, z_cs5, z_cs6, z_cs7, z_cv0, z_cv1, z_cv2, z_cv3, z_cv4, z_cv5, z_cv6, z_cv7, z_g0, z_s0, z_g1, z_s1, z_g2, z_s2, z_g3, z_s3, z_g4, z_s4, z_g5, z_s5, z_g6, z_s6, z_g7, z_s7, z_g8, z_s8, z_g9, z_s9, z_g10, z_s10, z_g11, z_s11, z_g12, z_s12, z_g13, z_s13, z_b0, z_b1, z_b0n, z_b1n, z_up_far1, z_up_far2, z_up_far3, z_up_far4, z_up_far5, z_up_far6, Classical.not_not, not_true_eq_false, z_in, z_inL, Int.cast_ofNat_Int, Nat.reduceLeDiff, List.length_cons, List.length_nil, Nat.reduceAdd, Nat.zero_add, Nat.le_refl, true_and, and_true, List.length, Nat.reduceLT, true_or, or_true, false_or, or_false, false_and, and_false, not_true_eq_false, not_false_eq_true, forall_const, false_implies, true_implies, Int.reduceEq, Int.reduceLT, Int.reduceLE, Int.reduceAdd, Int.reduceSub, Int.reduceMul, Int.reduceNeg, Int.reduceToNat, Int.toNat_natCast, ↓reduceIte, reduceIte, Nat.reduceEqDiff, Nat.reduceSub, Nat.reduceMul, ne_eq, Int.zero_add, Int.add_zero, Int.sub_zero, Nat.add_zero, Int.ofNat_eq_natCast, tX10_does_0]
      repeat' (first | (intro _) | (with_reducible assumption) | (refine And.intro ?_ ?_))
      all_goals first | omega | assumption | (refine z_fin hn ?_ rfl; first | rfl | omega | (split <;> omega) | (split <;> split <;> omega)) | skip
  · rw [e2] at L64
    subst e
    simp only [z_push, z_lpush, z_iload, z_lload, z_aload, z_istore, z_istoreP, z_lstore, z_astore, z_iinc, z_iincP, z_iadd, z_isub, z_imul, z_iaddW, z_isubW, z_imulW, z_idiv, z_irem, z_iand, z_ior, z_ixor, z_ishl, z_ishr, z_iushr, z_ineg, z_i2l, z_i2b, z_i2s, z_i2c, z_l2i, z_ladd, z_lsub, z_land, z_lor, z_lshl, z_lshr, z_lcmp, z_dup, z_pop, z_dup2, z_goto, z_tsw, z_cases, z_geti, z_getr, z_puti, z_putz, z_ald, z_iast, z_bast, z_zast, z_alen, z_acopy, z_mmax, z_mmin, z_mabs, z_mabsL, z_iret, z_zret, z_nret, z_lret, z_aret, z_vret, z_cat, z_ldcs, z_strv, z_strc, z_gcs, z_gfm, z_sln, z_sald, z_ifeq, z_ifne, z_iflt, z_ifge, z_ifgt, z_ifle, z_iceq, z_icne, z_iclt, z_icge, z_icgt, z_icle, z_cs0, z_cs1, z_cs2, z_cs3, z_cs4, z_cs5, z_cs6, z_cs7, z_cv0, z_cv1, z_cv2, z_cv3, z_cv4, z_cv5, z_cv6, z_cv7, z_g0, z_s0, z_g1, z_s1, z_g2, z_s2, z_g3, z_s3, z_g4, z_s4, z_g5, z_s5, z_g6, z_s6, z_g7, z_s7, z_g8, z_s8, z_g9, z_s9, z_g10, z_s10, z_g11, z_s11, z_g12, z_s12, z_g13, z_s13, z_b0, z_b1, z_b0n, z_b1n, z_up_far1, z_up_far2, z_up_far3, z_up_far4, z_up_far5, z_up_far6, Classical.not_not, not_true_eq_false, z_in, z_inL, Int.cast_ofNat_Int, Nat.reduceLeDiff, List.length_cons, List.length_nil, Nat.reduceAdd, Nat.zero_add, Nat.le_refl, true_and, and_true, List.length, Nat.reduceLT, true_or, or_true, false_or, or_false, false_and, and_false, not_true_eq_false, not_false_eq_true, forall_const, false_implies, true_implies, Int.reduceEq, Int.reduceLT, Int.reduceLE, Int.reduceAdd, Int.reduceSub, Int.reduceMul, Int.reduceNeg, Int.reduceToNat, Int.toNat_natCast, ↓reduceIte, reduceIte, Nat.reduceEqDiff, Nat.reduceSub, Nat.reduceMul, ne_eq, Int.zero_add, Int.add_zero, Int.sub_zero, Nat.add_zero, Int.ofNat_eq_natCast, tX10_does_0]
    repeat' (first | (intro _) | (with_reducible assumption) | (refine And.intro ?_ ?_))
    all_goals first | omega | assumption | (refine z_fin hn ?_ rfl; first | rfl | omega | (split <;> omega) | (split <;> split <;> omega)) | skip
  · rw [e2] at L64
    rcases e with rfl | rfl
    all_goals
      simp only [z_push, z_lpush, z_iload, z_lload, z_aload, z_istore, z_istoreP, z_lstore, z_astore, z_iinc, z_iincP, z_iadd, z_isub, z_imul, z_iaddW, z_isubW, z_imulW, z_idiv, z_irem, z_iand, z_ior, z_ixor, z_ishl, z_ishr, z_iushr, z_ineg, z_i2l, z_i2b, z_i2s, z_i2c, z_l2i, z_ladd, z_lsub, z_land, z_lor, z_lshl, z_lshr, z_lcmp, z_dup, z_pop, z_dup2, z_goto, z_tsw, z_cases, z_geti, z_getr, z_puti, z_putz, z_ald, z_iast, z_bast, z_zast, z_alen, z_acopy, z_mmax, z_mmin, z_mabs, z_mabsL, z_iret, z_zret, z_nret, z_lret, z_aret, z_vret, z_cat, z_ldcs, z_strv, z_strc, z_gcs, z_gfm, z_sln, z_sald, z_ifeq, z_ifne, z_iflt, z_ifge, z_ifgt, z_ifle, z_iceq, z_icne, z_iclt, z_icge, z_icgt, z_icle, z_cs0, z_cs1, z_cs2, z_cs3, z_cs4, z_cs5, z_cs6, z_cs7, z_cv0, z_cv1, z_cv2, z_cv3, z_cv4, z_cv5, z_cv6, z_cv7, z_g0, z_s0, z_g1, z_s1, z_g2, z_s2, z_g3, z_s3, z_g4, z_s4, z_g5, z_s5, z_g6, z_s6, z_g7, z_s7, z_g8, z_s8, z_g9, z_s9, z_g10, z_s10, z_g11, z_s11, z_g12, z_s12, z_g13, z_s13, z_b0, z_b1, z_b0n, z_b1n, z_up_far1, z_up_far2, z_up_far3, z_up_far4, z_up_far5, z_up_far6, Classical.not_not, not_true_eq_false, z_in, z_inL, Int.cast_ofNat_Int, Nat.reduceLeDiff, List.length_cons, List.length_nil, Nat.reduceAdd, Nat.zero_add, Nat.le_refl, true_and, and_true, List.length, Nat.reduceLT, true_or, or_true, false_or, or_false, false_and, and_false, not_true_eq_false, not_false_eq_true, forall_const, false_implies, true_implies, Int.reduceEq, Int.reduceLT, Int.reduceLE, Int.reduceAdd, Int.reduceSub, Int.reduceMul, Int.reduceNeg, Int.reduceToNat, Int.toNat_natCast, ↓reduceIte, reduceIte, Nat.reduceEqDiff, Nat.reduceSub, Nat.reduceMul, ne_eq, Int.zero_add, Int.add_zero, Int.sub_zero, Nat.add_zero, Int.ofNat_eq_natCast, tX10_does_0]
      repeat' (first | (intro _) | (with_reducible assumption) | (refine And.intro ?_ ?_))
      all_goals first | omega | assumption | (refine z_fin hn ?_ rfl; first | rfl | omega | (split <;> omega) | (split <;> split <;> omega)) | skip
theorem dX10_does_0 : decode cX10_does 0 = .ok (.bipush 6, 2) := by decide +kernel
theorem dX10_does_2 : decode cX10_does 2 = .ok (.bipush 6, 2) := by decide +kernel
theorem dX10_does_4 : decode cX10_does 4 = .ok (.iload_n 2, 1) := by decide +kernel
theorem dX10_does_5 : decode cX10_does 5 = .ok (.imul, 1) := by decide +kernel
theorem dX10_does_6 : decode cX10_does 6 = .ok (.iadd, 1) := by decide +kernel
theorem dX10_does_7 : decode cX10_does 7 = .ok (.istore 4, 2) := by decide +kernel
theorem dX10_does_9 : decode cX10_does 9 = .ok (.iload_n 1, 1) := by decide +kernel
theorem dX10_does_10 : decode cX10_does 10 = .ok (.iconst 2, 1) := by decide +kernel
theorem dX10_does_11 : decode cX10_does 11 = .ok (.if_icmp .ne 10, 3) := by decide +kernel
theorem dX10_does_14 : decode cX10_does 14 = .ok (.iload 4, 2) := by decide +kernel
theorem dX10_does_16 : decode cX10_does 16 = .ok (.iconst 2, 1) := by decide +kernel
theorem dX10_does_17 : decode cX10_does 17 = .ok (.iadd, 1) := by decide +kernel
theorem dX10_does_18 : decode cX10_does 18 = .ok (.goto 46, 3) := by decide +kernel
theorem dX10_does_21 : decode cX10_does 21 = .ok (.iload_n 1, 1) := by decide +kernel
theorem dX10_does_22 : decode cX10_does 22 = .ok (.iconst 3, 1) := by decide +kernel
theorem dX10_does_23 : decode cX10_does 23 = .ok (.if_icmp .eq 8, 3) := by decide +kernel
theorem dX10_does_26 : decode cX10_does 26 = .ok (.iload_n 1, 1) := by decide +kernel
theorem dX10_does_27 : decode cX10_does 27 = .ok (.iconst 4, 1) := by decide +kernel
theorem dX10_does_28 : decode cX10_does 28 = .ok (.if_icmp .ne 10, 3) := by decide +kernel
theorem dX10_does_31 : decode cX10_does 31 = .ok (.iload 4, 2) := by decide +kernel
theorem dX10_does_33 : decode cX10_does 33 = .ok (.iconst 4, 1) := by decide +kernel
theorem dX10_does_34 : decode cX10_does 34 = .ok (.iadd, 1) := by decide +kernel
theorem dX10_does_35 : decode cX10_does 35 = .ok (.goto 29, 3) := by decide +kernel
theorem dX10_does_38 : decode cX10_does 38 = .ok (.iload_n 1, 1) := by decide +kernel
theorem dX10_does_39 : decode cX10_does 39 = .ok (.iconst 5, 1) := by decide +kernel
theorem dX10_does_40 : decode cX10_does 40 = .ok (.if_icmp .ne 10, 3) := by decide +kernel
theorem dX10_does_43 : decode cX10_does 43 = .ok (.iload 4, 2) := by decide +kernel
theorem dX10_does_45 : decode cX10_does 45 = .ok (.iconst 5, 1) := by decide +kernel
theorem dX10_does_46 : decode cX10_does 46 = .ok (.iadd, 1) := by decide +kernel
theorem dX10_does_47 : decode cX10_does 47 = .ok (.goto 17, 3) := by decide +kernel
theorem dX10_does_50 : decode cX10_does 50 = .ok (.iload_n 1, 1) := by decide +kernel
theorem dX10_does_51 : decode cX10_does 51 = .ok (.bipush 6, 2) := by decide +kernel
theorem dX10_does_53 : decode cX10_does 53 = .ok (.if_icmp .lt 7, 3) := by decide +kernel
theorem dX10_does_56 : decode cX10_does 56 = .ok (.iconst 4, 1) := by decide +kernel
theorem dX10_does_57 : decode cX10_does 57 = .ok (.goto 7, 3) := by decide +kernel
theorem dX10_does_60 : decode cX10_does 60 = .ok (.iload 4, 2) := by decide +kernel
theorem dX10_does_62 : decode cX10_does 62 = .ok (.iconst 0, 1) := by decide +kernel
theorem dX10_does_63 : decode cX10_does 63 = .ok (.iadd, 1) := by decide +kernel
theorem dX10_does_64 : decode cX10_does 64 = .ok (.istore 5, 2) := by decide +kernel
theorem dX10_does_66 : decode cX10_does 66 = .ok (.aload_n 0, 1) := by decide +kernel
theorem dX10_does_67 : decode cX10_does 67 = .ok (.getfield 19, 3) := by decide +kernel
theorem dX10_does_70 : decode cX10_does 70 = .ok (.iload 5, 2) := by decide +kernel
theorem dX10_does_72 : decode cX10_does 72 = .ok (.iaload, 1) := by decide +kernel
theorem dX10_does_73 : decode cX10_does 73 = .ok (.istore 6, 2) := by decide +kernel
theorem dX10_does_75 : decode cX10_does 75 = .ok (.aload_n 0, 1) := by decide +kernel
theorem dX10_does_76 : decode cX10_does 76 = .ok (.getfield 19, 3) := by decide +kernel
theorem dX10_does_79 : decode cX10_does 79 = .ok (.iload 5, 2) := by decide +kernel
theorem dX10_does_81 : decode cX10_does 81 = .ok (.iload_n 1, 1) := by decide +kernel
theorem dX10_does_82 : decode cX10_does 82 = .ok (.iconst 2, 1) := by decide +kernel
theorem dX10_does_83 : decode cX10_does 83 = .ok (.if_icmp .ne 7, 3) := by decide +kernel
theorem dX10_does_86 : decode cX10_does 86 = .ok (.iload_n 3, 1) := by decide +kernel
theorem dX10_does_87 : decode cX10_does 87 = .ok (.goto 57, 3) := by decide +kernel
theorem dX10_does_90 : decode cX10_does 90 = .ok (.iload_n 1, 1) := by decide +kernel
theorem dX10_does_91 : decode cX10_does 91 = .ok (.iconst 3, 1) := by decide +kernel
theorem dX10_does_92 : decode cX10_does 92 = .ok (.if_icmp .eq 14, 3) := by decide +kernel
theorem dX10_does_95 : decode cX10_does 95 = .ok (.iload_n 1, 1) := by decide +kernel
theorem dX10_does_96 : decode cX10_does 96 = .ok (.iconst 5, 1) := by decide +kernel
theorem dX10_does_97 : decode cX10_does 97 = .ok (.if_icmp .eq 9, 3) := by decide +kernel
theorem dX10_does_100 : decode cX10_does 100 = .ok (.iload_n 1, 1) := by decide +kernel
theorem dX10_does_101 : decode cX10_does 101 = .ok (.bipush 6, 2) := by decide +kernel
theorem dX10_does_103 : decode cX10_does 103 = .ok (.if_icmp .ne 7, 3) := by decide +kernel
theorem dX10_does_106 : decode cX10_does 106 = .ok (.iconst 1, 1) := by decide +kernel
theorem dX10_does_107 : decode cX10_does 107 = .ok (.goto 37, 3) := by decide +kernel
theorem dX10_does_110 : decode cX10_does 110 = .ok (.iload_n 1, 1) := by decide +kernel
theorem dX10_does_111 : decode cX10_does 111 = .ok (.iconst 4, 1) := by decide +kernel
theorem dX10_does_112 : decode cX10_does 112 = .ok (.if_icmp .eq 9, 3) := by decide +kernel
theorem dX10_does_115 : decode cX10_does 115 = .ok (.iload_n 1, 1) := by decide +kernel
theorem dX10_does_116 : decode cX10_does 116 = .ok (.bipush 7, 2) := by decide +kernel
theorem dX10_does_118 : decode cX10_does 118 = .ok (.if_icmp .ne 7, 3) := by decide +kernel
theorem dX10_does_121 : decode cX10_does 121 = .ok (.iconst 0, 1) := by decide +kernel
theorem dX10_does_122 : decode cX10_does 122 = .ok (.goto 22, 3) := by decide +kernel
theorem dX10_does_125 : decode cX10_does 125 = .ok (.aload_n 0, 1) := by decide +kernel
theorem dX10_does_126 : decode cX10_does 126 = .ok (.iload_n 1, 1) := by decide +kernel
theorem dX10_does_127 : decode cX10_does 127 = .ok (.ifCond .ne 10, 3) := by decide +kernel
theorem dX10_does_130 : decode cX10_does 130 = .ok (.iload 6, 2) := by decide +kernel
theorem dX10_does_132 : decode cX10_does 132 = .ok (.iload_n 3, 1) := by decide +kernel
theorem dX10_does_133 : decode cX10_does 133 = .ok (.isub, 1) := by decide +kernel
theorem dX10_does_134 : decode cX10_does 134 = .ok (.goto 7, 3) := by decide +kernel
theorem dX10_does_137 : decode cX10_does 137 = .ok (.iload 6, 2) := by decide +kernel
theorem dX10_does_139 : decode cX10_does 139 = .ok (.iload_n 3, 1) := by decide +kernel
theorem dX10_does_140 : decode cX10_does 140 = .ok (.iadd, 1) := by decide +kernel
theorem dX10_does_141 : decode cX10_does 141 = .ok (.invokevirtual 216, 3) := by decide +kernel
theorem dX10_does_144 : decode cX10_does 144 = .ok (.iastore, 1) := by decide +kernel
theorem dX10_does_145 : decode cX10_does 145 = .ok (.iconst 3, 1) := by decide +kernel
theorem dX10_does_146 : decode cX10_does 146 = .ok (.aload_n 0, 1) := by decide +kernel
theorem dX10_does_147 : decode cX10_does 147 = .ok (.getfield 19, 3) := by decide +kernel
theorem dX10_does_150 : decode cX10_does 150 = .ok (.iconst 5, 1) := by decide +kernel
theorem dX10_does_151 : decode cX10_does 151 = .ok (.iaload, 1) := by decide +kernel
theorem dX10_does_152 : decode cX10_does 152 = .ok (.imul, 1) := by decide +kernel
theorem dX10_does_153 : decode cX10_does 153 = .ok (.istore 7, 2) := by decide +kernel
theorem dX10_does_155 : decode cX10_does 155 = .ok (.aload_n 0, 1) := by decide +kernel
theorem dX10_does_156 : decode cX10_does 156 = .ok (.getfield 25, 3) := by decide +kernel
theorem dX10_does_159 : decode cX10_does 159 = .ok (.iload 7, 2) := by decide +kernel
theorem dX10_does_161 : decode cX10_does 161 = .ok (.iload 5, 2) := by decide +kernel
theorem dX10_does_163 : decode cX10_does 163 = .ok (.iastore, 1) := by decide +kernel
theorem dX10_does_164 : decode cX10_does 164 = .ok (.aload_n 0, 1) := by decide +kernel
theorem dX10_does_165 : decode cX10_does 165 = .ok (.getfield 25, 3) := by decide +kernel
theorem dX10_does_168 : decode cX10_does 168 = .ok (.iload 7, 2) := by decide +kernel
theorem dX10_does_170 : decode cX10_does 170 = .ok (.iconst 1, 1) := by decide +kernel
theorem dX10_does_171 : decode cX10_does 171 = .ok (.iadd, 1) := by decide +kernel
theorem dX10_does_172 : decode cX10_does 172 = .ok (.iload_n 1, 1) := by decide +kernel
theorem dX10_does_173 : decode cX10_does 173 = .ok (.iconst 2, 1) := by decide +kernel
theorem dX10_does_174 : decode cX10_does 174 = .ok (.if_icmp .ge 7, 3) := by decide +kernel
theorem dX10_does_177 : decode cX10_does 177 = .ok (.iconst 1, 1) := by decide +kernel
theorem dX10_does_178 : decode cX10_does 178 = .ok (.goto 4, 3) := by decide +kernel
theorem dX10_does_181 : decode cX10_does 181 = .ok (.iconst 0, 1) := by decide +kernel
theorem dX10_does_182 : decode cX10_does 182 = .ok (.iastore, 1) := by decide +kernel
theorem dX10_does_183 : decode cX10_does 183 = .ok (.aload_n 0, 1) := by decide +kernel
theorem dX10_does_184 : decode cX10_does 184 = .ok (.getfield 25, 3) := by decide +kernel
theorem dX10_does_187 : decode cX10_does 187 = .ok (.iload 7, 2) := by decide +kernel
theorem dX10_does_189 : decode cX10_does 189 = .ok (.iconst 2, 1) := by decide +kernel
theorem dX10_does_190 : decode cX10_does 190 = .ok (.iadd, 1) := by decide +kernel
theorem dX10_does_191 : decode cX10_does 191 = .ok (.iload_n 1, 1) := by decide +kernel
theorem dX10_does_192 : decode cX10_does 192 = .ok (.iconst 2, 1) := by decide +kernel
theorem dX10_does_193 : decode cX10_does 193 = .ok (.if_icmp .ge 16, 3) := by decide +kernel
theorem dX10_does_196 : decode cX10_does 196 = .ok (.iload 6, 2) := by decide +kernel
theorem dX10_does_198 : decode cX10_does 198 = .ok (.aload_n 0, 1) := by decide +kernel
theorem dX10_does_199 : decode cX10_does 199 = .ok (.getfield 19, 3) := by decide +kernel
theorem dX10_does_202 : decode cX10_does 202 = .ok (.iload 5, 2) := by decide +kernel
theorem dX10_does_204 : decode cX10_does 204 = .ok (.iaload, 1) := by decide +kernel
theorem dX10_does_205 : decode cX10_does 205 = .ok (.isub, 1) := by decide +kernel
theorem dX10_does_206 : decode cX10_does 206 = .ok (.goto 5, 3) := by decide +kernel
theorem dX10_does_209 : decode cX10_does 209 = .ok (.iload 6, 2) := by decide +kernel
theorem dX10_does_211 : decode cX10_does 211 = .ok (.iastore, 1) := by decide +kernel
theorem dX10_does_212 : decode cX10_does 212 = .ok (.aload_n 0, 1) := by decide +kernel
theorem dX10_does_213 : decode cX10_does 213 = .ok (.getfield 19, 3) := by decide +kernel
theorem dX10_does_216 : decode cX10_does 216 = .ok (.iconst 5, 1) := by decide +kernel
theorem dX10_does_217 : decode cX10_does 217 = .ok (.dup2, 1) := by decide +kernel
theorem dX10_does_218 : decode cX10_does 218 = .ok (.iaload, 1) := by decide +kernel
theorem dX10_does_219 : decode cX10_does 219 = .ok (.iconst 1, 1) := by decide +kernel
theorem dX10_does_220 : decode cX10_does 220 = .ok (.iadd, 1) := by decide +kernel
theorem dX10_does_221 : decode cX10_does 221 = .ok (.iastore, 1) := by decide +kernel
theorem dX10_does_222 : decode cX10_does 222 = .ok (.return_, 1) := by decide +kernel
set_option maxRecDepth 100000 in
theorem rX10_does_0 {p : Program} {l : Launch} {e : Env} {s : State} {m : MethodId} {args : Array Value} {below : List Frame} {meth : Method} {c : Code} {D : va_G} {cA : Nat → ClassId} {ad : Nat → Nat} {Ret : zR} (C : z_Cx p { frames := 1, cells := 0, slots := 0, locals := 21 } s m args c cX10_does yX10_does.cls 8 D cA ad) (hr : meth.sig.returnType = none) (hlocks : meth.locks = false) : ∀ L st σ, tX10_does_0 (z_X p l e { frames := 1, cells := 0, slots := 0, locals := 21 } s m args below meth c (MQ below (z_Qc D cA ad Ret) args s 0 0 (z_A ad)) 8 D cA ad true) Ret L st σ → z_X p l e { frames := 1, cells := 0, slots := 0, locals := 21 } s m args below meth c (MQ below (z_Qc D cA ad Ret) args s 0 0 (z_A ad)) 8 D cA ad true 0 L st σ := (s_bipush C dX10_does_0 rfl ⟨by decide, by decide⟩ (s_bipush C dX10_does_2 rfl ⟨by decide, by decide⟩ (s_iload_n C dX10_does_4 rfl (s_imul C dX10_does_5 (s_iadd C dX10_does_6 (s_istore C dX10_does_7 (by decide) rfl (s_iload_n C dX10_does_9 rfl (s_iconst C dX10_does_10 rfl ⟨by decide, by decide⟩ (s_icne C dX10_does_11 (by decide) (s_iload_n C dX10_does_21 rfl (s_iconst C dX10_does_22 rfl ⟨by decide, by decide⟩ (s_iceq C dX10_does_23 (by decide) (s_iload C dX10_does_31 (s_iconst C dX10_does_33 rfl ⟨by decide, by decide⟩ (s_iadd C dX10_does_34 (s_goto C dX10_does_35 (by decide) (fun _ _ _ h => h))))) (s_iload_n C dX10_does_26 rfl (s_iconst C dX10_does_27 rfl ⟨by decide, by decide⟩ (s_icne C dX10_does_28 (by decide) (s_iload_n C dX10_does_38 rfl (s_iconst C dX10_does_39 rfl ⟨by decide, by decide⟩ (s_icne C dX10_does_40 (by decide) (s_iload_n C dX10_does_50 rfl (s_bipush C dX10_does_51 rfl ⟨by decide, by decide⟩ (s_iclt C dX10_does_53 (by decide) (s_iload C dX10_does_60 (s_iconst C dX10_does_62 rfl ⟨by decide, by decide⟩ (s_iadd C dX10_does_63 (fun _ _ _ h => h)))) (s_iconst C dX10_does_56 rfl ⟨by decide, by decide⟩ (s_goto C dX10_does_57 (by decide) (fun _ _ _ h => h)))))) (s_iload C dX10_does_43 (s_iconst C dX10_does_45 rfl ⟨by decide, by decide⟩ (s_iadd C dX10_does_46 (s_goto C dX10_does_47 (by decide) (fun _ _ _ h => h)))))))) (s_iload C dX10_does_31 (s_iconst C dX10_does_33 rfl ⟨by decide, by decide⟩ (s_iadd C dX10_does_34 (s_goto C dX10_does_35 (by decide) (fun _ _ _ h => h))))))))))) (s_iload C dX10_does_14 (s_iconst C dX10_does_16 rfl ⟨by decide, by decide⟩ (s_iadd C dX10_does_17 (s_goto C dX10_does_18 (by decide) (fun _ _ _ h => h))))))))))))))
set_option maxRecDepth 100000 in
theorem rX10_does_64 {p : Program} {l : Launch} {e : Env} {s : State} {m : MethodId} {args : Array Value} {below : List Frame} {meth : Method} {c : Code} {D : va_G} {cA : Nat → ClassId} {ad : Nat → Nat} {Ret : zR} (C : z_Cx p { frames := 1, cells := 0, slots := 0, locals := 21 } s m args c cX10_does yX10_does.cls 8 D cA ad) (hr : meth.sig.returnType = none) (hlocks : meth.locks = false) : ∀ L st σ, tX10_does_64 (z_X p l e { frames := 1, cells := 0, slots := 0, locals := 21 } s m args below meth c (MQ below (z_Qc D cA ad Ret) args s 0 0 (z_A ad)) 8 D cA ad true) Ret L st σ → z_X p l e { frames := 1, cells := 0, slots := 0, locals := 21 } s m args below meth c (MQ below (z_Qc D cA ad Ret) args s 0 0 (z_A ad)) 8 D cA ad true 64 L st σ := (s_istore C dX10_does_64 (by decide) rfl (s_aload_n C dX10_does_66 rfl (s_getr C dX10_does_67 (j := 5) cls_X10 (by decide) rfl (by decide) (by decide) (by decide +kernel) wd_973 (s_iload C dX10_does_70 (s_iald C dX10_does_72 (s_istore C dX10_does_73 (by decide) rfl (s_aload_n C dX10_does_75 rfl (s_getr C dX10_does_76 (j := 5) cls_X10 (by decide) rfl (by decide) (by decide) (by decide +kernel) wd_973 (s_iload C dX10_does_79 (s_iload_n C dX10_does_81 rfl (s_iconst C dX10_does_82 rfl ⟨by decide, by decide⟩ (s_icne C dX10_does_83 (by decide) (s_iload_n C dX10_does_90 rfl (s_iconst C dX10_does_91 rfl ⟨by decide, by decide⟩ (s_iceq C dX10_does_92 (by decide) (s_iconst C dX10_does_106 rfl ⟨by decide, by decide⟩ (s_goto C dX10_does_107 (by decide) (fun _ _ _ h => h))) (s_iload_n C dX10_does_95 rfl (s_iconst C dX10_does_96 rfl ⟨by decide, by decide⟩ (s_iceq C dX10_does_97 (by decide) (s_iconst C dX10_does_106 rfl ⟨by decide, by decide⟩ (s_goto C dX10_does_107 (by decide) (fun _ _ _ h => h))) (s_iload_n C dX10_does_100 rfl (s_bipush C dX10_does_101 rfl ⟨by decide, by decide⟩ (s_icne C dX10_does_103 (by decide) (s_iload_n C dX10_does_110 rfl (s_iconst C dX10_does_111 rfl ⟨by decide, by decide⟩ (s_iceq C dX10_does_112 (by decide) (s_iconst C dX10_does_121 rfl ⟨by decide, by decide⟩ (s_goto C dX10_does_122 (by decide) (fun _ _ _ h => h))) (s_iload_n C dX10_does_115 rfl (s_bipush C dX10_does_116 rfl ⟨by decide, by decide⟩ (s_icne C dX10_does_118 (by decide) (s_aload_n C dX10_does_125 rfl (s_iload_n C dX10_does_126 rfl (s_ifne C dX10_does_127 (by decide) (s_iload C dX10_does_137 (s_iload_n C dX10_does_139 rfl (s_iadd C dX10_does_140 (s_cv1 C dX10_does_141 (okX10_lengthOf l) cls_X10 wd_1211 wd_1213 wd_53 wd_85 wd_1214 ⟨by decide, by decide, by decide +kernel⟩ ⟨by decide, by decide⟩ (fun _ _ _ h => h))))) (s_iload C dX10_does_130 (s_iload_n C dX10_does_132 rfl (s_isub C dX10_does_133 (s_goto C dX10_does_134 (by decide) (s_cv1 C dX10_does_141 (okX10_lengthOf l) cls_X10 wd_1211 wd_1213 wd_53 wd_85 wd_1214 ⟨by decide, by decide, by decide +kernel⟩ ⟨by decide, by decide⟩ (fun _ _ _ h => h))))))))) (s_iconst C dX10_does_121 rfl ⟨by decide, by decide⟩ (s_goto C dX10_does_122 (by decide) (fun _ _ _ h => h))))))))) (s_iconst C dX10_does_106 rfl ⟨by decide, by decide⟩ (s_goto C dX10_does_107 (by decide) (fun _ _ _ h => h)))))))))))) (s_iload_n C dX10_does_86 rfl (s_goto C dX10_does_87 (by decide) (fun _ _ _ h => h)))))))))))))))
set_option maxRecDepth 100000 in
theorem rX10_does_144 {p : Program} {l : Launch} {e : Env} {s : State} {m : MethodId} {args : Array Value} {below : List Frame} {meth : Method} {c : Code} {D : va_G} {cA : Nat → ClassId} {ad : Nat → Nat} {Ret : zR} (C : z_Cx p { frames := 1, cells := 0, slots := 0, locals := 21 } s m args c cX10_does yX10_does.cls 8 D cA ad) (hr : meth.sig.returnType = none) (hlocks : meth.locks = false) : ∀ L st σ, tX10_does_144 (z_X p l e { frames := 1, cells := 0, slots := 0, locals := 21 } s m args below meth c (MQ below (z_Qc D cA ad Ret) args s 0 0 (z_A ad)) 8 D cA ad true) Ret L st σ → z_X p l e { frames := 1, cells := 0, slots := 0, locals := 21 } s m args below meth c (MQ below (z_Qc D cA ad Ret) args s 0 0 (z_A ad)) 8 D cA ad true 144 L st σ := (s_iast C dX10_does_144 (s_iconst C dX10_does_145 rfl ⟨by decide, by decide⟩ (s_aload_n C dX10_does_146 rfl (s_getr C dX10_does_147 (j := 5) cls_X10 (by decide) rfl (by decide) (by decide) (by decide +kernel) wd_973 (s_iconst C dX10_does_150 rfl ⟨by decide, by decide⟩ (s_iald C dX10_does_151 (s_imul C dX10_does_152 (s_istore C dX10_does_153 (by decide) rfl (s_aload_n C dX10_does_155 rfl (s_getr C dX10_does_156 (j := 8) cls_X10 (by decide) rfl (by decide) (by decide) (by decide +kernel) wd_976 (s_iload C dX10_does_159 (s_iload C dX10_does_161 (s_iast C dX10_does_163 (s_aload_n C dX10_does_164 rfl (s_getr C dX10_does_165 (j := 8) cls_X10 (by decide) rfl (by decide) (by decide) (by decide +kernel) wd_976 (s_iload C dX10_does_168 (s_iconst C dX10_does_170 rfl ⟨by decide, by decide⟩ (s_iadd C dX10_does_171 (s_iload_n C dX10_does_172 rfl (s_iconst C dX10_does_173 rfl ⟨by decide, by decide⟩ (s_icge C dX10_does_174 (by decide) (s_iconst C dX10_does_181 rfl ⟨by decide, by decide⟩ (fun _ _ _ h => h)) (s_iconst C dX10_does_177 rfl ⟨by decide, by decide⟩ (s_goto C dX10_does_178 (by decide) (fun _ _ _ h => h))))))))))))))))))))))))
set_option maxRecDepth 100000 in
theorem rX10_does_182 {p : Program} {l : Launch} {e : Env} {s : State} {m : MethodId} {args : Array Value} {below : List Frame} {meth : Method} {c : Code} {D : va_G} {cA : Nat → ClassId} {ad : Nat → Nat} {Ret : zR} (C : z_Cx p { frames := 1, cells := 0, slots := 0, locals := 21 } s m args c cX10_does yX10_does.cls 8 D cA ad) (hr : meth.sig.returnType = none) (hlocks : meth.locks = false) : ∀ L st σ, tX10_does_182 (z_X p l e { frames := 1, cells := 0, slots := 0, locals := 21 } s m args below meth c (MQ below (z_Qc D cA ad Ret) args s 0 0 (z_A ad)) 8 D cA ad true) Ret L st σ → z_X p l e { frames := 1, cells := 0, slots := 0, locals := 21 } s m args below meth c (MQ below (z_Qc D cA ad Ret) args s 0 0 (z_A ad)) 8 D cA ad true 182 L st σ := (s_iast C dX10_does_182 (s_aload_n C dX10_does_183 rfl (s_getr C dX10_does_184 (j := 8) cls_X10 (by decide) rfl (by decide) (by decide) (by decide +kernel) wd_976 (s_iload C dX10_does_187 (s_iconst C dX10_does_189 rfl ⟨by decide, by decide⟩ (s_iadd C dX10_does_190 (s_iload_n C dX10_does_191 rfl (s_iconst C dX10_does_192 rfl ⟨by decide, by decide⟩ (s_icge C dX10_does_193 (by decide) (s_iload C dX10_does_209 (fun _ _ _ h => h)) (s_iload C dX10_does_196 (s_aload_n C dX10_does_198 rfl (s_getr C dX10_does_199 (j := 5) cls_X10 (by decide) rfl (by decide) (by decide) (by decide +kernel) wd_973 (s_iload C dX10_does_202 (s_iald C dX10_does_204 (s_isub C dX10_does_205 (s_goto C dX10_does_206 (by decide) (fun _ _ _ h => h)))))))))))))))))
set_option maxRecDepth 100000 in
theorem rX10_does_211 {p : Program} {l : Launch} {e : Env} {s : State} {m : MethodId} {args : Array Value} {below : List Frame} {meth : Method} {c : Code} {D : va_G} {cA : Nat → ClassId} {ad : Nat → Nat} {Ret : zR} (C : z_Cx p { frames := 1, cells := 0, slots := 0, locals := 21 } s m args c cX10_does yX10_does.cls 8 D cA ad) (hr : meth.sig.returnType = none) (hlocks : meth.locks = false) : ∀ L st σ, tX10_does_211 (z_X p l e { frames := 1, cells := 0, slots := 0, locals := 21 } s m args below meth c (MQ below (z_Qc D cA ad Ret) args s 0 0 (z_A ad)) 8 D cA ad true) Ret L st σ → z_X p l e { frames := 1, cells := 0, slots := 0, locals := 21 } s m args below meth c (MQ below (z_Qc D cA ad Ret) args s 0 0 (z_A ad)) 8 D cA ad true 211 L st σ := (s_iast C dX10_does_211 (s_aload_n C dX10_does_212 rfl (s_getr C dX10_does_213 (j := 5) cls_X10 (by decide) rfl (by decide) (by decide) (by decide +kernel) wd_973 (s_iconst C dX10_does_216 rfl ⟨by decide, by decide⟩ (s_dup2 C dX10_does_217 (s_iald C dX10_does_218 (s_iconst C dX10_does_219 rfl ⟨by decide, by decide⟩ (s_iadd C dX10_does_220 (s_iast C dX10_does_221 (s_vret C dX10_does_222 hr hlocks))))))))))
theorem okX10_does (l : Launch) : z_OK l yX10_does cX10_does 8 none 1 21 SX10_does := by
  refine z_ok_of true (by decide +kernel) ?_ ?_
  · intro as σ Ret h
    obtain ⟨k0, x1, x2, x3, rfl⟩ := pX10_does h
    exact ⟨Nat.le_of_ble_eq_true rfl, by simp⟩
  · intro p e s m args below meth c D cA ad Ret C hr hlocks as σ has hσ h
    obtain ⟨k0, x1, x2, x3, rfl⟩ := pX10_does h
    exact vX10_does (rX10_does_0 C hr hlocks) (rX10_does_64 C hr hlocks) (rX10_does_144 C hr hlocks) (rX10_does_182 C hr hlocks) (rX10_does_211 C hr hlocks) k0 x1 x2 x3 σ (has _ (List.mem_of_getElem? (i := 0) rfl)) (has _ (List.mem_of_getElem? (i := 1) rfl)) (has _ (List.mem_of_getElem? (i := 2) rfl)) (has _ (List.mem_of_getElem? (i := 3) rfl)) hσ h
