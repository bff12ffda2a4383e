/-! slips and birds -/
def q_c (a b : Nat → Int) (t : Int) (i j : Nat) : Int := if a i - b j ≤ t ∧ b j - a i ≤ t then 0 else 1
theorem q_c_in (a b : Nat → Int) (t : Int) (i j : Nat) : 0 ≤ q_c a b t i j ∧ q_c a b t i j ≤ 1 := by
  unfold q_c
  split <;> omega
def SX3_slipsFrom : zS := fun as σ Ret => match as with
  | [.inr (.inr (3, 0, e)), .inr (.inr (100, n2, k2)), .inl size, .inl t] => ((0 ≤ size ∧ size ≤ n2 ∧ size ≤ 12) ∧ (k2 ≠ e ∧ k2 ≠ e + 3) ∧ 0 ≤ σ e 3 ∧ σ e 3 ≤ 12) ∧ ∀ σ' : zM, (∀ c j, c ≠ e + 3 → σ' c j = σ c j) → Ret (some (.inl (q_dp (q_c (σ (e + 1)) (σ k2) t) (σ e 3).toNat size.toNat))) σ'
  | _ => False
def tX3_slipsFrom_0 (X : Nat → zB) (Ret : zR) (L : zL) (st : List zV) (σ : zM) : Prop := (z_iload 2 (z_iflt (z_push 0 (z_iret Ret)) (z_iload 2 (z_aload 1 (z_alen (z_icgt (z_push 0 (z_iret Ret)) (z_iload 2 (z_aload 0 (z_getr 3 3 100 13 (z_alen (z_iclt (z_push 0 (z_istore 4 (X 24))) (z_push 0 (z_iret Ret))))))))))))) L st σ
def tX3_slipsFrom_24 (X : Nat → zB) (Ret : zR) (L : zL) (st : List zV) (σ : zM) : Prop := (z_iload 4 (z_iload 2 (z_icgt (z_push 0 (z_istore 4 (X 48))) (z_aload 0 (z_getr 3 3 100 13 (z_iload 4 (z_iload 4 (z_iast (z_iinc 4 1 (z_goto (X 24))))))))))) L st σ
def tX3_slipsFrom_48 (X : Nat → zB) (Ret : zR) (L : zL) (st : List zV) (σ : zM) : Prop := (z_iload 4 (z_aload 0 (z_geti 3 3 (z_icge (z_aload 0 (z_getr 3 3 100 13 (z_iload 2 (z_ald 0 (z_iret Ret))))) (z_aload 0 (z_getr 3 3 100 13 (z_push 0 (z_ald 0 (z_istore 5 (z_aload 0 (z_getr 3 3 100 13 (z_push 0 (z_iload 4 (z_push 1 (z_iadd (z_iast (z_push 0 (z_istore 6 (X 78))))))))))))))))))) L st σ
def tX3_slipsFrom_78 (X : Nat → zB) (Ret : zR) (L : zL) (st : List zV) (σ : zM) : Prop := (z_iload 6 (z_iload 2 (z_icge (z_iinc 4 1 (z_goto (X 48))) (z_iload 5 (z_aload 0 (z_getr 3 1 100 12 (z_iload 4 (z_ald 0 (z_aload 1 (z_iload 6 (z_ald 0 (z_iload 3 (z_cs3 SX3_areSame (z_ifeq (z_push 1 (z_iadd (z_istore 7 (z_aload 0 (z_getr 3 3 100 13 (z_iload 6 (z_ald 0 (z_aload 0 (z_getr 3 3 100 13 (z_iload 6 (z_push 1 (z_iadd (z_ald 0 (z_mmin (z_push 1 (z_iadd (z_istore 8 (z_aload 0 (z_getr 3 3 100 13 (z_iload 6 (z_push 1 (z_iadd (z_ald 0 (z_istore 5 (z_aload 0 (z_getr 3 3 100 13 (z_iload 6 (z_push 1 (z_iadd (z_iload 7 (z_iload 8 (z_mmin (z_iast (z_iinc 6 1 (z_goto (X 78)))))))))))))))))))))))))))))))))))) (z_push 0 (z_goto (z_iadd (z_istore 7 (z_aload 0 (z_getr 3 3 100 13 (z_iload 6 (z_ald 0 (z_aload 0 (z_getr 3 3 100 13 (z_iload 6 (z_push 1 (z_iadd (z_ald 0 (z_mmin (z_push 1 (z_iadd (z_istore 8 (z_aload 0 (z_getr 3 3 100 13 (z_iload 6 (z_push 1 (z_iadd (z_ald 0 (z_istore 5 (z_aload 0 (z_getr 3 3 100 13 (z_iload 6 (z_push 1 (z_iadd (z_iload 7 (z_iload 8 (z_mmin (z_iast (z_iinc 6 1 (z_goto (X 78))))))))))))))))))))))))))))))))))))))))))))))))))) L st σ
theorem pX3_slipsFrom {as : List zV} {σ : zM} {Ret : zR} (h : SX3_slipsFrom as σ Ret) : ∃ (k0 : Nat) (n1 k1 : Nat) (x2 : Int) (x3 : Int), as = [.inr (.inr (3, 0, k0)), .inr (.inr (100, n1, k1)), .inl x2, .inl x3] := by
  unfold SX3_slipsFrom at h
  split at h
  · exact ⟨_, _, _, _, _, rfl⟩
  · exact h.elim
set_option maxRecDepth 10000 in
set_option maxHeartbeats 4000000 in
theorem vX3_slipsFrom {X : Nat → zB} {Ret : zR} (h0 : ∀ L st σ, tX3_slipsFrom_0 X Ret L st σ → X 0 L st σ) (h24 : ∀ L st σ, tX3_slipsFrom_24 X Ret L st σ → X 24 L st σ) (h48 : ∀ L st σ, tX3_slipsFrom_48 X Ret L st σ → X 48 L st σ) (h78 : ∀ L st σ, tX3_slipsFrom_78 X Ret L st σ → X 78 L st σ) (k0 : Nat) (n1 k1 : Nat) (x2 : Int) (x3 : Int) (σ : zM) (hk0 : z_kd k0 = (3, 0)) (hk1 : z_kd k1 = (100, n1)) (hx2 : -2147483648 ≤ x2 ∧ x2 ≤ 2147483647) (hx3 : -2147483648 ≤ x3 ∧ x3 ≤ 2147483647) (hσ : z_okm σ) (h : SX3_slipsFrom [.inr (.inr (3, 0, k0)), .inr (.inr (100, n1, k1)), .inl x2, .inl x3] σ Ret) : X 0 [some (.inr (.inr (3, 0, k0))), some (.inr (.inr (100, n1, k1))), some (.inl x2), some (.inl x3), none, none, none, none, none] [] σ := by
  obtain ⟨⟨⟨s0, s1, s2⟩, ⟨d0, d3⟩, c0, c1⟩, h⟩ := h
  obtain ⟨m, rfl⟩ := z_nat s0
  obtain ⟨cnt, hcnt⟩ := z_nat c0
  have kn : k1 ≠ k0 + 1 ∨ True := Or.inr trivial
  rw [hcnt] at h
  simp only [Int.toNat_natCast] at h
  generalize hcc : q_c (σ (k0 + 1)) (σ k1) x3 = cc at h
  have hc : ∀ i j, 0 ≤ cc i j ∧ cc i j ≤ 1 := fun i j => by rw [← hcc]; exact q_c_in _ _ _ _ _
  have hb := q_dp_in hc
  have L48 : ∀ (d i : Nat) (τ : zM) (u5 u6 u7 u8 : Option zV), i + d = cnt → (∀ c j, c ≠ k0 + 3 → τ c j = σ c j) → (∀ a, a ≤ m → τ (k0 + 3) a = q_dp cc i a) → X 48 [some (.inr (.inr (3, 0, k0))), some (.inr (.inr (100, n1, k1))), some (.inl (m : Int)), some (.inl x3), some (.inl (i : Int)), u5, u6, u7, u8] [] τ := by
    intro d
    induction d with
    | zero =>
      intro i τ u5 u6 u7 u8 hi f1 f2
      refine h48 _ _ _ ?_
      simp only [z_push, z_lpush, z_iload, z_lload, z_aload, z_istore, z_istoreP, z_lstore, z_astore, z_iinc, z_iincP, z_iadd, z_isub, z_imul, z_iaddW, z_isubW, z_imulW, z_idiv, z_irem, z_iand, z_ior, z_ixor, z_ishl, z_ishr, z_iushr, z_ineg, z_i2l, z_i2b, z_i2s, z_i2c, z_l2i, z_ladd, z_lsub, z_land, z_lor, z_lshl, z_lshr, z_lcmp, z_dup, z_pop, z_dup2, z_goto, z_tsw, z_cases, z_geti, z_getr, z_puti, z_putz, z_ald, z_iast, z_bast, z_zast, z_alen, z_acopy, z_mmax, z_mmin, z_mabs, z_mabsL, z_iret, z_zret, z_nret, z_lret, z_aret, z_vret, z_cat, z_ldcs, z_strv, z_strc, z_gcs, z_gfm, z_sln, z_sald, z_ifeq, z_ifne, z_iflt, z_ifge, z_ifgt, z_ifle, z_iceq, z_icne, z_iclt, z_icge, z_icgt, z_icle, z_cs0, z_cs1, z_cs2, z_cs3, z_cs4, z_cs5, z_cs6, z_cs7, z_cv0, z_cv1, z_cv2, z_cv3, z_cv4, z_cv5, z_cv6, z_cv7, z_g0, z_s0, z_g1, z_s1, z_g2, z_s2, z_g3, z_s3, z_g4, z_s4, z_g5, z_s5, z_g6, z_s6, z_g7, z_s7, z_g8, z_s8, z_g9, z_s9, z_g10, z_s10, z_g11, z_s11, z_g12, z_s12, z_g13, z_s13, z_b0, z_b1, z_b0n, z_b1n, z_up_far1, z_up_far2, z_up_far3, z_up_far4, z_up_far5, z_up_far6, Classical.not_not, not_true_eq_false, z_in, z_inL, Int.cast_ofNat_Int, Nat.reduceLeDiff, List.length_cons, List.length_nil, Nat.reduceAdd, Nat.zero_add, Nat.le_refl, true_and, and_true, List.length, Nat.reduceLT, true_or, or_true, false_or, or_false, false_and, and_false, not_true_eq_false, not_false_eq_true, forall_const, false_implies, true_implies, Int.reduceEq, Int.reduceLT, Int.reduceLE, Int.reduceAdd, Int.reduceSub, Int.reduceMul, Int.reduceNeg, Int.reduceToNat, Int.toNat_natCast, ↓reduceIte, reduceIte, Nat.reduceEqDiff, Nat.reduceSub, Nat.reduceMul, ne_eq, Int.zero_add, Int.add_zero, Int.sub_zero, Nat.add_zero, Int.ofNat_eq_natCast, tX3_slipsFrom_48, f1 k0 3 (by omega), hcnt, f2 m (by omega)]
      have e : i = cnt := by omega
      subst e
      repeat' (first | (intro _) | (with_reducible assumption) | (refine And.intro ?_ ?_))
      all_goals first | omega | assumption | (refine z_fin h ?_ rfl; first | rfl | omega | (split <;> omega) | (split <;> split <;> omega)) | skip
      exact h τ f1
    | succ d ih =>
      intro i τ u5 u6 u7 u8 hi f1 f2
      have L78 : ∀ (d2 j : Nat) (τ : zM) (u7 u8 : Option zV), j + d2 = m → (∀ c j, c ≠ k0 + 3 → τ c j = σ c j) → (∀ a, a ≤ j → τ (k0 + 3) a = q_dp cc (i + 1) a) → (∀ a, j < a → a ≤ m → τ (k0 + 3) a = q_dp cc i a) → X 78 [some (.inr (.inr (3, 0, k0))), some (.inr (.inr (100, n1, k1))), some (.inl (m : Int)), some (.inl x3), some (.inl (i : Int)), some (.inl (q_dp cc i j)), some (.inl (j : Int)), u7, u8] [] τ := by
        intro d2
        induction d2 with
        | zero =>
          intro j τ u7 u8 hj f1 f2 f3
          refine h78 _ _ _ ?_
          simp only [z_push, z_lpush, z_iload, z_lload, z_aload, z_istore, z_istoreP, z_lstore, z_astore, z_iinc, z_iincP, z_iadd, z_isub, z_imul, z_iaddW, z_isubW, z_imulW, z_idiv, z_irem, z_iand, z_ior, z_ixor, z_ishl, z_ishr, z_iushr, z_ineg, z_i2l, z_i2b, z_i2s, z_i2c, z_l2i, z_ladd, z_lsub, z_land, z_lor, z_lshl, z_lshr, z_lcmp, z_dup, z_pop, z_dup2, z_goto, z_tsw, z_cases, z_geti, z_getr, z_puti, z_putz, z_ald, z_iast, z_bast, z_zast, z_alen, z_acopy, z_mmax, z_mmin, z_mabs, z_mabsL, z_iret, z_zret, z_nret, z_lret, z_aret, z_vret, z_cat, z_ldcs, z_strv, z_strc, z_gcs, z_gfm, z_sln, z_sald, z_ifeq, z_ifne, z_iflt, z_ifge, z_ifgt, z_ifle, z_iceq, z_icne, z_iclt, z_icge, z_icgt, z_icle, z_cs0, z_cs1, z_cs2, z_cs3, z_cs4, z_cs5, z_cs6, z_cs7, z_cv0, z_cv1, z_cv2, z_cv3, z_cv4, z_cv5, z_cv6, z_cv7, z_g0, z_s0, z_g1, z_s1, z_g2, z_s2, z_g3, z_s3, z_g4, z_s4, z_g5, z_s5, z_g6, z_s6, z_g7, z_s7, z_g8, z_s8, z_g9, z_s9, z_g10, z_s10, z_g11, z_s11, z_g12, z_s12, z_g13, z_s13, z_b0, z_b1, z_b0n, z_b1n, z_up_far1, z_up_far2, z_up_far3, z_up_far4, z_up_far5, z_up_far6, Classical.not_not, not_true_eq_false, z_in, z_inL, Int.cast_ofNat_Int, Nat.reduceLeDiff, List.length_cons, List.length_nil, Nat.reduceAdd, Nat.zero_add, Nat.le_refl, true_and, and_true, List.length, Nat.reduceLT, true_or, or_true, false_or, or_false, false_and, and_false, not_true_eq_false, not_false_eq_true, forall_const, false_implies, true_implies, Int.reduceEq, Int.reduceLT, Int.reduceLE, Int.reduceAdd, Int.reduceSub, Int.reduceMul, Int.reduceNeg, Int.reduceToNat, Int.toNat_natCast, ↓reduceIte, reduceIte, Nat.reduceEqDiff, Nat.reduceSub, Nat.reduceMul, ne_eq, Int.zero_add, Int.add_zero, Int.sub_zero, Nat.add_zero, Int.ofNat_eq_natCast, tX3_slipsFrom_78]
          repeat' (first | (intro _) | (with_reducible assumption) | (refine And.intro ?_ ?_))
          all_goals first | omega | assumption | (refine z_fin h ?_ rfl; first | rfl | omega | (split <;> omega) | (split <;> split <;> omega)) | skip
          exact ih (i + 1) τ _ _ _ _ (by omega) f1 (fun a ha => f2 a (by omega))
        | succ d2 ih2 =>
          intro j τ u7 u8 hj f1 f2 f3
          have g1 : τ (k0 + 3) j = q_dp cc (i + 1) j := f2 j (Nat.le_refl _)
          have g2 : τ (k0 + 3) (j + 1) = q_dp cc i (j + 1) := f3 (j + 1) (by omega) (by omega)
          have e1 := fun u7 u8 => ih2 (j + 1) (z_up τ (k0 + 3) (j + 1) (q_dp cc (i + 1) (j + 1))) u7 u8 (by omega) (fun c a hc => by rw [z_up_ne (Or.inl hc)]; exact f1 c a hc)
            (fun a ha => by
              by_cases q : a = j + 1
              · rw [q, z_up_eq]
              · rw [z_up_ne (Or.inr q)]; exact f2 a (by omega))
            (fun a ha hm => by rw [z_up_ne (Or.inr (by omega))]; exact f3 a (by omega) hm)
          have ce : cc i j = if σ (k0 + 1) i - σ k1 j ≤ x3 ∧ σ k1 j - σ (k0 + 1) i ≤ x3 then 0 else 1 := by rw [← hcc]; rfl
          have b1 := hb i j
          have b2 := hb (i + 1) j
          have b3 := hb i (j + 1)
          have t1 : ((j : Int) + 1).toNat = j + 1 := by omega
          refine h78 _ _ _ ?_
          simp only [z_push, z_lpush, z_iload, z_lload, z_aload, z_istore, z_istoreP, z_lstore, z_astore, z_iinc, z_iincP, z_iadd, z_isub, z_imul, z_iaddW, z_isubW, z_imulW, z_idiv, z_irem, z_iand, z_ior, z_ixor, z_ishl, z_ishr, z_iushr, z_ineg, z_i2l, z_i2b, z_i2s, z_i2c, z_l2i, z_ladd, z_lsub, z_land, z_lor, z_lshl, z_lshr, z_lcmp, z_dup, z_pop, z_dup2, z_goto, z_tsw, z_cases, z_geti, z_getr, z_puti, z_putz, z_ald, z_iast, z_bast, z_zast, z_alen, z_acopy, z_mmax, z_mmin, z_mabs, z_mabsL, z_iret, z_zret, z_nret, z_lret, z_aret, z_vret, z_cat, z_ldcs, z_strv, z_strc, z_gcs, z_gfm, z_sln, z_sald, z_ifeq, z_ifne, z_iflt, z_ifge, z_ifgt, z_ifle, z_iceq, z_icne, z_iclt, z_icge, z_icgt, z_icle, z_cs0, z_cs1, z_cs2, z_cs3, z_cs4, z_cs5, z_cs6, z_cs7, z_cv0, z_cv1, z_cv2, z_cv3, z_cv4, z_cv5, z_cv6, z_cv7, z_g0, z_s0, z_g1, z_s1, z_g2, z_s2, z_g3, z_s3, z_g4, z_s4, z_g5, z_s5, z_g6, z_s6, z_g7, z_s7, z_g8, z_s8, z_g9, z_s9, z_g10, z_s10, z_g11, z_s11, z_g12, z_s12, z_g13, z_s13, z_b0, z_b1, z_b0n, z_b1n, z_up_far1, z_up_far2, z_up_far3, z_up_far4, z_up_far5, z_up_far6, Classical.not_not, not_true_eq_false, z_in, z_inL, Int.cast_ofNat_Int, Nat.reduceLeDiff, List.length_cons, List.length_nil, Nat.reduceAdd, Nat.zero_add, Nat.le_refl, true_and, and_true, List.length, Nat.reduceLT, true_or, or_true, false_or, or_false, false_and, and_false, not_true_eq_false, not_false_eq_true, forall_const, false_implies, true_implies, Int.reduceEq, Int.reduceLT, Int.reduceLE, Int.reduceAdd, Int.reduceSub, Int.reduceMul, Int.reduceNeg, Int.reduceToNat, Int.toNat_natCast, ↓reduceIte, reduceIte, Nat.reduceEqDiff, Nat.reduceSub, Nat.reduceMul, ne_eq, Int.zero_add, Int.add_zero, Int.sub_zero, Nat.add_zero, Int.ofNat_eq_natCast, tX3_slipsFrom_78, SX3_areSame, f1 (k0 + 1) i (by omega), f1 k1 j d3, g1, g2, t1]
          repeat' (first | (intro _) | (with_reducible assumption) | (refine And.intro ?_ ?_))
          all_goals first | omega | assumption | (refine z_fin h ?_ rfl; first | rfl | omega | (split <;> omega) | (split <;> split <;> omega)) | skip
          · have e2 := e1 (some (.inl (q_dp cc i j + 1))) (some (.inl (min (q_dp cc (i + 1) j) (q_dp cc i (j + 1)) + 1)))
            rw [q_dp_S, ce, if_neg (by assumption)] at e2
            exact e2
          · have e2 := e1 (some (.inl (q_dp cc i j))) (some (.inl (min (q_dp cc (i + 1) j) (q_dp cc i (j + 1)) + 1)))
            rw [q_dp_S, ce, if_pos (by assumption), Int.add_zero] at e2
            exact e2
      have b0 := hb i 0
      refine h48 _ _ _ ?_
      simp only [z_push, z_lpush, z_iload, z_lload, z_aload, z_istore, z_istoreP, z_lstore, z_astore, z_iinc, z_iincP, z_iadd, z_isub, z_imul, z_iaddW, z_isubW, z_imulW, z_idiv, z_irem, z_iand, z_ior, z_ixor, z_ishl, z_ishr, z_iushr, z_ineg, z_i2l, z_i2b, z_i2s, z_i2c, z_l2i, z_ladd, z_lsub, z_land, z_lor, z_lshl, z_lshr, z_lcmp, z_dup, z_pop, z_dup2, z_goto, z_tsw, z_cases, z_geti, z_getr, z_puti, z_putz, z_ald, z_iast, z_bast, z_zast, z_alen, z_acopy, z_mmax, z_mmin, z_mabs, z_mabsL, z_iret, z_zret, z_nret, z_lret, z_aret, z_vret, z_cat, z_ldcs, z_strv, z_strc, z_gcs, z_gfm, z_sln, z_sald, z_ifeq, z_ifne, z_iflt, z_ifge, z_ifgt, z_ifle, z_iceq, z_icne, z_iclt, z_icge, z_icgt, z_icle, z_cs0, z_cs1, z_cs2, z_cs3, z_cs4, z_cs5, z_cs6, z_cs7, z_cv0, z_cv1, z_cv2, z_cv3, z_cv4, z_cv5, z_cv6, z_cv7, z_g0, z_s0, z_g1, z_s1, z_g2, z_s2, z_g3, z_s3, z_g4, z_s4, z_g5, z_s5, z_g6, z_s6, z_g7, z_s7, z_g8, z_s8, z_g9, z_s9, z_g10, z_s10, z_g11, z_s11, z_g12, z_s12, z_g13, z_s13, z_b0, z_b1, z_b0n, z_b1n, z_up_far1, z_up_far2, z_up_far3, z_up_far4, z_up_far5, z_up_far6, Classical.not_not, not_true_eq_false, z_in, z_inL, Int.cast_ofNat_Int, Nat.reduceLeDiff, List.length_cons, List.length_nil, Nat.reduceAdd, Nat.zero_add, Nat.le_refl, true_and, and_true, List.length, Nat.reduceLT, true_or, or_true, false_or, or_false, false_and, and_false, not_true_eq_false, not_false_eq_true, forall_const, false_implies, true_implies, Int.reduceEq, Int.reduceLT, Int.reduceLE, Int.reduceAdd, Int.reduceSub, Int.reduceMul, Int.reduceNeg, Int.reduceToNat, Int.toNat_natCast, ↓reduceIte, reduceIte, Nat.reduceEqDiff, Nat.reduceSub, Nat.reduceMul, ne_eq, Int.zero_add, Int.add_zero, Int.sub_zero, Nat.add_zero, Int.ofNat_eq_natCast, tX3_slipsFrom_48, f1 k0 3 (by omega), hcnt, f2 0 (Nat.zero_le _)]
      repeat' (first | (intro _) | (with_reducible assumption) | (refine And.intro ?_ ?_))
      all_goals first | omega | assumption | (refine z_fin h ?_ rfl; first | rfl | omega | (split <;> omega) | (split <;> split <;> omega)) | skip
      exact L78 m 0 _ _ _ (by omega) (fun c a hc => by rw [z_up_ne (Or.inl hc)]; exact f1 c a hc) (fun a ha => by
        have e : a = 0 := by omega
        subst e
        rw [z_up_eq, q_dp_i0]; rfl) (fun a ha hm => by rw [z_up_ne (Or.inr (by omega))]; exact f2 a hm)
  have L24 : ∀ (d j : Nat) (τ : zM), j + d = m + 1 → (∀ c j, c ≠ k0 + 3 → τ c j = σ c j) → (∀ a, a < j → τ (k0 + 3) a = a) → X 24 [some (.inr (.inr (3, 0, k0))), some (.inr (.inr (100, n1, k1))), some (.inl (m : Int)), some (.inl x3), some (.inl (j : Int)), none, none, none, none] [] τ := by
    intro d
    induction d with
    | zero =>
      intro j τ hj f1 f2
      refine h24 _ _ _ ?_
      simp only [z_push, z_lpush, z_iload, z_lload, z_aload, z_istore, z_istoreP, z_lstore, z_astore, z_iinc, z_iincP, z_iadd, z_isub, z_imul, z_iaddW, z_isubW, z_imulW, z_idiv, z_irem, z_iand, z_ior, z_ixor, z_ishl, z_ishr, z_iushr, z_ineg, z_i2l, z_i2b, z_i2s, z_i2c, z_l2i, z_ladd, z_lsub, z_land, z_lor, z_lshl, z_lshr, z_lcmp, z_dup, z_pop, z_dup2, z_goto, z_tsw, z_cases, z_geti, z_getr, z_puti, z_putz, z_ald, z_iast, z_bast, z_zast, z_alen, z_acopy, z_mmax, z_mmin, z_mabs, z_mabsL, z_iret, z_zret, z_nret, z_lret, z_aret, z_vret, z_cat, z_ldcs, z_strv, z_strc, z_gcs, z_gfm, z_sln, z_sald, z_ifeq, z_ifne, z_iflt, z_ifge, z_ifgt, z_ifle, z_iceq, z_icne, z_iclt, z_icge, z_icgt, z_icle, z_cs0, z_cs1, z_cs2, z_cs3, z_cs4, z_cs5, z_cs6, z_cs7, z_cv0, z_cv1, z_cv2, z_cv3, z_cv4, z_cv5, z_cv6, z_cv7, z_g0, z_s0, z_g1, z_s1, z_g2, z_s2, z_g3, z_s3, z_g4, z_s4, z_g5, z_s5, z_g6, z_s6, z_g7, z_s7, z_g8, z_s8, z_g9, z_s9, z_g10, z_s10, z_g11, z_s11, z_g12, z_s12, z_g13, z_s13, z_b0, z_b1, z_b0n, z_b1n, z_up_far1, z_up_far2, z_up_far3, z_up_far4, z_up_far5, z_up_far6, Classical.not_not, not_true_eq_false, z_in, z_inL, Int.cast_ofNat_Int, Nat.reduceLeDiff, List.length_cons, List.length_nil, Nat.reduceAdd, Nat.zero_add, Nat.le_refl, true_and, and_true, List.length, Nat.reduceLT, true_or, or_true, false_or, or_false, false_and, and_false, not_true_eq_false, not_false_eq_true, forall_const, false_implies, true_implies, Int.reduceEq, Int.reduceLT, Int.reduceLE, Int.reduceAdd, Int.reduceSub, Int.reduceMul, Int.reduceNeg, Int.reduceToNat, Int.toNat_natCast, ↓reduceIte, reduceIte, Nat.reduceEqDiff, Nat.reduceSub, Nat.reduceMul, ne_eq, Int.zero_add, Int.add_zero, Int.sub_zero, Nat.add_zero, Int.ofNat_eq_natCast, tX3_slipsFrom_24]
      repeat' (first | (intro _) | (with_reducible assumption) | (refine And.intro ?_ ?_))
      all_goals first | omega | assumption | (refine z_fin h ?_ rfl; first | rfl | omega | (split <;> omega) | (split <;> split <;> omega)) | skip
      exact L48 cnt 0 τ _ _ _ _ (by omega) f1 (fun a ha => by rw [q_dp_0]; exact f2 a (by omega))
    | succ d ih =>
      intro j τ hj f1 f2
      have e1 := ih (j + 1) (z_up τ (k0 + 3) j j) (by omega) (fun c a hc => by rw [z_up_ne (Or.inl hc)]; exact f1 c a hc)
            (fun a ha => by
              by_cases q : a = j
              · rw [q, z_up_eq]
              · rw [z_up_ne (Or.inr q)]; exact f2 a (by omega))
      refine h24 _ _ _ ?_
      simp only [z_push, z_lpush, z_iload, z_lload, z_aload, z_istore, z_istoreP, z_lstore, z_astore, z_iinc, z_iincP, z_iadd, z_isub, z_imul, z_iaddW, z_isubW, z_imulW, z_idiv, z_irem, z_iand, z_ior, z_ixor, z_ishl, z_ishr, z_iushr, z_ineg, z_i2l, z_i2b, z_i2s, z_i2c, z_l2i, z_ladd, z_lsub, z_land, z_lor, z_lshl, z_lshr, z_lcmp, z_dup, z_pop, z_dup2, z_goto, z_tsw, z_cases, z_geti, z_getr, z_puti, z_putz, z_ald, z_iast, z_bast, z_zast, z_alen, z_acopy, z_mmax, z_mmin, z_mabs, z_mabsL, z_iret, z_zret, z_nret, z_lret, z_aret, z_vret, z_cat, z_ldcs, z_strv, z_strc, z_gcs, z_gfm, z_sln, z_sald, z_ifeq, z_ifne, z_iflt, z_ifge, z_ifgt, z_ifle, z_iceq, z_icne, z_iclt, z_icge, z_icgt, z_icle, z_cs0, z_cs1, z_cs2, z_cs3, z_cs4, z_cs5, z_cs6, z_cs7, z_cv0, z_cv1, z_cv2, z_cv3, z_cv4, z_cv5, z_cv6, z_cv7, z_g0, z_s0, z_g1, z_s1, z_g2, z_s2, z_g3, z_s3, z_g4, z_s4, z_g5, z_s5, z_g6, z_s6, z_g7, z_s7, z_g8, z_s8, z_g9, z_s9, z_g10, z_s10, z_g11, z_s11, z_g12, z_s12, z_g13, z_s13, z_b0, z_b1, z_b0n, z_b1n, z_up_far1, z_up_far2, z_up_far3, z_up_far4, z_up_far5, z_up_far6, Classical.not_not, not_true_eq_false, z_in, z_inL, Int.cast_ofNat_Int, Nat.reduceLeDiff, List.length_cons, List.length_nil, Nat.reduceAdd, Nat.zero_add, Nat.le_refl, true_and, and_true, List.length, Nat.reduceLT, true_or, or_true, false_or, or_false, false_and, and_false, not_true_eq_false, not_false_eq_true, forall_const, false_implies, true_implies, Int.reduceEq, Int.reduceLT, Int.reduceLE, Int.reduceAdd, Int.reduceSub, Int.reduceMul, Int.reduceNeg, Int.reduceToNat, Int.toNat_natCast, ↓reduceIte, reduceIte, Nat.reduceEqDiff, Nat.reduceSub, Nat.reduceMul, ne_eq, Int.zero_add, Int.add_zero, Int.sub_zero, Nat.add_zero, Int.ofNat_eq_natCast, tX3_slipsFrom_24]
      repeat' (first | (intro _) | (with_reducible assumption) | (refine And.intro ?_ ?_))
      all_goals first | omega | assumption | (refine z_fin h ?_ rfl; first | rfl | omega | (split <;> omega) | (split <;> split <;> omega)) | skip
  have l0 := L24 (m + 1) 0 σ (by omega) (fun _ _ _ => rfl) (fun a ha => absurd ha (Nat.not_lt_zero _))
  refine h0 _ _ _ ?_
  simp only [z_push, z_lpush, z_iload, z_lload, z_aload, z_istore, z_istoreP, z_lstore, z_astore, z_iinc, z_iincP, z_iadd, z_isub, z_imul, z_iaddW, z_isubW, z_imulW, z_idiv, z_irem, z_iand, z_ior, z_ixor, z_ishl, z_ishr, z_iushr, z_ineg, z_i2l, z_i2b, z_i2s, z_i2c, z_l2i, z_ladd, z_lsub, z_land, z_lor, z_lshl, z_lshr, z_lcmp, z_dup, z_pop, z_dup2, z_goto, z_tsw, z_cases, z_geti, z_getr, z_puti, z_putz, z_ald, z_iast, z_bast, z_zast, z_alen, z_acopy, z_mmax, z_mmin, z_mabs, z_mabsL, z_iret, z_zret, z_nret, z_lret, z_aret, z_vret, z_cat, z_ldcs, z_strv, z_strc, z_gcs, z_gfm, z_sln, z_sald, z_ifeq, z_ifne, z_iflt, z_ifge, z_ifgt, z_ifle, z_iceq, z_icne, z_iclt, z_icge, z_icgt, z_icle, z_cs0, z_cs1, z_cs2, z_cs3, z_cs4, z_cs5, z_cs6, z_cs7, z_cv0, z_cv1, z_cv2, z_cv3, z_cv4, z_cv5, z_cv6, z_cv7, z_g0, z_s0, z_g1, z_s1, z_g2, z_s2, z_g3, z_s3, z_g4, z_s4, z_g5, z_s5, z_g6, z_s6, z_g7, z_s7, z_g8, z_s8, z_g9, z_s9, z_g10, z_s10, z_g11, z_s11, z_g12, z_s12, z_g13, z_s13, z_b0, z_b1, z_b0n, z_b1n, z_up_far1, z_up_far2, z_up_far3, z_up_far4, z_up_far5, z_up_far6, Classical.not_not, not_true_eq_false, z_in, z_inL, Int.cast_ofNat_Int, Nat.reduceLeDiff, List.length_cons, List.length_nil, Nat.reduceAdd, Nat.zero_add, Nat.le_refl, true_and, and_true, List.length, Nat.reduceLT, true_or, or_true, false_or, or_false, false_and, and_false, not_true_eq_false, not_false_eq_true, forall_const, false_implies, true_implies, Int.reduceEq, Int.reduceLT, Int.reduceLE, Int.reduceAdd, Int.reduceSub, Int.reduceMul, Int.reduceNeg, Int.reduceToNat, Int.toNat_natCast, ↓reduceIte, reduceIte, Nat.reduceEqDiff, Nat.reduceSub, Nat.reduceMul, ne_eq, Int.zero_add, Int.add_zero, Int.sub_zero, Nat.add_zero, Int.ofNat_eq_natCast, tX3_slipsFrom_0]
  repeat' (first | (intro _) | (with_reducible assumption) | (refine And.intro ?_ ?_))
  all_goals first | omega | assumption | (refine z_fin h ?_ rfl; first | rfl | omega | (split <;> omega) | (split <;> split <;> omega)) | skip
theorem dX3_slipsFrom_0 : decode cX3_slipsFrom 0 = .ok (.iload_n 2, 1) := by decide +kernel
theorem dX3_slipsFrom_1 : decode cX3_slipsFrom 1 = .ok (.ifCond .lt 18, 3) := by decide +kernel
theorem dX3_slipsFrom_4 : decode cX3_slipsFrom 4 = .ok (.iload_n 2, 1) := by decide +kernel
theorem dX3_slipsFrom_5 : decode cX3_slipsFrom 5 = .ok (.aload_n 1, 1) := by decide +kernel
theorem dX3_slipsFrom_6 : decode cX3_slipsFrom 6 = .ok (.arraylength, 1) := by decide +kernel
theorem dX3_slipsFrom_7 : decode cX3_slipsFrom 7 = .ok (.if_icmp .gt 12, 3) := by decide +kernel
theorem dX3_slipsFrom_10 : decode cX3_slipsFrom 10 = .ok (.iload_n 2, 1) := by decide +kernel
theorem dX3_slipsFrom_11 : decode cX3_slipsFrom 11 = .ok (.aload_n 0, 1) := by decide +kernel
theorem dX3_slipsFrom_12 : decode cX3_slipsFrom 12 = .ok (.getfield 18, 3) := by decide +kernel
theorem dX3_slipsFrom_15 : decode cX3_slipsFrom 15 = .ok (.arraylength, 1) := by decide +kernel
theorem dX3_slipsFrom_16 : decode cX3_slipsFrom 16 = .ok (.if_icmp .lt 5, 3) := by decide +kernel
theorem dX3_slipsFrom_19 : decode cX3_slipsFrom 19 = .ok (.iconst 0, 1) := by decide +kernel
theorem dX3_slipsFrom_20 : decode cX3_slipsFrom 20 = .ok (.ireturn, 1) := by decide +kernel
theorem dX3_slipsFrom_21 : decode cX3_slipsFrom 21 = .ok (.iconst 0, 1) := by decide +kernel
theorem dX3_slipsFrom_22 : decode cX3_slipsFrom 22 = .ok (.istore 4, 2) := by decide +kernel
theorem dX3_slipsFrom_24 : decode cX3_slipsFrom 24 = .ok (.iload 4, 2) := by decide +kernel
theorem dX3_slipsFrom_26 : decode cX3_slipsFrom 26 = .ok (.iload_n 2, 1) := by decide +kernel
theorem dX3_slipsFrom_27 : decode cX3_slipsFrom 27 = .ok (.if_icmp .gt 18, 3) := by decide +kernel
theorem dX3_slipsFrom_30 : decode cX3_slipsFrom 30 = .ok (.aload_n 0, 1) := by decide +kernel
theorem dX3_slipsFrom_31 : decode cX3_slipsFrom 31 = .ok (.getfield 18, 3) := by decide +kernel
theorem dX3_slipsFrom_34 : decode cX3_slipsFrom 34 = .ok (.iload 4, 2) := by decide +kernel
theorem dX3_slipsFrom_36 : decode cX3_slipsFrom 36 = .ok (.iload 4, 2) := by decide +kernel
theorem dX3_slipsFrom_38 : decode cX3_slipsFrom 38 = .ok (.iastore, 1) := by decide +kernel
theorem dX3_slipsFrom_39 : decode cX3_slipsFrom 39 = .ok (.iinc 4 1, 3) := by decide +kernel
theorem dX3_slipsFrom_42 : decode cX3_slipsFrom 42 = .ok (.goto (-18), 3) := by decide +kernel
theorem dX3_slipsFrom_45 : decode cX3_slipsFrom 45 = .ok (.iconst 0, 1) := by decide +kernel
theorem dX3_slipsFrom_46 : decode cX3_slipsFrom 46 = .ok (.istore 4, 2) := by decide +kernel
theorem dX3_slipsFrom_48 : decode cX3_slipsFrom 48 = .ok (.iload 4, 2) := by decide +kernel
theorem dX3_slipsFrom_50 : decode cX3_slipsFrom 50 = .ok (.aload_n 0, 1) := by decide +kernel
theorem dX3_slipsFrom_51 : decode cX3_slipsFrom 51 = .ok (.getfield 21, 3) := by decide +kernel
theorem dX3_slipsFrom_54 : decode cX3_slipsFrom 54 = .ok (.if_icmp .ge 120, 3) := by decide +kernel
theorem dX3_slipsFrom_57 : decode cX3_slipsFrom 57 = .ok (.aload_n 0, 1) := by decide +kernel
theorem dX3_slipsFrom_58 : decode cX3_slipsFrom 58 = .ok (.getfield 18, 3) := by decide +kernel
theorem dX3_slipsFrom_61 : decode cX3_slipsFrom 61 = .ok (.iconst 0, 1) := by decide +kernel
theorem dX3_slipsFrom_62 : decode cX3_slipsFrom 62 = .ok (.iaload, 1) := by decide +kernel
theorem dX3_slipsFrom_63 : decode cX3_slipsFrom 63 = .ok (.istore 5, 2) := by decide +kernel
theorem dX3_slipsFrom_65 : decode cX3_slipsFrom 65 = .ok (.aload_n 0, 1) := by decide +kernel
theorem dX3_slipsFrom_66 : decode cX3_slipsFrom 66 = .ok (.getfield 18, 3) := by decide +kernel
theorem dX3_slipsFrom_69 : decode cX3_slipsFrom 69 = .ok (.iconst 0, 1) := by decide +kernel
theorem dX3_slipsFrom_70 : decode cX3_slipsFrom 70 = .ok (.iload 4, 2) := by decide +kernel
theorem dX3_slipsFrom_72 : decode cX3_slipsFrom 72 = .ok (.iconst 1, 1) := by decide +kernel
theorem dX3_slipsFrom_73 : decode cX3_slipsFrom 73 = .ok (.iadd, 1) := by decide +kernel
theorem dX3_slipsFrom_74 : decode cX3_slipsFrom 74 = .ok (.iastore, 1) := by decide +kernel
theorem dX3_slipsFrom_75 : decode cX3_slipsFrom 75 = .ok (.iconst 0, 1) := by decide +kernel
theorem dX3_slipsFrom_76 : decode cX3_slipsFrom 76 = .ok (.istore 6, 2) := by decide +kernel
theorem dX3_slipsFrom_78 : decode cX3_slipsFrom 78 = .ok (.iload 6, 2) := by decide +kernel
theorem dX3_slipsFrom_80 : decode cX3_slipsFrom 80 = .ok (.iload_n 2, 1) := by decide +kernel
theorem dX3_slipsFrom_81 : decode cX3_slipsFrom 81 = .ok (.if_icmp .ge 87, 3) := by decide +kernel
theorem dX3_slipsFrom_84 : decode cX3_slipsFrom 84 = .ok (.iload 5, 2) := by decide +kernel
theorem dX3_slipsFrom_86 : decode cX3_slipsFrom 86 = .ok (.aload_n 0, 1) := by decide +kernel
theorem dX3_slipsFrom_87 : decode cX3_slipsFrom 87 = .ok (.getfield 9, 3) := by decide +kernel
theorem dX3_slipsFrom_90 : decode cX3_slipsFrom 90 = .ok (.iload 4, 2) := by decide +kernel
theorem dX3_slipsFrom_92 : decode cX3_slipsFrom 92 = .ok (.iaload, 1) := by decide +kernel
theorem dX3_slipsFrom_93 : decode cX3_slipsFrom 93 = .ok (.aload_n 1, 1) := by decide +kernel
theorem dX3_slipsFrom_94 : decode cX3_slipsFrom 94 = .ok (.iload 6, 2) := by decide +kernel
theorem dX3_slipsFrom_96 : decode cX3_slipsFrom 96 = .ok (.iaload, 1) := by decide +kernel
theorem dX3_slipsFrom_97 : decode cX3_slipsFrom 97 = .ok (.iload_n 3, 1) := by decide +kernel
theorem dX3_slipsFrom_98 : decode cX3_slipsFrom 98 = .ok (.invokestatic 47, 3) := by decide +kernel
theorem dX3_slipsFrom_101 : decode cX3_slipsFrom 101 = .ok (.ifCond .eq 7, 3) := by decide +kernel
theorem dX3_slipsFrom_104 : decode cX3_slipsFrom 104 = .ok (.iconst 0, 1) := by decide +kernel
theorem dX3_slipsFrom_105 : decode cX3_slipsFrom 105 = .ok (.goto 4, 3) := by decide +kernel
theorem dX3_slipsFrom_108 : decode cX3_slipsFrom 108 = .ok (.iconst 1, 1) := by decide +kernel
theorem dX3_slipsFrom_109 : decode cX3_slipsFrom 109 = .ok (.iadd, 1) := by decide +kernel
theorem dX3_slipsFrom_110 : decode cX3_slipsFrom 110 = .ok (.istore 7, 2) := by decide +kernel
theorem dX3_slipsFrom_112 : decode cX3_slipsFrom 112 = .ok (.aload_n 0, 1) := by decide +kernel
theorem dX3_slipsFrom_113 : decode cX3_slipsFrom 113 = .ok (.getfield 18, 3) := by decide +kernel
theorem dX3_slipsFrom_116 : decode cX3_slipsFrom 116 = .ok (.iload 6, 2) := by decide +kernel
theorem dX3_slipsFrom_118 : decode cX3_slipsFrom 118 = .ok (.iaload, 1) := by decide +kernel
theorem dX3_slipsFrom_119 : decode cX3_slipsFrom 119 = .ok (.aload_n 0, 1) := by decide +kernel
theorem dX3_slipsFrom_120 : decode cX3_slipsFrom 120 = .ok (.getfield 18, 3) := by decide +kernel
theorem dX3_slipsFrom_123 : decode cX3_slipsFrom 123 = .ok (.iload 6, 2) := by decide +kernel
theorem dX3_slipsFrom_125 : decode cX3_slipsFrom 125 = .ok (.iconst 1, 1) := by decide +kernel
theorem dX3_slipsFrom_126 : decode cX3_slipsFrom 126 = .ok (.iadd, 1) := by decide +kernel
theorem dX3_slipsFrom_127 : decode cX3_slipsFrom 127 = .ok (.iaload, 1) := by decide +kernel
theorem dX3_slipsFrom_128 : decode cX3_slipsFrom 128 = .ok (.invokestatic 51, 3) := by decide +kernel
theorem dX3_slipsFrom_131 : decode cX3_slipsFrom 131 = .ok (.iconst 1, 1) := by decide +kernel
theorem dX3_slipsFrom_132 : decode cX3_slipsFrom 132 = .ok (.iadd, 1) := by decide +kernel
theorem dX3_slipsFrom_133 : decode cX3_slipsFrom 133 = .ok (.istore 8, 2) := by decide +kernel
theorem dX3_slipsFrom_135 : decode cX3_slipsFrom 135 = .ok (.aload_n 0, 1) := by decide +kernel
theorem dX3_slipsFrom_136 : decode cX3_slipsFrom 136 = .ok (.getfield 18, 3) := by decide +kernel
theorem dX3_slipsFrom_139 : decode cX3_slipsFrom 139 = .ok (.iload 6, 2) := by decide +kernel
theorem dX3_slipsFrom_141 : decode cX3_slipsFrom 141 = .ok (.iconst 1, 1) := by decide +kernel
theorem dX3_slipsFrom_142 : decode cX3_slipsFrom 142 = .ok (.iadd, 1) := by decide +kernel
theorem dX3_slipsFrom_143 : decode cX3_slipsFrom 143 = .ok (.iaload, 1) := by decide +kernel
theorem dX3_slipsFrom_144 : decode cX3_slipsFrom 144 = .ok (.istore 5, 2) := by decide +kernel
theorem dX3_slipsFrom_146 : decode cX3_slipsFrom 146 = .ok (.aload_n 0, 1) := by decide +kernel
theorem dX3_slipsFrom_147 : decode cX3_slipsFrom 147 = .ok (.getfield 18, 3) := by decide +kernel
theorem dX3_slipsFrom_150 : decode cX3_slipsFrom 150 = .ok (.iload 6, 2) := by decide +kernel
theorem dX3_slipsFrom_152 : decode cX3_slipsFrom 152 = .ok (.iconst 1, 1) := by decide +kernel
theorem dX3_slipsFrom_153 : decode cX3_slipsFrom 153 = .ok (.iadd, 1) := by decide +kernel
theorem dX3_slipsFrom_154 : decode cX3_slipsFrom 154 = .ok (.iload 7, 2) := by decide +kernel
theorem dX3_slipsFrom_156 : decode cX3_slipsFrom 156 = .ok (.iload 8, 2) := by decide +kernel
theorem dX3_slipsFrom_158 : decode cX3_slipsFrom 158 = .ok (.invokestatic 51, 3) := by decide +kernel
theorem dX3_slipsFrom_161 : decode cX3_slipsFrom 161 = .ok (.iastore, 1) := by decide +kernel
theorem dX3_slipsFrom_162 : decode cX3_slipsFrom 162 = .ok (.iinc 6 1, 3) := by decide +kernel
theorem dX3_slipsFrom_165 : decode cX3_slipsFrom 165 = .ok (.goto (-87), 3) := by decide +kernel
theorem dX3_slipsFrom_168 : decode cX3_slipsFrom 168 = .ok (.iinc 4 1, 3) := by decide +kernel
theorem dX3_slipsFrom_171 : decode cX3_slipsFrom 171 = .ok (.goto (-123), 3) := by decide +kernel
theorem dX3_slipsFrom_174 : decode cX3_slipsFrom 174 = .ok (.aload_n 0, 1) := by decide +kernel
theorem dX3_slipsFrom_175 : decode cX3_slipsFrom 175 = .ok (.getfield 18, 3) := by decide +kernel
theorem dX3_slipsFrom_178 : decode cX3_slipsFrom 178 = .ok (.iload_n 2, 1) := by decide +kernel
theorem dX3_slipsFrom_179 : decode cX3_slipsFrom 179 = .ok (.iaload, 1) := by decide +kernel
theorem dX3_slipsFrom_180 : decode cX3_slipsFrom 180 = .ok (.ireturn, 1) := by decide +kernel
set_option maxRecDepth 100000 in
theorem rX3_slipsFrom_0 {p : Program} {l : Launch} {e : Env} {s : State} {m : MethodId} {args : Array Value} {below : List Frame} {meth : Method} {c : Code} {D : va_G} {cA : Nat → ClassId} {ad : Nat → Nat} {Ret : zR} (C : z_Cx p { frames := 2, cells := 0, slots := 0, locals := 43 } s m args c cX3_slipsFrom yX3_slipsFrom.cls 9 D cA ad) (hr : meth.sig.returnType = (some .int)) (hlocks : meth.locks = false) : ∀ L st σ, tX3_slipsFrom_0 (z_X p l e { frames := 2, cells := 0, slots := 0, locals := 43 } s m args below meth c (MQ below (z_Qc D cA ad Ret) args s 0 0 (z_A ad)) 9 D cA ad true) Ret L st σ → z_X p l e { frames := 2, cells := 0, slots := 0, locals := 43 } s m args below meth c (MQ below (z_Qc D cA ad Ret) args s 0 0 (z_A ad)) 9 D cA ad true 0 L st σ := (s_iload_n C dX3_slipsFrom_0 rfl (s_iflt C dX3_slipsFrom_1 (by decide) (s_iconst C dX3_slipsFrom_19 rfl ⟨by decide, by decide⟩ (s_iret C dX3_slipsFrom_20 hr hlocks)) (s_iload_n C dX3_slipsFrom_4 rfl (s_aload_n C dX3_slipsFrom_5 rfl (s_alen C dX3_slipsFrom_6 (s_icgt C dX3_slipsFrom_7 (by decide) (s_iconst C dX3_slipsFrom_19 rfl ⟨by decide, by decide⟩ (s_iret C dX3_slipsFrom_20 hr hlocks)) (s_iload_n C dX3_slipsFrom_10 rfl (s_aload_n C dX3_slipsFrom_11 rfl (s_getr C dX3_slipsFrom_12 (j := 2) cls_X3 (by decide) rfl (by decide) (by decide) (by decide +kernel) wd_304 (s_alen C dX3_slipsFrom_15 (s_iclt C dX3_slipsFrom_16 (by decide) (s_iconst C dX3_slipsFrom_21 rfl ⟨by decide, by decide⟩ (s_istore C dX3_slipsFrom_22 (by decide) rfl (fun _ _ _ h => h))) (s_iconst C dX3_slipsFrom_19 rfl ⟨by decide, by decide⟩ (s_iret C dX3_slipsFrom_20 hr hlocks)))))))))))))
set_option maxRecDepth 100000 in
theorem rX3_slipsFrom_24 {p : Program} {l : Launch} {e : Env} {s : State} {m : MethodId} {args : Array Value} {below : List Frame} {meth : Method} {c : Code} {D : va_G} {cA : Nat → ClassId} {ad : Nat → Nat} {Ret : zR} (C : z_Cx p { frames := 2, cells := 0, slots := 0, locals := 43 } s m args c cX3_slipsFrom yX3_slipsFrom.cls 9 D cA ad) (hr : meth.sig.returnType = (some .int)) (hlocks : meth.locks = false) : ∀ L st σ, tX3_slipsFrom_24 (z_X p l e { frames := 2, cells := 0, slots := 0, locals := 43 } s m args below meth c (MQ below (z_Qc D cA ad Ret) args s 0 0 (z_A ad)) 9 D cA ad true) Ret L st σ → z_X p l e { frames := 2, cells := 0, slots := 0, locals := 43 } s m args below meth c (MQ below (z_Qc D cA ad Ret) args s 0 0 (z_A ad)) 9 D cA ad true 24 L st σ := (s_iload C dX3_slipsFrom_24 (s_iload_n C dX3_slipsFrom_26 rfl (s_icgt C dX3_slipsFrom_27 (by decide) (s_iconst C dX3_slipsFrom_45 rfl ⟨by decide, by decide⟩ (s_istore C dX3_slipsFrom_46 (by decide) rfl (fun _ _ _ h => h))) (s_aload_n C dX3_slipsFrom_30 rfl (s_getr C dX3_slipsFrom_31 (j := 2) cls_X3 (by decide) rfl (by decide) (by decide) (by decide +kernel) wd_304 (s_iload C dX3_slipsFrom_34 (s_iload C dX3_slipsFrom_36 (s_iast C dX3_slipsFrom_38 (s_iinc C dX3_slipsFrom_39 (by decide) rfl (s_goto C dX3_slipsFrom_42 (by decide) (fun _ _ _ h => h)))))))))))
set_option maxRecDepth 100000 in
theorem rX3_slipsFrom_48 {p : Program} {l : Launch} {e : Env} {s : State} {m : MethodId} {args : Array Value} {below : List Frame} {meth : Method} {c : Code} {D : va_G} {cA : Nat → ClassId} {ad : Nat → Nat} {Ret : zR} (C : z_Cx p { frames := 2, cells := 0, slots := 0, locals := 43 } s m args c cX3_slipsFrom yX3_slipsFrom.cls 9 D cA ad) (hr : meth.sig.returnType = (some .int)) (hlocks : meth.locks = false) : ∀ L st σ, tX3_slipsFrom_48 (z_X p l e { frames := 2, cells := 0, slots := 0, locals := 43 } s m args below meth c (MQ below (z_Qc D cA ad Ret) args s 0 0 (z_A ad)) 9 D cA ad true) Ret L st σ → z_X p l e { frames := 2, cells := 0, slots := 0, locals := 43 } s m args below meth c (MQ below (z_Qc D cA ad Ret) args s 0 0 (z_A ad)) 9 D cA ad true 48 L st σ := (s_iload C dX3_slipsFrom_48 (s_aload_n C dX3_slipsFrom_50 rfl (s_geti C dX3_slipsFrom_51 cls_X3 (by decide) rfl wd_305 (s_icge C dX3_slipsFrom_54 (by decide) (s_aload_n C dX3_slipsFrom_174 rfl (s_getr C dX3_slipsFrom_175 (j := 2) cls_X3 (by decide) rfl (by decide) (by decide) (by decide +kernel) wd_304 (s_iload_n C dX3_slipsFrom_178 rfl (s_iald C dX3_slipsFrom_179 (s_iret C dX3_slipsFrom_180 hr hlocks))))) (s_aload_n C dX3_slipsFrom_57 rfl (s_getr C dX3_slipsFrom_58 (j := 2) cls_X3 (by decide) rfl (by decide) (by decide) (by decide +kernel) wd_304 (s_iconst C dX3_slipsFrom_61 rfl ⟨by decide, by decide⟩ (s_iald C dX3_slipsFrom_62 (s_istore C dX3_slipsFrom_63 (by decide) rfl (s_aload_n C dX3_slipsFrom_65 rfl (s_getr C dX3_slipsFrom_66 (j := 2) cls_X3 (by decide) rfl (by decide) (by decide) (by decide +kernel) wd_304 (s_iconst C dX3_slipsFrom_69 rfl ⟨by decide, by decide⟩ (s_iload C dX3_slipsFrom_70 (s_iconst C dX3_slipsFrom_72 rfl ⟨by decide, by decide⟩ (s_iadd C dX3_slipsFrom_73 (s_iast C dX3_slipsFrom_74 (s_iconst C dX3_slipsFrom_75 rfl ⟨by decide, by decide⟩ (s_istore C dX3_slipsFrom_76 (by decide) rfl (fun _ _ _ h => h)))))))))))))))))))
set_option maxRecDepth 100000 in
theorem rX3_slipsFrom_78 {p : Program} {l : Launch} {e : Env} {s : State} {m : MethodId} {args : Array Value} {below : List Frame} {meth : Method} {c : Code} {D : va_G} {cA : Nat → ClassId} {ad : Nat → Nat} {Ret : zR} (C : z_Cx p { frames := 2, cells := 0, slots := 0, locals := 43 } s m args c cX3_slipsFrom yX3_slipsFrom.cls 9 D cA ad) (hr : meth.sig.returnType = (some .int)) (hlocks : meth.locks = false) : ∀ L st σ, tX3_slipsFrom_78 (z_X p l e { frames := 2, cells := 0, slots := 0, locals := 43 } s m args below meth c (MQ below (z_Qc D cA ad Ret) args s 0 0 (z_A ad)) 9 D cA ad true) Ret L st σ → z_X p l e { frames := 2, cells := 0, slots := 0, locals := 43 } s m args below meth c (MQ below (z_Qc D cA ad Ret) args s 0 0 (z_A ad)) 9 D cA ad true 78 L st σ := (s_iload C dX3_slipsFrom_78 (s_iload_n C dX3_slipsFrom_80 rfl (s_icge C dX3_slipsFrom_81 (by decide) (s_iinc C dX3_slipsFrom_168 (by decide) rfl (s_goto C dX3_slipsFrom_171 (by decide) (fun _ _ _ h => h))) (s_iload C dX3_slipsFrom_84 (s_aload_n C dX3_slipsFrom_86 rfl (s_getr C dX3_slipsFrom_87 (j := 0) cls_X3 (by decide) rfl (by decide) (by decide) (by decide +kernel) wd_300 (s_iload C dX3_slipsFrom_90 (s_iald C dX3_slipsFrom_92 (s_aload_n C dX3_slipsFrom_93 rfl (s_iload C dX3_slipsFrom_94 (s_iald C dX3_slipsFrom_96 (s_iload_n C dX3_slipsFrom_97 rfl (s_cs3 C dX3_slipsFrom_98 (okX3_areSame l) wd_759 wd_760 wd_82 wd_761 ⟨by decide, by decide, by decide +kernel⟩ ⟨by decide, by decide⟩ (s_ifeq C dX3_slipsFrom_101 (by decide) (s_iconst C dX3_slipsFrom_108 rfl ⟨by decide, by decide⟩ (s_iadd C dX3_slipsFrom_109 (s_istore C dX3_slipsFrom_110 (by decide) rfl (s_aload_n C dX3_slipsFrom_112 rfl (s_getr C dX3_slipsFrom_113 (j := 2) cls_X3 (by decide) rfl (by decide) (by decide) (by decide +kernel) wd_304 (s_iload C dX3_slipsFrom_116 (s_iald C dX3_slipsFrom_118 (s_aload_n C dX3_slipsFrom_119 rfl (s_getr C dX3_slipsFrom_120 (j := 2) cls_X3 (by decide) rfl (by decide) (by decide) (by decide +kernel) wd_304 (s_iload C dX3_slipsFrom_123 (s_iconst C dX3_slipsFrom_125 rfl ⟨by decide, by decide⟩ (s_iadd C dX3_slipsFrom_126 (s_iald C dX3_slipsFrom_127 (s_mmin C dX3_slipsFrom_128 wd_765 wd_679 wd_91 wd_680 ⟨by decide, by decide⟩ (s_iconst C dX3_slipsFrom_131 rfl ⟨by decide, by decide⟩ (s_iadd C dX3_slipsFrom_132 (s_istore C dX3_slipsFrom_133 (by decide) rfl (s_aload_n C dX3_slipsFrom_135 rfl (s_getr C dX3_slipsFrom_136 (j := 2) cls_X3 (by decide) rfl (by decide) (by decide) (by decide +kernel) wd_304 (s_iload C dX3_slipsFrom_139 (s_iconst C dX3_slipsFrom_141 rfl ⟨by decide, by decide⟩ (s_iadd C dX3_slipsFrom_142 (s_iald C dX3_slipsFrom_143 (s_istore C dX3_slipsFrom_144 (by decide) rfl (s_aload_n C dX3_slipsFrom_146 rfl (s_getr C dX3_slipsFrom_147 (j := 2) cls_X3 (by decide) rfl (by decide) (by decide) (by decide +kernel) wd_304 (s_iload C dX3_slipsFrom_150 (s_iconst C dX3_slipsFrom_152 rfl ⟨by decide, by decide⟩ (s_iadd C dX3_slipsFrom_153 (s_iload C dX3_slipsFrom_154 (s_iload C dX3_slipsFrom_156 (s_mmin C dX3_slipsFrom_158 wd_765 wd_679 wd_91 wd_680 ⟨by decide, by decide⟩ (s_iast C dX3_slipsFrom_161 (s_iinc C dX3_slipsFrom_162 (by decide) rfl (s_goto C dX3_slipsFrom_165 (by decide) (fun _ _ _ h => h)))))))))))))))))))))))))))))))))))) (s_iconst C dX3_slipsFrom_104 rfl ⟨by decide, by decide⟩ (s_goto C dX3_slipsFrom_105 (by decide) (s_iadd C dX3_slipsFrom_109 (s_istore C dX3_slipsFrom_110 (by decide) rfl (s_aload_n C dX3_slipsFrom_112 rfl (s_getr C dX3_slipsFrom_113 (j := 2) cls_X3 (by decide) rfl (by decide) (by decide) (by decide +kernel) wd_304 (s_iload C dX3_slipsFrom_116 (s_iald C dX3_slipsFrom_118 (s_aload_n C dX3_slipsFrom_119 rfl (s_getr C dX3_slipsFrom_120 (j := 2) cls_X3 (by decide) rfl (by decide) (by decide) (by decide +kernel) wd_304 (s_iload C dX3_slipsFrom_123 (s_iconst C dX3_slipsFrom_125 rfl ⟨by decide, by decide⟩ (s_iadd C dX3_slipsFrom_126 (s_iald C dX3_slipsFrom_127 (s_mmin C dX3_slipsFrom_128 wd_765 wd_679 wd_91 wd_680 ⟨by decide, by decide⟩ (s_iconst C dX3_slipsFrom_131 rfl ⟨by decide, by decide⟩ (s_iadd C dX3_slipsFrom_132 (s_istore C dX3_slipsFrom_133 (by decide) rfl (s_aload_n C dX3_slipsFrom_135 rfl (s_getr C dX3_slipsFrom_136 (j := 2) cls_X3 (by decide) rfl (by decide) (by decide) (by decide +kernel) wd_304 (s_iload C dX3_slipsFrom_139 (s_iconst C dX3_slipsFrom_141 rfl ⟨by decide, by decide⟩ (s_iadd C dX3_slipsFrom_142 (s_iald C dX3_slipsFrom_143 (s_istore C dX3_slipsFrom_144 (by decide) rfl (s_aload_n C dX3_slipsFrom_146 rfl (s_getr C dX3_slipsFrom_147 (j := 2) cls_X3 (by decide) rfl (by decide) (by decide) (by decide +kernel) wd_304 (s_iload C dX3_slipsFrom_150 (s_iconst C dX3_slipsFrom_152 rfl ⟨by decide, by decide⟩ (s_iadd C dX3_slipsFrom_153 (s_iload C dX3_slipsFrom_154 (s_iload C dX3_slipsFrom_156 (s_mmin C dX3_slipsFrom_158 wd_765 wd_679 wd_91 wd_680 ⟨by decide, by decide⟩ (s_iast C dX3_slipsFrom_161 (s_iinc C dX3_slipsFrom_162 (by decide) rfl (s_goto C dX3_slipsFrom_165 (by decide) (fun _ _ _ h => h)))))))))))))))))))))))))))))))))))))))))))))))))))
theorem okX3_slipsFrom (l : Launch) : z_OK l yX3_slipsFrom cX3_slipsFrom 9 (some .int) 2 43 SX3_slipsFrom := by
  refine z_ok_of true (by decide +kernel) ?_ ?_
  · intro as σ Ret h
    obtain ⟨k0, n1, k1, x2, x3, rfl⟩ := pX3_slipsFrom h
    exact ⟨Nat.le_of_ble_eq_true rfl, by simp⟩
  · intro p e s m args below meth c D cA ad Ret C hr hlocks as σ has hσ h
    obtain ⟨k0, n1, k1, x2, x3, rfl⟩ := pX3_slipsFrom h
    exact vX3_slipsFrom (rX3_slipsFrom_0 C hr hlocks) (rX3_slipsFrom_24 C hr hlocks) (rX3_slipsFrom_48 C hr hlocks) (rX3_slipsFrom_78 C hr hlocks) k0 n1 k1 x2 x3 σ (has _ (List.mem_of_getElem? (i := 0) rfl)) (has _ (List.mem_of_getElem? (i := 1) rfl)) (has _ (List.mem_of_getElem? (i := 2) rfl)) (has _ (List.mem_of_getElem? (i := 3) rfl)) hσ h
/-- birds: the longest common row -/
def q_lc (s : Nat → Nat → Bool) : Nat → Nat → Int
  | 0, _ => 0
  | _ + 1, 0 => 0
  | i + 1, j + 1 => max (if s i j then q_lc s i j + 1 else 0) (max (q_lc s (i + 1) j) (q_lc s i (j + 1)))
theorem q_lc_0 {s : Nat → Nat → Bool} {j : Nat} : q_lc s 0 j = 0 := by rw [q_lc]
theorem q_lc_i0 {s : Nat → Nat → Bool} : ∀ i : Nat, q_lc s i 0 = 0
  | 0 => by rw [q_lc]
  | i + 1 => by rw [q_lc]
theorem q_lc_S {s : Nat → Nat → Bool} {i j : Nat} : q_lc s (i + 1) (j + 1) = max (if s i j then q_lc s i j + 1 else 0) (max (q_lc s (i + 1) j) (q_lc s i (j + 1))) := by rw [q_lc]
theorem q_lc_in {s : Nat → Nat → Bool} : ∀ i j : Nat, 0 ≤ q_lc s i j ∧ q_lc s i j ≤ i
  | 0, j => by rw [q_lc_0]; omega
  | i + 1, 0 => by rw [q_lc_i0]; omega
  | i + 1, j + 1 => by
    have h1 := q_lc_in (s := s) i j
    have h2 := q_lc_in (s := s) (i + 1) j
    have h3 := q_lc_in (s := s) i (j + 1)
    rw [q_lc_S]
    split <;> omega
def q_s (a b : Nat → Int) (t : Int) (i j : Nat) : Bool := decide (a i - b j ≤ t ∧ b j - a i ≤ t)
def SX3_sharedWith : zS := fun as σ Ret => match as with
  | [.inr (.inr (3, 0, e)), .inr (.inr (100, n2, k2)), .inl n, .inl t] => ((0 ≤ n ∧ n ≤ n2 ∧ n ≤ 20) ∧ (k2 ≠ e ∧ k2 ≠ e + 3) ∧ 0 ≤ σ e 3 ∧ σ e 3 ≤ 12) ∧ ∀ σ' : zM, (∀ c j, c ≠ e + 3 → σ' c j = σ c j) → Ret (some (.inl (q_lc (q_s (σ k2) (σ (e + 1)) t) n.toNat (σ e 3).toNat))) σ'
  | _ => False
def tX3_sharedWith_0 (X : Nat → zB) (Ret : zR) (L : zL) (st : List zV) (σ : zM) : Prop := (z_push 0 (z_istore 4 (X 3))) L st σ
def tX3_sharedWith_3 (X : Nat → zB) (Ret : zR) (L : zL) (st : List zV) (σ : zM) : Prop := (z_iload 4 (z_aload 0 (z_geti 3 3 (z_icgt (z_push 0 (z_istore 4 (X 39))) (z_iload 4 (z_aload 0 (z_getr 3 3 100 13 (z_alen (z_icge (z_push 0 (z_istore 4 (X 39))) (z_aload 0 (z_getr 3 3 100 13 (z_iload 4 (z_push 0 (z_iast (z_iinc 4 1 (z_goto (X 3))))))))))))))))) L st σ
def tX3_sharedWith_39 (X : Nat → zB) (Ret : zR) (L : zL) (st : List zV) (σ : zM) : Prop := (z_iload 4 (z_iload 2 (z_icge (z_aload 0 (z_getr 3 3 100 13 (z_aload 0 (z_geti 3 3 (z_ald 0 (z_iret Ret)))))) (z_iload 4 (z_aload 1 (z_alen (z_icge (z_aload 0 (z_getr 3 3 100 13 (z_aload 0 (z_geti 3 3 (z_ald 0 (z_iret Ret)))))) (z_push 0 (z_istore 5 (z_push 0 (z_istore 6 (X 58)))))))))))) L st σ
def tX3_sharedWith_58 (X : Nat → zB) (Ret : zR) (L : zL) (st : List zV) (σ : zM) : Prop := (z_iload 6 (z_aload 0 (z_geti 3 3 (z_icge (z_iinc 4 1 (z_goto (X 39))) (z_aload 1 (z_iload 4 (z_ald 0 (z_aload 0 (z_getr 3 1 100 12 (z_iload 6 (z_ald 0 (z_iload 3 (z_cs3 SX3_areSame (z_ifeq (z_push 0 (z_istore 7 (z_aload 0 (z_getr 3 3 100 13 (z_iload 6 (z_push 1 (z_iadd (z_ald 0 (z_istore 5 (z_aload 0 (z_getr 3 3 100 13 (z_iload 6 (z_push 1 (z_iadd (z_iload 7 (z_aload 0 (z_getr 3 3 100 13 (z_iload 6 (z_ald 0 (z_aload 0 (z_getr 3 3 100 13 (z_iload 6 (z_push 1 (z_iadd (z_ald 0 (z_mmax (z_mmax (z_iast (z_iinc 6 1 (z_goto (X 58))))))))))))))))))))))))))))))) (z_iload 5 (z_push 1 (z_iadd (z_goto (z_istore 7 (z_aload 0 (z_getr 3 3 100 13 (z_iload 6 (z_push 1 (z_iadd (z_ald 0 (z_istore 5 (z_aload 0 (z_getr 3 3 100 13 (z_iload 6 (z_push 1 (z_iadd (z_iload 7 (z_aload 0 (z_getr 3 3 100 13 (z_iload 6 (z_ald 0 (z_aload 0 (z_getr 3 3 100 13 (z_iload 6 (z_push 1 (z_iadd (z_ald 0 (z_mmax (z_mmax (z_iast (z_iinc 6 1 (z_goto (X 58)))))))))))))))))))))))))))))))))))))))))))))))) L st σ
theorem pX3_sharedWith {as : List zV} {σ : zM} {Ret : zR} (h : SX3_sharedWith as σ Ret) : ∃ (k0 : Nat) (n1 k1 : Nat) (x2 : Int) (x3 : Int), as = [.inr (.inr (3, 0, k0)), .inr (.inr (100, n1, k1)), .inl x2, .inl x3] := by
  unfold SX3_sharedWith at h
  split at h
  · exact ⟨_, _, _, _, _, rfl⟩
  · exact h.elim
set_option maxRecDepth 10000 in
set_option maxHeartbeats 4000000 in
theorem vX3_sharedWith {X : Nat → zB} {Ret : zR} (h0 : ∀ L st σ, tX3_sharedWith_0 X Ret L st σ → X 0 L st σ) (h3 : ∀ L st σ, tX3_sharedWith_3 X Ret L st σ → X 3 L st σ) (h39 : ∀ L st σ, tX3_sharedWith_39 X Ret L st σ → X 39 L st σ) (h58 : ∀ L st σ, tX3_sharedWith_58 X Ret L st σ → X 58 L st σ) (k0 : Nat) (n1 k1 : Nat) (x2 : Int) (x3 : Int) (σ : zM) (hk0 : z_kd k0 = (3, 0)) (hk1 : z_kd k1 = (100, n1)) (hx2 : -2147483648 ≤ x2 ∧ x2 ≤ 2147483647) (hx3 : -2147483648 ≤ x3 ∧ x3 ≤ 2147483647) (hσ : z_okm σ) (h : SX3_sharedWith [.inr (.inr (3, 0, k0)), .inr (.inr (100, n1, k1)), .inl x2, .inl x3] σ Ret) : X 0 [some (.inr (.inr (3, 0, k0))), some (.inr (.inr (100, n1, k1))), some (.inl x2), some (.inl x3), none, none, none, none] [] σ := by
  obtain ⟨⟨⟨s0, s1, s2⟩, ⟨d0, d3⟩, c0, c1⟩, h⟩ := h
  obtain ⟨m, rfl⟩ := z_nat s0
  obtain ⟨cnt, hcnt⟩ := z_nat c0
  rw [hcnt] at h
  simp only [Int.toNat_natCast] at h
  generalize hcc : q_s (σ k1) (σ (k0 + 1)) x3 = cc at h
  have hb := q_lc_in (s := cc)
  have L39 : ∀ (d i : Nat) (τ : zM) (u5 u6 u7 : Option zV), i + d = m → (∀ c j, c ≠ k0 + 3 → τ c j = σ c j) → (∀ a, a ≤ cnt → τ (k0 + 3) a = q_lc cc i a) → X 39 [some (.inr (.inr (3, 0, k0))), some (.inr (.inr (100, n1, k1))), some (.inl (m : Int)), some (.inl x3), some (.inl (i : Int)), u5, u6, u7] [] τ := by
    intro d
    induction d with
    | zero =>
      intro i τ u5 u6 u7 hi f1 f2
      refine h39 _ _ _ ?_
      simp only [z_push, z_lpush, z_iload, z_lload, z_aload, z_istore, z_istoreP, z_lstore, z_astore, z_iinc, z_iincP, z_iadd, z_isub, z_imul, z_iaddW, z_isubW, z_imulW, z_idiv, z_irem, z_iand, z_ior, z_ixor, z_ishl, z_ishr, z_iushr, z_ineg, z_i2l, z_i2b, z_i2s, z_i2c, z_l2i, z_ladd, z_lsub, z_land, z_lor, z_lshl, z_lshr, z_lcmp, z_dup, z_pop, z_dup2, z_goto, z_tsw, z_cases, z_geti, z_getr, z_puti, z_putz, z_ald, z_iast, z_bast, z_zast, z_alen, z_acopy, z_mmax, z_mmin, z_mabs, z_mabsL, z_iret, z_zret, z_nret, z_lret, z_aret, z_vret, z_cat, z_ldcs, z_strv, z_strc, z_gcs, z_gfm, z_sln, z_sald, z_ifeq, z_ifne, z_iflt, z_ifge, z_ifgt, z_ifle, z_iceq, z_icne, z_iclt, z_icge, z_icgt, z_icle, z_cs0, z_cs1, z_cs2, z_cs3, z_cs4, z_cs5, z_cs6, z_cs7, z_cv0, z_cv1, z_cv2, z_cv3, z_cv4, z_cv5, z_cv6, z_cv7, z_g0, z_s0, z_g1, z_s1, z_g2, z_s2, z_g3, z_s3, z_g4, z_s4, z_g5, z_s5, z_g6, z_s6, z_g7, z_s7, z_g8, z_s8, z_g9, z_s9, z_g10, z_s10, z_g11, z_s11, z_g12, z_s12, z_g13, z_s13, z_b0, z_b1, z_b0n, z_b1n, z_up_far1, z_up_far2, z_up_far3, z_up_far4, z_up_far5, z_up_far6, Classical.not_not, not_true_eq_false, z_in, z_inL, Int.cast_ofNat_Int, Nat.reduceLeDiff, List.length_cons, List.length_nil, Nat.reduceAdd, Nat.zero_add, Nat.le_refl, true_and, and_true, List.length, Nat.reduceLT, true_or, or_true, false_or, or_false, false_and, and_false, not_true_eq_false, not_false_eq_true, forall_const, false_implies, true_implies, Int.reduceEq, Int.reduceLT, Int.reduceLE, Int.reduceAdd, Int.reduceSub, Int.reduceMul, Int.reduceNeg, Int.reduceToNat, Int.toNat_natCast, ↓reduceIte, reduceIte, Nat.reduceEqDiff, Nat.reduceSub, Nat.reduceMul, ne_eq, Int.zero_add, Int.add_zero, Int.sub_zero, Nat.add_zero, Int.ofNat_eq_natCast, tX3_sharedWith_39, f1 k0 3 (by omega), hcnt, f2 cnt (by omega)]
      have e : i = m := by omega
      subst e
      repeat' (first | (intro _) | (with_reducible assumption) | (refine And.intro ?_ ?_))
      all_goals first | omega | assumption | (refine z_fin h ?_ rfl; first | rfl | omega | (split <;> omega) | (split <;> split <;> omega)) | skip
      exact h τ f1
    | succ d ih =>
      intro i τ u5 u6 u7 hi f1 f2
      have L58 : ∀ (d2 j : Nat) (τ : zM) (u7 : Option zV), j + d2 = cnt → (∀ c j, c ≠ k0 + 3 → τ c j = σ c j) → (∀ a, a ≤ j → τ (k0 + 3) a = q_lc cc (i + 1) a) → (∀ a, j < a → a ≤ cnt → τ (k0 + 3) a = q_lc cc i a) → X 58 [some (.inr (.inr (3, 0, k0))), some (.inr (.inr (100, n1, k1))), some (.inl (m : Int)), some (.inl x3), some (.inl (i : Int)), some (.inl (q_lc cc i j)), some (.inl (j : Int)), u7] [] τ := by
        intro d2
        induction d2 with
        | zero =>
          intro j τ u7 hj f1 f2 f3
          refine h58 _ _ _ ?_
          simp only [z_push, z_lpush, z_iload, z_lload, z_aload, z_istore, z_istoreP, z_lstore, z_astore, z_iinc, z_iincP, z_iadd, z_isub, z_imul, z_iaddW, z_isubW, z_imulW, z_idiv, z_irem, z_iand, z_ior, z_ixor, z_ishl, z_ishr, z_iushr, z_ineg, z_i2l, z_i2b, z_i2s, z_i2c, z_l2i, z_ladd, z_lsub, z_land, z_lor, z_lshl, z_lshr, z_lcmp, z_dup, z_pop, z_dup2, z_goto, z_tsw, z_cases, z_geti, z_getr, z_puti, z_putz, z_ald, z_iast, z_bast, z_zast, z_alen, z_acopy, z_mmax, z_mmin, z_mabs, z_mabsL, z_iret, z_zret, z_nret, z_lret, z_aret, z_vret, z_cat, z_ldcs, z_strv, z_strc, z_gcs, z_gfm, z_sln, z_sald, z_ifeq, z_ifne, z_iflt, z_ifge, z_ifgt, z_ifle, z_iceq, z_icne, z_iclt, z_icge, z_icgt, z_icle, z_cs0, z_cs1, z_cs2, z_cs3, z_cs4, z_cs5, z_cs6, z_cs7, z_cv0, z_cv1, z_cv2, z_cv3, z_cv4, z_cv5, z_cv6, z_cv7, z_g0, z_s0, z_g1, z_s1, z_g2, z_s2, z_g3, z_s3, z_g4, z_s4, z_g5, z_s5, z_g6, z_s6, z_g7, z_s7, z_g8, z_s8, z_g9, z_s9, z_g10, z_s10, z_g11, z_s11, z_g12, z_s12, z_g13, z_s13, z_b0, z_b1, z_b0n, z_b1n, z_up_far1, z_up_far2, z_up_far3, z_up_far4, z_up_far5, z_up_far6, Classical.not_not, not_true_eq_false, z_in, z_inL, Int.cast_ofNat_Int, Nat.reduceLeDiff, List.length_cons, List.length_nil, Nat.reduceAdd, Nat.zero_add, Nat.le_refl, true_and, and_true, List.length, Nat.reduceLT, true_or, or_true, false_or, or_false, false_and, and_false, not_true_eq_false, not_false_eq_true, forall_const, false_implies, true_implies, Int.reduceEq, Int.reduceLT, Int.reduceLE, Int.reduceAdd, Int.reduceSub, Int.reduceMul, Int.reduceNeg, Int.reduceToNat, Int.toNat_natCast, ↓reduceIte, reduceIte, Nat.reduceEqDiff, Nat.reduceSub, Nat.reduceMul, ne_eq, Int.zero_add, Int.add_zero, Int.sub_zero, Nat.add_zero, Int.ofNat_eq_natCast, tX3_sharedWith_58, f1 k0 3 (by omega), hcnt]
          repeat' (first | (intro _) | (with_reducible assumption) | (refine And.intro ?_ ?_))
          all_goals first | omega | assumption | (refine z_fin h ?_ rfl; first | rfl | omega | (split <;> omega) | (split <;> split <;> omega)) | skip
          exact ih (i + 1) τ _ _ _ (by omega) f1 (fun a ha => f2 a (by omega))
        | succ d2 ih2 =>
          intro j τ u7 hj f1 f2 f3
          have g1 : τ (k0 + 3) j = q_lc cc (i + 1) j := f2 j (Nat.le_refl _)
          have g2 : τ (k0 + 3) (j + 1) = q_lc cc i (j + 1) := f3 (j + 1) (by omega) (by omega)
          have e1 := fun u7 => ih2 (j + 1) (z_up τ (k0 + 3) (j + 1) (q_lc cc (i + 1) (j + 1))) u7 (by omega) (fun c a hc => by rw [z_up_ne (Or.inl hc)]; exact f1 c a hc)
            (fun a ha => by
              by_cases q : a = j + 1
              · rw [q, z_up_eq]
              · rw [z_up_ne (Or.inr q)]; exact f2 a (by omega))
            (fun a ha hm => by rw [z_up_ne (Or.inr (by omega))]; exact f3 a (by omega) hm)
          have ce : (cc i j = true) = (σ k1 i - σ (k0 + 1) j ≤ x3 ∧ σ (k0 + 1) j - σ k1 i ≤ x3) := by rw [← hcc, q_s, decide_eq_true_eq]
          have b1 := hb i j
          have b2 := hb (i + 1) j
          have b3 := hb i (j + 1)
          have t1 : ((j : Int) + 1).toNat = j + 1 := by omega
          refine h58 _ _ _ ?_
          simp only [z_push, z_lpush, z_iload, z_lload, z_aload, z_istore, z_istoreP, z_lstore, z_astore, z_iinc, z_iincP, z_iadd, z_isub, z_imul, z_iaddW, z_isubW, z_imulW, z_idiv, z_irem, z_iand, z_ior, z_ixor, z_ishl, z_ishr, z_iushr, z_ineg, z_i2l, z_i2b, z_i2s, z_i2c, z_l2i, z_ladd, z_lsub, z_land, z_lor, z_lshl, z_lshr, z_lcmp, z_dup, z_pop, z_dup2, z_goto, z_tsw, z_cases, z_geti, z_getr, z_puti, z_putz, z_ald, z_iast, z_bast, z_zast, z_alen, z_acopy, z_mmax, z_mmin, z_mabs, z_mabsL, z_iret, z_zret, z_nret, z_lret, z_aret, z_vret, z_cat, z_ldcs, z_strv, z_strc, z_gcs, z_gfm, z_sln, z_sald, z_ifeq, z_ifne, z_iflt, z_ifge, z_ifgt, z_ifle, z_iceq, z_icne, z_iclt, z_icge, z_icgt, z_icle, z_cs0, z_cs1, z_cs2, z_cs3, z_cs4, z_cs5, z_cs6, z_cs7, z_cv0, z_cv1, z_cv2, z_cv3, z_cv4, z_cv5, z_cv6, z_cv7, z_g0, z_s0, z_g1, z_s1, z_g2, z_s2, z_g3, z_s3, z_g4, z_s4, z_g5, z_s5, z_g6, z_s6, z_g7, z_s7, z_g8, z_s8, z_g9, z_s9, z_g10, z_s10, z_g11, z_s11, z_g12, z_s12, z_g13, z_s13, z_b0, z_b1, z_b0n, z_b1n, z_up_far1, z_up_far2, z_up_far3, z_up_far4, z_up_far5, z_up_far6, Classical.not_not, not_true_eq_false, z_in, z_inL, Int.cast_ofNat_Int, Nat.reduceLeDiff, List.length_cons, List.length_nil, Nat.reduceAdd, Nat.zero_add, Nat.le_refl, true_and, and_true, List.length, Nat.reduceLT, true_or, or_true, false_or, or_false, false_and, and_false, not_true_eq_false, not_false_eq_true, forall_const, false_implies, true_implies, Int.reduceEq, Int.reduceLT, Int.reduceLE, Int.reduceAdd, Int.reduceSub, Int.reduceMul, Int.reduceNeg, Int.reduceToNat, Int.toNat_natCast, ↓reduceIte, reduceIte, Nat.reduceEqDiff, Nat.reduceSub, Nat.reduceMul, ne_eq, Int.zero_add, Int.add_zero, Int.sub_zero, Nat.add_zero, Int.ofNat_eq_natCast, tX3_sharedWith_58, SX3_areSame, f1 k0 3 (by omega), hcnt, f1 (k0 + 1) j (by omega), f1 k1 i d3, g1, g2, t1]
          repeat' (first | (intro _) | (with_reducible assumption) | (refine And.intro ?_ ?_))
          all_goals first | omega | assumption | (refine z_fin h ?_ rfl; first | rfl | omega | (split <;> omega) | (split <;> split <;> omega)) | skip
          · have e2 := e1 (some (.inl 0))
            rw [q_lc_S, if_neg (by rw [ce]; assumption)] at e2
            exact e2
          · have e2 := e1 (some (.inl (q_lc cc i j + 1)))
            rw [q_lc_S, if_pos (by rw [ce]; assumption)] at e2
            exact e2
      refine h39 _ _ _ ?_
      simp only [z_push, z_lpush, z_iload, z_lload, z_aload, z_istore, z_istoreP, z_lstore, z_astore, z_iinc, z_iincP, z_iadd, z_isub, z_imul, z_iaddW, z_isubW, z_imulW, z_idiv, z_irem, z_iand, z_ior, z_ixor, z_ishl, z_ishr, z_iushr, z_ineg, z_i2l, z_i2b, z_i2s, z_i2c, z_l2i, z_ladd, z_lsub, z_land, z_lor, z_lshl, z_lshr, z_lcmp, z_dup, z_pop, z_dup2, z_goto, z_tsw, z_cases, z_geti, z_getr, z_puti, z_putz, z_ald, z_iast, z_bast, z_zast, z_alen, z_acopy, z_mmax, z_mmin, z_mabs, z_mabsL, z_iret, z_zret, z_nret, z_lret, z_aret, z_vret, z_cat, z_ldcs, z_strv, z_strc, z_gcs, z_gfm, z_sln, z_sald, z_ifeq, z_ifne, z_iflt, z_ifge, z_ifgt, z_ifle, z_iceq, z_icne, z_iclt, z_icge, z_icgt, z_icle, z_cs0, z_cs1, z_cs2, z_cs3, z_cs4, z_cs5, z_cs6, z_cs7, z_cv0, z_cv1, z_cv2, z_cv3, z_cv4, z_cv5, z_cv6, z_cv7, z_g0, z_s0, z_g1, z_s1, z_g2, z_s2, z_g3, z_s3, z_g4, z_s4, z_g5, z_s5, z_g6, z_s6, z_g7, z_s7, z_g8, z_s8, z_g9, z_s9, z_g10, z_s10, z_g11, z_s11, z_g12, z_s12, z_g13, z_s13, z_b0, z_b1, z_b0n, z_b1n, z_up_far1, z_up_far2, z_up_far3, z_up_far4, z_up_far5, z_up_far6, Classical.not_not, not_true_eq_false, z_in, z_inL, Int.cast_ofNat_Int, Nat.reduceLeDiff, List.length_cons, List.length_nil, Nat.reduceAdd, Nat.zero_add, Nat.le_refl, true_and, and_true, List.length, Nat.reduceLT, true_or, or_true, false_or, or_false, false_and, and_false, not_true_eq_false, not_false_eq_true, forall_const, false_implies, true_implies, Int.reduceEq, Int.reduceLT, Int.reduceLE, Int.reduceAdd, Int.reduceSub, Int.reduceMul, Int.reduceNeg, Int.reduceToNat, Int.toNat_natCast, ↓reduceIte, reduceIte, Nat.reduceEqDiff, Nat.reduceSub, Nat.reduceMul, ne_eq, Int.zero_add, Int.add_zero, Int.sub_zero, Nat.add_zero, Int.ofNat_eq_natCast, tX3_sharedWith_39]
      repeat' (first | (intro _) | (with_reducible assumption) | (refine And.intro ?_ ?_))
      all_goals first | omega | assumption | (refine z_fin h ?_ rfl; first | rfl | omega | (split <;> omega) | (split <;> split <;> omega)) | skip
      have e3 := L58 cnt 0 τ u7 (by omega) f1 (fun a ha => by
        have e : a = 0 := by omega
        subst e
        rw [f2 0 (Nat.zero_le _), q_lc_i0, q_lc_i0]) (fun a ha hm => f2 a hm)
      rw [q_lc_i0] at e3
      exact e3
  have L3 : ∀ (d j : Nat) (τ : zM), j + d = cnt + 1 → (∀ c j, c ≠ k0 + 3 → τ c j = σ c j) → (∀ a, a < j → τ (k0 + 3) a = 0) → X 3 [some (.inr (.inr (3, 0, k0))), some (.inr (.inr (100, n1, k1))), some (.inl (m : Int)), some (.inl x3), some (.inl (j : Int)), none, none, none] [] τ := by
    intro d
    induction d with
    | zero =>
      intro j τ hj f1 f2
      refine h3 _ _ _ ?_
      simp only [z_push, z_lpush, z_iload, z_lload, z_aload, z_istore, z_istoreP, z_lstore, z_astore, z_iinc, z_iincP, z_iadd, z_isub, z_imul, z_iaddW, z_isubW, z_imulW, z_idiv, z_irem, z_iand, z_ior, z_ixor, z_ishl, z_ishr, z_iushr, z_ineg, z_i2l, z_i2b, z_i2s, z_i2c, z_l2i, z_ladd, z_lsub, z_land, z_lor, z_lshl, z_lshr, z_lcmp, z_dup, z_pop, z_dup2, z_goto, z_tsw, z_cases, z_geti, z_getr, z_puti, z_putz, z_ald, z_iast, z_bast, z_zast, z_alen, z_acopy, z_mmax, z_mmin, z_mabs, z_mabsL, z_iret, z_zret, z_nret, z_lret, z_aret, z_vret, z_cat, z_ldcs, z_strv, z_strc, z_gcs, z_gfm, z_sln, z_sald, z_ifeq, z_ifne, z_iflt, z_ifge, z_ifgt, z_ifle, z_iceq, z_icne, z_iclt, z_icge, z_icgt, z_icle, z_cs0, z_cs1, z_cs2, z_cs3, z_cs4, z_cs5, z_cs6, z_cs7, z_cv0, z_cv1, z_cv2, z_cv3, z_cv4, z_cv5, z_cv6, z_cv7, z_g0, z_s0, z_g1, z_s1, z_g2, z_s2, z_g3, z_s3, z_g4, z_s4, z_g5, z_s5, z_g6, z_s6, z_g7, z_s7, z_g8, z_s8, z_g9, z_s9, z_g10, z_s10, z_g11, z_s11, z_g12, z_s12, z_g13, z_s13, z_b0, z_b1, z_b0n, z_b1n, z_up_far1, z_up_far2, z_up_far3, z_up_far4, z_up_far5, z_up_far6, Classical.not_not, not_true_eq_false, z_in, z_inL, Int.cast_ofNat_Int, Nat.reduceLeDiff, List.length_cons, List.length_nil, Nat.reduceAdd, Nat.zero_add, Nat.le_refl, true_and, and_true, List.length, Nat.reduceLT, true_or, or_true, false_or, or_false, false_and, and_false, not_true_eq_false, not_false_eq_true, forall_const, false_implies, true_implies, Int.reduceEq, Int.reduceLT, Int.reduceLE, Int.reduceAdd, Int.reduceSub, Int.reduceMul, Int.reduceNeg, Int.reduceToNat, Int.toNat_natCast, ↓reduceIte, reduceIte, Nat.reduceEqDiff, Nat.reduceSub, Nat.reduceMul, ne_eq, Int.zero_add, Int.add_zero, Int.sub_zero, Nat.add_zero, Int.ofNat_eq_natCast, tX3_sharedWith_3, f1 k0 3 (by omega), hcnt]
      repeat' (first | (intro _) | (with_reducible assumption) | (refine And.intro ?_ ?_))
      all_goals first | omega | assumption | (refine z_fin h ?_ rfl; first | rfl | omega | (split <;> omega) | (split <;> split <;> omega)) | skip
      all_goals exact L39 m 0 τ _ _ _ (by omega) f1 (fun a ha => by rw [q_lc_0]; exact f2 a (by omega))
    | succ d ih =>
      intro j τ hj f1 f2
      have e1 := ih (j + 1) (z_up τ (k0 + 3) j 0) (by omega) (fun c a hc => by rw [z_up_ne (Or.inl hc)]; exact f1 c a hc)
            (fun a ha => by
              by_cases q : a = j
              · rw [q, z_up_eq]
              · rw [z_up_ne (Or.inr q)]; exact f2 a (by omega))
      refine h3 _ _ _ ?_
      simp only [z_push, z_lpush, z_iload, z_lload, z_aload, z_istore, z_istoreP, z_lstore, z_astore, z_iinc, z_iincP, z_iadd, z_isub, z_imul, z_iaddW, z_isubW, z_imulW, z_idiv, z_irem, z_iand, z_ior, z_ixor, z_ishl, z_ishr, z_iushr, z_ineg, z_i2l, z_i2b, z_i2s, z_i2c, z_l2i, z_ladd, z_lsub, z_land, z_lor, z_lshl, z_lshr, z_lcmp, z_dup, z_pop, z_dup2, z_goto, z_tsw, z_cases, z_geti, z_getr, z_puti, z_putz, z_ald, z_iast, z_bast, z_zast, z_alen, z_acopy, z_mmax, z_mmin, z_mabs, z_mabsL, z_iret, z_zret, z_nret, z_lret, z_aret, z_vret, z_cat, z_ldcs, z_strv, z_strc, z_gcs, z_gfm, z_sln, z_sald, z_ifeq, z_ifne, z_iflt, z_ifge, z_ifgt, z_ifle, z_iceq, z_icne, z_iclt, z_icge, z_icgt, z_icle, z_cs0, z_cs1, z_cs2, z_cs3, z_cs4, z_cs5, z_cs6, z_cs7, z_cv0, z_cv1, z_cv2, z_cv3, z_cv4, z_cv5, z_cv6, z_cv7, z_g0, z_s0, z_g1, z_s1, z_g2, z_s2, z_g3, z_s3, z_g4, z_s4, z_g5, z_s5, z_g6, z_s6, z_g7, z_s7, z_g8, z_s8, z_g9, z_s9, z_g10, z_s10, z_g11, z_s11, z_g12, z_s12, z_g13, z_s13, z_b0, z_b1, z_b0n, z_b1n, z_up_far1, z_up_far2, z_up_far3, z_up_far4, z_up_far5, z_up_far6, Classical.not_not, not_true_eq_false, z_in, z_inL, Int.cast_ofNat_Int, Nat.reduceLeDiff, List.length_cons, List.length_nil, Nat.reduceAdd, Nat.zero_add, Nat.le_refl, true_and, and_true, List.length, Nat.reduceLT, true_or, or_true, false_or, or_false, false_and, and_false, not_true_eq_false, not_false_eq_true, forall_const, false_implies, true_implies, Int.reduceEq, Int.reduceLT, Int.reduceLE, Int.reduceAdd, Int.reduceSub, Int.reduceMul, Int.reduceNeg, Int.reduceToNat, Int.toNat_natCast, ↓reduceIte, reduceIte, Nat.reduceEqDiff, Nat.reduceSub, Nat.reduceMul, ne_eq, Int.zero_add, Int.add_zero, Int.sub_zero, Nat.add_zero, Int.ofNat_eq_natCast, tX3_sharedWith_3, f1 k0 3 (by omega), hcnt]
      repeat' (first | (intro _) | (with_reducible assumption) | (refine And.intro ?_ ?_))
      all_goals first | omega | assumption | (refine z_fin h ?_ rfl; first | rfl | omega | (split <;> omega) | (split <;> split <;> omega)) | skip
  have l0 := L3 (cnt + 1) 0 σ (by omega) (fun _ _ _ => rfl) (fun a ha => absurd ha (Nat.not_lt_zero _))
  refine h0 _ _ _ ?_
  simp only [z_push, z_lpush, z_iload, z_lload, z_aload, z_istore, z_istoreP, z_lstore, z_astore, z_iinc, z_iincP, z_iadd, z_isub, z_imul, z_iaddW, z_isubW, z_imulW, z_idiv, z_irem, z_iand, z_ior, z_ixor, z_ishl, z_ishr, z_iushr, z_ineg, z_i2l, z_i2b, z_i2s, z_i2c, z_l2i, z_ladd, z_lsub, z_land, z_lor, z_lshl, z_lshr, z_lcmp, z_dup, z_pop, z_dup2, z_goto, z_tsw, z_cases, z_geti, z_getr, z_puti, z_putz, z_ald, z_iast, z_bast, z_zast, z_alen, z_acopy, z_mmax, z_mmin, z_mabs, z_mabsL, z_iret, z_zret, z_nret, z_lret, z_aret, z_vret, z_cat, z_ldcs, z_strv, z_strc, z_gcs, z_gfm, z_sln, z_sald, z_ifeq, z_ifne, z_iflt, z_ifge, z_ifgt, z_ifle, z_iceq, z_icne, z_iclt, z_icge, z_icgt, z_icle, z_cs0, z_cs1, z_cs2, z_cs3, z_cs4, z_cs5, z_cs6, z_cs7, z_cv0, z_cv1, z_cv2, z_cv3, z_cv4, z_cv5, z_cv6, z_cv7, z_g0, z_s0, z_g1, z_s1, z_g2, z_s2, z_g3, z_s3, z_g4, z_s4, z_g5, z_s5, z_g6, z_s6, z_g7, z_s7, z_g8, z_s8, z_g9, z_s9, z_g10, z_s10, z_g11, z_s11, z_g12, z_s12, z_g13, z_s13, z_b0, z_b1, z_b0n, z_b1n, z_up_far1, z_up_far2, z_up_far3, z_up_far4, z_up_far5, z_up_far6, Classical.not_not, not_true_eq_false, z_in, z_inL, Int.cast_ofNat_Int, Nat.reduceLeDiff, List.length_cons, List.length_nil, Nat.reduceAdd, Nat.zero_add, Nat.le_refl, true_and, and_true, List.length, Nat.reduceLT, true_or, or_true, false_or, or_false, false_and, and_false, not_true_eq_false, not_false_eq_true, forall_const, false_implies, true_implies, Int.reduceEq, Int.reduceLT, Int.reduceLE, Int.reduceAdd, Int.reduceSub, Int.reduceMul, Int.reduceNeg, Int.reduceToNat, Int.toNat_natCast, ↓reduceIte, reduceIte, Nat.reduceEqDiff, Nat.reduceSub, Nat.reduceMul, ne_eq, Int.zero_add, Int.add_zero, Int.sub_zero, Nat.add_zero, Int.ofNat_eq_natCast, tX3_sharedWith_0]
  repeat' (first | (intro _) | (with_reducible assumption) | (refine And.intro ?_ ?_))
  all_goals first | omega | assumption | (refine z_fin h ?_ rfl; first | rfl | omega | (split <;> omega) | (split <;> split <;> omega)) | skip
theorem dX3_sharedWith_0 : decode cX3_sharedWith 0 = .ok (.iconst 0, 1) := by decide +kernel
theorem dX3_sharedWith_1 : decode cX3_sharedWith 1 = .ok (.istore 4, 2) := by decide +kernel
theorem dX3_sharedWith_3 : decode cX3_sharedWith 3 = .ok (.iload 4, 2) := by decide +kernel
theorem dX3_sharedWith_5 : decode cX3_sharedWith 5 = .ok (.aload_n 0, 1) := by decide +kernel
theorem dX3_sharedWith_6 : decode cX3_sharedWith 6 = .ok (.getfield 21, 3) := by decide +kernel
theorem dX3_sharedWith_9 : decode cX3_sharedWith 9 = .ok (.if_icmp .gt 27, 3) := by decide +kernel
theorem dX3_sharedWith_12 : decode cX3_sharedWith 12 = .ok (.iload 4, 2) := by decide +kernel
theorem dX3_sharedWith_14 : decode cX3_sharedWith 14 = .ok (.aload_n 0, 1) := by decide +kernel
theorem dX3_sharedWith_15 : decode cX3_sharedWith 15 = .ok (.getfield 18, 3) := by decide +kernel
theorem dX3_sharedWith_18 : decode cX3_sharedWith 18 = .ok (.arraylength, 1) := by decide +kernel
theorem dX3_sharedWith_19 : decode cX3_sharedWith 19 = .ok (.if_icmp .ge 17, 3) := by decide +kernel
theorem dX3_sharedWith_22 : decode cX3_sharedWith 22 = .ok (.aload_n 0, 1) := by decide +kernel
theorem dX3_sharedWith_23 : decode cX3_sharedWith 23 = .ok (.getfield 18, 3) := by decide +kernel
theorem dX3_sharedWith_26 : decode cX3_sharedWith 26 = .ok (.iload 4, 2) := by decide +kernel
theorem dX3_sharedWith_28 : decode cX3_sharedWith 28 = .ok (.iconst 0, 1) := by decide +kernel
theorem dX3_sharedWith_29 : decode cX3_sharedWith 29 = .ok (.iastore, 1) := by decide +kernel
theorem dX3_sharedWith_30 : decode cX3_sharedWith 30 = .ok (.iinc 4 1, 3) := by decide +kernel
theorem dX3_sharedWith_33 : decode cX3_sharedWith 33 = .ok (.goto (-30), 3) := by decide +kernel
theorem dX3_sharedWith_36 : decode cX3_sharedWith 36 = .ok (.iconst 0, 1) := by decide +kernel
theorem dX3_sharedWith_37 : decode cX3_sharedWith 37 = .ok (.istore 4, 2) := by decide +kernel
theorem dX3_sharedWith_39 : decode cX3_sharedWith 39 = .ok (.iload 4, 2) := by decide +kernel
theorem dX3_sharedWith_41 : decode cX3_sharedWith 41 = .ok (.iload_n 2, 1) := by decide +kernel
theorem dX3_sharedWith_42 : decode cX3_sharedWith 42 = .ok (.if_icmp .ge 109, 3) := by decide +kernel
theorem dX3_sharedWith_45 : decode cX3_sharedWith 45 = .ok (.iload 4, 2) := by decide +kernel
theorem dX3_sharedWith_47 : decode cX3_sharedWith 47 = .ok (.aload_n 1, 1) := by decide +kernel
theorem dX3_sharedWith_48 : decode cX3_sharedWith 48 = .ok (.arraylength, 1) := by decide +kernel
theorem dX3_sharedWith_49 : decode cX3_sharedWith 49 = .ok (.if_icmp .ge 102, 3) := by decide +kernel
theorem dX3_sharedWith_52 : decode cX3_sharedWith 52 = .ok (.iconst 0, 1) := by decide +kernel
theorem dX3_sharedWith_53 : decode cX3_sharedWith 53 = .ok (.istore 5, 2) := by decide +kernel
theorem dX3_sharedWith_55 : decode cX3_sharedWith 55 = .ok (.iconst 0, 1) := by decide +kernel
theorem dX3_sharedWith_56 : decode cX3_sharedWith 56 = .ok (.istore 6, 2) := by decide +kernel
theorem dX3_sharedWith_58 : decode cX3_sharedWith 58 = .ok (.iload 6, 2) := by decide +kernel
theorem dX3_sharedWith_60 : decode cX3_sharedWith 60 = .ok (.aload_n 0, 1) := by decide +kernel
theorem dX3_sharedWith_61 : decode cX3_sharedWith 61 = .ok (.getfield 21, 3) := by decide +kernel
theorem dX3_sharedWith_64 : decode cX3_sharedWith 64 = .ok (.if_icmp .ge 81, 3) := by decide +kernel
theorem dX3_sharedWith_67 : decode cX3_sharedWith 67 = .ok (.aload_n 1, 1) := by decide +kernel
theorem dX3_sharedWith_68 : decode cX3_sharedWith 68 = .ok (.iload 4, 2) := by decide +kernel
theorem dX3_sharedWith_70 : decode cX3_sharedWith 70 = .ok (.iaload, 1) := by decide +kernel
theorem dX3_sharedWith_71 : decode cX3_sharedWith 71 = .ok (.aload_n 0, 1) := by decide +kernel
theorem dX3_sharedWith_72 : decode cX3_sharedWith 72 = .ok (.getfield 9, 3) := by decide +kernel
theorem dX3_sharedWith_75 : decode cX3_sharedWith 75 = .ok (.iload 6, 2) := by decide +kernel
theorem dX3_sharedWith_77 : decode cX3_sharedWith 77 = .ok (.iaload, 1) := by decide +kernel
theorem dX3_sharedWith_78 : decode cX3_sharedWith 78 = .ok (.iload_n 3, 1) := by decide +kernel
theorem dX3_sharedWith_79 : decode cX3_sharedWith 79 = .ok (.invokestatic 47, 3) := by decide +kernel
theorem dX3_sharedWith_82 : decode cX3_sharedWith 82 = .ok (.ifCond .eq 10, 3) := by decide +kernel
theorem dX3_sharedWith_85 : decode cX3_sharedWith 85 = .ok (.iload 5, 2) := by decide +kernel
theorem dX3_sharedWith_87 : decode cX3_sharedWith 87 = .ok (.iconst 1, 1) := by decide +kernel
theorem dX3_sharedWith_88 : decode cX3_sharedWith 88 = .ok (.iadd, 1) := by decide +kernel
theorem dX3_sharedWith_89 : decode cX3_sharedWith 89 = .ok (.goto 4, 3) := by decide +kernel
theorem dX3_sharedWith_92 : decode cX3_sharedWith 92 = .ok (.iconst 0, 1) := by decide +kernel
theorem dX3_sharedWith_93 : decode cX3_sharedWith 93 = .ok (.istore 7, 2) := by decide +kernel
theorem dX3_sharedWith_95 : decode cX3_sharedWith 95 = .ok (.aload_n 0, 1) := by decide +kernel
theorem dX3_sharedWith_96 : decode cX3_sharedWith 96 = .ok (.getfield 18, 3) := by decide +kernel
theorem dX3_sharedWith_99 : decode cX3_sharedWith 99 = .ok (.iload 6, 2) := by decide +kernel
theorem dX3_sharedWith_101 : decode cX3_sharedWith 101 = .ok (.iconst 1, 1) := by decide +kernel
theorem dX3_sharedWith_102 : decode cX3_sharedWith 102 = .ok (.iadd, 1) := by decide +kernel
theorem dX3_sharedWith_103 : decode cX3_sharedWith 103 = .ok (.iaload, 1) := by decide +kernel
theorem dX3_sharedWith_104 : decode cX3_sharedWith 104 = .ok (.istore 5, 2) := by decide +kernel
theorem dX3_sharedWith_106 : decode cX3_sharedWith 106 = .ok (.aload_n 0, 1) := by decide +kernel
theorem dX3_sharedWith_107 : decode cX3_sharedWith 107 = .ok (.getfield 18, 3) := by decide +kernel
theorem dX3_sharedWith_110 : decode cX3_sharedWith 110 = .ok (.iload 6, 2) := by decide +kernel
theorem dX3_sharedWith_112 : decode cX3_sharedWith 112 = .ok (.iconst 1, 1) := by decide +kernel
theorem dX3_sharedWith_113 : decode cX3_sharedWith 113 = .ok (.iadd, 1) := by decide +kernel
theorem dX3_sharedWith_114 : decode cX3_sharedWith 114 = .ok (.iload 7, 2) := by decide +kernel
theorem dX3_sharedWith_116 : decode cX3_sharedWith 116 = .ok (.aload_n 0, 1) := by decide +kernel
theorem dX3_sharedWith_117 : decode cX3_sharedWith 117 = .ok (.getfield 18, 3) := by decide +kernel
theorem dX3_sharedWith_120 : decode cX3_sharedWith 120 = .ok (.iload 6, 2) := by decide +kernel
theorem dX3_sharedWith_122 : decode cX3_sharedWith 122 = .ok (.iaload, 1) := by decide +kernel
theorem dX3_sharedWith_123 : decode cX3_sharedWith 123 = .ok (.aload_n 0, 1) := by decide +kernel
theorem dX3_sharedWith_124 : decode cX3_sharedWith 124 = .ok (.getfield 18, 3) := by decide +kernel
theorem dX3_sharedWith_127 : decode cX3_sharedWith 127 = .ok (.iload 6, 2) := by decide +kernel
theorem dX3_sharedWith_129 : decode cX3_sharedWith 129 = .ok (.iconst 1, 1) := by decide +kernel
theorem dX3_sharedWith_130 : decode cX3_sharedWith 130 = .ok (.iadd, 1) := by decide +kernel
theorem dX3_sharedWith_131 : decode cX3_sharedWith 131 = .ok (.iaload, 1) := by decide +kernel
theorem dX3_sharedWith_132 : decode cX3_sharedWith 132 = .ok (.invokestatic 55, 3) := by decide +kernel
theorem dX3_sharedWith_135 : decode cX3_sharedWith 135 = .ok (.invokestatic 55, 3) := by decide +kernel
theorem dX3_sharedWith_138 : decode cX3_sharedWith 138 = .ok (.iastore, 1) := by decide +kernel
theorem dX3_sharedWith_139 : decode cX3_sharedWith 139 = .ok (.iinc 6 1, 3) := by decide +kernel
theorem dX3_sharedWith_142 : decode cX3_sharedWith 142 = .ok (.goto (-84), 3) := by decide +kernel
theorem dX3_sharedWith_145 : decode cX3_sharedWith 145 = .ok (.iinc 4 1, 3) := by decide +kernel
theorem dX3_sharedWith_148 : decode cX3_sharedWith 148 = .ok (.goto (-109), 3) := by decide +kernel
theorem dX3_sharedWith_151 : decode cX3_sharedWith 151 = .ok (.aload_n 0, 1) := by decide +kernel
theorem dX3_sharedWith_152 : decode cX3_sharedWith 152 = .ok (.getfield 18, 3) := by decide +kernel
theorem dX3_sharedWith_155 : decode cX3_sharedWith 155 = .ok (.aload_n 0, 1) := by decide +kernel
theorem dX3_sharedWith_156 : decode cX3_sharedWith 156 = .ok (.getfield 21, 3) := by decide +kernel
theorem dX3_sharedWith_159 : decode cX3_sharedWith 159 = .ok (.iaload, 1) := by decide +kernel
theorem dX3_sharedWith_160 : decode cX3_sharedWith 160 = .ok (.ireturn, 1) := by decide +kernel
set_option maxRecDepth 100000 in
theorem rX3_sharedWith_0 {p : Program} {l : Launch} {e : Env} {s : State} {m : MethodId} {args : Array Value} {below : List Frame} {meth : Method} {c : Code} {D : va_G} {cA : Nat → ClassId} {ad : Nat → Nat} {Ret : zR} (C : z_Cx p { frames := 2, cells := 0, slots := 0, locals := 43 } s m args c cX3_sharedWith yX3_sharedWith.cls 8 D cA ad) (hr : meth.sig.returnType = (some .int)) (hlocks : meth.locks = false) : ∀ L st σ, tX3_sharedWith_0 (z_X p l e { frames := 2, cells := 0, slots := 0, locals := 43 } s m args below meth c (MQ below (z_Qc D cA ad Ret) args s 0 0 (z_A ad)) 8 D cA ad true) Ret L st σ → z_X p l e { frames := 2, cells := 0, slots := 0, locals := 43 } s m args below meth c (MQ below (z_Qc D cA ad Ret) args s 0 0 (z_A ad)) 8 D cA ad true 0 L st σ := (s_iconst C dX3_sharedWith_0 rfl ⟨by decide, by decide⟩ (s_istore C dX3_sharedWith_1 (by decide) rfl (fun _ _ _ h => h)))
set_option maxRecDepth 100000 in
theorem rX3_sharedWith_3 {p : Program} {l : Launch} {e : Env} {s : State} {m : MethodId} {args : Array Value} {below : List Frame} {meth : Method} {c : Code} {D : va_G} {cA : Nat → ClassId} {ad : Nat → Nat} {Ret : zR} (C : z_Cx p { frames := 2, cells := 0, slots := 0, locals := 43 } s m args c cX3_sharedWith yX3_sharedWith.cls 8 D cA ad) (hr : meth.sig.returnType = (some .int)) (hlocks : meth.locks = false) : ∀ L st σ, tX3_sharedWith_3 (z_X p l e { frames := 2, cells := 0, slots := 0, locals := 43 } s m args below meth c (MQ below (z_Qc D cA ad Ret) args s 0 0 (z_A ad)) 8 D cA ad true) Ret L st σ → z_X p l e { frames := 2, cells := 0, slots := 0, locals := 43 } s m args below meth c (MQ below (z_Qc D cA ad Ret) args s 0 0 (z_A ad)) 8 D cA ad true 3 L st σ := (s_iload C dX3_sharedWith_3 (s_aload_n C dX3_sharedWith_5 rfl (s_geti C dX3_sharedWith_6 cls_X3 (by decide) rfl wd_305 (s_icgt C dX3_sharedWith_9 (by decide) (s_iconst C dX3_sharedWith_36 rfl ⟨by decide, by decide⟩ (s_istore C dX3_sharedWith_37 (by decide) rfl (fun _ _ _ h => h))) (s_iload C dX3_sharedWith_12 (s_aload_n C dX3_sharedWith_14 rfl (s_getr C dX3_sharedWith_15 (j := 2) cls_X3 (by decide) rfl (by decide) (by decide) (by decide +kernel) wd_304 (s_alen C dX3_sharedWith_18 (s_icge C dX3_sharedWith_19 (by decide) (s_iconst C dX3_sharedWith_36 rfl ⟨by decide, by decide⟩ (s_istore C dX3_sharedWith_37 (by decide) rfl (fun _ _ _ h => h))) (s_aload_n C dX3_sharedWith_22 rfl (s_getr C dX3_sharedWith_23 (j := 2) cls_X3 (by decide) rfl (by decide) (by decide) (by decide +kernel) wd_304 (s_iload C dX3_sharedWith_26 (s_iconst C dX3_sharedWith_28 rfl ⟨by decide, by decide⟩ (s_iast C dX3_sharedWith_29 (s_iinc C dX3_sharedWith_30 (by decide) rfl (s_goto C dX3_sharedWith_33 (by decide) (fun _ _ _ h => h)))))))))))))))))
set_option maxRecDepth 100000 in
theorem rX3_sharedWith_39 {p : Program} {l : Launch} {e : Env} {s : State} {m : MethodId} {args : Array Value} {below : List Frame} {meth : Method} {c : Code} {D : va_G} {cA : Nat → ClassId} {ad : Nat → Nat} {Ret : zR} (C : z_Cx p { frames := 2, cells := 0, slots := 0, locals := 43 } s m args c cX3_sharedWith yX3_sharedWith.cls 8 D cA ad) (hr : meth.sig.returnType = (some .int)) (hlocks : meth.locks = false) : ∀ L st σ, tX3_sharedWith_39 (z_X p l e { frames := 2, cells := 0, slots := 0, locals := 43 } s m args below meth c (MQ below (z_Qc D cA ad Ret) args s 0 0 (z_A ad)) 8 D cA ad true) Ret L st σ → z_X p l e { frames := 2, cells := 0, slots := 0, locals := 43 } s m args below meth c (MQ below (z_Qc D cA ad Ret) args s 0 0 (z_A ad)) 8 D cA ad true 39 L st σ := (s_iload C dX3_sharedWith_39 (s_iload_n C dX3_sharedWith_41 rfl (s_icge C dX3_sharedWith_42 (by decide) (s_aload_n C dX3_sharedWith_151 rfl (s_getr C dX3_sharedWith_152 (j := 2) cls_X3 (by decide) rfl (by decide) (by decide) (by decide +kernel) wd_304 (s_aload_n C dX3_sharedWith_155 rfl (s_geti C dX3_sharedWith_156 cls_X3 (by decide) rfl wd_305 (s_iald C dX3_sharedWith_159 (s_iret C dX3_sharedWith_160 hr hlocks)))))) (s_iload C dX3_sharedWith_45 (s_aload_n C dX3_sharedWith_47 rfl (s_alen C dX3_sharedWith_48 (s_icge C dX3_sharedWith_49 (by decide) (s_aload_n C dX3_sharedWith_151 rfl (s_getr C dX3_sharedWith_152 (j := 2) cls_X3 (by decide) rfl (by decide) (by decide) (by decide +kernel) wd_304 (s_aload_n C dX3_sharedWith_155 rfl (s_geti C dX3_sharedWith_156 cls_X3 (by decide) rfl wd_305 (s_iald C dX3_sharedWith_159 (s_iret C dX3_sharedWith_160 hr hlocks)))))) (s_iconst C dX3_sharedWith_52 rfl ⟨by decide, by decide⟩ (s_istore C dX3_sharedWith_53 (by decide) rfl (s_iconst C dX3_sharedWith_55 rfl ⟨by decide, by decide⟩ (s_istore C dX3_sharedWith_56 (by decide) rfl (fun _ _ _ h => h))))))))))))
set_option maxRecDepth 100000 in
theorem rX3_sharedWith_58 {p : Program} {l : Launch} {e : Env} {s : State} {m : MethodId} {args : Array Value} {below : List Frame} {meth : Method} {c : Code} {D : va_G} {cA : Nat → ClassId} {ad : Nat → Nat} {Ret : zR} (C : z_Cx p { frames := 2, cells := 0, slots := 0, locals := 43 } s m args c cX3_sharedWith yX3_sharedWith.cls 8 D cA ad) (hr : meth.sig.returnType = (some .int)) (hlocks : meth.locks = false) : ∀ L st σ, tX3_sharedWith_58 (z_X p l e { frames := 2, cells := 0, slots := 0, locals := 43 } s m args below meth c (MQ below (z_Qc D cA ad Ret) args s 0 0 (z_A ad)) 8 D cA ad true) Ret L st σ → z_X p l e { frames := 2, cells := 0, slots := 0, locals := 43 } s m args below meth c (MQ below (z_Qc D cA ad Ret) args s 0 0 (z_A ad)) 8 D cA ad true 58 L st σ := (s_iload C dX3_sharedWith_58 (s_aload_n C dX3_sharedWith_60 rfl (s_geti C dX3_sharedWith_61 cls_X3 (by decide) rfl wd_305 (s_icge C dX3_sharedWith_64 (by decide) (s_iinc C dX3_sharedWith_145 (by decide) rfl (s_goto C dX3_sharedWith_148 (by decide) (fun _ _ _ h => h))) (s_aload_n C dX3_sharedWith_67 rfl (s_iload C dX3_sharedWith_68 (s_iald C dX3_sharedWith_70 (s_aload_n C dX3_sharedWith_71 rfl (s_getr C dX3_sharedWith_72 (j := 0) cls_X3 (by decide) rfl (by decide) (by decide) (by decide +kernel) wd_300 (s_iload C dX3_sharedWith_75 (s_iald C dX3_sharedWith_77 (s_iload_n C dX3_sharedWith_78 rfl (s_cs3 C dX3_sharedWith_79 (okX3_areSame l) wd_759 wd_760 wd_82 wd_761 ⟨by decide, by decide, by decide +kernel⟩ ⟨by decide, by decide⟩ (s_ifeq C dX3_sharedWith_82 (by decide) (s_iconst C dX3_sharedWith_92 rfl ⟨by decide, by decide⟩ (s_istore C dX3_sharedWith_93 (by decide) rfl (s_aload_n C dX3_sharedWith_95 rfl (s_getr C dX3_sharedWith_96 (j := 2) cls_X3 (by decide) rfl (by decide) (by decide) (by decide +kernel) wd_304 (s_iload C dX3_sharedWith_99 (s_iconst C dX3_sharedWith_101 rfl ⟨by decide, by decide⟩ (s_iadd C dX3_sharedWith_102 (s_iald C dX3_sharedWith_103 (s_istore C dX3_sharedWith_104 (by decide) rfl (s_aload_n C dX3_sharedWith_106 rfl (s_getr C dX3_sharedWith_107 (j := 2) cls_X3 (by decide) rfl (by decide) (by decide) (by decide +kernel) wd_304 (s_iload C dX3_sharedWith_110 (s_iconst C dX3_sharedWith_112 rfl ⟨by decide, by decide⟩ (s_iadd C dX3_sharedWith_113 (s_iload C dX3_sharedWith_114 (s_aload_n C dX3_sharedWith_116 rfl (s_getr C dX3_sharedWith_117 (j := 2) cls_X3 (by decide) rfl (by decide) (by decide) (by decide +kernel) wd_304 (s_iload C dX3_sharedWith_120 (s_iald C dX3_sharedWith_122 (s_aload_n C dX3_sharedWith_123 rfl (s_getr C dX3_sharedWith_124 (j := 2) cls_X3 (by decide) rfl (by decide) (by decide) (by decide +kernel) wd_304 (s_iload C dX3_sharedWith_127 (s_iconst C dX3_sharedWith_129 rfl ⟨by decide, by decide⟩ (s_iadd C dX3_sharedWith_130 (s_iald C dX3_sharedWith_131 (s_mmax C dX3_sharedWith_132 wd_828 wd_682 wd_91 wd_683 ⟨by decide, by decide⟩ (s_mmax C dX3_sharedWith_135 wd_828 wd_682 wd_91 wd_683 ⟨by decide, by decide⟩ (s_iast C dX3_sharedWith_138 (s_iinc C dX3_sharedWith_139 (by decide) rfl (s_goto C dX3_sharedWith_142 (by decide) (fun _ _ _ h => h))))))))))))))))))))))))))))))) (s_iload C dX3_sharedWith_85 (s_iconst C dX3_sharedWith_87 rfl ⟨by decide, by decide⟩ (s_iadd C dX3_sharedWith_88 (s_goto C dX3_sharedWith_89 (by decide) (s_istore C dX3_sharedWith_93 (by decide) rfl (s_aload_n C dX3_sharedWith_95 rfl (s_getr C dX3_sharedWith_96 (j := 2) cls_X3 (by decide) rfl (by decide) (by decide) (by decide +kernel) wd_304 (s_iload C dX3_sharedWith_99 (s_iconst C dX3_sharedWith_101 rfl ⟨by decide, by decide⟩ (s_iadd C dX3_sharedWith_102 (s_iald C dX3_sharedWith_103 (s_istore C dX3_sharedWith_104 (by decide) rfl (s_aload_n C dX3_sharedWith_106 rfl (s_getr C dX3_sharedWith_107 (j := 2) cls_X3 (by decide) rfl (by decide) (by decide) (by decide +kernel) wd_304 (s_iload C dX3_sharedWith_110 (s_iconst C dX3_sharedWith_112 rfl ⟨by decide, by decide⟩ (s_iadd C dX3_sharedWith_113 (s_iload C dX3_sharedWith_114 (s_aload_n C dX3_sharedWith_116 rfl (s_getr C dX3_sharedWith_117 (j := 2) cls_X3 (by decide) rfl (by decide) (by decide) (by decide +kernel) wd_304 (s_iload C dX3_sharedWith_120 (s_iald C dX3_sharedWith_122 (s_aload_n C dX3_sharedWith_123 rfl (s_getr C dX3_sharedWith_124 (j := 2) cls_X3 (by decide) rfl (by decide) (by decide) (by decide +kernel) wd_304 (s_iload C dX3_sharedWith_127 (s_iconst C dX3_sharedWith_129 rfl ⟨by decide, by decide⟩ (s_iadd C dX3_sharedWith_130 (s_iald C dX3_sharedWith_131 (s_mmax C dX3_sharedWith_132 wd_828 wd_682 wd_91 wd_683 ⟨by decide, by decide⟩ (s_mmax C dX3_sharedWith_135 wd_828 wd_682 wd_91 wd_683 ⟨by decide, by decide⟩ (s_iast C dX3_sharedWith_138 (s_iinc C dX3_sharedWith_139 (by decide) rfl (s_goto C dX3_sharedWith_142 (by decide) (fun _ _ _ h => h))))))))))))))))))))))))))))))))))))))))))))))))
theorem okX3_sharedWith (l : Launch) : z_OK l yX3_sharedWith cX3_sharedWith 8 (some .int) 2 43 SX3_sharedWith := by
  refine z_ok_of true (by decide +kernel) ?_ ?_
  · intro as σ Ret h
    obtain ⟨k0, n1, k1, x2, x3, rfl⟩ := pX3_sharedWith h
    exact ⟨Nat.le_of_ble_eq_true rfl, by simp⟩
  · intro p e s m args below meth c D cA ad Ret C hr hlocks as σ has hσ h
    obtain ⟨k0, n1, k1, x2, x3, rfl⟩ := pX3_sharedWith h
    exact vX3_sharedWith (rX3_sharedWith_0 C hr hlocks) (rX3_sharedWith_3 C hr hlocks) (rX3_sharedWith_39 C hr hlocks) (rX3_sharedWith_58 C hr hlocks) k0 n1 k1 x2 x3 σ (has _ (List.mem_of_getElem? (i := 0) rfl)) (has _ (List.mem_of_getElem? (i := 1) rfl)) (has _ (List.mem_of_getElem? (i := 2) rfl)) (has _ (List.mem_of_getElem? (i := 3) rfl)) hσ h
