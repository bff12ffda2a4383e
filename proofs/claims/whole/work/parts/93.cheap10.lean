/-! the cheapest cuts, asked of the model -/
theorem q_dg_S (s n : Nat) : s / 4 ^ (n + 1) = s / 4 ^ n / 4 := by rw [Nat.pow_succ, Nat.div_div_eq_div_mul]
def SX10_layCuts : zS := fun as σ Ret => match as with
  | [.inr (.inr (10, 0, _)), .inl row, .inl s] => ∃ a : Nat, (q_Dok (σ 93) ∧ σ 89 28 = (q_chc (σ 93) a : Int) ∧ (∀ i, i < q_chc (σ 93) a → σ 103 i = (q_chl (σ 93) a i : Int)) ∧ (0 ≤ row ∧ row < 1024) ∧ 1 ≤ s ∧ s ≤ 20) ∧ ∀ σ' : zM, (∀ c j, ¬ (c = 98 ∨ (c = 89 ∧ j = 29)) → σ' c j = σ c j) → σ' 89 29 = (q_dsum row.toNat (q_chc (σ 93) a) : Int) → q_ly σ' (q_chD (σ 93) a s row.toNat) → (q_ctv (σ 93) (q_chl (σ 93) a) (q_chc (σ 93) a) row.toNat s (q_chc (σ 93) a) → Ret (some (.inl 1)) σ') ∧ (¬ q_ctv (σ 93) (q_chl (σ 93) a) (q_chc (σ 93) a) row.toNat s (q_chc (σ 93) a) → Ret (some (.inl 0)) σ')
  | _ => False
def tX10_layCuts_0 (X : Nat → zB) (Ret : zR) (L : zL) (st : List zV) (σ : zM) : Prop := (z_aload 0 (z_cv0 10 SX10_layLengths (z_aload 0 (z_push 0 (z_puti 10 29 (z_iload 1 (z_istore 3 (z_push 1 (z_istore 4 (z_aload 0 (z_geti 10 28 (z_push 1 (z_isub (z_istore 5 (X 22))))))))))))))) L st σ
def tX10_layCuts_22 (X : Nat → zB) (Ret : zR) (L : zL) (st : List zV) (σ : zM) : Prop := (z_iload 5 (z_iflt (z_iload 4 (z_zret Ret)) (z_aload 0 (z_getr 10 9 100 12 (z_aload 0 (z_getr 10 14 100 5 (z_iload 5 (z_ald 0 (z_dup2 (z_ald 0 (z_iload 3 (z_push 4 (z_irem (z_iload 2 (z_imul (z_isub (z_iast (z_iload 4 (z_ifeq (z_push 0 (z_istore 4 (z_aload 0 (z_dup (z_geti 10 29 (z_iload 3 (z_push 4 (z_irem (z_iadd (z_puti 10 29 (z_iload 3 (z_push 4 (z_idiv (z_istore 3 (z_iinc 5 (-1) (z_goto (X 22))))))))))))))))) (z_iload 3 (z_push 4 (z_irem (z_ifeq (z_push 1 (z_goto (z_istore 4 (z_aload 0 (z_dup (z_geti 10 29 (z_iload 3 (z_push 4 (z_irem (z_iadd (z_puti 10 29 (z_iload 3 (z_push 4 (z_idiv (z_istore 3 (z_iinc 5 (-1) (z_goto (X 22)))))))))))))))))) (z_aload 0 (z_getr 10 9 100 12 (z_aload 0 (z_getr 10 14 100 5 (z_iload 5 (z_ald 0 (z_ald 0 (z_push 10 (z_iclt (z_push 0 (z_istore 4 (z_aload 0 (z_dup (z_geti 10 29 (z_iload 3 (z_push 4 (z_irem (z_iadd (z_puti 10 29 (z_iload 3 (z_push 4 (z_idiv (z_istore 3 (z_iinc 5 (-1) (z_goto (X 22))))))))))))))))) (z_push 1 (z_goto (z_istore 4 (z_aload 0 (z_dup (z_geti 10 29 (z_iload 3 (z_push 4 (z_irem (z_iadd (z_puti 10 29 (z_iload 3 (z_push 4 (z_idiv (z_istore 3 (z_iinc 5 (-1) (z_goto (X 22)))))))))))))))))))))))))))))))))))))))))))))))))) L st σ
theorem pX10_layCuts {as : List zV} {σ : zM} {Ret : zR} (h : SX10_layCuts as σ Ret) : ∃ (k0 : Nat) (x1 : Int) (x2 : Int), as = [.inr (.inr (10, 0, k0)), .inl x1, .inl x2] := by
  unfold SX10_layCuts at h
  split at h
  · exact ⟨_, _, _, rfl⟩
  · exact h.elim
set_option maxRecDepth 10000 in
set_option maxHeartbeats 4000000 in
theorem vX10_layCuts {X : Nat → zB} {Ret : zR} (h0 : ∀ L st σ, tX10_layCuts_0 X Ret L st σ → X 0 L st σ) (h22 : ∀ L st σ, tX10_layCuts_22 X Ret L st σ → X 22 L st σ) (k0 : Nat) (x1 : Int) (x2 : Int) (σ : zM) (hk0 : z_kd k0 = (10, 0)) (hx1 : -2147483648 ≤ x1 ∧ x1 ≤ 2147483647) (hx2 : -2147483648 ≤ x2 ∧ x2 ≤ 2147483647) (hσ : z_okm σ) (h : SX10_layCuts [.inr (.inr (10, 0, k0)), .inl x1, .inl x2] σ Ret) : X 0 [some (.inr (.inr (10, 0, k0))), some (.inl x1), some (.inl x2), none, none, none] [] σ := by
  obtain ⟨a, ⟨K, h28, h103, ⟨r0, r1⟩, hs⟩, h⟩ := h
  obtain rfl := z_kd10 hk0
  obtain ⟨row, rfl⟩ := z_nat r0
  rw [Int.toNat_natCast] at h
  have k0 := K.1.1
  have c5 : q_chc (σ 93) a ≤ 5 := Nat.min_le_left _ _
  have cl : q_chc (σ 93) a ≤ (q_lsD (σ 93) a).length := Nat.min_le_right _ _
  have hl := fun i (hi : i < q_chc (σ 93) a) => q_chl_in hi
  have inj : ∀ i k, i < q_chc (σ 93) a → k < q_chc (σ 93) a → q_chl (σ 93) a k = q_chl (σ 93) a i → k = i := fun i k hi hk e => q_ls_inj (f := q_sdD (σ 93) a) (n := (σ 93 0).toNat) (Nat.lt_of_lt_of_le hk cl) (Nat.lt_of_lt_of_le hi cl) e
  generalize hD : σ 93 = D at h K h28 h103 k0 c5 cl hl inj
  have ecD : q_chD D a x2 row = q_ctE D D (q_chl D a) (q_chc D a) row x2 (q_chc D a) := rfl
  generalize q_chD D a x2 row = DD at h ecD
  generalize q_chl D a = l at h h103 hl inj ecD
  generalize q_chc D a = c at h h28 h103 hl inj ecD c5 cl
  have L22 : ∀ (d n : Nat) (v4 : Int) (σ1 : zM), n + d = c → (∀ e j, ¬ (e = 98 ∨ (e = 89 ∧ j = 29)) → σ1 e j = σ e j) → σ1 89 29 = (q_dsum row n : Int) → (∀ t : Nat, t < 12 → (∀ i, c - n ≤ i → i < c → t = l i → σ1 98 t = D (6 + 6 * t + 0) - x2 * (q_dg row (c - 1 - i) : Int)) ∧ ((∀ i, c - n ≤ i → i < c → t ≠ l i) → σ1 98 t = D (6 + 6 * t + 0))) → ((v4 = 1 ∧ ∀ i, c - n ≤ i → i < c → 10 ≤ D (6 + 6 * l i + 0) - x2 * (q_dg row (c - 1 - i) : Int)) ∨ (v4 = 0 ∧ ∃ i, c - n ≤ i ∧ i < c ∧ ¬ 10 ≤ D (6 + 6 * l i + 0) - x2 * (q_dg row (c - 1 - i) : Int))) → X 22 [some (.inr (.inr (10, 0, 89))), some (.inl (row : Int)), some (.inl x2), some (.inl ((row / 4 ^ n : Nat) : Int)), some (.inl v4), some (.inl ((c : Int) - 1 - (n : Int)))] [] σ1 := by
    intro d
    induction d with
    | zero =>
      intro n v4 σ1 hn f1 f2 f3 f4
      obtain rfl : n = c := by omega
      have ly : q_ly σ1 DD := by
        have e0 : DD 0 = D 0 := by rw [ecD]; exact q_ct_miss _ (fun i _ => by omega)
        refine ⟨fun j hj => ?_, fun t ht => ?_⟩
        · rw [e0] at hj
          rw [f1 _ _ (by omega), hD, ecD]
          exact q_ct_miss _ (fun i hi => by have := hl i hi; omega)
        · rw [e0] at ht
          have f3 := f3 t (by omega)
          by_cases q : ∃ i, i < n ∧ t = l i
          · obtain ⟨i, hi, rfl⟩ := q
            rw [f3.1 i (by omega) hi rfl, ecD]
            exact q_ct_hit _ hi (fun k hk e => inj i k hi hk e)
          · rw [f3.2 (fun i _ hi e => q ⟨i, hi, e⟩), ecD]
            exact q_ct_miss _ (fun i hi e => q ⟨i, hi, by omega⟩)
      have fin := h σ1 f1 f2 ly
      refine h22 _ _ _ ?_
      rcases f4 with ⟨rfl, g⟩ | ⟨rfl, i, g1, g2, g3⟩
      · have fin := fin.1 (fun i hi => g i (by omega) hi)
        simp only [z_push, z_lpush, z_iload, z_lload, z_aload, z_istore, z_istoreP, z_lstore, z_astore, z_iinc, z_iincP, z_iadd, z_isub, z_imul, z_iaddW, z_isubW, z_imulW, z_idiv, z_irem, z_iand, z_ior, z_ixor, z_ishl, z_ishr, z_iushr, z_ineg, z_i2l, z_i2b, z_i2s, z_i2c, z_l2i, z_ladd, z_lsub, z_land, z_lor, z_lshl, z_lshr, z_lcmp, z_dup, z_pop, z_dup2, z_goto, z_tsw, z_cases, z_geti, z_getr, z_puti, z_putz, z_ald, z_iast, z_bast, z_zast, z_alen, z_acopy, z_mmax, z_mmin, z_mabs, z_mabsL, z_iret, z_zret, z_nret, z_lret, z_aret, z_vret, z_cat, z_ldcs, z_strv, z_strc, z_gcs, z_gfm, z_sln, z_sald, z_ifeq, z_ifne, z_iflt, z_ifge, z_ifgt, z_ifle, z_iceq, z_icne, z_iclt, z_icge, z_icgt, z_icle, z_cs0, z_cs1, z_cs2, z_cs3, z_cs4, z_cs5, z_cs6, z_cs7, z_cv0, z_cv1, z_cv2, z_cv3, z_cv4, z_cv5, z_cv6, z_cv7, z_g0, z_s0, z_g1, z_s1, z_g2, z_s2, z_g3, z_s3, z_g4, z_s4, z_g5, z_s5, z_g6, z_s6, z_g7, z_s7, z_g8, z_s8, z_g9, z_s9, z_g10, z_s10, z_g11, z_s11, z_g12, z_s12, z_g13, z_s13, z_b0, z_b1, z_b0n, z_b1n, z_up_far1, z_up_far2, z_up_far3, z_up_far4, z_up_far5, z_up_far6, Classical.not_not, not_true_eq_false, z_in, z_inL, Int.cast_ofNat_Int, Nat.reduceLeDiff, List.length_cons, List.length_nil, Nat.reduceAdd, Nat.zero_add, Nat.le_refl, true_and, and_true, List.length, Nat.reduceLT, true_or, or_true, false_or, or_false, false_and, and_false, not_true_eq_false, not_false_eq_true, forall_const, false_implies, true_implies, Int.reduceEq, Int.reduceLT, Int.reduceLE, Int.reduceAdd, Int.reduceSub, Int.reduceMul, Int.reduceNeg, Int.reduceToNat, Int.toNat_natCast, ↓reduceIte, reduceIte, Nat.reduceEqDiff, Nat.reduceSub, Nat.reduceMul, ne_eq, Int.zero_add, Int.add_zero, Int.sub_zero, Nat.add_zero, Int.ofNat_eq_natCast, tX10_layCuts_22]
        repeat' (first | (intro _) | (with_reducible assumption) | (refine And.intro ?_ ?_))
        all_goals first | omega | assumption | (refine z_fin fin ?_ rfl; first | rfl | omega | (split <;> omega) | (split <;> split <;> omega)) | skip
      · have fin := fin.2 (fun q => g3 (q i g2))
        simp only [z_push, z_lpush, z_iload, z_lload, z_aload, z_istore, z_istoreP, z_lstore, z_astore, z_iinc, z_iincP, z_iadd, z_isub, z_imul, z_iaddW, z_isubW, z_imulW, z_idiv, z_irem, z_iand, z_ior, z_ixor, z_ishl, z_ishr, z_iushr, z_ineg, z_i2l, z_i2b, z_i2s, z_i2c, z_l2i, z_ladd, z_lsub, z_land, z_lor, z_lshl, z_lshr, z_lcmp, z_dup, z_pop, z_dup2, z_goto, z_tsw, z_cases, z_geti, z_getr, z_puti, z_putz, z_ald, z_iast, z_bast, z_zast, z_alen, z_acopy, z_mmax, z_mmin, z_mabs, z_mabsL, z_iret, z_zret, z_nret, z_lret, z_aret, z_vret, z_cat, z_ldcs, z_strv, z_strc, z_gcs, z_gfm, z_sln, z_sald, z_ifeq, z_ifne, z_iflt, z_ifge, z_ifgt, z_ifle, z_iceq, z_icne, z_iclt, z_icge, z_icgt, z_icle, z_cs0, z_cs1, z_cs2, z_cs3, z_cs4, z_cs5, z_cs6, z_cs7, z_cv0, z_cv1, z_cv2, z_cv3, z_cv4, z_cv5, z_cv6, z_cv7, z_g0, z_s0, z_g1, z_s1, z_g2, z_s2, z_g3, z_s3, z_g4, z_s4, z_g5, z_s5, z_g6, z_s6, z_g7, z_s7, z_g8, z_s8, z_g9, z_s9, z_g10, z_s10, z_g11, z_s11, z_g12, z_s12, z_g13, z_s13, z_b0, z_b1, z_b0n, z_b1n, z_up_far1, z_up_far2, z_up_far3, z_up_far4, z_up_far5, z_up_far6, Classical.not_not, not_true_eq_false, z_in, z_inL, Int.cast_ofNat_Int, Nat.reduceLeDiff, List.length_cons, List.length_nil, Nat.reduceAdd, Nat.zero_add, Nat.le_refl, true_and, and_true, List.length, Nat.reduceLT, true_or, or_true, false_or, or_false, false_and, and_false, not_true_eq_false, not_false_eq_true, forall_const, false_implies, true_implies, Int.reduceEq, Int.reduceLT, Int.reduceLE, Int.reduceAdd, Int.reduceSub, Int.reduceMul, Int.reduceNeg, Int.reduceToNat, Int.toNat_natCast, ↓reduceIte, reduceIte, Nat.reduceEqDiff, Nat.reduceSub, Nat.reduceMul, ne_eq, Int.zero_add, Int.add_zero, Int.sub_zero, Nat.add_zero, Int.ofNat_eq_natCast, tX10_layCuts_22]
        repeat' (first | (intro _) | (with_reducible assumption) | (refine And.intro ?_ ?_))
        all_goals first | omega | assumption | (refine z_fin fin ?_ rfl; first | rfl | omega | (split <;> omega) | (split <;> split <;> omega)) | skip
    | succ d ih =>
      intro n v4 σ1 hn f1 f2 f3 f4
      obtain ⟨i, hi⟩ : ∃ i, i = c - 1 - n := ⟨_, rfl⟩
      have ik : ((c : Int) - 1 - (n : Int)) = (i : Int) := by omega
      have ic : i < c := by omega
      have li := hl i ic
      have e103 : σ1 103 i = (l i : Int) := by rw [f1 _ _ (by omega)]; exact h103 i ic
      have dgn : c - 1 - i = n := by omega
      have q := K.2.1 (l i) li
      have sp : σ1 98 (l i) = D (6 + 6 * l i + 0) := (f3 (l i) (by omega)).2 (fun k h1 h2 e => by have := inj i k ic h2 e.symm; omega)
      have dg3 := q_dg_lt row n
      have m4 : ((row / 4 ^ n : Nat) : Int).tmod 4 = (q_dg row n : Int) := rfl
      have d4 : ((row / 4 ^ n : Nat) : Int).tdiv 4 = ((row / 4 ^ (n + 1) : Nat) : Int) := by rw [q_dg_S]; rfl
      have hp : 0 ≤ (q_dg row n : Int) * x2 ∧ (q_dg row n : Int) * x2 ≤ 60 ∧ ((q_dg row n : Int) = 0 → (q_dg row n : Int) * x2 = 0) := by
        have : q_dg row n = 0 ∨ q_dg row n = 1 ∨ q_dg row n = 2 ∨ q_dg row n = 3 := by omega
        rcases this with e | e | e | e <;> rw [e] <;> omega
      have hc : x2 * (q_dg row n : Int) = (q_dg row n : Int) * x2 := Int.mul_comm _ _
      have ev : D (6 + 6 * l i + 0) - x2 * (q_dg row (c - 1 - i) : Int) = D (6 + 6 * l i + 0) - (q_dg row n : Int) * x2 := by rw [dgn, hc]
      have rb : row / 4 ^ n ≤ row := Nat.div_le_self _ _
      have rb2 : row / 4 ^ (n + 1) ≤ row := Nat.div_le_self _ _
      have sb := q_dsum_le row n
      let σ2 : zM := z_up (z_up σ1 98 (l i) (D (6 + 6 * l i + 0) - (q_dg row n : Int) * x2)) 89 29 ((q_dsum row n : Int) + (q_dg row n : Int))
      have nx : ∀ v4', ((v4' = 1 ∧ ∀ k, c - (n + 1) ≤ k → k < c → 10 ≤ D (6 + 6 * l k + 0) - x2 * (q_dg row (c - 1 - k) : Int)) ∨ (v4' = 0 ∧ ∃ k, c - (n + 1) ≤ k ∧ k < c ∧ ¬ 10 ≤ D (6 + 6 * l k + 0) - x2 * (q_dg row (c - 1 - k) : Int))) → X 22 [some (.inr (.inr (10, 0, 89))), some (.inl (row : Int)), some (.inl x2), some (.inl ((row / 4 ^ (n + 1) : Nat) : Int)), some (.inl v4'), some (.inl ((i : Int) + -1))] [] σ2 := by
        intro v4' g
        have nx := ih (n + 1) v4' σ2 (by omega) (fun e j he => by show z_up _ _ _ _ e j = _; rw [z_up_ne (by omega), z_up_ne (by omega)]; exact f1 e j he) (by show z_up _ _ _ _ 89 29 = _; rw [z_up_eq, q_dsum]; omega) (fun t ht => by
          have f3 := f3 t ht
          show (∀ k, _ → _ → _ → z_up _ _ _ _ 98 t = _) ∧ (_ → z_up _ _ _ _ 98 t = _)
          rw [z_up_ne (by omega)]
          by_cases e : t = l i
          · subst e
            rw [z_up_eq, ← ev]
            refine ⟨fun k h1 h2 h3 => ?_, fun g => absurd rfl (g i (by omega) ic)⟩
            have := inj i k ic h2 h3.symm
            rw [this]
          · rw [z_up_ne (by omega)]
            refine ⟨fun k h1 h2 h3 => ?_, fun g => f3.2 (fun k h1 h2 => g k (by omega) h2)⟩
            have : k ≠ i := fun q => e (by rw [h3, q])
            exact f3.1 k (by omega) h2 h3) g
        rw [show (c : Int) - 1 - ((n + 1 : Nat) : Int) = (i : Int) + -1 by omega] at nx
        exact nx
      have dz : (q_dg row n : Int) = 0 → 10 ≤ D (6 + 6 * l i) - (q_dg row n : Int) * x2 := by
        clear f4 nx ih m4 d4
        intro e
        have := hp.2.2 e
        have q0 : 10 ≤ D (6 + 6 * l i) := q.1.1
        omega
      have bad0 : v4 = 0 → ∃ k, c - (n + 1) ≤ k ∧ k < c ∧ ¬ 10 ≤ D (6 + 6 * l k + 0) - x2 * (q_dg row (c - 1 - k) : Int) := by
        intro e
        rcases f4 with ⟨rfl, g⟩ | ⟨-, k, g1, g2, g3⟩
        · omega
        · exact ⟨k, by omega, g2, g3⟩
      have badi : D (6 + 6 * l i) - (q_dg row n : Int) * x2 < 10 → ∃ k, c - (n + 1) ≤ k ∧ k < c ∧ ¬ 10 ≤ D (6 + 6 * l k + 0) - x2 * (q_dg row (c - 1 - k) : Int) := by
        intro e
        refine ⟨i, by omega, ic, ?_⟩
        rw [ev]
        show ¬ 10 ≤ D (6 + 6 * l i) - (q_dg row n : Int) * x2
        omega
      have good : ¬ v4 = 0 → 10 ≤ D (6 + 6 * l i) - (q_dg row n : Int) * x2 → ∀ k, c - (n + 1) ≤ k → k < c → 10 ≤ D (6 + 6 * l k + 0) - x2 * (q_dg row (c - 1 - k) : Int) := by
        intro e e2 k h1 h2
        by_cases ki : k = i
        · rw [ki, ev]
          exact e2
        · rcases f4 with ⟨-, g⟩ | ⟨g, -⟩
          · exact g k (by omega) h2
          · exact absurd g e
      have keep : ∀ k, c - (n + 1) ≤ k → k < c → k = i ∨ c - n ≤ k := fun k h1 h2 => by omega
      have e29 : z_up σ1 98 (l i) (D (6 + 6 * l i + 0) - (q_dg row n : Int) * x2) 89 29 = (q_dsum row n : Int) := by rw [z_up_ne (by omega)]; exact f2
      have sp2 : z_up σ1 98 (l i) (D (6 + 6 * l i + 0) - (q_dg row n : Int) * x2) 103 i = (l i : Int) := by rw [z_up_ne (by omega)]; exact e103
      have sp3 : z_up σ1 98 (l i) (D (6 + 6 * l i + 0) - (q_dg row n : Int) * x2) 98 (l i) = D (6 + 6 * l i + 0) - (q_dg row n : Int) * x2 := z_up_eq
      rw [ik]
      have td : (0 : Int) ≤ ((row / 4 ^ (n + 1) : Nat) : Int) := Int.natCast_nonneg _
      have td2 : ((row / 4 ^ (n + 1) : Nat) : Int) ≤ 1024 := by
        have : row / 4 ^ (n + 1) ≤ 1024 := by omega
        generalize row / 4 ^ (n + 1) = z at this ⊢
        omega
      simp only [Nat.add_zero] at sp q e29 sp2 sp3 ev nx
      refine h22 _ _ _ ?_
      simp only [z_push, z_lpush, z_iload, z_lload, z_aload, z_istore, z_istoreP, z_lstore, z_astore, z_iinc, z_iincP, z_iadd, z_isub, z_imul, z_iaddW, z_isubW, z_imulW, z_idiv, z_irem, z_iand, z_ior, z_ixor, z_ishl, z_ishr, z_iushr, z_ineg, z_i2l, z_i2b, z_i2s, z_i2c, z_l2i, z_ladd, z_lsub, z_land, z_lor, z_lshl, z_lshr, z_lcmp, z_dup, z_pop, z_dup2, z_goto, z_tsw, z_cases, z_geti, z_getr, z_puti, z_putz, z_ald, z_iast, z_bast, z_zast, z_alen, z_acopy, z_mmax, z_mmin, z_mabs, z_mabsL, z_iret, z_zret, z_nret, z_lret, z_aret, z_vret, z_cat, z_ldcs, z_strv, z_strc, z_gcs, z_gfm, z_sln, z_sald, z_ifeq, z_ifne, z_iflt, z_ifge, z_ifgt, z_ifle, z_iceq, z_icne, z_iclt, z_icge, z_icgt, z_icle, z_cs0, z_cs1, z_cs2, z_cs3, z_cs4, z_cs5, z_cs6, z_cs7, z_cv0, z_cv1, z_cv2, z_cv3, z_cv4, z_cv5, z_cv6, z_cv7, z_g0, z_s0, z_g1, z_s1, z_g2, z_s2, z_g3, z_s3, z_g4, z_s4, z_g5, z_s5, z_g6, z_s6, z_g7, z_s7, z_g8, z_s8, z_g9, z_s9, z_g10, z_s10, z_g11, z_s11, z_g12, z_s12, z_g13, z_s13, z_b0, z_b1, z_b0n, z_b1n, z_up_far1, z_up_far2, z_up_far3, z_up_far4, z_up_far5, z_up_far6, Classical.not_not, not_true_eq_false, z_in, z_inL, Int.cast_ofNat_Int, Nat.reduceLeDiff, List.length_cons, List.length_nil, Nat.reduceAdd, Nat.zero_add, Nat.le_refl, true_and, and_true, List.length, Nat.reduceLT, true_or, or_true, false_or, or_false, false_and, and_false, not_true_eq_false, not_false_eq_true, forall_const, false_implies, true_implies, Int.reduceEq, Int.reduceLT, Int.reduceLE, Int.reduceAdd, Int.reduceSub, Int.reduceMul, Int.reduceNeg, Int.reduceToNat, Int.toNat_natCast, ↓reduceIte, reduceIte, Nat.reduceEqDiff, Nat.reduceSub, Nat.reduceMul, ne_eq, Int.zero_add, Int.add_zero, Int.sub_zero, Nat.add_zero, Int.ofNat_eq_natCast, tX10_layCuts_22, e103, sp, m4, d4, e29, sp2, sp3]
      repeat' (first | (intro _) | (with_reducible assumption) | (refine And.intro ?_ ?_))
      all_goals first | omega | assumption | (refine z_fin td ?_ rfl; first | rfl | omega | (split <;> omega) | (split <;> split <;> omega)) | skip
      all_goals first
        | exact nx 0 (Or.inr ⟨rfl, bad0 (by assumption)⟩)
        | exact nx 0 (Or.inr ⟨rfl, badi (by assumption)⟩)
        | exact nx 1 (Or.inl ⟨rfl, good (by assumption) (dz (by assumption))⟩)
        | exact nx 1 (Or.inl ⟨rfl, good (by assumption) (by omega)⟩)
  refine h0 _ _ _ ?_
  simp only [z_push, z_lpush, z_iload, z_lload, z_aload, z_istore, z_istoreP, z_lstore, z_astore, z_iinc, z_iincP, z_iadd, z_isub, z_imul, z_iaddW, z_isubW, z_imulW, z_idiv, z_irem, z_iand, z_ior, z_ixor, z_ishl, z_ishr, z_iushr, z_ineg, z_i2l, z_i2b, z_i2s, z_i2c, z_l2i, z_ladd, z_lsub, z_land, z_lor, z_lshl, z_lshr, z_lcmp, z_dup, z_pop, z_dup2, z_goto, z_tsw, z_cases, z_geti, z_getr, z_puti, z_putz, z_ald, z_iast, z_bast, z_zast, z_alen, z_acopy, z_mmax, z_mmin, z_mabs, z_mabsL, z_iret, z_zret, z_nret, z_lret, z_aret, z_vret, z_cat, z_ldcs, z_strv, z_strc, z_gcs, z_gfm, z_sln, z_sald, z_ifeq, z_ifne, z_iflt, z_ifge, z_ifgt, z_ifle, z_iceq, z_icne, z_iclt, z_icge, z_icgt, z_icle, z_cs0, z_cs1, z_cs2, z_cs3, z_cs4, z_cs5, z_cs6, z_cs7, z_cv0, z_cv1, z_cv2, z_cv3, z_cv4, z_cv5, z_cv6, z_cv7, z_g0, z_s0, z_g1, z_s1, z_g2, z_s2, z_g3, z_s3, z_g4, z_s4, z_g5, z_s5, z_g6, z_s6, z_g7, z_s7, z_g8, z_s8, z_g9, z_s9, z_g10, z_s10, z_g11, z_s11, z_g12, z_s12, z_g13, z_s13, z_b0, z_b1, z_b0n, z_b1n, z_up_far1, z_up_far2, z_up_far3, z_up_far4, z_up_far5, z_up_far6, Classical.not_not, not_true_eq_false, z_in, z_inL, Int.cast_ofNat_Int, Nat.reduceLeDiff, List.length_cons, List.length_nil, Nat.reduceAdd, Nat.zero_add, Nat.le_refl, true_and, and_true, List.length, Nat.reduceLT, true_or, or_true, false_or, or_false, false_and, and_false, not_true_eq_false, not_false_eq_true, forall_const, false_implies, true_implies, Int.reduceEq, Int.reduceLT, Int.reduceLE, Int.reduceAdd, Int.reduceSub, Int.reduceMul, Int.reduceNeg, Int.reduceToNat, Int.toNat_natCast, ↓reduceIte, reduceIte, Nat.reduceEqDiff, Nat.reduceSub, Nat.reduceMul, ne_eq, Int.zero_add, Int.add_zero, Int.sub_zero, Nat.add_zero, Int.ofNat_eq_natCast, tX10_layCuts_0, SX10_layLengths]
  intro σ1 f1 f2
  have e28 : z_up σ1 89 29 0 89 28 = (c : Int) := by rw [z_up_ne (by omega), f1 _ _ (by omega)]; exact h28
  have nx := L22 c 0 1 (z_up σ1 89 29 0) (by omega) (fun e j he => by rw [z_up_ne (by omega)]; exact f1 e j (by omega)) (by rw [z_up_eq]; rfl) (fun t ht => ⟨fun i h1 h2 => absurd h2 (by omega), fun _ => by rw [z_up_ne (by omega), f2 t ht, hD]; rfl⟩) (Or.inl ⟨rfl, fun i h1 h2 => absurd h2 (by omega)⟩)
  rw [Nat.pow_zero, Nat.div_one] at nx
  simp only [e28]
  rw [show (c : Int) - 1 - ((0 : Nat) : Int) = (c : Int) - 1 by omega] at nx
  repeat' (first | (intro _) | (with_reducible assumption) | (refine And.intro ?_ ?_))
  all_goals first | omega | assumption | (refine z_fin nx ?_ rfl; first | rfl | omega | (split <;> omega) | (split <;> split <;> omega)) | skip
theorem dX10_layCuts_0 : decode cX10_layCuts 0 = .ok (.aload_n 0, 1) := by decide +kernel
theorem dX10_layCuts_1 : decode cX10_layCuts 1 = .ok (.invokevirtual 232, 3) := by decide +kernel
theorem dX10_layCuts_4 : decode cX10_layCuts 4 = .ok (.aload_n 0, 1) := by decide +kernel
theorem dX10_layCuts_5 : decode cX10_layCuts 5 = .ok (.iconst 0, 1) := by decide +kernel
theorem dX10_layCuts_6 : decode cX10_layCuts 6 = .ok (.putfield 279, 3) := by decide +kernel
theorem dX10_layCuts_9 : decode cX10_layCuts 9 = .ok (.iload_n 1, 1) := by decide +kernel
theorem dX10_layCuts_10 : decode cX10_layCuts 10 = .ok (.istore_n 3, 1) := by decide +kernel
theorem dX10_layCuts_11 : decode cX10_layCuts 11 = .ok (.iconst 1, 1) := by decide +kernel
theorem dX10_layCuts_12 : decode cX10_layCuts 12 = .ok (.istore 4, 2) := by decide +kernel
theorem dX10_layCuts_14 : decode cX10_layCuts 14 = .ok (.aload_n 0, 1) := by decide +kernel
theorem dX10_layCuts_15 : decode cX10_layCuts 15 = .ok (.getfield 282, 3) := by decide +kernel
theorem dX10_layCuts_18 : decode cX10_layCuts 18 = .ok (.iconst 1, 1) := by decide +kernel
theorem dX10_layCuts_19 : decode cX10_layCuts 19 = .ok (.isub, 1) := by decide +kernel
theorem dX10_layCuts_20 : decode cX10_layCuts 20 = .ok (.istore 5, 2) := by decide +kernel
theorem dX10_layCuts_22 : decode cX10_layCuts 22 = .ok (.iload 5, 2) := by decide +kernel
theorem dX10_layCuts_24 : decode cX10_layCuts 24 = .ok (.ifCond .lt 80, 3) := by decide +kernel
theorem dX10_layCuts_27 : decode cX10_layCuts 27 = .ok (.aload_n 0, 1) := by decide +kernel
theorem dX10_layCuts_28 : decode cX10_layCuts 28 = .ok (.getfield 34, 3) := by decide +kernel
theorem dX10_layCuts_31 : decode cX10_layCuts 31 = .ok (.aload_n 0, 1) := by decide +kernel
theorem dX10_layCuts_32 : decode cX10_layCuts 32 = .ok (.getfield 49, 3) := by decide +kernel
theorem dX10_layCuts_35 : decode cX10_layCuts 35 = .ok (.iload 5, 2) := by decide +kernel
theorem dX10_layCuts_37 : decode cX10_layCuts 37 = .ok (.iaload, 1) := by decide +kernel
theorem dX10_layCuts_38 : decode cX10_layCuts 38 = .ok (.dup2, 1) := by decide +kernel
theorem dX10_layCuts_39 : decode cX10_layCuts 39 = .ok (.iaload, 1) := by decide +kernel
theorem dX10_layCuts_40 : decode cX10_layCuts 40 = .ok (.iload_n 3, 1) := by decide +kernel
theorem dX10_layCuts_41 : decode cX10_layCuts 41 = .ok (.iconst 4, 1) := by decide +kernel
theorem dX10_layCuts_42 : decode cX10_layCuts 42 = .ok (.irem, 1) := by decide +kernel
theorem dX10_layCuts_43 : decode cX10_layCuts 43 = .ok (.iload_n 2, 1) := by decide +kernel
theorem dX10_layCuts_44 : decode cX10_layCuts 44 = .ok (.imul, 1) := by decide +kernel
theorem dX10_layCuts_45 : decode cX10_layCuts 45 = .ok (.isub, 1) := by decide +kernel
theorem dX10_layCuts_46 : decode cX10_layCuts 46 = .ok (.iastore, 1) := by decide +kernel
theorem dX10_layCuts_47 : decode cX10_layCuts 47 = .ok (.iload 4, 2) := by decide +kernel
theorem dX10_layCuts_49 : decode cX10_layCuts 49 = .ok (.ifCond .eq 30, 3) := by decide +kernel
theorem dX10_layCuts_52 : decode cX10_layCuts 52 = .ok (.iload_n 3, 1) := by decide +kernel
theorem dX10_layCuts_53 : decode cX10_layCuts 53 = .ok (.iconst 4, 1) := by decide +kernel
theorem dX10_layCuts_54 : decode cX10_layCuts 54 = .ok (.irem, 1) := by decide +kernel
theorem dX10_layCuts_55 : decode cX10_layCuts 55 = .ok (.ifCond .eq 20, 3) := by decide +kernel
theorem dX10_layCuts_58 : decode cX10_layCuts 58 = .ok (.aload_n 0, 1) := by decide +kernel
theorem dX10_layCuts_59 : decode cX10_layCuts 59 = .ok (.getfield 34, 3) := by decide +kernel
theorem dX10_layCuts_62 : decode cX10_layCuts 62 = .ok (.aload_n 0, 1) := by decide +kernel
theorem dX10_layCuts_63 : decode cX10_layCuts 63 = .ok (.getfield 49, 3) := by decide +kernel
theorem dX10_layCuts_66 : decode cX10_layCuts 66 = .ok (.iload 5, 2) := by decide +kernel
theorem dX10_layCuts_68 : decode cX10_layCuts 68 = .ok (.iaload, 1) := by decide +kernel
theorem dX10_layCuts_69 : decode cX10_layCuts 69 = .ok (.iaload, 1) := by decide +kernel
theorem dX10_layCuts_70 : decode cX10_layCuts 70 = .ok (.bipush 10, 2) := by decide +kernel
theorem dX10_layCuts_72 : decode cX10_layCuts 72 = .ok (.if_icmp .lt 7, 3) := by decide +kernel
theorem dX10_layCuts_75 : decode cX10_layCuts 75 = .ok (.iconst 1, 1) := by decide +kernel
theorem dX10_layCuts_76 : decode cX10_layCuts 76 = .ok (.goto 4, 3) := by decide +kernel
theorem dX10_layCuts_79 : decode cX10_layCuts 79 = .ok (.iconst 0, 1) := by decide +kernel
theorem dX10_layCuts_80 : decode cX10_layCuts 80 = .ok (.istore 4, 2) := by decide +kernel
theorem dX10_layCuts_82 : decode cX10_layCuts 82 = .ok (.aload_n 0, 1) := by decide +kernel
theorem dX10_layCuts_83 : decode cX10_layCuts 83 = .ok (.dup, 1) := by decide +kernel
theorem dX10_layCuts_84 : decode cX10_layCuts 84 = .ok (.getfield 279, 3) := by decide +kernel
theorem dX10_layCuts_87 : decode cX10_layCuts 87 = .ok (.iload_n 3, 1) := by decide +kernel
theorem dX10_layCuts_88 : decode cX10_layCuts 88 = .ok (.iconst 4, 1) := by decide +kernel
theorem dX10_layCuts_89 : decode cX10_layCuts 89 = .ok (.irem, 1) := by decide +kernel
theorem dX10_layCuts_90 : decode cX10_layCuts 90 = .ok (.iadd, 1) := by decide +kernel
theorem dX10_layCuts_91 : decode cX10_layCuts 91 = .ok (.putfield 279, 3) := by decide +kernel
theorem dX10_layCuts_94 : decode cX10_layCuts 94 = .ok (.iload_n 3, 1) := by decide +kernel
theorem dX10_layCuts_95 : decode cX10_layCuts 95 = .ok (.iconst 4, 1) := by decide +kernel
theorem dX10_layCuts_96 : decode cX10_layCuts 96 = .ok (.idiv, 1) := by decide +kernel
theorem dX10_layCuts_97 : decode cX10_layCuts 97 = .ok (.istore_n 3, 1) := by decide +kernel
theorem dX10_layCuts_98 : decode cX10_layCuts 98 = .ok (.iinc 5 (-1), 3) := by decide +kernel
theorem dX10_layCuts_101 : decode cX10_layCuts 101 = .ok (.goto (-79), 3) := by decide +kernel
theorem dX10_layCuts_104 : decode cX10_layCuts 104 = .ok (.iload 4, 2) := by decide +kernel
theorem dX10_layCuts_106 : decode cX10_layCuts 106 = .ok (.ireturn, 1) := by decide +kernel
set_option maxRecDepth 100000 in
theorem rX10_layCuts_0 {p : Program} {l : Launch} {e : Env} {s : State} {m : MethodId} {args : Array Value} {below : List Frame} {meth : Method} {c : Code} {D : va_G} {cA : Nat → ClassId} {ad : Nat → Nat} {Ret : zR} (C : z_Cx p { frames := 2, cells := 0, slots := 0, locals := 43 } s m args c cX10_layCuts yX10_layCuts.cls 6 D cA ad) (hr : meth.sig.returnType = (some .boolean)) (hlocks : meth.locks = false) : ∀ L st σ, tX10_layCuts_0 (z_X p l e { frames := 2, cells := 0, slots := 0, locals := 43 } s m args below meth c (MQ below (z_Qc D cA ad Ret) args s 0 0 (z_A ad)) 6 D cA ad true) Ret L st σ → z_X p l e { frames := 2, cells := 0, slots := 0, locals := 43 } s m args below meth c (MQ below (z_Qc D cA ad Ret) args s 0 0 (z_A ad)) 6 D cA ad true 0 L st σ := (s_aload_n C dX10_layCuts_0 rfl (s_cv0 C dX10_layCuts_1 (okX10_layLengths l) cls_X10 wd_1228 wd_1230 wd_54 wd_85 wd_1231 ⟨by decide, by decide, by decide +kernel⟩ ⟨by decide, by decide⟩ (s_aload_n C dX10_layCuts_4 rfl (s_iconst C dX10_layCuts_5 rfl ⟨by decide, by decide⟩ (s_puti C dX10_layCuts_6 cls_X10 (by decide) rfl wd_997 rfl rfl (s_iload_n C dX10_layCuts_9 rfl (s_istore_n C dX10_layCuts_10 (by decide) rfl rfl (s_iconst C dX10_layCuts_11 rfl ⟨by decide, by decide⟩ (s_istore C dX10_layCuts_12 (by decide) rfl (s_aload_n C dX10_layCuts_14 rfl (s_geti C dX10_layCuts_15 cls_X10 (by decide) rfl wd_996 (s_iconst C dX10_layCuts_18 rfl ⟨by decide, by decide⟩ (s_isub C dX10_layCuts_19 (s_istore C dX10_layCuts_20 (by decide) rfl (fun _ _ _ h => h)))))))))))))))
set_option maxRecDepth 100000 in
theorem rX10_layCuts_22 {p : Program} {l : Launch} {e : Env} {s : State} {m : MethodId} {args : Array Value} {below : List Frame} {meth : Method} {c : Code} {D : va_G} {cA : Nat → ClassId} {ad : Nat → Nat} {Ret : zR} (C : z_Cx p { frames := 2, cells := 0, slots := 0, locals := 43 } s m args c cX10_layCuts yX10_layCuts.cls 6 D cA ad) (hr : meth.sig.returnType = (some .boolean)) (hlocks : meth.locks = false) : ∀ L st σ, tX10_layCuts_22 (z_X p l e { frames := 2, cells := 0, slots := 0, locals := 43 } s m args below meth c (MQ below (z_Qc D cA ad Ret) args s 0 0 (z_A ad)) 6 D cA ad true) Ret L st σ → z_X p l e { frames := 2, cells := 0, slots := 0, locals := 43 } s m args below meth c (MQ below (z_Qc D cA ad Ret) args s 0 0 (z_A ad)) 6 D cA ad true 22 L st σ := (s_iload C dX10_layCuts_22 (s_iflt C dX10_layCuts_24 (by decide) (s_iload C dX10_layCuts_104 (s_zret C dX10_layCuts_106 hr ⟨rfl, rfl⟩ hlocks)) (s_aload_n C dX10_layCuts_27 rfl (s_getr C dX10_layCuts_28 (j := 21) cls_X10 (by decide) rfl (by decide) (by decide) (by decide +kernel) wd_989 (s_aload_n C dX10_layCuts_31 rfl (s_getr C dX10_layCuts_32 (j := 27) cls_X10 (by decide) rfl (by decide) (by decide) (by decide +kernel) wd_995 (s_iload C dX10_layCuts_35 (s_iald C dX10_layCuts_37 (s_dup2 C dX10_layCuts_38 (s_iald C dX10_layCuts_39 (s_iload_n C dX10_layCuts_40 rfl (s_iconst C dX10_layCuts_41 rfl ⟨by decide, by decide⟩ (s_irem C dX10_layCuts_42 (s_iload_n C dX10_layCuts_43 rfl (s_imul C dX10_layCuts_44 (s_isub C dX10_layCuts_45 (s_iast C dX10_layCuts_46 (s_iload C dX10_layCuts_47 (s_ifeq C dX10_layCuts_49 (by decide) (s_iconst C dX10_layCuts_79 rfl ⟨by decide, by decide⟩ (s_istore C dX10_layCuts_80 (by decide) rfl (s_aload_n C dX10_layCuts_82 rfl (s_dup C dX10_layCuts_83 (s_geti C dX10_layCuts_84 cls_X10 (by decide) rfl wd_997 (s_iload_n C dX10_layCuts_87 rfl (s_iconst C dX10_layCuts_88 rfl ⟨by decide, by decide⟩ (s_irem C dX10_layCuts_89 (s_iadd C dX10_layCuts_90 (s_puti C dX10_layCuts_91 cls_X10 (by decide) rfl wd_997 rfl rfl (s_iload_n C dX10_layCuts_94 rfl (s_iconst C dX10_layCuts_95 rfl ⟨by decide, by decide⟩ (s_idiv C dX10_layCuts_96 (s_istore_n C dX10_layCuts_97 (by decide) rfl rfl (s_iinc C dX10_layCuts_98 (by decide) rfl (s_goto C dX10_layCuts_101 (by decide) (fun _ _ _ h => h))))))))))))))))) (s_iload_n C dX10_layCuts_52 rfl (s_iconst C dX10_layCuts_53 rfl ⟨by decide, by decide⟩ (s_irem C dX10_layCuts_54 (s_ifeq C dX10_layCuts_55 (by decide) (s_iconst C dX10_layCuts_75 rfl ⟨by decide, by decide⟩ (s_goto C dX10_layCuts_76 (by decide) (s_istore C dX10_layCuts_80 (by decide) rfl (s_aload_n C dX10_layCuts_82 rfl (s_dup C dX10_layCuts_83 (s_geti C dX10_layCuts_84 cls_X10 (by decide) rfl wd_997 (s_iload_n C dX10_layCuts_87 rfl (s_iconst C dX10_layCuts_88 rfl ⟨by decide, by decide⟩ (s_irem C dX10_layCuts_89 (s_iadd C dX10_layCuts_90 (s_puti C dX10_layCuts_91 cls_X10 (by decide) rfl wd_997 rfl rfl (s_iload_n C dX10_layCuts_94 rfl (s_iconst C dX10_layCuts_95 rfl ⟨by decide, by decide⟩ (s_idiv C dX10_layCuts_96 (s_istore_n C dX10_layCuts_97 (by decide) rfl rfl (s_iinc C dX10_layCuts_98 (by decide) rfl (s_goto C dX10_layCuts_101 (by decide) (fun _ _ _ h => h)))))))))))))))))) (s_aload_n C dX10_layCuts_58 rfl (s_getr C dX10_layCuts_59 (j := 21) cls_X10 (by decide) rfl (by decide) (by decide) (by decide +kernel) wd_989 (s_aload_n C dX10_layCuts_62 rfl (s_getr C dX10_layCuts_63 (j := 27) cls_X10 (by decide) rfl (by decide) (by decide) (by decide +kernel) wd_995 (s_iload C dX10_layCuts_66 (s_iald C dX10_layCuts_68 (s_iald C dX10_layCuts_69 (s_bipush C dX10_layCuts_70 rfl ⟨by decide, by decide⟩ (s_iclt C dX10_layCuts_72 (by decide) (s_iconst C dX10_layCuts_79 rfl ⟨by decide, by decide⟩ (s_istore C dX10_layCuts_80 (by decide) rfl (s_aload_n C dX10_layCuts_82 rfl (s_dup C dX10_layCuts_83 (s_geti C dX10_layCuts_84 cls_X10 (by decide) rfl wd_997 (s_iload_n C dX10_layCuts_87 rfl (s_iconst C dX10_layCuts_88 rfl ⟨by decide, by decide⟩ (s_irem C dX10_layCuts_89 (s_iadd C dX10_layCuts_90 (s_puti C dX10_layCuts_91 cls_X10 (by decide) rfl wd_997 rfl rfl (s_iload_n C dX10_layCuts_94 rfl (s_iconst C dX10_layCuts_95 rfl ⟨by decide, by decide⟩ (s_idiv C dX10_layCuts_96 (s_istore_n C dX10_layCuts_97 (by decide) rfl rfl (s_iinc C dX10_layCuts_98 (by decide) rfl (s_goto C dX10_layCuts_101 (by decide) (fun _ _ _ h => h))))))))))))))))) (s_iconst C dX10_layCuts_75 rfl ⟨by decide, by decide⟩ (s_goto C dX10_layCuts_76 (by decide) (s_istore C dX10_layCuts_80 (by decide) rfl (s_aload_n C dX10_layCuts_82 rfl (s_dup C dX10_layCuts_83 (s_geti C dX10_layCuts_84 cls_X10 (by decide) rfl wd_997 (s_iload_n C dX10_layCuts_87 rfl (s_iconst C dX10_layCuts_88 rfl ⟨by decide, by decide⟩ (s_irem C dX10_layCuts_89 (s_iadd C dX10_layCuts_90 (s_puti C dX10_layCuts_91 cls_X10 (by decide) rfl wd_997 rfl rfl (s_iload_n C dX10_layCuts_94 rfl (s_iconst C dX10_layCuts_95 rfl ⟨by decide, by decide⟩ (s_idiv C dX10_layCuts_96 (s_istore_n C dX10_layCuts_97 (by decide) rfl rfl (s_iinc C dX10_layCuts_98 (by decide) rfl (s_goto C dX10_layCuts_101 (by decide) (fun _ _ _ h => h))))))))))))))))))))))))))))))))))))))))))))))))))
theorem okX10_layCuts (l : Launch) : z_OK l yX10_layCuts cX10_layCuts 6 (some .boolean) 2 43 SX10_layCuts := by
  refine z_ok_of true (by decide +kernel) ?_ ?_
  · intro as σ Ret h
    obtain ⟨k0, x1, x2, rfl⟩ := pX10_layCuts h
    exact ⟨Nat.le_of_ble_eq_true rfl, by simp⟩
  · intro p e s m args below meth c D cA ad Ret C hr hlocks as σ has hσ h
    obtain ⟨k0, x1, x2, rfl⟩ := pX10_layCuts h
    exact vX10_layCuts (rX10_layCuts_0 C hr hlocks) (rX10_layCuts_22 C hr hlocks) k0 x1 x2 σ (has _ (List.mem_of_getElem? (i := 0) rfl)) (has _ (List.mem_of_getElem? (i := 1) rfl)) (has _ (List.mem_of_getElem? (i := 2) rfl)) hσ h
