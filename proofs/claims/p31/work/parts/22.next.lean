theorem q_end_S {f : Nat → Bool} {p T : Nat} (h : p < T) (hf : f p = true) : q_end f p (T - p) = q_end f (p + 1) (T - (p + 1)) := by
  rw [show T - p = (T - (p + 1)) + 1 by omega, q_end, if_pos hf]
theorem q_end_N {f : Nat → Bool} {p T : Nat} (hf : f p = false) : q_end f p (T - p) = p := by
  cases h : T - p with
  | zero => rfl
  | succ n => rw [q_end, if_neg (by rw [hf]; decide)]
theorem z_wr_eq {x : Int} (h : -2147483648 ≤ x ∧ x ≤ 2147483647) : z_wr x = x := z_toInt h
theorem q_by_T {a : Nat → Int} {T p : Nat} (h : T ≤ p) : q_by a T p = -1 := if_neg (by omega)
theorem z_up_same {σ : zM} {k i j : Nat} {v : Int} : z_up σ k i v k j = if j = i then v else σ k j := by
  unfold z_up
  by_cases h : j = i <;> simp [h]
def tX4_next_0 (X : Nat → zB) (Ret : zR) (L : zL) (st : List zV) (σ : zM) : Prop := (z_push 0 (z_istore 1 (X 2))) L st σ
def tX4_next_2 (X : Nat → zB) (Ret : zR) (L : zL) (st : List zV) (σ : zM) : Prop := (z_iload 1 (z_push 400 (z_icge (X 39) (z_aload 0 (z_aload 0 (z_geti 4 4 (z_cv1 4 SX4_byteAt (z_cs1 SX4_isBlank (z_ifeq (X 39) (z_aload 0 (z_dup (z_geti 4 4 (z_push 1 (z_iadd (z_puti 4 4 (z_iinc 1 1 (z_goto (X 2)))))))))))))))))) L st σ
def tX4_next_39 (X : Nat → zB) (Ret : zR) (L : zL) (st : List zV) (σ : zM) : Prop := (z_aload 0 (z_aload 0 (z_geti 4 4 (z_puti 4 2 (z_aload 0 (z_push 0 (z_puti 4 6 (z_aload 0 (z_geti 4 4 (z_aload 0 (z_geti 4 1 (z_iclt (z_aload 0 (z_aload 0 (z_geti 4 4 (z_cv1 4 SX4_byteAt (z_cs1 SX4_isLetter (z_ifeq (z_aload 0 (z_aload 0 (z_geti 4 4 (z_cv1 4 SX4_byteAt (z_cs1 SX4_isFigure (z_ifeq (z_aload 0 (z_aload 0 (z_aload 0 (z_geti 4 4 (z_cv1 4 SX4_byteAt (z_push 59 (z_icne (z_push 4 (z_puti 4 5 (z_aload 0 (z_dup (z_geti 4 4 (z_push 1 (z_iadd (z_puti 4 4 (z_vret Ret))))))))) (z_push 3 (z_goto (z_puti 4 5 (z_aload 0 (z_dup (z_geti 4 4 (z_push 1 (z_iadd (z_puti 4 4 (z_vret Ret))))))))))))))))) (z_push 0 (z_istore 1 (X 148))))))))) (z_aload 0 (z_push 1 (z_puti 4 5 (z_push 0 (z_istore 1 (X 92)))))))))))) (z_aload 0 (z_push 0 (z_puti 4 5 (z_goto (z_vret Ret))))))))))))))))) L st σ
def tX4_next_92 (X : Nat → zB) (Ret : zR) (L : zL) (st : List zV) (σ : zM) : Prop := (z_iload 1 (z_push 400 (z_icge (z_goto (z_vret Ret)) (z_aload 0 (z_aload 0 (z_geti 4 4 (z_cv1 4 SX4_byteAt (z_cs1 SX4_isLetter (z_ifeq (z_goto (z_vret Ret)) (z_aload 0 (z_dup (z_geti 4 4 (z_push 1 (z_iadd (z_puti 4 4 (z_iinc 1 1 (z_goto (X 92)))))))))))))))))) L st σ
def tX4_next_148 (X : Nat → zB) (Ret : zR) (L : zL) (st : List zV) (σ : zM) : Prop := (z_iload 1 (z_push 400 (z_icge (X 208) (z_aload 0 (z_aload 0 (z_geti 4 4 (z_cv1 4 SX4_byteAt (z_cs1 SX4_isFigure (z_ifeq (X 208) (z_aload 0 (z_push 10 (z_aload 0 (z_geti 4 6 (z_imulW (z_aload 0 (z_aload 0 (z_geti 4 4 (z_cv1 4 SX4_byteAt (z_iaddW (z_push 48 (z_isubW (z_puti 4 6 (z_aload 0 (z_dup (z_geti 4 4 (z_push 1 (z_iadd (z_puti 4 4 (z_iinc 1 1 (z_goto (X 148))))))))))))))))))))))))))))))) L st σ
def tX4_next_208 (X : Nat → zB) (Ret : zR) (L : zL) (st : List zV) (σ : zM) : Prop := (z_aload 0 (z_aload 0 (z_geti 4 4 (z_aload 0 (z_geti 4 2 (z_isub (z_push 3 (z_icle (z_push 2 (z_puti 4 5 (z_goto (z_vret Ret)))) (z_push 4 (z_goto (z_puti 4 5 (z_goto (z_vret Ret))))))))))))) L st σ
theorem pX4_next {as : List zV} {σ : zM} {Ret : zR} (h : SX4_next as σ Ret) : ∃ (k0 : Nat), as = [.inr (.inr (4, 0, k0))] := by
  unfold SX4_next at h
  split at h
  · exact ⟨_, rfl⟩
  · exact h.elim
set_option maxRecDepth 10000 in
set_option maxHeartbeats 4000000 in
theorem vX4_next {X : Nat → zB} {Ret : zR} (h0 : ∀ L st σ, tX4_next_0 X Ret L st σ → X 0 L st σ) (h2 : ∀ L st σ, tX4_next_2 X Ret L st σ → X 2 L st σ) (h39 : ∀ L st σ, tX4_next_39 X Ret L st σ → X 39 L st σ) (h92 : ∀ L st σ, tX4_next_92 X Ret L st σ → X 92 L st σ) (h148 : ∀ L st σ, tX4_next_148 X Ret L st σ → X 148 L st σ) (h208 : ∀ L st σ, tX4_next_208 X Ret L st σ → X 208 L st σ) (k0 : Nat) (σ : zM) (hk0 : z_kd k0 = (4, 0)) (hσ : z_okm σ) (h : SX4_next [.inr (.inr (4, 0, k0))] σ Ret) : X 0 [some (.inr (.inr (4, 0, k0))), none] [] σ := by
  obtain ⟨⟨p0', p1, p2⟩, h⟩ := h
  obtain ⟨p, hp⟩ := z_nat p0'
  have hT0 : 0 ≤ σ k0 1 := by omega
  obtain ⟨T, hT⟩ := z_nat hT0
  rw [hp, hT] at h
  simp only [Int.toNat_natCast] at h
  generalize ha : σ (k0 + 1) = a at h
  generalize hb : q_by a T = b at h
  have pT : p ≤ T := by omega
  have hby : ∀ q : Nat, (if (0 ≤ (q : Int) ∧ (q : Int) < (T : Int)) ∧ (q : Int) < 400 then a q else -1) = b q := by
    intro q
    rw [← hb]
    unfold q_by
    by_cases g : q < T
    · rw [if_pos (by omega), if_pos g]
    · rw [if_neg (by omega), if_neg g]
  have bT : b T = -1 := by rw [← hb]; exact q_by_T (Nat.le_refl _)
  have bge : ∀ q, T ≤ q → b q = -1 := fun q hq => by rw [← hb]; exact q_by_T hq
  have FR : ∀ τ : zM, (∀ c j, ¬ (c = k0 ∧ (j = 2 ∨ j = 4 ∨ j = 5 ∨ j = 6)) → τ c j = σ c j) → τ k0 1 = (T : Int) ∧ τ (k0 + 1) = a := by
    intro τ f
    refine ⟨by rw [f k0 1 (by omega), hT], ?_⟩
    rw [← ha]
    funext j
    exact f _ _ (by omega)
  have hs := q_ts_in (b := b) pT
  have he := q_te_in (b := b) pT
  generalize hts : q_ts b T p = s at hs he
  have X39 : ∀ (τ : zM) (u : Option zV), (∀ c j, ¬ (c = k0 ∧ (j = 2 ∨ j = 4 ∨ j = 5 ∨ j = 6)) → τ c j = σ c j) → τ k0 4 = (s : Int) → X 39 [some (.inr (.inr (4, 0, k0))), u] [] τ := by
    intro τ u f1 f4
    obtain ⟨r1, ra⟩ := FR τ f1
    have key : ∀ (τ' : zM) (v : Int), (∀ c j, ¬ (c = k0 ∧ (j = 2 ∨ j = 4 ∨ j = 5 ∨ j = 6)) → τ' c j = σ c j) → τ' k0 2 = (s : Int) → τ' k0 4 = (q_te b T p : Int) → τ' k0 5 = q_tk b T p → (q_tk b T p = 2 → τ' k0 6 = q_num b s (q_te b T p - s)) → Ret none τ' := by
      intro τ' v g1 g2 g4 g5 g6
      exact h τ' g1 ⟨by rw [hts]; exact g2, g4, g5, by rw [hts]; exact g6⟩
    have far : ∀ (τ : zM) i v j, z_up τ k0 i v (k0 + 1) j = τ (k0 + 1) j := fun τ i v j => z_up_ne (Or.inl (by omega))
    by_cases c1 : T ≤ s
    · have e1 : q_te b T p = s := by unfold q_te; rw [hts, if_pos c1]
      have e2 : q_tk b T p = 0 := by unfold q_tk; rw [hts, if_pos c1]
      rw [e1, e2] at key
      refine h39 _ _ _ ?_
      simp only [z_push, z_lpush, z_iload, z_lload, z_aload, z_istore, z_istoreP, z_lstore, z_astore, z_iinc, z_iincP, z_iadd, z_isub, z_imul, z_iaddW, z_isubW, z_imulW, z_idiv, z_irem, z_iand, z_ior, z_ixor, z_ishl, z_ishr, z_iushr, z_ineg, z_i2l, z_i2b, z_i2s, z_i2c, z_l2i, z_ladd, z_lsub, z_land, z_lor, z_lshl, z_lshr, z_lcmp, z_dup, z_pop, z_dup2, z_goto, z_tsw, z_cases, z_geti, z_getr, z_puti, z_putz, z_ald, z_iast, z_bast, z_zast, z_alen, z_acopy, z_mmax, z_mmin, z_mabs, z_mabsL, z_iret, z_zret, z_nret, z_lret, z_aret, z_vret, z_cat, z_xald, z_xlen, z_ldcs, z_strv, z_strc, z_gcs, z_gfm, z_sln, z_sald, z_ifeq, z_ifne, z_iflt, z_ifge, z_ifgt, z_ifle, z_iceq, z_icne, z_iclt, z_icge, z_icgt, z_icle, z_cs0, z_cs1, z_cs2, z_cs3, z_cs4, z_cs5, z_cs6, z_cs7, z_cv0, z_cv1, z_cv2, z_cv3, z_cv4, z_cv5, z_cv6, z_cv7, z_g0, z_s0, z_g1, z_s1, z_g2, z_s2, z_g3, z_s3, z_g4, z_s4, z_g5, z_s5, z_g6, z_s6, z_g7, z_s7, z_g8, z_s8, z_g9, z_s9, z_g10, z_s10, z_g11, z_s11, z_g12, z_s12, z_g13, z_s13, z_b0, z_b1, z_b0n, z_b1n, z_up_far1, z_up_far2, z_up_far3, z_up_far4, z_up_far5, z_up_far6, Classical.not_not, not_true_eq_false, z_in, z_inL, Int.cast_ofNat_Int, Nat.reduceLeDiff, List.length_cons, List.length_nil, Nat.reduceAdd, Nat.zero_add, Nat.le_refl, true_and, and_true, List.length, Nat.reduceLT, true_or, or_true, false_or, or_false, false_and, and_false, not_true_eq_false, not_false_eq_true, forall_const, false_implies, true_implies, Int.reduceEq, Int.reduceLT, Int.reduceLE, Int.reduceAdd, Int.reduceSub, Int.reduceMul, Int.reduceNeg, Int.reduceToNat, Int.toNat_natCast, ↓reduceIte, reduceIte, Nat.reduceEqDiff, Nat.reduceSub, Nat.reduceMul, ne_eq, Int.zero_add, Int.add_zero, Int.sub_zero, Nat.add_zero, Int.ofNat_eq_natCast, tX4_next_39, SX4_byteAt, SX4_isLetter, SX4_isFigure, r1, f4, z_up_same, ra]
      repeat' (first | (intro _) | (with_reducible assumption) | (refine And.intro ?_ ?_))
      all_goals first | omega | assumption | (refine z_fin h ?_ rfl; first | rfl | omega | (split <;> omega) | (split <;> split <;> omega)) | skip
      refine key _ 0 (fun c j hc => ?_) ?_ ?_ ?_ ?_
      · rw [z_up_ne (by omega), z_up_ne (by omega), z_up_ne (by omega)]; exact f1 c j hc
      · simp only [z_up_same, Nat.reduceEqDiff, ↓reduceIte]
      · simp only [z_up_same, Nat.reduceEqDiff, ↓reduceIte, f4]
      · simp only [z_up_same, Nat.reduceEqDiff, ↓reduceIte]
      · intro q; exact absurd q (by decide)
    · by_cases c2 : q_let (b s) = true
      · have e1 : q_te b T p = q_end (fun i => q_let (b i)) s (T - s) := by unfold q_te; rw [hts, if_neg c1, if_pos c2]
        have e2 : q_tk b T p = 1 := by unfold q_tk; rw [hts, if_neg c1, if_pos c2]
        rw [e1, e2] at key
        generalize hend : q_end (fun i => q_let (b i)) s (T - s) = en at key
        have X92 : ∀ (d q i : Nat) (τ : zM), q + d = T → i + s = q → q_end (fun i => q_let (b i)) q (T - q) = en → (∀ c j, ¬ (c = k0 ∧ (j = 2 ∨ j = 4 ∨ j = 5 ∨ j = 6)) → τ c j = σ c j) → τ k0 2 = (s : Int) → τ k0 4 = (q : Int) → τ k0 5 = 1 → X 92 [some (.inr (.inr (4, 0, k0))), some (.inl (i : Int))] [] τ := by
          intro d
          induction d with
          | zero =>
            intro q i τ hq hi hend f1 f2 f4 f5
            obtain ⟨r1, ra⟩ := FR τ f1
            have e : q = T := by omega
            subst e
            rw [show q - q = 0 by omega] at hend
            have fin := key τ 0 f1 f2 (by rw [f4, ← hend]; rfl) f5 (fun q => absurd q (by decide))
            have nb : q_let (-1) = false := by decide
            refine h92 _ _ _ ?_
            simp only [z_push, z_lpush, z_iload, z_lload, z_aload, z_istore, z_istoreP, z_lstore, z_astore, z_iinc, z_iincP, z_iadd, z_isub, z_imul, z_iaddW, z_isubW, z_imulW, z_idiv, z_irem, z_iand, z_ior, z_ixor, z_ishl, z_ishr, z_iushr, z_ineg, z_i2l, z_i2b, z_i2s, z_i2c, z_l2i, z_ladd, z_lsub, z_land, z_lor, z_lshl, z_lshr, z_lcmp, z_dup, z_pop, z_dup2, z_goto, z_tsw, z_cases, z_geti, z_getr, z_puti, z_putz, z_ald, z_iast, z_bast, z_zast, z_alen, z_acopy, z_mmax, z_mmin, z_mabs, z_mabsL, z_iret, z_zret, z_nret, z_lret, z_aret, z_vret, z_cat, z_xald, z_xlen, z_ldcs, z_strv, z_strc, z_gcs, z_gfm, z_sln, z_sald, z_ifeq, z_ifne, z_iflt, z_ifge, z_ifgt, z_ifle, z_iceq, z_icne, z_iclt, z_icge, z_icgt, z_icle, z_cs0, z_cs1, z_cs2, z_cs3, z_cs4, z_cs5, z_cs6, z_cs7, z_cv0, z_cv1, z_cv2, z_cv3, z_cv4, z_cv5, z_cv6, z_cv7, z_g0, z_s0, z_g1, z_s1, z_g2, z_s2, z_g3, z_s3, z_g4, z_s4, z_g5, z_s5, z_g6, z_s6, z_g7, z_s7, z_g8, z_s8, z_g9, z_s9, z_g10, z_s10, z_g11, z_s11, z_g12, z_s12, z_g13, z_s13, z_b0, z_b1, z_b0n, z_b1n, z_up_far1, z_up_far2, z_up_far3, z_up_far4, z_up_far5, z_up_far6, Classical.not_not, not_true_eq_false, z_in, z_inL, Int.cast_ofNat_Int, Nat.reduceLeDiff, List.length_cons, List.length_nil, Nat.reduceAdd, Nat.zero_add, Nat.le_refl, true_and, and_true, List.length, Nat.reduceLT, true_or, or_true, false_or, or_false, false_and, and_false, not_true_eq_false, not_false_eq_true, forall_const, false_implies, true_implies, Int.reduceEq, Int.reduceLT, Int.reduceLE, Int.reduceAdd, Int.reduceSub, Int.reduceMul, Int.reduceNeg, Int.reduceToNat, Int.toNat_natCast, ↓reduceIte, reduceIte, Nat.reduceEqDiff, Nat.reduceSub, Nat.reduceMul, ne_eq, Int.zero_add, Int.add_zero, Int.sub_zero, Nat.add_zero, Int.ofNat_eq_natCast, tX4_next_92, SX4_byteAt, SX4_isLetter, r1, ra, f4, hby, bT, nb, Bool.false_eq_true]
            repeat' (first | (intro _) | (with_reducible assumption) | (refine And.intro ?_ ?_))
            all_goals first | omega | assumption | (refine z_fin h ?_ rfl; first | rfl | omega | (split <;> omega) | (split <;> split <;> omega)) | skip
          | succ d ih =>
            intro q i τ hq hi hend f1 f2 f4 f5
            obtain ⟨r1, ra⟩ := FR τ f1
            refine h92 _ _ _ ?_
            by_cases g : q_let (b q) = true
            · have e1 := ih (q + 1) (i + 1) (z_up τ k0 4 ((q : Int) + 1)) (by omega) (by omega) (by rw [← hend]; exact (q_end_S (by omega) g).symm) (fun c j hc => by rw [z_up_ne (by omega)]; exact f1 c j hc) (by rw [z_up_ne (by omega)]; exact f2) (by rw [z_up_eq]; rfl) (by rw [z_up_ne (by omega)]; exact f5)
              simp only [z_push, z_lpush, z_iload, z_lload, z_aload, z_istore, z_istoreP, z_lstore, z_astore, z_iinc, z_iincP, z_iadd, z_isub, z_imul, z_iaddW, z_isubW, z_imulW, z_idiv, z_irem, z_iand, z_ior, z_ixor, z_ishl, z_ishr, z_iushr, z_ineg, z_i2l, z_i2b, z_i2s, z_i2c, z_l2i, z_ladd, z_lsub, z_land, z_lor, z_lshl, z_lshr, z_lcmp, z_dup, z_pop, z_dup2, z_goto, z_tsw, z_cases, z_geti, z_getr, z_puti, z_putz, z_ald, z_iast, z_bast, z_zast, z_alen, z_acopy, z_mmax, z_mmin, z_mabs, z_mabsL, z_iret, z_zret, z_nret, z_lret, z_aret, z_vret, z_cat, z_xald, z_xlen, z_ldcs, z_strv, z_strc, z_gcs, z_gfm, z_sln, z_sald, z_ifeq, z_ifne, z_iflt, z_ifge, z_ifgt, z_ifle, z_iceq, z_icne, z_iclt, z_icge, z_icgt, z_icle, z_cs0, z_cs1, z_cs2, z_cs3, z_cs4, z_cs5, z_cs6, z_cs7, z_cv0, z_cv1, z_cv2, z_cv3, z_cv4, z_cv5, z_cv6, z_cv7, z_g0, z_s0, z_g1, z_s1, z_g2, z_s2, z_g3, z_s3, z_g4, z_s4, z_g5, z_s5, z_g6, z_s6, z_g7, z_s7, z_g8, z_s8, z_g9, z_s9, z_g10, z_s10, z_g11, z_s11, z_g12, z_s12, z_g13, z_s13, z_b0, z_b1, z_b0n, z_b1n, z_up_far1, z_up_far2, z_up_far3, z_up_far4, z_up_far5, z_up_far6, Classical.not_not, not_true_eq_false, z_in, z_inL, Int.cast_ofNat_Int, Nat.reduceLeDiff, List.length_cons, List.length_nil, Nat.reduceAdd, Nat.zero_add, Nat.le_refl, true_and, and_true, List.length, Nat.reduceLT, true_or, or_true, false_or, or_false, false_and, and_false, not_true_eq_false, not_false_eq_true, forall_const, false_implies, true_implies, Int.reduceEq, Int.reduceLT, Int.reduceLE, Int.reduceAdd, Int.reduceSub, Int.reduceMul, Int.reduceNeg, Int.reduceToNat, Int.toNat_natCast, ↓reduceIte, reduceIte, Nat.reduceEqDiff, Nat.reduceSub, Nat.reduceMul, ne_eq, Int.zero_add, Int.add_zero, Int.sub_zero, Nat.add_zero, Int.ofNat_eq_natCast, tX4_next_92, SX4_byteAt, SX4_isLetter, r1, ra, f4, hby, g]
              repeat' (first | (intro _) | (with_reducible assumption) | (refine And.intro ?_ ?_))
              all_goals first | omega | assumption | (refine z_fin h ?_ rfl; first | rfl | omega | (split <;> omega) | (split <;> split <;> omega)) | skip
            · have g2 : q_let (b q) = false := by simpa using g
              have fin := key τ 0 f1 f2 (by rw [f4, ← hend, q_end_N (f := fun i => q_let (b i)) g2]) f5 (fun q => absurd q (by decide))
              simp only [z_push, z_lpush, z_iload, z_lload, z_aload, z_istore, z_istoreP, z_lstore, z_astore, z_iinc, z_iincP, z_iadd, z_isub, z_imul, z_iaddW, z_isubW, z_imulW, z_idiv, z_irem, z_iand, z_ior, z_ixor, z_ishl, z_ishr, z_iushr, z_ineg, z_i2l, z_i2b, z_i2s, z_i2c, z_l2i, z_ladd, z_lsub, z_land, z_lor, z_lshl, z_lshr, z_lcmp, z_dup, z_pop, z_dup2, z_goto, z_tsw, z_cases, z_geti, z_getr, z_puti, z_putz, z_ald, z_iast, z_bast, z_zast, z_alen, z_acopy, z_mmax, z_mmin, z_mabs, z_mabsL, z_iret, z_zret, z_nret, z_lret, z_aret, z_vret, z_cat, z_xald, z_xlen, z_ldcs, z_strv, z_strc, z_gcs, z_gfm, z_sln, z_sald, z_ifeq, z_ifne, z_iflt, z_ifge, z_ifgt, z_ifle, z_iceq, z_icne, z_iclt, z_icge, z_icgt, z_icle, z_cs0, z_cs1, z_cs2, z_cs3, z_cs4, z_cs5, z_cs6, z_cs7, z_cv0, z_cv1, z_cv2, z_cv3, z_cv4, z_cv5, z_cv6, z_cv7, z_g0, z_s0, z_g1, z_s1, z_g2, z_s2, z_g3, z_s3, z_g4, z_s4, z_g5, z_s5, z_g6, z_s6, z_g7, z_s7, z_g8, z_s8, z_g9, z_s9, z_g10, z_s10, z_g11, z_s11, z_g12, z_s12, z_g13, z_s13, z_b0, z_b1, z_b0n, z_b1n, z_up_far1, z_up_far2, z_up_far3, z_up_far4, z_up_far5, z_up_far6, Classical.not_not, not_true_eq_false, z_in, z_inL, Int.cast_ofNat_Int, Nat.reduceLeDiff, List.length_cons, List.length_nil, Nat.reduceAdd, Nat.zero_add, Nat.le_refl, true_and, and_true, List.length, Nat.reduceLT, true_or, or_true, false_or, or_false, false_and, and_false, not_true_eq_false, not_false_eq_true, forall_const, false_implies, true_implies, Int.reduceEq, Int.reduceLT, Int.reduceLE, Int.reduceAdd, Int.reduceSub, Int.reduceMul, Int.reduceNeg, Int.reduceToNat, Int.toNat_natCast, ↓reduceIte, reduceIte, Nat.reduceEqDiff, Nat.reduceSub, Nat.reduceMul, ne_eq, Int.zero_add, Int.add_zero, Int.sub_zero, Nat.add_zero, Int.ofNat_eq_natCast, tX4_next_92, SX4_byteAt, SX4_isLetter, r1, ra, f4, hby, g2, Bool.false_eq_true]
              repeat' (first | (intro _) | (with_reducible assumption) | (refine And.intro ?_ ?_))
              all_goals first | omega | assumption | (refine z_fin h ?_ rfl; first | rfl | omega | (split <;> omega) | (split <;> split <;> omega)) | skip
        refine h39 _ _ _ ?_
        simp only [z_push, z_lpush, z_iload, z_lload, z_aload, z_istore, z_istoreP, z_lstore, z_astore, z_iinc, z_iincP, z_iadd, z_isub, z_imul, z_iaddW, z_isubW, z_imulW, z_idiv, z_irem, z_iand, z_ior, z_ixor, z_ishl, z_ishr, z_iushr, z_ineg, z_i2l, z_i2b, z_i2s, z_i2c, z_l2i, z_ladd, z_lsub, z_land, z_lor, z_lshl, z_lshr, z_lcmp, z_dup, z_pop, z_dup2, z_goto, z_tsw, z_cases, z_geti, z_getr, z_puti, z_putz, z_ald, z_iast, z_bast, z_zast, z_alen, z_acopy, z_mmax, z_mmin, z_mabs, z_mabsL, z_iret, z_zret, z_nret, z_lret, z_aret, z_vret, z_cat, z_xald, z_xlen, z_ldcs, z_strv, z_strc, z_gcs, z_gfm, z_sln, z_sald, z_ifeq, z_ifne, z_iflt, z_ifge, z_ifgt, z_ifle, z_iceq, z_icne, z_iclt, z_icge, z_icgt, z_icle, z_cs0, z_cs1, z_cs2, z_cs3, z_cs4, z_cs5, z_cs6, z_cs7, z_cv0, z_cv1, z_cv2, z_cv3, z_cv4, z_cv5, z_cv6, z_cv7, z_g0, z_s0, z_g1, z_s1, z_g2, z_s2, z_g3, z_s3, z_g4, z_s4, z_g5, z_s5, z_g6, z_s6, z_g7, z_s7, z_g8, z_s8, z_g9, z_s9, z_g10, z_s10, z_g11, z_s11, z_g12, z_s12, z_g13, z_s13, z_b0, z_b1, z_b0n, z_b1n, z_up_far1, z_up_far2, z_up_far3, z_up_far4, z_up_far5, z_up_far6, Classical.not_not, not_true_eq_false, z_in, z_inL, Int.cast_ofNat_Int, Nat.reduceLeDiff, List.length_cons, List.length_nil, Nat.reduceAdd, Nat.zero_add, Nat.le_refl, true_and, and_true, List.length, Nat.reduceLT, true_or, or_true, false_or, or_false, false_and, and_false, not_true_eq_false, not_false_eq_true, forall_const, false_implies, true_implies, Int.reduceEq, Int.reduceLT, Int.reduceLE, Int.reduceAdd, Int.reduceSub, Int.reduceMul, Int.reduceNeg, Int.reduceToNat, Int.toNat_natCast, ↓reduceIte, reduceIte, Nat.reduceEqDiff, Nat.reduceSub, Nat.reduceMul, ne_eq, Int.zero_add, Int.add_zero, Int.sub_zero, Nat.add_zero, Int.ofNat_eq_natCast, tX4_next_39, SX4_byteAt, SX4_isLetter, SX4_isFigure, r1, f4, z_up_same, far, ra, hby, c2]
        repeat' (first | (intro _) | (with_reducible assumption) | (refine And.intro ?_ ?_))
        all_goals first | omega | assumption | (refine z_fin h ?_ rfl; first | rfl | omega | (split <;> omega) | (split <;> split <;> omega)) | skip
        refine X92 (T - s) s 0 _ (by omega) (by omega) hend (fun c j hc => ?_) ?_ ?_ ?_
        · rw [z_up_ne (by omega), z_up_ne (by omega), z_up_ne (by omega)]; exact f1 c j hc
        · simp only [z_up_same, Nat.reduceEqDiff, ↓reduceIte]
        · simp only [z_up_same, Nat.reduceEqDiff, ↓reduceIte, f4]
        · simp only [z_up_same, Nat.reduceEqDiff, ↓reduceIte]
      · have c2' : q_let (b s) = false := by simpa using c2
        by_cases c3 : q_fig (b s) = true
        · have e1 : q_te b T p = q_end (fun i => q_fig (b i)) s (T - s) := by unfold q_te; rw [hts, if_neg c1, if_neg c2, if_pos c3]
          have e2 : q_tk b T p = if s + 3 < q_te b T p then 4 else 2 := by unfold q_tk; rw [hts, if_neg c1, if_neg c2, if_pos c3]
          rw [e2, e1] at key
          rw [e1] at he
          generalize hend : q_end (fun i => q_fig (b i)) s (T - s) = en at key he
          have X208 : ∀ (τ : zM) (u : Option zV), (∀ c j, ¬ (c = k0 ∧ (j = 2 ∨ j = 4 ∨ j = 5 ∨ j = 6)) → τ c j = σ c j) → τ k0 2 = (s : Int) → τ k0 4 = (en : Int) → (en - s ≤ 3 → τ k0 6 = q_num b s (en - s)) → X 208 [some (.inr (.inr (4, 0, k0))), u] [] τ := by
            intro τ u f1 f2 f4 f6
            have fin := fun v => key (z_up τ k0 5 v) 0 (fun c j hc => by rw [z_up_ne (by omega)]; exact f1 c j hc) (by rw [z_up_ne (by omega)]; exact f2) (by rw [z_up_ne (by omega)]; exact f4)
            refine h208 _ _ _ ?_
            simp only [z_push, z_lpush, z_iload, z_lload, z_aload, z_istore, z_istoreP, z_lstore, z_astore, z_iinc, z_iincP, z_iadd, z_isub, z_imul, z_iaddW, z_isubW, z_imulW, z_idiv, z_irem, z_iand, z_ior, z_ixor, z_ishl, z_ishr, z_iushr, z_ineg, z_i2l, z_i2b, z_i2s, z_i2c, z_l2i, z_ladd, z_lsub, z_land, z_lor, z_lshl, z_lshr, z_lcmp, z_dup, z_pop, z_dup2, z_goto, z_tsw, z_cases, z_geti, z_getr, z_puti, z_putz, z_ald, z_iast, z_bast, z_zast, z_alen, z_acopy, z_mmax, z_mmin, z_mabs, z_mabsL, z_iret, z_zret, z_nret, z_lret, z_aret, z_vret, z_cat, z_xald, z_xlen, z_ldcs, z_strv, z_strc, z_gcs, z_gfm, z_sln, z_sald, z_ifeq, z_ifne, z_iflt, z_ifge, z_ifgt, z_ifle, z_iceq, z_icne, z_iclt, z_icge, z_icgt, z_icle, z_cs0, z_cs1, z_cs2, z_cs3, z_cs4, z_cs5, z_cs6, z_cs7, z_cv0, z_cv1, z_cv2, z_cv3, z_cv4, z_cv5, z_cv6, z_cv7, z_g0, z_s0, z_g1, z_s1, z_g2, z_s2, z_g3, z_s3, z_g4, z_s4, z_g5, z_s5, z_g6, z_s6, z_g7, z_s7, z_g8, z_s8, z_g9, z_s9, z_g10, z_s10, z_g11, z_s11, z_g12, z_s12, z_g13, z_s13, z_b0, z_b1, z_b0n, z_b1n, z_up_far1, z_up_far2, z_up_far3, z_up_far4, z_up_far5, z_up_far6, Classical.not_not, not_true_eq_false, z_in, z_inL, Int.cast_ofNat_Int, Nat.reduceLeDiff, List.length_cons, List.length_nil, Nat.reduceAdd, Nat.zero_add, Nat.le_refl, true_and, and_true, List.length, Nat.reduceLT, true_or, or_true, false_or, or_false, false_and, and_false, not_true_eq_false, not_false_eq_true, forall_const, false_implies, true_implies, Int.reduceEq, Int.reduceLT, Int.reduceLE, Int.reduceAdd, Int.reduceSub, Int.reduceMul, Int.reduceNeg, Int.reduceToNat, Int.toNat_natCast, ↓reduceIte, reduceIte, Nat.reduceEqDiff, Nat.reduceSub, Nat.reduceMul, ne_eq, Int.zero_add, Int.add_zero, Int.sub_zero, Nat.add_zero, Int.ofNat_eq_natCast, tX4_next_208, f2, f4]
            repeat' (first | (intro _) | (with_reducible assumption) | (refine And.intro ?_ ?_))
            all_goals first | omega | assumption | (refine z_fin h ?_ rfl; first | rfl | omega | (split <;> omega) | (split <;> split <;> omega)) | skip
            · refine fin 2 ?_ (fun _ => ?_)
              · rw [z_up_eq, if_neg (by omega)]
              · rw [z_up_ne (by omega)]; exact f6 (by omega)
            · refine fin 4 ?_ (fun q => ?_)
              · rw [z_up_eq, if_pos (by omega)]
              · rw [if_pos (by omega)] at q; exact absurd q (by decide)
          have X148 : ∀ (d q i : Nat) (τ : zM), q + d = T → i + s = q → q_end (fun i => q_fig (b i)) q (T - q) = en → (∀ c j, ¬ (c = k0 ∧ (j = 2 ∨ j = 4 ∨ j = 5 ∨ j = 6)) → τ c j = σ c j) → τ k0 2 = (s : Int) → τ k0 4 = (q : Int) → (i ≤ 3 → τ k0 6 = q_num b s i ∧ 0 ≤ q_num b s i ∧ (i = 0 → q_num b s i ≤ 0) ∧ (i = 1 → q_num b s i ≤ 9) ∧ (i = 2 → q_num b s i ≤ 99) ∧ q_num b s i ≤ 999) → X 148 [some (.inr (.inr (4, 0, k0))), some (.inl (i : Int))] [] τ := by
            intro d
            induction d with
            | zero =>
              intro q i τ hq hi hend f1 f2 f4 f6
              obtain ⟨r1, ra⟩ := FR τ f1
              have e : q = T := by omega
              subst e
              rw [show q - q = 0 by omega] at hend
              have en_q : en = q := by rw [← hend]; rfl
              have fin := X208 τ (some (.inl (i : Int))) f1 f2 (by rw [f4, en_q]) (fun z => by rw [show en - s = i by omega]; exact (f6 (by omega)).1)
              have nb : q_fig (-1) = false := by decide
              refine h148 _ _ _ ?_
              simp only [z_push, z_lpush, z_iload, z_lload, z_aload, z_istore, z_istoreP, z_lstore, z_astore, z_iinc, z_iincP, z_iadd, z_isub, z_imul, z_iaddW, z_isubW, z_imulW, z_idiv, z_irem, z_iand, z_ior, z_ixor, z_ishl, z_ishr, z_iushr, z_ineg, z_i2l, z_i2b, z_i2s, z_i2c, z_l2i, z_ladd, z_lsub, z_land, z_lor, z_lshl, z_lshr, z_lcmp, z_dup, z_pop, z_dup2, z_goto, z_tsw, z_cases, z_geti, z_getr, z_puti, z_putz, z_ald, z_iast, z_bast, z_zast, z_alen, z_acopy, z_mmax, z_mmin, z_mabs, z_mabsL, z_iret, z_zret, z_nret, z_lret, z_aret, z_vret, z_cat, z_xald, z_xlen, z_ldcs, z_strv, z_strc, z_gcs, z_gfm, z_sln, z_sald, z_ifeq, z_ifne, z_iflt, z_ifge, z_ifgt, z_ifle, z_iceq, z_icne, z_iclt, z_icge, z_icgt, z_icle, z_cs0, z_cs1, z_cs2, z_cs3, z_cs4, z_cs5, z_cs6, z_cs7, z_cv0, z_cv1, z_cv2, z_cv3, z_cv4, z_cv5, z_cv6, z_cv7, z_g0, z_s0, z_g1, z_s1, z_g2, z_s2, z_g3, z_s3, z_g4, z_s4, z_g5, z_s5, z_g6, z_s6, z_g7, z_s7, z_g8, z_s8, z_g9, z_s9, z_g10, z_s10, z_g11, z_s11, z_g12, z_s12, z_g13, z_s13, z_b0, z_b1, z_b0n, z_b1n, z_up_far1, z_up_far2, z_up_far3, z_up_far4, z_up_far5, z_up_far6, Classical.not_not, not_true_eq_false, z_in, z_inL, Int.cast_ofNat_Int, Nat.reduceLeDiff, List.length_cons, List.length_nil, Nat.reduceAdd, Nat.zero_add, Nat.le_refl, true_and, and_true, List.length, Nat.reduceLT, true_or, or_true, false_or, or_false, false_and, and_false, not_true_eq_false, not_false_eq_true, forall_const, false_implies, true_implies, Int.reduceEq, Int.reduceLT, Int.reduceLE, Int.reduceAdd, Int.reduceSub, Int.reduceMul, Int.reduceNeg, Int.reduceToNat, Int.toNat_natCast, ↓reduceIte, reduceIte, Nat.reduceEqDiff, Nat.reduceSub, Nat.reduceMul, ne_eq, Int.zero_add, Int.add_zero, Int.sub_zero, Nat.add_zero, Int.ofNat_eq_natCast, tX4_next_148, SX4_byteAt, SX4_isFigure, r1, ra, f4, hby, bT, nb, Bool.false_eq_true]
              repeat' (first | (intro _) | (with_reducible assumption) | (refine And.intro ?_ ?_))
              all_goals first | omega | assumption | (refine z_fin h ?_ rfl; first | rfl | omega | (split <;> omega) | (split <;> split <;> omega)) | skip
            | succ d ih =>
              intro q i τ hq hi hend f1 f2 f4 f6
              obtain ⟨r1, ra⟩ := FR τ f1
              refine h148 _ _ _ ?_
              by_cases g : q_fig (b q) = true
              · have g48 : 48 ≤ b q ∧ b q ≤ 57 := by simpa only [q_fig, decide_eq_true_eq] using g
                have e1 := ih (q + 1) (i + 1) (z_up (z_up τ k0 6 (z_wr (z_wr (z_wr (10 * τ k0 6) + b q) - 48))) k0 4 ((q : Int) + 1)) (by omega) (by omega) (by rw [← hend]; exact (q_end_S (by omega) g).symm) (fun c j hc => by rw [z_up_ne (by omega), z_up_ne (by omega)]; exact f1 c j hc) (by rw [z_up_ne (by omega), z_up_ne (by omega)]; exact f2) (by rw [z_up_eq]; rfl) (fun hi3 => by
                  obtain ⟨w1, w2, w3, w4, w5, w6⟩ := f6 (by omega)
                  have sq : q_num b s (i + 1) = 10 * q_num b s i + b q - 48 := by rw [q_num, show s + i = q by omega]
                  have ub : q_num b s i ≤ 99 := by
                    have : i = 0 ∨ i = 1 ∨ i = 2 := by omega
                    rcases this with r | r | r
                    · have := w3 r; omega
                    · have := w4 r; omega
                    · exact w5 r
                  refine ⟨?_, ?_, ?_, ?_, ?_, ?_⟩
                  · rw [z_up_ne (by omega), z_up_eq, sq, w1, z_wr_eq (x := 10 * q_num b s i) (by omega), z_wr_eq (x := 10 * q_num b s i + b q) (by omega), z_wr_eq (by omega)]
                  · rw [sq]; omega
                  · intro z; omega
                  · intro z; have := w3 (by omega); rw [sq]; omega
                  · intro z; have := w4 (by omega); rw [sq]; omega
                  · rw [sq]; omega)
                simp only [z_push, z_lpush, z_iload, z_lload, z_aload, z_istore, z_istoreP, z_lstore, z_astore, z_iinc, z_iincP, z_iadd, z_isub, z_imul, z_iaddW, z_isubW, z_imulW, z_idiv, z_irem, z_iand, z_ior, z_ixor, z_ishl, z_ishr, z_iushr, z_ineg, z_i2l, z_i2b, z_i2s, z_i2c, z_l2i, z_ladd, z_lsub, z_land, z_lor, z_lshl, z_lshr, z_lcmp, z_dup, z_pop, z_dup2, z_goto, z_tsw, z_cases, z_geti, z_getr, z_puti, z_putz, z_ald, z_iast, z_bast, z_zast, z_alen, z_acopy, z_mmax, z_mmin, z_mabs, z_mabsL, z_iret, z_zret, z_nret, z_lret, z_aret, z_vret, z_cat, z_xald, z_xlen, z_ldcs, z_strv, z_strc, z_gcs, z_gfm, z_sln, z_sald, z_ifeq, z_ifne, z_iflt, z_ifge, z_ifgt, z_ifle, z_iceq, z_icne, z_iclt, z_icge, z_icgt, z_icle, z_cs0, z_cs1, z_cs2, z_cs3, z_cs4, z_cs5, z_cs6, z_cs7, z_cv0, z_cv1, z_cv2, z_cv3, z_cv4, z_cv5, z_cv6, z_cv7, z_g0, z_s0, z_g1, z_s1, z_g2, z_s2, z_g3, z_s3, z_g4, z_s4, z_g5, z_s5, z_g6, z_s6, z_g7, z_s7, z_g8, z_s8, z_g9, z_s9, z_g10, z_s10, z_g11, z_s11, z_g12, z_s12, z_g13, z_s13, z_b0, z_b1, z_b0n, z_b1n, z_up_far1, z_up_far2, z_up_far3, z_up_far4, z_up_far5, z_up_far6, Classical.not_not, not_true_eq_false, z_in, z_inL, Int.cast_ofNat_Int, Nat.reduceLeDiff, List.length_cons, List.length_nil, Nat.reduceAdd, Nat.zero_add, Nat.le_refl, true_and, and_true, List.length, Nat.reduceLT, true_or, or_true, false_or, or_false, false_and, and_false, not_true_eq_false, not_false_eq_true, forall_const, false_implies, true_implies, Int.reduceEq, Int.reduceLT, Int.reduceLE, Int.reduceAdd, Int.reduceSub, Int.reduceMul, Int.reduceNeg, Int.reduceToNat, Int.toNat_natCast, ↓reduceIte, reduceIte, Nat.reduceEqDiff, Nat.reduceSub, Nat.reduceMul, ne_eq, Int.zero_add, Int.add_zero, Int.sub_zero, Nat.add_zero, Int.ofNat_eq_natCast, tX4_next_148, SX4_byteAt, SX4_isFigure, r1, ra, f4, hby, g, z_up_same]
                repeat' (first | (intro _) | (with_reducible assumption) | (refine And.intro ?_ ?_))
                all_goals first | omega | assumption | (refine z_fin h ?_ rfl; first | rfl | omega | (split <;> omega) | (split <;> split <;> omega)) | skip
              · have g2 : q_fig (b q) = false := by simpa using g
                have en_q : en = q := by rw [← hend, q_end_N (f := fun i => q_fig (b i)) g2]
                have fin := X208 τ (some (.inl (i : Int))) f1 f2 (by rw [f4, en_q]) (fun z => by rw [show en - s = i by omega]; exact (f6 (by omega)).1)
                simp only [z_push, z_lpush, z_iload, z_lload, z_aload, z_istore, z_istoreP, z_lstore, z_astore, z_iinc, z_iincP, z_iadd, z_isub, z_imul, z_iaddW, z_isubW, z_imulW, z_idiv, z_irem, z_iand, z_ior, z_ixor, z_ishl, z_ishr, z_iushr, z_ineg, z_i2l, z_i2b, z_i2s, z_i2c, z_l2i, z_ladd, z_lsub, z_land, z_lor, z_lshl, z_lshr, z_lcmp, z_dup, z_pop, z_dup2, z_goto, z_tsw, z_cases, z_geti, z_getr, z_puti, z_putz, z_ald, z_iast, z_bast, z_zast, z_alen, z_acopy, z_mmax, z_mmin, z_mabs, z_mabsL, z_iret, z_zret, z_nret, z_lret, z_aret, z_vret, z_cat, z_xald, z_xlen, z_ldcs, z_strv, z_strc, z_gcs, z_gfm, z_sln, z_sald, z_ifeq, z_ifne, z_iflt, z_ifge, z_ifgt, z_ifle, z_iceq, z_icne, z_iclt, z_icge, z_icgt, z_icle, z_cs0, z_cs1, z_cs2, z_cs3, z_cs4, z_cs5, z_cs6, z_cs7, z_cv0, z_cv1, z_cv2, z_cv3, z_cv4, z_cv5, z_cv6, z_cv7, z_g0, z_s0, z_g1, z_s1, z_g2, z_s2, z_g3, z_s3, z_g4, z_s4, z_g5, z_s5, z_g6, z_s6, z_g7, z_s7, z_g8, z_s8, z_g9, z_s9, z_g10, z_s10, z_g11, z_s11, z_g12, z_s12, z_g13, z_s13, z_b0, z_b1, z_b0n, z_b1n, z_up_far1, z_up_far2, z_up_far3, z_up_far4, z_up_far5, z_up_far6, Classical.not_not, not_true_eq_false, z_in, z_inL, Int.cast_ofNat_Int, Nat.reduceLeDiff, List.length_cons, List.length_nil, Nat.reduceAdd, Nat.zero_add, Nat.le_refl, true_and, and_true, List.length, Nat.reduceLT, true_or, or_true, false_or, or_false, false_and, and_false, not_true_eq_false, not_false_eq_true, forall_const, false_implies, true_implies, Int.reduceEq, Int.reduceLT, Int.reduceLE, Int.reduceAdd, Int.reduceSub, Int.reduceMul, Int.reduceNeg, Int.reduceToNat, Int.toNat_natCast, ↓reduceIte, reduceIte, Nat.reduceEqDiff, Nat.reduceSub, Nat.reduceMul, ne_eq, Int.zero_add, Int.add_zero, Int.sub_zero, Nat.add_zero, Int.ofNat_eq_natCast, tX4_next_148, SX4_byteAt, SX4_isFigure, r1, ra, f4, hby, g2, Bool.false_eq_true]
                repeat' (first | (intro _) | (with_reducible assumption) | (refine And.intro ?_ ?_))
                all_goals first | omega | assumption | (refine z_fin h ?_ rfl; first | rfl | omega | (split <;> omega) | (split <;> split <;> omega)) | skip
          refine h39 _ _ _ ?_
          simp only [z_push, z_lpush, z_iload, z_lload, z_aload, z_istore, z_istoreP, z_lstore, z_astore, z_iinc, z_iincP, z_iadd, z_isub, z_imul, z_iaddW, z_isubW, z_imulW, z_idiv, z_irem, z_iand, z_ior, z_ixor, z_ishl, z_ishr, z_iushr, z_ineg, z_i2l, z_i2b, z_i2s, z_i2c, z_l2i, z_ladd, z_lsub, z_land, z_lor, z_lshl, z_lshr, z_lcmp, z_dup, z_pop, z_dup2, z_goto, z_tsw, z_cases, z_geti, z_getr, z_puti, z_putz, z_ald, z_iast, z_bast, z_zast, z_alen, z_acopy, z_mmax, z_mmin, z_mabs, z_mabsL, z_iret, z_zret, z_nret, z_lret, z_aret, z_vret, z_cat, z_xald, z_xlen, z_ldcs, z_strv, z_strc, z_gcs, z_gfm, z_sln, z_sald, z_ifeq, z_ifne, z_iflt, z_ifge, z_ifgt, z_ifle, z_iceq, z_icne, z_iclt, z_icge, z_icgt, z_icle, z_cs0, z_cs1, z_cs2, z_cs3, z_cs4, z_cs5, z_cs6, z_cs7, z_cv0, z_cv1, z_cv2, z_cv3, z_cv4, z_cv5, z_cv6, z_cv7, z_g0, z_s0, z_g1, z_s1, z_g2, z_s2, z_g3, z_s3, z_g4, z_s4, z_g5, z_s5, z_g6, z_s6, z_g7, z_s7, z_g8, z_s8, z_g9, z_s9, z_g10, z_s10, z_g11, z_s11, z_g12, z_s12, z_g13, z_s13, z_b0, z_b1, z_b0n, z_b1n, z_up_far1, z_up_far2, z_up_far3, z_up_far4, z_up_far5, z_up_far6, Classical.not_not, not_true_eq_false, z_in, z_inL, Int.cast_ofNat_Int, Nat.reduceLeDiff, List.length_cons, List.length_nil, Nat.reduceAdd, Nat.zero_add, Nat.le_refl, true_and, and_true, List.length, Nat.reduceLT, true_or, or_true, false_or, or_false, false_and, and_false, not_true_eq_false, not_false_eq_true, forall_const, false_implies, true_implies, Int.reduceEq, Int.reduceLT, Int.reduceLE, Int.reduceAdd, Int.reduceSub, Int.reduceMul, Int.reduceNeg, Int.reduceToNat, Int.toNat_natCast, ↓reduceIte, reduceIte, Nat.reduceEqDiff, Nat.reduceSub, Nat.reduceMul, ne_eq, Int.zero_add, Int.add_zero, Int.sub_zero, Nat.add_zero, Int.ofNat_eq_natCast, tX4_next_39, SX4_byteAt, SX4_isLetter, SX4_isFigure, r1, f4, z_up_same, far, ra, hby, c2', c3, Bool.false_eq_true]
          repeat' (first | (intro _) | (with_reducible assumption) | (refine And.intro ?_ ?_))
          all_goals first | omega | assumption | (refine z_fin h ?_ rfl; first | rfl | omega | (split <;> omega) | (split <;> split <;> omega)) | skip
          refine X148 (T - s) s 0 _ (by omega) (by omega) hend (fun c j hc => ?_) ?_ ?_ (fun _ => ⟨?_, ?_⟩)
          · rw [z_up_ne (by omega), z_up_ne (by omega)]; exact f1 c j hc
          · simp only [z_up_same, Nat.reduceEqDiff, ↓reduceIte]
          · simp only [z_up_same, Nat.reduceEqDiff, ↓reduceIte, f4]
          · simp only [z_up_same, Nat.reduceEqDiff, ↓reduceIte, q_num]
          · simp [q_num]
        · have c3' : q_fig (b s) = false := by simpa using c3
          have e1 : q_te b T p = s + 1 := by unfold q_te; rw [hts, if_neg c1, if_neg c2, if_neg c3]
          have e2 : q_tk b T p = if b s = 59 then 3 else 4 := by unfold q_tk; rw [hts, if_neg c1, if_neg c2, if_neg c3]
          rw [e1, e2] at key
          refine h39 _ _ _ ?_
          simp only [z_push, z_lpush, z_iload, z_lload, z_aload, z_istore, z_istoreP, z_lstore, z_astore, z_iinc, z_iincP, z_iadd, z_isub, z_imul, z_iaddW, z_isubW, z_imulW, z_idiv, z_irem, z_iand, z_ior, z_ixor, z_ishl, z_ishr, z_iushr, z_ineg, z_i2l, z_i2b, z_i2s, z_i2c, z_l2i, z_ladd, z_lsub, z_land, z_lor, z_lshl, z_lshr, z_lcmp, z_dup, z_pop, z_dup2, z_goto, z_tsw, z_cases, z_geti, z_getr, z_puti, z_putz, z_ald, z_iast, z_bast, z_zast, z_alen, z_acopy, z_mmax, z_mmin, z_mabs, z_mabsL, z_iret, z_zret, z_nret, z_lret, z_aret, z_vret, z_cat, z_xald, z_xlen, z_ldcs, z_strv, z_strc, z_gcs, z_gfm, z_sln, z_sald, z_ifeq, z_ifne, z_iflt, z_ifge, z_ifgt, z_ifle, z_iceq, z_icne, z_iclt, z_icge, z_icgt, z_icle, z_cs0, z_cs1, z_cs2, z_cs3, z_cs4, z_cs5, z_cs6, z_cs7, z_cv0, z_cv1, z_cv2, z_cv3, z_cv4, z_cv5, z_cv6, z_cv7, z_g0, z_s0, z_g1, z_s1, z_g2, z_s2, z_g3, z_s3, z_g4, z_s4, z_g5, z_s5, z_g6, z_s6, z_g7, z_s7, z_g8, z_s8, z_g9, z_s9, z_g10, z_s10, z_g11, z_s11, z_g12, z_s12, z_g13, z_s13, z_b0, z_b1, z_b0n, z_b1n, z_up_far1, z_up_far2, z_up_far3, z_up_far4, z_up_far5, z_up_far6, Classical.not_not, not_true_eq_false, z_in, z_inL, Int.cast_ofNat_Int, Nat.reduceLeDiff, List.length_cons, List.length_nil, Nat.reduceAdd, Nat.zero_add, Nat.le_refl, true_and, and_true, List.length, Nat.reduceLT, true_or, or_true, false_or, or_false, false_and, and_false, not_true_eq_false, not_false_eq_true, forall_const, false_implies, true_implies, Int.reduceEq, Int.reduceLT, Int.reduceLE, Int.reduceAdd, Int.reduceSub, Int.reduceMul, Int.reduceNeg, Int.reduceToNat, Int.toNat_natCast, ↓reduceIte, reduceIte, Nat.reduceEqDiff, Nat.reduceSub, Nat.reduceMul, ne_eq, Int.zero_add, Int.add_zero, Int.sub_zero, Nat.add_zero, Int.ofNat_eq_natCast, tX4_next_39, SX4_byteAt, SX4_isLetter, SX4_isFigure, r1, f4, z_up_same, far, ra, hby, c2', c3', Bool.false_eq_true]
          repeat' (first | (intro _) | (with_reducible assumption) | (refine And.intro ?_ ?_))
          all_goals first | omega | assumption | (refine z_fin h ?_ rfl; first | rfl | omega | (split <;> omega) | (split <;> split <;> omega)) | skip
          all_goals
            refine key _ 0 (fun c j hc => ?_) ?_ ?_ ?_ ?_
            · rw [z_up_ne (by omega), z_up_ne (by omega), z_up_ne (by omega), z_up_ne (by omega)]; exact f1 c j hc
            · simp only [z_up_same, Nat.reduceEqDiff, ↓reduceIte]
            · simp only [z_up_same, Nat.reduceEqDiff, ↓reduceIte, f4]; rfl
            · simp only [z_up_same, Nat.reduceEqDiff, ↓reduceIte, *]
            · intro q; split at q <;> exact absurd q (by decide)
  have X2 : ∀ (d q i : Nat) (τ : zM), q + d = T → i + p = q → q_end (fun i => q_bl (b i)) q (T - q) = s → (∀ c j, ¬ (c = k0 ∧ (j = 2 ∨ j = 4 ∨ j = 5 ∨ j = 6)) → τ c j = σ c j) → τ k0 4 = (q : Int) → X 2 [some (.inr (.inr (4, 0, k0))), some (.inl (i : Int))] [] τ := by
    intro d
    induction d with
    | zero =>
      intro q i τ hq hi hend f1 f4
      obtain ⟨r1, ra⟩ := FR τ f1
      have e : q = T := by omega
      subst e
      rw [show q - q = 0 by omega] at hend
      have e39 := X39 τ (some (.inl (i : Int))) f1 (by rw [f4, ← hend]; rfl)
      have nb : q_bl (-1) = false := by decide
      refine h2 _ _ _ ?_
      simp only [z_push, z_lpush, z_iload, z_lload, z_aload, z_istore, z_istoreP, z_lstore, z_astore, z_iinc, z_iincP, z_iadd, z_isub, z_imul, z_iaddW, z_isubW, z_imulW, z_idiv, z_irem, z_iand, z_ior, z_ixor, z_ishl, z_ishr, z_iushr, z_ineg, z_i2l, z_i2b, z_i2s, z_i2c, z_l2i, z_ladd, z_lsub, z_land, z_lor, z_lshl, z_lshr, z_lcmp, z_dup, z_pop, z_dup2, z_goto, z_tsw, z_cases, z_geti, z_getr, z_puti, z_putz, z_ald, z_iast, z_bast, z_zast, z_alen, z_acopy, z_mmax, z_mmin, z_mabs, z_mabsL, z_iret, z_zret, z_nret, z_lret, z_aret, z_vret, z_cat, z_xald, z_xlen, z_ldcs, z_strv, z_strc, z_gcs, z_gfm, z_sln, z_sald, z_ifeq, z_ifne, z_iflt, z_ifge, z_ifgt, z_ifle, z_iceq, z_icne, z_iclt, z_icge, z_icgt, z_icle, z_cs0, z_cs1, z_cs2, z_cs3, z_cs4, z_cs5, z_cs6, z_cs7, z_cv0, z_cv1, z_cv2, z_cv3, z_cv4, z_cv5, z_cv6, z_cv7, z_g0, z_s0, z_g1, z_s1, z_g2, z_s2, z_g3, z_s3, z_g4, z_s4, z_g5, z_s5, z_g6, z_s6, z_g7, z_s7, z_g8, z_s8, z_g9, z_s9, z_g10, z_s10, z_g11, z_s11, z_g12, z_s12, z_g13, z_s13, z_b0, z_b1, z_b0n, z_b1n, z_up_far1, z_up_far2, z_up_far3, z_up_far4, z_up_far5, z_up_far6, Classical.not_not, not_true_eq_false, z_in, z_inL, Int.cast_ofNat_Int, Nat.reduceLeDiff, List.length_cons, List.length_nil, Nat.reduceAdd, Nat.zero_add, Nat.le_refl, true_and, and_true, List.length, Nat.reduceLT, true_or, or_true, false_or, or_false, false_and, and_false, not_true_eq_false, not_false_eq_true, forall_const, false_implies, true_implies, Int.reduceEq, Int.reduceLT, Int.reduceLE, Int.reduceAdd, Int.reduceSub, Int.reduceMul, Int.reduceNeg, Int.reduceToNat, Int.toNat_natCast, ↓reduceIte, reduceIte, Nat.reduceEqDiff, Nat.reduceSub, Nat.reduceMul, ne_eq, Int.zero_add, Int.add_zero, Int.sub_zero, Nat.add_zero, Int.ofNat_eq_natCast, tX4_next_2, SX4_byteAt, SX4_isBlank, r1, ra, f4, hby, bT, nb, Bool.false_eq_true]
      repeat' (first | (intro _) | (with_reducible assumption) | (refine And.intro ?_ ?_))
      all_goals first | omega | assumption | (refine z_fin h ?_ rfl; first | rfl | omega | (split <;> omega) | (split <;> split <;> omega)) | skip
    | succ d ih =>
      intro q i τ hq hi hend f1 f4
      obtain ⟨r1, ra⟩ := FR τ f1
      refine h2 _ _ _ ?_
      by_cases g : q_bl (b q) = true
      · have e1 := ih (q + 1) (i + 1) (z_up τ k0 4 ((q : Int) + 1)) (by omega) (by omega) (by rw [← hend]; exact (q_end_S (by omega) g).symm) (fun c j hc => by rw [z_up_ne (by omega)]; exact f1 c j hc) (by rw [z_up_eq]; rfl)
        simp only [z_push, z_lpush, z_iload, z_lload, z_aload, z_istore, z_istoreP, z_lstore, z_astore, z_iinc, z_iincP, z_iadd, z_isub, z_imul, z_iaddW, z_isubW, z_imulW, z_idiv, z_irem, z_iand, z_ior, z_ixor, z_ishl, z_ishr, z_iushr, z_ineg, z_i2l, z_i2b, z_i2s, z_i2c, z_l2i, z_ladd, z_lsub, z_land, z_lor, z_lshl, z_lshr, z_lcmp, z_dup, z_pop, z_dup2, z_goto, z_tsw, z_cases, z_geti, z_getr, z_puti, z_putz, z_ald, z_iast, z_bast, z_zast, z_alen, z_acopy, z_mmax, z_mmin, z_mabs, z_mabsL, z_iret, z_zret, z_nret, z_lret, z_aret, z_vret, z_cat, z_xald, z_xlen, z_ldcs, z_strv, z_strc, z_gcs, z_gfm, z_sln, z_sald, z_ifeq, z_ifne, z_iflt, z_ifge, z_ifgt, z_ifle, z_iceq, z_icne, z_iclt, z_icge, z_icgt, z_icle, z_cs0, z_cs1, z_cs2, z_cs3, z_cs4, z_cs5, z_cs6, z_cs7, z_cv0, z_cv1, z_cv2, z_cv3, z_cv4, z_cv5, z_cv6, z_cv7, z_g0, z_s0, z_g1, z_s1, z_g2, z_s2, z_g3, z_s3, z_g4, z_s4, z_g5, z_s5, z_g6, z_s6, z_g7, z_s7, z_g8, z_s8, z_g9, z_s9, z_g10, z_s10, z_g11, z_s11, z_g12, z_s12, z_g13, z_s13, z_b0, z_b1, z_b0n, z_b1n, z_up_far1, z_up_far2, z_up_far3, z_up_far4, z_up_far5, z_up_far6, Classical.not_not, not_true_eq_false, z_in, z_inL, Int.cast_ofNat_Int, Nat.reduceLeDiff, List.length_cons, List.length_nil, Nat.reduceAdd, Nat.zero_add, Nat.le_refl, true_and, and_true, List.length, Nat.reduceLT, true_or, or_true, false_or, or_false, false_and, and_false, not_true_eq_false, not_false_eq_true, forall_const, false_implies, true_implies, Int.reduceEq, Int.reduceLT, Int.reduceLE, Int.reduceAdd, Int.reduceSub, Int.reduceMul, Int.reduceNeg, Int.reduceToNat, Int.toNat_natCast, ↓reduceIte, reduceIte, Nat.reduceEqDiff, Nat.reduceSub, Nat.reduceMul, ne_eq, Int.zero_add, Int.add_zero, Int.sub_zero, Nat.add_zero, Int.ofNat_eq_natCast, tX4_next_2, SX4_byteAt, SX4_isBlank, r1, ra, f4, hby, g]
        repeat' (first | (intro _) | (with_reducible assumption) | (refine And.intro ?_ ?_))
        all_goals first | omega | assumption | (refine z_fin h ?_ rfl; first | rfl | omega | (split <;> omega) | (split <;> split <;> omega)) | skip
      · have g2 : q_bl (b q) = false := by simpa using g
        have e39 := X39 τ (some (.inl (i : Int))) f1 (by rw [f4, ← hend, q_end_N (f := fun i => q_bl (b i)) g2])
        simp only [z_push, z_lpush, z_iload, z_lload, z_aload, z_istore, z_istoreP, z_lstore, z_astore, z_iinc, z_iincP, z_iadd, z_isub, z_imul, z_iaddW, z_isubW, z_imulW, z_idiv, z_irem, z_iand, z_ior, z_ixor, z_ishl, z_ishr, z_iushr, z_ineg, z_i2l, z_i2b, z_i2s, z_i2c, z_l2i, z_ladd, z_lsub, z_land, z_lor, z_lshl, z_lshr, z_lcmp, z_dup, z_pop, z_dup2, z_goto, z_tsw, z_cases, z_geti, z_getr, z_puti, z_putz, z_ald, z_iast, z_bast, z_zast, z_alen, z_acopy, z_mmax, z_mmin, z_mabs, z_mabsL, z_iret, z_zret, z_nret, z_lret, z_aret, z_vret, z_cat, z_xald, z_xlen, z_ldcs, z_strv, z_strc, z_gcs, z_gfm, z_sln, z_sald, z_ifeq, z_ifne, z_iflt, z_ifge, z_ifgt, z_ifle, z_iceq, z_icne, z_iclt, z_icge, z_icgt, z_icle, z_cs0, z_cs1, z_cs2, z_cs3, z_cs4, z_cs5, z_cs6, z_cs7, z_cv0, z_cv1, z_cv2, z_cv3, z_cv4, z_cv5, z_cv6, z_cv7, z_g0, z_s0, z_g1, z_s1, z_g2, z_s2, z_g3, z_s3, z_g4, z_s4, z_g5, z_s5, z_g6, z_s6, z_g7, z_s7, z_g8, z_s8, z_g9, z_s9, z_g10, z_s10, z_g11, z_s11, z_g12, z_s12, z_g13, z_s13, z_b0, z_b1, z_b0n, z_b1n, z_up_far1, z_up_far2, z_up_far3, z_up_far4, z_up_far5, z_up_far6, Classical.not_not, not_true_eq_false, z_in, z_inL, Int.cast_ofNat_Int, Nat.reduceLeDiff, List.length_cons, List.length_nil, Nat.reduceAdd, Nat.zero_add, Nat.le_refl, true_and, and_true, List.length, Nat.reduceLT, true_or, or_true, false_or, or_false, false_and, and_false, not_true_eq_false, not_false_eq_true, forall_const, false_implies, true_implies, Int.reduceEq, Int.reduceLT, Int.reduceLE, Int.reduceAdd, Int.reduceSub, Int.reduceMul, Int.reduceNeg, Int.reduceToNat, Int.toNat_natCast, ↓reduceIte, reduceIte, Nat.reduceEqDiff, Nat.reduceSub, Nat.reduceMul, ne_eq, Int.zero_add, Int.add_zero, Int.sub_zero, Nat.add_zero, Int.ofNat_eq_natCast, tX4_next_2, SX4_byteAt, SX4_isBlank, r1, ra, f4, hby, g2, Bool.false_eq_true]
        repeat' (first | (intro _) | (with_reducible assumption) | (refine And.intro ?_ ?_))
        all_goals first | omega | assumption | (refine z_fin h ?_ rfl; first | rfl | omega | (split <;> omega) | (split <;> split <;> omega)) | skip
  refine h0 _ _ _ ?_
  simp only [z_push, z_lpush, z_iload, z_lload, z_aload, z_istore, z_istoreP, z_lstore, z_astore, z_iinc, z_iincP, z_iadd, z_isub, z_imul, z_iaddW, z_isubW, z_imulW, z_idiv, z_irem, z_iand, z_ior, z_ixor, z_ishl, z_ishr, z_iushr, z_ineg, z_i2l, z_i2b, z_i2s, z_i2c, z_l2i, z_ladd, z_lsub, z_land, z_lor, z_lshl, z_lshr, z_lcmp, z_dup, z_pop, z_dup2, z_goto, z_tsw, z_cases, z_geti, z_getr, z_puti, z_putz, z_ald, z_iast, z_bast, z_zast, z_alen, z_acopy, z_mmax, z_mmin, z_mabs, z_mabsL, z_iret, z_zret, z_nret, z_lret, z_aret, z_vret, z_cat, z_xald, z_xlen, z_ldcs, z_strv, z_strc, z_gcs, z_gfm, z_sln, z_sald, z_ifeq, z_ifne, z_iflt, z_ifge, z_ifgt, z_ifle, z_iceq, z_icne, z_iclt, z_icge, z_icgt, z_icle, z_cs0, z_cs1, z_cs2, z_cs3, z_cs4, z_cs5, z_cs6, z_cs7, z_cv0, z_cv1, z_cv2, z_cv3, z_cv4, z_cv5, z_cv6, z_cv7, z_g0, z_s0, z_g1, z_s1, z_g2, z_s2, z_g3, z_s3, z_g4, z_s4, z_g5, z_s5, z_g6, z_s6, z_g7, z_s7, z_g8, z_s8, z_g9, z_s9, z_g10, z_s10, z_g11, z_s11, z_g12, z_s12, z_g13, z_s13, z_b0, z_b1, z_b0n, z_b1n, z_up_far1, z_up_far2, z_up_far3, z_up_far4, z_up_far5, z_up_far6, Classical.not_not, not_true_eq_false, z_in, z_inL, Int.cast_ofNat_Int, Nat.reduceLeDiff, List.length_cons, List.length_nil, Nat.reduceAdd, Nat.zero_add, Nat.le_refl, true_and, and_true, List.length, Nat.reduceLT, true_or, or_true, false_or, or_false, false_and, and_false, not_true_eq_false, not_false_eq_true, forall_const, false_implies, true_implies, Int.reduceEq, Int.reduceLT, Int.reduceLE, Int.reduceAdd, Int.reduceSub, Int.reduceMul, Int.reduceNeg, Int.reduceToNat, Int.toNat_natCast, ↓reduceIte, reduceIte, Nat.reduceEqDiff, Nat.reduceSub, Nat.reduceMul, ne_eq, Int.zero_add, Int.add_zero, Int.sub_zero, Nat.add_zero, Int.ofNat_eq_natCast, tX4_next_0]
  exact X2 (T - p) p 0 σ (by omega) (by omega) hts (fun _ _ _ => rfl) hp
theorem dX4_next_0 : decode cX4_next 0 = .ok (.iconst 0, 1) := by decide +kernel
theorem dX4_next_1 : decode cX4_next 1 = .ok (.istore_n 1, 1) := by decide +kernel
theorem dX4_next_2 : decode cX4_next 2 = .ok (.iload_n 1, 1) := by decide +kernel
theorem dX4_next_3 : decode cX4_next 3 = .ok (.sipush 400, 3) := by decide +kernel
theorem dX4_next_6 : decode cX4_next 6 = .ok (.if_icmp .ge 33, 3) := by decide +kernel
theorem dX4_next_9 : decode cX4_next 9 = .ok (.aload_n 0, 1) := by decide +kernel
theorem dX4_next_10 : decode cX4_next 10 = .ok (.aload_n 0, 1) := by decide +kernel
theorem dX4_next_11 : decode cX4_next 11 = .ok (.getfield 44, 3) := by decide +kernel
theorem dX4_next_14 : decode cX4_next 14 = .ok (.invokevirtual 152, 3) := by decide +kernel
theorem dX4_next_17 : decode cX4_next 17 = .ok (.invokestatic 160, 3) := by decide +kernel
theorem dX4_next_20 : decode cX4_next 20 = .ok (.ifCond .eq 19, 3) := by decide +kernel
theorem dX4_next_23 : decode cX4_next 23 = .ok (.aload_n 0, 1) := by decide +kernel
theorem dX4_next_24 : decode cX4_next 24 = .ok (.dup, 1) := by decide +kernel
theorem dX4_next_25 : decode cX4_next 25 = .ok (.getfield 44, 3) := by decide +kernel
theorem dX4_next_28 : decode cX4_next 28 = .ok (.iconst 1, 1) := by decide +kernel
theorem dX4_next_29 : decode cX4_next 29 = .ok (.iadd, 1) := by decide +kernel
theorem dX4_next_30 : decode cX4_next 30 = .ok (.putfield 44, 3) := by decide +kernel
theorem dX4_next_33 : decode cX4_next 33 = .ok (.iinc 1 1, 3) := by decide +kernel
theorem dX4_next_36 : decode cX4_next 36 = .ok (.goto (-34), 3) := by decide +kernel
theorem dX4_next_39 : decode cX4_next 39 = .ok (.aload_n 0, 1) := by decide +kernel
theorem dX4_next_40 : decode cX4_next 40 = .ok (.aload_n 0, 1) := by decide +kernel
theorem dX4_next_41 : decode cX4_next 41 = .ok (.getfield 44, 3) := by decide +kernel
theorem dX4_next_44 : decode cX4_next 44 = .ok (.putfield 144, 3) := by decide +kernel
theorem dX4_next_47 : decode cX4_next 47 = .ok (.aload_n 0, 1) := by decide +kernel
theorem dX4_next_48 : decode cX4_next 48 = .ok (.iconst 0, 1) := by decide +kernel
theorem dX4_next_49 : decode cX4_next 49 = .ok (.putfield 141, 3) := by decide +kernel
theorem dX4_next_52 : decode cX4_next 52 = .ok (.aload_n 0, 1) := by decide +kernel
theorem dX4_next_53 : decode cX4_next 53 = .ok (.getfield 44, 3) := by decide +kernel
theorem dX4_next_56 : decode cX4_next 56 = .ok (.aload_n 0, 1) := by decide +kernel
theorem dX4_next_57 : decode cX4_next 57 = .ok (.getfield 15, 3) := by decide +kernel
theorem dX4_next_60 : decode cX4_next 60 = .ok (.if_icmp .lt 11, 3) := by decide +kernel
theorem dX4_next_63 : decode cX4_next 63 = .ok (.aload_n 0, 1) := by decide +kernel
theorem dX4_next_64 : decode cX4_next 64 = .ok (.iconst 0, 1) := by decide +kernel
theorem dX4_next_65 : decode cX4_next 65 = .ok (.putfield 53, 3) := by decide +kernel
theorem dX4_next_68 : decode cX4_next 68 = .ok (.goto 197, 3) := by decide +kernel
theorem dX4_next_71 : decode cX4_next 71 = .ok (.aload_n 0, 1) := by decide +kernel
theorem dX4_next_72 : decode cX4_next 72 = .ok (.aload_n 0, 1) := by decide +kernel
theorem dX4_next_73 : decode cX4_next 73 = .ok (.getfield 44, 3) := by decide +kernel
theorem dX4_next_76 : decode cX4_next 76 = .ok (.invokevirtual 152, 3) := by decide +kernel
theorem dX4_next_79 : decode cX4_next 79 = .ok (.invokestatic 164, 3) := by decide +kernel
theorem dX4_next_82 : decode cX4_next 82 = .ok (.ifCond .eq 50, 3) := by decide +kernel
theorem dX4_next_85 : decode cX4_next 85 = .ok (.aload_n 0, 1) := by decide +kernel
theorem dX4_next_86 : decode cX4_next 86 = .ok (.iconst 1, 1) := by decide +kernel
theorem dX4_next_87 : decode cX4_next 87 = .ok (.putfield 53, 3) := by decide +kernel
theorem dX4_next_90 : decode cX4_next 90 = .ok (.iconst 0, 1) := by decide +kernel
theorem dX4_next_91 : decode cX4_next 91 = .ok (.istore_n 1, 1) := by decide +kernel
theorem dX4_next_92 : decode cX4_next 92 = .ok (.iload_n 1, 1) := by decide +kernel
theorem dX4_next_93 : decode cX4_next 93 = .ok (.sipush 400, 3) := by decide +kernel
theorem dX4_next_96 : decode cX4_next 96 = .ok (.if_icmp .ge 33, 3) := by decide +kernel
theorem dX4_next_99 : decode cX4_next 99 = .ok (.aload_n 0, 1) := by decide +kernel
theorem dX4_next_100 : decode cX4_next 100 = .ok (.aload_n 0, 1) := by decide +kernel
theorem dX4_next_101 : decode cX4_next 101 = .ok (.getfield 44, 3) := by decide +kernel
theorem dX4_next_104 : decode cX4_next 104 = .ok (.invokevirtual 152, 3) := by decide +kernel
theorem dX4_next_107 : decode cX4_next 107 = .ok (.invokestatic 164, 3) := by decide +kernel
theorem dX4_next_110 : decode cX4_next 110 = .ok (.ifCond .eq 19, 3) := by decide +kernel
theorem dX4_next_113 : decode cX4_next 113 = .ok (.aload_n 0, 1) := by decide +kernel
theorem dX4_next_114 : decode cX4_next 114 = .ok (.dup, 1) := by decide +kernel
theorem dX4_next_115 : decode cX4_next 115 = .ok (.getfield 44, 3) := by decide +kernel
theorem dX4_next_118 : decode cX4_next 118 = .ok (.iconst 1, 1) := by decide +kernel
theorem dX4_next_119 : decode cX4_next 119 = .ok (.iadd, 1) := by decide +kernel
theorem dX4_next_120 : decode cX4_next 120 = .ok (.putfield 44, 3) := by decide +kernel
theorem dX4_next_123 : decode cX4_next 123 = .ok (.iinc 1 1, 3) := by decide +kernel
theorem dX4_next_126 : decode cX4_next 126 = .ok (.goto (-34), 3) := by decide +kernel
theorem dX4_next_129 : decode cX4_next 129 = .ok (.goto 136, 3) := by decide +kernel
theorem dX4_next_132 : decode cX4_next 132 = .ok (.aload_n 0, 1) := by decide +kernel
theorem dX4_next_133 : decode cX4_next 133 = .ok (.aload_n 0, 1) := by decide +kernel
theorem dX4_next_134 : decode cX4_next 134 = .ok (.getfield 44, 3) := by decide +kernel
theorem dX4_next_137 : decode cX4_next 137 = .ok (.invokevirtual 152, 3) := by decide +kernel
theorem dX4_next_140 : decode cX4_next 140 = .ok (.invokestatic 167, 3) := by decide +kernel
theorem dX4_next_143 : decode cX4_next 143 = .ok (.ifCond .eq 90, 3) := by decide +kernel
theorem dX4_next_146 : decode cX4_next 146 = .ok (.iconst 0, 1) := by decide +kernel
theorem dX4_next_147 : decode cX4_next 147 = .ok (.istore_n 1, 1) := by decide +kernel
theorem dX4_next_148 : decode cX4_next 148 = .ok (.iload_n 1, 1) := by decide +kernel
theorem dX4_next_149 : decode cX4_next 149 = .ok (.sipush 400, 3) := by decide +kernel
theorem dX4_next_152 : decode cX4_next 152 = .ok (.if_icmp .ge 56, 3) := by decide +kernel
theorem dX4_next_155 : decode cX4_next 155 = .ok (.aload_n 0, 1) := by decide +kernel
theorem dX4_next_156 : decode cX4_next 156 = .ok (.aload_n 0, 1) := by decide +kernel
theorem dX4_next_157 : decode cX4_next 157 = .ok (.getfield 44, 3) := by decide +kernel
theorem dX4_next_160 : decode cX4_next 160 = .ok (.invokevirtual 152, 3) := by decide +kernel
theorem dX4_next_163 : decode cX4_next 163 = .ok (.invokestatic 167, 3) := by decide +kernel
theorem dX4_next_166 : decode cX4_next 166 = .ok (.ifCond .eq 42, 3) := by decide +kernel
theorem dX4_next_169 : decode cX4_next 169 = .ok (.aload_n 0, 1) := by decide +kernel
theorem dX4_next_170 : decode cX4_next 170 = .ok (.bipush 10, 2) := by decide +kernel
theorem dX4_next_172 : decode cX4_next 172 = .ok (.aload_n 0, 1) := by decide +kernel
theorem dX4_next_173 : decode cX4_next 173 = .ok (.getfield 141, 3) := by decide +kernel
theorem dX4_next_176 : decode cX4_next 176 = .ok (.imul, 1) := by decide +kernel
theorem dX4_next_177 : decode cX4_next 177 = .ok (.aload_n 0, 1) := by decide +kernel
theorem dX4_next_178 : decode cX4_next 178 = .ok (.aload_n 0, 1) := by decide +kernel
theorem dX4_next_179 : decode cX4_next 179 = .ok (.getfield 44, 3) := by decide +kernel
theorem dX4_next_182 : decode cX4_next 182 = .ok (.invokevirtual 152, 3) := by decide +kernel
theorem dX4_next_185 : decode cX4_next 185 = .ok (.iadd, 1) := by decide +kernel
theorem dX4_next_186 : decode cX4_next 186 = .ok (.bipush 48, 2) := by decide +kernel
theorem dX4_next_188 : decode cX4_next 188 = .ok (.isub, 1) := by decide +kernel
theorem dX4_next_189 : decode cX4_next 189 = .ok (.putfield 141, 3) := by decide +kernel
theorem dX4_next_192 : decode cX4_next 192 = .ok (.aload_n 0, 1) := by decide +kernel
theorem dX4_next_193 : decode cX4_next 193 = .ok (.dup, 1) := by decide +kernel
theorem dX4_next_194 : decode cX4_next 194 = .ok (.getfield 44, 3) := by decide +kernel
theorem dX4_next_197 : decode cX4_next 197 = .ok (.iconst 1, 1) := by decide +kernel
theorem dX4_next_198 : decode cX4_next 198 = .ok (.iadd, 1) := by decide +kernel
theorem dX4_next_199 : decode cX4_next 199 = .ok (.putfield 44, 3) := by decide +kernel
theorem dX4_next_202 : decode cX4_next 202 = .ok (.iinc 1 1, 3) := by decide +kernel
theorem dX4_next_205 : decode cX4_next 205 = .ok (.goto (-57), 3) := by decide +kernel
theorem dX4_next_208 : decode cX4_next 208 = .ok (.aload_n 0, 1) := by decide +kernel
theorem dX4_next_209 : decode cX4_next 209 = .ok (.aload_n 0, 1) := by decide +kernel
theorem dX4_next_210 : decode cX4_next 210 = .ok (.getfield 44, 3) := by decide +kernel
theorem dX4_next_213 : decode cX4_next 213 = .ok (.aload_n 0, 1) := by decide +kernel
theorem dX4_next_214 : decode cX4_next 214 = .ok (.getfield 144, 3) := by decide +kernel
theorem dX4_next_217 : decode cX4_next 217 = .ok (.isub, 1) := by decide +kernel
theorem dX4_next_218 : decode cX4_next 218 = .ok (.iconst 3, 1) := by decide +kernel
theorem dX4_next_219 : decode cX4_next 219 = .ok (.if_icmp .le 7, 3) := by decide +kernel
theorem dX4_next_222 : decode cX4_next 222 = .ok (.iconst 4, 1) := by decide +kernel
theorem dX4_next_223 : decode cX4_next 223 = .ok (.goto 4, 3) := by decide +kernel
theorem dX4_next_226 : decode cX4_next 226 = .ok (.iconst 2, 1) := by decide +kernel
theorem dX4_next_227 : decode cX4_next 227 = .ok (.putfield 53, 3) := by decide +kernel
theorem dX4_next_230 : decode cX4_next 230 = .ok (.goto 35, 3) := by decide +kernel
theorem dX4_next_233 : decode cX4_next 233 = .ok (.aload_n 0, 1) := by decide +kernel
theorem dX4_next_234 : decode cX4_next 234 = .ok (.aload_n 0, 1) := by decide +kernel
theorem dX4_next_235 : decode cX4_next 235 = .ok (.aload_n 0, 1) := by decide +kernel
theorem dX4_next_236 : decode cX4_next 236 = .ok (.getfield 44, 3) := by decide +kernel
theorem dX4_next_239 : decode cX4_next 239 = .ok (.invokevirtual 152, 3) := by decide +kernel
theorem dX4_next_242 : decode cX4_next 242 = .ok (.bipush 59, 2) := by decide +kernel
theorem dX4_next_244 : decode cX4_next 244 = .ok (.if_icmp .ne 7, 3) := by decide +kernel
theorem dX4_next_247 : decode cX4_next 247 = .ok (.iconst 3, 1) := by decide +kernel
theorem dX4_next_248 : decode cX4_next 248 = .ok (.goto 4, 3) := by decide +kernel
theorem dX4_next_251 : decode cX4_next 251 = .ok (.iconst 4, 1) := by decide +kernel
theorem dX4_next_252 : decode cX4_next 252 = .ok (.putfield 53, 3) := by decide +kernel
theorem dX4_next_255 : decode cX4_next 255 = .ok (.aload_n 0, 1) := by decide +kernel
theorem dX4_next_256 : decode cX4_next 256 = .ok (.dup, 1) := by decide +kernel
theorem dX4_next_257 : decode cX4_next 257 = .ok (.getfield 44, 3) := by decide +kernel
theorem dX4_next_260 : decode cX4_next 260 = .ok (.iconst 1, 1) := by decide +kernel
theorem dX4_next_261 : decode cX4_next 261 = .ok (.iadd, 1) := by decide +kernel
theorem dX4_next_262 : decode cX4_next 262 = .ok (.putfield 44, 3) := by decide +kernel
theorem dX4_next_265 : decode cX4_next 265 = .ok (.return_, 1) := by decide +kernel
set_option maxRecDepth 100000 in
theorem rX4_next_0 {zx : zX} {zn : Nat} {p : Program} {l : Launch} {e : Env} {s : State} {m : MethodId} {args : Array Value} {below : List Frame} {meth : Method} {c : Code} {D : va_G} {cA : Nat → ClassId} {ad : Nat → Nat} {Ret : zR} (C : z_Cx zx zn (z_A zn ad) 0 0 p { frames := 1, cells := 0, slots := 0, locals := 21 } s m args c cX4_next yX4_next.cls 2 D cA ad) (hr : meth.sig.returnType = none) (hlocks : meth.locks = false) : ∀ L st σ, tX4_next_0 (z_X zx zn (z_A zn ad) 0 0 p l e { frames := 1, cells := 0, slots := 0, locals := 21 } s m args below meth c (MQ below (z_Qc zn D cA ad Ret) args s 0 0 (z_A zn ad)) 2 D cA ad true) Ret L st σ → z_X zx zn (z_A zn ad) 0 0 p l e { frames := 1, cells := 0, slots := 0, locals := 21 } s m args below meth c (MQ below (z_Qc zn D cA ad Ret) args s 0 0 (z_A zn ad)) 2 D cA ad true 0 L st σ := (s_iconst C dX4_next_0 rfl ⟨by decide, by decide⟩ (s_istore_n C dX4_next_1 (by decide) rfl rfl (fun _ _ _ h => h)))
set_option maxRecDepth 100000 in
theorem rX4_next_2 {zx : zX} {zn : Nat} {p : Program} {l : Launch} {e : Env} {s : State} {m : MethodId} {args : Array Value} {below : List Frame} {meth : Method} {c : Code} {D : va_G} {cA : Nat → ClassId} {ad : Nat → Nat} {Ret : zR} (C : z_Cx zx zn (z_A zn ad) 0 0 p { frames := 1, cells := 0, slots := 0, locals := 21 } s m args c cX4_next yX4_next.cls 2 D cA ad) (hr : meth.sig.returnType = none) (hlocks : meth.locks = false) : ∀ L st σ, tX4_next_2 (z_X zx zn (z_A zn ad) 0 0 p l e { frames := 1, cells := 0, slots := 0, locals := 21 } s m args below meth c (MQ below (z_Qc zn D cA ad Ret) args s 0 0 (z_A zn ad)) 2 D cA ad true) Ret L st σ → z_X zx zn (z_A zn ad) 0 0 p l e { frames := 1, cells := 0, slots := 0, locals := 21 } s m args below meth c (MQ below (z_Qc zn D cA ad Ret) args s 0 0 (z_A zn ad)) 2 D cA ad true 2 L st σ := (s_iload_n C dX4_next_2 rfl (s_sipush C dX4_next_3 rfl ⟨by decide, by decide⟩ (s_icge C dX4_next_6 (by decide) (fun _ _ _ h => h) (s_aload_n C dX4_next_9 rfl (s_aload_n C dX4_next_10 rfl (s_geti C dX4_next_11 cls_X4 (by decide) rfl wd_54 (s_cv1 C dX4_next_14 (okX4_byteAt l) cls_X4 wd_339 wd_341 wd_2 wd_18 wd_342 ⟨by decide, by decide, by decide +kernel⟩ ⟨by decide, by decide⟩ (s_cs1 C dX4_next_17 (okX4_isBlank l) wd_343 wd_344 wd_18 wd_345 ⟨by decide, by decide, by decide +kernel⟩ ⟨by decide, by decide⟩ (s_ifeq C dX4_next_20 (by decide) (fun _ _ _ h => h) (s_aload_n C dX4_next_23 rfl (s_dup C dX4_next_24 (s_geti C dX4_next_25 cls_X4 (by decide) rfl wd_54 (s_iconst C dX4_next_28 rfl ⟨by decide, by decide⟩ (s_iadd C dX4_next_29 (s_puti C dX4_next_30 cls_X4 (by decide) rfl wd_54 rfl rfl (s_iinc C dX4_next_33 (by decide) rfl (s_goto C dX4_next_36 (by decide) (fun _ _ _ h => h))))))))))))))))))
set_option maxRecDepth 100000 in
theorem rX4_next_39 {zx : zX} {zn : Nat} {p : Program} {l : Launch} {e : Env} {s : State} {m : MethodId} {args : Array Value} {below : List Frame} {meth : Method} {c : Code} {D : va_G} {cA : Nat → ClassId} {ad : Nat → Nat} {Ret : zR} (C : z_Cx zx zn (z_A zn ad) 0 0 p { frames := 1, cells := 0, slots := 0, locals := 21 } s m args c cX4_next yX4_next.cls 2 D cA ad) (hr : meth.sig.returnType = none) (hlocks : meth.locks = false) : ∀ L st σ, tX4_next_39 (z_X zx zn (z_A zn ad) 0 0 p l e { frames := 1, cells := 0, slots := 0, locals := 21 } s m args below meth c (MQ below (z_Qc zn D cA ad Ret) args s 0 0 (z_A zn ad)) 2 D cA ad true) Ret L st σ → z_X zx zn (z_A zn ad) 0 0 p l e { frames := 1, cells := 0, slots := 0, locals := 21 } s m args below meth c (MQ below (z_Qc zn D cA ad Ret) args s 0 0 (z_A zn ad)) 2 D cA ad true 39 L st σ := (s_aload_n C dX4_next_39 rfl (s_aload_n C dX4_next_40 rfl (s_geti C dX4_next_41 cls_X4 (by decide) rfl wd_54 (s_puti C dX4_next_44 cls_X4 (by decide) rfl wd_50 rfl rfl (s_aload_n C dX4_next_47 rfl (s_iconst C dX4_next_48 rfl ⟨by decide, by decide⟩ (s_puti C dX4_next_49 cls_X4 (by decide) rfl wd_56 rfl rfl (s_aload_n C dX4_next_52 rfl (s_geti C dX4_next_53 cls_X4 (by decide) rfl wd_54 (s_aload_n C dX4_next_56 rfl (s_geti C dX4_next_57 cls_X4 (by decide) rfl wd_48 (s_iclt C dX4_next_60 (by decide) (s_aload_n C dX4_next_71 rfl (s_aload_n C dX4_next_72 rfl (s_geti C dX4_next_73 cls_X4 (by decide) rfl wd_54 (s_cv1 C dX4_next_76 (okX4_byteAt l) cls_X4 wd_339 wd_341 wd_2 wd_18 wd_342 ⟨by decide, by decide, by decide +kernel⟩ ⟨by decide, by decide⟩ (s_cs1 C dX4_next_79 (okX4_isLetter l) wd_346 wd_347 wd_18 wd_348 ⟨by decide, by decide, by decide +kernel⟩ ⟨by decide, by decide⟩ (s_ifeq C dX4_next_82 (by decide) (s_aload_n C dX4_next_132 rfl (s_aload_n C dX4_next_133 rfl (s_geti C dX4_next_134 cls_X4 (by decide) rfl wd_54 (s_cv1 C dX4_next_137 (okX4_byteAt l) cls_X4 wd_339 wd_341 wd_2 wd_18 wd_342 ⟨by decide, by decide, by decide +kernel⟩ ⟨by decide, by decide⟩ (s_cs1 C dX4_next_140 (okX4_isFigure l) wd_349 wd_350 wd_18 wd_351 ⟨by decide, by decide, by decide +kernel⟩ ⟨by decide, by decide⟩ (s_ifeq C dX4_next_143 (by decide) (s_aload_n C dX4_next_233 rfl (s_aload_n C dX4_next_234 rfl (s_aload_n C dX4_next_235 rfl (s_geti C dX4_next_236 cls_X4 (by decide) rfl wd_54 (s_cv1 C dX4_next_239 (okX4_byteAt l) cls_X4 wd_339 wd_341 wd_2 wd_18 wd_342 ⟨by decide, by decide, by decide +kernel⟩ ⟨by decide, by decide⟩ (s_bipush C dX4_next_242 rfl ⟨by decide, by decide⟩ (s_icne C dX4_next_244 (by decide) (s_iconst C dX4_next_251 rfl ⟨by decide, by decide⟩ (s_puti C dX4_next_252 cls_X4 (by decide) rfl wd_55 rfl rfl (s_aload_n C dX4_next_255 rfl (s_dup C dX4_next_256 (s_geti C dX4_next_257 cls_X4 (by decide) rfl wd_54 (s_iconst C dX4_next_260 rfl ⟨by decide, by decide⟩ (s_iadd C dX4_next_261 (s_puti C dX4_next_262 cls_X4 (by decide) rfl wd_54 rfl rfl (s_vret C dX4_next_265 hr hlocks))))))))) (s_iconst C dX4_next_247 rfl ⟨by decide, by decide⟩ (s_goto C dX4_next_248 (by decide) (s_puti C dX4_next_252 cls_X4 (by decide) rfl wd_55 rfl rfl (s_aload_n C dX4_next_255 rfl (s_dup C dX4_next_256 (s_geti C dX4_next_257 cls_X4 (by decide) rfl wd_54 (s_iconst C dX4_next_260 rfl ⟨by decide, by decide⟩ (s_iadd C dX4_next_261 (s_puti C dX4_next_262 cls_X4 (by decide) rfl wd_54 rfl rfl (s_vret C dX4_next_265 hr hlocks))))))))))))))))) (s_iconst C dX4_next_146 rfl ⟨by decide, by decide⟩ (s_istore_n C dX4_next_147 (by decide) rfl rfl (fun _ _ _ h => h))))))))) (s_aload_n C dX4_next_85 rfl (s_iconst C dX4_next_86 rfl ⟨by decide, by decide⟩ (s_puti C dX4_next_87 cls_X4 (by decide) rfl wd_55 rfl rfl (s_iconst C dX4_next_90 rfl ⟨by decide, by decide⟩ (s_istore_n C dX4_next_91 (by decide) rfl rfl (fun _ _ _ h => h)))))))))))) (s_aload_n C dX4_next_63 rfl (s_iconst C dX4_next_64 rfl ⟨by decide, by decide⟩ (s_puti C dX4_next_65 cls_X4 (by decide) rfl wd_55 rfl rfl (s_goto C dX4_next_68 (by decide) (s_vret C dX4_next_265 hr hlocks)))))))))))))))))
set_option maxRecDepth 100000 in
theorem rX4_next_92 {zx : zX} {zn : Nat} {p : Program} {l : Launch} {e : Env} {s : State} {m : MethodId} {args : Array Value} {below : List Frame} {meth : Method} {c : Code} {D : va_G} {cA : Nat → ClassId} {ad : Nat → Nat} {Ret : zR} (C : z_Cx zx zn (z_A zn ad) 0 0 p { frames := 1, cells := 0, slots := 0, locals := 21 } s m args c cX4_next yX4_next.cls 2 D cA ad) (hr : meth.sig.returnType = none) (hlocks : meth.locks = false) : ∀ L st σ, tX4_next_92 (z_X zx zn (z_A zn ad) 0 0 p l e { frames := 1, cells := 0, slots := 0, locals := 21 } s m args below meth c (MQ below (z_Qc zn D cA ad Ret) args s 0 0 (z_A zn ad)) 2 D cA ad true) Ret L st σ → z_X zx zn (z_A zn ad) 0 0 p l e { frames := 1, cells := 0, slots := 0, locals := 21 } s m args below meth c (MQ below (z_Qc zn D cA ad Ret) args s 0 0 (z_A zn ad)) 2 D cA ad true 92 L st σ := (s_iload_n C dX4_next_92 rfl (s_sipush C dX4_next_93 rfl ⟨by decide, by decide⟩ (s_icge C dX4_next_96 (by decide) (s_goto C dX4_next_129 (by decide) (s_vret C dX4_next_265 hr hlocks)) (s_aload_n C dX4_next_99 rfl (s_aload_n C dX4_next_100 rfl (s_geti C dX4_next_101 cls_X4 (by decide) rfl wd_54 (s_cv1 C dX4_next_104 (okX4_byteAt l) cls_X4 wd_339 wd_341 wd_2 wd_18 wd_342 ⟨by decide, by decide, by decide +kernel⟩ ⟨by decide, by decide⟩ (s_cs1 C dX4_next_107 (okX4_isLetter l) wd_346 wd_347 wd_18 wd_348 ⟨by decide, by decide, by decide +kernel⟩ ⟨by decide, by decide⟩ (s_ifeq C dX4_next_110 (by decide) (s_goto C dX4_next_129 (by decide) (s_vret C dX4_next_265 hr hlocks)) (s_aload_n C dX4_next_113 rfl (s_dup C dX4_next_114 (s_geti C dX4_next_115 cls_X4 (by decide) rfl wd_54 (s_iconst C dX4_next_118 rfl ⟨by decide, by decide⟩ (s_iadd C dX4_next_119 (s_puti C dX4_next_120 cls_X4 (by decide) rfl wd_54 rfl rfl (s_iinc C dX4_next_123 (by decide) rfl (s_goto C dX4_next_126 (by decide) (fun _ _ _ h => h))))))))))))))))))
set_option maxRecDepth 100000 in
theorem rX4_next_148 {zx : zX} {zn : Nat} {p : Program} {l : Launch} {e : Env} {s : State} {m : MethodId} {args : Array Value} {below : List Frame} {meth : Method} {c : Code} {D : va_G} {cA : Nat → ClassId} {ad : Nat → Nat} {Ret : zR} (C : z_Cx zx zn (z_A zn ad) 0 0 p { frames := 1, cells := 0, slots := 0, locals := 21 } s m args c cX4_next yX4_next.cls 2 D cA ad) (hr : meth.sig.returnType = none) (hlocks : meth.locks = false) : ∀ L st σ, tX4_next_148 (z_X zx zn (z_A zn ad) 0 0 p l e { frames := 1, cells := 0, slots := 0, locals := 21 } s m args below meth c (MQ below (z_Qc zn D cA ad Ret) args s 0 0 (z_A zn ad)) 2 D cA ad true) Ret L st σ → z_X zx zn (z_A zn ad) 0 0 p l e { frames := 1, cells := 0, slots := 0, locals := 21 } s m args below meth c (MQ below (z_Qc zn D cA ad Ret) args s 0 0 (z_A zn ad)) 2 D cA ad true 148 L st σ := (s_iload_n C dX4_next_148 rfl (s_sipush C dX4_next_149 rfl ⟨by decide, by decide⟩ (s_icge C dX4_next_152 (by decide) (fun _ _ _ h => h) (s_aload_n C dX4_next_155 rfl (s_aload_n C dX4_next_156 rfl (s_geti C dX4_next_157 cls_X4 (by decide) rfl wd_54 (s_cv1 C dX4_next_160 (okX4_byteAt l) cls_X4 wd_339 wd_341 wd_2 wd_18 wd_342 ⟨by decide, by decide, by decide +kernel⟩ ⟨by decide, by decide⟩ (s_cs1 C dX4_next_163 (okX4_isFigure l) wd_349 wd_350 wd_18 wd_351 ⟨by decide, by decide, by decide +kernel⟩ ⟨by decide, by decide⟩ (s_ifeq C dX4_next_166 (by decide) (fun _ _ _ h => h) (s_aload_n C dX4_next_169 rfl (s_bipush C dX4_next_170 rfl ⟨by decide, by decide⟩ (s_aload_n C dX4_next_172 rfl (s_geti C dX4_next_173 cls_X4 (by decide) rfl wd_56 (s_imulW C dX4_next_176 (s_aload_n C dX4_next_177 rfl (s_aload_n C dX4_next_178 rfl (s_geti C dX4_next_179 cls_X4 (by decide) rfl wd_54 (s_cv1 C dX4_next_182 (okX4_byteAt l) cls_X4 wd_339 wd_341 wd_2 wd_18 wd_342 ⟨by decide, by decide, by decide +kernel⟩ ⟨by decide, by decide⟩ (s_iaddW C dX4_next_185 (s_bipush C dX4_next_186 rfl ⟨by decide, by decide⟩ (s_isubW C dX4_next_188 (s_puti C dX4_next_189 cls_X4 (by decide) rfl wd_56 rfl rfl (s_aload_n C dX4_next_192 rfl (s_dup C dX4_next_193 (s_geti C dX4_next_194 cls_X4 (by decide) rfl wd_54 (s_iconst C dX4_next_197 rfl ⟨by decide, by decide⟩ (s_iadd C dX4_next_198 (s_puti C dX4_next_199 cls_X4 (by decide) rfl wd_54 rfl rfl (s_iinc C dX4_next_202 (by decide) rfl (s_goto C dX4_next_205 (by decide) (fun _ _ _ h => h)))))))))))))))))))))))))))))))
set_option maxRecDepth 100000 in
theorem rX4_next_208 {zx : zX} {zn : Nat} {p : Program} {l : Launch} {e : Env} {s : State} {m : MethodId} {args : Array Value} {below : List Frame} {meth : Method} {c : Code} {D : va_G} {cA : Nat → ClassId} {ad : Nat → Nat} {Ret : zR} (C : z_Cx zx zn (z_A zn ad) 0 0 p { frames := 1, cells := 0, slots := 0, locals := 21 } s m args c cX4_next yX4_next.cls 2 D cA ad) (hr : meth.sig.returnType = none) (hlocks : meth.locks = false) : ∀ L st σ, tX4_next_208 (z_X zx zn (z_A zn ad) 0 0 p l e { frames := 1, cells := 0, slots := 0, locals := 21 } s m args below meth c (MQ below (z_Qc zn D cA ad Ret) args s 0 0 (z_A zn ad)) 2 D cA ad true) Ret L st σ → z_X zx zn (z_A zn ad) 0 0 p l e { frames := 1, cells := 0, slots := 0, locals := 21 } s m args below meth c (MQ below (z_Qc zn D cA ad Ret) args s 0 0 (z_A zn ad)) 2 D cA ad true 208 L st σ := (s_aload_n C dX4_next_208 rfl (s_aload_n C dX4_next_209 rfl (s_geti C dX4_next_210 cls_X4 (by decide) rfl wd_54 (s_aload_n C dX4_next_213 rfl (s_geti C dX4_next_214 cls_X4 (by decide) rfl wd_50 (s_isub C dX4_next_217 (s_iconst C dX4_next_218 rfl ⟨by decide, by decide⟩ (s_icle C dX4_next_219 (by decide) (s_iconst C dX4_next_226 rfl ⟨by decide, by decide⟩ (s_puti C dX4_next_227 cls_X4 (by decide) rfl wd_55 rfl rfl (s_goto C dX4_next_230 (by decide) (s_vret C dX4_next_265 hr hlocks)))) (s_iconst C dX4_next_222 rfl ⟨by decide, by decide⟩ (s_goto C dX4_next_223 (by decide) (s_puti C dX4_next_227 cls_X4 (by decide) rfl wd_55 rfl rfl (s_goto C dX4_next_230 (by decide) (s_vret C dX4_next_265 hr hlocks)))))))))))))
theorem okX4_next {zx : zX} {zn : Nat} (l : Launch) : z_OK zx zn l yX4_next cX4_next 2 none 1 21 SX4_next := by
  refine z_ok_of true (by decide +kernel) ?_ ?_
  · intro as σ Ret h
    obtain ⟨k0, rfl⟩ := pX4_next h
    exact ⟨Nat.le_of_ble_eq_true rfl, by simp⟩
  · intro p e s m args below meth c D cA ad Ret C hr hlocks as σ has hσ h
    obtain ⟨k0, rfl⟩ := pX4_next h
    exact vX4_next (rX4_next_0 C hr hlocks) (rX4_next_2 C hr hlocks) (rX4_next_39 C hr hlocks) (rX4_next_92 C hr hlocks) (rX4_next_148 C hr hlocks) (rX4_next_208 C hr hlocks) k0 σ (has _ (List.mem_of_getElem? (i := 0) rfl)).1 hσ h
