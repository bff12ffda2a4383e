/-! a wood off the tape -/
theorem q_end_gt {f : Nat → Bool} {p n : Nat} (h : f p = true) : p < q_end f p (n + 1) := by
  unfold q_end
  rw [if_pos h]
  have := q_end_ge f n (p + 1)
  omega
theorem q_te_gt {b : Nat → Int} {T p : Nat} (h : p ≤ T) (hk : ¬ q_tk b T p = 0) : p < q_te b T p ∧ q_te b T p ≤ T ∧ q_ts b T p < q_te b T p := by
  have h0 := q_ts_in (b := b) h
  have h1 := q_te_in (b := b) h
  have hs : ¬ T ≤ q_ts b T p := fun e => hk (by unfold q_tk; rw [if_pos e])
  obtain ⟨n, hn⟩ : ∃ n, T - q_ts b T p = n + 1 := ⟨T - q_ts b T p - 1, by omega⟩
  have : q_ts b T p < q_te b T p := by
    unfold q_te
    rw [if_neg hs, hn]
    split
    · exact q_end_gt (by assumption)
    · split
      · exact q_end_gt (by assumption)
      · omega
  omega
def q_pa (b : Nat → Int) (T s p : Nat) (D : Nat → Int) : Nat × Nat × Int × (Nat → Int) :=
  if s ≤ 1 ∧ q_isw b T p 0 = true then (if 12 ≤ D 0 then (1, p, 3, D) else (1, (q_t5 b T p).1, (q_t5 b T p).2, q_dT D (q_t1 b T p).1 (q_t2 b T p).1 (q_t3 b T p).1 (q_t4 b T p).1))
  else if (s = 1 ∨ s = 2) ∧ q_isw b T p 1 = true then (if 6 ≤ D 1 then (2, p, 3, D) else (2, (q_w4 b T p).1, (q_w4 b T p).2, q_dW D (q_w1 b T p).1 (q_w2 b T p).1 (q_w3 b T p).1))
  else if (s = 1 ∨ s = 2) ∧ q_isw b T p 2 = true then (3, (q_tz b T p D).1, (q_tz b T p D).2, (q_tu b T p D).2.2)
  else (3, p, 1, D)
theorem q_isw_tk {b : Nat → Int} {T p j : Nat} (h : q_isw b T p j = true) : ¬ q_tk b T p = 0 := by
  unfold q_isw at h
  have := (of_decide_eq_true h).1
  omega
theorem q_t5_in {b : Nat → Int} {T p : Nat} (h : q_te b T p ≤ T) : q_te b T p ≤ (q_t5 b T p).1 ∧ (q_t5 b T p).1 ≤ T := by
  have h1 := q_pn_in (b := b) (f := 0) (lo := 10) (hi := 99) h
  have h2 := q_pn_in (b := b) (f := (q_t1 b T p).2.2) (lo := 1) (hi := 20) h1.2
  have h3 := q_pn_in (b := b) (f := (q_t2 b T p).2.2) (lo := 0) (hi := 7) h2.2
  have h4 := q_pn_in (b := b) (f := (q_t3 b T p).2.2) (lo := 0) (hi := 5) h3.2
  have h5 := q_ps_in (b := b) (f := (q_t4 b T p).2.2) h4.2
  exact ⟨Nat.le_trans h1.1 (Nat.le_trans h2.1 (Nat.le_trans h3.1 (Nat.le_trans h4.1 h5.1))), h5.2⟩
theorem q_w4_in {b : Nat → Int} {T p : Nat} (h : q_te b T p ≤ T) : q_te b T p ≤ (q_w4 b T p).1 ∧ (q_w4 b T p).1 ≤ T := by
  have h1 := q_pn_in (b := b) (f := 0) (lo := 0) (hi := 7) h
  have h2 := q_pn_in (b := b) (f := (q_w1 b T p).2.2) (lo := 1) (hi := 20) h1.2
  have h3 := q_pn_in (b := b) (f := (q_w2 b T p).2.2) (lo := 1) (hi := 99) h2.2
  have h5 := q_ps_in (b := b) (f := (q_w3 b T p).2.2) h3.2
  exact ⟨Nat.le_trans h1.1 (Nat.le_trans h2.1 (Nat.le_trans h3.1 h5.1)), h5.2⟩
theorem q_tl_in {b : Nat → Int} {T : Nat} : ∀ (d p : Nat) (f : Int) (D : Nat → Int), p ≤ T → p ≤ (q_tl b T d p f D).1 ∧ (q_tl b T d p f D).1 ≤ T := by
  intro d
  induction d with
  | zero =>
    intro p f D h
    rw [q_tl]
    split <;> exact ⟨Nat.le_refl _, h⟩
  | succ d ih =>
    intro p f D h
    rw [q_tl]
    split
    · have h1 := q_pn_in (b := b) (f := 0) (lo := 0) (hi := 999) h
      have h2 := ih (q_pn b T p 0 0 999).2.1 (q_pn b T p 0 0 999).2.2 (q_dJ D (q_pn b T p 0 0 999).1) h1.2
      exact ⟨Nat.le_trans h1.1 h2.1, h2.2⟩
    · exact ⟨Nat.le_refl _, h⟩
theorem q_tz_in {b : Nat → Int} {T p : Nat} {D : Nat → Int} (h : q_te b T p ≤ T) : q_te b T p ≤ (q_tz b T p D).1 ∧ (q_tz b T p D).1 ≤ T := by
  have h1 := q_pn_in (b := b) (f := 0) (lo := 0) (hi := 999) h
  have h2 := q_tl_in (b := b) (9 - (D 2).toNat) _ (q_pn b T (q_te b T p) 0 0 999).2.2 (q_dJ D (q_pn b T (q_te b T p) 0 0 999).1) h1.2
  have h5 := q_ps_in (b := b) (f := (q_tu b T p D).2.1) h2.2
  exact ⟨Nat.le_trans h1.1 (Nat.le_trans h2.1 h5.1), h5.2⟩
theorem q_pa_in {b : Nat → Int} {T s p : Nat} {D : Nat → Int} (h : p ≤ T) : (q_pa b T s p D).2.1 ≤ T ∧ ((q_pa b T s p D).2.2.1 = 0 → p < (q_pa b T s p D).2.1) := by
  unfold q_pa
  split
  · have g := q_te_gt h (q_isw_tk (by rename_i e; exact e.2))
    split
    · exact ⟨h, fun e => absurd e (by decide : ¬ (3 : Int) = 0)⟩
    · have := q_t5_in g.2.1
      exact ⟨this.2, fun _ => Nat.lt_of_lt_of_le g.1 this.1⟩
  · split
    · have g := q_te_gt h (q_isw_tk (by rename_i e; exact e.2))
      split
      · exact ⟨h, fun e => absurd e (by decide : ¬ (3 : Int) = 0)⟩
      · have := q_w4_in g.2.1
        exact ⟨this.2, fun _ => Nat.lt_of_lt_of_le g.1 this.1⟩
    · split
      · have g := q_te_gt h (q_isw_tk (by rename_i e; exact e.2))
        have := q_tz_in (D := D) g.2.1
        exact ⟨this.2, fun _ => Nat.lt_of_lt_of_le g.1 this.1⟩
      · exact ⟨h, fun e => absurd e (by decide : ¬ (1 : Int) = 0)⟩
/-- from the token at p on, in the stage s: place, fault, wood -/
def q_wl (b : Nat → Int) (T : Nat) : Nat → Nat → Nat → (Nat → Int) → Nat × Int × (Nat → Int)
  | 0, _, p, D => (p, 0, D)
  | d + 1, s, p, D => if (q_pa b T s p D).2.2.1 = 0 ∧ ¬ q_tk b T (q_pa b T s p D).2.1 = 0 then q_wl b T d (q_pa b T s p D).1 (q_pa b T s p D).2.1 (q_pa b T s p D).2.2.2 else ((q_pa b T s p D).2.1, (q_pa b T s p D).2.2.1, (q_pa b T s p D).2.2.2)
theorem q_wl_st {b : Nat → Int} {T : Nat} : ∀ (d e s p : Nat) (D : Nat → Int), p ≤ T → T - p < d → T - p < e → q_wl b T d s p D = q_wl b T e s p D := by
  intro d
  induction d with
  | zero => intro e s p D h h1 h2; omega
  | succ d ih =>
    intro e s p D h h1 h2
    cases e with
    | zero => omega
    | succ e =>
      have g := q_pa_in (b := b) (s := s) (D := D) h
      rw [q_wl, q_wl]
      split
      · rename_i hc
        have g2 := g.2 hc.1
        exact ih e _ _ _ g.1 (by omega) (by omega)
      · rfl
def q_wo (b : Nat → Int) (T s p : Nat) (D : Nat → Int) : Nat × Int × (Nat → Int) := q_wl b T (T - p + 1) s p D
theorem q_wo_go {b : Nat → Int} {T s p : Nat} {D : Nat → Int} (h : p ≤ T) (h1 : (q_pa b T s p D).2.2.1 = 0) (h2 : ¬ q_tk b T (q_pa b T s p D).2.1 = 0) : q_wo b T s p D = q_wo b T (q_pa b T s p D).1 (q_pa b T s p D).2.1 (q_pa b T s p D).2.2.2 := by
  have g := q_pa_in (b := b) (s := s) (D := D) h
  have g2 := g.2 h1
  unfold q_wo
  rw [q_wl, if_pos ⟨h1, h2⟩]
  exact q_wl_st _ _ _ _ _ g.1 (by omega) (by omega)
theorem q_wo_end {b : Nat → Int} {T s p : Nat} {D : Nat → Int} (h1 : ¬ ((q_pa b T s p D).2.2.1 = 0 ∧ ¬ q_tk b T (q_pa b T s p D).2.1 = 0)) : q_wo b T s p D = ((q_pa b T s p D).2.1, (q_pa b T s p D).2.2.1, (q_pa b T s p D).2.2.2) := by
  unfold q_wo
  rw [q_wl, if_neg h1]
def SX4_readPart : zS := fun as σ Ret => match as with
  | [.inr (.inr (4, 0, k)), .inr (.inr (8, 0, w)), .inl s] => ∃ b T p D, (q_rs σ k b T p 0 ∧ q_dr σ w D ∧ (0 ≤ s ∧ s ≤ 3) ∧ (s < 3 → D 2 < 10)) ∧ ∀ σ' : zM, q_fw k w σ σ' → q_rs σ' k b T (q_pa b T s.toNat p D).2.1 (q_pa b T s.toNat p D).2.2.1 → q_dr σ' w (q_pa b T s.toNat p D).2.2.2 → Ret (some (.inl (q_pa b T s.toNat p D).1)) σ'
  | _ => False
def tX4_readPart_0 (X : Nat → zB) (Ret : zR) (L : zL) (st : List zV) (σ : zM) : Prop := (z_iload 2 (z_push 1 (z_icgt (X 24) (z_aload 0 (z_ldcs 0 (z_cv1 4 SX4_isWord (z_ifeq (X 24) (z_aload 0 (z_aload 1 (z_getr 8 1 6 0 (z_cv1 4 SX4_readTree (z_push 1 (z_iret Ret))))))))))))) L st σ
def tX4_readPart_24 (X : Nat → zB) (Ret : zR) (L : zL) (st : List zV) (σ : zM) : Prop := (z_iload 2 (z_push 1 (z_iceq (X 34) (z_iload 2 (z_push 2 (z_icne (z_push 0 (X 39)) (X 34))))))) L st σ
def tX4_readPart_34 (X : Nat → zB) (Ret : zR) (L : zL) (st : List zV) (σ : zM) : Prop := (z_push 1 (z_goto (X 39))) L st σ
def tX4_readPart_39 (X : Nat → zB) (Ret : zR) (L : zL) (st : List zV) (σ : zM) : Prop := (z_istore 3 (z_iload 3 (z_ifeq (X 63) (z_aload 0 (z_ldcs 1 (z_cv1 4 SX4_isWord (z_ifeq (X 63) (z_aload 0 (z_aload 1 (z_getr 8 8 7 0 (z_cv1 4 SX4_readWind (z_push 2 (z_iret Ret))))))))))))) L st σ
def tX4_readPart_63 (X : Nat → zB) (Ret : zR) (L : zL) (st : List zV) (σ : zM) : Prop := (z_iload 3 (z_ifeq (X 84) (z_aload 0 (z_ldcs 2 (z_cv1 4 SX4_isWord (z_ifeq (X 84) (z_aload 0 (z_aload 1 (z_cv1 4 SX4_readTune (z_goto (z_push 3 (z_iret Ret)))))))))))) L st σ
def tX4_readPart_84 (X : Nat → zB) (Ret : zR) (L : zL) (st : List zV) (σ : zM) : Prop := (z_aload 0 (z_push 1 (z_cv1 4 SX4_fail (z_push 3 (z_iret Ret))))) L st σ
theorem pX4_readPart {as : List zV} {σ : zM} {Ret : zR} (h : SX4_readPart as σ Ret) : ∃ (k0 : Nat) (k1 : Nat) (x2 : Int), as = [.inr (.inr (4, 0, k0)), .inr (.inr (8, 0, k1)), .inl x2] := by
  unfold SX4_readPart at h
  split at h
  · exact ⟨_, _, _, rfl⟩
  · exact h.elim
set_option maxRecDepth 10000 in
set_option maxHeartbeats 4000000 in
theorem vX4_readPart {X : Nat → zB} {Ret : zR} (h0 : ∀ L st σ, tX4_readPart_0 X Ret L st σ → X 0 L st σ) (h24 : ∀ L st σ, tX4_readPart_24 X Ret L st σ → X 24 L st σ) (h34 : ∀ L st σ, tX4_readPart_34 X Ret L st σ → X 34 L st σ) (h39 : ∀ L st σ, tX4_readPart_39 X Ret L st σ → X 39 L st σ) (h63 : ∀ L st σ, tX4_readPart_63 X Ret L st σ → X 63 L st σ) (h84 : ∀ L st σ, tX4_readPart_84 X Ret L st σ → X 84 L st σ) (k0 : Nat) (k1 : Nat) (x2 : Int) (σ : zM) (hk0 : z_kd k0 = (4, 0)) (hk1 : z_kd k1 = (8, 0)) (hx2 : -2147483648 ≤ x2 ∧ x2 ≤ 2147483647) (hσ : z_okm σ) (h : SX4_readPart [.inr (.inr (4, 0, k0)), .inr (.inr (8, 0, k1)), .inl x2] σ Ret) : X 0 [some (.inr (.inr (4, 0, k0))), some (.inr (.inr (8, 0, k1))), some (.inl x2), none] [] σ := by
  obtain ⟨b, T, p, D, ⟨rs, dr, ⟨s0, s3⟩, c2⟩, h⟩ := h
  obtain ⟨s, hs⟩ := z_nat s0
  subst hs
  have ek := z_kd4 hk0
  have ew := z_kd8 hk1
  have L84 : ∀ v, q_pa b T s p D = (3, p, 1, D) → X 84 [some (.inr (.inr (4, 0, k0))), some (.inr (.inr (8, 0, k1))), some (.inl (s : Int)), v] [] σ := by
    intro v e
    have e3 : σ k0 3 = 0 := rs.2.2.2.2.2
    simp only [Int.toNat_natCast, e] at h
    have fin := h (z_up σ k0 3 1) (q_fr.rf.up (by omega) 1).fw (rs.fault 1) (dr.fr (fun c j e1 e2 => z_up_ne (by omega)))
    refine h84 _ _ _ ?_
    simp only [z_push, z_lpush, z_iload, z_lload, z_aload, z_istore, z_istoreP, z_lstore, z_astore, z_iinc, z_iincP, z_iadd, z_isub, z_imul, z_iaddW, z_isubW, z_imulW, z_idiv, z_irem, z_iand, z_ior, z_ixor, z_ishl, z_ishr, z_iushr, z_ineg, z_i2l, z_i2b, z_i2s, z_i2c, z_l2i, z_ladd, z_lsub, z_land, z_lor, z_lshl, z_lshr, z_lcmp, z_dup, z_pop, z_dup2, z_goto, z_tsw, z_cases, z_geti, z_getr, z_puti, z_putz, z_ald, z_iast, z_bast, z_zast, z_alen, z_acopy, z_mmax, z_mmin, z_mabs, z_mabsL, z_iret, z_zret, z_nret, z_lret, z_aret, z_vret, z_cat, z_xald, z_xlen, z_ldcs, z_strv, z_strc, z_gcs, z_gfm, z_sln, z_sald, z_ifeq, z_ifne, z_iflt, z_ifge, z_ifgt, z_ifle, z_iceq, z_icne, z_iclt, z_icge, z_icgt, z_icle, z_cs0, z_cs1, z_cs2, z_cs3, z_cs4, z_cs5, z_cs6, z_cs7, z_cv0, z_cv1, z_cv2, z_cv3, z_cv4, z_cv5, z_cv6, z_cv7, z_g0, z_s0, z_g1, z_s1, z_g2, z_s2, z_g3, z_s3, z_g4, z_s4, z_g5, z_s5, z_g6, z_s6, z_g7, z_s7, z_g8, z_s8, z_g9, z_s9, z_g10, z_s10, z_g11, z_s11, z_g12, z_s12, z_g13, z_s13, z_b0, z_b1, z_b0n, z_b1n, z_up_far1, z_up_far2, z_up_far3, z_up_far4, z_up_far5, z_up_far6, Classical.not_not, not_true_eq_false, z_in, z_inL, Int.cast_ofNat_Int, Nat.reduceLeDiff, List.length_cons, List.length_nil, Nat.reduceAdd, Nat.zero_add, Nat.le_refl, true_and, and_true, List.length, Nat.reduceLT, true_or, or_true, false_or, or_false, false_and, and_false, not_true_eq_false, not_false_eq_true, forall_const, false_implies, true_implies, Int.reduceEq, Int.reduceLT, Int.reduceLE, Int.reduceAdd, Int.reduceSub, Int.reduceMul, Int.reduceNeg, Int.reduceToNat, Int.toNat_natCast, ↓reduceIte, reduceIte, Nat.reduceEqDiff, Nat.reduceSub, Nat.reduceMul, ne_eq, Int.zero_add, Int.add_zero, Int.sub_zero, Nat.add_zero, Int.ofNat_eq_natCast, tX4_readPart_84, SX4_fail, e3]
    exact fin
  have L63 : ∀ v : Int, (v = if s = 1 ∨ s = 2 then 1 else 0) → ¬ (s ≤ 1 ∧ q_isw b T p 0 = true) → ¬ ((s = 1 ∨ s = 2) ∧ q_isw b T p 1 = true) → X 63 [some (.inr (.inr (4, 0, k0))), some (.inr (.inr (8, 0, k1))), some (.inl (s : Int)), some (.inl v)] [] σ := by
    intro v hv n1 n2
    refine h63 _ _ _ ?_
    simp only [z_push, z_lpush, z_iload, z_lload, z_aload, z_istore, z_istoreP, z_lstore, z_astore, z_iinc, z_iincP, z_iadd, z_isub, z_imul, z_iaddW, z_isubW, z_imulW, z_idiv, z_irem, z_iand, z_ior, z_ixor, z_ishl, z_ishr, z_iushr, z_ineg, z_i2l, z_i2b, z_i2s, z_i2c, z_l2i, z_ladd, z_lsub, z_land, z_lor, z_lshl, z_lshr, z_lcmp, z_dup, z_pop, z_dup2, z_goto, z_tsw, z_cases, z_geti, z_getr, z_puti, z_putz, z_ald, z_iast, z_bast, z_zast, z_alen, z_acopy, z_mmax, z_mmin, z_mabs, z_mabsL, z_iret, z_zret, z_nret, z_lret, z_aret, z_vret, z_cat, z_xald, z_xlen, z_ldcs, z_strv, z_strc, z_gcs, z_gfm, z_sln, z_sald, z_ifeq, z_ifne, z_iflt, z_ifge, z_ifgt, z_ifle, z_iceq, z_icne, z_iclt, z_icge, z_icgt, z_icle, z_cs0, z_cs1, z_cs2, z_cs3, z_cs4, z_cs5, z_cs6, z_cs7, z_cv0, z_cv1, z_cv2, z_cv3, z_cv4, z_cv5, z_cv6, z_cv7, z_g0, z_s0, z_g1, z_s1, z_g2, z_s2, z_g3, z_s3, z_g4, z_s4, z_g5, z_s5, z_g6, z_s6, z_g7, z_s7, z_g8, z_s8, z_g9, z_s9, z_g10, z_s10, z_g11, z_s11, z_g12, z_s12, z_g13, z_s13, z_b0, z_b1, z_b0n, z_b1n, z_up_far1, z_up_far2, z_up_far3, z_up_far4, z_up_far5, z_up_far6, Classical.not_not, not_true_eq_false, z_in, z_inL, Int.cast_ofNat_Int, Nat.reduceLeDiff, List.length_cons, List.length_nil, Nat.reduceAdd, Nat.zero_add, Nat.le_refl, true_and, and_true, List.length, Nat.reduceLT, true_or, or_true, false_or, or_false, false_and, and_false, not_true_eq_false, not_false_eq_true, forall_const, false_implies, true_implies, Int.reduceEq, Int.reduceLT, Int.reduceLE, Int.reduceAdd, Int.reduceSub, Int.reduceMul, Int.reduceNeg, Int.reduceToNat, Int.toNat_natCast, ↓reduceIte, reduceIte, Nat.reduceEqDiff, Nat.reduceSub, Nat.reduceMul, ne_eq, Int.zero_add, Int.add_zero, Int.sub_zero, Nat.add_zero, Int.ofNat_eq_natCast, tX4_readPart_63, SX4_isWord, SX4_readTune]
    refine ⟨fun e => ?_, fun e => ⟨b, T, p, 0, rs, fun e2 => ?_, fun e2 => ⟨b, T, p, D, ⟨rs, dr, ?_⟩, fun σ' f1 g1 d1 => ?_⟩⟩⟩
    · refine L84 _ ?_
      have c : ¬ (s = 1 ∨ s = 2) := fun q => by rw [if_pos q] at hv; omega
      unfold q_pa
      rw [if_neg n1, if_neg n2, if_neg (fun q => c q.1)]
    · refine L84 _ ?_
      unfold q_pa
      rw [if_neg n1, if_neg n2, if_neg (fun q => e2 q.2)]
    · have c : s = 1 ∨ s = 2 := by
        by_cases q : s = 1 ∨ s = 2
        · exact q
        · rw [if_neg q] at hv; omega
      exact c2 (by omega)
    · have c : s = 1 ∨ s = 2 := by
        by_cases q : s = 1 ∨ s = 2
        · exact q
        · rw [if_neg q] at hv; omega
      have e : q_pa b T s p D = (3, (q_tz b T p D).1, (q_tz b T p D).2, (q_tu b T p D).2.2) := by
        unfold q_pa
        rw [if_neg n1, if_neg n2, if_pos ⟨c, e2⟩]
      simp only [Int.toNat_natCast, e] at h
      exact h σ' f1 g1 d1
  have L39 : ∀ v : Int, (v = if s = 1 ∨ s = 2 then 1 else 0) → ¬ (s ≤ 1 ∧ q_isw b T p 0 = true) → X 39 [some (.inr (.inr (4, 0, k0))), some (.inr (.inr (8, 0, k1))), some (.inl (s : Int)), none] [.inl v] σ := by
    intro v hv n1
    refine h39 _ _ _ ?_
    simp only [z_push, z_lpush, z_iload, z_lload, z_aload, z_istore, z_istoreP, z_lstore, z_astore, z_iinc, z_iincP, z_iadd, z_isub, z_imul, z_iaddW, z_isubW, z_imulW, z_idiv, z_irem, z_iand, z_ior, z_ixor, z_ishl, z_ishr, z_iushr, z_ineg, z_i2l, z_i2b, z_i2s, z_i2c, z_l2i, z_ladd, z_lsub, z_land, z_lor, z_lshl, z_lshr, z_lcmp, z_dup, z_pop, z_dup2, z_goto, z_tsw, z_cases, z_geti, z_getr, z_puti, z_putz, z_ald, z_iast, z_bast, z_zast, z_alen, z_acopy, z_mmax, z_mmin, z_mabs, z_mabsL, z_iret, z_zret, z_nret, z_lret, z_aret, z_vret, z_cat, z_xald, z_xlen, z_ldcs, z_strv, z_strc, z_gcs, z_gfm, z_sln, z_sald, z_ifeq, z_ifne, z_iflt, z_ifge, z_ifgt, z_ifle, z_iceq, z_icne, z_iclt, z_icge, z_icgt, z_icle, z_cs0, z_cs1, z_cs2, z_cs3, z_cs4, z_cs5, z_cs6, z_cs7, z_cv0, z_cv1, z_cv2, z_cv3, z_cv4, z_cv5, z_cv6, z_cv7, z_g0, z_s0, z_g1, z_s1, z_g2, z_s2, z_g3, z_s3, z_g4, z_s4, z_g5, z_s5, z_g6, z_s6, z_g7, z_s7, z_g8, z_s8, z_g9, z_s9, z_g10, z_s10, z_g11, z_s11, z_g12, z_s12, z_g13, z_s13, z_b0, z_b1, z_b0n, z_b1n, z_up_far1, z_up_far2, z_up_far3, z_up_far4, z_up_far5, z_up_far6, Classical.not_not, not_true_eq_false, z_in, z_inL, Int.cast_ofNat_Int, Nat.reduceLeDiff, List.length_cons, List.length_nil, Nat.reduceAdd, Nat.zero_add, Nat.le_refl, true_and, and_true, List.length, Nat.reduceLT, true_or, or_true, false_or, or_false, false_and, and_false, not_true_eq_false, not_false_eq_true, forall_const, false_implies, true_implies, Int.reduceEq, Int.reduceLT, Int.reduceLE, Int.reduceAdd, Int.reduceSub, Int.reduceMul, Int.reduceNeg, Int.reduceToNat, Int.toNat_natCast, ↓reduceIte, reduceIte, Nat.reduceEqDiff, Nat.reduceSub, Nat.reduceMul, ne_eq, Int.zero_add, Int.add_zero, Int.sub_zero, Nat.add_zero, Int.ofNat_eq_natCast, tX4_readPart_39, SX4_isWord, SX4_readWind]
    refine ⟨fun e => ?_, fun e => ⟨b, T, p, 0, rs, fun e2 => ?_, fun e2 => ⟨b, T, p, ⟨rs, ?_⟩, fun c σ' f1 g1 => ?_, fun c σ' f1 g1 => ?_⟩⟩⟩
    · refine L63 v hv n1 ?_
      have c : ¬ (s = 1 ∨ s = 2) := fun q => by rw [if_pos q] at hv; omega
      exact fun q => c q.1
    · exact L63 v hv n1 (fun q => e2 q.2)
    · have := dr.1.1.2.1; omega
    all_goals
      have cs : s = 1 ∨ s = 2 := by
        by_cases q : s = 1 ∨ s = 2
        · exact q
        · rw [if_neg q] at hv; omega
      have ec := dr.1.1.2.1
    · have e : q_pa b T s p D = (2, p, 3, D) := by
        unfold q_pa
        rw [if_neg n1, if_pos ⟨cs, e2⟩, if_pos (by omega)]
      simp only [Int.toNat_natCast, e] at h
      exact h σ' f1.fw g1 (dr.fr (fun c j e1 e2 => f1 c j (by omega)))
    · have e : q_pa b T s p D = (2, (q_w4 b T p).1, (q_w4 b T p).2, q_dW D (q_w1 b T p).1 (q_w2 b T p).1 (q_w3 b T p).1) := by
        unfold q_pa
        rw [if_neg n1, if_pos ⟨cs, e2⟩, if_neg (by omega)]
      simp only [Int.toNat_natCast, e] at h
      refine h σ' (fun c j a1 a2 => ?_) g1 ((dr.addW (by omega) _ _ _).fr (fun c j e1 e2 => f1 c j (by omega)))
      rw [f1 c j a1]
      unfold q_addW
      rw [z_up_ne (by omega), z_up_ne (by omega), z_up_ne (by omega), z_up_ne (by omega)]
  have L24 : ¬ (s ≤ 1 ∧ q_isw b T p 0 = true) → X 24 [some (.inr (.inr (4, 0, k0))), some (.inr (.inr (8, 0, k1))), some (.inl (s : Int)), none] [] σ := by
    intro n1
    have L34 : (s = 1 ∨ s = 2) → X 34 [some (.inr (.inr (4, 0, k0))), some (.inr (.inr (8, 0, k1))), some (.inl (s : Int)), none] [] σ := by
      intro c
      refine h34 _ _ _ ?_
      simp only [z_push, z_lpush, z_iload, z_lload, z_aload, z_istore, z_istoreP, z_lstore, z_astore, z_iinc, z_iincP, z_iadd, z_isub, z_imul, z_iaddW, z_isubW, z_imulW, z_idiv, z_irem, z_iand, z_ior, z_ixor, z_ishl, z_ishr, z_iushr, z_ineg, z_i2l, z_i2b, z_i2s, z_i2c, z_l2i, z_ladd, z_lsub, z_land, z_lor, z_lshl, z_lshr, z_lcmp, z_dup, z_pop, z_dup2, z_goto, z_tsw, z_cases, z_geti, z_getr, z_puti, z_putz, z_ald, z_iast, z_bast, z_zast, z_alen, z_acopy, z_mmax, z_mmin, z_mabs, z_mabsL, z_iret, z_zret, z_nret, z_lret, z_aret, z_vret, z_cat, z_xald, z_xlen, z_ldcs, z_strv, z_strc, z_gcs, z_gfm, z_sln, z_sald, z_ifeq, z_ifne, z_iflt, z_ifge, z_ifgt, z_ifle, z_iceq, z_icne, z_iclt, z_icge, z_icgt, z_icle, z_cs0, z_cs1, z_cs2, z_cs3, z_cs4, z_cs5, z_cs6, z_cs7, z_cv0, z_cv1, z_cv2, z_cv3, z_cv4, z_cv5, z_cv6, z_cv7, z_g0, z_s0, z_g1, z_s1, z_g2, z_s2, z_g3, z_s3, z_g4, z_s4, z_g5, z_s5, z_g6, z_s6, z_g7, z_s7, z_g8, z_s8, z_g9, z_s9, z_g10, z_s10, z_g11, z_s11, z_g12, z_s12, z_g13, z_s13, z_b0, z_b1, z_b0n, z_b1n, z_up_far1, z_up_far2, z_up_far3, z_up_far4, z_up_far5, z_up_far6, Classical.not_not, not_true_eq_false, z_in, z_inL, Int.cast_ofNat_Int, Nat.reduceLeDiff, List.length_cons, List.length_nil, Nat.reduceAdd, Nat.zero_add, Nat.le_refl, true_and, and_true, List.length, Nat.reduceLT, true_or, or_true, false_or, or_false, false_and, and_false, not_true_eq_false, not_false_eq_true, forall_const, false_implies, true_implies, Int.reduceEq, Int.reduceLT, Int.reduceLE, Int.reduceAdd, Int.reduceSub, Int.reduceMul, Int.reduceNeg, Int.reduceToNat, Int.toNat_natCast, ↓reduceIte, reduceIte, Nat.reduceEqDiff, Nat.reduceSub, Nat.reduceMul, ne_eq, Int.zero_add, Int.add_zero, Int.sub_zero, Nat.add_zero, Int.ofNat_eq_natCast, tX4_readPart_34]
      exact L39 1 (by rw [if_pos c]) n1
    refine h24 _ _ _ ?_
    simp only [z_push, z_lpush, z_iload, z_lload, z_aload, z_istore, z_istoreP, z_lstore, z_astore, z_iinc, z_iincP, z_iadd, z_isub, z_imul, z_iaddW, z_isubW, z_imulW, z_idiv, z_irem, z_iand, z_ior, z_ixor, z_ishl, z_ishr, z_iushr, z_ineg, z_i2l, z_i2b, z_i2s, z_i2c, z_l2i, z_ladd, z_lsub, z_land, z_lor, z_lshl, z_lshr, z_lcmp, z_dup, z_pop, z_dup2, z_goto, z_tsw, z_cases, z_geti, z_getr, z_puti, z_putz, z_ald, z_iast, z_bast, z_zast, z_alen, z_acopy, z_mmax, z_mmin, z_mabs, z_mabsL, z_iret, z_zret, z_nret, z_lret, z_aret, z_vret, z_cat, z_xald, z_xlen, z_ldcs, z_strv, z_strc, z_gcs, z_gfm, z_sln, z_sald, z_ifeq, z_ifne, z_iflt, z_ifge, z_ifgt, z_ifle, z_iceq, z_icne, z_iclt, z_icge, z_icgt, z_icle, z_cs0, z_cs1, z_cs2, z_cs3, z_cs4, z_cs5, z_cs6, z_cs7, z_cv0, z_cv1, z_cv2, z_cv3, z_cv4, z_cv5, z_cv6, z_cv7, z_g0, z_s0, z_g1, z_s1, z_g2, z_s2, z_g3, z_s3, z_g4, z_s4, z_g5, z_s5, z_g6, z_s6, z_g7, z_s7, z_g8, z_s8, z_g9, z_s9, z_g10, z_s10, z_g11, z_s11, z_g12, z_s12, z_g13, z_s13, z_b0, z_b1, z_b0n, z_b1n, z_up_far1, z_up_far2, z_up_far3, z_up_far4, z_up_far5, z_up_far6, Classical.not_not, not_true_eq_false, z_in, z_inL, Int.cast_ofNat_Int, Nat.reduceLeDiff, List.length_cons, List.length_nil, Nat.reduceAdd, Nat.zero_add, Nat.le_refl, true_and, and_true, List.length, Nat.reduceLT, true_or, or_true, false_or, or_false, false_and, and_false, not_true_eq_false, not_false_eq_true, forall_const, false_implies, true_implies, Int.reduceEq, Int.reduceLT, Int.reduceLE, Int.reduceAdd, Int.reduceSub, Int.reduceMul, Int.reduceNeg, Int.reduceToNat, Int.toNat_natCast, ↓reduceIte, reduceIte, Nat.reduceEqDiff, Nat.reduceSub, Nat.reduceMul, ne_eq, Int.zero_add, Int.add_zero, Int.sub_zero, Nat.add_zero, Int.ofNat_eq_natCast, tX4_readPart_24]
    refine ⟨fun e => L34 (by omega), fun e => ⟨fun e2 => L39 0 (by rw [if_neg (by omega)]) n1, fun e2 => L34 (by omega)⟩⟩
  refine h0 _ _ _ ?_
  simp only [z_push, z_lpush, z_iload, z_lload, z_aload, z_istore, z_istoreP, z_lstore, z_astore, z_iinc, z_iincP, z_iadd, z_isub, z_imul, z_iaddW, z_isubW, z_imulW, z_idiv, z_irem, z_iand, z_ior, z_ixor, z_ishl, z_ishr, z_iushr, z_ineg, z_i2l, z_i2b, z_i2s, z_i2c, z_l2i, z_ladd, z_lsub, z_land, z_lor, z_lshl, z_lshr, z_lcmp, z_dup, z_pop, z_dup2, z_goto, z_tsw, z_cases, z_geti, z_getr, z_puti, z_putz, z_ald, z_iast, z_bast, z_zast, z_alen, z_acopy, z_mmax, z_mmin, z_mabs, z_mabsL, z_iret, z_zret, z_nret, z_lret, z_aret, z_vret, z_cat, z_xald, z_xlen, z_ldcs, z_strv, z_strc, z_gcs, z_gfm, z_sln, z_sald, z_ifeq, z_ifne, z_iflt, z_ifge, z_ifgt, z_ifle, z_iceq, z_icne, z_iclt, z_icge, z_icgt, z_icle, z_cs0, z_cs1, z_cs2, z_cs3, z_cs4, z_cs5, z_cs6, z_cs7, z_cv0, z_cv1, z_cv2, z_cv3, z_cv4, z_cv5, z_cv6, z_cv7, z_g0, z_s0, z_g1, z_s1, z_g2, z_s2, z_g3, z_s3, z_g4, z_s4, z_g5, z_s5, z_g6, z_s6, z_g7, z_s7, z_g8, z_s8, z_g9, z_s9, z_g10, z_s10, z_g11, z_s11, z_g12, z_s12, z_g13, z_s13, z_b0, z_b1, z_b0n, z_b1n, z_up_far1, z_up_far2, z_up_far3, z_up_far4, z_up_far5, z_up_far6, Classical.not_not, not_true_eq_false, z_in, z_inL, Int.cast_ofNat_Int, Nat.reduceLeDiff, List.length_cons, List.length_nil, Nat.reduceAdd, Nat.zero_add, Nat.le_refl, true_and, and_true, List.length, Nat.reduceLT, true_or, or_true, false_or, or_false, false_and, and_false, not_true_eq_false, not_false_eq_true, forall_const, false_implies, true_implies, Int.reduceEq, Int.reduceLT, Int.reduceLE, Int.reduceAdd, Int.reduceSub, Int.reduceMul, Int.reduceNeg, Int.reduceToNat, Int.toNat_natCast, ↓reduceIte, reduceIte, Nat.reduceEqDiff, Nat.reduceSub, Nat.reduceMul, ne_eq, Int.zero_add, Int.add_zero, Int.sub_zero, Nat.add_zero, Int.ofNat_eq_natCast, tX4_readPart_0, SX4_isWord, SX4_readTree]
  refine ⟨fun e => L24 (by omega), fun e => ⟨b, T, p, 0, rs, fun e2 => L24 (fun q => e2 q.2), fun e2 => ⟨b, T, p, ⟨rs, ?_⟩, fun c σ' f1 g1 => ?_, fun c σ' f1 g1 => ?_⟩⟩⟩
  · have := dr.1.1.1; omega
  · have ec := dr.1.1.1
    have e : q_pa b T s p D = (1, p, 3, D) := by
      unfold q_pa
      rw [if_pos ⟨by omega, e2⟩, if_pos (by omega)]
    simp only [Int.toNat_natCast, e] at h
    exact h σ' f1.fw g1 (dr.fr (fun c j e1 e2 => f1 c j (by omega)))
  · have ec := dr.1.1.1
    have e : q_pa b T s p D = (1, (q_t5 b T p).1, (q_t5 b T p).2, q_dT D (q_t1 b T p).1 (q_t2 b T p).1 (q_t3 b T p).1 (q_t4 b T p).1) := by
      unfold q_pa
      rw [if_pos ⟨by omega, e2⟩, if_neg (by omega)]
    simp only [Int.toNat_natCast, e] at h
    refine h σ' (fun c j a1 a2 => ?_) g1 ((dr.addT (by omega) _ _ _ _).fr (fun c j e1 e2 => f1 c j (by omega)))
    rw [f1 c j a1]
    unfold q_addT
    rw [z_up_ne (by omega), z_up_ne (by omega), z_up_ne (by omega), z_up_ne (by omega), z_up_ne (by omega), z_up_ne (by omega), z_up_ne (by omega)]
theorem dX4_readPart_0 : decode cX4_readPart 0 = .ok (.iload_n 2, 1) := by decide +kernel
theorem dX4_readPart_1 : decode cX4_readPart 1 = .ok (.iconst 1, 1) := by decide +kernel
theorem dX4_readPart_2 : decode cX4_readPart 2 = .ok (.if_icmp .gt 22, 3) := by decide +kernel
theorem dX4_readPart_5 : decode cX4_readPart 5 = .ok (.aload_n 0, 1) := by decide +kernel
theorem dX4_readPart_6 : decode cX4_readPart 6 = .ok (.ldc 56, 2) := by decide +kernel
theorem dX4_readPart_8 : decode cX4_readPart 8 = .ok (.invokevirtual 58, 3) := by decide +kernel
theorem dX4_readPart_11 : decode cX4_readPart 11 = .ok (.ifCond .eq 13, 3) := by decide +kernel
theorem dX4_readPart_14 : decode cX4_readPart 14 = .ok (.aload_n 0, 1) := by decide +kernel
theorem dX4_readPart_15 : decode cX4_readPart 15 = .ok (.aload_n 1, 1) := by decide +kernel
theorem dX4_readPart_16 : decode cX4_readPart 16 = .ok (.getfield 62, 3) := by decide +kernel
theorem dX4_readPart_19 : decode cX4_readPart 19 = .ok (.invokevirtual 66, 3) := by decide +kernel
theorem dX4_readPart_22 : decode cX4_readPart 22 = .ok (.iconst 1, 1) := by decide +kernel
theorem dX4_readPart_23 : decode cX4_readPart 23 = .ok (.ireturn, 1) := by decide +kernel
theorem dX4_readPart_24 : decode cX4_readPart 24 = .ok (.iload_n 2, 1) := by decide +kernel
theorem dX4_readPart_25 : decode cX4_readPart 25 = .ok (.iconst 1, 1) := by decide +kernel
theorem dX4_readPart_26 : decode cX4_readPart 26 = .ok (.if_icmp .eq 8, 3) := by decide +kernel
theorem dX4_readPart_29 : decode cX4_readPart 29 = .ok (.iload_n 2, 1) := by decide +kernel
theorem dX4_readPart_30 : decode cX4_readPart 30 = .ok (.iconst 2, 1) := by decide +kernel
theorem dX4_readPart_31 : decode cX4_readPart 31 = .ok (.if_icmp .ne 7, 3) := by decide +kernel
theorem dX4_readPart_34 : decode cX4_readPart 34 = .ok (.iconst 1, 1) := by decide +kernel
theorem dX4_readPart_35 : decode cX4_readPart 35 = .ok (.goto 4, 3) := by decide +kernel
theorem dX4_readPart_38 : decode cX4_readPart 38 = .ok (.iconst 0, 1) := by decide +kernel
theorem dX4_readPart_39 : decode cX4_readPart 39 = .ok (.istore_n 3, 1) := by decide +kernel
theorem dX4_readPart_40 : decode cX4_readPart 40 = .ok (.iload_n 3, 1) := by decide +kernel
theorem dX4_readPart_41 : decode cX4_readPart 41 = .ok (.ifCond .eq 22, 3) := by decide +kernel
theorem dX4_readPart_44 : decode cX4_readPart 44 = .ok (.aload_n 0, 1) := by decide +kernel
theorem dX4_readPart_45 : decode cX4_readPart 45 = .ok (.ldc 70, 2) := by decide +kernel
theorem dX4_readPart_47 : decode cX4_readPart 47 = .ok (.invokevirtual 58, 3) := by decide +kernel
theorem dX4_readPart_50 : decode cX4_readPart 50 = .ok (.ifCond .eq 13, 3) := by decide +kernel
theorem dX4_readPart_53 : decode cX4_readPart 53 = .ok (.aload_n 0, 1) := by decide +kernel
theorem dX4_readPart_54 : decode cX4_readPart 54 = .ok (.aload_n 1, 1) := by decide +kernel
theorem dX4_readPart_55 : decode cX4_readPart 55 = .ok (.getfield 72, 3) := by decide +kernel
theorem dX4_readPart_58 : decode cX4_readPart 58 = .ok (.invokevirtual 76, 3) := by decide +kernel
theorem dX4_readPart_61 : decode cX4_readPart 61 = .ok (.iconst 2, 1) := by decide +kernel
theorem dX4_readPart_62 : decode cX4_readPart 62 = .ok (.ireturn, 1) := by decide +kernel
theorem dX4_readPart_63 : decode cX4_readPart 63 = .ok (.iload_n 3, 1) := by decide +kernel
theorem dX4_readPart_64 : decode cX4_readPart 64 = .ok (.ifCond .eq 20, 3) := by decide +kernel
theorem dX4_readPart_67 : decode cX4_readPart 67 = .ok (.aload_n 0, 1) := by decide +kernel
theorem dX4_readPart_68 : decode cX4_readPart 68 = .ok (.ldc 80, 2) := by decide +kernel
theorem dX4_readPart_70 : decode cX4_readPart 70 = .ok (.invokevirtual 58, 3) := by decide +kernel
theorem dX4_readPart_73 : decode cX4_readPart 73 = .ok (.ifCond .eq 11, 3) := by decide +kernel
theorem dX4_readPart_76 : decode cX4_readPart 76 = .ok (.aload_n 0, 1) := by decide +kernel
theorem dX4_readPart_77 : decode cX4_readPart 77 = .ok (.aload_n 1, 1) := by decide +kernel
theorem dX4_readPart_78 : decode cX4_readPart 78 = .ok (.invokevirtual 82, 3) := by decide +kernel
theorem dX4_readPart_81 : decode cX4_readPart 81 = .ok (.goto 8, 3) := by decide +kernel
theorem dX4_readPart_84 : decode cX4_readPart 84 = .ok (.aload_n 0, 1) := by decide +kernel
theorem dX4_readPart_85 : decode cX4_readPart 85 = .ok (.iconst 1, 1) := by decide +kernel
theorem dX4_readPart_86 : decode cX4_readPart 86 = .ok (.invokevirtual 86, 3) := by decide +kernel
theorem dX4_readPart_89 : decode cX4_readPart 89 = .ok (.iconst 3, 1) := by decide +kernel
theorem dX4_readPart_90 : decode cX4_readPart 90 = .ok (.ireturn, 1) := by decide +kernel
set_option maxRecDepth 100000 in
theorem rX4_readPart_0 {zx : zX} {zn : Nat} {p : Program} {l : Launch} {e : Env} {s : State} {m : MethodId} {args : Array Value} {below : List Frame} {meth : Method} {c : Code} {D : va_G} {cA : Nat → ClassId} {ad : Nat → Nat} {Ret : zR} (C : z_Cx zx zn (z_A zn ad) 0 0 p { frames := 5, cells := 0, slots := 0, locals := 107 } s m args c cX4_readPart yX4_readPart.cls 4 D cA ad) (hr : meth.sig.returnType = (some .int)) (hlocks : meth.locks = false) : ∀ L st σ, tX4_readPart_0 (z_X zx zn (z_A zn ad) 0 0 p l e { frames := 5, cells := 0, slots := 0, locals := 107 } s m args below meth c (MQ below (z_Qc zn D cA ad Ret) args s 0 0 (z_A zn ad)) 4 D cA ad true) Ret L st σ → z_X zx zn (z_A zn ad) 0 0 p l e { frames := 5, cells := 0, slots := 0, locals := 107 } s m args below meth c (MQ below (z_Qc zn D cA ad Ret) args s 0 0 (z_A zn ad)) 4 D cA ad true 0 L st σ := (s_iload_n C dX4_readPart_0 rfl (s_iconst C dX4_readPart_1 rfl ⟨by decide, by decide⟩ (s_icgt C dX4_readPart_2 (by decide) (fun _ _ _ h => h) (s_aload_n C dX4_readPart_5 rfl (s_ldcs C dX4_readPart_6 (j := 0) (by decide) rfl rfl (s_cv1 C dX4_readPart_8 (okX4_isWord l) cls_X4 wd_375 wd_377 wd_6 wd_18 wd_378 ⟨by decide, by decide, by decide +kernel⟩ ⟨by decide, by decide⟩ (s_ifeq C dX4_readPart_11 (by decide) (fun _ _ _ h => h) (s_aload_n C dX4_readPart_14 rfl (s_aload_n C dX4_readPart_15 rfl (s_getr C dX4_readPart_16 (j := 0) cls_X8 (by decide) rfl (by decide) (by decide) (by decide +kernel) wd_194 (s_cv1 C dX4_readPart_19 (okX4_readTree l) cls_X4 wd_605 wd_607 wd_13 wd_18 wd_608 ⟨by decide, by decide, by decide +kernel⟩ ⟨by decide, by decide⟩ (s_iconst C dX4_readPart_22 rfl ⟨by decide, by decide⟩ (s_iret C dX4_readPart_23 hr hlocks)))))))))))))
set_option maxRecDepth 100000 in
theorem rX4_readPart_24 {zx : zX} {zn : Nat} {p : Program} {l : Launch} {e : Env} {s : State} {m : MethodId} {args : Array Value} {below : List Frame} {meth : Method} {c : Code} {D : va_G} {cA : Nat → ClassId} {ad : Nat → Nat} {Ret : zR} (C : z_Cx zx zn (z_A zn ad) 0 0 p { frames := 5, cells := 0, slots := 0, locals := 107 } s m args c cX4_readPart yX4_readPart.cls 4 D cA ad) (hr : meth.sig.returnType = (some .int)) (hlocks : meth.locks = false) : ∀ L st σ, tX4_readPart_24 (z_X zx zn (z_A zn ad) 0 0 p l e { frames := 5, cells := 0, slots := 0, locals := 107 } s m args below meth c (MQ below (z_Qc zn D cA ad Ret) args s 0 0 (z_A zn ad)) 4 D cA ad true) Ret L st σ → z_X zx zn (z_A zn ad) 0 0 p l e { frames := 5, cells := 0, slots := 0, locals := 107 } s m args below meth c (MQ below (z_Qc zn D cA ad Ret) args s 0 0 (z_A zn ad)) 4 D cA ad true 24 L st σ := (s_iload_n C dX4_readPart_24 rfl (s_iconst C dX4_readPart_25 rfl ⟨by decide, by decide⟩ (s_iceq C dX4_readPart_26 (by decide) (fun _ _ _ h => h) (s_iload_n C dX4_readPart_29 rfl (s_iconst C dX4_readPart_30 rfl ⟨by decide, by decide⟩ (s_icne C dX4_readPart_31 (by decide) (s_iconst C dX4_readPart_38 rfl ⟨by decide, by decide⟩ (fun _ _ _ h => h)) (fun _ _ _ h => h)))))))
set_option maxRecDepth 100000 in
theorem rX4_readPart_34 {zx : zX} {zn : Nat} {p : Program} {l : Launch} {e : Env} {s : State} {m : MethodId} {args : Array Value} {below : List Frame} {meth : Method} {c : Code} {D : va_G} {cA : Nat → ClassId} {ad : Nat → Nat} {Ret : zR} (C : z_Cx zx zn (z_A zn ad) 0 0 p { frames := 5, cells := 0, slots := 0, locals := 107 } s m args c cX4_readPart yX4_readPart.cls 4 D cA ad) (hr : meth.sig.returnType = (some .int)) (hlocks : meth.locks = false) : ∀ L st σ, tX4_readPart_34 (z_X zx zn (z_A zn ad) 0 0 p l e { frames := 5, cells := 0, slots := 0, locals := 107 } s m args below meth c (MQ below (z_Qc zn D cA ad Ret) args s 0 0 (z_A zn ad)) 4 D cA ad true) Ret L st σ → z_X zx zn (z_A zn ad) 0 0 p l e { frames := 5, cells := 0, slots := 0, locals := 107 } s m args below meth c (MQ below (z_Qc zn D cA ad Ret) args s 0 0 (z_A zn ad)) 4 D cA ad true 34 L st σ := (s_iconst C dX4_readPart_34 rfl ⟨by decide, by decide⟩ (s_goto C dX4_readPart_35 (by decide) (fun _ _ _ h => h)))
set_option maxRecDepth 100000 in
theorem rX4_readPart_39 {zx : zX} {zn : Nat} {p : Program} {l : Launch} {e : Env} {s : State} {m : MethodId} {args : Array Value} {below : List Frame} {meth : Method} {c : Code} {D : va_G} {cA : Nat → ClassId} {ad : Nat → Nat} {Ret : zR} (C : z_Cx zx zn (z_A zn ad) 0 0 p { frames := 5, cells := 0, slots := 0, locals := 107 } s m args c cX4_readPart yX4_readPart.cls 4 D cA ad) (hr : meth.sig.returnType = (some .int)) (hlocks : meth.locks = false) : ∀ L st σ, tX4_readPart_39 (z_X zx zn (z_A zn ad) 0 0 p l e { frames := 5, cells := 0, slots := 0, locals := 107 } s m args below meth c (MQ below (z_Qc zn D cA ad Ret) args s 0 0 (z_A zn ad)) 4 D cA ad true) Ret L st σ → z_X zx zn (z_A zn ad) 0 0 p l e { frames := 5, cells := 0, slots := 0, locals := 107 } s m args below meth c (MQ below (z_Qc zn D cA ad Ret) args s 0 0 (z_A zn ad)) 4 D cA ad true 39 L st σ := (s_istore_n C dX4_readPart_39 (by decide) rfl rfl (s_iload_n C dX4_readPart_40 rfl (s_ifeq C dX4_readPart_41 (by decide) (fun _ _ _ h => h) (s_aload_n C dX4_readPart_44 rfl (s_ldcs C dX4_readPart_45 (j := 1) (by decide) rfl rfl (s_cv1 C dX4_readPart_47 (okX4_isWord l) cls_X4 wd_375 wd_377 wd_6 wd_18 wd_378 ⟨by decide, by decide, by decide +kernel⟩ ⟨by decide, by decide⟩ (s_ifeq C dX4_readPart_50 (by decide) (fun _ _ _ h => h) (s_aload_n C dX4_readPart_53 rfl (s_aload_n C dX4_readPart_54 rfl (s_getr C dX4_readPart_55 (j := 1) cls_X8 (by decide) rfl (by decide) (by decide) (by decide +kernel) wd_197 (s_cv1 C dX4_readPart_58 (okX4_readWind l) cls_X4 wd_614 wd_616 wd_14 wd_18 wd_617 ⟨by decide, by decide, by decide +kernel⟩ ⟨by decide, by decide⟩ (s_iconst C dX4_readPart_61 rfl ⟨by decide, by decide⟩ (s_iret C dX4_readPart_62 hr hlocks)))))))))))))
set_option maxRecDepth 100000 in
theorem rX4_readPart_63 {zx : zX} {zn : Nat} {p : Program} {l : Launch} {e : Env} {s : State} {m : MethodId} {args : Array Value} {below : List Frame} {meth : Method} {c : Code} {D : va_G} {cA : Nat → ClassId} {ad : Nat → Nat} {Ret : zR} (C : z_Cx zx zn (z_A zn ad) 0 0 p { frames := 5, cells := 0, slots := 0, locals := 107 } s m args c cX4_readPart yX4_readPart.cls 4 D cA ad) (hr : meth.sig.returnType = (some .int)) (hlocks : meth.locks = false) : ∀ L st σ, tX4_readPart_63 (z_X zx zn (z_A zn ad) 0 0 p l e { frames := 5, cells := 0, slots := 0, locals := 107 } s m args below meth c (MQ below (z_Qc zn D cA ad Ret) args s 0 0 (z_A zn ad)) 4 D cA ad true) Ret L st σ → z_X zx zn (z_A zn ad) 0 0 p l e { frames := 5, cells := 0, slots := 0, locals := 107 } s m args below meth c (MQ below (z_Qc zn D cA ad Ret) args s 0 0 (z_A zn ad)) 4 D cA ad true 63 L st σ := (s_iload_n C dX4_readPart_63 rfl (s_ifeq C dX4_readPart_64 (by decide) (fun _ _ _ h => h) (s_aload_n C dX4_readPart_67 rfl (s_ldcs C dX4_readPart_68 (j := 2) (by decide) rfl rfl (s_cv1 C dX4_readPart_70 (okX4_isWord l) cls_X4 wd_375 wd_377 wd_6 wd_18 wd_378 ⟨by decide, by decide, by decide +kernel⟩ ⟨by decide, by decide⟩ (s_ifeq C dX4_readPart_73 (by decide) (fun _ _ _ h => h) (s_aload_n C dX4_readPart_76 rfl (s_aload_n C dX4_readPart_77 rfl (s_cv1 C dX4_readPart_78 (okX4_readTune l) cls_X4 wd_623 wd_625 wd_15 wd_18 wd_626 ⟨by decide, by decide, by decide +kernel⟩ ⟨by decide, by decide⟩ (s_goto C dX4_readPart_81 (by decide) (s_iconst C dX4_readPart_89 rfl ⟨by decide, by decide⟩ (s_iret C dX4_readPart_90 hr hlocks))))))))))))
set_option maxRecDepth 100000 in
theorem rX4_readPart_84 {zx : zX} {zn : Nat} {p : Program} {l : Launch} {e : Env} {s : State} {m : MethodId} {args : Array Value} {below : List Frame} {meth : Method} {c : Code} {D : va_G} {cA : Nat → ClassId} {ad : Nat → Nat} {Ret : zR} (C : z_Cx zx zn (z_A zn ad) 0 0 p { frames := 5, cells := 0, slots := 0, locals := 107 } s m args c cX4_readPart yX4_readPart.cls 4 D cA ad) (hr : meth.sig.returnType = (some .int)) (hlocks : meth.locks = false) : ∀ L st σ, tX4_readPart_84 (z_X zx zn (z_A zn ad) 0 0 p l e { frames := 5, cells := 0, slots := 0, locals := 107 } s m args below meth c (MQ below (z_Qc zn D cA ad Ret) args s 0 0 (z_A zn ad)) 4 D cA ad true) Ret L st σ → z_X zx zn (z_A zn ad) 0 0 p l e { frames := 5, cells := 0, slots := 0, locals := 107 } s m args below meth c (MQ below (z_Qc zn D cA ad Ret) args s 0 0 (z_A zn ad)) 4 D cA ad true 84 L st σ := (s_aload_n C dX4_readPart_84 rfl (s_iconst C dX4_readPart_85 rfl ⟨by decide, by decide⟩ (s_cv1 C dX4_readPart_86 (okX4_fail l) cls_X4 wd_427 wd_429 wd_7 wd_18 wd_430 ⟨by decide, by decide, by decide +kernel⟩ ⟨by decide, by decide⟩ (s_iconst C dX4_readPart_89 rfl ⟨by decide, by decide⟩ (s_iret C dX4_readPart_90 hr hlocks)))))
theorem okX4_readPart {zx : zX} {zn : Nat} (l : Launch) : z_OK zx zn l yX4_readPart cX4_readPart 4 (some .int) 5 107 SX4_readPart := by
  refine z_ok_of true (by decide +kernel) ?_ ?_
  · intro as σ Ret h
    obtain ⟨k0, k1, x2, rfl⟩ := pX4_readPart h
    exact ⟨Nat.le_of_ble_eq_true rfl, by simp⟩
  · intro p e s m args below meth c D cA ad Ret C hr hlocks as σ has hσ h
    obtain ⟨k0, k1, x2, rfl⟩ := pX4_readPart h
    exact vX4_readPart (rX4_readPart_0 C hr hlocks) (rX4_readPart_24 C hr hlocks) (rX4_readPart_34 C hr hlocks) (rX4_readPart_39 C hr hlocks) (rX4_readPart_63 C hr hlocks) (rX4_readPart_84 C hr hlocks) k0 k1 x2 σ (has _ (List.mem_of_getElem? (i := 0) rfl)).1 (has _ (List.mem_of_getElem? (i := 1) rfl)).1 (has _ (List.mem_of_getElem? (i := 2) rfl)) hσ h
