/-! orders off the tape: c orders in E, three places each -/
def q_o1 (b : Nat → Int) (T p : Nat) (n : Int) : Int × Nat × Int := if q_ord b T p = 6 ∨ q_ord b T p = 7 then (0, q_te b T p, 0) else q_pn b T (q_te b T p) 0 0 (n - 1)
def q_o2 (b : Nat → Int) (T p : Nat) (n : Int) : Int × Nat × Int := if q_ord b T p = 0 ∨ q_ord b T p = 1 then q_pn b T (q_o1 b T p n).2.1 (q_o1 b T p n).2.2 1 89 else if q_ord b T p = 2 then q_pn b T (q_o1 b T p n).2.1 (q_o1 b T p n).2.2 0 7 else (0, (q_o1 b T p n).2.1, (q_o1 b T p n).2.2)
def q_o3 (b : Nat → Int) (T p : Nat) (n : Int) : Nat × Int := q_ps b T (q_o2 b T p n).2.1 (q_o2 b T p n).2.2
def q_dO (c : Nat) (E : Nat → Int) (o t n : Int) : Nat → Int := q_d1 (q_d1 (q_d1 E (3 * c) o) (3 * c + 1) t) (3 * c + 2) n
def q_oa (b : Nat → Int) (T : Nat) (n : Int) (p c : Nat) (E : Nat → Int) : Nat × Int × Nat × (Nat → Int) := if q_ord b T p < 0 then (p, 1, c, E) else if 12 ≤ c then (p, 3, c, E) else ((q_o3 b T p n).1, (q_o3 b T p n).2, c + 1, q_dO c E (q_ord b T p) (q_o1 b T p n).1 (q_o2 b T p n).1)
theorem q_ordn_lt {b : Nat → Int} {T p : Nat} : ∀ (d o : Nat), 0 ≤ q_ordn b T p d o → ¬ q_tk b T p = 0 := by
  intro d
  induction d with
  | zero => intro o h; exact absurd h (by show ¬ (0 : Int) ≤ -1; omega)
  | succ d ih =>
    intro o h
    rw [q_ordn] at h
    by_cases g : q_isw b T p (3 + o) = true
    · exact q_isw_tk g
    · rw [if_neg g] at h
      exact ih _ h
theorem q_ordn_in {b : Nat → Int} {T p : Nat} : ∀ (d o : Nat), -1 ≤ q_ordn b T p d o ∧ q_ordn b T p d o < ((o + d : Nat) : Int) := by
  intro d
  induction d with
  | zero => intro o; exact ⟨Int.le_refl _, by show (-1 : Int) < _; omega⟩
  | succ d ih =>
    intro o
    rw [q_ordn]
    by_cases g : q_isw b T p (3 + o) = true
    · rw [if_pos g]; omega
    · rw [if_neg g]
      have := ih (o + 1)
      omega
theorem q_ord_in {b : Nat → Int} {T p : Nat} : -1 ≤ q_ord b T p ∧ q_ord b T p ≤ 7 := by
  have := q_ordn_in (b := b) (T := T) (p := p) 8 0
  unfold q_ord
  omega
theorem q_ord_tk {b : Nat → Int} {T p : Nat} (h : ¬ q_ord b T p < 0) : ¬ q_tk b T p = 0 := q_ordn_lt 8 0 (by unfold q_ord at h; omega)
theorem q_o3_in {b : Nat → Int} {T p : Nat} {n : Int} (h : q_te b T p ≤ T) : q_te b T p ≤ (q_o3 b T p n).1 ∧ (q_o3 b T p n).1 ≤ T := by
  have h1 : q_te b T p ≤ (q_o1 b T p n).2.1 ∧ (q_o1 b T p n).2.1 ≤ T := by
    unfold q_o1
    split
    · exact ⟨Nat.le_refl _, h⟩
    · exact q_pn_in h
  have h2 : (q_o1 b T p n).2.1 ≤ (q_o2 b T p n).2.1 ∧ (q_o2 b T p n).2.1 ≤ T := by
    unfold q_o2
    split
    · exact q_pn_in h1.2
    · split
      · exact q_pn_in h1.2
      · exact ⟨Nat.le_refl _, h1.2⟩
  have h3 := q_ps_in (b := b) (f := (q_o2 b T p n).2.2) h2.2
  exact ⟨Nat.le_trans h1.1 (Nat.le_trans h2.1 h3.1), h3.2⟩
theorem q_oa_in {b : Nat → Int} {T : Nat} {n : Int} {p c : Nat} {E : Nat → Int} (h : p ≤ T) (hc : c ≤ 12) : (q_oa b T n p c E).1 ≤ T ∧ ((q_oa b T n p c E).2.1 = 0 → p < (q_oa b T n p c E).1) ∧ (q_oa b T n p c E).2.2.1 ≤ 12 := by
  unfold q_oa
  split
  · exact ⟨h, fun e => absurd e (by decide : ¬ (1 : Int) = 0), hc⟩
  · split
    · exact ⟨h, fun e => absurd e (by decide : ¬ (3 : Int) = 0), hc⟩
    · have g := q_te_gt h (q_ord_tk (by assumption))
      have := q_o3_in (n := n) g.2.1
      exact ⟨this.2, fun _ => Nat.lt_of_lt_of_le g.1 this.1, by show c + 1 ≤ 12; omega⟩
def q_ol (b : Nat → Int) (T : Nat) (n : Int) : Nat → Nat → Nat → (Nat → Int) → Nat × Int × Nat × (Nat → Int)
  | 0, p, c, E => (p, 0, c, E)
  | d + 1, p, c, E => if (q_oa b T n p c E).2.1 = 0 ∧ ¬ q_tk b T (q_oa b T n p c E).1 = 0 then q_ol b T n d (q_oa b T n p c E).1 (q_oa b T n p c E).2.2.1 (q_oa b T n p c E).2.2.2 else q_oa b T n p c E
theorem q_ol_st {b : Nat → Int} {T : Nat} {n : Int} : ∀ (d e p c : Nat) (E : Nat → Int), p ≤ T → c ≤ 12 → T - p < d → T - p < e → q_ol b T n d p c E = q_ol b T n e p c E := by
  intro d
  induction d with
  | zero => intro e p c E h hc h1 h2; omega
  | succ d ih =>
    intro e p c E h hc h1 h2
    cases e with
    | zero => omega
    | succ e =>
      have g := q_oa_in (b := b) (n := n) (E := E) h hc
      rw [q_ol, q_ol]
      split
      · rename_i hc
        have g2 := g.2.1 hc.1
        exact ih e _ _ _ g.1 g.2.2 (by omega) (by omega)
      · rfl
def q_oo (b : Nat → Int) (T : Nat) (n : Int) (p c : Nat) (E : Nat → Int) : Nat × Int × Nat × (Nat → Int) := q_ol b T n (T - p + 1) p c E
theorem q_oo_go {b : Nat → Int} {T : Nat} {n : Int} {p c : Nat} {E : Nat → Int} (h : p ≤ T) (hc : c ≤ 12) (h1 : (q_oa b T n p c E).2.1 = 0) (h2 : ¬ q_tk b T (q_oa b T n p c E).1 = 0) : q_oo b T n p c E = q_oo b T n (q_oa b T n p c E).1 (q_oa b T n p c E).2.2.1 (q_oa b T n p c E).2.2.2 := by
  have g := q_oa_in (b := b) (n := n) (E := E) h hc
  have g2 := g.2.1 h1
  unfold q_oo
  rw [q_ol, if_pos ⟨h1, h2⟩]
  exact q_ol_st _ _ _ _ _ g.1 g.2.2 (by omega) (by omega)
theorem q_oo_end {b : Nat → Int} {T : Nat} {n : Int} {p c : Nat} {E : Nat → Int} (h1 : ¬ ((q_oa b T n p c E).2.1 = 0 ∧ ¬ q_tk b T (q_oa b T n p c E).1 = 0)) : q_oo b T n p c E = q_oa b T n p c E := by
  unfold q_oo
  rw [q_ol, if_neg h1]
/-- the orders at t are E -/
def q_to (σ : zM) (t c : Nat) (E : Nat → Int) : Prop := σ t 3 = (c : Int) ∧ c ≤ 12 ∧ ∀ i, i < c → σ (t + 1) i = E (3 * i) ∧ σ (t + 2) i = E (3 * i + 1) ∧ σ (t + 3) i = E (3 * i + 2)
theorem q_to.fr {σ σ' : zM} {t c : Nat} {E : Nat → Int} (h : q_to σ t c E) (e : ∀ a j, t ≤ a → a ≤ t + 3 → σ' a j = σ a j) : q_to σ' t c E := by
  obtain ⟨h1, h2, h3⟩ := h
  refine ⟨by rw [e _ _ (by omega) (by omega)]; exact h1, h2, fun i hi => ?_⟩
  rw [e _ _ (by omega) (by omega), e _ _ (by omega) (by omega), e _ _ (by omega) (by omega)]
  exact h3 i hi
theorem q_to.add {σ : zM} {t c : Nat} {E : Nat → Int} (h : q_to σ t c E) (hc : c < 12) (x y z : Int) : q_to (z_up (z_up (z_up (z_up σ (t + 1) c x) (t + 2) c y) (t + 3) c z) t 3 ((c : Int) + 1)) t (c + 1) (q_dO c E x y z) := by
  obtain ⟨h1, h2, h3⟩ := h
  refine ⟨z_up_eq, hc, fun i hi => ?_⟩
  simp only [q_dO, q_d1, z_up, Nat.add_assoc, Nat.reduceAdd]
  by_cases e : i = c
  · subst e
    simp (disch := omega) only [if_neg, if_pos, ↓reduceIte, and_true, true_and, and_self]
  · have q := h3 i (by omega)
    simp (disch := omega) only [if_neg, if_pos, ↓reduceIte, and_true, true_and, and_self]
    exact q
def SX4_readOrder : zS := fun as σ Ret => match as with
  | [.inr (.inr (4, 0, k)), .inr (.inr (2, 0, t)), .inl n] => ∃ b T p c E, (q_rs σ k b T p 0 ∧ q_to σ t c E ∧ (1 ≤ n ∧ n ≤ 12)) ∧ ∀ σ' : zM, (∀ a j, ¬ (a = k ∧ 2 ≤ j ∧ j ≤ 6) → ¬ (t ≤ a ∧ a ≤ t + 3) → σ' a j = σ a j) → q_rs σ' k b T (q_oa b T n p c E).1 (q_oa b T n p c E).2.1 → q_to σ' t (q_oa b T n p c E).2.2.1 (q_oa b T n p c E).2.2.2 → Ret none σ'
  | _ => False
def tX4_readOrder_0 (X : Nat → zB) (Ret : zR) (L : zL) (st : List zV) (σ : zM) : Prop := (z_aload 0 (z_cv0 4 SX4_orderHere (z_istore 3 (z_iload 3 (z_ifge (z_aload 1 (z_geti 2 3 (z_push 12 (z_iclt (z_aload 0 (z_cv0 4 SX4_next (z_iload 3 (z_push 6 (z_iceq (X 46) (z_iload 3 (z_push 7 (z_icne (z_aload 0 (z_push 0 (z_iload 2 (z_push 1 (z_isub (z_cv2 4 SX4_takeNumber (X 58))))))) (X 46))))))))) (z_aload 0 (z_push 3 (z_cv1 4 SX4_fail (z_vret Ret)))))))) (z_aload 0 (z_push 1 (z_cv1 4 SX4_fail (z_vret Ret))))))))) L st σ
def tX4_readOrder_46 (X : Nat → zB) (Ret : zR) (L : zL) (st : List zV) (σ : zM) : Prop := (z_push 0 (z_goto (X 58))) L st σ
def tX4_readOrder_58 (X : Nat → zB) (Ret : zR) (L : zL) (st : List zV) (σ : zM) : Prop := (z_istore 4 (z_push 0 (z_istore 5 (z_iload 3 (z_ifeq (X 72) (z_iload 3 (z_push 1 (z_icne (z_iload 3 (z_push 2 (z_icne (X 98) (z_aload 0 (z_push 0 (z_push 7 (z_cv2 4 SX4_takeNumber (z_istore 5 (X 98))))))))) (X 72))))))))) L st σ
def tX4_readOrder_72 (X : Nat → zB) (Ret : zR) (L : zL) (st : List zV) (σ : zM) : Prop := (z_aload 0 (z_push 1 (z_push 89 (z_cv2 4 SX4_takeNumber (z_istore 5 (z_goto (X 98))))))) L st σ
def tX4_readOrder_98 (X : Nat → zB) (Ret : zR) (L : zL) (st : List zV) (σ : zM) : Prop := (z_aload 0 (z_cv0 4 SX4_takeSign (z_aload 1 (z_iload 3 (z_iload 4 (z_iload 5 (z_cv3 2 SX2_add (z_vret Ret)))))))) L st σ
theorem pX4_readOrder {as : List zV} {σ : zM} {Ret : zR} (h : SX4_readOrder as σ Ret) : ∃ (k0 : Nat) (k1 : Nat) (x2 : Int), as = [.inr (.inr (4, 0, k0)), .inr (.inr (2, 0, k1)), .inl x2] := by
  unfold SX4_readOrder at h
  split at h
  · exact ⟨_, _, _, rfl⟩
  · exact h.elim
set_option maxRecDepth 10000 in
set_option maxHeartbeats 4000000 in
theorem vX4_readOrder {X : Nat → zB} {Ret : zR} (h0 : ∀ L st σ, tX4_readOrder_0 X Ret L st σ → X 0 L st σ) (h46 : ∀ L st σ, tX4_readOrder_46 X Ret L st σ → X 46 L st σ) (h58 : ∀ L st σ, tX4_readOrder_58 X Ret L st σ → X 58 L st σ) (h72 : ∀ L st σ, tX4_readOrder_72 X Ret L st σ → X 72 L st σ) (h98 : ∀ L st σ, tX4_readOrder_98 X Ret L st σ → X 98 L st σ) (k0 : Nat) (k1 : Nat) (x2 : Int) (σ : zM) (hk0 : z_kd k0 = (4, 0)) (hk1 : z_kd k1 = (2, 0)) (hx2 : -2147483648 ≤ x2 ∧ x2 ≤ 2147483647) (hσ : z_okm σ) (h : SX4_readOrder [.inr (.inr (4, 0, k0)), .inr (.inr (2, 0, k1)), .inl x2] σ Ret) : X 0 [some (.inr (.inr (4, 0, k0))), some (.inr (.inr (2, 0, k1))), some (.inl x2), none, none, none] [] σ := by
  obtain ⟨b, T, p, c, E, ⟨rs, to, n1, n2⟩, h⟩ := h
  have ek := z_kd4 hk0
  have et := z_kd2 hk1
  have e3 : σ k0 3 = 0 := rs.2.2.2.2.2
  have ec := to.1
  have oin := q_ord_in (b := b) (T := T) (p := p)
  have fail : ∀ v : Int, q_oa b T x2 p c E = (p, v, c, E) → Ret none (z_up σ k0 3 v) := by
    intro v e
    simp only [e] at h
    exact h _ (fun a j h1 h2 => q_fr.rf.up (by omega) v a j h1) (rs.fault v) (to.fr (fun a j e1 e2 => z_up_ne (by omega)))
  by_cases co : q_ord b T p < 0
  · have fin := fail 1 (by unfold q_oa; rw [if_pos co])
    refine h0 _ _ _ ?_
    simp only [z_push, z_lpush, z_iload, z_lload, z_aload, z_istore, z_istoreP, z_lstore, z_astore, z_iinc, z_iincP, z_iadd, z_isub, z_imul, z_iaddW, z_isubW, z_imulW, z_idiv, z_irem, z_iand, z_ior, z_ixor, z_ishl, z_ishr, z_iushr, z_ineg, z_i2l, z_i2b, z_i2s, z_i2c, z_l2i, z_ladd, z_lsub, z_land, z_lor, z_lshl, z_lshr, z_lcmp, z_dup, z_pop, z_dup2, z_goto, z_tsw, z_cases, z_geti, z_getr, z_puti, z_putz, z_ald, z_iast, z_bast, z_zast, z_alen, z_acopy, z_mmax, z_mmin, z_mabs, z_mabsL, z_iret, z_zret, z_nret, z_lret, z_aret, z_vret, z_cat, z_xald, z_xlen, z_ldcs, z_strv, z_strc, z_gcs, z_gfm, z_sln, z_sald, z_ifeq, z_ifne, z_iflt, z_ifge, z_ifgt, z_ifle, z_iceq, z_icne, z_iclt, z_icge, z_icgt, z_icle, z_cs0, z_cs1, z_cs2, z_cs3, z_cs4, z_cs5, z_cs6, z_cs7, z_cv0, z_cv1, z_cv2, z_cv3, z_cv4, z_cv5, z_cv6, z_cv7, z_g0, z_s0, z_g1, z_s1, z_g2, z_s2, z_g3, z_s3, z_g4, z_s4, z_g5, z_s5, z_g6, z_s6, z_g7, z_s7, z_g8, z_s8, z_g9, z_s9, z_g10, z_s10, z_g11, z_s11, z_g12, z_s12, z_g13, z_s13, z_b0, z_b1, z_b0n, z_b1n, z_up_far1, z_up_far2, z_up_far3, z_up_far4, z_up_far5, z_up_far6, Classical.not_not, not_true_eq_false, z_in, z_inL, Int.cast_ofNat_Int, Nat.reduceLeDiff, List.length_cons, List.length_nil, Nat.reduceAdd, Nat.zero_add, Nat.le_refl, true_and, and_true, List.length, Nat.reduceLT, true_or, or_true, false_or, or_false, false_and, and_false, not_true_eq_false, not_false_eq_true, forall_const, false_implies, true_implies, Int.reduceEq, Int.reduceLT, Int.reduceLE, Int.reduceAdd, Int.reduceSub, Int.reduceMul, Int.reduceNeg, Int.reduceToNat, Int.toNat_natCast, ↓reduceIte, reduceIte, Nat.reduceEqDiff, Nat.reduceSub, Nat.reduceMul, ne_eq, Int.zero_add, Int.add_zero, Int.sub_zero, Nat.add_zero, Int.ofNat_eq_natCast, tX4_readOrder_0, SX4_orderHere, SX4_fail, SX4_takeNumber]
    refine ⟨b, T, p, 0, rs, fun e => by omega, fun _ => ⟨fun _ => fin, fun e => absurd e3 e⟩⟩
  by_cases cc : 12 ≤ c
  · have fin := fail 3 (by unfold q_oa; rw [if_neg co, if_pos cc])
    refine h0 _ _ _ ?_
    simp only [z_push, z_lpush, z_iload, z_lload, z_aload, z_istore, z_istoreP, z_lstore, z_astore, z_iinc, z_iincP, z_iadd, z_isub, z_imul, z_iaddW, z_isubW, z_imulW, z_idiv, z_irem, z_iand, z_ior, z_ixor, z_ishl, z_ishr, z_iushr, z_ineg, z_i2l, z_i2b, z_i2s, z_i2c, z_l2i, z_ladd, z_lsub, z_land, z_lor, z_lshl, z_lshr, z_lcmp, z_dup, z_pop, z_dup2, z_goto, z_tsw, z_cases, z_geti, z_getr, z_puti, z_putz, z_ald, z_iast, z_bast, z_zast, z_alen, z_acopy, z_mmax, z_mmin, z_mabs, z_mabsL, z_iret, z_zret, z_nret, z_lret, z_aret, z_vret, z_cat, z_xald, z_xlen, z_ldcs, z_strv, z_strc, z_gcs, z_gfm, z_sln, z_sald, z_ifeq, z_ifne, z_iflt, z_ifge, z_ifgt, z_ifle, z_iceq, z_icne, z_iclt, z_icge, z_icgt, z_icle, z_cs0, z_cs1, z_cs2, z_cs3, z_cs4, z_cs5, z_cs6, z_cs7, z_cv0, z_cv1, z_cv2, z_cv3, z_cv4, z_cv5, z_cv6, z_cv7, z_g0, z_s0, z_g1, z_s1, z_g2, z_s2, z_g3, z_s3, z_g4, z_s4, z_g5, z_s5, z_g6, z_s6, z_g7, z_s7, z_g8, z_s8, z_g9, z_s9, z_g10, z_s10, z_g11, z_s11, z_g12, z_s12, z_g13, z_s13, z_b0, z_b1, z_b0n, z_b1n, z_up_far1, z_up_far2, z_up_far3, z_up_far4, z_up_far5, z_up_far6, Classical.not_not, not_true_eq_false, z_in, z_inL, Int.cast_ofNat_Int, Nat.reduceLeDiff, List.length_cons, List.length_nil, Nat.reduceAdd, Nat.zero_add, Nat.le_refl, true_and, and_true, List.length, Nat.reduceLT, true_or, or_true, false_or, or_false, false_and, and_false, not_true_eq_false, not_false_eq_true, forall_const, false_implies, true_implies, Int.reduceEq, Int.reduceLT, Int.reduceLE, Int.reduceAdd, Int.reduceSub, Int.reduceMul, Int.reduceNeg, Int.reduceToNat, Int.toNat_natCast, ↓reduceIte, reduceIte, Nat.reduceEqDiff, Nat.reduceSub, Nat.reduceMul, ne_eq, Int.zero_add, Int.add_zero, Int.sub_zero, Nat.add_zero, Int.ofNat_eq_natCast, tX4_readOrder_0, SX4_orderHere, SX4_fail, SX4_takeNumber]
    refine ⟨b, T, p, 0, rs, fun _ _ => ⟨fun e => by omega, fun _ => ⟨fun _ => fin, fun e => absurd e3 e⟩⟩, fun e => by omega⟩
  have eo : q_oa b T x2 p c E = ((q_o3 b T p x2).1, (q_o3 b T p x2).2, c + 1, q_dO c E (q_ord b T p) (q_o1 b T p x2).1 (q_o2 b T p x2).1) := by
    unfold q_oa
    rw [if_neg co, if_neg cc]
  rw [eo] at h
  dsimp only at h
  have L98 : ∀ σ1, q_fr k0 σ σ1 → q_rs σ1 k0 b T (q_o2 b T p x2).2.1 (q_o2 b T p x2).2.2 → X 98 [some (.inr (.inr (4, 0, k0))), some (.inr (.inr (2, 0, k1))), some (.inl x2), some (.inl (q_ord b T p)), some (.inl (q_o1 b T p x2).1), some (.inl (q_o2 b T p x2).1)] [] σ1 := by
    intro σ1 f1 g1
    refine h98 _ _ _ ?_
    simp only [z_push, z_lpush, z_iload, z_lload, z_aload, z_istore, z_istoreP, z_lstore, z_astore, z_iinc, z_iincP, z_iadd, z_isub, z_imul, z_iaddW, z_isubW, z_imulW, z_idiv, z_irem, z_iand, z_ior, z_ixor, z_ishl, z_ishr, z_iushr, z_ineg, z_i2l, z_i2b, z_i2s, z_i2c, z_l2i, z_ladd, z_lsub, z_land, z_lor, z_lshl, z_lshr, z_lcmp, z_dup, z_pop, z_dup2, z_goto, z_tsw, z_cases, z_geti, z_getr, z_puti, z_putz, z_ald, z_iast, z_bast, z_zast, z_alen, z_acopy, z_mmax, z_mmin, z_mabs, z_mabsL, z_iret, z_zret, z_nret, z_lret, z_aret, z_vret, z_cat, z_xald, z_xlen, z_ldcs, z_strv, z_strc, z_gcs, z_gfm, z_sln, z_sald, z_ifeq, z_ifne, z_iflt, z_ifge, z_ifgt, z_ifle, z_iceq, z_icne, z_iclt, z_icge, z_icgt, z_icle, z_cs0, z_cs1, z_cs2, z_cs3, z_cs4, z_cs5, z_cs6, z_cs7, z_cv0, z_cv1, z_cv2, z_cv3, z_cv4, z_cv5, z_cv6, z_cv7, z_g0, z_s0, z_g1, z_s1, z_g2, z_s2, z_g3, z_s3, z_g4, z_s4, z_g5, z_s5, z_g6, z_s6, z_g7, z_s7, z_g8, z_s8, z_g9, z_s9, z_g10, z_s10, z_g11, z_s11, z_g12, z_s12, z_g13, z_s13, z_b0, z_b1, z_b0n, z_b1n, z_up_far1, z_up_far2, z_up_far3, z_up_far4, z_up_far5, z_up_far6, Classical.not_not, not_true_eq_false, z_in, z_inL, Int.cast_ofNat_Int, Nat.reduceLeDiff, List.length_cons, List.length_nil, Nat.reduceAdd, Nat.zero_add, Nat.le_refl, true_and, and_true, List.length, Nat.reduceLT, true_or, or_true, false_or, or_false, false_and, and_false, not_true_eq_false, not_false_eq_true, forall_const, false_implies, true_implies, Int.reduceEq, Int.reduceLT, Int.reduceLE, Int.reduceAdd, Int.reduceSub, Int.reduceMul, Int.reduceNeg, Int.reduceToNat, Int.toNat_natCast, ↓reduceIte, reduceIte, Nat.reduceEqDiff, Nat.reduceSub, Nat.reduceMul, ne_eq, Int.zero_add, Int.add_zero, Int.sub_zero, Nat.add_zero, Int.ofNat_eq_natCast, tX4_readOrder_98, SX4_takeSign, SX2_add]
    refine ⟨b, T, _, _, g1, fun σ2 f2 g2 => ?_⟩
    have e2 : σ2 k1 3 = (c : Int) := by rw [(f1.tr f2) _ _ (by omega)]; exact ec
    have to2 : q_to σ2 k1 c E := to.fr (fun a j e1 e2 => (f1.tr f2) a j (by omega))
    rw [e2]
    simp only [Int.toNat_natCast]
    refine ⟨⟨by omega, by omega⟩, ?_⟩
    refine h _ (fun a j h1 h2 => ?_) ((((g2.far (by omega) _ _).far (by omega) _ _).far (by omega) _ _).far (by omega) _ _) (to2.add (by omega) _ _ _)
    rw [z_up_ne (by omega), z_up_ne (by omega), z_up_ne (by omega), z_up_ne (by omega)]
    exact (f1.tr f2) a j h1
  have L72 : (q_ord b T p = 0 ∨ q_ord b T p = 1) → ∀ σ1 v, q_fr k0 σ σ1 → q_rs σ1 k0 b T (q_o1 b T p x2).2.1 (q_o1 b T p x2).2.2 → X 72 [some (.inr (.inr (4, 0, k0))), some (.inr (.inr (2, 0, k1))), some (.inl x2), some (.inl (q_ord b T p)), some (.inl (q_o1 b T p x2).1), v] [] σ1 := by
    intro c1 σ1 v f1 g1
    have e : q_o2 b T p x2 = q_pn b T (q_o1 b T p x2).2.1 (q_o1 b T p x2).2.2 1 89 := by unfold q_o2; rw [if_pos c1]
    rw [e] at L98
    refine h72 _ _ _ ?_
    simp only [z_push, z_lpush, z_iload, z_lload, z_aload, z_istore, z_istoreP, z_lstore, z_astore, z_iinc, z_iincP, z_iadd, z_isub, z_imul, z_iaddW, z_isubW, z_imulW, z_idiv, z_irem, z_iand, z_ior, z_ixor, z_ishl, z_ishr, z_iushr, z_ineg, z_i2l, z_i2b, z_i2s, z_i2c, z_l2i, z_ladd, z_lsub, z_land, z_lor, z_lshl, z_lshr, z_lcmp, z_dup, z_pop, z_dup2, z_goto, z_tsw, z_cases, z_geti, z_getr, z_puti, z_putz, z_ald, z_iast, z_bast, z_zast, z_alen, z_acopy, z_mmax, z_mmin, z_mabs, z_mabsL, z_iret, z_zret, z_nret, z_lret, z_aret, z_vret, z_cat, z_xald, z_xlen, z_ldcs, z_strv, z_strc, z_gcs, z_gfm, z_sln, z_sald, z_ifeq, z_ifne, z_iflt, z_ifge, z_ifgt, z_ifle, z_iceq, z_icne, z_iclt, z_icge, z_icgt, z_icle, z_cs0, z_cs1, z_cs2, z_cs3, z_cs4, z_cs5, z_cs6, z_cs7, z_cv0, z_cv1, z_cv2, z_cv3, z_cv4, z_cv5, z_cv6, z_cv7, z_g0, z_s0, z_g1, z_s1, z_g2, z_s2, z_g3, z_s3, z_g4, z_s4, z_g5, z_s5, z_g6, z_s6, z_g7, z_s7, z_g8, z_s8, z_g9, z_s9, z_g10, z_s10, z_g11, z_s11, z_g12, z_s12, z_g13, z_s13, z_b0, z_b1, z_b0n, z_b1n, z_up_far1, z_up_far2, z_up_far3, z_up_far4, z_up_far5, z_up_far6, Classical.not_not, not_true_eq_false, z_in, z_inL, Int.cast_ofNat_Int, Nat.reduceLeDiff, List.length_cons, List.length_nil, Nat.reduceAdd, Nat.zero_add, Nat.le_refl, true_and, and_true, List.length, Nat.reduceLT, true_or, or_true, false_or, or_false, false_and, and_false, not_true_eq_false, not_false_eq_true, forall_const, false_implies, true_implies, Int.reduceEq, Int.reduceLT, Int.reduceLE, Int.reduceAdd, Int.reduceSub, Int.reduceMul, Int.reduceNeg, Int.reduceToNat, Int.toNat_natCast, ↓reduceIte, reduceIte, Nat.reduceEqDiff, Nat.reduceSub, Nat.reduceMul, ne_eq, Int.zero_add, Int.add_zero, Int.sub_zero, Nat.add_zero, Int.ofNat_eq_natCast, tX4_readOrder_72, SX4_takeNumber]
    exact ⟨b, T, _, _, g1, fun σ2 f2 g2 => L98 σ2 (f1.tr f2) g2⟩
  have L58 : ∀ σ1, q_fr k0 σ σ1 → q_rs σ1 k0 b T (q_o1 b T p x2).2.1 (q_o1 b T p x2).2.2 → X 58 [some (.inr (.inr (4, 0, k0))), some (.inr (.inr (2, 0, k1))), some (.inl x2), some (.inl (q_ord b T p)), none, none] [.inl (q_o1 b T p x2).1] σ1 := by
    intro σ1 f1 g1
    refine h58 _ _ _ ?_
    simp only [z_push, z_lpush, z_iload, z_lload, z_aload, z_istore, z_istoreP, z_lstore, z_astore, z_iinc, z_iincP, z_iadd, z_isub, z_imul, z_iaddW, z_isubW, z_imulW, z_idiv, z_irem, z_iand, z_ior, z_ixor, z_ishl, z_ishr, z_iushr, z_ineg, z_i2l, z_i2b, z_i2s, z_i2c, z_l2i, z_ladd, z_lsub, z_land, z_lor, z_lshl, z_lshr, z_lcmp, z_dup, z_pop, z_dup2, z_goto, z_tsw, z_cases, z_geti, z_getr, z_puti, z_putz, z_ald, z_iast, z_bast, z_zast, z_alen, z_acopy, z_mmax, z_mmin, z_mabs, z_mabsL, z_iret, z_zret, z_nret, z_lret, z_aret, z_vret, z_cat, z_xald, z_xlen, z_ldcs, z_strv, z_strc, z_gcs, z_gfm, z_sln, z_sald, z_ifeq, z_ifne, z_iflt, z_ifge, z_ifgt, z_ifle, z_iceq, z_icne, z_iclt, z_icge, z_icgt, z_icle, z_cs0, z_cs1, z_cs2, z_cs3, z_cs4, z_cs5, z_cs6, z_cs7, z_cv0, z_cv1, z_cv2, z_cv3, z_cv4, z_cv5, z_cv6, z_cv7, z_g0, z_s0, z_g1, z_s1, z_g2, z_s2, z_g3, z_s3, z_g4, z_s4, z_g5, z_s5, z_g6, z_s6, z_g7, z_s7, z_g8, z_s8, z_g9, z_s9, z_g10, z_s10, z_g11, z_s11, z_g12, z_s12, z_g13, z_s13, z_b0, z_b1, z_b0n, z_b1n, z_up_far1, z_up_far2, z_up_far3, z_up_far4, z_up_far5, z_up_far6, Classical.not_not, not_true_eq_false, z_in, z_inL, Int.cast_ofNat_Int, Nat.reduceLeDiff, List.length_cons, List.length_nil, Nat.reduceAdd, Nat.zero_add, Nat.le_refl, true_and, and_true, List.length, Nat.reduceLT, true_or, or_true, false_or, or_false, false_and, and_false, not_true_eq_false, not_false_eq_true, forall_const, false_implies, true_implies, Int.reduceEq, Int.reduceLT, Int.reduceLE, Int.reduceAdd, Int.reduceSub, Int.reduceMul, Int.reduceNeg, Int.reduceToNat, Int.toNat_natCast, ↓reduceIte, reduceIte, Nat.reduceEqDiff, Nat.reduceSub, Nat.reduceMul, ne_eq, Int.zero_add, Int.add_zero, Int.sub_zero, Nat.add_zero, Int.ofNat_eq_natCast, tX4_readOrder_58, SX4_takeNumber]
    refine ⟨fun c1 => L72 (Or.inl c1) σ1 _ f1 g1, fun c1 => ⟨fun c2 => ⟨fun c3 => ?_, fun c3 => ?_⟩, fun c2 => L72 (Or.inr c2) σ1 _ f1 g1⟩⟩
    · have e : q_o2 b T p x2 = (0, (q_o1 b T p x2).2.1, (q_o1 b T p x2).2.2) := by unfold q_o2; rw [if_neg (by omega), if_neg c3]
      rw [e] at L98
      exact L98 σ1 f1 g1
    · have e : q_o2 b T p x2 = q_pn b T (q_o1 b T p x2).2.1 (q_o1 b T p x2).2.2 0 7 := by unfold q_o2; rw [if_neg (by omega), if_pos c3]
      rw [e] at L98
      exact ⟨b, T, _, _, g1, fun σ2 f2 g2 => L98 σ2 (f1.tr f2) g2⟩
  have L46 : (q_ord b T p = 6 ∨ q_ord b T p = 7) → ∀ σ1, q_fr k0 σ σ1 → q_rs σ1 k0 b T (q_te b T p) 0 → X 46 [some (.inr (.inr (4, 0, k0))), some (.inr (.inr (2, 0, k1))), some (.inl x2), some (.inl (q_ord b T p)), none, none] [] σ1 := by
    intro c1 σ1 f1 g1
    have e : q_o1 b T p x2 = (0, q_te b T p, 0) := by unfold q_o1; rw [if_pos c1]
    rw [e] at L58
    refine h46 _ _ _ ?_
    simp only [z_push, z_lpush, z_iload, z_lload, z_aload, z_istore, z_istoreP, z_lstore, z_astore, z_iinc, z_iincP, z_iadd, z_isub, z_imul, z_iaddW, z_isubW, z_imulW, z_idiv, z_irem, z_iand, z_ior, z_ixor, z_ishl, z_ishr, z_iushr, z_ineg, z_i2l, z_i2b, z_i2s, z_i2c, z_l2i, z_ladd, z_lsub, z_land, z_lor, z_lshl, z_lshr, z_lcmp, z_dup, z_pop, z_dup2, z_goto, z_tsw, z_cases, z_geti, z_getr, z_puti, z_putz, z_ald, z_iast, z_bast, z_zast, z_alen, z_acopy, z_mmax, z_mmin, z_mabs, z_mabsL, z_iret, z_zret, z_nret, z_lret, z_aret, z_vret, z_cat, z_xald, z_xlen, z_ldcs, z_strv, z_strc, z_gcs, z_gfm, z_sln, z_sald, z_ifeq, z_ifne, z_iflt, z_ifge, z_ifgt, z_ifle, z_iceq, z_icne, z_iclt, z_icge, z_icgt, z_icle, z_cs0, z_cs1, z_cs2, z_cs3, z_cs4, z_cs5, z_cs6, z_cs7, z_cv0, z_cv1, z_cv2, z_cv3, z_cv4, z_cv5, z_cv6, z_cv7, z_g0, z_s0, z_g1, z_s1, z_g2, z_s2, z_g3, z_s3, z_g4, z_s4, z_g5, z_s5, z_g6, z_s6, z_g7, z_s7, z_g8, z_s8, z_g9, z_s9, z_g10, z_s10, z_g11, z_s11, z_g12, z_s12, z_g13, z_s13, z_b0, z_b1, z_b0n, z_b1n, z_up_far1, z_up_far2, z_up_far3, z_up_far4, z_up_far5, z_up_far6, Classical.not_not, not_true_eq_false, z_in, z_inL, Int.cast_ofNat_Int, Nat.reduceLeDiff, List.length_cons, List.length_nil, Nat.reduceAdd, Nat.zero_add, Nat.le_refl, true_and, and_true, List.length, Nat.reduceLT, true_or, or_true, false_or, or_false, false_and, and_false, not_true_eq_false, not_false_eq_true, forall_const, false_implies, true_implies, Int.reduceEq, Int.reduceLT, Int.reduceLE, Int.reduceAdd, Int.reduceSub, Int.reduceMul, Int.reduceNeg, Int.reduceToNat, Int.toNat_natCast, ↓reduceIte, reduceIte, Nat.reduceEqDiff, Nat.reduceSub, Nat.reduceMul, ne_eq, Int.zero_add, Int.add_zero, Int.sub_zero, Nat.add_zero, Int.ofNat_eq_natCast, tX4_readOrder_46]
    exact L58 σ1 f1 g1
  refine h0 _ _ _ ?_
  simp only [z_push, z_lpush, z_iload, z_lload, z_aload, z_istore, z_istoreP, z_lstore, z_astore, z_iinc, z_iincP, z_iadd, z_isub, z_imul, z_iaddW, z_isubW, z_imulW, z_idiv, z_irem, z_iand, z_ior, z_ixor, z_ishl, z_ishr, z_iushr, z_ineg, z_i2l, z_i2b, z_i2s, z_i2c, z_l2i, z_ladd, z_lsub, z_land, z_lor, z_lshl, z_lshr, z_lcmp, z_dup, z_pop, z_dup2, z_goto, z_tsw, z_cases, z_geti, z_getr, z_puti, z_putz, z_ald, z_iast, z_bast, z_zast, z_alen, z_acopy, z_mmax, z_mmin, z_mabs, z_mabsL, z_iret, z_zret, z_nret, z_lret, z_aret, z_vret, z_cat, z_xald, z_xlen, z_ldcs, z_strv, z_strc, z_gcs, z_gfm, z_sln, z_sald, z_ifeq, z_ifne, z_iflt, z_ifge, z_ifgt, z_ifle, z_iceq, z_icne, z_iclt, z_icge, z_icgt, z_icle, z_cs0, z_cs1, z_cs2, z_cs3, z_cs4, z_cs5, z_cs6, z_cs7, z_cv0, z_cv1, z_cv2, z_cv3, z_cv4, z_cv5, z_cv6, z_cv7, z_g0, z_s0, z_g1, z_s1, z_g2, z_s2, z_g3, z_s3, z_g4, z_s4, z_g5, z_s5, z_g6, z_s6, z_g7, z_s7, z_g8, z_s8, z_g9, z_s9, z_g10, z_s10, z_g11, z_s11, z_g12, z_s12, z_g13, z_s13, z_b0, z_b1, z_b0n, z_b1n, z_up_far1, z_up_far2, z_up_far3, z_up_far4, z_up_far5, z_up_far6, Classical.not_not, not_true_eq_false, z_in, z_inL, Int.cast_ofNat_Int, Nat.reduceLeDiff, List.length_cons, List.length_nil, Nat.reduceAdd, Nat.zero_add, Nat.le_refl, true_and, and_true, List.length, Nat.reduceLT, true_or, or_true, false_or, or_false, false_and, and_false, not_true_eq_false, not_false_eq_true, forall_const, false_implies, true_implies, Int.reduceEq, Int.reduceLT, Int.reduceLE, Int.reduceAdd, Int.reduceSub, Int.reduceMul, Int.reduceNeg, Int.reduceToNat, Int.toNat_natCast, ↓reduceIte, reduceIte, Nat.reduceEqDiff, Nat.reduceSub, Nat.reduceMul, ne_eq, Int.zero_add, Int.add_zero, Int.sub_zero, Nat.add_zero, Int.ofNat_eq_natCast, tX4_readOrder_0, SX4_orderHere, SX4_fail, SX4_takeNumber]
  refine ⟨b, T, p, 0, rs, fun _ _ => ⟨fun _ => ?_, fun e => by omega⟩, fun e => absurd e (by omega)⟩
  refine q_next rs (fun σ1 f1 g1 => ?_)
  simp only [z_push, z_lpush, z_iload, z_lload, z_aload, z_istore, z_istoreP, z_lstore, z_astore, z_iinc, z_iincP, z_iadd, z_isub, z_imul, z_iaddW, z_isubW, z_imulW, z_idiv, z_irem, z_iand, z_ior, z_ixor, z_ishl, z_ishr, z_iushr, z_ineg, z_i2l, z_i2b, z_i2s, z_i2c, z_l2i, z_ladd, z_lsub, z_land, z_lor, z_lshl, z_lshr, z_lcmp, z_dup, z_pop, z_dup2, z_goto, z_tsw, z_cases, z_geti, z_getr, z_puti, z_putz, z_ald, z_iast, z_bast, z_zast, z_alen, z_acopy, z_mmax, z_mmin, z_mabs, z_mabsL, z_iret, z_zret, z_nret, z_lret, z_aret, z_vret, z_cat, z_xald, z_xlen, z_ldcs, z_strv, z_strc, z_gcs, z_gfm, z_sln, z_sald, z_ifeq, z_ifne, z_iflt, z_ifge, z_ifgt, z_ifle, z_iceq, z_icne, z_iclt, z_icge, z_icgt, z_icle, z_cs0, z_cs1, z_cs2, z_cs3, z_cs4, z_cs5, z_cs6, z_cs7, z_cv0, z_cv1, z_cv2, z_cv3, z_cv4, z_cv5, z_cv6, z_cv7, z_g0, z_s0, z_g1, z_s1, z_g2, z_s2, z_g3, z_s3, z_g4, z_s4, z_g5, z_s5, z_g6, z_s6, z_g7, z_s7, z_g8, z_s8, z_g9, z_s9, z_g10, z_s10, z_g11, z_s11, z_g12, z_s12, z_g13, z_s13, z_b0, z_b1, z_b0n, z_b1n, z_up_far1, z_up_far2, z_up_far3, z_up_far4, z_up_far5, z_up_far6, Classical.not_not, not_true_eq_false, z_in, z_inL, Int.cast_ofNat_Int, Nat.reduceLeDiff, List.length_cons, List.length_nil, Nat.reduceAdd, Nat.zero_add, Nat.le_refl, true_and, and_true, List.length, Nat.reduceLT, true_or, or_true, false_or, or_false, false_and, and_false, not_true_eq_false, not_false_eq_true, forall_const, false_implies, true_implies, Int.reduceEq, Int.reduceLT, Int.reduceLE, Int.reduceAdd, Int.reduceSub, Int.reduceMul, Int.reduceNeg, Int.reduceToNat, Int.toNat_natCast, ↓reduceIte, reduceIte, Nat.reduceEqDiff, Nat.reduceSub, Nat.reduceMul, ne_eq, Int.zero_add, Int.add_zero, Int.sub_zero, Nat.add_zero, Int.ofNat_eq_natCast, List.length_nil]
  refine ⟨fun e => L46 (Or.inl e) σ1 f1 g1, fun e => ⟨fun e2 => ?_, fun e2 => L46 (Or.inr e2) σ1 f1 g1⟩⟩
  have e : q_o1 b T p x2 = q_pn b T (q_te b T p) 0 0 (x2 - 1) := by unfold q_o1; rw [if_neg (by omega)]
  rw [e] at L58
  refine ⟨by omega, ?_⟩
  exact ⟨b, T, _, _, g1, fun σ2 f2 g2 => L58 σ2 (f1.tr f2) g2⟩
theorem dX4_readOrder_0 : decode cX4_readOrder 0 = .ok (.aload_n 0, 1) := by decide +kernel
theorem dX4_readOrder_1 : decode cX4_readOrder 1 = .ok (.invokevirtual 116, 3) := by decide +kernel
theorem dX4_readOrder_4 : decode cX4_readOrder 4 = .ok (.istore_n 3, 1) := by decide +kernel
theorem dX4_readOrder_5 : decode cX4_readOrder 5 = .ok (.iload_n 3, 1) := by decide +kernel
theorem dX4_readOrder_6 : decode cX4_readOrder 6 = .ok (.ifCond .ge 9, 3) := by decide +kernel
theorem dX4_readOrder_9 : decode cX4_readOrder 9 = .ok (.aload_n 0, 1) := by decide +kernel
theorem dX4_readOrder_10 : decode cX4_readOrder 10 = .ok (.iconst 1, 1) := by decide +kernel
theorem dX4_readOrder_11 : decode cX4_readOrder 11 = .ok (.invokevirtual 86, 3) := by decide +kernel
theorem dX4_readOrder_14 : decode cX4_readOrder 14 = .ok (.return_, 1) := by decide +kernel
theorem dX4_readOrder_15 : decode cX4_readOrder 15 = .ok (.aload_n 1, 1) := by decide +kernel
theorem dX4_readOrder_16 : decode cX4_readOrder 16 = .ok (.getfield 35, 3) := by decide +kernel
theorem dX4_readOrder_19 : decode cX4_readOrder 19 = .ok (.bipush 12, 2) := by decide +kernel
theorem dX4_readOrder_21 : decode cX4_readOrder 21 = .ok (.if_icmp .lt 9, 3) := by decide +kernel
theorem dX4_readOrder_24 : decode cX4_readOrder 24 = .ok (.aload_n 0, 1) := by decide +kernel
theorem dX4_readOrder_25 : decode cX4_readOrder 25 = .ok (.iconst 3, 1) := by decide +kernel
theorem dX4_readOrder_26 : decode cX4_readOrder 26 = .ok (.invokevirtual 86, 3) := by decide +kernel
theorem dX4_readOrder_29 : decode cX4_readOrder 29 = .ok (.return_, 1) := by decide +kernel
theorem dX4_readOrder_30 : decode cX4_readOrder 30 = .ok (.aload_n 0, 1) := by decide +kernel
theorem dX4_readOrder_31 : decode cX4_readOrder 31 = .ok (.invokevirtual 50, 3) := by decide +kernel
theorem dX4_readOrder_34 : decode cX4_readOrder 34 = .ok (.iload_n 3, 1) := by decide +kernel
theorem dX4_readOrder_35 : decode cX4_readOrder 35 = .ok (.bipush 6, 2) := by decide +kernel
theorem dX4_readOrder_37 : decode cX4_readOrder 37 = .ok (.if_icmp .eq 9, 3) := by decide +kernel
theorem dX4_readOrder_40 : decode cX4_readOrder 40 = .ok (.iload_n 3, 1) := by decide +kernel
theorem dX4_readOrder_41 : decode cX4_readOrder 41 = .ok (.bipush 7, 2) := by decide +kernel
theorem dX4_readOrder_43 : decode cX4_readOrder 43 = .ok (.if_icmp .ne 7, 3) := by decide +kernel
theorem dX4_readOrder_46 : decode cX4_readOrder 46 = .ok (.iconst 0, 1) := by decide +kernel
theorem dX4_readOrder_47 : decode cX4_readOrder 47 = .ok (.goto 11, 3) := by decide +kernel
theorem dX4_readOrder_50 : decode cX4_readOrder 50 = .ok (.aload_n 0, 1) := by decide +kernel
theorem dX4_readOrder_51 : decode cX4_readOrder 51 = .ok (.iconst 0, 1) := by decide +kernel
theorem dX4_readOrder_52 : decode cX4_readOrder 52 = .ok (.iload_n 2, 1) := by decide +kernel
theorem dX4_readOrder_53 : decode cX4_readOrder 53 = .ok (.iconst 1, 1) := by decide +kernel
theorem dX4_readOrder_54 : decode cX4_readOrder 54 = .ok (.isub, 1) := by decide +kernel
theorem dX4_readOrder_55 : decode cX4_readOrder 55 = .ok (.invokevirtual 93, 3) := by decide +kernel
theorem dX4_readOrder_58 : decode cX4_readOrder 58 = .ok (.istore 4, 2) := by decide +kernel
theorem dX4_readOrder_60 : decode cX4_readOrder 60 = .ok (.iconst 0, 1) := by decide +kernel
theorem dX4_readOrder_61 : decode cX4_readOrder 61 = .ok (.istore 5, 2) := by decide +kernel
theorem dX4_readOrder_63 : decode cX4_readOrder 63 = .ok (.iload_n 3, 1) := by decide +kernel
theorem dX4_readOrder_64 : decode cX4_readOrder 64 = .ok (.ifCond .eq 8, 3) := by decide +kernel
theorem dX4_readOrder_67 : decode cX4_readOrder 67 = .ok (.iload_n 3, 1) := by decide +kernel
theorem dX4_readOrder_68 : decode cX4_readOrder 68 = .ok (.iconst 1, 1) := by decide +kernel
theorem dX4_readOrder_69 : decode cX4_readOrder 69 = .ok (.if_icmp .ne 15, 3) := by decide +kernel
theorem dX4_readOrder_72 : decode cX4_readOrder 72 = .ok (.aload_n 0, 1) := by decide +kernel
theorem dX4_readOrder_73 : decode cX4_readOrder 73 = .ok (.iconst 1, 1) := by decide +kernel
theorem dX4_readOrder_74 : decode cX4_readOrder 74 = .ok (.bipush 89, 2) := by decide +kernel
theorem dX4_readOrder_76 : decode cX4_readOrder 76 = .ok (.invokevirtual 93, 3) := by decide +kernel
theorem dX4_readOrder_79 : decode cX4_readOrder 79 = .ok (.istore 5, 2) := by decide +kernel
theorem dX4_readOrder_81 : decode cX4_readOrder 81 = .ok (.goto 17, 3) := by decide +kernel
theorem dX4_readOrder_84 : decode cX4_readOrder 84 = .ok (.iload_n 3, 1) := by decide +kernel
theorem dX4_readOrder_85 : decode cX4_readOrder 85 = .ok (.iconst 2, 1) := by decide +kernel
theorem dX4_readOrder_86 : decode cX4_readOrder 86 = .ok (.if_icmp .ne 12, 3) := by decide +kernel
theorem dX4_readOrder_89 : decode cX4_readOrder 89 = .ok (.aload_n 0, 1) := by decide +kernel
theorem dX4_readOrder_90 : decode cX4_readOrder 90 = .ok (.iconst 0, 1) := by decide +kernel
theorem dX4_readOrder_91 : decode cX4_readOrder 91 = .ok (.bipush 7, 2) := by decide +kernel
theorem dX4_readOrder_93 : decode cX4_readOrder 93 = .ok (.invokevirtual 93, 3) := by decide +kernel
theorem dX4_readOrder_96 : decode cX4_readOrder 96 = .ok (.istore 5, 2) := by decide +kernel
theorem dX4_readOrder_98 : decode cX4_readOrder 98 = .ok (.aload_n 0, 1) := by decide +kernel
theorem dX4_readOrder_99 : decode cX4_readOrder 99 = .ok (.invokevirtual 97, 3) := by decide +kernel
theorem dX4_readOrder_102 : decode cX4_readOrder 102 = .ok (.aload_n 1, 1) := by decide +kernel
theorem dX4_readOrder_103 : decode cX4_readOrder 103 = .ok (.iload_n 3, 1) := by decide +kernel
theorem dX4_readOrder_104 : decode cX4_readOrder 104 = .ok (.iload 4, 2) := by decide +kernel
theorem dX4_readOrder_106 : decode cX4_readOrder 106 = .ok (.iload 5, 2) := by decide +kernel
theorem dX4_readOrder_108 : decode cX4_readOrder 108 = .ok (.invokevirtual 120, 3) := by decide +kernel
theorem dX4_readOrder_111 : decode cX4_readOrder 111 = .ok (.return_, 1) := by decide +kernel
set_option maxRecDepth 100000 in
theorem rX4_readOrder_0 {zx : zX} {zn : Nat} {p : Program} {l : Launch} {e : Env} {s : State} {m : MethodId} {args : Array Value} {below : List Frame} {meth : Method} {c : Code} {D : va_G} {cA : Nat → ClassId} {ad : Nat → Nat} {Ret : zR} (C : z_Cx zx zn (z_A zn ad) 0 0 p { frames := 6, cells := 0, slots := 0, locals := 128 } s m args c cX4_readOrder yX4_readOrder.cls 6 D cA ad) (hr : meth.sig.returnType = none) (hlocks : meth.locks = false) : ∀ L st σ, tX4_readOrder_0 (z_X zx zn (z_A zn ad) 0 0 p l e { frames := 6, cells := 0, slots := 0, locals := 128 } s m args below meth c (MQ below (z_Qc zn D cA ad Ret) args s 0 0 (z_A zn ad)) 6 D cA ad true) Ret L st σ → z_X zx zn (z_A zn ad) 0 0 p l e { frames := 6, cells := 0, slots := 0, locals := 128 } s m args below meth c (MQ below (z_Qc zn D cA ad Ret) args s 0 0 (z_A zn ad)) 6 D cA ad true 0 L st σ := (s_aload_n C dX4_readOrder_0 rfl (s_cv0 C dX4_readOrder_1 (okX4_orderHere l) cls_X4 wd_360 wd_362 wd_5 wd_18 wd_363 ⟨by decide, by decide, by decide +kernel⟩ ⟨by decide, by decide⟩ (s_istore_n C dX4_readOrder_4 (by decide) rfl rfl (s_iload_n C dX4_readOrder_5 rfl (s_ifge C dX4_readOrder_6 (by decide) (s_aload_n C dX4_readOrder_15 rfl (s_geti C dX4_readOrder_16 cls_X2 (by decide) rfl wd_181 (s_bipush C dX4_readOrder_19 rfl ⟨by decide, by decide⟩ (s_iclt C dX4_readOrder_21 (by decide) (s_aload_n C dX4_readOrder_30 rfl (s_cv0 C dX4_readOrder_31 (okX4_next l) cls_X4 wd_335 wd_337 wd_1 wd_18 wd_338 ⟨by decide, by decide, by decide +kernel⟩ ⟨by decide, by decide⟩ (s_iload_n C dX4_readOrder_34 rfl (s_bipush C dX4_readOrder_35 rfl ⟨by decide, by decide⟩ (s_iceq C dX4_readOrder_37 (by decide) (fun _ _ _ h => h) (s_iload_n C dX4_readOrder_40 rfl (s_bipush C dX4_readOrder_41 rfl ⟨by decide, by decide⟩ (s_icne C dX4_readOrder_43 (by decide) (s_aload_n C dX4_readOrder_50 rfl (s_iconst C dX4_readOrder_51 rfl ⟨by decide, by decide⟩ (s_iload_n C dX4_readOrder_52 rfl (s_iconst C dX4_readOrder_53 rfl ⟨by decide, by decide⟩ (s_isub C dX4_readOrder_54 (s_cv2 C dX4_readOrder_55 (okX4_takeNumber l) cls_X4 wd_431 wd_433 wd_8 wd_18 wd_434 ⟨by decide, by decide, by decide +kernel⟩ ⟨by decide, by decide⟩ (fun _ _ _ h => h))))))) (fun _ _ _ h => h))))))))) (s_aload_n C dX4_readOrder_24 rfl (s_iconst C dX4_readOrder_25 rfl ⟨by decide, by decide⟩ (s_cv1 C dX4_readOrder_26 (okX4_fail l) cls_X4 wd_427 wd_429 wd_7 wd_18 wd_430 ⟨by decide, by decide, by decide +kernel⟩ ⟨by decide, by decide⟩ (s_vret C dX4_readOrder_29 hr hlocks)))))))) (s_aload_n C dX4_readOrder_9 rfl (s_iconst C dX4_readOrder_10 rfl ⟨by decide, by decide⟩ (s_cv1 C dX4_readOrder_11 (okX4_fail l) cls_X4 wd_427 wd_429 wd_7 wd_18 wd_430 ⟨by decide, by decide, by decide +kernel⟩ ⟨by decide, by decide⟩ (s_vret C dX4_readOrder_14 hr hlocks)))))))))
set_option maxRecDepth 100000 in
theorem rX4_readOrder_46 {zx : zX} {zn : Nat} {p : Program} {l : Launch} {e : Env} {s : State} {m : MethodId} {args : Array Value} {below : List Frame} {meth : Method} {c : Code} {D : va_G} {cA : Nat → ClassId} {ad : Nat → Nat} {Ret : zR} (C : z_Cx zx zn (z_A zn ad) 0 0 p { frames := 6, cells := 0, slots := 0, locals := 128 } s m args c cX4_readOrder yX4_readOrder.cls 6 D cA ad) (hr : meth.sig.returnType = none) (hlocks : meth.locks = false) : ∀ L st σ, tX4_readOrder_46 (z_X zx zn (z_A zn ad) 0 0 p l e { frames := 6, cells := 0, slots := 0, locals := 128 } s m args below meth c (MQ below (z_Qc zn D cA ad Ret) args s 0 0 (z_A zn ad)) 6 D cA ad true) Ret L st σ → z_X zx zn (z_A zn ad) 0 0 p l e { frames := 6, cells := 0, slots := 0, locals := 128 } s m args below meth c (MQ below (z_Qc zn D cA ad Ret) args s 0 0 (z_A zn ad)) 6 D cA ad true 46 L st σ := (s_iconst C dX4_readOrder_46 rfl ⟨by decide, by decide⟩ (s_goto C dX4_readOrder_47 (by decide) (fun _ _ _ h => h)))
set_option maxRecDepth 100000 in
theorem rX4_readOrder_58 {zx : zX} {zn : Nat} {p : Program} {l : Launch} {e : Env} {s : State} {m : MethodId} {args : Array Value} {below : List Frame} {meth : Method} {c : Code} {D : va_G} {cA : Nat → ClassId} {ad : Nat → Nat} {Ret : zR} (C : z_Cx zx zn (z_A zn ad) 0 0 p { frames := 6, cells := 0, slots := 0, locals := 128 } s m args c cX4_readOrder yX4_readOrder.cls 6 D cA ad) (hr : meth.sig.returnType = none) (hlocks : meth.locks = false) : ∀ L st σ, tX4_readOrder_58 (z_X zx zn (z_A zn ad) 0 0 p l e { frames := 6, cells := 0, slots := 0, locals := 128 } s m args below meth c (MQ below (z_Qc zn D cA ad Ret) args s 0 0 (z_A zn ad)) 6 D cA ad true) Ret L st σ → z_X zx zn (z_A zn ad) 0 0 p l e { frames := 6, cells := 0, slots := 0, locals := 128 } s m args below meth c (MQ below (z_Qc zn D cA ad Ret) args s 0 0 (z_A zn ad)) 6 D cA ad true 58 L st σ := (s_istore C dX4_readOrder_58 (by decide) rfl (s_iconst C dX4_readOrder_60 rfl ⟨by decide, by decide⟩ (s_istore C dX4_readOrder_61 (by decide) rfl (s_iload_n C dX4_readOrder_63 rfl (s_ifeq C dX4_readOrder_64 (by decide) (fun _ _ _ h => h) (s_iload_n C dX4_readOrder_67 rfl (s_iconst C dX4_readOrder_68 rfl ⟨by decide, by decide⟩ (s_icne C dX4_readOrder_69 (by decide) (s_iload_n C dX4_readOrder_84 rfl (s_iconst C dX4_readOrder_85 rfl ⟨by decide, by decide⟩ (s_icne C dX4_readOrder_86 (by decide) (fun _ _ _ h => h) (s_aload_n C dX4_readOrder_89 rfl (s_iconst C dX4_readOrder_90 rfl ⟨by decide, by decide⟩ (s_bipush C dX4_readOrder_91 rfl ⟨by decide, by decide⟩ (s_cv2 C dX4_readOrder_93 (okX4_takeNumber l) cls_X4 wd_431 wd_433 wd_8 wd_18 wd_434 ⟨by decide, by decide, by decide +kernel⟩ ⟨by decide, by decide⟩ (s_istore C dX4_readOrder_96 (by decide) rfl (fun _ _ _ h => h))))))))) (fun _ _ _ h => h)))))))))
set_option maxRecDepth 100000 in
theorem rX4_readOrder_72 {zx : zX} {zn : Nat} {p : Program} {l : Launch} {e : Env} {s : State} {m : MethodId} {args : Array Value} {below : List Frame} {meth : Method} {c : Code} {D : va_G} {cA : Nat → ClassId} {ad : Nat → Nat} {Ret : zR} (C : z_Cx zx zn (z_A zn ad) 0 0 p { frames := 6, cells := 0, slots := 0, locals := 128 } s m args c cX4_readOrder yX4_readOrder.cls 6 D cA ad) (hr : meth.sig.returnType = none) (hlocks : meth.locks = false) : ∀ L st σ, tX4_readOrder_72 (z_X zx zn (z_A zn ad) 0 0 p l e { frames := 6, cells := 0, slots := 0, locals := 128 } s m args below meth c (MQ below (z_Qc zn D cA ad Ret) args s 0 0 (z_A zn ad)) 6 D cA ad true) Ret L st σ → z_X zx zn (z_A zn ad) 0 0 p l e { frames := 6, cells := 0, slots := 0, locals := 128 } s m args below meth c (MQ below (z_Qc zn D cA ad Ret) args s 0 0 (z_A zn ad)) 6 D cA ad true 72 L st σ := (s_aload_n C dX4_readOrder_72 rfl (s_iconst C dX4_readOrder_73 rfl ⟨by decide, by decide⟩ (s_bipush C dX4_readOrder_74 rfl ⟨by decide, by decide⟩ (s_cv2 C dX4_readOrder_76 (okX4_takeNumber l) cls_X4 wd_431 wd_433 wd_8 wd_18 wd_434 ⟨by decide, by decide, by decide +kernel⟩ ⟨by decide, by decide⟩ (s_istore C dX4_readOrder_79 (by decide) rfl (s_goto C dX4_readOrder_81 (by decide) (fun _ _ _ h => h)))))))
set_option maxRecDepth 100000 in
theorem rX4_readOrder_98 {zx : zX} {zn : Nat} {p : Program} {l : Launch} {e : Env} {s : State} {m : MethodId} {args : Array Value} {below : List Frame} {meth : Method} {c : Code} {D : va_G} {cA : Nat → ClassId} {ad : Nat → Nat} {Ret : zR} (C : z_Cx zx zn (z_A zn ad) 0 0 p { frames := 6, cells := 0, slots := 0, locals := 128 } s m args c cX4_readOrder yX4_readOrder.cls 6 D cA ad) (hr : meth.sig.returnType = none) (hlocks : meth.locks = false) : ∀ L st σ, tX4_readOrder_98 (z_X zx zn (z_A zn ad) 0 0 p l e { frames := 6, cells := 0, slots := 0, locals := 128 } s m args below meth c (MQ below (z_Qc zn D cA ad Ret) args s 0 0 (z_A zn ad)) 6 D cA ad true) Ret L st σ → z_X zx zn (z_A zn ad) 0 0 p l e { frames := 6, cells := 0, slots := 0, locals := 128 } s m args below meth c (MQ below (z_Qc zn D cA ad Ret) args s 0 0 (z_A zn ad)) 6 D cA ad true 98 L st σ := (s_aload_n C dX4_readOrder_98 rfl (s_cv0 C dX4_readOrder_99 (okX4_takeSign l) cls_X4 wd_435 wd_437 wd_9 wd_18 wd_438 ⟨by decide, by decide, by decide +kernel⟩ ⟨by decide, by decide⟩ (s_aload_n C dX4_readOrder_102 rfl (s_iload_n C dX4_readOrder_103 rfl (s_iload C dX4_readOrder_104 (s_iload C dX4_readOrder_106 (s_cv3 C dX4_readOrder_108 (okX2_add l) cls_X2 wd_439 wd_440 wd_441 wd_23 wd_442 ⟨by decide, by decide, by decide +kernel⟩ ⟨by decide, by decide⟩ (s_vret C dX4_readOrder_111 hr hlocks))))))))
theorem okX4_readOrder {zx : zX} {zn : Nat} (l : Launch) : z_OK zx zn l yX4_readOrder cX4_readOrder 6 none 6 128 SX4_readOrder := by
  refine z_ok_of true (by decide +kernel) ?_ ?_
  · intro as σ Ret h
    obtain ⟨k0, k1, x2, rfl⟩ := pX4_readOrder h
    exact ⟨Nat.le_of_ble_eq_true rfl, by simp⟩
  · intro p e s m args below meth c D cA ad Ret C hr hlocks as σ has hσ h
    obtain ⟨k0, k1, x2, rfl⟩ := pX4_readOrder h
    exact vX4_readOrder (rX4_readOrder_0 C hr hlocks) (rX4_readOrder_46 C hr hlocks) (rX4_readOrder_58 C hr hlocks) (rX4_readOrder_72 C hr hlocks) (rX4_readOrder_98 C hr hlocks) k0 k1 x2 σ (has _ (List.mem_of_getElem? (i := 0) rfl)).1 (has _ (List.mem_of_getElem? (i := 1) rfl)).1 (has _ (List.mem_of_getElem? (i := 2) rfl)) hσ h
def q_or (b : Nat → Int) (T : Nat) (n : Int) : Nat × Int × Nat × (Nat → Int) := q_oo b T n 0 0 q_D0
def SX4_readOrders : zS := fun as σ Ret => match as with
  | [.inr (.inr (4, 0, k)), .inr (.inr (2, 0, t)), .inl n] => ((0 ≤ σ k 1 ∧ σ k 1 ≤ 400) ∧ (1 ≤ n ∧ n ≤ 12)) ∧ ∀ σ' : zM, (∀ a j, ¬ (a = k ∧ 2 ≤ j ∧ j ≤ 6) → ¬ (t ≤ a ∧ a ≤ t + 3) → σ' a j = σ a j) → q_rs σ' k (q_by (σ (k + 1)) (σ k 1).toNat) (σ k 1).toNat (q_or (q_by (σ (k + 1)) (σ k 1).toNat) (σ k 1).toNat n).1 (q_or (q_by (σ (k + 1)) (σ k 1).toNat) (σ k 1).toNat n).2.1 → q_to σ' t (q_or (q_by (σ (k + 1)) (σ k 1).toNat) (σ k 1).toNat n).2.2.1 (q_or (q_by (σ (k + 1)) (σ k 1).toNat) (σ k 1).toNat n).2.2.2 → Ret none σ'
  | _ => False
def tX4_readOrders_0 (X : Nat → zB) (Ret : zR) (L : zL) (st : List zV) (σ : zM) : Prop := (z_aload 1 (z_push 0 (z_puti 2 3 (z_aload 0 (z_cv0 4 SX4_begin (z_push 0 (z_istore 3 (X 11)))))))) L st σ
def tX4_readOrders_11 (X : Nat → zB) (Ret : zR) (L : zL) (st : List zV) (σ : zM) : Prop := (z_iload 3 (z_ifeq (X 29) (z_iload 3 (z_push 400 (z_icge (z_vret Ret) (z_aload 0 (z_cv0 4 SX4_isMore (z_ifeq (z_vret Ret) (X 29))))))))) L st σ
def tX4_readOrders_29 (X : Nat → zB) (Ret : zR) (L : zL) (st : List zV) (σ : zM) : Prop := (z_aload 0 (z_aload 1 (z_iload 2 (z_cv2 4 SX4_readOrder (z_iinc 3 1 (z_goto (X 11))))))) L st σ
theorem pX4_readOrders {as : List zV} {σ : zM} {Ret : zR} (h : SX4_readOrders as σ Ret) : ∃ (k0 : Nat) (k1 : Nat) (x2 : Int), as = [.inr (.inr (4, 0, k0)), .inr (.inr (2, 0, k1)), .inl x2] := by
  unfold SX4_readOrders at h
  split at h
  · exact ⟨_, _, _, rfl⟩
  · exact h.elim
set_option maxRecDepth 10000 in
set_option maxHeartbeats 4000000 in
theorem vX4_readOrders {X : Nat → zB} {Ret : zR} (h0 : ∀ L st σ, tX4_readOrders_0 X Ret L st σ → X 0 L st σ) (h11 : ∀ L st σ, tX4_readOrders_11 X Ret L st σ → X 11 L st σ) (h29 : ∀ L st σ, tX4_readOrders_29 X Ret L st σ → X 29 L st σ) (k0 : Nat) (k1 : Nat) (x2 : Int) (σ : zM) (hk0 : z_kd k0 = (4, 0)) (hk1 : z_kd k1 = (2, 0)) (hx2 : -2147483648 ≤ x2 ∧ x2 ≤ 2147483647) (hσ : z_okm σ) (h : SX4_readOrders [.inr (.inr (4, 0, k0)), .inr (.inr (2, 0, k1)), .inl x2] σ Ret) : X 0 [some (.inr (.inr (4, 0, k0))), some (.inr (.inr (2, 0, k1))), some (.inl x2), none] [] σ := by
  obtain ⟨⟨⟨c0, c1⟩, n1, n2⟩, h⟩ := h
  have ek := z_kd4 hk0
  have et := z_kd2 hk1
  obtain ⟨T, hT⟩ := z_nat c0
  rw [hT] at h
  simp only [Int.toNat_natCast] at h
  generalize hb : q_by (σ (k0 + 1)) T = b at h
  generalize hr : q_or b T x2 = r at h
  have hT4 : T ≤ 400 := by omega
  have L29 : ∀ (d i p c : Nat) (E : Nat → Int) (σ1 : zM), T - p < d → i ≤ p → p ≤ T → c ≤ 12 → (∀ a j, ¬ (a = k0 ∧ 2 ≤ j ∧ j ≤ 6) → ¬ (k1 ≤ a ∧ a ≤ k1 + 3) → σ1 a j = σ a j) → q_rs σ1 k0 b T p 0 → q_to σ1 k1 c E → q_oo b T x2 p c E = r → X 29 [some (.inr (.inr (4, 0, k0))), some (.inr (.inr (2, 0, k1))), some (.inl x2), some (.inl (i : Int))] [] σ1 := by
    intro d
    induction d with
    | zero => intro i p c E σ1 hd; omega
    | succ d ih =>
      intro i p c E σ1 hd hi hp h2 fw rs to hq
      have gi := q_oa_in (b := b) (T := T) (n := x2) (p := p) (c := c) (E := E) hp h2
      refine h29 _ _ _ ?_
      simp only [z_push, z_lpush, z_iload, z_lload, z_aload, z_istore, z_istoreP, z_lstore, z_astore, z_iinc, z_iincP, z_iadd, z_isub, z_imul, z_iaddW, z_isubW, z_imulW, z_idiv, z_irem, z_iand, z_ior, z_ixor, z_ishl, z_ishr, z_iushr, z_ineg, z_i2l, z_i2b, z_i2s, z_i2c, z_l2i, z_ladd, z_lsub, z_land, z_lor, z_lshl, z_lshr, z_lcmp, z_dup, z_pop, z_dup2, z_goto, z_tsw, z_cases, z_geti, z_getr, z_puti, z_putz, z_ald, z_iast, z_bast, z_zast, z_alen, z_acopy, z_mmax, z_mmin, z_mabs, z_mabsL, z_iret, z_zret, z_nret, z_lret, z_aret, z_vret, z_cat, z_xald, z_xlen, z_ldcs, z_strv, z_strc, z_gcs, z_gfm, z_sln, z_sald, z_ifeq, z_ifne, z_iflt, z_ifge, z_ifgt, z_ifle, z_iceq, z_icne, z_iclt, z_icge, z_icgt, z_icle, z_cs0, z_cs1, z_cs2, z_cs3, z_cs4, z_cs5, z_cs6, z_cs7, z_cv0, z_cv1, z_cv2, z_cv3, z_cv4, z_cv5, z_cv6, z_cv7, z_g0, z_s0, z_g1, z_s1, z_g2, z_s2, z_g3, z_s3, z_g4, z_s4, z_g5, z_s5, z_g6, z_s6, z_g7, z_s7, z_g8, z_s8, z_g9, z_s9, z_g10, z_s10, z_g11, z_s11, z_g12, z_s12, z_g13, z_s13, z_b0, z_b1, z_b0n, z_b1n, z_up_far1, z_up_far2, z_up_far3, z_up_far4, z_up_far5, z_up_far6, Classical.not_not, not_true_eq_false, z_in, z_inL, Int.cast_ofNat_Int, Nat.reduceLeDiff, List.length_cons, List.length_nil, Nat.reduceAdd, Nat.zero_add, Nat.le_refl, true_and, and_true, List.length, Nat.reduceLT, true_or, or_true, false_or, or_false, false_and, and_false, not_true_eq_false, not_false_eq_true, forall_const, false_implies, true_implies, Int.reduceEq, Int.reduceLT, Int.reduceLE, Int.reduceAdd, Int.reduceSub, Int.reduceMul, Int.reduceNeg, Int.reduceToNat, Int.toNat_natCast, ↓reduceIte, reduceIte, Nat.reduceEqDiff, Nat.reduceSub, Nat.reduceMul, ne_eq, Int.zero_add, Int.add_zero, Int.sub_zero, Nat.add_zero, Int.ofNat_eq_natCast, tX4_readOrders_29, SX4_readOrder]
      refine ⟨b, T, p, c, E, ⟨rs, to, n1, n2⟩, fun σ2 f2 g2 d2 => ?_⟩
      have fw2 : ∀ a j, ¬ (a = k0 ∧ 2 ≤ j ∧ j ≤ 6) → ¬ (k1 ≤ a ∧ a ≤ k1 + 3) → σ2 a j = σ a j := fun a j e1 e2 => (f2 a j e1 e2).trans (fw a j e1 e2)
      have r6 := g2.2.2.2.2.2
      have a3 := g2.2.2.2.1.2.2.1
      by_cases hc : (q_oa b T x2 p c E).2.1 = 0 ∧ ¬ q_tk b T (q_oa b T x2 p c E).1 = 0
      · rw [q_oo_go hp h2 hc.1 hc.2] at hq
        have gi2 := gi.2.1 hc.1
        have g4 := q_te_gt gi.1 hc.2
        have g2' := g2
        rw [hc.1] at g2'
        have nx := ih (i + 1) _ _ _ σ2 (by omega) (by omega) gi.1 gi.2.2 fw2 g2' d2 hq
        refine ⟨by omega, ?_⟩
        refine h11 _ _ _ ?_
        simp only [z_push, z_lpush, z_iload, z_lload, z_aload, z_istore, z_istoreP, z_lstore, z_astore, z_iinc, z_iincP, z_iadd, z_isub, z_imul, z_iaddW, z_isubW, z_imulW, z_idiv, z_irem, z_iand, z_ior, z_ixor, z_ishl, z_ishr, z_iushr, z_ineg, z_i2l, z_i2b, z_i2s, z_i2c, z_l2i, z_ladd, z_lsub, z_land, z_lor, z_lshl, z_lshr, z_lcmp, z_dup, z_pop, z_dup2, z_goto, z_tsw, z_cases, z_geti, z_getr, z_puti, z_putz, z_ald, z_iast, z_bast, z_zast, z_alen, z_acopy, z_mmax, z_mmin, z_mabs, z_mabsL, z_iret, z_zret, z_nret, z_lret, z_aret, z_vret, z_cat, z_xald, z_xlen, z_ldcs, z_strv, z_strc, z_gcs, z_gfm, z_sln, z_sald, z_ifeq, z_ifne, z_iflt, z_ifge, z_ifgt, z_ifle, z_iceq, z_icne, z_iclt, z_icge, z_icgt, z_icle, z_cs0, z_cs1, z_cs2, z_cs3, z_cs4, z_cs5, z_cs6, z_cs7, z_cv0, z_cv1, z_cv2, z_cv3, z_cv4, z_cv5, z_cv6, z_cv7, z_g0, z_s0, z_g1, z_s1, z_g2, z_s2, z_g3, z_s3, z_g4, z_s4, z_g5, z_s5, z_g6, z_s6, z_g7, z_s7, z_g8, z_s8, z_g9, z_s9, z_g10, z_s10, z_g11, z_s11, z_g12, z_s12, z_g13, z_s13, z_b0, z_b1, z_b0n, z_b1n, z_up_far1, z_up_far2, z_up_far3, z_up_far4, z_up_far5, z_up_far6, Classical.not_not, not_true_eq_false, z_in, z_inL, Int.cast_ofNat_Int, Nat.reduceLeDiff, List.length_cons, List.length_nil, Nat.reduceAdd, Nat.zero_add, Nat.le_refl, true_and, and_true, List.length, Nat.reduceLT, true_or, or_true, false_or, or_false, false_and, and_false, not_true_eq_false, not_false_eq_true, forall_const, false_implies, true_implies, Int.reduceEq, Int.reduceLT, Int.reduceLE, Int.reduceAdd, Int.reduceSub, Int.reduceMul, Int.reduceNeg, Int.reduceToNat, Int.toNat_natCast, ↓reduceIte, reduceIte, Nat.reduceEqDiff, Nat.reduceSub, Nat.reduceMul, ne_eq, Int.zero_add, Int.add_zero, Int.sub_zero, Nat.add_zero, Int.ofNat_eq_natCast, tX4_readOrders_11, SX4_isMore, r6, a3, hc.1, hc.2]
        exact ⟨fun e => by omega, fun e => ⟨fun e2 => by omega, fun e2 => nx⟩⟩
      · rw [q_oo_end hc] at hq
        subst hq
        have fin := h σ2 fw2 g2 d2
        refine ⟨by omega, ?_⟩
        refine h11 _ _ _ ?_
        by_cases e3 : (q_oa b T x2 p c E).2.1 = 0
        · have e4 : q_tk b T (q_oa b T x2 p c E).1 = 0 := by
            by_cases q : q_tk b T (q_oa b T x2 p c E).1 = 0
            · exact q
            · exact absurd ⟨e3, q⟩ hc
          simp only [z_push, z_lpush, z_iload, z_lload, z_aload, z_istore, z_istoreP, z_lstore, z_astore, z_iinc, z_iincP, z_iadd, z_isub, z_imul, z_iaddW, z_isubW, z_imulW, z_idiv, z_irem, z_iand, z_ior, z_ixor, z_ishl, z_ishr, z_iushr, z_ineg, z_i2l, z_i2b, z_i2s, z_i2c, z_l2i, z_ladd, z_lsub, z_land, z_lor, z_lshl, z_lshr, z_lcmp, z_dup, z_pop, z_dup2, z_goto, z_tsw, z_cases, z_geti, z_getr, z_puti, z_putz, z_ald, z_iast, z_bast, z_zast, z_alen, z_acopy, z_mmax, z_mmin, z_mabs, z_mabsL, z_iret, z_zret, z_nret, z_lret, z_aret, z_vret, z_cat, z_xald, z_xlen, z_ldcs, z_strv, z_strc, z_gcs, z_gfm, z_sln, z_sald, z_ifeq, z_ifne, z_iflt, z_ifge, z_ifgt, z_ifle, z_iceq, z_icne, z_iclt, z_icge, z_icgt, z_icle, z_cs0, z_cs1, z_cs2, z_cs3, z_cs4, z_cs5, z_cs6, z_cs7, z_cv0, z_cv1, z_cv2, z_cv3, z_cv4, z_cv5, z_cv6, z_cv7, z_g0, z_s0, z_g1, z_s1, z_g2, z_s2, z_g3, z_s3, z_g4, z_s4, z_g5, z_s5, z_g6, z_s6, z_g7, z_s7, z_g8, z_s8, z_g9, z_s9, z_g10, z_s10, z_g11, z_s11, z_g12, z_s12, z_g13, z_s13, z_b0, z_b1, z_b0n, z_b1n, z_up_far1, z_up_far2, z_up_far3, z_up_far4, z_up_far5, z_up_far6, Classical.not_not, not_true_eq_false, z_in, z_inL, Int.cast_ofNat_Int, Nat.reduceLeDiff, List.length_cons, List.length_nil, Nat.reduceAdd, Nat.zero_add, Nat.le_refl, true_and, and_true, List.length, Nat.reduceLT, true_or, or_true, false_or, or_false, false_and, and_false, not_true_eq_false, not_false_eq_true, forall_const, false_implies, true_implies, Int.reduceEq, Int.reduceLT, Int.reduceLE, Int.reduceAdd, Int.reduceSub, Int.reduceMul, Int.reduceNeg, Int.reduceToNat, Int.toNat_natCast, ↓reduceIte, reduceIte, Nat.reduceEqDiff, Nat.reduceSub, Nat.reduceMul, ne_eq, Int.zero_add, Int.add_zero, Int.sub_zero, Nat.add_zero, Int.ofNat_eq_natCast, tX4_readOrders_11, SX4_isMore, r6, a3, e3, e4]
          exact ⟨fun e => by omega, fun _ => ⟨fun _ => fin, fun _ => fin⟩⟩
        · simp only [z_push, z_lpush, z_iload, z_lload, z_aload, z_istore, z_istoreP, z_lstore, z_astore, z_iinc, z_iincP, z_iadd, z_isub, z_imul, z_iaddW, z_isubW, z_imulW, z_idiv, z_irem, z_iand, z_ior, z_ixor, z_ishl, z_ishr, z_iushr, z_ineg, z_i2l, z_i2b, z_i2s, z_i2c, z_l2i, z_ladd, z_lsub, z_land, z_lor, z_lshl, z_lshr, z_lcmp, z_dup, z_pop, z_dup2, z_goto, z_tsw, z_cases, z_geti, z_getr, z_puti, z_putz, z_ald, z_iast, z_bast, z_zast, z_alen, z_acopy, z_mmax, z_mmin, z_mabs, z_mabsL, z_iret, z_zret, z_nret, z_lret, z_aret, z_vret, z_cat, z_xald, z_xlen, z_ldcs, z_strv, z_strc, z_gcs, z_gfm, z_sln, z_sald, z_ifeq, z_ifne, z_iflt, z_ifge, z_ifgt, z_ifle, z_iceq, z_icne, z_iclt, z_icge, z_icgt, z_icle, z_cs0, z_cs1, z_cs2, z_cs3, z_cs4, z_cs5, z_cs6, z_cs7, z_cv0, z_cv1, z_cv2, z_cv3, z_cv4, z_cv5, z_cv6, z_cv7, z_g0, z_s0, z_g1, z_s1, z_g2, z_s2, z_g3, z_s3, z_g4, z_s4, z_g5, z_s5, z_g6, z_s6, z_g7, z_s7, z_g8, z_s8, z_g9, z_s9, z_g10, z_s10, z_g11, z_s11, z_g12, z_s12, z_g13, z_s13, z_b0, z_b1, z_b0n, z_b1n, z_up_far1, z_up_far2, z_up_far3, z_up_far4, z_up_far5, z_up_far6, Classical.not_not, not_true_eq_false, z_in, z_inL, Int.cast_ofNat_Int, Nat.reduceLeDiff, List.length_cons, List.length_nil, Nat.reduceAdd, Nat.zero_add, Nat.le_refl, true_and, and_true, List.length, Nat.reduceLT, true_or, or_true, false_or, or_false, false_and, and_false, not_true_eq_false, not_false_eq_true, forall_const, false_implies, true_implies, Int.reduceEq, Int.reduceLT, Int.reduceLE, Int.reduceAdd, Int.reduceSub, Int.reduceMul, Int.reduceNeg, Int.reduceToNat, Int.toNat_natCast, ↓reduceIte, reduceIte, Nat.reduceEqDiff, Nat.reduceSub, Nat.reduceMul, ne_eq, Int.zero_add, Int.add_zero, Int.sub_zero, Nat.add_zero, Int.ofNat_eq_natCast, tX4_readOrders_11, SX4_isMore, r6, a3, e3]
          exact ⟨fun e => by omega, fun _ => ⟨fun _ => fin, fun _ => fin⟩⟩
  have e1 : z_up σ k1 3 0 k0 1 = (T : Int) := by rw [z_up_ne (by omega)]; exact hT
  have e2 : z_up σ k1 3 0 (k0 + 1) = σ (k0 + 1) := funext fun j => z_up_ne (by omega)
  refine h0 _ _ _ ?_
  simp only [z_push, z_lpush, z_iload, z_lload, z_aload, z_istore, z_istoreP, z_lstore, z_astore, z_iinc, z_iincP, z_iadd, z_isub, z_imul, z_iaddW, z_isubW, z_imulW, z_idiv, z_irem, z_iand, z_ior, z_ixor, z_ishl, z_ishr, z_iushr, z_ineg, z_i2l, z_i2b, z_i2s, z_i2c, z_l2i, z_ladd, z_lsub, z_land, z_lor, z_lshl, z_lshr, z_lcmp, z_dup, z_pop, z_dup2, z_goto, z_tsw, z_cases, z_geti, z_getr, z_puti, z_putz, z_ald, z_iast, z_bast, z_zast, z_alen, z_acopy, z_mmax, z_mmin, z_mabs, z_mabsL, z_iret, z_zret, z_nret, z_lret, z_aret, z_vret, z_cat, z_xald, z_xlen, z_ldcs, z_strv, z_strc, z_gcs, z_gfm, z_sln, z_sald, z_ifeq, z_ifne, z_iflt, z_ifge, z_ifgt, z_ifle, z_iceq, z_icne, z_iclt, z_icge, z_icgt, z_icle, z_cs0, z_cs1, z_cs2, z_cs3, z_cs4, z_cs5, z_cs6, z_cs7, z_cv0, z_cv1, z_cv2, z_cv3, z_cv4, z_cv5, z_cv6, z_cv7, z_g0, z_s0, z_g1, z_s1, z_g2, z_s2, z_g3, z_s3, z_g4, z_s4, z_g5, z_s5, z_g6, z_s6, z_g7, z_s7, z_g8, z_s8, z_g9, z_s9, z_g10, z_s10, z_g11, z_s11, z_g12, z_s12, z_g13, z_s13, z_b0, z_b1, z_b0n, z_b1n, z_up_far1, z_up_far2, z_up_far3, z_up_far4, z_up_far5, z_up_far6, Classical.not_not, not_true_eq_false, z_in, z_inL, Int.cast_ofNat_Int, Nat.reduceLeDiff, List.length_cons, List.length_nil, Nat.reduceAdd, Nat.zero_add, Nat.le_refl, true_and, and_true, List.length, Nat.reduceLT, true_or, or_true, false_or, or_false, false_and, and_false, not_true_eq_false, not_false_eq_true, forall_const, false_implies, true_implies, Int.reduceEq, Int.reduceLT, Int.reduceLE, Int.reduceAdd, Int.reduceSub, Int.reduceMul, Int.reduceNeg, Int.reduceToNat, Int.toNat_natCast, ↓reduceIte, reduceIte, Nat.reduceEqDiff, Nat.reduceSub, Nat.reduceMul, ne_eq, Int.zero_add, Int.add_zero, Int.sub_zero, Nat.add_zero, Int.ofNat_eq_natCast, tX4_readOrders_0, SX4_begin, e1, e2, hb]
  refine ⟨by omega, fun σ1 f1 g1 => ?_⟩
  have to1 : q_to σ1 k1 0 q_D0 := ⟨by rw [f1 _ _ (by omega), z_up_eq]; rfl, by omega, fun i hi => absurd hi (by omega)⟩
  have nx := L29 (T + 1) 0 0 0 q_D0 σ1 (by omega) (Nat.le_refl _) (Nat.zero_le _) (by omega) (fun a j e3 e4 => by rw [f1 a j e3, z_up_ne (by omega)]) g1 to1 hr
  refine h11 _ _ _ ?_
  simp only [z_push, z_lpush, z_iload, z_lload, z_aload, z_istore, z_istoreP, z_lstore, z_astore, z_iinc, z_iincP, z_iadd, z_isub, z_imul, z_iaddW, z_isubW, z_imulW, z_idiv, z_irem, z_iand, z_ior, z_ixor, z_ishl, z_ishr, z_iushr, z_ineg, z_i2l, z_i2b, z_i2s, z_i2c, z_l2i, z_ladd, z_lsub, z_land, z_lor, z_lshl, z_lshr, z_lcmp, z_dup, z_pop, z_dup2, z_goto, z_tsw, z_cases, z_geti, z_getr, z_puti, z_putz, z_ald, z_iast, z_bast, z_zast, z_alen, z_acopy, z_mmax, z_mmin, z_mabs, z_mabsL, z_iret, z_zret, z_nret, z_lret, z_aret, z_vret, z_cat, z_xald, z_xlen, z_ldcs, z_strv, z_strc, z_gcs, z_gfm, z_sln, z_sald, z_ifeq, z_ifne, z_iflt, z_ifge, z_ifgt, z_ifle, z_iceq, z_icne, z_iclt, z_icge, z_icgt, z_icle, z_cs0, z_cs1, z_cs2, z_cs3, z_cs4, z_cs5, z_cs6, z_cs7, z_cv0, z_cv1, z_cv2, z_cv3, z_cv4, z_cv5, z_cv6, z_cv7, z_g0, z_s0, z_g1, z_s1, z_g2, z_s2, z_g3, z_s3, z_g4, z_s4, z_g5, z_s5, z_g6, z_s6, z_g7, z_s7, z_g8, z_s8, z_g9, z_s9, z_g10, z_s10, z_g11, z_s11, z_g12, z_s12, z_g13, z_s13, z_b0, z_b1, z_b0n, z_b1n, z_up_far1, z_up_far2, z_up_far3, z_up_far4, z_up_far5, z_up_far6, Classical.not_not, not_true_eq_false, z_in, z_inL, Int.cast_ofNat_Int, Nat.reduceLeDiff, List.length_cons, List.length_nil, Nat.reduceAdd, Nat.zero_add, Nat.le_refl, true_and, and_true, List.length, Nat.reduceLT, true_or, or_true, false_or, or_false, false_and, and_false, not_true_eq_false, not_false_eq_true, forall_const, false_implies, true_implies, Int.reduceEq, Int.reduceLT, Int.reduceLE, Int.reduceAdd, Int.reduceSub, Int.reduceMul, Int.reduceNeg, Int.reduceToNat, Int.toNat_natCast, ↓reduceIte, reduceIte, Nat.reduceEqDiff, Nat.reduceSub, Nat.reduceMul, ne_eq, Int.zero_add, Int.add_zero, Int.sub_zero, Nat.add_zero, Int.ofNat_eq_natCast, tX4_readOrders_11]
  exact nx
theorem dX4_readOrders_0 : decode cX4_readOrders 0 = .ok (.aload_n 1, 1) := by decide +kernel
theorem dX4_readOrders_1 : decode cX4_readOrders 1 = .ok (.iconst 0, 1) := by decide +kernel
theorem dX4_readOrders_2 : decode cX4_readOrders 2 = .ok (.putfield 35, 3) := by decide +kernel
theorem dX4_readOrders_5 : decode cX4_readOrders 5 = .ok (.aload_n 0, 1) := by decide +kernel
theorem dX4_readOrders_6 : decode cX4_readOrders 6 = .ok (.invokevirtual 24, 3) := by decide +kernel
theorem dX4_readOrders_9 : decode cX4_readOrders 9 = .ok (.iconst 0, 1) := by decide +kernel
theorem dX4_readOrders_10 : decode cX4_readOrders 10 = .ok (.istore_n 3, 1) := by decide +kernel
theorem dX4_readOrders_11 : decode cX4_readOrders 11 = .ok (.iload_n 3, 1) := by decide +kernel
theorem dX4_readOrders_12 : decode cX4_readOrders 12 = .ok (.ifCond .eq 17, 3) := by decide +kernel
theorem dX4_readOrders_15 : decode cX4_readOrders 15 = .ok (.iload_n 3, 1) := by decide +kernel
theorem dX4_readOrders_16 : decode cX4_readOrders 16 = .ok (.sipush 400, 3) := by decide +kernel
theorem dX4_readOrders_19 : decode cX4_readOrders 19 = .ok (.if_icmp .ge 22, 3) := by decide +kernel
theorem dX4_readOrders_22 : decode cX4_readOrders 22 = .ok (.aload_n 0, 1) := by decide +kernel
theorem dX4_readOrders_23 : decode cX4_readOrders 23 = .ok (.invokevirtual 27, 3) := by decide +kernel
theorem dX4_readOrders_26 : decode cX4_readOrders 26 = .ok (.ifCond .eq 15, 3) := by decide +kernel
theorem dX4_readOrders_29 : decode cX4_readOrders 29 = .ok (.aload_n 0, 1) := by decide +kernel
theorem dX4_readOrders_30 : decode cX4_readOrders 30 = .ok (.aload_n 1, 1) := by decide +kernel
theorem dX4_readOrders_31 : decode cX4_readOrders 31 = .ok (.iload_n 2, 1) := by decide +kernel
theorem dX4_readOrders_32 : decode cX4_readOrders 32 = .ok (.invokevirtual 40, 3) := by decide +kernel
theorem dX4_readOrders_35 : decode cX4_readOrders 35 = .ok (.iinc 3 1, 3) := by decide +kernel
theorem dX4_readOrders_38 : decode cX4_readOrders 38 = .ok (.goto (-27), 3) := by decide +kernel
theorem dX4_readOrders_41 : decode cX4_readOrders 41 = .ok (.return_, 1) := by decide +kernel
set_option maxRecDepth 100000 in
theorem rX4_readOrders_0 {zx : zX} {zn : Nat} {p : Program} {l : Launch} {e : Env} {s : State} {m : MethodId} {args : Array Value} {below : List Frame} {meth : Method} {c : Code} {D : va_G} {cA : Nat → ClassId} {ad : Nat → Nat} {Ret : zR} (C : z_Cx zx zn (z_A zn ad) 0 0 p { frames := 7, cells := 0, slots := 0, locals := 153 } s m args c cX4_readOrders yX4_readOrders.cls 4 D cA ad) (hr : meth.sig.returnType = none) (hlocks : meth.locks = false) : ∀ L st σ, tX4_readOrders_0 (z_X zx zn (z_A zn ad) 0 0 p l e { frames := 7, cells := 0, slots := 0, locals := 153 } s m args below meth c (MQ below (z_Qc zn D cA ad Ret) args s 0 0 (z_A zn ad)) 4 D cA ad true) Ret L st σ → z_X zx zn (z_A zn ad) 0 0 p l e { frames := 7, cells := 0, slots := 0, locals := 153 } s m args below meth c (MQ below (z_Qc zn D cA ad Ret) args s 0 0 (z_A zn ad)) 4 D cA ad true 0 L st σ := (s_aload_n C dX4_readOrders_0 rfl (s_iconst C dX4_readOrders_1 rfl ⟨by decide, by decide⟩ (s_puti C dX4_readOrders_2 cls_X2 (by decide) rfl wd_181 rfl rfl (s_aload_n C dX4_readOrders_5 rfl (s_cv0 C dX4_readOrders_6 (okX4_begin l) cls_X4 wd_331 wd_333 wd_0 wd_18 wd_334 ⟨by decide, by decide, by decide +kernel⟩ ⟨by decide, by decide⟩ (s_iconst C dX4_readOrders_9 rfl ⟨by decide, by decide⟩ (s_istore_n C dX4_readOrders_10 (by decide) rfl rfl (fun _ _ _ h => h))))))))
set_option maxRecDepth 100000 in
theorem rX4_readOrders_11 {zx : zX} {zn : Nat} {p : Program} {l : Launch} {e : Env} {s : State} {m : MethodId} {args : Array Value} {below : List Frame} {meth : Method} {c : Code} {D : va_G} {cA : Nat → ClassId} {ad : Nat → Nat} {Ret : zR} (C : z_Cx zx zn (z_A zn ad) 0 0 p { frames := 7, cells := 0, slots := 0, locals := 153 } s m args c cX4_readOrders yX4_readOrders.cls 4 D cA ad) (hr : meth.sig.returnType = none) (hlocks : meth.locks = false) : ∀ L st σ, tX4_readOrders_11 (z_X zx zn (z_A zn ad) 0 0 p l e { frames := 7, cells := 0, slots := 0, locals := 153 } s m args below meth c (MQ below (z_Qc zn D cA ad Ret) args s 0 0 (z_A zn ad)) 4 D cA ad true) Ret L st σ → z_X zx zn (z_A zn ad) 0 0 p l e { frames := 7, cells := 0, slots := 0, locals := 153 } s m args below meth c (MQ below (z_Qc zn D cA ad Ret) args s 0 0 (z_A zn ad)) 4 D cA ad true 11 L st σ := (s_iload_n C dX4_readOrders_11 rfl (s_ifeq C dX4_readOrders_12 (by decide) (fun _ _ _ h => h) (s_iload_n C dX4_readOrders_15 rfl (s_sipush C dX4_readOrders_16 rfl ⟨by decide, by decide⟩ (s_icge C dX4_readOrders_19 (by decide) (s_vret C dX4_readOrders_41 hr hlocks) (s_aload_n C dX4_readOrders_22 rfl (s_cv0 C dX4_readOrders_23 (okX4_isMore l) cls_X4 wd_352 wd_354 wd_3 wd_18 wd_355 ⟨by decide, by decide, by decide +kernel⟩ ⟨by decide, by decide⟩ (s_ifeq C dX4_readOrders_26 (by decide) (s_vret C dX4_readOrders_41 hr hlocks) (fun _ _ _ h => h)))))))))
set_option maxRecDepth 100000 in
theorem rX4_readOrders_29 {zx : zX} {zn : Nat} {p : Program} {l : Launch} {e : Env} {s : State} {m : MethodId} {args : Array Value} {below : List Frame} {meth : Method} {c : Code} {D : va_G} {cA : Nat → ClassId} {ad : Nat → Nat} {Ret : zR} (C : z_Cx zx zn (z_A zn ad) 0 0 p { frames := 7, cells := 0, slots := 0, locals := 153 } s m args c cX4_readOrders yX4_readOrders.cls 4 D cA ad) (hr : meth.sig.returnType = none) (hlocks : meth.locks = false) : ∀ L st σ, tX4_readOrders_29 (z_X zx zn (z_A zn ad) 0 0 p l e { frames := 7, cells := 0, slots := 0, locals := 153 } s m args below meth c (MQ below (z_Qc zn D cA ad Ret) args s 0 0 (z_A zn ad)) 4 D cA ad true) Ret L st σ → z_X zx zn (z_A zn ad) 0 0 p l e { frames := 7, cells := 0, slots := 0, locals := 153 } s m args below meth c (MQ below (z_Qc zn D cA ad Ret) args s 0 0 (z_A zn ad)) 4 D cA ad true 29 L st σ := (s_aload_n C dX4_readOrders_29 rfl (s_aload_n C dX4_readOrders_30 rfl (s_iload_n C dX4_readOrders_31 rfl (s_cv2 C dX4_readOrders_32 (okX4_readOrder l) cls_X4 wd_356 wd_358 wd_4 wd_18 wd_359 ⟨by decide, by decide, by decide +kernel⟩ ⟨by decide, by decide⟩ (s_iinc C dX4_readOrders_35 (by decide) rfl (s_goto C dX4_readOrders_38 (by decide) (fun _ _ _ h => h)))))))
theorem okX4_readOrders {zx : zX} {zn : Nat} (l : Launch) : z_OK zx zn l yX4_readOrders cX4_readOrders 4 none 7 153 SX4_readOrders := by
  refine z_ok_of true (by decide +kernel) ?_ ?_
  · intro as σ Ret h
    obtain ⟨k0, k1, x2, rfl⟩ := pX4_readOrders h
    exact ⟨Nat.le_of_ble_eq_true rfl, by simp⟩
  · intro p e s m args below meth c D cA ad Ret C hr hlocks as σ has hσ h
    obtain ⟨k0, k1, x2, rfl⟩ := pX4_readOrders h
    exact vX4_readOrders (rX4_readOrders_0 C hr hlocks) (rX4_readOrders_11 C hr hlocks) (rX4_readOrders_29 C hr hlocks) k0 k1 x2 σ (has _ (List.mem_of_getElem? (i := 0) rfl)).1 (has _ (List.mem_of_getElem? (i := 1) rfl)).1 (has _ (List.mem_of_getElem? (i := 2) rfl)) hσ h
