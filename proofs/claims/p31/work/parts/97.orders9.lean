/-! orders, asked of the program -/
def q_eo (E : Nat → Int) (c : Nat) (n : Int) : Prop := ∀ i, i < c → (0 ≤ E (3 * i) ∧ E (3 * i) ≤ 7) ∧ (0 ≤ E (3 * i + 1) ∧ E (3 * i + 1) < n) ∧ (0 ≤ E (3 * i + 2) ∧ E (3 * i + 2) ≤ 100) ∧ (E (3 * i) = 2 → E (3 * i + 2) ≤ 7)
theorem q_oa_ok {b : Nat → Int} {T : Nat} {n : Int} {p c : Nat} {E : Nat → Int} (hn : 1 ≤ n) (h : q_eo E c n) : q_eo (q_oa b T n p c E).2.2.2 (q_oa b T n p c E).2.2.1 n := by
  unfold q_oa
  by_cases c0 : q_ord b T p < 0
  · rw [if_pos c0]; exact h
  · rw [if_neg c0]
    by_cases c1 : 12 ≤ c
    · rw [if_pos c1]; exact h
    · rw [if_neg c1]
      have oi := q_ord_in (b := b) (T := T) (p := p)
      have h1 : 0 ≤ (q_o1 b T p n).1 ∧ (q_o1 b T p n).1 < n := by
        unfold q_o1
        by_cases e : q_ord b T p = 6 ∨ q_ord b T p = 7
        · rw [if_pos e]; dsimp only; omega
        · rw [if_neg e]
          have := q_pn_rg (b := b) (T := T) (p := q_te b T p) (f := 0) (lo := 0) (hi := n - 1) (by omega)
          omega
      have h2 : (0 ≤ (q_o2 b T p n).1 ∧ (q_o2 b T p n).1 ≤ 100) ∧ (q_ord b T p = 2 → (q_o2 b T p n).1 ≤ 7) := by
        unfold q_o2
        by_cases e : q_ord b T p = 0 ∨ q_ord b T p = 1
        · rw [if_pos e]
          have := q_pn_rg (b := b) (T := T) (p := (q_o1 b T p n).2.1) (f := (q_o1 b T p n).2.2) (lo := 1) (hi := 89) (by omega)
          omega
        · rw [if_neg e]
          by_cases e2 : q_ord b T p = 2
          · rw [if_pos e2]
            have := q_pn_rg (b := b) (T := T) (p := (q_o1 b T p n).2.1) (f := (q_o1 b T p n).2.2) (lo := 0) (hi := 7) (by omega)
            omega
          · rw [if_neg e2]; dsimp only; omega
      dsimp only
      intro i hi
      by_cases e : i = c
      · subst e
        have v0 : q_dO i E (q_ord b T p) (q_o1 b T p n).1 (q_o2 b T p n).1 (3 * i) = q_ord b T p := by unfold q_dO; rw [q_d1_ne (by omega), q_d1_ne (by omega), q_d1_eq]
        have v1 : q_dO i E (q_ord b T p) (q_o1 b T p n).1 (q_o2 b T p n).1 (3 * i + 1) = (q_o1 b T p n).1 := by unfold q_dO; rw [q_d1_ne (by omega), q_d1_eq]
        have v2 : q_dO i E (q_ord b T p) (q_o1 b T p n).1 (q_o2 b T p n).1 (3 * i + 2) = (q_o2 b T p n).1 := by unfold q_dO; rw [q_d1_eq]
        rw [v0, v1, v2]
        exact ⟨by omega, h1, h2.1, h2.2⟩
      · have v : ∀ j, j < 3 * c → q_dO c E (q_ord b T p) (q_o1 b T p n).1 (q_o2 b T p n).1 j = E j := fun j hj => by unfold q_dO; rw [q_d1_ne (by omega), q_d1_ne (by omega), q_d1_ne (by omega)]
        rw [v _ (by omega), v _ (by omega), v _ (by omega)]
        exact h i (by omega)
theorem q_ol_ok {b : Nat → Int} {T : Nat} {n : Int} (hn : 1 ≤ n) : ∀ (d p c : Nat) (E : Nat → Int), q_eo E c n → q_eo (q_ol b T n d p c E).2.2.2 (q_ol b T n d p c E).2.2.1 n
  | 0, _, _, _, h => h
  | d + 1, p, c, E, h => by
    have a := q_oa_ok (b := b) (T := T) (p := p) hn h
    rw [q_ol]
    split
    · exact q_ol_ok hn d _ _ _ a
    · exact a
theorem q_ol_c {b : Nat → Int} {T : Nat} {n : Int} : ∀ (d p c : Nat) (E : Nat → Int), c ≤ 12 → (q_ol b T n d p c E).2.2.1 ≤ 12
  | 0, _, _, _, h => h
  | d + 1, p, c, E, h => by
    have a : (q_oa b T n p c E).2.2.1 ≤ 12 := by
      unfold q_oa
      split
      · exact h
      · split
        · exact h
        · dsimp only; omega
    rw [q_ol]
    split
    · exact q_ol_c d _ _ _ a
    · exact a
def q_oo2 (τ : zM) : Nat × Int × Nat × (Nat → Int) := q_or (q_by (τ 97) (τ 89 12).toNat) (τ 89 12).toNat (τ 93 0)
theorem q_oo2_ok {τ : zM} (h : 1 ≤ τ 93 0) : q_eo (q_oo2 τ).2.2.2 (q_oo2 τ).2.2.1 (τ 93 0) ∧ (q_oo2 τ).2.2.1 ≤ 12 := ⟨q_ol_ok h _ _ _ _ (fun i hi => absurd hi (by omega)), q_ol_c _ _ _ _ (by omega)⟩
def q_dds (E D O : Nat → Int) : Nat → (Nat → Int) × (Nat → Int)
  | 0 => (D, O)
  | n + 1 => (q_ddD (q_dds E D O n).1 (E (3 * n)) (E (3 * n + 1)).toNat (E (3 * n + 2)), q_ddO (q_dds E D O n).1 (q_dds E D O n).2 (E (3 * n)) (E (3 * n + 1)).toNat (E (3 * n + 2)))
theorem q_dds_ok {E D O : Nat → Int} {h : Int} {c : Nat} (w : q_Wok D O h) (e : q_eo E c (D 0)) (hc : D 5 + (c : Int) ≤ 60) : ∀ n, n ≤ c → q_Wok (q_dds E D O n).1 (q_dds E D O n).2 h ∧ (q_dds E D O n).1 0 = D 0 ∧ (q_dds E D O n).1 5 = D 5 + n
  | 0, _ => ⟨w, rfl, (Int.add_zero _).symm⟩
  | n + 1, hn => by
    obtain ⟨i1, i2, i3⟩ := q_dds_ok w e hc n (by omega)
    obtain ⟨e1, e2, e3, e4⟩ := e n (by omega)
    have z := q_ddD_0 (D := (q_dds E D O n).1) (n := E (3 * n + 2)) (t := (E (3 * n + 1)).toNat) e1
    rw [q_dds]
    refine ⟨q_Wok_dd i1 e1 (by rw [i2]; omega) (by rw [i3]; omega) (fun q => ⟨e3.1, e4 q⟩), by dsimp only; rw [z.1, i2], by dsimp only; rw [z.2, i3]; omega⟩
theorem q_W_carries {σ : zM} {E D O : Nat → Int} {h : Int} {c : Nat} (ww : q_W σ 8 D O h) (w : q_Wok D O h) (e : q_eo E c (D 0)) (hc : D 5 + (c : Int) ≤ 60) (t : q_to σ 76 c E) : ∀ n, n ≤ c → q_W (q_carries σ 8 76 n) 8 (q_dds E D O n).1 (q_dds E D O n).2 h
  | 0, _ => ww
  | n + 1, hn => by
    have ih := q_W_carries ww w e hc t n (by omega)
    obtain ⟨i1, i2, i3⟩ := q_dds_ok w e hc n (by omega)
    obtain ⟨e1, e2, e3, e4⟩ := e n (by omega)
    obtain ⟨t1, t2, t3⟩ := t.2.2 n (by omega)
    rw [q_carries, q_dds]
    simp only [Nat.reduceAdd] at t1 t2 t3 ⊢
    rw [t1, t2, t3]
    exact q_W_carry ih i1.1 e1 (by rw [i2]; omega) (by rw [i3]; omega) (fun q => ⟨e3.1, e4 q⟩)
def q_gOrders (τ : zM) : Int := if τ 89 7 = 0 then -1000002 else if ¬ (q_oo2 τ).2.1 = 0 then -1000100 - (q_ts (q_by (τ 97) (τ 89 12).toNat) (τ 89 12).toNat (q_oo2 τ).1 : Int) else if 60 < τ 93 5 + ((q_oo2 τ).2.2.1 : Int) then -1000003 else τ 93 5 + ((q_oo2 τ).2.2.1 : Int)
def q_fOrders (τ : zM) : zM := if τ 89 7 = 0 then τ else if ¬ (q_oo2 τ).2.1 = 0 then z_up (z_up τ 89 12 0) 89 13 (q_oo2 τ).2.1 else if 60 < τ 93 5 + ((q_oo2 τ).2.2.1 : Int) then z_up τ 89 12 0 else q_set (q_set (z_up τ 89 12 0) 93 (q_dds (q_oo2 τ).2.2.2 (τ 93) (τ 95) (q_oo2 τ).2.2.1).1) 95 (q_dds (q_oo2 τ).2.2.2 (τ 93) (τ 95) (q_oo2 τ).2.2.1).2
def SX9_orders : zS := fun as σ Ret => match as with
  | [.inr (.inr (9, 0, _))] => q_S9 q_gOrders q_fOrders σ Ret
  | _ => False
def tX9_orders_0 (X : Nat → zB) (Ret : zR) (L : zL) (st : List zV) (σ : zM) : Prop := (z_aload 0 (z_getr 9 8 8 0 (z_geti 8 7 (z_ifne (z_aload 0 (z_getr 9 1 4 0 (z_aload 0 (z_getr 9 76 2 0 (z_aload 0 (z_getr 9 8 8 0 (z_getr 8 1 6 0 (z_geti 6 6 (z_cv2 4 SX4_readOrders (z_aload 0 (z_getr 9 1 4 0 (z_push 0 (z_puti 4 1 (z_aload 0 (z_getr 9 1 4 0 (z_geti 4 3 (z_ifeq (z_aload 0 (z_getr 9 76 2 0 (z_geti 2 3 (z_push 60 (z_aload 0 (z_getr 9 8 8 0 (z_getr 8 12 2 0 (z_geti 2 3 (z_isub (z_icle (z_aload 0 (z_getr 9 8 8 0 (z_aload 0 (z_getr 9 76 2 0 (z_cv1 8 SX8_carryOutAll (z_aload 0 (z_getr 9 8 8 0 (z_getr 8 12 2 0 (z_geti 2 3 (z_iret Ret)))))))))) (z_push (-1000003) (z_iret Ret)))))))))))) (z_aload 0 (z_cv0 9 SX9_faulted (z_iret Ret)))))))))))))))))))) (z_push (-1000002) (z_iret Ret)))))) L st σ
theorem pX9_orders {as : List zV} {σ : zM} {Ret : zR} (h : SX9_orders as σ Ret) : ∃ (k0 : Nat), as = [.inr (.inr (9, 0, k0))] := by
  unfold SX9_orders at h
  split at h
  · exact ⟨_, rfl⟩
  · exact h.elim
set_option maxRecDepth 10000 in
set_option maxHeartbeats 4000000 in
theorem vX9_orders {X : Nat → zB} {Ret : zR} (h0 : ∀ L st σ, tX9_orders_0 X Ret L st σ → X 0 L st σ) (k0 : Nat) (σ : zM) (hk0 : z_kd k0 = (9, 0)) (hσ : z_okm σ) (h : SX9_orders [.inr (.inr (9, 0, k0))] σ Ret) : X 0 [some (.inr (.inr (9, 0, k0)))] [] σ := by
  obtain ⟨⟨R, m⟩, h⟩ := h
  obtain rfl := z_kd9 hk0
  have tp := R.2.2.1
  have tk : q_tpok σ := m.2.2.2.1
  have sm := q_rtape_sim tp tk
  have t1 : σ 1 1 = σ 89 12 := tp.1
  have t2 := tk.1
  have WW := R.2.2.2.2.1
  have W3 := WW.2.2
  have Wk := m.2.1
  have K := Wk.1
  have K0 := K.1.1
  have K5 := K.1.2.2.2.2
  have W0 : σ 9 6 = σ 93 0 := WW.1.1.1.1
  have W5 : σ 20 3 = σ 93 5 := WW.1.1.2.2.2.2.2.1
  by_cases c1 : σ 89 7 = 0
  · have fin := h σ (fun _ _ => rfl) (by unfold q_fOrders; rw [if_pos c1]; exact R)
    simp only [q_gOrders, if_pos c1] at fin
    rw [c1] at W3
    refine h0 _ _ _ ?_
    simp only [z_push, z_lpush, z_iload, z_lload, z_aload, z_istore, z_istoreP, z_lstore, z_astore, z_iinc, z_iincP, z_iadd, z_isub, z_imul, z_iaddW, z_isubW, z_imulW, z_idiv, z_irem, z_iand, z_ior, z_ixor, z_ishl, z_ishr, z_iushr, z_ineg, z_i2l, z_i2b, z_i2s, z_i2c, z_l2i, z_ladd, z_lsub, z_land, z_lor, z_lshl, z_lshr, z_lcmp, z_dup, z_pop, z_dup2, z_goto, z_tsw, z_cases, z_geti, z_getr, z_puti, z_putz, z_ald, z_iast, z_bast, z_zast, z_alen, z_acopy, z_mmax, z_mmin, z_mabs, z_mabsL, z_iret, z_zret, z_nret, z_lret, z_aret, z_vret, z_cat, z_xald, z_xlen, z_ldcs, z_strv, z_strc, z_gcs, z_gfm, z_sln, z_sald, z_ifeq, z_ifne, z_iflt, z_ifge, z_ifgt, z_ifle, z_iceq, z_icne, z_iclt, z_icge, z_icgt, z_icle, z_cs0, z_cs1, z_cs2, z_cs3, z_cs4, z_cs5, z_cs6, z_cs7, z_cv0, z_cv1, z_cv2, z_cv3, z_cv4, z_cv5, z_cv6, z_cv7, z_g0, z_s0, z_g1, z_s1, z_g2, z_s2, z_g3, z_s3, z_g4, z_s4, z_g5, z_s5, z_g6, z_s6, z_g7, z_s7, z_g8, z_s8, z_g9, z_s9, z_g10, z_s10, z_g11, z_s11, z_g12, z_s12, z_g13, z_s13, z_b0, z_b1, z_b0n, z_b1n, z_up_far1, z_up_far2, z_up_far3, z_up_far4, z_up_far5, z_up_far6, Classical.not_not, not_true_eq_false, z_in, z_inL, Int.cast_ofNat_Int, Nat.reduceLeDiff, List.length_cons, List.length_nil, Nat.reduceAdd, Nat.zero_add, Nat.le_refl, true_and, and_true, List.length, Nat.reduceLT, true_or, or_true, false_or, or_false, false_and, and_false, not_true_eq_false, not_false_eq_true, forall_const, false_implies, true_implies, Int.reduceEq, Int.reduceLT, Int.reduceLE, Int.reduceAdd, Int.reduceSub, Int.reduceMul, Int.reduceNeg, Int.reduceToNat, Int.toNat_natCast, ↓reduceIte, reduceIte, Nat.reduceEqDiff, Nat.reduceSub, Nat.reduceMul, ne_eq, Int.zero_add, Int.add_zero, Int.sub_zero, Nat.add_zero, Int.ofNat_eq_natCast, tX9_orders_0, W3]
    repeat' (first | (intro _) | (with_reducible assumption) | (refine And.intro ?_ ?_))
    all_goals first | omega | assumption | (refine z_fin fin ?_ rfl; first | rfl | omega | (split <;> omega) | (split <;> split <;> omega)) | skip
  have n1 : 1 ≤ σ 93 0 := Wk.2.2.2 (by have := Wk.2.2.1; omega)
  have ok := q_oo2_ok (τ := σ) n1
  obtain ⟨T, hT⟩ := z_nat t2.1
  have ew : q_or (q_by (σ 2) T) T (σ 93 0) = q_oo2 σ := by
    unfold q_oo2
    rw [hT, Int.toNat_natCast] at sm ⊢
    exact sm.or _
  have ets : ∀ p, q_ts (q_by (σ 2) T) T p = q_ts (q_by (σ 97) (σ 89 12).toNat) (σ 89 12).toNat p := by
    intro p
    rw [hT, Int.toNat_natCast] at sm ⊢
    exact sm.ts p
  refine h0 _ _ _ ?_
  simp only [z_push, z_lpush, z_iload, z_lload, z_aload, z_istore, z_istoreP, z_lstore, z_astore, z_iinc, z_iincP, z_iadd, z_isub, z_imul, z_iaddW, z_isubW, z_imulW, z_idiv, z_irem, z_iand, z_ior, z_ixor, z_ishl, z_ishr, z_iushr, z_ineg, z_i2l, z_i2b, z_i2s, z_i2c, z_l2i, z_ladd, z_lsub, z_land, z_lor, z_lshl, z_lshr, z_lcmp, z_dup, z_pop, z_dup2, z_goto, z_tsw, z_cases, z_geti, z_getr, z_puti, z_putz, z_ald, z_iast, z_bast, z_zast, z_alen, z_acopy, z_mmax, z_mmin, z_mabs, z_mabsL, z_iret, z_zret, z_nret, z_lret, z_aret, z_vret, z_cat, z_xald, z_xlen, z_ldcs, z_strv, z_strc, z_gcs, z_gfm, z_sln, z_sald, z_ifeq, z_ifne, z_iflt, z_ifge, z_ifgt, z_ifle, z_iceq, z_icne, z_iclt, z_icge, z_icgt, z_icle, z_cs0, z_cs1, z_cs2, z_cs3, z_cs4, z_cs5, z_cs6, z_cs7, z_cv0, z_cv1, z_cv2, z_cv3, z_cv4, z_cv5, z_cv6, z_cv7, z_g0, z_s0, z_g1, z_s1, z_g2, z_s2, z_g3, z_s3, z_g4, z_s4, z_g5, z_s5, z_g6, z_s6, z_g7, z_s7, z_g8, z_s8, z_g9, z_s9, z_g10, z_s10, z_g11, z_s11, z_g12, z_s12, z_g13, z_s13, z_b0, z_b1, z_b0n, z_b1n, z_up_far1, z_up_far2, z_up_far3, z_up_far4, z_up_far5, z_up_far6, Classical.not_not, not_true_eq_false, z_in, z_inL, Int.cast_ofNat_Int, Nat.reduceLeDiff, List.length_cons, List.length_nil, Nat.reduceAdd, Nat.zero_add, Nat.le_refl, true_and, and_true, List.length, Nat.reduceLT, true_or, or_true, false_or, or_false, false_and, and_false, not_true_eq_false, not_false_eq_true, forall_const, false_implies, true_implies, Int.reduceEq, Int.reduceLT, Int.reduceLE, Int.reduceAdd, Int.reduceSub, Int.reduceMul, Int.reduceNeg, Int.reduceToNat, Int.toNat_natCast, ↓reduceIte, reduceIte, Nat.reduceEqDiff, Nat.reduceSub, Nat.reduceMul, ne_eq, Int.zero_add, Int.add_zero, Int.sub_zero, Nat.add_zero, Int.ofNat_eq_natCast, tX9_orders_0, SX4_readOrders, SX9_faulted, SX8_carryOutAll, W3, c1, W0, t1, hT]
  refine fun _ _ => ⟨⟨by omega, by omega⟩, fun σ1 f1 rs tt => ?_⟩
  rw [ew] at rs tt
  obtain ⟨r1, r2, r3, ⟨a1, a2, a3, a4⟩, r5, r6⟩ := rs
  have hts := q_ts_in (b := q_by (σ 2) T) r5
  have i13 : z_up σ1 1 1 0 1 3 = σ1 1 3 := z_up_ne (by omega)
  have i12 : z_up σ1 1 1 0 1 2 = σ1 1 2 := z_up_ne (by omega)
  have i76 : z_up σ1 1 1 0 76 3 = ((q_oo2 σ).2.2.1 : Int) := by rw [z_up_ne (by omega)]; exact tt.1
  have i20 : z_up σ1 1 1 0 20 3 = σ 93 5 := by rw [z_up_ne (by omega), f1 _ _ (by omega) (by omega)]; exact W5
  have p1 : ∀ c j, ¬ (c = 1 ∨ 76 ≤ c ∧ c ≤ 79) → z_up σ1 1 1 0 c j = σ c j := fun c j hc => by rw [z_up_ne (by omega), f1 c j (by omega) (by omega)]
  have gg : ∀ σ2 : zM, (∀ c, 89 ≤ c → σ2 c = σ c) → q_oo2 σ2 = q_oo2 σ ∧ q_gOrders σ2 = q_gOrders σ := by
    intro σ2 e2
    have e1 : q_oo2 σ2 = q_oo2 σ := by unfold q_oo2; rw [e2 97 (by omega), e2 89 (by omega), e2 93 (by omega)]
    refine ⟨e1, ?_⟩
    unfold q_gOrders
    rw [e1, e2 97 (by omega), e2 89 (by omega), e2 93 (by omega)]
  rw [i13, i12, i76, i20, r6]
  have tape0 : ∀ σ2 : zM, σ2 1 1 = 0 → ∀ τ2 : zM, τ2 89 12 = 0 → q_rtape σ2 τ2 := fun σ2 e1 τ2 e2 => ⟨by rw [e1, e2], fun j hj => by rw [e2] at hj; omega⟩
  have o7 : ¬ σ 89 7 = 0 := c1
  by_cases cf : (q_oo2 σ).2.1 = 0
  · refine fun _ => ⟨fun _ _ _ => ⟨by omega, fun e => ?_, fun e => ?_⟩, fun e => absurd cf e⟩
    · -- carried out
      have hc60 : σ 93 5 + ((q_oo2 σ).2.2.1 : Int) ≤ 60 := by omega
      generalize hB : z_up σ1 1 1 0 = B at p1 i76 i20
      have e9 : ∀ c, 89 ≤ c → B c = σ c := fun c hc => funext fun j => p1 c j (by omega)
      have tB : q_to B 76 (q_oo2 σ).2.2.1 (q_oo2 σ).2.2.2 := by
        subst hB
        exact tt.fr (fun a j h1 h2 => z_up_ne (by omega))
      have WB : q_W B 8 (σ 93) (σ 95) (σ 89 7) := q_W_cg WW (fun c j h1 h2 => p1 c j (by omega))
      have WB0 : B 9 6 = σ 93 0 := by rw [p1 _ _ (by omega)]; exact W0
      have cs : q_csok B 8 76 := by
        refine ⟨by omega, by rw [i76]; omega, fun i hi => ?_, by simp only [Nat.reduceAdd]; rw [WB0]; omega, by simp only [Nat.reduceAdd]; rw [i20, i76]; omega, fun t ht => ?_⟩
        · rw [i76] at hi
          obtain ⟨q1, q2, q3⟩ := tB.2.2 i (by omega)
          obtain ⟨e1, e2, e3, e4⟩ := ok.1 i (by omega)
          simp only [Nat.reduceAdd] at q1 q2 q3 ⊢
          rw [q1, q2, q3, WB0]
          exact ⟨e1, e2, e3⟩
        · simp only [Nat.reduceAdd] at ht ⊢
          rw [WB0] at ht
          have T0 : B 10 t = σ 93 (6 + 6 * t + 0) := WB.1.2.1 t 0 ht (by omega)
          rw [T0]
          have := K.2.1 t ht
          omega
      have iv := q_carries_inv cs (q_oo2 σ).2.2.1 (by rw [i76]; omega)
      have w2 := q_W_carries WB Wk ok.1 hc60 tB (q_oo2 σ).2.2.1 (Nat.le_refl _)
      rw [Int.toNat_natCast]
      refine ⟨cs, fun _ => ?_⟩
      have iv2 := iv.2.1
      simp only [Nat.reduceAdd] at iv2
      have iv1 := iv.1
      generalize q_carries B 8 76 (q_oo2 σ).2.2.1 = σ2 at iv1 iv2 w2 ⊢
      have p2 : ∀ c j, ¬ (c = 1 ∨ 8 ≤ c ∧ c ≤ 24 ∨ 76 ≤ c ∧ c ≤ 79) → σ2 c j = σ c j := fun c j hc => by rw [iv1 c j (by omega), p1 c j (by omega)]
      have u9 : ∀ c, 89 ≤ c → σ2 c = σ c := fun c hc => funext fun j => p2 c j (by omega)
      have ef : q_fOrders σ2 = q_set (q_set (z_up σ2 89 12 0) 93 (q_dds (q_oo2 σ).2.2.2 (σ 93) (σ 95) (q_oo2 σ).2.2.1).1) 95 (q_dds (q_oo2 σ).2.2.2 (σ 93) (σ 95) (q_oo2 σ).2.2.1).2 := by
        unfold q_fOrders
        rw [(gg σ2 u9).1, u9 89 (by omega), u9 93 (by omega), u9 95 (by omega), if_neg c1, if_neg (by omega), if_neg (by omega)]
      have fin := h σ2 u9 (by
        rw [ef]
        obtain ⟨h1, ⟨h2, h3⟩, h4, h5, h6, h7⟩ := R
        have t : ∀ c j, 89 ≤ c → c ≠ 93 → c ≠ 95 → ¬ (c = 89 ∧ j = 12) → q_set (q_set (z_up σ2 89 12 0) 93 (q_dds (q_oo2 σ).2.2.2 (σ 93) (σ 95) (q_oo2 σ).2.2.1).1) 95 (q_dds (q_oo2 σ).2.2.2 (σ 93) (σ 95) (q_oo2 σ).2.2.1).2 c j = σ c j := fun c j hc h1 h2 h3 => by
          rw [q_set_ne h2, q_set_ne h1, z_up_ne (by omega), u9 c hc]
        refine ⟨q_rrow_cg h1 (fun c j a1 a2 => p2 c j (by omega)) (fun c j a1 a2 => t c j (by omega) (by omega) (by omega) (by omega)), ⟨?_, ?_⟩, tape0 _ ?_ _ ?_, q_rtr_cg h5 (p2 _ _ (by omega)) (fun j => p2 _ _ (by omega)) (t _ _ (by omega) (by omega) (by omega) (by omega)) (fun j => t _ _ (by omega) (by omega) (by omega) (by omega)), ?_, q_rimg_cg h7 (fun c j a1 a2 => p2 c j (by omega)) (fun c j a1 a2 => t c j (by omega) (by omega) (by omega) (by omega))⟩
        · rw [p2 _ _ (by omega), t _ _ (by omega) (by omega) (by omega) (by omega)]; exact h2
        · rw [p2 _ _ (by omega), t _ _ (by omega) (by omega) (by omega) (by omega)]; exact h3
        · rw [iv1 _ _ (by omega), ← hB, z_up_eq]
        · rw [q_set_ne (by omega), q_set_ne (by omega), z_up_eq]
        · unfold q_rwood
          rw [q_set_eq, q_set_ne (show 93 ≠ 95 by omega), q_set_eq, q_set_ne (show 89 ≠ 95 by omega), q_set_ne (show 89 ≠ 93 by omega), z_up_ne (by omega), u9 89 (by omega)]
          exact w2)
      rw [(gg σ2 u9).2] at fin
      unfold q_gOrders at fin
      rw [if_neg c1, if_neg (by omega), if_neg (by omega)] at fin
      rw [iv2, i20]
      exact fin
    · -- no room
      generalize hB : z_up σ1 1 1 0 = B at p1 i76 i20
      have u9 : ∀ c, 89 ≤ c → B c = σ c := fun c hc => funext fun j => p1 c j (by omega)
      have ef : q_fOrders B = z_up B 89 12 0 := by
        unfold q_fOrders
        rw [(gg B u9).1, u9 89 (by omega), u9 93 (by omega), if_neg c1, if_neg (by omega), if_pos (by omega)]
      have fin := h B u9 (by
        rw [ef]
        refine q_R2_tape R (tape0 _ ?_ _ z_up_eq) ?_ (fun c j h1 h2 => ?_) (fun c j h1 h2 h3 => ?_)
        · rw [← hB, z_up_eq]
        · rw [z_up_ne (by omega), p1 _ _ (by omega), u9 89 (by omega)]; exact R.2.1.2
        · unfold q_lastP at h1
          exact p1 c j (by omega)
        · rw [z_up_ne (by omega), u9 c h1])
      rw [(gg B u9).2] at fin
      unfold q_gOrders at fin
      rw [if_neg c1, if_neg (by omega), if_pos (by omega)] at fin
      exact fin
  · refine fun _ => ⟨fun e => absurd e cf, fun _ => ?_⟩
    rw [a1]
    refine ⟨by omega, ?_⟩
    generalize hB : z_up σ1 1 1 0 = B at p1 i76 i20
    have p : ∀ c j, ¬ (c = 1 ∨ 76 ≤ c ∧ c ≤ 79 ∨ (c = 0 ∧ j = 11)) → z_up B 0 11 (q_oo2 σ).2.1 c j = σ c j := fun c j hc => by rw [z_up_ne (by omega), p1 c j (by omega)]
    have u9 : ∀ c, 89 ≤ c → z_up B 0 11 (q_oo2 σ).2.1 c = σ c := fun c hc => funext fun j => p c j (by omega)
    have e11 : z_up B 0 11 (q_oo2 σ).2.1 1 1 = 0 := by rw [z_up_ne (by omega), ← hB, z_up_eq]
    have e0 : z_up B 0 11 (q_oo2 σ).2.1 0 11 = (q_oo2 σ).2.1 := z_up_eq
    generalize z_up B 0 11 (q_oo2 σ).2.1 = σ2 at p u9 e11 e0 ⊢
    have ef : q_fOrders σ2 = z_up (z_up σ2 89 12 0) 89 13 (q_oo2 σ).2.1 := by
      unfold q_fOrders
      rw [(gg σ2 u9).1, u9 89 (by omega), if_neg c1, if_pos cf]
    have fin := h σ2 u9 (by
      rw [ef]
      refine q_R2_tape R (tape0 _ e11 _ (by rw [z_up_ne (by omega), z_up_eq])) (by rw [z_up_eq]; exact e0) (fun c j h1 h2 => ?_) (fun c j h1 h2 h3 => ?_)
      · unfold q_lastP at h1
        exact p c j (by omega)
      · rw [z_up_ne (by omega), z_up_ne (by omega), u9 c h1])
    rw [(gg σ2 u9).2] at fin
    unfold q_gOrders at fin
    rw [if_neg c1, if_pos cf, ← ets] at fin
    exact fin
theorem dX9_orders_0 : decode cX9_orders 0 = .ok (.aload_n 0, 1) := by decide +kernel
theorem dX9_orders_1 : decode cX9_orders 1 = .ok (.getfield 26, 3) := by decide +kernel
theorem dX9_orders_4 : decode cX9_orders 4 = .ok (.getfield 141, 3) := by decide +kernel
theorem dX9_orders_7 : decode cX9_orders 7 = .ok (.ifCond .ne 6, 3) := by decide +kernel
theorem dX9_orders_10 : decode cX9_orders 10 = .ok (.ldc 144, 2) := by decide +kernel
theorem dX9_orders_12 : decode cX9_orders 12 = .ok (.ireturn, 1) := by decide +kernel
theorem dX9_orders_13 : decode cX9_orders 13 = .ok (.aload_n 0, 1) := by decide +kernel
theorem dX9_orders_14 : decode cX9_orders 14 = .ok (.getfield 10, 3) := by decide +kernel
theorem dX9_orders_17 : decode cX9_orders 17 = .ok (.aload_n 0, 1) := by decide +kernel
theorem dX9_orders_18 : decode cX9_orders 18 = .ok (.getfield 42, 3) := by decide +kernel
theorem dX9_orders_21 : decode cX9_orders 21 = .ok (.aload_n 0, 1) := by decide +kernel
theorem dX9_orders_22 : decode cX9_orders 22 = .ok (.getfield 26, 3) := by decide +kernel
theorem dX9_orders_25 : decode cX9_orders 25 = .ok (.getfield 132, 3) := by decide +kernel
theorem dX9_orders_28 : decode cX9_orders 28 = .ok (.getfield 136, 3) := by decide +kernel
theorem dX9_orders_31 : decode cX9_orders 31 = .ok (.invokevirtual 145, 3) := by decide +kernel
theorem dX9_orders_34 : decode cX9_orders 34 = .ok (.aload_n 0, 1) := by decide +kernel
theorem dX9_orders_35 : decode cX9_orders 35 = .ok (.getfield 10, 3) := by decide +kernel
theorem dX9_orders_38 : decode cX9_orders 38 = .ok (.iconst 0, 1) := by decide +kernel
theorem dX9_orders_39 : decode cX9_orders 39 = .ok (.putfield 109, 3) := by decide +kernel
theorem dX9_orders_42 : decode cX9_orders 42 = .ok (.aload_n 0, 1) := by decide +kernel
theorem dX9_orders_43 : decode cX9_orders 43 = .ok (.getfield 10, 3) := by decide +kernel
theorem dX9_orders_46 : decode cX9_orders 46 = .ok (.getfield 122, 3) := by decide +kernel
theorem dX9_orders_49 : decode cX9_orders 49 = .ok (.ifCond .eq 8, 3) := by decide +kernel
theorem dX9_orders_52 : decode cX9_orders 52 = .ok (.aload_n 0, 1) := by decide +kernel
theorem dX9_orders_53 : decode cX9_orders 53 = .ok (.invokevirtual 125, 3) := by decide +kernel
theorem dX9_orders_56 : decode cX9_orders 56 = .ok (.ireturn, 1) := by decide +kernel
theorem dX9_orders_57 : decode cX9_orders 57 = .ok (.aload_n 0, 1) := by decide +kernel
theorem dX9_orders_58 : decode cX9_orders 58 = .ok (.getfield 42, 3) := by decide +kernel
theorem dX9_orders_61 : decode cX9_orders 61 = .ok (.getfield 149, 3) := by decide +kernel
theorem dX9_orders_64 : decode cX9_orders 64 = .ok (.bipush 60, 2) := by decide +kernel
theorem dX9_orders_66 : decode cX9_orders 66 = .ok (.aload_n 0, 1) := by decide +kernel
theorem dX9_orders_67 : decode cX9_orders 67 = .ok (.getfield 26, 3) := by decide +kernel
theorem dX9_orders_70 : decode cX9_orders 70 = .ok (.getfield 150, 3) := by decide +kernel
theorem dX9_orders_73 : decode cX9_orders 73 = .ok (.getfield 149, 3) := by decide +kernel
theorem dX9_orders_76 : decode cX9_orders 76 = .ok (.isub, 1) := by decide +kernel
theorem dX9_orders_77 : decode cX9_orders 77 = .ok (.if_icmp .le 6, 3) := by decide +kernel
theorem dX9_orders_80 : decode cX9_orders 80 = .ok (.ldc 113, 2) := by decide +kernel
theorem dX9_orders_82 : decode cX9_orders 82 = .ok (.ireturn, 1) := by decide +kernel
theorem dX9_orders_83 : decode cX9_orders 83 = .ok (.aload_n 0, 1) := by decide +kernel
theorem dX9_orders_84 : decode cX9_orders 84 = .ok (.getfield 26, 3) := by decide +kernel
theorem dX9_orders_87 : decode cX9_orders 87 = .ok (.aload_n 0, 1) := by decide +kernel
theorem dX9_orders_88 : decode cX9_orders 88 = .ok (.getfield 42, 3) := by decide +kernel
theorem dX9_orders_91 : decode cX9_orders 91 = .ok (.invokevirtual 153, 3) := by decide +kernel
theorem dX9_orders_94 : decode cX9_orders 94 = .ok (.aload_n 0, 1) := by decide +kernel
theorem dX9_orders_95 : decode cX9_orders 95 = .ok (.getfield 26, 3) := by decide +kernel
theorem dX9_orders_98 : decode cX9_orders 98 = .ok (.getfield 150, 3) := by decide +kernel
theorem dX9_orders_101 : decode cX9_orders 101 = .ok (.getfield 149, 3) := by decide +kernel
theorem dX9_orders_104 : decode cX9_orders 104 = .ok (.ireturn, 1) := by decide +kernel
set_option maxRecDepth 100000 in
theorem rX9_orders_0 {zx : zX} {zn : Nat} {p : Program} {l : Launch} {e : Env} {s : State} {m : MethodId} {args : Array Value} {below : List Frame} {meth : Method} {c : Code} {D : va_G} {cA : Nat → ClassId} {ad : Nat → Nat} {Ret : zR} (C : z_Cx zx zn (z_A zn ad) 0 0 p { frames := 8, cells := 0, slots := 0, locals := 176 } s m args c cX9_orders yX9_orders.cls 1 D cA ad) (hr : meth.sig.returnType = (some .int)) (hlocks : meth.locks = false) : ∀ L st σ, tX9_orders_0 (z_X zx zn (z_A zn ad) 0 0 p l e { frames := 8, cells := 0, slots := 0, locals := 176 } s m args below meth c (MQ below (z_Qc zn D cA ad Ret) args s 0 0 (z_A zn ad)) 1 D cA ad true) Ret L st σ → z_X zx zn (z_A zn ad) 0 0 p l e { frames := 8, cells := 0, slots := 0, locals := 176 } s m args below meth c (MQ below (z_Qc zn D cA ad Ret) args s 0 0 (z_A zn ad)) 1 D cA ad true 0 L st σ := (s_aload_n C dX9_orders_0 rfl (s_getr C dX9_orders_1 (j := 2) cls_X9 (by decide) rfl (by decide) (by decide) (by decide +kernel) wd_285 (s_geti C dX9_orders_4 cls_X8 (by decide) rfl wd_210 (s_ifne C dX9_orders_7 (by decide) (s_aload_n C dX9_orders_13 rfl (s_getr C dX9_orders_14 (j := 0) cls_X9 (by decide) rfl (by decide) (by decide) (by decide +kernel) wd_283 (s_aload_n C dX9_orders_17 rfl (s_getr C dX9_orders_18 (j := 6) cls_X9 (by decide) rfl (by decide) (by decide) (by decide +kernel) wd_289 (s_aload_n C dX9_orders_21 rfl (s_getr C dX9_orders_22 (j := 2) cls_X9 (by decide) rfl (by decide) (by decide) (by decide +kernel) wd_285 (s_getr C dX9_orders_25 (j := 0) cls_X8 (by decide) rfl (by decide) (by decide) (by decide +kernel) wd_195 (s_geti C dX9_orders_28 cls_X6 (by decide) rfl wd_126 (s_cv2 C dX9_orders_31 (okX4_readOrders l) cls_X4 wd_327 wd_328 wd_329 wd_18 wd_330 ⟨by decide, by decide, by decide +kernel⟩ ⟨by decide, by decide⟩ (s_aload_n C dX9_orders_34 rfl (s_getr C dX9_orders_35 (j := 0) cls_X9 (by decide) rfl (by decide) (by decide) (by decide +kernel) wd_283 (s_iconst C dX9_orders_38 rfl ⟨by decide, by decide⟩ (s_puti C dX9_orders_39 cls_X4 (by decide) rfl wd_49 rfl rfl (s_aload_n C dX9_orders_42 rfl (s_getr C dX9_orders_43 (j := 0) cls_X9 (by decide) rfl (by decide) (by decide) (by decide +kernel) wd_283 (s_geti C dX9_orders_46 cls_X4 (by decide) rfl wd_53 (s_ifeq C dX9_orders_49 (by decide) (s_aload_n C dX9_orders_57 rfl (s_getr C dX9_orders_58 (j := 6) cls_X9 (by decide) rfl (by decide) (by decide) (by decide +kernel) wd_289 (s_geti C dX9_orders_61 cls_X2 (by decide) rfl wd_182 (s_bipush C dX9_orders_64 rfl ⟨by decide, by decide⟩ (s_aload_n C dX9_orders_66 rfl (s_getr C dX9_orders_67 (j := 2) cls_X9 (by decide) rfl (by decide) (by decide) (by decide +kernel) wd_285 (s_getr C dX9_orders_70 (j := 2) cls_X8 (by decide) rfl (by decide) (by decide) (by decide +kernel) wd_200 (s_geti C dX9_orders_73 cls_X2 (by decide) rfl wd_182 (s_isub C dX9_orders_76 (s_icle C dX9_orders_77 (by decide) (s_aload_n C dX9_orders_83 rfl (s_getr C dX9_orders_84 (j := 2) cls_X9 (by decide) rfl (by decide) (by decide) (by decide +kernel) wd_285 (s_aload_n C dX9_orders_87 rfl (s_getr C dX9_orders_88 (j := 6) cls_X9 (by decide) rfl (by decide) (by decide) (by decide +kernel) wd_289 (s_cv1 C dX9_orders_91 (okX8_carryOutAll l) cls_X8 wd_449 wd_450 wd_451 wd_20 wd_452 ⟨by decide, by decide, by decide +kernel⟩ ⟨by decide, by decide⟩ (s_aload_n C dX9_orders_94 rfl (s_getr C dX9_orders_95 (j := 2) cls_X9 (by decide) rfl (by decide) (by decide) (by decide +kernel) wd_285 (s_getr C dX9_orders_98 (j := 2) cls_X8 (by decide) rfl (by decide) (by decide) (by decide +kernel) wd_200 (s_geti C dX9_orders_101 cls_X2 (by decide) rfl wd_182 (s_iret C dX9_orders_104 hr hlocks)))))))))) (s_ldc C dX9_orders_80 (v := -1000003) wd_448 ⟨by decide, by decide⟩ (s_iret C dX9_orders_82 hr hlocks)))))))))))) (s_aload_n C dX9_orders_52 rfl (s_cv0 C dX9_orders_53 (okX9_faulted l) cls_X9 wd_443 wd_445 wd_10 wd_17 wd_446 ⟨by decide, by decide, by decide +kernel⟩ ⟨by decide, by decide⟩ (s_iret C dX9_orders_56 hr hlocks)))))))))))))))))))) (s_ldc C dX9_orders_10 (v := -1000002) wd_326 ⟨by decide, by decide⟩ (s_iret C dX9_orders_12 hr hlocks))))))
theorem okX9_orders {zx : zX} {zn : Nat} (l : Launch) : z_OK zx zn l yX9_orders cX9_orders 1 (some .int) 8 176 SX9_orders := by
  refine z_ok_of true (by decide +kernel) ?_ ?_
  · intro as σ Ret h
    obtain ⟨k0, rfl⟩ := pX9_orders h
    exact ⟨Nat.le_of_ble_eq_true rfl, by simp⟩
  · intro p e s m args below meth c D cA ad Ret C hr hlocks as σ has hσ h
    obtain ⟨k0, rfl⟩ := pX9_orders h
    exact vX9_orders (rX9_orders_0 C hr hlocks) k0 σ (has _ (List.mem_of_getElem? (i := 0) rfl)).1 hσ h
