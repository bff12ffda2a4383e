/-! orders, asked of the model -/
def q_fio (b : Nat → Int) (T : Nat) (n : Int) (p : Nat) (f : Int) (c : Nat) (E : Nat → Int) : Nat × Int × Nat × (Nat → Int) := if f = 0 ∧ ¬ q_tk b T p = 0 then q_oo b T n p c E else (p, f, c, E)
theorem q_oo_S {b : Nat → Int} {T : Nat} {n : Int} {p c : Nat} {E : Nat → Int} (hp : p ≤ T) (hc : c ≤ 12) : q_oo b T n p c E = q_fio b T n (q_oa b T n p c E).1 (q_oa b T n p c E).2.1 (q_oa b T n p c E).2.2.1 (q_oa b T n p c E).2.2.2 := by
  unfold q_fio
  by_cases z : (q_oa b T n p c E).2.1 = 0 ∧ ¬ q_tk b T (q_oa b T n p c E).1 = 0
  · rw [if_pos z]
    exact q_oo_go hp hc z.1 z.2
  · rw [if_neg z]
    exact q_oo_end z
def SX10_orders : zS := fun as σ Ret => match as with
  | [.inr (.inr (10, 0, _))] => q_S10 q_gOrders q_fOrders σ Ret
  | _ => False
def tX10_orders_0 (X : Nat → zB) (Ret : zR) (L : zL) (st : List zV) (σ : zM) : Prop := (z_aload 0 (z_push 0 (z_puti 10 0 (z_aload 0 (z_geti 10 7 (z_ifne (z_aload 0 (z_cv0 10 SX10_begin (z_aload 0 (z_push 0 (z_puti 10 10 (z_aload 0 (z_cv0 10 SX10_name (z_cs1 SX10_orderOf (z_push (-1000000) (z_icne (X 41) (z_aload 0 (z_push 1 (z_cv1 10 SX10_bad (X 41)))))))))))))) (z_push (-1000002) (z_iret Ret)))))))) L st σ
def tX10_orders_41 (X : Nat → zB) (Ret : zR) (L : zL) (st : List zV) (σ : zM) : Prop := (z_aload 0 (z_cv0 10 SX10_name (z_cs1 SX10_orderOf (z_push (-1000000) (z_iceq (z_aload 0 (z_aload 0 (z_geti 10 10 (z_cv1 10 SX10_ends (z_istore 1 (z_iload 1 (z_ifge (z_aload 0 (z_getr 10 4 100 106 (z_push 5 (z_ald 0 (z_iload 1 (z_iadd (z_push 60 (z_icle (z_push 0 (z_istore 2 (X 93))) (z_push (-1000003) (z_iret Ret)))))))))) (z_iload 1 (z_iret Ret))))))))) (z_aload 0 (z_cv0 10 SX10_readOrder (z_goto (X 41))))))))) L st σ
def tX10_orders_93 (X : Nat → zB) (Ret : zR) (L : zL) (st : List zV) (σ : zM) : Prop := (z_iload 2 (z_iload 1 (z_icge (z_aload 0 (z_getr 10 4 100 106 (z_push 5 (z_ald 0 (z_iret Ret))))) (z_aload 0 (z_aload 0 (z_getr 10 7 100 36 (z_push 3 (z_iload 2 (z_imul (z_ald 0 (z_aload 0 (z_getr 10 7 100 36 (z_push 3 (z_iload 2 (z_imul (z_push 1 (z_iadd (z_ald 0 (z_aload 0 (z_getr 10 7 100 36 (z_push 3 (z_iload 2 (z_imul (z_push 2 (z_iadd (z_ald 0 (z_cv3 10 SX10_does (z_iinc 2 1 (z_goto (X 93)))))))))))))))))))))))))))))) L st σ
theorem pX10_orders {as : List zV} {σ : zM} {Ret : zR} (h : SX10_orders as σ Ret) : ∃ (k0 : Nat), as = [.inr (.inr (10, 0, k0))] := by
  unfold SX10_orders at h
  split at h
  · exact ⟨_, rfl⟩
  · exact h.elim
set_option maxRecDepth 10000 in
set_option maxHeartbeats 4000000 in
theorem vX10_orders {X : Nat → zB} {Ret : zR} (h0 : ∀ L st σ, tX10_orders_0 X Ret L st σ → X 0 L st σ) (h41 : ∀ L st σ, tX10_orders_41 X Ret L st σ → X 41 L st σ) (h93 : ∀ L st σ, tX10_orders_93 X Ret L st σ → X 93 L st σ) (k0 : Nat) (σ : zM) (hk0 : z_kd k0 = (10, 0)) (hσ : z_okm σ) (h : SX10_orders [.inr (.inr (10, 0, k0))] σ Ret) : X 0 [some (.inr (.inr (10, 0, k0))), none, none] [] σ := by
  obtain ⟨m, h⟩ := h
  obtain rfl := z_kd10 hk0
  have tk : q_tpok σ := m.2.2.2.1
  have Wk := m.2.1
  have K := Wk.1
  have K0 := K.1.1
  have K5 := K.1.2.2.2.2
  have e7 : z_up σ 89 0 0 89 7 = σ 89 7 := z_up_ne (by omega)
  by_cases c1 : σ 89 7 = 0
  · have fin := h (z_up σ 89 0 0) q_th.1 (by unfold q_fOrders; rw [if_pos c1]; exact q_th.2)
    simp only [q_gOrders, if_pos c1] at fin
    rw [c1] at e7
    refine h0 _ _ _ ?_
    simp only [z_push, z_lpush, z_iload, z_lload, z_aload, z_istore, z_istoreP, z_lstore, z_astore, z_iinc, z_iincP, z_iadd, z_isub, z_imul, z_iaddW, z_isubW, z_imulW, z_idiv, z_irem, z_iand, z_ior, z_ixor, z_ishl, z_ishr, z_iushr, z_ineg, z_i2l, z_i2b, z_i2s, z_i2c, z_l2i, z_ladd, z_lsub, z_land, z_lor, z_lshl, z_lshr, z_lcmp, z_dup, z_pop, z_dup2, z_goto, z_tsw, z_cases, z_geti, z_getr, z_puti, z_putz, z_ald, z_iast, z_bast, z_zast, z_alen, z_acopy, z_mmax, z_mmin, z_mabs, z_mabsL, z_iret, z_zret, z_nret, z_lret, z_aret, z_vret, z_cat, z_ldcs, z_strv, z_strc, z_gcs, z_gfm, z_sln, z_sald, z_ifeq, z_ifne, z_iflt, z_ifge, z_ifgt, z_ifle, z_iceq, z_icne, z_iclt, z_icge, z_icgt, z_icle, z_cs0, z_cs1, z_cs2, z_cs3, z_cs4, z_cs5, z_cs6, z_cs7, z_cv0, z_cv1, z_cv2, z_cv3, z_cv4, z_cv5, z_cv6, z_cv7, z_g0, z_s0, z_g1, z_s1, z_g2, z_s2, z_g3, z_s3, z_g4, z_s4, z_g5, z_s5, z_g6, z_s6, z_g7, z_s7, z_g8, z_s8, z_g9, z_s9, z_g10, z_s10, z_g11, z_s11, z_g12, z_s12, z_g13, z_s13, z_b0, z_b1, z_b0n, z_b1n, z_up_far1, z_up_far2, z_up_far3, z_up_far4, z_up_far5, z_up_far6, Classical.not_not, not_true_eq_false, z_in, z_inL, Int.cast_ofNat_Int, Nat.reduceLeDiff, List.length_cons, List.length_nil, Nat.reduceAdd, Nat.zero_add, Nat.le_refl, true_and, and_true, List.length, Nat.reduceLT, true_or, or_true, false_or, or_false, false_and, and_false, not_true_eq_false, not_false_eq_true, forall_const, false_implies, true_implies, Int.reduceEq, Int.reduceLT, Int.reduceLE, Int.reduceAdd, Int.reduceSub, Int.reduceMul, Int.reduceNeg, Int.reduceToNat, Int.toNat_natCast, ↓reduceIte, reduceIte, Nat.reduceEqDiff, Nat.reduceSub, Nat.reduceMul, ne_eq, Int.zero_add, Int.add_zero, Int.sub_zero, Nat.add_zero, Int.ofNat_eq_natCast, tX10_orders_0, e7]
    repeat' (first | (intro _) | (with_reducible assumption) | (refine And.intro ?_ ?_))
    all_goals first | omega | assumption | (refine z_fin fin ?_ rfl; first | rfl | omega | (split <;> omega) | (split <;> split <;> omega)) | skip
  have n1 : 1 ≤ σ 93 0 := Wk.2.2.2 (by have := Wk.2.2.1; omega)
  have ok := q_oo2_ok (τ := σ) n1
  obtain ⟨T, hT⟩ := z_nat tk.1.1
  have h1 : ∀ σ' : zM, (∀ c, c < 89 → σ' c = σ c) → (∀ c j, q_last c j → σ' c j = q_fOrders σ c j) → Ret (some (.inl (q_gOrders σ))) σ' := h
  unfold q_gOrders q_fOrders at h1
  rw [if_neg c1, if_neg c1] at h1
  have hr0 : q_oo2 σ = q_or (q_by (σ 97) T) T (σ 93 0) := by unfold q_oo2; rw [hT, Int.toNat_natCast]
  rw [hT, Int.toNat_natCast] at h1
  generalize hb : q_by (σ 97) T = b at h1 hr0
  generalize q_oo2 σ = r at h1 ok hr0
  have hb255 : ∀ i, i < T → 0 ≤ b i ∧ b i ≤ 255 := fun i hi => by
    rw [← hb]
    unfold q_by
    rw [if_pos hi]
    exact tk.2 i (by omega)
  have L93 : ∀ (d i : Nat) (σ1 : zM), i + d = r.2.2.1 → r.2.1 = 0 → σ 93 5 + (r.2.2.1 : Int) ≤ 60 → (∀ c j, ¬ (c = 89 ∧ (j = 0 ∨ j = 10 ∨ j = 12 ∨ 14 ≤ j ∧ j ≤ 20) ∨ c = 93 ∨ c = 95 ∨ c = 96) → σ1 c j = σ c j) → σ1 89 12 = 0 → (∀ j, j < 3 * r.2.2.1 → σ1 96 j = r.2.2.2 j) → σ1 93 = (q_dds r.2.2.2 (σ 93) (σ 95) i).1 → σ1 95 = (q_dds r.2.2.2 (σ 93) (σ 95) i).2 → X 93 [some (.inr (.inr (10, 0, 89))), some (.inl (r.2.2.1 : Int)), some (.inl (i : Int))] [] σ1 := by
    intro d
    induction d with
    | zero =>
      intro i σ1 hi hf h60 f1 e12 e96 e93 e95
      obtain rfl : i = r.2.2.1 := by omega
      have dd := q_dds_ok Wk ok.1 h60 r.2.2.1 (Nat.le_refl _)
      have fin := h1 σ1 (fun c hc => funext fun j => f1 c j (by omega)) (fun a j hc => by
        unfold q_last at hc
        rw [if_neg (by omega), if_neg (by omega)]
        by_cases a5 : a = 95
        · subst a5; rw [q_set_eq, e95]
        · rw [q_set_ne a5]
          by_cases a3 : a = 93
          · subst a3; rw [q_set_eq, e93]
          · rw [q_set_ne a3]
            by_cases e : a = 89 ∧ j = 12
            · obtain ⟨rfl, rfl⟩ := e
              rw [z_up_eq, e12]
            · rw [z_up_ne (by omega), f1 a j (by omega)])
      rw [if_neg (by omega), if_neg (by omega)] at fin
      have e5 : σ1 93 5 = σ 93 5 + (r.2.2.1 : Int) := by rw [e93]; exact dd.2.2
      refine h93 _ _ _ ?_
      simp only [z_push, z_lpush, z_iload, z_lload, z_aload, z_istore, z_istoreP, z_lstore, z_astore, z_iinc, z_iincP, z_iadd, z_isub, z_imul, z_iaddW, z_isubW, z_imulW, z_idiv, z_irem, z_iand, z_ior, z_ixor, z_ishl, z_ishr, z_iushr, z_ineg, z_i2l, z_i2b, z_i2s, z_i2c, z_l2i, z_ladd, z_lsub, z_land, z_lor, z_lshl, z_lshr, z_lcmp, z_dup, z_pop, z_dup2, z_goto, z_tsw, z_cases, z_geti, z_getr, z_puti, z_putz, z_ald, z_iast, z_bast, z_zast, z_alen, z_acopy, z_mmax, z_mmin, z_mabs, z_mabsL, z_iret, z_zret, z_nret, z_lret, z_aret, z_vret, z_cat, z_ldcs, z_strv, z_strc, z_gcs, z_gfm, z_sln, z_sald, z_ifeq, z_ifne, z_iflt, z_ifge, z_ifgt, z_ifle, z_iceq, z_icne, z_iclt, z_icge, z_icgt, z_icle, z_cs0, z_cs1, z_cs2, z_cs3, z_cs4, z_cs5, z_cs6, z_cs7, z_cv0, z_cv1, z_cv2, z_cv3, z_cv4, z_cv5, z_cv6, z_cv7, z_g0, z_s0, z_g1, z_s1, z_g2, z_s2, z_g3, z_s3, z_g4, z_s4, z_g5, z_s5, z_g6, z_s6, z_g7, z_s7, z_g8, z_s8, z_g9, z_s9, z_g10, z_s10, z_g11, z_s11, z_g12, z_s12, z_g13, z_s13, z_b0, z_b1, z_b0n, z_b1n, z_up_far1, z_up_far2, z_up_far3, z_up_far4, z_up_far5, z_up_far6, Classical.not_not, not_true_eq_false, z_in, z_inL, Int.cast_ofNat_Int, Nat.reduceLeDiff, List.length_cons, List.length_nil, Nat.reduceAdd, Nat.zero_add, Nat.le_refl, true_and, and_true, List.length, Nat.reduceLT, true_or, or_true, false_or, or_false, false_and, and_false, not_true_eq_false, not_false_eq_true, forall_const, false_implies, true_implies, Int.reduceEq, Int.reduceLT, Int.reduceLE, Int.reduceAdd, Int.reduceSub, Int.reduceMul, Int.reduceNeg, Int.reduceToNat, Int.toNat_natCast, ↓reduceIte, reduceIte, Nat.reduceEqDiff, Nat.reduceSub, Nat.reduceMul, ne_eq, Int.zero_add, Int.add_zero, Int.sub_zero, Nat.add_zero, Int.ofNat_eq_natCast, tX10_orders_93, e5]
      repeat' (first | (intro _) | (with_reducible assumption) | (refine And.intro ?_ ?_))
      all_goals first | omega | assumption | (refine z_fin fin ?_ rfl; first | rfl | omega | (split <;> omega) | (split <;> split <;> omega)) | skip
    | succ d ih =>
      intro i σ1 hi hf h60 f1 e12 e96 e93 e95
      obtain ⟨d1, d2, d3⟩ := q_dds_ok Wk ok.1 h60 i (by omega)
      obtain ⟨o1, o2, o3, o4⟩ := ok.1 i (by omega)
      have t0 : (3 * (i : Int)).toNat = 3 * i := by omega
      have t1 : (3 * (i : Int) + 1).toNat = 3 * i + 1 := by omega
      have t2 : (3 * (i : Int) + 2).toNat = 3 * i + 2 := by omega
      have v0 := e96 (3 * i) (by omega)
      have v1 := e96 (3 * i + 1) (by omega)
      have v2 := e96 (3 * i + 2) (by omega)
      have c12 := ok.2
      refine h93 _ _ _ ?_
      simp only [z_push, z_lpush, z_iload, z_lload, z_aload, z_istore, z_istoreP, z_lstore, z_astore, z_iinc, z_iincP, z_iadd, z_isub, z_imul, z_iaddW, z_isubW, z_imulW, z_idiv, z_irem, z_iand, z_ior, z_ixor, z_ishl, z_ishr, z_iushr, z_ineg, z_i2l, z_i2b, z_i2s, z_i2c, z_l2i, z_ladd, z_lsub, z_land, z_lor, z_lshl, z_lshr, z_lcmp, z_dup, z_pop, z_dup2, z_goto, z_tsw, z_cases, z_geti, z_getr, z_puti, z_putz, z_ald, z_iast, z_bast, z_zast, z_alen, z_acopy, z_mmax, z_mmin, z_mabs, z_mabsL, z_iret, z_zret, z_nret, z_lret, z_aret, z_vret, z_cat, z_ldcs, z_strv, z_strc, z_gcs, z_gfm, z_sln, z_sald, z_ifeq, z_ifne, z_iflt, z_ifge, z_ifgt, z_ifle, z_iceq, z_icne, z_iclt, z_icge, z_icgt, z_icle, z_cs0, z_cs1, z_cs2, z_cs3, z_cs4, z_cs5, z_cs6, z_cs7, z_cv0, z_cv1, z_cv2, z_cv3, z_cv4, z_cv5, z_cv6, z_cv7, z_g0, z_s0, z_g1, z_s1, z_g2, z_s2, z_g3, z_s3, z_g4, z_s4, z_g5, z_s5, z_g6, z_s6, z_g7, z_s7, z_g8, z_s8, z_g9, z_s9, z_g10, z_s10, z_g11, z_s11, z_g12, z_s12, z_g13, z_s13, z_b0, z_b1, z_b0n, z_b1n, z_up_far1, z_up_far2, z_up_far3, z_up_far4, z_up_far5, z_up_far6, Classical.not_not, not_true_eq_false, z_in, z_inL, Int.cast_ofNat_Int, Nat.reduceLeDiff, List.length_cons, List.length_nil, Nat.reduceAdd, Nat.zero_add, Nat.le_refl, true_and, and_true, List.length, Nat.reduceLT, true_or, or_true, false_or, or_false, false_and, and_false, not_true_eq_false, not_false_eq_true, forall_const, false_implies, true_implies, Int.reduceEq, Int.reduceLT, Int.reduceLE, Int.reduceAdd, Int.reduceSub, Int.reduceMul, Int.reduceNeg, Int.reduceToNat, Int.toNat_natCast, ↓reduceIte, reduceIte, Nat.reduceEqDiff, Nat.reduceSub, Nat.reduceMul, ne_eq, Int.zero_add, Int.add_zero, Int.sub_zero, Nat.add_zero, Int.ofNat_eq_natCast, tX10_orders_93, SX10_does, t0, t1, t2, v0, v1, v2, e93, e95]
      refine ⟨fun q => absurd q (by omega), fun _ => ⟨by omega, by omega, fun _ => ⟨by omega, by omega, by omega, fun _ => ⟨by omega, by omega, by omega, fun _ => ⟨⟨d1.1, o1, by rw [d2]; exact o2, o3, o4, by rw [d3]; omega⟩, fun σ2 f2 g93 g95 => ⟨by omega, ?_⟩⟩⟩⟩⟩⟩
      exact ih (i + 1) σ2 (by omega) hf h60 (fun c j hc => by rw [f2 c j (by omega) (by omega), f1 c j hc]) (by rw [f2 _ _ (by omega) (by omega)]; exact e12) (fun j hj => by rw [f2 _ _ (by omega) (by omega)]; exact e96 j hj) (by rw [g93, q_dds]) (by rw [g95, q_dds])
  have out : ∀ (p : Nat) (f : Int) (c : Nat) (E : Nat → Int) (σ1 : zM), ¬ (f = 0 ∧ ¬ q_ord b T p < 0) → q_fz (z_up (z_up σ 89 0 0) 89 12 0) σ1 ∨ (∀ c j, ¬ (c = 89 ∧ (j = 0 ∨ j = 10 ∨ j = 12 ∨ 14 ≤ j ∧ j ≤ 20) ∨ c = 96) → σ1 c j = σ c j) → (∀ c j, ¬ (c = 89 ∧ (j = 0 ∨ j = 10 ∨ j = 12 ∨ 14 ≤ j ∧ j ≤ 20) ∨ c = 96) → σ1 c j = σ c j) → σ1 89 12 = 0 → q_ms σ1 b T p f → (f = 0 → σ1 89 10 = (c : Int) ∧ c ≤ 12 ∧ ∀ j, j < 3 * c → σ1 96 j = E j) → (c ≤ 12) → q_fio b T (σ 93 0) p f c E = r → X 41 [some (.inr (.inr (10, 0, 89))), none, none] [] σ1 := by
    intro p f c E σ1 hno _ f1 e12 ms hE hc hq
    have hp := ms.2.2.2.2.2.1
    have fr := ms.2.2.2.2.2.2.2.1
    have hts := q_ts_in (b := b) hp
    have oo := q_oof_ord hb255 hp
    have nn : q_oof (if f = 0 then q_nm b T p else 0) = -1000000 := by
      by_cases f0 : f = 0
      · rw [if_pos f0, oo, if_pos (by
          by_cases z : q_ord b T p < 0
          · exact z
          · exact absurd ⟨f0, z⟩ hno)]
      · rw [if_neg f0]; rfl
    refine h41 _ _ _ ?_
    simp only [z_push, z_lpush, z_iload, z_lload, z_aload, z_istore, z_istoreP, z_lstore, z_astore, z_iinc, z_iincP, z_iadd, z_isub, z_imul, z_iaddW, z_isubW, z_imulW, z_idiv, z_irem, z_iand, z_ior, z_ixor, z_ishl, z_ishr, z_iushr, z_ineg, z_i2l, z_i2b, z_i2s, z_i2c, z_l2i, z_ladd, z_lsub, z_land, z_lor, z_lshl, z_lshr, z_lcmp, z_dup, z_pop, z_dup2, z_goto, z_tsw, z_cases, z_geti, z_getr, z_puti, z_putz, z_ald, z_iast, z_bast, z_zast, z_alen, z_acopy, z_mmax, z_mmin, z_mabs, z_mabsL, z_iret, z_zret, z_nret, z_lret, z_aret, z_vret, z_cat, z_ldcs, z_strv, z_strc, z_gcs, z_gfm, z_sln, z_sald, z_ifeq, z_ifne, z_iflt, z_ifge, z_ifgt, z_ifle, z_iceq, z_icne, z_iclt, z_icge, z_icgt, z_icle, z_cs0, z_cs1, z_cs2, z_cs3, z_cs4, z_cs5, z_cs6, z_cs7, z_cv0, z_cv1, z_cv2, z_cv3, z_cv4, z_cv5, z_cv6, z_cv7, z_g0, z_s0, z_g1, z_s1, z_g2, z_s2, z_g3, z_s3, z_g4, z_s4, z_g5, z_s5, z_g6, z_s6, z_g7, z_s7, z_g8, z_s8, z_g9, z_s9, z_g10, z_s10, z_g11, z_s11, z_g12, z_s12, z_g13, z_s13, z_b0, z_b1, z_b0n, z_b1n, z_up_far1, z_up_far2, z_up_far3, z_up_far4, z_up_far5, z_up_far6, Classical.not_not, not_true_eq_false, z_in, z_inL, Int.cast_ofNat_Int, Nat.reduceLeDiff, List.length_cons, List.length_nil, Nat.reduceAdd, Nat.zero_add, Nat.le_refl, true_and, and_true, List.length, Nat.reduceLT, true_or, or_true, false_or, or_false, false_and, and_false, not_true_eq_false, not_false_eq_true, forall_const, false_implies, true_implies, Int.reduceEq, Int.reduceLT, Int.reduceLE, Int.reduceAdd, Int.reduceSub, Int.reduceMul, Int.reduceNeg, Int.reduceToNat, Int.toNat_natCast, ↓reduceIte, reduceIte, Nat.reduceEqDiff, Nat.reduceSub, Nat.reduceMul, ne_eq, Int.zero_add, Int.add_zero, Int.sub_zero, Nat.add_zero, Int.ofNat_eq_natCast, tX10_orders_41, SX10_name, SX10_orderOf, SX10_ends]
    refine ⟨b, T, p, f, ms, fun _ _ => ⟨b, T, p, f, ms, fun z => ?_, fun σ2 f' z hf f2 e13 => ?_⟩, fun q => absurd nn q⟩
    · -- no fault
      unfold q_fio at hq
      rw [if_neg (fun q => q.2 z.2)] at hq
      obtain ⟨e10, -, e96⟩ := hE z.1
      have e93 : σ1 93 = σ 93 := funext fun j => f1 93 j (by omega)
      have e95 : σ1 95 = σ 95 := funext fun j => f1 95 j (by omega)
      have r1 : r.2.1 = 0 := by rw [← hq]; exact z.1
      have r2 : r.2.2.1 = c := by rw [← hq]
      have r3 : r.2.2.2 = E := by rw [← hq]
      rw [e10, e93]
      refine ⟨fun _ _ => ⟨by omega, fun q => ?_, fun q => ?_⟩, fun q => absurd q (by omega)⟩
      · have nx := L93 c 0 σ1 (by omega) r1 (by rw [r2]; omega) (fun a j hc => f1 a j (by omega)) e12 (fun j hj => by rw [r3]; exact e96 j (by rw [r2] at hj; exact hj)) e93 e95
        rw [r2] at nx
        exact nx
      · have fin := h1 σ1 (fun c hc => funext fun j => f1 c j (by omega)) (fun a j hc => by
          unfold q_last at hc
          rw [if_neg (by omega), if_pos (by rw [r2]; omega)]
          by_cases e : a = 89 ∧ j = 12
          · obtain ⟨rfl, rfl⟩ := e
            rw [z_up_eq, e12]
          · rw [z_up_ne (by omega), f1 a j (by omega)])
        rw [if_neg (by omega), if_pos (by rw [r2]; omega)] at fin
        exact fin
    · have rr : r.1 = p ∧ r.2.1 = f' := by
        unfold q_fio at hq
        by_cases c2 : f = 0 ∧ ¬ q_tk b T p = 0
        · rw [if_pos c2] at hq
          rw [if_pos c2.1] at hf
          have on : q_ord b T p < 0 := by
            by_cases z : q_ord b T p < 0
            · exact z
            · exact absurd ⟨c2.1, z⟩ hno
          rw [q_oo_S hp hc] at hq
          have e : q_oa b T (σ 93 0) p c E = (p, 1, c, E) := by unfold q_oa; rw [if_pos on]
          rw [e] at hq
          unfold q_fio at hq
          rw [if_neg (fun q => by have q : (1 : Int) = 0 := q.1; omega)] at hq
          rw [← hq, hf]
          exact ⟨rfl, rfl⟩
        · rw [if_neg c2] at hq
          have f0 : ¬ f = 0 := fun q => by
            by_cases z2 : q_tk b T p = 0
            · exact z ⟨q, z2⟩
            · exact c2 ⟨q, z2⟩
          rw [if_neg f0] at hf
          rw [← hq, hf]
          exact ⟨rfl, rfl⟩
      have nf : ¬ r.2.1 = 0 := by rw [rr.2, hf]; split <;> omega
      have fin := h1 σ2 (fun c hc => funext fun j => by rw [f2 c j (by omega), f1 c j (by omega)]) (fun a j hc => by
        unfold q_last at hc
        rw [if_pos nf]
        by_cases e : a = 89 ∧ j = 13
        · obtain ⟨rfl, rfl⟩ := e
          rw [z_up_eq, e13, rr.2]
        · rw [z_up_ne (by omega)]
          by_cases e2 : a = 89 ∧ j = 12
          · obtain ⟨rfl, rfl⟩ := e2
            rw [z_up_eq, f2 _ _ (by omega), e12]
          · rw [z_up_ne (by omega), f2 a j (by omega), f1 a j (by omega)])
      rw [if_pos nf, rr.1] at fin
      have T4 := ms.2.1
      refine ⟨fun q => absurd q (by omega), fun _ => fin⟩
  have L41 : ∀ (d p : Nat) (f : Int) (c : Nat) (E : Nat → Int) (σ1 : zM), (f = 0 → T - p < d) → (∀ c j, ¬ (c = 89 ∧ (j = 0 ∨ j = 10 ∨ j = 12 ∨ 14 ≤ j ∧ j ≤ 20) ∨ c = 96) → σ1 c j = σ c j) → σ1 89 12 = 0 → q_ms σ1 b T p f → (f = 0 → σ1 89 10 = (c : Int) ∧ c ≤ 12 ∧ ∀ j, j < 3 * c → σ1 96 j = E j) → c ≤ 12 → (f = 0 ∧ ¬ q_ord b T p < 0 → q_oo b T (σ 93 0) p c E = r) → (¬ (f = 0 ∧ ¬ q_ord b T p < 0) → q_fio b T (σ 93 0) p f c E = r) → X 41 [some (.inr (.inr (10, 0, 89))), none, none] [] σ1 := by
    intro d
    induction d with
    | zero =>
      intro p f c E σ1 hd f1 e12 ms hE hc HA HB
      have f0 : ¬ f = 0 := fun q => absurd (hd q) (by omega)
      exact out p f c E σ1 (fun q => f0 q.1) (Or.inr f1) f1 e12 ms hE hc (HB (fun q => f0 q.1))
    | succ d ih =>
      intro p f c E σ1 hd f1 e12 ms hE hc HA HB
      by_cases c0 : f = 0 ∧ ¬ q_ord b T p < 0
      · have hq := HA c0
        obtain ⟨rfl, on⟩ := c0
        have hp := ms.2.2.2.2.2.1
        obtain ⟨e10, -, e96⟩ := hE rfl
        have oo := q_oof_ord hb255 hp
        rw [if_neg on] at oo
        have oi := q_ord_in (b := b) (T := T) (p := p)
        have e93 : σ1 93 0 = σ 93 0 := f1 93 0 (by omega)
        have gi := q_oa_in (b := b) (n := σ 93 0) (E := E) hp hc
        rw [q_oo_S hp hc] at hq
        refine h41 _ _ _ ?_
        simp only [z_push, z_lpush, z_iload, z_lload, z_aload, z_istore, z_istoreP, z_lstore, z_astore, z_iinc, z_iincP, z_iadd, z_isub, z_imul, z_iaddW, z_isubW, z_imulW, z_idiv, z_irem, z_iand, z_ior, z_ixor, z_ishl, z_ishr, z_iushr, z_ineg, z_i2l, z_i2b, z_i2s, z_i2c, z_l2i, z_ladd, z_lsub, z_land, z_lor, z_lshl, z_lshr, z_lcmp, z_dup, z_pop, z_dup2, z_goto, z_tsw, z_cases, z_geti, z_getr, z_puti, z_putz, z_ald, z_iast, z_bast, z_zast, z_alen, z_acopy, z_mmax, z_mmin, z_mabs, z_mabsL, z_iret, z_zret, z_nret, z_lret, z_aret, z_vret, z_cat, z_ldcs, z_strv, z_strc, z_gcs, z_gfm, z_sln, z_sald, z_ifeq, z_ifne, z_iflt, z_ifge, z_ifgt, z_ifle, z_iceq, z_icne, z_iclt, z_icge, z_icgt, z_icle, z_cs0, z_cs1, z_cs2, z_cs3, z_cs4, z_cs5, z_cs6, z_cs7, z_cv0, z_cv1, z_cv2, z_cv3, z_cv4, z_cv5, z_cv6, z_cv7, z_g0, z_s0, z_g1, z_s1, z_g2, z_s2, z_g3, z_s3, z_g4, z_s4, z_g5, z_s5, z_g6, z_s6, z_g7, z_s7, z_g8, z_s8, z_g9, z_s9, z_g10, z_s10, z_g11, z_s11, z_g12, z_s12, z_g13, z_s13, z_b0, z_b1, z_b0n, z_b1n, z_up_far1, z_up_far2, z_up_far3, z_up_far4, z_up_far5, z_up_far6, Classical.not_not, not_true_eq_false, z_in, z_inL, Int.cast_ofNat_Int, Nat.reduceLeDiff, List.length_cons, List.length_nil, Nat.reduceAdd, Nat.zero_add, Nat.le_refl, true_and, and_true, List.length, Nat.reduceLT, true_or, or_true, false_or, or_false, false_and, and_false, not_true_eq_false, not_false_eq_true, forall_const, false_implies, true_implies, Int.reduceEq, Int.reduceLT, Int.reduceLE, Int.reduceAdd, Int.reduceSub, Int.reduceMul, Int.reduceNeg, Int.reduceToNat, Int.toNat_natCast, ↓reduceIte, reduceIte, Nat.reduceEqDiff, Nat.reduceSub, Nat.reduceMul, ne_eq, Int.zero_add, Int.add_zero, Int.sub_zero, Nat.add_zero, Int.ofNat_eq_natCast, tX10_orders_41, SX10_name, SX10_orderOf, SX10_readOrder]
        refine ⟨b, T, p, 0, ms, ?_⟩
        rw [if_pos rfl, oo]
        refine ⟨fun q => absurd q (by omega), fun _ => ⟨b, T, p, c, E, ⟨ms, on, ⟨e10, hc⟩, by rw [e93]; omega, e96⟩, fun σ2 p2 f2 fz ms2 ga gb gc => ?_⟩⟩
        rw [e93] at gb gc
        have f12 : ∀ c j, ¬ (c = 89 ∧ (j = 0 ∨ j = 10 ∨ j = 12 ∨ 14 ≤ j ∧ j ≤ 20) ∨ c = 96) → σ2 c j = σ c j := fun c j hc => by rw [fz c j (by omega) (by omega), f1 c j hc]
        have e12b : σ2 89 12 = 0 := by rw [fz _ _ (by omega) (by omega)]; exact e12
        by_cases c6 : c = 12
        · have e : q_oa b T (σ 93 0) p c E = (p, 3, c, E) := by unfold q_oa; rw [if_neg on, if_pos (by omega)]
          rw [e] at hq
          obtain ⟨rfl, rfl⟩ := ga c6
          exact ih p2 3 c E σ2 (fun q => by omega) f12 e12b ms2 (fun q => by omega) hc (fun q => by omega) (fun _ => hq)
        · have e : q_oa b T (σ 93 0) p c E = ((q_o3 b T p (σ 93 0)).1, (q_o3 b T p (σ 93 0)).2, c + 1, q_dO c E (q_ord b T p) (q_o1 b T p (σ 93 0)).1 (q_o2 b T p (σ 93 0)).1) := by unfold q_oa; rw [if_neg on, if_neg (by omega)]
          rw [e] at hq gi
          obtain ⟨rfl, rfl⟩ := gb (by omega)
          refine ih _ _ (c + 1) _ σ2 (fun q => by have g2 : p < (q_o3 b T p (σ 93 0)).1 := gi.2.1 q; have := hd rfl; have := ms2.2.2.2.2.2.1; omega) f12 e12b ms2 (fun z => by
            obtain ⟨g1, g2, g3⟩ := gc z
            exact ⟨by rw [g2]; rfl, by omega, g3⟩) (by omega) (fun q => ?_) (fun _ => hq)
          have hq2 := hq
          dsimp only at hq2
          unfold q_fio at hq2
          rw [if_pos ⟨q.1, q_ord_tk q.2⟩] at hq2
          exact hq2
      · exact out p f c E σ1 c0 (Or.inr f1) f1 e12 ms hE hc (HB c0)
  have a12 : z_up σ 89 0 0 89 12 = (T : Int) := by rw [z_up_ne (by omega)]; exact hT
  have a97 : z_up σ 89 0 0 97 = σ 97 := funext fun j => z_up_ne (by omega)
  refine h0 _ _ _ ?_
  simp only [z_push, z_lpush, z_iload, z_lload, z_aload, z_istore, z_istoreP, z_lstore, z_astore, z_iinc, z_iincP, z_iadd, z_isub, z_imul, z_iaddW, z_isubW, z_imulW, z_idiv, z_irem, z_iand, z_ior, z_ixor, z_ishl, z_ishr, z_iushr, z_ineg, z_i2l, z_i2b, z_i2s, z_i2c, z_l2i, z_ladd, z_lsub, z_land, z_lor, z_lshl, z_lshr, z_lcmp, z_dup, z_pop, z_dup2, z_goto, z_tsw, z_cases, z_geti, z_getr, z_puti, z_putz, z_ald, z_iast, z_bast, z_zast, z_alen, z_acopy, z_mmax, z_mmin, z_mabs, z_mabsL, z_iret, z_zret, z_nret, z_lret, z_aret, z_vret, z_cat, z_ldcs, z_strv, z_strc, z_gcs, z_gfm, z_sln, z_sald, z_ifeq, z_ifne, z_iflt, z_ifge, z_ifgt, z_ifle, z_iceq, z_icne, z_iclt, z_icge, z_icgt, z_icle, z_cs0, z_cs1, z_cs2, z_cs3, z_cs4, z_cs5, z_cs6, z_cs7, z_cv0, z_cv1, z_cv2, z_cv3, z_cv4, z_cv5, z_cv6, z_cv7, z_g0, z_s0, z_g1, z_s1, z_g2, z_s2, z_g3, z_s3, z_g4, z_s4, z_g5, z_s5, z_g6, z_s6, z_g7, z_s7, z_g8, z_s8, z_g9, z_s9, z_g10, z_s10, z_g11, z_s11, z_g12, z_s12, z_g13, z_s13, z_b0, z_b1, z_b0n, z_b1n, z_up_far1, z_up_far2, z_up_far3, z_up_far4, z_up_far5, z_up_far6, Classical.not_not, not_true_eq_false, z_in, z_inL, Int.cast_ofNat_Int, Nat.reduceLeDiff, List.length_cons, List.length_nil, Nat.reduceAdd, Nat.zero_add, Nat.le_refl, true_and, and_true, List.length, Nat.reduceLT, true_or, or_true, false_or, or_false, false_and, and_false, not_true_eq_false, not_false_eq_true, forall_const, false_implies, true_implies, Int.reduceEq, Int.reduceLT, Int.reduceLE, Int.reduceAdd, Int.reduceSub, Int.reduceMul, Int.reduceNeg, Int.reduceToNat, Int.toNat_natCast, ↓reduceIte, reduceIte, Nat.reduceEqDiff, Nat.reduceSub, Nat.reduceMul, ne_eq, Int.zero_add, Int.add_zero, Int.sub_zero, Nat.add_zero, Int.ofNat_eq_natCast, tX10_orders_0, SX10_begin, SX10_name, SX10_orderOf, SX10_bad, e7, c1]
  rw [a12, a97, Int.toNat_natCast, hb]
  refine fun _ => ⟨?_, fun σ1 f1 e12 ms => ?_⟩
  · unfold q_tpok
    rw [a12, a97]
    have := tk
    unfold q_tpok at this
    rw [hT] at this
    exact this
  · have ms' : q_ms (z_up σ1 89 10 0) b T 0 0 := ms.fr (fun c j hc => z_up_ne (by omega))
    have m19 := ms'.2.2.2.2.2.2.1
    have hp := ms'.2.2.2.2.2.1
    have oo := q_oof_ord hb255 hp
    have g1 : ∀ c j, ¬ (c = 89 ∧ (j = 0 ∨ j = 10 ∨ j = 12 ∨ 14 ≤ j ∧ j ≤ 20) ∨ c = 96) → z_up σ1 89 10 0 c j = σ c j := fun c j hc => by rw [z_up_ne (by omega), f1 c j (by omega), z_up_ne (by omega)]
    have g12 : z_up σ1 89 10 0 89 12 = 0 := by rw [z_up_ne (by omega)]; exact e12
    have g10 : z_up σ1 89 10 0 89 10 = 0 := z_up_eq
    refine ⟨b, T, 0, 0, ms', ?_⟩
    rw [if_pos rfl, oo, m19]
    have hq : q_oo b T (σ 93 0) 0 0 q_D0 = r := hr0.symm
    have oi := q_ord_in (b := b) (T := T) (p := 0)
    refine ⟨fun q => ?_, fun q => ⟨fun _ => ?_, fun q => absurd rfl q⟩⟩
    · have on : ¬ q_ord b T 0 < 0 := fun z => q (by rw [if_pos z])
      exact L41 (T + 1) 0 0 0 q_D0 _ (fun _ => by omega) g1 g12 ms' (fun _ => ⟨g10, by omega, fun j hj => absurd hj (by omega)⟩) (by omega) (fun _ => hq) (fun q => absurd ⟨rfl, on⟩ q)
    · have on : q_ord b T 0 < 0 := by
        by_cases z : q_ord b T 0 < 0
        · exact z
        · rw [if_neg z] at q; omega
      have mb := ms'.bad (τ' := z_up (z_up (z_up σ1 89 10 0) 89 19 1) 89 20 (z_up σ1 89 10 0 89 17)) (n := 1) (by omega) (fun c j hc => by rw [z_up_ne (by omega), z_up_ne (by omega)]) (by rw [z_up_ne (by omega), z_up_eq]) z_up_eq
      refine L41 0 0 1 0 q_D0 _ (fun q => by omega) (fun c j hc => by rw [z_up_ne (by omega), z_up_ne (by omega)]; exact g1 c j hc) (by rw [z_up_ne (by omega), z_up_ne (by omega)]; exact g12) mb (fun q => by omega) (by omega) (fun q => by omega) (fun _ => ?_)
      rw [← hq, q_oo_S (Nat.zero_le _) (by omega)]
      have e : q_oa b T (σ 93 0) 0 0 q_D0 = (0, 1, 0, q_D0) := by unfold q_oa; rw [if_pos on]
      rw [e]
theorem dX10_orders_0 : decode cX10_orders 0 = .ok (.aload_n 0, 1) := by decide +kernel
theorem dX10_orders_1 : decode cX10_orders 1 = .ok (.iconst 0, 1) := by decide +kernel
theorem dX10_orders_2 : decode cX10_orders 2 = .ok (.putfield 65, 3) := by decide +kernel
theorem dX10_orders_5 : decode cX10_orders 5 = .ok (.aload_n 0, 1) := by decide +kernel
theorem dX10_orders_6 : decode cX10_orders 6 = .ok (.getfield 205, 3) := by decide +kernel
theorem dX10_orders_9 : decode cX10_orders 9 = .ok (.ifCond .ne 6, 3) := by decide +kernel
theorem dX10_orders_12 : decode cX10_orders 12 = .ok (.ldc 219, 2) := by decide +kernel
theorem dX10_orders_14 : decode cX10_orders 14 = .ok (.ireturn, 1) := by decide +kernel
theorem dX10_orders_15 : decode cX10_orders 15 = .ok (.aload_n 0, 1) := by decide +kernel
theorem dX10_orders_16 : decode cX10_orders 16 = .ok (.invokevirtual 180, 3) := by decide +kernel
theorem dX10_orders_19 : decode cX10_orders 19 = .ok (.aload_n 0, 1) := by decide +kernel
theorem dX10_orders_20 : decode cX10_orders 20 = .ok (.iconst 0, 1) := by decide +kernel
theorem dX10_orders_21 : decode cX10_orders 21 = .ok (.putfield 213, 3) := by decide +kernel
theorem dX10_orders_24 : decode cX10_orders 24 = .ok (.aload_n 0, 1) := by decide +kernel
theorem dX10_orders_25 : decode cX10_orders 25 = .ok (.invokevirtual 183, 3) := by decide +kernel
theorem dX10_orders_28 : decode cX10_orders 28 = .ok (.invokestatic 209, 3) := by decide +kernel
theorem dX10_orders_31 : decode cX10_orders 31 = .ok (.ldc 101, 2) := by decide +kernel
theorem dX10_orders_33 : decode cX10_orders 33 = .ok (.if_icmp .ne 8, 3) := by decide +kernel
theorem dX10_orders_36 : decode cX10_orders 36 = .ok (.aload_n 0, 1) := by decide +kernel
theorem dX10_orders_37 : decode cX10_orders 37 = .ok (.iconst 1, 1) := by decide +kernel
theorem dX10_orders_38 : decode cX10_orders 38 = .ok (.invokevirtual 132, 3) := by decide +kernel
theorem dX10_orders_41 : decode cX10_orders 41 = .ok (.aload_n 0, 1) := by decide +kernel
theorem dX10_orders_42 : decode cX10_orders 42 = .ok (.invokevirtual 183, 3) := by decide +kernel
theorem dX10_orders_45 : decode cX10_orders 45 = .ok (.invokestatic 209, 3) := by decide +kernel
theorem dX10_orders_48 : decode cX10_orders 48 = .ok (.ldc 101, 2) := by decide +kernel
theorem dX10_orders_50 : decode cX10_orders 50 = .ok (.if_icmp .eq 10, 3) := by decide +kernel
theorem dX10_orders_53 : decode cX10_orders 53 = .ok (.aload_n 0, 1) := by decide +kernel
theorem dX10_orders_54 : decode cX10_orders 54 = .ok (.invokevirtual 220, 3) := by decide +kernel
theorem dX10_orders_57 : decode cX10_orders 57 = .ok (.goto (-16), 3) := by decide +kernel
theorem dX10_orders_60 : decode cX10_orders 60 = .ok (.aload_n 0, 1) := by decide +kernel
theorem dX10_orders_61 : decode cX10_orders 61 = .ok (.aload_n 0, 1) := by decide +kernel
theorem dX10_orders_62 : decode cX10_orders 62 = .ok (.getfield 213, 3) := by decide +kernel
theorem dX10_orders_65 : decode cX10_orders 65 = .ok (.invokevirtual 202, 3) := by decide +kernel
theorem dX10_orders_68 : decode cX10_orders 68 = .ok (.istore_n 1, 1) := by decide +kernel
theorem dX10_orders_69 : decode cX10_orders 69 = .ok (.iload_n 1, 1) := by decide +kernel
theorem dX10_orders_70 : decode cX10_orders 70 = .ok (.ifCond .ge 5, 3) := by decide +kernel
theorem dX10_orders_73 : decode cX10_orders 73 = .ok (.iload_n 1, 1) := by decide +kernel
theorem dX10_orders_74 : decode cX10_orders 74 = .ok (.ireturn, 1) := by decide +kernel
theorem dX10_orders_75 : decode cX10_orders 75 = .ok (.aload_n 0, 1) := by decide +kernel
theorem dX10_orders_76 : decode cX10_orders 76 = .ok (.getfield 19, 3) := by decide +kernel
theorem dX10_orders_79 : decode cX10_orders 79 = .ok (.iconst 5, 1) := by decide +kernel
theorem dX10_orders_80 : decode cX10_orders 80 = .ok (.iaload, 1) := by decide +kernel
theorem dX10_orders_81 : decode cX10_orders 81 = .ok (.iload_n 1, 1) := by decide +kernel
theorem dX10_orders_82 : decode cX10_orders 82 = .ok (.iadd, 1) := by decide +kernel
theorem dX10_orders_83 : decode cX10_orders 83 = .ok (.bipush 60, 2) := by decide +kernel
theorem dX10_orders_85 : decode cX10_orders 85 = .ok (.if_icmp .le 6, 3) := by decide +kernel
theorem dX10_orders_88 : decode cX10_orders 88 = .ok (.ldc 95, 2) := by decide +kernel
theorem dX10_orders_90 : decode cX10_orders 90 = .ok (.ireturn, 1) := by decide +kernel
theorem dX10_orders_91 : decode cX10_orders 91 = .ok (.iconst 0, 1) := by decide +kernel
theorem dX10_orders_92 : decode cX10_orders 92 = .ok (.istore_n 2, 1) := by decide +kernel
theorem dX10_orders_93 : decode cX10_orders 93 = .ok (.iload_n 2, 1) := by decide +kernel
theorem dX10_orders_94 : decode cX10_orders 94 = .ok (.iload_n 1, 1) := by decide +kernel
theorem dX10_orders_95 : decode cX10_orders 95 = .ok (.if_icmp .ge 41, 3) := by decide +kernel
theorem dX10_orders_98 : decode cX10_orders 98 = .ok (.aload_n 0, 1) := by decide +kernel
theorem dX10_orders_99 : decode cX10_orders 99 = .ok (.aload_n 0, 1) := by decide +kernel
theorem dX10_orders_100 : decode cX10_orders 100 = .ok (.getfield 28, 3) := by decide +kernel
theorem dX10_orders_103 : decode cX10_orders 103 = .ok (.iconst 3, 1) := by decide +kernel
theorem dX10_orders_104 : decode cX10_orders 104 = .ok (.iload_n 2, 1) := by decide +kernel
theorem dX10_orders_105 : decode cX10_orders 105 = .ok (.imul, 1) := by decide +kernel
theorem dX10_orders_106 : decode cX10_orders 106 = .ok (.iaload, 1) := by decide +kernel
theorem dX10_orders_107 : decode cX10_orders 107 = .ok (.aload_n 0, 1) := by decide +kernel
theorem dX10_orders_108 : decode cX10_orders 108 = .ok (.getfield 28, 3) := by decide +kernel
theorem dX10_orders_111 : decode cX10_orders 111 = .ok (.iconst 3, 1) := by decide +kernel
theorem dX10_orders_112 : decode cX10_orders 112 = .ok (.iload_n 2, 1) := by decide +kernel
theorem dX10_orders_113 : decode cX10_orders 113 = .ok (.imul, 1) := by decide +kernel
theorem dX10_orders_114 : decode cX10_orders 114 = .ok (.iconst 1, 1) := by decide +kernel
theorem dX10_orders_115 : decode cX10_orders 115 = .ok (.iadd, 1) := by decide +kernel
theorem dX10_orders_116 : decode cX10_orders 116 = .ok (.iaload, 1) := by decide +kernel
theorem dX10_orders_117 : decode cX10_orders 117 = .ok (.aload_n 0, 1) := by decide +kernel
theorem dX10_orders_118 : decode cX10_orders 118 = .ok (.getfield 28, 3) := by decide +kernel
theorem dX10_orders_121 : decode cX10_orders 121 = .ok (.iconst 3, 1) := by decide +kernel
theorem dX10_orders_122 : decode cX10_orders 122 = .ok (.iload_n 2, 1) := by decide +kernel
theorem dX10_orders_123 : decode cX10_orders 123 = .ok (.imul, 1) := by decide +kernel
theorem dX10_orders_124 : decode cX10_orders 124 = .ok (.iconst 2, 1) := by decide +kernel
theorem dX10_orders_125 : decode cX10_orders 125 = .ok (.iadd, 1) := by decide +kernel
theorem dX10_orders_126 : decode cX10_orders 126 = .ok (.iaload, 1) := by decide +kernel
theorem dX10_orders_127 : decode cX10_orders 127 = .ok (.invokevirtual 223, 3) := by decide +kernel
theorem dX10_orders_130 : decode cX10_orders 130 = .ok (.iinc 2 1, 3) := by decide +kernel
theorem dX10_orders_133 : decode cX10_orders 133 = .ok (.goto (-40), 3) := by decide +kernel
theorem dX10_orders_136 : decode cX10_orders 136 = .ok (.aload_n 0, 1) := by decide +kernel
theorem dX10_orders_137 : decode cX10_orders 137 = .ok (.getfield 19, 3) := by decide +kernel
theorem dX10_orders_140 : decode cX10_orders 140 = .ok (.iconst 5, 1) := by decide +kernel
theorem dX10_orders_141 : decode cX10_orders 141 = .ok (.iaload, 1) := by decide +kernel
theorem dX10_orders_142 : decode cX10_orders 142 = .ok (.ireturn, 1) := by decide +kernel
set_option maxRecDepth 100000 in
theorem rX10_orders_0 {p : Program} {l : Launch} {e : Env} {s : State} {m : MethodId} {args : Array Value} {below : List Frame} {meth : Method} {c : Code} {D : va_G} {cA : Nat → ClassId} {ad : Nat → Nat} {Ret : zR} (C : z_Cx p { frames := 5, cells := 0, slots := 0, locals := 109 } s m args c cX10_orders yX10_orders.cls 3 D cA ad) (hr : meth.sig.returnType = (some .int)) (hlocks : meth.locks = false) : ∀ L st σ, tX10_orders_0 (z_X p l e { frames := 5, cells := 0, slots := 0, locals := 109 } s m args below meth c (MQ below (z_Qc D cA ad Ret) args s 0 0 (z_A ad)) 3 D cA ad true) Ret L st σ → z_X p l e { frames := 5, cells := 0, slots := 0, locals := 109 } s m args below meth c (MQ below (z_Qc D cA ad Ret) args s 0 0 (z_A ad)) 3 D cA ad true 0 L st σ := (s_aload_n C dX10_orders_0 rfl (s_iconst C dX10_orders_1 rfl ⟨by decide, by decide⟩ (s_puti C dX10_orders_2 cls_X10 (by decide) rfl wd_968 rfl rfl (s_aload_n C dX10_orders_5 rfl (s_geti C dX10_orders_6 cls_X10 (by decide) rfl wd_975 (s_ifne C dX10_orders_9 (by decide) (s_aload_n C dX10_orders_15 rfl (s_cv0 C dX10_orders_16 (okX10_begin l) cls_X10 wd_1115 wd_1117 wd_36 wd_85 wd_1118 ⟨by decide, by decide, by decide +kernel⟩ ⟨by decide, by decide⟩ (s_aload_n C dX10_orders_19 rfl (s_iconst C dX10_orders_20 rfl ⟨by decide, by decide⟩ (s_puti C dX10_orders_21 cls_X10 (by decide) rfl wd_978 rfl rfl (s_aload_n C dX10_orders_24 rfl (s_cv0 C dX10_orders_25 (okX10_name l) cls_X10 wd_1134 wd_1136 wd_39 wd_85 wd_1137 ⟨by decide, by decide, by decide +kernel⟩ ⟨by decide, by decide⟩ (s_cs1 C dX10_orders_28 (okX10_orderOf l) wd_1192 wd_1193 wd_85 wd_1194 ⟨by decide, by decide, by decide +kernel⟩ ⟨by decide, by decide⟩ (s_ldc C dX10_orders_31 (v := -1000000) wd_1127 ⟨by decide, by decide⟩ (s_icne C dX10_orders_33 (by decide) (fun _ _ _ h => h) (s_aload_n C dX10_orders_36 rfl (s_iconst C dX10_orders_37 rfl ⟨by decide, by decide⟩ (s_cv1 C dX10_orders_38 (okX10_bad l) cls_X10 wd_1139 wd_1141 wd_40 wd_85 wd_1142 ⟨by decide, by decide, by decide +kernel⟩ ⟨by decide, by decide⟩ (fun _ _ _ h => h)))))))))))))) (s_ldc C dX10_orders_12 (v := -1000002) wd_1191 ⟨by decide, by decide⟩ (s_iret C dX10_orders_14 hr hlocks))))))))
set_option maxRecDepth 100000 in
theorem rX10_orders_41 {p : Program} {l : Launch} {e : Env} {s : State} {m : MethodId} {args : Array Value} {below : List Frame} {meth : Method} {c : Code} {D : va_G} {cA : Nat → ClassId} {ad : Nat → Nat} {Ret : zR} (C : z_Cx p { frames := 5, cells := 0, slots := 0, locals := 109 } s m args c cX10_orders yX10_orders.cls 3 D cA ad) (hr : meth.sig.returnType = (some .int)) (hlocks : meth.locks = false) : ∀ L st σ, tX10_orders_41 (z_X p l e { frames := 5, cells := 0, slots := 0, locals := 109 } s m args below meth c (MQ below (z_Qc D cA ad Ret) args s 0 0 (z_A ad)) 3 D cA ad true) Ret L st σ → z_X p l e { frames := 5, cells := 0, slots := 0, locals := 109 } s m args below meth c (MQ below (z_Qc D cA ad Ret) args s 0 0 (z_A ad)) 3 D cA ad true 41 L st σ := (s_aload_n C dX10_orders_41 rfl (s_cv0 C dX10_orders_42 (okX10_name l) cls_X10 wd_1134 wd_1136 wd_39 wd_85 wd_1137 ⟨by decide, by decide, by decide +kernel⟩ ⟨by decide, by decide⟩ (s_cs1 C dX10_orders_45 (okX10_orderOf l) wd_1192 wd_1193 wd_85 wd_1194 ⟨by decide, by decide, by decide +kernel⟩ ⟨by decide, by decide⟩ (s_ldc C dX10_orders_48 (v := -1000000) wd_1127 ⟨by decide, by decide⟩ (s_iceq C dX10_orders_50 (by decide) (s_aload_n C dX10_orders_60 rfl (s_aload_n C dX10_orders_61 rfl (s_geti C dX10_orders_62 cls_X10 (by decide) rfl wd_978 (s_cv1 C dX10_orders_65 (okX10_ends l) cls_X10 wd_1182 wd_1184 wd_50 wd_85 wd_1185 ⟨by decide, by decide, by decide +kernel⟩ ⟨by decide, by decide⟩ (s_istore_n C dX10_orders_68 (by decide) rfl rfl (s_iload_n C dX10_orders_69 rfl (s_ifge C dX10_orders_70 (by decide) (s_aload_n C dX10_orders_75 rfl (s_getr C dX10_orders_76 (j := 5) cls_X10 (by decide) rfl (by decide) (by decide) (by decide +kernel) wd_973 (s_iconst C dX10_orders_79 rfl ⟨by decide, by decide⟩ (s_iald C dX10_orders_80 (s_iload_n C dX10_orders_81 rfl (s_iadd C dX10_orders_82 (s_bipush C dX10_orders_83 rfl ⟨by decide, by decide⟩ (s_icle C dX10_orders_85 (by decide) (s_iconst C dX10_orders_91 rfl ⟨by decide, by decide⟩ (s_istore_n C dX10_orders_92 (by decide) rfl rfl (fun _ _ _ h => h))) (s_ldc C dX10_orders_88 (v := -1000003) wd_1109 ⟨by decide, by decide⟩ (s_iret C dX10_orders_90 hr hlocks)))))))))) (s_iload_n C dX10_orders_73 rfl (s_iret C dX10_orders_74 hr hlocks))))))))) (s_aload_n C dX10_orders_53 rfl (s_cv0 C dX10_orders_54 (okX10_readOrder l) cls_X10 wd_1203 wd_1205 wd_51 wd_85 wd_1206 ⟨by decide, by decide, by decide +kernel⟩ ⟨by decide, by decide⟩ (s_goto C dX10_orders_57 (by decide) (fun _ _ _ h => h)))))))))
set_option maxRecDepth 100000 in
theorem rX10_orders_93 {p : Program} {l : Launch} {e : Env} {s : State} {m : MethodId} {args : Array Value} {below : List Frame} {meth : Method} {c : Code} {D : va_G} {cA : Nat → ClassId} {ad : Nat → Nat} {Ret : zR} (C : z_Cx p { frames := 5, cells := 0, slots := 0, locals := 109 } s m args c cX10_orders yX10_orders.cls 3 D cA ad) (hr : meth.sig.returnType = (some .int)) (hlocks : meth.locks = false) : ∀ L st σ, tX10_orders_93 (z_X p l e { frames := 5, cells := 0, slots := 0, locals := 109 } s m args below meth c (MQ below (z_Qc D cA ad Ret) args s 0 0 (z_A ad)) 3 D cA ad true) Ret L st σ → z_X p l e { frames := 5, cells := 0, slots := 0, locals := 109 } s m args below meth c (MQ below (z_Qc D cA ad Ret) args s 0 0 (z_A ad)) 3 D cA ad true 93 L st σ := (s_iload_n C dX10_orders_93 rfl (s_iload_n C dX10_orders_94 rfl (s_icge C dX10_orders_95 (by decide) (s_aload_n C dX10_orders_136 rfl (s_getr C dX10_orders_137 (j := 5) cls_X10 (by decide) rfl (by decide) (by decide) (by decide +kernel) wd_973 (s_iconst C dX10_orders_140 rfl ⟨by decide, by decide⟩ (s_iald C dX10_orders_141 (s_iret C dX10_orders_142 hr hlocks))))) (s_aload_n C dX10_orders_98 rfl (s_aload_n C dX10_orders_99 rfl (s_getr C dX10_orders_100 (j := 9) cls_X10 (by decide) rfl (by decide) (by decide) (by decide +kernel) wd_977 (s_iconst C dX10_orders_103 rfl ⟨by decide, by decide⟩ (s_iload_n C dX10_orders_104 rfl (s_imul C dX10_orders_105 (s_iald C dX10_orders_106 (s_aload_n C dX10_orders_107 rfl (s_getr C dX10_orders_108 (j := 9) cls_X10 (by decide) rfl (by decide) (by decide) (by decide +kernel) wd_977 (s_iconst C dX10_orders_111 rfl ⟨by decide, by decide⟩ (s_iload_n C dX10_orders_112 rfl (s_imul C dX10_orders_113 (s_iconst C dX10_orders_114 rfl ⟨by decide, by decide⟩ (s_iadd C dX10_orders_115 (s_iald C dX10_orders_116 (s_aload_n C dX10_orders_117 rfl (s_getr C dX10_orders_118 (j := 9) cls_X10 (by decide) rfl (by decide) (by decide) (by decide +kernel) wd_977 (s_iconst C dX10_orders_121 rfl ⟨by decide, by decide⟩ (s_iload_n C dX10_orders_122 rfl (s_imul C dX10_orders_123 (s_iconst C dX10_orders_124 rfl ⟨by decide, by decide⟩ (s_iadd C dX10_orders_125 (s_iald C dX10_orders_126 (s_cv3 C dX10_orders_127 (okX10_does l) cls_X10 wd_1207 wd_1209 wd_52 wd_85 wd_1210 ⟨by decide, by decide, by decide +kernel⟩ ⟨by decide, by decide⟩ (s_iinc C dX10_orders_130 (by decide) rfl (s_goto C dX10_orders_133 (by decide) (fun _ _ _ h => h))))))))))))))))))))))))))))))
theorem okX10_orders (l : Launch) : z_OK l yX10_orders cX10_orders 3 (some .int) 5 109 SX10_orders := by
  refine z_ok_of true (by decide +kernel) ?_ ?_
  · intro as σ Ret h
    obtain ⟨k0, rfl⟩ := pX10_orders h
    exact ⟨Nat.le_of_ble_eq_true rfl, by simp⟩
  · intro p e s m args below meth c D cA ad Ret C hr hlocks as σ has hσ h
    obtain ⟨k0, rfl⟩ := pX10_orders h
    exact vX10_orders (rX10_orders_0 C hr hlocks) (rX10_orders_41 C hr hlocks) (rX10_orders_93 C hr hlocks) k0 σ (has _ (List.mem_of_getElem? (i := 0) rfl)) hσ h
