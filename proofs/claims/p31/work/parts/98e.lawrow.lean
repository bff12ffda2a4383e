/-! the law's own row of a wood, against its numbers D -/
def w_t (σ : zM) (k : Nat) (D : Nat → Int) : Prop := (∀ t q : Nat, (t : Int) < D 0 → q < 6 → σ k (6 * t + q) = D (6 + 6 * t + q)) ∧ σ k 48 = D 4 ∧ σ k 49 = D 3 ∧ σ k 50 = D 5
def w_ok (zx : zX) (D : Nat → Int) : Prop := q_Dok D ∧ (D 0 = w_nt zx ∧ D 1 = w_nw zx ∧ D 2 = w_nn zx) ∧ ∀ w q : Nat, (w : Int) < w_nw zx → q < 3 → D (78 + 3 * w + q) = w_wi zx w q
def w_ek (k : Nat) (σ σ' : zM) : Prop := ∀ c, c ≠ k → σ' c = σ c
def SL_tone (zx : zX) : zS := fun as σ Ret => match as with
  | [.inr (.inr (100, 64, k)), .inl i] => ∃ D, q_Dok D ∧ D 0 ≤ 8 ∧ w_t σ k D ∧ (0 ≤ i ∧ i < D 0) ∧ Ret (some (.inl (q_tnD D i.toNat))) σ
  | _ => False
def tL_tone_0 (zx : zX) (X : Nat → zB) (Ret : zR) (L : zL) (st : List zV) (σ : zM) : Prop := (z_push 1000 (z_aload 0 (z_push 6 (z_iload 1 (z_imul (z_push 1 (z_iadd (z_ald 0 (z_imul (z_aload 0 (z_push 6 (z_iload 1 (z_imul (z_ald 0 (z_idiv (z_istore 2 (z_iload 2 (z_push 5 (z_aload 0 (z_push 48 (z_ald 0 (z_imul (z_iload 2 (z_push 100 (z_idiv (z_imul (z_isub (z_iret Ret)))))))))))))))))))))))))))) L st σ
theorem pL_tone {zx : zX} {as : List zV} {σ : zM} {Ret : zR} (h : (SL_tone zx) as σ Ret) : ∃ (k1 : Nat) (x2 : Int), as = [.inr (.inr (100, 64, k1)), .inl x2] := by
  unfold SL_tone at h
  split at h
  · exact ⟨_, _, rfl⟩
  · exact h.elim
set_option maxRecDepth 10000 in
set_option maxHeartbeats 4000000 in
theorem vL_tone {zx : zX} {X : Nat → zB} {Ret : zR} (h0 : ∀ L st σ, tL_tone_0 zx X Ret L st σ → X 0 L st σ) (k1 : Nat) (x2 : Int) (σ : zM) (hk1 : z_kd k1 = (100, 64)) (hx2 : -2147483648 ≤ x2 ∧ x2 ≤ 2147483647) (hσ : z_okm σ) (h : (SL_tone zx) [.inr (.inr (100, 64, k1)), .inl x2] σ Ret) : X 0 [some (.inr (.inr (100, 64, k1))), some (.inl x2), none] [] σ := by
  obtain ⟨D, K, d8, tt, ⟨c1, c2⟩, h⟩ := h
  obtain ⟨i, rfl⟩ := z_nat c1
  rw [Int.toNat_natCast] at h
  have e0 : (6 * (i : Int)).toNat = 6 * i := by omega
  have e1 : (6 * (i : Int) + 1).toNat = 6 * i + 1 := by omega
  have r0 : σ k1 (6 * i) = D (6 + 6 * i + 0) := tt.1 i 0 c2 (by omega)
  have r1 : σ k1 (6 * i + 1) = D (6 + 6 * i + 1) := tt.1 i 1 c2 (by omega)
  have q := K.2.1 i c2
  simp only [Nat.add_zero] at q r0
  have q4 := K.1.2.2.2.1
  have dr := q_dry_in (p := D (6 + 6 * i + 1)) (l := D (6 + 6 * i)) (by omega) (by omega)
  have ed : q_dry (D (6 + 6 * i + 1)) (D (6 + 6 * i)) = (1000 * D (6 + 6 * i + 1)).tdiv (D (6 + 6 * i)) := rfl
  unfold q_tnD q_tone at h
  simp only [Nat.add_zero] at h
  rw [ed] at h dr
  refine h0 _ _ _ ?_
  simp only [z_push, z_lpush, z_iload, z_lload, z_aload, z_istore, z_istoreP, z_lstore, z_astore, z_iinc, z_iincP, z_iadd, z_isub, z_imul, z_iaddW, z_isubW, z_imulW, z_idiv, z_irem, z_iand, z_ior, z_ixor, z_ishl, z_ishr, z_iushr, z_ineg, z_i2l, z_i2b, z_i2s, z_i2c, z_l2i, z_ladd, z_lsub, z_land, z_lor, z_lshl, z_lshr, z_lcmp, z_dup, z_pop, z_dup2, z_goto, z_tsw, z_cases, z_geti, z_getr, z_puti, z_putz, z_ald, z_iast, z_bast, z_zast, z_alen, z_acopy, z_mmax, z_mmin, z_mabs, z_mabsL, z_iret, z_zret, z_nret, z_lret, z_aret, z_vret, z_cat, z_xald, z_xlen, z_ldcs, z_strv, z_strc, z_gcs, z_gfm, z_sln, z_sald, z_ifeq, z_ifne, z_iflt, z_ifge, z_ifgt, z_ifle, z_iceq, z_icne, z_iclt, z_icge, z_icgt, z_icle, z_cs0, z_cs1, z_cs2, z_cs3, z_cs4, z_cs5, z_cs6, z_cs7, z_cv0, z_cv1, z_cv2, z_cv3, z_cv4, z_cv5, z_cv6, z_cv7, z_g0, z_s0, z_g1, z_s1, z_g2, z_s2, z_g3, z_s3, z_g4, z_s4, z_g5, z_s5, z_g6, z_s6, z_g7, z_s7, z_g8, z_s8, z_g9, z_s9, z_g10, z_s10, z_g11, z_s11, z_g12, z_s12, z_g13, z_s13, z_b0, z_b1, z_b0n, z_b1n, z_up_far1, z_up_far2, z_up_far3, z_up_far4, z_up_far5, z_up_far6, Classical.not_not, not_true_eq_false, z_in, z_inL, Int.cast_ofNat_Int, Nat.reduceLeDiff, List.length_cons, List.length_nil, Nat.reduceAdd, Nat.zero_add, Nat.le_refl, true_and, and_true, List.length, Nat.reduceLT, true_or, or_true, false_or, or_false, false_and, and_false, not_true_eq_false, not_false_eq_true, forall_const, false_implies, true_implies, Int.reduceEq, Int.reduceLT, Int.reduceLE, Int.reduceAdd, Int.reduceSub, Int.reduceMul, Int.reduceNeg, Int.reduceToNat, Int.toNat_natCast, ↓reduceIte, reduceIte, Nat.reduceEqDiff, Nat.reduceSub, Nat.reduceMul, ne_eq, Int.zero_add, Int.add_zero, Int.sub_zero, Nat.add_zero, Int.ofNat_eq_natCast, tL_tone_0, e0, e1, r0, r1, tt.2.1]
  generalize (1000 * D (6 + 6 * i + 1)).tdiv (D (6 + 6 * i)) = v at *
  have ev : v.tdiv 100 = v / 100 := Int.tdiv_eq_ediv_of_nonneg dr.1
  rw [ev] at h ⊢
  have hd : D 4 = 0 ∨ D 4 = 1 := by omega
  rcases hd with hd | hd <;> rw [hd] at h ⊢
  · rw [if_neg (by omega)] at h
    repeat' (first | (intro _) | (with_reducible assumption) | (refine And.intro ?_ ?_))
    all_goals first | omega | assumption | (refine z_fin h ?_ rfl; first | rfl | omega | (split <;> omega) | (split <;> split <;> omega)) | skip
  · rw [if_pos rfl] at h
    repeat' (first | (intro _) | (with_reducible assumption) | (refine And.intro ?_ ?_))
    all_goals first | omega | assumption | (refine z_fin h ?_ rfl; first | rfl | omega | (split <;> omega) | (split <;> split <;> omega)) | skip
theorem dL_tone_0 : decode cL_tone 0 = .ok (.sipush 1000, 3) := by decide +kernel
theorem dL_tone_3 : decode cL_tone 3 = .ok (.aload_n 0, 1) := by decide +kernel
theorem dL_tone_4 : decode cL_tone 4 = .ok (.bipush 6, 2) := by decide +kernel
theorem dL_tone_6 : decode cL_tone 6 = .ok (.iload_n 1, 1) := by decide +kernel
theorem dL_tone_7 : decode cL_tone 7 = .ok (.imul, 1) := by decide +kernel
theorem dL_tone_8 : decode cL_tone 8 = .ok (.iconst 1, 1) := by decide +kernel
theorem dL_tone_9 : decode cL_tone 9 = .ok (.iadd, 1) := by decide +kernel
theorem dL_tone_10 : decode cL_tone 10 = .ok (.iaload, 1) := by decide +kernel
theorem dL_tone_11 : decode cL_tone 11 = .ok (.imul, 1) := by decide +kernel
theorem dL_tone_12 : decode cL_tone 12 = .ok (.aload_n 0, 1) := by decide +kernel
theorem dL_tone_13 : decode cL_tone 13 = .ok (.bipush 6, 2) := by decide +kernel
theorem dL_tone_15 : decode cL_tone 15 = .ok (.iload_n 1, 1) := by decide +kernel
theorem dL_tone_16 : decode cL_tone 16 = .ok (.imul, 1) := by decide +kernel
theorem dL_tone_17 : decode cL_tone 17 = .ok (.iaload, 1) := by decide +kernel
theorem dL_tone_18 : decode cL_tone 18 = .ok (.idiv, 1) := by decide +kernel
theorem dL_tone_19 : decode cL_tone 19 = .ok (.istore_n 2, 1) := by decide +kernel
theorem dL_tone_20 : decode cL_tone 20 = .ok (.iload_n 2, 1) := by decide +kernel
theorem dL_tone_21 : decode cL_tone 21 = .ok (.iconst 5, 1) := by decide +kernel
theorem dL_tone_22 : decode cL_tone 22 = .ok (.aload_n 0, 1) := by decide +kernel
theorem dL_tone_23 : decode cL_tone 23 = .ok (.bipush 48, 2) := by decide +kernel
theorem dL_tone_25 : decode cL_tone 25 = .ok (.iaload, 1) := by decide +kernel
theorem dL_tone_26 : decode cL_tone 26 = .ok (.imul, 1) := by decide +kernel
theorem dL_tone_27 : decode cL_tone 27 = .ok (.iload_n 2, 1) := by decide +kernel
theorem dL_tone_28 : decode cL_tone 28 = .ok (.bipush 100, 2) := by decide +kernel
theorem dL_tone_30 : decode cL_tone 30 = .ok (.idiv, 1) := by decide +kernel
theorem dL_tone_31 : decode cL_tone 31 = .ok (.imul, 1) := by decide +kernel
theorem dL_tone_32 : decode cL_tone 32 = .ok (.isub, 1) := by decide +kernel
theorem dL_tone_33 : decode cL_tone 33 = .ok (.ireturn, 1) := by decide +kernel
set_option maxRecDepth 100000 in
theorem rL_tone_0 {zx : zX} {zn : Nat} {p : Program} {l : Launch} {e : Env} {s : State} {m : MethodId} {args : Array Value} {below : List Frame} {meth : Method} {c : Code} {D : va_G} {cA : Nat → ClassId} {ad : Nat → Nat} {Ret : zR} (C : z_Cx zx zn (z_A zn ad) 0 0 p { frames := 0, cells := 0, slots := 0, locals := 0 } s m args c cL_tone yL_tone.cls 3 D cA ad) (hr : meth.sig.returnType = (some .int)) (hlocks : meth.locks = false) : ∀ L st σ, tL_tone_0 zx (z_X zx zn (z_A zn ad) 0 0 p l e { frames := 0, cells := 0, slots := 0, locals := 0 } s m args below meth c (MQ below (z_Qc zn D cA ad Ret) args s 0 0 (z_A zn ad)) 3 D cA ad true) Ret L st σ → z_X zx zn (z_A zn ad) 0 0 p l e { frames := 0, cells := 0, slots := 0, locals := 0 } s m args below meth c (MQ below (z_Qc zn D cA ad Ret) args s 0 0 (z_A zn ad)) 3 D cA ad true 0 L st σ := (s_sipush C dL_tone_0 rfl ⟨by decide, by decide⟩ (s_aload_n C dL_tone_3 rfl (s_bipush C dL_tone_4 rfl ⟨by decide, by decide⟩ (s_iload_n C dL_tone_6 rfl (s_imul C dL_tone_7 (s_iconst C dL_tone_8 rfl ⟨by decide, by decide⟩ (s_iadd C dL_tone_9 (s_iald C dL_tone_10 (s_imul C dL_tone_11 (s_aload_n C dL_tone_12 rfl (s_bipush C dL_tone_13 rfl ⟨by decide, by decide⟩ (s_iload_n C dL_tone_15 rfl (s_imul C dL_tone_16 (s_iald C dL_tone_17 (s_idiv C dL_tone_18 (s_istore_n C dL_tone_19 (by decide) rfl rfl (s_iload_n C dL_tone_20 rfl (s_iconst C dL_tone_21 rfl ⟨by decide, by decide⟩ (s_aload_n C dL_tone_22 rfl (s_bipush C dL_tone_23 rfl ⟨by decide, by decide⟩ (s_iald C dL_tone_25 (s_imul C dL_tone_26 (s_iload_n C dL_tone_27 rfl (s_bipush C dL_tone_28 rfl ⟨by decide, by decide⟩ (s_idiv C dL_tone_30 (s_imul C dL_tone_31 (s_isub C dL_tone_32 (s_iret C dL_tone_33 hr hlocks))))))))))))))))))))))))))))
theorem okL_tone {zx : zX} {zn : Nat} (l : Launch) : z_OK zx zn l yL_tone cL_tone 3 (some .int) 0 0 (SL_tone zx) := by
  refine z_ok_of true (by decide +kernel) ?_ ?_
  · intro as σ Ret h
    obtain ⟨k1, x2, rfl⟩ := pL_tone h
    exact ⟨Nat.le_of_ble_eq_true rfl, by simp⟩
  · intro p e s m args below meth c D cA ad Ret C hr hlocks as σ has hσ h
    obtain ⟨k1, x2, rfl⟩ := pL_tone h
    exact vL_tone (rL_tone_0 C hr hlocks) k1 x2 σ (has _ (List.mem_of_getElem? (i := 0) rfl)).1 (has _ (List.mem_of_getElem? (i := 1) rfl)) hσ h
theorem w_sd {x y a b c d : Int} (hx : 0 ≤ x ∧ x ≤ 7) (hy : 0 ≤ y ∧ y ≤ 7) (ha : 0 ≤ a ∧ a ≤ 1) (hb : 0 ≤ b ∧ b ≤ 1) (hc : 0 ≤ c) : ((¬ b = 1 ∧ ¬ a = 1) ∧ ((-1 ≤ x - y ∧ x - y ≤ 1) ∨ x - y = 7 ∨ x - y = -7) ∧ c.tdiv 2 ≤ d) ↔ ((x - y + 9) % 8 < 3 ∧ a + b = 0 ∧ c / 2 ≤ d) := by
  rw [Int.tdiv_eq_ediv_of_nonneg hc]
  omega
def SL_sounds (zx : zX) : zS := fun as σ Ret => match as with
  | [.inr (.inr (252, 0, _)), .inr (.inr (100, 64, k)), .inl w, .inl i] => ∃ D, (w_ok zx D ∧ w_t σ k D) ∧ ((0 ≤ i ∧ i < D 0) ∧ 0 ≤ w ∧ w < D 1) ∧ Ret (some (.inl (if q_sdD D w.toNat i.toNat then 1 else 0))) σ
  | _ => False
def tL_sounds_0 (zx : zX) (X : Nat → zB) (Ret : zR) (L : zL) (st : List zV) (σ : zM) : Prop := (z_aload 1 (z_push 6 (z_iload 3 (z_imul (z_push 2 (z_iadd (z_ald 0 (z_aload 0 (z_iload 2 (z_push 0 (z_cs3 (SL_wind zx) (z_isub (z_push 9 (z_iadd (z_push 8 (z_irem (z_istore 4 (z_iload 4 (z_push 3 (z_icge (z_push 0 (z_zret Ret)) (z_aload 1 (z_push 6 (z_iload 3 (z_imul (z_push 4 (z_iadd (z_ald 0 (z_aload 1 (z_push 6 (z_iload 3 (z_imul (z_push 5 (z_iadd (z_ald 0 (z_iadd (z_ifne (z_push 0 (z_zret Ret)) (z_aload 0 (z_iload 2 (z_push 1 (z_cs3 (SL_wind zx) (z_aload 1 (z_push 6 (z_iload 3 (z_imul (z_push 1 (z_iadd (z_ald 0 (z_push 2 (z_idiv (z_iclt (z_push 0 (z_zret Ret)) (z_push 1 (z_goto (z_zret Ret))))))))))))))))))))))))))))))))))))))))))))))))))))) L st σ
theorem pL_sounds {zx : zX} {as : List zV} {σ : zM} {Ret : zR} (h : (SL_sounds zx) as σ Ret) : ∃ (k1 : Nat) (k2 : Nat) (x3 : Int) (x4 : Int), as = [.inr (.inr (252, 0, k1)), .inr (.inr (100, 64, k2)), .inl x3, .inl x4] := by
  unfold SL_sounds at h
  split at h
  · exact ⟨_, _, _, _, rfl⟩
  · exact h.elim
set_option maxRecDepth 10000 in
set_option maxHeartbeats 4000000 in
theorem vL_sounds {zx : zX} {X : Nat → zB} {Ret : zR} (h0 : ∀ L st σ, tL_sounds_0 zx X Ret L st σ → X 0 L st σ) (k1 : Nat) (k2 : Nat) (x3 : Int) (x4 : Int) (σ : zM) (hk1 : z_kd k1 = (252, 0)) (hk2 : z_kd k2 = (100, 64)) (hx3 : -2147483648 ≤ x3 ∧ x3 ≤ 2147483647) (hx4 : -2147483648 ≤ x4 ∧ x4 ≤ 2147483647) (hσ : z_okm σ) (h : (SL_sounds zx) [.inr (.inr (252, 0, k1)), .inr (.inr (100, 64, k2)), .inl x3, .inl x4] σ Ret) : X 0 [some (.inr (.inr (252, 0, k1))), some (.inr (.inr (100, 64, k2))), some (.inl x3), some (.inl x4), none] [] σ := by
  obtain ⟨D, ⟨⟨K, ⟨n0, n1, n2⟩, wi⟩, tt⟩, ⟨⟨c1, c2⟩, c3, c4⟩, h⟩ := h
  obtain ⟨i, rfl⟩ := z_nat c1
  obtain ⟨w, rfl⟩ := z_nat c3
  rw [Int.toNat_natCast, Int.toNat_natCast] at h
  have nt := w_nt_in zx
  have nw := w_nw_in zx
  have e1 : (6 * (i : Int) + 1).toNat = 6 * i + 1 := by omega
  have e2 : (6 * (i : Int) + 2).toNat = 6 * i + 2 := by omega
  have e4 : (6 * (i : Int) + 4).toNat = 6 * i + 4 := by omega
  have e5 : (6 * (i : Int) + 5).toNat = 6 * i + 5 := by omega
  have r1 : σ k2 (6 * i + 1) = D (6 + 6 * i + 1) := tt.1 i 1 c2 (by omega)
  have r2 : σ k2 (6 * i + 2) = D (6 + 6 * i + 2) := tt.1 i 2 c2 (by omega)
  have r4 : σ k2 (6 * i + 4) = D (6 + 6 * i + 4) := tt.1 i 4 c2 (by omega)
  have r5 : σ k2 (6 * i + 5) = D (6 + 6 * i + 5) := tt.1 i 5 c2 (by omega)
  have q := K.2.1 i c2
  have g := K.2.2.1 w c4
  have w0 := wi w 0 (by omega) (by omega)
  have w1 := wi w 1 (by omega) (by omega)
  have key := w_sd (x := D (6 + 6 * i + 2)) (y := D (78 + 3 * w + 0)) (a := D (6 + 6 * i + 4)) (b := D (6 + 6 * i + 5)) (c := D (6 + 6 * i + 1)) (d := D (78 + 3 * w + 1)) (by omega) (by omega) (by omega) (by omega) (by omega)
  have m8 : (D (6 + 6 * i + 2) - w_wi zx w 0 + 9).tmod 8 = (D (6 + 6 * i + 2) - w_wi zx w 0 + 9) % 8 := Int.tmod_eq_emod_of_nonneg (by omega)
  have d8 : (D (6 + 6 * i + 2) - w_wi zx w 0 + 9).tdiv 8 = (D (6 + 6 * i + 2) - w_wi zx w 0 + 9) / 8 := Int.tdiv_eq_ediv_of_nonneg (by omega)
  have h2 : (D (6 + 6 * i + 1)).tdiv 2 = D (6 + 6 * i + 1) / 2 := Int.tdiv_eq_ediv_of_nonneg (by omega)
  have e : q_sdD D w i = decide ((D (6 + 6 * i + 2) - D (78 + 3 * w + 0) + 9) % 8 < 3 ∧ D (6 + 6 * i + 4) + D (6 + 6 * i + 5) = 0 ∧ D (6 + 6 * i + 1) / 2 ≤ D (78 + 3 * w + 1)) := by
    unfold q_sdD
    rw [decide_eq_decide]
    exact key
  rw [e, w0, w1] at h
  rw [w0, w1] at g
  clear key e
  simp only [decide_eq_true_eq] at h
  refine h0 _ _ _ ?_
  simp only [z_push, z_lpush, z_iload, z_lload, z_aload, z_istore, z_istoreP, z_lstore, z_astore, z_iinc, z_iincP, z_iadd, z_isub, z_imul, z_iaddW, z_isubW, z_imulW, z_idiv, z_irem, z_iand, z_ior, z_ixor, z_ishl, z_ishr, z_iushr, z_ineg, z_i2l, z_i2b, z_i2s, z_i2c, z_l2i, z_ladd, z_lsub, z_land, z_lor, z_lshl, z_lshr, z_lcmp, z_dup, z_pop, z_dup2, z_goto, z_tsw, z_cases, z_geti, z_getr, z_puti, z_putz, z_ald, z_iast, z_bast, z_zast, z_alen, z_acopy, z_mmax, z_mmin, z_mabs, z_mabsL, z_iret, z_zret, z_nret, z_lret, z_aret, z_vret, z_cat, z_xald, z_xlen, z_ldcs, z_strv, z_strc, z_gcs, z_gfm, z_sln, z_sald, z_ifeq, z_ifne, z_iflt, z_ifge, z_ifgt, z_ifle, z_iceq, z_icne, z_iclt, z_icge, z_icgt, z_icle, z_cs0, z_cs1, z_cs2, z_cs3, z_cs4, z_cs5, z_cs6, z_cs7, z_cv0, z_cv1, z_cv2, z_cv3, z_cv4, z_cv5, z_cv6, z_cv7, z_g0, z_s0, z_g1, z_s1, z_g2, z_s2, z_g3, z_s3, z_g4, z_s4, z_g5, z_s5, z_g6, z_s6, z_g7, z_s7, z_g8, z_s8, z_g9, z_s9, z_g10, z_s10, z_g11, z_s11, z_g12, z_s12, z_g13, z_s13, z_b0, z_b1, z_b0n, z_b1n, z_up_far1, z_up_far2, z_up_far3, z_up_far4, z_up_far5, z_up_far6, Classical.not_not, not_true_eq_false, z_in, z_inL, Int.cast_ofNat_Int, Nat.reduceLeDiff, List.length_cons, List.length_nil, Nat.reduceAdd, Nat.zero_add, Nat.le_refl, true_and, and_true, List.length, Nat.reduceLT, true_or, or_true, false_or, or_false, false_and, and_false, not_true_eq_false, not_false_eq_true, forall_const, false_implies, true_implies, Int.reduceEq, Int.reduceLT, Int.reduceLE, Int.reduceAdd, Int.reduceSub, Int.reduceMul, Int.reduceNeg, Int.reduceToNat, Int.toNat_natCast, ↓reduceIte, reduceIte, Nat.reduceEqDiff, Nat.reduceSub, Nat.reduceMul, ne_eq, Int.zero_add, Int.add_zero, Int.sub_zero, Nat.add_zero, Int.ofNat_eq_natCast, tL_sounds_0, SL_wind, e1, e2, e4, e5, r1, r2, r4, r5, m8, d8, h2]
  repeat' (first | (intro _) | (with_reducible assumption) | (refine And.intro ?_ ?_))
  all_goals first | omega | assumption | (refine z_fin h ?_ rfl; first | rfl | omega | (split <;> omega) | (split <;> split <;> omega)) | skip
theorem dL_sounds_0 : decode cL_sounds 0 = .ok (.aload_n 1, 1) := by decide +kernel
theorem dL_sounds_1 : decode cL_sounds 1 = .ok (.bipush 6, 2) := by decide +kernel
theorem dL_sounds_3 : decode cL_sounds 3 = .ok (.iload_n 3, 1) := by decide +kernel
theorem dL_sounds_4 : decode cL_sounds 4 = .ok (.imul, 1) := by decide +kernel
theorem dL_sounds_5 : decode cL_sounds 5 = .ok (.iconst 2, 1) := by decide +kernel
theorem dL_sounds_6 : decode cL_sounds 6 = .ok (.iadd, 1) := by decide +kernel
theorem dL_sounds_7 : decode cL_sounds 7 = .ok (.iaload, 1) := by decide +kernel
theorem dL_sounds_8 : decode cL_sounds 8 = .ok (.aload_n 0, 1) := by decide +kernel
theorem dL_sounds_9 : decode cL_sounds 9 = .ok (.iload_n 2, 1) := by decide +kernel
theorem dL_sounds_10 : decode cL_sounds 10 = .ok (.iconst 0, 1) := by decide +kernel
theorem dL_sounds_11 : decode cL_sounds 11 = .ok (.invokestatic 52, 3) := by decide +kernel
theorem dL_sounds_14 : decode cL_sounds 14 = .ok (.isub, 1) := by decide +kernel
theorem dL_sounds_15 : decode cL_sounds 15 = .ok (.bipush 9, 2) := by decide +kernel
theorem dL_sounds_17 : decode cL_sounds 17 = .ok (.iadd, 1) := by decide +kernel
theorem dL_sounds_18 : decode cL_sounds 18 = .ok (.bipush 8, 2) := by decide +kernel
theorem dL_sounds_20 : decode cL_sounds 20 = .ok (.irem, 1) := by decide +kernel
theorem dL_sounds_21 : decode cL_sounds 21 = .ok (.istore 4, 2) := by decide +kernel
theorem dL_sounds_23 : decode cL_sounds 23 = .ok (.iload 4, 2) := by decide +kernel
theorem dL_sounds_25 : decode cL_sounds 25 = .ok (.iconst 3, 1) := by decide +kernel
theorem dL_sounds_26 : decode cL_sounds 26 = .ok (.if_icmp .ge 46, 3) := by decide +kernel
theorem dL_sounds_29 : decode cL_sounds 29 = .ok (.aload_n 1, 1) := by decide +kernel
theorem dL_sounds_30 : decode cL_sounds 30 = .ok (.bipush 6, 2) := by decide +kernel
theorem dL_sounds_32 : decode cL_sounds 32 = .ok (.iload_n 3, 1) := by decide +kernel
theorem dL_sounds_33 : decode cL_sounds 33 = .ok (.imul, 1) := by decide +kernel
theorem dL_sounds_34 : decode cL_sounds 34 = .ok (.iconst 4, 1) := by decide +kernel
theorem dL_sounds_35 : decode cL_sounds 35 = .ok (.iadd, 1) := by decide +kernel
theorem dL_sounds_36 : decode cL_sounds 36 = .ok (.iaload, 1) := by decide +kernel
theorem dL_sounds_37 : decode cL_sounds 37 = .ok (.aload_n 1, 1) := by decide +kernel
theorem dL_sounds_38 : decode cL_sounds 38 = .ok (.bipush 6, 2) := by decide +kernel
theorem dL_sounds_40 : decode cL_sounds 40 = .ok (.iload_n 3, 1) := by decide +kernel
theorem dL_sounds_41 : decode cL_sounds 41 = .ok (.imul, 1) := by decide +kernel
theorem dL_sounds_42 : decode cL_sounds 42 = .ok (.iconst 5, 1) := by decide +kernel
theorem dL_sounds_43 : decode cL_sounds 43 = .ok (.iadd, 1) := by decide +kernel
theorem dL_sounds_44 : decode cL_sounds 44 = .ok (.iaload, 1) := by decide +kernel
theorem dL_sounds_45 : decode cL_sounds 45 = .ok (.iadd, 1) := by decide +kernel
theorem dL_sounds_46 : decode cL_sounds 46 = .ok (.ifCond .ne 26, 3) := by decide +kernel
theorem dL_sounds_49 : decode cL_sounds 49 = .ok (.aload_n 0, 1) := by decide +kernel
theorem dL_sounds_50 : decode cL_sounds 50 = .ok (.iload_n 2, 1) := by decide +kernel
theorem dL_sounds_51 : decode cL_sounds 51 = .ok (.iconst 1, 1) := by decide +kernel
theorem dL_sounds_52 : decode cL_sounds 52 = .ok (.invokestatic 52, 3) := by decide +kernel
theorem dL_sounds_55 : decode cL_sounds 55 = .ok (.aload_n 1, 1) := by decide +kernel
theorem dL_sounds_56 : decode cL_sounds 56 = .ok (.bipush 6, 2) := by decide +kernel
theorem dL_sounds_58 : decode cL_sounds 58 = .ok (.iload_n 3, 1) := by decide +kernel
theorem dL_sounds_59 : decode cL_sounds 59 = .ok (.imul, 1) := by decide +kernel
theorem dL_sounds_60 : decode cL_sounds 60 = .ok (.iconst 1, 1) := by decide +kernel
theorem dL_sounds_61 : decode cL_sounds 61 = .ok (.iadd, 1) := by decide +kernel
theorem dL_sounds_62 : decode cL_sounds 62 = .ok (.iaload, 1) := by decide +kernel
theorem dL_sounds_63 : decode cL_sounds 63 = .ok (.iconst 2, 1) := by decide +kernel
theorem dL_sounds_64 : decode cL_sounds 64 = .ok (.idiv, 1) := by decide +kernel
theorem dL_sounds_65 : decode cL_sounds 65 = .ok (.if_icmp .lt 7, 3) := by decide +kernel
theorem dL_sounds_68 : decode cL_sounds 68 = .ok (.iconst 1, 1) := by decide +kernel
theorem dL_sounds_69 : decode cL_sounds 69 = .ok (.goto 4, 3) := by decide +kernel
theorem dL_sounds_72 : decode cL_sounds 72 = .ok (.iconst 0, 1) := by decide +kernel
theorem dL_sounds_73 : decode cL_sounds 73 = .ok (.ireturn, 1) := by decide +kernel
set_option maxRecDepth 100000 in
theorem rL_sounds_0 {zx : zX} {zn : Nat} {p : Program} {l : Launch} {e : Env} {s : State} {m : MethodId} {args : Array Value} {below : List Frame} {meth : Method} {c : Code} {D : va_G} {cA : Nat → ClassId} {ad : Nat → Nat} {Ret : zR} (C : z_Cx zx zn (z_A zn ad) 0 0 p { frames := 2, cells := 0, slots := 0, locals := 44 } s m args c cL_sounds yL_sounds.cls 5 D cA ad) (hr : meth.sig.returnType = (some .boolean)) (hlocks : meth.locks = false) : ∀ L st σ, tL_sounds_0 zx (z_X zx zn (z_A zn ad) 0 0 p l e { frames := 2, cells := 0, slots := 0, locals := 44 } s m args below meth c (MQ below (z_Qc zn D cA ad Ret) args s 0 0 (z_A zn ad)) 5 D cA ad true) Ret L st σ → z_X zx zn (z_A zn ad) 0 0 p l e { frames := 2, cells := 0, slots := 0, locals := 44 } s m args below meth c (MQ below (z_Qc zn D cA ad Ret) args s 0 0 (z_A zn ad)) 5 D cA ad true 0 L st σ := (s_aload_n C dL_sounds_0 rfl (s_bipush C dL_sounds_1 rfl ⟨by decide, by decide⟩ (s_iload_n C dL_sounds_3 rfl (s_imul C dL_sounds_4 (s_iconst C dL_sounds_5 rfl ⟨by decide, by decide⟩ (s_iadd C dL_sounds_6 (s_iald C dL_sounds_7 (s_aload_n C dL_sounds_8 rfl (s_iload_n C dL_sounds_9 rfl (s_iconst C dL_sounds_10 rfl ⟨by decide, by decide⟩ (s_cs3 C dL_sounds_11 (okL_wind l) wd_578 wd_579 wd_16 wd_580 ⟨by decide, by decide, by decide +kernel⟩ ⟨by decide, by decide⟩ (s_isub C dL_sounds_14 (s_bipush C dL_sounds_15 rfl ⟨by decide, by decide⟩ (s_iadd C dL_sounds_17 (s_bipush C dL_sounds_18 rfl ⟨by decide, by decide⟩ (s_irem C dL_sounds_20 (s_istore C dL_sounds_21 (by decide) rfl (s_iload C dL_sounds_23 (s_iconst C dL_sounds_25 rfl ⟨by decide, by decide⟩ (s_icge C dL_sounds_26 (by decide) (s_iconst C dL_sounds_72 rfl ⟨by decide, by decide⟩ (s_zret C dL_sounds_73 hr ⟨rfl, rfl⟩ hlocks)) (s_aload_n C dL_sounds_29 rfl (s_bipush C dL_sounds_30 rfl ⟨by decide, by decide⟩ (s_iload_n C dL_sounds_32 rfl (s_imul C dL_sounds_33 (s_iconst C dL_sounds_34 rfl ⟨by decide, by decide⟩ (s_iadd C dL_sounds_35 (s_iald C dL_sounds_36 (s_aload_n C dL_sounds_37 rfl (s_bipush C dL_sounds_38 rfl ⟨by decide, by decide⟩ (s_iload_n C dL_sounds_40 rfl (s_imul C dL_sounds_41 (s_iconst C dL_sounds_42 rfl ⟨by decide, by decide⟩ (s_iadd C dL_sounds_43 (s_iald C dL_sounds_44 (s_iadd C dL_sounds_45 (s_ifne C dL_sounds_46 (by decide) (s_iconst C dL_sounds_72 rfl ⟨by decide, by decide⟩ (s_zret C dL_sounds_73 hr ⟨rfl, rfl⟩ hlocks)) (s_aload_n C dL_sounds_49 rfl (s_iload_n C dL_sounds_50 rfl (s_iconst C dL_sounds_51 rfl ⟨by decide, by decide⟩ (s_cs3 C dL_sounds_52 (okL_wind l) wd_578 wd_579 wd_16 wd_580 ⟨by decide, by decide, by decide +kernel⟩ ⟨by decide, by decide⟩ (s_aload_n C dL_sounds_55 rfl (s_bipush C dL_sounds_56 rfl ⟨by decide, by decide⟩ (s_iload_n C dL_sounds_58 rfl (s_imul C dL_sounds_59 (s_iconst C dL_sounds_60 rfl ⟨by decide, by decide⟩ (s_iadd C dL_sounds_61 (s_iald C dL_sounds_62 (s_iconst C dL_sounds_63 rfl ⟨by decide, by decide⟩ (s_idiv C dL_sounds_64 (s_iclt C dL_sounds_65 (by decide) (s_iconst C dL_sounds_72 rfl ⟨by decide, by decide⟩ (s_zret C dL_sounds_73 hr ⟨rfl, rfl⟩ hlocks)) (s_iconst C dL_sounds_68 rfl ⟨by decide, by decide⟩ (s_goto C dL_sounds_69 (by decide) (s_zret C dL_sounds_73 hr ⟨rfl, rfl⟩ hlocks)))))))))))))))))))))))))))))))))))))))))))))))))))))
theorem okL_sounds {zx : zX} {zn : Nat} (l : Launch) : z_OK zx zn l yL_sounds cL_sounds 5 (some .boolean) 2 44 (SL_sounds zx) := by
  refine z_ok_of true (by decide +kernel) ?_ ?_
  · intro as σ Ret h
    obtain ⟨k1, k2, x3, x4, rfl⟩ := pL_sounds h
    exact ⟨Nat.le_of_ble_eq_true rfl, by simp⟩
  · intro p e s m args below meth c D cA ad Ret C hr hlocks as σ has hσ h
    obtain ⟨k1, k2, x3, x4, rfl⟩ := pL_sounds h
    exact vL_sounds (rL_sounds_0 C hr hlocks) k1 k2 x3 x4 σ (has _ (List.mem_of_getElem? (i := 0) rfl)).1 (has _ (List.mem_of_getElem? (i := 1) rfl)).1 (has _ (List.mem_of_getElem? (i := 2) rfl)) (has _ (List.mem_of_getElem? (i := 3) rfl)) hσ h
