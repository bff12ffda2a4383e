/-! orders done one by one -/
theorem q_cl_cases (b : Nat) (o : Int) (t : Nat) : (q_cl b o = b + 2 ∧ (o = 0 ∨ o = 1) ∧ q_ix o t = t) ∨ (q_cl b o = b + 4 ∧ o = 2 ∧ q_ix o t = t) ∨ (q_cl b o = b + 6 ∧ (o = 3 ∨ o = 4) ∧ q_ix o t = t) ∨ (q_cl b o = b + 7 ∧ o = 5 ∧ q_ix o t = t) ∨ (q_cl b o = b ∧ (o < 0 ∨ 5 < o) ∧ (5 < o → q_ix o t = 6)) := by
  unfold q_cl q_ix
  by_cases h0 : o = 0
  · subst h0; simp
  by_cases h1 : o = 1
  · subst h1; simp
  by_cases h2 : o = 2
  · subst h2; simp
  by_cases h3 : o = 3
  · subst h3; simp
  by_cases h4 : o = 4
  · subst h4; simp
  by_cases h5 : o = 5
  · subst h5; simp
  · rw [if_neg h0, if_neg h1, if_neg h2, if_neg h3, if_neg h4, if_neg h5]
    refine Or.inr (Or.inr (Or.inr (Or.inr ⟨rfl, by omega, fun h => ?_⟩)))
    rw [if_neg (by omega)]
theorem q_carry_far {σ : zM} {b : Nat} {o : Int} {t : Nat} {n : Int} (ho : 0 ≤ o) {c j : Nat} (h : c < b ∨ b + 16 < c ∨ c = b + 1 ∨ c = b + 3 ∨ c = b + 5 ∨ (b + 8 ≤ c ∧ c ≤ b + 11) ∨ c = b + 16 ∨ (c = b ∧ j ≠ 6)) : q_carry σ b o t n c j = σ c j := by
  have hcl := q_cl_cases b o t
  unfold q_carry
  have e : c ≠ q_cl b o ∨ j ≠ q_ix o t := by
    rcases hcl with ⟨h1, -⟩ | ⟨h1, -⟩ | ⟨h1, -⟩ | ⟨h1, -⟩ | ⟨h1, h2, h3⟩
    · left; omega
    · left; omega
    · left; omega
    · left; omega
    · have := h3 (by omega)
      omega
  rw [z_up_ne (by omega), z_up_ne (by omega), z_up_ne (by omega), z_up_ne (by omega), z_up_ne e]
theorem q_carry_cnt {σ : zM} {b : Nat} {o : Int} {t : Nat} {n : Int} : q_carry σ b o t n (b + 12) 3 = σ (b + 12) 3 + 1 := by
  unfold q_carry
  rw [z_up_eq]
theorem q_carry_len {σ : zM} {b : Nat} {o : Int} {t : Nat} {n : Int} {j : Nat} (h : 0 ≤ σ (b + 2) j ∧ σ (b + 2) j ≤ 999) : 0 ≤ q_carry σ b o t n (b + 2) j ∧ q_carry σ b o t n (b + 2) j ≤ 999 := by
  unfold q_carry
  rw [z_up_ne (by omega), z_up_ne (by omega), z_up_ne (by omega), z_up_ne (by omega)]
  by_cases e : b + 2 ≠ q_cl b o ∨ j ≠ q_ix o t
  · rw [z_up_ne e]; exact h
  · have e1 : q_cl b o = b + 2 := by omega
    have e2 : q_ix o t = j := by omega
    have ho : o = 0 ∨ o = 1 := by
      rcases q_cl_cases b o t with ⟨h1, h2, -⟩ | ⟨h1, -⟩ | ⟨h1, -⟩ | ⟨h1, -⟩ | ⟨h1, -⟩
      · exact h2
      all_goals omega
    rw [e1, e2, z_up_eq]
    unfold q_new
    rcases ho with rfl | rfl
    · rw [if_pos rfl]; omega
    · rw [if_neg (by decide), if_pos rfl]; omega
def q_carries (σ : zM) (b d : Nat) : Nat → zM
  | 0 => σ
  | n + 1 => q_carry (q_carries σ b d n) b (σ (d + 1) n) (σ (d + 2) n).toNat (σ (d + 3) n)
def q_csok (σ : zM) (b d : Nat) : Prop := (d + 3 < b ∨ b + 16 < d) ∧ (0 ≤ σ d 3 ∧ σ d 3 ≤ 12) ∧ (∀ i : Nat, (i : Int) < σ d 3 → (0 ≤ σ (d + 1) i ∧ σ (d + 1) i ≤ 7) ∧ (0 ≤ σ (d + 2) i ∧ σ (d + 2) i < σ (b + 1) 6) ∧ 0 ≤ σ (d + 3) i ∧ σ (d + 3) i ≤ 100) ∧ σ (b + 1) 6 ≤ 12 ∧ (0 ≤ σ (b + 12) 3 ∧ σ (b + 12) 3 + σ d 3 ≤ 60) ∧ ∀ t : Nat, (t : Int) < σ (b + 1) 6 → 0 ≤ σ (b + 2) t ∧ σ (b + 2) t ≤ 999
theorem q_carries_inv {σ : zM} {b d : Nat} (h : q_csok σ b d) : ∀ n : Nat, (n : Int) ≤ σ d 3 → (∀ c j, (c < b ∨ b + 16 < c ∨ c = b + 1 ∨ c = b + 3 ∨ c = b + 5 ∨ (b + 8 ≤ c ∧ c ≤ b + 11) ∨ c = b + 16 ∨ (c = b ∧ j ≠ 6)) → q_carries σ b d n c j = σ c j) ∧ q_carries σ b d n (b + 12) 3 = σ (b + 12) 3 + n ∧ ∀ t : Nat, (t : Int) < σ (b + 1) 6 → 0 ≤ q_carries σ b d n (b + 2) t ∧ q_carries σ b d n (b + 2) t ≤ 999
  | 0, _ => ⟨fun _ _ _ => rfl, by simp [q_carries], h.2.2.2.2.2⟩
  | n + 1, hn => by
    obtain ⟨i1, i2, i3⟩ := q_carries_inv h n (by omega)
    have ho := (h.2.2.1 n (by omega)).1.1
    refine ⟨fun c j hc => ?_, ?_, fun t ht => ?_⟩
    · rw [q_carries, q_carry_far ho hc, i1 c j hc]
    · rw [q_carries, q_carry_cnt, i2]; omega
    · rw [q_carries]; exact q_carry_len (i3 t ht)
def SX8_carryOutAll : zS := fun as σ Ret => match as with
  | [.inr (.inr (8, 0, b)), .inr (.inr (2, 0, d))] => q_csok σ b d ∧ Ret none (q_carries σ b d (σ d 3).toNat)
  | _ => False
def tX8_carryOutAll_0 (X : Nat → zB) (Ret : zR) (L : zL) (st : List zV) (σ : zM) : Prop := (z_push 0 (z_istore 2 (X 2))) L st σ
def tX8_carryOutAll_2 (X : Nat → zB) (Ret : zR) (L : zL) (st : List zV) (σ : zM) : Prop := (z_iload 2 (z_aload 1 (z_geti 2 3 (z_icge (z_vret Ret) (z_iload 2 (z_push 60 (z_icge (z_vret Ret) (z_aload 0 (z_aload 1 (z_getr 2 1 100 60 (z_iload 2 (z_ald 0 (z_aload 1 (z_getr 2 2 100 60 (z_iload 2 (z_ald 0 (z_aload 1 (z_getr 2 3 100 60 (z_iload 2 (z_ald 0 (z_cv3 8 SX8_carryOut (z_iinc 2 1 (z_goto (X 2)))))))))))))))))))))))) L st σ
theorem pX8_carryOutAll {as : List zV} {σ : zM} {Ret : zR} (h : SX8_carryOutAll as σ Ret) : ∃ (k0 : Nat) (k1 : Nat), as = [.inr (.inr (8, 0, k0)), .inr (.inr (2, 0, k1))] := by
  unfold SX8_carryOutAll at h
  split at h
  · exact ⟨_, _, rfl⟩
  · exact h.elim
set_option maxRecDepth 10000 in
set_option maxHeartbeats 4000000 in
theorem vX8_carryOutAll {X : Nat → zB} {Ret : zR} (h0 : ∀ L st σ, tX8_carryOutAll_0 X Ret L st σ → X 0 L st σ) (h2 : ∀ L st σ, tX8_carryOutAll_2 X Ret L st σ → X 2 L st σ) (k0 : Nat) (k1 : Nat) (σ : zM) (hk0 : z_kd k0 = (8, 0)) (hk1 : z_kd k1 = (2, 0)) (hσ : z_okm σ) (h : SX8_carryOutAll [.inr (.inr (8, 0, k0)), .inr (.inr (2, 0, k1))] σ Ret) : X 0 [some (.inr (.inr (8, 0, k0))), some (.inr (.inr (2, 0, k1))), none] [] σ := by
  obtain ⟨ok, h⟩ := h
  have ok2 := ok
  obtain ⟨hd, hc, hv, ht, hs, hl⟩ := ok2
  have hc0 := hc.1
  obtain ⟨n, hn⟩ := z_nat hc0
  rw [hn, Int.toNat_natCast] at h
  have inv := q_carries_inv ok
  have loop : ∀ (dd i : Nat), i + dd = n → X 2 [some (.inr (.inr (8, 0, k0))), some (.inr (.inr (2, 0, k1))), some (.inl (i : Int))] [] (q_carries σ k0 k1 i) := by
    intro dd
    induction dd with
    | zero =>
      intro i hi
      obtain ⟨i1, i2, i3⟩ := inv i (by omega)
      refine h2 _ _ _ ?_
      simp only [z_push, z_lpush, z_iload, z_lload, z_aload, z_istore, z_istoreP, z_lstore, z_astore, z_iinc, z_iincP, z_iadd, z_isub, z_imul, z_iaddW, z_isubW, z_imulW, z_idiv, z_irem, z_iand, z_ior, z_ixor, z_ishl, z_ishr, z_iushr, z_ineg, z_i2l, z_i2b, z_i2s, z_i2c, z_l2i, z_ladd, z_lsub, z_land, z_lor, z_lshl, z_lshr, z_lcmp, z_dup, z_pop, z_dup2, z_goto, z_tsw, z_cases, z_geti, z_getr, z_puti, z_putz, z_ald, z_iast, z_bast, z_zast, z_alen, z_acopy, z_mmax, z_mmin, z_mabs, z_mabsL, z_iret, z_zret, z_nret, z_lret, z_aret, z_vret, z_cat, z_xald, z_xlen, z_ldcs, z_strv, z_strc, z_gcs, z_gfm, z_sln, z_sald, z_ifeq, z_ifne, z_iflt, z_ifge, z_ifgt, z_ifle, z_iceq, z_icne, z_iclt, z_icge, z_icgt, z_icle, z_cs0, z_cs1, z_cs2, z_cs3, z_cs4, z_cs5, z_cs6, z_cs7, z_cv0, z_cv1, z_cv2, z_cv3, z_cv4, z_cv5, z_cv6, z_cv7, z_g0, z_s0, z_g1, z_s1, z_g2, z_s2, z_g3, z_s3, z_g4, z_s4, z_g5, z_s5, z_g6, z_s6, z_g7, z_s7, z_g8, z_s8, z_g9, z_s9, z_g10, z_s10, z_g11, z_s11, z_g12, z_s12, z_g13, z_s13, z_b0, z_b1, z_b0n, z_b1n, z_up_far1, z_up_far2, z_up_far3, z_up_far4, z_up_far5, z_up_far6, Classical.not_not, not_true_eq_false, z_in, z_inL, Int.cast_ofNat_Int, Nat.reduceLeDiff, List.length_cons, List.length_nil, Nat.reduceAdd, Nat.zero_add, Nat.le_refl, true_and, and_true, List.length, Nat.reduceLT, true_or, or_true, false_or, or_false, false_and, and_false, not_true_eq_false, not_false_eq_true, forall_const, false_implies, true_implies, Int.reduceEq, Int.reduceLT, Int.reduceLE, Int.reduceAdd, Int.reduceSub, Int.reduceMul, Int.reduceNeg, Int.reduceToNat, Int.toNat_natCast, ↓reduceIte, reduceIte, Nat.reduceEqDiff, Nat.reduceSub, Nat.reduceMul, ne_eq, Int.zero_add, Int.add_zero, Int.sub_zero, Nat.add_zero, Int.ofNat_eq_natCast, tX8_carryOutAll_2, i1 k1 3 (by omega), hn]
      have e : i = n := by omega
      subst e
      repeat' (first | (intro _) | (with_reducible assumption) | (refine And.intro ?_ ?_))
      all_goals first | omega | assumption | (refine z_fin h ?_ rfl; first | rfl | omega | (split <;> omega) | (split <;> split <;> omega)) | skip
    | succ dd ih =>
      intro i hi
      have e1 := ih (i + 1) (by omega)
      obtain ⟨i1, i2, i3⟩ := inv i (by omega)
      obtain ⟨v1, v2, v3⟩ := hv i (by omega)
      refine h2 _ _ _ ?_
      simp only [z_push, z_lpush, z_iload, z_lload, z_aload, z_istore, z_istoreP, z_lstore, z_astore, z_iinc, z_iincP, z_iadd, z_isub, z_imul, z_iaddW, z_isubW, z_imulW, z_idiv, z_irem, z_iand, z_ior, z_ixor, z_ishl, z_ishr, z_iushr, z_ineg, z_i2l, z_i2b, z_i2s, z_i2c, z_l2i, z_ladd, z_lsub, z_land, z_lor, z_lshl, z_lshr, z_lcmp, z_dup, z_pop, z_dup2, z_goto, z_tsw, z_cases, z_geti, z_getr, z_puti, z_putz, z_ald, z_iast, z_bast, z_zast, z_alen, z_acopy, z_mmax, z_mmin, z_mabs, z_mabsL, z_iret, z_zret, z_nret, z_lret, z_aret, z_vret, z_cat, z_xald, z_xlen, z_ldcs, z_strv, z_strc, z_gcs, z_gfm, z_sln, z_sald, z_ifeq, z_ifne, z_iflt, z_ifge, z_ifgt, z_ifle, z_iceq, z_icne, z_iclt, z_icge, z_icgt, z_icle, z_cs0, z_cs1, z_cs2, z_cs3, z_cs4, z_cs5, z_cs6, z_cs7, z_cv0, z_cv1, z_cv2, z_cv3, z_cv4, z_cv5, z_cv6, z_cv7, z_g0, z_s0, z_g1, z_s1, z_g2, z_s2, z_g3, z_s3, z_g4, z_s4, z_g5, z_s5, z_g6, z_s6, z_g7, z_s7, z_g8, z_s8, z_g9, z_s9, z_g10, z_s10, z_g11, z_s11, z_g12, z_s12, z_g13, z_s13, z_b0, z_b1, z_b0n, z_b1n, z_up_far1, z_up_far2, z_up_far3, z_up_far4, z_up_far5, z_up_far6, Classical.not_not, not_true_eq_false, z_in, z_inL, Int.cast_ofNat_Int, Nat.reduceLeDiff, List.length_cons, List.length_nil, Nat.reduceAdd, Nat.zero_add, Nat.le_refl, true_and, and_true, List.length, Nat.reduceLT, true_or, or_true, false_or, or_false, false_and, and_false, not_true_eq_false, not_false_eq_true, forall_const, false_implies, true_implies, Int.reduceEq, Int.reduceLT, Int.reduceLE, Int.reduceAdd, Int.reduceSub, Int.reduceMul, Int.reduceNeg, Int.reduceToNat, Int.toNat_natCast, ↓reduceIte, reduceIte, Nat.reduceEqDiff, Nat.reduceSub, Nat.reduceMul, ne_eq, Int.zero_add, Int.add_zero, Int.sub_zero, Nat.add_zero, Int.ofNat_eq_natCast, tX8_carryOutAll_2, i1 k1 3 (by omega), i1 (k1 + 1) i (by omega), i1 (k1 + 2) i (by omega), i1 (k1 + 3) i (by omega), hn, SX8_carryOut]
      have c1 : q_cok (q_carries σ k0 k1 i) k0 (σ (k1 + 1) i) (σ (k1 + 2) i) (σ (k1 + 3) i) := by
        unfold q_cok
        rw [i1 (k0 + 1) 6 (by omega), i2]
        have := i3 (σ (k1 + 2) i).toNat (by omega)
        exact ⟨v1, ⟨v2, by omega⟩, v3, this, by omega, by omega⟩
      repeat' (first | (intro _) | (with_reducible assumption) | (refine And.intro ?_ ?_))
      all_goals first | omega | assumption | (refine z_fin h ?_ rfl; first | rfl | omega | (split <;> omega) | (split <;> split <;> omega)) | skip
  refine h0 _ _ _ ?_
  simp only [z_push, z_lpush, z_iload, z_lload, z_aload, z_istore, z_istoreP, z_lstore, z_astore, z_iinc, z_iincP, z_iadd, z_isub, z_imul, z_iaddW, z_isubW, z_imulW, z_idiv, z_irem, z_iand, z_ior, z_ixor, z_ishl, z_ishr, z_iushr, z_ineg, z_i2l, z_i2b, z_i2s, z_i2c, z_l2i, z_ladd, z_lsub, z_land, z_lor, z_lshl, z_lshr, z_lcmp, z_dup, z_pop, z_dup2, z_goto, z_tsw, z_cases, z_geti, z_getr, z_puti, z_putz, z_ald, z_iast, z_bast, z_zast, z_alen, z_acopy, z_mmax, z_mmin, z_mabs, z_mabsL, z_iret, z_zret, z_nret, z_lret, z_aret, z_vret, z_cat, z_xald, z_xlen, z_ldcs, z_strv, z_strc, z_gcs, z_gfm, z_sln, z_sald, z_ifeq, z_ifne, z_iflt, z_ifge, z_ifgt, z_ifle, z_iceq, z_icne, z_iclt, z_icge, z_icgt, z_icle, z_cs0, z_cs1, z_cs2, z_cs3, z_cs4, z_cs5, z_cs6, z_cs7, z_cv0, z_cv1, z_cv2, z_cv3, z_cv4, z_cv5, z_cv6, z_cv7, z_g0, z_s0, z_g1, z_s1, z_g2, z_s2, z_g3, z_s3, z_g4, z_s4, z_g5, z_s5, z_g6, z_s6, z_g7, z_s7, z_g8, z_s8, z_g9, z_s9, z_g10, z_s10, z_g11, z_s11, z_g12, z_s12, z_g13, z_s13, z_b0, z_b1, z_b0n, z_b1n, z_up_far1, z_up_far2, z_up_far3, z_up_far4, z_up_far5, z_up_far6, Classical.not_not, not_true_eq_false, z_in, z_inL, Int.cast_ofNat_Int, Nat.reduceLeDiff, List.length_cons, List.length_nil, Nat.reduceAdd, Nat.zero_add, Nat.le_refl, true_and, and_true, List.length, Nat.reduceLT, true_or, or_true, false_or, or_false, false_and, and_false, not_true_eq_false, not_false_eq_true, forall_const, false_implies, true_implies, Int.reduceEq, Int.reduceLT, Int.reduceLE, Int.reduceAdd, Int.reduceSub, Int.reduceMul, Int.reduceNeg, Int.reduceToNat, Int.toNat_natCast, ↓reduceIte, reduceIte, Nat.reduceEqDiff, Nat.reduceSub, Nat.reduceMul, ne_eq, Int.zero_add, Int.add_zero, Int.sub_zero, Nat.add_zero, Int.ofNat_eq_natCast, tX8_carryOutAll_0]
  exact loop n 0 (by omega)
theorem dX8_carryOutAll_0 : decode cX8_carryOutAll 0 = .ok (.iconst 0, 1) := by decide +kernel
theorem dX8_carryOutAll_1 : decode cX8_carryOutAll 1 = .ok (.istore_n 2, 1) := by decide +kernel
theorem dX8_carryOutAll_2 : decode cX8_carryOutAll 2 = .ok (.iload_n 2, 1) := by decide +kernel
theorem dX8_carryOutAll_3 : decode cX8_carryOutAll 3 = .ok (.aload_n 1, 1) := by decide +kernel
theorem dX8_carryOutAll_4 : decode cX8_carryOutAll 4 = .ok (.getfield 41, 3) := by decide +kernel
theorem dX8_carryOutAll_7 : decode cX8_carryOutAll 7 = .ok (.if_icmp .ge 37, 3) := by decide +kernel
theorem dX8_carryOutAll_10 : decode cX8_carryOutAll 10 = .ok (.iload_n 2, 1) := by decide +kernel
theorem dX8_carryOutAll_11 : decode cX8_carryOutAll 11 = .ok (.bipush 60, 2) := by decide +kernel
theorem dX8_carryOutAll_13 : decode cX8_carryOutAll 13 = .ok (.if_icmp .ge 31, 3) := by decide +kernel
theorem dX8_carryOutAll_16 : decode cX8_carryOutAll 16 = .ok (.aload_n 0, 1) := by decide +kernel
theorem dX8_carryOutAll_17 : decode cX8_carryOutAll 17 = .ok (.aload_n 1, 1) := by decide +kernel
theorem dX8_carryOutAll_18 : decode cX8_carryOutAll 18 = .ok (.getfield 109, 3) := by decide +kernel
theorem dX8_carryOutAll_21 : decode cX8_carryOutAll 21 = .ok (.iload_n 2, 1) := by decide +kernel
theorem dX8_carryOutAll_22 : decode cX8_carryOutAll 22 = .ok (.iaload, 1) := by decide +kernel
theorem dX8_carryOutAll_23 : decode cX8_carryOutAll 23 = .ok (.aload_n 1, 1) := by decide +kernel
theorem dX8_carryOutAll_24 : decode cX8_carryOutAll 24 = .ok (.getfield 112, 3) := by decide +kernel
theorem dX8_carryOutAll_27 : decode cX8_carryOutAll 27 = .ok (.iload_n 2, 1) := by decide +kernel
theorem dX8_carryOutAll_28 : decode cX8_carryOutAll 28 = .ok (.iaload, 1) := by decide +kernel
theorem dX8_carryOutAll_29 : decode cX8_carryOutAll 29 = .ok (.aload_n 1, 1) := by decide +kernel
theorem dX8_carryOutAll_30 : decode cX8_carryOutAll 30 = .ok (.getfield 115, 3) := by decide +kernel
theorem dX8_carryOutAll_33 : decode cX8_carryOutAll 33 = .ok (.iload_n 2, 1) := by decide +kernel
theorem dX8_carryOutAll_34 : decode cX8_carryOutAll 34 = .ok (.iaload, 1) := by decide +kernel
theorem dX8_carryOutAll_35 : decode cX8_carryOutAll 35 = .ok (.invokevirtual 118, 3) := by decide +kernel
theorem dX8_carryOutAll_38 : decode cX8_carryOutAll 38 = .ok (.iinc 2 1, 3) := by decide +kernel
theorem dX8_carryOutAll_41 : decode cX8_carryOutAll 41 = .ok (.goto (-39), 3) := by decide +kernel
theorem dX8_carryOutAll_44 : decode cX8_carryOutAll 44 = .ok (.return_, 1) := by decide +kernel
set_option maxRecDepth 100000 in
theorem rX8_carryOutAll_0 {zx : zX} {zn : Nat} {p : Program} {l : Launch} {e : Env} {s : State} {m : MethodId} {args : Array Value} {below : List Frame} {meth : Method} {c : Code} {D : va_G} {cA : Nat → ClassId} {ad : Nat → Nat} {Ret : zR} (C : z_Cx zx zn (z_A zn ad) 0 0 p { frames := 4, cells := 0, slots := 0, locals := 89 } s m args c cX8_carryOutAll yX8_carryOutAll.cls 3 D cA ad) (hr : meth.sig.returnType = none) (hlocks : meth.locks = false) : ∀ L st σ, tX8_carryOutAll_0 (z_X zx zn (z_A zn ad) 0 0 p l e { frames := 4, cells := 0, slots := 0, locals := 89 } s m args below meth c (MQ below (z_Qc zn D cA ad Ret) args s 0 0 (z_A zn ad)) 3 D cA ad true) Ret L st σ → z_X zx zn (z_A zn ad) 0 0 p l e { frames := 4, cells := 0, slots := 0, locals := 89 } s m args below meth c (MQ below (z_Qc zn D cA ad Ret) args s 0 0 (z_A zn ad)) 3 D cA ad true 0 L st σ := (s_iconst C dX8_carryOutAll_0 rfl ⟨by decide, by decide⟩ (s_istore_n C dX8_carryOutAll_1 (by decide) rfl rfl (fun _ _ _ h => h)))
set_option maxRecDepth 100000 in
theorem rX8_carryOutAll_2 {zx : zX} {zn : Nat} {p : Program} {l : Launch} {e : Env} {s : State} {m : MethodId} {args : Array Value} {below : List Frame} {meth : Method} {c : Code} {D : va_G} {cA : Nat → ClassId} {ad : Nat → Nat} {Ret : zR} (C : z_Cx zx zn (z_A zn ad) 0 0 p { frames := 4, cells := 0, slots := 0, locals := 89 } s m args c cX8_carryOutAll yX8_carryOutAll.cls 3 D cA ad) (hr : meth.sig.returnType = none) (hlocks : meth.locks = false) : ∀ L st σ, tX8_carryOutAll_2 (z_X zx zn (z_A zn ad) 0 0 p l e { frames := 4, cells := 0, slots := 0, locals := 89 } s m args below meth c (MQ below (z_Qc zn D cA ad Ret) args s 0 0 (z_A zn ad)) 3 D cA ad true) Ret L st σ → z_X zx zn (z_A zn ad) 0 0 p l e { frames := 4, cells := 0, slots := 0, locals := 89 } s m args below meth c (MQ below (z_Qc zn D cA ad Ret) args s 0 0 (z_A zn ad)) 3 D cA ad true 2 L st σ := (s_iload_n C dX8_carryOutAll_2 rfl (s_aload_n C dX8_carryOutAll_3 rfl (s_geti C dX8_carryOutAll_4 cls_X2 (by decide) rfl wd_180 (s_icge C dX8_carryOutAll_7 (by decide) (s_vret C dX8_carryOutAll_44 hr hlocks) (s_iload_n C dX8_carryOutAll_10 rfl (s_bipush C dX8_carryOutAll_11 rfl ⟨by decide, by decide⟩ (s_icge C dX8_carryOutAll_13 (by decide) (s_vret C dX8_carryOutAll_44 hr hlocks) (s_aload_n C dX8_carryOutAll_16 rfl (s_aload_n C dX8_carryOutAll_17 rfl (s_getr C dX8_carryOutAll_18 (j := 0) cls_X2 (by decide) rfl (by decide) (by decide) (by decide +kernel) wd_174 (s_iload_n C dX8_carryOutAll_21 rfl (s_iald C dX8_carryOutAll_22 (s_aload_n C dX8_carryOutAll_23 rfl (s_getr C dX8_carryOutAll_24 (j := 1) cls_X2 (by decide) rfl (by decide) (by decide) (by decide +kernel) wd_176 (s_iload_n C dX8_carryOutAll_27 rfl (s_iald C dX8_carryOutAll_28 (s_aload_n C dX8_carryOutAll_29 rfl (s_getr C dX8_carryOutAll_30 (j := 2) cls_X2 (by decide) rfl (by decide) (by decide) (by decide +kernel) wd_178 (s_iload_n C dX8_carryOutAll_33 rfl (s_iald C dX8_carryOutAll_34 (s_cv3 C dX8_carryOutAll_35 (okX8_carryOut l) cls_X8 wd_453 wd_455 wd_11 wd_20 wd_456 ⟨by decide, by decide, by decide +kernel⟩ ⟨by decide, by decide⟩ (s_iinc C dX8_carryOutAll_38 (by decide) rfl (s_goto C dX8_carryOutAll_41 (by decide) (fun _ _ _ h => h))))))))))))))))))))))))
theorem okX8_carryOutAll {zx : zX} {zn : Nat} (l : Launch) : z_OK zx zn l yX8_carryOutAll cX8_carryOutAll 3 none 4 89 SX8_carryOutAll := by
  refine z_ok_of true (by decide +kernel) ?_ ?_
  · intro as σ Ret h
    obtain ⟨k0, k1, rfl⟩ := pX8_carryOutAll h
    exact ⟨Nat.le_of_ble_eq_true rfl, by simp⟩
  · intro p e s m args below meth c D cA ad Ret C hr hlocks as σ has hσ h
    obtain ⟨k0, k1, rfl⟩ := pX8_carryOutAll h
    exact vX8_carryOutAll (rX8_carryOutAll_0 C hr hlocks) (rX8_carryOutAll_2 C hr hlocks) k0 k1 σ (has _ (List.mem_of_getElem? (i := 0) rfl)).1 (has _ (List.mem_of_getElem? (i := 1) rfl)).1 hσ h
