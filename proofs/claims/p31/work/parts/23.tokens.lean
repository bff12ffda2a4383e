/-! the reader's steps -/
def q_fr (k : Nat) (σ σ' : zM) : Prop := ∀ c j, ¬ (c = k ∧ 2 ≤ j ∧ j ≤ 6) → σ' c j = σ c j
theorem q_fr.rf {k : Nat} {σ : zM} : q_fr k σ σ := fun _ _ _ => rfl
theorem q_fr.tr {k : Nat} {σ τ υ : zM} (h1 : q_fr k σ τ) (h2 : q_fr k τ υ) : q_fr k σ υ := fun c j h => (h2 c j h).trans (h1 c j h)
theorem q_fr.up {k : Nat} {σ τ : zM} (h1 : q_fr k σ τ) {i : Nat} (hi : 2 ≤ i ∧ i ≤ 6) (v : Int) : q_fr k σ (z_up τ k i v) := fun c j h => by rw [z_up_ne (by omega)]; exact h1 c j h
def q_rs (σ : zM) (k : Nat) (b : Nat → Int) (T p : Nat) (f : Int) : Prop := σ k 1 = (T : Int) ∧ T ≤ 400 ∧ q_by (σ (k + 1)) T = b ∧ q_at σ k b T p ∧ p ≤ T ∧ σ k 3 = f
theorem q_rs.fault {σ : zM} {k : Nat} {b : Nat → Int} {T p : Nat} {f : Int} (h : q_rs σ k b T p f) (v : Int) : q_rs (z_up σ k 3 v) k b T p v := by
  obtain ⟨h1, h2, h3, ⟨a1, a2, a3, a4⟩, h5, h6⟩ := h
  have e : z_up σ k 3 v (k + 1) = σ (k + 1) := funext fun j => z_up_ne (Or.inl (by omega))
  refine ⟨?_, h2, by rw [e]; exact h3, ⟨?_, ?_, ?_, fun q => ?_⟩, h5, z_up_eq⟩
  · rw [z_up_ne (by omega)]; exact h1
  · rw [z_up_ne (by omega)]; exact a1
  · rw [z_up_ne (by omega)]; exact a2
  · rw [z_up_ne (by omega)]; exact a3
  · rw [z_up_ne (by omega)]; exact a4 q
/-- next, from a state of the reader -/
theorem q_next {σ : zM} {k : Nat} {b : Nat → Int} {T p : Nat} {f : Int} {K : zR} (h : q_rs σ k b T p f) (hk : ∀ σ' : zM, q_fr k σ σ' → q_rs σ' k b T (q_te b T p) f → K none σ') : SX4_next [.inr (.inr (4, 0, k))] σ K := by
  obtain ⟨h1, h2, h3, ⟨a1, a2, a3, a4⟩, h5, h6⟩ := h
  have he := q_te_in (b := b) h5
  refine ⟨⟨by omega, by omega, by omega⟩, fun σ' f1 f2 => ?_⟩
  rw [h1, a2] at f2
  simp only [Int.toNat_natCast, h3] at f2
  have e : σ' (k + 1) = σ (k + 1) := funext fun j => f1 _ _ (by omega)
  refine hk σ' (fun c j hc => f1 c j (by omega)) ⟨?_, h2, by rw [e]; exact h3, f2, he.2, ?_⟩
  · rw [f1 _ _ (by omega)]; exact h1
  · rw [f1 _ _ (by omega)]; exact h6
def SX4_begin : zS := fun as σ Ret => match as with
  | [.inr (.inr (4, 0, k))] => (0 ≤ σ k 1 ∧ σ k 1 ≤ 400) ∧ ∀ σ' : zM, q_fr k σ σ' → q_rs σ' k (q_by (σ (k + 1)) (σ k 1).toNat) (σ k 1).toNat 0 0 → Ret none σ'
  | _ => False
def tX4_begin_0 (X : Nat → zB) (Ret : zR) (L : zL) (st : List zV) (σ : zM) : Prop := (z_aload 0 (z_push 0 (z_puti 4 4 (z_aload 0 (z_push 0 (z_puti 4 3 (z_aload 0 (z_cv0 4 SX4_next (z_vret Ret))))))))) L st σ
theorem pX4_begin {as : List zV} {σ : zM} {Ret : zR} (h : SX4_begin as σ Ret) : ∃ (k0 : Nat), as = [.inr (.inr (4, 0, k0))] := by
  unfold SX4_begin at h
  split at h
  · exact ⟨_, rfl⟩
  · exact h.elim
set_option maxRecDepth 10000 in
set_option maxHeartbeats 4000000 in
theorem vX4_begin {X : Nat → zB} {Ret : zR} (h0 : ∀ L st σ, tX4_begin_0 X Ret L st σ → X 0 L st σ) (k0 : Nat) (σ : zM) (hk0 : z_kd k0 = (4, 0)) (hσ : z_okm σ) (h : SX4_begin [.inr (.inr (4, 0, k0))] σ Ret) : X 0 [some (.inr (.inr (4, 0, k0)))] [] σ := by
  obtain ⟨⟨c0, c1⟩, h⟩ := h
  obtain ⟨T, hT⟩ := z_nat c0
  rw [hT] at h
  simp only [Int.toNat_natCast] at h
  refine h0 _ _ _ ?_
  simp only [z_push, z_lpush, z_iload, z_lload, z_aload, z_istore, z_istoreP, z_lstore, z_astore, z_iinc, z_iincP, z_iadd, z_isub, z_imul, z_iaddW, z_isubW, z_imulW, z_idiv, z_irem, z_iand, z_ior, z_ixor, z_ishl, z_ishr, z_iushr, z_ineg, z_i2l, z_i2b, z_i2s, z_i2c, z_l2i, z_ladd, z_lsub, z_land, z_lor, z_lshl, z_lshr, z_lcmp, z_dup, z_pop, z_dup2, z_goto, z_tsw, z_cases, z_geti, z_getr, z_puti, z_putz, z_ald, z_iast, z_bast, z_zast, z_alen, z_acopy, z_mmax, z_mmin, z_mabs, z_mabsL, z_iret, z_zret, z_nret, z_lret, z_aret, z_vret, z_cat, z_xald, z_xlen, z_ldcs, z_strv, z_strc, z_gcs, z_gfm, z_sln, z_sald, z_ifeq, z_ifne, z_iflt, z_ifge, z_ifgt, z_ifle, z_iceq, z_icne, z_iclt, z_icge, z_icgt, z_icle, z_cs0, z_cs1, z_cs2, z_cs3, z_cs4, z_cs5, z_cs6, z_cs7, z_cv0, z_cv1, z_cv2, z_cv3, z_cv4, z_cv5, z_cv6, z_cv7, z_g0, z_s0, z_g1, z_s1, z_g2, z_s2, z_g3, z_s3, z_g4, z_s4, z_g5, z_s5, z_g6, z_s6, z_g7, z_s7, z_g8, z_s8, z_g9, z_s9, z_g10, z_s10, z_g11, z_s11, z_g12, z_s12, z_g13, z_s13, z_b0, z_b1, z_b0n, z_b1n, z_up_far1, z_up_far2, z_up_far3, z_up_far4, z_up_far5, z_up_far6, Classical.not_not, not_true_eq_false, z_in, z_inL, Int.cast_ofNat_Int, Nat.reduceLeDiff, List.length_cons, List.length_nil, Nat.reduceAdd, Nat.zero_add, Nat.le_refl, true_and, and_true, List.length, Nat.reduceLT, true_or, or_true, false_or, or_false, false_and, and_false, not_true_eq_false, not_false_eq_true, forall_const, false_implies, true_implies, Int.reduceEq, Int.reduceLT, Int.reduceLE, Int.reduceAdd, Int.reduceSub, Int.reduceMul, Int.reduceNeg, Int.reduceToNat, Int.toNat_natCast, ↓reduceIte, reduceIte, Nat.reduceEqDiff, Nat.reduceSub, Nat.reduceMul, ne_eq, Int.zero_add, Int.add_zero, Int.sub_zero, Nat.add_zero, Int.ofNat_eq_natCast, tX4_begin_0, SX4_next, z_up_same, hT]
  refine ⟨by omega, fun σ' f1 f2 => ?_⟩
  have e0 : z_up (z_up σ k0 4 0) k0 3 0 (k0 + 1) = σ (k0 + 1) := funext fun j => by rw [z_up_ne (by omega), z_up_ne (by omega)]
  rw [e0] at f2
  have e : σ' (k0 + 1) = σ (k0 + 1) := by
    funext j
    rw [f1 _ _ (by omega), e0]
  refine h σ' (fun c j hc => ?_) ⟨?_, by omega, by rw [e], f2, Nat.zero_le _, ?_⟩
  · rw [f1 _ _ (by omega), z_up_ne (by omega), z_up_ne (by omega)]
  · rw [f1 _ _ (by omega), z_up_ne (by omega), z_up_ne (by omega)]; exact hT
  · rw [f1 _ _ (by omega), z_up_eq]
theorem dX4_begin_0 : decode cX4_begin 0 = .ok (.aload_n 0, 1) := by decide +kernel
theorem dX4_begin_1 : decode cX4_begin 1 = .ok (.iconst 0, 1) := by decide +kernel
theorem dX4_begin_2 : decode cX4_begin 2 = .ok (.putfield 44, 3) := by decide +kernel
theorem dX4_begin_5 : decode cX4_begin 5 = .ok (.aload_n 0, 1) := by decide +kernel
theorem dX4_begin_6 : decode cX4_begin 6 = .ok (.iconst 0, 1) := by decide +kernel
theorem dX4_begin_7 : decode cX4_begin 7 = .ok (.putfield 47, 3) := by decide +kernel
theorem dX4_begin_10 : decode cX4_begin 10 = .ok (.aload_n 0, 1) := by decide +kernel
theorem dX4_begin_11 : decode cX4_begin 11 = .ok (.invokevirtual 50, 3) := by decide +kernel
theorem dX4_begin_14 : decode cX4_begin 14 = .ok (.return_, 1) := by decide +kernel
set_option maxRecDepth 100000 in
theorem rX4_begin_0 {zx : zX} {zn : Nat} {p : Program} {l : Launch} {e : Env} {s : State} {m : MethodId} {args : Array Value} {below : List Frame} {meth : Method} {c : Code} {D : va_G} {cA : Nat → ClassId} {ad : Nat → Nat} {Ret : zR} (C : z_Cx zx zn (z_A zn ad) 0 0 p { frames := 2, cells := 0, slots := 0, locals := 42 } s m args c cX4_begin yX4_begin.cls 1 D cA ad) (hr : meth.sig.returnType = none) (hlocks : meth.locks = false) : ∀ L st σ, tX4_begin_0 (z_X zx zn (z_A zn ad) 0 0 p l e { frames := 2, cells := 0, slots := 0, locals := 42 } s m args below meth c (MQ below (z_Qc zn D cA ad Ret) args s 0 0 (z_A zn ad)) 1 D cA ad true) Ret L st σ → z_X zx zn (z_A zn ad) 0 0 p l e { frames := 2, cells := 0, slots := 0, locals := 42 } s m args below meth c (MQ below (z_Qc zn D cA ad Ret) args s 0 0 (z_A zn ad)) 1 D cA ad true 0 L st σ := (s_aload_n C dX4_begin_0 rfl (s_iconst C dX4_begin_1 rfl ⟨by decide, by decide⟩ (s_puti C dX4_begin_2 cls_X4 (by decide) rfl wd_54 rfl rfl (s_aload_n C dX4_begin_5 rfl (s_iconst C dX4_begin_6 rfl ⟨by decide, by decide⟩ (s_puti C dX4_begin_7 cls_X4 (by decide) rfl wd_52 rfl rfl (s_aload_n C dX4_begin_10 rfl (s_cv0 C dX4_begin_11 (okX4_next l) cls_X4 wd_335 wd_337 wd_1 wd_18 wd_338 ⟨by decide, by decide, by decide +kernel⟩ ⟨by decide, by decide⟩ (s_vret C dX4_begin_14 hr hlocks)))))))))
theorem okX4_begin {zx : zX} {zn : Nat} (l : Launch) : z_OK zx zn l yX4_begin cX4_begin 1 none 2 42 SX4_begin := by
  refine z_ok_of true (by decide +kernel) ?_ ?_
  · intro as σ Ret h
    obtain ⟨k0, rfl⟩ := pX4_begin h
    exact ⟨Nat.le_of_ble_eq_true rfl, by simp⟩
  · intro p e s m args below meth c D cA ad Ret C hr hlocks as σ has hσ h
    obtain ⟨k0, rfl⟩ := pX4_begin h
    exact vX4_begin (rX4_begin_0 C hr hlocks) k0 σ (has _ (List.mem_of_getElem? (i := 0) rfl)).1 hσ h
def q_pn (b : Nat → Int) (T p : Nat) (f lo hi : Int) : Int × Nat × Int := if ¬ f = 0 then (lo, p, f) else if ¬ q_tk b T p = 2 then (lo, p, 1) else if q_num b (q_ts b T p) (q_te b T p - q_ts b T p) < lo ∨ hi < q_num b (q_ts b T p) (q_te b T p - q_ts b T p) then (lo, p, 2) else (q_num b (q_ts b T p) (q_te b T p - q_ts b T p), q_te b T p, 0)
def q_ps (b : Nat → Int) (T p : Nat) (f : Int) : Nat × Int := if ¬ f = 0 then (p, f) else if ¬ q_tk b T p = 3 then (p, 1) else (q_te b T p, 0)
def SX4_takeNumber : zS := fun as σ Ret => match as with
  | [.inr (.inr (4, 0, k)), .inl lo, .inl hi] => ∃ b T p f, q_rs σ k b T p f ∧ ∀ σ' : zM, q_fr k σ σ' → q_rs σ' k b T (q_pn b T p f lo hi).2.1 (q_pn b T p f lo hi).2.2 → Ret (some (.inl (q_pn b T p f lo hi).1)) σ'
  | _ => False
def tX4_takeNumber_0 (X : Nat → zB) (Ret : zR) (L : zL) (st : List zV) (σ : zM) : Prop := (z_aload 0 (z_geti 4 3 (z_ifeq (z_aload 0 (z_geti 4 5 (z_push 2 (z_iceq (z_aload 0 (z_geti 4 6 (z_iload 1 (z_iclt (z_aload 0 (z_push 2 (z_cv1 4 SX4_fail (z_iload 1 (z_iret Ret))))) (z_aload 0 (z_geti 4 6 (z_iload 2 (z_icle (z_aload 0 (z_geti 4 6 (z_istore 3 (z_aload 0 (z_cv0 4 SX4_next (z_iload 3 (z_iret Ret))))))) (z_aload 0 (z_push 2 (z_cv1 4 SX4_fail (z_iload 1 (z_iret Ret))))))))))))) (z_aload 0 (z_push 1 (z_cv1 4 SX4_fail (z_iload 1 (z_iret Ret))))))))) (z_iload 1 (z_iret Ret))))) L st σ
theorem pX4_takeNumber {as : List zV} {σ : zM} {Ret : zR} (h : SX4_takeNumber as σ Ret) : ∃ (k0 : Nat) (x1 : Int) (x2 : Int), as = [.inr (.inr (4, 0, k0)), .inl x1, .inl x2] := by
  unfold SX4_takeNumber at h
  split at h
  · exact ⟨_, _, _, rfl⟩
  · exact h.elim
set_option maxRecDepth 10000 in
set_option maxHeartbeats 4000000 in
theorem vX4_takeNumber {X : Nat → zB} {Ret : zR} (h0 : ∀ L st σ, tX4_takeNumber_0 X Ret L st σ → X 0 L st σ) (k0 : Nat) (x1 : Int) (x2 : Int) (σ : zM) (hk0 : z_kd k0 = (4, 0)) (hx1 : -2147483648 ≤ x1 ∧ x1 ≤ 2147483647) (hx2 : -2147483648 ≤ x2 ∧ x2 ≤ 2147483647) (hσ : z_okm σ) (h : SX4_takeNumber [.inr (.inr (4, 0, k0)), .inl x1, .inl x2] σ Ret) : X 0 [some (.inr (.inr (4, 0, k0))), some (.inl x1), some (.inl x2), none] [] σ := by
  obtain ⟨b, T, p, f, rs, h⟩ := h
  have rs2 := rs
  obtain ⟨r1, r2, r3, ⟨a1, a2, a3, a4⟩, r5, r6⟩ := rs2
  by_cases hf : f = 0
  · subst hf
    by_cases ht : q_tk b T p = 2
    · have ev := a4 ht
      generalize hv : q_num b (q_ts b T p) (q_te b T p - q_ts b T p) = v at ev
      by_cases hb : v < x1 ∨ x2 < v
      · have e : q_pn b T p 0 x1 x2 = (x1, p, 2) := by unfold q_pn; rw [if_neg (by decide), if_neg (by omega), hv, if_pos hb]
        rw [e] at h
        have fin := h (z_up σ k0 3 2) (q_fr.rf.up (by omega) 2) (rs.fault 2)
        refine h0 _ _ _ ?_
        simp only [z_push, z_lpush, z_iload, z_lload, z_aload, z_istore, z_istoreP, z_lstore, z_astore, z_iinc, z_iincP, z_iadd, z_isub, z_imul, z_iaddW, z_isubW, z_imulW, z_idiv, z_irem, z_iand, z_ior, z_ixor, z_ishl, z_ishr, z_iushr, z_ineg, z_i2l, z_i2b, z_i2s, z_i2c, z_l2i, z_ladd, z_lsub, z_land, z_lor, z_lshl, z_lshr, z_lcmp, z_dup, z_pop, z_dup2, z_goto, z_tsw, z_cases, z_geti, z_getr, z_puti, z_putz, z_ald, z_iast, z_bast, z_zast, z_alen, z_acopy, z_mmax, z_mmin, z_mabs, z_mabsL, z_iret, z_zret, z_nret, z_lret, z_aret, z_vret, z_cat, z_xald, z_xlen, z_ldcs, z_strv, z_strc, z_gcs, z_gfm, z_sln, z_sald, z_ifeq, z_ifne, z_iflt, z_ifge, z_ifgt, z_ifle, z_iceq, z_icne, z_iclt, z_icge, z_icgt, z_icle, z_cs0, z_cs1, z_cs2, z_cs3, z_cs4, z_cs5, z_cs6, z_cs7, z_cv0, z_cv1, z_cv2, z_cv3, z_cv4, z_cv5, z_cv6, z_cv7, z_g0, z_s0, z_g1, z_s1, z_g2, z_s2, z_g3, z_s3, z_g4, z_s4, z_g5, z_s5, z_g6, z_s6, z_g7, z_s7, z_g8, z_s8, z_g9, z_s9, z_g10, z_s10, z_g11, z_s11, z_g12, z_s12, z_g13, z_s13, z_b0, z_b1, z_b0n, z_b1n, z_up_far1, z_up_far2, z_up_far3, z_up_far4, z_up_far5, z_up_far6, Classical.not_not, not_true_eq_false, z_in, z_inL, Int.cast_ofNat_Int, Nat.reduceLeDiff, List.length_cons, List.length_nil, Nat.reduceAdd, Nat.zero_add, Nat.le_refl, true_and, and_true, List.length, Nat.reduceLT, true_or, or_true, false_or, or_false, false_and, and_false, not_true_eq_false, not_false_eq_true, forall_const, false_implies, true_implies, Int.reduceEq, Int.reduceLT, Int.reduceLE, Int.reduceAdd, Int.reduceSub, Int.reduceMul, Int.reduceNeg, Int.reduceToNat, Int.toNat_natCast, ↓reduceIte, reduceIte, Nat.reduceEqDiff, Nat.reduceSub, Nat.reduceMul, ne_eq, Int.zero_add, Int.add_zero, Int.sub_zero, Nat.add_zero, Int.ofNat_eq_natCast, tX4_takeNumber_0, SX4_fail, r6, a3, ht, ev]
        repeat' (first | (intro _) | (with_reducible assumption) | (refine And.intro ?_ ?_))
        all_goals first | omega | assumption | (refine z_fin fin ?_ rfl; first | rfl | omega | (split <;> omega) | (split <;> split <;> omega)) | skip
      · have e : q_pn b T p 0 x1 x2 = (v, q_te b T p, 0) := by unfold q_pn; rw [if_neg (by decide), if_neg (by omega), hv, if_neg hb]
        rw [e] at h
        refine h0 _ _ _ ?_
        simp only [z_push, z_lpush, z_iload, z_lload, z_aload, z_istore, z_istoreP, z_lstore, z_astore, z_iinc, z_iincP, z_iadd, z_isub, z_imul, z_iaddW, z_isubW, z_imulW, z_idiv, z_irem, z_iand, z_ior, z_ixor, z_ishl, z_ishr, z_iushr, z_ineg, z_i2l, z_i2b, z_i2s, z_i2c, z_l2i, z_ladd, z_lsub, z_land, z_lor, z_lshl, z_lshr, z_lcmp, z_dup, z_pop, z_dup2, z_goto, z_tsw, z_cases, z_geti, z_getr, z_puti, z_putz, z_ald, z_iast, z_bast, z_zast, z_alen, z_acopy, z_mmax, z_mmin, z_mabs, z_mabsL, z_iret, z_zret, z_nret, z_lret, z_aret, z_vret, z_cat, z_xald, z_xlen, z_ldcs, z_strv, z_strc, z_gcs, z_gfm, z_sln, z_sald, z_ifeq, z_ifne, z_iflt, z_ifge, z_ifgt, z_ifle, z_iceq, z_icne, z_iclt, z_icge, z_icgt, z_icle, z_cs0, z_cs1, z_cs2, z_cs3, z_cs4, z_cs5, z_cs6, z_cs7, z_cv0, z_cv1, z_cv2, z_cv3, z_cv4, z_cv5, z_cv6, z_cv7, z_g0, z_s0, z_g1, z_s1, z_g2, z_s2, z_g3, z_s3, z_g4, z_s4, z_g5, z_s5, z_g6, z_s6, z_g7, z_s7, z_g8, z_s8, z_g9, z_s9, z_g10, z_s10, z_g11, z_s11, z_g12, z_s12, z_g13, z_s13, z_b0, z_b1, z_b0n, z_b1n, z_up_far1, z_up_far2, z_up_far3, z_up_far4, z_up_far5, z_up_far6, Classical.not_not, not_true_eq_false, z_in, z_inL, Int.cast_ofNat_Int, Nat.reduceLeDiff, List.length_cons, List.length_nil, Nat.reduceAdd, Nat.zero_add, Nat.le_refl, true_and, and_true, List.length, Nat.reduceLT, true_or, or_true, false_or, or_false, false_and, and_false, not_true_eq_false, not_false_eq_true, forall_const, false_implies, true_implies, Int.reduceEq, Int.reduceLT, Int.reduceLE, Int.reduceAdd, Int.reduceSub, Int.reduceMul, Int.reduceNeg, Int.reduceToNat, Int.toNat_natCast, ↓reduceIte, reduceIte, Nat.reduceEqDiff, Nat.reduceSub, Nat.reduceMul, ne_eq, Int.zero_add, Int.add_zero, Int.sub_zero, Nat.add_zero, Int.ofNat_eq_natCast, tX4_takeNumber_0, SX4_fail, r6, a3, ht, ev]
        repeat' (first | (with_reducible intro _) | (with_reducible assumption) | (with_reducible refine And.intro ?_ ?_))
        all_goals first | omega | (with_reducible assumption) | (with_reducible refine z_fin h ?_ rfl; first | rfl | omega | (split <;> omega) | (split <;> split <;> omega)) | skip
        refine q_next rs (fun σ' f1 f2 => ?_)
        exact h σ' f1 f2
    · have e : q_pn b T p 0 x1 x2 = (x1, p, 1) := by unfold q_pn; rw [if_neg (by decide), if_pos ht]
      rw [e] at h
      have fin := h (z_up σ k0 3 1) (q_fr.rf.up (by omega) 1) (rs.fault 1)
      refine h0 _ _ _ ?_
      simp only [z_push, z_lpush, z_iload, z_lload, z_aload, z_istore, z_istoreP, z_lstore, z_astore, z_iinc, z_iincP, z_iadd, z_isub, z_imul, z_iaddW, z_isubW, z_imulW, z_idiv, z_irem, z_iand, z_ior, z_ixor, z_ishl, z_ishr, z_iushr, z_ineg, z_i2l, z_i2b, z_i2s, z_i2c, z_l2i, z_ladd, z_lsub, z_land, z_lor, z_lshl, z_lshr, z_lcmp, z_dup, z_pop, z_dup2, z_goto, z_tsw, z_cases, z_geti, z_getr, z_puti, z_putz, z_ald, z_iast, z_bast, z_zast, z_alen, z_acopy, z_mmax, z_mmin, z_mabs, z_mabsL, z_iret, z_zret, z_nret, z_lret, z_aret, z_vret, z_cat, z_xald, z_xlen, z_ldcs, z_strv, z_strc, z_gcs, z_gfm, z_sln, z_sald, z_ifeq, z_ifne, z_iflt, z_ifge, z_ifgt, z_ifle, z_iceq, z_icne, z_iclt, z_icge, z_icgt, z_icle, z_cs0, z_cs1, z_cs2, z_cs3, z_cs4, z_cs5, z_cs6, z_cs7, z_cv0, z_cv1, z_cv2, z_cv3, z_cv4, z_cv5, z_cv6, z_cv7, z_g0, z_s0, z_g1, z_s1, z_g2, z_s2, z_g3, z_s3, z_g4, z_s4, z_g5, z_s5, z_g6, z_s6, z_g7, z_s7, z_g8, z_s8, z_g9, z_s9, z_g10, z_s10, z_g11, z_s11, z_g12, z_s12, z_g13, z_s13, z_b0, z_b1, z_b0n, z_b1n, z_up_far1, z_up_far2, z_up_far3, z_up_far4, z_up_far5, z_up_far6, Classical.not_not, not_true_eq_false, z_in, z_inL, Int.cast_ofNat_Int, Nat.reduceLeDiff, List.length_cons, List.length_nil, Nat.reduceAdd, Nat.zero_add, Nat.le_refl, true_and, and_true, List.length, Nat.reduceLT, true_or, or_true, false_or, or_false, false_and, and_false, not_true_eq_false, not_false_eq_true, forall_const, false_implies, true_implies, Int.reduceEq, Int.reduceLT, Int.reduceLE, Int.reduceAdd, Int.reduceSub, Int.reduceMul, Int.reduceNeg, Int.reduceToNat, Int.toNat_natCast, ↓reduceIte, reduceIte, Nat.reduceEqDiff, Nat.reduceSub, Nat.reduceMul, ne_eq, Int.zero_add, Int.add_zero, Int.sub_zero, Nat.add_zero, Int.ofNat_eq_natCast, tX4_takeNumber_0, SX4_fail, r6, a3, ht]
      repeat' (first | (intro _) | (with_reducible assumption) | (refine And.intro ?_ ?_))
      all_goals first | omega | assumption | (refine z_fin fin ?_ rfl; first | rfl | omega | (split <;> omega) | (split <;> split <;> omega)) | skip
  · have e : q_pn b T p f x1 x2 = (x1, p, f) := by unfold q_pn; rw [if_pos hf]
    rw [e] at h
    have fin := h σ q_fr.rf rs
    refine h0 _ _ _ ?_
    simp only [z_push, z_lpush, z_iload, z_lload, z_aload, z_istore, z_istoreP, z_lstore, z_astore, z_iinc, z_iincP, z_iadd, z_isub, z_imul, z_iaddW, z_isubW, z_imulW, z_idiv, z_irem, z_iand, z_ior, z_ixor, z_ishl, z_ishr, z_iushr, z_ineg, z_i2l, z_i2b, z_i2s, z_i2c, z_l2i, z_ladd, z_lsub, z_land, z_lor, z_lshl, z_lshr, z_lcmp, z_dup, z_pop, z_dup2, z_goto, z_tsw, z_cases, z_geti, z_getr, z_puti, z_putz, z_ald, z_iast, z_bast, z_zast, z_alen, z_acopy, z_mmax, z_mmin, z_mabs, z_mabsL, z_iret, z_zret, z_nret, z_lret, z_aret, z_vret, z_cat, z_xald, z_xlen, z_ldcs, z_strv, z_strc, z_gcs, z_gfm, z_sln, z_sald, z_ifeq, z_ifne, z_iflt, z_ifge, z_ifgt, z_ifle, z_iceq, z_icne, z_iclt, z_icge, z_icgt, z_icle, z_cs0, z_cs1, z_cs2, z_cs3, z_cs4, z_cs5, z_cs6, z_cs7, z_cv0, z_cv1, z_cv2, z_cv3, z_cv4, z_cv5, z_cv6, z_cv7, z_g0, z_s0, z_g1, z_s1, z_g2, z_s2, z_g3, z_s3, z_g4, z_s4, z_g5, z_s5, z_g6, z_s6, z_g7, z_s7, z_g8, z_s8, z_g9, z_s9, z_g10, z_s10, z_g11, z_s11, z_g12, z_s12, z_g13, z_s13, z_b0, z_b1, z_b0n, z_b1n, z_up_far1, z_up_far2, z_up_far3, z_up_far4, z_up_far5, z_up_far6, Classical.not_not, not_true_eq_false, z_in, z_inL, Int.cast_ofNat_Int, Nat.reduceLeDiff, List.length_cons, List.length_nil, Nat.reduceAdd, Nat.zero_add, Nat.le_refl, true_and, and_true, List.length, Nat.reduceLT, true_or, or_true, false_or, or_false, false_and, and_false, not_true_eq_false, not_false_eq_true, forall_const, false_implies, true_implies, Int.reduceEq, Int.reduceLT, Int.reduceLE, Int.reduceAdd, Int.reduceSub, Int.reduceMul, Int.reduceNeg, Int.reduceToNat, Int.toNat_natCast, ↓reduceIte, reduceIte, Nat.reduceEqDiff, Nat.reduceSub, Nat.reduceMul, ne_eq, Int.zero_add, Int.add_zero, Int.sub_zero, Nat.add_zero, Int.ofNat_eq_natCast, tX4_takeNumber_0, SX4_fail, r6, hf]
    repeat' (first | (intro _) | (with_reducible assumption) | (refine And.intro ?_ ?_))
    all_goals first | omega | assumption | (refine z_fin fin ?_ rfl; first | rfl | omega | (split <;> omega) | (split <;> split <;> omega)) | skip
theorem dX4_takeNumber_0 : decode cX4_takeNumber 0 = .ok (.aload_n 0, 1) := by decide +kernel
theorem dX4_takeNumber_1 : decode cX4_takeNumber 1 = .ok (.getfield 47, 3) := by decide +kernel
theorem dX4_takeNumber_4 : decode cX4_takeNumber 4 = .ok (.ifCond .eq 5, 3) := by decide +kernel
theorem dX4_takeNumber_7 : decode cX4_takeNumber 7 = .ok (.iload_n 1, 1) := by decide +kernel
theorem dX4_takeNumber_8 : decode cX4_takeNumber 8 = .ok (.ireturn, 1) := by decide +kernel
theorem dX4_takeNumber_9 : decode cX4_takeNumber 9 = .ok (.aload_n 0, 1) := by decide +kernel
theorem dX4_takeNumber_10 : decode cX4_takeNumber 10 = .ok (.getfield 53, 3) := by decide +kernel
theorem dX4_takeNumber_13 : decode cX4_takeNumber 13 = .ok (.iconst 2, 1) := by decide +kernel
theorem dX4_takeNumber_14 : decode cX4_takeNumber 14 = .ok (.if_icmp .eq 10, 3) := by decide +kernel
theorem dX4_takeNumber_17 : decode cX4_takeNumber 17 = .ok (.aload_n 0, 1) := by decide +kernel
theorem dX4_takeNumber_18 : decode cX4_takeNumber 18 = .ok (.iconst 1, 1) := by decide +kernel
theorem dX4_takeNumber_19 : decode cX4_takeNumber 19 = .ok (.invokevirtual 86, 3) := by decide +kernel
theorem dX4_takeNumber_22 : decode cX4_takeNumber 22 = .ok (.iload_n 1, 1) := by decide +kernel
theorem dX4_takeNumber_23 : decode cX4_takeNumber 23 = .ok (.ireturn, 1) := by decide +kernel
theorem dX4_takeNumber_24 : decode cX4_takeNumber 24 = .ok (.aload_n 0, 1) := by decide +kernel
theorem dX4_takeNumber_25 : decode cX4_takeNumber 25 = .ok (.getfield 141, 3) := by decide +kernel
theorem dX4_takeNumber_28 : decode cX4_takeNumber 28 = .ok (.iload_n 1, 1) := by decide +kernel
theorem dX4_takeNumber_29 : decode cX4_takeNumber 29 = .ok (.if_icmp .lt 11, 3) := by decide +kernel
theorem dX4_takeNumber_32 : decode cX4_takeNumber 32 = .ok (.aload_n 0, 1) := by decide +kernel
theorem dX4_takeNumber_33 : decode cX4_takeNumber 33 = .ok (.getfield 141, 3) := by decide +kernel
theorem dX4_takeNumber_36 : decode cX4_takeNumber 36 = .ok (.iload_n 2, 1) := by decide +kernel
theorem dX4_takeNumber_37 : decode cX4_takeNumber 37 = .ok (.if_icmp .le 10, 3) := by decide +kernel
theorem dX4_takeNumber_40 : decode cX4_takeNumber 40 = .ok (.aload_n 0, 1) := by decide +kernel
theorem dX4_takeNumber_41 : decode cX4_takeNumber 41 = .ok (.iconst 2, 1) := by decide +kernel
theorem dX4_takeNumber_42 : decode cX4_takeNumber 42 = .ok (.invokevirtual 86, 3) := by decide +kernel
theorem dX4_takeNumber_45 : decode cX4_takeNumber 45 = .ok (.iload_n 1, 1) := by decide +kernel
theorem dX4_takeNumber_46 : decode cX4_takeNumber 46 = .ok (.ireturn, 1) := by decide +kernel
theorem dX4_takeNumber_47 : decode cX4_takeNumber 47 = .ok (.aload_n 0, 1) := by decide +kernel
theorem dX4_takeNumber_48 : decode cX4_takeNumber 48 = .ok (.getfield 141, 3) := by decide +kernel
theorem dX4_takeNumber_51 : decode cX4_takeNumber 51 = .ok (.istore_n 3, 1) := by decide +kernel
theorem dX4_takeNumber_52 : decode cX4_takeNumber 52 = .ok (.aload_n 0, 1) := by decide +kernel
theorem dX4_takeNumber_53 : decode cX4_takeNumber 53 = .ok (.invokevirtual 50, 3) := by decide +kernel
theorem dX4_takeNumber_56 : decode cX4_takeNumber 56 = .ok (.iload_n 3, 1) := by decide +kernel
theorem dX4_takeNumber_57 : decode cX4_takeNumber 57 = .ok (.ireturn, 1) := by decide +kernel
set_option maxRecDepth 100000 in
theorem rX4_takeNumber_0 {zx : zX} {zn : Nat} {p : Program} {l : Launch} {e : Env} {s : State} {m : MethodId} {args : Array Value} {below : List Frame} {meth : Method} {c : Code} {D : va_G} {cA : Nat → ClassId} {ad : Nat → Nat} {Ret : zR} (C : z_Cx zx zn (z_A zn ad) 0 0 p { frames := 2, cells := 0, slots := 0, locals := 42 } s m args c cX4_takeNumber yX4_takeNumber.cls 4 D cA ad) (hr : meth.sig.returnType = (some .int)) (hlocks : meth.locks = false) : ∀ L st σ, tX4_takeNumber_0 (z_X zx zn (z_A zn ad) 0 0 p l e { frames := 2, cells := 0, slots := 0, locals := 42 } s m args below meth c (MQ below (z_Qc zn D cA ad Ret) args s 0 0 (z_A zn ad)) 4 D cA ad true) Ret L st σ → z_X zx zn (z_A zn ad) 0 0 p l e { frames := 2, cells := 0, slots := 0, locals := 42 } s m args below meth c (MQ below (z_Qc zn D cA ad Ret) args s 0 0 (z_A zn ad)) 4 D cA ad true 0 L st σ := (s_aload_n C dX4_takeNumber_0 rfl (s_geti C dX4_takeNumber_1 cls_X4 (by decide) rfl wd_52 (s_ifeq C dX4_takeNumber_4 (by decide) (s_aload_n C dX4_takeNumber_9 rfl (s_geti C dX4_takeNumber_10 cls_X4 (by decide) rfl wd_55 (s_iconst C dX4_takeNumber_13 rfl ⟨by decide, by decide⟩ (s_iceq C dX4_takeNumber_14 (by decide) (s_aload_n C dX4_takeNumber_24 rfl (s_geti C dX4_takeNumber_25 cls_X4 (by decide) rfl wd_56 (s_iload_n C dX4_takeNumber_28 rfl (s_iclt C dX4_takeNumber_29 (by decide) (s_aload_n C dX4_takeNumber_40 rfl (s_iconst C dX4_takeNumber_41 rfl ⟨by decide, by decide⟩ (s_cv1 C dX4_takeNumber_42 (okX4_fail l) cls_X4 wd_427 wd_429 wd_7 wd_18 wd_430 ⟨by decide, by decide, by decide +kernel⟩ ⟨by decide, by decide⟩ (s_iload_n C dX4_takeNumber_45 rfl (s_iret C dX4_takeNumber_46 hr hlocks))))) (s_aload_n C dX4_takeNumber_32 rfl (s_geti C dX4_takeNumber_33 cls_X4 (by decide) rfl wd_56 (s_iload_n C dX4_takeNumber_36 rfl (s_icle C dX4_takeNumber_37 (by decide) (s_aload_n C dX4_takeNumber_47 rfl (s_geti C dX4_takeNumber_48 cls_X4 (by decide) rfl wd_56 (s_istore_n C dX4_takeNumber_51 (by decide) rfl rfl (s_aload_n C dX4_takeNumber_52 rfl (s_cv0 C dX4_takeNumber_53 (okX4_next l) cls_X4 wd_335 wd_337 wd_1 wd_18 wd_338 ⟨by decide, by decide, by decide +kernel⟩ ⟨by decide, by decide⟩ (s_iload_n C dX4_takeNumber_56 rfl (s_iret C dX4_takeNumber_57 hr hlocks))))))) (s_aload_n C dX4_takeNumber_40 rfl (s_iconst C dX4_takeNumber_41 rfl ⟨by decide, by decide⟩ (s_cv1 C dX4_takeNumber_42 (okX4_fail l) cls_X4 wd_427 wd_429 wd_7 wd_18 wd_430 ⟨by decide, by decide, by decide +kernel⟩ ⟨by decide, by decide⟩ (s_iload_n C dX4_takeNumber_45 rfl (s_iret C dX4_takeNumber_46 hr hlocks))))))))))))) (s_aload_n C dX4_takeNumber_17 rfl (s_iconst C dX4_takeNumber_18 rfl ⟨by decide, by decide⟩ (s_cv1 C dX4_takeNumber_19 (okX4_fail l) cls_X4 wd_427 wd_429 wd_7 wd_18 wd_430 ⟨by decide, by decide, by decide +kernel⟩ ⟨by decide, by decide⟩ (s_iload_n C dX4_takeNumber_22 rfl (s_iret C dX4_takeNumber_23 hr hlocks))))))))) (s_iload_n C dX4_takeNumber_7 rfl (s_iret C dX4_takeNumber_8 hr hlocks)))))
theorem okX4_takeNumber {zx : zX} {zn : Nat} (l : Launch) : z_OK zx zn l yX4_takeNumber cX4_takeNumber 4 (some .int) 2 42 SX4_takeNumber := by
  refine z_ok_of true (by decide +kernel) ?_ ?_
  · intro as σ Ret h
    obtain ⟨k0, x1, x2, rfl⟩ := pX4_takeNumber h
    exact ⟨Nat.le_of_ble_eq_true rfl, by simp⟩
  · intro p e s m args below meth c D cA ad Ret C hr hlocks as σ has hσ h
    obtain ⟨k0, x1, x2, rfl⟩ := pX4_takeNumber h
    exact vX4_takeNumber (rX4_takeNumber_0 C hr hlocks) k0 x1 x2 σ (has _ (List.mem_of_getElem? (i := 0) rfl)).1 (has _ (List.mem_of_getElem? (i := 1) rfl)) (has _ (List.mem_of_getElem? (i := 2) rfl)) hσ h
def SX4_takeSign : zS := fun as σ Ret => match as with
  | [.inr (.inr (4, 0, k))] => ∃ b T p f, q_rs σ k b T p f ∧ ∀ σ' : zM, q_fr k σ σ' → q_rs σ' k b T (q_ps b T p f).1 (q_ps b T p f).2 → Ret none σ'
  | _ => False
def tX4_takeSign_0 (X : Nat → zB) (Ret : zR) (L : zL) (st : List zV) (σ : zM) : Prop := (z_aload 0 (z_geti 4 3 (z_ifeq (z_aload 0 (z_geti 4 5 (z_push 3 (z_iceq (z_aload 0 (z_cv0 4 SX4_next (z_vret Ret))) (z_aload 0 (z_push 1 (z_cv1 4 SX4_fail (z_vret Ret)))))))) (z_vret Ret)))) L st σ
theorem pX4_takeSign {as : List zV} {σ : zM} {Ret : zR} (h : SX4_takeSign as σ Ret) : ∃ (k0 : Nat), as = [.inr (.inr (4, 0, k0))] := by
  unfold SX4_takeSign at h
  split at h
  · exact ⟨_, rfl⟩
  · exact h.elim
set_option maxRecDepth 10000 in
set_option maxHeartbeats 4000000 in
theorem vX4_takeSign {X : Nat → zB} {Ret : zR} (h0 : ∀ L st σ, tX4_takeSign_0 X Ret L st σ → X 0 L st σ) (k0 : Nat) (σ : zM) (hk0 : z_kd k0 = (4, 0)) (hσ : z_okm σ) (h : SX4_takeSign [.inr (.inr (4, 0, k0))] σ Ret) : X 0 [some (.inr (.inr (4, 0, k0)))] [] σ := by
  obtain ⟨b, T, p, f, rs, h⟩ := h
  have rs2 := rs
  obtain ⟨r1, r2, r3, ⟨a1, a2, a3, a4⟩, r5, r6⟩ := rs2
  by_cases hf : f = 0
  · subst hf
    by_cases ht : q_tk b T p = 3
    · have e : q_ps b T p 0 = (q_te b T p, 0) := by unfold q_ps; rw [if_neg (by decide), if_neg (by omega)]
      rw [e] at h
      refine h0 _ _ _ ?_
      simp only [z_push, z_lpush, z_iload, z_lload, z_aload, z_istore, z_istoreP, z_lstore, z_astore, z_iinc, z_iincP, z_iadd, z_isub, z_imul, z_iaddW, z_isubW, z_imulW, z_idiv, z_irem, z_iand, z_ior, z_ixor, z_ishl, z_ishr, z_iushr, z_ineg, z_i2l, z_i2b, z_i2s, z_i2c, z_l2i, z_ladd, z_lsub, z_land, z_lor, z_lshl, z_lshr, z_lcmp, z_dup, z_pop, z_dup2, z_goto, z_tsw, z_cases, z_geti, z_getr, z_puti, z_putz, z_ald, z_iast, z_bast, z_zast, z_alen, z_acopy, z_mmax, z_mmin, z_mabs, z_mabsL, z_iret, z_zret, z_nret, z_lret, z_aret, z_vret, z_cat, z_xald, z_xlen, z_ldcs, z_strv, z_strc, z_gcs, z_gfm, z_sln, z_sald, z_ifeq, z_ifne, z_iflt, z_ifge, z_ifgt, z_ifle, z_iceq, z_icne, z_iclt, z_icge, z_icgt, z_icle, z_cs0, z_cs1, z_cs2, z_cs3, z_cs4, z_cs5, z_cs6, z_cs7, z_cv0, z_cv1, z_cv2, z_cv3, z_cv4, z_cv5, z_cv6, z_cv7, z_g0, z_s0, z_g1, z_s1, z_g2, z_s2, z_g3, z_s3, z_g4, z_s4, z_g5, z_s5, z_g6, z_s6, z_g7, z_s7, z_g8, z_s8, z_g9, z_s9, z_g10, z_s10, z_g11, z_s11, z_g12, z_s12, z_g13, z_s13, z_b0, z_b1, z_b0n, z_b1n, z_up_far1, z_up_far2, z_up_far3, z_up_far4, z_up_far5, z_up_far6, Classical.not_not, not_true_eq_false, z_in, z_inL, Int.cast_ofNat_Int, Nat.reduceLeDiff, List.length_cons, List.length_nil, Nat.reduceAdd, Nat.zero_add, Nat.le_refl, true_and, and_true, List.length, Nat.reduceLT, true_or, or_true, false_or, or_false, false_and, and_false, not_true_eq_false, not_false_eq_true, forall_const, false_implies, true_implies, Int.reduceEq, Int.reduceLT, Int.reduceLE, Int.reduceAdd, Int.reduceSub, Int.reduceMul, Int.reduceNeg, Int.reduceToNat, Int.toNat_natCast, ↓reduceIte, reduceIte, Nat.reduceEqDiff, Nat.reduceSub, Nat.reduceMul, ne_eq, Int.zero_add, Int.add_zero, Int.sub_zero, Nat.add_zero, Int.ofNat_eq_natCast, tX4_takeSign_0, SX4_fail, r6, a3, ht]
      repeat' (first | (with_reducible intro _) | (with_reducible assumption) | (with_reducible refine And.intro ?_ ?_))
      all_goals first | omega | (with_reducible assumption) | (with_reducible refine z_fin h ?_ rfl; first | rfl | omega | (split <;> omega) | (split <;> split <;> omega)) | skip
      refine q_next rs (fun σ' f1 f2 => ?_)
      exact h σ' f1 f2
    · have e : q_ps b T p 0 = (p, 1) := by unfold q_ps; rw [if_neg (by decide), if_pos ht]
      rw [e] at h
      have fin := h (z_up σ k0 3 1) (q_fr.rf.up (by omega) 1) (rs.fault 1)
      refine h0 _ _ _ ?_
      simp only [z_push, z_lpush, z_iload, z_lload, z_aload, z_istore, z_istoreP, z_lstore, z_astore, z_iinc, z_iincP, z_iadd, z_isub, z_imul, z_iaddW, z_isubW, z_imulW, z_idiv, z_irem, z_iand, z_ior, z_ixor, z_ishl, z_ishr, z_iushr, z_ineg, z_i2l, z_i2b, z_i2s, z_i2c, z_l2i, z_ladd, z_lsub, z_land, z_lor, z_lshl, z_lshr, z_lcmp, z_dup, z_pop, z_dup2, z_goto, z_tsw, z_cases, z_geti, z_getr, z_puti, z_putz, z_ald, z_iast, z_bast, z_zast, z_alen, z_acopy, z_mmax, z_mmin, z_mabs, z_mabsL, z_iret, z_zret, z_nret, z_lret, z_aret, z_vret, z_cat, z_xald, z_xlen, z_ldcs, z_strv, z_strc, z_gcs, z_gfm, z_sln, z_sald, z_ifeq, z_ifne, z_iflt, z_ifge, z_ifgt, z_ifle, z_iceq, z_icne, z_iclt, z_icge, z_icgt, z_icle, z_cs0, z_cs1, z_cs2, z_cs3, z_cs4, z_cs5, z_cs6, z_cs7, z_cv0, z_cv1, z_cv2, z_cv3, z_cv4, z_cv5, z_cv6, z_cv7, z_g0, z_s0, z_g1, z_s1, z_g2, z_s2, z_g3, z_s3, z_g4, z_s4, z_g5, z_s5, z_g6, z_s6, z_g7, z_s7, z_g8, z_s8, z_g9, z_s9, z_g10, z_s10, z_g11, z_s11, z_g12, z_s12, z_g13, z_s13, z_b0, z_b1, z_b0n, z_b1n, z_up_far1, z_up_far2, z_up_far3, z_up_far4, z_up_far5, z_up_far6, Classical.not_not, not_true_eq_false, z_in, z_inL, Int.cast_ofNat_Int, Nat.reduceLeDiff, List.length_cons, List.length_nil, Nat.reduceAdd, Nat.zero_add, Nat.le_refl, true_and, and_true, List.length, Nat.reduceLT, true_or, or_true, false_or, or_false, false_and, and_false, not_true_eq_false, not_false_eq_true, forall_const, false_implies, true_implies, Int.reduceEq, Int.reduceLT, Int.reduceLE, Int.reduceAdd, Int.reduceSub, Int.reduceMul, Int.reduceNeg, Int.reduceToNat, Int.toNat_natCast, ↓reduceIte, reduceIte, Nat.reduceEqDiff, Nat.reduceSub, Nat.reduceMul, ne_eq, Int.zero_add, Int.add_zero, Int.sub_zero, Nat.add_zero, Int.ofNat_eq_natCast, tX4_takeSign_0, SX4_fail, r6, a3, ht]
      repeat' (first | (with_reducible intro _) | (with_reducible assumption) | (with_reducible refine And.intro ?_ ?_))
      all_goals first | omega | (with_reducible assumption) | (with_reducible refine z_fin fin ?_ rfl; first | rfl | omega | (split <;> omega) | (split <;> split <;> omega)) | skip
  · have e : q_ps b T p f = (p, f) := by unfold q_ps; rw [if_pos hf]
    rw [e] at h
    have fin := h σ q_fr.rf rs
    refine h0 _ _ _ ?_
    simp only [z_push, z_lpush, z_iload, z_lload, z_aload, z_istore, z_istoreP, z_lstore, z_astore, z_iinc, z_iincP, z_iadd, z_isub, z_imul, z_iaddW, z_isubW, z_imulW, z_idiv, z_irem, z_iand, z_ior, z_ixor, z_ishl, z_ishr, z_iushr, z_ineg, z_i2l, z_i2b, z_i2s, z_i2c, z_l2i, z_ladd, z_lsub, z_land, z_lor, z_lshl, z_lshr, z_lcmp, z_dup, z_pop, z_dup2, z_goto, z_tsw, z_cases, z_geti, z_getr, z_puti, z_putz, z_ald, z_iast, z_bast, z_zast, z_alen, z_acopy, z_mmax, z_mmin, z_mabs, z_mabsL, z_iret, z_zret, z_nret, z_lret, z_aret, z_vret, z_cat, z_xald, z_xlen, z_ldcs, z_strv, z_strc, z_gcs, z_gfm, z_sln, z_sald, z_ifeq, z_ifne, z_iflt, z_ifge, z_ifgt, z_ifle, z_iceq, z_icne, z_iclt, z_icge, z_icgt, z_icle, z_cs0, z_cs1, z_cs2, z_cs3, z_cs4, z_cs5, z_cs6, z_cs7, z_cv0, z_cv1, z_cv2, z_cv3, z_cv4, z_cv5, z_cv6, z_cv7, z_g0, z_s0, z_g1, z_s1, z_g2, z_s2, z_g3, z_s3, z_g4, z_s4, z_g5, z_s5, z_g6, z_s6, z_g7, z_s7, z_g8, z_s8, z_g9, z_s9, z_g10, z_s10, z_g11, z_s11, z_g12, z_s12, z_g13, z_s13, z_b0, z_b1, z_b0n, z_b1n, z_up_far1, z_up_far2, z_up_far3, z_up_far4, z_up_far5, z_up_far6, Classical.not_not, not_true_eq_false, z_in, z_inL, Int.cast_ofNat_Int, Nat.reduceLeDiff, List.length_cons, List.length_nil, Nat.reduceAdd, Nat.zero_add, Nat.le_refl, true_and, and_true, List.length, Nat.reduceLT, true_or, or_true, false_or, or_false, false_and, and_false, not_true_eq_false, not_false_eq_true, forall_const, false_implies, true_implies, Int.reduceEq, Int.reduceLT, Int.reduceLE, Int.reduceAdd, Int.reduceSub, Int.reduceMul, Int.reduceNeg, Int.reduceToNat, Int.toNat_natCast, ↓reduceIte, reduceIte, Nat.reduceEqDiff, Nat.reduceSub, Nat.reduceMul, ne_eq, Int.zero_add, Int.add_zero, Int.sub_zero, Nat.add_zero, Int.ofNat_eq_natCast, tX4_takeSign_0, SX4_fail, r6, hf]
    repeat' (first | (with_reducible intro _) | (with_reducible assumption) | (with_reducible refine And.intro ?_ ?_))
    all_goals first | omega | (with_reducible assumption) | (with_reducible refine z_fin fin ?_ rfl; first | rfl | omega | (split <;> omega) | (split <;> split <;> omega)) | skip
theorem dX4_takeSign_0 : decode cX4_takeSign 0 = .ok (.aload_n 0, 1) := by decide +kernel
theorem dX4_takeSign_1 : decode cX4_takeSign 1 = .ok (.getfield 47, 3) := by decide +kernel
theorem dX4_takeSign_4 : decode cX4_takeSign 4 = .ok (.ifCond .eq 4, 3) := by decide +kernel
theorem dX4_takeSign_7 : decode cX4_takeSign 7 = .ok (.return_, 1) := by decide +kernel
theorem dX4_takeSign_8 : decode cX4_takeSign 8 = .ok (.aload_n 0, 1) := by decide +kernel
theorem dX4_takeSign_9 : decode cX4_takeSign 9 = .ok (.getfield 53, 3) := by decide +kernel
theorem dX4_takeSign_12 : decode cX4_takeSign 12 = .ok (.iconst 3, 1) := by decide +kernel
theorem dX4_takeSign_13 : decode cX4_takeSign 13 = .ok (.if_icmp .eq 9, 3) := by decide +kernel
theorem dX4_takeSign_16 : decode cX4_takeSign 16 = .ok (.aload_n 0, 1) := by decide +kernel
theorem dX4_takeSign_17 : decode cX4_takeSign 17 = .ok (.iconst 1, 1) := by decide +kernel
theorem dX4_takeSign_18 : decode cX4_takeSign 18 = .ok (.invokevirtual 86, 3) := by decide +kernel
theorem dX4_takeSign_21 : decode cX4_takeSign 21 = .ok (.return_, 1) := by decide +kernel
theorem dX4_takeSign_22 : decode cX4_takeSign 22 = .ok (.aload_n 0, 1) := by decide +kernel
theorem dX4_takeSign_23 : decode cX4_takeSign 23 = .ok (.invokevirtual 50, 3) := by decide +kernel
theorem dX4_takeSign_26 : decode cX4_takeSign 26 = .ok (.return_, 1) := by decide +kernel
set_option maxRecDepth 100000 in
theorem rX4_takeSign_0 {zx : zX} {zn : Nat} {p : Program} {l : Launch} {e : Env} {s : State} {m : MethodId} {args : Array Value} {below : List Frame} {meth : Method} {c : Code} {D : va_G} {cA : Nat → ClassId} {ad : Nat → Nat} {Ret : zR} (C : z_Cx zx zn (z_A zn ad) 0 0 p { frames := 2, cells := 0, slots := 0, locals := 42 } s m args c cX4_takeSign yX4_takeSign.cls 1 D cA ad) (hr : meth.sig.returnType = none) (hlocks : meth.locks = false) : ∀ L st σ, tX4_takeSign_0 (z_X zx zn (z_A zn ad) 0 0 p l e { frames := 2, cells := 0, slots := 0, locals := 42 } s m args below meth c (MQ below (z_Qc zn D cA ad Ret) args s 0 0 (z_A zn ad)) 1 D cA ad true) Ret L st σ → z_X zx zn (z_A zn ad) 0 0 p l e { frames := 2, cells := 0, slots := 0, locals := 42 } s m args below meth c (MQ below (z_Qc zn D cA ad Ret) args s 0 0 (z_A zn ad)) 1 D cA ad true 0 L st σ := (s_aload_n C dX4_takeSign_0 rfl (s_geti C dX4_takeSign_1 cls_X4 (by decide) rfl wd_52 (s_ifeq C dX4_takeSign_4 (by decide) (s_aload_n C dX4_takeSign_8 rfl (s_geti C dX4_takeSign_9 cls_X4 (by decide) rfl wd_55 (s_iconst C dX4_takeSign_12 rfl ⟨by decide, by decide⟩ (s_iceq C dX4_takeSign_13 (by decide) (s_aload_n C dX4_takeSign_22 rfl (s_cv0 C dX4_takeSign_23 (okX4_next l) cls_X4 wd_335 wd_337 wd_1 wd_18 wd_338 ⟨by decide, by decide, by decide +kernel⟩ ⟨by decide, by decide⟩ (s_vret C dX4_takeSign_26 hr hlocks))) (s_aload_n C dX4_takeSign_16 rfl (s_iconst C dX4_takeSign_17 rfl ⟨by decide, by decide⟩ (s_cv1 C dX4_takeSign_18 (okX4_fail l) cls_X4 wd_427 wd_429 wd_7 wd_18 wd_430 ⟨by decide, by decide, by decide +kernel⟩ ⟨by decide, by decide⟩ (s_vret C dX4_takeSign_21 hr hlocks)))))))) (s_vret C dX4_takeSign_7 hr hlocks))))
theorem okX4_takeSign {zx : zX} {zn : Nat} (l : Launch) : z_OK zx zn l yX4_takeSign cX4_takeSign 1 none 2 42 SX4_takeSign := by
  refine z_ok_of true (by decide +kernel) ?_ ?_
  · intro as σ Ret h
    obtain ⟨k0, rfl⟩ := pX4_takeSign h
    exact ⟨Nat.le_of_ble_eq_true rfl, by simp⟩
  · intro p e s m args below meth c D cA ad Ret C hr hlocks as σ has hσ h
    obtain ⟨k0, rfl⟩ := pX4_takeSign h
    exact vX4_takeSign (rX4_takeSign_0 C hr hlocks) k0 σ (has _ (List.mem_of_getElem? (i := 0) rfl)).1 hσ h
def q_isw (b : Nat → Int) (T p j : Nat) : Bool := decide (q_tk b T p = 1 ∧ q_te b T p - q_ts b T p = z_slen.getD j 0 ∧ ∀ i, i < z_slen.getD j 0 → b (q_ts b T p + i) = z_sch j i)
def SX4_isWord : zS := fun as σ Ret => match as with
  | [.inr (.inr (4, 0, k)), .inr (.inr (200, 0, w))] => ∃ b T p f, q_rs σ k b T p f ∧ Ret (some (.inl (if q_isw b T p (w - 1000) then 1 else 0))) σ
  | _ => False
def tX4_isWord_0 (X : Nat → zB) (Ret : zR) (L : zL) (st : List zV) (σ : zM) : Prop := (z_aload 0 (z_geti 4 5 (z_push 1 (z_icne (z_push 0 (z_zret Ret)) (z_aload 0 (z_geti 4 4 (z_aload 0 (z_geti 4 2 (z_isub (z_aload 1 (z_cv0 200 SJ0_length_8abf5 (z_iceq (z_push 0 (z_istore 2 (X 28))) (z_push 0 (z_zret Ret)))))))))))))) L st σ
def tX4_isWord_28 (X : Nat → zB) (Ret : zR) (L : zL) (st : List zV) (σ : zM) : Prop := (z_iload 2 (z_aload 1 (z_cv0 200 SJ0_length_8abf5 (z_icge (z_push 1 (z_zret Ret)) (z_aload 0 (z_aload 0 (z_geti 4 2 (z_iload 2 (z_iadd (z_cv1 4 SX4_byteAt (z_aload 1 (z_iload 2 (z_cv1 200 SJ0_charAt_5068e (z_iceq (z_iinc 2 1 (z_goto (X 28))) (z_push 0 (z_zret Ret)))))))))))))))) L st σ
theorem pX4_isWord {as : List zV} {σ : zM} {Ret : zR} (h : SX4_isWord as σ Ret) : ∃ (k0 : Nat) (k1 : Nat), as = [.inr (.inr (4, 0, k0)), .inr (.inr (200, 0, k1))] := by
  unfold SX4_isWord at h
  split at h
  · exact ⟨_, _, rfl⟩
  · exact h.elim
set_option maxRecDepth 10000 in
set_option maxHeartbeats 4000000 in
theorem vX4_isWord {X : Nat → zB} {Ret : zR} (h0 : ∀ L st σ, tX4_isWord_0 X Ret L st σ → X 0 L st σ) (h28 : ∀ L st σ, tX4_isWord_28 X Ret L st σ → X 28 L st σ) (k0 : Nat) (k1 : Nat) (σ : zM) (hk0 : z_kd k0 = (4, 0)) (hk1 : z_kd k1 = (200, 0)) (hσ : z_okm σ) (h : SX4_isWord [.inr (.inr (4, 0, k0)), .inr (.inr (200, 0, k1))] σ Ret) : X 0 [some (.inr (.inr (4, 0, k0))), some (.inr (.inr (200, 0, k1))), none] [] σ := by
  obtain ⟨b, T, p, f, rs, h⟩ := h
  obtain ⟨r1, r2, r3, ⟨a1, a2, a3, a4⟩, r5, r6⟩ := rs
  obtain ⟨j, hj, rfl, -⟩ := z_kd200 hk1
  have ej : 1000 + j - 1000 = j := by omega
  rw [ej] at h
  simp only [q_isw, decide_eq_true_eq] at h
  have he := q_te_in (b := b) r5
  have hl := z_slen_le j
  have hby : ∀ q : Nat, (if (0 ≤ (q : Int) ∧ (q : Int) < (T : Int)) ∧ (q : Int) < 400 then σ (k0 + 1) q else -1) = b q := by
    intro q
    rw [← r3]
    unfold q_by
    by_cases g : q < T
    · rw [if_pos (by omega), if_pos g]
    · rw [if_neg (by omega), if_neg g]
  generalize hs : q_ts b T p = s at *
  generalize hen : q_te b T p = en at *
  have L28 : ∀ (d i : Nat), i + d = z_slen.getD j 0 → q_tk b T p = 1 → en - s = z_slen.getD j 0 → (∀ a, a < i → b (s + a) = z_sch j a) → X 28 [some (.inr (.inr (4, 0, k0))), some (.inr (.inr (200, 0, 1000 + j))), some (.inl (i : Int))] [] σ := by
    intro d
    induction d with
    | zero =>
      intro i hi ht hn hh
      rw [if_pos ⟨ht, hn, fun a ha => hh a (by omega)⟩] at h
      refine h28 _ _ _ ?_
      simp only [z_push, z_lpush, z_iload, z_lload, z_aload, z_istore, z_istoreP, z_lstore, z_astore, z_iinc, z_iincP, z_iadd, z_isub, z_imul, z_iaddW, z_isubW, z_imulW, z_idiv, z_irem, z_iand, z_ior, z_ixor, z_ishl, z_ishr, z_iushr, z_ineg, z_i2l, z_i2b, z_i2s, z_i2c, z_l2i, z_ladd, z_lsub, z_land, z_lor, z_lshl, z_lshr, z_lcmp, z_dup, z_pop, z_dup2, z_goto, z_tsw, z_cases, z_geti, z_getr, z_puti, z_putz, z_ald, z_iast, z_bast, z_zast, z_alen, z_acopy, z_mmax, z_mmin, z_mabs, z_mabsL, z_iret, z_zret, z_nret, z_lret, z_aret, z_vret, z_cat, z_xald, z_xlen, z_ldcs, z_strv, z_strc, z_gcs, z_gfm, z_sln, z_sald, z_ifeq, z_ifne, z_iflt, z_ifge, z_ifgt, z_ifle, z_iceq, z_icne, z_iclt, z_icge, z_icgt, z_icle, z_cs0, z_cs1, z_cs2, z_cs3, z_cs4, z_cs5, z_cs6, z_cs7, z_cv0, z_cv1, z_cv2, z_cv3, z_cv4, z_cv5, z_cv6, z_cv7, z_g0, z_s0, z_g1, z_s1, z_g2, z_s2, z_g3, z_s3, z_g4, z_s4, z_g5, z_s5, z_g6, z_s6, z_g7, z_s7, z_g8, z_s8, z_g9, z_s9, z_g10, z_s10, z_g11, z_s11, z_g12, z_s12, z_g13, z_s13, z_b0, z_b1, z_b0n, z_b1n, z_up_far1, z_up_far2, z_up_far3, z_up_far4, z_up_far5, z_up_far6, Classical.not_not, not_true_eq_false, z_in, z_inL, Int.cast_ofNat_Int, Nat.reduceLeDiff, List.length_cons, List.length_nil, Nat.reduceAdd, Nat.zero_add, Nat.le_refl, true_and, and_true, List.length, Nat.reduceLT, true_or, or_true, false_or, or_false, false_and, and_false, not_true_eq_false, not_false_eq_true, forall_const, false_implies, true_implies, Int.reduceEq, Int.reduceLT, Int.reduceLE, Int.reduceAdd, Int.reduceSub, Int.reduceMul, Int.reduceNeg, Int.reduceToNat, Int.toNat_natCast, ↓reduceIte, reduceIte, Nat.reduceEqDiff, Nat.reduceSub, Nat.reduceMul, ne_eq, Int.zero_add, Int.add_zero, Int.sub_zero, Nat.add_zero, Int.ofNat_eq_natCast, tX4_isWord_28, SJ0_length_8abf5, ej]
      repeat' (first | (with_reducible intro _) | (with_reducible assumption) | (with_reducible refine And.intro ?_ ?_))
      all_goals first | omega | (with_reducible assumption) | (with_reducible refine z_fin h ?_ rfl; first | rfl | omega | (split <;> omega) | (split <;> split <;> omega)) | skip
    | succ d ih =>
      intro i hi ht hn hh
      have hb2 := hby (s + i)
      rw [show ((s + i : Nat) : Int) = (s : Int) + i by omega] at hb2
      have e3 : ((s : Int) + i).toNat = s + i := by omega
      refine h28 _ _ _ ?_
      simp only [z_push, z_lpush, z_iload, z_lload, z_aload, z_istore, z_istoreP, z_lstore, z_astore, z_iinc, z_iincP, z_iadd, z_isub, z_imul, z_iaddW, z_isubW, z_imulW, z_idiv, z_irem, z_iand, z_ior, z_ixor, z_ishl, z_ishr, z_iushr, z_ineg, z_i2l, z_i2b, z_i2s, z_i2c, z_l2i, z_ladd, z_lsub, z_land, z_lor, z_lshl, z_lshr, z_lcmp, z_dup, z_pop, z_dup2, z_goto, z_tsw, z_cases, z_geti, z_getr, z_puti, z_putz, z_ald, z_iast, z_bast, z_zast, z_alen, z_acopy, z_mmax, z_mmin, z_mabs, z_mabsL, z_iret, z_zret, z_nret, z_lret, z_aret, z_vret, z_cat, z_xald, z_xlen, z_ldcs, z_strv, z_strc, z_gcs, z_gfm, z_sln, z_sald, z_ifeq, z_ifne, z_iflt, z_ifge, z_ifgt, z_ifle, z_iceq, z_icne, z_iclt, z_icge, z_icgt, z_icle, z_cs0, z_cs1, z_cs2, z_cs3, z_cs4, z_cs5, z_cs6, z_cs7, z_cv0, z_cv1, z_cv2, z_cv3, z_cv4, z_cv5, z_cv6, z_cv7, z_g0, z_s0, z_g1, z_s1, z_g2, z_s2, z_g3, z_s3, z_g4, z_s4, z_g5, z_s5, z_g6, z_s6, z_g7, z_s7, z_g8, z_s8, z_g9, z_s9, z_g10, z_s10, z_g11, z_s11, z_g12, z_s12, z_g13, z_s13, z_b0, z_b1, z_b0n, z_b1n, z_up_far1, z_up_far2, z_up_far3, z_up_far4, z_up_far5, z_up_far6, Classical.not_not, not_true_eq_false, z_in, z_inL, Int.cast_ofNat_Int, Nat.reduceLeDiff, List.length_cons, List.length_nil, Nat.reduceAdd, Nat.zero_add, Nat.le_refl, true_and, and_true, List.length, Nat.reduceLT, true_or, or_true, false_or, or_false, false_and, and_false, not_true_eq_false, not_false_eq_true, forall_const, false_implies, true_implies, Int.reduceEq, Int.reduceLT, Int.reduceLE, Int.reduceAdd, Int.reduceSub, Int.reduceMul, Int.reduceNeg, Int.reduceToNat, Int.toNat_natCast, ↓reduceIte, reduceIte, Nat.reduceEqDiff, Nat.reduceSub, Nat.reduceMul, ne_eq, Int.zero_add, Int.add_zero, Int.sub_zero, Nat.add_zero, Int.ofNat_eq_natCast, tX4_isWord_28, SJ0_length_8abf5, SJ0_charAt_5068e, SX4_byteAt, ej, a1, r1, e3, hb2]
      repeat' (first | (with_reducible intro _) | (with_reducible assumption) | (with_reducible refine And.intro ?_ ?_))
      all_goals first | omega | (with_reducible assumption) | (with_reducible refine z_fin h ?_ rfl; first | rfl | omega | (split <;> omega) | (split <;> split <;> omega)) | skip
      · exact ih (i + 1) (by omega) ht hn (fun a ha => by
          by_cases w : a = i
          · rw [w]; assumption
          · exact hh a (by omega))
      · rw [if_neg (fun q => by have := q.2.2 i (by omega); contradiction)] at h
        exact h
  refine h0 _ _ _ ?_
  simp only [z_push, z_lpush, z_iload, z_lload, z_aload, z_istore, z_istoreP, z_lstore, z_astore, z_iinc, z_iincP, z_iadd, z_isub, z_imul, z_iaddW, z_isubW, z_imulW, z_idiv, z_irem, z_iand, z_ior, z_ixor, z_ishl, z_ishr, z_iushr, z_ineg, z_i2l, z_i2b, z_i2s, z_i2c, z_l2i, z_ladd, z_lsub, z_land, z_lor, z_lshl, z_lshr, z_lcmp, z_dup, z_pop, z_dup2, z_goto, z_tsw, z_cases, z_geti, z_getr, z_puti, z_putz, z_ald, z_iast, z_bast, z_zast, z_alen, z_acopy, z_mmax, z_mmin, z_mabs, z_mabsL, z_iret, z_zret, z_nret, z_lret, z_aret, z_vret, z_cat, z_xald, z_xlen, z_ldcs, z_strv, z_strc, z_gcs, z_gfm, z_sln, z_sald, z_ifeq, z_ifne, z_iflt, z_ifge, z_ifgt, z_ifle, z_iceq, z_icne, z_iclt, z_icge, z_icgt, z_icle, z_cs0, z_cs1, z_cs2, z_cs3, z_cs4, z_cs5, z_cs6, z_cs7, z_cv0, z_cv1, z_cv2, z_cv3, z_cv4, z_cv5, z_cv6, z_cv7, z_g0, z_s0, z_g1, z_s1, z_g2, z_s2, z_g3, z_s3, z_g4, z_s4, z_g5, z_s5, z_g6, z_s6, z_g7, z_s7, z_g8, z_s8, z_g9, z_s9, z_g10, z_s10, z_g11, z_s11, z_g12, z_s12, z_g13, z_s13, z_b0, z_b1, z_b0n, z_b1n, z_up_far1, z_up_far2, z_up_far3, z_up_far4, z_up_far5, z_up_far6, Classical.not_not, not_true_eq_false, z_in, z_inL, Int.cast_ofNat_Int, Nat.reduceLeDiff, List.length_cons, List.length_nil, Nat.reduceAdd, Nat.zero_add, Nat.le_refl, true_and, and_true, List.length, Nat.reduceLT, true_or, or_true, false_or, or_false, false_and, and_false, not_true_eq_false, not_false_eq_true, forall_const, false_implies, true_implies, Int.reduceEq, Int.reduceLT, Int.reduceLE, Int.reduceAdd, Int.reduceSub, Int.reduceMul, Int.reduceNeg, Int.reduceToNat, Int.toNat_natCast, ↓reduceIte, reduceIte, Nat.reduceEqDiff, Nat.reduceSub, Nat.reduceMul, ne_eq, Int.zero_add, Int.add_zero, Int.sub_zero, Nat.add_zero, Int.ofNat_eq_natCast, tX4_isWord_0, SJ0_length_8abf5, ej, a1, a2, a3]
  repeat' (first | (with_reducible intro _) | (with_reducible assumption) | (with_reducible refine And.intro ?_ ?_))
  all_goals first | omega | (with_reducible assumption) | (with_reducible refine z_fin h ?_ rfl; first | rfl | omega | (split <;> omega) | (split <;> split <;> omega)) | skip
  all_goals exact L28 _ 0 (Nat.zero_add _) (by assumption) (by omega) (fun a ha => absurd ha (Nat.not_lt_zero _))
theorem dX4_isWord_0 : decode cX4_isWord 0 = .ok (.aload_n 0, 1) := by decide +kernel
theorem dX4_isWord_1 : decode cX4_isWord 1 = .ok (.getfield 53, 3) := by decide +kernel
theorem dX4_isWord_4 : decode cX4_isWord 4 = .ok (.iconst 1, 1) := by decide +kernel
theorem dX4_isWord_5 : decode cX4_isWord 5 = .ok (.if_icmp .ne 19, 3) := by decide +kernel
theorem dX4_isWord_8 : decode cX4_isWord 8 = .ok (.aload_n 0, 1) := by decide +kernel
theorem dX4_isWord_9 : decode cX4_isWord 9 = .ok (.getfield 44, 3) := by decide +kernel
theorem dX4_isWord_12 : decode cX4_isWord 12 = .ok (.aload_n 0, 1) := by decide +kernel
theorem dX4_isWord_13 : decode cX4_isWord 13 = .ok (.getfield 144, 3) := by decide +kernel
theorem dX4_isWord_16 : decode cX4_isWord 16 = .ok (.isub, 1) := by decide +kernel
theorem dX4_isWord_17 : decode cX4_isWord 17 = .ok (.aload_n 1, 1) := by decide +kernel
theorem dX4_isWord_18 : decode cX4_isWord 18 = .ok (.invokevirtual 147, 3) := by decide +kernel
theorem dX4_isWord_21 : decode cX4_isWord 21 = .ok (.if_icmp .eq 5, 3) := by decide +kernel
theorem dX4_isWord_24 : decode cX4_isWord 24 = .ok (.iconst 0, 1) := by decide +kernel
theorem dX4_isWord_25 : decode cX4_isWord 25 = .ok (.ireturn, 1) := by decide +kernel
theorem dX4_isWord_26 : decode cX4_isWord 26 = .ok (.iconst 0, 1) := by decide +kernel
theorem dX4_isWord_27 : decode cX4_isWord 27 = .ok (.istore_n 2, 1) := by decide +kernel
theorem dX4_isWord_28 : decode cX4_isWord 28 = .ok (.iload_n 2, 1) := by decide +kernel
theorem dX4_isWord_29 : decode cX4_isWord 29 = .ok (.aload_n 1, 1) := by decide +kernel
theorem dX4_isWord_30 : decode cX4_isWord 30 = .ok (.invokevirtual 147, 3) := by decide +kernel
theorem dX4_isWord_33 : decode cX4_isWord 33 = .ok (.if_icmp .ge 29, 3) := by decide +kernel
theorem dX4_isWord_36 : decode cX4_isWord 36 = .ok (.aload_n 0, 1) := by decide +kernel
theorem dX4_isWord_37 : decode cX4_isWord 37 = .ok (.aload_n 0, 1) := by decide +kernel
theorem dX4_isWord_38 : decode cX4_isWord 38 = .ok (.getfield 144, 3) := by decide +kernel
theorem dX4_isWord_41 : decode cX4_isWord 41 = .ok (.iload_n 2, 1) := by decide +kernel
theorem dX4_isWord_42 : decode cX4_isWord 42 = .ok (.iadd, 1) := by decide +kernel
theorem dX4_isWord_43 : decode cX4_isWord 43 = .ok (.invokevirtual 152, 3) := by decide +kernel
theorem dX4_isWord_46 : decode cX4_isWord 46 = .ok (.aload_n 1, 1) := by decide +kernel
theorem dX4_isWord_47 : decode cX4_isWord 47 = .ok (.iload_n 2, 1) := by decide +kernel
theorem dX4_isWord_48 : decode cX4_isWord 48 = .ok (.invokevirtual 156, 3) := by decide +kernel
theorem dX4_isWord_51 : decode cX4_isWord 51 = .ok (.if_icmp .eq 5, 3) := by decide +kernel
theorem dX4_isWord_54 : decode cX4_isWord 54 = .ok (.iconst 0, 1) := by decide +kernel
theorem dX4_isWord_55 : decode cX4_isWord 55 = .ok (.ireturn, 1) := by decide +kernel
theorem dX4_isWord_56 : decode cX4_isWord 56 = .ok (.iinc 2 1, 3) := by decide +kernel
theorem dX4_isWord_59 : decode cX4_isWord 59 = .ok (.goto (-31), 3) := by decide +kernel
theorem dX4_isWord_62 : decode cX4_isWord 62 = .ok (.iconst 1, 1) := by decide +kernel
theorem dX4_isWord_63 : decode cX4_isWord 63 = .ok (.ireturn, 1) := by decide +kernel
set_option maxRecDepth 100000 in
theorem rX4_isWord_0 {zx : zX} {zn : Nat} {p : Program} {l : Launch} {e : Env} {s : State} {m : MethodId} {args : Array Value} {below : List Frame} {meth : Method} {c : Code} {D : va_G} {cA : Nat → ClassId} {ad : Nat → Nat} {Ret : zR} (C : z_Cx zx zn (z_A zn ad) 0 0 p { frames := 4, cells := 0, slots := 0, locals := 85 } s m args c cX4_isWord yX4_isWord.cls 3 D cA ad) (hr : meth.sig.returnType = (some .boolean)) (hlocks : meth.locks = false) : ∀ L st σ, tX4_isWord_0 (z_X zx zn (z_A zn ad) 0 0 p l e { frames := 4, cells := 0, slots := 0, locals := 85 } s m args below meth c (MQ below (z_Qc zn D cA ad Ret) args s 0 0 (z_A zn ad)) 3 D cA ad true) Ret L st σ → z_X zx zn (z_A zn ad) 0 0 p l e { frames := 4, cells := 0, slots := 0, locals := 85 } s m args below meth c (MQ below (z_Qc zn D cA ad Ret) args s 0 0 (z_A zn ad)) 3 D cA ad true 0 L st σ := (s_aload_n C dX4_isWord_0 rfl (s_geti C dX4_isWord_1 cls_X4 (by decide) rfl wd_55 (s_iconst C dX4_isWord_4 rfl ⟨by decide, by decide⟩ (s_icne C dX4_isWord_5 (by decide) (s_iconst C dX4_isWord_24 rfl ⟨by decide, by decide⟩ (s_zret C dX4_isWord_25 hr ⟨rfl, rfl⟩ hlocks)) (s_aload_n C dX4_isWord_8 rfl (s_geti C dX4_isWord_9 cls_X4 (by decide) rfl wd_54 (s_aload_n C dX4_isWord_12 rfl (s_geti C dX4_isWord_13 cls_X4 (by decide) rfl wd_50 (s_isub C dX4_isWord_16 (s_aload_n C dX4_isWord_17 rfl (s_cz0 C dX4_isWord_18 (okJ0_length_8abf5 l) rfl wd_379 wd_380 wd_381 wd_27 wd_382 ⟨by decide, by decide, by decide +kernel⟩ ⟨by decide, by decide⟩ (s_iceq C dX4_isWord_21 (by decide) (s_iconst C dX4_isWord_26 rfl ⟨by decide, by decide⟩ (s_istore_n C dX4_isWord_27 (by decide) rfl rfl (fun _ _ _ h => h))) (s_iconst C dX4_isWord_24 rfl ⟨by decide, by decide⟩ (s_zret C dX4_isWord_25 hr ⟨rfl, rfl⟩ hlocks))))))))))))))
set_option maxRecDepth 100000 in
theorem rX4_isWord_28 {zx : zX} {zn : Nat} {p : Program} {l : Launch} {e : Env} {s : State} {m : MethodId} {args : Array Value} {below : List Frame} {meth : Method} {c : Code} {D : va_G} {cA : Nat → ClassId} {ad : Nat → Nat} {Ret : zR} (C : z_Cx zx zn (z_A zn ad) 0 0 p { frames := 4, cells := 0, slots := 0, locals := 85 } s m args c cX4_isWord yX4_isWord.cls 3 D cA ad) (hr : meth.sig.returnType = (some .boolean)) (hlocks : meth.locks = false) : ∀ L st σ, tX4_isWord_28 (z_X zx zn (z_A zn ad) 0 0 p l e { frames := 4, cells := 0, slots := 0, locals := 85 } s m args below meth c (MQ below (z_Qc zn D cA ad Ret) args s 0 0 (z_A zn ad)) 3 D cA ad true) Ret L st σ → z_X zx zn (z_A zn ad) 0 0 p l e { frames := 4, cells := 0, slots := 0, locals := 85 } s m args below meth c (MQ below (z_Qc zn D cA ad Ret) args s 0 0 (z_A zn ad)) 3 D cA ad true 28 L st σ := (s_iload_n C dX4_isWord_28 rfl (s_aload_n C dX4_isWord_29 rfl (s_cz0 C dX4_isWord_30 (okJ0_length_8abf5 l) rfl wd_379 wd_380 wd_381 wd_27 wd_382 ⟨by decide, by decide, by decide +kernel⟩ ⟨by decide, by decide⟩ (s_icge C dX4_isWord_33 (by decide) (s_iconst C dX4_isWord_62 rfl ⟨by decide, by decide⟩ (s_zret C dX4_isWord_63 hr ⟨rfl, rfl⟩ hlocks)) (s_aload_n C dX4_isWord_36 rfl (s_aload_n C dX4_isWord_37 rfl (s_geti C dX4_isWord_38 cls_X4 (by decide) rfl wd_50 (s_iload_n C dX4_isWord_41 rfl (s_iadd C dX4_isWord_42 (s_cv1 C dX4_isWord_43 (okX4_byteAt l) cls_X4 wd_339 wd_341 wd_2 wd_18 wd_342 ⟨by decide, by decide, by decide +kernel⟩ ⟨by decide, by decide⟩ (s_aload_n C dX4_isWord_46 rfl (s_iload_n C dX4_isWord_47 rfl (s_cz1 C dX4_isWord_48 (okJ0_charAt_5068e l) rfl wd_389 wd_390 wd_391 wd_27 wd_392 ⟨by decide, by decide, by decide +kernel⟩ ⟨by decide, by decide⟩ (s_iceq C dX4_isWord_51 (by decide) (s_iinc C dX4_isWord_56 (by decide) rfl (s_goto C dX4_isWord_59 (by decide) (fun _ _ _ h => h))) (s_iconst C dX4_isWord_54 rfl ⟨by decide, by decide⟩ (s_zret C dX4_isWord_55 hr ⟨rfl, rfl⟩ hlocks))))))))))))))))
theorem okX4_isWord {zx : zX} {zn : Nat} (l : Launch) : z_OK zx zn l yX4_isWord cX4_isWord 3 (some .boolean) 4 85 SX4_isWord := by
  refine z_ok_of true (by decide +kernel) ?_ ?_
  · intro as σ Ret h
    obtain ⟨k0, k1, rfl⟩ := pX4_isWord h
    exact ⟨Nat.le_of_ble_eq_true rfl, by simp⟩
  · intro p e s m args below meth c D cA ad Ret C hr hlocks as σ has hσ h
    obtain ⟨k0, k1, rfl⟩ := pX4_isWord h
    exact vX4_isWord (rX4_isWord_0 C hr hlocks) (rX4_isWord_28 C hr hlocks) k0 k1 σ (has _ (List.mem_of_getElem? (i := 0) rfl)).1 (has _ (List.mem_of_getElem? (i := 1) rfl)).1 hσ h
def SX4_wordOf : zS := fun as σ Ret => match as with
  | [.inl o] => (0 ≤ o ∧ o ≤ 7) ∧ Ret (some (.inr (.inr (200, 0, 1003 + o.toNat)))) σ
  | _ => False
def tX4_wordOf_0 (X : Nat → zB) (Ret : zR) (L : zL) (st : List zV) (σ : zM) : Prop := (z_iload 0 (z_tsw 0 [(z_ldcs 3 (z_aret Ret)), (z_ldcs 4 (z_aret Ret)), (z_ldcs 5 (z_aret Ret)), (z_ldcs 6 (z_aret Ret)), (z_ldcs 7 (z_aret Ret)), (z_ldcs 8 (z_aret Ret)), (z_ldcs 9 (z_aret Ret))] (z_ldcs 10 (z_aret Ret)))) L st σ
theorem pX4_wordOf {as : List zV} {σ : zM} {Ret : zR} (h : SX4_wordOf as σ Ret) : ∃ (x1 : Int), as = [.inl x1] := by
  unfold SX4_wordOf at h
  split at h
  · exact ⟨_, rfl⟩
  · exact h.elim
set_option maxRecDepth 10000 in
set_option maxHeartbeats 4000000 in
theorem vX4_wordOf {X : Nat → zB} {Ret : zR} (h0 : ∀ L st σ, tX4_wordOf_0 X Ret L st σ → X 0 L st σ) (x1 : Int) (σ : zM) (hx1 : -2147483648 ≤ x1 ∧ x1 ≤ 2147483647) (hσ : z_okm σ) (h : SX4_wordOf [.inl x1] σ Ret) : X 0 [some (.inl x1)] [] σ := by
  obtain ⟨ho, h⟩ := h
  have hho : x1 = 0 ∨ x1 = 1 ∨ x1 = 2 ∨ x1 = 3 ∨ x1 = 4 ∨ x1 = 5 ∨ x1 = 6 ∨ x1 = 7 := by omega
  rcases hho with rfl | rfl | rfl | rfl | rfl | rfl | rfl | rfl
  all_goals
    refine h0 _ _ _ ?_
    simp only [z_push, z_lpush, z_iload, z_lload, z_aload, z_istore, z_istoreP, z_lstore, z_astore, z_iinc, z_iincP, z_iadd, z_isub, z_imul, z_iaddW, z_isubW, z_imulW, z_idiv, z_irem, z_iand, z_ior, z_ixor, z_ishl, z_ishr, z_iushr, z_ineg, z_i2l, z_i2b, z_i2s, z_i2c, z_l2i, z_ladd, z_lsub, z_land, z_lor, z_lshl, z_lshr, z_lcmp, z_dup, z_pop, z_dup2, z_goto, z_tsw, z_cases, z_geti, z_getr, z_puti, z_putz, z_ald, z_iast, z_bast, z_zast, z_alen, z_acopy, z_mmax, z_mmin, z_mabs, z_mabsL, z_iret, z_zret, z_nret, z_lret, z_aret, z_vret, z_cat, z_xald, z_xlen, z_ldcs, z_strv, z_strc, z_gcs, z_gfm, z_sln, z_sald, z_ifeq, z_ifne, z_iflt, z_ifge, z_ifgt, z_ifle, z_iceq, z_icne, z_iclt, z_icge, z_icgt, z_icle, z_cs0, z_cs1, z_cs2, z_cs3, z_cs4, z_cs5, z_cs6, z_cs7, z_cv0, z_cv1, z_cv2, z_cv3, z_cv4, z_cv5, z_cv6, z_cv7, z_g0, z_s0, z_g1, z_s1, z_g2, z_s2, z_g3, z_s3, z_g4, z_s4, z_g5, z_s5, z_g6, z_s6, z_g7, z_s7, z_g8, z_s8, z_g9, z_s9, z_g10, z_s10, z_g11, z_s11, z_g12, z_s12, z_g13, z_s13, z_b0, z_b1, z_b0n, z_b1n, z_up_far1, z_up_far2, z_up_far3, z_up_far4, z_up_far5, z_up_far6, Classical.not_not, not_true_eq_false, z_in, z_inL, Int.cast_ofNat_Int, Nat.reduceLeDiff, List.length_cons, List.length_nil, Nat.reduceAdd, Nat.zero_add, Nat.le_refl, true_and, and_true, List.length, Nat.reduceLT, true_or, or_true, false_or, or_false, false_and, and_false, not_true_eq_false, not_false_eq_true, forall_const, false_implies, true_implies, Int.reduceEq, Int.reduceLT, Int.reduceLE, Int.reduceAdd, Int.reduceSub, Int.reduceMul, Int.reduceNeg, Int.reduceToNat, Int.toNat_natCast, ↓reduceIte, reduceIte, Nat.reduceEqDiff, Nat.reduceSub, Nat.reduceMul, ne_eq, Int.zero_add, Int.add_zero, Int.sub_zero, Nat.add_zero, Int.ofNat_eq_natCast, tX4_wordOf_0]
    repeat' (first | (with_reducible intro _) | (with_reducible assumption) | (with_reducible refine And.intro ?_ ?_))
    all_goals first | omega | (with_reducible assumption) | (with_reducible refine z_fin h ?_ rfl; first | rfl | omega | (split <;> omega) | (split <;> split <;> omega)) | skip
    all_goals exact h
theorem dX4_wordOf_0 : decode cX4_wordOf 0 = .ok (.iload_n 0, 1) := by decide +kernel
theorem dX4_wordOf_1 : decode cX4_wordOf 1 = .ok (.tableswitch 64 0 6 #[43, 46, 49, 52, 55, 58, 61], 43) := by decide +kernel
theorem dX4_wordOf_44 : decode cX4_wordOf 44 = .ok (.ldc 125, 2) := by decide +kernel
theorem dX4_wordOf_46 : decode cX4_wordOf 46 = .ok (.areturn, 1) := by decide +kernel
theorem dX4_wordOf_47 : decode cX4_wordOf 47 = .ok (.ldc 127, 2) := by decide +kernel
theorem dX4_wordOf_49 : decode cX4_wordOf 49 = .ok (.areturn, 1) := by decide +kernel
theorem dX4_wordOf_50 : decode cX4_wordOf 50 = .ok (.ldc 129, 2) := by decide +kernel
theorem dX4_wordOf_52 : decode cX4_wordOf 52 = .ok (.areturn, 1) := by decide +kernel
theorem dX4_wordOf_53 : decode cX4_wordOf 53 = .ok (.ldc 131, 2) := by decide +kernel
theorem dX4_wordOf_55 : decode cX4_wordOf 55 = .ok (.areturn, 1) := by decide +kernel
theorem dX4_wordOf_56 : decode cX4_wordOf 56 = .ok (.ldc 133, 2) := by decide +kernel
theorem dX4_wordOf_58 : decode cX4_wordOf 58 = .ok (.areturn, 1) := by decide +kernel
theorem dX4_wordOf_59 : decode cX4_wordOf 59 = .ok (.ldc 135, 2) := by decide +kernel
theorem dX4_wordOf_61 : decode cX4_wordOf 61 = .ok (.areturn, 1) := by decide +kernel
theorem dX4_wordOf_62 : decode cX4_wordOf 62 = .ok (.ldc 137, 2) := by decide +kernel
theorem dX4_wordOf_64 : decode cX4_wordOf 64 = .ok (.areturn, 1) := by decide +kernel
theorem dX4_wordOf_65 : decode cX4_wordOf 65 = .ok (.ldc 139, 2) := by decide +kernel
theorem dX4_wordOf_67 : decode cX4_wordOf 67 = .ok (.areturn, 1) := by decide +kernel
set_option maxRecDepth 100000 in
theorem rX4_wordOf_0 {zx : zX} {zn : Nat} {p : Program} {l : Launch} {e : Env} {s : State} {m : MethodId} {args : Array Value} {below : List Frame} {meth : Method} {c : Code} {D : va_G} {cA : Nat → ClassId} {ad : Nat → Nat} {Ret : zR} (C : z_Cx zx zn (z_A zn ad) 0 0 p { frames := 0, cells := 0, slots := 0, locals := 0 } s m args c cX4_wordOf yX4_wordOf.cls 1 D cA ad) (hr : meth.sig.returnType = (some (.object "java/lang/String"))) (hlocks : meth.locks = false) : ∀ L st σ, tX4_wordOf_0 (z_X zx zn (z_A zn ad) 0 0 p l e { frames := 0, cells := 0, slots := 0, locals := 0 } s m args below meth c (MQ below (z_Qc zn D cA ad Ret) args s 0 0 (z_A zn ad)) 1 D cA ad true) Ret L st σ → z_X zx zn (z_A zn ad) 0 0 p l e { frames := 0, cells := 0, slots := 0, locals := 0 } s m args below meth c (MQ below (z_Qc zn D cA ad Ret) args s 0 0 (z_A zn ad)) 1 D cA ad true 0 L st σ := (s_iload_n C dX4_wordOf_0 rfl (s_tsw C dX4_wordOf_1 (by decide) rfl (s_ldcs C dX4_wordOf_65 (j := 10) (by decide) rfl rfl (s_aret C dX4_wordOf_67 hr hlocks)) (fun i hi => match i, hi with | 0, _ => ⟨43, 44, _, rfl, by decide, rfl, (s_ldcs C dX4_wordOf_44 (j := 3) (by decide) rfl rfl (s_aret C dX4_wordOf_46 hr hlocks))⟩ | 1, _ => ⟨46, 47, _, rfl, by decide, rfl, (s_ldcs C dX4_wordOf_47 (j := 4) (by decide) rfl rfl (s_aret C dX4_wordOf_49 hr hlocks))⟩ | 2, _ => ⟨49, 50, _, rfl, by decide, rfl, (s_ldcs C dX4_wordOf_50 (j := 5) (by decide) rfl rfl (s_aret C dX4_wordOf_52 hr hlocks))⟩ | 3, _ => ⟨52, 53, _, rfl, by decide, rfl, (s_ldcs C dX4_wordOf_53 (j := 6) (by decide) rfl rfl (s_aret C dX4_wordOf_55 hr hlocks))⟩ | 4, _ => ⟨55, 56, _, rfl, by decide, rfl, (s_ldcs C dX4_wordOf_56 (j := 7) (by decide) rfl rfl (s_aret C dX4_wordOf_58 hr hlocks))⟩ | 5, _ => ⟨58, 59, _, rfl, by decide, rfl, (s_ldcs C dX4_wordOf_59 (j := 8) (by decide) rfl rfl (s_aret C dX4_wordOf_61 hr hlocks))⟩ | 6, _ => ⟨61, 62, _, rfl, by decide, rfl, (s_ldcs C dX4_wordOf_62 (j := 9) (by decide) rfl rfl (s_aret C dX4_wordOf_64 hr hlocks))⟩) ⟨by decide, by decide⟩ ⟨by decide, by decide⟩))
theorem okX4_wordOf {zx : zX} {zn : Nat} (l : Launch) : z_OK zx zn l yX4_wordOf cX4_wordOf 1 (some (.object "java/lang/String")) 0 0 SX4_wordOf := by
  refine z_ok_of true (by decide +kernel) ?_ ?_
  · intro as σ Ret h
    obtain ⟨x1, rfl⟩ := pX4_wordOf h
    exact ⟨Nat.le_of_ble_eq_true rfl, by simp⟩
  · intro p e s m args below meth c D cA ad Ret C hr hlocks as σ has hσ h
    obtain ⟨x1, rfl⟩ := pX4_wordOf h
    exact vX4_wordOf (rX4_wordOf_0 C hr hlocks) x1 σ (has _ (List.mem_of_getElem? (i := 0) rfl)) hσ h
def q_ordn (b : Nat → Int) (T p : Nat) : Nat → Nat → Int
  | 0, _ => -1
  | n + 1, o => if q_isw b T p (3 + o) then o else q_ordn b T p n (o + 1)
def q_ord (b : Nat → Int) (T p : Nat) : Int := q_ordn b T p 8 0
def SX4_orderHere : zS := fun as σ Ret => match as with
  | [.inr (.inr (4, 0, k))] => ∃ b T p f, q_rs σ k b T p f ∧ Ret (some (.inl (q_ord b T p))) σ
  | _ => False
def tX4_orderHere_0 (X : Nat → zB) (Ret : zR) (L : zL) (st : List zV) (σ : zM) : Prop := (z_push 0 (z_istore 1 (X 2))) L st σ
def tX4_orderHere_2 (X : Nat → zB) (Ret : zR) (L : zL) (st : List zV) (σ : zM) : Prop := (z_iload 1 (z_push 7 (z_icgt (z_push (-1) (z_iret Ret)) (z_aload 0 (z_iload 1 (z_cs1 SX4_wordOf (z_cv1 4 SX4_isWord (z_ifeq (z_iinc 1 1 (z_goto (X 2))) (z_iload 1 (z_iret Ret)))))))))) L st σ
theorem pX4_orderHere {as : List zV} {σ : zM} {Ret : zR} (h : SX4_orderHere as σ Ret) : ∃ (k0 : Nat), as = [.inr (.inr (4, 0, k0))] := by
  unfold SX4_orderHere at h
  split at h
  · exact ⟨_, rfl⟩
  · exact h.elim
set_option maxRecDepth 10000 in
set_option maxHeartbeats 4000000 in
theorem vX4_orderHere {X : Nat → zB} {Ret : zR} (h0 : ∀ L st σ, tX4_orderHere_0 X Ret L st σ → X 0 L st σ) (h2 : ∀ L st σ, tX4_orderHere_2 X Ret L st σ → X 2 L st σ) (k0 : Nat) (σ : zM) (hk0 : z_kd k0 = (4, 0)) (hσ : z_okm σ) (h : SX4_orderHere [.inr (.inr (4, 0, k0))] σ Ret) : X 0 [some (.inr (.inr (4, 0, k0))), none] [] σ := by
  obtain ⟨b, T, p, f, rs, h⟩ := h
  have L2 : ∀ (d o : Nat), o + d = 8 → q_ordn b T p d o = q_ord b T p → X 2 [some (.inr (.inr (4, 0, k0))), some (.inl (o : Int))] [] σ := by
    intro d
    induction d with
    | zero =>
      intro o ho hq
      rw [← hq, q_ordn] at h
      refine h2 _ _ _ ?_
      simp only [z_push, z_lpush, z_iload, z_lload, z_aload, z_istore, z_istoreP, z_lstore, z_astore, z_iinc, z_iincP, z_iadd, z_isub, z_imul, z_iaddW, z_isubW, z_imulW, z_idiv, z_irem, z_iand, z_ior, z_ixor, z_ishl, z_ishr, z_iushr, z_ineg, z_i2l, z_i2b, z_i2s, z_i2c, z_l2i, z_ladd, z_lsub, z_land, z_lor, z_lshl, z_lshr, z_lcmp, z_dup, z_pop, z_dup2, z_goto, z_tsw, z_cases, z_geti, z_getr, z_puti, z_putz, z_ald, z_iast, z_bast, z_zast, z_alen, z_acopy, z_mmax, z_mmin, z_mabs, z_mabsL, z_iret, z_zret, z_nret, z_lret, z_aret, z_vret, z_cat, z_xald, z_xlen, z_ldcs, z_strv, z_strc, z_gcs, z_gfm, z_sln, z_sald, z_ifeq, z_ifne, z_iflt, z_ifge, z_ifgt, z_ifle, z_iceq, z_icne, z_iclt, z_icge, z_icgt, z_icle, z_cs0, z_cs1, z_cs2, z_cs3, z_cs4, z_cs5, z_cs6, z_cs7, z_cv0, z_cv1, z_cv2, z_cv3, z_cv4, z_cv5, z_cv6, z_cv7, z_g0, z_s0, z_g1, z_s1, z_g2, z_s2, z_g3, z_s3, z_g4, z_s4, z_g5, z_s5, z_g6, z_s6, z_g7, z_s7, z_g8, z_s8, z_g9, z_s9, z_g10, z_s10, z_g11, z_s11, z_g12, z_s12, z_g13, z_s13, z_b0, z_b1, z_b0n, z_b1n, z_up_far1, z_up_far2, z_up_far3, z_up_far4, z_up_far5, z_up_far6, Classical.not_not, not_true_eq_false, z_in, z_inL, Int.cast_ofNat_Int, Nat.reduceLeDiff, List.length_cons, List.length_nil, Nat.reduceAdd, Nat.zero_add, Nat.le_refl, true_and, and_true, List.length, Nat.reduceLT, true_or, or_true, false_or, or_false, false_and, and_false, not_true_eq_false, not_false_eq_true, forall_const, false_implies, true_implies, Int.reduceEq, Int.reduceLT, Int.reduceLE, Int.reduceAdd, Int.reduceSub, Int.reduceMul, Int.reduceNeg, Int.reduceToNat, Int.toNat_natCast, ↓reduceIte, reduceIte, Nat.reduceEqDiff, Nat.reduceSub, Nat.reduceMul, ne_eq, Int.zero_add, Int.add_zero, Int.sub_zero, Nat.add_zero, Int.ofNat_eq_natCast, tX4_orderHere_2]
      repeat' (first | (with_reducible intro _) | (with_reducible assumption) | (with_reducible refine And.intro ?_ ?_))
      all_goals first | omega | (with_reducible assumption) | (with_reducible refine z_fin h ?_ rfl; first | rfl | omega | (split <;> omega) | (split <;> split <;> omega)) | skip
    | succ d ih =>
      intro o ho hq
      rw [q_ordn] at hq
      refine h2 _ _ _ ?_
      simp only [z_push, z_lpush, z_iload, z_lload, z_aload, z_istore, z_istoreP, z_lstore, z_astore, z_iinc, z_iincP, z_iadd, z_isub, z_imul, z_iaddW, z_isubW, z_imulW, z_idiv, z_irem, z_iand, z_ior, z_ixor, z_ishl, z_ishr, z_iushr, z_ineg, z_i2l, z_i2b, z_i2s, z_i2c, z_l2i, z_ladd, z_lsub, z_land, z_lor, z_lshl, z_lshr, z_lcmp, z_dup, z_pop, z_dup2, z_goto, z_tsw, z_cases, z_geti, z_getr, z_puti, z_putz, z_ald, z_iast, z_bast, z_zast, z_alen, z_acopy, z_mmax, z_mmin, z_mabs, z_mabsL, z_iret, z_zret, z_nret, z_lret, z_aret, z_vret, z_cat, z_xald, z_xlen, z_ldcs, z_strv, z_strc, z_gcs, z_gfm, z_sln, z_sald, z_ifeq, z_ifne, z_iflt, z_ifge, z_ifgt, z_ifle, z_iceq, z_icne, z_iclt, z_icge, z_icgt, z_icle, z_cs0, z_cs1, z_cs2, z_cs3, z_cs4, z_cs5, z_cs6, z_cs7, z_cv0, z_cv1, z_cv2, z_cv3, z_cv4, z_cv5, z_cv6, z_cv7, z_g0, z_s0, z_g1, z_s1, z_g2, z_s2, z_g3, z_s3, z_g4, z_s4, z_g5, z_s5, z_g6, z_s6, z_g7, z_s7, z_g8, z_s8, z_g9, z_s9, z_g10, z_s10, z_g11, z_s11, z_g12, z_s12, z_g13, z_s13, z_b0, z_b1, z_b0n, z_b1n, z_up_far1, z_up_far2, z_up_far3, z_up_far4, z_up_far5, z_up_far6, Classical.not_not, not_true_eq_false, z_in, z_inL, Int.cast_ofNat_Int, Nat.reduceLeDiff, List.length_cons, List.length_nil, Nat.reduceAdd, Nat.zero_add, Nat.le_refl, true_and, and_true, List.length, Nat.reduceLT, true_or, or_true, false_or, or_false, false_and, and_false, not_true_eq_false, not_false_eq_true, forall_const, false_implies, true_implies, Int.reduceEq, Int.reduceLT, Int.reduceLE, Int.reduceAdd, Int.reduceSub, Int.reduceMul, Int.reduceNeg, Int.reduceToNat, Int.toNat_natCast, ↓reduceIte, reduceIte, Nat.reduceEqDiff, Nat.reduceSub, Nat.reduceMul, ne_eq, Int.zero_add, Int.add_zero, Int.sub_zero, Nat.add_zero, Int.ofNat_eq_natCast, tX4_orderHere_2, SX4_wordOf, SX4_isWord, show 1003 + o - 1000 = 3 + o by omega]
      repeat' (first | (with_reducible intro _) | (with_reducible assumption) | (with_reducible refine And.intro ?_ ?_))
      all_goals first | omega | (with_reducible assumption) | (with_reducible refine z_fin h ?_ rfl; first | rfl | omega | (split <;> omega) | (split <;> split <;> omega)) | skip
      · refine ⟨b, T, p, f, rs, ?_⟩
        by_cases g : q_isw b T p (3 + o) = true
        · rw [if_pos g] at hq
          rw [← hq] at h
          simp only [z_push, z_lpush, z_iload, z_lload, z_aload, z_istore, z_istoreP, z_lstore, z_astore, z_iinc, z_iincP, z_iadd, z_isub, z_imul, z_iaddW, z_isubW, z_imulW, z_idiv, z_irem, z_iand, z_ior, z_ixor, z_ishl, z_ishr, z_iushr, z_ineg, z_i2l, z_i2b, z_i2s, z_i2c, z_l2i, z_ladd, z_lsub, z_land, z_lor, z_lshl, z_lshr, z_lcmp, z_dup, z_pop, z_dup2, z_goto, z_tsw, z_cases, z_geti, z_getr, z_puti, z_putz, z_ald, z_iast, z_bast, z_zast, z_alen, z_acopy, z_mmax, z_mmin, z_mabs, z_mabsL, z_iret, z_zret, z_nret, z_lret, z_aret, z_vret, z_cat, z_xald, z_xlen, z_ldcs, z_strv, z_strc, z_gcs, z_gfm, z_sln, z_sald, z_ifeq, z_ifne, z_iflt, z_ifge, z_ifgt, z_ifle, z_iceq, z_icne, z_iclt, z_icge, z_icgt, z_icle, z_cs0, z_cs1, z_cs2, z_cs3, z_cs4, z_cs5, z_cs6, z_cs7, z_cv0, z_cv1, z_cv2, z_cv3, z_cv4, z_cv5, z_cv6, z_cv7, z_g0, z_s0, z_g1, z_s1, z_g2, z_s2, z_g3, z_s3, z_g4, z_s4, z_g5, z_s5, z_g6, z_s6, z_g7, z_s7, z_g8, z_s8, z_g9, z_s9, z_g10, z_s10, z_g11, z_s11, z_g12, z_s12, z_g13, z_s13, z_b0, z_b1, z_b0n, z_b1n, z_up_far1, z_up_far2, z_up_far3, z_up_far4, z_up_far5, z_up_far6, Classical.not_not, not_true_eq_false, z_in, z_inL, Int.cast_ofNat_Int, Nat.reduceLeDiff, List.length_cons, List.length_nil, Nat.reduceAdd, Nat.zero_add, Nat.le_refl, true_and, and_true, List.length, Nat.reduceLT, true_or, or_true, false_or, or_false, false_and, and_false, not_true_eq_false, not_false_eq_true, forall_const, false_implies, true_implies, Int.reduceEq, Int.reduceLT, Int.reduceLE, Int.reduceAdd, Int.reduceSub, Int.reduceMul, Int.reduceNeg, Int.reduceToNat, Int.toNat_natCast, ↓reduceIte, reduceIte, Nat.reduceEqDiff, Nat.reduceSub, Nat.reduceMul, ne_eq, Int.zero_add, Int.add_zero, Int.sub_zero, Nat.add_zero, Int.ofNat_eq_natCast, g]
          repeat' (first | (with_reducible intro _) | (with_reducible assumption) | (with_reducible refine And.intro ?_ ?_))
          all_goals first | omega | (with_reducible assumption) | (with_reducible refine z_fin h ?_ rfl; first | rfl | omega | (split <;> omega) | (split <;> split <;> omega)) | skip
        · have g2 : q_isw b T p (3 + o) = false := by simpa using g
          rw [if_neg g] at hq
          have e1 := ih (o + 1) (by omega) hq
          simp only [z_push, z_lpush, z_iload, z_lload, z_aload, z_istore, z_istoreP, z_lstore, z_astore, z_iinc, z_iincP, z_iadd, z_isub, z_imul, z_iaddW, z_isubW, z_imulW, z_idiv, z_irem, z_iand, z_ior, z_ixor, z_ishl, z_ishr, z_iushr, z_ineg, z_i2l, z_i2b, z_i2s, z_i2c, z_l2i, z_ladd, z_lsub, z_land, z_lor, z_lshl, z_lshr, z_lcmp, z_dup, z_pop, z_dup2, z_goto, z_tsw, z_cases, z_geti, z_getr, z_puti, z_putz, z_ald, z_iast, z_bast, z_zast, z_alen, z_acopy, z_mmax, z_mmin, z_mabs, z_mabsL, z_iret, z_zret, z_nret, z_lret, z_aret, z_vret, z_cat, z_xald, z_xlen, z_ldcs, z_strv, z_strc, z_gcs, z_gfm, z_sln, z_sald, z_ifeq, z_ifne, z_iflt, z_ifge, z_ifgt, z_ifle, z_iceq, z_icne, z_iclt, z_icge, z_icgt, z_icle, z_cs0, z_cs1, z_cs2, z_cs3, z_cs4, z_cs5, z_cs6, z_cs7, z_cv0, z_cv1, z_cv2, z_cv3, z_cv4, z_cv5, z_cv6, z_cv7, z_g0, z_s0, z_g1, z_s1, z_g2, z_s2, z_g3, z_s3, z_g4, z_s4, z_g5, z_s5, z_g6, z_s6, z_g7, z_s7, z_g8, z_s8, z_g9, z_s9, z_g10, z_s10, z_g11, z_s11, z_g12, z_s12, z_g13, z_s13, z_b0, z_b1, z_b0n, z_b1n, z_up_far1, z_up_far2, z_up_far3, z_up_far4, z_up_far5, z_up_far6, Classical.not_not, not_true_eq_false, z_in, z_inL, Int.cast_ofNat_Int, Nat.reduceLeDiff, List.length_cons, List.length_nil, Nat.reduceAdd, Nat.zero_add, Nat.le_refl, true_and, and_true, List.length, Nat.reduceLT, true_or, or_true, false_or, or_false, false_and, and_false, not_true_eq_false, not_false_eq_true, forall_const, false_implies, true_implies, Int.reduceEq, Int.reduceLT, Int.reduceLE, Int.reduceAdd, Int.reduceSub, Int.reduceMul, Int.reduceNeg, Int.reduceToNat, Int.toNat_natCast, ↓reduceIte, reduceIte, Nat.reduceEqDiff, Nat.reduceSub, Nat.reduceMul, ne_eq, Int.zero_add, Int.add_zero, Int.sub_zero, Nat.add_zero, Int.ofNat_eq_natCast, g2, Bool.false_eq_true]
          repeat' (first | (with_reducible intro _) | (with_reducible assumption) | (with_reducible refine And.intro ?_ ?_))
          all_goals first | omega | (with_reducible assumption) | (with_reducible refine z_fin h ?_ rfl; first | rfl | omega | (split <;> omega) | (split <;> split <;> omega)) | skip
          exact e1
  refine h0 _ _ _ ?_
  simp only [z_push, z_lpush, z_iload, z_lload, z_aload, z_istore, z_istoreP, z_lstore, z_astore, z_iinc, z_iincP, z_iadd, z_isub, z_imul, z_iaddW, z_isubW, z_imulW, z_idiv, z_irem, z_iand, z_ior, z_ixor, z_ishl, z_ishr, z_iushr, z_ineg, z_i2l, z_i2b, z_i2s, z_i2c, z_l2i, z_ladd, z_lsub, z_land, z_lor, z_lshl, z_lshr, z_lcmp, z_dup, z_pop, z_dup2, z_goto, z_tsw, z_cases, z_geti, z_getr, z_puti, z_putz, z_ald, z_iast, z_bast, z_zast, z_alen, z_acopy, z_mmax, z_mmin, z_mabs, z_mabsL, z_iret, z_zret, z_nret, z_lret, z_aret, z_vret, z_cat, z_xald, z_xlen, z_ldcs, z_strv, z_strc, z_gcs, z_gfm, z_sln, z_sald, z_ifeq, z_ifne, z_iflt, z_ifge, z_ifgt, z_ifle, z_iceq, z_icne, z_iclt, z_icge, z_icgt, z_icle, z_cs0, z_cs1, z_cs2, z_cs3, z_cs4, z_cs5, z_cs6, z_cs7, z_cv0, z_cv1, z_cv2, z_cv3, z_cv4, z_cv5, z_cv6, z_cv7, z_g0, z_s0, z_g1, z_s1, z_g2, z_s2, z_g3, z_s3, z_g4, z_s4, z_g5, z_s5, z_g6, z_s6, z_g7, z_s7, z_g8, z_s8, z_g9, z_s9, z_g10, z_s10, z_g11, z_s11, z_g12, z_s12, z_g13, z_s13, z_b0, z_b1, z_b0n, z_b1n, z_up_far1, z_up_far2, z_up_far3, z_up_far4, z_up_far5, z_up_far6, Classical.not_not, not_true_eq_false, z_in, z_inL, Int.cast_ofNat_Int, Nat.reduceLeDiff, List.length_cons, List.length_nil, Nat.reduceAdd, Nat.zero_add, Nat.le_refl, true_and, and_true, List.length, Nat.reduceLT, true_or, or_true, false_or, or_false, false_and, and_false, not_true_eq_false, not_false_eq_true, forall_const, false_implies, true_implies, Int.reduceEq, Int.reduceLT, Int.reduceLE, Int.reduceAdd, Int.reduceSub, Int.reduceMul, Int.reduceNeg, Int.reduceToNat, Int.toNat_natCast, ↓reduceIte, reduceIte, Nat.reduceEqDiff, Nat.reduceSub, Nat.reduceMul, ne_eq, Int.zero_add, Int.add_zero, Int.sub_zero, Nat.add_zero, Int.ofNat_eq_natCast, tX4_orderHere_0]
  exact L2 8 0 (by omega) rfl
theorem dX4_orderHere_0 : decode cX4_orderHere 0 = .ok (.iconst 0, 1) := by decide +kernel
theorem dX4_orderHere_1 : decode cX4_orderHere 1 = .ok (.istore_n 1, 1) := by decide +kernel
theorem dX4_orderHere_2 : decode cX4_orderHere 2 = .ok (.iload_n 1, 1) := by decide +kernel
theorem dX4_orderHere_3 : decode cX4_orderHere 3 = .ok (.bipush 7, 2) := by decide +kernel
theorem dX4_orderHere_5 : decode cX4_orderHere 5 = .ok (.if_icmp .gt 22, 3) := by decide +kernel
theorem dX4_orderHere_8 : decode cX4_orderHere 8 = .ok (.aload_n 0, 1) := by decide +kernel
theorem dX4_orderHere_9 : decode cX4_orderHere 9 = .ok (.iload_n 1, 1) := by decide +kernel
theorem dX4_orderHere_10 : decode cX4_orderHere 10 = .ok (.invokestatic 121, 3) := by decide +kernel
theorem dX4_orderHere_13 : decode cX4_orderHere 13 = .ok (.invokevirtual 58, 3) := by decide +kernel
theorem dX4_orderHere_16 : decode cX4_orderHere 16 = .ok (.ifCond .eq 5, 3) := by decide +kernel
theorem dX4_orderHere_19 : decode cX4_orderHere 19 = .ok (.iload_n 1, 1) := by decide +kernel
theorem dX4_orderHere_20 : decode cX4_orderHere 20 = .ok (.ireturn, 1) := by decide +kernel
theorem dX4_orderHere_21 : decode cX4_orderHere 21 = .ok (.iinc 1 1, 3) := by decide +kernel
theorem dX4_orderHere_24 : decode cX4_orderHere 24 = .ok (.goto (-22), 3) := by decide +kernel
theorem dX4_orderHere_27 : decode cX4_orderHere 27 = .ok (.iconst (-1), 1) := by decide +kernel
theorem dX4_orderHere_28 : decode cX4_orderHere 28 = .ok (.ireturn, 1) := by decide +kernel
set_option maxRecDepth 100000 in
theorem rX4_orderHere_0 {zx : zX} {zn : Nat} {p : Program} {l : Launch} {e : Env} {s : State} {m : MethodId} {args : Array Value} {below : List Frame} {meth : Method} {c : Code} {D : va_G} {cA : Nat → ClassId} {ad : Nat → Nat} {Ret : zR} (C : z_Cx zx zn (z_A zn ad) 0 0 p { frames := 5, cells := 0, slots := 0, locals := 107 } s m args c cX4_orderHere yX4_orderHere.cls 2 D cA ad) (hr : meth.sig.returnType = (some .int)) (hlocks : meth.locks = false) : ∀ L st σ, tX4_orderHere_0 (z_X zx zn (z_A zn ad) 0 0 p l e { frames := 5, cells := 0, slots := 0, locals := 107 } s m args below meth c (MQ below (z_Qc zn D cA ad Ret) args s 0 0 (z_A zn ad)) 2 D cA ad true) Ret L st σ → z_X zx zn (z_A zn ad) 0 0 p l e { frames := 5, cells := 0, slots := 0, locals := 107 } s m args below meth c (MQ below (z_Qc zn D cA ad Ret) args s 0 0 (z_A zn ad)) 2 D cA ad true 0 L st σ := (s_iconst C dX4_orderHere_0 rfl ⟨by decide, by decide⟩ (s_istore_n C dX4_orderHere_1 (by decide) rfl rfl (fun _ _ _ h => h)))
set_option maxRecDepth 100000 in
theorem rX4_orderHere_2 {zx : zX} {zn : Nat} {p : Program} {l : Launch} {e : Env} {s : State} {m : MethodId} {args : Array Value} {below : List Frame} {meth : Method} {c : Code} {D : va_G} {cA : Nat → ClassId} {ad : Nat → Nat} {Ret : zR} (C : z_Cx zx zn (z_A zn ad) 0 0 p { frames := 5, cells := 0, slots := 0, locals := 107 } s m args c cX4_orderHere yX4_orderHere.cls 2 D cA ad) (hr : meth.sig.returnType = (some .int)) (hlocks : meth.locks = false) : ∀ L st σ, tX4_orderHere_2 (z_X zx zn (z_A zn ad) 0 0 p l e { frames := 5, cells := 0, slots := 0, locals := 107 } s m args below meth c (MQ below (z_Qc zn D cA ad Ret) args s 0 0 (z_A zn ad)) 2 D cA ad true) Ret L st σ → z_X zx zn (z_A zn ad) 0 0 p l e { frames := 5, cells := 0, slots := 0, locals := 107 } s m args below meth c (MQ below (z_Qc zn D cA ad Ret) args s 0 0 (z_A zn ad)) 2 D cA ad true 2 L st σ := (s_iload_n C dX4_orderHere_2 rfl (s_bipush C dX4_orderHere_3 rfl ⟨by decide, by decide⟩ (s_icgt C dX4_orderHere_5 (by decide) (s_iconst C dX4_orderHere_27 rfl ⟨by decide, by decide⟩ (s_iret C dX4_orderHere_28 hr hlocks)) (s_aload_n C dX4_orderHere_8 rfl (s_iload_n C dX4_orderHere_9 rfl (s_cs1 C dX4_orderHere_10 (okX4_wordOf l) wd_364 wd_365 wd_18 wd_366 ⟨by decide, by decide, by decide +kernel⟩ ⟨by decide, by decide⟩ (s_cv1 C dX4_orderHere_13 (okX4_isWord l) cls_X4 wd_375 wd_377 wd_6 wd_18 wd_378 ⟨by decide, by decide, by decide +kernel⟩ ⟨by decide, by decide⟩ (s_ifeq C dX4_orderHere_16 (by decide) (s_iinc C dX4_orderHere_21 (by decide) rfl (s_goto C dX4_orderHere_24 (by decide) (fun _ _ _ h => h))) (s_iload_n C dX4_orderHere_19 rfl (s_iret C dX4_orderHere_20 hr hlocks))))))))))
theorem okX4_orderHere {zx : zX} {zn : Nat} (l : Launch) : z_OK zx zn l yX4_orderHere cX4_orderHere 2 (some .int) 5 107 SX4_orderHere := by
  refine z_ok_of true (by decide +kernel) ?_ ?_
  · intro as σ Ret h
    obtain ⟨k0, rfl⟩ := pX4_orderHere h
    exact ⟨Nat.le_of_ble_eq_true rfl, by simp⟩
  · intro p e s m args below meth c D cA ad Ret C hr hlocks as σ has hσ h
    obtain ⟨k0, rfl⟩ := pX4_orderHere h
    exact vX4_orderHere (rX4_orderHere_0 C hr hlocks) (rX4_orderHere_2 C hr hlocks) k0 σ (has _ (List.mem_of_getElem? (i := 0) rfl)).1 hσ h
