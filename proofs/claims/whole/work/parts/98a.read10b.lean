/-! the model's reader: what has to stand here -/
def q_fx (σ σ' : zM) : Prop := ∀ c j, ¬ (c = 89 ∧ 15 ≤ j ∧ j ≤ 20) → σ' c j = σ c j
theorem q_fx.rf {σ : zM} : q_fx σ σ := fun _ _ _ => rfl
theorem q_fx.tr {σ τ υ : zM} (h1 : q_fx σ τ) (h2 : q_fx τ υ) : q_fx σ υ := fun c j h => (h2 c j h).trans (h1 c j h)
def q_ms (τ : zM) (b : Nat → Int) (T p : Nat) (f : Int) : Prop := τ 89 14 = (T : Int) ∧ T ≤ 400 ∧ q_by (τ 97) T = b ∧ (∀ j, j < T → 0 ≤ τ 97 j ∧ τ 97 j ≤ 255) ∧ (τ 89 15 = (q_te b T p : Int) ∧ τ 89 16 = q_mt (q_tk b T p) ∧ τ 89 17 = (q_ts b T p : Int) ∧ τ 89 18 = (q_te b T p : Int)) ∧ p ≤ T ∧ τ 89 19 = f ∧ (0 ≤ f ∧ f ≤ 3) ∧ (¬ f = 0 → τ 89 20 = (q_ts b T p : Int))
theorem q_ms.b255 {τ : zM} {b : Nat → Int} {T p : Nat} {f : Int} (h : q_ms τ b T p f) {j : Nat} (hj : j < T) : b j = τ 97 j ∧ 0 ≤ b j ∧ b j ≤ 255 := by
  have e : b j = τ 97 j := by rw [← h.2.2.1]; unfold q_by; rw [if_pos hj]
  have := h.2.2.2.1 j hj
  exact ⟨e, by rw [e]; exact this.1, by rw [e]; exact this.2⟩
/-- a fault is told -/
theorem q_ms.bad {τ τ' : zM} {b : Nat → Int} {T p : Nat} {n : Int} (h : q_ms τ b T p 0) (hn : 1 ≤ n ∧ n ≤ 3) (e : ∀ c j, ¬ (c = 89 ∧ 19 ≤ j ∧ j ≤ 20) → τ' c j = τ c j) (e19 : τ' 89 19 = n) (e20 : τ' 89 20 = τ 89 17) : q_ms τ' b T p n := by
  obtain ⟨h1, h2, h3, h4, ⟨h5, h6, h7, h8⟩, h9, h10, h11, h12⟩ := h
  have e97 : τ' 97 = τ 97 := funext fun j => e 97 j (by omega)
  exact ⟨by rw [e _ _ (by omega)]; exact h1, h2, by rw [e97]; exact h3, by rw [e97]; exact h4, ⟨by rw [e _ _ (by omega)]; exact h5, by rw [e _ _ (by omega)]; exact h6, by rw [e _ _ (by omega)]; exact h7, by rw [e _ _ (by omega)]; exact h8⟩, h9, e19, by omega, fun _ => by rw [e20]; exact h7⟩
theorem q_ms.next {τ τ' : zM} {b : Nat → Int} {T p : Nat} (h : q_ms τ b T p 0) (e : ∀ c j, ¬ (c = 89 ∧ 15 ≤ j ∧ j ≤ 18) → τ' c j = τ c j) (g : τ' 89 15 = (q_te b T (q_te b T p) : Int) ∧ τ' 89 16 = q_mt (q_tk b T (q_te b T p)) ∧ τ' 89 17 = (q_ts b T (q_te b T p) : Int) ∧ τ' 89 18 = (q_te b T (q_te b T p) : Int)) : q_ms τ' b T (q_te b T p) 0 := by
  obtain ⟨h1, h2, h3, h4, h5, h9, h10, h11, h12⟩ := h
  have e97 : τ' 97 = τ 97 := funext fun j => e 97 j (by omega)
  exact ⟨by rw [e _ _ (by omega)]; exact h1, h2, by rw [e97]; exact h3, by rw [e97]; exact h4, g, (q_te_in h9).2, by rw [e _ _ (by omega)]; exact h10, h11, fun q => absurd rfl q⟩
theorem q_ms.fr {τ τ' : zM} {b : Nat → Int} {T p : Nat} {f : Int} (h : q_ms τ b T p f) (e : ∀ c j, (c = 89 ∧ 14 ≤ j ∧ j ≤ 20) ∨ c = 97 → τ' c j = τ c j) : q_ms τ' b T p f := by
  obtain ⟨h1, h2, h3, h4, ⟨h5, h6, h7, h8⟩, h9, h10, h11, h12⟩ := h
  have e97 : τ' 97 = τ 97 := funext fun j => e 97 j (by omega)
  exact ⟨by rw [e _ _ (by omega)]; exact h1, h2, by rw [e97]; exact h3, by rw [e97]; exact h4, ⟨by rw [e _ _ (by omega)]; exact h5, by rw [e _ _ (by omega)]; exact h6, by rw [e _ _ (by omega)]; exact h7, by rw [e _ _ (by omega)]; exact h8⟩, h9, by rw [e _ _ (by omega)]; exact h10, h11, fun q => by rw [e _ _ (by omega)]; exact h12 q⟩
def SX10_begin : zS := fun as σ Ret => match as with
  | [.inr (.inr (10, 0, _))] => q_tpok σ ∧ ∀ σ' : zM, (∀ c j, ¬ (c = 89 ∧ (j = 12 ∨ (14 ≤ j ∧ j ≤ 20))) → σ' c j = σ c j) → σ' 89 12 = 0 → q_ms σ' (q_by (σ 97) (σ 89 12).toNat) (σ 89 12).toNat 0 0 → Ret none σ'
  | _ => False
def tX10_begin_0 (X : Nat → zB) (Ret : zR) (L : zL) (st : List zV) (σ : zM) : Prop := (z_aload 0 (z_aload 0 (z_geti 10 12 (z_puti 10 14 (z_aload 0 (z_push 0 (z_puti 10 12 (z_aload 0 (z_push 0 (z_puti 10 15 (z_aload 0 (z_push 0 (z_puti 10 19 (z_aload 0 (z_cv0 10 SX10_next (z_vret Ret)))))))))))))))) L st σ
theorem pX10_begin {as : List zV} {σ : zM} {Ret : zR} (h : SX10_begin as σ Ret) : ∃ (k0 : Nat), as = [.inr (.inr (10, 0, k0))] := by
  unfold SX10_begin at h
  split at h
  · exact ⟨_, rfl⟩
  · exact h.elim
set_option maxRecDepth 10000 in
set_option maxHeartbeats 4000000 in
theorem vX10_begin {X : Nat → zB} {Ret : zR} (h0 : ∀ L st σ, tX10_begin_0 X Ret L st σ → X 0 L st σ) (k0 : Nat) (σ : zM) (hk0 : z_kd k0 = (10, 0)) (hσ : z_okm σ) (h : SX10_begin [.inr (.inr (10, 0, k0))] σ Ret) : X 0 [some (.inr (.inr (10, 0, k0)))] [] σ := by
  obtain ⟨⟨t1, t2⟩, h⟩ := h
  obtain rfl := z_kd10 hk0
  obtain ⟨T, hT⟩ := z_nat t1.1
  rw [hT, Int.toNat_natCast] at h
  generalize hB : z_up (z_up (z_up (z_up σ 89 14 (T : Int)) 89 12 0) 89 15 0) 89 19 0 = B
  have fB : ∀ c j, ¬ (c = 89 ∧ (j = 12 ∨ j = 14 ∨ j = 15 ∨ j = 19)) → B c j = σ c j := fun c j hc => by rw [← hB, z_up_ne (by omega), z_up_ne (by omega), z_up_ne (by omega), z_up_ne (by omega)]
  have B97 : B 97 = σ 97 := funext fun j => fB 97 j (by omega)
  have B14 : B 89 14 = (T : Int) := by rw [← hB, z_up_ne (by omega), z_up_ne (by omega), z_up_ne (by omega), z_up_eq]
  have B15 : B 89 15 = 0 := by rw [← hB, z_up_ne (by omega), z_up_eq]
  have B19 : B 89 19 = 0 := by rw [← hB, z_up_eq]
  have B12 : B 89 12 = 0 := by rw [← hB, z_up_ne (by omega), z_up_ne (by omega), z_up_eq]
  refine h0 _ _ _ ?_
  simp only [z_push, z_lpush, z_iload, z_lload, z_aload, z_istore, z_istoreP, z_lstore, z_astore, z_iinc, z_iincP, z_iadd, z_isub, z_imul, z_iaddW, z_isubW, z_imulW, z_idiv, z_irem, z_iand, z_ior, z_ixor, z_ishl, z_ishr, z_iushr, z_ineg, z_i2l, z_i2b, z_i2s, z_i2c, z_l2i, z_ladd, z_lsub, z_land, z_lor, z_lshl, z_lshr, z_lcmp, z_dup, z_pop, z_dup2, z_goto, z_tsw, z_cases, z_geti, z_getr, z_puti, z_putz, z_ald, z_iast, z_bast, z_zast, z_alen, z_acopy, z_mmax, z_mmin, z_mabs, z_mabsL, z_iret, z_zret, z_nret, z_lret, z_aret, z_vret, z_cat, z_ldcs, z_strv, z_strc, z_gcs, z_gfm, z_sln, z_sald, z_ifeq, z_ifne, z_iflt, z_ifge, z_ifgt, z_ifle, z_iceq, z_icne, z_iclt, z_icge, z_icgt, z_icle, z_cs0, z_cs1, z_cs2, z_cs3, z_cs4, z_cs5, z_cs6, z_cs7, z_cv0, z_cv1, z_cv2, z_cv3, z_cv4, z_cv5, z_cv6, z_cv7, z_g0, z_s0, z_g1, z_s1, z_g2, z_s2, z_g3, z_s3, z_g4, z_s4, z_g5, z_s5, z_g6, z_s6, z_g7, z_s7, z_g8, z_s8, z_g9, z_s9, z_g10, z_s10, z_g11, z_s11, z_g12, z_s12, z_g13, z_s13, z_b0, z_b1, z_b0n, z_b1n, z_up_far1, z_up_far2, z_up_far3, z_up_far4, z_up_far5, z_up_far6, Classical.not_not, not_true_eq_false, z_in, z_inL, Int.cast_ofNat_Int, Nat.reduceLeDiff, List.length_cons, List.length_nil, Nat.reduceAdd, Nat.zero_add, Nat.le_refl, true_and, and_true, List.length, Nat.reduceLT, true_or, or_true, false_or, or_false, false_and, and_false, not_true_eq_false, not_false_eq_true, forall_const, false_implies, true_implies, Int.reduceEq, Int.reduceLT, Int.reduceLE, Int.reduceAdd, Int.reduceSub, Int.reduceMul, Int.reduceNeg, Int.reduceToNat, Int.toNat_natCast, ↓reduceIte, reduceIte, Nat.reduceEqDiff, Nat.reduceSub, Nat.reduceMul, ne_eq, Int.zero_add, Int.add_zero, Int.sub_zero, Nat.add_zero, Int.ofNat_eq_natCast, tX10_begin_0, hT, hB]
  simp only [SX10_next]
  refine fun _ => ⟨q_by (σ 97) T, T, 0, ⟨B14, by omega, by rw [B97], fun j hj => by rw [B97]; exact t2 j (by omega), B15, by omega⟩, fun σ1 f1 g => ?_⟩
  have e97 : σ1 97 = σ 97 := funext fun j => by rw [f1 97 j (by omega), B97]
  refine h σ1 (fun c j hc => by rw [f1 c j (by omega), fB c j (by omega)]) (by rw [f1 _ _ (by omega), B12]) ⟨by rw [f1 _ _ (by omega), B14], by omega, by rw [e97], fun j hj => by rw [e97]; exact t2 j (by omega), g, by omega, by rw [f1 _ _ (by omega), B19], by omega, fun q => absurd rfl q⟩
theorem dX10_begin_0 : decode cX10_begin 0 = .ok (.aload_n 0, 1) := by decide +kernel
theorem dX10_begin_1 : decode cX10_begin 1 = .ok (.aload_n 0, 1) := by decide +kernel
theorem dX10_begin_2 : decode cX10_begin 2 = .ok (.getfield 92, 3) := by decide +kernel
theorem dX10_begin_5 : decode cX10_begin 5 = .ok (.putfield 98, 3) := by decide +kernel
theorem dX10_begin_8 : decode cX10_begin 8 = .ok (.aload_n 0, 1) := by decide +kernel
theorem dX10_begin_9 : decode cX10_begin 9 = .ok (.iconst 0, 1) := by decide +kernel
theorem dX10_begin_10 : decode cX10_begin 10 = .ok (.putfield 92, 3) := by decide +kernel
theorem dX10_begin_13 : decode cX10_begin 13 = .ok (.aload_n 0, 1) := by decide +kernel
theorem dX10_begin_14 : decode cX10_begin 14 = .ok (.iconst 0, 1) := by decide +kernel
theorem dX10_begin_15 : decode cX10_begin 15 = .ok (.putfield 102, 3) := by decide +kernel
theorem dX10_begin_18 : decode cX10_begin 18 = .ok (.aload_n 0, 1) := by decide +kernel
theorem dX10_begin_19 : decode cX10_begin 19 = .ok (.iconst 0, 1) := by decide +kernel
theorem dX10_begin_20 : decode cX10_begin 20 = .ok (.putfield 123, 3) := by decide +kernel
theorem dX10_begin_23 : decode cX10_begin 23 = .ok (.aload_n 0, 1) := by decide +kernel
theorem dX10_begin_24 : decode cX10_begin 24 = .ok (.invokevirtual 126, 3) := by decide +kernel
theorem dX10_begin_27 : decode cX10_begin 27 = .ok (.return_, 1) := by decide +kernel
set_option maxRecDepth 100000 in
theorem rX10_begin_0 {p : Program} {l : Launch} {e : Env} {s : State} {m : MethodId} {args : Array Value} {below : List Frame} {meth : Method} {c : Code} {D : va_G} {cA : Nat → ClassId} {ad : Nat → Nat} {Ret : zR} (C : z_Cx p { frames := 2, cells := 0, slots := 0, locals := 42 } s m args c cX10_begin yX10_begin.cls 1 D cA ad) (hr : meth.sig.returnType = none) (hlocks : meth.locks = false) : ∀ L st σ, tX10_begin_0 (z_X p l e { frames := 2, cells := 0, slots := 0, locals := 42 } s m args below meth c (MQ below (z_Qc D cA ad Ret) args s 0 0 (z_A ad)) 1 D cA ad true) Ret L st σ → z_X p l e { frames := 2, cells := 0, slots := 0, locals := 42 } s m args below meth c (MQ below (z_Qc D cA ad Ret) args s 0 0 (z_A ad)) 1 D cA ad true 0 L st σ := (s_aload_n C dX10_begin_0 rfl (s_aload_n C dX10_begin_1 rfl (s_geti C dX10_begin_2 cls_X10 (by decide) rfl wd_980 (s_puti C dX10_begin_5 cls_X10 (by decide) rfl wd_982 rfl rfl (s_aload_n C dX10_begin_8 rfl (s_iconst C dX10_begin_9 rfl ⟨by decide, by decide⟩ (s_puti C dX10_begin_10 cls_X10 (by decide) rfl wd_980 rfl rfl (s_aload_n C dX10_begin_13 rfl (s_iconst C dX10_begin_14 rfl ⟨by decide, by decide⟩ (s_puti C dX10_begin_15 cls_X10 (by decide) rfl wd_983 rfl rfl (s_aload_n C dX10_begin_18 rfl (s_iconst C dX10_begin_19 rfl ⟨by decide, by decide⟩ (s_puti C dX10_begin_20 cls_X10 (by decide) rfl wd_987 rfl rfl (s_aload_n C dX10_begin_23 rfl (s_cv0 C dX10_begin_24 (okX10_next l) cls_X10 wd_1119 wd_1121 wd_37 wd_85 wd_1122 ⟨by decide, by decide, by decide +kernel⟩ ⟨by decide, by decide⟩ (s_vret C dX10_begin_27 hr hlocks))))))))))))))))
theorem okX10_begin (l : Launch) : z_OK l yX10_begin cX10_begin 1 none 2 42 SX10_begin := by
  refine z_ok_of true (by decide +kernel) ?_ ?_
  · intro as σ Ret h
    obtain ⟨k0, rfl⟩ := pX10_begin h
    exact ⟨Nat.le_of_ble_eq_true rfl, by simp⟩
  · intro p e s m args below meth c D cA ad Ret C hr hlocks as σ has hσ h
    obtain ⟨k0, rfl⟩ := pX10_begin h
    exact vX10_begin (rX10_begin_0 C hr hlocks) k0 σ (has _ (List.mem_of_getElem? (i := 0) rfl)) hσ h
def SX10_bad : zS := fun as σ Ret => match as with
  | [.inr (.inr (10, 0, _)), .inl n] => (σ 89 19 = 0 → Ret none (z_up (z_up σ 89 19 n) 89 20 (σ 89 17))) ∧ (¬ σ 89 19 = 0 → Ret none σ)
  | _ => False
def tX10_bad_0 (X : Nat → zB) (Ret : zR) (L : zL) (st : List zV) (σ : zM) : Prop := (z_aload 0 (z_geti 10 19 (z_ifne (z_vret Ret) (z_aload 0 (z_iload 1 (z_puti 10 19 (z_aload 0 (z_aload 0 (z_geti 10 17 (z_puti 10 20 (z_vret Ret))))))))))) L st σ
theorem pX10_bad {as : List zV} {σ : zM} {Ret : zR} (h : SX10_bad as σ Ret) : ∃ (k0 : Nat) (x1 : Int), as = [.inr (.inr (10, 0, k0)), .inl x1] := by
  unfold SX10_bad at h
  split at h
  · exact ⟨_, _, rfl⟩
  · exact h.elim
set_option maxRecDepth 10000 in
set_option maxHeartbeats 4000000 in
theorem vX10_bad {X : Nat → zB} {Ret : zR} (h0 : ∀ L st σ, tX10_bad_0 X Ret L st σ → X 0 L st σ) (k0 : Nat) (x1 : Int) (σ : zM) (hk0 : z_kd k0 = (10, 0)) (hx1 : -2147483648 ≤ x1 ∧ x1 ≤ 2147483647) (hσ : z_okm σ) (h : SX10_bad [.inr (.inr (10, 0, k0)), .inl x1] σ Ret) : X 0 [some (.inr (.inr (10, 0, k0))), some (.inl x1)] [] σ := by
  obtain ⟨hy, hn⟩ := h
  obtain rfl := z_kd10 hk0
  have e : z_up σ 89 19 x1 89 17 = σ 89 17 := z_up_ne (by omega)
  refine h0 _ _ _ ?_
  simp only [z_push, z_lpush, z_iload, z_lload, z_aload, z_istore, z_istoreP, z_lstore, z_astore, z_iinc, z_iincP, z_iadd, z_isub, z_imul, z_iaddW, z_isubW, z_imulW, z_idiv, z_irem, z_iand, z_ior, z_ixor, z_ishl, z_ishr, z_iushr, z_ineg, z_i2l, z_i2b, z_i2s, z_i2c, z_l2i, z_ladd, z_lsub, z_land, z_lor, z_lshl, z_lshr, z_lcmp, z_dup, z_pop, z_dup2, z_goto, z_tsw, z_cases, z_geti, z_getr, z_puti, z_putz, z_ald, z_iast, z_bast, z_zast, z_alen, z_acopy, z_mmax, z_mmin, z_mabs, z_mabsL, z_iret, z_zret, z_nret, z_lret, z_aret, z_vret, z_cat, z_ldcs, z_strv, z_strc, z_gcs, z_gfm, z_sln, z_sald, z_ifeq, z_ifne, z_iflt, z_ifge, z_ifgt, z_ifle, z_iceq, z_icne, z_iclt, z_icge, z_icgt, z_icle, z_cs0, z_cs1, z_cs2, z_cs3, z_cs4, z_cs5, z_cs6, z_cs7, z_cv0, z_cv1, z_cv2, z_cv3, z_cv4, z_cv5, z_cv6, z_cv7, z_g0, z_s0, z_g1, z_s1, z_g2, z_s2, z_g3, z_s3, z_g4, z_s4, z_g5, z_s5, z_g6, z_s6, z_g7, z_s7, z_g8, z_s8, z_g9, z_s9, z_g10, z_s10, z_g11, z_s11, z_g12, z_s12, z_g13, z_s13, z_b0, z_b1, z_b0n, z_b1n, z_up_far1, z_up_far2, z_up_far3, z_up_far4, z_up_far5, z_up_far6, Classical.not_not, not_true_eq_false, z_in, z_inL, Int.cast_ofNat_Int, Nat.reduceLeDiff, List.length_cons, List.length_nil, Nat.reduceAdd, Nat.zero_add, Nat.le_refl, true_and, and_true, List.length, Nat.reduceLT, true_or, or_true, false_or, or_false, false_and, and_false, not_true_eq_false, not_false_eq_true, forall_const, false_implies, true_implies, Int.reduceEq, Int.reduceLT, Int.reduceLE, Int.reduceAdd, Int.reduceSub, Int.reduceMul, Int.reduceNeg, Int.reduceToNat, Int.toNat_natCast, ↓reduceIte, reduceIte, Nat.reduceEqDiff, Nat.reduceSub, Nat.reduceMul, ne_eq, Int.zero_add, Int.add_zero, Int.sub_zero, Nat.add_zero, Int.ofNat_eq_natCast, tX10_bad_0, e]
  exact fun _ => ⟨fun e => hn e, fun e _ => hy e⟩
theorem dX10_bad_0 : decode cX10_bad 0 = .ok (.aload_n 0, 1) := by decide +kernel
theorem dX10_bad_1 : decode cX10_bad 1 = .ok (.getfield 123, 3) := by decide +kernel
theorem dX10_bad_4 : decode cX10_bad 4 = .ok (.ifCond .ne 16, 3) := by decide +kernel
theorem dX10_bad_7 : decode cX10_bad 7 = .ok (.aload_n 0, 1) := by decide +kernel
theorem dX10_bad_8 : decode cX10_bad 8 = .ok (.iload_n 1, 1) := by decide +kernel
theorem dX10_bad_9 : decode cX10_bad 9 = .ok (.putfield 123, 3) := by decide +kernel
theorem dX10_bad_12 : decode cX10_bad 12 = .ok (.aload_n 0, 1) := by decide +kernel
theorem dX10_bad_13 : decode cX10_bad 13 = .ok (.aload_n 0, 1) := by decide +kernel
theorem dX10_bad_14 : decode cX10_bad 14 = .ok (.getfield 108, 3) := by decide +kernel
theorem dX10_bad_17 : decode cX10_bad 17 = .ok (.putfield 129, 3) := by decide +kernel
theorem dX10_bad_20 : decode cX10_bad 20 = .ok (.return_, 1) := by decide +kernel
set_option maxRecDepth 100000 in
theorem rX10_bad_0 {p : Program} {l : Launch} {e : Env} {s : State} {m : MethodId} {args : Array Value} {below : List Frame} {meth : Method} {c : Code} {D : va_G} {cA : Nat → ClassId} {ad : Nat → Nat} {Ret : zR} (C : z_Cx p { frames := 0, cells := 0, slots := 0, locals := 0 } s m args c cX10_bad yX10_bad.cls 2 D cA ad) (hr : meth.sig.returnType = none) (hlocks : meth.locks = false) : ∀ L st σ, tX10_bad_0 (z_X p l e { frames := 0, cells := 0, slots := 0, locals := 0 } s m args below meth c (MQ below (z_Qc D cA ad Ret) args s 0 0 (z_A ad)) 2 D cA ad true) Ret L st σ → z_X p l e { frames := 0, cells := 0, slots := 0, locals := 0 } s m args below meth c (MQ below (z_Qc D cA ad Ret) args s 0 0 (z_A ad)) 2 D cA ad true 0 L st σ := (s_aload_n C dX10_bad_0 rfl (s_geti C dX10_bad_1 cls_X10 (by decide) rfl wd_987 (s_ifne C dX10_bad_4 (by decide) (s_vret C dX10_bad_20 hr hlocks) (s_aload_n C dX10_bad_7 rfl (s_iload_n C dX10_bad_8 rfl (s_puti C dX10_bad_9 cls_X10 (by decide) rfl wd_987 rfl rfl (s_aload_n C dX10_bad_12 rfl (s_aload_n C dX10_bad_13 rfl (s_geti C dX10_bad_14 cls_X10 (by decide) rfl wd_985 (s_puti C dX10_bad_17 cls_X10 (by decide) rfl wd_988 rfl rfl (s_vret C dX10_bad_20 hr hlocks)))))))))))
theorem okX10_bad (l : Launch) : z_OK l yX10_bad cX10_bad 2 none 0 0 SX10_bad := by
  refine z_ok_of true (by decide +kernel) ?_ ?_
  · intro as σ Ret h
    obtain ⟨k0, x1, rfl⟩ := pX10_bad h
    exact ⟨Nat.le_of_ble_eq_true rfl, by simp⟩
  · intro p e s m args below meth c D cA ad Ret C hr hlocks as σ has hσ h
    obtain ⟨k0, x1, rfl⟩ := pX10_bad h
    exact vX10_bad (rX10_bad_0 C hr hlocks) k0 x1 σ (has _ (List.mem_of_getElem? (i := 0) rfl)) (has _ (List.mem_of_getElem? (i := 1) rfl)) hσ h
/-- what must stand here -/
def q_mu (b : Nat → Int) (T p : Nat) (f so : Int) : Nat × Int := if ¬ f = 0 then (p, f) else if so = 0 then (p, 1) else (q_te b T p, 0)
def SX10_must : zS := fun as σ Ret => match as with
  | [.inr (.inr (10, 0, _)), .inl so] => ∃ b T p f, (q_ms σ b T p f ∧ (so = 0 ∨ so = 1)) ∧ ∀ σ' : zM, q_fx σ σ' → q_ms σ' b T (q_mu b T p f so).1 (q_mu b T p f so).2 → Ret none σ'
  | _ => False
def tX10_must_0 (X : Nat → zB) (Ret : zR) (L : zL) (st : List zV) (σ : zM) : Prop := (z_iload 1 (z_ifne (X 9) (z_aload 0 (z_push 1 (z_cv1 10 SX10_bad (X 9)))))) L st σ
def tX10_must_9 (X : Nat → zB) (Ret : zR) (L : zL) (st : List zV) (σ : zM) : Prop := (z_aload 0 (z_geti 10 19 (z_ifne (z_vret Ret) (z_aload 0 (z_cv0 10 SX10_next (z_vret Ret)))))) L st σ
theorem pX10_must {as : List zV} {σ : zM} {Ret : zR} (h : SX10_must as σ Ret) : ∃ (k0 : Nat) (x1 : Int), as = [.inr (.inr (10, 0, k0)), .inl x1] := by
  unfold SX10_must at h
  split at h
  · exact ⟨_, _, rfl⟩
  · exact h.elim
set_option maxRecDepth 10000 in
set_option maxHeartbeats 4000000 in
theorem vX10_must {X : Nat → zB} {Ret : zR} (h0 : ∀ L st σ, tX10_must_0 X Ret L st σ → X 0 L st σ) (h9 : ∀ L st σ, tX10_must_9 X Ret L st σ → X 9 L st σ) (k0 : Nat) (x1 : Int) (σ : zM) (hk0 : z_kd k0 = (10, 0)) (hx1 : -2147483648 ≤ x1 ∧ x1 ≤ 2147483647) (hσ : z_okm σ) (h : SX10_must [.inr (.inr (10, 0, k0)), .inl x1] σ Ret) : X 0 [some (.inr (.inr (10, 0, k0))), some (.inl x1)] [] σ := by
  obtain ⟨b, T, p, f, ⟨ms, hso⟩, h⟩ := h
  obtain rfl := z_kd10 hk0
  have m19 := ms.2.2.2.2.2.2.1
  by_cases c : f = 0
  · subst c
    by_cases cs : x1 = 0
    · subst cs
      have fin := h (z_up (z_up σ 89 19 1) 89 20 (σ 89 17)) (fun c j hc => by rw [z_up_ne (by omega), z_up_ne (by omega)]) (ms.bad (n := 1) (by omega) (fun c j hc => by rw [z_up_ne (by omega), z_up_ne (by omega)]) (by rw [z_up_ne (by omega), z_up_eq]) z_up_eq)
      have e19 : z_up (z_up σ 89 19 1) 89 20 (σ 89 17) 89 19 = 1 := by rw [z_up_ne (by omega), z_up_eq]
      have L9 : X 9 [some (.inr (.inr (10, 0, 89))), some (.inl 0)] [] (z_up (z_up σ 89 19 1) 89 20 (σ 89 17)) := by
        refine h9 _ _ _ ?_
        simp only [z_push, z_lpush, z_iload, z_lload, z_aload, z_istore, z_istoreP, z_lstore, z_astore, z_iinc, z_iincP, z_iadd, z_isub, z_imul, z_iaddW, z_isubW, z_imulW, z_idiv, z_irem, z_iand, z_ior, z_ixor, z_ishl, z_ishr, z_iushr, z_ineg, z_i2l, z_i2b, z_i2s, z_i2c, z_l2i, z_ladd, z_lsub, z_land, z_lor, z_lshl, z_lshr, z_lcmp, z_dup, z_pop, z_dup2, z_goto, z_tsw, z_cases, z_geti, z_getr, z_puti, z_putz, z_ald, z_iast, z_bast, z_zast, z_alen, z_acopy, z_mmax, z_mmin, z_mabs, z_mabsL, z_iret, z_zret, z_nret, z_lret, z_aret, z_vret, z_cat, z_ldcs, z_strv, z_strc, z_gcs, z_gfm, z_sln, z_sald, z_ifeq, z_ifne, z_iflt, z_ifge, z_ifgt, z_ifle, z_iceq, z_icne, z_iclt, z_icge, z_icgt, z_icle, z_cs0, z_cs1, z_cs2, z_cs3, z_cs4, z_cs5, z_cs6, z_cs7, z_cv0, z_cv1, z_cv2, z_cv3, z_cv4, z_cv5, z_cv6, z_cv7, z_g0, z_s0, z_g1, z_s1, z_g2, z_s2, z_g3, z_s3, z_g4, z_s4, z_g5, z_s5, z_g6, z_s6, z_g7, z_s7, z_g8, z_s8, z_g9, z_s9, z_g10, z_s10, z_g11, z_s11, z_g12, z_s12, z_g13, z_s13, z_b0, z_b1, z_b0n, z_b1n, z_up_far1, z_up_far2, z_up_far3, z_up_far4, z_up_far5, z_up_far6, Classical.not_not, not_true_eq_false, z_in, z_inL, Int.cast_ofNat_Int, Nat.reduceLeDiff, List.length_cons, List.length_nil, Nat.reduceAdd, Nat.zero_add, Nat.le_refl, true_and, and_true, List.length, Nat.reduceLT, true_or, or_true, false_or, or_false, false_and, and_false, not_true_eq_false, not_false_eq_true, forall_const, false_implies, true_implies, Int.reduceEq, Int.reduceLT, Int.reduceLE, Int.reduceAdd, Int.reduceSub, Int.reduceMul, Int.reduceNeg, Int.reduceToNat, Int.toNat_natCast, ↓reduceIte, reduceIte, Nat.reduceEqDiff, Nat.reduceSub, Nat.reduceMul, ne_eq, Int.zero_add, Int.add_zero, Int.sub_zero, Nat.add_zero, Int.ofNat_eq_natCast, tX10_must_9, e19]
        repeat' (first | (intro _) | (with_reducible assumption) | (refine And.intro ?_ ?_))
        all_goals first | omega | assumption | (refine z_fin fin ?_ rfl; first | rfl | omega | (split <;> omega) | (split <;> split <;> omega)) | skip
      refine h0 _ _ _ ?_
      simp only [z_push, z_lpush, z_iload, z_lload, z_aload, z_istore, z_istoreP, z_lstore, z_astore, z_iinc, z_iincP, z_iadd, z_isub, z_imul, z_iaddW, z_isubW, z_imulW, z_idiv, z_irem, z_iand, z_ior, z_ixor, z_ishl, z_ishr, z_iushr, z_ineg, z_i2l, z_i2b, z_i2s, z_i2c, z_l2i, z_ladd, z_lsub, z_land, z_lor, z_lshl, z_lshr, z_lcmp, z_dup, z_pop, z_dup2, z_goto, z_tsw, z_cases, z_geti, z_getr, z_puti, z_putz, z_ald, z_iast, z_bast, z_zast, z_alen, z_acopy, z_mmax, z_mmin, z_mabs, z_mabsL, z_iret, z_zret, z_nret, z_lret, z_aret, z_vret, z_cat, z_ldcs, z_strv, z_strc, z_gcs, z_gfm, z_sln, z_sald, z_ifeq, z_ifne, z_iflt, z_ifge, z_ifgt, z_ifle, z_iceq, z_icne, z_iclt, z_icge, z_icgt, z_icle, z_cs0, z_cs1, z_cs2, z_cs3, z_cs4, z_cs5, z_cs6, z_cs7, z_cv0, z_cv1, z_cv2, z_cv3, z_cv4, z_cv5, z_cv6, z_cv7, z_g0, z_s0, z_g1, z_s1, z_g2, z_s2, z_g3, z_s3, z_g4, z_s4, z_g5, z_s5, z_g6, z_s6, z_g7, z_s7, z_g8, z_s8, z_g9, z_s9, z_g10, z_s10, z_g11, z_s11, z_g12, z_s12, z_g13, z_s13, z_b0, z_b1, z_b0n, z_b1n, z_up_far1, z_up_far2, z_up_far3, z_up_far4, z_up_far5, z_up_far6, Classical.not_not, not_true_eq_false, z_in, z_inL, Int.cast_ofNat_Int, Nat.reduceLeDiff, List.length_cons, List.length_nil, Nat.reduceAdd, Nat.zero_add, Nat.le_refl, true_and, and_true, List.length, Nat.reduceLT, true_or, or_true, false_or, or_false, false_and, and_false, not_true_eq_false, not_false_eq_true, forall_const, false_implies, true_implies, Int.reduceEq, Int.reduceLT, Int.reduceLE, Int.reduceAdd, Int.reduceSub, Int.reduceMul, Int.reduceNeg, Int.reduceToNat, Int.toNat_natCast, ↓reduceIte, reduceIte, Nat.reduceEqDiff, Nat.reduceSub, Nat.reduceMul, ne_eq, Int.zero_add, Int.add_zero, Int.sub_zero, Nat.add_zero, Int.ofNat_eq_natCast, tX10_must_0, SX10_bad, m19]
      repeat' (first | (intro _) | (with_reducible assumption) | (refine And.intro ?_ ?_))
      all_goals first | omega | assumption | (refine z_fin L9 ?_ rfl; first | rfl | omega | (split <;> omega) | (split <;> split <;> omega)) | skip
    · have so1 : x1 = 1 := by omega
      subst so1
      have e : q_mu b T p 0 1 = (q_te b T p, 0) := rfl
      rw [e] at h
      have L9 : X 9 [some (.inr (.inr (10, 0, 89))), some (.inl 1)] [] σ := by
        refine h9 _ _ _ ?_
        simp only [z_push, z_lpush, z_iload, z_lload, z_aload, z_istore, z_istoreP, z_lstore, z_astore, z_iinc, z_iincP, z_iadd, z_isub, z_imul, z_iaddW, z_isubW, z_imulW, z_idiv, z_irem, z_iand, z_ior, z_ixor, z_ishl, z_ishr, z_iushr, z_ineg, z_i2l, z_i2b, z_i2s, z_i2c, z_l2i, z_ladd, z_lsub, z_land, z_lor, z_lshl, z_lshr, z_lcmp, z_dup, z_pop, z_dup2, z_goto, z_tsw, z_cases, z_geti, z_getr, z_puti, z_putz, z_ald, z_iast, z_bast, z_zast, z_alen, z_acopy, z_mmax, z_mmin, z_mabs, z_mabsL, z_iret, z_zret, z_nret, z_lret, z_aret, z_vret, z_cat, z_ldcs, z_strv, z_strc, z_gcs, z_gfm, z_sln, z_sald, z_ifeq, z_ifne, z_iflt, z_ifge, z_ifgt, z_ifle, z_iceq, z_icne, z_iclt, z_icge, z_icgt, z_icle, z_cs0, z_cs1, z_cs2, z_cs3, z_cs4, z_cs5, z_cs6, z_cs7, z_cv0, z_cv1, z_cv2, z_cv3, z_cv4, z_cv5, z_cv6, z_cv7, z_g0, z_s0, z_g1, z_s1, z_g2, z_s2, z_g3, z_s3, z_g4, z_s4, z_g5, z_s5, z_g6, z_s6, z_g7, z_s7, z_g8, z_s8, z_g9, z_s9, z_g10, z_s10, z_g11, z_s11, z_g12, z_s12, z_g13, z_s13, z_b0, z_b1, z_b0n, z_b1n, z_up_far1, z_up_far2, z_up_far3, z_up_far4, z_up_far5, z_up_far6, Classical.not_not, not_true_eq_false, z_in, z_inL, Int.cast_ofNat_Int, Nat.reduceLeDiff, List.length_cons, List.length_nil, Nat.reduceAdd, Nat.zero_add, Nat.le_refl, true_and, and_true, List.length, Nat.reduceLT, true_or, or_true, false_or, or_false, false_and, and_false, not_true_eq_false, not_false_eq_true, forall_const, false_implies, true_implies, Int.reduceEq, Int.reduceLT, Int.reduceLE, Int.reduceAdd, Int.reduceSub, Int.reduceMul, Int.reduceNeg, Int.reduceToNat, Int.toNat_natCast, ↓reduceIte, reduceIte, Nat.reduceEqDiff, Nat.reduceSub, Nat.reduceMul, ne_eq, Int.zero_add, Int.add_zero, Int.sub_zero, Nat.add_zero, Int.ofNat_eq_natCast, tX10_must_9, SX10_next, m19]
        refine ⟨b, T, q_te b T p, ⟨ms.1, ms.2.1, ms.2.2.1, ms.2.2.2.1, ms.2.2.2.2.1.1, (q_te_in ms.2.2.2.2.2.1).2⟩, fun σ1 f1 g => ?_⟩
        exact h σ1 (fun c j hc => f1 c j (by omega)) (ms.next f1 g)
      refine h0 _ _ _ ?_
      simp only [z_push, z_lpush, z_iload, z_lload, z_aload, z_istore, z_istoreP, z_lstore, z_astore, z_iinc, z_iincP, z_iadd, z_isub, z_imul, z_iaddW, z_isubW, z_imulW, z_idiv, z_irem, z_iand, z_ior, z_ixor, z_ishl, z_ishr, z_iushr, z_ineg, z_i2l, z_i2b, z_i2s, z_i2c, z_l2i, z_ladd, z_lsub, z_land, z_lor, z_lshl, z_lshr, z_lcmp, z_dup, z_pop, z_dup2, z_goto, z_tsw, z_cases, z_geti, z_getr, z_puti, z_putz, z_ald, z_iast, z_bast, z_zast, z_alen, z_acopy, z_mmax, z_mmin, z_mabs, z_mabsL, z_iret, z_zret, z_nret, z_lret, z_aret, z_vret, z_cat, z_ldcs, z_strv, z_strc, z_gcs, z_gfm, z_sln, z_sald, z_ifeq, z_ifne, z_iflt, z_ifge, z_ifgt, z_ifle, z_iceq, z_icne, z_iclt, z_icge, z_icgt, z_icle, z_cs0, z_cs1, z_cs2, z_cs3, z_cs4, z_cs5, z_cs6, z_cs7, z_cv0, z_cv1, z_cv2, z_cv3, z_cv4, z_cv5, z_cv6, z_cv7, z_g0, z_s0, z_g1, z_s1, z_g2, z_s2, z_g3, z_s3, z_g4, z_s4, z_g5, z_s5, z_g6, z_s6, z_g7, z_s7, z_g8, z_s8, z_g9, z_s9, z_g10, z_s10, z_g11, z_s11, z_g12, z_s12, z_g13, z_s13, z_b0, z_b1, z_b0n, z_b1n, z_up_far1, z_up_far2, z_up_far3, z_up_far4, z_up_far5, z_up_far6, Classical.not_not, not_true_eq_false, z_in, z_inL, Int.cast_ofNat_Int, Nat.reduceLeDiff, List.length_cons, List.length_nil, Nat.reduceAdd, Nat.zero_add, Nat.le_refl, true_and, and_true, List.length, Nat.reduceLT, true_or, or_true, false_or, or_false, false_and, and_false, not_true_eq_false, not_false_eq_true, forall_const, false_implies, true_implies, Int.reduceEq, Int.reduceLT, Int.reduceLE, Int.reduceAdd, Int.reduceSub, Int.reduceMul, Int.reduceNeg, Int.reduceToNat, Int.toNat_natCast, ↓reduceIte, reduceIte, Nat.reduceEqDiff, Nat.reduceSub, Nat.reduceMul, ne_eq, Int.zero_add, Int.add_zero, Int.sub_zero, Nat.add_zero, Int.ofNat_eq_natCast, tX10_must_0]
      exact L9
  · have e : q_mu b T p f x1 = (p, f) := if_pos c
    rw [e] at h
    have fin := h σ q_fx.rf ms
    have L9 : X 9 [some (.inr (.inr (10, 0, 89))), some (.inl x1)] [] σ := by
      refine h9 _ _ _ ?_
      simp only [z_push, z_lpush, z_iload, z_lload, z_aload, z_istore, z_istoreP, z_lstore, z_astore, z_iinc, z_iincP, z_iadd, z_isub, z_imul, z_iaddW, z_isubW, z_imulW, z_idiv, z_irem, z_iand, z_ior, z_ixor, z_ishl, z_ishr, z_iushr, z_ineg, z_i2l, z_i2b, z_i2s, z_i2c, z_l2i, z_ladd, z_lsub, z_land, z_lor, z_lshl, z_lshr, z_lcmp, z_dup, z_pop, z_dup2, z_goto, z_tsw, z_cases, z_geti, z_getr, z_puti, z_putz, z_ald, z_iast, z_bast, z_zast, z_alen, z_acopy, z_mmax, z_mmin, z_mabs, z_mabsL, z_iret, z_zret, z_nret, z_lret, z_aret, z_vret, z_cat, z_ldcs, z_strv, z_strc, z_gcs, z_gfm, z_sln, z_sald, z_ifeq, z_ifne, z_iflt, z_ifge, z_ifgt, z_ifle, z_iceq, z_icne, z_iclt, z_icge, z_icgt, z_icle, z_cs0, z_cs1, z_cs2, z_cs3, z_cs4, z_cs5, z_cs6, z_cs7, z_cv0, z_cv1, z_cv2, z_cv3, z_cv4, z_cv5, z_cv6, z_cv7, z_g0, z_s0, z_g1, z_s1, z_g2, z_s2, z_g3, z_s3, z_g4, z_s4, z_g5, z_s5, z_g6, z_s6, z_g7, z_s7, z_g8, z_s8, z_g9, z_s9, z_g10, z_s10, z_g11, z_s11, z_g12, z_s12, z_g13, z_s13, z_b0, z_b1, z_b0n, z_b1n, z_up_far1, z_up_far2, z_up_far3, z_up_far4, z_up_far5, z_up_far6, Classical.not_not, not_true_eq_false, z_in, z_inL, Int.cast_ofNat_Int, Nat.reduceLeDiff, List.length_cons, List.length_nil, Nat.reduceAdd, Nat.zero_add, Nat.le_refl, true_and, and_true, List.length, Nat.reduceLT, true_or, or_true, false_or, or_false, false_and, and_false, not_true_eq_false, not_false_eq_true, forall_const, false_implies, true_implies, Int.reduceEq, Int.reduceLT, Int.reduceLE, Int.reduceAdd, Int.reduceSub, Int.reduceMul, Int.reduceNeg, Int.reduceToNat, Int.toNat_natCast, ↓reduceIte, reduceIte, Nat.reduceEqDiff, Nat.reduceSub, Nat.reduceMul, ne_eq, Int.zero_add, Int.add_zero, Int.sub_zero, Nat.add_zero, Int.ofNat_eq_natCast, tX10_must_9, m19, c]
      repeat' (first | (intro _) | (with_reducible assumption) | (refine And.intro ?_ ?_))
      all_goals first | omega | assumption | (refine z_fin fin ?_ rfl; first | rfl | omega | (split <;> omega) | (split <;> split <;> omega)) | skip
      all_goals contradiction
    refine h0 _ _ _ ?_
    simp only [z_push, z_lpush, z_iload, z_lload, z_aload, z_istore, z_istoreP, z_lstore, z_astore, z_iinc, z_iincP, z_iadd, z_isub, z_imul, z_iaddW, z_isubW, z_imulW, z_idiv, z_irem, z_iand, z_ior, z_ixor, z_ishl, z_ishr, z_iushr, z_ineg, z_i2l, z_i2b, z_i2s, z_i2c, z_l2i, z_ladd, z_lsub, z_land, z_lor, z_lshl, z_lshr, z_lcmp, z_dup, z_pop, z_dup2, z_goto, z_tsw, z_cases, z_geti, z_getr, z_puti, z_putz, z_ald, z_iast, z_bast, z_zast, z_alen, z_acopy, z_mmax, z_mmin, z_mabs, z_mabsL, z_iret, z_zret, z_nret, z_lret, z_aret, z_vret, z_cat, z_ldcs, z_strv, z_strc, z_gcs, z_gfm, z_sln, z_sald, z_ifeq, z_ifne, z_iflt, z_ifge, z_ifgt, z_ifle, z_iceq, z_icne, z_iclt, z_icge, z_icgt, z_icle, z_cs0, z_cs1, z_cs2, z_cs3, z_cs4, z_cs5, z_cs6, z_cs7, z_cv0, z_cv1, z_cv2, z_cv3, z_cv4, z_cv5, z_cv6, z_cv7, z_g0, z_s0, z_g1, z_s1, z_g2, z_s2, z_g3, z_s3, z_g4, z_s4, z_g5, z_s5, z_g6, z_s6, z_g7, z_s7, z_g8, z_s8, z_g9, z_s9, z_g10, z_s10, z_g11, z_s11, z_g12, z_s12, z_g13, z_s13, z_b0, z_b1, z_b0n, z_b1n, z_up_far1, z_up_far2, z_up_far3, z_up_far4, z_up_far5, z_up_far6, Classical.not_not, not_true_eq_false, z_in, z_inL, Int.cast_ofNat_Int, Nat.reduceLeDiff, List.length_cons, List.length_nil, Nat.reduceAdd, Nat.zero_add, Nat.le_refl, true_and, and_true, List.length, Nat.reduceLT, true_or, or_true, false_or, or_false, false_and, and_false, not_true_eq_false, not_false_eq_true, forall_const, false_implies, true_implies, Int.reduceEq, Int.reduceLT, Int.reduceLE, Int.reduceAdd, Int.reduceSub, Int.reduceMul, Int.reduceNeg, Int.reduceToNat, Int.toNat_natCast, ↓reduceIte, reduceIte, Nat.reduceEqDiff, Nat.reduceSub, Nat.reduceMul, ne_eq, Int.zero_add, Int.add_zero, Int.sub_zero, Nat.add_zero, Int.ofNat_eq_natCast, tX10_must_0, SX10_bad, m19, c]
    repeat' (first | (intro _) | (with_reducible assumption) | (refine And.intro ?_ ?_))
    all_goals first | omega | assumption | (refine z_fin L9 ?_ rfl; first | rfl | omega | (split <;> omega) | (split <;> split <;> omega)) | skip
    all_goals contradiction
theorem dX10_must_0 : decode cX10_must 0 = .ok (.iload_n 1, 1) := by decide +kernel
theorem dX10_must_1 : decode cX10_must 1 = .ok (.ifCond .ne 8, 3) := by decide +kernel
theorem dX10_must_4 : decode cX10_must 4 = .ok (.aload_n 0, 1) := by decide +kernel
theorem dX10_must_5 : decode cX10_must 5 = .ok (.iconst 1, 1) := by decide +kernel
theorem dX10_must_6 : decode cX10_must 6 = .ok (.invokevirtual 132, 3) := by decide +kernel
theorem dX10_must_9 : decode cX10_must 9 = .ok (.aload_n 0, 1) := by decide +kernel
theorem dX10_must_10 : decode cX10_must 10 = .ok (.getfield 123, 3) := by decide +kernel
theorem dX10_must_13 : decode cX10_must 13 = .ok (.ifCond .ne 7, 3) := by decide +kernel
theorem dX10_must_16 : decode cX10_must 16 = .ok (.aload_n 0, 1) := by decide +kernel
theorem dX10_must_17 : decode cX10_must 17 = .ok (.invokevirtual 126, 3) := by decide +kernel
theorem dX10_must_20 : decode cX10_must 20 = .ok (.return_, 1) := by decide +kernel
set_option maxRecDepth 100000 in
theorem rX10_must_0 {p : Program} {l : Launch} {e : Env} {s : State} {m : MethodId} {args : Array Value} {below : List Frame} {meth : Method} {c : Code} {D : va_G} {cA : Nat → ClassId} {ad : Nat → Nat} {Ret : zR} (C : z_Cx p { frames := 2, cells := 0, slots := 0, locals := 42 } s m args c cX10_must yX10_must.cls 2 D cA ad) (hr : meth.sig.returnType = none) (hlocks : meth.locks = false) : ∀ L st σ, tX10_must_0 (z_X p l e { frames := 2, cells := 0, slots := 0, locals := 42 } s m args below meth c (MQ below (z_Qc D cA ad Ret) args s 0 0 (z_A ad)) 2 D cA ad true) Ret L st σ → z_X p l e { frames := 2, cells := 0, slots := 0, locals := 42 } s m args below meth c (MQ below (z_Qc D cA ad Ret) args s 0 0 (z_A ad)) 2 D cA ad true 0 L st σ := (s_iload_n C dX10_must_0 rfl (s_ifne C dX10_must_1 (by decide) (fun _ _ _ h => h) (s_aload_n C dX10_must_4 rfl (s_iconst C dX10_must_5 rfl ⟨by decide, by decide⟩ (s_cv1 C dX10_must_6 (okX10_bad l) cls_X10 wd_1139 wd_1141 wd_40 wd_85 wd_1142 ⟨by decide, by decide, by decide +kernel⟩ ⟨by decide, by decide⟩ (fun _ _ _ h => h))))))
set_option maxRecDepth 100000 in
theorem rX10_must_9 {p : Program} {l : Launch} {e : Env} {s : State} {m : MethodId} {args : Array Value} {below : List Frame} {meth : Method} {c : Code} {D : va_G} {cA : Nat → ClassId} {ad : Nat → Nat} {Ret : zR} (C : z_Cx p { frames := 2, cells := 0, slots := 0, locals := 42 } s m args c cX10_must yX10_must.cls 2 D cA ad) (hr : meth.sig.returnType = none) (hlocks : meth.locks = false) : ∀ L st σ, tX10_must_9 (z_X p l e { frames := 2, cells := 0, slots := 0, locals := 42 } s m args below meth c (MQ below (z_Qc D cA ad Ret) args s 0 0 (z_A ad)) 2 D cA ad true) Ret L st σ → z_X p l e { frames := 2, cells := 0, slots := 0, locals := 42 } s m args below meth c (MQ below (z_Qc D cA ad Ret) args s 0 0 (z_A ad)) 2 D cA ad true 9 L st σ := (s_aload_n C dX10_must_9 rfl (s_geti C dX10_must_10 cls_X10 (by decide) rfl wd_987 (s_ifne C dX10_must_13 (by decide) (s_vret C dX10_must_20 hr hlocks) (s_aload_n C dX10_must_16 rfl (s_cv0 C dX10_must_17 (okX10_next l) cls_X10 wd_1119 wd_1121 wd_37 wd_85 wd_1122 ⟨by decide, by decide, by decide +kernel⟩ ⟨by decide, by decide⟩ (s_vret C dX10_must_20 hr hlocks))))))
theorem okX10_must (l : Launch) : z_OK l yX10_must cX10_must 2 none 2 42 SX10_must := by
  refine z_ok_of true (by decide +kernel) ?_ ?_
  · intro as σ Ret h
    obtain ⟨k0, x1, rfl⟩ := pX10_must h
    exact ⟨Nat.le_of_ble_eq_true rfl, by simp⟩
  · intro p e s m args below meth c D cA ad Ret C hr hlocks as σ has hσ h
    obtain ⟨k0, x1, rfl⟩ := pX10_must h
    exact vX10_must (rX10_must_0 C hr hlocks) (rX10_must_9 C hr hlocks) k0 x1 σ (has _ (List.mem_of_getElem? (i := 0) rfl)) (has _ (List.mem_of_getElem? (i := 1) rfl)) hσ h
def SX10_mustEnd : zS := fun as σ Ret => match as with
  | [.inr (.inr (10, 0, _))] => ∃ b T p f, q_ms σ b T p f ∧ ∀ σ' : zM, q_fx σ σ' → q_ms σ' b T (q_ps b T p f).1 (q_ps b T p f).2 → Ret none σ'
  | _ => False
theorem q_tk_in {b : Nat → Int} {T p : Nat} : 0 ≤ q_tk b T p ∧ q_tk b T p ≤ 4 := by
  unfold q_tk
  repeat' split
  all_goals omega
theorem q_mt_is {k : Int} (h : 0 ≤ k ∧ k ≤ 4) : (q_mt k = 1 ↔ k = 0) ∧ (q_mt k = 2 ↔ k = 1) ∧ (q_mt k = 3 ↔ k = 2) ∧ (q_mt k = 4 ↔ k = 3) := by
  have : k = 0 ∨ k = 1 ∨ k = 2 ∨ k = 3 ∨ k = 4 := by omega
  rcases this with rfl | rfl | rfl | rfl | rfl <;> simp [q_mt]
def tX10_mustEnd_0 (X : Nat → zB) (Ret : zR) (L : zL) (st : List zV) (σ : zM) : Prop := (z_aload 0 (z_geti 10 19 (z_ifne (z_vret Ret) (z_aload 0 (z_aload 0 (z_geti 10 16 (z_push 4 (z_icne (z_push 0 (z_cv1 10 SX10_must (z_vret Ret))) (z_push 1 (z_goto (z_cv1 10 SX10_must (z_vret Ret)))))))))))) L st σ
theorem pX10_mustEnd {as : List zV} {σ : zM} {Ret : zR} (h : SX10_mustEnd as σ Ret) : ∃ (k0 : Nat), as = [.inr (.inr (10, 0, k0))] := by
  unfold SX10_mustEnd at h
  split at h
  · exact ⟨_, rfl⟩
  · exact h.elim
set_option maxRecDepth 10000 in
set_option maxHeartbeats 4000000 in
theorem vX10_mustEnd {X : Nat → zB} {Ret : zR} (h0 : ∀ L st σ, tX10_mustEnd_0 X Ret L st σ → X 0 L st σ) (k0 : Nat) (σ : zM) (hk0 : z_kd k0 = (10, 0)) (hσ : z_okm σ) (h : SX10_mustEnd [.inr (.inr (10, 0, k0))] σ Ret) : X 0 [some (.inr (.inr (10, 0, k0)))] [] σ := by
  obtain ⟨b, T, p, f, ms, h⟩ := h
  obtain rfl := z_kd10 hk0
  have m19 := ms.2.2.2.2.2.2.1
  have m16 := ms.2.2.2.2.1.2.1
  have mt := q_mt_is (q_tk_in (b := b) (T := T) (p := p))
  unfold q_ps at h
  by_cases c : f = 0
  · subst c
    by_cases k : q_tk b T p = 3
    · rw [if_neg (by omega), if_neg (by omega)] at h
      refine h0 _ _ _ ?_
      simp only [z_push, z_lpush, z_iload, z_lload, z_aload, z_istore, z_istoreP, z_lstore, z_astore, z_iinc, z_iincP, z_iadd, z_isub, z_imul, z_iaddW, z_isubW, z_imulW, z_idiv, z_irem, z_iand, z_ior, z_ixor, z_ishl, z_ishr, z_iushr, z_ineg, z_i2l, z_i2b, z_i2s, z_i2c, z_l2i, z_ladd, z_lsub, z_land, z_lor, z_lshl, z_lshr, z_lcmp, z_dup, z_pop, z_dup2, z_goto, z_tsw, z_cases, z_geti, z_getr, z_puti, z_putz, z_ald, z_iast, z_bast, z_zast, z_alen, z_acopy, z_mmax, z_mmin, z_mabs, z_mabsL, z_iret, z_zret, z_nret, z_lret, z_aret, z_vret, z_cat, z_ldcs, z_strv, z_strc, z_gcs, z_gfm, z_sln, z_sald, z_ifeq, z_ifne, z_iflt, z_ifge, z_ifgt, z_ifle, z_iceq, z_icne, z_iclt, z_icge, z_icgt, z_icle, z_cs0, z_cs1, z_cs2, z_cs3, z_cs4, z_cs5, z_cs6, z_cs7, z_cv0, z_cv1, z_cv2, z_cv3, z_cv4, z_cv5, z_cv6, z_cv7, z_g0, z_s0, z_g1, z_s1, z_g2, z_s2, z_g3, z_s3, z_g4, z_s4, z_g5, z_s5, z_g6, z_s6, z_g7, z_s7, z_g8, z_s8, z_g9, z_s9, z_g10, z_s10, z_g11, z_s11, z_g12, z_s12, z_g13, z_s13, z_b0, z_b1, z_b0n, z_b1n, z_up_far1, z_up_far2, z_up_far3, z_up_far4, z_up_far5, z_up_far6, Classical.not_not, not_true_eq_false, z_in, z_inL, Int.cast_ofNat_Int, Nat.reduceLeDiff, List.length_cons, List.length_nil, Nat.reduceAdd, Nat.zero_add, Nat.le_refl, true_and, and_true, List.length, Nat.reduceLT, true_or, or_true, false_or, or_false, false_and, and_false, not_true_eq_false, not_false_eq_true, forall_const, false_implies, true_implies, Int.reduceEq, Int.reduceLT, Int.reduceLE, Int.reduceAdd, Int.reduceSub, Int.reduceMul, Int.reduceNeg, Int.reduceToNat, Int.toNat_natCast, ↓reduceIte, reduceIte, Nat.reduceEqDiff, Nat.reduceSub, Nat.reduceMul, ne_eq, Int.zero_add, Int.add_zero, Int.sub_zero, Nat.add_zero, Int.ofNat_eq_natCast, tX10_mustEnd_0, SX10_must, m19, m16]
      refine fun _ => ⟨fun e => absurd (mt.2.2.2.mpr k) e, fun _ => ⟨b, T, p, 0, ms, fun σ1 f1 g1 => h σ1 f1 g1⟩⟩
    · rw [if_neg (by omega), if_pos k] at h
      refine h0 _ _ _ ?_
      simp only [z_push, z_lpush, z_iload, z_lload, z_aload, z_istore, z_istoreP, z_lstore, z_astore, z_iinc, z_iincP, z_iadd, z_isub, z_imul, z_iaddW, z_isubW, z_imulW, z_idiv, z_irem, z_iand, z_ior, z_ixor, z_ishl, z_ishr, z_iushr, z_ineg, z_i2l, z_i2b, z_i2s, z_i2c, z_l2i, z_ladd, z_lsub, z_land, z_lor, z_lshl, z_lshr, z_lcmp, z_dup, z_pop, z_dup2, z_goto, z_tsw, z_cases, z_geti, z_getr, z_puti, z_putz, z_ald, z_iast, z_bast, z_zast, z_alen, z_acopy, z_mmax, z_mmin, z_mabs, z_mabsL, z_iret, z_zret, z_nret, z_lret, z_aret, z_vret, z_cat, z_ldcs, z_strv, z_strc, z_gcs, z_gfm, z_sln, z_sald, z_ifeq, z_ifne, z_iflt, z_ifge, z_ifgt, z_ifle, z_iceq, z_icne, z_iclt, z_icge, z_icgt, z_icle, z_cs0, z_cs1, z_cs2, z_cs3, z_cs4, z_cs5, z_cs6, z_cs7, z_cv0, z_cv1, z_cv2, z_cv3, z_cv4, z_cv5, z_cv6, z_cv7, z_g0, z_s0, z_g1, z_s1, z_g2, z_s2, z_g3, z_s3, z_g4, z_s4, z_g5, z_s5, z_g6, z_s6, z_g7, z_s7, z_g8, z_s8, z_g9, z_s9, z_g10, z_s10, z_g11, z_s11, z_g12, z_s12, z_g13, z_s13, z_b0, z_b1, z_b0n, z_b1n, z_up_far1, z_up_far2, z_up_far3, z_up_far4, z_up_far5, z_up_far6, Classical.not_not, not_true_eq_false, z_in, z_inL, Int.cast_ofNat_Int, Nat.reduceLeDiff, List.length_cons, List.length_nil, Nat.reduceAdd, Nat.zero_add, Nat.le_refl, true_and, and_true, List.length, Nat.reduceLT, true_or, or_true, false_or, or_false, false_and, and_false, not_true_eq_false, not_false_eq_true, forall_const, false_implies, true_implies, Int.reduceEq, Int.reduceLT, Int.reduceLE, Int.reduceAdd, Int.reduceSub, Int.reduceMul, Int.reduceNeg, Int.reduceToNat, Int.toNat_natCast, ↓reduceIte, reduceIte, Nat.reduceEqDiff, Nat.reduceSub, Nat.reduceMul, ne_eq, Int.zero_add, Int.add_zero, Int.sub_zero, Nat.add_zero, Int.ofNat_eq_natCast, tX10_mustEnd_0, SX10_must, m19, m16]
      refine fun _ => ⟨fun e => ⟨b, T, p, 0, ms, fun σ1 f1 g1 => h σ1 f1 g1⟩, fun e => absurd (mt.2.2.2.mp e) k⟩
  · rw [if_pos c] at h
    have fin := h σ q_fx.rf ms
    refine h0 _ _ _ ?_
    simp only [z_push, z_lpush, z_iload, z_lload, z_aload, z_istore, z_istoreP, z_lstore, z_astore, z_iinc, z_iincP, z_iadd, z_isub, z_imul, z_iaddW, z_isubW, z_imulW, z_idiv, z_irem, z_iand, z_ior, z_ixor, z_ishl, z_ishr, z_iushr, z_ineg, z_i2l, z_i2b, z_i2s, z_i2c, z_l2i, z_ladd, z_lsub, z_land, z_lor, z_lshl, z_lshr, z_lcmp, z_dup, z_pop, z_dup2, z_goto, z_tsw, z_cases, z_geti, z_getr, z_puti, z_putz, z_ald, z_iast, z_bast, z_zast, z_alen, z_acopy, z_mmax, z_mmin, z_mabs, z_mabsL, z_iret, z_zret, z_nret, z_lret, z_aret, z_vret, z_cat, z_ldcs, z_strv, z_strc, z_gcs, z_gfm, z_sln, z_sald, z_ifeq, z_ifne, z_iflt, z_ifge, z_ifgt, z_ifle, z_iceq, z_icne, z_iclt, z_icge, z_icgt, z_icle, z_cs0, z_cs1, z_cs2, z_cs3, z_cs4, z_cs5, z_cs6, z_cs7, z_cv0, z_cv1, z_cv2, z_cv3, z_cv4, z_cv5, z_cv6, z_cv7, z_g0, z_s0, z_g1, z_s1, z_g2, z_s2, z_g3, z_s3, z_g4, z_s4, z_g5, z_s5, z_g6, z_s6, z_g7, z_s7, z_g8, z_s8, z_g9, z_s9, z_g10, z_s10, z_g11, z_s11, z_g12, z_s12, z_g13, z_s13, z_b0, z_b1, z_b0n, z_b1n, z_up_far1, z_up_far2, z_up_far3, z_up_far4, z_up_far5, z_up_far6, Classical.not_not, not_true_eq_false, z_in, z_inL, Int.cast_ofNat_Int, Nat.reduceLeDiff, List.length_cons, List.length_nil, Nat.reduceAdd, Nat.zero_add, Nat.le_refl, true_and, and_true, List.length, Nat.reduceLT, true_or, or_true, false_or, or_false, false_and, and_false, not_true_eq_false, not_false_eq_true, forall_const, false_implies, true_implies, Int.reduceEq, Int.reduceLT, Int.reduceLE, Int.reduceAdd, Int.reduceSub, Int.reduceMul, Int.reduceNeg, Int.reduceToNat, Int.toNat_natCast, ↓reduceIte, reduceIte, Nat.reduceEqDiff, Nat.reduceSub, Nat.reduceMul, ne_eq, Int.zero_add, Int.add_zero, Int.sub_zero, Nat.add_zero, Int.ofNat_eq_natCast, tX10_mustEnd_0, SX10_must, m19, c]
    repeat' (first | (intro _) | (with_reducible assumption) | (refine And.intro ?_ ?_))
    all_goals first | omega | assumption | (refine z_fin fin ?_ rfl; first | rfl | omega | (split <;> omega) | (split <;> split <;> omega)) | skip
    all_goals contradiction
theorem dX10_mustEnd_0 : decode cX10_mustEnd 0 = .ok (.aload_n 0, 1) := by decide +kernel
theorem dX10_mustEnd_1 : decode cX10_mustEnd 1 = .ok (.getfield 123, 3) := by decide +kernel
theorem dX10_mustEnd_4 : decode cX10_mustEnd 4 = .ok (.ifCond .ne 20, 3) := by decide +kernel
theorem dX10_mustEnd_7 : decode cX10_mustEnd 7 = .ok (.aload_n 0, 1) := by decide +kernel
theorem dX10_mustEnd_8 : decode cX10_mustEnd 8 = .ok (.aload_n 0, 1) := by decide +kernel
theorem dX10_mustEnd_9 : decode cX10_mustEnd 9 = .ok (.getfield 111, 3) := by decide +kernel
theorem dX10_mustEnd_12 : decode cX10_mustEnd 12 = .ok (.iconst 4, 1) := by decide +kernel
theorem dX10_mustEnd_13 : decode cX10_mustEnd 13 = .ok (.if_icmp .ne 7, 3) := by decide +kernel
theorem dX10_mustEnd_16 : decode cX10_mustEnd 16 = .ok (.iconst 1, 1) := by decide +kernel
theorem dX10_mustEnd_17 : decode cX10_mustEnd 17 = .ok (.goto 4, 3) := by decide +kernel
theorem dX10_mustEnd_20 : decode cX10_mustEnd 20 = .ok (.iconst 0, 1) := by decide +kernel
theorem dX10_mustEnd_21 : decode cX10_mustEnd 21 = .ok (.invokevirtual 140, 3) := by decide +kernel
theorem dX10_mustEnd_24 : decode cX10_mustEnd 24 = .ok (.return_, 1) := by decide +kernel
set_option maxRecDepth 100000 in
theorem rX10_mustEnd_0 {p : Program} {l : Launch} {e : Env} {s : State} {m : MethodId} {args : Array Value} {below : List Frame} {meth : Method} {c : Code} {D : va_G} {cA : Nat → ClassId} {ad : Nat → Nat} {Ret : zR} (C : z_Cx p { frames := 3, cells := 0, slots := 0, locals := 63 } s m args c cX10_mustEnd yX10_mustEnd.cls 1 D cA ad) (hr : meth.sig.returnType = none) (hlocks : meth.locks = false) : ∀ L st σ, tX10_mustEnd_0 (z_X p l e { frames := 3, cells := 0, slots := 0, locals := 63 } s m args below meth c (MQ below (z_Qc D cA ad Ret) args s 0 0 (z_A ad)) 1 D cA ad true) Ret L st σ → z_X p l e { frames := 3, cells := 0, slots := 0, locals := 63 } s m args below meth c (MQ below (z_Qc D cA ad Ret) args s 0 0 (z_A ad)) 1 D cA ad true 0 L st σ := (s_aload_n C dX10_mustEnd_0 rfl (s_geti C dX10_mustEnd_1 cls_X10 (by decide) rfl wd_987 (s_ifne C dX10_mustEnd_4 (by decide) (s_vret C dX10_mustEnd_24 hr hlocks) (s_aload_n C dX10_mustEnd_7 rfl (s_aload_n C dX10_mustEnd_8 rfl (s_geti C dX10_mustEnd_9 cls_X10 (by decide) rfl wd_984 (s_iconst C dX10_mustEnd_12 rfl ⟨by decide, by decide⟩ (s_icne C dX10_mustEnd_13 (by decide) (s_iconst C dX10_mustEnd_20 rfl ⟨by decide, by decide⟩ (s_cv1 C dX10_mustEnd_21 (okX10_must l) cls_X10 wd_1151 wd_1153 wd_43 wd_85 wd_1154 ⟨by decide, by decide, by decide +kernel⟩ ⟨by decide, by decide⟩ (s_vret C dX10_mustEnd_24 hr hlocks))) (s_iconst C dX10_mustEnd_16 rfl ⟨by decide, by decide⟩ (s_goto C dX10_mustEnd_17 (by decide) (s_cv1 C dX10_mustEnd_21 (okX10_must l) cls_X10 wd_1151 wd_1153 wd_43 wd_85 wd_1154 ⟨by decide, by decide, by decide +kernel⟩ ⟨by decide, by decide⟩ (s_vret C dX10_mustEnd_24 hr hlocks))))))))))))
theorem okX10_mustEnd (l : Launch) : z_OK l yX10_mustEnd cX10_mustEnd 1 none 3 63 SX10_mustEnd := by
  refine z_ok_of true (by decide +kernel) ?_ ?_
  · intro as σ Ret h
    obtain ⟨k0, rfl⟩ := pX10_mustEnd h
    exact ⟨Nat.le_of_ble_eq_true rfl, by simp⟩
  · intro p e s m args below meth c D cA ad Ret C hr hlocks as σ has hσ h
    obtain ⟨k0, rfl⟩ := pX10_mustEnd h
    exact vX10_mustEnd (rX10_mustEnd_0 C hr hlocks) k0 σ (has _ (List.mem_of_getElem? (i := 0) rfl)) hσ h
def SX10_begins : zS := fun as σ Ret => match as with
  | [.inr (.inr (10, 0, _)), .inl s, .inl r] => ∃ b T p, (q_ms σ b T p 0 ∧ 0 ≤ s ∧ s < 106) ∧ ∀ σ' : zM, q_fx σ σ' → (σ 94 s.toNat = r → q_ms σ' b T p 3) → (¬ σ 94 s.toNat = r → q_ms σ' b T (q_te b T p) 0) → Ret none σ'
  | _ => False
def tX10_begins_0 (X : Nat → zB) (Ret : zR) (L : zL) (st : List zV) (σ : zM) : Prop := (z_aload 0 (z_getr 10 5 100 106 (z_iload 1 (z_ald 0 (z_iload 2 (z_icne (z_aload 0 (z_push 1 (z_cv1 10 SX10_must (z_vret Ret)))) (z_aload 0 (z_push 3 (z_cv1 10 SX10_bad (z_aload 0 (z_push 1 (z_cv1 10 SX10_must (z_vret Ret))))))))))))) L st σ
theorem pX10_begins {as : List zV} {σ : zM} {Ret : zR} (h : SX10_begins as σ Ret) : ∃ (k0 : Nat) (x1 : Int) (x2 : Int), as = [.inr (.inr (10, 0, k0)), .inl x1, .inl x2] := by
  unfold SX10_begins at h
  split at h
  · exact ⟨_, _, _, rfl⟩
  · exact h.elim
set_option maxRecDepth 10000 in
set_option maxHeartbeats 4000000 in
theorem vX10_begins {X : Nat → zB} {Ret : zR} (h0 : ∀ L st σ, tX10_begins_0 X Ret L st σ → X 0 L st σ) (k0 : Nat) (x1 : Int) (x2 : Int) (σ : zM) (hk0 : z_kd k0 = (10, 0)) (hx1 : -2147483648 ≤ x1 ∧ x1 ≤ 2147483647) (hx2 : -2147483648 ≤ x2 ∧ x2 ≤ 2147483647) (hσ : z_okm σ) (h : SX10_begins [.inr (.inr (10, 0, k0)), .inl x1, .inl x2] σ Ret) : X 0 [some (.inr (.inr (10, 0, k0))), some (.inl x1), some (.inl x2)] [] σ := by
  obtain ⟨b, T, p, ⟨ms, s0, s1⟩, h⟩ := h
  obtain rfl := z_kd10 hk0
  obtain ⟨s, rfl⟩ := z_nat s0
  rw [Int.toNat_natCast] at h
  have m19 := ms.2.2.2.2.2.2.1
  have mb := ms.bad (τ' := z_up (z_up σ 89 19 3) 89 20 (σ 89 17)) (n := 3) (by omega) (fun c j hc => by rw [z_up_ne (by omega), z_up_ne (by omega)]) (by rw [z_up_ne (by omega), z_up_eq]) z_up_eq
  have fb : q_fx σ (z_up (z_up σ 89 19 3) 89 20 (σ 89 17)) := fun c j hc => by rw [z_up_ne (by omega), z_up_ne (by omega)]
  refine h0 _ _ _ ?_
  simp only [z_push, z_lpush, z_iload, z_lload, z_aload, z_istore, z_istoreP, z_lstore, z_astore, z_iinc, z_iincP, z_iadd, z_isub, z_imul, z_iaddW, z_isubW, z_imulW, z_idiv, z_irem, z_iand, z_ior, z_ixor, z_ishl, z_ishr, z_iushr, z_ineg, z_i2l, z_i2b, z_i2s, z_i2c, z_l2i, z_ladd, z_lsub, z_land, z_lor, z_lshl, z_lshr, z_lcmp, z_dup, z_pop, z_dup2, z_goto, z_tsw, z_cases, z_geti, z_getr, z_puti, z_putz, z_ald, z_iast, z_bast, z_zast, z_alen, z_acopy, z_mmax, z_mmin, z_mabs, z_mabsL, z_iret, z_zret, z_nret, z_lret, z_aret, z_vret, z_cat, z_ldcs, z_strv, z_strc, z_gcs, z_gfm, z_sln, z_sald, z_ifeq, z_ifne, z_iflt, z_ifge, z_ifgt, z_ifle, z_iceq, z_icne, z_iclt, z_icge, z_icgt, z_icle, z_cs0, z_cs1, z_cs2, z_cs3, z_cs4, z_cs5, z_cs6, z_cs7, z_cv0, z_cv1, z_cv2, z_cv3, z_cv4, z_cv5, z_cv6, z_cv7, z_g0, z_s0, z_g1, z_s1, z_g2, z_s2, z_g3, z_s3, z_g4, z_s4, z_g5, z_s5, z_g6, z_s6, z_g7, z_s7, z_g8, z_s8, z_g9, z_s9, z_g10, z_s10, z_g11, z_s11, z_g12, z_s12, z_g13, z_s13, z_b0, z_b1, z_b0n, z_b1n, z_up_far1, z_up_far2, z_up_far3, z_up_far4, z_up_far5, z_up_far6, Classical.not_not, not_true_eq_false, z_in, z_inL, Int.cast_ofNat_Int, Nat.reduceLeDiff, List.length_cons, List.length_nil, Nat.reduceAdd, Nat.zero_add, Nat.le_refl, true_and, and_true, List.length, Nat.reduceLT, true_or, or_true, false_or, or_false, false_and, and_false, not_true_eq_false, not_false_eq_true, forall_const, false_implies, true_implies, Int.reduceEq, Int.reduceLT, Int.reduceLE, Int.reduceAdd, Int.reduceSub, Int.reduceMul, Int.reduceNeg, Int.reduceToNat, Int.toNat_natCast, ↓reduceIte, reduceIte, Nat.reduceEqDiff, Nat.reduceSub, Nat.reduceMul, ne_eq, Int.zero_add, Int.add_zero, Int.sub_zero, Nat.add_zero, Int.ofNat_eq_natCast, tX10_begins_0, SX10_bad, SX10_must, m19]
  refine ⟨by omega, fun _ => ⟨fun e => ⟨b, T, p, 0, ms, fun σ1 f1 g1 => h σ1 f1 (fun q => absurd q e) (fun _ => g1)⟩, fun e => ⟨b, T, p, 3, mb, fun σ1 f1 g1 => h σ1 (fb.tr f1) (fun _ => g1) (fun q => absurd e q)⟩⟩⟩
theorem dX10_begins_0 : decode cX10_begins 0 = .ok (.aload_n 0, 1) := by decide +kernel
theorem dX10_begins_1 : decode cX10_begins 1 = .ok (.getfield 22, 3) := by decide +kernel
theorem dX10_begins_4 : decode cX10_begins 4 = .ok (.iload_n 1, 1) := by decide +kernel
theorem dX10_begins_5 : decode cX10_begins 5 = .ok (.iaload, 1) := by decide +kernel
theorem dX10_begins_6 : decode cX10_begins 6 = .ok (.iload_n 2, 1) := by decide +kernel
theorem dX10_begins_7 : decode cX10_begins 7 = .ok (.if_icmp .ne 8, 3) := by decide +kernel
theorem dX10_begins_10 : decode cX10_begins 10 = .ok (.aload_n 0, 1) := by decide +kernel
theorem dX10_begins_11 : decode cX10_begins 11 = .ok (.iconst 3, 1) := by decide +kernel
theorem dX10_begins_12 : decode cX10_begins 12 = .ok (.invokevirtual 132, 3) := by decide +kernel
theorem dX10_begins_15 : decode cX10_begins 15 = .ok (.aload_n 0, 1) := by decide +kernel
theorem dX10_begins_16 : decode cX10_begins 16 = .ok (.iconst 1, 1) := by decide +kernel
theorem dX10_begins_17 : decode cX10_begins 17 = .ok (.invokevirtual 140, 3) := by decide +kernel
theorem dX10_begins_20 : decode cX10_begins 20 = .ok (.return_, 1) := by decide +kernel
set_option maxRecDepth 100000 in
theorem rX10_begins_0 {p : Program} {l : Launch} {e : Env} {s : State} {m : MethodId} {args : Array Value} {below : List Frame} {meth : Method} {c : Code} {D : va_G} {cA : Nat → ClassId} {ad : Nat → Nat} {Ret : zR} (C : z_Cx p { frames := 3, cells := 0, slots := 0, locals := 63 } s m args c cX10_begins yX10_begins.cls 3 D cA ad) (hr : meth.sig.returnType = none) (hlocks : meth.locks = false) : ∀ L st σ, tX10_begins_0 (z_X p l e { frames := 3, cells := 0, slots := 0, locals := 63 } s m args below meth c (MQ below (z_Qc D cA ad Ret) args s 0 0 (z_A ad)) 3 D cA ad true) Ret L st σ → z_X p l e { frames := 3, cells := 0, slots := 0, locals := 63 } s m args below meth c (MQ below (z_Qc D cA ad Ret) args s 0 0 (z_A ad)) 3 D cA ad true 0 L st σ := (s_aload_n C dX10_begins_0 rfl (s_getr C dX10_begins_1 (j := 6) cls_X10 (by decide) rfl (by decide) (by decide) (by decide +kernel) wd_974 (s_iload_n C dX10_begins_4 rfl (s_iald C dX10_begins_5 (s_iload_n C dX10_begins_6 rfl (s_icne C dX10_begins_7 (by decide) (s_aload_n C dX10_begins_15 rfl (s_iconst C dX10_begins_16 rfl ⟨by decide, by decide⟩ (s_cv1 C dX10_begins_17 (okX10_must l) cls_X10 wd_1151 wd_1153 wd_43 wd_85 wd_1154 ⟨by decide, by decide, by decide +kernel⟩ ⟨by decide, by decide⟩ (s_vret C dX10_begins_20 hr hlocks)))) (s_aload_n C dX10_begins_10 rfl (s_iconst C dX10_begins_11 rfl ⟨by decide, by decide⟩ (s_cv1 C dX10_begins_12 (okX10_bad l) cls_X10 wd_1139 wd_1141 wd_40 wd_85 wd_1142 ⟨by decide, by decide, by decide +kernel⟩ ⟨by decide, by decide⟩ (s_aload_n C dX10_begins_15 rfl (s_iconst C dX10_begins_16 rfl ⟨by decide, by decide⟩ (s_cv1 C dX10_begins_17 (okX10_must l) cls_X10 wd_1151 wd_1153 wd_43 wd_85 wd_1154 ⟨by decide, by decide, by decide +kernel⟩ ⟨by decide, by decide⟩ (s_vret C dX10_begins_20 hr hlocks)))))))))))))
theorem okX10_begins (l : Launch) : z_OK l yX10_begins cX10_begins 3 none 3 63 SX10_begins := by
  refine z_ok_of true (by decide +kernel) ?_ ?_
  · intro as σ Ret h
    obtain ⟨k0, x1, x2, rfl⟩ := pX10_begins h
    exact ⟨Nat.le_of_ble_eq_true rfl, by simp⟩
  · intro p e s m args below meth c D cA ad Ret C hr hlocks as σ has hσ h
    obtain ⟨k0, x1, x2, rfl⟩ := pX10_begins h
    exact vX10_begins (rX10_begins_0 C hr hlocks) k0 x1 x2 σ (has _ (List.mem_of_getElem? (i := 0) rfl)) (has _ (List.mem_of_getElem? (i := 1) rfl)) (has _ (List.mem_of_getElem? (i := 2) rfl)) hσ h
