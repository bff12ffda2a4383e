/-! the model's reader: tokens -/
def q_mt (k : Int) : Int := if k = 0 then 1 else if k = 1 then 2 else if k = 2 then 3 else if k = 3 then 4 else 0
def SX10_byteAt : zS := fun as σ Ret => match as with
  | [.inr (.inr (10, 0, _)), .inl k] => (0 ≤ k ∧ σ 89 14 ≤ 400) ∧ Ret (some (.inl (if k < σ 89 14 then σ 97 k.toNat else -1000000))) σ
  | _ => False
def tX10_byteAt_0 (X : Nat → zB) (Ret : zR) (L : zL) (st : List zV) (σ : zM) : Prop := (z_iload 1 (z_aload 0 (z_geti 10 14 (z_icge (z_push (-1000000) (z_iret Ret)) (z_aload 0 (z_getr 10 8 100 400 (z_iload 1 (z_ald 0 (z_goto (z_iret Ret)))))))))) L st σ
theorem pX10_byteAt {as : List zV} {σ : zM} {Ret : zR} (h : SX10_byteAt as σ Ret) : ∃ (k0 : Nat) (x1 : Int), as = [.inr (.inr (10, 0, k0)), .inl x1] := by
  unfold SX10_byteAt at h
  split at h
  · exact ⟨_, _, rfl⟩
  · exact h.elim
set_option maxRecDepth 10000 in
set_option maxHeartbeats 4000000 in
theorem vX10_byteAt {X : Nat → zB} {Ret : zR} (h0 : ∀ L st σ, tX10_byteAt_0 X Ret L st σ → X 0 L st σ) (k0 : Nat) (x1 : Int) (σ : zM) (hk0 : z_kd k0 = (10, 0)) (hx1 : -2147483648 ≤ x1 ∧ x1 ≤ 2147483647) (hσ : z_okm σ) (h : SX10_byteAt [.inr (.inr (10, 0, k0)), .inl x1] σ Ret) : X 0 [some (.inr (.inr (10, 0, k0))), some (.inl x1)] [] σ := by
  obtain ⟨hk, h⟩ := h
  obtain rfl := z_kd10 hk0
  obtain ⟨k, rfl⟩ := z_nat hk.1
  rw [Int.toNat_natCast] at h
  refine h0 _ _ _ ?_
  simp only [z_push, z_lpush, z_iload, z_lload, z_aload, z_istore, z_istoreP, z_lstore, z_astore, z_iinc, z_iincP, z_iadd, z_isub, z_imul, z_iaddW, z_isubW, z_imulW, z_idiv, z_irem, z_iand, z_ior, z_ixor, z_ishl, z_ishr, z_iushr, z_ineg, z_i2l, z_i2b, z_i2s, z_i2c, z_l2i, z_ladd, z_lsub, z_land, z_lor, z_lshl, z_lshr, z_lcmp, z_dup, z_pop, z_dup2, z_goto, z_tsw, z_cases, z_geti, z_getr, z_puti, z_putz, z_ald, z_iast, z_bast, z_zast, z_alen, z_acopy, z_mmax, z_mmin, z_mabs, z_mabsL, z_iret, z_zret, z_nret, z_lret, z_aret, z_vret, z_cat, z_ldcs, z_strv, z_strc, z_gcs, z_gfm, z_sln, z_sald, z_ifeq, z_ifne, z_iflt, z_ifge, z_ifgt, z_ifle, z_iceq, z_icne, z_iclt, z_icge, z_icgt, z_icle, z_cs0, z_cs1, z_cs2, z_cs3, z_cs4, z_cs5, z_cs6, z_cs7, z_cv0, z_cv1, z_cv2, z_cv3, z_cv4, z_cv5, z_cv6, z_cv7, z_g0, z_s0, z_g1, z_s1, z_g2, z_s2, z_g3, z_s3, z_g4, z_s4, z_g5, z_s5, z_g6, z_s6, z_g7, z_s7, z_g8, z_s8, z_g9, z_s9, z_g10, z_s10, z_g11, z_s11, z_g12, z_s12, z_g13, z_s13, z_b0, z_b1, z_b0n, z_b1n, z_up_far1, z_up_far2, z_up_far3, z_up_far4, z_up_far5, z_up_far6, Classical.not_not, not_true_eq_false, z_in, z_inL, Int.cast_ofNat_Int, Nat.reduceLeDiff, List.length_cons, List.length_nil, Nat.reduceAdd, Nat.zero_add, Nat.le_refl, true_and, and_true, List.length, Nat.reduceLT, true_or, or_true, false_or, or_false, false_and, and_false, not_true_eq_false, not_false_eq_true, forall_const, false_implies, true_implies, Int.reduceEq, Int.reduceLT, Int.reduceLE, Int.reduceAdd, Int.reduceSub, Int.reduceMul, Int.reduceNeg, Int.reduceToNat, Int.toNat_natCast, ↓reduceIte, reduceIte, Nat.reduceEqDiff, Nat.reduceSub, Nat.reduceMul, ne_eq, Int.zero_add, Int.add_zero, Int.sub_zero, Nat.add_zero, Int.ofNat_eq_natCast, tX10_byteAt_0]
  by_cases c : (k : Int) < σ 89 14
  · rw [if_pos c] at h
    repeat' (first | (intro _) | (with_reducible assumption) | (refine And.intro ?_ ?_))
    all_goals first | omega | assumption | (refine z_fin h ?_ rfl; first | rfl | omega | (split <;> omega) | (split <;> split <;> omega)) | skip
  · rw [if_neg c] at h
    repeat' (first | (intro _) | (with_reducible assumption) | (refine And.intro ?_ ?_))
    all_goals first | omega | assumption | (refine z_fin h ?_ rfl; first | rfl | omega | (split <;> omega) | (split <;> split <;> omega)) | skip
theorem dX10_byteAt_0 : decode cX10_byteAt 0 = .ok (.iload_n 1, 1) := by decide +kernel
theorem dX10_byteAt_1 : decode cX10_byteAt 1 = .ok (.aload_n 0, 1) := by decide +kernel
theorem dX10_byteAt_2 : decode cX10_byteAt 2 = .ok (.getfield 98, 3) := by decide +kernel
theorem dX10_byteAt_5 : decode cX10_byteAt 5 = .ok (.if_icmp .ge 12, 3) := by decide +kernel
theorem dX10_byteAt_8 : decode cX10_byteAt 8 = .ok (.aload_n 0, 1) := by decide +kernel
theorem dX10_byteAt_9 : decode cX10_byteAt 9 = .ok (.getfield 31, 3) := by decide +kernel
theorem dX10_byteAt_12 : decode cX10_byteAt 12 = .ok (.iload_n 1, 1) := by decide +kernel
theorem dX10_byteAt_13 : decode cX10_byteAt 13 = .ok (.iaload, 1) := by decide +kernel
theorem dX10_byteAt_14 : decode cX10_byteAt 14 = .ok (.goto 5, 3) := by decide +kernel
theorem dX10_byteAt_17 : decode cX10_byteAt 17 = .ok (.ldc 101, 2) := by decide +kernel
theorem dX10_byteAt_19 : decode cX10_byteAt 19 = .ok (.ireturn, 1) := by decide +kernel
set_option maxRecDepth 100000 in
theorem rX10_byteAt_0 {p : Program} {l : Launch} {e : Env} {s : State} {m : MethodId} {args : Array Value} {below : List Frame} {meth : Method} {c : Code} {D : va_G} {cA : Nat → ClassId} {ad : Nat → Nat} {Ret : zR} (C : z_Cx p { frames := 0, cells := 0, slots := 0, locals := 0 } s m args c cX10_byteAt yX10_byteAt.cls 2 D cA ad) (hr : meth.sig.returnType = (some .int)) (hlocks : meth.locks = false) : ∀ L st σ, tX10_byteAt_0 (z_X p l e { frames := 0, cells := 0, slots := 0, locals := 0 } s m args below meth c (MQ below (z_Qc D cA ad Ret) args s 0 0 (z_A ad)) 2 D cA ad true) Ret L st σ → z_X p l e { frames := 0, cells := 0, slots := 0, locals := 0 } s m args below meth c (MQ below (z_Qc D cA ad Ret) args s 0 0 (z_A ad)) 2 D cA ad true 0 L st σ := (s_iload_n C dX10_byteAt_0 rfl (s_aload_n C dX10_byteAt_1 rfl (s_geti C dX10_byteAt_2 cls_X10 (by decide) rfl wd_982 (s_icge C dX10_byteAt_5 (by decide) (s_ldc C dX10_byteAt_17 (v := -1000000) wd_1127 ⟨by decide, by decide⟩ (s_iret C dX10_byteAt_19 hr hlocks)) (s_aload_n C dX10_byteAt_8 rfl (s_getr C dX10_byteAt_9 (j := 11) cls_X10 (by decide) rfl (by decide) (by decide) (by decide +kernel) wd_979 (s_iload_n C dX10_byteAt_12 rfl (s_iald C dX10_byteAt_13 (s_goto C dX10_byteAt_14 (by decide) (s_iret C dX10_byteAt_19 hr hlocks))))))))))
theorem okX10_byteAt (l : Launch) : z_OK l yX10_byteAt cX10_byteAt 2 (some .int) 0 0 SX10_byteAt := by
  refine z_ok_of true (by decide +kernel) ?_ ?_
  · intro as σ Ret h
    obtain ⟨k0, x1, rfl⟩ := pX10_byteAt h
    exact ⟨Nat.le_of_ble_eq_true rfl, by simp⟩
  · intro p e s m args below meth c D cA ad Ret C hr hlocks as σ has hσ h
    obtain ⟨k0, x1, rfl⟩ := pX10_byteAt h
    exact vX10_byteAt (rX10_byteAt_0 C hr hlocks) k0 x1 σ (has _ (List.mem_of_getElem? (i := 0) rfl)) (has _ (List.mem_of_getElem? (i := 1) rfl)) hσ h
def SX10_next : zS := fun as σ Ret => match as with
  | [.inr (.inr (10, 0, _))] => ∃ (b : Nat → Int) (T p : Nat), (σ 89 14 = (T : Int) ∧ T ≤ 400 ∧ q_by (σ 97) T = b ∧ (∀ j, j < T → 0 ≤ σ 97 j ∧ σ 97 j ≤ 255) ∧ σ 89 15 = (p : Int) ∧ p ≤ T) ∧ ∀ σ' : zM, (∀ c j, ¬ (c = 89 ∧ 15 ≤ j ∧ j ≤ 18) → σ' c j = σ c j) → (σ' 89 15 = (q_te b T p : Int) ∧ σ' 89 16 = q_mt (q_tk b T p) ∧ σ' 89 17 = (q_ts b T p : Int) ∧ σ' 89 18 = (q_te b T p : Int)) → Ret none σ'
  | _ => False
def tX10_next_0 (X : Nat → zB) (Ret : zR) (L : zL) (st : List zV) (σ : zM) : Prop := (z_aload 0 (z_aload 0 (z_geti 10 15 (z_cv1 10 SX10_byteAt (z_push 32 (z_iceq (z_aload 0 (z_dup (z_geti 10 15 (z_push 1 (z_iadd (z_puti 10 15 (z_goto (X 0)))))))) (z_aload 0 (z_aload 0 (z_geti 10 15 (z_cv1 10 SX10_byteAt (z_push 10 (z_icne (z_aload 0 (z_aload 0 (z_geti 10 15 (z_puti 10 17 (z_aload 0 (z_aload 0 (z_geti 10 15 (z_cv1 10 SX10_byteAt (z_istore 1 (z_iload 1 (z_push (-1000000) (z_icne (z_iload 1 (z_cs1 SX10_isLetter (z_ifeq (z_iload 1 (z_cs1 SX10_isFigure (z_ifeq (z_aload 0 (z_dup (z_geti 10 15 (z_push 1 (z_iadd (z_puti 10 15 (z_aload 0 (z_iload 1 (z_push 59 (z_icne (z_push 0 (z_puti 10 16 (z_aload 0 (z_aload 0 (z_geti 10 15 (z_puti 10 18 (z_vret Ret))))))) (z_push 4 (z_goto (z_puti 10 16 (z_aload 0 (z_aload 0 (z_geti 10 15 (z_puti 10 18 (z_vret Ret)))))))))))))))))) (X 119)))) (X 77)))) (z_aload 0 (z_push 1 (z_puti 10 16 (z_goto (z_aload 0 (z_aload 0 (z_geti 10 15 (z_puti 10 18 (z_vret Ret))))))))))))))))))))) (z_aload 0 (z_dup (z_geti 10 15 (z_push 1 (z_iadd (z_puti 10 15 (z_goto (X 0)))))))))))))))))))) L st σ
def tX10_next_77 (X : Nat → zB) (Ret : zR) (L : zL) (st : List zV) (σ : zM) : Prop := (z_aload 0 (z_aload 0 (z_geti 10 15 (z_cv1 10 SX10_byteAt (z_cs1 SX10_isLetter (z_ifeq (z_aload 0 (z_push 2 (z_puti 10 16 (z_goto (z_aload 0 (z_aload 0 (z_geti 10 15 (z_puti 10 18 (z_vret Ret))))))))) (z_aload 0 (z_dup (z_geti 10 15 (z_push 1 (z_iadd (z_puti 10 15 (z_goto (X 77)))))))))))))) L st σ
def tX10_next_119 (X : Nat → zB) (Ret : zR) (L : zL) (st : List zV) (σ : zM) : Prop := (z_aload 0 (z_aload 0 (z_geti 10 15 (z_cv1 10 SX10_byteAt (z_cs1 SX10_isFigure (z_ifeq (z_aload 0 (z_aload 0 (z_geti 10 15 (z_aload 0 (z_geti 10 17 (z_isub (z_push 3 (z_icle (z_push 3 (z_puti 10 16 (z_goto (z_aload 0 (z_aload 0 (z_geti 10 15 (z_puti 10 18 (z_vret Ret)))))))) (z_push 0 (z_goto (z_puti 10 16 (z_goto (z_aload 0 (z_aload 0 (z_geti 10 15 (z_puti 10 18 (z_vret Ret))))))))))))))))) (z_aload 0 (z_dup (z_geti 10 15 (z_push 1 (z_iadd (z_puti 10 15 (z_goto (X 119)))))))))))))) L st σ
theorem pX10_next {as : List zV} {σ : zM} {Ret : zR} (h : SX10_next as σ Ret) : ∃ (k0 : Nat), as = [.inr (.inr (10, 0, k0))] := by
  unfold SX10_next at h
  split at h
  · exact ⟨_, rfl⟩
  · exact h.elim
set_option maxRecDepth 10000 in
set_option maxHeartbeats 4000000 in
theorem vX10_next {X : Nat → zB} {Ret : zR} (h0 : ∀ L st σ, tX10_next_0 X Ret L st σ → X 0 L st σ) (h77 : ∀ L st σ, tX10_next_77 X Ret L st σ → X 77 L st σ) (h119 : ∀ L st σ, tX10_next_119 X Ret L st σ → X 119 L st σ) (k0 : Nat) (σ : zM) (hk0 : z_kd k0 = (10, 0)) (hσ : z_okm σ) (h : SX10_next [.inr (.inr (10, 0, k0))] σ Ret) : X 0 [some (.inr (.inr (10, 0, k0))), none] [] σ := by
  obtain ⟨b, T, p, ⟨hT, T4, hb, hr, hp, pT⟩, h⟩ := h
  obtain rfl := z_kd10 hk0
  have bv : ∀ q, q < T → b q = σ 97 q ∧ 0 ≤ b q ∧ b q ≤ 255 := fun q hq => by
    have e : b q = σ 97 q := by rw [← hb]; unfold q_by; rw [if_pos hq]
    have := hr q hq
    exact ⟨e, by rw [e]; exact this.1, by rw [e]; exact this.2⟩
  have hs := q_ts_in (b := b) pT
  have he := q_te_in (b := b) pT
  have FR : ∀ τ : zM, (∀ c j, ¬ (c = 89 ∧ 15 ≤ j ∧ j ≤ 18) → τ c j = σ c j) → τ 89 14 = (T : Int) ∧ τ 97 = σ 97 := fun τ f => ⟨by rw [f _ _ (by omega), hT], funext fun j => f 97 j (by omega)⟩
  generalize hts : q_ts b T p = s at hs he h
  -- the letters
  have L77 : ∀ (d q : Nat) (v : Option zV) (τ : zM), q_tk b T p = 1 → q + d = T → q_end (fun i => q_let (b i)) q (T - q) = q_te b T p → (∀ c j, ¬ (c = 89 ∧ 15 ≤ j ∧ j ≤ 18) → τ c j = σ c j) → τ 89 15 = (q : Int) → τ 89 17 = (s : Int) → X 77 [some (.inr (.inr (10, 0, 89))), v] [] τ := by
    intro d
    induction d with
    | zero =>
      intro q v τ k1 hq hend f1 f15 f17
      obtain ⟨r1, ra⟩ := FR τ f1
      obtain rfl : q = T := by omega
      rw [show q - q = 0 by omega] at hend
      have e : q_te b q p = q := by rw [← hend]; rfl
      have fin := h (z_up (z_up τ 89 16 2) 89 18 (q : Int)) (fun c j hc => by rw [z_up_ne (by omega), z_up_ne (by omega)]; exact f1 c j hc) ⟨by rw [z_up_ne (by omega), z_up_ne (by omega), f15, e], by rw [z_up_ne (by omega), z_up_eq, k1]; rfl, by rw [z_up_ne (by omega), z_up_ne (by omega), f17], by rw [z_up_eq, e]⟩
      have e15 : ∀ v, z_up τ 89 16 v 89 15 = (q : Int) := fun v => by rw [z_up_ne (by omega)]; exact f15
      refine h77 _ _ _ ?_
      simp only [z_push, z_lpush, z_iload, z_lload, z_aload, z_istore, z_istoreP, z_lstore, z_astore, z_iinc, z_iincP, z_iadd, z_isub, z_imul, z_iaddW, z_isubW, z_imulW, z_idiv, z_irem, z_iand, z_ior, z_ixor, z_ishl, z_ishr, z_iushr, z_ineg, z_i2l, z_i2b, z_i2s, z_i2c, z_l2i, z_ladd, z_lsub, z_land, z_lor, z_lshl, z_lshr, z_lcmp, z_dup, z_pop, z_dup2, z_goto, z_tsw, z_cases, z_geti, z_getr, z_puti, z_putz, z_ald, z_iast, z_bast, z_zast, z_alen, z_acopy, z_mmax, z_mmin, z_mabs, z_mabsL, z_iret, z_zret, z_nret, z_lret, z_aret, z_vret, z_cat, z_ldcs, z_strv, z_strc, z_gcs, z_gfm, z_sln, z_sald, z_ifeq, z_ifne, z_iflt, z_ifge, z_ifgt, z_ifle, z_iceq, z_icne, z_iclt, z_icge, z_icgt, z_icle, z_cs0, z_cs1, z_cs2, z_cs3, z_cs4, z_cs5, z_cs6, z_cs7, z_cv0, z_cv1, z_cv2, z_cv3, z_cv4, z_cv5, z_cv6, z_cv7, z_g0, z_s0, z_g1, z_s1, z_g2, z_s2, z_g3, z_s3, z_g4, z_s4, z_g5, z_s5, z_g6, z_s6, z_g7, z_s7, z_g8, z_s8, z_g9, z_s9, z_g10, z_s10, z_g11, z_s11, z_g12, z_s12, z_g13, z_s13, z_b0, z_b1, z_b0n, z_b1n, z_up_far1, z_up_far2, z_up_far3, z_up_far4, z_up_far5, z_up_far6, Classical.not_not, not_true_eq_false, z_in, z_inL, Int.cast_ofNat_Int, Nat.reduceLeDiff, List.length_cons, List.length_nil, Nat.reduceAdd, Nat.zero_add, Nat.le_refl, true_and, and_true, List.length, Nat.reduceLT, true_or, or_true, false_or, or_false, false_and, and_false, not_true_eq_false, not_false_eq_true, forall_const, false_implies, true_implies, Int.reduceEq, Int.reduceLT, Int.reduceLE, Int.reduceAdd, Int.reduceSub, Int.reduceMul, Int.reduceNeg, Int.reduceToNat, Int.toNat_natCast, ↓reduceIte, reduceIte, Nat.reduceEqDiff, Nat.reduceSub, Nat.reduceMul, ne_eq, Int.zero_add, Int.add_zero, Int.sub_zero, Nat.add_zero, Int.ofNat_eq_natCast, tX10_next_77, SX10_byteAt, SX10_isLetter, r1, f15, e15]
      repeat' (first | (intro _) | (with_reducible assumption) | (refine And.intro ?_ ?_))
      all_goals first | omega | assumption | (refine z_fin fin ?_ rfl; first | rfl | omega | (split <;> omega) | (split <;> split <;> omega)) | skip
    | succ d ih =>
      intro q v τ k1 hq hend f1 f15 f17
      obtain ⟨r1, ra⟩ := FR τ f1
      have bq := bv q (by omega)
      have eb : τ 97 q = b q := by rw [ra, bq.1]
      by_cases g : q_let (b q) = true
      · have nx := ih (q + 1) v (z_up τ 89 15 ((q : Int) + 1)) k1 (by omega) (by rw [← hend]; exact (q_end_S (by omega) g).symm) (fun c j hc => by rw [z_up_ne (by omega)]; exact f1 c j hc) (by rw [z_up_eq]; rfl) (by rw [z_up_ne (by omega)]; exact f17)
        have g2 : 97 ≤ b q ∧ b q ≤ 122 := by unfold q_let at g; rw [decide_eq_true_eq] at g; exact g
        have lt : (q : Int) < (T : Int) := by omega
        refine h77 _ _ _ ?_
        simp only [z_push, z_lpush, z_iload, z_lload, z_aload, z_istore, z_istoreP, z_lstore, z_astore, z_iinc, z_iincP, z_iadd, z_isub, z_imul, z_iaddW, z_isubW, z_imulW, z_idiv, z_irem, z_iand, z_ior, z_ixor, z_ishl, z_ishr, z_iushr, z_ineg, z_i2l, z_i2b, z_i2s, z_i2c, z_l2i, z_ladd, z_lsub, z_land, z_lor, z_lshl, z_lshr, z_lcmp, z_dup, z_pop, z_dup2, z_goto, z_tsw, z_cases, z_geti, z_getr, z_puti, z_putz, z_ald, z_iast, z_bast, z_zast, z_alen, z_acopy, z_mmax, z_mmin, z_mabs, z_mabsL, z_iret, z_zret, z_nret, z_lret, z_aret, z_vret, z_cat, z_ldcs, z_strv, z_strc, z_gcs, z_gfm, z_sln, z_sald, z_ifeq, z_ifne, z_iflt, z_ifge, z_ifgt, z_ifle, z_iceq, z_icne, z_iclt, z_icge, z_icgt, z_icle, z_cs0, z_cs1, z_cs2, z_cs3, z_cs4, z_cs5, z_cs6, z_cs7, z_cv0, z_cv1, z_cv2, z_cv3, z_cv4, z_cv5, z_cv6, z_cv7, z_g0, z_s0, z_g1, z_s1, z_g2, z_s2, z_g3, z_s3, z_g4, z_s4, z_g5, z_s5, z_g6, z_s6, z_g7, z_s7, z_g8, z_s8, z_g9, z_s9, z_g10, z_s10, z_g11, z_s11, z_g12, z_s12, z_g13, z_s13, z_b0, z_b1, z_b0n, z_b1n, z_up_far1, z_up_far2, z_up_far3, z_up_far4, z_up_far5, z_up_far6, Classical.not_not, not_true_eq_false, z_in, z_inL, Int.cast_ofNat_Int, Nat.reduceLeDiff, List.length_cons, List.length_nil, Nat.reduceAdd, Nat.zero_add, Nat.le_refl, true_and, and_true, List.length, Nat.reduceLT, true_or, or_true, false_or, or_false, false_and, and_false, not_true_eq_false, not_false_eq_true, forall_const, false_implies, true_implies, Int.reduceEq, Int.reduceLT, Int.reduceLE, Int.reduceAdd, Int.reduceSub, Int.reduceMul, Int.reduceNeg, Int.reduceToNat, Int.toNat_natCast, ↓reduceIte, reduceIte, Nat.reduceEqDiff, Nat.reduceSub, Nat.reduceMul, ne_eq, Int.zero_add, Int.add_zero, Int.sub_zero, Nat.add_zero, Int.ofNat_eq_natCast, tX10_next_77, SX10_byteAt, SX10_isLetter, r1, f15, eb, lt]
        repeat' (first | (intro _) | (with_reducible assumption) | (refine And.intro ?_ ?_))
        all_goals first | omega | assumption | (refine z_fin nx ?_ rfl; first | rfl | omega | (split <;> omega) | (split <;> split <;> omega)) | skip
        all_goals (exfalso; omega)
      · have g2 : q_let (b q) = false := by simpa using g
        have g3 : ¬ (97 ≤ b q ∧ b q ≤ 122) := by unfold q_let at g; rw [decide_eq_true_eq] at g; exact g
        have e : q_te b T p = q := by rw [← hend, q_end_N (f := fun i => q_let (b i)) g2]
        have fin := h (z_up (z_up τ 89 16 2) 89 18 (q : Int)) (fun c j hc => by rw [z_up_ne (by omega), z_up_ne (by omega)]; exact f1 c j hc) ⟨by rw [z_up_ne (by omega), z_up_ne (by omega), f15, e], by rw [z_up_ne (by omega), z_up_eq, k1]; rfl, by rw [z_up_ne (by omega), z_up_ne (by omega), f17], by rw [z_up_eq, e]⟩
        have e15 : ∀ v, z_up τ 89 16 v 89 15 = (q : Int) := fun v => by rw [z_up_ne (by omega)]; exact f15
        have lt : (q : Int) < (T : Int) := by omega
        refine h77 _ _ _ ?_
        simp only [z_push, z_lpush, z_iload, z_lload, z_aload, z_istore, z_istoreP, z_lstore, z_astore, z_iinc, z_iincP, z_iadd, z_isub, z_imul, z_iaddW, z_isubW, z_imulW, z_idiv, z_irem, z_iand, z_ior, z_ixor, z_ishl, z_ishr, z_iushr, z_ineg, z_i2l, z_i2b, z_i2s, z_i2c, z_l2i, z_ladd, z_lsub, z_land, z_lor, z_lshl, z_lshr, z_lcmp, z_dup, z_pop, z_dup2, z_goto, z_tsw, z_cases, z_geti, z_getr, z_puti, z_putz, z_ald, z_iast, z_bast, z_zast, z_alen, z_acopy, z_mmax, z_mmin, z_mabs, z_mabsL, z_iret, z_zret, z_nret, z_lret, z_aret, z_vret, z_cat, z_ldcs, z_strv, z_strc, z_gcs, z_gfm, z_sln, z_sald, z_ifeq, z_ifne, z_iflt, z_ifge, z_ifgt, z_ifle, z_iceq, z_icne, z_iclt, z_icge, z_icgt, z_icle, z_cs0, z_cs1, z_cs2, z_cs3, z_cs4, z_cs5, z_cs6, z_cs7, z_cv0, z_cv1, z_cv2, z_cv3, z_cv4, z_cv5, z_cv6, z_cv7, z_g0, z_s0, z_g1, z_s1, z_g2, z_s2, z_g3, z_s3, z_g4, z_s4, z_g5, z_s5, z_g6, z_s6, z_g7, z_s7, z_g8, z_s8, z_g9, z_s9, z_g10, z_s10, z_g11, z_s11, z_g12, z_s12, z_g13, z_s13, z_b0, z_b1, z_b0n, z_b1n, z_up_far1, z_up_far2, z_up_far3, z_up_far4, z_up_far5, z_up_far6, Classical.not_not, not_true_eq_false, z_in, z_inL, Int.cast_ofNat_Int, Nat.reduceLeDiff, List.length_cons, List.length_nil, Nat.reduceAdd, Nat.zero_add, Nat.le_refl, true_and, and_true, List.length, Nat.reduceLT, true_or, or_true, false_or, or_false, false_and, and_false, not_true_eq_false, not_false_eq_true, forall_const, false_implies, true_implies, Int.reduceEq, Int.reduceLT, Int.reduceLE, Int.reduceAdd, Int.reduceSub, Int.reduceMul, Int.reduceNeg, Int.reduceToNat, Int.toNat_natCast, ↓reduceIte, reduceIte, Nat.reduceEqDiff, Nat.reduceSub, Nat.reduceMul, ne_eq, Int.zero_add, Int.add_zero, Int.sub_zero, Nat.add_zero, Int.ofNat_eq_natCast, tX10_next_77, SX10_byteAt, SX10_isLetter, r1, f15, eb, lt, e15]
        repeat' (first | (intro _) | (with_reducible assumption) | (refine And.intro ?_ ?_))
        all_goals first | omega | assumption | (refine z_fin fin ?_ rfl; first | rfl | omega | (split <;> omega) | (split <;> split <;> omega)) | skip
        all_goals (exfalso; omega)
  -- the figures
  have F119 : ∀ (q : Nat) (τ : zM), q_tk b T p = (if s + 3 < q_te b T p then 4 else 2) → q_te b T p = q → (∀ c j, ¬ (c = 89 ∧ 15 ≤ j ∧ j ≤ 18) → τ c j = σ c j) → τ 89 15 = (q : Int) → τ 89 17 = (s : Int) → (∀ v, (v = if s + 3 < q then 0 else 3) → Ret none (z_up (z_up τ 89 16 v) 89 18 (q : Int))) := by
    intro q τ k1 e f1 f15 f17 v hv
    refine h _ (fun c j hc => by rw [z_up_ne (by omega), z_up_ne (by omega)]; exact f1 c j hc) ⟨by rw [z_up_ne (by omega), z_up_ne (by omega), f15, e], ?_, by rw [z_up_ne (by omega), z_up_ne (by omega), f17], by rw [z_up_eq, e]⟩
    rw [z_up_ne (by omega), z_up_eq, k1, e, hv]
    by_cases c : s + 3 < q
    · rw [if_pos c, if_pos c]; rfl
    · rw [if_neg c, if_neg c]; rfl
  have L119 : ∀ (d q : Nat) (v : Option zV) (τ : zM), q_tk b T p = (if s + 3 < q_te b T p then 4 else 2) → q + d = T → q_end (fun i => q_fig (b i)) q (T - q) = q_te b T p → (∀ c j, ¬ (c = 89 ∧ 15 ≤ j ∧ j ≤ 18) → τ c j = σ c j) → τ 89 15 = (q : Int) → τ 89 17 = (s : Int) → X 119 [some (.inr (.inr (10, 0, 89))), v] [] τ := by
    intro d
    induction d with
    | zero =>
      intro q v τ k1 hq hend f1 f15 f17
      obtain ⟨r1, ra⟩ := FR τ f1
      obtain rfl : q = T := by omega
      rw [show q - q = 0 by omega] at hend
      have e : q_te b q p = q := by rw [← hend]; rfl
      have fin := F119 q τ k1 e f1 f15 f17
      have e15 : ∀ v, z_up τ 89 16 v 89 15 = (q : Int) := fun v => by rw [z_up_ne (by omega)]; exact f15
      refine h119 _ _ _ ?_
      simp only [z_push, z_lpush, z_iload, z_lload, z_aload, z_istore, z_istoreP, z_lstore, z_astore, z_iinc, z_iincP, z_iadd, z_isub, z_imul, z_iaddW, z_isubW, z_imulW, z_idiv, z_irem, z_iand, z_ior, z_ixor, z_ishl, z_ishr, z_iushr, z_ineg, z_i2l, z_i2b, z_i2s, z_i2c, z_l2i, z_ladd, z_lsub, z_land, z_lor, z_lshl, z_lshr, z_lcmp, z_dup, z_pop, z_dup2, z_goto, z_tsw, z_cases, z_geti, z_getr, z_puti, z_putz, z_ald, z_iast, z_bast, z_zast, z_alen, z_acopy, z_mmax, z_mmin, z_mabs, z_mabsL, z_iret, z_zret, z_nret, z_lret, z_aret, z_vret, z_cat, z_ldcs, z_strv, z_strc, z_gcs, z_gfm, z_sln, z_sald, z_ifeq, z_ifne, z_iflt, z_ifge, z_ifgt, z_ifle, z_iceq, z_icne, z_iclt, z_icge, z_icgt, z_icle, z_cs0, z_cs1, z_cs2, z_cs3, z_cs4, z_cs5, z_cs6, z_cs7, z_cv0, z_cv1, z_cv2, z_cv3, z_cv4, z_cv5, z_cv6, z_cv7, z_g0, z_s0, z_g1, z_s1, z_g2, z_s2, z_g3, z_s3, z_g4, z_s4, z_g5, z_s5, z_g6, z_s6, z_g7, z_s7, z_g8, z_s8, z_g9, z_s9, z_g10, z_s10, z_g11, z_s11, z_g12, z_s12, z_g13, z_s13, z_b0, z_b1, z_b0n, z_b1n, z_up_far1, z_up_far2, z_up_far3, z_up_far4, z_up_far5, z_up_far6, Classical.not_not, not_true_eq_false, z_in, z_inL, Int.cast_ofNat_Int, Nat.reduceLeDiff, List.length_cons, List.length_nil, Nat.reduceAdd, Nat.zero_add, Nat.le_refl, true_and, and_true, List.length, Nat.reduceLT, true_or, or_true, false_or, or_false, false_and, and_false, not_true_eq_false, not_false_eq_true, forall_const, false_implies, true_implies, Int.reduceEq, Int.reduceLT, Int.reduceLE, Int.reduceAdd, Int.reduceSub, Int.reduceMul, Int.reduceNeg, Int.reduceToNat, Int.toNat_natCast, ↓reduceIte, reduceIte, Nat.reduceEqDiff, Nat.reduceSub, Nat.reduceMul, ne_eq, Int.zero_add, Int.add_zero, Int.sub_zero, Nat.add_zero, Int.ofNat_eq_natCast, tX10_next_119, SX10_byteAt, SX10_isFigure, r1, f15, e15, f17]
      repeat' (first | (intro _) | (with_reducible assumption) | (refine And.intro ?_ ?_))
      all_goals first | omega | assumption | (refine z_fin hs ?_ rfl; first | rfl | omega | (split <;> omega) | (split <;> split <;> omega)) | skip
      all_goals first | exact fin 3 (by rw [if_neg (by omega)]) | exact fin 0 (by rw [if_pos (by omega)])
    | succ d ih =>
      intro q v τ k1 hq hend f1 f15 f17
      obtain ⟨r1, ra⟩ := FR τ f1
      have bq := bv q (by omega)
      have eb : τ 97 q = b q := by rw [ra, bq.1]
      have lt : (q : Int) < (T : Int) := by omega
      by_cases g : q_fig (b q) = true
      · have nx := ih (q + 1) v (z_up τ 89 15 ((q : Int) + 1)) k1 (by omega) (by rw [← hend]; exact (q_end_S (by omega) g).symm) (fun c j hc => by rw [z_up_ne (by omega)]; exact f1 c j hc) (by rw [z_up_eq]; rfl) (by rw [z_up_ne (by omega)]; exact f17)
        have g2 : 48 ≤ b q ∧ b q ≤ 57 := by unfold q_fig at g; rw [decide_eq_true_eq] at g; exact g
        refine h119 _ _ _ ?_
        simp only [z_push, z_lpush, z_iload, z_lload, z_aload, z_istore, z_istoreP, z_lstore, z_astore, z_iinc, z_iincP, z_iadd, z_isub, z_imul, z_iaddW, z_isubW, z_imulW, z_idiv, z_irem, z_iand, z_ior, z_ixor, z_ishl, z_ishr, z_iushr, z_ineg, z_i2l, z_i2b, z_i2s, z_i2c, z_l2i, z_ladd, z_lsub, z_land, z_lor, z_lshl, z_lshr, z_lcmp, z_dup, z_pop, z_dup2, z_goto, z_tsw, z_cases, z_geti, z_getr, z_puti, z_putz, z_ald, z_iast, z_bast, z_zast, z_alen, z_acopy, z_mmax, z_mmin, z_mabs, z_mabsL, z_iret, z_zret, z_nret, z_lret, z_aret, z_vret, z_cat, z_ldcs, z_strv, z_strc, z_gcs, z_gfm, z_sln, z_sald, z_ifeq, z_ifne, z_iflt, z_ifge, z_ifgt, z_ifle, z_iceq, z_icne, z_iclt, z_icge, z_icgt, z_icle, z_cs0, z_cs1, z_cs2, z_cs3, z_cs4, z_cs5, z_cs6, z_cs7, z_cv0, z_cv1, z_cv2, z_cv3, z_cv4, z_cv5, z_cv6, z_cv7, z_g0, z_s0, z_g1, z_s1, z_g2, z_s2, z_g3, z_s3, z_g4, z_s4, z_g5, z_s5, z_g6, z_s6, z_g7, z_s7, z_g8, z_s8, z_g9, z_s9, z_g10, z_s10, z_g11, z_s11, z_g12, z_s12, z_g13, z_s13, z_b0, z_b1, z_b0n, z_b1n, z_up_far1, z_up_far2, z_up_far3, z_up_far4, z_up_far5, z_up_far6, Classical.not_not, not_true_eq_false, z_in, z_inL, Int.cast_ofNat_Int, Nat.reduceLeDiff, List.length_cons, List.length_nil, Nat.reduceAdd, Nat.zero_add, Nat.le_refl, true_and, and_true, List.length, Nat.reduceLT, true_or, or_true, false_or, or_false, false_and, and_false, not_true_eq_false, not_false_eq_true, forall_const, false_implies, true_implies, Int.reduceEq, Int.reduceLT, Int.reduceLE, Int.reduceAdd, Int.reduceSub, Int.reduceMul, Int.reduceNeg, Int.reduceToNat, Int.toNat_natCast, ↓reduceIte, reduceIte, Nat.reduceEqDiff, Nat.reduceSub, Nat.reduceMul, ne_eq, Int.zero_add, Int.add_zero, Int.sub_zero, Nat.add_zero, Int.ofNat_eq_natCast, tX10_next_119, SX10_byteAt, SX10_isFigure, r1, f15, eb, lt, f17]
        repeat' (first | (intro _) | (with_reducible assumption) | (refine And.intro ?_ ?_))
        all_goals first | omega | assumption | (refine z_fin nx ?_ rfl; first | rfl | omega | (split <;> omega) | (split <;> split <;> omega)) | skip
        all_goals (exfalso; omega)
      · have g2 : q_fig (b q) = false := by simpa using g
        have g3 : ¬ (48 ≤ b q ∧ b q ≤ 57) := by unfold q_fig at g; rw [decide_eq_true_eq] at g; exact g
        have e : q_te b T p = q := by rw [← hend, q_end_N (f := fun i => q_fig (b i)) g2]
        have fin := F119 q τ k1 e f1 f15 f17
        have e15 : ∀ v, z_up τ 89 16 v 89 15 = (q : Int) := fun v => by rw [z_up_ne (by omega)]; exact f15
        refine h119 _ _ _ ?_
        simp only [z_push, z_lpush, z_iload, z_lload, z_aload, z_istore, z_istoreP, z_lstore, z_astore, z_iinc, z_iincP, z_iadd, z_isub, z_imul, z_iaddW, z_isubW, z_imulW, z_idiv, z_irem, z_iand, z_ior, z_ixor, z_ishl, z_ishr, z_iushr, z_ineg, z_i2l, z_i2b, z_i2s, z_i2c, z_l2i, z_ladd, z_lsub, z_land, z_lor, z_lshl, z_lshr, z_lcmp, z_dup, z_pop, z_dup2, z_goto, z_tsw, z_cases, z_geti, z_getr, z_puti, z_putz, z_ald, z_iast, z_bast, z_zast, z_alen, z_acopy, z_mmax, z_mmin, z_mabs, z_mabsL, z_iret, z_zret, z_nret, z_lret, z_aret, z_vret, z_cat, z_ldcs, z_strv, z_strc, z_gcs, z_gfm, z_sln, z_sald, z_ifeq, z_ifne, z_iflt, z_ifge, z_ifgt, z_ifle, z_iceq, z_icne, z_iclt, z_icge, z_icgt, z_icle, z_cs0, z_cs1, z_cs2, z_cs3, z_cs4, z_cs5, z_cs6, z_cs7, z_cv0, z_cv1, z_cv2, z_cv3, z_cv4, z_cv5, z_cv6, z_cv7, z_g0, z_s0, z_g1, z_s1, z_g2, z_s2, z_g3, z_s3, z_g4, z_s4, z_g5, z_s5, z_g6, z_s6, z_g7, z_s7, z_g8, z_s8, z_g9, z_s9, z_g10, z_s10, z_g11, z_s11, z_g12, z_s12, z_g13, z_s13, z_b0, z_b1, z_b0n, z_b1n, z_up_far1, z_up_far2, z_up_far3, z_up_far4, z_up_far5, z_up_far6, Classical.not_not, not_true_eq_false, z_in, z_inL, Int.cast_ofNat_Int, Nat.reduceLeDiff, List.length_cons, List.length_nil, Nat.reduceAdd, Nat.zero_add, Nat.le_refl, true_and, and_true, List.length, Nat.reduceLT, true_or, or_true, false_or, or_false, false_and, and_false, not_true_eq_false, not_false_eq_true, forall_const, false_implies, true_implies, Int.reduceEq, Int.reduceLT, Int.reduceLE, Int.reduceAdd, Int.reduceSub, Int.reduceMul, Int.reduceNeg, Int.reduceToNat, Int.toNat_natCast, ↓reduceIte, reduceIte, Nat.reduceEqDiff, Nat.reduceSub, Nat.reduceMul, ne_eq, Int.zero_add, Int.add_zero, Int.sub_zero, Nat.add_zero, Int.ofNat_eq_natCast, tX10_next_119, SX10_byteAt, SX10_isFigure, r1, f15, eb, lt, e15, f17]
        repeat' (first | (intro _) | (with_reducible assumption) | (refine And.intro ?_ ?_))
        all_goals first | omega | assumption | (refine z_fin hs ?_ rfl; first | rfl | omega | (split <;> omega) | (split <;> split <;> omega)) | skip
        all_goals first | exact fin 3 (by rw [if_neg (by omega)]) | exact fin 0 (by rw [if_pos (by omega)]) | (exfalso; omega)
  -- the blanks
  have L0 : ∀ (d q : Nat) (τ : zM), q + d = T → q_end (fun i => q_bl (b i)) q (T - q) = s → (∀ c j, ¬ (c = 89 ∧ 15 ≤ j ∧ j ≤ 18) → τ c j = σ c j) → τ 89 15 = (q : Int) → X 0 [some (.inr (.inr (10, 0, 89))), none] [] τ := by
    intro d
    induction d with
    | zero =>
      intro q τ hq hend f1 f15
      obtain ⟨r1, ra⟩ := FR τ f1
      obtain rfl : q = T := by omega
      rw [show q - q = 0 by omega] at hend
      obtain rfl : q = s := by rw [← hend]; rfl
      have e1 : q_te b q p = q := by unfold q_te; rw [hts, if_pos (Nat.le_refl _)]
      have e2 : q_tk b q p = 0 := by unfold q_tk; rw [hts, if_pos (Nat.le_refl _)]
      have fin := h (z_up (z_up (z_up τ 89 17 (q : Int)) 89 16 1) 89 18 (q : Int)) (fun c j hc => by rw [z_up_ne (by omega), z_up_ne (by omega), z_up_ne (by omega)]; exact f1 c j hc) ⟨by rw [z_up_ne (by omega), z_up_ne (by omega), z_up_ne (by omega), f15, e1], by rw [z_up_ne (by omega), z_up_eq, e2]; rfl, by rw [z_up_ne (by omega), z_up_ne (by omega), z_up_eq], by rw [z_up_eq, e1]⟩
      have e15 : ∀ v, z_up τ 89 17 v 89 15 = (q : Int) := fun v => by rw [z_up_ne (by omega)]; exact f15
      have e14 : ∀ v, z_up τ 89 17 v 89 14 = (q : Int) := fun v => by rw [z_up_ne (by omega)]; exact r1
      have e15b : ∀ v u, z_up (z_up τ 89 17 v) 89 16 u 89 15 = (q : Int) := fun v u => by rw [z_up_ne (by omega)]; exact e15 v
      refine h0 _ _ _ ?_
      simp only [z_push, z_lpush, z_iload, z_lload, z_aload, z_istore, z_istoreP, z_lstore, z_astore, z_iinc, z_iincP, z_iadd, z_isub, z_imul, z_iaddW, z_isubW, z_imulW, z_idiv, z_irem, z_iand, z_ior, z_ixor, z_ishl, z_ishr, z_iushr, z_ineg, z_i2l, z_i2b, z_i2s, z_i2c, z_l2i, z_ladd, z_lsub, z_land, z_lor, z_lshl, z_lshr, z_lcmp, z_dup, z_pop, z_dup2, z_goto, z_tsw, z_cases, z_geti, z_getr, z_puti, z_putz, z_ald, z_iast, z_bast, z_zast, z_alen, z_acopy, z_mmax, z_mmin, z_mabs, z_mabsL, z_iret, z_zret, z_nret, z_lret, z_aret, z_vret, z_cat, z_ldcs, z_strv, z_strc, z_gcs, z_gfm, z_sln, z_sald, z_ifeq, z_ifne, z_iflt, z_ifge, z_ifgt, z_ifle, z_iceq, z_icne, z_iclt, z_icge, z_icgt, z_icle, z_cs0, z_cs1, z_cs2, z_cs3, z_cs4, z_cs5, z_cs6, z_cs7, z_cv0, z_cv1, z_cv2, z_cv3, z_cv4, z_cv5, z_cv6, z_cv7, z_g0, z_s0, z_g1, z_s1, z_g2, z_s2, z_g3, z_s3, z_g4, z_s4, z_g5, z_s5, z_g6, z_s6, z_g7, z_s7, z_g8, z_s8, z_g9, z_s9, z_g10, z_s10, z_g11, z_s11, z_g12, z_s12, z_g13, z_s13, z_b0, z_b1, z_b0n, z_b1n, z_up_far1, z_up_far2, z_up_far3, z_up_far4, z_up_far5, z_up_far6, Classical.not_not, not_true_eq_false, z_in, z_inL, Int.cast_ofNat_Int, Nat.reduceLeDiff, List.length_cons, List.length_nil, Nat.reduceAdd, Nat.zero_add, Nat.le_refl, true_and, and_true, List.length, Nat.reduceLT, true_or, or_true, false_or, or_false, false_and, and_false, not_true_eq_false, not_false_eq_true, forall_const, false_implies, true_implies, Int.reduceEq, Int.reduceLT, Int.reduceLE, Int.reduceAdd, Int.reduceSub, Int.reduceMul, Int.reduceNeg, Int.reduceToNat, Int.toNat_natCast, ↓reduceIte, reduceIte, Nat.reduceEqDiff, Nat.reduceSub, Nat.reduceMul, ne_eq, Int.zero_add, Int.add_zero, Int.sub_zero, Nat.add_zero, Int.ofNat_eq_natCast, tX10_next_0, SX10_byteAt, r1, f15, e15, e14, e15b]
      repeat' (first | (intro _) | (with_reducible assumption) | (refine And.intro ?_ ?_))
      all_goals first | omega | assumption | (refine z_fin fin ?_ rfl; first | rfl | omega | (split <;> omega) | (split <;> split <;> omega)) | skip
    | succ d ih =>
      intro q τ hq hend f1 f15
      obtain ⟨r1, ra⟩ := FR τ f1
      have bq := bv q (by omega)
      have eb : τ 97 q = b q := by rw [ra, bq.1]
      have lt : (q : Int) < (T : Int) := by omega
      by_cases g : q_bl (b q) = true
      · have nx := ih (q + 1) (z_up τ 89 15 ((q : Int) + 1)) (by omega) (by rw [← hend]; exact (q_end_S (by omega) g).symm) (fun c j hc => by rw [z_up_ne (by omega)]; exact f1 c j hc) (by rw [z_up_eq]; rfl)
        have g2 : b q = 32 ∨ b q = 10 := by unfold q_bl at g; rw [decide_eq_true_eq] at g; exact g
        refine h0 _ _ _ ?_
        simp only [z_push, z_lpush, z_iload, z_lload, z_aload, z_istore, z_istoreP, z_lstore, z_astore, z_iinc, z_iincP, z_iadd, z_isub, z_imul, z_iaddW, z_isubW, z_imulW, z_idiv, z_irem, z_iand, z_ior, z_ixor, z_ishl, z_ishr, z_iushr, z_ineg, z_i2l, z_i2b, z_i2s, z_i2c, z_l2i, z_ladd, z_lsub, z_land, z_lor, z_lshl, z_lshr, z_lcmp, z_dup, z_pop, z_dup2, z_goto, z_tsw, z_cases, z_geti, z_getr, z_puti, z_putz, z_ald, z_iast, z_bast, z_zast, z_alen, z_acopy, z_mmax, z_mmin, z_mabs, z_mabsL, z_iret, z_zret, z_nret, z_lret, z_aret, z_vret, z_cat, z_ldcs, z_strv, z_strc, z_gcs, z_gfm, z_sln, z_sald, z_ifeq, z_ifne, z_iflt, z_ifge, z_ifgt, z_ifle, z_iceq, z_icne, z_iclt, z_icge, z_icgt, z_icle, z_cs0, z_cs1, z_cs2, z_cs3, z_cs4, z_cs5, z_cs6, z_cs7, z_cv0, z_cv1, z_cv2, z_cv3, z_cv4, z_cv5, z_cv6, z_cv7, z_g0, z_s0, z_g1, z_s1, z_g2, z_s2, z_g3, z_s3, z_g4, z_s4, z_g5, z_s5, z_g6, z_s6, z_g7, z_s7, z_g8, z_s8, z_g9, z_s9, z_g10, z_s10, z_g11, z_s11, z_g12, z_s12, z_g13, z_s13, z_b0, z_b1, z_b0n, z_b1n, z_up_far1, z_up_far2, z_up_far3, z_up_far4, z_up_far5, z_up_far6, Classical.not_not, not_true_eq_false, z_in, z_inL, Int.cast_ofNat_Int, Nat.reduceLeDiff, List.length_cons, List.length_nil, Nat.reduceAdd, Nat.zero_add, Nat.le_refl, true_and, and_true, List.length, Nat.reduceLT, true_or, or_true, false_or, or_false, false_and, and_false, not_true_eq_false, not_false_eq_true, forall_const, false_implies, true_implies, Int.reduceEq, Int.reduceLT, Int.reduceLE, Int.reduceAdd, Int.reduceSub, Int.reduceMul, Int.reduceNeg, Int.reduceToNat, Int.toNat_natCast, ↓reduceIte, reduceIte, Nat.reduceEqDiff, Nat.reduceSub, Nat.reduceMul, ne_eq, Int.zero_add, Int.add_zero, Int.sub_zero, Nat.add_zero, Int.ofNat_eq_natCast, tX10_next_0, SX10_byteAt, r1, f15, eb, lt]
        repeat' (first | (intro _) | (with_reducible assumption) | (refine And.intro ?_ ?_))
        all_goals first | omega | assumption | (refine z_fin nx ?_ rfl; first | rfl | omega | (split <;> omega) | (split <;> split <;> omega)) | skip
        all_goals (exfalso; omega)
      · have g2 : q_bl (b q) = false := by simpa using g
        have g3 : ¬ b q = 32 ∧ ¬ b q = 10 := by unfold q_bl at g; rw [decide_eq_true_eq] at g; omega
        obtain rfl : q = s := by rw [← hend, q_end_N (f := fun i => q_bl (b i)) g2]
        have nT : ¬ T ≤ q := by omega
        have e15 : ∀ v, z_up τ 89 17 v 89 15 = (q : Int) := fun v => by rw [z_up_ne (by omega)]; exact f15
        have e14 : ∀ v, z_up τ 89 17 v 89 14 = (T : Int) := fun v => by rw [z_up_ne (by omega)]; exact r1
        have e97 : ∀ v, z_up τ 89 17 v 97 q = b q := fun v => by rw [z_up_ne (by omega)]; exact eb
        have f17 : z_up τ 89 17 (q : Int) 89 17 = (q : Int) := z_up_eq
        have fr : ∀ c j, ¬ (c = 89 ∧ 15 ≤ j ∧ j ≤ 18) → z_up τ 89 17 (q : Int) c j = σ c j := fun c j hc => by rw [z_up_ne (by omega)]; exact f1 c j hc
        refine h0 _ _ _ ?_
        by_cases l : q_let (b q) = true
        · have k1 : q_tk b T p = 1 := by unfold q_tk; rw [hts, if_neg nT, if_pos l]
          have e1 : q_end (fun i => q_let (b i)) q (T - q) = q_te b T p := by unfold q_te; rw [hts, if_neg nT, if_pos l]
          have l2 : 97 ≤ b q ∧ b q ≤ 122 := by unfold q_let at l; rw [decide_eq_true_eq] at l; exact l
          have nx := fun v => L77 (T - q) q v (z_up τ 89 17 (q : Int)) k1 (by omega) e1 fr (e15 _) f17
          simp only [z_push, z_lpush, z_iload, z_lload, z_aload, z_istore, z_istoreP, z_lstore, z_astore, z_iinc, z_iincP, z_iadd, z_isub, z_imul, z_iaddW, z_isubW, z_imulW, z_idiv, z_irem, z_iand, z_ior, z_ixor, z_ishl, z_ishr, z_iushr, z_ineg, z_i2l, z_i2b, z_i2s, z_i2c, z_l2i, z_ladd, z_lsub, z_land, z_lor, z_lshl, z_lshr, z_lcmp, z_dup, z_pop, z_dup2, z_goto, z_tsw, z_cases, z_geti, z_getr, z_puti, z_putz, z_ald, z_iast, z_bast, z_zast, z_alen, z_acopy, z_mmax, z_mmin, z_mabs, z_mabsL, z_iret, z_zret, z_nret, z_lret, z_aret, z_vret, z_cat, z_ldcs, z_strv, z_strc, z_gcs, z_gfm, z_sln, z_sald, z_ifeq, z_ifne, z_iflt, z_ifge, z_ifgt, z_ifle, z_iceq, z_icne, z_iclt, z_icge, z_icgt, z_icle, z_cs0, z_cs1, z_cs2, z_cs3, z_cs4, z_cs5, z_cs6, z_cs7, z_cv0, z_cv1, z_cv2, z_cv3, z_cv4, z_cv5, z_cv6, z_cv7, z_g0, z_s0, z_g1, z_s1, z_g2, z_s2, z_g3, z_s3, z_g4, z_s4, z_g5, z_s5, z_g6, z_s6, z_g7, z_s7, z_g8, z_s8, z_g9, z_s9, z_g10, z_s10, z_g11, z_s11, z_g12, z_s12, z_g13, z_s13, z_b0, z_b1, z_b0n, z_b1n, z_up_far1, z_up_far2, z_up_far3, z_up_far4, z_up_far5, z_up_far6, Classical.not_not, not_true_eq_false, z_in, z_inL, Int.cast_ofNat_Int, Nat.reduceLeDiff, List.length_cons, List.length_nil, Nat.reduceAdd, Nat.zero_add, Nat.le_refl, true_and, and_true, List.length, Nat.reduceLT, true_or, or_true, false_or, or_false, false_and, and_false, not_true_eq_false, not_false_eq_true, forall_const, false_implies, true_implies, Int.reduceEq, Int.reduceLT, Int.reduceLE, Int.reduceAdd, Int.reduceSub, Int.reduceMul, Int.reduceNeg, Int.reduceToNat, Int.toNat_natCast, ↓reduceIte, reduceIte, Nat.reduceEqDiff, Nat.reduceSub, Nat.reduceMul, ne_eq, Int.zero_add, Int.add_zero, Int.sub_zero, Nat.add_zero, Int.ofNat_eq_natCast, tX10_next_0, SX10_byteAt, SX10_isLetter, SX10_isFigure, r1, f15, eb, lt, e15, e14, e97]
          repeat' (first | (intro _) | (with_reducible assumption) | (refine And.intro ?_ ?_))
          all_goals first | omega | assumption | (refine z_fin l2 ?_ rfl; first | rfl | omega | (split <;> omega) | (split <;> split <;> omega)) | skip
          all_goals first | exact nx _ | (exfalso; omega)
        · have l2 : ¬ (97 ≤ b q ∧ b q ≤ 122) := by unfold q_let at l; rw [decide_eq_true_eq] at l; exact l
          by_cases w : q_fig (b q) = true
          · have k1 : q_tk b T p = if q + 3 < q_te b T p then 4 else 2 := by unfold q_tk; rw [hts, if_neg nT, if_neg l, if_pos w]
            have e1 : q_end (fun i => q_fig (b i)) q (T - q) = q_te b T p := by unfold q_te; rw [hts, if_neg nT, if_neg l, if_pos w]
            have w2 : 48 ≤ b q ∧ b q ≤ 57 := by unfold q_fig at w; rw [decide_eq_true_eq] at w; exact w
            have nx := fun v => L119 (T - q) q v (z_up τ 89 17 (q : Int)) k1 (by omega) e1 fr (e15 _) f17
            simp only [z_push, z_lpush, z_iload, z_lload, z_aload, z_istore, z_istoreP, z_lstore, z_astore, z_iinc, z_iincP, z_iadd, z_isub, z_imul, z_iaddW, z_isubW, z_imulW, z_idiv, z_irem, z_iand, z_ior, z_ixor, z_ishl, z_ishr, z_iushr, z_ineg, z_i2l, z_i2b, z_i2s, z_i2c, z_l2i, z_ladd, z_lsub, z_land, z_lor, z_lshl, z_lshr, z_lcmp, z_dup, z_pop, z_dup2, z_goto, z_tsw, z_cases, z_geti, z_getr, z_puti, z_putz, z_ald, z_iast, z_bast, z_zast, z_alen, z_acopy, z_mmax, z_mmin, z_mabs, z_mabsL, z_iret, z_zret, z_nret, z_lret, z_aret, z_vret, z_cat, z_ldcs, z_strv, z_strc, z_gcs, z_gfm, z_sln, z_sald, z_ifeq, z_ifne, z_iflt, z_ifge, z_ifgt, z_ifle, z_iceq, z_icne, z_iclt, z_icge, z_icgt, z_icle, z_cs0, z_cs1, z_cs2, z_cs3, z_cs4, z_cs5, z_cs6, z_cs7, z_cv0, z_cv1, z_cv2, z_cv3, z_cv4, z_cv5, z_cv6, z_cv7, z_g0, z_s0, z_g1, z_s1, z_g2, z_s2, z_g3, z_s3, z_g4, z_s4, z_g5, z_s5, z_g6, z_s6, z_g7, z_s7, z_g8, z_s8, z_g9, z_s9, z_g10, z_s10, z_g11, z_s11, z_g12, z_s12, z_g13, z_s13, z_b0, z_b1, z_b0n, z_b1n, z_up_far1, z_up_far2, z_up_far3, z_up_far4, z_up_far5, z_up_far6, Classical.not_not, not_true_eq_false, z_in, z_inL, Int.cast_ofNat_Int, Nat.reduceLeDiff, List.length_cons, List.length_nil, Nat.reduceAdd, Nat.zero_add, Nat.le_refl, true_and, and_true, List.length, Nat.reduceLT, true_or, or_true, false_or, or_false, false_and, and_false, not_true_eq_false, not_false_eq_true, forall_const, false_implies, true_implies, Int.reduceEq, Int.reduceLT, Int.reduceLE, Int.reduceAdd, Int.reduceSub, Int.reduceMul, Int.reduceNeg, Int.reduceToNat, Int.toNat_natCast, ↓reduceIte, reduceIte, Nat.reduceEqDiff, Nat.reduceSub, Nat.reduceMul, ne_eq, Int.zero_add, Int.add_zero, Int.sub_zero, Nat.add_zero, Int.ofNat_eq_natCast, tX10_next_0, SX10_byteAt, SX10_isLetter, SX10_isFigure, r1, f15, eb, lt, e15, e14, e97]
            repeat' (first | (intro _) | (with_reducible assumption) | (refine And.intro ?_ ?_))
            all_goals first | omega | assumption | (refine z_fin w2 ?_ rfl; first | rfl | omega | (split <;> omega) | (split <;> split <;> omega)) | skip
            all_goals first | exact nx _ | (exfalso; omega)
          · have w2 : ¬ (48 ≤ b q ∧ b q ≤ 57) := by unfold q_fig at w; rw [decide_eq_true_eq] at w; exact w
            have k1 : q_tk b T p = if b q = 59 then 3 else 4 := by unfold q_tk; rw [hts, if_neg nT, if_neg l, if_neg w]
            have e1 : q_te b T p = q + 1 := by unfold q_te; rw [hts, if_neg nT, if_neg l, if_neg w]
            have fin : ∀ v, (v = if b q = 59 then 4 else 0) → Ret none (z_up (z_up (z_up (z_up τ 89 17 (q : Int)) 89 15 ((q : Int) + 1)) 89 16 v) 89 18 ((q : Int) + 1)) := by
              intro v hv
              refine h _ (fun c j hc => by rw [z_up_ne (by omega), z_up_ne (by omega), z_up_ne (by omega), z_up_ne (by omega)]; exact f1 c j hc) ⟨by rw [z_up_ne (by omega), z_up_ne (by omega), z_up_eq, e1]; rfl, ?_, by rw [z_up_ne (by omega), z_up_ne (by omega), z_up_ne (by omega), z_up_eq], by rw [z_up_eq, e1]; rfl⟩
              rw [z_up_ne (by omega), z_up_eq, k1, hv]
              by_cases c : b q = 59
              · rw [if_pos c, if_pos c]; rfl
              · rw [if_neg c, if_neg c]; rfl
            have e15c : ∀ v, z_up (z_up (z_up τ 89 17 (q : Int)) 89 15 ((q : Int) + 1)) 89 16 v 89 15 = (q : Int) + 1 := fun v => by rw [z_up_ne (by omega), z_up_eq]
            simp only [z_push, z_lpush, z_iload, z_lload, z_aload, z_istore, z_istoreP, z_lstore, z_astore, z_iinc, z_iincP, z_iadd, z_isub, z_imul, z_iaddW, z_isubW, z_imulW, z_idiv, z_irem, z_iand, z_ior, z_ixor, z_ishl, z_ishr, z_iushr, z_ineg, z_i2l, z_i2b, z_i2s, z_i2c, z_l2i, z_ladd, z_lsub, z_land, z_lor, z_lshl, z_lshr, z_lcmp, z_dup, z_pop, z_dup2, z_goto, z_tsw, z_cases, z_geti, z_getr, z_puti, z_putz, z_ald, z_iast, z_bast, z_zast, z_alen, z_acopy, z_mmax, z_mmin, z_mabs, z_mabsL, z_iret, z_zret, z_nret, z_lret, z_aret, z_vret, z_cat, z_ldcs, z_strv, z_strc, z_gcs, z_gfm, z_sln, z_sald, z_ifeq, z_ifne, z_iflt, z_ifge, z_ifgt, z_ifle, z_iceq, z_icne, z_iclt, z_icge, z_icgt, z_icle, z_cs0, z_cs1, z_cs2, z_cs3, z_cs4, z_cs5, z_cs6, z_cs7, z_cv0, z_cv1, z_cv2, z_cv3, z_cv4, z_cv5, z_cv6, z_cv7, z_g0, z_s0, z_g1, z_s1, z_g2, z_s2, z_g3, z_s3, z_g4, z_s4, z_g5, z_s5, z_g6, z_s6, z_g7, z_s7, z_g8, z_s8, z_g9, z_s9, z_g10, z_s10, z_g11, z_s11, z_g12, z_s12, z_g13, z_s13, z_b0, z_b1, z_b0n, z_b1n, z_up_far1, z_up_far2, z_up_far3, z_up_far4, z_up_far5, z_up_far6, Classical.not_not, not_true_eq_false, z_in, z_inL, Int.cast_ofNat_Int, Nat.reduceLeDiff, List.length_cons, List.length_nil, Nat.reduceAdd, Nat.zero_add, Nat.le_refl, true_and, and_true, List.length, Nat.reduceLT, true_or, or_true, false_or, or_false, false_and, and_false, not_true_eq_false, not_false_eq_true, forall_const, false_implies, true_implies, Int.reduceEq, Int.reduceLT, Int.reduceLE, Int.reduceAdd, Int.reduceSub, Int.reduceMul, Int.reduceNeg, Int.reduceToNat, Int.toNat_natCast, ↓reduceIte, reduceIte, Nat.reduceEqDiff, Nat.reduceSub, Nat.reduceMul, ne_eq, Int.zero_add, Int.add_zero, Int.sub_zero, Nat.add_zero, Int.ofNat_eq_natCast, tX10_next_0, SX10_byteAt, SX10_isLetter, SX10_isFigure, r1, f15, eb, lt, e15, e14, e97, e15c]
            repeat' (first | (intro _) | (with_reducible assumption) | (refine And.intro ?_ ?_))
            all_goals first | omega | assumption | (refine z_fin w2 ?_ rfl; first | rfl | omega | (split <;> omega) | (split <;> split <;> omega)) | skip
            all_goals first | exact fin 4 (by rw [if_pos (by omega)]) | exact fin 0 (by rw [if_neg (by omega)]) | (exfalso; omega)
  refine L0 (T - p) p σ (by omega) ?_ (fun _ _ _ => rfl) hp
  rw [← hts]
  rfl
theorem dX10_next_0 : decode cX10_next 0 = .ok (.aload_n 0, 1) := by decide +kernel
theorem dX10_next_1 : decode cX10_next 1 = .ok (.aload_n 0, 1) := by decide +kernel
theorem dX10_next_2 : decode cX10_next 2 = .ok (.getfield 102, 3) := by decide +kernel
theorem dX10_next_5 : decode cX10_next 5 = .ok (.invokevirtual 105, 3) := by decide +kernel
theorem dX10_next_8 : decode cX10_next 8 = .ok (.bipush 32, 2) := by decide +kernel
theorem dX10_next_10 : decode cX10_next 10 = .ok (.if_icmp .eq 16, 3) := by decide +kernel
theorem dX10_next_13 : decode cX10_next 13 = .ok (.aload_n 0, 1) := by decide +kernel
theorem dX10_next_14 : decode cX10_next 14 = .ok (.aload_n 0, 1) := by decide +kernel
theorem dX10_next_15 : decode cX10_next 15 = .ok (.getfield 102, 3) := by decide +kernel
theorem dX10_next_18 : decode cX10_next 18 = .ok (.invokevirtual 105, 3) := by decide +kernel
theorem dX10_next_21 : decode cX10_next 21 = .ok (.bipush 10, 2) := by decide +kernel
theorem dX10_next_23 : decode cX10_next 23 = .ok (.if_icmp .ne 16, 3) := by decide +kernel
theorem dX10_next_26 : decode cX10_next 26 = .ok (.aload_n 0, 1) := by decide +kernel
theorem dX10_next_27 : decode cX10_next 27 = .ok (.dup, 1) := by decide +kernel
theorem dX10_next_28 : decode cX10_next 28 = .ok (.getfield 102, 3) := by decide +kernel
theorem dX10_next_31 : decode cX10_next 31 = .ok (.iconst 1, 1) := by decide +kernel
theorem dX10_next_32 : decode cX10_next 32 = .ok (.iadd, 1) := by decide +kernel
theorem dX10_next_33 : decode cX10_next 33 = .ok (.putfield 102, 3) := by decide +kernel
theorem dX10_next_36 : decode cX10_next 36 = .ok (.goto (-36), 3) := by decide +kernel
theorem dX10_next_39 : decode cX10_next 39 = .ok (.aload_n 0, 1) := by decide +kernel
theorem dX10_next_40 : decode cX10_next 40 = .ok (.aload_n 0, 1) := by decide +kernel
theorem dX10_next_41 : decode cX10_next 41 = .ok (.getfield 102, 3) := by decide +kernel
theorem dX10_next_44 : decode cX10_next 44 = .ok (.putfield 108, 3) := by decide +kernel
theorem dX10_next_47 : decode cX10_next 47 = .ok (.aload_n 0, 1) := by decide +kernel
theorem dX10_next_48 : decode cX10_next 48 = .ok (.aload_n 0, 1) := by decide +kernel
theorem dX10_next_49 : decode cX10_next 49 = .ok (.getfield 102, 3) := by decide +kernel
theorem dX10_next_52 : decode cX10_next 52 = .ok (.invokevirtual 105, 3) := by decide +kernel
theorem dX10_next_55 : decode cX10_next 55 = .ok (.istore_n 1, 1) := by decide +kernel
theorem dX10_next_56 : decode cX10_next 56 = .ok (.iload_n 1, 1) := by decide +kernel
theorem dX10_next_57 : decode cX10_next 57 = .ok (.ldc 101, 2) := by decide +kernel
theorem dX10_next_59 : decode cX10_next 59 = .ok (.if_icmp .ne 11, 3) := by decide +kernel
theorem dX10_next_62 : decode cX10_next 62 = .ok (.aload_n 0, 1) := by decide +kernel
theorem dX10_next_63 : decode cX10_next 63 = .ok (.iconst 1, 1) := by decide +kernel
theorem dX10_next_64 : decode cX10_next 64 = .ok (.putfield 111, 3) := by decide +kernel
theorem dX10_next_67 : decode cX10_next 67 = .ok (.goto 129, 3) := by decide +kernel
theorem dX10_next_70 : decode cX10_next 70 = .ok (.iload_n 1, 1) := by decide +kernel
theorem dX10_next_71 : decode cX10_next 71 = .ok (.invokestatic 114, 3) := by decide +kernel
theorem dX10_next_74 : decode cX10_next 74 = .ok (.ifCond .eq 38, 3) := by decide +kernel
theorem dX10_next_77 : decode cX10_next 77 = .ok (.aload_n 0, 1) := by decide +kernel
theorem dX10_next_78 : decode cX10_next 78 = .ok (.aload_n 0, 1) := by decide +kernel
theorem dX10_next_79 : decode cX10_next 79 = .ok (.getfield 102, 3) := by decide +kernel
theorem dX10_next_82 : decode cX10_next 82 = .ok (.invokevirtual 105, 3) := by decide +kernel
theorem dX10_next_85 : decode cX10_next 85 = .ok (.invokestatic 114, 3) := by decide +kernel
theorem dX10_next_88 : decode cX10_next 88 = .ok (.ifCond .eq 16, 3) := by decide +kernel
theorem dX10_next_91 : decode cX10_next 91 = .ok (.aload_n 0, 1) := by decide +kernel
theorem dX10_next_92 : decode cX10_next 92 = .ok (.dup, 1) := by decide +kernel
theorem dX10_next_93 : decode cX10_next 93 = .ok (.getfield 102, 3) := by decide +kernel
theorem dX10_next_96 : decode cX10_next 96 = .ok (.iconst 1, 1) := by decide +kernel
theorem dX10_next_97 : decode cX10_next 97 = .ok (.iadd, 1) := by decide +kernel
theorem dX10_next_98 : decode cX10_next 98 = .ok (.putfield 102, 3) := by decide +kernel
theorem dX10_next_101 : decode cX10_next 101 = .ok (.goto (-24), 3) := by decide +kernel
theorem dX10_next_104 : decode cX10_next 104 = .ok (.aload_n 0, 1) := by decide +kernel
theorem dX10_next_105 : decode cX10_next 105 = .ok (.iconst 2, 1) := by decide +kernel
theorem dX10_next_106 : decode cX10_next 106 = .ok (.putfield 111, 3) := by decide +kernel
theorem dX10_next_109 : decode cX10_next 109 = .ok (.goto 87, 3) := by decide +kernel
theorem dX10_next_112 : decode cX10_next 112 = .ok (.iload_n 1, 1) := by decide +kernel
theorem dX10_next_113 : decode cX10_next 113 = .ok (.invokestatic 117, 3) := by decide +kernel
theorem dX10_next_116 : decode cX10_next 116 = .ok (.ifCond .eq 55, 3) := by decide +kernel
theorem dX10_next_119 : decode cX10_next 119 = .ok (.aload_n 0, 1) := by decide +kernel
theorem dX10_next_120 : decode cX10_next 120 = .ok (.aload_n 0, 1) := by decide +kernel
theorem dX10_next_121 : decode cX10_next 121 = .ok (.getfield 102, 3) := by decide +kernel
theorem dX10_next_124 : decode cX10_next 124 = .ok (.invokevirtual 105, 3) := by decide +kernel
theorem dX10_next_127 : decode cX10_next 127 = .ok (.invokestatic 117, 3) := by decide +kernel
theorem dX10_next_130 : decode cX10_next 130 = .ok (.ifCond .eq 16, 3) := by decide +kernel
theorem dX10_next_133 : decode cX10_next 133 = .ok (.aload_n 0, 1) := by decide +kernel
theorem dX10_next_134 : decode cX10_next 134 = .ok (.dup, 1) := by decide +kernel
theorem dX10_next_135 : decode cX10_next 135 = .ok (.getfield 102, 3) := by decide +kernel
theorem dX10_next_138 : decode cX10_next 138 = .ok (.iconst 1, 1) := by decide +kernel
theorem dX10_next_139 : decode cX10_next 139 = .ok (.iadd, 1) := by decide +kernel
theorem dX10_next_140 : decode cX10_next 140 = .ok (.putfield 102, 3) := by decide +kernel
theorem dX10_next_143 : decode cX10_next 143 = .ok (.goto (-24), 3) := by decide +kernel
theorem dX10_next_146 : decode cX10_next 146 = .ok (.aload_n 0, 1) := by decide +kernel
theorem dX10_next_147 : decode cX10_next 147 = .ok (.aload_n 0, 1) := by decide +kernel
theorem dX10_next_148 : decode cX10_next 148 = .ok (.getfield 102, 3) := by decide +kernel
theorem dX10_next_151 : decode cX10_next 151 = .ok (.aload_n 0, 1) := by decide +kernel
theorem dX10_next_152 : decode cX10_next 152 = .ok (.getfield 108, 3) := by decide +kernel
theorem dX10_next_155 : decode cX10_next 155 = .ok (.isub, 1) := by decide +kernel
theorem dX10_next_156 : decode cX10_next 156 = .ok (.iconst 3, 1) := by decide +kernel
theorem dX10_next_157 : decode cX10_next 157 = .ok (.if_icmp .le 7, 3) := by decide +kernel
theorem dX10_next_160 : decode cX10_next 160 = .ok (.iconst 0, 1) := by decide +kernel
theorem dX10_next_161 : decode cX10_next 161 = .ok (.goto 4, 3) := by decide +kernel
theorem dX10_next_164 : decode cX10_next 164 = .ok (.iconst 3, 1) := by decide +kernel
theorem dX10_next_165 : decode cX10_next 165 = .ok (.putfield 111, 3) := by decide +kernel
theorem dX10_next_168 : decode cX10_next 168 = .ok (.goto 28, 3) := by decide +kernel
theorem dX10_next_171 : decode cX10_next 171 = .ok (.aload_n 0, 1) := by decide +kernel
theorem dX10_next_172 : decode cX10_next 172 = .ok (.dup, 1) := by decide +kernel
theorem dX10_next_173 : decode cX10_next 173 = .ok (.getfield 102, 3) := by decide +kernel
theorem dX10_next_176 : decode cX10_next 176 = .ok (.iconst 1, 1) := by decide +kernel
theorem dX10_next_177 : decode cX10_next 177 = .ok (.iadd, 1) := by decide +kernel
theorem dX10_next_178 : decode cX10_next 178 = .ok (.putfield 102, 3) := by decide +kernel
theorem dX10_next_181 : decode cX10_next 181 = .ok (.aload_n 0, 1) := by decide +kernel
theorem dX10_next_182 : decode cX10_next 182 = .ok (.iload_n 1, 1) := by decide +kernel
theorem dX10_next_183 : decode cX10_next 183 = .ok (.bipush 59, 2) := by decide +kernel
theorem dX10_next_185 : decode cX10_next 185 = .ok (.if_icmp .ne 7, 3) := by decide +kernel
theorem dX10_next_188 : decode cX10_next 188 = .ok (.iconst 4, 1) := by decide +kernel
theorem dX10_next_189 : decode cX10_next 189 = .ok (.goto 4, 3) := by decide +kernel
theorem dX10_next_192 : decode cX10_next 192 = .ok (.iconst 0, 1) := by decide +kernel
theorem dX10_next_193 : decode cX10_next 193 = .ok (.putfield 111, 3) := by decide +kernel
theorem dX10_next_196 : decode cX10_next 196 = .ok (.aload_n 0, 1) := by decide +kernel
theorem dX10_next_197 : decode cX10_next 197 = .ok (.aload_n 0, 1) := by decide +kernel
theorem dX10_next_198 : decode cX10_next 198 = .ok (.getfield 102, 3) := by decide +kernel
theorem dX10_next_201 : decode cX10_next 201 = .ok (.putfield 120, 3) := by decide +kernel
theorem dX10_next_204 : decode cX10_next 204 = .ok (.return_, 1) := by decide +kernel
set_option maxRecDepth 100000 in
theorem rX10_next_0 {p : Program} {l : Launch} {e : Env} {s : State} {m : MethodId} {args : Array Value} {below : List Frame} {meth : Method} {c : Code} {D : va_G} {cA : Nat → ClassId} {ad : Nat → Nat} {Ret : zR} (C : z_Cx p { frames := 1, cells := 0, slots := 0, locals := 21 } s m args c cX10_next yX10_next.cls 2 D cA ad) (hr : meth.sig.returnType = none) (hlocks : meth.locks = false) : ∀ L st σ, tX10_next_0 (z_X p l e { frames := 1, cells := 0, slots := 0, locals := 21 } s m args below meth c (MQ below (z_Qc D cA ad Ret) args s 0 0 (z_A ad)) 2 D cA ad true) Ret L st σ → z_X p l e { frames := 1, cells := 0, slots := 0, locals := 21 } s m args below meth c (MQ below (z_Qc D cA ad Ret) args s 0 0 (z_A ad)) 2 D cA ad true 0 L st σ := (s_aload_n C dX10_next_0 rfl (s_aload_n C dX10_next_1 rfl (s_geti C dX10_next_2 cls_X10 (by decide) rfl wd_983 (s_cv1 C dX10_next_5 (okX10_byteAt l) cls_X10 wd_1123 wd_1125 wd_38 wd_85 wd_1126 ⟨by decide, by decide, by decide +kernel⟩ ⟨by decide, by decide⟩ (s_bipush C dX10_next_8 rfl ⟨by decide, by decide⟩ (s_iceq C dX10_next_10 (by decide) (s_aload_n C dX10_next_26 rfl (s_dup C dX10_next_27 (s_geti C dX10_next_28 cls_X10 (by decide) rfl wd_983 (s_iconst C dX10_next_31 rfl ⟨by decide, by decide⟩ (s_iadd C dX10_next_32 (s_puti C dX10_next_33 cls_X10 (by decide) rfl wd_983 rfl rfl (s_goto C dX10_next_36 (by decide) (fun _ _ _ h => h)))))))) (s_aload_n C dX10_next_13 rfl (s_aload_n C dX10_next_14 rfl (s_geti C dX10_next_15 cls_X10 (by decide) rfl wd_983 (s_cv1 C dX10_next_18 (okX10_byteAt l) cls_X10 wd_1123 wd_1125 wd_38 wd_85 wd_1126 ⟨by decide, by decide, by decide +kernel⟩ ⟨by decide, by decide⟩ (s_bipush C dX10_next_21 rfl ⟨by decide, by decide⟩ (s_icne C dX10_next_23 (by decide) (s_aload_n C dX10_next_39 rfl (s_aload_n C dX10_next_40 rfl (s_geti C dX10_next_41 cls_X10 (by decide) rfl wd_983 (s_puti C dX10_next_44 cls_X10 (by decide) rfl wd_985 rfl rfl (s_aload_n C dX10_next_47 rfl (s_aload_n C dX10_next_48 rfl (s_geti C dX10_next_49 cls_X10 (by decide) rfl wd_983 (s_cv1 C dX10_next_52 (okX10_byteAt l) cls_X10 wd_1123 wd_1125 wd_38 wd_85 wd_1126 ⟨by decide, by decide, by decide +kernel⟩ ⟨by decide, by decide⟩ (s_istore_n C dX10_next_55 (by decide) rfl rfl (s_iload_n C dX10_next_56 rfl (s_ldc C dX10_next_57 (v := -1000000) wd_1127 ⟨by decide, by decide⟩ (s_icne C dX10_next_59 (by decide) (s_iload_n C dX10_next_70 rfl (s_cs1 C dX10_next_71 (okX10_isLetter l) wd_1128 wd_1129 wd_85 wd_1130 ⟨by decide, by decide, by decide +kernel⟩ ⟨by decide, by decide⟩ (s_ifeq C dX10_next_74 (by decide) (s_iload_n C dX10_next_112 rfl (s_cs1 C dX10_next_113 (okX10_isFigure l) wd_1131 wd_1132 wd_85 wd_1133 ⟨by decide, by decide, by decide +kernel⟩ ⟨by decide, by decide⟩ (s_ifeq C dX10_next_116 (by decide) (s_aload_n C dX10_next_171 rfl (s_dup C dX10_next_172 (s_geti C dX10_next_173 cls_X10 (by decide) rfl wd_983 (s_iconst C dX10_next_176 rfl ⟨by decide, by decide⟩ (s_iadd C dX10_next_177 (s_puti C dX10_next_178 cls_X10 (by decide) rfl wd_983 rfl rfl (s_aload_n C dX10_next_181 rfl (s_iload_n C dX10_next_182 rfl (s_bipush C dX10_next_183 rfl ⟨by decide, by decide⟩ (s_icne C dX10_next_185 (by decide) (s_iconst C dX10_next_192 rfl ⟨by decide, by decide⟩ (s_puti C dX10_next_193 cls_X10 (by decide) rfl wd_984 rfl rfl (s_aload_n C dX10_next_196 rfl (s_aload_n C dX10_next_197 rfl (s_geti C dX10_next_198 cls_X10 (by decide) rfl wd_983 (s_puti C dX10_next_201 cls_X10 (by decide) rfl wd_986 rfl rfl (s_vret C dX10_next_204 hr hlocks))))))) (s_iconst C dX10_next_188 rfl ⟨by decide, by decide⟩ (s_goto C dX10_next_189 (by decide) (s_puti C dX10_next_193 cls_X10 (by decide) rfl wd_984 rfl rfl (s_aload_n C dX10_next_196 rfl (s_aload_n C dX10_next_197 rfl (s_geti C dX10_next_198 cls_X10 (by decide) rfl wd_983 (s_puti C dX10_next_201 cls_X10 (by decide) rfl wd_986 rfl rfl (s_vret C dX10_next_204 hr hlocks)))))))))))))))))) (fun _ _ _ h => h)))) (fun _ _ _ h => h)))) (s_aload_n C dX10_next_62 rfl (s_iconst C dX10_next_63 rfl ⟨by decide, by decide⟩ (s_puti C dX10_next_64 cls_X10 (by decide) rfl wd_984 rfl rfl (s_goto C dX10_next_67 (by decide) (s_aload_n C dX10_next_196 rfl (s_aload_n C dX10_next_197 rfl (s_geti C dX10_next_198 cls_X10 (by decide) rfl wd_983 (s_puti C dX10_next_201 cls_X10 (by decide) rfl wd_986 rfl rfl (s_vret C dX10_next_204 hr hlocks))))))))))))))))))))) (s_aload_n C dX10_next_26 rfl (s_dup C dX10_next_27 (s_geti C dX10_next_28 cls_X10 (by decide) rfl wd_983 (s_iconst C dX10_next_31 rfl ⟨by decide, by decide⟩ (s_iadd C dX10_next_32 (s_puti C dX10_next_33 cls_X10 (by decide) rfl wd_983 rfl rfl (s_goto C dX10_next_36 (by decide) (fun _ _ _ h => h))))))))))))))))))))
set_option maxRecDepth 100000 in
theorem rX10_next_77 {p : Program} {l : Launch} {e : Env} {s : State} {m : MethodId} {args : Array Value} {below : List Frame} {meth : Method} {c : Code} {D : va_G} {cA : Nat → ClassId} {ad : Nat → Nat} {Ret : zR} (C : z_Cx p { frames := 1, cells := 0, slots := 0, locals := 21 } s m args c cX10_next yX10_next.cls 2 D cA ad) (hr : meth.sig.returnType = none) (hlocks : meth.locks = false) : ∀ L st σ, tX10_next_77 (z_X p l e { frames := 1, cells := 0, slots := 0, locals := 21 } s m args below meth c (MQ below (z_Qc D cA ad Ret) args s 0 0 (z_A ad)) 2 D cA ad true) Ret L st σ → z_X p l e { frames := 1, cells := 0, slots := 0, locals := 21 } s m args below meth c (MQ below (z_Qc D cA ad Ret) args s 0 0 (z_A ad)) 2 D cA ad true 77 L st σ := (s_aload_n C dX10_next_77 rfl (s_aload_n C dX10_next_78 rfl (s_geti C dX10_next_79 cls_X10 (by decide) rfl wd_983 (s_cv1 C dX10_next_82 (okX10_byteAt l) cls_X10 wd_1123 wd_1125 wd_38 wd_85 wd_1126 ⟨by decide, by decide, by decide +kernel⟩ ⟨by decide, by decide⟩ (s_cs1 C dX10_next_85 (okX10_isLetter l) wd_1128 wd_1129 wd_85 wd_1130 ⟨by decide, by decide, by decide +kernel⟩ ⟨by decide, by decide⟩ (s_ifeq C dX10_next_88 (by decide) (s_aload_n C dX10_next_104 rfl (s_iconst C dX10_next_105 rfl ⟨by decide, by decide⟩ (s_puti C dX10_next_106 cls_X10 (by decide) rfl wd_984 rfl rfl (s_goto C dX10_next_109 (by decide) (s_aload_n C dX10_next_196 rfl (s_aload_n C dX10_next_197 rfl (s_geti C dX10_next_198 cls_X10 (by decide) rfl wd_983 (s_puti C dX10_next_201 cls_X10 (by decide) rfl wd_986 rfl rfl (s_vret C dX10_next_204 hr hlocks))))))))) (s_aload_n C dX10_next_91 rfl (s_dup C dX10_next_92 (s_geti C dX10_next_93 cls_X10 (by decide) rfl wd_983 (s_iconst C dX10_next_96 rfl ⟨by decide, by decide⟩ (s_iadd C dX10_next_97 (s_puti C dX10_next_98 cls_X10 (by decide) rfl wd_983 rfl rfl (s_goto C dX10_next_101 (by decide) (fun _ _ _ h => h))))))))))))))
set_option maxRecDepth 100000 in
theorem rX10_next_119 {p : Program} {l : Launch} {e : Env} {s : State} {m : MethodId} {args : Array Value} {below : List Frame} {meth : Method} {c : Code} {D : va_G} {cA : Nat → ClassId} {ad : Nat → Nat} {Ret : zR} (C : z_Cx p { frames := 1, cells := 0, slots := 0, locals := 21 } s m args c cX10_next yX10_next.cls 2 D cA ad) (hr : meth.sig.returnType = none) (hlocks : meth.locks = false) : ∀ L st σ, tX10_next_119 (z_X p l e { frames := 1, cells := 0, slots := 0, locals := 21 } s m args below meth c (MQ below (z_Qc D cA ad Ret) args s 0 0 (z_A ad)) 2 D cA ad true) Ret L st σ → z_X p l e { frames := 1, cells := 0, slots := 0, locals := 21 } s m args below meth c (MQ below (z_Qc D cA ad Ret) args s 0 0 (z_A ad)) 2 D cA ad true 119 L st σ := (s_aload_n C dX10_next_119 rfl (s_aload_n C dX10_next_120 rfl (s_geti C dX10_next_121 cls_X10 (by decide) rfl wd_983 (s_cv1 C dX10_next_124 (okX10_byteAt l) cls_X10 wd_1123 wd_1125 wd_38 wd_85 wd_1126 ⟨by decide, by decide, by decide +kernel⟩ ⟨by decide, by decide⟩ (s_cs1 C dX10_next_127 (okX10_isFigure l) wd_1131 wd_1132 wd_85 wd_1133 ⟨by decide, by decide, by decide +kernel⟩ ⟨by decide, by decide⟩ (s_ifeq C dX10_next_130 (by decide) (s_aload_n C dX10_next_146 rfl (s_aload_n C dX10_next_147 rfl (s_geti C dX10_next_148 cls_X10 (by decide) rfl wd_983 (s_aload_n C dX10_next_151 rfl (s_geti C dX10_next_152 cls_X10 (by decide) rfl wd_985 (s_isub C dX10_next_155 (s_iconst C dX10_next_156 rfl ⟨by decide, by decide⟩ (s_icle C dX10_next_157 (by decide) (s_iconst C dX10_next_164 rfl ⟨by decide, by decide⟩ (s_puti C dX10_next_165 cls_X10 (by decide) rfl wd_984 rfl rfl (s_goto C dX10_next_168 (by decide) (s_aload_n C dX10_next_196 rfl (s_aload_n C dX10_next_197 rfl (s_geti C dX10_next_198 cls_X10 (by decide) rfl wd_983 (s_puti C dX10_next_201 cls_X10 (by decide) rfl wd_986 rfl rfl (s_vret C dX10_next_204 hr hlocks)))))))) (s_iconst C dX10_next_160 rfl ⟨by decide, by decide⟩ (s_goto C dX10_next_161 (by decide) (s_puti C dX10_next_165 cls_X10 (by decide) rfl wd_984 rfl rfl (s_goto C dX10_next_168 (by decide) (s_aload_n C dX10_next_196 rfl (s_aload_n C dX10_next_197 rfl (s_geti C dX10_next_198 cls_X10 (by decide) rfl wd_983 (s_puti C dX10_next_201 cls_X10 (by decide) rfl wd_986 rfl rfl (s_vret C dX10_next_204 hr hlocks))))))))))))))))) (s_aload_n C dX10_next_133 rfl (s_dup C dX10_next_134 (s_geti C dX10_next_135 cls_X10 (by decide) rfl wd_983 (s_iconst C dX10_next_138 rfl ⟨by decide, by decide⟩ (s_iadd C dX10_next_139 (s_puti C dX10_next_140 cls_X10 (by decide) rfl wd_983 rfl rfl (s_goto C dX10_next_143 (by decide) (fun _ _ _ h => h))))))))))))))
theorem okX10_next (l : Launch) : z_OK l yX10_next cX10_next 2 none 1 21 SX10_next := by
  refine z_ok_of true (by decide +kernel) ?_ ?_
  · intro as σ Ret h
    obtain ⟨k0, rfl⟩ := pX10_next h
    exact ⟨Nat.le_of_ble_eq_true rfl, by simp⟩
  · intro p e s m args below meth c D cA ad Ret C hr hlocks as σ has hσ h
    obtain ⟨k0, rfl⟩ := pX10_next h
    exact vX10_next (rX10_next_0 C hr hlocks) (rX10_next_77 C hr hlocks) (rX10_next_119 C hr hlocks) k0 σ (has _ (List.mem_of_getElem? (i := 0) rfl)) hσ h
