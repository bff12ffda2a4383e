def w_hr (τ : zM) (k : Nat) (l : List Nat) (tn : Nat → Int) : Prop := τ k 63 = (l.length : Int) ∧ ∀ j, j < l.length → τ k j = tn (l.getD j 0)
theorem w_hr_snoc {τ : zM} {k : Nat} {l : List Nat} {tn : Nat → Int} (x : Nat) (v : Int) (hl : l.length ≤ 12) (h : w_hr τ k l tn) : w_hr (z_up (z_up (z_up τ k l.length (tn x)) k (20 + l.length) v) k 63 ((l.length : Int) + 1)) k (l ++ [x]) tn := by
  obtain ⟨h1, h2⟩ := h
  refine ⟨?_, fun j hj => ?_⟩
  · rw [z_up_eq, List.length_append]; rfl
  · rw [List.length_append, List.length_singleton] at hj
    rw [z_up_ne (by omega), z_up_ne (by omega)]
    by_cases e : j = l.length
    · subst e
      rw [z_up_eq, List.getD_eq_getElem?_getD, List.getElem?_append_right (Nat.le_refl _), Nat.sub_self]
      rfl
    · rw [z_up_ne (by omega), h2 j (by omega), List.getD_eq_getElem?_getD, List.getD_eq_getElem?_getD, List.getElem?_append_left (by omega)]
theorem w_t_ek {σ σ' : zM} {k a : Nat} {D : Nat → Int} (h : w_t σ k D) (e : w_ek a σ σ') (n : k ≠ a) : w_t σ' k D := by
  unfold w_t at *
  rw [e k n]
  exact h
theorem w_ek.up {σ τ : zM} {k : Nat} (h : w_ek k σ τ) (i : Nat) (v : Int) : w_ek k σ (z_up τ k i v) := fun c hc => by
  rw [show z_up τ k i v c = τ c from funext fun j => z_up_ne (Or.inl hc)]
  exact h c hc
def SL_hears (zx : zX) : zS := fun as σ Ret => match as with
  | [.inr (.inr (252, 0, _)), .inr (.inr (100, 64, kt)), .inl w, .inr (.inr (100, 64, ka))] => ∃ D, (w_ok zx D ∧ w_t σ kt D ∧ kt ≠ ka) ∧ (0 ≤ w ∧ w < D 1) ∧ ∀ σ', w_ek ka σ σ' → w_hr σ' ka (q_lsD D w.toNat) (q_tnD D) → Ret none σ'
  | _ => False
def tL_hears_0 (zx : zX) (X : Nat → zB) (Ret : zR) (L : zL) (st : List zV) (σ : zM) : Prop := (z_aload 3 (z_push 63 (z_push 0 (z_iast (z_push 0 (z_istore 4 (X 8))))))) L st σ
def tL_hears_8 (zx : zX) (X : Nat → zB) (Ret : zR) (L : zL) (st : List zV) (σ : zM) : Prop := (z_iload 4 (z_aload 0 (z_cs1 (SL_trees zx) (z_icge (z_vret Ret) (z_aload 0 (z_aload 1 (z_iload 2 (z_iload 4 (z_cs4 (SL_sounds zx) (z_ifeq (z_iinc 4 1 (z_goto (X 8))) (z_aload 3 (z_aload 3 (z_push 63 (z_ald 0 (z_aload 1 (z_iload 4 (z_cs2 (SL_tone zx) (z_iast (z_aload 3 (z_push 20 (z_aload 3 (z_push 63 (z_ald 0 (z_iadd (z_iload 4 (z_iast (z_aload 3 (z_push 63 (z_dup2 (z_ald 0 (z_push 1 (z_iadd (z_iast (z_iinc 4 1 (z_goto (X 8)))))))))))))))))))))))))))))))))))) L st σ
theorem pL_hears {zx : zX} {as : List zV} {σ : zM} {Ret : zR} (h : (SL_hears zx) as σ Ret) : ∃ (k1 : Nat) (k2 : Nat) (x3 : Int) (k4 : Nat), as = [.inr (.inr (252, 0, k1)), .inr (.inr (100, 64, k2)), .inl x3, .inr (.inr (100, 64, k4))] := by
  unfold SL_hears at h
  split at h
  · exact ⟨_, _, _, _, rfl⟩
  · exact h.elim
set_option maxRecDepth 10000 in
set_option maxHeartbeats 4000000 in
theorem vL_hears {zx : zX} {X : Nat → zB} {Ret : zR} (h0 : ∀ L st σ, tL_hears_0 zx X Ret L st σ → X 0 L st σ) (h8 : ∀ L st σ, tL_hears_8 zx X Ret L st σ → X 8 L st σ) (k1 : Nat) (k2 : Nat) (x3 : Int) (k4 : Nat) (σ : zM) (hk1 : z_kd k1 = (252, 0)) (hk2 : z_kd k2 = (100, 64)) (hx3 : -2147483648 ≤ x3 ∧ x3 ≤ 2147483647) (hk4 : z_kd k4 = (100, 64)) (hσ : z_okm σ) (h : (SL_hears zx) [.inr (.inr (252, 0, k1)), .inr (.inr (100, 64, k2)), .inl x3, .inr (.inr (100, 64, k4))] σ Ret) : X 0 [some (.inr (.inr (252, 0, k1))), some (.inr (.inr (100, 64, k2))), some (.inl x3), some (.inr (.inr (100, 64, k4))), none] [] σ := by
  obtain ⟨D, ⟨ok, tt, ne⟩, ⟨c1, c2⟩, h⟩ := h
  obtain ⟨w, rfl⟩ := z_nat c1
  rw [Int.toNat_natCast] at h
  have n0 := ok.2.1.1
  have nt := w_nt_in zx
  obtain ⟨n, hn⟩ := z_nat (show 0 ≤ w_nt zx by omega)
  have lp : ∀ (d i : Nat) (τ : zM), i + d = n → w_ek k4 σ τ → w_hr τ k4 (q_ls (q_sdD D w) i) (q_tnD D) → X 8 [some (.inr (.inr (252, 0, k1))), some (.inr (.inr (100, 64, k2))), some (.inl (w : Int)), some (.inr (.inr (100, 64, k4))), some (.inl (i : Int))] [] τ := by
    intro d
    induction d with
    | zero =>
      intro i τ hi f r
      refine h8 _ _ _ ?_
      simp only [z_push, z_lpush, z_iload, z_lload, z_aload, z_istore, z_istoreP, z_lstore, z_astore, z_iinc, z_iincP, z_iadd, z_isub, z_imul, z_iaddW, z_isubW, z_imulW, z_idiv, z_irem, z_iand, z_ior, z_ixor, z_ishl, z_ishr, z_iushr, z_ineg, z_i2l, z_i2b, z_i2s, z_i2c, z_l2i, z_ladd, z_lsub, z_land, z_lor, z_lshl, z_lshr, z_lcmp, z_dup, z_pop, z_dup2, z_goto, z_tsw, z_cases, z_geti, z_getr, z_puti, z_putz, z_ald, z_iast, z_bast, z_zast, z_alen, z_acopy, z_mmax, z_mmin, z_mabs, z_mabsL, z_iret, z_zret, z_nret, z_lret, z_aret, z_vret, z_cat, z_xald, z_xlen, z_ldcs, z_strv, z_strc, z_gcs, z_gfm, z_sln, z_sald, z_ifeq, z_ifne, z_iflt, z_ifge, z_ifgt, z_ifle, z_iceq, z_icne, z_iclt, z_icge, z_icgt, z_icle, z_cs0, z_cs1, z_cs2, z_cs3, z_cs4, z_cs5, z_cs6, z_cs7, z_cv0, z_cv1, z_cv2, z_cv3, z_cv4, z_cv5, z_cv6, z_cv7, z_g0, z_s0, z_g1, z_s1, z_g2, z_s2, z_g3, z_s3, z_g4, z_s4, z_g5, z_s5, z_g6, z_s6, z_g7, z_s7, z_g8, z_s8, z_g9, z_s9, z_g10, z_s10, z_g11, z_s11, z_g12, z_s12, z_g13, z_s13, z_b0, z_b1, z_b0n, z_b1n, z_up_far1, z_up_far2, z_up_far3, z_up_far4, z_up_far5, z_up_far6, Classical.not_not, not_true_eq_false, z_in, z_inL, Int.cast_ofNat_Int, Nat.reduceLeDiff, List.length_cons, List.length_nil, Nat.reduceAdd, Nat.zero_add, Nat.le_refl, true_and, and_true, List.length, Nat.reduceLT, true_or, or_true, false_or, or_false, false_and, and_false, not_true_eq_false, not_false_eq_true, forall_const, false_implies, true_implies, Int.reduceEq, Int.reduceLT, Int.reduceLE, Int.reduceAdd, Int.reduceSub, Int.reduceMul, Int.reduceNeg, Int.reduceToNat, Int.toNat_natCast, ↓reduceIte, reduceIte, Nat.reduceEqDiff, Nat.reduceSub, Nat.reduceMul, ne_eq, Int.zero_add, Int.add_zero, Int.sub_zero, Nat.add_zero, Int.ofNat_eq_natCast, tL_hears_8, SL_trees, hn]
      refine ⟨fun _ => h τ f ?_, fun q => by omega⟩
      unfold q_lsD
      rw [n0, hn, Int.toNat_natCast, show n = i by omega]
      exact r
    | succ d ih =>
      intro i τ hi f r
      have ll := q_ls_len (q_sdD D w) i
      obtain ⟨m, hm⟩ : ∃ m : Nat, m = (q_ls (q_sdD D w) i).length := ⟨_, rfl⟩
      have r63 : τ k4 63 = (m : Int) := by rw [hm]; exact r.1
      have z1 : ∀ (σ : zM) v, z_up σ k4 m v k4 63 = σ k4 63 := fun σ v => z_up_ne (by omega)
      have z2 : ∀ (σ : zM) v, z_up σ k4 (20 + m) v k4 63 = σ k4 63 := fun σ v => z_up_ne (by omega)
      have e20 : (20 + (m : Int)).toNat = 20 + m := by omega
      have tn := q_tnD_in ok.1 (t := i) (by omega)
      refine h8 _ _ _ ?_
      simp only [z_push, z_lpush, z_iload, z_lload, z_aload, z_istore, z_istoreP, z_lstore, z_astore, z_iinc, z_iincP, z_iadd, z_isub, z_imul, z_iaddW, z_isubW, z_imulW, z_idiv, z_irem, z_iand, z_ior, z_ixor, z_ishl, z_ishr, z_iushr, z_ineg, z_i2l, z_i2b, z_i2s, z_i2c, z_l2i, z_ladd, z_lsub, z_land, z_lor, z_lshl, z_lshr, z_lcmp, z_dup, z_pop, z_dup2, z_goto, z_tsw, z_cases, z_geti, z_getr, z_puti, z_putz, z_ald, z_iast, z_bast, z_zast, z_alen, z_acopy, z_mmax, z_mmin, z_mabs, z_mabsL, z_iret, z_zret, z_nret, z_lret, z_aret, z_vret, z_cat, z_xald, z_xlen, z_ldcs, z_strv, z_strc, z_gcs, z_gfm, z_sln, z_sald, z_ifeq, z_ifne, z_iflt, z_ifge, z_ifgt, z_ifle, z_iceq, z_icne, z_iclt, z_icge, z_icgt, z_icle, z_cs0, z_cs1, z_cs2, z_cs3, z_cs4, z_cs5, z_cs6, z_cs7, z_cv0, z_cv1, z_cv2, z_cv3, z_cv4, z_cv5, z_cv6, z_cv7, z_g0, z_s0, z_g1, z_s1, z_g2, z_s2, z_g3, z_s3, z_g4, z_s4, z_g5, z_s5, z_g6, z_s6, z_g7, z_s7, z_g8, z_s8, z_g9, z_s9, z_g10, z_s10, z_g11, z_s11, z_g12, z_s12, z_g13, z_s13, z_b0, z_b1, z_b0n, z_b1n, z_up_far1, z_up_far2, z_up_far3, z_up_far4, z_up_far5, z_up_far6, Classical.not_not, not_true_eq_false, z_in, z_inL, Int.cast_ofNat_Int, Nat.reduceLeDiff, List.length_cons, List.length_nil, Nat.reduceAdd, Nat.zero_add, Nat.le_refl, true_and, and_true, List.length, Nat.reduceLT, true_or, or_true, false_or, or_false, false_and, and_false, not_true_eq_false, not_false_eq_true, forall_const, false_implies, true_implies, Int.reduceEq, Int.reduceLT, Int.reduceLE, Int.reduceAdd, Int.reduceSub, Int.reduceMul, Int.reduceNeg, Int.reduceToNat, Int.toNat_natCast, ↓reduceIte, reduceIte, Nat.reduceEqDiff, Nat.reduceSub, Nat.reduceMul, ne_eq, Int.zero_add, Int.add_zero, Int.sub_zero, Nat.add_zero, Int.ofNat_eq_natCast, tL_hears_8, SL_trees, SL_sounds, SL_tone, hn, r63, z1, z2, e20]
      refine ⟨fun q => by omega, fun _ => ?_⟩
      refine ⟨D, ⟨ok, w_t_ek tt f ne⟩, ⟨⟨by omega, by omega⟩, by omega, by omega⟩, fun q => ?_, fun q => ?_⟩
      · have hs : ¬ q_sdD D w i = true := q
        refine ⟨by omega, ih (i + 1) τ (by omega) f ?_⟩
        rw [q_ls, if_neg hs]
        exact r
      · have hs : q_sdD D w i = true := q
        have sn := w_hr_snoc i i (by omega) r
        rw [← hm] at sn
        refine fun _ => ⟨D, ok.1, by omega, w_t_ek tt f ne, by omega, by omega, fun _ => ⟨by omega, by omega, fun _ => ⟨by omega, by omega, ?_⟩⟩⟩
        refine ih (i + 1) _ (by omega) (((f.up _ _).up _ _).up _ _) ?_
        rw [q_ls, if_pos hs]
        exact sn
  refine h0 _ _ _ ?_
  simp only [z_push, z_lpush, z_iload, z_lload, z_aload, z_istore, z_istoreP, z_lstore, z_astore, z_iinc, z_iincP, z_iadd, z_isub, z_imul, z_iaddW, z_isubW, z_imulW, z_idiv, z_irem, z_iand, z_ior, z_ixor, z_ishl, z_ishr, z_iushr, z_ineg, z_i2l, z_i2b, z_i2s, z_i2c, z_l2i, z_ladd, z_lsub, z_land, z_lor, z_lshl, z_lshr, z_lcmp, z_dup, z_pop, z_dup2, z_goto, z_tsw, z_cases, z_geti, z_getr, z_puti, z_putz, z_ald, z_iast, z_bast, z_zast, z_alen, z_acopy, z_mmax, z_mmin, z_mabs, z_mabsL, z_iret, z_zret, z_nret, z_lret, z_aret, z_vret, z_cat, z_xald, z_xlen, z_ldcs, z_strv, z_strc, z_gcs, z_gfm, z_sln, z_sald, z_ifeq, z_ifne, z_iflt, z_ifge, z_ifgt, z_ifle, z_iceq, z_icne, z_iclt, z_icge, z_icgt, z_icle, z_cs0, z_cs1, z_cs2, z_cs3, z_cs4, z_cs5, z_cs6, z_cs7, z_cv0, z_cv1, z_cv2, z_cv3, z_cv4, z_cv5, z_cv6, z_cv7, z_g0, z_s0, z_g1, z_s1, z_g2, z_s2, z_g3, z_s3, z_g4, z_s4, z_g5, z_s5, z_g6, z_s6, z_g7, z_s7, z_g8, z_s8, z_g9, z_s9, z_g10, z_s10, z_g11, z_s11, z_g12, z_s12, z_g13, z_s13, z_b0, z_b1, z_b0n, z_b1n, z_up_far1, z_up_far2, z_up_far3, z_up_far4, z_up_far5, z_up_far6, Classical.not_not, not_true_eq_false, z_in, z_inL, Int.cast_ofNat_Int, Nat.reduceLeDiff, List.length_cons, List.length_nil, Nat.reduceAdd, Nat.zero_add, Nat.le_refl, true_and, and_true, List.length, Nat.reduceLT, true_or, or_true, false_or, or_false, false_and, and_false, not_true_eq_false, not_false_eq_true, forall_const, false_implies, true_implies, Int.reduceEq, Int.reduceLT, Int.reduceLE, Int.reduceAdd, Int.reduceSub, Int.reduceMul, Int.reduceNeg, Int.reduceToNat, Int.toNat_natCast, ↓reduceIte, reduceIte, Nat.reduceEqDiff, Nat.reduceSub, Nat.reduceMul, ne_eq, Int.zero_add, Int.add_zero, Int.sub_zero, Nat.add_zero, Int.ofNat_eq_natCast, tL_hears_0]
  refine lp n 0 _ (by omega) ?_ ⟨?_, fun j hj => absurd hj (Nat.not_lt_zero _)⟩
  · exact w_ek.up (fun _ _ => rfl) _ _
  · rw [z_up_eq]; rfl
theorem dL_hears_0 : decode cL_hears 0 = .ok (.aload_n 3, 1) := by decide +kernel
theorem dL_hears_1 : decode cL_hears 1 = .ok (.bipush 63, 2) := by decide +kernel
theorem dL_hears_3 : decode cL_hears 3 = .ok (.iconst 0, 1) := by decide +kernel
theorem dL_hears_4 : decode cL_hears 4 = .ok (.iastore, 1) := by decide +kernel
theorem dL_hears_5 : decode cL_hears 5 = .ok (.iconst 0, 1) := by decide +kernel
theorem dL_hears_6 : decode cL_hears 6 = .ok (.istore 4, 2) := by decide +kernel
theorem dL_hears_8 : decode cL_hears 8 = .ok (.iload 4, 2) := by decide +kernel
theorem dL_hears_10 : decode cL_hears 10 = .ok (.aload_n 0, 1) := by decide +kernel
theorem dL_hears_11 : decode cL_hears 11 = .ok (.invokestatic 27, 3) := by decide +kernel
theorem dL_hears_14 : decode cL_hears 14 = .ok (.if_icmp .ge 51, 3) := by decide +kernel
theorem dL_hears_17 : decode cL_hears 17 = .ok (.aload_n 0, 1) := by decide +kernel
theorem dL_hears_18 : decode cL_hears 18 = .ok (.aload_n 1, 1) := by decide +kernel
theorem dL_hears_19 : decode cL_hears 19 = .ok (.iload_n 2, 1) := by decide +kernel
theorem dL_hears_20 : decode cL_hears 20 = .ok (.iload 4, 2) := by decide +kernel
theorem dL_hears_22 : decode cL_hears 22 = .ok (.invokestatic 71, 3) := by decide +kernel
theorem dL_hears_25 : decode cL_hears 25 = .ok (.ifCond .eq 34, 3) := by decide +kernel
theorem dL_hears_28 : decode cL_hears 28 = .ok (.aload_n 3, 1) := by decide +kernel
theorem dL_hears_29 : decode cL_hears 29 = .ok (.aload_n 3, 1) := by decide +kernel
theorem dL_hears_30 : decode cL_hears 30 = .ok (.bipush 63, 2) := by decide +kernel
theorem dL_hears_32 : decode cL_hears 32 = .ok (.iaload, 1) := by decide +kernel
theorem dL_hears_33 : decode cL_hears 33 = .ok (.aload_n 1, 1) := by decide +kernel
theorem dL_hears_34 : decode cL_hears 34 = .ok (.iload 4, 2) := by decide +kernel
theorem dL_hears_36 : decode cL_hears 36 = .ok (.invokestatic 75, 3) := by decide +kernel
theorem dL_hears_39 : decode cL_hears 39 = .ok (.iastore, 1) := by decide +kernel
theorem dL_hears_40 : decode cL_hears 40 = .ok (.aload_n 3, 1) := by decide +kernel
theorem dL_hears_41 : decode cL_hears 41 = .ok (.bipush 20, 2) := by decide +kernel
theorem dL_hears_43 : decode cL_hears 43 = .ok (.aload_n 3, 1) := by decide +kernel
theorem dL_hears_44 : decode cL_hears 44 = .ok (.bipush 63, 2) := by decide +kernel
theorem dL_hears_46 : decode cL_hears 46 = .ok (.iaload, 1) := by decide +kernel
theorem dL_hears_47 : decode cL_hears 47 = .ok (.iadd, 1) := by decide +kernel
theorem dL_hears_48 : decode cL_hears 48 = .ok (.iload 4, 2) := by decide +kernel
theorem dL_hears_50 : decode cL_hears 50 = .ok (.iastore, 1) := by decide +kernel
theorem dL_hears_51 : decode cL_hears 51 = .ok (.aload_n 3, 1) := by decide +kernel
theorem dL_hears_52 : decode cL_hears 52 = .ok (.bipush 63, 2) := by decide +kernel
theorem dL_hears_54 : decode cL_hears 54 = .ok (.dup2, 1) := by decide +kernel
theorem dL_hears_55 : decode cL_hears 55 = .ok (.iaload, 1) := by decide +kernel
theorem dL_hears_56 : decode cL_hears 56 = .ok (.iconst 1, 1) := by decide +kernel
theorem dL_hears_57 : decode cL_hears 57 = .ok (.iadd, 1) := by decide +kernel
theorem dL_hears_58 : decode cL_hears 58 = .ok (.iastore, 1) := by decide +kernel
theorem dL_hears_59 : decode cL_hears 59 = .ok (.iinc 4 1, 3) := by decide +kernel
theorem dL_hears_62 : decode cL_hears 62 = .ok (.goto (-54), 3) := by decide +kernel
theorem dL_hears_65 : decode cL_hears 65 = .ok (.return_, 1) := by decide +kernel
set_option maxRecDepth 100000 in
theorem rL_hears_0 {zx : zX} {zn : Nat} {p : Program} {l : Launch} {e : Env} {s : State} {m : MethodId} {args : Array Value} {below : List Frame} {meth : Method} {c : Code} {D : va_G} {cA : Nat → ClassId} {ad : Nat → Nat} {Ret : zR} (C : z_Cx zx zn (z_A zn ad) 0 0 p { frames := 3, cells := 0, slots := 0, locals := 68 } s m args c cL_hears yL_hears.cls 5 D cA ad) (hr : meth.sig.returnType = none) (hlocks : meth.locks = false) : ∀ L st σ, tL_hears_0 zx (z_X zx zn (z_A zn ad) 0 0 p l e { frames := 3, cells := 0, slots := 0, locals := 68 } s m args below meth c (MQ below (z_Qc zn D cA ad Ret) args s 0 0 (z_A zn ad)) 5 D cA ad true) Ret L st σ → z_X zx zn (z_A zn ad) 0 0 p l e { frames := 3, cells := 0, slots := 0, locals := 68 } s m args below meth c (MQ below (z_Qc zn D cA ad Ret) args s 0 0 (z_A zn ad)) 5 D cA ad true 0 L st σ := (s_aload_n C dL_hears_0 rfl (s_bipush C dL_hears_1 rfl ⟨by decide, by decide⟩ (s_iconst C dL_hears_3 rfl ⟨by decide, by decide⟩ (s_iast C dL_hears_4 (s_iconst C dL_hears_5 rfl ⟨by decide, by decide⟩ (s_istore C dL_hears_6 (by decide) rfl (fun _ _ _ h => h)))))))
set_option maxRecDepth 100000 in
theorem rL_hears_8 {zx : zX} {zn : Nat} {p : Program} {l : Launch} {e : Env} {s : State} {m : MethodId} {args : Array Value} {below : List Frame} {meth : Method} {c : Code} {D : va_G} {cA : Nat → ClassId} {ad : Nat → Nat} {Ret : zR} (C : z_Cx zx zn (z_A zn ad) 0 0 p { frames := 3, cells := 0, slots := 0, locals := 68 } s m args c cL_hears yL_hears.cls 5 D cA ad) (hr : meth.sig.returnType = none) (hlocks : meth.locks = false) : ∀ L st σ, tL_hears_8 zx (z_X zx zn (z_A zn ad) 0 0 p l e { frames := 3, cells := 0, slots := 0, locals := 68 } s m args below meth c (MQ below (z_Qc zn D cA ad Ret) args s 0 0 (z_A zn ad)) 5 D cA ad true) Ret L st σ → z_X zx zn (z_A zn ad) 0 0 p l e { frames := 3, cells := 0, slots := 0, locals := 68 } s m args below meth c (MQ below (z_Qc zn D cA ad Ret) args s 0 0 (z_A zn ad)) 5 D cA ad true 8 L st σ := (s_iload C dL_hears_8 (s_aload_n C dL_hears_10 rfl (s_cs1 C dL_hears_11 (okL_trees l) wd_548 wd_549 wd_16 wd_550 ⟨by decide, by decide, by decide +kernel⟩ ⟨by decide, by decide⟩ (s_icge C dL_hears_14 (by decide) (s_vret C dL_hears_65 hr hlocks) (s_aload_n C dL_hears_17 rfl (s_aload_n C dL_hears_18 rfl (s_iload_n C dL_hears_19 rfl (s_iload C dL_hears_20 (s_cs4 C dL_hears_22 (okL_sounds l) wd_662 wd_663 wd_16 wd_664 ⟨by decide, by decide, by decide +kernel⟩ ⟨by decide, by decide⟩ (s_ifeq C dL_hears_25 (by decide) (s_iinc C dL_hears_59 (by decide) rfl (s_goto C dL_hears_62 (by decide) (fun _ _ _ h => h))) (s_aload_n C dL_hears_28 rfl (s_aload_n C dL_hears_29 rfl (s_bipush C dL_hears_30 rfl ⟨by decide, by decide⟩ (s_iald C dL_hears_32 (s_aload_n C dL_hears_33 rfl (s_iload C dL_hears_34 (s_cs2 C dL_hears_36 (okL_tone l) wd_656 wd_657 wd_16 wd_658 ⟨by decide, by decide, by decide +kernel⟩ ⟨by decide, by decide⟩ (s_iast C dL_hears_39 (s_aload_n C dL_hears_40 rfl (s_bipush C dL_hears_41 rfl ⟨by decide, by decide⟩ (s_aload_n C dL_hears_43 rfl (s_bipush C dL_hears_44 rfl ⟨by decide, by decide⟩ (s_iald C dL_hears_46 (s_iadd C dL_hears_47 (s_iload C dL_hears_48 (s_iast C dL_hears_50 (s_aload_n C dL_hears_51 rfl (s_bipush C dL_hears_52 rfl ⟨by decide, by decide⟩ (s_dup2 C dL_hears_54 (s_iald C dL_hears_55 (s_iconst C dL_hears_56 rfl ⟨by decide, by decide⟩ (s_iadd C dL_hears_57 (s_iast C dL_hears_58 (s_iinc C dL_hears_59 (by decide) rfl (s_goto C dL_hears_62 (by decide) (fun _ _ _ h => h))))))))))))))))))))))))))))))))))))
theorem okL_hears {zx : zX} {zn : Nat} (l : Launch) : z_OK zx zn l yL_hears cL_hears 5 none 3 68 (SL_hears zx) := by
  refine z_ok_of true (by decide +kernel) ?_ ?_
  · intro as σ Ret h
    obtain ⟨k1, k2, x3, k4, rfl⟩ := pL_hears h
    exact ⟨Nat.le_of_ble_eq_true rfl, by simp⟩
  · intro p e s m args below meth c D cA ad Ret C hr hlocks as σ has hσ h
    obtain ⟨k1, k2, x3, k4, rfl⟩ := pL_hears h
    exact vL_hears (rL_hears_0 C hr hlocks) (rL_hears_8 C hr hlocks) k1 k2 x3 k4 σ (has _ (List.mem_of_getElem? (i := 0) rfl)).1 (has _ (List.mem_of_getElem? (i := 1) rfl)).1 (has _ (List.mem_of_getElem? (i := 2) rfl)) (has _ (List.mem_of_getElem? (i := 3) rfl)).1 hσ h
