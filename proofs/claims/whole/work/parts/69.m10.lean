/-! what the model hears -/
def q_me (τ : zM) (l : List Nat) (tn : Nat → Int) : Prop := τ 89 24 = (l.length : Int) ∧ (∀ i : Nat, i < l.length → τ 99 i = tn (l.getD i 0)) ∧ ∀ i : Nat, i < l.length → τ 100 i = (l.getD i 0 : Int)
theorem q_me_snoc {τ : zM} {l : List Nat} {tn : Nat → Int} (x : Nat) (h : q_me τ l tn) : q_me (z_up (z_up (z_up τ 99 l.length (tn x)) 100 l.length (x : Int)) 89 24 ((l.length : Int) + 1)) (l ++ [x]) tn := by
  obtain ⟨h1, h2, h3⟩ := h
  have key : ∀ i : Nat, i < (l ++ [x]).length → (i < l.length ∧ (l ++ [x]).getD i 0 = l.getD i 0) ∨ (i = l.length ∧ (l ++ [x]).getD i 0 = x) := by
    intro i hi
    rw [List.length_append] at hi
    simp only [List.length_cons, List.length_nil] at hi
    rcases Nat.lt_or_ge i l.length with q | q
    · left
      refine ⟨q, ?_⟩
      rw [List.getD_eq_getElem?_getD, List.getD_eq_getElem?_getD, List.getElem?_append_left q]
    · right
      have e : i = l.length := by omega
      refine ⟨e, ?_⟩
      rw [List.getD_eq_getElem?_getD, List.getElem?_append_right q, e, Nat.sub_self]
      rfl
  refine ⟨?_, fun i hi => ?_, fun i hi => ?_⟩
  · rw [z_up_eq, List.length_append]; rfl
  · rcases key i hi with ⟨q, r⟩ | ⟨q, r⟩
    · rw [r, z_up_ne (by omega), z_up_ne (by omega), z_up_ne (by omega)]
      exact h2 i q
    · rw [r, z_up_ne (by omega), z_up_ne (by omega), q, z_up_eq]
  · rcases key i hi with ⟨q, r⟩ | ⟨q, r⟩
    · rw [r, z_up_ne (by omega), z_up_ne (by omega), z_up_ne (by omega)]
      exact h3 i q
    · rw [r, z_up_ne (by omega), q, z_up_eq]
def q_tns (σ : zM) (t : Nat) : Int := q_tone (σ 93 (6 + 6 * t + 1)) (σ 98 t) (σ 93 4)
def SX10_listen : zS := fun as σ Ret => match as with
  | [.inr (.inr (10, 0, _)), .inl w] => (q_Dok (σ 93) ∧ (0 ≤ w ∧ w < σ 93 1) ∧ ∀ t : Nat, t < 12 → (t : Int) < σ 93 0 → 1 ≤ σ 98 t) ∧ ∀ σ' : zM, (∀ c j, ¬ (c = 89 ∧ j = 24 ∨ c = 99 ∨ c = 100) → σ' c j = σ c j) → q_me σ' (q_lsD (σ 93) w.toNat) (q_tns σ) → Ret none σ'
  | _ => False
def tX10_listen_0 (X : Nat → zB) (Ret : zR) (L : zL) (st : List zV) (σ : zM) : Prop := (z_aload 0 (z_push 0 (z_puti 10 24 (z_push 0 (z_istore 2 (X 7)))))) L st σ
def tX10_listen_7 (X : Nat → zB) (Ret : zR) (L : zL) (st : List zV) (σ : zM) : Prop := (z_iload 2 (z_aload 0 (z_getr 10 4 100 106 (z_push 0 (z_ald 0 (z_icge (z_vret Ret) (z_aload 0 (z_iload 2 (z_iload 1 (z_cv2 10 SX10_sounds (z_ifeq (z_iinc 2 1 (z_goto (X 7))) (z_aload 0 (z_getr 10 10 100 12 (z_aload 0 (z_geti 10 24 (z_aload 0 (z_iload 2 (z_cv1 10 SX10_tone (z_iast (z_aload 0 (z_getr 10 11 100 12 (z_aload 0 (z_geti 10 24 (z_iload 2 (z_iast (z_aload 0 (z_dup (z_geti 10 24 (z_push 1 (z_iadd (z_puti 10 24 (z_iinc 2 1 (z_goto (X 7)))))))))))))))))))))))))))))))))) L st σ
theorem pX10_listen {as : List zV} {σ : zM} {Ret : zR} (h : SX10_listen as σ Ret) : ∃ (k0 : Nat) (x1 : Int), as = [.inr (.inr (10, 0, k0)), .inl x1] := by
  unfold SX10_listen at h
  split at h
  · exact ⟨_, _, rfl⟩
  · exact h.elim
set_option maxRecDepth 10000 in
set_option maxHeartbeats 4000000 in
theorem vX10_listen {X : Nat → zB} {Ret : zR} (h0 : ∀ L st σ, tX10_listen_0 X Ret L st σ → X 0 L st σ) (h7 : ∀ L st σ, tX10_listen_7 X Ret L st σ → X 7 L st σ) (k0 : Nat) (x1 : Int) (σ : zM) (hk0 : z_kd k0 = (10, 0)) (hx1 : -2147483648 ≤ x1 ∧ x1 ≤ 2147483647) (hσ : z_okm σ) (h : SX10_listen [.inr (.inr (10, 0, k0)), .inl x1] σ Ret) : X 0 [some (.inr (.inr (10, 0, k0))), some (.inl x1), none] [] σ := by
  obtain ⟨⟨K, ⟨w0, w1⟩, hl⟩, h⟩ := h
  obtain rfl := z_kd10 hk0
  obtain ⟨w, rfl⟩ := z_nat w0
  rw [Int.toNat_natCast] at h
  have k0 := K.1.1
  have k1 := K.1.2.1
  obtain ⟨n, hn⟩ := z_nat k0.1
  unfold q_lsD at h
  rw [hn, Int.toNat_natCast] at h
  have L7 : ∀ (d i : Nat) (σ1 : zM), i + d = n → (∀ c j, ¬ (c = 89 ∧ j = 24 ∨ c = 99 ∨ c = 100) → σ1 c j = σ c j) → q_me σ1 (q_ls (q_sdD (σ 93) w) i) (q_tns σ) → X 7 [some (.inr (.inr (10, 0, 89))), some (.inl (w : Int)), some (.inl (i : Int))] [] σ1 := by
    intro d
    induction d with
    | zero =>
      intro i σ1 hi f1 g1
      have hi2 : i = n := by omega
      subst hi2
      have fin := h σ1 f1 g1
      have e0 : σ1 93 0 = (i : Int) := by rw [f1 _ _ (by omega)]; exact hn
      refine h7 _ _ _ ?_
      simp only [z_push, z_lpush, z_iload, z_lload, z_aload, z_istore, z_istoreP, z_lstore, z_astore, z_iinc, z_iincP, z_iadd, z_isub, z_imul, z_iaddW, z_isubW, z_imulW, z_idiv, z_irem, z_iand, z_ior, z_ixor, z_ishl, z_ishr, z_iushr, z_ineg, z_i2l, z_i2b, z_i2s, z_i2c, z_l2i, z_ladd, z_lsub, z_land, z_lor, z_lshl, z_lshr, z_lcmp, z_dup, z_pop, z_dup2, z_goto, z_tsw, z_cases, z_geti, z_getr, z_puti, z_putz, z_ald, z_iast, z_bast, z_zast, z_alen, z_acopy, z_mmax, z_mmin, z_mabs, z_mabsL, z_iret, z_zret, z_nret, z_lret, z_aret, z_vret, z_cat, z_ldcs, z_strv, z_strc, z_gcs, z_gfm, z_sln, z_sald, z_ifeq, z_ifne, z_iflt, z_ifge, z_ifgt, z_ifle, z_iceq, z_icne, z_iclt, z_icge, z_icgt, z_icle, z_cs0, z_cs1, z_cs2, z_cs3, z_cs4, z_cs5, z_cs6, z_cs7, z_cv0, z_cv1, z_cv2, z_cv3, z_cv4, z_cv5, z_cv6, z_cv7, z_g0, z_s0, z_g1, z_s1, z_g2, z_s2, z_g3, z_s3, z_g4, z_s4, z_g5, z_s5, z_g6, z_s6, z_g7, z_s7, z_g8, z_s8, z_g9, z_s9, z_g10, z_s10, z_g11, z_s11, z_g12, z_s12, z_g13, z_s13, z_b0, z_b1, z_b0n, z_b1n, z_up_far1, z_up_far2, z_up_far3, z_up_far4, z_up_far5, z_up_far6, Classical.not_not, not_true_eq_false, z_in, z_inL, Int.cast_ofNat_Int, Nat.reduceLeDiff, List.length_cons, List.length_nil, Nat.reduceAdd, Nat.zero_add, Nat.le_refl, true_and, and_true, List.length, Nat.reduceLT, true_or, or_true, false_or, or_false, false_and, and_false, not_true_eq_false, not_false_eq_true, forall_const, false_implies, true_implies, Int.reduceEq, Int.reduceLT, Int.reduceLE, Int.reduceAdd, Int.reduceSub, Int.reduceMul, Int.reduceNeg, Int.reduceToNat, Int.toNat_natCast, ↓reduceIte, reduceIte, Nat.reduceEqDiff, Nat.reduceSub, Nat.reduceMul, ne_eq, Int.zero_add, Int.add_zero, Int.sub_zero, Nat.add_zero, Int.ofNat_eq_natCast, tX10_listen_7, e0]
      repeat' (first | (intro _) | (with_reducible assumption) | (refine And.intro ?_ ?_))
      all_goals first | omega | assumption | (refine z_fin fin ?_ rfl; first | rfl | omega | (split <;> omega) | (split <;> split <;> omega)) | skip
    | succ d ih =>
      intro i σ1 hi f1 g1
      have e93 : σ1 93 = σ 93 := funext fun j => f1 93 j (by omega)
      have e98 : σ1 98 = σ 98 := funext fun j => f1 98 j (by omega)
      have ll := q_ls_len (q_sdD (σ 93) w) i
      have q := K.2.1 i (by omega)
      have qw := K.2.2.1 w w1
      have l1 := hl i (by omega) (by omega)
      have u1 : ∀ a v, z_up σ1 99 a v 89 24 = σ1 89 24 := fun a v => z_up_ne (by omega)
      have u2 : ∀ a v c x, z_up (z_up σ1 99 a v) 100 c x 89 24 = σ1 89 24 := fun a v c x => by rw [z_up_ne (by omega), z_up_ne (by omega)]
      have hlen := g1.1
      have sn := q_me_snoc i g1
      have nx : ∀ σ2 : zM, (∀ c j, ¬ (c = 89 ∧ j = 24 ∨ c = 99 ∨ c = 100) → σ2 c j = σ1 c j) → q_me σ2 (q_ls (q_sdD (σ 93) w) (i + 1)) (q_tns σ) → X 7 [some (.inr (.inr (10, 0, 89))), some (.inl (w : Int)), some (.inl ((i : Int) + 1))] [] σ2 := fun σ2 f2 g2 => ih (i + 1) σ2 (by omega) (fun c j hc => (f2 c j hc).trans (f1 c j hc)) g2
      rw [q_ls] at nx
      refine h7 _ _ _ ?_
      simp only [z_push, z_lpush, z_iload, z_lload, z_aload, z_istore, z_istoreP, z_lstore, z_astore, z_iinc, z_iincP, z_iadd, z_isub, z_imul, z_iaddW, z_isubW, z_imulW, z_idiv, z_irem, z_iand, z_ior, z_ixor, z_ishl, z_ishr, z_iushr, z_ineg, z_i2l, z_i2b, z_i2s, z_i2c, z_l2i, z_ladd, z_lsub, z_land, z_lor, z_lshl, z_lshr, z_lcmp, z_dup, z_pop, z_dup2, z_goto, z_tsw, z_cases, z_geti, z_getr, z_puti, z_putz, z_ald, z_iast, z_bast, z_zast, z_alen, z_acopy, z_mmax, z_mmin, z_mabs, z_mabsL, z_iret, z_zret, z_nret, z_lret, z_aret, z_vret, z_cat, z_ldcs, z_strv, z_strc, z_gcs, z_gfm, z_sln, z_sald, z_ifeq, z_ifne, z_iflt, z_ifge, z_ifgt, z_ifle, z_iceq, z_icne, z_iclt, z_icge, z_icgt, z_icle, z_cs0, z_cs1, z_cs2, z_cs3, z_cs4, z_cs5, z_cs6, z_cs7, z_cv0, z_cv1, z_cv2, z_cv3, z_cv4, z_cv5, z_cv6, z_cv7, z_g0, z_s0, z_g1, z_s1, z_g2, z_s2, z_g3, z_s3, z_g4, z_s4, z_g5, z_s5, z_g6, z_s6, z_g7, z_s7, z_g8, z_s8, z_g9, z_s9, z_g10, z_s10, z_g11, z_s11, z_g12, z_s12, z_g13, z_s13, z_b0, z_b1, z_b0n, z_b1n, z_up_far1, z_up_far2, z_up_far3, z_up_far4, z_up_far5, z_up_far6, Classical.not_not, not_true_eq_false, z_in, z_inL, Int.cast_ofNat_Int, Nat.reduceLeDiff, List.length_cons, List.length_nil, Nat.reduceAdd, Nat.zero_add, Nat.le_refl, true_and, and_true, List.length, Nat.reduceLT, true_or, or_true, false_or, or_false, false_and, and_false, not_true_eq_false, not_false_eq_true, forall_const, false_implies, true_implies, Int.reduceEq, Int.reduceLT, Int.reduceLE, Int.reduceAdd, Int.reduceSub, Int.reduceMul, Int.reduceNeg, Int.reduceToNat, Int.toNat_natCast, ↓reduceIte, reduceIte, Nat.reduceEqDiff, Nat.reduceSub, Nat.reduceMul, ne_eq, Int.zero_add, Int.add_zero, Int.sub_zero, Nat.add_zero, Int.ofNat_eq_natCast, tX10_listen_7, SX10_sounds, SX10_tone, e93, e98, hn, u1, u2]
      refine fun _ => ⟨fun e => absurd e (by omega), fun _ => ⟨⟨by omega, by omega, by omega, by simp only [Nat.add_zero] at qw; omega, by omega, by omega, by omega⟩, fun c => ⟨by omega, ?_⟩, fun c _ => ⟨⟨by omega, by omega, l1⟩, by omega, fun _ => ⟨by omega, fun _ => ⟨by omega, by omega, ?_⟩⟩⟩⟩⟩
      · rw [if_neg c] at nx
        exact nx σ1 (fun _ _ _ => rfl) g1
      · rw [if_pos c] at nx
        rw [hlen, Int.toNat_natCast]
        exact nx _ (fun c j hc => by rw [z_up_ne (by omega), z_up_ne (by omega), z_up_ne (by omega)]) sn
  refine h0 _ _ _ ?_
  simp only [z_push, z_lpush, z_iload, z_lload, z_aload, z_istore, z_istoreP, z_lstore, z_astore, z_iinc, z_iincP, z_iadd, z_isub, z_imul, z_iaddW, z_isubW, z_imulW, z_idiv, z_irem, z_iand, z_ior, z_ixor, z_ishl, z_ishr, z_iushr, z_ineg, z_i2l, z_i2b, z_i2s, z_i2c, z_l2i, z_ladd, z_lsub, z_land, z_lor, z_lshl, z_lshr, z_lcmp, z_dup, z_pop, z_dup2, z_goto, z_tsw, z_cases, z_geti, z_getr, z_puti, z_putz, z_ald, z_iast, z_bast, z_zast, z_alen, z_acopy, z_mmax, z_mmin, z_mabs, z_mabsL, z_iret, z_zret, z_nret, z_lret, z_aret, z_vret, z_cat, z_ldcs, z_strv, z_strc, z_gcs, z_gfm, z_sln, z_sald, z_ifeq, z_ifne, z_iflt, z_ifge, z_ifgt, z_ifle, z_iceq, z_icne, z_iclt, z_icge, z_icgt, z_icle, z_cs0, z_cs1, z_cs2, z_cs3, z_cs4, z_cs5, z_cs6, z_cs7, z_cv0, z_cv1, z_cv2, z_cv3, z_cv4, z_cv5, z_cv6, z_cv7, z_g0, z_s0, z_g1, z_s1, z_g2, z_s2, z_g3, z_s3, z_g4, z_s4, z_g5, z_s5, z_g6, z_s6, z_g7, z_s7, z_g8, z_s8, z_g9, z_s9, z_g10, z_s10, z_g11, z_s11, z_g12, z_s12, z_g13, z_s13, z_b0, z_b1, z_b0n, z_b1n, z_up_far1, z_up_far2, z_up_far3, z_up_far4, z_up_far5, z_up_far6, Classical.not_not, not_true_eq_false, z_in, z_inL, Int.cast_ofNat_Int, Nat.reduceLeDiff, List.length_cons, List.length_nil, Nat.reduceAdd, Nat.zero_add, Nat.le_refl, true_and, and_true, List.length, Nat.reduceLT, true_or, or_true, false_or, or_false, false_and, and_false, not_true_eq_false, not_false_eq_true, forall_const, false_implies, true_implies, Int.reduceEq, Int.reduceLT, Int.reduceLE, Int.reduceAdd, Int.reduceSub, Int.reduceMul, Int.reduceNeg, Int.reduceToNat, Int.toNat_natCast, ↓reduceIte, reduceIte, Nat.reduceEqDiff, Nat.reduceSub, Nat.reduceMul, ne_eq, Int.zero_add, Int.add_zero, Int.sub_zero, Nat.add_zero, Int.ofNat_eq_natCast, tX10_listen_0]
  exact L7 n 0 (z_up σ 89 24 0) (by omega) (fun c j hc => z_up_ne (by omega)) ⟨z_up_eq, fun i hi => absurd hi (by rw [q_ls]; exact Nat.not_lt_zero _), fun i hi => absurd hi (by rw [q_ls]; exact Nat.not_lt_zero _)⟩
theorem dX10_listen_0 : decode cX10_listen 0 = .ok (.aload_n 0, 1) := by decide +kernel
theorem dX10_listen_1 : decode cX10_listen 1 = .ok (.iconst 0, 1) := by decide +kernel
theorem dX10_listen_2 : decode cX10_listen 2 = .ok (.putfield 246, 3) := by decide +kernel
theorem dX10_listen_5 : decode cX10_listen 5 = .ok (.iconst 0, 1) := by decide +kernel
theorem dX10_listen_6 : decode cX10_listen 6 = .ok (.istore_n 2, 1) := by decide +kernel
theorem dX10_listen_7 : decode cX10_listen 7 = .ok (.iload_n 2, 1) := by decide +kernel
theorem dX10_listen_8 : decode cX10_listen 8 = .ok (.aload_n 0, 1) := by decide +kernel
theorem dX10_listen_9 : decode cX10_listen 9 = .ok (.getfield 19, 3) := by decide +kernel
theorem dX10_listen_12 : decode cX10_listen 12 = .ok (.iconst 0, 1) := by decide +kernel
theorem dX10_listen_13 : decode cX10_listen 13 = .ok (.iaload, 1) := by decide +kernel
theorem dX10_listen_14 : decode cX10_listen 14 = .ok (.if_icmp .ge 52, 3) := by decide +kernel
theorem dX10_listen_17 : decode cX10_listen 17 = .ok (.aload_n 0, 1) := by decide +kernel
theorem dX10_listen_18 : decode cX10_listen 18 = .ok (.iload_n 2, 1) := by decide +kernel
theorem dX10_listen_19 : decode cX10_listen 19 = .ok (.iload_n 1, 1) := by decide +kernel
theorem dX10_listen_20 : decode cX10_listen 20 = .ok (.invokevirtual 249, 3) := by decide +kernel
theorem dX10_listen_23 : decode cX10_listen 23 = .ok (.ifCond .eq 37, 3) := by decide +kernel
theorem dX10_listen_26 : decode cX10_listen 26 = .ok (.aload_n 0, 1) := by decide +kernel
theorem dX10_listen_27 : decode cX10_listen 27 = .ok (.getfield 37, 3) := by decide +kernel
theorem dX10_listen_30 : decode cX10_listen 30 = .ok (.aload_n 0, 1) := by decide +kernel
theorem dX10_listen_31 : decode cX10_listen 31 = .ok (.getfield 246, 3) := by decide +kernel
theorem dX10_listen_34 : decode cX10_listen 34 = .ok (.aload_n 0, 1) := by decide +kernel
theorem dX10_listen_35 : decode cX10_listen 35 = .ok (.iload_n 2, 1) := by decide +kernel
theorem dX10_listen_36 : decode cX10_listen 36 = .ok (.invokevirtual 243, 3) := by decide +kernel
theorem dX10_listen_39 : decode cX10_listen 39 = .ok (.iastore, 1) := by decide +kernel
theorem dX10_listen_40 : decode cX10_listen 40 = .ok (.aload_n 0, 1) := by decide +kernel
theorem dX10_listen_41 : decode cX10_listen 41 = .ok (.getfield 40, 3) := by decide +kernel
theorem dX10_listen_44 : decode cX10_listen 44 = .ok (.aload_n 0, 1) := by decide +kernel
theorem dX10_listen_45 : decode cX10_listen 45 = .ok (.getfield 246, 3) := by decide +kernel
theorem dX10_listen_48 : decode cX10_listen 48 = .ok (.iload_n 2, 1) := by decide +kernel
theorem dX10_listen_49 : decode cX10_listen 49 = .ok (.iastore, 1) := by decide +kernel
theorem dX10_listen_50 : decode cX10_listen 50 = .ok (.aload_n 0, 1) := by decide +kernel
theorem dX10_listen_51 : decode cX10_listen 51 = .ok (.dup, 1) := by decide +kernel
theorem dX10_listen_52 : decode cX10_listen 52 = .ok (.getfield 246, 3) := by decide +kernel
theorem dX10_listen_55 : decode cX10_listen 55 = .ok (.iconst 1, 1) := by decide +kernel
theorem dX10_listen_56 : decode cX10_listen 56 = .ok (.iadd, 1) := by decide +kernel
theorem dX10_listen_57 : decode cX10_listen 57 = .ok (.putfield 246, 3) := by decide +kernel
theorem dX10_listen_60 : decode cX10_listen 60 = .ok (.iinc 2 1, 3) := by decide +kernel
theorem dX10_listen_63 : decode cX10_listen 63 = .ok (.goto (-56), 3) := by decide +kernel
theorem dX10_listen_66 : decode cX10_listen 66 = .ok (.return_, 1) := by decide +kernel
set_option maxRecDepth 100000 in
theorem rX10_listen_0 {p : Program} {l : Launch} {e : Env} {s : State} {m : MethodId} {args : Array Value} {below : List Frame} {meth : Method} {c : Code} {D : va_G} {cA : Nat → ClassId} {ad : Nat → Nat} {Ret : zR} (C : z_Cx p { frames := 2, cells := 0, slots := 0, locals := 46 } s m args c cX10_listen yX10_listen.cls 3 D cA ad) (hr : meth.sig.returnType = none) (hlocks : meth.locks = false) : ∀ L st σ, tX10_listen_0 (z_X p l e { frames := 2, cells := 0, slots := 0, locals := 46 } s m args below meth c (MQ below (z_Qc D cA ad Ret) args s 0 0 (z_A ad)) 3 D cA ad true) Ret L st σ → z_X p l e { frames := 2, cells := 0, slots := 0, locals := 46 } s m args below meth c (MQ below (z_Qc D cA ad Ret) args s 0 0 (z_A ad)) 3 D cA ad true 0 L st σ := (s_aload_n C dX10_listen_0 rfl (s_iconst C dX10_listen_1 rfl ⟨by decide, by decide⟩ (s_puti C dX10_listen_2 cls_X10 (by decide) rfl wd_992 rfl rfl (s_iconst C dX10_listen_5 rfl ⟨by decide, by decide⟩ (s_istore_n C dX10_listen_6 (by decide) rfl rfl (fun _ _ _ h => h))))))
set_option maxRecDepth 100000 in
theorem rX10_listen_7 {p : Program} {l : Launch} {e : Env} {s : State} {m : MethodId} {args : Array Value} {below : List Frame} {meth : Method} {c : Code} {D : va_G} {cA : Nat → ClassId} {ad : Nat → Nat} {Ret : zR} (C : z_Cx p { frames := 2, cells := 0, slots := 0, locals := 46 } s m args c cX10_listen yX10_listen.cls 3 D cA ad) (hr : meth.sig.returnType = none) (hlocks : meth.locks = false) : ∀ L st σ, tX10_listen_7 (z_X p l e { frames := 2, cells := 0, slots := 0, locals := 46 } s m args below meth c (MQ below (z_Qc D cA ad Ret) args s 0 0 (z_A ad)) 3 D cA ad true) Ret L st σ → z_X p l e { frames := 2, cells := 0, slots := 0, locals := 46 } s m args below meth c (MQ below (z_Qc D cA ad Ret) args s 0 0 (z_A ad)) 3 D cA ad true 7 L st σ := (s_iload_n C dX10_listen_7 rfl (s_aload_n C dX10_listen_8 rfl (s_getr C dX10_listen_9 (j := 5) cls_X10 (by decide) rfl (by decide) (by decide) (by decide +kernel) wd_973 (s_iconst C dX10_listen_12 rfl ⟨by decide, by decide⟩ (s_iald C dX10_listen_13 (s_icge C dX10_listen_14 (by decide) (s_vret C dX10_listen_66 hr hlocks) (s_aload_n C dX10_listen_17 rfl (s_iload_n C dX10_listen_18 rfl (s_iload_n C dX10_listen_19 rfl (s_cv2 C dX10_listen_20 (okX10_sounds l) cls_X10 wd_1265 wd_1267 wd_61 wd_85 wd_1268 ⟨by decide, by decide, by decide +kernel⟩ ⟨by decide, by decide⟩ (s_ifeq C dX10_listen_23 (by decide) (s_iinc C dX10_listen_60 (by decide) rfl (s_goto C dX10_listen_63 (by decide) (fun _ _ _ h => h))) (s_aload_n C dX10_listen_26 rfl (s_getr C dX10_listen_27 (j := 22) cls_X10 (by decide) rfl (by decide) (by decide) (by decide +kernel) wd_990 (s_aload_n C dX10_listen_30 rfl (s_geti C dX10_listen_31 cls_X10 (by decide) rfl wd_992 (s_aload_n C dX10_listen_34 rfl (s_iload_n C dX10_listen_35 rfl (s_cv1 C dX10_listen_36 (okX10_tone l) cls_X10 wd_1249 wd_1251 wd_58 wd_85 wd_1252 ⟨by decide, by decide, by decide +kernel⟩ ⟨by decide, by decide⟩ (s_iast C dX10_listen_39 (s_aload_n C dX10_listen_40 rfl (s_getr C dX10_listen_41 (j := 23) cls_X10 (by decide) rfl (by decide) (by decide) (by decide +kernel) wd_991 (s_aload_n C dX10_listen_44 rfl (s_geti C dX10_listen_45 cls_X10 (by decide) rfl wd_992 (s_iload_n C dX10_listen_48 rfl (s_iast C dX10_listen_49 (s_aload_n C dX10_listen_50 rfl (s_dup C dX10_listen_51 (s_geti C dX10_listen_52 cls_X10 (by decide) rfl wd_992 (s_iconst C dX10_listen_55 rfl ⟨by decide, by decide⟩ (s_iadd C dX10_listen_56 (s_puti C dX10_listen_57 cls_X10 (by decide) rfl wd_992 rfl rfl (s_iinc C dX10_listen_60 (by decide) rfl (s_goto C dX10_listen_63 (by decide) (fun _ _ _ h => h))))))))))))))))))))))))))))))))))
theorem okX10_listen (l : Launch) : z_OK l yX10_listen cX10_listen 3 none 2 46 SX10_listen := by
  refine z_ok_of true (by decide +kernel) ?_ ?_
  · intro as σ Ret h
    obtain ⟨k0, x1, rfl⟩ := pX10_listen h
    exact ⟨Nat.le_of_ble_eq_true rfl, by simp⟩
  · intro p e s m args below meth c D cA ad Ret C hr hlocks as σ has hσ h
    obtain ⟨k0, x1, rfl⟩ := pX10_listen h
    exact vX10_listen (rX10_listen_0 C hr hlocks) (rX10_listen_7 C hr hlocks) k0 x1 σ (has _ (List.mem_of_getElem? (i := 0) rfl)) (has _ (List.mem_of_getElem? (i := 1) rfl)) hσ h
