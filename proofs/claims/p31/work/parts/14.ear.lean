/-! Ear k: tones k+1, trees k+2, line k+3, how many (k, 3). -/
/-- the trees that sound, in a wood b and a wind w -/
def q_sndb (σ : zM) (b w t : Nat) : Bool := decide ((¬ σ (b + 7) t = 1 ∧ ¬ σ (b + 6) t = 1) ∧ ((-1 ≤ σ (b + 4) t - σ (b + 9) w ∧ σ (b + 4) t - σ (b + 9) w ≤ 1) ∨ σ (b + 4) t - σ (b + 9) w = 7 ∨ σ (b + 4) t - σ (b + 9) w = -7) ∧ (σ (b + 3) t).tdiv 2 ≤ σ (b + 10) w)
theorem q_sndb_iff {σ : zM} {b w t : Nat} : q_sndb σ b w t = true ↔ q_snd (σ (b + 7) t) (σ (b + 6) t) (σ (b + 4) t) (σ (b + 3) t) (σ (b + 9) w) (σ (b + 10) w) := by
  unfold q_sndb q_snd
  rw [decide_eq_true_eq]
def q_ls (f : Nat → Bool) : Nat → List Nat
  | 0 => []
  | n + 1 => if f n then q_ls f n ++ [n] else q_ls f n
theorem q_ls_len (f : Nat → Bool) : ∀ n, (q_ls f n).length ≤ n
  | 0 => Nat.le_refl _
  | n + 1 => by
    have := q_ls_len f n
    unfold q_ls
    split
    · rw [List.length_append]; simp; omega
    · omega
/-- a wood as its readers want it -/
def q_wok (σ : zM) (b : Nat) : Prop := (0 ≤ σ (b + 1) 6 ∧ σ (b + 1) 6 ≤ 12) ∧ (0 ≤ σ (b + 8) 3 ∧ σ (b + 8) 3 ≤ 6) ∧ (∀ t : Nat, (t : Int) < σ (b + 1) 6 → (10 ≤ σ (b + 2) t ∧ σ (b + 2) t ≤ 999) ∧ (0 ≤ σ (b + 3) t ∧ σ (b + 3) t ≤ 20) ∧ (0 ≤ σ (b + 4) t ∧ σ (b + 4) t ≤ 7)) ∧ ∀ w : Nat, (w : Int) < σ (b + 8) 3 → 0 ≤ σ (b + 9) w ∧ σ (b + 9) w ≤ 7
def q_tn (σ : zM) (b t : Nat) : Int := q_tone (σ (b + 3) t) (σ (b + 2) t) (σ b 6)
/-- what the ear holds behind a list of trees -/
def q_ear (τ : zM) (e : Nat) (l : List Nat) (tn : Nat → Int) : Prop := τ e 3 = (l.length : Int) ∧ (∀ i : Nat, i < l.length → τ (e + 1) i = tn (l.getD i 0)) ∧ ∀ i : Nat, i < l.length → τ (e + 2) i = (l.getD i 0 : Int)
theorem q_ear_snoc {τ : zM} {e : Nat} {l : List Nat} {tn : Nat → Int} (x : Nat) (h : q_ear τ e l tn) : q_ear (z_up (z_up (z_up τ (e + 1) l.length (tn x)) (e + 2) l.length (x : Int)) e 3 ((l.length : Int) + 1)) e (l ++ [x]) tn := by
  obtain ⟨h1, h2, h3⟩ := h
  have key : ∀ i : Nat, i < (l ++ [x]).length → (i < l.length ∧ (l ++ [x]).getD i 0 = l.getD i 0) ∨ (i = l.length ∧ (l ++ [x]).getD i 0 = x) := by
    intro i hi
    rw [List.length_append] at hi
    simp only [List.length_cons, List.length_nil] at hi
    rcases Nat.lt_or_ge i l.length with q | q
    · left
      refine ⟨q, ?_⟩
      rw [List.getD_eq_getElem?_getD, List.getD_eq_getElem?_getD, List.getElem?_append_left q]
    · right
      have e : i = l.length := by omega
      refine ⟨e, ?_⟩
      rw [List.getD_eq_getElem?_getD, List.getElem?_append_right q, e, Nat.sub_self]
      rfl
  refine ⟨?_, fun i hi => ?_, fun i hi => ?_⟩
  · rw [z_up_eq, List.length_append]; rfl
  · rcases key i hi with ⟨q, r⟩ | ⟨q, r⟩
    · rw [r, z_up_ne (by omega), z_up_ne (by omega), z_up_ne (by omega)]
      exact h2 i q
    · rw [r, z_up_ne (by omega), z_up_ne (by omega), q, z_up_eq]
  · rcases key i hi with ⟨q, r⟩ | ⟨q, r⟩
    · rw [r, z_up_ne (by omega), z_up_ne (by omega), z_up_ne (by omega)]
      exact h3 i q
    · rw [r, z_up_ne (by omega), q, z_up_eq]
def SX3_listen : zS := fun as σ Ret => match as with
  | [.inr (.inr (3, 0, e)), .inr (.inr (8, 0, b)), .inl w] => (q_wok σ b ∧ (0 ≤ w ∧ w < σ (b + 8) 3)) ∧ ∀ σ' : zM, (∀ c j, ¬ (c = e ∧ j = 3 ∨ c = e + 1 ∨ c = e + 2) → σ' c j = σ c j) → q_ear σ' e (q_ls (q_sndb σ b w.toNat) (σ (b + 1) 6).toNat) (q_tn σ b) → Ret none σ'
  | _ => False
def tX3_listen_0 (X : Nat → zB) (Ret : zR) (L : zL) (st : List zV) (σ : zM) : Prop := (z_aload 0 (z_push 0 (z_puti 3 3 (z_push 0 (z_istore 3 (X 7)))))) L st σ
def tX3_listen_7 (X : Nat → zB) (Ret : zR) (L : zL) (st : List zV) (σ : zM) : Prop := (z_iload 3 (z_aload 1 (z_getr 8 1 6 0 (z_geti 6 6 (z_icge (z_vret Ret) (z_aload 0 (z_geti 3 3 (z_push 12 (z_icge (z_vret Ret) (z_aload 1 (z_iload 3 (z_iload 2 (z_cv2 8 SX8_sounds (z_ifeq (z_iinc 3 1 (z_goto (X 7))) (z_aload 0 (z_getr 3 1 100 12 (z_aload 0 (z_geti 3 3 (z_aload 1 (z_iload 3 (z_cv1 8 SX8_toneOf (z_iast (z_aload 0 (z_getr 3 2 100 12 (z_aload 0 (z_geti 3 3 (z_iload 3 (z_iast (z_aload 0 (z_dup (z_geti 3 3 (z_push 1 (z_iadd (z_puti 3 3 (z_iinc 3 1 (z_goto (X 7))))))))))))))))))))))))))))))))))))) L st σ
theorem pX3_listen {as : List zV} {σ : zM} {Ret : zR} (h : SX3_listen as σ Ret) : ∃ (k0 : Nat) (k1 : Nat) (x2 : Int), as = [.inr (.inr (3, 0, k0)), .inr (.inr (8, 0, k1)), .inl x2] := by
  unfold SX3_listen at h
  split at h
  · exact ⟨_, _, _, rfl⟩
  · exact h.elim
set_option maxRecDepth 10000 in
set_option maxHeartbeats 4000000 in
theorem vX3_listen {X : Nat → zB} {Ret : zR} (h0 : ∀ L st σ, tX3_listen_0 X Ret L st σ → X 0 L st σ) (h7 : ∀ L st σ, tX3_listen_7 X Ret L st σ → X 7 L st σ) (k0 : Nat) (k1 : Nat) (x2 : Int) (σ : zM) (hk0 : z_kd k0 = (3, 0)) (hk1 : z_kd k1 = (8, 0)) (hx2 : -2147483648 ≤ x2 ∧ x2 ≤ 2147483647) (hσ : z_okm σ) (h : SX3_listen [.inr (.inr (3, 0, k0)), .inr (.inr (8, 0, k1)), .inl x2] σ Ret) : X 0 [some (.inr (.inr (3, 0, k0))), some (.inr (.inr (8, 0, k1))), some (.inl x2), none] [] σ := by
  obtain ⟨⟨ok, hw0, hw1⟩, h⟩ := h
  obtain ⟨⟨c0, c1⟩, ⟨d0, d1⟩, ht, hwd⟩ := ok
  obtain ⟨w, rfl⟩ := z_nat hw0
  obtain ⟨n, hn⟩ := z_nat c0
  simp only [hn, Int.toNat_natCast] at h
  have ke : k0 = 80 := by
    have key : ∀ i, i < 111 → z_kd i = (3, 0) → i = 80 := by decide +kernel
    exact key _ (z_kd_lt hk0 (by decide)) hk0
  have kb := z_kd8 hk1
  have loop : ∀ (dd i : Nat) (τ : zM), i + dd = n → (∀ c j, ¬ (c = k0 ∧ j = 3 ∨ c = k0 + 1 ∨ c = k0 + 2) → τ c j = σ c j) → q_ear τ k0 (q_ls (q_sndb σ k1 w) i) (q_tn σ k1) → X 7 [some (.inr (.inr (3, 0, k0))), some (.inr (.inr (8, 0, k1))), some (.inl (w : Int)), some (.inl (i : Int))] [] τ := by
    intro dd
    induction dd with
    | zero =>
      intro i τ hi f1 f2
      refine h7 _ _ _ ?_
      simp only [z_push, z_lpush, z_iload, z_lload, z_aload, z_istore, z_istoreP, z_lstore, z_astore, z_iinc, z_iincP, z_iadd, z_isub, z_imul, z_iaddW, z_isubW, z_imulW, z_idiv, z_irem, z_iand, z_ior, z_ixor, z_ishl, z_ishr, z_iushr, z_ineg, z_i2l, z_i2b, z_i2s, z_i2c, z_l2i, z_ladd, z_lsub, z_land, z_lor, z_lshl, z_lshr, z_lcmp, z_dup, z_pop, z_dup2, z_goto, z_tsw, z_cases, z_geti, z_getr, z_puti, z_putz, z_ald, z_iast, z_bast, z_zast, z_alen, z_acopy, z_mmax, z_mmin, z_mabs, z_mabsL, z_iret, z_zret, z_nret, z_lret, z_aret, z_vret, z_cat, z_xald, z_xlen, z_ldcs, z_strv, z_strc, z_gcs, z_gfm, z_sln, z_sald, z_ifeq, z_ifne, z_iflt, z_ifge, z_ifgt, z_ifle, z_iceq, z_icne, z_iclt, z_icge, z_icgt, z_icle, z_cs0, z_cs1, z_cs2, z_cs3, z_cs4, z_cs5, z_cs6, z_cs7, z_cv0, z_cv1, z_cv2, z_cv3, z_cv4, z_cv5, z_cv6, z_cv7, z_g0, z_s0, z_g1, z_s1, z_g2, z_s2, z_g3, z_s3, z_g4, z_s4, z_g5, z_s5, z_g6, z_s6, z_g7, z_s7, z_g8, z_s8, z_g9, z_s9, z_g10, z_s10, z_g11, z_s11, z_g12, z_s12, z_g13, z_s13, z_b0, z_b1, z_b0n, z_b1n, z_up_far1, z_up_far2, z_up_far3, z_up_far4, z_up_far5, z_up_far6, Classical.not_not, not_true_eq_false, z_in, z_inL, Int.cast_ofNat_Int, Nat.reduceLeDiff, List.length_cons, List.length_nil, Nat.reduceAdd, Nat.zero_add, Nat.le_refl, true_and, and_true, List.length, Nat.reduceLT, true_or, or_true, false_or, or_false, false_and, and_false, not_true_eq_false, not_false_eq_true, forall_const, false_implies, true_implies, Int.reduceEq, Int.reduceLT, Int.reduceLE, Int.reduceAdd, Int.reduceSub, Int.reduceMul, Int.reduceNeg, Int.reduceToNat, Int.toNat_natCast, ↓reduceIte, reduceIte, Nat.reduceEqDiff, Nat.reduceSub, Nat.reduceMul, ne_eq, Int.zero_add, Int.add_zero, Int.sub_zero, Nat.add_zero, Int.ofNat_eq_natCast, tX3_listen_7, f1 (k1 + 1) 6 (by omega), hn]
      have e : i = n := by omega
      subst e
      exact fun _ => ⟨fun _ => h τ f1 f2, fun q => absurd (Int.le_refl _) q⟩
    | succ dd ih =>
      intro i τ hi f1 f2
      obtain ⟨v1, v2, v3⟩ := ht i (by omega)
      have w1 := hwd w hw1
      have hlen := q_ls_len (q_sndb σ k1 w) i
      obtain ⟨g1, g2, g3⟩ := f2
      have r : ∀ c j, ¬ (c = k0 ∧ j = 3 ∨ c = k0 + 1 ∨ c = k0 + 2) → τ c j = σ c j := f1
      refine h7 _ _ _ ?_
      simp only [z_push, z_lpush, z_iload, z_lload, z_aload, z_istore, z_istoreP, z_lstore, z_astore, z_iinc, z_iincP, z_iadd, z_isub, z_imul, z_iaddW, z_isubW, z_imulW, z_idiv, z_irem, z_iand, z_ior, z_ixor, z_ishl, z_ishr, z_iushr, z_ineg, z_i2l, z_i2b, z_i2s, z_i2c, z_l2i, z_ladd, z_lsub, z_land, z_lor, z_lshl, z_lshr, z_lcmp, z_dup, z_pop, z_dup2, z_goto, z_tsw, z_cases, z_geti, z_getr, z_puti, z_putz, z_ald, z_iast, z_bast, z_zast, z_alen, z_acopy, z_mmax, z_mmin, z_mabs, z_mabsL, z_iret, z_zret, z_nret, z_lret, z_aret, z_vret, z_cat, z_xald, z_xlen, z_ldcs, z_strv, z_strc, z_gcs, z_gfm, z_sln, z_sald, z_ifeq, z_ifne, z_iflt, z_ifge, z_ifgt, z_ifle, z_iceq, z_icne, z_iclt, z_icge, z_icgt, z_icle, z_cs0, z_cs1, z_cs2, z_cs3, z_cs4, z_cs5, z_cs6, z_cs7, z_cv0, z_cv1, z_cv2, z_cv3, z_cv4, z_cv5, z_cv6, z_cv7, z_g0, z_s0, z_g1, z_s1, z_g2, z_s2, z_g3, z_s3, z_g4, z_s4, z_g5, z_s5, z_g6, z_s6, z_g7, z_s7, z_g8, z_s8, z_g9, z_s9, z_g10, z_s10, z_g11, z_s11, z_g12, z_s12, z_g13, z_s13, z_b0, z_b1, z_b0n, z_b1n, z_up_far1, z_up_far2, z_up_far3, z_up_far4, z_up_far5, z_up_far6, Classical.not_not, not_true_eq_false, z_in, z_inL, Int.cast_ofNat_Int, Nat.reduceLeDiff, List.length_cons, List.length_nil, Nat.reduceAdd, Nat.zero_add, Nat.le_refl, true_and, and_true, List.length, Nat.reduceLT, true_or, or_true, false_or, or_false, false_and, and_false, not_true_eq_false, not_false_eq_true, forall_const, false_implies, true_implies, Int.reduceEq, Int.reduceLT, Int.reduceLE, Int.reduceAdd, Int.reduceSub, Int.reduceMul, Int.reduceNeg, Int.reduceToNat, Int.toNat_natCast, ↓reduceIte, reduceIte, Nat.reduceEqDiff, Nat.reduceSub, Nat.reduceMul, ne_eq, Int.zero_add, Int.add_zero, Int.sub_zero, Nat.add_zero, Int.ofNat_eq_natCast, tX3_listen_7, SX8_sounds, SX8_toneOf, r (k1 + 1) 6 (by omega), r (k1 + 8) 3 (by omega), r (k1 + 2) i (by omega), r (k1 + 3) i (by omega), r (k1 + 4) i (by omega), r (k1 + 6) i (by omega), r (k1 + 7) i (by omega), r (k1 + 9) w (by omega), r (k1 + 10) w (by omega), r k1 6 (by omega), hn, g1]
      by_cases hs : q_sndb σ k1 w i = true
      · have hs2 := q_sndb_iff.mp hs
        have e1 := ih (i + 1)
        repeat' (first | (intro _) | (with_reducible assumption) | (refine And.intro ?_ ?_))
        all_goals first | omega | assumption | (refine z_fin h ?_ rfl; first | rfl | omega | (split <;> omega) | (split <;> split <;> omega)) | skip
        · refine ih (i + 1) _ (by omega) (fun c j hc => ?_) ?_
          · rw [z_up_ne (by omega), z_up_ne (by omega), z_up_ne (by omega), f1 c j hc]
          · rw [q_ls, if_pos hs]
            exact q_ear_snoc i ⟨g1, g2, g3⟩
        · exact absurd hs2 (by assumption)
      · have hs2 := fun q => hs (q_sndb_iff.mpr q)
        repeat' (first | (intro _) | (with_reducible assumption) | (refine And.intro ?_ ?_))
        all_goals first | omega | assumption | (refine z_fin h ?_ rfl; first | rfl | omega | (split <;> omega) | (split <;> split <;> omega)) | skip
        · exact absurd (by assumption) hs2
        · refine ih (i + 1) _ (by omega) f1 ?_
          rw [q_ls, if_neg hs]
          exact ⟨g1, g2, g3⟩
  have l0 := loop n 0 (z_up σ k0 3 0) (by omega) (fun c j hc => z_up_ne (by omega)) ⟨z_up_eq, fun i hi => absurd hi (Nat.not_lt_zero _), fun i hi => absurd hi (Nat.not_lt_zero _)⟩
  refine h0 _ _ _ ?_
  simp only [z_push, z_lpush, z_iload, z_lload, z_aload, z_istore, z_istoreP, z_lstore, z_astore, z_iinc, z_iincP, z_iadd, z_isub, z_imul, z_iaddW, z_isubW, z_imulW, z_idiv, z_irem, z_iand, z_ior, z_ixor, z_ishl, z_ishr, z_iushr, z_ineg, z_i2l, z_i2b, z_i2s, z_i2c, z_l2i, z_ladd, z_lsub, z_land, z_lor, z_lshl, z_lshr, z_lcmp, z_dup, z_pop, z_dup2, z_goto, z_tsw, z_cases, z_geti, z_getr, z_puti, z_putz, z_ald, z_iast, z_bast, z_zast, z_alen, z_acopy, z_mmax, z_mmin, z_mabs, z_mabsL, z_iret, z_zret, z_nret, z_lret, z_aret, z_vret, z_cat, z_xald, z_xlen, z_ldcs, z_strv, z_strc, z_gcs, z_gfm, z_sln, z_sald, z_ifeq, z_ifne, z_iflt, z_ifge, z_ifgt, z_ifle, z_iceq, z_icne, z_iclt, z_icge, z_icgt, z_icle, z_cs0, z_cs1, z_cs2, z_cs3, z_cs4, z_cs5, z_cs6, z_cs7, z_cv0, z_cv1, z_cv2, z_cv3, z_cv4, z_cv5, z_cv6, z_cv7, z_g0, z_s0, z_g1, z_s1, z_g2, z_s2, z_g3, z_s3, z_g4, z_s4, z_g5, z_s5, z_g6, z_s6, z_g7, z_s7, z_g8, z_s8, z_g9, z_s9, z_g10, z_s10, z_g11, z_s11, z_g12, z_s12, z_g13, z_s13, z_b0, z_b1, z_b0n, z_b1n, z_up_far1, z_up_far2, z_up_far3, z_up_far4, z_up_far5, z_up_far6, Classical.not_not, not_true_eq_false, z_in, z_inL, Int.cast_ofNat_Int, Nat.reduceLeDiff, List.length_cons, List.length_nil, Nat.reduceAdd, Nat.zero_add, Nat.le_refl, true_and, and_true, List.length, Nat.reduceLT, true_or, or_true, false_or, or_false, false_and, and_false, not_true_eq_false, not_false_eq_true, forall_const, false_implies, true_implies, Int.reduceEq, Int.reduceLT, Int.reduceLE, Int.reduceAdd, Int.reduceSub, Int.reduceMul, Int.reduceNeg, Int.reduceToNat, Int.toNat_natCast, ↓reduceIte, reduceIte, Nat.reduceEqDiff, Nat.reduceSub, Nat.reduceMul, ne_eq, Int.zero_add, Int.add_zero, Int.sub_zero, Nat.add_zero, Int.ofNat_eq_natCast, tX3_listen_0]
  exact l0
theorem dX3_listen_0 : decode cX3_listen 0 = .ok (.aload_n 0, 1) := by decide +kernel
theorem dX3_listen_1 : decode cX3_listen 1 = .ok (.iconst 0, 1) := by decide +kernel
theorem dX3_listen_2 : decode cX3_listen 2 = .ok (.putfield 21, 3) := by decide +kernel
theorem dX3_listen_5 : decode cX3_listen 5 = .ok (.iconst 0, 1) := by decide +kernel
theorem dX3_listen_6 : decode cX3_listen 6 = .ok (.istore_n 3, 1) := by decide +kernel
theorem dX3_listen_7 : decode cX3_listen 7 = .ok (.iload_n 3, 1) := by decide +kernel
theorem dX3_listen_8 : decode cX3_listen 8 = .ok (.aload_n 1, 1) := by decide +kernel
theorem dX3_listen_9 : decode cX3_listen 9 = .ok (.getfield 25, 3) := by decide +kernel
theorem dX3_listen_12 : decode cX3_listen 12 = .ok (.getfield 30, 3) := by decide +kernel
theorem dX3_listen_15 : decode cX3_listen 15 = .ok (.if_icmp .ge 61, 3) := by decide +kernel
theorem dX3_listen_18 : decode cX3_listen 18 = .ok (.aload_n 0, 1) := by decide +kernel
theorem dX3_listen_19 : decode cX3_listen 19 = .ok (.getfield 21, 3) := by decide +kernel
theorem dX3_listen_22 : decode cX3_listen 22 = .ok (.bipush 12, 2) := by decide +kernel
theorem dX3_listen_24 : decode cX3_listen 24 = .ok (.if_icmp .ge 52, 3) := by decide +kernel
theorem dX3_listen_27 : decode cX3_listen 27 = .ok (.aload_n 1, 1) := by decide +kernel
theorem dX3_listen_28 : decode cX3_listen 28 = .ok (.iload_n 3, 1) := by decide +kernel
theorem dX3_listen_29 : decode cX3_listen 29 = .ok (.iload_n 2, 1) := by decide +kernel
theorem dX3_listen_30 : decode cX3_listen 30 = .ok (.invokevirtual 33, 3) := by decide +kernel
theorem dX3_listen_33 : decode cX3_listen 33 = .ok (.ifCond .eq 37, 3) := by decide +kernel
theorem dX3_listen_36 : decode cX3_listen 36 = .ok (.aload_n 0, 1) := by decide +kernel
theorem dX3_listen_37 : decode cX3_listen 37 = .ok (.getfield 9, 3) := by decide +kernel
theorem dX3_listen_40 : decode cX3_listen 40 = .ok (.aload_n 0, 1) := by decide +kernel
theorem dX3_listen_41 : decode cX3_listen 41 = .ok (.getfield 21, 3) := by decide +kernel
theorem dX3_listen_44 : decode cX3_listen 44 = .ok (.aload_n 1, 1) := by decide +kernel
theorem dX3_listen_45 : decode cX3_listen 45 = .ok (.iload_n 3, 1) := by decide +kernel
theorem dX3_listen_46 : decode cX3_listen 46 = .ok (.invokevirtual 37, 3) := by decide +kernel
theorem dX3_listen_49 : decode cX3_listen 49 = .ok (.iastore, 1) := by decide +kernel
theorem dX3_listen_50 : decode cX3_listen 50 = .ok (.aload_n 0, 1) := by decide +kernel
theorem dX3_listen_51 : decode cX3_listen 51 = .ok (.getfield 15, 3) := by decide +kernel
theorem dX3_listen_54 : decode cX3_listen 54 = .ok (.aload_n 0, 1) := by decide +kernel
theorem dX3_listen_55 : decode cX3_listen 55 = .ok (.getfield 21, 3) := by decide +kernel
theorem dX3_listen_58 : decode cX3_listen 58 = .ok (.iload_n 3, 1) := by decide +kernel
theorem dX3_listen_59 : decode cX3_listen 59 = .ok (.iastore, 1) := by decide +kernel
theorem dX3_listen_60 : decode cX3_listen 60 = .ok (.aload_n 0, 1) := by decide +kernel
theorem dX3_listen_61 : decode cX3_listen 61 = .ok (.dup, 1) := by decide +kernel
theorem dX3_listen_62 : decode cX3_listen 62 = .ok (.getfield 21, 3) := by decide +kernel
theorem dX3_listen_65 : decode cX3_listen 65 = .ok (.iconst 1, 1) := by decide +kernel
theorem dX3_listen_66 : decode cX3_listen 66 = .ok (.iadd, 1) := by decide +kernel
theorem dX3_listen_67 : decode cX3_listen 67 = .ok (.putfield 21, 3) := by decide +kernel
theorem dX3_listen_70 : decode cX3_listen 70 = .ok (.iinc 3 1, 3) := by decide +kernel
theorem dX3_listen_73 : decode cX3_listen 73 = .ok (.goto (-66), 3) := by decide +kernel
theorem dX3_listen_76 : decode cX3_listen 76 = .ok (.return_, 1) := by decide +kernel
set_option maxRecDepth 100000 in
theorem rX3_listen_0 {zx : zX} {zn : Nat} {p : Program} {l : Launch} {e : Env} {s : State} {m : MethodId} {args : Array Value} {below : List Frame} {meth : Method} {c : Code} {D : va_G} {cA : Nat → ClassId} {ad : Nat → Nat} {Ret : zR} (C : z_Cx zx zn (z_A zn ad) 0 0 p { frames := 2, cells := 0, slots := 0, locals := 45 } s m args c cX3_listen yX3_listen.cls 4 D cA ad) (hr : meth.sig.returnType = none) (hlocks : meth.locks = false) : ∀ L st σ, tX3_listen_0 (z_X zx zn (z_A zn ad) 0 0 p l e { frames := 2, cells := 0, slots := 0, locals := 45 } s m args below meth c (MQ below (z_Qc zn D cA ad Ret) args s 0 0 (z_A zn ad)) 4 D cA ad true) Ret L st σ → z_X zx zn (z_A zn ad) 0 0 p l e { frames := 2, cells := 0, slots := 0, locals := 45 } s m args below meth c (MQ below (z_Qc zn D cA ad Ret) args s 0 0 (z_A zn ad)) 4 D cA ad true 0 L st σ := (s_aload_n C dX3_listen_0 rfl (s_iconst C dX3_listen_1 rfl ⟨by decide, by decide⟩ (s_puti C dX3_listen_2 cls_X3 (by decide) rfl wd_240 rfl rfl (s_iconst C dX3_listen_5 rfl ⟨by decide, by decide⟩ (s_istore_n C dX3_listen_6 (by decide) rfl rfl (fun _ _ _ h => h))))))
set_option maxRecDepth 100000 in
theorem rX3_listen_7 {zx : zX} {zn : Nat} {p : Program} {l : Launch} {e : Env} {s : State} {m : MethodId} {args : Array Value} {below : List Frame} {meth : Method} {c : Code} {D : va_G} {cA : Nat → ClassId} {ad : Nat → Nat} {Ret : zR} (C : z_Cx zx zn (z_A zn ad) 0 0 p { frames := 2, cells := 0, slots := 0, locals := 45 } s m args c cX3_listen yX3_listen.cls 4 D cA ad) (hr : meth.sig.returnType = none) (hlocks : meth.locks = false) : ∀ L st σ, tX3_listen_7 (z_X zx zn (z_A zn ad) 0 0 p l e { frames := 2, cells := 0, slots := 0, locals := 45 } s m args below meth c (MQ below (z_Qc zn D cA ad Ret) args s 0 0 (z_A zn ad)) 4 D cA ad true) Ret L st σ → z_X zx zn (z_A zn ad) 0 0 p l e { frames := 2, cells := 0, slots := 0, locals := 45 } s m args below meth c (MQ below (z_Qc zn D cA ad Ret) args s 0 0 (z_A zn ad)) 4 D cA ad true 7 L st σ := (s_iload_n C dX3_listen_7 rfl (s_aload_n C dX3_listen_8 rfl (s_getr C dX3_listen_9 (j := 0) cls_X8 (by decide) rfl (by decide) (by decide) (by decide +kernel) wd_193 (s_geti C dX3_listen_12 cls_X6 (by decide) rfl wd_125 (s_icge C dX3_listen_15 (by decide) (s_vret C dX3_listen_76 hr hlocks) (s_aload_n C dX3_listen_18 rfl (s_geti C dX3_listen_19 cls_X3 (by decide) rfl wd_240 (s_bipush C dX3_listen_22 rfl ⟨by decide, by decide⟩ (s_icge C dX3_listen_24 (by decide) (s_vret C dX3_listen_76 hr hlocks) (s_aload_n C dX3_listen_27 rfl (s_iload_n C dX3_listen_28 rfl (s_iload_n C dX3_listen_29 rfl (s_cv2 C dX3_listen_30 (okX8_sounds l) cls_X8 wd_522 wd_523 wd_524 wd_20 wd_525 ⟨by decide, by decide, by decide +kernel⟩ ⟨by decide, by decide⟩ (s_ifeq C dX3_listen_33 (by decide) (s_iinc C dX3_listen_70 (by decide) rfl (s_goto C dX3_listen_73 (by decide) (fun _ _ _ h => h))) (s_aload_n C dX3_listen_36 rfl (s_getr C dX3_listen_37 (j := 0) cls_X3 (by decide) rfl (by decide) (by decide) (by decide +kernel) wd_236 (s_aload_n C dX3_listen_40 rfl (s_geti C dX3_listen_41 cls_X3 (by decide) rfl wd_240 (s_aload_n C dX3_listen_44 rfl (s_iload_n C dX3_listen_45 rfl (s_cv1 C dX3_listen_46 (okX8_toneOf l) cls_X8 wd_530 wd_504 wd_505 wd_20 wd_506 ⟨by decide, by decide, by decide +kernel⟩ ⟨by decide, by decide⟩ (s_iast C dX3_listen_49 (s_aload_n C dX3_listen_50 rfl (s_getr C dX3_listen_51 (j := 1) cls_X3 (by decide) rfl (by decide) (by decide) (by decide +kernel) wd_238 (s_aload_n C dX3_listen_54 rfl (s_geti C dX3_listen_55 cls_X3 (by decide) rfl wd_240 (s_iload_n C dX3_listen_58 rfl (s_iast C dX3_listen_59 (s_aload_n C dX3_listen_60 rfl (s_dup C dX3_listen_61 (s_geti C dX3_listen_62 cls_X3 (by decide) rfl wd_240 (s_iconst C dX3_listen_65 rfl ⟨by decide, by decide⟩ (s_iadd C dX3_listen_66 (s_puti C dX3_listen_67 cls_X3 (by decide) rfl wd_240 rfl rfl (s_iinc C dX3_listen_70 (by decide) rfl (s_goto C dX3_listen_73 (by decide) (fun _ _ _ h => h)))))))))))))))))))))))))))))))))))))
theorem okX3_listen {zx : zX} {zn : Nat} (l : Launch) : z_OK zx zn l yX3_listen cX3_listen 4 none 2 45 SX3_listen := by
  refine z_ok_of true (by decide +kernel) ?_ ?_
  · intro as σ Ret h
    obtain ⟨k0, k1, x2, rfl⟩ := pX3_listen h
    exact ⟨Nat.le_of_ble_eq_true rfl, by simp⟩
  · intro p e s m args below meth c D cA ad Ret C hr hlocks as σ has hσ h
    obtain ⟨k0, k1, x2, rfl⟩ := pX3_listen h
    exact vX3_listen (rX3_listen_0 C hr hlocks) (rX3_listen_7 C hr hlocks) k0 k1 x2 σ (has _ (List.mem_of_getElem? (i := 0) rfl)).1 (has _ (List.mem_of_getElem? (i := 1) rfl)).1 (has _ (List.mem_of_getElem? (i := 2) rfl)) hσ h
/-- slips: the table, row by row -/
def q_dp (c : Nat → Nat → Int) : Nat → Nat → Int
  | 0, j => j
  | i + 1, 0 => i + 1
  | i + 1, j + 1 => min (q_dp c i j + c i j) (min (q_dp c (i + 1) j) (q_dp c i (j + 1)) + 1)
theorem q_dp_0 {c : Nat → Nat → Int} {j : Nat} : q_dp c 0 j = j := by rw [q_dp]
theorem q_dp_i0 {c : Nat → Nat → Int} : ∀ i : Nat, q_dp c i 0 = i
  | 0 => by rw [q_dp]
  | i + 1 => by rw [q_dp]; rfl
theorem q_dp_S {c : Nat → Nat → Int} {i j : Nat} : q_dp c (i + 1) (j + 1) = min (q_dp c i j + c i j) (min (q_dp c (i + 1) j) (q_dp c i (j + 1)) + 1) := by rw [q_dp]
theorem q_dp_in {c : Nat → Nat → Int} (hc : ∀ i j, 0 ≤ c i j ∧ c i j ≤ 1) : ∀ i j : Nat, 0 ≤ q_dp c i j ∧ q_dp c i j ≤ i + j
  | 0, j => by rw [q_dp_0]; omega
  | i + 1, 0 => by rw [q_dp_i0]; omega
  | i + 1, j + 1 => by
    have h1 := q_dp_in hc i j
    have h2 := q_dp_in hc (i + 1) j
    have h3 := q_dp_in hc i (j + 1)
    have h4 := hc i j
    rw [q_dp_S]
    omega
