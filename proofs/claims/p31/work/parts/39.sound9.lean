/-! what sounds, in the numbers of a wood -/
def q_sdD (D : Nat → Int) (w t : Nat) : Bool := decide ((¬ D (6 + 6 * t + 5) = 1 ∧ ¬ D (6 + 6 * t + 4) = 1) ∧ ((-1 ≤ D (6 + 6 * t + 2) - D (78 + 3 * w + 0) ∧ D (6 + 6 * t + 2) - D (78 + 3 * w + 0) ≤ 1) ∨ D (6 + 6 * t + 2) - D (78 + 3 * w + 0) = 7 ∨ D (6 + 6 * t + 2) - D (78 + 3 * w + 0) = -7) ∧ (D (6 + 6 * t + 1)).tdiv 2 ≤ D (78 + 3 * w + 1))
def q_tnD (D : Nat → Int) (t : Nat) : Int := q_tone (D (6 + 6 * t + 1)) (D (6 + 6 * t + 0)) (D 4)
def q_lsD (D : Nat → Int) (w : Nat) : List Nat := q_ls (q_sdD D w) (D 0).toNat
theorem q_ls_cg {f g : Nat → Bool} : ∀ n : Nat, (∀ i, i < n → f i = g i) → q_ls f n = q_ls g n
  | 0, _ => rfl
  | n + 1, h => by
    rw [q_ls, q_ls, q_ls_cg n (fun i hi => h i (by omega)), h n (by omega)]
theorem q_ls_mem {f : Nat → Bool} : ∀ (n x : Nat), x ∈ q_ls f n → x < n ∧ f x = true
  | 0, x, h => by rw [q_ls] at h; cases h
  | n + 1, x, h => by
    rw [q_ls] at h
    by_cases c : f n = true
    · rw [if_pos c, List.mem_append] at h
      rcases h with h | h
      · have := q_ls_mem n x h; exact ⟨by omega, this.2⟩
      · rw [List.mem_singleton] at h; subst h; exact ⟨by omega, c⟩
    · rw [if_neg c] at h
      have := q_ls_mem n x h; exact ⟨by omega, this.2⟩
theorem q_getD_mem {l : List Nat} {i : Nat} (h : i < l.length) : l.getD i 0 ∈ l := by
  rw [List.getD_eq_getElem?_getD, List.getElem?_eq_getElem h]
  exact List.getElem_mem h
theorem q_wd_sd {σ : zM} {b : Nat} {D : Nat → Int} (h : q_wd σ b D) {w t : Nat} (hw : (w : Int) < D 1) (ht : (t : Int) < D 0) : q_sndb σ b w t = q_sdD D w t := by
  have e1 := h.2.1 t 1 ht (by omega)
  have e2 := h.2.1 t 2 ht (by omega)
  have e4 := h.2.1 t 4 ht (by omega)
  have e5 := h.2.1 t 5 ht (by omega)
  have w0 := h.2.2.1 w 0 hw (by omega)
  have w1 := h.2.2.1 w 1 hw (by omega)
  simp only [Nat.add_assoc, Nat.reduceAdd, Nat.add_zero] at e1 e2 e4 e5 w0 w1
  unfold q_sndb q_sdD
  simp only [Nat.add_assoc, Nat.reduceAdd, Nat.add_zero]
  rw [e1, e2, e4, e5, w0, w1]
theorem q_wd_tn {σ : zM} {b : Nat} {D : Nat → Int} (h : q_wd σ b D) {t : Nat} (ht : (t : Int) < D 0) : q_tn σ b t = q_tnD D t := by
  have e0 := h.2.1 t 0 ht (by omega)
  have e1 := h.2.1 t 1 ht (by omega)
  simp only [Nat.add_assoc, Nat.reduceAdd, Nat.add_zero] at e0 e1
  unfold q_tn q_tnD
  simp only [Nat.add_assoc, Nat.reduceAdd, Nat.add_zero]
  rw [e0, e1, h.1.2.2.2.2.1]
theorem q_wd_ls {σ : zM} {b : Nat} {D : Nat → Int} (h : q_wd σ b D) {w : Nat} (hw : (w : Int) < D 1) : q_ls (q_sndb σ b w) (σ (b + 1) 6).toNat = q_lsD D w := by
  unfold q_lsD
  rw [h.1.1.1]
  exact q_ls_cg _ (fun i hi => q_wd_sd h hw (by omega))
theorem q_wd_wok {σ : zM} {b : Nat} {D : Nat → Int} (h : q_wd σ b D) (k : q_Dok D) : q_wok σ b := by
  obtain ⟨⟨⟨a0, b0⟩, ⟨a1, b1⟩, ⟨a2, b2⟩, a3, a4, a5, b5⟩, hT, hW, hJ⟩ := h
  refine ⟨by omega, by omega, fun t ht => ?_, fun w hw => ?_⟩
  · have q := k.2.1 t (by omega)
    have e0 := hT t 0 (by omega) (by omega)
    have e1 := hT t 1 (by omega) (by omega)
    have e2 := hT t 2 (by omega) (by omega)
    simp only [Nat.add_assoc, Nat.reduceAdd, Nat.add_zero] at e0 e1 e2 q
    rw [e0, e1, e2]
    omega
  · have q := k.2.2.1 w (by omega)
    have e0 := hW w 0 (by omega) (by omega)
    simp only [Nat.add_assoc, Nat.reduceAdd, Nat.add_zero] at e0 q
    rw [e0]
    omega
theorem q_lsD_mem {D : Nat → Int} {w i : Nat} (h : i < (q_lsD D w).length) : (((q_lsD D w).getD i 0 : Nat) : Int) < D 0 := by
  have : (q_lsD D w).getD i 0 < (D 0).toNat := (q_ls_mem _ _ (q_getD_mem h)).1
  omega
theorem q_lsD_len {D : Nat → Int} {w : Nat} (k : q_Dok D) : (q_lsD D w).length ≤ 12 := by
  have := q_ls_len (q_sdD D w) (D 0).toNat
  have := k.1.1
  unfold q_lsD
  omega
theorem q_ear_D {σ τ : zM} {b e w : Nat} {D : Nat → Int} (h : q_wd σ b D) (hw : (w : Int) < D 1) (q : q_ear τ e (q_ls (q_sndb σ b w) (σ (b + 1) 6).toNat) (q_tn σ b)) : q_ear τ e (q_lsD D w) (q_tnD D) := by
  rw [q_wd_ls h hw] at q
  refine ⟨q.1, fun i hi => ?_, q.2.2⟩
  rw [q.2.1 i hi]
  exact q_wd_tn h (q_lsD_mem hi)
theorem q_R2_id {σ σ' : zM} (R : q_R2 σ σ) (e : ∀ c j, q_lastP c j ∨ 89 ≤ c → σ' c j = σ c j) : q_R2 σ' σ' := q_R2_cgm (q_R2_cgp R (fun c j hc => e c j (Or.inl hc))) (fun c j hc => e c j (Or.inr (by unfold q_last at hc; omega)))
theorem q_tnD_in {D : Nat → Int} (k : q_Dok D) {t : Nat} (ht : (t : Int) < D 0) : 0 ≤ q_tnD D t ∧ q_tnD D t ≤ 20000 := by
  have q := k.2.1 t ht
  have d := q_dry_in (p := D (6 + 6 * t + 1)) (l := D (6 + 6 * t + 0)) (by omega) (by omega)
  unfold q_tnD q_tone
  split
  · rw [Int.tdiv_eq_ediv_of_nonneg d.1]
    omega
  · exact d
def q_gSound (w k : Int) (τ : zM) : Int := if ¬ ((0 ≤ w ∧ w < τ 93 1) ∧ 0 ≤ k) then -1000001 else if k < ((q_lsD (τ 93) w.toNat).length : Int) then q_tnD (τ 93) ((q_lsD (τ 93) w.toNat).getD k.toNat 0) else -1000000
def SX9_sound : zS := fun as σ Ret => match as with
  | [.inr (.inr (9, 0, _)), .inl w, .inl k] => q_S9 (q_gSound w k) q_fId σ Ret
  | _ => False
def tX9_sound_0 (X : Nat → zB) (Ret : zR) (L : zL) (st : List zV) (σ : zM) : Prop := (z_aload 0 (z_getr 9 8 8 0 (z_getr 8 8 7 0 (z_iload 1 (z_cv1 7 SX7_has (z_ifeq (z_push (-1000001) (z_iret Ret)) (z_iload 2 (z_ifge (z_aload 0 (z_getr 9 80 3 0 (z_aload 0 (z_getr 9 8 8 0 (z_iload 1 (z_cv2 3 SX3_listen (z_iload 2 (z_aload 0 (z_getr 9 80 3 0 (z_geti 3 3 (z_icge (z_push (-1000000) (z_iret Ret)) (z_aload 0 (z_getr 9 80 3 0 (z_getr 3 1 100 12 (z_iload 2 (z_ald 0 (z_goto (z_iret Ret)))))))))))))))))) (z_push (-1000001) (z_iret Ret)))))))))) L st σ
theorem pX9_sound {as : List zV} {σ : zM} {Ret : zR} (h : SX9_sound as σ Ret) : ∃ (k0 : Nat) (x1 : Int) (x2 : Int), as = [.inr (.inr (9, 0, k0)), .inl x1, .inl x2] := by
  unfold SX9_sound at h
  split at h
  · exact ⟨_, _, _, rfl⟩
  · exact h.elim
set_option maxRecDepth 10000 in
set_option maxHeartbeats 4000000 in
theorem vX9_sound {X : Nat → zB} {Ret : zR} (h0 : ∀ L st σ, tX9_sound_0 X Ret L st σ → X 0 L st σ) (k0 : Nat) (x1 : Int) (x2 : Int) (σ : zM) (hk0 : z_kd k0 = (9, 0)) (hx1 : -2147483648 ≤ x1 ∧ x1 ≤ 2147483647) (hx2 : -2147483648 ≤ x2 ∧ x2 ≤ 2147483647) (hσ : z_okm σ) (h : SX9_sound [.inr (.inr (9, 0, k0)), .inl x1, .inl x2] σ Ret) : X 0 [some (.inr (.inr (9, 0, k0))), some (.inl x1), some (.inl x2)] [] σ := by
  obtain ⟨⟨R, m⟩, h⟩ := h
  obtain rfl := z_kd9 hk0
  have W := R.2.2.2.2.1.1
  have K := m.2.1.1
  have W1 : σ 16 3 = σ 93 1 := W.1.2.1.1
  have K1 := K.1.2.1
  by_cases c : ¬ ((0 ≤ x1 ∧ x1 < σ 93 1) ∧ 0 ≤ x2)
  · have fin := h σ (fun _ _ => rfl) R
    simp only [q_gSound, if_pos c] at fin
    refine h0 _ _ _ ?_
    simp only [z_push, z_lpush, z_iload, z_lload, z_aload, z_istore, z_istoreP, z_lstore, z_astore, z_iinc, z_iincP, z_iadd, z_isub, z_imul, z_iaddW, z_isubW, z_imulW, z_idiv, z_irem, z_iand, z_ior, z_ixor, z_ishl, z_ishr, z_iushr, z_ineg, z_i2l, z_i2b, z_i2s, z_i2c, z_l2i, z_ladd, z_lsub, z_land, z_lor, z_lshl, z_lshr, z_lcmp, z_dup, z_pop, z_dup2, z_goto, z_tsw, z_cases, z_geti, z_getr, z_puti, z_putz, z_ald, z_iast, z_bast, z_zast, z_alen, z_acopy, z_mmax, z_mmin, z_mabs, z_mabsL, z_iret, z_zret, z_nret, z_lret, z_aret, z_vret, z_cat, z_xald, z_xlen, z_ldcs, z_strv, z_strc, z_gcs, z_gfm, z_sln, z_sald, z_ifeq, z_ifne, z_iflt, z_ifge, z_ifgt, z_ifle, z_iceq, z_icne, z_iclt, z_icge, z_icgt, z_icle, z_cs0, z_cs1, z_cs2, z_cs3, z_cs4, z_cs5, z_cs6, z_cs7, z_cv0, z_cv1, z_cv2, z_cv3, z_cv4, z_cv5, z_cv6, z_cv7, z_g0, z_s0, z_g1, z_s1, z_g2, z_s2, z_g3, z_s3, z_g4, z_s4, z_g5, z_s5, z_g6, z_s6, z_g7, z_s7, z_g8, z_s8, z_g9, z_s9, z_g10, z_s10, z_g11, z_s11, z_g12, z_s12, z_g13, z_s13, z_b0, z_b1, z_b0n, z_b1n, z_up_far1, z_up_far2, z_up_far3, z_up_far4, z_up_far5, z_up_far6, Classical.not_not, not_true_eq_false, z_in, z_inL, Int.cast_ofNat_Int, Nat.reduceLeDiff, List.length_cons, List.length_nil, Nat.reduceAdd, Nat.zero_add, Nat.le_refl, true_and, and_true, List.length, Nat.reduceLT, true_or, or_true, false_or, or_false, false_and, and_false, not_true_eq_false, not_false_eq_true, forall_const, false_implies, true_implies, Int.reduceEq, Int.reduceLT, Int.reduceLE, Int.reduceAdd, Int.reduceSub, Int.reduceMul, Int.reduceNeg, Int.reduceToNat, Int.toNat_natCast, ↓reduceIte, reduceIte, Nat.reduceEqDiff, Nat.reduceSub, Nat.reduceMul, ne_eq, Int.zero_add, Int.add_zero, Int.sub_zero, Nat.add_zero, Int.ofNat_eq_natCast, tX9_sound_0, SX7_has, W1]
    repeat' (first | (intro _) | (with_reducible assumption) | (refine And.intro ?_ ?_))
    all_goals first | omega | assumption | (refine z_fin fin ?_ rfl; first | rfl | omega | (split <;> omega) | (split <;> split <;> omega)) | skip
  obtain ⟨w, rfl⟩ := z_nat (show 0 ≤ x1 by omega)
  obtain ⟨k, rfl⟩ := z_nat (show 0 ≤ x2 by omega)
  refine h0 _ _ _ ?_
  simp only [z_push, z_lpush, z_iload, z_lload, z_aload, z_istore, z_istoreP, z_lstore, z_astore, z_iinc, z_iincP, z_iadd, z_isub, z_imul, z_iaddW, z_isubW, z_imulW, z_idiv, z_irem, z_iand, z_ior, z_ixor, z_ishl, z_ishr, z_iushr, z_ineg, z_i2l, z_i2b, z_i2s, z_i2c, z_l2i, z_ladd, z_lsub, z_land, z_lor, z_lshl, z_lshr, z_lcmp, z_dup, z_pop, z_dup2, z_goto, z_tsw, z_cases, z_geti, z_getr, z_puti, z_putz, z_ald, z_iast, z_bast, z_zast, z_alen, z_acopy, z_mmax, z_mmin, z_mabs, z_mabsL, z_iret, z_zret, z_nret, z_lret, z_aret, z_vret, z_cat, z_xald, z_xlen, z_ldcs, z_strv, z_strc, z_gcs, z_gfm, z_sln, z_sald, z_ifeq, z_ifne, z_iflt, z_ifge, z_ifgt, z_ifle, z_iceq, z_icne, z_iclt, z_icge, z_icgt, z_icle, z_cs0, z_cs1, z_cs2, z_cs3, z_cs4, z_cs5, z_cs6, z_cs7, z_cv0, z_cv1, z_cv2, z_cv3, z_cv4, z_cv5, z_cv6, z_cv7, z_g0, z_s0, z_g1, z_s1, z_g2, z_s2, z_g3, z_s3, z_g4, z_s4, z_g5, z_s5, z_g6, z_s6, z_g7, z_s7, z_g8, z_s8, z_g9, z_s9, z_g10, z_s10, z_g11, z_s11, z_g12, z_s12, z_g13, z_s13, z_b0, z_b1, z_b0n, z_b1n, z_up_far1, z_up_far2, z_up_far3, z_up_far4, z_up_far5, z_up_far6, Classical.not_not, not_true_eq_false, z_in, z_inL, Int.cast_ofNat_Int, Nat.reduceLeDiff, List.length_cons, List.length_nil, Nat.reduceAdd, Nat.zero_add, Nat.le_refl, true_and, and_true, List.length, Nat.reduceLT, true_or, or_true, false_or, or_false, false_and, and_false, not_true_eq_false, not_false_eq_true, forall_const, false_implies, true_implies, Int.reduceEq, Int.reduceLT, Int.reduceLE, Int.reduceAdd, Int.reduceSub, Int.reduceMul, Int.reduceNeg, Int.reduceToNat, Int.toNat_natCast, ↓reduceIte, reduceIte, Nat.reduceEqDiff, Nat.reduceSub, Nat.reduceMul, ne_eq, Int.zero_add, Int.add_zero, Int.sub_zero, Nat.add_zero, Int.ofNat_eq_natCast, tX9_sound_0, SX7_has, SX3_listen, W1]
  refine ⟨fun e => absurd e (by omega), fun _ => ⟨fun _ => ⟨⟨q_wd_wok W K, by omega⟩, fun σ1 f1 f2 _ => ?_⟩, fun e => absurd e (by omega)⟩⟩
  have e9 : ∀ c, 89 ≤ c → σ1 c = σ c := fun c hc => funext fun j => f1 c j (by omega)
  obtain ⟨g1, g2, g3⟩ := q_ear_D W (w := w) (by omega) f2
  have ll := q_lsD_len (D := σ 93) (w := w) K
  have fin := h σ1 e9 (q_R2_id R (fun c j hc => f1 c j (by unfold q_lastP at hc; omega)))
  simp only [q_gSound, e9 93 (by omega), if_neg c, Int.toNat_natCast] at fin
  rw [g1]
  refine ⟨fun e => ?_, fun e => ⟨by omega, fun _ => ?_⟩⟩
  · rw [if_neg (by omega)] at fin
    exact fin
  · rw [if_pos (by omega), ← g2 k (by omega)] at fin
    exact fin
theorem dX9_sound_0 : decode cX9_sound 0 = .ok (.aload_n 0, 1) := by decide +kernel
theorem dX9_sound_1 : decode cX9_sound 1 = .ok (.getfield 26, 3) := by decide +kernel
theorem dX9_sound_4 : decode cX9_sound 4 = .ok (.getfield 194, 3) := by decide +kernel
theorem dX9_sound_7 : decode cX9_sound 7 = .ok (.iload_n 1, 1) := by decide +kernel
theorem dX9_sound_8 : decode cX9_sound 8 = .ok (.invokevirtual 198, 3) := by decide +kernel
theorem dX9_sound_11 : decode cX9_sound 11 = .ok (.ifCond .eq 7, 3) := by decide +kernel
theorem dX9_sound_14 : decode cX9_sound 14 = .ok (.iload_n 2, 1) := by decide +kernel
theorem dX9_sound_15 : decode cX9_sound 15 = .ok (.ifCond .ge 6, 3) := by decide +kernel
theorem dX9_sound_18 : decode cX9_sound 18 = .ok (.ldc 75, 2) := by decide +kernel
theorem dX9_sound_20 : decode cX9_sound 20 = .ok (.ireturn, 1) := by decide +kernel
theorem dX9_sound_21 : decode cX9_sound 21 = .ok (.aload_n 0, 1) := by decide +kernel
theorem dX9_sound_22 : decode cX9_sound 22 = .ok (.getfield 49, 3) := by decide +kernel
theorem dX9_sound_25 : decode cX9_sound 25 = .ok (.aload_n 0, 1) := by decide +kernel
theorem dX9_sound_26 : decode cX9_sound 26 = .ok (.getfield 26, 3) := by decide +kernel
theorem dX9_sound_29 : decode cX9_sound 29 = .ok (.iload_n 1, 1) := by decide +kernel
theorem dX9_sound_30 : decode cX9_sound 30 = .ok (.invokevirtual 201, 3) := by decide +kernel
theorem dX9_sound_33 : decode cX9_sound 33 = .ok (.iload_n 2, 1) := by decide +kernel
theorem dX9_sound_34 : decode cX9_sound 34 = .ok (.aload_n 0, 1) := by decide +kernel
theorem dX9_sound_35 : decode cX9_sound 35 = .ok (.getfield 49, 3) := by decide +kernel
theorem dX9_sound_38 : decode cX9_sound 38 = .ok (.getfield 205, 3) := by decide +kernel
theorem dX9_sound_41 : decode cX9_sound 41 = .ok (.if_icmp .ge 15, 3) := by decide +kernel
theorem dX9_sound_44 : decode cX9_sound 44 = .ok (.aload_n 0, 1) := by decide +kernel
theorem dX9_sound_45 : decode cX9_sound 45 = .ok (.getfield 49, 3) := by decide +kernel
theorem dX9_sound_48 : decode cX9_sound 48 = .ok (.getfield 206, 3) := by decide +kernel
theorem dX9_sound_51 : decode cX9_sound 51 = .ok (.iload_n 2, 1) := by decide +kernel
theorem dX9_sound_52 : decode cX9_sound 52 = .ok (.iaload, 1) := by decide +kernel
theorem dX9_sound_53 : decode cX9_sound 53 = .ok (.goto 5, 3) := by decide +kernel
theorem dX9_sound_56 : decode cX9_sound 56 = .ok (.ldc 209, 2) := by decide +kernel
theorem dX9_sound_58 : decode cX9_sound 58 = .ok (.ireturn, 1) := by decide +kernel
set_option maxRecDepth 100000 in
theorem rX9_sound_0 {zx : zX} {zn : Nat} {p : Program} {l : Launch} {e : Env} {s : State} {m : MethodId} {args : Array Value} {below : List Frame} {meth : Method} {c : Code} {D : va_G} {cA : Nat → ClassId} {ad : Nat → Nat} {Ret : zR} (C : z_Cx zx zn (z_A zn ad) 0 0 p { frames := 3, cells := 0, slots := 0, locals := 68 } s m args c cX9_sound yX9_sound.cls 3 D cA ad) (hr : meth.sig.returnType = (some .int)) (hlocks : meth.locks = false) : ∀ L st σ, tX9_sound_0 (z_X zx zn (z_A zn ad) 0 0 p l e { frames := 3, cells := 0, slots := 0, locals := 68 } s m args below meth c (MQ below (z_Qc zn D cA ad Ret) args s 0 0 (z_A zn ad)) 3 D cA ad true) Ret L st σ → z_X zx zn (z_A zn ad) 0 0 p l e { frames := 3, cells := 0, slots := 0, locals := 68 } s m args below meth c (MQ below (z_Qc zn D cA ad Ret) args s 0 0 (z_A zn ad)) 3 D cA ad true 0 L st σ := (s_aload_n C dX9_sound_0 rfl (s_getr C dX9_sound_1 (j := 2) cls_X9 (by decide) rfl (by decide) (by decide) (by decide +kernel) wd_285 (s_getr C dX9_sound_4 (j := 1) cls_X8 (by decide) rfl (by decide) (by decide) (by decide +kernel) wd_198 (s_iload_n C dX9_sound_7 rfl (s_cv1 C dX9_sound_8 (okX7_has l) cls_X7 wd_514 wd_515 wd_516 wd_22 wd_517 ⟨by decide, by decide, by decide +kernel⟩ ⟨by decide, by decide⟩ (s_ifeq C dX9_sound_11 (by decide) (s_ldc C dX9_sound_18 (v := -1000001) wd_488 ⟨by decide, by decide⟩ (s_iret C dX9_sound_20 hr hlocks)) (s_iload_n C dX9_sound_14 rfl (s_ifge C dX9_sound_15 (by decide) (s_aload_n C dX9_sound_21 rfl (s_getr C dX9_sound_22 (j := 7) cls_X9 (by decide) rfl (by decide) (by decide) (by decide +kernel) wd_290 (s_aload_n C dX9_sound_25 rfl (s_getr C dX9_sound_26 (j := 2) cls_X9 (by decide) rfl (by decide) (by decide) (by decide +kernel) wd_285 (s_iload_n C dX9_sound_29 rfl (s_cv2 C dX9_sound_30 (okX3_listen l) cls_X3 wd_518 wd_519 wd_520 wd_24 wd_521 ⟨by decide, by decide, by decide +kernel⟩ ⟨by decide, by decide⟩ (s_iload_n C dX9_sound_33 rfl (s_aload_n C dX9_sound_34 rfl (s_getr C dX9_sound_35 (j := 7) cls_X9 (by decide) rfl (by decide) (by decide) (by decide +kernel) wd_290 (s_geti C dX9_sound_38 cls_X3 (by decide) rfl wd_241 (s_icge C dX9_sound_41 (by decide) (s_ldc C dX9_sound_56 (v := -1000000) wd_531 ⟨by decide, by decide⟩ (s_iret C dX9_sound_58 hr hlocks)) (s_aload_n C dX9_sound_44 rfl (s_getr C dX9_sound_45 (j := 7) cls_X9 (by decide) rfl (by decide) (by decide) (by decide +kernel) wd_290 (s_getr C dX9_sound_48 (j := 0) cls_X3 (by decide) rfl (by decide) (by decide) (by decide +kernel) wd_237 (s_iload_n C dX9_sound_51 rfl (s_iald C dX9_sound_52 (s_goto C dX9_sound_53 (by decide) (s_iret C dX9_sound_58 hr hlocks)))))))))))))))))) (s_ldc C dX9_sound_18 (v := -1000001) wd_488 ⟨by decide, by decide⟩ (s_iret C dX9_sound_20 hr hlocks))))))))))
theorem okX9_sound {zx : zX} {zn : Nat} (l : Launch) : z_OK zx zn l yX9_sound cX9_sound 3 (some .int) 3 68 SX9_sound := by
  refine z_ok_of true (by decide +kernel) ?_ ?_
  · intro as σ Ret h
    obtain ⟨k0, x1, x2, rfl⟩ := pX9_sound h
    exact ⟨Nat.le_of_ble_eq_true rfl, by simp⟩
  · intro p e s m args below meth c D cA ad Ret C hr hlocks as σ has hσ h
    obtain ⟨k0, x1, x2, rfl⟩ := pX9_sound h
    exact vX9_sound (rX9_sound_0 C hr hlocks) k0 x1 x2 σ (has _ (List.mem_of_getElem? (i := 0) rfl)).1 (has _ (List.mem_of_getElem? (i := 1) rfl)) (has _ (List.mem_of_getElem? (i := 2) rfl)) hσ h
