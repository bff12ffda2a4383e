/-! sound asked of the model -/
theorem q_tns_D {σ σ1 : zM} {t : Nat} (e : ∀ j, σ1 93 j = σ 93 j) (g : σ1 98 t = σ 93 (6 + 6 * t + 0)) : q_tns σ1 t = q_tnD (σ 93) t := by
  unfold q_tns q_tnD
  rw [g, e, e]
def SX10_sound : zS := fun as σ Ret => match as with
  | [.inr (.inr (10, 0, _)), .inl w, .inl k] => q_S10 (q_gSound w k) q_fId σ Ret
  | _ => False
def tX10_sound_0 (X : Nat → zB) (Ret : zR) (L : zL) (st : List zV) (σ : zM) : Prop := (z_aload 0 (z_push 0 (z_puti 10 0 (z_aload 0 (z_iload 1 (z_cv1 10 SX10_isWind (z_ifeq (z_push (-1000001) (z_iret Ret)) (z_iload 2 (z_ifge (z_aload 0 (z_cv0 10 SX10_layLengths (z_aload 0 (z_iload 1 (z_cv1 10 SX10_listen (z_iload 2 (z_aload 0 (z_geti 10 24 (z_icge (z_push (-1000000) (z_iret Ret)) (z_aload 0 (z_getr 10 10 100 12 (z_iload 2 (z_ald 0 (z_goto (z_iret Ret))))))))))))))) (z_push (-1000001) (z_iret Ret))))))))))) L st σ
theorem pX10_sound {as : List zV} {σ : zM} {Ret : zR} (h : SX10_sound as σ Ret) : ∃ (k0 : Nat) (x1 : Int) (x2 : Int), as = [.inr (.inr (10, 0, k0)), .inl x1, .inl x2] := by
  unfold SX10_sound at h
  split at h
  · exact ⟨_, _, _, rfl⟩
  · exact h.elim
set_option maxRecDepth 10000 in
set_option maxHeartbeats 4000000 in
theorem vX10_sound {X : Nat → zB} {Ret : zR} (h0 : ∀ L st σ, tX10_sound_0 X Ret L st σ → X 0 L st σ) (k0 : Nat) (x1 : Int) (x2 : Int) (σ : zM) (hk0 : z_kd k0 = (10, 0)) (hx1 : -2147483648 ≤ x1 ∧ x1 ≤ 2147483647) (hx2 : -2147483648 ≤ x2 ∧ x2 ≤ 2147483647) (hσ : z_okm σ) (h : SX10_sound [.inr (.inr (10, 0, k0)), .inl x1, .inl x2] σ Ret) : X 0 [some (.inr (.inr (10, 0, k0))), some (.inl x1), some (.inl x2)] [] σ := by
  obtain ⟨m, h⟩ := h
  obtain rfl := z_kd10 hk0
  have K := m.2.1.1
  have K0 := K.1.1
  have K1 := K.1.2.1
  have e1 : z_up σ 89 0 0 93 1 = σ 93 1 := z_up_ne (by omega)
  by_cases c : ¬ ((0 ≤ x1 ∧ x1 < σ 93 1) ∧ 0 ≤ x2)
  · have fin := h (z_up σ 89 0 0) q_th.1 q_th.2
    simp only [q_gSound, if_pos c] at fin
    refine h0 _ _ _ ?_
    simp only [z_push, z_lpush, z_iload, z_lload, z_aload, z_istore, z_istoreP, z_lstore, z_astore, z_iinc, z_iincP, z_iadd, z_isub, z_imul, z_iaddW, z_isubW, z_imulW, z_idiv, z_irem, z_iand, z_ior, z_ixor, z_ishl, z_ishr, z_iushr, z_ineg, z_i2l, z_i2b, z_i2s, z_i2c, z_l2i, z_ladd, z_lsub, z_land, z_lor, z_lshl, z_lshr, z_lcmp, z_dup, z_pop, z_dup2, z_goto, z_tsw, z_cases, z_geti, z_getr, z_puti, z_putz, z_ald, z_iast, z_bast, z_zast, z_alen, z_acopy, z_mmax, z_mmin, z_mabs, z_mabsL, z_iret, z_zret, z_nret, z_lret, z_aret, z_vret, z_cat, z_ldcs, z_strv, z_strc, z_gcs, z_gfm, z_sln, z_sald, z_ifeq, z_ifne, z_iflt, z_ifge, z_ifgt, z_ifle, z_iceq, z_icne, z_iclt, z_icge, z_icgt, z_icle, z_cs0, z_cs1, z_cs2, z_cs3, z_cs4, z_cs5, z_cs6, z_cs7, z_cv0, z_cv1, z_cv2, z_cv3, z_cv4, z_cv5, z_cv6, z_cv7, z_g0, z_s0, z_g1, z_s1, z_g2, z_s2, z_g3, z_s3, z_g4, z_s4, z_g5, z_s5, z_g6, z_s6, z_g7, z_s7, z_g8, z_s8, z_g9, z_s9, z_g10, z_s10, z_g11, z_s11, z_g12, z_s12, z_g13, z_s13, z_b0, z_b1, z_b0n, z_b1n, z_up_far1, z_up_far2, z_up_far3, z_up_far4, z_up_far5, z_up_far6, Classical.not_not, not_true_eq_false, z_in, z_inL, Int.cast_ofNat_Int, Nat.reduceLeDiff, List.length_cons, List.length_nil, Nat.reduceAdd, Nat.zero_add, Nat.le_refl, true_and, and_true, List.length, Nat.reduceLT, true_or, or_true, false_or, or_false, false_and, and_false, not_true_eq_false, not_false_eq_true, forall_const, false_implies, true_implies, Int.reduceEq, Int.reduceLT, Int.reduceLE, Int.reduceAdd, Int.reduceSub, Int.reduceMul, Int.reduceNeg, Int.reduceToNat, Int.toNat_natCast, ↓reduceIte, reduceIte, Nat.reduceEqDiff, Nat.reduceSub, Nat.reduceMul, ne_eq, Int.zero_add, Int.add_zero, Int.sub_zero, Nat.add_zero, Int.ofNat_eq_natCast, tX10_sound_0, SX10_isWind, e1]
    repeat' (first | (intro _) | (with_reducible assumption) | (refine And.intro ?_ ?_))
    all_goals first | omega | assumption | (refine z_fin fin ?_ rfl; first | rfl | omega | (split <;> omega) | (split <;> split <;> omega)) | skip
  obtain ⟨w, rfl⟩ := z_nat (show 0 ≤ x1 by omega)
  obtain ⟨k, rfl⟩ := z_nat (show 0 ≤ x2 by omega)
  refine h0 _ _ _ ?_
  simp only [z_push, z_lpush, z_iload, z_lload, z_aload, z_istore, z_istoreP, z_lstore, z_astore, z_iinc, z_iincP, z_iadd, z_isub, z_imul, z_iaddW, z_isubW, z_imulW, z_idiv, z_irem, z_iand, z_ior, z_ixor, z_ishl, z_ishr, z_iushr, z_ineg, z_i2l, z_i2b, z_i2s, z_i2c, z_l2i, z_ladd, z_lsub, z_land, z_lor, z_lshl, z_lshr, z_lcmp, z_dup, z_pop, z_dup2, z_goto, z_tsw, z_cases, z_geti, z_getr, z_puti, z_putz, z_ald, z_iast, z_bast, z_zast, z_alen, z_acopy, z_mmax, z_mmin, z_mabs, z_mabsL, z_iret, z_zret, z_nret, z_lret, z_aret, z_vret, z_cat, z_ldcs, z_strv, z_strc, z_gcs, z_gfm, z_sln, z_sald, z_ifeq, z_ifne, z_iflt, z_ifge, z_ifgt, z_ifle, z_iceq, z_icne, z_iclt, z_icge, z_icgt, z_icle, z_cs0, z_cs1, z_cs2, z_cs3, z_cs4, z_cs5, z_cs6, z_cs7, z_cv0, z_cv1, z_cv2, z_cv3, z_cv4, z_cv5, z_cv6, z_cv7, z_g0, z_s0, z_g1, z_s1, z_g2, z_s2, z_g3, z_s3, z_g4, z_s4, z_g5, z_s5, z_g6, z_s6, z_g7, z_s7, z_g8, z_s8, z_g9, z_s9, z_g10, z_s10, z_g11, z_s11, z_g12, z_s12, z_g13, z_s13, z_b0, z_b1, z_b0n, z_b1n, z_up_far1, z_up_far2, z_up_far3, z_up_far4, z_up_far5, z_up_far6, Classical.not_not, not_true_eq_false, z_in, z_inL, Int.cast_ofNat_Int, Nat.reduceLeDiff, List.length_cons, List.length_nil, Nat.reduceAdd, Nat.zero_add, Nat.le_refl, true_and, and_true, List.length, Nat.reduceLT, true_or, or_true, false_or, or_false, false_and, and_false, not_true_eq_false, not_false_eq_true, forall_const, false_implies, true_implies, Int.reduceEq, Int.reduceLT, Int.reduceLE, Int.reduceAdd, Int.reduceSub, Int.reduceMul, Int.reduceNeg, Int.reduceToNat, Int.toNat_natCast, ↓reduceIte, reduceIte, Nat.reduceEqDiff, Nat.reduceSub, Nat.reduceMul, ne_eq, Int.zero_add, Int.add_zero, Int.sub_zero, Nat.add_zero, Int.ofNat_eq_natCast, tX10_sound_0, SX10_isWind, SX10_layLengths, SX10_listen, e1]
  refine ⟨by omega, fun e => absurd e (by omega), fun _ => ⟨fun _ => fun σ1 f1 f2 => ?_, fun e => absurd e (by omega)⟩⟩
  have e93 : σ1 93 = σ 93 := funext fun j => by rw [f1 93 j (by omega), z_up_ne (by omega)]
  have t98 : ∀ t : Nat, t < 12 → σ1 98 t = σ 93 (6 + 6 * t + 0) := fun t ht => by rw [f2 t ht, z_up_ne (by omega), Nat.add_zero]
  rw [e93]
  refine ⟨⟨K, by omega, fun t ht h2 => by rw [t98 t ht]; have := K.2.1 t h2; omega⟩, fun σ2 f3 g _ => ?_⟩
  obtain ⟨g1, g2, g3⟩ := g
  have ll := q_lsD_len (D := σ 93) (w := w) K
  have fin := h σ2 (fun c hc => funext fun j => by rw [f3 c j (by omega), f1 c j (by omega), z_up_ne (by omega)]) (fun c j hc => by
    unfold q_last at hc
    rw [f3 c j (by omega), f1 c j (by omega), z_up_ne (by omega)]
    rfl)
  simp only [q_gSound, if_neg c, Int.toNat_natCast] at fin
  rw [g1]
  refine ⟨fun e => ?_, fun e => ⟨by omega, fun _ => ?_⟩⟩
  · rw [if_neg (by omega)] at fin
    exact fin
  · have gl := q_lsD_mem (D := σ 93) (w := w) (i := k) (by omega)
    rw [if_pos (by omega), ← q_tns_D (σ1 := σ1) (fun j => by rw [e93]) (t98 _ (by omega)), ← g2 k (by omega)] at fin
    exact fin
theorem dX10_sound_0 : decode cX10_sound 0 = .ok (.aload_n 0, 1) := by decide +kernel
theorem dX10_sound_1 : decode cX10_sound 1 = .ok (.iconst 0, 1) := by decide +kernel
theorem dX10_sound_2 : decode cX10_sound 2 = .ok (.putfield 65, 3) := by decide +kernel
theorem dX10_sound_5 : decode cX10_sound 5 = .ok (.aload_n 0, 1) := by decide +kernel
theorem dX10_sound_6 : decode cX10_sound 6 = .ok (.iload_n 1, 1) := by decide +kernel
theorem dX10_sound_7 : decode cX10_sound 7 = .ok (.invokevirtual 253, 3) := by decide +kernel
theorem dX10_sound_10 : decode cX10_sound 10 = .ok (.ifCond .eq 7, 3) := by decide +kernel
theorem dX10_sound_13 : decode cX10_sound 13 = .ok (.iload_n 2, 1) := by decide +kernel
theorem dX10_sound_14 : decode cX10_sound 14 = .ok (.ifCond .ge 6, 3) := by decide +kernel
theorem dX10_sound_17 : decode cX10_sound 17 = .ok (.ldc 85, 2) := by decide +kernel
theorem dX10_sound_19 : decode cX10_sound 19 = .ok (.ireturn, 1) := by decide +kernel
theorem dX10_sound_20 : decode cX10_sound 20 = .ok (.aload_n 0, 1) := by decide +kernel
theorem dX10_sound_21 : decode cX10_sound 21 = .ok (.invokevirtual 232, 3) := by decide +kernel
theorem dX10_sound_24 : decode cX10_sound 24 = .ok (.aload_n 0, 1) := by decide +kernel
theorem dX10_sound_25 : decode cX10_sound 25 = .ok (.iload_n 1, 1) := by decide +kernel
theorem dX10_sound_26 : decode cX10_sound 26 = .ok (.invokevirtual 256, 3) := by decide +kernel
theorem dX10_sound_29 : decode cX10_sound 29 = .ok (.iload_n 2, 1) := by decide +kernel
theorem dX10_sound_30 : decode cX10_sound 30 = .ok (.aload_n 0, 1) := by decide +kernel
theorem dX10_sound_31 : decode cX10_sound 31 = .ok (.getfield 246, 3) := by decide +kernel
theorem dX10_sound_34 : decode cX10_sound 34 = .ok (.if_icmp .ge 12, 3) := by decide +kernel
theorem dX10_sound_37 : decode cX10_sound 37 = .ok (.aload_n 0, 1) := by decide +kernel
theorem dX10_sound_38 : decode cX10_sound 38 = .ok (.getfield 37, 3) := by decide +kernel
theorem dX10_sound_41 : decode cX10_sound 41 = .ok (.iload_n 2, 1) := by decide +kernel
theorem dX10_sound_42 : decode cX10_sound 42 = .ok (.iaload, 1) := by decide +kernel
theorem dX10_sound_43 : decode cX10_sound 43 = .ok (.goto 5, 3) := by decide +kernel
theorem dX10_sound_46 : decode cX10_sound 46 = .ok (.ldc 101, 2) := by decide +kernel
theorem dX10_sound_48 : decode cX10_sound 48 = .ok (.ireturn, 1) := by decide +kernel
set_option maxRecDepth 100000 in
theorem rX10_sound_0 {p : Program} {l : Launch} {e : Env} {s : State} {m : MethodId} {args : Array Value} {below : List Frame} {meth : Method} {c : Code} {D : va_G} {cA : Nat → ClassId} {ad : Nat → Nat} {Ret : zR} (C : z_Cx p { frames := 3, cells := 0, slots := 0, locals := 68 } s m args c cX10_sound yX10_sound.cls 3 D cA ad) (hr : meth.sig.returnType = (some .int)) (hlocks : meth.locks = false) : ∀ L st σ, tX10_sound_0 (z_X p l e { frames := 3, cells := 0, slots := 0, locals := 68 } s m args below meth c (MQ below (z_Qc D cA ad Ret) args s 0 0 (z_A ad)) 3 D cA ad true) Ret L st σ → z_X p l e { frames := 3, cells := 0, slots := 0, locals := 68 } s m args below meth c (MQ below (z_Qc D cA ad Ret) args s 0 0 (z_A ad)) 3 D cA ad true 0 L st σ := (s_aload_n C dX10_sound_0 rfl (s_iconst C dX10_sound_1 rfl ⟨by decide, by decide⟩ (s_puti C dX10_sound_2 cls_X10 (by decide) rfl wd_968 rfl rfl (s_aload_n C dX10_sound_5 rfl (s_iload_n C dX10_sound_6 rfl (s_cv1 C dX10_sound_7 (okX10_isWind l) cls_X10 wd_1257 wd_1259 wd_59 wd_85 wd_1260 ⟨by decide, by decide, by decide +kernel⟩ ⟨by decide, by decide⟩ (s_ifeq C dX10_sound_10 (by decide) (s_ldc C dX10_sound_17 (v := -1000001) wd_1086 ⟨by decide, by decide⟩ (s_iret C dX10_sound_19 hr hlocks)) (s_iload_n C dX10_sound_13 rfl (s_ifge C dX10_sound_14 (by decide) (s_aload_n C dX10_sound_20 rfl (s_cv0 C dX10_sound_21 (okX10_layLengths l) cls_X10 wd_1228 wd_1230 wd_54 wd_85 wd_1231 ⟨by decide, by decide, by decide +kernel⟩ ⟨by decide, by decide⟩ (s_aload_n C dX10_sound_24 rfl (s_iload_n C dX10_sound_25 rfl (s_cv1 C dX10_sound_26 (okX10_listen l) cls_X10 wd_1261 wd_1263 wd_60 wd_85 wd_1264 ⟨by decide, by decide, by decide +kernel⟩ ⟨by decide, by decide⟩ (s_iload_n C dX10_sound_29 rfl (s_aload_n C dX10_sound_30 rfl (s_geti C dX10_sound_31 cls_X10 (by decide) rfl wd_992 (s_icge C dX10_sound_34 (by decide) (s_ldc C dX10_sound_46 (v := -1000000) wd_1127 ⟨by decide, by decide⟩ (s_iret C dX10_sound_48 hr hlocks)) (s_aload_n C dX10_sound_37 rfl (s_getr C dX10_sound_38 (j := 22) cls_X10 (by decide) rfl (by decide) (by decide) (by decide +kernel) wd_990 (s_iload_n C dX10_sound_41 rfl (s_iald C dX10_sound_42 (s_goto C dX10_sound_43 (by decide) (s_iret C dX10_sound_48 hr hlocks))))))))))))))) (s_ldc C dX10_sound_17 (v := -1000001) wd_1086 ⟨by decide, by decide⟩ (s_iret C dX10_sound_19 hr hlocks)))))))))))
theorem okX10_sound (l : Launch) : z_OK l yX10_sound cX10_sound 3 (some .int) 3 68 SX10_sound := by
  refine z_ok_of true (by decide +kernel) ?_ ?_
  · intro as σ Ret h
    obtain ⟨k0, x1, x2, rfl⟩ := pX10_sound h
    exact ⟨Nat.le_of_ble_eq_true rfl, by simp⟩
  · intro p e s m args below meth c D cA ad Ret C hr hlocks as σ has hσ h
    obtain ⟨k0, x1, x2, rfl⟩ := pX10_sound h
    exact vX10_sound (rX10_sound_0 C hr hlocks) k0 x1 x2 σ (has _ (List.mem_of_getElem? (i := 0) rfl)) (has _ (List.mem_of_getElem? (i := 1) rfl)) (has _ (List.mem_of_getElem? (i := 2) rfl)) hσ h
