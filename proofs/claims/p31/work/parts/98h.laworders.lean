/-! an order, told and done in the law's own row -/
theorem z_kd64 {k : Nat} (h : z_kd k = (100, 64)) : 108 ≤ k ∧ k < 111 := by
  have key : ∀ i, i < 111 → z_kd i = (100, 64) → 108 ≤ i := by decide +kernel
  have := z_kd_lt h (by decide)
  exact ⟨key k this h, this⟩
def w_otr (zx : zX) (x : Int) : Int := w_low (w_sar x 3) (w_nt zx)
def w_on (x : Int) : Int := if w_low x 8 < 2 then 1 + w_low (w_sar x 7) (if w_b1 (w_sar x 30) = 0 then 12 else 89) else w_low (w_sar x 7) 8
theorem w_otr_in (zx : zX) (x : Int) : 0 ≤ w_otr zx x ∧ w_otr zx x < w_nt zx := w_low_in (w_nt_in zx).1
theorem w_on_in (x : Int) : (w_low x 8 < 2 → 1 ≤ w_on x ∧ w_on x ≤ 89) ∧ (2 ≤ w_low x 8 → 0 ≤ w_on x ∧ w_on x ≤ 7) := by
  unfold w_on
  by_cases h : w_low x 8 < 2
  · rw [if_pos h]
    have := w_low_if (w_sar x 7) (w_b1 (w_sar x 30)) (a := 12) (b := 89) (by omega) (by omega)
    omega
  · rw [if_neg h]
    have := w_low_in (v := w_sar x 7) (n := 8) (by omega)
    omega
def w_ow (o : Int) : Int × List Int := if o = 0 then (6518132, [99, 117, 116]) else if o = 1 then (7103860, [108, 101, 116]) else if o = 2 then (1953854062, [116, 117, 114, 110]) else if o = 3 then (6906725, [105, 99, 101]) else if o = 4 then (1952997751, [116, 104, 97, 119]) else if o = 5 then (1717922924, [102, 101, 108, 108]) else if o = 6 then (7824756, [119, 101, 116]) else (6582905, [100, 114, 121])
theorem w_ow_in (o : Int) : w_ow o ∈ w_wd := by
  unfold w_ow
  repeat' split
  all_goals decide
theorem w_ow_len (o : Int) : (w_ow o).2.length ≤ 4 := ((w_wd_ok _ (w_ow_in o)).1).2
def w_ot (o tr n : Int) : List Int := (w_ow o).2 ++ ((if o < 6 then w_num tr else []) ++ ((if o < 3 then w_num n else []) ++ [59]))
def w_od (D : Nat → Int) (o tr n : Int) : Int := if o < 2 then D (q_pl o tr).toNat - q_new o n (D (q_pl o tr).toNat) else D (q_pl o tr).toNat
theorem w_t_put {σ τ : zM} {k p : Nat} {D : Nat → Int} {v w : Int} (tt : w_t σ k D) (d8 : D 0 ≤ 8) (e2 : p = 4 ∨ (6 ≤ p ∧ p < 54)) (e4 : ∀ j, τ k j = if j = 50 then w else if j = (if p = 4 then 48 else p - 6) then v else σ k j) : w_t τ k (q_d1 (q_d1 D p v) 5 w) := by
  have D0 : q_d1 (q_d1 D p v) 5 w 0 = D 0 := by rw [q_d1_ne (by omega), q_d1_ne (by omega)]
  refine ⟨fun t q ht hq => ?_, ?_, ?_, ?_⟩
  · rw [D0] at ht
    rw [e4, if_neg (by omega), q_d1_ne (by omega)]
    by_cases e : 6 + 6 * t + q = p
    · rw [← e, q_d1_eq, if_pos (by rw [if_neg (by omega)]; omega)]
    · rw [q_d1_ne e, if_neg (by split <;> omega)]
      exact tt.1 t q ht hq
  · rw [e4, if_neg (by omega), q_d1_ne (by omega)]
    by_cases e : p = 4
    · subst e
      rw [q_d1_eq, if_pos rfl, if_pos rfl]
    · rw [q_d1_ne (by omega), if_neg (by rw [if_neg e]; omega)]
      exact tt.2.1
  · rw [e4, if_neg (by omega), q_d1_ne (by omega), q_d1_ne (by omega), if_neg (by split <;> omega)]
    exact tt.2.2.1
  · rw [e4, if_pos rfl, q_d1_eq]
def SL_orders (zx : zX) : zS := fun as σ Ret => match as with
  | [.inr (.inr (9, 0, _)), .inr (.inr (252, 0, _)), .inr (.inr (100, 64, k)), .inl x] => ∃ D0 O0 b D, w_at σ D0 O0 1 b ∧ (w_ok zx D ∧ w_t σ k D ∧ 0 ≤ D 5 ∧ D 5 < 60) ∧ b.length ≤ 300 ∧ ∀ σ', (∀ c, 108 ≤ c → c ≠ k → σ' c = σ c) → w_at σ' D0 O0 1 (b ++ w_ot (w_low x 8) (w_otr zx x) (w_on x)) → w_t σ' k (q_ddD D (w_low x 8) (w_otr zx x).toNat (w_on x)) → Ret (some (.inl (w_enc (q_pl (w_low x 8) (w_otr zx x)) (if w_low x 8 < 2 then 1 else 0) (w_od D (w_low x 8) (w_otr zx x) (w_on x))))) σ'
  | _ => False
def tL_orders_0 (zx : zX) (X : Nat → zB) (Ret : zR) (L : zL) (st : List zV) (σ : zM) : Prop := (z_iload 3 (z_push 8 (z_cs2 (SL_low zx) (z_istore 4 (z_iload 3 (z_push 3 (z_ishr (z_aload 1 (z_cs1 (SL_trees zx) (z_cs2 (SL_low zx) (z_istore 5 (z_iload 4 (z_push 2 (z_icge (z_iload 3 (z_push 7 (z_ishr (z_push 8 (z_cs2 (SL_low zx) (X 63)))))) (z_push 1 (z_iload 3 (z_push 7 (z_ishr (z_iload 3 (z_push 30 (z_ishr (z_push 1 (z_iand (z_ifne (z_push 89 (X 47)) (z_push 12 (z_goto (X 47))))))))))))))))))))))))))) L st σ
def tL_orders_47 (zx : zX) (X : Nat → zB) (Ret : zR) (L : zL) (st : List zV) (σ : zM) : Prop := (z_cs2 (SL_low zx) (z_iadd (z_goto (X 63)))) L st σ
def tL_orders_63 (zx : zX) (X : Nat → zB) (Ret : zR) (L : zL) (st : List zV) (σ : zM) : Prop := (z_istore 6 (z_aload 0 (z_iload 4 (z_ifne (z_iload 4 (z_push 1 (z_icne (z_iload 4 (z_push 2 (z_icne (z_iload 4 (z_push 3 (z_icne (z_iload 4 (z_push 4 (z_icne (z_iload 4 (z_push 5 (z_icne (z_iload 4 (z_push 6 (z_icne (z_lpush 6582905 (X 153)) (z_lpush 7824756 (z_goto (X 153)))))) (z_lpush 1717922924 (z_goto (X 153)))))) (z_lpush 1952997751 (z_goto (X 153)))))) (z_lpush 6906725 (z_goto (X 153)))))) (z_lpush 1953854062 (z_goto (X 153)))))) (z_lpush 7103860 (z_goto (X 153)))))) (z_lpush 6518132 (z_goto (X 153))))))) L st σ
def tL_orders_153 (zx : zX) (X : Nat → zB) (Ret : zR) (L : zL) (st : List zV) (σ : zM) : Prop := (z_cs2 (SL_word zx) (z_iload 4 (z_push 6 (z_icge (X 169) (z_aload 0 (z_iload 5 (z_cs2 (SL_number zx) (X 169)))))))) L st σ
def tL_orders_169 (zx : zX) (X : Nat → zB) (Ret : zR) (L : zL) (st : List zV) (σ : zM) : Prop := (z_iload 4 (z_push 3 (z_icge (X 181) (z_aload 0 (z_iload 6 (z_cs2 (SL_number zx) (X 181))))))) L st σ
def tL_orders_181 (zx : zX) (X : Nat → zB) (Ret : zR) (L : zL) (st : List zV) (σ : zM) : Prop := (z_aload 0 (z_lpush 59 (z_cs2 (SL_word zx) (z_iload 4 (z_push 2 (z_icge (z_iload 4 (z_push 2 (z_icne (z_iload 4 (z_push 5 (z_icge (z_iload 4 (z_push 5 (z_icne (z_push 48 (X 252)) (z_push 6 (z_iload 5 (z_imul (z_push 5 (z_iadd (z_goto (X 252)))))))))) (z_push 6 (z_iload 5 (z_imul (z_push 4 (z_iadd (z_goto (X 252)))))))))) (z_push 6 (z_iload 5 (z_imul (z_push 2 (z_iadd (z_goto (X 252)))))))))) (z_push 6 (z_iload 5 (z_imul (z_goto (X 252))))))))))) L st σ
def tL_orders_252 (zx : zX) (X : Nat → zB) (Ret : zR) (L : zL) (st : List zV) (σ : zM) : Prop := (z_istore 7 (z_aload 2 (z_iload 7 (z_ald 0 (z_istore 8 (z_aload 2 (z_iload 7 (z_iload 4 (z_ifne (z_iload 4 (z_push 1 (z_icne (z_iload 4 (z_push 2 (z_icne (z_iload 4 (z_push 3 (z_iceq (X 326) (z_iload 4 (z_push 5 (z_iceq (X 326) (z_iload 4 (z_push 6 (z_icne (z_push 0 (X 331)) (X 326)))))))))) (z_iload 6 (z_goto (X 331)))))) (z_iload 8 (z_iload 6 (z_iadd (z_cs1 (SL_fit zx) (z_goto (X 331))))))))) (z_iload 8 (z_iload 6 (z_isub (z_cs1 (SL_fit zx) (z_goto (X 331))))))))))))))) L st σ
def tL_orders_326 (zx : zX) (X : Nat → zB) (Ret : zR) (L : zL) (st : List zV) (σ : zM) : Prop := (z_push 1 (z_goto (X 331))) L st σ
def tL_orders_331 (zx : zX) (X : Nat → zB) (Ret : zR) (L : zL) (st : List zV) (σ : zM) : Prop := (z_iast (z_aload 2 (z_push 50 (z_dup2 (z_ald 0 (z_push 1 (z_iadd (z_iast (z_iload 7 (z_iload 4 (z_push 2 (z_icge (z_push 0 (X 354)) (z_push 64 (z_goto (X 354))))))))))))))) L st σ
def tL_orders_354 (zx : zX) (X : Nat → zB) (Ret : zR) (L : zL) (st : List zV) (σ : zM) : Prop := (z_iadd (z_push 128 (z_iload 4 (z_push 2 (z_icge (z_iload 8 (z_imul (z_iadd (z_iret Ret)))) (z_iload 8 (z_aload 2 (z_iload 7 (z_ald 0 (z_isub (z_push 1000 (z_iadd (z_goto (z_imul (z_iadd (z_iret Ret)))))))))))))))) L st σ
theorem pL_orders {zx : zX} {as : List zV} {σ : zM} {Ret : zR} (h : (SL_orders zx) as σ Ret) : ∃ (k1 : Nat) (k2 : Nat) (k3 : Nat) (x4 : Int), as = [.inr (.inr (9, 0, k1)), .inr (.inr (252, 0, k2)), .inr (.inr (100, 64, k3)), .inl x4] := by
  unfold SL_orders at h
  split at h
  · exact ⟨_, _, _, _, rfl⟩
  · exact h.elim
set_option maxRecDepth 10000 in
set_option maxHeartbeats 4000000 in
theorem vL_orders {zx : zX} {X : Nat → zB} {Ret : zR} (h0 : ∀ L st σ, tL_orders_0 zx X Ret L st σ → X 0 L st σ) (h47 : ∀ L st σ, tL_orders_47 zx X Ret L st σ → X 47 L st σ) (h63 : ∀ L st σ, tL_orders_63 zx X Ret L st σ → X 63 L st σ) (h153 : ∀ L st σ, tL_orders_153 zx X Ret L st σ → X 153 L st σ) (h169 : ∀ L st σ, tL_orders_169 zx X Ret L st σ → X 169 L st σ) (h181 : ∀ L st σ, tL_orders_181 zx X Ret L st σ → X 181 L st σ) (h252 : ∀ L st σ, tL_orders_252 zx X Ret L st σ → X 252 L st σ) (h326 : ∀ L st σ, tL_orders_326 zx X Ret L st σ → X 326 L st σ) (h331 : ∀ L st σ, tL_orders_331 zx X Ret L st σ → X 331 L st σ) (h354 : ∀ L st σ, tL_orders_354 zx X Ret L st σ → X 354 L st σ) (k1 : Nat) (k2 : Nat) (k3 : Nat) (x4 : Int) (σ : zM) (hk1 : z_kd k1 = (9, 0)) (hk2 : z_kd k2 = (252, 0)) (hk3 : z_kd k3 = (100, 64)) (hx4 : -2147483648 ≤ x4 ∧ x4 ≤ 2147483647) (hσ : z_okm σ) (h : (SL_orders zx) [.inr (.inr (9, 0, k1)), .inr (.inr (252, 0, k2)), .inr (.inr (100, 64, k3)), .inl x4] σ Ret) : X 0 [some (.inr (.inr (9, 0, k1))), some (.inr (.inr (252, 0, k2))), some (.inr (.inr (100, 64, k3))), some (.inl x4), none, none, none, none, none] [] σ := by
  obtain ⟨D0, O0, b, D, a, ⟨ok, tt, d5, d60⟩, bl, h⟩ := h
  have hk := z_kd64 hk3
  have oi := w_low_in (v := x4) (n := 8) (by omega)
  have ti := w_otr_in zx x4
  have ni := w_on_in x4
  have nt := w_nt_in zx
  have ex : ∀ (Q : Int → Int → Int → Prop), Q (w_low x4 8) (w_otr zx x4) (w_on x4) → ∃ o t n, o = w_low x4 8 ∧ t = w_otr zx x4 ∧ n = w_on x4 ∧ Q o t n := fun Q q => ⟨_, _, _, rfl, rfl, rfl, q⟩
  obtain ⟨o, ti9, n, ho, ht, hn, -⟩ := ex (fun _ _ _ => True) trivial
  rw [← ho, ← ht, ← hn] at h
  rw [← ho] at oi ni
  rw [← ht] at ti
  rw [← hn] at ni
  obtain ⟨t, rfl⟩ := z_nat ti.1
  have K := ok.1
  have n0 := ok.2.1.1
  have tD : (t : Int) < D 0 := by omega
  have oc : 0 ≤ o ∧ o ≤ 7 := by omega
  rw [Int.toNat_natCast] at h
  -- the place in the law's row
  have pc := q_pl_cases o t oc
  have pat := q_Dok_at K oc tD
  have pne := q_pl_ne (o := o) (t := t) oc
  obtain ⟨p, hp⟩ : ∃ p : Nat, p = (q_pl o t).toNat := ⟨_, rfl⟩
  obtain ⟨l, hl⟩ : ∃ l : Nat, l = if p = 4 then 48 else p - 6 := ⟨_, rfl⟩
  have l9 : l ≤ 48 ∧ (p = 4 → l = 48) ∧ (¬ p = 4 → l + 6 = p) := by
    split at hl <;> omega
  have tl : σ k3 l = D p := by
    rw [← hp] at pc
    rcases pc with ⟨e, -, e2⟩ | ⟨e, -, e2⟩ | ⟨e, -, e2⟩ | ⟨e, -, e2⟩ | ⟨e, -, e2⟩
    · rw [e2, show l = 6 * t + 0 by omega]; exact tt.1 t 0 tD (by omega)
    · rw [e2, show l = 6 * t + 2 by omega]; exact tt.1 t 2 tD (by omega)
    · rw [e2, show l = 6 * t + 4 by omega]; exact tt.1 t 4 tD (by omega)
    · rw [e2, show l = 6 * t + 5 by omega]; exact tt.1 t 5 tD (by omega)
    · rw [e2, show l = 48 by omega]; exact tt.2.1
  rw [← hp] at pat pne
  have ni2 : o = 2 → 0 ≤ n ∧ n ≤ 7 := fun e => by omega
  have nw := q_new_in (o := o) (n := n) (v := D p) oc ni2
  -- the end: the row has changed, and that is told
  have fin : ∀ (τ : zM) (v : Int), (∀ c, 108 ≤ c → c ≠ k3 → τ c = σ c) → w_at τ D0 O0 1 (b ++ w_ot o t n) → (∀ j, τ k3 j = if j = 50 then D 5 + 1 else if j = l then q_new o n (D p) else σ k3 j) → v = (l : Int) + 64 * (if o < 2 then 1 else 0) + 128 * (if o < 2 then D p - q_new o n (D p) + 1000 else D p) → Ret (some (.inl v)) τ := by
    intro τ v f ta r ev
    have wt : w_t τ k3 (q_ddD D o t n) := by
      unfold q_ddD
      rw [← hp]
      exact w_t_put tt (by omega) (by omega) (by rw [← hl]; exact r)
    have g := h τ f ta wt
    refine z_fin g ?_ rfl
    rw [ev]
    unfold w_enc w_od
    rw [← hp]
    rw [← hp] at pc
    have e : (if q_pl o t = 4 then 48 else q_pl o t - 6) = (l : Int) := by
      split <;> omega
    rw [e]
    by_cases c : o < 2
    · simp only [if_pos c, ↓reduceIte]
    · simp only [if_neg c]
      rfl
  have X354 : ∀ (τ : zM), (∀ c, 108 ≤ c → c ≠ k3 → τ c = σ c) → w_at τ D0 O0 1 (b ++ w_ot o t n) → (∀ j, τ k3 j = if j = 50 then D 5 + 1 else if j = l then q_new o n (D p) else σ k3 j) → X 354 [some (.inr (.inr (9, 0, k1))), some (.inr (.inr (252, 0, k2))), some (.inr (.inr (100, 64, k3))), some (.inl x4), some (.inl o), some (.inl (t : Int)), some (.inl n), some (.inl (l : Int)), some (.inl (D p))] [.inl (if o < 2 then 64 else 0), .inl (l : Int)] τ := by
    intro τ f ta r
    have rl : τ k3 l = q_new o n (D p) := by rw [r, if_neg (by omega), if_pos rfl]
    have g := fin τ _ f ta r rfl
    refine h354 _ _ _ ?_
    simp only [z_push, z_lpush, z_iload, z_lload, z_aload, z_istore, z_istoreP, z_lstore, z_astore, z_iinc, z_iincP, z_iadd, z_isub, z_imul, z_iaddW, z_isubW, z_imulW, z_idiv, z_irem, z_iand, z_ior, z_ixor, z_ishl, z_ishr, z_iushr, z_ineg, z_i2l, z_i2b, z_i2s, z_i2c, z_l2i, z_ladd, z_lsub, z_land, z_lor, z_lshl, z_lshr, z_lcmp, z_dup, z_pop, z_dup2, z_goto, z_tsw, z_cases, z_geti, z_getr, z_puti, z_putz, z_ald, z_iast, z_bast, z_zast, z_alen, z_acopy, z_mmax, z_mmin, z_mabs, z_mabsL, z_iret, z_zret, z_nret, z_lret, z_aret, z_vret, z_cat, z_xald, z_xlen, z_ldcs, z_strv, z_strc, z_gcs, z_gfm, z_sln, z_sald, z_ifeq, z_ifne, z_iflt, z_ifge, z_ifgt, z_ifle, z_iceq, z_icne, z_iclt, z_icge, z_icgt, z_icle, z_cs0, z_cs1, z_cs2, z_cs3, z_cs4, z_cs5, z_cs6, z_cs7, z_cv0, z_cv1, z_cv2, z_cv3, z_cv4, z_cv5, z_cv6, z_cv7, z_g0, z_s0, z_g1, z_s1, z_g2, z_s2, z_g3, z_s3, z_g4, z_s4, z_g5, z_s5, z_g6, z_s6, z_g7, z_s7, z_g8, z_s8, z_g9, z_s9, z_g10, z_s10, z_g11, z_s11, z_g12, z_s12, z_g13, z_s13, z_b0, z_b1, z_b0n, z_b1n, z_up_far1, z_up_far2, z_up_far3, z_up_far4, z_up_far5, z_up_far6, Classical.not_not, not_true_eq_false, z_in, z_inL, Int.cast_ofNat_Int, Nat.reduceLeDiff, List.length_cons, List.length_nil, Nat.reduceAdd, Nat.zero_add, Nat.le_refl, true_and, and_true, List.length, Nat.reduceLT, true_or, or_true, false_or, or_false, false_and, and_false, not_true_eq_false, not_false_eq_true, forall_const, false_implies, true_implies, Int.reduceEq, Int.reduceLT, Int.reduceLE, Int.reduceAdd, Int.reduceSub, Int.reduceMul, Int.reduceNeg, Int.reduceToNat, Int.toNat_natCast, ↓reduceIte, reduceIte, Nat.reduceEqDiff, Nat.reduceSub, Nat.reduceMul, ne_eq, Int.zero_add, Int.add_zero, Int.sub_zero, Nat.add_zero, Int.ofNat_eq_natCast, tL_orders_354, rl]
    by_cases c : o < 2
    · simp only [if_pos c] at g ⊢
      repeat' (first | (intro _) | (with_reducible assumption) | (refine And.intro ?_ ?_))
      all_goals first | omega | assumption | (refine z_fin g ?_ rfl; first | rfl | omega | (split <;> omega) | (split <;> split <;> omega)) | skip
    · simp only [if_neg c] at g ⊢
      repeat' (first | (intro _) | (with_reducible assumption) | (refine And.intro ?_ ?_))
      all_goals first | omega | assumption | (refine z_fin g ?_ rfl; first | rfl | omega | (split <;> omega) | (split <;> split <;> omega)) | skip
  have X331 : ∀ (τ : zM) (v : Int), v = q_new o n (D p) → (∀ c, 108 ≤ c → τ c = σ c) → w_at τ D0 O0 1 (b ++ w_ot o t n) → X 331 [some (.inr (.inr (9, 0, k1))), some (.inr (.inr (252, 0, k2))), some (.inr (.inr (100, 64, k3))), some (.inl x4), some (.inl o), some (.inl (t : Int)), some (.inl n), some (.inl (l : Int)), some (.inl (D p))] [.inl v, .inl (l : Int), .inr (.inr (100, 64, k3))] τ := by
    intro τ v ev f ta
    have r50 : z_up τ k3 l v k3 50 = D 5 := by rw [z_up_ne (by omega), f k3 hk.1]; exact tt.2.2.2
    have g := X354 (z_up (z_up τ k3 l v) k3 50 (D 5 + 1)) (fun c h1 h2 => by
      rw [show z_up (z_up τ k3 l v) k3 50 (D 5 + 1) c = τ c from funext fun j => by rw [z_up_ne (by omega), z_up_ne (by omega)]]
      exact f c h1) (w_at_cg ta (fun c hc => funext fun j => by rw [z_up_ne (by omega), z_up_ne (by omega)])) (fun j => by
      by_cases e : j = 50
      · subst e; rw [z_up_eq, if_pos rfl]
      · rw [z_up_ne (by omega), if_neg e]
        by_cases e2 : j = l
        · subst e2; rw [z_up_eq, if_pos rfl, ev]
        · rw [z_up_ne (by omega), if_neg e2, f k3 hk.1])
    refine h331 _ _ _ ?_
    simp only [z_push, z_lpush, z_iload, z_lload, z_aload, z_istore, z_istoreP, z_lstore, z_astore, z_iinc, z_iincP, z_iadd, z_isub, z_imul, z_iaddW, z_isubW, z_imulW, z_idiv, z_irem, z_iand, z_ior, z_ixor, z_ishl, z_ishr, z_iushr, z_ineg, z_i2l, z_i2b, z_i2s, z_i2c, z_l2i, z_ladd, z_lsub, z_land, z_lor, z_lshl, z_lshr, z_lcmp, z_dup, z_pop, z_dup2, z_goto, z_tsw, z_cases, z_geti, z_getr, z_puti, z_putz, z_ald, z_iast, z_bast, z_zast, z_alen, z_acopy, z_mmax, z_mmin, z_mabs, z_mabsL, z_iret, z_zret, z_nret, z_lret, z_aret, z_vret, z_cat, z_xald, z_xlen, z_ldcs, z_strv, z_strc, z_gcs, z_gfm, z_sln, z_sald, z_ifeq, z_ifne, z_iflt, z_ifge, z_ifgt, z_ifle, z_iceq, z_icne, z_iclt, z_icge, z_icgt, z_icle, z_cs0, z_cs1, z_cs2, z_cs3, z_cs4, z_cs5, z_cs6, z_cs7, z_cv0, z_cv1, z_cv2, z_cv3, z_cv4, z_cv5, z_cv6, z_cv7, z_g0, z_s0, z_g1, z_s1, z_g2, z_s2, z_g3, z_s3, z_g4, z_s4, z_g5, z_s5, z_g6, z_s6, z_g7, z_s7, z_g8, z_s8, z_g9, z_s9, z_g10, z_s10, z_g11, z_s11, z_g12, z_s12, z_g13, z_s13, z_b0, z_b1, z_b0n, z_b1n, z_up_far1, z_up_far2, z_up_far3, z_up_far4, z_up_far5, z_up_far6, Classical.not_not, not_true_eq_false, z_in, z_inL, Int.cast_ofNat_Int, Nat.reduceLeDiff, List.length_cons, List.length_nil, Nat.reduceAdd, Nat.zero_add, Nat.le_refl, true_and, and_true, List.length, Nat.reduceLT, true_or, or_true, false_or, or_false, false_and, and_false, not_true_eq_false, not_false_eq_true, forall_const, false_implies, true_implies, Int.reduceEq, Int.reduceLT, Int.reduceLE, Int.reduceAdd, Int.reduceSub, Int.reduceMul, Int.reduceNeg, Int.reduceToNat, Int.toNat_natCast, ↓reduceIte, reduceIte, Nat.reduceEqDiff, Nat.reduceSub, Nat.reduceMul, ne_eq, Int.zero_add, Int.add_zero, Int.sub_zero, Nat.add_zero, Int.ofNat_eq_natCast, tL_orders_331, r50]
    by_cases c : o < 2
    · simp only [if_pos c] at g
      repeat' (first | (intro _) | (with_reducible assumption) | (refine And.intro ?_ ?_))
      all_goals first | omega | assumption | (refine z_fin g ?_ rfl; first | rfl | omega | (split <;> omega) | (split <;> split <;> omega)) | skip
    · simp only [if_neg c] at g
      repeat' (first | (intro _) | (with_reducible assumption) | (refine And.intro ?_ ?_))
      all_goals first | omega | assumption | (refine z_fin g ?_ rfl; first | rfl | omega | (split <;> omega) | (split <;> split <;> omega)) | skip
  have X326 : ∀ (τ : zM), q_new o n (D p) = 1 → (∀ c, 108 ≤ c → τ c = σ c) → w_at τ D0 O0 1 (b ++ w_ot o t n) → X 326 [some (.inr (.inr (9, 0, k1))), some (.inr (.inr (252, 0, k2))), some (.inr (.inr (100, 64, k3))), some (.inl x4), some (.inl o), some (.inl (t : Int)), some (.inl n), some (.inl (l : Int)), some (.inl (D p))] [.inl (l : Int), .inr (.inr (100, 64, k3))] τ := by
    intro τ ev f ta
    refine h326 _ _ _ ?_
    simp only [z_push, z_lpush, z_iload, z_lload, z_aload, z_istore, z_istoreP, z_lstore, z_astore, z_iinc, z_iincP, z_iadd, z_isub, z_imul, z_iaddW, z_isubW, z_imulW, z_idiv, z_irem, z_iand, z_ior, z_ixor, z_ishl, z_ishr, z_iushr, z_ineg, z_i2l, z_i2b, z_i2s, z_i2c, z_l2i, z_ladd, z_lsub, z_land, z_lor, z_lshl, z_lshr, z_lcmp, z_dup, z_pop, z_dup2, z_goto, z_tsw, z_cases, z_geti, z_getr, z_puti, z_putz, z_ald, z_iast, z_bast, z_zast, z_alen, z_acopy, z_mmax, z_mmin, z_mabs, z_mabsL, z_iret, z_zret, z_nret, z_lret, z_aret, z_vret, z_cat, z_xald, z_xlen, z_ldcs, z_strv, z_strc, z_gcs, z_gfm, z_sln, z_sald, z_ifeq, z_ifne, z_iflt, z_ifge, z_ifgt, z_ifle, z_iceq, z_icne, z_iclt, z_icge, z_icgt, z_icle, z_cs0, z_cs1, z_cs2, z_cs3, z_cs4, z_cs5, z_cs6, z_cs7, z_cv0, z_cv1, z_cv2, z_cv3, z_cv4, z_cv5, z_cv6, z_cv7, z_g0, z_s0, z_g1, z_s1, z_g2, z_s2, z_g3, z_s3, z_g4, z_s4, z_g5, z_s5, z_g6, z_s6, z_g7, z_s7, z_g8, z_s8, z_g9, z_s9, z_g10, z_s10, z_g11, z_s11, z_g12, z_s12, z_g13, z_s13, z_b0, z_b1, z_b0n, z_b1n, z_up_far1, z_up_far2, z_up_far3, z_up_far4, z_up_far5, z_up_far6, Classical.not_not, not_true_eq_false, z_in, z_inL, Int.cast_ofNat_Int, Nat.reduceLeDiff, List.length_cons, List.length_nil, Nat.reduceAdd, Nat.zero_add, Nat.le_refl, true_and, and_true, List.length, Nat.reduceLT, true_or, or_true, false_or, or_false, false_and, and_false, not_true_eq_false, not_false_eq_true, forall_const, false_implies, true_implies, Int.reduceEq, Int.reduceLT, Int.reduceLE, Int.reduceAdd, Int.reduceSub, Int.reduceMul, Int.reduceNeg, Int.reduceToNat, Int.toNat_natCast, ↓reduceIte, reduceIte, Nat.reduceEqDiff, Nat.reduceSub, Nat.reduceMul, ne_eq, Int.zero_add, Int.add_zero, Int.sub_zero, Nat.add_zero, Int.ofNat_eq_natCast, tL_orders_326]
    exact X331 τ 1 ev.symm f ta
  have X252 : ∀ (τ : zM) (v : Int), v = (l : Int) → (∀ c, 108 ≤ c → τ c = σ c) → w_at τ D0 O0 1 (b ++ w_ot o t n) → X 252 [some (.inr (.inr (9, 0, k1))), some (.inr (.inr (252, 0, k2))), some (.inr (.inr (100, 64, k3))), some (.inl x4), some (.inl o), some (.inl (t : Int)), some (.inl n), none, none] [.inl v] τ := by
    intro τ v ev f ta
    subst ev
    have rl : τ k3 l = D p := by rw [f k3 hk.1, tl]
    have g := fun v ev => X331 τ v ev f ta
    have g2 := fun ev => X326 τ ev f ta
    have e0 : w_fit (D p - n) = max 10 (min 999 (D p + -n)) := by unfold w_fit; rw [Int.sub_eq_add_neg]
    refine h252 _ _ _ ?_
    simp only [z_push, z_lpush, z_iload, z_lload, z_aload, z_istore, z_istoreP, z_lstore, z_astore, z_iinc, z_iincP, z_iadd, z_isub, z_imul, z_iaddW, z_isubW, z_imulW, z_idiv, z_irem, z_iand, z_ior, z_ixor, z_ishl, z_ishr, z_iushr, z_ineg, z_i2l, z_i2b, z_i2s, z_i2c, z_l2i, z_ladd, z_lsub, z_land, z_lor, z_lshl, z_lshr, z_lcmp, z_dup, z_pop, z_dup2, z_goto, z_tsw, z_cases, z_geti, z_getr, z_puti, z_putz, z_ald, z_iast, z_bast, z_zast, z_alen, z_acopy, z_mmax, z_mmin, z_mabs, z_mabsL, z_iret, z_zret, z_nret, z_lret, z_aret, z_vret, z_cat, z_xald, z_xlen, z_ldcs, z_strv, z_strc, z_gcs, z_gfm, z_sln, z_sald, z_ifeq, z_ifne, z_iflt, z_ifge, z_ifgt, z_ifle, z_iceq, z_icne, z_iclt, z_icge, z_icgt, z_icle, z_cs0, z_cs1, z_cs2, z_cs3, z_cs4, z_cs5, z_cs6, z_cs7, z_cv0, z_cv1, z_cv2, z_cv3, z_cv4, z_cv5, z_cv6, z_cv7, z_g0, z_s0, z_g1, z_s1, z_g2, z_s2, z_g3, z_s3, z_g4, z_s4, z_g5, z_s5, z_g6, z_s6, z_g7, z_s7, z_g8, z_s8, z_g9, z_s9, z_g10, z_s10, z_g11, z_s11, z_g12, z_s12, z_g13, z_s13, z_b0, z_b1, z_b0n, z_b1n, z_up_far1, z_up_far2, z_up_far3, z_up_far4, z_up_far5, z_up_far6, Classical.not_not, not_true_eq_false, z_in, z_inL, Int.cast_ofNat_Int, Nat.reduceLeDiff, List.length_cons, List.length_nil, Nat.reduceAdd, Nat.zero_add, Nat.le_refl, true_and, and_true, List.length, Nat.reduceLT, true_or, or_true, false_or, or_false, false_and, and_false, not_true_eq_false, not_false_eq_true, forall_const, false_implies, true_implies, Int.reduceEq, Int.reduceLT, Int.reduceLE, Int.reduceAdd, Int.reduceSub, Int.reduceMul, Int.reduceNeg, Int.reduceToNat, Int.toNat_natCast, ↓reduceIte, reduceIte, Nat.reduceEqDiff, Nat.reduceSub, Nat.reduceMul, ne_eq, Int.zero_add, Int.add_zero, Int.sub_zero, Nat.add_zero, Int.ofNat_eq_natCast, tL_orders_252, SL_fit, rl, e0]
    unfold w_fit
    unfold q_new at g g2
    refine ⟨by omega, fun _ => ⟨fun c0 => ⟨fun c1 => ⟨fun c2 => ⟨fun c3 => ?_, fun c3 => ⟨fun c4 => ?_, fun c4 => ⟨fun c5 => ?_, fun c5 => ?_⟩⟩⟩, fun c2 => ?_⟩, fun c1 => ?_⟩, fun c0 => ?_⟩⟩
    · exact g2 (by rw [if_neg (by omega), if_neg (by omega), if_neg (by omega), if_pos c3])
    · exact g2 (by rw [if_neg (by omega), if_neg (by omega), if_neg (by omega), if_neg (by omega), if_neg (by omega), if_pos c4])
    · exact g _ (by rw [if_neg (by omega), if_neg (by omega), if_neg (by omega), if_neg (by omega)]; split <;> omega)
    · exact g2 (by rw [if_neg (by omega), if_neg (by omega), if_neg (by omega), if_neg (by omega), if_neg (by omega), if_neg (by omega), if_pos c5])
    · exact g _ (by rw [if_neg (by omega), if_neg (by omega), if_pos c2])
    · exact ⟨by omega, g _ (by rw [if_neg (by omega), if_pos c1])⟩
    · exact ⟨by omega, g _ (by rw [if_pos c0])⟩
  have X181 : ∀ (τ : zM) (b1 : List Int), (∀ c, 108 ≤ c → τ c = σ c) → w_at τ D0 O0 1 b1 → b1.length ≤ 320 → b1 ++ [59] = b ++ w_ot o t n → X 181 [some (.inr (.inr (9, 0, k1))), some (.inr (.inr (252, 0, k2))), some (.inr (.inr (100, 64, k3))), some (.inl x4), some (.inl o), some (.inl (t : Int)), some (.inl n), none, none] [] τ := by
    intro τ b1 f ta bl1 e
    have g := fun (τ : zM) (v : Int) (ev : v = (l : Int)) => X252 τ v ev
    refine h181 _ _ _ ?_
    simp only [z_push, z_lpush, z_iload, z_lload, z_aload, z_istore, z_istoreP, z_lstore, z_astore, z_iinc, z_iincP, z_iadd, z_isub, z_imul, z_iaddW, z_isubW, z_imulW, z_idiv, z_irem, z_iand, z_ior, z_ixor, z_ishl, z_ishr, z_iushr, z_ineg, z_i2l, z_i2b, z_i2s, z_i2c, z_l2i, z_ladd, z_lsub, z_land, z_lor, z_lshl, z_lshr, z_lcmp, z_dup, z_pop, z_dup2, z_goto, z_tsw, z_cases, z_geti, z_getr, z_puti, z_putz, z_ald, z_iast, z_bast, z_zast, z_alen, z_acopy, z_mmax, z_mmin, z_mabs, z_mabsL, z_iret, z_zret, z_nret, z_lret, z_aret, z_vret, z_cat, z_xald, z_xlen, z_ldcs, z_strv, z_strc, z_gcs, z_gfm, z_sln, z_sald, z_ifeq, z_ifne, z_iflt, z_ifge, z_ifgt, z_ifle, z_iceq, z_icne, z_iclt, z_icge, z_icgt, z_icle, z_cs0, z_cs1, z_cs2, z_cs3, z_cs4, z_cs5, z_cs6, z_cs7, z_cv0, z_cv1, z_cv2, z_cv3, z_cv4, z_cv5, z_cv6, z_cv7, z_g0, z_s0, z_g1, z_s1, z_g2, z_s2, z_g3, z_s3, z_g4, z_s4, z_g5, z_s5, z_g6, z_s6, z_g7, z_s7, z_g8, z_s8, z_g9, z_s9, z_g10, z_s10, z_g11, z_s11, z_g12, z_s12, z_g13, z_s13, z_b0, z_b1, z_b0n, z_b1n, z_up_far1, z_up_far2, z_up_far3, z_up_far4, z_up_far5, z_up_far6, Classical.not_not, not_true_eq_false, z_in, z_inL, Int.cast_ofNat_Int, Nat.reduceLeDiff, List.length_cons, List.length_nil, Nat.reduceAdd, Nat.zero_add, Nat.le_refl, true_and, and_true, List.length, Nat.reduceLT, true_or, or_true, false_or, or_false, false_and, and_false, not_true_eq_false, not_false_eq_true, forall_const, false_implies, true_implies, Int.reduceEq, Int.reduceLT, Int.reduceLE, Int.reduceAdd, Int.reduceSub, Int.reduceMul, Int.reduceNeg, Int.reduceToNat, Int.toNat_natCast, ↓reduceIte, reduceIte, Nat.reduceEqDiff, Nat.reduceSub, Nat.reduceMul, ne_eq, Int.zero_add, Int.add_zero, Int.sub_zero, Nat.add_zero, Int.ofNat_eq_natCast, tL_orders_181, SL_word]
    refine ⟨D0, O0, 1, b1, ta, [59], by decide, by omega, fun τ2 f2 a2 => ?_⟩
    rw [e] at a2
    have g := fun (v : Int) (ev : v = (l : Int)) => X252 τ2 v ev (fun c hc => (f2 c hc).trans (f c hc)) a2
    refine ⟨fun _ => ⟨fun _ => ⟨fun _ => ⟨fun _ => ?_, fun _ => ?_⟩, fun _ => ?_⟩, fun _ => ?_⟩, fun _ => ?_⟩
    · exact g _ (by omega)
    · exact ⟨by omega, by omega, g _ (by omega)⟩
    · exact ⟨by omega, by omega, g _ (by omega)⟩
    · exact ⟨by omega, by omega, g _ (by omega)⟩
    · exact ⟨by omega, g _ (by omega)⟩
  have X169 : ∀ (τ : zM) (b1 : List Int), (∀ c, 108 ≤ c → τ c = σ c) → w_at τ D0 O0 1 b1 → b1.length ≤ 310 → b1 ++ ((if o < 3 then w_num n else []) ++ [59]) = b ++ w_ot o t n → X 169 [some (.inr (.inr (9, 0, k1))), some (.inr (.inr (252, 0, k2))), some (.inr (.inr (100, 64, k3))), some (.inl x4), some (.inl o), some (.inl (t : Int)), some (.inl n), none, none] [] τ := by
    intro τ b1 f ta bl1 e
    refine h169 _ _ _ ?_
    simp only [z_push, z_lpush, z_iload, z_lload, z_aload, z_istore, z_istoreP, z_lstore, z_astore, z_iinc, z_iincP, z_iadd, z_isub, z_imul, z_iaddW, z_isubW, z_imulW, z_idiv, z_irem, z_iand, z_ior, z_ixor, z_ishl, z_ishr, z_iushr, z_ineg, z_i2l, z_i2b, z_i2s, z_i2c, z_l2i, z_ladd, z_lsub, z_land, z_lor, z_lshl, z_lshr, z_lcmp, z_dup, z_pop, z_dup2, z_goto, z_tsw, z_cases, z_geti, z_getr, z_puti, z_putz, z_ald, z_iast, z_bast, z_zast, z_alen, z_acopy, z_mmax, z_mmin, z_mabs, z_mabsL, z_iret, z_zret, z_nret, z_lret, z_aret, z_vret, z_cat, z_xald, z_xlen, z_ldcs, z_strv, z_strc, z_gcs, z_gfm, z_sln, z_sald, z_ifeq, z_ifne, z_iflt, z_ifge, z_ifgt, z_ifle, z_iceq, z_icne, z_iclt, z_icge, z_icgt, z_icle, z_cs0, z_cs1, z_cs2, z_cs3, z_cs4, z_cs5, z_cs6, z_cs7, z_cv0, z_cv1, z_cv2, z_cv3, z_cv4, z_cv5, z_cv6, z_cv7, z_g0, z_s0, z_g1, z_s1, z_g2, z_s2, z_g3, z_s3, z_g4, z_s4, z_g5, z_s5, z_g6, z_s6, z_g7, z_s7, z_g8, z_s8, z_g9, z_s9, z_g10, z_s10, z_g11, z_s11, z_g12, z_s12, z_g13, z_s13, z_b0, z_b1, z_b0n, z_b1n, z_up_far1, z_up_far2, z_up_far3, z_up_far4, z_up_far5, z_up_far6, Classical.not_not, not_true_eq_false, z_in, z_inL, Int.cast_ofNat_Int, Nat.reduceLeDiff, List.length_cons, List.length_nil, Nat.reduceAdd, Nat.zero_add, Nat.le_refl, true_and, and_true, List.length, Nat.reduceLT, true_or, or_true, false_or, or_false, false_and, and_false, not_true_eq_false, not_false_eq_true, forall_const, false_implies, true_implies, Int.reduceEq, Int.reduceLT, Int.reduceLE, Int.reduceAdd, Int.reduceSub, Int.reduceMul, Int.reduceNeg, Int.reduceToNat, Int.toNat_natCast, ↓reduceIte, reduceIte, Nat.reduceEqDiff, Nat.reduceSub, Nat.reduceMul, ne_eq, Int.zero_add, Int.add_zero, Int.sub_zero, Nat.add_zero, Int.ofNat_eq_natCast, tL_orders_169, SL_number]
    refine ⟨fun c => X181 τ b1 f ta (by omega) ?_, fun c => ⟨D0, O0, 1, b1, ta, by omega, by omega, fun τ2 f2 a2 => X181 τ2 _ (fun c hc => (f2 c hc).trans (f c hc)) a2 ?_ ?_⟩⟩
    · rw [if_neg (by omega), List.nil_append] at e
      exact e
    · rw [List.length_append]
      have := w_num_len n
      omega
    · rw [if_pos (by omega)] at e
      rw [List.append_assoc]
      exact e
  have X153 : X 153 [some (.inr (.inr (9, 0, k1))), some (.inr (.inr (252, 0, k2))), some (.inr (.inr (100, 64, k3))), some (.inl x4), some (.inl o), some (.inl (t : Int)), some (.inl n), none, none] [.inr (.inl (w_ow o).1), .inr (.inr (9, 0, k1))] σ := by
    refine h153 _ _ _ ?_
    simp only [z_push, z_lpush, z_iload, z_lload, z_aload, z_istore, z_istoreP, z_lstore, z_astore, z_iinc, z_iincP, z_iadd, z_isub, z_imul, z_iaddW, z_isubW, z_imulW, z_idiv, z_irem, z_iand, z_ior, z_ixor, z_ishl, z_ishr, z_iushr, z_ineg, z_i2l, z_i2b, z_i2s, z_i2c, z_l2i, z_ladd, z_lsub, z_land, z_lor, z_lshl, z_lshr, z_lcmp, z_dup, z_pop, z_dup2, z_goto, z_tsw, z_cases, z_geti, z_getr, z_puti, z_putz, z_ald, z_iast, z_bast, z_zast, z_alen, z_acopy, z_mmax, z_mmin, z_mabs, z_mabsL, z_iret, z_zret, z_nret, z_lret, z_aret, z_vret, z_cat, z_xald, z_xlen, z_ldcs, z_strv, z_strc, z_gcs, z_gfm, z_sln, z_sald, z_ifeq, z_ifne, z_iflt, z_ifge, z_ifgt, z_ifle, z_iceq, z_icne, z_iclt, z_icge, z_icgt, z_icle, z_cs0, z_cs1, z_cs2, z_cs3, z_cs4, z_cs5, z_cs6, z_cs7, z_cv0, z_cv1, z_cv2, z_cv3, z_cv4, z_cv5, z_cv6, z_cv7, z_g0, z_s0, z_g1, z_s1, z_g2, z_s2, z_g3, z_s3, z_g4, z_s4, z_g5, z_s5, z_g6, z_s6, z_g7, z_s7, z_g8, z_s8, z_g9, z_s9, z_g10, z_s10, z_g11, z_s11, z_g12, z_s12, z_g13, z_s13, z_b0, z_b1, z_b0n, z_b1n, z_up_far1, z_up_far2, z_up_far3, z_up_far4, z_up_far5, z_up_far6, Classical.not_not, not_true_eq_false, z_in, z_inL, Int.cast_ofNat_Int, Nat.reduceLeDiff, List.length_cons, List.length_nil, Nat.reduceAdd, Nat.zero_add, Nat.le_refl, true_and, and_true, List.length, Nat.reduceLT, true_or, or_true, false_or, or_false, false_and, and_false, not_true_eq_false, not_false_eq_true, forall_const, false_implies, true_implies, Int.reduceEq, Int.reduceLT, Int.reduceLE, Int.reduceAdd, Int.reduceSub, Int.reduceMul, Int.reduceNeg, Int.reduceToNat, Int.toNat_natCast, ↓reduceIte, reduceIte, Nat.reduceEqDiff, Nat.reduceSub, Nat.reduceMul, ne_eq, Int.zero_add, Int.add_zero, Int.sub_zero, Nat.add_zero, Int.ofNat_eq_natCast, tL_orders_153, SL_word, SL_number]
    have wl := w_ow_len o
    refine ⟨D0, O0, 1, b, a, (w_ow o).2, w_ow_in o, by omega, fun τ f ta => ⟨fun c => X169 τ _ f ta ?_ ?_, fun c => ⟨D0, O0, 1, _, ta, by omega, ?_, fun τ2 f2 a2 => X169 τ2 _ (fun c hc => (f2 c hc).trans (f c hc)) a2 ?_ ?_⟩⟩⟩
    · rw [List.length_append]; omega
    · unfold w_ot
      rw [if_neg (show ¬ o < 6 by omega), List.nil_append, List.append_assoc]
    · rw [List.length_append]; omega
    · have := w_num_len t
      rw [List.length_append, List.length_append]; omega
    · unfold w_ot
      rw [if_pos (show o < 6 by omega), List.append_assoc, List.append_assoc]
  have X63 : X 63 [some (.inr (.inr (9, 0, k1))), some (.inr (.inr (252, 0, k2))), some (.inr (.inr (100, 64, k3))), some (.inl x4), some (.inl o), some (.inl (t : Int)), none, none, none] [.inl n] σ := by
    unfold w_ow at X153
    refine h63 _ _ _ ?_
    simp only [z_push, z_lpush, z_iload, z_lload, z_aload, z_istore, z_istoreP, z_lstore, z_astore, z_iinc, z_iincP, z_iadd, z_isub, z_imul, z_iaddW, z_isubW, z_imulW, z_idiv, z_irem, z_iand, z_ior, z_ixor, z_ishl, z_ishr, z_iushr, z_ineg, z_i2l, z_i2b, z_i2s, z_i2c, z_l2i, z_ladd, z_lsub, z_land, z_lor, z_lshl, z_lshr, z_lcmp, z_dup, z_pop, z_dup2, z_goto, z_tsw, z_cases, z_geti, z_getr, z_puti, z_putz, z_ald, z_iast, z_bast, z_zast, z_alen, z_acopy, z_mmax, z_mmin, z_mabs, z_mabsL, z_iret, z_zret, z_nret, z_lret, z_aret, z_vret, z_cat, z_xald, z_xlen, z_ldcs, z_strv, z_strc, z_gcs, z_gfm, z_sln, z_sald, z_ifeq, z_ifne, z_iflt, z_ifge, z_ifgt, z_ifle, z_iceq, z_icne, z_iclt, z_icge, z_icgt, z_icle, z_cs0, z_cs1, z_cs2, z_cs3, z_cs4, z_cs5, z_cs6, z_cs7, z_cv0, z_cv1, z_cv2, z_cv3, z_cv4, z_cv5, z_cv6, z_cv7, z_g0, z_s0, z_g1, z_s1, z_g2, z_s2, z_g3, z_s3, z_g4, z_s4, z_g5, z_s5, z_g6, z_s6, z_g7, z_s7, z_g8, z_s8, z_g9, z_s9, z_g10, z_s10, z_g11, z_s11, z_g12, z_s12, z_g13, z_s13, z_b0, z_b1, z_b0n, z_b1n, z_up_far1, z_up_far2, z_up_far3, z_up_far4, z_up_far5, z_up_far6, Classical.not_not, not_true_eq_false, z_in, z_inL, Int.cast_ofNat_Int, Nat.reduceLeDiff, List.length_cons, List.length_nil, Nat.reduceAdd, Nat.zero_add, Nat.le_refl, true_and, and_true, List.length, Nat.reduceLT, true_or, or_true, false_or, or_false, false_and, and_false, not_true_eq_false, not_false_eq_true, forall_const, false_implies, true_implies, Int.reduceEq, Int.reduceLT, Int.reduceLE, Int.reduceAdd, Int.reduceSub, Int.reduceMul, Int.reduceNeg, Int.reduceToNat, Int.toNat_natCast, ↓reduceIte, reduceIte, Nat.reduceEqDiff, Nat.reduceSub, Nat.reduceMul, ne_eq, Int.zero_add, Int.add_zero, Int.sub_zero, Nat.add_zero, Int.ofNat_eq_natCast, tL_orders_63]
    refine ⟨fun c0 => ⟨fun c1 => ⟨fun c2 => ⟨fun c3 => ⟨fun c4 => ⟨fun c5 => ⟨fun c6 => ?_, fun c6 => ?_⟩, fun c5 => ?_⟩, fun c4 => ?_⟩, fun c3 => ?_⟩, fun c2 => ?_⟩, fun c1 => ?_⟩, fun c0 => ?_⟩
    · rw [if_neg c0, if_neg c1, if_neg c2, if_neg c3, if_neg c4, if_neg c5, if_neg c6] at X153; exact X153
    · rw [if_neg c0, if_neg c1, if_neg c2, if_neg c3, if_neg c4, if_neg c5, if_pos c6] at X153; exact X153
    · rw [if_neg c0, if_neg c1, if_neg c2, if_neg c3, if_neg c4, if_pos c5] at X153; exact X153
    · rw [if_neg c0, if_neg c1, if_neg c2, if_neg c3, if_pos c4] at X153; exact X153
    · rw [if_neg c0, if_neg c1, if_neg c2, if_pos c3] at X153; exact X153
    · rw [if_neg c0, if_neg c1, if_pos c2] at X153; exact X153
    · rw [if_neg c0, if_pos c1] at X153; exact X153
    · rw [if_pos c0] at X153; exact X153
  have X47 : ∀ c d : Int, 1 ≤ c ∧ c ≤ 1 → (d = 12 ∨ d = 89) → c + w_low (w_sar x4 7) d = n → X 47 [some (.inr (.inr (9, 0, k1))), some (.inr (.inr (252, 0, k2))), some (.inr (.inr (100, 64, k3))), some (.inl x4), some (.inl o), some (.inl (t : Int)), none, none, none] [.inl d, .inl (w_sar x4 7), .inl c] σ := by
    intro c d h1 h2 e
    have b := w_low_in (v := w_sar x4 7) (n := d) (by omega)
    refine h47 _ _ _ ?_
    simp only [z_push, z_lpush, z_iload, z_lload, z_aload, z_istore, z_istoreP, z_lstore, z_astore, z_iinc, z_iincP, z_iadd, z_isub, z_imul, z_iaddW, z_isubW, z_imulW, z_idiv, z_irem, z_iand, z_ior, z_ixor, z_ishl, z_ishr, z_iushr, z_ineg, z_i2l, z_i2b, z_i2s, z_i2c, z_l2i, z_ladd, z_lsub, z_land, z_lor, z_lshl, z_lshr, z_lcmp, z_dup, z_pop, z_dup2, z_goto, z_tsw, z_cases, z_geti, z_getr, z_puti, z_putz, z_ald, z_iast, z_bast, z_zast, z_alen, z_acopy, z_mmax, z_mmin, z_mabs, z_mabsL, z_iret, z_zret, z_nret, z_lret, z_aret, z_vret, z_cat, z_xald, z_xlen, z_ldcs, z_strv, z_strc, z_gcs, z_gfm, z_sln, z_sald, z_ifeq, z_ifne, z_iflt, z_ifge, z_ifgt, z_ifle, z_iceq, z_icne, z_iclt, z_icge, z_icgt, z_icle, z_cs0, z_cs1, z_cs2, z_cs3, z_cs4, z_cs5, z_cs6, z_cs7, z_cv0, z_cv1, z_cv2, z_cv3, z_cv4, z_cv5, z_cv6, z_cv7, z_g0, z_s0, z_g1, z_s1, z_g2, z_s2, z_g3, z_s3, z_g4, z_s4, z_g5, z_s5, z_g6, z_s6, z_g7, z_s7, z_g8, z_s8, z_g9, z_s9, z_g10, z_s10, z_g11, z_s11, z_g12, z_s12, z_g13, z_s13, z_b0, z_b1, z_b0n, z_b1n, z_up_far1, z_up_far2, z_up_far3, z_up_far4, z_up_far5, z_up_far6, Classical.not_not, not_true_eq_false, z_in, z_inL, Int.cast_ofNat_Int, Nat.reduceLeDiff, List.length_cons, List.length_nil, Nat.reduceAdd, Nat.zero_add, Nat.le_refl, true_and, and_true, List.length, Nat.reduceLT, true_or, or_true, false_or, or_false, false_and, and_false, not_true_eq_false, not_false_eq_true, forall_const, false_implies, true_implies, Int.reduceEq, Int.reduceLT, Int.reduceLE, Int.reduceAdd, Int.reduceSub, Int.reduceMul, Int.reduceNeg, Int.reduceToNat, Int.toNat_natCast, ↓reduceIte, reduceIte, Nat.reduceEqDiff, Nat.reduceSub, Nat.reduceMul, ne_eq, Int.zero_add, Int.add_zero, Int.sub_zero, Nat.add_zero, Int.ofNat_eq_natCast, tL_orders_47, SL_low, e]
    exact ⟨by omega, by omega, X63⟩
  have hn2 := hn
  unfold w_otr at ht
  unfold w_on at hn2
  refine h0 _ _ _ ?_
  simp only [z_push, z_lpush, z_iload, z_lload, z_aload, z_istore, z_istoreP, z_lstore, z_astore, z_iinc, z_iincP, z_iadd, z_isub, z_imul, z_iaddW, z_isubW, z_imulW, z_idiv, z_irem, z_iand, z_ior, z_ixor, z_ishl, z_ishr, z_iushr, z_ineg, z_i2l, z_i2b, z_i2s, z_i2c, z_l2i, z_ladd, z_lsub, z_land, z_lor, z_lshl, z_lshr, z_lcmp, z_dup, z_pop, z_dup2, z_goto, z_tsw, z_cases, z_geti, z_getr, z_puti, z_putz, z_ald, z_iast, z_bast, z_zast, z_alen, z_acopy, z_mmax, z_mmin, z_mabs, z_mabsL, z_iret, z_zret, z_nret, z_lret, z_aret, z_vret, z_cat, z_xald, z_xlen, z_ldcs, z_strv, z_strc, z_gcs, z_gfm, z_sln, z_sald, z_ifeq, z_ifne, z_iflt, z_ifge, z_ifgt, z_ifle, z_iceq, z_icne, z_iclt, z_icge, z_icgt, z_icle, z_cs0, z_cs1, z_cs2, z_cs3, z_cs4, z_cs5, z_cs6, z_cs7, z_cv0, z_cv1, z_cv2, z_cv3, z_cv4, z_cv5, z_cv6, z_cv7, z_g0, z_s0, z_g1, z_s1, z_g2, z_s2, z_g3, z_s3, z_g4, z_s4, z_g5, z_s5, z_g6, z_s6, z_g7, z_s7, z_g8, z_s8, z_g9, z_s9, z_g10, z_s10, z_g11, z_s11, z_g12, z_s12, z_g13, z_s13, z_b0, z_b1, z_b0n, z_b1n, z_up_far1, z_up_far2, z_up_far3, z_up_far4, z_up_far5, z_up_far6, Classical.not_not, not_true_eq_false, z_in, z_inL, Int.cast_ofNat_Int, Nat.reduceLeDiff, List.length_cons, List.length_nil, Nat.reduceAdd, Nat.zero_add, Nat.le_refl, true_and, and_true, List.length, Nat.reduceLT, true_or, or_true, false_or, or_false, false_and, and_false, not_true_eq_false, not_false_eq_true, forall_const, false_implies, true_implies, Int.reduceEq, Int.reduceLT, Int.reduceLE, Int.reduceAdd, Int.reduceSub, Int.reduceMul, Int.reduceNeg, Int.reduceToNat, Int.toNat_natCast, ↓reduceIte, reduceIte, Nat.reduceEqDiff, Nat.reduceSub, Nat.reduceMul, ne_eq, Int.zero_add, Int.add_zero, Int.sub_zero, Nat.add_zero, Int.ofNat_eq_natCast, tL_orders_0, SL_low, SL_trees, w_sar_f, w_b1_f, ← ho, ← ht]
  rw [← ho] at hn2
  refine ⟨by omega, fun c => ?_, fun c => ⟨fun c2 => ?_, fun c2 => ?_⟩⟩
  · rw [if_neg (by omega)] at hn2
    rw [← hn2]
    exact X63
  · rw [if_pos (by omega), if_neg c2] at hn2
    exact X47 1 89 (by omega) (by omega) hn2.symm
  · rw [if_pos (by omega), if_pos c2] at hn2
    exact X47 1 12 (by omega) (by omega) hn2.symm
theorem dL_orders_0 : decode cL_orders 0 = .ok (.iload_n 3, 1) := by decide +kernel
theorem dL_orders_1 : decode cL_orders 1 = .ok (.bipush 8, 2) := by decide +kernel
theorem dL_orders_3 : decode cL_orders 3 = .ok (.invokestatic 23, 3) := by decide +kernel
theorem dL_orders_6 : decode cL_orders 6 = .ok (.istore 4, 2) := by decide +kernel
theorem dL_orders_8 : decode cL_orders 8 = .ok (.iload_n 3, 1) := by decide +kernel
theorem dL_orders_9 : decode cL_orders 9 = .ok (.iconst 3, 1) := by decide +kernel
theorem dL_orders_10 : decode cL_orders 10 = .ok (.ishr, 1) := by decide +kernel
theorem dL_orders_11 : decode cL_orders 11 = .ok (.aload_n 1, 1) := by decide +kernel
theorem dL_orders_12 : decode cL_orders 12 = .ok (.invokestatic 27, 3) := by decide +kernel
theorem dL_orders_15 : decode cL_orders 15 = .ok (.invokestatic 23, 3) := by decide +kernel
theorem dL_orders_18 : decode cL_orders 18 = .ok (.istore 5, 2) := by decide +kernel
theorem dL_orders_20 : decode cL_orders 20 = .ok (.iload 4, 2) := by decide +kernel
theorem dL_orders_22 : decode cL_orders 22 = .ok (.iconst 2, 1) := by decide +kernel
theorem dL_orders_23 : decode cL_orders 23 = .ok (.if_icmp .ge 31, 3) := by decide +kernel
theorem dL_orders_26 : decode cL_orders 26 = .ok (.iconst 1, 1) := by decide +kernel
theorem dL_orders_27 : decode cL_orders 27 = .ok (.iload_n 3, 1) := by decide +kernel
theorem dL_orders_28 : decode cL_orders 28 = .ok (.bipush 7, 2) := by decide +kernel
theorem dL_orders_30 : decode cL_orders 30 = .ok (.ishr, 1) := by decide +kernel
theorem dL_orders_31 : decode cL_orders 31 = .ok (.iload_n 3, 1) := by decide +kernel
theorem dL_orders_32 : decode cL_orders 32 = .ok (.bipush 30, 2) := by decide +kernel
theorem dL_orders_34 : decode cL_orders 34 = .ok (.ishr, 1) := by decide +kernel
theorem dL_orders_35 : decode cL_orders 35 = .ok (.iconst 1, 1) := by decide +kernel
theorem dL_orders_36 : decode cL_orders 36 = .ok (.iand, 1) := by decide +kernel
theorem dL_orders_37 : decode cL_orders 37 = .ok (.ifCond .ne 8, 3) := by decide +kernel
theorem dL_orders_40 : decode cL_orders 40 = .ok (.bipush 12, 2) := by decide +kernel
theorem dL_orders_42 : decode cL_orders 42 = .ok (.goto 5, 3) := by decide +kernel
theorem dL_orders_45 : decode cL_orders 45 = .ok (.bipush 89, 2) := by decide +kernel
theorem dL_orders_47 : decode cL_orders 47 = .ok (.invokestatic 23, 3) := by decide +kernel
theorem dL_orders_50 : decode cL_orders 50 = .ok (.iadd, 1) := by decide +kernel
theorem dL_orders_51 : decode cL_orders 51 = .ok (.goto 12, 3) := by decide +kernel
theorem dL_orders_54 : decode cL_orders 54 = .ok (.iload_n 3, 1) := by decide +kernel
theorem dL_orders_55 : decode cL_orders 55 = .ok (.bipush 7, 2) := by decide +kernel
theorem dL_orders_57 : decode cL_orders 57 = .ok (.ishr, 1) := by decide +kernel
theorem dL_orders_58 : decode cL_orders 58 = .ok (.bipush 8, 2) := by decide +kernel
theorem dL_orders_60 : decode cL_orders 60 = .ok (.invokestatic 23, 3) := by decide +kernel
theorem dL_orders_63 : decode cL_orders 63 = .ok (.istore 6, 2) := by decide +kernel
theorem dL_orders_65 : decode cL_orders 65 = .ok (.aload_n 0, 1) := by decide +kernel
theorem dL_orders_66 : decode cL_orders 66 = .ok (.iload 4, 2) := by decide +kernel
theorem dL_orders_68 : decode cL_orders 68 = .ok (.ifCond .ne 9, 3) := by decide +kernel
theorem dL_orders_71 : decode cL_orders 71 = .ok (.ldc2_w 81, 3) := by decide +kernel
theorem dL_orders_74 : decode cL_orders 74 = .ok (.goto 79, 3) := by decide +kernel
theorem dL_orders_77 : decode cL_orders 77 = .ok (.iload 4, 2) := by decide +kernel
theorem dL_orders_79 : decode cL_orders 79 = .ok (.iconst 1, 1) := by decide +kernel
theorem dL_orders_80 : decode cL_orders 80 = .ok (.if_icmp .ne 9, 3) := by decide +kernel
theorem dL_orders_83 : decode cL_orders 83 = .ok (.ldc2_w 83, 3) := by decide +kernel
theorem dL_orders_86 : decode cL_orders 86 = .ok (.goto 67, 3) := by decide +kernel
theorem dL_orders_89 : decode cL_orders 89 = .ok (.iload 4, 2) := by decide +kernel
theorem dL_orders_91 : decode cL_orders 91 = .ok (.iconst 2, 1) := by decide +kernel
theorem dL_orders_92 : decode cL_orders 92 = .ok (.if_icmp .ne 9, 3) := by decide +kernel
theorem dL_orders_95 : decode cL_orders 95 = .ok (.ldc2_w 85, 3) := by decide +kernel
theorem dL_orders_98 : decode cL_orders 98 = .ok (.goto 55, 3) := by decide +kernel
theorem dL_orders_101 : decode cL_orders 101 = .ok (.iload 4, 2) := by decide +kernel
theorem dL_orders_103 : decode cL_orders 103 = .ok (.iconst 3, 1) := by decide +kernel
theorem dL_orders_104 : decode cL_orders 104 = .ok (.if_icmp .ne 9, 3) := by decide +kernel
theorem dL_orders_107 : decode cL_orders 107 = .ok (.ldc2_w 87, 3) := by decide +kernel
theorem dL_orders_110 : decode cL_orders 110 = .ok (.goto 43, 3) := by decide +kernel
theorem dL_orders_113 : decode cL_orders 113 = .ok (.iload 4, 2) := by decide +kernel
theorem dL_orders_115 : decode cL_orders 115 = .ok (.iconst 4, 1) := by decide +kernel
theorem dL_orders_116 : decode cL_orders 116 = .ok (.if_icmp .ne 9, 3) := by decide +kernel
theorem dL_orders_119 : decode cL_orders 119 = .ok (.ldc2_w 89, 3) := by decide +kernel
theorem dL_orders_122 : decode cL_orders 122 = .ok (.goto 31, 3) := by decide +kernel
theorem dL_orders_125 : decode cL_orders 125 = .ok (.iload 4, 2) := by decide +kernel
theorem dL_orders_127 : decode cL_orders 127 = .ok (.iconst 5, 1) := by decide +kernel
theorem dL_orders_128 : decode cL_orders 128 = .ok (.if_icmp .ne 9, 3) := by decide +kernel
theorem dL_orders_131 : decode cL_orders 131 = .ok (.ldc2_w 91, 3) := by decide +kernel
theorem dL_orders_134 : decode cL_orders 134 = .ok (.goto 19, 3) := by decide +kernel
theorem dL_orders_137 : decode cL_orders 137 = .ok (.iload 4, 2) := by decide +kernel
theorem dL_orders_139 : decode cL_orders 139 = .ok (.bipush 6, 2) := by decide +kernel
theorem dL_orders_141 : decode cL_orders 141 = .ok (.if_icmp .ne 9, 3) := by decide +kernel
theorem dL_orders_144 : decode cL_orders 144 = .ok (.ldc2_w 93, 3) := by decide +kernel
theorem dL_orders_147 : decode cL_orders 147 = .ok (.goto 6, 3) := by decide +kernel
theorem dL_orders_150 : decode cL_orders 150 = .ok (.ldc2_w 95, 3) := by decide +kernel
theorem dL_orders_153 : decode cL_orders 153 = .ok (.invokestatic 37, 3) := by decide +kernel
theorem dL_orders_156 : decode cL_orders 156 = .ok (.iload 4, 2) := by decide +kernel
theorem dL_orders_158 : decode cL_orders 158 = .ok (.bipush 6, 2) := by decide +kernel
theorem dL_orders_160 : decode cL_orders 160 = .ok (.if_icmp .ge 9, 3) := by decide +kernel
theorem dL_orders_163 : decode cL_orders 163 = .ok (.aload_n 0, 1) := by decide +kernel
theorem dL_orders_164 : decode cL_orders 164 = .ok (.iload 5, 2) := by decide +kernel
theorem dL_orders_166 : decode cL_orders 166 = .ok (.invokestatic 41, 3) := by decide +kernel
theorem dL_orders_169 : decode cL_orders 169 = .ok (.iload 4, 2) := by decide +kernel
theorem dL_orders_171 : decode cL_orders 171 = .ok (.iconst 3, 1) := by decide +kernel
theorem dL_orders_172 : decode cL_orders 172 = .ok (.if_icmp .ge 9, 3) := by decide +kernel
theorem dL_orders_175 : decode cL_orders 175 = .ok (.aload_n 0, 1) := by decide +kernel
theorem dL_orders_176 : decode cL_orders 176 = .ok (.iload 6, 2) := by decide +kernel
theorem dL_orders_178 : decode cL_orders 178 = .ok (.invokestatic 41, 3) := by decide +kernel
theorem dL_orders_181 : decode cL_orders 181 = .ok (.aload_n 0, 1) := by decide +kernel
theorem dL_orders_182 : decode cL_orders 182 = .ok (.ldc2_w 45, 3) := by decide +kernel
theorem dL_orders_185 : decode cL_orders 185 = .ok (.invokestatic 37, 3) := by decide +kernel
theorem dL_orders_188 : decode cL_orders 188 = .ok (.iload 4, 2) := by decide +kernel
theorem dL_orders_190 : decode cL_orders 190 = .ok (.iconst 2, 1) := by decide +kernel
theorem dL_orders_191 : decode cL_orders 191 = .ok (.if_icmp .ge 11, 3) := by decide +kernel
theorem dL_orders_194 : decode cL_orders 194 = .ok (.bipush 6, 2) := by decide +kernel
theorem dL_orders_196 : decode cL_orders 196 = .ok (.iload 5, 2) := by decide +kernel
theorem dL_orders_198 : decode cL_orders 198 = .ok (.imul, 1) := by decide +kernel
theorem dL_orders_199 : decode cL_orders 199 = .ok (.goto 53, 3) := by decide +kernel
theorem dL_orders_202 : decode cL_orders 202 = .ok (.iload 4, 2) := by decide +kernel
theorem dL_orders_204 : decode cL_orders 204 = .ok (.iconst 2, 1) := by decide +kernel
theorem dL_orders_205 : decode cL_orders 205 = .ok (.if_icmp .ne 13, 3) := by decide +kernel
theorem dL_orders_208 : decode cL_orders 208 = .ok (.bipush 6, 2) := by decide +kernel
theorem dL_orders_210 : decode cL_orders 210 = .ok (.iload 5, 2) := by decide +kernel
theorem dL_orders_212 : decode cL_orders 212 = .ok (.imul, 1) := by decide +kernel
theorem dL_orders_213 : decode cL_orders 213 = .ok (.iconst 2, 1) := by decide +kernel
theorem dL_orders_214 : decode cL_orders 214 = .ok (.iadd, 1) := by decide +kernel
theorem dL_orders_215 : decode cL_orders 215 = .ok (.goto 37, 3) := by decide +kernel
theorem dL_orders_218 : decode cL_orders 218 = .ok (.iload 4, 2) := by decide +kernel
theorem dL_orders_220 : decode cL_orders 220 = .ok (.iconst 5, 1) := by decide +kernel
theorem dL_orders_221 : decode cL_orders 221 = .ok (.if_icmp .ge 13, 3) := by decide +kernel
theorem dL_orders_224 : decode cL_orders 224 = .ok (.bipush 6, 2) := by decide +kernel
theorem dL_orders_226 : decode cL_orders 226 = .ok (.iload 5, 2) := by decide +kernel
theorem dL_orders_228 : decode cL_orders 228 = .ok (.imul, 1) := by decide +kernel
theorem dL_orders_229 : decode cL_orders 229 = .ok (.iconst 4, 1) := by decide +kernel
theorem dL_orders_230 : decode cL_orders 230 = .ok (.iadd, 1) := by decide +kernel
theorem dL_orders_231 : decode cL_orders 231 = .ok (.goto 21, 3) := by decide +kernel
theorem dL_orders_234 : decode cL_orders 234 = .ok (.iload 4, 2) := by decide +kernel
theorem dL_orders_236 : decode cL_orders 236 = .ok (.iconst 5, 1) := by decide +kernel
theorem dL_orders_237 : decode cL_orders 237 = .ok (.if_icmp .ne 13, 3) := by decide +kernel
theorem dL_orders_240 : decode cL_orders 240 = .ok (.bipush 6, 2) := by decide +kernel
theorem dL_orders_242 : decode cL_orders 242 = .ok (.iload 5, 2) := by decide +kernel
theorem dL_orders_244 : decode cL_orders 244 = .ok (.imul, 1) := by decide +kernel
theorem dL_orders_245 : decode cL_orders 245 = .ok (.iconst 5, 1) := by decide +kernel
theorem dL_orders_246 : decode cL_orders 246 = .ok (.iadd, 1) := by decide +kernel
theorem dL_orders_247 : decode cL_orders 247 = .ok (.goto 5, 3) := by decide +kernel
theorem dL_orders_250 : decode cL_orders 250 = .ok (.bipush 48, 2) := by decide +kernel
theorem dL_orders_252 : decode cL_orders 252 = .ok (.istore 7, 2) := by decide +kernel
theorem dL_orders_254 : decode cL_orders 254 = .ok (.aload_n 2, 1) := by decide +kernel
theorem dL_orders_255 : decode cL_orders 255 = .ok (.iload 7, 2) := by decide +kernel
theorem dL_orders_257 : decode cL_orders 257 = .ok (.iaload, 1) := by decide +kernel
theorem dL_orders_258 : decode cL_orders 258 = .ok (.istore 8, 2) := by decide +kernel
theorem dL_orders_260 : decode cL_orders 260 = .ok (.aload_n 2, 1) := by decide +kernel
theorem dL_orders_261 : decode cL_orders 261 = .ok (.iload 7, 2) := by decide +kernel
theorem dL_orders_263 : decode cL_orders 263 = .ok (.iload 4, 2) := by decide +kernel
theorem dL_orders_265 : decode cL_orders 265 = .ok (.ifCond .ne 14, 3) := by decide +kernel
theorem dL_orders_268 : decode cL_orders 268 = .ok (.iload 8, 2) := by decide +kernel
theorem dL_orders_270 : decode cL_orders 270 = .ok (.iload 6, 2) := by decide +kernel
theorem dL_orders_272 : decode cL_orders 272 = .ok (.isub, 1) := by decide +kernel
theorem dL_orders_273 : decode cL_orders 273 = .ok (.invokestatic 78, 3) := by decide +kernel
theorem dL_orders_276 : decode cL_orders 276 = .ok (.goto 55, 3) := by decide +kernel
theorem dL_orders_279 : decode cL_orders 279 = .ok (.iload 4, 2) := by decide +kernel
theorem dL_orders_281 : decode cL_orders 281 = .ok (.iconst 1, 1) := by decide +kernel
theorem dL_orders_282 : decode cL_orders 282 = .ok (.if_icmp .ne 14, 3) := by decide +kernel
theorem dL_orders_285 : decode cL_orders 285 = .ok (.iload 8, 2) := by decide +kernel
theorem dL_orders_287 : decode cL_orders 287 = .ok (.iload 6, 2) := by decide +kernel
theorem dL_orders_289 : decode cL_orders 289 = .ok (.iadd, 1) := by decide +kernel
theorem dL_orders_290 : decode cL_orders 290 = .ok (.invokestatic 78, 3) := by decide +kernel
theorem dL_orders_293 : decode cL_orders 293 = .ok (.goto 38, 3) := by decide +kernel
theorem dL_orders_296 : decode cL_orders 296 = .ok (.iload 4, 2) := by decide +kernel
theorem dL_orders_298 : decode cL_orders 298 = .ok (.iconst 2, 1) := by decide +kernel
theorem dL_orders_299 : decode cL_orders 299 = .ok (.if_icmp .ne 8, 3) := by decide +kernel
theorem dL_orders_302 : decode cL_orders 302 = .ok (.iload 6, 2) := by decide +kernel
theorem dL_orders_304 : decode cL_orders 304 = .ok (.goto 27, 3) := by decide +kernel
theorem dL_orders_307 : decode cL_orders 307 = .ok (.iload 4, 2) := by decide +kernel
theorem dL_orders_309 : decode cL_orders 309 = .ok (.iconst 3, 1) := by decide +kernel
theorem dL_orders_310 : decode cL_orders 310 = .ok (.if_icmp .eq 16, 3) := by decide +kernel
theorem dL_orders_313 : decode cL_orders 313 = .ok (.iload 4, 2) := by decide +kernel
theorem dL_orders_315 : decode cL_orders 315 = .ok (.iconst 5, 1) := by decide +kernel
theorem dL_orders_316 : decode cL_orders 316 = .ok (.if_icmp .eq 10, 3) := by decide +kernel
theorem dL_orders_319 : decode cL_orders 319 = .ok (.iload 4, 2) := by decide +kernel
theorem dL_orders_321 : decode cL_orders 321 = .ok (.bipush 6, 2) := by decide +kernel
theorem dL_orders_323 : decode cL_orders 323 = .ok (.if_icmp .ne 7, 3) := by decide +kernel
theorem dL_orders_326 : decode cL_orders 326 = .ok (.iconst 1, 1) := by decide +kernel
theorem dL_orders_327 : decode cL_orders 327 = .ok (.goto 4, 3) := by decide +kernel
theorem dL_orders_330 : decode cL_orders 330 = .ok (.iconst 0, 1) := by decide +kernel
theorem dL_orders_331 : decode cL_orders 331 = .ok (.iastore, 1) := by decide +kernel
theorem dL_orders_332 : decode cL_orders 332 = .ok (.aload_n 2, 1) := by decide +kernel
theorem dL_orders_333 : decode cL_orders 333 = .ok (.bipush 50, 2) := by decide +kernel
theorem dL_orders_335 : decode cL_orders 335 = .ok (.dup2, 1) := by decide +kernel
theorem dL_orders_336 : decode cL_orders 336 = .ok (.iaload, 1) := by decide +kernel
theorem dL_orders_337 : decode cL_orders 337 = .ok (.iconst 1, 1) := by decide +kernel
theorem dL_orders_338 : decode cL_orders 338 = .ok (.iadd, 1) := by decide +kernel
theorem dL_orders_339 : decode cL_orders 339 = .ok (.iastore, 1) := by decide +kernel
theorem dL_orders_340 : decode cL_orders 340 = .ok (.iload 7, 2) := by decide +kernel
theorem dL_orders_342 : decode cL_orders 342 = .ok (.iload 4, 2) := by decide +kernel
theorem dL_orders_344 : decode cL_orders 344 = .ok (.iconst 2, 1) := by decide +kernel
theorem dL_orders_345 : decode cL_orders 345 = .ok (.if_icmp .ge 8, 3) := by decide +kernel
theorem dL_orders_348 : decode cL_orders 348 = .ok (.bipush 64, 2) := by decide +kernel
theorem dL_orders_350 : decode cL_orders 350 = .ok (.goto 4, 3) := by decide +kernel
theorem dL_orders_353 : decode cL_orders 353 = .ok (.iconst 0, 1) := by decide +kernel
theorem dL_orders_354 : decode cL_orders 354 = .ok (.iadd, 1) := by decide +kernel
theorem dL_orders_355 : decode cL_orders 355 = .ok (.sipush 128, 3) := by decide +kernel
theorem dL_orders_358 : decode cL_orders 358 = .ok (.iload 4, 2) := by decide +kernel
theorem dL_orders_360 : decode cL_orders 360 = .ok (.iconst 2, 1) := by decide +kernel
theorem dL_orders_361 : decode cL_orders 361 = .ok (.if_icmp .ge 17, 3) := by decide +kernel
theorem dL_orders_364 : decode cL_orders 364 = .ok (.iload 8, 2) := by decide +kernel
theorem dL_orders_366 : decode cL_orders 366 = .ok (.aload_n 2, 1) := by decide +kernel
theorem dL_orders_367 : decode cL_orders 367 = .ok (.iload 7, 2) := by decide +kernel
theorem dL_orders_369 : decode cL_orders 369 = .ok (.iaload, 1) := by decide +kernel
theorem dL_orders_370 : decode cL_orders 370 = .ok (.isub, 1) := by decide +kernel
theorem dL_orders_371 : decode cL_orders 371 = .ok (.sipush 1000, 3) := by decide +kernel
theorem dL_orders_374 : decode cL_orders 374 = .ok (.iadd, 1) := by decide +kernel
theorem dL_orders_375 : decode cL_orders 375 = .ok (.goto 5, 3) := by decide +kernel
theorem dL_orders_378 : decode cL_orders 378 = .ok (.iload 8, 2) := by decide +kernel
theorem dL_orders_380 : decode cL_orders 380 = .ok (.imul, 1) := by decide +kernel
theorem dL_orders_381 : decode cL_orders 381 = .ok (.iadd, 1) := by decide +kernel
theorem dL_orders_382 : decode cL_orders 382 = .ok (.ireturn, 1) := by decide +kernel
set_option maxRecDepth 100000 in
theorem rL_orders_0 {zx : zX} {zn : Nat} {p : Program} {l : Launch} {e : Env} {s : State} {m : MethodId} {args : Array Value} {below : List Frame} {meth : Method} {c : Code} {D : va_G} {cA : Nat → ClassId} {ad : Nat → Nat} {Ret : zR} (C : z_Cx zx zn (z_A zn ad) 0 0 p { frames := 3, cells := 0, slots := 0, locals := 71 } s m args c cL_orders yL_orders.cls 9 D cA ad) (hr : meth.sig.returnType = (some .int)) (hlocks : meth.locks = false) : ∀ L st σ, tL_orders_0 zx (z_X zx zn (z_A zn ad) 0 0 p l e { frames := 3, cells := 0, slots := 0, locals := 71 } s m args below meth c (MQ below (z_Qc zn D cA ad Ret) args s 0 0 (z_A zn ad)) 9 D cA ad true) Ret L st σ → z_X zx zn (z_A zn ad) 0 0 p l e { frames := 3, cells := 0, slots := 0, locals := 71 } s m args below meth c (MQ below (z_Qc zn D cA ad Ret) args s 0 0 (z_A zn ad)) 9 D cA ad true 0 L st σ := (s_iload_n C dL_orders_0 rfl (s_bipush C dL_orders_1 rfl ⟨by decide, by decide⟩ (s_cs2 C dL_orders_3 (okL_low l) wd_544 wd_545 wd_16 wd_546 ⟨by decide, by decide, by decide +kernel⟩ ⟨by decide, by decide⟩ (s_istore C dL_orders_6 (by decide) rfl (s_iload_n C dL_orders_8 rfl (s_iconst C dL_orders_9 rfl ⟨by decide, by decide⟩ (s_ishr C dL_orders_10 (s_aload_n C dL_orders_11 rfl (s_cs1 C dL_orders_12 (okL_trees l) wd_548 wd_549 wd_16 wd_550 ⟨by decide, by decide, by decide +kernel⟩ ⟨by decide, by decide⟩ (s_cs2 C dL_orders_15 (okL_low l) wd_544 wd_545 wd_16 wd_546 ⟨by decide, by decide, by decide +kernel⟩ ⟨by decide, by decide⟩ (s_istore C dL_orders_18 (by decide) rfl (s_iload C dL_orders_20 (s_iconst C dL_orders_22 rfl ⟨by decide, by decide⟩ (s_icge C dL_orders_23 (by decide) (s_iload_n C dL_orders_54 rfl (s_bipush C dL_orders_55 rfl ⟨by decide, by decide⟩ (s_ishr C dL_orders_57 (s_bipush C dL_orders_58 rfl ⟨by decide, by decide⟩ (s_cs2 C dL_orders_60 (okL_low l) wd_544 wd_545 wd_16 wd_546 ⟨by decide, by decide, by decide +kernel⟩ ⟨by decide, by decide⟩ (fun _ _ _ h => h)))))) (s_iconst C dL_orders_26 rfl ⟨by decide, by decide⟩ (s_iload_n C dL_orders_27 rfl (s_bipush C dL_orders_28 rfl ⟨by decide, by decide⟩ (s_ishr C dL_orders_30 (s_iload_n C dL_orders_31 rfl (s_bipush C dL_orders_32 rfl ⟨by decide, by decide⟩ (s_ishr C dL_orders_34 (s_iconst C dL_orders_35 rfl ⟨by decide, by decide⟩ (s_iand C dL_orders_36 (s_ifne C dL_orders_37 (by decide) (s_bipush C dL_orders_45 rfl ⟨by decide, by decide⟩ (fun _ _ _ h => h)) (s_bipush C dL_orders_40 rfl ⟨by decide, by decide⟩ (s_goto C dL_orders_42 (by decide) (fun _ _ _ h => h)))))))))))))))))))))))))))
set_option maxRecDepth 100000 in
theorem rL_orders_47 {zx : zX} {zn : Nat} {p : Program} {l : Launch} {e : Env} {s : State} {m : MethodId} {args : Array Value} {below : List Frame} {meth : Method} {c : Code} {D : va_G} {cA : Nat → ClassId} {ad : Nat → Nat} {Ret : zR} (C : z_Cx zx zn (z_A zn ad) 0 0 p { frames := 3, cells := 0, slots := 0, locals := 71 } s m args c cL_orders yL_orders.cls 9 D cA ad) (hr : meth.sig.returnType = (some .int)) (hlocks : meth.locks = false) : ∀ L st σ, tL_orders_47 zx (z_X zx zn (z_A zn ad) 0 0 p l e { frames := 3, cells := 0, slots := 0, locals := 71 } s m args below meth c (MQ below (z_Qc zn D cA ad Ret) args s 0 0 (z_A zn ad)) 9 D cA ad true) Ret L st σ → z_X zx zn (z_A zn ad) 0 0 p l e { frames := 3, cells := 0, slots := 0, locals := 71 } s m args below meth c (MQ below (z_Qc zn D cA ad Ret) args s 0 0 (z_A zn ad)) 9 D cA ad true 47 L st σ := (s_cs2 C dL_orders_47 (okL_low l) wd_544 wd_545 wd_16 wd_546 ⟨by decide, by decide, by decide +kernel⟩ ⟨by decide, by decide⟩ (s_iadd C dL_orders_50 (s_goto C dL_orders_51 (by decide) (fun _ _ _ h => h))))
set_option maxRecDepth 100000 in
theorem rL_orders_63 {zx : zX} {zn : Nat} {p : Program} {l : Launch} {e : Env} {s : State} {m : MethodId} {args : Array Value} {below : List Frame} {meth : Method} {c : Code} {D : va_G} {cA : Nat → ClassId} {ad : Nat → Nat} {Ret : zR} (C : z_Cx zx zn (z_A zn ad) 0 0 p { frames := 3, cells := 0, slots := 0, locals := 71 } s m args c cL_orders yL_orders.cls 9 D cA ad) (hr : meth.sig.returnType = (some .int)) (hlocks : meth.locks = false) : ∀ L st σ, tL_orders_63 zx (z_X zx zn (z_A zn ad) 0 0 p l e { frames := 3, cells := 0, slots := 0, locals := 71 } s m args below meth c (MQ below (z_Qc zn D cA ad Ret) args s 0 0 (z_A zn ad)) 9 D cA ad true) Ret L st σ → z_X zx zn (z_A zn ad) 0 0 p l e { frames := 3, cells := 0, slots := 0, locals := 71 } s m args below meth c (MQ below (z_Qc zn D cA ad Ret) args s 0 0 (z_A zn ad)) 9 D cA ad true 63 L st σ := (s_istore C dL_orders_63 (by decide) rfl (s_aload_n C dL_orders_65 rfl (s_iload C dL_orders_66 (s_ifne C dL_orders_68 (by decide) (s_iload C dL_orders_77 (s_iconst C dL_orders_79 rfl ⟨by decide, by decide⟩ (s_icne C dL_orders_80 (by decide) (s_iload C dL_orders_89 (s_iconst C dL_orders_91 rfl ⟨by decide, by decide⟩ (s_icne C dL_orders_92 (by decide) (s_iload C dL_orders_101 (s_iconst C dL_orders_103 rfl ⟨by decide, by decide⟩ (s_icne C dL_orders_104 (by decide) (s_iload C dL_orders_113 (s_iconst C dL_orders_115 rfl ⟨by decide, by decide⟩ (s_icne C dL_orders_116 (by decide) (s_iload C dL_orders_125 (s_iconst C dL_orders_127 rfl ⟨by decide, by decide⟩ (s_icne C dL_orders_128 (by decide) (s_iload C dL_orders_137 (s_bipush C dL_orders_139 rfl ⟨by decide, by decide⟩ (s_icne C dL_orders_141 (by decide) (s_ldc2 C dL_orders_150 (v := 6582905) wd_681 ⟨by decide, by decide⟩ (fun _ _ _ h => h)) (s_ldc2 C dL_orders_144 (v := 7824756) wd_680 ⟨by decide, by decide⟩ (s_goto C dL_orders_147 (by decide) (fun _ _ _ h => h)))))) (s_ldc2 C dL_orders_131 (v := 1717922924) wd_679 ⟨by decide, by decide⟩ (s_goto C dL_orders_134 (by decide) (fun _ _ _ h => h)))))) (s_ldc2 C dL_orders_119 (v := 1952997751) wd_678 ⟨by decide, by decide⟩ (s_goto C dL_orders_122 (by decide) (fun _ _ _ h => h)))))) (s_ldc2 C dL_orders_107 (v := 6906725) wd_677 ⟨by decide, by decide⟩ (s_goto C dL_orders_110 (by decide) (fun _ _ _ h => h)))))) (s_ldc2 C dL_orders_95 (v := 1953854062) wd_676 ⟨by decide, by decide⟩ (s_goto C dL_orders_98 (by decide) (fun _ _ _ h => h)))))) (s_ldc2 C dL_orders_83 (v := 7103860) wd_675 ⟨by decide, by decide⟩ (s_goto C dL_orders_86 (by decide) (fun _ _ _ h => h)))))) (s_ldc2 C dL_orders_71 (v := 6518132) wd_674 ⟨by decide, by decide⟩ (s_goto C dL_orders_74 (by decide) (fun _ _ _ h => h)))))))
set_option maxRecDepth 100000 in
theorem rL_orders_153 {zx : zX} {zn : Nat} {p : Program} {l : Launch} {e : Env} {s : State} {m : MethodId} {args : Array Value} {below : List Frame} {meth : Method} {c : Code} {D : va_G} {cA : Nat → ClassId} {ad : Nat → Nat} {Ret : zR} (C : z_Cx zx zn (z_A zn ad) 0 0 p { frames := 3, cells := 0, slots := 0, locals := 71 } s m args c cL_orders yL_orders.cls 9 D cA ad) (hr : meth.sig.returnType = (some .int)) (hlocks : meth.locks = false) : ∀ L st σ, tL_orders_153 zx (z_X zx zn (z_A zn ad) 0 0 p l e { frames := 3, cells := 0, slots := 0, locals := 71 } s m args below meth c (MQ below (z_Qc zn D cA ad Ret) args s 0 0 (z_A zn ad)) 9 D cA ad true) Ret L st σ → z_X zx zn (z_A zn ad) 0 0 p l e { frames := 3, cells := 0, slots := 0, locals := 71 } s m args below meth c (MQ below (z_Qc zn D cA ad Ret) args s 0 0 (z_A zn ad)) 9 D cA ad true 153 L st σ := (s_cs2 C dL_orders_153 (okL_word l) wd_558 wd_559 wd_16 wd_560 ⟨by decide, by decide, by decide +kernel⟩ ⟨by decide, by decide⟩ (s_iload C dL_orders_156 (s_bipush C dL_orders_158 rfl ⟨by decide, by decide⟩ (s_icge C dL_orders_160 (by decide) (fun _ _ _ h => h) (s_aload_n C dL_orders_163 rfl (s_iload C dL_orders_164 (s_cs2 C dL_orders_166 (okL_number l) wd_572 wd_573 wd_16 wd_574 ⟨by decide, by decide, by decide +kernel⟩ ⟨by decide, by decide⟩ (fun _ _ _ h => h))))))))
set_option maxRecDepth 100000 in
theorem rL_orders_169 {zx : zX} {zn : Nat} {p : Program} {l : Launch} {e : Env} {s : State} {m : MethodId} {args : Array Value} {below : List Frame} {meth : Method} {c : Code} {D : va_G} {cA : Nat → ClassId} {ad : Nat → Nat} {Ret : zR} (C : z_Cx zx zn (z_A zn ad) 0 0 p { frames := 3, cells := 0, slots := 0, locals := 71 } s m args c cL_orders yL_orders.cls 9 D cA ad) (hr : meth.sig.returnType = (some .int)) (hlocks : meth.locks = false) : ∀ L st σ, tL_orders_169 zx (z_X zx zn (z_A zn ad) 0 0 p l e { frames := 3, cells := 0, slots := 0, locals := 71 } s m args below meth c (MQ below (z_Qc zn D cA ad Ret) args s 0 0 (z_A zn ad)) 9 D cA ad true) Ret L st σ → z_X zx zn (z_A zn ad) 0 0 p l e { frames := 3, cells := 0, slots := 0, locals := 71 } s m args below meth c (MQ below (z_Qc zn D cA ad Ret) args s 0 0 (z_A zn ad)) 9 D cA ad true 169 L st σ := (s_iload C dL_orders_169 (s_iconst C dL_orders_171 rfl ⟨by decide, by decide⟩ (s_icge C dL_orders_172 (by decide) (fun _ _ _ h => h) (s_aload_n C dL_orders_175 rfl (s_iload C dL_orders_176 (s_cs2 C dL_orders_178 (okL_number l) wd_572 wd_573 wd_16 wd_574 ⟨by decide, by decide, by decide +kernel⟩ ⟨by decide, by decide⟩ (fun _ _ _ h => h)))))))
set_option maxRecDepth 100000 in
theorem rL_orders_181 {zx : zX} {zn : Nat} {p : Program} {l : Launch} {e : Env} {s : State} {m : MethodId} {args : Array Value} {below : List Frame} {meth : Method} {c : Code} {D : va_G} {cA : Nat → ClassId} {ad : Nat → Nat} {Ret : zR} (C : z_Cx zx zn (z_A zn ad) 0 0 p { frames := 3, cells := 0, slots := 0, locals := 71 } s m args c cL_orders yL_orders.cls 9 D cA ad) (hr : meth.sig.returnType = (some .int)) (hlocks : meth.locks = false) : ∀ L st σ, tL_orders_181 zx (z_X zx zn (z_A zn ad) 0 0 p l e { frames := 3, cells := 0, slots := 0, locals := 71 } s m args below meth c (MQ below (z_Qc zn D cA ad Ret) args s 0 0 (z_A zn ad)) 9 D cA ad true) Ret L st σ → z_X zx zn (z_A zn ad) 0 0 p l e { frames := 3, cells := 0, slots := 0, locals := 71 } s m args below meth c (MQ below (z_Qc zn D cA ad Ret) args s 0 0 (z_A zn ad)) 9 D cA ad true 181 L st σ := (s_aload_n C dL_orders_181 rfl (s_ldc2 C dL_orders_182 (v := 59) wd_576 ⟨by decide, by decide⟩ (s_cs2 C dL_orders_185 (okL_word l) wd_558 wd_559 wd_16 wd_560 ⟨by decide, by decide, by decide +kernel⟩ ⟨by decide, by decide⟩ (s_iload C dL_orders_188 (s_iconst C dL_orders_190 rfl ⟨by decide, by decide⟩ (s_icge C dL_orders_191 (by decide) (s_iload C dL_orders_202 (s_iconst C dL_orders_204 rfl ⟨by decide, by decide⟩ (s_icne C dL_orders_205 (by decide) (s_iload C dL_orders_218 (s_iconst C dL_orders_220 rfl ⟨by decide, by decide⟩ (s_icge C dL_orders_221 (by decide) (s_iload C dL_orders_234 (s_iconst C dL_orders_236 rfl ⟨by decide, by decide⟩ (s_icne C dL_orders_237 (by decide) (s_bipush C dL_orders_250 rfl ⟨by decide, by decide⟩ (fun _ _ _ h => h)) (s_bipush C dL_orders_240 rfl ⟨by decide, by decide⟩ (s_iload C dL_orders_242 (s_imul C dL_orders_244 (s_iconst C dL_orders_245 rfl ⟨by decide, by decide⟩ (s_iadd C dL_orders_246 (s_goto C dL_orders_247 (by decide) (fun _ _ _ h => h)))))))))) (s_bipush C dL_orders_224 rfl ⟨by decide, by decide⟩ (s_iload C dL_orders_226 (s_imul C dL_orders_228 (s_iconst C dL_orders_229 rfl ⟨by decide, by decide⟩ (s_iadd C dL_orders_230 (s_goto C dL_orders_231 (by decide) (fun _ _ _ h => h)))))))))) (s_bipush C dL_orders_208 rfl ⟨by decide, by decide⟩ (s_iload C dL_orders_210 (s_imul C dL_orders_212 (s_iconst C dL_orders_213 rfl ⟨by decide, by decide⟩ (s_iadd C dL_orders_214 (s_goto C dL_orders_215 (by decide) (fun _ _ _ h => h)))))))))) (s_bipush C dL_orders_194 rfl ⟨by decide, by decide⟩ (s_iload C dL_orders_196 (s_imul C dL_orders_198 (s_goto C dL_orders_199 (by decide) (fun _ _ _ h => h)))))))))))
set_option maxRecDepth 100000 in
theorem rL_orders_252 {zx : zX} {zn : Nat} {p : Program} {l : Launch} {e : Env} {s : State} {m : MethodId} {args : Array Value} {below : List Frame} {meth : Method} {c : Code} {D : va_G} {cA : Nat → ClassId} {ad : Nat → Nat} {Ret : zR} (C : z_Cx zx zn (z_A zn ad) 0 0 p { frames := 3, cells := 0, slots := 0, locals := 71 } s m args c cL_orders yL_orders.cls 9 D cA ad) (hr : meth.sig.returnType = (some .int)) (hlocks : meth.locks = false) : ∀ L st σ, tL_orders_252 zx (z_X zx zn (z_A zn ad) 0 0 p l e { frames := 3, cells := 0, slots := 0, locals := 71 } s m args below meth c (MQ below (z_Qc zn D cA ad Ret) args s 0 0 (z_A zn ad)) 9 D cA ad true) Ret L st σ → z_X zx zn (z_A zn ad) 0 0 p l e { frames := 3, cells := 0, slots := 0, locals := 71 } s m args below meth c (MQ below (z_Qc zn D cA ad Ret) args s 0 0 (z_A zn ad)) 9 D cA ad true 252 L st σ := (s_istore C dL_orders_252 (by decide) rfl (s_aload_n C dL_orders_254 rfl (s_iload C dL_orders_255 (s_iald C dL_orders_257 (s_istore C dL_orders_258 (by decide) rfl (s_aload_n C dL_orders_260 rfl (s_iload C dL_orders_261 (s_iload C dL_orders_263 (s_ifne C dL_orders_265 (by decide) (s_iload C dL_orders_279 (s_iconst C dL_orders_281 rfl ⟨by decide, by decide⟩ (s_icne C dL_orders_282 (by decide) (s_iload C dL_orders_296 (s_iconst C dL_orders_298 rfl ⟨by decide, by decide⟩ (s_icne C dL_orders_299 (by decide) (s_iload C dL_orders_307 (s_iconst C dL_orders_309 rfl ⟨by decide, by decide⟩ (s_iceq C dL_orders_310 (by decide) (fun _ _ _ h => h) (s_iload C dL_orders_313 (s_iconst C dL_orders_315 rfl ⟨by decide, by decide⟩ (s_iceq C dL_orders_316 (by decide) (fun _ _ _ h => h) (s_iload C dL_orders_319 (s_bipush C dL_orders_321 rfl ⟨by decide, by decide⟩ (s_icne C dL_orders_323 (by decide) (s_iconst C dL_orders_330 rfl ⟨by decide, by decide⟩ (fun _ _ _ h => h)) (fun _ _ _ h => h)))))))))) (s_iload C dL_orders_302 (s_goto C dL_orders_304 (by decide) (fun _ _ _ h => h)))))) (s_iload C dL_orders_285 (s_iload C dL_orders_287 (s_iadd C dL_orders_289 (s_cs1 C dL_orders_290 (okL_fit l) wd_668 wd_669 wd_16 wd_670 ⟨by decide, by decide, by decide +kernel⟩ ⟨by decide, by decide⟩ (s_goto C dL_orders_293 (by decide) (fun _ _ _ h => h))))))))) (s_iload C dL_orders_268 (s_iload C dL_orders_270 (s_isub C dL_orders_272 (s_cs1 C dL_orders_273 (okL_fit l) wd_668 wd_669 wd_16 wd_670 ⟨by decide, by decide, by decide +kernel⟩ ⟨by decide, by decide⟩ (s_goto C dL_orders_276 (by decide) (fun _ _ _ h => h)))))))))))))))
set_option maxRecDepth 100000 in
theorem rL_orders_326 {zx : zX} {zn : Nat} {p : Program} {l : Launch} {e : Env} {s : State} {m : MethodId} {args : Array Value} {below : List Frame} {meth : Method} {c : Code} {D : va_G} {cA : Nat → ClassId} {ad : Nat → Nat} {Ret : zR} (C : z_Cx zx zn (z_A zn ad) 0 0 p { frames := 3, cells := 0, slots := 0, locals := 71 } s m args c cL_orders yL_orders.cls 9 D cA ad) (hr : meth.sig.returnType = (some .int)) (hlocks : meth.locks = false) : ∀ L st σ, tL_orders_326 zx (z_X zx zn (z_A zn ad) 0 0 p l e { frames := 3, cells := 0, slots := 0, locals := 71 } s m args below meth c (MQ below (z_Qc zn D cA ad Ret) args s 0 0 (z_A zn ad)) 9 D cA ad true) Ret L st σ → z_X zx zn (z_A zn ad) 0 0 p l e { frames := 3, cells := 0, slots := 0, locals := 71 } s m args below meth c (MQ below (z_Qc zn D cA ad Ret) args s 0 0 (z_A zn ad)) 9 D cA ad true 326 L st σ := (s_iconst C dL_orders_326 rfl ⟨by decide, by decide⟩ (s_goto C dL_orders_327 (by decide) (fun _ _ _ h => h)))
set_option maxRecDepth 100000 in
theorem rL_orders_331 {zx : zX} {zn : Nat} {p : Program} {l : Launch} {e : Env} {s : State} {m : MethodId} {args : Array Value} {below : List Frame} {meth : Method} {c : Code} {D : va_G} {cA : Nat → ClassId} {ad : Nat → Nat} {Ret : zR} (C : z_Cx zx zn (z_A zn ad) 0 0 p { frames := 3, cells := 0, slots := 0, locals := 71 } s m args c cL_orders yL_orders.cls 9 D cA ad) (hr : meth.sig.returnType = (some .int)) (hlocks : meth.locks = false) : ∀ L st σ, tL_orders_331 zx (z_X zx zn (z_A zn ad) 0 0 p l e { frames := 3, cells := 0, slots := 0, locals := 71 } s m args below meth c (MQ below (z_Qc zn D cA ad Ret) args s 0 0 (z_A zn ad)) 9 D cA ad true) Ret L st σ → z_X zx zn (z_A zn ad) 0 0 p l e { frames := 3, cells := 0, slots := 0, locals := 71 } s m args below meth c (MQ below (z_Qc zn D cA ad Ret) args s 0 0 (z_A zn ad)) 9 D cA ad true 331 L st σ := (s_iast C dL_orders_331 (s_aload_n C dL_orders_332 rfl (s_bipush C dL_orders_333 rfl ⟨by decide, by decide⟩ (s_dup2 C dL_orders_335 (s_iald C dL_orders_336 (s_iconst C dL_orders_337 rfl ⟨by decide, by decide⟩ (s_iadd C dL_orders_338 (s_iast C dL_orders_339 (s_iload C dL_orders_340 (s_iload C dL_orders_342 (s_iconst C dL_orders_344 rfl ⟨by decide, by decide⟩ (s_icge C dL_orders_345 (by decide) (s_iconst C dL_orders_353 rfl ⟨by decide, by decide⟩ (fun _ _ _ h => h)) (s_bipush C dL_orders_348 rfl ⟨by decide, by decide⟩ (s_goto C dL_orders_350 (by decide) (fun _ _ _ h => h)))))))))))))))
set_option maxRecDepth 100000 in
theorem rL_orders_354 {zx : zX} {zn : Nat} {p : Program} {l : Launch} {e : Env} {s : State} {m : MethodId} {args : Array Value} {below : List Frame} {meth : Method} {c : Code} {D : va_G} {cA : Nat → ClassId} {ad : Nat → Nat} {Ret : zR} (C : z_Cx zx zn (z_A zn ad) 0 0 p { frames := 3, cells := 0, slots := 0, locals := 71 } s m args c cL_orders yL_orders.cls 9 D cA ad) (hr : meth.sig.returnType = (some .int)) (hlocks : meth.locks = false) : ∀ L st σ, tL_orders_354 zx (z_X zx zn (z_A zn ad) 0 0 p l e { frames := 3, cells := 0, slots := 0, locals := 71 } s m args below meth c (MQ below (z_Qc zn D cA ad Ret) args s 0 0 (z_A zn ad)) 9 D cA ad true) Ret L st σ → z_X zx zn (z_A zn ad) 0 0 p l e { frames := 3, cells := 0, slots := 0, locals := 71 } s m args below meth c (MQ below (z_Qc zn D cA ad Ret) args s 0 0 (z_A zn ad)) 9 D cA ad true 354 L st σ := (s_iadd C dL_orders_354 (s_sipush C dL_orders_355 rfl ⟨by decide, by decide⟩ (s_iload C dL_orders_358 (s_iconst C dL_orders_360 rfl ⟨by decide, by decide⟩ (s_icge C dL_orders_361 (by decide) (s_iload C dL_orders_378 (s_imul C dL_orders_380 (s_iadd C dL_orders_381 (s_iret C dL_orders_382 hr hlocks)))) (s_iload C dL_orders_364 (s_aload_n C dL_orders_366 rfl (s_iload C dL_orders_367 (s_iald C dL_orders_369 (s_isub C dL_orders_370 (s_sipush C dL_orders_371 rfl ⟨by decide, by decide⟩ (s_iadd C dL_orders_374 (s_goto C dL_orders_375 (by decide) (s_imul C dL_orders_380 (s_iadd C dL_orders_381 (s_iret C dL_orders_382 hr hlocks))))))))))))))))
theorem okL_orders {zx : zX} {zn : Nat} (l : Launch) : z_OK zx zn l yL_orders cL_orders 9 (some .int) 3 71 (SL_orders zx) := by
  refine z_ok_of true (by decide +kernel) ?_ ?_
  · intro as σ Ret h
    obtain ⟨k1, k2, k3, x4, rfl⟩ := pL_orders h
    exact ⟨Nat.le_of_ble_eq_true rfl, by simp⟩
  · intro p e s m args below meth c D cA ad Ret C hr hlocks as σ has hσ h
    obtain ⟨k1, k2, k3, x4, rfl⟩ := pL_orders h
    exact vL_orders (rL_orders_0 C hr hlocks) (rL_orders_47 C hr hlocks) (rL_orders_63 C hr hlocks) (rL_orders_153 C hr hlocks) (rL_orders_169 C hr hlocks) (rL_orders_181 C hr hlocks) (rL_orders_252 C hr hlocks) (rL_orders_326 C hr hlocks) (rL_orders_331 C hr hlocks) (rL_orders_354 C hr hlocks) k1 k2 k3 x4 σ (has _ (List.mem_of_getElem? (i := 0) rfl)).1 (has _ (List.mem_of_getElem? (i := 1) rfl)).1 (has _ (List.mem_of_getElem? (i := 2) rfl)).1 (has _ (List.mem_of_getElem? (i := 3) rfl)) hσ h
