/-! the model's bounds are kept -/
theorem q_mok_c5 {σ τ : zM} (h : q_mok σ) (e : ∀ c j, (c = 89 ∧ (j = 7 ∨ j = 12 ∨ j = 34)) ∨ c = 90 ∨ c = 91 ∨ c = 93 ∨ c = 95 ∨ c = 97 ∨ c = 104 ∨ c = 105 ∨ c = 106 → τ c j = σ c j) : q_mok τ := by
  have f : ∀ c, c = 90 ∨ c = 91 ∨ c = 93 ∨ c = 95 ∨ c = 97 ∨ c = 104 ∨ c = 105 ∨ c = 106 → τ c = σ c := fun c hc => funext fun j => e c j (by omega)
  have e7 := e 89 7 (by omega)
  have e12 := e 89 12 (by omega)
  have e34 := e 89 34 (by omega)
  unfold q_mok q_kw q_ko at *
  rw [f 90 (by omega), f 91 (by omega), f 93 (by omega), f 95 (by omega), f 97 (by omega), f 104 (by omega), f 105 (by omega), f 106 (by omega), e7, e12, e34]
  exact h
theorem q_mok_1 {σ : zM} (h : q_mok σ) (v : Int) : q_mok (z_up σ 89 1 v) := q_mok_c5 h (fun c j hc => z_up_ne (by omega))
theorem q_k_id : ∀ σ, q_mok σ → q_mok (q_fId σ) := fun _ h => h
theorem q_k_row (r l n : Int) : ∀ σ, q_mok σ → q_mok (q_fRow r l n σ) := by
  intro σ h
  unfold q_fRow
  by_cases c1 : ¬ ((0 ≤ r ∧ r < 8) ∧ (0 ≤ l ∧ l ≤ 2) ∧ n ≤ 40)
  · rw [if_pos c1]; exact h
  · rw [if_neg c1]
    by_cases c2 : n < 0
    · rw [if_pos c2]; exact q_mok_1 h 4
    · rw [if_neg c2]
      obtain ⟨x, rfl⟩ := z_nat (show 0 ≤ r by omega)
      rw [Int.toNat_natCast]
      generalize hs : z_fill (z_up (z_up (z_up σ 89 1 0) 90 x l) 91 x n) 92 (40 * x) 40 0 = τ
      have e : ∀ c j, c ≠ 90 → c ≠ 91 → c ≠ 92 → ¬ (c = 89 ∧ j = 1) → τ c j = σ c j := fun c j a1 a2 a3 a4 => by
        rw [← hs]
        simp only [z_fill, z_up]
        rw [if_neg (by omega), if_neg (by omega), if_neg (by omega), if_neg (by omega)]
      have f : ∀ c, 93 ≤ c → τ c = σ c := fun c hc => funext fun j => e c j (by omega) (by omega) (by omega) (by omega)
      obtain ⟨h1, h2, h3, h4, h5⟩ := h
      refine ⟨fun q hq => ?_, by rw [f 93 (by omega), f 95 (by omega), e _ _ (by omega) (by omega) (by omega) (by omega)]; exact h2, fun k hk => ?_, ?_, by rw [e _ _ (by omega) (by omega) (by omega) (by omega)]; exact h5⟩
      · have q1 := h1 q hq
        have e90 : τ 90 q = if q = x then l else σ 90 q := by
          rw [← hs]
          simp only [z_fill, z_up]
          rw [if_neg (by omega), if_neg (by omega)]
          by_cases w : q = x
          · rw [if_pos (by simpa using w), if_pos w]
          · rw [if_neg (by omega), if_neg (by omega), if_neg w]
        have e91 : τ 91 q = if q = x then n else σ 91 q := by
          rw [← hs]
          simp only [z_fill, z_up]
          rw [if_neg (by omega)]
          by_cases w : q = x
          · rw [if_pos (by simpa using w), if_pos w]
          · rw [if_neg (by omega), if_neg (by omega), if_neg (by omega), if_neg w]
        rw [e90, e91]
        by_cases w : q = x
        · rw [if_pos w, if_pos w]; omega
        · rw [if_neg w, if_neg w]; exact q1
      · have q := h3 k hk
        unfold q_kw q_ko at *
        rw [f 104 (by omega), f 105 (by omega), f 106 (by omega), e 89 7 (by omega) (by omega) (by omega) (by omega)]
        exact q
      · rw [e 89 12 (by omega) (by omega) (by omega) (by omega), f 97 (by omega)]
        exact h4
theorem q_k_set (r i v : Int) : ∀ σ, q_mok σ → q_mok (q_fSet r i v σ) := by
  intro σ h
  unfold q_fSet
  split
  · exact h
  · split
    · exact q_mok_1 h 1
    · split
      · exact q_mok_1 h 2
      · exact q_mok_c5 h (fun c j hc => by rw [z_up_ne (by omega), z_up_ne (by omega)])
theorem q_k_copy (a i b j n : Int) : ∀ σ, q_mok σ → q_mok (q_fCopy a i b j n σ) := by
  intro σ h
  unfold q_fCopy
  split
  · exact h
  · split
    · exact q_mok_1 h 1
    · split
      · exact q_mok_1 h 5
      · split
        · exact q_mok_1 h 2
        · exact q_mok_c5 h (fun c j hc => by rw [z_cpy_ne (by omega), z_up_ne (by omega)])
theorem q_k_drop (r : Int) : ∀ σ, q_mok σ → q_mok (q_fDrop r σ) := by
  intro σ h
  unfold q_fDrop
  split
  · exact h
  · split
    · exact q_mok_1 h 1
    · rename_i c1 c2
      obtain ⟨x, rfl⟩ := z_nat (show 0 ≤ r by omega)
      rw [Int.toNat_natCast]
      generalize hs : z_up (z_up σ 89 1 0) 90 x (-1) = τ
      have e : ∀ c j, c ≠ 90 → ¬ (c = 89 ∧ j = 1) → τ c j = σ c j := fun c j a1 a4 => by rw [← hs, z_up_ne (by omega), z_up_ne (by omega)]
      have f : ∀ c, 91 ≤ c → τ c = σ c := fun c hc => funext fun j => e c j (by omega) (by omega)
      obtain ⟨h1, h2, h3, h4, h5⟩ := h
      refine ⟨fun q hq => ?_, by rw [f 93 (by omega), f 95 (by omega), e _ _ (by omega) (by omega)]; exact h2, fun k hk => ?_, ?_, by rw [e _ _ (by omega) (by omega)]; exact h5⟩
      · have q1 := h1 q hq
        rw [f 91 (by omega)]
        refine ⟨?_, q1.2⟩
        rw [← hs]
        by_cases w : q = x
        · subst w; rw [z_up_eq]; omega
        · rw [z_up_ne (by omega), z_up_ne (by omega)]; exact q1.1
      · have q := h3 k hk
        unfold q_kw q_ko at *
        rw [f 104 (by omega), f 105 (by omega), f 106 (by omega), e 89 7 (by omega) (by omega)]
        exact q
      · rw [e 89 12 (by omega) (by omega), f 97 (by omega)]
        exact h4
/-- all but the tape stays -/
theorem q_mok_tp {σ τ : zM} (h : q_mok σ) (ht : q_tpok τ) (e : ∀ c j, 89 ≤ c → c ≠ 97 → ¬ (c = 89 ∧ (j = 12 ∨ j = 13)) → τ c j = σ c j) : q_mok τ := by
  have f : ∀ c, 90 ≤ c → c ≠ 97 → τ c = σ c := fun c hc h2 => funext fun j => e c j (by omega) h2 (by omega)
  have e7 := e 89 7 (by omega) (by omega) (by omega)
  have e34 := e 89 34 (by omega) (by omega) (by omega)
  obtain ⟨h1, h2, h3, h4, h5⟩ := h
  unfold q_kw q_ko at h3
  refine ⟨by rw [f 90 (by omega) (by omega), f 91 (by omega) (by omega)]; exact h1, by rw [f 93 (by omega) (by omega), f 95 (by omega) (by omega), e7]; exact h2, ?_, ht, by rw [e34]; exact h5⟩
  unfold q_kw q_ko
  rw [f 104 (by omega) (by omega), f 105 (by omega) (by omega), f 106 (by omega) (by omega), e7]
  exact h3
theorem q_tp0 {τ : zM} (h : τ 89 12 = 0) : q_tpok τ := ⟨by omega, fun j hj => by omega⟩
theorem q_k_feed (w n : Int) : ∀ σ, q_mok σ → q_mok (q_fFeed w n σ) := by
  intro σ h
  unfold q_fFeed
  split
  · exact h
  · split
    · exact h
    · rename_i c1 c2
      exact q_mok_tp h (q_fm_ok n.toNat h.2.2.2.1 (by omega)) (fun c j h1 h2 h3 => q_fm_ne (by omega) _ _)
/-- the wood that stands is another one -/
theorem q_mok_wd {σ τ : zM} (h : q_mok σ) (hw : q_Wok (τ 93) (τ 95) (τ 89 7)) (h7 : σ 89 7 = 1 → τ 89 7 = 1) (ht : q_tpok τ) (e : ∀ c j, 89 ≤ c → c ≠ 93 → c ≠ 95 → c ≠ 97 → ¬ (c = 89 ∧ (j = 7 ∨ j = 12 ∨ j = 13)) → τ c j = σ c j) : q_mok τ := by
  have f : ∀ c, 90 ≤ c → c ≠ 93 → c ≠ 95 → c ≠ 97 → τ c = σ c := fun c hc h2 h3 h4 => funext fun j => e c j (by omega) h2 h3 h4 (by omega)
  have e34 := e 89 34 (by omega) (by omega) (by omega) (by omega) (by omega)
  obtain ⟨h1, h2, h3, h4, h5⟩ := h
  unfold q_kw q_ko at h3
  refine ⟨by rw [f 90 (by omega) (by omega) (by omega) (by omega), f 91 (by omega) (by omega) (by omega) (by omega)]; exact h1, hw, ?_, ht, by rw [e34]; exact h5⟩
  unfold q_kw q_ko
  rw [f 104 (by omega) (by omega) (by omega) (by omega), f 105 (by omega) (by omega) (by omega) (by omega), f 106 (by omega) (by omega) (by omega) (by omega)]
  exact fun k hk => ⟨(h3 k hk).1, fun q => h7 ((h3 k hk).2 q)⟩
theorem q_Wok_cg {D O D' O' : Nat → Int} {h : Int} (w : q_Wok D O h) (e : ∀ i, i < 106 → D' i = D i) (f : ∀ i, i < 180 → O' i = O i) : q_Wok D' O' h := by
  obtain ⟨⟨⟨a0, a1, a2, a4, a5⟩, hT, hW, hJ⟩, d, hh, h1⟩ := w
  refine ⟨⟨?_, fun t ht => ?_, fun t ht => ?_, fun j hj => ?_⟩, fun i hi => ?_, hh, by rw [e 0 (by omega)]; exact h1⟩
  · rw [e 0 (by omega), e 1 (by omega), e 2 (by omega), e 4 (by omega), e 5 (by omega)]
    exact ⟨a0, a1, a2, a4, a5⟩
  · rw [e 0 (by omega)] at ht
    rw [e _ (by omega), e _ (by omega), e _ (by omega), e _ (by omega), e _ (by omega), e _ (by omega)]
    exact hT t ht
  · rw [e 1 (by omega)] at ht
    rw [e _ (by omega), e _ (by omega), e _ (by omega)]
    exact hW t ht
  · rw [e 2 (by omega)] at hj
    rw [e _ (by omega)]
    exact hJ j hj
  · rw [e 5 (by omega)] at hi
    rw [e 0 (by omega), f _ (by omega), f _ (by omega), f _ (by omega)]
    exact d i hi
theorem q_k_wood : ∀ σ, q_mok σ → q_mok (q_fWood σ) := by
  intro σ h
  unfold q_fWood
  by_cases c : (q_wo2 σ).2.1 = 0
  · rw [if_pos c]
    have ok := q_wr_ok (b := q_by (σ 97) (σ 89 12).toNat) (T := (σ 89 12).toNat)
    have w : q_Wok (q_wo2 σ).2.2 (σ 95) 1 := ⟨ok.1.1, fun i hi => by have := ok.1.2.1.2.2; have e : (q_wo2 σ).2.2 5 = 0 := this; omega, by omega, fun _ => ok.2 c⟩
    refine q_mok_wd h ?_ (fun _ => ?_) (q_tp0 ?_) (fun c j h0 h1 h2 h3 h4 => ?_)
    · rw [if_neg (show ¬ (89 = 93 ∧ 7 < 106) by omega), if_pos (show 89 = 89 ∧ 7 = 7 by omega)]
      refine q_Wok_cg w (fun i hi => ?_) (fun i hi => ?_)
      · rw [if_pos ⟨rfl, hi⟩]
      · rw [if_neg (by omega), if_neg (by omega), if_neg (by omega)]
    · rw [if_neg (by omega), if_pos (by omega)]
    · rw [if_neg (by omega), if_neg (by omega), if_pos (by omega)]
    · rw [if_neg (by omega), if_neg (by omega), if_neg (by omega)]
  · rw [if_neg c]
    exact q_mok_tp h (q_tp0 (by rw [z_up_ne (by omega), z_up_eq])) (fun c j h1 h2 h3 => by rw [z_up_ne (by omega), z_up_ne (by omega)])
theorem q_k_orders : ∀ σ, q_mok σ → q_mok (q_fOrders σ) := by
  intro σ h
  unfold q_fOrders
  split
  · exact h
  · rename_i c1
    split
    · exact q_mok_tp h (q_tp0 (by rw [z_up_ne (by omega), z_up_eq])) (fun c j h1 h2 h3 => by rw [z_up_ne (by omega), z_up_ne (by omega)])
    · split
      · exact q_mok_tp h (q_tp0 z_up_eq) (fun c j h1 h2 h3 => by rw [z_up_ne (by omega)])
      · rename_i c2 c3
        have n1 : 1 ≤ σ 93 0 := h.2.1.2.2.2 (by have := h.2.1.2.2.1; omega)
        have ok := q_oo2_ok (τ := σ) n1
        have dd := q_dds_ok h.2.1 ok.1 (by omega) (q_oo2 σ).2.2.1 (Nat.le_refl _)
        refine q_mok_wd h ?_ (fun q => ?_) (q_tp0 ?_) (fun c j h0 h1 h2 h3 h4 => ?_)
        · rw [q_set_eq, q_set_ne (show 93 ≠ 95 by omega), q_set_eq, q_set_ne (show 89 ≠ 95 by omega), q_set_ne (show 89 ≠ 93 by omega), z_up_ne (by omega)]
          exact dd.1
        · rw [q_set_ne (by omega), q_set_ne (by omega), z_up_ne (by omega)]; exact q
        · rw [q_set_ne (by omega), q_set_ne (by omega), z_up_eq]
        · rw [q_set_ne h2, q_set_ne h1, z_up_ne (by omega)]
theorem q_k_undo : ∀ σ, q_mok σ → q_mok (q_fUndo σ) := by
  intro σ h
  unfold q_fUndo
  split
  · exact h
  · rename_i c
    have k5 := h.2.1.1.1.2.2.2.2
    refine q_mok_wd h ?_ (fun q => ?_) ?_ (fun c j h0 h1 h2 h3 h4 => q_set_ne h1 ▸ rfl)
    · rw [q_set_eq, q_set_ne (by omega), q_set_ne (by omega)]
      exact q_Wok_un h.2.1 (by omega)
    · rw [q_set_ne (by omega)]; exact q
    · unfold q_tpok
      rw [q_set_ne (by omega), q_set_ne (by omega)]
      exact h.2.2.2.1
theorem q_k_go (n : Int) : ∀ σ, q_mok σ → q_mok (q_fGo n σ) := by
  intro σ h
  unfold q_fGo
  split
  · exact h
  · split
    · exact h
    · obtain ⟨K, d, hh, h1⟩ := h.2.1
      have e0 : q_d1 (q_gwD (σ 93) n) 3 (z_wr (σ 93 3 + n)) 0 = σ 93 0 := by rw [q_d1_ne (by omega), q_gwD_ne (by omega)]
      have e5 : q_d1 (q_gwD (σ 93) n) 3 (z_wr (σ 93 3 + n)) 5 = σ 93 5 := by rw [q_d1_ne (by omega), q_gwD_ne (by omega)]
      refine q_mok_wd h ?_ (fun q => ?_) ?_ (fun c j h0 h1 h2 h3 h4 => q_set_ne h1 ▸ rfl)
      · rw [q_set_eq, q_set_ne (by omega), q_set_ne (by omega)]
        refine ⟨q_Dok_3 (q_gwD_ok K n) _, fun i hi => ?_, hh, by rw [e0]; exact h1⟩
        rw [e5] at hi
        rw [e0]
        exact d i hi
      · rw [q_set_ne (by omega)]; exact q
      · unfold q_tpok
        rw [q_set_ne (by omega), q_set_ne (by omega)]
        exact h.2.2.2.1
theorem q_k_image (k : Int) : ∀ σ, q_mok σ → q_mok (q_fImage k σ) := by
  intro σ h
  unfold q_fImage
  split
  · exact h
  · split
    · exact h
    · rename_i c1 c2
      obtain ⟨x, rfl⟩ := z_nat (show 0 ≤ k by omega)
      rw [Int.toNat_natCast]
      have e : ∀ c j, ¬ (104 ≤ c ∧ c ≤ 106) → q_kp σ x c j = σ c j := fun c j hc => by
        unfold q_kp
        rw [if_neg (by omega), if_neg (by omega), if_neg (by omega)]
      have f : ∀ c, ¬ (104 ≤ c ∧ c ≤ 106) → q_kp σ x c = σ c := fun c hc => funext fun j => e c j hc
      obtain ⟨h1, h2, h3, h4, h5⟩ := h
      have s7 : σ 89 7 = 1 := by have := h2.2.2.1; omega
      refine ⟨by rw [f 90 (by omega), f 91 (by omega)]; exact h1, by rw [f 93 (by omega), f 95 (by omega), f 89 (by omega)]; exact h2, fun q hq => ?_, by rw [f 97 (by omega), f 89 (by omega)]; exact h4, by rw [f 89 (by omega)]; exact h5⟩
      rw [f 89 (by omega)]
      refine ⟨?_, fun _ => s7⟩
      by_cases w : q = x
      · subst w
        have e4 : q_kp σ q 104 q = 1 := by
          unfold q_kp
          rw [if_neg (by omega), if_neg (by omega), if_pos ⟨rfl, rfl⟩]
        rw [e4]
        rw [s7] at h2
        refine q_Wok_cg h2 (fun i hi => ?_) (fun i hi => ?_)
        · unfold q_kw q_kp
          rw [if_pos ⟨rfl, by omega, by omega⟩, Nat.add_sub_cancel_left]
        · unfold q_ko q_kp
          rw [if_neg (by omega), if_pos ⟨rfl, by omega, by omega⟩, Nat.add_sub_cancel_left]
      · have e4 : q_kp σ x 104 q = σ 104 q := by
          unfold q_kp
          rw [if_neg (by omega), if_neg (by omega), if_neg (by omega)]
        rw [e4]
        refine q_Wok_cg (h3 q hq).1 (fun i hi => ?_) (fun i hi => ?_)
        · unfold q_kw q_kp
          rw [if_neg (by omega), if_neg (by omega), if_neg (by omega)]
        · unfold q_ko q_kp
          rw [if_neg (by omega), if_neg (by omega), if_neg (by omega)]
theorem q_k_restore (k : Int) : ∀ σ, q_mok σ → q_mok (q_fRestore k σ) := by
  intro σ h
  unfold q_fRestore
  split
  · exact h
  · split
    · exact h
    · rename_i c1 c2
      obtain ⟨x, rfl⟩ := z_nat (show 0 ≤ k by omega)
      rw [Int.toNat_natCast] at c2 ⊢
      have e : ∀ c j, c ≠ 93 → c ≠ 95 → q_rp σ x c j = σ c j := fun c j h1 h2 => by
        unfold q_rp
        rw [if_neg (by omega), if_neg (by omega)]
      obtain ⟨w, w7⟩ := h.2.2.1 x (by omega)
      have s4 : σ 104 x = 1 := by have := w.2.2.1; omega
      have s7 := w7 s4
      rw [s4] at w
      refine q_mok_wd h ?_ (fun q => by rw [e _ _ (by omega) (by omega)]; exact q) ?_ (fun c j h0 h1 h2 h3 h4 => e c j h1 h2)
      · rw [e 89 7 (by omega) (by omega), s7]
        refine q_Wok_cg w (fun i hi => ?_) (fun i hi => ?_)
        · unfold q_rp
          rw [if_pos ⟨rfl, hi⟩]
          rfl
        · unfold q_rp
          rw [if_neg (by omega), if_pos ⟨rfl, hi⟩]
          rfl
      · unfold q_tpok
        rw [e 89 12 (by omega) (by omega)]
        refine ⟨h.2.2.2.1.1, fun j hj => ?_⟩
        rw [e 97 j (by omega) (by omega)]
        exact h.2.2.2.1.2 j hj
theorem q_k_as (t w k : Int) : ∀ σ, q_mok σ → q_mok (q_fAs t w k σ) := by
  intro σ h
  unfold q_fAs
  split
  · exact h
  · split
    · exact q_mok_1 h 0
    · exact q_mok_1 h 3
theorem q_k_birds (w r i n t : Int) : ∀ σ, q_mok σ → q_mok (q_fBirds w r i n t σ) := by
  intro σ h
  unfold q_fBirds
  split
  · exact h
  · split
    · exact q_mok_1 h 1
    · split
      · exact q_mok_1 h 2
      · exact q_mok_1 h 0
theorem q_k_missing (w r n i : Int) : ∀ σ, q_mok σ → q_mok (q_fMissing w r n i σ) := by
  intro σ h
  unfold q_fMissing
  split
  · exact h
  · split
    · exact q_mok_1 h 1
    · split
      · exact q_mok_1 h 2
      · exact q_mok_1 h 0
theorem q_lmS34 : ∀ (l : List Int) (τ : zM), 0 ≤ τ 89 34 ∧ τ 89 34 ≤ 16 → 0 ≤ q_lmS l τ 89 34 ∧ q_lmS l τ 89 34 ≤ 16
  | [], _, h => h
  | b :: l, τ, h => by
    rw [q_lmS]
    refine q_lmS34 l _ ?_
    unfold q_lm
    split
    · rw [z_up_eq]; omega
    · exact h
theorem q_k_ask (t w x : Int) : ∀ σ, q_mok σ → q_mok (q_fAsk t w x σ) := by
  intro σ h
  unfold q_fAsk
  split
  · exact h
  · have b := q_lmS34 (q_askL (q_kdD (σ 93) t.toNat w.toNat) x) (z_up σ 89 34 0) (by rw [z_up_eq]; omega)
    generalize hs : q_lmS (q_askL (q_kdD (σ 93) t.toNat w.toNat) x) (z_up σ 89 34 0) = τ at b
    have e : ∀ c j, c ≠ 107 → ¬ (c = 89 ∧ j = 34) → τ c j = σ c j := fun c j h1 h2 => by rw [← hs, q_lmS_ne ⟨h1, h2⟩, z_up_ne (by omega)]
    have f : ∀ c, 90 ≤ c → c ≤ 106 → τ c = σ c := fun c hc h2 => funext fun j => e c j (by omega) (by omega)
    obtain ⟨h1, h2, h3, h4, h5⟩ := h
    unfold q_kw q_ko at h3
    refine ⟨by rw [f 90 (by omega) (by omega), f 91 (by omega) (by omega)]; exact h1, by rw [f 93 (by omega) (by omega), f 95 (by omega) (by omega), e 89 7 (by omega) (by omega)]; exact h2, ?_, by rw [e 89 12 (by omega) (by omega), f 97 (by omega) (by omega)]; exact h4, b⟩
    unfold q_kw q_ko
    rw [f 104 (by omega) (by omega), f 105 (by omega) (by omega), f 106 (by omega) (by omega), e 89 7 (by omega) (by omega)]
    exact h3
