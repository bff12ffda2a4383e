theorem q_Dok_3 {D : Nat → Int} (k : q_Dok D) (v : Int) : q_Dok (q_d1 D 3 v) := by
  obtain ⟨⟨a0, a1, a2, a4, a5⟩, hT, hW, hJ⟩ := k
  have ne : ∀ j, j ≠ 3 → q_d1 D 3 v j = D j := fun j hj => if_neg hj
  unfold q_Dok
  rw [ne 0 (by omega), ne 1 (by omega), ne 2 (by omega), ne 4 (by omega), ne 5 (by omega)]
  refine ⟨⟨a0, a1, a2, a4, a5⟩, fun t' h1 => ?_, fun w h1 => ?_, fun j h1 => ?_⟩
  · rw [ne _ (by omega), ne _ (by omega), ne _ (by omega), ne _ (by omega), ne _ (by omega), ne _ (by omega)]
    exact hT t' h1
  · rw [ne _ (by omega), ne _ (by omega), ne _ (by omega)]
    exact hW w h1
  · rw [ne _ (by omega)]
    exact hJ j h1
theorem q_gwD_ne {D : Nat → Int} {n : Int} {j : Nat} (h : ¬ (6 ≤ j ∧ (j : Int) < 6 + 6 * D 0 ∧ j % 6 = 0)) : q_gwD D n j = D j := by
  unfold q_gwD
  rw [if_neg (fun q => h q.1)]
theorem q_gwD_at {D : Nat → Int} {n : Int} {t : Nat} (ht : (t : Int) < D 0) : q_gwD D n (6 + 6 * t + 0) = if D (6 + 6 * t + 4) = 0 ∧ D (6 + 6 * t + 5) = 0 then max 10 (min 999 (D (6 + 6 * t + 0) + n * D (6 + 6 * t + 3))) else D (6 + 6 * t + 0) := by
  unfold q_gwD
  simp only [Nat.add_zero]
  by_cases c : D (6 + 6 * t + 4) = 0 ∧ D (6 + 6 * t + 5) = 0
  · rw [if_pos c, if_pos ⟨by omega, c⟩]
  · rw [if_neg c, if_neg (fun q => c q.2)]
theorem q_gwD_in {D : Nat → Int} (K : q_Dok D) {n : Int} {t : Nat} (ht : (t : Int) < D 0) : 10 ≤ q_gwD D n (6 + 6 * t + 0) ∧ q_gwD D n (6 + 6 * t + 0) ≤ 999 := by
  rw [q_gwD_at ht]
  have := K.2.1 t ht
  split
  · exact q_clamp _
  · exact this.1
theorem q_gwD_ok {D : Nat → Int} (k : q_Dok D) (n : Int) : q_Dok (q_gwD D n) := by
  have k0 := k.1.1
  have k1 := k.1.2.1
  have k2 := k.1.2.2.1
  obtain ⟨⟨a0, a1, a2, a4, a5⟩, hT, hW, hJ⟩ := k
  have k : q_Dok D := ⟨⟨a0, a1, a2, a4, a5⟩, hT, hW, hJ⟩
  unfold q_Dok
  rw [q_gwD_ne (j := 0) (by omega), q_gwD_ne (j := 1) (by omega), q_gwD_ne (j := 2) (by omega), q_gwD_ne (j := 4) (by omega), q_gwD_ne (j := 5) (by omega)]
  refine ⟨⟨a0, a1, a2, a4, a5⟩, fun t h1 => ?_, fun w h1 => ?_, fun j h1 => ?_⟩
  · have q := q_gwD_in (n := n) k h1
    rw [q_gwD_ne (j := 6 + 6 * t + 1) (by omega), q_gwD_ne (j := 6 + 6 * t + 2) (by omega), q_gwD_ne (j := 6 + 6 * t + 3) (by omega), q_gwD_ne (j := 6 + 6 * t + 4) (by omega), q_gwD_ne (j := 6 + 6 * t + 5) (by omega)]
    exact ⟨q, (hT t h1).2⟩
  · rw [q_gwD_ne (by omega), q_gwD_ne (by omega), q_gwD_ne (by omega)]
    exact hW w h1
  · rw [q_gwD_ne (by omega)]
    exact hJ j h1
theorem q_gwD_S {D : Nat → Int} (k : q_Dok D) {n v : Int} (hn : 0 ≤ n) (j : Nat) (hj : j ≠ 3) : q_gwD (q_d1 (q_gwD D n) 3 v) 1 j = q_gwD D (n + 1) j := by
  have e0 : q_d1 (q_gwD D n) 3 v 0 = D 0 := by rw [q_d1_ne (by omega), q_gwD_ne (by omega)]
  by_cases c : 6 ≤ j ∧ (j : Int) < 6 + 6 * D 0 ∧ j % 6 = 0
  · obtain ⟨t, ht⟩ : ∃ t, j = 6 + 6 * t + 0 := ⟨(j - 6) / 6, by omega⟩
    subst ht
    have ht : (t : Int) < D 0 := by omega
    have q := k.2.1 t ht
    rw [q_gwD_at (D := q_d1 (q_gwD D n) 3 v) (by rw [e0]; exact ht), q_gwD_at (n := n + 1) ht]
    rw [q_d1_ne (show 6 + 6 * t + 4 ≠ 3 by omega), q_d1_ne (show 6 + 6 * t + 5 ≠ 3 by omega), q_d1_ne (show 6 + 6 * t + 3 ≠ 3 by omega), q_d1_ne (show 6 + 6 * t + 0 ≠ 3 by omega)]
    rw [q_gwD_ne (j := 6 + 6 * t + 4) (by omega), q_gwD_ne (j := 6 + 6 * t + 5) (by omega), q_gwD_ne (j := 6 + 6 * t + 3) (by omega), q_gwD_at ht]
    have hm : (n + 1) * D (6 + 6 * t + 3) = n * D (6 + 6 * t + 3) + D (6 + 6 * t + 3) := by rw [Int.add_mul, Int.one_mul]
    have hp : 0 ≤ n * D (6 + 6 * t + 3) := Int.mul_nonneg hn (by omega)
    rw [hm, Int.one_mul]
    generalize n * D (6 + 6 * t + 3) = y at hp
    by_cases c : D (6 + 6 * t + 4) = 0 ∧ D (6 + 6 * t + 5) = 0
    · rw [if_pos c, if_pos c, if_pos c]
      omega
    · rw [if_neg c, if_neg c, if_neg c]
  · rw [q_gwD_ne (D := q_d1 (q_gwD D n) 3 v) (by rw [e0]; exact c), q_d1_ne hj, q_gwD_ne c, q_gwD_ne c]
/-! the model's bounds are kept -/
theorem q_mok_c5 {σ τ : zM} (h : q_mok σ) (e : ∀ c j, (c = 89 ∧ (j = 7 ∨ j = 12 ∨ j = 34)) ∨ c = 90 ∨ c = 91 ∨ c = 93 ∨ c = 95 ∨ c = 97 ∨ c = 104 ∨ c = 105 ∨ c = 106 → τ c j = σ c j) : q_mok τ := by
  have f : ∀ c, c = 90 ∨ c = 91 ∨ c = 93 ∨ c = 95 ∨ c = 97 ∨ c = 104 ∨ c = 105 ∨ c = 106 → τ c = σ c := fun c hc => funext fun j => e c j (by omega)
  have e7 := e 89 7 (by omega)
  have e12 := e 89 12 (by omega)
  have e34 := e 89 34 (by omega)
  unfold q_mok q_kw q_ko at *
  rw [f 90 (by omega), f 91 (by omega), f 93 (by omega), f 95 (by omega), f 97 (by omega), f 104 (by omega), f 105 (by omega), f 106 (by omega), e7, e12, e34]
  exact h
theorem q_mok_1 {σ : zM} (h : q_mok σ) (v : Int) : q_mok (z_up σ 89 1 v) := q_mok_c5 h (fun c j hc => z_up_ne (by omega))
theorem q_k_id : ∀ σ, q_mok σ → q_mok (q_fId σ) := fun _ h => h
theorem q_mok_tp {σ τ : zM} (h : q_mok σ) (ht : q_tpok τ) (e : ∀ c j, 89 ≤ c → c ≠ 97 → ¬ (c = 89 ∧ (j = 12 ∨ j = 13)) → τ c j = σ c j) : q_mok τ := by
  have f : ∀ c, 90 ≤ c → c ≠ 97 → τ c = σ c := fun c hc h2 => funext fun j => e c j (by omega) h2 (by omega)
  have e7 := e 89 7 (by omega) (by omega) (by omega)
  have e34 := e 89 34 (by omega) (by omega) (by omega)
  obtain ⟨h1, h2, h3, h4, h5⟩ := h
  unfold q_kw q_ko at h3
  refine ⟨by rw [f 90 (by omega) (by omega), f 91 (by omega) (by omega)]; exact h1, by rw [f 93 (by omega) (by omega), f 95 (by omega) (by omega), e7]; exact h2, ?_, ht, by rw [e34]; exact h5⟩
  unfold q_kw q_ko
  rw [f 104 (by omega) (by omega), f 105 (by omega) (by omega), f 106 (by omega) (by omega), e7]
  exact h3
theorem q_tp0 {τ : zM} (h : τ 89 12 = 0) : q_tpok τ := ⟨by omega, fun j hj => by omega⟩
theorem q_k_feed (w n : Int) : ∀ σ, q_mok σ → q_mok (q_fFeed w n σ) := by
  intro σ h
  unfold q_fFeed
  split
  · exact h
  · split
    · exact h
    · rename_i c1 c2
      exact q_mok_tp h (q_fm_ok n.toNat h.2.2.2.1 (by omega)) (fun c j h1 h2 h3 => q_fm_ne (by omega) _ _)
/-- the wood that stands is another one -/
theorem q_mok_wd {σ τ : zM} (h : q_mok σ) (hw : q_Wok (τ 93) (τ 95) (τ 89 7)) (h7 : σ 89 7 = 1 → τ 89 7 = 1) (ht : q_tpok τ) (e : ∀ c j, 89 ≤ c → c ≠ 93 → c ≠ 95 → c ≠ 97 → ¬ (c = 89 ∧ (j = 7 ∨ j = 12 ∨ j = 13)) → τ c j = σ c j) : q_mok τ := by
  have f : ∀ c, 90 ≤ c → c ≠ 93 → c ≠ 95 → c ≠ 97 → τ c = σ c := fun c hc h2 h3 h4 => funext fun j => e c j (by omega) h2 h3 h4 (by omega)
  have e34 := e 89 34 (by omega) (by omega) (by omega) (by omega) (by omega)
  obtain ⟨h1, h2, h3, h4, h5⟩ := h
  unfold q_kw q_ko at h3
  refine ⟨by rw [f 90 (by omega) (by omega) (by omega) (by omega), f 91 (by omega) (by omega) (by omega) (by omega)]; exact h1, hw, ?_, ht, by rw [e34]; exact h5⟩
  unfold q_kw q_ko
  rw [f 104 (by omega) (by omega) (by omega) (by omega), f 105 (by omega) (by omega) (by omega) (by omega), f 106 (by omega) (by omega) (by omega) (by omega)]
  exact fun k hk => ⟨(h3 k hk).1, fun q => h7 ((h3 k hk).2 q)⟩
theorem q_Wok_cg {D O D' O' : Nat → Int} {h : Int} (w : q_Wok D O h) (e : ∀ i, i < 106 → D' i = D i) (f : ∀ i, i < 180 → O' i = O i) : q_Wok D' O' h := by
  obtain ⟨⟨⟨a0, a1, a2, a4, a5⟩, hT, hW, hJ⟩, d, hh, h1⟩ := w
  refine ⟨⟨?_, fun t ht => ?_, fun t ht => ?_, fun j hj => ?_⟩, fun i hi => ?_, hh, by rw [e 0 (by omega)]; exact h1⟩
  · rw [e 0 (by omega), e 1 (by omega), e 2 (by omega), e 4 (by omega), e 5 (by omega)]
    exact ⟨a0, a1, a2, a4, a5⟩
  · rw [e 0 (by omega)] at ht
    rw [e _ (by omega), e _ (by omega), e _ (by omega), e _ (by omega), e _ (by omega), e _ (by omega)]
    exact hT t ht
  · rw [e 1 (by omega)] at ht
    rw [e _ (by omega), e _ (by omega), e _ (by omega)]
    exact hW t ht
  · rw [e 2 (by omega)] at hj
    rw [e _ (by omega)]
    exact hJ j hj
  · rw [e 5 (by omega)] at hi
    rw [e 0 (by omega), f _ (by omega), f _ (by omega), f _ (by omega)]
    exact d i hi
theorem q_k_wood : ∀ σ, q_mok σ → q_mok (q_fWood σ) := by
  intro σ h
  unfold q_fWood
  by_cases c : (q_wo2 σ).2.1 = 0
  · rw [if_pos c]
    have ok := q_wr_ok (b := q_by (σ 97) (σ 89 12).toNat) (T := (σ 89 12).toNat)
    have w : q_Wok (q_wo2 σ).2.2 (σ 95) 1 := ⟨ok.1.1, fun i hi => by have := ok.1.2.1.2.2; have e : (q_wo2 σ).2.2 5 = 0 := this; omega, by omega, fun _ => ok.2 c⟩
    refine q_mok_wd h ?_ (fun _ => ?_) (q_tp0 ?_) (fun c j h0 h1 h2 h3 h4 => ?_)
    · rw [if_neg (show ¬ (89 = 93 ∧ 7 < 106) by omega), if_pos (show 89 = 89 ∧ 7 = 7 by omega)]
      refine q_Wok_cg w (fun i hi => ?_) (fun i hi => ?_)
      · rw [if_pos ⟨rfl, hi⟩]
      · rw [if_neg (by omega), if_neg (by omega), if_neg (by omega)]
    · rw [if_neg (by omega), if_pos (by omega)]
    · rw [if_neg (by omega), if_neg (by omega), if_pos (by omega)]
    · rw [if_neg (by omega), if_neg (by omega), if_neg (by omega)]
  · rw [if_neg c]
    exact q_mok_tp h (q_tp0 (by rw [z_up_ne (by omega), z_up_eq])) (fun c j h1 h2 h3 => by rw [z_up_ne (by omega), z_up_ne (by omega)])
theorem q_k_orders : ∀ σ, q_mok σ → q_mok (q_fOrders σ) := by
  intro σ h
  unfold q_fOrders
  split
  · exact h
  · rename_i c1
    split
    · exact q_mok_tp h (q_tp0 (by rw [z_up_ne (by omega), z_up_eq])) (fun c j h1 h2 h3 => by rw [z_up_ne (by omega), z_up_ne (by omega)])
    · split
      · exact q_mok_tp h (q_tp0 z_up_eq) (fun c j h1 h2 h3 => by rw [z_up_ne (by omega)])
      · rename_i c2 c3
        have n1 : 1 ≤ σ 93 0 := h.2.1.2.2.2 (by have := h.2.1.2.2.1; omega)
        have ok := q_oo2_ok (τ := σ) n1
        have dd := q_dds_ok h.2.1 ok.1 (by omega) (q_oo2 σ).2.2.1 (Nat.le_refl _)
        refine q_mok_wd h ?_ (fun q => ?_) (q_tp0 ?_) (fun c j h0 h1 h2 h3 h4 => ?_)
        · rw [q_set_eq, q_set_ne (show 93 ≠ 95 by omega), q_set_eq, q_set_ne (show 89 ≠ 95 by omega), q_set_ne (show 89 ≠ 93 by omega), z_up_ne (by omega)]
          exact dd.1
        · rw [q_set_ne (by omega), q_set_ne (by omega), z_up_ne (by omega)]; exact q
        · rw [q_set_ne (by omega), q_set_ne (by omega), z_up_eq]
        · rw [q_set_ne h2, q_set_ne h1, z_up_ne (by omega)]
theorem q_k_undo : ∀ σ, q_mok σ → q_mok (q_fUndo σ) := by
  intro σ h
  unfold q_fUndo
  split
  · exact h
  · rename_i c
    have k5 := h.2.1.1.1.2.2.2.2
    refine q_mok_wd h ?_ (fun q => ?_) ?_ (fun c j h0 h1 h2 h3 h4 => q_set_ne h1 ▸ rfl)
    · rw [q_set_eq, q_set_ne (by omega), q_set_ne (by omega)]
      exact q_Wok_un h.2.1 (by omega)
    · rw [q_set_ne (by omega)]; exact q
    · unfold q_tpok
      rw [q_set_ne (by omega), q_set_ne (by omega)]
      exact h.2.2.2.1
theorem q_k_go (n : Int) : ∀ σ, q_mok σ → q_mok (q_fGo n σ) := by
  intro σ h
  unfold q_fGo
  split
  · exact h
  · split
    · exact h
    · obtain ⟨K, d, hh, h1⟩ := h.2.1
      have e0 : q_d1 (q_gwD (σ 93) n) 3 (z_wr (σ 93 3 + n)) 0 = σ 93 0 := by rw [q_d1_ne (by omega), q_gwD_ne (by omega)]
      have e5 : q_d1 (q_gwD (σ 93) n) 3 (z_wr (σ 93 3 + n)) 5 = σ 93 5 := by rw [q_d1_ne (by omega), q_gwD_ne (by omega)]
      refine q_mok_wd h ?_ (fun q => ?_) ?_ (fun c j h0 h1 h2 h3 h4 => q_set_ne h1 ▸ rfl)
      · rw [q_set_eq, q_set_ne (by omega), q_set_ne (by omega)]
        refine ⟨q_Dok_3 (q_gwD_ok K n) _, fun i hi => ?_, hh, by rw [e0]; exact h1⟩
        rw [e5] at hi
        rw [e0]
        exact d i hi
      · rw [q_set_ne (by omega)]; exact q
      · unfold q_tpok
        rw [q_set_ne (by omega), q_set_ne (by omega)]
        exact h.2.2.2.1
