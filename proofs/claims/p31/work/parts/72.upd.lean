/-! one number of a wood is changed -/
theorem q_wd_f {σ : zM} {b : Nat} {D : Nat → Int} (h : q_wd σ b D) {t f : Nat} (ht : (t : Int) < D 0) (hf : f < 6) (v : Int) : q_wd (z_up σ (b + 2 + f) t v) b (q_d1 D (6 + 6 * t + f) v) := by
  obtain ⟨⟨⟨a0, b0⟩, ⟨a1, b1⟩, ⟨a2, b2⟩, a3, a4, a5, b5⟩, hT, hW, hJ⟩ := h
  have ne : ∀ j, j ≠ 6 + 6 * t + f → q_d1 D (6 + 6 * t + f) v j = D j := fun j hj => if_neg hj
  unfold q_wd
  rw [ne 0 (by omega), ne 1 (by omega), ne 2 (by omega), ne 3 (by omega), ne 4 (by omega), ne 5 (by omega)]
  refine ⟨⟨⟨?_, b0⟩, ⟨?_, b1⟩, ⟨?_, b2⟩, ?_, ?_, ?_, b5⟩, fun t' f' h1 h2 => ?_, fun t' f' h1 h2 => ?_, fun j h1 => ?_⟩
  · rw [z_up_ne (by omega)]; exact a0
  · rw [z_up_ne (by omega)]; exact a1
  · rw [z_up_ne (by omega)]; exact a2
  · rw [z_up_ne (by omega)]; exact a3
  · rw [z_up_ne (by omega)]; exact a4
  · rw [z_up_ne (by omega)]; exact a5
  · by_cases e : t' = t ∧ f' = f
    · obtain ⟨rfl, rfl⟩ := e
      rw [z_up_eq]
      unfold q_d1
      rw [if_pos rfl]
    · rw [z_up_ne (by omega), ne _ (by omega)]; exact hT t' f' h1 h2
  · rw [z_up_ne (by omega), ne _ (by omega)]; exact hW t' f' h1 h2
  · rw [z_up_ne (by omega), ne _ (by omega)]; exact hJ j h1
theorem q_wd_wet {σ : zM} {b : Nat} {D : Nat → Int} (h : q_wd σ b D) (v : Int) : q_wd (z_up σ b 6 v) b (q_d1 D 4 v) := by
  obtain ⟨⟨⟨a0, b0⟩, ⟨a1, b1⟩, ⟨a2, b2⟩, a3, a4, a5, b5⟩, hT, hW, hJ⟩ := h
  have ne : ∀ j, j ≠ 4 → q_d1 D 4 v j = D j := fun j hj => if_neg hj
  have e4 : q_d1 D 4 v 4 = v := if_pos rfl
  unfold q_wd
  rw [ne 0 (by omega), ne 1 (by omega), ne 2 (by omega), ne 3 (by omega), e4, ne 5 (by omega)]
  refine ⟨⟨⟨?_, b0⟩, ⟨?_, b1⟩, ⟨?_, b2⟩, ?_, z_up_eq, ?_, b5⟩, fun t' f' h1 h2 => ?_, fun t' f' h1 h2 => ?_, fun j h1 => ?_⟩
  · rw [z_up_ne (by omega)]; exact a0
  · rw [z_up_ne (by omega)]; exact a1
  · rw [z_up_ne (by omega)]; exact a2
  · rw [z_up_ne (by omega)]; exact a3
  · rw [z_up_ne (by omega)]; exact a5
  · rw [z_up_ne (by omega), ne _ (by omega)]; exact hT t' f' h1 h2
  · rw [z_up_ne (by omega), ne _ (by omega)]; exact hW t' f' h1 h2
  · rw [z_up_ne (by omega), ne _ (by omega)]; exact hJ j h1
theorem q_wd_cnt {σ : zM} {b : Nat} {D : Nat → Int} (h : q_wd σ b D) {v : Int} (hv : 0 ≤ v ∧ v ≤ 60) : q_wd (z_up σ (b + 12) 3 v) b (q_d1 D 5 v) := by
  obtain ⟨⟨⟨a0, b0⟩, ⟨a1, b1⟩, ⟨a2, b2⟩, a3, a4, a5, b5⟩, hT, hW, hJ⟩ := h
  have ne : ∀ j, j ≠ 5 → q_d1 D 5 v j = D j := fun j hj => if_neg hj
  have e4 : q_d1 D 5 v 5 = v := if_pos rfl
  unfold q_wd
  rw [ne 0 (by omega), ne 1 (by omega), ne 2 (by omega), ne 3 (by omega), ne 4 (by omega), e4]
  refine ⟨⟨⟨?_, b0⟩, ⟨?_, b1⟩, ⟨?_, b2⟩, ?_, ?_, z_up_eq, hv⟩, fun t' f' h1 h2 => ?_, fun t' f' h1 h2 => ?_, fun j h1 => ?_⟩
  · rw [z_up_ne (by omega)]; exact a0
  · rw [z_up_ne (by omega)]; exact a1
  · rw [z_up_ne (by omega)]; exact a2
  · rw [z_up_ne (by omega)]; exact a3
  · rw [z_up_ne (by omega)]; exact a4
  · rw [z_up_ne (by omega), ne _ (by omega)]; exact hT t' f' h1 h2
  · rw [z_up_ne (by omega), ne _ (by omega)]; exact hW t' f' h1 h2
  · rw [z_up_ne (by omega), ne _ (by omega)]; exact hJ j h1
theorem q_wd_cg {σ σ' : zM} {b : Nat} {D : Nat → Int} (h : q_wd σ b D) (e : ∀ c j, b ≤ c → c ≤ b + 16 → ¬ (b + 13 ≤ c ∧ c ≤ b + 15) → σ' c j = σ c j) : q_wd σ' b D := by
  obtain ⟨⟨⟨a0, b0⟩, ⟨a1, b1⟩, ⟨a2, b2⟩, a3, a4, a5, b5⟩, hT, hW, hJ⟩ := h
  refine ⟨⟨⟨?_, b0⟩, ⟨?_, b1⟩, ⟨?_, b2⟩, ?_, ?_, ?_, b5⟩, fun t f h1 h2 => ?_, fun t f h1 h2 => ?_, fun j h1 => ?_⟩ <;> rw [e _ _ (by omega) (by omega) (by omega)]
  · exact a0
  · exact a1
  · exact a2
  · exact a3
  · exact a4
  · exact a5
  · exact hT t f h1 h2
  · exact hW t f h1 h2
  · exact hJ j h1
/-- the place of an order, and what it writes -/
theorem q_wd_pl {σ : zM} {b : Nat} {D : Nat → Int} (h : q_wd σ b D) {o : Int} {t : Nat} (ho : 0 ≤ o ∧ o ≤ 7) (ht : (t : Int) < D 0) (v : Int) : σ (q_cl b o) (q_ix o t) = D (q_pl o t).toNat ∧ q_wd (z_up σ (q_cl b o) (q_ix o t) v) b (q_d1 D (q_pl o t).toNat v) := by
  have hT := h.2.1 t
  have c := q_cl_cases b o t
  rcases c with ⟨e1, e2, e3⟩ | ⟨e1, e2, e3⟩ | ⟨e1, e2, e3⟩ | ⟨e1, e2, e3⟩ | ⟨e1, e2, e3⟩
  · have e4 : (q_pl o t).toNat = 6 + 6 * t + 0 := by unfold q_pl; rw [if_pos (by omega)]; omega
    rw [e1, e3, e4]
    exact ⟨hT 0 ht (by omega), q_wd_f (f := 0) h ht (by omega) v⟩
  · have e4 : (q_pl o t).toNat = 6 + 6 * t + 2 := by unfold q_pl; rw [if_neg (by omega), if_pos (by omega)]; omega
    rw [e1, e3, e4]
    exact ⟨hT 2 ht (by omega), q_wd_f (f := 2) h ht (by omega) v⟩
  · have e4 : (q_pl o t).toNat = 6 + 6 * t + 4 := by unfold q_pl; rw [if_neg (by omega), if_neg (by omega), if_pos (by omega)]; omega
    rw [e1, e3, e4]
    exact ⟨hT 4 ht (by omega), q_wd_f (f := 4) h ht (by omega) v⟩
  · have e4 : (q_pl o t).toNat = 6 + 6 * t + 5 := by unfold q_pl; rw [if_neg (by omega), if_neg (by omega), if_neg (by omega), if_pos (by omega)]; omega
    rw [e1, e3, e4]
    exact ⟨hT 5 ht (by omega), q_wd_f (f := 5) h ht (by omega) v⟩
  · have e4 : (q_pl o t).toNat = 4 := by unfold q_pl; rw [if_neg (by omega), if_neg (by omega), if_neg (by omega), if_neg (by omega)]; omega
    rw [e1, e3 (by omega), e4]
    exact ⟨h.1.2.2.2.2.1, q_wd_wet h v⟩
