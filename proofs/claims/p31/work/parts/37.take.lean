/-! images, asked of the program -/
theorem q_W_take {σ σ' : zM} {b o : Nat} {D O : Nat → Int} {h : Int} (w : q_W σ o D O h) (e : ∀ i j, q_vp i j → σ' (b + i) j = σ (o + i) j) : q_W σ' b D O h := by
  obtain ⟨⟨⟨⟨a0, b0⟩, ⟨a1, b1⟩, ⟨a2, b2⟩, a3, a4, a5, b5⟩, hT, hW, hJ⟩, hd, h7⟩ := w
  have z : ∀ j, 4 ≤ j → j ≤ 7 → σ' b j = σ o j := fun j h1 h2 => e 0 j (by unfold q_vp; omega)
  refine ⟨⟨⟨⟨?_, b0⟩, ⟨?_, b1⟩, ⟨?_, b2⟩, ?_, ?_, ?_, b5⟩, fun t f h1 h2 => ?_, fun t f h1 h2 => ?_, fun j h1 => ?_⟩, fun i hi => ?_, ?_⟩
  · rw [e 1 6 (by unfold q_vp; omega)]; exact a0
  · rw [e 8 3 (by unfold q_vp; omega)]; exact a1
  · rw [z 4 (by omega) (by omega)]; exact a2
  · rw [z 5 (by omega) (by omega)]; exact a3
  · rw [z 6 (by omega) (by omega)]; exact a4
  · rw [e 12 3 (by unfold q_vp; omega)]; exact a5
  · rw [Nat.add_assoc, e (2 + f) t (by unfold q_vp; omega), ← Nat.add_assoc]
    exact hT t f h1 h2
  · rw [Nat.add_assoc, e (9 + f) t (by unfold q_vp; omega), ← Nat.add_assoc]
    exact hW t f h1 h2
  · rw [e 16 j (by unfold q_vp; omega)]
    exact hJ j h1
  · rw [e 13 i (by unfold q_vp; omega), e 14 i (by unfold q_vp; omega), e 15 i (by unfold q_vp; omega)]
    exact hd i hi
  · rw [z 7 (by omega) (by omega)]; exact h7
def q_gImage (k : Int) (τ : zM) : Int := if ¬ (0 ≤ k ∧ k ≤ 1) then -1000001 else if τ 89 7 = 0 then -1000002 else 1
def q_kp (τ : zM) (k : Nat) : zM := fun c j => if c = 105 ∧ 106 * k ≤ j ∧ j < 106 * k + 106 then τ 93 (j - 106 * k) else if c = 106 ∧ 180 * k ≤ j ∧ j < 180 * k + 180 then τ 95 (j - 180 * k) else if c = 104 ∧ j = k then 1 else τ c j
def q_fImage (k : Int) (τ : zM) : zM := if ¬ (0 ≤ k ∧ k ≤ 1) then τ else if τ 89 7 = 0 then τ else q_kp τ k.toNat
theorem q_W_cgD {σ : zM} {b : Nat} {D D' O O' : Nat → Int} {h : Int} (w : q_W σ b D O h) (e : ∀ i, i < 106 → D' i = D i) (f : ∀ i, i < 180 → O' i = O i) : q_W σ b D' O' h := by
  obtain ⟨⟨⟨⟨a0, b0⟩, ⟨a1, b1⟩, ⟨a2, b2⟩, a3, a4, a5, b5⟩, hT, hW, hJ⟩, hd, h7⟩ := w
  refine ⟨⟨?_, fun t f h1 h2 => ?_, fun t f h1 h2 => ?_, fun j h1 => ?_⟩, fun i hi => ?_, h7⟩
  · rw [e 0 (by omega), e 1 (by omega), e 2 (by omega), e 3 (by omega), e 4 (by omega), e 5 (by omega)]
    exact ⟨⟨a0, b0⟩, ⟨a1, b1⟩, ⟨a2, b2⟩, a3, a4, a5, b5⟩
  · rw [e 0 (by omega)] at h1
    rw [e _ (by omega)]
    exact hT t f h1 h2
  · rw [e 1 (by omega)] at h1
    rw [e _ (by omega)]
    exact hW t f h1 h2
  · rw [e 2 (by omega)] at h1
    rw [e _ (by omega)]
    exact hJ j h1
  · rw [e 5 (by omega)] at hi
    rw [e 0 (by omega), f _ (by omega), f _ (by omega), f _ (by omega)]
    exact hd i hi
