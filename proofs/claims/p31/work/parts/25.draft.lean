/-! a wood as one row of numbers: 0 trees, 1 winds, 2 tones, 3 years, 4 wet, 5 deeds; trees at 6 + 6 t, winds at 78 + 3 w, tones at 96 + j -/
def q_d1 (D : Nat → Int) (i : Nat) (v : Int) : Nat → Int := fun j => if j = i then v else D j
def q_dT (D : Nat → Int) (l u s g : Int) : Nat → Int := q_d1 (q_d1 (q_d1 (q_d1 (q_d1 D (6 + 6 * (D 0).toNat) l) (6 + 6 * (D 0).toNat + 1) u) (6 + 6 * (D 0).toNat + 2) s) (6 + 6 * (D 0).toNat + 3) g) 0 (D 0 + 1)
def q_dW (D : Nat → Int) (x y z : Int) : Nat → Int := q_d1 (q_d1 (q_d1 (q_d1 D (78 + 3 * (D 1).toNat) x) (78 + 3 * (D 1).toNat + 1) y) (78 + 3 * (D 1).toNat + 2) z) 1 (D 1 + 1)
def q_dJ (D : Nat → Int) (v : Int) : Nat → Int := q_d1 (q_d1 D (96 + (D 2).toNat) v) 2 (D 2 + 1)
/-- the wood at b is D -/
def q_wd (σ : zM) (w : Nat) (D : Nat → Int) : Prop := ((σ (w + 1) 6 = D 0 ∧ 0 ≤ D 0 ∧ D 0 ≤ 12) ∧ (σ (w + 8) 3 = D 1 ∧ 0 ≤ D 1 ∧ D 1 ≤ 6) ∧ (σ w 4 = D 2 ∧ 0 ≤ D 2 ∧ D 2 ≤ 10) ∧ σ w 5 = D 3 ∧ σ w 6 = D 4 ∧ (σ (w + 12) 3 = D 5 ∧ 0 ≤ D 5 ∧ D 5 ≤ 60)) ∧ (∀ t f : Nat, (t : Int) < D 0 → f < 6 → σ (w + 2 + f) t = D (6 + 6 * t + f)) ∧ (∀ t f : Nat, (t : Int) < D 1 → f < 3 → σ (w + 9 + f) t = D (78 + 3 * t + f)) ∧ (∀ j : Nat, (j : Int) < D 2 → σ (w + 16) j = D (96 + j))
def q_dr (σ : zM) (w : Nat) (D : Nat → Int) : Prop := q_wd σ w D ∧ σ w 7 = 1 ∧ (D 3 = 0 ∧ D 4 = 0 ∧ D 5 = 0) ∧ ∀ t : Nat, t < 12 → D (6 + 6 * t + 4) = 0 ∧ D (6 + 6 * t + 5) = 0
def q_fw (k w : Nat) (σ σ' : zM) : Prop := ∀ c j, ¬ (c = k ∧ 2 ≤ j ∧ j ≤ 6) → ¬ (w ≤ c ∧ c ≤ w + 16) → σ' c j = σ c j
theorem q_fw.rf {k w : Nat} {σ : zM} : q_fw k w σ σ := fun _ _ _ _ => rfl
theorem q_fw.tr {k w : Nat} {σ τ υ : zM} (h1 : q_fw k w σ τ) (h2 : q_fw k w τ υ) : q_fw k w σ υ := fun c j h g => (h2 c j h g).trans (h1 c j h g)
theorem q_fr.fw {k w : Nat} {σ σ' : zM} (h : q_fr k σ σ') : q_fw k w σ σ' := fun c j h1 _ => h c j h1
theorem q_wd.fr {σ σ' : zM} {w : Nat} {D : Nat → Int} (h : q_wd σ w D) (e : ∀ c j, w ≤ c → c ≤ w + 16 → σ' c j = σ c j) : q_wd σ' w D := by
  obtain ⟨⟨⟨a0, b0⟩, ⟨a1, b1⟩, ⟨a2, b2⟩, a3, a4, a5, b5⟩, hT, hW, hJ⟩ := h
  refine ⟨⟨⟨?_, b0⟩, ⟨?_, b1⟩, ⟨?_, b2⟩, ?_, ?_, ?_, b5⟩, fun t f h1 h2 => ?_, fun t f h1 h2 => ?_, fun j h1 => ?_⟩ <;> rw [e _ _ (by omega) (by omega)]
  · exact a0
  · exact a1
  · exact a2
  · exact a3
  · exact a4
  · exact a5
  · exact hT t f h1 h2
  · exact hW t f h1 h2
  · exact hJ j h1
theorem q_dr.fr {σ σ' : zM} {w : Nat} {D : Nat → Int} (h : q_dr σ w D) (e : ∀ c j, w ≤ c → c ≤ w + 16 → σ' c j = σ c j) : q_dr σ' w D := ⟨h.1.fr e, by rw [e _ _ (by omega) (by omega)]; exact h.2.1, h.2.2⟩
theorem q_dr.addT {σ : zM} {w : Nat} {D : Nat → Int} (h : q_dr σ w D) (c : D 0 < 12) (l u s g : Int) : q_dr (q_addT σ (w + 1) l u s g) w (q_dT D l u s g) := by
  obtain ⟨⟨⟨⟨a0, b0⟩, ⟨a1, b1⟩, ⟨a2, b2⟩, a3, a4, a5, b5⟩, hT, hW, hJ⟩, hi, ⟨d3, d4, d5⟩, hz⟩ := h
  obtain ⟨n, hn⟩ := z_nat b0.1
  simp only [q_addT, q_dT, a0, hn, Int.toNat_natCast, Nat.add_assoc, Nat.reduceAdd]
  simp only [q_wd, q_dr, z_up, q_d1, Nat.add_assoc, Nat.reduceAdd]
  simp (disch := omega) only [if_neg, if_pos, ↓reduceIte, and_true, true_and, and_self]
  refine ⟨⟨⟨by omega, ⟨a1, b1⟩, ⟨a2, b2⟩, a3, a4, a5, b5⟩, fun t f h1 h2 => ?_, fun t f h1 h2 => ?_, fun j h1 => ?_⟩, hi, ⟨d3, d4, d5⟩, fun t h1 => ?_⟩
  · have hf : f = 0 ∨ f = 1 ∨ f = 2 ∨ f = 3 ∨ f = 4 ∨ f = 5 := by omega
    have z := hz n (by omega)
    by_cases ht : t = n
    · subst ht
      rcases hf with rfl | rfl | rfl | rfl | rfl | rfl <;> simp (disch := omega) only [if_neg, if_pos, ↓reduceIte, and_true, true_and, and_self, Nat.add_zero]
      · exact z.1.symm
      · exact z.2.symm
    · have q := hT t f (by omega) h2
      rw [Nat.add_assoc, Nat.add_assoc] at q
      try simp (disch := omega) only [if_neg]
      exact q
  · have q := hW t f h1 h2
    rw [Nat.add_assoc, Nat.add_assoc] at q
    try simp (disch := omega) only [if_neg]
    exact q
  · have q := hJ j h1
    try simp (disch := omega) only [if_neg]
    exact q
  · have q := hz t h1
    rw [Nat.add_assoc, Nat.add_assoc] at q
    try simp (disch := omega) only [if_neg]
    exact q
theorem q_dr.addW {σ : zM} {w : Nat} {D : Nat → Int} (h : q_dr σ w D) (c : D 1 < 6) (x y z : Int) : q_dr (q_addW σ (w + 8) x y z) w (q_dW D x y z) := by
  obtain ⟨⟨⟨⟨a0, b0⟩, ⟨a1, b1⟩, ⟨a2, b2⟩, a3, a4, a5, b5⟩, hT, hW, hJ⟩, hi, ⟨d3, d4, d5⟩, hz⟩ := h
  obtain ⟨n, hn⟩ := z_nat b1.1
  simp only [q_addW, q_dW, a1, hn, Int.toNat_natCast, Nat.add_assoc, Nat.reduceAdd]
  simp only [q_wd, q_dr, z_up, q_d1, Nat.add_assoc, Nat.reduceAdd]
  simp (disch := omega) only [if_neg, if_pos, ↓reduceIte, and_true, true_and, and_self]
  refine ⟨⟨⟨⟨a0, b0⟩, by omega, ⟨a2, b2⟩, a3, a4, a5, b5⟩, fun t f h1 h2 => ?_, fun t f h1 h2 => ?_, fun j h1 => ?_⟩, hi, ⟨d3, d4, d5⟩, fun t h1 => ?_⟩
  · have q := hT t f h1 h2
    rw [Nat.add_assoc, Nat.add_assoc] at q
    try simp (disch := omega) only [if_neg]
    exact q
  · have hf : f = 0 ∨ f = 1 ∨ f = 2 := by omega
    by_cases ht : t = n
    · subst ht
      rcases hf with rfl | rfl | rfl <;> simp (disch := omega) only [if_neg, if_pos, ↓reduceIte, and_true, true_and, and_self, Nat.add_zero]
    · have q := hW t f (by omega) h2
      rw [Nat.add_assoc, Nat.add_assoc] at q
      try simp (disch := omega) only [if_neg]
      exact q
  · have q := hJ j h1
    try simp (disch := omega) only [if_neg]
    exact q
  · have q := hz t h1
    rw [Nat.add_assoc, Nat.add_assoc] at q
    try simp (disch := omega) only [if_neg]
    exact q
def q_addJ (σ : zM) (w : Nat) (v : Int) : zM := z_up (z_up σ (w + 16) (σ w 4).toNat v) w 4 (σ w 4 + 1)
theorem q_dr.addJ {σ : zM} {w : Nat} {D : Nat → Int} (h : q_dr σ w D) (c : D 2 < 10) (v : Int) : q_dr (q_addJ σ w v) w (q_dJ D v) := by
  obtain ⟨⟨⟨⟨a0, b0⟩, ⟨a1, b1⟩, ⟨a2, b2⟩, a3, a4, a5, b5⟩, hT, hW, hJ⟩, hi, ⟨d3, d4, d5⟩, hz⟩ := h
  obtain ⟨n, hn⟩ := z_nat b2.1
  simp only [q_addJ, q_dJ, a2, hn, Int.toNat_natCast, Nat.add_assoc, Nat.reduceAdd]
  simp only [q_wd, q_dr, z_up, q_d1, Nat.add_assoc, Nat.reduceAdd]
  simp (disch := omega) only [if_neg, if_pos, ↓reduceIte, and_true, true_and, and_self]
  refine ⟨⟨⟨⟨a0, b0⟩, ⟨a1, b1⟩, by omega, a3, a4, a5, b5⟩, fun t f h1 h2 => ?_, fun t f h1 h2 => ?_, fun j h1 => ?_⟩, hi, ⟨d3, d4, d5⟩, fun t h1 => ?_⟩
  · have q := hT t f h1 h2
    rw [Nat.add_assoc, Nat.add_assoc] at q
    try simp (disch := omega) only [if_neg]
    exact q
  · have q := hW t f h1 h2
    rw [Nat.add_assoc, Nat.add_assoc] at q
    try simp (disch := omega) only [if_neg]
    exact q
  · by_cases ht : j = n
    · subst ht
      simp (disch := omega) only [if_neg, if_pos, ↓reduceIte, and_true, true_and, and_self]
    · have q := hJ j (by omega)
      try simp (disch := omega) only [if_neg]
      exact q
  · have q := hz t h1
    rw [Nat.add_assoc, Nat.add_assoc] at q
    try simp (disch := omega) only [if_neg]
    exact q
theorem q_pn_in {b : Nat → Int} {T p : Nat} {f lo hi : Int} (h : p ≤ T) : p ≤ (q_pn b T p f lo hi).2.1 ∧ (q_pn b T p f lo hi).2.1 ≤ T := by
  have h0 := q_te_in (b := b) h
  have h1 := q_ts_in (b := b) h
  unfold q_pn
  split
  · exact ⟨Nat.le_refl _, h⟩
  · split
    · exact ⟨Nat.le_refl _, h⟩
    · split
      · exact ⟨Nat.le_refl _, h⟩
      · exact ⟨by dsimp only; omega, h0.2⟩
theorem q_ps_in {b : Nat → Int} {T p : Nat} {f : Int} (h : p ≤ T) : p ≤ (q_ps b T p f).1 ∧ (q_ps b T p f).1 ≤ T := by
  have h0 := q_te_in (b := b) h
  have h1 := q_ts_in (b := b) h
  unfold q_ps
  split
  · exact ⟨Nat.le_refl _, h⟩
  · split
    · exact ⟨Nat.le_refl _, h⟩
    · exact ⟨by dsimp only; omega, h0.2⟩
/-- the tones behind the first -/
def q_tl (b : Nat → Int) (T : Nat) : Nat → Nat → Int → (Nat → Int) → Nat × Int × (Nat → Int)
  | 0, p, f, D => if f = 0 ∧ q_tk b T p = 2 then (p, 3, D) else (p, f, D)
  | d + 1, p, f, D => if f = 0 ∧ q_tk b T p = 2 then q_tl b T d (q_pn b T p 0 0 999).2.1 (q_pn b T p 0 0 999).2.2 (q_dJ D (q_pn b T p 0 0 999).1) else (p, f, D)
def q_tu (b : Nat → Int) (T p : Nat) (D : Nat → Int) : Nat × Int × (Nat → Int) := q_tl b T (9 - (D 2).toNat) (q_pn b T (q_te b T p) 0 0 999).2.1 (q_pn b T (q_te b T p) 0 0 999).2.2 (q_dJ D (q_pn b T (q_te b T p) 0 0 999).1)
def q_tz (b : Nat → Int) (T p : Nat) (D : Nat → Int) : Nat × Int := q_ps b T (q_tu b T p D).1 (q_tu b T p D).2.1
