/-! the program's half of the memory (cells below 89) against the model's (cells from 89 on) -/
def q_Dok (D : Nat → Int) : Prop := ((0 ≤ D 0 ∧ D 0 ≤ 12) ∧ (0 ≤ D 1 ∧ D 1 ≤ 6) ∧ (0 ≤ D 2 ∧ D 2 ≤ 10) ∧ (0 ≤ D 4 ∧ D 4 ≤ 1) ∧ (0 ≤ D 5 ∧ D 5 ≤ 60)) ∧ (∀ t : Nat, (t : Int) < D 0 → (10 ≤ D (6 + 6 * t + 0) ∧ D (6 + 6 * t + 0) ≤ 999) ∧ (1 ≤ D (6 + 6 * t + 1) ∧ D (6 + 6 * t + 1) ≤ 20) ∧ (0 ≤ D (6 + 6 * t + 2) ∧ D (6 + 6 * t + 2) ≤ 7) ∧ (0 ≤ D (6 + 6 * t + 3) ∧ D (6 + 6 * t + 3) ≤ 5) ∧ (0 ≤ D (6 + 6 * t + 4) ∧ D (6 + 6 * t + 4) ≤ 1) ∧ (0 ≤ D (6 + 6 * t + 5) ∧ D (6 + 6 * t + 5) ≤ 1)) ∧ (∀ w : Nat, (w : Int) < D 1 → (0 ≤ D (78 + 3 * w + 0) ∧ D (78 + 3 * w + 0) ≤ 7) ∧ (1 ≤ D (78 + 3 * w + 1) ∧ D (78 + 3 * w + 1) ≤ 20) ∧ (1 ≤ D (78 + 3 * w + 2) ∧ D (78 + 3 * w + 2) ≤ 99)) ∧ (∀ j : Nat, (j : Int) < D 2 → 0 ≤ D (96 + j) ∧ D (96 + j) ≤ 999)
/-- the place that an order changes -/
def q_pl (o t : Int) : Int := if o < 2 then 6 + 6 * t else if o = 2 then 6 + 6 * t + 2 else if o = 3 ∨ o = 4 then 6 + 6 * t + 4 else if o = 5 then 6 + 6 * t + 5 else 4
def q_dno (D O : Nat → Int) : Prop := ∀ i : Nat, (i : Int) < D 5 → (∃ t : Nat, (t : Int) < D 0 ∧ ((O (3 * i) = 6 + 6 * t ∧ O (3 * i + 1) = 1 ∧ -1000 ≤ O (3 * i + 2) ∧ O (3 * i + 2) ≤ 1000) ∨ (O (3 * i) = 6 + 6 * t + 2 ∧ O (3 * i + 1) = 0 ∧ 0 ≤ O (3 * i + 2) ∧ O (3 * i + 2) ≤ 7) ∨ ((O (3 * i) = 6 + 6 * t + 4 ∨ O (3 * i) = 6 + 6 * t + 5) ∧ O (3 * i + 1) = 0 ∧ 0 ≤ O (3 * i + 2) ∧ O (3 * i + 2) ≤ 1))) ∨ (O (3 * i) = 4 ∧ O (3 * i + 1) = 0 ∧ 0 ≤ O (3 * i + 2) ∧ O (3 * i + 2) ≤ 1)
def q_dnr (σ : zM) (b : Nat) (D O : Nat → Int) : Prop := ∀ i : Nat, (i : Int) < D 5 → ((0 ≤ σ (b + 13) i ∧ σ (b + 13) i ≤ 7) ∧ (0 ≤ σ (b + 14) i ∧ σ (b + 14) i < D 0) ∧ (-1000 ≤ σ (b + 15) i ∧ σ (b + 15) i ≤ 1000)) ∧ O (3 * i) = q_pl (σ (b + 13) i) (σ (b + 14) i) ∧ O (3 * i + 1) = (if σ (b + 13) i < 2 then 1 else 0) ∧ O (3 * i + 2) = (if σ (b + 13) i < 2 then -σ (b + 15) i else σ (b + 15) i)
/-- the wood at b against its numbers D and its deeds O -/
def q_W (σ : zM) (b : Nat) (D O : Nat → Int) (h : Int) : Prop := q_wd σ b D ∧ q_dnr σ b D O ∧ σ b 7 = h
def q_Wok (D O : Nat → Int) (h : Int) : Prop := q_Dok D ∧ q_dno D O ∧ (0 ≤ h ∧ h ≤ 1) ∧ (h = 1 → 1 ≤ D 0)
def q_kw (τ : zM) (k : Nat) : Nat → Int := fun i => τ 105 (106 * k + i)
def q_ko (τ : zM) (k : Nat) : Nat → Int := fun i => τ 106 (180 * k + i)
def q_mok (τ : zM) : Prop := (∀ r : Nat, r < 8 → (-1 ≤ τ 90 r ∧ τ 90 r ≤ 2) ∧ 0 ≤ τ 91 r ∧ τ 91 r ≤ 40) ∧ q_Wok (τ 93) (τ 95) (τ 89 7) ∧ (∀ k, k < 2 → q_Wok (q_kw τ k) (q_ko τ k) (τ 104 k) ∧ (τ 104 k = 1 → τ 89 7 = 1)) ∧ ((0 ≤ τ 89 12 ∧ τ 89 12 ≤ 400) ∧ ∀ j : Nat, (j : Int) < τ 89 12 → 0 ≤ τ 97 j ∧ τ 97 j ≤ 255) ∧ (0 ≤ τ 89 34 ∧ τ 89 34 ≤ 16)
def q_rrow (σ τ : zM) : Prop := ∀ r : Nat, r < 8 → σ 4 r = (if τ 90 r < 0 then 0 else 1) ∧ (0 ≤ τ 90 r → σ 5 r = τ 90 r ∧ σ 6 r = τ 91 r ∧ ∀ i : Nat, (i : Int) < τ 91 r → σ 7 (40 * r + i) = τ 92 (40 * r + i))
def q_rtape (σ τ : zM) : Prop := σ 1 1 = τ 89 12 ∧ ∀ j : Nat, (j : Int) < τ 89 12 → σ 2 j = z_wr8 (τ 97 j)
def q_rtr (σ τ : zM) : Prop := σ 86 1 = τ 89 34 ∧ ∀ i : Nat, (i : Int) < τ 89 34 → σ 87 i = τ 107 i
def q_rwood (σ τ : zM) : Prop := q_W σ 8 (τ 93) (τ 95) (τ 89 7)
def q_rimg (σ τ : zM) : Prop := ∀ k, k < 2 → q_W σ (42 + 17 * k) (q_kw τ k) (q_ko τ k) (τ 104 k)
def q_R2 (σ τ : zM) : Prop := q_rrow σ τ ∧ (σ 0 12 = τ 89 1 ∧ σ 0 11 = τ 89 13) ∧ q_rtape σ τ ∧ q_rtr σ τ ∧ q_rwood σ τ ∧ q_rimg σ τ
/-- places of the model that last -/
def q_last (c j : Nat) : Prop := (c = 89 ∧ (j = 1 ∨ j = 7 ∨ j = 12 ∨ j = 13 ∨ j = 34)) ∨ c = 90 ∨ c = 91 ∨ c = 92 ∨ c = 93 ∨ c = 95 ∨ c = 97 ∨ c = 104 ∨ c = 105 ∨ c = 106 ∨ c = 107
theorem q_mok_cg {σ τ : zM} (h : q_mok σ) (e : ∀ c j, q_last c j → τ c j = σ c j) : q_mok τ := by
  have f : ∀ c, c = 90 ∨ c = 91 ∨ c = 92 ∨ c = 93 ∨ c = 95 ∨ c = 97 ∨ c = 104 ∨ c = 105 ∨ c = 106 ∨ c = 107 → τ c = σ c := fun c hc => funext fun j => e c j (Or.inr hc)
  have e7 := e 89 7 (by unfold q_last; omega)
  have e12 := e 89 12 (by unfold q_last; omega)
  have e34 := e 89 34 (by unfold q_last; omega)
  unfold q_mok q_kw q_ko at *
  rw [f 90 (by omega), f 91 (by omega), f 93 (by omega), f 95 (by omega), f 97 (by omega), f 104 (by omega), f 105 (by omega), f 106 (by omega), e7, e12, e34]
  exact h
theorem q_R2_cgm {ρ σ τ : zM} (h : q_R2 ρ σ) (e : ∀ c j, q_last c j → τ c j = σ c j) : q_R2 ρ τ := by
  have f : ∀ c, c = 90 ∨ c = 91 ∨ c = 92 ∨ c = 93 ∨ c = 95 ∨ c = 97 ∨ c = 104 ∨ c = 105 ∨ c = 106 ∨ c = 107 → τ c = σ c := fun c hc => funext fun j => e c j (Or.inr hc)
  have e1 := e 89 1 (by unfold q_last; omega)
  have e7 := e 89 7 (by unfold q_last; omega)
  have e12 := e 89 12 (by unfold q_last; omega)
  have e13 := e 89 13 (by unfold q_last; omega)
  have e34 := e 89 34 (by unfold q_last; omega)
  unfold q_R2 q_rrow q_rtape q_rtr q_rwood q_rimg q_kw q_ko at *
  rw [f 90 (by omega), f 91 (by omega), f 92 (by omega), f 93 (by omega), f 95 (by omega), f 97 (by omega), f 104 (by omega), f 105 (by omega), f 106 (by omega), f 107 (by omega), e1, e7, e12, e13, e34]
  exact h
theorem q_W_cg {σ σ' : zM} {b : Nat} {D O : Nat → Int} {h : Int} (q : q_W σ b D O h) (e : ∀ c j, b ≤ c → c ≤ b + 16 → σ' c j = σ c j) : q_W σ' b D O h := by
  obtain ⟨q1, q2, q3⟩ := q
  refine ⟨q1.fr e, fun i hi => ?_, by rw [e _ _ (by omega) (by omega)]; exact q3⟩
  rw [e _ _ (by omega) (by omega), e _ _ (by omega) (by omega), e _ _ (by omega) (by omega)]
  exact q2 i hi
/-- the program's places that last -/
def q_lastP (c j : Nat) : Prop := (c = 0 ∧ (j = 11 ∨ j = 12)) ∨ (c = 1 ∧ j = 1) ∨ c = 2 ∨ (4 ≤ c ∧ c ≤ 24) ∨ (42 ≤ c ∧ c ≤ 75) ∨ (c = 86 ∧ j = 1) ∨ c = 87
theorem q_R2_cgp {ρ σ τ : zM} (h : q_R2 σ τ) (e : ∀ c j, q_lastP c j → ρ c j = σ c j) : q_R2 ρ τ := by
  obtain ⟨h1, ⟨h2, h3⟩, ⟨h4, h5⟩, ⟨h6, h7⟩, h8, h9⟩ := h
  refine ⟨fun r hr => ?_, ⟨?_, ?_⟩, ⟨?_, fun j hj => ?_⟩, ⟨?_, fun j hj => ?_⟩, q_W_cg h8 (fun c j a1 a2 => e c j (by unfold q_lastP; omega)), fun k hk => q_W_cg (h9 k hk) (fun c j a1 a2 => e c j (by unfold q_lastP; omega))⟩
  · obtain ⟨g1, g2⟩ := h1 r hr
    refine ⟨by rw [e _ _ (by unfold q_lastP; omega)]; exact g1, fun hl => ?_⟩
    obtain ⟨g3, g4, g5⟩ := g2 hl
    refine ⟨by rw [e _ _ (by unfold q_lastP; omega)]; exact g3, by rw [e _ _ (by unfold q_lastP; omega)]; exact g4, fun i hi => ?_⟩
    rw [e _ _ (by unfold q_lastP; omega)]
    exact g5 i hi
  · rw [e _ _ (by unfold q_lastP; omega)]; exact h2
  · rw [e _ _ (by unfold q_lastP; omega)]; exact h3
  · rw [e _ _ (by unfold q_lastP; omega)]; exact h4
  · rw [e _ _ (by unfold q_lastP; omega)]; exact h5 j hj
  · rw [e _ _ (by unfold q_lastP; omega)]; exact h6
  · rw [e _ _ (by unfold q_lastP; omega)]; exact h7 j hj
/-- what a method of the program gives: the answer G and the model's step F, said of the model's half -/
def q_S9 (G : zM → Int) (F : zM → zM) : zM → zR → Prop := fun σ Ret => (q_R2 σ σ ∧ q_mok σ) ∧ ∀ σ' : zM, (∀ c, 89 ≤ c → σ' c = σ c) → q_R2 σ' (F σ') → Ret (some (.inl (G σ'))) σ'
def q_S10 (G : zM → Int) (F : zM → zM) : zM → zR → Prop := fun σ Ret => q_mok σ ∧ ∀ σ' : zM, (∀ c, c < 89 → σ' c = σ c) → (∀ c j, q_last c j → σ' c j = F σ c j) → Ret (some (.inl (G σ))) σ'
/-- one after the other -/
theorem q_pair {G : zM → Int} {F : zM → zM} (hF : ∀ σ, q_mok σ → q_mok (F σ)) {σ : zM} (h : q_R2 σ σ ∧ q_mok σ) {K : zR} (hk : ∀ (v : Int) (σ1 : zM), q_S10 G F σ1 (fun r σ2 => r = some (.inl v) ∧ q_R2 σ2 σ2 ∧ q_mok σ2) → K (some (.inl v)) σ1) : q_S9 G F σ K := by
  refine ⟨h, fun σ1 e1 r1 => hk _ _ ?_⟩
  have m1 : q_mok σ1 := q_mok_cg h.2 (fun c j hc => by rw [e1 c (by unfold q_last at hc; omega)])
  refine ⟨m1, fun σ2 e2 e3 => ⟨rfl, ?_, ?_⟩⟩
  · exact q_R2_cgm (q_R2_cgp r1 (fun c j hc => by rw [e2 c (by unfold q_lastP at hc; omega)])) (fun c j hc => e3 c j hc)
  · exact q_mok_cg (hF _ m1) e3
theorem z_kd9 {k : Nat} (h : z_kd k = (9, 0)) : k = 0 := by
  have key : ∀ i, i < 111 → z_kd i = (9, 0) → i = 0 := by decide +kernel
  exact key k (z_kd_lt h (by decide)) h
theorem z_kd10 {k : Nat} (h : z_kd k = (10, 0)) : k = 89 := by
  have key : ∀ i, i < 111 → z_kd i = (10, 0) → i = 89 := by decide +kernel
  exact key k (z_kd_lt h (by decide)) h
theorem q_rrow_cg {σ τ σ' τ' : zM} (h : q_rrow σ τ) (e : ∀ c j, 4 ≤ c → c ≤ 7 → σ' c j = σ c j) (f : ∀ c j, 90 ≤ c → c ≤ 92 → τ' c j = τ c j) : q_rrow σ' τ' := by
  intro r hr
  obtain ⟨g1, g2⟩ := h r hr
  rw [e 4 r (by omega) (by omega), f 90 r (by omega) (by omega)]
  refine ⟨g1, fun hl => ?_⟩
  obtain ⟨g3, g4, g5⟩ := g2 hl
  rw [e 5 r (by omega) (by omega), e 6 r (by omega) (by omega), f 91 r (by omega) (by omega)]
  refine ⟨g3, g4, fun i hi => ?_⟩
  rw [e 7 _ (by omega) (by omega), f 92 _ (by omega) (by omega)]
  exact g5 i hi
theorem q_rtape_cg {σ τ σ' τ' : zM} (h : q_rtape σ τ) (e1 : σ' 1 1 = σ 1 1) (e2 : ∀ j, σ' 2 j = σ 2 j) (f1 : τ' 89 12 = τ 89 12) (f2 : ∀ j, τ' 97 j = τ 97 j) : q_rtape σ' τ' := by
  refine ⟨by rw [e1, f1]; exact h.1, fun j hj => ?_⟩
  rw [e2, f2]
  exact h.2 j (by rw [← f1]; exact hj)
theorem q_rtr_cg {σ τ σ' τ' : zM} (h : q_rtr σ τ) (e1 : σ' 86 1 = σ 86 1) (e2 : ∀ j, σ' 87 j = σ 87 j) (f1 : τ' 89 34 = τ 89 34) (f2 : ∀ j, τ' 107 j = τ 107 j) : q_rtr σ' τ' := by
  refine ⟨by rw [e1, f1]; exact h.1, fun j hj => ?_⟩
  rw [e2, f2]
  exact h.2 j (by rw [← f1]; exact hj)
theorem q_rwood_cg {σ τ σ' τ' : zM} (h : q_rwood σ τ) (e : ∀ c j, 8 ≤ c → c ≤ 24 → σ' c j = σ c j) (f1 : ∀ j, τ' 93 j = τ 93 j) (f2 : ∀ j, τ' 95 j = τ 95 j) (f3 : τ' 89 7 = τ 89 7) : q_rwood σ' τ' := by
  unfold q_rwood at *
  rw [f3, show τ' 93 = τ 93 from funext f1, show τ' 95 = τ 95 from funext f2]
  exact q_W_cg h (fun c j a1 a2 => e c j (by omega) (by omega))
theorem q_rimg_cg {σ τ σ' τ' : zM} (h : q_rimg σ τ) (e : ∀ c j, 42 ≤ c → c ≤ 75 → σ' c j = σ c j) (f : ∀ c j, 104 ≤ c → c ≤ 106 → τ' c j = τ c j) : q_rimg σ' τ' := by
  intro k hk
  have e1 : q_kw τ' k = q_kw τ k := funext fun i => f 105 _ (by omega) (by omega)
  have e2 : q_ko τ' k = q_ko τ k := funext fun i => f 106 _ (by omega) (by omega)
  rw [e1, e2, f 104 k (by omega) (by omega)]
  exact q_W_cg (h k hk) (fun c j a1 a2 => e c j (by omega) (by omega))
/-- a number left behind, all else stays -/
theorem q_R2_fnd {σ : zM} (R : q_R2 σ σ) (v : Int) : q_R2 (z_up σ 0 12 v) (z_up (z_up σ 0 12 v) 89 1 v) := by
  have a : ∀ c j, c ≠ 0 → z_up σ 0 12 v c j = σ c j := fun c j hc => z_up_ne (by omega)
  have b : ∀ c j, c ≠ 0 → c ≠ 89 ∨ j ≠ 1 → z_up (z_up σ 0 12 v) 89 1 v c j = σ c j := fun c j hc hj => by rw [z_up_ne hj, z_up_ne (by omega)]
  obtain ⟨h1, ⟨h2, h3⟩, h4, h5, h6, h7⟩ := R
  refine ⟨q_rrow_cg h1 (fun c j a1 a2 => a c j (by omega)) (fun c j a1 a2 => b c j (by omega) (by omega)), ⟨by rw [z_up_eq, z_up_eq], ?_⟩, q_rtape_cg h4 (a _ _ (by omega)) (fun j => a _ _ (by omega)) (b _ _ (by omega) (by omega)) (fun j => b _ _ (by omega) (by omega)), q_rtr_cg h5 (a _ _ (by omega)) (fun j => a _ _ (by omega)) (b _ _ (by omega) (by omega)) (fun j => b _ _ (by omega) (by omega)), q_rwood_cg h6 (fun c j a1 a2 => a c j (by omega)) (fun j => b _ _ (by omega) (by omega)) (fun j => b _ _ (by omega) (by omega)) (b _ _ (by omega) (by omega)), q_rimg_cg h7 (fun c j a1 a2 => a c j (by omega)) (fun c j a1 a2 => b c j (by omega) (by omega))⟩
  rw [z_up_ne (by omega), b _ _ (by omega) (by omega)]
  exact h3
theorem q_up89 {σ : zM} {i : Nat} {v : Int} {k : Nat} (hk : k < 89) : ∀ c, 89 ≤ c → z_up σ k i v c = σ c := fun c hc => funext fun j => z_up_ne (by omega)
