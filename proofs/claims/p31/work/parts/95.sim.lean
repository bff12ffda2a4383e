/-! bytes that no token tells apart -/
def q_oth (c : Int) : Prop := q_bl c = false ∧ q_let c = false ∧ q_fig c = false ∧ c ≠ 59
def q_sim (b b' : Nat → Int) (T : Nat) : Prop := ∀ j, j < T → b j = b' j ∨ (q_oth (b j) ∧ q_oth (b' j))
theorem q_end_cg {f g : Nat → Bool} : ∀ (n p : Nat), (∀ i, p ≤ i → i < p + n → f i = g i) → q_end f p n = q_end g p n
  | 0, _, _ => rfl
  | n + 1, p, h => by
    rw [q_end, q_end, h p (by omega) (by omega), q_end_cg n (p + 1) (fun i h1 h2 => h i (by omega) (by omega))]
theorem q_end_all {f : Nat → Bool} : ∀ (n p i : Nat), p ≤ i → i < q_end f p n → f i = true
  | 0, p, i, h1, h2 => by rw [q_end] at h2; omega
  | n + 1, p, i, h1, h2 => by
    rw [q_end] at h2
    by_cases c : f p = true
    · rw [if_pos c] at h2
      by_cases e : i = p
      · rw [e]; exact c
      · exact q_end_all n (p + 1) i (by omega) h2
    · rw [if_neg c] at h2
      omega
theorem q_sim.at {b b' : Nat → Int} {T : Nat} (h : q_sim b b' T) {j : Nat} (hj : j < T) : q_bl (b j) = q_bl (b' j) ∧ q_let (b j) = q_let (b' j) ∧ q_fig (b j) = q_fig (b' j) ∧ (b j = 59 ↔ b' j = 59) := by
  rcases h j hj with e | ⟨⟨a1, a2, a3, a4⟩, c1, c2, c3, c4⟩
  · rw [e]
    exact ⟨rfl, rfl, rfl, Iff.rfl⟩
  · rw [a1, a2, a3, c1, c2, c3]
    exact ⟨rfl, rfl, rfl, ⟨fun e => absurd e a4, fun e => absurd e c4⟩⟩
theorem q_sim.ts {b b' : Nat → Int} {T : Nat} (h : q_sim b b' T) (p : Nat) : q_ts b T p = q_ts b' T p := by
  unfold q_ts
  exact q_end_cg _ _ (fun i h1 h2 => (h.at (by omega)).1)
theorem q_sim.te {b b' : Nat → Int} {T : Nat} (h : q_sim b b' T) (p : Nat) : q_te b T p = q_te b' T p := by
  unfold q_te
  rw [h.ts p]
  by_cases c : T ≤ q_ts b' T p
  · rw [if_pos c, if_pos c]
  · rw [if_neg c, if_neg c]
    have a := h.at (j := q_ts b' T p) (by omega)
    rw [a.2.1, a.2.2.1, q_end_cg (f := fun i => q_let (b i)) (g := fun i => q_let (b' i)) _ _ (fun i h1 h2 => (h.at (by omega)).2.1), q_end_cg (f := fun i => q_fig (b i)) (g := fun i => q_fig (b' i)) _ _ (fun i h1 h2 => (h.at (by omega)).2.2.1)]
theorem q_sim.tk {b b' : Nat → Int} {T : Nat} (h : q_sim b b' T) (p : Nat) : q_tk b T p = q_tk b' T p := by
  unfold q_tk
  rw [h.ts p, h.te p]
  by_cases c : T ≤ q_ts b' T p
  · rw [if_pos c, if_pos c]
  · rw [if_neg c, if_neg c]
    have a := h.at (j := q_ts b' T p) (by omega)
    rw [a.2.1, a.2.2.1]
    by_cases e : b (q_ts b' T p) = 59
    · rw [if_pos e, if_pos (a.2.2.2.mp e)]
    · rw [if_neg e, if_neg (fun q => e (a.2.2.2.mpr q))]
theorem q_num_cg {b b' : Nat → Int} {s : Nat} : ∀ n : Nat, (∀ i, s ≤ i → i < s + n → b i = b' i) → q_num b s n = q_num b' s n
  | 0, _ => rfl
  | n + 1, h => by rw [q_num, q_num, q_num_cg n (fun i h1 h2 => h i (by omega) (by omega)), h (s + n) (by omega) (by omega)]
theorem q_tk2 {b : Nat → Int} {T p : Nat} (h : q_tk b T p = 2) : q_ts b T p < T ∧ q_te b T p ≤ q_ts b T p + 3 ∧ ∀ i, q_ts b T p ≤ i → i < q_te b T p → q_fig (b i) = true ∧ i < T := by
  unfold q_tk at h
  by_cases c : T ≤ q_ts b T p
  · rw [if_pos c] at h; omega
  · rw [if_neg c] at h
    by_cases l : q_let (b (q_ts b T p)) = true
    · rw [if_pos l] at h; omega
    · rw [if_neg l] at h
      by_cases g : q_fig (b (q_ts b T p)) = true
      · rw [if_pos g] at h
        have e : q_te b T p = q_end (fun i => q_fig (b i)) (q_ts b T p) (T - q_ts b T p) := by unfold q_te; rw [if_neg c, if_neg l, if_pos g]
        have le := q_end_le (fun i => q_fig (b i)) (T - q_ts b T p) (q_ts b T p)
        refine ⟨by omega, ?_, fun i h1 h2 => ⟨?_, by omega⟩⟩
        · by_cases e3 : q_ts b T p + 3 < q_te b T p
          · rw [if_pos e3] at h; omega
          · omega
        · exact q_end_all (f := fun i => q_fig (b i)) (T - q_ts b T p) (q_ts b T p) i h1 (by rw [← e]; exact h2)
      · rw [if_neg g] at h
        split at h <;> omega
theorem q_sim.num {b b' : Nat → Int} {T : Nat} (h : q_sim b b' T) {p : Nat} (hk : q_tk b T p = 2) : q_num b (q_ts b T p) (q_te b T p - q_ts b T p) = q_num b' (q_ts b' T p) (q_te b' T p - q_ts b' T p) := by
  rw [← h.ts p, ← h.te p]
  refine q_num_cg _ (fun i h1 h2 => ?_)
  have q := (q_tk2 hk).2.2 i h1 (by omega)
  rcases h i q.2 with e | ⟨o, -⟩
  · exact e
  · rw [o.2.2.1] at q
    exact absurd q.1 (by decide)
theorem q_sim.pn {b b' : Nat → Int} {T : Nat} (h : q_sim b b' T) (p : Nat) (f lo hi : Int) : q_pn b T p f lo hi = q_pn b' T p f lo hi := by
  unfold q_pn
  rw [← h.tk p]
  by_cases c : ¬ f = 0
  · rw [if_pos c, if_pos c]
  · rw [if_neg c, if_neg c]
    by_cases k : ¬ q_tk b T p = 2
    · rw [if_pos k, if_pos k]
    · rw [if_neg k, if_neg k, ← h.num (by omega), h.te p]
theorem q_sim.ps {b b' : Nat → Int} {T : Nat} (h : q_sim b b' T) (p : Nat) (f : Int) : q_ps b T p f = q_ps b' T p f := by
  unfold q_ps
  rw [h.tk p, h.te p]
theorem q_tk1 {b : Nat → Int} {T p : Nat} (h : q_tk b T p = 1) : q_ts b T p < T ∧ q_te b T p = q_end (fun i => q_let (b i)) (q_ts b T p) (T - q_ts b T p) ∧ q_te b T p ≤ T := by
  unfold q_tk at h
  by_cases c : T ≤ q_ts b T p
  · rw [if_pos c] at h; omega
  · rw [if_neg c] at h
    by_cases l : q_let (b (q_ts b T p)) = true
    · have e : q_te b T p = q_end (fun i => q_let (b i)) (q_ts b T p) (T - q_ts b T p) := by unfold q_te; rw [if_neg c, if_pos l]
      have le := q_end_le (fun i => q_let (b i)) (T - q_ts b T p) (q_ts b T p)
      exact ⟨by omega, e, by omega⟩
    · rw [if_neg l] at h
      split at h
      · split at h <;> omega
      · split at h <;> omega
theorem q_sch_let (j i : Nat) (h : i < z_slen.getD j 0) : q_let (z_sch j i) = true := by
  by_cases hj : j < 11
  · have q := (z_sch_ok j hj i h).2.2
    unfold q_let
    rw [decide_eq_true_eq]
    exact q
  · have e : z_slen.getD j 0 = 0 := by
      rw [List.getD_eq_getElem?_getD, List.getElem?_eq_none (by show 11 ≤ j; omega)]
      rfl
    omega
theorem q_sim.isw {b b' : Nat → Int} {T : Nat} (h : q_sim b b' T) (p j : Nat) : q_isw b T p j = q_isw b' T p j := by
  unfold q_isw
  rw [h.tk p, h.te p, h.ts p]
  refine decide_eq_decide.mpr ⟨fun q => ⟨q.1, q.2.1, fun i hi => ?_⟩, fun q => ⟨q.1, q.2.1, fun i hi => ?_⟩⟩
  · have k := q_tk1 q.1
    have e := q.2.2 i hi
    rcases h (q_ts b' T p + i) (by have := q.2.1; omega) with w | ⟨o, -⟩
    · rw [← w]; exact e
    · have := q_sch_let j i hi
      rw [← e, o.2.1] at this
      cases this
  · have k := q_tk1 q.1
    have e := q.2.2 i hi
    rcases h (q_ts b' T p + i) (by have := q.2.1; omega) with w | ⟨-, o⟩
    · rw [w]; exact e
    · have := q_sch_let j i hi
      rw [← e, o.2.1] at this
      cases this
theorem q_sim.ord {b b' : Nat → Int} {T : Nat} (h : q_sim b b' T) (p : Nat) : q_ord b T p = q_ord b' T p := by
  have key : ∀ n o, q_ordn b T p n o = q_ordn b' T p n o := by
    intro n
    induction n with
    | zero => intro o; rfl
    | succ n ih => intro o; rw [q_ordn, q_ordn, h.isw, ih]
  exact key 8 0
theorem q_sim.tl {b b' : Nat → Int} {T : Nat} (h : q_sim b b' T) : ∀ (d p : Nat) (f : Int) (D : Nat → Int), q_tl b T d p f D = q_tl b' T d p f D
  | 0, p, f, D => by rw [q_tl, q_tl, h.tk]
  | d + 1, p, f, D => by rw [q_tl, q_tl, h.tk, h.pn, h.tl d]
theorem q_sim.pa {b b' : Nat → Int} {T : Nat} (h : q_sim b b' T) (s p : Nat) (D : Nat → Int) : q_pa b T s p D = q_pa b' T s p D := by
  simp only [q_pa, q_t5, q_t4, q_t3, q_t2, q_t1, q_w4, q_w3, q_w2, q_w1, q_tz, q_tu, h.isw, h.pn, h.ps, h.te, h.tl]
theorem q_sim.wl {b b' : Nat → Int} {T : Nat} (h : q_sim b b' T) : ∀ (d s p : Nat) (D : Nat → Int), q_wl b T d s p D = q_wl b' T d s p D
  | 0, _, _, _ => rfl
  | d + 1, s, p, D => by rw [q_wl, q_wl, h.pa, h.tk, h.wl d]
theorem q_sim.wr {b b' : Nat → Int} {T : Nat} (h : q_sim b b' T) : q_wr b T = q_wr b' T := h.wl _ _ _ _
theorem q_sim.oa {b b' : Nat → Int} {T : Nat} (h : q_sim b b' T) (n : Int) (p c : Nat) (E : Nat → Int) : q_oa b T n p c E = q_oa b' T n p c E := by
  simp only [q_oa, q_o3, q_o2, q_o1, h.ord, h.pn, h.ps, h.te]
theorem q_sim.ol {b b' : Nat → Int} {T : Nat} (h : q_sim b b' T) (n : Int) : ∀ (d p c : Nat) (E : Nat → Int), q_ol b T n d p c E = q_ol b' T n d p c E
  | 0, _, _, _ => rfl
  | d + 1, p, c, E => by rw [q_ol, q_ol, h.oa, h.tk, h.ol n d]
theorem q_sim.or {b b' : Nat → Int} {T : Nat} (h : q_sim b b' T) (n : Int) : q_or b T n = q_or b' T n := h.ol n _ _ _ _
/-- the program's bytes against the model's -/
theorem q_wr8_sim {x : Int} (h : 0 ≤ x ∧ x ≤ 255) : z_wr8 x = x ∨ (q_oth (z_wr8 x) ∧ q_oth x) := by
  rw [z_wr8_bmod]
  by_cases c : x ≤ 127
  · left
    exact Int.bmod_eq_of_le (by omega) (by omega)
  · right
    have e : x.bmod 256 = x - 256 := by
      have e1 : x.bmod 256 = (x - 256).bmod 256 := by
        rw [show x = (x - 256) + (256 : Nat) by omega, Int.add_bmod_right]
        congr 1
        omega
      rw [e1]
      exact Int.bmod_eq_of_le (by omega) (by omega)
    rw [e]
    unfold q_oth q_bl q_let q_fig
    simp only [decide_eq_false_iff_not]
    omega
theorem q_rtape_sim {σ τ : zM} (h : q_rtape σ τ) (k : q_tpok τ) : q_sim (q_by (σ 2) (τ 89 12).toNat) (q_by (τ 97) (τ 89 12).toNat) (τ 89 12).toNat := by
  intro j hj
  unfold q_by
  rw [if_pos hj, if_pos hj, h.2 j (by omega)]
  exact q_wr8_sim (k.2 j (by omega))
