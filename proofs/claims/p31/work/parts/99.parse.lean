/-! what the reader finds in what the law tells -/
def w_sf (b : Nat → Int) (T p : Nat) (r : List Int) : Prop := p + r.length = T ∧ ∀ i, i < r.length → b (p + i) = r.getD i 0
theorem w_sf0 (t : List Int) : w_sf (w_fn t) t.length 0 t := by
  refine ⟨Nat.zero_add _, fun i hi => ?_⟩
  unfold w_fn q_by
  rw [Nat.zero_add, if_pos hi]
theorem w_sf.hd {b : Nat → Int} {T p : Nat} {x : Int} {r : List Int} (h : w_sf b T p (x :: r)) : b p = x ∧ p < T ∧ w_sf b T (p + 1) r := by
  obtain ⟨h1, h2⟩ := h
  rw [List.length_cons] at h1
  refine ⟨?_, by omega, by omega, fun i hi => ?_⟩
  · have := h2 0 (by rw [List.length_cons]; omega)
    rw [Nat.add_zero] at this
    rw [this]
    rfl
  · have := h2 (i + 1) (by rw [List.length_cons]; omega)
    rw [show p + 1 + i = p + (i + 1) by omega, this]
    rfl
theorem w_sf.app {b : Nat → Int} {T : Nat} : ∀ (l : List Int) {p : Nat} {r : List Int}, w_sf b T p (l ++ r) → (∀ i, i < l.length → b (p + i) = l.getD i 0) ∧ w_sf b T (p + l.length) r ∧ p + l.length ≤ T := by
  intro l p r ⟨h1, h2⟩
  rw [List.length_append] at h1
  refine ⟨fun i hi => ?_, ⟨by omega, fun i hi => ?_⟩, by omega⟩
  · rw [h2 i (by rw [List.length_append]; omega), List.getD_eq_getElem?_getD, List.getD_eq_getElem?_getD, List.getElem?_append_left hi]
  · rw [show p + l.length + i = p + (l.length + i) by omega, h2 (l.length + i) (by rw [List.length_append]; omega), List.getD_eq_getElem?_getD, List.getD_eq_getElem?_getD, List.getElem?_append_right (by omega), show l.length + i - l.length = i by omega]
theorem w_run {f : Nat → Bool} {T : Nat} : ∀ (n s : Nat), s + n ≤ T → (∀ i, i < n → f (s + i) = true) → (s + n < T → f (s + n) = false) → q_end f s (T - s) = s + n
  | 0, s, h, _, h2 => by
    by_cases c : s < T
    · exact q_end_N (h2 c)
    · rw [show T - s = 0 by omega]
      rfl
  | n + 1, s, h, h1, h2 => by
    have h0 := h1 0 (by omega)
    rw [Nat.add_zero] at h0
    rw [q_end_S (by omega) h0, w_run n (s + 1) (by omega) (fun i hi => by rw [show s + 1 + i = s + (i + 1) by omega]; exact h1 (i + 1) (by omega)) (fun c => by rw [show s + 1 + n = s + (n + 1) by omega]; exact h2 (by omega))]
    omega
theorem w_fig_let {c : Int} (h : q_fig c = true) : q_let c = false ∧ q_bl c = false := by
  unfold q_fig q_let q_bl at *
  simp only [decide_eq_true_eq, decide_eq_false_iff_not] at *
  omega
theorem w_let_bl {c : Int} (h : q_let c = true) : q_bl c = false := by
  unfold q_let q_bl at *
  simp only [decide_eq_true_eq, decide_eq_false_iff_not] at *
  omega
theorem w_ts0 {b : Nat → Int} {T p : Nat} (h : p ≤ T) (e : p < T → q_bl (b p) = false) : q_ts b T p = p := w_run (f := fun i => q_bl (b i)) 0 p h (fun i hi => absurd hi (Nat.not_lt_zero _)) e
theorem w_ts1 {b : Nat → Int} {T p : Nat} (h : p < T) (e : b p = 32) : q_ts b T p = q_ts b T (p + 1) := q_end_S (f := fun i => q_bl (b i)) h (by show q_bl (b p) = true; rw [e]; rfl)
/-- a number behind a blank -/
theorem w_tkn {b : Nat → Int} {T p n : Nat} (h : p + 1 + n ≤ T) (h0 : b p = 32) (n1 : 1 ≤ n ∧ n ≤ 3) (hf : ∀ i, i < n → q_fig (b (p + 1 + i)) = true) (he : p + 1 + n < T → q_fig (b (p + 1 + n)) = false) : q_ts b T p = p + 1 ∧ q_te b T p = p + 1 + n ∧ q_tk b T p = 2 := by
  have f0 := hf 0 (by omega)
  rw [Nat.add_zero] at f0
  have g := w_fig_let f0
  have e1 : q_ts b T p = p + 1 := by rw [w_ts1 (by omega) h0, w_ts0 (by omega) (fun _ => g.2)]
  have e2 : q_te b T p = p + 1 + n := by
    unfold q_te
    rw [e1, if_neg (by omega), if_neg (by rw [g.1]; decide), if_pos f0]
    exact w_run (f := fun i => q_fig (b i)) n (p + 1) h hf he
  refine ⟨e1, e2, ?_⟩
  unfold q_tk
  rw [e2, e1, if_neg (by omega), if_neg (by rw [g.1]; decide), if_pos f0, if_neg (by omega)]
theorem w_fig_of {c : Int} (h : 48 ≤ c ∧ c ≤ 57) : q_fig c = true := by
  unfold q_fig
  exact decide_eq_true h
def w_dg (v : Int) : List Int := (if 99 < v then [48 + v / 100, 48 + v / 10 % 10] else if 9 < v then [48 + v / 10] else []) ++ [48 + v % 10]
theorem w_pn {b : Nat → Int} {T p : Nat} {v lo hi c : Int} {r : List Int} (h : w_sf b T p (w_num v ++ c :: r)) (hv : 0 ≤ v ∧ v ≤ 999) (hc : q_fig c = false) (hl : lo ≤ v ∧ v ≤ hi) : q_tk b T p = 2 ∧ q_pn b T p 0 lo hi = (v, p + (w_num v).length, 0) ∧ w_sf b T (p + (w_num v).length) (c :: r) := by
  have a := w_sf.app (w_num v) h
  have nx := a.2.1.hd
  have key : ∀ n, (w_num v).length = n + 1 → (1 ≤ n ∧ n ≤ 3) → (∀ i, i < n → q_fig (b (p + 1 + i)) = true) → b p = 32 → q_num b (p + 1) n = v → q_tk b T p = 2 ∧ q_pn b T p 0 lo hi = (v, p + (w_num v).length, 0) ∧ w_sf b T (p + (w_num v).length) (c :: r) := by
    intro n e n1 hf h0 hn
    rw [e] at nx a
    have t := w_tkn (T := T) (by omega) h0 n1 hf (fun _ => by rw [show p + 1 + n = p + (n + 1) by omega, nx.1]; exact hc)
    refine ⟨t.2.2, ?_, by rw [e]; exact a.2.1⟩
    unfold q_pn
    rw [t.2.2, t.1, t.2.1, show p + 1 + n - (p + 1) = n by omega, hn, if_neg (by omega), if_neg (by omega), if_neg (by omega), e]
    rw [show p + 1 + n = p + (n + 1) by omega]
  by_cases c1 : 99 < v
  · have e : w_num v = [32, 48 + v / 100, 48 + v / 10 % 10, 48 + v % 10] := by unfold w_num; rw [if_pos c1]; rfl
    rw [e] at a
    have b0 : b p = 32 := a.1 0 (by simp)
    have b1 : b (p + 1) = 48 + v / 100 := a.1 1 (by simp)
    have b2 : b (p + 2) = 48 + v / 10 % 10 := a.1 2 (by simp)
    have b3 : b (p + 3) = 48 + v % 10 := a.1 3 (by simp)
    refine key 3 (by rw [e]; rfl) (by omega) (fun i hi => ?_) b0 ?_
    · have hi : i = 0 ∨ i = 1 ∨ i = 2 := by omega
      rcases hi with rfl | rfl | rfl
      · rw [Nat.add_zero, b1]; exact w_fig_of (by omega)
      · rw [show p + 1 + 1 = p + 2 by omega, b2]; exact w_fig_of (by omega)
      · rw [show p + 1 + 2 = p + 3 by omega, b3]; exact w_fig_of (by omega)
    · simp only [q_num, Nat.add_zero]
      rw [show p + 1 + 1 = p + 2 by omega, show p + 1 + 2 = p + 3 by omega, b1, b2, b3]
      omega
  by_cases c2 : 9 < v
  · have e : w_num v = [32, 48 + v / 10, 48 + v % 10] := by unfold w_num; rw [if_neg c1, if_pos c2]; rfl
    rw [e] at a
    have b0 : b p = 32 := a.1 0 (by simp)
    have b1 : b (p + 1) = 48 + v / 10 := a.1 1 (by simp)
    have b2 : b (p + 2) = 48 + v % 10 := a.1 2 (by simp)
    refine key 2 (by rw [e]; rfl) (by omega) (fun i hi => ?_) b0 ?_
    · have hi : i = 0 ∨ i = 1 := by omega
      rcases hi with rfl | rfl
      · rw [Nat.add_zero, b1]; exact w_fig_of (by omega)
      · rw [show p + 1 + 1 = p + 2 by omega, b2]; exact w_fig_of (by omega)
    · simp only [q_num, Nat.add_zero]
      rw [show p + 1 + 1 = p + 2 by omega, b1, b2]
      omega
  · have e : w_num v = [32, 48 + v % 10] := by unfold w_num; rw [if_neg c1, if_neg c2]; rfl
    rw [e] at a
    have b0 : b p = 32 := a.1 0 (by simp)
    have b1 : b (p + 1) = 48 + v % 10 := a.1 1 (by simp)
    refine key 1 (by rw [e]; rfl) (by omega) (fun i hi => ?_) b0 ?_
    · have hi : i = 0 := by omega
      subst hi
      rw [Nat.add_zero, b1]; exact w_fig_of (by omega)
    · simp only [q_num, Nat.add_zero]
      rw [b1]
      omega
theorem w_ps {b : Nat → Int} {T p : Nat} {r : List Int} (h : w_sf b T p (59 :: r)) : q_tk b T p = 3 ∧ q_ps b T p 0 = (p + 1, 0) ∧ w_sf b T (p + 1) r := by
  obtain ⟨h1, h2, h3⟩ := h.hd
  have e1 : q_ts b T p = p := w_ts0 (by omega) (fun _ => by rw [h1]; rfl)
  have e2 : q_te b T p = p + 1 := by
    unfold q_te
    rw [e1, h1, if_neg (by omega), if_neg (by decide), if_neg (by decide)]
  have e3 : q_tk b T p = 3 := by
    unfold q_tk
    rw [e1, h1, if_neg (by omega), if_neg (by decide), if_neg (by decide), if_pos rfl]
  refine ⟨e3, ?_, h3⟩
  unfold q_ps
  rw [e3, e2, if_neg (by omega), if_neg (by omega)]
def w_is (t : List Int) (j : Nat) : Bool := decide (t.length = z_slen.getD j 0 ∧ ∀ i, i < z_slen.getD j 0 → t.getD i 0 = z_sch j i)
theorem w_name {b : Nat → Int} {T p : Nat} {t r : List Int} (h : w_sf b T p (t ++ r)) (t1 : 1 ≤ t.length) (hl : ∀ i, i < t.length → q_let (t.getD i 0) = true) (hr : ∀ c r', r = c :: r' → q_let c = false) : q_te b T p = p + t.length ∧ q_tk b T p = 1 ∧ (∀ j, q_isw b T p j = w_is t j) ∧ w_sf b T (p + t.length) r := by
  obtain ⟨a1, a2, a3⟩ := w_sf.app t h
  have l0 := hl 0 (by omega)
  have b0 := a1 0 (by omega)
  rw [Nat.add_zero] at b0
  rw [← b0] at l0
  have e1 : q_ts b T p = p := w_ts0 (by omega) (fun _ => w_let_bl l0)
  have e2 : q_te b T p = p + t.length := by
    unfold q_te
    rw [e1, if_neg (by omega), if_pos l0]
    refine w_run (f := fun i => q_let (b i)) t.length p a3 (fun i hi => ?_) (fun c => ?_)
    · show q_let (b (p + i)) = true
      rw [a1 i hi]
      exact hl i hi
    · cases r with
      | nil => have := a2.1; rw [List.length_nil] at this; omega
      | cons x r' =>
        show q_let (b (p + t.length)) = false
        rw [a2.hd.1]
        exact hr x r' rfl
  have e3 : q_tk b T p = 1 := by
    unfold q_tk
    rw [e1, if_neg (by omega), if_pos l0]
  refine ⟨e2, e3, fun j => ?_, a2⟩
  unfold q_isw w_is
  rw [e3, e2, e1, decide_eq_decide, show p + t.length - p = t.length by omega]
  constructor
  · rintro ⟨-, h1, h2⟩
    exact ⟨h1, fun i hi => by rw [← a1 i (by omega)]; exact h2 i hi⟩
  · rintro ⟨h1, h2⟩
    exact ⟨rfl, h1, fun i hi => by rw [a1 i (by omega)]; exact h2 i hi⟩
