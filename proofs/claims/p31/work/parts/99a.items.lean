def w_tx (l u s g : Int) : List Int := [116, 114, 101, 101] ++ (w_num l ++ (w_num u ++ (w_num s ++ (w_num g ++ [59]))))
def w_wx (x y z : Int) : List Int := [119, 105, 110, 100] ++ (w_num x ++ (w_num y ++ (w_num z ++ [59])))
theorem w_numc (v : Int) (r : List Int) : w_num v ++ r = 32 :: (w_dg v ++ r) := rfl
theorem w_f32 : q_fig 32 = false := by decide
theorem w_f59 : q_fig 59 = false := by decide
theorem w_l32 : ∀ (x : Int) (r : List Int) (c : Int) (r' : List Int), w_num x ++ r = c :: r' → q_let c = false := by
  intro x r c r' h
  rw [w_numc] at h
  cases h
  decide
theorem w_patree {b : Nat → Int} {T p st : Nat} {D : Nat → Int} {l u s g : Int} {r : List Int} (h : w_sf b T p (w_tx l u s g ++ r)) (hs : st ≤ 1) (hD : D 0 < 12) (hl : 10 ≤ l ∧ l ≤ 99) (hu : 1 ≤ u ∧ u ≤ 20) (hss : 0 ≤ s ∧ s ≤ 7) (hg : 0 ≤ g ∧ g ≤ 5) : ∃ p', q_pa b T st p D = (1, p', 0, q_dT D l u s g) ∧ w_sf b T p' r ∧ q_tk b T p = 1 := by
  unfold w_tx at h
  simp only [List.append_assoc] at h
  obtain ⟨n1, n2, n3, n4⟩ := w_name (t := [116, 114, 101, 101]) h (by decide) (by decide) (w_l32 _ _)
  obtain ⟨-, a1, a2⟩ := w_pn (lo := 10) (hi := 99) (c := 32) (r := w_dg u ++ (w_num s ++ (w_num g ++ ([59] ++ r)))) n4 (by omega) w_f32 hl
  obtain ⟨-, b1, b2⟩ := w_pn (lo := 1) (hi := 20) (v := u) (c := 32) (r := w_dg s ++ (w_num g ++ ([59] ++ r))) a2 (by omega) w_f32 hu
  obtain ⟨-, c1, c2⟩ := w_pn (lo := 0) (hi := 7) (v := s) (c := 32) (r := w_dg g ++ ([59] ++ r)) b2 (by omega) w_f32 hss
  obtain ⟨-, d1, d2⟩ := w_pn (lo := 0) (hi := 5) (v := g) (c := 59) (r := r) c2 (by omega) w_f59 hg
  obtain ⟨-, e1, e2⟩ := w_ps (r := r) d2
  have t1 : q_t1 b T p = (l, p + ([116, 114, 101, 101] : List Int).length + (w_num l).length, 0) := by unfold q_t1; rw [n1]; exact a1
  have t2 : q_t2 b T p = (u, p + ([116, 114, 101, 101] : List Int).length + (w_num l).length + (w_num u).length, 0) := by unfold q_t2; rw [t1]; exact b1
  have t3 : q_t3 b T p = (s, p + ([116, 114, 101, 101] : List Int).length + (w_num l).length + (w_num u).length + (w_num s).length, 0) := by unfold q_t3; rw [t2]; exact c1
  have t4 : q_t4 b T p = (g, p + ([116, 114, 101, 101] : List Int).length + (w_num l).length + (w_num u).length + (w_num s).length + (w_num g).length, 0) := by unfold q_t4; rw [t3]; exact d1
  have t5 : q_t5 b T p = (p + ([116, 114, 101, 101] : List Int).length + (w_num l).length + (w_num u).length + (w_num s).length + (w_num g).length + 1, 0) := by unfold q_t5; rw [t4]; exact e1
  refine ⟨_, ?_, e2, n2⟩
  unfold q_pa
  rw [t1, t2, t3, t4, t5, if_pos ⟨hs, by rw [n3]; decide⟩, if_neg (by omega)]
theorem w_pawind {b : Nat → Int} {T p st : Nat} {D : Nat → Int} {x y z : Int} {r : List Int} (h : w_sf b T p (w_wx x y z ++ r)) (hs : st = 1 ∨ st = 2) (hD : D 1 < 6) (hx : 0 ≤ x ∧ x ≤ 7) (hy : 1 ≤ y ∧ y ≤ 20) (hz : 1 ≤ z ∧ z ≤ 99) : ∃ p', q_pa b T st p D = (2, p', 0, q_dW D x y z) ∧ w_sf b T p' r ∧ q_tk b T p = 1 := by
  unfold w_wx at h
  simp only [List.append_assoc] at h
  obtain ⟨n1, n2, n3, n4⟩ := w_name (t := [119, 105, 110, 100]) h (by decide) (by decide) (w_l32 _ _)
  obtain ⟨-, a1, a2⟩ := w_pn (lo := 0) (hi := 7) (c := 32) (r := w_dg y ++ (w_num z ++ ([59] ++ r))) n4 (by omega) w_f32 hx
  obtain ⟨-, b1, b2⟩ := w_pn (lo := 1) (hi := 20) (v := y) (c := 32) (r := w_dg z ++ ([59] ++ r)) a2 (by omega) w_f32 hy
  obtain ⟨-, c1, c2⟩ := w_pn (lo := 1) (hi := 99) (v := z) (c := 59) (r := r) b2 (by omega) w_f59 hz
  obtain ⟨-, e1, e2⟩ := w_ps (r := r) c2
  have t1 : q_w1 b T p = (x, p + ([119, 105, 110, 100] : List Int).length + (w_num x).length, 0) := by unfold q_w1; rw [n1]; exact a1
  have t2 : q_w2 b T p = (y, p + ([119, 105, 110, 100] : List Int).length + (w_num x).length + (w_num y).length, 0) := by unfold q_w2; rw [t1]; exact b1
  have t3 : q_w3 b T p = (z, p + ([119, 105, 110, 100] : List Int).length + (w_num x).length + (w_num y).length + (w_num z).length, 0) := by unfold q_w3; rw [t2]; exact c1
  have t4 : q_w4 b T p = (p + ([119, 105, 110, 100] : List Int).length + (w_num x).length + (w_num y).length + (w_num z).length + 1, 0) := by unfold q_w4; rw [t3]; exact e1
  refine ⟨_, ?_, e2, n2⟩
  unfold q_pa
  rw [t1, t2, t3, t4, if_neg (fun q => absurd q.2 (by rw [n3]; decide)), if_pos ⟨hs, by rw [n3]; decide⟩, if_neg (by omega)]
/-- the tones behind the first -/
def w_ux (f : Nat → Int) : Nat → Nat → List Int
  | 0, _ => []
  | d + 1, i => w_num (f i) ++ w_ux f d (i + 1)
def w_uD (f : Nat → Int) : Nat → Nat → (Nat → Int) → (Nat → Int)
  | 0, _, D => D
  | d + 1, i, D => w_uD f d (i + 1) (q_dJ D (f i))
theorem w_uxc (f : Nat → Int) (r : List Int) : ∀ d i, ∃ c r', w_ux f d i ++ 59 :: r = c :: r' ∧ q_fig c = false ∧ q_let c = false
  | 0, _ => ⟨59, r, rfl, by decide, by decide⟩
  | d + 1, i => ⟨32, w_dg (f i) ++ w_ux f d (i + 1) ++ 59 :: r, by rw [w_ux, w_numc]; simp, by decide, by decide⟩
theorem w_tones {b : Nat → Int} {T : Nat} {f : Nat → Int} (hf : ∀ i, 0 ≤ f i ∧ f i ≤ 999) {r : List Int} : ∀ (d m i p : Nat) (D : Nat → Int), d ≤ m → w_sf b T p (w_ux f d i ++ 59 :: r) → ∃ p', q_tl b T m p 0 D = (p', 0, w_uD f d i D) ∧ w_sf b T p' (59 :: r)
  | 0, m, i, p, D, hm, h => by
    have t := w_ps (r := r) h
    refine ⟨p, ?_, h⟩
    cases m with
    | zero => rw [q_tl, if_neg (by omega)]; rfl
    | succ m => rw [q_tl, if_neg (by omega)]; rfl
  | d + 1, 0, i, p, D, hm, h => by omega
  | d + 1, m + 1, i, p, D, hm, h => by
    rw [w_ux, List.append_assoc] at h
    obtain ⟨c, r', e, hc, -⟩ := w_uxc f r d (i + 1)
    rw [e] at h
    obtain ⟨a0, a1, a2⟩ := w_pn (lo := 0) (hi := 999) h (hf i) hc (hf i)
    rw [← e] at a2
    obtain ⟨p', g1, g2⟩ := w_tones hf d m (i + 1) _ (q_dJ D (f i)) (by omega) a2
    refine ⟨p', ?_, g2⟩
    rw [q_tl, if_pos ⟨rfl, a0⟩, a1, w_uD]
    exact g1
theorem w_patune {b : Nat → Int} {T p st : Nat} {D : Nat → Int} {f : Nat → Int} {n : Nat} {r : List Int} (hf : ∀ i, 0 ≤ f i ∧ f i ≤ 999) (hn : 1 ≤ n ∧ n ≤ 10) (h : w_sf b T p ([116, 117, 110, 101] ++ (w_ux f n 0 ++ 59 :: r))) (hs : st = 1 ∨ st = 2) (hD : D 2 = 0) : ∃ p', q_pa b T st p D = (3, p', 0, w_uD f n 0 D) ∧ w_sf b T p' r ∧ q_tk b T p = 1 := by
  obtain ⟨d, rfl⟩ : ∃ d, n = d + 1 := ⟨n - 1, by omega⟩
  obtain ⟨n1, n2, n3, n4⟩ := w_name (t := [116, 117, 110, 101]) h (by decide) (by decide) (fun c r' e => by
    obtain ⟨c2, r2, e2, -, hl⟩ := w_uxc f r (d + 1) 0
    rw [e2] at e
    cases e
    exact hl)
  rw [w_ux, List.append_assoc] at n4
  obtain ⟨c, r', e, hc, -⟩ := w_uxc f r d 1
  rw [e] at n4
  obtain ⟨a0, a1, a2⟩ := w_pn (lo := 0) (hi := 999) n4 (hf 0) hc (hf 0)
  rw [← e] at a2
  obtain ⟨p', g1, g2⟩ := w_tones hf d 9 1 _ (q_dJ D (f 0)) (by omega) a2
  obtain ⟨-, e1, e2⟩ := w_ps (r := r) g2
  have tu : q_tu b T p D = (p', 0, w_uD f d 1 (q_dJ D (f 0))) := by
    unfold q_tu
    rw [n1, a1, hD]
    exact g1
  have tz : q_tz b T p D = (p' + 1, 0) := by
    unfold q_tz
    rw [tu]
    exact e1
  refine ⟨_, ?_, e2, n2⟩
  unfold q_pa
  rw [tz, tu, if_neg (fun q => absurd q.2 (by rw [n3]; decide)), if_neg (fun q => absurd q.2 (by rw [n3]; decide)), if_pos ⟨hs, by rw [n3]; decide⟩]
  rfl
def w_goes (b : Nat → Int) (T s p : Nat) (D D' : Nat → Int) : Prop := (p = T ∧ D' = D) ∨ (¬ q_tk b T p = 0 ∧ ∃ x, q_wo b T s p D = (x, 0, D'))
theorem w_tkT {b : Nat → Int} {T : Nat} : q_tk b T T = 0 := by
  have e : q_ts b T T = T := w_ts0 (Nat.le_refl _) (fun h => absurd h (Nat.lt_irrefl _))
  unfold q_tk
  rw [e, if_pos (Nat.le_refl _)]
theorem w_step {b : Nat → Int} {T s p s' p' : Nat} {D D1 D' : Nat → Int} (hp : p ≤ T) (e : q_pa b T s p D = (s', p', 0, D1)) (g : w_goes b T s' p' D1 D') : ∃ x, q_wo b T s p D = (x, 0, D') := by
  rcases g with ⟨rfl, rfl⟩ | ⟨g1, x, g2⟩
  · refine ⟨p', ?_⟩
    rw [q_wo_end (by rw [e]; exact fun q => q.2 w_tkT), e]
  · refine ⟨x, ?_⟩
    rw [q_wo_go hp (by rw [e]) (by rw [e]; exact g1), e]
    exact g2
theorem w_sf.le {b : Nat → Int} {T p : Nat} {r : List Int} (h : w_sf b T p r) : p ≤ T := by have := h.1; omega
theorem w_sf.nil {b : Nat → Int} {T p : Nat} (h : w_sf b T p []) : p = T := h.1
