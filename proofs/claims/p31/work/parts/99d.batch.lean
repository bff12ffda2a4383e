/-! a batch of orders, told and read -/
theorem w_ow_let (o : Int) : 1 ≤ (w_ow o).2.length ∧ ∀ i, i < (w_ow o).2.length → q_let ((w_ow o).2.getD i 0) = true := by
  unfold w_ow
  repeat' split
  all_goals decide
theorem w_ow_ord {b : Nat → Int} {T p : Nat} {o : Int} (ho : 0 ≤ o ∧ o ≤ 7) (h : ∀ j, q_isw b T p j = w_is (w_ow o).2 j) : q_ord b T p = o := by
  have oo : o = 0 ∨ o = 1 ∨ o = 2 ∨ o = 3 ∨ o = 4 ∨ o = 5 ∨ o = 6 ∨ o = 7 := by omega
  unfold q_ord
  simp only [q_ordn, h]
  rcases oo with rfl | rfl | rfl | rfl | rfl | rfl | rfl | rfl <;> decide
def w_ev (N o t n : Int) : Prop := (0 ≤ o ∧ o ≤ 7) ∧ (0 ≤ t ∧ t < N) ∧ (o < 2 → 1 ≤ n ∧ n ≤ 89) ∧ (2 ≤ o → 0 ≤ n ∧ n ≤ 7)
theorem w_oa1 {b : Nat → Int} {T p c : Nat} {N o t n : Int} {E : Nat → Int} {r : List Int} (v : w_ev N o t n) (hN : N ≤ 900) (hc : c < 12) (h : w_sf b T p (w_ot o t n ++ r)) : ∃ p', q_oa b T N p c E = (p', 0, c + 1, q_dO c E o (if o < 6 then t else 0) (if o < 3 then n else 0)) ∧ w_sf b T p' r ∧ q_tk b T p = 1 := by
  obtain ⟨ho, ht, hn, hn2⟩ := v
  have wl := w_ow_let o
  unfold w_ot at h
  simp only [List.append_assoc] at h
  have n9 := w_name h wl.1 wl.2 (fun c r' e => by
    by_cases c6 : o < 6
    · rw [if_pos c6] at e
      exact w_l32 _ _ _ _ e
    · rw [if_neg c6, if_neg (by omega)] at e
      cases e
      decide)
  obtain ⟨n1, n2, n3, n4⟩ := n9
  have od := w_ow_ord ho n3
  by_cases c6 : o < 6
  · rw [if_pos c6] at n4 ⊢
    have o1e : q_o1 b T p N = q_pn b T (q_te b T p) 0 0 (N - 1) := by
      unfold q_o1
      rw [od, if_neg (by omega)]
    by_cases c3 : o < 3
    · rw [if_pos c3] at n4 ⊢
      obtain ⟨-, a1, a2⟩ := w_pn (lo := 0) (hi := N - 1) (v := t) (c := 32) (r := w_dg n ++ (59 :: r)) n4 (by omega) w_f32 (by omega)
      have t1 : q_o1 b T p N = (t, p + (w_ow o).2.length + (w_num t).length, 0) := by rw [o1e, n1, a1]
      by_cases c2 : o < 2
      · obtain ⟨-, b1, b2⟩ := w_pn (lo := 1) (hi := 89) (v := n) (c := 59) (r := r) a2 (by omega) w_f59 (hn c2)
        have t2 : q_o2 b T p N = (n, p + (w_ow o).2.length + (w_num t).length + (w_num n).length, 0) := by
          unfold q_o2
          rw [od, if_pos (by omega), t1]
          exact b1
        obtain ⟨-, e1, e2⟩ := w_ps (r := r) b2
        have t3 : q_o3 b T p N = (p + (w_ow o).2.length + (w_num t).length + (w_num n).length + 1, 0) := by
          unfold q_o3
          rw [t2]
          exact e1
        refine ⟨_, ?_, e2, n2⟩
        unfold q_oa
        rw [od, t1, t2, t3, if_neg (by omega), if_neg (by omega)]
      · obtain ⟨-, b1, b2⟩ := w_pn (lo := 0) (hi := 7) (v := n) (c := 59) (r := r) a2 (by omega) w_f59 (hn2 (by omega))
        have t2 : q_o2 b T p N = (n, p + (w_ow o).2.length + (w_num t).length + (w_num n).length, 0) := by
          unfold q_o2
          rw [od, if_neg (by omega), if_pos (by omega), t1]
          exact b1
        obtain ⟨-, e1, e2⟩ := w_ps (r := r) b2
        have t3 : q_o3 b T p N = (p + (w_ow o).2.length + (w_num t).length + (w_num n).length + 1, 0) := by
          unfold q_o3
          rw [t2]
          exact e1
        refine ⟨_, ?_, e2, n2⟩
        unfold q_oa
        rw [od, t1, t2, t3, if_neg (by omega), if_neg (by omega)]
    · rw [if_neg c3] at n4 ⊢
      obtain ⟨-, a1, a2⟩ := w_pn (lo := 0) (hi := N - 1) (v := t) (c := 59) (r := r) n4 (by omega) w_f59 (by omega)
      have t1 : q_o1 b T p N = (t, p + (w_ow o).2.length + (w_num t).length, 0) := by rw [o1e, n1, a1]
      have t2 : q_o2 b T p N = (0, p + (w_ow o).2.length + (w_num t).length, 0) := by
        unfold q_o2
        rw [od, if_neg (by omega), if_neg (by omega), t1]
      obtain ⟨-, e1, e2⟩ := w_ps (r := r) a2
      have t3 : q_o3 b T p N = (p + (w_ow o).2.length + (w_num t).length + 1, 0) := by
        unfold q_o3
        rw [t2]
        exact e1
      refine ⟨_, ?_, e2, n2⟩
      unfold q_oa
      rw [od, t1, t2, t3, if_neg (by omega), if_neg (by omega)]
  · rw [if_neg c6, if_neg (by omega)] at n4
    rw [if_neg c6, if_neg (by omega)]
    have t1 : q_o1 b T p N = (0, p + (w_ow o).2.length, 0) := by
      unfold q_o1
      rw [od, if_pos (by omega), n1]
    have t2 : q_o2 b T p N = (0, p + (w_ow o).2.length, 0) := by
      unfold q_o2
      rw [od, if_neg (by omega), if_neg (by omega), t1]
    obtain ⟨-, e1, e2⟩ := w_ps (r := r) n4
    have t3 : q_o3 b T p N = (p + (w_ow o).2.length + 1, 0) := by
      unfold q_o3
      rw [t2]
      exact e1
    refine ⟨_, ?_, e2, n2⟩
    unfold q_oa
    rw [od, t1, t2, t3, if_neg (by omega), if_neg (by omega)]
def w_E (e : Nat → Int × Int × Int) (j : Nat) : Int := if j % 3 = 0 then (e (j / 3)).1 else if j % 3 = 1 then (if (e (j / 3)).1 < 6 then (e (j / 3)).2.1 else 0) else (if (e (j / 3)).1 < 3 then (e (j / 3)).2.2 else 0)
theorem w_E_at (e : Nat → Int × Int × Int) (i : Nat) : w_E e (3 * i) = (e i).1 ∧ w_E e (3 * i + 1) = (if (e i).1 < 6 then (e i).2.1 else 0) ∧ w_E e (3 * i + 2) = (if (e i).1 < 3 then (e i).2.2 else 0) := by
  unfold w_E
  refine ⟨?_, ?_, ?_⟩
  · rw [show 3 * i / 3 = i by omega, if_pos (by omega)]
  · rw [show (3 * i + 1) / 3 = i by omega, if_neg (show ¬ (3 * i + 1) % 3 = 0 by omega), if_pos (show (3 * i + 1) % 3 = 1 by omega)]
  · rw [show (3 * i + 2) / 3 = i by omega, if_neg (show ¬ (3 * i + 2) % 3 = 0 by omega), if_neg (show ¬ (3 * i + 2) % 3 = 1 by omega)]
def w_go (e : Nat → Int × Int × Int) (i : Nat) : List Int := w_ot (e i).1 (e i).2.1 (e i).2.2
theorem w_oos {b : Nat → Int} {T : Nat} {N : Int} {e : Nat → Int × Int × Int} (hN : N ≤ 900) (v : ∀ i, w_ev N (e i).1 (e i).2.1 (e i).2.2) : ∀ (d i p : Nat) (E : Nat → Int), i + d + 1 ≤ 12 → w_sf b T p (w_cn (w_go e) (d + 1) i) → ∃ x E', q_oo b T N p i E = (x, 0, i + d + 1, E') ∧ (∀ j, 3 * i ≤ j → j < 3 * (i + d + 1) → E' j = w_E e j) ∧ (∀ j, j < 3 * i → E' j = E j) ∧ q_tk b T p = 1
  | 0, i, p, E, hi, h => by
    rw [w_cn] at h
    obtain ⟨p', a1, a2, a3⟩ := w_oa1 (E := E) (c := i) (v i) hN (by omega) h
    have k := w_E_at e i
    have hp : p' = T := a2.nil
    refine ⟨_, _, by rw [q_oo_end (by rw [a1]; exact fun q => q.2 (by rw [hp]; exact w_tkT)), a1], fun j h1 h2 => ?_, fun j h1 => ?_, a3⟩
    · unfold q_dO
      have hj : j = 3 * i ∨ j = 3 * i + 1 ∨ j = 3 * i + 2 := by omega
      rcases hj with rfl | rfl | rfl
      · rw [q_d1_ne (by omega), q_d1_ne (by omega), q_d1_eq, k.1]
      · rw [q_d1_ne (by omega), q_d1_eq, k.2.1]
      · rw [q_d1_eq, k.2.2]
    · unfold q_dO
      rw [q_d1_ne (by omega), q_d1_ne (by omega), q_d1_ne (by omega)]
  | d + 1, i, p, E, hi, h => by
    rw [w_cn] at h
    obtain ⟨p', a1, a2, a3⟩ := w_oa1 (E := E) (c := i) (v i) hN (by omega) h
    have k := w_E_at e i
    obtain ⟨x, E', b1, b2, b3, b4⟩ := w_oos hN v d (i + 1) p' (q_dO i E (e i).1 (if (e i).1 < 6 then (e i).2.1 else 0) (if (e i).1 < 3 then (e i).2.2 else 0)) (by omega) a2
    refine ⟨x, E', ?_, fun j h1 h2 => ?_, fun j h1 => ?_, a3⟩
    · rw [q_oo_go h.le (by omega) (by rw [a1]) (by rw [a1, b4]; decide), a1]
      dsimp only
      rw [b1]
      congr 3
      omega
    · by_cases c : 3 * (i + 1) ≤ j
      · exact b2 j c (by omega)
      · rw [b3 j (by omega)]
        unfold q_dO
        have hj : j = 3 * i ∨ j = 3 * i + 1 ∨ j = 3 * i + 2 := by omega
        rcases hj with rfl | rfl | rfl
        · rw [q_d1_ne (by omega), q_d1_ne (by omega), q_d1_eq, k.1]
        · rw [q_d1_ne (by omega), q_d1_eq, k.2.1]
        · rw [q_d1_eq, k.2.2]
    · rw [b3 j (by omega)]
      unfold q_dO
      rw [q_d1_ne (by omega), q_d1_ne (by omega), q_d1_ne (by omega)]
theorem q_dds_cg {E E' D O : Nat → Int} : ∀ m, (∀ j, j < 3 * m → E j = E' j) → q_dds E D O m = q_dds E' D O m
  | 0, _ => rfl
  | m + 1, h => by
    rw [q_dds, q_dds, q_dds_cg m (fun j hj => h j (by omega)), h _ (by omega), h _ (by omega), h _ (by omega)]
/-- what orders gives of a batch told -/
theorem w_batch {N : Int} {e : Nat → Int × Int × Int} (hN : N ≤ 900) (v : ∀ i, w_ev N (e i).1 (e i).2.1 (e i).2.2) (m : Nat) (hm : 1 ≤ m ∧ m ≤ 12) : (w_oo (w_sn (w_go e) m) N).2.1 = 0 ∧ (w_oo (w_sn (w_go e) m) N).2.2.1 = m ∧ ∀ D O, q_dds (w_oo (w_sn (w_go e) m) N).2.2.2 D O m = q_dds (w_E e) D O m := by
  obtain ⟨d, rfl⟩ : ∃ d, m = d + 1 := ⟨m - 1, by omega⟩
  have h := w_sf0 (w_sn (w_go e) (d + 1))
  obtain ⟨T, hT⟩ : ∃ T, T = (w_sn (w_go e) (d + 1)).length := ⟨_, rfl⟩
  have h2 : w_sf (w_fn (w_sn (w_go e) (d + 1))) T 0 (w_cn (w_go e) (d + 1) 0) := by
    rw [hT, ← w_sc0]
    exact h
  obtain ⟨x, E', b1, b2, -⟩ := w_oos hN v d 0 0 q_D0 (by omega) h2
  unfold w_oo q_or
  rw [← hT, b1]
  exact ⟨rfl, by show 0 + d + 1 = d + 1; omega, fun D O => q_dds_cg _ (fun j hj => b2 j (by omega) (by omega))⟩
theorem w_none (N : Int) : ¬ (w_oo [] N).2.1 = 0 ∧ q_ts (w_fn []) 0 (w_oo [] N).1 = 0 := by
  have tk : q_tk (w_fn []) 0 0 = 0 := w_tkT
  have oa : ∀ E, q_oa (w_fn []) 0 N 0 0 E = (0, 1, 0, E) := fun E => by
    unfold q_oa
    have : q_ord (w_fn []) 0 0 = -1 := by
      unfold q_ord
      simp only [q_ordn]
      decide
    rw [this, if_pos (by omega)]
  have e : w_oo [] N = (0, 1, 0, q_D0) := by
    unfold w_oo q_or
    show q_oo (w_fn []) 0 N 0 0 q_D0 = _
    rw [q_oo_end (by rw [oa]; exact fun q => absurd q.1 (by decide)), oa]
  rw [e]
  exact ⟨by decide, rfl⟩
theorem w_dd_e {D O : Nat → Int} {o t n : Int} (ho : 0 ≤ o ∧ o ≤ 7) : q_ddD D o t.toNat n = q_ddD D o (if o < 6 then t else 0).toNat (if o < 3 then n else 0) ∧ q_ddO D O o t.toNat n = q_ddO D O o (if o < 6 then t else 0).toNat (if o < 3 then n else 0) := by
  have p : q_pl o t.toNat = q_pl o (if o < 6 then t else 0).toNat := by
    by_cases c : o < 6
    · rw [if_pos c]
    · unfold q_pl
      rw [if_neg (by omega), if_neg (by omega), if_neg (by omega), if_neg (by omega), if_neg (by omega), if_neg (by omega), if_neg (by omega), if_neg (by omega)]
  have nw : ∀ v, q_new o n v = q_new o (if o < 3 then n else 0) v := fun v => by
    by_cases c : o < 3
    · rw [if_pos c]
    · unfold q_new
      rw [if_neg (by omega), if_neg (by omega), if_neg (by omega), if_neg (show ¬ o = 0 by omega), if_neg (show ¬ o = 1 by omega), if_neg (show ¬ o = 2 by omega)]
  unfold q_ddD q_ddO
  rw [← p]
  simp only [nw, and_self]
