/-! an order is done, or taken back, in the numbers of a wood -/
theorem q_d1_eq {D : Nat → Int} {i : Nat} {v : Int} : q_d1 D i v i = v := if_pos rfl
theorem q_d1_ne {D : Nat → Int} {i j : Nat} {v : Int} (h : j ≠ i) : q_d1 D i v j = D j := if_neg h
theorem q_Dok_f {D : Nat → Int} (k : q_Dok D) {t f : Nat} {v : Int} (ht : (t : Int) < D 0) (hf : f < 6) (hv : (f = 0 → 10 ≤ v ∧ v ≤ 999) ∧ (f = 1 → 1 ≤ v ∧ v ≤ 20) ∧ (f = 2 → 0 ≤ v ∧ v ≤ 7) ∧ (f = 3 → 0 ≤ v ∧ v ≤ 5) ∧ (4 ≤ f → 0 ≤ v ∧ v ≤ 1)) : q_Dok (q_d1 D (6 + 6 * t + f) v) := by
  obtain ⟨⟨a0, a1, a2, a4, a5⟩, hT, hW, hJ⟩ := k
  have ne : ∀ j, j ≠ 6 + 6 * t + f → q_d1 D (6 + 6 * t + f) v j = D j := fun j hj => if_neg hj
  unfold q_Dok
  rw [ne 0 (by omega), ne 1 (by omega), ne 2 (by omega), ne 4 (by omega), ne 5 (by omega)]
  refine ⟨⟨a0, a1, a2, a4, a5⟩, fun t' h1 => ?_, fun w h1 => ?_, fun j h1 => ?_⟩
  · have q := hT t' h1
    by_cases e : t' = t
    · subst e
      have hf : f = 0 ∨ f = 1 ∨ f = 2 ∨ f = 3 ∨ f = 4 ∨ f = 5 := by omega
      rcases hf with rfl | rfl | rfl | rfl | rfl | rfl
      · rw [q_d1_eq, ne _ (by omega), ne _ (by omega), ne _ (by omega), ne _ (by omega), ne _ (by omega)]
        exact ⟨by omega, q.2⟩
      · rw [q_d1_eq, ne _ (by omega), ne _ (by omega), ne _ (by omega), ne _ (by omega), ne _ (by omega)]
        exact ⟨q.1, by omega, q.2.2⟩
      · rw [q_d1_eq, ne _ (by omega), ne _ (by omega), ne _ (by omega), ne _ (by omega), ne _ (by omega)]
        exact ⟨q.1, q.2.1, by omega, q.2.2.2⟩
      · rw [q_d1_eq, ne _ (by omega), ne _ (by omega), ne _ (by omega), ne _ (by omega), ne _ (by omega)]
        exact ⟨q.1, q.2.1, q.2.2.1, by omega, q.2.2.2.2⟩
      · rw [q_d1_eq, ne _ (by omega), ne _ (by omega), ne _ (by omega), ne _ (by omega), ne _ (by omega)]
        exact ⟨q.1, q.2.1, q.2.2.1, q.2.2.2.1, by omega, q.2.2.2.2.2⟩
      · rw [q_d1_eq, ne _ (by omega), ne _ (by omega), ne _ (by omega), ne _ (by omega), ne _ (by omega)]
        exact ⟨q.1, q.2.1, q.2.2.1, q.2.2.2.1, q.2.2.2.2.1, by omega⟩
    · rw [ne _ (by omega), ne _ (by omega), ne _ (by omega), ne _ (by omega), ne _ (by omega), ne _ (by omega)]
      exact q
  · rw [ne _ (by omega), ne _ (by omega), ne _ (by omega)]
    exact hW w h1
  · rw [ne _ (by omega)]
    exact hJ j h1
theorem q_Dok_wet {D : Nat → Int} (k : q_Dok D) {v : Int} (hv : 0 ≤ v ∧ v ≤ 1) : q_Dok (q_d1 D 4 v) := by
  obtain ⟨⟨a0, a1, a2, a4, a5⟩, hT, hW, hJ⟩ := k
  have ne : ∀ j, j ≠ 4 → q_d1 D 4 v j = D j := fun j hj => if_neg hj
  unfold q_Dok
  rw [ne 0 (by omega), ne 1 (by omega), ne 2 (by omega), q_d1_eq, ne 5 (by omega)]
  refine ⟨⟨a0, a1, a2, hv, a5⟩, fun t' h1 => ?_, fun w h1 => ?_, fun j h1 => ?_⟩
  · rw [ne _ (by omega), ne _ (by omega), ne _ (by omega), ne _ (by omega), ne _ (by omega), ne _ (by omega)]
    exact hT t' h1
  · rw [ne _ (by omega), ne _ (by omega), ne _ (by omega)]
    exact hW w h1
  · rw [ne _ (by omega)]
    exact hJ j h1
theorem q_Dok_cnt {D : Nat → Int} (k : q_Dok D) {v : Int} (hv : 0 ≤ v ∧ v ≤ 60) : q_Dok (q_d1 D 5 v) := by
  obtain ⟨⟨a0, a1, a2, a4, a5⟩, hT, hW, hJ⟩ := k
  have ne : ∀ j, j ≠ 5 → q_d1 D 5 v j = D j := fun j hj => if_neg hj
  unfold q_Dok
  rw [ne 0 (by omega), ne 1 (by omega), ne 2 (by omega), ne 4 (by omega), q_d1_eq]
  refine ⟨⟨a0, a1, a2, a4, hv⟩, fun t' h1 => ?_, fun w h1 => ?_, fun j h1 => ?_⟩
  · rw [ne _ (by omega), ne _ (by omega), ne _ (by omega), ne _ (by omega), ne _ (by omega), ne _ (by omega)]
    exact hT t' h1
  · rw [ne _ (by omega), ne _ (by omega), ne _ (by omega)]
    exact hW w h1
  · rw [ne _ (by omega)]
    exact hJ j h1
/-- the place of an order, by its five kinds -/
theorem q_pl_cases (o : Int) (t : Nat) (ho : 0 ≤ o ∧ o ≤ 7) : (o < 2 ∧ q_pl o t = 6 + 6 * (t : Int) ∧ (q_pl o t).toNat = 6 + 6 * t + 0) ∨ (o = 2 ∧ q_pl o t = 6 + 6 * (t : Int) + 2 ∧ (q_pl o t).toNat = 6 + 6 * t + 2) ∨ ((o = 3 ∨ o = 4) ∧ q_pl o t = 6 + 6 * (t : Int) + 4 ∧ (q_pl o t).toNat = 6 + 6 * t + 4) ∨ (o = 5 ∧ q_pl o t = 6 + 6 * (t : Int) + 5 ∧ (q_pl o t).toNat = 6 + 6 * t + 5) ∨ ((o = 6 ∨ o = 7) ∧ q_pl o t = 4 ∧ (q_pl o t).toNat = 4) := by
  unfold q_pl
  split
  · omega
  · split
    · omega
    · split
      · omega
      · split <;> omega
theorem q_Dok_pl {D : Nat → Int} (k : q_Dok D) {o v : Int} {t : Nat} (ho : 0 ≤ o ∧ o ≤ 7) (ht : (t : Int) < D 0) (hv : (o < 2 → 10 ≤ v ∧ v ≤ 999) ∧ (o = 2 → 0 ≤ v ∧ v ≤ 7) ∧ (3 ≤ o → 0 ≤ v ∧ v ≤ 1)) : q_Dok (q_d1 D (q_pl o t).toNat v) := by
  rcases q_pl_cases o t ho with ⟨e, -, e2⟩ | ⟨e, -, e2⟩ | ⟨e, -, e2⟩ | ⟨e, -, e2⟩ | ⟨e, -, e2⟩ <;> rw [e2]
  · exact q_Dok_f k ht (by omega) (by omega)
  · exact q_Dok_f k ht (by omega) (by omega)
  · exact q_Dok_f k ht (by omega) (by omega)
  · exact q_Dok_f k ht (by omega) (by omega)
  · exact q_Dok_wet k (by omega)
theorem q_Dok_at {D : Nat → Int} (k : q_Dok D) {o : Int} {t : Nat} (ho : 0 ≤ o ∧ o ≤ 7) (ht : (t : Int) < D 0) : (o < 2 → 10 ≤ D (q_pl o t).toNat ∧ D (q_pl o t).toNat ≤ 999) ∧ (o = 2 → 0 ≤ D (q_pl o t).toNat ∧ D (q_pl o t).toNat ≤ 7) ∧ (3 ≤ o → 0 ≤ D (q_pl o t).toNat ∧ D (q_pl o t).toNat ≤ 1) := by
  have q := k.2.1 t ht
  have q4 := k.1.2.2.2.1
  rcases q_pl_cases o t ho with ⟨e, -, e2⟩ | ⟨e, -, e2⟩ | ⟨e, -, e2⟩ | ⟨e, -, e2⟩ | ⟨e, -, e2⟩ <;> rw [e2] <;> omega
theorem q_clamp (x : Int) : 10 ≤ max 10 (min 999 x) ∧ max 10 (min 999 x) ≤ 999 := ⟨Int.le_max_left _ _, Int.max_le.mpr ⟨by decide, Int.min_le_left _ _⟩⟩
theorem q_new_in {o n v : Int} (ho : 0 ≤ o ∧ o ≤ 7) (hn : o = 2 → 0 ≤ n ∧ n ≤ 7) : (o < 2 → 10 ≤ q_new o n v ∧ q_new o n v ≤ 999) ∧ (o = 2 → 0 ≤ q_new o n v ∧ q_new o n v ≤ 7) ∧ (3 ≤ o → 0 ≤ q_new o n v ∧ q_new o n v ≤ 1) := by
  have h : o = 0 ∨ o = 1 ∨ o = 2 ∨ o = 3 ∨ o = 4 ∨ o = 5 ∨ o = 6 ∨ o = 7 := by omega
  rcases h with rfl | rfl | rfl | rfl | rfl | rfl | rfl | rfl <;> simp only [q_new, Int.reduceEq, ↓reduceIte]
  · exact ⟨fun _ => q_clamp _, fun e => by first | exact e.elim | omega, fun e => by first | exact e.elim | omega⟩
  · exact ⟨fun _ => q_clamp _, fun e => by first | exact e.elim | omega, fun e => by first | exact e.elim | omega⟩
  all_goals refine ⟨fun h => ?_, fun h => ?_, fun h => ?_⟩ <;> omega
def q_ddD (D : Nat → Int) (o : Int) (t : Nat) (n : Int) : Nat → Int := q_d1 (q_d1 D (q_pl o t).toNat (q_new o n (D (q_pl o t).toNat))) 5 (D 5 + 1)
def q_ddO (D O : Nat → Int) (o : Int) (t : Nat) (n : Int) : Nat → Int := q_d1 (q_d1 (q_d1 O (3 * (D 5).toNat) (q_pl o t)) (3 * (D 5).toNat + 1) (if o < 2 then 1 else 0)) (3 * (D 5).toNat + 2) (if o < 2 then D (q_pl o t).toNat - q_new o n (D (q_pl o t).toNat) else D (q_pl o t).toNat)
theorem q_pl_ne {o : Int} {t : Nat} (ho : 0 ≤ o ∧ o ≤ 7) : (q_pl o t).toNat ≠ 0 ∧ (q_pl o t).toNat ≠ 1 ∧ (q_pl o t).toNat ≠ 2 ∧ (q_pl o t).toNat ≠ 3 ∧ (q_pl o t).toNat ≠ 5 := by
  rcases q_pl_cases o t ho with ⟨e, -, e2⟩ | ⟨e, -, e2⟩ | ⟨e, -, e2⟩ | ⟨e, -, e2⟩ | ⟨e, -, e2⟩ <;> omega
theorem q_ddD_0 {D : Nat → Int} {o n : Int} {t : Nat} (ho : 0 ≤ o ∧ o ≤ 7) : q_ddD D o t n 0 = D 0 ∧ q_ddD D o t n 5 = D 5 + 1 := by
  have p := q_pl_ne (t := t) ho
  unfold q_ddD
  refine ⟨?_, q_d1_eq⟩
  rw [q_d1_ne (by omega), q_d1_ne (by omega)]
theorem q_ddO_at {D O : Nat → Int} {o n : Int} {t c : Nat} (hc : D 5 = c) : q_ddO D O o t n (3 * c) = q_pl o t ∧ q_ddO D O o t n (3 * c + 1) = (if o < 2 then 1 else 0) ∧ q_ddO D O o t n (3 * c + 2) = (if o < 2 then D (q_pl o t).toNat - q_new o n (D (q_pl o t).toNat) else D (q_pl o t).toNat) ∧ ∀ j, j < 3 * c → q_ddO D O o t n j = O j := by
  unfold q_ddO
  rw [hc, Int.toNat_natCast]
  refine ⟨?_, ?_, q_d1_eq, fun j hj => ?_⟩
  · rw [q_d1_ne (by omega), q_d1_ne (by omega), q_d1_eq]
  · rw [q_d1_ne (by omega), q_d1_eq]
  · rw [q_d1_ne (by omega), q_d1_ne (by omega), q_d1_ne (by omega)]
theorem q_W_carry {σ : zM} {b : Nat} {D O : Nat → Int} {h o n : Int} {t : Nat} (w : q_W σ b D O h) (k : q_Dok D) (ho : 0 ≤ o ∧ o ≤ 7) (ht : (t : Int) < D 0) (hc : D 5 < 60) (hn : o = 2 → 0 ≤ n ∧ n ≤ 7) : q_W (q_carry σ b o t n) b (q_ddD D o t n) (q_ddO D O o t n) h := by
  obtain ⟨W, d, h7⟩ := w
  have e5 : σ (b + 12) 3 = D 5 := W.1.2.2.2.2.2.1
  obtain ⟨ep, -⟩ := q_wd_pl W ho ht 0
  have z := q_ddD_0 (D := D) (n := n) (t := t) ho
  have at1 := q_Dok_at k ho ht
  have nw := q_new_in (v := D (q_pl o t).toNat) ho hn
  have cl := q_cl_cases b o t
  have k0 := k.1.1
  obtain ⟨c, hc2⟩ := z_nat k.1.2.2.2.2.1
  unfold q_carry
  rw [ep, e5]
  refine ⟨?_, ?_, ?_⟩
  · have w1 := (q_wd_pl W ho ht (q_new o n (D (q_pl o t).toNat))).2
    have w2 := q_wd_cnt (σ := z_up (z_up (z_up (z_up σ (q_cl b o) (q_ix o t) (q_new o n (D (q_pl o t).toNat))) (b + 13) (D 5).toNat o) (b + 14) (D 5).toNat (t : Int)) (b + 15) (D 5).toNat (q_und o n (D (q_pl o t).toNat))) (v := D 5 + 1) (q_wd_cg w1 (fun c j a1 a2 a3 => by rw [z_up_ne (by omega), z_up_ne (by omega), z_up_ne (by omega)])) (by omega)
    exact w2
  · intro i hi
    rw [z.2] at hi
    rw [z.1]
    obtain ⟨o0, o1, o2, o3⟩ := q_ddO_at (O := O) (o := o) (t := t) (n := n) hc2
    rw [hc2] at hi ⊢
    rw [Int.toNat_natCast]
    by_cases e : i = c
    · subst e
      have e15 : z_up (z_up (z_up (z_up (z_up σ (q_cl b o) (q_ix o t) (q_new o n (D (q_pl o t).toNat))) (b + 13) i o) (b + 14) i (t : Int)) (b + 15) i (q_und o n (D (q_pl o t).toNat))) (b + 12) 3 ((i : Int) + 1) (b + 15) i = q_und o n (D (q_pl o t).toNat) := by rw [z_up_ne (by omega), z_up_eq]
      have e14 : z_up (z_up (z_up (z_up (z_up σ (q_cl b o) (q_ix o t) (q_new o n (D (q_pl o t).toNat))) (b + 13) i o) (b + 14) i (t : Int)) (b + 15) i (q_und o n (D (q_pl o t).toNat))) (b + 12) 3 ((i : Int) + 1) (b + 14) i = t := by rw [z_up_ne (by omega), z_up_ne (by omega), z_up_eq]
      have e13 : z_up (z_up (z_up (z_up (z_up σ (q_cl b o) (q_ix o t) (q_new o n (D (q_pl o t).toNat))) (b + 13) i o) (b + 14) i (t : Int)) (b + 15) i (q_und o n (D (q_pl o t).toNat))) (b + 12) 3 ((i : Int) + 1) (b + 13) i = o := by rw [z_up_ne (by omega), z_up_ne (by omega), z_up_ne (by omega), z_up_eq]
      rw [e13, e14, e15, o0, o1, o2]
      unfold q_und
      by_cases c2 : o < 2
      · rw [if_pos c2, if_pos c2, if_pos c2, if_pos c2]
        have := at1.1 c2
        have := nw.1 c2
        omega
      · rw [if_neg c2, if_neg c2, if_neg c2, if_neg c2]
        have := at1.2
        omega
    · have key : ∀ g, 13 ≤ g → g ≤ 15 → z_up (z_up (z_up (z_up (z_up σ (q_cl b o) (q_ix o t) (q_new o n (D (q_pl o t).toNat))) (b + 13) c o) (b + 14) c (t : Int)) (b + 15) c (q_und o n (D (q_pl o t).toNat))) (b + 12) 3 ((c : Int) + 1) (b + g) i = σ (b + g) i := by
        intro g g1 g2
        rw [z_up_ne (by omega), z_up_ne (by omega), z_up_ne (by omega), z_up_ne (by omega), z_up_ne (by omega)]
      have q := d i (by omega)
      rw [key 13 (by omega) (by omega), key 14 (by omega) (by omega), key 15 (by omega) (by omega), o3 _ (by omega), o3 _ (by omega), o3 _ (by omega)]
      exact q
  · rw [z_up_ne (by omega), z_up_ne (by omega), z_up_ne (by omega), z_up_ne (by omega), z_up_ne (by omega)]
    exact h7
theorem q_Wok_dd {D O : Nat → Int} {h o n : Int} {t : Nat} (w : q_Wok D O h) (ho : 0 ≤ o ∧ o ≤ 7) (ht : (t : Int) < D 0) (hc : D 5 < 60) (hn : o = 2 → 0 ≤ n ∧ n ≤ 7) : q_Wok (q_ddD D o t n) (q_ddO D O o t n) h := by
  obtain ⟨k, d, hh, h1⟩ := w
  have z := q_ddD_0 (D := D) (n := n) (t := t) ho
  have at1 := q_Dok_at k ho ht
  have nw := q_new_in (v := D (q_pl o t).toNat) ho hn
  obtain ⟨c, hc2⟩ := z_nat k.1.2.2.2.2.1
  refine ⟨?_, fun i hi => ?_, hh, by rw [z.1]; exact h1⟩
  · refine q_Dok_cnt (q_Dok_pl k ho ht nw) (by omega)
  · rw [z.2] at hi
    rw [z.1]
    obtain ⟨o0, o1, o2, o3⟩ := q_ddO_at (O := O) (o := o) (t := t) (n := n) hc2
    rw [hc2] at hi
    by_cases e : i = c
    · subst e
      rw [o0, o1, o2]
      rcases q_pl_cases o t ho with ⟨e, e3, e2⟩ | ⟨e, e3, e2⟩ | ⟨e, e3, e2⟩ | ⟨e, e3, e2⟩ | ⟨e, e3, e2⟩
      · left
        refine ⟨t, ht, Or.inl ?_⟩
        rw [if_pos e, if_pos e]
        have := at1.1 e
        have := nw.1 e
        omega
      · left
        refine ⟨t, ht, Or.inr (Or.inl ?_)⟩
        rw [if_neg (by omega), if_neg (by omega)]
        have := at1.2.1 e
        omega
      · left
        refine ⟨t, ht, Or.inr (Or.inr ?_)⟩
        rw [if_neg (by omega), if_neg (by omega)]
        have := at1.2.2 (by omega)
        omega
      · left
        refine ⟨t, ht, Or.inr (Or.inr ?_)⟩
        rw [if_neg (by omega), if_neg (by omega)]
        have := at1.2.2 (by omega)
        omega
      · right
        rw [if_neg (by omega), if_neg (by omega)]
        have := at1.2.2 (by omega)
        omega
    · have q := d i (by omega)
      rw [o3 _ (by omega), o3 _ (by omega), o3 _ (by omega)]
      exact q
/-- the latest order taken back -/
def q_unD (D O : Nat → Int) : Nat → Int := q_d1 (q_d1 D (O (3 * (D 5 - 1).toNat)).toNat (if O (3 * (D 5 - 1).toNat + 1) = 1 then max 10 (min 999 (D (O (3 * (D 5 - 1).toNat)).toNat + O (3 * (D 5 - 1).toNat + 2))) else O (3 * (D 5 - 1).toNat + 2))) 5 (D 5 - 1)
theorem q_dno_ne {D O : Nat → Int} (d : q_dno D O) {i : Nat} (hi : (i : Int) < D 5) (h0 : D 0 ≤ 12) : 0 ≤ O (3 * i) ∧ O (3 * i) < 106 ∧ (O (3 * i)).toNat ≠ 5 ∧ (O (3 * i)).toNat ≠ 0 := by
  rcases d i hi with ⟨t, ht, q | q | q⟩ | q <;> omega
theorem q_unD_0 {D O : Nat → Int} (k : q_Dok D) (d : q_dno D O) (h : 1 ≤ D 5) : q_unD D O 0 = D 0 ∧ q_unD D O 5 = D 5 - 1 := by
  have p := q_dno_ne d (i := (D 5 - 1).toNat) (by omega) k.1.1.2
  unfold q_unD
  refine ⟨?_, q_d1_eq⟩
  rw [q_d1_ne (by omega), q_d1_ne (by omega)]
theorem q_Wok_un {D O : Nat → Int} {h : Int} (w : q_Wok D O h) (h5 : 1 ≤ D 5) : q_Wok (q_unD D O) O h := by
  obtain ⟨k, d, hh, h1⟩ := w
  have z := q_unD_0 k d h5
  refine ⟨?_, fun i hi => ?_, hh, by rw [z.1]; exact h1⟩
  · refine q_Dok_cnt ?_ (by have := k.1.2.2.2.2; omega)
    rcases d (D 5 - 1).toNat (by omega) with ⟨t, ht, q | q | q⟩ | q
    · rw [show (O (3 * (D 5 - 1).toNat)).toNat = 6 + 6 * t + 0 by omega, if_pos q.2.1]
      exact q_Dok_f k ht (by omega) (by omega)
    · rw [show (O (3 * (D 5 - 1).toNat)).toNat = 6 + 6 * t + 2 by omega, if_neg (by omega)]
      exact q_Dok_f k ht (by omega) (by omega)
    · rw [if_neg (by omega)]
      rcases q.1 with e | e
      · rw [show (O (3 * (D 5 - 1).toNat)).toNat = 6 + 6 * t + 4 by omega]
        exact q_Dok_f k ht (by omega) (by omega)
      · rw [show (O (3 * (D 5 - 1).toNat)).toNat = 6 + 6 * t + 5 by omega]
        exact q_Dok_f k ht (by omega) (by omega)
    · rw [show (O (3 * (D 5 - 1).toNat)).toNat = 4 by omega, if_neg (by omega)]
      exact q_Dok_wet k (by omega)
  · rw [z.2] at hi
    rw [z.1]
    exact d i (by omega)
theorem q_W_back {σ : zM} {b : Nat} {D O : Nat → Int} {h : Int} (w : q_W σ b D O h) (k : q_Dok D) (d2 : q_dno D O) (h5 : 1 ≤ D 5) : q_W (q_back σ b) b (q_unD D O) O h := by
  obtain ⟨W, d, h7⟩ := w
  have e5 : σ (b + 12) 3 = D 5 := W.1.2.2.2.2.2.1
  have z := q_unD_0 k d2 h5
  obtain ⟨i, hi⟩ := z_nat (show 0 ≤ D 5 - 1 by omega)
  obtain ⟨⟨ho, ⟨t0, t1⟩, hn⟩, q1, q2, q3⟩ := d i (by omega)
  obtain ⟨t, ht⟩ := z_nat t0
  have hz : ∀ z, σ (b + 2) t = D (6 + 6 * t + 0) ∧ z_up σ (b + 2) t z (b + 2) t = z := fun z => ⟨W.2.1 t 0 (by omega) (by omega), z_up_eq⟩
  unfold q_back
  rw [e5, hi, Int.toNat_natCast, ht, Int.toNat_natCast]
  rw [ht] at q1 t1
  have cl := q_cl_cases b (σ (b + 13) i) t
  have e : q_unD D O = q_d1 (q_d1 D (q_pl (σ (b + 13) i) t).toNat (if σ (b + 13) i < 2 then max 10 (min 999 (σ (b + 2) t + -σ (b + 15) i)) else σ (b + 15) i)) 5 (i : Int) := by
    unfold q_unD
    rw [hi, Int.toNat_natCast, q1, q2, q3]
    by_cases c : σ (b + 13) i < 2
    · rw [if_pos c, if_pos c, if_pos c, if_pos rfl, (hz 0).1]
      rcases q_pl_cases (σ (b + 13) i) t ho with ⟨e, -, e2⟩ | ⟨e, -, e2⟩ | ⟨e, -, e2⟩ | ⟨e, -, e2⟩ | ⟨e, -, e2⟩
      · rw [e2]
      all_goals omega
    · rw [if_neg c, if_neg c, if_neg c, if_neg (by omega)]
  refine ⟨?_, fun j hj => ?_, ?_⟩
  · rw [e]
    exact q_wd_cnt (q_wd_pl W ho t1 _).2 (by have := k.1.2.2.2.2; omega)
  · rw [z.2] at hj
    rw [z.1]
    have q := d j (by omega)
    rw [z_up_ne (by omega), z_up_ne (by omega), z_up_ne (by omega), z_up_ne (by omega), z_up_ne (by omega), z_up_ne (by omega)]
    exact q
  · rw [z_up_ne (by omega), z_up_ne (by omega)]
    exact h7
