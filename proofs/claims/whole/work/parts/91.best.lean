/-! the cheapest cuts: which row of steps is the best -/
def q_mb (V : Nat → Bool) (S P : Nat → Int) : Nat → Int × Int × Int
  | 0 => (-1, 0, 0)
  | n + 1 => if V n = true ∧ ((q_mb V S P n).1 < 0 ∨ S n < (q_mb V S P n).2.1 ∨ (S n = (q_mb V S P n).2.1 ∧ (q_mb V S P n).2.2 < P n)) then ((n : Int), S n, P n) else q_mb V S P n
def q_bs (V : Nat → Bool) (S P : Nat → Int) (m : Int) : Nat → Int × Int
  | 0 => (-1, -1)
  | n + 1 => if V n = true ∧ S n = m ∧ (q_bs V S P m n).2 < P n then ((n : Int), P n) else q_bs V S P m n
def q_cs (V : Nat → Bool) (S P : Nat → Int) (N : Nat) : Nat → Nat → Int
  | 0, _ => -1
  | d + 1, m => if 0 ≤ (q_bs V S P m N).1 then (q_bs V S P m N).1 else q_cs V S P N d (m + 1)
theorem q_mb_inv {V : Nat → Bool} {S P : Nat → Int} : ∀ n : Nat, ((q_mb V S P n).1 = -1 ∧ ∀ s, s < n → ¬ V s = true) ∨ (∃ b : Nat, q_mb V S P n = ((b : Int), S b, P b) ∧ b < n ∧ V b = true ∧ ∀ s, s < n → V s = true → S b ≤ S s ∧ (S s = S b → P s ≤ P b ∧ (P s = P b → b ≤ s)))
  | 0 => Or.inl ⟨rfl, fun s h => absurd h (by omega)⟩
  | n + 1 => by
    rw [q_mb]
    by_cases c : V n = true ∧ ((q_mb V S P n).1 < 0 ∨ S n < (q_mb V S P n).2.1 ∨ (S n = (q_mb V S P n).2.1 ∧ (q_mb V S P n).2.2 < P n))
    · rw [if_pos c]
      right
      refine ⟨n, rfl, by omega, c.1, fun s hs hv => ?_⟩
      by_cases e : s = n
      · subst e
        exact ⟨Int.le_refl _, fun _ => ⟨Int.le_refl _, fun _ => Nat.le_refl _⟩⟩
      · rcases q_mb_inv (V := V) (S := S) (P := P) n with ⟨i1, i2⟩ | ⟨b, i1, i2, i3, i4⟩
        · exact absurd hv (i2 s (by omega))
        · rw [i1] at c
          have q := i4 s (by omega) hv
          rcases c.2 with c2 | c2 | ⟨c2, c3⟩
          · have : (b : Int) < 0 := c2
            omega
          · have c2 : S n < S b := c2
            exact ⟨by omega, fun e => by omega⟩
          · have c2 : S n = S b := c2
            have c3 : P b < P n := c3
            refine ⟨by omega, fun e => ?_⟩
            have q2 := q.2 (by omega)
            exact ⟨by omega, fun e => by omega⟩
    · rw [if_neg c]
      rcases q_mb_inv (V := V) (S := S) (P := P) n with ⟨i1, i2⟩ | ⟨b, i1, i2, i3, i4⟩
      · left
        refine ⟨i1, fun s hs hv => ?_⟩
        by_cases e : s = n
        · subst e
          exact c ⟨hv, Or.inl (by omega)⟩
        · exact i2 s (by omega) hv
      · right
        refine ⟨b, i1, by omega, i3, fun s hs hv => ?_⟩
        by_cases e : s = n
        · subst e
          rw [i1] at c
          have c1 : ¬ S s < S b := fun q => c ⟨hv, Or.inr (Or.inl q)⟩
          have c2 : ¬ (S s = S b ∧ P b < P s) := fun q => c ⟨hv, Or.inr (Or.inr q)⟩
          exact ⟨by omega, fun e => ⟨by omega, fun _ => by omega⟩⟩
        · exact i4 s (by omega) hv
theorem q_bs_inv {V : Nat → Bool} {S P : Nat → Int} (hP : ∀ s, V s = true → 0 ≤ P s) {m : Int} : ∀ n : Nat, (q_bs V S P m n = (-1, -1) ∧ ∀ s, s < n → V s = true → ¬ S s = m) ∨ (∃ b : Nat, q_bs V S P m n = ((b : Int), P b) ∧ b < n ∧ V b = true ∧ S b = m ∧ ∀ s, s < n → V s = true → S s = m → P s ≤ P b ∧ (P s = P b → b ≤ s))
  | 0 => Or.inl ⟨rfl, fun s h => absurd h (by omega)⟩
  | n + 1 => by
    rw [q_bs]
    by_cases c : V n = true ∧ S n = m ∧ (q_bs V S P m n).2 < P n
    · rw [if_pos c]
      right
      refine ⟨n, rfl, by omega, c.1, c.2.1, fun s hs hv hm => ?_⟩
      by_cases e : s = n
      · subst e
        exact ⟨Int.le_refl _, fun _ => Nat.le_refl _⟩
      · rcases q_bs_inv hP (m := m) n with ⟨i1, i2⟩ | ⟨b, i1, i2, i3, i4, i5⟩
        · exact absurd hm (i2 s (by omega) hv)
        · rw [i1] at c
          have c3 : P b < P n := c.2.2
          have q := i5 s (by omega) hv hm
          exact ⟨by omega, fun e => by omega⟩
    · rw [if_neg c]
      rcases q_bs_inv hP (m := m) n with ⟨i1, i2⟩ | ⟨b, i1, i2, i3, i4, i5⟩
      · left
        refine ⟨i1, fun s hs hv hm => ?_⟩
        by_cases e : s = n
        · subst e
          rw [i1] at c
          have := hP s hv
          exact c ⟨hv, hm, by show (-1 : Int) < P s; omega⟩
        · exact i2 s (by omega) hv hm
      · right
        refine ⟨b, i1, by omega, i3, i4, fun s hs hv hm => ?_⟩
        by_cases e : s = n
        · subst e
          rw [i1] at c
          have c1 : ¬ P b < P s := fun q => c ⟨hv, hm, q⟩
          exact ⟨by omega, fun _ => by omega⟩
        · exact i5 s (by omega) hv hm
theorem q_cs_none {V : Nat → Bool} {S P : Nat → Int} {N : Nat} (hP : ∀ s, V s = true → 0 ≤ P s) (h : ∀ s, s < N → ¬ V s = true) : ∀ d m : Nat, q_cs V S P N d m = -1
  | 0, _ => rfl
  | d + 1, m => by
    rw [q_cs]
    rcases q_bs_inv hP (S := S) (m := (m : Int)) N with ⟨i1, i2⟩ | ⟨b, i1, i2, i3, i4⟩
    · rw [i1, if_neg (by show ¬ (0 : Int) ≤ -1; omega)]
      exact q_cs_none hP h d (m + 1)
    · exact absurd i3 (h b i2)
theorem q_cs_some {V : Nat → Bool} {S P : Nat → Int} {N b : Nat} (hP : ∀ s, V s = true → 0 ≤ P s) (hb : b < N) (hv : V b = true) (h : ∀ s, s < N → V s = true → S b ≤ S s ∧ (S s = S b → P s ≤ P b ∧ (P s = P b → b ≤ s))) : ∀ d m : Nat, (m : Int) ≤ S b → S b < (m : Int) + d → q_cs V S P N d m = b
  | 0, m, h1, h2 => by omega
  | d + 1, m, h1, h2 => by
    rw [q_cs]
    rcases q_bs_inv hP (S := S) (m := (m : Int)) N with ⟨i1, i2⟩ | ⟨c, i1, i2, i3, i4, i5⟩
    · rw [i1, if_neg (by show ¬ (0 : Int) ≤ -1; omega)]
      have := i2 b hb hv
      exact q_cs_some hP hb hv h d (m + 1) (by omega) (by omega)
    · have q := h c i2 i3
      rw [i1, if_pos (by show (0 : Int) ≤ (c : Int); omega)]
      show (c : Int) = b
      have q2 := q.2 (by omega)
      have q3 := i5 b hb hv (by omega)
      have e : P b = P c := by omega
      have := q2.2 (by omega)
      have := q3.2 e
      omega
/-- both searches find the same -/
theorem q_cs_mb {V : Nat → Bool} {S P : Nat → Int} {N : Nat} (hP : ∀ s, V s = true → 0 ≤ P s) (hS : ∀ s, s < N → 0 ≤ S s ∧ S s ≤ 15) : q_cs V S P N 16 0 = (q_mb V S P N).1 := by
  rcases q_mb_inv (V := V) (S := S) (P := P) N with ⟨i1, i2⟩ | ⟨b, i1, i2, i3, i4⟩
  · rw [i1]
    exact q_cs_none hP i2 16 0
  · rw [i1]
    have := hS b i2
    exact q_cs_some hP i2 i3 i4 16 0 (by omega) (by omega)
theorem q_mb_cg {V V' : Nat → Bool} {S S' P P' : Nat → Int} : ∀ n : Nat, (∀ s, s < n → V s = V' s) → (∀ s, s < n → S s = S' s) → (∀ s, s < n → V s = true → P s = P' s) → q_mb V S P n = q_mb V' S' P' n
  | 0, _, _, _ => rfl
  | n + 1, h1, h2, h3 => by
    rw [q_mb, q_mb, q_mb_cg n (fun s hs => h1 s (by omega)) (fun s hs => h2 s (by omega)) (fun s hs => h3 s (by omega)), h1 n (by omega), h2 n (by omega)]
    by_cases c : V' n = true
    · rw [h3 n (by omega) (by rw [h1 n (by omega)]; exact c)]
    · rw [if_neg (fun q => c q.1), if_neg (fun q => c q.1)]
/-! a wood with its wires cut -/
def q_ctE (E D : Nat → Int) (l : Nat → Nat) (c st : Nat) (s : Int) : Nat → (Nat → Int)
  | 0 => E
  | i + 1 => q_d1 (q_ctE E D l c st s i) (6 + 6 * l i + 0) (D (6 + 6 * l i + 0) - s * (q_dg st (c - 1 - i) : Int))
def q_ctv (D : Nat → Int) (l : Nat → Nat) (c st : Nat) (s : Int) (n : Nat) : Prop := ∀ i : Nat, i < n → 10 ≤ D (6 + 6 * l i + 0) - s * (q_dg st (c - 1 - i) : Int)
theorem q_ct_miss {E D : Nat → Int} {l : Nat → Nat} {c st : Nat} {s : Int} {j : Nat} : ∀ n : Nat, (∀ i, i < n → j ≠ 6 + 6 * l i + 0) → q_ctE E D l c st s n j = E j
  | 0, _ => rfl
  | n + 1, h => by rw [q_ctE, q_d1_ne (h n (by omega)), q_ct_miss n (fun i hi => h i (by omega))]
theorem q_ct_hit {E D : Nat → Int} {l : Nat → Nat} {c st : Nat} {s : Int} {i : Nat} : ∀ n : Nat, i < n → (∀ k, k < n → l k = l i → k = i) → q_ctE E D l c st s n (6 + 6 * l i + 0) = D (6 + 6 * l i + 0) - s * (q_dg st (c - 1 - i) : Int)
  | 0, h, _ => absurd h (by omega)
  | n + 1, h, hi => by
    rw [q_ctE]
    by_cases e : i = n
    · subst e
      exact q_d1_eq
    · have : l n ≠ l i := fun q => e (hi n (by omega) q).symm
      rw [q_d1_ne (by omega)]
      exact q_ct_hit n (by omega) (fun k hk => hi k (by omega))
theorem q_ct_cg {E E' D : Nat → Int} {l : Nat → Nat} {c st : Nat} {s : Int} {j : Nat} : ∀ n : Nat, ((∀ i, i < n → j ≠ 6 + 6 * l i + 0) → E j = E' j) → q_ctE E D l c st s n j = q_ctE E' D l c st s n j
  | 0, h => h (fun i hi => absurd hi (by omega))
  | n + 1, h => by
    rw [q_ctE, q_ctE]
    by_cases e : j = 6 + 6 * l n + 0
    · subst e
      rw [q_d1_eq, q_d1_eq]
    · rw [q_d1_ne e, q_d1_ne e]
      exact q_ct_cg n (fun q => h (fun i hi => by
        by_cases k : i = n
        · rw [k]; exact e
        · exact q i (by omega)))
theorem q_ct_ok {D : Nat → Int} {l : Nat → Nat} {c st : Nat} {s : Int} (k : q_Dok D) (hs : 0 ≤ s) : ∀ n : Nat, (∀ i, i < n → (l i : Int) < D 0) → q_ctv D l c st s n → q_Dok (q_ctE D D l c st s n) ∧ q_ctE D D l c st s n 0 = D 0
  | 0, _, _ => ⟨k, rfl⟩
  | n + 1, hl, hv => by
    obtain ⟨i1, i2⟩ := q_ct_ok k hs n (fun i hi => hl i (by omega)) (fun i hi => hv i (by omega))
    have q := k.2.1 (l n) (hl n (by omega))
    have v := hv n (by omega)
    have p : 0 ≤ s * (q_dg st (c - 1 - n) : Int) := Int.mul_nonneg hs (Int.natCast_nonneg _)
    rw [q_ctE]
    refine ⟨q_Dok_f i1 (by rw [i2]; exact hl n (by omega)) (by omega) ⟨fun _ => by omega, fun e => by omega, fun e => by omega, fun e => by omega, fun e => by omega⟩, ?_⟩
    rw [q_d1_ne (by omega)]
    exact i2
theorem q_ls_inc {f : Nat → Bool} : ∀ (n i j : Nat), i < j → j < (q_ls f n).length → (q_ls f n).getD i 0 < (q_ls f n).getD j 0
  | 0, i, j, _, h => absurd h (by rw [q_ls]; exact Nat.not_lt_zero _)
  | n + 1, i, j, hij, h => by
    rw [q_ls] at h ⊢
    by_cases c : f n = true
    · rw [if_pos c] at h ⊢
      rw [List.length_append] at h
      simp only [List.length_cons, List.length_nil] at h
      have ei : (q_ls f n ++ [n]).getD i 0 = (q_ls f n).getD i 0 := by
        rw [List.getD_eq_getElem?_getD, List.getD_eq_getElem?_getD, List.getElem?_append_left (by omega)]
      rw [ei]
      by_cases e : j = (q_ls f n).length
      · have ej : (q_ls f n ++ [n]).getD j 0 = n := by
          rw [List.getD_eq_getElem?_getD, List.getElem?_append_right (by omega), e, Nat.sub_self]
          rfl
        rw [ej]
        exact (q_ls_mem n _ (q_getD_mem (by omega))).1
      · have ej : (q_ls f n ++ [n]).getD j 0 = (q_ls f n).getD j 0 := by
          rw [List.getD_eq_getElem?_getD, List.getD_eq_getElem?_getD, List.getElem?_append_left (by omega)]
        rw [ej]
        exact q_ls_inc n i j hij (by omega)
    · rw [if_neg c] at h ⊢
      exact q_ls_inc n i j hij h
theorem q_ls_inj {f : Nat → Bool} {n i j : Nat} (hi : i < (q_ls f n).length) (hj : j < (q_ls f n).length) (e : (q_ls f n).getD i 0 = (q_ls f n).getD j 0) : i = j := by
  rcases Nat.lt_trichotomy i j with h | h | h
  · have := q_ls_inc n i j h hj; omega
  · exact h
  · have := q_ls_inc n j i h hi; omega
theorem q_dg_0 {s c n : Nat} (h : s < 4 ^ c) (hn : c ≤ n) : q_dg s n = 0 := by
  unfold q_dg
  rw [Nat.div_eq_of_lt (Nat.lt_of_lt_of_le h (Nat.pow_le_pow_right (by decide) hn))]
theorem q_dsum_ext {s c : Nat} (h : s < 4 ^ c) : ∀ d : Nat, q_dsum s (c + d) = q_dsum s c
  | 0 => rfl
  | d + 1 => by
    show q_dsum s ((c + d) + 1) = _
    rw [q_dsum, q_dsum_ext h d, q_dg_0 h (by omega), Nat.add_zero]
/-- all of it, of the numbers of a wood -/
def q_chl (D : Nat → Int) (a : Nat) : Nat → Nat := fun i => (q_lsD D a).getD i 0
def q_chc (D : Nat → Int) (a : Nat) : Nat := min 5 (q_lsD D a).length
def q_chD (D : Nat → Int) (a : Nat) (s : Int) (st : Nat) : Nat → Int := q_ctE D D (q_chl D a) (q_chc D a) st s (q_chc D a)
noncomputable def q_chV (D : Nat → Int) (a : Nat) (s x t : Int) (st : Nat) : Bool := @decide (q_ctv D (q_chl D a) (q_chc D a) st s (q_chc D a) ∧ q_slD (q_chD D a s st) a t ≤ x) (Classical.propDecidable _)
def q_chP (D : Nat → Int) (a b : Nat) (s t : Int) (st : Nat) : Int := q_slD (q_chD D a s st) b t
def q_chS (st : Nat) : Int := (q_dsum st 5 : Nat)
noncomputable def q_chB (D : Nat → Int) (a b : Nat) (s x t : Int) : Int × Int × Int := q_mb (q_chV D a s x t) q_chS (q_chP D a b s t) (4 ^ q_chc D a)
theorem q_chV_iff {D : Nat → Int} {a : Nat} {s x t : Int} {st : Nat} : q_chV D a s x t st = true ↔ q_ctv D (q_chl D a) (q_chc D a) st s (q_chc D a) ∧ q_slD (q_chD D a s st) a t ≤ x := by
  unfold q_chV
  exact @decide_eq_true_iff _ (Classical.propDecidable _)
theorem q_chl_in {D : Nat → Int} {a i : Nat} (h : i < q_chc D a) : (q_chl D a i : Int) < D 0 := q_lsD_mem (by unfold q_chc at h; omega)
theorem q_slD_in {D : Nat → Int} {w : Nat} {t : Int} (k : q_Dok D) : 0 ≤ q_slD D w t ∧ q_slD D w t ≤ 22 := by
  have d := q_dp_in (q_c_in (fun i => q_tnD D ((q_lsD D w).getD i 0)) (fun j => D (96 + j)) t) (q_lsD D w).length (D 2).toNat
  have ll := q_lsD_len (w := w) k
  have k2 := k.1.2.2.1
  unfold q_slD
  omega
noncomputable def q_gCheapest (a b s x t w : Int) (τ : zM) : Int := if ¬ ((0 ≤ a ∧ a < τ 93 1) ∧ (0 ≤ b ∧ b < τ 93 1) ∧ (1 ≤ s ∧ s ≤ 20) ∧ (0 ≤ x ∧ x ≤ 20) ∧ (0 ≤ t ∧ t ≤ 99) ∧ 0 ≤ w ∧ w ≤ 2) then -1000001 else if (q_chB (τ 93) a.toNat b.toNat s x t).1 < 0 then -1000000 else if w = 0 then (q_chB (τ 93) a.toNat b.toNat s x t).2.1 else if w = 1 then (q_chB (τ 93) a.toNat b.toNat s x t).2.2 else (q_chB (τ 93) a.toNat b.toNat s x t).1
