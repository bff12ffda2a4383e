/-! sets of trees as bits -/
theorem z_ofN {x : Nat} (hx : x < 2147483648) : (Int32.ofInt x).toBitVec.toNat = x := by
  show ((BitVec.ofInt 32 x)).toNat = x
  rw [BitVec.toNat_ofInt]; omega
theorem z_andn {x y : Nat} (hx : x < 4096) (hy : y < 4096) : (Int32.ofInt x &&& Int32.ofInt (Int32.ofInt y ^^^ Int32.ofInt (-1)).toInt).toInt = 0 ↔ ∀ b, x.testBit b = true → y.testBit b = true := by
  rw [Int32.ofInt_toInt]
  have hX := z_ofN (x := x) (by omega)
  have hY := z_ofN (x := y) (by omega)
  generalize Int32.ofInt (x : Int) = A at hX ⊢
  generalize Int32.ofInt (y : Int) = B at hY ⊢
  have h1 : (A &&& (B ^^^ Int32.ofInt (-1))).toInt = 0 ↔ A.toBitVec &&& (B.toBitVec ^^^ BitVec.allOnes 32) = 0#32 := by
    constructor
    · intro h
      have h2 : (A &&& (B ^^^ Int32.ofInt (-1))).toBitVec = 0#32 := BitVec.eq_of_toInt_eq (by rw [Int32.toInt_toBitVec, h]; rfl)
      rw [Int32.toBitVec_and, Int32.toBitVec_xor] at h2
      exact h2
    · intro h
      rw [← Int32.toInt_toBitVec, Int32.toBitVec_and, Int32.toBitVec_xor]
      show (A.toBitVec &&& (B.toBitVec ^^^ BitVec.allOnes 32)).toInt = 0
      rw [h]
      rfl
  rw [h1]
  constructor
  · intro h b hb
    have h32 : b < 32 := by
      rcases Nat.lt_or_ge b 32 with e | e
      · exact e
      · rw [Nat.testBit_lt_two_pow (Nat.lt_of_lt_of_le (show x < 2 ^ 12 from hx) (Nat.pow_le_pow_right (by decide) (by omega)))] at hb
        cases hb
    have h2 : (A.toBitVec &&& (B.toBitVec ^^^ BitVec.allOnes 32)).getLsbD b = (0#32).getLsbD b := by rw [h]
    rw [BitVec.getLsbD_and, BitVec.getLsbD_xor, BitVec.getLsbD_allOnes, decide_eq_true h32, BitVec.getLsbD_zero] at h2
    have h3 : A.toBitVec.getLsbD b = true := by show A.toBitVec.toNat.testBit b = true; rw [hX]; exact hb
    rw [h3, Bool.true_and, Bool.xor_true] at h2
    have h4 : B.toBitVec.getLsbD b = true := by simpa using h2
    have h5 : B.toBitVec.toNat.testBit b = true := h4
    rw [hY] at h5
    exact h5
  · intro h
    refine BitVec.eq_of_getLsbD_eq (fun b hb => ?_)
    rw [BitVec.getLsbD_and, BitVec.getLsbD_xor, BitVec.getLsbD_allOnes, decide_eq_true hb, BitVec.getLsbD_zero, Bool.xor_true]
    have h3 : A.toBitVec.getLsbD b = x.testBit b := by show A.toBitVec.toNat.testBit b = _; rw [hX]
    have h4 : B.toBitVec.getLsbD b = y.testBit b := by show B.toBitVec.toNat.testBit b = _; rw [hY]
    rw [h3, h4]
    cases e : x.testBit b with
    | false => rfl
    | true => rw [h b e]; rfl
theorem z_shl12 : ∀ y : Nat, y < 13 → (Int32.ofInt 1 <<< (Int32.ofInt (y : Int) &&& 31)).toInt = ((2 ^ y : Nat) : Int) := by decide +kernel
theorem q_ls_in {f : Nat → Bool} : ∀ (n x : Nat), x < n → f x = true → x ∈ q_ls f n
  | 0, _, h, _ => absurd h (by omega)
  | n + 1, x, h, hf => by
    rw [q_ls]
    by_cases c : f n = true
    · rw [if_pos c, List.mem_append]
      by_cases e : x = n
      · right; rw [e]; exact List.mem_singleton.mpr rfl
      · left; exact q_ls_in n x (by omega) hf
    · rw [if_neg c]
      exact q_ls_in n x (by
        rcases Nat.lt_or_ge x n with e | e
        · exact e
        · exfalso
          have : x = n := by omega
          subst this
          exact c hf) hf
theorem q_mem_getD {l : List Nat} {x : Nat} (h : x ∈ l) : ∃ k, k < l.length ∧ l.getD k 0 = x := by
  obtain ⟨k, hk, e⟩ := List.getElem_of_mem h
  refine ⟨k, hk, ?_⟩
  rw [List.getD_eq_getElem?_getD, List.getElem?_eq_getElem hk]
  exact e
def q_cf (s : Nat) (f : Nat → Bool) : Nat → Nat
  | 0 => 0
  | n + 1 => q_cf s f n + if f n = true ∧ s.testBit n = true then 1 else 0
theorem q_gn_cg {s : Nat} {t u : Nat → Nat} : ∀ n : Nat, (∀ k, k < n → t k = u k) → q_gn s t n = q_gn s u n
  | 0, _ => rfl
  | n + 1, h => by rw [q_gn, q_gn, q_gn_cg n (fun k hk => h k (by omega)), h n (by omega)]
theorem q_gn_cf {s : Nat} {f : Nat → Bool} : ∀ n : Nat, q_gn s (fun k => (q_ls f n).getD k 0) (q_ls f n).length = q_cf s f n
  | 0 => rfl
  | n + 1 => by
    have ih := q_gn_cf (s := s) (f := f) n
    rw [q_ls, q_cf]
    by_cases c : f n = true
    · rw [if_pos c, List.length_append]
      show q_gn s _ ((q_ls f n).length + 1) = _
      rw [q_gn]
      have e1 : q_gn s (fun k => (q_ls f n ++ [n]).getD k 0) (q_ls f n).length = q_cf s f n := by
        rw [← ih]
        exact q_gn_cg _ (fun k hk => by simp only [List.getD_eq_getElem?_getD]; rw [List.getElem?_append_left hk])
      have e2 : (q_ls f n ++ [n]).getD (q_ls f n).length 0 = n := by
        rw [List.getD_eq_getElem?_getD, List.getElem?_append_right (Nat.le_refl _), Nat.sub_self]
        rfl
      rw [e1, e2]
      by_cases b : s.testBit n = true
      · rw [if_pos b, if_pos ⟨c, b⟩]
      · rw [if_neg b, if_neg (fun q => b q.2)]
    · rw [if_neg c, ih, if_neg (fun q => c q.1), Nat.add_zero]
theorem q_cf_pop {s : Nat} {f : Nat → Bool} : ∀ n : Nat, q_cf s f n ≤ q_pop s n ∧ (q_cf s f n = q_pop s n ↔ ∀ b, b < n → s.testBit b = true → f b = true)
  | 0 => ⟨Nat.le_refl _, fun _ b hb => absurd hb (by omega), fun _ => rfl⟩
  | n + 1 => by
    obtain ⟨i1, i2⟩ := q_cf_pop (s := s) (f := f) n
    rw [q_cf, q_pop]
    by_cases b : s.testBit n = true
    · rw [if_pos b]
      by_cases c : f n = true
      · rw [if_pos ⟨c, b⟩]
        refine ⟨by omega, fun e x hx hb => ?_, fun e => ?_⟩
        · by_cases xn : x = n
          · rw [xn]; exact c
          · exact i2.mp (by omega) x (by omega) hb
        · have := i2.mpr (fun x hx hb => e x (by omega) hb)
          omega
      · rw [if_neg (fun q => c q.1)]
        refine ⟨by omega, fun e => by omega, fun e => absurd (e n (by omega) b) c⟩
    · rw [if_neg b, if_neg (fun q => b q.2)]
      refine ⟨by omega, fun e x hx hb => ?_, fun e => ?_⟩
      · by_cases xn : x = n
        · rw [xn] at hb; exact absurd hb b
        · exact i2.mp (by omega) x (by omega) hb
      · have := i2.mpr (fun x hx hb => e x (by omega) hb)
        omega
theorem q_cf_ext {s n : Nat} {f : Nat → Bool} : ∀ d : Nat, q_cf s (fun b => f b && decide (b < n)) (n + d) = q_cf s (fun b => f b && decide (b < n)) n
  | 0 => rfl
  | d + 1 => by
    show q_cf s _ ((n + d) + 1) = _
    rw [q_cf, q_cf_ext d, if_neg (fun q => by have := q.1; simp at this; omega), Nat.add_zero]
theorem q_cf_cg {s : Nat} {f g : Nat → Bool} : ∀ n : Nat, (∀ b, b < n → f b = g b) → q_cf s f n = q_cf s g n
  | 0, _ => rfl
  | n + 1, h => by rw [q_cf, q_cf, q_cf_cg n (fun b hb => h b (by omega)), h n (by omega)]
/-- the trees gone are all that the set names, just when it names but trees that are heard -/
theorem q_gn_iff {s n : Nat} {f : Nat → Bool} (hn : n ≤ 12) : q_gn s (fun k => (q_ls f n).getD k 0) (q_ls f n).length = q_pop s 12 ↔ ∀ b, b < 12 → s.testBit b = true → b < n ∧ f b = true := by
  obtain ⟨d, hd⟩ : ∃ d, 12 = n + d := ⟨12 - n, by omega⟩
  have e : q_cf s f n = q_cf s (fun b => f b && decide (b < n)) 12 := by
    rw [hd, q_cf_ext]
    exact q_cf_cg n (fun b hb => by simp [hb])
  rw [q_gn_cf, e, (q_cf_pop 12).2]
  constructor
  · intro h b hb hs
    have := h b hb hs
    simp at this
    exact ⟨this.2, this.1⟩
  · intro h b hb hs
    have := h b hb hs
    simp [this.1, this.2]
def q_hsN (tr : Nat → Nat) : Nat → Nat
  | 0 => 0
  | i + 1 => q_hsN tr i ||| 2 ^ tr i
theorem q_hsN_lt {tr : Nat → Nat} {c : Nat} (h : ∀ i, i < c → tr i < 12) : ∀ i, i ≤ c → q_hsN tr i < 4096
  | 0, _ => Nat.succ_pos _
  | i + 1, hi => by
    rw [q_hsN]
    exact Nat.or_lt_two_pow (n := 12) (q_hsN_lt h i (by omega)) (Nat.pow_lt_pow_right (by decide) (h i (by omega)))
theorem q_hsN_bit {tr : Nat → Nat} {b : Nat} : ∀ i, (q_hsN tr i).testBit b = true ↔ ∃ k, k < i ∧ tr k = b
  | 0 => by
    rw [q_hsN, Nat.zero_testBit]
    constructor
    · intro h
      exact absurd h (by decide)
    · rintro ⟨k, hk, _⟩
      omega
  | i + 1 => by
    rw [q_hsN, Nat.testBit_or, Bool.or_eq_true, q_hsN_bit i, Nat.testBit_two_pow, decide_eq_true_eq]
    constructor
    · rintro (⟨k, hk, e⟩ | e)
      · exact ⟨k, by omega, e⟩
      · exact ⟨i, by omega, e⟩
    · rintro ⟨k, hk, e⟩
      by_cases ki : k = i
      · right; rw [← ki]; exact e
      · left; exact ⟨k, by omega, e⟩
theorem z_sumf_ext {f : Nat → Int} {n : Nat} : ∀ d : Nat, (∀ x, n ≤ x → x < n + d → f x = 0) → z_sumf f (n + d) = z_sumf f n
  | 0, _ => rfl
  | d + 1, h => by
    show z_sumf f ((n + d) + 1) = _
    rw [z_sumf, z_sumf_ext d (fun x a b => h x a (by omega)), h (n + d) (by omega) (by omega), Int.add_zero]
theorem q_nth_ext {P : Nat → Bool} {i : Int} {n : Nat} : ∀ d : Nat, (∀ x, n ≤ x → x < n + d → ¬ P x = true) → q_nth P i n = none → q_nth P i (n + d) = none
  | 0, _, h => h
  | d + 1, h, h0 => by
    show q_nth P i ((n + d) + 1) = _
    rw [q_nth, q_nth_ext d (fun x a b => h x a (by omega)) h0]
    exact if_neg (fun q => h (n + d) (by omega) (by omega) q.1)
theorem q_nth_cg {P Q : Nat → Bool} {i : Int} : ∀ n : Nat, (∀ x, x < n → P x = Q x) → q_nth P i n = q_nth Q i n
  | 0, _ => rfl
  | n + 1, h => by
    rw [q_nth, q_nth, q_nth_cg n (fun x hx => h x (by omega)), z_sumf_cg (f := fun s => q_one (P s)) (g := fun s => q_one (Q s)) n (fun x hx => by rw [h x (by omega)]), h n (by omega)]
theorem q_lf_cg {s n : Nat} {a a' h h' : Nat → Int} {t t' : Nat → Nat} (hh : ∀ x, x < n → h x = h' x) : ∀ i : Nat, (∀ x, x < i → a x = a' x) → (∀ x, x < i → t x = t' x) → q_lf s a h t n i = q_lf s a' h' t' n i
  | 0, _, _ => rfl
  | i + 1, ha, ht => by
    rw [q_lf, q_lf, q_lf_cg hh i (fun x hx => ha x (by omega)) (fun x hx => ht x (by omega)), ht i (by omega), ha i (by omega)]
    cases q_lf s a' h' t' n i with
    | none => rfl
    | some k =>
      show (if _ then _ else _) = (if _ then _ else _)
      by_cases c : k < n
      · rw [hh k c]
      · rw [if_neg (show ¬ (k < n ∧ h k = a' i) from fun q => c q.1), if_neg (show ¬ (k < n ∧ h' k = a' i) from fun q => c q.1)]
theorem q_left_cg {s n c : Nat} {a a' h h' : Nat → Int} {t t' : Nat → Nat} (hh : ∀ x, x < n → h x = h' x) (ha : ∀ x, x < c → a x = a' x) (ht : ∀ x, x < c → t x = t' x) : q_left s a h t c n = q_left s a' h' t' c n := by
  unfold q_left
  rw [q_lf_cg hh c ha ht, q_gn_cg c ht]
