theorem z_g0 {a : Option zV} {L : zL} : z_get (a :: L) 0 = a := rfl
theorem z_s0 {a w : Option zV} {L : zL} : z_set (a :: L) 0 w = w :: L := rfl
theorem z_g1 {a b : Option zV} {L : zL} : z_get (a :: b :: L) 1 = b := rfl
theorem z_s1 {a b w : Option zV} {L : zL} : z_set (a :: b :: L) 1 w = a :: w :: L := rfl
theorem z_g2 {a b c : Option zV} {L : zL} : z_get (a :: b :: c :: L) 2 = c := rfl
theorem z_s2 {a b c w : Option zV} {L : zL} : z_set (a :: b :: c :: L) 2 w = a :: b :: w :: L := rfl
theorem z_g3 {a b c d : Option zV} {L : zL} : z_get (a :: b :: c :: d :: L) 3 = d := rfl
theorem z_s3 {a b c d w : Option zV} {L : zL} : z_set (a :: b :: c :: d :: L) 3 w = a :: b :: c :: w :: L := rfl
theorem z_g4 {a b c d e : Option zV} {L : zL} : z_get (a :: b :: c :: d :: e :: L) 4 = e := rfl
theorem z_s4 {a b c d e w : Option zV} {L : zL} : z_set (a :: b :: c :: d :: e :: L) 4 w = a :: b :: c :: d :: w :: L := rfl
theorem z_g5 {a b c d e f : Option zV} {L : zL} : z_get (a :: b :: c :: d :: e :: f :: L) 5 = f := rfl
theorem z_s5 {a b c d e f w : Option zV} {L : zL} : z_set (a :: b :: c :: d :: e :: f :: L) 5 w = a :: b :: c :: d :: e :: w :: L := rfl
theorem z_g6 {a b c d e f g : Option zV} {L : zL} : z_get (a :: b :: c :: d :: e :: f :: g :: L) 6 = g := rfl
theorem z_s6 {a b c d e f g w : Option zV} {L : zL} : z_set (a :: b :: c :: d :: e :: f :: g :: L) 6 w = a :: b :: c :: d :: e :: f :: w :: L := rfl
theorem z_g7 {a b c d e f g h : Option zV} {L : zL} : z_get (a :: b :: c :: d :: e :: f :: g :: h :: L) 7 = h := rfl
theorem z_s7 {a b c d e f g h w : Option zV} {L : zL} : z_set (a :: b :: c :: d :: e :: f :: g :: h :: L) 7 w = a :: b :: c :: d :: e :: f :: g :: w :: L := rfl
theorem z_g8 {a b c d e f g h i : Option zV} {L : zL} : z_get (a :: b :: c :: d :: e :: f :: g :: h :: i :: L) 8 = i := rfl
theorem z_s8 {a b c d e f g h i w : Option zV} {L : zL} : z_set (a :: b :: c :: d :: e :: f :: g :: h :: i :: L) 8 w = a :: b :: c :: d :: e :: f :: g :: h :: w :: L := rfl
theorem z_g9 {a b c d e f g h i j : Option zV} {L : zL} : z_get (a :: b :: c :: d :: e :: f :: g :: h :: i :: j :: L) 9 = j := rfl
theorem z_s9 {a b c d e f g h i j w : Option zV} {L : zL} : z_set (a :: b :: c :: d :: e :: f :: g :: h :: i :: j :: L) 9 w = a :: b :: c :: d :: e :: f :: g :: h :: i :: w :: L := rfl
theorem z_g10 {a b c d e f g h i j k : Option zV} {L : zL} : z_get (a :: b :: c :: d :: e :: f :: g :: h :: i :: j :: k :: L) 10 = k := rfl
theorem z_s10 {a b c d e f g h i j k w : Option zV} {L : zL} : z_set (a :: b :: c :: d :: e :: f :: g :: h :: i :: j :: k :: L) 10 w = a :: b :: c :: d :: e :: f :: g :: h :: i :: j :: w :: L := rfl
theorem z_g11 {a b c d e f g h i j k l : Option zV} {L : zL} : z_get (a :: b :: c :: d :: e :: f :: g :: h :: i :: j :: k :: l :: L) 11 = l := rfl
theorem z_s11 {a b c d e f g h i j k l w : Option zV} {L : zL} : z_set (a :: b :: c :: d :: e :: f :: g :: h :: i :: j :: k :: l :: L) 11 w = a :: b :: c :: d :: e :: f :: g :: h :: i :: j :: k :: w :: L := rfl
theorem z_g12 {a b c d e f g h i j k l m : Option zV} {L : zL} : z_get (a :: b :: c :: d :: e :: f :: g :: h :: i :: j :: k :: l :: m :: L) 12 = m := rfl
theorem z_s12 {a b c d e f g h i j k l m w : Option zV} {L : zL} : z_set (a :: b :: c :: d :: e :: f :: g :: h :: i :: j :: k :: l :: m :: L) 12 w = a :: b :: c :: d :: e :: f :: g :: h :: i :: j :: k :: l :: w :: L := rfl
theorem z_g13 {a b c d e f g h i j k l m n : Option zV} {L : zL} : z_get (a :: b :: c :: d :: e :: f :: g :: h :: i :: j :: k :: l :: m :: n :: L) 13 = n := rfl
theorem z_s13 {a b c d e f g h i j k l m n w : Option zV} {L : zL} : z_set (a :: b :: c :: d :: e :: f :: g :: h :: i :: j :: k :: l :: m :: n :: L) 13 w = a :: b :: c :: d :: e :: f :: g :: h :: i :: j :: k :: l :: m :: w :: L := rfl
theorem z_fin {Ret : zR} {a b : Int} {σ τ : zM} (h : Ret (some (.inl a)) σ) (e : a = b) (e2 : σ = τ) : Ret (some (.inl b)) τ := e ▸ e2 ▸ h
def z_fill (σ : zM) (k a n : Nat) (v : Int) : zM := fun c b => if c = k ∧ a ≤ b ∧ b < a + n then v else σ c b
def z_sumf (f : Nat → Int) : Nat → Int
  | 0 => 0
  | n + 1 => z_sumf f n + f n
theorem z_up_eq {σ : zM} {k j : Nat} {v : Int} : z_up σ k j v k j = v := by simp [z_up]
theorem z_up_ne {σ : zM} {k j a b : Nat} {v : Int} (h : a ≠ k ∨ b ≠ j) : z_up σ k j v a b = σ a b := by
  unfold z_up
  rw [if_neg (by intro q; rcases h with h | h; exact h q.1; exact h q.2)]
theorem z_fill_0 {σ : zM} {k a : Nat} {v : Int} : z_fill σ k a 0 v = σ := by
  funext c b
  unfold z_fill
  rw [if_neg (by omega)]
theorem z_fill_S {σ : zM} {k a n : Nat} {v : Int} : z_up (z_fill σ k a n v) k (a + n) v = z_fill σ k a (n + 1) v := by
  funext c b
  simp only [z_fill, z_up]
  repeat' split
  all_goals first | rfl | (exfalso; omega)
theorem z_nat {x : Int} (h : 0 ≤ x) : ∃ n : Nat, x = (n : Int) := ⟨x.toNat, by omega⟩
theorem z_b0 {c : Prop} [Decidable c] : ((if c then (1 : Int) else 0) = 0) = ¬ c := by by_cases h : c <;> simp [h]
theorem z_b1 {c : Prop} [Decidable c] : ((if c then (1 : Int) else 0) = 1) = c := by by_cases h : c <;> simp [h]
theorem z_b0n {c : Prop} [Decidable c] : ((if c then (0 : Int) else 1) = 0) = c := by by_cases h : c <;> simp [h]
theorem z_b1n {c : Prop} [Decidable c] : ((if c then (0 : Int) else 1) = 1) = ¬ c := by by_cases h : c <;> simp [h]
theorem z_up_far1 {σ : zM} {k i j : Nat} {v : Int} : z_up σ (k + 1) i v k j = σ k j := z_up_ne (Or.inl (by omega))
theorem z_up_far2 {σ : zM} {k i j : Nat} {v : Int} : z_up σ (k + 2) i v k j = σ k j := z_up_ne (Or.inl (by omega))
theorem z_up_far3 {σ : zM} {k i j : Nat} {v : Int} : z_up σ (k + 3) i v k j = σ k j := z_up_ne (Or.inl (by omega))
theorem z_up_far4 {σ : zM} {k i j : Nat} {v : Int} : z_up σ (k + 4) i v k j = σ k j := z_up_ne (Or.inl (by omega))
theorem z_up_far5 {σ : zM} {k i j : Nat} {v : Int} : z_up σ (k + 5) i v k j = σ k j := z_up_ne (Or.inl (by omega))
theorem z_up_far6 {σ : zM} {k i j : Nat} {v : Int} : z_up σ (k + 6) i v k j = σ k j := z_up_ne (Or.inl (by omega))
