/-! ===== the law's own machine: its arrays come one by one, at addresses that change ===== -/
def w_le : zL → zL → Prop
  | [], [] => True
  | none :: A, _ :: B => w_le A B
  | some v :: A, some w :: B => v = w ∧ w_le A B
  | _, _ => False
theorem w_le_len : ∀ {A B : zL}, w_le A B → A.length = B.length
  | [], [], _ => rfl
  | none :: A, _ :: B, h => congrArg (· + 1) (w_le_len (A := A) (B := B) h)
  | some _ :: A, some _ :: B, h => congrArg (· + 1) (w_le_len (A := A) (B := B) h.2)
  | [], _ :: _, h => h.elim
  | none :: _, [], h => h.elim
  | some _ :: _, [], h => h.elim
  | some _ :: _, none :: _, h => h.elim
theorem w_le_get : ∀ {A B : zL}, w_le A B → ∀ i v, z_get A i = some v → z_get B i = some v
  | [], [], _, _, _, h => by cases h
  | none :: A, _ :: B, _, 0, _, h => by cases h
  | none :: A, _ :: B, g, i + 1, v, h => w_le_get (A := A) (B := B) g i v h
  | some a :: A, some b :: B, g, 0, v, h => by rw [← g.1]; exact h
  | some _ :: A, some _ :: B, g, i + 1, v, h => w_le_get (A := A) (B := B) g.2 i v h
  | [], _ :: _, g, _, _, _ => g.elim
  | none :: _, [], g, _, _, _ => g.elim
  | some _ :: _, [], g, _, _, _ => g.elim
  | some _ :: _, none :: _, g, _, _, _ => g.elim
theorem w_le_mem : ∀ {A B : zL}, w_le A B → ∀ v, some v ∈ A → some v ∈ B
  | [], [], _, _, h => by cases h
  | none :: A, _ :: B, g, v, h => by
    rcases List.mem_cons.mp h with h | h
    · cases h
    · exact List.mem_cons_of_mem _ (w_le_mem (A := A) (B := B) g v h)
  | some a :: A, some b :: B, g, v, h => by
    rcases List.mem_cons.mp h with h | h
    · rw [h, g.1]; exact List.mem_cons_self
    · exact List.mem_cons_of_mem _ (w_le_mem (A := A) (B := B) g.2 v h)
  | [], _ :: _, g, _, _ => g.elim
  | none :: _, [], g, _, _ => g.elim
  | some _ :: _, [], g, _, _ => g.elim
  | some _ :: _, none :: _, g, _, _ => g.elim
def x_Cx (p : Program) (s : State) (m : MethodId) (args : Array Value) (c : Code) (D : va_G) (cA : Nat → ClassId) : Prop := p.tables.exec = Jvm.exec ∧ c.code = cL_law ∧ c.maxLocals = 11 ∧ s.vm.findClass RL = some m.cls ∧ (∀ w ∈ z_tbl, w.before args s = true) ∧ va_K D vwCl (z_tys cA) s
def x_G (zx : zX) (s : State) (N zn : Nat) (ad : Nat → Nat) (cl sl : Nat) : Prop := z_inj zn ad ∧ (∀ q, z_A zn ad q → x_A s q) ∧ (cl ≤ 89 + N ∧ sl ≤ 2254 + 64 * N) ∧ z_St zx (x_A s) ad s s.heap
def x_Y (zx : zX) (p : Program) (l : Launch) (e : Env) (s : State) (m : MethodId) (args : Array Value) (below : List Frame) (meth : Method) (c : Code) (Q : State → Prop) (D : va_G) (cA : Nat → ClassId) (S : Nat → Prop) (N : Nat) : Nat → zB := fun pc L st σ => ∀ zn ad cl sl, S zn → x_G zx s N zn ad cl sl → z_X zx zn (x_A s) cl sl p l e room_1 s m args below meth c Q 11 D cA ad true pc L st σ
theorem va_at_lt {D : va_G} {q : Nat × va_E} {H : Heap} (h : va_at D vwCl q H) : q.1 < H.size := by
  obtain ⟨a, v⟩ := q
  rcases v with v | v
  · exact (Array.getElem?_eq_some_iff.mp h).1
  · obtain ⟨r, h1, cell, q1, q2, q3, q4⟩ := h
    exact (Array.getElem?_eq_some_iff.mp q1).1
theorem z_St_cg {zx : zX} {zA : Nat → Prop} {ad ad' : Nat → Nat} {U : State} {H : Heap} (h : z_St zx zA ad U H) (e : ∀ i, 1000 ≤ i → ad' i = ad i) : z_St zx zA ad' U H := by
  obtain ⟨⟨h1, h2, h3, h4⟩, h5, h6, h7, h8⟩ := h
  refine ⟨⟨?_, h2, by rw [e 1200 (by omega)]; exact h3, fun i hi => by rw [e _ (by omega)]; exact h4 i hi⟩, by rw [e 1400 (by omega)]; exact h5, by rw [e 1400 (by omega)]; exact h6, by rw [e 1400 (by omega)]; exact h7, h8⟩
  rw [show (fun i => ad' (1000 + i)) = fun i => ad (1000 + i) from funext fun i => e _ (by omega), show (fun i => ad' (1100 + i)) = fun i => ad (1100 + i) from funext fun i => e _ (by omega)]
  exact h1
theorem z_asc_cg {ad ad' : Nat → Nat} : ∀ (L : zL) (n : Nat), (∀ c a k, some (.inr (.inr (c, a, k))) ∈ L → ad' k = ad k) → z_asc ad' n L = z_asc ad n L
  | [], _, _ => rfl
  | none :: L, n, h => z_asc_cg L (n + 1) (fun c a k g => h c a k (List.mem_cons_of_mem _ g))
  | some (.inl x) :: L, n, h => by
    rw [z_asc, z_asc, z_asc_cg L (n + 1) (fun c a k g => h c a k (List.mem_cons_of_mem _ g))]
    rfl
  | some (.inr (.inl x)) :: L, n, h => by
    rw [z_asc, z_asc, z_asc_cg L (n + 1) (fun c a k g => h c a k (List.mem_cons_of_mem _ g))]
    rfl
  | some (.inr (.inr (c, a, k))) :: L, n, h => by
    rw [z_asc, z_asc, z_asc_cg L (n + 1) (fun c a k g => h c a k (List.mem_cons_of_mem _ g))]
    simp only [z_val, h c a k List.mem_cons_self]
section YL
variable {zx : zX} {p : Program} {l : Launch} {e : Env} {s : State} {m : MethodId} {args : Array Value} {below : List Frame} {meth : Method} {c : Code} {Q : State → Prop} {D : va_G} {cA : Nat → ClassId} {S S' : Nat → Prop} {N : Nat}
theorem x_cx (C : x_Cx p s m args c D cA) (hN : N ≤ 106) {zn : Nat} {ad : Nat → Nat} {cl sl : Nat} (G : x_G zx s N zn ad cl sl) : z_Cx zx zn (x_A s) cl sl p room_1 s m args c cL_law RL 11 D cA ad :=
  ⟨C.1, C.2.1, C.2.2.1, C.2.2.2.1, C.2.2.2.2.1, C.2.2.2.2.2, G.1, G.2.1, ⟨Nat.le_trans (m := 195) (by have := G.2.2.1.1; omega) (Nat.le_of_ble_eq_true rfl), Nat.le_trans (m := 9038) (by have := G.2.2.1.2; omega) (Nat.le_of_ble_eq_true rfl)⟩, G.2.2.2⟩
theorem x_weak {pc : Nat} {A B : zL} {st : List zV} {σ : zM} (le : w_le A B) (h : x_Y zx p l e s m args below meth c Q D cA S N pc A st σ) : x_Y zx p l e s m args below meth c Q D cA S N pc B st σ := by
  intro zn ad cl sl hS hG hn hL hst hσ H locs ls hP hS1 hl
  refine h zn ad cl sl hS hG ((w_le_len le).trans hn) (fun v hv => hL v (w_le_mem le v hv)) hst hσ H locs ls hP hS1 ⟨hl.1, hl.2.1, fun q hq => hl.2.2 q ?_⟩
  obtain ⟨i, v, rfl, hv⟩ := z_asc_out ad _ 0 q hq
  exact z_asc_in ad B 0 i v (w_le_get le i v hv)
theorem x_new {k pc : Nat} (hk : 108 ≤ k ∧ k < 111) (hSk : ∀ zn, S zn → zn = k - 108 ∨ zn = k - 107) (hS' : S' (k - 107)) (C : x_Cx p s m args c D cA) (hN : N + 1 ≤ 106) (hac : Cond.arrayClass .int ∈ z_tbl) (d : decode cL_law pc = .ok (.newarray .int, 2)) {L : zL} {σ : zM} (hLk : ∀ c n, some (.inr (.inr (c, n, k))) ∉ L) (h : x_Y zx p l e s m args below meth c Q D cA S' (N + 1) (pc + 2) L [.inr (.inr (100, 64, k))] (fun a b => if a = k then 0 else σ a b)) : x_Y zx p l e s m args below meth c Q D cA S N pc L [.inl 64] σ := by
  intro zn ad cl sl hS hG hn hL hst hσ H locs ls hP hS1 hl
  obtain ⟨hx, hb, hml, hown, hts, hK⟩ := C
  obtain ⟨hi, hA, ⟨hc1, hc2⟩, hE⟩ := hG
  have hz := hSk zn hS
  have kd : z_kd k = (100, 64) := by
    have : k = 108 ∨ k = 109 ∨ k = 110 := by omega
    rcases this with rfl | rfl | rfl <;> rfl
  have sub : ∀ a, z_here (k - 108) a → z_here zn a := by
    unfold z_here
    intro a h
    omega
  have hP0 : ∀ a, z_here (k - 108) a → va_at D vwCl (ad a, z_E cA ad σ a) H := fun a ha => hP _ _ (z_W_at (sub a ha))
  show W p l e room_1 s m args below meth c H locs cl sl Q (F0 m pc ls [.int (Int32.ofInt 64)])
  refine va_newaK (atype := .int) hx hb (hts _ hac) (rest := []) rfl d rfl (by decide) (N := 64) (by decide) (Nat.le_of_ble_eq_true rfl) (Nat.le_trans (m := 196) (by omega) (Nat.le_of_ble_eq_true rfl)) (Nat.le_trans (m := 9102) (by omega) (Nat.le_of_ble_eq_true rfl)) rfl (fun H1 c1 e1 z1 o1 hAr hNm => ?_)
  have hcc : c1 = cA 0 := Option.some.inj (hNm.symm.trans (hK.2 0 _ rfl).2)
  subst hcc
  have hz0 : s.heap.size ≤ H.size := hS1.1
  obtain ⟨ad', had⟩ : ∃ ad' : Nat → Nat, ad' = fun i => if i = k then H.size else ad i := ⟨_, rfl⟩
  have adk : ad' k = H.size := by rw [had]; exact if_pos rfl
  have adn : ∀ i, i ≠ k → ad' i = ad i := fun i hi => by rw [had]; exact if_neg hi
  have lt : ∀ a, z_here (k - 108) a → ad a < H.size := fun a ha => va_at_lt (hP0 a ha)
  have here : ∀ a, z_here (k - 107) a → a ≠ k → z_here (k - 108) a := by
    unfold z_here
    intro a h1 h2
    omega
  have hw := h (k - 107) ad' (cl + 1) (sl + 64) hS' ⟨?_, ?_, ⟨by omega, by omega⟩, z_St_cg hE (fun i hi => adn i (by omega))⟩ hn (fun v hv => ?_) (z_oks_cons (v := .inr (.inr (100, 64, k))) ⟨kd, fun _ _ => by omega⟩ (fun _ h => by cases h)) (fun a j g => ?_) H1 locs ls ?_ ?_ ?_
  · simp only [List.map_cons, List.map_nil, z_val, if_neg (show ¬ 100 = 250 by omega), adk] at hw
    exact hw
  · intro i j h1 h2 h3
    by_cases ci : i = k
    · by_cases cj : j = k
      · rw [ci, cj]
      · rw [ci, adk, adn j cj] at h3
        have := lt j (here j h2 cj)
        omega
    · by_cases cj : j = k
      · rw [cj, adk, adn i ci] at h3
        have := lt i (here i h1 ci)
        omega
      · rw [adn i ci, adn j cj] at h3
        exact hi i j (sub i (here i h1 ci)) (sub j (here j h2 cj)) h3
  · rintro q ⟨a, ha, rfl⟩
    by_cases ca : a = k
    · rw [ca, adk]
      exact hz0
    · rw [adn a ca]
      exact hA _ ⟨a, sub a (here a ha ca), rfl⟩
  · obtain ⟨g1, g2⟩ := hL v hv
    refine ⟨?_, g2⟩
    rcases v with x | x | ⟨c0, n0, k0⟩
    · exact g1
    · exact g1
    · refine ⟨g1.1, fun a1 a2 => ?_⟩
      have := g1.2 a1 a2
      have hne : k0 ≠ k := fun q => hLk c0 n0 (by rw [← q]; exact hv)
      omega
  · dsimp only
    by_cases ca : a = k
    · rw [if_pos ca]
      exact z_in0
    · rw [if_neg ca]
      exact hσ a j g
  · intro i q hq
    unfold z_W at hq
    rw [List.getElem?_map] at hq
    cases e9 : (z_ix (k - 107))[i]? with
    | none => rw [e9] at hq; cases hq
    | some a =>
      rw [e9] at hq
      cases hq
      have ha := (z_ix_out e9).1
      show va_at D vwCl (ad' a, z_E cA ad' (fun a b => if a = k then 0 else σ a b) a) H1
      by_cases ca : a = k
      · subst ca
        rw [adk, z_E, if_neg (by rw [kd]; decide), kd]
        show H1[H.size]? = some (vp_cell _ _)
        rw [vp_cell_i, e1]
        simp only [if_true]
        rfl
      · rw [adn a ca]
        have h0 := here a ha ca
        have e3 : z_E cA ad' (fun a b => if a = k then 0 else σ a b) a = z_E cA ad σ a := by
          have es : (fun b => if a = k then (0 : Int) else σ a b) = σ a := funext fun b => if_neg ca
          unfold z_E
          by_cases hc : (z_kd a).1 < 100
          · rw [if_pos hc, if_pos hc]
            have ha9 : a < 89 := by
              unfold z_here at ha
              have key : ∀ i, i < 111 → 108 ≤ i → ¬ (z_kd i).1 < 100 := by decide +kernel
              rcases ha with ha | ha
              · exact ha
              · exact absurd hc (key a (by omega) ha.1)
            refine congrArg (fun t => (Sum.inr ((z_kd a).1, t) : va_E)) ?_
            unfold z_fs
            refine List.map_congr_left fun j hj => ?_
            rw [List.mem_range] at hj
            rw [adn _ (by have := x_off a ha9 j hj; omega)]
            simp only [if_neg ca]
          · rw [if_neg hc, if_neg hc]
            simp only [if_neg ca]
        rw [e3]
        exact (hP0 a h0).kept (o1 _ (lt a h0))
  · refine ⟨by rw [z1]; omega, fun q h1 h2 => ?_, hS1.2.2⟩
    rw [o1 q (by omega)]
    exact hS1.2.1 q h1 h2
  · rw [z_asc_cg L 0 (fun c0 n0 k0 g => adn k0 (fun q => hLk c0 n0 (by rw [← q]; exact g)))]
    exact hl
end YL
