/-! THE FLAT MACHINE: the memory of the whole system is σ : cell → place → number (Int); an instruction is a transformer of continuations; z_X is 'the machine, from here, comes to Q'. -/
abbrev zV : Type := Int ⊕ (Int ⊕ (Nat × Nat × Nat))
abbrev zM : Type := Nat → Nat → Int
-- the script: how long, and what
abbrev zX : Type := Nat × (Nat → Int32)
abbrev zL : Type := List (Option zV)
abbrev zB : Type := zL → List zV → zM → Prop
abbrev zR : Type := Option zV → zM → Prop
abbrev zS : Type := List zV → zM → zR → Prop
def z_in (x : Int) : Prop := -2147483648 ≤ x ∧ x ≤ 2147483647
def z_inL (x : Int) : Prop := -9223372036854775808 ≤ x ∧ x ≤ 9223372036854775807
-- cells 89 .. 107 are in no heap: what is thought of the wood beside it stands there
def z_okm (σ : zM) : Prop := ∀ k j, ¬ (89 ≤ k ∧ k < 108) → z_in (σ k j)
def z_up (σ : zM) (k j : Nat) (v : Int) : zM := fun a b => if a = k ∧ b = j then v else σ a b
def z_cpy (σ : zM) (k1 sp k2 dp n : Nat) : zM := fun a b => if a = k2 ∧ dp ≤ b ∧ b < dp + n then σ k1 (sp + (b - dp)) else σ a b
def z_wr (x : Int) : Int := (Int32.ofInt x).toInt
def z_wr8 (x : Int) : Int := (Int32.ofInt x).toInt8.toInt
def z_wr16 (x : Int) : Int := (Int32.ofInt x).toInt16.toInt
def z_wrL (x : Int) : Int := (Int64.ofInt x).toInt
-- the cells: kind (a class by its place in vwCl, 100 an int array, 101 a byte array, 102 a boolean array) and length
def z_wood : List (Nat × Nat) := [(8, 0), (6, 0), (100, 12), (100, 12), (100, 12), (100, 12), (100, 12), (100, 12), (7, 0), (100, 6), (100, 6), (100, 6), (2, 0), (100, 60), (100, 60), (100, 60), (100, 10)]
def z_kds : List (Nat × Nat) := [(9, 0), (4, 0), (101, 400), (5, 0), (102, 8), (100, 8), (100, 8), (100, 320)] ++ z_wood ++ z_wood ++ z_wood ++ z_wood ++ [(2, 0), (100, 60), (100, 60), (100, 60), (3, 0), (100, 12), (100, 12), (100, 13), (1, 0), (100, 5), (0, 0), (100, 16), (100, 20)] ++ List.replicate 19 (999, 0) ++ [(100, 64), (100, 64), (100, 64)]
def z_slen : List Nat := [4, 4, 4, 3, 3, 4, 3, 4, 4, 3, 3]
def z_kd (k : Nat) : Nat × Nat := if k < 111 then z_kds.getD k (999, 0) else if k < 1000 then (999, 0) else if k < 1011 then (200, 0) else if k < 1100 then (999, 0) else if k < 1111 then (201, z_slen.getD (k - 1100) 0) else if k = 1200 then (251, 0) else if k = 1300 then (250, 0) else if k = 1400 then (252, 0) else (999, 0)
-- the cells that are there: zn of the law's own arrays
def z_kp (zn k c n : Nat) : Prop := z_kd k = (c, n) ∧ (108 ≤ k → k < 111 → k < 108 + zn)
def z_here (zn k : Nat) : Prop := k < 89 ∨ (108 ≤ k ∧ k < 108 + zn)
def z_pos (k : Nat) : Nat := if k < 108 then k else k - 19
def z_ix (zn : Nat) : List Nat := List.range 89 ++ (List.range zn).map (fun i => 108 + i)
def z_okv (zn : Nat) : zV → Prop
  | .inl x => z_in x
  | .inr (.inl x) => z_inL x
  | .inr (.inr (c, n, k)) => z_kp zn k c n
def z_oks (zn : Nat) (st : List zV) : Prop := ∀ v ∈ st, z_okv zn v
def z_okl (zn : Nat) (fl : Bool) (L : zL) : Prop := ∀ v, some v ∈ L → z_okv zn v ∧ (fl = true → ∀ x, v ≠ .inr (.inl x))
def z_okr (zn : Nat) (r : Option zV) : Prop := ∀ v, r = some v → z_okv zn v
-- an object's fields: 0 a number, else how far its cell stands behind the object's own
def z_off : List (List Nat) := [[1, 0, 0, 0, 0, 0], [1, 0], [1, 2, 3, 0], [1, 2, 3, 0], [1, 0, 0, 0, 0, 0, 0], [1, 2, 3, 4], [1, 2, 3, 4, 5, 6, 0], [1, 2, 3, 0], [1, 8, 12, 16, 0, 0, 0, 0], [1, 3, 8, 25, 42, 59, 76, 80, 84, 86, 88, 0, 0],
  [0, 0, 1, 2, 3, 4, 5, 0, 6, 7, 0, 8, 0, 0, 0, 0, 0, 0, 0, 0, 0, 9, 10, 11, 0, 12, 13, 14, 0, 0, 15, 16, 17, 18, 0]]
def z_fo (c : Nat) : List Nat := z_off.getD c []
def z_fs (ad : Nat → Nat) (σ : zM) (k : Nat) (os : List Nat) : List Value := (List.range os.length).map (fun j => if os.getD j 0 = 0 then .int (Int32.ofInt (σ k j)) else .ref (ad (k + os.getD j 0)))
def z_E (cA : Nat → ClassId) (ad : Nat → Nat) (σ : zM) (k : Nat) : va_E := if (z_kd k).1 < 100 then .inr ((z_kd k).1, z_fs ad σ k (z_fo (z_kd k).1)) else .inl (cA ((z_kd k).1 - 100), (z_kd k).2, .inl (fun j => Int32.ofInt (σ k j)))
def z_W (zn : Nat) (cA : Nat → ClassId) (ad : Nat → Nat) (σ : zM) : va_W := (z_ix zn).map (fun k => (ad k, z_E cA ad σ k))
def z_tys (cA : Nat → ClassId) : List (ClassId × FieldType) := [(cA 0, .int), (cA 1, .byte), (cA 2, .boolean)]
def z_A (zn : Nat) (ad : Nat → Nat) : Nat → Prop := fun q => ∃ k, z_here zn k ∧ q = ad k
def z_inj (zn : Nat) (ad : Nat → Nat) : Prop := ∀ i j, z_here zn i → z_here zn j → ad i = ad j → i = j
def z_val (ad : Nat → Nat) : zV → Value
  | .inl x => .int (Int32.ofInt x)
  | .inr (.inl x) => .long (Int64.ofInt x)
  | .inr (.inr (c, _, k)) => if c = 250 then .null else .ref (ad k)
def z_asc (ad : Nat → Nat) : Nat → zL → List (Nat × Value)
  | _, [] => []
  | n, none :: L => z_asc ad (n + 1) L
  | n, some v :: L => (n, z_val ad v) :: z_asc ad (n + 1) L
def z_get : zL → Nat → Option zV
  | [], _ => none
  | v :: _, 0 => v
  | _ :: L, i + 1 => z_get L i
def z_set : zL → Nat → Option zV → zL
  | [], _, _ => []
  | _ :: L, 0, w => w :: L
  | v :: L, i + 1, w => v :: z_set L i w
-- the strings
def z_sbyt : List (List Int32) := [[116, 114, 101, 101], [119, 105, 110, 100], [116, 117, 110, 101], [99, 117, 116], [108, 101, 116], [116, 117, 114, 110], [105, 99, 101], [116, 104, 97, 119], [102, 101, 108, 108], [119, 101, 116], [100, 114, 121]]
def z_sidx : List Nat := [56, 70, 80, 125, 127, 129, 131, 133, 135, 137, 139]
def z_stx : List String := ["tree", "wind", "tune", "cut", "let", "turn", "ice", "thaw", "fell", "wet", "dry"]
def z_St (zx : zX) (zA : Nat → Prop) (ad : Nat → Nat) (U : State) (H : Heap) : Prop := (vk_S 11 z_slen z_sbyt (fun i => ad (1000 + i)) (fun i => ad (1100 + i)) zA U H ∧ va_Z "java/lang/String" "COMPACT_STRINGS" "Z" (.int 1) zA U H ∧ (va_Z "jdk/internal/util/Preconditions" "SIOOBE_FORMATTER" "Ljava/util/function/BiFunction;" .null zA U H ∨ va_Z "jdk/internal/util/Preconditions" "SIOOBE_FORMATTER" "Ljava/util/function/BiFunction;" (.ref (ad 1200)) zA U H) ∧ ∀ i, i < 11 → vk_R "WindHarp$Reader" (z_sidx.getD i 0) (z_stx.getD i "") (ad (1000 + i)) U) ∧ va_X (ad 1400) zx.1 zx.2 U H ∧ ad 1400 < H.size ∧ ¬ zA (ad 1400) ∧ zx.1 ≤ 260
-- the words
def z_tbl : List Cond := lw_tbl.filter goodWord
theorem z_tbl_good : z_tbl.all goodWord = true := by
  rw [List.all_eq_true]
  intro w hw
  exact (List.mem_filter.mp hw).2
def z_Cx (zx : zX) (zn : Nat) (zA : Nat → Prop) (cl sl : Nat) (p : Program) (R : Room) (s : State) (m : MethodId) (args : Array Value) (c : Code) (cc : ByteArray) (own : String) (nL : Nat) (D : va_G) (cA : Nat → ClassId) (ad : Nat → Nat) : Prop :=
  p.tables.exec = Jvm.exec ∧ c.code = cc ∧ c.maxLocals = nL ∧ s.vm.findClass own = some m.cls ∧ (∀ w ∈ z_tbl, w.before args s = true) ∧ va_K D vwCl (z_tys cA) s ∧ z_inj zn ad ∧ (∀ q, z_A zn ad q → zA q) ∧ (cl ≤ R.cells ∧ sl ≤ R.slots) ∧ z_St zx zA ad s s.heap
def z_X (zx : zX) (zn : Nat) (zA : Nat → Prop) (cl sl : Nat) (p : Program) (l : Launch) (e : Env) (R : Room) (s : State) (m : MethodId) (args : Array Value) (below : List Frame) (meth : Method) (c : Code) (Q : State → Prop) (nL : Nat) (D : va_G) (cA : Nat → ClassId) (ad : Nat → Nat) (fl : Bool) : Nat → zL → List zV → zM → Prop := fun pc L st σ =>
  L.length = nL → z_okl zn fl L → z_oks zn st → z_okm σ → ∀ (H : Heap) (locs : List Loc) (ls : Array Slot), va_P D vwCl (z_W zn cA ad σ) H → va_S zA s.heap H locs → lv_has ls nL (z_asc ad 0 L) → W p l e R s m args below meth c H locs cl sl Q (F0 m pc ls (st.map (z_val ad)))

/-! ===== plain rows ===== -/
theorem z_get0 {v : Option zV} {L : zL} : z_get (v :: L) 0 = v := rfl
theorem z_getS {v : Option zV} {L : zL} {i : Nat} : z_get (v :: L) (i + 1) = z_get L i := rfl
theorem z_set_len : ∀ (L : zL) (i : Nat) (w : Option zV), (z_set L i w).length = L.length
  | [], _, _ => rfl
  | _ :: _, 0, _ => rfl
  | _ :: L, i + 1, w => congrArg (· + 1) (z_set_len L i w)
theorem z_set_mem : ∀ (L : zL) (i : Nat) (w v : Option zV), v ∈ z_set L i w → v = w ∨ v ∈ L
  | [], _, _, _, h => by cases h
  | _ :: _, 0, _, _, h => by
    rcases List.mem_cons.mp h with h | h
    · exact Or.inl h
    · exact Or.inr (List.mem_cons_of_mem _ h)
  | _ :: L, i + 1, w, v, h => by
    rcases List.mem_cons.mp h with h | h
    · exact Or.inr (h ▸ List.mem_cons_self)
    · rcases z_set_mem L i w v h with h | h
      · exact Or.inl h
      · exact Or.inr (List.mem_cons_of_mem _ h)
theorem z_get_mem : ∀ (L : zL) (i : Nat) (v : zV), z_get L i = some v → some v ∈ L
  | [], _, _, h => by cases h
  | _ :: _, 0, _, h => by rw [z_get0] at h; subst h; exact List.mem_cons_self
  | _ :: L, i + 1, v, h => List.mem_cons_of_mem _ (z_get_mem L i v h)
theorem z_get_lt : ∀ (L : zL) (i : Nat) (v : zV), z_get L i = some v → i < L.length
  | [], _, _, h => by cases h
  | _ :: _, 0, _, _ => Nat.succ_pos _
  | _ :: L, i + 1, v, h => Nat.succ_lt_succ (z_get_lt L i v h)
theorem z_asc_in (ad : Nat → Nat) : ∀ (L : zL) (n i : Nat) (v : zV), z_get L i = some v → (n + i, z_val ad v) ∈ z_asc ad n L
  | [], _, _, _, h => by cases h
  | none :: _, _, 0, _, h => by cases h
  | some w :: _, n, 0, v, h => by rw [z_get0] at h; cases h; exact List.mem_cons_self
  | none :: L, n, i + 1, v, h => by
    have := z_asc_in ad L (n + 1) i v h
    rw [show n + (i + 1) = n + 1 + i by omega]
    exact this
  | some w :: L, n, i + 1, v, h => by
    have := z_asc_in ad L (n + 1) i v h
    rw [show n + (i + 1) = n + 1 + i by omega]
    exact List.mem_cons_of_mem _ this
theorem z_asc_out (ad : Nat → Nat) : ∀ (L : zL) (n : Nat) (q : Nat × Value), q ∈ z_asc ad n L → ∃ i v, q = (n + i, z_val ad v) ∧ z_get L i = some v
  | [], _, _, h => by cases h
  | none :: L, n, q, h => by
    obtain ⟨i, v, h1, h2⟩ := z_asc_out ad L (n + 1) q h
    exact ⟨i + 1, v, by rw [h1]; congr 1; omega, h2⟩
  | some w :: L, n, q, h => by
    rcases List.mem_cons.mp h with h | h
    · exact ⟨0, w, h, rfl⟩
    · obtain ⟨i, v, h1, h2⟩ := z_asc_out ad L (n + 1) q h
      exact ⟨i + 1, v, by rw [h1]; congr 1; omega, h2⟩
theorem z_get_set : ∀ (L : zL) (i j : Nat) (w : Option zV), z_get (z_set L i w) j = if j = i ∧ i < L.length then w else z_get L j
  | [], i, j, w => by simp [z_set, z_get]
  | v :: L, 0, 0, w => by simp [z_set, z_get]
  | v :: L, 0, j + 1, w => by simp [z_set, z_get]
  | v :: L, i + 1, 0, w => by simp [z_set, z_get]
  | v :: L, i + 1, j + 1, w => by
    show z_get (z_set L i w) j = _
    rw [z_get_set L i j w]
    simp [z_get]
theorem z_asc0 {ad : Nat → Nat} {L : zL} {nL : Nat} {ls : Array Slot} (h : lv_has ls nL (z_asc ad 0 L)) {i : Nat} {v : zV} (hv : z_get L i = some v) : ls[i]? = some (.val (z_val ad v)) := by
  have h1 := h.2.2 _ (z_asc_in ad L 0 i v hv)
  rwa [Nat.zero_add] at h1
theorem z_cat1 {ad : Nat → Nat} {v : zV} (h : ∀ x, v ≠ .inr (.inl x)) : (z_val ad v).category = 1 := by
  rcases v with x | x | ⟨c, n, k⟩
  · rfl
  · exact absurd rfl (h x)
  · simp only [z_val]
    by_cases h : c = 250
    · rw [if_pos h]; rfl
    · rw [if_neg h]; rfl
/-- the locals behind a store of one slot: the list of the kit's row holds all of the new one -/
theorem z_st1 {ad : Nat → Nat} {L : zL} {nL : Nat} {ls' : Array Slot} {i : Nat} {v : zV} (hp : ∀ j x, i = j + 1 → z_get L j ≠ some (.inr (.inl x)))
    (h : lv_has ls' nL ((i, z_val ad v) :: (z_asc ad 0 L).filter (fun q => !(q.1 == i) && !(q.1 + 1 == i && q.2.category == 2)))) : lv_has ls' nL (z_asc ad 0 (z_set L i (some v))) := by
  refine ⟨h.1, h.2.1, fun q hq => h.2.2 q ?_⟩
  obtain ⟨j, w, rfl, hw⟩ := z_asc_out ad _ 0 q hq
  rw [z_get_set] at hw
  rw [Nat.zero_add]
  by_cases hj : j = i ∧ i < L.length
  · rw [if_pos hj] at hw
    cases hw
    rw [hj.1]
    exact List.mem_cons_self
  · rw [if_neg hj] at hw
    by_cases hji : j = i
    · have := z_get_lt _ _ _ hw
      exact absurd ⟨hji, by omega⟩ hj
    · refine List.mem_cons_of_mem _ (List.mem_filter.mpr ⟨by have := z_asc_in ad L 0 j w hw; rwa [Nat.zero_add] at this, ?_⟩)
      simp only [Bool.and_eq_true, Bool.not_eq_true', beq_eq_false_iff_ne, ne_eq, Bool.and_eq_false_iff]
      refine ⟨hji, ?_⟩
      by_cases h2 : j + 1 = i
      · right
        have := z_cat1 (ad := ad) (v := w) (fun x e => hp j x h2.symm (by rw [hw, e]))
        omega
      · exact Or.inl h2
theorem z_st2 {ad : Nat → Nat} {L : zL} {nL : Nat} {ls' : Array Slot} {i : Nat} {v : zV} (hp : ∀ j x, i = j + 1 → z_get L j ≠ some (.inr (.inl x)))
    (h : lv_has ls' nL ((i, z_val ad v) :: (z_asc ad 0 L).filter (fun q => !(q.1 == i) && (!(q.1 == i + 1) && !(q.1 + 1 == i && q.2.category == 2))))) : lv_has ls' nL (z_asc ad 0 (z_set (z_set L (i + 1) none) i (some v))) := by
  refine ⟨h.1, h.2.1, fun q hq => h.2.2 q ?_⟩
  obtain ⟨j, w, rfl, hw⟩ := z_asc_out ad _ 0 q hq
  rw [z_get_set, z_set_len] at hw
  rw [Nat.zero_add]
  by_cases hj : j = i ∧ i < L.length
  · rw [if_pos hj] at hw
    cases hw
    rw [hj.1]
    exact List.mem_cons_self
  · rw [if_neg hj, z_get_set] at hw
    by_cases hj1 : j = i + 1 ∧ i + 1 < L.length
    · rw [if_pos hj1] at hw; cases hw
    · rw [if_neg hj1] at hw
      have hlt := z_get_lt _ _ _ hw
      have hji : ¬ j = i := fun e => hj ⟨e, by omega⟩
      have hji1 : ¬ j = i + 1 := fun e => hj1 ⟨e, by omega⟩
      refine List.mem_cons_of_mem _ (List.mem_filter.mpr ⟨by have := z_asc_in ad L 0 j w hw; rwa [Nat.zero_add] at this, ?_⟩)
      simp only [Bool.and_eq_true, Bool.not_eq_true', beq_eq_false_iff_ne, ne_eq, Bool.and_eq_false_iff]
      refine ⟨hji, hji1, ?_⟩
      by_cases h2 : j + 1 = i
      · right
        have := z_cat1 (ad := ad) (v := w) (fun x e => hp j x h2.symm (by rw [hw, e]))
        omega
      · exact Or.inl h2
/-! ===== numbers ===== -/
theorem z_toInt {x : Int} (h : z_in x) : (Int32.ofInt x).toInt = x := by
  rw [Int32.toInt_ofInt]
  have hs : ((Int32.size : Nat) : Int) = 4294967296 := rfl
  exact Int.bmod_eq_of_le (by have := h.1; omega) (by have := h.2; omega)
theorem z_toIntL {x : Int} (h : z_inL x) : (Int64.ofInt x).toInt = x := by
  rw [Int64.toInt_ofInt]
  have hs : ((Int64.size : Nat) : Int) = 18446744073709551616 := rfl
  exact Int.bmod_eq_of_le (by have := h.1; omega) (by have := h.2; omega)
theorem z_of32 (x : Int32) : Int32.ofInt x.toInt = x := Int32.ofInt_toInt x
theorem z_in32 (x : Int32) : z_in x.toInt := ⟨by have := x.le_toInt; omega, by have := x.toInt_lt; omega⟩
theorem z_in64 (x : Int64) : z_inL x.toInt := ⟨by have := x.le_toInt; omega, by have := x.toInt_lt; omega⟩
theorem z_in8 (x : Int8) : z_in x.toInt := ⟨by have := x.le_toInt; omega, by have := x.toInt_lt; omega⟩
theorem z_in16 (x : Int16) : z_in x.toInt := ⟨by have := x.le_toInt; omega, by have := x.toInt_lt; omega⟩
theorem z_lt {x y : Int} (hx : z_in x) (hy : z_in y) : Int32.ofInt x < Int32.ofInt y ↔ x < y := by
  rw [Int32.lt_iff_toInt_lt, z_toInt hx, z_toInt hy]
theorem z_le {x y : Int} (hx : z_in x) (hy : z_in y) : Int32.ofInt x ≤ Int32.ofInt y ↔ x ≤ y := by
  rw [Int32.le_iff_toInt_le, z_toInt hx, z_toInt hy]
theorem z_eq {x y : Int} (hx : z_in x) (hy : z_in y) : Int32.ofInt x = Int32.ofInt y ↔ x = y :=
  ⟨fun h => by have := congrArg Int32.toInt h; rwa [z_toInt hx, z_toInt hy] at this, fun h => by rw [h]⟩
theorem z_in0 : z_in 0 := ⟨by omega, by omega⟩
theorem z_0 : (0 : Int32) = Int32.ofInt 0 := rfl
theorem z_clamp {x : Int} (h : z_in x) : (Int32.ofInt x).toNatClampNeg = x.toNat := by
  show (Int32.ofInt x).toInt.toNat = x.toNat
  rw [z_toInt h]
theorem z_vin {x : Int} (h : z_in x) {n : Nat} (h0 : 0 ≤ x) (h1 : x < n) : vp_in (Int32.ofInt x) n := by
  rw [vp_in_iff, z_toInt h]
  exact ⟨h0, h1⟩
theorem z_inN {n : Nat} (h : n < 2147483648) : z_in n := ⟨by omega, by omega⟩
theorem z_okm_up {σ : zM} (h : z_okm σ) (k j : Nat) {v : Int} (hv : z_in v) : z_okm (z_up σ k j v) := by
  intro a b g
  unfold z_up
  split
  · exact hv
  · exact h a b g
theorem z_okm_cpy {σ : zM} (h : z_okm σ) (k1 sp k2 dp n : Nat) (g1 : ¬ (89 ≤ k1 ∧ k1 < 108)) : z_okm (z_cpy σ k1 sp k2 dp n) := by
  intro a b g
  unfold z_cpy
  split
  · exact h _ _ g1
  · exact h a b g
theorem z_okl_set {zn : Nat} {fl : Bool} {L : zL} (h : z_okl zn fl L) (i : Nat) {v : zV} (hv : z_okv zn v) (hn : fl = true → ∀ x, v ≠ .inr (.inl x)) : z_okl zn fl (z_set L i (some v)) := by
  intro w hw
  rcases z_set_mem _ _ _ _ hw with e | hw
  · cases e; exact ⟨hv, hn⟩
  · exact h w hw
theorem z_okl_setn {zn : Nat} {fl : Bool} {L : zL} (h : z_okl zn fl L) (i : Nat) : z_okl zn fl (z_set L i none) := by
  intro w hw
  rcases z_set_mem _ _ _ _ hw with e | hw
  · cases e
  · exact h w hw
theorem z_oks_cons {zn : Nat} {v : zV} {st : List zV} (hv : z_okv zn v) (h : z_oks zn st) : z_oks zn (v :: st) := List.forall_mem_cons.mpr ⟨hv, h⟩
theorem z_oks_hd {zn : Nat} {v : zV} {st : List zV} (h : z_oks zn (v :: st)) : z_okv zn v := h v List.mem_cons_self
theorem z_oks_tl {zn : Nat} {v : zV} {st : List zV} (h : z_oks zn (v :: st)) : z_oks zn st := fun w hw => h w (List.mem_cons_of_mem _ hw)
/-! ===== the world as a list of cells ===== -/
theorem z_ix_at {zn k : Nat} (h : z_here zn k) : (z_ix zn)[z_pos k]? = some k := by
  unfold z_ix z_pos
  rcases h with h | ⟨h1, h2⟩
  · rw [if_pos (by omega), List.getElem?_append_left (by simp; omega)]
    simp [h]
  · rw [if_neg (by omega), List.getElem?_append_right (by simp; omega)]
    rw [List.length_range, List.getElem?_map, List.getElem?_range (by omega)]
    show some (108 + (k - 19 - 89)) = some k
    congr 1
    omega
theorem z_ix_out {zn i k : Nat} (h : (z_ix zn)[i]? = some k) : z_here zn k ∧ i = z_pos k := by
  unfold z_ix at h
  by_cases hi : i < 89
  · rw [List.getElem?_append_left (by simp; omega)] at h
    simp [hi] at h
    subst h
    exact ⟨Or.inl hi, by unfold z_pos; rw [if_pos (by omega)]⟩
  · rw [List.getElem?_append_right (by simp; omega), List.length_range, List.getElem?_map] at h
    by_cases h2 : i - 89 < zn
    · rw [List.getElem?_range h2] at h
      have e : 108 + (i - 89) = k := Option.some.inj h
      refine ⟨Or.inr ⟨by omega, by omega⟩, ?_⟩
      unfold z_pos
      rw [if_neg (by omega)]
      omega
    · rw [List.getElem?_eq_none (by simp; omega)] at h
      cases h
theorem z_ix_len {zn : Nat} : (z_ix zn).length = 89 + zn := by simp [z_ix]
theorem z_W_at {zn : Nat} {cA : Nat → ClassId} {ad : Nat → Nat} {σ : zM} {k : Nat} (h : z_here zn k) : (z_W zn cA ad σ)[z_pos k]? = some (ad k, z_E cA ad σ k) := by
  unfold z_W
  rw [List.getElem?_map, z_ix_at h]
  rfl
theorem z_W_set {zn : Nat} {cA : Nat → ClassId} {ad : Nat → Nat} {σ σ' : zM} {k : Nat} (h : z_here zn k) (ho : ∀ a, a ≠ k → z_here zn a → z_E cA ad σ' a = z_E cA ad σ a) : (z_W zn cA ad σ).set (z_pos k) (ad k, z_E cA ad σ' k) = z_W zn cA ad σ' := by
  refine List.ext_getElem? fun i => ?_
  rw [List.getElem?_set]
  by_cases hk : z_pos k = i
  · subst hk
    rw [if_pos rfl, z_W_at h, if_pos]
    exact (List.getElem?_eq_some_iff.mp (z_W_at (cA := cA) (ad := ad) (σ := σ) h)).1
  · rw [if_neg hk]
    unfold z_W
    rw [List.getElem?_map, List.getElem?_map]
    cases e : (z_ix zn)[i]? with
    | none => rfl
    | some a =>
      obtain ⟨h1, h2⟩ := z_ix_out e
      show some (ad a, z_E cA ad σ a) = some (ad a, z_E cA ad σ' a)
      rw [ho a (fun q => hk (by rw [h2, q])) h1]
theorem z_E_ne {cA : Nat → ClassId} {ad : Nat → Nat} {σ σ' : zM} {a : Nat} (h : ∀ j, σ' a j = σ a j) : z_E cA ad σ' a = z_E cA ad σ a := by
  have e : σ' a = σ a := funext h
  simp only [z_E, z_fs, e]
theorem z_D {zn : Nat} {A : Nat → Prop} {cA : Nat → ClassId} {ad : Nat → Nat} {σ : zM} (hi : z_inj zn ad) (hA : ∀ q, z_A zn ad q → A q) : va_D A (z_W zn cA ad σ) := by
  have key : ∀ (k : Nat) (q : Nat × va_E), (z_W zn cA ad σ)[k]? = some q → ∃ a, z_here zn a ∧ q.1 = ad a ∧ k = z_pos a := by
    intro k q h
    unfold z_W at h
    rw [List.getElem?_map] at h
    cases e : (z_ix zn)[k]? with
    | none => rw [e] at h; cases h
    | some a =>
      rw [e] at h
      cases h
      obtain ⟨h1, h2⟩ := z_ix_out e
      exact ⟨a, h1, rfl, h2⟩
  refine ⟨fun i j p q hp hq e => ?_, fun k q h => ?_⟩
  · obtain ⟨a, h1, h2, h3⟩ := key i p hp
    obtain ⟨b, h4, h5, h6⟩ := key j q hq
    rw [h3, h6, hi a b h1 h4 (by rw [← h2, ← h5, e])]
  · obtain ⟨a, h1, h2, -⟩ := key k q h
    exact hA _ ⟨a, h1, h2⟩
theorem z_kd_lt {k c n : Nat} (h : z_kd k = (c, n)) (hc : c < 200) : k < 111 := by
  rcases Nat.lt_or_ge k 111 with h1 | h1
  · exact h1
  · unfold z_kd at h
    rw [if_neg (by omega)] at h
    repeat' (split at h)
    all_goals (cases h; omega)
theorem z_kd_ng {k c n : Nat} (h : z_kd k = (c, n)) (hc : c < 900) : ¬ (89 ≤ k ∧ k < 108) := by
  intro q
  have key : ∀ i, i < 108 → 89 ≤ i → z_kd i = (999, 0) := by decide +kernel
  have := (key k q.2 q.1).symm.trans h
  cases this
  omega
theorem z_kp.here {zn k c n : Nat} (h : z_kp zn k c n) (hc : c < 200) : z_here zn k := by
  have h1 := z_kd_lt h.1 hc
  have h2 := z_kd_ng h.1 (by omega)
  have h3 := h.2
  unfold z_here
  omega
theorem z_kp.hi {zn k c n : Nat} (h : z_kd k = (c, n)) (hk : ¬ (108 ≤ k ∧ k < 111)) : z_kp zn k c n := ⟨h, fun a b => absurd ⟨a, b⟩ hk⟩
theorem z_len_ok {k c n : Nat} (h : z_kd k = (c, n)) : n ≤ 400 := by
  have key : ∀ q ∈ z_kds, q.2 ≤ 400 := by decide +kernel
  unfold z_kd at h
  by_cases h1 : k < 111
  · rw [if_pos h1] at h
    have h2 : k < z_kds.length := h1
    have := key _ (List.getElem_mem h2)
    rw [List.getD_eq_getElem?_getD, List.getElem?_eq_getElem h2] at h
    simp only [Option.getD_some] at h
    rw [h] at this
    exact this
  · rw [if_neg h1] at h
    repeat' (split at h)
    all_goals (cases h; first | omega | skip)
    have key2 : ∀ i, i < 11 → z_slen.getD i 0 ≤ 400 := by decide +kernel
    exact key2 _ (by omega)
/-- an object's cell -/
theorem z_obj {zn : Nat} {cA : Nat → ClassId} {ad : Nat → Nat} {σ : zM} {k c n : Nat} (h : z_kp zn k c n) (hc : c < 100) : (z_W zn cA ad σ)[z_pos k]? = some (ad k, .inr (c, z_fs ad σ k (z_fo c))) := by
  rw [z_W_at (h.here (by omega)), z_E, if_pos (by rw [h.1]; exact hc), h.1]
theorem z_arr {zn : Nat} {cA : Nat → ClassId} {ad : Nat → Nat} {σ : zM} {k t n : Nat} (h : z_kp zn k (100 + t) n) (hc : t < 100) : (z_W zn cA ad σ)[z_pos k]? = some (ad k, .inl (cA t, n, .inl (fun j => Int32.ofInt (σ k j)))) := by
  rw [z_W_at (h.here (by omega)), z_E, if_neg (by rw [h.1]; show ¬ 100 + t < 100; omega), h.1]
  show some (ad k, Sum.inl (cA (100 + t - 100), n, _)) = _
  rw [show 100 + t - 100 = t by omega]
theorem z_fs_int {ad : Nat → Nat} {σ : zM} {k j : Nat} {os : List Nat} (hj : j < os.length) (h0 : os.getD j 0 = 0) : (z_fs ad σ k os)[j]? = some (.int (Int32.ofInt (σ k j))) := by
  simp only [z_fs, List.getElem?_map, List.getElem?_range hj, Option.map_some, h0, if_pos]
theorem z_fs_ref {ad : Nat → Nat} {σ : zM} {k j o : Nat} {os : List Nat} (hj : j < os.length) (h0 : os.getD j 0 = o) (ho : o ≠ 0) : (z_fs ad σ k os)[j]? = some (.ref (ad (k + o))) := by
  simp only [z_fs, List.getElem?_map, List.getElem?_range hj, Option.map_some, h0, if_neg ho]
theorem z_fs_set {ad : Nat → Nat} {σ : zM} {k j : Nat} {os : List Nat} (hj : j < os.length) (h0 : os.getD j 0 = 0) (v : Int) : (z_fs ad σ k os).set j (.int (Int32.ofInt v)) = z_fs ad (z_up σ k j v) k os := by
  refine List.ext_getElem? fun i => ?_
  by_cases hi : i < os.length
  · rw [List.getElem?_set]
    by_cases hji : j = i
    · subst hji
      rw [if_pos rfl, if_pos (by simp [z_fs]; exact hi), z_fs_int hi h0]
      simp [z_up]
    · rw [if_neg hji]
      by_cases hz : os.getD i 0 = 0
      · rw [z_fs_int hi hz, z_fs_int hi hz]
        rw [z_up, if_neg (fun e => hji e.2.symm)]
      · rw [z_fs_ref hi rfl hz, z_fs_ref hi rfl hz]
  · rw [List.getElem?_eq_none (by simp [z_fs]; omega), List.getElem?_eq_none (by simp [z_fs]; omega)]
theorem z_W_put {zn : Nat} {cA : Nat → ClassId} {ad : Nat → Nat} {σ : zM} {k c n j : Nat} (h : z_kp zn k c n) (hc : c < 100) (hj : j < (z_fo c).length) (h0 : (z_fo c).getD j 0 = 0) (v : Int) : (z_W zn cA ad σ).set (z_pos k) (ad k, .inr (c, (z_fs ad σ k (z_fo c)).set j (.int (Int32.ofInt v)))) = z_W zn cA ad (z_up σ k j v) := by
  rw [z_fs_set hj h0]
  have e : z_E cA ad (z_up σ k j v) k = .inr (c, z_fs ad (z_up σ k j v) k (z_fo c)) := by rw [z_E, if_pos (by rw [h.1]; exact hc), h.1]
  rw [← e]
  exact z_W_set (h.here (by omega)) (fun a ha _ => z_E_ne (fun b => by simp [z_up, ha]))
theorem z_W_ast {zn : Nat} {cA : Nat → ClassId} {ad : Nat → Nat} {σ : zM} {k t n : Nat} (h : z_kp zn k (100 + t) n) (hc : t < 100) (i : Nat) (v : Int) : (z_W zn cA ad σ).set (z_pos k) (ad k, .inl (cA t, n, .inl (upd (fun j => Int32.ofInt (σ k j)) i (Int32.ofInt v)))) = z_W zn cA ad (z_up σ k i v) := by
  have e : z_E cA ad (z_up σ k i v) k = .inl (cA t, n, .inl (upd (fun j => Int32.ofInt (σ k j)) i (Int32.ofInt v))) := by
    rw [z_E, if_neg (by rw [h.1]; show ¬ 100 + t < 100; omega), h.1]
    show Sum.inl (cA (100 + t - 100), n, _) = _
    rw [show 100 + t - 100 = t by omega]
    congr 4
    funext j
    by_cases hj : j = i
    · simp [z_up, upd, hj]
    · simp [z_up, upd, hj]
  rw [← e]
  exact z_W_set (h.here (by omega)) (fun a ha _ => z_E_ne (fun b => by simp [z_up, ha]))
theorem z_W_cpy {zn : Nat} {cA : Nat → ClassId} {ad : Nat → Nat} {σ : zM} {k1 k2 n : Nat} (h : z_kp zn k2 100 n) (sp dp w : Nat) : (z_W zn cA ad σ).set (z_pos k2) (ad k2, .inl (cA 0, n, .inl (va_cpy (fun j => Int32.ofInt (σ k1 j)) (fun j => Int32.ofInt (σ k2 j)) sp dp w))) = z_W zn cA ad (z_cpy σ k1 sp k2 dp w) := by
  have e : z_E cA ad (z_cpy σ k1 sp k2 dp w) k2 = .inl (cA 0, n, .inl (va_cpy (fun j => Int32.ofInt (σ k1 j)) (fun j => Int32.ofInt (σ k2 j)) sp dp w)) := by
    rw [z_E, if_neg (by rw [h.1]; show ¬ 100 < 100; omega), h.1]
    show Sum.inl (cA (100 - 100), n, _) = _
    congr 4
    funext j
    by_cases hj : dp ≤ j ∧ j < dp + w
    · simp [z_cpy, va_cpy, hj]
    · simp [z_cpy, va_cpy, hj]
  rw [← e]
  exact z_W_set (h.here (by omega)) (fun a ha _ => z_E_ne (fun b => by simp [z_cpy, ha]))
