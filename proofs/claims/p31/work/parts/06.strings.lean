section ZS
variable {zx : zX} {zn : Nat} {zA : Nat → Prop} {cl sl : Nat} {p : Program} {l : Launch} {e : Env} {R : Room} {s : State} {m : MethodId} {args : Array Value} {below : List Frame} {meth : Method} {c : Code} {Q : State → Prop} {cc : ByteArray} {own : String} {nL : Nat} {D : va_G} {cA : Nat → ClassId} {ad : Nat → Nat} {fl : Bool}
def z_ldcs (j : Nat) (B : zB) (L : zL) (st : List zV) (σ : zM) : Prop := B L (.inr (.inr (200, 0, 1000 + j)) :: st) σ
-- the script
def z_xald (zx : zX) (B : zB) (L : zL) (st : List zV) (σ : zM) : Prop := match st with
  | .inl i :: .inr (.inr (c, _, _)) :: st => (c = 252 ∧ 0 ≤ i ∧ i < (zx.1 : Int)) ∧ B L (.inl (zx.2 i.toNat).toInt :: st) σ
  | _ => False
def z_xlen (zx : zX) (B : zB) (L : zL) (st : List zV) (σ : zM) : Prop := match st with
  | .inr (.inr (c, _, _)) :: st => c = 252 ∧ B L (.inl (zx.1 : Int) :: st) σ
  | _ => False
def z_strv (B : zB) (L : zL) (st : List zV) (σ : zM) : Prop := match st with
  | .inr (.inr (c, _, k)) :: st => c = 200 ∧ B L (.inr (.inr (201, z_slen.getD (k - 1000) 0, k + 100)) :: st) σ
  | _ => False
def z_strc (B : zB) (L : zL) (st : List zV) (σ : zM) : Prop := match st with
  | .inr (.inr (c, _, _)) :: st => c = 200 ∧ B L (.inl 0 :: st) σ
  | _ => False
def z_gcs (B : zB) (L : zL) (st : List zV) (σ : zM) : Prop := B L (.inl 1 :: st) σ
def z_gfm (B : zB) (L : zL) (st : List zV) (σ : zM) : Prop := B L (.inr (.inr (250, 0, 1300)) :: st) σ ∧ B L (.inr (.inr (251, 0, 1200)) :: st) σ
def z_sln (B : zB) (L : zL) (st : List zV) (σ : zM) : Prop := match st with
  | .inr (.inr (c, n, _)) :: st => c = 201 ∧ B L (.inl (n : Int) :: st) σ
  | _ => False
def z_sch (j : Nat) (i : Nat) : Int := ((z_sbyt.getD j []).getD i 0).toInt
def z_sald (B : zB) (L : zL) (st : List zV) (σ : zM) : Prop := match st with
  | .inl i :: .inr (.inr (c, n, k)) :: st => (c = 201 ∧ 0 ≤ i ∧ i < (n : Int)) ∧ B L (.inl (z_sch (k - 1100) i.toNat) :: st) σ
  | _ => False
theorem z_kd252 {k n : Nat} (h : z_kd k = (252, n)) : k = 1400 := by
  by_cases h1 : k < 111
  · have key : ∀ i, i < 111 → (z_kd i).1 ≠ 252 := by decide +kernel
    exact absurd (by rw [h]) (key k h1)
  · unfold z_kd at h
    rw [if_neg h1] at h
    repeat' (split at h)
    all_goals first | assumption | (cases h; done) | (exact absurd (congrArg Prod.fst h) (by decide))
theorem s_xald (C : z_Cx zx zn zA cl sl p R s m args c cc own nL D cA ad) {pc : Nat} (d : decode cc pc = .ok (.iaload, 1)) {B : zB} (hB : ∀ L st σ, B L st σ → z_X zx zn zA cl sl p l e R s m args below meth c Q nL D cA ad fl (pc + 1) L st σ) : ∀ L st σ, z_xald zx B L st σ → z_X zx zn zA cl sl p l e R s m args below meth c Q nL D cA ad fl pc L st σ := by
  intro L st σ h hn hL hst hσ H locs ls hP hS hl
  obtain ⟨hx, hb, hml, hown, hts, hK, hi, hAz, hcs, hE⟩ := C
  rcases st with _ | ⟨x | x | ⟨c, n, k⟩, _ | ⟨y | y | ⟨c1, n1, k1⟩, st⟩⟩ <;> try (exact h.elim)
  obtain ⟨⟨rfl, g0, g1⟩, h⟩ := h
  have hx9 : z_in x := z_oks_hd hst
  have hk : z_kp zn k1 252 n1 := z_oks_hd (z_oks_tl hst)
  obtain rfl := z_kd252 hk.1
  have hw9 := hB _ _ _ h hn hL (z_oks_cons (z_in32 _) (z_oks_tl (z_oks_tl hst))) hσ H locs ls hP hS hl
  simp only [List.map_cons, z_val, if_neg (show ¬ 252 = 250 by omega)] at hw9 ⊢
  refine va_sld hx hb hE.2.1 hE.2.2.1 hE.2.2.2.1 hS (z_vin hx9 g0 g1) d ?_
  rw [z_clamp hx9]
  rw [z_of32] at hw9
  exact hw9
theorem s_xlen (C : z_Cx zx zn zA cl sl p R s m args c cc own nL D cA ad) {pc : Nat} (d : decode cc pc = .ok (.arraylength, 1)) {B : zB} (hB : ∀ L st σ, B L st σ → z_X zx zn zA cl sl p l e R s m args below meth c Q nL D cA ad fl (pc + 1) L st σ) : ∀ L st σ, z_xlen zx B L st σ → z_X zx zn zA cl sl p l e R s m args below meth c Q nL D cA ad fl pc L st σ := by
  intro L st σ h hn hL hst hσ H locs ls hP hS hl
  obtain ⟨hx, hb, hml, hown, hts, hK, hi, hAz, hcs, hE⟩ := C
  rcases st with _ | ⟨x | x | ⟨c, n, k⟩, st⟩ <;> try (exact h.elim)
  obtain ⟨rfl, h⟩ := h
  have hk : z_kp zn k 252 n := z_oks_hd hst
  obtain rfl := z_kd252 hk.1
  have hw9 := hB _ _ _ h hn hL (z_oks_cons (z_inN (by have := hE.2.2.2.2; omega)) (z_oks_tl hst)) hσ H locs ls hP hS hl
  simp only [List.map_cons, z_val, if_neg (show ¬ 252 = 250 by omega)] at hw9 ⊢
  exact va_slen hx hb hE.2.1 hE.2.2.1 hE.2.2.2.1 hS d hw9
theorem z_kd_hi {k : Nat} (h1 : ¬ k < 111) : (z_kd k).1 = 200 ∨ (z_kd k).1 = 201 → (1000 ≤ k ∧ k < 1011 ∧ z_kd k = (200, 0)) ∨ (1100 ≤ k ∧ k < 1111 ∧ z_kd k = (201, z_slen.getD (k - 1100) 0)) := by
  intro h
  unfold z_kd at h ⊢
  rw [if_neg h1] at h ⊢
  by_cases h2 : k < 1000
  · rw [if_pos h2] at h; exact absurd h (by decide)
  rw [if_neg h2] at h ⊢
  by_cases h3 : k < 1011
  · rw [if_pos h3]; exact Or.inl ⟨by omega, h3, rfl⟩
  rw [if_neg h3] at h ⊢
  by_cases h4 : k < 1100
  · rw [if_pos h4] at h; exact absurd h (by decide)
  rw [if_neg h4] at h ⊢
  by_cases h5 : k < 1111
  · rw [if_pos h5]; exact Or.inr ⟨by omega, h5, rfl⟩
  rw [if_neg h5] at h
  by_cases h6 : k = 1200
  · rw [if_pos h6] at h; exact absurd h (by decide)
  rw [if_neg h6] at h
  by_cases h7 : k = 1300
  · rw [if_pos h7] at h; exact absurd h (by decide)
  rw [if_neg h7] at h
  by_cases h8 : k = 1400
  · rw [if_pos h8] at h; exact absurd h (by decide)
  rw [if_neg h8] at h; exact absurd h (by decide)
theorem z_kd_lo {k : Nat} (h1 : k < 111) : (z_kd k).1 ≠ 200 ∧ (z_kd k).1 ≠ 201 := by
  have key : ∀ i, i < 111 → (z_kd i).1 ≠ 200 ∧ (z_kd i).1 ≠ 201 := by decide +kernel
  exact key k h1
theorem z_kd200 {k n : Nat} (h : z_kd k = (200, n)) : ∃ j, j < 11 ∧ k = 1000 + j ∧ n = 0 := by
  have h1 : ¬ k < 111 := fun q => (z_kd_lo q).1 (by rw [h])
  rcases z_kd_hi h1 (Or.inl (by rw [h])) with ⟨g1, g2, g3⟩ | ⟨g1, g2, g3⟩
  · exact ⟨k - 1000, by omega, by omega, (Prod.mk.inj (h.symm.trans g3)).2⟩
  · exact absurd (congrArg Prod.fst (h.symm.trans g3)) (show ¬ (200 : Nat) = 201 by decide)
theorem z_kd201 {k n : Nat} (h : z_kd k = (201, n)) : ∃ j, j < 11 ∧ k = 1100 + j ∧ n = z_slen.getD j 0 := by
  have h1 : ¬ k < 111 := fun q => (z_kd_lo q).2 (by rw [h])
  rcases z_kd_hi h1 (Or.inr (by rw [h])) with ⟨g1, g2, g3⟩ | ⟨g1, g2, g3⟩
  · exact absurd (congrArg Prod.fst (h.symm.trans g3)) (show ¬ (201 : Nat) = 200 by decide)
  · exact ⟨k - 1100, by omega, by omega, (Prod.mk.inj (h.symm.trans g3)).2⟩
theorem z_kdA {j : Nat} (h : j < 11) : z_kd (1100 + j) = (201, z_slen.getD j 0) := by
  unfold z_kd
  rw [if_neg (by omega), if_neg (by omega), if_neg (by omega), if_neg (by omega), if_pos (by omega), show 1100 + j - 1100 = j by omega]
theorem z_kdS {j : Nat} (h : j < 11) : z_kd (1000 + j) = (200, 0) := by
  unfold z_kd
  rw [if_neg (by omega), if_neg (by omega), if_pos (by omega)]
theorem s_ldcs (C : z_Cx zx zn zA cl sl p R s m args c cc own nL D cA ad) {pc ix j : Nat} (d : decode cc pc = .ok (.ldc ix, 2)) (hj : j < 11) (ho : own = "WindHarp$Reader") (hix : z_sidx.getD j 0 = ix) {B : zB} (hB : ∀ L st σ, B L st σ → z_X zx zn zA cl sl p l e R s m args below meth c Q nL D cA ad fl (pc + 2) L st σ) : ∀ L st σ, z_ldcs j B L st σ → z_X zx zn zA cl sl p l e R s m args below meth c Q nL D cA ad fl pc L st σ := by
  intro L st σ h hn hL hst hσ H locs ls hP hS hl
  obtain ⟨hx, hb, hml, hown, hts, hK, hi, hAz, hcs, hE⟩ := C
  subst ho; subst hix
  have hw9 := hB _ _ _ h hn hL (z_oks_cons (z_kp.hi (z_kdS hj) (by omega)) hst) hσ H locs ls hP hS hl
  simp only [List.map_cons, z_val, if_neg (show ¬ 200 = 250 by omega)] at hw9 ⊢
  exact va_ldcS hx hb hown (hE.1.2.2.2 j hj) d hw9
theorem s_strv (C : z_Cx zx zn zA cl sl p R s m args c cc own nL D cA ad) {pc ix : Nat} (d : decode cc pc = .ok (.getfield ix, 3)) (hw : Cond.fieldLink own ix "java/lang/String" "value" "[B" ∈ z_tbl) {B : zB} (hB : ∀ L st σ, B L st σ → z_X zx zn zA cl sl p l e R s m args below meth c Q nL D cA ad fl (pc + 3) L st σ) : ∀ L st σ, z_strv B L st σ → z_X zx zn zA cl sl p l e R s m args below meth c Q nL D cA ad fl pc L st σ := by
  intro L st σ h hn hL hst hσ H locs ls hP hS hl
  obtain ⟨hx, hb, hml, hown, hts, hK, hi, hAz, hcs, hE⟩ := C
  rcases st with _ | ⟨x | x | ⟨c, n, k⟩, st⟩ <;> try (exact h.elim)
  obtain ⟨rfl, h⟩ := h
  obtain ⟨j, hj, rfl, rfl⟩ := z_kd200 (z_oks_hd hst).1
  have e1 : 1000 + j - 1000 = j := by omega
  have e2 : 1000 + j + 100 = 1100 + j := by omega
  rw [e1, e2] at h
  have hw9 := hB _ _ _ h hn hL (z_oks_cons (z_kp.hi (z_kdA hj) (by omega)) (z_oks_tl hst)) hσ H locs ls hP hS hl
  simp only [List.map_cons, z_val, if_neg (show ¬ 200 = 250 by omega), if_neg (show ¬ 201 = 250 by omega)] at hw9 ⊢
  exact vk_getf hx hb (hE.1.1.1 j hj).2.2.1 hS hown (hts _ hw) (fun _ q => q) d hw9
theorem s_strc (C : z_Cx zx zn zA cl sl p R s m args c cc own nL D cA ad) {pc ix : Nat} (d : decode cc pc = .ok (.getfield ix, 3)) (hw : Cond.fieldLink own ix "java/lang/String" "coder" "B" ∈ z_tbl) {B : zB} (hB : ∀ L st σ, B L st σ → z_X zx zn zA cl sl p l e R s m args below meth c Q nL D cA ad fl (pc + 3) L st σ) : ∀ L st σ, z_strc B L st σ → z_X zx zn zA cl sl p l e R s m args below meth c Q nL D cA ad fl pc L st σ := by
  intro L st σ h hn hL hst hσ H locs ls hP hS hl
  obtain ⟨hx, hb, hml, hown, hts, hK, hi, hAz, hcs, hE⟩ := C
  rcases st with _ | ⟨x | x | ⟨c, n, k⟩, st⟩ <;> try (exact h.elim)
  obtain ⟨rfl, h⟩ := h
  obtain ⟨j, hj, rfl, rfl⟩ := z_kd200 (z_oks_hd hst).1
  have hw9 := hB _ _ _ h hn hL (z_oks_cons z_in0 (z_oks_tl hst)) hσ H locs ls hP hS hl
  simp only [List.map_cons, z_val, if_neg (show ¬ 200 = 250 by omega)] at hw9 ⊢
  exact vk_getf hx hb (hE.1.1.1 j hj).2.1 hS hown (hts _ hw) (fun _ q => q) d hw9
theorem s_gcs (C : z_Cx zx zn zA cl sl p R s m args c cc own nL D cA ad) {pc ix : Nat} (d : decode cc pc = .ok (.getstatic ix, 3)) (hw : Cond.fieldLink own ix "java/lang/String" "COMPACT_STRINGS" "Z" ∈ z_tbl) {B : zB} (hB : ∀ L st σ, B L st σ → z_X zx zn zA cl sl p l e R s m args below meth c Q nL D cA ad fl (pc + 3) L st σ) : ∀ L st σ, z_gcs B L st σ → z_X zx zn zA cl sl p l e R s m args below meth c Q nL D cA ad fl pc L st σ := by
  intro L st σ h hn hL hst hσ H locs ls hP hS hl
  obtain ⟨hx, hb, hml, hown, hts, hK, hi, hAz, hcs, hE⟩ := C
  exact va_gets hx hb hE.1.2.1 hS hown (hts _ hw) (fun _ q => q) d (hB _ _ _ h hn hL (z_oks_cons (v := .inl 1) ⟨by decide, by decide⟩ hst) hσ H locs ls hP hS hl)
theorem s_gfm (C : z_Cx zx zn zA cl sl p R s m args c cc own nL D cA ad) {pc ix : Nat} (d : decode cc pc = .ok (.getstatic ix, 3)) (hw : Cond.fieldLink own ix "jdk/internal/util/Preconditions" "SIOOBE_FORMATTER" "Ljava/util/function/BiFunction;" ∈ z_tbl) {B : zB} (hB : ∀ L st σ, B L st σ → z_X zx zn zA cl sl p l e R s m args below meth c Q nL D cA ad fl (pc + 3) L st σ) : ∀ L st σ, z_gfm B L st σ → z_X zx zn zA cl sl p l e R s m args below meth c Q nL D cA ad fl pc L st σ := by
  intro L st σ h hn hL hst hσ H locs ls hP hS hl
  obtain ⟨hx, hb, hml, hown, hts, hK, hi, hAz, hcs, hE⟩ := C
  rcases hE.1.2.2.1 with q | q
  · exact va_gets hx hb q hS hown (hts _ hw) (fun _ q => q) d (hB _ _ _ h.1 hn hL (z_oks_cons (v := .inr (.inr (250, 0, 1300))) (z_kp.hi rfl (by omega)) hst) hσ H locs ls hP hS hl)
  · exact va_gets hx hb q hS hown (hts _ hw) (fun _ q => q) d (hB _ _ _ h.2 hn hL (z_oks_cons (v := .inr (.inr (251, 0, 1200))) (z_kp.hi rfl (by omega)) hst) hσ H locs ls hP hS hl)
theorem s_sln (C : z_Cx zx zn zA cl sl p R s m args c cc own nL D cA ad) {pc : Nat} (d : decode cc pc = .ok (.arraylength, 1)) {B : zB} (hB : ∀ L st σ, B L st σ → z_X zx zn zA cl sl p l e R s m args below meth c Q nL D cA ad fl (pc + 1) L st σ) : ∀ L st σ, z_sln B L st σ → z_X zx zn zA cl sl p l e R s m args below meth c Q nL D cA ad fl pc L st σ := by
  intro L st σ h hn hL hst hσ H locs ls hP hS hl
  obtain ⟨hx, hb, hml, hown, hts, hK, hi, hAz, hcs, hE⟩ := C
  rcases st with _ | ⟨x | x | ⟨c, n, k⟩, st⟩ <;> try (exact h.elim)
  obtain ⟨rfl, h⟩ := h
  have hk : z_kp zn k 201 n := z_oks_hd hst
  have hw9 := hB _ _ _ h hn hL (z_oks_cons (z_inlen hk) (z_oks_tl hst)) hσ H locs ls hP hS hl
  obtain ⟨j, hj, rfl, rfl⟩ := z_kd201 hk.1
  simp only [List.map_cons, z_val, if_neg (show ¬ 201 = 250 by omega)] at hw9 ⊢
  exact va_tlen hx hb (hE.1.1.1 j hj).2.2.2 hS rfl d hw9
theorem s_sald (C : z_Cx zx zn zA cl sl p R s m args c cc own nL D cA ad) {pc : Nat} (d : decode cc pc = .ok (.baload, 1)) {B : zB} (hB : ∀ L st σ, B L st σ → z_X zx zn zA cl sl p l e R s m args below meth c Q nL D cA ad fl (pc + 1) L st σ) : ∀ L st σ, z_sald B L st σ → z_X zx zn zA cl sl p l e R s m args below meth c Q nL D cA ad fl pc L st σ := by
  intro L st σ h hn hL hst hσ H locs ls hP hS hl
  obtain ⟨hx, hb, hml, hown, hts, hK, hi, hAz, hcs, hE⟩ := C
  rcases st with _ | ⟨x | x | ⟨c, n, k⟩, _ | ⟨y | y | ⟨c1, n1, k1⟩, st⟩⟩ <;> try (exact h.elim)
  obtain ⟨⟨rfl, g0, g1⟩, h⟩ := h
  have hx9 : z_in x := z_oks_hd hst
  obtain ⟨j, hj, rfl, rfl⟩ := z_kd201 (z_oks_hd (z_oks_tl hst)).1
  rw [show 1100 + j - 1100 = j by omega] at h
  have hw9 := hB _ _ _ h hn hL (z_oks_cons (z_in32 _) (z_oks_tl (z_oks_tl hst))) hσ H locs ls hP hS hl
  simp only [List.map_cons, z_val, if_neg (show ¬ 201 = 250 by omega)] at hw9 ⊢
  exact va_tb hx hb (hE.1.1.1 j hj).2.2.2 hS (z_vin hx9 g0 g1) (by rw [z_clamp hx9]; exact congrArg Value.int (z_of32 _).symm) d hw9
theorem s_callZ (C : z_Cx zx zn zA cl sl p R s m args c cc own nL D cA ad) {pc ix : Nat} {y : MethodName} {bytes : ByteArray} {maxL fr lo n : Nat} {ret : Option FieldType} {S : zS} (d : decode cc pc = .ok (.invokevirtual ix, 3)) (hok : z_OK zx zn l y bytes maxL ret fr lo S) (hcn : y.cls = "java/lang/String") (hw1 : Cond.methodLink own ix y ∈ z_tbl) (hw2 : Cond.instanceMethod y ∈ z_tbl) (hw5 : Cond.selects y.cls y y ∈ z_tbl) (hw3 : Cond.initialized y.cls ∈ z_tbl) (hw4 : Cond.code y bytes maxL ret ∈ z_tbl)
    (hd : y.cls ≠ "java/lang/invoke/MethodHandle" ∧ y.cls ≠ "java/lang/invoke/VarHandle" ∧ (parseMethodDescriptor y.desc).map (fun d => d.parameters.length) = some n) (hR : fr + 1 ≤ R.frames ∧ 8 + (maxL + 11) + lo ≤ R.locals) {B : zB} (hB : ∀ L st σ, B L st σ → z_X zx zn zA cl sl p l e R s m args below meth c Q nL D cA ad fl (pc + 3) L st σ)
    {L : zL} {as st : List zV} {σ : zM} {n0 k0 : Nat} (hn1 : as.length = n) (h4 : st.length ≤ 4) (h : S (.inr (.inr (200, n0, k0)) :: as) σ (fun r σ' => B L (z_cat r st) σ')) : z_X zx zn zA cl sl p l e R s m args below meth c Q nL D cA ad fl pc L (as.reverse ++ .inr (.inr (200, n0, k0)) :: st) σ := by
  intro hn hL hst hσ H locs ls hP hS hl
  obtain ⟨hx, hb, hml, hown, hts, hK, hi, hAz, hcs, hE⟩ := C
  have hth : z_okv zn (.inr (.inr (200, n0, k0))) := hst _ (List.mem_append_right _ List.mem_cons_self)
  have has : z_oks zn (.inr (.inr (200, n0, k0)) :: as) := z_oks_cons hth (fun v hv => hst v (List.mem_append_left _ (List.mem_reverse.mpr hv)))
  have hs2 : z_oks zn st := fun v hv => hst v (List.mem_append_right _ (List.mem_cons_of_mem _ hv))
  obtain ⟨j, hj, rfl, rfl⟩ := z_kd200 hth.1
  have ev : z_val ad (.inr (.inr (200, 0, 1000 + j))) = .ref (ad (1000 + j)) := by simp only [z_val, if_neg (show ¬ 200 = 250 by omega)]
  rw [List.map_append, List.map_reverse, List.map_cons, ev]
  have hM := hok D cA ad _ σ _ hi has hσ h
  rw [List.map_cons, ev] at hM
  refine z_callk hAz (va_runV (As := as.map (z_val ad)) (rest := st.map (z_val ad)) (b := ad (1000 + j)) (C := y.cls) ⟨hx, hb, hml, hown, hts⟩ hM ⟨⟨rfl, rfl, hR.1, hR.2, pay_in (big := z_tbl) hts (z_good (fun w hw => by rcases List.mem_cons.mp hw with rfl | hw; exact hw4; exact hw)), List.mem_cons_self, hts _ hw4, hts _ hw3, ⟨hd.1, hd.2.1⟩, fun sig hsg => by have h2 := hd.2.2; rw [hsg] at h2; exact (Option.some.inj h2).symm, hts _ hw1⟩, hts _ hw2, hts _ hw5⟩
    ⟨fun a U g mk q => ⟨q.1, q.2.1, va_K.moved (u := U) (U := U.calling g mk a) (Vm.Alike.refl U.vm) q.2.2.1, z_St.same (U := U.calling g mk a) (s := U) rfl q.2.2.2⟩, by rw [hcn]; exact vk_recv (adK := fun i => ad (1000 + i)) (i := j) hE.1.1 hj hS, fun U hU hW => ⟨rfl, by rw [hU]; exact hP, va_K.moved hW.alike hK, (z_St.to hW hE (by rw [hU]; exact hS.1) (by rw [hU]; exact hS.2.1)).narrow hAz⟩⟩ rfl (by rw [List.length_map]; exact hn1) hl.1 rfl (lv_room (z_sum ad st h4)) d ⟨hcs.1, hcs.2⟩) hS (fun r σ' H1 locs1 hR1 hr1 hσ1 hP1 hS1 => ?_)
  rw [← z_cat_map]
  exact hB _ _ _ hR1 hn hL (z_cat_ok hr1 hs2) hσ1 H1 locs1 ls hP1 hS1 hl
theorem s_cz0 (C : z_Cx zx zn zA cl sl p R s m args c cc own nL D cA ad) {pc ix : Nat} {y : MethodName} {bytes : ByteArray} {maxL fr lo : Nat} {ret : Option FieldType} {S : zS} (d : decode cc pc = .ok (.invokevirtual ix, 3)) (hok : z_OK zx zn l y bytes maxL ret fr lo S) (hcn : y.cls = "java/lang/String") (hw1 : Cond.methodLink own ix y ∈ z_tbl) (hw2 : Cond.instanceMethod y ∈ z_tbl) (hw5 : Cond.selects y.cls y y ∈ z_tbl) (hw3 : Cond.initialized y.cls ∈ z_tbl) (hw4 : Cond.code y bytes maxL ret ∈ z_tbl) (hd : y.cls ≠ "java/lang/invoke/MethodHandle" ∧ y.cls ≠ "java/lang/invoke/VarHandle" ∧ (parseMethodDescriptor y.desc).map (fun d => d.parameters.length) = some 0) (hR : fr + 1 ≤ R.frames ∧ 8 + (maxL + 11) + lo ≤ R.locals) {B : zB} (hB : ∀ L st σ, B L st σ → z_X zx zn zA cl sl p l e R s m args below meth c Q nL D cA ad fl (pc + 3) L st σ) : ∀ L st σ, z_cv0 200 S B L st σ → z_X zx zn zA cl sl p l e R s m args below meth c Q nL D cA ad fl pc L st σ := by
  intro L st σ h
  rcases st with _ | ⟨x | x | ⟨c, n, k⟩, st⟩ <;> try (exact h.elim)
  obtain ⟨⟨rfl, h4⟩, h⟩ := h
  exact s_callZ C d hok hcn hw1 hw2 hw5 hw3 hw4 hd hR hB (as := []) rfl h4 h
theorem s_cz1 (C : z_Cx zx zn zA cl sl p R s m args c cc own nL D cA ad) {pc ix : Nat} {y : MethodName} {bytes : ByteArray} {maxL fr lo : Nat} {ret : Option FieldType} {S : zS} (d : decode cc pc = .ok (.invokevirtual ix, 3)) (hok : z_OK zx zn l y bytes maxL ret fr lo S) (hcn : y.cls = "java/lang/String") (hw1 : Cond.methodLink own ix y ∈ z_tbl) (hw2 : Cond.instanceMethod y ∈ z_tbl) (hw5 : Cond.selects y.cls y y ∈ z_tbl) (hw3 : Cond.initialized y.cls ∈ z_tbl) (hw4 : Cond.code y bytes maxL ret ∈ z_tbl) (hd : y.cls ≠ "java/lang/invoke/MethodHandle" ∧ y.cls ≠ "java/lang/invoke/VarHandle" ∧ (parseMethodDescriptor y.desc).map (fun d => d.parameters.length) = some 1) (hR : fr + 1 ≤ R.frames ∧ 8 + (maxL + 11) + lo ≤ R.locals) {B : zB} (hB : ∀ L st σ, B L st σ → z_X zx zn zA cl sl p l e R s m args below meth c Q nL D cA ad fl (pc + 3) L st σ) : ∀ L st σ, z_cv1 200 S B L st σ → z_X zx zn zA cl sl p l e R s m args below meth c Q nL D cA ad fl pc L st σ := by
  intro L st σ h
  rcases st with _ | ⟨a0, _ | ⟨x | x | ⟨c, n, k⟩, st⟩⟩ <;> try (exact h.elim)
  obtain ⟨⟨rfl, h4⟩, h⟩ := h
  exact s_callZ C d hok hcn hw1 hw2 hw5 hw3 hw4 hd hR hB (as := [a0]) rfl h4 h
end ZS
