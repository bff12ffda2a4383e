section ZM
variable {zx : zX} {zn : Nat} {zA : Nat → Prop} {cl sl : Nat} {p : Program} {l : Launch} {e : Env} {R : Room} {s : State} {m : MethodId} {args : Array Value} {below : List Frame} {meth : Method} {c : Code} {Q : State → Prop} {cc : ByteArray} {own : String} {nL : Nat} {D : va_G} {cA : Nat → ClassId} {ad : Nat → Nat} {fl : Bool}
-- a class by its place in vwCl
def z_Cls (c : Nat) (C : String) (T : u_T) (N : Nat) : Prop := c < 100 ∧ vwCl[c]? = some (C, T, N) ∧ (∀ w ∈ u_ws C T N, w ∈ z_tbl) ∧ (∃ ty0 : Nat → FieldType, ∀ k, k < N → parseFieldDescriptor (T k).2.2.1 = some (ty0 k)) ∧ (∀ a, a < N → ∀ b, b < N → a ≠ b → (T a).2.1 ≠ (T b).2.1) ∧ (z_fo c).length = N
def z_geti (c0 j : Nat) (B : zB) (L : zL) (st : List zV) (σ : zM) : Prop := match st with
  | .inr (.inr (c, _, k)) :: st => c = c0 ∧ (z_in (σ k j) → B L (.inl (σ k j) :: st) σ)
  | _ => False
def z_getr (c0 o c2 n2 : Nat) (B : zB) (L : zL) (st : List zV) (σ : zM) : Prop := match st with
  | .inr (.inr (c, _, k)) :: st => c = c0 ∧ B L (.inr (.inr (c2, n2, k + o)) :: st) σ
  | _ => False
def z_puti (c0 j : Nat) (B : zB) (L : zL) (st : List zV) (σ : zM) : Prop := match st with
  | .inl v :: .inr (.inr (c, _, k)) :: st => c = c0 ∧ B L st (z_up σ k j v)
  | _ => False
def z_putz (c0 j : Nat) (B : zB) (L : zL) (st : List zV) (σ : zM) : Prop := match st with
  | .inl v :: .inr (.inr (c, _, k)) :: st => (c = c0 ∧ (v = 0 ∨ v = 1)) ∧ B L st (z_up σ k j v)
  | _ => False
theorem s_geti (C : z_Cx zx zn zA cl sl p R s m args c cc own nL D cA ad) {pc ix c0 j : Nat} {C0 : String} {T0 : u_T} {N0 : Nat} (d : decode cc pc = .ok (.getfield ix, 3)) (hc0 : z_Cls c0 C0 T0 N0) (hj : j < N0) (h0 : (z_fo c0).getD j 0 = 0) (hw : Cond.fieldLink own ix (T0 j).1 (T0 j).2.1 (T0 j).2.2.1 ∈ z_tbl) {B : zB} (hB : ∀ L st σ, B L st σ → z_X zx zn zA cl sl p l e R s m args below meth c Q nL D cA ad fl (pc + 3) L st σ) : ∀ L st σ, z_geti c0 j B L st σ → z_X zx zn zA cl sl p l e R s m args below meth c Q nL D cA ad fl pc L st σ := by
  intro L st σ h hn hL hst hσ H locs ls hP hS hl
  obtain ⟨hx, hb, hml, hown, hts, hK, hi, hAz, hcs, hE⟩ := C
  rcases st with _ | ⟨x | x | ⟨c, n, k⟩, st⟩ <;> try (exact h.elim)
  obtain ⟨rfl, h⟩ := h
  obtain ⟨hc9, hcl, hin, -, -, hlen⟩ := hc0
  have hk : z_kp zn k c n := z_oks_hd hst
  have h5 : ¬ c = 250 := by omega
  have hw9 := hB _ _ _ (h (hσ k j (z_kd_ng hk.1 (by omega)))) hn hL (z_oks_cons (hσ k j (z_kd_ng hk.1 (by omega))) (z_oks_tl hst)) hσ H locs ls hP hS hl
  simp only [List.map_cons, z_val, if_neg h5] at hw9 ⊢
  exact va_get hx hb hts hin hown hK hP (z_pos k) (z_obj hk hc9) hcl j hj (hts _ hw) (fun _ q => q) (z_fs_int (hlen ▸ hj) h0) d hw9
theorem s_getr (C : z_Cx zx zn zA cl sl p R s m args c cc own nL D cA ad) {pc ix c0 j o c2 n2 : Nat} {C0 : String} {T0 : u_T} {N0 : Nat} (d : decode cc pc = .ok (.getfield ix, 3)) (hc0 : z_Cls c0 C0 T0 N0) (hj : j < N0) (h0 : (z_fo c0).getD j 0 = o) (ho : o ≠ 0) (h25 : c2 ≠ 250) (hk2 : ∀ k, k < 111 → (z_kd k).1 = c0 → z_kd (k + o) = (c2, n2) ∧ k + o < 108) (hw : Cond.fieldLink own ix (T0 j).1 (T0 j).2.1 (T0 j).2.2.1 ∈ z_tbl) {B : zB} (hB : ∀ L st σ, B L st σ → z_X zx zn zA cl sl p l e R s m args below meth c Q nL D cA ad fl (pc + 3) L st σ) : ∀ L st σ, z_getr c0 o c2 n2 B L st σ → z_X zx zn zA cl sl p l e R s m args below meth c Q nL D cA ad fl pc L st σ := by
  intro L st σ h hn hL hst hσ H locs ls hP hS hl
  obtain ⟨hx, hb, hml, hown, hts, hK, hi, hAz, hcs, hE⟩ := C
  rcases st with _ | ⟨x | x | ⟨c, n, k⟩, st⟩ <;> try (exact h.elim)
  obtain ⟨rfl, h⟩ := h
  obtain ⟨hc9, hcl, hin, -, -, hlen⟩ := hc0
  have hk : z_kp zn k c n := z_oks_hd hst
  have h5 : ¬ c = 250 := by omega
  have hv : z_okv zn (.inr (.inr (c2, n2, k + o))) := by
    obtain ⟨g1, g2⟩ := hk2 k (z_kd_lt hk.1 (by omega)) (by rw [hk.1])
    exact z_kp.hi g1 (by omega)
  have hw9 := hB _ _ _ h hn hL (z_oks_cons hv (z_oks_tl hst)) hσ H locs ls hP hS hl
  simp only [List.map_cons, z_val, if_neg h5, if_neg h25] at hw9 ⊢
  exact va_get hx hb hts hin hown hK hP (z_pos k) (z_obj hk hc9) hcl j hj (hts _ hw) (fun _ q => q) (z_fs_ref (hlen ▸ hj) h0 ho) d hw9
theorem s_put (C : z_Cx zx zn zA cl sl p R s m args c cc own nL D cA ad) {pc ix c0 j : Nat} {C0 : String} {T0 : u_T} {N0 : Nat} {ty : FieldType} {v : Int} {n k : Nat} {L : zL} {st : List zV} {σ : zM} (d : decode cc pc = .ok (.putfield ix, 3)) (hc0 : z_Cls c0 C0 T0 N0) (hj : j < N0) (h0 : (z_fo c0).getD j 0 = 0) (hw : Cond.fieldLink own ix (T0 j).1 (T0 j).2.1 (T0 j).2.2.1 ∈ z_tbl) (hfin : (T0 j).2.2.2 = false) (hty : parseFieldDescriptor (T0 j).2.2.1 = some ty) (hnw : narrow ty (.int (Int32.ofInt v)) = .int (Int32.ofInt v)) (hft : fits ty (.int (Int32.ofInt v)) = true) {B : zB} (hB : ∀ L st σ, B L st σ → z_X zx zn zA cl sl p l e R s m args below meth c Q nL D cA ad fl (pc + 3) L st σ) (h : B L st (z_up σ k j v)) : z_X zx zn zA cl sl p l e R s m args below meth c Q nL D cA ad fl pc L (.inl v :: .inr (.inr (c0, n, k)) :: st) σ := by
  intro hn hL hst hσ H locs ls hP hS hl
  obtain ⟨hx, hb, hml, hown, hts, hK, hi, hAz, hcs, hE⟩ := C
  obtain ⟨hc9, hcl, hin, ⟨ty0, hty0⟩, hnm, hlen⟩ := hc0
  have hv : z_in v := z_oks_hd hst
  have hk : z_kp zn k c0 n := z_oks_hd (z_oks_tl hst)
  have h5 : ¬ c0 = 250 := by omega
  simp only [List.map_cons, z_val, if_neg h5]
  refine va_put hx hb hts hin ty0 hty0 hnm hown hK hP (z_D hi hAz) hS (z_pos k) (z_obj hk hc9) hcl j hj (hts _ hw) (fun _ q => q) hfin hty hnw hft (by simp [z_fs, hlen, hj]) d (fun H1 locs1 hP1 _ hS1 => ?_)
  rw [z_W_put hk hc9 (hlen ▸ hj) h0 v] at hP1
  exact hB _ _ _ h hn hL (z_oks_tl (z_oks_tl hst)) (z_okm_up hσ k j hv) H1 locs1 ls hP1 hS1 hl
theorem s_puti (C : z_Cx zx zn zA cl sl p R s m args c cc own nL D cA ad) {pc ix c0 j : Nat} {C0 : String} {T0 : u_T} {N0 : Nat} (d : decode cc pc = .ok (.putfield ix, 3)) (hc0 : z_Cls c0 C0 T0 N0) (hj : j < N0) (h0 : (z_fo c0).getD j 0 = 0) (hw : Cond.fieldLink own ix (T0 j).1 (T0 j).2.1 (T0 j).2.2.1 ∈ z_tbl) (hfin : (T0 j).2.2.2 = false) (hty : parseFieldDescriptor (T0 j).2.2.1 = some .int) {B : zB} (hB : ∀ L st σ, B L st σ → z_X zx zn zA cl sl p l e R s m args below meth c Q nL D cA ad fl (pc + 3) L st σ) : ∀ L st σ, z_puti c0 j B L st σ → z_X zx zn zA cl sl p l e R s m args below meth c Q nL D cA ad fl pc L st σ := by
  intro L st σ h
  rcases st with _ | ⟨x | x | ⟨c, n, k⟩, _ | ⟨y | y | ⟨c1, n1, k1⟩, st⟩⟩ <;> try (exact h.elim)
  obtain ⟨rfl, h⟩ := h
  exact s_put C d hc0 hj h0 hw hfin hty rfl rfl hB h
theorem s_putz (C : z_Cx zx zn zA cl sl p R s m args c cc own nL D cA ad) {pc ix c0 j : Nat} {C0 : String} {T0 : u_T} {N0 : Nat} (d : decode cc pc = .ok (.putfield ix, 3)) (hc0 : z_Cls c0 C0 T0 N0) (hj : j < N0) (h0 : (z_fo c0).getD j 0 = 0) (hw : Cond.fieldLink own ix (T0 j).1 (T0 j).2.1 (T0 j).2.2.1 ∈ z_tbl) (hfin : (T0 j).2.2.2 = false) (hty : parseFieldDescriptor (T0 j).2.2.1 = some .boolean) {B : zB} (hB : ∀ L st σ, B L st σ → z_X zx zn zA cl sl p l e R s m args below meth c Q nL D cA ad fl (pc + 3) L st σ) : ∀ L st σ, z_putz c0 j B L st σ → z_X zx zn zA cl sl p l e R s m args below meth c Q nL D cA ad fl pc L st σ := by
  intro L st σ h
  rcases st with _ | ⟨x | x | ⟨c, n, k⟩, _ | ⟨y | y | ⟨c1, n1, k1⟩, st⟩⟩ <;> try (exact h.elim)
  obtain ⟨⟨rfl, hz⟩, h⟩ := h
  exact s_put C d hc0 hj h0 hw hfin hty (by rcases hz with rfl | rfl <;> rfl) (by rcases hz with rfl | rfl <;> rfl) hB h
-- arrays
def z_ald (t : Nat) (B : zB) (L : zL) (st : List zV) (σ : zM) : Prop := match st with
  | .inl i :: .inr (.inr (c, n, k)) :: st => (c = 100 + t ∧ 0 ≤ i ∧ i < (n : Int)) ∧ (z_in (σ k i.toNat) → B L (.inl (σ k i.toNat) :: st) σ)
  | _ => False
theorem z_vinn {x : Int} (h : z_in x) {n : Nat} (h0 : 0 ≤ x) (h1 : x < n) : vp_in (Int32.ofInt x) n := z_vin h h0 h1
theorem s_iald (C : z_Cx zx zn zA cl sl p R s m args c cc own nL D cA ad) {pc : Nat} (d : decode cc pc = .ok (.iaload, 1)) {B : zB} (hB : ∀ L st σ, B L st σ → z_X zx zn zA cl sl p l e R s m args below meth c Q nL D cA ad fl (pc + 1) L st σ) : ∀ L st σ, z_ald 0 B L st σ → z_X zx zn zA cl sl p l e R s m args below meth c Q nL D cA ad fl pc L st σ := by
  intro L st σ h hn hL hst hσ H locs ls hP hS hl
  obtain ⟨hx, hb, hml, hown, hts, hK, hi, hAz, hcs, hE⟩ := C
  rcases st with _ | ⟨x | x | ⟨c, n, k⟩, _ | ⟨y | y | ⟨c1, n1, k1⟩, st⟩⟩ <;> try (exact h.elim)
  obtain ⟨⟨rfl, g0, g1⟩, h⟩ := h
  have hx9 : z_in x := z_oks_hd hst
  have hk : z_kp zn k1 (100 + 0) n1 := z_oks_hd (z_oks_tl hst)
  have hw9 := hB _ _ _ (h (hσ _ _ (z_kd_ng hk.1 (by omega)))) hn hL (z_oks_cons (hσ k1 x.toNat (z_kd_ng hk.1 (by omega))) (z_oks_tl (z_oks_tl hst))) hσ H locs ls hP hS hl
  simp only [List.map_cons, z_val, if_neg (show ¬ 100 + 0 = 250 by omega)] at hw9 ⊢
  refine va_iald hx hb hK hP (z_pos k1) 0 (z_arr hk (by omega)) rfl (z_vin hx9 g0 g1) d ?_
  rw [z_clamp hx9]
  exact hw9
theorem s_bald (C : z_Cx zx zn zA cl sl p R s m args c cc own nL D cA ad) {pc : Nat} (d : decode cc pc = .ok (.baload, 1)) {B : zB} (hB : ∀ L st σ, B L st σ → z_X zx zn zA cl sl p l e R s m args below meth c Q nL D cA ad fl (pc + 1) L st σ) : ∀ L st σ, z_ald 1 B L st σ → z_X zx zn zA cl sl p l e R s m args below meth c Q nL D cA ad fl pc L st σ := by
  intro L st σ h hn hL hst hσ H locs ls hP hS hl
  obtain ⟨hx, hb, hml, hown, hts, hK, hi, hAz, hcs, hE⟩ := C
  rcases st with _ | ⟨x | x | ⟨c, n, k⟩, _ | ⟨y | y | ⟨c1, n1, k1⟩, st⟩⟩ <;> try (exact h.elim)
  obtain ⟨⟨rfl, g0, g1⟩, h⟩ := h
  have hx9 : z_in x := z_oks_hd hst
  have hk : z_kp zn k1 (100 + 1) n1 := z_oks_hd (z_oks_tl hst)
  have hw9 := hB _ _ _ (h (hσ _ _ (z_kd_ng hk.1 (by omega)))) hn hL (z_oks_cons (hσ k1 x.toNat (z_kd_ng hk.1 (by omega))) (z_oks_tl (z_oks_tl hst))) hσ H locs ls hP hS hl
  simp only [List.map_cons, z_val, if_neg (show ¬ 100 + 1 = 250 by omega)] at hw9 ⊢
  refine va_bald hx hb hK hP (z_pos k1) 1 (z_arr hk (by omega)) rfl (z_vin hx9 g0 g1) d ?_
  rw [z_clamp hx9]
  exact hw9
theorem s_zald (C : z_Cx zx zn zA cl sl p R s m args c cc own nL D cA ad) {pc : Nat} (d : decode cc pc = .ok (.baload, 1)) {B : zB} (hB : ∀ L st σ, B L st σ → z_X zx zn zA cl sl p l e R s m args below meth c Q nL D cA ad fl (pc + 1) L st σ) : ∀ L st σ, z_ald 2 B L st σ → z_X zx zn zA cl sl p l e R s m args below meth c Q nL D cA ad fl pc L st σ := by
  intro L st σ h hn hL hst hσ H locs ls hP hS hl
  obtain ⟨hx, hb, hml, hown, hts, hK, hi, hAz, hcs, hE⟩ := C
  rcases st with _ | ⟨x | x | ⟨c, n, k⟩, _ | ⟨y | y | ⟨c1, n1, k1⟩, st⟩⟩ <;> try (exact h.elim)
  obtain ⟨⟨rfl, g0, g1⟩, h⟩ := h
  have hx9 : z_in x := z_oks_hd hst
  have hk : z_kp zn k1 (100 + 2) n1 := z_oks_hd (z_oks_tl hst)
  have hw9 := hB _ _ _ (h (hσ _ _ (z_kd_ng hk.1 (by omega)))) hn hL (z_oks_cons (hσ k1 x.toNat (z_kd_ng hk.1 (by omega))) (z_oks_tl (z_oks_tl hst))) hσ H locs ls hP hS hl
  simp only [List.map_cons, z_val, if_neg (show ¬ 100 + 2 = 250 by omega)] at hw9 ⊢
  refine va_zald hx hb hK hP (z_pos k1) 2 (z_arr hk (by omega)) rfl (z_vin hx9 g0 g1) d ?_
  rw [z_clamp hx9]
  exact hw9
def z_iast (B : zB) (L : zL) (st : List zV) (σ : zM) : Prop := match st with
  | .inl v :: .inl i :: .inr (.inr (c, n, k)) :: st => (c = 100 ∧ 0 ≤ i ∧ i < (n : Int)) ∧ B L st (z_up σ k i.toNat v)
  | _ => False
def z_bast (B : zB) (L : zL) (st : List zV) (σ : zM) : Prop := match st with
  | .inl v :: .inl i :: .inr (.inr (c, n, k)) :: st => (c = 101 ∧ 0 ≤ i ∧ i < (n : Int)) ∧ B L st (z_up σ k i.toNat (z_wr8 v))
  | _ => False
def z_zast (B : zB) (L : zL) (st : List zV) (σ : zM) : Prop := match st with
  | .inl v :: .inl i :: .inr (.inr (c, n, k)) :: st => ((c = 102 ∧ 0 ≤ i ∧ i < (n : Int)) ∧ (v = 0 ∨ v = 1)) ∧ B L st (z_up σ k i.toNat v)
  | _ => False
theorem s_iast (C : z_Cx zx zn zA cl sl p R s m args c cc own nL D cA ad) {pc : Nat} (d : decode cc pc = .ok (.iastore, 1)) {B : zB} (hB : ∀ L st σ, B L st σ → z_X zx zn zA cl sl p l e R s m args below meth c Q nL D cA ad fl (pc + 1) L st σ) : ∀ L st σ, z_iast B L st σ → z_X zx zn zA cl sl p l e R s m args below meth c Q nL D cA ad fl pc L st σ := by
  intro L st σ h hn hL hst hσ H locs ls hP hS hl
  obtain ⟨hx, hb, hml, hown, hts, hK, hi, hAz, hcs, hE⟩ := C
  rcases st with _ | ⟨v | v | q, _ | ⟨x | x | ⟨c, n, k⟩, _ | ⟨y | y | ⟨c1, n1, k1⟩, st⟩⟩⟩ <;> try (exact h.elim)
  obtain ⟨⟨rfl, g0, g1⟩, h⟩ := h
  have hv : z_in v := z_oks_hd hst
  have hx9 : z_in x := z_oks_hd (z_oks_tl hst)
  have hk : z_kp zn k1 (100 + 0) n1 := z_oks_hd (z_oks_tl (z_oks_tl hst))
  simp only [List.map_cons, z_val, if_neg (show ¬ 100 = 250 by omega)]
  refine va_iast hx hb hK hP (z_D hi hAz) hS (z_pos k1) 0 (z_arr hk (by omega)) rfl (z_vin hx9 g0 g1) d (fun H1 locs1 hP1 _ hS1 => ?_)
  rw [z_clamp hx9, z_W_ast hk (by omega)] at hP1
  exact hB _ _ _ h hn hL (z_oks_tl (z_oks_tl (z_oks_tl hst))) (z_okm_up hσ _ _ hv) H1 locs1 ls hP1 hS1 hl
theorem s_bast (C : z_Cx zx zn zA cl sl p R s m args c cc own nL D cA ad) {pc : Nat} (d : decode cc pc = .ok (.bastore, 1)) {B : zB} (hB : ∀ L st σ, B L st σ → z_X zx zn zA cl sl p l e R s m args below meth c Q nL D cA ad fl (pc + 1) L st σ) : ∀ L st σ, z_bast B L st σ → z_X zx zn zA cl sl p l e R s m args below meth c Q nL D cA ad fl pc L st σ := by
  intro L st σ h hn hL hst hσ H locs ls hP hS hl
  obtain ⟨hx, hb, hml, hown, hts, hK, hi, hAz, hcs, hE⟩ := C
  rcases st with _ | ⟨v | v | q, _ | ⟨x | x | ⟨c, n, k⟩, _ | ⟨y | y | ⟨c1, n1, k1⟩, st⟩⟩⟩ <;> try (exact h.elim)
  obtain ⟨⟨rfl, g0, g1⟩, h⟩ := h
  have hv : z_in v := z_oks_hd hst
  have hx9 : z_in x := z_oks_hd (z_oks_tl hst)
  have hk : z_kp zn k1 (100 + 1) n1 := z_oks_hd (z_oks_tl (z_oks_tl hst))
  simp only [List.map_cons, z_val, if_neg (show ¬ 101 = 250 by omega)]
  refine va_bast hx hb hK hP (z_D hi hAz) hS (z_pos k1) 1 (z_arr hk (by omega)) rfl (z_vin hx9 g0 g1) d (fun H1 locs1 hP1 _ hS1 => ?_)
  rw [z_clamp hx9, show vp_nar .byte (Int32.ofInt v) = Int32.ofInt (z_wr8 v) by rw [vp_nar_byte]; apply Int32.toInt_inj.mp; rw [Int8.toInt_toInt32, z_wr8, z_toInt (z_in8 _)], z_W_ast hk (by omega)] at hP1
  exact hB _ _ _ h hn hL (z_oks_tl (z_oks_tl (z_oks_tl hst))) (z_okm_up hσ _ _ (z_in8 _)) H1 locs1 ls hP1 hS1 hl
theorem s_zast (C : z_Cx zx zn zA cl sl p R s m args c cc own nL D cA ad) {pc : Nat} (d : decode cc pc = .ok (.bastore, 1)) {B : zB} (hB : ∀ L st σ, B L st σ → z_X zx zn zA cl sl p l e R s m args below meth c Q nL D cA ad fl (pc + 1) L st σ) : ∀ L st σ, z_zast B L st σ → z_X zx zn zA cl sl p l e R s m args below meth c Q nL D cA ad fl pc L st σ := by
  intro L st σ h hn hL hst hσ H locs ls hP hS hl
  obtain ⟨hx, hb, hml, hown, hts, hK, hi, hAz, hcs, hE⟩ := C
  rcases st with _ | ⟨v | v | q, _ | ⟨x | x | ⟨c, n, k⟩, _ | ⟨y | y | ⟨c1, n1, k1⟩, st⟩⟩⟩ <;> try (exact h.elim)
  obtain ⟨⟨⟨rfl, g0, g1⟩, hz⟩, h⟩ := h
  have hv : z_in v := z_oks_hd hst
  have hx9 : z_in x := z_oks_hd (z_oks_tl hst)
  have hk : z_kp zn k1 (100 + 2) n1 := z_oks_hd (z_oks_tl (z_oks_tl hst))
  simp only [List.map_cons, z_val, if_neg (show ¬ 102 = 250 by omega)]
  refine va_zast hx hb hK hP (z_D hi hAz) hS (z_pos k1) 2 (z_arr hk (by omega)) rfl (z_vin hx9 g0 g1) d (fun H1 locs1 hP1 _ hS1 => ?_)
  rw [z_clamp hx9, show vp_nar .boolean (Int32.ofInt v) = Int32.ofInt v by rcases hz with rfl | rfl <;> rfl, z_W_ast hk (by omega)] at hP1
  exact hB _ _ _ h hn hL (z_oks_tl (z_oks_tl (z_oks_tl hst))) (z_okm_up hσ _ _ hv) H1 locs1 ls hP1 hS1 hl
def z_alen (B : zB) (L : zL) (st : List zV) (σ : zM) : Prop := match st with
  | .inr (.inr (c, n, k)) :: st => (100 ≤ c ∧ c ≤ 102) ∧ B L (.inl (n : Int) :: st) σ
  | _ => False
theorem z_inlen {k c n : Nat} (h : z_kp zn k c n) : z_in (n : Int) := by
  have := z_len_ok h.1
  exact ⟨by omega, by omega⟩
theorem s_alen (C : z_Cx zx zn zA cl sl p R s m args c cc own nL D cA ad) {pc : Nat} (d : decode cc pc = .ok (.arraylength, 1)) {B : zB} (hB : ∀ L st σ, B L st σ → z_X zx zn zA cl sl p l e R s m args below meth c Q nL D cA ad fl (pc + 1) L st σ) : ∀ L st σ, z_alen B L st σ → z_X zx zn zA cl sl p l e R s m args below meth c Q nL D cA ad fl pc L st σ := by
  intro L st σ h hn hL hst hσ H locs ls hP hS hl
  obtain ⟨hx, hb, hml, hown, hts, hK, hi, hAz, hcs, hE⟩ := C
  rcases st with _ | ⟨x | x | ⟨c, n, k⟩, st⟩ <;> try (exact h.elim)
  obtain ⟨⟨g0, g1⟩, h⟩ := h
  have hk : z_kp zn k c n := z_oks_hd hst
  have hw9 := hB _ _ _ h hn hL (z_oks_cons (z_inlen hk) (z_oks_tl hst)) hσ H locs ls hP hS hl
  simp only [List.map_cons, z_val, if_neg (show ¬ c = 250 by omega)] at hw9 ⊢
  have hk2 : z_kp zn k (100 + (c - 100)) n := by rw [show 100 + (c - 100) = c by omega]; exact hk
  have hc : c - 100 = 0 ∨ c - 100 = 1 ∨ c - 100 = 2 := by omega
  have hnn : Int32.ofNat n = Int32.ofInt (n : Int) := rfl
  rcases hc with e | e | e <;> rw [e] at hk2
  · exact va_alen hx hb hK hP (z_pos k) 0 (z_arr hk2 (by omega)) rfl hnn d hw9
  · exact va_alen hx hb hK hP (z_pos k) 1 (z_arr hk2 (by omega)) rfl hnn d hw9
  · exact va_alen hx hb hK hP (z_pos k) 2 (z_arr hk2 (by omega)) rfl hnn d hw9
theorem z_sum (ad : Nat → Nat) : ∀ st : List zV, st.length ≤ 4 → ((st.map (z_val ad)).map fun v => v.category).sum ≤ 8 := by
  intro st h
  have key : ∀ st : List zV, ((st.map (z_val ad)).map fun v => v.category).sum ≤ 2 * st.length := by
    intro st
    induction st with
    | nil => exact Nat.le_refl _
    | cons v st ih =>
      simp only [List.map_cons, List.sum_cons, List.length_cons]
      have : (z_val ad v).category ≤ 2 := by rcases lv_cat (z_val ad v) with e | e <;> omega
      omega
  have := key st
  omega
def z_acopy (B : zB) (L : zL) (st : List zV) (σ : zM) : Prop := match st with
  | .inl w :: .inl dp :: .inr (.inr (c2, n2, k2)) :: .inl sp :: .inr (.inr (c1, n1, k1)) :: st => (c1 = 100 ∧ c2 = 100 ∧ st.length ≤ 4 ∧ 0 ≤ sp ∧ 0 ≤ dp ∧ 0 ≤ w ∧ sp + w ≤ (n1 : Int) ∧ dp + w ≤ (n2 : Int)) ∧ B L st (z_cpy σ k1 sp.toNat k2 dp.toNat w.toNat)
  | _ => False
theorem z_nneg {x : Int} (h : z_in x) (h0 : 0 ≤ x) : ¬ Int32.ofInt x < 0 := by
  rw [z_0, z_lt h z_in0]
  omega
theorem s_acopy (C : z_Cx zx zn zA cl sl p R s m args c cc own nL D cA ad) {pc ix : Nat} (d : decode cc pc = .ok (.invokestatic ix, 3)) (hw1 : Cond.methodLink own ix arraycopyName ∈ z_tbl) (hw2 : Cond.native arraycopyName ∈ z_tbl) (hw3 : Cond.static arraycopyName ∈ z_tbl) (hw4 : Cond.initialized "java/lang/System" ∈ z_tbl) (hR : 1 ≤ R.frames ∧ 8 + (nativeFrameWords "java/lang/System" "arraycopy" 5 + 11) ≤ R.locals) {B : zB} (hB : ∀ L st σ, B L st σ → z_X zx zn zA cl sl p l e R s m args below meth c Q nL D cA ad fl (pc + 3) L st σ) : ∀ L st σ, z_acopy B L st σ → z_X zx zn zA cl sl p l e R s m args below meth c Q nL D cA ad fl pc L st σ := by
  intro L st σ h hn hL hst hσ H locs ls hP hS hl
  obtain ⟨hx, hb, hml, hown, hts, hK, hi, hAz, hcs, hE⟩ := C
  rcases st with _ | ⟨w | w | q, _ | ⟨dp | dp | q, _ | ⟨x | x | ⟨c2, n2, k2⟩, _ | ⟨sp | sp | q, _ | ⟨x | x | ⟨c1, n1, k1⟩, st⟩⟩⟩⟩⟩ <;> try (exact h.elim)
  obtain ⟨⟨rfl, rfl, gl, g0, g1, g2, g3, g4⟩, h⟩ := h
  have t1 := z_oks_tl hst
  have t2 := z_oks_tl t1
  have t3 := z_oks_tl t2
  have t4 := z_oks_tl t3
  have iw : z_in w := z_oks_hd hst
  have id : z_in dp := z_oks_hd t1
  have is : z_in sp := z_oks_hd t3
  have hk2 : z_kp zn k2 (100 + 0) n2 := z_oks_hd t2
  have hk1 : z_kp zn k1 (100 + 0) n1 := z_oks_hd t4
  simp only [List.map_cons, z_val, if_neg (show ¬ 100 = 250 by omega)]
  refine va_copyi hx hb (hml.trans hl.1.symm) hown (hts _ hw1) (hts _ hw2) (hts _ hw3) (hts _ hw4) hK hP (z_D hi hAz) hS (z_pos k1) (z_pos k2) 0 0 (z_arr hk1 (by omega)) (z_arr hk2 (by omega)) rfl rfl rfl (z_nneg is g0) (z_nneg id g1) (z_nneg iw g2) (by rw [z_clamp is, z_clamp iw]; omega) (by rw [z_clamp id, z_clamp iw]; omega) (fun _ _ => rfl) hR.1 (by have := z_sum ad st gl; have := hR.2; omega) d (fun H1 locs1 hP1 _ hS1 => ?_)
  rw [z_clamp is, z_clamp id, z_clamp iw, z_W_cpy hk2] at hP1
  exact hB _ _ _ h hn hL (z_oks_tl t4) (z_okm_cpy hσ _ _ _ _ _ (z_kd_ng hk1.1 (by omega))) H1 locs1 ls hP1 hS1 hl
-- Math
def z_mmax (B : zB) (L : zL) (st : List zV) (σ : zM) : Prop := match st with
  | .inl y :: .inl x :: st => st.length ≤ 4 ∧ B L (.inl (max x y) :: st) σ
  | _ => False
def z_mmin (B : zB) (L : zL) (st : List zV) (σ : zM) : Prop := match st with
  | .inl y :: .inl x :: st => st.length ≤ 4 ∧ B L (.inl (min x y) :: st) σ
  | _ => False
def z_mabs (B : zB) (L : zL) (st : List zV) (σ : zM) : Prop := match st with
  | .inl x :: st => (st.length ≤ 4 ∧ z_in (-x)) ∧ B L (.inl (if 0 ≤ x then x else -x) :: st) σ
  | _ => False
def z_mabsL (B : zB) (L : zL) (st : List zV) (σ : zM) : Prop := match st with
  | .inr (.inl x) :: st => (st.length ≤ 4 ∧ z_inL (-x)) ∧ B L (.inr (.inl (if 0 ≤ x then x else -x)) :: st) σ
  | _ => False
theorem s_mmax (C : z_Cx zx zn zA cl sl p R s m args c cc own nL D cA ad) {pc ix : Nat} (d : decode cc pc = .ok (.invokestatic ix, 3)) (hw1 : Cond.methodLink own ix Lib.Math.max.name ∈ z_tbl) (hw2 : Cond.static Lib.Math.max.name ∈ z_tbl) (hw3 : Cond.initialized "java/lang/Math" ∈ z_tbl) (hw4 : Cond.code Lib.Math.max.name Lib.Math.max.code 2 (some .int) ∈ z_tbl) (hR : 1 ≤ R.frames ∧ 21 ≤ R.locals) {B : zB} (hB : ∀ L st σ, B L st σ → z_X zx zn zA cl sl p l e R s m args below meth c Q nL D cA ad fl (pc + 3) L st σ) : ∀ L st σ, z_mmax B L st σ → z_X zx zn zA cl sl p l e R s m args below meth c Q nL D cA ad fl pc L st σ := by
  intro L st σ h hn hL hst hσ H locs ls hP hS hl
  obtain ⟨hx, hb, hml, hown, hts, hK, hi, hAz, hcs, hE⟩ := C
  rcases st with _ | ⟨y | y | q, _ | ⟨x | x | q, st⟩⟩ <;> try (exact h.elim)
  have hy : z_in y := z_oks_hd hst
  have hx9 : z_in x := z_oks_hd (z_oks_tl hst)
  have hm : z_in (max x y) := by have := hy.1; have := hy.2; have := hx9.1; have := hx9.2; exact ⟨by omega, by omega⟩
  have hw9 := hB _ _ _ h.2 hn hL (z_oks_cons hm (z_oks_tl (z_oks_tl hst))) hσ H locs ls hP hS hl
  simp only [List.map_cons, z_val] at hw9 ⊢
  refine va_mmax hx hb (hml.trans hl.1.symm) hown (hts _ hw1) (hts _ hw2) (hts _ hw3) (hts _ hw4) hR.1 (by have := z_sum ad st h.1; have := hR.2; omega) hcs.1 hcs.2 d ?_
  rw [show (if Int32.ofInt x < Int32.ofInt y then Int32.ofInt y else Int32.ofInt x) = Int32.ofInt (max x y) by
    by_cases g : x < y
    · rw [if_pos ((z_lt hx9 hy).mpr g), show max x y = y by omega]
    · rw [if_neg (fun q => g ((z_lt hx9 hy).mp q)), show max x y = x by omega]]
  exact hw9
theorem s_mmin (C : z_Cx zx zn zA cl sl p R s m args c cc own nL D cA ad) {pc ix : Nat} (d : decode cc pc = .ok (.invokestatic ix, 3)) (hw1 : Cond.methodLink own ix Lib.Math.min.name ∈ z_tbl) (hw2 : Cond.static Lib.Math.min.name ∈ z_tbl) (hw3 : Cond.initialized "java/lang/Math" ∈ z_tbl) (hw4 : Cond.code Lib.Math.min.name Lib.Math.min.code 2 (some .int) ∈ z_tbl) (hR : 1 ≤ R.frames ∧ 21 ≤ R.locals) {B : zB} (hB : ∀ L st σ, B L st σ → z_X zx zn zA cl sl p l e R s m args below meth c Q nL D cA ad fl (pc + 3) L st σ) : ∀ L st σ, z_mmin B L st σ → z_X zx zn zA cl sl p l e R s m args below meth c Q nL D cA ad fl pc L st σ := by
  intro L st σ h hn hL hst hσ H locs ls hP hS hl
  obtain ⟨hx, hb, hml, hown, hts, hK, hi, hAz, hcs, hE⟩ := C
  rcases st with _ | ⟨y | y | q, _ | ⟨x | x | q, st⟩⟩ <;> try (exact h.elim)
  have hy : z_in y := z_oks_hd hst
  have hx9 : z_in x := z_oks_hd (z_oks_tl hst)
  have hm : z_in (min x y) := by have := hy.1; have := hy.2; have := hx9.1; have := hx9.2; exact ⟨by omega, by omega⟩
  have hw9 := hB _ _ _ h.2 hn hL (z_oks_cons hm (z_oks_tl (z_oks_tl hst))) hσ H locs ls hP hS hl
  simp only [List.map_cons, z_val] at hw9 ⊢
  refine va_mmin hx hb (hml.trans hl.1.symm) hown (hts _ hw1) (hts _ hw2) (hts _ hw3) (hts _ hw4) hR.1 (by have := z_sum ad st h.1; have := hR.2; omega) hcs.1 hcs.2 d ?_
  rw [show (if Int32.ofInt y < Int32.ofInt x then Int32.ofInt y else Int32.ofInt x) = Int32.ofInt (min x y) by
    by_cases g : y < x
    · rw [if_pos ((z_lt hy hx9).mpr g), show min x y = y by omega]
    · rw [if_neg (fun q => g ((z_lt hy hx9).mp q)), show min x y = x by omega]]
  exact hw9
theorem s_mabs (C : z_Cx zx zn zA cl sl p R s m args c cc own nL D cA ad) {pc ix : Nat} (d : decode cc pc = .ok (.invokestatic ix, 3)) (hw1 : Cond.methodLink own ix Lib.Math.abs.name ∈ z_tbl) (hw2 : Cond.static Lib.Math.abs.name ∈ z_tbl) (hw3 : Cond.initialized "java/lang/Math" ∈ z_tbl) (hw4 : Cond.code Lib.Math.abs.name Lib.Math.abs.code 1 (some .int) ∈ z_tbl) (hR : 1 ≤ R.frames ∧ 21 ≤ R.locals) {B : zB} (hB : ∀ L st σ, B L st σ → z_X zx zn zA cl sl p l e R s m args below meth c Q nL D cA ad fl (pc + 3) L st σ) : ∀ L st σ, z_mabs B L st σ → z_X zx zn zA cl sl p l e R s m args below meth c Q nL D cA ad fl pc L st σ := by
  intro L st σ h hn hL hst hσ H locs ls hP hS hl
  obtain ⟨hx, hb, hml, hown, hts, hK, hi, hAz, hcs, hE⟩ := C
  rcases st with _ | ⟨x | x | q, st⟩ <;> try (exact h.elim)
  have hx9 : z_in x := z_oks_hd hst
  have hm : z_in (if 0 ≤ x then x else -x) := by split; exact hx9; exact h.1.2
  have hw9 := hB _ _ _ h.2 hn hL (z_oks_cons hm (z_oks_tl hst)) hσ H locs ls hP hS hl
  simp only [List.map_cons, z_val] at hw9 ⊢
  refine va_mabs hx hb (hml.trans hl.1.symm) hown (hts _ hw1) (hts _ hw2) (hts _ hw3) (hts _ hw4) hR.1 (by have := z_sum ad st h.1.1; have := hR.2; omega) hcs.1 hcs.2 d ?_
  rw [show (if 0 ≤ Int32.ofInt x then Int32.ofInt x else 0 - Int32.ofInt x) = Int32.ofInt (if 0 ≤ x then x else -x) by
    by_cases g : 0 ≤ x
    · rw [z_0, if_pos ((z_le z_in0 hx9).mpr g), if_pos g]
    · rw [z_0, if_neg (fun q => g ((z_le z_in0 hx9).mp q)), if_neg g, ← Int32.ofInt_sub]; congr 1; omega]
  exact hw9
theorem s_mabsL (C : z_Cx zx zn zA cl sl p R s m args c cc own nL D cA ad) {pc ix : Nat} (d : decode cc pc = .ok (.invokestatic ix, 3)) (hw1 : Cond.methodLink own ix Lib.MathLoose.abs_long.x ∈ z_tbl) (hw2 : Cond.static Lib.MathLoose.abs_long.x ∈ z_tbl) (hw3 : Cond.initialized "java/lang/Math" ∈ z_tbl) (hw4 : Cond.code Lib.MathLoose.abs_long.x Lib.MathLoose.abs_long.code 2 (some .long) ∈ z_tbl) (hR : 1 ≤ R.frames ∧ 21 ≤ R.locals) {B : zB} (hB : ∀ L st σ, B L st σ → z_X zx zn zA cl sl p l e R s m args below meth c Q nL D cA ad fl (pc + 3) L st σ) : ∀ L st σ, z_mabsL B L st σ → z_X zx zn zA cl sl p l e R s m args below meth c Q nL D cA ad fl pc L st σ := by
  intro L st σ h hn hL hst hσ H locs ls hP hS hl
  obtain ⟨hx, hb, hml, hown, hts, hK, hi, hAz, hcs, hE⟩ := C
  rcases st with _ | ⟨x | x | q, st⟩ <;> try (exact h.elim)
  have hx9 : z_inL x := z_oks_hd hst
  have hm : z_inL (if 0 ≤ x then x else -x) := by split; exact hx9; exact h.1.2
  have hw9 := hB _ _ _ h.2 hn hL (z_oks_cons (v := .inr (.inl (if 0 ≤ x then x else -x))) hm (z_oks_tl hst)) hσ H locs ls hP hS hl
  simp only [List.map_cons, z_val] at hw9 ⊢
  refine va_mabs_long hx hb (hml.trans hl.1.symm) hown (hts _ hw1) (hts _ hw2) (hts _ hw3) (hts _ hw4) hR.1 (by have := z_sum ad st h.1.1; have := hR.2; omega) hcs.1 hcs.2 d ?_
  have z0 : (0 : Int64).toInt = 0 := rfl
  rw [show (if 0 < Int64.ofInt x then Int64.ofInt x else -Int64.ofInt x) = Int64.ofInt (if 0 ≤ x then x else -x) by
    by_cases g : 0 < x
    · rw [if_pos (by rw [Int64.lt_iff_toInt_lt, z_toIntL hx9, z0]; exact g), if_pos (by omega)]
    · rw [if_neg (by rw [Int64.lt_iff_toInt_lt, z_toIntL hx9, z0]; exact g)]
      by_cases g2 : 0 ≤ x
      · rw [if_pos g2, show x = 0 by omega]; rfl
      · rw [if_neg g2, Int64.ofInt_neg]]
  exact hw9
-- returns
def z_Qc (zn : Nat) (D : va_G) (cA : Nat → ClassId) (ad : Nat → Nat) (Ret : zR) : Array Value → State → Outcome → State → Prop := fun _ st oc t => (∃ (r : Option zV) (σ' : zM), oc = .returned (r.map (z_val ad)) ∧ Ret r σ' ∧ z_okr zn r ∧ z_okm σ' ∧ va_P D vwCl (z_W zn cA ad σ') t.heap) ∧ va_F (z_A zn ad) st t
def z_iret (Ret : zR) (_ : zL) (st : List zV) (σ : zM) : Prop := match st with
  | [.inl x] => Ret (some (.inl x)) σ
  | _ => False
def z_zret (Ret : zR) (_ : zL) (st : List zV) (σ : zM) : Prop := match st with
  | [.inl x] => (x = 0 ∨ x = 1) ∧ Ret (some (.inl x)) σ
  | _ => False
def z_lret (Ret : zR) (_ : zL) (st : List zV) (σ : zM) : Prop := match st with
  | [.inr (.inl x)] => Ret (some (.inr (.inl x))) σ
  | _ => False
def z_aret (Ret : zR) (_ : zL) (st : List zV) (σ : zM) : Prop := match st with
  | [.inr (.inr (c, n, k))] => ¬ c = 250 ∧ Ret (some (.inr (.inr (c, n, k)))) σ
  | _ => False
def z_vret (Ret : zR) (_ : zL) (st : List zV) (σ : zM) : Prop := match st with
  | [] => Ret none σ
  | _ => False
theorem z_okr1 {v : zV} (h : z_okv zn v) : z_okr zn (some v) := fun _ e => by cases e; exact h
variable {Ret : zR}
theorem s_iret (C : z_Cx zx zn (z_A zn ad) 0 0 p R s m args c cc own nL D cA ad) {pc : Nat} (d : decode cc pc = .ok (.ireturn, 1)) (hr : meth.sig.returnType = some .int) (hlocks : meth.locks = false) : ∀ L st σ, z_iret Ret L st σ → z_X zx zn (z_A zn ad) 0 0 p l e R s m args below meth c (MQ below (z_Qc zn D cA ad Ret) args s 0 0 (z_A zn ad)) nL D cA ad fl pc L st σ := by
  intro L st σ h hn hL hst hσ H locs ls hP hS hl
  obtain ⟨hx, hb, hml, hown, hts, hK, hi, hAz, hcs, hE⟩ := C
  rcases st with _ | ⟨x | x | q, _ | ⟨v, st⟩⟩ <;> try (exact h.elim)
  exact W.iret hx hb hr (fun t ht hW => ⟨⟨some (.inl x), σ, rfl, h, z_okr1 (z_oks_hd hst), hσ, by rw [ht]; exact hP⟩, hS.F ht⟩) hS.2.2 d
theorem s_zret (C : z_Cx zx zn (z_A zn ad) 0 0 p R s m args c cc own nL D cA ad) {pc : Nat} {ty : FieldType} (d : decode cc pc = .ok (.ireturn, 1)) (hr : meth.sig.returnType = some ty) (hz : narrow ty (.int 0) = .int 0 ∧ narrow ty (.int 1) = .int 1) (hlocks : meth.locks = false) : ∀ L st σ, z_zret Ret L st σ → z_X zx zn (z_A zn ad) 0 0 p l e R s m args below meth c (MQ below (z_Qc zn D cA ad Ret) args s 0 0 (z_A zn ad)) nL D cA ad fl pc L st σ := by
  intro L st σ h hn hL hst hσ H locs ls hP hS hl
  obtain ⟨hx, hb, hml, hown, hts, hK, hi, hAz, hcs, hE⟩ := C
  rcases st with _ | ⟨x | x | q, _ | ⟨v, st⟩⟩ <;> try (exact h.elim)
  exact W.zret hx hb hr (by rcases h.1 with rfl | rfl; exact hz.1; exact hz.2) (fun t ht hW => ⟨⟨some (.inl x), σ, rfl, h.2, z_okr1 (z_oks_hd hst), hσ, by rw [ht]; exact hP⟩, hS.F ht⟩) hS.2.2 d
def z_nret (ty : FieldType) (Ret : zR) (_ : zL) (st : List zV) (σ : zM) : Prop := match st with
  | [.inl x] => narrow ty (.int (Int32.ofInt x)) = .int (Int32.ofInt x) ∧ Ret (some (.inl x)) σ
  | _ => False
theorem s_nret (C : z_Cx zx zn (z_A zn ad) 0 0 p R s m args c cc own nL D cA ad) {pc : Nat} {ty : FieldType} (d : decode cc pc = .ok (.ireturn, 1)) (hr : meth.sig.returnType = some ty) (hlocks : meth.locks = false) : ∀ L st σ, z_nret ty Ret L st σ → z_X zx zn (z_A zn ad) 0 0 p l e R s m args below meth c (MQ below (z_Qc zn D cA ad Ret) args s 0 0 (z_A zn ad)) nL D cA ad fl pc L st σ := by
  intro L st σ h hn hL hst hσ H locs ls hP hS hl
  obtain ⟨hx, hb, hml, hown, hts, hK, hi, hAz, hcs, hE⟩ := C
  rcases st with _ | ⟨x | x | q, _ | ⟨v, st⟩⟩ <;> try (exact h.elim)
  exact W.zret hx hb hr h.1 (fun t ht hW => ⟨⟨some (.inl x), σ, rfl, h.2, z_okr1 (z_oks_hd hst), hσ, by rw [ht]; exact hP⟩, hS.F ht⟩) hS.2.2 d
theorem s_lret (C : z_Cx zx zn (z_A zn ad) 0 0 p R s m args c cc own nL D cA ad) {pc : Nat} (d : decode cc pc = .ok (.lreturn, 1)) (hr : meth.sig.returnType = some .long) (hlocks : meth.locks = false) : ∀ L st σ, z_lret Ret L st σ → z_X zx zn (z_A zn ad) 0 0 p l e R s m args below meth c (MQ below (z_Qc zn D cA ad Ret) args s 0 0 (z_A zn ad)) nL D cA ad fl pc L st σ := by
  intro L st σ h hn hL hst hσ H locs ls hP hS hl
  obtain ⟨hx, hb, hml, hown, hts, hK, hi, hAz, hcs, hE⟩ := C
  rcases st with _ | ⟨x | x | q, _ | ⟨v, st⟩⟩ <;> try (exact h.elim)
  exact W.lret hx hb hr (fun t ht hW => ⟨⟨some (.inr (.inl x)), σ, rfl, h, z_okr1 (z_oks_hd hst), hσ, by rw [ht]; exact hP⟩, hS.F ht⟩) hS.2.2 d
theorem s_aret (C : z_Cx zx zn (z_A zn ad) 0 0 p R s m args c cc own nL D cA ad) {pc : Nat} {nm : String} (d : decode cc pc = .ok (.areturn, 1)) (hr : meth.sig.returnType = some (.object nm)) (hlocks : meth.locks = false) : ∀ L st σ, z_aret Ret L st σ → z_X zx zn (z_A zn ad) 0 0 p l e R s m args below meth c (MQ below (z_Qc zn D cA ad Ret) args s 0 0 (z_A zn ad)) nL D cA ad fl pc L st σ := by
  intro L st σ h hn hL hst hσ H locs ls hP hS hl
  obtain ⟨hx, hb, hml, hown, hts, hK, hi, hAz, hcs, hE⟩ := C
  rcases st with _ | ⟨x | x | ⟨c, n, k⟩, _ | ⟨v, st⟩⟩ <;> try (exact h.elim)
  have e : z_val ad (.inr (.inr (c, n, k))) = .ref (ad k) := by simp only [z_val, if_neg h.1]
  simp only [List.map_cons, List.map_nil]
  rw [e]
  exact W.aret hx hb hr (Or.inl ⟨nm, rfl⟩) (Or.inr ⟨_, rfl⟩) (fun t ht hW => ⟨⟨some (.inr (.inr (c, n, k))), σ, by simp only [Option.map_some]; rw [e], h.2, z_okr1 (z_oks_hd hst), hσ, by rw [ht]; exact hP⟩, hS.F ht⟩) hS.2.2 d
theorem s_vret (C : z_Cx zx zn (z_A zn ad) 0 0 p R s m args c cc own nL D cA ad) {pc : Nat} (d : decode cc pc = .ok (.return_, 1)) (hr : meth.sig.returnType = none) (hlocks : meth.locks = false) : ∀ L st σ, z_vret Ret L st σ → z_X zx zn (z_A zn ad) 0 0 p l e R s m args below meth c (MQ below (z_Qc zn D cA ad Ret) args s 0 0 (z_A zn ad)) nL D cA ad fl pc L st σ := by
  intro L st σ h hn hL hst hσ H locs ls hP hS hl
  obtain ⟨hx, hb, hml, hown, hts, hK, hi, hAz, hcs, hE⟩ := C
  rcases st with _ | ⟨v, st⟩ <;> try (exact h.elim)
  exact W.vret hx hb hr (fun t ht hW => ⟨⟨none, σ, rfl, h, (fun _ e => by cases e), hσ, by rw [ht]; exact hP⟩, hS.F ht⟩) hS.2.2 d
-- calls
def z_OK (zx : zX) (zn : Nat) (l : Launch) (y : MethodName) (cc : ByteArray) (maxL : Nat) (ret : Option FieldType) (fr lo : Nat) (S : zS) : Prop := ∀ (D : va_G) (cA : Nat → ClassId) (ad : Nat → Nat) (as : List zV) (σ : zM) (Ret : zR), z_inj zn ad → z_oks zn as → z_okm σ → S as σ Ret →
  Met l y (.code y cc maxL ret :: z_tbl) { frames := fr, cells := 0, slots := 0, locals := lo } (va_Pc (as.map (z_val ad)) (fun U => va_P D vwCl (z_W zn cA ad σ) U.heap ∧ va_K D vwCl (z_tys cA) U ∧ z_St zx (z_A zn ad) ad U U.heap)) (z_Qc zn D cA ad Ret) 0 0 (z_A zn ad)
theorem z_St.narrow {B : Nat → Prop} {U : State} {H : Heap} (h : z_St zx zA ad U H) (hB : ∀ q, B q → zA q) : z_St zx B ad U H :=
  ⟨⟨h.1.1.narrow hB, h.1.2.1.narrow hB, h.1.2.2.1.imp (fun q => q.narrow hB) (fun q => q.narrow hB), h.1.2.2.2⟩, h.2.1, h.2.2.1, fun q => h.2.2.2.1 (hB _ q), h.2.2.2.2⟩
theorem z_St.to {s U : State} {H H1 : Heap} (hW : s.WarmedH U.vm) (h : z_St zx zA ad s H) (hz : H.size ≤ H1.size) (hq : ∀ a : Nat, a < H.size → ¬ zA a → H1[a]? = H[a]?) : z_St zx zA ad U H1 :=
  ⟨⟨vk_S.moved hW.alike (h.1.1.kept hq), va_Z.moved hW.alike (h.1.2.1.kept hq), h.1.2.2.1.imp (fun q => va_Z.moved hW.alike (q.kept hq)) (fun q => va_Z.moved hW.alike (q.kept hq)), fun i hi => vk_R.warm hW (h.1.2.2.2 i hi)⟩, va_X.moved hW.alike (h.2.1.kept (hq _ h.2.2.1 h.2.2.2.1)), Nat.lt_of_lt_of_le h.2.2.1 hz, h.2.2.2⟩
theorem z_St.same {s U : State} {H : Heap} (hv : U.vm = s.vm) (h : z_St zx zA ad s H) : z_St zx zA ad U H :=
  have hA : s.vm.Alike U.vm := hv ▸ Vm.Alike.refl s.vm
  ⟨⟨vk_S.moved hA h.1.1, va_Z.moved hA h.1.2.1, h.1.2.2.1.imp (fun q => va_Z.moved hA q) (fun q => va_Z.moved hA q), fun i hi => vk_R.same hv (h.1.2.2.2 i hi)⟩, va_X.moved hA h.2.1, h.2.2⟩
theorem z_callk {D : va_G} {cA : Nat → ClassId} {ad : Nat → Nat} {H : Heap} {locs : List Loc} {pc : Nat} {ls : Array Slot} {st0 rest : List Value} {a : Array Value} {Ret : zR} (hAA : ∀ q, z_A zn ad q → zA q) (hr : va_Run p l e R s m args below meth c H locs cl sl 0 0 (F0 m pc ls st0) rest (z_Qc zn D cA ad Ret a) (z_A zn ad)) (hS : va_S zA s.heap H locs)
    (kk : ∀ (r : Option zV) (σ' : zM) (H1 : Heap) (locs1 : List Loc), Ret r σ' → z_okr zn r → z_okm σ' → va_P D vwCl (z_W zn cA ad σ') H1 → va_S zA s.heap H1 locs1 → W p l e R s m args below meth c H1 locs1 cl sl Q (F0 m (pc + 3) ls ((r.map (z_val ad)).toList ++ rest))) : W p l e R s m args below meth c H locs cl sl Q (F0 m pc ls st0) := by
  intro T hT X
  obtain ⟨v, st₀, t, T', L, h0, X', hL, e1, e2, ⟨⟨r, σ', hv, hR1, hr1, hσ1, hP1⟩, hz, hk⟩, st⟩ := hr T hT X
  cases hv
  rw [h0] at hz hk
  obtain ⟨t2, a1, b1⟩ := kk r σ' T'.heap (locs ++ L) hR1 hr1 hσ1 (by rw [e1]; exact hP1)
    ⟨Nat.le_trans hS.1 (by rw [e1]; exact hz), fun q h1 h2 => by rw [e1, hk q (Nat.lt_of_lt_of_le h1 hS.1) (fun g => h2 (hAA q g))]; exact hS.2.1 q h1 h2, fun q hq => by
      rcases List.mem_append.mp hq with h | h
      · exact hS.2.2 q h
      · exact hAA _ (hL q h)⟩ T' rfl X'
  exact ⟨t2, st t2 a1, b1⟩
theorem z_good {ws : List Cond} (h : ∀ w ∈ ws, w ∈ z_tbl) : GoodIn z_tbl ws := fun w hw => ⟨h w hw, good_of_word (List.all_eq_true.mp z_tbl_good w (h w hw))⟩
def z_cat (r : Option zV) (st : List zV) : List zV := match r with
  | none => st
  | some v => v :: st
theorem z_cat_map {ad : Nat → Nat} (r : Option zV) (st : List zV) : (z_cat r st).map (z_val ad) = (r.map (z_val ad)).toList ++ st.map (z_val ad) := by cases r <;> rfl
theorem z_cat_ok {r : Option zV} {st : List zV} (h : z_okr zn r) (hs : z_oks zn st) : z_oks zn (z_cat r st) := by
  cases r with
  | none => exact hs
  | some v => exact z_oks_cons (h v rfl) hs
theorem s_callS (C : z_Cx zx zn zA cl sl p R s m args c cc own nL D cA ad) {pc ix : Nat} {y : MethodName} {bytes : ByteArray} {maxL fr lo n : Nat} {ret : Option FieldType} {S : zS} (d : decode cc pc = .ok (.invokestatic ix, 3)) (hok : z_OK zx zn l y bytes maxL ret fr lo S) (hw1 : Cond.methodLink own ix y ∈ z_tbl) (hw2 : Cond.static y ∈ z_tbl) (hw3 : Cond.initialized y.cls ∈ z_tbl) (hw4 : Cond.code y bytes maxL ret ∈ z_tbl)
    (hd : y.cls ≠ "java/lang/invoke/MethodHandle" ∧ y.cls ≠ "java/lang/invoke/VarHandle" ∧ (parseMethodDescriptor y.desc).map (fun d => d.parameters.length) = some n) (hR : fr + 1 ≤ R.frames ∧ 8 + (maxL + 11) + lo ≤ R.locals) {B : zB} (hB : ∀ L st σ, B L st σ → z_X zx zn zA cl sl p l e R s m args below meth c Q nL D cA ad fl (pc + 3) L st σ)
    {L : zL} {as st : List zV} {σ : zM} (hn1 : as.length = n) (h4 : st.length ≤ 4) (h : S as σ (fun r σ' => B L (z_cat r st) σ')) : z_X zx zn zA cl sl p l e R s m args below meth c Q nL D cA ad fl pc L (as.reverse ++ st) σ := by
  intro hn hL hst hσ H locs ls hP hS hl
  obtain ⟨hx, hb, hml, hown, hts, hK, hi, hAz, hcs, hE⟩ := C
  have has : z_oks zn as := fun v hv => hst v (List.mem_append_left _ (List.mem_reverse.mpr hv))
  have hs2 : z_oks zn st := fun v hv => hst v (List.mem_append_right _ hv)
  rw [List.map_append, List.map_reverse]
  refine z_callk hAz (va_runS (As := as.map (z_val ad)) (rest := st.map (z_val ad)) ⟨hx, hb, hml, hown, hts⟩ (hok D cA ad as σ _ hi has hσ h) ⟨⟨rfl, rfl, hR.1, hR.2, pay_in (big := z_tbl) hts (z_good (fun w hw => by rcases List.mem_cons.mp hw with rfl | hw; exact hw4; exact hw)), List.mem_cons_self, hts _ hw4, hts _ hw3, ⟨hd.1, hd.2.1⟩, fun sig hsg => by have h2 := hd.2.2; rw [hsg] at h2; exact (Option.some.inj h2).symm, hts _ hw1⟩, hts _ hw2⟩
    ⟨fun a U g mk q => ⟨q.1, q.2.1, va_K.moved (u := U) (U := U.calling g mk a) (Vm.Alike.refl U.vm) q.2.2.1, z_St.same (U := U.calling g mk a) (s := U) rfl q.2.2.2⟩, fun U hU hW => ⟨rfl, by rw [hU]; exact hP, va_K.moved hW.alike hK, (z_St.to hW hE (by rw [hU]; exact hS.1) (by rw [hU]; exact hS.2.1)).narrow hAz⟩⟩ rfl (by rw [List.length_map]; exact hn1) hl.1 rfl (lv_room (z_sum ad st h4)) d ⟨hcs.1, hcs.2⟩) hS (fun r σ' H1 locs1 hR1 hr1 hσ1 hP1 hS1 => ?_)
  rw [← z_cat_map]
  exact hB _ _ _ hR1 hn hL (z_cat_ok hr1 hs2) hσ1 H1 locs1 ls hP1 hS1 hl
theorem s_callV (C : z_Cx zx zn zA cl sl p R s m args c cc own nL D cA ad) {pc ix : Nat} {y : MethodName} {bytes : ByteArray} {maxL fr lo n c0 : Nat} {ret : Option FieldType} {S : zS} {T0 : u_T} {N0 : Nat} (d : decode cc pc = .ok (.invokevirtual ix, 3)) (hok : z_OK zx zn l y bytes maxL ret fr lo S) (hc0 : z_Cls c0 y.cls T0 N0) (hw1 : Cond.methodLink own ix y ∈ z_tbl) (hw2 : Cond.instanceMethod y ∈ z_tbl) (hw5 : Cond.selects y.cls y y ∈ z_tbl) (hw3 : Cond.initialized y.cls ∈ z_tbl) (hw4 : Cond.code y bytes maxL ret ∈ z_tbl)
    (hd : y.cls ≠ "java/lang/invoke/MethodHandle" ∧ y.cls ≠ "java/lang/invoke/VarHandle" ∧ (parseMethodDescriptor y.desc).map (fun d => d.parameters.length) = some n) (hR : fr + 1 ≤ R.frames ∧ 8 + (maxL + 11) + lo ≤ R.locals) {B : zB} (hB : ∀ L st σ, B L st σ → z_X zx zn zA cl sl p l e R s m args below meth c Q nL D cA ad fl (pc + 3) L st σ)
    {L : zL} {as st : List zV} {σ : zM} {n0 k0 : Nat} (hn1 : as.length = n) (h4 : st.length ≤ 4) (h : S (.inr (.inr (c0, n0, k0)) :: as) σ (fun r σ' => B L (z_cat r st) σ')) : z_X zx zn zA cl sl p l e R s m args below meth c Q nL D cA ad fl pc L (as.reverse ++ .inr (.inr (c0, n0, k0)) :: st) σ := by
  intro hn hL hst hσ H locs ls hP hS hl
  obtain ⟨hx, hb, hml, hown, hts, hK, hi, hAz, hcs, hE⟩ := C
  have hth : z_okv zn (.inr (.inr (c0, n0, k0))) := hst _ (List.mem_append_right _ List.mem_cons_self)
  have has : z_oks zn (.inr (.inr (c0, n0, k0)) :: as) := z_oks_cons hth (fun v hv => hst v (List.mem_append_left _ (List.mem_reverse.mpr hv)))
  have hs2 : z_oks zn st := fun v hv => hst v (List.mem_append_right _ (List.mem_cons_of_mem _ hv))
  have hk : z_kp zn k0 c0 n0 := hth
  obtain ⟨hc9, hcl, hin, -, -, hlen⟩ := hc0
  have h5 : ¬ c0 = 250 := by omega
  have ev : z_val ad (.inr (.inr (c0, n0, k0))) = .ref (ad k0) := by simp only [z_val, if_neg h5]
  rw [List.map_append, List.map_reverse, List.map_cons, ev]
  have hM := hok D cA ad _ σ _ hi has hσ h
  rw [List.map_cons, ev] at hM
  refine z_callk hAz (va_runV (As := as.map (z_val ad)) (rest := st.map (z_val ad)) (b := ad k0) (C := y.cls) ⟨hx, hb, hml, hown, hts⟩ hM ⟨⟨rfl, rfl, hR.1, hR.2, pay_in (big := z_tbl) hts (z_good (fun w hw => by rcases List.mem_cons.mp hw with rfl | hw; exact hw4; exact hw)), List.mem_cons_self, hts _ hw4, hts _ hw3, ⟨hd.1, hd.2.1⟩, fun sig hsg => by have h2 := hd.2.2; rw [hsg] at h2; exact (Option.some.inj h2).symm, hts _ hw1⟩, hts _ hw2, hts _ hw5⟩
    ⟨fun a U g mk q => ⟨q.1, q.2.1, va_K.moved (u := U) (U := U.calling g mk a) (Vm.Alike.refl U.vm) q.2.2.1, z_St.same (U := U.calling g mk a) (s := U) rfl q.2.2.2⟩, va_recv hK hP hcl (z_obj hk hc9), fun U hU hW => ⟨rfl, by rw [hU]; exact hP, va_K.moved hW.alike hK, (z_St.to hW hE (by rw [hU]; exact hS.1) (by rw [hU]; exact hS.2.1)).narrow hAz⟩⟩ rfl (by rw [List.length_map]; exact hn1) hl.1 rfl (lv_room (z_sum ad st h4)) d ⟨hcs.1, hcs.2⟩) hS (fun r σ' H1 locs1 hR1 hr1 hσ1 hP1 hS1 => ?_)
  rw [← z_cat_map]
  exact hB _ _ _ hR1 hn hL (z_cat_ok hr1 hs2) hσ1 H1 locs1 ls hP1 hS1 hl
def z_cs0 (S : zS) (B : zB) (L : zL) (st : List zV) (σ : zM) : Prop := match st with
  | st => st.length ≤ 4 ∧ S [] σ (fun r σ' => B L (z_cat r st) σ')
def z_cv0 (c0 : Nat) (S : zS) (B : zB) (L : zL) (st : List zV) (σ : zM) : Prop := match st with
  | .inr (.inr (c, n, k)) :: st => (c = c0 ∧ st.length ≤ 4) ∧ S [.inr (.inr (c, n, k))] σ (fun r σ' => B L (z_cat r st) σ')
  | _ => False
def z_cs1 (S : zS) (B : zB) (L : zL) (st : List zV) (σ : zM) : Prop := match st with
  | a0 :: st => st.length ≤ 4 ∧ S [a0] σ (fun r σ' => B L (z_cat r st) σ')
  | _ => False
def z_cv1 (c0 : Nat) (S : zS) (B : zB) (L : zL) (st : List zV) (σ : zM) : Prop := match st with
  | a0 :: .inr (.inr (c, n, k)) :: st => (c = c0 ∧ st.length ≤ 4) ∧ S [.inr (.inr (c, n, k)), a0] σ (fun r σ' => B L (z_cat r st) σ')
  | _ => False
def z_cs2 (S : zS) (B : zB) (L : zL) (st : List zV) (σ : zM) : Prop := match st with
  | a1 :: a0 :: st => st.length ≤ 4 ∧ S [a0, a1] σ (fun r σ' => B L (z_cat r st) σ')
  | _ => False
def z_cv2 (c0 : Nat) (S : zS) (B : zB) (L : zL) (st : List zV) (σ : zM) : Prop := match st with
  | a1 :: a0 :: .inr (.inr (c, n, k)) :: st => (c = c0 ∧ st.length ≤ 4) ∧ S [.inr (.inr (c, n, k)), a0, a1] σ (fun r σ' => B L (z_cat r st) σ')
  | _ => False
def z_cs3 (S : zS) (B : zB) (L : zL) (st : List zV) (σ : zM) : Prop := match st with
  | a2 :: a1 :: a0 :: st => st.length ≤ 4 ∧ S [a0, a1, a2] σ (fun r σ' => B L (z_cat r st) σ')
  | _ => False
def z_cv3 (c0 : Nat) (S : zS) (B : zB) (L : zL) (st : List zV) (σ : zM) : Prop := match st with
  | a2 :: a1 :: a0 :: .inr (.inr (c, n, k)) :: st => (c = c0 ∧ st.length ≤ 4) ∧ S [.inr (.inr (c, n, k)), a0, a1, a2] σ (fun r σ' => B L (z_cat r st) σ')
  | _ => False
def z_cs4 (S : zS) (B : zB) (L : zL) (st : List zV) (σ : zM) : Prop := match st with
  | a3 :: a2 :: a1 :: a0 :: st => st.length ≤ 4 ∧ S [a0, a1, a2, a3] σ (fun r σ' => B L (z_cat r st) σ')
  | _ => False
def z_cv4 (c0 : Nat) (S : zS) (B : zB) (L : zL) (st : List zV) (σ : zM) : Prop := match st with
  | a3 :: a2 :: a1 :: a0 :: .inr (.inr (c, n, k)) :: st => (c = c0 ∧ st.length ≤ 4) ∧ S [.inr (.inr (c, n, k)), a0, a1, a2, a3] σ (fun r σ' => B L (z_cat r st) σ')
  | _ => False
def z_cs5 (S : zS) (B : zB) (L : zL) (st : List zV) (σ : zM) : Prop := match st with
  | a4 :: a3 :: a2 :: a1 :: a0 :: st => st.length ≤ 4 ∧ S [a0, a1, a2, a3, a4] σ (fun r σ' => B L (z_cat r st) σ')
  | _ => False
def z_cv5 (c0 : Nat) (S : zS) (B : zB) (L : zL) (st : List zV) (σ : zM) : Prop := match st with
  | a4 :: a3 :: a2 :: a1 :: a0 :: .inr (.inr (c, n, k)) :: st => (c = c0 ∧ st.length ≤ 4) ∧ S [.inr (.inr (c, n, k)), a0, a1, a2, a3, a4] σ (fun r σ' => B L (z_cat r st) σ')
  | _ => False
def z_cs6 (S : zS) (B : zB) (L : zL) (st : List zV) (σ : zM) : Prop := match st with
  | a5 :: a4 :: a3 :: a2 :: a1 :: a0 :: st => st.length ≤ 4 ∧ S [a0, a1, a2, a3, a4, a5] σ (fun r σ' => B L (z_cat r st) σ')
  | _ => False
def z_cv6 (c0 : Nat) (S : zS) (B : zB) (L : zL) (st : List zV) (σ : zM) : Prop := match st with
  | a5 :: a4 :: a3 :: a2 :: a1 :: a0 :: .inr (.inr (c, n, k)) :: st => (c = c0 ∧ st.length ≤ 4) ∧ S [.inr (.inr (c, n, k)), a0, a1, a2, a3, a4, a5] σ (fun r σ' => B L (z_cat r st) σ')
  | _ => False
def z_cs7 (S : zS) (B : zB) (L : zL) (st : List zV) (σ : zM) : Prop := match st with
  | a6 :: a5 :: a4 :: a3 :: a2 :: a1 :: a0 :: st => st.length ≤ 4 ∧ S [a0, a1, a2, a3, a4, a5, a6] σ (fun r σ' => B L (z_cat r st) σ')
  | _ => False
def z_cv7 (c0 : Nat) (S : zS) (B : zB) (L : zL) (st : List zV) (σ : zM) : Prop := match st with
  | a6 :: a5 :: a4 :: a3 :: a2 :: a1 :: a0 :: .inr (.inr (c, n, k)) :: st => (c = c0 ∧ st.length ≤ 4) ∧ S [.inr (.inr (c, n, k)), a0, a1, a2, a3, a4, a5, a6] σ (fun r σ' => B L (z_cat r st) σ')
  | _ => False
theorem s_cs0 (C : z_Cx zx zn zA cl sl p R s m args c cc own nL D cA ad) {pc ix : Nat} {y : MethodName} {bytes : ByteArray} {maxL fr lo : Nat} {ret : Option FieldType} {S : zS} (d : decode cc pc = .ok (.invokestatic ix, 3)) (hok : z_OK zx zn l y bytes maxL ret fr lo S) (hw1 : Cond.methodLink own ix y ∈ z_tbl) (hw2 : Cond.static y ∈ z_tbl) (hw3 : Cond.initialized y.cls ∈ z_tbl) (hw4 : Cond.code y bytes maxL ret ∈ z_tbl) (hd : y.cls ≠ "java/lang/invoke/MethodHandle" ∧ y.cls ≠ "java/lang/invoke/VarHandle" ∧ (parseMethodDescriptor y.desc).map (fun d => d.parameters.length) = some 0) (hR : fr + 1 ≤ R.frames ∧ 8 + (maxL + 11) + lo ≤ R.locals) {B : zB} (hB : ∀ L st σ, B L st σ → z_X zx zn zA cl sl p l e R s m args below meth c Q nL D cA ad fl (pc + 3) L st σ) : ∀ L st σ, z_cs0 S B L st σ → z_X zx zn zA cl sl p l e R s m args below meth c Q nL D cA ad fl pc L st σ := by
  intro L st σ h
  exact s_callS C d hok hw1 hw2 hw3 hw4 hd hR hB (as := []) rfl h.1 h.2
theorem s_cv0 (C : z_Cx zx zn zA cl sl p R s m args c cc own nL D cA ad) {pc ix : Nat} {y : MethodName} {bytes : ByteArray} {maxL fr lo : Nat} {ret : Option FieldType} {S : zS} {c0 : Nat} {T0 : u_T} {N0 : Nat} (d : decode cc pc = .ok (.invokevirtual ix, 3)) (hok : z_OK zx zn l y bytes maxL ret fr lo S) (hc0 : z_Cls c0 y.cls T0 N0) (hw1 : Cond.methodLink own ix y ∈ z_tbl) (hw2 : Cond.instanceMethod y ∈ z_tbl) (hw5 : Cond.selects y.cls y y ∈ z_tbl) (hw3 : Cond.initialized y.cls ∈ z_tbl) (hw4 : Cond.code y bytes maxL ret ∈ z_tbl) (hd : y.cls ≠ "java/lang/invoke/MethodHandle" ∧ y.cls ≠ "java/lang/invoke/VarHandle" ∧ (parseMethodDescriptor y.desc).map (fun d => d.parameters.length) = some 0) (hR : fr + 1 ≤ R.frames ∧ 8 + (maxL + 11) + lo ≤ R.locals) {B : zB} (hB : ∀ L st σ, B L st σ → z_X zx zn zA cl sl p l e R s m args below meth c Q nL D cA ad fl (pc + 3) L st σ) : ∀ L st σ, z_cv0 c0 S B L st σ → z_X zx zn zA cl sl p l e R s m args below meth c Q nL D cA ad fl pc L st σ := by
  intro L st σ h
  rcases st with _ | ⟨x | x | ⟨c, n, k⟩, st⟩ <;> try (exact h.elim)
  obtain ⟨⟨rfl, h4⟩, h⟩ := h
  exact s_callV C d hok hc0 hw1 hw2 hw5 hw3 hw4 hd hR hB (as := []) rfl h4 h
theorem s_cs1 (C : z_Cx zx zn zA cl sl p R s m args c cc own nL D cA ad) {pc ix : Nat} {y : MethodName} {bytes : ByteArray} {maxL fr lo : Nat} {ret : Option FieldType} {S : zS} (d : decode cc pc = .ok (.invokestatic ix, 3)) (hok : z_OK zx zn l y bytes maxL ret fr lo S) (hw1 : Cond.methodLink own ix y ∈ z_tbl) (hw2 : Cond.static y ∈ z_tbl) (hw3 : Cond.initialized y.cls ∈ z_tbl) (hw4 : Cond.code y bytes maxL ret ∈ z_tbl) (hd : y.cls ≠ "java/lang/invoke/MethodHandle" ∧ y.cls ≠ "java/lang/invoke/VarHandle" ∧ (parseMethodDescriptor y.desc).map (fun d => d.parameters.length) = some 1) (hR : fr + 1 ≤ R.frames ∧ 8 + (maxL + 11) + lo ≤ R.locals) {B : zB} (hB : ∀ L st σ, B L st σ → z_X zx zn zA cl sl p l e R s m args below meth c Q nL D cA ad fl (pc + 3) L st σ) : ∀ L st σ, z_cs1 S B L st σ → z_X zx zn zA cl sl p l e R s m args below meth c Q nL D cA ad fl pc L st σ := by
  intro L st σ h
  rcases st with _ | ⟨a0, st⟩ <;> try (exact h.elim)
  exact s_callS C d hok hw1 hw2 hw3 hw4 hd hR hB (as := [a0]) rfl h.1 h.2
theorem s_cv1 (C : z_Cx zx zn zA cl sl p R s m args c cc own nL D cA ad) {pc ix : Nat} {y : MethodName} {bytes : ByteArray} {maxL fr lo : Nat} {ret : Option FieldType} {S : zS} {c0 : Nat} {T0 : u_T} {N0 : Nat} (d : decode cc pc = .ok (.invokevirtual ix, 3)) (hok : z_OK zx zn l y bytes maxL ret fr lo S) (hc0 : z_Cls c0 y.cls T0 N0) (hw1 : Cond.methodLink own ix y ∈ z_tbl) (hw2 : Cond.instanceMethod y ∈ z_tbl) (hw5 : Cond.selects y.cls y y ∈ z_tbl) (hw3 : Cond.initialized y.cls ∈ z_tbl) (hw4 : Cond.code y bytes maxL ret ∈ z_tbl) (hd : y.cls ≠ "java/lang/invoke/MethodHandle" ∧ y.cls ≠ "java/lang/invoke/VarHandle" ∧ (parseMethodDescriptor y.desc).map (fun d => d.parameters.length) = some 1) (hR : fr + 1 ≤ R.frames ∧ 8 + (maxL + 11) + lo ≤ R.locals) {B : zB} (hB : ∀ L st σ, B L st σ → z_X zx zn zA cl sl p l e R s m args below meth c Q nL D cA ad fl (pc + 3) L st σ) : ∀ L st σ, z_cv1 c0 S B L st σ → z_X zx zn zA cl sl p l e R s m args below meth c Q nL D cA ad fl pc L st σ := by
  intro L st σ h
  rcases st with _ | ⟨a0, _ | ⟨x | x | ⟨c, n, k⟩, st⟩⟩ <;> try (exact h.elim)
  obtain ⟨⟨rfl, h4⟩, h⟩ := h
  exact s_callV C d hok hc0 hw1 hw2 hw5 hw3 hw4 hd hR hB (as := [a0]) rfl h4 h
theorem s_cs2 (C : z_Cx zx zn zA cl sl p R s m args c cc own nL D cA ad) {pc ix : Nat} {y : MethodName} {bytes : ByteArray} {maxL fr lo : Nat} {ret : Option FieldType} {S : zS} (d : decode cc pc = .ok (.invokestatic ix, 3)) (hok : z_OK zx zn l y bytes maxL ret fr lo S) (hw1 : Cond.methodLink own ix y ∈ z_tbl) (hw2 : Cond.static y ∈ z_tbl) (hw3 : Cond.initialized y.cls ∈ z_tbl) (hw4 : Cond.code y bytes maxL ret ∈ z_tbl) (hd : y.cls ≠ "java/lang/invoke/MethodHandle" ∧ y.cls ≠ "java/lang/invoke/VarHandle" ∧ (parseMethodDescriptor y.desc).map (fun d => d.parameters.length) = some 2) (hR : fr + 1 ≤ R.frames ∧ 8 + (maxL + 11) + lo ≤ R.locals) {B : zB} (hB : ∀ L st σ, B L st σ → z_X zx zn zA cl sl p l e R s m args below meth c Q nL D cA ad fl (pc + 3) L st σ) : ∀ L st σ, z_cs2 S B L st σ → z_X zx zn zA cl sl p l e R s m args below meth c Q nL D cA ad fl pc L st σ := by
  intro L st σ h
  rcases st with _ | ⟨a1, _ | ⟨a0, st⟩⟩ <;> try (exact h.elim)
  exact s_callS C d hok hw1 hw2 hw3 hw4 hd hR hB (as := [a0, a1]) rfl h.1 h.2
theorem s_cv2 (C : z_Cx zx zn zA cl sl p R s m args c cc own nL D cA ad) {pc ix : Nat} {y : MethodName} {bytes : ByteArray} {maxL fr lo : Nat} {ret : Option FieldType} {S : zS} {c0 : Nat} {T0 : u_T} {N0 : Nat} (d : decode cc pc = .ok (.invokevirtual ix, 3)) (hok : z_OK zx zn l y bytes maxL ret fr lo S) (hc0 : z_Cls c0 y.cls T0 N0) (hw1 : Cond.methodLink own ix y ∈ z_tbl) (hw2 : Cond.instanceMethod y ∈ z_tbl) (hw5 : Cond.selects y.cls y y ∈ z_tbl) (hw3 : Cond.initialized y.cls ∈ z_tbl) (hw4 : Cond.code y bytes maxL ret ∈ z_tbl) (hd : y.cls ≠ "java/lang/invoke/MethodHandle" ∧ y.cls ≠ "java/lang/invoke/VarHandle" ∧ (parseMethodDescriptor y.desc).map (fun d => d.parameters.length) = some 2) (hR : fr + 1 ≤ R.frames ∧ 8 + (maxL + 11) + lo ≤ R.locals) {B : zB} (hB : ∀ L st σ, B L st σ → z_X zx zn zA cl sl p l e R s m args below meth c Q nL D cA ad fl (pc + 3) L st σ) : ∀ L st σ, z_cv2 c0 S B L st σ → z_X zx zn zA cl sl p l e R s m args below meth c Q nL D cA ad fl pc L st σ := by
  intro L st σ h
  rcases st with _ | ⟨a1, _ | ⟨a0, _ | ⟨x | x | ⟨c, n, k⟩, st⟩⟩⟩ <;> try (exact h.elim)
  obtain ⟨⟨rfl, h4⟩, h⟩ := h
  exact s_callV C d hok hc0 hw1 hw2 hw5 hw3 hw4 hd hR hB (as := [a0, a1]) rfl h4 h
theorem s_cs3 (C : z_Cx zx zn zA cl sl p R s m args c cc own nL D cA ad) {pc ix : Nat} {y : MethodName} {bytes : ByteArray} {maxL fr lo : Nat} {ret : Option FieldType} {S : zS} (d : decode cc pc = .ok (.invokestatic ix, 3)) (hok : z_OK zx zn l y bytes maxL ret fr lo S) (hw1 : Cond.methodLink own ix y ∈ z_tbl) (hw2 : Cond.static y ∈ z_tbl) (hw3 : Cond.initialized y.cls ∈ z_tbl) (hw4 : Cond.code y bytes maxL ret ∈ z_tbl) (hd : y.cls ≠ "java/lang/invoke/MethodHandle" ∧ y.cls ≠ "java/lang/invoke/VarHandle" ∧ (parseMethodDescriptor y.desc).map (fun d => d.parameters.length) = some 3) (hR : fr + 1 ≤ R.frames ∧ 8 + (maxL + 11) + lo ≤ R.locals) {B : zB} (hB : ∀ L st σ, B L st σ → z_X zx zn zA cl sl p l e R s m args below meth c Q nL D cA ad fl (pc + 3) L st σ) : ∀ L st σ, z_cs3 S B L st σ → z_X zx zn zA cl sl p l e R s m args below meth c Q nL D cA ad fl pc L st σ := by
  intro L st σ h
  rcases st with _ | ⟨a2, _ | ⟨a1, _ | ⟨a0, st⟩⟩⟩ <;> try (exact h.elim)
  exact s_callS C d hok hw1 hw2 hw3 hw4 hd hR hB (as := [a0, a1, a2]) rfl h.1 h.2
theorem s_cv3 (C : z_Cx zx zn zA cl sl p R s m args c cc own nL D cA ad) {pc ix : Nat} {y : MethodName} {bytes : ByteArray} {maxL fr lo : Nat} {ret : Option FieldType} {S : zS} {c0 : Nat} {T0 : u_T} {N0 : Nat} (d : decode cc pc = .ok (.invokevirtual ix, 3)) (hok : z_OK zx zn l y bytes maxL ret fr lo S) (hc0 : z_Cls c0 y.cls T0 N0) (hw1 : Cond.methodLink own ix y ∈ z_tbl) (hw2 : Cond.instanceMethod y ∈ z_tbl) (hw5 : Cond.selects y.cls y y ∈ z_tbl) (hw3 : Cond.initialized y.cls ∈ z_tbl) (hw4 : Cond.code y bytes maxL ret ∈ z_tbl) (hd : y.cls ≠ "java/lang/invoke/MethodHandle" ∧ y.cls ≠ "java/lang/invoke/VarHandle" ∧ (parseMethodDescriptor y.desc).map (fun d => d.parameters.length) = some 3) (hR : fr + 1 ≤ R.frames ∧ 8 + (maxL + 11) + lo ≤ R.locals) {B : zB} (hB : ∀ L st σ, B L st σ → z_X zx zn zA cl sl p l e R s m args below meth c Q nL D cA ad fl (pc + 3) L st σ) : ∀ L st σ, z_cv3 c0 S B L st σ → z_X zx zn zA cl sl p l e R s m args below meth c Q nL D cA ad fl pc L st σ := by
  intro L st σ h
  rcases st with _ | ⟨a2, _ | ⟨a1, _ | ⟨a0, _ | ⟨x | x | ⟨c, n, k⟩, st⟩⟩⟩⟩ <;> try (exact h.elim)
  obtain ⟨⟨rfl, h4⟩, h⟩ := h
  exact s_callV C d hok hc0 hw1 hw2 hw5 hw3 hw4 hd hR hB (as := [a0, a1, a2]) rfl h4 h
theorem s_cs4 (C : z_Cx zx zn zA cl sl p R s m args c cc own nL D cA ad) {pc ix : Nat} {y : MethodName} {bytes : ByteArray} {maxL fr lo : Nat} {ret : Option FieldType} {S : zS} (d : decode cc pc = .ok (.invokestatic ix, 3)) (hok : z_OK zx zn l y bytes maxL ret fr lo S) (hw1 : Cond.methodLink own ix y ∈ z_tbl) (hw2 : Cond.static y ∈ z_tbl) (hw3 : Cond.initialized y.cls ∈ z_tbl) (hw4 : Cond.code y bytes maxL ret ∈ z_tbl) (hd : y.cls ≠ "java/lang/invoke/MethodHandle" ∧ y.cls ≠ "java/lang/invoke/VarHandle" ∧ (parseMethodDescriptor y.desc).map (fun d => d.parameters.length) = some 4) (hR : fr + 1 ≤ R.frames ∧ 8 + (maxL + 11) + lo ≤ R.locals) {B : zB} (hB : ∀ L st σ, B L st σ → z_X zx zn zA cl sl p l e R s m args below meth c Q nL D cA ad fl (pc + 3) L st σ) : ∀ L st σ, z_cs4 S B L st σ → z_X zx zn zA cl sl p l e R s m args below meth c Q nL D cA ad fl pc L st σ := by
  intro L st σ h
  rcases st with _ | ⟨a3, _ | ⟨a2, _ | ⟨a1, _ | ⟨a0, st⟩⟩⟩⟩ <;> try (exact h.elim)
  exact s_callS C d hok hw1 hw2 hw3 hw4 hd hR hB (as := [a0, a1, a2, a3]) rfl h.1 h.2
theorem s_cv4 (C : z_Cx zx zn zA cl sl p R s m args c cc own nL D cA ad) {pc ix : Nat} {y : MethodName} {bytes : ByteArray} {maxL fr lo : Nat} {ret : Option FieldType} {S : zS} {c0 : Nat} {T0 : u_T} {N0 : Nat} (d : decode cc pc = .ok (.invokevirtual ix, 3)) (hok : z_OK zx zn l y bytes maxL ret fr lo S) (hc0 : z_Cls c0 y.cls T0 N0) (hw1 : Cond.methodLink own ix y ∈ z_tbl) (hw2 : Cond.instanceMethod y ∈ z_tbl) (hw5 : Cond.selects y.cls y y ∈ z_tbl) (hw3 : Cond.initialized y.cls ∈ z_tbl) (hw4 : Cond.code y bytes maxL ret ∈ z_tbl) (hd : y.cls ≠ "java/lang/invoke/MethodHandle" ∧ y.cls ≠ "java/lang/invoke/VarHandle" ∧ (parseMethodDescriptor y.desc).map (fun d => d.parameters.length) = some 4) (hR : fr + 1 ≤ R.frames ∧ 8 + (maxL + 11) + lo ≤ R.locals) {B : zB} (hB : ∀ L st σ, B L st σ → z_X zx zn zA cl sl p l e R s m args below meth c Q nL D cA ad fl (pc + 3) L st σ) : ∀ L st σ, z_cv4 c0 S B L st σ → z_X zx zn zA cl sl p l e R s m args below meth c Q nL D cA ad fl pc L st σ := by
  intro L st σ h
  rcases st with _ | ⟨a3, _ | ⟨a2, _ | ⟨a1, _ | ⟨a0, _ | ⟨x | x | ⟨c, n, k⟩, st⟩⟩⟩⟩⟩ <;> try (exact h.elim)
  obtain ⟨⟨rfl, h4⟩, h⟩ := h
  exact s_callV C d hok hc0 hw1 hw2 hw5 hw3 hw4 hd hR hB (as := [a0, a1, a2, a3]) rfl h4 h
theorem s_cs5 (C : z_Cx zx zn zA cl sl p R s m args c cc own nL D cA ad) {pc ix : Nat} {y : MethodName} {bytes : ByteArray} {maxL fr lo : Nat} {ret : Option FieldType} {S : zS} (d : decode cc pc = .ok (.invokestatic ix, 3)) (hok : z_OK zx zn l y bytes maxL ret fr lo S) (hw1 : Cond.methodLink own ix y ∈ z_tbl) (hw2 : Cond.static y ∈ z_tbl) (hw3 : Cond.initialized y.cls ∈ z_tbl) (hw4 : Cond.code y bytes maxL ret ∈ z_tbl) (hd : y.cls ≠ "java/lang/invoke/MethodHandle" ∧ y.cls ≠ "java/lang/invoke/VarHandle" ∧ (parseMethodDescriptor y.desc).map (fun d => d.parameters.length) = some 5) (hR : fr + 1 ≤ R.frames ∧ 8 + (maxL + 11) + lo ≤ R.locals) {B : zB} (hB : ∀ L st σ, B L st σ → z_X zx zn zA cl sl p l e R s m args below meth c Q nL D cA ad fl (pc + 3) L st σ) : ∀ L st σ, z_cs5 S B L st σ → z_X zx zn zA cl sl p l e R s m args below meth c Q nL D cA ad fl pc L st σ := by
  intro L st σ h
  rcases st with _ | ⟨a4, _ | ⟨a3, _ | ⟨a2, _ | ⟨a1, _ | ⟨a0, st⟩⟩⟩⟩⟩ <;> try (exact h.elim)
  exact s_callS C d hok hw1 hw2 hw3 hw4 hd hR hB (as := [a0, a1, a2, a3, a4]) rfl h.1 h.2
theorem s_cv5 (C : z_Cx zx zn zA cl sl p R s m args c cc own nL D cA ad) {pc ix : Nat} {y : MethodName} {bytes : ByteArray} {maxL fr lo : Nat} {ret : Option FieldType} {S : zS} {c0 : Nat} {T0 : u_T} {N0 : Nat} (d : decode cc pc = .ok (.invokevirtual ix, 3)) (hok : z_OK zx zn l y bytes maxL ret fr lo S) (hc0 : z_Cls c0 y.cls T0 N0) (hw1 : Cond.methodLink own ix y ∈ z_tbl) (hw2 : Cond.instanceMethod y ∈ z_tbl) (hw5 : Cond.selects y.cls y y ∈ z_tbl) (hw3 : Cond.initialized y.cls ∈ z_tbl) (hw4 : Cond.code y bytes maxL ret ∈ z_tbl) (hd : y.cls ≠ "java/lang/invoke/MethodHandle" ∧ y.cls ≠ "java/lang/invoke/VarHandle" ∧ (parseMethodDescriptor y.desc).map (fun d => d.parameters.length) = some 5) (hR : fr + 1 ≤ R.frames ∧ 8 + (maxL + 11) + lo ≤ R.locals) {B : zB} (hB : ∀ L st σ, B L st σ → z_X zx zn zA cl sl p l e R s m args below meth c Q nL D cA ad fl (pc + 3) L st σ) : ∀ L st σ, z_cv5 c0 S B L st σ → z_X zx zn zA cl sl p l e R s m args below meth c Q nL D cA ad fl pc L st σ := by
  intro L st σ h
  rcases st with _ | ⟨a4, _ | ⟨a3, _ | ⟨a2, _ | ⟨a1, _ | ⟨a0, _ | ⟨x | x | ⟨c, n, k⟩, st⟩⟩⟩⟩⟩⟩ <;> try (exact h.elim)
  obtain ⟨⟨rfl, h4⟩, h⟩ := h
  exact s_callV C d hok hc0 hw1 hw2 hw5 hw3 hw4 hd hR hB (as := [a0, a1, a2, a3, a4]) rfl h4 h
theorem s_cs6 (C : z_Cx zx zn zA cl sl p R s m args c cc own nL D cA ad) {pc ix : Nat} {y : MethodName} {bytes : ByteArray} {maxL fr lo : Nat} {ret : Option FieldType} {S : zS} (d : decode cc pc = .ok (.invokestatic ix, 3)) (hok : z_OK zx zn l y bytes maxL ret fr lo S) (hw1 : Cond.methodLink own ix y ∈ z_tbl) (hw2 : Cond.static y ∈ z_tbl) (hw3 : Cond.initialized y.cls ∈ z_tbl) (hw4 : Cond.code y bytes maxL ret ∈ z_tbl) (hd : y.cls ≠ "java/lang/invoke/MethodHandle" ∧ y.cls ≠ "java/lang/invoke/VarHandle" ∧ (parseMethodDescriptor y.desc).map (fun d => d.parameters.length) = some 6) (hR : fr + 1 ≤ R.frames ∧ 8 + (maxL + 11) + lo ≤ R.locals) {B : zB} (hB : ∀ L st σ, B L st σ → z_X zx zn zA cl sl p l e R s m args below meth c Q nL D cA ad fl (pc + 3) L st σ) : ∀ L st σ, z_cs6 S B L st σ → z_X zx zn zA cl sl p l e R s m args below meth c Q nL D cA ad fl pc L st σ := by
  intro L st σ h
  rcases st with _ | ⟨a5, _ | ⟨a4, _ | ⟨a3, _ | ⟨a2, _ | ⟨a1, _ | ⟨a0, st⟩⟩⟩⟩⟩⟩ <;> try (exact h.elim)
  exact s_callS C d hok hw1 hw2 hw3 hw4 hd hR hB (as := [a0, a1, a2, a3, a4, a5]) rfl h.1 h.2
theorem s_cv6 (C : z_Cx zx zn zA cl sl p R s m args c cc own nL D cA ad) {pc ix : Nat} {y : MethodName} {bytes : ByteArray} {maxL fr lo : Nat} {ret : Option FieldType} {S : zS} {c0 : Nat} {T0 : u_T} {N0 : Nat} (d : decode cc pc = .ok (.invokevirtual ix, 3)) (hok : z_OK zx zn l y bytes maxL ret fr lo S) (hc0 : z_Cls c0 y.cls T0 N0) (hw1 : Cond.methodLink own ix y ∈ z_tbl) (hw2 : Cond.instanceMethod y ∈ z_tbl) (hw5 : Cond.selects y.cls y y ∈ z_tbl) (hw3 : Cond.initialized y.cls ∈ z_tbl) (hw4 : Cond.code y bytes maxL ret ∈ z_tbl) (hd : y.cls ≠ "java/lang/invoke/MethodHandle" ∧ y.cls ≠ "java/lang/invoke/VarHandle" ∧ (parseMethodDescriptor y.desc).map (fun d => d.parameters.length) = some 6) (hR : fr + 1 ≤ R.frames ∧ 8 + (maxL + 11) + lo ≤ R.locals) {B : zB} (hB : ∀ L st σ, B L st σ → z_X zx zn zA cl sl p l e R s m args below meth c Q nL D cA ad fl (pc + 3) L st σ) : ∀ L st σ, z_cv6 c0 S B L st σ → z_X zx zn zA cl sl p l e R s m args below meth c Q nL D cA ad fl pc L st σ := by
  intro L st σ h
  rcases st with _ | ⟨a5, _ | ⟨a4, _ | ⟨a3, _ | ⟨a2, _ | ⟨a1, _ | ⟨a0, _ | ⟨x | x | ⟨c, n, k⟩, st⟩⟩⟩⟩⟩⟩⟩ <;> try (exact h.elim)
  obtain ⟨⟨rfl, h4⟩, h⟩ := h
  exact s_callV C d hok hc0 hw1 hw2 hw5 hw3 hw4 hd hR hB (as := [a0, a1, a2, a3, a4, a5]) rfl h4 h
theorem s_cs7 (C : z_Cx zx zn zA cl sl p R s m args c cc own nL D cA ad) {pc ix : Nat} {y : MethodName} {bytes : ByteArray} {maxL fr lo : Nat} {ret : Option FieldType} {S : zS} (d : decode cc pc = .ok (.invokestatic ix, 3)) (hok : z_OK zx zn l y bytes maxL ret fr lo S) (hw1 : Cond.methodLink own ix y ∈ z_tbl) (hw2 : Cond.static y ∈ z_tbl) (hw3 : Cond.initialized y.cls ∈ z_tbl) (hw4 : Cond.code y bytes maxL ret ∈ z_tbl) (hd : y.cls ≠ "java/lang/invoke/MethodHandle" ∧ y.cls ≠ "java/lang/invoke/VarHandle" ∧ (parseMethodDescriptor y.desc).map (fun d => d.parameters.length) = some 7) (hR : fr + 1 ≤ R.frames ∧ 8 + (maxL + 11) + lo ≤ R.locals) {B : zB} (hB : ∀ L st σ, B L st σ → z_X zx zn zA cl sl p l e R s m args below meth c Q nL D cA ad fl (pc + 3) L st σ) : ∀ L st σ, z_cs7 S B L st σ → z_X zx zn zA cl sl p l e R s m args below meth c Q nL D cA ad fl pc L st σ := by
  intro L st σ h
  rcases st with _ | ⟨a6, _ | ⟨a5, _ | ⟨a4, _ | ⟨a3, _ | ⟨a2, _ | ⟨a1, _ | ⟨a0, st⟩⟩⟩⟩⟩⟩⟩ <;> try (exact h.elim)
  exact s_callS C d hok hw1 hw2 hw3 hw4 hd hR hB (as := [a0, a1, a2, a3, a4, a5, a6]) rfl h.1 h.2
theorem s_cv7 (C : z_Cx zx zn zA cl sl p R s m args c cc own nL D cA ad) {pc ix : Nat} {y : MethodName} {bytes : ByteArray} {maxL fr lo : Nat} {ret : Option FieldType} {S : zS} {c0 : Nat} {T0 : u_T} {N0 : Nat} (d : decode cc pc = .ok (.invokevirtual ix, 3)) (hok : z_OK zx zn l y bytes maxL ret fr lo S) (hc0 : z_Cls c0 y.cls T0 N0) (hw1 : Cond.methodLink own ix y ∈ z_tbl) (hw2 : Cond.instanceMethod y ∈ z_tbl) (hw5 : Cond.selects y.cls y y ∈ z_tbl) (hw3 : Cond.initialized y.cls ∈ z_tbl) (hw4 : Cond.code y bytes maxL ret ∈ z_tbl) (hd : y.cls ≠ "java/lang/invoke/MethodHandle" ∧ y.cls ≠ "java/lang/invoke/VarHandle" ∧ (parseMethodDescriptor y.desc).map (fun d => d.parameters.length) = some 7) (hR : fr + 1 ≤ R.frames ∧ 8 + (maxL + 11) + lo ≤ R.locals) {B : zB} (hB : ∀ L st σ, B L st σ → z_X zx zn zA cl sl p l e R s m args below meth c Q nL D cA ad fl (pc + 3) L st σ) : ∀ L st σ, z_cv7 c0 S B L st σ → z_X zx zn zA cl sl p l e R s m args below meth c Q nL D cA ad fl pc L st σ := by
  intro L st σ h
  rcases st with _ | ⟨a6, _ | ⟨a5, _ | ⟨a4, _ | ⟨a3, _ | ⟨a2, _ | ⟨a1, _ | ⟨a0, _ | ⟨x | x | ⟨c, n, k⟩, st⟩⟩⟩⟩⟩⟩⟩⟩ <;> try (exact h.elim)
  obtain ⟨⟨rfl, h4⟩, h⟩ := h
  exact s_callV C d hok hc0 hw1 hw2 hw5 hw3 hw4 hd hR hB (as := [a0, a1, a2, a3, a4, a5, a6]) rfl h4 h
-- a method's frame
def z_ent : List zV → zL
  | [] => []
  | .inl x :: as => some (.inl x) :: z_ent as
  | .inr (.inl x) :: as => some (.inr (.inl x)) :: none :: z_ent as
  | .inr (.inr q) :: as => some (.inr (.inr q)) :: z_ent as
def z_pad (n : Nat) (L : zL) : zL := L ++ List.replicate (n - L.length) none
theorem z_ent_asc (ad : Nat → Nat) (r : Nat) : ∀ (as : List zV) (n : Nat) (q : Nat × Value), q ∈ z_asc ad n (z_ent as ++ List.replicate r none) → q ∈ lv_args n (as.map (z_val ad))
  | [], n, q, h => by
    have key : ∀ (r n : Nat) (q : Nat × Value), ¬ q ∈ z_asc ad n (List.replicate r none) := by
      intro r
      induction r with
      | zero => intro n q h; cases h
      | succ r ih => intro n q h; exact ih (n + 1) q h
    exact absurd h (key r n q)
  | .inl x :: as, n, q, h => by
    rcases List.mem_cons.mp h with h | h
    · rw [h]; exact List.mem_cons_self
    · exact List.mem_cons_of_mem _ (z_ent_asc ad r as (n + 1) q h)
  | .inr (.inl x) :: as, n, q, h => by
    rcases List.mem_cons.mp h with h | h
    · rw [h]; exact List.mem_cons_self
    · exact List.mem_cons_of_mem _ (z_ent_asc ad r as (n + 1 + 1) q h)
  | .inr (.inr (c, m, k)) :: as, n, q, h => by
    have e : (z_val ad (.inr (.inr (c, m, k)))).category = 1 := z_cat1 (fun x => by rintro ⟨⟩)
    rcases List.mem_cons.mp h with h | h
    · rw [h]; exact List.mem_cons_self
    · refine List.mem_cons_of_mem _ ?_
      rw [e, if_neg (by decide)]
      exact z_ent_asc ad r as (n + 1) q h
theorem z_ent_len (ad : Nat → Nat) : ∀ as : List zV, (lg_sl (as.map (z_val ad))).length = (z_ent as).length
  | [] => rfl
  | .inl x :: as => by
    have := z_ent_len ad as
    simp only [lg_sl, List.map_cons, List.flatMap_cons, List.length_append, z_ent, List.length_cons, z_val] at this ⊢
    rw [this, if_neg (show ¬ (Value.int (Int32.ofInt x)).category = 2 from (by decide : ¬ (1 : Nat) = 2))]
    simp only [List.length_cons, List.length_nil]
    omega
  | .inr (.inl x) :: as => by
    have := z_ent_len ad as
    simp only [lg_sl, List.map_cons, List.flatMap_cons, List.length_append, z_ent, List.length_cons, z_val] at this ⊢
    rw [this, if_pos (show (Value.long (Int64.ofInt x)).category = 2 from rfl)]
    simp only [List.length_cons, List.length_nil]
    omega
  | .inr (.inr (c, n, k)) :: as => by
    have := z_ent_len ad as
    have e : (z_val ad (.inr (.inr (c, n, k)))).category = 1 := z_cat1 (fun x => by rintro ⟨⟩)
    simp only [lg_sl, List.map_cons, List.flatMap_cons, List.length_append, z_ent, List.length_cons] at this ⊢
    rw [this, e, if_neg (by decide)]
    simp only [List.length_cons, List.length_nil]
    omega
theorem z_ent_mem : ∀ (as : List zV) (v : zV), some v ∈ z_ent as → v ∈ as
  | [], _, h => by cases h
  | .inl x :: as, v, h => by
    rcases List.mem_cons.mp h with h | h
    · cases h; exact List.mem_cons_self
    · exact List.mem_cons_of_mem _ (z_ent_mem as v h)
  | .inr (.inl x) :: as, v, h => by
    rcases List.mem_cons.mp h with h | h
    · cases h; exact List.mem_cons_self
    · rcases List.mem_cons.mp h with h | h
      · cases h
      · exact List.mem_cons_of_mem _ (z_ent_mem as v h)
  | .inr (.inr q) :: as, v, h => by
    rcases List.mem_cons.mp h with h | h
    · cases h; exact List.mem_cons_self
    · exact List.mem_cons_of_mem _ (z_ent_mem as v h)
theorem z_ok_of {l : Launch} {y : MethodName} {cc : ByteArray} {maxL : Nat} {ret : Option FieldType} {fr lo : Nat} {S : zS} (fl : Bool) (hy : plainName y.cls = true) (hS0 : ∀ as σ Ret, S as σ Ret → (z_ent as).length ≤ maxL ∧ (fl = true → ∀ v ∈ as, ∀ x, v ≠ .inr (.inl x)))
    (body : ∀ (p : Program) (e : Env) (s : State) (m : MethodId) (args : Array Value) (below : List Frame) (meth : Method) (c : Code) (D : va_G) (cA : Nat → ClassId) (ad : Nat → Nat) (Ret : zR), z_Cx zx zn (z_A zn ad) 0 0 p { frames := fr, cells := 0, slots := 0, locals := lo } s m args c cc y.cls maxL D cA ad → meth.sig.returnType = ret → meth.locks = false →
      ∀ (as : List zV) (σ : zM), z_oks zn as → z_okm σ → S as σ Ret → z_X zx zn (z_A zn ad) 0 0 p l e { frames := fr, cells := 0, slots := 0, locals := lo } s m args below meth c (MQ below (z_Qc zn D cA ad Ret) args s 0 0 (z_A zn ad)) maxL D cA ad fl 0 (z_pad maxL (z_ent as)) [] σ) : z_OK zx zn l y cc maxL ret fr lo S := by
  intro D cA ad as σ Ret hi has hσ hS
  refine Met.ofW (cc := cc) (maxL := maxL) (ret := ret) hy rfl ?_
  intro p e s m args below meth c s₁ B hml hv
  obtain ⟨rfl, hP, hK, hE⟩ := hv
  have hts0 := atoms_spec (ws := (.code y cc maxL ret :: z_tbl)) B.pre
  obtain ⟨hlen, hlong⟩ := hS0 as σ Ret hS
  have hl0 := lv_entry (as.map (z_val ad)) (n := maxL) (by rw [z_ent_len]; exact hlen)
  rw [lg_entry_eq]
  refine body p e s m _ below meth c D cA ad Ret ⟨B.exec, B.bytes, hml, findClass_of_methodNamed B.named, fun w hw => hts0 w (List.mem_cons_of_mem _ hw), hK, hi, fun _ h => h, ⟨Nat.zero_le _, Nat.zero_le _⟩, hE⟩ B.returns B.notSynchronized as σ has hσ hS ?_ ?_ (fun _ h => by cases h) hσ s.heap [] _ hP va_S.rf ⟨hl0.1, hl0.2.1, fun q hq => hl0.2.2 q (z_ent_asc ad _ as 0 q hq)⟩
  · simp only [z_pad, List.length_append, List.length_replicate]
    omega
  · intro v hv
    rcases List.mem_append.mp hv with hv | hv
    · have := z_ent_mem as v hv
      exact ⟨has v this, fun hf x => hlong hf v this x⟩
    · have := (List.mem_replicate.mp hv).2
      cases this
end ZM
