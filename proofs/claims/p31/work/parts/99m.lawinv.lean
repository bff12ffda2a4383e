/-! what stays true of the wood and of the law's rows -/
theorem w_at_ok {σ : zM} {D O : Nat → Int} {h : Int} {b : List Int} (a : w_at σ D O h b) : q_Wok D O h := by
  obtain ⟨τ, -, g⟩ := a
  have := g.1.2.1
  rw [g.2.1, g.2.2.1, g.2.2.2.1] at this
  exact this
theorem w_t_fr {σ σ' : zM} {k : Nat} {D : Nat → Int} (h : w_t σ k D) (f : w_fr σ σ') (hk : 108 ≤ k) : w_t σ' k D := by
  unfold w_t at *
  rw [f k hk]
  exact h
def w_d (σ : zM) (k : Nat) (D O : Nat → Int) : Prop := ∀ i : Nat, (i : Int) < D 5 → σ k i = w_enc (O (3 * i)) (O (3 * i + 1)) (O (3 * i + 2))
theorem w_d_cg {σ σ' : zM} {k : Nat} {D O : Nat → Int} (h : w_d σ k D O) (e : σ' k = σ k) : w_d σ' k D O := by
  unfold w_d at *
  rw [e]
  exact h
def w_ok2 (zx : zX) (D : Nat → Int) : Prop := (D 0 = w_nt zx ∧ D 1 = w_nw zx ∧ D 2 = w_nn zx) ∧ ∀ w q : Nat, (w : Int) < w_nw zx → q < 3 → D (78 + 3 * w + q) = w_wi zx w q
theorem w_ok2_cg {zx : zX} {D D' : Nat → Int} (h : w_ok2 zx D) (e : ∀ j, (j < 3 ∨ 78 ≤ j) → D' j = D j) : w_ok2 zx D' := by
  unfold w_ok2 at *
  rw [e 0 (by omega), e 1 (by omega), e 2 (by omega)]
  exact ⟨h.1, fun w q hw hq => by rw [e _ (by omega)]; exact h.2 w q hw hq⟩
theorem w_dd_far {D : Nat → Int} {o n : Int} {t : Nat} (ho : 0 ≤ o ∧ o ≤ 7) (ht : t < 12) : ∀ j, (j < 3 ∨ 78 ≤ j) → q_ddD D o t n j = D j := by
  intro j hj
  have p := q_pl_cases o t ho
  unfold q_ddD
  rw [q_d1_ne (by omega), q_d1_ne (by omega)]
theorem w_un_far {D O : Nat → Int} (dn : q_dno D O) (d0 : D 0 ≤ 12) (d5 : 1 ≤ D 5) : ∀ j, (j ≤ 3 ∨ 78 ≤ j) → q_unD D O j = D j := by
  intro j hj
  have h5 : j ≠ 5 := by omega
  obtain ⟨c, hc⟩ := z_nat (show 0 ≤ D 5 - 1 by omega)
  have b := dn c (by omega)
  unfold q_unD
  rw [hc, Int.toNat_natCast]
  have : j ≠ (O (3 * c)).toNat := by
    rcases b with ⟨t, ht, b⟩ | b
    · omega
    · omega
  rw [q_d1_ne h5, q_d1_ne this]
theorem w_gw_far {D : Nat → Int} {n v : Int} (d0 : D 0 ≤ 12) : ∀ j, (j < 3 ∨ 78 ≤ j) → q_d1 (q_gwD D n) 3 v j = D j := by
  intro j hj
  rw [q_d1_ne (by omega), q_gwD_ne (by omega)]
theorem w_gw0 {D : Nat → Int} (k : q_Dok D) : q_d1 (q_gwD D 0) 3 (D 3 + 0) = D := by
  funext j
  by_cases e : j = 3
  · subst e
    rw [q_d1_eq, Int.add_zero]
  · rw [q_d1_ne e]
    by_cases c : 6 ≤ j ∧ (j : Int) < 6 + 6 * D 0 ∧ j % 6 = 0
    · obtain ⟨t, ht⟩ : ∃ t, j = 6 + 6 * t + 0 := ⟨(j - 6) / 6, by omega⟩
      subst ht
      have ht : (t : Int) < D 0 := by omega
      have q := k.2.1 t ht
      rw [q_gwD_at ht, Int.zero_mul]
      split <;> omega
    · exact q_gwD_ne c
theorem w_gwS {D : Nat → Int} (k : q_Dok D) (n : Nat) : q_d1 (q_gwD (q_d1 (q_gwD D (n : Int)) 3 (D 3 + (n : Int))) 1) 3 (q_d1 (q_gwD D (n : Int)) 3 (D 3 + (n : Int)) 3 + 1) = q_d1 (q_gwD D ((n + 1 : Nat) : Int)) 3 (D 3 + ((n + 1 : Nat) : Int)) := by
  funext j
  by_cases e : j = 3
  · subst e
    rw [q_d1_eq, q_d1_eq, q_d1_eq]
    omega
  · rw [q_d1_ne e, q_d1_ne e, q_gwD_S k (by omega) j e]
    rfl
theorem w_start : w_at q_s0 (fun _ => 0) (fun _ => 0) 0 [] := ⟨q_s0, q_s0_ok.1, q_s0_ok.2, q_s0_f (by decide), q_s0_f (by decide), q_s0_z (by decide) 7, q_s0_z (by decide) 12, fun j hj => absurd hj (Nat.not_lt_zero _)⟩
/-- the orders of the thing at i -/
def w_bx (zx : zX) (i k : Nat) : Int := w_sar (w_cell zx (46 + i)) (3 * (k : Int))
def w_be (zx : zX) (i : Nat) : Nat → Int × Int × Int := fun k => (w_low (w_bx zx i k) 8, w_otr zx (w_bx zx i k), w_on (w_bx zx i k))
theorem w_be_ok (zx : zX) (i k : Nat) : w_ev (w_nt zx) (w_be zx i k).1 (w_be zx i k).2.1 (w_be zx i k).2.2 := by
  have a := w_low_in (v := w_bx zx i k) (n := 8) (by omega)
  exact ⟨⟨a.1, by show w_low _ 8 ≤ 7; omega⟩, w_otr_in zx _, (w_on_in _).1, (w_on_in _).2⟩
theorem w_be_eo (zx : zX) (i c : Nat) {n : Int} (hn : n = w_nt zx) : q_eo (w_E (w_be zx i)) c n := by
  intro k _
  have nt := w_nt_in zx
  obtain ⟨e1, e2, e3⟩ := w_E_at (w_be zx i) k
  obtain ⟨h1, h2, h3, h4⟩ := w_be_ok zx i k
  rw [e1, e2, e3, hn]
  refine ⟨h1, ?_, ?_, fun q => ?_⟩
  · split <;> omega
  · split
    · by_cases c : (w_be zx i k).1 < 2
      · have := h3 c; omega
      · have := h4 (by omega); omega
    · omega
  · rw [if_pos (by omega)]
    exact (h4 (by omega)).2
def w_bd (zx : zX) (i : Nat) (D O : Nat → Int) (k : Nat) : (Nat → Int) × (Nat → Int) := q_dds (w_E (w_be zx i)) D O k
theorem w_bd_ok {zx : zX} {D O : Nat → Int} (w : q_Wok D O 1) (k2 : w_ok2 zx D) (i k : Nat) (h : D 5 + (k : Int) ≤ 60) : q_Wok (w_bd zx i D O k).1 (w_bd zx i D O k).2 1 ∧ (w_bd zx i D O k).1 5 = D 5 + k ∧ w_ok zx (w_bd zx i D O k).1 := by
  obtain ⟨a, b, c⟩ := q_dds_ok w (w_be_eo zx i k k2.1.1) h k (Nat.le_refl _)
  have nt := w_nt_in zx
  have key : ∀ m, w_ok2 zx (w_bd zx i D O m).1 := by
    intro m
    induction m with
    | zero => exact k2
    | succ m ih =>
      obtain ⟨h1, h2, h3, h4⟩ := w_be_ok zx i m
      obtain ⟨e1, e2, e3⟩ := w_E_at (w_be zx i) m
      refine w_ok2_cg ih (fun j hj => ?_)
      unfold w_bd
      rw [q_dds]
      dsimp only
      refine w_dd_far (by rw [e1]; exact h1) (by rw [e2]; split <;> omega) j hj
  exact ⟨a, c, a.1, (key k).1, (key k).2⟩
/-- one more -/
theorem w_bd_S {zx : zX} {D O : Nat → Int} (i k : Nat) : w_bd zx i D O (k + 1) = (q_ddD (w_bd zx i D O k).1 (w_low (w_bx zx i k) 8) (w_otr zx (w_bx zx i k)).toNat (w_on (w_bx zx i k)), q_ddO (w_bd zx i D O k).1 (w_bd zx i D O k).2 (w_low (w_bx zx i k) 8) (w_otr zx (w_bx zx i k)).toNat (w_on (w_bx zx i k))) := by
  obtain ⟨h1, h2, h3, h4⟩ := w_be_ok zx i k
  obtain ⟨e1, e2, e3⟩ := w_E_at (w_be zx i) k
  have d := fun D O => w_dd_e (D := D) (O := O) (o := w_low (w_bx zx i k) 8) (t := w_otr zx (w_bx zx i k)) (n := w_on (w_bx zx i k)) h1
  unfold w_bd
  rw [q_dds, e1, e2, e3, (d _ _).2, (d _ O).1]
  rfl
theorem w_d_snoc {σ τ : zM} {k : Nat} {D O : Nat → Int} {o n t : Int} (ho : 0 ≤ o ∧ o ≤ 7) (ht : 0 ≤ t) (d5 : 0 ≤ D 5) (h : w_d σ k D O) (e : ∀ j, τ k j = if j = (D 5).toNat then w_enc (q_pl o t) (if o < 2 then 1 else 0) (w_od D o t n) else σ k j) : w_d τ k (q_ddD D o t.toNat n) (q_ddO D O o t.toNat n) := by
  obtain ⟨c, hc⟩ := z_nat d5
  obtain ⟨t, rfl⟩ := z_nat ht
  rw [Int.toNat_natCast]
  obtain ⟨a1, a2, a3, a4⟩ := q_ddO_at (D := D) (O := O) (o := o) (n := n) (t := t) hc
  intro i hi
  rw [(q_ddD_0 ho).2] at hi
  rw [hc, Int.toNat_natCast] at e
  rw [e]
  by_cases g : i = c
  · subst g
    rw [if_pos rfl, a1, a2, a3]
    rfl
  · rw [if_neg g, a4 _ (by omega), a4 _ (by omega), a4 _ (by omega)]
    exact h i (by omega)
theorem w_d_un {σ : zM} {k : Nat} {D O : Nat → Int} (h : w_d σ k D O) : w_d σ k (q_unD D O) O := by
  intro i hi
  have : q_unD D O 5 = D 5 - 1 := q_d1_eq
  rw [this] at hi
  exact h i (by omega)
theorem w_d_5 {σ : zM} {k : Nat} {D D' O : Nat → Int} (h : w_d σ k D O) (e : D' 5 = D 5) : w_d σ k D' O := by
  intro i hi
  rw [e] at hi
  exact h i hi
theorem w_go_len (e : Nat → Int × Int × Int) (i : Nat) : 1 ≤ (w_go e i).length ∧ (w_go e i).length ≤ 13 := by
  unfold w_go w_ot
  have := w_ow_len (e i).1
  have := w_num_len (e i).2.1
  have := w_num_len (e i).2.2
  rw [List.length_append, List.length_append, List.length_append, List.length_singleton]
  by_cases c : (e i).1 < 6
  · by_cases d : (e i).1 < 3
    · rw [if_pos c, if_pos d]; omega
    · rw [if_pos c, if_neg d, List.length_nil]; omega
  · rw [if_neg c, if_neg (by omega), List.length_nil]; omega
theorem w_sn_pos {e : Nat → Int × Int × Int} {k : Nat} (h : 1 ≤ k) : 1 ≤ (w_sn (w_go e) k).length := by
  obtain ⟨d, rfl⟩ : ∃ d, k = d + 1 := ⟨k - 1, by omega⟩
  rw [w_sn, List.length_append]
  have := (w_go_len e d).1
  omega
