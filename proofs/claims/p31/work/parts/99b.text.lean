def w_sn (g : Nat → List Int) : Nat → List Int
  | 0 => []
  | n + 1 => w_sn g n ++ g n
def w_cn (g : Nat → List Int) : Nat → Nat → List Int
  | 0, _ => []
  | d + 1, i => g i ++ w_cn g d (i + 1)
theorem w_sc (g : Nat → List Int) : ∀ d i, w_sn g i ++ w_cn g d i = w_sn g (i + d)
  | 0, i => by rw [w_cn, List.append_nil]; rfl
  | d + 1, i => by
    rw [w_cn, ← List.append_assoc, show w_sn g i ++ g i = w_sn g (i + 1) from rfl, w_sc g d (i + 1)]
    congr 1
    omega
theorem w_sc0 (g : Nat → List Int) (d : Nat) : w_sn g d = w_cn g d 0 := by
  have := w_sc g d 0
  rw [Nat.zero_add] at this
  rw [← this]
  rfl
theorem w_ux_cn (f : Nat → Int) : ∀ d i, w_ux f d i = w_cn (fun i => w_num (f i)) d i
  | 0, _ => rfl
  | d + 1, i => by rw [w_ux, w_cn, w_ux_cn f d (i + 1)]
theorem w_sn_len {g : Nat → List Int} {m : Nat} (h : ∀ i, (g i).length ≤ m) : ∀ n, (w_sn g n).length ≤ m * n
  | 0 => Nat.zero_le _
  | n + 1 => by
    rw [w_sn, List.length_append]
    have := w_sn_len h n
    have := h n
    rw [Nat.mul_succ]
    omega
def w_gT (zx : zX) (t : Nat) : List Int := w_tx (w_tr zx t 0) (w_tr zx t 1) (w_tr zx t 2) (w_tr zx t 3)
def w_gW (zx : zX) (t : Nat) : List Int := w_wx (w_wi zx t 0) (w_wi zx t 1) (w_wi zx t 2)
def w_gJ (zx : zX) (k : Nat) : List Int := w_num (w_tu zx k)
def w_R3 (zx : zX) : List Int := if w_nn zx ≤ 0 then [] else [116, 117, 110, 101] ++ (w_sn (w_gJ zx) (w_nn zx).toNat ++ [59])
def w_text (zx : zX) : List Int := w_sn (w_gT zx) (w_nt zx).toNat ++ (w_sn (w_gW zx) (w_nw zx).toNat ++ w_R3 zx)
def w_TD (zx : zX) : Nat → Nat → (Nat → Int) → (Nat → Int)
  | 0, _, D => D
  | d + 1, i, D => w_TD zx d (i + 1) (q_dT D (w_tr zx i 0) (w_tr zx i 1) (w_tr zx i 2) (w_tr zx i 3))
def w_WD (zx : zX) : Nat → Nat → (Nat → Int) → (Nat → Int)
  | 0, _, D => D
  | d + 1, i, D => w_WD zx d (i + 1) (q_dW D (w_wi zx i 0) (w_wi zx i 1) (w_wi zx i 2))
theorem w_dT_at {D : Nat → Int} {l u s g : Int} {n : Nat} (h : D 0 = (n : Int)) : q_dT D l u s g 0 = (n : Int) + 1 ∧ (q_dT D l u s g (6 + 6 * n + 0) = l ∧ q_dT D l u s g (6 + 6 * n + 1) = u ∧ q_dT D l u s g (6 + 6 * n + 2) = s ∧ q_dT D l u s g (6 + 6 * n + 3) = g) ∧ ∀ j, j ≠ 0 → (j < 6 + 6 * n ∨ 6 + 6 * n + 3 < j) → q_dT D l u s g j = D j := by
  unfold q_dT
  rw [h, Int.toNat_natCast]
  refine ⟨q_d1_eq, ⟨?_, ?_, ?_, ?_⟩, fun j h0 h1 => ?_⟩
  · rw [q_d1_ne (by omega), q_d1_ne (by omega), q_d1_ne (by omega), q_d1_ne (by omega)]
    exact q_d1_eq
  · rw [q_d1_ne (by omega), q_d1_ne (by omega), q_d1_ne (by omega), q_d1_eq]
  · rw [q_d1_ne (by omega), q_d1_ne (by omega), q_d1_eq]
  · rw [q_d1_ne (by omega), q_d1_eq]
  · rw [q_d1_ne (by omega), q_d1_ne (by omega), q_d1_ne (by omega), q_d1_ne (by omega), q_d1_ne (by omega)]
theorem w_dW_at {D : Nat → Int} {x y z : Int} {n : Nat} (h : D 1 = (n : Int)) : q_dW D x y z 1 = (n : Int) + 1 ∧ (q_dW D x y z (78 + 3 * n + 0) = x ∧ q_dW D x y z (78 + 3 * n + 1) = y ∧ q_dW D x y z (78 + 3 * n + 2) = z) ∧ ∀ j, j ≠ 1 → (j < 78 + 3 * n ∨ 78 + 3 * n + 2 < j) → q_dW D x y z j = D j := by
  unfold q_dW
  rw [h, Int.toNat_natCast]
  refine ⟨q_d1_eq, ⟨?_, ?_, ?_⟩, fun j h0 h1 => ?_⟩
  · rw [q_d1_ne (by omega), q_d1_ne (by omega), q_d1_ne (by omega)]
    exact q_d1_eq
  · rw [q_d1_ne (by omega), q_d1_ne (by omega), q_d1_eq]
  · rw [q_d1_ne (by omega), q_d1_eq]
  · rw [q_d1_ne (by omega), q_d1_ne (by omega), q_d1_ne (by omega), q_d1_ne (by omega)]
theorem w_dJ_at {D : Nat → Int} {v : Int} {n : Nat} (h : D 2 = (n : Int)) : q_dJ D v 2 = (n : Int) + 1 ∧ ∀ j, j ≠ 2 → j < 96 → q_dJ D v j = D j := by
  unfold q_dJ
  rw [h, Int.toNat_natCast]
  refine ⟨q_d1_eq, fun j h0 h1 => ?_⟩
  rw [q_d1_ne (by omega), q_d1_ne (by omega)]
theorem w_TD_at (zx : zX) : ∀ (d i : Nat) (D : Nat → Int), D 0 = (i : Int) → w_TD zx d i D 0 = (i : Int) + d ∧ (∀ t q, i ≤ t → t < i + d → q < 4 → w_TD zx d i D (6 + 6 * t + q) = w_tr zx t q) ∧ ∀ j, j ≠ 0 → (j < 6 + 6 * i ∨ 6 + 6 * (i + d) ≤ j ∨ j % 6 = 4 ∨ j % 6 = 5) → w_TD zx d i D j = D j
  | 0, i, D, h => ⟨by rw [w_TD, h]; omega, fun t q h1 h2 => by omega, fun j _ _ => rfl⟩
  | d + 1, i, D, h => by
    obtain ⟨a0, ⟨a1, a2, a3, a4⟩, a5⟩ := w_dT_at (l := w_tr zx i 0) (u := w_tr zx i 1) (s := w_tr zx i 2) (g := w_tr zx i 3) h
    obtain ⟨b0, b1, b2⟩ := w_TD_at zx d (i + 1) (q_dT D (w_tr zx i 0) (w_tr zx i 1) (w_tr zx i 2) (w_tr zx i 3)) (by rw [a0]; omega)
    rw [w_TD]
    refine ⟨by rw [b0]; omega, fun t q h1 h2 h3 => ?_, fun j h1 h2 => ?_⟩
    · by_cases e : t = i
      · subst e
        rw [b2 _ (by omega) (by omega)]
        have hq : q = 0 ∨ q = 1 ∨ q = 2 ∨ q = 3 := by omega
        rcases hq with rfl | rfl | rfl | rfl
        · exact a1
        · exact a2
        · exact a3
        · exact a4
      · exact b1 t q (by omega) (by omega) h3
    · rw [b2 j h1 (by omega), a5 j h1 (by omega)]
theorem w_WD_at (zx : zX) : ∀ (d i : Nat) (D : Nat → Int), D 1 = (i : Int) → w_WD zx d i D 1 = (i : Int) + d ∧ (∀ t q, i ≤ t → t < i + d → q < 3 → w_WD zx d i D (78 + 3 * t + q) = w_wi zx t q) ∧ ∀ j, j ≠ 1 → (j < 78 + 3 * i ∨ 78 + 3 * (i + d) ≤ j) → w_WD zx d i D j = D j
  | 0, i, D, h => ⟨by rw [w_WD, h]; omega, fun t q h1 h2 => by omega, fun j _ _ => rfl⟩
  | d + 1, i, D, h => by
    obtain ⟨a0, ⟨a1, a2, a3⟩, a5⟩ := w_dW_at (x := w_wi zx i 0) (y := w_wi zx i 1) (z := w_wi zx i 2) h
    obtain ⟨b0, b1, b2⟩ := w_WD_at zx d (i + 1) (q_dW D (w_wi zx i 0) (w_wi zx i 1) (w_wi zx i 2)) (by rw [a0]; omega)
    rw [w_WD]
    refine ⟨by rw [b0]; omega, fun t q h1 h2 h3 => ?_, fun j h1 h2 => ?_⟩
    · by_cases e : t = i
      · subst e
        rw [b2 _ (by omega) (by omega)]
        have hq : q = 0 ∨ q = 1 ∨ q = 2 := by omega
        rcases hq with rfl | rfl | rfl
        · exact a1
        · exact a2
        · exact a3
      · exact b1 t q (by omega) (by omega) h3
    · rw [b2 j h1 (by omega), a5 j h1 (by omega)]
theorem w_uD_at (f : Nat → Int) : ∀ (d i : Nat) (D : Nat → Int), D 2 = (i : Int) → w_uD f d i D 2 = (i : Int) + d ∧ ∀ j, j ≠ 2 → j < 96 → w_uD f d i D j = D j
  | 0, i, D, h => ⟨by rw [w_uD, h]; omega, fun j _ _ => rfl⟩
  | d + 1, i, D, h => by
    obtain ⟨a0, a5⟩ := w_dJ_at (v := f i) h
    obtain ⟨b0, b2⟩ := w_uD_at f d (i + 1) (q_dJ D (f i)) (by rw [a0]; omega)
    rw [w_uD]
    exact ⟨by rw [b0]; omega, fun j h1 h2 => by rw [b2 j h1 h2, a5 j h1 h2]⟩
theorem w_ph3 {zx : zX} {b : Nat → Int} {T p st : Nat} {D : Nat → Int} (h : w_sf b T p (w_R3 zx)) (hs : st = 1 ∨ st = 2) (hD : D 2 = 0) : w_goes b T st p D (w_uD (w_tu zx) (w_nn zx).toNat 0 D) := by
  have nn := w_nn_in zx
  unfold w_R3 at h
  by_cases c : w_nn zx ≤ 0
  · rw [if_pos c] at h
    rw [show (w_nn zx).toNat = 0 by omega]
    exact Or.inl ⟨h.nil, rfl⟩
  · rw [if_neg c, w_sc0, show w_gJ zx = (fun i => w_num (w_tu zx i)) from rfl, ← w_ux_cn] at h
    obtain ⟨p', e1, e2, e3⟩ := w_patune (n := (w_nn zx).toNat) (r := []) (w_tu_in zx) (by omega) h hs hD
    exact Or.inr ⟨by omega, w_step h.le e1 (Or.inl ⟨e2.nil, rfl⟩)⟩
theorem w_ph2 {zx : zX} {b : Nat → Int} {T : Nat} : ∀ (d i p st : Nat) (D : Nat → Int), (st = 1 ∨ st = 2) → D 1 = (i : Int) → i + d ≤ 6 → D 2 = 0 → w_sf b T p (w_cn (w_gW zx) d i ++ w_R3 zx) → w_goes b T st p D (w_uD (w_tu zx) (w_nn zx).toNat 0 (w_WD zx d i D))
  | 0, i, p, st, D, hs, h1, h6, h2, h => w_ph3 h hs h2
  | d + 1, i, p, st, D, hs, h1, h6, h2, h => by
    rw [w_cn, List.append_assoc] at h
    have b0 := w_wi_in zx i 0
    have b1 := (w_wi_in zx i 1).2.2.1 rfl
    have b2 := (w_wi_in zx i 2).2.2.2 (by decide)
    obtain ⟨p', e1, e2, e3⟩ := w_pawind (D := D) h hs (by omega) ⟨b0.1, b0.2.1 rfl⟩ b1 b2
    have a := w_dW_at (x := w_wi zx i 0) (y := w_wi zx i 1) (z := w_wi zx i 2) h1
    exact Or.inr ⟨by omega, w_step h.le e1 (w_ph2 d (i + 1) p' 2 _ (Or.inr rfl) (by rw [a.1]; omega) (by omega) (by rw [a.2.2 2 (by omega) (by omega)]; exact h2) e2)⟩
theorem w_ph1 {zx : zX} {b : Nat → Int} {T : Nat} : ∀ (d i p st : Nat) (D : Nat → Int), st ≤ 1 → (d = 0 → st = 1) → D 0 = (i : Int) → i + d ≤ 12 → D 1 = 0 → D 2 = 0 → w_sf b T p (w_cn (w_gT zx) d i ++ (w_cn (w_gW zx) (w_nw zx).toNat 0 ++ w_R3 zx)) → w_goes b T st p D (w_uD (w_tu zx) (w_nn zx).toNat 0 (w_WD zx (w_nw zx).toNat 0 (w_TD zx d i D)))
  | 0, i, p, st, D, hs, hs0, h0, h12, h1, h2, h => w_ph2 _ 0 p st D (Or.inl (hs0 rfl)) h1 (by have := w_nw_in zx; omega) h2 h
  | d + 1, i, p, st, D, hs, hs0, h0, h12, h1, h2, h => by
    rw [w_cn, List.append_assoc] at h
    have b0 := (w_tr_in zx i 0).2.1 rfl
    have b1 := (w_tr_in zx i 1).2.2.1 rfl
    have b2 := w_tr_in zx i 2
    have b3 := w_tr_in zx i 3
    obtain ⟨p', e1, e2, e3⟩ := w_patree (D := D) h hs (by omega) b0 b1 ⟨b2.1, b2.2.2.2.1 rfl⟩ ⟨b3.1, b3.2.2.2.2 (by decide)⟩
    have a := w_dT_at (l := w_tr zx i 0) (u := w_tr zx i 1) (s := w_tr zx i 2) (g := w_tr zx i 3) h0
    exact Or.inr ⟨by omega, w_step h.le e1 (w_ph1 d (i + 1) p' 1 _ (Nat.le_refl _) (fun _ => rfl) (by rw [a.1]; omega) (by omega) (by rw [a.2.2 1 (by omega) (by omega)]; exact h1) (by rw [a.2.2 2 (by omega) (by omega)]; exact h2) e2)⟩
def w_Df (zx : zX) : Nat → Int := w_uD (w_tu zx) (w_nn zx).toNat 0 (w_WD zx (w_nw zx).toNat 0 (w_TD zx (w_nt zx).toNat 0 q_D0))
theorem w_text_wo (zx : zX) : (w_wo (w_text zx)).2.1 = 0 ∧ (w_wo (w_text zx)).2.2 = w_Df zx := by
  have nt := w_nt_in zx
  have h := w_sf0 (w_text zx)
  obtain ⟨T, hT⟩ : ∃ T, T = (w_text zx).length := ⟨_, rfl⟩
  have h2 : w_sf (w_fn (w_text zx)) T 0 (w_cn (w_gT zx) (w_nt zx).toNat 0 ++ (w_cn (w_gW zx) (w_nw zx).toNat 0 ++ w_R3 zx)) := by
    rw [hT, ← w_sc0, ← w_sc0]
    exact h
  have g := w_ph1 (zx := zx) (w_nt zx).toNat 0 0 0 q_D0 (by omega) (fun e => by omega) rfl (by omega) rfl rfl h2
  unfold w_wo q_wr
  rw [← hT]
  rcases g with ⟨g, -⟩ | ⟨-, x, g⟩
  · exfalso
    have l := h2.1
    obtain ⟨n, hn⟩ : ∃ n, (w_nt zx).toNat = n + 1 := ⟨(w_nt zx).toNat - 1, by omega⟩
    rw [hn, w_cn, List.length_append, List.length_append, w_gT, w_tx, List.length_append] at l
    simp at l
    omega
  · rw [g]
    exact ⟨rfl, rfl⟩
theorem w_Df_at (zx : zX) : (w_Df zx 0 = w_nt zx ∧ w_Df zx 1 = w_nw zx ∧ w_Df zx 2 = w_nn zx ∧ w_Df zx 3 = 0 ∧ w_Df zx 4 = 0 ∧ w_Df zx 5 = 0) ∧ (∀ t q : Nat, (t : Int) < w_nt zx → q < 4 → w_Df zx (6 + 6 * t + q) = w_tr zx t q) ∧ (∀ t q : Nat, (t : Int) < w_nt zx → 4 ≤ q → q < 6 → w_Df zx (6 + 6 * t + q) = 0) ∧ ∀ w q : Nat, (w : Int) < w_nw zx → q < 3 → w_Df zx (78 + 3 * w + q) = w_wi zx w q := by
  have nt := w_nt_in zx
  have nw := w_nw_in zx
  have nn := w_nn_in zx
  obtain ⟨a0, a1, a2⟩ := w_TD_at zx (w_nt zx).toNat 0 q_D0 rfl
  obtain ⟨b0, b1, b2⟩ := w_WD_at zx (w_nw zx).toNat 0 (w_TD zx (w_nt zx).toNat 0 q_D0) (a2 1 (by omega) (by omega))
  have c2' : w_WD zx (w_nw zx).toNat 0 (w_TD zx (w_nt zx).toNat 0 q_D0) 2 = ((0 : Nat) : Int) := by rw [b2 2 (by omega) (by omega), a2 2 (by omega) (by omega)]; rfl
  obtain ⟨c0, c1⟩ := w_uD_at (w_tu zx) (w_nn zx).toNat 0 _ c2'
  unfold w_Df
  refine ⟨⟨?_, ?_, ?_, ?_, ?_, ?_⟩, fun t q h1 h2 => ?_, fun t q h1 h2 h3 => ?_, fun w q h1 h2 => ?_⟩
  · rw [c1 0 (by omega) (by omega), b2 0 (by omega) (by omega), a0]; omega
  · rw [c1 1 (by omega) (by omega), b0]; omega
  · rw [c0]; omega
  · rw [c1 3 (by omega) (by omega), b2 3 (by omega) (by omega), a2 3 (by omega) (by omega)]; rfl
  · rw [c1 4 (by omega) (by omega), b2 4 (by omega) (by omega), a2 4 (by omega) (by omega)]; rfl
  · rw [c1 5 (by omega) (by omega), b2 5 (by omega) (by omega), a2 5 (by omega) (by omega)]; rfl
  · rw [c1 _ (by omega) (by omega), b2 _ (by omega) (by omega)]; exact a1 t q (by omega) (by omega) h2
  · rw [c1 _ (by omega) (by omega), b2 _ (by omega) (by omega), a2 _ (by omega) (by omega)]; rfl
  · rw [c1 _ (by omega) (by omega)]; exact b1 w q (by omega) (by omega) h2
