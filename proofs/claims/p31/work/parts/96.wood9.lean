/-! what is read keeps its bounds -/
theorem q_pn_rg {b : Nat → Int} {T p : Nat} {f lo hi : Int} (h : lo ≤ hi) : lo ≤ (q_pn b T p f lo hi).1 ∧ (q_pn b T p f lo hi).1 ≤ hi := by
  unfold q_pn
  by_cases c : ¬ f = 0
  · rw [if_pos c]; exact ⟨Int.le_refl _, h⟩
  · rw [if_neg c]
    by_cases k : ¬ q_tk b T p = 2
    · rw [if_pos k]; exact ⟨Int.le_refl _, h⟩
    · rw [if_neg k]
      by_cases g : q_num b (q_ts b T p) (q_te b T p - q_ts b T p) < lo ∨ hi < q_num b (q_ts b T p) (q_te b T p - q_ts b T p)
      · rw [if_pos g]; exact ⟨Int.le_refl _, h⟩
      · rw [if_neg g]
        dsimp only
        omega
def q_Dz (D : Nat → Int) : Prop := q_Dok D ∧ (D 3 = 0 ∧ D 4 = 0 ∧ D 5 = 0) ∧ ∀ t : Nat, t < 12 → D (6 + 6 * t + 4) = 0 ∧ D (6 + 6 * t + 5) = 0
theorem q_Dz_T {D : Nat → Int} (k : q_Dz D) (c : D 0 < 12) {l u s g : Int} (hl : 10 ≤ l ∧ l ≤ 999) (hu : 1 ≤ u ∧ u ≤ 20) (hs : 0 ≤ s ∧ s ≤ 7) (hg : 0 ≤ g ∧ g ≤ 5) : q_Dz (q_dT D l u s g) ∧ q_dT D l u s g 0 = D 0 + 1 ∧ q_dT D l u s g 2 = D 2 := by
  obtain ⟨⟨⟨a0, a1, a2, a4, a5⟩, hT, hW, hJ⟩, z, zt⟩ := k
  obtain ⟨n, hn⟩ := z_nat a0.1
  have e0 : q_dT D l u s g 0 = D 0 + 1 := by unfold q_dT; rw [q_d1_eq]
  have ne : ∀ j, j ≠ 0 → j ≠ 6 + 6 * n → j ≠ 6 + 6 * n + 1 → j ≠ 6 + 6 * n + 2 → j ≠ 6 + 6 * n + 3 → q_dT D l u s g j = D j := fun j h0 h1 h2 h3 h4 => by
    unfold q_dT
    rw [hn, Int.toNat_natCast, q_d1_ne h0, q_d1_ne h4, q_d1_ne h3, q_d1_ne h2, q_d1_ne h1]
  have v0 : q_dT D l u s g (6 + 6 * n + 0) = l := by
    unfold q_dT
    rw [hn, Int.toNat_natCast, q_d1_ne (by omega), q_d1_ne (by omega), q_d1_ne (by omega), q_d1_ne (by omega)]
    exact q_d1_eq
  have v1 : q_dT D l u s g (6 + 6 * n + 1) = u := by
    unfold q_dT
    rw [hn, Int.toNat_natCast, q_d1_ne (by omega), q_d1_ne (by omega), q_d1_ne (by omega), q_d1_eq]
  have v2 : q_dT D l u s g (6 + 6 * n + 2) = s := by
    unfold q_dT
    rw [hn, Int.toNat_natCast, q_d1_ne (by omega), q_d1_ne (by omega), q_d1_eq]
  have v3 : q_dT D l u s g (6 + 6 * n + 3) = g := by
    unfold q_dT
    rw [hn, Int.toNat_natCast, q_d1_ne (by omega), q_d1_eq]
  refine ⟨⟨⟨?_, fun t h1 => ?_, fun w h1 => ?_, fun j h1 => ?_⟩, ?_, fun t h1 => ?_⟩, e0, ne 2 (by omega) (by omega) (by omega) (by omega) (by omega)⟩
  · rw [e0, ne 1 (by omega) (by omega) (by omega) (by omega) (by omega), ne 2 (by omega) (by omega) (by omega) (by omega) (by omega), ne 4 (by omega) (by omega) (by omega) (by omega) (by omega), ne 5 (by omega) (by omega) (by omega) (by omega) (by omega)]
    exact ⟨by omega, a1, a2, a4, a5⟩
  · rw [e0] at h1
    by_cases e : t = n
    · subst e
      have q := zt t (by omega)
      rw [v0, v1, v2, v3, ne _ (by omega) (by omega) (by omega) (by omega) (by omega), ne _ (by omega) (by omega) (by omega) (by omega) (by omega), q.1, q.2]
      exact ⟨hl, hu, hs, hg, by omega, by omega⟩
    · rw [ne _ (by omega) (by omega) (by omega) (by omega) (by omega), ne _ (by omega) (by omega) (by omega) (by omega) (by omega), ne _ (by omega) (by omega) (by omega) (by omega) (by omega), ne _ (by omega) (by omega) (by omega) (by omega) (by omega), ne _ (by omega) (by omega) (by omega) (by omega) (by omega), ne _ (by omega) (by omega) (by omega) (by omega) (by omega)]
      exact hT t (by omega)
  · rw [ne 1 (by omega) (by omega) (by omega) (by omega) (by omega)] at h1
    rw [ne _ (by omega) (by omega) (by omega) (by omega) (by omega), ne _ (by omega) (by omega) (by omega) (by omega) (by omega), ne _ (by omega) (by omega) (by omega) (by omega) (by omega)]
    exact hW w h1
  · rw [ne 2 (by omega) (by omega) (by omega) (by omega) (by omega)] at h1
    rw [ne _ (by omega) (by omega) (by omega) (by omega) (by omega)]
    exact hJ j h1
  · rw [ne 3 (by omega) (by omega) (by omega) (by omega) (by omega), ne 4 (by omega) (by omega) (by omega) (by omega) (by omega), ne 5 (by omega) (by omega) (by omega) (by omega) (by omega)]
    exact z
  · rw [ne _ (by omega) (by omega) (by omega) (by omega) (by omega), ne _ (by omega) (by omega) (by omega) (by omega) (by omega)]
    exact zt t h1
theorem q_Dz_W {D : Nat → Int} (k : q_Dz D) (c : D 1 < 6) {x y z : Int} (hx : 0 ≤ x ∧ x ≤ 7) (hy : 1 ≤ y ∧ y ≤ 20) (hz : 1 ≤ z ∧ z ≤ 99) : q_Dz (q_dW D x y z) ∧ q_dW D x y z 0 = D 0 ∧ q_dW D x y z 2 = D 2 := by
  obtain ⟨⟨⟨a0, a1, a2, a4, a5⟩, hT, hW, hJ⟩, zz, zt⟩ := k
  obtain ⟨n, hn⟩ := z_nat a1.1
  have e1 : q_dW D x y z 1 = D 1 + 1 := by unfold q_dW; rw [q_d1_eq]
  have ne : ∀ j, j ≠ 1 → j ≠ 78 + 3 * n → j ≠ 78 + 3 * n + 1 → j ≠ 78 + 3 * n + 2 → q_dW D x y z j = D j := fun j h0 h1 h2 h3 => by
    unfold q_dW
    rw [hn, Int.toNat_natCast, q_d1_ne h0, q_d1_ne h3, q_d1_ne h2, q_d1_ne h1]
  have v0 : q_dW D x y z (78 + 3 * n + 0) = x := by
    unfold q_dW
    rw [hn, Int.toNat_natCast, q_d1_ne (by omega), q_d1_ne (by omega), q_d1_ne (by omega)]
    exact q_d1_eq
  have v1 : q_dW D x y z (78 + 3 * n + 1) = y := by
    unfold q_dW
    rw [hn, Int.toNat_natCast, q_d1_ne (by omega), q_d1_ne (by omega), q_d1_eq]
  have v2 : q_dW D x y z (78 + 3 * n + 2) = z := by
    unfold q_dW
    rw [hn, Int.toNat_natCast, q_d1_ne (by omega), q_d1_eq]
  refine ⟨⟨⟨?_, fun t h1 => ?_, fun w h1 => ?_, fun j h1 => ?_⟩, ?_, fun t h1 => ?_⟩, ne 0 (by omega) (by omega) (by omega) (by omega), ne 2 (by omega) (by omega) (by omega) (by omega)⟩
  · rw [e1, ne 0 (by omega) (by omega) (by omega) (by omega), ne 2 (by omega) (by omega) (by omega) (by omega), ne 4 (by omega) (by omega) (by omega) (by omega), ne 5 (by omega) (by omega) (by omega) (by omega)]
    exact ⟨a0, by omega, a2, a4, a5⟩
  · rw [ne 0 (by omega) (by omega) (by omega) (by omega)] at h1
    rw [ne _ (by omega) (by omega) (by omega) (by omega), ne _ (by omega) (by omega) (by omega) (by omega), ne _ (by omega) (by omega) (by omega) (by omega), ne _ (by omega) (by omega) (by omega) (by omega), ne _ (by omega) (by omega) (by omega) (by omega), ne _ (by omega) (by omega) (by omega) (by omega)]
    exact hT t (by omega)
  · rw [e1] at h1
    by_cases e : w = n
    · subst e
      rw [v0, v1, v2]
      exact ⟨hx, hy, hz⟩
    · rw [ne _ (by omega) (by omega) (by omega) (by omega), ne _ (by omega) (by omega) (by omega) (by omega), ne _ (by omega) (by omega) (by omega) (by omega)]
      exact hW w (by omega)
  · rw [ne 2 (by omega) (by omega) (by omega) (by omega)] at h1
    rw [ne _ (by omega) (by omega) (by omega) (by omega)]
    exact hJ j h1
  · rw [ne 3 (by omega) (by omega) (by omega) (by omega), ne 4 (by omega) (by omega) (by omega) (by omega), ne 5 (by omega) (by omega) (by omega) (by omega)]
    exact zz
  · rw [ne _ (by omega) (by omega) (by omega) (by omega), ne _ (by omega) (by omega) (by omega) (by omega)]
    exact zt t h1
theorem q_Dz_J {D : Nat → Int} (k : q_Dz D) (c : D 2 < 10) {v : Int} (hv : 0 ≤ v ∧ v ≤ 999) : q_Dz (q_dJ D v) ∧ q_dJ D v 0 = D 0 ∧ q_dJ D v 2 = D 2 + 1 := by
  obtain ⟨⟨⟨a0, a1, a2, a4, a5⟩, hT, hW, hJ⟩, zz, zt⟩ := k
  obtain ⟨n, hn⟩ := z_nat a2.1
  have e1 : q_dJ D v 2 = D 2 + 1 := by unfold q_dJ; rw [q_d1_eq]
  have ne : ∀ j, j ≠ 2 → j ≠ 96 + n → q_dJ D v j = D j := fun j h0 h1 => by
    unfold q_dJ
    rw [hn, Int.toNat_natCast, q_d1_ne h0, q_d1_ne h1]
  have v0 : q_dJ D v (96 + n) = v := by
    unfold q_dJ
    rw [hn, Int.toNat_natCast, q_d1_ne (by omega), q_d1_eq]
  refine ⟨⟨⟨?_, fun t h1 => ?_, fun w h1 => ?_, fun j h1 => ?_⟩, ?_, fun t h1 => ?_⟩, ne 0 (by omega) (by omega), e1⟩
  · rw [e1, ne 0 (by omega) (by omega), ne 1 (by omega) (by omega), ne 4 (by omega) (by omega), ne 5 (by omega) (by omega)]
    exact ⟨a0, a1, by omega, a4, a5⟩
  · rw [ne 0 (by omega) (by omega)] at h1
    rw [ne _ (by omega) (by omega), ne _ (by omega) (by omega), ne _ (by omega) (by omega), ne _ (by omega) (by omega), ne _ (by omega) (by omega), ne _ (by omega) (by omega)]
    exact hT t (by omega)
  · rw [ne 1 (by omega) (by omega)] at h1
    rw [ne _ (by omega) (by omega), ne _ (by omega) (by omega), ne _ (by omega) (by omega)]
    exact hW w h1
  · rw [e1] at h1
    by_cases e : j = n
    · subst e
      rw [v0]
      exact hv
    · rw [ne _ (by omega) (by omega)]
      exact hJ j (by omega)
  · rw [ne 3 (by omega) (by omega), ne 4 (by omega) (by omega), ne 5 (by omega) (by omega)]
    exact zz
  · rw [ne _ (by omega) (by omega), ne _ (by omega) (by omega)]
    exact zt t h1
theorem q_tl_ok {b : Nat → Int} {T : Nat} : ∀ (d p : Nat) (f : Int) (D : Nat → Int), q_Dz D → D 2 + (d : Int) ≤ 10 → q_Dz (q_tl b T d p f D).2.2 ∧ (q_tl b T d p f D).2.2 0 = D 0
  | 0, p, f, D, k, h => by
    rw [q_tl]
    split <;> exact ⟨k, rfl⟩
  | d + 1, p, f, D, k, h => by
    rw [q_tl]
    split
    · have j := q_Dz_J k (by omega) (q_pn_rg (b := b) (T := T) (p := p) (f := 0) (lo := 0) (hi := 999) (by omega))
      have i := q_tl_ok (b := b) (T := T) d (q_pn b T p 0 0 999).2.1 (q_pn b T p 0 0 999).2.2 _ j.1 (by rw [j.2.2]; omega)
      exact ⟨i.1, by rw [i.2, j.2.1]⟩
    · exact ⟨k, rfl⟩
theorem q_tu_ok {b : Nat → Int} {T p : Nat} {D : Nat → Int} (k : q_Dz D) (h : D 2 < 10) : q_Dz (q_tu b T p D).2.2 ∧ (q_tu b T p D).2.2 0 = D 0 := by
  have j := q_Dz_J k h (q_pn_rg (b := b) (T := T) (p := q_te b T p) (f := 0) (lo := 0) (hi := 999) (by omega))
  have k2 := k.1.1.2.2.1
  have i := q_tl_ok (b := b) (T := T) (9 - (D 2).toNat) (q_pn b T (q_te b T p) 0 0 999).2.1 (q_pn b T (q_te b T p) 0 0 999).2.2 _ j.1 (by rw [j.2.2]; omega)
  exact ⟨i.1, by show (q_tl _ _ _ _ _ _).2.2 0 = _; rw [i.2, j.2.1]⟩
theorem q_pa_ok {b : Nat → Int} {T s p : Nat} {D : Nat → Int} (k : q_Dz D) (h2 : s < 3 → D 2 = 0) (h1 : 1 ≤ s → 1 ≤ D 0) : q_Dz (q_pa b T s p D).2.2.2 ∧ ((q_pa b T s p D).2.2.1 = 0 → 1 ≤ (q_pa b T s p D).2.2.2 0) ∧ 1 ≤ (q_pa b T s p D).1 := by
  unfold q_pa
  by_cases c0 : s ≤ 1 ∧ q_isw b T p 0 = true
  · rw [if_pos c0]
    by_cases r : 12 ≤ D 0
    · rw [if_pos r]
      exact ⟨k, fun e => absurd e (by decide : ¬ (3 : Int) = 0), Nat.le_refl _⟩
    · rw [if_neg r]
      have b1 := q_pn_rg (b := b) (T := T) (p := q_te b T p) (f := 0) (lo := 10) (hi := 99) (by omega)
      have b2 := q_pn_rg (b := b) (T := T) (p := (q_t1 b T p).2.1) (f := (q_t1 b T p).2.2) (lo := 1) (hi := 20) (by omega)
      have b3 := q_pn_rg (b := b) (T := T) (p := (q_t2 b T p).2.1) (f := (q_t2 b T p).2.2) (lo := 0) (hi := 7) (by omega)
      have b4 := q_pn_rg (b := b) (T := T) (p := (q_t3 b T p).2.1) (f := (q_t3 b T p).2.2) (lo := 0) (hi := 5) (by omega)
      have t := q_Dz_T (l := (q_t1 b T p).1) (u := (q_t2 b T p).1) (s := (q_t3 b T p).1) (g := (q_t4 b T p).1) k (by omega) ⟨b1.1, Int.le_trans b1.2 (by omega)⟩ b2 b3 b4
      exact ⟨t.1, fun _ => by dsimp only; rw [t.2.1]; have := k.1.1.1; omega, Nat.le_refl _⟩
  · rw [if_neg c0]
    by_cases c1 : (s = 1 ∨ s = 2) ∧ q_isw b T p 1 = true
    · rw [if_pos c1]
      by_cases r : 6 ≤ D 1
      · rw [if_pos r]
        exact ⟨k, fun e => absurd e (by decide : ¬ (3 : Int) = 0), by show 1 ≤ 2; omega⟩
      · rw [if_neg r]
        have b1 := q_pn_rg (b := b) (T := T) (p := q_te b T p) (f := 0) (lo := 0) (hi := 7) (by omega)
        have b2 := q_pn_rg (b := b) (T := T) (p := (q_w1 b T p).2.1) (f := (q_w1 b T p).2.2) (lo := 1) (hi := 20) (by omega)
        have b3 := q_pn_rg (b := b) (T := T) (p := (q_w2 b T p).2.1) (f := (q_w2 b T p).2.2) (lo := 1) (hi := 99) (by omega)
        have t := q_Dz_W (x := (q_w1 b T p).1) (y := (q_w2 b T p).1) (z := (q_w3 b T p).1) k (by omega) b1 b2 b3
        exact ⟨t.1, fun _ => by dsimp only; rw [t.2.1]; exact h1 (by omega), by show 1 ≤ 2; omega⟩
    · rw [if_neg c1]
      by_cases c2 : (s = 1 ∨ s = 2) ∧ q_isw b T p 2 = true
      · rw [if_pos c2]
        have t := q_tu_ok (b := b) (T := T) (p := p) k (by rw [h2 (by omega)]; omega)
        exact ⟨t.1, fun _ => by dsimp only; rw [t.2]; exact h1 (by omega), by show 1 ≤ 3; omega⟩
      · rw [if_neg c2]
        exact ⟨k, fun e => absurd e (by decide : ¬ (1 : Int) = 0), by show 1 ≤ 3; omega⟩
theorem q_wl_ok {b : Nat → Int} {T : Nat} : ∀ (d s p : Nat) (D : Nat → Int), p ≤ T → T - p < d → q_Dz D → (s < 3 → D 2 = 0) → (1 ≤ s → 1 ≤ D 0) → q_Dz (q_wl b T d s p D).2.2 ∧ ((q_wl b T d s p D).2.1 = 0 → 1 ≤ (q_wl b T d s p D).2.2 0)
  | 0, s, p, D, hp, hd, k, h2, h1 => by omega
  | d + 1, s, p, D, hp, hd, k, h2, h1 => by
    have a := q_pa_ok (b := b) (T := T) (p := p) k h2 h1
    have g := q_pa_in (b := b) (s := s) (D := D) hp
    have gs := q_pa_s (b := b) (T := T) (s := s) (p := p) (D := D)
    rw [q_wl]
    split
    · rename_i c
      have g2 := g.2 c.1
      exact q_wl_ok d _ _ _ g.1 (by omega) a.1 (fun e => by have q := gs.2 e; rw [q.1]; exact h2 q.2) (fun _ => a.2.1 c.1)
    · exact ⟨a.1, a.2.1⟩
theorem q_D0_ok : q_Dz q_D0 := by
  unfold q_D0
  refine ⟨⟨⟨by dsimp only; omega, by dsimp only; omega, by dsimp only; omega, by dsimp only; omega, by dsimp only; omega⟩, fun t h => ?_, fun t h => ?_, fun t h => ?_⟩, ⟨rfl, rfl, rfl⟩, fun _ _ => ⟨rfl, rfl⟩⟩ <;> dsimp only at h <;> omega
theorem q_wr_ok {b : Nat → Int} {T : Nat} : q_Dz (q_wr b T).2.2 ∧ ((q_wr b T).2.1 = 0 → 1 ≤ (q_wr b T).2.2 0) := q_wl_ok _ 0 0 q_D0 (Nat.zero_le _) (by omega) q_D0_ok (fun _ => rfl) (fun e => absurd e (by omega))
/-! a wood, asked of the program -/
def q_wo2 (τ : zM) : Nat × Int × (Nat → Int) := q_wr (q_by (τ 97) (τ 89 12).toNat) (τ 89 12).toNat
def q_gWood (τ : zM) : Int := if (q_wo2 τ).2.1 = 0 then (q_wo2 τ).2.2 0 else -1000100 - (q_ts (q_by (τ 97) (τ 89 12).toNat) (τ 89 12).toNat (q_wo2 τ).1 : Int)
def q_fWood (τ : zM) : zM := if (q_wo2 τ).2.1 = 0 then (fun c j => if c = 93 ∧ j < 106 then (q_wo2 τ).2.2 j else if c = 89 ∧ j = 7 then 1 else if c = 89 ∧ j = 12 then 0 else τ c j) else z_up (z_up τ 89 12 0) 89 13 (q_wo2 τ).2.1
def SX9_wood : zS := fun as σ Ret => match as with
  | [.inr (.inr (9, 0, _))] => q_S9 q_gWood q_fWood σ Ret
  | _ => False
def tX9_wood_0 (X : Nat → zB) (Ret : zR) (L : zL) (st : List zV) (σ : zM) : Prop := (z_aload 0 (z_getr 9 1 4 0 (z_aload 0 (z_getr 9 25 8 0 (z_cv1 4 SX4_readWood (z_aload 0 (z_getr 9 1 4 0 (z_push 0 (z_puti 4 1 (z_aload 0 (z_getr 9 1 4 0 (z_geti 4 3 (z_ifeq (z_aload 0 (z_getr 9 8 8 0 (z_aload 0 (z_getr 9 25 8 0 (z_cv1 8 SX8_takeOver (z_aload 0 (z_getr 9 8 8 0 (z_getr 8 1 6 0 (z_geti 6 6 (z_iret Ret)))))))))) (z_aload 0 (z_cv0 9 SX9_faulted (z_iret Ret)))))))))))))))) L st σ
theorem pX9_wood {as : List zV} {σ : zM} {Ret : zR} (h : SX9_wood as σ Ret) : ∃ (k0 : Nat), as = [.inr (.inr (9, 0, k0))] := by
  unfold SX9_wood at h
  split at h
  · exact ⟨_, rfl⟩
  · exact h.elim
set_option maxRecDepth 10000 in
set_option maxHeartbeats 4000000 in
theorem vX9_wood {X : Nat → zB} {Ret : zR} (h0 : ∀ L st σ, tX9_wood_0 X Ret L st σ → X 0 L st σ) (k0 : Nat) (σ : zM) (hk0 : z_kd k0 = (9, 0)) (hσ : z_okm σ) (h : SX9_wood [.inr (.inr (9, 0, k0))] σ Ret) : X 0 [some (.inr (.inr (9, 0, k0)))] [] σ := by
  obtain ⟨⟨R, m⟩, h⟩ := h
  obtain rfl := z_kd9 hk0
  have tp := R.2.2.1
  have tk : q_tpok σ := m.2.2.2.1
  have sm := q_rtape_sim tp tk
  have t1 : σ 1 1 = σ 89 12 := tp.1
  have t2 := tk.1
  obtain ⟨T, hT⟩ := z_nat t2.1
  have ew : q_wr (q_by (σ 2) T) T = q_wo2 σ := by
    unfold q_wo2
    rw [hT, Int.toNat_natCast] at sm ⊢
    exact sm.wr
  have ets : ∀ p, q_ts (q_by (σ 2) T) T p = q_ts (q_by (σ 97) (σ 89 12).toNat) (σ 89 12).toNat p := by
    intro p
    rw [hT, Int.toNat_natCast] at sm ⊢
    exact sm.ts p
  have W3 := R.2.2.2.2.1.2.2
  refine h0 _ _ _ ?_
  simp only [z_push, z_lpush, z_iload, z_lload, z_aload, z_istore, z_istoreP, z_lstore, z_astore, z_iinc, z_iincP, z_iadd, z_isub, z_imul, z_iaddW, z_isubW, z_imulW, z_idiv, z_irem, z_iand, z_ior, z_ixor, z_ishl, z_ishr, z_iushr, z_ineg, z_i2l, z_i2b, z_i2s, z_i2c, z_l2i, z_ladd, z_lsub, z_land, z_lor, z_lshl, z_lshr, z_lcmp, z_dup, z_pop, z_dup2, z_goto, z_tsw, z_cases, z_geti, z_getr, z_puti, z_putz, z_ald, z_iast, z_bast, z_zast, z_alen, z_acopy, z_mmax, z_mmin, z_mabs, z_mabsL, z_iret, z_zret, z_nret, z_lret, z_aret, z_vret, z_cat, z_xald, z_xlen, z_ldcs, z_strv, z_strc, z_gcs, z_gfm, z_sln, z_sald, z_ifeq, z_ifne, z_iflt, z_ifge, z_ifgt, z_ifle, z_iceq, z_icne, z_iclt, z_icge, z_icgt, z_icle, z_cs0, z_cs1, z_cs2, z_cs3, z_cs4, z_cs5, z_cs6, z_cs7, z_cv0, z_cv1, z_cv2, z_cv3, z_cv4, z_cv5, z_cv6, z_cv7, z_g0, z_s0, z_g1, z_s1, z_g2, z_s2, z_g3, z_s3, z_g4, z_s4, z_g5, z_s5, z_g6, z_s6, z_g7, z_s7, z_g8, z_s8, z_g9, z_s9, z_g10, z_s10, z_g11, z_s11, z_g12, z_s12, z_g13, z_s13, z_b0, z_b1, z_b0n, z_b1n, z_up_far1, z_up_far2, z_up_far3, z_up_far4, z_up_far5, z_up_far6, Classical.not_not, not_true_eq_false, z_in, z_inL, Int.cast_ofNat_Int, Nat.reduceLeDiff, List.length_cons, List.length_nil, Nat.reduceAdd, Nat.zero_add, Nat.le_refl, true_and, and_true, List.length, Nat.reduceLT, true_or, or_true, false_or, or_false, false_and, and_false, not_true_eq_false, not_false_eq_true, forall_const, false_implies, true_implies, Int.reduceEq, Int.reduceLT, Int.reduceLE, Int.reduceAdd, Int.reduceSub, Int.reduceMul, Int.reduceNeg, Int.reduceToNat, Int.toNat_natCast, ↓reduceIte, reduceIte, Nat.reduceEqDiff, Nat.reduceSub, Nat.reduceMul, ne_eq, Int.zero_add, Int.add_zero, Int.sub_zero, Nat.add_zero, Int.ofNat_eq_natCast, tX9_wood_0, SX4_readWood, SX9_faulted, SX8_takeOver, t1, hT]
  refine ⟨by omega, fun σ1 f1 rs dr => ?_⟩
  rw [ew] at rs dr
  obtain ⟨r1, r2, r3, ⟨a1, a2, a3, a4⟩, r5, r6⟩ := rs
  have hts := q_ts_in (b := q_by (σ 2) T) r5
  have e9 : ∀ c, 89 ≤ c → σ1 c = σ c := fun c hc => funext fun j => f1 c j (by omega) (by omega)
  have i13 : z_up σ1 1 1 0 1 3 = σ1 1 3 := z_up_ne (by omega)
  have i12 : z_up σ1 1 1 0 1 2 = σ1 1 2 := z_up_ne (by omega)
  have i26 : z_up σ1 1 1 0 25 7 = σ1 25 7 := z_up_ne (by omega)
  have gg : ∀ σ2 : zM, (∀ c, 89 ≤ c → σ2 c = σ c) → q_wo2 σ2 = q_wo2 σ ∧ q_gWood σ2 = q_gWood σ := by
    intro σ2 e2
    have e1 : q_wo2 σ2 = q_wo2 σ := by unfold q_wo2; rw [e2 97 (by omega), e2 89 (by omega)]
    refine ⟨e1, ?_⟩
    unfold q_gWood
    rw [e1, e2 97 (by omega), e2 89 (by omega)]
  by_cases c : (q_wo2 σ).2.1 = 0
  · refine fun _ => ⟨fun _ => ?_, fun e => absurd (by rw [i13, r6]; exact c) e⟩
    refine ⟨by rw [i26]; exact Or.inr dr.2.1, fun σ2 f2 f3 _ => ?_⟩
    have u9 : ∀ c, 89 ≤ c → σ2 c = σ c := fun c hc => funext fun j => by rw [f2 c j (by omega), z_up_ne (by omega), e9 c hc]
    have dz := q_wr_ok (b := q_by (σ 97) (σ 89 12).toNat) (T := (σ 89 12).toNat)
    have ef : q_fWood σ2 = fun c j => if c = 93 ∧ j < 106 then (q_wo2 σ).2.2 j else if c = 89 ∧ j = 7 then 1 else if c = 89 ∧ j = 12 then 0 else σ2 c j := by
      unfold q_fWood
      rw [(gg σ2 u9).1, if_pos c]
    have w25 : q_W σ1 25 (q_wo2 σ).2.2 (σ 95) 1 := by
      refine ⟨dr.1, fun i hi => ?_, dr.2.1⟩
      rw [dr.2.2.1.2.2] at hi
      omega
    have w25b : q_W (z_up σ1 1 1 0) 25 (q_wo2 σ).2.2 (σ 95) 1 := q_W_cg w25 (fun c j h1 h2 => z_up_ne (by omega))
    have w8 : q_W σ2 8 (q_wo2 σ).2.2 (σ 95) 1 := q_W_take w25b (fun i j hv => f3 i j hv)
    have r2 : q_R2 σ2 (q_fWood σ2) := by
      rw [ef]
      obtain ⟨h1, ⟨h2, h3⟩, h4, h5, h6, h7⟩ := R
      have p : ∀ c j, ¬ (c = 1 ∨ 8 ≤ c ∧ c ≤ 41) → σ2 c j = σ c j := fun c j hc => by rw [f2 c j (by omega), z_up_ne (by omega), f1 c j (by omega) (by omega)]
      have t : ∀ c j, 89 ≤ c → c ≠ 93 → ¬ (c = 89 ∧ (j = 7 ∨ j = 12)) → (fun c j => if c = 93 ∧ j < 106 then (q_wo2 σ).2.2 j else if c = 89 ∧ j = 7 then 1 else if c = 89 ∧ j = 12 then 0 else σ2 c j) c j = σ c j := fun c j hc h1 h2 => by
        dsimp only
        rw [if_neg (by omega), if_neg (by omega), if_neg (by omega), u9 c hc]
      refine ⟨q_rrow_cg h1 (fun c j a1 a2 => p c j (by omega)) (fun c j a1 a2 => t c j (by omega) (by omega) (by omega)), ⟨?_, ?_⟩, ⟨?_, fun j hj => ?_⟩, q_rtr_cg h5 (p _ _ (by omega)) (fun j => p _ _ (by omega)) (t _ _ (by omega) (by omega) (by omega)) (fun j => t _ _ (by omega) (by omega) (by omega)), ?_, q_rimg_cg h7 (fun c j a1 a2 => p c j (by omega)) (fun c j a1 a2 => t c j (by omega) (by omega) (by omega))⟩
      · rw [p _ _ (by omega), t _ _ (by omega) (by omega) (by omega)]; exact h2
      · rw [p _ _ (by omega), t _ _ (by omega) (by omega) (by omega)]; exact h3
      · show σ2 1 1 = if 89 = 93 ∧ 12 < 106 then _ else if 89 = 89 ∧ 12 = 7 then 1 else if 89 = 89 ∧ 12 = 12 then 0 else _
        rw [if_neg (by omega), if_neg (by omega), if_pos (by omega), f2 _ _ (by omega), z_up_eq]
      · have hj : (j : Int) < if 89 = 93 ∧ 12 < 106 then (q_wo2 σ).2.2 12 else if 89 = 89 ∧ 12 = 7 then 1 else if 89 = 89 ∧ 12 = 12 then 0 else σ2 89 12 := hj
        rw [if_neg (by omega), if_neg (by omega), if_pos (by omega)] at hj
        omega
      · unfold q_rwood
        show q_W σ2 8 _ _ (if 89 = 93 ∧ 7 < 106 then _ else if 89 = 89 ∧ 7 = 7 then 1 else _)
        rw [if_neg (by omega), if_pos (by omega)]
        refine q_W_cgD w8 (fun i hi => ?_) (fun i hi => ?_)
        · dsimp only
          rw [if_pos ⟨rfl, hi⟩]
        · dsimp only
          rw [if_neg (by omega), if_neg (by omega), if_neg (by omega), u9 95 (by omega)]
    have fin := h σ2 u9 r2
    rw [(gg σ2 u9).2] at fin
    unfold q_gWood at fin
    rw [if_pos c] at fin
    have ec : σ2 9 6 = (q_wo2 σ).2.2 0 := w8.1.1.1.1
    rw [ec]
    exact fin
  · refine fun _ => ⟨fun e => absurd (by rw [i13, r6] at e; exact e) c, fun _ => ?_⟩
    rw [i12, i13, a1, r6]
    refine ⟨by omega, ?_⟩
    have p : ∀ c j, ¬ (c = 1 ∨ 25 ≤ c ∧ c ≤ 41 ∨ (c = 0 ∧ j = 11)) → z_up (z_up σ1 1 1 0) 0 11 (q_wo2 σ).2.1 c j = σ c j := fun c j hc => by rw [z_up_ne (by omega), z_up_ne (by omega), f1 c j (by omega) (by omega)]
    have u9 : ∀ c, 89 ≤ c → z_up (z_up σ1 1 1 0) 0 11 (q_wo2 σ).2.1 c = σ c := fun c hc => funext fun j => p c j (by omega)
    generalize hs2 : z_up (z_up σ1 1 1 0) 0 11 (q_wo2 σ).2.1 = σ2 at p u9
    have ef : q_fWood σ2 = z_up (z_up σ2 89 12 0) 89 13 (q_wo2 σ).2.1 := by
      unfold q_fWood
      rw [(gg σ2 u9).1, if_neg c]
    have fin := h σ2 u9 (by
      rw [ef]
      refine q_R2_tape R ⟨?_, fun j hj => ?_⟩ ?_ (fun c j h1 h2 => ?_) (fun c j h1 h2 h3 => ?_)
      · rw [z_up_ne (by omega), z_up_eq, ← hs2, z_up_ne (by omega), z_up_eq]
      · rw [z_up_ne (by omega), z_up_eq] at hj
        omega
      · rw [z_up_eq, ← hs2, z_up_eq]
      · unfold q_lastP at h1
        exact p c j (by omega)
      · rw [z_up_ne (by omega), z_up_ne (by omega), u9 c h1])
    rw [(gg σ2 u9).2] at fin
    unfold q_gWood at fin
    rw [if_neg c, ← ets] at fin
    exact fin
theorem dX9_wood_0 : decode cX9_wood 0 = .ok (.aload_n 0, 1) := by decide +kernel
theorem dX9_wood_1 : decode cX9_wood 1 = .ok (.getfield 10, 3) := by decide +kernel
theorem dX9_wood_4 : decode cX9_wood 4 = .ok (.aload_n 0, 1) := by decide +kernel
theorem dX9_wood_5 : decode cX9_wood 5 = .ok (.getfield 30, 3) := by decide +kernel
theorem dX9_wood_8 : decode cX9_wood 8 = .ok (.invokevirtual 118, 3) := by decide +kernel
theorem dX9_wood_11 : decode cX9_wood 11 = .ok (.aload_n 0, 1) := by decide +kernel
theorem dX9_wood_12 : decode cX9_wood 12 = .ok (.getfield 10, 3) := by decide +kernel
theorem dX9_wood_15 : decode cX9_wood 15 = .ok (.iconst 0, 1) := by decide +kernel
theorem dX9_wood_16 : decode cX9_wood 16 = .ok (.putfield 109, 3) := by decide +kernel
theorem dX9_wood_19 : decode cX9_wood 19 = .ok (.aload_n 0, 1) := by decide +kernel
theorem dX9_wood_20 : decode cX9_wood 20 = .ok (.getfield 10, 3) := by decide +kernel
theorem dX9_wood_23 : decode cX9_wood 23 = .ok (.getfield 122, 3) := by decide +kernel
theorem dX9_wood_26 : decode cX9_wood 26 = .ok (.ifCond .eq 8, 3) := by decide +kernel
theorem dX9_wood_29 : decode cX9_wood 29 = .ok (.aload_n 0, 1) := by decide +kernel
theorem dX9_wood_30 : decode cX9_wood 30 = .ok (.invokevirtual 125, 3) := by decide +kernel
theorem dX9_wood_33 : decode cX9_wood 33 = .ok (.ireturn, 1) := by decide +kernel
theorem dX9_wood_34 : decode cX9_wood 34 = .ok (.aload_n 0, 1) := by decide +kernel
theorem dX9_wood_35 : decode cX9_wood 35 = .ok (.getfield 26, 3) := by decide +kernel
theorem dX9_wood_38 : decode cX9_wood 38 = .ok (.aload_n 0, 1) := by decide +kernel
theorem dX9_wood_39 : decode cX9_wood 39 = .ok (.getfield 30, 3) := by decide +kernel
theorem dX9_wood_42 : decode cX9_wood 42 = .ok (.invokevirtual 129, 3) := by decide +kernel
theorem dX9_wood_45 : decode cX9_wood 45 = .ok (.aload_n 0, 1) := by decide +kernel
theorem dX9_wood_46 : decode cX9_wood 46 = .ok (.getfield 26, 3) := by decide +kernel
theorem dX9_wood_49 : decode cX9_wood 49 = .ok (.getfield 132, 3) := by decide +kernel
theorem dX9_wood_52 : decode cX9_wood 52 = .ok (.getfield 136, 3) := by decide +kernel
theorem dX9_wood_55 : decode cX9_wood 55 = .ok (.ireturn, 1) := by decide +kernel
set_option maxRecDepth 100000 in
theorem rX9_wood_0 {zx : zX} {zn : Nat} {p : Program} {l : Launch} {e : Env} {s : State} {m : MethodId} {args : Array Value} {below : List Frame} {meth : Method} {c : Code} {D : va_G} {cA : Nat → ClassId} {ad : Nat → Nat} {Ret : zR} (C : z_Cx zx zn (z_A zn ad) 0 0 p { frames := 7, cells := 0, slots := 0, locals := 153 } s m args c cX9_wood yX9_wood.cls 1 D cA ad) (hr : meth.sig.returnType = (some .int)) (hlocks : meth.locks = false) : ∀ L st σ, tX9_wood_0 (z_X zx zn (z_A zn ad) 0 0 p l e { frames := 7, cells := 0, slots := 0, locals := 153 } s m args below meth c (MQ below (z_Qc zn D cA ad Ret) args s 0 0 (z_A zn ad)) 1 D cA ad true) Ret L st σ → z_X zx zn (z_A zn ad) 0 0 p l e { frames := 7, cells := 0, slots := 0, locals := 153 } s m args below meth c (MQ below (z_Qc zn D cA ad Ret) args s 0 0 (z_A zn ad)) 1 D cA ad true 0 L st σ := (s_aload_n C dX9_wood_0 rfl (s_getr C dX9_wood_1 (j := 0) cls_X9 (by decide) rfl (by decide) (by decide) (by decide +kernel) wd_283 (s_aload_n C dX9_wood_4 rfl (s_getr C dX9_wood_5 (j := 3) cls_X9 (by decide) rfl (by decide) (by decide) (by decide +kernel) wd_286 (s_cv1 C dX9_wood_8 (okX4_readWood l) cls_X4 wd_592 wd_593 wd_594 wd_18 wd_595 ⟨by decide, by decide, by decide +kernel⟩ ⟨by decide, by decide⟩ (s_aload_n C dX9_wood_11 rfl (s_getr C dX9_wood_12 (j := 0) cls_X9 (by decide) rfl (by decide) (by decide) (by decide +kernel) wd_283 (s_iconst C dX9_wood_15 rfl ⟨by decide, by decide⟩ (s_puti C dX9_wood_16 cls_X4 (by decide) rfl wd_49 rfl rfl (s_aload_n C dX9_wood_19 rfl (s_getr C dX9_wood_20 (j := 0) cls_X9 (by decide) rfl (by decide) (by decide) (by decide +kernel) wd_283 (s_geti C dX9_wood_23 cls_X4 (by decide) rfl wd_53 (s_ifeq C dX9_wood_26 (by decide) (s_aload_n C dX9_wood_34 rfl (s_getr C dX9_wood_35 (j := 2) cls_X9 (by decide) rfl (by decide) (by decide) (by decide +kernel) wd_285 (s_aload_n C dX9_wood_38 rfl (s_getr C dX9_wood_39 (j := 3) cls_X9 (by decide) rfl (by decide) (by decide) (by decide +kernel) wd_286 (s_cv1 C dX9_wood_42 (okX8_takeOver l) cls_X8 wd_631 wd_632 wd_633 wd_20 wd_634 ⟨by decide, by decide, by decide +kernel⟩ ⟨by decide, by decide⟩ (s_aload_n C dX9_wood_45 rfl (s_getr C dX9_wood_46 (j := 2) cls_X9 (by decide) rfl (by decide) (by decide) (by decide +kernel) wd_285 (s_getr C dX9_wood_49 (j := 0) cls_X8 (by decide) rfl (by decide) (by decide) (by decide +kernel) wd_195 (s_geti C dX9_wood_52 cls_X6 (by decide) rfl wd_126 (s_iret C dX9_wood_55 hr hlocks)))))))))) (s_aload_n C dX9_wood_29 rfl (s_cv0 C dX9_wood_30 (okX9_faulted l) cls_X9 wd_443 wd_445 wd_10 wd_17 wd_446 ⟨by decide, by decide, by decide +kernel⟩ ⟨by decide, by decide⟩ (s_iret C dX9_wood_33 hr hlocks))))))))))))))))
theorem okX9_wood {zx : zX} {zn : Nat} (l : Launch) : z_OK zx zn l yX9_wood cX9_wood 1 (some .int) 7 153 SX9_wood := by
  refine z_ok_of true (by decide +kernel) ?_ ?_
  · intro as σ Ret h
    obtain ⟨k0, rfl⟩ := pX9_wood h
    exact ⟨Nat.le_of_ble_eq_true rfl, by simp⟩
  · intro p e s m args below meth c D cA ad Ret C hr hlocks as σ has hσ h
    obtain ⟨k0, rfl⟩ := pX9_wood h
    exact vX9_wood (rX9_wood_0 C hr hlocks) k0 σ (has _ (List.mem_of_getElem? (i := 0) rfl)).1 hσ h
