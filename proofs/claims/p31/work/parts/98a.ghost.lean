/-! what is thought of the wood stands in cells 89 .. 107, which are in no heap: it may be put there ahead of every call -/
def q_mix (σ τ : zM) : zM := fun c j => if 89 ≤ c ∧ c < 108 then τ c j else σ c j
theorem q_mix_in {σ τ : zM} {c : Nat} (h : 89 ≤ c ∧ c < 108) : q_mix σ τ c = τ c := funext fun _ => if_pos h
theorem q_mix_out {σ τ : zM} {c : Nat} (h : ¬ (89 ≤ c ∧ c < 108)) : q_mix σ τ c = σ c := funext fun _ => if_neg h
def z_gh (S : zS) : zS := fun as σ Ret => ∃ τ, S as (q_mix σ τ) Ret
theorem z_W_mix {zn : Nat} {cA : Nat → ClassId} {ad : Nat → Nat} {σ τ : zM} : z_W zn cA ad (q_mix σ τ) = z_W zn cA ad σ := by
  unfold z_W
  refine List.map_congr_left fun k hk => ?_
  obtain ⟨i, hi⟩ := List.getElem?_of_mem hk
  have h := (z_ix_out hi).1
  have e : q_mix σ τ k = σ k := q_mix_out (by unfold z_here at h; omega)
  rw [z_E_ne (fun j => congrFun e j)]
theorem z_ok_gh {zx : zX} {zn : Nat} {l : Launch} {y : MethodName} {cc : ByteArray} {maxL : Nat} {ret : Option FieldType} {fr lo : Nat} {S : zS} (h : z_OK zx zn l y cc maxL ret fr lo S) : z_OK zx zn l y cc maxL ret fr lo (z_gh S) := by
  intro D cA ad as σ Ret hi has hσ ⟨τ, hS⟩
  have q := h D cA ad as (q_mix σ τ) Ret hi has (fun k j hk => by rw [q_mix_out hk]; exact hσ k j hk) hS
  rw [z_W_mix] at q
  exact q
theorem z_ok_mono {zx : zX} {zn : Nat} {l : Launch} {y : MethodName} {cc : ByteArray} {maxL : Nat} {ret : Option FieldType} {fr lo : Nat} {S S' : zS} (m : ∀ (as : List zV) (σ : zM) (Ret : zR), S' as σ Ret → S as σ Ret) (h : z_OK zx zn l y cc maxL ret fr lo S) : z_OK zx zn l y cc maxL ret fr lo S' :=
  fun D cA ad as σ Ret hi has hσ hS => h D cA ad as σ Ret hi has hσ (m as σ Ret hS)
/-- the wood thought of: its numbers D, its deeds O, whether it is there, the bytes that wait -/
def w_gh (τ : zM) (D O : Nat → Int) (h : Int) (b : List Int) : Prop := q_mok τ ∧ τ 93 = D ∧ τ 95 = O ∧ τ 89 7 = h ∧ τ 89 12 = (b.length : Int) ∧ ∀ j, j < b.length → τ 97 j = b.getD j 0
def w_at (σ : zM) (D O : Nat → Int) (h : Int) (b : List Int) : Prop := ∃ τ, q_R2 σ τ ∧ w_gh τ D O h b
def w_fr (σ σ' : zM) : Prop := ∀ c, 108 ≤ c → σ' c = σ c
theorem w_fr.rf {σ : zM} : w_fr σ σ := fun _ _ => rfl
theorem w_fr.tr {σ τ υ : zM} (h1 : w_fr σ τ) (h2 : w_fr τ υ) : w_fr σ υ := fun c h => (h2 c h).trans (h1 c h)
theorem w_at_cg {σ σ' : zM} {D O : Nat → Int} {h : Int} {b : List Int} (a : w_at σ D O h b) (e : ∀ c, c < 89 → σ' c = σ c) : w_at σ' D O h b := by
  obtain ⟨τ, r, g⟩ := a
  exact ⟨τ, q_R2_cgp r (fun c j hc => by rw [e c (by unfold q_lastP at hc; omega)]), g⟩
theorem w_gh_cg {τ τ' : zM} {D O : Nat → Int} {h : Int} {b : List Int} (a : w_gh τ D O h b) (e : ∀ c, 89 ≤ c → c < 108 → τ' c = τ c) : w_gh τ' D O h b := by
  obtain ⟨g1, g2, g3, g4, g5, g6⟩ := a
  refine ⟨q_mok_cg g1 (fun c j hc => by rw [e c (by unfold q_last at hc; omega) (by unfold q_last at hc; omega)]), ?_, ?_, ?_, ?_, fun j hj => ?_⟩
  · rw [e 93 (by omega) (by omega)]; exact g2
  · rw [e 95 (by omega) (by omega)]; exact g3
  · rw [e 89 (by omega) (by omega)]; exact g4
  · rw [e 89 (by omega) (by omega)]; exact g5
  · rw [e 97 (by omega) (by omega)]; exact g6 j hj
theorem w_use {G : zM → Int} {F : zM → zM} {σ : zM} {Ret : zR} {D O : Nat → Int} {h : Int} {b : List Int} (a : w_at σ D O h b) (k : ∀ σ' : zM, w_fr σ σ' → w_gh σ' D O h b → q_R2 σ' (F σ') → Ret (some (.inl (G σ'))) σ') : ∃ τ, q_S9 G F (q_mix σ τ) Ret := by
  obtain ⟨τ, r, g⟩ := a
  refine ⟨τ, ⟨?_, (w_gh_cg g (fun c h1 h2 => q_mix_in ⟨h1, h2⟩)).1⟩, fun σ' e1 r1 => k σ' (fun c hc => ?_) (w_gh_cg g (fun c h1 h2 => ?_)) r1⟩
  · exact q_R2_cgm (q_R2_cgp r (fun c j hc => by rw [q_mix_out (by unfold q_lastP at hc; omega)])) (fun c j hc => by rw [q_mix_in (by unfold q_last at hc; omega)])
  · rw [e1 c (by omega), q_mix_out (by omega)]
  · rw [e1 c h1, q_mix_in ⟨h1, h2⟩]
/-- the bytes of a word told -/
def w_bs (w : Int) : Nat → List Int
  | 0 => []
  | n + 1 => q_bym w n :: w_bs w n
theorem w_bs_len (w : Int) : ∀ n, (w_bs w n).length = n
  | 0 => rfl
  | n + 1 => congrArg (· + 1) (w_bs_len w n)
theorem w_fm_at {w : Int} : ∀ (n : Nat) (τ : zM) (b : List Int), τ 89 12 = (b.length : Int) → (∀ j, j < b.length → τ 97 j = b.getD j 0) → ∀ j, j < (b ++ w_bs w n).length → q_fm w n τ 97 j = (b ++ w_bs w n).getD j 0
  | 0, τ, b, h1, h2 => by
    rw [w_bs, List.append_nil]
    exact h2
  | n + 1, τ, b, h1, h2 => by
    rw [q_fm, w_bs, show b ++ q_bym w n :: w_bs w n = (b ++ [q_bym w n]) ++ w_bs w n by simp]
    refine w_fm_at n _ _ ?_ (fun j hj => ?_)
    · rw [z_up_eq, h1]; simp
    · rw [List.length_append, List.length_singleton] at hj
      rw [z_up_ne (by omega), h1, Int.toNat_natCast]
      by_cases e : j = b.length
      · subst e
        rw [z_up_eq]
        simp [List.getD_eq_getElem?_getD]
      · rw [z_up_ne (by omega), h2 j (by omega)]
        simp only [List.getD_eq_getElem?_getD]
        rw [List.getElem?_append_left (by omega)]
def SW_feed : zS := fun as σ Ret => match as with
  | [.inr (.inr (9, 0, _)), .inr (.inl w), .inl n] => ∃ D O h b, w_at σ D O h b ∧ (1 ≤ n ∧ n ≤ 8 ∧ (b.length : Int) + n ≤ 400) ∧ ∀ σ', w_fr σ σ' → w_at σ' D O h (b ++ w_bs w n.toNat) → Ret (some (.inl ((b.length : Int) + n))) σ'
  | _ => False
theorem hW_feed {as : List zV} {σ : zM} {Ret : zR} (h : SW_feed as σ Ret) : z_gh SX9_feed as σ Ret := by
  unfold SW_feed at h
  split at h
  · rename_i w n
    obtain ⟨D, O, hh, b, a, ⟨c1, c2, c3⟩, k⟩ := h
    refine w_use (G := q_gFeed n) (F := q_fFeed w n) a (fun σ' f g r => ?_)
    have g5 := g.2.2.2.2.1
    have e1 : q_gFeed n σ' = (b.length : Int) + n := by
      unfold q_gFeed
      rw [g5, if_neg (by omega), if_neg (by omega)]
    have e2 : q_fFeed w n σ' = q_fm w n.toNat σ' := by
      unfold q_fFeed
      rw [g5, if_neg (by omega), if_neg (by omega)]
    rw [e1]
    refine k σ' f ⟨q_fFeed w n σ', r, q_k_feed w n σ' g.1, ?_, ?_, ?_, ?_, ?_⟩
    · rw [e2, funext (fun j => q_fm_ne (w := w) (c := 93) (j := j) (by omega) n.toNat σ')]; exact g.2.1
    · rw [e2, funext (fun j => q_fm_ne (w := w) (c := 95) (j := j) (by omega) n.toNat σ')]; exact g.2.2.1
    · rw [e2, q_fm_ne (by omega)]; exact g.2.2.2.1
    · rw [e2, q_fm_12, g5, List.length_append, w_bs_len]; omega
    · rw [e2]; exact w_fm_at _ _ _ g5 g.2.2.2.2.2
  · exact h.elim
theorem okW_feed {zx : zX} {zn : Nat} (l : Launch) : z_OK zx zn l yX9_feed cX9_feed 4 (some .int) 1 24 SW_feed := z_ok_mono (fun _ _ _ h => hW_feed h) (z_ok_gh (okX9_feed l))
def SW_count : zS := fun as σ Ret => match as with
  | [.inr (.inr (9, 0, _)), .inl w] => ∃ D O h b, w_at σ D O h b ∧ (2 ≤ w ∧ w ≤ 7) ∧ ∀ σ', w_fr σ σ' → w_at σ' D O h b → Ret (some (.inl (if w = 7 then (b.length : Int) else D (w - 1).toNat))) σ'
  | _ => False
theorem hW_count {as : List zV} {σ : zM} {Ret : zR} (h : SW_count as σ Ret) : z_gh SX9_count as σ Ret := by
  unfold SW_count at h
  split at h
  · rename_i w
    obtain ⟨D, O, hh, b, a, c, k⟩ := h
    refine w_use (G := q_gCount w) (F := q_fId) a (fun σ' f g r => ?_)
    have e1 : q_gCount w σ' = if w = 7 then (b.length : Int) else D (w - 1).toNat := by
      unfold q_gCount
      rw [if_neg (by omega), g.2.2.2.2.1, g.2.1]
      by_cases e : w = 7
      · rw [if_neg (by omega), if_pos e, if_pos e]
      · rw [if_pos (by omega), if_neg e]
    rw [e1]
    exact k σ' f ⟨σ', r, g⟩
  · exact h.elim
theorem okW_count {zx : zX} {zn : Nat} (l : Launch) : z_OK zx zn l yX9_count cX9_count 2 (some .int) 1 22 SW_count := z_ok_mono (fun _ _ _ h => hW_count h) (z_ok_gh (okX9_count l))
def w_gTree (D : Nat → Int) (t w : Int) : Int := if ¬ ((0 ≤ t ∧ t < D 0) ∧ 0 ≤ w ∧ w ≤ 6) then -1000001 else if w < 6 then D (6 + 6 * t.toNat + w.toNat) else q_tnD D t.toNat
def SW_tree : zS := fun as σ Ret => match as with
  | [.inr (.inr (9, 0, _)), .inl t, .inl w] => ∃ D O h b, w_at σ D O h b ∧ ∀ σ', w_fr σ σ' → w_at σ' D O h b → Ret (some (.inl (w_gTree D t w))) σ'
  | _ => False
theorem hW_tree {as : List zV} {σ : zM} {Ret : zR} (h : SW_tree as σ Ret) : z_gh SX9_tree as σ Ret := by
  unfold SW_tree at h
  split at h
  · rename_i t w
    obtain ⟨D, O, hh, b, a, k⟩ := h
    refine w_use (G := q_gTree t w) (F := q_fId) a (fun σ' f g r => ?_)
    have e1 : q_gTree t w σ' = w_gTree D t w := by
      unfold q_gTree w_gTree
      rw [g.2.1]
    rw [e1]
    exact k σ' f ⟨σ', r, g⟩
  · exact h.elim
theorem okW_tree {zx : zX} {zn : Nat} (l : Launch) : z_OK zx zn l yX9_tree cX9_tree 3 (some .int) 2 43 SW_tree := z_ok_mono (fun _ _ _ h => hW_tree h) (z_ok_gh (okX9_tree l))
def w_gSound (D : Nat → Int) (w k : Int) : Int := if ¬ ((0 ≤ w ∧ w < D 1) ∧ 0 ≤ k) then -1000001 else if k < ((q_lsD D w.toNat).length : Int) then q_tnD D ((q_lsD D w.toNat).getD k.toNat 0) else -1000000
def SW_sound : zS := fun as σ Ret => match as with
  | [.inr (.inr (9, 0, _)), .inl w, .inl i] => ∃ D O h b, w_at σ D O h b ∧ ∀ σ', w_fr σ σ' → w_at σ' D O h b → Ret (some (.inl (w_gSound D w i))) σ'
  | _ => False
theorem hW_sound {as : List zV} {σ : zM} {Ret : zR} (h : SW_sound as σ Ret) : z_gh SX9_sound as σ Ret := by
  unfold SW_sound at h
  split at h
  · rename_i w i
    obtain ⟨D, O, hh, b, a, k⟩ := h
    refine w_use (G := q_gSound w i) (F := q_fId) a (fun σ' f g r => ?_)
    have e1 : q_gSound w i σ' = w_gSound D w i := by
      unfold q_gSound w_gSound
      rw [g.2.1]
    rw [e1]
    exact k σ' f ⟨σ', r, g⟩
  · exact h.elim
theorem okW_sound {zx : zX} {zn : Nat} (l : Launch) : z_OK zx zn l yX9_sound cX9_sound 3 (some .int) 3 68 SW_sound := z_ok_mono (fun _ _ _ h => hW_sound h) (z_ok_gh (okX9_sound l))
def SW_go : zS := fun as σ Ret => match as with
  | [.inr (.inr (9, 0, _)), .inl n] => ∃ D O b, w_at σ D O 1 b ∧ (¬ (1 ≤ n ∧ n ≤ 60) → ∀ σ', w_fr σ σ' → w_at σ' D O 1 b → Ret (some (.inl (-1000001))) σ') ∧ ((1 ≤ n ∧ n ≤ 60) → ∀ σ', w_fr σ σ' → w_at σ' (q_d1 (q_gwD D n) 3 (z_wr (D 3 + n))) O 1 b → Ret (some (.inl (z_wr (D 3 + n)))) σ')
  | _ => False
theorem hW_go {as : List zV} {σ : zM} {Ret : zR} (h : SW_go as σ Ret) : z_gh SX9_go as σ Ret := by
  unfold SW_go at h
  split at h
  · rename_i n
    obtain ⟨D, O, b, a, k1, k2⟩ := h
    refine w_use (G := q_gGo n) (F := q_fGo n) a (fun σ' f g r => ?_)
    have g7 : ¬ σ' 89 7 = 0 := by rw [g.2.2.2.1]; decide
    by_cases c : 1 ≤ n ∧ n ≤ 60
    · have e1 : q_gGo n σ' = z_wr (D 3 + n) := by
        unfold q_gGo
        rw [if_neg g7, if_neg (fun q => q c), g.2.1]
      have e2 : q_fGo n σ' = q_set σ' 93 (q_d1 (q_gwD D n) 3 (z_wr (D 3 + n))) := by
        unfold q_fGo
        rw [if_neg g7, if_neg (fun q => q c), g.2.1]
      have m := q_k_go n σ' g.1
      rw [e1]
      rw [e2] at r m
      refine k2 c σ' f ⟨_, r, m, q_set_eq, ?_, ?_, ?_, fun j hj => ?_⟩
      · rw [q_set_ne (by omega)]; exact g.2.2.1
      · rw [q_set_ne (by omega)]; exact g.2.2.2.1
      · rw [q_set_ne (by omega)]; exact g.2.2.2.2.1
      · rw [q_set_ne (by omega)]; exact g.2.2.2.2.2 j hj
    · have e1 : q_gGo n σ' = -1000001 := by
        unfold q_gGo
        rw [if_neg g7, if_pos c]
      have e2 : q_fGo n σ' = σ' := by
        unfold q_fGo
        rw [if_neg g7, if_pos c]
      rw [e2] at r
      rw [e1]
      exact k1 c σ' f ⟨σ', r, g⟩
  · exact h.elim
theorem okW_go {zx : zX} {zn : Nat} (l : Launch) : z_OK zx zn l yX9_go cX9_go 2 (some .int) 5 108 SW_go := z_ok_mono (fun _ _ _ h => hW_go h) (z_ok_gh (okX9_go l))
def SW_undo : zS := fun as σ Ret => match as with
  | [.inr (.inr (9, 0, _))] => ∃ D O h b, w_at σ D O h b ∧ (D 5 = 0 → ∀ σ', w_fr σ σ' → w_at σ' D O h b → Ret (some (.inl (-1000002))) σ') ∧ (¬ D 5 = 0 → ∀ σ', w_fr σ σ' → w_at σ' (q_unD D O) O h b → Ret (some (.inl (D 5 - 1))) σ')
  | _ => False
theorem hW_undo {as : List zV} {σ : zM} {Ret : zR} (h : SW_undo as σ Ret) : z_gh SX9_undo as σ Ret := by
  unfold SW_undo at h
  split at h
  · obtain ⟨D, O, hh, b, a, k1, k2⟩ := h
    refine w_use (G := q_gUndo) (F := q_fUndo) a (fun σ' f g r => ?_)
    by_cases c : D 5 = 0
    · have e1 : q_gUndo σ' = -1000002 := by
        unfold q_gUndo
        rw [g.2.1, if_pos c]
      have e2 : q_fUndo σ' = σ' := by
        unfold q_fUndo
        rw [g.2.1, if_pos c]
      rw [e2] at r
      rw [e1]
      exact k1 c σ' f ⟨σ', r, g⟩
    · have e1 : q_gUndo σ' = D 5 - 1 := by
        unfold q_gUndo
        rw [g.2.1, if_neg c]
      have e2 : q_fUndo σ' = q_set σ' 93 (q_unD D O) := by
        unfold q_fUndo
        rw [g.2.1, if_neg c, g.2.2.1]
      have m := q_k_undo σ' g.1
      rw [e2] at r m
      rw [e1]
      refine k2 c σ' f ⟨_, r, m, q_set_eq, ?_, ?_, ?_, fun j hj => ?_⟩
      · rw [q_set_ne (by omega)]; exact g.2.2.1
      · rw [q_set_ne (by omega)]; exact g.2.2.2.1
      · rw [q_set_ne (by omega)]; exact g.2.2.2.2.1
      · rw [q_set_ne (by omega)]; exact g.2.2.2.2.2 j hj
  · exact h.elim
theorem okW_undo {zx : zX} {zn : Nat} (l : Launch) : z_OK zx zn l yX9_undo cX9_undo 1 (some .int) 4 88 SW_undo := z_ok_mono (fun _ _ _ h => hW_undo h) (z_ok_gh (okX9_undo l))
def w_fn (b : List Int) : Nat → Int := q_by (fun j => b.getD j 0) b.length
theorem w_fn_eq {τ : zM} {D O : Nat → Int} {h : Int} {b : List Int} (g : w_gh τ D O h b) : q_by (τ 97) (τ 89 12).toNat = w_fn b := by
  unfold w_fn
  rw [g.2.2.2.2.1, Int.toNat_natCast]
  funext p
  unfold q_by
  by_cases e : p < b.length
  · rw [if_pos e, if_pos e, g.2.2.2.2.2 p e]
  · rw [if_neg e, if_neg e]
def w_wo (b : List Int) : Nat × Int × (Nat → Int) := q_wr (w_fn b) b.length
def w_oo (b : List Int) (n : Int) : Nat × Int × Nat × (Nat → Int) := q_or (w_fn b) b.length n
def SW_wood : zS := fun as σ Ret => match as with
  | [.inr (.inr (9, 0, _))] => ∃ D O h b, w_at σ D O h b ∧ (w_wo b).2.1 = 0 ∧ ∀ σ', w_fr σ σ' → w_at σ' (fun j => if j < 106 then (w_wo b).2.2 j else D j) O 1 [] → Ret (some (.inl ((w_wo b).2.2 0))) σ'
  | _ => False
theorem hW_wood {as : List zV} {σ : zM} {Ret : zR} (h : SW_wood as σ Ret) : z_gh SX9_wood as σ Ret := by
  unfold SW_wood at h
  split at h
  · obtain ⟨D, O, hh, b, a, c, k⟩ := h
    refine w_use (G := q_gWood) (F := q_fWood) a (fun σ' f g r => ?_)
    have e0 : q_wo2 σ' = w_wo b := by
      unfold q_wo2 w_wo
      rw [w_fn_eq g, g.2.2.2.2.1, Int.toNat_natCast]
    have e1 : q_gWood σ' = (w_wo b).2.2 0 := by
      unfold q_gWood
      rw [e0, if_pos c]
    have m := q_k_wood σ' g.1
    have e2 : ∀ x j, q_fWood σ' x j = if x = 93 ∧ j < 106 then (w_wo b).2.2 j else if x = 89 ∧ j = 7 then 1 else if x = 89 ∧ j = 12 then 0 else σ' x j := by
      intro x j
      unfold q_fWood
      rw [e0, if_pos c]
    rw [e1]
    refine k σ' f ⟨_, r, m, funext fun j => ?_, funext fun j => ?_, ?_, ?_, fun j hj => absurd hj (Nat.not_lt_zero _)⟩
    · rw [e2, ← g.2.1]
      by_cases e : j < 106
      · rw [if_pos ⟨rfl, e⟩, if_pos e]
      · rw [if_neg (fun q => e q.2), if_neg (by omega), if_neg (by omega), if_neg e]
    · rw [e2, ← g.2.2.1, if_neg (by omega), if_neg (by omega), if_neg (by omega)]
    · rw [e2, if_neg (by omega), if_pos ⟨rfl, rfl⟩]
    · rw [e2, if_neg (by omega), if_neg (by omega), if_pos ⟨rfl, rfl⟩]
      rfl
  · exact h.elim
theorem okW_wood {zx : zX} {zn : Nat} (l : Launch) : z_OK zx zn l yX9_wood cX9_wood 1 (some .int) 7 153 SW_wood := z_ok_mono (fun _ _ _ h => hW_wood h) (z_ok_gh (okX9_wood l))
def SW_orders : zS := fun as σ Ret => match as with
  | [.inr (.inr (9, 0, _))] => ∃ D O b, w_at σ D O 1 b ∧ ((¬ (w_oo b (D 0)).2.1 = 0 ∧ ∀ σ', w_fr σ σ' → w_at σ' D O 1 [] → Ret (some (.inl (-1000100 - (q_ts (w_fn b) b.length (w_oo b (D 0)).1 : Int)))) σ') ∨ ((w_oo b (D 0)).2.1 = 0 ∧ D 5 + ((w_oo b (D 0)).2.2.1 : Int) ≤ 60 ∧ ∀ σ', w_fr σ σ' → w_at σ' (q_dds (w_oo b (D 0)).2.2.2 D O (w_oo b (D 0)).2.2.1).1 (q_dds (w_oo b (D 0)).2.2.2 D O (w_oo b (D 0)).2.2.1).2 1 [] → Ret (some (.inl (D 5 + ((w_oo b (D 0)).2.2.1 : Int)))) σ'))
  | _ => False
theorem hW_orders {as : List zV} {σ : zM} {Ret : zR} (h : SW_orders as σ Ret) : z_gh SX9_orders as σ Ret := by
  unfold SW_orders at h
  split at h
  · obtain ⟨D, O, b, a, h⟩ := h
    refine w_use (G := q_gOrders) (F := q_fOrders) a (fun σ' f g r => ?_)
    have g7 : ¬ σ' 89 7 = 0 := by rw [g.2.2.2.1]; decide
    have e0 : q_oo2 σ' = w_oo b (D 0) := by
      unfold q_oo2 w_oo
      rw [w_fn_eq g, g.2.2.2.2.1, Int.toNat_natCast, g.2.1]
    have m := q_k_orders σ' g.1
    rcases h with ⟨c, k⟩ | ⟨c, c2, k⟩
    · have e1 : q_gOrders σ' = -1000100 - (q_ts (w_fn b) b.length (w_oo b (D 0)).1 : Int) := by
        unfold q_gOrders
        rw [if_neg g7, e0, if_pos c, w_fn_eq g, g.2.2.2.2.1, Int.toNat_natCast]
      have e2 : q_fOrders σ' = z_up (z_up σ' 89 12 0) 89 13 (w_oo b (D 0)).2.1 := by
        unfold q_fOrders
        rw [if_neg g7, e0, if_pos c]
      rw [e2] at r m
      rw [e1]
      refine k σ' f ⟨_, r, m, funext fun j => ?_, funext fun j => ?_, ?_, ?_, fun j hj => absurd hj (Nat.not_lt_zero _)⟩
      · rw [z_up_ne (by omega), z_up_ne (by omega), g.2.1]
      · rw [z_up_ne (by omega), z_up_ne (by omega), g.2.2.1]
      · rw [z_up_ne (by omega), z_up_ne (by omega), g.2.2.2.1]
      · rw [z_up_ne (by omega), z_up_eq]; rfl
    · have e1 : q_gOrders σ' = D 5 + ((w_oo b (D 0)).2.2.1 : Int) := by
        unfold q_gOrders
        rw [if_neg g7, e0, if_neg (fun q => q c), g.2.1, if_neg (by omega)]
      have e2 : q_fOrders σ' = q_set (q_set (z_up σ' 89 12 0) 93 (q_dds (w_oo b (D 0)).2.2.2 D O (w_oo b (D 0)).2.2.1).1) 95 (q_dds (w_oo b (D 0)).2.2.2 D O (w_oo b (D 0)).2.2.1).2 := by
        unfold q_fOrders
        rw [if_neg g7, e0, if_neg (fun q => q c), g.2.1, g.2.2.1, if_neg (by omega)]
      rw [e2] at r m
      rw [e1]
      refine k σ' f ⟨_, r, m, ?_, q_set_eq, ?_, ?_, fun j hj => absurd hj (Nat.not_lt_zero _)⟩
      · rw [q_set_ne (by omega), q_set_eq]
      · rw [q_set_ne (by omega), q_set_ne (by omega), z_up_ne (by omega), g.2.2.2.1]
      · rw [q_set_ne (by omega), q_set_ne (by omega), z_up_eq]; rfl
  · exact h.elim
theorem okW_orders {zx : zX} {zn : Nat} (l : Launch) : z_OK zx zn l yX9_orders cX9_orders 1 (some .int) 8 176 SW_orders := z_ok_mono (fun _ _ _ h => hW_orders h) (z_ok_gh (okX9_orders l))
