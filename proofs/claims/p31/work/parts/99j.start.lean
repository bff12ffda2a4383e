/-! ===== the start: strings, classes, arrays, the script ===== -/
def x_A (s : State) : Nat → Prop := fun q => s.heap.size ≤ q
def x_tm (i : Nat) : Term := .string "WindHarp$Reader" (z_sidx.getD i 0)
set_option maxRecDepth 100000 in
theorem x_m1 : ∀ i, i < 11 → Cond.exactly (x_tm i) "java/lang/String" ∈ flatC (Jvm.Cond.and given_1 narrow_1) := by decide +kernel
set_option maxRecDepth 100000 in
theorem x_m2 : ∀ i, i < 11 → Cond.eq (.field (x_tm i) "java/lang/String" "coder" "B") (.int 0) ∈ flatC (Jvm.Cond.and given_1 narrow_1) := by decide +kernel
set_option maxRecDepth 100000 in
theorem x_m3 : ∀ i, i < 11 → Cond.arrayOf (.field (x_tm i) "java/lang/String" "value" "[B") .byte ∈ flatC (Jvm.Cond.and given_1 narrow_1) := by decide +kernel
set_option maxRecDepth 100000 in
theorem x_m4 : ∀ i, i < 11 → Cond.eq (.length (.field (x_tm i) "java/lang/String" "value" "[B")) (.int (Int32.ofNat (z_slen.getD i 0))) ∈ flatC (Jvm.Cond.and given_1 narrow_1) := by decide +kernel
set_option maxRecDepth 100000 in
theorem x_m5 : ∀ i, i < 11 → ∀ j, j < z_slen.getD i 0 → Cond.eq (.elem (.field (x_tm i) "java/lang/String" "value" "[B") (.int (Int32.ofNat j))) (.int ((z_sbyt.getD i []).getD j 0)) ∈ flatC (Jvm.Cond.and given_1 narrow_1) := by decide +kernel
set_option maxRecDepth 100000 in
theorem x_m6 : ∀ i, i < 11 → ∀ j, j < 11 → i ≠ j → Cond.not (Cond.eq (x_tm i) (x_tm j)) ∈ flatC (Jvm.Cond.and given_1 narrow_1) ∨ Cond.not (Cond.eq (x_tm j) (x_tm i)) ∈ flatC (Jvm.Cond.and given_1 narrow_1) := by decide +kernel
set_option maxRecDepth 100000 in
theorem x_m7 : ∀ i, i < 11 → Cond.stringRef "WindHarp$Reader" (z_sidx.getD i 0) (z_stx.getD i "") ∈ lw_tbl := by decide +kernel
set_option maxRecDepth 100000 in
theorem x_m8 : ∀ q ∈ y_nl, Cond.methodLinkNest q.1 q.2.1 q.2.2 "WindHarp" ∈ lw_tbl := by decide +kernel
set_option maxRecDepth 100000 in
theorem x_St {s : State} {b L : Nat} {xs : Nat → Int32} (hX : va_X b L xs s s.heap) (hbl : b < s.heap.size) (hL : L ≤ 260) (hts : ∀ w ∈ lw_tbl, w.before #[Value.ref b] s = true) (hgv : (Jvm.Cond.and given_1 narrow_1).before #[Value.ref b] s = true) : ∃ ad : Nat → Nat, (∀ k, k < 89 → ad k = s.heap.size + k) ∧ ad 1400 = b ∧ z_St (L, xs) (x_A s) ad s s.heap := by
  have hs := flat_of_before _ hgv
  have hA : ∀ a : Nat, a < s.heap.size → ¬ x_A s a := fun a h => Nat.not_le.mpr h
  obtain ⟨adK, adV, hV, hT⟩ := vk_Sof (args := #[Value.ref b]) (s := s) (N := 11) (tm := x_tm) (len := z_slen) (byt := z_sbyt) (A := x_A s) (by decide) (fun i hi => hs _ (x_m1 i hi)) (fun i hi => hs _ (x_m2 i hi)) (fun i hi => hs _ (x_m3 i hi)) (fun i hi => hs _ (x_m4 i hi)) (fun i hi j hj => hs _ (x_m5 i hi j hj)) (fun i j hi hj hn => (x_m6 i hi j hj hn).imp (fun h => hs _ h) (fun h => hs _ h)) hA
  have h1 : va_Z "java/lang/String" "COMPACT_STRINGS" "Z" (.int 1) (x_A s) s s.heap := va_Zof (hts _ (by decide +kernel)) (hts _ (by decide +kernel)) (va_eqt (hs (Cond.eq (.static "java/lang/String" "COMPACT_STRINGS" "Z") (.int 1)) (by decide +kernel))) hA
  have h2 : va_Zq "jdk/internal/util/Preconditions" "SIOOBE_FORMATTER" "Ljava/util/function/BiFunction;" (x_A s) s s.heap := va_Zqof (hts _ (by decide +kernel)) (hts _ (by decide +kernel)) (hs (Cond.isRef (.static "jdk/internal/util/Preconditions" "SIOOBE_FORMATTER" "Ljava/util/function/BiFunction;")) (by decide +kernel)) hA
  obtain ⟨fm, h3⟩ : ∃ fm : Nat, va_Z "jdk/internal/util/Preconditions" "SIOOBE_FORMATTER" "Ljava/util/function/BiFunction;" .null (x_A s) s s.heap ∨ va_Z "jdk/internal/util/Preconditions" "SIOOBE_FORMATTER" "Ljava/util/function/BiFunction;" (.ref fm) (x_A s) s s.heap := by
    rcases h2 with h | ⟨t, h⟩
    · exact ⟨0, Or.inl h⟩
    · exact ⟨t, Or.inr h⟩
  obtain ⟨ad, e0, e1, e2, e3, e4⟩ : ∃ ad : Nat → Nat, (∀ k, k < 89 → ad k = s.heap.size + k) ∧ (∀ i, i < 11 → ad (1000 + i) = adK i) ∧ (∀ i, i < 11 → ad (1100 + i) = adV i) ∧ ad 1200 = fm ∧ ad 1400 = b := by
    refine ⟨fun k => if k < 89 then s.heap.size + k else if k < 1011 then adK (k - 1000) else if k < 1111 then adV (k - 1100) else if k < 1300 then fm else b, fun k hk => if_pos hk, fun i hi => ?_, fun i hi => ?_, ?_, ?_⟩
    · show (if 1000 + i < 89 then _ else _) = _
      rw [if_neg (by omega), if_pos (by omega), show 1000 + i - 1000 = i by omega]
    · show (if 1100 + i < 89 then _ else _) = _
      rw [if_neg (by omega), if_neg (by omega), if_pos (by omega), show 1100 + i - 1100 = i by omega]
    · show (if 1200 < 89 then _ else _) = _
      rw [if_neg (by omega), if_neg (by omega), if_neg (by omega), if_pos (by omega)]
    · show (if 1400 < 89 then _ else _) = _
      rw [if_neg (by omega), if_neg (by omega), if_neg (by omega), if_neg (by omega)]
  refine ⟨ad, e0, e4, ⟨⟨fun i hi => ?_, fun i j hi hj h => ?_⟩, h1, by rw [e3]; exact h3, fun i hi => ?_⟩, by rw [e4]; exact hX, by rw [e4]; exact hbl, by rw [e4]; exact Nat.not_le.mpr hbl, hL⟩
  · have h := hV.1 i hi
    dsimp only
    rw [e1 i hi, e2 i hi]
    exact h
  · dsimp only at h
    rw [e1 i hi, e1 j hj] at h
    exact hV.2 i j hi hj h
  · rw [e1 i hi]
    exact vk_R.of (hts _ (x_m7 i hi)) (hT i hi)
set_option maxRecDepth 100000 in
theorem x_kn {s : State} {b : Nat} (hts : ∀ w ∈ z_tbl, w.before #[Value.ref b] s = true) : ∀ k : Nat, ∃ q : ClassId × (Nat → Nat), ∀ r : vw_C, vwCl[k]? = some r → u_Kn s r.1 r.2.1 r.2.2 q.1 q.2 := by
  intro k
  match k with
  | 0 => obtain ⟨c, iS, h⟩ := u_known (C := RX0) (T := TX0) (N := 6) (n := 6) hts clw_X0 (hts (Cond.instantiable RX0 6) (z_mem 264 _ (by decide +kernel))); exact ⟨(c, iS), fun r hr => by cases hr; exact h⟩
  | 1 => obtain ⟨c, iS, h⟩ := u_known (C := RX1) (T := TX1) (N := 2) (n := 2) hts clw_X1 (hts (Cond.instantiable RX1 2) (z_mem 252 _ (by decide +kernel))); exact ⟨(c, iS), fun r hr => by cases hr; exact h⟩
  | 2 => obtain ⟨c, iS, h⟩ := u_known (C := RX2) (T := TX2) (N := 4) (n := 4) hts clw_X2 (hts (Cond.instantiable RX2 4) (z_mem 168 _ (by decide +kernel))); exact ⟨(c, iS), fun r hr => by cases hr; exact h⟩
  | 3 => obtain ⟨c, iS, h⟩ := u_known (C := RX3) (T := TX3) (N := 4) (n := 4) hts clw_X3 (hts (Cond.instantiable RX3 4) (z_mem 231 _ (by decide +kernel))); exact ⟨(c, iS), fun r hr => by cases hr; exact h⟩
  | 4 => obtain ⟨c, iS, h⟩ := u_known (C := RX4) (T := TX4) (N := 7) (n := 7) hts clw_X4 (hts (Cond.instantiable RX4 7) (z_mem 42 _ (by decide +kernel))); exact ⟨(c, iS), fun r hr => by cases hr; exact h⟩
  | 5 => obtain ⟨c, iS, h⟩ := u_known (C := RX5) (T := TX5) (N := 4) (n := 4) hts clw_X5 (hts (Cond.instantiable RX5 4) (z_mem 74 _ (by decide +kernel))); exact ⟨(c, iS), fun r hr => by cases hr; exact h⟩
  | 6 => obtain ⟨c, iS, h⟩ := u_known (C := RX6) (T := TX6) (N := 7) (n := 7) hts clw_X6 (hts (Cond.instantiable RX6 7) (z_mem 101 _ (by decide +kernel))); exact ⟨(c, iS), fun r hr => by cases hr; exact h⟩
  | 7 => obtain ⟨c, iS, h⟩ := u_known (C := RX7) (T := TX7) (N := 4) (n := 4) hts clw_X7 (hts (Cond.instantiable RX7 4) (z_mem 144 _ (by decide +kernel))); exact ⟨(c, iS), fun r hr => by cases hr; exact h⟩
  | 8 => obtain ⟨c, iS, h⟩ := u_known (C := RX8) (T := TX8) (N := 8) (n := 8) hts clw_X8 (hts (Cond.instantiable RX8 8) (z_mem 95 _ (by decide +kernel))); exact ⟨(c, iS), fun r hr => by cases hr; exact h⟩
  | 9 => obtain ⟨c, iS, h⟩ := u_known (C := RX9) (T := TX9) (N := 13) (n := 13) hts clw_X9 (hts (Cond.instantiable RX9 13) (z_mem 34 _ (by decide +kernel))); exact ⟨(c, iS), fun r hr => by cases hr; exact h⟩
  | k + 10 => exact ⟨(0, fun _ => 0), fun r hr => by simp [vwCl] at hr⟩
set_option maxRecDepth 100000 in
theorem x_K {s : State} {b : Nat} (hts : ∀ w ∈ z_tbl, w.before #[Value.ref b] s = true) : ∃ (D : va_G) (cA : Nat → ClassId), va_K D vwCl (z_tys cA) s := by
  obtain ⟨f, hf⟩ := Classical.axiomOfChoice (x_kn hts)
  obtain ⟨c0, k0, p0, a1, a2, a3⟩ := Cond.arrayClass_spec (hts (Cond.arrayClass .int) (z_mem 93 _ (by decide +kernel)))
  obtain ⟨c1, k1, p1, b1, b2, b3⟩ := Cond.arrayClass_spec (hts (Cond.arrayClass .byte) (z_mem 72 _ (by decide +kernel)))
  obtain ⟨c2, k2, p2, d1, d2, d3⟩ := Cond.arrayClass_spec (hts (Cond.arrayClass .boolean) (z_mem 92 _ (by decide +kernel)))
  refine ⟨(fun k => (f k).1, fun k => (f k).2), fun t => if t = 0 then c0 else if t = 1 then c1 else c2, fun k q hq => hf k q hq, fun k q hq => ?_⟩
  match k, hq with
  | 0, hq => cases hq; exact ⟨fun n z => ⟨fun k h => (by cases h), k0, a2, p0, a3⟩, a1⟩
  | 1, hq => cases hq; exact ⟨fun n z => ⟨fun k h => (by cases h), k1, b2, p1, b3⟩, b1⟩
  | 2, hq => cases hq; exact ⟨fun n z => ⟨fun k h => (by cases h), k2, d2, p2, d3⟩, d1⟩
  | k + 3, hq => simp [z_tys] at hq
theorem x_off : ∀ k, k < 89 → ∀ j, j < (z_fo (z_kd k).1).length → k + (z_fo (z_kd k).1).getD j 0 < 89 := by decide +kernel
theorem x_E {cA : Nat → ClassId} {ad : Nat → Nat} {B k : Nat} {σ : zM} (hk : k < 89) (h : ∀ k, k < 89 → ad k = B + k) : z_E cA ad σ k = z_E cA (fun a => B + a) σ k := by
  unfold z_E
  by_cases hc : (z_kd k).1 < 100
  · rw [if_pos hc, if_pos hc]
    congr 2
    refine List.map_congr_left fun j hj => ?_
    rw [List.mem_range] at hj
    rw [h _ (x_off k hk j hj)]
  · rw [if_neg hc, if_neg hc]
theorem x_P {D : va_G} {cA : Nat → ClassId} {ad : Nat → Nat} {B : Nat} {w : Nat → va_E} {H : Heap} (h : ∀ k, k < 89 → ad k = B + k) (hP : y_P D B 0 89 w H) (hw : ∀ i, i < 89 → w i = y_E cA B i) : va_P D vwCl (z_W 0 cA ad q_s0) H := by
  intro i q hq
  unfold z_W at hq
  rw [List.getElem?_map] at hq
  cases e : (z_ix 0)[i]? with
  | none => rw [e] at hq; cases hq
  | some k =>
    rw [e] at hq
    cases hq
    have hk : k < 89 := by
      have := (z_ix_out e).1
      unfold z_here at this
      omega
    show va_at D vwCl (ad k, z_E cA ad q_s0 k) H
    rw [x_E hk h, h k hk]
    have := hP.2 k (Nat.zero_le k) hk
    rw [hw k hk] at this
    exact this
/-! ===== the first memory: all is zero, and no row is there ===== -/
theorem q_s0_z {c : Nat} (h : c ≠ 90) (j : Nat) : q_s0 c j = 0 := by
  rw [q_s0, if_neg (fun q => h q.1)]
theorem q_s0_r {r : Nat} (h : r < 8) : q_s0 90 r = -1 := by
  rw [q_s0, if_pos ⟨rfl, h⟩]
theorem q_s0_okm : z_okm q_s0 := by
  intro k j _
  unfold q_s0
  split <;> exact ⟨by omega, by omega⟩
theorem q_n0 (t : Nat) : ¬ (t : Int) < 0 := by omega
theorem q_Wok_0 : q_Wok (fun _ => 0) (fun _ => 0) 0 :=
  ⟨⟨⟨by decide, by decide, by decide, by decide, by decide⟩, fun t h => absurd h (q_n0 t), fun t h => absurd h (q_n0 t), fun t h => absurd h (q_n0 t)⟩, fun t h => absurd h (q_n0 t), by decide, fun h => absurd h (by decide)⟩
theorem q_W_0 {b : Nat} (hb : b < 70) : q_W q_s0 b (fun _ => 0) (fun _ => 0) 0 := by
  have z : ∀ i j, i ≤ 16 → q_s0 (b + i) j = 0 := fun i j h => q_s0_z (by omega) j
  have y : ∀ j, q_s0 b j = 0 := fun j => q_s0_z (by omega) j
  exact ⟨⟨⟨⟨z 1 6 (by omega), by decide, by decide⟩, ⟨z 8 3 (by omega), by decide, by decide⟩, ⟨y 4, by decide, by decide⟩, y 5, y 6, ⟨z 12 3 (by omega), by decide, by decide⟩⟩, fun t _ h => absurd h (q_n0 t), fun t _ h => absurd h (q_n0 t), fun t h => absurd h (q_n0 t)⟩, fun t h => absurd h (q_n0 t), y 7⟩
theorem q_s0_f {c : Nat} (h : c ≠ 90) : q_s0 c = fun _ => 0 := funext (q_s0_z h)
theorem q_s0_kw (k : Nat) : q_kw q_s0 k = fun _ => 0 := funext fun _ => q_s0_z (by decide) _
theorem q_s0_ko (k : Nat) : q_ko q_s0 k = fun _ => 0 := funext fun _ => q_s0_z (by decide) _
theorem q_s0_ok : q_R2 q_s0 q_s0 ∧ q_mok q_s0 := by
  have z : ∀ c j, c ≠ 90 → q_s0 c j = 0 := fun c j h => q_s0_z h j
  refine ⟨⟨fun r hr => ?_, ⟨by rw [z _ _ (by decide), z _ _ (by decide)], by rw [z _ _ (by decide), z _ _ (by decide)]⟩, ⟨by rw [z _ _ (by decide), z _ _ (by decide)], fun j h => ?_⟩, ⟨by rw [z _ _ (by decide), z _ _ (by decide)], fun j h => ?_⟩, ?_, fun k hk => ?_⟩, fun r hr => ?_, ?_, fun k hk => ?_, ⟨?_, fun j h => ?_⟩, ?_⟩
  · rw [q_s0_r hr]
    exact ⟨by rw [z _ _ (by decide)]; rfl, fun h => absurd h (by decide)⟩
  · rw [z _ _ (by decide)] at h
    exact absurd h (q_n0 j)
  · rw [z _ _ (by decide)] at h
    exact absurd h (q_n0 j)
  · unfold q_rwood
    rw [q_s0_f (show 93 ≠ 90 by decide), q_s0_f (show 95 ≠ 90 by decide), z 89 7 (by decide)]
    exact q_W_0 (by decide)
  · rw [q_s0_kw, q_s0_ko, z 104 k (by decide)]
    exact q_W_0 (by omega)
  · rw [q_s0_r hr, z _ _ (by decide)]
    exact ⟨⟨by decide, by decide⟩, by decide, by decide⟩
  · rw [q_s0_f (show 93 ≠ 90 by decide), q_s0_f (show 95 ≠ 90 by decide), z 89 7 (by decide)]
    exact q_Wok_0
  · rw [q_s0_kw, q_s0_ko, z 104 k (by decide)]
    exact ⟨q_Wok_0, fun h => absurd h (by decide)⟩
  · rw [z _ _ (by decide)]; exact ⟨by decide, by decide⟩
  · rw [z _ _ (by decide)] at h
    exact absurd h (q_n0 j)
  · rw [z _ _ (by decide)]; exact ⟨by decide, by decide⟩

