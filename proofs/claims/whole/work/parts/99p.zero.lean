/-! ===== the first memory: all is zero, and no row is there ===== -/
theorem q_s0_z {c : Nat} (h : c ≠ 90) (j : Nat) : q_s0 c j = 0 := by
  rw [q_s0, if_neg (fun q => h q.1)]
theorem q_s0_r {r : Nat} (h : r < 8) : q_s0 90 r = -1 := by
  rw [q_s0, if_pos ⟨rfl, h⟩]
theorem q_s0_okm : z_okm q_s0 := by
  intro k j
  unfold q_s0
  split <;> exact ⟨by omega, by omega⟩
theorem q_n0 (t : Nat) : ¬ (t : Int) < 0 := by omega
theorem q_Wok_0 : q_Wok (fun _ => 0) (fun _ => 0) 0 :=
  ⟨⟨⟨by decide, by decide, by decide, by decide, by decide⟩, fun t h => absurd h (q_n0 t), fun t h => absurd h (q_n0 t), fun t h => absurd h (q_n0 t)⟩, fun t h => absurd h (q_n0 t), by decide, fun h => absurd h (by decide)⟩
theorem q_W_0 {b : Nat} (hb : b < 70) : q_W q_s0 b (fun _ => 0) (fun _ => 0) 0 := by
  have z : ∀ i j, i ≤ 16 → q_s0 (b + i) j = 0 := fun i j h => q_s0_z (by omega) j
  have y : ∀ j, q_s0 b j = 0 := fun j => q_s0_z (by omega) j
  exact ⟨⟨⟨⟨z 1 6 (by omega), by decide, by decide⟩, ⟨z 8 3 (by omega), by decide, by decide⟩, ⟨y 4, by decide, by decide⟩, y 5, y 6, ⟨z 12 3 (by omega), by decide, by decide⟩⟩, fun t _ h => absurd h (q_n0 t), fun t _ h => absurd h (q_n0 t), fun t h => absurd h (q_n0 t)⟩, fun t h => absurd h (q_n0 t), y 7⟩
theorem q_s0_f {c : Nat} (h : c ≠ 90) : q_s0 c = fun _ => 0 := funext (q_s0_z h)
theorem q_s0_kw (k : Nat) : q_kw q_s0 k = fun _ => 0 := funext fun _ => q_s0_z (by decide) _
theorem q_s0_ko (k : Nat) : q_ko q_s0 k = fun _ => 0 := funext fun _ => q_s0_z (by decide) _
theorem q_s0_ok : q_R2 q_s0 q_s0 ∧ q_mok q_s0 := by
  have z : ∀ c j, c ≠ 90 → q_s0 c j = 0 := fun c j h => q_s0_z h j
  refine ⟨⟨fun r hr => ?_, ⟨by rw [z _ _ (by decide), z _ _ (by decide)], by rw [z _ _ (by decide), z _ _ (by decide)]⟩, ⟨by rw [z _ _ (by decide), z _ _ (by decide)], fun j h => ?_⟩, ⟨by rw [z _ _ (by decide), z _ _ (by decide)], fun j h => ?_⟩, ?_, fun k hk => ?_⟩, fun r hr => ?_, ?_, fun k hk => ?_, ⟨?_, fun j h => ?_⟩, ?_⟩
  · rw [q_s0_r hr]
    exact ⟨by rw [z _ _ (by decide)]; rfl, fun h => absurd h (by decide)⟩
  · rw [z _ _ (by decide)] at h
    exact absurd h (q_n0 j)
  · rw [z _ _ (by decide)] at h
    exact absurd h (q_n0 j)
  · unfold q_rwood
    rw [q_s0_f (show 93 ≠ 90 by decide), q_s0_f (show 95 ≠ 90 by decide), z 89 7 (by decide)]
    exact q_W_0 (by decide)
  · rw [q_s0_kw, q_s0_ko, z 104 k (by decide)]
    exact q_W_0 (by omega)
  · rw [q_s0_r hr, z _ _ (by decide)]
    exact ⟨⟨by decide, by decide⟩, by decide, by decide⟩
  · rw [q_s0_f (show 93 ≠ 90 by decide), q_s0_f (show 95 ≠ 90 by decide), z 89 7 (by decide)]
    exact q_Wok_0
  · rw [q_s0_kw, q_s0_ko, z 104 k (by decide)]
    exact ⟨q_Wok_0, fun h => absurd h (by decide)⟩
  · rw [z _ _ (by decide)]; exact ⟨by decide, by decide⟩
  · rw [z _ _ (by decide)] at h
    exact absurd h (q_n0 j)
  · rw [z _ _ (by decide)]; exact ⟨by decide, by decide⟩
