/-! ===== the law's own machine: the world of 108 cells, the script beside it, four locals ===== -/
def x_A (s : State) : Nat → Prop := fun q => s.heap.size ≤ q
def x_l (b : Nat) (ad : Nat → Nat) (i : Nat) : List (Nat × Value) := [(0, .ref b), (1, .ref (ad 0)), (2, .ref (ad 89)), (3, .int (Int32.ofInt (i : Int)))]
def x_C (p : Program) (s : State) (m : MethodId) (c : Code) (D : va_G) (cA : Nat → ClassId) (ad : Nat → Nat) (b L : Nat) (xs : Nat → Int32) : Prop :=
  p.tables.exec = Jvm.exec ∧ c.code = cL_law ∧ c.maxLocals = 4 ∧ s.vm.findClass RL = some m.cls ∧ (∀ w ∈ z_tbl, w.before #[Value.ref b] s = true) ∧ va_K D vwCl (z_tys cA) s ∧ z_inj ad ∧ z_St ad s s.heap ∧ va_X b L xs s s.heap ∧ b < s.heap.size ∧ (∀ k, k < 108 → s.heap.size ≤ ad k) ∧ L ≤ 3584
def x_W (p : Program) (l : Launch) (e : Env) (s : State) (m : MethodId) (below : List Frame) (meth : Method) (c : Code) (Q : State → Prop) (b : Nat) (pc : Nat) (ls : Array Slot) (st : List Value) (H : Heap) (locs : List Loc) : Prop := W p l e room_1 s m #[Value.ref b] below meth c H locs 108 4126 Q (F0 m pc ls st)
def x_X (p : Program) (l : Launch) (e : Env) (s : State) (m : MethodId) (below : List Frame) (meth : Method) (c : Code) (Q : State → Prop) (D : va_G) (cA : Nat → ClassId) (ad : Nat → Nat) (b : Nat) (pc i : Nat) (σ : zM) : Prop :=
  ∀ (H : Heap) (locs : List Loc) (ls : Array Slot), va_P D vwCl (z_W cA ad σ) H → va_S (x_A s) s.heap H locs → lv_has ls 4 (x_l b ad i) → W p l e room_1 s m #[Value.ref b] below meth c H locs 108 4126 Q (F0 m pc ls [])
theorem q_S10_mono {G : zM → Int} {F : zM → zM} {σ : zM} {v : Int} {P : zM → Prop} (h : q_S10 G F σ (fun r σ2 => r = some (.inl v) ∧ P σ2)) : q_S10 G F σ (fun r σ2 => ∃ w, r = some (.inl w) ∧ w = v ∧ P σ2) :=
  ⟨h.1, fun σ' h1 h2 => ⟨_, rfl, by have q := (h.2 σ' h1 h2).1; cases q; rfl, (h.2 σ' h1 h2).2⟩⟩
theorem q_pair2 {G : zM → Int} {F : zM → zM} (hF : ∀ σ, q_mok σ → q_mok (F σ)) {σ : zM} (h : q_R2 σ σ ∧ q_mok σ) : q_S9 G F σ (fun r σ1 => ∃ v, r = some (.inl v) ∧ q_S10 G F σ1 (fun r σ2 => ∃ w, r = some (.inl w) ∧ w = v ∧ (q_R2 σ2 σ2 ∧ q_mok σ2))) :=
  q_pair hF h (fun v σ1 q => ⟨v, rfl, q_S10_mono q⟩)
section YL
variable {p : Program} {l : Launch} {e : Env} {s : State} {m : MethodId} {below : List Frame} {meth : Method} {c : Code} {Q : State → Prop} {D : va_G} {cA : Nat → ClassId} {ad : Nat → Nat} {b L : Nat} {xs : Nat → Int32} {H : Heap} {locs : List Loc} {ls : Array Slot} {rest : List Value} {i : Nat} {σ : zM}
theorem x_get (C : x_C p s m c D cA ad b L xs) {pc j : Nat} (d3 : decode cL_law pc = .ok (.iadd, 1)) (d4 : decode cL_law (pc + 1) = .ok (.iaload, 1)) (hS : va_S (x_A s) s.heap H locs) (hi : i + j < L)
    (kk : W p l e room_1 s m #[Value.ref b] below meth c H locs 108 4126 Q (F0 m (pc + 2) ls (.int (xs (i + j)) :: rest))) : W p l e room_1 s m #[Value.ref b] below meth c H locs 108 4126 Q (F0 m pc ls (.int (Int32.ofInt (j : Int)) :: .int (Int32.ofInt (i : Int)) :: .ref b :: rest)) := by
  obtain ⟨hx, hb, hml, hown, hts, hK, hin, hE, hX, hbl, had, hL⟩ := C
  refine lv_iadd hx hb d3 ?_
  have e1 : Int32.ofInt (i : Int) + Int32.ofInt (j : Int) = Int32.ofInt ((i + j : Nat) : Int) := by
    rw [← Int32.ofInt_add]; rfl
  rw [e1]
  have hz : z_in ((i + j : Nat) : Int) := z_inN (by omega)
  refine va_sld hx hb hX hbl (Nat.not_le.mpr hbl) hS (z_vin hz (by omega) (by omega)) d4 ?_
  rw [z_clamp hz, Int.toNat_natCast]
  exact kk
theorem x_f (C : x_C p s m c D cA ad b L xs) {pc j : Nat} (hl : lv_has ls 4 (x_l b ad i)) (hS : va_S (x_A s) s.heap H locs) (hi : i + j < L) (d0 : decode cL_law pc = .ok (.aload_n 0, 1)) (d1 : decode cL_law (pc + 1) = .ok (.iload_n 3, 1)) (d2 : decode cL_law (pc + 2) = .ok (.iconst (j : Int), 1)) (d3 : decode cL_law (pc + 3) = .ok (.iadd, 1)) (d4 : decode cL_law (pc + 4) = .ok (.iaload, 1))
    (kk : W p l e room_1 s m #[Value.ref b] below meth c H locs 108 4126 Q (F0 m (pc + 5) ls (.int (xs (i + j)) :: rest))) : W p l e room_1 s m #[Value.ref b] below meth c H locs 108 4126 Q (F0 m pc ls rest) := by
  refine lv_aload_n C.1 C.2.1 d0 rfl (lv_at hl 0 rfl) ?_
  refine lv_iload_n C.1 C.2.1 d1 rfl (lv_at hl 3 rfl) ?_
  refine lv_iconst C.1 C.2.1 d2 rfl ?_
  exact x_get C d3 d4 hS hi kk
theorem x_f6 (C : x_C p s m c D cA ad b L xs) {pc : Nat} (hl : lv_has ls 4 (x_l b ad i)) (hS : va_S (x_A s) s.heap H locs) (hi : i + 6 < L) (d0 : decode cL_law pc = .ok (.aload_n 0, 1)) (d1 : decode cL_law (pc + 1) = .ok (.iload_n 3, 1)) (d2 : decode cL_law (pc + 2) = .ok (.bipush 6, 2)) (d3 : decode cL_law (pc + 4) = .ok (.iadd, 1)) (d4 : decode cL_law (pc + 5) = .ok (.iaload, 1))
    (kk : W p l e room_1 s m #[Value.ref b] below meth c H locs 108 4126 Q (F0 m (pc + 6) ls (.int (xs (i + 6)) :: rest))) : W p l e room_1 s m #[Value.ref b] below meth c H locs 108 4126 Q (F0 m pc ls rest) := by
  refine lv_aload_n C.1 C.2.1 d0 rfl (lv_at hl 0 rfl) ?_
  refine lv_iload_n C.1 C.2.1 d1 rfl (lv_at hl 3 rfl) ?_
  refine lv_bipush (v := Int32.ofInt ((6 : Nat) : Int)) C.1 C.2.1 d2 (by decide) ?_
  exact x_get C d3 d4 hS hi kk
theorem x_call (C : x_C p s m c D cA ad b L xs) {pc ix : Nat} {y : MethodName} {bytes : ByteArray} {maxL fr lo n c0 k0 : Nat} {S : zS} {T0 : u_T} {N0 : Nat} (d : decode cL_law pc = .ok (.invokevirtual ix, 3)) (hok : z_OK l y bytes maxL (some .int) fr lo S) (hc0 : z_Cls c0 y.cls T0 N0) (hw1 : Cond.methodLink RL ix y ∈ z_tbl) (hw2 : Cond.instanceMethod y ∈ z_tbl) (hw5 : Cond.selects y.cls y y ∈ z_tbl) (hw3 : Cond.initialized y.cls ∈ z_tbl) (hw4 : Cond.code y bytes maxL (some .int) ∈ z_tbl)
    (hd : y.cls ≠ "java/lang/invoke/MethodHandle" ∧ y.cls ≠ "java/lang/invoke/VarHandle" ∧ (parseMethodDescriptor y.desc).map (fun d => d.parameters.length) = some n) (hR : fr + 1 ≤ room_1.frames ∧ 8 + (maxL + 11) + lo ≤ room_1.locals)
    {as : List zV} {As : List Value} {K : Int → zM → Prop} (hAs : as.map (z_val ad) = As) (hn1 : As.length = n) (hk : z_kd k0 = (c0, 0)) (h4 : (rest.map fun v => v.category).sum ≤ 8) (hs : z_oks as) (hσ : z_okm σ) (h : S (.inr (.inr (c0, 0, k0)) :: as) σ (fun r σ' => ∃ v, r = some (.inl v) ∧ K v σ'))
    (hP : va_P D vwCl (z_W cA ad σ) H) (hS : va_S (x_A s) s.heap H locs) (hsz : ls.size = 4)
    (kk : ∀ (v : Int) (σ' : zM) (H1 : Heap) (locs1 : List Loc), K v σ' → z_okm σ' → va_P D vwCl (z_W cA ad σ') H1 → va_S (x_A s) s.heap H1 locs1 → W p l e room_1 s m #[Value.ref b] below meth c H1 locs1 108 4126 Q (F0 m (pc + 3) ls (.int (Int32.ofInt v) :: rest))) : W p l e room_1 s m #[Value.ref b] below meth c H locs 108 4126 Q (F0 m pc ls (As.reverse ++ .ref (ad k0) :: rest)) := by
  obtain ⟨hx, hb, hml, hown, hts, hK, hi, hE, hX, hbl, had, hL⟩ := C
  subst hAs
  obtain ⟨hc9, hcl, hin, -, -, hlen⟩ := hc0
  have h5 : ¬ c0 = 250 := by omega
  have ev : z_val ad (.inr (.inr (c0, 0, k0))) = .ref (ad k0) := by simp only [z_val, if_neg h5]
  have hM := hok D cA ad _ σ _ hi (z_oks_cons (v := .inr (.inr (c0, 0, k0))) hk hs) hσ h
  rw [List.map_cons, ev] at hM
  have hr := va_runV (l := l) (e := e) (below := below) (meth := meth) (H := H) (locs := locs) (cells := 108) (slots := 4126) (g := F0 m pc ls ((as.map (z_val ad)).reverse ++ .ref (ad k0) :: rest)) (As := as.map (z_val ad)) (rest := rest) (b := ad k0) (C := y.cls) ⟨hx, hb, hml, hown, hts⟩ hM ⟨⟨rfl, rfl, hR.1, hR.2, pay_in (big := z_tbl) hts (z_good (fun w hw => by rcases List.mem_cons.mp hw with rfl | hw; exact hw4; exact hw)), List.mem_cons_self, hts _ hw4, hts _ hw3, ⟨hd.1, hd.2.1⟩, fun sig hsg => by have h2 := hd.2.2; rw [hsg] at h2; exact (Option.some.inj h2).symm, hts _ hw1⟩, hts _ hw2, hts _ hw5⟩
    ⟨fun a U g mk q => ⟨q.1, q.2.1, va_K.moved (u := U) (U := U.calling g mk a) (Vm.Alike.refl U.vm) q.2.2.1, z_St.same (U := U.calling g mk a) (s := U) rfl q.2.2.2⟩, va_recv hK hP hcl (z_obj hk hc9), fun U hU hW => ⟨rfl, by rw [hU]; exact hP, va_K.moved hW.alike hK, z_St.to hW hE (by rw [hU]; exact fun a h1 _ => hS.2.1 a h1 (Nat.not_le.mpr h1))⟩⟩ rfl hn1 hsz rfl (lv_room h4) d ⟨Nat.le_refl _, Nat.le_refl _⟩
  intro T hT X
  obtain ⟨v, st₀, t, T', L2, h0, X', hL2, e1, e2, ⟨⟨r, σ', hv, ⟨w, hrw, hKw⟩, hr1, hσ1, hP1⟩, hz, hk1⟩, st⟩ := hr T hT X
  cases hv
  subst hrw
  rw [h0] at hz hk1
  have hA9 : ∀ q, z_A ad q → x_A s q := fun q ⟨k, g1, g2⟩ => by rw [g2]; exact had k g1
  obtain ⟨t2, a1, b1⟩ := kk w σ' T'.heap (locs ++ L2) hKw hσ1 (by rw [e1]; exact hP1)
    ⟨Nat.le_trans hS.1 (by rw [e1]; exact hz), fun q h1 h2 => by rw [e1, hk1 q (Nat.lt_of_lt_of_le h1 hS.1) (fun g => h2 (hA9 q g))]; exact hS.2.1 q h1 h2, fun q hq => by
      rcases List.mem_append.mp hq with h | h
      · exact hS.2.2 q h
      · exact hA9 _ (hL2 q h)⟩ T' rfl X'
  exact ⟨t2, st t2 a1, b1⟩
theorem x_oki {ys : List Int32} : z_oks (ys.map (fun y => .inl y.toInt)) := by
  intro v hv
  obtain ⟨y, -, rfl⟩ := List.mem_map.mp hv
  exact z_in32 y
theorem x_vali {ys : List Int32} : (ys.map (fun y => (.inl y.toInt : zV))).map (z_val ad) = ys.map (fun y => Value.int y) := by
  rw [List.map_map]
  refine List.map_congr_left fun y _ => ?_
  show Value.int (Int32.ofInt y.toInt) = _
  rw [z_of32]
end YL
