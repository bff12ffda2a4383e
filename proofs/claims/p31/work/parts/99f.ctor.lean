/-! ===== the making of the world: cells stand one behind the other from B on ===== -/
def q_s0 : zM := fun a j => if a = 90 ∧ j < 8 then -1 else 0
def y_E (cA : Nat → ClassId) (B k : Nat) : va_E := z_E cA (fun a => B + a) q_s0 k
def y_P (D : va_G) (B a n : Nat) (e : Nat → va_E) (H : Heap) : Prop := H.size = B + n ∧ ∀ i, a ≤ i → i < n → va_at D vwCl (B + i, e i) H
def y_e (cA : Nat → ClassId) (B k c : Nat) (fs : List Value) : Nat → va_E := fun i => if i = k then .inr (c, fs) else y_E cA B i
def y_fr (c : Nat) : List Value := (z_fo c).map (fun o => if o = 0 then .int 0 else .null)
def y_nl : List (String × Nat × MethodName) := [(RX9, 9, yX4_init), (RX9, 18, yX5_init), (RX9, 25, yX8_init), (RX9, 41, yX2_init), (RX9, 48, yX3_init), (RX9, 55, yX1_init), (RX9, 62, yX0_init), (RX8, 11, yX6_init), (RX8, 20, yX7_init), (RX8, 27, yX2_init)]
def y_N (U : State) : Prop := ∀ q ∈ y_nl, va_Nw (.methodLinkNest q.1 q.2.1 q.2.2 "WindHarp") U
theorem y_N.same {u U : State} (h : u.vm = U.vm) (hN : y_N u) : y_N U := fun q hq => va_Nw.same rfl h (hN q hq)
theorem y_N.warm {s U : State} (hW : s.WarmedH U.vm) (hN : y_N s) : y_N U := fun q hq => va_Nw.warmM hW (hN q hq)
theorem y_P.congr {D : va_G} {B a n : Nat} {e e' : Nat → va_E} {H : Heap} (h : y_P D B a n e H) (he : ∀ i, a ≤ i → i < n → e i = e' i) : y_P D B a n e' H := ⟨h.1, fun i h1 h2 => by rw [← he i h1 h2]; exact h.2 i h1 h2⟩
section YC
variable {p : Program} {l : Launch} {e : Env} {R : Room} {s : State} {m : MethodId} {args : Array Value} {below : List Frame} {meth : Method} {c : Code} {H : Heap} {locs : List Loc} {cells slots : Nat} {Q : State → Prop}
variable {cc : ByteArray} {pc : Nat} {ls : Array Slot} {rest : List Value} {D : va_G} {A : Nat → Prop} {cA : Nat → ClassId} {H0 : Heap} {B a n : Nat} {w : Nat → va_E}
theorem y_na {t : Nat} {ty : FieldType} {atype : ArrayType} (hexec : p.tables.exec = Jvm.exec) (hb : c.code = cc) (harr : (Cond.arrayClass (newarray.typeOf atype)).before args s = true) (hty : newarray.typeOf atype = ty) (hq : ty = .int ∨ ty = .byte ∨ ty = .boolean) (ht : (z_tys cA)[t]? = some (cA t, ty)) (hK : va_K D vwCl (z_tys cA) s) (hP : y_P D B a n w H) (hS : va_S A H0 H locs) {x : Int32} {N : Nat} (hn : ¬ x < 0) (hN : x.toNatClampNeg = N) (hbytes : N * componentBytes ty ≤ 536870912) (hcells : cells + 1 ≤ R.cells) (hslots : slots + N ≤ R.slots) (hdg : decode cc pc = .ok (.newarray atype, 2))
    (kk : ∀ H1 : Heap, y_P D B a (n + 1) (fun i => if i = n then .inl (cA t, N, .inl (fun _ => 0)) else w i) H1 → va_S A H0 H1 locs → W p l e R s m args below meth c H1 locs (cells + 1) (slots + N) Q (F0 m (pc + 2) ls (.ref (B + n) :: rest))) : W p l e R s m args below meth c H locs cells slots Q (F0 m pc ls (.int x :: rest)) := by
  subst hty
  refine va_newaK hexec hb harr rfl hdg rfl hn hN hbytes hcells hslots hP.1 fun H1 c1 e1 z1 o1 hAr hNm => ?_
  have hc1 : c1 = cA t := by
    have h2 := (hK.2 t _ ht).2
    rcases hq with q | q | q <;> rw [q] at h2 hNm <;> exact Option.some.inj (hNm.symm.trans h2)
  subst hc1
  have hd : defaultValue (newarray.typeOf atype) = .int 0 := by rcases hq with q | q | q <;> rw [q] <;> rfl
  refine kk H1 ⟨by rw [z1]; omega, fun i h1 h2 => ?_⟩ ⟨Nat.le_trans hS.1 (by rw [z1, hP.1]; omega), fun q h1 h2 => ?_, hS.2.2⟩
  · dsimp only
    by_cases hi : i = n
    · subst hi
      rw [if_pos rfl]
      show H1[B + i]? = some (vp_cell _ _)
      rw [vp_cell_i, e1, hd]
    · rw [if_neg hi]
      refine (hP.2 i h1 (by omega)).kept (o1 _ ?_)
      show B + i < B + n
      omega
  · rw [o1 q (by have := hS.1; rw [hP.1] at this; omega)]
    exact hS.2.1 q h1 h2
theorem y_nw {C own : String} {T : u_T} {N ci index : Nat} {ty : Nat → FieldType} (hexec : p.tables.exec = Jvm.exec) (hb : c.code = cc) (hts : ∀ v ∈ z_tbl, v.before args s = true) (hcl : z_Cls ci C T N) (hty : ∀ k, k < N → parseFieldDescriptor (T k).2.2.1 = some (ty k)) (hfs : ∀ j, j < N → defaultValue (ty j) = vp_V (y_fr ci) j) (hown : s.vm.findClass own = some m.cls) (hw1 : Cond.classLink own index C ∈ z_tbl) (hw2 : Cond.instantiable C N ∈ z_tbl) (hw3 : Cond.initialized C ∈ z_tbl)
    (hK : va_K D vwCl (z_tys cA) s) (hP : y_P D B a n w H) (hS : va_S A H0 H locs) (hcells : cells + 1 ≤ R.cells) (hslots : slots + N ≤ R.slots) (hdg : decode cc pc = .ok (.new index, 3))
    (kk : ∀ H1 : Heap, y_P D B a (n + 1) (fun i => if i = n then .inr (ci, y_fr ci) else w i) H1 → va_S A H0 H1 locs → W p l e R s m args below meth c H1 locs (cells + 1) (slots + N) Q (F0 m (pc + 3) ls (.ref (B + n) :: rest))) : W p l e R s m args below meth c H locs cells slots Q (F0 m pc ls rest) := by
  obtain ⟨hc9, hcv, hin, -, -, hlen⟩ := hcl
  have hKn := hK.1 ci _ hcv
  refine W.newcK hexec hb hown (hts _ hw1) (hts _ hw2) (hts _ hw3) rfl hdg hcells hslots hKn.2.1 hP.1 fun H1 kC hkC e1 z1 o1 => ?_
  refine kk H1 ⟨by rw [z1]; omega, fun i h1 h2 => ?_⟩ ⟨Nat.le_trans hS.1 (by rw [z1, hP.1]; omega), fun q h1 h2 => ?_, hS.2.2⟩
  · dsimp only
    by_cases hi : i = n
    · subst hi
      rw [if_pos rfl]
      exact ⟨_, hcv, (u_born ty hts hin hKn hkC e1 hty).to hfs⟩
    · rw [if_neg hi]
      refine (hP.2 i h1 (by omega)).kept (o1 _ ?_)
      show B + i < B + n
      omega
  · rw [o1 q (by have := hS.1; rw [hP.1] at this; omega)]
    exact hS.2.1 q h1 h2
theorem y_pf {C : String} {T : u_T} {N ci index k j : Nat} {fs : List Value} {ty : FieldType} {v : Value} (hexec : p.tables.exec = Jvm.exec) (hb : c.code = cc) (hts : ∀ x ∈ z_tbl, x.before args s = true) (hcl : z_Cls ci C T N) (hown : s.vm.findClass C = some m.cls) (hK : va_K D vwCl (z_tys cA) s) (hP : y_P D B a n w H) (hS : va_S A H0 H locs) (hA : ∀ q, B + a ≤ q → A q) (hka : a ≤ k) (hkn : k < n) (he : w k = .inr (ci, fs)) (hj : j < N) (hl : j < fs.length) (hw : Cond.fieldLink C index (T j).1 (T j).2.1 (T j).2.2.1 ∈ z_tbl) (hfin : (T j).2.2.2 = true) (hin2 : meth.name = "<init>") (hdecl : (T j).1 = C) (hd : parseFieldDescriptor (T j).2.2.1 = some ty) (hn : narrow ty v = v) (hfit : fits ty v = true) (hdg : decode cc pc = .ok (.putfield index, 3))
    (kk : ∀ (H1 : Heap) (locs1 : List Loc), y_P D B a n (fun i => if i = k then .inr (ci, fs.set j v) else w i) H1 → va_S A H0 H1 locs1 → W p l e R s m args below meth c H1 locs1 cells slots Q (F0 m (pc + 3) ls rest)) : W p l e R s m args below meth c H locs cells slots Q (F0 m pc ls (v :: .ref (B + k) :: rest)) := by
  obtain ⟨hc9, hcv, hin, ⟨ty0, hty0⟩, hnm, hlen⟩ := hcl
  have hap := va_apart (own := C) hts hin ty0 hty0 hnm hK hcv
  have h0 := hP.2 k hka hkn
  rw [he] at h0
  obtain ⟨r, h1, cell, q1, q2, q3, q4⟩ := h0
  have hr : r = (C, T, N) := Option.some.inj (h1.symm.trans hcv)
  subst hr
  obtain ⟨hSl, hfc, kC, hkC, hkind⟩ := hK.1 ci _ hcv
  obtain ⟨cf, kf, fi, f, hi, hsl⟩ := hSl j hj
  have hlay := hts _ (hin _ (u_in_lay hj))
  unfold u_lay at hlay
  rw [if_pos hfin] at hlay
  have hst := (u_facts hfc hkC (u_lays hts hin hj) hi).1
  have hcf : m.cls = cf := by
    obtain ⟨_, _, c', _, _, _, -, -, hf', -, -, -, hown2, -⟩ := Cond.laysFinal_spec hlay
    have e1 : c' = cf := by have := hi.symm.trans hf'; simp at this; exact this.1.symm
    rw [hdecl] at hown2
    rw [← e1]; exact Option.some.inj (hown.symm.trans hown2)
  have h6 := u_fits hfc hkC hkind (Or.inr hlay) hi hd hn hfit
  refine W.putFinK hexec hb hown (hts _ hw) hi hst hcf hin2 (by rw [q2]; exact h6) q1 q3 (by rw [hsl]; exact k2_hasslot (q4 j hj)) rfl rfl hdg fun H1 e1 e2 e3 => ?_
  rw [hsl] at e1 ⊢
  refine kk H1 _ ⟨e2.trans hP.1, fun i g1 g2 => ?_⟩ (hS.put e2 e3 (hA _ (Nat.add_le_add_left hka B)))
  dsimp only
  by_cases hik : i = k
  · subst hik
    rw [if_pos rfl]
    exact ⟨_, hcv, t_OB.to (V := updV (vp_V fs) j v) ⟨_, e1, q2, q3, t_set q4 hap hj v⟩ (fun x _ => vp_updV_set hl v x)⟩
  · rw [if_neg hik]
    refine (hP.2 i g1 g2).kept (e3 _ ?_)
    show B + i ≠ B + k
    omega
theorem y_ia {k N : Nat} {f : Nat → Int32} {i x : Int32} (hexec : p.tables.exec = Jvm.exec) (hb : c.code = cc) (hK : va_K D vwCl (z_tys cA) s) (hP : y_P D B a n w H) (hS : va_S A H0 H locs) (hA : ∀ q, B + a ≤ q → A q) (hka : a ≤ k) (hkn : k < n) (he : w k = .inl (cA 0, N, .inl f)) (hin : vp_in i N) (hdg : decode cc pc = .ok (.iastore, 1))
    (kk : ∀ (H1 : Heap) (locs1 : List Loc), y_P D B a n (fun j => if j = k then .inl (cA 0, N, .inl (upd f i.toNatClampNeg x)) else w j) H1 → va_S A H0 H1 locs1 → W p l e R s m args below meth c H1 locs1 cells slots Q (F0 m (pc + 1) ls rest)) : W p l e R s m args below meth c H locs cells slots Q (F0 m pc ls (.int x :: .int i :: .ref (B + k) :: rest)) := by
  have h0 := hP.2 k hka hkn
  rw [he] at h0
  refine W.iast hexec hb h0 ((hK.2 0 _ rfl).1 N (fun j => .int (f j))) (fun q => by cases q) (by show ¬ (i < 0 ∨ (arrV _ _ _).slots.size ≤ _); rw [arrV_size]; exact hin) rfl rfl hdg fun H1 e z oq => ?_
  refine kk H1 _ ⟨z.trans hP.1, fun j g1 g2 => ?_⟩ (hS.put z oq (hA _ (Nat.add_le_add_left hka B)))
  dsimp only
  by_cases hjk : j = k
  · subst hjk
    rw [if_pos rfl]
    show H1[B + j]? = some (vp_cell _ _)
    rw [e, vp_cell_i, vp_cell_i, arrV_store]
    congr 2
    funext q
    by_cases hq : q = i.toNatClampNeg
    · subst hq; simp [updV, upd]
    · simp [updV, upd, hq]
  · rw [if_neg hjk]
    refine (hP.2 j g1 g2).kept (oq _ ?_)
    show B + j ≠ B + k
    omega
end YC
/-- what a constructor does: from the bare object at cell k to all of its m cells -/
def y_OK (l : Launch) (y : MethodName) (bytes : ByteArray) (ci mm ms fr lo : Nat) (ok : Nat → Prop) : Prop := ∀ (D : va_G) (cA : Nat → ClassId) (B k : Nat), ok k →
  Met l y (.code y bytes 1 none :: z_tbl) { frames := fr, cells := mm, slots := ms, locals := lo } (va_Pc [.ref (B + k)] (fun U => y_P D B k (k + 1) (y_e cA B k ci (y_fr ci)) U.heap ∧ va_K D vwCl (z_tys cA) U ∧ y_N U)) (va_Qv (fun _ : Unit => True) (fun _ t => y_P D B k (k + 1 + mm) (y_E cA B) t.heap) (fun q => B + k ≤ q)) mm ms (fun q => B + k ≤ q)
section YC2
variable {p : Program} {l : Launch} {e : Env} {R : Room} {s : State} {m : MethodId} {args : Array Value} {below : List Frame} {meth : Method} {c : Code} {H : Heap} {locs : List Loc} {cells slots : Nat} {Q : State → Prop}
variable {cc : ByteArray} {pc : Nat} {ls : Array Slot} {rest : List Value} {D : va_G} {A : Nat → Prop} {cA : Nat → ClassId} {H0 : Heap} {B a : Nat} {w : Nat → va_E} {y : MethodName} {bytes : ByteArray} {ci mm ms fr lo index nL : Nat} {ok : Nat → Prop} {own : String}
theorem y_back {k : Nat} (hr : va_Run p l e R s m args below meth c H locs cells slots mm ms (F0 m pc ls (.ref (B + k) :: rest)) rest (va_Qv (fun _ : Unit => True) (fun _ t => y_P D B k (k + 1 + mm) (y_E cA B) t.heap) (fun q => B + k ≤ q) [Value.ref (B + k)].toArray) (fun q => B + k ≤ q)) (hP : y_P D B a (k + 1) w H) (hS : va_S A H0 H locs) (hA : ∀ q, B + a ≤ q → A q) (hka : a ≤ k)
    (kk : ∀ (H1 : Heap) (locs1 : List Loc), y_P D B a (k + 1 + mm) (fun i => if k ≤ i then y_E cA B i else w i) H1 → va_S A H0 H1 locs1 → W p l e R s m args below meth c H1 locs1 (cells + mm) (slots + ms) Q (F0 m (pc + 3) ls rest)) : W p l e R s m args below meth c H locs cells slots Q (F0 m pc ls (.ref (B + k) :: rest)) := by
  refine va_callv hr hS (fun q _ h => hA q (by omega)) (fun q h => hA q (by omega)) (fun u t H1 locs1 ht hvm hw hB hz hk hS1 => ?_)
  rw [ht] at hB
  refine kk H1 locs1 ⟨hB.1, fun i h1 h2 => ?_⟩ hS1
  dsimp only
  by_cases hi : k ≤ i
  · rw [if_pos hi]
    exact hB.2 i hi h2
  · rw [if_neg hi]
    refine (hP.2 i h1 (by omega)).kept (hk _ ?_ ?_)
    · show B + i < H.size
      rw [hP.1]; omega
    · show ¬ B + k ≤ B + i
      omega
theorem y_pre {k : Nat} (hP : y_P D B a (k + 1) w H) (hka : a ≤ k) (he : w k = .inr (ci, y_fr ci)) (hK : va_K D vwCl (z_tys cA) s) (hN : y_N s) : PreS s H (va_Pc [.ref (B + k)] (fun U => y_P D B k (k + 1) (y_e cA B k ci (y_fr ci)) U.heap ∧ va_K D vwCl (z_tys cA) U ∧ y_N U)) [.ref (B + k)] :=
  ⟨fun a U g mk q => ⟨q.1, q.2.1, va_K.moved (u := U) (U := U.calling g mk a) (Vm.Alike.refl U.vm) q.2.2.1, y_N.same (u := U) (U := U.calling g mk a) rfl q.2.2.2⟩, fun U hU hW => ⟨rfl, by
    rw [hU]
    refine ⟨hP.1, fun i h1 h2 => ?_⟩
    have hi : i = k := by omega
    subst hi
    rw [y_e, if_pos rfl, ← he]
    exact hP.2 i hka h2, va_K.moved hW.alike hK, y_N.warm hW hN⟩⟩
theorem y_cn {k : Nat} (hok : y_OK l y bytes ci mm ms fr lo ok) (hk : ok k) (S : CallFix p m c cc nL s args z_tbl own) (hP : y_P D B a (k + 1) w H) (hS : va_S A H0 H locs) (hA : ∀ q, B + a ≤ q → A q) (hka : a ≤ k) (he : w k = .inr (ci, y_fr ci)) (hK : va_K D vwCl (z_tys cA) s) (hN : y_N s)
    (hlk : (own, index, y) ∈ y_nl) (hw3 : Cond.initialized y.cls ∈ z_tbl) (hw4 : Cond.code y bytes 1 none ∈ z_tbl) (hw5 : Cond.instanceMethod y ∈ z_tbl) (hy1 : y.name = "<init>") (hd : y.cls ≠ "java/lang/invoke/MethodHandle" ∧ y.cls ≠ "java/lang/invoke/VarHandle" ∧ (parseMethodDescriptor y.desc).map (fun d => d.parameters.length) = some 0) (hR : fr + 1 ≤ R.frames ∧ 8 + (1 + 11) + lo ≤ R.locals) (hsize : ls.size = nL) (hW : (rest.map fun v => v.category).sum ≤ 8) (hf : cells + mm ≤ R.cells ∧ slots + ms ≤ R.slots) (hdg : decode cc pc = .ok (.invokespecial index, 3))
    (kk : ∀ (H1 : Heap) (locs1 : List Loc), y_P D B a (k + 1 + mm) (fun i => if k ≤ i then y_E cA B i else w i) H1 → va_S A H0 H1 locs1 → W p l e R s m args below meth c H1 locs1 (cells + mm) (slots + ms) Q (F0 m (pc + 3) ls rest)) : W p l e R s m args below meth c H locs cells slots Q (F0 m pc ls (.ref (B + k) :: rest)) := by
  have hts := S.2.2.2.2
  exact y_back (va_runIN (As := []) (rest := rest) S (hok D cA B k hk) ⟨va_cnB 0 hts (z_good (fun w hw => by rcases List.mem_cons.mp hw with rfl | hw; exact hw4; exact hw)) rfl rfl rfl (hN _ hlk) (hts _ hw3) hd hR, hy1, hts _ hw5⟩ (y_pre hP hka he hK hN) rfl rfl hsize rfl (lv_room hW) hdg hf) hP hS hA hka kk
theorem y_cp {k : Nat} (hok : y_OK l y bytes ci mm ms fr lo ok) (hk : ok k) (S : CallFix p m c cc nL s args z_tbl own) (hP : y_P D B a (k + 1) w H) (hS : va_S A H0 H locs) (hA : ∀ q, B + a ≤ q → A q) (hka : a ≤ k) (he : w k = .inr (ci, y_fr ci)) (hK : va_K D vwCl (z_tys cA) s) (hN : y_N s)
    (hw1 : Cond.methodLink own index y ∈ z_tbl) (hw3 : Cond.initialized y.cls ∈ z_tbl) (hw4 : Cond.code y bytes 1 none ∈ z_tbl) (hw5 : Cond.instanceMethod y ∈ z_tbl) (hy1 : y.name = "<init>") (hd : y.cls ≠ "java/lang/invoke/MethodHandle" ∧ y.cls ≠ "java/lang/invoke/VarHandle" ∧ (parseMethodDescriptor y.desc).map (fun d => d.parameters.length) = some 0) (hR : fr + 1 ≤ R.frames ∧ 8 + (1 + 11) + lo ≤ R.locals) (hsize : ls.size = nL) (hW : (rest.map fun v => v.category).sum ≤ 8) (hf : cells + mm ≤ R.cells ∧ slots + ms ≤ R.slots) (hdg : decode cc pc = .ok (.invokespecial index, 3))
    (kk : ∀ (H1 : Heap) (locs1 : List Loc), y_P D B a (k + 1 + mm) (fun i => if k ≤ i then y_E cA B i else w i) H1 → va_S A H0 H1 locs1 → W p l e R s m args below meth c H1 locs1 (cells + mm) (slots + ms) Q (F0 m (pc + 3) ls rest)) : W p l e R s m args below meth c H locs cells slots Q (F0 m pc ls (.ref (B + k) :: rest)) := by
  have hts := S.2.2.2.2
  exact y_back (va_runI (As := []) (rest := rest) S (hok D cA B k hk) (cwI 0 hts (z_good (fun w hw => by rcases List.mem_cons.mp hw with rfl | hw; exact hw4; exact hw)) rfl rfl rfl (hts _ hw3) (hts _ hw1) (hts _ hw5) hy1 hd hR) (y_pre hP hka he hK hN) rfl rfl hsize rfl (lv_room hW) hdg hf) hP hS hA hka kk
end YC2
