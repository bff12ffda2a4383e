theorem y_rng {α : Type} (os : List Nat) (f : Nat → α) : (List.range os.length).map (fun j => f (os.getD j 0)) = os.map f := by
  refine List.ext_getElem (by simp) fun i h1 h2 => ?_
  simp only [List.getElem_map, List.getElem_range]
  have h3 : i < os.length := by simpa using h2
  rw [List.getD_eq_getElem?_getD, List.getElem?_eq_getElem h3, Option.getD_some]
theorem y_Ea {cA : Nat → ClassId} {B n t N : Nat} (hz : z_kd n = (100 + t, N)) (h9 : n ≠ 90) : y_E cA B n = .inl (cA t, N, .inl (fun _ => 0)) := by
  rw [y_E, z_E, if_neg (by rw [hz]; show ¬ 100 + t < 100; omega), hz]
  show Sum.inl (cA (100 + t - 100), N, _) = _
  rw [show 100 + t - 100 = t by omega]
  congr 4
  funext j
  rw [q_s0, if_neg (fun q => h9 q.1)]
  rfl
theorem y_Eo {cA : Nat → ClassId} {B k c : Nat} (hz : z_kd k = (c, 0)) (hc : c < 100) (h9 : k ≠ 90) : y_E cA B k = .inr (c, (z_fo c).map (fun o => if o = 0 then .int 0 else .ref (B + (k + o)))) := by
  rw [y_E, z_E, if_pos (by rw [hz]; exact hc), hz]
  show Sum.inr (c, z_fs _ _ k (z_fo c)) = _
  rw [← y_rng]
  unfold z_fs
  congr 3
  funext j
  have : q_s0 k j = 0 := by rw [q_s0, if_neg (fun q => h9 q.1)]
  rw [this]
  rfl
theorem y_cg1 {cA : Nat → ClassId} {B k n c : Nat} {fs : List Value} {c2 : Nat} {f2 : List Value} {a b : Nat} (h : k < n) : ∀ i, a ≤ i → i < b → (if n ≤ i then y_E cA B i else if i = n then .inr (c2, f2) else y_e cA B k c fs i) = y_e cA B k c fs i := by
  intro i _ _
  by_cases h1 : n ≤ i
  · rw [if_pos h1, y_e, if_neg (by omega)]
  · rw [if_neg h1, if_neg (by omega)]
theorem y_cg2 {cA : Nat → ClassId} {B k c : Nat} {fs : List Value} {a b : Nat} (hz : z_kd k = (c, 0)) (hc : c < 100) (h9 : k ≠ 90) (hf : (z_fo c).map (fun o => if o = 0 then .int 0 else .ref (B + (k + o))) = fs) : ∀ i, a ≤ i → i < b → y_e cA B k c fs i = y_E cA B i := by
  intro i _ _
  by_cases h1 : i = k
  · subst h1
    rw [y_e, if_pos rfl, y_Eo hz hc h9, hf]
  · rw [y_e, if_neg h1]
section YC3
variable {p : Program} {l : Launch} {e : Env} {R : Room} {s : State} {m : MethodId} {args : Array Value} {below : List Frame} {meth : Method} {c : Code} {H : Heap} {locs : List Loc} {cells slots : Nat} {Q : State → Prop}
variable {cc : ByteArray} {pc : Nat} {ls : Array Slot} {rest : List Value} {D : va_G} {A : Nat → Prop} {cA : Nat → ClassId} {H0 : Heap} {B k n ci : Nat} {fs : List Value}
theorem y_na2 {t : Nat} {ty : FieldType} {atype : ArrayType} (hexec : p.tables.exec = Jvm.exec) (hb : c.code = cc) (harr : (Cond.arrayClass (newarray.typeOf atype)).before args s = true) (hty : newarray.typeOf atype = ty) (hq : ty = .int ∨ ty = .byte ∨ ty = .boolean) (ht : (z_tys cA)[t]? = some (cA t, ty)) (hK : va_K D vwCl (z_tys cA) s) (hP : y_P D B k n (y_e cA B k ci fs) H) (hS : va_S A H0 H locs) {x : Int32} {N : Nat} (hn : ¬ x < 0) (hN : x.toNatClampNeg = N) (hbytes : N * componentBytes ty ≤ 536870912) (hcells : cells + 1 ≤ R.cells) (hslots : slots + N ≤ R.slots) (hz : z_kd n = (100 + t, N)) (hkn : k < n) (h9 : n ≠ 90) (hdg : decode cc pc = .ok (.newarray atype, 2))
    (kk : ∀ H1 : Heap, y_P D B k (n + 1) (y_e cA B k ci fs) H1 → va_S A H0 H1 locs → W p l e R s m args below meth c H1 locs (cells + 1) (slots + N) Q (F0 m (pc + 2) ls (.ref (B + n) :: rest))) : W p l e R s m args below meth c H locs cells slots Q (F0 m pc ls (.int x :: rest)) := by
  refine y_na hexec hb harr hty hq ht hK hP hS hn hN hbytes hcells hslots hdg (fun H1 hP1 hS1 => kk H1 (hP1.congr fun i _ _ => ?_) hS1)
  by_cases h1 : i = n
  · subst h1
    rw [if_pos rfl, y_e, if_neg (by omega), y_Ea hz h9]
  · rw [if_neg h1]
theorem y_pf2 {C : String} {T : u_T} {N index j : Nat} {ty : FieldType} {v : Value} (hexec : p.tables.exec = Jvm.exec) (hb : c.code = cc) (hts : ∀ x ∈ z_tbl, x.before args s = true) (hcl : z_Cls ci C T N) (hown : s.vm.findClass C = some m.cls) (hK : va_K D vwCl (z_tys cA) s) (hP : y_P D B k n (y_e cA B k ci fs) H) (hS : va_S A H0 H locs) (hA : ∀ q, B + k ≤ q → A q) (hkn : k < n) (hj : j < N) (hl : j < fs.length) (hw : Cond.fieldLink C index (T j).1 (T j).2.1 (T j).2.2.1 ∈ z_tbl) (hfin : (T j).2.2.2 = true) (hin2 : meth.name = "<init>") (hdecl : (T j).1 = C) (hd : parseFieldDescriptor (T j).2.2.1 = some ty) (hn : narrow ty v = v) (hfit : fits ty v = true) (hdg : decode cc pc = .ok (.putfield index, 3))
    (kk : ∀ (H1 : Heap) (locs1 : List Loc), y_P D B k n (y_e cA B k ci (fs.set j v)) H1 → va_S A H0 H1 locs1 → W p l e R s m args below meth c H1 locs1 cells slots Q (F0 m (pc + 3) ls rest)) : W p l e R s m args below meth c H locs cells slots Q (F0 m pc ls (v :: .ref (B + k) :: rest)) := by
  refine y_pf hexec hb hts hcl hown hK hP hS hA (Nat.le_refl k) hkn (if_pos rfl) hj hl hw hfin hin2 hdecl hd hn hfit hdg (fun H1 locs1 hP1 hS1 => kk H1 locs1 (hP1.congr fun i _ _ => ?_) hS1)
  by_cases h1 : i = k
  · rw [if_pos h1, y_e, if_pos h1]
  · rw [if_neg h1, y_e, if_neg h1, y_e, if_neg h1]
end YC3
theorem dX4_init_0 : decode cX4_init 0 = .ok (.aload_n 0, 1) := by decide +kernel
theorem dX4_init_1 : decode cX4_init 1 = .ok (.invokespecial 3, 3) := by decide +kernel
theorem dX4_init_4 : decode cX4_init 4 = .ok (.aload_n 0, 1) := by decide +kernel
theorem dX4_init_5 : decode cX4_init 5 = .ok (.sipush 400, 3) := by decide +kernel
theorem dX4_init_8 : decode cX4_init 8 = .ok (.newarray .byte, 2) := by decide +kernel
theorem dX4_init_10 : decode cX4_init 10 = .ok (.putfield 9, 3) := by decide +kernel
theorem dX4_init_13 : decode cX4_init 13 = .ok (.return_, 1) := by decide +kernel
theorem dX5_init_0 : decode cX5_init 0 = .ok (.aload_n 0, 1) := by decide +kernel
theorem dX5_init_1 : decode cX5_init 1 = .ok (.invokespecial 1, 3) := by decide +kernel
theorem dX5_init_4 : decode cX5_init 4 = .ok (.aload_n 0, 1) := by decide +kernel
theorem dX5_init_5 : decode cX5_init 5 = .ok (.bipush 8, 2) := by decide +kernel
theorem dX5_init_7 : decode cX5_init 7 = .ok (.newarray .boolean, 2) := by decide +kernel
theorem dX5_init_9 : decode cX5_init 9 = .ok (.putfield 9, 3) := by decide +kernel
theorem dX5_init_12 : decode cX5_init 12 = .ok (.aload_n 0, 1) := by decide +kernel
theorem dX5_init_13 : decode cX5_init 13 = .ok (.bipush 8, 2) := by decide +kernel
theorem dX5_init_15 : decode cX5_init 15 = .ok (.newarray .int, 2) := by decide +kernel
theorem dX5_init_17 : decode cX5_init 17 = .ok (.putfield 13, 3) := by decide +kernel
theorem dX5_init_20 : decode cX5_init 20 = .ok (.aload_n 0, 1) := by decide +kernel
theorem dX5_init_21 : decode cX5_init 21 = .ok (.bipush 8, 2) := by decide +kernel
theorem dX5_init_23 : decode cX5_init 23 = .ok (.newarray .int, 2) := by decide +kernel
theorem dX5_init_25 : decode cX5_init 25 = .ok (.putfield 17, 3) := by decide +kernel
theorem dX5_init_28 : decode cX5_init 28 = .ok (.aload_n 0, 1) := by decide +kernel
theorem dX5_init_29 : decode cX5_init 29 = .ok (.sipush 320, 3) := by decide +kernel
theorem dX5_init_32 : decode cX5_init 32 = .ok (.newarray .int, 2) := by decide +kernel
theorem dX5_init_34 : decode cX5_init 34 = .ok (.putfield 20, 3) := by decide +kernel
theorem dX5_init_37 : decode cX5_init 37 = .ok (.return_, 1) := by decide +kernel
theorem dX6_init_0 : decode cX6_init 0 = .ok (.aload_n 0, 1) := by decide +kernel
theorem dX6_init_1 : decode cX6_init 1 = .ok (.invokespecial 3, 3) := by decide +kernel
theorem dX6_init_4 : decode cX6_init 4 = .ok (.aload_n 0, 1) := by decide +kernel
theorem dX6_init_5 : decode cX6_init 5 = .ok (.bipush 12, 2) := by decide +kernel
theorem dX6_init_7 : decode cX6_init 7 = .ok (.newarray .int, 2) := by decide +kernel
theorem dX6_init_9 : decode cX6_init 9 = .ok (.putfield 9, 3) := by decide +kernel
theorem dX6_init_12 : decode cX6_init 12 = .ok (.aload_n 0, 1) := by decide +kernel
theorem dX6_init_13 : decode cX6_init 13 = .ok (.bipush 12, 2) := by decide +kernel
theorem dX6_init_15 : decode cX6_init 15 = .ok (.newarray .int, 2) := by decide +kernel
theorem dX6_init_17 : decode cX6_init 17 = .ok (.putfield 15, 3) := by decide +kernel
theorem dX6_init_20 : decode cX6_init 20 = .ok (.aload_n 0, 1) := by decide +kernel
theorem dX6_init_21 : decode cX6_init 21 = .ok (.bipush 12, 2) := by decide +kernel
theorem dX6_init_23 : decode cX6_init 23 = .ok (.newarray .int, 2) := by decide +kernel
theorem dX6_init_25 : decode cX6_init 25 = .ok (.putfield 18, 3) := by decide +kernel
theorem dX6_init_28 : decode cX6_init 28 = .ok (.aload_n 0, 1) := by decide +kernel
theorem dX6_init_29 : decode cX6_init 29 = .ok (.bipush 12, 2) := by decide +kernel
theorem dX6_init_31 : decode cX6_init 31 = .ok (.newarray .int, 2) := by decide +kernel
theorem dX6_init_33 : decode cX6_init 33 = .ok (.putfield 21, 3) := by decide +kernel
theorem dX6_init_36 : decode cX6_init 36 = .ok (.aload_n 0, 1) := by decide +kernel
theorem dX6_init_37 : decode cX6_init 37 = .ok (.bipush 12, 2) := by decide +kernel
theorem dX6_init_39 : decode cX6_init 39 = .ok (.newarray .int, 2) := by decide +kernel
theorem dX6_init_41 : decode cX6_init 41 = .ok (.putfield 24, 3) := by decide +kernel
theorem dX6_init_44 : decode cX6_init 44 = .ok (.aload_n 0, 1) := by decide +kernel
theorem dX6_init_45 : decode cX6_init 45 = .ok (.bipush 12, 2) := by decide +kernel
theorem dX6_init_47 : decode cX6_init 47 = .ok (.newarray .int, 2) := by decide +kernel
theorem dX6_init_49 : decode cX6_init 49 = .ok (.putfield 27, 3) := by decide +kernel
theorem dX6_init_52 : decode cX6_init 52 = .ok (.return_, 1) := by decide +kernel
theorem dX7_init_0 : decode cX7_init 0 = .ok (.aload_n 0, 1) := by decide +kernel
theorem dX7_init_1 : decode cX7_init 1 = .ok (.invokespecial 3, 3) := by decide +kernel
theorem dX7_init_4 : decode cX7_init 4 = .ok (.aload_n 0, 1) := by decide +kernel
theorem dX7_init_5 : decode cX7_init 5 = .ok (.bipush 6, 2) := by decide +kernel
theorem dX7_init_7 : decode cX7_init 7 = .ok (.newarray .int, 2) := by decide +kernel
theorem dX7_init_9 : decode cX7_init 9 = .ok (.putfield 9, 3) := by decide +kernel
theorem dX7_init_12 : decode cX7_init 12 = .ok (.aload_n 0, 1) := by decide +kernel
theorem dX7_init_13 : decode cX7_init 13 = .ok (.bipush 6, 2) := by decide +kernel
theorem dX7_init_15 : decode cX7_init 15 = .ok (.newarray .int, 2) := by decide +kernel
theorem dX7_init_17 : decode cX7_init 17 = .ok (.putfield 15, 3) := by decide +kernel
theorem dX7_init_20 : decode cX7_init 20 = .ok (.aload_n 0, 1) := by decide +kernel
theorem dX7_init_21 : decode cX7_init 21 = .ok (.bipush 6, 2) := by decide +kernel
theorem dX7_init_23 : decode cX7_init 23 = .ok (.newarray .int, 2) := by decide +kernel
theorem dX7_init_25 : decode cX7_init 25 = .ok (.putfield 18, 3) := by decide +kernel
theorem dX7_init_28 : decode cX7_init 28 = .ok (.return_, 1) := by decide +kernel
theorem dX2_init_0 : decode cX2_init 0 = .ok (.aload_n 0, 1) := by decide +kernel
theorem dX2_init_1 : decode cX2_init 1 = .ok (.invokespecial 3, 3) := by decide +kernel
theorem dX2_init_4 : decode cX2_init 4 = .ok (.aload_n 0, 1) := by decide +kernel
theorem dX2_init_5 : decode cX2_init 5 = .ok (.bipush 60, 2) := by decide +kernel
theorem dX2_init_7 : decode cX2_init 7 = .ok (.newarray .int, 2) := by decide +kernel
theorem dX2_init_9 : decode cX2_init 9 = .ok (.putfield 9, 3) := by decide +kernel
theorem dX2_init_12 : decode cX2_init 12 = .ok (.aload_n 0, 1) := by decide +kernel
theorem dX2_init_13 : decode cX2_init 13 = .ok (.bipush 60, 2) := by decide +kernel
theorem dX2_init_15 : decode cX2_init 15 = .ok (.newarray .int, 2) := by decide +kernel
theorem dX2_init_17 : decode cX2_init 17 = .ok (.putfield 15, 3) := by decide +kernel
theorem dX2_init_20 : decode cX2_init 20 = .ok (.aload_n 0, 1) := by decide +kernel
theorem dX2_init_21 : decode cX2_init 21 = .ok (.bipush 60, 2) := by decide +kernel
theorem dX2_init_23 : decode cX2_init 23 = .ok (.newarray .int, 2) := by decide +kernel
theorem dX2_init_25 : decode cX2_init 25 = .ok (.putfield 18, 3) := by decide +kernel
theorem dX2_init_28 : decode cX2_init 28 = .ok (.return_, 1) := by decide +kernel
theorem dX8_init_0 : decode cX8_init 0 = .ok (.aload_n 0, 1) := by decide +kernel
theorem dX8_init_1 : decode cX8_init 1 = .ok (.invokespecial 3, 3) := by decide +kernel
theorem dX8_init_4 : decode cX8_init 4 = .ok (.aload_n 0, 1) := by decide +kernel
theorem dX8_init_5 : decode cX8_init 5 = .ok (.new 9, 3) := by decide +kernel
theorem dX8_init_8 : decode cX8_init 8 = .ok (.dup, 1) := by decide +kernel
theorem dX8_init_9 : decode cX8_init 9 = .ok (.invokespecial 11, 3) := by decide +kernel
theorem dX8_init_12 : decode cX8_init 12 = .ok (.putfield 12, 3) := by decide +kernel
theorem dX8_init_15 : decode cX8_init 15 = .ok (.aload_n 0, 1) := by decide +kernel
theorem dX8_init_16 : decode cX8_init 16 = .ok (.new 18, 3) := by decide +kernel
theorem dX8_init_19 : decode cX8_init 19 = .ok (.dup, 1) := by decide +kernel
theorem dX8_init_20 : decode cX8_init 20 = .ok (.invokespecial 20, 3) := by decide +kernel
theorem dX8_init_23 : decode cX8_init 23 = .ok (.putfield 21, 3) := by decide +kernel
theorem dX8_init_26 : decode cX8_init 26 = .ok (.aload_n 0, 1) := by decide +kernel
theorem dX8_init_27 : decode cX8_init 27 = .ok (.new 25, 3) := by decide +kernel
theorem dX8_init_30 : decode cX8_init 30 = .ok (.dup, 1) := by decide +kernel
theorem dX8_init_31 : decode cX8_init 31 = .ok (.invokespecial 27, 3) := by decide +kernel
theorem dX8_init_34 : decode cX8_init 34 = .ok (.putfield 28, 3) := by decide +kernel
theorem dX8_init_37 : decode cX8_init 37 = .ok (.aload_n 0, 1) := by decide +kernel
theorem dX8_init_38 : decode cX8_init 38 = .ok (.bipush 10, 2) := by decide +kernel
theorem dX8_init_40 : decode cX8_init 40 = .ok (.newarray .int, 2) := by decide +kernel
theorem dX8_init_42 : decode cX8_init 42 = .ok (.putfield 32, 3) := by decide +kernel
theorem dX8_init_45 : decode cX8_init 45 = .ok (.return_, 1) := by decide +kernel
theorem dX3_init_0 : decode cX3_init 0 = .ok (.aload_n 0, 1) := by decide +kernel
theorem dX3_init_1 : decode cX3_init 1 = .ok (.invokespecial 3, 3) := by decide +kernel
theorem dX3_init_4 : decode cX3_init 4 = .ok (.aload_n 0, 1) := by decide +kernel
theorem dX3_init_5 : decode cX3_init 5 = .ok (.bipush 12, 2) := by decide +kernel
theorem dX3_init_7 : decode cX3_init 7 = .ok (.newarray .int, 2) := by decide +kernel
theorem dX3_init_9 : decode cX3_init 9 = .ok (.putfield 9, 3) := by decide +kernel
theorem dX3_init_12 : decode cX3_init 12 = .ok (.aload_n 0, 1) := by decide +kernel
theorem dX3_init_13 : decode cX3_init 13 = .ok (.bipush 12, 2) := by decide +kernel
theorem dX3_init_15 : decode cX3_init 15 = .ok (.newarray .int, 2) := by decide +kernel
theorem dX3_init_17 : decode cX3_init 17 = .ok (.putfield 15, 3) := by decide +kernel
theorem dX3_init_20 : decode cX3_init 20 = .ok (.aload_n 0, 1) := by decide +kernel
theorem dX3_init_21 : decode cX3_init 21 = .ok (.bipush 13, 2) := by decide +kernel
theorem dX3_init_23 : decode cX3_init 23 = .ok (.newarray .int, 2) := by decide +kernel
theorem dX3_init_25 : decode cX3_init 25 = .ok (.putfield 18, 3) := by decide +kernel
theorem dX3_init_28 : decode cX3_init 28 = .ok (.return_, 1) := by decide +kernel
theorem dX1_init_0 : decode cX1_init 0 = .ok (.aload_n 0, 1) := by decide +kernel
theorem dX1_init_1 : decode cX1_init 1 = .ok (.invokespecial 5, 3) := by decide +kernel
theorem dX1_init_4 : decode cX1_init 4 = .ok (.aload_n 0, 1) := by decide +kernel
theorem dX1_init_5 : decode cX1_init 5 = .ok (.iconst 5, 1) := by decide +kernel
theorem dX1_init_6 : decode cX1_init 6 = .ok (.newarray .int, 2) := by decide +kernel
theorem dX1_init_8 : decode cX1_init 8 = .ok (.putfield 11, 3) := by decide +kernel
theorem dX1_init_11 : decode cX1_init 11 = .ok (.return_, 1) := by decide +kernel
theorem dX0_init_0 : decode cX0_init 0 = .ok (.aload_n 0, 1) := by decide +kernel
theorem dX0_init_1 : decode cX0_init 1 = .ok (.invokespecial 3, 3) := by decide +kernel
theorem dX0_init_4 : decode cX0_init 4 = .ok (.aload_n 0, 1) := by decide +kernel
theorem dX0_init_5 : decode cX0_init 5 = .ok (.bipush 16, 2) := by decide +kernel
theorem dX0_init_7 : decode cX0_init 7 = .ok (.newarray .int, 2) := by decide +kernel
theorem dX0_init_9 : decode cX0_init 9 = .ok (.putfield 11, 3) := by decide +kernel
theorem dX0_init_12 : decode cX0_init 12 = .ok (.return_, 1) := by decide +kernel
theorem dX9_init_0 : decode cX9_init 0 = .ok (.aload_n 0, 1) := by decide +kernel
theorem dX9_init_1 : decode cX9_init 1 = .ok (.invokespecial 1, 3) := by decide +kernel
theorem dX9_init_4 : decode cX9_init 4 = .ok (.aload_n 0, 1) := by decide +kernel
theorem dX9_init_5 : decode cX9_init 5 = .ok (.new 7, 3) := by decide +kernel
theorem dX9_init_8 : decode cX9_init 8 = .ok (.dup, 1) := by decide +kernel
theorem dX9_init_9 : decode cX9_init 9 = .ok (.invokespecial 9, 3) := by decide +kernel
theorem dX9_init_12 : decode cX9_init 12 = .ok (.putfield 10, 3) := by decide +kernel
theorem dX9_init_15 : decode cX9_init 15 = .ok (.aload_n 0, 1) := by decide +kernel
theorem dX9_init_16 : decode cX9_init 16 = .ok (.new 16, 3) := by decide +kernel
theorem dX9_init_19 : decode cX9_init 19 = .ok (.dup, 1) := by decide +kernel
theorem dX9_init_20 : decode cX9_init 20 = .ok (.invokespecial 18, 3) := by decide +kernel
theorem dX9_init_23 : decode cX9_init 23 = .ok (.putfield 19, 3) := by decide +kernel
theorem dX9_init_26 : decode cX9_init 26 = .ok (.aload_n 0, 1) := by decide +kernel
theorem dX9_init_27 : decode cX9_init 27 = .ok (.new 23, 3) := by decide +kernel
theorem dX9_init_30 : decode cX9_init 30 = .ok (.dup, 1) := by decide +kernel
theorem dX9_init_31 : decode cX9_init 31 = .ok (.invokespecial 25, 3) := by decide +kernel
theorem dX9_init_34 : decode cX9_init 34 = .ok (.putfield 26, 3) := by decide +kernel
theorem dX9_init_37 : decode cX9_init 37 = .ok (.aload_n 0, 1) := by decide +kernel
theorem dX9_init_38 : decode cX9_init 38 = .ok (.new 23, 3) := by decide +kernel
theorem dX9_init_41 : decode cX9_init 41 = .ok (.dup, 1) := by decide +kernel
theorem dX9_init_42 : decode cX9_init 42 = .ok (.invokespecial 25, 3) := by decide +kernel
theorem dX9_init_45 : decode cX9_init 45 = .ok (.putfield 30, 3) := by decide +kernel
theorem dX9_init_48 : decode cX9_init 48 = .ok (.aload_n 0, 1) := by decide +kernel
theorem dX9_init_49 : decode cX9_init 49 = .ok (.new 23, 3) := by decide +kernel
theorem dX9_init_52 : decode cX9_init 52 = .ok (.dup, 1) := by decide +kernel
theorem dX9_init_53 : decode cX9_init 53 = .ok (.invokespecial 25, 3) := by decide +kernel
theorem dX9_init_56 : decode cX9_init 56 = .ok (.putfield 33, 3) := by decide +kernel
theorem dX9_init_59 : decode cX9_init 59 = .ok (.aload_n 0, 1) := by decide +kernel
theorem dX9_init_60 : decode cX9_init 60 = .ok (.new 23, 3) := by decide +kernel
theorem dX9_init_63 : decode cX9_init 63 = .ok (.dup, 1) := by decide +kernel
theorem dX9_init_64 : decode cX9_init 64 = .ok (.invokespecial 25, 3) := by decide +kernel
theorem dX9_init_67 : decode cX9_init 67 = .ok (.putfield 36, 3) := by decide +kernel
theorem dX9_init_70 : decode cX9_init 70 = .ok (.aload_n 0, 1) := by decide +kernel
theorem dX9_init_71 : decode cX9_init 71 = .ok (.new 39, 3) := by decide +kernel
theorem dX9_init_74 : decode cX9_init 74 = .ok (.dup, 1) := by decide +kernel
theorem dX9_init_75 : decode cX9_init 75 = .ok (.invokespecial 41, 3) := by decide +kernel
theorem dX9_init_78 : decode cX9_init 78 = .ok (.putfield 42, 3) := by decide +kernel
theorem dX9_init_81 : decode cX9_init 81 = .ok (.aload_n 0, 1) := by decide +kernel
theorem dX9_init_82 : decode cX9_init 82 = .ok (.new 46, 3) := by decide +kernel
theorem dX9_init_85 : decode cX9_init 85 = .ok (.dup, 1) := by decide +kernel
theorem dX9_init_86 : decode cX9_init 86 = .ok (.invokespecial 48, 3) := by decide +kernel
theorem dX9_init_89 : decode cX9_init 89 = .ok (.putfield 49, 3) := by decide +kernel
theorem dX9_init_92 : decode cX9_init 92 = .ok (.aload_n 0, 1) := by decide +kernel
theorem dX9_init_93 : decode cX9_init 93 = .ok (.new 53, 3) := by decide +kernel
theorem dX9_init_96 : decode cX9_init 96 = .ok (.dup, 1) := by decide +kernel
theorem dX9_init_97 : decode cX9_init 97 = .ok (.invokespecial 55, 3) := by decide +kernel
theorem dX9_init_100 : decode cX9_init 100 = .ok (.putfield 56, 3) := by decide +kernel
theorem dX9_init_103 : decode cX9_init 103 = .ok (.aload_n 0, 1) := by decide +kernel
theorem dX9_init_104 : decode cX9_init 104 = .ok (.new 60, 3) := by decide +kernel
theorem dX9_init_107 : decode cX9_init 107 = .ok (.dup, 1) := by decide +kernel
theorem dX9_init_108 : decode cX9_init 108 = .ok (.invokespecial 62, 3) := by decide +kernel
theorem dX9_init_111 : decode cX9_init 111 = .ok (.putfield 63, 3) := by decide +kernel
theorem dX9_init_114 : decode cX9_init 114 = .ok (.aload_n 0, 1) := by decide +kernel
theorem dX9_init_115 : decode cX9_init 115 = .ok (.bipush 20, 2) := by decide +kernel
theorem dX9_init_117 : decode cX9_init 117 = .ok (.newarray .int, 2) := by decide +kernel
theorem dX9_init_119 : decode cX9_init 119 = .ok (.putfield 67, 3) := by decide +kernel
theorem dX9_init_122 : decode cX9_init 122 = .ok (.return_, 1) := by decide +kernel
set_option maxRecDepth 100000 in
theorem yw_18 : Cond.initialized RX4 ∈ z_tbl := z_mem 18 _ (by decide +kernel)
set_option maxRecDepth 100000 in
theorem yw_19 : Cond.initialized RX5 ∈ z_tbl := z_mem 19 _ (by decide +kernel)
set_option maxRecDepth 100000 in
theorem yw_20 : Cond.initialized RX8 ∈ z_tbl := z_mem 20 _ (by decide +kernel)
set_option maxRecDepth 100000 in
theorem yw_21 : Cond.initialized RX6 ∈ z_tbl := z_mem 21 _ (by decide +kernel)
set_option maxRecDepth 100000 in
theorem yw_22 : Cond.initialized RX7 ∈ z_tbl := z_mem 22 _ (by decide +kernel)
set_option maxRecDepth 100000 in
theorem yw_23 : Cond.initialized RX2 ∈ z_tbl := z_mem 23 _ (by decide +kernel)
set_option maxRecDepth 100000 in
theorem yw_24 : Cond.initialized RX3 ∈ z_tbl := z_mem 24 _ (by decide +kernel)
set_option maxRecDepth 100000 in
theorem yw_25 : Cond.initialized RX1 ∈ z_tbl := z_mem 25 _ (by decide +kernel)
set_option maxRecDepth 100000 in
theorem yw_26 : Cond.initialized RX0 ∈ z_tbl := z_mem 26 _ (by decide +kernel)
set_option maxRecDepth 100000 in
theorem yw_38 : Cond.methodLink RX9 1 Lib.objectInit ∈ z_tbl := z_mem 38 _ (by decide +kernel)
set_option maxRecDepth 100000 in
theorem yw_39 : Cond.instanceMethod Lib.objectInit ∈ z_tbl := z_mem 39 _ (by decide +kernel)
set_option maxRecDepth 100000 in
theorem yw_40 : Cond.code Lib.objectInit ⟨#[0xb1]⟩ 1 none ∈ z_tbl := z_mem 40 _ (by decide +kernel)
set_option maxRecDepth 100000 in
theorem yw_41 : Cond.classLink "WindHarp" 7 RX4 ∈ z_tbl := z_mem 41 _ (by decide +kernel)
set_option maxRecDepth 100000 in
theorem yw_42 : Cond.instantiable RX4 7 ∈ z_tbl := z_mem 42 _ (by decide +kernel)
set_option maxRecDepth 100000 in
theorem yw_44 : Cond.instanceMethod yX4_init ∈ z_tbl := z_mem 44 _ (by decide +kernel)
set_option maxRecDepth 100000 in
theorem yw_45 : Cond.code yX4_init cX4_init 1 none ∈ z_tbl := z_mem 45 _ (by decide +kernel)
set_option maxRecDepth 100000 in
theorem yw_46 : Cond.methodLink RX4 3 Lib.objectInit ∈ z_tbl := z_mem 46 _ (by decide +kernel)
set_option maxRecDepth 100000 in
theorem yw_47 : Cond.fieldLink RX4 9 (TX4 0).1 (TX4 0).2.1 (TX4 0).2.2.1 ∈ z_tbl := z_mem 47 _ (by decide +kernel)
set_option maxRecDepth 100000 in
theorem yw_72 : Cond.arrayClass .byte ∈ z_tbl := z_mem 72 _ (by decide +kernel)
set_option maxRecDepth 100000 in
theorem yw_73 : Cond.classLink "WindHarp" 16 RX5 ∈ z_tbl := z_mem 73 _ (by decide +kernel)
set_option maxRecDepth 100000 in
theorem yw_74 : Cond.instantiable RX5 4 ∈ z_tbl := z_mem 74 _ (by decide +kernel)
set_option maxRecDepth 100000 in
theorem yw_76 : Cond.instanceMethod yX5_init ∈ z_tbl := z_mem 76 _ (by decide +kernel)
set_option maxRecDepth 100000 in
theorem yw_77 : Cond.code yX5_init cX5_init 1 none ∈ z_tbl := z_mem 77 _ (by decide +kernel)
set_option maxRecDepth 100000 in
theorem yw_78 : Cond.methodLink RX5 1 Lib.objectInit ∈ z_tbl := z_mem 78 _ (by decide +kernel)
set_option maxRecDepth 100000 in
theorem yw_79 : Cond.fieldLink RX5 9 (TX5 0).1 (TX5 0).2.1 (TX5 0).2.2.1 ∈ z_tbl := z_mem 79 _ (by decide +kernel)
set_option maxRecDepth 100000 in
theorem yw_80 : Cond.fieldLink RX5 13 (TX5 1).1 (TX5 1).2.1 (TX5 1).2.2.1 ∈ z_tbl := z_mem 80 _ (by decide +kernel)
set_option maxRecDepth 100000 in
theorem yw_81 : Cond.fieldLink RX5 17 (TX5 2).1 (TX5 2).2.1 (TX5 2).2.2.1 ∈ z_tbl := z_mem 81 _ (by decide +kernel)
set_option maxRecDepth 100000 in
theorem yw_82 : Cond.fieldLink RX5 20 (TX5 3).1 (TX5 3).2.1 (TX5 3).2.2.1 ∈ z_tbl := z_mem 82 _ (by decide +kernel)
set_option maxRecDepth 100000 in
theorem yw_92 : Cond.arrayClass .boolean ∈ z_tbl := z_mem 92 _ (by decide +kernel)
set_option maxRecDepth 100000 in
theorem yw_93 : Cond.arrayClass .int ∈ z_tbl := z_mem 93 _ (by decide +kernel)
set_option maxRecDepth 100000 in
theorem yw_94 : Cond.classLink "WindHarp" 23 RX8 ∈ z_tbl := z_mem 94 _ (by decide +kernel)
set_option maxRecDepth 100000 in
theorem yw_95 : Cond.instantiable RX8 8 ∈ z_tbl := z_mem 95 _ (by decide +kernel)
set_option maxRecDepth 100000 in
theorem yw_97 : Cond.instanceMethod yX8_init ∈ z_tbl := z_mem 97 _ (by decide +kernel)
set_option maxRecDepth 100000 in
theorem yw_98 : Cond.code yX8_init cX8_init 1 none ∈ z_tbl := z_mem 98 _ (by decide +kernel)
set_option maxRecDepth 100000 in
theorem yw_99 : Cond.methodLink RX8 3 Lib.objectInit ∈ z_tbl := z_mem 99 _ (by decide +kernel)
set_option maxRecDepth 100000 in
theorem yw_100 : Cond.classLink "WindHarp$Wood" 9 RX6 ∈ z_tbl := z_mem 100 _ (by decide +kernel)
set_option maxRecDepth 100000 in
theorem yw_101 : Cond.instantiable RX6 7 ∈ z_tbl := z_mem 101 _ (by decide +kernel)
set_option maxRecDepth 100000 in
theorem yw_103 : Cond.instanceMethod yX6_init ∈ z_tbl := z_mem 103 _ (by decide +kernel)
set_option maxRecDepth 100000 in
theorem yw_104 : Cond.code yX6_init cX6_init 1 none ∈ z_tbl := z_mem 104 _ (by decide +kernel)
set_option maxRecDepth 100000 in
theorem yw_105 : Cond.methodLink RX6 3 Lib.objectInit ∈ z_tbl := z_mem 105 _ (by decide +kernel)
set_option maxRecDepth 100000 in
theorem yw_106 : Cond.fieldLink RX6 9 (TX6 0).1 (TX6 0).2.1 (TX6 0).2.2.1 ∈ z_tbl := z_mem 106 _ (by decide +kernel)
set_option maxRecDepth 100000 in
theorem yw_109 : Cond.fieldLink RX6 15 (TX6 1).1 (TX6 1).2.1 (TX6 1).2.2.1 ∈ z_tbl := z_mem 109 _ (by decide +kernel)
set_option maxRecDepth 100000 in
theorem yw_112 : Cond.fieldLink RX6 18 (TX6 2).1 (TX6 2).2.1 (TX6 2).2.2.1 ∈ z_tbl := z_mem 112 _ (by decide +kernel)
set_option maxRecDepth 100000 in
theorem yw_115 : Cond.fieldLink RX6 21 (TX6 3).1 (TX6 3).2.1 (TX6 3).2.2.1 ∈ z_tbl := z_mem 115 _ (by decide +kernel)
set_option maxRecDepth 100000 in
theorem yw_117 : Cond.fieldLink RX6 24 (TX6 4).1 (TX6 4).2.1 (TX6 4).2.2.1 ∈ z_tbl := z_mem 117 _ (by decide +kernel)
set_option maxRecDepth 100000 in
theorem yw_120 : Cond.fieldLink RX6 27 (TX6 5).1 (TX6 5).2.1 (TX6 5).2.2.1 ∈ z_tbl := z_mem 120 _ (by decide +kernel)
set_option maxRecDepth 100000 in
theorem yw_143 : Cond.classLink "WindHarp$Wood" 18 RX7 ∈ z_tbl := z_mem 143 _ (by decide +kernel)
set_option maxRecDepth 100000 in
theorem yw_144 : Cond.instantiable RX7 4 ∈ z_tbl := z_mem 144 _ (by decide +kernel)
set_option maxRecDepth 100000 in
theorem yw_146 : Cond.instanceMethod yX7_init ∈ z_tbl := z_mem 146 _ (by decide +kernel)
set_option maxRecDepth 100000 in
theorem yw_147 : Cond.code yX7_init cX7_init 1 none ∈ z_tbl := z_mem 147 _ (by decide +kernel)
set_option maxRecDepth 100000 in
theorem yw_148 : Cond.methodLink RX7 3 Lib.objectInit ∈ z_tbl := z_mem 148 _ (by decide +kernel)
set_option maxRecDepth 100000 in
theorem yw_149 : Cond.fieldLink RX7 9 (TX7 0).1 (TX7 0).2.1 (TX7 0).2.2.1 ∈ z_tbl := z_mem 149 _ (by decide +kernel)
set_option maxRecDepth 100000 in
theorem yw_151 : Cond.fieldLink RX7 15 (TX7 1).1 (TX7 1).2.1 (TX7 1).2.2.1 ∈ z_tbl := z_mem 151 _ (by decide +kernel)
set_option maxRecDepth 100000 in
theorem yw_153 : Cond.fieldLink RX7 18 (TX7 2).1 (TX7 2).2.1 (TX7 2).2.2.1 ∈ z_tbl := z_mem 153 _ (by decide +kernel)
set_option maxRecDepth 100000 in
theorem yw_167 : Cond.classLink "WindHarp$Wood" 25 RX2 ∈ z_tbl := z_mem 167 _ (by decide +kernel)
set_option maxRecDepth 100000 in
theorem yw_168 : Cond.instantiable RX2 4 ∈ z_tbl := z_mem 168 _ (by decide +kernel)
set_option maxRecDepth 100000 in
theorem yw_170 : Cond.instanceMethod yX2_init ∈ z_tbl := z_mem 170 _ (by decide +kernel)
set_option maxRecDepth 100000 in
theorem yw_171 : Cond.code yX2_init cX2_init 1 none ∈ z_tbl := z_mem 171 _ (by decide +kernel)
set_option maxRecDepth 100000 in
theorem yw_172 : Cond.methodLink RX2 3 Lib.objectInit ∈ z_tbl := z_mem 172 _ (by decide +kernel)
set_option maxRecDepth 100000 in
theorem yw_173 : Cond.fieldLink RX2 9 (TX2 0).1 (TX2 0).2.1 (TX2 0).2.2.1 ∈ z_tbl := z_mem 173 _ (by decide +kernel)
set_option maxRecDepth 100000 in
theorem yw_175 : Cond.fieldLink RX2 15 (TX2 1).1 (TX2 1).2.1 (TX2 1).2.2.1 ∈ z_tbl := z_mem 175 _ (by decide +kernel)
set_option maxRecDepth 100000 in
theorem yw_177 : Cond.fieldLink RX2 18 (TX2 2).1 (TX2 2).2.1 (TX2 2).2.2.1 ∈ z_tbl := z_mem 177 _ (by decide +kernel)
set_option maxRecDepth 100000 in
theorem yw_192 : Cond.fieldLink RX8 12 (TX8 0).1 (TX8 0).2.1 (TX8 0).2.2.1 ∈ z_tbl := z_mem 192 _ (by decide +kernel)
set_option maxRecDepth 100000 in
theorem yw_196 : Cond.fieldLink RX8 21 (TX8 1).1 (TX8 1).2.1 (TX8 1).2.2.1 ∈ z_tbl := z_mem 196 _ (by decide +kernel)
set_option maxRecDepth 100000 in
theorem yw_199 : Cond.fieldLink RX8 28 (TX8 2).1 (TX8 2).2.1 (TX8 2).2.2.1 ∈ z_tbl := z_mem 199 _ (by decide +kernel)
set_option maxRecDepth 100000 in
theorem yw_201 : Cond.fieldLink RX8 32 (TX8 3).1 (TX8 3).2.1 (TX8 3).2.2.1 ∈ z_tbl := z_mem 201 _ (by decide +kernel)
set_option maxRecDepth 100000 in
theorem yw_228 : Cond.classLink "WindHarp" 39 RX2 ∈ z_tbl := z_mem 228 _ (by decide +kernel)
set_option maxRecDepth 100000 in
theorem yw_230 : Cond.classLink "WindHarp" 46 RX3 ∈ z_tbl := z_mem 230 _ (by decide +kernel)
set_option maxRecDepth 100000 in
theorem yw_231 : Cond.instantiable RX3 4 ∈ z_tbl := z_mem 231 _ (by decide +kernel)
set_option maxRecDepth 100000 in
theorem yw_233 : Cond.instanceMethod yX3_init ∈ z_tbl := z_mem 233 _ (by decide +kernel)
set_option maxRecDepth 100000 in
theorem yw_234 : Cond.code yX3_init cX3_init 1 none ∈ z_tbl := z_mem 234 _ (by decide +kernel)
set_option maxRecDepth 100000 in
theorem yw_235 : Cond.methodLink RX3 3 Lib.objectInit ∈ z_tbl := z_mem 235 _ (by decide +kernel)
set_option maxRecDepth 100000 in
theorem yw_236 : Cond.fieldLink RX3 9 (TX3 0).1 (TX3 0).2.1 (TX3 0).2.2.1 ∈ z_tbl := z_mem 236 _ (by decide +kernel)
set_option maxRecDepth 100000 in
theorem yw_238 : Cond.fieldLink RX3 15 (TX3 1).1 (TX3 1).2.1 (TX3 1).2.2.1 ∈ z_tbl := z_mem 238 _ (by decide +kernel)
set_option maxRecDepth 100000 in
theorem yw_239 : Cond.fieldLink RX3 18 (TX3 2).1 (TX3 2).2.1 (TX3 2).2.2.1 ∈ z_tbl := z_mem 239 _ (by decide +kernel)
set_option maxRecDepth 100000 in
theorem yw_251 : Cond.classLink "WindHarp" 53 RX1 ∈ z_tbl := z_mem 251 _ (by decide +kernel)
set_option maxRecDepth 100000 in
theorem yw_252 : Cond.instantiable RX1 2 ∈ z_tbl := z_mem 252 _ (by decide +kernel)
set_option maxRecDepth 100000 in
theorem yw_254 : Cond.instanceMethod yX1_init ∈ z_tbl := z_mem 254 _ (by decide +kernel)
set_option maxRecDepth 100000 in
theorem yw_255 : Cond.code yX1_init cX1_init 1 none ∈ z_tbl := z_mem 255 _ (by decide +kernel)
set_option maxRecDepth 100000 in
theorem yw_256 : Cond.methodLink RX1 5 Lib.objectInit ∈ z_tbl := z_mem 256 _ (by decide +kernel)
set_option maxRecDepth 100000 in
theorem yw_257 : Cond.fieldLink RX1 11 (TX1 0).1 (TX1 0).2.1 (TX1 0).2.2.1 ∈ z_tbl := z_mem 257 _ (by decide +kernel)
set_option maxRecDepth 100000 in
theorem yw_263 : Cond.classLink "WindHarp" 60 RX0 ∈ z_tbl := z_mem 263 _ (by decide +kernel)
set_option maxRecDepth 100000 in
theorem yw_264 : Cond.instantiable RX0 6 ∈ z_tbl := z_mem 264 _ (by decide +kernel)
set_option maxRecDepth 100000 in
theorem yw_266 : Cond.instanceMethod yX0_init ∈ z_tbl := z_mem 266 _ (by decide +kernel)
set_option maxRecDepth 100000 in
theorem yw_267 : Cond.code yX0_init cX0_init 1 none ∈ z_tbl := z_mem 267 _ (by decide +kernel)
set_option maxRecDepth 100000 in
theorem yw_268 : Cond.methodLink RX0 3 Lib.objectInit ∈ z_tbl := z_mem 268 _ (by decide +kernel)
set_option maxRecDepth 100000 in
theorem yw_269 : Cond.fieldLink RX0 11 (TX0 0).1 (TX0 0).2.1 (TX0 0).2.2.1 ∈ z_tbl := z_mem 269 _ (by decide +kernel)
set_option maxRecDepth 100000 in
theorem yw_283 : Cond.fieldLink RX9 10 (TX9 0).1 (TX9 0).2.1 (TX9 0).2.2.1 ∈ z_tbl := z_mem 283 _ (by decide +kernel)
set_option maxRecDepth 100000 in
theorem yw_284 : Cond.fieldLink RX9 19 (TX9 1).1 (TX9 1).2.1 (TX9 1).2.2.1 ∈ z_tbl := z_mem 284 _ (by decide +kernel)
set_option maxRecDepth 100000 in
theorem yw_285 : Cond.fieldLink RX9 26 (TX9 2).1 (TX9 2).2.1 (TX9 2).2.2.1 ∈ z_tbl := z_mem 285 _ (by decide +kernel)
set_option maxRecDepth 100000 in
theorem yw_286 : Cond.fieldLink RX9 30 (TX9 3).1 (TX9 3).2.1 (TX9 3).2.2.1 ∈ z_tbl := z_mem 286 _ (by decide +kernel)
set_option maxRecDepth 100000 in
theorem yw_287 : Cond.fieldLink RX9 33 (TX9 4).1 (TX9 4).2.1 (TX9 4).2.2.1 ∈ z_tbl := z_mem 287 _ (by decide +kernel)
set_option maxRecDepth 100000 in
theorem yw_288 : Cond.fieldLink RX9 36 (TX9 5).1 (TX9 5).2.1 (TX9 5).2.2.1 ∈ z_tbl := z_mem 288 _ (by decide +kernel)
set_option maxRecDepth 100000 in
theorem yw_289 : Cond.fieldLink RX9 42 (TX9 6).1 (TX9 6).2.1 (TX9 6).2.2.1 ∈ z_tbl := z_mem 289 _ (by decide +kernel)
set_option maxRecDepth 100000 in
theorem yw_290 : Cond.fieldLink RX9 49 (TX9 7).1 (TX9 7).2.1 (TX9 7).2.2.1 ∈ z_tbl := z_mem 290 _ (by decide +kernel)
set_option maxRecDepth 100000 in
theorem yw_291 : Cond.fieldLink RX9 56 (TX9 8).1 (TX9 8).2.1 (TX9 8).2.2.1 ∈ z_tbl := z_mem 291 _ (by decide +kernel)
set_option maxRecDepth 100000 in
theorem yw_292 : Cond.fieldLink RX9 63 (TX9 9).1 (TX9 9).2.1 (TX9 9).2.2.1 ∈ z_tbl := z_mem 292 _ (by decide +kernel)
set_option maxRecDepth 100000 in
theorem yw_293 : Cond.fieldLink RX9 67 (TX9 10).1 (TX9 10).2.1 (TX9 10).2.2.1 ∈ z_tbl := z_mem 293 _ (by decide +kernel)
def okX4 (k : Nat) : Prop := k = 1
theorem fr_X4 : ∀ j, j < 7 → defaultValue (tyX4 j) = vp_V (y_fr 4) j := fun j hj => by
  rcases j with _ | _ | _ | _ | _ | _ | _ | j <;> first | rfl | omega
set_option maxHeartbeats 4000000 in
set_option maxRecDepth 100000 in
theorem c_X4_init (l : Launch) : y_OK l yX4_init cX4_init 4 1 400 1 12 okX4 := by
  intro D cA B k hk
  refine Met.ofW (cc := cX4_init) (maxL := 1) (ret := none) (by decide) rfl ?_
  intro p e s m args below meth c s₁ Bd hml hv
  obtain ⟨rfl, hP, hK, hN⟩ := hv
  have hx := Bd.exec
  have hb := Bd.bytes
  have hr := Bd.returns
  have hts0 := atoms_spec (ws := (.code yX4_init cX4_init 1 none :: z_tbl)) Bd.pre
  have hts : ∀ w ∈ z_tbl, w.before [Value.ref (B + k)].toArray s = true := fun w hw => hts0 w (List.mem_cons_of_mem _ hw)
  have hown : s.vm.findClass RX4 = some m.cls := findClass_of_methodNamed Bd.named
  have hlocks := Bd.notSynchronized
  have hin : meth.name = "<init>" := (name_of_methodNamed Bd.named Bd.method).1
  have hA : ∀ q, B + k ≤ q → (fun q => B + k ≤ q) q := fun _ h => h
  have hS : va_S (fun q => B + k ≤ q) s.heap s.heap [] := va_S.rf
  have hl := lv_entry ([.ref (B + k)]) (n := 1) (Nat.le_of_ble_eq_true rfl)
  rw [lg_entry_eq]
  generalize (lg_sl ([.ref (B + k)]) ++ List.replicate (1 - (lg_sl ([.ref (B + k)])).length) Slot.unset).toArray = ls at hl ⊢
  have hl : lv_has ls 1 [(0, .ref (B + k))] := hl
  refine lv_aload_n hx hb dX4_init_0 rfl (lv_at hl 0 rfl) ?_
  refine W.objInit hx hb hown (hts _ yw_46) (hts _ yw_39) (hts _ yw_40) rfl (by rw [hml]; exact hl.1) rfl dX4_init_1 (Nat.le_of_ble_eq_true rfl) (Nat.le_of_ble_eq_true rfl) ?_
  refine W.eq (g2 := F0 m 4 ls []) rfl ?_
  refine lv_aload_n hx hb dX4_init_4 rfl (lv_at hl 0 rfl) ?_
  refine lv_sipush (v := 400) hx hb dX4_init_5 (by decide) ?_
  refine y_na2 (atype := .byte) (ci := 4) (t := 1) (ty := .byte) (N := 400) hx hb (hts _ yw_72) rfl (by decide) rfl hK hP hS (by decide) (by decide) (by decide) (Nat.le_of_ble_eq_true rfl) (Nat.le_of_ble_eq_true rfl) (by rcases hk with rfl <;> decide +kernel) (by omega) (by rcases hk with rfl <;> decide) dX4_init_8 (fun H1 hP hS => ?_)
  have hP : y_P D B k (k + 2) (y_e cA B k 4 (y_fr 4)) H1 := hP
  refine W.widen (k := 1) (n := 400) (by omega) (by omega) ?_
  refine y_pf2 (j := 0) (ty := tyX4 0) hx hb hts cls_X4 hown hK hP hS hA (by omega) (Nat.le_of_ble_eq_true rfl) (Nat.le_of_ble_eq_true rfl) yw_47 rfl hin rfl (tyX4_ok 0 (Nat.le_of_ble_eq_true rfl)) rfl rfl dX4_init_10 (fun H1 locs1 hP hS => ?_)
  have hP : y_P D B k (k + 2) (y_e cA B k 4 ((y_fr 4).set 0 (.ref (B + (k + 1))))) H1 := hP
  have hP : y_P D B k (k + 1 + 1) (y_E cA B) H1 := hP.congr (y_cg2 (c := 4) (by rcases hk with rfl <;> decide +kernel) (by decide) (by rcases hk with rfl <;> decide) rfl)
  exact W.vret hx hb hr (fun t ht hW => ⟨⟨(), rfl, trivial, by dsimp only; rw [ht]; exact hP⟩, hS.F ht⟩) hS.2.2 dX4_init_13
def okX5 (k : Nat) : Prop := k = 3
theorem fr_X5 : ∀ j, j < 4 → defaultValue (tyX5 j) = vp_V (y_fr 5) j := fun j hj => by
  rcases j with _ | _ | _ | _ | j <;> first | rfl | omega
set_option maxHeartbeats 4000000 in
set_option maxRecDepth 100000 in
theorem c_X5_init (l : Launch) : y_OK l yX5_init cX5_init 5 4 344 1 12 okX5 := by
  intro D cA B k hk
  refine Met.ofW (cc := cX5_init) (maxL := 1) (ret := none) (by decide) rfl ?_
  intro p e s m args below meth c s₁ Bd hml hv
  obtain ⟨rfl, hP, hK, hN⟩ := hv
  have hx := Bd.exec
  have hb := Bd.bytes
  have hr := Bd.returns
  have hts0 := atoms_spec (ws := (.code yX5_init cX5_init 1 none :: z_tbl)) Bd.pre
  have hts : ∀ w ∈ z_tbl, w.before [Value.ref (B + k)].toArray s = true := fun w hw => hts0 w (List.mem_cons_of_mem _ hw)
  have hown : s.vm.findClass RX5 = some m.cls := findClass_of_methodNamed Bd.named
  have hlocks := Bd.notSynchronized
  have hin : meth.name = "<init>" := (name_of_methodNamed Bd.named Bd.method).1
  have hA : ∀ q, B + k ≤ q → (fun q => B + k ≤ q) q := fun _ h => h
  have hS : va_S (fun q => B + k ≤ q) s.heap s.heap [] := va_S.rf
  have hl := lv_entry ([.ref (B + k)]) (n := 1) (Nat.le_of_ble_eq_true rfl)
  rw [lg_entry_eq]
  generalize (lg_sl ([.ref (B + k)]) ++ List.replicate (1 - (lg_sl ([.ref (B + k)])).length) Slot.unset).toArray = ls at hl ⊢
  have hl : lv_has ls 1 [(0, .ref (B + k))] := hl
  refine lv_aload_n hx hb dX5_init_0 rfl (lv_at hl 0 rfl) ?_
  refine W.objInit hx hb hown (hts _ yw_78) (hts _ yw_39) (hts _ yw_40) rfl (by rw [hml]; exact hl.1) rfl dX5_init_1 (Nat.le_of_ble_eq_true rfl) (Nat.le_of_ble_eq_true rfl) ?_
  refine W.eq (g2 := F0 m 4 ls []) rfl ?_
  refine lv_aload_n hx hb dX5_init_4 rfl (lv_at hl 0 rfl) ?_
  refine lv_bipush (v := 8) hx hb dX5_init_5 (by decide) ?_
  refine y_na2 (atype := .boolean) (ci := 5) (t := 2) (ty := .boolean) (N := 8) hx hb (hts _ yw_92) rfl (by decide) rfl hK hP hS (by decide) (by decide) (by decide) (Nat.le_of_ble_eq_true rfl) (Nat.le_of_ble_eq_true rfl) (by rcases hk with rfl <;> decide +kernel) (by omega) (by rcases hk with rfl <;> decide) dX5_init_7 (fun H1 hP hS => ?_)
  have hP : y_P D B k (k + 2) (y_e cA B k 5 (y_fr 5)) H1 := hP
  refine W.widen (k := 1) (n := 8) (by omega) (by omega) ?_
  refine y_pf2 (j := 0) (ty := tyX5 0) hx hb hts cls_X5 hown hK hP hS hA (by omega) (Nat.le_of_ble_eq_true rfl) (Nat.le_of_ble_eq_true rfl) yw_79 rfl hin rfl (tyX5_ok 0 (Nat.le_of_ble_eq_true rfl)) rfl rfl dX5_init_9 (fun H1 locs1 hP hS => ?_)
  have hP : y_P D B k (k + 2) (y_e cA B k 5 ((y_fr 5).set 0 (.ref (B + (k + 1))))) H1 := hP
  refine lv_aload_n hx hb dX5_init_12 rfl (lv_at hl 0 rfl) ?_
  refine lv_bipush (v := 8) hx hb dX5_init_13 (by decide) ?_
  refine y_na2 (atype := .int) (ci := 5) (t := 0) (ty := .int) (N := 8) hx hb (hts _ yw_93) rfl (by decide) rfl hK hP hS (by decide) (by decide) (by decide) (Nat.le_of_ble_eq_true rfl) (Nat.le_of_ble_eq_true rfl) (by rcases hk with rfl <;> decide +kernel) (by omega) (by rcases hk with rfl <;> decide) dX5_init_15 (fun H1 hP hS => ?_)
  have hP : y_P D B k (k + 3) (y_e cA B k 5 ((y_fr 5).set 0 (.ref (B + (k + 1))))) H1 := hP
  refine W.widen (k := 2) (n := 16) (by omega) (by omega) ?_
  refine y_pf2 (j := 1) (ty := tyX5 1) hx hb hts cls_X5 hown hK hP hS hA (by omega) (Nat.le_of_ble_eq_true rfl) (Nat.le_of_ble_eq_true rfl) yw_80 rfl hin rfl (tyX5_ok 1 (Nat.le_of_ble_eq_true rfl)) rfl rfl dX5_init_17 (fun H1 locs1 hP hS => ?_)
  have hP : y_P D B k (k + 3) (y_e cA B k 5 (((y_fr 5).set 0 (.ref (B + (k + 1)))).set 1 (.ref (B + (k + 2))))) H1 := hP
  refine lv_aload_n hx hb dX5_init_20 rfl (lv_at hl 0 rfl) ?_
  refine lv_bipush (v := 8) hx hb dX5_init_21 (by decide) ?_
  refine y_na2 (atype := .int) (ci := 5) (t := 0) (ty := .int) (N := 8) hx hb (hts _ yw_93) rfl (by decide) rfl hK hP hS (by decide) (by decide) (by decide) (Nat.le_of_ble_eq_true rfl) (Nat.le_of_ble_eq_true rfl) (by rcases hk with rfl <;> decide +kernel) (by omega) (by rcases hk with rfl <;> decide) dX5_init_23 (fun H1 hP hS => ?_)
  have hP : y_P D B k (k + 4) (y_e cA B k 5 (((y_fr 5).set 0 (.ref (B + (k + 1)))).set 1 (.ref (B + (k + 2))))) H1 := hP
  refine W.widen (k := 3) (n := 24) (by omega) (by omega) ?_
  refine y_pf2 (j := 2) (ty := tyX5 2) hx hb hts cls_X5 hown hK hP hS hA (by omega) (Nat.le_of_ble_eq_true rfl) (Nat.le_of_ble_eq_true rfl) yw_81 rfl hin rfl (tyX5_ok 2 (Nat.le_of_ble_eq_true rfl)) rfl rfl dX5_init_25 (fun H1 locs1 hP hS => ?_)
  have hP : y_P D B k (k + 4) (y_e cA B k 5 ((((y_fr 5).set 0 (.ref (B + (k + 1)))).set 1 (.ref (B + (k + 2)))).set 2 (.ref (B + (k + 3))))) H1 := hP
  refine lv_aload_n hx hb dX5_init_28 rfl (lv_at hl 0 rfl) ?_
  refine lv_sipush (v := 320) hx hb dX5_init_29 (by decide) ?_
  refine y_na2 (atype := .int) (ci := 5) (t := 0) (ty := .int) (N := 320) hx hb (hts _ yw_93) rfl (by decide) rfl hK hP hS (by decide) (by decide) (by decide) (Nat.le_of_ble_eq_true rfl) (Nat.le_of_ble_eq_true rfl) (by rcases hk with rfl <;> decide +kernel) (by omega) (by rcases hk with rfl <;> decide) dX5_init_32 (fun H1 hP hS => ?_)
  have hP : y_P D B k (k + 5) (y_e cA B k 5 ((((y_fr 5).set 0 (.ref (B + (k + 1)))).set 1 (.ref (B + (k + 2)))).set 2 (.ref (B + (k + 3))))) H1 := hP
  refine W.widen (k := 4) (n := 344) (by omega) (by omega) ?_
  refine y_pf2 (j := 3) (ty := tyX5 3) hx hb hts cls_X5 hown hK hP hS hA (by omega) (Nat.le_of_ble_eq_true rfl) (Nat.le_of_ble_eq_true rfl) yw_82 rfl hin rfl (tyX5_ok 3 (Nat.le_of_ble_eq_true rfl)) rfl rfl dX5_init_34 (fun H1 locs1 hP hS => ?_)
  have hP : y_P D B k (k + 5) (y_e cA B k 5 (((((y_fr 5).set 0 (.ref (B + (k + 1)))).set 1 (.ref (B + (k + 2)))).set 2 (.ref (B + (k + 3)))).set 3 (.ref (B + (k + 4))))) H1 := hP
  have hP : y_P D B k (k + 1 + 4) (y_E cA B) H1 := hP.congr (y_cg2 (c := 5) (by rcases hk with rfl <;> decide +kernel) (by decide) (by rcases hk with rfl <;> decide) rfl)
  exact W.vret hx hb hr (fun t ht hW => ⟨⟨(), rfl, trivial, by dsimp only; rw [ht]; exact hP⟩, hS.F ht⟩) hS.2.2 dX5_init_37
def okX6 (k : Nat) : Prop := k = 9 ∨ k = 26 ∨ k = 43 ∨ k = 60
theorem fr_X6 : ∀ j, j < 7 → defaultValue (tyX6 j) = vp_V (y_fr 6) j := fun j hj => by
  rcases j with _ | _ | _ | _ | _ | _ | _ | j <;> first | rfl | omega
set_option maxHeartbeats 4000000 in
set_option maxRecDepth 100000 in
theorem c_X6_init (l : Launch) : y_OK l yX6_init cX6_init 6 6 72 1 12 okX6 := by
  intro D cA B k hk
  refine Met.ofW (cc := cX6_init) (maxL := 1) (ret := none) (by decide) rfl ?_
  intro p e s m args below meth c s₁ Bd hml hv
  obtain ⟨rfl, hP, hK, hN⟩ := hv
  have hx := Bd.exec
  have hb := Bd.bytes
  have hr := Bd.returns
  have hts0 := atoms_spec (ws := (.code yX6_init cX6_init 1 none :: z_tbl)) Bd.pre
  have hts : ∀ w ∈ z_tbl, w.before [Value.ref (B + k)].toArray s = true := fun w hw => hts0 w (List.mem_cons_of_mem _ hw)
  have hown : s.vm.findClass RX6 = some m.cls := findClass_of_methodNamed Bd.named
  have hlocks := Bd.notSynchronized
  have hin : meth.name = "<init>" := (name_of_methodNamed Bd.named Bd.method).1
  have hA : ∀ q, B + k ≤ q → (fun q => B + k ≤ q) q := fun _ h => h
  have hS : va_S (fun q => B + k ≤ q) s.heap s.heap [] := va_S.rf
  have hl := lv_entry ([.ref (B + k)]) (n := 1) (Nat.le_of_ble_eq_true rfl)
  rw [lg_entry_eq]
  generalize (lg_sl ([.ref (B + k)]) ++ List.replicate (1 - (lg_sl ([.ref (B + k)])).length) Slot.unset).toArray = ls at hl ⊢
  have hl : lv_has ls 1 [(0, .ref (B + k))] := hl
  refine lv_aload_n hx hb dX6_init_0 rfl (lv_at hl 0 rfl) ?_
  refine W.objInit hx hb hown (hts _ yw_105) (hts _ yw_39) (hts _ yw_40) rfl (by rw [hml]; exact hl.1) rfl dX6_init_1 (Nat.le_of_ble_eq_true rfl) (Nat.le_of_ble_eq_true rfl) ?_
  refine W.eq (g2 := F0 m 4 ls []) rfl ?_
  refine lv_aload_n hx hb dX6_init_4 rfl (lv_at hl 0 rfl) ?_
  refine lv_bipush (v := 12) hx hb dX6_init_5 (by decide) ?_
  refine y_na2 (atype := .int) (ci := 6) (t := 0) (ty := .int) (N := 12) hx hb (hts _ yw_93) rfl (by decide) rfl hK hP hS (by decide) (by decide) (by decide) (Nat.le_of_ble_eq_true rfl) (Nat.le_of_ble_eq_true rfl) (by rcases hk with rfl | rfl | rfl | rfl <;> decide +kernel) (by omega) (by rcases hk with rfl | rfl | rfl | rfl <;> decide) dX6_init_7 (fun H1 hP hS => ?_)
  have hP : y_P D B k (k + 2) (y_e cA B k 6 (y_fr 6)) H1 := hP
  refine W.widen (k := 1) (n := 12) (by omega) (by omega) ?_
  refine y_pf2 (j := 0) (ty := tyX6 0) hx hb hts cls_X6 hown hK hP hS hA (by omega) (Nat.le_of_ble_eq_true rfl) (Nat.le_of_ble_eq_true rfl) yw_106 rfl hin rfl (tyX6_ok 0 (Nat.le_of_ble_eq_true rfl)) rfl rfl dX6_init_9 (fun H1 locs1 hP hS => ?_)
  have hP : y_P D B k (k + 2) (y_e cA B k 6 ((y_fr 6).set 0 (.ref (B + (k + 1))))) H1 := hP
  refine lv_aload_n hx hb dX6_init_12 rfl (lv_at hl 0 rfl) ?_
  refine lv_bipush (v := 12) hx hb dX6_init_13 (by decide) ?_
  refine y_na2 (atype := .int) (ci := 6) (t := 0) (ty := .int) (N := 12) hx hb (hts _ yw_93) rfl (by decide) rfl hK hP hS (by decide) (by decide) (by decide) (Nat.le_of_ble_eq_true rfl) (Nat.le_of_ble_eq_true rfl) (by rcases hk with rfl | rfl | rfl | rfl <;> decide +kernel) (by omega) (by rcases hk with rfl | rfl | rfl | rfl <;> decide) dX6_init_15 (fun H1 hP hS => ?_)
  have hP : y_P D B k (k + 3) (y_e cA B k 6 ((y_fr 6).set 0 (.ref (B + (k + 1))))) H1 := hP
  refine W.widen (k := 2) (n := 24) (by omega) (by omega) ?_
  refine y_pf2 (j := 1) (ty := tyX6 1) hx hb hts cls_X6 hown hK hP hS hA (by omega) (Nat.le_of_ble_eq_true rfl) (Nat.le_of_ble_eq_true rfl) yw_109 rfl hin rfl (tyX6_ok 1 (Nat.le_of_ble_eq_true rfl)) rfl rfl dX6_init_17 (fun H1 locs1 hP hS => ?_)
  have hP : y_P D B k (k + 3) (y_e cA B k 6 (((y_fr 6).set 0 (.ref (B + (k + 1)))).set 1 (.ref (B + (k + 2))))) H1 := hP
  refine lv_aload_n hx hb dX6_init_20 rfl (lv_at hl 0 rfl) ?_
  refine lv_bipush (v := 12) hx hb dX6_init_21 (by decide) ?_
  refine y_na2 (atype := .int) (ci := 6) (t := 0) (ty := .int) (N := 12) hx hb (hts _ yw_93) rfl (by decide) rfl hK hP hS (by decide) (by decide) (by decide) (Nat.le_of_ble_eq_true rfl) (Nat.le_of_ble_eq_true rfl) (by rcases hk with rfl | rfl | rfl | rfl <;> decide +kernel) (by omega) (by rcases hk with rfl | rfl | rfl | rfl <;> decide) dX6_init_23 (fun H1 hP hS => ?_)
  have hP : y_P D B k (k + 4) (y_e cA B k 6 (((y_fr 6).set 0 (.ref (B + (k + 1)))).set 1 (.ref (B + (k + 2))))) H1 := hP
  refine W.widen (k := 3) (n := 36) (by omega) (by omega) ?_
  refine y_pf2 (j := 2) (ty := tyX6 2) hx hb hts cls_X6 hown hK hP hS hA (by omega) (Nat.le_of_ble_eq_true rfl) (Nat.le_of_ble_eq_true rfl) yw_112 rfl hin rfl (tyX6_ok 2 (Nat.le_of_ble_eq_true rfl)) rfl rfl dX6_init_25 (fun H1 locs1 hP hS => ?_)
  have hP : y_P D B k (k + 4) (y_e cA B k 6 ((((y_fr 6).set 0 (.ref (B + (k + 1)))).set 1 (.ref (B + (k + 2)))).set 2 (.ref (B + (k + 3))))) H1 := hP
  refine lv_aload_n hx hb dX6_init_28 rfl (lv_at hl 0 rfl) ?_
  refine lv_bipush (v := 12) hx hb dX6_init_29 (by decide) ?_
  refine y_na2 (atype := .int) (ci := 6) (t := 0) (ty := .int) (N := 12) hx hb (hts _ yw_93) rfl (by decide) rfl hK hP hS (by decide) (by decide) (by decide) (Nat.le_of_ble_eq_true rfl) (Nat.le_of_ble_eq_true rfl) (by rcases hk with rfl | rfl | rfl | rfl <;> decide +kernel) (by omega) (by rcases hk with rfl | rfl | rfl | rfl <;> decide) dX6_init_31 (fun H1 hP hS => ?_)
  have hP : y_P D B k (k + 5) (y_e cA B k 6 ((((y_fr 6).set 0 (.ref (B + (k + 1)))).set 1 (.ref (B + (k + 2)))).set 2 (.ref (B + (k + 3))))) H1 := hP
  refine W.widen (k := 4) (n := 48) (by omega) (by omega) ?_
  refine y_pf2 (j := 3) (ty := tyX6 3) hx hb hts cls_X6 hown hK hP hS hA (by omega) (Nat.le_of_ble_eq_true rfl) (Nat.le_of_ble_eq_true rfl) yw_115 rfl hin rfl (tyX6_ok 3 (Nat.le_of_ble_eq_true rfl)) rfl rfl dX6_init_33 (fun H1 locs1 hP hS => ?_)
  have hP : y_P D B k (k + 5) (y_e cA B k 6 (((((y_fr 6).set 0 (.ref (B + (k + 1)))).set 1 (.ref (B + (k + 2)))).set 2 (.ref (B + (k + 3)))).set 3 (.ref (B + (k + 4))))) H1 := hP
  refine lv_aload_n hx hb dX6_init_36 rfl (lv_at hl 0 rfl) ?_
  refine lv_bipush (v := 12) hx hb dX6_init_37 (by decide) ?_
  refine y_na2 (atype := .int) (ci := 6) (t := 0) (ty := .int) (N := 12) hx hb (hts _ yw_93) rfl (by decide) rfl hK hP hS (by decide) (by decide) (by decide) (Nat.le_of_ble_eq_true rfl) (Nat.le_of_ble_eq_true rfl) (by rcases hk with rfl | rfl | rfl | rfl <;> decide +kernel) (by omega) (by rcases hk with rfl | rfl | rfl | rfl <;> decide) dX6_init_39 (fun H1 hP hS => ?_)
  have hP : y_P D B k (k + 6) (y_e cA B k 6 (((((y_fr 6).set 0 (.ref (B + (k + 1)))).set 1 (.ref (B + (k + 2)))).set 2 (.ref (B + (k + 3)))).set 3 (.ref (B + (k + 4))))) H1 := hP
  refine W.widen (k := 5) (n := 60) (by omega) (by omega) ?_
  refine y_pf2 (j := 4) (ty := tyX6 4) hx hb hts cls_X6 hown hK hP hS hA (by omega) (Nat.le_of_ble_eq_true rfl) (Nat.le_of_ble_eq_true rfl) yw_117 rfl hin rfl (tyX6_ok 4 (Nat.le_of_ble_eq_true rfl)) rfl rfl dX6_init_41 (fun H1 locs1 hP hS => ?_)
  have hP : y_P D B k (k + 6) (y_e cA B k 6 ((((((y_fr 6).set 0 (.ref (B + (k + 1)))).set 1 (.ref (B + (k + 2)))).set 2 (.ref (B + (k + 3)))).set 3 (.ref (B + (k + 4)))).set 4 (.ref (B + (k + 5))))) H1 := hP
  refine lv_aload_n hx hb dX6_init_44 rfl (lv_at hl 0 rfl) ?_
  refine lv_bipush (v := 12) hx hb dX6_init_45 (by decide) ?_
  refine y_na2 (atype := .int) (ci := 6) (t := 0) (ty := .int) (N := 12) hx hb (hts _ yw_93) rfl (by decide) rfl hK hP hS (by decide) (by decide) (by decide) (Nat.le_of_ble_eq_true rfl) (Nat.le_of_ble_eq_true rfl) (by rcases hk with rfl | rfl | rfl | rfl <;> decide +kernel) (by omega) (by rcases hk with rfl | rfl | rfl | rfl <;> decide) dX6_init_47 (fun H1 hP hS => ?_)
  have hP : y_P D B k (k + 7) (y_e cA B k 6 ((((((y_fr 6).set 0 (.ref (B + (k + 1)))).set 1 (.ref (B + (k + 2)))).set 2 (.ref (B + (k + 3)))).set 3 (.ref (B + (k + 4)))).set 4 (.ref (B + (k + 5))))) H1 := hP
  refine W.widen (k := 6) (n := 72) (by omega) (by omega) ?_
  refine y_pf2 (j := 5) (ty := tyX6 5) hx hb hts cls_X6 hown hK hP hS hA (by omega) (Nat.le_of_ble_eq_true rfl) (Nat.le_of_ble_eq_true rfl) yw_120 rfl hin rfl (tyX6_ok 5 (Nat.le_of_ble_eq_true rfl)) rfl rfl dX6_init_49 (fun H1 locs1 hP hS => ?_)
  have hP : y_P D B k (k + 7) (y_e cA B k 6 (((((((y_fr 6).set 0 (.ref (B + (k + 1)))).set 1 (.ref (B + (k + 2)))).set 2 (.ref (B + (k + 3)))).set 3 (.ref (B + (k + 4)))).set 4 (.ref (B + (k + 5)))).set 5 (.ref (B + (k + 6))))) H1 := hP
  have hP : y_P D B k (k + 1 + 6) (y_E cA B) H1 := hP.congr (y_cg2 (c := 6) (by rcases hk with rfl | rfl | rfl | rfl <;> decide +kernel) (by decide) (by rcases hk with rfl | rfl | rfl | rfl <;> decide) rfl)
  exact W.vret hx hb hr (fun t ht hW => ⟨⟨(), rfl, trivial, by dsimp only; rw [ht]; exact hP⟩, hS.F ht⟩) hS.2.2 dX6_init_52
def okX7 (k : Nat) : Prop := k = 16 ∨ k = 33 ∨ k = 50 ∨ k = 67
theorem fr_X7 : ∀ j, j < 4 → defaultValue (tyX7 j) = vp_V (y_fr 7) j := fun j hj => by
  rcases j with _ | _ | _ | _ | j <;> first | rfl | omega
set_option maxHeartbeats 4000000 in
set_option maxRecDepth 100000 in
theorem c_X7_init (l : Launch) : y_OK l yX7_init cX7_init 7 3 18 1 12 okX7 := by
  intro D cA B k hk
  refine Met.ofW (cc := cX7_init) (maxL := 1) (ret := none) (by decide) rfl ?_
  intro p e s m args below meth c s₁ Bd hml hv
  obtain ⟨rfl, hP, hK, hN⟩ := hv
  have hx := Bd.exec
  have hb := Bd.bytes
  have hr := Bd.returns
  have hts0 := atoms_spec (ws := (.code yX7_init cX7_init 1 none :: z_tbl)) Bd.pre
  have hts : ∀ w ∈ z_tbl, w.before [Value.ref (B + k)].toArray s = true := fun w hw => hts0 w (List.mem_cons_of_mem _ hw)
  have hown : s.vm.findClass RX7 = some m.cls := findClass_of_methodNamed Bd.named
  have hlocks := Bd.notSynchronized
  have hin : meth.name = "<init>" := (name_of_methodNamed Bd.named Bd.method).1
  have hA : ∀ q, B + k ≤ q → (fun q => B + k ≤ q) q := fun _ h => h
  have hS : va_S (fun q => B + k ≤ q) s.heap s.heap [] := va_S.rf
  have hl := lv_entry ([.ref (B + k)]) (n := 1) (Nat.le_of_ble_eq_true rfl)
  rw [lg_entry_eq]
  generalize (lg_sl ([.ref (B + k)]) ++ List.replicate (1 - (lg_sl ([.ref (B + k)])).length) Slot.unset).toArray = ls at hl ⊢
  have hl : lv_has ls 1 [(0, .ref (B + k))] := hl
  refine lv_aload_n hx hb dX7_init_0 rfl (lv_at hl 0 rfl) ?_
  refine W.objInit hx hb hown (hts _ yw_148) (hts _ yw_39) (hts _ yw_40) rfl (by rw [hml]; exact hl.1) rfl dX7_init_1 (Nat.le_of_ble_eq_true rfl) (Nat.le_of_ble_eq_true rfl) ?_
  refine W.eq (g2 := F0 m 4 ls []) rfl ?_
  refine lv_aload_n hx hb dX7_init_4 rfl (lv_at hl 0 rfl) ?_
  refine lv_bipush (v := 6) hx hb dX7_init_5 (by decide) ?_
  refine y_na2 (atype := .int) (ci := 7) (t := 0) (ty := .int) (N := 6) hx hb (hts _ yw_93) rfl (by decide) rfl hK hP hS (by decide) (by decide) (by decide) (Nat.le_of_ble_eq_true rfl) (Nat.le_of_ble_eq_true rfl) (by rcases hk with rfl | rfl | rfl | rfl <;> decide +kernel) (by omega) (by rcases hk with rfl | rfl | rfl | rfl <;> decide) dX7_init_7 (fun H1 hP hS => ?_)
  have hP : y_P D B k (k + 2) (y_e cA B k 7 (y_fr 7)) H1 := hP
  refine W.widen (k := 1) (n := 6) (by omega) (by omega) ?_
  refine y_pf2 (j := 0) (ty := tyX7 0) hx hb hts cls_X7 hown hK hP hS hA (by omega) (Nat.le_of_ble_eq_true rfl) (Nat.le_of_ble_eq_true rfl) yw_149 rfl hin rfl (tyX7_ok 0 (Nat.le_of_ble_eq_true rfl)) rfl rfl dX7_init_9 (fun H1 locs1 hP hS => ?_)
  have hP : y_P D B k (k + 2) (y_e cA B k 7 ((y_fr 7).set 0 (.ref (B + (k + 1))))) H1 := hP
  refine lv_aload_n hx hb dX7_init_12 rfl (lv_at hl 0 rfl) ?_
  refine lv_bipush (v := 6) hx hb dX7_init_13 (by decide) ?_
  refine y_na2 (atype := .int) (ci := 7) (t := 0) (ty := .int) (N := 6) hx hb (hts _ yw_93) rfl (by decide) rfl hK hP hS (by decide) (by decide) (by decide) (Nat.le_of_ble_eq_true rfl) (Nat.le_of_ble_eq_true rfl) (by rcases hk with rfl | rfl | rfl | rfl <;> decide +kernel) (by omega) (by rcases hk with rfl | rfl | rfl | rfl <;> decide) dX7_init_15 (fun H1 hP hS => ?_)
  have hP : y_P D B k (k + 3) (y_e cA B k 7 ((y_fr 7).set 0 (.ref (B + (k + 1))))) H1 := hP
  refine W.widen (k := 2) (n := 12) (by omega) (by omega) ?_
  refine y_pf2 (j := 1) (ty := tyX7 1) hx hb hts cls_X7 hown hK hP hS hA (by omega) (Nat.le_of_ble_eq_true rfl) (Nat.le_of_ble_eq_true rfl) yw_151 rfl hin rfl (tyX7_ok 1 (Nat.le_of_ble_eq_true rfl)) rfl rfl dX7_init_17 (fun H1 locs1 hP hS => ?_)
  have hP : y_P D B k (k + 3) (y_e cA B k 7 (((y_fr 7).set 0 (.ref (B + (k + 1)))).set 1 (.ref (B + (k + 2))))) H1 := hP
  refine lv_aload_n hx hb dX7_init_20 rfl (lv_at hl 0 rfl) ?_
  refine lv_bipush (v := 6) hx hb dX7_init_21 (by decide) ?_
  refine y_na2 (atype := .int) (ci := 7) (t := 0) (ty := .int) (N := 6) hx hb (hts _ yw_93) rfl (by decide) rfl hK hP hS (by decide) (by decide) (by decide) (Nat.le_of_ble_eq_true rfl) (Nat.le_of_ble_eq_true rfl) (by rcases hk with rfl | rfl | rfl | rfl <;> decide +kernel) (by omega) (by rcases hk with rfl | rfl | rfl | rfl <;> decide) dX7_init_23 (fun H1 hP hS => ?_)
  have hP : y_P D B k (k + 4) (y_e cA B k 7 (((y_fr 7).set 0 (.ref (B + (k + 1)))).set 1 (.ref (B + (k + 2))))) H1 := hP
  refine W.widen (k := 3) (n := 18) (by omega) (by omega) ?_
  refine y_pf2 (j := 2) (ty := tyX7 2) hx hb hts cls_X7 hown hK hP hS hA (by omega) (Nat.le_of_ble_eq_true rfl) (Nat.le_of_ble_eq_true rfl) yw_153 rfl hin rfl (tyX7_ok 2 (Nat.le_of_ble_eq_true rfl)) rfl rfl dX7_init_25 (fun H1 locs1 hP hS => ?_)
  have hP : y_P D B k (k + 4) (y_e cA B k 7 ((((y_fr 7).set 0 (.ref (B + (k + 1)))).set 1 (.ref (B + (k + 2)))).set 2 (.ref (B + (k + 3))))) H1 := hP
  have hP : y_P D B k (k + 1 + 3) (y_E cA B) H1 := hP.congr (y_cg2 (c := 7) (by rcases hk with rfl | rfl | rfl | rfl <;> decide +kernel) (by decide) (by rcases hk with rfl | rfl | rfl | rfl <;> decide) rfl)
  exact W.vret hx hb hr (fun t ht hW => ⟨⟨(), rfl, trivial, by dsimp only; rw [ht]; exact hP⟩, hS.F ht⟩) hS.2.2 dX7_init_28
def okX2 (k : Nat) : Prop := k = 20 ∨ k = 37 ∨ k = 54 ∨ k = 71 ∨ k = 76
theorem fr_X2 : ∀ j, j < 4 → defaultValue (tyX2 j) = vp_V (y_fr 2) j := fun j hj => by
  rcases j with _ | _ | _ | _ | j <;> first | rfl | omega
set_option maxHeartbeats 4000000 in
set_option maxRecDepth 100000 in
theorem c_X2_init (l : Launch) : y_OK l yX2_init cX2_init 2 3 180 1 12 okX2 := by
  intro D cA B k hk
  refine Met.ofW (cc := cX2_init) (maxL := 1) (ret := none) (by decide) rfl ?_
  intro p e s m args below meth c s₁ Bd hml hv
  obtain ⟨rfl, hP, hK, hN⟩ := hv
  have hx := Bd.exec
  have hb := Bd.bytes
  have hr := Bd.returns
  have hts0 := atoms_spec (ws := (.code yX2_init cX2_init 1 none :: z_tbl)) Bd.pre
  have hts : ∀ w ∈ z_tbl, w.before [Value.ref (B + k)].toArray s = true := fun w hw => hts0 w (List.mem_cons_of_mem _ hw)
  have hown : s.vm.findClass RX2 = some m.cls := findClass_of_methodNamed Bd.named
  have hlocks := Bd.notSynchronized
  have hin : meth.name = "<init>" := (name_of_methodNamed Bd.named Bd.method).1
  have hA : ∀ q, B + k ≤ q → (fun q => B + k ≤ q) q := fun _ h => h
  have hS : va_S (fun q => B + k ≤ q) s.heap s.heap [] := va_S.rf
  have hl := lv_entry ([.ref (B + k)]) (n := 1) (Nat.le_of_ble_eq_true rfl)
  rw [lg_entry_eq]
  generalize (lg_sl ([.ref (B + k)]) ++ List.replicate (1 - (lg_sl ([.ref (B + k)])).length) Slot.unset).toArray = ls at hl ⊢
  have hl : lv_has ls 1 [(0, .ref (B + k))] := hl
  refine lv_aload_n hx hb dX2_init_0 rfl (lv_at hl 0 rfl) ?_
  refine W.objInit hx hb hown (hts _ yw_172) (hts _ yw_39) (hts _ yw_40) rfl (by rw [hml]; exact hl.1) rfl dX2_init_1 (Nat.le_of_ble_eq_true rfl) (Nat.le_of_ble_eq_true rfl) ?_
  refine W.eq (g2 := F0 m 4 ls []) rfl ?_
  refine lv_aload_n hx hb dX2_init_4 rfl (lv_at hl 0 rfl) ?_
  refine lv_bipush (v := 60) hx hb dX2_init_5 (by decide) ?_
  refine y_na2 (atype := .int) (ci := 2) (t := 0) (ty := .int) (N := 60) hx hb (hts _ yw_93) rfl (by decide) rfl hK hP hS (by decide) (by decide) (by decide) (Nat.le_of_ble_eq_true rfl) (Nat.le_of_ble_eq_true rfl) (by rcases hk with rfl | rfl | rfl | rfl | rfl <;> decide +kernel) (by omega) (by rcases hk with rfl | rfl | rfl | rfl | rfl <;> decide) dX2_init_7 (fun H1 hP hS => ?_)
  have hP : y_P D B k (k + 2) (y_e cA B k 2 (y_fr 2)) H1 := hP
  refine W.widen (k := 1) (n := 60) (by omega) (by omega) ?_
  refine y_pf2 (j := 0) (ty := tyX2 0) hx hb hts cls_X2 hown hK hP hS hA (by omega) (Nat.le_of_ble_eq_true rfl) (Nat.le_of_ble_eq_true rfl) yw_173 rfl hin rfl (tyX2_ok 0 (Nat.le_of_ble_eq_true rfl)) rfl rfl dX2_init_9 (fun H1 locs1 hP hS => ?_)
  have hP : y_P D B k (k + 2) (y_e cA B k 2 ((y_fr 2).set 0 (.ref (B + (k + 1))))) H1 := hP
  refine lv_aload_n hx hb dX2_init_12 rfl (lv_at hl 0 rfl) ?_
  refine lv_bipush (v := 60) hx hb dX2_init_13 (by decide) ?_
  refine y_na2 (atype := .int) (ci := 2) (t := 0) (ty := .int) (N := 60) hx hb (hts _ yw_93) rfl (by decide) rfl hK hP hS (by decide) (by decide) (by decide) (Nat.le_of_ble_eq_true rfl) (Nat.le_of_ble_eq_true rfl) (by rcases hk with rfl | rfl | rfl | rfl | rfl <;> decide +kernel) (by omega) (by rcases hk with rfl | rfl | rfl | rfl | rfl <;> decide) dX2_init_15 (fun H1 hP hS => ?_)
  have hP : y_P D B k (k + 3) (y_e cA B k 2 ((y_fr 2).set 0 (.ref (B + (k + 1))))) H1 := hP
  refine W.widen (k := 2) (n := 120) (by omega) (by omega) ?_
  refine y_pf2 (j := 1) (ty := tyX2 1) hx hb hts cls_X2 hown hK hP hS hA (by omega) (Nat.le_of_ble_eq_true rfl) (Nat.le_of_ble_eq_true rfl) yw_175 rfl hin rfl (tyX2_ok 1 (Nat.le_of_ble_eq_true rfl)) rfl rfl dX2_init_17 (fun H1 locs1 hP hS => ?_)
  have hP : y_P D B k (k + 3) (y_e cA B k 2 (((y_fr 2).set 0 (.ref (B + (k + 1)))).set 1 (.ref (B + (k + 2))))) H1 := hP
  refine lv_aload_n hx hb dX2_init_20 rfl (lv_at hl 0 rfl) ?_
  refine lv_bipush (v := 60) hx hb dX2_init_21 (by decide) ?_
  refine y_na2 (atype := .int) (ci := 2) (t := 0) (ty := .int) (N := 60) hx hb (hts _ yw_93) rfl (by decide) rfl hK hP hS (by decide) (by decide) (by decide) (Nat.le_of_ble_eq_true rfl) (Nat.le_of_ble_eq_true rfl) (by rcases hk with rfl | rfl | rfl | rfl | rfl <;> decide +kernel) (by omega) (by rcases hk with rfl | rfl | rfl | rfl | rfl <;> decide) dX2_init_23 (fun H1 hP hS => ?_)
  have hP : y_P D B k (k + 4) (y_e cA B k 2 (((y_fr 2).set 0 (.ref (B + (k + 1)))).set 1 (.ref (B + (k + 2))))) H1 := hP
  refine W.widen (k := 3) (n := 180) (by omega) (by omega) ?_
  refine y_pf2 (j := 2) (ty := tyX2 2) hx hb hts cls_X2 hown hK hP hS hA (by omega) (Nat.le_of_ble_eq_true rfl) (Nat.le_of_ble_eq_true rfl) yw_177 rfl hin rfl (tyX2_ok 2 (Nat.le_of_ble_eq_true rfl)) rfl rfl dX2_init_25 (fun H1 locs1 hP hS => ?_)
  have hP : y_P D B k (k + 4) (y_e cA B k 2 ((((y_fr 2).set 0 (.ref (B + (k + 1)))).set 1 (.ref (B + (k + 2)))).set 2 (.ref (B + (k + 3))))) H1 := hP
  have hP : y_P D B k (k + 1 + 3) (y_E cA B) H1 := hP.congr (y_cg2 (c := 2) (by rcases hk with rfl | rfl | rfl | rfl | rfl <;> decide +kernel) (by decide) (by rcases hk with rfl | rfl | rfl | rfl | rfl <;> decide) rfl)
  exact W.vret hx hb hr (fun t ht hW => ⟨⟨(), rfl, trivial, by dsimp only; rw [ht]; exact hP⟩, hS.F ht⟩) hS.2.2 dX2_init_28
