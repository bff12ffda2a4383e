def okX10 (k : Nat) : Prop := k = 89
theorem fr_X10 : ∀ j, j < 35 → defaultValue (tyX10 j) = vp_V (y_fr 10) j := fun j hj => by
  rcases j with _ | _ | _ | _ | _ | _ | _ | _ | _ | _ | _ | _ | _ | _ | _ | _ | _ | _ | _ | _ | _ | _ | _ | _ | _ | _ | _ | _ | _ | _ | _ | _ | _ | _ | _ | j <;> first | rfl | omega
set_option maxHeartbeats 4000000 in
set_option maxRecDepth 100000 in
theorem c_X10_init (l : Launch) : y_OK l yX10_init cX10_init 10 18 1837 1 12 okX10 := by
  intro D cA B k hk
  refine Met.ofW (cc := cX10_init) (maxL := 1) (ret := none) (by decide) rfl ?_
  intro p e s m args below meth c s₁ Bd hml hv
  obtain ⟨rfl, hP, hK, hN⟩ := hv
  have hx := Bd.exec
  have hb := Bd.bytes
  have hr := Bd.returns
  have hts0 := atoms_spec (ws := (.code yX10_init cX10_init 1 none :: z_tbl)) Bd.pre
  have hts : ∀ w ∈ z_tbl, w.before [Value.ref (B + k)].toArray s = true := fun w hw => hts0 w (List.mem_cons_of_mem _ hw)
  have hown : s.vm.findClass RX10 = some m.cls := findClass_of_methodNamed Bd.named
  have hlocks := Bd.notSynchronized
  have hin : meth.name = "<init>" := (name_of_methodNamed Bd.named Bd.method).1
  have hA : ∀ q, B + k ≤ q → (fun q => B + k ≤ q) q := fun _ h => h
  have hS : va_S (fun q => B + k ≤ q) s.heap s.heap [] := va_S.rf
  have hl := lv_entry ([.ref (B + k)]) (n := 1) (Nat.le_of_ble_eq_true rfl)
  rw [lg_entry_eq]
  generalize (lg_sl ([.ref (B + k)]) ++ List.replicate (1 - (lg_sl ([.ref (B + k)])).length) Slot.unset).toArray = ls at hl ⊢
  have hl : lv_has ls 1 [(0, .ref (B + k))] := hl
  refine lv_aload_n hx hb dX10_init_0 rfl (lv_at hl 0 rfl) ?_
  refine W.objInit hx hb hown (hts _ yw_967) (hts _ yw_99) (hts _ yw_100) rfl (by rw [hml]; exact hl.1) rfl dX10_init_1 (Nat.le_of_ble_eq_true rfl) (Nat.le_of_ble_eq_true rfl) ?_
  refine W.eq (g2 := F0 m 4 ls []) rfl ?_
  refine lv_aload_n hx hb dX10_init_4 rfl (lv_at hl 0 rfl) ?_
  refine lv_bipush (v := 8) hx hb dX10_init_5 (by decide) ?_
  refine y_na (atype := .int) (t := 0) (ty := .int) (N := 8) hx hb (hts _ yw_153) rfl (by decide) rfl hK hP hS (by decide) (by decide) (by decide) (Nat.le_of_ble_eq_true rfl) (Nat.le_of_ble_eq_true rfl) dX10_init_7 (fun H1 hP hS => ?_)
  refine W.widen (k := 1) (n := 8) (by omega) (by omega) ?_
  have hP : y_P D B k (k + 2) (y_ln cA B k 10 (y_fr 10) (fun _ => 0)) H1 := hP
  refine lv_dup hx hb dX10_init_9 rfl ?_
  refine lv_iconst (v := 0) hx hb dX10_init_10 (by decide) ?_
  refine lv_iconst (v := -1) hx hb dX10_init_11 (by decide) ?_
  refine y_ia (k := k + 1) (N := 8) (f := (fun _ => 0)) hx hb hK hP hS hA (by omega) (by omega) (if_pos rfl) (by unfold vp_in; decide) dX10_init_12 (fun H1 locs1 hP hS => ?_)
  rw [show (0 : Int32).toNatClampNeg = 0 from by decide] at hP
  have hP : y_P D B k (k + 2) (y_ln cA B k 10 (y_fr 10) (upd (fun _ => 0) 0 (-1))) H1 := hP.congr y_cg3
  refine lv_dup hx hb dX10_init_13 rfl ?_
  refine lv_iconst (v := 1) hx hb dX10_init_14 (by decide) ?_
  refine lv_iconst (v := -1) hx hb dX10_init_15 (by decide) ?_
  refine y_ia (k := k + 1) (N := 8) (f := (upd (fun _ => 0) 0 (-1))) hx hb hK hP hS hA (by omega) (by omega) (if_pos rfl) (by unfold vp_in; decide) dX10_init_16 (fun H1 locs1 hP hS => ?_)
  rw [show (1 : Int32).toNatClampNeg = 1 from by decide] at hP
  have hP : y_P D B k (k + 2) (y_ln cA B k 10 (y_fr 10) (upd (upd (fun _ => 0) 0 (-1)) 1 (-1))) H1 := hP.congr y_cg3
  refine lv_dup hx hb dX10_init_17 rfl ?_
  refine lv_iconst (v := 2) hx hb dX10_init_18 (by decide) ?_
  refine lv_iconst (v := -1) hx hb dX10_init_19 (by decide) ?_
  refine y_ia (k := k + 1) (N := 8) (f := (upd (upd (fun _ => 0) 0 (-1)) 1 (-1))) hx hb hK hP hS hA (by omega) (by omega) (if_pos rfl) (by unfold vp_in; decide) dX10_init_20 (fun H1 locs1 hP hS => ?_)
  rw [show (2 : Int32).toNatClampNeg = 2 from by decide] at hP
  have hP : y_P D B k (k + 2) (y_ln cA B k 10 (y_fr 10) (upd (upd (upd (fun _ => 0) 0 (-1)) 1 (-1)) 2 (-1))) H1 := hP.congr y_cg3
  refine lv_dup hx hb dX10_init_21 rfl ?_
  refine lv_iconst (v := 3) hx hb dX10_init_22 (by decide) ?_
  refine lv_iconst (v := -1) hx hb dX10_init_23 (by decide) ?_
  refine y_ia (k := k + 1) (N := 8) (f := (upd (upd (upd (fun _ => 0) 0 (-1)) 1 (-1)) 2 (-1))) hx hb hK hP hS hA (by omega) (by omega) (if_pos rfl) (by unfold vp_in; decide) dX10_init_24 (fun H1 locs1 hP hS => ?_)
  rw [show (3 : Int32).toNatClampNeg = 3 from by decide] at hP
  have hP : y_P D B k (k + 2) (y_ln cA B k 10 (y_fr 10) (upd (upd (upd (upd (fun _ => 0) 0 (-1)) 1 (-1)) 2 (-1)) 3 (-1))) H1 := hP.congr y_cg3
  refine lv_dup hx hb dX10_init_25 rfl ?_
  refine lv_iconst (v := 4) hx hb dX10_init_26 (by decide) ?_
  refine lv_iconst (v := -1) hx hb dX10_init_27 (by decide) ?_
  refine y_ia (k := k + 1) (N := 8) (f := (upd (upd (upd (upd (fun _ => 0) 0 (-1)) 1 (-1)) 2 (-1)) 3 (-1))) hx hb hK hP hS hA (by omega) (by omega) (if_pos rfl) (by unfold vp_in; decide) dX10_init_28 (fun H1 locs1 hP hS => ?_)
  rw [show (4 : Int32).toNatClampNeg = 4 from by decide] at hP
  have hP : y_P D B k (k + 2) (y_ln cA B k 10 (y_fr 10) (upd (upd (upd (upd (upd (fun _ => 0) 0 (-1)) 1 (-1)) 2 (-1)) 3 (-1)) 4 (-1))) H1 := hP.congr y_cg3
  refine lv_dup hx hb dX10_init_29 rfl ?_
  refine lv_iconst (v := 5) hx hb dX10_init_30 (by decide) ?_
  refine lv_iconst (v := -1) hx hb dX10_init_31 (by decide) ?_
  refine y_ia (k := k + 1) (N := 8) (f := (upd (upd (upd (upd (upd (fun _ => 0) 0 (-1)) 1 (-1)) 2 (-1)) 3 (-1)) 4 (-1))) hx hb hK hP hS hA (by omega) (by omega) (if_pos rfl) (by unfold vp_in; decide) dX10_init_32 (fun H1 locs1 hP hS => ?_)
  rw [show (5 : Int32).toNatClampNeg = 5 from by decide] at hP
  have hP : y_P D B k (k + 2) (y_ln cA B k 10 (y_fr 10) (upd (upd (upd (upd (upd (upd (fun _ => 0) 0 (-1)) 1 (-1)) 2 (-1)) 3 (-1)) 4 (-1)) 5 (-1))) H1 := hP.congr y_cg3
  refine lv_dup hx hb dX10_init_33 rfl ?_
  refine lv_bipush (v := 6) hx hb dX10_init_34 (by decide) ?_
  refine lv_iconst (v := -1) hx hb dX10_init_36 (by decide) ?_
  refine y_ia (k := k + 1) (N := 8) (f := (upd (upd (upd (upd (upd (upd (fun _ => 0) 0 (-1)) 1 (-1)) 2 (-1)) 3 (-1)) 4 (-1)) 5 (-1))) hx hb hK hP hS hA (by omega) (by omega) (if_pos rfl) (by unfold vp_in; decide) dX10_init_37 (fun H1 locs1 hP hS => ?_)
  rw [show (6 : Int32).toNatClampNeg = 6 from by decide] at hP
  have hP : y_P D B k (k + 2) (y_ln cA B k 10 (y_fr 10) (upd (upd (upd (upd (upd (upd (upd (fun _ => 0) 0 (-1)) 1 (-1)) 2 (-1)) 3 (-1)) 4 (-1)) 5 (-1)) 6 (-1))) H1 := hP.congr y_cg3
  refine lv_dup hx hb dX10_init_38 rfl ?_
  refine lv_bipush (v := 7) hx hb dX10_init_39 (by decide) ?_
  refine lv_iconst (v := -1) hx hb dX10_init_41 (by decide) ?_
  refine y_ia (k := k + 1) (N := 8) (f := (upd (upd (upd (upd (upd (upd (upd (fun _ => 0) 0 (-1)) 1 (-1)) 2 (-1)) 3 (-1)) 4 (-1)) 5 (-1)) 6 (-1))) hx hb hK hP hS hA (by omega) (by omega) (if_pos rfl) (by unfold vp_in; decide) dX10_init_42 (fun H1 locs1 hP hS => ?_)
  rw [show (7 : Int32).toNatClampNeg = 7 from by decide] at hP
  have hP : y_P D B k (k + 2) (y_ln cA B k 10 (y_fr 10) (upd (upd (upd (upd (upd (upd (upd (upd (fun _ => 0) 0 (-1)) 1 (-1)) 2 (-1)) 3 (-1)) 4 (-1)) 5 (-1)) 6 (-1)) 7 (-1))) H1 := hP.congr y_cg3
  have hP : y_P D B k (k + 2) (y_e cA B k 10 (y_fr 10)) H1 := hP.congr (y_cg4 hk)
  refine y_pf2 (j := 2) (ty := tyX10 2) hx hb hts cls_X10 hown hK hP hS hA (by omega) (Nat.le_of_ble_eq_true rfl) (Nat.le_of_ble_eq_true rfl) yw_970 rfl hin rfl (tyX10_ok 2 (Nat.le_of_ble_eq_true rfl)) rfl rfl dX10_init_43 (fun H1 locs1 hP hS => ?_)
  have hP : y_P D B k (k + 2) (y_e cA B k 10 ((y_fr 10).set 2 (.ref (B + (k + 1))))) H1 := hP
  refine lv_aload_n hx hb dX10_init_46 rfl (lv_at hl 0 rfl) ?_
  refine lv_bipush (v := 8) hx hb dX10_init_47 (by decide) ?_
  refine y_na2 (atype := .int) (ci := 10) (t := 0) (ty := .int) (N := 8) hx hb (hts _ yw_153) rfl (by decide) rfl hK hP hS (by decide) (by decide) (by decide) (Nat.le_of_ble_eq_true rfl) (Nat.le_of_ble_eq_true rfl) (by rcases hk with rfl <;> decide +kernel) (by omega) (by rcases hk with rfl <;> decide) dX10_init_49 (fun H1 hP hS => ?_)
  have hP : y_P D B k (k + 3) (y_e cA B k 10 ((y_fr 10).set 2 (.ref (B + (k + 1))))) H1 := hP
  refine W.widen (k := 2) (n := 16) (by omega) (by omega) ?_
  refine y_pf2 (j := 3) (ty := tyX10 3) hx hb hts cls_X10 hown hK hP hS hA (by omega) (Nat.le_of_ble_eq_true rfl) (Nat.le_of_ble_eq_true rfl) yw_971 rfl hin rfl (tyX10_ok 3 (Nat.le_of_ble_eq_true rfl)) rfl rfl dX10_init_51 (fun H1 locs1 hP hS => ?_)
  have hP : y_P D B k (k + 3) (y_e cA B k 10 (((y_fr 10).set 2 (.ref (B + (k + 1)))).set 3 (.ref (B + (k + 2))))) H1 := hP
  refine lv_aload_n hx hb dX10_init_54 rfl (lv_at hl 0 rfl) ?_
  refine lv_sipush (v := 320) hx hb dX10_init_55 (by decide) ?_
  refine y_na2 (atype := .int) (ci := 10) (t := 0) (ty := .int) (N := 320) hx hb (hts _ yw_153) rfl (by decide) rfl hK hP hS (by decide) (by decide) (by decide) (Nat.le_of_ble_eq_true rfl) (Nat.le_of_ble_eq_true rfl) (by rcases hk with rfl <;> decide +kernel) (by omega) (by rcases hk with rfl <;> decide) dX10_init_58 (fun H1 hP hS => ?_)
  have hP : y_P D B k (k + 4) (y_e cA B k 10 (((y_fr 10).set 2 (.ref (B + (k + 1)))).set 3 (.ref (B + (k + 2))))) H1 := hP
  refine W.widen (k := 3) (n := 336) (by omega) (by omega) ?_
  refine y_pf2 (j := 4) (ty := tyX10 4) hx hb hts cls_X10 hown hK hP hS hA (by omega) (Nat.le_of_ble_eq_true rfl) (Nat.le_of_ble_eq_true rfl) yw_972 rfl hin rfl (tyX10_ok 4 (Nat.le_of_ble_eq_true rfl)) rfl rfl dX10_init_60 (fun H1 locs1 hP hS => ?_)
  have hP : y_P D B k (k + 4) (y_e cA B k 10 ((((y_fr 10).set 2 (.ref (B + (k + 1)))).set 3 (.ref (B + (k + 2)))).set 4 (.ref (B + (k + 3))))) H1 := hP
  refine lv_aload_n hx hb dX10_init_63 rfl (lv_at hl 0 rfl) ?_
  refine lv_bipush (v := 106) hx hb dX10_init_64 (by decide) ?_
  refine y_na2 (atype := .int) (ci := 10) (t := 0) (ty := .int) (N := 106) hx hb (hts _ yw_153) rfl (by decide) rfl hK hP hS (by decide) (by decide) (by decide) (Nat.le_of_ble_eq_true rfl) (Nat.le_of_ble_eq_true rfl) (by rcases hk with rfl <;> decide +kernel) (by omega) (by rcases hk with rfl <;> decide) dX10_init_66 (fun H1 hP hS => ?_)
  have hP : y_P D B k (k + 5) (y_e cA B k 10 ((((y_fr 10).set 2 (.ref (B + (k + 1)))).set 3 (.ref (B + (k + 2)))).set 4 (.ref (B + (k + 3))))) H1 := hP
  refine W.widen (k := 4) (n := 442) (by omega) (by omega) ?_
  refine y_pf2 (j := 5) (ty := tyX10 5) hx hb hts cls_X10 hown hK hP hS hA (by omega) (Nat.le_of_ble_eq_true rfl) (Nat.le_of_ble_eq_true rfl) yw_973 rfl hin rfl (tyX10_ok 5 (Nat.le_of_ble_eq_true rfl)) rfl rfl dX10_init_68 (fun H1 locs1 hP hS => ?_)
  have hP : y_P D B k (k + 5) (y_e cA B k 10 (((((y_fr 10).set 2 (.ref (B + (k + 1)))).set 3 (.ref (B + (k + 2)))).set 4 (.ref (B + (k + 3)))).set 5 (.ref (B + (k + 4))))) H1 := hP
  refine lv_aload_n hx hb dX10_init_71 rfl (lv_at hl 0 rfl) ?_
  refine lv_bipush (v := 106) hx hb dX10_init_72 (by decide) ?_
  refine y_na2 (atype := .int) (ci := 10) (t := 0) (ty := .int) (N := 106) hx hb (hts _ yw_153) rfl (by decide) rfl hK hP hS (by decide) (by decide) (by decide) (Nat.le_of_ble_eq_true rfl) (Nat.le_of_ble_eq_true rfl) (by rcases hk with rfl <;> decide +kernel) (by omega) (by rcases hk with rfl <;> decide) dX10_init_74 (fun H1 hP hS => ?_)
  have hP : y_P D B k (k + 6) (y_e cA B k 10 (((((y_fr 10).set 2 (.ref (B + (k + 1)))).set 3 (.ref (B + (k + 2)))).set 4 (.ref (B + (k + 3)))).set 5 (.ref (B + (k + 4))))) H1 := hP
  refine W.widen (k := 5) (n := 548) (by omega) (by omega) ?_
  refine y_pf2 (j := 6) (ty := tyX10 6) hx hb hts cls_X10 hown hK hP hS hA (by omega) (Nat.le_of_ble_eq_true rfl) (Nat.le_of_ble_eq_true rfl) yw_974 rfl hin rfl (tyX10_ok 6 (Nat.le_of_ble_eq_true rfl)) rfl rfl dX10_init_76 (fun H1 locs1 hP hS => ?_)
  have hP : y_P D B k (k + 6) (y_e cA B k 10 ((((((y_fr 10).set 2 (.ref (B + (k + 1)))).set 3 (.ref (B + (k + 2)))).set 4 (.ref (B + (k + 3)))).set 5 (.ref (B + (k + 4)))).set 6 (.ref (B + (k + 5))))) H1 := hP
  refine lv_aload_n hx hb dX10_init_79 rfl (lv_at hl 0 rfl) ?_
  refine lv_sipush (v := 180) hx hb dX10_init_80 (by decide) ?_
  refine y_na2 (atype := .int) (ci := 10) (t := 0) (ty := .int) (N := 180) hx hb (hts _ yw_153) rfl (by decide) rfl hK hP hS (by decide) (by decide) (by decide) (Nat.le_of_ble_eq_true rfl) (Nat.le_of_ble_eq_true rfl) (by rcases hk with rfl <;> decide +kernel) (by omega) (by rcases hk with rfl <;> decide) dX10_init_83 (fun H1 hP hS => ?_)
  have hP : y_P D B k (k + 7) (y_e cA B k 10 ((((((y_fr 10).set 2 (.ref (B + (k + 1)))).set 3 (.ref (B + (k + 2)))).set 4 (.ref (B + (k + 3)))).set 5 (.ref (B + (k + 4)))).set 6 (.ref (B + (k + 5))))) H1 := hP
  refine W.widen (k := 6) (n := 728) (by omega) (by omega) ?_
  refine y_pf2 (j := 8) (ty := tyX10 8) hx hb hts cls_X10 hown hK hP hS hA (by omega) (Nat.le_of_ble_eq_true rfl) (Nat.le_of_ble_eq_true rfl) yw_976 rfl hin rfl (tyX10_ok 8 (Nat.le_of_ble_eq_true rfl)) rfl rfl dX10_init_85 (fun H1 locs1 hP hS => ?_)
  have hP : y_P D B k (k + 7) (y_e cA B k 10 (((((((y_fr 10).set 2 (.ref (B + (k + 1)))).set 3 (.ref (B + (k + 2)))).set 4 (.ref (B + (k + 3)))).set 5 (.ref (B + (k + 4)))).set 6 (.ref (B + (k + 5)))).set 8 (.ref (B + (k + 6))))) H1 := hP
  refine lv_aload_n hx hb dX10_init_88 rfl (lv_at hl 0 rfl) ?_
  refine lv_bipush (v := 36) hx hb dX10_init_89 (by decide) ?_
  refine y_na2 (atype := .int) (ci := 10) (t := 0) (ty := .int) (N := 36) hx hb (hts _ yw_153) rfl (by decide) rfl hK hP hS (by decide) (by decide) (by decide) (Nat.le_of_ble_eq_true rfl) (Nat.le_of_ble_eq_true rfl) (by rcases hk with rfl <;> decide +kernel) (by omega) (by rcases hk with rfl <;> decide) dX10_init_91 (fun H1 hP hS => ?_)
  have hP : y_P D B k (k + 8) (y_e cA B k 10 (((((((y_fr 10).set 2 (.ref (B + (k + 1)))).set 3 (.ref (B + (k + 2)))).set 4 (.ref (B + (k + 3)))).set 5 (.ref (B + (k + 4)))).set 6 (.ref (B + (k + 5)))).set 8 (.ref (B + (k + 6))))) H1 := hP
  refine W.widen (k := 7) (n := 764) (by omega) (by omega) ?_
  refine y_pf2 (j := 9) (ty := tyX10 9) hx hb hts cls_X10 hown hK hP hS hA (by omega) (Nat.le_of_ble_eq_true rfl) (Nat.le_of_ble_eq_true rfl) yw_977 rfl hin rfl (tyX10_ok 9 (Nat.le_of_ble_eq_true rfl)) rfl rfl dX10_init_93 (fun H1 locs1 hP hS => ?_)
  have hP : y_P D B k (k + 8) (y_e cA B k 10 ((((((((y_fr 10).set 2 (.ref (B + (k + 1)))).set 3 (.ref (B + (k + 2)))).set 4 (.ref (B + (k + 3)))).set 5 (.ref (B + (k + 4)))).set 6 (.ref (B + (k + 5)))).set 8 (.ref (B + (k + 6)))).set 9 (.ref (B + (k + 7))))) H1 := hP
  refine lv_aload_n hx hb dX10_init_96 rfl (lv_at hl 0 rfl) ?_
  refine lv_sipush (v := 400) hx hb dX10_init_97 (by decide) ?_
  refine y_na2 (atype := .int) (ci := 10) (t := 0) (ty := .int) (N := 400) hx hb (hts _ yw_153) rfl (by decide) rfl hK hP hS (by decide) (by decide) (by decide) (Nat.le_of_ble_eq_true rfl) (Nat.le_of_ble_eq_true rfl) (by rcases hk with rfl <;> decide +kernel) (by omega) (by rcases hk with rfl <;> decide) dX10_init_100 (fun H1 hP hS => ?_)
  have hP : y_P D B k (k + 9) (y_e cA B k 10 ((((((((y_fr 10).set 2 (.ref (B + (k + 1)))).set 3 (.ref (B + (k + 2)))).set 4 (.ref (B + (k + 3)))).set 5 (.ref (B + (k + 4)))).set 6 (.ref (B + (k + 5)))).set 8 (.ref (B + (k + 6)))).set 9 (.ref (B + (k + 7))))) H1 := hP
  refine W.widen (k := 8) (n := 1164) (by omega) (by omega) ?_
  refine y_pf2 (j := 11) (ty := tyX10 11) hx hb hts cls_X10 hown hK hP hS hA (by omega) (Nat.le_of_ble_eq_true rfl) (Nat.le_of_ble_eq_true rfl) yw_979 rfl hin rfl (tyX10_ok 11 (Nat.le_of_ble_eq_true rfl)) rfl rfl dX10_init_102 (fun H1 locs1 hP hS => ?_)
  have hP : y_P D B k (k + 9) (y_e cA B k 10 (((((((((y_fr 10).set 2 (.ref (B + (k + 1)))).set 3 (.ref (B + (k + 2)))).set 4 (.ref (B + (k + 3)))).set 5 (.ref (B + (k + 4)))).set 6 (.ref (B + (k + 5)))).set 8 (.ref (B + (k + 6)))).set 9 (.ref (B + (k + 7)))).set 11 (.ref (B + (k + 8))))) H1 := hP
  refine lv_aload_n hx hb dX10_init_105 rfl (lv_at hl 0 rfl) ?_
  refine lv_bipush (v := 12) hx hb dX10_init_106 (by decide) ?_
  refine y_na2 (atype := .int) (ci := 10) (t := 0) (ty := .int) (N := 12) hx hb (hts _ yw_153) rfl (by decide) rfl hK hP hS (by decide) (by decide) (by decide) (Nat.le_of_ble_eq_true rfl) (Nat.le_of_ble_eq_true rfl) (by rcases hk with rfl <;> decide +kernel) (by omega) (by rcases hk with rfl <;> decide) dX10_init_108 (fun H1 hP hS => ?_)
  have hP : y_P D B k (k + 10) (y_e cA B k 10 (((((((((y_fr 10).set 2 (.ref (B + (k + 1)))).set 3 (.ref (B + (k + 2)))).set 4 (.ref (B + (k + 3)))).set 5 (.ref (B + (k + 4)))).set 6 (.ref (B + (k + 5)))).set 8 (.ref (B + (k + 6)))).set 9 (.ref (B + (k + 7)))).set 11 (.ref (B + (k + 8))))) H1 := hP
  refine W.widen (k := 9) (n := 1176) (by omega) (by omega) ?_
  refine y_pf2 (j := 21) (ty := tyX10 21) hx hb hts cls_X10 hown hK hP hS hA (by omega) (Nat.le_of_ble_eq_true rfl) (Nat.le_of_ble_eq_true rfl) yw_989 rfl hin rfl (tyX10_ok 21 (Nat.le_of_ble_eq_true rfl)) rfl rfl dX10_init_110 (fun H1 locs1 hP hS => ?_)
  have hP : y_P D B k (k + 10) (y_e cA B k 10 ((((((((((y_fr 10).set 2 (.ref (B + (k + 1)))).set 3 (.ref (B + (k + 2)))).set 4 (.ref (B + (k + 3)))).set 5 (.ref (B + (k + 4)))).set 6 (.ref (B + (k + 5)))).set 8 (.ref (B + (k + 6)))).set 9 (.ref (B + (k + 7)))).set 11 (.ref (B + (k + 8)))).set 21 (.ref (B + (k + 9))))) H1 := hP
  refine lv_aload_n hx hb dX10_init_113 rfl (lv_at hl 0 rfl) ?_
  refine lv_bipush (v := 12) hx hb dX10_init_114 (by decide) ?_
  refine y_na2 (atype := .int) (ci := 10) (t := 0) (ty := .int) (N := 12) hx hb (hts _ yw_153) rfl (by decide) rfl hK hP hS (by decide) (by decide) (by decide) (Nat.le_of_ble_eq_true rfl) (Nat.le_of_ble_eq_true rfl) (by rcases hk with rfl <;> decide +kernel) (by omega) (by rcases hk with rfl <;> decide) dX10_init_116 (fun H1 hP hS => ?_)
  have hP : y_P D B k (k + 11) (y_e cA B k 10 ((((((((((y_fr 10).set 2 (.ref (B + (k + 1)))).set 3 (.ref (B + (k + 2)))).set 4 (.ref (B + (k + 3)))).set 5 (.ref (B + (k + 4)))).set 6 (.ref (B + (k + 5)))).set 8 (.ref (B + (k + 6)))).set 9 (.ref (B + (k + 7)))).set 11 (.ref (B + (k + 8)))).set 21 (.ref (B + (k + 9))))) H1 := hP
  refine W.widen (k := 10) (n := 1188) (by omega) (by omega) ?_
  refine y_pf2 (j := 22) (ty := tyX10 22) hx hb hts cls_X10 hown hK hP hS hA (by omega) (Nat.le_of_ble_eq_true rfl) (Nat.le_of_ble_eq_true rfl) yw_990 rfl hin rfl (tyX10_ok 22 (Nat.le_of_ble_eq_true rfl)) rfl rfl dX10_init_118 (fun H1 locs1 hP hS => ?_)
  have hP : y_P D B k (k + 11) (y_e cA B k 10 (((((((((((y_fr 10).set 2 (.ref (B + (k + 1)))).set 3 (.ref (B + (k + 2)))).set 4 (.ref (B + (k + 3)))).set 5 (.ref (B + (k + 4)))).set 6 (.ref (B + (k + 5)))).set 8 (.ref (B + (k + 6)))).set 9 (.ref (B + (k + 7)))).set 11 (.ref (B + (k + 8)))).set 21 (.ref (B + (k + 9)))).set 22 (.ref (B + (k + 10))))) H1 := hP
  refine lv_aload_n hx hb dX10_init_121 rfl (lv_at hl 0 rfl) ?_
  refine lv_bipush (v := 12) hx hb dX10_init_122 (by decide) ?_
  refine y_na2 (atype := .int) (ci := 10) (t := 0) (ty := .int) (N := 12) hx hb (hts _ yw_153) rfl (by decide) rfl hK hP hS (by decide) (by decide) (by decide) (Nat.le_of_ble_eq_true rfl) (Nat.le_of_ble_eq_true rfl) (by rcases hk with rfl <;> decide +kernel) (by omega) (by rcases hk with rfl <;> decide) dX10_init_124 (fun H1 hP hS => ?_)
  have hP : y_P D B k (k + 12) (y_e cA B k 10 (((((((((((y_fr 10).set 2 (.ref (B + (k + 1)))).set 3 (.ref (B + (k + 2)))).set 4 (.ref (B + (k + 3)))).set 5 (.ref (B + (k + 4)))).set 6 (.ref (B + (k + 5)))).set 8 (.ref (B + (k + 6)))).set 9 (.ref (B + (k + 7)))).set 11 (.ref (B + (k + 8)))).set 21 (.ref (B + (k + 9)))).set 22 (.ref (B + (k + 10))))) H1 := hP
  refine W.widen (k := 11) (n := 1200) (by omega) (by omega) ?_
  refine y_pf2 (j := 23) (ty := tyX10 23) hx hb hts cls_X10 hown hK hP hS hA (by omega) (Nat.le_of_ble_eq_true rfl) (Nat.le_of_ble_eq_true rfl) yw_991 rfl hin rfl (tyX10_ok 23 (Nat.le_of_ble_eq_true rfl)) rfl rfl dX10_init_126 (fun H1 locs1 hP hS => ?_)
  have hP : y_P D B k (k + 12) (y_e cA B k 10 ((((((((((((y_fr 10).set 2 (.ref (B + (k + 1)))).set 3 (.ref (B + (k + 2)))).set 4 (.ref (B + (k + 3)))).set 5 (.ref (B + (k + 4)))).set 6 (.ref (B + (k + 5)))).set 8 (.ref (B + (k + 6)))).set 9 (.ref (B + (k + 7)))).set 11 (.ref (B + (k + 8)))).set 21 (.ref (B + (k + 9)))).set 22 (.ref (B + (k + 10)))).set 23 (.ref (B + (k + 11))))) H1 := hP
  refine lv_aload_n hx hb dX10_init_129 rfl (lv_at hl 0 rfl) ?_
  refine lv_bipush (v := 21) hx hb dX10_init_130 (by decide) ?_
  refine y_na2 (atype := .int) (ci := 10) (t := 0) (ty := .int) (N := 21) hx hb (hts _ yw_153) rfl (by decide) rfl hK hP hS (by decide) (by decide) (by decide) (Nat.le_of_ble_eq_true rfl) (Nat.le_of_ble_eq_true rfl) (by rcases hk with rfl <;> decide +kernel) (by omega) (by rcases hk with rfl <;> decide) dX10_init_132 (fun H1 hP hS => ?_)
  have hP : y_P D B k (k + 13) (y_e cA B k 10 ((((((((((((y_fr 10).set 2 (.ref (B + (k + 1)))).set 3 (.ref (B + (k + 2)))).set 4 (.ref (B + (k + 3)))).set 5 (.ref (B + (k + 4)))).set 6 (.ref (B + (k + 5)))).set 8 (.ref (B + (k + 6)))).set 9 (.ref (B + (k + 7)))).set 11 (.ref (B + (k + 8)))).set 21 (.ref (B + (k + 9)))).set 22 (.ref (B + (k + 10)))).set 23 (.ref (B + (k + 11))))) H1 := hP
  refine W.widen (k := 12) (n := 1221) (by omega) (by omega) ?_
  refine y_pf2 (j := 25) (ty := tyX10 25) hx hb hts cls_X10 hown hK hP hS hA (by omega) (Nat.le_of_ble_eq_true rfl) (Nat.le_of_ble_eq_true rfl) yw_993 rfl hin rfl (tyX10_ok 25 (Nat.le_of_ble_eq_true rfl)) rfl rfl dX10_init_134 (fun H1 locs1 hP hS => ?_)
  have hP : y_P D B k (k + 13) (y_e cA B k 10 (((((((((((((y_fr 10).set 2 (.ref (B + (k + 1)))).set 3 (.ref (B + (k + 2)))).set 4 (.ref (B + (k + 3)))).set 5 (.ref (B + (k + 4)))).set 6 (.ref (B + (k + 5)))).set 8 (.ref (B + (k + 6)))).set 9 (.ref (B + (k + 7)))).set 11 (.ref (B + (k + 8)))).set 21 (.ref (B + (k + 9)))).set 22 (.ref (B + (k + 10)))).set 23 (.ref (B + (k + 11)))).set 25 (.ref (B + (k + 12))))) H1 := hP
  refine lv_aload_n hx hb dX10_init_137 rfl (lv_at hl 0 rfl) ?_
  refine lv_bipush (v := 21) hx hb dX10_init_138 (by decide) ?_
  refine y_na2 (atype := .int) (ci := 10) (t := 0) (ty := .int) (N := 21) hx hb (hts _ yw_153) rfl (by decide) rfl hK hP hS (by decide) (by decide) (by decide) (Nat.le_of_ble_eq_true rfl) (Nat.le_of_ble_eq_true rfl) (by rcases hk with rfl <;> decide +kernel) (by omega) (by rcases hk with rfl <;> decide) dX10_init_140 (fun H1 hP hS => ?_)
  have hP : y_P D B k (k + 14) (y_e cA B k 10 (((((((((((((y_fr 10).set 2 (.ref (B + (k + 1)))).set 3 (.ref (B + (k + 2)))).set 4 (.ref (B + (k + 3)))).set 5 (.ref (B + (k + 4)))).set 6 (.ref (B + (k + 5)))).set 8 (.ref (B + (k + 6)))).set 9 (.ref (B + (k + 7)))).set 11 (.ref (B + (k + 8)))).set 21 (.ref (B + (k + 9)))).set 22 (.ref (B + (k + 10)))).set 23 (.ref (B + (k + 11)))).set 25 (.ref (B + (k + 12))))) H1 := hP
  refine W.widen (k := 13) (n := 1242) (by omega) (by omega) ?_
  refine y_pf2 (j := 26) (ty := tyX10 26) hx hb hts cls_X10 hown hK hP hS hA (by omega) (Nat.le_of_ble_eq_true rfl) (Nat.le_of_ble_eq_true rfl) yw_994 rfl hin rfl (tyX10_ok 26 (Nat.le_of_ble_eq_true rfl)) rfl rfl dX10_init_142 (fun H1 locs1 hP hS => ?_)
  have hP : y_P D B k (k + 14) (y_e cA B k 10 ((((((((((((((y_fr 10).set 2 (.ref (B + (k + 1)))).set 3 (.ref (B + (k + 2)))).set 4 (.ref (B + (k + 3)))).set 5 (.ref (B + (k + 4)))).set 6 (.ref (B + (k + 5)))).set 8 (.ref (B + (k + 6)))).set 9 (.ref (B + (k + 7)))).set 11 (.ref (B + (k + 8)))).set 21 (.ref (B + (k + 9)))).set 22 (.ref (B + (k + 10)))).set 23 (.ref (B + (k + 11)))).set 25 (.ref (B + (k + 12)))).set 26 (.ref (B + (k + 13))))) H1 := hP
  refine lv_aload_n hx hb dX10_init_145 rfl (lv_at hl 0 rfl) ?_
  refine lv_iconst (v := 5) hx hb dX10_init_146 (by decide) ?_
  refine y_na2 (atype := .int) (ci := 10) (t := 0) (ty := .int) (N := 5) hx hb (hts _ yw_153) rfl (by decide) rfl hK hP hS (by decide) (by decide) (by decide) (Nat.le_of_ble_eq_true rfl) (Nat.le_of_ble_eq_true rfl) (by rcases hk with rfl <;> decide +kernel) (by omega) (by rcases hk with rfl <;> decide) dX10_init_147 (fun H1 hP hS => ?_)
  have hP : y_P D B k (k + 15) (y_e cA B k 10 ((((((((((((((y_fr 10).set 2 (.ref (B + (k + 1)))).set 3 (.ref (B + (k + 2)))).set 4 (.ref (B + (k + 3)))).set 5 (.ref (B + (k + 4)))).set 6 (.ref (B + (k + 5)))).set 8 (.ref (B + (k + 6)))).set 9 (.ref (B + (k + 7)))).set 11 (.ref (B + (k + 8)))).set 21 (.ref (B + (k + 9)))).set 22 (.ref (B + (k + 10)))).set 23 (.ref (B + (k + 11)))).set 25 (.ref (B + (k + 12)))).set 26 (.ref (B + (k + 13))))) H1 := hP
  refine W.widen (k := 14) (n := 1247) (by omega) (by omega) ?_
  refine y_pf2 (j := 27) (ty := tyX10 27) hx hb hts cls_X10 hown hK hP hS hA (by omega) (Nat.le_of_ble_eq_true rfl) (Nat.le_of_ble_eq_true rfl) yw_995 rfl hin rfl (tyX10_ok 27 (Nat.le_of_ble_eq_true rfl)) rfl rfl dX10_init_149 (fun H1 locs1 hP hS => ?_)
  have hP : y_P D B k (k + 15) (y_e cA B k 10 (((((((((((((((y_fr 10).set 2 (.ref (B + (k + 1)))).set 3 (.ref (B + (k + 2)))).set 4 (.ref (B + (k + 3)))).set 5 (.ref (B + (k + 4)))).set 6 (.ref (B + (k + 5)))).set 8 (.ref (B + (k + 6)))).set 9 (.ref (B + (k + 7)))).set 11 (.ref (B + (k + 8)))).set 21 (.ref (B + (k + 9)))).set 22 (.ref (B + (k + 10)))).set 23 (.ref (B + (k + 11)))).set 25 (.ref (B + (k + 12)))).set 26 (.ref (B + (k + 13)))).set 27 (.ref (B + (k + 14))))) H1 := hP
  refine lv_aload_n hx hb dX10_init_152 rfl (lv_at hl 0 rfl) ?_
  refine lv_iconst (v := 2) hx hb dX10_init_153 (by decide) ?_
  refine y_na2 (atype := .boolean) (ci := 10) (t := 2) (ty := .boolean) (N := 2) hx hb (hts _ yw_152) rfl (by decide) rfl hK hP hS (by decide) (by decide) (by decide) (Nat.le_of_ble_eq_true rfl) (Nat.le_of_ble_eq_true rfl) (by rcases hk with rfl <;> decide +kernel) (by omega) (by rcases hk with rfl <;> decide) dX10_init_154 (fun H1 hP hS => ?_)
  have hP : y_P D B k (k + 16) (y_e cA B k 10 (((((((((((((((y_fr 10).set 2 (.ref (B + (k + 1)))).set 3 (.ref (B + (k + 2)))).set 4 (.ref (B + (k + 3)))).set 5 (.ref (B + (k + 4)))).set 6 (.ref (B + (k + 5)))).set 8 (.ref (B + (k + 6)))).set 9 (.ref (B + (k + 7)))).set 11 (.ref (B + (k + 8)))).set 21 (.ref (B + (k + 9)))).set 22 (.ref (B + (k + 10)))).set 23 (.ref (B + (k + 11)))).set 25 (.ref (B + (k + 12)))).set 26 (.ref (B + (k + 13)))).set 27 (.ref (B + (k + 14))))) H1 := hP
  refine W.widen (k := 15) (n := 1249) (by omega) (by omega) ?_
  refine y_pf2 (j := 30) (ty := tyX10 30) hx hb hts cls_X10 hown hK hP hS hA (by omega) (Nat.le_of_ble_eq_true rfl) (Nat.le_of_ble_eq_true rfl) yw_998 rfl hin rfl (tyX10_ok 30 (Nat.le_of_ble_eq_true rfl)) rfl rfl dX10_init_156 (fun H1 locs1 hP hS => ?_)
  have hP : y_P D B k (k + 16) (y_e cA B k 10 ((((((((((((((((y_fr 10).set 2 (.ref (B + (k + 1)))).set 3 (.ref (B + (k + 2)))).set 4 (.ref (B + (k + 3)))).set 5 (.ref (B + (k + 4)))).set 6 (.ref (B + (k + 5)))).set 8 (.ref (B + (k + 6)))).set 9 (.ref (B + (k + 7)))).set 11 (.ref (B + (k + 8)))).set 21 (.ref (B + (k + 9)))).set 22 (.ref (B + (k + 10)))).set 23 (.ref (B + (k + 11)))).set 25 (.ref (B + (k + 12)))).set 26 (.ref (B + (k + 13)))).set 27 (.ref (B + (k + 14)))).set 30 (.ref (B + (k + 15))))) H1 := hP
  refine lv_aload_n hx hb dX10_init_159 rfl (lv_at hl 0 rfl) ?_
  refine lv_sipush (v := 212) hx hb dX10_init_160 (by decide) ?_
  refine y_na2 (atype := .int) (ci := 10) (t := 0) (ty := .int) (N := 212) hx hb (hts _ yw_153) rfl (by decide) rfl hK hP hS (by decide) (by decide) (by decide) (Nat.le_of_ble_eq_true rfl) (Nat.le_of_ble_eq_true rfl) (by rcases hk with rfl <;> decide +kernel) (by omega) (by rcases hk with rfl <;> decide) dX10_init_163 (fun H1 hP hS => ?_)
  have hP : y_P D B k (k + 17) (y_e cA B k 10 ((((((((((((((((y_fr 10).set 2 (.ref (B + (k + 1)))).set 3 (.ref (B + (k + 2)))).set 4 (.ref (B + (k + 3)))).set 5 (.ref (B + (k + 4)))).set 6 (.ref (B + (k + 5)))).set 8 (.ref (B + (k + 6)))).set 9 (.ref (B + (k + 7)))).set 11 (.ref (B + (k + 8)))).set 21 (.ref (B + (k + 9)))).set 22 (.ref (B + (k + 10)))).set 23 (.ref (B + (k + 11)))).set 25 (.ref (B + (k + 12)))).set 26 (.ref (B + (k + 13)))).set 27 (.ref (B + (k + 14)))).set 30 (.ref (B + (k + 15))))) H1 := hP
  refine W.widen (k := 16) (n := 1461) (by omega) (by omega) ?_
  refine y_pf2 (j := 31) (ty := tyX10 31) hx hb hts cls_X10 hown hK hP hS hA (by omega) (Nat.le_of_ble_eq_true rfl) (Nat.le_of_ble_eq_true rfl) yw_999 rfl hin rfl (tyX10_ok 31 (Nat.le_of_ble_eq_true rfl)) rfl rfl dX10_init_165 (fun H1 locs1 hP hS => ?_)
  have hP : y_P D B k (k + 17) (y_e cA B k 10 (((((((((((((((((y_fr 10).set 2 (.ref (B + (k + 1)))).set 3 (.ref (B + (k + 2)))).set 4 (.ref (B + (k + 3)))).set 5 (.ref (B + (k + 4)))).set 6 (.ref (B + (k + 5)))).set 8 (.ref (B + (k + 6)))).set 9 (.ref (B + (k + 7)))).set 11 (.ref (B + (k + 8)))).set 21 (.ref (B + (k + 9)))).set 22 (.ref (B + (k + 10)))).set 23 (.ref (B + (k + 11)))).set 25 (.ref (B + (k + 12)))).set 26 (.ref (B + (k + 13)))).set 27 (.ref (B + (k + 14)))).set 30 (.ref (B + (k + 15)))).set 31 (.ref (B + (k + 16))))) H1 := hP
  refine lv_aload_n hx hb dX10_init_168 rfl (lv_at hl 0 rfl) ?_
  refine lv_sipush (v := 360) hx hb dX10_init_169 (by decide) ?_
  refine y_na2 (atype := .int) (ci := 10) (t := 0) (ty := .int) (N := 360) hx hb (hts _ yw_153) rfl (by decide) rfl hK hP hS (by decide) (by decide) (by decide) (Nat.le_of_ble_eq_true rfl) (Nat.le_of_ble_eq_true rfl) (by rcases hk with rfl <;> decide +kernel) (by omega) (by rcases hk with rfl <;> decide) dX10_init_172 (fun H1 hP hS => ?_)
  have hP : y_P D B k (k + 18) (y_e cA B k 10 (((((((((((((((((y_fr 10).set 2 (.ref (B + (k + 1)))).set 3 (.ref (B + (k + 2)))).set 4 (.ref (B + (k + 3)))).set 5 (.ref (B + (k + 4)))).set 6 (.ref (B + (k + 5)))).set 8 (.ref (B + (k + 6)))).set 9 (.ref (B + (k + 7)))).set 11 (.ref (B + (k + 8)))).set 21 (.ref (B + (k + 9)))).set 22 (.ref (B + (k + 10)))).set 23 (.ref (B + (k + 11)))).set 25 (.ref (B + (k + 12)))).set 26 (.ref (B + (k + 13)))).set 27 (.ref (B + (k + 14)))).set 30 (.ref (B + (k + 15)))).set 31 (.ref (B + (k + 16))))) H1 := hP
  refine W.widen (k := 17) (n := 1821) (by omega) (by omega) ?_
  refine y_pf2 (j := 32) (ty := tyX10 32) hx hb hts cls_X10 hown hK hP hS hA (by omega) (Nat.le_of_ble_eq_true rfl) (Nat.le_of_ble_eq_true rfl) yw_1000 rfl hin rfl (tyX10_ok 32 (Nat.le_of_ble_eq_true rfl)) rfl rfl dX10_init_174 (fun H1 locs1 hP hS => ?_)
  have hP : y_P D B k (k + 18) (y_e cA B k 10 ((((((((((((((((((y_fr 10).set 2 (.ref (B + (k + 1)))).set 3 (.ref (B + (k + 2)))).set 4 (.ref (B + (k + 3)))).set 5 (.ref (B + (k + 4)))).set 6 (.ref (B + (k + 5)))).set 8 (.ref (B + (k + 6)))).set 9 (.ref (B + (k + 7)))).set 11 (.ref (B + (k + 8)))).set 21 (.ref (B + (k + 9)))).set 22 (.ref (B + (k + 10)))).set 23 (.ref (B + (k + 11)))).set 25 (.ref (B + (k + 12)))).set 26 (.ref (B + (k + 13)))).set 27 (.ref (B + (k + 14)))).set 30 (.ref (B + (k + 15)))).set 31 (.ref (B + (k + 16)))).set 32 (.ref (B + (k + 17))))) H1 := hP
  refine lv_aload_n hx hb dX10_init_177 rfl (lv_at hl 0 rfl) ?_
  refine lv_bipush (v := 16) hx hb dX10_init_178 (by decide) ?_
  refine y_na2 (atype := .int) (ci := 10) (t := 0) (ty := .int) (N := 16) hx hb (hts _ yw_153) rfl (by decide) rfl hK hP hS (by decide) (by decide) (by decide) (Nat.le_of_ble_eq_true rfl) (Nat.le_of_ble_eq_true rfl) (by rcases hk with rfl <;> decide +kernel) (by omega) (by rcases hk with rfl <;> decide) dX10_init_180 (fun H1 hP hS => ?_)
  have hP : y_P D B k (k + 19) (y_e cA B k 10 ((((((((((((((((((y_fr 10).set 2 (.ref (B + (k + 1)))).set 3 (.ref (B + (k + 2)))).set 4 (.ref (B + (k + 3)))).set 5 (.ref (B + (k + 4)))).set 6 (.ref (B + (k + 5)))).set 8 (.ref (B + (k + 6)))).set 9 (.ref (B + (k + 7)))).set 11 (.ref (B + (k + 8)))).set 21 (.ref (B + (k + 9)))).set 22 (.ref (B + (k + 10)))).set 23 (.ref (B + (k + 11)))).set 25 (.ref (B + (k + 12)))).set 26 (.ref (B + (k + 13)))).set 27 (.ref (B + (k + 14)))).set 30 (.ref (B + (k + 15)))).set 31 (.ref (B + (k + 16)))).set 32 (.ref (B + (k + 17))))) H1 := hP
  refine W.widen (k := 18) (n := 1837) (by omega) (by omega) ?_
  refine y_pf2 (j := 33) (ty := tyX10 33) hx hb hts cls_X10 hown hK hP hS hA (by omega) (Nat.le_of_ble_eq_true rfl) (Nat.le_of_ble_eq_true rfl) yw_1001 rfl hin rfl (tyX10_ok 33 (Nat.le_of_ble_eq_true rfl)) rfl rfl dX10_init_182 (fun H1 locs1 hP hS => ?_)
  have hP : y_P D B k (k + 19) (y_e cA B k 10 (((((((((((((((((((y_fr 10).set 2 (.ref (B + (k + 1)))).set 3 (.ref (B + (k + 2)))).set 4 (.ref (B + (k + 3)))).set 5 (.ref (B + (k + 4)))).set 6 (.ref (B + (k + 5)))).set 8 (.ref (B + (k + 6)))).set 9 (.ref (B + (k + 7)))).set 11 (.ref (B + (k + 8)))).set 21 (.ref (B + (k + 9)))).set 22 (.ref (B + (k + 10)))).set 23 (.ref (B + (k + 11)))).set 25 (.ref (B + (k + 12)))).set 26 (.ref (B + (k + 13)))).set 27 (.ref (B + (k + 14)))).set 30 (.ref (B + (k + 15)))).set 31 (.ref (B + (k + 16)))).set 32 (.ref (B + (k + 17)))).set 33 (.ref (B + (k + 18))))) H1 := hP
  have hP : y_P D B k (k + 1 + 18) (y_E cA B) H1 := hP.congr (y_cg2 (c := 10) (by rcases hk with rfl <;> decide +kernel) (by decide) (by rcases hk with rfl <;> decide) rfl)
  exact W.vret hx hb hr (fun t ht hW => ⟨⟨(), rfl, trivial, by dsimp only; rw [ht]; exact hP⟩, hS.F ht⟩) hS.2.2 dX10_init_185
