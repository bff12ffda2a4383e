def okX8 (k : Nat) : Prop := k = 8 ∨ k = 25 ∨ k = 42 ∨ k = 59
theorem fr_X8 : ∀ j, j < 8 → defaultValue (tyX8 j) = vp_V (y_fr 8) j := fun j hj => by
  rcases j with _ | _ | _ | _ | _ | _ | _ | _ | j <;> first | rfl | omega
set_option maxHeartbeats 4000000 in
set_option maxRecDepth 100000 in
theorem c_X8_init (l : Launch) : y_OK l yX8_init cX8_init 8 16 295 2 32 okX8 := by
  intro D cA B k hk
  refine Met.ofW (cc := cX8_init) (maxL := 1) (ret := none) (by decide) rfl ?_
  intro p e s m args below meth c s₁ Bd hml hv
  obtain ⟨rfl, hP, hK, hN⟩ := hv
  have hx := Bd.exec
  have hb := Bd.bytes
  have hr := Bd.returns
  have hts0 := atoms_spec (ws := (.code yX8_init cX8_init 1 none :: z_tbl)) Bd.pre
  have hts : ∀ w ∈ z_tbl, w.before [Value.ref (B + k)].toArray s = true := fun w hw => hts0 w (List.mem_cons_of_mem _ hw)
  have hown : s.vm.findClass RX8 = some m.cls := findClass_of_methodNamed Bd.named
  have hlocks := Bd.notSynchronized
  have hin : meth.name = "<init>" := (name_of_methodNamed Bd.named Bd.method).1
  have hA : ∀ q, B + k ≤ q → (fun q => B + k ≤ q) q := fun _ h => h
  have hS : va_S (fun q => B + k ≤ q) s.heap s.heap [] := va_S.rf
  have hl := lv_entry ([.ref (B + k)]) (n := 1) (Nat.le_of_ble_eq_true rfl)
  rw [lg_entry_eq]
  generalize (lg_sl ([.ref (B + k)]) ++ List.replicate (1 - (lg_sl ([.ref (B + k)])).length) Slot.unset).toArray = ls at hl ⊢
  have hl : lv_has ls 1 [(0, .ref (B + k))] := hl
  refine lv_aload_n hx hb dX8_init_0 rfl (lv_at hl 0 rfl) ?_
  refine W.objInit hx hb hown (hts _ yw_99) (hts _ yw_39) (hts _ yw_40) rfl (by rw [hml]; exact hl.1) rfl dX8_init_1 (Nat.le_of_ble_eq_true rfl) (Nat.le_of_ble_eq_true rfl) ?_
  refine W.eq (g2 := F0 m 4 ls []) rfl ?_
  refine lv_aload_n hx hb dX8_init_4 rfl (lv_at hl 0 rfl) ?_
  refine y_nw (C := RX6) (T := TX6) (N := 7) (ci := 6) (ty := tyX6) hx hb hts cls_X6 tyX6_ok fr_X6 hown yw_100 yw_101 yw_21 hK hP hS (Nat.le_of_ble_eq_true rfl) (Nat.le_of_ble_eq_true rfl) dX8_init_5 (fun H1 hP hS => ?_)
  refine W.widen (k := 1) (n := 7) (by omega) (by omega) ?_
  refine lv_dup hx hb dX8_init_8 rfl ?_
  refine y_cn (ok := okX6) (k := k + 1) (c_X6_init l) (by unfold okX6; rcases hk with rfl | rfl | rfl | rfl <;> decide +kernel) ⟨hx, hb, hml, hown, hts⟩ hP hS hA (by omega) (if_pos rfl) hK hN (by decide +kernel) yw_21 yw_104 yw_103 rfl ⟨by decide, by decide, by decide +kernel⟩ ⟨(Nat.le_of_ble_eq_true rfl), (Nat.le_of_ble_eq_true rfl)⟩ hl.1 (Nat.le_of_ble_eq_true rfl) ⟨(Nat.le_of_ble_eq_true rfl), (Nat.le_of_ble_eq_true rfl)⟩ dX8_init_9 (fun H1 locs1 hP hS => ?_)
  refine W.widen (k := 7) (n := 79) (by omega) (by omega) ?_
  have hP : y_P D B k (k + 8) (y_e cA B k 8 (y_fr 8)) H1 := hP.congr (y_cg1 (by omega))
  refine y_pf2 (j := 0) (ty := tyX8 0) hx hb hts cls_X8 hown hK hP hS hA (by omega) (Nat.le_of_ble_eq_true rfl) (Nat.le_of_ble_eq_true rfl) yw_192 rfl hin rfl (tyX8_ok 0 (Nat.le_of_ble_eq_true rfl)) rfl rfl dX8_init_12 (fun H1 locs1 hP hS => ?_)
  have hP : y_P D B k (k + 8) (y_e cA B k 8 ((y_fr 8).set 0 (.ref (B + (k + 1))))) H1 := hP
  refine lv_aload_n hx hb dX8_init_15 rfl (lv_at hl 0 rfl) ?_
  refine y_nw (C := RX7) (T := TX7) (N := 4) (ci := 7) (ty := tyX7) hx hb hts cls_X7 tyX7_ok fr_X7 hown yw_143 yw_144 yw_22 hK hP hS (Nat.le_of_ble_eq_true rfl) (Nat.le_of_ble_eq_true rfl) dX8_init_16 (fun H1 hP hS => ?_)
  refine W.widen (k := 8) (n := 83) (by omega) (by omega) ?_
  refine lv_dup hx hb dX8_init_19 rfl ?_
  refine y_cn (ok := okX7) (k := k + 8) (c_X7_init l) (by unfold okX7; rcases hk with rfl | rfl | rfl | rfl <;> decide +kernel) ⟨hx, hb, hml, hown, hts⟩ hP hS hA (by omega) (if_pos rfl) hK hN (by decide +kernel) yw_22 yw_147 yw_146 rfl ⟨by decide, by decide, by decide +kernel⟩ ⟨(Nat.le_of_ble_eq_true rfl), (Nat.le_of_ble_eq_true rfl)⟩ hl.1 (Nat.le_of_ble_eq_true rfl) ⟨(Nat.le_of_ble_eq_true rfl), (Nat.le_of_ble_eq_true rfl)⟩ dX8_init_20 (fun H1 locs1 hP hS => ?_)
  refine W.widen (k := 11) (n := 101) (by omega) (by omega) ?_
  have hP : y_P D B k (k + 12) (y_e cA B k 8 ((y_fr 8).set 0 (.ref (B + (k + 1))))) H1 := hP.congr (y_cg1 (by omega))
  refine y_pf2 (j := 1) (ty := tyX8 1) hx hb hts cls_X8 hown hK hP hS hA (by omega) (Nat.le_of_ble_eq_true rfl) (Nat.le_of_ble_eq_true rfl) yw_196 rfl hin rfl (tyX8_ok 1 (Nat.le_of_ble_eq_true rfl)) rfl rfl dX8_init_23 (fun H1 locs1 hP hS => ?_)
  have hP : y_P D B k (k + 12) (y_e cA B k 8 (((y_fr 8).set 0 (.ref (B + (k + 1)))).set 1 (.ref (B + (k + 8))))) H1 := hP
  refine lv_aload_n hx hb dX8_init_26 rfl (lv_at hl 0 rfl) ?_
  refine y_nw (C := RX2) (T := TX2) (N := 4) (ci := 2) (ty := tyX2) hx hb hts cls_X2 tyX2_ok fr_X2 hown yw_167 yw_168 yw_23 hK hP hS (Nat.le_of_ble_eq_true rfl) (Nat.le_of_ble_eq_true rfl) dX8_init_27 (fun H1 hP hS => ?_)
  refine W.widen (k := 12) (n := 105) (by omega) (by omega) ?_
  refine lv_dup hx hb dX8_init_30 rfl ?_
  refine y_cn (ok := okX2) (k := k + 12) (c_X2_init l) (by unfold okX2; rcases hk with rfl | rfl | rfl | rfl <;> decide +kernel) ⟨hx, hb, hml, hown, hts⟩ hP hS hA (by omega) (if_pos rfl) hK hN (by decide +kernel) yw_23 yw_171 yw_170 rfl ⟨by decide, by decide, by decide +kernel⟩ ⟨(Nat.le_of_ble_eq_true rfl), (Nat.le_of_ble_eq_true rfl)⟩ hl.1 (Nat.le_of_ble_eq_true rfl) ⟨(Nat.le_of_ble_eq_true rfl), (Nat.le_of_ble_eq_true rfl)⟩ dX8_init_31 (fun H1 locs1 hP hS => ?_)
  refine W.widen (k := 15) (n := 285) (by omega) (by omega) ?_
  have hP : y_P D B k (k + 16) (y_e cA B k 8 (((y_fr 8).set 0 (.ref (B + (k + 1)))).set 1 (.ref (B + (k + 8))))) H1 := hP.congr (y_cg1 (by omega))
  refine y_pf2 (j := 2) (ty := tyX8 2) hx hb hts cls_X8 hown hK hP hS hA (by omega) (Nat.le_of_ble_eq_true rfl) (Nat.le_of_ble_eq_true rfl) yw_199 rfl hin rfl (tyX8_ok 2 (Nat.le_of_ble_eq_true rfl)) rfl rfl dX8_init_34 (fun H1 locs1 hP hS => ?_)
  have hP : y_P D B k (k + 16) (y_e cA B k 8 ((((y_fr 8).set 0 (.ref (B + (k + 1)))).set 1 (.ref (B + (k + 8)))).set 2 (.ref (B + (k + 12))))) H1 := hP
  refine lv_aload_n hx hb dX8_init_37 rfl (lv_at hl 0 rfl) ?_
  refine lv_bipush (v := 10) hx hb dX8_init_38 (by decide) ?_
  refine y_na2 (atype := .int) (ci := 8) (t := 0) (ty := .int) (N := 10) hx hb (hts _ yw_93) rfl (by decide) rfl hK hP hS (by decide) (by decide) (by decide) (Nat.le_of_ble_eq_true rfl) (Nat.le_of_ble_eq_true rfl) (by rcases hk with rfl | rfl | rfl | rfl <;> decide +kernel) (by omega) (by rcases hk with rfl | rfl | rfl | rfl <;> decide) dX8_init_40 (fun H1 hP hS => ?_)
  have hP : y_P D B k (k + 17) (y_e cA B k 8 ((((y_fr 8).set 0 (.ref (B + (k + 1)))).set 1 (.ref (B + (k + 8)))).set 2 (.ref (B + (k + 12))))) H1 := hP
  refine W.widen (k := 16) (n := 295) (by omega) (by omega) ?_
  refine y_pf2 (j := 3) (ty := tyX8 3) hx hb hts cls_X8 hown hK hP hS hA (by omega) (Nat.le_of_ble_eq_true rfl) (Nat.le_of_ble_eq_true rfl) yw_201 rfl hin rfl (tyX8_ok 3 (Nat.le_of_ble_eq_true rfl)) rfl rfl dX8_init_42 (fun H1 locs1 hP hS => ?_)
  have hP : y_P D B k (k + 17) (y_e cA B k 8 (((((y_fr 8).set 0 (.ref (B + (k + 1)))).set 1 (.ref (B + (k + 8)))).set 2 (.ref (B + (k + 12)))).set 3 (.ref (B + (k + 16))))) H1 := hP
  have hP : y_P D B k (k + 1 + 16) (y_E cA B) H1 := hP.congr (y_cg2 (c := 8) (by rcases hk with rfl | rfl | rfl | rfl <;> decide +kernel) (by decide) (by rcases hk with rfl | rfl | rfl | rfl <;> decide) rfl)
  exact W.vret hx hb hr (fun t ht hW => ⟨⟨(), rfl, trivial, by dsimp only; rw [ht]; exact hP⟩, hS.F ht⟩) hS.2.2 dX8_init_45
def okX3 (k : Nat) : Prop := k = 80
theorem fr_X3 : ∀ j, j < 4 → defaultValue (tyX3 j) = vp_V (y_fr 3) j := fun j hj => by
  rcases j with _ | _ | _ | _ | j <;> first | rfl | omega
set_option maxHeartbeats 4000000 in
set_option maxRecDepth 100000 in
theorem c_X3_init (l : Launch) : y_OK l yX3_init cX3_init 3 3 37 1 12 okX3 := by
  intro D cA B k hk
  refine Met.ofW (cc := cX3_init) (maxL := 1) (ret := none) (by decide) rfl ?_
  intro p e s m args below meth c s₁ Bd hml hv
  obtain ⟨rfl, hP, hK, hN⟩ := hv
  have hx := Bd.exec
  have hb := Bd.bytes
  have hr := Bd.returns
  have hts0 := atoms_spec (ws := (.code yX3_init cX3_init 1 none :: z_tbl)) Bd.pre
  have hts : ∀ w ∈ z_tbl, w.before [Value.ref (B + k)].toArray s = true := fun w hw => hts0 w (List.mem_cons_of_mem _ hw)
  have hown : s.vm.findClass RX3 = some m.cls := findClass_of_methodNamed Bd.named
  have hlocks := Bd.notSynchronized
  have hin : meth.name = "<init>" := (name_of_methodNamed Bd.named Bd.method).1
  have hA : ∀ q, B + k ≤ q → (fun q => B + k ≤ q) q := fun _ h => h
  have hS : va_S (fun q => B + k ≤ q) s.heap s.heap [] := va_S.rf
  have hl := lv_entry ([.ref (B + k)]) (n := 1) (Nat.le_of_ble_eq_true rfl)
  rw [lg_entry_eq]
  generalize (lg_sl ([.ref (B + k)]) ++ List.replicate (1 - (lg_sl ([.ref (B + k)])).length) Slot.unset).toArray = ls at hl ⊢
  have hl : lv_has ls 1 [(0, .ref (B + k))] := hl
  refine lv_aload_n hx hb dX3_init_0 rfl (lv_at hl 0 rfl) ?_
  refine W.objInit hx hb hown (hts _ yw_235) (hts _ yw_39) (hts _ yw_40) rfl (by rw [hml]; exact hl.1) rfl dX3_init_1 (Nat.le_of_ble_eq_true rfl) (Nat.le_of_ble_eq_true rfl) ?_
  refine W.eq (g2 := F0 m 4 ls []) rfl ?_
  refine lv_aload_n hx hb dX3_init_4 rfl (lv_at hl 0 rfl) ?_
  refine lv_bipush (v := 12) hx hb dX3_init_5 (by decide) ?_
  refine y_na2 (atype := .int) (ci := 3) (t := 0) (ty := .int) (N := 12) hx hb (hts _ yw_93) rfl (by decide) rfl hK hP hS (by decide) (by decide) (by decide) (Nat.le_of_ble_eq_true rfl) (Nat.le_of_ble_eq_true rfl) (by rcases hk with rfl <;> decide +kernel) (by omega) (by rcases hk with rfl <;> decide) dX3_init_7 (fun H1 hP hS => ?_)
  have hP : y_P D B k (k + 2) (y_e cA B k 3 (y_fr 3)) H1 := hP
  refine W.widen (k := 1) (n := 12) (by omega) (by omega) ?_
  refine y_pf2 (j := 0) (ty := tyX3 0) hx hb hts cls_X3 hown hK hP hS hA (by omega) (Nat.le_of_ble_eq_true rfl) (Nat.le_of_ble_eq_true rfl) yw_236 rfl hin rfl (tyX3_ok 0 (Nat.le_of_ble_eq_true rfl)) rfl rfl dX3_init_9 (fun H1 locs1 hP hS => ?_)
  have hP : y_P D B k (k + 2) (y_e cA B k 3 ((y_fr 3).set 0 (.ref (B + (k + 1))))) H1 := hP
  refine lv_aload_n hx hb dX3_init_12 rfl (lv_at hl 0 rfl) ?_
  refine lv_bipush (v := 12) hx hb dX3_init_13 (by decide) ?_
  refine y_na2 (atype := .int) (ci := 3) (t := 0) (ty := .int) (N := 12) hx hb (hts _ yw_93) rfl (by decide) rfl hK hP hS (by decide) (by decide) (by decide) (Nat.le_of_ble_eq_true rfl) (Nat.le_of_ble_eq_true rfl) (by rcases hk with rfl <;> decide +kernel) (by omega) (by rcases hk with rfl <;> decide) dX3_init_15 (fun H1 hP hS => ?_)
  have hP : y_P D B k (k + 3) (y_e cA B k 3 ((y_fr 3).set 0 (.ref (B + (k + 1))))) H1 := hP
  refine W.widen (k := 2) (n := 24) (by omega) (by omega) ?_
  refine y_pf2 (j := 1) (ty := tyX3 1) hx hb hts cls_X3 hown hK hP hS hA (by omega) (Nat.le_of_ble_eq_true rfl) (Nat.le_of_ble_eq_true rfl) yw_238 rfl hin rfl (tyX3_ok 1 (Nat.le_of_ble_eq_true rfl)) rfl rfl dX3_init_17 (fun H1 locs1 hP hS => ?_)
  have hP : y_P D B k (k + 3) (y_e cA B k 3 (((y_fr 3).set 0 (.ref (B + (k + 1)))).set 1 (.ref (B + (k + 2))))) H1 := hP
  refine lv_aload_n hx hb dX3_init_20 rfl (lv_at hl 0 rfl) ?_
  refine lv_bipush (v := 13) hx hb dX3_init_21 (by decide) ?_
  refine y_na2 (atype := .int) (ci := 3) (t := 0) (ty := .int) (N := 13) hx hb (hts _ yw_93) rfl (by decide) rfl hK hP hS (by decide) (by decide) (by decide) (Nat.le_of_ble_eq_true rfl) (Nat.le_of_ble_eq_true rfl) (by rcases hk with rfl <;> decide +kernel) (by omega) (by rcases hk with rfl <;> decide) dX3_init_23 (fun H1 hP hS => ?_)
  have hP : y_P D B k (k + 4) (y_e cA B k 3 (((y_fr 3).set 0 (.ref (B + (k + 1)))).set 1 (.ref (B + (k + 2))))) H1 := hP
  refine W.widen (k := 3) (n := 37) (by omega) (by omega) ?_
  refine y_pf2 (j := 2) (ty := tyX3 2) hx hb hts cls_X3 hown hK hP hS hA (by omega) (Nat.le_of_ble_eq_true rfl) (Nat.le_of_ble_eq_true rfl) yw_239 rfl hin rfl (tyX3_ok 2 (Nat.le_of_ble_eq_true rfl)) rfl rfl dX3_init_25 (fun H1 locs1 hP hS => ?_)
  have hP : y_P D B k (k + 4) (y_e cA B k 3 ((((y_fr 3).set 0 (.ref (B + (k + 1)))).set 1 (.ref (B + (k + 2)))).set 2 (.ref (B + (k + 3))))) H1 := hP
  have hP : y_P D B k (k + 1 + 3) (y_E cA B) H1 := hP.congr (y_cg2 (c := 3) (by rcases hk with rfl <;> decide +kernel) (by decide) (by rcases hk with rfl <;> decide) rfl)
  exact W.vret hx hb hr (fun t ht hW => ⟨⟨(), rfl, trivial, by dsimp only; rw [ht]; exact hP⟩, hS.F ht⟩) hS.2.2 dX3_init_28
def okX1 (k : Nat) : Prop := k = 84
theorem fr_X1 : ∀ j, j < 2 → defaultValue (tyX1 j) = vp_V (y_fr 1) j := fun j hj => by
  rcases j with _ | _ | j <;> first | rfl | omega
set_option maxHeartbeats 4000000 in
set_option maxRecDepth 100000 in
theorem c_X1_init (l : Launch) : y_OK l yX1_init cX1_init 1 1 5 1 12 okX1 := by
  intro D cA B k hk
  refine Met.ofW (cc := cX1_init) (maxL := 1) (ret := none) (by decide) rfl ?_
  intro p e s m args below meth c s₁ Bd hml hv
  obtain ⟨rfl, hP, hK, hN⟩ := hv
  have hx := Bd.exec
  have hb := Bd.bytes
  have hr := Bd.returns
  have hts0 := atoms_spec (ws := (.code yX1_init cX1_init 1 none :: z_tbl)) Bd.pre
  have hts : ∀ w ∈ z_tbl, w.before [Value.ref (B + k)].toArray s = true := fun w hw => hts0 w (List.mem_cons_of_mem _ hw)
  have hown : s.vm.findClass RX1 = some m.cls := findClass_of_methodNamed Bd.named
  have hlocks := Bd.notSynchronized
  have hin : meth.name = "<init>" := (name_of_methodNamed Bd.named Bd.method).1
  have hA : ∀ q, B + k ≤ q → (fun q => B + k ≤ q) q := fun _ h => h
  have hS : va_S (fun q => B + k ≤ q) s.heap s.heap [] := va_S.rf
  have hl := lv_entry ([.ref (B + k)]) (n := 1) (Nat.le_of_ble_eq_true rfl)
  rw [lg_entry_eq]
  generalize (lg_sl ([.ref (B + k)]) ++ List.replicate (1 - (lg_sl ([.ref (B + k)])).length) Slot.unset).toArray = ls at hl ⊢
  have hl : lv_has ls 1 [(0, .ref (B + k))] := hl
  refine lv_aload_n hx hb dX1_init_0 rfl (lv_at hl 0 rfl) ?_
  refine W.objInit hx hb hown (hts _ yw_256) (hts _ yw_39) (hts _ yw_40) rfl (by rw [hml]; exact hl.1) rfl dX1_init_1 (Nat.le_of_ble_eq_true rfl) (Nat.le_of_ble_eq_true rfl) ?_
  refine W.eq (g2 := F0 m 4 ls []) rfl ?_
  refine lv_aload_n hx hb dX1_init_4 rfl (lv_at hl 0 rfl) ?_
  refine lv_iconst (v := 5) hx hb dX1_init_5 (by decide) ?_
  refine y_na2 (atype := .int) (ci := 1) (t := 0) (ty := .int) (N := 5) hx hb (hts _ yw_93) rfl (by decide) rfl hK hP hS (by decide) (by decide) (by decide) (Nat.le_of_ble_eq_true rfl) (Nat.le_of_ble_eq_true rfl) (by rcases hk with rfl <;> decide +kernel) (by omega) (by rcases hk with rfl <;> decide) dX1_init_6 (fun H1 hP hS => ?_)
  have hP : y_P D B k (k + 2) (y_e cA B k 1 (y_fr 1)) H1 := hP
  refine W.widen (k := 1) (n := 5) (by omega) (by omega) ?_
  refine y_pf2 (j := 0) (ty := tyX1 0) hx hb hts cls_X1 hown hK hP hS hA (by omega) (Nat.le_of_ble_eq_true rfl) (Nat.le_of_ble_eq_true rfl) yw_257 rfl hin rfl (tyX1_ok 0 (Nat.le_of_ble_eq_true rfl)) rfl rfl dX1_init_8 (fun H1 locs1 hP hS => ?_)
  have hP : y_P D B k (k + 2) (y_e cA B k 1 ((y_fr 1).set 0 (.ref (B + (k + 1))))) H1 := hP
  have hP : y_P D B k (k + 1 + 1) (y_E cA B) H1 := hP.congr (y_cg2 (c := 1) (by rcases hk with rfl <;> decide +kernel) (by decide) (by rcases hk with rfl <;> decide) rfl)
  exact W.vret hx hb hr (fun t ht hW => ⟨⟨(), rfl, trivial, by dsimp only; rw [ht]; exact hP⟩, hS.F ht⟩) hS.2.2 dX1_init_11
def okX0 (k : Nat) : Prop := k = 86
theorem fr_X0 : ∀ j, j < 6 → defaultValue (tyX0 j) = vp_V (y_fr 0) j := fun j hj => by
  rcases j with _ | _ | _ | _ | _ | _ | j <;> first | rfl | omega
set_option maxHeartbeats 4000000 in
set_option maxRecDepth 100000 in
theorem c_X0_init (l : Launch) : y_OK l yX0_init cX0_init 0 1 16 1 12 okX0 := by
  intro D cA B k hk
  refine Met.ofW (cc := cX0_init) (maxL := 1) (ret := none) (by decide) rfl ?_
  intro p e s m args below meth c s₁ Bd hml hv
  obtain ⟨rfl, hP, hK, hN⟩ := hv
  have hx := Bd.exec
  have hb := Bd.bytes
  have hr := Bd.returns
  have hts0 := atoms_spec (ws := (.code yX0_init cX0_init 1 none :: z_tbl)) Bd.pre
  have hts : ∀ w ∈ z_tbl, w.before [Value.ref (B + k)].toArray s = true := fun w hw => hts0 w (List.mem_cons_of_mem _ hw)
  have hown : s.vm.findClass RX0 = some m.cls := findClass_of_methodNamed Bd.named
  have hlocks := Bd.notSynchronized
  have hin : meth.name = "<init>" := (name_of_methodNamed Bd.named Bd.method).1
  have hA : ∀ q, B + k ≤ q → (fun q => B + k ≤ q) q := fun _ h => h
  have hS : va_S (fun q => B + k ≤ q) s.heap s.heap [] := va_S.rf
  have hl := lv_entry ([.ref (B + k)]) (n := 1) (Nat.le_of_ble_eq_true rfl)
  rw [lg_entry_eq]
  generalize (lg_sl ([.ref (B + k)]) ++ List.replicate (1 - (lg_sl ([.ref (B + k)])).length) Slot.unset).toArray = ls at hl ⊢
  have hl : lv_has ls 1 [(0, .ref (B + k))] := hl
  refine lv_aload_n hx hb dX0_init_0 rfl (lv_at hl 0 rfl) ?_
  refine W.objInit hx hb hown (hts _ yw_268) (hts _ yw_39) (hts _ yw_40) rfl (by rw [hml]; exact hl.1) rfl dX0_init_1 (Nat.le_of_ble_eq_true rfl) (Nat.le_of_ble_eq_true rfl) ?_
  refine W.eq (g2 := F0 m 4 ls []) rfl ?_
  refine lv_aload_n hx hb dX0_init_4 rfl (lv_at hl 0 rfl) ?_
  refine lv_bipush (v := 16) hx hb dX0_init_5 (by decide) ?_
  refine y_na2 (atype := .int) (ci := 0) (t := 0) (ty := .int) (N := 16) hx hb (hts _ yw_93) rfl (by decide) rfl hK hP hS (by decide) (by decide) (by decide) (Nat.le_of_ble_eq_true rfl) (Nat.le_of_ble_eq_true rfl) (by rcases hk with rfl <;> decide +kernel) (by omega) (by rcases hk with rfl <;> decide) dX0_init_7 (fun H1 hP hS => ?_)
  have hP : y_P D B k (k + 2) (y_e cA B k 0 (y_fr 0)) H1 := hP
  refine W.widen (k := 1) (n := 16) (by omega) (by omega) ?_
  refine y_pf2 (j := 0) (ty := tyX0 0) hx hb hts cls_X0 hown hK hP hS hA (by omega) (Nat.le_of_ble_eq_true rfl) (Nat.le_of_ble_eq_true rfl) yw_269 rfl hin rfl (tyX0_ok 0 (Nat.le_of_ble_eq_true rfl)) rfl rfl dX0_init_9 (fun H1 locs1 hP hS => ?_)
  have hP : y_P D B k (k + 2) (y_e cA B k 0 ((y_fr 0).set 0 (.ref (B + (k + 1))))) H1 := hP
  have hP : y_P D B k (k + 1 + 1) (y_E cA B) H1 := hP.congr (y_cg2 (c := 0) (by rcases hk with rfl <;> decide +kernel) (by decide) (by rcases hk with rfl <;> decide) rfl)
  exact W.vret hx hb hr (fun t ht hW => ⟨⟨(), rfl, trivial, by dsimp only; rw [ht]; exact hP⟩, hS.F ht⟩) hS.2.2 dX0_init_12
