def okX9 (k : Nat) : Prop := k = 0
theorem fr_X9 : ∀ j, j < 13 → defaultValue (tyX9 j) = vp_V (y_fr 9) j := fun j hj => by
  rcases j with _ | _ | _ | _ | _ | _ | _ | _ | _ | _ | _ | _ | _ | j <;> first | rfl | omega
set_option maxHeartbeats 4000000 in
set_option maxRecDepth 100000 in
theorem c_X9_init (l : Launch) : y_OK l yX9_init cX9_init 9 88 2241 3 52 okX9 := by
  intro D cA B k hk
  refine Met.ofW (cc := cX9_init) (maxL := 1) (ret := none) (by decide) rfl ?_
  intro p e s m args below meth c s₁ Bd hml hv
  obtain ⟨rfl, hP, hK, hN⟩ := hv
  have hx := Bd.exec
  have hb := Bd.bytes
  have hr := Bd.returns
  have hts0 := atoms_spec (ws := (.code yX9_init cX9_init 1 none :: z_tbl)) Bd.pre
  have hts : ∀ w ∈ z_tbl, w.before [Value.ref (B + k)].toArray s = true := fun w hw => hts0 w (List.mem_cons_of_mem _ hw)
  have hown : s.vm.findClass RX9 = some m.cls := findClass_of_methodNamed Bd.named
  have hlocks := Bd.notSynchronized
  have hin : meth.name = "<init>" := (name_of_methodNamed Bd.named Bd.method).1
  have hA : ∀ q, B + k ≤ q → (fun q => B + k ≤ q) q := fun _ h => h
  have hS : va_S (fun q => B + k ≤ q) s.heap s.heap [] := va_S.rf
  have hl := lv_entry ([.ref (B + k)]) (n := 1) (Nat.le_of_ble_eq_true rfl)
  rw [lg_entry_eq]
  generalize (lg_sl ([.ref (B + k)]) ++ List.replicate (1 - (lg_sl ([.ref (B + k)])).length) Slot.unset).toArray = ls at hl ⊢
  have hl : lv_has ls 1 [(0, .ref (B + k))] := hl
  refine lv_aload_n hx hb dX9_init_0 rfl (lv_at hl 0 rfl) ?_
  refine W.objInit hx hb hown (hts _ yw_38) (hts _ yw_39) (hts _ yw_40) rfl (by rw [hml]; exact hl.1) rfl dX9_init_1 (Nat.le_of_ble_eq_true rfl) (Nat.le_of_ble_eq_true rfl) ?_
  refine W.eq (g2 := F0 m 4 ls []) rfl ?_
  refine lv_aload_n hx hb dX9_init_4 rfl (lv_at hl 0 rfl) ?_
  refine y_nw (C := RX4) (T := TX4) (N := 7) (ci := 4) (ty := tyX4) hx hb hts cls_X4 tyX4_ok fr_X4 hown yw_41 yw_42 yw_18 hK hP hS (Nat.le_of_ble_eq_true rfl) (Nat.le_of_ble_eq_true rfl) dX9_init_5 (fun H1 hP hS => ?_)
  refine W.widen (k := 1) (n := 7) (by omega) (by omega) ?_
  refine lv_dup hx hb dX9_init_8 rfl ?_
  refine y_cn (ok := okX4) (k := k + 1) (c_X4_init l) (by unfold okX4; rcases hk with rfl <;> decide +kernel) ⟨hx, hb, hml, hown, hts⟩ hP hS hA (by omega) (if_pos rfl) hK hN (by decide +kernel) yw_18 yw_45 yw_44 rfl ⟨by decide, by decide, by decide +kernel⟩ ⟨(Nat.le_of_ble_eq_true rfl), (Nat.le_of_ble_eq_true rfl)⟩ hl.1 (Nat.le_of_ble_eq_true rfl) ⟨(Nat.le_of_ble_eq_true rfl), (Nat.le_of_ble_eq_true rfl)⟩ dX9_init_9 (fun H1 locs1 hP hS => ?_)
  refine W.widen (k := 2) (n := 407) (by omega) (by omega) ?_
  have hP : y_P D B k (k + 3) (y_e cA B k 9 (y_fr 9)) H1 := hP.congr (y_cg1 (by omega))
  refine y_pf2 (j := 0) (ty := tyX9 0) hx hb hts cls_X9 hown hK hP hS hA (by omega) (Nat.le_of_ble_eq_true rfl) (Nat.le_of_ble_eq_true rfl) yw_283 rfl hin rfl (tyX9_ok 0 (Nat.le_of_ble_eq_true rfl)) rfl rfl dX9_init_12 (fun H1 locs1 hP hS => ?_)
  have hP : y_P D B k (k + 3) (y_e cA B k 9 ((y_fr 9).set 0 (.ref (B + (k + 1))))) H1 := hP
  refine lv_aload_n hx hb dX9_init_15 rfl (lv_at hl 0 rfl) ?_
  refine y_nw (C := RX5) (T := TX5) (N := 4) (ci := 5) (ty := tyX5) hx hb hts cls_X5 tyX5_ok fr_X5 hown yw_73 yw_74 yw_19 hK hP hS (Nat.le_of_ble_eq_true rfl) (Nat.le_of_ble_eq_true rfl) dX9_init_16 (fun H1 hP hS => ?_)
  refine W.widen (k := 3) (n := 411) (by omega) (by omega) ?_
  refine lv_dup hx hb dX9_init_19 rfl ?_
  refine y_cn (ok := okX5) (k := k + 3) (c_X5_init l) (by unfold okX5; rcases hk with rfl <;> decide +kernel) ⟨hx, hb, hml, hown, hts⟩ hP hS hA (by omega) (if_pos rfl) hK hN (by decide +kernel) yw_19 yw_77 yw_76 rfl ⟨by decide, by decide, by decide +kernel⟩ ⟨(Nat.le_of_ble_eq_true rfl), (Nat.le_of_ble_eq_true rfl)⟩ hl.1 (Nat.le_of_ble_eq_true rfl) ⟨(Nat.le_of_ble_eq_true rfl), (Nat.le_of_ble_eq_true rfl)⟩ dX9_init_20 (fun H1 locs1 hP hS => ?_)
  refine W.widen (k := 7) (n := 755) (by omega) (by omega) ?_
  have hP : y_P D B k (k + 8) (y_e cA B k 9 ((y_fr 9).set 0 (.ref (B + (k + 1))))) H1 := hP.congr (y_cg1 (by omega))
  refine y_pf2 (j := 1) (ty := tyX9 1) hx hb hts cls_X9 hown hK hP hS hA (by omega) (Nat.le_of_ble_eq_true rfl) (Nat.le_of_ble_eq_true rfl) yw_284 rfl hin rfl (tyX9_ok 1 (Nat.le_of_ble_eq_true rfl)) rfl rfl dX9_init_23 (fun H1 locs1 hP hS => ?_)
  have hP : y_P D B k (k + 8) (y_e cA B k 9 (((y_fr 9).set 0 (.ref (B + (k + 1)))).set 1 (.ref (B + (k + 3))))) H1 := hP
  refine lv_aload_n hx hb dX9_init_26 rfl (lv_at hl 0 rfl) ?_
  refine y_nw (C := RX8) (T := TX8) (N := 8) (ci := 8) (ty := tyX8) hx hb hts cls_X8 tyX8_ok fr_X8 hown yw_94 yw_95 yw_20 hK hP hS (Nat.le_of_ble_eq_true rfl) (Nat.le_of_ble_eq_true rfl) dX9_init_27 (fun H1 hP hS => ?_)
  refine W.widen (k := 8) (n := 763) (by omega) (by omega) ?_
  refine lv_dup hx hb dX9_init_30 rfl ?_
  refine y_cn (ok := okX8) (k := k + 8) (c_X8_init l) (by unfold okX8; rcases hk with rfl <;> decide +kernel) ⟨hx, hb, hml, hown, hts⟩ hP hS hA (by omega) (if_pos rfl) hK hN (by decide +kernel) yw_20 yw_98 yw_97 rfl ⟨by decide, by decide, by decide +kernel⟩ ⟨(Nat.le_of_ble_eq_true rfl), (Nat.le_of_ble_eq_true rfl)⟩ hl.1 (Nat.le_of_ble_eq_true rfl) ⟨(Nat.le_of_ble_eq_true rfl), (Nat.le_of_ble_eq_true rfl)⟩ dX9_init_31 (fun H1 locs1 hP hS => ?_)
  refine W.widen (k := 24) (n := 1058) (by omega) (by omega) ?_
  have hP : y_P D B k (k + 25) (y_e cA B k 9 (((y_fr 9).set 0 (.ref (B + (k + 1)))).set 1 (.ref (B + (k + 3))))) H1 := hP.congr (y_cg1 (by omega))
  refine y_pf2 (j := 2) (ty := tyX9 2) hx hb hts cls_X9 hown hK hP hS hA (by omega) (Nat.le_of_ble_eq_true rfl) (Nat.le_of_ble_eq_true rfl) yw_285 rfl hin rfl (tyX9_ok 2 (Nat.le_of_ble_eq_true rfl)) rfl rfl dX9_init_34 (fun H1 locs1 hP hS => ?_)
  have hP : y_P D B k (k + 25) (y_e cA B k 9 ((((y_fr 9).set 0 (.ref (B + (k + 1)))).set 1 (.ref (B + (k + 3)))).set 2 (.ref (B + (k + 8))))) H1 := hP
  refine lv_aload_n hx hb dX9_init_37 rfl (lv_at hl 0 rfl) ?_
  refine y_nw (C := RX8) (T := TX8) (N := 8) (ci := 8) (ty := tyX8) hx hb hts cls_X8 tyX8_ok fr_X8 hown yw_94 yw_95 yw_20 hK hP hS (Nat.le_of_ble_eq_true rfl) (Nat.le_of_ble_eq_true rfl) dX9_init_38 (fun H1 hP hS => ?_)
  refine W.widen (k := 25) (n := 1066) (by omega) (by omega) ?_
  refine lv_dup hx hb dX9_init_41 rfl ?_
  refine y_cn (ok := okX8) (k := k + 25) (c_X8_init l) (by unfold okX8; rcases hk with rfl <;> decide +kernel) ⟨hx, hb, hml, hown, hts⟩ hP hS hA (by omega) (if_pos rfl) hK hN (by decide +kernel) yw_20 yw_98 yw_97 rfl ⟨by decide, by decide, by decide +kernel⟩ ⟨(Nat.le_of_ble_eq_true rfl), (Nat.le_of_ble_eq_true rfl)⟩ hl.1 (Nat.le_of_ble_eq_true rfl) ⟨(Nat.le_of_ble_eq_true rfl), (Nat.le_of_ble_eq_true rfl)⟩ dX9_init_42 (fun H1 locs1 hP hS => ?_)
  refine W.widen (k := 41) (n := 1361) (by omega) (by omega) ?_
  have hP : y_P D B k (k + 42) (y_e cA B k 9 ((((y_fr 9).set 0 (.ref (B + (k + 1)))).set 1 (.ref (B + (k + 3)))).set 2 (.ref (B + (k + 8))))) H1 := hP.congr (y_cg1 (by omega))
  refine y_pf2 (j := 3) (ty := tyX9 3) hx hb hts cls_X9 hown hK hP hS hA (by omega) (Nat.le_of_ble_eq_true rfl) (Nat.le_of_ble_eq_true rfl) yw_286 rfl hin rfl (tyX9_ok 3 (Nat.le_of_ble_eq_true rfl)) rfl rfl dX9_init_45 (fun H1 locs1 hP hS => ?_)
  have hP : y_P D B k (k + 42) (y_e cA B k 9 (((((y_fr 9).set 0 (.ref (B + (k + 1)))).set 1 (.ref (B + (k + 3)))).set 2 (.ref (B + (k + 8)))).set 3 (.ref (B + (k + 25))))) H1 := hP
  refine lv_aload_n hx hb dX9_init_48 rfl (lv_at hl 0 rfl) ?_
  refine y_nw (C := RX8) (T := TX8) (N := 8) (ci := 8) (ty := tyX8) hx hb hts cls_X8 tyX8_ok fr_X8 hown yw_94 yw_95 yw_20 hK hP hS (Nat.le_of_ble_eq_true rfl) (Nat.le_of_ble_eq_true rfl) dX9_init_49 (fun H1 hP hS => ?_)
  refine W.widen (k := 42) (n := 1369) (by omega) (by omega) ?_
  refine lv_dup hx hb dX9_init_52 rfl ?_
  refine y_cn (ok := okX8) (k := k + 42) (c_X8_init l) (by unfold okX8; rcases hk with rfl <;> decide +kernel) ⟨hx, hb, hml, hown, hts⟩ hP hS hA (by omega) (if_pos rfl) hK hN (by decide +kernel) yw_20 yw_98 yw_97 rfl ⟨by decide, by decide, by decide +kernel⟩ ⟨(Nat.le_of_ble_eq_true rfl), (Nat.le_of_ble_eq_true rfl)⟩ hl.1 (Nat.le_of_ble_eq_true rfl) ⟨(Nat.le_of_ble_eq_true rfl), (Nat.le_of_ble_eq_true rfl)⟩ dX9_init_53 (fun H1 locs1 hP hS => ?_)
  refine W.widen (k := 58) (n := 1664) (by omega) (by omega) ?_
  have hP : y_P D B k (k + 59) (y_e cA B k 9 (((((y_fr 9).set 0 (.ref (B + (k + 1)))).set 1 (.ref (B + (k + 3)))).set 2 (.ref (B + (k + 8)))).set 3 (.ref (B + (k + 25))))) H1 := hP.congr (y_cg1 (by omega))
  refine y_pf2 (j := 4) (ty := tyX9 4) hx hb hts cls_X9 hown hK hP hS hA (by omega) (Nat.le_of_ble_eq_true rfl) (Nat.le_of_ble_eq_true rfl) yw_287 rfl hin rfl (tyX9_ok 4 (Nat.le_of_ble_eq_true rfl)) rfl rfl dX9_init_56 (fun H1 locs1 hP hS => ?_)
  have hP : y_P D B k (k + 59) (y_e cA B k 9 ((((((y_fr 9).set 0 (.ref (B + (k + 1)))).set 1 (.ref (B + (k + 3)))).set 2 (.ref (B + (k + 8)))).set 3 (.ref (B + (k + 25)))).set 4 (.ref (B + (k + 42))))) H1 := hP
  refine lv_aload_n hx hb dX9_init_59 rfl (lv_at hl 0 rfl) ?_
  refine y_nw (C := RX8) (T := TX8) (N := 8) (ci := 8) (ty := tyX8) hx hb hts cls_X8 tyX8_ok fr_X8 hown yw_94 yw_95 yw_20 hK hP hS (Nat.le_of_ble_eq_true rfl) (Nat.le_of_ble_eq_true rfl) dX9_init_60 (fun H1 hP hS => ?_)
  refine W.widen (k := 59) (n := 1672) (by omega) (by omega) ?_
  refine lv_dup hx hb dX9_init_63 rfl ?_
  refine y_cn (ok := okX8) (k := k + 59) (c_X8_init l) (by unfold okX8; rcases hk with rfl <;> decide +kernel) ⟨hx, hb, hml, hown, hts⟩ hP hS hA (by omega) (if_pos rfl) hK hN (by decide +kernel) yw_20 yw_98 yw_97 rfl ⟨by decide, by decide, by decide +kernel⟩ ⟨(Nat.le_of_ble_eq_true rfl), (Nat.le_of_ble_eq_true rfl)⟩ hl.1 (Nat.le_of_ble_eq_true rfl) ⟨(Nat.le_of_ble_eq_true rfl), (Nat.le_of_ble_eq_true rfl)⟩ dX9_init_64 (fun H1 locs1 hP hS => ?_)
  refine W.widen (k := 75) (n := 1967) (by omega) (by omega) ?_
  have hP : y_P D B k (k + 76) (y_e cA B k 9 ((((((y_fr 9).set 0 (.ref (B + (k + 1)))).set 1 (.ref (B + (k + 3)))).set 2 (.ref (B + (k + 8)))).set 3 (.ref (B + (k + 25)))).set 4 (.ref (B + (k + 42))))) H1 := hP.congr (y_cg1 (by omega))
  refine y_pf2 (j := 5) (ty := tyX9 5) hx hb hts cls_X9 hown hK hP hS hA (by omega) (Nat.le_of_ble_eq_true rfl) (Nat.le_of_ble_eq_true rfl) yw_288 rfl hin rfl (tyX9_ok 5 (Nat.le_of_ble_eq_true rfl)) rfl rfl dX9_init_67 (fun H1 locs1 hP hS => ?_)
  have hP : y_P D B k (k + 76) (y_e cA B k 9 (((((((y_fr 9).set 0 (.ref (B + (k + 1)))).set 1 (.ref (B + (k + 3)))).set 2 (.ref (B + (k + 8)))).set 3 (.ref (B + (k + 25)))).set 4 (.ref (B + (k + 42)))).set 5 (.ref (B + (k + 59))))) H1 := hP
  refine lv_aload_n hx hb dX9_init_70 rfl (lv_at hl 0 rfl) ?_
  refine y_nw (C := RX2) (T := TX2) (N := 4) (ci := 2) (ty := tyX2) hx hb hts cls_X2 tyX2_ok fr_X2 hown yw_228 yw_168 yw_23 hK hP hS (Nat.le_of_ble_eq_true rfl) (Nat.le_of_ble_eq_true rfl) dX9_init_71 (fun H1 hP hS => ?_)
  refine W.widen (k := 76) (n := 1971) (by omega) (by omega) ?_
  refine lv_dup hx hb dX9_init_74 rfl ?_
  refine y_cn (ok := okX2) (k := k + 76) (c_X2_init l) (by unfold okX2; rcases hk with rfl <;> decide +kernel) ⟨hx, hb, hml, hown, hts⟩ hP hS hA (by omega) (if_pos rfl) hK hN (by decide +kernel) yw_23 yw_171 yw_170 rfl ⟨by decide, by decide, by decide +kernel⟩ ⟨(Nat.le_of_ble_eq_true rfl), (Nat.le_of_ble_eq_true rfl)⟩ hl.1 (Nat.le_of_ble_eq_true rfl) ⟨(Nat.le_of_ble_eq_true rfl), (Nat.le_of_ble_eq_true rfl)⟩ dX9_init_75 (fun H1 locs1 hP hS => ?_)
  refine W.widen (k := 79) (n := 2151) (by omega) (by omega) ?_
  have hP : y_P D B k (k + 80) (y_e cA B k 9 (((((((y_fr 9).set 0 (.ref (B + (k + 1)))).set 1 (.ref (B + (k + 3)))).set 2 (.ref (B + (k + 8)))).set 3 (.ref (B + (k + 25)))).set 4 (.ref (B + (k + 42)))).set 5 (.ref (B + (k + 59))))) H1 := hP.congr (y_cg1 (by omega))
  refine y_pf2 (j := 6) (ty := tyX9 6) hx hb hts cls_X9 hown hK hP hS hA (by omega) (Nat.le_of_ble_eq_true rfl) (Nat.le_of_ble_eq_true rfl) yw_289 rfl hin rfl (tyX9_ok 6 (Nat.le_of_ble_eq_true rfl)) rfl rfl dX9_init_78 (fun H1 locs1 hP hS => ?_)
  have hP : y_P D B k (k + 80) (y_e cA B k 9 ((((((((y_fr 9).set 0 (.ref (B + (k + 1)))).set 1 (.ref (B + (k + 3)))).set 2 (.ref (B + (k + 8)))).set 3 (.ref (B + (k + 25)))).set 4 (.ref (B + (k + 42)))).set 5 (.ref (B + (k + 59)))).set 6 (.ref (B + (k + 76))))) H1 := hP
  refine lv_aload_n hx hb dX9_init_81 rfl (lv_at hl 0 rfl) ?_
  refine y_nw (C := RX3) (T := TX3) (N := 4) (ci := 3) (ty := tyX3) hx hb hts cls_X3 tyX3_ok fr_X3 hown yw_230 yw_231 yw_24 hK hP hS (Nat.le_of_ble_eq_true rfl) (Nat.le_of_ble_eq_true rfl) dX9_init_82 (fun H1 hP hS => ?_)
  refine W.widen (k := 80) (n := 2155) (by omega) (by omega) ?_
  refine lv_dup hx hb dX9_init_85 rfl ?_
  refine y_cn (ok := okX3) (k := k + 80) (c_X3_init l) (by unfold okX3; rcases hk with rfl <;> decide +kernel) ⟨hx, hb, hml, hown, hts⟩ hP hS hA (by omega) (if_pos rfl) hK hN (by decide +kernel) yw_24 yw_234 yw_233 rfl ⟨by decide, by decide, by decide +kernel⟩ ⟨(Nat.le_of_ble_eq_true rfl), (Nat.le_of_ble_eq_true rfl)⟩ hl.1 (Nat.le_of_ble_eq_true rfl) ⟨(Nat.le_of_ble_eq_true rfl), (Nat.le_of_ble_eq_true rfl)⟩ dX9_init_86 (fun H1 locs1 hP hS => ?_)
  refine W.widen (k := 83) (n := 2192) (by omega) (by omega) ?_
  have hP : y_P D B k (k + 84) (y_e cA B k 9 ((((((((y_fr 9).set 0 (.ref (B + (k + 1)))).set 1 (.ref (B + (k + 3)))).set 2 (.ref (B + (k + 8)))).set 3 (.ref (B + (k + 25)))).set 4 (.ref (B + (k + 42)))).set 5 (.ref (B + (k + 59)))).set 6 (.ref (B + (k + 76))))) H1 := hP.congr (y_cg1 (by omega))
  refine y_pf2 (j := 7) (ty := tyX9 7) hx hb hts cls_X9 hown hK hP hS hA (by omega) (Nat.le_of_ble_eq_true rfl) (Nat.le_of_ble_eq_true rfl) yw_290 rfl hin rfl (tyX9_ok 7 (Nat.le_of_ble_eq_true rfl)) rfl rfl dX9_init_89 (fun H1 locs1 hP hS => ?_)
  have hP : y_P D B k (k + 84) (y_e cA B k 9 (((((((((y_fr 9).set 0 (.ref (B + (k + 1)))).set 1 (.ref (B + (k + 3)))).set 2 (.ref (B + (k + 8)))).set 3 (.ref (B + (k + 25)))).set 4 (.ref (B + (k + 42)))).set 5 (.ref (B + (k + 59)))).set 6 (.ref (B + (k + 76)))).set 7 (.ref (B + (k + 80))))) H1 := hP
  refine lv_aload_n hx hb dX9_init_92 rfl (lv_at hl 0 rfl) ?_
  refine y_nw (C := RX1) (T := TX1) (N := 2) (ci := 1) (ty := tyX1) hx hb hts cls_X1 tyX1_ok fr_X1 hown yw_251 yw_252 yw_25 hK hP hS (Nat.le_of_ble_eq_true rfl) (Nat.le_of_ble_eq_true rfl) dX9_init_93 (fun H1 hP hS => ?_)
  refine W.widen (k := 84) (n := 2194) (by omega) (by omega) ?_
  refine lv_dup hx hb dX9_init_96 rfl ?_
  refine y_cn (ok := okX1) (k := k + 84) (c_X1_init l) (by unfold okX1; rcases hk with rfl <;> decide +kernel) ⟨hx, hb, hml, hown, hts⟩ hP hS hA (by omega) (if_pos rfl) hK hN (by decide +kernel) yw_25 yw_255 yw_254 rfl ⟨by decide, by decide, by decide +kernel⟩ ⟨(Nat.le_of_ble_eq_true rfl), (Nat.le_of_ble_eq_true rfl)⟩ hl.1 (Nat.le_of_ble_eq_true rfl) ⟨(Nat.le_of_ble_eq_true rfl), (Nat.le_of_ble_eq_true rfl)⟩ dX9_init_97 (fun H1 locs1 hP hS => ?_)
  refine W.widen (k := 85) (n := 2199) (by omega) (by omega) ?_
  have hP : y_P D B k (k + 86) (y_e cA B k 9 (((((((((y_fr 9).set 0 (.ref (B + (k + 1)))).set 1 (.ref (B + (k + 3)))).set 2 (.ref (B + (k + 8)))).set 3 (.ref (B + (k + 25)))).set 4 (.ref (B + (k + 42)))).set 5 (.ref (B + (k + 59)))).set 6 (.ref (B + (k + 76)))).set 7 (.ref (B + (k + 80))))) H1 := hP.congr (y_cg1 (by omega))
  refine y_pf2 (j := 8) (ty := tyX9 8) hx hb hts cls_X9 hown hK hP hS hA (by omega) (Nat.le_of_ble_eq_true rfl) (Nat.le_of_ble_eq_true rfl) yw_291 rfl hin rfl (tyX9_ok 8 (Nat.le_of_ble_eq_true rfl)) rfl rfl dX9_init_100 (fun H1 locs1 hP hS => ?_)
  have hP : y_P D B k (k + 86) (y_e cA B k 9 ((((((((((y_fr 9).set 0 (.ref (B + (k + 1)))).set 1 (.ref (B + (k + 3)))).set 2 (.ref (B + (k + 8)))).set 3 (.ref (B + (k + 25)))).set 4 (.ref (B + (k + 42)))).set 5 (.ref (B + (k + 59)))).set 6 (.ref (B + (k + 76)))).set 7 (.ref (B + (k + 80)))).set 8 (.ref (B + (k + 84))))) H1 := hP
  refine lv_aload_n hx hb dX9_init_103 rfl (lv_at hl 0 rfl) ?_
  refine y_nw (C := RX0) (T := TX0) (N := 6) (ci := 0) (ty := tyX0) hx hb hts cls_X0 tyX0_ok fr_X0 hown yw_263 yw_264 yw_26 hK hP hS (Nat.le_of_ble_eq_true rfl) (Nat.le_of_ble_eq_true rfl) dX9_init_104 (fun H1 hP hS => ?_)
  refine W.widen (k := 86) (n := 2205) (by omega) (by omega) ?_
  refine lv_dup hx hb dX9_init_107 rfl ?_
  refine y_cn (ok := okX0) (k := k + 86) (c_X0_init l) (by unfold okX0; rcases hk with rfl <;> decide +kernel) ⟨hx, hb, hml, hown, hts⟩ hP hS hA (by omega) (if_pos rfl) hK hN (by decide +kernel) yw_26 yw_267 yw_266 rfl ⟨by decide, by decide, by decide +kernel⟩ ⟨(Nat.le_of_ble_eq_true rfl), (Nat.le_of_ble_eq_true rfl)⟩ hl.1 (Nat.le_of_ble_eq_true rfl) ⟨(Nat.le_of_ble_eq_true rfl), (Nat.le_of_ble_eq_true rfl)⟩ dX9_init_108 (fun H1 locs1 hP hS => ?_)
  refine W.widen (k := 87) (n := 2221) (by omega) (by omega) ?_
  have hP : y_P D B k (k + 88) (y_e cA B k 9 ((((((((((y_fr 9).set 0 (.ref (B + (k + 1)))).set 1 (.ref (B + (k + 3)))).set 2 (.ref (B + (k + 8)))).set 3 (.ref (B + (k + 25)))).set 4 (.ref (B + (k + 42)))).set 5 (.ref (B + (k + 59)))).set 6 (.ref (B + (k + 76)))).set 7 (.ref (B + (k + 80)))).set 8 (.ref (B + (k + 84))))) H1 := hP.congr (y_cg1 (by omega))
  refine y_pf2 (j := 9) (ty := tyX9 9) hx hb hts cls_X9 hown hK hP hS hA (by omega) (Nat.le_of_ble_eq_true rfl) (Nat.le_of_ble_eq_true rfl) yw_292 rfl hin rfl (tyX9_ok 9 (Nat.le_of_ble_eq_true rfl)) rfl rfl dX9_init_111 (fun H1 locs1 hP hS => ?_)
  have hP : y_P D B k (k + 88) (y_e cA B k 9 (((((((((((y_fr 9).set 0 (.ref (B + (k + 1)))).set 1 (.ref (B + (k + 3)))).set 2 (.ref (B + (k + 8)))).set 3 (.ref (B + (k + 25)))).set 4 (.ref (B + (k + 42)))).set 5 (.ref (B + (k + 59)))).set 6 (.ref (B + (k + 76)))).set 7 (.ref (B + (k + 80)))).set 8 (.ref (B + (k + 84)))).set 9 (.ref (B + (k + 86))))) H1 := hP
  refine lv_aload_n hx hb dX9_init_114 rfl (lv_at hl 0 rfl) ?_
  refine lv_bipush (v := 20) hx hb dX9_init_115 (by decide) ?_
  refine y_na2 (atype := .int) (ci := 9) (t := 0) (ty := .int) (N := 20) hx hb (hts _ yw_93) rfl (by decide) rfl hK hP hS (by decide) (by decide) (by decide) (Nat.le_of_ble_eq_true rfl) (Nat.le_of_ble_eq_true rfl) (by rcases hk with rfl <;> decide +kernel) (by omega) (by rcases hk with rfl <;> decide) dX9_init_117 (fun H1 hP hS => ?_)
  have hP : y_P D B k (k + 89) (y_e cA B k 9 (((((((((((y_fr 9).set 0 (.ref (B + (k + 1)))).set 1 (.ref (B + (k + 3)))).set 2 (.ref (B + (k + 8)))).set 3 (.ref (B + (k + 25)))).set 4 (.ref (B + (k + 42)))).set 5 (.ref (B + (k + 59)))).set 6 (.ref (B + (k + 76)))).set 7 (.ref (B + (k + 80)))).set 8 (.ref (B + (k + 84)))).set 9 (.ref (B + (k + 86))))) H1 := hP
  refine W.widen (k := 88) (n := 2241) (by omega) (by omega) ?_
  refine y_pf2 (j := 10) (ty := tyX9 10) hx hb hts cls_X9 hown hK hP hS hA (by omega) (Nat.le_of_ble_eq_true rfl) (Nat.le_of_ble_eq_true rfl) yw_293 rfl hin rfl (tyX9_ok 10 (Nat.le_of_ble_eq_true rfl)) rfl rfl dX9_init_119 (fun H1 locs1 hP hS => ?_)
  have hP : y_P D B k (k + 89) (y_e cA B k 9 ((((((((((((y_fr 9).set 0 (.ref (B + (k + 1)))).set 1 (.ref (B + (k + 3)))).set 2 (.ref (B + (k + 8)))).set 3 (.ref (B + (k + 25)))).set 4 (.ref (B + (k + 42)))).set 5 (.ref (B + (k + 59)))).set 6 (.ref (B + (k + 76)))).set 7 (.ref (B + (k + 80)))).set 8 (.ref (B + (k + 84)))).set 9 (.ref (B + (k + 86)))).set 10 (.ref (B + (k + 88))))) H1 := hP
  have hP : y_P D B k (k + 1 + 88) (y_E cA B) H1 := hP.congr (y_cg2 (c := 9) (by rcases hk with rfl <;> decide +kernel) (by decide) (by rcases hk with rfl <;> decide) rfl)
  exact W.vret hx hb hr (fun t ht hW => ⟨⟨(), rfl, trivial, by dsimp only; rw [ht]; exact hP⟩, hS.F ht⟩) hS.2.2 dX9_init_122
