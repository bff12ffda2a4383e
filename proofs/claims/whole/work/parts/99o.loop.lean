section YLL
variable {p : Program} {l : Launch} {e : Env} {s : State} {m : MethodId} {below : List Frame} {meth : Method} {c : Code} {Q : State → Prop} {D : va_G} {cA : Nat → ClassId} {ad : Nat → Nat} {b L : Nat} {xs : Nat → Int32}
set_option maxHeartbeats 4000000 in
set_option maxRecDepth 100000 in
theorem x_step (C : x_C p s m c D cA ad b L xs) (KE : ∀ (i : Nat) (σ : zM), x_X p l e s m below meth c Q D cA ad b 1152 i σ) {i : Nat} {σ : zM} (IH : ∀ σ2 : zM, (q_R2 σ2 σ2 ∧ q_mok σ2) → z_okm σ2 → i + 7 ≤ L → x_X p l e s m below meth c Q D cA ad b 18 (i + 7) σ2) (hI : q_R2 σ σ ∧ q_mok σ) (hσ : z_okm σ) (hi : i ≤ L) : x_X p l e s m below meth c Q D cA ad b 18 i σ := by
  intro H locs ls hP hS hl
  obtain ⟨hx, hb, hml, hown, hts, hK, hin, hE, hX, hbl, had, hL⟩ := id C
  refine lv_iload_n hx hb dL_18 rfl (lv_at hl 3 rfl) ?_
  refine lv_aload_n hx hb dL_19 rfl (lv_at hl 0 rfl) ?_
  refine va_slen hx hb hX hbl (Nat.not_le.mpr hbl) hS dL_20 ?_
  refine lv_bipush (v := Int32.ofInt 7) hx hb dL_21 (by decide) ?_
  refine lv_isub hx hb dL_23 ?_
  have e1 : Int32.ofNat L - Int32.ofInt 7 = Int32.ofInt ((L : Int) - 7) := by
    rw [Int32.ofInt_sub]; rfl
  rw [e1]
  refine lv_icmp_gt hx hb dL_24 (tgt := 1152) (by decide) (fun _ => KE i σ H locs ls hP hS hl) (fun h => ?_)
  have h7 : i + 7 ≤ L := by
    rw [z_lt ⟨by omega, by omega⟩ (z_inN (by omega))] at h
    omega
  refine lv_aload_n hx hb dL_27 rfl (lv_at hl 0 rfl) ?_
  refine lv_iload_n hx hb dL_28 rfl (lv_at hl 3 rfl) ?_
  have hz : z_in ((i : Nat) : Int) := z_inN (by omega)
  refine va_sld hx hb hX hbl (Nat.not_le.mpr hbl) hS (z_vin hz (by omega) (by omega)) dL_29 ?_
  refine lv_bipush (v := 31) hx hb dL_30 (by decide) ?_
  refine lv_iand hx hb dL_32 ?_
  have K46 : ∀ σ2 : zM, (q_R2 σ2 σ2 ∧ q_mok σ2) → z_okm σ2 → x_X p l e s m below meth c Q D cA ad b 1146 i σ2 := by
    intro σ2 hI2 hσ2 H locs ls hP hS hl
    refine lv_iinc (k := 3) (v := Int32.ofInt ((i + 7 : Nat) : Int)) (lv' := [(3, .int (Int32.ofInt ((i + 7 : Nat) : Int))), (0, .ref b), (1, .ref (ad 0)), (2, .ref (ad 89))]) hx hb dL_1146 hl rfl (by rw [← Int32.ofInt_add]; rfl) (by decide) rfl (fun ls hl => ?_)
    refine lv_goto hx hb dL_1149 (tgt := 18) (by decide) ?_
    exact IH σ2 hI2 hσ2 h7 H locs ls hP hS (lv_sub hl [1, 2, 3, 0] rfl)
  generalize (xs (Int32.ofInt ((i : Nat) : Int)).toNatClampNeg &&& 31) = v
  by_cases hd : v.toInt < 0 ∨ 27 < v.toInt
  · exact lv_tableOut hx hb dL_33 hd (tgt := 1146) (by decide) (K46 σ hI hσ H locs ls hP hS hl)
  · have h1 : ¬ v.toInt < 0 := fun q => hd (Or.inl q)
    have h2 : ¬ 27 < v.toInt := fun q => hd (Or.inr q)
    obtain ⟨n, hn⟩ : ∃ n : Nat, (v.toInt - 0).toNat = n := ⟨_, rfl⟩
    have hn2 : n < 28 := by omega
    rcases n with _ | _ | _ | _ | _ | _ | _ | _ | _ | _ | _ | _ | _ | _ | _ | _ | _ | _ | _ | _ | _ | _ | _ | _ | _ | _ | _ | _ | n
    · exact lv_tableIn C.1 C.2.1 dL_33 h1 h2 (by rw [hn]; rfl) (tgt := 160) (by decide) (x_c_row C hI h7 hσ K46 H locs ls hP hS hl)
    · exact lv_tableIn C.1 C.2.1 dL_33 h1 h2 (by rw [hn]; rfl) (tgt := 203) (by decide) (x_c_set C hI h7 hσ K46 H locs ls hP hS hl)
    · exact lv_tableIn C.1 C.2.1 dL_33 h1 h2 (by rw [hn]; rfl) (tgt := 246) (by decide) (x_c_copy C hI h7 hσ K46 H locs ls hP hS hl)
    · exact lv_tableIn C.1 C.2.1 dL_33 h1 h2 (by rw [hn]; rfl) (tgt := 309) (by decide) (x_c_drop C hI h7 hσ K46 H locs ls hP hS hl)
    · exact lv_tableIn C.1 C.2.1 dL_33 h1 h2 (by rw [hn]; rfl) (tgt := 332) (by decide) (x_c_feed C hI h7 hσ K46 H locs ls hP hS hl)
    · exact lv_tableIn C.1 C.2.1 dL_33 h1 h2 (by rw [hn]; rfl) (tgt := 395) (by decide) (x_c_wood C hI h7 hσ K46 H locs ls hP hS hl)
    · exact lv_tableIn C.1 C.2.1 dL_33 h1 h2 (by rw [hn]; rfl) (tgt := 408) (by decide) (x_c_orders C hI h7 hσ K46 H locs ls hP hS hl)
    · exact lv_tableIn C.1 C.2.1 dL_33 h1 h2 (by rw [hn]; rfl) (tgt := 421) (by decide) (x_c_fault C hI h7 hσ K46 H locs ls hP hS hl)
    · exact lv_tableIn C.1 C.2.1 dL_33 h1 h2 (by rw [hn]; rfl) (tgt := 434) (by decide) (x_c_undo C hI h7 hσ K46 H locs ls hP hS hl)
    · exact lv_tableIn C.1 C.2.1 dL_33 h1 h2 (by rw [hn]; rfl) (tgt := 447) (by decide) (x_c_go C hI h7 hσ K46 H locs ls hP hS hl)
    · exact lv_tableIn C.1 C.2.1 dL_33 h1 h2 (by rw [hn]; rfl) (tgt := 470) (by decide) (x_c_tree C hI h7 hσ K46 H locs ls hP hS hl)
    · exact lv_tableIn C.1 C.2.1 dL_33 h1 h2 (by rw [hn]; rfl) (tgt := 503) (by decide) (x_c_sound C hI h7 hσ K46 H locs ls hP hS hl)
    · exact lv_tableIn C.1 C.2.1 dL_33 h1 h2 (by rw [hn]; rfl) (tgt := 536) (by decide) (x_c_slips C hI h7 hσ K46 H locs ls hP hS hl)
    · exact lv_tableIn C.1 C.2.1 dL_33 h1 h2 (by rw [hn]; rfl) (tgt := 569) (by decide) (x_c_cheapest C hI h7 hσ K46 H locs ls hP hS hl)
    · exact lv_tableIn C.1 C.2.1 dL_33 h1 h2 (by rw [hn]; rfl) (tgt := 644) (by decide) (x_c_tuned C hI h7 hσ K46 H locs ls hP hS hl)
    · exact lv_tableIn C.1 C.2.1 dL_33 h1 h2 (by rw [hn]; rfl) (tgt := 687) (by decide) (x_c_plays C hI h7 hσ K46 H locs ls hP hS hl)
    · exact lv_tableIn C.1 C.2.1 dL_33 h1 h2 (by rw [hn]; rfl) (tgt := 730) (by decide) (x_c_buzz C hI h7 hσ K46 H locs ls hP hS hl)
    · exact lv_tableIn C.1 C.2.1 dL_33 h1 h2 (by rw [hn]; rfl) (tgt := 753) (by decide) (x_c_birds C hI h7 hσ K46 H locs ls hP hS hl)
    · exact lv_tableIn C.1 C.2.1 dL_33 h1 h2 (by rw [hn]; rfl) (tgt := 816) (by decide) (x_c_hung C hI h7 hσ K46 H locs ls hP hS hl)
    · exact lv_tableIn C.1 C.2.1 dL_33 h1 h2 (by rw [hn]; rfl) (tgt := 869) (by decide) (x_c_missing C hI h7 hσ K46 H locs ls hP hS hl)
    · exact lv_tableIn C.1 C.2.1 dL_33 h1 h2 (by rw [hn]; rfl) (tgt := 922) (by decide) (x_c_image C hI h7 hσ K46 H locs ls hP hS hl)
    · exact lv_tableIn C.1 C.2.1 dL_33 h1 h2 (by rw [hn]; rfl) (tgt := 945) (by decide) (x_c_restore C hI h7 hσ K46 H locs ls hP hS hl)
    · exact lv_tableIn C.1 C.2.1 dL_33 h1 h2 (by rw [hn]; rfl) (tgt := 968) (by decide) (x_c_kind C hI h7 hσ K46 H locs ls hP hS hl)
    · exact lv_tableIn C.1 C.2.1 dL_33 h1 h2 (by rw [hn]; rfl) (tgt := 1001) (by decide) (x_c_as C hI h7 hσ K46 H locs ls hP hS hl)
    · exact lv_tableIn C.1 C.2.1 dL_33 h1 h2 (by rw [hn]; rfl) (tgt := 1044) (by decide) (x_c_ask C hI h7 hσ K46 H locs ls hP hS hl)
    · exact lv_tableIn C.1 C.2.1 dL_33 h1 h2 (by rw [hn]; rfl) (tgt := 1087) (by decide) (x_c_trace C hI h7 hσ K46 H locs ls hP hS hl)
    · exact lv_tableIn C.1 C.2.1 dL_33 h1 h2 (by rw [hn]; rfl) (tgt := 1110) (by decide) (x_c_count C hI h7 hσ K46 H locs ls hP hS hl)
    · exact lv_tableIn C.1 C.2.1 dL_33 h1 h2 (by rw [hn]; rfl) (tgt := 1133) (by decide) (x_c_status C hI h7 hσ K46 H locs ls hP hS hl)
    · omega
theorem x_loop (C : x_C p s m c D cA ad b L xs) (KE : ∀ (i : Nat) (σ : zM), x_X p l e s m below meth c Q D cA ad b 1152 i σ) : ∀ (d i : Nat) (σ : zM), L - i < d → (q_R2 σ σ ∧ q_mok σ) → z_okm σ → i ≤ L → x_X p l e s m below meth c Q D cA ad b 18 i σ := by
  intro d
  induction d with
  | zero => intro i σ h; omega
  | succ d ih =>
    intro i σ h hI hσ hi
    exact x_step C KE (fun σ2 hI2 hσ2 h7 => ih (i + 7) σ2 (by omega) hI2 hσ2 h7) hI hσ hi
end YLL
