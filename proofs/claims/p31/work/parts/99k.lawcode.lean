def z_w1 : List zV → Bool
  | [] => true
  | .inl _ :: st => z_w1 st
  | .inr (.inl _) :: _ => false
  | .inr (.inr _) :: st => z_w1 st
theorem z_sum1 (ad : Nat → Nat) (st : List zV) (h : st.length ≤ 8) (hw : z_w1 st = true) : ((st.map (z_val ad)).map fun v => v.category).sum ≤ 8 := by
  have key : ∀ st : List zV, z_w1 st = true → ((st.map (z_val ad)).map fun v => v.category).sum ≤ st.length := by
    intro st
    induction st with
    | nil => intro _; exact Nat.le_refl _
    | cons v st ih =>
      intro hw
      rcases v with x | x | ⟨c, n, k⟩
      · have := ih hw
        simp only [List.map_cons, List.sum_cons, List.length_cons]
        have e : (z_val ad (.inl x)).category = 1 := rfl
        omega
      · cases hw
      · have := ih hw
        simp only [List.map_cons, List.sum_cons, List.length_cons]
        have e : (z_val ad (.inr (.inr (c, n, k)))).category = 1 := z_cat1 (fun x => by rintro ⟨⟩)
        omega
  exact Nat.le_trans (key st hw) h
def z_cs2n (S : zS) (B : zB) (L : zL) (st : List zV) (σ : zM) : Prop := match st with
  | a1 :: a0 :: st => (st.length ≤ 8 ∧ z_w1 st = true) ∧ S [a0, a1] σ (fun r σ' => B L (z_cat r st) σ')
  | _ => False
section ZLW
variable {zx : zX} {zn : Nat} {zA : Nat → Prop} {cl sl : Nat} {p : Program} {l : Launch} {e : Env} {R : Room} {s : State} {m : MethodId} {args : Array Value} {below : List Frame} {meth : Method} {c : Code} {Q : State → Prop} {cc : ByteArray} {own : String} {nL : Nat} {D : va_G} {cA : Nat → ClassId} {ad : Nat → Nat} {fl : Bool}
theorem s_callSn (C : z_Cx zx zn zA cl sl p R s m args c cc own nL D cA ad) {pc ix : Nat} {y : MethodName} {bytes : ByteArray} {maxL fr lo n : Nat} {ret : Option FieldType} {S : zS} (d : decode cc pc = .ok (.invokestatic ix, 3)) (hok : z_OK zx zn l y bytes maxL ret fr lo S) (hw1 : Cond.methodLink own ix y ∈ z_tbl) (hw2 : Cond.static y ∈ z_tbl) (hw3 : Cond.initialized y.cls ∈ z_tbl) (hw4 : Cond.code y bytes maxL ret ∈ z_tbl)
    (hd : y.cls ≠ "java/lang/invoke/MethodHandle" ∧ y.cls ≠ "java/lang/invoke/VarHandle" ∧ (parseMethodDescriptor y.desc).map (fun d => d.parameters.length) = some n) (hR : fr + 1 ≤ R.frames ∧ 8 + (maxL + 11) + lo ≤ R.locals) {B : zB} (hB : ∀ L st σ, B L st σ → z_X zx zn zA cl sl p l e R s m args below meth c Q nL D cA ad fl (pc + 3) L st σ)
    {L : zL} {as st : List zV} {σ : zM} (hn1 : as.length = n) (h4 : st.length ≤ 8 ∧ z_w1 st = true) (h : S as σ (fun r σ' => B L (z_cat r st) σ')) : z_X zx zn zA cl sl p l e R s m args below meth c Q nL D cA ad fl pc L (as.reverse ++ st) σ := by
  intro hn hL hst hσ H locs ls hP hS hl
  obtain ⟨hx, hb, hml, hown, hts, hK, hi, hAz, hcs, hE⟩ := C
  have has : z_oks zn as := fun v hv => hst v (List.mem_append_left _ (List.mem_reverse.mpr hv))
  have hs2 : z_oks zn st := fun v hv => hst v (List.mem_append_right _ hv)
  rw [List.map_append, List.map_reverse]
  refine z_callk hAz (va_runS (As := as.map (z_val ad)) (rest := st.map (z_val ad)) ⟨hx, hb, hml, hown, hts⟩ (hok D cA ad as σ _ hi has hσ h) ⟨⟨rfl, rfl, hR.1, hR.2, pay_in (big := z_tbl) hts (z_good (fun w hw => by rcases List.mem_cons.mp hw with rfl | hw; exact hw4; exact hw)), List.mem_cons_self, hts _ hw4, hts _ hw3, ⟨hd.1, hd.2.1⟩, fun sig hsg => by have h2 := hd.2.2; rw [hsg] at h2; exact (Option.some.inj h2).symm, hts _ hw1⟩, hts _ hw2⟩
    ⟨fun a U g mk q => ⟨q.1, q.2.1, va_K.moved (u := U) (U := U.calling g mk a) (Vm.Alike.refl U.vm) q.2.2.1, z_St.same (U := U.calling g mk a) (s := U) rfl q.2.2.2⟩, fun U hU hW => ⟨rfl, by rw [hU]; exact hP, va_K.moved hW.alike hK, (z_St.to hW hE (by rw [hU]; exact hS.1) (by rw [hU]; exact hS.2.1)).narrow hAz⟩⟩ rfl (by rw [List.length_map]; exact hn1) hl.1 rfl (lv_room (z_sum1 ad st h4.1 h4.2)) d ⟨hcs.1, hcs.2⟩) hS (fun r σ' H1 locs1 hR1 hr1 hσ1 hP1 hS1 => ?_)
  rw [← z_cat_map]
  exact hB _ _ _ hR1 hn hL (z_cat_ok hr1 hs2) hσ1 H1 locs1 ls hP1 hS1 hl
theorem s_cs2n (C : z_Cx zx zn zA cl sl p R s m args c cc own nL D cA ad) {pc ix : Nat} {y : MethodName} {bytes : ByteArray} {maxL fr lo : Nat} {ret : Option FieldType} {S : zS} (d : decode cc pc = .ok (.invokestatic ix, 3)) (hok : z_OK zx zn l y bytes maxL ret fr lo S) (hw1 : Cond.methodLink own ix y ∈ z_tbl) (hw2 : Cond.static y ∈ z_tbl) (hw3 : Cond.initialized y.cls ∈ z_tbl) (hw4 : Cond.code y bytes maxL ret ∈ z_tbl) (hd : y.cls ≠ "java/lang/invoke/MethodHandle" ∧ y.cls ≠ "java/lang/invoke/VarHandle" ∧ (parseMethodDescriptor y.desc).map (fun d => d.parameters.length) = some 2) (hR : fr + 1 ≤ R.frames ∧ 8 + (maxL + 11) + lo ≤ R.locals) {B : zB} (hB : ∀ L st σ, B L st σ → z_X zx zn zA cl sl p l e R s m args below meth c Q nL D cA ad fl (pc + 3) L st σ) : ∀ L st σ, z_cs2n S B L st σ → z_X zx zn zA cl sl p l e R s m args below meth c Q nL D cA ad fl pc L st σ := by
  intro L st σ h
  rcases st with _ | ⟨a1, _ | ⟨a0, st⟩⟩ <;> try (exact h.elim)
  exact s_callSn C d hok hw1 hw2 hw3 hw4 hd hR hB (as := [a0, a1]) rfl h.1 h.2
theorem s_aload (C : z_Cx zx zn zA cl sl p R s m args c cc own nL D cA ad) {pc i : Nat} (d : decode cc pc = .ok (.aload i, 2)) {B : zB} (hB : ∀ L st σ, B L st σ → z_X zx zn zA cl sl p l e R s m args below meth c Q nL D cA ad fl (pc + 2) L st σ) : ∀ L st σ, z_aload i B L st σ → z_X zx zn zA cl sl p l e R s m args below meth c Q nL D cA ad fl pc L st σ := by
  intro L st σ h hn hL hst hσ H locs ls hP hS hl
  obtain ⟨hx, hb, hml, hown, hts, hK, hi, hAz, hcs, hE⟩ := C
  unfold z_aload at h
  cases hg : z_get L i with
  | none => rw [hg] at h; exact h.elim
  | some v =>
    have hv := (hL v (z_get_mem _ _ _ hg)).1
    rw [hg] at h
    rcases v with x | x | ⟨c0, n0, k0⟩
    · exact h.elim
    · exact h.elim
    · have hq := z_asc0 hl hg
      have hw := hB _ _ _ h hn hL (z_oks_cons hv hst) hσ H locs ls hP hS hl
      simp only [List.map_cons, z_val] at hq hw ⊢
      by_cases h5 : c0 = 250
      · rw [if_pos h5] at hq hw
        exact lv_aloadN hx hb d hq hw
      · rw [if_neg h5] at hq hw
        exact lv_aload hx hb d hq hw
theorem s_astore (C : z_Cx zx zn zA cl sl p R s m args c cc own nL D cA ad) {pc i : Nat} (d : decode cc pc = .ok (.astore i, 2)) (hi9 : i < nL) (hf : fl = true) {B : zB} (hB : ∀ L st σ, B L st σ → z_X zx zn zA cl sl p l e R s m args below meth c Q nL D cA ad fl (pc + 2) L st σ) : ∀ L st σ, z_astore i B L st σ → z_X zx zn zA cl sl p l e R s m args below meth c Q nL D cA ad fl pc L st σ := by
  intro L st σ h hn hL hst hσ H locs ls hP hS hl
  obtain ⟨hx, hb, hml, hown, hts, hK, hi, hAz, hcs, hE⟩ := C
  rcases st with _ | ⟨v, st⟩
  · exact h.elim
  rcases v with x | x | ⟨c0, n0, k0⟩
  · exact h.elim
  · exact h.elim
  · have hv := z_oks_hd hst
    have ht := z_oks_tl hst
    obtain ⟨h5, h⟩ := h
    simp only [List.map_cons, z_val, if_neg h5]
    exact lv_astore (lv := z_asc ad 0 L) hx hb d hl hi9 rfl (fun ls' hl' => hB _ _ _ h ((z_set_len _ _ _).trans hn) (z_okl_set hL i hv (fun _ x e => by cases e)) ht hσ H locs ls' hP hS (z_st1 (v := .inr (.inr (c0, n0, k0))) (z_okp_fl (hf ▸ hL)) (by simpa only [z_val, if_neg h5] using hl')))
end ZLW
theorem dL_law_0 : decode cL_law 0 = .ok (.new 12, 3) := by decide +kernel
theorem dL_law_3 : decode cL_law 3 = .ok (.dup, 1) := by decide +kernel
theorem dL_law_4 : decode cL_law 4 = .ok (.invokespecial 97, 3) := by decide +kernel
theorem dL_law_7 : decode cL_law 7 = .ok (.astore_n 1, 1) := by decide +kernel
theorem dL_law_8 : decode cL_law 8 = .ok (.aload_n 1, 1) := by decide +kernel
theorem dL_law_9 : decode cL_law 9 = .ok (.aload_n 0, 1) := by decide +kernel
theorem dL_law_10 : decode cL_law 10 = .ok (.invokestatic 98, 3) := by decide +kernel
theorem dL_law_13 : decode cL_law 13 = .ok (.ifCond .ne 5, 3) := by decide +kernel
theorem dL_law_16 : decode cL_law 16 = .ok (.iconst 0, 1) := by decide +kernel
theorem dL_law_17 : decode cL_law 17 = .ok (.ireturn, 1) := by decide +kernel
theorem dL_law_18 : decode cL_law 18 = .ok (.bipush 64, 2) := by decide +kernel
theorem dL_law_20 : decode cL_law 20 = .ok (.newarray .int, 2) := by decide +kernel
theorem dL_law_22 : decode cL_law 22 = .ok (.astore_n 2, 1) := by decide +kernel
theorem dL_law_23 : decode cL_law 23 = .ok (.bipush 64, 2) := by decide +kernel
theorem dL_law_25 : decode cL_law 25 = .ok (.newarray .int, 2) := by decide +kernel
theorem dL_law_27 : decode cL_law 27 = .ok (.astore_n 3, 1) := by decide +kernel
theorem dL_law_28 : decode cL_law 28 = .ok (.aload_n 0, 1) := by decide +kernel
theorem dL_law_29 : decode cL_law 29 = .ok (.aload_n 2, 1) := by decide +kernel
theorem dL_law_30 : decode cL_law 30 = .ok (.invokestatic 102, 3) := by decide +kernel
theorem dL_law_33 : decode cL_law 33 = .ok (.aload_n 0, 1) := by decide +kernel
theorem dL_law_34 : decode cL_law 34 = .ok (.invokestatic 27, 3) := by decide +kernel
theorem dL_law_37 : decode cL_law 37 = .ok (.istore 4, 2) := by decide +kernel
theorem dL_law_39 : decode cL_law 39 = .ok (.iconst 0, 1) := by decide +kernel
theorem dL_law_40 : decode cL_law 40 = .ok (.istore 5, 2) := by decide +kernel
theorem dL_law_42 : decode cL_law 42 = .ok (.iload 5, 2) := by decide +kernel
theorem dL_law_44 : decode cL_law 44 = .ok (.bipush 26, 2) := by decide +kernel
theorem dL_law_46 : decode cL_law 46 = .ok (.if_icmp .ge 445, 3) := by decide +kernel
theorem dL_law_49 : decode cL_law 49 = .ok (.aload_n 0, 1) := by decide +kernel
theorem dL_law_50 : decode cL_law 50 = .ok (.bipush 20, 2) := by decide +kernel
theorem dL_law_52 : decode cL_law 52 = .ok (.iload 5, 2) := by decide +kernel
theorem dL_law_54 : decode cL_law 54 = .ok (.iadd, 1) := by decide +kernel
theorem dL_law_55 : decode cL_law 55 = .ok (.invokestatic 17, 3) := by decide +kernel
theorem dL_law_58 : decode cL_law 58 = .ok (.istore 6, 2) := by decide +kernel
theorem dL_law_60 : decode cL_law 60 = .ok (.iload 6, 2) := by decide +kernel
theorem dL_law_62 : decode cL_law 62 = .ok (.iconst 5, 1) := by decide +kernel
theorem dL_law_63 : decode cL_law 63 = .ok (.invokestatic 23, 3) := by decide +kernel
theorem dL_law_66 : decode cL_law 66 = .ok (.istore 7, 2) := by decide +kernel
theorem dL_law_68 : decode cL_law 68 = .ok (.iload 7, 2) := by decide +kernel
theorem dL_law_70 : decode cL_law 70 = .ok (.iconst 2, 1) := by decide +kernel
theorem dL_law_71 : decode cL_law 71 = .ok (.if_icmp .ge 100, 3) := by decide +kernel
theorem dL_law_74 : decode cL_law 74 = .ok (.iconst 1, 1) := by decide +kernel
theorem dL_law_75 : decode cL_law 75 = .ok (.iload 6, 2) := by decide +kernel
theorem dL_law_77 : decode cL_law 77 = .ok (.iconst 3, 1) := by decide +kernel
theorem dL_law_78 : decode cL_law 78 = .ok (.ishr, 1) := by decide +kernel
theorem dL_law_79 : decode cL_law 79 = .ok (.iconst 4, 1) := by decide +kernel
theorem dL_law_80 : decode cL_law 80 = .ok (.invokestatic 23, 3) := by decide +kernel
theorem dL_law_83 : decode cL_law 83 = .ok (.iadd, 1) := by decide +kernel
theorem dL_law_84 : decode cL_law 84 = .ok (.istore 8, 2) := by decide +kernel
theorem dL_law_86 : decode cL_law 86 = .ok (.iconst 0, 1) := by decide +kernel
theorem dL_law_87 : decode cL_law 87 = .ok (.istore 9, 2) := by decide +kernel
theorem dL_law_89 : decode cL_law 89 = .ok (.iload 9, 2) := by decide +kernel
theorem dL_law_91 : decode cL_law 91 = .ok (.iload 8, 2) := by decide +kernel
theorem dL_law_93 : decode cL_law 93 = .ok (.if_icmp .ge 44, 3) := by decide +kernel
theorem dL_law_96 : decode cL_law 96 = .ok (.aload_n 2, 1) := by decide +kernel
theorem dL_law_97 : decode cL_law 97 = .ok (.bipush 50, 2) := by decide +kernel
theorem dL_law_99 : decode cL_law 99 = .ok (.iaload, 1) := by decide +kernel
theorem dL_law_100 : decode cL_law 100 = .ok (.bipush 50, 2) := by decide +kernel
theorem dL_law_102 : decode cL_law 102 = .ok (.if_icmp .ge 35, 3) := by decide +kernel
theorem dL_law_105 : decode cL_law 105 = .ok (.aload_n 3, 1) := by decide +kernel
theorem dL_law_106 : decode cL_law 106 = .ok (.aload_n 2, 1) := by decide +kernel
theorem dL_law_107 : decode cL_law 107 = .ok (.bipush 50, 2) := by decide +kernel
theorem dL_law_109 : decode cL_law 109 = .ok (.iaload, 1) := by decide +kernel
theorem dL_law_110 : decode cL_law 110 = .ok (.aload_n 1, 1) := by decide +kernel
theorem dL_law_111 : decode cL_law 111 = .ok (.aload_n 0, 1) := by decide +kernel
theorem dL_law_112 : decode cL_law 112 = .ok (.aload_n 2, 1) := by decide +kernel
theorem dL_law_113 : decode cL_law 113 = .ok (.aload_n 0, 1) := by decide +kernel
theorem dL_law_114 : decode cL_law 114 = .ok (.bipush 46, 2) := by decide +kernel
theorem dL_law_116 : decode cL_law 116 = .ok (.iload 5, 2) := by decide +kernel
theorem dL_law_118 : decode cL_law 118 = .ok (.iadd, 1) := by decide +kernel
theorem dL_law_119 : decode cL_law 119 = .ok (.invokestatic 17, 3) := by decide +kernel
theorem dL_law_122 : decode cL_law 122 = .ok (.iconst 3, 1) := by decide +kernel
theorem dL_law_123 : decode cL_law 123 = .ok (.iload 9, 2) := by decide +kernel
theorem dL_law_125 : decode cL_law 125 = .ok (.imul, 1) := by decide +kernel
theorem dL_law_126 : decode cL_law 126 = .ok (.ishr, 1) := by decide +kernel
theorem dL_law_127 : decode cL_law 127 = .ok (.invokestatic 106, 3) := by decide +kernel
theorem dL_law_130 : decode cL_law 130 = .ok (.iastore, 1) := by decide +kernel
theorem dL_law_131 : decode cL_law 131 = .ok (.iinc 9 1, 3) := by decide +kernel
theorem dL_law_134 : decode cL_law 134 = .ok (.goto (-45), 3) := by decide +kernel
theorem dL_law_137 : decode cL_law 137 = .ok (.aload_n 1, 1) := by decide +kernel
theorem dL_law_138 : decode cL_law 138 = .ok (.bipush 7, 2) := by decide +kernel
theorem dL_law_140 : decode cL_law 140 = .ok (.invokevirtual 67, 3) := by decide +kernel
theorem dL_law_143 : decode cL_law 143 = .ok (.ifCond .ne 8, 3) := by decide +kernel
theorem dL_law_146 : decode cL_law 146 = .ok (.ldc 110, 2) := by decide +kernel
theorem dL_law_148 : decode cL_law 148 = .ok (.goto 7, 3) := by decide +kernel
theorem dL_law_151 : decode cL_law 151 = .ok (.aload_n 2, 1) := by decide +kernel
theorem dL_law_152 : decode cL_law 152 = .ok (.bipush 50, 2) := by decide +kernel
theorem dL_law_154 : decode cL_law 154 = .ok (.iaload, 1) := by decide +kernel
theorem dL_law_155 : decode cL_law 155 = .ok (.istore 9, 2) := by decide +kernel
theorem dL_law_157 : decode cL_law 157 = .ok (.aload_n 1, 1) := by decide +kernel
theorem dL_law_158 : decode cL_law 158 = .ok (.invokevirtual 111, 3) := by decide +kernel
theorem dL_law_161 : decode cL_law 161 = .ok (.iload 9, 2) := by decide +kernel
theorem dL_law_163 : decode cL_law 163 = .ok (.if_icmp .eq 5, 3) := by decide +kernel
theorem dL_law_166 : decode cL_law 166 = .ok (.iconst 0, 1) := by decide +kernel
theorem dL_law_167 : decode cL_law 167 = .ok (.ireturn, 1) := by decide +kernel
theorem dL_law_168 : decode cL_law 168 = .ok (.goto 110, 3) := by decide +kernel
theorem dL_law_171 : decode cL_law 171 = .ok (.iload 7, 2) := by decide +kernel
theorem dL_law_173 : decode cL_law 173 = .ok (.iconst 2, 1) := by decide +kernel
theorem dL_law_174 : decode cL_law 174 = .ok (.if_icmp .ne 56, 3) := by decide +kernel
theorem dL_law_177 : decode cL_law 177 = .ok (.aload_n 2, 1) := by decide +kernel
theorem dL_law_178 : decode cL_law 178 = .ok (.bipush 50, 2) := by decide +kernel
theorem dL_law_180 : decode cL_law 180 = .ok (.iaload, 1) := by decide +kernel
theorem dL_law_181 : decode cL_law 181 = .ok (.ifCond .ne 8, 3) := by decide +kernel
theorem dL_law_184 : decode cL_law 184 = .ok (.ldc 113, 2) := by decide +kernel
theorem dL_law_186 : decode cL_law 186 = .ok (.goto 9, 3) := by decide +kernel
theorem dL_law_189 : decode cL_law 189 = .ok (.aload_n 2, 1) := by decide +kernel
theorem dL_law_190 : decode cL_law 190 = .ok (.bipush 50, 2) := by decide +kernel
theorem dL_law_192 : decode cL_law 192 = .ok (.iaload, 1) := by decide +kernel
theorem dL_law_193 : decode cL_law 193 = .ok (.iconst 1, 1) := by decide +kernel
theorem dL_law_194 : decode cL_law 194 = .ok (.isub, 1) := by decide +kernel
theorem dL_law_195 : decode cL_law 195 = .ok (.istore 8, 2) := by decide +kernel
theorem dL_law_197 : decode cL_law 197 = .ok (.aload_n 2, 1) := by decide +kernel
theorem dL_law_198 : decode cL_law 198 = .ok (.bipush 50, 2) := by decide +kernel
theorem dL_law_200 : decode cL_law 200 = .ok (.iaload, 1) := by decide +kernel
theorem dL_law_201 : decode cL_law 201 = .ok (.ifCond .le 15, 3) := by decide +kernel
theorem dL_law_204 : decode cL_law 204 = .ok (.aload_n 2, 1) := by decide +kernel
theorem dL_law_205 : decode cL_law 205 = .ok (.aload_n 3, 1) := by decide +kernel
theorem dL_law_206 : decode cL_law 206 = .ok (.aload_n 2, 1) := by decide +kernel
theorem dL_law_207 : decode cL_law 207 = .ok (.bipush 50, 2) := by decide +kernel
theorem dL_law_209 : decode cL_law 209 = .ok (.iaload, 1) := by decide +kernel
theorem dL_law_210 : decode cL_law 210 = .ok (.iconst 1, 1) := by decide +kernel
theorem dL_law_211 : decode cL_law 211 = .ok (.isub, 1) := by decide +kernel
theorem dL_law_212 : decode cL_law 212 = .ok (.iaload, 1) := by decide +kernel
theorem dL_law_213 : decode cL_law 213 = .ok (.invokestatic 114, 3) := by decide +kernel
theorem dL_law_216 : decode cL_law 216 = .ok (.aload_n 1, 1) := by decide +kernel
theorem dL_law_217 : decode cL_law 217 = .ok (.invokevirtual 118, 3) := by decide +kernel
theorem dL_law_220 : decode cL_law 220 = .ok (.iload 8, 2) := by decide +kernel
theorem dL_law_222 : decode cL_law 222 = .ok (.if_icmp .eq 5, 3) := by decide +kernel
theorem dL_law_225 : decode cL_law 225 = .ok (.iconst 0, 1) := by decide +kernel
theorem dL_law_226 : decode cL_law 226 = .ok (.ireturn, 1) := by decide +kernel
theorem dL_law_227 : decode cL_law 227 = .ok (.goto 51, 3) := by decide +kernel
theorem dL_law_230 : decode cL_law 230 = .ok (.iconst 1, 1) := by decide +kernel
theorem dL_law_231 : decode cL_law 231 = .ok (.iload 6, 2) := by decide +kernel
theorem dL_law_233 : decode cL_law 233 = .ok (.iconst 3, 1) := by decide +kernel
theorem dL_law_234 : decode cL_law 234 = .ok (.ishr, 1) := by decide +kernel
theorem dL_law_235 : decode cL_law 235 = .ok (.iconst 3, 1) := by decide +kernel
theorem dL_law_236 : decode cL_law 236 = .ok (.invokestatic 23, 3) := by decide +kernel
theorem dL_law_239 : decode cL_law 239 = .ok (.iadd, 1) := by decide +kernel
theorem dL_law_240 : decode cL_law 240 = .ok (.istore 8, 2) := by decide +kernel
theorem dL_law_242 : decode cL_law 242 = .ok (.iconst 0, 1) := by decide +kernel
theorem dL_law_243 : decode cL_law 243 = .ok (.istore 9, 2) := by decide +kernel
theorem dL_law_245 : decode cL_law 245 = .ok (.iload 9, 2) := by decide +kernel
theorem dL_law_247 : decode cL_law 247 = .ok (.iload 8, 2) := by decide +kernel
theorem dL_law_249 : decode cL_law 249 = .ok (.if_icmp .ge 14, 3) := by decide +kernel
theorem dL_law_252 : decode cL_law 252 = .ok (.aload_n 0, 1) := by decide +kernel
theorem dL_law_253 : decode cL_law 253 = .ok (.aload_n 2, 1) := by decide +kernel
theorem dL_law_254 : decode cL_law 254 = .ok (.invokestatic 121, 3) := by decide +kernel
theorem dL_law_257 : decode cL_law 257 = .ok (.iinc 9 1, 3) := by decide +kernel
theorem dL_law_260 : decode cL_law 260 = .ok (.goto (-15), 3) := by decide +kernel
theorem dL_law_263 : decode cL_law 263 = .ok (.aload_n 1, 1) := by decide +kernel
theorem dL_law_264 : decode cL_law 264 = .ok (.iload 8, 2) := by decide +kernel
theorem dL_law_266 : decode cL_law 266 = .ok (.invokevirtual 124, 3) := by decide +kernel
theorem dL_law_269 : decode cL_law 269 = .ok (.aload_n 2, 1) := by decide +kernel
theorem dL_law_270 : decode cL_law 270 = .ok (.bipush 49, 2) := by decide +kernel
theorem dL_law_272 : decode cL_law 272 = .ok (.iaload, 1) := by decide +kernel
theorem dL_law_273 : decode cL_law 273 = .ok (.if_icmp .eq 5, 3) := by decide +kernel
theorem dL_law_276 : decode cL_law 276 = .ok (.iconst 0, 1) := by decide +kernel
theorem dL_law_277 : decode cL_law 277 = .ok (.ireturn, 1) := by decide +kernel
theorem dL_law_278 : decode cL_law 278 = .ok (.aload_n 1, 1) := by decide +kernel
theorem dL_law_279 : decode cL_law 279 = .ok (.iconst 4, 1) := by decide +kernel
theorem dL_law_280 : decode cL_law 280 = .ok (.invokevirtual 67, 3) := by decide +kernel
theorem dL_law_283 : decode cL_law 283 = .ok (.aload_n 2, 1) := by decide +kernel
theorem dL_law_284 : decode cL_law 284 = .ok (.bipush 49, 2) := by decide +kernel
theorem dL_law_286 : decode cL_law 286 = .ok (.iaload, 1) := by decide +kernel
theorem dL_law_287 : decode cL_law 287 = .ok (.if_icmp .ne 37, 3) := by decide +kernel
theorem dL_law_290 : decode cL_law 290 = .ok (.aload_n 1, 1) := by decide +kernel
theorem dL_law_291 : decode cL_law 291 = .ok (.iconst 5, 1) := by decide +kernel
theorem dL_law_292 : decode cL_law 292 = .ok (.invokevirtual 67, 3) := by decide +kernel
theorem dL_law_295 : decode cL_law 295 = .ok (.aload_n 2, 1) := by decide +kernel
theorem dL_law_296 : decode cL_law 296 = .ok (.bipush 48, 2) := by decide +kernel
theorem dL_law_298 : decode cL_law 298 = .ok (.iaload, 1) := by decide +kernel
theorem dL_law_299 : decode cL_law 299 = .ok (.if_icmp .ne 25, 3) := by decide +kernel
theorem dL_law_302 : decode cL_law 302 = .ok (.aload_n 1, 1) := by decide +kernel
theorem dL_law_303 : decode cL_law 303 = .ok (.bipush 6, 2) := by decide +kernel
theorem dL_law_305 : decode cL_law 305 = .ok (.invokevirtual 67, 3) := by decide +kernel
theorem dL_law_308 : decode cL_law 308 = .ok (.aload_n 2, 1) := by decide +kernel
theorem dL_law_309 : decode cL_law 309 = .ok (.bipush 50, 2) := by decide +kernel
theorem dL_law_311 : decode cL_law 311 = .ok (.iaload, 1) := by decide +kernel
theorem dL_law_312 : decode cL_law 312 = .ok (.if_icmp .ne 12, 3) := by decide +kernel
theorem dL_law_315 : decode cL_law 315 = .ok (.aload_n 1, 1) := by decide +kernel
theorem dL_law_316 : decode cL_law 316 = .ok (.bipush 7, 2) := by decide +kernel
theorem dL_law_318 : decode cL_law 318 = .ok (.invokevirtual 67, 3) := by decide +kernel
theorem dL_law_321 : decode cL_law 321 = .ok (.ifCond .eq 5, 3) := by decide +kernel
theorem dL_law_324 : decode cL_law 324 = .ok (.iconst 0, 1) := by decide +kernel
theorem dL_law_325 : decode cL_law 325 = .ok (.ireturn, 1) := by decide +kernel
theorem dL_law_326 : decode cL_law 326 = .ok (.iconst 0, 1) := by decide +kernel
theorem dL_law_327 : decode cL_law 327 = .ok (.istore 8, 2) := by decide +kernel
theorem dL_law_329 : decode cL_law 329 = .ok (.iload 8, 2) := by decide +kernel
theorem dL_law_331 : decode cL_law 331 = .ok (.iload 4, 2) := by decide +kernel
theorem dL_law_333 : decode cL_law 333 = .ok (.if_icmp .ge 67, 3) := by decide +kernel
theorem dL_law_336 : decode cL_law 336 = .ok (.iconst 0, 1) := by decide +kernel
theorem dL_law_337 : decode cL_law 337 = .ok (.istore 9, 2) := by decide +kernel
theorem dL_law_339 : decode cL_law 339 = .ok (.iload 9, 2) := by decide +kernel
theorem dL_law_341 : decode cL_law 341 = .ok (.bipush 6, 2) := by decide +kernel
theorem dL_law_343 : decode cL_law 343 = .ok (.if_icmp .ge 32, 3) := by decide +kernel
theorem dL_law_346 : decode cL_law 346 = .ok (.aload_n 1, 1) := by decide +kernel
theorem dL_law_347 : decode cL_law 347 = .ok (.iload 8, 2) := by decide +kernel
theorem dL_law_349 : decode cL_law 349 = .ok (.iload 9, 2) := by decide +kernel
theorem dL_law_351 : decode cL_law 351 = .ok (.invokevirtual 127, 3) := by decide +kernel
theorem dL_law_354 : decode cL_law 354 = .ok (.aload_n 2, 1) := by decide +kernel
theorem dL_law_355 : decode cL_law 355 = .ok (.bipush 6, 2) := by decide +kernel
theorem dL_law_357 : decode cL_law 357 = .ok (.iload 8, 2) := by decide +kernel
theorem dL_law_359 : decode cL_law 359 = .ok (.imul, 1) := by decide +kernel
theorem dL_law_360 : decode cL_law 360 = .ok (.iload 9, 2) := by decide +kernel
theorem dL_law_362 : decode cL_law 362 = .ok (.iadd, 1) := by decide +kernel
theorem dL_law_363 : decode cL_law 363 = .ok (.iaload, 1) := by decide +kernel
theorem dL_law_364 : decode cL_law 364 = .ok (.if_icmp .eq 5, 3) := by decide +kernel
theorem dL_law_367 : decode cL_law 367 = .ok (.iconst 0, 1) := by decide +kernel
theorem dL_law_368 : decode cL_law 368 = .ok (.ireturn, 1) := by decide +kernel
theorem dL_law_369 : decode cL_law 369 = .ok (.iinc 9 1, 3) := by decide +kernel
theorem dL_law_372 : decode cL_law 372 = .ok (.goto (-33), 3) := by decide +kernel
theorem dL_law_375 : decode cL_law 375 = .ok (.aload_n 1, 1) := by decide +kernel
theorem dL_law_376 : decode cL_law 376 = .ok (.iload 8, 2) := by decide +kernel
theorem dL_law_378 : decode cL_law 378 = .ok (.bipush 6, 2) := by decide +kernel
theorem dL_law_380 : decode cL_law 380 = .ok (.invokevirtual 127, 3) := by decide +kernel
theorem dL_law_383 : decode cL_law 383 = .ok (.aload_n 2, 1) := by decide +kernel
theorem dL_law_384 : decode cL_law 384 = .ok (.iload 8, 2) := by decide +kernel
theorem dL_law_386 : decode cL_law 386 = .ok (.invokestatic 75, 3) := by decide +kernel
theorem dL_law_389 : decode cL_law 389 = .ok (.if_icmp .eq 5, 3) := by decide +kernel
theorem dL_law_392 : decode cL_law 392 = .ok (.iconst 0, 1) := by decide +kernel
theorem dL_law_393 : decode cL_law 393 = .ok (.ireturn, 1) := by decide +kernel
theorem dL_law_394 : decode cL_law 394 = .ok (.iinc 8 1, 3) := by decide +kernel
theorem dL_law_397 : decode cL_law 397 = .ok (.goto (-68), 3) := by decide +kernel
theorem dL_law_400 : decode cL_law 400 = .ok (.iconst 0, 1) := by decide +kernel
theorem dL_law_401 : decode cL_law 401 = .ok (.istore 8, 2) := by decide +kernel
theorem dL_law_403 : decode cL_law 403 = .ok (.iload 8, 2) := by decide +kernel
theorem dL_law_405 : decode cL_law 405 = .ok (.aload_n 0, 1) := by decide +kernel
theorem dL_law_406 : decode cL_law 406 = .ok (.invokestatic 47, 3) := by decide +kernel
theorem dL_law_409 : decode cL_law 409 = .ok (.if_icmp .ge 76, 3) := by decide +kernel
theorem dL_law_412 : decode cL_law 412 = .ok (.bipush 64, 2) := by decide +kernel
theorem dL_law_414 : decode cL_law 414 = .ok (.newarray .int, 2) := by decide +kernel
theorem dL_law_416 : decode cL_law 416 = .ok (.astore 9, 2) := by decide +kernel
theorem dL_law_418 : decode cL_law 418 = .ok (.aload_n 0, 1) := by decide +kernel
theorem dL_law_419 : decode cL_law 419 = .ok (.aload_n 2, 1) := by decide +kernel
theorem dL_law_420 : decode cL_law 420 = .ok (.iload 8, 2) := by decide +kernel
theorem dL_law_422 : decode cL_law 422 = .ok (.aload 9, 2) := by decide +kernel
theorem dL_law_424 : decode cL_law 424 = .ok (.invokestatic 129, 3) := by decide +kernel
theorem dL_law_427 : decode cL_law 427 = .ok (.iconst 0, 1) := by decide +kernel
theorem dL_law_428 : decode cL_law 428 = .ok (.istore 10, 2) := by decide +kernel
theorem dL_law_430 : decode cL_law 430 = .ok (.iload 10, 2) := by decide +kernel
theorem dL_law_432 : decode cL_law 432 = .ok (.aload 9, 2) := by decide +kernel
theorem dL_law_434 : decode cL_law 434 = .ok (.bipush 63, 2) := by decide +kernel
theorem dL_law_436 : decode cL_law 436 = .ok (.iaload, 1) := by decide +kernel
theorem dL_law_437 : decode cL_law 437 = .ok (.if_icmp .gt 42, 3) := by decide +kernel
theorem dL_law_440 : decode cL_law 440 = .ok (.aload_n 1, 1) := by decide +kernel
theorem dL_law_441 : decode cL_law 441 = .ok (.iload 8, 2) := by decide +kernel
theorem dL_law_443 : decode cL_law 443 = .ok (.iload 10, 2) := by decide +kernel
theorem dL_law_445 : decode cL_law 445 = .ok (.invokevirtual 133, 3) := by decide +kernel
theorem dL_law_448 : decode cL_law 448 = .ok (.iload 10, 2) := by decide +kernel
theorem dL_law_450 : decode cL_law 450 = .ok (.aload 9, 2) := by decide +kernel
theorem dL_law_452 : decode cL_law 452 = .ok (.bipush 63, 2) := by decide +kernel
theorem dL_law_454 : decode cL_law 454 = .ok (.iaload, 1) := by decide +kernel
theorem dL_law_455 : decode cL_law 455 = .ok (.if_icmp .ge 11, 3) := by decide +kernel
theorem dL_law_458 : decode cL_law 458 = .ok (.aload 9, 2) := by decide +kernel
theorem dL_law_460 : decode cL_law 460 = .ok (.iload 10, 2) := by decide +kernel
theorem dL_law_462 : decode cL_law 462 = .ok (.iaload, 1) := by decide +kernel
theorem dL_law_463 : decode cL_law 463 = .ok (.goto 5, 3) := by decide +kernel
theorem dL_law_466 : decode cL_law 466 = .ok (.ldc 136, 2) := by decide +kernel
theorem dL_law_468 : decode cL_law 468 = .ok (.if_icmp .eq 5, 3) := by decide +kernel
theorem dL_law_471 : decode cL_law 471 = .ok (.iconst 0, 1) := by decide +kernel
theorem dL_law_472 : decode cL_law 472 = .ok (.ireturn, 1) := by decide +kernel
theorem dL_law_473 : decode cL_law 473 = .ok (.iinc 10 1, 3) := by decide +kernel
theorem dL_law_476 : decode cL_law 476 = .ok (.goto (-46), 3) := by decide +kernel
theorem dL_law_479 : decode cL_law 479 = .ok (.iinc 8 1, 3) := by decide +kernel
theorem dL_law_482 : decode cL_law 482 = .ok (.goto (-79), 3) := by decide +kernel
theorem dL_law_485 : decode cL_law 485 = .ok (.iinc 5 1, 3) := by decide +kernel
theorem dL_law_488 : decode cL_law 488 = .ok (.goto (-446), 3) := by decide +kernel
theorem dL_law_491 : decode cL_law 491 = .ok (.aload_n 1, 1) := by decide +kernel
theorem dL_law_492 : decode cL_law 492 = .ok (.iconst 0, 1) := by decide +kernel
theorem dL_law_493 : decode cL_law 493 = .ok (.invokevirtual 124, 3) := by decide +kernel
theorem dL_law_496 : decode cL_law 496 = .ok (.ldc 137, 2) := by decide +kernel
theorem dL_law_498 : decode cL_law 498 = .ok (.if_icmp .ne 78, 3) := by decide +kernel
theorem dL_law_501 : decode cL_law 501 = .ok (.aload_n 1, 1) := by decide +kernel
theorem dL_law_502 : decode cL_law 502 = .ok (.bipush 61, 2) := by decide +kernel
theorem dL_law_504 : decode cL_law 504 = .ok (.invokevirtual 124, 3) := by decide +kernel
theorem dL_law_507 : decode cL_law 507 = .ok (.ldc 137, 2) := by decide +kernel
theorem dL_law_509 : decode cL_law 509 = .ok (.if_icmp .ne 67, 3) := by decide +kernel
theorem dL_law_512 : decode cL_law 512 = .ok (.aload_n 1, 1) := by decide +kernel
theorem dL_law_513 : decode cL_law 513 = .ok (.iload 4, 2) := by decide +kernel
theorem dL_law_515 : decode cL_law 515 = .ok (.iconst 0, 1) := by decide +kernel
theorem dL_law_516 : decode cL_law 516 = .ok (.invokevirtual 127, 3) := by decide +kernel
theorem dL_law_519 : decode cL_law 519 = .ok (.ldc 137, 2) := by decide +kernel
theorem dL_law_521 : decode cL_law 521 = .ok (.if_icmp .ne 55, 3) := by decide +kernel
theorem dL_law_524 : decode cL_law 524 = .ok (.aload_n 1, 1) := by decide +kernel
theorem dL_law_525 : decode cL_law 525 = .ok (.iconst (-1), 1) := by decide +kernel
theorem dL_law_526 : decode cL_law 526 = .ok (.iconst 0, 1) := by decide +kernel
theorem dL_law_527 : decode cL_law 527 = .ok (.invokevirtual 127, 3) := by decide +kernel
theorem dL_law_530 : decode cL_law 530 = .ok (.ldc 137, 2) := by decide +kernel
theorem dL_law_532 : decode cL_law 532 = .ok (.if_icmp .ne 44, 3) := by decide +kernel
theorem dL_law_535 : decode cL_law 535 = .ok (.aload_n 1, 1) := by decide +kernel
theorem dL_law_536 : decode cL_law 536 = .ok (.iconst 0, 1) := by decide +kernel
theorem dL_law_537 : decode cL_law 537 = .ok (.bipush 7, 2) := by decide +kernel
theorem dL_law_539 : decode cL_law 539 = .ok (.invokevirtual 127, 3) := by decide +kernel
theorem dL_law_542 : decode cL_law 542 = .ok (.ldc 137, 2) := by decide +kernel
theorem dL_law_544 : decode cL_law 544 = .ok (.if_icmp .ne 32, 3) := by decide +kernel
theorem dL_law_547 : decode cL_law 547 = .ok (.aload_n 1, 1) := by decide +kernel
theorem dL_law_548 : decode cL_law 548 = .ok (.aload_n 0, 1) := by decide +kernel
theorem dL_law_549 : decode cL_law 549 = .ok (.invokestatic 47, 3) := by decide +kernel
theorem dL_law_552 : decode cL_law 552 = .ok (.iconst 0, 1) := by decide +kernel
theorem dL_law_553 : decode cL_law 553 = .ok (.invokevirtual 133, 3) := by decide +kernel
theorem dL_law_556 : decode cL_law 556 = .ok (.ldc 137, 2) := by decide +kernel
theorem dL_law_558 : decode cL_law 558 = .ok (.if_icmp .ne 18, 3) := by decide +kernel
theorem dL_law_561 : decode cL_law 561 = .ok (.aload_n 1, 1) := by decide +kernel
theorem dL_law_562 : decode cL_law 562 = .ok (.iconst 0, 1) := by decide +kernel
theorem dL_law_563 : decode cL_law 563 = .ok (.iconst (-1), 1) := by decide +kernel
theorem dL_law_564 : decode cL_law 564 = .ok (.invokevirtual 133, 3) := by decide +kernel
theorem dL_law_567 : decode cL_law 567 = .ok (.ldc 137, 2) := by decide +kernel
theorem dL_law_569 : decode cL_law 569 = .ok (.if_icmp .ne 7, 3) := by decide +kernel
theorem dL_law_572 : decode cL_law 572 = .ok (.iconst 1, 1) := by decide +kernel
theorem dL_law_573 : decode cL_law 573 = .ok (.goto 4, 3) := by decide +kernel
theorem dL_law_576 : decode cL_law 576 = .ok (.iconst 0, 1) := by decide +kernel
theorem dL_law_577 : decode cL_law 577 = .ok (.ireturn, 1) := by decide +kernel
def tL_law_8 (zx : zX) (X : Nat → zB) (L : zL) (st : List zV) (σ : zM) : Prop := (z_aload 1 (z_aload 0 (z_cs2 (SL_tell zx) (z_ifne (z_push 64 (X 20)) (z_push 0 (X 17)))))) L st σ
set_option maxRecDepth 100000 in
theorem rL_law_8 {zx : zX} {zn : Nat} {zA : Nat → Prop} {cl sl : Nat} {p : Program} {l : Launch} {e : Env} {s : State} {m : MethodId} {args : Array Value} {below : List Frame} {meth : Method} {c : Code} {Q : State → Prop} {D : va_G} {cA : Nat → ClassId} {ad : Nat → Nat} {X : Nat → zB} (hX : ∀ q L st σ, X q L st σ → z_X zx zn zA cl sl p l e room_1 s m args below meth c Q 11 D cA ad true q L st σ) (C : z_Cx zx zn zA cl sl p room_1 s m args c cL_law RL 11 D cA ad) : ∀ L st σ, tL_law_8 zx X L st σ → z_X zx zn zA cl sl p l e room_1 s m args below meth c Q 11 D cA ad true 8 L st σ := (s_aload_n C dL_law_8 rfl (s_aload_n C dL_law_9 rfl (s_cs2 C dL_law_10 (okL_tell l) wd_554 wd_555 wd_16 wd_556 ⟨by decide, by decide, by decide +kernel⟩ ⟨by decide, by decide⟩ (s_ifne C dL_law_13 (by decide) (s_bipush C dL_law_18 rfl ⟨by decide, by decide⟩ (hX 20)) (s_iconst C dL_law_16 rfl ⟨by decide, by decide⟩ (hX 17))))))
def tL_law_22 (zx : zX) (X : Nat → zB) (L : zL) (st : List zV) (σ : zM) : Prop := (z_astore 2 (z_push 64 (X 25))) L st σ
set_option maxRecDepth 100000 in
theorem rL_law_22 {zx : zX} {zn : Nat} {zA : Nat → Prop} {cl sl : Nat} {p : Program} {l : Launch} {e : Env} {s : State} {m : MethodId} {args : Array Value} {below : List Frame} {meth : Method} {c : Code} {Q : State → Prop} {D : va_G} {cA : Nat → ClassId} {ad : Nat → Nat} {X : Nat → zB} (hX : ∀ q L st σ, X q L st σ → z_X zx zn zA cl sl p l e room_1 s m args below meth c Q 11 D cA ad true q L st σ) (C : z_Cx zx zn zA cl sl p room_1 s m args c cL_law RL 11 D cA ad) : ∀ L st σ, tL_law_22 zx X L st σ → z_X zx zn zA cl sl p l e room_1 s m args below meth c Q 11 D cA ad true 22 L st σ := (s_astore_n C dL_law_22 (by decide) rfl rfl (s_bipush C dL_law_23 rfl ⟨by decide, by decide⟩ (hX 25)))
def tL_law_27 (zx : zX) (X : Nat → zB) (L : zL) (st : List zV) (σ : zM) : Prop := (z_astore 3 (z_aload 0 (z_aload 2 (z_cs2 (SL_begins zx) (z_aload 0 (z_cs1 (SL_trees zx) (z_istore 4 (z_push 0 (z_istore 5 (X 42)))))))))) L st σ
set_option maxRecDepth 100000 in
theorem rL_law_27 {zx : zX} {zn : Nat} {zA : Nat → Prop} {cl sl : Nat} {p : Program} {l : Launch} {e : Env} {s : State} {m : MethodId} {args : Array Value} {below : List Frame} {meth : Method} {c : Code} {Q : State → Prop} {D : va_G} {cA : Nat → ClassId} {ad : Nat → Nat} {X : Nat → zB} (hX : ∀ q L st σ, X q L st σ → z_X zx zn zA cl sl p l e room_1 s m args below meth c Q 11 D cA ad true q L st σ) (C : z_Cx zx zn zA cl sl p room_1 s m args c cL_law RL 11 D cA ad) : ∀ L st σ, tL_law_27 zx X L st σ → z_X zx zn zA cl sl p l e room_1 s m args below meth c Q 11 D cA ad true 27 L st σ := (s_astore_n C dL_law_27 (by decide) rfl rfl (s_aload_n C dL_law_28 rfl (s_aload_n C dL_law_29 rfl (s_cs2 C dL_law_30 (okL_begins l) wd_653 wd_654 wd_16 wd_655 ⟨by decide, by decide, by decide +kernel⟩ ⟨by decide, by decide⟩ (s_aload_n C dL_law_33 rfl (s_cs1 C dL_law_34 (okL_trees l) wd_548 wd_549 wd_16 wd_550 ⟨by decide, by decide, by decide +kernel⟩ ⟨by decide, by decide⟩ (s_istore C dL_law_37 (by decide) rfl (s_iconst C dL_law_39 rfl ⟨by decide, by decide⟩ (s_istore C dL_law_40 (by decide) rfl (hX 42))))))))))
def tL_law_42 (zx : zX) (X : Nat → zB) (L : zL) (st : List zV) (σ : zM) : Prop := (z_iload 5 (z_push 26 (z_icge (z_aload 1 (z_push 0 (z_cv1 9 SW_go (z_push (-1000001) (z_icne (z_push 0 (X 577)) (z_aload 1 (z_push 61 (z_cv1 9 SW_go (z_push (-1000001) (z_icne (z_push 0 (X 577)) (z_aload 1 (z_iload 4 (z_push 0 (z_cv2 9 SW_tree (z_push (-1000001) (z_icne (z_push 0 (X 577)) (z_aload 1 (z_push (-1) (z_push 0 (z_cv2 9 SW_tree (z_push (-1000001) (z_icne (z_push 0 (X 577)) (z_aload 1 (z_push 0 (z_push 7 (z_cv2 9 SW_tree (z_push (-1000001) (z_icne (z_push 0 (X 577)) (z_aload 1 (z_aload 0 (z_cs1 (SL_winds zx) (z_push 0 (z_cv2 9 SW_sound (z_push (-1000001) (z_icne (z_push 0 (X 577)) (z_aload 1 (z_push 0 (z_push (-1) (z_cv2 9 SW_sound (z_push (-1000001) (z_icne (z_push 0 (X 577)) (z_push 1 (z_goto (X 577)))))))))))))))))))))))))))))))))))))))))))) (z_aload 0 (z_push 20 (z_iload 5 (z_iadd (z_cs2 (SL_cell zx) (z_istore 6 (z_iload 6 (z_push 5 (z_cs2 (SL_low zx) (z_istore 7 (z_iload 7 (z_push 2 (z_icge (z_iload 7 (z_push 2 (z_icne (z_push 1 (z_iload 6 (z_push 3 (z_ishr (z_push 3 (z_cs2 (SL_low zx) (z_iadd (z_istore 8 (z_push 0 (z_istore 9 (X 245))))))))))) (z_aload 2 (z_push 50 (z_ald 0 (z_ifne (z_aload 2 (z_push 50 (z_ald 0 (z_push 1 (z_isub (X 195)))))) (z_push (-1000002) (z_goto (X 195)))))))))) (z_push 1 (z_iload 6 (z_push 3 (z_ishr (z_push 4 (z_cs2 (SL_low zx) (z_iadd (z_istore 8 (z_push 0 (z_istore 9 (X 89))))))))))))))))))))))))))) L st σ
set_option maxRecDepth 100000 in
theorem rL_law_42 {zx : zX} {zn : Nat} {zA : Nat → Prop} {cl sl : Nat} {p : Program} {l : Launch} {e : Env} {s : State} {m : MethodId} {args : Array Value} {below : List Frame} {meth : Method} {c : Code} {Q : State → Prop} {D : va_G} {cA : Nat → ClassId} {ad : Nat → Nat} {X : Nat → zB} (hX : ∀ q L st σ, X q L st σ → z_X zx zn zA cl sl p l e room_1 s m args below meth c Q 11 D cA ad true q L st σ) (C : z_Cx zx zn zA cl sl p room_1 s m args c cL_law RL 11 D cA ad) : ∀ L st σ, tL_law_42 zx X L st σ → z_X zx zn zA cl sl p l e room_1 s m args below meth c Q 11 D cA ad true 42 L st σ := (s_iload C dL_law_42 (s_bipush C dL_law_44 rfl ⟨by decide, by decide⟩ (s_icge C dL_law_46 (by decide) (s_aload_n C dL_law_491 rfl (s_iconst C dL_law_492 rfl ⟨by decide, by decide⟩ (s_cv1 C dL_law_493 (okW_go l) cls_X9 wd_484 wd_485 wd_486 wd_17 wd_487 ⟨by decide, by decide, by decide +kernel⟩ ⟨by decide, by decide⟩ (s_ldc C dL_law_496 (v := -1000001) wd_688 ⟨by decide, by decide⟩ (s_icne C dL_law_498 (by decide) (s_iconst C dL_law_576 rfl ⟨by decide, by decide⟩ (hX 577)) (s_aload_n C dL_law_501 rfl (s_bipush C dL_law_502 rfl ⟨by decide, by decide⟩ (s_cv1 C dL_law_504 (okW_go l) cls_X9 wd_484 wd_485 wd_486 wd_17 wd_487 ⟨by decide, by decide, by decide +kernel⟩ ⟨by decide, by decide⟩ (s_ldc C dL_law_507 (v := -1000001) wd_688 ⟨by decide, by decide⟩ (s_icne C dL_law_509 (by decide) (s_iconst C dL_law_576 rfl ⟨by decide, by decide⟩ (hX 577)) (s_aload_n C dL_law_512 rfl (s_iload C dL_law_513 (s_iconst C dL_law_515 rfl ⟨by decide, by decide⟩ (s_cv2 C dL_law_516 (okW_tree l) cls_X9 wd_498 wd_499 wd_500 wd_17 wd_501 ⟨by decide, by decide, by decide +kernel⟩ ⟨by decide, by decide⟩ (s_ldc C dL_law_519 (v := -1000001) wd_688 ⟨by decide, by decide⟩ (s_icne C dL_law_521 (by decide) (s_iconst C dL_law_576 rfl ⟨by decide, by decide⟩ (hX 577)) (s_aload_n C dL_law_524 rfl (s_iconst C dL_law_525 rfl ⟨by decide, by decide⟩ (s_iconst C dL_law_526 rfl ⟨by decide, by decide⟩ (s_cv2 C dL_law_527 (okW_tree l) cls_X9 wd_498 wd_499 wd_500 wd_17 wd_501 ⟨by decide, by decide, by decide +kernel⟩ ⟨by decide, by decide⟩ (s_ldc C dL_law_530 (v := -1000001) wd_688 ⟨by decide, by decide⟩ (s_icne C dL_law_532 (by decide) (s_iconst C dL_law_576 rfl ⟨by decide, by decide⟩ (hX 577)) (s_aload_n C dL_law_535 rfl (s_iconst C dL_law_536 rfl ⟨by decide, by decide⟩ (s_bipush C dL_law_537 rfl ⟨by decide, by decide⟩ (s_cv2 C dL_law_539 (okW_tree l) cls_X9 wd_498 wd_499 wd_500 wd_17 wd_501 ⟨by decide, by decide, by decide +kernel⟩ ⟨by decide, by decide⟩ (s_ldc C dL_law_542 (v := -1000001) wd_688 ⟨by decide, by decide⟩ (s_icne C dL_law_544 (by decide) (s_iconst C dL_law_576 rfl ⟨by decide, by decide⟩ (hX 577)) (s_aload_n C dL_law_547 rfl (s_aload_n C dL_law_548 rfl (s_cs1 C dL_law_549 (okL_winds l) wd_551 wd_552 wd_16 wd_553 ⟨by decide, by decide, by decide +kernel⟩ ⟨by decide, by decide⟩ (s_iconst C dL_law_552 rfl ⟨by decide, by decide⟩ (s_cv2 C dL_law_553 (okW_sound l) cls_X9 wd_510 wd_511 wd_512 wd_17 wd_513 ⟨by decide, by decide, by decide +kernel⟩ ⟨by decide, by decide⟩ (s_ldc C dL_law_556 (v := -1000001) wd_688 ⟨by decide, by decide⟩ (s_icne C dL_law_558 (by decide) (s_iconst C dL_law_576 rfl ⟨by decide, by decide⟩ (hX 577)) (s_aload_n C dL_law_561 rfl (s_iconst C dL_law_562 rfl ⟨by decide, by decide⟩ (s_iconst C dL_law_563 rfl ⟨by decide, by decide⟩ (s_cv2 C dL_law_564 (okW_sound l) cls_X9 wd_510 wd_511 wd_512 wd_17 wd_513 ⟨by decide, by decide, by decide +kernel⟩ ⟨by decide, by decide⟩ (s_ldc C dL_law_567 (v := -1000001) wd_688 ⟨by decide, by decide⟩ (s_icne C dL_law_569 (by decide) (s_iconst C dL_law_576 rfl ⟨by decide, by decide⟩ (hX 577)) (s_iconst C dL_law_572 rfl ⟨by decide, by decide⟩ (s_goto C dL_law_573 (by decide) (hX 577)))))))))))))))))))))))))))))))))))))))))))) (s_aload_n C dL_law_49 rfl (s_bipush C dL_law_50 rfl ⟨by decide, by decide⟩ (s_iload C dL_law_52 (s_iadd C dL_law_54 (s_cs2 C dL_law_55 (okL_cell l) wd_540 wd_541 wd_16 wd_542 ⟨by decide, by decide, by decide +kernel⟩ ⟨by decide, by decide⟩ (s_istore C dL_law_58 (by decide) rfl (s_iload C dL_law_60 (s_iconst C dL_law_62 rfl ⟨by decide, by decide⟩ (s_cs2 C dL_law_63 (okL_low l) wd_544 wd_545 wd_16 wd_546 ⟨by decide, by decide, by decide +kernel⟩ ⟨by decide, by decide⟩ (s_istore C dL_law_66 (by decide) rfl (s_iload C dL_law_68 (s_iconst C dL_law_70 rfl ⟨by decide, by decide⟩ (s_icge C dL_law_71 (by decide) (s_iload C dL_law_171 (s_iconst C dL_law_173 rfl ⟨by decide, by decide⟩ (s_icne C dL_law_174 (by decide) (s_iconst C dL_law_230 rfl ⟨by decide, by decide⟩ (s_iload C dL_law_231 (s_iconst C dL_law_233 rfl ⟨by decide, by decide⟩ (s_ishr C dL_law_234 (s_iconst C dL_law_235 rfl ⟨by decide, by decide⟩ (s_cs2 C dL_law_236 (okL_low l) wd_544 wd_545 wd_16 wd_546 ⟨by decide, by decide, by decide +kernel⟩ ⟨by decide, by decide⟩ (s_iadd C dL_law_239 (s_istore C dL_law_240 (by decide) rfl (s_iconst C dL_law_242 rfl ⟨by decide, by decide⟩ (s_istore C dL_law_243 (by decide) rfl (hX 245))))))))))) (s_aload_n C dL_law_177 rfl (s_bipush C dL_law_178 rfl ⟨by decide, by decide⟩ (s_iald C dL_law_180 (s_ifne C dL_law_181 (by decide) (s_aload_n C dL_law_189 rfl (s_bipush C dL_law_190 rfl ⟨by decide, by decide⟩ (s_iald C dL_law_192 (s_iconst C dL_law_193 rfl ⟨by decide, by decide⟩ (s_isub C dL_law_194 (hX 195)))))) (s_ldc C dL_law_184 (v := -1000002) wd_686 ⟨by decide, by decide⟩ (s_goto C dL_law_186 (by decide) (hX 195)))))))))) (s_iconst C dL_law_74 rfl ⟨by decide, by decide⟩ (s_iload C dL_law_75 (s_iconst C dL_law_77 rfl ⟨by decide, by decide⟩ (s_ishr C dL_law_78 (s_iconst C dL_law_79 rfl ⟨by decide, by decide⟩ (s_cs2 C dL_law_80 (okL_low l) wd_544 wd_545 wd_16 wd_546 ⟨by decide, by decide, by decide +kernel⟩ ⟨by decide, by decide⟩ (s_iadd C dL_law_83 (s_istore C dL_law_84 (by decide) rfl (s_iconst C dL_law_86 rfl ⟨by decide, by decide⟩ (s_istore C dL_law_87 (by decide) rfl (hX 89)))))))))))))))))))))))))))
def tL_law_89 (zx : zX) (X : Nat → zB) (L : zL) (st : List zV) (σ : zM) : Prop := (z_iload 9 (z_iload 8 (z_icge (X 137) (z_aload 2 (z_push 50 (z_ald 0 (z_push 50 (z_icge (X 137) (z_aload 3 (z_aload 2 (z_push 50 (z_ald 0 (z_aload 1 (z_aload 0 (z_aload 2 (z_aload 0 (z_push 46 (z_iload 5 (z_iadd (z_cs2n (SL_cell zx) (z_push 3 (z_iload 9 (z_imul (z_ishr (z_cs4 (SL_orders zx) (z_iast (z_iinc 9 1 (z_goto (X 89))))))))))))))))))))))))))))) L st σ
set_option maxRecDepth 100000 in
theorem rL_law_89 {zx : zX} {zn : Nat} {zA : Nat → Prop} {cl sl : Nat} {p : Program} {l : Launch} {e : Env} {s : State} {m : MethodId} {args : Array Value} {below : List Frame} {meth : Method} {c : Code} {Q : State → Prop} {D : va_G} {cA : Nat → ClassId} {ad : Nat → Nat} {X : Nat → zB} (hX : ∀ q L st σ, X q L st σ → z_X zx zn zA cl sl p l e room_1 s m args below meth c Q 11 D cA ad true q L st σ) (C : z_Cx zx zn zA cl sl p room_1 s m args c cL_law RL 11 D cA ad) : ∀ L st σ, tL_law_89 zx X L st σ → z_X zx zn zA cl sl p l e room_1 s m args below meth c Q 11 D cA ad true 89 L st σ := (s_iload C dL_law_89 (s_iload C dL_law_91 (s_icge C dL_law_93 (by decide) (hX 137) (s_aload_n C dL_law_96 rfl (s_bipush C dL_law_97 rfl ⟨by decide, by decide⟩ (s_iald C dL_law_99 (s_bipush C dL_law_100 rfl ⟨by decide, by decide⟩ (s_icge C dL_law_102 (by decide) (hX 137) (s_aload_n C dL_law_105 rfl (s_aload_n C dL_law_106 rfl (s_bipush C dL_law_107 rfl ⟨by decide, by decide⟩ (s_iald C dL_law_109 (s_aload_n C dL_law_110 rfl (s_aload_n C dL_law_111 rfl (s_aload_n C dL_law_112 rfl (s_aload_n C dL_law_113 rfl (s_bipush C dL_law_114 rfl ⟨by decide, by decide⟩ (s_iload C dL_law_116 (s_iadd C dL_law_118 (s_cs2n C dL_law_119 (okL_cell l) wd_540 wd_541 wd_16 wd_542 ⟨by decide, by decide, by decide +kernel⟩ ⟨by decide, by decide⟩ (s_iconst C dL_law_122 rfl ⟨by decide, by decide⟩ (s_iload C dL_law_123 (s_imul C dL_law_125 (s_ishr C dL_law_126 (s_cs4 C dL_law_127 (okL_orders l) wd_671 wd_672 wd_16 wd_673 ⟨by decide, by decide, by decide +kernel⟩ ⟨by decide, by decide⟩ (s_iast C dL_law_130 (s_iinc C dL_law_131 (by decide) rfl (s_goto C dL_law_134 (by decide) (hX 89)))))))))))))))))))))))))))))
def tL_law_137 (zx : zX) (X : Nat → zB) (L : zL) (st : List zV) (σ : zM) : Prop := (z_aload 1 (z_push 7 (z_cv1 9 SW_count (z_ifne (z_aload 2 (z_push 50 (z_ald 0 (X 155)))) (z_push (-1000100) (z_goto (X 155))))))) L st σ
set_option maxRecDepth 100000 in
theorem rL_law_137 {zx : zX} {zn : Nat} {zA : Nat → Prop} {cl sl : Nat} {p : Program} {l : Launch} {e : Env} {s : State} {m : MethodId} {args : Array Value} {below : List Frame} {meth : Method} {c : Code} {Q : State → Prop} {D : va_G} {cA : Nat → ClassId} {ad : Nat → Nat} {X : Nat → zB} (hX : ∀ q L st σ, X q L st σ → z_X zx zn zA cl sl p l e room_1 s m args below meth c Q 11 D cA ad true q L st σ) (C : z_Cx zx zn zA cl sl p room_1 s m args c cL_law RL 11 D cA ad) : ∀ L st σ, tL_law_137 zx X L st σ → z_X zx zn zA cl sl p l e room_1 s m args below meth c Q 11 D cA ad true 137 L st σ := (s_aload_n C dL_law_137 rfl (s_bipush C dL_law_138 rfl ⟨by decide, by decide⟩ (s_cv1 C dL_law_140 (okW_count l) cls_X9 wd_532 wd_533 wd_534 wd_17 wd_535 ⟨by decide, by decide, by decide +kernel⟩ ⟨by decide, by decide⟩ (s_ifne C dL_law_143 (by decide) (s_aload_n C dL_law_151 rfl (s_bipush C dL_law_152 rfl ⟨by decide, by decide⟩ (s_iald C dL_law_154 (hX 155)))) (s_ldc C dL_law_146 (v := -1000100) wd_685 ⟨by decide, by decide⟩ (s_goto C dL_law_148 (by decide) (hX 155)))))))
def tL_law_155 (zx : zX) (X : Nat → zB) (L : zL) (st : List zV) (σ : zM) : Prop := (z_istore 9 (z_aload 1 (z_cv0 9 SW_orders (z_iload 9 (z_iceq (z_goto (X 278)) (z_push 0 (X 167))))))) L st σ
set_option maxRecDepth 100000 in
theorem rL_law_155 {zx : zX} {zn : Nat} {zA : Nat → Prop} {cl sl : Nat} {p : Program} {l : Launch} {e : Env} {s : State} {m : MethodId} {args : Array Value} {below : List Frame} {meth : Method} {c : Code} {Q : State → Prop} {D : va_G} {cA : Nat → ClassId} {ad : Nat → Nat} {X : Nat → zB} (hX : ∀ q L st σ, X q L st σ → z_X zx zn zA cl sl p l e room_1 s m args below meth c Q 11 D cA ad true q L st σ) (C : z_Cx zx zn zA cl sl p room_1 s m args c cL_law RL 11 D cA ad) : ∀ L st σ, tL_law_155 zx X L st σ → z_X zx zn zA cl sl p l e room_1 s m args below meth c Q 11 D cA ad true 155 L st σ := (s_istore C dL_law_155 (by decide) rfl (s_aload_n C dL_law_157 rfl (s_cv0 C dL_law_158 (okW_orders l) cls_X9 wd_322 wd_323 wd_324 wd_17 wd_325 ⟨by decide, by decide, by decide +kernel⟩ ⟨by decide, by decide⟩ (s_iload C dL_law_161 (s_iceq C dL_law_163 (by decide) (s_goto C dL_law_168 (by decide) (hX 278)) (s_iconst C dL_law_166 rfl ⟨by decide, by decide⟩ (hX 167)))))))
def tL_law_195 (zx : zX) (X : Nat → zB) (L : zL) (st : List zV) (σ : zM) : Prop := (z_istore 8 (z_aload 2 (z_push 50 (z_ald 0 (z_ifle (X 216) (z_aload 2 (z_aload 3 (z_aload 2 (z_push 50 (z_ald 0 (z_push 1 (z_isub (z_ald 0 (z_cs2 (SL_undoes zx) (X 216))))))))))))))) L st σ
set_option maxRecDepth 100000 in
theorem rL_law_195 {zx : zX} {zn : Nat} {zA : Nat → Prop} {cl sl : Nat} {p : Program} {l : Launch} {e : Env} {s : State} {m : MethodId} {args : Array Value} {below : List Frame} {meth : Method} {c : Code} {Q : State → Prop} {D : va_G} {cA : Nat → ClassId} {ad : Nat → Nat} {X : Nat → zB} (hX : ∀ q L st σ, X q L st σ → z_X zx zn zA cl sl p l e room_1 s m args below meth c Q 11 D cA ad true q L st σ) (C : z_Cx zx zn zA cl sl p room_1 s m args c cL_law RL 11 D cA ad) : ∀ L st σ, tL_law_195 zx X L st σ → z_X zx zn zA cl sl p l e room_1 s m args below meth c Q 11 D cA ad true 195 L st σ := (s_istore C dL_law_195 (by decide) rfl (s_aload_n C dL_law_197 rfl (s_bipush C dL_law_198 rfl ⟨by decide, by decide⟩ (s_iald C dL_law_200 (s_ifle C dL_law_201 (by decide) (hX 216) (s_aload_n C dL_law_204 rfl (s_aload_n C dL_law_205 rfl (s_aload_n C dL_law_206 rfl (s_bipush C dL_law_207 rfl ⟨by decide, by decide⟩ (s_iald C dL_law_209 (s_iconst C dL_law_210 rfl ⟨by decide, by decide⟩ (s_isub C dL_law_211 (s_iald C dL_law_212 (s_cs2 C dL_law_213 (okL_undoes l) wd_682 wd_683 wd_16 wd_684 ⟨by decide, by decide, by decide +kernel⟩ ⟨by decide, by decide⟩ (hX 216)))))))))))))))
def tL_law_216 (zx : zX) (X : Nat → zB) (L : zL) (st : List zV) (σ : zM) : Prop := (z_aload 1 (z_cv0 9 SW_undo (z_iload 8 (z_iceq (z_goto (X 278)) (z_push 0 (X 226)))))) L st σ
set_option maxRecDepth 100000 in
theorem rL_law_216 {zx : zX} {zn : Nat} {zA : Nat → Prop} {cl sl : Nat} {p : Program} {l : Launch} {e : Env} {s : State} {m : MethodId} {args : Array Value} {below : List Frame} {meth : Method} {c : Code} {Q : State → Prop} {D : va_G} {cA : Nat → ClassId} {ad : Nat → Nat} {X : Nat → zB} (hX : ∀ q L st σ, X q L st σ → z_X zx zn zA cl sl p l e room_1 s m args below meth c Q 11 D cA ad true q L st σ) (C : z_Cx zx zn zA cl sl p room_1 s m args c cL_law RL 11 D cA ad) : ∀ L st σ, tL_law_216 zx X L st σ → z_X zx zn zA cl sl p l e room_1 s m args below meth c Q 11 D cA ad true 216 L st σ := (s_aload_n C dL_law_216 rfl (s_cv0 C dL_law_217 (okW_undo l) cls_X9 wd_476 wd_477 wd_478 wd_17 wd_479 ⟨by decide, by decide, by decide +kernel⟩ ⟨by decide, by decide⟩ (s_iload C dL_law_220 (s_iceq C dL_law_222 (by decide) (s_goto C dL_law_227 (by decide) (hX 278)) (s_iconst C dL_law_225 rfl ⟨by decide, by decide⟩ (hX 226))))))
def tL_law_245 (zx : zX) (X : Nat → zB) (L : zL) (st : List zV) (σ : zM) : Prop := (z_iload 9 (z_iload 8 (z_icge (z_aload 1 (z_iload 8 (z_cv1 9 SW_go (z_aload 2 (z_push 49 (z_ald 0 (z_iceq (X 278) (z_push 0 (X 277))))))))) (z_aload 0 (z_aload 2 (z_cs2 (SL_year zx) (z_iinc 9 1 (z_goto (X 245))))))))) L st σ
set_option maxRecDepth 100000 in
theorem rL_law_245 {zx : zX} {zn : Nat} {zA : Nat → Prop} {cl sl : Nat} {p : Program} {l : Launch} {e : Env} {s : State} {m : MethodId} {args : Array Value} {below : List Frame} {meth : Method} {c : Code} {Q : State → Prop} {D : va_G} {cA : Nat → ClassId} {ad : Nat → Nat} {X : Nat → zB} (hX : ∀ q L st σ, X q L st σ → z_X zx zn zA cl sl p l e room_1 s m args below meth c Q 11 D cA ad true q L st σ) (C : z_Cx zx zn zA cl sl p room_1 s m args c cL_law RL 11 D cA ad) : ∀ L st σ, tL_law_245 zx X L st σ → z_X zx zn zA cl sl p l e room_1 s m args below meth c Q 11 D cA ad true 245 L st σ := (s_iload C dL_law_245 (s_iload C dL_law_247 (s_icge C dL_law_249 (by decide) (s_aload_n C dL_law_263 rfl (s_iload C dL_law_264 (s_cv1 C dL_law_266 (okW_go l) cls_X9 wd_484 wd_485 wd_486 wd_17 wd_487 ⟨by decide, by decide, by decide +kernel⟩ ⟨by decide, by decide⟩ (s_aload_n C dL_law_269 rfl (s_bipush C dL_law_270 rfl ⟨by decide, by decide⟩ (s_iald C dL_law_272 (s_iceq C dL_law_273 (by decide) (hX 278) (s_iconst C dL_law_276 rfl ⟨by decide, by decide⟩ (hX 277))))))))) (s_aload_n C dL_law_252 rfl (s_aload_n C dL_law_253 rfl (s_cs2 C dL_law_254 (okL_year l) wd_665 wd_666 wd_16 wd_667 ⟨by decide, by decide, by decide +kernel⟩ ⟨by decide, by decide⟩ (s_iinc C dL_law_257 (by decide) rfl (s_goto C dL_law_260 (by decide) (hX 245)))))))))
def tL_law_278 (zx : zX) (X : Nat → zB) (L : zL) (st : List zV) (σ : zM) : Prop := (z_aload 1 (z_push 4 (z_cv1 9 SW_count (z_aload 2 (z_push 49 (z_ald 0 (z_icne (z_push 0 (X 325)) (z_aload 1 (z_push 5 (z_cv1 9 SW_count (z_aload 2 (z_push 48 (z_ald 0 (z_icne (z_push 0 (X 325)) (z_aload 1 (z_push 6 (z_cv1 9 SW_count (z_aload 2 (z_push 50 (z_ald 0 (z_icne (z_push 0 (X 325)) (z_aload 1 (z_push 7 (z_cv1 9 SW_count (z_ifeq (z_push 0 (z_istore 8 (X 329))) (z_push 0 (X 325))))))))))))))))))))))))))) L st σ
set_option maxRecDepth 100000 in
theorem rL_law_278 {zx : zX} {zn : Nat} {zA : Nat → Prop} {cl sl : Nat} {p : Program} {l : Launch} {e : Env} {s : State} {m : MethodId} {args : Array Value} {below : List Frame} {meth : Method} {c : Code} {Q : State → Prop} {D : va_G} {cA : Nat → ClassId} {ad : Nat → Nat} {X : Nat → zB} (hX : ∀ q L st σ, X q L st σ → z_X zx zn zA cl sl p l e room_1 s m args below meth c Q 11 D cA ad true q L st σ) (C : z_Cx zx zn zA cl sl p room_1 s m args c cL_law RL 11 D cA ad) : ∀ L st σ, tL_law_278 zx X L st σ → z_X zx zn zA cl sl p l e room_1 s m args below meth c Q 11 D cA ad true 278 L st σ := (s_aload_n C dL_law_278 rfl (s_iconst C dL_law_279 rfl ⟨by decide, by decide⟩ (s_cv1 C dL_law_280 (okW_count l) cls_X9 wd_532 wd_533 wd_534 wd_17 wd_535 ⟨by decide, by decide, by decide +kernel⟩ ⟨by decide, by decide⟩ (s_aload_n C dL_law_283 rfl (s_bipush C dL_law_284 rfl ⟨by decide, by decide⟩ (s_iald C dL_law_286 (s_icne C dL_law_287 (by decide) (s_iconst C dL_law_324 rfl ⟨by decide, by decide⟩ (hX 325)) (s_aload_n C dL_law_290 rfl (s_iconst C dL_law_291 rfl ⟨by decide, by decide⟩ (s_cv1 C dL_law_292 (okW_count l) cls_X9 wd_532 wd_533 wd_534 wd_17 wd_535 ⟨by decide, by decide, by decide +kernel⟩ ⟨by decide, by decide⟩ (s_aload_n C dL_law_295 rfl (s_bipush C dL_law_296 rfl ⟨by decide, by decide⟩ (s_iald C dL_law_298 (s_icne C dL_law_299 (by decide) (s_iconst C dL_law_324 rfl ⟨by decide, by decide⟩ (hX 325)) (s_aload_n C dL_law_302 rfl (s_bipush C dL_law_303 rfl ⟨by decide, by decide⟩ (s_cv1 C dL_law_305 (okW_count l) cls_X9 wd_532 wd_533 wd_534 wd_17 wd_535 ⟨by decide, by decide, by decide +kernel⟩ ⟨by decide, by decide⟩ (s_aload_n C dL_law_308 rfl (s_bipush C dL_law_309 rfl ⟨by decide, by decide⟩ (s_iald C dL_law_311 (s_icne C dL_law_312 (by decide) (s_iconst C dL_law_324 rfl ⟨by decide, by decide⟩ (hX 325)) (s_aload_n C dL_law_315 rfl (s_bipush C dL_law_316 rfl ⟨by decide, by decide⟩ (s_cv1 C dL_law_318 (okW_count l) cls_X9 wd_532 wd_533 wd_534 wd_17 wd_535 ⟨by decide, by decide, by decide +kernel⟩ ⟨by decide, by decide⟩ (s_ifeq C dL_law_321 (by decide) (s_iconst C dL_law_326 rfl ⟨by decide, by decide⟩ (s_istore C dL_law_327 (by decide) rfl (hX 329))) (s_iconst C dL_law_324 rfl ⟨by decide, by decide⟩ (hX 325)))))))))))))))))))))))))))
def tL_law_329 (zx : zX) (X : Nat → zB) (L : zL) (st : List zV) (σ : zM) : Prop := (z_iload 8 (z_iload 4 (z_icge (z_push 0 (z_istore 8 (X 403))) (z_push 0 (z_istore 9 (X 339)))))) L st σ
set_option maxRecDepth 100000 in
theorem rL_law_329 {zx : zX} {zn : Nat} {zA : Nat → Prop} {cl sl : Nat} {p : Program} {l : Launch} {e : Env} {s : State} {m : MethodId} {args : Array Value} {below : List Frame} {meth : Method} {c : Code} {Q : State → Prop} {D : va_G} {cA : Nat → ClassId} {ad : Nat → Nat} {X : Nat → zB} (hX : ∀ q L st σ, X q L st σ → z_X zx zn zA cl sl p l e room_1 s m args below meth c Q 11 D cA ad true q L st σ) (C : z_Cx zx zn zA cl sl p room_1 s m args c cL_law RL 11 D cA ad) : ∀ L st σ, tL_law_329 zx X L st σ → z_X zx zn zA cl sl p l e room_1 s m args below meth c Q 11 D cA ad true 329 L st σ := (s_iload C dL_law_329 (s_iload C dL_law_331 (s_icge C dL_law_333 (by decide) (s_iconst C dL_law_400 rfl ⟨by decide, by decide⟩ (s_istore C dL_law_401 (by decide) rfl (hX 403))) (s_iconst C dL_law_336 rfl ⟨by decide, by decide⟩ (s_istore C dL_law_337 (by decide) rfl (hX 339))))))
def tL_law_339 (zx : zX) (X : Nat → zB) (L : zL) (st : List zV) (σ : zM) : Prop := (z_iload 9 (z_push 6 (z_icge (z_aload 1 (z_iload 8 (z_push 6 (z_cv2 9 SW_tree (z_aload 2 (z_iload 8 (z_cs2 (SL_tone zx) (z_iceq (z_iinc 8 1 (z_goto (X 329))) (z_push 0 (X 393)))))))))) (z_aload 1 (z_iload 8 (z_iload 9 (z_cv2 9 SW_tree (z_aload 2 (z_push 6 (z_iload 8 (z_imul (z_iload 9 (z_iadd (z_ald 0 (z_iceq (z_iinc 9 1 (z_goto (X 339))) (z_push 0 (X 368))))))))))))))))) L st σ
set_option maxRecDepth 100000 in
theorem rL_law_339 {zx : zX} {zn : Nat} {zA : Nat → Prop} {cl sl : Nat} {p : Program} {l : Launch} {e : Env} {s : State} {m : MethodId} {args : Array Value} {below : List Frame} {meth : Method} {c : Code} {Q : State → Prop} {D : va_G} {cA : Nat → ClassId} {ad : Nat → Nat} {X : Nat → zB} (hX : ∀ q L st σ, X q L st σ → z_X zx zn zA cl sl p l e room_1 s m args below meth c Q 11 D cA ad true q L st σ) (C : z_Cx zx zn zA cl sl p room_1 s m args c cL_law RL 11 D cA ad) : ∀ L st σ, tL_law_339 zx X L st σ → z_X zx zn zA cl sl p l e room_1 s m args below meth c Q 11 D cA ad true 339 L st σ := (s_iload C dL_law_339 (s_bipush C dL_law_341 rfl ⟨by decide, by decide⟩ (s_icge C dL_law_343 (by decide) (s_aload_n C dL_law_375 rfl (s_iload C dL_law_376 (s_bipush C dL_law_378 rfl ⟨by decide, by decide⟩ (s_cv2 C dL_law_380 (okW_tree l) cls_X9 wd_498 wd_499 wd_500 wd_17 wd_501 ⟨by decide, by decide, by decide +kernel⟩ ⟨by decide, by decide⟩ (s_aload_n C dL_law_383 rfl (s_iload C dL_law_384 (s_cs2 C dL_law_386 (okL_tone l) wd_656 wd_657 wd_16 wd_658 ⟨by decide, by decide, by decide +kernel⟩ ⟨by decide, by decide⟩ (s_iceq C dL_law_389 (by decide) (s_iinc C dL_law_394 (by decide) rfl (s_goto C dL_law_397 (by decide) (hX 329))) (s_iconst C dL_law_392 rfl ⟨by decide, by decide⟩ (hX 393)))))))))) (s_aload_n C dL_law_346 rfl (s_iload C dL_law_347 (s_iload C dL_law_349 (s_cv2 C dL_law_351 (okW_tree l) cls_X9 wd_498 wd_499 wd_500 wd_17 wd_501 ⟨by decide, by decide, by decide +kernel⟩ ⟨by decide, by decide⟩ (s_aload_n C dL_law_354 rfl (s_bipush C dL_law_355 rfl ⟨by decide, by decide⟩ (s_iload C dL_law_357 (s_imul C dL_law_359 (s_iload C dL_law_360 (s_iadd C dL_law_362 (s_iald C dL_law_363 (s_iceq C dL_law_364 (by decide) (s_iinc C dL_law_369 (by decide) rfl (s_goto C dL_law_372 (by decide) (hX 339))) (s_iconst C dL_law_367 rfl ⟨by decide, by decide⟩ (hX 368)))))))))))))))))
def tL_law_403 (zx : zX) (X : Nat → zB) (L : zL) (st : List zV) (σ : zM) : Prop := (z_iload 8 (z_aload 0 (z_cs1 (SL_winds zx) (z_icge (z_iinc 5 1 (z_goto (X 42))) (z_push 64 (X 414)))))) L st σ
set_option maxRecDepth 100000 in
theorem rL_law_403 {zx : zX} {zn : Nat} {zA : Nat → Prop} {cl sl : Nat} {p : Program} {l : Launch} {e : Env} {s : State} {m : MethodId} {args : Array Value} {below : List Frame} {meth : Method} {c : Code} {Q : State → Prop} {D : va_G} {cA : Nat → ClassId} {ad : Nat → Nat} {X : Nat → zB} (hX : ∀ q L st σ, X q L st σ → z_X zx zn zA cl sl p l e room_1 s m args below meth c Q 11 D cA ad true q L st σ) (C : z_Cx zx zn zA cl sl p room_1 s m args c cL_law RL 11 D cA ad) : ∀ L st σ, tL_law_403 zx X L st σ → z_X zx zn zA cl sl p l e room_1 s m args below meth c Q 11 D cA ad true 403 L st σ := (s_iload C dL_law_403 (s_aload_n C dL_law_405 rfl (s_cs1 C dL_law_406 (okL_winds l) wd_551 wd_552 wd_16 wd_553 ⟨by decide, by decide, by decide +kernel⟩ ⟨by decide, by decide⟩ (s_icge C dL_law_409 (by decide) (s_iinc C dL_law_485 (by decide) rfl (s_goto C dL_law_488 (by decide) (hX 42))) (s_bipush C dL_law_412 rfl ⟨by decide, by decide⟩ (hX 414))))))
def tL_law_416 (zx : zX) (X : Nat → zB) (L : zL) (st : List zV) (σ : zM) : Prop := (z_astore 9 (z_aload 0 (z_aload 2 (z_iload 8 (z_aload 9 (z_cs4 (SL_hears zx) (z_push 0 (z_istore 10 (X 430))))))))) L st σ
set_option maxRecDepth 100000 in
theorem rL_law_416 {zx : zX} {zn : Nat} {zA : Nat → Prop} {cl sl : Nat} {p : Program} {l : Launch} {e : Env} {s : State} {m : MethodId} {args : Array Value} {below : List Frame} {meth : Method} {c : Code} {Q : State → Prop} {D : va_G} {cA : Nat → ClassId} {ad : Nat → Nat} {X : Nat → zB} (hX : ∀ q L st σ, X q L st σ → z_X zx zn zA cl sl p l e room_1 s m args below meth c Q 11 D cA ad true q L st σ) (C : z_Cx zx zn zA cl sl p room_1 s m args c cL_law RL 11 D cA ad) : ∀ L st σ, tL_law_416 zx X L st σ → z_X zx zn zA cl sl p l e room_1 s m args below meth c Q 11 D cA ad true 416 L st σ := (s_astore C dL_law_416 (by decide) rfl (s_aload_n C dL_law_418 rfl (s_aload_n C dL_law_419 rfl (s_iload C dL_law_420 (s_aload C dL_law_422 (s_cs4 C dL_law_424 (okL_hears l) wd_659 wd_660 wd_16 wd_661 ⟨by decide, by decide, by decide +kernel⟩ ⟨by decide, by decide⟩ (s_iconst C dL_law_427 rfl ⟨by decide, by decide⟩ (s_istore C dL_law_428 (by decide) rfl (hX 430)))))))))
def tL_law_430 (zx : zX) (X : Nat → zB) (L : zL) (st : List zV) (σ : zM) : Prop := (z_iload 10 (z_aload 9 (z_push 63 (z_ald 0 (z_icgt (z_iinc 8 1 (z_goto (X 403))) (z_aload 1 (z_iload 8 (z_iload 10 (z_cv2 9 SW_sound (z_iload 10 (z_aload 9 (z_push 63 (z_ald 0 (z_icge (z_push (-1000000) (z_iceq (z_iinc 10 1 (z_goto (X 430))) (z_push 0 (X 472)))) (z_aload 9 (z_iload 10 (z_ald 0 (z_goto (z_iceq (z_iinc 10 1 (z_goto (X 430))) (z_push 0 (X 472))))))))))))))))))))) L st σ
set_option maxRecDepth 100000 in
theorem rL_law_430 {zx : zX} {zn : Nat} {zA : Nat → Prop} {cl sl : Nat} {p : Program} {l : Launch} {e : Env} {s : State} {m : MethodId} {args : Array Value} {below : List Frame} {meth : Method} {c : Code} {Q : State → Prop} {D : va_G} {cA : Nat → ClassId} {ad : Nat → Nat} {X : Nat → zB} (hX : ∀ q L st σ, X q L st σ → z_X zx zn zA cl sl p l e room_1 s m args below meth c Q 11 D cA ad true q L st σ) (C : z_Cx zx zn zA cl sl p room_1 s m args c cL_law RL 11 D cA ad) : ∀ L st σ, tL_law_430 zx X L st σ → z_X zx zn zA cl sl p l e room_1 s m args below meth c Q 11 D cA ad true 430 L st σ := (s_iload C dL_law_430 (s_aload C dL_law_432 (s_bipush C dL_law_434 rfl ⟨by decide, by decide⟩ (s_iald C dL_law_436 (s_icgt C dL_law_437 (by decide) (s_iinc C dL_law_479 (by decide) rfl (s_goto C dL_law_482 (by decide) (hX 403))) (s_aload_n C dL_law_440 rfl (s_iload C dL_law_441 (s_iload C dL_law_443 (s_cv2 C dL_law_445 (okW_sound l) cls_X9 wd_510 wd_511 wd_512 wd_17 wd_513 ⟨by decide, by decide, by decide +kernel⟩ ⟨by decide, by decide⟩ (s_iload C dL_law_448 (s_aload C dL_law_450 (s_bipush C dL_law_452 rfl ⟨by decide, by decide⟩ (s_iald C dL_law_454 (s_icge C dL_law_455 (by decide) (s_ldc C dL_law_466 (v := -1000000) wd_687 ⟨by decide, by decide⟩ (s_iceq C dL_law_468 (by decide) (s_iinc C dL_law_473 (by decide) rfl (s_goto C dL_law_476 (by decide) (hX 430))) (s_iconst C dL_law_471 rfl ⟨by decide, by decide⟩ (hX 472)))) (s_aload C dL_law_458 (s_iload C dL_law_460 (s_iald C dL_law_462 (s_goto C dL_law_463 (by decide) (s_iceq C dL_law_468 (by decide) (s_iinc C dL_law_473 (by decide) rfl (s_goto C dL_law_476 (by decide) (hX 430))) (s_iconst C dL_law_471 rfl ⟨by decide, by decide⟩ (hX 472)))))))))))))))))))))
