set_option maxRecDepth 100000 in
theorem yz_cl : Cond.classLink RL 12 RX9 ∈ z_tbl := z_mem 33 _ (by decide +kernel)
set_option maxRecDepth 100000 in
theorem yz_is : Cond.instantiable RX9 13 ∈ z_tbl := z_mem 34 _ (by decide +kernel)
set_option maxRecDepth 100000 in
theorem yz_ml : Cond.methodLink RL 97 yX9_init ∈ z_tbl := z_mem 35 _ (by decide +kernel)
set_option maxRecDepth 100000 in
theorem yz_im : Cond.instanceMethod yX9_init ∈ z_tbl := z_mem 36 _ (by decide +kernel)
set_option maxRecDepth 100000 in
theorem yz_cd : Cond.code yX9_init cX9_init 1 none ∈ z_tbl := z_mem 37 _ (by decide +kernel)
set_option maxRecDepth 100000 in
theorem yz_in : Cond.initialized RX9 ∈ z_tbl := z_mem 17 _ (by decide +kernel)
set_option maxRecDepth 100000 in
theorem yz_ac : Cond.arrayClass .int ∈ z_tbl := z_mem 93 _ (by decide +kernel)
/-! THE CLAIM OUT OF ONE WALK OF THE LAW'S BODY. Your part is whole_start (and what it stands on); all else here is the same for every law, but numbers. -/
def R_law : String := "WindHarpLaw"
def lw_P (b : Addr) (xs : List Int32) (args : Array Value) (s : State) : Prop := args = #[.ref b] ∧ s.IntsAt b xs ∧ xs.length ≤ 260 ∧ (Jvm.Cond.and given_1 narrow_1).before args s = true
def lw_Q (_ : Array Value) (s : State) (o : Outcome) (t : State) : Prop := o = .returned (some (.int 1)) ∧ Framed s o t [] 600000 7302250
def lw_Z (below : List Frame) (a : Array Value) (s : State) : State → Prop := fun t => ∃ o, t.status = .running ∧ Ended t below o ∧ lw_Q a s o t
/-- the law's own end, with 1 on the stack, nothing written that was there before, its room as the claim has it -/
theorem lw_ret {p : Program} {l : Launch} {e : Env} {s : State} {m : MethodId} {below : List Frame} {meth : Method} {c : Code} {b : Nat} (hx : p.tables.exec = Jvm.exec) (hb : c.code = code) (hr : meth.sig.returnType = ret) (hlocks : meth.locks = false) {pc : Nat} {H : Heap} {ls : Array Slot} (hdg : decode code pc = .ok (.ireturn, 1)) : W p l e room_1 s m #[Value.ref b] below meth c H [] 600000 7302250 (lw_Z below #[Value.ref b] s) (F0 m pc ls [.int 1]) := by
  intro T hT X
  obtain ⟨fs, hret, hrun, hended, hW, hframe⟩ := X.leave (v := some (.int 1)) (hlocks := hlocks) (fun h => by rw [hr] at h; cases h)
  have hmeth' : T.vm.method? m = some meth := X.method'
  refine ⟨T.setFrames fs, ?_, .returned (some (.int 1)), hrun, hended, rfl, ⟨_, rfl⟩, hW, hframe⟩
  jvm_step X.here [X.here.top, hx, hb, hdg, hmeth', hr, ret, narrow_b1]
  (try refine ⟨rfl, ?_⟩); (try refine ⟨rfl, ?_⟩)
  first | (intro acts; rw [hret _ acts rfl rfl rfl]) | rw [hret _ _ rfl rfl rfl]
  exact Steps.refl _
/-- what holds at the law's entry: the machine, the code, the tables' words (any of lw_tbl by 'hts w (by decide +kernel)'), the script of L ints xs at the cell b, what the Statement gives of the start (any of its parts by flat_of_before) -/
def lw_At (p : Program) (s : State) (m : MethodId) (meth : Method) (c : Code) (b L : Nat) (xs : Nat → Int32) : Prop :=
  p.tables.exec = Jvm.exec ∧ c.code = code ∧ meth.sig.returnType = ret ∧ c.maxLocals = 11 ∧ s.vm.findClass R_law = some m.cls ∧ (∀ w ∈ lw_tbl, w.before #[Value.ref b] s = true) ∧ va_X b L xs s s.heap ∧ b < s.heap.size ∧ meth.locks = false ∧ (Jvm.Cond.and given_1 narrow_1).before #[Value.ref b] s = true
set_option maxHeartbeats 4000000 in
set_option maxRecDepth 100000 in
/-- from the entry, for every script of at most 260 ints, the law comes to its end with true ('hflags': the launch's flags, for a law that throws: no stack traces) -/
theorem whole_start {p : Program} {e : Env} {s : State} {m : MethodId} {below : List Frame} {meth : Method} {c : Code} (l : Launch) (hflags : l.flags = flags0) {b L : Nat} {xs : Nat → Int32} (hL : L ≤ 260) (C0 : lw_At p s m meth c b L xs) : W p l e room_1 s m #[Value.ref b] below meth c s.heap [] 0 0 (lw_Z below #[Value.ref b] s) (entryFrame m ([Value.ref b] : List Value).toArray 11) := by
  obtain ⟨hx, hb, hr, hml, hown, hts, hX, hbl, hlocks, hgv⟩ := C0
  have htz : ∀ w ∈ z_tbl, w.before #[Value.ref b] s = true := fun w hw => hts w (List.mem_filter.mp hw).1
  obtain ⟨D, cA, hK⟩ := x_K htz
  obtain ⟨ad, had, hb1, hE⟩ := x_St hX hbl hL hts hgv
  have hN : y_N s := fun q hq => va_Nw.of rfl (hts _ (x_m8 q hq))
  have hA : ∀ q, s.heap.size + 0 ≤ q → x_A s q := fun q h => by show s.heap.size ≤ q; omega
  have hS : va_S (x_A s) s.heap s.heap [] := va_S.rf
  have hP : y_P D s.heap.size 0 0 (y_E cA s.heap.size) s.heap := ⟨rfl, fun i _ h => absurd h (Nat.not_lt_zero i)⟩
  have hl := lv_entry ([.ref b]) (n := 11) (Nat.le_of_ble_eq_true rfl)
  rw [lg_entry_eq]
  generalize (lg_sl ([.ref b]) ++ List.replicate (11 - (lg_sl ([.ref b])).length) Slot.unset).toArray = ls at hl ⊢
  have hl : lv_has ls 11 [(0, .ref b)] := hl
  refine y_nw (C := RX9) (T := TX9) (N := 13) (ci := 9) (ty := tyX9) hx hb htz cls_X9 tyX9_ok fr_X9 hown yz_cl yz_is yz_in hK hP hS (Nat.le_of_ble_eq_true rfl) (Nat.le_of_ble_eq_true rfl) dL_law_0 (fun H hP hS => ?_)
  refine W.widen (k := 1) (n := 13) (by omega) (by omega) ?_
  refine lv_dup hx hb dL_law_3 rfl ?_
  refine y_cp (ok := okX9) (k := 0) (c_X9_init l) rfl ⟨hx, hb, hml, hown, htz⟩ hP hS hA (Nat.le_refl 0) (if_pos rfl) hK hN yz_ml yz_in yz_cd yz_im rfl ⟨by decide, by decide, by decide +kernel⟩ ⟨Nat.le_of_ble_eq_true rfl, Nat.le_of_ble_eq_true rfl⟩ hl.1 (Nat.le_of_ble_eq_true rfl) ⟨Nat.le_of_ble_eq_true rfl, Nat.le_of_ble_eq_true rfl⟩ dL_law_4 (fun H locs hP hS => ?_)
  refine W.widen (k := 89) (n := 2254) (by omega) (by omega) ?_
  refine lv_astore_n (lv' := [(1, .ref (s.heap.size + 0)), (0, .ref b)]) hx hb dL_law_7 rfl hl (by decide) rfl (fun ls hl => ?_)
  have hP2 : va_P D vwCl (z_W 0 cA ad q_s0) H := x_P had hP (fun i hi => if_pos (Nat.zero_le i))
  have hl2 : lv_has ls 11 (z_asc ad 0 [some (.inr (.inr (252, 0, 1400))), some (.inr (.inr (9, 0, 0))), none, none, none, none, none, none, none, none, none]) := by
    have h := lv_sub hl (l' := [(0, .ref b), (1, .ref (s.heap.size + 0))]) [1, 0] rfl
    have e : z_asc ad 0 [some (.inr (.inr (252, 0, 1400))), some (.inr (.inr (9, 0, 0))), none, none, none, none, none, none, none, none, none] = [(0, .ref (ad 1400)), (1, .ref (ad 0))] := rfl
    rw [e, hb1, had 0 (by decide)]
    exact h
  have C : x_Cx p s m #[Value.ref b] c D cA := ⟨hx, hb, hml, hown, htz, hK⟩
  have G : x_G (L, xs) s 0 0 ad 89 2254 := by
    refine ⟨fun i j hi hj h => ?_, ?_, ⟨Nat.le_refl _, Nat.le_refl _⟩, hE⟩
    · unfold z_here at hi hj
      rw [had i (by omega), had j (by omega)] at h
      omega
    · rintro q ⟨k, hk, rfl⟩
      unfold z_here at hk
      rw [had k (by omega)]
      show s.heap.size ≤ _
      omega
  have h577 : ∀ N, N ≤ 106 → ∀ (L1 : zL) (σ : zM), x_Y (L, xs) p l e s m #[Value.ref b] below meth c (lw_Z below #[Value.ref b] s) D cA (fun z => z = 2 ∨ z = 3) N 577 L1 [.inl 1] σ := by
    intro N hN6 L1 σ zn ad cl sl hSn hG hn hL1 hst hσ H locs ls hP hS hl
    have hc := hG.2.2.1
    refine W.widen (k := 600000) (n := 7302250) (by omega) (by omega) ?_
    exact va_forget (fun q hq => hS.2.2 q hq) (lw_ret hx hb hr hlocks dL_law_577)
  have r := x_begin (zx := (L, xs)) (Y0 := x_Y (L, xs) p l e s m #[Value.ref b] below meth c (lw_Z below #[Value.ref b] s) D cA (fun z => z = 0) 0) (Y1 := x_Y (L, xs) p l e s m #[Value.ref b] below meth c (lw_Z below #[Value.ref b] s) D cA (fun z => z = 1) 1) (Z := x_Y (L, xs) p l e s m #[Value.ref b] below meth c (lw_Z below #[Value.ref b] s) D cA (fun z => z = 2 ∨ z = 3) 2)
    (x_r8 C (by omega)) (x_r22 C (by omega)) (x_r27 C (by omega))
    (fun L1 σ hL1 h => x_new (S' := fun z => z = 1) (k := 108) (by omega) (fun zn hz => Or.inl hz) rfl C (by omega) yz_ac dL_law_20 hL1 h)
    (fun L1 σ hL1 h => x_new (S' := fun z => z = 2 ∨ z = 3) (k := 109) (by omega) (fun zn hz => Or.inl hz) (Or.inl rfl) C (by omega) yz_ac dL_law_25 hL1 h)
    (fun σ D' O' I h3 => x_main (zx := (L, xs)) (Z := fun N => x_Y (L, xs) p l e s m #[Value.ref b] below meth c (lw_Z below #[Value.ref b] s) D cA (fun z => z = 2 ∨ z = 3) N) (fun N pc A B st σ g h => x_weak g h) (fun N hN6 L1 σ hL1 h => x_new (S' := fun z => z = 2 ∨ z = 3) (k := 110) (by omega) (fun zn hz => hz) (Or.inr rfl) C hN6 yz_ac dL_law_414 hL1 h)
      (fun N h => x_r42 C h) (fun N h => x_r89 C h) (fun N h => x_r137 C h) (fun N h => x_r155 C h) (fun N h => x_r195 C h) (fun N h => x_r216 C h) (fun N h => x_r245 C h) (fun N h => x_r278 C h) (fun N h => x_r329 C h) (fun N h => x_r339 C h) (fun N h => x_r403 C h) (fun N h => x_r416 C h) (fun N h => x_r430 C h) h577 26 0 2 σ D' O' none none none none none rfl (by omega) I (by omega))
  refine r 0 ad 89 2254 rfl G rfl (fun v hv => ?_) (fun _ h => by cases h) q_s0_okm H locs ls hP2 hS hl2
  simp only [List.mem_cons, Option.some.injEq, reduceCtorEq, List.not_mem_nil, or_false] at hv
  rcases hv with rfl | rfl
  · exact ⟨⟨rfl, fun _ h => by omega⟩, fun _ x => by rintro ⟨⟩⟩
  · exact ⟨⟨rfl, fun h _ => by omega⟩, fun _ x => by rintro ⟨⟩⟩
set_option maxHeartbeats 4000000 in
theorem lw_walk (l : Launch) (hflags : l.flags = flags0) (b : Addr) (xs : List Int32) : MetFree l x (headSpec (Jvm.Cond.code x code maxLocals ret :: tables_1) room_1) (lw_P b xs) (fun _ _ _ _ _ => True) lw_Q := by
  refine MetFree.of_bodyS (code := code) (maxLocals := maxLocals) (ret := ret) (by decide) ?_ ?_
  · intro args s m h hn
    obtain ⟨meth, c, h1, h2, h3, h4, h5, h6, -, -⟩ := Cond.code_spec hn (atoms_spec (ws := Jvm.Cond.code x code maxLocals ret :: tables_1) h _ List.mem_cons_self)
    exact ⟨meth, c, h1, h2, h3, h4, h5, h6⟩
  · intro p e s m args below meth c s₁ B hml0 hP _
    obtain ⟨rfl, hx, hbd, hgv⟩ := hP
    obtain ⟨scr, harrAt, hlist, hof, hsmall⟩ := hx
    obtain ⟨hcb, hkn, -, -⟩ := State.arrayAt?_spec harrAt
    have hown : s.vm.findClass R_law = some m.cls := findClass_of_methodNamed B.named
    have hts0 : ∀ c ∈ (Jvm.Cond.code x code maxLocals ret :: tables_1), c.before #[Value.ref b] s = true := atoms_spec (ws := Jvm.Cond.code x code maxLocals ret :: tables_1) B.pre
    have hts : ∀ w ∈ lw_tbl, w.before #[Value.ref b] s = true := k2_hts_sels lw_privs (fun w hw => hts0 w (List.mem_cons_of_mem _ hw)) lw_privs_ok
    have hml : c.maxLocals = 11 := B.maxLocals_eq (hts0 _ List.mem_cons_self)
    have X₀ : Stand p l e room_1 s m #[Value.ref b] below meth c s₁ [] 0 0 := Stand.of_body B
    have hh0 : s₁.heap = s.heap := by rw [B.state]; rfl
    have hsz : scr.slots.size = xs.length := by rw [← Array.length_toList, hlist, List.length_map]
    have hval : ∀ j : Nat, j < xs.length → scr.slots[j]? = some (.int (xs.getD j 0)) := fun j hj => by
      rw [← Array.getElem?_toList, hlist]
      simp [hj]
    have hbl : b < s.heap.size := (Array.getElem?_eq_some_iff.mp hcb).1
    have hX : va_X b xs.length (fun j => xs.getD j 0) s s.heap := ⟨scr, hcb, hof, hkn, hsz, hval⟩
    have K : W p l e room_1 s m #[Value.ref b] below meth c s₁.heap [] 0 0 (lw_Z below #[Value.ref b] s) (entryFrame m ([Value.ref b] : List Value).toArray 11) := by
      rw [hh0]
      exact whole_start l hflags hbd ⟨B.exec, B.bytes, B.returns, hml, hown, hts, hX, hbl, B.notSynchronized, hgv⟩
    obtain ⟨t, a1, o, b1, b2, b3⟩ := K s₁ rfl X₀
    exact ⟨t, o, a1, b1, b2, b3⟩
theorem lw_pre_spec {args : Array Value} {s : State} (h : (Jvm.Cond.and given_1 narrow_1).before args s = true) (hr : rest_1_c.before args s = true) : ∃ (b : Addr) (xs : List Int32), lw_P b xs args s := by
  have hs := flat_of_before _ h
  have hq := flat_of_before _ hr
  have hc : (Cond.count 1).before args s = true := hs _ (by decide +kernel)
  have harr : (Cond.arrayOf (.arg 0) .int).before args s = true := hs _ (by decide +kernel)
  have hle : (Cond.le (.length (.arg 0)) (.int 260)).before args s = true := hs _ (by decide +kernel)
  have hlen : (Cond.isInt (.length (.arg 0))).before args s = true := hq _ (by decide +kernel)
  have hall : (Cond.all (.arg 0) (.isInt (.elem (.arg 0) (.index 0)))).before args s = true := hq _ (by decide +kernel)
  obtain ⟨b, xs, hb, hx⟩ := State.ints_of_pre rfl harr hlen hall
  have hsm : xs.length < 2 ^ 31 := hx.choose_spec.2.2.2
  have hev : (Term.length (.arg 0)).eval args s none [] s = some (.int xs.length.toInt32) := hx.length_eval hb
  have hv := Cond.le_ints hev (show (Term.int 260).eval args s none [] s = some (.int 260) from rfl)
  have hd : xs.length.toInt32 ≤ 260 := by
    simpa [Cond.before, Cond.holds, hv] using hle
  have hN : xs.length ≤ 260 := (Int32.ofNat_le_ofNat hsm (by decide)).mp (show Int32.ofNat xs.length ≤ Int32.ofNat 260 from hd)
  exact ⟨b, xs, Cond.one_arg hc (show args[0]? = some (.ref b) from hb), hx, hN, h⟩
theorem lw_comes (l : Launch) (hflags : l.flags = flags0) : Comes l x (Jvm.Cond.code x code maxLocals ret :: tables_1) room_1 (fun tb e args s => Calls_1 tb e args s ∧ rest_1 tb e args s ∧ Pre_1 tb e args s)
    (fun _ _ args s o t => lw_Q args s o t) := by
  intro p e ha hc hk s m args below hf hfit hheap happ hpre
  obtain ⟨b, xs, hP⟩ := lw_pre_spec hpre.2.2 hpre.2.1
  obtain ⟨k, o, h1, h2, h3, hQ⟩ := lw_walk l hflags b xs p e ha hc hk s m args below hf ((Spec.applies_iff_loose hf).mp happ).1 hP trivial
  exact ⟨k, o, h1, h2, h3, hQ⟩
theorem lw_frame {s t : State} {o : Outcome} {args : Array Value} (h : Framed s o t [] 600000 7302250) :
    Framed s o t (fieldLocs frame_1_writes args s ++ arrayLocs frame_1_arrays args s ++ staticLocs frame_1_statics s) 600000 7302250 := h
theorem lw_limb (L : Cond) (hL : ∀ (args : Array Value) (s t : State), L.after args s (.returned (some (.int 1))) t = true) :
    ArmFor flags0 classFile x code maxLocals ret World_1 tables_1 room_1 Calls_1 rest_1 Pre_1
      (fun tb e a s o t => postC L tb e a s o t ∧ Framed s o t (fieldLocs frame_1_writes a s ++ arrayLocs frame_1_arrays a s ++ staticLocs frame_1_statics s) 600000 7302250) := by
  intro l hflags _ _ p e ha hc hk s m args below hf hfit hheap happ hpre
  obtain ⟨k, o, h1, h2, h3, rfl, hF⟩ := lw_comes l hflags p e ha hc hk s m args below hf hfit hheap happ hpre
  exact ⟨k, _, h1, h2, h3, hL args s _, lw_frame hF⟩
theorem i_vc : Claimed_1_1 ∧ Claimed_1_2 := ⟨lw_limb limb_1_1 (fun args s t => by simp [limb_1_1, Cond.after, Cond.holds, Cond.value]), lw_limb limb_1_2 (fun args s t => Cond.after_iff.mpr (by
  first | (rw [show limb_1_2 = Cond.eq .result (.int 1) from rfl, Cond.eq_ints (x := 1) (y := 1) rfl rfl]; simp; done) | (simp [limb_1_2, Cond.value, Term.eval]; done)))⟩
