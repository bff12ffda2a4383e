section ZI
variable {zx : zX} {zn : Nat} {zA : Nat → Prop} {cl sl : Nat} {p : Program} {l : Launch} {e : Env} {R : Room} {s : State} {m : MethodId} {args : Array Value} {below : List Frame} {meth : Method} {c : Code} {Q : State → Prop} {cc : ByteArray} {own : String} {nL : Nat} {D : va_G} {cA : Nat → ClassId} {ad : Nat → Nat} {fl : Bool}
def z_push (v : Int) (B : zB) (L : zL) (st : List zV) (σ : zM) : Prop := B L (.inl v :: st) σ
def z_lpush (v : Int) (B : zB) (L : zL) (st : List zV) (σ : zM) : Prop := B L (.inr (.inl v) :: st) σ
theorem s_iconst (C : z_Cx zx zn zA cl sl p R s m args c cc own nL D cA ad) {pc : Nat} {n v : Int} (d : decode cc pc = .ok (.iconst n, 1)) (hv : Int32.ofInt n = Int32.ofInt v) (hr : z_in v) {B : zB} (hB : ∀ L st σ, B L st σ → z_X zx zn zA cl sl p l e R s m args below meth c Q nL D cA ad fl (pc + 1) L st σ) : ∀ L st σ, z_push v B L st σ → z_X zx zn zA cl sl p l e R s m args below meth c Q nL D cA ad fl pc L st σ := by
  intro L st σ h hn hL hst hσ H locs ls hP hS hl
  obtain ⟨hx, hb, hml, hown, hts, hK, hi, hAz, hcs, hE⟩ := C
  exact lv_iconst hx hb d hv (hB _ _ _ h hn hL (z_oks_cons hr hst) hσ H locs ls hP hS hl)
theorem s_bipush (C : z_Cx zx zn zA cl sl p R s m args c cc own nL D cA ad) {pc : Nat} {n v : Int} (d : decode cc pc = .ok (.bipush n, 2)) (hv : (Int8.ofInt n).toInt32 = Int32.ofInt v) (hr : z_in v) {B : zB} (hB : ∀ L st σ, B L st σ → z_X zx zn zA cl sl p l e R s m args below meth c Q nL D cA ad fl (pc + 2) L st σ) : ∀ L st σ, z_push v B L st σ → z_X zx zn zA cl sl p l e R s m args below meth c Q nL D cA ad fl pc L st σ := by
  intro L st σ h hn hL hst hσ H locs ls hP hS hl
  obtain ⟨hx, hb, hml, hown, hts, hK, hi, hAz, hcs, hE⟩ := C
  exact lv_bipush hx hb d hv (hB _ _ _ h hn hL (z_oks_cons hr hst) hσ H locs ls hP hS hl)
theorem s_sipush (C : z_Cx zx zn zA cl sl p R s m args c cc own nL D cA ad) {pc : Nat} {n v : Int} (d : decode cc pc = .ok (.sipush n, 3)) (hv : (Int16.ofInt n).toInt32 = Int32.ofInt v) (hr : z_in v) {B : zB} (hB : ∀ L st σ, B L st σ → z_X zx zn zA cl sl p l e R s m args below meth c Q nL D cA ad fl (pc + 3) L st σ) : ∀ L st σ, z_push v B L st σ → z_X zx zn zA cl sl p l e R s m args below meth c Q nL D cA ad fl pc L st σ := by
  intro L st σ h hn hL hst hσ H locs ls hP hS hl
  obtain ⟨hx, hb, hml, hown, hts, hK, hi, hAz, hcs, hE⟩ := C
  exact lv_sipush hx hb d hv (hB _ _ _ h hn hL (z_oks_cons hr hst) hσ H locs ls hP hS hl)
theorem s_ldc (C : z_Cx zx zn zA cl sl p R s m args c cc own nL D cA ad) {pc ix : Nat} {v : Int} (d : decode cc pc = .ok (.ldc ix, 2)) (hc : Cond.constant own ix (Int32.ofInt v) ∈ z_tbl) (hr : z_in v) {B : zB} (hB : ∀ L st σ, B L st σ → z_X zx zn zA cl sl p l e R s m args below meth c Q nL D cA ad fl (pc + 2) L st σ) : ∀ L st σ, z_push v B L st σ → z_X zx zn zA cl sl p l e R s m args below meth c Q nL D cA ad fl pc L st σ := by
  intro L st σ h hn hL hst hσ H locs ls hP hS hl
  obtain ⟨hx, hb, hml, hown, hts, hK, hi, hAz, hcs, hE⟩ := C
  exact lv_ldc hx hb hown (hts _ hc) d (hB _ _ _ h hn hL (z_oks_cons hr hst) hσ H locs ls hP hS hl)
theorem s_ldcw (C : z_Cx zx zn zA cl sl p R s m args c cc own nL D cA ad) {pc ix : Nat} {v : Int} (d : decode cc pc = .ok (.ldc_w ix, 3)) (hc : Cond.constant own ix (Int32.ofInt v) ∈ z_tbl) (hr : z_in v) {B : zB} (hB : ∀ L st σ, B L st σ → z_X zx zn zA cl sl p l e R s m args below meth c Q nL D cA ad fl (pc + 3) L st σ) : ∀ L st σ, z_push v B L st σ → z_X zx zn zA cl sl p l e R s m args below meth c Q nL D cA ad fl pc L st σ := by
  intro L st σ h hn hL hst hσ H locs ls hP hS hl
  obtain ⟨hx, hb, hml, hown, hts, hK, hi, hAz, hcs, hE⟩ := C
  exact lv_ldcw hx hb hown (hts _ hc) d (hB _ _ _ h hn hL (z_oks_cons hr hst) hσ H locs ls hP hS hl)
theorem s_ldc2 (C : z_Cx zx zn zA cl sl p R s m args c cc own nL D cA ad) {pc ix : Nat} {v : Int} (d : decode cc pc = .ok (.ldc2_w ix, 3)) (hc : Cond.constantLong own ix (Int64.ofInt v) ∈ z_tbl) (hr : z_inL v) {B : zB} (hB : ∀ L st σ, B L st σ → z_X zx zn zA cl sl p l e R s m args below meth c Q nL D cA ad fl (pc + 3) L st σ) : ∀ L st σ, z_lpush v B L st σ → z_X zx zn zA cl sl p l e R s m args below meth c Q nL D cA ad fl pc L st σ := by
  intro L st σ h hn hL hst hσ H locs ls hP hS hl
  obtain ⟨hx, hb, hml, hown, hts, hK, hi, hAz, hcs, hE⟩ := C
  exact lv_ldc2 hx hb hown (hts _ hc) d (hB _ _ _ h hn hL (z_oks_cons hr hst) hσ H locs ls hP hS hl)
theorem s_lconst (C : z_Cx zx zn zA cl sl p R s m args c cc own nL D cA ad) {pc : Nat} {n : Fin 2} {v : Int} (d : decode cc pc = .ok (.lconst n, 1)) (hv : Int64.ofNat (n : Nat) = Int64.ofInt v) (hr : z_inL v) {B : zB} (hB : ∀ L st σ, B L st σ → z_X zx zn zA cl sl p l e R s m args below meth c Q nL D cA ad fl (pc + 1) L st σ) : ∀ L st σ, z_lpush v B L st σ → z_X zx zn zA cl sl p l e R s m args below meth c Q nL D cA ad fl pc L st σ := by
  intro L st σ h hn hL hst hσ H locs ls hP hS hl
  obtain ⟨hx, hb, hml, hown, hts, hK, hi, hAz, hcs, hE⟩ := C
  exact lv_lconst hx hb d hv (hB _ _ _ h hn hL (z_oks_cons hr hst) hσ H locs ls hP hS hl)
def z_iload (i : Nat) (B : zB) (L : zL) (st : List zV) (σ : zM) : Prop := match z_get L i with
  | some (.inl x) => B L (.inl x :: st) σ
  | _ => False
def z_lload (i : Nat) (B : zB) (L : zL) (st : List zV) (σ : zM) : Prop := match z_get L i with
  | some (.inr (.inl x)) => B L (.inr (.inl x) :: st) σ
  | _ => False
def z_aload (i : Nat) (B : zB) (L : zL) (st : List zV) (σ : zM) : Prop := match z_get L i with
  | some (.inr (.inr q)) => B L (.inr (.inr q) :: st) σ
  | _ => False
theorem s_iload (C : z_Cx zx zn zA cl sl p R s m args c cc own nL D cA ad) {pc i : Nat} (d : decode cc pc = .ok (.iload i, 2)) {B : zB} (hB : ∀ L st σ, B L st σ → z_X zx zn zA cl sl p l e R s m args below meth c Q nL D cA ad fl (pc + 2) L st σ) : ∀ L st σ, z_iload i B L st σ → z_X zx zn zA cl sl p l e R s m args below meth c Q nL D cA ad fl pc L st σ := by
  intro L st σ h hn hL hst hσ H locs ls hP hS hl
  obtain ⟨hx, hb, hml, hown, hts, hK, hi, hAz, hcs, hE⟩ := C
  unfold z_iload at h
  cases hg : z_get L i with
  | none => rw [hg] at h; exact h.elim
  | some v =>
    have hv := (hL v (z_get_mem _ _ _ hg)).1
    rw [hg] at h
    rcases v with x | x | ⟨c0, n0, k0⟩
    · exact lv_iload hx hb d (z_asc0 hl hg) (hB _ _ _ h hn hL (z_oks_cons hv hst) hσ H locs ls hP hS hl)
    · exact h.elim
    · exact h.elim
theorem s_iload_n (C : z_Cx zx zn zA cl sl p R s m args c cc own nL D cA ad) {pc i : Nat} {kk : Fin 4} (d : decode cc pc = .ok (.iload_n kk, 1)) (hk : (kk : Nat) = i) {B : zB} (hB : ∀ L st σ, B L st σ → z_X zx zn zA cl sl p l e R s m args below meth c Q nL D cA ad fl (pc + 1) L st σ) : ∀ L st σ, z_iload i B L st σ → z_X zx zn zA cl sl p l e R s m args below meth c Q nL D cA ad fl pc L st σ := by
  intro L st σ h hn hL hst hσ H locs ls hP hS hl
  obtain ⟨hx, hb, hml, hown, hts, hK, hi, hAz, hcs, hE⟩ := C
  unfold z_iload at h
  cases hg : z_get L i with
  | none => rw [hg] at h; exact h.elim
  | some v =>
    have hv := (hL v (z_get_mem _ _ _ hg)).1
    rw [hg] at h
    rcases v with x | x | ⟨c0, n0, k0⟩
    · exact lv_iload_n hx hb d hk (z_asc0 hl hg) (hB _ _ _ h hn hL (z_oks_cons hv hst) hσ H locs ls hP hS hl)
    · exact h.elim
    · exact h.elim
theorem s_lload (C : z_Cx zx zn zA cl sl p R s m args c cc own nL D cA ad) {pc i : Nat} (d : decode cc pc = .ok (.lload i, 2)) {B : zB} (hB : ∀ L st σ, B L st σ → z_X zx zn zA cl sl p l e R s m args below meth c Q nL D cA ad fl (pc + 2) L st σ) : ∀ L st σ, z_lload i B L st σ → z_X zx zn zA cl sl p l e R s m args below meth c Q nL D cA ad fl pc L st σ := by
  intro L st σ h hn hL hst hσ H locs ls hP hS hl
  obtain ⟨hx, hb, hml, hown, hts, hK, hi, hAz, hcs, hE⟩ := C
  unfold z_lload at h
  cases hg : z_get L i with
  | none => rw [hg] at h; exact h.elim
  | some v =>
    have hv := (hL v (z_get_mem _ _ _ hg)).1
    rw [hg] at h
    rcases v with x | x | ⟨c0, n0, k0⟩
    · exact h.elim
    · exact lv_lload hx hb d (z_asc0 hl hg) (hB _ _ _ h hn hL (z_oks_cons hv hst) hσ H locs ls hP hS hl)
    · exact h.elim
theorem s_lload_n (C : z_Cx zx zn zA cl sl p R s m args c cc own nL D cA ad) {pc i : Nat} {kk : Fin 4} (d : decode cc pc = .ok (.lload_n kk, 1)) (hk : (kk : Nat) = i) {B : zB} (hB : ∀ L st σ, B L st σ → z_X zx zn zA cl sl p l e R s m args below meth c Q nL D cA ad fl (pc + 1) L st σ) : ∀ L st σ, z_lload i B L st σ → z_X zx zn zA cl sl p l e R s m args below meth c Q nL D cA ad fl pc L st σ := by
  intro L st σ h hn hL hst hσ H locs ls hP hS hl
  obtain ⟨hx, hb, hml, hown, hts, hK, hi, hAz, hcs, hE⟩ := C
  unfold z_lload at h
  cases hg : z_get L i with
  | none => rw [hg] at h; exact h.elim
  | some v =>
    have hv := (hL v (z_get_mem _ _ _ hg)).1
    rw [hg] at h
    rcases v with x | x | ⟨c0, n0, k0⟩
    · exact h.elim
    · exact lv_lload_n hx hb d hk (z_asc0 hl hg) (hB _ _ _ h hn hL (z_oks_cons hv hst) hσ H locs ls hP hS hl)
    · exact h.elim
theorem s_aload_n (C : z_Cx zx zn zA cl sl p R s m args c cc own nL D cA ad) {pc i : Nat} {kk : Fin 4} (d : decode cc pc = .ok (.aload_n kk, 1)) (hk : (kk : Nat) = i) {B : zB} (hB : ∀ L st σ, B L st σ → z_X zx zn zA cl sl p l e R s m args below meth c Q nL D cA ad fl (pc + 1) L st σ) : ∀ L st σ, z_aload i B L st σ → z_X zx zn zA cl sl p l e R s m args below meth c Q nL D cA ad fl pc L st σ := by
  intro L st σ h hn hL hst hσ H locs ls hP hS hl
  obtain ⟨hx, hb, hml, hown, hts, hK, hi, hAz, hcs, hE⟩ := C
  unfold z_aload at h
  cases hg : z_get L i with
  | none => rw [hg] at h; exact h.elim
  | some v =>
    have hv := (hL v (z_get_mem _ _ _ hg)).1
    rw [hg] at h
    rcases v with x | x | ⟨c0, n0, k0⟩
    · exact h.elim
    · exact h.elim
    · have hq := z_asc0 hl hg
      have hw := hB _ _ _ h hn hL (z_oks_cons hv hst) hσ H locs ls hP hS hl
      simp only [List.map_cons, z_val] at hq hw ⊢
      by_cases h5 : c0 = 250
      · rw [if_pos h5] at hq hw
        exact lv_aload_nN hx hb d hk hq hw
      · rw [if_neg h5] at hq hw
        exact lv_aload_n hx hb d hk hq hw
def z_okp (L : zL) (i : Nat) : Prop := ∀ j x, i = j + 1 → z_get L j ≠ some (.inr (.inl x))
theorem z_okp_fl {L : zL} {i : Nat} (h : z_okl zn true L) : z_okp L i := fun j x _ e => (h _ (z_get_mem _ _ _ e)).2 rfl x rfl
def z_istore (i : Nat) (B : zB) (L : zL) (st : List zV) (σ : zM) : Prop := match st with
  | .inl x :: st => B (z_set L i (some (.inl x))) st σ
  | _ => False
def z_istoreP (i : Nat) (B : zB) (L : zL) (st : List zV) (σ : zM) : Prop := match st with
  | .inl x :: st => z_okp L i ∧ B (z_set L i (some (.inl x))) st σ
  | _ => False
def z_lstore (i : Nat) (B : zB) (L : zL) (st : List zV) (σ : zM) : Prop := match st with
  | .inr (.inl x) :: st => z_okp L i ∧ B (z_set (z_set L (i + 1) none) i (some (.inr (.inl x)))) st σ
  | _ => False
def z_astore (i : Nat) (B : zB) (L : zL) (st : List zV) (σ : zM) : Prop := match st with
  | .inr (.inr (c, n, k)) :: st => ¬ c = 250 ∧ B (z_set L i (some (.inr (.inr (c, n, k))))) st σ
  | _ => False
theorem s_istore (C : z_Cx zx zn zA cl sl p R s m args c cc own nL D cA ad) {pc i : Nat} (d : decode cc pc = .ok (.istore i, 2)) (hi9 : i < nL) (hf : fl = true) {B : zB} (hB : ∀ L st σ, B L st σ → z_X zx zn zA cl sl p l e R s m args below meth c Q nL D cA ad fl (pc + 2) L st σ) : ∀ L st σ, z_istore i B L st σ → z_X zx zn zA cl sl p l e R s m args below meth c Q nL D cA ad fl pc L st σ := by
  intro L st σ h hn hL hst hσ H locs ls hP hS hl
  obtain ⟨hx, hb, hml, hown, hts, hK, hi, hAz, hcs, hE⟩ := C
  rcases st with _ | ⟨v, st⟩
  · exact h.elim
  rcases v with x | x | ⟨c0, n0, k0⟩
  · have hv := z_oks_hd hst
    have ht := z_oks_tl hst
    exact lv_istore (lv := z_asc ad 0 L) hx hb d hl hi9 rfl (fun ls' hl' => hB _ _ _ h ((z_set_len _ _ _).trans hn) (z_okl_set hL i hv (fun _ x e => by cases e)) ht hσ H locs ls' hP hS (z_st1 (v := .inl x) (z_okp_fl (hf ▸ hL)) hl'))
  · exact h.elim
  · exact h.elim
theorem s_istore_n (C : z_Cx zx zn zA cl sl p R s m args c cc own nL D cA ad) {pc i : Nat} {kk : Fin 4} (d : decode cc pc = .ok (.istore_n kk, 1)) (hi9 : i < nL) (hk : (kk : Nat) = i) (hf : fl = true) {B : zB} (hB : ∀ L st σ, B L st σ → z_X zx zn zA cl sl p l e R s m args below meth c Q nL D cA ad fl (pc + 1) L st σ) : ∀ L st σ, z_istore i B L st σ → z_X zx zn zA cl sl p l e R s m args below meth c Q nL D cA ad fl pc L st σ := by
  intro L st σ h hn hL hst hσ H locs ls hP hS hl
  obtain ⟨hx, hb, hml, hown, hts, hK, hi, hAz, hcs, hE⟩ := C
  rcases st with _ | ⟨v, st⟩
  · exact h.elim
  rcases v with x | x | ⟨c0, n0, k0⟩
  · have hv := z_oks_hd hst
    have ht := z_oks_tl hst
    exact lv_istore_n (lv := z_asc ad 0 L) hx hb d hk hl hi9 rfl (fun ls' hl' => hB _ _ _ h ((z_set_len _ _ _).trans hn) (z_okl_set hL i hv (fun _ x e => by cases e)) ht hσ H locs ls' hP hS (z_st1 (v := .inl x) (z_okp_fl (hf ▸ hL)) hl'))
  · exact h.elim
  · exact h.elim
theorem s_istoreP (C : z_Cx zx zn zA cl sl p R s m args c cc own nL D cA ad) {pc i : Nat} (d : decode cc pc = .ok (.istore i, 2)) (hi9 : i < nL) {B : zB} (hB : ∀ L st σ, B L st σ → z_X zx zn zA cl sl p l e R s m args below meth c Q nL D cA ad fl (pc + 2) L st σ) : ∀ L st σ, z_istoreP i B L st σ → z_X zx zn zA cl sl p l e R s m args below meth c Q nL D cA ad fl pc L st σ := by
  intro L st σ h hn hL hst hσ H locs ls hP hS hl
  obtain ⟨hx, hb, hml, hown, hts, hK, hi, hAz, hcs, hE⟩ := C
  rcases st with _ | ⟨v, st⟩
  · exact h.elim
  rcases v with x | x | ⟨c0, n0, k0⟩
  · have hv := z_oks_hd hst
    have ht := z_oks_tl hst
    exact lv_istore (lv := z_asc ad 0 L) hx hb d hl hi9 rfl (fun ls' hl' => hB _ _ _ h.2 ((z_set_len _ _ _).trans hn) (z_okl_set hL i hv (fun _ x e => by cases e)) ht hσ H locs ls' hP hS (z_st1 (v := .inl x) h.1 hl'))
  · exact h.elim
  · exact h.elim
theorem s_istoreP_n (C : z_Cx zx zn zA cl sl p R s m args c cc own nL D cA ad) {pc i : Nat} {kk : Fin 4} (d : decode cc pc = .ok (.istore_n kk, 1)) (hi9 : i < nL) (hk : (kk : Nat) = i) {B : zB} (hB : ∀ L st σ, B L st σ → z_X zx zn zA cl sl p l e R s m args below meth c Q nL D cA ad fl (pc + 1) L st σ) : ∀ L st σ, z_istoreP i B L st σ → z_X zx zn zA cl sl p l e R s m args below meth c Q nL D cA ad fl pc L st σ := by
  intro L st σ h hn hL hst hσ H locs ls hP hS hl
  obtain ⟨hx, hb, hml, hown, hts, hK, hi, hAz, hcs, hE⟩ := C
  rcases st with _ | ⟨v, st⟩
  · exact h.elim
  rcases v with x | x | ⟨c0, n0, k0⟩
  · have hv := z_oks_hd hst
    have ht := z_oks_tl hst
    exact lv_istore_n (lv := z_asc ad 0 L) hx hb d hk hl hi9 rfl (fun ls' hl' => hB _ _ _ h.2 ((z_set_len _ _ _).trans hn) (z_okl_set hL i hv (fun _ x e => by cases e)) ht hσ H locs ls' hP hS (z_st1 (v := .inl x) h.1 hl'))
  · exact h.elim
  · exact h.elim
theorem s_lstore_n (C : z_Cx zx zn zA cl sl p R s m args c cc own nL D cA ad) {pc i : Nat} {kk : Fin 4} (d : decode cc pc = .ok (.lstore_n kk, 1)) (hi9 : i + 1 < nL) (hk : (kk : Nat) = i) (hf : fl = false) {B : zB} (hB : ∀ L st σ, B L st σ → z_X zx zn zA cl sl p l e R s m args below meth c Q nL D cA ad fl (pc + 1) L st σ) : ∀ L st σ, z_lstore i B L st σ → z_X zx zn zA cl sl p l e R s m args below meth c Q nL D cA ad fl pc L st σ := by
  intro L st σ h hn hL hst hσ H locs ls hP hS hl
  obtain ⟨hx, hb, hml, hown, hts, hK, hi, hAz, hcs, hE⟩ := C
  rcases st with _ | ⟨v, st⟩
  · exact h.elim
  rcases v with x | x | ⟨c0, n0, k0⟩
  · exact h.elim
  · have hv := z_oks_hd hst
    have ht := z_oks_tl hst
    exact lv_lstore_n (lv := z_asc ad 0 L) hx hb d hk hl hi9 rfl (fun ls' hl' => hB _ _ _ h.2 ((z_set_len _ _ _).trans ((z_set_len _ _ _).trans hn)) (z_okl_set (z_okl_setn hL _) i hv (fun e => by rw [hf] at e; cases e)) ht hσ H locs ls' hP hS (z_st2 (v := .inr (.inl x)) h.1 hl'))
  · exact h.elim
theorem s_astore_n (C : z_Cx zx zn zA cl sl p R s m args c cc own nL D cA ad) {pc i : Nat} {kk : Fin 4} (d : decode cc pc = .ok (.astore_n kk, 1)) (hi9 : i < nL) (hk : (kk : Nat) = i) (hf : fl = true) {B : zB} (hB : ∀ L st σ, B L st σ → z_X zx zn zA cl sl p l e R s m args below meth c Q nL D cA ad fl (pc + 1) L st σ) : ∀ L st σ, z_astore i B L st σ → z_X zx zn zA cl sl p l e R s m args below meth c Q nL D cA ad fl pc L st σ := by
  intro L st σ h hn hL hst hσ H locs ls hP hS hl
  obtain ⟨hx, hb, hml, hown, hts, hK, hi, hAz, hcs, hE⟩ := C
  rcases st with _ | ⟨v, st⟩
  · exact h.elim
  rcases v with x | x | ⟨c0, n0, k0⟩
  · exact h.elim
  · exact h.elim
  · have hv := z_oks_hd hst
    have ht := z_oks_tl hst
    obtain ⟨h5, h⟩ := h
    simp only [List.map_cons, z_val, if_neg h5]
    exact lv_astore_n (lv := z_asc ad 0 L) hx hb d hk hl hi9 rfl (fun ls' hl' => hB _ _ _ h ((z_set_len _ _ _).trans hn) (z_okl_set hL i hv (fun _ x e => by cases e)) ht hσ H locs ls' hP hS (z_st1 (v := .inr (.inr (c0, n0, k0))) (z_okp_fl (hf ▸ hL)) (by simpa only [z_val, if_neg h5] using hl')))
def z_iinc (i : Nat) (w : Int) (B : zB) (L : zL) (st : List zV) (σ : zM) : Prop := match z_get L i with
  | some (.inl x) => z_in (x + w) ∧ B (z_set L i (some (.inl (x + w)))) st σ
  | _ => False
def z_iincP (i : Nat) (w : Int) (B : zB) (L : zL) (st : List zV) (σ : zM) : Prop := match z_get L i with
  | some (.inl x) => (z_in (x + w) ∧ z_okp L i) ∧ B (z_set L i (some (.inl (x + w)))) st σ
  | _ => False
theorem s_iinc (C : z_Cx zx zn zA cl sl p R s m args c cc own nL D cA ad) {pc i : Nat} {w : Int} (d : decode cc pc = .ok (.iinc i w, 3)) (hi9 : i < nL) (hf : fl = true) {B : zB} (hB : ∀ L st σ, B L st σ → z_X zx zn zA cl sl p l e R s m args below meth c Q nL D cA ad fl (pc + 3) L st σ) : ∀ L st σ, z_iinc i w B L st σ → z_X zx zn zA cl sl p l e R s m args below meth c Q nL D cA ad fl pc L st σ := by
  intro L st σ h hn hL hst hσ H locs ls hP hS hl
  obtain ⟨hx, hb, hml, hown, hts, hK, hi, hAz, hcs, hE⟩ := C
  unfold z_iinc at h
  cases hg : z_get L i with
  | none => rw [hg] at h; exact h.elim
  | some v =>
    have hv := (hL v (z_get_mem _ _ _ hg)).1
    rw [hg] at h
    rcases v with x | x | q
    · have hm := z_asc_in ad L 0 i _ hg
      rw [Nat.zero_add] at hm
      obtain ⟨k, hk⟩ := List.getElem?_of_mem hm
      exact lv_iinc (k := k) (lv := z_asc ad 0 L) hx hb d hl hk (show Int32.ofInt x + Int32.ofInt w = Int32.ofInt (x + w) from (Int32.ofInt_add x w).symm) hi9 rfl (fun ls' hl' => hB _ _ _ h.2 ((z_set_len _ _ _).trans hn) (z_okl_set hL i h.1 (fun _ x e => by cases e)) hst hσ H locs ls' hP hS (z_st1 (v := .inl (x + w)) (z_okp_fl (hf ▸ hL)) hl'))
    · exact h.elim
    · exact h.elim
theorem s_iincP (C : z_Cx zx zn zA cl sl p R s m args c cc own nL D cA ad) {pc i : Nat} {w : Int} (d : decode cc pc = .ok (.iinc i w, 3)) (hi9 : i < nL) {B : zB} (hB : ∀ L st σ, B L st σ → z_X zx zn zA cl sl p l e R s m args below meth c Q nL D cA ad fl (pc + 3) L st σ) : ∀ L st σ, z_iincP i w B L st σ → z_X zx zn zA cl sl p l e R s m args below meth c Q nL D cA ad fl pc L st σ := by
  intro L st σ h hn hL hst hσ H locs ls hP hS hl
  obtain ⟨hx, hb, hml, hown, hts, hK, hi, hAz, hcs, hE⟩ := C
  unfold z_iincP at h
  cases hg : z_get L i with
  | none => rw [hg] at h; exact h.elim
  | some v =>
    have hv := (hL v (z_get_mem _ _ _ hg)).1
    rw [hg] at h
    rcases v with x | x | q
    · have hm := z_asc_in ad L 0 i _ hg
      rw [Nat.zero_add] at hm
      obtain ⟨k, hk⟩ := List.getElem?_of_mem hm
      exact lv_iinc (k := k) (lv := z_asc ad 0 L) hx hb d hl hk (show Int32.ofInt x + Int32.ofInt w = Int32.ofInt (x + w) from (Int32.ofInt_add x w).symm) hi9 rfl (fun ls' hl' => hB _ _ _ h.2 ((z_set_len _ _ _).trans hn) (z_okl_set hL i h.1.1 (fun _ x e => by cases e)) hst hσ H locs ls' hP hS (z_st1 (v := .inl (x + w)) h.1.2 hl'))
    · exact h.elim
    · exact h.elim
def z_iadd (B : zB) (L : zL) (st : List zV) (σ : zM) : Prop := match st with
  | .inl y :: .inl x :: st => z_in (x + y) ∧ B L (.inl (x + y) :: st) σ
  | _ => False
theorem s_iadd (C : z_Cx zx zn zA cl sl p R s m args c cc own nL D cA ad) {pc : Nat} (d : decode cc pc = .ok (.iadd, 1)) {B : zB} (hB : ∀ L st σ, B L st σ → z_X zx zn zA cl sl p l e R s m args below meth c Q nL D cA ad fl (pc + 1) L st σ) : ∀ L st σ, z_iadd B L st σ → z_X zx zn zA cl sl p l e R s m args below meth c Q nL D cA ad fl pc L st σ := by
  intro L st σ h hn hL hst hσ H locs ls hP hS hl
  obtain ⟨hx, hb, hml, hown, hts, hK, hi, hAz, hcs, hE⟩ := C
  rcases st with _ | ⟨y | y | q, _ | ⟨x | x | q, st⟩⟩ <;> try (exact h.elim)
  have hy : z_in y := z_oks_hd hst
  have hx9 : z_in x := z_oks_hd (z_oks_tl hst)
  have hk := hB _ _ _ h.2 hn hL (z_oks_cons h.1 (z_oks_tl (z_oks_tl hst))) hσ H locs ls hP hS hl
  simp only [List.map_cons, z_val] at hk ⊢
  refine lv_iadd hx hb d ?_
  rw [show Int32.ofInt x + Int32.ofInt y = Int32.ofInt (x + y) from (Int32.ofInt_add x y).symm]
  exact hk
def z_isub (B : zB) (L : zL) (st : List zV) (σ : zM) : Prop := match st with
  | .inl y :: .inl x :: st => z_in (x - y) ∧ B L (.inl (x - y) :: st) σ
  | _ => False
theorem s_isub (C : z_Cx zx zn zA cl sl p R s m args c cc own nL D cA ad) {pc : Nat} (d : decode cc pc = .ok (.isub, 1)) {B : zB} (hB : ∀ L st σ, B L st σ → z_X zx zn zA cl sl p l e R s m args below meth c Q nL D cA ad fl (pc + 1) L st σ) : ∀ L st σ, z_isub B L st σ → z_X zx zn zA cl sl p l e R s m args below meth c Q nL D cA ad fl pc L st σ := by
  intro L st σ h hn hL hst hσ H locs ls hP hS hl
  obtain ⟨hx, hb, hml, hown, hts, hK, hi, hAz, hcs, hE⟩ := C
  rcases st with _ | ⟨y | y | q, _ | ⟨x | x | q, st⟩⟩ <;> try (exact h.elim)
  have hy : z_in y := z_oks_hd hst
  have hx9 : z_in x := z_oks_hd (z_oks_tl hst)
  have hk := hB _ _ _ h.2 hn hL (z_oks_cons h.1 (z_oks_tl (z_oks_tl hst))) hσ H locs ls hP hS hl
  simp only [List.map_cons, z_val] at hk ⊢
  refine lv_isub hx hb d ?_
  rw [show Int32.ofInt x - Int32.ofInt y = Int32.ofInt (x - y) from (Int32.ofInt_sub x y).symm]
  exact hk
def z_imul (B : zB) (L : zL) (st : List zV) (σ : zM) : Prop := match st with
  | .inl y :: .inl x :: st => z_in (x * y) ∧ B L (.inl (x * y) :: st) σ
  | _ => False
theorem s_imul (C : z_Cx zx zn zA cl sl p R s m args c cc own nL D cA ad) {pc : Nat} (d : decode cc pc = .ok (.imul, 1)) {B : zB} (hB : ∀ L st σ, B L st σ → z_X zx zn zA cl sl p l e R s m args below meth c Q nL D cA ad fl (pc + 1) L st σ) : ∀ L st σ, z_imul B L st σ → z_X zx zn zA cl sl p l e R s m args below meth c Q nL D cA ad fl pc L st σ := by
  intro L st σ h hn hL hst hσ H locs ls hP hS hl
  obtain ⟨hx, hb, hml, hown, hts, hK, hi, hAz, hcs, hE⟩ := C
  rcases st with _ | ⟨y | y | q, _ | ⟨x | x | q, st⟩⟩ <;> try (exact h.elim)
  have hy : z_in y := z_oks_hd hst
  have hx9 : z_in x := z_oks_hd (z_oks_tl hst)
  have hk := hB _ _ _ h.2 hn hL (z_oks_cons h.1 (z_oks_tl (z_oks_tl hst))) hσ H locs ls hP hS hl
  simp only [List.map_cons, z_val] at hk ⊢
  refine lv_imul hx hb d ?_
  rw [show Int32.ofInt x * Int32.ofInt y = Int32.ofInt (x * y) from (Int32.ofInt_mul x y).symm]
  exact hk
def z_iaddW (B : zB) (L : zL) (st : List zV) (σ : zM) : Prop := match st with
  | .inl y :: .inl x :: st => B L (.inl (z_wr (x + y)) :: st) σ
  | _ => False
theorem s_iaddW (C : z_Cx zx zn zA cl sl p R s m args c cc own nL D cA ad) {pc : Nat} (d : decode cc pc = .ok (.iadd, 1)) {B : zB} (hB : ∀ L st σ, B L st σ → z_X zx zn zA cl sl p l e R s m args below meth c Q nL D cA ad fl (pc + 1) L st σ) : ∀ L st σ, z_iaddW B L st σ → z_X zx zn zA cl sl p l e R s m args below meth c Q nL D cA ad fl pc L st σ := by
  intro L st σ h hn hL hst hσ H locs ls hP hS hl
  obtain ⟨hx, hb, hml, hown, hts, hK, hi, hAz, hcs, hE⟩ := C
  rcases st with _ | ⟨y | y | q, _ | ⟨x | x | q, st⟩⟩ <;> try (exact h.elim)
  have hy : z_in y := z_oks_hd hst
  have hx9 : z_in x := z_oks_hd (z_oks_tl hst)
  have hk := hB _ _ _ h hn hL (z_oks_cons (z_in32 _) (z_oks_tl (z_oks_tl hst))) hσ H locs ls hP hS hl
  simp only [List.map_cons, z_val] at hk ⊢
  refine lv_iadd hx hb d ?_
  rw [show Int32.ofInt x + Int32.ofInt y = Int32.ofInt (z_wr (x + y)) by rw [z_wr, z_of32, Int32.ofInt_add]]
  exact hk
def z_isubW (B : zB) (L : zL) (st : List zV) (σ : zM) : Prop := match st with
  | .inl y :: .inl x :: st => B L (.inl (z_wr (x - y)) :: st) σ
  | _ => False
theorem s_isubW (C : z_Cx zx zn zA cl sl p R s m args c cc own nL D cA ad) {pc : Nat} (d : decode cc pc = .ok (.isub, 1)) {B : zB} (hB : ∀ L st σ, B L st σ → z_X zx zn zA cl sl p l e R s m args below meth c Q nL D cA ad fl (pc + 1) L st σ) : ∀ L st σ, z_isubW B L st σ → z_X zx zn zA cl sl p l e R s m args below meth c Q nL D cA ad fl pc L st σ := by
  intro L st σ h hn hL hst hσ H locs ls hP hS hl
  obtain ⟨hx, hb, hml, hown, hts, hK, hi, hAz, hcs, hE⟩ := C
  rcases st with _ | ⟨y | y | q, _ | ⟨x | x | q, st⟩⟩ <;> try (exact h.elim)
  have hy : z_in y := z_oks_hd hst
  have hx9 : z_in x := z_oks_hd (z_oks_tl hst)
  have hk := hB _ _ _ h hn hL (z_oks_cons (z_in32 _) (z_oks_tl (z_oks_tl hst))) hσ H locs ls hP hS hl
  simp only [List.map_cons, z_val] at hk ⊢
  refine lv_isub hx hb d ?_
  rw [show Int32.ofInt x - Int32.ofInt y = Int32.ofInt (z_wr (x - y)) by rw [z_wr, z_of32, Int32.ofInt_sub]]
  exact hk
def z_imulW (B : zB) (L : zL) (st : List zV) (σ : zM) : Prop := match st with
  | .inl y :: .inl x :: st => B L (.inl (z_wr (x * y)) :: st) σ
  | _ => False
theorem s_imulW (C : z_Cx zx zn zA cl sl p R s m args c cc own nL D cA ad) {pc : Nat} (d : decode cc pc = .ok (.imul, 1)) {B : zB} (hB : ∀ L st σ, B L st σ → z_X zx zn zA cl sl p l e R s m args below meth c Q nL D cA ad fl (pc + 1) L st σ) : ∀ L st σ, z_imulW B L st σ → z_X zx zn zA cl sl p l e R s m args below meth c Q nL D cA ad fl pc L st σ := by
  intro L st σ h hn hL hst hσ H locs ls hP hS hl
  obtain ⟨hx, hb, hml, hown, hts, hK, hi, hAz, hcs, hE⟩ := C
  rcases st with _ | ⟨y | y | q, _ | ⟨x | x | q, st⟩⟩ <;> try (exact h.elim)
  have hy : z_in y := z_oks_hd hst
  have hx9 : z_in x := z_oks_hd (z_oks_tl hst)
  have hk := hB _ _ _ h hn hL (z_oks_cons (z_in32 _) (z_oks_tl (z_oks_tl hst))) hσ H locs ls hP hS hl
  simp only [List.map_cons, z_val] at hk ⊢
  refine lv_imul hx hb d ?_
  rw [show Int32.ofInt x * Int32.ofInt y = Int32.ofInt (z_wr (x * y)) by rw [z_wr, z_of32, Int32.ofInt_mul]]
  exact hk
theorem z_div {x y : Int} (hx : z_in x) (hy : z_in y) (h : z_in (x.tdiv y)) : Int32.ofInt x / Int32.ofInt y = Int32.ofInt (x.tdiv y) := by
  apply Int32.toInt_inj.mp
  rw [Int32.toInt_div, z_toInt hx, z_toInt hy, z_toInt h]
  have hs : (2 ^ 32 : Nat) = 4294967296 := rfl
  exact Int.bmod_eq_of_le (by have := h.1; omega) (by have := h.2; omega)
def z_idiv (B : zB) (L : zL) (st : List zV) (σ : zM) : Prop := match st with
  | .inl y :: .inl x :: st => (¬ y = 0 ∧ z_in (x.tdiv y)) ∧ B L (.inl (x.tdiv y) :: st) σ
  | _ => False
theorem s_idiv (C : z_Cx zx zn zA cl sl p R s m args c cc own nL D cA ad) {pc : Nat} (d : decode cc pc = .ok (.idiv, 1)) {B : zB} (hB : ∀ L st σ, B L st σ → z_X zx zn zA cl sl p l e R s m args below meth c Q nL D cA ad fl (pc + 1) L st σ) : ∀ L st σ, z_idiv B L st σ → z_X zx zn zA cl sl p l e R s m args below meth c Q nL D cA ad fl pc L st σ := by
  intro L st σ h hn hL hst hσ H locs ls hP hS hl
  obtain ⟨hx, hb, hml, hown, hts, hK, hi, hAz, hcs, hE⟩ := C
  rcases st with _ | ⟨y | y | q, _ | ⟨x | x | q, st⟩⟩ <;> try (exact h.elim)
  have hy : z_in y := z_oks_hd hst
  have hx9 : z_in x := z_oks_hd (z_oks_tl hst)
  have hk := hB _ _ _ h.2 hn hL (z_oks_cons h.1.2 (z_oks_tl (z_oks_tl hst))) hσ H locs ls hP hS hl
  simp only [List.map_cons, z_val] at hk ⊢
  refine lv_idiv hx hb d (fun e => h.1.1 ((z_eq hy z_in0).mp (e.trans z_0))) ?_
  rw [show Int32.ofInt x / Int32.ofInt y = Int32.ofInt (x.tdiv y) from z_div hx9 hy h.1.2]
  exact hk
def z_irem (B : zB) (L : zL) (st : List zV) (σ : zM) : Prop := match st with
  | .inl y :: .inl x :: st => ((¬ y = 0 ∧ z_in (x.tdiv y)) ∧ z_in (x.tmod y)) ∧ B L (.inl (x.tmod y) :: st) σ
  | _ => False
theorem s_irem (C : z_Cx zx zn zA cl sl p R s m args c cc own nL D cA ad) {pc : Nat} (d : decode cc pc = .ok (.irem, 1)) {B : zB} (hB : ∀ L st σ, B L st σ → z_X zx zn zA cl sl p l e R s m args below meth c Q nL D cA ad fl (pc + 1) L st σ) : ∀ L st σ, z_irem B L st σ → z_X zx zn zA cl sl p l e R s m args below meth c Q nL D cA ad fl pc L st σ := by
  intro L st σ h hn hL hst hσ H locs ls hP hS hl
  obtain ⟨hx, hb, hml, hown, hts, hK, hi, hAz, hcs, hE⟩ := C
  rcases st with _ | ⟨y | y | q, _ | ⟨x | x | q, st⟩⟩ <;> try (exact h.elim)
  have hy : z_in y := z_oks_hd hst
  have hx9 : z_in x := z_oks_hd (z_oks_tl hst)
  have hk := hB _ _ _ h.2 hn hL (z_oks_cons h.1.2 (z_oks_tl (z_oks_tl hst))) hσ H locs ls hP hS hl
  simp only [List.map_cons, z_val] at hk ⊢
  refine lv_irem hx hb d (fun e => h.1.1.1 ((z_eq hy z_in0).mp (e.trans z_0))) ?_
  rw [show Int32.ofInt x - Int32.ofInt x / Int32.ofInt y * Int32.ofInt y = Int32.ofInt (x.tmod y) by rw [z_div hx9 hy h.1.1.2, ← Int32.ofInt_mul, ← Int32.ofInt_sub]; congr 1; have := Int.tmod_add_mul_tdiv x y; rw [Int.mul_comm] at this; omega]
  exact hk
def z_iand (B : zB) (L : zL) (st : List zV) (σ : zM) : Prop := match st with
  | .inl y :: .inl x :: st => B L (.inl ((Int32.ofInt x &&& Int32.ofInt y).toInt) :: st) σ
  | _ => False
theorem s_iand (C : z_Cx zx zn zA cl sl p R s m args c cc own nL D cA ad) {pc : Nat} (d : decode cc pc = .ok (.iand, 1)) {B : zB} (hB : ∀ L st σ, B L st σ → z_X zx zn zA cl sl p l e R s m args below meth c Q nL D cA ad fl (pc + 1) L st σ) : ∀ L st σ, z_iand B L st σ → z_X zx zn zA cl sl p l e R s m args below meth c Q nL D cA ad fl pc L st σ := by
  intro L st σ h hn hL hst hσ H locs ls hP hS hl
  obtain ⟨hx, hb, hml, hown, hts, hK, hi, hAz, hcs, hE⟩ := C
  rcases st with _ | ⟨y | y | q, _ | ⟨x | x | q, st⟩⟩ <;> try (exact h.elim)
  have hy : z_in y := z_oks_hd hst
  have hx9 : z_in x := z_oks_hd (z_oks_tl hst)
  have hk := hB _ _ _ h hn hL (z_oks_cons (z_in32 _) (z_oks_tl (z_oks_tl hst))) hσ H locs ls hP hS hl
  simp only [List.map_cons, z_val] at hk ⊢
  refine lv_iand hx hb d ?_
  rw [show Int32.ofInt x &&& Int32.ofInt y = Int32.ofInt (Int32.ofInt x &&& Int32.ofInt y).toInt from (z_of32 _).symm]
  exact hk
def z_ior (B : zB) (L : zL) (st : List zV) (σ : zM) : Prop := match st with
  | .inl y :: .inl x :: st => B L (.inl ((Int32.ofInt x ||| Int32.ofInt y).toInt) :: st) σ
  | _ => False
theorem s_ior (C : z_Cx zx zn zA cl sl p R s m args c cc own nL D cA ad) {pc : Nat} (d : decode cc pc = .ok (.ior, 1)) {B : zB} (hB : ∀ L st σ, B L st σ → z_X zx zn zA cl sl p l e R s m args below meth c Q nL D cA ad fl (pc + 1) L st σ) : ∀ L st σ, z_ior B L st σ → z_X zx zn zA cl sl p l e R s m args below meth c Q nL D cA ad fl pc L st σ := by
  intro L st σ h hn hL hst hσ H locs ls hP hS hl
  obtain ⟨hx, hb, hml, hown, hts, hK, hi, hAz, hcs, hE⟩ := C
  rcases st with _ | ⟨y | y | q, _ | ⟨x | x | q, st⟩⟩ <;> try (exact h.elim)
  have hy : z_in y := z_oks_hd hst
  have hx9 : z_in x := z_oks_hd (z_oks_tl hst)
  have hk := hB _ _ _ h hn hL (z_oks_cons (z_in32 _) (z_oks_tl (z_oks_tl hst))) hσ H locs ls hP hS hl
  simp only [List.map_cons, z_val] at hk ⊢
  refine lv_ior hx hb d ?_
  rw [show Int32.ofInt x ||| Int32.ofInt y = Int32.ofInt (Int32.ofInt x ||| Int32.ofInt y).toInt from (z_of32 _).symm]
  exact hk
def z_ixor (B : zB) (L : zL) (st : List zV) (σ : zM) : Prop := match st with
  | .inl y :: .inl x :: st => B L (.inl ((Int32.ofInt x ^^^ Int32.ofInt y).toInt) :: st) σ
  | _ => False
theorem s_ixor (C : z_Cx zx zn zA cl sl p R s m args c cc own nL D cA ad) {pc : Nat} (d : decode cc pc = .ok (.ixor, 1)) {B : zB} (hB : ∀ L st σ, B L st σ → z_X zx zn zA cl sl p l e R s m args below meth c Q nL D cA ad fl (pc + 1) L st σ) : ∀ L st σ, z_ixor B L st σ → z_X zx zn zA cl sl p l e R s m args below meth c Q nL D cA ad fl pc L st σ := by
  intro L st σ h hn hL hst hσ H locs ls hP hS hl
  obtain ⟨hx, hb, hml, hown, hts, hK, hi, hAz, hcs, hE⟩ := C
  rcases st with _ | ⟨y | y | q, _ | ⟨x | x | q, st⟩⟩ <;> try (exact h.elim)
  have hy : z_in y := z_oks_hd hst
  have hx9 : z_in x := z_oks_hd (z_oks_tl hst)
  have hk := hB _ _ _ h hn hL (z_oks_cons (z_in32 _) (z_oks_tl (z_oks_tl hst))) hσ H locs ls hP hS hl
  simp only [List.map_cons, z_val] at hk ⊢
  refine lv_ixor hx hb d ?_
  rw [show Int32.ofInt x ^^^ Int32.ofInt y = Int32.ofInt (Int32.ofInt x ^^^ Int32.ofInt y).toInt from (z_of32 _).symm]
  exact hk
def z_ishl (B : zB) (L : zL) (st : List zV) (σ : zM) : Prop := match st with
  | .inl y :: .inl x :: st => B L (.inl ((Int32.ofInt x <<< (Int32.ofInt y &&& 31)).toInt) :: st) σ
  | _ => False
theorem s_ishl (C : z_Cx zx zn zA cl sl p R s m args c cc own nL D cA ad) {pc : Nat} (d : decode cc pc = .ok (.ishl, 1)) {B : zB} (hB : ∀ L st σ, B L st σ → z_X zx zn zA cl sl p l e R s m args below meth c Q nL D cA ad fl (pc + 1) L st σ) : ∀ L st σ, z_ishl B L st σ → z_X zx zn zA cl sl p l e R s m args below meth c Q nL D cA ad fl pc L st σ := by
  intro L st σ h hn hL hst hσ H locs ls hP hS hl
  obtain ⟨hx, hb, hml, hown, hts, hK, hi, hAz, hcs, hE⟩ := C
  rcases st with _ | ⟨y | y | q, _ | ⟨x | x | q, st⟩⟩ <;> try (exact h.elim)
  have hy : z_in y := z_oks_hd hst
  have hx9 : z_in x := z_oks_hd (z_oks_tl hst)
  have hk := hB _ _ _ h hn hL (z_oks_cons (z_in32 _) (z_oks_tl (z_oks_tl hst))) hσ H locs ls hP hS hl
  simp only [List.map_cons, z_val] at hk ⊢
  refine lv_ishl hx hb d ?_
  rw [show Int32.ofInt x <<< (Int32.ofInt y &&& 31) = Int32.ofInt (Int32.ofInt x <<< (Int32.ofInt y &&& 31)).toInt from (z_of32 _).symm]
  exact hk
def z_ishr (B : zB) (L : zL) (st : List zV) (σ : zM) : Prop := match st with
  | .inl y :: .inl x :: st => B L (.inl ((Int32.ofInt x >>> (Int32.ofInt y &&& 31)).toInt) :: st) σ
  | _ => False
theorem s_ishr (C : z_Cx zx zn zA cl sl p R s m args c cc own nL D cA ad) {pc : Nat} (d : decode cc pc = .ok (.ishr, 1)) {B : zB} (hB : ∀ L st σ, B L st σ → z_X zx zn zA cl sl p l e R s m args below meth c Q nL D cA ad fl (pc + 1) L st σ) : ∀ L st σ, z_ishr B L st σ → z_X zx zn zA cl sl p l e R s m args below meth c Q nL D cA ad fl pc L st σ := by
  intro L st σ h hn hL hst hσ H locs ls hP hS hl
  obtain ⟨hx, hb, hml, hown, hts, hK, hi, hAz, hcs, hE⟩ := C
  rcases st with _ | ⟨y | y | q, _ | ⟨x | x | q, st⟩⟩ <;> try (exact h.elim)
  have hy : z_in y := z_oks_hd hst
  have hx9 : z_in x := z_oks_hd (z_oks_tl hst)
  have hk := hB _ _ _ h hn hL (z_oks_cons (z_in32 _) (z_oks_tl (z_oks_tl hst))) hσ H locs ls hP hS hl
  simp only [List.map_cons, z_val] at hk ⊢
  refine lv_ishr hx hb d ?_
  rw [show Int32.ofInt x >>> (Int32.ofInt y &&& 31) = Int32.ofInt (Int32.ofInt x >>> (Int32.ofInt y &&& 31)).toInt from (z_of32 _).symm]
  exact hk
def z_iushr (B : zB) (L : zL) (st : List zV) (σ : zM) : Prop := match st with
  | .inl y :: .inl x :: st => B L (.inl (((Int32.ofInt x).toUInt32 >>> ((Int32.ofInt y).toUInt32 &&& Int32.toUInt32 31)).toInt32.toInt) :: st) σ
  | _ => False
theorem s_iushr (C : z_Cx zx zn zA cl sl p R s m args c cc own nL D cA ad) {pc : Nat} (d : decode cc pc = .ok (.iushr, 1)) {B : zB} (hB : ∀ L st σ, B L st σ → z_X zx zn zA cl sl p l e R s m args below meth c Q nL D cA ad fl (pc + 1) L st σ) : ∀ L st σ, z_iushr B L st σ → z_X zx zn zA cl sl p l e R s m args below meth c Q nL D cA ad fl pc L st σ := by
  intro L st σ h hn hL hst hσ H locs ls hP hS hl
  obtain ⟨hx, hb, hml, hown, hts, hK, hi, hAz, hcs, hE⟩ := C
  rcases st with _ | ⟨y | y | q, _ | ⟨x | x | q, st⟩⟩ <;> try (exact h.elim)
  have hy : z_in y := z_oks_hd hst
  have hx9 : z_in x := z_oks_hd (z_oks_tl hst)
  have hk := hB _ _ _ h hn hL (z_oks_cons (z_in32 _) (z_oks_tl (z_oks_tl hst))) hσ H locs ls hP hS hl
  simp only [List.map_cons, z_val] at hk ⊢
  exact lv_iushr hx hb d (z_of32 _).symm hk
def z_ineg (B : zB) (L : zL) (st : List zV) (σ : zM) : Prop := match st with
  | .inl x :: st => z_in (-x) ∧ B L (.inl (-x) :: st) σ
  | _ => False
theorem s_ineg (C : z_Cx zx zn zA cl sl p R s m args c cc own nL D cA ad) {pc : Nat} (d : decode cc pc = .ok (.ineg, 1)) {B : zB} (hB : ∀ L st σ, B L st σ → z_X zx zn zA cl sl p l e R s m args below meth c Q nL D cA ad fl (pc + 1) L st σ) : ∀ L st σ, z_ineg B L st σ → z_X zx zn zA cl sl p l e R s m args below meth c Q nL D cA ad fl pc L st σ := by
  intro L st σ h hn hL hst hσ H locs ls hP hS hl
  obtain ⟨hx, hb, hml, hown, hts, hK, hi, hAz, hcs, hE⟩ := C
  rcases st with _ | ⟨x | x | q, st⟩ <;> try (exact h.elim)
  have hx9 : z_in x := z_oks_hd hst
  have hk := hB _ _ _ h.2 hn hL (z_oks_cons h.1 (z_oks_tl hst)) hσ H locs ls hP hS hl
  simp only [List.map_cons, z_val] at hk ⊢
  refine lv_ineg hx hb d ?_
  rw [show -Int32.ofInt x = Int32.ofInt (-x) from (Int32.ofInt_neg x).symm]
  exact hk
def z_i2l (B : zB) (L : zL) (st : List zV) (σ : zM) : Prop := match st with
  | .inl x :: st => B L (.inr (.inl x) :: st) σ
  | _ => False
theorem s_i2l (C : z_Cx zx zn zA cl sl p R s m args c cc own nL D cA ad) {pc : Nat} (d : decode cc pc = .ok (.i2l, 1)) {B : zB} (hB : ∀ L st σ, B L st σ → z_X zx zn zA cl sl p l e R s m args below meth c Q nL D cA ad fl (pc + 1) L st σ) : ∀ L st σ, z_i2l B L st σ → z_X zx zn zA cl sl p l e R s m args below meth c Q nL D cA ad fl pc L st σ := by
  intro L st σ h hn hL hst hσ H locs ls hP hS hl
  obtain ⟨hx, hb, hml, hown, hts, hK, hi, hAz, hcs, hE⟩ := C
  rcases st with _ | ⟨x | x | q, st⟩ <;> try (exact h.elim)
  have hx9 : z_in x := z_oks_hd hst
  have hk := hB _ _ _ h hn hL (z_oks_cons ⟨by have := hx9.1; omega, by have := hx9.2; omega⟩ (z_oks_tl hst)) hσ H locs ls hP hS hl
  simp only [List.map_cons, z_val] at hk ⊢
  exact lv_i2l hx hb d (by apply Int64.toInt_inj.mp; rw [Int32.toInt_toInt64, z_toInt hx9, z_toIntL ⟨by have := hx9.1; omega, by have := hx9.2; omega⟩]) hk
def z_i2b (B : zB) (L : zL) (st : List zV) (σ : zM) : Prop := match st with
  | .inl x :: st => B L (.inl (z_wr8 x) :: st) σ
  | _ => False
theorem s_i2b (C : z_Cx zx zn zA cl sl p R s m args c cc own nL D cA ad) {pc : Nat} (d : decode cc pc = .ok (.i2b, 1)) {B : zB} (hB : ∀ L st σ, B L st σ → z_X zx zn zA cl sl p l e R s m args below meth c Q nL D cA ad fl (pc + 1) L st σ) : ∀ L st σ, z_i2b B L st σ → z_X zx zn zA cl sl p l e R s m args below meth c Q nL D cA ad fl pc L st σ := by
  intro L st σ h hn hL hst hσ H locs ls hP hS hl
  obtain ⟨hx, hb, hml, hown, hts, hK, hi, hAz, hcs, hE⟩ := C
  rcases st with _ | ⟨x | x | q, st⟩ <;> try (exact h.elim)
  have hx9 : z_in x := z_oks_hd hst
  have hk := hB _ _ _ h hn hL (z_oks_cons (z_in8 _) (z_oks_tl hst)) hσ H locs ls hP hS hl
  simp only [List.map_cons, z_val] at hk ⊢
  exact lv_i2b hx hb d (by apply Int32.toInt_inj.mp; rw [Int8.toInt_toInt32, z_wr8, z_toInt (z_in8 _)]) hk
def z_i2s (B : zB) (L : zL) (st : List zV) (σ : zM) : Prop := match st with
  | .inl x :: st => B L (.inl (z_wr16 x) :: st) σ
  | _ => False
theorem s_i2s (C : z_Cx zx zn zA cl sl p R s m args c cc own nL D cA ad) {pc : Nat} (d : decode cc pc = .ok (.i2s, 1)) {B : zB} (hB : ∀ L st σ, B L st σ → z_X zx zn zA cl sl p l e R s m args below meth c Q nL D cA ad fl (pc + 1) L st σ) : ∀ L st σ, z_i2s B L st σ → z_X zx zn zA cl sl p l e R s m args below meth c Q nL D cA ad fl pc L st σ := by
  intro L st σ h hn hL hst hσ H locs ls hP hS hl
  obtain ⟨hx, hb, hml, hown, hts, hK, hi, hAz, hcs, hE⟩ := C
  rcases st with _ | ⟨x | x | q, st⟩ <;> try (exact h.elim)
  have hx9 : z_in x := z_oks_hd hst
  have hk := hB _ _ _ h hn hL (z_oks_cons (z_in16 _) (z_oks_tl hst)) hσ H locs ls hP hS hl
  simp only [List.map_cons, z_val] at hk ⊢
  exact lv_i2s hx hb d (by apply Int32.toInt_inj.mp; rw [Int16.toInt_toInt32, z_wr16, z_toInt (z_in16 _)]) hk
def z_wrc (x : Int) : Int := ((Int32.ofInt x).toUInt32 % 65536).toInt32.toInt
def z_i2c (B : zB) (L : zL) (st : List zV) (σ : zM) : Prop := match st with
  | .inl x :: st => B L (.inl (z_wrc x) :: st) σ
  | _ => False
theorem s_i2c (C : z_Cx zx zn zA cl sl p R s m args c cc own nL D cA ad) {pc : Nat} (d : decode cc pc = .ok (.i2c, 1)) {B : zB} (hB : ∀ L st σ, B L st σ → z_X zx zn zA cl sl p l e R s m args below meth c Q nL D cA ad fl (pc + 1) L st σ) : ∀ L st σ, z_i2c B L st σ → z_X zx zn zA cl sl p l e R s m args below meth c Q nL D cA ad fl pc L st σ := by
  intro L st σ h hn hL hst hσ H locs ls hP hS hl
  obtain ⟨hx, hb, hml, hown, hts, hK, hi, hAz, hcs, hE⟩ := C
  rcases st with _ | ⟨x | x | q, st⟩ <;> try (exact h.elim)
  have hx9 : z_in x := z_oks_hd hst
  have hk := hB _ _ _ h hn hL (z_oks_cons (z_in32 _) (z_oks_tl hst)) hσ H locs ls hP hS hl
  simp only [List.map_cons, z_val] at hk ⊢
  exact lv_i2c hx hb d (z_of32 _).symm hk
def z_l2i (B : zB) (L : zL) (st : List zV) (σ : zM) : Prop := match st with
  | .inr (.inl x) :: st => B L (.inl (z_wr x) :: st) σ
  | _ => False
theorem s_l2i (C : z_Cx zx zn zA cl sl p R s m args c cc own nL D cA ad) {pc : Nat} (d : decode cc pc = .ok (.l2i, 1)) {B : zB} (hB : ∀ L st σ, B L st σ → z_X zx zn zA cl sl p l e R s m args below meth c Q nL D cA ad fl (pc + 1) L st σ) : ∀ L st σ, z_l2i B L st σ → z_X zx zn zA cl sl p l e R s m args below meth c Q nL D cA ad fl pc L st σ := by
  intro L st σ h hn hL hst hσ H locs ls hP hS hl
  obtain ⟨hx, hb, hml, hown, hts, hK, hi, hAz, hcs, hE⟩ := C
  rcases st with _ | ⟨x | x | q, st⟩ <;> try (exact h.elim)
  have hx9 : z_inL x := z_oks_hd hst
  have hk := hB _ _ _ h hn hL (z_oks_cons (z_in32 _) (z_oks_tl hst)) hσ H locs ls hP hS hl
  simp only [List.map_cons, z_val] at hk ⊢
  exact lv_l2i hx hb d (by apply Int32.toInt_inj.mp; rw [Int64.toInt_toInt32, z_toIntL hx9, z_wr, z_of32, Int32.toInt_ofInt]) hk
def z_ladd (B : zB) (L : zL) (st : List zV) (σ : zM) : Prop := match st with
  | .inr (.inl y) :: .inr (.inl x) :: st => z_inL (x + y) ∧ B L (.inr (.inl (x + y)) :: st) σ
  | _ => False
theorem s_ladd (C : z_Cx zx zn zA cl sl p R s m args c cc own nL D cA ad) {pc : Nat} (d : decode cc pc = .ok (.ladd, 1)) {B : zB} (hB : ∀ L st σ, B L st σ → z_X zx zn zA cl sl p l e R s m args below meth c Q nL D cA ad fl (pc + 1) L st σ) : ∀ L st σ, z_ladd B L st σ → z_X zx zn zA cl sl p l e R s m args below meth c Q nL D cA ad fl pc L st σ := by
  intro L st σ h hn hL hst hσ H locs ls hP hS hl
  obtain ⟨hx, hb, hml, hown, hts, hK, hi, hAz, hcs, hE⟩ := C
  rcases st with _ | ⟨y | y | q, _ | ⟨x | x | q, st⟩⟩ <;> try (exact h.elim)
  have hy := z_oks_hd hst
  have hx9 : z_inL x := z_oks_hd (z_oks_tl hst)
  have hk := hB _ _ _ h.2 hn hL (z_oks_cons h.1 (z_oks_tl (z_oks_tl hst))) hσ H locs ls hP hS hl
  simp only [List.map_cons, z_val] at hk ⊢
  refine lv_ladd hx hb d ?_
  rw [show Int64.ofInt x + Int64.ofInt y = Int64.ofInt (x + y) from (Int64.ofInt_add x y).symm]
  exact hk
def z_lsub (B : zB) (L : zL) (st : List zV) (σ : zM) : Prop := match st with
  | .inr (.inl y) :: .inr (.inl x) :: st => z_inL (x - y) ∧ B L (.inr (.inl (x - y)) :: st) σ
  | _ => False
theorem s_lsub (C : z_Cx zx zn zA cl sl p R s m args c cc own nL D cA ad) {pc : Nat} (d : decode cc pc = .ok (.lsub, 1)) {B : zB} (hB : ∀ L st σ, B L st σ → z_X zx zn zA cl sl p l e R s m args below meth c Q nL D cA ad fl (pc + 1) L st σ) : ∀ L st σ, z_lsub B L st σ → z_X zx zn zA cl sl p l e R s m args below meth c Q nL D cA ad fl pc L st σ := by
  intro L st σ h hn hL hst hσ H locs ls hP hS hl
  obtain ⟨hx, hb, hml, hown, hts, hK, hi, hAz, hcs, hE⟩ := C
  rcases st with _ | ⟨y | y | q, _ | ⟨x | x | q, st⟩⟩ <;> try (exact h.elim)
  have hy := z_oks_hd hst
  have hx9 : z_inL x := z_oks_hd (z_oks_tl hst)
  have hk := hB _ _ _ h.2 hn hL (z_oks_cons h.1 (z_oks_tl (z_oks_tl hst))) hσ H locs ls hP hS hl
  simp only [List.map_cons, z_val] at hk ⊢
  refine lv_lsub hx hb d ?_
  rw [show Int64.ofInt x - Int64.ofInt y = Int64.ofInt (x - y) from (Int64.ofInt_sub x y).symm]
  exact hk
def z_land (B : zB) (L : zL) (st : List zV) (σ : zM) : Prop := match st with
  | .inr (.inl y) :: .inr (.inl x) :: st => B L (.inr (.inl ((Int64.ofInt x &&& Int64.ofInt y).toInt)) :: st) σ
  | _ => False
theorem s_land (C : z_Cx zx zn zA cl sl p R s m args c cc own nL D cA ad) {pc : Nat} (d : decode cc pc = .ok (.land, 1)) {B : zB} (hB : ∀ L st σ, B L st σ → z_X zx zn zA cl sl p l e R s m args below meth c Q nL D cA ad fl (pc + 1) L st σ) : ∀ L st σ, z_land B L st σ → z_X zx zn zA cl sl p l e R s m args below meth c Q nL D cA ad fl pc L st σ := by
  intro L st σ h hn hL hst hσ H locs ls hP hS hl
  obtain ⟨hx, hb, hml, hown, hts, hK, hi, hAz, hcs, hE⟩ := C
  rcases st with _ | ⟨y | y | q, _ | ⟨x | x | q, st⟩⟩ <;> try (exact h.elim)
  have hy := z_oks_hd hst
  have hx9 : z_inL x := z_oks_hd (z_oks_tl hst)
  have hk := hB _ _ _ h hn hL (z_oks_cons (z_in64 _) (z_oks_tl (z_oks_tl hst))) hσ H locs ls hP hS hl
  simp only [List.map_cons, z_val] at hk ⊢
  refine lv_land hx hb d ?_
  rw [show Int64.ofInt x &&& Int64.ofInt y = Int64.ofInt (Int64.ofInt x &&& Int64.ofInt y).toInt from (Int64.ofInt_toInt _).symm]
  exact hk
def z_lor (B : zB) (L : zL) (st : List zV) (σ : zM) : Prop := match st with
  | .inr (.inl y) :: .inr (.inl x) :: st => B L (.inr (.inl ((Int64.ofInt x ||| Int64.ofInt y).toInt)) :: st) σ
  | _ => False
theorem s_lor (C : z_Cx zx zn zA cl sl p R s m args c cc own nL D cA ad) {pc : Nat} (d : decode cc pc = .ok (.lor, 1)) {B : zB} (hB : ∀ L st σ, B L st σ → z_X zx zn zA cl sl p l e R s m args below meth c Q nL D cA ad fl (pc + 1) L st σ) : ∀ L st σ, z_lor B L st σ → z_X zx zn zA cl sl p l e R s m args below meth c Q nL D cA ad fl pc L st σ := by
  intro L st σ h hn hL hst hσ H locs ls hP hS hl
  obtain ⟨hx, hb, hml, hown, hts, hK, hi, hAz, hcs, hE⟩ := C
  rcases st with _ | ⟨y | y | q, _ | ⟨x | x | q, st⟩⟩ <;> try (exact h.elim)
  have hy := z_oks_hd hst
  have hx9 : z_inL x := z_oks_hd (z_oks_tl hst)
  have hk := hB _ _ _ h hn hL (z_oks_cons (z_in64 _) (z_oks_tl (z_oks_tl hst))) hσ H locs ls hP hS hl
  simp only [List.map_cons, z_val] at hk ⊢
  refine lv_lor hx hb d ?_
  rw [show Int64.ofInt x ||| Int64.ofInt y = Int64.ofInt (Int64.ofInt x ||| Int64.ofInt y).toInt from (Int64.ofInt_toInt _).symm]
  exact hk
def z_lshl (B : zB) (L : zL) (st : List zV) (σ : zM) : Prop := match st with
  | .inl y :: .inr (.inl x) :: st => B L (.inr (.inl ((Int64.ofInt x <<< ((Int32.ofInt y).toInt64 &&& 63)).toInt)) :: st) σ
  | _ => False
theorem s_lshl (C : z_Cx zx zn zA cl sl p R s m args c cc own nL D cA ad) {pc : Nat} (d : decode cc pc = .ok (.lshl, 1)) {B : zB} (hB : ∀ L st σ, B L st σ → z_X zx zn zA cl sl p l e R s m args below meth c Q nL D cA ad fl (pc + 1) L st σ) : ∀ L st σ, z_lshl B L st σ → z_X zx zn zA cl sl p l e R s m args below meth c Q nL D cA ad fl pc L st σ := by
  intro L st σ h hn hL hst hσ H locs ls hP hS hl
  obtain ⟨hx, hb, hml, hown, hts, hK, hi, hAz, hcs, hE⟩ := C
  rcases st with _ | ⟨y | y | q, _ | ⟨x | x | q, st⟩⟩ <;> try (exact h.elim)
  have hy := z_oks_hd hst
  have hx9 : z_inL x := z_oks_hd (z_oks_tl hst)
  have hk := hB _ _ _ h hn hL (z_oks_cons (z_in64 _) (z_oks_tl (z_oks_tl hst))) hσ H locs ls hP hS hl
  simp only [List.map_cons, z_val] at hk ⊢
  exact lv_lshl hx hb d (Int64.ofInt_toInt _).symm hk
def z_lshr (B : zB) (L : zL) (st : List zV) (σ : zM) : Prop := match st with
  | .inl y :: .inr (.inl x) :: st => B L (.inr (.inl ((Int64.ofInt x >>> ((Int32.ofInt y).toInt64 &&& 63)).toInt)) :: st) σ
  | _ => False
theorem s_lshr (C : z_Cx zx zn zA cl sl p R s m args c cc own nL D cA ad) {pc : Nat} (d : decode cc pc = .ok (.lshr, 1)) {B : zB} (hB : ∀ L st σ, B L st σ → z_X zx zn zA cl sl p l e R s m args below meth c Q nL D cA ad fl (pc + 1) L st σ) : ∀ L st σ, z_lshr B L st σ → z_X zx zn zA cl sl p l e R s m args below meth c Q nL D cA ad fl pc L st σ := by
  intro L st σ h hn hL hst hσ H locs ls hP hS hl
  obtain ⟨hx, hb, hml, hown, hts, hK, hi, hAz, hcs, hE⟩ := C
  rcases st with _ | ⟨y | y | q, _ | ⟨x | x | q, st⟩⟩ <;> try (exact h.elim)
  have hy := z_oks_hd hst
  have hx9 : z_inL x := z_oks_hd (z_oks_tl hst)
  have hk := hB _ _ _ h hn hL (z_oks_cons (z_in64 _) (z_oks_tl (z_oks_tl hst))) hσ H locs ls hP hS hl
  simp only [List.map_cons, z_val] at hk ⊢
  exact lv_lshr hx hb d (Int64.ofInt_toInt _).symm hk
def z_lcmp (B : zB) (L : zL) (st : List zV) (σ : zM) : Prop := match st with
  | .inr (.inl y) :: .inr (.inl x) :: st => B L (.inl (if x < y then -1 else if x = y then 0 else 1) :: st) σ
  | _ => False
theorem s_lcmp (C : z_Cx zx zn zA cl sl p R s m args c cc own nL D cA ad) {pc : Nat} (d : decode cc pc = .ok (.lcmp, 1)) {B : zB} (hB : ∀ L st σ, B L st σ → z_X zx zn zA cl sl p l e R s m args below meth c Q nL D cA ad fl (pc + 1) L st σ) : ∀ L st σ, z_lcmp B L st σ → z_X zx zn zA cl sl p l e R s m args below meth c Q nL D cA ad fl pc L st σ := by
  intro L st σ h hn hL hst hσ H locs ls hP hS hl
  obtain ⟨hx, hb, hml, hown, hts, hK, hi, hAz, hcs, hE⟩ := C
  rcases st with _ | ⟨y | y | q, _ | ⟨x | x | q, st⟩⟩ <;> try (exact h.elim)
  have hy : z_inL y := z_oks_hd hst
  have hx9 : z_inL x := z_oks_hd (z_oks_tl hst)
  have hr : z_in (if x < y then -1 else if x = y then 0 else 1) := by repeat' split <;> exact ⟨by omega, by omega⟩
  have hk := hB _ _ _ h hn hL (z_oks_cons hr (z_oks_tl (z_oks_tl hst))) hσ H locs ls hP hS hl
  simp only [List.map_cons, z_val] at hk ⊢
  refine W.lcmp hx hb d ?_
  rw [show lg_cmp (Int64.ofInt x) (Int64.ofInt y) = Int32.ofInt (if x < y then -1 else if x = y then 0 else 1) by
    unfold lg_cmp
    simp only [Int64.lt_iff_toInt_lt, ← Int64.toInt_inj, z_toIntL hx9, z_toIntL hy, gt_iff_lt]
    repeat' split
    all_goals first | rfl | (exfalso; omega)]
  exact hk
def z_dup (B : zB) (L : zL) (st : List zV) (σ : zM) : Prop := match st with
  | .inl x :: st => B L (.inl x :: .inl x :: st) σ
  | .inr (.inr q) :: st => B L (.inr (.inr q) :: .inr (.inr q) :: st) σ
  | _ => False
def z_pop (B : zB) (L : zL) (st : List zV) (σ : zM) : Prop := match st with
  | .inl x :: st => B L st σ
  | _ => False
def z_dup2 (B : zB) (L : zL) (st : List zV) (σ : zM) : Prop := match st with
  | .inl x :: .inr (.inr q) :: st => B L (.inl x :: .inr (.inr q) :: .inl x :: .inr (.inr q) :: st) σ
  | _ => False
theorem s_dup (C : z_Cx zx zn zA cl sl p R s m args c cc own nL D cA ad) {pc : Nat} (d : decode cc pc = .ok (.dup, 1)) {B : zB} (hB : ∀ L st σ, B L st σ → z_X zx zn zA cl sl p l e R s m args below meth c Q nL D cA ad fl (pc + 1) L st σ) : ∀ L st σ, z_dup B L st σ → z_X zx zn zA cl sl p l e R s m args below meth c Q nL D cA ad fl pc L st σ := by
  intro L st σ h hn hL hst hσ H locs ls hP hS hl
  obtain ⟨hx, hb, hml, hown, hts, hK, hi, hAz, hcs, hE⟩ := C
  rcases st with _ | ⟨x | x | q, st⟩ <;> try (exact h.elim)
  · exact lv_dup hx hb d (z_cat1 (by rintro _ ⟨⟩)) (hB _ _ _ h hn hL (z_oks_cons (z_oks_hd hst) hst) hσ H locs ls hP hS hl)
  · exact lv_dup hx hb d (z_cat1 (by rintro _ ⟨⟩)) (hB _ _ _ h hn hL (z_oks_cons (z_oks_hd hst) hst) hσ H locs ls hP hS hl)
theorem s_pop (C : z_Cx zx zn zA cl sl p R s m args c cc own nL D cA ad) {pc : Nat} (d : decode cc pc = .ok (.pop, 1)) {B : zB} (hB : ∀ L st σ, B L st σ → z_X zx zn zA cl sl p l e R s m args below meth c Q nL D cA ad fl (pc + 1) L st σ) : ∀ L st σ, z_pop B L st σ → z_X zx zn zA cl sl p l e R s m args below meth c Q nL D cA ad fl pc L st σ := by
  intro L st σ h hn hL hst hσ H locs ls hP hS hl
  obtain ⟨hx, hb, hml, hown, hts, hK, hi, hAz, hcs, hE⟩ := C
  rcases st with _ | ⟨x | x | q, st⟩ <;> try (exact h.elim)
  exact lv_pop hx hb d (z_cat1 (by rintro _ ⟨⟩)) (hB _ _ _ h hn hL (z_oks_tl hst) hσ H locs ls hP hS hl)
theorem s_dup2 (C : z_Cx zx zn zA cl sl p R s m args c cc own nL D cA ad) {pc : Nat} (d : decode cc pc = .ok (.dup2, 1)) {B : zB} (hB : ∀ L st σ, B L st σ → z_X zx zn zA cl sl p l e R s m args below meth c Q nL D cA ad fl (pc + 1) L st σ) : ∀ L st σ, z_dup2 B L st σ → z_X zx zn zA cl sl p l e R s m args below meth c Q nL D cA ad fl pc L st σ := by
  intro L st σ h hn hL hst hσ H locs ls hP hS hl
  obtain ⟨hx, hb, hml, hown, hts, hK, hi, hAz, hcs, hE⟩ := C
  rcases st with _ | ⟨y | y | q, _ | ⟨x | x | q, st⟩⟩ <;> try (exact h.elim)
  exact lv_dup2_11 hx hb d (z_cat1 (by rintro _ ⟨⟩)) (z_cat1 (by rintro _ ⟨⟩)) (hB _ _ _ h hn hL (z_oks_cons (z_oks_hd hst) (z_oks_cons (z_oks_hd (z_oks_tl hst)) hst)) hσ H locs ls hP hS hl)
def z_ifeq (A B : zB) (L : zL) (st : List zV) (σ : zM) : Prop := match st with
  | .inl x :: st => (x = 0 → A L st σ) ∧ (¬ x = 0 → B L st σ)
  | _ => False
def z_iceq (A B : zB) (L : zL) (st : List zV) (σ : zM) : Prop := match st with
  | .inl y :: .inl x :: st => (x = y → A L st σ) ∧ (¬ x = y → B L st σ)
  | _ => False
theorem s_ifeq (C : z_Cx zx zn zA cl sl p R s m args c cc own nL D cA ad) {pc tgt : Nat} {off : Int} (d : decode cc pc = .ok (.ifCond .eq off, 3)) (ht : (pc : Int) + off = (tgt : Int)) {A : zB} (hA : ∀ L st σ, A L st σ → z_X zx zn zA cl sl p l e R s m args below meth c Q nL D cA ad fl (tgt) L st σ) {B : zB} (hB : ∀ L st σ, B L st σ → z_X zx zn zA cl sl p l e R s m args below meth c Q nL D cA ad fl (pc + 3) L st σ) : ∀ L st σ, z_ifeq A B L st σ → z_X zx zn zA cl sl p l e R s m args below meth c Q nL D cA ad fl pc L st σ := by
  intro L st σ h hn hL hst hσ H locs ls hP hS hl
  obtain ⟨hx, hb, hml, hown, hts, hK, hi, hAz, hcs, hE⟩ := C
  rcases st with _ | ⟨x | x | q, st⟩ <;> try (exact h.elim)
  have hx9 : z_in x := z_oks_hd hst
  have Q1 := (z_eq hx9 z_in0)
  exact lv_if_eq hx hb d ht (fun q => hA _ _ _ (h.1 (Q1.mp q)) hn hL (z_oks_tl hst) hσ H locs ls hP hS hl) (fun q => hB _ _ _ ((fun q => h.2 (fun q2 => q (Q1.mpr q2))) q) hn hL (z_oks_tl hst) hσ H locs ls hP hS hl)
theorem s_iceq (C : z_Cx zx zn zA cl sl p R s m args c cc own nL D cA ad) {pc tgt : Nat} {off : Int} (d : decode cc pc = .ok (.if_icmp .eq off, 3)) (ht : (pc : Int) + off = (tgt : Int)) {A : zB} (hA : ∀ L st σ, A L st σ → z_X zx zn zA cl sl p l e R s m args below meth c Q nL D cA ad fl (tgt) L st σ) {B : zB} (hB : ∀ L st σ, B L st σ → z_X zx zn zA cl sl p l e R s m args below meth c Q nL D cA ad fl (pc + 3) L st σ) : ∀ L st σ, z_iceq A B L st σ → z_X zx zn zA cl sl p l e R s m args below meth c Q nL D cA ad fl pc L st σ := by
  intro L st σ h hn hL hst hσ H locs ls hP hS hl
  obtain ⟨hx, hb, hml, hown, hts, hK, hi, hAz, hcs, hE⟩ := C
  rcases st with _ | ⟨y | y | q, _ | ⟨x | x | q, st⟩⟩ <;> try (exact h.elim)
  have hy : z_in y := z_oks_hd hst
  have hx9 : z_in x := z_oks_hd (z_oks_tl hst)
  have Q1 := (z_eq hx9 hy)
  exact lv_icmp_eq hx hb d ht (fun q => hA _ _ _ (h.1 (Q1.mp q)) hn hL (z_oks_tl (z_oks_tl hst)) hσ H locs ls hP hS hl) (fun q => hB _ _ _ ((fun q => h.2 (fun q2 => q (Q1.mpr q2))) q) hn hL (z_oks_tl (z_oks_tl hst)) hσ H locs ls hP hS hl)
def z_ifne (A B : zB) (L : zL) (st : List zV) (σ : zM) : Prop := match st with
  | .inl x :: st => (¬ x = 0 → A L st σ) ∧ (x = 0 → B L st σ)
  | _ => False
def z_icne (A B : zB) (L : zL) (st : List zV) (σ : zM) : Prop := match st with
  | .inl y :: .inl x :: st => (¬ x = y → A L st σ) ∧ (x = y → B L st σ)
  | _ => False
theorem s_ifne (C : z_Cx zx zn zA cl sl p R s m args c cc own nL D cA ad) {pc tgt : Nat} {off : Int} (d : decode cc pc = .ok (.ifCond .ne off, 3)) (ht : (pc : Int) + off = (tgt : Int)) {A : zB} (hA : ∀ L st σ, A L st σ → z_X zx zn zA cl sl p l e R s m args below meth c Q nL D cA ad fl (tgt) L st σ) {B : zB} (hB : ∀ L st σ, B L st σ → z_X zx zn zA cl sl p l e R s m args below meth c Q nL D cA ad fl (pc + 3) L st σ) : ∀ L st σ, z_ifne A B L st σ → z_X zx zn zA cl sl p l e R s m args below meth c Q nL D cA ad fl pc L st σ := by
  intro L st σ h hn hL hst hσ H locs ls hP hS hl
  obtain ⟨hx, hb, hml, hown, hts, hK, hi, hAz, hcs, hE⟩ := C
  rcases st with _ | ⟨x | x | q, st⟩ <;> try (exact h.elim)
  have hx9 : z_in x := z_oks_hd hst
  have Q1 := (not_congr (z_eq hx9 z_in0))
  exact lv_if_ne hx hb d ht (fun q => hA _ _ _ (h.1 (Q1.mp q)) hn hL (z_oks_tl hst) hσ H locs ls hP hS hl) (fun q => hB _ _ _ ((fun q => h.2 (Classical.not_not.mp (fun q2 => Q1.mpr q2 q))) q) hn hL (z_oks_tl hst) hσ H locs ls hP hS hl)
theorem s_icne (C : z_Cx zx zn zA cl sl p R s m args c cc own nL D cA ad) {pc tgt : Nat} {off : Int} (d : decode cc pc = .ok (.if_icmp .ne off, 3)) (ht : (pc : Int) + off = (tgt : Int)) {A : zB} (hA : ∀ L st σ, A L st σ → z_X zx zn zA cl sl p l e R s m args below meth c Q nL D cA ad fl (tgt) L st σ) {B : zB} (hB : ∀ L st σ, B L st σ → z_X zx zn zA cl sl p l e R s m args below meth c Q nL D cA ad fl (pc + 3) L st σ) : ∀ L st σ, z_icne A B L st σ → z_X zx zn zA cl sl p l e R s m args below meth c Q nL D cA ad fl pc L st σ := by
  intro L st σ h hn hL hst hσ H locs ls hP hS hl
  obtain ⟨hx, hb, hml, hown, hts, hK, hi, hAz, hcs, hE⟩ := C
  rcases st with _ | ⟨y | y | q, _ | ⟨x | x | q, st⟩⟩ <;> try (exact h.elim)
  have hy : z_in y := z_oks_hd hst
  have hx9 : z_in x := z_oks_hd (z_oks_tl hst)
  have Q1 := (not_congr (z_eq hx9 hy))
  exact lv_icmp_ne hx hb d ht (fun q => hA _ _ _ (h.1 (Q1.mp q)) hn hL (z_oks_tl (z_oks_tl hst)) hσ H locs ls hP hS hl) (fun q => hB _ _ _ ((fun q => h.2 (Classical.not_not.mp (fun q2 => Q1.mpr q2 q))) q) hn hL (z_oks_tl (z_oks_tl hst)) hσ H locs ls hP hS hl)
def z_iflt (A B : zB) (L : zL) (st : List zV) (σ : zM) : Prop := match st with
  | .inl x :: st => (x < 0 → A L st σ) ∧ (¬ x < 0 → B L st σ)
  | _ => False
def z_iclt (A B : zB) (L : zL) (st : List zV) (σ : zM) : Prop := match st with
  | .inl y :: .inl x :: st => (x < y → A L st σ) ∧ (¬ x < y → B L st σ)
  | _ => False
theorem s_iflt (C : z_Cx zx zn zA cl sl p R s m args c cc own nL D cA ad) {pc tgt : Nat} {off : Int} (d : decode cc pc = .ok (.ifCond .lt off, 3)) (ht : (pc : Int) + off = (tgt : Int)) {A : zB} (hA : ∀ L st σ, A L st σ → z_X zx zn zA cl sl p l e R s m args below meth c Q nL D cA ad fl (tgt) L st σ) {B : zB} (hB : ∀ L st σ, B L st σ → z_X zx zn zA cl sl p l e R s m args below meth c Q nL D cA ad fl (pc + 3) L st σ) : ∀ L st σ, z_iflt A B L st σ → z_X zx zn zA cl sl p l e R s m args below meth c Q nL D cA ad fl pc L st σ := by
  intro L st σ h hn hL hst hσ H locs ls hP hS hl
  obtain ⟨hx, hb, hml, hown, hts, hK, hi, hAz, hcs, hE⟩ := C
  rcases st with _ | ⟨x | x | q, st⟩ <;> try (exact h.elim)
  have hx9 : z_in x := z_oks_hd hst
  have Q1 := (z_lt hx9 z_in0)
  exact lv_if_lt hx hb d ht (fun q => hA _ _ _ (h.1 (Q1.mp q)) hn hL (z_oks_tl hst) hσ H locs ls hP hS hl) (fun q => hB _ _ _ ((fun q => h.2 (fun q2 => q (Q1.mpr q2))) q) hn hL (z_oks_tl hst) hσ H locs ls hP hS hl)
theorem s_iclt (C : z_Cx zx zn zA cl sl p R s m args c cc own nL D cA ad) {pc tgt : Nat} {off : Int} (d : decode cc pc = .ok (.if_icmp .lt off, 3)) (ht : (pc : Int) + off = (tgt : Int)) {A : zB} (hA : ∀ L st σ, A L st σ → z_X zx zn zA cl sl p l e R s m args below meth c Q nL D cA ad fl (tgt) L st σ) {B : zB} (hB : ∀ L st σ, B L st σ → z_X zx zn zA cl sl p l e R s m args below meth c Q nL D cA ad fl (pc + 3) L st σ) : ∀ L st σ, z_iclt A B L st σ → z_X zx zn zA cl sl p l e R s m args below meth c Q nL D cA ad fl pc L st σ := by
  intro L st σ h hn hL hst hσ H locs ls hP hS hl
  obtain ⟨hx, hb, hml, hown, hts, hK, hi, hAz, hcs, hE⟩ := C
  rcases st with _ | ⟨y | y | q, _ | ⟨x | x | q, st⟩⟩ <;> try (exact h.elim)
  have hy : z_in y := z_oks_hd hst
  have hx9 : z_in x := z_oks_hd (z_oks_tl hst)
  have Q1 := (z_lt hx9 hy)
  exact lv_icmp_lt hx hb d ht (fun q => hA _ _ _ (h.1 (Q1.mp q)) hn hL (z_oks_tl (z_oks_tl hst)) hσ H locs ls hP hS hl) (fun q => hB _ _ _ ((fun q => h.2 (fun q2 => q (Q1.mpr q2))) q) hn hL (z_oks_tl (z_oks_tl hst)) hσ H locs ls hP hS hl)
def z_ifge (A B : zB) (L : zL) (st : List zV) (σ : zM) : Prop := match st with
  | .inl x :: st => (0 ≤ x → A L st σ) ∧ (¬ 0 ≤ x → B L st σ)
  | _ => False
def z_icge (A B : zB) (L : zL) (st : List zV) (σ : zM) : Prop := match st with
  | .inl y :: .inl x :: st => (y ≤ x → A L st σ) ∧ (¬ y ≤ x → B L st σ)
  | _ => False
theorem s_ifge (C : z_Cx zx zn zA cl sl p R s m args c cc own nL D cA ad) {pc tgt : Nat} {off : Int} (d : decode cc pc = .ok (.ifCond .ge off, 3)) (ht : (pc : Int) + off = (tgt : Int)) {A : zB} (hA : ∀ L st σ, A L st σ → z_X zx zn zA cl sl p l e R s m args below meth c Q nL D cA ad fl (tgt) L st σ) {B : zB} (hB : ∀ L st σ, B L st σ → z_X zx zn zA cl sl p l e R s m args below meth c Q nL D cA ad fl (pc + 3) L st σ) : ∀ L st σ, z_ifge A B L st σ → z_X zx zn zA cl sl p l e R s m args below meth c Q nL D cA ad fl pc L st σ := by
  intro L st σ h hn hL hst hσ H locs ls hP hS hl
  obtain ⟨hx, hb, hml, hown, hts, hK, hi, hAz, hcs, hE⟩ := C
  rcases st with _ | ⟨x | x | q, st⟩ <;> try (exact h.elim)
  have hx9 : z_in x := z_oks_hd hst
  have Q1 := (z_le z_in0 hx9)
  exact lv_if_ge hx hb d ht (fun q => hA _ _ _ (h.1 (Q1.mp q)) hn hL (z_oks_tl hst) hσ H locs ls hP hS hl) (fun q => hB _ _ _ ((fun q => h.2 (fun q2 => q (Q1.mpr q2))) q) hn hL (z_oks_tl hst) hσ H locs ls hP hS hl)
theorem s_icge (C : z_Cx zx zn zA cl sl p R s m args c cc own nL D cA ad) {pc tgt : Nat} {off : Int} (d : decode cc pc = .ok (.if_icmp .ge off, 3)) (ht : (pc : Int) + off = (tgt : Int)) {A : zB} (hA : ∀ L st σ, A L st σ → z_X zx zn zA cl sl p l e R s m args below meth c Q nL D cA ad fl (tgt) L st σ) {B : zB} (hB : ∀ L st σ, B L st σ → z_X zx zn zA cl sl p l e R s m args below meth c Q nL D cA ad fl (pc + 3) L st σ) : ∀ L st σ, z_icge A B L st σ → z_X zx zn zA cl sl p l e R s m args below meth c Q nL D cA ad fl pc L st σ := by
  intro L st σ h hn hL hst hσ H locs ls hP hS hl
  obtain ⟨hx, hb, hml, hown, hts, hK, hi, hAz, hcs, hE⟩ := C
  rcases st with _ | ⟨y | y | q, _ | ⟨x | x | q, st⟩⟩ <;> try (exact h.elim)
  have hy : z_in y := z_oks_hd hst
  have hx9 : z_in x := z_oks_hd (z_oks_tl hst)
  have Q1 := (z_le hy hx9)
  exact lv_icmp_ge hx hb d ht (fun q => hA _ _ _ (h.1 (Q1.mp q)) hn hL (z_oks_tl (z_oks_tl hst)) hσ H locs ls hP hS hl) (fun q => hB _ _ _ ((fun q => h.2 (fun q2 => q (Q1.mpr q2))) q) hn hL (z_oks_tl (z_oks_tl hst)) hσ H locs ls hP hS hl)
def z_ifgt (A B : zB) (L : zL) (st : List zV) (σ : zM) : Prop := match st with
  | .inl x :: st => (0 < x → A L st σ) ∧ (¬ 0 < x → B L st σ)
  | _ => False
def z_icgt (A B : zB) (L : zL) (st : List zV) (σ : zM) : Prop := match st with
  | .inl y :: .inl x :: st => (y < x → A L st σ) ∧ (¬ y < x → B L st σ)
  | _ => False
theorem s_ifgt (C : z_Cx zx zn zA cl sl p R s m args c cc own nL D cA ad) {pc tgt : Nat} {off : Int} (d : decode cc pc = .ok (.ifCond .gt off, 3)) (ht : (pc : Int) + off = (tgt : Int)) {A : zB} (hA : ∀ L st σ, A L st σ → z_X zx zn zA cl sl p l e R s m args below meth c Q nL D cA ad fl (tgt) L st σ) {B : zB} (hB : ∀ L st σ, B L st σ → z_X zx zn zA cl sl p l e R s m args below meth c Q nL D cA ad fl (pc + 3) L st σ) : ∀ L st σ, z_ifgt A B L st σ → z_X zx zn zA cl sl p l e R s m args below meth c Q nL D cA ad fl pc L st σ := by
  intro L st σ h hn hL hst hσ H locs ls hP hS hl
  obtain ⟨hx, hb, hml, hown, hts, hK, hi, hAz, hcs, hE⟩ := C
  rcases st with _ | ⟨x | x | q, st⟩ <;> try (exact h.elim)
  have hx9 : z_in x := z_oks_hd hst
  have Q1 := (z_lt z_in0 hx9)
  exact lv_if_gt hx hb d ht (fun q => hA _ _ _ (h.1 (Q1.mp q)) hn hL (z_oks_tl hst) hσ H locs ls hP hS hl) (fun q => hB _ _ _ ((fun q => h.2 (fun q2 => q (Q1.mpr q2))) q) hn hL (z_oks_tl hst) hσ H locs ls hP hS hl)
theorem s_icgt (C : z_Cx zx zn zA cl sl p R s m args c cc own nL D cA ad) {pc tgt : Nat} {off : Int} (d : decode cc pc = .ok (.if_icmp .gt off, 3)) (ht : (pc : Int) + off = (tgt : Int)) {A : zB} (hA : ∀ L st σ, A L st σ → z_X zx zn zA cl sl p l e R s m args below meth c Q nL D cA ad fl (tgt) L st σ) {B : zB} (hB : ∀ L st σ, B L st σ → z_X zx zn zA cl sl p l e R s m args below meth c Q nL D cA ad fl (pc + 3) L st σ) : ∀ L st σ, z_icgt A B L st σ → z_X zx zn zA cl sl p l e R s m args below meth c Q nL D cA ad fl pc L st σ := by
  intro L st σ h hn hL hst hσ H locs ls hP hS hl
  obtain ⟨hx, hb, hml, hown, hts, hK, hi, hAz, hcs, hE⟩ := C
  rcases st with _ | ⟨y | y | q, _ | ⟨x | x | q, st⟩⟩ <;> try (exact h.elim)
  have hy : z_in y := z_oks_hd hst
  have hx9 : z_in x := z_oks_hd (z_oks_tl hst)
  have Q1 := (z_lt hy hx9)
  exact lv_icmp_gt hx hb d ht (fun q => hA _ _ _ (h.1 (Q1.mp q)) hn hL (z_oks_tl (z_oks_tl hst)) hσ H locs ls hP hS hl) (fun q => hB _ _ _ ((fun q => h.2 (fun q2 => q (Q1.mpr q2))) q) hn hL (z_oks_tl (z_oks_tl hst)) hσ H locs ls hP hS hl)
def z_ifle (A B : zB) (L : zL) (st : List zV) (σ : zM) : Prop := match st with
  | .inl x :: st => (x ≤ 0 → A L st σ) ∧ (¬ x ≤ 0 → B L st σ)
  | _ => False
def z_icle (A B : zB) (L : zL) (st : List zV) (σ : zM) : Prop := match st with
  | .inl y :: .inl x :: st => (x ≤ y → A L st σ) ∧ (¬ x ≤ y → B L st σ)
  | _ => False
theorem s_ifle (C : z_Cx zx zn zA cl sl p R s m args c cc own nL D cA ad) {pc tgt : Nat} {off : Int} (d : decode cc pc = .ok (.ifCond .le off, 3)) (ht : (pc : Int) + off = (tgt : Int)) {A : zB} (hA : ∀ L st σ, A L st σ → z_X zx zn zA cl sl p l e R s m args below meth c Q nL D cA ad fl (tgt) L st σ) {B : zB} (hB : ∀ L st σ, B L st σ → z_X zx zn zA cl sl p l e R s m args below meth c Q nL D cA ad fl (pc + 3) L st σ) : ∀ L st σ, z_ifle A B L st σ → z_X zx zn zA cl sl p l e R s m args below meth c Q nL D cA ad fl pc L st σ := by
  intro L st σ h hn hL hst hσ H locs ls hP hS hl
  obtain ⟨hx, hb, hml, hown, hts, hK, hi, hAz, hcs, hE⟩ := C
  rcases st with _ | ⟨x | x | q, st⟩ <;> try (exact h.elim)
  have hx9 : z_in x := z_oks_hd hst
  have Q1 := (z_le hx9 z_in0)
  exact lv_if_le hx hb d ht (fun q => hA _ _ _ (h.1 (Q1.mp q)) hn hL (z_oks_tl hst) hσ H locs ls hP hS hl) (fun q => hB _ _ _ ((fun q => h.2 (fun q2 => q (Q1.mpr q2))) q) hn hL (z_oks_tl hst) hσ H locs ls hP hS hl)
theorem s_icle (C : z_Cx zx zn zA cl sl p R s m args c cc own nL D cA ad) {pc tgt : Nat} {off : Int} (d : decode cc pc = .ok (.if_icmp .le off, 3)) (ht : (pc : Int) + off = (tgt : Int)) {A : zB} (hA : ∀ L st σ, A L st σ → z_X zx zn zA cl sl p l e R s m args below meth c Q nL D cA ad fl (tgt) L st σ) {B : zB} (hB : ∀ L st σ, B L st σ → z_X zx zn zA cl sl p l e R s m args below meth c Q nL D cA ad fl (pc + 3) L st σ) : ∀ L st σ, z_icle A B L st σ → z_X zx zn zA cl sl p l e R s m args below meth c Q nL D cA ad fl pc L st σ := by
  intro L st σ h hn hL hst hσ H locs ls hP hS hl
  obtain ⟨hx, hb, hml, hown, hts, hK, hi, hAz, hcs, hE⟩ := C
  rcases st with _ | ⟨y | y | q, _ | ⟨x | x | q, st⟩⟩ <;> try (exact h.elim)
  have hy : z_in y := z_oks_hd hst
  have hx9 : z_in x := z_oks_hd (z_oks_tl hst)
  have Q1 := (z_le hx9 hy)
  exact lv_icmp_le hx hb d ht (fun q => hA _ _ _ (h.1 (Q1.mp q)) hn hL (z_oks_tl (z_oks_tl hst)) hσ H locs ls hP hS hl) (fun q => hB _ _ _ ((fun q => h.2 (fun q2 => q (Q1.mpr q2))) q) hn hL (z_oks_tl (z_oks_tl hst)) hσ H locs ls hP hS hl)
def z_goto (A : zB) (L : zL) (st : List zV) (σ : zM) : Prop := A L st σ
theorem s_goto (C : z_Cx zx zn zA cl sl p R s m args c cc own nL D cA ad) {pc tgt : Nat} {off : Int} (d : decode cc pc = .ok (.goto off, 3)) (ht : (pc : Int) + off = (tgt : Int)) {A : zB} (hA : ∀ L st σ, A L st σ → z_X zx zn zA cl sl p l e R s m args below meth c Q nL D cA ad fl (tgt) L st σ) : ∀ L st σ, z_goto A L st σ → z_X zx zn zA cl sl p l e R s m args below meth c Q nL D cA ad fl pc L st σ := by
  intro L st σ h hn hL hst hσ H locs ls hP hS hl
  obtain ⟨hx, hb, hml, hown, hts, hK, hi, hAz, hcs, hE⟩ := C
  exact lv_goto hx hb d ht (hA _ _ _ h hn hL hst hσ H locs ls hP hS hl)
def z_cases (x : Int) (L : zL) (st : List zV) (σ : zM) : Int → List zB → Prop
  | _, [] => True
  | lo, B :: Bs => (x = lo → B L st σ) ∧ z_cases x L st σ (lo + 1) Bs
theorem z_cases_at {x : Int} {L : zL} {st : List zV} {σ : zM} : ∀ (Bs : List zB) (lo : Int), z_cases x L st σ lo Bs → ∀ (i : Nat) (B : zB), Bs[i]? = some B → x = lo + i → B L st σ
  | [], _, _, _, _, hi, _ => by cases hi
  | A :: Bs, lo, h, 0, B, hi, e => by
    cases hi
    exact h.1 (by omega)
  | A :: Bs, lo, h, i + 1, B, hi, e => z_cases_at Bs (lo + 1) h.2 i B hi (by omega)
def z_tsw (lo : Int) (Bs : List zB) (A : zB) (L : zL) (st : List zV) (σ : zM) : Prop := match st with
  | .inl x :: st => z_cases x L st σ lo Bs ∧ ((x < lo ∨ lo + Bs.length ≤ x) → A L st σ)
  | _ => False
theorem s_tsw (C : z_Cx zx zn zA cl sl p R s m args c cc own nL D cA ad) {pc tgt : Nat} {dflt lo hj : Int} {offs : Array Int} {len : Nat} {Bs : List zB} {A : zB} (d : decode cc pc = .ok (.tableswitch dflt lo hj offs, len)) (ht : (pc : Int) + dflt = (tgt : Int)) (hlen : lo + Bs.length = hj + 1) (hA : ∀ L st σ, A L st σ → z_X zx zn zA cl sl p l e R s m args below meth c Q nL D cA ad fl tgt L st σ) (hBs : ∀ i : Nat, i < Bs.length → ∃ (off : Int) (t : Nat) (B : zB), offs[i]? = some off ∧ (pc : Int) + off = (t : Int) ∧ Bs[i]? = some B ∧ ∀ L st σ, B L st σ → z_X zx zn zA cl sl p l e R s m args below meth c Q nL D cA ad fl t L st σ) (hlo : z_in lo) (hhi : z_in hj) : ∀ L st σ, z_tsw lo Bs A L st σ → z_X zx zn zA cl sl p l e R s m args below meth c Q nL D cA ad fl pc L st σ := by
  intro L st σ h hn hL hst hσ H locs ls hP hS hl
  obtain ⟨hx, hb, hml, hown, hts, hK, hi, hAz, hcs, hE⟩ := C
  rcases st with _ | ⟨x | x | q, st⟩ <;> try (exact h.elim)
  have hx9 : z_in x := z_oks_hd hst
  have hxe := z_toInt hx9
  by_cases h1 : x < lo ∨ hj < x
  · exact lv_tableOut hx hb d (by rw [hxe]; exact h1) ht (hA _ _ _ (h.2 (by omega)) hn hL (z_oks_tl hst) hσ H locs ls hP hS hl)
  · obtain ⟨off, t, B, q1, q2, q3, q4⟩ := hBs (x - lo).toNat (by omega)
    exact lv_tableIn hx hb d (by rw [hxe]; omega) (by rw [hxe]; omega) (by rw [hxe]; exact q1) q2 (q4 _ _ _ (z_cases_at Bs lo h.1 _ B q3 (by omega)) hn hL (z_oks_tl hst) hσ H locs ls hP hS hl)
end ZI
