/-! ===== the indexed world: N cells; cell k lies at ad k and holds ct k ===== -/
def ix (N : Nat) (ad : Nat → Nat) (ct : Nat → va_E) : va_W := (List.range N).map (fun k => (ad k, ct k))
theorem ix_at {N : Nat} {ad : Nat → Nat} {ct : Nat → va_E} {k : Nat} (h : k < N) : (ix N ad ct)[k]? = some (ad k, ct k) := by
  unfold ix; rw [List.getElem?_map, List.getElem?_range h]; rfl
theorem ix_no {N : Nat} {ad : Nat → Nat} {ct : Nat → va_E} {k : Nat} (h : N ≤ k) : (ix N ad ct)[k]? = none := by
  unfold ix; exact List.getElem?_eq_none (by rw [List.length_map, List.length_range]; exact h)
theorem ix_e {N : Nat} {ad : Nat → Nat} {ct : Nat → va_E} {k : Nat} {e : va_E} (h : k < N) (he : ct k = e) : (ix N ad ct)[k]? = some (ad k, e) := by rw [ix_at h, he]
theorem ix_lt {N : Nat} {ad : Nat → Nat} {ct : Nat → va_E} {k : Nat} {q : Nat × va_E} (h : (ix N ad ct)[k]? = some q) : k < N := by
  rcases Nat.lt_or_ge k N with h1 | h1
  · exact h1
  · rw [ix_no h1] at h; cases h
theorem ix_set {N : Nat} {ad : Nat → Nat} {ct : Nat → va_E} {k : Nat} {e : va_E} : (ix N ad ct).set k (ad k, e) = ix N ad (va_up ct k e) := by
  apply List.ext_getElem?
  intro j
  rw [List.getElem?_set]
  by_cases hj : j < N
  · rw [ix_at (ct := va_up ct k e) hj]
    by_cases hk : k = j
    · subst hk
      have hl : k < (ix N ad ct).length := by unfold ix; rw [List.length_map, List.length_range]; exact hj
      rw [if_pos rfl, if_pos hl, va_up_self]
    · rw [if_neg hk, ix_at hj, va_up_ne ct e (fun h => hk h.symm)]
  · rw [ix_no (ct := va_up ct k e) (by omega)]
    by_cases hk : k = j
    · subst hk
      have hl : ¬ k < (ix N ad ct).length := by unfold ix; rw [List.length_map, List.length_range]; exact hj
      rw [if_pos rfl, if_neg hl]
    · rw [if_neg hk, ix_no (by omega)]
theorem ix_D {A : Nat → Prop} {N : Nat} {ad : Nat → Nat} {ct ct' : Nat → va_E} (h : va_D A (ix N ad ct)) : va_D A (ix N ad ct') := by
  refine ⟨fun i j p q hi hj hpq => ?_, fun k q hk => ?_⟩
  · have h1 := ix_lt hi
    have h2 := ix_lt hj
    rw [ix_at h1] at hi
    rw [ix_at h2] at hj
    cases hi; cases hj
    exact h.1 i j _ _ (ix_at h1) (ix_at h2) hpq
  · have h1 := ix_lt hk
    rw [ix_at h1] at hk
    cases hk
    exact h.2 k (ad k, ct k) (ix_at h1)
theorem ix_inj {A : Nat → Prop} {N : Nat} {ad : Nat → Nat} {ct : Nat → va_E} (h : va_D A (ix N ad ct)) {i j : Nat} (hi : i < N) (hj : j < N) (e : ad i = ad j) : i = j := h.1 i j _ _ (ix_at hi) (ix_at hj) e
/-- the addresses of the world and all new ones: what a method may write -/
def ixA (N : Nat) (ad : Nat → Nat) (sz : Nat) : Nat → Prop := fun q => (∃ k, k < N ∧ q = ad k) ∨ sz ≤ q
theorem ixA_D {A : Nat → Prop} {N : Nat} {ad : Nat → Nat} {ct : Nat → va_E} {sz : Nat} (h : va_D A (ix N ad ct)) : va_D (ixA N ad sz) (ix N ad ct) :=
  ⟨h.1, fun k q hk => by have h1 := ix_lt hk; rw [ix_at h1] at hk; cases hk; exact Or.inl ⟨k, h1, rfl⟩⟩
theorem ixA_up {A0 : Nat → Prop} {N : Nat} {ad : Nat → Nat} {ct : Nat → va_E} {H0 H : Heap} {locs : List Loc} (hD : va_D A0 (ix N ad ct)) (hS : va_S A0 H0 H locs) (hA : ∀ q, H0.size ≤ q → A0 q) : ∀ q, ixA N ad H.size q → A0 q := by
  intro q h
  rcases h with ⟨k, hk, rfl⟩ | h
  · exact hD.2 k _ (ix_at hk)
  · exact hA q (Nat.le_trans hS.1 h)
/-! ===== locals: the first row of an index counts; none: nothing is known ===== -/
abbrev gLv : Type := List (Nat × Option Value)
def lvq : gLv → Nat → Option Value
  | [], _ => none
  | q :: t, i => cond (Nat.beq q.1 i) q.2 (lvq t i)
def lvc (lv : gLv) : Nat → Bool
  | 0 => true
  | i + 1 => match lvq lv i with
    | some v => v.category == 1
    | none => true
def lvh (ls : Array Slot) (nL : Nat) (lv : gLv) : Prop := ls.size = nL ∧ lv_wf ls ∧ ∀ i v, lvq lv i = some v → ls[i]? = some (.val v)
theorem lvq_hd (i : Nat) (o : Option Value) (t : gLv) : lvq ((i, o) :: t) i = o := by simp [lvq]
theorem lvq_tl {i j : Nat} (o : Option Value) (t : gLv) (h : j ≠ i) : lvq ((i, o) :: t) j = lvq t j := by
  have : Nat.beq i j = false := by
    cases hb : Nat.beq i j
    · rfl
    · exact absurd (Nat.eq_of_beq_eq_true hb).symm h
  simp [lvq, this]
theorem lvh_st1 {ls : Array Slot} {nL : Nat} {lv : gLv} {i : Nat} {v : Value} (h : lvh ls nL lv) (hi : i < nL) (hc : v.category = 1) (hp : lvc lv i = true) :
    ∃ ls', storeLocals ls i v = some ls' ∧ lvh ls' nL ((i, some v) :: lv) := by
  obtain ⟨h1, h2, h3⟩ := h
  obtain ⟨ls', e0, k1, k2, k3⟩ := lv_store1 (ls := ls) (nL := nL) (l := []) (v := v) ⟨h1, h2, fun q hq => nomatch hq⟩ hi hc
  refine ⟨ls', e0, k1, k2, fun j w hw => ?_⟩
  by_cases hj : j = i
  · subst hj
    rw [lvq_hd] at hw
    cases hw
    exact k3 (j, v) List.mem_cons_self
  · rw [lvq_tl _ _ hj] at hw
    obtain ⟨ls2, e2, m1, m2, m3⟩ := lv_store1 (ls := ls) (nL := nL) (l := [(j, w)]) (v := v) ⟨h1, h2, fun q hq => by rw [List.mem_singleton] at hq; subst hq; exact h3 j w hw⟩ hi hc
    have : ls2 = ls' := Option.some.inj (e2.symm.trans e0)
    subst this
    refine m3 (j, w) (List.mem_cons_of_mem _ (List.mem_filter.mpr ⟨List.mem_singleton.mpr rfl, ?_⟩))
    have a1 : (j == i) = false := by simp [hj]
    have a2 : (j + 1 == i && w.category == 2) = false := by
      by_cases hji : j + 1 = i
      · subst hji
        simp only [lvc, hw] at hp
        have := eq_of_beq hp
        simp [this]
      · simp [hji]
    simp [a1, a2]
theorem lvh_st2 {ls : Array Slot} {nL : Nat} {lv : gLv} {i : Nat} {v : Value} (h : lvh ls nL lv) (hi : i + 1 < nL) (hc : v.category = 2) (hp : lvc lv i = true) :
    ∃ ls', storeLocals ls i v = some ls' ∧ lvh ls' nL ((i, some v) :: (i + 1, none) :: lv) := by
  obtain ⟨h1, h2, h3⟩ := h
  obtain ⟨ls', e0, k1, k2, k3⟩ := lv_store2 (ls := ls) (nL := nL) (l := []) (v := v) ⟨h1, h2, fun q hq => nomatch hq⟩ hi hc
  refine ⟨ls', e0, k1, k2, fun j w hw => ?_⟩
  by_cases hj : j = i
  · subst hj
    rw [lvq_hd] at hw
    cases hw
    exact k3 (j, v) List.mem_cons_self
  · rw [lvq_tl _ _ hj] at hw
    by_cases hj2 : j = i + 1
    · subst hj2
      rw [lvq_hd] at hw
      cases hw
    rw [lvq_tl _ _ hj2] at hw
    obtain ⟨ls2, e2, m1, m2, m3⟩ := lv_store2 (ls := ls) (nL := nL) (l := [(j, w)]) (v := v) ⟨h1, h2, fun q hq => by rw [List.mem_singleton] at hq; subst hq; exact h3 j w hw⟩ hi hc
    have : ls2 = ls' := Option.some.inj (e2.symm.trans e0)
    subst this
    refine m3 (j, w) (List.mem_cons_of_mem _ (List.mem_filter.mpr ⟨List.mem_singleton.mpr rfl, ?_⟩))
    have a1 : (j == i) = false := by simp [hj]
    have a3 : (j == i + 1) = false := by simp [hj2]
    have a2 : (j + 1 == i && w.category == 2) = false := by
      by_cases hji : j + 1 = i
      · subst hji
        simp only [lvc, hw] at hp
        have := eq_of_beq hp
        simp [this]
      · simp [hji]
    simp [a1, a2, a3]
/-- all rows of lv' are rows of lv -/
def lvp (lv : gLv) : List (Nat × Option Value) → Prop
  | [] => True
  | q :: t => (q.2 = none ∨ lvq lv q.1 = q.2) ∧ lvp lv t
theorem lvp_q {lv : gLv} : ∀ {lv' : gLv}, lvp lv lv' → ∀ i v, lvq lv' i = some v → lvq lv i = some v
  | [], _, i, v, h => by cases h
  | q :: t, hp, i, v, h => by
    by_cases hq : i = q.1
    · subst hq
      have h' : q.2 = some v := by
        have := lvq_hd q.1 q.2 t
        exact this.symm.trans h
      rcases hp.1 with h0 | h0
      · rw [h0] at h'; cases h'
      · rw [h0, h']
    · have h2 : lvq t i = some v := by
        have := lvq_tl (i := q.1) (j := i) q.2 t hq
        exact this.symm.trans h
      exact lvp_q hp.2 i v h2
theorem lvh_p {ls : Array Slot} {nL : Nat} {lv lv' : gLv} (h : lvh ls nL lv) (hp : lvp lv lv') : lvh ls nL lv' := ⟨h.1, h.2.1, fun i v hv => h.2.2 i v (lvp_q hp i v hv)⟩
def lva : Nat → List Value → gLv
  | _, [] => []
  | i, v :: vs => (i, some v) :: lva (if v.category = 2 then i + 2 else i + 1) vs
theorem lva_mem : ∀ (vs : List Value) (k i : Nat) (v : Value), lvq (lva k vs) i = some v → (i, v) ∈ lv_args k vs
  | [], k, i, v, h => by cases h
  | w :: ws, k, i, v, h => by
    by_cases hk : i = k
    · subst hk
      have := lvq_hd i (some w) (lva (if w.category = 2 then i + 2 else i + 1) ws)
      have h2 : some w = some v := this.symm.trans h
      cases h2
      exact List.mem_cons_self
    · have := lvq_tl (i := k) (j := i) (some w) (lva (if w.category = 2 then k + 2 else k + 1) ws) hk
      exact List.mem_cons_of_mem _ (lva_mem ws _ i v (this.symm.trans h))
theorem lva_h {ls : Array Slot} {nL : Nat} {vs : List Value} (h : lv_has ls nL (lv_args 0 vs)) : lvh ls nL (lva 0 vs) := ⟨h.1, h.2.1, fun i v hv => h.2.2 (i, v) (lva_mem vs 0 i v hv)⟩
/-! ===== the machine where a method stands, as one thing; the walk over the indexed world ===== -/
abbrev gM : Type := Program × Launch × Env × Room × State × MethodId × Array Value × List Frame × Method × Code
abbrev gl (M : gM) : Launch := M.2.1
abbrev ge (M : gM) : Env := M.2.2.1
abbrev gR (M : gM) : Room := M.2.2.2.1
abbrev gs (M : gM) : State := M.2.2.2.2.1
abbrev gm (M : gM) : MethodId := M.2.2.2.2.2.1
abbrev ga (M : gM) : Array Value := M.2.2.2.2.2.2.1
abbrev gb (M : gM) : List Frame := M.2.2.2.2.2.2.2.1
abbrev gt (M : gM) : Method := M.2.2.2.2.2.2.2.2.1
abbrev gc (M : gM) : Code := M.2.2.2.2.2.2.2.2.2
def gW (M : gM) (D : va_G) (cl : List vw_C) (A : Nat → Prop) (nL cells slots : Nat) (Q : State → Prop) (N : Nat) (ad : Nat → Nat) (pc : Nat) (lv : gLv) (st : List Value) (ct : Nat → va_E) : Prop :=
  ∀ (H : Heap) (locs : List Loc) (ls : Array Slot), va_P D cl (ix N ad ct) H → va_D A (ix N ad ct) → va_S A (gs M).heap H locs → lvh ls nL lv →
    W M.1 (gl M) (ge M) (gR M) (gs M) (gm M) (ga M) (gb M) (gt M) (gc M) H locs cells slots Q (F0 (gm M) pc ls st)
/-- what stays while a method runs -/
def gX (M : gM) (cc : ByteArray) (own : String) (Ts : List Cond) (tys : List (ClassId × FieldType)) (D : va_G) (cl : List vw_C) (A : Nat → Prop) (nL : Nat) : Prop :=
  M.1.tables.exec = Jvm.exec ∧ (gc M).code = cc ∧ (gc M).maxLocals = nL ∧ (gs M).vm.findClass own = some (gm M).cls ∧ (∀ w ∈ Ts, w.before (ga M) (gs M) = true) ∧ va_K D cl tys (gs M) ∧ (∀ q, (gs M).heap.size ≤ q → A q) ∧ (gt M).locks = false
section
variable {M : gM} {cc : ByteArray} {own : String} {Ts : List Cond} {tys : List (ClassId × FieldType)} {D : va_G} {cl : List vw_C} {A : Nat → Prop} {nL cells slots : Nat} {Q : State → Prop} {N : Nat} {ad : Nat → Nat} {pc : Nat} {lv : gLv} {rest : List Value} {ct : Nat → va_E}
theorem g_lv {lv' : gLv} {st : List Value} (hp : lvp lv lv') (k : gW M D cl A nL cells slots Q N ad pc lv' st ct) : gW M D cl A nL cells slots Q N ad pc lv st ct := fun H locs ls hP hD hS hl => k H locs ls hP hD hS (lvh_p hl hp)
theorem g_ti {x : Int32} (y : Int32) (h : x = y) (k : gW M D cl A nL cells slots Q N ad pc lv (.int y :: rest) ct) : gW M D cl A nL cells slots Q N ad pc lv (.int x :: rest) ct := h ▸ k
theorem g_tl {x : Int64} (y : Int64) (h : x = y) (k : gW M D cl A nL cells slots Q N ad pc lv (.long y :: rest) ct) : gW M D cl A nL cells slots Q N ad pc lv (.long x :: rest) ct := h ▸ k
theorem g_st {st st' : List Value} (h : st = st') (k : gW M D cl A nL cells slots Q N ad pc lv st' ct) : gW M D cl A nL cells slots Q N ad pc lv st ct := h ▸ k
theorem g_ct {ct' : Nat → va_E} {st : List Value} (h : ct = ct') (k : gW M D cl A nL cells slots Q N ad pc lv st ct') : gW M D cl A nL cells slots Q N ad pc lv st ct := h ▸ k
theorem g_wd {k n : Nat} {st : List Value} (h1 : cells ≤ k) (h2 : slots ≤ n) (kk : gW M D cl A nL k n Q N ad pc lv st ct) : gW M D cl A nL cells slots Q N ad pc lv st ct := fun H locs ls hP hD hS hl => W.widen h1 h2 (kk H locs ls hP hD hS hl)

theorem g_iconst (C : gX M cc own Ts tys D cl A nL) {n : Int} (v : Int32) (d : decode cc pc = .ok (.iconst n, 1)) (hv : Int32.ofInt n = v := by decide) (k : gW M D cl A nL cells slots Q N ad (pc + 1) lv (.int v :: rest) ct) : gW M D cl A nL cells slots Q N ad pc lv rest ct := by
  intro H locs ls hP hD hS hl
  exact lv_iconst C.1 C.2.1 d hv (k H locs ls hP hD hS hl)
theorem g_bipush (C : gX M cc own Ts tys D cl A nL) {n : Int} (v : Int32) (d : decode cc pc = .ok (.bipush n, 2)) (hv : (Int8.ofInt n).toInt32 = v := by decide) (k : gW M D cl A nL cells slots Q N ad (pc + 2) lv (.int v :: rest) ct) : gW M D cl A nL cells slots Q N ad pc lv rest ct := by
  intro H locs ls hP hD hS hl
  exact lv_bipush C.1 C.2.1 d hv (k H locs ls hP hD hS hl)
theorem g_sipush (C : gX M cc own Ts tys D cl A nL) {n : Int} (v : Int32) (d : decode cc pc = .ok (.sipush n, 3)) (hv : (Int16.ofInt n).toInt32 = v := by decide) (k : gW M D cl A nL cells slots Q N ad (pc + 3) lv (.int v :: rest) ct) : gW M D cl A nL cells slots Q N ad pc lv rest ct := by
  intro H locs ls hP hD hS hl
  exact lv_sipush C.1 C.2.1 d hv (k H locs ls hP hD hS hl)
theorem g_lconst (C : gX M cc own Ts tys D cl A nL) {n : Fin 2} (v : Int64) (d : decode cc pc = .ok (.lconst n, 1)) (hv : Int64.ofNat (n : Nat) = v := by decide) (k : gW M D cl A nL cells slots Q N ad (pc + 1) lv (.long v :: rest) ct) : gW M D cl A nL cells slots Q N ad pc lv rest ct := by
  intro H locs ls hP hD hS hl
  exact lv_lconst C.1 C.2.1 d hv (k H locs ls hP hD hS hl)
theorem g_iload_n (C : gX M cc own Ts tys D cl A nL) {i : Fin 4} {x : Int32} (d : decode cc pc = .ok (.iload_n i, 1)) (h : lvq lv i = some (.int x) := by rfl) (k : gW M D cl A nL cells slots Q N ad (pc + 1) lv (.int x :: rest) ct) : gW M D cl A nL cells slots Q N ad pc lv rest ct := by
  intro H locs ls hP hD hS hl
  exact lv_iload_n C.1 C.2.1 d rfl (hl.2.2 _ _ h) (k H locs ls hP hD hS hl)
theorem g_iload (C : gX M cc own Ts tys D cl A nL) {i : Nat} {x : Int32} (d : decode cc pc = .ok (.iload i, 2)) (h : lvq lv i = some (.int x) := by rfl) (k : gW M D cl A nL cells slots Q N ad (pc + 2) lv (.int x :: rest) ct) : gW M D cl A nL cells slots Q N ad pc lv rest ct := by
  intro H locs ls hP hD hS hl
  exact lv_iload C.1 C.2.1 d (hl.2.2 _ _ h) (k H locs ls hP hD hS hl)
theorem g_lload_n (C : gX M cc own Ts tys D cl A nL) {i : Fin 4} {x : Int64} (d : decode cc pc = .ok (.lload_n i, 1)) (h : lvq lv i = some (.long x) := by rfl) (k : gW M D cl A nL cells slots Q N ad (pc + 1) lv (.long x :: rest) ct) : gW M D cl A nL cells slots Q N ad pc lv rest ct := by
  intro H locs ls hP hD hS hl
  exact lv_lload_n C.1 C.2.1 d rfl (hl.2.2 _ _ h) (k H locs ls hP hD hS hl)
theorem g_lload (C : gX M cc own Ts tys D cl A nL) {i : Nat} {x : Int64} (d : decode cc pc = .ok (.lload i, 2)) (h : lvq lv i = some (.long x) := by rfl) (k : gW M D cl A nL cells slots Q N ad (pc + 2) lv (.long x :: rest) ct) : gW M D cl A nL cells slots Q N ad pc lv rest ct := by
  intro H locs ls hP hD hS hl
  exact lv_lload C.1 C.2.1 d (hl.2.2 _ _ h) (k H locs ls hP hD hS hl)
theorem g_aload_n (C : gX M cc own Ts tys D cl A nL) {i : Fin 4} {x : Nat} (d : decode cc pc = .ok (.aload_n i, 1)) (h : lvq lv i = some (.ref x) := by rfl) (k : gW M D cl A nL cells slots Q N ad (pc + 1) lv (.ref x :: rest) ct) : gW M D cl A nL cells slots Q N ad pc lv rest ct := by
  intro H locs ls hP hD hS hl
  exact lv_aload_n C.1 C.2.1 d rfl (hl.2.2 _ _ h) (k H locs ls hP hD hS hl)
theorem g_aload (C : gX M cc own Ts tys D cl A nL) {i : Nat} {x : Nat} (d : decode cc pc = .ok (.aload i, 2)) (h : lvq lv i = some (.ref x) := by rfl) (k : gW M D cl A nL cells slots Q N ad (pc + 2) lv (.ref x :: rest) ct) : gW M D cl A nL cells slots Q N ad pc lv rest ct := by
  intro H locs ls hP hD hS hl
  exact lv_aload C.1 C.2.1 d (hl.2.2 _ _ h) (k H locs ls hP hD hS hl)
theorem g_istore_n (C : gX M cc own Ts tys D cl A nL) {i : Fin 4} {x : Int32} (d : decode cc pc = .ok (.istore_n i, 1)) (hi : (i : Nat) < nL := by decide) (hc : lvc lv i = true := by rfl) (k : gW M D cl A nL cells slots Q N ad (pc + 1) (((i : Nat), some (.int x)) :: lv) rest ct) : gW M D cl A nL cells slots Q N ad pc lv (.int x :: rest) ct := by
  intro H locs ls hP hD hS hl
  obtain ⟨ls', e', h'⟩ := lvh_st1 (v := .int x) hl hi rfl hc
  intro T hT X
  obtain ⟨t, a, b⟩ := k H locs ls' hP hD hS h' T hT X
  have hx := C.1
  have hb := C.2.1
  refine ⟨t, ?_, b⟩
  jvm_step X.here [X.here.top, ↓top_set X.here.top, hx, hb, d, e']
  exact a
theorem g_istore (C : gX M cc own Ts tys D cl A nL) {i : Nat} {x : Int32} (d : decode cc pc = .ok (.istore i, 2)) (hi : (i : Nat) < nL := by decide) (hc : lvc lv i = true := by rfl) (k : gW M D cl A nL cells slots Q N ad (pc + 2) (((i : Nat), some (.int x)) :: lv) rest ct) : gW M D cl A nL cells slots Q N ad pc lv (.int x :: rest) ct := by
  intro H locs ls hP hD hS hl
  obtain ⟨ls', e', h'⟩ := lvh_st1 (v := .int x) hl hi rfl hc
  intro T hT X
  obtain ⟨t, a, b⟩ := k H locs ls' hP hD hS h' T hT X
  have hx := C.1
  have hb := C.2.1
  refine ⟨t, ?_, b⟩
  jvm_step X.here [X.here.top, ↓top_set X.here.top, hx, hb, d, e']
  exact a
theorem g_lstore_n (C : gX M cc own Ts tys D cl A nL) {i : Fin 4} {x : Int64} (d : decode cc pc = .ok (.lstore_n i, 1)) (hi : (i : Nat) + 1 < nL := by decide) (hc : lvc lv i = true := by rfl) (k : gW M D cl A nL cells slots Q N ad (pc + 1) (((i : Nat), some (.long x)) :: ((i : Nat) + 1, none) :: lv) rest ct) : gW M D cl A nL cells slots Q N ad pc lv (.long x :: rest) ct := by
  intro H locs ls hP hD hS hl
  obtain ⟨ls', e', h'⟩ := lvh_st2 (v := .long x) hl hi rfl hc
  intro T hT X
  obtain ⟨t, a, b⟩ := k H locs ls' hP hD hS h' T hT X
  have hx := C.1
  have hb := C.2.1
  refine ⟨t, ?_, b⟩
  jvm_step X.here [X.here.top, ↓top_set X.here.top, hx, hb, d, e']
  exact a
theorem g_lstore (C : gX M cc own Ts tys D cl A nL) {i : Nat} {x : Int64} (d : decode cc pc = .ok (.lstore i, 2)) (hi : (i : Nat) + 1 < nL := by decide) (hc : lvc lv i = true := by rfl) (k : gW M D cl A nL cells slots Q N ad (pc + 2) (((i : Nat), some (.long x)) :: ((i : Nat) + 1, none) :: lv) rest ct) : gW M D cl A nL cells slots Q N ad pc lv (.long x :: rest) ct := by
  intro H locs ls hP hD hS hl
  obtain ⟨ls', e', h'⟩ := lvh_st2 (v := .long x) hl hi rfl hc
  intro T hT X
  obtain ⟨t, a, b⟩ := k H locs ls' hP hD hS h' T hT X
  have hx := C.1
  have hb := C.2.1
  refine ⟨t, ?_, b⟩
  jvm_step X.here [X.here.top, ↓top_set X.here.top, hx, hb, d, e']
  exact a
theorem g_astore_n (C : gX M cc own Ts tys D cl A nL) {i : Fin 4} {x : Nat} (d : decode cc pc = .ok (.astore_n i, 1)) (hi : (i : Nat) < nL := by decide) (hc : lvc lv i = true := by rfl) (k : gW M D cl A nL cells slots Q N ad (pc + 1) (((i : Nat), some (.ref x)) :: lv) rest ct) : gW M D cl A nL cells slots Q N ad pc lv (.ref x :: rest) ct := by
  intro H locs ls hP hD hS hl
  obtain ⟨ls', e', h'⟩ := lvh_st1 (v := .ref x) hl hi rfl hc
  intro T hT X
  obtain ⟨t, a, b⟩ := k H locs ls' hP hD hS h' T hT X
  have hx := C.1
  have hb := C.2.1
  refine ⟨t, ?_, b⟩
  jvm_step X.here [X.here.top, ↓top_set X.here.top, hx, hb, d, e', Value.isRef]
  exact a
theorem g_astore (C : gX M cc own Ts tys D cl A nL) {i : Nat} {x : Nat} (d : decode cc pc = .ok (.astore i, 2)) (hi : (i : Nat) < nL := by decide) (hc : lvc lv i = true := by rfl) (k : gW M D cl A nL cells slots Q N ad (pc + 2) (((i : Nat), some (.ref x)) :: lv) rest ct) : gW M D cl A nL cells slots Q N ad pc lv (.ref x :: rest) ct := by
  intro H locs ls hP hD hS hl
  obtain ⟨ls', e', h'⟩ := lvh_st1 (v := .ref x) hl hi rfl hc
  intro T hT X
  obtain ⟨t, a, b⟩ := k H locs ls' hP hD hS h' T hT X
  have hx := C.1
  have hb := C.2.1
  refine ⟨t, ?_, b⟩
  jvm_step X.here [X.here.top, ↓top_set X.here.top, hx, hb, d, e', Value.isRef]
  exact a
theorem g_iinc (C : gX M cc own Ts tys D cl A nL) {i : Nat} {n : Int} {x : Int32} (v : Int32) (d : decode cc pc = .ok (.iinc i n, 3)) (hv : x + Int32.ofInt n = v) (h : lvq lv i = some (.int x) := by rfl) (hi : i < nL := by decide) (hc : lvc lv i = true := by rfl) (k : gW M D cl A nL cells slots Q N ad (pc + 3) ((i, some (.int v)) :: lv) rest ct) : gW M D cl A nL cells slots Q N ad pc lv rest ct := by
  intro H locs ls hP hD hS hl
  subst hv
  have hg := hl.2.2 _ _ h
  obtain ⟨ls', e', h'⟩ := lvh_st1 (v := .int (x + Int32.ofInt n)) hl hi rfl hc
  intro T hT X
  obtain ⟨t, a, b⟩ := k H locs ls' hP hD hS h' T hT X
  have hx := C.1
  have hb := C.2.1
  refine ⟨t, ?_, b⟩
  jvm_step X.here [X.here.top, ↓top_set X.here.top, hx, hb, d, hg, e']
  exact a
theorem g_iadd (C : gX M cc own Ts tys D cl A nL) {x y : Int32} (d : decode cc pc = .ok (.iadd, 1)) (k : gW M D cl A nL cells slots Q N ad (pc + 1) lv (.int (x + y) :: rest) ct) : gW M D cl A nL cells slots Q N ad pc lv (.int y :: .int x :: rest) ct := by
  intro H locs ls hP hD hS hl
  exact lv_iadd C.1 C.2.1 d (k H locs ls hP hD hS hl)
theorem g_isub (C : gX M cc own Ts tys D cl A nL) {x y : Int32} (d : decode cc pc = .ok (.isub, 1)) (k : gW M D cl A nL cells slots Q N ad (pc + 1) lv (.int (x - y) :: rest) ct) : gW M D cl A nL cells slots Q N ad pc lv (.int y :: .int x :: rest) ct := by
  intro H locs ls hP hD hS hl
  exact lv_isub C.1 C.2.1 d (k H locs ls hP hD hS hl)
theorem g_imul (C : gX M cc own Ts tys D cl A nL) {x y : Int32} (d : decode cc pc = .ok (.imul, 1)) (k : gW M D cl A nL cells slots Q N ad (pc + 1) lv (.int (x * y) :: rest) ct) : gW M D cl A nL cells slots Q N ad pc lv (.int y :: .int x :: rest) ct := by
  intro H locs ls hP hD hS hl
  exact lv_imul C.1 C.2.1 d (k H locs ls hP hD hS hl)
theorem g_iand (C : gX M cc own Ts tys D cl A nL) {x y : Int32} (d : decode cc pc = .ok (.iand, 1)) (k : gW M D cl A nL cells slots Q N ad (pc + 1) lv (.int (x &&& y) :: rest) ct) : gW M D cl A nL cells slots Q N ad pc lv (.int y :: .int x :: rest) ct := by
  intro H locs ls hP hD hS hl
  exact lv_iand C.1 C.2.1 d (k H locs ls hP hD hS hl)
theorem g_ior (C : gX M cc own Ts tys D cl A nL) {x y : Int32} (d : decode cc pc = .ok (.ior, 1)) (k : gW M D cl A nL cells slots Q N ad (pc + 1) lv (.int (x ||| y) :: rest) ct) : gW M D cl A nL cells slots Q N ad pc lv (.int y :: .int x :: rest) ct := by
  intro H locs ls hP hD hS hl
  exact lv_ior C.1 C.2.1 d (k H locs ls hP hD hS hl)
theorem g_ixor (C : gX M cc own Ts tys D cl A nL) {x y : Int32} (d : decode cc pc = .ok (.ixor, 1)) (k : gW M D cl A nL cells slots Q N ad (pc + 1) lv (.int (x ^^^ y) :: rest) ct) : gW M D cl A nL cells slots Q N ad pc lv (.int y :: .int x :: rest) ct := by
  intro H locs ls hP hD hS hl
  exact lv_ixor C.1 C.2.1 d (k H locs ls hP hD hS hl)
theorem g_ladd (C : gX M cc own Ts tys D cl A nL) {x y : Int64} (d : decode cc pc = .ok (.ladd, 1)) (k : gW M D cl A nL cells slots Q N ad (pc + 1) lv (.long (x + y) :: rest) ct) : gW M D cl A nL cells slots Q N ad pc lv (.long y :: .long x :: rest) ct := by
  intro H locs ls hP hD hS hl
  exact lv_ladd C.1 C.2.1 d (k H locs ls hP hD hS hl)
theorem g_lsub (C : gX M cc own Ts tys D cl A nL) {x y : Int64} (d : decode cc pc = .ok (.lsub, 1)) (k : gW M D cl A nL cells slots Q N ad (pc + 1) lv (.long (x - y) :: rest) ct) : gW M D cl A nL cells slots Q N ad pc lv (.long y :: .long x :: rest) ct := by
  intro H locs ls hP hD hS hl
  exact lv_lsub C.1 C.2.1 d (k H locs ls hP hD hS hl)
theorem g_lmul (C : gX M cc own Ts tys D cl A nL) {x y : Int64} (d : decode cc pc = .ok (.lmul, 1)) (k : gW M D cl A nL cells slots Q N ad (pc + 1) lv (.long (x * y) :: rest) ct) : gW M D cl A nL cells slots Q N ad pc lv (.long y :: .long x :: rest) ct := by
  intro H locs ls hP hD hS hl
  exact lv_lmul C.1 C.2.1 d (k H locs ls hP hD hS hl)
theorem g_land (C : gX M cc own Ts tys D cl A nL) {x y : Int64} (d : decode cc pc = .ok (.land, 1)) (k : gW M D cl A nL cells slots Q N ad (pc + 1) lv (.long (x &&& y) :: rest) ct) : gW M D cl A nL cells slots Q N ad pc lv (.long y :: .long x :: rest) ct := by
  intro H locs ls hP hD hS hl
  exact lv_land C.1 C.2.1 d (k H locs ls hP hD hS hl)
theorem g_lor (C : gX M cc own Ts tys D cl A nL) {x y : Int64} (d : decode cc pc = .ok (.lor, 1)) (k : gW M D cl A nL cells slots Q N ad (pc + 1) lv (.long (x ||| y) :: rest) ct) : gW M D cl A nL cells slots Q N ad pc lv (.long y :: .long x :: rest) ct := by
  intro H locs ls hP hD hS hl
  exact lv_lor C.1 C.2.1 d (k H locs ls hP hD hS hl)
theorem g_lxor (C : gX M cc own Ts tys D cl A nL) {x y : Int64} (d : decode cc pc = .ok (.lxor, 1)) (k : gW M D cl A nL cells slots Q N ad (pc + 1) lv (.long (x ^^^ y) :: rest) ct) : gW M D cl A nL cells slots Q N ad pc lv (.long y :: .long x :: rest) ct := by
  intro H locs ls hP hD hS hl
  exact lv_lxor C.1 C.2.1 d (k H locs ls hP hD hS hl)
theorem g_idiv (C : gX M cc own Ts tys D cl A nL) {x y : Int32} (d : decode cc pc = .ok (.idiv, 1)) (hne : ¬ y = 0) (k : gW M D cl A nL cells slots Q N ad (pc + 1) lv (.int (x / y) :: rest) ct) : gW M D cl A nL cells slots Q N ad pc lv (.int y :: .int x :: rest) ct := by
  intro H locs ls hP hD hS hl
  exact lv_idiv C.1 C.2.1 d hne (k H locs ls hP hD hS hl)
theorem g_ldiv (C : gX M cc own Ts tys D cl A nL) {x y : Int64} (d : decode cc pc = .ok (.ldiv, 1)) (hne : ¬ y = 0) (k : gW M D cl A nL cells slots Q N ad (pc + 1) lv (.long (x / y) :: rest) ct) : gW M D cl A nL cells slots Q N ad pc lv (.long y :: .long x :: rest) ct := by
  intro H locs ls hP hD hS hl
  exact lv_ldiv C.1 C.2.1 d hne (k H locs ls hP hD hS hl)
theorem g_lrem (C : gX M cc own Ts tys D cl A nL) {x y : Int64} (d : decode cc pc = .ok (.lrem, 1)) (hne : ¬ y = 0) (k : gW M D cl A nL cells slots Q N ad (pc + 1) lv (.long (x - x / y * y) :: rest) ct) : gW M D cl A nL cells slots Q N ad pc lv (.long y :: .long x :: rest) ct := by
  intro H locs ls hP hD hS hl
  exact lv_lrem C.1 C.2.1 d hne (k H locs ls hP hD hS hl)
theorem g_i2l (C : gX M cc own Ts tys D cl A nL) {x : Int32} (d : decode cc pc = .ok (.i2l, 1)) (k : gW M D cl A nL cells slots Q N ad (pc + 1) lv (.long x.toInt64 :: rest) ct) : gW M D cl A nL cells slots Q N ad pc lv (.int x :: rest) ct := by
  intro H locs ls hP hD hS hl
  exact lv_i2l C.1 C.2.1 d rfl (k H locs ls hP hD hS hl)
theorem g_l2i (C : gX M cc own Ts tys D cl A nL) {x : Int64} (d : decode cc pc = .ok (.l2i, 1)) (k : gW M D cl A nL cells slots Q N ad (pc + 1) lv (.int x.toInt32 :: rest) ct) : gW M D cl A nL cells slots Q N ad pc lv (.long x :: rest) ct := by
  intro H locs ls hP hD hS hl
  exact lv_l2i C.1 C.2.1 d rfl (k H locs ls hP hD hS hl)
theorem g_lushr (C : gX M cc own Ts tys D cl A nL) {x : Int64} {y : Int32} (d : decode cc pc = .ok (.lushr, 1)) (k : gW M D cl A nL cells slots Q N ad (pc + 1) lv (.long (x.toUInt64 >>> (y.toInt64.toUInt64 &&& Int64.toUInt64 63)).toInt64 :: rest) ct) : gW M D cl A nL cells slots Q N ad pc lv (.int y :: .long x :: rest) ct := by
  intro H locs ls hP hD hS hl
  exact lv_lushr C.1 C.2.1 d rfl (k H locs ls hP hD hS hl)
theorem g_lshl (C : gX M cc own Ts tys D cl A nL) {x : Int64} {y : Int32} (d : decode cc pc = .ok (.lshl, 1)) (k : gW M D cl A nL cells slots Q N ad (pc + 1) lv (.long (x <<< (y.toInt64 &&& 63)) :: rest) ct) : gW M D cl A nL cells slots Q N ad pc lv (.int y :: .long x :: rest) ct := by
  intro H locs ls hP hD hS hl
  exact lv_lshl C.1 C.2.1 d rfl (k H locs ls hP hD hS hl)
theorem g_lshr (C : gX M cc own Ts tys D cl A nL) {x : Int64} {y : Int32} (d : decode cc pc = .ok (.lshr, 1)) (k : gW M D cl A nL cells slots Q N ad (pc + 1) lv (.long (x >>> (y.toInt64 &&& 63)) :: rest) ct) : gW M D cl A nL cells slots Q N ad pc lv (.int y :: .long x :: rest) ct := by
  intro H locs ls hP hD hS hl
  exact lv_lshr C.1 C.2.1 d rfl (k H locs ls hP hD hS hl)
theorem g_lcmp (C : gX M cc own Ts tys D cl A nL) {x y : Int64} (d : decode cc pc = .ok (.lcmp, 1)) (k : gW M D cl A nL cells slots Q N ad (pc + 1) lv (.int (lg_cmp x y) :: rest) ct) : gW M D cl A nL cells slots Q N ad pc lv (.long y :: .long x :: rest) ct := by
  intro H locs ls hP hD hS hl
  exact W.lcmp C.1 C.2.1 d (k H locs ls hP hD hS hl)
theorem g_dup (C : gX M cc own Ts tys D cl A nL) {v : Value} (d : decode cc pc = .ok (.dup, 1)) (h : v.category = 1 := by rfl) (k : gW M D cl A nL cells slots Q N ad (pc + 1) lv (v :: v :: rest) ct) : gW M D cl A nL cells slots Q N ad pc lv (v :: rest) ct := by
  intro H locs ls hP hD hS hl
  exact lv_dup C.1 C.2.1 d h (k H locs ls hP hD hS hl)
theorem g_pop (C : gX M cc own Ts tys D cl A nL) {v : Value} (d : decode cc pc = .ok (.pop, 1)) (h : v.category = 1 := by rfl) (k : gW M D cl A nL cells slots Q N ad (pc + 1) lv rest ct) : gW M D cl A nL cells slots Q N ad pc lv (v :: rest) ct := by
  intro H locs ls hP hD hS hl
  exact lv_pop C.1 C.2.1 d h (k H locs ls hP hD hS hl)
theorem g_dup2 (C : gX M cc own Ts tys D cl A nL) {v w : Value} (d : decode cc pc = .ok (.dup2, 1)) (h : v.category = 1 := by rfl) (h2 : w.category = 1 := by rfl) (k : gW M D cl A nL cells slots Q N ad (pc + 1) lv (v :: w :: v :: w :: rest) ct) : gW M D cl A nL cells slots Q N ad pc lv (v :: w :: rest) ct := by
  intro H locs ls hP hD hS hl
  exact lv_dup2_11 C.1 C.2.1 d h h2 (k H locs ls hP hD hS hl)
theorem g_goto (C : gX M cc own Ts tys D cl A nL) {off : Int} {tgt : Nat} (d : decode cc pc = .ok (.goto off, 3)) (ht : (pc : Int) + off = (tgt : Int) := by decide) (k : gW M D cl A nL cells slots Q N ad tgt lv rest ct) : gW M D cl A nL cells slots Q N ad pc lv rest ct := by
  intro H locs ls hP hD hS hl
  exact lv_goto C.1 C.2.1 d ht (k H locs ls hP hD hS hl)
theorem g_if_eq (C : gX M cc own Ts tys D cl A nL) {x : Int32} {off : Int} {tgt : Nat} (d : decode cc pc = .ok (.ifCond .eq off, 3)) (ht : (pc : Int) + off = (tgt : Int)) (kt : x = 0 → gW M D cl A nL cells slots Q N ad tgt lv rest ct) (kf : ¬ x = 0 → gW M D cl A nL cells slots Q N ad (pc + 3) lv rest ct) : gW M D cl A nL cells slots Q N ad pc lv (.int x :: rest) ct := by
  intro H locs ls hP hD hS hl
  exact lv_if_eq C.1 C.2.1 d ht (fun h => kt h H locs ls hP hD hS hl) (fun h => kf h H locs ls hP hD hS hl)
theorem g_ic_eq (C : gX M cc own Ts tys D cl A nL) {x y : Int32} {off : Int} {tgt : Nat} (d : decode cc pc = .ok (.if_icmp .eq off, 3)) (ht : (pc : Int) + off = (tgt : Int)) (kt : x = y → gW M D cl A nL cells slots Q N ad tgt lv rest ct) (kf : ¬ x = y → gW M D cl A nL cells slots Q N ad (pc + 3) lv rest ct) : gW M D cl A nL cells slots Q N ad pc lv (.int y :: .int x :: rest) ct := by
  intro H locs ls hP hD hS hl
  exact lv_icmp_eq C.1 C.2.1 d ht (fun h => kt h H locs ls hP hD hS hl) (fun h => kf h H locs ls hP hD hS hl)
theorem g_icN_eq (C : gX M cc own Ts tys D cl A nL) {a b : Nat} (ha : a < 2 ^ 31) (hb : b < 2 ^ 31) {off : Int} {tgt : Nat} (d : decode cc pc = .ok (.if_icmp .eq off, 3)) (ht : (pc : Int) + off = (tgt : Int)) (kt : a = b → gW M D cl A nL cells slots Q N ad tgt lv rest ct) (kf : a ≠ b → gW M D cl A nL cells slots Q N ad (pc + 3) lv rest ct) : gW M D cl A nL cells slots Q N ad pc lv (.int (nI b) :: .int (nI a) :: rest) ct :=
  g_ic_eq C d ht (fun h => kt ((nI_eq ha hb).mp h)) (fun h => kf (fun q => h ((nI_eq ha hb).mpr q)))
theorem g_ifN_eq (C : gX M cc own Ts tys D cl A nL) {a : Nat} (ha : a < 2 ^ 31) {off : Int} {tgt : Nat} (d : decode cc pc = .ok (.ifCond .eq off, 3)) (ht : (pc : Int) + off = (tgt : Int)) (kt : a = 0 → gW M D cl A nL cells slots Q N ad tgt lv rest ct) (kf : a ≠ 0 → gW M D cl A nL cells slots Q N ad (pc + 3) lv rest ct) : gW M D cl A nL cells slots Q N ad pc lv (.int (nI a) :: rest) ct := by
  have hb : 0 < 2 ^ 31 := by decide
  refine g_if_eq C d ht (fun h => kt ?_) (fun h => kf ?_)
  · rw [← nI_0] at h; exact (nI_eq ha hb).mp h
  · rw [← nI_0] at h; exact fun q => h ((nI_eq ha hb).mpr q)
theorem g_lc_eq (C : gX M cc own Ts tys D cl A nL) {x y : Int64} {off : Int} {tgt : Nat} (d0 : decode cc pc = .ok (.lcmp, 1)) (d : decode cc (pc + 1) = .ok (.ifCond .eq off, 3)) (ht : ((pc + 1 : Nat) : Int) + off = (tgt : Int)) (kt : x = y → gW M D cl A nL cells slots Q N ad tgt lv rest ct) (kf : ¬ x = y → gW M D cl A nL cells slots Q N ad (pc + 1 + 3) lv rest ct) : gW M D cl A nL cells slots Q N ad pc lv (.long y :: .long x :: rest) ct :=
  g_lcmp C d0 (g_if_eq C d ht (fun h => kt ((lg_cmp_eq x y).mp h)) (fun h => kf (fun q => h ((lg_cmp_eq x y).mpr q))))
theorem g_lcN_eq (C : gX M cc own Ts tys D cl A nL) {a b : Nat} (ha : a < 2 ^ 63) (hb : b < 2 ^ 63) {off : Int} {tgt : Nat} (d0 : decode cc pc = .ok (.lcmp, 1)) (d : decode cc (pc + 1) = .ok (.ifCond .eq off, 3)) (ht : ((pc + 1 : Nat) : Int) + off = (tgt : Int)) (kt : a = b → gW M D cl A nL cells slots Q N ad tgt lv rest ct) (kf : a ≠ b → gW M D cl A nL cells slots Q N ad (pc + 1 + 3) lv rest ct) : gW M D cl A nL cells slots Q N ad pc lv (.long (lN b) :: .long (lN a) :: rest) ct :=
  g_lc_eq C d0 d ht (fun h => kt ((pk_lEQ ha hb).mp h)) (fun h => kf (fun q => h ((pk_lEQ ha hb).mpr q)))
theorem g_if_ne (C : gX M cc own Ts tys D cl A nL) {x : Int32} {off : Int} {tgt : Nat} (d : decode cc pc = .ok (.ifCond .ne off, 3)) (ht : (pc : Int) + off = (tgt : Int)) (kt : ¬ x = 0 → gW M D cl A nL cells slots Q N ad tgt lv rest ct) (kf : x = 0 → gW M D cl A nL cells slots Q N ad (pc + 3) lv rest ct) : gW M D cl A nL cells slots Q N ad pc lv (.int x :: rest) ct := by
  intro H locs ls hP hD hS hl
  exact lv_if_ne C.1 C.2.1 d ht (fun h => kt h H locs ls hP hD hS hl) (fun h => kf h H locs ls hP hD hS hl)
theorem g_ic_ne (C : gX M cc own Ts tys D cl A nL) {x y : Int32} {off : Int} {tgt : Nat} (d : decode cc pc = .ok (.if_icmp .ne off, 3)) (ht : (pc : Int) + off = (tgt : Int)) (kt : ¬ x = y → gW M D cl A nL cells slots Q N ad tgt lv rest ct) (kf : x = y → gW M D cl A nL cells slots Q N ad (pc + 3) lv rest ct) : gW M D cl A nL cells slots Q N ad pc lv (.int y :: .int x :: rest) ct := by
  intro H locs ls hP hD hS hl
  exact lv_icmp_ne C.1 C.2.1 d ht (fun h => kt h H locs ls hP hD hS hl) (fun h => kf h H locs ls hP hD hS hl)
theorem g_icN_ne (C : gX M cc own Ts tys D cl A nL) {a b : Nat} (ha : a < 2 ^ 31) (hb : b < 2 ^ 31) {off : Int} {tgt : Nat} (d : decode cc pc = .ok (.if_icmp .ne off, 3)) (ht : (pc : Int) + off = (tgt : Int)) (kt : a ≠ b → gW M D cl A nL cells slots Q N ad tgt lv rest ct) (kf : a = b → gW M D cl A nL cells slots Q N ad (pc + 3) lv rest ct) : gW M D cl A nL cells slots Q N ad pc lv (.int (nI b) :: .int (nI a) :: rest) ct :=
  g_ic_ne C d ht (fun h => kt (fun q => h ((nI_eq ha hb).mpr q))) (fun h => kf ((nI_eq ha hb).mp h))
theorem g_ifN_ne (C : gX M cc own Ts tys D cl A nL) {a : Nat} (ha : a < 2 ^ 31) {off : Int} {tgt : Nat} (d : decode cc pc = .ok (.ifCond .ne off, 3)) (ht : (pc : Int) + off = (tgt : Int)) (kt : a ≠ 0 → gW M D cl A nL cells slots Q N ad tgt lv rest ct) (kf : a = 0 → gW M D cl A nL cells slots Q N ad (pc + 3) lv rest ct) : gW M D cl A nL cells slots Q N ad pc lv (.int (nI a) :: rest) ct := by
  have hb : 0 < 2 ^ 31 := by decide
  refine g_if_ne C d ht (fun h => kt ?_) (fun h => kf ?_)
  · rw [← nI_0] at h; exact fun q => h ((nI_eq ha hb).mpr q)
  · rw [← nI_0] at h; exact (nI_eq ha hb).mp h
theorem g_lc_ne (C : gX M cc own Ts tys D cl A nL) {x y : Int64} {off : Int} {tgt : Nat} (d0 : decode cc pc = .ok (.lcmp, 1)) (d : decode cc (pc + 1) = .ok (.ifCond .ne off, 3)) (ht : ((pc + 1 : Nat) : Int) + off = (tgt : Int)) (kt : ¬ x = y → gW M D cl A nL cells slots Q N ad tgt lv rest ct) (kf : x = y → gW M D cl A nL cells slots Q N ad (pc + 1 + 3) lv rest ct) : gW M D cl A nL cells slots Q N ad pc lv (.long y :: .long x :: rest) ct :=
  g_lcmp C d0 (g_if_ne C d ht (fun h => kt (fun q => h ((lg_cmp_eq x y).mpr q))) (fun h => kf ((lg_cmp_eq x y).mp h)))
theorem g_lcN_ne (C : gX M cc own Ts tys D cl A nL) {a b : Nat} (ha : a < 2 ^ 63) (hb : b < 2 ^ 63) {off : Int} {tgt : Nat} (d0 : decode cc pc = .ok (.lcmp, 1)) (d : decode cc (pc + 1) = .ok (.ifCond .ne off, 3)) (ht : ((pc + 1 : Nat) : Int) + off = (tgt : Int)) (kt : a ≠ b → gW M D cl A nL cells slots Q N ad tgt lv rest ct) (kf : a = b → gW M D cl A nL cells slots Q N ad (pc + 1 + 3) lv rest ct) : gW M D cl A nL cells slots Q N ad pc lv (.long (lN b) :: .long (lN a) :: rest) ct :=
  g_lc_ne C d0 d ht (fun h => kt (fun q => h ((pk_lEQ ha hb).mpr q))) (fun h => kf ((pk_lEQ ha hb).mp h))
theorem g_if_lt (C : gX M cc own Ts tys D cl A nL) {x : Int32} {off : Int} {tgt : Nat} (d : decode cc pc = .ok (.ifCond .lt off, 3)) (ht : (pc : Int) + off = (tgt : Int)) (kt : x < 0 → gW M D cl A nL cells slots Q N ad tgt lv rest ct) (kf : ¬ x < 0 → gW M D cl A nL cells slots Q N ad (pc + 3) lv rest ct) : gW M D cl A nL cells slots Q N ad pc lv (.int x :: rest) ct := by
  intro H locs ls hP hD hS hl
  exact lv_if_lt C.1 C.2.1 d ht (fun h => kt h H locs ls hP hD hS hl) (fun h => kf h H locs ls hP hD hS hl)
theorem g_ic_lt (C : gX M cc own Ts tys D cl A nL) {x y : Int32} {off : Int} {tgt : Nat} (d : decode cc pc = .ok (.if_icmp .lt off, 3)) (ht : (pc : Int) + off = (tgt : Int)) (kt : x < y → gW M D cl A nL cells slots Q N ad tgt lv rest ct) (kf : ¬ x < y → gW M D cl A nL cells slots Q N ad (pc + 3) lv rest ct) : gW M D cl A nL cells slots Q N ad pc lv (.int y :: .int x :: rest) ct := by
  intro H locs ls hP hD hS hl
  exact lv_icmp_lt C.1 C.2.1 d ht (fun h => kt h H locs ls hP hD hS hl) (fun h => kf h H locs ls hP hD hS hl)
theorem g_icN_lt (C : gX M cc own Ts tys D cl A nL) {a b : Nat} (ha : a < 2 ^ 31) (hb : b < 2 ^ 31) {off : Int} {tgt : Nat} (d : decode cc pc = .ok (.if_icmp .lt off, 3)) (ht : (pc : Int) + off = (tgt : Int)) (kt : a < b → gW M D cl A nL cells slots Q N ad tgt lv rest ct) (kf : b ≤ a → gW M D cl A nL cells slots Q N ad (pc + 3) lv rest ct) : gW M D cl A nL cells slots Q N ad pc lv (.int (nI b) :: .int (nI a) :: rest) ct :=
  g_ic_lt C d ht (fun h => kt ((nI_ltI ha hb).mp h)) (fun h => kf (Nat.not_lt.mp (fun q => h ((nI_ltI ha hb).mpr q))))
theorem g_ifN_lt (C : gX M cc own Ts tys D cl A nL) {a : Nat} (ha : a < 2 ^ 31) {off : Int} {tgt : Nat} (d : decode cc pc = .ok (.ifCond .lt off, 3)) (ht : (pc : Int) + off = (tgt : Int)) (kt : a < 0 → gW M D cl A nL cells slots Q N ad tgt lv rest ct) (kf : 0 ≤ a → gW M D cl A nL cells slots Q N ad (pc + 3) lv rest ct) : gW M D cl A nL cells slots Q N ad pc lv (.int (nI a) :: rest) ct := by
  have hb : 0 < 2 ^ 31 := by decide
  refine g_if_lt C d ht (fun h => kt ?_) (fun h => kf ?_)
  · rw [← nI_0] at h; exact (nI_ltI ha hb).mp h
  · rw [← nI_0] at h; exact Nat.not_lt.mp (fun q => h ((nI_ltI ha hb).mpr q))
theorem g_lc_lt (C : gX M cc own Ts tys D cl A nL) {x y : Int64} {off : Int} {tgt : Nat} (d0 : decode cc pc = .ok (.lcmp, 1)) (d : decode cc (pc + 1) = .ok (.ifCond .lt off, 3)) (ht : ((pc + 1 : Nat) : Int) + off = (tgt : Int)) (kt : x < y → gW M D cl A nL cells slots Q N ad tgt lv rest ct) (kf : ¬ x < y → gW M D cl A nL cells slots Q N ad (pc + 1 + 3) lv rest ct) : gW M D cl A nL cells slots Q N ad pc lv (.long y :: .long x :: rest) ct :=
  g_lcmp C d0 (g_if_lt C d ht (fun h => kt ((lg_cmp_lt x y).mp h)) (fun h => kf (fun q => h ((lg_cmp_lt x y).mpr q))))
theorem g_lcN_lt (C : gX M cc own Ts tys D cl A nL) {a b : Nat} (ha : a < 2 ^ 63) (hb : b < 2 ^ 63) {off : Int} {tgt : Nat} (d0 : decode cc pc = .ok (.lcmp, 1)) (d : decode cc (pc + 1) = .ok (.ifCond .lt off, 3)) (ht : ((pc + 1 : Nat) : Int) + off = (tgt : Int)) (kt : a < b → gW M D cl A nL cells slots Q N ad tgt lv rest ct) (kf : b ≤ a → gW M D cl A nL cells slots Q N ad (pc + 1 + 3) lv rest ct) : gW M D cl A nL cells slots Q N ad pc lv (.long (lN b) :: .long (lN a) :: rest) ct :=
  g_lc_lt C d0 d ht (fun h => kt ((pk_lLT ha hb).mp h)) (fun h => kf (Nat.not_lt.mp (fun q => h ((pk_lLT ha hb).mpr q))))
theorem g_if_ge (C : gX M cc own Ts tys D cl A nL) {x : Int32} {off : Int} {tgt : Nat} (d : decode cc pc = .ok (.ifCond .ge off, 3)) (ht : (pc : Int) + off = (tgt : Int)) (kt : 0 ≤ x → gW M D cl A nL cells slots Q N ad tgt lv rest ct) (kf : ¬ 0 ≤ x → gW M D cl A nL cells slots Q N ad (pc + 3) lv rest ct) : gW M D cl A nL cells slots Q N ad pc lv (.int x :: rest) ct := by
  intro H locs ls hP hD hS hl
  exact lv_if_ge C.1 C.2.1 d ht (fun h => kt h H locs ls hP hD hS hl) (fun h => kf h H locs ls hP hD hS hl)
theorem g_ic_ge (C : gX M cc own Ts tys D cl A nL) {x y : Int32} {off : Int} {tgt : Nat} (d : decode cc pc = .ok (.if_icmp .ge off, 3)) (ht : (pc : Int) + off = (tgt : Int)) (kt : y ≤ x → gW M D cl A nL cells slots Q N ad tgt lv rest ct) (kf : ¬ y ≤ x → gW M D cl A nL cells slots Q N ad (pc + 3) lv rest ct) : gW M D cl A nL cells slots Q N ad pc lv (.int y :: .int x :: rest) ct := by
  intro H locs ls hP hD hS hl
  exact lv_icmp_ge C.1 C.2.1 d ht (fun h => kt h H locs ls hP hD hS hl) (fun h => kf h H locs ls hP hD hS hl)
theorem g_icN_ge (C : gX M cc own Ts tys D cl A nL) {a b : Nat} (ha : a < 2 ^ 31) (hb : b < 2 ^ 31) {off : Int} {tgt : Nat} (d : decode cc pc = .ok (.if_icmp .ge off, 3)) (ht : (pc : Int) + off = (tgt : Int)) (kt : b ≤ a → gW M D cl A nL cells slots Q N ad tgt lv rest ct) (kf : a < b → gW M D cl A nL cells slots Q N ad (pc + 3) lv rest ct) : gW M D cl A nL cells slots Q N ad pc lv (.int (nI b) :: .int (nI a) :: rest) ct :=
  g_ic_ge C d ht (fun h => kt ((nI_leI hb ha).mp h)) (fun h => kf (Nat.not_le.mp (fun q => h ((nI_leI hb ha).mpr q))))
theorem g_ifN_ge (C : gX M cc own Ts tys D cl A nL) {a : Nat} (ha : a < 2 ^ 31) {off : Int} {tgt : Nat} (d : decode cc pc = .ok (.ifCond .ge off, 3)) (ht : (pc : Int) + off = (tgt : Int)) (kt : 0 ≤ a → gW M D cl A nL cells slots Q N ad tgt lv rest ct) (kf : a < 0 → gW M D cl A nL cells slots Q N ad (pc + 3) lv rest ct) : gW M D cl A nL cells slots Q N ad pc lv (.int (nI a) :: rest) ct := by
  have hb : 0 < 2 ^ 31 := by decide
  refine g_if_ge C d ht (fun h => kt ?_) (fun h => kf ?_)
  · rw [← nI_0] at h; exact (nI_leI hb ha).mp h
  · rw [← nI_0] at h; exact Nat.not_le.mp (fun q => h ((nI_leI hb ha).mpr q))
theorem g_lc_ge (C : gX M cc own Ts tys D cl A nL) {x y : Int64} {off : Int} {tgt : Nat} (d0 : decode cc pc = .ok (.lcmp, 1)) (d : decode cc (pc + 1) = .ok (.ifCond .ge off, 3)) (ht : ((pc + 1 : Nat) : Int) + off = (tgt : Int)) (kt : y ≤ x → gW M D cl A nL cells slots Q N ad tgt lv rest ct) (kf : ¬ y ≤ x → gW M D cl A nL cells slots Q N ad (pc + 1 + 3) lv rest ct) : gW M D cl A nL cells slots Q N ad pc lv (.long y :: .long x :: rest) ct :=
  g_lcmp C d0 (g_if_ge C d ht (fun h => kt ((lg_cmp_ge x y).mp h)) (fun h => kf (fun q => h ((lg_cmp_ge x y).mpr q))))
theorem g_lcN_ge (C : gX M cc own Ts tys D cl A nL) {a b : Nat} (ha : a < 2 ^ 63) (hb : b < 2 ^ 63) {off : Int} {tgt : Nat} (d0 : decode cc pc = .ok (.lcmp, 1)) (d : decode cc (pc + 1) = .ok (.ifCond .ge off, 3)) (ht : ((pc + 1 : Nat) : Int) + off = (tgt : Int)) (kt : b ≤ a → gW M D cl A nL cells slots Q N ad tgt lv rest ct) (kf : a < b → gW M D cl A nL cells slots Q N ad (pc + 1 + 3) lv rest ct) : gW M D cl A nL cells slots Q N ad pc lv (.long (lN b) :: .long (lN a) :: rest) ct :=
  g_lc_ge C d0 d ht (fun h => kt ((pk_lLE hb ha).mp h)) (fun h => kf (Nat.not_le.mp (fun q => h ((pk_lLE hb ha).mpr q))))
theorem g_if_gt (C : gX M cc own Ts tys D cl A nL) {x : Int32} {off : Int} {tgt : Nat} (d : decode cc pc = .ok (.ifCond .gt off, 3)) (ht : (pc : Int) + off = (tgt : Int)) (kt : 0 < x → gW M D cl A nL cells slots Q N ad tgt lv rest ct) (kf : ¬ 0 < x → gW M D cl A nL cells slots Q N ad (pc + 3) lv rest ct) : gW M D cl A nL cells slots Q N ad pc lv (.int x :: rest) ct := by
  intro H locs ls hP hD hS hl
  exact lv_if_gt C.1 C.2.1 d ht (fun h => kt h H locs ls hP hD hS hl) (fun h => kf h H locs ls hP hD hS hl)
theorem g_ic_gt (C : gX M cc own Ts tys D cl A nL) {x y : Int32} {off : Int} {tgt : Nat} (d : decode cc pc = .ok (.if_icmp .gt off, 3)) (ht : (pc : Int) + off = (tgt : Int)) (kt : y < x → gW M D cl A nL cells slots Q N ad tgt lv rest ct) (kf : ¬ y < x → gW M D cl A nL cells slots Q N ad (pc + 3) lv rest ct) : gW M D cl A nL cells slots Q N ad pc lv (.int y :: .int x :: rest) ct := by
  intro H locs ls hP hD hS hl
  exact lv_icmp_gt C.1 C.2.1 d ht (fun h => kt h H locs ls hP hD hS hl) (fun h => kf h H locs ls hP hD hS hl)
theorem g_icN_gt (C : gX M cc own Ts tys D cl A nL) {a b : Nat} (ha : a < 2 ^ 31) (hb : b < 2 ^ 31) {off : Int} {tgt : Nat} (d : decode cc pc = .ok (.if_icmp .gt off, 3)) (ht : (pc : Int) + off = (tgt : Int)) (kt : b < a → gW M D cl A nL cells slots Q N ad tgt lv rest ct) (kf : a ≤ b → gW M D cl A nL cells slots Q N ad (pc + 3) lv rest ct) : gW M D cl A nL cells slots Q N ad pc lv (.int (nI b) :: .int (nI a) :: rest) ct :=
  g_ic_gt C d ht (fun h => kt ((nI_ltI hb ha).mp h)) (fun h => kf (Nat.not_lt.mp (fun q => h ((nI_ltI hb ha).mpr q))))
theorem g_ifN_gt (C : gX M cc own Ts tys D cl A nL) {a : Nat} (ha : a < 2 ^ 31) {off : Int} {tgt : Nat} (d : decode cc pc = .ok (.ifCond .gt off, 3)) (ht : (pc : Int) + off = (tgt : Int)) (kt : 0 < a → gW M D cl A nL cells slots Q N ad tgt lv rest ct) (kf : a ≤ 0 → gW M D cl A nL cells slots Q N ad (pc + 3) lv rest ct) : gW M D cl A nL cells slots Q N ad pc lv (.int (nI a) :: rest) ct := by
  have hb : 0 < 2 ^ 31 := by decide
  refine g_if_gt C d ht (fun h => kt ?_) (fun h => kf ?_)
  · rw [← nI_0] at h; exact (nI_ltI hb ha).mp h
  · rw [← nI_0] at h; exact Nat.not_lt.mp (fun q => h ((nI_ltI hb ha).mpr q))
theorem g_lc_gt (C : gX M cc own Ts tys D cl A nL) {x y : Int64} {off : Int} {tgt : Nat} (d0 : decode cc pc = .ok (.lcmp, 1)) (d : decode cc (pc + 1) = .ok (.ifCond .gt off, 3)) (ht : ((pc + 1 : Nat) : Int) + off = (tgt : Int)) (kt : y < x → gW M D cl A nL cells slots Q N ad tgt lv rest ct) (kf : ¬ y < x → gW M D cl A nL cells slots Q N ad (pc + 1 + 3) lv rest ct) : gW M D cl A nL cells slots Q N ad pc lv (.long y :: .long x :: rest) ct :=
  g_lcmp C d0 (g_if_gt C d ht (fun h => kt ((lg_cmp_gt x y).mp h)) (fun h => kf (fun q => h ((lg_cmp_gt x y).mpr q))))
theorem g_lcN_gt (C : gX M cc own Ts tys D cl A nL) {a b : Nat} (ha : a < 2 ^ 63) (hb : b < 2 ^ 63) {off : Int} {tgt : Nat} (d0 : decode cc pc = .ok (.lcmp, 1)) (d : decode cc (pc + 1) = .ok (.ifCond .gt off, 3)) (ht : ((pc + 1 : Nat) : Int) + off = (tgt : Int)) (kt : b < a → gW M D cl A nL cells slots Q N ad tgt lv rest ct) (kf : a ≤ b → gW M D cl A nL cells slots Q N ad (pc + 1 + 3) lv rest ct) : gW M D cl A nL cells slots Q N ad pc lv (.long (lN b) :: .long (lN a) :: rest) ct :=
  g_lc_gt C d0 d ht (fun h => kt ((pk_lLT hb ha).mp h)) (fun h => kf (Nat.not_lt.mp (fun q => h ((pk_lLT hb ha).mpr q))))
theorem g_if_le (C : gX M cc own Ts tys D cl A nL) {x : Int32} {off : Int} {tgt : Nat} (d : decode cc pc = .ok (.ifCond .le off, 3)) (ht : (pc : Int) + off = (tgt : Int)) (kt : x ≤ 0 → gW M D cl A nL cells slots Q N ad tgt lv rest ct) (kf : ¬ x ≤ 0 → gW M D cl A nL cells slots Q N ad (pc + 3) lv rest ct) : gW M D cl A nL cells slots Q N ad pc lv (.int x :: rest) ct := by
  intro H locs ls hP hD hS hl
  exact lv_if_le C.1 C.2.1 d ht (fun h => kt h H locs ls hP hD hS hl) (fun h => kf h H locs ls hP hD hS hl)
theorem g_ic_le (C : gX M cc own Ts tys D cl A nL) {x y : Int32} {off : Int} {tgt : Nat} (d : decode cc pc = .ok (.if_icmp .le off, 3)) (ht : (pc : Int) + off = (tgt : Int)) (kt : x ≤ y → gW M D cl A nL cells slots Q N ad tgt lv rest ct) (kf : ¬ x ≤ y → gW M D cl A nL cells slots Q N ad (pc + 3) lv rest ct) : gW M D cl A nL cells slots Q N ad pc lv (.int y :: .int x :: rest) ct := by
  intro H locs ls hP hD hS hl
  exact lv_icmp_le C.1 C.2.1 d ht (fun h => kt h H locs ls hP hD hS hl) (fun h => kf h H locs ls hP hD hS hl)
theorem g_icN_le (C : gX M cc own Ts tys D cl A nL) {a b : Nat} (ha : a < 2 ^ 31) (hb : b < 2 ^ 31) {off : Int} {tgt : Nat} (d : decode cc pc = .ok (.if_icmp .le off, 3)) (ht : (pc : Int) + off = (tgt : Int)) (kt : a ≤ b → gW M D cl A nL cells slots Q N ad tgt lv rest ct) (kf : b < a → gW M D cl A nL cells slots Q N ad (pc + 3) lv rest ct) : gW M D cl A nL cells slots Q N ad pc lv (.int (nI b) :: .int (nI a) :: rest) ct :=
  g_ic_le C d ht (fun h => kt ((nI_leI ha hb).mp h)) (fun h => kf (Nat.not_le.mp (fun q => h ((nI_leI ha hb).mpr q))))
theorem g_ifN_le (C : gX M cc own Ts tys D cl A nL) {a : Nat} (ha : a < 2 ^ 31) {off : Int} {tgt : Nat} (d : decode cc pc = .ok (.ifCond .le off, 3)) (ht : (pc : Int) + off = (tgt : Int)) (kt : a ≤ 0 → gW M D cl A nL cells slots Q N ad tgt lv rest ct) (kf : 0 < a → gW M D cl A nL cells slots Q N ad (pc + 3) lv rest ct) : gW M D cl A nL cells slots Q N ad pc lv (.int (nI a) :: rest) ct := by
  have hb : 0 < 2 ^ 31 := by decide
  refine g_if_le C d ht (fun h => kt ?_) (fun h => kf ?_)
  · rw [← nI_0] at h; exact (nI_leI ha hb).mp h
  · rw [← nI_0] at h; exact Nat.not_le.mp (fun q => h ((nI_leI ha hb).mpr q))
theorem g_lc_le (C : gX M cc own Ts tys D cl A nL) {x y : Int64} {off : Int} {tgt : Nat} (d0 : decode cc pc = .ok (.lcmp, 1)) (d : decode cc (pc + 1) = .ok (.ifCond .le off, 3)) (ht : ((pc + 1 : Nat) : Int) + off = (tgt : Int)) (kt : x ≤ y → gW M D cl A nL cells slots Q N ad tgt lv rest ct) (kf : ¬ x ≤ y → gW M D cl A nL cells slots Q N ad (pc + 1 + 3) lv rest ct) : gW M D cl A nL cells slots Q N ad pc lv (.long y :: .long x :: rest) ct :=
  g_lcmp C d0 (g_if_le C d ht (fun h => kt ((lg_cmp_le x y).mp h)) (fun h => kf (fun q => h ((lg_cmp_le x y).mpr q))))
theorem g_lcN_le (C : gX M cc own Ts tys D cl A nL) {a b : Nat} (ha : a < 2 ^ 63) (hb : b < 2 ^ 63) {off : Int} {tgt : Nat} (d0 : decode cc pc = .ok (.lcmp, 1)) (d : decode cc (pc + 1) = .ok (.ifCond .le off, 3)) (ht : ((pc + 1 : Nat) : Int) + off = (tgt : Int)) (kt : a ≤ b → gW M D cl A nL cells slots Q N ad tgt lv rest ct) (kf : b < a → gW M D cl A nL cells slots Q N ad (pc + 1 + 3) lv rest ct) : gW M D cl A nL cells slots Q N ad pc lv (.long (lN b) :: .long (lN a) :: rest) ct :=
  g_lc_le C d0 d ht (fun h => kt ((pk_lLE ha hb).mp h)) (fun h => kf (Nat.not_le.mp (fun q => h ((pk_lLE ha hb).mpr q))))
/-! ===== cells ===== -/
abbrev LA (cJ : ClassId) (n : Nat) (f : Nat → Int64) : va_E := .inl (cJ, n, .inr (.inl f))
abbrev QA (cQ : ClassId) (n : Nat) (f : Nat → Option Nat) : va_E := .inl (cQ, n, .inr (.inr (.inr (.inr f))))
theorem g_getf (C : gX M cc own Ts tys D cl A nL) {ref Cn : String} {T : u_T} {n ci index : Nat} (q j : Nat) (hq : q < N) {fs : List Value} (he : ct q = .inr (ci, fs)) (hc : cl[ci]? = some (Cn, T, n)) (hin : ∀ w ∈ u_ws Cn T n, w ∈ Ts) (hj : j < n) (hlink : Cond.fieldLink own index ref (T j).2.1 (T j).2.2.1 ∈ Ts) (hsame : ∀ x, (gs M).fieldFound? (T j).1 (T j).2.1 (T j).2.2.1 = some x → (gs M).fieldFound? ref (T j).2.1 (T j).2.2.1 = some x) {v : Value} (hv : fs[j]? = some v) (d : decode cc pc = .ok (.getfield index, 3)) (k : gW M D cl A nL cells slots Q N ad (pc + 3) lv (v :: rest) ct) : gW M D cl A nL cells slots Q N ad pc lv (.ref (ad q) :: rest) ct := by
  intro H locs ls hP hD hS hl
  exact va_get C.1 C.2.1 C.2.2.2.2.1 hin C.2.2.2.1 C.2.2.2.2.2.1 hP q (ix_e hq he) hc j hj (C.2.2.2.2.1 _ hlink) hsame hv d (k H locs ls hP hD hS hl)
theorem g_putf (C : gX M cc own Ts tys D cl A nL) {ref Cn : String} {T : u_T} {n ci index : Nat} (q j : Nat) (hq : q < N) {fs : List Value} (he : ct q = .inr (ci, fs)) (hc : cl[ci]? = some (Cn, T, n)) (hin : ∀ w ∈ u_ws Cn T n, w ∈ Ts) (ty0 : Nat → FieldType) (hty : ∀ k, k < n → parseFieldDescriptor (T k).2.2.1 = some (ty0 k)) (hnm : ∀ a, a < n → ∀ b, b < n → a ≠ b → (T a).2.1 ≠ (T b).2.1) (hj : j < n) (hlink : Cond.fieldLink own index ref (T j).2.1 (T j).2.2.1 ∈ Ts) (hsame : ∀ x, (gs M).fieldFound? (T j).1 (T j).2.1 (T j).2.2.1 = some x → (gs M).fieldFound? ref (T j).2.1 (T j).2.2.1 = some x) (hfin : (T j).2.2.2 = false) {ty : FieldType} {v : Value} (hd : parseFieldDescriptor (T j).2.2.1 = some ty) (hn : narrow ty v = v) (hfit : fits ty v = true) (hl0 : j < fs.length) (d : decode cc pc = .ok (.putfield index, 3)) (k : gW M D cl A nL cells slots Q N ad (pc + 3) lv rest (va_up ct q (.inr (ci, fs.set j v)))) : gW M D cl A nL cells slots Q N ad pc lv (v :: .ref (ad q) :: rest) ct := by
  intro H locs ls hP hD hS hl
  refine va_put C.1 C.2.1 C.2.2.2.2.1 hin ty0 hty hnm C.2.2.2.1 C.2.2.2.2.2.1 hP hD hS q (ix_e hq he) hc j hj (C.2.2.2.2.1 _ hlink) hsame hfin hd hn hfit hl0 d (fun H1 locs1 hP1 hD1 hS1 => ?_)
  rw [ix_set] at hP1 hD1
  exact k H1 locs1 ls hP1 hD1 hS1 hl
theorem g_lald (C : gX M cc own Ts tys D cl A nL) (q t0 : Nat) (hq : q < N) {cJ : ClassId} {n : Nat} {f : Nat → Int64} (he : ct q = LA cJ n f) (ht : tys[t0]? = some (cJ, .long)) {i : Nat} (hi : i < n) (hn : n < 2 ^ 31) (d : decode cc pc = .ok (.laload, 1)) (k : gW M D cl A nL cells slots Q N ad (pc + 1) lv (.long (f i) :: rest) ct) : gW M D cl A nL cells slots Q N ad pc lv (.int (nI i) :: .ref (ad q) :: rest) ct := by
  intro H locs ls hP hD hS hl
  refine va_lald C.1 C.2.1 C.2.2.2.2.2.1 hP q t0 (ix_e hq he) ht (vp_in_nI hi hn) d ?_
  rw [nI_clamp (Nat.lt_trans hi hn)]
  exact k H locs ls hP hD hS hl
theorem g_last (C : gX M cc own Ts tys D cl A nL) (q t0 : Nat) (hq : q < N) {cJ : ClassId} {n : Nat} {f : Nat → Int64} (he : ct q = LA cJ n f) (ht : tys[t0]? = some (cJ, .long)) {i : Nat} {x : Int64} (hi : i < n) (hn : n < 2 ^ 31) (d : decode cc pc = .ok (.lastore, 1)) (k : gW M D cl A nL cells slots Q N ad (pc + 1) lv rest (va_up ct q (LA cJ n (vp_updL f i x)))) : gW M D cl A nL cells slots Q N ad pc lv (.long x :: .int (nI i) :: .ref (ad q) :: rest) ct := by
  intro H locs ls hP hD hS hl
  refine va_last C.1 C.2.1 C.2.2.2.2.2.1 hP hD hS q t0 (ix_e hq he) ht (vp_in_nI hi hn) d (fun H1 locs1 hP1 hD1 hS1 => ?_)
  rw [nI_clamp (Nat.lt_trans hi hn), ix_set] at hP1 hD1
  exact k H1 locs1 ls hP1 hD1 hS1 hl
theorem g_alen (C : gX M cc own Ts tys D cl A nL) (q t0 : Nat) (hq : q < N) {cA : ClassId} {x : vp_A} (he : ct q = .inl (cA, x)) {ty : FieldType} (ht : tys[t0]? = some (cA, ty)) (d : decode cc pc = .ok (.arraylength, 1)) (k : gW M D cl A nL cells slots Q N ad (pc + 1) lv (.int (nI x.1) :: rest) ct) : gW M D cl A nL cells slots Q N ad pc lv (.ref (ad q) :: rest) ct := by
  intro H locs ls hP hD hS hl
  exact va_alen C.1 C.2.1 C.2.2.2.2.2.1 hP q t0 (ix_e hq he) ht rfl d (k H locs ls hP hD hS hl)
theorem g_aald (C : gX M cc own Ts tys D cl A nL) (q t0 : Nat) (hq : q < N) {cQ : ClassId} {n : Nat} {f : Nat → Option Nat} {ty : FieldType} (he : ct q = QA cQ n f) (ht : tys[t0]? = some (cQ, ty)) (hty : ty.isReference = true) {i : Nat} {a : Nat} (hi : i < n) (hn : n < 2 ^ 31) (hv : f i = some a) (d : decode cc pc = .ok (.aaload, 1)) (k : gW M D cl A nL cells slots Q N ad (pc + 1) lv (.ref a :: rest) ct) : gW M D cl A nL cells slots Q N ad pc lv (.int (nI i) :: .ref (ad q) :: rest) ct := by
  intro H locs ls hP hD hS hl
  have hin : vp_in (nI i) n := vp_in_nI hi hn
  have hlt : (nI i).toNatClampNeg < n := Nat.not_le.mp fun q => hin (Or.inr q)
  have hcl : (nI i).toNatClampNeg = i := nI_clamp (Nat.lt_trans hi hn)
  refine W.aald (v := .ref a) (ty := ty) C.1 C.2.1 (hP q _ (ix_e hq he)) ((C.2.2.2.2.2.1.2 t0 _ ht).1 n (fun j => va_rf (f j))) hty (fun q => by cases q) (by show ¬ (nI i < 0 ∨ (arrV _ _ _).slots.size ≤ _); rw [arrV_size]; exact hin) (by show (arrV _ _ _).slots[_]? = _; rw [arrV_read _ _ hlt, hcl, hv]; rfl) rfl rfl d (k H locs ls hP hD hS hl)
theorem g_ldc2 (C : gX M cc own Ts tys D cl A nL) {index : Nat} {v : Int64} (hc : Cond.constantLong own index v ∈ Ts) (d : decode cc pc = .ok (.ldc2_w index, 3)) (k : gW M D cl A nL cells slots Q N ad (pc + 3) lv (.long v :: rest) ct) : gW M D cl A nL cells slots Q N ad pc lv rest ct := by
  intro H locs ls hP hD hS hl
  exact lv_ldc2 C.1 C.2.1 C.2.2.2.1 (C.2.2.2.2.1 _ hc) d (k H locs ls hP hD hS hl)
theorem g_acopy (C : gX M cc own Ts tys D cl A nL) {index : Nat} (hlink : Cond.methodLink own index arraycopyName ∈ Ts) (hnat : Cond.native arraycopyName ∈ Ts) (hstat : Cond.static arraycopyName ∈ Ts) (hini : Cond.initialized "java/lang/System" ∈ Ts) (q0 q1 t0 : Nat) (h0 : q0 < N) (h1 : q1 < N) {cJ : ClassId} {n0 n1 : Nat} {f g : Nat → Int64} (he0 : ct q0 = LA cJ n0 f) (he1 : ct q1 = LA cJ n1 g) (ht : tys[t0]? = some (cJ, .long)) {n : Nat} (hn0 : n ≤ n0) (hn1 : n ≤ n1) (hn : n < 2 ^ 31) (hfr : 1 ≤ (gR M).frames) (hlo : (rest.map fun v => v.category).sum + (nativeFrameWords "java/lang/System" "arraycopy" 5 + 11) ≤ (gR M).locals) (d : decode cc pc = .ok (.invokestatic index, 3)) (k : gW M D cl A nL cells slots Q N ad (pc + 3) lv rest (va_up ct q1 (LA cJ n1 (va_cpy f g 0 0 n)))) : gW M D cl A nL cells slots Q N ad pc lv (.int (nI n) :: .int 0 :: .ref (ad q1) :: .int 0 :: .ref (ad q0) :: rest) ct := by
  intro H locs ls hP hD hS hl
  have hz : (0 : Int32).toNatClampNeg = 0 := rfl
  have hcl : (nI n).toNatClampNeg = n := nI_clamp hn
  refine va_copyl (sp := 0) (dp := 0) (n := nI n) C.1 C.2.1 (by rw [hl.1]; exact C.2.2.1) C.2.2.2.1 (C.2.2.2.2.1 _ hlink) (C.2.2.2.2.1 _ hnat) (C.2.2.2.2.1 _ hstat) (C.2.2.2.2.1 _ hini) C.2.2.2.2.2.1 hP hD hS q0 q1 t0 t0 (ix_e h0 he0) (ix_e h1 he1) ht ht rfl (by decide) (by decide) (nI_pos hn) (by rw [hz, hcl]; omega) (by rw [hz, hcl]; omega) (fun i _ => rfl) hfr hlo d (fun H1 locs1 hP1 hD1 hS1 => ?_)
  rw [hz, hcl, ix_set] at hP1 hD1
  exact k H1 locs1 ls hP1 hD1 hS1 hl
end
/-! ===== contracts over the indexed world: methods that don't throw and make nothing ===== -/
def gP (D : va_G) (cl : List vw_C) (tys : List (ClassId × FieldType)) (N : Nat) (ad : Nat → Nat) (ct : Nat → va_E) (sz : Nat) (U : State) : Prop := U.heap.size = sz ∧ va_P D cl (ix N ad ct) U.heap ∧ va_K D cl tys U ∧ va_D (fun _ => True) (ix N ad ct)
def gB (D : va_G) (cl : List vw_C) (tys : List (ClassId × FieldType)) (N : Nat) (ad : Nat → Nat) (A : Nat → Prop) (ct : Nat → va_E) (t : State) : Prop := va_P D cl (ix N ad ct) t.heap ∧ va_K D cl tys t ∧ va_D A (ix N ad ct)
theorem gP_bl {D : va_G} {cl : List vw_C} {tys : List (ClassId × FieldType)} {N : Nat} {ad : Nat → Nat} {ct : Nat → va_E} {sz : Nat} {av : List Value} : FrameBlind (va_Pc av (gP D cl tys N ad ct sz)) := fun a U g mk q => by
  obtain ⟨q0, q1, qP, qK, qD⟩ := q
  exact ⟨q0, q1, qP, va_K.moved (u := U) (U := U.calling g mk a) (Vm.Alike.refl U.vm) qK, qD⟩
def gMl (l : Launch) (y : MethodName) (ws : List Cond) (rm : Room) (D : va_G) (cl : List vw_C) (tys : List (ClassId × FieldType)) (N : Nat) (ad : Nat → Nat) (av : List Value) (ct : Nat → va_E) (post : Int64 → (Nat → va_E) → Prop) : Prop := ∀ sz, Met l y ws rm (va_Pc av (gP D cl tys N ad ct sz)) (va_Ql post (gB D cl tys N ad (ixA N ad sz)) (ixA N ad sz)) 0 0 (ixA N ad sz)
def gMi (l : Launch) (y : MethodName) (ws : List Cond) (rm : Room) (D : va_G) (cl : List vw_C) (tys : List (ClassId × FieldType)) (N : Nat) (ad : Nat → Nat) (av : List Value) (ct : Nat → va_E) (post : Int32 → (Nat → va_E) → Prop) : Prop := ∀ sz, Met l y ws rm (va_Pc av (gP D cl tys N ad ct sz)) (va_Qi post (gB D cl tys N ad (ixA N ad sz)) (ixA N ad sz)) 0 0 (ixA N ad sz)
def gMv (l : Launch) (y : MethodName) (ws : List Cond) (rm : Room) (D : va_G) (cl : List vw_C) (tys : List (ClassId × FieldType)) (N : Nat) (ad : Nat → Nat) (av : List Value) (ct : Nat → va_E) (post : (Nat → va_E) → Prop) : Prop := ∀ sz, Met l y ws rm (va_Pc av (gP D cl tys N ad ct sz)) (va_Qv post (gB D cl tys N ad (ixA N ad sz)) (ixA N ad sz)) 0 0 (ixA N ad sz)

theorem gof_l {l : Launch} {y : MethodName} {ws ws' : List Cond} {rm : Room} {cc : ByteArray} {maxL : Nat} {D : va_G} {cl : List vw_C} {tys : List (ClassId × FieldType)} {N : Nat} {ad : Nat → Nat} {av : List Value} {ct : Nat → va_E} {post : Int64 → (Nat → va_E) → Prop} (hy : plainName y.cls = true) (hw : ws = Cond.code y cc maxL (some .long) :: ws') (hlen : (lg_sl av).length ≤ maxL)
    (body : ∀ (M : gM) (sz : Nat), gX M cc y.cls ws tys D cl (ixA N ad sz) maxL → gl M = l → gR M = (headSpec ws rm).room → (gt M).sig.returnType = (some .long) → (gs M).heap.size = sz → gW M D cl (ixA N ad sz) maxL 0 0 (MQ (gb M) (va_Ql post (gB D cl tys N ad (ixA N ad sz)) (ixA N ad sz)) (ga M) (gs M) 0 0 (ixA N ad sz)) N ad 0 (lva 0 av) [] ct) : gMl l y ws rm D cl tys N ad av ct post := by
  intro sz
  refine Met.ofW (cc := cc) (maxL := maxL) (ret := (some .long)) hy hw ?_
  intro p e s m args below meth c s₁ B hml hv
  obtain ⟨rfl, hsz, hP, hK, hD0⟩ := hv
  have hts := atoms_spec (ws := ws) B.pre
  have hown : s.vm.findClass y.cls = some m.cls := findClass_of_methodNamed B.named
  have hl := lv_entry av (n := maxL) hlen
  rw [lg_entry_eq]
  generalize (lg_sl av ++ List.replicate (maxL - (lg_sl av).length) Slot.unset).toArray = ls at hl ⊢
  exact body (p, l, e, (headSpec ws rm).room, s, m, av.toArray, below, meth, c) sz ⟨B.exec, B.bytes, hml, hown, hts, hK, fun q h => Or.inr (by rw [← hsz]; exact h), B.notSynchronized⟩ rfl rfl B.returns hsz s.heap [] ls hP (ixA_D hD0) va_S.rf (lva_h hl)
theorem gof_i {l : Launch} {y : MethodName} {ws ws' : List Cond} {rm : Room} {cc : ByteArray} {maxL : Nat} {D : va_G} {cl : List vw_C} {tys : List (ClassId × FieldType)} {N : Nat} {ad : Nat → Nat} {av : List Value} {ct : Nat → va_E} {post : Int32 → (Nat → va_E) → Prop} (hy : plainName y.cls = true) (hw : ws = Cond.code y cc maxL (some .int) :: ws') (hlen : (lg_sl av).length ≤ maxL)
    (body : ∀ (M : gM) (sz : Nat), gX M cc y.cls ws tys D cl (ixA N ad sz) maxL → gl M = l → gR M = (headSpec ws rm).room → (gt M).sig.returnType = (some .int) → (gs M).heap.size = sz → gW M D cl (ixA N ad sz) maxL 0 0 (MQ (gb M) (va_Qi post (gB D cl tys N ad (ixA N ad sz)) (ixA N ad sz)) (ga M) (gs M) 0 0 (ixA N ad sz)) N ad 0 (lva 0 av) [] ct) : gMi l y ws rm D cl tys N ad av ct post := by
  intro sz
  refine Met.ofW (cc := cc) (maxL := maxL) (ret := (some .int)) hy hw ?_
  intro p e s m args below meth c s₁ B hml hv
  obtain ⟨rfl, hsz, hP, hK, hD0⟩ := hv
  have hts := atoms_spec (ws := ws) B.pre
  have hown : s.vm.findClass y.cls = some m.cls := findClass_of_methodNamed B.named
  have hl := lv_entry av (n := maxL) hlen
  rw [lg_entry_eq]
  generalize (lg_sl av ++ List.replicate (maxL - (lg_sl av).length) Slot.unset).toArray = ls at hl ⊢
  exact body (p, l, e, (headSpec ws rm).room, s, m, av.toArray, below, meth, c) sz ⟨B.exec, B.bytes, hml, hown, hts, hK, fun q h => Or.inr (by rw [← hsz]; exact h), B.notSynchronized⟩ rfl rfl B.returns hsz s.heap [] ls hP (ixA_D hD0) va_S.rf (lva_h hl)
theorem gof_z {l : Launch} {y : MethodName} {ws ws' : List Cond} {rm : Room} {cc : ByteArray} {maxL : Nat} {D : va_G} {cl : List vw_C} {tys : List (ClassId × FieldType)} {N : Nat} {ad : Nat → Nat} {av : List Value} {ct : Nat → va_E} {post : Int32 → (Nat → va_E) → Prop} (hy : plainName y.cls = true) (hw : ws = Cond.code y cc maxL (some .boolean) :: ws') (hlen : (lg_sl av).length ≤ maxL)
    (body : ∀ (M : gM) (sz : Nat), gX M cc y.cls ws tys D cl (ixA N ad sz) maxL → gl M = l → gR M = (headSpec ws rm).room → (gt M).sig.returnType = (some .boolean) → (gs M).heap.size = sz → gW M D cl (ixA N ad sz) maxL 0 0 (MQ (gb M) (va_Qi post (gB D cl tys N ad (ixA N ad sz)) (ixA N ad sz)) (ga M) (gs M) 0 0 (ixA N ad sz)) N ad 0 (lva 0 av) [] ct) : gMi l y ws rm D cl tys N ad av ct post := by
  intro sz
  refine Met.ofW (cc := cc) (maxL := maxL) (ret := (some .boolean)) hy hw ?_
  intro p e s m args below meth c s₁ B hml hv
  obtain ⟨rfl, hsz, hP, hK, hD0⟩ := hv
  have hts := atoms_spec (ws := ws) B.pre
  have hown : s.vm.findClass y.cls = some m.cls := findClass_of_methodNamed B.named
  have hl := lv_entry av (n := maxL) hlen
  rw [lg_entry_eq]
  generalize (lg_sl av ++ List.replicate (maxL - (lg_sl av).length) Slot.unset).toArray = ls at hl ⊢
  exact body (p, l, e, (headSpec ws rm).room, s, m, av.toArray, below, meth, c) sz ⟨B.exec, B.bytes, hml, hown, hts, hK, fun q h => Or.inr (by rw [← hsz]; exact h), B.notSynchronized⟩ rfl rfl B.returns hsz s.heap [] ls hP (ixA_D hD0) va_S.rf (lva_h hl)
theorem gof_v {l : Launch} {y : MethodName} {ws ws' : List Cond} {rm : Room} {cc : ByteArray} {maxL : Nat} {D : va_G} {cl : List vw_C} {tys : List (ClassId × FieldType)} {N : Nat} {ad : Nat → Nat} {av : List Value} {ct : Nat → va_E} {post : (Nat → va_E) → Prop} (hy : plainName y.cls = true) (hw : ws = Cond.code y cc maxL none :: ws') (hlen : (lg_sl av).length ≤ maxL)
    (body : ∀ (M : gM) (sz : Nat), gX M cc y.cls ws tys D cl (ixA N ad sz) maxL → gl M = l → gR M = (headSpec ws rm).room → (gt M).sig.returnType = none → (gs M).heap.size = sz → gW M D cl (ixA N ad sz) maxL 0 0 (MQ (gb M) (va_Qv post (gB D cl tys N ad (ixA N ad sz)) (ixA N ad sz)) (ga M) (gs M) 0 0 (ixA N ad sz)) N ad 0 (lva 0 av) [] ct) : gMv l y ws rm D cl tys N ad av ct post := by
  intro sz
  refine Met.ofW (cc := cc) (maxL := maxL) (ret := none) hy hw ?_
  intro p e s m args below meth c s₁ B hml hv
  obtain ⟨rfl, hsz, hP, hK, hD0⟩ := hv
  have hts := atoms_spec (ws := ws) B.pre
  have hown : s.vm.findClass y.cls = some m.cls := findClass_of_methodNamed B.named
  have hl := lv_entry av (n := maxL) hlen
  rw [lg_entry_eq]
  generalize (lg_sl av ++ List.replicate (maxL - (lg_sl av).length) Slot.unset).toArray = ls at hl ⊢
  exact body (p, l, e, (headSpec ws rm).room, s, m, av.toArray, below, meth, c) sz ⟨B.exec, B.bytes, hml, hown, hts, hK, fun q h => Or.inr (by rw [← hsz]; exact h), B.notSynchronized⟩ rfl rfl B.returns hsz s.heap [] ls hP (ixA_D hD0) va_S.rf (lva_h hl)
theorem g_lret {M : gM} {cc : ByteArray} {own : String} {Ts : List Cond} {tys : List (ClassId × FieldType)} {D : va_G} {cl : List vw_C} {nL : Nat} {N : Nat} {ad : Nat → Nat} {pc : Nat} {lv : gLv} {ct : Nat → va_E} {sz : Nat} {post : Int64 → (Nat → va_E) → Prop} {v : Int64} (C : gX M cc own Ts tys D cl (ixA N ad sz) nL) (hr : (gt M).sig.returnType = some .long) (hp : post v ct) (d : decode cc pc = .ok (.lreturn, 1)) :
    gW M D cl (ixA N ad sz) nL 0 0 (MQ (gb M) (va_Ql post (gB D cl tys N ad (ixA N ad sz)) (ixA N ad sz)) (ga M) (gs M) 0 0 (ixA N ad sz)) N ad pc lv [.long v] ct := by
  intro H locs ls hP hD hS hl
  exact W.lret (v := v) C.1 C.2.1 hr (fun t ht hW => ⟨⟨v, ct, rfl, hp, by rw [ht]; exact hP, va_K.moved hW.alike C.2.2.2.2.2.1, hD⟩, hS.F ht⟩) hS.2.2 d (hlocks := C.2.2.2.2.2.2.2)
theorem g_iret {M : gM} {cc : ByteArray} {own : String} {Ts : List Cond} {tys : List (ClassId × FieldType)} {D : va_G} {cl : List vw_C} {nL : Nat} {N : Nat} {ad : Nat → Nat} {pc : Nat} {lv : gLv} {ct : Nat → va_E} {sz : Nat} {post : Int32 → (Nat → va_E) → Prop} {v : Int32} (C : gX M cc own Ts tys D cl (ixA N ad sz) nL) (hr : (gt M).sig.returnType = some .int) (hp : post v ct) (d : decode cc pc = .ok (.ireturn, 1)) :
    gW M D cl (ixA N ad sz) nL 0 0 (MQ (gb M) (va_Qi post (gB D cl tys N ad (ixA N ad sz)) (ixA N ad sz)) (ga M) (gs M) 0 0 (ixA N ad sz)) N ad pc lv [.int v] ct := by
  intro H locs ls hP hD hS hl
  exact W.iret (v := v) C.1 C.2.1 hr (fun t ht hW => ⟨⟨v, ct, rfl, hp, by rw [ht]; exact hP, va_K.moved hW.alike C.2.2.2.2.2.1, hD⟩, hS.F ht⟩) hS.2.2 d (hlocks := C.2.2.2.2.2.2.2)
theorem g_zret {M : gM} {cc : ByteArray} {own : String} {Ts : List Cond} {tys : List (ClassId × FieldType)} {D : va_G} {cl : List vw_C} {nL : Nat} {N : Nat} {ad : Nat → Nat} {pc : Nat} {lv : gLv} {ct : Nat → va_E} {sz : Nat} {post : Int32 → (Nat → va_E) → Prop} {v : Int32} (C : gX M cc own Ts tys D cl (ixA N ad sz) nL) (hr : (gt M).sig.returnType = some .boolean) (hn : narrow .boolean (.int v) = .int v) (hp : post v ct) (d : decode cc pc = .ok (.ireturn, 1)) :
    gW M D cl (ixA N ad sz) nL 0 0 (MQ (gb M) (va_Qi post (gB D cl tys N ad (ixA N ad sz)) (ixA N ad sz)) (ga M) (gs M) 0 0 (ixA N ad sz)) N ad pc lv [.int v] ct := by
  intro H locs ls hP hD hS hl
  exact W.zret (v := v) C.1 C.2.1 hr hn (fun t ht hW => ⟨⟨v, ct, rfl, hp, by rw [ht]; exact hP, va_K.moved hW.alike C.2.2.2.2.2.1, hD⟩, hS.F ht⟩) hS.2.2 d (hlocks := C.2.2.2.2.2.2.2)
theorem g_vret {M : gM} {cc : ByteArray} {own : String} {Ts : List Cond} {tys : List (ClassId × FieldType)} {D : va_G} {cl : List vw_C} {nL : Nat} {N : Nat} {ad : Nat → Nat} {pc : Nat} {lv : gLv} {ct : Nat → va_E} {sz : Nat} {post : (Nat → va_E) → Prop} (C : gX M cc own Ts tys D cl (ixA N ad sz) nL) (hr : (gt M).sig.returnType = none) (hp : post ct) (d : decode cc pc = .ok (.return_, 1)) :
    gW M D cl (ixA N ad sz) nL 0 0 (MQ (gb M) (va_Qv post (gB D cl tys N ad (ixA N ad sz)) (ixA N ad sz)) (ga M) (gs M) 0 0 (ixA N ad sz)) N ad pc lv [] ct := by
  intro H locs ls hP hD hS hl
  exact W.vret C.1 C.2.1 hr (fun t ht hW => ⟨⟨ct, rfl, hp, by rw [ht]; exact hP, va_K.moved hW.alike C.2.2.2.2.2.1, hD⟩, hS.F ht⟩) hS.2.2 d (hlocks := C.2.2.2.2.2.2.2)
theorem g_cSl {M : gM} {cc : ByteArray} {own : String} {Ts : List Cond} {tys : List (ClassId × FieldType)} {D : va_G} {cl : List vw_C} {A : Nat → Prop} {nL cells slots : Nat} {Q : State → Prop} {N : Nat} {ad : Nat → Nat} {pc : Nat} {lv : gLv} {rest : List Value} {ct : Nat → va_E} {y : MethodName} {wsy wsy' : List Cond} {rmy : Room} {bytes : ByteArray} {maxL index n : Nat} {ret : Option FieldType} {av : List Value} {post : Int64 → (Nat → va_E) → Prop} (C : gX M cc own Ts tys D cl A nL) (hM : gMl (gl M) y wsy rmy D cl tys N ad av ct post) (hG : GoodIn Ts (va_wsS own index y wsy)) (hw : wsy = Cond.code y bytes maxL ret :: wsy') (hrc : rmy.cells = 0 ∧ rmy.slots = 0) (hR : rmy.frames + 1 ≤ (gR M).frames ∧ 8 + (maxL + 11) + rmy.locals ≤ (gR M).locals) (hroom : cells ≤ (gR M).cells ∧ slots ≤ (gR M).slots) (hst : (rest.map fun v => v.category).sum ≤ 8) (hd : y.cls ≠ "java/lang/invoke/MethodHandle" ∧ y.cls ≠ "java/lang/invoke/VarHandle" ∧ (parseMethodDescriptor y.desc).map (fun d => d.parameters.length) = some n) (hn : av.length = n) (d : decode cc pc = .ok (.invokestatic index, 3)) (k : ∀ (v : Int64) (ct1 : Nat → va_E), post v ct1 → gW M D cl A nL cells slots Q N ad (pc + 3) lv (.long v :: rest) ct1) :
    gW M D cl A nL cells slots Q N ad pc lv (av.reverse ++ rest) ct := by
  intro H locs ls hP hD hS hl
  refine va_calll (va_runS (As := av) (rest := rest) ⟨C.1, C.2.1, C.2.2.1, C.2.2.2.1, C.2.2.2.2.1⟩ (hM H.size) (va_cwS n C.2.2.2.2.1 hG hw hrc.1 hrc.2 hd hR) ⟨gP_bl, fun U hU hW => ⟨rfl, by rw [hU], by rw [hU]; exact hP, va_K.moved hW.alike C.2.2.2.2.2.1, hD.weaken (fun _ _ _ _ => trivial)⟩⟩ rfl hn hl.1 rfl (lv_room hst) d ⟨hroom.1, hroom.2⟩) hS (fun q _ h => ixA_up hD hS C.2.2.2.2.2.2.1 q h) (ixA_up hD hS C.2.2.2.2.2.2.1) (fun r u t H1 locs1 ht hvm hw hB hz1 hk1 hS1 => ?_)
  obtain ⟨hP1, hK1, hD1⟩ := hB
  rw [ht] at hP1
  exact k r u hw H1 locs1 ls hP1 (ix_D hD) hS1 hl
theorem g_cVl {M : gM} {cc : ByteArray} {own : String} {Ts : List Cond} {tys : List (ClassId × FieldType)} {D : va_G} {cl : List vw_C} {A : Nat → Prop} {nL cells slots : Nat} {Q : State → Prop} {N : Nat} {ad : Nat → Nat} {pc : Nat} {lv : gLv} {rest : List Value} {ct : Nat → va_E} {y : MethodName} {wsy wsy' : List Cond} {rmy : Room} {bytes : ByteArray} {maxL index n : Nat} {ret : Option FieldType} {av : List Value} {post : Int64 → (Nat → va_E) → Prop} (C : gX M cc own Ts tys D cl A nL) {Cn : String} {T : u_T} {nf ci : Nat} {fs : List Value} (q : Nat) (hq : q < N) (he : ct q = .inr (ci, fs)) (hc : cl[ci]? = some (Cn, T, nf)) (hM : gMl (gl M) y wsy rmy D cl tys N ad (.ref (ad q) :: av) ct post) (hG : GoodIn Ts (wsV own index Cn y wsy)) (hw : wsy = Cond.code y bytes maxL ret :: wsy') (hrc : rmy.cells = 0 ∧ rmy.slots = 0) (hR : rmy.frames + 1 ≤ (gR M).frames ∧ 8 + (maxL + 11) + rmy.locals ≤ (gR M).locals) (hroom : cells ≤ (gR M).cells ∧ slots ≤ (gR M).slots) (hst : (rest.map fun v => v.category).sum ≤ 8) (hd : y.cls = Cn ∧ y.cls ≠ "java/lang/invoke/MethodHandle" ∧ y.cls ≠ "java/lang/invoke/VarHandle" ∧ (parseMethodDescriptor y.desc).map (fun d => d.parameters.length) = some n) (hn : av.length = n) (d : decode cc pc = .ok (.invokevirtual index, 3)) (k : ∀ (v : Int64) (ct1 : Nat → va_E), post v ct1 → gW M D cl A nL cells slots Q N ad (pc + 3) lv (.long v :: rest) ct1) :
    gW M D cl A nL cells slots Q N ad pc lv (av.reverse ++ .ref (ad q) :: rest) ct := by
  intro H locs ls hP hD hS hl
  refine va_calll (va_runV (As := av) (rest := rest) ⟨C.1, C.2.1, C.2.2.1, C.2.2.2.1, C.2.2.2.2.1⟩ (hM H.size) (cwV n C.2.2.2.2.1 hG hw hrc.1 hrc.2 hd hR) ⟨gP_bl, va_recv C.2.2.2.2.2.1 hP hc (ix_e hq he), fun U hU hW => ⟨rfl, by rw [hU], by rw [hU]; exact hP, va_K.moved hW.alike C.2.2.2.2.2.1, hD.weaken (fun _ _ _ _ => trivial)⟩⟩ rfl hn hl.1 rfl (lv_room hst) d ⟨hroom.1, hroom.2⟩) hS (fun q _ h => ixA_up hD hS C.2.2.2.2.2.2.1 q h) (ixA_up hD hS C.2.2.2.2.2.2.1) (fun r u t H1 locs1 ht hvm hw hB hz1 hk1 hS1 => ?_)
  obtain ⟨hP1, hK1, hD1⟩ := hB
  rw [ht] at hP1
  exact k r u hw H1 locs1 ls hP1 (ix_D hD) hS1 hl
theorem g_cSi {M : gM} {cc : ByteArray} {own : String} {Ts : List Cond} {tys : List (ClassId × FieldType)} {D : va_G} {cl : List vw_C} {A : Nat → Prop} {nL cells slots : Nat} {Q : State → Prop} {N : Nat} {ad : Nat → Nat} {pc : Nat} {lv : gLv} {rest : List Value} {ct : Nat → va_E} {y : MethodName} {wsy wsy' : List Cond} {rmy : Room} {bytes : ByteArray} {maxL index n : Nat} {ret : Option FieldType} {av : List Value} {post : Int32 → (Nat → va_E) → Prop} (C : gX M cc own Ts tys D cl A nL) (hM : gMi (gl M) y wsy rmy D cl tys N ad av ct post) (hG : GoodIn Ts (va_wsS own index y wsy)) (hw : wsy = Cond.code y bytes maxL ret :: wsy') (hrc : rmy.cells = 0 ∧ rmy.slots = 0) (hR : rmy.frames + 1 ≤ (gR M).frames ∧ 8 + (maxL + 11) + rmy.locals ≤ (gR M).locals) (hroom : cells ≤ (gR M).cells ∧ slots ≤ (gR M).slots) (hst : (rest.map fun v => v.category).sum ≤ 8) (hd : y.cls ≠ "java/lang/invoke/MethodHandle" ∧ y.cls ≠ "java/lang/invoke/VarHandle" ∧ (parseMethodDescriptor y.desc).map (fun d => d.parameters.length) = some n) (hn : av.length = n) (d : decode cc pc = .ok (.invokestatic index, 3)) (k : ∀ (v : Int32) (ct1 : Nat → va_E), post v ct1 → gW M D cl A nL cells slots Q N ad (pc + 3) lv (.int v :: rest) ct1) :
    gW M D cl A nL cells slots Q N ad pc lv (av.reverse ++ rest) ct := by
  intro H locs ls hP hD hS hl
  refine va_calli (va_runS (As := av) (rest := rest) ⟨C.1, C.2.1, C.2.2.1, C.2.2.2.1, C.2.2.2.2.1⟩ (hM H.size) (va_cwS n C.2.2.2.2.1 hG hw hrc.1 hrc.2 hd hR) ⟨gP_bl, fun U hU hW => ⟨rfl, by rw [hU], by rw [hU]; exact hP, va_K.moved hW.alike C.2.2.2.2.2.1, hD.weaken (fun _ _ _ _ => trivial)⟩⟩ rfl hn hl.1 rfl (lv_room hst) d ⟨hroom.1, hroom.2⟩) hS (fun q _ h => ixA_up hD hS C.2.2.2.2.2.2.1 q h) (ixA_up hD hS C.2.2.2.2.2.2.1) (fun r u t H1 locs1 ht hvm hw hB hz1 hk1 hS1 => ?_)
  obtain ⟨hP1, hK1, hD1⟩ := hB
  rw [ht] at hP1
  exact k r u hw H1 locs1 ls hP1 (ix_D hD) hS1 hl
theorem g_cVi {M : gM} {cc : ByteArray} {own : String} {Ts : List Cond} {tys : List (ClassId × FieldType)} {D : va_G} {cl : List vw_C} {A : Nat → Prop} {nL cells slots : Nat} {Q : State → Prop} {N : Nat} {ad : Nat → Nat} {pc : Nat} {lv : gLv} {rest : List Value} {ct : Nat → va_E} {y : MethodName} {wsy wsy' : List Cond} {rmy : Room} {bytes : ByteArray} {maxL index n : Nat} {ret : Option FieldType} {av : List Value} {post : Int32 → (Nat → va_E) → Prop} (C : gX M cc own Ts tys D cl A nL) {Cn : String} {T : u_T} {nf ci : Nat} {fs : List Value} (q : Nat) (hq : q < N) (he : ct q = .inr (ci, fs)) (hc : cl[ci]? = some (Cn, T, nf)) (hM : gMi (gl M) y wsy rmy D cl tys N ad (.ref (ad q) :: av) ct post) (hG : GoodIn Ts (wsV own index Cn y wsy)) (hw : wsy = Cond.code y bytes maxL ret :: wsy') (hrc : rmy.cells = 0 ∧ rmy.slots = 0) (hR : rmy.frames + 1 ≤ (gR M).frames ∧ 8 + (maxL + 11) + rmy.locals ≤ (gR M).locals) (hroom : cells ≤ (gR M).cells ∧ slots ≤ (gR M).slots) (hst : (rest.map fun v => v.category).sum ≤ 8) (hd : y.cls = Cn ∧ y.cls ≠ "java/lang/invoke/MethodHandle" ∧ y.cls ≠ "java/lang/invoke/VarHandle" ∧ (parseMethodDescriptor y.desc).map (fun d => d.parameters.length) = some n) (hn : av.length = n) (d : decode cc pc = .ok (.invokevirtual index, 3)) (k : ∀ (v : Int32) (ct1 : Nat → va_E), post v ct1 → gW M D cl A nL cells slots Q N ad (pc + 3) lv (.int v :: rest) ct1) :
    gW M D cl A nL cells slots Q N ad pc lv (av.reverse ++ .ref (ad q) :: rest) ct := by
  intro H locs ls hP hD hS hl
  refine va_calli (va_runV (As := av) (rest := rest) ⟨C.1, C.2.1, C.2.2.1, C.2.2.2.1, C.2.2.2.2.1⟩ (hM H.size) (cwV n C.2.2.2.2.1 hG hw hrc.1 hrc.2 hd hR) ⟨gP_bl, va_recv C.2.2.2.2.2.1 hP hc (ix_e hq he), fun U hU hW => ⟨rfl, by rw [hU], by rw [hU]; exact hP, va_K.moved hW.alike C.2.2.2.2.2.1, hD.weaken (fun _ _ _ _ => trivial)⟩⟩ rfl hn hl.1 rfl (lv_room hst) d ⟨hroom.1, hroom.2⟩) hS (fun q _ h => ixA_up hD hS C.2.2.2.2.2.2.1 q h) (ixA_up hD hS C.2.2.2.2.2.2.1) (fun r u t H1 locs1 ht hvm hw hB hz1 hk1 hS1 => ?_)
  obtain ⟨hP1, hK1, hD1⟩ := hB
  rw [ht] at hP1
  exact k r u hw H1 locs1 ls hP1 (ix_D hD) hS1 hl
theorem g_cSv {M : gM} {cc : ByteArray} {own : String} {Ts : List Cond} {tys : List (ClassId × FieldType)} {D : va_G} {cl : List vw_C} {A : Nat → Prop} {nL cells slots : Nat} {Q : State → Prop} {N : Nat} {ad : Nat → Nat} {pc : Nat} {lv : gLv} {rest : List Value} {ct : Nat → va_E} {y : MethodName} {wsy wsy' : List Cond} {rmy : Room} {bytes : ByteArray} {maxL index n : Nat} {ret : Option FieldType} {av : List Value} {post : (Nat → va_E) → Prop} (C : gX M cc own Ts tys D cl A nL) (hM : gMv (gl M) y wsy rmy D cl tys N ad av ct post) (hG : GoodIn Ts (va_wsS own index y wsy)) (hw : wsy = Cond.code y bytes maxL ret :: wsy') (hrc : rmy.cells = 0 ∧ rmy.slots = 0) (hR : rmy.frames + 1 ≤ (gR M).frames ∧ 8 + (maxL + 11) + rmy.locals ≤ (gR M).locals) (hroom : cells ≤ (gR M).cells ∧ slots ≤ (gR M).slots) (hst : (rest.map fun v => v.category).sum ≤ 8) (hd : y.cls ≠ "java/lang/invoke/MethodHandle" ∧ y.cls ≠ "java/lang/invoke/VarHandle" ∧ (parseMethodDescriptor y.desc).map (fun d => d.parameters.length) = some n) (hn : av.length = n) (d : decode cc pc = .ok (.invokestatic index, 3)) (k : ∀ ct1 : Nat → va_E, post ct1 → gW M D cl A nL cells slots Q N ad (pc + 3) lv rest ct1) :
    gW M D cl A nL cells slots Q N ad pc lv (av.reverse ++ rest) ct := by
  intro H locs ls hP hD hS hl
  refine va_callv (va_runS (As := av) (rest := rest) ⟨C.1, C.2.1, C.2.2.1, C.2.2.2.1, C.2.2.2.2.1⟩ (hM H.size) (va_cwS n C.2.2.2.2.1 hG hw hrc.1 hrc.2 hd hR) ⟨gP_bl, fun U hU hW => ⟨rfl, by rw [hU], by rw [hU]; exact hP, va_K.moved hW.alike C.2.2.2.2.2.1, hD.weaken (fun _ _ _ _ => trivial)⟩⟩ rfl hn hl.1 rfl (lv_room hst) d ⟨hroom.1, hroom.2⟩) hS (fun q _ h => ixA_up hD hS C.2.2.2.2.2.2.1 q h) (ixA_up hD hS C.2.2.2.2.2.2.1) (fun u t H1 locs1 ht hvm hw hB hz1 hk1 hS1 => ?_)
  obtain ⟨hP1, hK1, hD1⟩ := hB
  rw [ht] at hP1
  exact k u hw H1 locs1 ls hP1 (ix_D hD) hS1 hl
theorem g_cVv {M : gM} {cc : ByteArray} {own : String} {Ts : List Cond} {tys : List (ClassId × FieldType)} {D : va_G} {cl : List vw_C} {A : Nat → Prop} {nL cells slots : Nat} {Q : State → Prop} {N : Nat} {ad : Nat → Nat} {pc : Nat} {lv : gLv} {rest : List Value} {ct : Nat → va_E} {y : MethodName} {wsy wsy' : List Cond} {rmy : Room} {bytes : ByteArray} {maxL index n : Nat} {ret : Option FieldType} {av : List Value} {post : (Nat → va_E) → Prop} (C : gX M cc own Ts tys D cl A nL) {Cn : String} {T : u_T} {nf ci : Nat} {fs : List Value} (q : Nat) (hq : q < N) (he : ct q = .inr (ci, fs)) (hc : cl[ci]? = some (Cn, T, nf)) (hM : gMv (gl M) y wsy rmy D cl tys N ad (.ref (ad q) :: av) ct post) (hG : GoodIn Ts (wsV own index Cn y wsy)) (hw : wsy = Cond.code y bytes maxL ret :: wsy') (hrc : rmy.cells = 0 ∧ rmy.slots = 0) (hR : rmy.frames + 1 ≤ (gR M).frames ∧ 8 + (maxL + 11) + rmy.locals ≤ (gR M).locals) (hroom : cells ≤ (gR M).cells ∧ slots ≤ (gR M).slots) (hst : (rest.map fun v => v.category).sum ≤ 8) (hd : y.cls = Cn ∧ y.cls ≠ "java/lang/invoke/MethodHandle" ∧ y.cls ≠ "java/lang/invoke/VarHandle" ∧ (parseMethodDescriptor y.desc).map (fun d => d.parameters.length) = some n) (hn : av.length = n) (d : decode cc pc = .ok (.invokevirtual index, 3)) (k : ∀ ct1 : Nat → va_E, post ct1 → gW M D cl A nL cells slots Q N ad (pc + 3) lv rest ct1) :
    gW M D cl A nL cells slots Q N ad pc lv (av.reverse ++ .ref (ad q) :: rest) ct := by
  intro H locs ls hP hD hS hl
  refine va_callv (va_runV (As := av) (rest := rest) ⟨C.1, C.2.1, C.2.2.1, C.2.2.2.1, C.2.2.2.2.1⟩ (hM H.size) (cwV n C.2.2.2.2.1 hG hw hrc.1 hrc.2 hd hR) ⟨gP_bl, va_recv C.2.2.2.2.2.1 hP hc (ix_e hq he), fun U hU hW => ⟨rfl, by rw [hU], by rw [hU]; exact hP, va_K.moved hW.alike C.2.2.2.2.2.1, hD.weaken (fun _ _ _ _ => trivial)⟩⟩ rfl hn hl.1 rfl (lv_room hst) d ⟨hroom.1, hroom.2⟩) hS (fun q _ h => ixA_up hD hS C.2.2.2.2.2.2.1 q h) (ixA_up hD hS C.2.2.2.2.2.2.1) (fun u t H1 locs1 ht hvm hw hB hz1 hk1 hS1 => ?_)
  obtain ⟨hP1, hK1, hD1⟩ := hB
  rw [ht] at hP1
  exact k u hw H1 locs1 ls hP1 (ix_D hD) hS1 hl
