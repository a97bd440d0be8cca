/-! THE CLAIM OUT OF ONE WALK OF THE LAW'S BODY. Your part is whole_start (and what it stands on); all else here is the same for every law, but numbers. -/
def R_law : String := "WheelProductsLaw"
def lw_P (b : Addr) (xs : List Int32) (args : Array Value) (s : State) : Prop := args = #[.ref b] ∧ s.IntsAt b xs ∧ xs.length ≤ 2560 ∧ (Jvm.Cond.and given_1 narrow_1).before args s = true
def lw_Q (_ : Array Value) (s : State) (o : Outcome) (t : State) : Prop := o = .returned (some (.int 1)) ∧ Framed s o t [] 601024 7293034
def lw_Z (below : List Frame) (a : Array Value) (s : State) : State → Prop := fun t => ∃ o, t.status = .running ∧ Ended t below o ∧ lw_Q a s o t
/-- the law's own end, with 1 on the stack, nothing written that was there before, its room as the claim has it -/
theorem lw_ret {p : Program} {l : Launch} {e : Env} {s : State} {m : MethodId} {below : List Frame} {meth : Method} {c : Code} {b : Nat} (hx : p.tables.exec = Jvm.exec) (hb : c.code = code) (hr : meth.sig.returnType = ret) (hlocks : meth.locks = false) {pc : Nat} {H : Heap} {ls : Array Slot} (hdg : decode code pc = .ok (.ireturn, 1)) : W p l e room_1 s m #[Value.ref b] below meth c H [] 601024 7293034 (lw_Z below #[Value.ref b] s) (F0 m pc ls [.int 1]) := by
  intro T hT X
  obtain ⟨fs, hret, hrun, hended, hW, hframe⟩ := X.leave (v := some (.int 1)) (hlocks := hlocks) (fun h => by rw [hr] at h; cases h)
  have hmeth' : T.vm.method? m = some meth := X.method'
  refine ⟨T.setFrames fs, ?_, .returned (some (.int 1)), hrun, hended, rfl, ⟨_, rfl⟩, hW, hframe⟩
  jvm_step X.here [X.here.top, hx, hb, hdg, hmeth', hr, ret, narrow_b1]
  (try refine ⟨rfl, ?_⟩); (try refine ⟨rfl, ?_⟩)
  first | (intro acts; rw [hret _ acts rfl rfl rfl]) | rw [hret _ _ rfl rfl rfl]
  exact Steps.refl _
/-- what holds at the law's entry: the machine, the code, the tables' words (any of lw_tbl by 'hts w (by decide +kernel)'), the script of L ints xs at the cell b, what the Statement gives of the start (any of its parts by flat_of_before) -/
def lw_At (p : Program) (s : State) (m : MethodId) (meth : Method) (c : Code) (b L : Nat) (xs : Nat → Int32) : Prop :=
  p.tables.exec = Jvm.exec ∧ c.code = code ∧ meth.sig.returnType = ret ∧ c.maxLocals = 8 ∧ s.vm.findClass R_law = some m.cls ∧ (∀ w ∈ lw_tbl, w.before #[Value.ref b] s = true) ∧ va_X b L xs s s.heap ∧ b < s.heap.size ∧ meth.locks = false ∧ (Jvm.Cond.and given_1 narrow_1).before #[Value.ref b] s = true
set_option maxRecDepth 20000 in
theorem inlX0 : ∀ w ∈ wsX00, w ∈ wsL_law := fun _ h => List.mem_append_left _ (List.mem_append_left _ (List.mem_append_left _ (List.mem_append_left _ (List.mem_append_left _ (List.mem_append_right _ h)))))
set_option maxRecDepth 20000 in
theorem inlX1 : ∀ w ∈ wsX10, w ∈ wsL_law := fun _ h => List.mem_append_left _ (List.mem_append_left _ (List.mem_append_left _ (List.mem_append_left _ (List.mem_append_right _ h))))
theorem gRow_cg {ad ad' : Nat → Nat} {b : Nat} (h : ∀ i, i < 6 → ad' (b + i) = ad (b + i)) : gRow ad b = gRow ad' b := by
  funext i
  show (if i < 6 then some (ad (b + i)) else none) = if i < 6 then some (ad' (b + i)) else none
  by_cases hi : i < 6
  · rw [if_pos hi, if_pos hi, h i hi]
  · rw [if_neg hi, if_neg hi]
theorem stX_ad {cJ cQ : ClassId} {ad ad' : Nat → Nat} {p : Nat} {wn : Nat → Nat} {Mr Nw : Nat → Nat → Nat} {ct : Nat → va_E} (h : ∀ k, k < 20 → ad' k = ad k) (S : stX cJ cQ ad p wn Mr Nw ct) : stX cJ cQ ad' p wn Mr Nw ct := by
  obtain ⟨a1, a2, a3, a4, a5, a6, a7, a8, a9, a10⟩ := S
  refine ⟨a1.trans ?_, a2, a3.trans ?_, a4, a5.trans ?_, a6, a7, a8, a9, a10⟩
  · show (.inr (0, [.long (lN p), .ref (ad 1), .ref (ad 2), .ref (ad 9), .ref (ad 16), .ref (ad 17), .ref (ad 18), .ref (ad 19)]) : va_E) = .inr (0, [.long (lN p), .ref (ad' 1), .ref (ad' 2), .ref (ad' 9), .ref (ad' 16), .ref (ad' 17), .ref (ad' 18), .ref (ad' 19)])
    rw [h 1 (by decide), h 2 (by decide), h 9 (by decide), h 16 (by decide), h 17 (by decide), h 18 (by decide), h 19 (by decide)]
  · rw [gRow_cg (fun i hi => h (3 + i) (by omega))]
  · rw [gRow_cg (fun i hi => h (10 + i) (by omega))]
theorem gStr_in : ∀ q ∈ gStr, Cond.stringRef RX0 q.1 q.2 ∈ lw_tbl := by decide +kernel
theorem gBad_in : ∀ w ∈ gBad, w ∈ lw_tbl := by decide +kernel
set_option maxRecDepth 100000 in
set_option maxHeartbeats 4000000 in
/-- from the entry, for every script of at most 2560 ints, the law comes to its end with true -/
theorem whole_start {p : Program} {e : Env} {s : State} {m : MethodId} {below : List Frame} {meth : Method} {c : Code} (l : Launch) (hst : l.stackTraces = false) {b L : Nat} {xs : Nat → Int32} (hL : L ≤ 2560) (C0 : lw_At p s m meth c b L xs) : W p l e room_1 s m #[Value.ref b] below meth c s.heap [] 0 0 (lw_Z below #[Value.ref b] s) (entryFrame m ([Value.ref b] : List Value).toArray 8) := by
  obtain ⟨hx, hb, hr, hml, hown, hts, hX, hbl, hlocks, hgv⟩ := id C0
  have hs := flat_of_before _ hgv
  have hA : ∀ q : Nat, s.heap.size ≤ q → (fun q : Nat => s.heap.size ≤ q) q := fun _ h => h
  have hbA : ¬ (fun q : Nat => s.heap.size ≤ q) b := Nat.not_le.mpr hbl
  have hAn : ∀ a : Nat, a < s.heap.size → ¬ (fun q : Nat => s.heap.size ≤ q) a := fun a h => Nat.not_le.mpr h
  obtain ⟨c0, iS0, hK0⟩ := u_known (C := RX0) (T := TX0) (N := 8) (n := 8) hts lawX0 (hts (.instantiable RX0 8) (by decide +kernel))
  obtain ⟨c1, iS1, hK1⟩ := u_known (C := RX1) (T := TX1) (N := 8) (n := 8) hts lawX1 (hts (.instantiable RX1 8) (by decide +kernel))
  obtain ⟨D, hKc⟩ : ∃ D : va_G, ∀ (k : Nat) (q : vw_C), vwCl[k]? = some q → u_Kn s q.1 q.2.1 q.2.2 (D.1 k) (D.2 k) := by
    refine ⟨(fun k => if k = 0 then c0 else c1, fun k => if k = 0 then iS0 else iS1), ?_⟩
    intro k q hq
    match k, hq with
    | 0, hq => cases hq; exact hK0
    | 1, hq => cases hq; exact hK1
    | k + 2, hq => simp at hq
  have hcur : s.vm.findClass RX0 = some (D.1 0) := (hKc 0 _ rfl).2.1
  obtain ⟨cJ, cQ, t1, t2, t3, t4⟩ := tys_of (hts (.arrayClass .long) (by decide +kernel)) (hts (.arrayOver (.array .long)) (by decide +kernel))
  have hK : va_K D vwCl [(cJ, .long), (cQ, .array .long)] s := ⟨hKc, fun k q h => by
    match k, h with
    | 0, h => cases h; exact ⟨t1, t2⟩
    | 1, h => cases h; exact ⟨t3, t4⟩
    | k + 2, h => simp at h⟩
  have hAO : va_AOA .long s := hts (.arrayOver (.array .long)) (by decide +kernel)
  have hT : gT (fun q : Nat => s.heap.size ≤ q) s s.heap := ⟨vx_Zqof (hts (.laysStatic Bundle.tN "UNASSIGNED_STACK" Bundle.steD) (by decide +kernel)) (hts (.initialized Bundle.tN) (by decide +kernel)) (hs (.isRef (.static Bundle.tN "UNASSIGNED_STACK" Bundle.steD)) (by decide +kernel)) hAn, vx_Zqof (hts (.laysStatic Bundle.tN "SUPPRESSED_SENTINEL" Bundle.listD) (by decide +kernel)) (hts (.initialized Bundle.tN) (by decide +kernel)) (hs (.isRef (.static Bundle.tN "SUPPRESSED_SENTINEL" Bundle.listD)) (by decide +kernel)) hAn, fun w hw => va_Nw.of (gBad_on w hw) (hts w (gBad_in w hw)), fun q hq => by
      have h1 := hts _ (gStr_in q hq)
      obtain ⟨-, -, -, a, -, -, -, -, -, h2⟩ := Cond.stringRef_spec hcur h1
      exact ⟨a, vk_R.of h1 h2⟩⟩
  have hn1 : va_Nc xIA xIO s := va_Nc.of (hs (.not (.castable xIA xIO)) (by decide +kernel))
  have hn2 : va_Nc xUO xIO s := va_Nc.of (hs (.not (.castable xUO xIO)) (by decide +kernel))
  have C : gX (p, l, e, room_1, s, m, #[Value.ref b], below, meth, c) cL_law RL wsL_law [(cJ, .long), (cQ, .array .long)] D vwCl (fun q : Nat => s.heap.size ≤ q) 8 := ⟨hx, hb, hml, hown, fun w h => hts w (wsL_law_in w h), hK, hA, hlocks⟩
  have hend : ∀ (ad : Nat → Nat) (ct : Nat → va_E) (cells slots : Nat) (lv : gLv), cells ≤ 601024 → slots ≤ 7293034 → gW (p, l, e, room_1, s, m, #[Value.ref b], below, meth, c) D vwCl (fun q : Nat => s.heap.size ≤ q) 8 cells slots (lw_Z below #[Value.ref b] s) 27 ad 1425 lv [.int 1] ct := by
    intro ad ct cells slots lv h1 h2 H locs ls hP hD hS hl
    exact W.widen h1 h2 (va_forget hS.2.2 (lw_ret hx hb hr hlocks dL_law_1425))
  have K : gW (p, l, e, room_1, s, m, #[Value.ref b], below, meth, c) D vwCl (fun q : Nat => s.heap.size ≤ q) 8 0 0 (lw_Z below #[Value.ref b] s) 0 (fun _ => 0) 0 (lva 0 [.ref b]) [] (fun _ => LN cJ 0 (fun _ => 0)) := by
    refine g_new (ci := 0) (Cn := RX0) (T := TX0) (n := 8) (fs := [.long (lN 0), .null, .null, .null, .null, .null, .null, .null]) C inlX0 tyX0 tyX0_ok (by decide +kernel) (by decide +kernel) (by decide +kernel) rfl (fun j hj => by rcases (show j = 0 ∨ j = 1 ∨ j = 2 ∨ j = 3 ∨ j = 4 ∨ j = 5 ∨ j = 6 ∨ j = 7 by omega) with rfl | rfl | rfl | rfl | rfl | rfl | rfl | rfl <;> rfl) (Nat.le_of_ble_eq_true rfl) (Nat.le_of_ble_eq_true rfl) dL_law_0 (fun ad1 h1 => ?_)
    refine g_dup C dL_law_3 (k := ?_)
    refine g_ini C hAO (c_init l (va_up_self _ _ _) rfl rfl) gL_law_X0_init rfl ⟨rfl, rfl⟩ (by decide +kernel) (by decide +kernel) (by decide +kernel) rfl (by decide +kernel) ⟨(Nat.le_of_ble_eq_true rfl), (Nat.le_of_ble_eq_true rfl)⟩ ⟨(Nat.le_of_ble_eq_true rfl), (Nat.le_of_ble_eq_true rfl)⟩ (Nat.le_of_ble_eq_true rfl) dL_law_4 ?_
    rintro ⟨ad2, ct2⟩ ⟨h2, S2⟩
    refine g_astore_n C dL_law_7 (k := ?_)
    refine g_new (ci := 1) (Cn := RX1) (T := TX1) (n := 8) (fs := [.int (nI 0), .long (lN 0), .long (lN 0), .null, .null, .null, .null, .null]) C inlX1 tyX1 tyX1_ok (by decide +kernel) (by decide +kernel) (by decide +kernel) rfl (fun j hj => by rcases (show j = 0 ∨ j = 1 ∨ j = 2 ∨ j = 3 ∨ j = 4 ∨ j = 5 ∨ j = 6 ∨ j = 7 by omega) with rfl | rfl | rfl | rfl | rfl | rfl | rfl | rfl <;> rfl) (Nat.le_of_ble_eq_true rfl) (Nat.le_of_ble_eq_true rfl) dL_law_8 (fun ad3 h3 => ?_)
    refine g_dup C dL_law_11 (k := ?_)
    refine g_ini C hAO (m_init l (va_up_self _ _ _) rfl) gL_law_X1_init rfl ⟨rfl, rfl⟩ (by decide +kernel) (by decide +kernel) (by decide +kernel) rfl (by decide +kernel) ⟨(Nat.le_of_ble_eq_true rfl), (Nat.le_of_ble_eq_true rfl)⟩ ⟨(Nat.le_of_ble_eq_true rfl), (Nat.le_of_ble_eq_true rfl)⟩ (Nat.le_of_ble_eq_true rfl) dL_law_12 ?_
    rintro ⟨ad4, ct4⟩ ⟨h4, g4, e20, e21, e22, e23, e24, e25⟩
    refine g_astore_n C dL_law_15 (k := ?_)
    refine g_iconst C (nI 1) dL_law_16 (k := ?_)
    refine g_newl C rfl (by decide +kernel) (by decide) (by decide) (by decide) (Nat.le_of_ble_eq_true rfl) (Nat.le_of_ble_eq_true rfl) dL_law_17 (fun ad5 h5 => ?_)
    refine g_astore_n C dL_law_19 (k := ?_)
    refine g_iconst C (nI 0) dL_law_20 (k := ?_)
    refine g_istore C dL_law_21 (k := ?_)
    dsimp only at h2 S2 h4 g4 e20 e21 e22 e23 e24 e25 h3 h5
    have c0' : ad5 0 = ad1 0 := ((h5 0 (by decide)).trans (h4 0 (by decide))).trans ((h3 0 (by decide)).trans h2)
    have c20 : ad5 20 = ad3 20 := (h5 20 (by decide)).trans (h4 20 (by decide))
    have c26 : ∀ k, k < 26 → ad5 k = ad4 k := h5
    have Iv : inv cJ cQ ad5 (va_up ct4 26 (LN cJ 1 (fun _ => 0))) := by
      refine ⟨998244353, 3, fun _ _ => 0, fun _ _ => 0, fun _ => 0, fun _ => 0, ?_, ?_, ⟨fun _ => lN 0, va_up_self _ _ _⟩, p0_pgk, fun i k _ _ => ⟨(by show 0 < 998244353; decide), rfl⟩, fun i k _ => (by show 0 < 2 ^ 32; decide), fun i k _ _ => rfl⟩
      · refine stX_cg (ct := ct2) (fun k hk => ?_) (stX_ad (fun k hk => ?_) S2)
        · rw [va_up_ne _ _ (by omega), g4 k hk, va_up_ne _ _ (by omega)]
        · rw [h5 k (by omega), h4 k (by omega), h3 k hk]
      · refine ⟨⟨nI 0, ?_⟩, (va_up_ne _ _ (by decide)).trans e21, (va_up_ne _ _ (by decide)).trans e22, ⟨_, (va_up_ne _ _ (by decide)).trans e23⟩, ⟨_, (va_up_ne _ _ (by decide)).trans e24⟩, _, (va_up_ne _ _ (by decide)).trans e25⟩
        refine (va_up_ne _ _ (by decide)).trans (e20.trans ?_)
        show (.inr (1, [.int (nI 0), .long (lN 998244353), .long (lN 3), .ref (ad4 21), .ref (ad4 22), .ref (ad4 23), .ref (ad4 24), .ref (ad4 25)]) : va_E) = .inr (1, [.int (nI 0), .long (lN 998244353), .long (lN 3), .ref (ad5 21), .ref (ad5 22), .ref (ad5 23), .ref (ad5 24), .ref (ad5 25)])
        rw [c26 21 (by decide), c26 22 (by decide), c26 23 (by decide), c26 24 (by decide), c26 25 (by decide)]
    have loop := law_loop (ad := ad5) ⟨C, hT, hn1, hn2, hst, rfl, rfl, rfl, hX, hbl, hbA, hL⟩ (hend ad5) 512 0 rfl _ Iv
    refine g_wd (by decide) (by decide) (g_l2 loop ⟨Or.inr rfl, Or.inr rfl, Or.inr ?_, Or.inr ?_, Or.inr rfl, trivial⟩)
    · show some (Value.ref (ad3 20)) = some (Value.ref (ad5 20))
      rw [c20]
    · show some (Value.ref (ad1 0)) = some (Value.ref (ad5 0))
      rw [c0']
  have hl := lv_entry ([.ref b]) (n := 8) (Nat.le_of_ble_eq_true rfl)
  rw [lg_entry_eq]
  generalize (lg_sl ([.ref b]) ++ List.replicate (8 - (lg_sl ([.ref b])).length) Slot.unset).toArray = ls at hl ⊢
  have hP0 : va_P D vwCl (ix 0 (fun _ => 0) (fun _ => LN cJ 0 (fun _ => 0))) s.heap := fun k q h => nomatch h
  have hD0 : va_D (fun q : Nat => s.heap.size ≤ q) (ix 0 (fun _ => 0) (fun _ => LN cJ 0 (fun _ => 0))) := ⟨(fun i j p q h => nomatch h), (fun k q h => nomatch h)⟩
  exact K s.heap [] ls hP0 hD0 va_S.rf (lva_h hl)
