/-! ===== the law's own rows ===== -/
theorem tys_of {args : Array Value} {s : State} (h1 : (Cond.arrayClass .long).before args s = true) (h2 : (Cond.arrayOver (.array .long)).before args s = true) : ∃ cJ cQ : ClassId, ArrOfT s cJ .long ∧ va_RA s cJ .long ∧ ArrOfT s cQ (.array .long) ∧ va_RA s cQ (.array .long) := by
  obtain ⟨cJ, kJ, comp, a1, a2, a3⟩ := Cond.arrayClass_spec h1
  obtain ⟨comp2, cQ, kQ, b1, b2, b3, b4⟩ := Cond.arrayOver_specA h2
  exact ⟨cJ, cQ, fun n z => ⟨fun k h => (by cases h), kJ, a2, comp, a3⟩, a1, fun n z => ⟨fun k h => (by cases h), kQ, b2, comp2, b3⟩, b4⟩
section
variable {M : gM} {cc : ByteArray} {own : String} {Ts : List Cond} {tys : List (ClassId × FieldType)} {D : va_G} {cl : List vw_C} {A : Nat → Prop} {nL cells slots : Nat} {N : Nat} {ad : Nat → Nat} {pc : Nat} {lv : gLv} {rest : List Value} {ct : Nat → va_E} {Q : State → Prop}
theorem g_new (C : gX M cc own Ts tys D cl A nL) {Cn : String} {T : u_T} {n ci index : Nat} (hin : ∀ w ∈ u_ws Cn T n, w ∈ Ts) (ty : Nat → FieldType) (hty : ∀ k, k < n → parseFieldDescriptor (T k).2.2.1 = some (ty k)) (hlink : Cond.classLink own index Cn ∈ Ts) (hinst : Cond.instantiable Cn n ∈ Ts) (hini : Cond.initialized Cn ∈ Ts) (hc : cl[ci]? = some (Cn, T, n)) {fs : List Value} (hfs : ∀ j, j < n → defaultValue (ty j) = vp_V fs j) (hcells : cells + 1 ≤ (gR M).cells) (hslots : slots + n ≤ (gR M).slots) (d : decode cc pc = .ok (.new index, 3))
    (k : ∀ ad' : Nat → Nat, (∀ j, j < N → ad' j = ad j) → gW M D cl A nL (cells + 1) (slots + n) Q (N + 1) ad' (pc + 3) lv (.ref (ad' N) :: rest) (va_up ct N (.inr (ci, fs)))) : gW M D cl A nL cells slots Q N ad pc lv rest ct := by
  intro H locs ls hP hD hS hl
  refine va_new C.1 C.2.1 C.2.2.2.2.1 hin ty hty C.2.2.2.1 (C.2.2.2.2.1 _ hlink) (C.2.2.2.2.1 _ hinst) (C.2.2.2.2.1 _ hini) C.2.2.2.2.2.1 hP hD hS C.2.2.2.2.2.2.1 hc hfs hcells hslots d (fun q H1 hP1 hD1 hS1 => ?_)
  rw [ix_app] at hP1 hD1
  have := k (va_up ad N q) (fun j hj => va_up_ne _ _ (by omega)) H1 locs ls hP1 hD1 hS1 hl
  rw [va_up_self] at this
  exact this
theorem g_ini (C : gX M cc own Ts tys D cl A nL) (hAO : va_AOA .long (gs M)) {y : MethodName} {wsy wsy' : List Cond} {rmy : Room} {mcy msy : Nat} {bytes : ByteArray} {maxL index N1 a : Nat} {post : gS → Prop} (hM : gI (gl M) y wsy rmy mcy msy D cl tys N N1 ad [.ref a] ct post) (hG : GoodIn Ts wsy) (hw : wsy = Cond.code y bytes maxL none :: wsy') (hrc : rmy.cells = mcy ∧ rmy.slots = msy) (hini : Cond.initialized y.cls ∈ Ts) (hlink : Cond.methodLink own index y ∈ Ts) (hinst : Cond.instanceMethod y ∈ Ts) (hyn : y.name = "<init>") (hd : y.cls ≠ "java/lang/invoke/MethodHandle" ∧ y.cls ≠ "java/lang/invoke/VarHandle" ∧ (parseMethodDescriptor y.desc).map (fun d => d.parameters.length) = some 0) (hR : rmy.frames + 1 ≤ (gR M).frames ∧ 8 + (maxL + 11) + rmy.locals ≤ (gR M).locals) (hroom : cells + mcy ≤ (gR M).cells ∧ slots + msy ≤ (gR M).slots) (hst : (rest.map fun v => v.category).sum ≤ 8) (d : decode cc pc = .ok (.invokespecial index, 3))
    (k : ∀ u : gS, post u → gW M D cl A nL (cells + mcy) (slots + msy) Q N1 u.1 (pc + 3) lv rest u.2) : gW M D cl A nL cells slots Q N ad pc lv (.ref a :: rest) ct := by
  intro H locs ls hP hD hS hl
  have hup := ixA_up hD hS C.2.2.2.2.2.2.1
  refine va_callv (va_runI (As := []) (rest := rest) ⟨C.1, C.2.1, C.2.2.1, C.2.2.2.1, C.2.2.2.2.1⟩ (hM H.size) (cwI 0 C.2.2.2.2.1 hG hw hrc.1 hrc.2 (C.2.2.2.2.1 _ hini) (C.2.2.2.2.1 _ hlink) (C.2.2.2.2.1 _ hinst) hyn hd hR) ⟨gPI_bl, fun U hU hW => ⟨rfl, ⟨by rw [hU], by rw [hU]; exact hP, va_K.moved hW.alike C.2.2.2.2.2.1, hD.weaken (fun _ _ _ _ => trivial)⟩, va_AOA.moved hW.alike hAO⟩⟩ rfl rfl hl.1 rfl (lv_room hst) d hroom) hS (fun q _ h => hup q h) hup (fun u t H1 locs1 ht hvm hw2 hB hz1 hk1 hS1 => ?_)
  obtain ⟨hP1, hK1, hD1⟩ := hB
  rw [ht] at hP1
  exact k u hw2 H1 locs1 ls hP1 ⟨hD1.1, fun k q hk => hup _ (hD1.2 k q hk)⟩ hS1 hl
theorem g_cCi (C : gX M cc own Ts tys D cl A nL) (hT : gT A (gs M) (gs M).heap) (hn1 : va_Nc xIA xIO (gs M)) (hn2 : va_Nc xUO xIO (gs M)) {y : MethodName} {wsy wsy' : List Cond} {rmy : Room} {mcy msy : Nat} {bytes : ByteArray} {maxL index n : Nat} {ret : Option FieldType} {hh : List (Nat × Nat × Nat × Nat)} {av : List Value} {post : Int32 → (Nat → va_E) → Prop}
    (hM : gCi (gl M) y wsy rmy mcy msy D cl tys N ad av ct post) (hG : GoodIn Ts (va_wsS own index y wsy)) (hw : wsy = Cond.codeWith y bytes maxL ret hh :: wsy') (hrc : rmy.cells = mcy ∧ rmy.slots = msy) (hR : rmy.frames + 1 ≤ (gR M).frames ∧ 8 + (maxL + 11) + rmy.locals ≤ (gR M).locals) (hroom : cells + mcy ≤ (gR M).cells ∧ slots + msy ≤ (gR M).slots) (hst : (rest.map fun v => v.category).sum ≤ 8) (hd : y.cls ≠ "java/lang/invoke/MethodHandle" ∧ y.cls ≠ "java/lang/invoke/VarHandle" ∧ (parseMethodDescriptor y.desc).map (fun d => d.parameters.length) = some n) (hn : av.length = n) (d : decode cc pc = .ok (.invokestatic index, 3))
    (k : ∀ (v : Int32) (ct1 : Nat → va_E), post v ct1 → gW M D cl A nL (cells + mcy) (slots + msy) Q N ad (pc + 3) lv (.int v :: rest) ct1) :
    gW M D cl A nL cells slots Q N ad pc lv (av.reverse ++ rest) ct := by
  intro H locs ls hP hD hS hl
  have hup := ixA_up hD hS C.2.2.2.2.2.2.1
  refine va_calli (vx_runSW (As := av) (rest := rest) ⟨C.1, C.2.1, C.2.2.1, C.2.2.2.1, C.2.2.2.2.1⟩ (hM H.size) (vx_cwSW n C.2.2.2.2.1 hG hw hrc.1 hrc.2 hd hR) ⟨gPW_bl, fun U hU hW => ⟨rfl, ⟨⟨by rw [hU], by rw [hU]; exact hP, va_K.moved hW.alike C.2.2.2.2.2.1, hD.weaken (fun _ _ _ _ => trivial)⟩, by rw [hU]; exact gT_warm hW hS.2.1 hup hT⟩, va_Nc.moved hW.alike hn1, va_Nc.moved hW.alike hn2⟩⟩ rfl hn hl.1 rfl (lv_room hst) d hroom) hS (fun q _ h => hup q h) hup (fun r u t H1 locs1 ht hvm hw2 hB hz1 hk1 hS1 => ?_)
  obtain ⟨hP1, hK1, hD1⟩ := hB
  rw [ht] at hP1
  exact k r u hw2 H1 locs1 ls hP1 (ix_D hD) hS1 hl
theorem g_slen (C : gX M cc own Ts tys D cl A nL) {b L : Nat} {xs : Nat → Int32} (hX : va_X b L xs (gs M) (gs M).heap) (hbl : b < (gs M).heap.size) (hbA : ¬ A b) (d : decode cc pc = .ok (.arraylength, 1)) (k : gW M D cl A nL cells slots Q N ad (pc + 1) lv (.int (nI L) :: rest) ct) : gW M D cl A nL cells slots Q N ad pc lv (.ref b :: rest) ct := by
  intro H locs ls hP hD hS hl
  exact va_slen C.1 C.2.1 hX hbl hbA hS d (k H locs ls hP hD hS hl)
theorem g_sld (C : gX M cc own Ts tys D cl A nL) {b L : Nat} {xs : Nat → Int32} (hX : va_X b L xs (gs M) (gs M).heap) (hbl : b < (gs M).heap.size) (hbA : ¬ A b) {i : Nat} (hi : i < L) (hL : L < 2 ^ 31) (d : decode cc pc = .ok (.iaload, 1)) (k : gW M D cl A nL cells slots Q N ad (pc + 1) lv (.int (xs i) :: rest) ct) : gW M D cl A nL cells slots Q N ad pc lv (.int (nI i) :: .ref b :: rest) ct := by
  intro H locs ls hP hD hS hl
  have e : (nI i).toNatClampNeg = i := pk_cl i rfl (by omega)
  refine va_sld C.1 C.2.1 hX hbl hbA hS (vp_in_nI hi hL) d ?_
  rw [e]
  exact k H locs ls hP hD hS hl
theorem g_tin (C : gX M cc own Ts tys D cl A nL) {dflt lo hi : Int} {offs : Array Int} {len : Nat} {x : Int32} {off : Int} {tgt : Nat} (d : decode cc pc = .ok (.tableswitch dflt lo hi offs, len)) (h1 : ¬ x.toInt < lo) (h2 : ¬ hi < x.toInt) (ho : offs[(x.toInt - lo).toNat]? = some off) (ht : (pc : Int) + off = (tgt : Int)) (k : gW M D cl A nL cells slots Q N ad tgt lv rest ct) : gW M D cl A nL cells slots Q N ad pc lv (.int x :: rest) ct := by
  intro H locs ls hP hD hS hl
  exact lv_tableIn C.1 C.2.1 d h1 h2 ho ht (k H locs ls hP hD hS hl)
theorem g_tout (C : gX M cc own Ts tys D cl A nL) {dflt lo hi : Int} {offs : Array Int} {len : Nat} {x : Int32} {tgt : Nat} (d : decode cc pc = .ok (.tableswitch dflt lo hi offs, len)) (h : x.toInt < lo ∨ hi < x.toInt) (ht : (pc : Int) + dflt = (tgt : Int)) (k : gW M D cl A nL cells slots Q N ad tgt lv rest ct) : gW M D cl A nL cells slots Q N ad pc lv (.int x :: rest) ct := by
  intro H locs ls hP hD hS hl
  exact lv_tableOut C.1 C.2.1 d h ht (k H locs ls hP hD hS hl)
end
