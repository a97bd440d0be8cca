/-! ===== methods that catch what they call: contracts that only return, with cells of their own ===== -/
def gPW (D : va_G) (cl : List vw_C) (tys : List (ClassId × FieldType)) (N : Nat) (ad : Nat → Nat) (ct : Nat → va_E) (sz : Nat) (U : State) : Prop := gPT D cl tys N ad ct sz U ∧ va_Nc xIA xIO U ∧ va_Nc xUO xIO U
theorem gPW_bl {D : va_G} {cl : List vw_C} {tys : List (ClassId × FieldType)} {N : Nat} {ad : Nat → Nat} {ct : Nat → va_E} {sz : Nat} {av : List Value} : FrameBlind (va_Pc av (gPW D cl tys N ad ct sz)) := fun a U g mk q => by
  obtain ⟨q0, q1, q2, q3⟩ := q
  have hal : U.vm.Alike (U.calling g mk a).vm := Vm.Alike.refl U.vm
  exact ⟨q0, (gPT_bl (av := av) a U g mk ⟨q0, q1⟩).2, va_Nc.moved (u := U) (U := U.calling g mk a) hal q2, va_Nc.moved (u := U) (U := U.calling g mk a) hal q3⟩
def gCi (l : Launch) (y : MethodName) (ws : List Cond) (rm : Room) (mc ms : Nat) (D : va_G) (cl : List vw_C) (tys : List (ClassId × FieldType)) (N : Nat) (ad : Nat → Nat) (av : List Value) (ct : Nat → va_E) (post : Int32 → (Nat → va_E) → Prop) : Prop := ∀ sz, Met l y ws rm (va_Pc av (gPW D cl tys N ad ct sz)) (va_Qi post (gB D cl tys N ad (ixA N ad sz)) (ixA N ad sz)) mc ms (ixA N ad sz)
/-- what the start of such a method holds beside gX -/
def gY (M : gM) (hh : List (Nat × Nat × Nat × Nat)) (A : Nat → Prop) : Prop := (gc M).exceptionTable.toList = tableOf hh ∧ gT A (gs M) (gs M).heap ∧ va_Nc xIA xIO (gs M) ∧ va_Nc xUO xIO (gs M)
theorem gofC {l : Launch} {y : MethodName} {ws ws' : List Cond} {rm : Room} {mc ms : Nat} {cc : ByteArray} {maxL : Nat} {hh : List (Nat × Nat × Nat × Nat)} {D : va_G} {cl : List vw_C} {tys : List (ClassId × FieldType)} {N : Nat} {ad : Nat → Nat} {av : List Value} {ct : Nat → va_E} {post : Int32 → (Nat → va_E) → Prop} (hy : plainName y.cls = true) (hw : ws = Cond.codeWith y cc maxL (some .int) hh :: ws') (hlen : (lg_sl av).length ≤ maxL)
    (body : ∀ (M : gM) (sz : Nat), gX M cc y.cls ws tys D cl (ixA N ad sz) maxL → gl M = l → gR M = (headSpec ws rm).room → (gt M).sig.returnType = (some .int) → gY M hh (ixA N ad sz) → gW M D cl (ixA N ad sz) maxL 0 0 (MQ (gb M) (va_Qi post (gB D cl tys N ad (ixA N ad sz)) (ixA N ad sz)) (ga M) (gs M) mc ms (ixA N ad sz)) N ad 0 (lva 0 av) [] ct) : gCi l y ws rm mc ms D cl tys N ad av ct post := by
  intro sz
  refine va_MetW (cc := cc) (maxL := maxL) (ret := some .int) (hh := hh) hy hw ?_
  intro p e s m args below meth c s₁ B hml hv
  obtain ⟨rfl, ⟨⟨hsz, hP, hK, hD0⟩, hT⟩, hn1, hn2⟩ := hv
  have hts := atoms_spec (ws := ws) B.pre
  have hown : s.vm.findClass y.cls = some m.cls := findClass_of_methodNamed B.named
  have htab : c.exceptionTable.toList = tableOf hh := vx_table (x := y) B (hts (Cond.codeWith y cc maxL (some .int) hh) (by rw [hw]; exact List.mem_cons_self))
  have hl := lv_entry av (n := maxL) hlen
  rw [lg_entry_eq]
  generalize (lg_sl av ++ List.replicate (maxL - (lg_sl av).length) Slot.unset).toArray = ls at hl ⊢
  exact body (p, l, e, (headSpec ws rm).room, s, m, av.toArray, below, meth, c) sz ⟨B.exec, B.bytes, hml, hown, hts, hK, fun q h => Or.inr (by rw [← hsz]; exact h), B.notSynchronized⟩ rfl rfl B.returns ⟨htab, hT, hn1, hn2⟩ s.heap [] ls hP (ixA_D hD0) va_S.rf (lva_h hl)
/-- E, thrown at pc, is caught at h -/
def gCa (M : gM) (own : String) (pc : Nat) (E : String) (h : Nat) : Prop := ∃ (pre : List ExceptionTableEntry) (x : ExceptionTableEntry) (suf : List ExceptionTableEntry) (name : String), (gc M).exceptionTable.toList = pre ++ x :: suf ∧ (∀ z ∈ pre, covers z pc = false ∨ (z.catchType ≠ 0 ∧ ∃ nm : String, (Cond.classLink own z.catchType nm).before (ga M) (gs M) = true ∧ va_Nc E nm (gs M))) ∧ covers x pc = true ∧ x.catchType ≠ 0 ∧ (Cond.classLink own x.catchType name).before (ga M) (gs M) = true ∧ (Cond.castable E name).before (ga M) (gs M) = true ∧ x.handlerPc = h
theorem gCa_1 {M : gM} {cc : ByteArray} {own : String} {Ts : List Cond} {tys : List (ClassId × FieldType)} {D : va_G} {cl : List vw_C} {A : Nat → Prop} {nL : Nat} (C : gX M cc own Ts tys D cl A nL) {a b h t pc : Nat} {E : String} {suf : List (Nat × Nat × Nat × Nat)} (Y : gY M ((a, b, h, t) :: suf) A) (hc : ∀ x ∈ (tableOf [(a, b, h, t)]).head?, covers x pc = true ∧ x.catchType = t ∧ x.handlerPc = h) (h0 : t ≠ 0) (hlink : Cond.classLink own t E ∈ Ts) (hcast : Cond.castable E E ∈ gBad) : gCa M own pc E h := by
  obtain ⟨x, hx⟩ : ∃ x, tableOf ((a, b, h, t) :: suf) = x :: tableOf suf ∧ (tableOf [(a, b, h, t)]).head? = some x := ⟨_, rfl, rfl⟩
  obtain ⟨c1, c2, c3⟩ := hc x hx.2
  exact ⟨[], x, tableOf suf, E, by rw [Y.1, hx.1]; rfl, (fun z hz => nomatch hz), c1, by rw [c2]; exact h0, by rw [c2]; exact C.2.2.2.2.1 _ hlink, va_Nw.use (gBad_on _ hcast) (Y.2.1.2.2.1 _ hcast), c3⟩
theorem gCa_2 {M : gM} {cc : ByteArray} {own : String} {Ts : List Cond} {tys : List (ClassId × FieldType)} {D : va_G} {cl : List vw_C} {A : Nat → Prop} {nL : Nat} (C : gX M cc own Ts tys D cl A nL) {a b h t a2 b2 h2 t2 pc : Nat} {E F : String} (Y : gY M [(a, b, h, t), (a2, b2, h2, t2)] A) (hc : ∀ x ∈ (tableOf [(a2, b2, h2, t2)]).head?, covers x pc = true ∧ x.catchType = t2 ∧ x.handlerPc = h2) (hc1 : ∀ x ∈ (tableOf [(a, b, h, t)]).head?, x.catchType = t) (h0 : t2 ≠ 0) (h01 : t ≠ 0) (hlink : Cond.classLink own t2 E ∈ Ts) (hlink1 : Cond.classLink own t F ∈ Ts) (hnc : va_Nc E F (gs M)) (hcast : Cond.castable E E ∈ gBad) : gCa M own pc E h2 := by
  obtain ⟨z, x, hx⟩ : ∃ z x, tableOf [(a, b, h, t), (a2, b2, h2, t2)] = [z, x] ∧ (tableOf [(a, b, h, t)]).head? = some z ∧ (tableOf [(a2, b2, h2, t2)]).head? = some x := ⟨_, _, rfl, rfl, rfl⟩
  obtain ⟨c1, c2, c3⟩ := hc x hx.2.2
  have d2 := hc1 z hx.2.1
  refine ⟨[z], x, [], E, by rw [Y.1, hx.1]; rfl, (fun w hw => ?_), c1, by rw [c2]; exact h0, by rw [c2]; exact C.2.2.2.2.1 _ hlink, va_Nw.use (gBad_on _ hcast) (Y.2.1.2.2.1 _ hcast), c3⟩
  rw [List.mem_singleton] at hw
  subst hw
  exact Or.inr ⟨by rw [d2]; exact h01, F, by rw [d2]; exact C.2.2.2.2.1 _ hlink1, hnc⟩
section
variable {M : gM} {cc : ByteArray} {own : String} {Ts : List Cond} {tys : List (ClassId × FieldType)} {D : va_G} {cl : List vw_C} {nL cells slots : Nat} {N : Nat} {ad : Nat → Nat} {pc : Nat} {lv : gLv} {rest : List Value} {ct : Nat → va_E} {sz : Nat} {Q : State → Prop} {hh : List (Nat × Nat × Nat × Nat)}
variable {y : MethodName} {wsy wsy' : List Cond} {rmy : Room} {mcy msy : Nat} {bytes : ByteArray} {maxL index n : Nat} {ret : Option FieldType} {av : List Value} {xpy : String → (Nat → va_E) → Prop} {Cn : String} {T : u_T} {nf ci : Nat} {fs : List Value}
theorem g_tryl (C : gX M cc own Ts tys D cl (ixA N ad sz) nL) (Y : gY M hh (ixA N ad sz)) (q : Nat) (hq : q < N) (he : ct q = .inr (ci, fs)) (hc : cl[ci]? = some (Cn, T, nf)) {post : Int64 → (Nat → va_E) → Prop} (hM : gTl (gl M) y wsy rmy mcy msy D cl tys N ad (.ref (ad q) :: av) ct post xpy) (hG : GoodIn Ts (wsV own index Cn y wsy)) (hw : wsy = Cond.code y bytes maxL ret :: wsy') (hrc : rmy.cells = mcy ∧ rmy.slots = msy) (hR : rmy.frames + 1 ≤ (gR M).frames ∧ 8 + (maxL + 11) + rmy.locals ≤ (gR M).locals) (hroom : cells + mcy ≤ (gR M).cells ∧ slots + msy ≤ (gR M).slots) (hst : (rest.map fun v => v.category).sum ≤ 8) (hd : y.cls = Cn ∧ y.cls ≠ "java/lang/invoke/MethodHandle" ∧ y.cls ≠ "java/lang/invoke/VarHandle" ∧ (parseMethodDescriptor y.desc).map (fun d => d.parameters.length) = some n) (hn : av.length = n) (d : decode cc pc = .ok (.invokevirtual index, 3))
    (kx : ∀ E ct1, xpy E ct1 → ∃ h, gCa M own pc E h ∧ ∀ q9 : Nat, gW M D cl (ixA N ad sz) nL (cells + mcy) (slots + msy) Q N ad h lv [.ref q9] ct1)
    (k : ∀ (v : Int64) (ct1 : Nat → va_E), post v ct1 → gW M D cl (ixA N ad sz) nL (cells + mcy) (slots + msy) Q N ad (pc + 3) lv (.long v :: rest) ct1) :
    gW M D cl (ixA N ad sz) nL cells slots Q N ad pc lv (av.reverse ++ .ref (ad q) :: rest) ct := by
  intro H locs ls hP hD hS hl
  have hup := ixA_up hD hS C.2.2.2.2.2.2.1
  refine vx_calll (vx_runV (As := av) (rest := rest) ⟨C.1, C.2.1, C.2.2.1, C.2.2.2.1, C.2.2.2.2.1⟩ (hM H.size) (cwV n C.2.2.2.2.1 hG hw hrc.1 hrc.2 hd hR) ⟨gPT_bl, va_recv C.2.2.2.2.2.1 hP hc (ix_e hq he), fun U hU hW => ⟨rfl, ⟨by rw [hU], by rw [hU]; exact hP, va_K.moved hW.alike C.2.2.2.2.2.1, hD.weaken (fun _ _ _ _ => trivial)⟩, by rw [hU]; exact gT_warm hW hS.2.1 hup Y.2.1⟩⟩ rfl hn hl.1 rfl (lv_room hst) d hroom) hS (fun q _ h => hup q h) hup (fun q _ h => hup q h)
    (fun E ce q9 u t H1 locs1 ht hvm _ hB hz1 hk1 hS1 hce hcv hcl => ?_) (fun r u t H1 locs1 ht hvm hw2 hB hz1 hk1 hS1 => ?_)
  · obtain ⟨hxp, hP1, hK1, hD1⟩ := hB
    rw [ht] at hP1
    obtain ⟨h, ⟨pre, x, suf, name, g1, g2, g3, g4, g5, g6, rfl⟩, kW⟩ := kx E u hxp
    exact vx_catch C.2.2.2.1 pre x suf g1 g2 g3 g4 g5 g6 hce hcv hcl (kW q9 H1 locs1 ls hP1 (ix_D hD) hS1 hl)
  · obtain ⟨hP1, hK1, hD1⟩ := hB
    rw [ht] at hP1
    exact k r u hw2 H1 locs1 ls hP1 (ix_D hD) hS1 hl
theorem g_tryi (C : gX M cc own Ts tys D cl (ixA N ad sz) nL) (Y : gY M hh (ixA N ad sz)) (q : Nat) (hq : q < N) (he : ct q = .inr (ci, fs)) (hc : cl[ci]? = some (Cn, T, nf)) {post : Int32 → (Nat → va_E) → Prop} (hM : gTi (gl M) y wsy rmy mcy msy D cl tys N ad (.ref (ad q) :: av) ct post xpy) (hG : GoodIn Ts (wsV own index Cn y wsy)) (hw : wsy = Cond.code y bytes maxL ret :: wsy') (hrc : rmy.cells = mcy ∧ rmy.slots = msy) (hR : rmy.frames + 1 ≤ (gR M).frames ∧ 8 + (maxL + 11) + rmy.locals ≤ (gR M).locals) (hroom : cells + mcy ≤ (gR M).cells ∧ slots + msy ≤ (gR M).slots) (hst : (rest.map fun v => v.category).sum ≤ 8) (hd : y.cls = Cn ∧ y.cls ≠ "java/lang/invoke/MethodHandle" ∧ y.cls ≠ "java/lang/invoke/VarHandle" ∧ (parseMethodDescriptor y.desc).map (fun d => d.parameters.length) = some n) (hn : av.length = n) (d : decode cc pc = .ok (.invokevirtual index, 3))
    (kx : ∀ E ct1, xpy E ct1 → ∃ h, gCa M own pc E h ∧ ∀ q9 : Nat, gW M D cl (ixA N ad sz) nL (cells + mcy) (slots + msy) Q N ad h lv [.ref q9] ct1)
    (k : ∀ (v : Int32) (ct1 : Nat → va_E), post v ct1 → gW M D cl (ixA N ad sz) nL (cells + mcy) (slots + msy) Q N ad (pc + 3) lv (.int v :: rest) ct1) :
    gW M D cl (ixA N ad sz) nL cells slots Q N ad pc lv (av.reverse ++ .ref (ad q) :: rest) ct := by
  intro H locs ls hP hD hS hl
  have hup := ixA_up hD hS C.2.2.2.2.2.2.1
  refine vx_calli (vx_runV (As := av) (rest := rest) ⟨C.1, C.2.1, C.2.2.1, C.2.2.2.1, C.2.2.2.2.1⟩ (hM H.size) (cwV n C.2.2.2.2.1 hG hw hrc.1 hrc.2 hd hR) ⟨gPT_bl, va_recv C.2.2.2.2.2.1 hP hc (ix_e hq he), fun U hU hW => ⟨rfl, ⟨by rw [hU], by rw [hU]; exact hP, va_K.moved hW.alike C.2.2.2.2.2.1, hD.weaken (fun _ _ _ _ => trivial)⟩, by rw [hU]; exact gT_warm hW hS.2.1 hup Y.2.1⟩⟩ rfl hn hl.1 rfl (lv_room hst) d hroom) hS (fun q _ h => hup q h) hup (fun q _ h => hup q h)
    (fun E ce q9 u t H1 locs1 ht hvm _ hB hz1 hk1 hS1 hce hcv hcl => ?_) (fun r u t H1 locs1 ht hvm hw2 hB hz1 hk1 hS1 => ?_)
  · obtain ⟨hxp, hP1, hK1, hD1⟩ := hB
    rw [ht] at hP1
    obtain ⟨h, ⟨pre, x, suf, name, g1, g2, g3, g4, g5, g6, rfl⟩, kW⟩ := kx E u hxp
    exact vx_catch C.2.2.2.1 pre x suf g1 g2 g3 g4 g5 g6 hce hcv hcl (kW q9 H1 locs1 ls hP1 (ix_D hD) hS1 hl)
  · obtain ⟨hP1, hK1, hD1⟩ := hB
    rw [ht] at hP1
    exact k r u hw2 H1 locs1 ls hP1 (ix_D hD) hS1 hl
theorem g_tryv (C : gX M cc own Ts tys D cl (ixA N ad sz) nL) (Y : gY M hh (ixA N ad sz)) (q : Nat) (hq : q < N) (he : ct q = .inr (ci, fs)) (hc : cl[ci]? = some (Cn, T, nf)) {post : (Nat → va_E) → Prop} (hM : gTv (gl M) y wsy rmy mcy msy D cl tys N ad (.ref (ad q) :: av) ct post xpy) (hG : GoodIn Ts (wsV own index Cn y wsy)) (hw : wsy = Cond.code y bytes maxL ret :: wsy') (hrc : rmy.cells = mcy ∧ rmy.slots = msy) (hR : rmy.frames + 1 ≤ (gR M).frames ∧ 8 + (maxL + 11) + rmy.locals ≤ (gR M).locals) (hroom : cells + mcy ≤ (gR M).cells ∧ slots + msy ≤ (gR M).slots) (hst : (rest.map fun v => v.category).sum ≤ 8) (hd : y.cls = Cn ∧ y.cls ≠ "java/lang/invoke/MethodHandle" ∧ y.cls ≠ "java/lang/invoke/VarHandle" ∧ (parseMethodDescriptor y.desc).map (fun d => d.parameters.length) = some n) (hn : av.length = n) (d : decode cc pc = .ok (.invokevirtual index, 3))
    (kx : ∀ E ct1, xpy E ct1 → ∃ h, gCa M own pc E h ∧ ∀ q9 : Nat, gW M D cl (ixA N ad sz) nL (cells + mcy) (slots + msy) Q N ad h lv [.ref q9] ct1)
    (k : ∀ (ct1 : Nat → va_E), post ct1 → gW M D cl (ixA N ad sz) nL (cells + mcy) (slots + msy) Q N ad (pc + 3) lv rest ct1) :
    gW M D cl (ixA N ad sz) nL cells slots Q N ad pc lv (av.reverse ++ .ref (ad q) :: rest) ct := by
  intro H locs ls hP hD hS hl
  have hup := ixA_up hD hS C.2.2.2.2.2.2.1
  refine vx_callv (vx_runV (As := av) (rest := rest) ⟨C.1, C.2.1, C.2.2.1, C.2.2.2.1, C.2.2.2.2.1⟩ (hM H.size) (cwV n C.2.2.2.2.1 hG hw hrc.1 hrc.2 hd hR) ⟨gPT_bl, va_recv C.2.2.2.2.2.1 hP hc (ix_e hq he), fun U hU hW => ⟨rfl, ⟨by rw [hU], by rw [hU]; exact hP, va_K.moved hW.alike C.2.2.2.2.2.1, hD.weaken (fun _ _ _ _ => trivial)⟩, by rw [hU]; exact gT_warm hW hS.2.1 hup Y.2.1⟩⟩ rfl hn hl.1 rfl (lv_room hst) d hroom) hS (fun q _ h => hup q h) hup (fun q _ h => hup q h)
    (fun E ce q9 u t H1 locs1 ht hvm _ hB hz1 hk1 hS1 hce hcv hcl => ?_) (fun u t H1 locs1 ht hvm hw2 hB hz1 hk1 hS1 => ?_)
  · obtain ⟨hxp, hP1, hK1, hD1⟩ := hB
    rw [ht] at hP1
    obtain ⟨h, ⟨pre, x, suf, name, g1, g2, g3, g4, g5, g6, rfl⟩, kW⟩ := kx E u hxp
    exact vx_catch C.2.2.2.1 pre x suf g1 g2 g3 g4 g5 g6 hce hcv hcl (kW q9 H1 locs1 ls hP1 (ix_D hD) hS1 hl)
  · obtain ⟨hP1, hK1, hD1⟩ := hB
    rw [ht] at hP1
    exact k u hw2 H1 locs1 ls hP1 (ix_D hD) hS1 hl
theorem gC_iret {post : Int32 → (Nat → va_E) → Prop} {v : Int32} {mc ms : Nat} (C : gX M cc own Ts tys D cl (ixA N ad sz) nL) (hr : (gt M).sig.returnType = some .int) (hc : cells ≤ mc) (hs : slots ≤ ms) (hp : post v ct) (d : decode cc pc = .ok (.ireturn, 1)) :
    gW M D cl (ixA N ad sz) nL cells slots (MQ (gb M) (va_Qi post (gB D cl tys N ad (ixA N ad sz)) (ixA N ad sz)) (ga M) (gs M) mc ms (ixA N ad sz)) N ad pc lv [.int v] ct := by
  intro H locs ls hP hD hS hl
  exact W.widen hc hs (W.iret (v := v) C.1 C.2.1 hr (fun t ht hW => ⟨⟨v, ct, rfl, hp, by rw [ht]; exact hP, va_K.moved hW.alike C.2.2.2.2.2.1, hD⟩, hS.F ht⟩) hS.2.2 d (hlocks := C.2.2.2.2.2.2.2))
end
