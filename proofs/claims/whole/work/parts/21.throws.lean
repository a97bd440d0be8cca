/-! ===== methods that may throw, over the indexed world ===== -/
abbrev xIA : String := "java/lang/IllegalArgumentException"
abbrev xIO : String := "java/lang/IndexOutOfBoundsException"
abbrev xUO : String := "java/lang/UnsupportedOperationException"
abbrev xNM : List String := ["java/lang/RuntimeException", "java/lang/Exception"]
def gBad : List Cond := [.castable xIA xIA, .castable xIO xIO, .castable xUO xUO, .declares ⟨"java/lang/RuntimeException", "<init>", "(Ljava/lang/String;)V"⟩, .declares ⟨"java/lang/Exception", "<init>", "(Ljava/lang/String;)V"⟩, .declares ⟨"java/lang/Throwable", "<init>", "(Ljava/lang/String;)V"⟩]
def gStr : List (Nat × String) := [(49, "not below 2 to the 31, or 512 does not divide p - 1"), (60, "not a prime"), (75, "the power is below 0"), (81, "0 has no inverse"), (148, "no such row"), (151, "no such coefficient"), (157, "n is none of 1, 2, 4, .. 512"), (109, "the product has more than 512 coefficients"), (153, "no such natural"), (155, "no such word"), (128, "the sizes of both together are above 240"), (144, "the sum has more than 240 words")]
theorem gBad_on : ∀ w ∈ gBad, w.onTables = true := by decide +kernel
theorem gBad_warm {s U : State} (hW : s.WarmedH U.vm) (h : ∀ w ∈ gBad, va_Nw w s) : ∀ w ∈ gBad, va_Nw w U := by
  intro w hw
  have h1 := h w hw
  simp only [gBad, List.mem_cons, List.not_mem_nil, or_false] at hw
  rcases hw with rfl | rfl | rfl | rfl | rfl | rfl
  · exact va_Nw.warmC hW h1
  · exact va_Nw.warmC hW h1
  · exact va_Nw.warmC hW h1
  · exact va_Nw.warmD hW h1
  · exact va_Nw.warmD hW h1
  · exact va_Nw.warmD hW h1
/-- what a throw needs of the machine: two statics of Throwable outside of A, words, texts -/
def gT (A : Nat → Prop) (U : State) (H : Heap) : Prop := vx_Zq Bundle.tN "UNASSIGNED_STACK" Bundle.steD A U H ∧ vx_Zq Bundle.tN "SUPPRESSED_SENTINEL" Bundle.listD A U H ∧ (∀ w ∈ gBad, va_Nw w U) ∧ ∀ q ∈ gStr, ∃ sa, vk_R RX0 q.1 q.2 sa U
theorem gT_warm {A B : Nat → Prop} {s U : State} {H H1 : Heap} (hW : s.WarmedH U.vm) (hk : ∀ q : Nat, q < H.size → ¬ A q → H1[q]? = H[q]?) (hAB : ∀ q, B q → A q) (h : gT A s H) : gT B U H1 :=
  ⟨vx_Zq.narrow (vx_Zq.moved hW.alike (vx_Zq.kept h.1 hk)) hAB, vx_Zq.narrow (vx_Zq.moved hW.alike (vx_Zq.kept h.2.1 hk)) hAB, gBad_warm hW h.2.2.1, fun q hq => by obtain ⟨sa, hsa⟩ := h.2.2.2 q hq; exact ⟨sa, vk_R.warm hW hsa⟩⟩
def gPT (D : va_G) (cl : List vw_C) (tys : List (ClassId × FieldType)) (N : Nat) (ad : Nat → Nat) (ct : Nat → va_E) (sz : Nat) (U : State) : Prop := gP D cl tys N ad ct sz U ∧ gT (ixA N ad sz) U U.heap
theorem gPT_bl {D : va_G} {cl : List vw_C} {tys : List (ClassId × FieldType)} {N : Nat} {ad : Nat → Nat} {ct : Nat → va_E} {sz : Nat} {av : List Value} : FrameBlind (va_Pc av (gPT D cl tys N ad ct sz)) := fun a U g mk q => by
  obtain ⟨q0, ⟨q1, qP, qK, qD⟩, t1, t2, t3, t4⟩ := q
  have hal : U.vm.Alike (U.calling g mk a).vm := Vm.Alike.refl U.vm
  exact ⟨q0, ⟨q1, qP, va_K.moved (u := U) (U := U.calling g mk a) hal qK, qD⟩, vx_Zq.moved (u := U) (U := U.calling g mk a) hal t1, vx_Zq.moved (u := U) (U := U.calling g mk a) hal t2, fun w hw => va_Nw.same (gBad_on w hw) (u := U) (U := U.calling g mk a) rfl (t3 w hw), fun x hx => by obtain ⟨sa, hsa⟩ := t4 x hx; exact ⟨sa, vk_R.same (u := U) (U := U.calling g mk a) rfl hsa⟩⟩
/-- a throw's end: the class, the world as it is then -/
abbrev gXC (D : va_G) (cl : List vw_C) (tys : List (ClassId × FieldType)) (N : Nat) (ad : Nat → Nat) (A : Nat → Prop) (xp : String → (Nat → va_E) → Prop) : String → State → State → Prop := vx_X (fun _ : Nat → va_E => True) (fun E ct1 t => xp E ct1 ∧ gB D cl tys N ad A ct1 t) A
def gTl (l : Launch) (y : MethodName) (ws : List Cond) (rm : Room) (mc ms : Nat) (D : va_G) (cl : List vw_C) (tys : List (ClassId × FieldType)) (N : Nat) (ad : Nat → Nat) (av : List Value) (ct : Nat → va_E) (post : Int64 → (Nat → va_E) → Prop) (xp : String → (Nat → va_E) → Prop) : Prop := ∀ sz, vx_Met l y ws rm (va_Pc av (gPT D cl tys N ad ct sz)) (va_Ql post (gB D cl tys N ad (ixA N ad sz)) (ixA N ad sz)) (gXC D cl tys N ad (ixA N ad sz) xp) mc ms (ixA N ad sz)
def gTi (l : Launch) (y : MethodName) (ws : List Cond) (rm : Room) (mc ms : Nat) (D : va_G) (cl : List vw_C) (tys : List (ClassId × FieldType)) (N : Nat) (ad : Nat → Nat) (av : List Value) (ct : Nat → va_E) (post : Int32 → (Nat → va_E) → Prop) (xp : String → (Nat → va_E) → Prop) : Prop := ∀ sz, vx_Met l y ws rm (va_Pc av (gPT D cl tys N ad ct sz)) (va_Qi post (gB D cl tys N ad (ixA N ad sz)) (ixA N ad sz)) (gXC D cl tys N ad (ixA N ad sz) xp) mc ms (ixA N ad sz)
def gTv (l : Launch) (y : MethodName) (ws : List Cond) (rm : Room) (mc ms : Nat) (D : va_G) (cl : List vw_C) (tys : List (ClassId × FieldType)) (N : Nat) (ad : Nat → Nat) (av : List Value) (ct : Nat → va_E) (post : (Nat → va_E) → Prop) (xp : String → (Nat → va_E) → Prop) : Prop := ∀ sz, vx_Met l y ws rm (va_Pc av (gPT D cl tys N ad ct sz)) (va_Qv post (gB D cl tys N ad (ixA N ad sz)) (ixA N ad sz)) (gXC D cl tys N ad (ixA N ad sz) xp) mc ms (ixA N ad sz)
section
variable {M : gM} {cc : ByteArray} {own : String} {Ts : List Cond} {tys : List (ClassId × FieldType)} {D : va_G} {cl : List vw_C} {nL cells slots mc ms : Nat} {N : Nat} {ad : Nat → Nat} {pc : Nat} {lv : gLv} {rest : List Value} {ct : Nat → va_E} {sz : Nat} {Qc : Array Value → State → Outcome → State → Prop} {xp : String → (Nat → va_E) → Prop}
theorem g_throwS (C : gX M cc own Ts tys D cl (ixA N ad sz) nL) (hT : gT (ixA N ad sz) (gs M) (gs M).heap) (hl : (gl M).stackTraces = false) (hE : ∀ x ∈ (gc M).exceptionTable.toList, False) {E text : String} {ik is ic : Nat} (ho : own = RX0) (hst : (is, text) ∈ gStr) (hfit : Bundle.fit E = true)
    (hk : Cond.classLink own ik E ∈ Ts) (hini : Cond.initialized E ∈ Ts) (hin : ∀ w ∈ (vx_atS own ic E xNM).filter goodWord, w ∈ Ts) (hbad : ∀ w ∈ (vx_atS own ic E xNM).filter (fun w => !goodWord w), w ∈ gBad) (hgood : ∀ w ∈ Cond.classLink own ik E :: Cond.initialized E :: vx_atS own ic E xNM, vx_ot w = true)
    (d0 : decode cc pc = .ok (.new ik, 3)) (d3 : decode cc (pc + 3) = .ok (.dup, 1)) (d4 : decode cc (pc + 4) = .ok (.ldc is, 2)) (d6 : decode cc (pc + 6) = .ok (.invokespecial ic, 3)) (d9 : decode cc (pc + 9) = .ok (.athrow, 1))
    (hRf : 5 < (gR M).frames) (hRl : (rest.map fun v => v.category).sum + 82 ≤ (gR M).locals) (hRc : cells + 1 ≤ (gR M).cells) (hRs : slots + 6 ≤ (gR M).slots) (hc : cells + 1 ≤ mc) (hs : slots + 6 ≤ ms) (hx : xp E ct) :
    gW M D cl (ixA N ad sz) nL cells slots (vx_MQ (gb M) Qc (gXC D cl tys N ad (ixA N ad sz) xp) (ga M) (gs M) mc ms (ixA N ad sz)) N ad pc lv rest ct := by
  intro H locs ls hP hD hS hlv
  obtain ⟨sa, hsa⟩ := hT.2.2.2 _ hst
  have hts := C.2.2.2.2.1
  refine vx_throwS (own := own) (cls := E) (text := text) (names := xNM) (sa := sa) C.1 C.2.1 hl C.2.2.2.1 hfit (by decide +kernel) (hts _ hk) (hts _ hini) (by rw [ho]; exact hsa)
    (vx_hat (B := gBad) (fun w hw => hts w (hin w hw)) hbad (fun w hw => va_Nw.use (gBad_on w hw) (hT.2.2.1 w hw))) hgood hT.1 hT.2.1 hS (hlv.1.trans C.2.2.1.symm) d0 d3 d4 d6 d9 (fun x hx => (hE x hx).elim) hRf hRl hRc hRs C.2.2.2.2.2.2.2 (fun t ha hsz hk2 => ?_) hS.2.2 hc hs
  exact ⟨ct, trivial, ⟨hx, hP.kept (fun k q hq => hk2 q.1 (hP k q hq).lt), va_K.moved ha C.2.2.2.2.2.1, hD⟩, Nat.le_trans hS.1 hsz, fun q h1 h2 => (hk2 q (Nat.lt_of_lt_of_le h1 hS.1)).trans (hS.2.1 q h1 h2)⟩
theorem gT_lret {post : Int64 → (Nat → va_E) → Prop} {v : Int64} (C : gX M cc own Ts tys D cl (ixA N ad sz) nL) (hr : (gt M).sig.returnType = some .long) (hc : cells ≤ mc) (hs : slots ≤ ms) (hp : post v ct) (d : decode cc pc = .ok (.lreturn, 1)) :
    gW M D cl (ixA N ad sz) nL cells slots (vx_MQ (gb M) (va_Ql post (gB D cl tys N ad (ixA N ad sz)) (ixA N ad sz)) (gXC D cl tys N ad (ixA N ad sz) xp) (ga M) (gs M) mc ms (ixA N ad sz)) N ad pc lv [.long v] ct := by
  intro H locs ls hP hD hS hl
  exact W.widen hc hs (vx_ret (W.lret (v := v) C.1 C.2.1 hr (fun t ht hW => ⟨⟨v, ct, rfl, hp, by rw [ht]; exact hP, va_K.moved hW.alike C.2.2.2.2.2.1, hD⟩, hS.F ht⟩) hS.2.2 d (hlocks := C.2.2.2.2.2.2.2)))
theorem gT_iret {post : Int32 → (Nat → va_E) → Prop} {v : Int32} (C : gX M cc own Ts tys D cl (ixA N ad sz) nL) (hr : (gt M).sig.returnType = some .int) (hc : cells ≤ mc) (hs : slots ≤ ms) (hp : post v ct) (d : decode cc pc = .ok (.ireturn, 1)) :
    gW M D cl (ixA N ad sz) nL cells slots (vx_MQ (gb M) (va_Qi post (gB D cl tys N ad (ixA N ad sz)) (ixA N ad sz)) (gXC D cl tys N ad (ixA N ad sz) xp) (ga M) (gs M) mc ms (ixA N ad sz)) N ad pc lv [.int v] ct := by
  intro H locs ls hP hD hS hl
  exact W.widen hc hs (vx_ret (W.iret (v := v) C.1 C.2.1 hr (fun t ht hW => ⟨⟨v, ct, rfl, hp, by rw [ht]; exact hP, va_K.moved hW.alike C.2.2.2.2.2.1, hD⟩, hS.F ht⟩) hS.2.2 d (hlocks := C.2.2.2.2.2.2.2)))
theorem gT_zret {post : Int32 → (Nat → va_E) → Prop} {v : Int32} (C : gX M cc own Ts tys D cl (ixA N ad sz) nL) (hr : (gt M).sig.returnType = some .boolean) (hn : narrow .boolean (.int v) = .int v) (hc : cells ≤ mc) (hs : slots ≤ ms) (hp : post v ct) (d : decode cc pc = .ok (.ireturn, 1)) :
    gW M D cl (ixA N ad sz) nL cells slots (vx_MQ (gb M) (va_Qi post (gB D cl tys N ad (ixA N ad sz)) (ixA N ad sz)) (gXC D cl tys N ad (ixA N ad sz) xp) (ga M) (gs M) mc ms (ixA N ad sz)) N ad pc lv [.int v] ct := by
  intro H locs ls hP hD hS hl
  exact W.widen hc hs (vx_ret (W.zret (v := v) C.1 C.2.1 hr hn (fun t ht hW => ⟨⟨v, ct, rfl, hp, by rw [ht]; exact hP, va_K.moved hW.alike C.2.2.2.2.2.1, hD⟩, hS.F ht⟩) hS.2.2 d (hlocks := C.2.2.2.2.2.2.2)))
theorem gT_vret {post : (Nat → va_E) → Prop} (C : gX M cc own Ts tys D cl (ixA N ad sz) nL) (hr : (gt M).sig.returnType = none) (hc : cells ≤ mc) (hs : slots ≤ ms) (hp : post ct) (d : decode cc pc = .ok (.return_, 1)) :
    gW M D cl (ixA N ad sz) nL cells slots (vx_MQ (gb M) (va_Qv post (gB D cl tys N ad (ixA N ad sz)) (ixA N ad sz)) (gXC D cl tys N ad (ixA N ad sz) xp) (ga M) (gs M) mc ms (ixA N ad sz)) N ad pc lv [] ct := by
  intro H locs ls hP hD hS hl
  exact W.widen hc hs (vx_ret (W.vret C.1 C.2.1 hr (fun t ht hW => ⟨⟨ct, rfl, hp, by rw [ht]; exact hP, va_K.moved hW.alike C.2.2.2.2.2.1, hD⟩, hS.F ht⟩) hS.2.2 d (hlocks := C.2.2.2.2.2.2.2)))
/-- a static call that may throw, not caught here: void -/
theorem gT_cSv (C : gX M cc own Ts tys D cl (ixA N ad sz) nL) (hT : gT (ixA N ad sz) (gs M) (gs M).heap) (hE : ∀ x ∈ (gc M).exceptionTable.toList, False) {y : MethodName} {wsy wsy' : List Cond} {rmy : Room} {mcy msy : Nat} {bytes : ByteArray} {maxL index n : Nat} {ret : Option FieldType} {av : List Value} {post : (Nat → va_E) → Prop} {xpy : String → (Nat → va_E) → Prop}
    (hM : gTv (gl M) y wsy rmy mcy msy D cl tys N ad av ct post xpy) (hG : GoodIn Ts (va_wsS own index y wsy)) (hw : wsy = Cond.code y bytes maxL ret :: wsy') (hrc : rmy.cells = mcy ∧ rmy.slots = msy) (hR : rmy.frames + 1 ≤ (gR M).frames ∧ 8 + (maxL + 11) + rmy.locals ≤ (gR M).locals) (hroom : cells + mcy ≤ (gR M).cells ∧ slots + msy ≤ (gR M).slots) (hst : (rest.map fun v => v.category).sum ≤ 8) (hd : y.cls ≠ "java/lang/invoke/MethodHandle" ∧ y.cls ≠ "java/lang/invoke/VarHandle" ∧ (parseMethodDescriptor y.desc).map (fun d => d.parameters.length) = some n) (hn : av.length = n) (d : decode cc pc = .ok (.invokestatic index, 3))
    (hc : cells + mcy ≤ mc) (hs : slots + msy ≤ ms) (hx : ∀ E ct1, xpy E ct1 → xp E ct1)
    (k : ∀ ct1 : Nat → va_E, post ct1 → gW M D cl (ixA N ad sz) nL (cells + mcy) (slots + msy) (vx_MQ (gb M) Qc (gXC D cl tys N ad (ixA N ad sz) xp) (ga M) (gs M) mc ms (ixA N ad sz)) N ad (pc + 3) lv rest ct1) :
    gW M D cl (ixA N ad sz) nL cells slots (vx_MQ (gb M) Qc (gXC D cl tys N ad (ixA N ad sz) xp) (ga M) (gs M) mc ms (ixA N ad sz)) N ad pc lv (av.reverse ++ rest) ct := by
  intro H locs ls hP hD hS hl
  have hup := ixA_up hD hS C.2.2.2.2.2.2.1
  refine vx_callv (vx_runS (As := av) (rest := rest) ⟨C.1, C.2.1, C.2.2.1, C.2.2.2.1, C.2.2.2.2.1⟩ (hM H.size) (va_cwS n C.2.2.2.2.1 hG hw hrc.1 hrc.2 hd hR) ⟨gPT_bl, fun U hU hW => ⟨rfl, ⟨by rw [hU], by rw [hU]; exact hP, va_K.moved hW.alike C.2.2.2.2.2.1, hD.weaken (fun _ _ _ _ => trivial)⟩, by rw [hU]; exact gT_warm hW hS.2.1 hup hT⟩⟩ rfl hn hl.1 rfl (lv_room hst) d hroom) hS (fun q _ h => hup q h) hup (fun q _ h => hup q h)
    (fun E ce q9 u t H1 locs1 ht hvm _ hB hz1 hk1 hS1 hce hcv hcl => ?_) (fun u t H1 locs1 ht hvm hw2 hB hz1 hk1 hS1 => ?_)
  · obtain ⟨hxp, hP1, hK1, hD1⟩ := hB
    rw [ht] at hP1
    exact vx_out (fun x hx => (hE x hx).elim) C.2.2.2.2.2.2.2 hce hcv hcl (fun t2 ht2 hal => ⟨u, trivial, ⟨hx E u hxp, by rw [ht2]; exact hP1, va_K.moved hal C.2.2.2.2.2.1, ix_D hD⟩, hS1.F ht2⟩) hS1.2.2 hc hs
  · obtain ⟨hP1, hK1, hD1⟩ := hB
    rw [ht] at hP1
    exact k u hw2 H1 locs1 ls hP1 (ix_D hD) hS1 hl
end
