section
/-! ===== BEGIN words of one list among another's, by their places ===== -/
theorem goodIn_r {big : List Cond} (ws : List Cond) (ps : List Nat) (hp : ws = ps.filterMap (fun i => big[i]?)) (h : ws.all goodWord = true) : GoodIn big ws := by
  intro w hw
  have h1 := List.all_eq_true.mp h w hw
  rw [hp] at hw
  obtain ⟨i, -, hi⟩ := List.mem_filterMap.mp hw
  have hm : w ∈ big := by first | exact List.mem_of_getElem? hi | exact List.getElem?_mem hi
  exact ⟨hm, good_of_word h1⟩
theorem goodIn_app {big a b : List Cond} (ha : GoodIn big a) (hb : GoodIn big b) : GoodIn big (a ++ b) := fun w h => (List.mem_append.mp h).elim (ha w) (hb w)
theorem goodIn_ca {big a b : List Cond} {c : Cond} (ha : GoodIn big (c :: a)) (hb : GoodIn big b) : GoodIn big (c :: (a ++ b)) := fun w h => (List.mem_cons.mp h).elim (fun e => ha w (List.mem_cons.mpr (Or.inl e))) (fun h => (List.mem_append.mp h).elim (fun h => ha w (List.mem_cons.mpr (Or.inr h))) (hb w))
theorem goodIn_sub {big ws : List Cond} (hm : ∀ w ∈ ws, w ∈ big) (h : ws.all goodWord = true) : GoodIn big ws := fun w hw => ⟨hm w hw, good_of_word (List.all_eq_true.mp h w hw)⟩
/-! ===== END ===== -/


/-! ===== BEGIN exceptions that leave a method, and their catching by the caller (launches without stack traces) ===== -/
section VXA
/-! The laws vx_back, vx_callV, vx_callS, vx_callSW, vx_throw0, vx_throwS follow proofs of the library, with one case more: JvmDerived/Free/Laws.lean (Back.of_free), Shelf42/LK1.lean (callV, callS), Shelf/KitTraced.lean (throwNew0V, throwNewS). -/
/-- where a method has thrown q: the class by its name, the cell, what was written, the world -/
def vx_T (XC : String → State → State → Prop) (st : State) (q : Addr) (t : State) (mc ms : Nat) (free : Addr → Prop) : Prop :=
  ∃ (E : String) (ce : Cell) (L : List Loc), XC E st t ∧ t.heap[q]? = some ce ∧ ce.vm = .none ∧ st.vm.findClass E = some ce.cls ∧ st.WarmedH t.vm ∧ st.sameButNew ({ t with vm := st.vm } : State) L mc ms ∧ ∀ z ∈ L, free z.base
def vx_Q (Qc : Array Value → State → Outcome → State → Prop) (XC : String → State → State → Prop) (mc ms : Nat) (free : Addr → Prop) : Array Value → State → Outcome → State → Prop := fun a st o t =>
  (Qc a st o t ∧ ∃ L, FrameEnd st o t L mc ms ∧ ∀ q ∈ L, free q.base) ∨ ∃ q, o = .threw q ∧ vx_T XC st q t mc ms free
/-- a callee that returns or throws -/
def vx_Met (l : Launch) (y : MethodName) (ws : List Cond) (rm : Room) (Pc : Array Value → State → Prop) (Qc : Array Value → State → Outcome → State → Prop) (XC : String → State → State → Prop) (mc ms : Nat) (free : Addr → Prop) : Prop :=
  MetFree l y (headSpec ws rm) Pc (fun _ _ _ _ _ => True) (vx_Q Qc XC mc ms free)
def vx_Post (XC : String → State → State → Prop) (mc ms : Nat) (free : Addr → Prop) : Pt → Array Value → Addr → Pt → Prop := fun A a q B =>
  ∃ (g : JFrame) (mk : MethodId) (t : State) (L : List Loc) (E : String) (ce : Cell), B.U.heap = t.heap ∧ B.U.vm = t.vm ∧ XC E (A.U.calling g mk a) t ∧ t.heap[q]? = some ce ∧ ce.vm = .none ∧ A.U.vm.findClass E = some ce.cls ∧ B.locs = A.locs ++ L ∧ (∀ z ∈ L, free z.base) ∧ B.cells = A.cells + mc ∧ B.slots = A.slots + ms
def vx_Back (l : Launch) (R : Room) (p : Program) (e : Env) (below : List Frame) (s : State) (sargs : Array Value) (y : MethodName) (len W9 : Nat)
    (Pre : Pt → Array Value → Prop) (Post : Pt → Array Value → Option Value → Pt → Prop) (PostX : Pt → Array Value → Addr → Pt → Prop) : Prop :=
  ∀ (m : MethodId) (meth : Method) (c : Code) (A : Pt) (g : JFrame) (ig : Instr) (mk : MethodId) (a : Array Value),
    Stand p l e R s m sargs below meth c A.U A.locs A.cells A.slots → g.method = m → g.locals.size = c.maxLocals → decode c.code g.pc = .ok (ig, len) →
    2 * g.monitorRoom + (g.stack.map fun v => v.category).sum ≤ W9 → A.U.methodNamed? y = some mk → Pre A a →
    (∃ (v : Option Value) (B : Pt), Stand p l e R s m sargs below meth c B.U B.locs B.cells B.slots ∧ Post A a v B ∧
      Steps p.tables e below (doInvoke e (A.U.setTop g) [] mk a).1 (B.U.setTop { g with pc := g.pc + len, stack := v.toList ++ g.stack })) ∨
    (∃ (q : Addr) (B : Pt), Stand p l e R s m sargs below meth c B.U B.locs B.cells B.slots ∧ PostX A a q B ∧
      Steps p.tables e below (doInvoke e (A.U.setTop g) [] mk a).1 ((B.U.setTop g).pushFrame (.throwing q)))
section Payer
variable {l : Launch} {R : Room} {p : Program} {e : Env} {below : List Frame} {s : State} {sargs : Array Value} {y : MethodName} {len W9 : Nat}
theorem vx_back {ws : List Cond} {rm : Room} {Pc : Array Value → State → Prop} {Qc : Array Value → State → Outcome → State → Prop} {XC : String → State → State → Prop} {mc ms : Nat} {free : Addr → Prop} {bytes : ByteArray} {maxL : Nat} {ret : Option FieldType}
    (hM : vx_Met l y ws rm Pc Qc XC mc ms free) (hblind : FrameBlind Pc) (hrc : rm.cells = mc) (hrs : rm.slots = ms)
    (hframes : rm.frames + 1 ≤ R.frames) (hlocals : W9 + (maxL + 11) + rm.locals ≤ R.locals)
    (hws : ∀ w ∈ ws, ∀ a' U, s.WarmedH U.vm → w.before a' U = true) (hcode : Cond.code y bytes maxL ret ∈ ws) (hinit : ∀ a' U, s.WarmedH U.vm → (Cond.initialized y.cls).before a' U = true) :
    vx_Back l R p e below s sargs y len W9 (PreOf R mc ms Pc) (PostOf Qc mc ms free) (vx_Post XC mc ms free) := by
  intro m meth c A g ig mk a X hg hsize hdg hW hn hp
  have h1 : (headSpec ws rm).pre.before a A.U = true := atoms_intro fun w hw => hws w hw _ _ X.warmed
  have h2 : (Cond.code y bytes maxL ret).before a A.U = true := hws _ hcode _ _ X.warmed
  have h3 : (Cond.initialized y.cls).before a A.U = true := hinit _ _ X.warmed
  have h4 : A.cells + (headSpec ws rm).room.cells ≤ R.cells := by rw [show (headSpec ws rm).room.cells = mc from hrc]; exact hp.1
  have h5 : A.slots + (headSpec ws rm).room.slots ≤ R.slots := by rw [show (headSpec ws rm).room.slots = ms from hrs]; exact hp.2.1
  have hPc : Pc a (A.U.calling g mk a) := hblind _ _ _ _ hp.2.2
  obtain ⟨U, Ls, c0, s0⟩ := A
  dsimp only [Pt.U, Pt.locs, Pt.cells, Pt.slots] at h1 h2 h3 h4 h5 X hn hPc ⊢
  obtain ⟨methY, cY, hmY, hcY, -, hlY, -, -, -, -⟩ := Cond.code_spec hn h2
  obtain ⟨kY, hkY, -⟩ := className_of_methodNamed hn
  have hinitY : kY.init = .initialized := Cond.initialized_spec (findClass_of_methodNamed hn) hkY h3
  have h : At U g.method c below := by rw [hg]; exact X.here
  have hlocals9 : W9 + (maxL + 11) + (headSpec ws rm).room.locals ≤ R.locals := hlocals
  have happ : (headSpec ws rm).appliesLoose y e.platform (U.calling g mk a) = true :=
    Spec.appliesLoose_calling (g := g) h hdg hn hkY hinitY
      (X.room_calling (g := g) (R' := (headSpec ws rm).room) hsize hmY hcY hframes (by rw [hlY]; omega) h4 h5) h1
  obtain ⟨mid, hmid⟩ := h.above
  have hfr : (U.setTop g).frames = (.java g :: mid) ++ below := by rw [State.frames_setTop' g h.top, hmid]; rfl
  obtain ⟨o, s₂, hsteps, -, hend, hq⟩ := Steps.callFree hM p X.admits X.cas X.clock (acts := []) hfr happ hPc trivial
  have hq' : vx_Q Qc XC mc ms free a (U.calling g mk a) o s₂ := hq
  rw [State.frames_setTop' g h.top] at hend
  obtain ⟨g₀, hg0⟩ := Option.isSome_iff_exists.mp h.top
  obtain ⟨r, hr⟩ := State.topJava?_eq_some.mp hg0
  have hr' : (({ U with heap := s₂.heap, slotsUsed := s₂.slotsUsed } : State).setVm s₂.vm).frames = .java g₀ :: r := hr
  rcases hq' with ⟨hqc, L, hfe, hL⟩ | ⟨q, rfl, E, ce, L, hx, hce, hcv, hcl, hW₂, hsm, hL⟩
  · obtain ⟨⟨v, rfl⟩, hW₂, e2, q2, q3, q4, q5, q6⟩ := id hfe
    have e3 : s₂ = ({ (U.calling g mk a).setFrames s₂.frames with heap := s₂.heap, slotsUsed := s₂.slotsUsed } : State).setVm s₂.vm := by
      have : s₂ = ({ s₂ with vm := (U.calling g mk a).vm } : State).setVm s₂.vm := rfl
      rw [e2] at this
      exact this
    obtain ⟨c₂, i₂, len₂, hc₂, hd₂, hf₂⟩ := hend
    have hW' : U.WarmedH s₂.vm := hW₂
    have hcc : c₂ = c := by
      have h1 : s₂.code? g.method = U.code? g.method := by
        rw [State.code?_eq, State.code?_eq, hW'.alike.method?]
      exact Option.some.inj (hc₂.symm.trans (h1.trans h.code))
    subst hcc
    have hlen : len₂ = len := by rw [hdg] at hd₂; cases hd₂; rfl
    subst hlen
    have hs₂ : s₂ = (({ U with heap := s₂.heap, slotsUsed := s₂.slotsUsed } : State).setVm s₂.vm).setTop { g with pc := g.pc + len₂, stack := v.toList ++ g.stack } := by
      refine e3.trans ?_
      rw [hf₂, State.calling_eq h.top, State.setFrames_setFrames, State.setTop_of_frames _ hr', hr]
      rfl
    have hsame : U.sameButNew ({ U with heap := s₂.heap, slotsUsed := s₂.slotsUsed } : State) L mc ms := by
      refine ⟨?_, q2, q3, q4, q5, q6⟩
      obtain ⟨t, ht, -⟩ := State.frames_cons hr
      show ({ U with heap := s₂.heap, slotsUsed := s₂.slotsUsed } : State) = { U.setFrames U.frames with heap := s₂.heap, slotsUsed := s₂.slotsUsed }
      rw [State.setFrames_self ht]
    subst hg
    refine Or.inl ⟨v, ⟨(({ U with heap := s₂.heap, slotsUsed := s₂.slotsUsed } : State).setVm s₂.vm), Ls ++ L, c0 + mc, s0 + ms⟩,
      ⟨X.admits, X.cas, X.clock, X.frames, X.room, X.hears, X.method, X.code, (X.here.setHeapUsed s₂.heap s₂.slotsUsed).setVm hW'.alike, X.tail, State.WarmedH.trans X.warmed hW', X.limits, X.bytes, X.same.trans (hsame.setVm s.vm)⟩,
      ⟨g, mk, s₂, L, rfl, rfl, hqc, rfl, hL, rfl, rfl⟩, ?_⟩
    show Steps p.tables e below _ ((({ U with heap := s₂.heap, slotsUsed := s₂.slotsUsed } : State).setVm s₂.vm).setTop { g with pc := g.pc + len₂, stack := v.toList ++ g.stack })
    rw [← hs₂]
    exact hsteps
  · obtain ⟨e2, q2, q3, q4, q5, q6⟩ := id hsm
    have e3 : s₂ = ({ (U.calling g mk a).setFrames s₂.frames with heap := s₂.heap, slotsUsed := s₂.slotsUsed } : State).setVm s₂.vm := by
      have : s₂ = ({ s₂ with vm := (U.calling g mk a).vm } : State).setVm s₂.vm := rfl
      rw [e2] at this
      exact this
    have hf₂ : s₂.frames = .throwing q :: .java g :: U.frames.tail := hend
    have hW' : U.WarmedH s₂.vm := hW₂
    have hs₂ : s₂ = ((({ U with heap := s₂.heap, slotsUsed := s₂.slotsUsed } : State).setVm s₂.vm).setTop g).pushFrame (.throwing q) := by
      refine e3.trans ?_
      rw [hf₂, State.calling_eq h.top, State.setFrames_setFrames, State.pushFrame, State.frames_setTop _ hr', State.setTop_of_frames _ hr', State.setFrames_setFrames, hr]
      rfl
    have hsame : U.sameButNew ({ U with heap := s₂.heap, slotsUsed := s₂.slotsUsed } : State) L mc ms := by
      refine ⟨?_, q2, q3, q4, q5, q6⟩
      obtain ⟨t, ht, -⟩ := State.frames_cons hr
      show ({ U with heap := s₂.heap, slotsUsed := s₂.slotsUsed } : State) = { U.setFrames U.frames with heap := s₂.heap, slotsUsed := s₂.slotsUsed }
      rw [State.setFrames_self ht]
    subst hg
    refine Or.inr ⟨q, ⟨(({ U with heap := s₂.heap, slotsUsed := s₂.slotsUsed } : State).setVm s₂.vm), Ls ++ L, c0 + mc, s0 + ms⟩,
      ⟨X.admits, X.cas, X.clock, X.frames, X.room, X.hears, X.method, X.code, (X.here.setHeapUsed s₂.heap s₂.slotsUsed).setVm hW'.alike, X.tail, State.WarmedH.trans X.warmed hW', X.limits, X.bytes, X.same.trans (hsame.setVm s.vm)⟩,
      ⟨g, mk, s₂, L, E, ce, rfl, rfl, hx, hce, hcv, hcl, rfl, hL, rfl, rfl⟩, ?_⟩
    show Steps p.tables e below _ (((({ U with heap := s₂.heap, slotsUsed := s₂.slotsUsed } : State).setVm s₂.vm).setTop g).pushFrame (.throwing q))
    rw [← hs₂]
    exact hsteps
end Payer
section Calls
variable {p : Program} {l : Launch} {e : Env} {R : Room} {s : State} {m : MethodId} {args : Array Value} {below : List Frame} {meth : Method} {c : Code} {T : State} {locs : List Loc} {cells slots : Nat}
theorem vx_callV (X : Stand p l e R s m args below meth c T locs cells slots) (hexec : p.tables.exec = Jvm.exec) {own C : String} {index : Nat} {y : MethodName} {bytes : ByteArray} {maxL : Nat} {ret : Option FieldType}
    (hown : s.vm.findClass own = some m.cls) (hlink : (Cond.methodLink own index y).before args s = true) (hinst : (Cond.instanceMethod y).before args s = true) (hsel : (Cond.selects C y y).before args s = true)
    (hcode : (Cond.code y bytes maxL ret).before args s = true) (hy : y.cls ≠ "java/lang/invoke/MethodHandle" ∧ y.cls ≠ "java/lang/invoke/VarHandle")
    {W9 : Nat} {Pre : Pt → Array Value → Prop} {Post : Pt → Array Value → Option Value → Pt → Prop} {PostX : Pt → Array Value → Addr → Pt → Prop} (hK : vx_Back l R p e below s args y 3 W9 Pre Post PostX)
    {b : Addr} {cellB : Cell} (hcell : T.heap[b]? = some cellB) (hobj : cellB.vm.isStatics = false) (hcls : s.vm.findClass C = some cellB.cls)
    {g : JFrame} (hg : g.method = m) (hsize : g.locals.size = c.maxLocals) {argsL rest : List Value} (hlen : ∀ sig, parseMethodDescriptor y.desc = some sig → argsL.length = sig.parameters.length)
    (hstack : g.stack = argsL.reverse ++ .ref b :: rest) (hW : 2 * g.monitorRoom + (rest.map fun v => v.category).sum ≤ W9) (hdg : decode c.code g.pc = .ok (.invokevirtual index, 3))
    (hpre : ∀ vm₁, s.WarmedH vm₁ → Pre ⟨T.setVm vm₁, locs, cells, slots⟩ (Value.ref b :: argsL).toArray) :
    (∃ (v : Option Value) (vm₁ : Vm) (B : Pt), s.WarmedH vm₁ ∧ Stand p l e R s m args below meth c B.U B.locs B.cells B.slots ∧ Post ⟨T.setVm vm₁, locs, cells, slots⟩ (Value.ref b :: argsL).toArray v B ∧
      ∀ target, Steps p.tables e below (B.U.setTop { g with pc := g.pc + 3, stack := v.toList ++ rest }) target → Steps p.tables e below (T.setTop g) target) ∨
    (∃ (q : Addr) (vm₁ : Vm) (B : Pt), s.WarmedH vm₁ ∧ Stand p l e R s m args below meth c B.U B.locs B.cells B.slots ∧ PostX ⟨T.setVm vm₁, locs, cells, slots⟩ (Value.ref b :: argsL).toArray q B ∧
      Steps p.tables e below (T.setTop g) ((B.U.setTop { g with stack := rest }).pushFrame (.throwing q))) := by
  obtain ⟨mk, methM, hnamed, hmethM, hstM, habM⟩ := Cond.instanceMethod_spec hinst
  obtain ⟨methM', cM, hmethM', -, -, -, -, -, -, hsigM⟩ := Cond.code_spec hnamed hcode
  cases hmethM.symm.trans hmethM'
  obtain ⟨c2, r2, m2, q1, q2, q3, q4, kP, hkP, hkPi⟩ := Cond.selects_spec hsel
  cases hcls.symm.trans q1
  cases (State.methodFound?_of_named hnamed hy).symm.trans q2
  cases hnamed.symm.trans q3
  have hselP : selectMethod e.platform s.vm cellB.cls mk = .method mk := by rw [Launch.admits_selectMethod X.admits]; exact q4
  obtain ⟨vm₁, X₁, hstep₁⟩ := X.invokevirtual hexec hown hlink hnamed hmethM hstM hkP hkPi hy (a := b) (cell := cellB) hcell
    (fun z h => by rw [h] at hobj; cases hobj) hselP hmethM habM hkP hkPi (g := g) hg (argsL := argsL) (rest := rest) (hlen _ hsigM) hstack hdg
  rcases hK m meth c ⟨T.setVm vm₁, locs, cells, slots⟩ { g with stack := rest } (.invokevirtual index) mk (Value.ref b :: argsL).toArray X₁ hg hsize hdg hW (X₁.named hnamed) (hpre vm₁ X₁.warmed) with ⟨v, B, X', hpost, hsteps⟩ | ⟨q, B, X', hpost, hsteps⟩
  · exact Or.inl ⟨v, vm₁, B, X₁.warmed, X', hpost, fun target h => hstep₁ _ fun acts => by rw [doInvoke_state]; exact hsteps.trans h⟩
  · exact Or.inr ⟨q, vm₁, B, X₁.warmed, X', hpost, hstep₁ _ fun acts => by rw [doInvoke_state]; exact hsteps⟩
theorem vx_callS (X : Stand p l e R s m args below meth c T locs cells slots) (hexec : p.tables.exec = Jvm.exec) {own : String} {index : Nat} {y : MethodName} {bytes : ByteArray} {maxL : Nat} {ret : Option FieldType}
    (hown : s.vm.findClass own = some m.cls) (hlink : (Cond.methodLink own index y).before args s = true) (hstat : (Cond.static y).before args s = true) (hinit : (Cond.initialized y.cls).before args s = true)
    (hcode : (Cond.code y bytes maxL ret).before args s = true) (hy : y.cls ≠ "java/lang/invoke/MethodHandle" ∧ y.cls ≠ "java/lang/invoke/VarHandle")
    {W9 : Nat} {Pre : Pt → Array Value → Prop} {Post : Pt → Array Value → Option Value → Pt → Prop} {PostX : Pt → Array Value → Addr → Pt → Prop} (hK : vx_Back l R p e below s args y 3 W9 Pre Post PostX)
    {g : JFrame} (hg : g.method = m) (hsize : g.locals.size = c.maxLocals) {argsL rest : List Value} (hlen : ∀ sig, parseMethodDescriptor y.desc = some sig → argsL.length = sig.parameters.length)
    (hstack : g.stack = argsL.reverse ++ rest) (hW : 2 * g.monitorRoom + (rest.map fun v => v.category).sum ≤ W9) (hdg : decode c.code g.pc = .ok (.invokestatic index, 3))
    (hpre : ∀ vm₁, s.WarmedH vm₁ → Pre ⟨T.setVm vm₁, locs, cells, slots⟩ argsL.toArray) :
    (∃ (v : Option Value) (vm₁ : Vm) (B : Pt), s.WarmedH vm₁ ∧ Stand p l e R s m args below meth c B.U B.locs B.cells B.slots ∧ Post ⟨T.setVm vm₁, locs, cells, slots⟩ argsL.toArray v B ∧
      ∀ target, Steps p.tables e below (B.U.setTop { g with pc := g.pc + 3, stack := v.toList ++ rest }) target → Steps p.tables e below (T.setTop g) target) ∨
    (∃ (q : Addr) (vm₁ : Vm) (B : Pt), s.WarmedH vm₁ ∧ Stand p l e R s m args below meth c B.U B.locs B.cells B.slots ∧ PostX ⟨T.setVm vm₁, locs, cells, slots⟩ argsL.toArray q B ∧
      Steps p.tables e below (T.setTop g) ((B.U.setTop { g with stack := rest }).pushFrame (.throwing q))) := by
  obtain ⟨mk, hnamed⟩ := Cond.code_named hcode
  obtain ⟨methM, cM, hmethM, -, -, -, -, -, -, hsigM⟩ := Cond.code_spec hnamed hcode
  have hstatic : methM.isStatic = true := Cond.static_spec hnamed hmethM hstat
  obtain ⟨kP, hkP, -⟩ := className_of_methodNamed hnamed
  have hinitP : kP.init = .initialized := Cond.initialized_spec (findClass_of_methodNamed hnamed) hkP hinit
  obtain ⟨vm₁, X₁, hstep₁⟩ := X.invokestatic hexec hown hlink hnamed hmethM hstatic hkP hinitP hy (g := g) hg (argsL := argsL) (rest := rest) (hlen _ hsigM) hstack hdg
  rcases hK m meth c ⟨T.setVm vm₁, locs, cells, slots⟩ { g with stack := rest } (.invokestatic index) mk argsL.toArray X₁ hg hsize hdg hW (X₁.named hnamed) (hpre vm₁ X₁.warmed) with ⟨v, B, X', hpost, hsteps⟩ | ⟨q, B, X', hpost, hsteps⟩
  · exact Or.inl ⟨v, vm₁, B, X₁.warmed, X', hpost, fun target h => hstep₁ _ fun acts => by rw [doInvoke_state]; exact hsteps.trans h⟩
  · exact Or.inr ⟨q, vm₁, B, X₁.warmed, X', hpost, hstep₁ _ fun acts => by rw [doInvoke_state]; exact hsteps⟩
end Calls
theorem vx_cls {s : State} {T : State} {vm₁ : Vm} {E : String} {k : ClassId} (hW : s.WarmedH vm₁) (h : (T.setVm vm₁).vm.findClass E = some k) : s.vm.findClass E = some k := by
  have h1 : vm₁.findClass E = some k := h
  rw [hW.alike.findClass] at h1
  exact h1
/-- the method's frame g, with q thrown over it -/
def vx_W (p : Program) (l : Launch) (e : Env) (R : Room) (s : State) (m : MethodId) (args : Array Value) (below : List Frame) (meth : Method) (c : Code) (H : Heap) (locs : List Loc) (cells slots : Nat) (Q : State → Prop) (g : JFrame) (q : Addr) : Prop :=
  ∀ T : State, T.heap = H → Stand p l e R s m args below meth c T locs cells slots → ∃ t, Steps p.tables e below ((T.setTop g).pushFrame (.throwing q)) t ∧ Q t
def vx_Run (p : Program) (l : Launch) (e : Env) (R : Room) (s : State) (m : MethodId) (args : Array Value) (below : List Frame) (meth : Method) (c : Code) (H : Heap) (locs : List Loc) (cells slots mc ms : Nat) (g : JFrame) (rest : List Value) (Qa : State → Outcome → State → Prop) (XC : String → State → State → Prop) (free : Addr → Prop) : Prop :=
  ∀ T : State, T.heap = H → Stand p l e R s m args below meth c T locs cells slots →
    (∃ (v : Option Value) (st₀ t T' : State) (L : List Loc), st₀.heap = H ∧ Stand p l e R s m args below meth c T' (locs ++ L) (cells + mc) (slots + ms) ∧ (∀ q ∈ L, free q.base) ∧ T'.heap = t.heap ∧ T'.vm = t.vm ∧ Qa st₀ (.returned v) t ∧
      Goes p e below T g T' { g with pc := g.pc + 3, stack := v.toList ++ rest }) ∨
    (∃ (q : Addr) (st₀ t T' : State) (L : List Loc) (E : String) (ce : Cell), st₀.heap = H ∧ Stand p l e R s m args below meth c T' (locs ++ L) (cells + mc) (slots + ms) ∧ (∀ z ∈ L, free z.base) ∧ T'.heap = t.heap ∧ T'.vm = t.vm ∧ XC E st₀ t ∧ t.heap[q]? = some ce ∧ ce.vm = .none ∧ s.vm.findClass E = some ce.cls ∧
      Steps p.tables e below (T.setTop g) ((T'.setTop { g with stack := rest }).pushFrame (.throwing q)))
def vx_X {S : Type} (px : S → Prop) (B : String → S → State → Prop) (A : Nat → Prop) : String → State → State → Prop := fun E st t => ∃ u : S, px u ∧ B E u t ∧ va_F A st t
section Runs
variable {p : Program} {l : Launch} {e : Env} {R : Room} {s : State} {m : MethodId} {args : Array Value} {below : List Frame} {meth : Method} {c : Code} {H : Heap} {locs : List Loc} {cells slots : Nat}
variable {y : MethodName} {bytes cc : ByteArray} {maxL nL mc ms n index : Nat} {ret : Option FieldType} {ws : List Cond} {rm : Room} {Pc : Array Value → State → Prop} {Qc : Array Value → State → Outcome → State → Prop} {XC : String → State → State → Prop} {free : Addr → Prop} {Ts : List Cond} {own C : String} {b : Addr} {As rest : List Value} {g : JFrame}
theorem vx_callBack (cb : CallB R s args own index y bytes maxL ret ws rm mc ms n) (hM : vx_Met l y ws rm Pc Qc XC mc ms free) (hbl : FrameBlind Pc) : vx_Back l R p e below s args y 3 8 (PreOf R mc ms Pc) (PostOf Qc mc ms free) (vx_Post XC mc ms free) := by
  obtain ⟨hrc, hrs, hfr, hlo, hws, hcw, -, hini, -⟩ := cb
  exact vx_back (bytes := bytes) (maxL := maxL) (ret := ret) hM hbl hrc hrs hfr hlo hws hcw (fun a' U hW => word_at hW (Or.inl (by first | rfl | simp [Cond.onTables, Cond.keeps, Cond.steady])) hini)
theorem vx_runV (S : CallFix p m c cc nL s args Ts own) (hM : vx_Met l y ws rm Pc Qc XC mc ms free) (cw : CallW R s args own C index y bytes maxL ret ws rm mc ms n) (hp : PreV s H C b Pc As)
    (hg : g.method = m) (hn : As.length = n) (hsize : g.locals.size = nL) (hstack : g.stack = As.reverse ++ .ref b :: rest) (hW : 2 * g.monitorRoom + (rest.map fun v => v.category).sum ≤ 8) (hdg : decode cc g.pc = .ok (.invokevirtual index, 3)) (hf : cells + mc ≤ R.cells ∧ slots + ms ≤ R.slots) :
    vx_Run p l e R s m args below meth c H locs cells slots mc ms g rest (Qc (Value.ref b :: As).toArray) XC free := by
  have hK : vx_Back l R p e below s args y 3 8 (PreOf R mc ms Pc) (PostOf Qc mc ms free) (vx_Post XC mc ms free) := vx_callBack cw.1 hM hp.1
  obtain ⟨⟨-, -, -, -, -, -, hcode, -, hy, hlen, hl⟩, hin, hse⟩ := cw
  obtain ⟨hx, hb, hml, ho, -⟩ := S
  obtain ⟨-, ⟨cellB, hcB, hoB, hclB⟩, hPc⟩ := hp
  intro T hT X
  rcases vx_callV X hx (C := C) (bytes := bytes) (maxL := maxL) (ret := ret) ho hl hin hse hcode hy hK (by rw [hT]; exact hcB) hoB hclB hg (hsize.trans hml.symm) (argsL := As) (rest := rest) (fun sig h => hn.trans (hlen sig h)) hstack hW (by rw [hb]; exact hdg)
    (fun vm₁ hW₁ => ⟨hf.1, hf.2, hPc (T.setVm vm₁) hT hW₁⟩) with ⟨v, vm₁, ⟨U', l2, c2, s2⟩, hW₁, X', ⟨g', mk, t, L, e1, e2, hq, h1, hL, h2, h3⟩, st⟩ | ⟨q, vm₁, ⟨U', l2, c2, s2⟩, hW₁, X', ⟨g', mk, t, L, E, ce, e1, e2, hq, hce, hcv, hcl, h1, hL, h2, h3⟩, st⟩
  · dsimp only [Pt.U, Pt.locs, Pt.cells, Pt.slots] at X' e1 e2 h1 h2 h3 st
    subst h1; subst h2; subst h3
    exact Or.inl ⟨v, (T.setVm vm₁).calling g' mk (Value.ref b :: As).toArray, t, U', L, hT, X', hL, e1, e2, hq, st⟩
  · dsimp only [Pt.U, Pt.locs, Pt.cells, Pt.slots] at X' e1 e2 h1 h2 h3 st hcl
    subst h1; subst h2; subst h3
    exact Or.inr ⟨q, (T.setVm vm₁).calling g' mk (Value.ref b :: As).toArray, t, U', L, E, ce, hT, X', hL, e1, e2, hq, hce, hcv, vx_cls hW₁ hcl, st⟩
theorem vx_runS (S : CallFix p m c cc nL s args Ts own) (hM : vx_Met l y ws rm Pc Qc XC mc ms free) (cw : CallB R s args own index y bytes maxL ret ws rm mc ms n ∧ (Cond.static y).before args s = true) (hp : PreS s H Pc As)
    (hg : g.method = m) (hn : As.length = n) (hsize : g.locals.size = nL) (hstack : g.stack = As.reverse ++ rest) (hW : 2 * g.monitorRoom + (rest.map fun v => v.category).sum ≤ 8) (hdg : decode cc g.pc = .ok (.invokestatic index, 3)) (hf : cells + mc ≤ R.cells ∧ slots + ms ≤ R.slots) :
    vx_Run p l e R s m args below meth c H locs cells slots mc ms g rest (Qc As.toArray) XC free := by
  have hK : vx_Back l R p e below s args y 3 8 (PreOf R mc ms Pc) (PostOf Qc mc ms free) (vx_Post XC mc ms free) := vx_callBack cw.1 hM hp.1
  obtain ⟨⟨-, -, -, -, -, -, hcode, hini, hy, hlen, hl⟩, hstt⟩ := cw
  obtain ⟨hx, hb, hml, ho, -⟩ := S
  intro T hT X
  rcases vx_callS X hx (bytes := bytes) (maxL := maxL) (ret := ret) ho hl hstt hini hcode hy hK hg (hsize.trans hml.symm) (argsL := As) (rest := rest) (fun sig h => hn.trans (hlen sig h)) hstack hW (by rw [hb]; exact hdg)
    (fun vm₁ hW₁ => ⟨hf.1, hf.2, hp.2 (T.setVm vm₁) hT hW₁⟩) with ⟨v, vm₁, ⟨U', l2, c2, s2⟩, hW₁, X', ⟨g', mk, t, L, e1, e2, hq, h1, hL, h2, h3⟩, st⟩ | ⟨q, vm₁, ⟨U', l2, c2, s2⟩, hW₁, X', ⟨g', mk, t, L, E, ce, e1, e2, hq, hce, hcv, hcl, h1, hL, h2, h3⟩, st⟩
  · dsimp only [Pt.U, Pt.locs, Pt.cells, Pt.slots] at X' e1 e2 h1 h2 h3 st
    subst h1; subst h2; subst h3
    exact Or.inl ⟨v, (T.setVm vm₁).calling g' mk As.toArray, t, U', L, hT, X', hL, e1, e2, hq, st⟩
  · dsimp only [Pt.U, Pt.locs, Pt.cells, Pt.slots] at X' e1 e2 h1 h2 h3 st hcl
    subst h1; subst h2; subst h3
    exact Or.inr ⟨q, (T.setVm vm₁).calling g' mk As.toArray, t, U', L, E, ce, hT, X', hL, e1, e2, hq, hce, hcv, vx_cls hW₁ hcl, st⟩
end Runs
section Rows
variable {p : Program} {l : Launch} {e : Env} {R : Room} {s : State} {m : MethodId} {args : Array Value} {below : List Frame} {meth : Method} {c : Code} {H : Heap} {locs : List Loc} {cells slots : Nat} {Q : State → Prop}
variable {mc ms : Nat} {free : Addr → Prop} {A0 A1 : Nat → Prop} {H0 : Heap} {a : Array Value} {pc : Nat} {ls : Array Slot} {st0 rest : List Value}
theorem vx_keep {st₀ t T' : State} {L : List Loc} (h0 : st₀.heap = H) (e1 : T'.heap = t.heap) (hS : va_S A0 H0 H locs) (hA : ∀ q, q < H.size → A1 q → A0 q) (hf : ∀ q, free q → A0 q) (hL : ∀ q ∈ L, free q.base) (hF : va_F A1 st₀ t) :
    H.size ≤ T'.heap.size ∧ (∀ q : Nat, q < H.size → ¬ A1 q → T'.heap[q]? = H[q]?) ∧ va_S A0 H0 T'.heap (locs ++ L) := by
  obtain ⟨hz, hk⟩ := hF
  rw [h0] at hz hk
  exact ⟨by rw [e1]; exact hz, fun q h1 h2 => by rw [e1]; exact hk q h1 h2,
    ⟨Nat.le_trans hS.1 (by rw [e1]; exact hz), fun q h1 h2 => by rw [e1, hk q (Nat.lt_of_lt_of_le h1 hS.1) (fun z => h2 (hA q (Nat.lt_of_lt_of_le h1 hS.1) z))]; exact hS.2.1 q h1 h2, fun q hq => by
      rcases List.mem_append.mp hq with h | h
      · exact hS.2.2 q h
      · exact hf _ (hL q h)⟩⟩
theorem vx_calli {S SX : Type} {post : Int32 → S → Prop} {px : SX → Prop} {B : S → State → Prop} {BX : String → SX → State → Prop} {AX : Nat → Prop} (hr : vx_Run p l e R s m args below meth c H locs cells slots mc ms (F0 m pc ls st0) rest (va_Qi post B A1 a) (vx_X px BX AX) free) (hS : va_S A0 H0 H locs) (hA : ∀ q, q < H.size → A1 q → A0 q) (hf : ∀ q, free q → A0 q) (hAX : ∀ q, q < H.size → AX q → A0 q)
    (kx : ∀ (E : String) (ce : Cell) (q9 : Addr) (u : SX) (t : State) (H1 : Heap) (locs1 : List Loc), t.heap = H1 → s.vm.Alike t.vm → px u → BX E u t → H.size ≤ H1.size → (∀ q : Nat, q < H.size → ¬ AX q → H1[q]? = H[q]?) → va_S A0 H0 H1 locs1 → H1[q9]? = some ce → ce.vm = .none → s.vm.findClass E = some ce.cls → vx_W p l e R s m args below meth c H1 locs1 (cells + mc) (slots + ms) Q (F0 m pc ls rest) q9)
    (kk : ∀ (r : Int32) (u : S) (t : State) (H1 : Heap) (locs1 : List Loc), t.heap = H1 → s.vm.Alike t.vm → post r u → B u t → H.size ≤ H1.size → (∀ q : Nat, q < H.size → ¬ A1 q → H1[q]? = H[q]?) → va_S A0 H0 H1 locs1 → W p l e R s m args below meth c H1 locs1 (cells + mc) (slots + ms) Q (F0 m (pc + 3) ls (.int r :: rest))) : W p l e R s m args below meth c H locs cells slots Q (F0 m pc ls st0) := by
  intro T hT X
  rcases hr T hT X with ⟨v, st₀, t, T', L, h0, X', hL, e1, e2, ⟨⟨r, u, hv, hp, hb⟩, hF⟩, st⟩ | ⟨q, st₀, t, T', L, E, ce, h0, X', hL, e1, e2, ⟨u, hp, hb, hF⟩, hce, hcv, hcl, st⟩
  · cases hv
    obtain ⟨k1, k2, k3⟩ := vx_keep h0 e1 hS hA hf hL hF
    obtain ⟨t2, a1, b1⟩ := kk r u t T'.heap (locs ++ L) e1.symm (by rw [← e2]; exact X'.warmed.alike) hp hb k1 k2 k3 T' rfl X'
    exact ⟨t2, st t2 a1, b1⟩
  · obtain ⟨k1, k2, k3⟩ := vx_keep h0 e1 hS hAX hf hL hF
    obtain ⟨t2, a1, b1⟩ := kx E ce q u t T'.heap (locs ++ L) e1.symm (by rw [← e2]; exact X'.warmed.alike) hp hb k1 k2 k3 (by rw [e1]; exact hce) hcv hcl T' rfl X'
    exact ⟨t2, st.trans a1, b1⟩
theorem vx_calll {S SX : Type} {post : Int64 → S → Prop} {px : SX → Prop} {B : S → State → Prop} {BX : String → SX → State → Prop} {AX : Nat → Prop} (hr : vx_Run p l e R s m args below meth c H locs cells slots mc ms (F0 m pc ls st0) rest (va_Ql post B A1 a) (vx_X px BX AX) free) (hS : va_S A0 H0 H locs) (hA : ∀ q, q < H.size → A1 q → A0 q) (hf : ∀ q, free q → A0 q) (hAX : ∀ q, q < H.size → AX q → A0 q)
    (kx : ∀ (E : String) (ce : Cell) (q9 : Addr) (u : SX) (t : State) (H1 : Heap) (locs1 : List Loc), t.heap = H1 → s.vm.Alike t.vm → px u → BX E u t → H.size ≤ H1.size → (∀ q : Nat, q < H.size → ¬ AX q → H1[q]? = H[q]?) → va_S A0 H0 H1 locs1 → H1[q9]? = some ce → ce.vm = .none → s.vm.findClass E = some ce.cls → vx_W p l e R s m args below meth c H1 locs1 (cells + mc) (slots + ms) Q (F0 m pc ls rest) q9)
    (kk : ∀ (r : Int64) (u : S) (t : State) (H1 : Heap) (locs1 : List Loc), t.heap = H1 → s.vm.Alike t.vm → post r u → B u t → H.size ≤ H1.size → (∀ q : Nat, q < H.size → ¬ A1 q → H1[q]? = H[q]?) → va_S A0 H0 H1 locs1 → W p l e R s m args below meth c H1 locs1 (cells + mc) (slots + ms) Q (F0 m (pc + 3) ls (.long r :: rest))) : W p l e R s m args below meth c H locs cells slots Q (F0 m pc ls st0) := by
  intro T hT X
  rcases hr T hT X with ⟨v, st₀, t, T', L, h0, X', hL, e1, e2, ⟨⟨r, u, hv, hp, hb⟩, hF⟩, st⟩ | ⟨q, st₀, t, T', L, E, ce, h0, X', hL, e1, e2, ⟨u, hp, hb, hF⟩, hce, hcv, hcl, st⟩
  · cases hv
    obtain ⟨k1, k2, k3⟩ := vx_keep h0 e1 hS hA hf hL hF
    obtain ⟨t2, a1, b1⟩ := kk r u t T'.heap (locs ++ L) e1.symm (by rw [← e2]; exact X'.warmed.alike) hp hb k1 k2 k3 T' rfl X'
    exact ⟨t2, st t2 a1, b1⟩
  · obtain ⟨k1, k2, k3⟩ := vx_keep h0 e1 hS hAX hf hL hF
    obtain ⟨t2, a1, b1⟩ := kx E ce q u t T'.heap (locs ++ L) e1.symm (by rw [← e2]; exact X'.warmed.alike) hp hb k1 k2 k3 (by rw [e1]; exact hce) hcv hcl T' rfl X'
    exact ⟨t2, st.trans a1, b1⟩
theorem vx_callf {S SX : Type} {post : UInt32 → S → Prop} {px : SX → Prop} {B : S → State → Prop} {BX : String → SX → State → Prop} {AX : Nat → Prop} (hr : vx_Run p l e R s m args below meth c H locs cells slots mc ms (F0 m pc ls st0) rest (va_Qf post B A1 a) (vx_X px BX AX) free) (hS : va_S A0 H0 H locs) (hA : ∀ q, q < H.size → A1 q → A0 q) (hf : ∀ q, free q → A0 q) (hAX : ∀ q, q < H.size → AX q → A0 q)
    (kx : ∀ (E : String) (ce : Cell) (q9 : Addr) (u : SX) (t : State) (H1 : Heap) (locs1 : List Loc), t.heap = H1 → s.vm.Alike t.vm → px u → BX E u t → H.size ≤ H1.size → (∀ q : Nat, q < H.size → ¬ AX q → H1[q]? = H[q]?) → va_S A0 H0 H1 locs1 → H1[q9]? = some ce → ce.vm = .none → s.vm.findClass E = some ce.cls → vx_W p l e R s m args below meth c H1 locs1 (cells + mc) (slots + ms) Q (F0 m pc ls rest) q9)
    (kk : ∀ (r : UInt32) (u : S) (t : State) (H1 : Heap) (locs1 : List Loc), t.heap = H1 → s.vm.Alike t.vm → post r u → B u t → H.size ≤ H1.size → (∀ q : Nat, q < H.size → ¬ A1 q → H1[q]? = H[q]?) → va_S A0 H0 H1 locs1 → W p l e R s m args below meth c H1 locs1 (cells + mc) (slots + ms) Q (F0 m (pc + 3) ls (.float r :: rest))) : W p l e R s m args below meth c H locs cells slots Q (F0 m pc ls st0) := by
  intro T hT X
  rcases hr T hT X with ⟨v, st₀, t, T', L, h0, X', hL, e1, e2, ⟨⟨r, u, hv, hp, hb⟩, hF⟩, st⟩ | ⟨q, st₀, t, T', L, E, ce, h0, X', hL, e1, e2, ⟨u, hp, hb, hF⟩, hce, hcv, hcl, st⟩
  · cases hv
    obtain ⟨k1, k2, k3⟩ := vx_keep h0 e1 hS hA hf hL hF
    obtain ⟨t2, a1, b1⟩ := kk r u t T'.heap (locs ++ L) e1.symm (by rw [← e2]; exact X'.warmed.alike) hp hb k1 k2 k3 T' rfl X'
    exact ⟨t2, st t2 a1, b1⟩
  · obtain ⟨k1, k2, k3⟩ := vx_keep h0 e1 hS hAX hf hL hF
    obtain ⟨t2, a1, b1⟩ := kx E ce q u t T'.heap (locs ++ L) e1.symm (by rw [← e2]; exact X'.warmed.alike) hp hb k1 k2 k3 (by rw [e1]; exact hce) hcv hcl T' rfl X'
    exact ⟨t2, st.trans a1, b1⟩
theorem vx_calld {S SX : Type} {post : UInt64 → S → Prop} {px : SX → Prop} {B : S → State → Prop} {BX : String → SX → State → Prop} {AX : Nat → Prop} (hr : vx_Run p l e R s m args below meth c H locs cells slots mc ms (F0 m pc ls st0) rest (va_Qd post B A1 a) (vx_X px BX AX) free) (hS : va_S A0 H0 H locs) (hA : ∀ q, q < H.size → A1 q → A0 q) (hf : ∀ q, free q → A0 q) (hAX : ∀ q, q < H.size → AX q → A0 q)
    (kx : ∀ (E : String) (ce : Cell) (q9 : Addr) (u : SX) (t : State) (H1 : Heap) (locs1 : List Loc), t.heap = H1 → s.vm.Alike t.vm → px u → BX E u t → H.size ≤ H1.size → (∀ q : Nat, q < H.size → ¬ AX q → H1[q]? = H[q]?) → va_S A0 H0 H1 locs1 → H1[q9]? = some ce → ce.vm = .none → s.vm.findClass E = some ce.cls → vx_W p l e R s m args below meth c H1 locs1 (cells + mc) (slots + ms) Q (F0 m pc ls rest) q9)
    (kk : ∀ (r : UInt64) (u : S) (t : State) (H1 : Heap) (locs1 : List Loc), t.heap = H1 → s.vm.Alike t.vm → post r u → B u t → H.size ≤ H1.size → (∀ q : Nat, q < H.size → ¬ A1 q → H1[q]? = H[q]?) → va_S A0 H0 H1 locs1 → W p l e R s m args below meth c H1 locs1 (cells + mc) (slots + ms) Q (F0 m (pc + 3) ls (.double r :: rest))) : W p l e R s m args below meth c H locs cells slots Q (F0 m pc ls st0) := by
  intro T hT X
  rcases hr T hT X with ⟨v, st₀, t, T', L, h0, X', hL, e1, e2, ⟨⟨r, u, hv, hp, hb⟩, hF⟩, st⟩ | ⟨q, st₀, t, T', L, E, ce, h0, X', hL, e1, e2, ⟨u, hp, hb, hF⟩, hce, hcv, hcl, st⟩
  · cases hv
    obtain ⟨k1, k2, k3⟩ := vx_keep h0 e1 hS hA hf hL hF
    obtain ⟨t2, a1, b1⟩ := kk r u t T'.heap (locs ++ L) e1.symm (by rw [← e2]; exact X'.warmed.alike) hp hb k1 k2 k3 T' rfl X'
    exact ⟨t2, st t2 a1, b1⟩
  · obtain ⟨k1, k2, k3⟩ := vx_keep h0 e1 hS hAX hf hL hF
    obtain ⟨t2, a1, b1⟩ := kx E ce q u t T'.heap (locs ++ L) e1.symm (by rw [← e2]; exact X'.warmed.alike) hp hb k1 k2 k3 (by rw [e1]; exact hce) hcv hcl T' rfl X'
    exact ⟨t2, st.trans a1, b1⟩
theorem vx_callv {S SX : Type} {post : S → Prop} {px : SX → Prop} {B : S → State → Prop} {BX : String → SX → State → Prop} {AX : Nat → Prop} (hr : vx_Run p l e R s m args below meth c H locs cells slots mc ms (F0 m pc ls st0) rest (va_Qv post B A1 a) (vx_X px BX AX) free) (hS : va_S A0 H0 H locs) (hA : ∀ q, q < H.size → A1 q → A0 q) (hf : ∀ q, free q → A0 q) (hAX : ∀ q, q < H.size → AX q → A0 q)
    (kx : ∀ (E : String) (ce : Cell) (q9 : Addr) (u : SX) (t : State) (H1 : Heap) (locs1 : List Loc), t.heap = H1 → s.vm.Alike t.vm → px u → BX E u t → H.size ≤ H1.size → (∀ q : Nat, q < H.size → ¬ AX q → H1[q]? = H[q]?) → va_S A0 H0 H1 locs1 → H1[q9]? = some ce → ce.vm = .none → s.vm.findClass E = some ce.cls → vx_W p l e R s m args below meth c H1 locs1 (cells + mc) (slots + ms) Q (F0 m pc ls rest) q9)
    (kk : ∀ (u : S) (t : State) (H1 : Heap) (locs1 : List Loc), t.heap = H1 → s.vm.Alike t.vm → post u → B u t → H.size ≤ H1.size → (∀ q : Nat, q < H.size → ¬ A1 q → H1[q]? = H[q]?) → va_S A0 H0 H1 locs1 → W p l e R s m args below meth c H1 locs1 (cells + mc) (slots + ms) Q (F0 m (pc + 3) ls (rest))) : W p l e R s m args below meth c H locs cells slots Q (F0 m pc ls st0) := by
  intro T hT X
  rcases hr T hT X with ⟨v, st₀, t, T', L, h0, X', hL, e1, e2, ⟨⟨u, hv, hp, hb⟩, hF⟩, st⟩ | ⟨q, st₀, t, T', L, E, ce, h0, X', hL, e1, e2, ⟨u, hp, hb, hF⟩, hce, hcv, hcl, st⟩
  · cases hv
    obtain ⟨k1, k2, k3⟩ := vx_keep h0 e1 hS hA hf hL hF
    obtain ⟨t2, a1, b1⟩ := kk u t T'.heap (locs ++ L) e1.symm (by rw [← e2]; exact X'.warmed.alike) hp hb k1 k2 k3 T' rfl X'
    exact ⟨t2, st t2 a1, b1⟩
  · obtain ⟨k1, k2, k3⟩ := vx_keep h0 e1 hS hAX hf hL hF
    obtain ⟨t2, a1, b1⟩ := kx E ce q u t T'.heap (locs ++ L) e1.symm (by rw [← e2]; exact X'.warmed.alike) hp hb k1 k2 k3 (by rw [e1]; exact hce) hcv hcl T' rfl X'
    exact ⟨t2, st.trans a1, b1⟩
end Rows
section Ends
variable {p : Program} {l : Launch} {e : Env} {R : Room} {s : State} {m : MethodId} {args : Array Value} {below : List Frame} {meth : Method} {c : Code} {H : Heap} {locs : List Loc} {cells slots : Nat} {Q : State → Prop}
variable {mc ms : Nat} {free : Addr → Prop} {A0 A1 : Nat → Prop} {H0 : Heap} {a : Array Value} {ls : Array Slot} {st0 rest : List Value}
variable {Qc : Array Value → State → Outcome → State → Prop} {XC : String → State → State → Prop}
/-- what a body that may throw owes at its end -/
def vx_MQ (below : List Frame) (Qc : Array Value → State → Outcome → State → Prop) (XC : String → State → State → Prop) (a : Array Value) (s : State) (mc ms : Nat) (free : Addr → Prop) : State → Prop := fun t =>
  ∃ o, t.status = .running ∧ Ended t below o ∧ vx_Q Qc XC mc ms free a s o t
theorem vx_ret {g : JFrame} {mc ms : Nat} (k : W p l e R s m args below meth c H locs cells slots (MQ below Qc args s mc ms free) g) : W p l e R s m args below meth c H locs cells slots (vx_MQ below Qc XC args s mc ms free) g := by
  intro T hT X
  obtain ⟨t, a1, o, b1, b2, b3, b4⟩ := k T hT X
  exact ⟨t, a1, o, b1, b2, Or.inl ⟨b3, b4⟩⟩
/-- not caught here: it goes on to the caller -/
theorem vx_widen {g : JFrame} {q : Addr} {k n : Nat} (h1 : cells ≤ k) (h2 : slots ≤ n) (kk : vx_W p l e R s m args below meth c H locs k n Q g q) : vx_W p l e R s m args below meth c H locs cells slots Q g q := fun T hT X => kk T hT (stand_widen X h1 h2)
theorem vx_out {pc : Nat} {E : String} {ce : Cell} {q : Addr} {mc ms : Nat} (hout : ∀ x ∈ c.exceptionTable.toList, covers x pc = false) (hlocks : meth.locks = false) (hcell : H[q]? = some ce) (hv : ce.vm = .none) (hcl : s.vm.findClass E = some ce.cls)
    (hx : ∀ t : State, t.heap = H → s.vm.Alike t.vm → XC E s t) (hf : ∀ z ∈ locs, free z.base) (hc : cells ≤ mc) (hs : slots ≤ ms) :
    vx_W p l e R s m args below meth c H locs cells slots (vx_MQ below Qc XC args s mc ms free) (F0 m pc ls rest) q := by
  intro T hT X
  obtain ⟨st1, hrun, hend, hW, hsm⟩ := X.leaveThrown q (g := F0 m pc ls rest) rfl rfl rfl hout hlocks
  have hcell9 : (T.setFrames (.throwing q :: below)).heap[q]? = some ce := by
    show T.heap[q]? = some ce
    rw [hT]; exact hcell
  exact ⟨_, st1, .threw q, hrun, hend, Or.inr ⟨q, rfl, E, ce, locs, hx _ hT hW.alike, hcell9, hv, hcl, hW, hsm.mono hc hs, hf⟩⟩
theorem vx_frame {U : State} {k n : Nat} (h : s.sameButNew ({ U with vm := s.vm } : State) locs k n) : s.heap.size ≤ U.heap.size ∧ ∀ q : Nat, q < s.heap.size → (∀ z ∈ locs, z.base ≠ q) → U.heap[q]? = s.heap[q]? := by
  obtain ⟨-, h2, -, -, -, h6⟩ := h
  refine ⟨h2, fun q hq hz => ?_⟩
  obtain ⟨c9, e1, e2, e3, e4⟩ := h6 q _ (Array.getElem?_eq_getElem hq)
  have hs : c9.slots = (s.heap[q]).slots := Array.ext_getElem? fun i => e4 i fun hm => hz _ hm rfl
  have h9 : c9 = s.heap[q] := by
    rw [hs] at e2
    exact e2
  have e5 : U.heap[q]? = some c9 := e1
  rw [e5, h9, Array.getElem?_eq_getElem hq]
/-- the words of a throw but the four that speak of the heap -/
def vx_no (w : Cond) : Bool := decide (w ≠ .isRef (.static Bundle.tN "UNASSIGNED_STACK" Bundle.steD)) && decide (w ≠ .isRef (.static Bundle.tN "SUPPRESSED_SENTINEL" Bundle.listD)) && decide (w ≠ .laysStatic Bundle.tN "UNASSIGNED_STACK" Bundle.steD) && decide (w ≠ .laysStatic Bundle.tN "SUPPRESSED_SENTINEL" Bundle.listD)
def vx_at0 (own : String) (ic : Nat) (X : String) (names : List String) : List Cond := (Bundle.ownAtoms0 own ic X names).filter vx_no
def vx_atS (own : String) (ic : Nat) (X : String) (names : List String) : List Cond := (Bundle.ownAtoms own ic X names).filter vx_no
/-- a word that the tables alone decide, or a good one -/
def vx_ot (w : Cond) : Bool := w.onTables || goodWord w
theorem vx_ot_at {args a' : Array Value} {s U : State} {w : Cond} (hW : s.WarmedH U.vm) (hvm : s.vm = U.vm) (hg : vx_ot w = true) (h : w.before args s = true) : w.before a' U = true := by
  simp only [vx_ot, Bool.or_eq_true] at hg
  rcases hg with hg | hg
  · exact va_tabs hg hvm h
  · exact word_at hW (good_of_word hg) h
/-- a list's words: the good ones out of the method's own list, the others by premises of their own -/
theorem vx_hat {args : Array Value} {s : State} {L B : List Cond} (h1 : ∀ w ∈ L.filter goodWord, w.before args s = true) (h2 : ∀ w ∈ L.filter (fun w => !goodWord w), w ∈ B) (h3 : ∀ w ∈ B, w.before args s = true) : ∀ w ∈ L, w.before args s = true := by
  intro w hw
  by_cases g : goodWord w = true
  · exact h1 w (List.mem_filter.mpr ⟨hw, g⟩)
  · refine h3 w (h2 w (List.mem_filter.mpr ⟨hw, ?_⟩))
    show (!goodWord w) = true
    cases hgw : goodWord w
    · rfl
    · exact absurd hgw g
theorem vx_c {args : Array Value} {s : State} {w : Cond} {B : List Cond} (h : w.before args s = true) (t : ∀ w ∈ B, w.before args s = true) : ∀ w' ∈ w :: B, w'.before args s = true := fun w' h' => (List.mem_cons.mp h').elim (fun e => by rw [e]; exact h) (t w')
theorem vx_n {args : Array Value} {s : State} : ∀ w ∈ ([] : List Cond), w.before args s = true := fun _ h => nomatch h
theorem vx_own {args : Array Value} {s : State} {L : List Cond} (h1 : ∀ w ∈ L.filter vx_no, w.before args s = true)
    (hU : (Cond.isRef (.static Bundle.tN "UNASSIGNED_STACK" Bundle.steD)).before args s = true) (hN : (Cond.isRef (.static Bundle.tN "SUPPRESSED_SENTINEL" Bundle.listD)).before args s = true)
    (lU : (Cond.laysStatic Bundle.tN "UNASSIGNED_STACK" Bundle.steD).before args s = true) (lN : (Cond.laysStatic Bundle.tN "SUPPRESSED_SENTINEL" Bundle.listD).before args s = true) : ∀ w ∈ L, w.before args s = true := by
  intro w hw
  by_cases e1 : w = .isRef (.static Bundle.tN "UNASSIGNED_STACK" Bundle.steD)
  · rw [e1]; exact hU
  · by_cases e2 : w = .isRef (.static Bundle.tN "SUPPRESSED_SENTINEL" Bundle.listD)
    · rw [e2]; exact hN
    · by_cases e3 : w = .laysStatic Bundle.tN "UNASSIGNED_STACK" Bundle.steD
      · rw [e3]; exact lU
      · by_cases e4 : w = .laysStatic Bundle.tN "SUPPRESSED_SENTINEL" Bundle.listD
        · rw [e4]; exact lN
        · exact h1 w (List.mem_filter.mpr ⟨hw, by unfold vx_no; rw [decide_eq_true e1, decide_eq_true e2, decide_eq_true e3, decide_eq_true e4]; rfl⟩)
/-- where a static field lies, its class's statics cell in H -/
def vx_L (C n d : String) (A : Nat → Prop) (U : State) (H : Heap) : Prop := ∃ (c : ClassId) (k : Class) (i : Nat) (f : Field) (a : Nat) (cell : Cell), U.vm.findClass C = some c ∧ U.fieldFound? C n d = some (c, k, i, f) ∧ f.isStatic = true ∧ k.statics = some a ∧ H[a]? = some cell ∧ cell.vm.isStatics = true ∧ cell.cls = c ∧ f.slot < cell.slots.size ∧ k.staticTypes[f.slot]? = some f.type ∧ ¬ A a
theorem vx_L.moved {C n d : String} {A : Nat → Prop} {u U : State} {H : Heap} (hvm : u.vm.Alike U.vm) (h : vx_L C n d A u H) : vx_L C n d A U H := by
  obtain ⟨c, k, i, f, a, cell, h1, h2, h3, h4, h5, h6, h7, h8, h9, h10⟩ := h
  obtain ⟨k', hi', he⟩ := State.fieldFound?_setVm hvm h2
  exact ⟨c, k', i, f, a, cell, by rw [hvm.findClass]; exact h1, hi', h3, by rw [he]; exact h4, h5, h6, h7, h8, by rw [he]; exact h9, h10⟩
theorem vx_L.kept {C n d : String} {A : Nat → Prop} {U : State} {H H1 : Heap} (h : vx_L C n d A U H) (hq : ∀ a : Nat, a < H.size → ¬ A a → H1[a]? = H[a]?) : vx_L C n d A U H1 := by
  obtain ⟨c, k, i, f, a, cell, h1, h2, h3, h4, h5, h6, h7, h8, h9, h10⟩ := h
  exact ⟨c, k, i, f, a, cell, h1, h2, h3, h4, by rw [hq a (Array.getElem?_eq_some_iff.mp h5).1 h10]; exact h5, h6, h7, h8, h9, h10⟩
theorem vx_L.narrow {C n d : String} {A B : Nat → Prop} {U : State} {H : Heap} (h : vx_L C n d A U H) (hAB : ∀ q, B q → A q) : vx_L C n d B U H := by
  obtain ⟨c, k, i, f, a, cell, h1, h2, h3, h4, h5, h6, h7, h8, h9, h10⟩ := h
  exact ⟨c, k, i, f, a, cell, h1, h2, h3, h4, h5, h6, h7, h8, h9, fun z => h10 (hAB _ z)⟩
theorem vx_L.word {C n d : String} {A : Nat → Prop} {s : State} {args : Array Value} (h : vx_L C n d A s s.heap) : (Cond.laysStatic C n d).before args s = true := by
  obtain ⟨c, k, i, f, a, cell, h1, h2, h3, h4, h5, h6, h7, h8, h9, -⟩ := h
  show (Cond.laysStatic C n d).holds args s none s [] = true
  exact Cond.laysStatic_of h1 h2 h3 h4 h5 h6 h7 h8 h9
/-- .. and what it holds: null or some reference -/
def vx_Zq (C n d : String) (A : Nat → Prop) (U : State) (H : Heap) : Prop := va_Zq C n d A U H ∧ vx_L C n d A U H
theorem vx_Zq.moved {C n d : String} {A : Nat → Prop} {u U : State} {H : Heap} (hvm : u.vm.Alike U.vm) (h : vx_Zq C n d A u H) : vx_Zq C n d A U H := ⟨va_Zq.moved hvm h.1, vx_L.moved hvm h.2⟩
theorem vx_Zq.kept {C n d : String} {A : Nat → Prop} {U : State} {H H1 : Heap} (h : vx_Zq C n d A U H) (hq : ∀ a : Nat, a < H.size → ¬ A a → H1[a]? = H[a]?) : vx_Zq C n d A U H1 := ⟨va_Zq.kept h.1 hq, vx_L.kept h.2 hq⟩
theorem vx_Zq.narrow {C n d : String} {A B : Nat → Prop} {U : State} {H : Heap} (h : vx_Zq C n d A U H) (hAB : ∀ q, B q → A q) : vx_Zq C n d B U H := ⟨va_Zq.narrow h.1 hAB, vx_L.narrow h.2 hAB⟩
theorem vx_Zqof {args : Array Value} {s : State} {C n d : String} {A : Nat → Prop} (hl : (Cond.laysStatic C n d).before args s = true) (hini : (Cond.initialized C).before args s = true) (h : (Cond.isRef (.static C n d)).before args s = true) (hA : ∀ a : Nat, a < s.heap.size → ¬ A a) : vx_Zq C n d A s s.heap := by
  refine ⟨va_Zqof hl hini h hA, ?_⟩
  obtain ⟨c, k, i, f, a, cell, h1, h2, h3, h4, h5, h6, h7, h8, h9⟩ := Cond.laysStatic_spec hl
  exact ⟨c, k, i, f, a, cell, h1, h2, h3, h4, h5, h6, h7, h8, h9, hA a (Array.getElem?_eq_some_iff.mp h5).1⟩
theorem vx_isRef {C n d : String} {v : Value} {A : Nat → Prop} {s : State} {args : Array Value} (h : va_Z C n d v A s s.heap) (hv : v.isRef = true) : (Cond.isRef (.static C n d)).before args s = true := by
  obtain ⟨cf, kf, fi, f, a, cell, h1, h2, h3, h4, h5, h6, h7, -⟩ := h
  have he : (Term.static C n d).eval args s none [] s = some v := by
    simp [Term.eval, State.fieldNamed?, h1, h2, h4, h5, h6, h7]
  simp only [Cond.before, Cond.holds, Cond.value, he]
  cases v <;> simp_all [Value.isRef]
theorem vx_isRefq {C n d : String} {A : Nat → Prop} {s : State} {args : Array Value} (h : va_Zq C n d A s s.heap) : (Cond.isRef (.static C n d)).before args s = true := by
  rcases h with h | ⟨t, h⟩
  · exact vx_isRef h rfl
  · exact vx_isRef h rfl
/-- the same frame, seen from here: as if the method were called anew in this heap -/
theorem vx_rebase {T : State} (X : Stand p l e R s m args below meth c T locs cells slots) {R' : Room} (hf : R'.frames ≤ R.frames) (hl : R'.locals ≤ R.locals) (hc : cells + R'.cells ≤ R.cells) (hs : slots + R'.slots ≤ R.slots) :
    Stand p l e R' ((T.setVm s.vm).setFrames (.invoking m args :: below)) m args below meth c T [] 0 0 := by
  have htop : (T.setVm s.vm).topJava?.isSome := X.here.top
  have hF : ((T.setVm s.vm).setFrames (.invoking m args :: below)).frames = .invoking m args :: below := State.frames_setFrames _ (State.cur_lt_of_top htop)
  obtain ⟨g₀, hg0⟩ := Option.isSome_iff_exists.mp htop
  obtain ⟨r, hr⟩ := State.topJava?_eq_some.mp hg0
  have hl9 : e.platform.stackLimits (T.setVm s.vm).me = e.platform.stackLimits s.me := X.limits
  have hb9 : (T.setVm s.vm).me.stackBytes = s.me.stackBytes := X.bytes
  refine ⟨X.admits, X.cas, X.clock, hF, ?_, X.hears, X.method, X.code, X.here, X.tail, X.warmed, ?_, ?_, ?_⟩
  · have h := X.room
    have hU : ((T.setVm s.vm).setFrames (.invoking m args :: below)).localsInUse = s.localsInUse := by
      rw [State.localsInUse_invoking hF (meth := meth) (c := c) X.method X.code, State.localsInUse_invoking X.frames X.method X.code]
    simp only [State.hasRoom, Bool.and_eq_true, decide_eq_true_eq] at h ⊢
    obtain ⟨⟨⟨⟨h1, h2, h3, h4, h5, h6⟩, h7⟩, h8⟩, h9⟩ := h
    rw [X.frames, List.length_cons] at h2 h3
    have q1 := X.heapSize
    have q2 := X.used
    simp only [hF, hU, List.length_cons, State.stackLimits_setFrames, State.stackBytes_setFrames, hl9, hb9]
    refine ⟨⟨⟨⟨by omega, by omega, by omega, by omega, by omega, h6⟩, ?_⟩, ?_⟩, X.book⟩
    · show T.heap.size + R'.cells ≤ e.platform.maxCells
      omega
    · show T.slotsUsed + R'.slots ≤ e.platform.maxSlots
      omega
  · rw [State.stackLimits_setFrames]; rfl
  · rw [State.stackBytes_setFrames]; rfl
  · refine ⟨?_, Nat.le_refl _, Nat.le_refl _, ?_, ?_, fun a c9 h9 => ⟨c9, h9, rfl, rfl, fun _ _ => rfl⟩⟩
    · obtain ⟨t, ht, -⟩ := State.frames_cons hr
      show T.setVm s.vm = { ((T.setVm s.vm).setFrames (.invoking m args :: below)).setFrames (T.setVm s.vm).frames with heap := T.heap, slotsUsed := T.slotsUsed }
      rw [State.setFrames_setFrames, State.setFrames_self ht]
      rfl
    · show T.slotsUsed = T.slotsUsed + ((T.heap.toList.drop T.heap.size).map (·.slots.size)).sum
      rw [List.drop_eq_nil_of_le (Nat.le_of_eq Array.length_toList)]
      rfl
    · show ((T.heap.toList.drop T.heap.size).map (·.slots.size)).sum ≤ 0
      rw [List.drop_eq_nil_of_le (Nat.le_of_eq Array.length_toList)]
      exact Nat.le_refl _
/-- 'throw new E()': new; dup; invokespecial; athrow -/
theorem vx_throw0 {cc : ByteArray} {pc : Nat} (hexec : p.tables.exec = Jvm.exec) (hb : c.code = cc) (hl : l.stackTraces = false) {own cls : String} {names : List String} {ik ic mc ms : Nat} {A : Nat → Prop}
    (hown : s.vm.findClass own = some m.cls) (hcls : Bundle.fit cls = true) (hnames : ∀ n ∈ names, Bundle.fit n = true)
    (hk : (Cond.classLink own ik cls).before args s = true) (hini : (Cond.initialized cls).before args s = true) (hat : ∀ w ∈ vx_at0 own ic cls names, w.before args s = true)
    (hgood : ∀ w ∈ Cond.classLink own ik cls :: Cond.initialized cls :: vx_at0 own ic cls names, vx_ot w = true)
    (hU : vx_Zq Bundle.tN "UNASSIGNED_STACK" Bundle.steD A s s.heap) (hN : vx_Zq Bundle.tN "SUPPRESSED_SENTINEL" Bundle.listD A s s.heap) (hS : va_S A s.heap H locs) (hsize : ls.size = c.maxLocals)
    (d0 : decode cc pc = .ok (.new ik, 3)) (d3 : decode cc (pc + 3) = .ok (.dup, 1)) (d4 : decode cc (pc + 4) = .ok (.invokespecial ic, 3)) (d7 : decode cc (pc + 7) = .ok (.athrow, 1))
    (hout : ∀ x ∈ c.exceptionTable.toList, covers x (pc + 7) = false)
    (hRframes : names.length + 3 < R.frames) (hRlocals : (rest.map fun v => v.category).sum + (13 * (names.length + 1) + 42) ≤ R.locals) (hRcells : cells + 1 ≤ R.cells) (hRslots : slots + 6 ≤ R.slots) (hlocks : meth.locks = false)
    (hx : ∀ t : State, s.vm.Alike t.vm → H.size ≤ t.heap.size → (∀ q : Nat, q < H.size → t.heap[q]? = H[q]?) → XC cls s t)
    (hf : ∀ z ∈ locs, free z.base) (hc : cells + 1 ≤ mc) (hs : slots + 6 ≤ ms) :
    W p l e R s m args below meth c H locs cells slots (vx_MQ below Qc XC args s mc ms free) (F0 m pc ls rest) := by
  intro T hT X
  have htr : e.platform.stackTraces = false := (show e.platform.stackTraces = l.stackTraces by rw [X.admits.platform]).trans hl
  have Y := vx_rebase X (R' := { frames := R.frames, locals := R.locals, cells := 1, slots := 6 }) (Nat.le_refl _) (Nat.le_refl _) hRcells hRslots
  obtain ⟨s', hA⟩ : ∃ z, z = (T.setVm s.vm).setFrames (.invoking m args :: below) := ⟨_, rfl⟩
  rw [← hA] at Y
  have hvm : s'.vm = s.vm := by rw [hA]; rfl
  have hhp : s'.heap = H := by rw [hA]; exact hT
  have hW0 : s.WarmedH s'.vm := by rw [hvm]; exact State.WarmedH.refl s
  have hat' : ∀ w ∈ vx_at0 own ic cls names, w.before args s' = true := fun w hw => vx_ot_at hW0 hvm.symm (hgood w (List.mem_cons_of_mem _ (List.mem_cons_of_mem _ hw))) (hat w hw)
  have hk' : (Cond.classLink own ik cls).before args s' = true := vx_ot_at hW0 hvm.symm (hgood _ List.mem_cons_self) hk
  have hini' : (Cond.initialized cls).before args s' = true := vx_ot_at hW0 hvm.symm (hgood _ (List.mem_cons_of_mem _ List.mem_cons_self)) hini
  have hU' : vx_Zq Bundle.tN "UNASSIGNED_STACK" Bundle.steD A s' s'.heap := by rw [hhp]; exact vx_Zq.moved hW0.alike (hU.kept hS.2.1)
  have hN' : vx_Zq Bundle.tN "SUPPRESSED_SENTINEL" Bundle.listD A s' s'.heap := by rw [hhp]; exact vx_Zq.moved hW0.alike (hN.kept hS.2.1)
  have h : ∀ w ∈ Bundle.ownAtoms0 own ic cls names, w.before args s' = true := vx_own hat' (vx_isRefq hU'.1) (vx_isRefq hN'.1) hU'.2.word hN'.2.word
  have hown' : s'.vm.findClass own = some m.cls := by rw [hvm]; exact hown
  have hins : (Cond.instantiable cls 6).before args s' = true := h _ (by simp [Bundle.ownAtoms0])
  obtain ⟨vm₁, cX, kX, hfX, hkX, -, -, X₁, st1⟩ := Y.newCold hexec (own := own) (C := cls) (index := ik) (n := 6) hown' hk' hins hini'
    (g := F0 m pc ls rest) rfl (by rw [hb]; exact d0) (Nat.le_refl _) (Nat.le_refl _)
  generalize hT1 : (T.setVm vm₁).pushCell { cls := cX, slots := kX.instanceTypes.map defaultValue, vm := .none } = T1 at X₁ st1
  have hcat : (Value.ref T.heap.size).category = 1 := rfl
  have hcellA : T1.heap[T.heap.size]? = some (freshCell cX kX) := by rw [← hT1]; exact State.heap_pushCell_size _ _
  have d3' : decode c.code (pc + 3) = .ok (.dup, 1) := by rw [hb]; exact d3
  obtain ⟨U, hsteps, hrun, hend, hW, hsame, ce, hce, hO⟩ := X₁.ctorThrow0 hexec htr (own := own) (cls := cls) (names := names) (ic := ic) hown' hcls hnames h (fun x hx => nomatch hx) hfX hkX hcellA (by rw [hhp, hT]; exact Nat.le_refl _)
    (g := { method := m, pc := pc + 4, locals := ls, stack := .ref T.heap.size :: .ref T.heap.size :: rest, locked := none }) rfl hsize rfl rfl (rest := rest) rfl
    (by rw [hb]; exact d4) (by rw [hb]; exact d7) hout hRframes (by simp only [List.map_cons, List.sum_cons, hcat]; omega) hlocks
  obtain ⟨f1, f2⟩ := vx_frame hsame
  rw [hhp] at f1 f2
  have hWs : s.WarmedH U.vm := State.WarmedH.trans hW0 hW
  have hcl : s.vm.findClass cls = some ce.cls := by
    have h9 := hO.cls
    rw [hvm] at h9
    exact h9
  have hall : s.sameButNew ({ U with vm := s.vm } : State) locs mc ms := by
    subst hA
    obtain ⟨e1, e2⟩ := hsame
    rw [State.setFrames_setFrames] at e1
    have h2 : (T.setVm s.vm).sameButNew ({ U with vm := s.vm } : State) [] (0 + 1) (0 + 6) := ⟨e1, e2⟩
    have h3 := X.same.trans h2
    rw [List.append_nil] at h3
    exact h3.mono hc hs
  refine ⟨U, ?_, .threw T.heap.size, hrun, hend, Or.inr ⟨T.heap.size, rfl, cls, ce, locs, hx U hWs.alike f1 (fun q hq => f2 q hq (fun z hz => nomatch hz)), hce, hO.vm, hcl, hWs, hall, hf⟩⟩
  refine st1 _ ?_
  show Steps p.tables e below (T1.setTop { method := m, pc := pc + 3, locals := ls, stack := .ref T.heap.size :: rest, locked := none }) _
  jvm_step X₁.here [X₁.here.top, hexec, d3', Value.category]
  exact hsteps
/-- 'throw new E("text")': new; dup; ldc; invokespecial; athrow -/
theorem vx_throwS {cc : ByteArray} {pc : Nat} (hexec : p.tables.exec = Jvm.exec) (hb : c.code = cc) (hl : l.stackTraces = false) {own cls text : String} {names : List String} {ik is ic mc ms sa : Nat} {A : Nat → Prop}
    (hown : s.vm.findClass own = some m.cls) (hcls : Bundle.fit cls = true) (hnames : ∀ n ∈ names, Bundle.fit n = true)
    (hk : (Cond.classLink own ik cls).before args s = true) (hini : (Cond.initialized cls).before args s = true) (hstr : vk_R own is text sa s) (hat : ∀ w ∈ vx_atS own ic cls names, w.before args s = true)
    (hgood : ∀ w ∈ Cond.classLink own ik cls :: Cond.initialized cls :: vx_atS own ic cls names, vx_ot w = true)
    (hU : vx_Zq Bundle.tN "UNASSIGNED_STACK" Bundle.steD A s s.heap) (hN : vx_Zq Bundle.tN "SUPPRESSED_SENTINEL" Bundle.listD A s s.heap) (hS : va_S A s.heap H locs) (hsize : ls.size = c.maxLocals)
    (d0 : decode cc pc = .ok (.new ik, 3)) (d3 : decode cc (pc + 3) = .ok (.dup, 1)) (d4 : decode cc (pc + 4) = .ok (.ldc is, 2)) (d6 : decode cc (pc + 6) = .ok (.invokespecial ic, 3)) (d9 : decode cc (pc + 9) = .ok (.athrow, 1))
    (hout : ∀ x ∈ c.exceptionTable.toList, covers x (pc + 9) = false)
    (hRframes : names.length + 3 < R.frames) (hRlocals : (rest.map fun v => v.category).sum + (13 * (names.length + 1) + 43) ≤ R.locals) (hRcells : cells + 1 ≤ R.cells) (hRslots : slots + 6 ≤ R.slots) (hlocks : meth.locks = false)
    (hx : ∀ t : State, s.vm.Alike t.vm → H.size ≤ t.heap.size → (∀ q : Nat, q < H.size → t.heap[q]? = H[q]?) → XC cls s t)
    (hf : ∀ z ∈ locs, free z.base) (hc : cells + 1 ≤ mc) (hs : slots + 6 ≤ ms) :
    W p l e R s m args below meth c H locs cells slots (vx_MQ below Qc XC args s mc ms free) (F0 m pc ls rest) := by
  intro T hT X
  have htr : e.platform.stackTraces = false := (show e.platform.stackTraces = l.stackTraces by rw [X.admits.platform]).trans hl
  have Y := vx_rebase X (R' := { frames := R.frames, locals := R.locals, cells := 1, slots := 6 }) (Nat.le_refl _) (Nat.le_refl _) hRcells hRslots
  obtain ⟨s', hA⟩ : ∃ z, z = (T.setVm s.vm).setFrames (.invoking m args :: below) := ⟨_, rfl⟩
  rw [← hA] at Y
  have hvm : s'.vm = s.vm := by rw [hA]; rfl
  have hhp : s'.heap = H := by rw [hA]; exact hT
  have hW0 : s.WarmedH s'.vm := by rw [hvm]; exact State.WarmedH.refl s
  have hat' : ∀ w ∈ vx_atS own ic cls names, w.before args s' = true := fun w hw => vx_ot_at hW0 hvm.symm (hgood w (List.mem_cons_of_mem _ (List.mem_cons_of_mem _ hw))) (hat w hw)
  have hk' : (Cond.classLink own ik cls).before args s' = true := vx_ot_at hW0 hvm.symm (hgood _ List.mem_cons_self) hk
  have hini' : (Cond.initialized cls).before args s' = true := vx_ot_at hW0 hvm.symm (hgood _ (List.mem_cons_of_mem _ List.mem_cons_self)) hini
  have hU' : vx_Zq Bundle.tN "UNASSIGNED_STACK" Bundle.steD A s' s'.heap := by rw [hhp]; exact vx_Zq.moved hW0.alike (hU.kept hS.2.1)
  have hN' : vx_Zq Bundle.tN "SUPPRESSED_SENTINEL" Bundle.listD A s' s'.heap := by rw [hhp]; exact vx_Zq.moved hW0.alike (hN.kept hS.2.1)
  have h : ∀ w ∈ Bundle.ownAtoms own ic cls names, w.before args s' = true := vx_own hat' (vx_isRefq hU'.1) (vx_isRefq hN'.1) hU'.2.word hN'.2.word
  have hown' : s'.vm.findClass own = some m.cls := by rw [hvm]; exact hown
  have hins : (Cond.instantiable cls 6).before args s' = true := h _ (by simp [Bundle.ownAtoms])
  obtain ⟨vm₁, cX, kX, hfX, hkX, -, -, X₁, st1⟩ := Y.newCold hexec (own := own) (C := cls) (index := ik) (n := 6) hown' hk' hins hini'
    (g := F0 m pc ls rest) rfl (by rw [hb]; exact d0) (Nat.le_refl _) (Nat.le_refl _)
  generalize hT1 : (T.setVm vm₁).pushCell { cls := cX, slots := kX.instanceTypes.map defaultValue, vm := .none } = T1 at X₁ st1
  have hcat : (Value.ref T.heap.size).category = 1 := rfl
  have hcellA : T1.heap[T.heap.size]? = some (freshCell cX kX) := by rw [← hT1]; exact State.heap_pushCell_size _ _
  have d3' : decode c.code (pc + 3) = .ok (.dup, 1) := by rw [hb]; exact d3
  have d4' : decode c.code (pc + 4) = .ok (.ldc is, 2) := by rw [hb]; exact d4
  have hstr' : vk_R own is text sa s' := vk_R.warm hW0 hstr
  obtain ⟨U, hsteps, hrun, hend, hW, hsame, ce, hce, hO⟩ := X₁.ctorThrowS hexec htr (own := own) (cls := cls) (names := names) (ic := ic) hown' hcls hnames h (fun x hx => nomatch hx) hfX hkX hcellA (by rw [hhp, hT]; exact Nat.le_refl _) (msg := .ref sa) rfl
    (g := { method := m, pc := pc + 6, locals := ls, stack := .ref sa :: .ref T.heap.size :: .ref T.heap.size :: rest, locked := none }) rfl hsize rfl rfl (rest := rest) rfl
    (by rw [hb]; exact d6) (by rw [hb]; exact d9) hout hRframes (by simp only [List.map_cons, List.sum_cons, hcat]; omega) hlocks
  obtain ⟨f1, f2⟩ := vx_frame hsame
  rw [hhp] at f1 f2
  have hWs : s.WarmedH U.vm := State.WarmedH.trans hW0 hW
  have hcl : s.vm.findClass cls = some ce.cls := by
    have h9 := hO.cls
    rw [hvm] at h9
    exact h9
  have hall : s.sameButNew ({ U with vm := s.vm } : State) locs mc ms := by
    subst hA
    obtain ⟨e1, e2⟩ := hsame
    rw [State.setFrames_setFrames] at e1
    have h2 : (T.setVm s.vm).sameButNew ({ U with vm := s.vm } : State) [] (0 + 1) (0 + 6) := ⟨e1, e2⟩
    have h3 := X.same.trans h2
    rw [List.append_nil] at h3
    exact h3.mono hc hs
  refine ⟨U, ?_, .threw T.heap.size, hrun, hend, Or.inr ⟨T.heap.size, rfl, cls, ce, locs, hx U hWs.alike f1 (fun q hq => f2 q hq (fun z hz => nomatch hz)), hce, hO.vm, hcl, hWs, hall, hf⟩⟩
  refine st1 _ ?_
  show Steps p.tables e below (T1.setTop { method := m, pc := pc + 3, locals := ls, stack := .ref T.heap.size :: rest, locked := none }) _
  jvm_step X₁.here [X₁.here.top, hexec, d3', Value.category]
  exact X₁.ldcString hexec (own := own) (text := text) (index := is) (a := sa) hown' hstr'.1 hstr'.2
    (g := { method := m, pc := pc + 4, locals := ls, stack := .ref T.heap.size :: .ref T.heap.size :: rest, locked := none }) rfl d4' _ hsteps
/-- 'throw new E("text")', the text by a wide index -/
theorem vx_throwSW {cc : ByteArray} {pc : Nat} (hexec : p.tables.exec = Jvm.exec) (hb : c.code = cc) (hl : l.stackTraces = false) {own cls text : String} {names : List String} {ik is ic mc ms sa : Nat} {A : Nat → Prop}
    (hown : s.vm.findClass own = some m.cls) (hcls : Bundle.fit cls = true) (hnames : ∀ n ∈ names, Bundle.fit n = true)
    (hk : (Cond.classLink own ik cls).before args s = true) (hini : (Cond.initialized cls).before args s = true) (hstr : vk_R own is text sa s) (hat : ∀ w ∈ vx_atS own ic cls names, w.before args s = true)
    (hgood : ∀ w ∈ Cond.classLink own ik cls :: Cond.initialized cls :: vx_atS own ic cls names, vx_ot w = true)
    (hU : vx_Zq Bundle.tN "UNASSIGNED_STACK" Bundle.steD A s s.heap) (hN : vx_Zq Bundle.tN "SUPPRESSED_SENTINEL" Bundle.listD A s s.heap) (hS : va_S A s.heap H locs) (hsize : ls.size = c.maxLocals)
    (d0 : decode cc pc = .ok (.new ik, 3)) (d3 : decode cc (pc + 3) = .ok (.dup, 1)) (d4 : decode cc (pc + 4) = .ok (.ldc_w is, 3)) (d7 : decode cc (pc + 7) = .ok (.invokespecial ic, 3)) (d10 : decode cc (pc + 10) = .ok (.athrow, 1))
    (hout : ∀ x ∈ c.exceptionTable.toList, covers x (pc + 10) = false)
    (hRframes : names.length + 3 < R.frames) (hRlocals : (rest.map fun v => v.category).sum + (13 * (names.length + 1) + 43) ≤ R.locals) (hRcells : cells + 1 ≤ R.cells) (hRslots : slots + 6 ≤ R.slots) (hlocks : meth.locks = false)
    (hx : ∀ t : State, s.vm.Alike t.vm → H.size ≤ t.heap.size → (∀ q : Nat, q < H.size → t.heap[q]? = H[q]?) → XC cls s t)
    (hf : ∀ z ∈ locs, free z.base) (hc : cells + 1 ≤ mc) (hs : slots + 6 ≤ ms) :
    W p l e R s m args below meth c H locs cells slots (vx_MQ below Qc XC args s mc ms free) (F0 m pc ls rest) := by
  intro T hT X
  have htr : e.platform.stackTraces = false := (show e.platform.stackTraces = l.stackTraces by rw [X.admits.platform]).trans hl
  have Y := vx_rebase X (R' := { frames := R.frames, locals := R.locals, cells := 1, slots := 6 }) (Nat.le_refl _) (Nat.le_refl _) hRcells hRslots
  obtain ⟨s', hA⟩ : ∃ z, z = (T.setVm s.vm).setFrames (.invoking m args :: below) := ⟨_, rfl⟩
  rw [← hA] at Y
  have hvm : s'.vm = s.vm := by rw [hA]; rfl
  have hhp : s'.heap = H := by rw [hA]; exact hT
  have hW0 : s.WarmedH s'.vm := by rw [hvm]; exact State.WarmedH.refl s
  have hat' : ∀ w ∈ vx_atS own ic cls names, w.before args s' = true := fun w hw => vx_ot_at hW0 hvm.symm (hgood w (List.mem_cons_of_mem _ (List.mem_cons_of_mem _ hw))) (hat w hw)
  have hk' : (Cond.classLink own ik cls).before args s' = true := vx_ot_at hW0 hvm.symm (hgood _ List.mem_cons_self) hk
  have hini' : (Cond.initialized cls).before args s' = true := vx_ot_at hW0 hvm.symm (hgood _ (List.mem_cons_of_mem _ List.mem_cons_self)) hini
  have hU' : vx_Zq Bundle.tN "UNASSIGNED_STACK" Bundle.steD A s' s'.heap := by rw [hhp]; exact vx_Zq.moved hW0.alike (hU.kept hS.2.1)
  have hN' : vx_Zq Bundle.tN "SUPPRESSED_SENTINEL" Bundle.listD A s' s'.heap := by rw [hhp]; exact vx_Zq.moved hW0.alike (hN.kept hS.2.1)
  have h : ∀ w ∈ Bundle.ownAtoms own ic cls names, w.before args s' = true := vx_own hat' (vx_isRefq hU'.1) (vx_isRefq hN'.1) hU'.2.word hN'.2.word
  have hown' : s'.vm.findClass own = some m.cls := by rw [hvm]; exact hown
  have hins : (Cond.instantiable cls 6).before args s' = true := h _ (by simp [Bundle.ownAtoms])
  obtain ⟨vm₁, cX, kX, hfX, hkX, -, -, X₁, st1⟩ := Y.newCold hexec (own := own) (C := cls) (index := ik) (n := 6) hown' hk' hins hini'
    (g := F0 m pc ls rest) rfl (by rw [hb]; exact d0) (Nat.le_refl _) (Nat.le_refl _)
  generalize hT1 : (T.setVm vm₁).pushCell { cls := cX, slots := kX.instanceTypes.map defaultValue, vm := .none } = T1 at X₁ st1
  have hcat : (Value.ref T.heap.size).category = 1 := rfl
  have hcellA : T1.heap[T.heap.size]? = some (freshCell cX kX) := by rw [← hT1]; exact State.heap_pushCell_size _ _
  have d3' : decode c.code (pc + 3) = .ok (.dup, 1) := by rw [hb]; exact d3
  have d4' : decode c.code (pc + 4) = .ok (.ldc_w is, 3) := by rw [hb]; exact d4
  have hstr' : vk_R own is text sa s' := vk_R.warm hW0 hstr
  obtain ⟨U, hsteps, hrun, hend, hW, hsame, ce, hce, hO⟩ := X₁.ctorThrowS hexec htr (own := own) (cls := cls) (names := names) (ic := ic) hown' hcls hnames h (fun x hx => nomatch hx) hfX hkX hcellA (by rw [hhp, hT]; exact Nat.le_refl _) (msg := .ref sa) rfl
    (g := { method := m, pc := pc + 7, locals := ls, stack := .ref sa :: .ref T.heap.size :: .ref T.heap.size :: rest, locked := none }) rfl hsize rfl rfl (rest := rest) rfl
    (by rw [hb]; exact d7) (by rw [hb]; exact d10) hout hRframes (by simp only [List.map_cons, List.sum_cons, hcat]; omega) hlocks
  obtain ⟨f1, f2⟩ := vx_frame hsame
  rw [hhp] at f1 f2
  have hWs : s.WarmedH U.vm := State.WarmedH.trans hW0 hW
  have hcl : s.vm.findClass cls = some ce.cls := by
    have h9 := hO.cls
    rw [hvm] at h9
    exact h9
  have hall : s.sameButNew ({ U with vm := s.vm } : State) locs mc ms := by
    subst hA
    obtain ⟨e1, e2⟩ := hsame
    rw [State.setFrames_setFrames] at e1
    have h2 : (T.setVm s.vm).sameButNew ({ U with vm := s.vm } : State) [] (0 + 1) (0 + 6) := ⟨e1, e2⟩
    have h3 := X.same.trans h2
    rw [List.append_nil] at h3
    exact h3.mono hc hs
  refine ⟨U, ?_, .threw T.heap.size, hrun, hend, Or.inr ⟨T.heap.size, rfl, cls, ce, locs, hx U hWs.alike f1 (fun q hq => f2 q hq (fun z hz => nomatch hz)), hce, hO.vm, hcl, hWs, hall, hf⟩⟩
  refine st1 _ ?_
  show Steps p.tables e below (T1.setTop { method := m, pc := pc + 3, locals := ls, stack := .ref T.heap.size :: rest, locked := none }) _
  jvm_step X₁.here [X₁.here.top, hexec, d3', Value.category]
  exact X₁.ldcStringW hexec (own := own) (text := text) (index := is) (a := sa) hown' hstr'.1 hstr'.2
    (g := { method := m, pc := pc + 4, locals := ls, stack := .ref T.heap.size :: .ref T.heap.size :: rest, locked := none }) rfl d4' _ hsteps
end Ends
section Bodies
variable {l : Launch}
theorem vx_ofW {y : MethodName} {ws ws' : List Cond} {rm : Room} {Pc : Array Value → State → Prop} {Qc : Array Value → State → Outcome → State → Prop} {XC : String → State → State → Prop} {mc ms : Nat} {free : Addr → Prop} {cc : ByteArray} {maxL : Nat} {ret : Option FieldType}
    (hy : plainName y.cls = true) (hw : ws = Cond.code y cc maxL ret :: ws')
    (body : ∀ p e s m args below meth c s₁, BodyLoose p l y (headSpec ws rm) cc maxL ret e s m args below meth c s₁ → c.maxLocals = maxL → (∀ x ∈ c.exceptionTable.toList, False) → Pc args s →
      W p l e (headSpec ws rm).room s m args below meth c s.heap [] 0 0 (vx_MQ below Qc XC args s mc ms free) (entryFrame m args maxL)) : vx_Met l y ws rm Pc Qc XC mc ms free := by
  refine MetFree.of_bodyS (code := cc) (maxLocals := maxL) (ret := ret) hy ?_ ?_
  · intro args s m h hn
    obtain ⟨meth, c, h1, h2, h3, h4, h5, h6, -, -⟩ := Cond.code_spec hn (atoms_spec (ws := ws) h _ (by rw [hw]; exact List.mem_cons_self))
    exact ⟨meth, c, h1, h2, h3, h4, h5, h6⟩
  · intro p e s m args below meth c s₁ B hml hP _
    have hh0 : s₁.heap = s.heap := by rw [B.state]; rfl
    have ht : ∀ x ∈ c.exceptionTable.toList, False := by
      obtain ⟨meth9, c9, h1, h2, -, -, -, -, h7, -⟩ := Cond.code_spec B.named (atoms_spec (ws := ws) B.pre _ (by rw [hw]; exact List.mem_cons_self))
      cases Option.some.inj (h1.symm.trans B.method)
      cases Option.some.inj (h2.symm.trans (Stand.of_body B).code)
      intro x hx
      rw [Array.isEmpty_iff.mp h7] at hx
      cases hx
    obtain ⟨t, a1, o, b1, b2, b3⟩ := body p e s m args below meth c s₁ B hml ht hP s₁ hh0 (Stand.of_body B)
    exact ⟨t, o, a1, b1, b2, b3⟩
/-- the table of a body with handlers -/
theorem vx_table {p : Program} {x y : MethodName} {S : Spec} {cc bytes : ByteArray} {maxL maxL' : Nat} {ret ret' : Option FieldType} {e : Env} {s s₁ : State} {m : MethodId} {args : Array Value} {below : List Frame} {meth : Method} {c : Code} {hh : List (Nat × Nat × Nat × Nat)}
    (B : BodyLoose p l y S cc maxL ret e s m args below meth c s₁) (h : (Cond.codeWith y bytes maxL' ret' hh).before args s = true) : c.exceptionTable.toList = tableOf hh := by
  obtain ⟨m9, meth9, c9, hn9, h1, h2, -, -, h6, -⟩ := Cond.codeWith_spec h
  cases Option.some.inj (hn9.symm.trans B.named)
  cases Option.some.inj (h1.symm.trans B.method)
  cases Option.some.inj (h2.symm.trans (Stand.of_body B).code)
  rw [← h6, table_eq]
end Bodies
end VXA
/-! ===== END ===== -/
/-! ===== BEGIN a static call of a method with an exception table ===== -/
section VXS
variable {p : Program} {l : Launch} {e : Env} {R : Room} {s : State} {m : MethodId} {args : Array Value} {below : List Frame} {meth : Method} {c : Code} {T : State} {H : Heap} {locs : List Loc} {cells slots : Nat}
abbrev vx_CSW (R : Room) (s : State) (args : Array Value) (own : String) (index : Nat) (y : MethodName) (bytes : ByteArray) (maxL : Nat) (ret : Option FieldType) (hh : List (Nat × Nat × Nat × Nat)) (ws : List Cond) (rm : Room) (mc ms n : Nat) : Prop :=
  (rm.cells = mc ∧ rm.slots = ms ∧ rm.frames + 1 ≤ R.frames ∧ 8 + (maxL + 11) + rm.locals ≤ R.locals ∧ (∀ w ∈ ws, ∀ (a' : Array Value) (U : State), s.WarmedH U.vm → w.before a' U = true) ∧ Cond.codeWith y bytes maxL ret hh ∈ ws) ∧
  (Cond.codeWith y bytes maxL ret hh).before args s = true ∧ (Cond.initialized y.cls).before args s = true ∧ (y.cls ≠ "java/lang/invoke/MethodHandle" ∧ y.cls ≠ "java/lang/invoke/VarHandle") ∧
  (∀ sig, parseMethodDescriptor y.desc = some sig → n = sig.parameters.length) ∧ (Cond.methodLink own index y).before args s = true ∧ (Cond.static y).before args s = true
theorem vx_cwSW {own : String} {index maxL mc ms : Nat} {y : MethodName} {bytes : ByteArray} {ret : Option FieldType} {hh : List (Nat × Nat × Nat × Nat)} {Ts ws ws' : List Cond} {rm : Room} (n : Nat) (ht : ∀ w ∈ Ts, w.before args s = true) (hT : GoodIn Ts (va_wsS own index y ws)) (hw : ws = Cond.codeWith y bytes maxL ret hh :: ws') (hrc : rm.cells = mc) (hrs : rm.slots = ms)
    (hd : y.cls ≠ "java/lang/invoke/MethodHandle" ∧ y.cls ≠ "java/lang/invoke/VarHandle" ∧ (parseMethodDescriptor y.desc).map (fun d => d.parameters.length) = some n) (hR : rm.frames + 1 ≤ R.frames ∧ 8 + (maxL + 11) + rm.locals ≤ R.locals) :
    vx_CSW R s args own index y bytes maxL ret hh ws rm mc ms n := by
  have ok : ∀ w ∈ va_wsS own index y ws, w.before args s = true := fun w h => ht w (hT w h).1
  have hG : GoodIn Ts ws := fun w h => hT w (by unfold va_wsS; exact List.mem_append_right _ h)
  have hc : Cond.codeWith y bytes maxL ret hh ∈ ws := by rw [hw]; exact List.mem_cons_self
  refine ⟨⟨hrc, hrs, hR.1, hR.2, pay_in ht hG, hc⟩, ht _ (hG _ hc).1, ok _ (by simp [va_wsS]), ⟨hd.1, hd.2.1⟩, fun sig h => ?_, ok _ (by simp [va_wsS]), ok _ (by simp [va_wsS])⟩
  have h2 := hd.2.2
  rw [h] at h2
  exact (Option.some.inj h2).symm
theorem vx_callSW (X : Stand p l e R s m args below meth c T locs cells slots) (hexec : p.tables.exec = Jvm.exec) {own : String} {index : Nat} {y : MethodName} {bytes : ByteArray} {maxL : Nat} {ret : Option FieldType} {hh : List (Nat × Nat × Nat × Nat)}
    (hown : s.vm.findClass own = some m.cls) (hlink : (Cond.methodLink own index y).before args s = true) (hstat : (Cond.static y).before args s = true) (hinit : (Cond.initialized y.cls).before args s = true)
    (hcode : (Cond.codeWith y bytes maxL ret hh).before args s = true) (hy : y.cls ≠ "java/lang/invoke/MethodHandle" ∧ y.cls ≠ "java/lang/invoke/VarHandle")
    {W9 : Nat} {Pre : Pt → Array Value → Prop} {Post : Pt → Array Value → Option Value → Pt → Prop} (hK : Back l R p e below s args y 3 W9 Pre Post)
    {g : JFrame} (hg : g.method = m) (hsize : g.locals.size = c.maxLocals) {argsL rest : List Value} (hlen : ∀ sig, parseMethodDescriptor y.desc = some sig → argsL.length = sig.parameters.length)
    (hstack : g.stack = argsL.reverse ++ rest) (hW : 2 * g.monitorRoom + (rest.map fun v => v.category).sum ≤ W9) (hdg : decode c.code g.pc = .ok (.invokestatic index, 3))
    (hpre : ∀ vm₁, s.WarmedH vm₁ → Pre ⟨T.setVm vm₁, locs, cells, slots⟩ argsL.toArray) :
    ∃ (v : Option Value) (vm₁ : Vm) (B : Pt), s.WarmedH vm₁ ∧ Stand p l e R s m args below meth c B.U B.locs B.cells B.slots ∧ Post ⟨T.setVm vm₁, locs, cells, slots⟩ argsL.toArray v B ∧
      ∀ target, Steps p.tables e below (B.U.setTop { g with pc := g.pc + 3, stack := v.toList ++ rest }) target → Steps p.tables e below (T.setTop g) target := by
  obtain ⟨mk, methM, cM, hnamed, hmethM, -, -, -, -, -, -, hsigM⟩ := Cond.codeWith_spec hcode
  have hstatic : methM.isStatic = true := Cond.static_spec hnamed hmethM hstat
  obtain ⟨kP, hkP, -⟩ := className_of_methodNamed hnamed
  have hinitP : kP.init = .initialized := Cond.initialized_spec (findClass_of_methodNamed hnamed) hkP hinit
  obtain ⟨vm₁, X₁, hstep₁⟩ := X.invokestatic hexec hown hlink hnamed hmethM hstatic hkP hinitP hy (g := g) hg (argsL := argsL) (rest := rest) (hlen _ hsigM) hstack hdg
  obtain ⟨v, B, X', hpost, hsteps⟩ := hK m meth c ⟨T.setVm vm₁, locs, cells, slots⟩ { g with stack := rest } (.invokestatic index) mk argsL.toArray X₁ hg hsize hdg hW (X₁.named hnamed) (hpre vm₁ X₁.warmed)
  exact ⟨v, vm₁, B, X₁.warmed, X', hpost, fun target h => hstep₁ _ fun acts => by rw [doInvoke_state]; exact hsteps.trans h⟩
theorem vx_runSW {y : MethodName} {bytes cc : ByteArray} {maxL nL mc ms n index : Nat} {ret : Option FieldType} {hh : List (Nat × Nat × Nat × Nat)} {ws : List Cond} {rm : Room} {Pc : Array Value → State → Prop} {Qc : Array Value → State → Outcome → State → Prop} {free : Addr → Prop} {Ts : List Cond} {own : String} {As rest : List Value} {g : JFrame}
    (S : CallFix p m c cc nL s args Ts own) (hM : Met l y ws rm Pc Qc mc ms free) (cw : vx_CSW R s args own index y bytes maxL ret hh ws rm mc ms n) (hp : PreS s H Pc As)
    (hg : g.method = m) (hn : As.length = n) (hsize : g.locals.size = nL) (hstack : g.stack = As.reverse ++ rest) (hW : 2 * g.monitorRoom + (rest.map fun v => v.category).sum ≤ 8) (hdg : decode cc g.pc = .ok (.invokestatic index, 3)) (hf : cells + mc ≤ R.cells ∧ slots + ms ≤ R.slots) :
    va_Run p l e R s m args below meth c H locs cells slots mc ms g rest (Qc As.toArray) (free) := by
  obtain ⟨⟨hrc, hrs, hfr, hlo, hws, hcw⟩, hcode, hini, hy, hlen, hl, hstt⟩ := cw
  have hK : Back l R p e below s args y 3 8 (PreOf R mc ms Pc) (PostOf Qc mc ms free) := va_backW (hh := hh) (bytes := bytes) (maxL := maxL) (ret := ret) hM hp.1 hrc hrs hfr hlo hws hcw (fun a' U hW => word_at hW (Or.inl (by first | rfl | simp [Cond.onTables, Cond.keeps, Cond.steady])) hini)
  obtain ⟨hx, hb, hml, ho, -⟩ := S
  intro T hT X
  obtain ⟨v, vm₁, ⟨U', l2, c2, s2⟩, hW₁, X', ⟨g', mk, t, L, e1, e2, hq, h1, hL, h2, h3⟩, st⟩ := vx_callSW X hx (hh := hh) (bytes := bytes) (maxL := maxL) (ret := ret) ho hl hstt hini hcode hy hK hg (hsize.trans hml.symm) (argsL := As) (rest := rest) (fun sig h => hn.trans (hlen sig h)) hstack hW (by rw [hb]; exact hdg)
    (fun vm₁ hW₁ => ⟨hf.1, hf.2, hp.2 (T.setVm vm₁) hT hW₁⟩)
  dsimp only [Pt.U, Pt.locs, Pt.cells, Pt.slots] at X' e1 e2 h1 h2 h3 st
  subst h1; subst h2; subst h3
  exact ⟨v, (T.setVm vm₁).calling g' mk As.toArray, t, U', L, hT, X', hL, e1, e2, hq, st⟩
/-- a thing of a world lies in the heap -/
theorem vx_lt {D : va_G} {cl : List vw_C} {ws : va_W} {H1 : Heap} (h : va_P D cl ws H1) {k : Nat} {q : Nat × va_E} (hk : ws[k]? = some q) : q.1 < H1.size := (h k q hk).lt
end VXS
/-! ===== END ===== -/
/-! ===== BEGIN methods with a table of their own: called by a name, returning or throwing ===== -/
section VXH
/-! vx_backW, vx_callVX, vx_callSX, vx_callVW, vx_runVW, vx_runVX, vx_runSX, vx_ofWH follow the same proofs as their sisters above (Free/Laws.lean, Shelf42/LK1.lean); vx_outP calls Shelf42/NT130.lean (outThrough). -/
section
variable {l : Launch} {R : Room} {p : Program} {e : Env} {below : List Frame} {s : State} {sargs : Array Value} {y : MethodName} {len W9 : Nat}
theorem vx_backW {ws : List Cond} {rm : Room} {Pc : Array Value → State → Prop} {Qc : Array Value → State → Outcome → State → Prop} {XC : String → State → State → Prop} {mc ms : Nat} {free : Addr → Prop} {bytes : ByteArray} {maxL : Nat} {ret : Option FieldType} {hh : List (Nat × Nat × Nat × Nat)}
    (hM : vx_Met l y ws rm Pc Qc XC mc ms free) (hblind : FrameBlind Pc) (hrc : rm.cells = mc) (hrs : rm.slots = ms)
    (hframes : rm.frames + 1 ≤ R.frames) (hlocals : W9 + (maxL + 11) + rm.locals ≤ R.locals)
    (hws : ∀ w ∈ ws, ∀ a' U, s.WarmedH U.vm → w.before a' U = true) (hcode : Cond.codeWith y bytes maxL ret hh ∈ ws) (hinit : ∀ a' U, s.WarmedH U.vm → (Cond.initialized y.cls).before a' U = true) :
    vx_Back l R p e below s sargs y len W9 (PreOf R mc ms Pc) (PostOf Qc mc ms free) (vx_Post XC mc ms free) := by
  intro m meth c A g ig mk a X hg hsize hdg hW hn hp
  have h1 : (headSpec ws rm).pre.before a A.U = true := atoms_intro fun w hw => hws w hw _ _ X.warmed
  have h2 : (Cond.codeWith y bytes maxL ret hh).before a A.U = true := hws _ hcode _ _ X.warmed
  have h3 : (Cond.initialized y.cls).before a A.U = true := hinit _ _ X.warmed
  have h4 : A.cells + (headSpec ws rm).room.cells ≤ R.cells := by rw [show (headSpec ws rm).room.cells = mc from hrc]; exact hp.1
  have h5 : A.slots + (headSpec ws rm).room.slots ≤ R.slots := by rw [show (headSpec ws rm).room.slots = ms from hrs]; exact hp.2.1
  have hPc : Pc a (A.U.calling g mk a) := hblind _ _ _ _ hp.2.2
  obtain ⟨U, Ls, c0, s0⟩ := A
  dsimp only [Pt.U, Pt.locs, Pt.cells, Pt.slots] at h1 h2 h3 h4 h5 X hn hPc ⊢
  obtain ⟨m9, methY, cY, hn9, hmY, hcY, -, hlY, -⟩ := Cond.codeWith_spec h2
  cases Option.some.inj (hn9.symm.trans hn)
  obtain ⟨kY, hkY, -⟩ := className_of_methodNamed hn
  have hinitY : kY.init = .initialized := Cond.initialized_spec (findClass_of_methodNamed hn) hkY h3
  have h : At U g.method c below := by rw [hg]; exact X.here
  have hlocals9 : W9 + (maxL + 11) + (headSpec ws rm).room.locals ≤ R.locals := hlocals
  have happ : (headSpec ws rm).appliesLoose y e.platform (U.calling g mk a) = true :=
    Spec.appliesLoose_calling (g := g) h hdg hn hkY hinitY
      (X.room_calling (g := g) (R' := (headSpec ws rm).room) hsize hmY hcY hframes (by rw [hlY]; omega) h4 h5) h1
  obtain ⟨mid, hmid⟩ := h.above
  have hfr : (U.setTop g).frames = (.java g :: mid) ++ below := by rw [State.frames_setTop' g h.top, hmid]; rfl
  obtain ⟨o, s₂, hsteps, -, hend, hq⟩ := Steps.callFree hM p X.admits X.cas X.clock (acts := []) hfr happ hPc trivial
  have hq' : vx_Q Qc XC mc ms free a (U.calling g mk a) o s₂ := hq
  rw [State.frames_setTop' g h.top] at hend
  obtain ⟨g₀, hg0⟩ := Option.isSome_iff_exists.mp h.top
  obtain ⟨r, hr⟩ := State.topJava?_eq_some.mp hg0
  have hr' : (({ U with heap := s₂.heap, slotsUsed := s₂.slotsUsed } : State).setVm s₂.vm).frames = .java g₀ :: r := hr
  rcases hq' with ⟨hqc, L, hfe, hL⟩ | ⟨q, rfl, E, ce, L, hx, hce, hcv, hcl, hW₂, hsm, hL⟩
  · obtain ⟨⟨v, rfl⟩, hW₂, e2, q2, q3, q4, q5, q6⟩ := id hfe
    have e3 : s₂ = ({ (U.calling g mk a).setFrames s₂.frames with heap := s₂.heap, slotsUsed := s₂.slotsUsed } : State).setVm s₂.vm := by
      have : s₂ = ({ s₂ with vm := (U.calling g mk a).vm } : State).setVm s₂.vm := rfl
      rw [e2] at this
      exact this
    obtain ⟨c₂, i₂, len₂, hc₂, hd₂, hf₂⟩ := hend
    have hW' : U.WarmedH s₂.vm := hW₂
    have hcc : c₂ = c := by
      have h1 : s₂.code? g.method = U.code? g.method := by
        rw [State.code?_eq, State.code?_eq, hW'.alike.method?]
      exact Option.some.inj (hc₂.symm.trans (h1.trans h.code))
    subst hcc
    have hlen : len₂ = len := by rw [hdg] at hd₂; cases hd₂; rfl
    subst hlen
    have hs₂ : s₂ = (({ U with heap := s₂.heap, slotsUsed := s₂.slotsUsed } : State).setVm s₂.vm).setTop { g with pc := g.pc + len₂, stack := v.toList ++ g.stack } := by
      refine e3.trans ?_
      rw [hf₂, State.calling_eq h.top, State.setFrames_setFrames, State.setTop_of_frames _ hr', hr]
      rfl
    have hsame : U.sameButNew ({ U with heap := s₂.heap, slotsUsed := s₂.slotsUsed } : State) L mc ms := by
      refine ⟨?_, q2, q3, q4, q5, q6⟩
      obtain ⟨t, ht, -⟩ := State.frames_cons hr
      show ({ U with heap := s₂.heap, slotsUsed := s₂.slotsUsed } : State) = { U.setFrames U.frames with heap := s₂.heap, slotsUsed := s₂.slotsUsed }
      rw [State.setFrames_self ht]
    subst hg
    refine Or.inl ⟨v, ⟨(({ U with heap := s₂.heap, slotsUsed := s₂.slotsUsed } : State).setVm s₂.vm), Ls ++ L, c0 + mc, s0 + ms⟩,
      ⟨X.admits, X.cas, X.clock, X.frames, X.room, X.hears, X.method, X.code, (X.here.setHeapUsed s₂.heap s₂.slotsUsed).setVm hW'.alike, X.tail, State.WarmedH.trans X.warmed hW', X.limits, X.bytes, X.same.trans (hsame.setVm s.vm)⟩,
      ⟨g, mk, s₂, L, rfl, rfl, hqc, rfl, hL, rfl, rfl⟩, ?_⟩
    show Steps p.tables e below _ ((({ U with heap := s₂.heap, slotsUsed := s₂.slotsUsed } : State).setVm s₂.vm).setTop { g with pc := g.pc + len₂, stack := v.toList ++ g.stack })
    rw [← hs₂]
    exact hsteps
  · obtain ⟨e2, q2, q3, q4, q5, q6⟩ := id hsm
    have e3 : s₂ = ({ (U.calling g mk a).setFrames s₂.frames with heap := s₂.heap, slotsUsed := s₂.slotsUsed } : State).setVm s₂.vm := by
      have : s₂ = ({ s₂ with vm := (U.calling g mk a).vm } : State).setVm s₂.vm := rfl
      rw [e2] at this
      exact this
    have hf₂ : s₂.frames = .throwing q :: .java g :: U.frames.tail := hend
    have hW' : U.WarmedH s₂.vm := hW₂
    have hs₂ : s₂ = ((({ U with heap := s₂.heap, slotsUsed := s₂.slotsUsed } : State).setVm s₂.vm).setTop g).pushFrame (.throwing q) := by
      refine e3.trans ?_
      rw [hf₂, State.calling_eq h.top, State.setFrames_setFrames, State.pushFrame, State.frames_setTop _ hr', State.setTop_of_frames _ hr', State.setFrames_setFrames, hr]
      rfl
    have hsame : U.sameButNew ({ U with heap := s₂.heap, slotsUsed := s₂.slotsUsed } : State) L mc ms := by
      refine ⟨?_, q2, q3, q4, q5, q6⟩
      obtain ⟨t, ht, -⟩ := State.frames_cons hr
      show ({ U with heap := s₂.heap, slotsUsed := s₂.slotsUsed } : State) = { U.setFrames U.frames with heap := s₂.heap, slotsUsed := s₂.slotsUsed }
      rw [State.setFrames_self ht]
    subst hg
    refine Or.inr ⟨q, ⟨(({ U with heap := s₂.heap, slotsUsed := s₂.slotsUsed } : State).setVm s₂.vm), Ls ++ L, c0 + mc, s0 + ms⟩,
      ⟨X.admits, X.cas, X.clock, X.frames, X.room, X.hears, X.method, X.code, (X.here.setHeapUsed s₂.heap s₂.slotsUsed).setVm hW'.alike, X.tail, State.WarmedH.trans X.warmed hW', X.limits, X.bytes, X.same.trans (hsame.setVm s.vm)⟩,
      ⟨g, mk, s₂, L, E, ce, rfl, rfl, hx, hce, hcv, hcl, rfl, hL, rfl, rfl⟩, ?_⟩
    show Steps p.tables e below _ (((({ U with heap := s₂.heap, slotsUsed := s₂.slotsUsed } : State).setVm s₂.vm).setTop g).pushFrame (.throwing q))
    rw [← hs₂]
    exact hsteps
end
variable {p : Program} {l : Launch} {e : Env} {R : Room} {s : State} {m : MethodId} {args : Array Value} {below : List Frame} {meth : Method} {c : Code} {T : State} {H : Heap} {locs : List Loc} {cells slots : Nat}
theorem vx_callVX (X : Stand p l e R s m args below meth c T locs cells slots) (hexec : p.tables.exec = Jvm.exec) {own C : String} {index : Nat} {y : MethodName} {bytes : ByteArray} {maxL : Nat} {ret : Option FieldType} {hh : List (Nat × Nat × Nat × Nat)}
    (hown : s.vm.findClass own = some m.cls) (hlink : (Cond.methodLink own index y).before args s = true) (hinst : (Cond.instanceMethod y).before args s = true) (hsel : (Cond.selects C y y).before args s = true)
    (hcode : (Cond.codeWith y bytes maxL ret hh).before args s = true) (hy : y.cls ≠ "java/lang/invoke/MethodHandle" ∧ y.cls ≠ "java/lang/invoke/VarHandle")
    {W9 : Nat} {Pre : Pt → Array Value → Prop} {Post : Pt → Array Value → Option Value → Pt → Prop} {PostX : Pt → Array Value → Addr → Pt → Prop} (hK : vx_Back l R p e below s args y 3 W9 Pre Post PostX)
    {b : Addr} {cellB : Cell} (hcell : T.heap[b]? = some cellB) (hobj : cellB.vm.isStatics = false) (hcls : s.vm.findClass C = some cellB.cls)
    {g : JFrame} (hg : g.method = m) (hsize : g.locals.size = c.maxLocals) {argsL rest : List Value} (hlen : ∀ sig, parseMethodDescriptor y.desc = some sig → argsL.length = sig.parameters.length)
    (hstack : g.stack = argsL.reverse ++ .ref b :: rest) (hW : 2 * g.monitorRoom + (rest.map fun v => v.category).sum ≤ W9) (hdg : decode c.code g.pc = .ok (.invokevirtual index, 3))
    (hpre : ∀ vm₁, s.WarmedH vm₁ → Pre ⟨T.setVm vm₁, locs, cells, slots⟩ (Value.ref b :: argsL).toArray) :
    (∃ (v : Option Value) (vm₁ : Vm) (B : Pt), s.WarmedH vm₁ ∧ Stand p l e R s m args below meth c B.U B.locs B.cells B.slots ∧ Post ⟨T.setVm vm₁, locs, cells, slots⟩ (Value.ref b :: argsL).toArray v B ∧
      ∀ target, Steps p.tables e below (B.U.setTop { g with pc := g.pc + 3, stack := v.toList ++ rest }) target → Steps p.tables e below (T.setTop g) target) ∨
    (∃ (q : Addr) (vm₁ : Vm) (B : Pt), s.WarmedH vm₁ ∧ Stand p l e R s m args below meth c B.U B.locs B.cells B.slots ∧ PostX ⟨T.setVm vm₁, locs, cells, slots⟩ (Value.ref b :: argsL).toArray q B ∧
      Steps p.tables e below (T.setTop g) ((B.U.setTop { g with stack := rest }).pushFrame (.throwing q))) := by
  obtain ⟨mk, methM, hnamed, hmethM, hstM, habM⟩ := Cond.instanceMethod_spec hinst
  obtain ⟨m8, methM', cM, hn8, hmethM', -, -, -, -, -, -, hsigM⟩ := Cond.codeWith_spec hcode
  cases Option.some.inj (hn8.symm.trans hnamed)
  cases hmethM.symm.trans hmethM'
  obtain ⟨c2, r2, m2, q1, q2, q3, q4, kP, hkP, hkPi⟩ := Cond.selects_spec hsel
  cases hcls.symm.trans q1
  cases (State.methodFound?_of_named hnamed hy).symm.trans q2
  cases hnamed.symm.trans q3
  have hselP : selectMethod e.platform s.vm cellB.cls mk = .method mk := by rw [Launch.admits_selectMethod X.admits]; exact q4
  obtain ⟨vm₁, X₁, hstep₁⟩ := X.invokevirtual hexec hown hlink hnamed hmethM hstM hkP hkPi hy (a := b) (cell := cellB) hcell
    (fun z h => by rw [h] at hobj; cases hobj) hselP hmethM habM hkP hkPi (g := g) hg (argsL := argsL) (rest := rest) (hlen _ hsigM) hstack hdg
  rcases hK m meth c ⟨T.setVm vm₁, locs, cells, slots⟩ { g with stack := rest } (.invokevirtual index) mk (Value.ref b :: argsL).toArray X₁ hg hsize hdg hW (X₁.named hnamed) (hpre vm₁ X₁.warmed) with ⟨v, B, X', hpost, hsteps⟩ | ⟨q, B, X', hpost, hsteps⟩
  · exact Or.inl ⟨v, vm₁, B, X₁.warmed, X', hpost, fun target h => hstep₁ _ fun acts => by rw [doInvoke_state]; exact hsteps.trans h⟩
  · exact Or.inr ⟨q, vm₁, B, X₁.warmed, X', hpost, hstep₁ _ fun acts => by rw [doInvoke_state]; exact hsteps⟩
theorem vx_callSX (X : Stand p l e R s m args below meth c T locs cells slots) (hexec : p.tables.exec = Jvm.exec) {own : String} {index : Nat} {y : MethodName} {bytes : ByteArray} {maxL : Nat} {ret : Option FieldType} {hh : List (Nat × Nat × Nat × Nat)}
    (hown : s.vm.findClass own = some m.cls) (hlink : (Cond.methodLink own index y).before args s = true) (hstat : (Cond.static y).before args s = true) (hinit : (Cond.initialized y.cls).before args s = true)
    (hcode : (Cond.codeWith y bytes maxL ret hh).before args s = true) (hy : y.cls ≠ "java/lang/invoke/MethodHandle" ∧ y.cls ≠ "java/lang/invoke/VarHandle")
    {W9 : Nat} {Pre : Pt → Array Value → Prop} {Post : Pt → Array Value → Option Value → Pt → Prop} {PostX : Pt → Array Value → Addr → Pt → Prop} (hK : vx_Back l R p e below s args y 3 W9 Pre Post PostX)
    {g : JFrame} (hg : g.method = m) (hsize : g.locals.size = c.maxLocals) {argsL rest : List Value} (hlen : ∀ sig, parseMethodDescriptor y.desc = some sig → argsL.length = sig.parameters.length)
    (hstack : g.stack = argsL.reverse ++ rest) (hW : 2 * g.monitorRoom + (rest.map fun v => v.category).sum ≤ W9) (hdg : decode c.code g.pc = .ok (.invokestatic index, 3))
    (hpre : ∀ vm₁, s.WarmedH vm₁ → Pre ⟨T.setVm vm₁, locs, cells, slots⟩ argsL.toArray) :
    (∃ (v : Option Value) (vm₁ : Vm) (B : Pt), s.WarmedH vm₁ ∧ Stand p l e R s m args below meth c B.U B.locs B.cells B.slots ∧ Post ⟨T.setVm vm₁, locs, cells, slots⟩ argsL.toArray v B ∧
      ∀ target, Steps p.tables e below (B.U.setTop { g with pc := g.pc + 3, stack := v.toList ++ rest }) target → Steps p.tables e below (T.setTop g) target) ∨
    (∃ (q : Addr) (vm₁ : Vm) (B : Pt), s.WarmedH vm₁ ∧ Stand p l e R s m args below meth c B.U B.locs B.cells B.slots ∧ PostX ⟨T.setVm vm₁, locs, cells, slots⟩ argsL.toArray q B ∧
      Steps p.tables e below (T.setTop g) ((B.U.setTop { g with stack := rest }).pushFrame (.throwing q))) := by
  obtain ⟨mk, methM, cM, hnamed, hmethM, -, -, -, -, -, -, hsigM⟩ := Cond.codeWith_spec hcode
  have hstatic : methM.isStatic = true := Cond.static_spec hnamed hmethM hstat
  obtain ⟨kP, hkP, -⟩ := className_of_methodNamed hnamed
  have hinitP : kP.init = .initialized := Cond.initialized_spec (findClass_of_methodNamed hnamed) hkP hinit
  obtain ⟨vm₁, X₁, hstep₁⟩ := X.invokestatic hexec hown hlink hnamed hmethM hstatic hkP hinitP hy (g := g) hg (argsL := argsL) (rest := rest) (hlen _ hsigM) hstack hdg
  rcases hK m meth c ⟨T.setVm vm₁, locs, cells, slots⟩ { g with stack := rest } (.invokestatic index) mk argsL.toArray X₁ hg hsize hdg hW (X₁.named hnamed) (hpre vm₁ X₁.warmed) with ⟨v, B, X', hpost, hsteps⟩ | ⟨q, B, X', hpost, hsteps⟩
  · exact Or.inl ⟨v, vm₁, B, X₁.warmed, X', hpost, fun target h => hstep₁ _ fun acts => by rw [doInvoke_state]; exact hsteps.trans h⟩
  · exact Or.inr ⟨q, vm₁, B, X₁.warmed, X', hpost, hstep₁ _ fun acts => by rw [doInvoke_state]; exact hsteps⟩
theorem vx_callVW (X : Stand p l e R s m args below meth c T locs cells slots) (hexec : p.tables.exec = Jvm.exec) {own C : String} {index : Nat} {y : MethodName} {bytes : ByteArray} {maxL : Nat} {ret : Option FieldType} {hh : List (Nat × Nat × Nat × Nat)}
    (hown : s.vm.findClass own = some m.cls) (hlink : (Cond.methodLink own index y).before args s = true) (hinst : (Cond.instanceMethod y).before args s = true) (hsel : (Cond.selects C y y).before args s = true)
    (hcode : (Cond.codeWith y bytes maxL ret hh).before args s = true) (hy : y.cls ≠ "java/lang/invoke/MethodHandle" ∧ y.cls ≠ "java/lang/invoke/VarHandle")
    {W9 : Nat} {Pre : Pt → Array Value → Prop} {Post : Pt → Array Value → Option Value → Pt → Prop} (hK : Back l R p e below s args y 3 W9 Pre Post)
    {b : Addr} {cellB : Cell} (hcell : T.heap[b]? = some cellB) (hobj : cellB.vm.isStatics = false) (hcls : s.vm.findClass C = some cellB.cls)
    {g : JFrame} (hg : g.method = m) (hsize : g.locals.size = c.maxLocals) {argsL rest : List Value} (hlen : ∀ sig, parseMethodDescriptor y.desc = some sig → argsL.length = sig.parameters.length)
    (hstack : g.stack = argsL.reverse ++ .ref b :: rest) (hW : 2 * g.monitorRoom + (rest.map fun v => v.category).sum ≤ W9) (hdg : decode c.code g.pc = .ok (.invokevirtual index, 3))
    (hpre : ∀ vm₁, s.WarmedH vm₁ → Pre ⟨T.setVm vm₁, locs, cells, slots⟩ (Value.ref b :: argsL).toArray) :
    ∃ (v : Option Value) (vm₁ : Vm) (B : Pt), s.WarmedH vm₁ ∧ Stand p l e R s m args below meth c B.U B.locs B.cells B.slots ∧ Post ⟨T.setVm vm₁, locs, cells, slots⟩ (Value.ref b :: argsL).toArray v B ∧
      ∀ target, Steps p.tables e below (B.U.setTop { g with pc := g.pc + 3, stack := v.toList ++ rest }) target → Steps p.tables e below (T.setTop g) target := by
  obtain ⟨mk, methM, hnamed, hmethM, hstM, habM⟩ := Cond.instanceMethod_spec hinst
  obtain ⟨m8, methM', cM, hn8, hmethM', -, -, -, -, -, -, hsigM⟩ := Cond.codeWith_spec hcode
  cases Option.some.inj (hn8.symm.trans hnamed)
  cases hmethM.symm.trans hmethM'
  obtain ⟨c2, r2, m2, q1, q2, q3, q4, kP, hkP, hkPi⟩ := Cond.selects_spec hsel
  cases hcls.symm.trans q1
  cases (State.methodFound?_of_named hnamed hy).symm.trans q2
  cases hnamed.symm.trans q3
  have hselP : selectMethod e.platform s.vm cellB.cls mk = .method mk := by rw [Launch.admits_selectMethod X.admits]; exact q4
  obtain ⟨vm₁, X₁, hstep₁⟩ := X.invokevirtual hexec hown hlink hnamed hmethM hstM hkP hkPi hy (a := b) (cell := cellB) hcell
    (fun z h => by rw [h] at hobj; cases hobj) hselP hmethM habM hkP hkPi (g := g) hg (argsL := argsL) (rest := rest) (hlen _ hsigM) hstack hdg
  obtain ⟨v, B, X', hpost, hsteps⟩ := hK m meth c ⟨T.setVm vm₁, locs, cells, slots⟩ { g with stack := rest } (.invokevirtual index) mk (Value.ref b :: argsL).toArray X₁ hg hsize hdg hW (X₁.named hnamed) (hpre vm₁ X₁.warmed)
  exact ⟨v, vm₁, B, X₁.warmed, X', hpost, fun target h => hstep₁ _ fun acts => by rw [doInvoke_state]; exact hsteps.trans h⟩
abbrev vx_CVW (R : Room) (s : State) (args : Array Value) (own C : String) (index : Nat) (y : MethodName) (bytes : ByteArray) (maxL : Nat) (ret : Option FieldType) (hh : List (Nat × Nat × Nat × Nat)) (ws : List Cond) (rm : Room) (mc ms n : Nat) : Prop :=
  (rm.cells = mc ∧ rm.slots = ms ∧ rm.frames + 1 ≤ R.frames ∧ 8 + (maxL + 11) + rm.locals ≤ R.locals ∧ (∀ w ∈ ws, ∀ (a' : Array Value) (U : State), s.WarmedH U.vm → w.before a' U = true) ∧ Cond.codeWith y bytes maxL ret hh ∈ ws) ∧
  (Cond.codeWith y bytes maxL ret hh).before args s = true ∧ (Cond.initialized y.cls).before args s = true ∧ (y.cls ≠ "java/lang/invoke/MethodHandle" ∧ y.cls ≠ "java/lang/invoke/VarHandle") ∧
  (∀ sig, parseMethodDescriptor y.desc = some sig → n = sig.parameters.length) ∧ (Cond.methodLink own index y).before args s = true ∧ (Cond.instanceMethod y).before args s = true ∧ (Cond.selects C y y).before args s = true
theorem vx_cwVW {own C : String} {index maxL mc ms : Nat} {y : MethodName} {bytes : ByteArray} {ret : Option FieldType} {hh : List (Nat × Nat × Nat × Nat)} {Ts ws ws' : List Cond} {rm : Room} (n : Nat) (ht : ∀ w ∈ Ts, w.before args s = true) (hT : GoodIn Ts (wsV own index C y ws)) (hw : ws = Cond.codeWith y bytes maxL ret hh :: ws') (hrc : rm.cells = mc) (hrs : rm.slots = ms)
    (hd : y.cls = C ∧ y.cls ≠ "java/lang/invoke/MethodHandle" ∧ y.cls ≠ "java/lang/invoke/VarHandle" ∧ (parseMethodDescriptor y.desc).map (fun d => d.parameters.length) = some n) (hR : rm.frames + 1 ≤ R.frames ∧ 8 + (maxL + 11) + rm.locals ≤ R.locals) :
    vx_CVW R s args own C index y bytes maxL ret hh ws rm mc ms n := by
  obtain ⟨hC, hd⟩ := hd
  subst hC
  have ok : ∀ w ∈ wsV own index y.cls y ws, w.before args s = true := fun w h => ht w (hT w h).1
  have hG : GoodIn Ts ws := fun w h => hT w (by unfold wsV; exact List.mem_append_right _ h)
  have hc : Cond.codeWith y bytes maxL ret hh ∈ ws := by rw [hw]; exact List.mem_cons_self
  refine ⟨⟨hrc, hrs, hR.1, hR.2, pay_in ht hG, hc⟩, ht _ (hG _ hc).1, ok _ (by simp [wsV]), ⟨hd.1, hd.2.1⟩, fun sig h => ?_, ok _ (by simp [wsV]), ok _ (by simp [wsV]), ok _ (by simp [wsV])⟩
  have h2 := hd.2.2
  rw [h] at h2
  exact (Option.some.inj h2).symm
theorem vx_runVW {y : MethodName} {bytes cc : ByteArray} {maxL nL mc ms n index : Nat} {ret : Option FieldType} {hh : List (Nat × Nat × Nat × Nat)} {ws : List Cond} {rm : Room} {Pc : Array Value → State → Prop} {Qc : Array Value → State → Outcome → State → Prop} {free : Addr → Prop} {Ts : List Cond} {own C : String} {b : Addr} {As rest : List Value} {g : JFrame}
    (S : CallFix p m c cc nL s args Ts own) (hM : Met l y ws rm Pc Qc mc ms free) (cw : vx_CVW R s args own C index y bytes maxL ret hh ws rm mc ms n) (hp : PreV s H C b Pc As)
    (hg : g.method = m) (hn : As.length = n) (hsize : g.locals.size = nL) (hstack : g.stack = As.reverse ++ .ref b :: rest) (hW : 2 * g.monitorRoom + (rest.map fun v => v.category).sum ≤ 8) (hdg : decode cc g.pc = .ok (.invokevirtual index, 3)) (hf : cells + mc ≤ R.cells ∧ slots + ms ≤ R.slots) :
    va_Run p l e R s m args below meth c H locs cells slots mc ms g rest (Qc (Value.ref b :: As).toArray) free := by
  obtain ⟨⟨hrc, hrs, hfr, hlo, hws, hcw⟩, hcode, hini, hy, hlen, hl, hin, hse⟩ := cw
  have hK : Back l R p e below s args y 3 8 (PreOf R mc ms Pc) (PostOf Qc mc ms free) := va_backW (hh := hh) (bytes := bytes) (maxL := maxL) (ret := ret) hM hp.1 hrc hrs hfr hlo hws hcw (fun a' U hW => word_at hW (Or.inl (by first | rfl | simp [Cond.onTables, Cond.keeps, Cond.steady])) hini)
  obtain ⟨hx, hb, hml, ho, -⟩ := S
  obtain ⟨-, ⟨cellB, hcB, hoB, hclB⟩, hPc⟩ := hp
  intro T hT X
  obtain ⟨v, vm₁, ⟨U', l2, c2, s2⟩, hW₁, X', ⟨g', mk, t, L, e1, e2, hq, h1, hL, h2, h3⟩, st⟩ := vx_callVW X hx (C := C) (hh := hh) (bytes := bytes) (maxL := maxL) (ret := ret) ho hl hin hse hcode hy hK (by rw [hT]; exact hcB) hoB hclB hg (hsize.trans hml.symm) (argsL := As) (rest := rest) (fun sig h => hn.trans (hlen sig h)) hstack hW (by rw [hb]; exact hdg)
    (fun vm₁ hW₁ => ⟨hf.1, hf.2, hPc (T.setVm vm₁) hT hW₁⟩)
  dsimp only [Pt.U, Pt.locs, Pt.cells, Pt.slots] at X' e1 e2 h1 h2 h3 st
  subst h1; subst h2; subst h3
  exact ⟨v, (T.setVm vm₁).calling g' mk (Value.ref b :: As).toArray, t, U', L, hT, X', hL, e1, e2, hq, st⟩
section
variable {y : MethodName} {bytes cc : ByteArray} {maxL nL mc ms n index : Nat} {ret : Option FieldType} {ws : List Cond} {rm : Room} {Pc : Array Value → State → Prop} {Qc : Array Value → State → Outcome → State → Prop} {XC : String → State → State → Prop} {free : Addr → Prop} {Ts : List Cond} {own C : String} {b : Addr} {As rest : List Value} {g : JFrame}
theorem vx_runVX {hh : List (Nat × Nat × Nat × Nat)} (S : CallFix p m c cc nL s args Ts own) (hM : vx_Met l y ws rm Pc Qc XC mc ms free) (cw : vx_CVW R s args own C index y bytes maxL ret hh ws rm mc ms n) (hp : PreV s H C b Pc As)
    (hg : g.method = m) (hn : As.length = n) (hsize : g.locals.size = nL) (hstack : g.stack = As.reverse ++ .ref b :: rest) (hW : 2 * g.monitorRoom + (rest.map fun v => v.category).sum ≤ 8) (hdg : decode cc g.pc = .ok (.invokevirtual index, 3)) (hf : cells + mc ≤ R.cells ∧ slots + ms ≤ R.slots) :
    vx_Run p l e R s m args below meth c H locs cells slots mc ms g rest (Qc (Value.ref b :: As).toArray) XC free := by
  obtain ⟨⟨hrc, hrs, hfr, hlo, hws, hcw⟩, hcode, hini, hy, hlen, hl, hin, hse⟩ := cw
  have hK : vx_Back l R p e below s args y 3 8 (PreOf R mc ms Pc) (PostOf Qc mc ms free) (vx_Post XC mc ms free) := vx_backW (hh := hh) (bytes := bytes) (maxL := maxL) (ret := ret) hM hp.1 hrc hrs hfr hlo hws hcw (fun a' U hW => word_at hW (Or.inl (by first | rfl | simp [Cond.onTables, Cond.keeps, Cond.steady])) hini)
  obtain ⟨hx, hb, hml, ho, -⟩ := S
  obtain ⟨-, ⟨cellB, hcB, hoB, hclB⟩, hPc⟩ := hp
  intro T hT X
  rcases vx_callVX X hx (C := C) (hh := hh) (bytes := bytes) (maxL := maxL) (ret := ret) ho hl hin hse hcode hy hK (by rw [hT]; exact hcB) hoB hclB hg (hsize.trans hml.symm) (argsL := As) (rest := rest) (fun sig h => hn.trans (hlen sig h)) hstack hW (by rw [hb]; exact hdg)
    (fun vm₁ hW₁ => ⟨hf.1, hf.2, hPc (T.setVm vm₁) hT hW₁⟩) with ⟨v, vm₁, ⟨U', l2, c2, s2⟩, hW₁, X', ⟨g', mk, t, L, e1, e2, hq, h1, hL, h2, h3⟩, st⟩ | ⟨q, vm₁, ⟨U', l2, c2, s2⟩, hW₁, X', ⟨g', mk, t, L, E, ce, e1, e2, hq, hce, hcv, hcl, h1, hL, h2, h3⟩, st⟩
  · dsimp only [Pt.U, Pt.locs, Pt.cells, Pt.slots] at X' e1 e2 h1 h2 h3 st
    subst h1; subst h2; subst h3
    exact Or.inl ⟨v, (T.setVm vm₁).calling g' mk (Value.ref b :: As).toArray, t, U', L, hT, X', hL, e1, e2, hq, st⟩
  · dsimp only [Pt.U, Pt.locs, Pt.cells, Pt.slots] at X' e1 e2 h1 h2 h3 st hcl
    subst h1; subst h2; subst h3
    exact Or.inr ⟨q, (T.setVm vm₁).calling g' mk (Value.ref b :: As).toArray, t, U', L, E, ce, hT, X', hL, e1, e2, hq, hce, hcv, vx_cls hW₁ hcl, st⟩
theorem vx_runSX {hh : List (Nat × Nat × Nat × Nat)} (S : CallFix p m c cc nL s args Ts own) (hM : vx_Met l y ws rm Pc Qc XC mc ms free) (cw : vx_CSW R s args own index y bytes maxL ret hh ws rm mc ms n) (hp : PreS s H Pc As)
    (hg : g.method = m) (hn : As.length = n) (hsize : g.locals.size = nL) (hstack : g.stack = As.reverse ++ rest) (hW : 2 * g.monitorRoom + (rest.map fun v => v.category).sum ≤ 8) (hdg : decode cc g.pc = .ok (.invokestatic index, 3)) (hf : cells + mc ≤ R.cells ∧ slots + ms ≤ R.slots) :
    vx_Run p l e R s m args below meth c H locs cells slots mc ms g rest (Qc As.toArray) XC free := by
  obtain ⟨⟨hrc, hrs, hfr, hlo, hws, hcw⟩, hcode, hini, hy, hlen, hl, hstt⟩ := cw
  have hK : vx_Back l R p e below s args y 3 8 (PreOf R mc ms Pc) (PostOf Qc mc ms free) (vx_Post XC mc ms free) := vx_backW (hh := hh) (bytes := bytes) (maxL := maxL) (ret := ret) hM hp.1 hrc hrs hfr hlo hws hcw (fun a' U hW => word_at hW (Or.inl (by first | rfl | simp [Cond.onTables, Cond.keeps, Cond.steady])) hini)
  obtain ⟨hx, hb, hml, ho, -⟩ := S
  intro T hT X
  rcases vx_callSX X hx (hh := hh) (bytes := bytes) (maxL := maxL) (ret := ret) ho hl hstt hini hcode hy hK hg (hsize.trans hml.symm) (argsL := As) (rest := rest) (fun sig h => hn.trans (hlen sig h)) hstack hW (by rw [hb]; exact hdg)
    (fun vm₁ hW₁ => ⟨hf.1, hf.2, hp.2 (T.setVm vm₁) hT hW₁⟩) with ⟨v, vm₁, ⟨U', l2, c2, s2⟩, hW₁, X', ⟨g', mk, t, L, e1, e2, hq, h1, hL, h2, h3⟩, st⟩ | ⟨q, vm₁, ⟨U', l2, c2, s2⟩, hW₁, X', ⟨g', mk, t, L, E, ce, e1, e2, hq, hce, hcv, hcl, h1, hL, h2, h3⟩, st⟩
  · dsimp only [Pt.U, Pt.locs, Pt.cells, Pt.slots] at X' e1 e2 h1 h2 h3 st
    subst h1; subst h2; subst h3
    exact Or.inl ⟨v, (T.setVm vm₁).calling g' mk As.toArray, t, U', L, hT, X', hL, e1, e2, hq, st⟩
  · dsimp only [Pt.U, Pt.locs, Pt.cells, Pt.slots] at X' e1 e2 h1 h2 h3 st hcl
    subst h1; subst h2; subst h3
    exact Or.inr ⟨q, (T.setVm vm₁).calling g' mk As.toArray, t, U', L, E, ce, hT, X', hL, e1, e2, hq, hce, hcv, vx_cls hW₁ hcl, st⟩
end
end VXH
theorem vx_ofWH {l : Launch} {y : MethodName} {ws ws' : List Cond} {rm : Room} {Pc : Array Value → State → Prop} {Qc : Array Value → State → Outcome → State → Prop} {XC : String → State → State → Prop} {mc ms : Nat} {free : Addr → Prop} {cc : ByteArray} {maxL : Nat} {ret : Option FieldType} {hh : List (Nat × Nat × Nat × Nat)}
    (hy : plainName y.cls = true) (hw : ws = Cond.codeWith y cc maxL ret hh :: ws')
    (body : ∀ p e s m args below meth c s₁, BodyLoose p l y (headSpec ws rm) cc maxL ret e s m args below meth c s₁ → c.maxLocals = maxL → Pc args s →
      W p l e (headSpec ws rm).room s m args below meth c s.heap [] 0 0 (vx_MQ below Qc XC args s mc ms free) (entryFrame m args maxL)) : vx_Met l y ws rm Pc Qc XC mc ms free := by
  refine MetFree.of_bodyS (code := cc) (maxLocals := maxL) (ret := ret) hy ?_ ?_
  · intro args s m h hn
    obtain ⟨m9, meth, c, hn9, h1, h2, h3, h4, -, h5, h6, -⟩ := Cond.codeWith_spec (atoms_spec (ws := ws) h _ (by rw [hw]; exact List.mem_cons_self))
    cases hn.symm.trans hn9
    exact ⟨meth, c, h1, h2, h3, h4, h5, h6⟩
  · intro p e s m args below meth c s₁ B hml hP _
    have hh0 : s₁.heap = s.heap := by rw [B.state]; rfl
    obtain ⟨t, a1, o, b1, b2, b3⟩ := body p e s m args below meth c s₁ B hml hP s₁ hh0 (Stand.of_body B)
    exact ⟨t, o, a1, b1, b2, b3⟩
/-! ===== END ===== -/
end
section
-- ===== PART A: goes FIRST, ahead of the names: the tables' words, and 'selects' of the private methods out of them =====
/-- a private method of a class that the tables say can be made, by its rows of tables_1 -/
def lw_okq (q : MethodName × Nat) : Prop := (q.1.cls ≠ "java/lang/invoke/MethodHandle" ∧ q.1.cls ≠ "java/lang/invoke/VarHandle") ∧ Cond.instantiable q.1.cls q.2 ∈ tables_1 ∧ Cond.privateMethod q.1 ∈ tables_1 ∧ Cond.instanceMethod q.1 ∈ tables_1
theorem lw_p0 : lw_okq (⟨"WheelProducts", "usePrime", "(JJ)V"⟩, 8) := ⟨⟨by decide +kernel, by decide +kernel⟩, List.mem_of_getElem? (i := 13) (by decide +kernel), List.mem_of_getElem? (i := 25) (by decide +kernel), List.mem_of_getElem? (i := 26) (by decide +kernel)⟩
theorem lw_p1 : lw_okq (⟨"WheelProducts", "rest", "(J)J"⟩, 8) := ⟨⟨by decide +kernel, by decide +kernel⟩, List.mem_of_getElem? (i := 13) (by decide +kernel), List.mem_of_getElem? (i := 63) (by decide +kernel), List.mem_of_getElem? (i := 64) (by decide +kernel)⟩
theorem lw_p2 : lw_okq (⟨"java/lang/Throwable", "fillInStackTrace", "(I)Ljava/lang/Throwable;"⟩, 6) := ⟨⟨by decide +kernel, by decide +kernel⟩, List.mem_of_getElem? (i := 118) (by decide +kernel), List.mem_of_getElem? (i := 116) (by decide +kernel), List.mem_of_getElem? (i := 117) (by decide +kernel)⟩
theorem lw_p3 : lw_okq (⟨"WheelProducts", "leastRoot", "(J)J"⟩, 8) := ⟨⟨by decide +kernel, by decide +kernel⟩, List.mem_of_getElem? (i := 13) (by decide +kernel), List.mem_of_getElem? (i := 148) (by decide +kernel), List.mem_of_getElem? (i := 149) (by decide +kernel)⟩
theorem lw_p4 : lw_okq (⟨"WheelProducts", "findFactors", "(J)I"⟩, 8) := ⟨⟨by decide +kernel, by decide +kernel⟩, List.mem_of_getElem? (i := 13) (by decide +kernel), List.mem_of_getElem? (i := 152) (by decide +kernel), List.mem_of_getElem? (i := 153) (by decide +kernel)⟩
theorem lw_p5 : lw_okq (⟨"WheelProducts", "comesToOneOnlyAtTheEnd", "(JJI)Z"⟩, 8) := ⟨⟨by decide +kernel, by decide +kernel⟩, List.mem_of_getElem? (i := 13) (by decide +kernel), List.mem_of_getElem? (i := 160) (by decide +kernel), List.mem_of_getElem? (i := 161) (by decide +kernel)⟩
theorem lw_p6 : lw_okq (⟨"WheelProducts", "inverseOf", "(J)J"⟩, 8) := ⟨⟨by decide +kernel, by decide +kernel⟩, List.mem_of_getElem? (i := 13) (by decide +kernel), List.mem_of_getElem? (i := 184) (by decide +kernel), List.mem_of_getElem? (i := 185) (by decide +kernel)⟩
theorem lw_p7 : lw_okq (⟨"WheelProducts", "turnBackward", "([JI)V"⟩, 8) := ⟨⟨by decide +kernel, by decide +kernel⟩, List.mem_of_getElem? (i := 13) (by decide +kernel), List.mem_of_getElem? (i := 247) (by decide +kernel), List.mem_of_getElem? (i := 248) (by decide +kernel)⟩
theorem lw_p8 : lw_okq (⟨"WheelProducts", "turnForward", "([JI)V"⟩, 8) := ⟨⟨by decide +kernel, by decide +kernel⟩, List.mem_of_getElem? (i := 13) (by decide +kernel), List.mem_of_getElem? (i := 251) (by decide +kernel), List.mem_of_getElem? (i := 252) (by decide +kernel)⟩
theorem lw_p9 : lw_okq (⟨"WheelProducts", "joinHalves", "([JIII)V"⟩, 8) := ⟨⟨by decide +kernel, by decide +kernel⟩, List.mem_of_getElem? (i := 13) (by decide +kernel), List.mem_of_getElem? (i := 264) (by decide +kernel), List.mem_of_getElem? (i := 265) (by decide +kernel)⟩
theorem lw_p10 : lw_okq (⟨"WheelProducts", "multiplyRows", "([J[J[JI)V"⟩, 8) := ⟨⟨by decide +kernel, by decide +kernel⟩, List.mem_of_getElem? (i := 13) (by decide +kernel), List.mem_of_getElem? (i := 295) (by decide +kernel), List.mem_of_getElem? (i := 296) (by decide +kernel)⟩
theorem lw_p11 : lw_okq (⟨"WheelProducts", "multiplyWords", "([JI[JI)V"⟩, 8) := ⟨⟨by decide +kernel, by decide +kernel⟩, List.mem_of_getElem? (i := 13) (by decide +kernel), List.mem_of_getElem? (i := 347) (by decide +kernel), List.mem_of_getElem? (i := 348) (by decide +kernel)⟩
theorem lw_p12 : lw_okq (⟨"WheelProducts", "addWords", "([J[J)J"⟩, 8) := ⟨⟨by decide +kernel, by decide +kernel⟩, List.mem_of_getElem? (i := 13) (by decide +kernel), List.mem_of_getElem? (i := 358) (by decide +kernel), List.mem_of_getElem? (i := 359) (by decide +kernel)⟩
theorem lw_p13 : lw_okq (⟨"WheelProductsModel", "rest", "(J)J"⟩, 8) := ⟨⟨by decide +kernel, by decide +kernel⟩, List.mem_of_getElem? (i := 363) (by decide +kernel), List.mem_of_getElem? (i := 422) (by decide +kernel), List.mem_of_getElem? (i := 423) (by decide +kernel)⟩
theorem lw_p14 : lw_okq (⟨"WheelProductsModel", "lengthOf", "(I)I"⟩, 8) := ⟨⟨by decide +kernel, by decide +kernel⟩, List.mem_of_getElem? (i := 363) (by decide +kernel), List.mem_of_getElem? (i := 449) (by decide +kernel), List.mem_of_getElem? (i := 450) (by decide +kernel)⟩
theorem lw_p15 : lw_okq (⟨"WheelProductsModel", "sizeOf", "(I)I"⟩, 8) := ⟨⟨by decide +kernel, by decide +kernel⟩, List.mem_of_getElem? (i := 363) (by decide +kernel), List.mem_of_getElem? (i := 478) (by decide +kernel), List.mem_of_getElem? (i := 479) (by decide +kernel)⟩
def lw_privs_1 : List (MethodName × Nat) := [(⟨"WheelProducts", "usePrime", "(JJ)V"⟩, 8), (⟨"WheelProducts", "rest", "(J)J"⟩, 8), (⟨"java/lang/Throwable", "fillInStackTrace", "(I)Ljava/lang/Throwable;"⟩, 6), (⟨"WheelProducts", "leastRoot", "(J)J"⟩, 8), (⟨"WheelProducts", "findFactors", "(J)I"⟩, 8), (⟨"WheelProducts", "comesToOneOnlyAtTheEnd", "(JJI)Z"⟩, 8), (⟨"WheelProducts", "inverseOf", "(J)J"⟩, 8), (⟨"WheelProducts", "turnBackward", "([JI)V"⟩, 8), (⟨"WheelProducts", "turnForward", "([JI)V"⟩, 8), (⟨"WheelProducts", "joinHalves", "([JIII)V"⟩, 8), (⟨"WheelProducts", "multiplyRows", "([J[J[JI)V"⟩, 8), (⟨"WheelProducts", "multiplyWords", "([JI[JI)V"⟩, 8), (⟨"WheelProducts", "addWords", "([J[J)J"⟩, 8), (⟨"WheelProductsModel", "rest", "(J)J"⟩, 8), (⟨"WheelProductsModel", "lengthOf", "(I)I"⟩, 8), (⟨"WheelProductsModel", "sizeOf", "(I)I"⟩, 8)]
theorem lw_r1 : ∀ q ∈ lw_privs_1, lw_okq q := List.forall_mem_cons.mpr ⟨lw_p0, List.forall_mem_cons.mpr ⟨lw_p1, List.forall_mem_cons.mpr ⟨lw_p2, List.forall_mem_cons.mpr ⟨lw_p3, List.forall_mem_cons.mpr ⟨lw_p4, List.forall_mem_cons.mpr ⟨lw_p5, List.forall_mem_cons.mpr ⟨lw_p6, List.forall_mem_cons.mpr ⟨lw_p7, List.forall_mem_cons.mpr ⟨lw_p8, List.forall_mem_cons.mpr ⟨lw_p9, List.forall_mem_cons.mpr ⟨lw_p10, List.forall_mem_cons.mpr ⟨lw_p11, List.forall_mem_cons.mpr ⟨lw_p12, List.forall_mem_cons.mpr ⟨lw_p13, List.forall_mem_cons.mpr ⟨lw_p14, List.forall_mem_cons.mpr ⟨lw_p15, fun _ h => absurd h List.not_mem_nil⟩⟩⟩⟩⟩⟩⟩⟩⟩⟩⟩⟩⟩⟩⟩⟩
theorem lw_p16 : lw_okq (⟨"WheelProductsModel", "clearSums", "()V"⟩, 8) := ⟨⟨by decide +kernel, by decide +kernel⟩, List.mem_of_getElem? (i := 363) (by decide +kernel), List.mem_of_getElem? (i := 486) (by decide +kernel), List.mem_of_getElem? (i := 487) (by decide +kernel)⟩
theorem lw_p17 : lw_okq (⟨"WheelProductsModel", "take", "(I)I"⟩, 8) := ⟨⟨by decide +kernel, by decide +kernel⟩, List.mem_of_getElem? (i := 363) (by decide +kernel), List.mem_of_getElem? (i := 490) (by decide +kernel), List.mem_of_getElem? (i := 491) (by decide +kernel)⟩
def lw_privs_2 : List (MethodName × Nat) := [(⟨"WheelProductsModel", "clearSums", "()V"⟩, 8), (⟨"WheelProductsModel", "take", "(I)I"⟩, 8)]
theorem lw_r2 : ∀ q ∈ lw_privs_2, lw_okq q := List.forall_mem_cons.mpr ⟨lw_p16, List.forall_mem_cons.mpr ⟨lw_p17, fun _ h => absurd h List.not_mem_nil⟩⟩
def lw_privs : List (MethodName × Nat) := lw_privs_1 ++ (lw_privs_2)
def lw_tbl : List Cond := k2_sels lw_privs ++ tables_1
theorem lw_privs_ok : ∀ q ∈ lw_privs, lw_okq q := by
  show ∀ q ∈ lw_privs_1 ++ (lw_privs_2), lw_okq q
  exact List.forall_mem_append.mpr ⟨lw_r1, lw_r2⟩
end
section
/-! ===== the indexed world: N cells; cell k lies at ad k and holds ct k ===== -/
def ix (N : Nat) (ad : Nat → Nat) (ct : Nat → va_E) : va_W := (List.range N).map (fun k => (ad k, ct k))
theorem ix_at {N : Nat} {ad : Nat → Nat} {ct : Nat → va_E} {k : Nat} (h : k < N) : (ix N ad ct)[k]? = some (ad k, ct k) := by
  unfold ix; rw [List.getElem?_map, List.getElem?_range h]; rfl
theorem ix_no {N : Nat} {ad : Nat → Nat} {ct : Nat → va_E} {k : Nat} (h : N ≤ k) : (ix N ad ct)[k]? = none := by
  unfold ix; exact List.getElem?_eq_none (by rw [List.length_map, List.length_range]; exact h)
theorem ix_e {N : Nat} {ad : Nat → Nat} {ct : Nat → va_E} {k : Nat} {e : va_E} (h : k < N) (he : ct k = e) : (ix N ad ct)[k]? = some (ad k, e) := by rw [ix_at h, he]
theorem ix_lt {N : Nat} {ad : Nat → Nat} {ct : Nat → va_E} {k : Nat} {q : Nat × va_E} (h : (ix N ad ct)[k]? = some q) : k < N := by
  rcases Nat.lt_or_ge k N with h1 | h1
  · exact h1
  · rw [ix_no h1] at h; cases h
theorem ix_set {N : Nat} {ad : Nat → Nat} {ct : Nat → va_E} {k : Nat} {e : va_E} : (ix N ad ct).set k (ad k, e) = ix N ad (va_up ct k e) := by
  apply List.ext_getElem?
  intro j
  rw [List.getElem?_set]
  by_cases hj : j < N
  · rw [ix_at (ct := va_up ct k e) hj]
    by_cases hk : k = j
    · subst hk
      have hl : k < (ix N ad ct).length := by unfold ix; rw [List.length_map, List.length_range]; exact hj
      rw [if_pos rfl, if_pos hl, va_up_self]
    · rw [if_neg hk, ix_at hj, va_up_ne ct e (fun h => hk h.symm)]
  · rw [ix_no (ct := va_up ct k e) (by omega)]
    by_cases hk : k = j
    · subst hk
      have hl : ¬ k < (ix N ad ct).length := by unfold ix; rw [List.length_map, List.length_range]; exact hj
      rw [if_pos rfl, if_neg hl]
    · rw [if_neg hk, ix_no (by omega)]
theorem ix_D {A : Nat → Prop} {N : Nat} {ad : Nat → Nat} {ct ct' : Nat → va_E} (h : va_D A (ix N ad ct)) : va_D A (ix N ad ct') := by
  refine ⟨fun i j p q hi hj hpq => ?_, fun k q hk => ?_⟩
  · have h1 := ix_lt hi
    have h2 := ix_lt hj
    rw [ix_at h1] at hi
    rw [ix_at h2] at hj
    cases hi; cases hj
    exact h.1 i j _ _ (ix_at h1) (ix_at h2) hpq
  · have h1 := ix_lt hk
    rw [ix_at h1] at hk
    cases hk
    exact h.2 k (ad k, ct k) (ix_at h1)
theorem ix_inj {A : Nat → Prop} {N : Nat} {ad : Nat → Nat} {ct : Nat → va_E} (h : va_D A (ix N ad ct)) {i j : Nat} (hi : i < N) (hj : j < N) (e : ad i = ad j) : i = j := h.1 i j _ _ (ix_at hi) (ix_at hj) e
/-- the addresses of the world and all new ones: what a method may write -/
def ixA (N : Nat) (ad : Nat → Nat) (sz : Nat) : Nat → Prop := fun q => (∃ k, k < N ∧ q = ad k) ∨ sz ≤ q
theorem ixA_D {A : Nat → Prop} {N : Nat} {ad : Nat → Nat} {ct : Nat → va_E} {sz : Nat} (h : va_D A (ix N ad ct)) : va_D (ixA N ad sz) (ix N ad ct) :=
  ⟨h.1, fun k q hk => by have h1 := ix_lt hk; rw [ix_at h1] at hk; cases hk; exact Or.inl ⟨k, h1, rfl⟩⟩
theorem ixA_up {A0 : Nat → Prop} {N : Nat} {ad : Nat → Nat} {ct : Nat → va_E} {H0 H : Heap} {locs : List Loc} (hD : va_D A0 (ix N ad ct)) (hS : va_S A0 H0 H locs) (hA : ∀ q, H0.size ≤ q → A0 q) : ∀ q, ixA N ad H.size q → A0 q := by
  intro q h
  rcases h with ⟨k, hk, rfl⟩ | h
  · exact hD.2 k _ (ix_at hk)
  · exact hA q (Nat.le_trans hS.1 h)
/-! ===== locals: the first row of an index counts; none: nothing is known ===== -/
abbrev gLv : Type := List (Nat × Option Value)
def lvq : gLv → Nat → Option Value
  | [], _ => none
  | q :: t, i => cond (Nat.beq q.1 i) q.2 (lvq t i)
def lvc (lv : gLv) : Nat → Bool
  | 0 => true
  | i + 1 => match lvq lv i with
    | some v => v.category == 1
    | none => true
def lvh (ls : Array Slot) (nL : Nat) (lv : gLv) : Prop := ls.size = nL ∧ lv_wf ls ∧ ∀ i v, lvq lv i = some v → ls[i]? = some (.val v)
theorem lvq_hd (i : Nat) (o : Option Value) (t : gLv) : lvq ((i, o) :: t) i = o := by simp [lvq]
theorem lvq_tl {i j : Nat} (o : Option Value) (t : gLv) (h : j ≠ i) : lvq ((i, o) :: t) j = lvq t j := by
  have : Nat.beq i j = false := by
    cases hb : Nat.beq i j
    · rfl
    · exact absurd (Nat.eq_of_beq_eq_true hb).symm h
  simp [lvq, this]
theorem lvh_st1 {ls : Array Slot} {nL : Nat} {lv : gLv} {i : Nat} {v : Value} (h : lvh ls nL lv) (hi : i < nL) (hc : v.category = 1) (hp : lvc lv i = true) :
    ∃ ls', storeLocals ls i v = some ls' ∧ lvh ls' nL ((i, some v) :: lv) := by
  obtain ⟨h1, h2, h3⟩ := h
  obtain ⟨ls', e0, k1, k2, k3⟩ := lv_store1 (ls := ls) (nL := nL) (l := []) (v := v) ⟨h1, h2, fun q hq => nomatch hq⟩ hi hc
  refine ⟨ls', e0, k1, k2, fun j w hw => ?_⟩
  by_cases hj : j = i
  · subst hj
    rw [lvq_hd] at hw
    cases hw
    exact k3 (j, v) List.mem_cons_self
  · rw [lvq_tl _ _ hj] at hw
    obtain ⟨ls2, e2, m1, m2, m3⟩ := lv_store1 (ls := ls) (nL := nL) (l := [(j, w)]) (v := v) ⟨h1, h2, fun q hq => by rw [List.mem_singleton] at hq; subst hq; exact h3 j w hw⟩ hi hc
    have : ls2 = ls' := Option.some.inj (e2.symm.trans e0)
    subst this
    refine m3 (j, w) (List.mem_cons_of_mem _ (List.mem_filter.mpr ⟨List.mem_singleton.mpr rfl, ?_⟩))
    have a1 : (j == i) = false := by simp [hj]
    have a2 : (j + 1 == i && w.category == 2) = false := by
      by_cases hji : j + 1 = i
      · subst hji
        simp only [lvc, hw] at hp
        have := eq_of_beq hp
        simp [this]
      · simp [hji]
    simp [a1, a2]
theorem lvh_st2 {ls : Array Slot} {nL : Nat} {lv : gLv} {i : Nat} {v : Value} (h : lvh ls nL lv) (hi : i + 1 < nL) (hc : v.category = 2) (hp : lvc lv i = true) :
    ∃ ls', storeLocals ls i v = some ls' ∧ lvh ls' nL ((i, some v) :: (i + 1, none) :: lv) := by
  obtain ⟨h1, h2, h3⟩ := h
  obtain ⟨ls', e0, k1, k2, k3⟩ := lv_store2 (ls := ls) (nL := nL) (l := []) (v := v) ⟨h1, h2, fun q hq => nomatch hq⟩ hi hc
  refine ⟨ls', e0, k1, k2, fun j w hw => ?_⟩
  by_cases hj : j = i
  · subst hj
    rw [lvq_hd] at hw
    cases hw
    exact k3 (j, v) List.mem_cons_self
  · rw [lvq_tl _ _ hj] at hw
    by_cases hj2 : j = i + 1
    · subst hj2
      rw [lvq_hd] at hw
      cases hw
    rw [lvq_tl _ _ hj2] at hw
    obtain ⟨ls2, e2, m1, m2, m3⟩ := lv_store2 (ls := ls) (nL := nL) (l := [(j, w)]) (v := v) ⟨h1, h2, fun q hq => by rw [List.mem_singleton] at hq; subst hq; exact h3 j w hw⟩ hi hc
    have : ls2 = ls' := Option.some.inj (e2.symm.trans e0)
    subst this
    refine m3 (j, w) (List.mem_cons_of_mem _ (List.mem_filter.mpr ⟨List.mem_singleton.mpr rfl, ?_⟩))
    have a1 : (j == i) = false := by simp [hj]
    have a3 : (j == i + 1) = false := by simp [hj2]
    have a2 : (j + 1 == i && w.category == 2) = false := by
      by_cases hji : j + 1 = i
      · subst hji
        simp only [lvc, hw] at hp
        have := eq_of_beq hp
        simp [this]
      · simp [hji]
    simp [a1, a2, a3]
/-- all rows of lv' are rows of lv -/
def lvp (lv : gLv) : List (Nat × Option Value) → Prop
  | [] => True
  | q :: t => (q.2 = none ∨ lvq lv q.1 = q.2) ∧ lvp lv t
theorem lvp_q {lv : gLv} : ∀ {lv' : gLv}, lvp lv lv' → ∀ i v, lvq lv' i = some v → lvq lv i = some v
  | [], _, i, v, h => by cases h
  | q :: t, hp, i, v, h => by
    by_cases hq : i = q.1
    · subst hq
      have h' : q.2 = some v := by
        have := lvq_hd q.1 q.2 t
        exact this.symm.trans h
      rcases hp.1 with h0 | h0
      · rw [h0] at h'; cases h'
      · rw [h0, h']
    · have h2 : lvq t i = some v := by
        have := lvq_tl (i := q.1) (j := i) q.2 t hq
        exact this.symm.trans h
      exact lvp_q hp.2 i v h2
theorem lvh_p {ls : Array Slot} {nL : Nat} {lv lv' : gLv} (h : lvh ls nL lv) (hp : lvp lv lv') : lvh ls nL lv' := ⟨h.1, h.2.1, fun i v hv => h.2.2 i v (lvp_q hp i v hv)⟩
def lva : Nat → List Value → gLv
  | _, [] => []
  | i, v :: vs => (i, some v) :: lva (if v.category = 2 then i + 2 else i + 1) vs
theorem lva_mem : ∀ (vs : List Value) (k i : Nat) (v : Value), lvq (lva k vs) i = some v → (i, v) ∈ lv_args k vs
  | [], k, i, v, h => by cases h
  | w :: ws, k, i, v, h => by
    by_cases hk : i = k
    · subst hk
      have := lvq_hd i (some w) (lva (if w.category = 2 then i + 2 else i + 1) ws)
      have h2 : some w = some v := this.symm.trans h
      cases h2
      exact List.mem_cons_self
    · have := lvq_tl (i := k) (j := i) (some w) (lva (if w.category = 2 then k + 2 else k + 1) ws) hk
      exact List.mem_cons_of_mem _ (lva_mem ws _ i v (this.symm.trans h))
theorem lva_h {ls : Array Slot} {nL : Nat} {vs : List Value} (h : lv_has ls nL (lv_args 0 vs)) : lvh ls nL (lva 0 vs) := ⟨h.1, h.2.1, fun i v hv => h.2.2 (i, v) (lva_mem vs 0 i v hv)⟩
/-! ===== the machine where a method stands, as one thing; the walk over the indexed world ===== -/
abbrev gM : Type := Program × Launch × Env × Room × State × MethodId × Array Value × List Frame × Method × Code
abbrev gl (M : gM) : Launch := M.2.1
abbrev ge (M : gM) : Env := M.2.2.1
abbrev gR (M : gM) : Room := M.2.2.2.1
abbrev gs (M : gM) : State := M.2.2.2.2.1
abbrev gm (M : gM) : MethodId := M.2.2.2.2.2.1
abbrev ga (M : gM) : Array Value := M.2.2.2.2.2.2.1
abbrev gb (M : gM) : List Frame := M.2.2.2.2.2.2.2.1
abbrev gt (M : gM) : Method := M.2.2.2.2.2.2.2.2.1
abbrev gc (M : gM) : Code := M.2.2.2.2.2.2.2.2.2
def gW (M : gM) (D : va_G) (cl : List vw_C) (A : Nat → Prop) (nL cells slots : Nat) (Q : State → Prop) (N : Nat) (ad : Nat → Nat) (pc : Nat) (lv : gLv) (st : List Value) (ct : Nat → va_E) : Prop :=
  ∀ (H : Heap) (locs : List Loc) (ls : Array Slot), va_P D cl (ix N ad ct) H → va_D A (ix N ad ct) → va_S A (gs M).heap H locs → lvh ls nL lv →
    W M.1 (gl M) (ge M) (gR M) (gs M) (gm M) (ga M) (gb M) (gt M) (gc M) H locs cells slots Q (F0 (gm M) pc ls st)
/-- what stays while a method runs -/
def gX (M : gM) (cc : ByteArray) (own : String) (Ts : List Cond) (tys : List (ClassId × FieldType)) (D : va_G) (cl : List vw_C) (A : Nat → Prop) (nL : Nat) : Prop :=
  M.1.tables.exec = Jvm.exec ∧ (gc M).code = cc ∧ (gc M).maxLocals = nL ∧ (gs M).vm.findClass own = some (gm M).cls ∧ (∀ w ∈ Ts, w.before (ga M) (gs M) = true) ∧ va_K D cl tys (gs M) ∧ (∀ q, (gs M).heap.size ≤ q → A q) ∧ (gt M).locks = false
section
variable {M : gM} {cc : ByteArray} {own : String} {Ts : List Cond} {tys : List (ClassId × FieldType)} {D : va_G} {cl : List vw_C} {A : Nat → Prop} {nL cells slots : Nat} {Q : State → Prop} {N : Nat} {ad : Nat → Nat} {pc : Nat} {lv : gLv} {rest : List Value} {ct : Nat → va_E}
theorem g_lv {lv' : gLv} {st : List Value} (hp : lvp lv lv') (k : gW M D cl A nL cells slots Q N ad pc lv' st ct) : gW M D cl A nL cells slots Q N ad pc lv st ct := fun H locs ls hP hD hS hl => k H locs ls hP hD hS (lvh_p hl hp)
theorem g_ti {x : Int32} (y : Int32) (h : x = y) (k : gW M D cl A nL cells slots Q N ad pc lv (.int y :: rest) ct) : gW M D cl A nL cells slots Q N ad pc lv (.int x :: rest) ct := h ▸ k
theorem g_tl {x : Int64} (y : Int64) (h : x = y) (k : gW M D cl A nL cells slots Q N ad pc lv (.long y :: rest) ct) : gW M D cl A nL cells slots Q N ad pc lv (.long x :: rest) ct := h ▸ k
theorem g_st {st st' : List Value} (h : st = st') (k : gW M D cl A nL cells slots Q N ad pc lv st' ct) : gW M D cl A nL cells slots Q N ad pc lv st ct := h ▸ k
theorem g_ct {ct' : Nat → va_E} {st : List Value} (h : ct = ct') (k : gW M D cl A nL cells slots Q N ad pc lv st ct') : gW M D cl A nL cells slots Q N ad pc lv st ct := h ▸ k
theorem g_wd {k n : Nat} {st : List Value} (h1 : cells ≤ k) (h2 : slots ≤ n) (kk : gW M D cl A nL k n Q N ad pc lv st ct) : gW M D cl A nL cells slots Q N ad pc lv st ct := fun H locs ls hP hD hS hl => W.widen h1 h2 (kk H locs ls hP hD hS hl)

theorem g_iconst (C : gX M cc own Ts tys D cl A nL) {n : Int} (v : Int32) (d : decode cc pc = .ok (.iconst n, 1)) (hv : Int32.ofInt n = v := by decide) (k : gW M D cl A nL cells slots Q N ad (pc + 1) lv (.int v :: rest) ct) : gW M D cl A nL cells slots Q N ad pc lv rest ct := by
  intro H locs ls hP hD hS hl
  exact lv_iconst C.1 C.2.1 d hv (k H locs ls hP hD hS hl)
theorem g_bipush (C : gX M cc own Ts tys D cl A nL) {n : Int} (v : Int32) (d : decode cc pc = .ok (.bipush n, 2)) (hv : (Int8.ofInt n).toInt32 = v := by decide) (k : gW M D cl A nL cells slots Q N ad (pc + 2) lv (.int v :: rest) ct) : gW M D cl A nL cells slots Q N ad pc lv rest ct := by
  intro H locs ls hP hD hS hl
  exact lv_bipush C.1 C.2.1 d hv (k H locs ls hP hD hS hl)
theorem g_sipush (C : gX M cc own Ts tys D cl A nL) {n : Int} (v : Int32) (d : decode cc pc = .ok (.sipush n, 3)) (hv : (Int16.ofInt n).toInt32 = v := by decide) (k : gW M D cl A nL cells slots Q N ad (pc + 3) lv (.int v :: rest) ct) : gW M D cl A nL cells slots Q N ad pc lv rest ct := by
  intro H locs ls hP hD hS hl
  exact lv_sipush C.1 C.2.1 d hv (k H locs ls hP hD hS hl)
theorem g_lconst (C : gX M cc own Ts tys D cl A nL) {n : Fin 2} (v : Int64) (d : decode cc pc = .ok (.lconst n, 1)) (hv : Int64.ofNat (n : Nat) = v := by decide) (k : gW M D cl A nL cells slots Q N ad (pc + 1) lv (.long v :: rest) ct) : gW M D cl A nL cells slots Q N ad pc lv rest ct := by
  intro H locs ls hP hD hS hl
  exact lv_lconst C.1 C.2.1 d hv (k H locs ls hP hD hS hl)
theorem g_iload_n (C : gX M cc own Ts tys D cl A nL) {i : Fin 4} {x : Int32} (d : decode cc pc = .ok (.iload_n i, 1)) (h : lvq lv i = some (.int x) := by rfl) (k : gW M D cl A nL cells slots Q N ad (pc + 1) lv (.int x :: rest) ct) : gW M D cl A nL cells slots Q N ad pc lv rest ct := by
  intro H locs ls hP hD hS hl
  exact lv_iload_n C.1 C.2.1 d rfl (hl.2.2 _ _ h) (k H locs ls hP hD hS hl)
theorem g_iload (C : gX M cc own Ts tys D cl A nL) {i : Nat} {x : Int32} (d : decode cc pc = .ok (.iload i, 2)) (h : lvq lv i = some (.int x) := by rfl) (k : gW M D cl A nL cells slots Q N ad (pc + 2) lv (.int x :: rest) ct) : gW M D cl A nL cells slots Q N ad pc lv rest ct := by
  intro H locs ls hP hD hS hl
  exact lv_iload C.1 C.2.1 d (hl.2.2 _ _ h) (k H locs ls hP hD hS hl)
theorem g_lload_n (C : gX M cc own Ts tys D cl A nL) {i : Fin 4} {x : Int64} (d : decode cc pc = .ok (.lload_n i, 1)) (h : lvq lv i = some (.long x) := by rfl) (k : gW M D cl A nL cells slots Q N ad (pc + 1) lv (.long x :: rest) ct) : gW M D cl A nL cells slots Q N ad pc lv rest ct := by
  intro H locs ls hP hD hS hl
  exact lv_lload_n C.1 C.2.1 d rfl (hl.2.2 _ _ h) (k H locs ls hP hD hS hl)
theorem g_lload (C : gX M cc own Ts tys D cl A nL) {i : Nat} {x : Int64} (d : decode cc pc = .ok (.lload i, 2)) (h : lvq lv i = some (.long x) := by rfl) (k : gW M D cl A nL cells slots Q N ad (pc + 2) lv (.long x :: rest) ct) : gW M D cl A nL cells slots Q N ad pc lv rest ct := by
  intro H locs ls hP hD hS hl
  exact lv_lload C.1 C.2.1 d (hl.2.2 _ _ h) (k H locs ls hP hD hS hl)
theorem g_aload_n (C : gX M cc own Ts tys D cl A nL) {i : Fin 4} {x : Nat} (d : decode cc pc = .ok (.aload_n i, 1)) (h : lvq lv i = some (.ref x) := by rfl) (k : gW M D cl A nL cells slots Q N ad (pc + 1) lv (.ref x :: rest) ct) : gW M D cl A nL cells slots Q N ad pc lv rest ct := by
  intro H locs ls hP hD hS hl
  exact lv_aload_n C.1 C.2.1 d rfl (hl.2.2 _ _ h) (k H locs ls hP hD hS hl)
theorem g_aload (C : gX M cc own Ts tys D cl A nL) {i : Nat} {x : Nat} (d : decode cc pc = .ok (.aload i, 2)) (h : lvq lv i = some (.ref x) := by rfl) (k : gW M D cl A nL cells slots Q N ad (pc + 2) lv (.ref x :: rest) ct) : gW M D cl A nL cells slots Q N ad pc lv rest ct := by
  intro H locs ls hP hD hS hl
  exact lv_aload C.1 C.2.1 d (hl.2.2 _ _ h) (k H locs ls hP hD hS hl)
theorem g_istore_n (C : gX M cc own Ts tys D cl A nL) {i : Fin 4} {x : Int32} (d : decode cc pc = .ok (.istore_n i, 1)) (hi : (i : Nat) < nL := by decide) (hc : lvc lv i = true := by rfl) (k : gW M D cl A nL cells slots Q N ad (pc + 1) (((i : Nat), some (.int x)) :: lv) rest ct) : gW M D cl A nL cells slots Q N ad pc lv (.int x :: rest) ct := by
  intro H locs ls hP hD hS hl
  obtain ⟨ls', e', h'⟩ := lvh_st1 (v := .int x) hl hi rfl hc
  intro T hT X
  obtain ⟨t, a, b⟩ := k H locs ls' hP hD hS h' T hT X
  have hx := C.1
  have hb := C.2.1
  refine ⟨t, ?_, b⟩
  jvm_step X.here [X.here.top, ↓top_set X.here.top, hx, hb, d, e']
  exact a
theorem g_istore (C : gX M cc own Ts tys D cl A nL) {i : Nat} {x : Int32} (d : decode cc pc = .ok (.istore i, 2)) (hi : (i : Nat) < nL := by decide) (hc : lvc lv i = true := by rfl) (k : gW M D cl A nL cells slots Q N ad (pc + 2) (((i : Nat), some (.int x)) :: lv) rest ct) : gW M D cl A nL cells slots Q N ad pc lv (.int x :: rest) ct := by
  intro H locs ls hP hD hS hl
  obtain ⟨ls', e', h'⟩ := lvh_st1 (v := .int x) hl hi rfl hc
  intro T hT X
  obtain ⟨t, a, b⟩ := k H locs ls' hP hD hS h' T hT X
  have hx := C.1
  have hb := C.2.1
  refine ⟨t, ?_, b⟩
  jvm_step X.here [X.here.top, ↓top_set X.here.top, hx, hb, d, e']
  exact a
theorem g_lstore_n (C : gX M cc own Ts tys D cl A nL) {i : Fin 4} {x : Int64} (d : decode cc pc = .ok (.lstore_n i, 1)) (hi : (i : Nat) + 1 < nL := by decide) (hc : lvc lv i = true := by rfl) (k : gW M D cl A nL cells slots Q N ad (pc + 1) (((i : Nat), some (.long x)) :: ((i : Nat) + 1, none) :: lv) rest ct) : gW M D cl A nL cells slots Q N ad pc lv (.long x :: rest) ct := by
  intro H locs ls hP hD hS hl
  obtain ⟨ls', e', h'⟩ := lvh_st2 (v := .long x) hl hi rfl hc
  intro T hT X
  obtain ⟨t, a, b⟩ := k H locs ls' hP hD hS h' T hT X
  have hx := C.1
  have hb := C.2.1
  refine ⟨t, ?_, b⟩
  jvm_step X.here [X.here.top, ↓top_set X.here.top, hx, hb, d, e']
  exact a
theorem g_lstore (C : gX M cc own Ts tys D cl A nL) {i : Nat} {x : Int64} (d : decode cc pc = .ok (.lstore i, 2)) (hi : (i : Nat) + 1 < nL := by decide) (hc : lvc lv i = true := by rfl) (k : gW M D cl A nL cells slots Q N ad (pc + 2) (((i : Nat), some (.long x)) :: ((i : Nat) + 1, none) :: lv) rest ct) : gW M D cl A nL cells slots Q N ad pc lv (.long x :: rest) ct := by
  intro H locs ls hP hD hS hl
  obtain ⟨ls', e', h'⟩ := lvh_st2 (v := .long x) hl hi rfl hc
  intro T hT X
  obtain ⟨t, a, b⟩ := k H locs ls' hP hD hS h' T hT X
  have hx := C.1
  have hb := C.2.1
  refine ⟨t, ?_, b⟩
  jvm_step X.here [X.here.top, ↓top_set X.here.top, hx, hb, d, e']
  exact a
theorem g_astore_n (C : gX M cc own Ts tys D cl A nL) {i : Fin 4} {x : Nat} (d : decode cc pc = .ok (.astore_n i, 1)) (hi : (i : Nat) < nL := by decide) (hc : lvc lv i = true := by rfl) (k : gW M D cl A nL cells slots Q N ad (pc + 1) (((i : Nat), some (.ref x)) :: lv) rest ct) : gW M D cl A nL cells slots Q N ad pc lv (.ref x :: rest) ct := by
  intro H locs ls hP hD hS hl
  obtain ⟨ls', e', h'⟩ := lvh_st1 (v := .ref x) hl hi rfl hc
  intro T hT X
  obtain ⟨t, a, b⟩ := k H locs ls' hP hD hS h' T hT X
  have hx := C.1
  have hb := C.2.1
  refine ⟨t, ?_, b⟩
  jvm_step X.here [X.here.top, ↓top_set X.here.top, hx, hb, d, e', Value.isRef]
  exact a
theorem g_astore (C : gX M cc own Ts tys D cl A nL) {i : Nat} {x : Nat} (d : decode cc pc = .ok (.astore i, 2)) (hi : (i : Nat) < nL := by decide) (hc : lvc lv i = true := by rfl) (k : gW M D cl A nL cells slots Q N ad (pc + 2) (((i : Nat), some (.ref x)) :: lv) rest ct) : gW M D cl A nL cells slots Q N ad pc lv (.ref x :: rest) ct := by
  intro H locs ls hP hD hS hl
  obtain ⟨ls', e', h'⟩ := lvh_st1 (v := .ref x) hl hi rfl hc
  intro T hT X
  obtain ⟨t, a, b⟩ := k H locs ls' hP hD hS h' T hT X
  have hx := C.1
  have hb := C.2.1
  refine ⟨t, ?_, b⟩
  jvm_step X.here [X.here.top, ↓top_set X.here.top, hx, hb, d, e', Value.isRef]
  exact a
theorem g_iinc (C : gX M cc own Ts tys D cl A nL) {i : Nat} {n : Int} {x : Int32} (v : Int32) (d : decode cc pc = .ok (.iinc i n, 3)) (hv : x + Int32.ofInt n = v) (h : lvq lv i = some (.int x) := by rfl) (hi : i < nL := by decide) (hc : lvc lv i = true := by rfl) (k : gW M D cl A nL cells slots Q N ad (pc + 3) ((i, some (.int v)) :: lv) rest ct) : gW M D cl A nL cells slots Q N ad pc lv rest ct := by
  intro H locs ls hP hD hS hl
  subst hv
  have hg := hl.2.2 _ _ h
  obtain ⟨ls', e', h'⟩ := lvh_st1 (v := .int (x + Int32.ofInt n)) hl hi rfl hc
  intro T hT X
  obtain ⟨t, a, b⟩ := k H locs ls' hP hD hS h' T hT X
  have hx := C.1
  have hb := C.2.1
  refine ⟨t, ?_, b⟩
  jvm_step X.here [X.here.top, ↓top_set X.here.top, hx, hb, d, hg, e']
  exact a
theorem g_iadd (C : gX M cc own Ts tys D cl A nL) {x y : Int32} (d : decode cc pc = .ok (.iadd, 1)) (k : gW M D cl A nL cells slots Q N ad (pc + 1) lv (.int (x + y) :: rest) ct) : gW M D cl A nL cells slots Q N ad pc lv (.int y :: .int x :: rest) ct := by
  intro H locs ls hP hD hS hl
  exact lv_iadd C.1 C.2.1 d (k H locs ls hP hD hS hl)
theorem g_isub (C : gX M cc own Ts tys D cl A nL) {x y : Int32} (d : decode cc pc = .ok (.isub, 1)) (k : gW M D cl A nL cells slots Q N ad (pc + 1) lv (.int (x - y) :: rest) ct) : gW M D cl A nL cells slots Q N ad pc lv (.int y :: .int x :: rest) ct := by
  intro H locs ls hP hD hS hl
  exact lv_isub C.1 C.2.1 d (k H locs ls hP hD hS hl)
theorem g_imul (C : gX M cc own Ts tys D cl A nL) {x y : Int32} (d : decode cc pc = .ok (.imul, 1)) (k : gW M D cl A nL cells slots Q N ad (pc + 1) lv (.int (x * y) :: rest) ct) : gW M D cl A nL cells slots Q N ad pc lv (.int y :: .int x :: rest) ct := by
  intro H locs ls hP hD hS hl
  exact lv_imul C.1 C.2.1 d (k H locs ls hP hD hS hl)
theorem g_iand (C : gX M cc own Ts tys D cl A nL) {x y : Int32} (d : decode cc pc = .ok (.iand, 1)) (k : gW M D cl A nL cells slots Q N ad (pc + 1) lv (.int (x &&& y) :: rest) ct) : gW M D cl A nL cells slots Q N ad pc lv (.int y :: .int x :: rest) ct := by
  intro H locs ls hP hD hS hl
  exact lv_iand C.1 C.2.1 d (k H locs ls hP hD hS hl)
theorem g_ior (C : gX M cc own Ts tys D cl A nL) {x y : Int32} (d : decode cc pc = .ok (.ior, 1)) (k : gW M D cl A nL cells slots Q N ad (pc + 1) lv (.int (x ||| y) :: rest) ct) : gW M D cl A nL cells slots Q N ad pc lv (.int y :: .int x :: rest) ct := by
  intro H locs ls hP hD hS hl
  exact lv_ior C.1 C.2.1 d (k H locs ls hP hD hS hl)
theorem g_ixor (C : gX M cc own Ts tys D cl A nL) {x y : Int32} (d : decode cc pc = .ok (.ixor, 1)) (k : gW M D cl A nL cells slots Q N ad (pc + 1) lv (.int (x ^^^ y) :: rest) ct) : gW M D cl A nL cells slots Q N ad pc lv (.int y :: .int x :: rest) ct := by
  intro H locs ls hP hD hS hl
  exact lv_ixor C.1 C.2.1 d (k H locs ls hP hD hS hl)
theorem g_ladd (C : gX M cc own Ts tys D cl A nL) {x y : Int64} (d : decode cc pc = .ok (.ladd, 1)) (k : gW M D cl A nL cells slots Q N ad (pc + 1) lv (.long (x + y) :: rest) ct) : gW M D cl A nL cells slots Q N ad pc lv (.long y :: .long x :: rest) ct := by
  intro H locs ls hP hD hS hl
  exact lv_ladd C.1 C.2.1 d (k H locs ls hP hD hS hl)
theorem g_lsub (C : gX M cc own Ts tys D cl A nL) {x y : Int64} (d : decode cc pc = .ok (.lsub, 1)) (k : gW M D cl A nL cells slots Q N ad (pc + 1) lv (.long (x - y) :: rest) ct) : gW M D cl A nL cells slots Q N ad pc lv (.long y :: .long x :: rest) ct := by
  intro H locs ls hP hD hS hl
  exact lv_lsub C.1 C.2.1 d (k H locs ls hP hD hS hl)
theorem g_lmul (C : gX M cc own Ts tys D cl A nL) {x y : Int64} (d : decode cc pc = .ok (.lmul, 1)) (k : gW M D cl A nL cells slots Q N ad (pc + 1) lv (.long (x * y) :: rest) ct) : gW M D cl A nL cells slots Q N ad pc lv (.long y :: .long x :: rest) ct := by
  intro H locs ls hP hD hS hl
  exact lv_lmul C.1 C.2.1 d (k H locs ls hP hD hS hl)
theorem g_land (C : gX M cc own Ts tys D cl A nL) {x y : Int64} (d : decode cc pc = .ok (.land, 1)) (k : gW M D cl A nL cells slots Q N ad (pc + 1) lv (.long (x &&& y) :: rest) ct) : gW M D cl A nL cells slots Q N ad pc lv (.long y :: .long x :: rest) ct := by
  intro H locs ls hP hD hS hl
  exact lv_land C.1 C.2.1 d (k H locs ls hP hD hS hl)
theorem g_lor (C : gX M cc own Ts tys D cl A nL) {x y : Int64} (d : decode cc pc = .ok (.lor, 1)) (k : gW M D cl A nL cells slots Q N ad (pc + 1) lv (.long (x ||| y) :: rest) ct) : gW M D cl A nL cells slots Q N ad pc lv (.long y :: .long x :: rest) ct := by
  intro H locs ls hP hD hS hl
  exact lv_lor C.1 C.2.1 d (k H locs ls hP hD hS hl)
theorem g_lxor (C : gX M cc own Ts tys D cl A nL) {x y : Int64} (d : decode cc pc = .ok (.lxor, 1)) (k : gW M D cl A nL cells slots Q N ad (pc + 1) lv (.long (x ^^^ y) :: rest) ct) : gW M D cl A nL cells slots Q N ad pc lv (.long y :: .long x :: rest) ct := by
  intro H locs ls hP hD hS hl
  exact lv_lxor C.1 C.2.1 d (k H locs ls hP hD hS hl)
theorem g_idiv (C : gX M cc own Ts tys D cl A nL) {x y : Int32} (d : decode cc pc = .ok (.idiv, 1)) (hne : ¬ y = 0) (k : gW M D cl A nL cells slots Q N ad (pc + 1) lv (.int (x / y) :: rest) ct) : gW M D cl A nL cells slots Q N ad pc lv (.int y :: .int x :: rest) ct := by
  intro H locs ls hP hD hS hl
  exact lv_idiv C.1 C.2.1 d hne (k H locs ls hP hD hS hl)
theorem g_ldiv (C : gX M cc own Ts tys D cl A nL) {x y : Int64} (d : decode cc pc = .ok (.ldiv, 1)) (hne : ¬ y = 0) (k : gW M D cl A nL cells slots Q N ad (pc + 1) lv (.long (x / y) :: rest) ct) : gW M D cl A nL cells slots Q N ad pc lv (.long y :: .long x :: rest) ct := by
  intro H locs ls hP hD hS hl
  exact lv_ldiv C.1 C.2.1 d hne (k H locs ls hP hD hS hl)
theorem g_lrem (C : gX M cc own Ts tys D cl A nL) {x y : Int64} (d : decode cc pc = .ok (.lrem, 1)) (hne : ¬ y = 0) (k : gW M D cl A nL cells slots Q N ad (pc + 1) lv (.long (x - x / y * y) :: rest) ct) : gW M D cl A nL cells slots Q N ad pc lv (.long y :: .long x :: rest) ct := by
  intro H locs ls hP hD hS hl
  exact lv_lrem C.1 C.2.1 d hne (k H locs ls hP hD hS hl)
theorem g_i2l (C : gX M cc own Ts tys D cl A nL) {x : Int32} (d : decode cc pc = .ok (.i2l, 1)) (k : gW M D cl A nL cells slots Q N ad (pc + 1) lv (.long x.toInt64 :: rest) ct) : gW M D cl A nL cells slots Q N ad pc lv (.int x :: rest) ct := by
  intro H locs ls hP hD hS hl
  exact lv_i2l C.1 C.2.1 d rfl (k H locs ls hP hD hS hl)
theorem g_l2i (C : gX M cc own Ts tys D cl A nL) {x : Int64} (d : decode cc pc = .ok (.l2i, 1)) (k : gW M D cl A nL cells slots Q N ad (pc + 1) lv (.int x.toInt32 :: rest) ct) : gW M D cl A nL cells slots Q N ad pc lv (.long x :: rest) ct := by
  intro H locs ls hP hD hS hl
  exact lv_l2i C.1 C.2.1 d rfl (k H locs ls hP hD hS hl)
theorem g_lushr (C : gX M cc own Ts tys D cl A nL) {x : Int64} {y : Int32} (d : decode cc pc = .ok (.lushr, 1)) (k : gW M D cl A nL cells slots Q N ad (pc + 1) lv (.long (x.toUInt64 >>> (y.toInt64.toUInt64 &&& Int64.toUInt64 63)).toInt64 :: rest) ct) : gW M D cl A nL cells slots Q N ad pc lv (.int y :: .long x :: rest) ct := by
  intro H locs ls hP hD hS hl
  exact lv_lushr C.1 C.2.1 d rfl (k H locs ls hP hD hS hl)
theorem g_lshl (C : gX M cc own Ts tys D cl A nL) {x : Int64} {y : Int32} (d : decode cc pc = .ok (.lshl, 1)) (k : gW M D cl A nL cells slots Q N ad (pc + 1) lv (.long (x <<< (y.toInt64 &&& 63)) :: rest) ct) : gW M D cl A nL cells slots Q N ad pc lv (.int y :: .long x :: rest) ct := by
  intro H locs ls hP hD hS hl
  exact lv_lshl C.1 C.2.1 d rfl (k H locs ls hP hD hS hl)
theorem g_lshr (C : gX M cc own Ts tys D cl A nL) {x : Int64} {y : Int32} (d : decode cc pc = .ok (.lshr, 1)) (k : gW M D cl A nL cells slots Q N ad (pc + 1) lv (.long (x >>> (y.toInt64 &&& 63)) :: rest) ct) : gW M D cl A nL cells slots Q N ad pc lv (.int y :: .long x :: rest) ct := by
  intro H locs ls hP hD hS hl
  exact lv_lshr C.1 C.2.1 d rfl (k H locs ls hP hD hS hl)
theorem g_lcmp (C : gX M cc own Ts tys D cl A nL) {x y : Int64} (d : decode cc pc = .ok (.lcmp, 1)) (k : gW M D cl A nL cells slots Q N ad (pc + 1) lv (.int (lg_cmp x y) :: rest) ct) : gW M D cl A nL cells slots Q N ad pc lv (.long y :: .long x :: rest) ct := by
  intro H locs ls hP hD hS hl
  exact W.lcmp C.1 C.2.1 d (k H locs ls hP hD hS hl)
theorem g_dup (C : gX M cc own Ts tys D cl A nL) {v : Value} (d : decode cc pc = .ok (.dup, 1)) (h : v.category = 1 := by rfl) (k : gW M D cl A nL cells slots Q N ad (pc + 1) lv (v :: v :: rest) ct) : gW M D cl A nL cells slots Q N ad pc lv (v :: rest) ct := by
  intro H locs ls hP hD hS hl
  exact lv_dup C.1 C.2.1 d h (k H locs ls hP hD hS hl)
theorem g_pop (C : gX M cc own Ts tys D cl A nL) {v : Value} (d : decode cc pc = .ok (.pop, 1)) (h : v.category = 1 := by rfl) (k : gW M D cl A nL cells slots Q N ad (pc + 1) lv rest ct) : gW M D cl A nL cells slots Q N ad pc lv (v :: rest) ct := by
  intro H locs ls hP hD hS hl
  exact lv_pop C.1 C.2.1 d h (k H locs ls hP hD hS hl)
theorem g_dup2 (C : gX M cc own Ts tys D cl A nL) {v w : Value} (d : decode cc pc = .ok (.dup2, 1)) (h : v.category = 1 := by rfl) (h2 : w.category = 1 := by rfl) (k : gW M D cl A nL cells slots Q N ad (pc + 1) lv (v :: w :: v :: w :: rest) ct) : gW M D cl A nL cells slots Q N ad pc lv (v :: w :: rest) ct := by
  intro H locs ls hP hD hS hl
  exact lv_dup2_11 C.1 C.2.1 d h h2 (k H locs ls hP hD hS hl)
theorem g_goto (C : gX M cc own Ts tys D cl A nL) {off : Int} {tgt : Nat} (d : decode cc pc = .ok (.goto off, 3)) (ht : (pc : Int) + off = (tgt : Int) := by decide) (k : gW M D cl A nL cells slots Q N ad tgt lv rest ct) : gW M D cl A nL cells slots Q N ad pc lv rest ct := by
  intro H locs ls hP hD hS hl
  exact lv_goto C.1 C.2.1 d ht (k H locs ls hP hD hS hl)
theorem g_if_eq (C : gX M cc own Ts tys D cl A nL) {x : Int32} {off : Int} {tgt : Nat} (d : decode cc pc = .ok (.ifCond .eq off, 3)) (ht : (pc : Int) + off = (tgt : Int)) (kt : x = 0 → gW M D cl A nL cells slots Q N ad tgt lv rest ct) (kf : ¬ x = 0 → gW M D cl A nL cells slots Q N ad (pc + 3) lv rest ct) : gW M D cl A nL cells slots Q N ad pc lv (.int x :: rest) ct := by
  intro H locs ls hP hD hS hl
  exact lv_if_eq C.1 C.2.1 d ht (fun h => kt h H locs ls hP hD hS hl) (fun h => kf h H locs ls hP hD hS hl)
theorem g_ic_eq (C : gX M cc own Ts tys D cl A nL) {x y : Int32} {off : Int} {tgt : Nat} (d : decode cc pc = .ok (.if_icmp .eq off, 3)) (ht : (pc : Int) + off = (tgt : Int)) (kt : x = y → gW M D cl A nL cells slots Q N ad tgt lv rest ct) (kf : ¬ x = y → gW M D cl A nL cells slots Q N ad (pc + 3) lv rest ct) : gW M D cl A nL cells slots Q N ad pc lv (.int y :: .int x :: rest) ct := by
  intro H locs ls hP hD hS hl
  exact lv_icmp_eq C.1 C.2.1 d ht (fun h => kt h H locs ls hP hD hS hl) (fun h => kf h H locs ls hP hD hS hl)
theorem g_icN_eq (C : gX M cc own Ts tys D cl A nL) {a b : Nat} (ha : a < 2 ^ 31) (hb : b < 2 ^ 31) {off : Int} {tgt : Nat} (d : decode cc pc = .ok (.if_icmp .eq off, 3)) (ht : (pc : Int) + off = (tgt : Int)) (kt : a = b → gW M D cl A nL cells slots Q N ad tgt lv rest ct) (kf : a ≠ b → gW M D cl A nL cells slots Q N ad (pc + 3) lv rest ct) : gW M D cl A nL cells slots Q N ad pc lv (.int (nI b) :: .int (nI a) :: rest) ct :=
  g_ic_eq C d ht (fun h => kt ((nI_eq ha hb).mp h)) (fun h => kf (fun q => h ((nI_eq ha hb).mpr q)))
theorem g_ifN_eq (C : gX M cc own Ts tys D cl A nL) {a : Nat} (ha : a < 2 ^ 31) {off : Int} {tgt : Nat} (d : decode cc pc = .ok (.ifCond .eq off, 3)) (ht : (pc : Int) + off = (tgt : Int)) (kt : a = 0 → gW M D cl A nL cells slots Q N ad tgt lv rest ct) (kf : a ≠ 0 → gW M D cl A nL cells slots Q N ad (pc + 3) lv rest ct) : gW M D cl A nL cells slots Q N ad pc lv (.int (nI a) :: rest) ct := by
  have hb : 0 < 2 ^ 31 := by decide
  refine g_if_eq C d ht (fun h => kt ?_) (fun h => kf ?_)
  · rw [← nI_0] at h; exact (nI_eq ha hb).mp h
  · rw [← nI_0] at h; exact fun q => h ((nI_eq ha hb).mpr q)
theorem g_lc_eq (C : gX M cc own Ts tys D cl A nL) {x y : Int64} {off : Int} {tgt : Nat} (d0 : decode cc pc = .ok (.lcmp, 1)) (d : decode cc (pc + 1) = .ok (.ifCond .eq off, 3)) (ht : ((pc + 1 : Nat) : Int) + off = (tgt : Int)) (kt : x = y → gW M D cl A nL cells slots Q N ad tgt lv rest ct) (kf : ¬ x = y → gW M D cl A nL cells slots Q N ad (pc + 1 + 3) lv rest ct) : gW M D cl A nL cells slots Q N ad pc lv (.long y :: .long x :: rest) ct :=
  g_lcmp C d0 (g_if_eq C d ht (fun h => kt ((lg_cmp_eq x y).mp h)) (fun h => kf (fun q => h ((lg_cmp_eq x y).mpr q))))
theorem g_lcN_eq (C : gX M cc own Ts tys D cl A nL) {a b : Nat} (ha : a < 2 ^ 63) (hb : b < 2 ^ 63) {off : Int} {tgt : Nat} (d0 : decode cc pc = .ok (.lcmp, 1)) (d : decode cc (pc + 1) = .ok (.ifCond .eq off, 3)) (ht : ((pc + 1 : Nat) : Int) + off = (tgt : Int)) (kt : a = b → gW M D cl A nL cells slots Q N ad tgt lv rest ct) (kf : a ≠ b → gW M D cl A nL cells slots Q N ad (pc + 1 + 3) lv rest ct) : gW M D cl A nL cells slots Q N ad pc lv (.long (lN b) :: .long (lN a) :: rest) ct :=
  g_lc_eq C d0 d ht (fun h => kt ((pk_lEQ ha hb).mp h)) (fun h => kf (fun q => h ((pk_lEQ ha hb).mpr q)))
theorem g_if_ne (C : gX M cc own Ts tys D cl A nL) {x : Int32} {off : Int} {tgt : Nat} (d : decode cc pc = .ok (.ifCond .ne off, 3)) (ht : (pc : Int) + off = (tgt : Int)) (kt : ¬ x = 0 → gW M D cl A nL cells slots Q N ad tgt lv rest ct) (kf : x = 0 → gW M D cl A nL cells slots Q N ad (pc + 3) lv rest ct) : gW M D cl A nL cells slots Q N ad pc lv (.int x :: rest) ct := by
  intro H locs ls hP hD hS hl
  exact lv_if_ne C.1 C.2.1 d ht (fun h => kt h H locs ls hP hD hS hl) (fun h => kf h H locs ls hP hD hS hl)
theorem g_ic_ne (C : gX M cc own Ts tys D cl A nL) {x y : Int32} {off : Int} {tgt : Nat} (d : decode cc pc = .ok (.if_icmp .ne off, 3)) (ht : (pc : Int) + off = (tgt : Int)) (kt : ¬ x = y → gW M D cl A nL cells slots Q N ad tgt lv rest ct) (kf : x = y → gW M D cl A nL cells slots Q N ad (pc + 3) lv rest ct) : gW M D cl A nL cells slots Q N ad pc lv (.int y :: .int x :: rest) ct := by
  intro H locs ls hP hD hS hl
  exact lv_icmp_ne C.1 C.2.1 d ht (fun h => kt h H locs ls hP hD hS hl) (fun h => kf h H locs ls hP hD hS hl)
theorem g_icN_ne (C : gX M cc own Ts tys D cl A nL) {a b : Nat} (ha : a < 2 ^ 31) (hb : b < 2 ^ 31) {off : Int} {tgt : Nat} (d : decode cc pc = .ok (.if_icmp .ne off, 3)) (ht : (pc : Int) + off = (tgt : Int)) (kt : a ≠ b → gW M D cl A nL cells slots Q N ad tgt lv rest ct) (kf : a = b → gW M D cl A nL cells slots Q N ad (pc + 3) lv rest ct) : gW M D cl A nL cells slots Q N ad pc lv (.int (nI b) :: .int (nI a) :: rest) ct :=
  g_ic_ne C d ht (fun h => kt (fun q => h ((nI_eq ha hb).mpr q))) (fun h => kf ((nI_eq ha hb).mp h))
theorem g_ifN_ne (C : gX M cc own Ts tys D cl A nL) {a : Nat} (ha : a < 2 ^ 31) {off : Int} {tgt : Nat} (d : decode cc pc = .ok (.ifCond .ne off, 3)) (ht : (pc : Int) + off = (tgt : Int)) (kt : a ≠ 0 → gW M D cl A nL cells slots Q N ad tgt lv rest ct) (kf : a = 0 → gW M D cl A nL cells slots Q N ad (pc + 3) lv rest ct) : gW M D cl A nL cells slots Q N ad pc lv (.int (nI a) :: rest) ct := by
  have hb : 0 < 2 ^ 31 := by decide
  refine g_if_ne C d ht (fun h => kt ?_) (fun h => kf ?_)
  · rw [← nI_0] at h; exact fun q => h ((nI_eq ha hb).mpr q)
  · rw [← nI_0] at h; exact (nI_eq ha hb).mp h
theorem g_lc_ne (C : gX M cc own Ts tys D cl A nL) {x y : Int64} {off : Int} {tgt : Nat} (d0 : decode cc pc = .ok (.lcmp, 1)) (d : decode cc (pc + 1) = .ok (.ifCond .ne off, 3)) (ht : ((pc + 1 : Nat) : Int) + off = (tgt : Int)) (kt : ¬ x = y → gW M D cl A nL cells slots Q N ad tgt lv rest ct) (kf : x = y → gW M D cl A nL cells slots Q N ad (pc + 1 + 3) lv rest ct) : gW M D cl A nL cells slots Q N ad pc lv (.long y :: .long x :: rest) ct :=
  g_lcmp C d0 (g_if_ne C d ht (fun h => kt (fun q => h ((lg_cmp_eq x y).mpr q))) (fun h => kf ((lg_cmp_eq x y).mp h)))
theorem g_lcN_ne (C : gX M cc own Ts tys D cl A nL) {a b : Nat} (ha : a < 2 ^ 63) (hb : b < 2 ^ 63) {off : Int} {tgt : Nat} (d0 : decode cc pc = .ok (.lcmp, 1)) (d : decode cc (pc + 1) = .ok (.ifCond .ne off, 3)) (ht : ((pc + 1 : Nat) : Int) + off = (tgt : Int)) (kt : a ≠ b → gW M D cl A nL cells slots Q N ad tgt lv rest ct) (kf : a = b → gW M D cl A nL cells slots Q N ad (pc + 1 + 3) lv rest ct) : gW M D cl A nL cells slots Q N ad pc lv (.long (lN b) :: .long (lN a) :: rest) ct :=
  g_lc_ne C d0 d ht (fun h => kt (fun q => h ((pk_lEQ ha hb).mpr q))) (fun h => kf ((pk_lEQ ha hb).mp h))
theorem g_if_lt (C : gX M cc own Ts tys D cl A nL) {x : Int32} {off : Int} {tgt : Nat} (d : decode cc pc = .ok (.ifCond .lt off, 3)) (ht : (pc : Int) + off = (tgt : Int)) (kt : x < 0 → gW M D cl A nL cells slots Q N ad tgt lv rest ct) (kf : ¬ x < 0 → gW M D cl A nL cells slots Q N ad (pc + 3) lv rest ct) : gW M D cl A nL cells slots Q N ad pc lv (.int x :: rest) ct := by
  intro H locs ls hP hD hS hl
  exact lv_if_lt C.1 C.2.1 d ht (fun h => kt h H locs ls hP hD hS hl) (fun h => kf h H locs ls hP hD hS hl)
theorem g_ic_lt (C : gX M cc own Ts tys D cl A nL) {x y : Int32} {off : Int} {tgt : Nat} (d : decode cc pc = .ok (.if_icmp .lt off, 3)) (ht : (pc : Int) + off = (tgt : Int)) (kt : x < y → gW M D cl A nL cells slots Q N ad tgt lv rest ct) (kf : ¬ x < y → gW M D cl A nL cells slots Q N ad (pc + 3) lv rest ct) : gW M D cl A nL cells slots Q N ad pc lv (.int y :: .int x :: rest) ct := by
  intro H locs ls hP hD hS hl
  exact lv_icmp_lt C.1 C.2.1 d ht (fun h => kt h H locs ls hP hD hS hl) (fun h => kf h H locs ls hP hD hS hl)
theorem g_icN_lt (C : gX M cc own Ts tys D cl A nL) {a b : Nat} (ha : a < 2 ^ 31) (hb : b < 2 ^ 31) {off : Int} {tgt : Nat} (d : decode cc pc = .ok (.if_icmp .lt off, 3)) (ht : (pc : Int) + off = (tgt : Int)) (kt : a < b → gW M D cl A nL cells slots Q N ad tgt lv rest ct) (kf : b ≤ a → gW M D cl A nL cells slots Q N ad (pc + 3) lv rest ct) : gW M D cl A nL cells slots Q N ad pc lv (.int (nI b) :: .int (nI a) :: rest) ct :=
  g_ic_lt C d ht (fun h => kt ((nI_ltI ha hb).mp h)) (fun h => kf (Nat.not_lt.mp (fun q => h ((nI_ltI ha hb).mpr q))))
theorem g_ifN_lt (C : gX M cc own Ts tys D cl A nL) {a : Nat} (ha : a < 2 ^ 31) {off : Int} {tgt : Nat} (d : decode cc pc = .ok (.ifCond .lt off, 3)) (ht : (pc : Int) + off = (tgt : Int)) (kt : a < 0 → gW M D cl A nL cells slots Q N ad tgt lv rest ct) (kf : 0 ≤ a → gW M D cl A nL cells slots Q N ad (pc + 3) lv rest ct) : gW M D cl A nL cells slots Q N ad pc lv (.int (nI a) :: rest) ct := by
  have hb : 0 < 2 ^ 31 := by decide
  refine g_if_lt C d ht (fun h => kt ?_) (fun h => kf ?_)
  · rw [← nI_0] at h; exact (nI_ltI ha hb).mp h
  · rw [← nI_0] at h; exact Nat.not_lt.mp (fun q => h ((nI_ltI ha hb).mpr q))
theorem g_lc_lt (C : gX M cc own Ts tys D cl A nL) {x y : Int64} {off : Int} {tgt : Nat} (d0 : decode cc pc = .ok (.lcmp, 1)) (d : decode cc (pc + 1) = .ok (.ifCond .lt off, 3)) (ht : ((pc + 1 : Nat) : Int) + off = (tgt : Int)) (kt : x < y → gW M D cl A nL cells slots Q N ad tgt lv rest ct) (kf : ¬ x < y → gW M D cl A nL cells slots Q N ad (pc + 1 + 3) lv rest ct) : gW M D cl A nL cells slots Q N ad pc lv (.long y :: .long x :: rest) ct :=
  g_lcmp C d0 (g_if_lt C d ht (fun h => kt ((lg_cmp_lt x y).mp h)) (fun h => kf (fun q => h ((lg_cmp_lt x y).mpr q))))
theorem g_lcN_lt (C : gX M cc own Ts tys D cl A nL) {a b : Nat} (ha : a < 2 ^ 63) (hb : b < 2 ^ 63) {off : Int} {tgt : Nat} (d0 : decode cc pc = .ok (.lcmp, 1)) (d : decode cc (pc + 1) = .ok (.ifCond .lt off, 3)) (ht : ((pc + 1 : Nat) : Int) + off = (tgt : Int)) (kt : a < b → gW M D cl A nL cells slots Q N ad tgt lv rest ct) (kf : b ≤ a → gW M D cl A nL cells slots Q N ad (pc + 1 + 3) lv rest ct) : gW M D cl A nL cells slots Q N ad pc lv (.long (lN b) :: .long (lN a) :: rest) ct :=
  g_lc_lt C d0 d ht (fun h => kt ((pk_lLT ha hb).mp h)) (fun h => kf (Nat.not_lt.mp (fun q => h ((pk_lLT ha hb).mpr q))))
theorem g_if_ge (C : gX M cc own Ts tys D cl A nL) {x : Int32} {off : Int} {tgt : Nat} (d : decode cc pc = .ok (.ifCond .ge off, 3)) (ht : (pc : Int) + off = (tgt : Int)) (kt : 0 ≤ x → gW M D cl A nL cells slots Q N ad tgt lv rest ct) (kf : ¬ 0 ≤ x → gW M D cl A nL cells slots Q N ad (pc + 3) lv rest ct) : gW M D cl A nL cells slots Q N ad pc lv (.int x :: rest) ct := by
  intro H locs ls hP hD hS hl
  exact lv_if_ge C.1 C.2.1 d ht (fun h => kt h H locs ls hP hD hS hl) (fun h => kf h H locs ls hP hD hS hl)
theorem g_ic_ge (C : gX M cc own Ts tys D cl A nL) {x y : Int32} {off : Int} {tgt : Nat} (d : decode cc pc = .ok (.if_icmp .ge off, 3)) (ht : (pc : Int) + off = (tgt : Int)) (kt : y ≤ x → gW M D cl A nL cells slots Q N ad tgt lv rest ct) (kf : ¬ y ≤ x → gW M D cl A nL cells slots Q N ad (pc + 3) lv rest ct) : gW M D cl A nL cells slots Q N ad pc lv (.int y :: .int x :: rest) ct := by
  intro H locs ls hP hD hS hl
  exact lv_icmp_ge C.1 C.2.1 d ht (fun h => kt h H locs ls hP hD hS hl) (fun h => kf h H locs ls hP hD hS hl)
theorem g_icN_ge (C : gX M cc own Ts tys D cl A nL) {a b : Nat} (ha : a < 2 ^ 31) (hb : b < 2 ^ 31) {off : Int} {tgt : Nat} (d : decode cc pc = .ok (.if_icmp .ge off, 3)) (ht : (pc : Int) + off = (tgt : Int)) (kt : b ≤ a → gW M D cl A nL cells slots Q N ad tgt lv rest ct) (kf : a < b → gW M D cl A nL cells slots Q N ad (pc + 3) lv rest ct) : gW M D cl A nL cells slots Q N ad pc lv (.int (nI b) :: .int (nI a) :: rest) ct :=
  g_ic_ge C d ht (fun h => kt ((nI_leI hb ha).mp h)) (fun h => kf (Nat.not_le.mp (fun q => h ((nI_leI hb ha).mpr q))))
theorem g_ifN_ge (C : gX M cc own Ts tys D cl A nL) {a : Nat} (ha : a < 2 ^ 31) {off : Int} {tgt : Nat} (d : decode cc pc = .ok (.ifCond .ge off, 3)) (ht : (pc : Int) + off = (tgt : Int)) (kt : 0 ≤ a → gW M D cl A nL cells slots Q N ad tgt lv rest ct) (kf : a < 0 → gW M D cl A nL cells slots Q N ad (pc + 3) lv rest ct) : gW M D cl A nL cells slots Q N ad pc lv (.int (nI a) :: rest) ct := by
  have hb : 0 < 2 ^ 31 := by decide
  refine g_if_ge C d ht (fun h => kt ?_) (fun h => kf ?_)
  · rw [← nI_0] at h; exact (nI_leI hb ha).mp h
  · rw [← nI_0] at h; exact Nat.not_le.mp (fun q => h ((nI_leI hb ha).mpr q))
theorem g_lc_ge (C : gX M cc own Ts tys D cl A nL) {x y : Int64} {off : Int} {tgt : Nat} (d0 : decode cc pc = .ok (.lcmp, 1)) (d : decode cc (pc + 1) = .ok (.ifCond .ge off, 3)) (ht : ((pc + 1 : Nat) : Int) + off = (tgt : Int)) (kt : y ≤ x → gW M D cl A nL cells slots Q N ad tgt lv rest ct) (kf : ¬ y ≤ x → gW M D cl A nL cells slots Q N ad (pc + 1 + 3) lv rest ct) : gW M D cl A nL cells slots Q N ad pc lv (.long y :: .long x :: rest) ct :=
  g_lcmp C d0 (g_if_ge C d ht (fun h => kt ((lg_cmp_ge x y).mp h)) (fun h => kf (fun q => h ((lg_cmp_ge x y).mpr q))))
theorem g_lcN_ge (C : gX M cc own Ts tys D cl A nL) {a b : Nat} (ha : a < 2 ^ 63) (hb : b < 2 ^ 63) {off : Int} {tgt : Nat} (d0 : decode cc pc = .ok (.lcmp, 1)) (d : decode cc (pc + 1) = .ok (.ifCond .ge off, 3)) (ht : ((pc + 1 : Nat) : Int) + off = (tgt : Int)) (kt : b ≤ a → gW M D cl A nL cells slots Q N ad tgt lv rest ct) (kf : a < b → gW M D cl A nL cells slots Q N ad (pc + 1 + 3) lv rest ct) : gW M D cl A nL cells slots Q N ad pc lv (.long (lN b) :: .long (lN a) :: rest) ct :=
  g_lc_ge C d0 d ht (fun h => kt ((pk_lLE hb ha).mp h)) (fun h => kf (Nat.not_le.mp (fun q => h ((pk_lLE hb ha).mpr q))))
theorem g_if_gt (C : gX M cc own Ts tys D cl A nL) {x : Int32} {off : Int} {tgt : Nat} (d : decode cc pc = .ok (.ifCond .gt off, 3)) (ht : (pc : Int) + off = (tgt : Int)) (kt : 0 < x → gW M D cl A nL cells slots Q N ad tgt lv rest ct) (kf : ¬ 0 < x → gW M D cl A nL cells slots Q N ad (pc + 3) lv rest ct) : gW M D cl A nL cells slots Q N ad pc lv (.int x :: rest) ct := by
  intro H locs ls hP hD hS hl
  exact lv_if_gt C.1 C.2.1 d ht (fun h => kt h H locs ls hP hD hS hl) (fun h => kf h H locs ls hP hD hS hl)
theorem g_ic_gt (C : gX M cc own Ts tys D cl A nL) {x y : Int32} {off : Int} {tgt : Nat} (d : decode cc pc = .ok (.if_icmp .gt off, 3)) (ht : (pc : Int) + off = (tgt : Int)) (kt : y < x → gW M D cl A nL cells slots Q N ad tgt lv rest ct) (kf : ¬ y < x → gW M D cl A nL cells slots Q N ad (pc + 3) lv rest ct) : gW M D cl A nL cells slots Q N ad pc lv (.int y :: .int x :: rest) ct := by
  intro H locs ls hP hD hS hl
  exact lv_icmp_gt C.1 C.2.1 d ht (fun h => kt h H locs ls hP hD hS hl) (fun h => kf h H locs ls hP hD hS hl)
theorem g_icN_gt (C : gX M cc own Ts tys D cl A nL) {a b : Nat} (ha : a < 2 ^ 31) (hb : b < 2 ^ 31) {off : Int} {tgt : Nat} (d : decode cc pc = .ok (.if_icmp .gt off, 3)) (ht : (pc : Int) + off = (tgt : Int)) (kt : b < a → gW M D cl A nL cells slots Q N ad tgt lv rest ct) (kf : a ≤ b → gW M D cl A nL cells slots Q N ad (pc + 3) lv rest ct) : gW M D cl A nL cells slots Q N ad pc lv (.int (nI b) :: .int (nI a) :: rest) ct :=
  g_ic_gt C d ht (fun h => kt ((nI_ltI hb ha).mp h)) (fun h => kf (Nat.not_lt.mp (fun q => h ((nI_ltI hb ha).mpr q))))
theorem g_ifN_gt (C : gX M cc own Ts tys D cl A nL) {a : Nat} (ha : a < 2 ^ 31) {off : Int} {tgt : Nat} (d : decode cc pc = .ok (.ifCond .gt off, 3)) (ht : (pc : Int) + off = (tgt : Int)) (kt : 0 < a → gW M D cl A nL cells slots Q N ad tgt lv rest ct) (kf : a ≤ 0 → gW M D cl A nL cells slots Q N ad (pc + 3) lv rest ct) : gW M D cl A nL cells slots Q N ad pc lv (.int (nI a) :: rest) ct := by
  have hb : 0 < 2 ^ 31 := by decide
  refine g_if_gt C d ht (fun h => kt ?_) (fun h => kf ?_)
  · rw [← nI_0] at h; exact (nI_ltI hb ha).mp h
  · rw [← nI_0] at h; exact Nat.not_lt.mp (fun q => h ((nI_ltI hb ha).mpr q))
theorem g_lc_gt (C : gX M cc own Ts tys D cl A nL) {x y : Int64} {off : Int} {tgt : Nat} (d0 : decode cc pc = .ok (.lcmp, 1)) (d : decode cc (pc + 1) = .ok (.ifCond .gt off, 3)) (ht : ((pc + 1 : Nat) : Int) + off = (tgt : Int)) (kt : y < x → gW M D cl A nL cells slots Q N ad tgt lv rest ct) (kf : ¬ y < x → gW M D cl A nL cells slots Q N ad (pc + 1 + 3) lv rest ct) : gW M D cl A nL cells slots Q N ad pc lv (.long y :: .long x :: rest) ct :=
  g_lcmp C d0 (g_if_gt C d ht (fun h => kt ((lg_cmp_gt x y).mp h)) (fun h => kf (fun q => h ((lg_cmp_gt x y).mpr q))))
theorem g_lcN_gt (C : gX M cc own Ts tys D cl A nL) {a b : Nat} (ha : a < 2 ^ 63) (hb : b < 2 ^ 63) {off : Int} {tgt : Nat} (d0 : decode cc pc = .ok (.lcmp, 1)) (d : decode cc (pc + 1) = .ok (.ifCond .gt off, 3)) (ht : ((pc + 1 : Nat) : Int) + off = (tgt : Int)) (kt : b < a → gW M D cl A nL cells slots Q N ad tgt lv rest ct) (kf : a ≤ b → gW M D cl A nL cells slots Q N ad (pc + 1 + 3) lv rest ct) : gW M D cl A nL cells slots Q N ad pc lv (.long (lN b) :: .long (lN a) :: rest) ct :=
  g_lc_gt C d0 d ht (fun h => kt ((pk_lLT hb ha).mp h)) (fun h => kf (Nat.not_lt.mp (fun q => h ((pk_lLT hb ha).mpr q))))
theorem g_if_le (C : gX M cc own Ts tys D cl A nL) {x : Int32} {off : Int} {tgt : Nat} (d : decode cc pc = .ok (.ifCond .le off, 3)) (ht : (pc : Int) + off = (tgt : Int)) (kt : x ≤ 0 → gW M D cl A nL cells slots Q N ad tgt lv rest ct) (kf : ¬ x ≤ 0 → gW M D cl A nL cells slots Q N ad (pc + 3) lv rest ct) : gW M D cl A nL cells slots Q N ad pc lv (.int x :: rest) ct := by
  intro H locs ls hP hD hS hl
  exact lv_if_le C.1 C.2.1 d ht (fun h => kt h H locs ls hP hD hS hl) (fun h => kf h H locs ls hP hD hS hl)
theorem g_ic_le (C : gX M cc own Ts tys D cl A nL) {x y : Int32} {off : Int} {tgt : Nat} (d : decode cc pc = .ok (.if_icmp .le off, 3)) (ht : (pc : Int) + off = (tgt : Int)) (kt : x ≤ y → gW M D cl A nL cells slots Q N ad tgt lv rest ct) (kf : ¬ x ≤ y → gW M D cl A nL cells slots Q N ad (pc + 3) lv rest ct) : gW M D cl A nL cells slots Q N ad pc lv (.int y :: .int x :: rest) ct := by
  intro H locs ls hP hD hS hl
  exact lv_icmp_le C.1 C.2.1 d ht (fun h => kt h H locs ls hP hD hS hl) (fun h => kf h H locs ls hP hD hS hl)
theorem g_icN_le (C : gX M cc own Ts tys D cl A nL) {a b : Nat} (ha : a < 2 ^ 31) (hb : b < 2 ^ 31) {off : Int} {tgt : Nat} (d : decode cc pc = .ok (.if_icmp .le off, 3)) (ht : (pc : Int) + off = (tgt : Int)) (kt : a ≤ b → gW M D cl A nL cells slots Q N ad tgt lv rest ct) (kf : b < a → gW M D cl A nL cells slots Q N ad (pc + 3) lv rest ct) : gW M D cl A nL cells slots Q N ad pc lv (.int (nI b) :: .int (nI a) :: rest) ct :=
  g_ic_le C d ht (fun h => kt ((nI_leI ha hb).mp h)) (fun h => kf (Nat.not_le.mp (fun q => h ((nI_leI ha hb).mpr q))))
theorem g_ifN_le (C : gX M cc own Ts tys D cl A nL) {a : Nat} (ha : a < 2 ^ 31) {off : Int} {tgt : Nat} (d : decode cc pc = .ok (.ifCond .le off, 3)) (ht : (pc : Int) + off = (tgt : Int)) (kt : a ≤ 0 → gW M D cl A nL cells slots Q N ad tgt lv rest ct) (kf : 0 < a → gW M D cl A nL cells slots Q N ad (pc + 3) lv rest ct) : gW M D cl A nL cells slots Q N ad pc lv (.int (nI a) :: rest) ct := by
  have hb : 0 < 2 ^ 31 := by decide
  refine g_if_le C d ht (fun h => kt ?_) (fun h => kf ?_)
  · rw [← nI_0] at h; exact (nI_leI ha hb).mp h
  · rw [← nI_0] at h; exact Nat.not_le.mp (fun q => h ((nI_leI ha hb).mpr q))
theorem g_lc_le (C : gX M cc own Ts tys D cl A nL) {x y : Int64} {off : Int} {tgt : Nat} (d0 : decode cc pc = .ok (.lcmp, 1)) (d : decode cc (pc + 1) = .ok (.ifCond .le off, 3)) (ht : ((pc + 1 : Nat) : Int) + off = (tgt : Int)) (kt : x ≤ y → gW M D cl A nL cells slots Q N ad tgt lv rest ct) (kf : ¬ x ≤ y → gW M D cl A nL cells slots Q N ad (pc + 1 + 3) lv rest ct) : gW M D cl A nL cells slots Q N ad pc lv (.long y :: .long x :: rest) ct :=
  g_lcmp C d0 (g_if_le C d ht (fun h => kt ((lg_cmp_le x y).mp h)) (fun h => kf (fun q => h ((lg_cmp_le x y).mpr q))))
theorem g_lcN_le (C : gX M cc own Ts tys D cl A nL) {a b : Nat} (ha : a < 2 ^ 63) (hb : b < 2 ^ 63) {off : Int} {tgt : Nat} (d0 : decode cc pc = .ok (.lcmp, 1)) (d : decode cc (pc + 1) = .ok (.ifCond .le off, 3)) (ht : ((pc + 1 : Nat) : Int) + off = (tgt : Int)) (kt : a ≤ b → gW M D cl A nL cells slots Q N ad tgt lv rest ct) (kf : b < a → gW M D cl A nL cells slots Q N ad (pc + 1 + 3) lv rest ct) : gW M D cl A nL cells slots Q N ad pc lv (.long (lN b) :: .long (lN a) :: rest) ct :=
  g_lc_le C d0 d ht (fun h => kt ((pk_lLE ha hb).mp h)) (fun h => kf (Nat.not_le.mp (fun q => h ((pk_lLE ha hb).mpr q))))
/-! ===== cells ===== -/
abbrev LA (cJ : ClassId) (n : Nat) (f : Nat → Int64) : va_E := .inl (cJ, n, .inr (.inl f))
abbrev QA (cQ : ClassId) (n : Nat) (f : Nat → Option Nat) : va_E := .inl (cQ, n, .inr (.inr (.inr (.inr f))))
theorem g_getf (C : gX M cc own Ts tys D cl A nL) {ref Cn : String} {T : u_T} {n ci index : Nat} (q j : Nat) (hq : q < N) {fs : List Value} (he : ct q = .inr (ci, fs)) (hc : cl[ci]? = some (Cn, T, n)) (hin : ∀ w ∈ u_ws Cn T n, w ∈ Ts) (hj : j < n) (hlink : Cond.fieldLink own index ref (T j).2.1 (T j).2.2.1 ∈ Ts) (hsame : ∀ x, (gs M).fieldFound? (T j).1 (T j).2.1 (T j).2.2.1 = some x → (gs M).fieldFound? ref (T j).2.1 (T j).2.2.1 = some x) {v : Value} (hv : fs[j]? = some v) (d : decode cc pc = .ok (.getfield index, 3)) (k : gW M D cl A nL cells slots Q N ad (pc + 3) lv (v :: rest) ct) : gW M D cl A nL cells slots Q N ad pc lv (.ref (ad q) :: rest) ct := by
  intro H locs ls hP hD hS hl
  exact va_get C.1 C.2.1 C.2.2.2.2.1 hin C.2.2.2.1 C.2.2.2.2.2.1 hP q (ix_e hq he) hc j hj (C.2.2.2.2.1 _ hlink) hsame hv d (k H locs ls hP hD hS hl)
theorem g_putf (C : gX M cc own Ts tys D cl A nL) {ref Cn : String} {T : u_T} {n ci index : Nat} (q j : Nat) (hq : q < N) {fs : List Value} (he : ct q = .inr (ci, fs)) (hc : cl[ci]? = some (Cn, T, n)) (hin : ∀ w ∈ u_ws Cn T n, w ∈ Ts) (ty0 : Nat → FieldType) (hty : ∀ k, k < n → parseFieldDescriptor (T k).2.2.1 = some (ty0 k)) (hnm : ∀ a, a < n → ∀ b, b < n → a ≠ b → (T a).2.1 ≠ (T b).2.1) (hj : j < n) (hlink : Cond.fieldLink own index ref (T j).2.1 (T j).2.2.1 ∈ Ts) (hsame : ∀ x, (gs M).fieldFound? (T j).1 (T j).2.1 (T j).2.2.1 = some x → (gs M).fieldFound? ref (T j).2.1 (T j).2.2.1 = some x) (hfin : (T j).2.2.2 = false) {ty : FieldType} {v : Value} (hd : parseFieldDescriptor (T j).2.2.1 = some ty) (hn : narrow ty v = v) (hfit : fits ty v = true) (hl0 : j < fs.length) (d : decode cc pc = .ok (.putfield index, 3)) (k : gW M D cl A nL cells slots Q N ad (pc + 3) lv rest (va_up ct q (.inr (ci, fs.set j v)))) : gW M D cl A nL cells slots Q N ad pc lv (v :: .ref (ad q) :: rest) ct := by
  intro H locs ls hP hD hS hl
  refine va_put C.1 C.2.1 C.2.2.2.2.1 hin ty0 hty hnm C.2.2.2.1 C.2.2.2.2.2.1 hP hD hS q (ix_e hq he) hc j hj (C.2.2.2.2.1 _ hlink) hsame hfin hd hn hfit hl0 d (fun H1 locs1 hP1 hD1 hS1 => ?_)
  rw [ix_set] at hP1 hD1
  exact k H1 locs1 ls hP1 hD1 hS1 hl
theorem g_lald (C : gX M cc own Ts tys D cl A nL) (q t0 : Nat) (hq : q < N) {cJ : ClassId} {n : Nat} {f : Nat → Int64} (he : ct q = LA cJ n f) (ht : tys[t0]? = some (cJ, .long)) {i : Nat} (hi : i < n) (hn : n < 2 ^ 31) (d : decode cc pc = .ok (.laload, 1)) (k : gW M D cl A nL cells slots Q N ad (pc + 1) lv (.long (f i) :: rest) ct) : gW M D cl A nL cells slots Q N ad pc lv (.int (nI i) :: .ref (ad q) :: rest) ct := by
  intro H locs ls hP hD hS hl
  refine va_lald C.1 C.2.1 C.2.2.2.2.2.1 hP q t0 (ix_e hq he) ht (vp_in_nI hi hn) d ?_
  rw [nI_clamp (Nat.lt_trans hi hn)]
  exact k H locs ls hP hD hS hl
theorem g_last (C : gX M cc own Ts tys D cl A nL) (q t0 : Nat) (hq : q < N) {cJ : ClassId} {n : Nat} {f : Nat → Int64} (he : ct q = LA cJ n f) (ht : tys[t0]? = some (cJ, .long)) {i : Nat} {x : Int64} (hi : i < n) (hn : n < 2 ^ 31) (d : decode cc pc = .ok (.lastore, 1)) (k : gW M D cl A nL cells slots Q N ad (pc + 1) lv rest (va_up ct q (LA cJ n (vp_updL f i x)))) : gW M D cl A nL cells slots Q N ad pc lv (.long x :: .int (nI i) :: .ref (ad q) :: rest) ct := by
  intro H locs ls hP hD hS hl
  refine va_last C.1 C.2.1 C.2.2.2.2.2.1 hP hD hS q t0 (ix_e hq he) ht (vp_in_nI hi hn) d (fun H1 locs1 hP1 hD1 hS1 => ?_)
  rw [nI_clamp (Nat.lt_trans hi hn), ix_set] at hP1 hD1
  exact k H1 locs1 ls hP1 hD1 hS1 hl
theorem g_alen (C : gX M cc own Ts tys D cl A nL) (q t0 : Nat) (hq : q < N) {cA : ClassId} {x : vp_A} (he : ct q = .inl (cA, x)) {ty : FieldType} (ht : tys[t0]? = some (cA, ty)) (d : decode cc pc = .ok (.arraylength, 1)) (k : gW M D cl A nL cells slots Q N ad (pc + 1) lv (.int (nI x.1) :: rest) ct) : gW M D cl A nL cells slots Q N ad pc lv (.ref (ad q) :: rest) ct := by
  intro H locs ls hP hD hS hl
  exact va_alen C.1 C.2.1 C.2.2.2.2.2.1 hP q t0 (ix_e hq he) ht rfl d (k H locs ls hP hD hS hl)
theorem g_aald (C : gX M cc own Ts tys D cl A nL) (q t0 : Nat) (hq : q < N) {cQ : ClassId} {n : Nat} {f : Nat → Option Nat} {ty : FieldType} (he : ct q = QA cQ n f) (ht : tys[t0]? = some (cQ, ty)) (hty : ty.isReference = true) {i : Nat} {a : Nat} (hi : i < n) (hn : n < 2 ^ 31) (hv : f i = some a) (d : decode cc pc = .ok (.aaload, 1)) (k : gW M D cl A nL cells slots Q N ad (pc + 1) lv (.ref a :: rest) ct) : gW M D cl A nL cells slots Q N ad pc lv (.int (nI i) :: .ref (ad q) :: rest) ct := by
  intro H locs ls hP hD hS hl
  have hin : vp_in (nI i) n := vp_in_nI hi hn
  have hlt : (nI i).toNatClampNeg < n := Nat.not_le.mp fun q => hin (Or.inr q)
  have hcl : (nI i).toNatClampNeg = i := nI_clamp (Nat.lt_trans hi hn)
  refine W.aald (v := .ref a) (ty := ty) C.1 C.2.1 (hP q _ (ix_e hq he)) ((C.2.2.2.2.2.1.2 t0 _ ht).1 n (fun j => va_rf (f j))) hty (fun q => by cases q) (by show ¬ (nI i < 0 ∨ (arrV _ _ _).slots.size ≤ _); rw [arrV_size]; exact hin) (by show (arrV _ _ _).slots[_]? = _; rw [arrV_read _ _ hlt, hcl, hv]; rfl) rfl rfl d (k H locs ls hP hD hS hl)
theorem g_ldc2 (C : gX M cc own Ts tys D cl A nL) {index : Nat} {v : Int64} (hc : Cond.constantLong own index v ∈ Ts) (d : decode cc pc = .ok (.ldc2_w index, 3)) (k : gW M D cl A nL cells slots Q N ad (pc + 3) lv (.long v :: rest) ct) : gW M D cl A nL cells slots Q N ad pc lv rest ct := by
  intro H locs ls hP hD hS hl
  exact lv_ldc2 C.1 C.2.1 C.2.2.2.1 (C.2.2.2.2.1 _ hc) d (k H locs ls hP hD hS hl)
theorem g_acopy (C : gX M cc own Ts tys D cl A nL) {index : Nat} (hlink : Cond.methodLink own index arraycopyName ∈ Ts) (hnat : Cond.native arraycopyName ∈ Ts) (hstat : Cond.static arraycopyName ∈ Ts) (hini : Cond.initialized "java/lang/System" ∈ Ts) (q0 q1 t0 : Nat) (h0 : q0 < N) (h1 : q1 < N) {cJ : ClassId} {n0 n1 : Nat} {f g : Nat → Int64} (he0 : ct q0 = LA cJ n0 f) (he1 : ct q1 = LA cJ n1 g) (ht : tys[t0]? = some (cJ, .long)) {n : Nat} (hn0 : n ≤ n0) (hn1 : n ≤ n1) (hn : n < 2 ^ 31) (hfr : 1 ≤ (gR M).frames) (hlo : (rest.map fun v => v.category).sum + (nativeFrameWords "java/lang/System" "arraycopy" 5 + 11) ≤ (gR M).locals) (d : decode cc pc = .ok (.invokestatic index, 3)) (k : gW M D cl A nL cells slots Q N ad (pc + 3) lv rest (va_up ct q1 (LA cJ n1 (va_cpy f g 0 0 n)))) : gW M D cl A nL cells slots Q N ad pc lv (.int (nI n) :: .int 0 :: .ref (ad q1) :: .int 0 :: .ref (ad q0) :: rest) ct := by
  intro H locs ls hP hD hS hl
  have hz : (0 : Int32).toNatClampNeg = 0 := rfl
  have hcl : (nI n).toNatClampNeg = n := nI_clamp hn
  refine va_copyl (sp := 0) (dp := 0) (n := nI n) C.1 C.2.1 (by rw [hl.1]; exact C.2.2.1) C.2.2.2.1 (C.2.2.2.2.1 _ hlink) (C.2.2.2.2.1 _ hnat) (C.2.2.2.2.1 _ hstat) (C.2.2.2.2.1 _ hini) C.2.2.2.2.2.1 hP hD hS q0 q1 t0 t0 (ix_e h0 he0) (ix_e h1 he1) ht ht rfl (by decide) (by decide) (nI_pos hn) (by rw [hz, hcl]; omega) (by rw [hz, hcl]; omega) (fun i _ => rfl) hfr hlo d (fun H1 locs1 hP1 hD1 hS1 => ?_)
  rw [hz, hcl, ix_set] at hP1 hD1
  exact k H1 locs1 ls hP1 hD1 hS1 hl
end
/-! ===== contracts over the indexed world: methods that don't throw and make nothing ===== -/
def gP (D : va_G) (cl : List vw_C) (tys : List (ClassId × FieldType)) (N : Nat) (ad : Nat → Nat) (ct : Nat → va_E) (sz : Nat) (U : State) : Prop := U.heap.size = sz ∧ va_P D cl (ix N ad ct) U.heap ∧ va_K D cl tys U ∧ va_D (fun _ => True) (ix N ad ct)
def gB (D : va_G) (cl : List vw_C) (tys : List (ClassId × FieldType)) (N : Nat) (ad : Nat → Nat) (A : Nat → Prop) (ct : Nat → va_E) (t : State) : Prop := va_P D cl (ix N ad ct) t.heap ∧ va_K D cl tys t ∧ va_D A (ix N ad ct)
theorem gP_bl {D : va_G} {cl : List vw_C} {tys : List (ClassId × FieldType)} {N : Nat} {ad : Nat → Nat} {ct : Nat → va_E} {sz : Nat} {av : List Value} : FrameBlind (va_Pc av (gP D cl tys N ad ct sz)) := fun a U g mk q => by
  obtain ⟨q0, q1, qP, qK, qD⟩ := q
  exact ⟨q0, q1, qP, va_K.moved (u := U) (U := U.calling g mk a) (Vm.Alike.refl U.vm) qK, qD⟩
def gMl (l : Launch) (y : MethodName) (ws : List Cond) (rm : Room) (D : va_G) (cl : List vw_C) (tys : List (ClassId × FieldType)) (N : Nat) (ad : Nat → Nat) (av : List Value) (ct : Nat → va_E) (post : Int64 → (Nat → va_E) → Prop) : Prop := ∀ sz, Met l y ws rm (va_Pc av (gP D cl tys N ad ct sz)) (va_Ql post (gB D cl tys N ad (ixA N ad sz)) (ixA N ad sz)) 0 0 (ixA N ad sz)
def gMi (l : Launch) (y : MethodName) (ws : List Cond) (rm : Room) (D : va_G) (cl : List vw_C) (tys : List (ClassId × FieldType)) (N : Nat) (ad : Nat → Nat) (av : List Value) (ct : Nat → va_E) (post : Int32 → (Nat → va_E) → Prop) : Prop := ∀ sz, Met l y ws rm (va_Pc av (gP D cl tys N ad ct sz)) (va_Qi post (gB D cl tys N ad (ixA N ad sz)) (ixA N ad sz)) 0 0 (ixA N ad sz)
def gMv (l : Launch) (y : MethodName) (ws : List Cond) (rm : Room) (D : va_G) (cl : List vw_C) (tys : List (ClassId × FieldType)) (N : Nat) (ad : Nat → Nat) (av : List Value) (ct : Nat → va_E) (post : (Nat → va_E) → Prop) : Prop := ∀ sz, Met l y ws rm (va_Pc av (gP D cl tys N ad ct sz)) (va_Qv post (gB D cl tys N ad (ixA N ad sz)) (ixA N ad sz)) 0 0 (ixA N ad sz)

theorem gof_l {l : Launch} {y : MethodName} {ws ws' : List Cond} {rm : Room} {cc : ByteArray} {maxL : Nat} {D : va_G} {cl : List vw_C} {tys : List (ClassId × FieldType)} {N : Nat} {ad : Nat → Nat} {av : List Value} {ct : Nat → va_E} {post : Int64 → (Nat → va_E) → Prop} (hy : plainName y.cls = true) (hw : ws = Cond.code y cc maxL (some .long) :: ws') (hlen : (lg_sl av).length ≤ maxL)
    (body : ∀ (M : gM) (sz : Nat), gX M cc y.cls ws tys D cl (ixA N ad sz) maxL → gl M = l → gR M = (headSpec ws rm).room → (gt M).sig.returnType = (some .long) → (gs M).heap.size = sz → gW M D cl (ixA N ad sz) maxL 0 0 (MQ (gb M) (va_Ql post (gB D cl tys N ad (ixA N ad sz)) (ixA N ad sz)) (ga M) (gs M) 0 0 (ixA N ad sz)) N ad 0 (lva 0 av) [] ct) : gMl l y ws rm D cl tys N ad av ct post := by
  intro sz
  refine Met.ofW (cc := cc) (maxL := maxL) (ret := (some .long)) hy hw ?_
  intro p e s m args below meth c s₁ B hml hv
  obtain ⟨rfl, hsz, hP, hK, hD0⟩ := hv
  have hts := atoms_spec (ws := ws) B.pre
  have hown : s.vm.findClass y.cls = some m.cls := findClass_of_methodNamed B.named
  have hl := lv_entry av (n := maxL) hlen
  rw [lg_entry_eq]
  generalize (lg_sl av ++ List.replicate (maxL - (lg_sl av).length) Slot.unset).toArray = ls at hl ⊢
  exact body (p, l, e, (headSpec ws rm).room, s, m, av.toArray, below, meth, c) sz ⟨B.exec, B.bytes, hml, hown, hts, hK, fun q h => Or.inr (by rw [← hsz]; exact h), B.notSynchronized⟩ rfl rfl B.returns hsz s.heap [] ls hP (ixA_D hD0) va_S.rf (lva_h hl)
theorem gof_i {l : Launch} {y : MethodName} {ws ws' : List Cond} {rm : Room} {cc : ByteArray} {maxL : Nat} {D : va_G} {cl : List vw_C} {tys : List (ClassId × FieldType)} {N : Nat} {ad : Nat → Nat} {av : List Value} {ct : Nat → va_E} {post : Int32 → (Nat → va_E) → Prop} (hy : plainName y.cls = true) (hw : ws = Cond.code y cc maxL (some .int) :: ws') (hlen : (lg_sl av).length ≤ maxL)
    (body : ∀ (M : gM) (sz : Nat), gX M cc y.cls ws tys D cl (ixA N ad sz) maxL → gl M = l → gR M = (headSpec ws rm).room → (gt M).sig.returnType = (some .int) → (gs M).heap.size = sz → gW M D cl (ixA N ad sz) maxL 0 0 (MQ (gb M) (va_Qi post (gB D cl tys N ad (ixA N ad sz)) (ixA N ad sz)) (ga M) (gs M) 0 0 (ixA N ad sz)) N ad 0 (lva 0 av) [] ct) : gMi l y ws rm D cl tys N ad av ct post := by
  intro sz
  refine Met.ofW (cc := cc) (maxL := maxL) (ret := (some .int)) hy hw ?_
  intro p e s m args below meth c s₁ B hml hv
  obtain ⟨rfl, hsz, hP, hK, hD0⟩ := hv
  have hts := atoms_spec (ws := ws) B.pre
  have hown : s.vm.findClass y.cls = some m.cls := findClass_of_methodNamed B.named
  have hl := lv_entry av (n := maxL) hlen
  rw [lg_entry_eq]
  generalize (lg_sl av ++ List.replicate (maxL - (lg_sl av).length) Slot.unset).toArray = ls at hl ⊢
  exact body (p, l, e, (headSpec ws rm).room, s, m, av.toArray, below, meth, c) sz ⟨B.exec, B.bytes, hml, hown, hts, hK, fun q h => Or.inr (by rw [← hsz]; exact h), B.notSynchronized⟩ rfl rfl B.returns hsz s.heap [] ls hP (ixA_D hD0) va_S.rf (lva_h hl)
theorem gof_z {l : Launch} {y : MethodName} {ws ws' : List Cond} {rm : Room} {cc : ByteArray} {maxL : Nat} {D : va_G} {cl : List vw_C} {tys : List (ClassId × FieldType)} {N : Nat} {ad : Nat → Nat} {av : List Value} {ct : Nat → va_E} {post : Int32 → (Nat → va_E) → Prop} (hy : plainName y.cls = true) (hw : ws = Cond.code y cc maxL (some .boolean) :: ws') (hlen : (lg_sl av).length ≤ maxL)
    (body : ∀ (M : gM) (sz : Nat), gX M cc y.cls ws tys D cl (ixA N ad sz) maxL → gl M = l → gR M = (headSpec ws rm).room → (gt M).sig.returnType = (some .boolean) → (gs M).heap.size = sz → gW M D cl (ixA N ad sz) maxL 0 0 (MQ (gb M) (va_Qi post (gB D cl tys N ad (ixA N ad sz)) (ixA N ad sz)) (ga M) (gs M) 0 0 (ixA N ad sz)) N ad 0 (lva 0 av) [] ct) : gMi l y ws rm D cl tys N ad av ct post := by
  intro sz
  refine Met.ofW (cc := cc) (maxL := maxL) (ret := (some .boolean)) hy hw ?_
  intro p e s m args below meth c s₁ B hml hv
  obtain ⟨rfl, hsz, hP, hK, hD0⟩ := hv
  have hts := atoms_spec (ws := ws) B.pre
  have hown : s.vm.findClass y.cls = some m.cls := findClass_of_methodNamed B.named
  have hl := lv_entry av (n := maxL) hlen
  rw [lg_entry_eq]
  generalize (lg_sl av ++ List.replicate (maxL - (lg_sl av).length) Slot.unset).toArray = ls at hl ⊢
  exact body (p, l, e, (headSpec ws rm).room, s, m, av.toArray, below, meth, c) sz ⟨B.exec, B.bytes, hml, hown, hts, hK, fun q h => Or.inr (by rw [← hsz]; exact h), B.notSynchronized⟩ rfl rfl B.returns hsz s.heap [] ls hP (ixA_D hD0) va_S.rf (lva_h hl)
theorem gof_v {l : Launch} {y : MethodName} {ws ws' : List Cond} {rm : Room} {cc : ByteArray} {maxL : Nat} {D : va_G} {cl : List vw_C} {tys : List (ClassId × FieldType)} {N : Nat} {ad : Nat → Nat} {av : List Value} {ct : Nat → va_E} {post : (Nat → va_E) → Prop} (hy : plainName y.cls = true) (hw : ws = Cond.code y cc maxL none :: ws') (hlen : (lg_sl av).length ≤ maxL)
    (body : ∀ (M : gM) (sz : Nat), gX M cc y.cls ws tys D cl (ixA N ad sz) maxL → gl M = l → gR M = (headSpec ws rm).room → (gt M).sig.returnType = none → (gs M).heap.size = sz → gW M D cl (ixA N ad sz) maxL 0 0 (MQ (gb M) (va_Qv post (gB D cl tys N ad (ixA N ad sz)) (ixA N ad sz)) (ga M) (gs M) 0 0 (ixA N ad sz)) N ad 0 (lva 0 av) [] ct) : gMv l y ws rm D cl tys N ad av ct post := by
  intro sz
  refine Met.ofW (cc := cc) (maxL := maxL) (ret := none) hy hw ?_
  intro p e s m args below meth c s₁ B hml hv
  obtain ⟨rfl, hsz, hP, hK, hD0⟩ := hv
  have hts := atoms_spec (ws := ws) B.pre
  have hown : s.vm.findClass y.cls = some m.cls := findClass_of_methodNamed B.named
  have hl := lv_entry av (n := maxL) hlen
  rw [lg_entry_eq]
  generalize (lg_sl av ++ List.replicate (maxL - (lg_sl av).length) Slot.unset).toArray = ls at hl ⊢
  exact body (p, l, e, (headSpec ws rm).room, s, m, av.toArray, below, meth, c) sz ⟨B.exec, B.bytes, hml, hown, hts, hK, fun q h => Or.inr (by rw [← hsz]; exact h), B.notSynchronized⟩ rfl rfl B.returns hsz s.heap [] ls hP (ixA_D hD0) va_S.rf (lva_h hl)
theorem g_lret {M : gM} {cc : ByteArray} {own : String} {Ts : List Cond} {tys : List (ClassId × FieldType)} {D : va_G} {cl : List vw_C} {nL : Nat} {N : Nat} {ad : Nat → Nat} {pc : Nat} {lv : gLv} {ct : Nat → va_E} {sz : Nat} {post : Int64 → (Nat → va_E) → Prop} {v : Int64} (C : gX M cc own Ts tys D cl (ixA N ad sz) nL) (hr : (gt M).sig.returnType = some .long) (hp : post v ct) (d : decode cc pc = .ok (.lreturn, 1)) :
    gW M D cl (ixA N ad sz) nL 0 0 (MQ (gb M) (va_Ql post (gB D cl tys N ad (ixA N ad sz)) (ixA N ad sz)) (ga M) (gs M) 0 0 (ixA N ad sz)) N ad pc lv [.long v] ct := by
  intro H locs ls hP hD hS hl
  exact W.lret (v := v) C.1 C.2.1 hr (fun t ht hW => ⟨⟨v, ct, rfl, hp, by rw [ht]; exact hP, va_K.moved hW.alike C.2.2.2.2.2.1, hD⟩, hS.F ht⟩) hS.2.2 d (hlocks := C.2.2.2.2.2.2.2)
theorem g_iret {M : gM} {cc : ByteArray} {own : String} {Ts : List Cond} {tys : List (ClassId × FieldType)} {D : va_G} {cl : List vw_C} {nL : Nat} {N : Nat} {ad : Nat → Nat} {pc : Nat} {lv : gLv} {ct : Nat → va_E} {sz : Nat} {post : Int32 → (Nat → va_E) → Prop} {v : Int32} (C : gX M cc own Ts tys D cl (ixA N ad sz) nL) (hr : (gt M).sig.returnType = some .int) (hp : post v ct) (d : decode cc pc = .ok (.ireturn, 1)) :
    gW M D cl (ixA N ad sz) nL 0 0 (MQ (gb M) (va_Qi post (gB D cl tys N ad (ixA N ad sz)) (ixA N ad sz)) (ga M) (gs M) 0 0 (ixA N ad sz)) N ad pc lv [.int v] ct := by
  intro H locs ls hP hD hS hl
  exact W.iret (v := v) C.1 C.2.1 hr (fun t ht hW => ⟨⟨v, ct, rfl, hp, by rw [ht]; exact hP, va_K.moved hW.alike C.2.2.2.2.2.1, hD⟩, hS.F ht⟩) hS.2.2 d (hlocks := C.2.2.2.2.2.2.2)
theorem g_zret {M : gM} {cc : ByteArray} {own : String} {Ts : List Cond} {tys : List (ClassId × FieldType)} {D : va_G} {cl : List vw_C} {nL : Nat} {N : Nat} {ad : Nat → Nat} {pc : Nat} {lv : gLv} {ct : Nat → va_E} {sz : Nat} {post : Int32 → (Nat → va_E) → Prop} {v : Int32} (C : gX M cc own Ts tys D cl (ixA N ad sz) nL) (hr : (gt M).sig.returnType = some .boolean) (hn : narrow .boolean (.int v) = .int v) (hp : post v ct) (d : decode cc pc = .ok (.ireturn, 1)) :
    gW M D cl (ixA N ad sz) nL 0 0 (MQ (gb M) (va_Qi post (gB D cl tys N ad (ixA N ad sz)) (ixA N ad sz)) (ga M) (gs M) 0 0 (ixA N ad sz)) N ad pc lv [.int v] ct := by
  intro H locs ls hP hD hS hl
  exact W.zret (v := v) C.1 C.2.1 hr hn (fun t ht hW => ⟨⟨v, ct, rfl, hp, by rw [ht]; exact hP, va_K.moved hW.alike C.2.2.2.2.2.1, hD⟩, hS.F ht⟩) hS.2.2 d (hlocks := C.2.2.2.2.2.2.2)
theorem g_vret {M : gM} {cc : ByteArray} {own : String} {Ts : List Cond} {tys : List (ClassId × FieldType)} {D : va_G} {cl : List vw_C} {nL : Nat} {N : Nat} {ad : Nat → Nat} {pc : Nat} {lv : gLv} {ct : Nat → va_E} {sz : Nat} {post : (Nat → va_E) → Prop} (C : gX M cc own Ts tys D cl (ixA N ad sz) nL) (hr : (gt M).sig.returnType = none) (hp : post ct) (d : decode cc pc = .ok (.return_, 1)) :
    gW M D cl (ixA N ad sz) nL 0 0 (MQ (gb M) (va_Qv post (gB D cl tys N ad (ixA N ad sz)) (ixA N ad sz)) (ga M) (gs M) 0 0 (ixA N ad sz)) N ad pc lv [] ct := by
  intro H locs ls hP hD hS hl
  exact W.vret C.1 C.2.1 hr (fun t ht hW => ⟨⟨ct, rfl, hp, by rw [ht]; exact hP, va_K.moved hW.alike C.2.2.2.2.2.1, hD⟩, hS.F ht⟩) hS.2.2 d (hlocks := C.2.2.2.2.2.2.2)
theorem g_cSl {M : gM} {cc : ByteArray} {own : String} {Ts : List Cond} {tys : List (ClassId × FieldType)} {D : va_G} {cl : List vw_C} {A : Nat → Prop} {nL cells slots : Nat} {Q : State → Prop} {N : Nat} {ad : Nat → Nat} {pc : Nat} {lv : gLv} {rest : List Value} {ct : Nat → va_E} {y : MethodName} {wsy wsy' : List Cond} {rmy : Room} {bytes : ByteArray} {maxL index n : Nat} {ret : Option FieldType} {av : List Value} {post : Int64 → (Nat → va_E) → Prop} (C : gX M cc own Ts tys D cl A nL) (hM : gMl (gl M) y wsy rmy D cl tys N ad av ct post) (hG : GoodIn Ts (va_wsS own index y wsy)) (hw : wsy = Cond.code y bytes maxL ret :: wsy') (hrc : rmy.cells = 0 ∧ rmy.slots = 0) (hR : rmy.frames + 1 ≤ (gR M).frames ∧ 8 + (maxL + 11) + rmy.locals ≤ (gR M).locals) (hroom : cells ≤ (gR M).cells ∧ slots ≤ (gR M).slots) (hst : (rest.map fun v => v.category).sum ≤ 8) (hd : y.cls ≠ "java/lang/invoke/MethodHandle" ∧ y.cls ≠ "java/lang/invoke/VarHandle" ∧ (parseMethodDescriptor y.desc).map (fun d => d.parameters.length) = some n) (hn : av.length = n) (d : decode cc pc = .ok (.invokestatic index, 3)) (k : ∀ (v : Int64) (ct1 : Nat → va_E), post v ct1 → gW M D cl A nL cells slots Q N ad (pc + 3) lv (.long v :: rest) ct1) :
    gW M D cl A nL cells slots Q N ad pc lv (av.reverse ++ rest) ct := by
  intro H locs ls hP hD hS hl
  refine va_calll (va_runS (As := av) (rest := rest) ⟨C.1, C.2.1, C.2.2.1, C.2.2.2.1, C.2.2.2.2.1⟩ (hM H.size) (va_cwS n C.2.2.2.2.1 hG hw hrc.1 hrc.2 hd hR) ⟨gP_bl, fun U hU hW => ⟨rfl, by rw [hU], by rw [hU]; exact hP, va_K.moved hW.alike C.2.2.2.2.2.1, hD.weaken (fun _ _ _ _ => trivial)⟩⟩ rfl hn hl.1 rfl (lv_room hst) d ⟨hroom.1, hroom.2⟩) hS (fun q _ h => ixA_up hD hS C.2.2.2.2.2.2.1 q h) (ixA_up hD hS C.2.2.2.2.2.2.1) (fun r u t H1 locs1 ht hvm hw hB hz1 hk1 hS1 => ?_)
  obtain ⟨hP1, hK1, hD1⟩ := hB
  rw [ht] at hP1
  exact k r u hw H1 locs1 ls hP1 (ix_D hD) hS1 hl
theorem g_cVl {M : gM} {cc : ByteArray} {own : String} {Ts : List Cond} {tys : List (ClassId × FieldType)} {D : va_G} {cl : List vw_C} {A : Nat → Prop} {nL cells slots : Nat} {Q : State → Prop} {N : Nat} {ad : Nat → Nat} {pc : Nat} {lv : gLv} {rest : List Value} {ct : Nat → va_E} {y : MethodName} {wsy wsy' : List Cond} {rmy : Room} {bytes : ByteArray} {maxL index n : Nat} {ret : Option FieldType} {av : List Value} {post : Int64 → (Nat → va_E) → Prop} (C : gX M cc own Ts tys D cl A nL) {Cn : String} {T : u_T} {nf ci : Nat} {fs : List Value} (q : Nat) (hq : q < N) (he : ct q = .inr (ci, fs)) (hc : cl[ci]? = some (Cn, T, nf)) (hM : gMl (gl M) y wsy rmy D cl tys N ad (.ref (ad q) :: av) ct post) (hG : GoodIn Ts (wsV own index Cn y wsy)) (hw : wsy = Cond.code y bytes maxL ret :: wsy') (hrc : rmy.cells = 0 ∧ rmy.slots = 0) (hR : rmy.frames + 1 ≤ (gR M).frames ∧ 8 + (maxL + 11) + rmy.locals ≤ (gR M).locals) (hroom : cells ≤ (gR M).cells ∧ slots ≤ (gR M).slots) (hst : (rest.map fun v => v.category).sum ≤ 8) (hd : y.cls = Cn ∧ y.cls ≠ "java/lang/invoke/MethodHandle" ∧ y.cls ≠ "java/lang/invoke/VarHandle" ∧ (parseMethodDescriptor y.desc).map (fun d => d.parameters.length) = some n) (hn : av.length = n) (d : decode cc pc = .ok (.invokevirtual index, 3)) (k : ∀ (v : Int64) (ct1 : Nat → va_E), post v ct1 → gW M D cl A nL cells slots Q N ad (pc + 3) lv (.long v :: rest) ct1) :
    gW M D cl A nL cells slots Q N ad pc lv (av.reverse ++ .ref (ad q) :: rest) ct := by
  intro H locs ls hP hD hS hl
  refine va_calll (va_runV (As := av) (rest := rest) ⟨C.1, C.2.1, C.2.2.1, C.2.2.2.1, C.2.2.2.2.1⟩ (hM H.size) (cwV n C.2.2.2.2.1 hG hw hrc.1 hrc.2 hd hR) ⟨gP_bl, va_recv C.2.2.2.2.2.1 hP hc (ix_e hq he), fun U hU hW => ⟨rfl, by rw [hU], by rw [hU]; exact hP, va_K.moved hW.alike C.2.2.2.2.2.1, hD.weaken (fun _ _ _ _ => trivial)⟩⟩ rfl hn hl.1 rfl (lv_room hst) d ⟨hroom.1, hroom.2⟩) hS (fun q _ h => ixA_up hD hS C.2.2.2.2.2.2.1 q h) (ixA_up hD hS C.2.2.2.2.2.2.1) (fun r u t H1 locs1 ht hvm hw hB hz1 hk1 hS1 => ?_)
  obtain ⟨hP1, hK1, hD1⟩ := hB
  rw [ht] at hP1
  exact k r u hw H1 locs1 ls hP1 (ix_D hD) hS1 hl
theorem g_cSi {M : gM} {cc : ByteArray} {own : String} {Ts : List Cond} {tys : List (ClassId × FieldType)} {D : va_G} {cl : List vw_C} {A : Nat → Prop} {nL cells slots : Nat} {Q : State → Prop} {N : Nat} {ad : Nat → Nat} {pc : Nat} {lv : gLv} {rest : List Value} {ct : Nat → va_E} {y : MethodName} {wsy wsy' : List Cond} {rmy : Room} {bytes : ByteArray} {maxL index n : Nat} {ret : Option FieldType} {av : List Value} {post : Int32 → (Nat → va_E) → Prop} (C : gX M cc own Ts tys D cl A nL) (hM : gMi (gl M) y wsy rmy D cl tys N ad av ct post) (hG : GoodIn Ts (va_wsS own index y wsy)) (hw : wsy = Cond.code y bytes maxL ret :: wsy') (hrc : rmy.cells = 0 ∧ rmy.slots = 0) (hR : rmy.frames + 1 ≤ (gR M).frames ∧ 8 + (maxL + 11) + rmy.locals ≤ (gR M).locals) (hroom : cells ≤ (gR M).cells ∧ slots ≤ (gR M).slots) (hst : (rest.map fun v => v.category).sum ≤ 8) (hd : y.cls ≠ "java/lang/invoke/MethodHandle" ∧ y.cls ≠ "java/lang/invoke/VarHandle" ∧ (parseMethodDescriptor y.desc).map (fun d => d.parameters.length) = some n) (hn : av.length = n) (d : decode cc pc = .ok (.invokestatic index, 3)) (k : ∀ (v : Int32) (ct1 : Nat → va_E), post v ct1 → gW M D cl A nL cells slots Q N ad (pc + 3) lv (.int v :: rest) ct1) :
    gW M D cl A nL cells slots Q N ad pc lv (av.reverse ++ rest) ct := by
  intro H locs ls hP hD hS hl
  refine va_calli (va_runS (As := av) (rest := rest) ⟨C.1, C.2.1, C.2.2.1, C.2.2.2.1, C.2.2.2.2.1⟩ (hM H.size) (va_cwS n C.2.2.2.2.1 hG hw hrc.1 hrc.2 hd hR) ⟨gP_bl, fun U hU hW => ⟨rfl, by rw [hU], by rw [hU]; exact hP, va_K.moved hW.alike C.2.2.2.2.2.1, hD.weaken (fun _ _ _ _ => trivial)⟩⟩ rfl hn hl.1 rfl (lv_room hst) d ⟨hroom.1, hroom.2⟩) hS (fun q _ h => ixA_up hD hS C.2.2.2.2.2.2.1 q h) (ixA_up hD hS C.2.2.2.2.2.2.1) (fun r u t H1 locs1 ht hvm hw hB hz1 hk1 hS1 => ?_)
  obtain ⟨hP1, hK1, hD1⟩ := hB
  rw [ht] at hP1
  exact k r u hw H1 locs1 ls hP1 (ix_D hD) hS1 hl
theorem g_cVi {M : gM} {cc : ByteArray} {own : String} {Ts : List Cond} {tys : List (ClassId × FieldType)} {D : va_G} {cl : List vw_C} {A : Nat → Prop} {nL cells slots : Nat} {Q : State → Prop} {N : Nat} {ad : Nat → Nat} {pc : Nat} {lv : gLv} {rest : List Value} {ct : Nat → va_E} {y : MethodName} {wsy wsy' : List Cond} {rmy : Room} {bytes : ByteArray} {maxL index n : Nat} {ret : Option FieldType} {av : List Value} {post : Int32 → (Nat → va_E) → Prop} (C : gX M cc own Ts tys D cl A nL) {Cn : String} {T : u_T} {nf ci : Nat} {fs : List Value} (q : Nat) (hq : q < N) (he : ct q = .inr (ci, fs)) (hc : cl[ci]? = some (Cn, T, nf)) (hM : gMi (gl M) y wsy rmy D cl tys N ad (.ref (ad q) :: av) ct post) (hG : GoodIn Ts (wsV own index Cn y wsy)) (hw : wsy = Cond.code y bytes maxL ret :: wsy') (hrc : rmy.cells = 0 ∧ rmy.slots = 0) (hR : rmy.frames + 1 ≤ (gR M).frames ∧ 8 + (maxL + 11) + rmy.locals ≤ (gR M).locals) (hroom : cells ≤ (gR M).cells ∧ slots ≤ (gR M).slots) (hst : (rest.map fun v => v.category).sum ≤ 8) (hd : y.cls = Cn ∧ y.cls ≠ "java/lang/invoke/MethodHandle" ∧ y.cls ≠ "java/lang/invoke/VarHandle" ∧ (parseMethodDescriptor y.desc).map (fun d => d.parameters.length) = some n) (hn : av.length = n) (d : decode cc pc = .ok (.invokevirtual index, 3)) (k : ∀ (v : Int32) (ct1 : Nat → va_E), post v ct1 → gW M D cl A nL cells slots Q N ad (pc + 3) lv (.int v :: rest) ct1) :
    gW M D cl A nL cells slots Q N ad pc lv (av.reverse ++ .ref (ad q) :: rest) ct := by
  intro H locs ls hP hD hS hl
  refine va_calli (va_runV (As := av) (rest := rest) ⟨C.1, C.2.1, C.2.2.1, C.2.2.2.1, C.2.2.2.2.1⟩ (hM H.size) (cwV n C.2.2.2.2.1 hG hw hrc.1 hrc.2 hd hR) ⟨gP_bl, va_recv C.2.2.2.2.2.1 hP hc (ix_e hq he), fun U hU hW => ⟨rfl, by rw [hU], by rw [hU]; exact hP, va_K.moved hW.alike C.2.2.2.2.2.1, hD.weaken (fun _ _ _ _ => trivial)⟩⟩ rfl hn hl.1 rfl (lv_room hst) d ⟨hroom.1, hroom.2⟩) hS (fun q _ h => ixA_up hD hS C.2.2.2.2.2.2.1 q h) (ixA_up hD hS C.2.2.2.2.2.2.1) (fun r u t H1 locs1 ht hvm hw hB hz1 hk1 hS1 => ?_)
  obtain ⟨hP1, hK1, hD1⟩ := hB
  rw [ht] at hP1
  exact k r u hw H1 locs1 ls hP1 (ix_D hD) hS1 hl
theorem g_cSv {M : gM} {cc : ByteArray} {own : String} {Ts : List Cond} {tys : List (ClassId × FieldType)} {D : va_G} {cl : List vw_C} {A : Nat → Prop} {nL cells slots : Nat} {Q : State → Prop} {N : Nat} {ad : Nat → Nat} {pc : Nat} {lv : gLv} {rest : List Value} {ct : Nat → va_E} {y : MethodName} {wsy wsy' : List Cond} {rmy : Room} {bytes : ByteArray} {maxL index n : Nat} {ret : Option FieldType} {av : List Value} {post : (Nat → va_E) → Prop} (C : gX M cc own Ts tys D cl A nL) (hM : gMv (gl M) y wsy rmy D cl tys N ad av ct post) (hG : GoodIn Ts (va_wsS own index y wsy)) (hw : wsy = Cond.code y bytes maxL ret :: wsy') (hrc : rmy.cells = 0 ∧ rmy.slots = 0) (hR : rmy.frames + 1 ≤ (gR M).frames ∧ 8 + (maxL + 11) + rmy.locals ≤ (gR M).locals) (hroom : cells ≤ (gR M).cells ∧ slots ≤ (gR M).slots) (hst : (rest.map fun v => v.category).sum ≤ 8) (hd : y.cls ≠ "java/lang/invoke/MethodHandle" ∧ y.cls ≠ "java/lang/invoke/VarHandle" ∧ (parseMethodDescriptor y.desc).map (fun d => d.parameters.length) = some n) (hn : av.length = n) (d : decode cc pc = .ok (.invokestatic index, 3)) (k : ∀ ct1 : Nat → va_E, post ct1 → gW M D cl A nL cells slots Q N ad (pc + 3) lv rest ct1) :
    gW M D cl A nL cells slots Q N ad pc lv (av.reverse ++ rest) ct := by
  intro H locs ls hP hD hS hl
  refine va_callv (va_runS (As := av) (rest := rest) ⟨C.1, C.2.1, C.2.2.1, C.2.2.2.1, C.2.2.2.2.1⟩ (hM H.size) (va_cwS n C.2.2.2.2.1 hG hw hrc.1 hrc.2 hd hR) ⟨gP_bl, fun U hU hW => ⟨rfl, by rw [hU], by rw [hU]; exact hP, va_K.moved hW.alike C.2.2.2.2.2.1, hD.weaken (fun _ _ _ _ => trivial)⟩⟩ rfl hn hl.1 rfl (lv_room hst) d ⟨hroom.1, hroom.2⟩) hS (fun q _ h => ixA_up hD hS C.2.2.2.2.2.2.1 q h) (ixA_up hD hS C.2.2.2.2.2.2.1) (fun u t H1 locs1 ht hvm hw hB hz1 hk1 hS1 => ?_)
  obtain ⟨hP1, hK1, hD1⟩ := hB
  rw [ht] at hP1
  exact k u hw H1 locs1 ls hP1 (ix_D hD) hS1 hl
theorem g_cVv {M : gM} {cc : ByteArray} {own : String} {Ts : List Cond} {tys : List (ClassId × FieldType)} {D : va_G} {cl : List vw_C} {A : Nat → Prop} {nL cells slots : Nat} {Q : State → Prop} {N : Nat} {ad : Nat → Nat} {pc : Nat} {lv : gLv} {rest : List Value} {ct : Nat → va_E} {y : MethodName} {wsy wsy' : List Cond} {rmy : Room} {bytes : ByteArray} {maxL index n : Nat} {ret : Option FieldType} {av : List Value} {post : (Nat → va_E) → Prop} (C : gX M cc own Ts tys D cl A nL) {Cn : String} {T : u_T} {nf ci : Nat} {fs : List Value} (q : Nat) (hq : q < N) (he : ct q = .inr (ci, fs)) (hc : cl[ci]? = some (Cn, T, nf)) (hM : gMv (gl M) y wsy rmy D cl tys N ad (.ref (ad q) :: av) ct post) (hG : GoodIn Ts (wsV own index Cn y wsy)) (hw : wsy = Cond.code y bytes maxL ret :: wsy') (hrc : rmy.cells = 0 ∧ rmy.slots = 0) (hR : rmy.frames + 1 ≤ (gR M).frames ∧ 8 + (maxL + 11) + rmy.locals ≤ (gR M).locals) (hroom : cells ≤ (gR M).cells ∧ slots ≤ (gR M).slots) (hst : (rest.map fun v => v.category).sum ≤ 8) (hd : y.cls = Cn ∧ y.cls ≠ "java/lang/invoke/MethodHandle" ∧ y.cls ≠ "java/lang/invoke/VarHandle" ∧ (parseMethodDescriptor y.desc).map (fun d => d.parameters.length) = some n) (hn : av.length = n) (d : decode cc pc = .ok (.invokevirtual index, 3)) (k : ∀ ct1 : Nat → va_E, post ct1 → gW M D cl A nL cells slots Q N ad (pc + 3) lv rest ct1) :
    gW M D cl A nL cells slots Q N ad pc lv (av.reverse ++ .ref (ad q) :: rest) ct := by
  intro H locs ls hP hD hS hl
  refine va_callv (va_runV (As := av) (rest := rest) ⟨C.1, C.2.1, C.2.2.1, C.2.2.2.1, C.2.2.2.2.1⟩ (hM H.size) (cwV n C.2.2.2.2.1 hG hw hrc.1 hrc.2 hd hR) ⟨gP_bl, va_recv C.2.2.2.2.2.1 hP hc (ix_e hq he), fun U hU hW => ⟨rfl, by rw [hU], by rw [hU]; exact hP, va_K.moved hW.alike C.2.2.2.2.2.1, hD.weaken (fun _ _ _ _ => trivial)⟩⟩ rfl hn hl.1 rfl (lv_room hst) d ⟨hroom.1, hroom.2⟩) hS (fun q _ h => ixA_up hD hS C.2.2.2.2.2.2.1 q h) (ixA_up hD hS C.2.2.2.2.2.2.1) (fun u t H1 locs1 ht hvm hw hB hz1 hk1 hS1 => ?_)
  obtain ⟨hP1, hK1, hD1⟩ := hB
  rw [ht] at hP1
  exact k u hw H1 locs1 ls hP1 (ix_D hD) hS1 hl
end
section
/-! ===== BEGIN printed: names, fields, word lists, decode rows ===== -/
def RX0 : String := "WheelProducts"
def TX0 : u_T := fun k => match k with
  | 0 => ("WheelProducts", "prime", "J", false)
  | 1 => ("WheelProducts", "wheel", "[J", true)
  | 2 => ("WheelProducts", "rows", "[[J", true)
  | 3 => ("WheelProducts", "naturals", "[[J", true)
  | 4 => ("WheelProducts", "factors", "[J", true)
  | 5 => ("WheelProducts", "left", "[J", true)
  | 6 => ("WheelProducts", "right", "[J", true)
  | _ => ("WheelProducts", "answerWords", "[J", true)
def tyX0 : Nat → FieldType := fun k => match k with
  | 0 => .long
  | 1 => .array .long
  | 2 => .array (.array .long)
  | 3 => .array (.array .long)
  | 4 => .array .long
  | 5 => .array .long
  | 6 => .array .long
  | _ => .array .long
abbrev wsX00 : List Cond := u_ws RX0 TX0 8
theorem nmX0 : ∀ a, a < 8 → ∀ b, b < 8 → a ≠ b → (TX0 a).2.1 ≠ (TX0 b).2.1 := by decide +kernel
theorem tyX0_ok : ∀ k, k < 8 → parseFieldDescriptor (TX0 k).2.2.1 = some (tyX0 k) := by decide +kernel
abbrev cX0_init : ByteArray := prog_1_method_1_code
def yX0_init : MethodName := ⟨RX0, "<init>", "()V"⟩
abbrev cX0_field : ByteArray := prog_1_method_2_code
def yX0_field : MethodName := ⟨RX0, "field", "(J)J"⟩
abbrev cX0_times : ByteArray := prog_1_method_3_code
def yX0_times : MethodName := ⟨RX0, "times", "(JJ)J"⟩
abbrev cX0_power : ByteArray := prog_1_method_4_code
def yX0_power : MethodName := ⟨RX0, "power", "(JJ)J"⟩
abbrev cX0_inverse : ByteArray := prog_1_method_5_code
def yX0_inverse : MethodName := ⟨RX0, "inverse", "(J)J"⟩
abbrev cX0_put : ByteArray := prog_1_method_6_code
def yX0_put : MethodName := ⟨RX0, "put", "(IIJ)Z"⟩
abbrev cX0_get : ByteArray := prog_1_method_7_code
def yX0_get : MethodName := ⟨RX0, "get", "(II)J"⟩
abbrev cX0_length : ByteArray := prog_1_method_8_code
def yX0_length : MethodName := ⟨RX0, "length", "(I)I"⟩
abbrev cX0_turn : ByteArray := prog_1_method_9_code
def yX0_turn : MethodName := ⟨RX0, "turn", "(IIZ)V"⟩
abbrev cX0_product : ByteArray := prog_1_method_10_code
def yX0_product : MethodName := ⟨RX0, "product", "(III)I"⟩
abbrev cX0_at : ByteArray := prog_1_method_11_code
def yX0_at : MethodName := ⟨RX0, "at", "(IJ)J"⟩
abbrev cX0_word : ByteArray := prog_1_method_12_code
def yX0_word : MethodName := ⟨RX0, "word", "(IIJ)Z"⟩
abbrev cX0_wordAt : ByteArray := prog_1_method_13_code
def yX0_wordAt : MethodName := ⟨RX0, "wordAt", "(II)J"⟩
abbrev cX0_size : ByteArray := prog_1_method_14_code
def yX0_size : MethodName := ⟨RX0, "size", "(I)I"⟩
abbrev cX0_multiply : ByteArray := prog_1_method_15_code
def yX0_multiply : MethodName := ⟨RX0, "multiply", "(III)I"⟩
abbrev cX0_sum : ByteArray := prog_1_method_16_code
def yX0_sum : MethodName := ⟨RX0, "sum", "(III)I"⟩
abbrev cX0_checkRow : ByteArray := prog_1_method_17_code
def yX0_checkRow : MethodName := ⟨RX0, "checkRow", "(I)V"⟩
abbrev cX0_checkCoefficient : ByteArray := prog_1_method_18_code
def yX0_checkCoefficient : MethodName := ⟨RX0, "checkCoefficient", "(I)V"⟩
abbrev cX0_checkNatural : ByteArray := prog_1_method_19_code
def yX0_checkNatural : MethodName := ⟨RX0, "checkNatural", "(I)V"⟩
abbrev cX0_checkWord : ByteArray := prog_1_method_20_code
def yX0_checkWord : MethodName := ⟨RX0, "checkWord", "(I)V"⟩
abbrev cX0_checkTurn : ByteArray := prog_1_method_21_code
def yX0_checkTurn : MethodName := ⟨RX0, "checkTurn", "(I)V"⟩
abbrev cX0_usedPart : ByteArray := prog_1_method_22_code
def yX0_usedPart : MethodName := ⟨RX0, "usedPart", "([J)I"⟩
abbrev cX0_usePrime : ByteArray := prog_1_method_23_code
def yX0_usePrime : MethodName := ⟨RX0, "usePrime", "(JJ)V"⟩
abbrev cX0_leastRoot : ByteArray := prog_1_method_24_code
def yX0_leastRoot : MethodName := ⟨RX0, "leastRoot", "(J)J"⟩
abbrev cX0_comesToOneOnlyAtTheEnd : ByteArray := prog_1_method_25_code
def yX0_comesToOneOnlyAtTheEnd : MethodName := ⟨RX0, "comesToOneOnlyAtTheEnd", "(JJI)Z"⟩
abbrev cX0_findFactors : ByteArray := prog_1_method_26_code
def yX0_findFactors : MethodName := ⟨RX0, "findFactors", "(J)I"⟩
abbrev cX0_without : ByteArray := prog_1_method_27_code
def yX0_without : MethodName := ⟨RX0, "without", "(JJ)J"⟩
abbrev cX0_rest : ByteArray := prog_1_method_28_code
def yX0_rest : MethodName := ⟨RX0, "rest", "(J)J"⟩
abbrev cX0_powerModulo : ByteArray := prog_1_method_29_code
def yX0_powerModulo : MethodName := ⟨RX0, "powerModulo", "(JJJ)J"⟩
abbrev cX0_inverseOf : ByteArray := prog_1_method_30_code
def yX0_inverseOf : MethodName := ⟨RX0, "inverseOf", "(J)J"⟩
abbrev cX0_turnForward : ByteArray := prog_1_method_31_code
def yX0_turnForward : MethodName := ⟨RX0, "turnForward", "([JI)V"⟩
abbrev cX0_turnBackward : ByteArray := prog_1_method_32_code
def yX0_turnBackward : MethodName := ⟨RX0, "turnBackward", "([JI)V"⟩
abbrev cX0_orderByMirroredBits : ByteArray := prog_1_method_33_code
def yX0_orderByMirroredBits : MethodName := ⟨RX0, "orderByMirroredBits", "([JI)V"⟩
abbrev cX0_nextMirrored : ByteArray := prog_1_method_34_code
def yX0_nextMirrored : MethodName := ⟨RX0, "nextMirrored", "(II)I"⟩
abbrev cX0_swap : ByteArray := prog_1_method_35_code
def yX0_swap : MethodName := ⟨RX0, "swap", "([JII)V"⟩
abbrev cX0_joinHalves : ByteArray := prog_1_method_36_code
def yX0_joinHalves : MethodName := ⟨RX0, "joinHalves", "([JIII)V"⟩
abbrev cX0_turnThatHolds : ByteArray := prog_1_method_37_code
def yX0_turnThatHolds : MethodName := ⟨RX0, "turnThatHolds", "(I)I"⟩
abbrev cX0_multiplyRows : ByteArray := prog_1_method_38_code
def yX0_multiplyRows : MethodName := ⟨RX0, "multiplyRows", "([J[J[JI)V"⟩
abbrev cX0_multiplyWords : ByteArray := prog_1_method_39_code
def yX0_multiplyWords : MethodName := ⟨RX0, "multiplyWords", "([JI[JI)V"⟩
abbrev cX0_addWords : ByteArray := prog_1_method_40_code
def yX0_addWords : MethodName := ⟨RX0, "addWords", "([J[J)J"⟩
def RX1 : String := "WheelProductsModel"
def TX1 : u_T := fun k => match k with
  | 0 => ("WheelProductsModel", "thrown", "I", false)
  | 1 => ("WheelProductsModel", "prime", "J", false)
  | 2 => ("WheelProductsModel", "root", "J", false)
  | 3 => ("WheelProductsModel", "cells", "[J", true)
  | 4 => ("WheelProductsModel", "words", "[J", true)
  | 5 => ("WheelProductsModel", "work", "[J", true)
  | 6 => ("WheelProductsModel", "powers", "[J", true)
  | _ => ("WheelProductsModel", "sums", "[J", true)
def tyX1 : Nat → FieldType := fun k => match k with
  | 0 => .int
  | 1 => .long
  | 2 => .long
  | 3 => .array .long
  | 4 => .array .long
  | 5 => .array .long
  | 6 => .array .long
  | _ => .array .long
abbrev wsX10 : List Cond := u_ws RX1 TX1 8
theorem nmX1 : ∀ a, a < 8 → ∀ b, b < 8 → a ≠ b → (TX1 a).2.1 ≠ (TX1 b).2.1 := by decide +kernel
theorem tyX1_ok : ∀ k, k < 8 → parseFieldDescriptor (TX1 k).2.2.1 = some (tyX1 k) := by decide +kernel
abbrev cX1_init : ByteArray := prog_3_method_1_code
def yX1_init : MethodName := ⟨RX1, "<init>", "()V"⟩
abbrev cX1_thrown : ByteArray := prog_3_method_2_code
def yX1_thrown : MethodName := ⟨RX1, "thrown", "()I"⟩
abbrev cX1_rest : ByteArray := prog_3_method_3_code
def yX1_rest : MethodName := ⟨RX1, "rest", "(J)J"⟩
abbrev cX1_raise : ByteArray := prog_3_method_4_code
def yX1_raise : MethodName := ⟨RX1, "raise", "(JJJ)J"⟩
abbrev cX1_isPrime : ByteArray := prog_3_method_5_code
def yX1_isPrime : MethodName := ⟨RX1, "isPrime", "(J)Z"⟩
abbrev cX1_isRoot : ByteArray := prog_3_method_6_code
def yX1_isRoot : MethodName := ⟨RX1, "isRoot", "(JJ)Z"⟩
abbrev cX1_rootOf : ByteArray := prog_3_method_7_code
def yX1_rootOf : MethodName := ⟨RX1, "rootOf", "(J)J"⟩
abbrev cX1_field : ByteArray := prog_3_method_8_code
def yX1_field : MethodName := ⟨RX1, "field", "(J)J"⟩
abbrev cX1_times : ByteArray := prog_3_method_9_code
def yX1_times : MethodName := ⟨RX1, "times", "(JJ)J"⟩
abbrev cX1_power : ByteArray := prog_3_method_10_code
def yX1_power : MethodName := ⟨RX1, "power", "(JJ)J"⟩
abbrev cX1_inverse : ByteArray := prog_3_method_11_code
def yX1_inverse : MethodName := ⟨RX1, "inverse", "(J)J"⟩
abbrev cX1_isRow : ByteArray := prog_3_method_12_code
def yX1_isRow : MethodName := ⟨RX1, "isRow", "(I)Z"⟩
abbrev cX1_put : ByteArray := prog_3_method_13_code
def yX1_put : MethodName := ⟨RX1, "put", "(IIJ)Z"⟩
abbrev cX1_get : ByteArray := prog_3_method_14_code
def yX1_get : MethodName := ⟨RX1, "get", "(II)J"⟩
abbrev cX1_lengthOf : ByteArray := prog_3_method_15_code
def yX1_lengthOf : MethodName := ⟨RX1, "lengthOf", "(I)I"⟩
abbrev cX1_length : ByteArray := prog_3_method_16_code
def yX1_length : MethodName := ⟨RX1, "length", "(I)I"⟩
abbrev cX1_turn : ByteArray := prog_3_method_17_code
def yX1_turn : MethodName := ⟨RX1, "turn", "(IIZ)V"⟩
abbrev cX1_product : ByteArray := prog_3_method_18_code
def yX1_product : MethodName := ⟨RX1, "product", "(III)I"⟩
abbrev cX1_at : ByteArray := prog_3_method_19_code
def yX1_at : MethodName := ⟨RX1, "at", "(IJ)J"⟩
abbrev cX1_word : ByteArray := prog_3_method_20_code
def yX1_word : MethodName := ⟨RX1, "word", "(IIJ)Z"⟩
abbrev cX1_wordAt : ByteArray := prog_3_method_21_code
def yX1_wordAt : MethodName := ⟨RX1, "wordAt", "(II)J"⟩
abbrev cX1_sizeOf : ByteArray := prog_3_method_22_code
def yX1_sizeOf : MethodName := ⟨RX1, "sizeOf", "(I)I"⟩
abbrev cX1_size : ByteArray := prog_3_method_23_code
def yX1_size : MethodName := ⟨RX1, "size", "(I)I"⟩
abbrev cX1_clearSums : ByteArray := prog_3_method_24_code
def yX1_clearSums : MethodName := ⟨RX1, "clearSums", "()V"⟩
abbrev cX1_take : ByteArray := prog_3_method_25_code
def yX1_take : MethodName := ⟨RX1, "take", "(I)I"⟩
abbrev cX1_multiply : ByteArray := prog_3_method_26_code
def yX1_multiply : MethodName := ⟨RX1, "multiply", "(III)I"⟩
abbrev cX1_sum : ByteArray := prog_3_method_27_code
def yX1_sum : MethodName := ⟨RX1, "sum", "(III)I"⟩
def RJ9 : String := "java/lang/Math"
def TJ9 : u_T := fun k => match k with
  | _ => ("", "", "", false)
def tyJ9 : Nat → FieldType := fun k => match k with
  | _ => .int
abbrev wsJ90 : List Cond := u_ws RJ9 TJ9 0
theorem nmJ9 : ∀ a, a < 0 → ∀ b, b < 0 → a ≠ b → (TJ9 a).2.1 ≠ (TJ9 b).2.1 := by decide +kernel
theorem tyJ9_ok : ∀ k, k < 0 → parseFieldDescriptor (TJ9 k).2.2.1 = some (tyJ9 k) := by decide +kernel
abbrev cJ9_floorMod_f86c9 : ByteArray := prog_7_method_52_code
def yJ9_floorMod_f86c9 : MethodName := ⟨RJ9, "floorMod", "(JJ)J"⟩
def RJ0 : String := "java/lang/String"
def TJ0 : u_T := fun k => match k with
  | _ => ("", "", "", false)
def tyJ0 : Nat → FieldType := fun k => match k with
  | _ => .int
abbrev wsJ00 : List Cond := u_ws RJ0 TJ0 0
theorem nmJ0 : ∀ a, a < 0 → ∀ b, b < 0 → a ≠ b → (TJ0 a).2.1 ≠ (TJ0 b).2.1 := by decide +kernel
theorem tyJ0_ok : ∀ k, k < 0 → parseFieldDescriptor (TJ0 k).2.2.1 = some (tyJ0 k) := by decide +kernel
def RJ10 : String := "java/lang/System"
def TJ10 : u_T := fun k => match k with
  | _ => ("", "", "", false)
def tyJ10 : Nat → FieldType := fun k => match k with
  | _ => .int
abbrev wsJ100 : List Cond := u_ws RJ10 TJ10 0
theorem nmJ10 : ∀ a, a < 0 → ∀ b, b < 0 → a ≠ b → (TJ10 a).2.1 ≠ (TJ10 b).2.1 := by decide +kernel
theorem tyJ10_ok : ∀ k, k < 0 → parseFieldDescriptor (TJ10 k).2.2.1 = some (tyJ10 k) := by decide +kernel
def RJ7 : String := "java/util/Arrays"
def TJ7 : u_T := fun k => match k with
  | _ => ("", "", "", false)
def tyJ7 : Nat → FieldType := fun k => match k with
  | _ => .int
abbrev wsJ70 : List Cond := u_ws RJ7 TJ7 0
theorem nmJ7 : ∀ a, a < 0 → ∀ b, b < 0 → a ≠ b → (TJ7 a).2.1 ≠ (TJ7 b).2.1 := by decide +kernel
theorem tyJ7_ok : ∀ k, k < 0 → parseFieldDescriptor (TJ7 k).2.2.1 = some (tyJ7 k) := by decide +kernel
abbrev cJ7_fill_d0a16 : ByteArray := prog_13_method_101_code
def yJ7_fill_d0a16 : MethodName := ⟨RJ7, "fill", "([JJ)V"⟩
def RL : String := "WheelProductsLaw"
abbrev cL_field : ByteArray := method_3_code
def yL_field : MethodName := ⟨RL, "field", "(LWheelProducts;J[J)I"⟩
abbrev cL_power : ByteArray := method_4_code
def yL_power : MethodName := ⟨RL, "power", "(LWheelProducts;JJ[J)I"⟩
abbrev cL_inverse : ByteArray := method_5_code
def yL_inverse : MethodName := ⟨RL, "inverse", "(LWheelProducts;J[J)I"⟩
abbrev cL_put : ByteArray := method_6_code
def yL_put : MethodName := ⟨RL, "put", "(LWheelProducts;IIJ[J)I"⟩
abbrev cL_get : ByteArray := method_7_code
def yL_get : MethodName := ⟨RL, "get", "(LWheelProducts;II[J)I"⟩
abbrev cL_length : ByteArray := method_8_code
def yL_length : MethodName := ⟨RL, "length", "(LWheelProducts;I[J)I"⟩
abbrev cL_turn : ByteArray := method_9_code
def yL_turn : MethodName := ⟨RL, "turn", "(LWheelProducts;IIZ)I"⟩
abbrev cL_product : ByteArray := method_10_code
def yL_product : MethodName := ⟨RL, "product", "(LWheelProducts;III[J)I"⟩
abbrev cL_at : ByteArray := method_11_code
def yL_at : MethodName := ⟨RL, "at", "(LWheelProducts;IJ[J)I"⟩
abbrev cL_word : ByteArray := method_12_code
def yL_word : MethodName := ⟨RL, "word", "(LWheelProducts;IIJ[J)I"⟩
abbrev cL_wordAt : ByteArray := method_13_code
def yL_wordAt : MethodName := ⟨RL, "wordAt", "(LWheelProducts;II[J)I"⟩
abbrev cL_size : ByteArray := method_14_code
def yL_size : MethodName := ⟨RL, "size", "(LWheelProducts;I[J)I"⟩
abbrev cL_multiply : ByteArray := method_15_code
def yL_multiply : MethodName := ⟨RL, "multiply", "(LWheelProducts;III[J)I"⟩
abbrev cL_sum : ByteArray := method_16_code
def yL_sum : MethodName := ⟨RL, "sum", "(LWheelProducts;III[J)I"⟩
abbrev cL_law : ByteArray := code
def yL_law : MethodName := ⟨RL, "law", "([I)Z"⟩
def wsX0_powerModulo : List Cond := .code yX0_powerModulo cX0_powerModulo 12 (some .long) :: ([])
def wsX0_usePrime : List Cond := .code yX0_usePrime cX0_usePrime 10 none :: ([.fieldLink RX0 71 "WheelProducts" "prime" "J", .constantLong RX0 45 (512), .fieldLink RX0 9 "WheelProducts" "wheel" "[J", .methodLink RX0 77 yX0_powerModulo, .static yX0_powerModulo, .initialized RX0, .code yX0_powerModulo cX0_powerModulo 12 (some .long)] ++ wsX00)
def wsX0_init : List Cond := .code yX0_init cX0_init 1 none :: ([.methodLink RX0 1 objectInit, .instanceMethod objectInit, .code objectInit ⟨#[0xb1]⟩ 1 none, .arrayClass .long, .fieldLink RX0 9 "WheelProducts" "wheel" "[J", .classLink RX0 13 "[[J", .fieldLink RX0 15 "WheelProducts" "rows" "[[J", .fieldLink RX0 18 "WheelProducts" "naturals" "[[J", .fieldLink RX0 21 "WheelProducts" "factors" "[J", .fieldLink RX0 24 "WheelProducts" "left" "[J", .fieldLink RX0 27 "WheelProducts" "right" "[J", .fieldLink RX0 30 "WheelProducts" "answerWords" "[J", .constantLong RX0 33 (998244353), .constantLong RX0 35 (3), .methodLink RX0 37 yX0_usePrime, .instanceMethod yX0_usePrime, .selects RX0 yX0_usePrime yX0_usePrime, .initialized RX0, .code yX0_usePrime cX0_usePrime 10 none, .fieldLink RX0 71 "WheelProducts" "prime" "J", .constantLong RX0 45 (512), .methodLink RX0 77 yX0_powerModulo, .static yX0_powerModulo, .code yX0_powerModulo cX0_powerModulo 12 (some .long)] ++ wsX00)
def wsX0_without : List Cond := .code yX0_without cX0_without 7 (some .long) :: ([])
def wsX0_findFactors : List Cond := .code yX0_findFactors cX0_findFactors 8 (some .int) :: ([.constantLong RX0 41 (2), .fieldLink RX0 21 "WheelProducts" "factors" "[J", .methodLink RX0 167 yX0_without, .static yX0_without, .initialized RX0, .code yX0_without cX0_without 7 (some .long)] ++ wsX00)
def wsX0_comesToOneOnlyAtTheEnd : List Cond := .code yX0_comesToOneOnlyAtTheEnd cX0_comesToOneOnlyAtTheEnd 7 (some .boolean) :: ([.fieldLink RX0 21 "WheelProducts" "factors" "[J", .methodLink RX0 77 yX0_powerModulo, .static yX0_powerModulo, .initialized RX0, .code yX0_powerModulo cX0_powerModulo 12 (some .long)] ++ wsX00)
def wsX0_leastRoot : List Cond := .code yX0_leastRoot cX0_leastRoot 6 (some .long) :: ([.constantLong RX0 41 (2), .constantLong RX0 58 (-1), .methodLink RX0 159 yX0_findFactors, .instanceMethod yX0_findFactors, .selects RX0 yX0_findFactors yX0_findFactors, .initialized RX0, .code yX0_findFactors cX0_findFactors 8 (some .int), .fieldLink RX0 21 "WheelProducts" "factors" "[J", .methodLink RX0 167 yX0_without, .static yX0_without, .code yX0_without cX0_without 7 (some .long), .methodLink RX0 77 yX0_powerModulo, .static yX0_powerModulo, .code yX0_powerModulo cX0_powerModulo 12 (some .long), .methodLink RX0 163 yX0_comesToOneOnlyAtTheEnd, .instanceMethod yX0_comesToOneOnlyAtTheEnd, .selects RX0 yX0_comesToOneOnlyAtTheEnd yX0_comesToOneOnlyAtTheEnd, .code yX0_comesToOneOnlyAtTheEnd cX0_comesToOneOnlyAtTheEnd 7 (some .boolean)] ++ wsX00)
def wsJ7_fill_d0a16 : List Cond := .code yJ7_fill_d0a16 cJ7_fill_d0a16 5 none :: ([])
def wsX0_field_r1 : List Cond := [Cond.classLink RX0 47 "java/lang/IllegalArgumentException", Cond.initialized "java/lang/IllegalArgumentException", Cond.constantLong RX0 41 (2), Cond.constantLong RX0 43 (2147483648), Cond.constantLong RX0 45 (512), Cond.constantLong RX0 58 (-1), Cond.fieldLink RX0 15 "WheelProducts" "rows" "[[J", Cond.methodLink RX0 54 yX0_leastRoot, Cond.instanceMethod yX0_leastRoot, Cond.selects RX0 yX0_leastRoot yX0_leastRoot, Cond.initialized RX0, Cond.code yX0_leastRoot cX0_leastRoot 6 (some .long), Cond.methodLink RX0 159 yX0_findFactors, Cond.instanceMethod yX0_findFactors, Cond.selects RX0 yX0_findFactors yX0_findFactors, Cond.code yX0_findFactors cX0_findFactors 8 (some .int), Cond.fieldLink RX0 21 "WheelProducts" "factors" "[J", Cond.methodLink RX0 167 yX0_without, Cond.static yX0_without, Cond.code yX0_without cX0_without 7 (some .long), Cond.methodLink RX0 77 yX0_powerModulo, Cond.static yX0_powerModulo, Cond.code yX0_powerModulo cX0_powerModulo 12 (some .long), Cond.methodLink RX0 163 yX0_comesToOneOnlyAtTheEnd]
def wsX0_field_r2 : List Cond := [Cond.instanceMethod yX0_comesToOneOnlyAtTheEnd, Cond.selects RX0 yX0_comesToOneOnlyAtTheEnd yX0_comesToOneOnlyAtTheEnd, Cond.code yX0_comesToOneOnlyAtTheEnd cX0_comesToOneOnlyAtTheEnd 7 (some .boolean), Cond.methodLink RX0 37 yX0_usePrime, Cond.instanceMethod yX0_usePrime, Cond.selects RX0 yX0_usePrime yX0_usePrime, Cond.code yX0_usePrime cX0_usePrime 10 none, Cond.fieldLink RX0 71 "WheelProducts" "prime" "J", Cond.fieldLink RX0 9 "WheelProducts" "wheel" "[J", Cond.methodLink RX0 62 yJ7_fill_d0a16, Cond.static yJ7_fill_d0a16, Cond.initialized RJ7, Cond.code yJ7_fill_d0a16 cJ7_fill_d0a16 5 none]
def wsX0_field : List Cond := .code yX0_field cX0_field 6 (some .long) :: ((wsX0_field_r1 ++ wsX0_field_r2) ++ wsX00 ++ (vx_atS RX0 51 "java/lang/IllegalArgumentException" ["java/lang/RuntimeException", "java/lang/Exception"]).filter goodWord)
def wsJ9_floorMod_f86c9 : List Cond := .code yJ9_floorMod_f86c9 cJ9_floorMod_f86c9 6 (some .long) :: ([])
def wsX0_rest : List Cond := .code yX0_rest cX0_rest 3 (some .long) :: ([.fieldLink RX0 71 "WheelProducts" "prime" "J", .methodLink RX0 171 yJ9_floorMod_f86c9, .static yJ9_floorMod_f86c9, .initialized RJ9, .code yJ9_floorMod_f86c9 cJ9_floorMod_f86c9 6 (some .long)] ++ wsX00)
def wsX0_times : List Cond := .code yX0_times cX0_times 5 (some .long) :: ([.fieldLink RX0 71 "WheelProducts" "prime" "J", .methodLink RX0 68 yX0_rest, .instanceMethod yX0_rest, .selects RX0 yX0_rest yX0_rest, .initialized RX0, .code yX0_rest cX0_rest 3 (some .long), .methodLink RX0 171 yJ9_floorMod_f86c9, .static yJ9_floorMod_f86c9, .initialized RJ9, .code yJ9_floorMod_f86c9 cJ9_floorMod_f86c9 6 (some .long)] ++ wsX00)
def wsX0_power : List Cond := .code yX0_power cX0_power 5 (some .long) :: ([.classLink RX0 47 "java/lang/IllegalArgumentException", .initialized "java/lang/IllegalArgumentException", .fieldLink RX0 71 "WheelProducts" "prime" "J", .methodLink RX0 68 yX0_rest, .instanceMethod yX0_rest, .selects RX0 yX0_rest yX0_rest, .initialized RX0, .code yX0_rest cX0_rest 3 (some .long), .methodLink RX0 171 yJ9_floorMod_f86c9, .static yJ9_floorMod_f86c9, .initialized RJ9, .code yJ9_floorMod_f86c9 cJ9_floorMod_f86c9 6 (some .long), .methodLink RX0 77 yX0_powerModulo, .static yX0_powerModulo, .code yX0_powerModulo cX0_powerModulo 12 (some .long)] ++ wsX00 ++ (vx_atS RX0 51 "java/lang/IllegalArgumentException" ["java/lang/RuntimeException", "java/lang/Exception"]).filter goodWord)
def wsX0_inverseOf : List Cond := .code yX0_inverseOf cX0_inverseOf 3 (some .long) :: ([.fieldLink RX0 71 "WheelProducts" "prime" "J", .constantLong RX0 41 (2), .methodLink RX0 77 yX0_powerModulo, .static yX0_powerModulo, .initialized RX0, .code yX0_powerModulo cX0_powerModulo 12 (some .long)] ++ wsX00)
def wsX0_inverse : List Cond := .code yX0_inverse cX0_inverse 5 (some .long) :: ([.classLink RX0 47 "java/lang/IllegalArgumentException", .initialized "java/lang/IllegalArgumentException", .methodLink RX0 68 yX0_rest, .instanceMethod yX0_rest, .selects RX0 yX0_rest yX0_rest, .initialized RX0, .code yX0_rest cX0_rest 3 (some .long), .fieldLink RX0 71 "WheelProducts" "prime" "J", .methodLink RX0 171 yJ9_floorMod_f86c9, .static yJ9_floorMod_f86c9, .initialized RJ9, .code yJ9_floorMod_f86c9 cJ9_floorMod_f86c9 6 (some .long), .methodLink RX0 83 yX0_inverseOf, .instanceMethod yX0_inverseOf, .selects RX0 yX0_inverseOf yX0_inverseOf, .code yX0_inverseOf cX0_inverseOf 3 (some .long), .constantLong RX0 41 (2), .methodLink RX0 77 yX0_powerModulo, .static yX0_powerModulo, .code yX0_powerModulo cX0_powerModulo 12 (some .long)] ++ wsX00 ++ (vx_atS RX0 51 "java/lang/IllegalArgumentException" ["java/lang/RuntimeException", "java/lang/Exception"]).filter goodWord)
def wsX0_checkRow : List Cond := .code yX0_checkRow cX0_checkRow 1 none :: ([.classLink RX0 146 "java/lang/IndexOutOfBoundsException", .initialized "java/lang/IndexOutOfBoundsException"] ++ (vx_atS RX0 150 "java/lang/IndexOutOfBoundsException" ["java/lang/RuntimeException", "java/lang/Exception"]).filter goodWord)
def wsX0_checkCoefficient : List Cond := .code yX0_checkCoefficient cX0_checkCoefficient 1 none :: ([.classLink RX0 146 "java/lang/IndexOutOfBoundsException", .initialized "java/lang/IndexOutOfBoundsException"] ++ (vx_atS RX0 150 "java/lang/IndexOutOfBoundsException" ["java/lang/RuntimeException", "java/lang/Exception"]).filter goodWord)
def wsX0_put : List Cond := .code yX0_put cX0_put 9 (some .boolean) :: ([.fieldLink RX0 15 "WheelProducts" "rows" "[[J", .methodLink RX0 86 yX0_checkRow, .static yX0_checkRow, .initialized RX0, .code yX0_checkRow cX0_checkRow 1 none, .classLink RX0 146 "java/lang/IndexOutOfBoundsException", .initialized "java/lang/IndexOutOfBoundsException", .methodLink RX0 90 yX0_checkCoefficient, .static yX0_checkCoefficient, .code yX0_checkCoefficient cX0_checkCoefficient 1 none, .methodLink RX0 68 yX0_rest, .instanceMethod yX0_rest, .selects RX0 yX0_rest yX0_rest, .code yX0_rest cX0_rest 3 (some .long), .fieldLink RX0 71 "WheelProducts" "prime" "J", .methodLink RX0 171 yJ9_floorMod_f86c9, .static yJ9_floorMod_f86c9, .initialized RJ9, .code yJ9_floorMod_f86c9 cJ9_floorMod_f86c9 6 (some .long)] ++ wsX00 ++ (vx_atS RX0 150 "java/lang/IndexOutOfBoundsException" ["java/lang/RuntimeException", "java/lang/Exception"]).filter goodWord)
def wsX0_get : List Cond := .code yX0_get cX0_get 3 (some .long) :: ([.fieldLink RX0 15 "WheelProducts" "rows" "[[J", .methodLink RX0 86 yX0_checkRow, .static yX0_checkRow, .initialized RX0, .code yX0_checkRow cX0_checkRow 1 none, .classLink RX0 146 "java/lang/IndexOutOfBoundsException", .initialized "java/lang/IndexOutOfBoundsException", .methodLink RX0 90 yX0_checkCoefficient, .static yX0_checkCoefficient, .code yX0_checkCoefficient cX0_checkCoefficient 1 none] ++ wsX00 ++ (vx_atS RX0 150 "java/lang/IndexOutOfBoundsException" ["java/lang/RuntimeException", "java/lang/Exception"]).filter goodWord)
def wsX0_usedPart : List Cond := .code yX0_usedPart cX0_usedPart 2 (some .int) :: ([])
def wsX0_length : List Cond := .code yX0_length cX0_length 2 (some .int) :: ([.fieldLink RX0 15 "WheelProducts" "rows" "[[J", .methodLink RX0 86 yX0_checkRow, .static yX0_checkRow, .initialized RX0, .code yX0_checkRow cX0_checkRow 1 none, .classLink RX0 146 "java/lang/IndexOutOfBoundsException", .initialized "java/lang/IndexOutOfBoundsException", .methodLink RX0 93 yX0_usedPart, .static yX0_usedPart, .code yX0_usedPart cX0_usedPart 2 (some .int)] ++ wsX00 ++ (vx_atS RX0 150 "java/lang/IndexOutOfBoundsException" ["java/lang/RuntimeException", "java/lang/Exception"]).filter goodWord)
def wsX0_checkTurn : List Cond := .code yX0_checkTurn cX0_checkTurn 1 none :: ([.classLink RX0 47 "java/lang/IllegalArgumentException", .initialized "java/lang/IllegalArgumentException"] ++ (vx_atS RX0 51 "java/lang/IllegalArgumentException" ["java/lang/RuntimeException", "java/lang/Exception"]).filter goodWord)
def wsX0_nextMirrored : List Cond := .code yX0_nextMirrored cX0_nextMirrored 4 (some .int) :: ([])
def wsX0_swap : List Cond := .code yX0_swap cX0_swap 5 none :: ([])
def wsX0_orderByMirroredBits : List Cond := .code yX0_orderByMirroredBits cX0_orderByMirroredBits 4 none :: ([.methodLink RX0 187 yX0_nextMirrored, .static yX0_nextMirrored, .initialized RX0, .code yX0_nextMirrored cX0_nextMirrored 4 (some .int), .methodLink RX0 183 yX0_swap, .static yX0_swap, .code yX0_swap cX0_swap 5 none])
def wsX0_joinHalves : List Cond := .code yX0_joinHalves cX0_joinHalves 17 none :: ([.fieldLink RX0 9 "WheelProducts" "wheel" "[J", .fieldLink RX0 71 "WheelProducts" "prime" "J"] ++ wsX00)
def wsX0_turnForward : List Cond := .code yX0_turnForward cX0_turnForward 5 none :: ([.methodLink RX0 176 yX0_orderByMirroredBits, .static yX0_orderByMirroredBits, .initialized RX0, .code yX0_orderByMirroredBits cX0_orderByMirroredBits 4 none, .methodLink RX0 187 yX0_nextMirrored, .static yX0_nextMirrored, .code yX0_nextMirrored cX0_nextMirrored 4 (some .int), .methodLink RX0 183 yX0_swap, .static yX0_swap, .code yX0_swap cX0_swap 5 none, .methodLink RX0 179 yX0_joinHalves, .instanceMethod yX0_joinHalves, .selects RX0 yX0_joinHalves yX0_joinHalves, .code yX0_joinHalves cX0_joinHalves 17 none, .fieldLink RX0 9 "WheelProducts" "wheel" "[J", .fieldLink RX0 71 "WheelProducts" "prime" "J"] ++ wsX00)
def wsX0_turnBackward_r1 : List Cond := [Cond.fieldLink RX0 71 "WheelProducts" "prime" "J", Cond.methodLink RX0 104 yX0_turnForward, Cond.instanceMethod yX0_turnForward, Cond.selects RX0 yX0_turnForward yX0_turnForward, Cond.initialized RX0, Cond.code yX0_turnForward cX0_turnForward 5 none, Cond.methodLink RX0 176 yX0_orderByMirroredBits, Cond.static yX0_orderByMirroredBits, Cond.code yX0_orderByMirroredBits cX0_orderByMirroredBits 4 none, Cond.methodLink RX0 187 yX0_nextMirrored, Cond.static yX0_nextMirrored, Cond.code yX0_nextMirrored cX0_nextMirrored 4 (some .int), Cond.methodLink RX0 183 yX0_swap, Cond.static yX0_swap, Cond.code yX0_swap cX0_swap 5 none, Cond.methodLink RX0 179 yX0_joinHalves, Cond.instanceMethod yX0_joinHalves, Cond.selects RX0 yX0_joinHalves yX0_joinHalves, Cond.code yX0_joinHalves cX0_joinHalves 17 none, Cond.fieldLink RX0 9 "WheelProducts" "wheel" "[J", Cond.methodLink RX0 83 yX0_inverseOf, Cond.instanceMethod yX0_inverseOf, Cond.selects RX0 yX0_inverseOf yX0_inverseOf, Cond.code yX0_inverseOf cX0_inverseOf 3 (some .long)]
def wsX0_turnBackward_r2 : List Cond := [Cond.constantLong RX0 41 (2), Cond.methodLink RX0 77 yX0_powerModulo, Cond.static yX0_powerModulo, Cond.code yX0_powerModulo cX0_powerModulo 12 (some .long)]
def wsX0_turnBackward : List Cond := .code yX0_turnBackward cX0_turnBackward 7 none :: ((wsX0_turnBackward_r1 ++ wsX0_turnBackward_r2) ++ wsX00)
def wsX0_turn_r1 : List Cond := [Cond.fieldLink RX0 15 "WheelProducts" "rows" "[[J", Cond.methodLink RX0 86 yX0_checkRow, Cond.static yX0_checkRow, Cond.initialized RX0, Cond.code yX0_checkRow cX0_checkRow 1 none, Cond.classLink RX0 146 "java/lang/IndexOutOfBoundsException", Cond.initialized "java/lang/IndexOutOfBoundsException", Cond.methodLink RX0 97 yX0_checkTurn, Cond.static yX0_checkTurn, Cond.code yX0_checkTurn cX0_checkTurn 1 none, Cond.classLink RX0 47 "java/lang/IllegalArgumentException", Cond.initialized "java/lang/IllegalArgumentException", Cond.methodLink RX0 100 yX0_turnBackward, Cond.instanceMethod yX0_turnBackward, Cond.selects RX0 yX0_turnBackward yX0_turnBackward, Cond.code yX0_turnBackward cX0_turnBackward 7 none, Cond.fieldLink RX0 71 "WheelProducts" "prime" "J", Cond.methodLink RX0 104 yX0_turnForward, Cond.instanceMethod yX0_turnForward, Cond.selects RX0 yX0_turnForward yX0_turnForward, Cond.code yX0_turnForward cX0_turnForward 5 none, Cond.methodLink RX0 176 yX0_orderByMirroredBits, Cond.static yX0_orderByMirroredBits, Cond.code yX0_orderByMirroredBits cX0_orderByMirroredBits 4 none]
def wsX0_turn_r2 : List Cond := [Cond.methodLink RX0 187 yX0_nextMirrored, Cond.static yX0_nextMirrored, Cond.code yX0_nextMirrored cX0_nextMirrored 4 (some .int), Cond.methodLink RX0 183 yX0_swap, Cond.static yX0_swap, Cond.code yX0_swap cX0_swap 5 none, Cond.methodLink RX0 179 yX0_joinHalves, Cond.instanceMethod yX0_joinHalves, Cond.selects RX0 yX0_joinHalves yX0_joinHalves, Cond.code yX0_joinHalves cX0_joinHalves 17 none, Cond.fieldLink RX0 9 "WheelProducts" "wheel" "[J", Cond.methodLink RX0 83 yX0_inverseOf, Cond.instanceMethod yX0_inverseOf, Cond.selects RX0 yX0_inverseOf yX0_inverseOf, Cond.code yX0_inverseOf cX0_inverseOf 3 (some .long), Cond.constantLong RX0 41 (2), Cond.methodLink RX0 77 yX0_powerModulo, Cond.static yX0_powerModulo, Cond.code yX0_powerModulo cX0_powerModulo 12 (some .long)]
def wsX0_turn : List Cond := .code yX0_turn cX0_turn 4 none :: ((wsX0_turn_r1 ++ wsX0_turn_r2) ++ wsX00 ++ (vx_atS RX0 150 "java/lang/IndexOutOfBoundsException" ["java/lang/RuntimeException", "java/lang/Exception"]).filter goodWord ++ (vx_atS RX0 51 "java/lang/IllegalArgumentException" ["java/lang/RuntimeException", "java/lang/Exception"]).filter goodWord)
def wsX0_turnThatHolds : List Cond := .code yX0_turnThatHolds cX0_turnThatHolds 2 (some .int) :: ([])
def wsX0_multiplyRows_r1 : List Cond := [Cond.fieldLink RX0 24 "WheelProducts" "left" "[J", Cond.methodLink RX0 134 arraycopyName, Cond.native arraycopyName, Cond.static arraycopyName, Cond.initialized "java/lang/System", Cond.fieldLink RX0 27 "WheelProducts" "right" "[J", Cond.fieldLink RX0 71 "WheelProducts" "prime" "J", Cond.methodLink RX0 104 yX0_turnForward, Cond.instanceMethod yX0_turnForward, Cond.selects RX0 yX0_turnForward yX0_turnForward, Cond.initialized RX0, Cond.code yX0_turnForward cX0_turnForward 5 none, Cond.methodLink RX0 176 yX0_orderByMirroredBits, Cond.static yX0_orderByMirroredBits, Cond.code yX0_orderByMirroredBits cX0_orderByMirroredBits 4 none, Cond.methodLink RX0 187 yX0_nextMirrored, Cond.static yX0_nextMirrored, Cond.code yX0_nextMirrored cX0_nextMirrored 4 (some .int), Cond.methodLink RX0 183 yX0_swap, Cond.static yX0_swap, Cond.code yX0_swap cX0_swap 5 none, Cond.methodLink RX0 179 yX0_joinHalves, Cond.instanceMethod yX0_joinHalves, Cond.selects RX0 yX0_joinHalves yX0_joinHalves]
def wsX0_multiplyRows_r2 : List Cond := [Cond.code yX0_joinHalves cX0_joinHalves 17 none, Cond.fieldLink RX0 9 "WheelProducts" "wheel" "[J", Cond.methodLink RX0 100 yX0_turnBackward, Cond.instanceMethod yX0_turnBackward, Cond.selects RX0 yX0_turnBackward yX0_turnBackward, Cond.code yX0_turnBackward cX0_turnBackward 7 none, Cond.methodLink RX0 83 yX0_inverseOf, Cond.instanceMethod yX0_inverseOf, Cond.selects RX0 yX0_inverseOf yX0_inverseOf, Cond.code yX0_inverseOf cX0_inverseOf 3 (some .long), Cond.constantLong RX0 41 (2), Cond.methodLink RX0 77 yX0_powerModulo, Cond.static yX0_powerModulo, Cond.code yX0_powerModulo cX0_powerModulo 12 (some .long), Cond.methodLink RX0 62 yJ7_fill_d0a16, Cond.static yJ7_fill_d0a16, Cond.initialized RJ7, Cond.code yJ7_fill_d0a16 cJ7_fill_d0a16 5 none]
def wsX0_multiplyRows : List Cond := .code yX0_multiplyRows cX0_multiplyRows 6 none :: ((wsX0_multiplyRows_r1 ++ wsX0_multiplyRows_r2) ++ wsX00)
def wsX0_product_r1 : List Cond := [Cond.classLink RX0 107 "java/lang/UnsupportedOperationException", Cond.initialized "java/lang/UnsupportedOperationException", Cond.fieldLink RX0 15 "WheelProducts" "rows" "[[J", Cond.methodLink RX0 86 yX0_checkRow, Cond.static yX0_checkRow, Cond.initialized RX0, Cond.code yX0_checkRow cX0_checkRow 1 none, Cond.classLink RX0 146 "java/lang/IndexOutOfBoundsException", Cond.initialized "java/lang/IndexOutOfBoundsException", Cond.methodLink RX0 93 yX0_usedPart, Cond.static yX0_usedPart, Cond.code yX0_usedPart cX0_usedPart 2 (some .int), Cond.methodLink RX0 62 yJ7_fill_d0a16, Cond.static yJ7_fill_d0a16, Cond.initialized RJ7, Cond.code yJ7_fill_d0a16 cJ7_fill_d0a16 5 none, Cond.methodLink RX0 112 yX0_turnThatHolds, Cond.static yX0_turnThatHolds, Cond.code yX0_turnThatHolds cX0_turnThatHolds 2 (some .int), Cond.methodLink RX0 116 yX0_multiplyRows, Cond.instanceMethod yX0_multiplyRows, Cond.selects RX0 yX0_multiplyRows yX0_multiplyRows, Cond.code yX0_multiplyRows cX0_multiplyRows 6 none, Cond.fieldLink RX0 24 "WheelProducts" "left" "[J"]
def wsX0_product_r2 : List Cond := [Cond.methodLink RX0 134 arraycopyName, Cond.native arraycopyName, Cond.static arraycopyName, Cond.initialized "java/lang/System", Cond.fieldLink RX0 27 "WheelProducts" "right" "[J", Cond.fieldLink RX0 71 "WheelProducts" "prime" "J", Cond.methodLink RX0 104 yX0_turnForward, Cond.instanceMethod yX0_turnForward, Cond.selects RX0 yX0_turnForward yX0_turnForward, Cond.code yX0_turnForward cX0_turnForward 5 none, Cond.methodLink RX0 176 yX0_orderByMirroredBits, Cond.static yX0_orderByMirroredBits, Cond.code yX0_orderByMirroredBits cX0_orderByMirroredBits 4 none, Cond.methodLink RX0 187 yX0_nextMirrored, Cond.static yX0_nextMirrored, Cond.code yX0_nextMirrored cX0_nextMirrored 4 (some .int), Cond.methodLink RX0 183 yX0_swap, Cond.static yX0_swap, Cond.code yX0_swap cX0_swap 5 none, Cond.methodLink RX0 179 yX0_joinHalves, Cond.instanceMethod yX0_joinHalves, Cond.selects RX0 yX0_joinHalves yX0_joinHalves, Cond.code yX0_joinHalves cX0_joinHalves 17 none, Cond.fieldLink RX0 9 "WheelProducts" "wheel" "[J"]
def wsX0_product_r3 : List Cond := [Cond.methodLink RX0 100 yX0_turnBackward, Cond.instanceMethod yX0_turnBackward, Cond.selects RX0 yX0_turnBackward yX0_turnBackward, Cond.code yX0_turnBackward cX0_turnBackward 7 none, Cond.methodLink RX0 83 yX0_inverseOf, Cond.instanceMethod yX0_inverseOf, Cond.selects RX0 yX0_inverseOf yX0_inverseOf, Cond.code yX0_inverseOf cX0_inverseOf 3 (some .long), Cond.constantLong RX0 41 (2), Cond.methodLink RX0 77 yX0_powerModulo, Cond.static yX0_powerModulo, Cond.code yX0_powerModulo cX0_powerModulo 12 (some .long)]
def wsX0_product : List Cond := .code yX0_product cX0_product 7 (some .int) :: ((wsX0_product_r1 ++ (wsX0_product_r2 ++ wsX0_product_r3)) ++ wsX00 ++ (vx_atS RX0 111 "java/lang/UnsupportedOperationException" ["java/lang/RuntimeException", "java/lang/Exception"]).filter goodWord ++ (vx_atS RX0 150 "java/lang/IndexOutOfBoundsException" ["java/lang/RuntimeException", "java/lang/Exception"]).filter goodWord)
def wsX0_at : List Cond := .code yX0_at cX0_at 10 (some .long) :: ([.fieldLink RX0 15 "WheelProducts" "rows" "[[J", .fieldLink RX0 71 "WheelProducts" "prime" "J", .methodLink RX0 86 yX0_checkRow, .static yX0_checkRow, .initialized RX0, .code yX0_checkRow cX0_checkRow 1 none, .classLink RX0 146 "java/lang/IndexOutOfBoundsException", .initialized "java/lang/IndexOutOfBoundsException", .methodLink RX0 68 yX0_rest, .instanceMethod yX0_rest, .selects RX0 yX0_rest yX0_rest, .code yX0_rest cX0_rest 3 (some .long), .methodLink RX0 171 yJ9_floorMod_f86c9, .static yJ9_floorMod_f86c9, .initialized RJ9, .code yJ9_floorMod_f86c9 cJ9_floorMod_f86c9 6 (some .long), .methodLink RX0 93 yX0_usedPart, .static yX0_usedPart, .code yX0_usedPart cX0_usedPart 2 (some .int)] ++ wsX00 ++ (vx_atS RX0 150 "java/lang/IndexOutOfBoundsException" ["java/lang/RuntimeException", "java/lang/Exception"]).filter goodWord)
def wsX0_checkNatural : List Cond := .code yX0_checkNatural cX0_checkNatural 1 none :: ([.classLink RX0 146 "java/lang/IndexOutOfBoundsException", .initialized "java/lang/IndexOutOfBoundsException"] ++ (vx_atS RX0 150 "java/lang/IndexOutOfBoundsException" ["java/lang/RuntimeException", "java/lang/Exception"]).filter goodWord)
def wsX0_checkWord : List Cond := .code yX0_checkWord cX0_checkWord 1 none :: ([.classLink RX0 146 "java/lang/IndexOutOfBoundsException", .initialized "java/lang/IndexOutOfBoundsException"] ++ (vx_atS RX0 150 "java/lang/IndexOutOfBoundsException" ["java/lang/RuntimeException", "java/lang/Exception"]).filter goodWord)
def wsX0_word : List Cond := .code yX0_word cX0_word 9 (some .boolean) :: ([.fieldLink RX0 18 "WheelProducts" "naturals" "[[J", .constantLong RX0 126 (4294967295), .methodLink RX0 120 yX0_checkNatural, .static yX0_checkNatural, .initialized RX0, .code yX0_checkNatural cX0_checkNatural 1 none, .classLink RX0 146 "java/lang/IndexOutOfBoundsException", .initialized "java/lang/IndexOutOfBoundsException", .methodLink RX0 123 yX0_checkWord, .static yX0_checkWord, .code yX0_checkWord cX0_checkWord 1 none] ++ wsX00 ++ (vx_atS RX0 150 "java/lang/IndexOutOfBoundsException" ["java/lang/RuntimeException", "java/lang/Exception"]).filter goodWord)
def wsX0_wordAt : List Cond := .code yX0_wordAt cX0_wordAt 3 (some .long) :: ([.fieldLink RX0 18 "WheelProducts" "naturals" "[[J", .methodLink RX0 120 yX0_checkNatural, .static yX0_checkNatural, .initialized RX0, .code yX0_checkNatural cX0_checkNatural 1 none, .classLink RX0 146 "java/lang/IndexOutOfBoundsException", .initialized "java/lang/IndexOutOfBoundsException", .methodLink RX0 123 yX0_checkWord, .static yX0_checkWord, .code yX0_checkWord cX0_checkWord 1 none] ++ wsX00 ++ (vx_atS RX0 150 "java/lang/IndexOutOfBoundsException" ["java/lang/RuntimeException", "java/lang/Exception"]).filter goodWord)
def wsX0_size : List Cond := .code yX0_size cX0_size 2 (some .int) :: ([.fieldLink RX0 18 "WheelProducts" "naturals" "[[J", .methodLink RX0 120 yX0_checkNatural, .static yX0_checkNatural, .initialized RX0, .code yX0_checkNatural cX0_checkNatural 1 none, .classLink RX0 146 "java/lang/IndexOutOfBoundsException", .initialized "java/lang/IndexOutOfBoundsException", .methodLink RX0 93 yX0_usedPart, .static yX0_usedPart, .code yX0_usedPart cX0_usedPart 2 (some .int)] ++ wsX00 ++ (vx_atS RX0 150 "java/lang/IndexOutOfBoundsException" ["java/lang/RuntimeException", "java/lang/Exception"]).filter goodWord)
def wsX0_multiplyWords : List Cond := .code yX0_multiplyWords cX0_multiplyWords 11 none :: ([.fieldLink RX0 30 "WheelProducts" "answerWords" "[J", .constantLong RX0 126 (4294967295), .methodLink RX0 62 yJ7_fill_d0a16, .static yJ7_fill_d0a16, .initialized RJ7, .code yJ7_fill_d0a16 cJ7_fill_d0a16 5 none] ++ wsX00)
def wsX0_multiply_r1 : List Cond := [Cond.classLink RX0 107 "java/lang/UnsupportedOperationException", Cond.initialized "java/lang/UnsupportedOperationException", Cond.fieldLink RX0 18 "WheelProducts" "naturals" "[[J", Cond.fieldLink RX0 30 "WheelProducts" "answerWords" "[J", Cond.methodLink RX0 134 arraycopyName, Cond.native arraycopyName, Cond.static arraycopyName, Cond.initialized "java/lang/System", Cond.methodLink RX0 120 yX0_checkNatural, Cond.static yX0_checkNatural, Cond.initialized RX0, Cond.code yX0_checkNatural cX0_checkNatural 1 none, Cond.classLink RX0 146 "java/lang/IndexOutOfBoundsException", Cond.initialized "java/lang/IndexOutOfBoundsException", Cond.methodLink RX0 93 yX0_usedPart, Cond.static yX0_usedPart, Cond.code yX0_usedPart cX0_usedPart 2 (some .int), Cond.methodLink RX0 62 yJ7_fill_d0a16, Cond.static yJ7_fill_d0a16, Cond.initialized RJ7, Cond.code yJ7_fill_d0a16 cJ7_fill_d0a16 5 none, Cond.methodLink RX0 130 yX0_multiplyWords, Cond.instanceMethod yX0_multiplyWords, Cond.selects RX0 yX0_multiplyWords yX0_multiplyWords]
def wsX0_multiply_r2 : List Cond := [Cond.code yX0_multiplyWords cX0_multiplyWords 11 none, Cond.constantLong RX0 126 (4294967295)]
def wsX0_multiply : List Cond := .code yX0_multiply cX0_multiply 6 (some .int) :: ((wsX0_multiply_r1 ++ wsX0_multiply_r2) ++ wsX00 ++ (vx_atS RX0 111 "java/lang/UnsupportedOperationException" ["java/lang/RuntimeException", "java/lang/Exception"]).filter goodWord ++ (vx_atS RX0 150 "java/lang/IndexOutOfBoundsException" ["java/lang/RuntimeException", "java/lang/Exception"]).filter goodWord)
def wsX0_addWords : List Cond := .code yX0_addWords cX0_addWords 8 (some .long) :: ([.fieldLink RX0 30 "WheelProducts" "answerWords" "[J", .constantLong RX0 126 (4294967295)] ++ wsX00)
def wsX0_sum : List Cond := .code yX0_sum cX0_sum 4 (some .int) :: ([.classLink RX0 107 "java/lang/UnsupportedOperationException", .initialized "java/lang/UnsupportedOperationException", .fieldLink RX0 18 "WheelProducts" "naturals" "[[J", .fieldLink RX0 30 "WheelProducts" "answerWords" "[J", .methodLink RX0 134 arraycopyName, .native arraycopyName, .static arraycopyName, .initialized "java/lang/System", .methodLink RX0 120 yX0_checkNatural, .static yX0_checkNatural, .initialized RX0, .code yX0_checkNatural cX0_checkNatural 1 none, .classLink RX0 146 "java/lang/IndexOutOfBoundsException", .initialized "java/lang/IndexOutOfBoundsException", .methodLink RX0 140 yX0_addWords, .instanceMethod yX0_addWords, .selects RX0 yX0_addWords yX0_addWords, .code yX0_addWords cX0_addWords 8 (some .long), .constantLong RX0 126 (4294967295), .methodLink RX0 93 yX0_usedPart, .static yX0_usedPart, .code yX0_usedPart cX0_usedPart 2 (some .int)] ++ wsX00 ++ (vx_atS RX0 111 "java/lang/UnsupportedOperationException" ["java/lang/RuntimeException", "java/lang/Exception"]).filter goodWord ++ (vx_atS RX0 150 "java/lang/IndexOutOfBoundsException" ["java/lang/RuntimeException", "java/lang/Exception"]).filter goodWord)
def wsX1_raise : List Cond := .code yX1_raise cX1_raise 12 (some .long) :: ([.constantLong RX1 42 (2)])
def wsX1_isRoot : List Cond := .code yX1_isRoot cX1_isRoot 9 (some .boolean) :: ([.constantLong RX1 42 (2), .methodLink RX1 44 yX1_raise, .static yX1_raise, .initialized RX1, .code yX1_raise cX1_raise 12 (some .long)])
def wsX1_rootOf : List Cond := .code yX1_rootOf cX1_rootOf 4 (some .long) :: ([.methodLink RX1 48 yX1_isRoot, .static yX1_isRoot, .initialized RX1, .code yX1_isRoot cX1_isRoot 9 (some .boolean), .constantLong RX1 42 (2), .methodLink RX1 44 yX1_raise, .static yX1_raise, .code yX1_raise cX1_raise 12 (some .long)])
def wsX1_init : List Cond := .code yX1_init cX1_init 1 none :: ([.methodLink RX1 1 objectInit, .instanceMethod objectInit, .code objectInit ⟨#[0xb1]⟩ 1 none, .arrayClass .long, .fieldLink RX1 7 "WheelProductsModel" "cells" "[J", .fieldLink RX1 13 "WheelProductsModel" "words" "[J", .fieldLink RX1 16 "WheelProductsModel" "work" "[J", .fieldLink RX1 19 "WheelProductsModel" "powers" "[J", .fieldLink RX1 22 "WheelProductsModel" "sums" "[J", .constantLong RX1 25 (998244353), .fieldLink RX1 27 "WheelProductsModel" "prime" "J", .fieldLink RX1 35 "WheelProductsModel" "root" "J", .methodLink RX1 31 yX1_rootOf, .static yX1_rootOf, .initialized RX1, .code yX1_rootOf cX1_rootOf 4 (some .long), .methodLink RX1 48 yX1_isRoot, .static yX1_isRoot, .code yX1_isRoot cX1_isRoot 9 (some .boolean), .constantLong RX1 42 (2), .methodLink RX1 44 yX1_raise, .static yX1_raise, .code yX1_raise cX1_raise 12 (some .long)] ++ wsX10)
def wsX1_thrown : List Cond := .code yX1_thrown cX1_thrown 1 (some .int) :: ([.fieldLink RX1 38 "WheelProductsModel" "thrown" "I"] ++ wsX10)
def wsX1_rest : List Cond := .code yX1_rest cX1_rest 5 (some .long) :: ([.fieldLink RX1 27 "WheelProductsModel" "prime" "J"] ++ wsX10)
def wsX1_isPrime : List Cond := .code yX1_isPrime cX1_isPrime 4 (some .boolean) :: ([.constantLong RX1 42 (2)])
def wsX1_field : List Cond := .code yX1_field cX1_field 4 (some .long) :: ([.constantLong RX1 52 (2147483647), .constantLong RX1 54 (512), .fieldLink RX1 38 "WheelProductsModel" "thrown" "I", .fieldLink RX1 27 "WheelProductsModel" "prime" "J", .fieldLink RX1 35 "WheelProductsModel" "root" "J", .fieldLink RX1 7 "WheelProductsModel" "cells" "[J", .methodLink RX1 56 yX1_isPrime, .static yX1_isPrime, .initialized RX1, .code yX1_isPrime cX1_isPrime 4 (some .boolean), .constantLong RX1 42 (2), .methodLink RX1 31 yX1_rootOf, .static yX1_rootOf, .code yX1_rootOf cX1_rootOf 4 (some .long), .methodLink RX1 48 yX1_isRoot, .static yX1_isRoot, .code yX1_isRoot cX1_isRoot 9 (some .boolean), .methodLink RX1 44 yX1_raise, .static yX1_raise, .code yX1_raise cX1_raise 12 (some .long)] ++ wsX10)
def wsX1_times : List Cond := .code yX1_times cX1_times 5 (some .long) :: ([.fieldLink RX1 38 "WheelProductsModel" "thrown" "I", .fieldLink RX1 27 "WheelProductsModel" "prime" "J", .methodLink RX1 60 yX1_rest, .instanceMethod yX1_rest, .selects RX1 yX1_rest yX1_rest, .initialized RX1, .code yX1_rest cX1_rest 5 (some .long)] ++ wsX10)
def wsX1_power : List Cond := .code yX1_power cX1_power 5 (some .long) :: ([.fieldLink RX1 38 "WheelProductsModel" "thrown" "I", .fieldLink RX1 27 "WheelProductsModel" "prime" "J", .methodLink RX1 60 yX1_rest, .instanceMethod yX1_rest, .selects RX1 yX1_rest yX1_rest, .initialized RX1, .code yX1_rest cX1_rest 5 (some .long), .methodLink RX1 44 yX1_raise, .static yX1_raise, .code yX1_raise cX1_raise 12 (some .long), .constantLong RX1 42 (2)] ++ wsX10)
def wsX1_inverse : List Cond := .code yX1_inverse cX1_inverse 3 (some .long) :: ([.fieldLink RX1 38 "WheelProductsModel" "thrown" "I", .fieldLink RX1 27 "WheelProductsModel" "prime" "J", .constantLong RX1 42 (2), .methodLink RX1 60 yX1_rest, .instanceMethod yX1_rest, .selects RX1 yX1_rest yX1_rest, .initialized RX1, .code yX1_rest cX1_rest 5 (some .long), .methodLink RX1 44 yX1_raise, .static yX1_raise, .code yX1_raise cX1_raise 12 (some .long)] ++ wsX10)
def wsX1_isRow : List Cond := .code yX1_isRow cX1_isRow 1 (some .boolean) :: ([])
def wsX1_put : List Cond := .code yX1_put cX1_put 7 (some .boolean) :: ([.fieldLink RX1 38 "WheelProductsModel" "thrown" "I", .fieldLink RX1 7 "WheelProductsModel" "cells" "[J", .methodLink RX1 63 yX1_isRow, .static yX1_isRow, .initialized RX1, .code yX1_isRow cX1_isRow 1 (some .boolean), .methodLink RX1 60 yX1_rest, .instanceMethod yX1_rest, .selects RX1 yX1_rest yX1_rest, .code yX1_rest cX1_rest 5 (some .long), .fieldLink RX1 27 "WheelProductsModel" "prime" "J"] ++ wsX10)
def wsX1_get : List Cond := .code yX1_get cX1_get 3 (some .long) :: ([.fieldLink RX1 38 "WheelProductsModel" "thrown" "I", .fieldLink RX1 7 "WheelProductsModel" "cells" "[J", .methodLink RX1 63 yX1_isRow, .static yX1_isRow, .initialized RX1, .code yX1_isRow cX1_isRow 1 (some .boolean)] ++ wsX10)
def wsX1_lengthOf : List Cond := .code yX1_lengthOf cX1_lengthOf 3 (some .int) :: ([.fieldLink RX1 7 "WheelProductsModel" "cells" "[J"] ++ wsX10)
def wsX1_length : List Cond := .code yX1_length cX1_length 2 (some .int) :: ([.fieldLink RX1 38 "WheelProductsModel" "thrown" "I", .methodLink RX1 63 yX1_isRow, .static yX1_isRow, .initialized RX1, .code yX1_isRow cX1_isRow 1 (some .boolean), .methodLink RX1 67 yX1_lengthOf, .instanceMethod yX1_lengthOf, .selects RX1 yX1_lengthOf yX1_lengthOf, .code yX1_lengthOf cX1_lengthOf 3 (some .int), .fieldLink RX1 7 "WheelProductsModel" "cells" "[J"] ++ wsX10)
def wsX1_turn : List Cond := .code yX1_turn cX1_turn 16 none :: ([.fieldLink RX1 38 "WheelProductsModel" "thrown" "I", .fieldLink RX1 35 "WheelProductsModel" "root" "J", .fieldLink RX1 27 "WheelProductsModel" "prime" "J", .constantLong RX1 42 (2), .fieldLink RX1 19 "WheelProductsModel" "powers" "[J", .fieldLink RX1 7 "WheelProductsModel" "cells" "[J", .fieldLink RX1 16 "WheelProductsModel" "work" "[J", .methodLink RX1 63 yX1_isRow, .static yX1_isRow, .initialized RX1, .code yX1_isRow cX1_isRow 1 (some .boolean), .methodLink RX1 44 yX1_raise, .static yX1_raise, .code yX1_raise cX1_raise 12 (some .long)] ++ wsX10)
def wsX1_product : List Cond := .code yX1_product cX1_product 9 (some .int) :: ([.fieldLink RX1 38 "WheelProductsModel" "thrown" "I", .fieldLink RX1 16 "WheelProductsModel" "work" "[J", .fieldLink RX1 7 "WheelProductsModel" "cells" "[J", .fieldLink RX1 27 "WheelProductsModel" "prime" "J", .methodLink RX1 63 yX1_isRow, .static yX1_isRow, .initialized RX1, .code yX1_isRow cX1_isRow 1 (some .boolean), .methodLink RX1 67 yX1_lengthOf, .instanceMethod yX1_lengthOf, .selects RX1 yX1_lengthOf yX1_lengthOf, .code yX1_lengthOf cX1_lengthOf 3 (some .int)] ++ wsX10)
def wsX1_at : List Cond := .code yX1_at cX1_at 9 (some .long) :: ([.fieldLink RX1 38 "WheelProductsModel" "thrown" "I", .fieldLink RX1 7 "WheelProductsModel" "cells" "[J", .fieldLink RX1 27 "WheelProductsModel" "prime" "J", .methodLink RX1 63 yX1_isRow, .static yX1_isRow, .initialized RX1, .code yX1_isRow cX1_isRow 1 (some .boolean), .methodLink RX1 60 yX1_rest, .instanceMethod yX1_rest, .selects RX1 yX1_rest yX1_rest, .code yX1_rest cX1_rest 5 (some .long)] ++ wsX10)
def wsX1_word : List Cond := .code yX1_word cX1_word 7 (some .boolean) :: ([.fieldLink RX1 38 "WheelProductsModel" "thrown" "I", .fieldLink RX1 13 "WheelProductsModel" "words" "[J", .constantLong RX1 71 (4294967295), .methodLink RX1 63 yX1_isRow, .static yX1_isRow, .initialized RX1, .code yX1_isRow cX1_isRow 1 (some .boolean)] ++ wsX10)
def wsX1_wordAt : List Cond := .code yX1_wordAt cX1_wordAt 3 (some .long) :: ([.fieldLink RX1 38 "WheelProductsModel" "thrown" "I", .fieldLink RX1 13 "WheelProductsModel" "words" "[J", .methodLink RX1 63 yX1_isRow, .static yX1_isRow, .initialized RX1, .code yX1_isRow cX1_isRow 1 (some .boolean)] ++ wsX10)
def wsX1_sizeOf : List Cond := .code yX1_sizeOf cX1_sizeOf 3 (some .int) :: ([.fieldLink RX1 13 "WheelProductsModel" "words" "[J"] ++ wsX10)
def wsX1_size : List Cond := .code yX1_size cX1_size 2 (some .int) :: ([.fieldLink RX1 38 "WheelProductsModel" "thrown" "I", .methodLink RX1 63 yX1_isRow, .static yX1_isRow, .initialized RX1, .code yX1_isRow cX1_isRow 1 (some .boolean), .methodLink RX1 73 yX1_sizeOf, .instanceMethod yX1_sizeOf, .selects RX1 yX1_sizeOf yX1_sizeOf, .code yX1_sizeOf cX1_sizeOf 3 (some .int), .fieldLink RX1 13 "WheelProductsModel" "words" "[J"] ++ wsX10)
def wsX1_clearSums : List Cond := .code yX1_clearSums cX1_clearSums 2 none :: ([.fieldLink RX1 22 "WheelProductsModel" "sums" "[J"] ++ wsX10)
def wsX1_take : List Cond := .code yX1_take cX1_take 3 (some .int) :: ([.fieldLink RX1 13 "WheelProductsModel" "words" "[J", .fieldLink RX1 22 "WheelProductsModel" "sums" "[J", .methodLink RX1 73 yX1_sizeOf, .instanceMethod yX1_sizeOf, .selects RX1 yX1_sizeOf yX1_sizeOf, .initialized RX1, .code yX1_sizeOf cX1_sizeOf 3 (some .int)] ++ wsX10)
def wsX1_multiply : List Cond := .code yX1_multiply cX1_multiply 13 (some .int) :: ([.fieldLink RX1 38 "WheelProductsModel" "thrown" "I", .fieldLink RX1 13 "WheelProductsModel" "words" "[J", .fieldLink RX1 22 "WheelProductsModel" "sums" "[J", .constantLong RX1 71 (4294967295), .methodLink RX1 63 yX1_isRow, .static yX1_isRow, .initialized RX1, .code yX1_isRow cX1_isRow 1 (some .boolean), .methodLink RX1 73 yX1_sizeOf, .instanceMethod yX1_sizeOf, .selects RX1 yX1_sizeOf yX1_sizeOf, .code yX1_sizeOf cX1_sizeOf 3 (some .int), .methodLink RX1 76 yX1_clearSums, .instanceMethod yX1_clearSums, .selects RX1 yX1_clearSums yX1_clearSums, .code yX1_clearSums cX1_clearSums 2 none, .methodLink RX1 79 yX1_take, .instanceMethod yX1_take, .selects RX1 yX1_take yX1_take, .code yX1_take cX1_take 3 (some .int)] ++ wsX10)
def wsX1_sum : List Cond := .code yX1_sum cX1_sum 10 (some .int) :: ([.fieldLink RX1 38 "WheelProductsModel" "thrown" "I", .fieldLink RX1 13 "WheelProductsModel" "words" "[J", .fieldLink RX1 22 "WheelProductsModel" "sums" "[J", .constantLong RX1 71 (4294967295), .methodLink RX1 63 yX1_isRow, .static yX1_isRow, .initialized RX1, .code yX1_isRow cX1_isRow 1 (some .boolean), .methodLink RX1 76 yX1_clearSums, .instanceMethod yX1_clearSums, .selects RX1 yX1_clearSums yX1_clearSums, .code yX1_clearSums cX1_clearSums 2 none, .methodLink RX1 79 yX1_take, .instanceMethod yX1_take, .selects RX1 yX1_take yX1_take, .code yX1_take cX1_take 3 (some .int), .methodLink RX1 73 yX1_sizeOf, .instanceMethod yX1_sizeOf, .selects RX1 yX1_sizeOf yX1_sizeOf, .code yX1_sizeOf cX1_sizeOf 3 (some .int)] ++ wsX10)
def wsL_field_r1 : List Cond := [Cond.classLink RL 13 "java/lang/IllegalArgumentException", Cond.methodLink RL 7 yX0_field, Cond.instanceMethod yX0_field, Cond.selects RX0 yX0_field yX0_field, Cond.initialized RX0, Cond.code yX0_field cX0_field 6 (some .long), Cond.classLink RX0 47 "java/lang/IllegalArgumentException", Cond.initialized "java/lang/IllegalArgumentException", Cond.constantLong RX0 41 (2), Cond.constantLong RX0 43 (2147483648), Cond.constantLong RX0 45 (512), Cond.constantLong RX0 58 (-1), Cond.fieldLink RX0 15 "WheelProducts" "rows" "[[J", Cond.methodLink RX0 54 yX0_leastRoot, Cond.instanceMethod yX0_leastRoot, Cond.selects RX0 yX0_leastRoot yX0_leastRoot, Cond.code yX0_leastRoot cX0_leastRoot 6 (some .long), Cond.methodLink RX0 159 yX0_findFactors, Cond.instanceMethod yX0_findFactors, Cond.selects RX0 yX0_findFactors yX0_findFactors, Cond.code yX0_findFactors cX0_findFactors 8 (some .int), Cond.fieldLink RX0 21 "WheelProducts" "factors" "[J", Cond.methodLink RX0 167 yX0_without, Cond.static yX0_without]
def wsL_field_r2 : List Cond := [Cond.code yX0_without cX0_without 7 (some .long), Cond.methodLink RX0 77 yX0_powerModulo, Cond.static yX0_powerModulo, Cond.code yX0_powerModulo cX0_powerModulo 12 (some .long), Cond.methodLink RX0 163 yX0_comesToOneOnlyAtTheEnd, Cond.instanceMethod yX0_comesToOneOnlyAtTheEnd, Cond.selects RX0 yX0_comesToOneOnlyAtTheEnd yX0_comesToOneOnlyAtTheEnd, Cond.code yX0_comesToOneOnlyAtTheEnd cX0_comesToOneOnlyAtTheEnd 7 (some .boolean), Cond.methodLink RX0 37 yX0_usePrime, Cond.instanceMethod yX0_usePrime, Cond.selects RX0 yX0_usePrime yX0_usePrime, Cond.code yX0_usePrime cX0_usePrime 10 none, Cond.fieldLink RX0 71 "WheelProducts" "prime" "J", Cond.fieldLink RX0 9 "WheelProducts" "wheel" "[J", Cond.methodLink RX0 62 yJ7_fill_d0a16, Cond.static yJ7_fill_d0a16, Cond.initialized RJ7, Cond.code yJ7_fill_d0a16 cJ7_fill_d0a16 5 none]
def wsL_field : List Cond := .codeWith yL_field cL_field 5 (some .int) [(0, 8, 11, 13)] :: ((wsL_field_r1 ++ wsL_field_r2) ++ wsX00 ++ (vx_atS RX0 51 "java/lang/IllegalArgumentException" ["java/lang/RuntimeException", "java/lang/Exception"]).filter goodWord)
def wsL_power : List Cond := .codeWith yL_power cL_power 7 (some .int) [(0, 10, 13, 13)] :: ([.classLink RL 13 "java/lang/IllegalArgumentException", .methodLink RL 15 yX0_power, .instanceMethod yX0_power, .selects RX0 yX0_power yX0_power, .initialized RX0, .code yX0_power cX0_power 5 (some .long), .classLink RX0 47 "java/lang/IllegalArgumentException", .initialized "java/lang/IllegalArgumentException", .fieldLink RX0 71 "WheelProducts" "prime" "J", .methodLink RX0 68 yX0_rest, .instanceMethod yX0_rest, .selects RX0 yX0_rest yX0_rest, .code yX0_rest cX0_rest 3 (some .long), .methodLink RX0 171 yJ9_floorMod_f86c9, .static yJ9_floorMod_f86c9, .initialized RJ9, .code yJ9_floorMod_f86c9 cJ9_floorMod_f86c9 6 (some .long), .methodLink RX0 77 yX0_powerModulo, .static yX0_powerModulo, .code yX0_powerModulo cX0_powerModulo 12 (some .long)] ++ wsX00 ++ (vx_atS RX0 51 "java/lang/IllegalArgumentException" ["java/lang/RuntimeException", "java/lang/Exception"]).filter goodWord)
def wsL_inverse_r1 : List Cond := [Cond.classLink RL 13 "java/lang/IllegalArgumentException", Cond.methodLink RL 19 yX0_inverse, Cond.instanceMethod yX0_inverse, Cond.selects RX0 yX0_inverse yX0_inverse, Cond.initialized RX0, Cond.code yX0_inverse cX0_inverse 5 (some .long), Cond.classLink RX0 47 "java/lang/IllegalArgumentException", Cond.initialized "java/lang/IllegalArgumentException", Cond.methodLink RX0 68 yX0_rest, Cond.instanceMethod yX0_rest, Cond.selects RX0 yX0_rest yX0_rest, Cond.code yX0_rest cX0_rest 3 (some .long), Cond.fieldLink RX0 71 "WheelProducts" "prime" "J", Cond.methodLink RX0 171 yJ9_floorMod_f86c9, Cond.static yJ9_floorMod_f86c9, Cond.initialized RJ9, Cond.code yJ9_floorMod_f86c9 cJ9_floorMod_f86c9 6 (some .long), Cond.methodLink RX0 83 yX0_inverseOf, Cond.instanceMethod yX0_inverseOf, Cond.selects RX0 yX0_inverseOf yX0_inverseOf, Cond.code yX0_inverseOf cX0_inverseOf 3 (some .long), Cond.constantLong RX0 41 (2), Cond.methodLink RX0 77 yX0_powerModulo, Cond.static yX0_powerModulo]
def wsL_inverse_r2 : List Cond := [Cond.code yX0_powerModulo cX0_powerModulo 12 (some .long)]
def wsL_inverse : List Cond := .codeWith yL_inverse cL_inverse 5 (some .int) [(0, 8, 11, 13)] :: ((wsL_inverse_r1 ++ wsL_inverse_r2) ++ wsX00 ++ (vx_atS RX0 51 "java/lang/IllegalArgumentException" ["java/lang/RuntimeException", "java/lang/Exception"]).filter goodWord)
def wsL_put : List Cond := .codeWith yL_put cL_put 7 (some .int) [(0, 19, 22, 26)] :: ([.classLink RL 26 "java/lang/IndexOutOfBoundsException", .methodLink RL 22 yX0_put, .instanceMethod yX0_put, .selects RX0 yX0_put yX0_put, .initialized RX0, .code yX0_put cX0_put 9 (some .boolean), .fieldLink RX0 15 "WheelProducts" "rows" "[[J", .methodLink RX0 86 yX0_checkRow, .static yX0_checkRow, .code yX0_checkRow cX0_checkRow 1 none, .classLink RX0 146 "java/lang/IndexOutOfBoundsException", .initialized "java/lang/IndexOutOfBoundsException", .methodLink RX0 90 yX0_checkCoefficient, .static yX0_checkCoefficient, .code yX0_checkCoefficient cX0_checkCoefficient 1 none, .methodLink RX0 68 yX0_rest, .instanceMethod yX0_rest, .selects RX0 yX0_rest yX0_rest, .code yX0_rest cX0_rest 3 (some .long), .fieldLink RX0 71 "WheelProducts" "prime" "J", .methodLink RX0 171 yJ9_floorMod_f86c9, .static yJ9_floorMod_f86c9, .initialized RJ9, .code yJ9_floorMod_f86c9 cJ9_floorMod_f86c9 6 (some .long)] ++ wsX00 ++ (vx_atS RX0 150 "java/lang/IndexOutOfBoundsException" ["java/lang/RuntimeException", "java/lang/Exception"]).filter goodWord)
def wsL_get : List Cond := .codeWith yL_get cL_get 5 (some .int) [(0, 9, 12, 26)] :: ([.classLink RL 26 "java/lang/IndexOutOfBoundsException", .methodLink RL 28 yX0_get, .instanceMethod yX0_get, .selects RX0 yX0_get yX0_get, .initialized RX0, .code yX0_get cX0_get 3 (some .long), .fieldLink RX0 15 "WheelProducts" "rows" "[[J", .methodLink RX0 86 yX0_checkRow, .static yX0_checkRow, .code yX0_checkRow cX0_checkRow 1 none, .classLink RX0 146 "java/lang/IndexOutOfBoundsException", .initialized "java/lang/IndexOutOfBoundsException", .methodLink RX0 90 yX0_checkCoefficient, .static yX0_checkCoefficient, .code yX0_checkCoefficient cX0_checkCoefficient 1 none] ++ wsX00 ++ (vx_atS RX0 150 "java/lang/IndexOutOfBoundsException" ["java/lang/RuntimeException", "java/lang/Exception"]).filter goodWord)
def wsL_length : List Cond := .codeWith yL_length cL_length 4 (some .int) [(0, 9, 12, 26)] :: ([.classLink RL 26 "java/lang/IndexOutOfBoundsException", .methodLink RL 32 yX0_length, .instanceMethod yX0_length, .selects RX0 yX0_length yX0_length, .initialized RX0, .code yX0_length cX0_length 2 (some .int), .fieldLink RX0 15 "WheelProducts" "rows" "[[J", .methodLink RX0 86 yX0_checkRow, .static yX0_checkRow, .code yX0_checkRow cX0_checkRow 1 none, .classLink RX0 146 "java/lang/IndexOutOfBoundsException", .initialized "java/lang/IndexOutOfBoundsException", .methodLink RX0 93 yX0_usedPart, .static yX0_usedPart, .code yX0_usedPart cX0_usedPart 2 (some .int)] ++ wsX00 ++ (vx_atS RX0 150 "java/lang/IndexOutOfBoundsException" ["java/lang/RuntimeException", "java/lang/Exception"]).filter goodWord)
def wsL_turn_r1 : List Cond := [Cond.classLink RL 26 "java/lang/IndexOutOfBoundsException", Cond.classLink RL 13 "java/lang/IllegalArgumentException", Cond.methodLink RL 36 yX0_turn, Cond.instanceMethod yX0_turn, Cond.selects RX0 yX0_turn yX0_turn, Cond.initialized RX0, Cond.code yX0_turn cX0_turn 4 none, Cond.fieldLink RX0 15 "WheelProducts" "rows" "[[J", Cond.methodLink RX0 86 yX0_checkRow, Cond.static yX0_checkRow, Cond.code yX0_checkRow cX0_checkRow 1 none, Cond.classLink RX0 146 "java/lang/IndexOutOfBoundsException", Cond.initialized "java/lang/IndexOutOfBoundsException", Cond.methodLink RX0 97 yX0_checkTurn, Cond.static yX0_checkTurn, Cond.code yX0_checkTurn cX0_checkTurn 1 none, Cond.classLink RX0 47 "java/lang/IllegalArgumentException", Cond.initialized "java/lang/IllegalArgumentException", Cond.methodLink RX0 100 yX0_turnBackward, Cond.instanceMethod yX0_turnBackward, Cond.selects RX0 yX0_turnBackward yX0_turnBackward, Cond.code yX0_turnBackward cX0_turnBackward 7 none, Cond.fieldLink RX0 71 "WheelProducts" "prime" "J", Cond.methodLink RX0 104 yX0_turnForward]
def wsL_turn_r2 : List Cond := [Cond.instanceMethod yX0_turnForward, Cond.selects RX0 yX0_turnForward yX0_turnForward, Cond.code yX0_turnForward cX0_turnForward 5 none, Cond.methodLink RX0 176 yX0_orderByMirroredBits, Cond.static yX0_orderByMirroredBits, Cond.code yX0_orderByMirroredBits cX0_orderByMirroredBits 4 none, Cond.methodLink RX0 187 yX0_nextMirrored, Cond.static yX0_nextMirrored, Cond.code yX0_nextMirrored cX0_nextMirrored 4 (some .int), Cond.methodLink RX0 183 yX0_swap, Cond.static yX0_swap, Cond.code yX0_swap cX0_swap 5 none, Cond.methodLink RX0 179 yX0_joinHalves, Cond.instanceMethod yX0_joinHalves, Cond.selects RX0 yX0_joinHalves yX0_joinHalves, Cond.code yX0_joinHalves cX0_joinHalves 17 none, Cond.fieldLink RX0 9 "WheelProducts" "wheel" "[J", Cond.methodLink RX0 83 yX0_inverseOf, Cond.instanceMethod yX0_inverseOf, Cond.selects RX0 yX0_inverseOf yX0_inverseOf, Cond.code yX0_inverseOf cX0_inverseOf 3 (some .long), Cond.constantLong RX0 41 (2), Cond.methodLink RX0 77 yX0_powerModulo, Cond.static yX0_powerModulo]
def wsL_turn_r3 : List Cond := [Cond.code yX0_powerModulo cX0_powerModulo 12 (some .long)]
def wsL_turn : List Cond := .codeWith yL_turn cL_turn 5 (some .int) [(0, 7, 10, 26), (0, 7, 14, 13)] :: ((wsL_turn_r1 ++ (wsL_turn_r2 ++ wsL_turn_r3)) ++ wsX00 ++ (vx_atS RX0 150 "java/lang/IndexOutOfBoundsException" ["java/lang/RuntimeException", "java/lang/Exception"]).filter goodWord ++ (vx_atS RX0 51 "java/lang/IllegalArgumentException" ["java/lang/RuntimeException", "java/lang/Exception"]).filter goodWord)
def wsL_product_r1 : List Cond := [Cond.classLink RL 26 "java/lang/IndexOutOfBoundsException", Cond.classLink RL 44 "java/lang/UnsupportedOperationException", Cond.methodLink RL 40 yX0_product, Cond.instanceMethod yX0_product, Cond.selects RX0 yX0_product yX0_product, Cond.initialized RX0, Cond.code yX0_product cX0_product 7 (some .int), Cond.classLink RX0 107 "java/lang/UnsupportedOperationException", Cond.initialized "java/lang/UnsupportedOperationException", Cond.fieldLink RX0 15 "WheelProducts" "rows" "[[J", Cond.methodLink RX0 86 yX0_checkRow, Cond.static yX0_checkRow, Cond.code yX0_checkRow cX0_checkRow 1 none, Cond.classLink RX0 146 "java/lang/IndexOutOfBoundsException", Cond.initialized "java/lang/IndexOutOfBoundsException", Cond.methodLink RX0 93 yX0_usedPart, Cond.static yX0_usedPart, Cond.code yX0_usedPart cX0_usedPart 2 (some .int), Cond.methodLink RX0 62 yJ7_fill_d0a16, Cond.static yJ7_fill_d0a16, Cond.initialized RJ7, Cond.code yJ7_fill_d0a16 cJ7_fill_d0a16 5 none, Cond.methodLink RX0 112 yX0_turnThatHolds, Cond.static yX0_turnThatHolds]
def wsL_product_r2 : List Cond := [Cond.code yX0_turnThatHolds cX0_turnThatHolds 2 (some .int), Cond.methodLink RX0 116 yX0_multiplyRows, Cond.instanceMethod yX0_multiplyRows, Cond.selects RX0 yX0_multiplyRows yX0_multiplyRows, Cond.code yX0_multiplyRows cX0_multiplyRows 6 none, Cond.fieldLink RX0 24 "WheelProducts" "left" "[J", Cond.methodLink RX0 134 arraycopyName, Cond.native arraycopyName, Cond.static arraycopyName, Cond.initialized "java/lang/System", Cond.fieldLink RX0 27 "WheelProducts" "right" "[J", Cond.fieldLink RX0 71 "WheelProducts" "prime" "J", Cond.methodLink RX0 104 yX0_turnForward, Cond.instanceMethod yX0_turnForward, Cond.selects RX0 yX0_turnForward yX0_turnForward, Cond.code yX0_turnForward cX0_turnForward 5 none, Cond.methodLink RX0 176 yX0_orderByMirroredBits, Cond.static yX0_orderByMirroredBits, Cond.code yX0_orderByMirroredBits cX0_orderByMirroredBits 4 none, Cond.methodLink RX0 187 yX0_nextMirrored, Cond.static yX0_nextMirrored, Cond.code yX0_nextMirrored cX0_nextMirrored 4 (some .int), Cond.methodLink RX0 183 yX0_swap, Cond.static yX0_swap]
def wsL_product_r3 : List Cond := [Cond.code yX0_swap cX0_swap 5 none, Cond.methodLink RX0 179 yX0_joinHalves, Cond.instanceMethod yX0_joinHalves, Cond.selects RX0 yX0_joinHalves yX0_joinHalves, Cond.code yX0_joinHalves cX0_joinHalves 17 none, Cond.fieldLink RX0 9 "WheelProducts" "wheel" "[J", Cond.methodLink RX0 100 yX0_turnBackward, Cond.instanceMethod yX0_turnBackward, Cond.selects RX0 yX0_turnBackward yX0_turnBackward, Cond.code yX0_turnBackward cX0_turnBackward 7 none, Cond.methodLink RX0 83 yX0_inverseOf, Cond.instanceMethod yX0_inverseOf, Cond.selects RX0 yX0_inverseOf yX0_inverseOf, Cond.code yX0_inverseOf cX0_inverseOf 3 (some .long), Cond.constantLong RX0 41 (2), Cond.methodLink RX0 77 yX0_powerModulo, Cond.static yX0_powerModulo, Cond.code yX0_powerModulo cX0_powerModulo 12 (some .long)]
def wsL_product : List Cond := .codeWith yL_product cL_product 6 (some .int) [(0, 12, 15, 26), (0, 12, 19, 44)] :: ((wsL_product_r1 ++ (wsL_product_r2 ++ wsL_product_r3)) ++ wsX00 ++ (vx_atS RX0 111 "java/lang/UnsupportedOperationException" ["java/lang/RuntimeException", "java/lang/Exception"]).filter goodWord ++ (vx_atS RX0 150 "java/lang/IndexOutOfBoundsException" ["java/lang/RuntimeException", "java/lang/Exception"]).filter goodWord)
def wsL_at : List Cond := .codeWith yL_at cL_at 6 (some .int) [(0, 10, 13, 26)] :: ([.classLink RL 26 "java/lang/IndexOutOfBoundsException", .methodLink RL 46 yX0_at, .instanceMethod yX0_at, .selects RX0 yX0_at yX0_at, .initialized RX0, .code yX0_at cX0_at 10 (some .long), .fieldLink RX0 15 "WheelProducts" "rows" "[[J", .fieldLink RX0 71 "WheelProducts" "prime" "J", .methodLink RX0 86 yX0_checkRow, .static yX0_checkRow, .code yX0_checkRow cX0_checkRow 1 none, .classLink RX0 146 "java/lang/IndexOutOfBoundsException", .initialized "java/lang/IndexOutOfBoundsException", .methodLink RX0 68 yX0_rest, .instanceMethod yX0_rest, .selects RX0 yX0_rest yX0_rest, .code yX0_rest cX0_rest 3 (some .long), .methodLink RX0 171 yJ9_floorMod_f86c9, .static yJ9_floorMod_f86c9, .initialized RJ9, .code yJ9_floorMod_f86c9 cJ9_floorMod_f86c9 6 (some .long), .methodLink RX0 93 yX0_usedPart, .static yX0_usedPart, .code yX0_usedPart cX0_usedPart 2 (some .int)] ++ wsX00 ++ (vx_atS RX0 150 "java/lang/IndexOutOfBoundsException" ["java/lang/RuntimeException", "java/lang/Exception"]).filter goodWord)
def wsL_word : List Cond := .codeWith yL_word cL_word 7 (some .int) [(0, 19, 22, 26)] :: ([.classLink RL 26 "java/lang/IndexOutOfBoundsException", .methodLink RL 50 yX0_word, .instanceMethod yX0_word, .selects RX0 yX0_word yX0_word, .initialized RX0, .code yX0_word cX0_word 9 (some .boolean), .fieldLink RX0 18 "WheelProducts" "naturals" "[[J", .constantLong RX0 126 (4294967295), .methodLink RX0 120 yX0_checkNatural, .static yX0_checkNatural, .code yX0_checkNatural cX0_checkNatural 1 none, .classLink RX0 146 "java/lang/IndexOutOfBoundsException", .initialized "java/lang/IndexOutOfBoundsException", .methodLink RX0 123 yX0_checkWord, .static yX0_checkWord, .code yX0_checkWord cX0_checkWord 1 none] ++ wsX00 ++ (vx_atS RX0 150 "java/lang/IndexOutOfBoundsException" ["java/lang/RuntimeException", "java/lang/Exception"]).filter goodWord)
def wsL_wordAt : List Cond := .codeWith yL_wordAt cL_wordAt 5 (some .int) [(0, 9, 12, 26)] :: ([.classLink RL 26 "java/lang/IndexOutOfBoundsException", .methodLink RL 53 yX0_wordAt, .instanceMethod yX0_wordAt, .selects RX0 yX0_wordAt yX0_wordAt, .initialized RX0, .code yX0_wordAt cX0_wordAt 3 (some .long), .fieldLink RX0 18 "WheelProducts" "naturals" "[[J", .methodLink RX0 120 yX0_checkNatural, .static yX0_checkNatural, .code yX0_checkNatural cX0_checkNatural 1 none, .classLink RX0 146 "java/lang/IndexOutOfBoundsException", .initialized "java/lang/IndexOutOfBoundsException", .methodLink RX0 123 yX0_checkWord, .static yX0_checkWord, .code yX0_checkWord cX0_checkWord 1 none] ++ wsX00 ++ (vx_atS RX0 150 "java/lang/IndexOutOfBoundsException" ["java/lang/RuntimeException", "java/lang/Exception"]).filter goodWord)
def wsL_size : List Cond := .codeWith yL_size cL_size 4 (some .int) [(0, 9, 12, 26)] :: ([.classLink RL 26 "java/lang/IndexOutOfBoundsException", .methodLink RL 56 yX0_size, .instanceMethod yX0_size, .selects RX0 yX0_size yX0_size, .initialized RX0, .code yX0_size cX0_size 2 (some .int), .fieldLink RX0 18 "WheelProducts" "naturals" "[[J", .methodLink RX0 120 yX0_checkNatural, .static yX0_checkNatural, .code yX0_checkNatural cX0_checkNatural 1 none, .classLink RX0 146 "java/lang/IndexOutOfBoundsException", .initialized "java/lang/IndexOutOfBoundsException", .methodLink RX0 93 yX0_usedPart, .static yX0_usedPart, .code yX0_usedPart cX0_usedPart 2 (some .int)] ++ wsX00 ++ (vx_atS RX0 150 "java/lang/IndexOutOfBoundsException" ["java/lang/RuntimeException", "java/lang/Exception"]).filter goodWord)
def wsL_multiply_r1 : List Cond := [Cond.classLink RL 26 "java/lang/IndexOutOfBoundsException", Cond.classLink RL 44 "java/lang/UnsupportedOperationException", Cond.methodLink RL 59 yX0_multiply, Cond.instanceMethod yX0_multiply, Cond.selects RX0 yX0_multiply yX0_multiply, Cond.initialized RX0, Cond.code yX0_multiply cX0_multiply 6 (some .int), Cond.classLink RX0 107 "java/lang/UnsupportedOperationException", Cond.initialized "java/lang/UnsupportedOperationException", Cond.fieldLink RX0 18 "WheelProducts" "naturals" "[[J", Cond.fieldLink RX0 30 "WheelProducts" "answerWords" "[J", Cond.methodLink RX0 134 arraycopyName, Cond.native arraycopyName, Cond.static arraycopyName, Cond.initialized "java/lang/System", Cond.methodLink RX0 120 yX0_checkNatural, Cond.static yX0_checkNatural, Cond.code yX0_checkNatural cX0_checkNatural 1 none, Cond.classLink RX0 146 "java/lang/IndexOutOfBoundsException", Cond.initialized "java/lang/IndexOutOfBoundsException", Cond.methodLink RX0 93 yX0_usedPart, Cond.static yX0_usedPart, Cond.code yX0_usedPart cX0_usedPart 2 (some .int), Cond.methodLink RX0 62 yJ7_fill_d0a16]
def wsL_multiply_r2 : List Cond := [Cond.static yJ7_fill_d0a16, Cond.initialized RJ7, Cond.code yJ7_fill_d0a16 cJ7_fill_d0a16 5 none, Cond.methodLink RX0 130 yX0_multiplyWords, Cond.instanceMethod yX0_multiplyWords, Cond.selects RX0 yX0_multiplyWords yX0_multiplyWords, Cond.code yX0_multiplyWords cX0_multiplyWords 11 none, Cond.constantLong RX0 126 (4294967295)]
def wsL_multiply : List Cond := .codeWith yL_multiply cL_multiply 6 (some .int) [(0, 12, 15, 26), (0, 12, 19, 44)] :: ((wsL_multiply_r1 ++ wsL_multiply_r2) ++ wsX00 ++ (vx_atS RX0 111 "java/lang/UnsupportedOperationException" ["java/lang/RuntimeException", "java/lang/Exception"]).filter goodWord ++ (vx_atS RX0 150 "java/lang/IndexOutOfBoundsException" ["java/lang/RuntimeException", "java/lang/Exception"]).filter goodWord)
def wsL_sum_r1 : List Cond := [Cond.classLink RL 26 "java/lang/IndexOutOfBoundsException", Cond.classLink RL 44 "java/lang/UnsupportedOperationException", Cond.methodLink RL 62 yX0_sum, Cond.instanceMethod yX0_sum, Cond.selects RX0 yX0_sum yX0_sum, Cond.initialized RX0, Cond.code yX0_sum cX0_sum 4 (some .int), Cond.classLink RX0 107 "java/lang/UnsupportedOperationException", Cond.initialized "java/lang/UnsupportedOperationException", Cond.fieldLink RX0 18 "WheelProducts" "naturals" "[[J", Cond.fieldLink RX0 30 "WheelProducts" "answerWords" "[J", Cond.methodLink RX0 134 arraycopyName, Cond.native arraycopyName, Cond.static arraycopyName, Cond.initialized "java/lang/System", Cond.methodLink RX0 120 yX0_checkNatural, Cond.static yX0_checkNatural, Cond.code yX0_checkNatural cX0_checkNatural 1 none, Cond.classLink RX0 146 "java/lang/IndexOutOfBoundsException", Cond.initialized "java/lang/IndexOutOfBoundsException", Cond.methodLink RX0 140 yX0_addWords, Cond.instanceMethod yX0_addWords, Cond.selects RX0 yX0_addWords yX0_addWords, Cond.code yX0_addWords cX0_addWords 8 (some .long)]
def wsL_sum_r2 : List Cond := [Cond.constantLong RX0 126 (4294967295), Cond.methodLink RX0 93 yX0_usedPart, Cond.static yX0_usedPart, Cond.code yX0_usedPart cX0_usedPart 2 (some .int)]
def wsL_sum : List Cond := .codeWith yL_sum cL_sum 6 (some .int) [(0, 12, 15, 26), (0, 12, 19, 44)] :: ((wsL_sum_r1 ++ wsL_sum_r2) ++ wsX00 ++ (vx_atS RX0 111 "java/lang/UnsupportedOperationException" ["java/lang/RuntimeException", "java/lang/Exception"]).filter goodWord ++ (vx_atS RX0 150 "java/lang/IndexOutOfBoundsException" ["java/lang/RuntimeException", "java/lang/Exception"]).filter goodWord)
def wsL_law0_r1 : List Cond := [Cond.classLink RL 8 RX0, Cond.instantiable RX0 8, Cond.initialized RX0, Cond.classLink RL 66 RX1, Cond.instantiable RX1 8, Cond.initialized RX1, Cond.arrayClass .long, Cond.constantLong RL 69 (4294967295), Cond.methodLink RL 65 yX0_init, Cond.instanceMethod yX0_init, Cond.code yX0_init cX0_init 1 none, Cond.methodLink RX0 1 objectInit, Cond.instanceMethod objectInit, Cond.code objectInit ⟨#[0xb1]⟩ 1 none, Cond.fieldLink RX0 9 "WheelProducts" "wheel" "[J", Cond.classLink RX0 13 "[[J", Cond.fieldLink RX0 15 "WheelProducts" "rows" "[[J", Cond.fieldLink RX0 18 "WheelProducts" "naturals" "[[J", Cond.fieldLink RX0 21 "WheelProducts" "factors" "[J", Cond.fieldLink RX0 24 "WheelProducts" "left" "[J", Cond.fieldLink RX0 27 "WheelProducts" "right" "[J", Cond.fieldLink RX0 30 "WheelProducts" "answerWords" "[J", Cond.constantLong RX0 33 (998244353), Cond.constantLong RX0 35 (3)]
def wsL_law0_r2 : List Cond := [Cond.methodLink RX0 37 yX0_usePrime, Cond.instanceMethod yX0_usePrime, Cond.selects RX0 yX0_usePrime yX0_usePrime, Cond.code yX0_usePrime cX0_usePrime 10 none, Cond.fieldLink RX0 71 "WheelProducts" "prime" "J", Cond.constantLong RX0 45 (512), Cond.methodLink RX0 77 yX0_powerModulo, Cond.static yX0_powerModulo, Cond.code yX0_powerModulo cX0_powerModulo 12 (some .long), Cond.methodLink RL 68 yX1_init, Cond.instanceMethod yX1_init, Cond.code yX1_init cX1_init 1 none, Cond.methodLink RX1 1 objectInit, Cond.fieldLink RX1 7 "WheelProductsModel" "cells" "[J", Cond.fieldLink RX1 13 "WheelProductsModel" "words" "[J", Cond.fieldLink RX1 16 "WheelProductsModel" "work" "[J", Cond.fieldLink RX1 19 "WheelProductsModel" "powers" "[J", Cond.fieldLink RX1 22 "WheelProductsModel" "sums" "[J", Cond.constantLong RX1 25 (998244353), Cond.fieldLink RX1 27 "WheelProductsModel" "prime" "J", Cond.fieldLink RX1 35 "WheelProductsModel" "root" "J", Cond.methodLink RX1 31 yX1_rootOf, Cond.static yX1_rootOf, Cond.code yX1_rootOf cX1_rootOf 4 (some .long)]
def wsL_law0_r3 : List Cond := [Cond.methodLink RX1 48 yX1_isRoot, Cond.static yX1_isRoot, Cond.code yX1_isRoot cX1_isRoot 9 (some .boolean), Cond.constantLong RX1 42 (2), Cond.methodLink RX1 44 yX1_raise, Cond.static yX1_raise, Cond.code yX1_raise cX1_raise 12 (some .long), Cond.methodLink RL 71 yL_field, Cond.static yL_field, Cond.initialized RL, Cond.codeWith yL_field cL_field 5 (some .int) [(0, 8, 11, 13)], Cond.classLink RL 13 "java/lang/IllegalArgumentException", Cond.methodLink RL 7 yX0_field, Cond.instanceMethod yX0_field, Cond.selects RX0 yX0_field yX0_field, Cond.code yX0_field cX0_field 6 (some .long), Cond.classLink RX0 47 "java/lang/IllegalArgumentException", Cond.initialized "java/lang/IllegalArgumentException", Cond.constantLong RX0 41 (2), Cond.constantLong RX0 43 (2147483648), Cond.constantLong RX0 58 (-1), Cond.methodLink RX0 54 yX0_leastRoot, Cond.instanceMethod yX0_leastRoot, Cond.selects RX0 yX0_leastRoot yX0_leastRoot]
def wsL_law0_r4 : List Cond := [Cond.code yX0_leastRoot cX0_leastRoot 6 (some .long), Cond.methodLink RX0 159 yX0_findFactors, Cond.instanceMethod yX0_findFactors, Cond.selects RX0 yX0_findFactors yX0_findFactors, Cond.code yX0_findFactors cX0_findFactors 8 (some .int), Cond.methodLink RX0 167 yX0_without, Cond.static yX0_without, Cond.code yX0_without cX0_without 7 (some .long), Cond.methodLink RX0 163 yX0_comesToOneOnlyAtTheEnd, Cond.instanceMethod yX0_comesToOneOnlyAtTheEnd, Cond.selects RX0 yX0_comesToOneOnlyAtTheEnd yX0_comesToOneOnlyAtTheEnd, Cond.code yX0_comesToOneOnlyAtTheEnd cX0_comesToOneOnlyAtTheEnd 7 (some .boolean), Cond.methodLink RX0 62 yJ7_fill_d0a16, Cond.static yJ7_fill_d0a16, Cond.initialized RJ7, Cond.code yJ7_fill_d0a16 cJ7_fill_d0a16 5 none, Cond.methodLink RL 76 yX1_field, Cond.instanceMethod yX1_field, Cond.selects RX1 yX1_field yX1_field, Cond.code yX1_field cX1_field 4 (some .long), Cond.constantLong RX1 52 (2147483647), Cond.constantLong RX1 54 (512), Cond.fieldLink RX1 38 "WheelProductsModel" "thrown" "I", Cond.methodLink RX1 56 yX1_isPrime]
def wsL_law0_r5 : List Cond := [Cond.static yX1_isPrime, Cond.code yX1_isPrime cX1_isPrime 4 (some .boolean), Cond.methodLink RL 77 yX1_thrown, Cond.instanceMethod yX1_thrown, Cond.selects RX1 yX1_thrown yX1_thrown, Cond.code yX1_thrown cX1_thrown 1 (some .int), Cond.methodLink RL 81 yX0_times, Cond.instanceMethod yX0_times, Cond.selects RX0 yX0_times yX0_times, Cond.code yX0_times cX0_times 5 (some .long), Cond.methodLink RX0 68 yX0_rest, Cond.instanceMethod yX0_rest, Cond.selects RX0 yX0_rest yX0_rest, Cond.code yX0_rest cX0_rest 3 (some .long), Cond.methodLink RX0 171 yJ9_floorMod_f86c9, Cond.static yJ9_floorMod_f86c9, Cond.initialized RJ9, Cond.code yJ9_floorMod_f86c9 cJ9_floorMod_f86c9 6 (some .long), Cond.methodLink RL 84 yX1_times, Cond.instanceMethod yX1_times, Cond.selects RX1 yX1_times yX1_times, Cond.code yX1_times cX1_times 5 (some .long), Cond.methodLink RX1 60 yX1_rest, Cond.instanceMethod yX1_rest]
def wsL_law0_r6 : List Cond := [Cond.selects RX1 yX1_rest yX1_rest, Cond.code yX1_rest cX1_rest 5 (some .long), Cond.methodLink RL 85 yL_power, Cond.static yL_power, Cond.codeWith yL_power cL_power 7 (some .int) [(0, 10, 13, 13)], Cond.methodLink RL 15 yX0_power, Cond.instanceMethod yX0_power, Cond.selects RX0 yX0_power yX0_power, Cond.code yX0_power cX0_power 5 (some .long), Cond.methodLink RL 88 yX1_power, Cond.instanceMethod yX1_power, Cond.selects RX1 yX1_power yX1_power, Cond.code yX1_power cX1_power 5 (some .long), Cond.methodLink RL 89 yL_inverse, Cond.static yL_inverse, Cond.codeWith yL_inverse cL_inverse 5 (some .int) [(0, 8, 11, 13)], Cond.methodLink RL 19 yX0_inverse, Cond.instanceMethod yX0_inverse, Cond.selects RX0 yX0_inverse yX0_inverse, Cond.code yX0_inverse cX0_inverse 5 (some .long), Cond.methodLink RX0 83 yX0_inverseOf, Cond.instanceMethod yX0_inverseOf, Cond.selects RX0 yX0_inverseOf yX0_inverseOf, Cond.code yX0_inverseOf cX0_inverseOf 3 (some .long)]
def wsL_law0_r7 : List Cond := [Cond.methodLink RL 91 yX1_inverse, Cond.instanceMethod yX1_inverse, Cond.selects RX1 yX1_inverse yX1_inverse, Cond.code yX1_inverse cX1_inverse 3 (some .long), Cond.methodLink RL 92 yL_put, Cond.static yL_put, Cond.codeWith yL_put cL_put 7 (some .int) [(0, 19, 22, 26)], Cond.classLink RL 26 "java/lang/IndexOutOfBoundsException", Cond.methodLink RL 22 yX0_put, Cond.instanceMethod yX0_put, Cond.selects RX0 yX0_put yX0_put, Cond.code yX0_put cX0_put 9 (some .boolean), Cond.methodLink RX0 86 yX0_checkRow, Cond.static yX0_checkRow, Cond.code yX0_checkRow cX0_checkRow 1 none, Cond.classLink RX0 146 "java/lang/IndexOutOfBoundsException", Cond.initialized "java/lang/IndexOutOfBoundsException", Cond.methodLink RX0 90 yX0_checkCoefficient, Cond.static yX0_checkCoefficient, Cond.code yX0_checkCoefficient cX0_checkCoefficient 1 none, Cond.methodLink RL 95 yX1_put, Cond.instanceMethod yX1_put, Cond.selects RX1 yX1_put yX1_put, Cond.code yX1_put cX1_put 7 (some .boolean)]
def wsL_law0_r8 : List Cond := [Cond.methodLink RX1 63 yX1_isRow, Cond.static yX1_isRow, Cond.code yX1_isRow cX1_isRow 1 (some .boolean), Cond.methodLink RL 96 yL_get, Cond.static yL_get, Cond.codeWith yL_get cL_get 5 (some .int) [(0, 9, 12, 26)], Cond.methodLink RL 28 yX0_get, Cond.instanceMethod yX0_get, Cond.selects RX0 yX0_get yX0_get, Cond.code yX0_get cX0_get 3 (some .long), Cond.methodLink RL 99 yX1_get, Cond.instanceMethod yX1_get, Cond.selects RX1 yX1_get yX1_get, Cond.code yX1_get cX1_get 3 (some .long), Cond.methodLink RL 100 yL_length, Cond.static yL_length, Cond.codeWith yL_length cL_length 4 (some .int) [(0, 9, 12, 26)], Cond.methodLink RL 32 yX0_length, Cond.instanceMethod yX0_length, Cond.selects RX0 yX0_length yX0_length, Cond.code yX0_length cX0_length 2 (some .int), Cond.methodLink RX0 93 yX0_usedPart, Cond.static yX0_usedPart, Cond.code yX0_usedPart cX0_usedPart 2 (some .int)]
def wsL_law0_r9 : List Cond := [Cond.methodLink RL 103 yX1_length, Cond.instanceMethod yX1_length, Cond.selects RX1 yX1_length yX1_length, Cond.code yX1_length cX1_length 2 (some .int), Cond.methodLink RX1 67 yX1_lengthOf, Cond.instanceMethod yX1_lengthOf, Cond.selects RX1 yX1_lengthOf yX1_lengthOf, Cond.code yX1_lengthOf cX1_lengthOf 3 (some .int), Cond.methodLink RL 104 yL_turn, Cond.static yL_turn, Cond.codeWith yL_turn cL_turn 5 (some .int) [(0, 7, 10, 26), (0, 7, 14, 13)], Cond.methodLink RL 36 yX0_turn, Cond.instanceMethod yX0_turn, Cond.selects RX0 yX0_turn yX0_turn, Cond.code yX0_turn cX0_turn 4 none, Cond.methodLink RX0 97 yX0_checkTurn, Cond.static yX0_checkTurn, Cond.code yX0_checkTurn cX0_checkTurn 1 none, Cond.methodLink RX0 100 yX0_turnBackward, Cond.instanceMethod yX0_turnBackward, Cond.selects RX0 yX0_turnBackward yX0_turnBackward, Cond.code yX0_turnBackward cX0_turnBackward 7 none, Cond.methodLink RX0 104 yX0_turnForward, Cond.instanceMethod yX0_turnForward]
def wsL_law0_r10 : List Cond := [Cond.selects RX0 yX0_turnForward yX0_turnForward, Cond.code yX0_turnForward cX0_turnForward 5 none, Cond.methodLink RX0 176 yX0_orderByMirroredBits, Cond.static yX0_orderByMirroredBits, Cond.code yX0_orderByMirroredBits cX0_orderByMirroredBits 4 none, Cond.methodLink RX0 187 yX0_nextMirrored, Cond.static yX0_nextMirrored, Cond.code yX0_nextMirrored cX0_nextMirrored 4 (some .int), Cond.methodLink RX0 183 yX0_swap, Cond.static yX0_swap, Cond.code yX0_swap cX0_swap 5 none, Cond.methodLink RX0 179 yX0_joinHalves, Cond.instanceMethod yX0_joinHalves, Cond.selects RX0 yX0_joinHalves yX0_joinHalves, Cond.code yX0_joinHalves cX0_joinHalves 17 none, Cond.methodLink RL 107 yX1_turn, Cond.instanceMethod yX1_turn, Cond.selects RX1 yX1_turn yX1_turn, Cond.code yX1_turn cX1_turn 16 none, Cond.methodLink RL 108 yL_product, Cond.static yL_product, Cond.codeWith yL_product cL_product 6 (some .int) [(0, 12, 15, 26), (0, 12, 19, 44)], Cond.classLink RL 44 "java/lang/UnsupportedOperationException", Cond.methodLink RL 40 yX0_product]
def wsL_law0_r11 : List Cond := [Cond.instanceMethod yX0_product, Cond.selects RX0 yX0_product yX0_product, Cond.code yX0_product cX0_product 7 (some .int), Cond.classLink RX0 107 "java/lang/UnsupportedOperationException", Cond.initialized "java/lang/UnsupportedOperationException", Cond.methodLink RX0 112 yX0_turnThatHolds, Cond.static yX0_turnThatHolds, Cond.code yX0_turnThatHolds cX0_turnThatHolds 2 (some .int), Cond.methodLink RX0 116 yX0_multiplyRows, Cond.instanceMethod yX0_multiplyRows, Cond.selects RX0 yX0_multiplyRows yX0_multiplyRows, Cond.code yX0_multiplyRows cX0_multiplyRows 6 none, Cond.methodLink RX0 134 arraycopyName, Cond.native arraycopyName, Cond.static arraycopyName, Cond.initialized "java/lang/System", Cond.methodLink RL 111 yX1_product, Cond.instanceMethod yX1_product, Cond.selects RX1 yX1_product yX1_product, Cond.code yX1_product cX1_product 9 (some .int), Cond.methodLink RL 112 yL_at, Cond.static yL_at, Cond.codeWith yL_at cL_at 6 (some .int) [(0, 10, 13, 26)], Cond.methodLink RL 46 yX0_at]
def wsL_law0_r12 : List Cond := [Cond.instanceMethod yX0_at, Cond.selects RX0 yX0_at yX0_at, Cond.code yX0_at cX0_at 10 (some .long), Cond.methodLink RL 115 yX1_at, Cond.instanceMethod yX1_at, Cond.selects RX1 yX1_at yX1_at, Cond.code yX1_at cX1_at 9 (some .long), Cond.methodLink RL 116 yL_word, Cond.static yL_word, Cond.codeWith yL_word cL_word 7 (some .int) [(0, 19, 22, 26)], Cond.methodLink RL 50 yX0_word, Cond.instanceMethod yX0_word, Cond.selects RX0 yX0_word yX0_word, Cond.code yX0_word cX0_word 9 (some .boolean), Cond.constantLong RX0 126 (4294967295), Cond.methodLink RX0 120 yX0_checkNatural, Cond.static yX0_checkNatural, Cond.code yX0_checkNatural cX0_checkNatural 1 none, Cond.methodLink RX0 123 yX0_checkWord, Cond.static yX0_checkWord, Cond.code yX0_checkWord cX0_checkWord 1 none, Cond.methodLink RL 118 yX1_word, Cond.instanceMethod yX1_word, Cond.selects RX1 yX1_word yX1_word]
def wsL_law0_r13 : List Cond := [Cond.code yX1_word cX1_word 7 (some .boolean), Cond.constantLong RX1 71 (4294967295), Cond.methodLink RL 119 yL_wordAt, Cond.static yL_wordAt, Cond.codeWith yL_wordAt cL_wordAt 5 (some .int) [(0, 9, 12, 26)], Cond.methodLink RL 53 yX0_wordAt, Cond.instanceMethod yX0_wordAt, Cond.selects RX0 yX0_wordAt yX0_wordAt, Cond.code yX0_wordAt cX0_wordAt 3 (some .long), Cond.methodLink RL 121 yX1_wordAt, Cond.instanceMethod yX1_wordAt, Cond.selects RX1 yX1_wordAt yX1_wordAt, Cond.code yX1_wordAt cX1_wordAt 3 (some .long), Cond.methodLink RL 122 yL_size, Cond.static yL_size, Cond.codeWith yL_size cL_size 4 (some .int) [(0, 9, 12, 26)], Cond.methodLink RL 56 yX0_size, Cond.instanceMethod yX0_size, Cond.selects RX0 yX0_size yX0_size, Cond.code yX0_size cX0_size 2 (some .int), Cond.methodLink RL 124 yX1_size, Cond.instanceMethod yX1_size, Cond.selects RX1 yX1_size yX1_size, Cond.code yX1_size cX1_size 2 (some .int)]
def wsL_law0_r14 : List Cond := [Cond.methodLink RX1 73 yX1_sizeOf, Cond.instanceMethod yX1_sizeOf, Cond.selects RX1 yX1_sizeOf yX1_sizeOf, Cond.code yX1_sizeOf cX1_sizeOf 3 (some .int), Cond.methodLink RL 125 yL_multiply, Cond.static yL_multiply, Cond.codeWith yL_multiply cL_multiply 6 (some .int) [(0, 12, 15, 26), (0, 12, 19, 44)], Cond.methodLink RL 59 yX0_multiply, Cond.instanceMethod yX0_multiply, Cond.selects RX0 yX0_multiply yX0_multiply, Cond.code yX0_multiply cX0_multiply 6 (some .int), Cond.methodLink RX0 130 yX0_multiplyWords, Cond.instanceMethod yX0_multiplyWords, Cond.selects RX0 yX0_multiplyWords yX0_multiplyWords, Cond.code yX0_multiplyWords cX0_multiplyWords 11 none, Cond.methodLink RL 127 yX1_multiply, Cond.instanceMethod yX1_multiply, Cond.selects RX1 yX1_multiply yX1_multiply, Cond.code yX1_multiply cX1_multiply 13 (some .int), Cond.methodLink RX1 76 yX1_clearSums, Cond.instanceMethod yX1_clearSums, Cond.selects RX1 yX1_clearSums yX1_clearSums, Cond.code yX1_clearSums cX1_clearSums 2 none, Cond.methodLink RX1 79 yX1_take]
def wsL_law0_r15 : List Cond := [Cond.instanceMethod yX1_take, Cond.selects RX1 yX1_take yX1_take, Cond.code yX1_take cX1_take 3 (some .int), Cond.methodLink RL 128 yL_sum, Cond.static yL_sum, Cond.codeWith yL_sum cL_sum 6 (some .int) [(0, 12, 15, 26), (0, 12, 19, 44)], Cond.methodLink RL 62 yX0_sum, Cond.instanceMethod yX0_sum, Cond.selects RX0 yX0_sum yX0_sum, Cond.code yX0_sum cX0_sum 4 (some .int), Cond.methodLink RX0 140 yX0_addWords, Cond.instanceMethod yX0_addWords, Cond.selects RX0 yX0_addWords yX0_addWords, Cond.code yX0_addWords cX0_addWords 8 (some .long), Cond.methodLink RL 130 yX1_sum, Cond.instanceMethod yX1_sum, Cond.selects RX1 yX1_sum yX1_sum, Cond.code yX1_sum cX1_sum 10 (some .int)]
def wsL_law0 : List Cond := (wsL_law0_r1 ++ (wsL_law0_r2 ++ (wsL_law0_r3 ++ (wsL_law0_r4 ++ (wsL_law0_r5 ++ (wsL_law0_r6 ++ (wsL_law0_r7 ++ (wsL_law0_r8 ++ (wsL_law0_r9 ++ (wsL_law0_r10 ++ (wsL_law0_r11 ++ (wsL_law0_r12 ++ (wsL_law0_r13 ++ (wsL_law0_r14 ++ wsL_law0_r15)))))))))))))) ++ wsX00 ++ wsX10 ++ ([] : List Cond)
def wsL_law : List Cond := wsL_law0 ++ (vx_atS RX0 51 "java/lang/IllegalArgumentException" ["java/lang/RuntimeException", "java/lang/Exception"]).filter goodWord ++ (vx_atS RX0 150 "java/lang/IndexOutOfBoundsException" ["java/lang/RuntimeException", "java/lang/Exception"]).filter goodWord ++ (vx_atS RX0 111 "java/lang/UnsupportedOperationException" ["java/lang/RuntimeException", "java/lang/Exception"]).filter goodWord
abbrev vwCl : List vw_C := [(RX0, TX0, 8), (RX1, TX1, 8)]
end
section
theorem dJ9_floorMod_f86c9_0 : decode cJ9_floorMod_f86c9 0 = .ok (.lload_n 0, 1) := by decide +kernel
theorem dJ9_floorMod_f86c9_1 : decode cJ9_floorMod_f86c9 1 = .ok (.lload_n 2, 1) := by decide +kernel
theorem dJ9_floorMod_f86c9_2 : decode cJ9_floorMod_f86c9 2 = .ok (.lrem, 1) := by decide +kernel
theorem dJ9_floorMod_f86c9_3 : decode cJ9_floorMod_f86c9 3 = .ok (.lstore 4, 2) := by decide +kernel
theorem dJ9_floorMod_f86c9_5 : decode cJ9_floorMod_f86c9 5 = .ok (.lload_n 0, 1) := by decide +kernel
theorem dJ9_floorMod_f86c9_6 : decode cJ9_floorMod_f86c9 6 = .ok (.lload_n 2, 1) := by decide +kernel
theorem dJ9_floorMod_f86c9_7 : decode cJ9_floorMod_f86c9 7 = .ok (.lxor, 1) := by decide +kernel
theorem dJ9_floorMod_f86c9_8 : decode cJ9_floorMod_f86c9 8 = .ok (.lconst 0, 1) := by decide +kernel
theorem dJ9_floorMod_f86c9_9 : decode cJ9_floorMod_f86c9 9 = .ok (.lcmp, 1) := by decide +kernel
theorem dJ9_floorMod_f86c9_10 : decode cJ9_floorMod_f86c9 10 = .ok (.ifCond .ge 15, 3) := by decide +kernel
theorem dJ9_floorMod_f86c9_13 : decode cJ9_floorMod_f86c9 13 = .ok (.lload 4, 2) := by decide +kernel
theorem dJ9_floorMod_f86c9_15 : decode cJ9_floorMod_f86c9 15 = .ok (.lconst 0, 1) := by decide +kernel
theorem dJ9_floorMod_f86c9_16 : decode cJ9_floorMod_f86c9 16 = .ok (.lcmp, 1) := by decide +kernel
theorem dJ9_floorMod_f86c9_17 : decode cJ9_floorMod_f86c9 17 = .ok (.ifCond .eq 8, 3) := by decide +kernel
theorem dJ9_floorMod_f86c9_20 : decode cJ9_floorMod_f86c9 20 = .ok (.lload 4, 2) := by decide +kernel
theorem dJ9_floorMod_f86c9_22 : decode cJ9_floorMod_f86c9 22 = .ok (.lload_n 2, 1) := by decide +kernel
theorem dJ9_floorMod_f86c9_23 : decode cJ9_floorMod_f86c9 23 = .ok (.ladd, 1) := by decide +kernel
theorem dJ9_floorMod_f86c9_24 : decode cJ9_floorMod_f86c9 24 = .ok (.lreturn, 1) := by decide +kernel
theorem dJ9_floorMod_f86c9_25 : decode cJ9_floorMod_f86c9 25 = .ok (.lload 4, 2) := by decide +kernel
theorem dJ9_floorMod_f86c9_27 : decode cJ9_floorMod_f86c9 27 = .ok (.lreturn, 1) := by decide +kernel
theorem dJ7_fill_d0a16_0 : decode cJ7_fill_d0a16 0 = .ok (.iconst 0, 1) := by decide +kernel
theorem dJ7_fill_d0a16_1 : decode cJ7_fill_d0a16 1 = .ok (.istore_n 3, 1) := by decide +kernel
theorem dJ7_fill_d0a16_2 : decode cJ7_fill_d0a16 2 = .ok (.aload_n 0, 1) := by decide +kernel
theorem dJ7_fill_d0a16_3 : decode cJ7_fill_d0a16 3 = .ok (.arraylength, 1) := by decide +kernel
theorem dJ7_fill_d0a16_4 : decode cJ7_fill_d0a16 4 = .ok (.istore 4, 2) := by decide +kernel
theorem dJ7_fill_d0a16_6 : decode cJ7_fill_d0a16 6 = .ok (.iload_n 3, 1) := by decide +kernel
theorem dJ7_fill_d0a16_7 : decode cJ7_fill_d0a16 7 = .ok (.iload 4, 2) := by decide +kernel
theorem dJ7_fill_d0a16_9 : decode cJ7_fill_d0a16 9 = .ok (.if_icmp .ge 13, 3) := by decide +kernel
theorem dJ7_fill_d0a16_12 : decode cJ7_fill_d0a16 12 = .ok (.aload_n 0, 1) := by decide +kernel
theorem dJ7_fill_d0a16_13 : decode cJ7_fill_d0a16 13 = .ok (.iload_n 3, 1) := by decide +kernel
theorem dJ7_fill_d0a16_14 : decode cJ7_fill_d0a16 14 = .ok (.lload_n 1, 1) := by decide +kernel
theorem dJ7_fill_d0a16_15 : decode cJ7_fill_d0a16 15 = .ok (.lastore, 1) := by decide +kernel
theorem dJ7_fill_d0a16_16 : decode cJ7_fill_d0a16 16 = .ok (.iinc 3 1, 3) := by decide +kernel
theorem dJ7_fill_d0a16_19 : decode cJ7_fill_d0a16 19 = .ok (.goto (-13), 3) := by decide +kernel
theorem dJ7_fill_d0a16_22 : decode cJ7_fill_d0a16 22 = .ok (.return_, 1) := by decide +kernel
end
section
set_option maxRecDepth 20000 in
theorem ggX0_init_X0_usePrime : GoodIn wsX0_init wsX0_usePrime := goodIn_r _ [19, 20, 21, 5, 22, 23, 18, 24, 25, 26, 27, 28, 29, 30, 31, 32] (by decide +kernel) (by decide +kernel)
set_option maxRecDepth 20000 in
theorem gX0_init_X0_usePrime : GoodIn wsX0_init (wsV RX0 37 RX0 yX0_usePrime wsX0_usePrime) := goodIn_app (goodIn_of _ (by decide +kernel)) ggX0_init_X0_usePrime
theorem dX0_init_0 : decode cX0_init 0 = .ok (.aload_n 0, 1) := by decide +kernel
theorem dX0_init_1 : decode cX0_init 1 = .ok (.invokespecial 1, 3) := by decide +kernel
theorem dX0_init_4 : decode cX0_init 4 = .ok (.aload_n 0, 1) := by decide +kernel
theorem dX0_init_5 : decode cX0_init 5 = .ok (.sipush 512, 3) := by decide +kernel
theorem dX0_init_8 : decode cX0_init 8 = .ok (.newarray .long, 2) := by decide +kernel
theorem dX0_init_10 : decode cX0_init 10 = .ok (.putfield 9, 3) := by decide +kernel
theorem dX0_init_13 : decode cX0_init 13 = .ok (.aload_n 0, 1) := by decide +kernel
theorem dX0_init_14 : decode cX0_init 14 = .ok (.bipush 6, 2) := by decide +kernel
theorem dX0_init_16 : decode cX0_init 16 = .ok (.sipush 512, 3) := by decide +kernel
theorem dX0_init_19 : decode cX0_init 19 = .ok (.multianewarray 13 2, 4) := by decide +kernel
theorem dX0_init_23 : decode cX0_init 23 = .ok (.putfield 15, 3) := by decide +kernel
theorem dX0_init_26 : decode cX0_init 26 = .ok (.aload_n 0, 1) := by decide +kernel
theorem dX0_init_27 : decode cX0_init 27 = .ok (.bipush 6, 2) := by decide +kernel
theorem dX0_init_29 : decode cX0_init 29 = .ok (.sipush 240, 3) := by decide +kernel
theorem dX0_init_32 : decode cX0_init 32 = .ok (.multianewarray 13 2, 4) := by decide +kernel
theorem dX0_init_36 : decode cX0_init 36 = .ok (.putfield 18, 3) := by decide +kernel
theorem dX0_init_39 : decode cX0_init 39 = .ok (.aload_n 0, 1) := by decide +kernel
theorem dX0_init_40 : decode cX0_init 40 = .ok (.bipush 9, 2) := by decide +kernel
theorem dX0_init_42 : decode cX0_init 42 = .ok (.newarray .long, 2) := by decide +kernel
theorem dX0_init_44 : decode cX0_init 44 = .ok (.putfield 21, 3) := by decide +kernel
theorem dX0_init_47 : decode cX0_init 47 = .ok (.aload_n 0, 1) := by decide +kernel
theorem dX0_init_48 : decode cX0_init 48 = .ok (.sipush 512, 3) := by decide +kernel
theorem dX0_init_51 : decode cX0_init 51 = .ok (.newarray .long, 2) := by decide +kernel
theorem dX0_init_53 : decode cX0_init 53 = .ok (.putfield 24, 3) := by decide +kernel
theorem dX0_init_56 : decode cX0_init 56 = .ok (.aload_n 0, 1) := by decide +kernel
theorem dX0_init_57 : decode cX0_init 57 = .ok (.sipush 512, 3) := by decide +kernel
theorem dX0_init_60 : decode cX0_init 60 = .ok (.newarray .long, 2) := by decide +kernel
theorem dX0_init_62 : decode cX0_init 62 = .ok (.putfield 27, 3) := by decide +kernel
theorem dX0_init_65 : decode cX0_init 65 = .ok (.aload_n 0, 1) := by decide +kernel
theorem dX0_init_66 : decode cX0_init 66 = .ok (.sipush 240, 3) := by decide +kernel
theorem dX0_init_69 : decode cX0_init 69 = .ok (.newarray .long, 2) := by decide +kernel
theorem dX0_init_71 : decode cX0_init 71 = .ok (.putfield 30, 3) := by decide +kernel
theorem dX0_init_74 : decode cX0_init 74 = .ok (.aload_n 0, 1) := by decide +kernel
theorem dX0_init_75 : decode cX0_init 75 = .ok (.ldc2_w 33, 3) := by decide +kernel
theorem dX0_init_78 : decode cX0_init 78 = .ok (.ldc2_w 35, 3) := by decide +kernel
theorem dX0_init_81 : decode cX0_init 81 = .ok (.invokevirtual 37, 3) := by decide +kernel
theorem dX0_init_84 : decode cX0_init 84 = .ok (.return_, 1) := by decide +kernel
set_option maxRecDepth 20000 in
theorem ggX0_field_X0_leastRoot : GoodIn wsX0_field wsX0_leastRoot := goodIn_r _ [12, 3, 6, 13, 14, 15, 11, 16, 17, 18, 19, 20, 21, 22, 23, 24, 25, 26, 27, 38, 39, 40, 41, 42, 43, 44, 45] (by decide +kernel) (by decide +kernel)
set_option maxRecDepth 20000 in
theorem gX0_field_X0_leastRoot : GoodIn wsX0_field (wsV RX0 54 RX0 yX0_leastRoot wsX0_leastRoot) := goodIn_app (goodIn_of _ (by decide +kernel)) ggX0_field_X0_leastRoot
set_option maxRecDepth 20000 in
theorem ggX0_field_X0_usePrime : GoodIn wsX0_field wsX0_usePrime := goodIn_r _ [31, 32, 5, 33, 21, 22, 11, 23, 38, 39, 40, 41, 42, 43, 44, 45] (by decide +kernel) (by decide +kernel)
set_option maxRecDepth 20000 in
theorem gX0_field_X0_usePrime : GoodIn wsX0_field (wsV RX0 37 RX0 yX0_usePrime wsX0_usePrime) := goodIn_app (goodIn_of _ (by decide +kernel)) ggX0_field_X0_usePrime
set_option maxRecDepth 20000 in
theorem ggX0_field_J7_fill_d0a16 : GoodIn wsX0_field wsJ7_fill_d0a16 := goodIn_r _ [37] (by decide +kernel) (by decide +kernel)
set_option maxRecDepth 20000 in
theorem gX0_field_J7_fill_d0a16 : GoodIn wsX0_field (va_wsS RX0 62 yJ7_fill_d0a16 wsJ7_fill_d0a16) := goodIn_app (goodIn_of _ (by decide +kernel)) ggX0_field_J7_fill_d0a16
theorem dX0_field_0 : decode cX0_field 0 = .ok (.lload_n 1, 1) := by decide +kernel
theorem dX0_field_1 : decode cX0_field 1 = .ok (.ldc2_w 41, 3) := by decide +kernel
theorem dX0_field_4 : decode cX0_field 4 = .ok (.lcmp, 1) := by decide +kernel
theorem dX0_field_5 : decode cX0_field 5 = .ok (.ifCond .lt 23, 3) := by decide +kernel
theorem dX0_field_8 : decode cX0_field 8 = .ok (.lload_n 1, 1) := by decide +kernel
theorem dX0_field_9 : decode cX0_field 9 = .ok (.ldc2_w 43, 3) := by decide +kernel
theorem dX0_field_12 : decode cX0_field 12 = .ok (.lcmp, 1) := by decide +kernel
theorem dX0_field_13 : decode cX0_field 13 = .ok (.ifCond .ge 15, 3) := by decide +kernel
theorem dX0_field_16 : decode cX0_field 16 = .ok (.lload_n 1, 1) := by decide +kernel
theorem dX0_field_17 : decode cX0_field 17 = .ok (.lconst 1, 1) := by decide +kernel
theorem dX0_field_18 : decode cX0_field 18 = .ok (.lsub, 1) := by decide +kernel
theorem dX0_field_19 : decode cX0_field 19 = .ok (.ldc2_w 45, 3) := by decide +kernel
theorem dX0_field_22 : decode cX0_field 22 = .ok (.lrem, 1) := by decide +kernel
theorem dX0_field_23 : decode cX0_field 23 = .ok (.lconst 0, 1) := by decide +kernel
theorem dX0_field_24 : decode cX0_field 24 = .ok (.lcmp, 1) := by decide +kernel
theorem dX0_field_25 : decode cX0_field 25 = .ok (.ifCond .eq 13, 3) := by decide +kernel
theorem dX0_field_28 : decode cX0_field 28 = .ok (.new 47, 3) := by decide +kernel
theorem dX0_field_31 : decode cX0_field 31 = .ok (.dup, 1) := by decide +kernel
theorem dX0_field_32 : decode cX0_field 32 = .ok (.ldc 49, 2) := by decide +kernel
theorem dX0_field_34 : decode cX0_field 34 = .ok (.invokespecial 51, 3) := by decide +kernel
theorem dX0_field_37 : decode cX0_field 37 = .ok (.athrow, 1) := by decide +kernel
theorem dX0_field_38 : decode cX0_field 38 = .ok (.aload_n 0, 1) := by decide +kernel
theorem dX0_field_39 : decode cX0_field 39 = .ok (.lload_n 1, 1) := by decide +kernel
theorem dX0_field_40 : decode cX0_field 40 = .ok (.invokevirtual 54, 3) := by decide +kernel
theorem dX0_field_43 : decode cX0_field 43 = .ok (.lstore_n 3, 1) := by decide +kernel
theorem dX0_field_44 : decode cX0_field 44 = .ok (.lload_n 3, 1) := by decide +kernel
theorem dX0_field_45 : decode cX0_field 45 = .ok (.ldc2_w 58, 3) := by decide +kernel
theorem dX0_field_48 : decode cX0_field 48 = .ok (.lcmp, 1) := by decide +kernel
theorem dX0_field_49 : decode cX0_field 49 = .ok (.ifCond .ne 13, 3) := by decide +kernel
theorem dX0_field_52 : decode cX0_field 52 = .ok (.new 47, 3) := by decide +kernel
theorem dX0_field_55 : decode cX0_field 55 = .ok (.dup, 1) := by decide +kernel
theorem dX0_field_56 : decode cX0_field 56 = .ok (.ldc 60, 2) := by decide +kernel
theorem dX0_field_58 : decode cX0_field 58 = .ok (.invokespecial 51, 3) := by decide +kernel
theorem dX0_field_61 : decode cX0_field 61 = .ok (.athrow, 1) := by decide +kernel
theorem dX0_field_62 : decode cX0_field 62 = .ok (.aload_n 0, 1) := by decide +kernel
theorem dX0_field_63 : decode cX0_field 63 = .ok (.lload_n 1, 1) := by decide +kernel
theorem dX0_field_64 : decode cX0_field 64 = .ok (.lload_n 3, 1) := by decide +kernel
theorem dX0_field_65 : decode cX0_field 65 = .ok (.invokevirtual 37, 3) := by decide +kernel
theorem dX0_field_68 : decode cX0_field 68 = .ok (.iconst 0, 1) := by decide +kernel
theorem dX0_field_69 : decode cX0_field 69 = .ok (.istore 5, 2) := by decide +kernel
theorem dX0_field_71 : decode cX0_field 71 = .ok (.iload 5, 2) := by decide +kernel
theorem dX0_field_73 : decode cX0_field 73 = .ok (.bipush 6, 2) := by decide +kernel
theorem dX0_field_75 : decode cX0_field 75 = .ok (.if_icmp .ge 20, 3) := by decide +kernel
theorem dX0_field_78 : decode cX0_field 78 = .ok (.aload_n 0, 1) := by decide +kernel
theorem dX0_field_79 : decode cX0_field 79 = .ok (.getfield 15, 3) := by decide +kernel
theorem dX0_field_82 : decode cX0_field 82 = .ok (.iload 5, 2) := by decide +kernel
theorem dX0_field_84 : decode cX0_field 84 = .ok (.aaload, 1) := by decide +kernel
theorem dX0_field_85 : decode cX0_field 85 = .ok (.lconst 0, 1) := by decide +kernel
theorem dX0_field_86 : decode cX0_field 86 = .ok (.invokestatic 62, 3) := by decide +kernel
theorem dX0_field_89 : decode cX0_field 89 = .ok (.iinc 5 1, 3) := by decide +kernel
theorem dX0_field_92 : decode cX0_field 92 = .ok (.goto (-21), 3) := by decide +kernel
theorem dX0_field_95 : decode cX0_field 95 = .ok (.lload_n 3, 1) := by decide +kernel
theorem dX0_field_96 : decode cX0_field 96 = .ok (.lreturn, 1) := by decide +kernel
set_option maxRecDepth 20000 in
theorem ggX0_times_X0_rest : GoodIn wsX0_times wsX0_rest := goodIn_r _ [6, 1, 7, 8, 9, 10, 11, 12, 13, 14, 15, 16, 17, 18] (by decide +kernel) (by decide +kernel)
set_option maxRecDepth 20000 in
theorem gX0_times_X0_rest : GoodIn wsX0_times (wsV RX0 68 RX0 yX0_rest wsX0_rest) := goodIn_app (goodIn_of _ (by decide +kernel)) ggX0_times_X0_rest
theorem dX0_times_0 : decode cX0_times 0 = .ok (.aload_n 0, 1) := by decide +kernel
theorem dX0_times_1 : decode cX0_times 1 = .ok (.lload_n 1, 1) := by decide +kernel
theorem dX0_times_2 : decode cX0_times 2 = .ok (.invokevirtual 68, 3) := by decide +kernel
theorem dX0_times_5 : decode cX0_times 5 = .ok (.aload_n 0, 1) := by decide +kernel
theorem dX0_times_6 : decode cX0_times 6 = .ok (.lload_n 3, 1) := by decide +kernel
theorem dX0_times_7 : decode cX0_times 7 = .ok (.invokevirtual 68, 3) := by decide +kernel
theorem dX0_times_10 : decode cX0_times 10 = .ok (.lmul, 1) := by decide +kernel
theorem dX0_times_11 : decode cX0_times 11 = .ok (.aload_n 0, 1) := by decide +kernel
theorem dX0_times_12 : decode cX0_times 12 = .ok (.getfield 71, 3) := by decide +kernel
theorem dX0_times_15 : decode cX0_times 15 = .ok (.lrem, 1) := by decide +kernel
theorem dX0_times_16 : decode cX0_times 16 = .ok (.lreturn, 1) := by decide +kernel
set_option maxRecDepth 20000 in
theorem ggX0_power_X0_rest : GoodIn wsX0_power wsX0_rest := goodIn_r _ [8, 3, 9, 10, 11, 12, 16, 17, 18, 19, 20, 21, 22, 23] (by decide +kernel) (by decide +kernel)
set_option maxRecDepth 20000 in
theorem gX0_power_X0_rest : GoodIn wsX0_power (wsV RX0 68 RX0 yX0_rest wsX0_rest) := goodIn_app (goodIn_of _ (by decide +kernel)) ggX0_power_X0_rest
set_option maxRecDepth 20000 in
theorem ggX0_power_X0_powerModulo : GoodIn wsX0_power wsX0_powerModulo := goodIn_r _ [15] (by decide +kernel) (by decide +kernel)
set_option maxRecDepth 20000 in
theorem gX0_power_X0_powerModulo : GoodIn wsX0_power (va_wsS RX0 77 yX0_powerModulo wsX0_powerModulo) := goodIn_app (goodIn_of _ (by decide +kernel)) ggX0_power_X0_powerModulo
theorem dX0_power_0 : decode cX0_power 0 = .ok (.lload_n 3, 1) := by decide +kernel
theorem dX0_power_1 : decode cX0_power 1 = .ok (.lconst 0, 1) := by decide +kernel
theorem dX0_power_2 : decode cX0_power 2 = .ok (.lcmp, 1) := by decide +kernel
theorem dX0_power_3 : decode cX0_power 3 = .ok (.ifCond .ge 13, 3) := by decide +kernel
theorem dX0_power_6 : decode cX0_power 6 = .ok (.new 47, 3) := by decide +kernel
theorem dX0_power_9 : decode cX0_power 9 = .ok (.dup, 1) := by decide +kernel
theorem dX0_power_10 : decode cX0_power 10 = .ok (.ldc 75, 2) := by decide +kernel
theorem dX0_power_12 : decode cX0_power 12 = .ok (.invokespecial 51, 3) := by decide +kernel
theorem dX0_power_15 : decode cX0_power 15 = .ok (.athrow, 1) := by decide +kernel
theorem dX0_power_16 : decode cX0_power 16 = .ok (.aload_n 0, 1) := by decide +kernel
theorem dX0_power_17 : decode cX0_power 17 = .ok (.lload_n 1, 1) := by decide +kernel
theorem dX0_power_18 : decode cX0_power 18 = .ok (.invokevirtual 68, 3) := by decide +kernel
theorem dX0_power_21 : decode cX0_power 21 = .ok (.lload_n 3, 1) := by decide +kernel
theorem dX0_power_22 : decode cX0_power 22 = .ok (.aload_n 0, 1) := by decide +kernel
theorem dX0_power_23 : decode cX0_power 23 = .ok (.getfield 71, 3) := by decide +kernel
theorem dX0_power_26 : decode cX0_power 26 = .ok (.invokestatic 77, 3) := by decide +kernel
theorem dX0_power_29 : decode cX0_power 29 = .ok (.lreturn, 1) := by decide +kernel
set_option maxRecDepth 20000 in
theorem ggX0_inverse_X0_rest : GoodIn wsX0_inverse wsX0_rest := goodIn_r _ [7, 8, 9, 10, 11, 12, 21, 22, 23, 24, 25, 26, 27, 28] (by decide +kernel) (by decide +kernel)
set_option maxRecDepth 20000 in
theorem gX0_inverse_X0_rest : GoodIn wsX0_inverse (wsV RX0 68 RX0 yX0_rest wsX0_rest) := goodIn_app (goodIn_of _ (by decide +kernel)) ggX0_inverse_X0_rest
set_option maxRecDepth 20000 in
theorem ggX0_inverse_X0_inverseOf : GoodIn wsX0_inverse wsX0_inverseOf := goodIn_r _ [16, 8, 17, 18, 19, 6, 20, 21, 22, 23, 24, 25, 26, 27, 28] (by decide +kernel) (by decide +kernel)
set_option maxRecDepth 20000 in
theorem gX0_inverse_X0_inverseOf : GoodIn wsX0_inverse (wsV RX0 83 RX0 yX0_inverseOf wsX0_inverseOf) := goodIn_app (goodIn_of _ (by decide +kernel)) ggX0_inverse_X0_inverseOf
theorem dX0_inverse_0 : decode cX0_inverse 0 = .ok (.aload_n 0, 1) := by decide +kernel
theorem dX0_inverse_1 : decode cX0_inverse 1 = .ok (.lload_n 1, 1) := by decide +kernel
theorem dX0_inverse_2 : decode cX0_inverse 2 = .ok (.invokevirtual 68, 3) := by decide +kernel
theorem dX0_inverse_5 : decode cX0_inverse 5 = .ok (.lstore_n 3, 1) := by decide +kernel
theorem dX0_inverse_6 : decode cX0_inverse 6 = .ok (.lload_n 3, 1) := by decide +kernel
theorem dX0_inverse_7 : decode cX0_inverse 7 = .ok (.lconst 0, 1) := by decide +kernel
theorem dX0_inverse_8 : decode cX0_inverse 8 = .ok (.lcmp, 1) := by decide +kernel
theorem dX0_inverse_9 : decode cX0_inverse 9 = .ok (.ifCond .ne 13, 3) := by decide +kernel
theorem dX0_inverse_12 : decode cX0_inverse 12 = .ok (.new 47, 3) := by decide +kernel
theorem dX0_inverse_15 : decode cX0_inverse 15 = .ok (.dup, 1) := by decide +kernel
theorem dX0_inverse_16 : decode cX0_inverse 16 = .ok (.ldc 81, 2) := by decide +kernel
theorem dX0_inverse_18 : decode cX0_inverse 18 = .ok (.invokespecial 51, 3) := by decide +kernel
theorem dX0_inverse_21 : decode cX0_inverse 21 = .ok (.athrow, 1) := by decide +kernel
theorem dX0_inverse_22 : decode cX0_inverse 22 = .ok (.aload_n 0, 1) := by decide +kernel
theorem dX0_inverse_23 : decode cX0_inverse 23 = .ok (.lload_n 3, 1) := by decide +kernel
theorem dX0_inverse_24 : decode cX0_inverse 24 = .ok (.invokevirtual 83, 3) := by decide +kernel
theorem dX0_inverse_27 : decode cX0_inverse 27 = .ok (.lreturn, 1) := by decide +kernel
set_option maxRecDepth 20000 in
theorem ggX0_put_X0_checkRow : GoodIn wsX0_put wsX0_checkRow := goodIn_ca (goodIn_r _ [5, 6, 7] (by decide +kernel) (by decide +kernel)) (goodIn_sub (fun _ h => List.mem_cons_of_mem _ (List.mem_append_right _ h)) (by decide +kernel))
set_option maxRecDepth 20000 in
theorem gX0_put_X0_checkRow : GoodIn wsX0_put (va_wsS RX0 86 yX0_checkRow wsX0_checkRow) := goodIn_app (goodIn_of _ (by decide +kernel)) ggX0_put_X0_checkRow
set_option maxRecDepth 20000 in
theorem ggX0_put_X0_checkCoefficient : GoodIn wsX0_put wsX0_checkCoefficient := goodIn_ca (goodIn_r _ [10, 6, 7] (by decide +kernel) (by decide +kernel)) (goodIn_sub (fun _ h => List.mem_cons_of_mem _ (List.mem_append_right _ h)) (by decide +kernel))
set_option maxRecDepth 20000 in
theorem gX0_put_X0_checkCoefficient : GoodIn wsX0_put (va_wsS RX0 90 yX0_checkCoefficient wsX0_checkCoefficient) := goodIn_app (goodIn_of _ (by decide +kernel)) ggX0_put_X0_checkCoefficient
set_option maxRecDepth 20000 in
theorem ggX0_put_X0_rest : GoodIn wsX0_put wsX0_rest := goodIn_r _ [14, 15, 16, 17, 18, 19, 20, 21, 22, 23, 24, 25, 26, 27] (by decide +kernel) (by decide +kernel)
set_option maxRecDepth 20000 in
theorem gX0_put_X0_rest : GoodIn wsX0_put (wsV RX0 68 RX0 yX0_rest wsX0_rest) := goodIn_app (goodIn_of _ (by decide +kernel)) ggX0_put_X0_rest
theorem dX0_put_0 : decode cX0_put 0 = .ok (.iload_n 1, 1) := by decide +kernel
theorem dX0_put_1 : decode cX0_put 1 = .ok (.invokestatic 86, 3) := by decide +kernel
theorem dX0_put_4 : decode cX0_put 4 = .ok (.iload_n 2, 1) := by decide +kernel
theorem dX0_put_5 : decode cX0_put 5 = .ok (.invokestatic 90, 3) := by decide +kernel
theorem dX0_put_8 : decode cX0_put 8 = .ok (.aload_n 0, 1) := by decide +kernel
theorem dX0_put_9 : decode cX0_put 9 = .ok (.getfield 15, 3) := by decide +kernel
theorem dX0_put_12 : decode cX0_put 12 = .ok (.iload_n 1, 1) := by decide +kernel
theorem dX0_put_13 : decode cX0_put 13 = .ok (.aaload, 1) := by decide +kernel
theorem dX0_put_14 : decode cX0_put 14 = .ok (.iload_n 2, 1) := by decide +kernel
theorem dX0_put_15 : decode cX0_put 15 = .ok (.laload, 1) := by decide +kernel
theorem dX0_put_16 : decode cX0_put 16 = .ok (.lstore 5, 2) := by decide +kernel
theorem dX0_put_18 : decode cX0_put 18 = .ok (.aload_n 0, 1) := by decide +kernel
theorem dX0_put_19 : decode cX0_put 19 = .ok (.lload_n 3, 1) := by decide +kernel
theorem dX0_put_20 : decode cX0_put 20 = .ok (.invokevirtual 68, 3) := by decide +kernel
theorem dX0_put_23 : decode cX0_put 23 = .ok (.lstore 7, 2) := by decide +kernel
theorem dX0_put_25 : decode cX0_put 25 = .ok (.aload_n 0, 1) := by decide +kernel
theorem dX0_put_26 : decode cX0_put 26 = .ok (.getfield 15, 3) := by decide +kernel
theorem dX0_put_29 : decode cX0_put 29 = .ok (.iload_n 1, 1) := by decide +kernel
theorem dX0_put_30 : decode cX0_put 30 = .ok (.aaload, 1) := by decide +kernel
theorem dX0_put_31 : decode cX0_put 31 = .ok (.iload_n 2, 1) := by decide +kernel
theorem dX0_put_32 : decode cX0_put 32 = .ok (.lload 7, 2) := by decide +kernel
theorem dX0_put_34 : decode cX0_put 34 = .ok (.lastore, 1) := by decide +kernel
theorem dX0_put_35 : decode cX0_put 35 = .ok (.lload 5, 2) := by decide +kernel
theorem dX0_put_37 : decode cX0_put 37 = .ok (.lload 7, 2) := by decide +kernel
theorem dX0_put_39 : decode cX0_put 39 = .ok (.lcmp, 1) := by decide +kernel
theorem dX0_put_40 : decode cX0_put 40 = .ok (.ifCond .eq 7, 3) := by decide +kernel
theorem dX0_put_43 : decode cX0_put 43 = .ok (.iconst 1, 1) := by decide +kernel
theorem dX0_put_44 : decode cX0_put 44 = .ok (.goto 4, 3) := by decide +kernel
theorem dX0_put_47 : decode cX0_put 47 = .ok (.iconst 0, 1) := by decide +kernel
theorem dX0_put_48 : decode cX0_put 48 = .ok (.ireturn, 1) := by decide +kernel
set_option maxRecDepth 20000 in
theorem ggX0_get_X0_checkRow : GoodIn wsX0_get wsX0_checkRow := goodIn_ca (goodIn_r _ [5, 6, 7] (by decide +kernel) (by decide +kernel)) (goodIn_sub (fun _ h => List.mem_cons_of_mem _ (List.mem_append_right _ h)) (by decide +kernel))
set_option maxRecDepth 20000 in
theorem gX0_get_X0_checkRow : GoodIn wsX0_get (va_wsS RX0 86 yX0_checkRow wsX0_checkRow) := goodIn_app (goodIn_of _ (by decide +kernel)) ggX0_get_X0_checkRow
set_option maxRecDepth 20000 in
theorem ggX0_get_X0_checkCoefficient : GoodIn wsX0_get wsX0_checkCoefficient := goodIn_ca (goodIn_r _ [10, 6, 7] (by decide +kernel) (by decide +kernel)) (goodIn_sub (fun _ h => List.mem_cons_of_mem _ (List.mem_append_right _ h)) (by decide +kernel))
set_option maxRecDepth 20000 in
theorem gX0_get_X0_checkCoefficient : GoodIn wsX0_get (va_wsS RX0 90 yX0_checkCoefficient wsX0_checkCoefficient) := goodIn_app (goodIn_of _ (by decide +kernel)) ggX0_get_X0_checkCoefficient
theorem dX0_get_0 : decode cX0_get 0 = .ok (.iload_n 1, 1) := by decide +kernel
theorem dX0_get_1 : decode cX0_get 1 = .ok (.invokestatic 86, 3) := by decide +kernel
theorem dX0_get_4 : decode cX0_get 4 = .ok (.iload_n 2, 1) := by decide +kernel
theorem dX0_get_5 : decode cX0_get 5 = .ok (.invokestatic 90, 3) := by decide +kernel
theorem dX0_get_8 : decode cX0_get 8 = .ok (.aload_n 0, 1) := by decide +kernel
theorem dX0_get_9 : decode cX0_get 9 = .ok (.getfield 15, 3) := by decide +kernel
theorem dX0_get_12 : decode cX0_get 12 = .ok (.iload_n 1, 1) := by decide +kernel
theorem dX0_get_13 : decode cX0_get 13 = .ok (.aaload, 1) := by decide +kernel
theorem dX0_get_14 : decode cX0_get 14 = .ok (.iload_n 2, 1) := by decide +kernel
theorem dX0_get_15 : decode cX0_get 15 = .ok (.laload, 1) := by decide +kernel
theorem dX0_get_16 : decode cX0_get 16 = .ok (.lreturn, 1) := by decide +kernel
set_option maxRecDepth 20000 in
theorem ggX0_length_X0_checkRow : GoodIn wsX0_length wsX0_checkRow := goodIn_ca (goodIn_r _ [5, 6, 7] (by decide +kernel) (by decide +kernel)) (goodIn_sub (fun _ h => List.mem_cons_of_mem _ (List.mem_append_right _ h)) (by decide +kernel))
set_option maxRecDepth 20000 in
theorem gX0_length_X0_checkRow : GoodIn wsX0_length (va_wsS RX0 86 yX0_checkRow wsX0_checkRow) := goodIn_app (goodIn_of _ (by decide +kernel)) ggX0_length_X0_checkRow
set_option maxRecDepth 20000 in
theorem ggX0_length_X0_usedPart : GoodIn wsX0_length wsX0_usedPart := goodIn_r _ [10] (by decide +kernel) (by decide +kernel)
set_option maxRecDepth 20000 in
theorem gX0_length_X0_usedPart : GoodIn wsX0_length (va_wsS RX0 93 yX0_usedPart wsX0_usedPart) := goodIn_app (goodIn_of _ (by decide +kernel)) ggX0_length_X0_usedPart
theorem dX0_length_0 : decode cX0_length 0 = .ok (.iload_n 1, 1) := by decide +kernel
theorem dX0_length_1 : decode cX0_length 1 = .ok (.invokestatic 86, 3) := by decide +kernel
theorem dX0_length_4 : decode cX0_length 4 = .ok (.aload_n 0, 1) := by decide +kernel
theorem dX0_length_5 : decode cX0_length 5 = .ok (.getfield 15, 3) := by decide +kernel
theorem dX0_length_8 : decode cX0_length 8 = .ok (.iload_n 1, 1) := by decide +kernel
theorem dX0_length_9 : decode cX0_length 9 = .ok (.aaload, 1) := by decide +kernel
theorem dX0_length_10 : decode cX0_length 10 = .ok (.invokestatic 93, 3) := by decide +kernel
theorem dX0_length_13 : decode cX0_length 13 = .ok (.ireturn, 1) := by decide +kernel
set_option maxRecDepth 20000 in
theorem ggX0_turn_X0_checkRow : GoodIn wsX0_turn wsX0_checkRow := goodIn_ca (goodIn_r _ [5, 6, 7] (by decide +kernel) (by decide +kernel)) (goodIn_sub (fun _ h => List.mem_cons_of_mem _ (List.mem_append_left _ (List.mem_append_right _ h))) (by decide +kernel))
set_option maxRecDepth 20000 in
theorem gX0_turn_X0_checkRow : GoodIn wsX0_turn (va_wsS RX0 86 yX0_checkRow wsX0_checkRow) := goodIn_app (goodIn_of _ (by decide +kernel)) ggX0_turn_X0_checkRow
set_option maxRecDepth 20000 in
theorem ggX0_turn_X0_checkTurn : GoodIn wsX0_turn wsX0_checkTurn := goodIn_ca (goodIn_r _ [10, 11, 12] (by decide +kernel) (by decide +kernel)) (goodIn_sub (fun _ h => List.mem_cons_of_mem _ (List.mem_append_right _ h)) (by decide +kernel))
set_option maxRecDepth 20000 in
theorem gX0_turn_X0_checkTurn : GoodIn wsX0_turn (va_wsS RX0 97 yX0_checkTurn wsX0_checkTurn) := goodIn_app (goodIn_of _ (by decide +kernel)) ggX0_turn_X0_checkTurn
set_option maxRecDepth 20000 in
theorem ggX0_turn_X0_turnBackward : GoodIn wsX0_turn wsX0_turnBackward := goodIn_r _ [16, 17, 18, 19, 20, 4, 21, 22, 23, 24, 25, 26, 27, 28, 29, 30, 31, 32, 33, 34, 35, 36, 37, 38, 39, 40, 41, 42, 43, 44, 45, 46, 47, 48, 49, 50, 51] (by decide +kernel) (by decide +kernel)
set_option maxRecDepth 20000 in
theorem gX0_turn_X0_turnBackward : GoodIn wsX0_turn (wsV RX0 100 RX0 yX0_turnBackward wsX0_turnBackward) := goodIn_app (goodIn_of _ (by decide +kernel)) ggX0_turn_X0_turnBackward
set_option maxRecDepth 20000 in
theorem ggX0_turn_X0_turnForward : GoodIn wsX0_turn wsX0_turnForward := goodIn_r _ [21, 22, 23, 4, 24, 25, 26, 27, 28, 29, 30, 31, 32, 33, 34, 35, 17, 44, 45, 46, 47, 48, 49, 50, 51] (by decide +kernel) (by decide +kernel)
set_option maxRecDepth 20000 in
theorem gX0_turn_X0_turnForward : GoodIn wsX0_turn (wsV RX0 104 RX0 yX0_turnForward wsX0_turnForward) := goodIn_app (goodIn_of _ (by decide +kernel)) ggX0_turn_X0_turnForward
theorem dX0_turn_0 : decode cX0_turn 0 = .ok (.iload_n 1, 1) := by decide +kernel
theorem dX0_turn_1 : decode cX0_turn 1 = .ok (.invokestatic 86, 3) := by decide +kernel
theorem dX0_turn_4 : decode cX0_turn 4 = .ok (.iload_n 2, 1) := by decide +kernel
theorem dX0_turn_5 : decode cX0_turn 5 = .ok (.invokestatic 97, 3) := by decide +kernel
theorem dX0_turn_8 : decode cX0_turn 8 = .ok (.iload_n 3, 1) := by decide +kernel
theorem dX0_turn_9 : decode cX0_turn 9 = .ok (.ifCond .eq 17, 3) := by decide +kernel
theorem dX0_turn_12 : decode cX0_turn 12 = .ok (.aload_n 0, 1) := by decide +kernel
theorem dX0_turn_13 : decode cX0_turn 13 = .ok (.aload_n 0, 1) := by decide +kernel
theorem dX0_turn_14 : decode cX0_turn 14 = .ok (.getfield 15, 3) := by decide +kernel
theorem dX0_turn_17 : decode cX0_turn 17 = .ok (.iload_n 1, 1) := by decide +kernel
theorem dX0_turn_18 : decode cX0_turn 18 = .ok (.aaload, 1) := by decide +kernel
theorem dX0_turn_19 : decode cX0_turn 19 = .ok (.iload_n 2, 1) := by decide +kernel
theorem dX0_turn_20 : decode cX0_turn 20 = .ok (.invokevirtual 100, 3) := by decide +kernel
theorem dX0_turn_23 : decode cX0_turn 23 = .ok (.goto 14, 3) := by decide +kernel
theorem dX0_turn_26 : decode cX0_turn 26 = .ok (.aload_n 0, 1) := by decide +kernel
theorem dX0_turn_27 : decode cX0_turn 27 = .ok (.aload_n 0, 1) := by decide +kernel
theorem dX0_turn_28 : decode cX0_turn 28 = .ok (.getfield 15, 3) := by decide +kernel
theorem dX0_turn_31 : decode cX0_turn 31 = .ok (.iload_n 1, 1) := by decide +kernel
theorem dX0_turn_32 : decode cX0_turn 32 = .ok (.aaload, 1) := by decide +kernel
theorem dX0_turn_33 : decode cX0_turn 33 = .ok (.iload_n 2, 1) := by decide +kernel
theorem dX0_turn_34 : decode cX0_turn 34 = .ok (.invokevirtual 104, 3) := by decide +kernel
theorem dX0_turn_37 : decode cX0_turn 37 = .ok (.return_, 1) := by decide +kernel
set_option maxRecDepth 20000 in
theorem ggX0_product_X0_checkRow : GoodIn wsX0_product wsX0_checkRow := goodIn_ca (goodIn_r _ [7, 8, 9] (by decide +kernel) (by decide +kernel)) (goodIn_sub (fun _ h => List.mem_cons_of_mem _ (List.mem_append_right _ h)) (by decide +kernel))
set_option maxRecDepth 20000 in
theorem gX0_product_X0_checkRow : GoodIn wsX0_product (va_wsS RX0 86 yX0_checkRow wsX0_checkRow) := goodIn_app (goodIn_of _ (by decide +kernel)) ggX0_product_X0_checkRow
set_option maxRecDepth 20000 in
theorem ggX0_product_X0_usedPart : GoodIn wsX0_product wsX0_usedPart := goodIn_r _ [12] (by decide +kernel) (by decide +kernel)
set_option maxRecDepth 20000 in
theorem gX0_product_X0_usedPart : GoodIn wsX0_product (va_wsS RX0 93 yX0_usedPart wsX0_usedPart) := goodIn_app (goodIn_of _ (by decide +kernel)) ggX0_product_X0_usedPart
set_option maxRecDepth 20000 in
theorem ggX0_product_J7_fill_d0a16 : GoodIn wsX0_product wsJ7_fill_d0a16 := goodIn_r _ [16] (by decide +kernel) (by decide +kernel)
set_option maxRecDepth 20000 in
theorem gX0_product_J7_fill_d0a16 : GoodIn wsX0_product (va_wsS RX0 62 yJ7_fill_d0a16 wsJ7_fill_d0a16) := goodIn_app (goodIn_of _ (by decide +kernel)) ggX0_product_J7_fill_d0a16
set_option maxRecDepth 20000 in
theorem ggX0_product_X0_turnThatHolds : GoodIn wsX0_product wsX0_turnThatHolds := goodIn_r _ [19] (by decide +kernel) (by decide +kernel)
set_option maxRecDepth 20000 in
theorem gX0_product_X0_turnThatHolds : GoodIn wsX0_product (va_wsS RX0 112 yX0_turnThatHolds wsX0_turnThatHolds) := goodIn_app (goodIn_of _ (by decide +kernel)) ggX0_product_X0_turnThatHolds
set_option maxRecDepth 20000 in
theorem ggX0_product_X0_multiplyRows : GoodIn wsX0_product wsX0_multiplyRows := goodIn_r _ [23, 24, 25, 26, 27, 28, 29, 30, 31, 32, 33, 6, 34, 35, 36, 37, 38, 39, 40, 41, 42, 43, 44, 45, 46, 47, 48, 49, 50, 51, 52, 53, 54, 55, 56, 57, 58, 59, 60, 13, 14, 15, 16, 61, 62, 63, 64, 65, 66, 67, 68] (by decide +kernel) (by decide +kernel)
set_option maxRecDepth 20000 in
theorem gX0_product_X0_multiplyRows : GoodIn wsX0_product (wsV RX0 116 RX0 yX0_multiplyRows wsX0_multiplyRows) := goodIn_app (goodIn_of _ (by decide +kernel)) ggX0_product_X0_multiplyRows
theorem dX0_product_0 : decode cX0_product 0 = .ok (.iload_n 1, 1) := by decide +kernel
theorem dX0_product_1 : decode cX0_product 1 = .ok (.invokestatic 86, 3) := by decide +kernel
theorem dX0_product_4 : decode cX0_product 4 = .ok (.iload_n 2, 1) := by decide +kernel
theorem dX0_product_5 : decode cX0_product 5 = .ok (.invokestatic 86, 3) := by decide +kernel
theorem dX0_product_8 : decode cX0_product 8 = .ok (.iload_n 3, 1) := by decide +kernel
theorem dX0_product_9 : decode cX0_product 9 = .ok (.invokestatic 86, 3) := by decide +kernel
theorem dX0_product_12 : decode cX0_product 12 = .ok (.aload_n 0, 1) := by decide +kernel
theorem dX0_product_13 : decode cX0_product 13 = .ok (.getfield 15, 3) := by decide +kernel
theorem dX0_product_16 : decode cX0_product 16 = .ok (.iload_n 2, 1) := by decide +kernel
theorem dX0_product_17 : decode cX0_product 17 = .ok (.aaload, 1) := by decide +kernel
theorem dX0_product_18 : decode cX0_product 18 = .ok (.invokestatic 93, 3) := by decide +kernel
theorem dX0_product_21 : decode cX0_product 21 = .ok (.istore 4, 2) := by decide +kernel
theorem dX0_product_23 : decode cX0_product 23 = .ok (.aload_n 0, 1) := by decide +kernel
theorem dX0_product_24 : decode cX0_product 24 = .ok (.getfield 15, 3) := by decide +kernel
theorem dX0_product_27 : decode cX0_product 27 = .ok (.iload_n 3, 1) := by decide +kernel
theorem dX0_product_28 : decode cX0_product 28 = .ok (.aaload, 1) := by decide +kernel
theorem dX0_product_29 : decode cX0_product 29 = .ok (.invokestatic 93, 3) := by decide +kernel
theorem dX0_product_32 : decode cX0_product 32 = .ok (.istore 5, 2) := by decide +kernel
theorem dX0_product_34 : decode cX0_product 34 = .ok (.iload 4, 2) := by decide +kernel
theorem dX0_product_36 : decode cX0_product 36 = .ok (.ifCond .eq 8, 3) := by decide +kernel
theorem dX0_product_39 : decode cX0_product 39 = .ok (.iload 5, 2) := by decide +kernel
theorem dX0_product_41 : decode cX0_product 41 = .ok (.ifCond .ne 15, 3) := by decide +kernel
theorem dX0_product_44 : decode cX0_product 44 = .ok (.aload_n 0, 1) := by decide +kernel
theorem dX0_product_45 : decode cX0_product 45 = .ok (.getfield 15, 3) := by decide +kernel
theorem dX0_product_48 : decode cX0_product 48 = .ok (.iload_n 1, 1) := by decide +kernel
theorem dX0_product_49 : decode cX0_product 49 = .ok (.aaload, 1) := by decide +kernel
theorem dX0_product_50 : decode cX0_product 50 = .ok (.lconst 0, 1) := by decide +kernel
theorem dX0_product_51 : decode cX0_product 51 = .ok (.invokestatic 62, 3) := by decide +kernel
theorem dX0_product_54 : decode cX0_product 54 = .ok (.iconst 0, 1) := by decide +kernel
theorem dX0_product_55 : decode cX0_product 55 = .ok (.ireturn, 1) := by decide +kernel
theorem dX0_product_56 : decode cX0_product 56 = .ok (.iload 4, 2) := by decide +kernel
theorem dX0_product_58 : decode cX0_product 58 = .ok (.iload 5, 2) := by decide +kernel
theorem dX0_product_60 : decode cX0_product 60 = .ok (.iadd, 1) := by decide +kernel
theorem dX0_product_61 : decode cX0_product 61 = .ok (.iconst 1, 1) := by decide +kernel
theorem dX0_product_62 : decode cX0_product 62 = .ok (.isub, 1) := by decide +kernel
theorem dX0_product_63 : decode cX0_product 63 = .ok (.istore 6, 2) := by decide +kernel
theorem dX0_product_65 : decode cX0_product 65 = .ok (.iload 6, 2) := by decide +kernel
theorem dX0_product_67 : decode cX0_product 67 = .ok (.sipush 512, 3) := by decide +kernel
theorem dX0_product_70 : decode cX0_product 70 = .ok (.if_icmp .le 13, 3) := by decide +kernel
theorem dX0_product_73 : decode cX0_product 73 = .ok (.new 107, 3) := by decide +kernel
theorem dX0_product_76 : decode cX0_product 76 = .ok (.dup, 1) := by decide +kernel
theorem dX0_product_77 : decode cX0_product 77 = .ok (.ldc 109, 2) := by decide +kernel
theorem dX0_product_79 : decode cX0_product 79 = .ok (.invokespecial 111, 3) := by decide +kernel
theorem dX0_product_82 : decode cX0_product 82 = .ok (.athrow, 1) := by decide +kernel
theorem dX0_product_83 : decode cX0_product 83 = .ok (.aload_n 0, 1) := by decide +kernel
theorem dX0_product_84 : decode cX0_product 84 = .ok (.aload_n 0, 1) := by decide +kernel
theorem dX0_product_85 : decode cX0_product 85 = .ok (.getfield 15, 3) := by decide +kernel
theorem dX0_product_88 : decode cX0_product 88 = .ok (.iload_n 1, 1) := by decide +kernel
theorem dX0_product_89 : decode cX0_product 89 = .ok (.aaload, 1) := by decide +kernel
theorem dX0_product_90 : decode cX0_product 90 = .ok (.aload_n 0, 1) := by decide +kernel
theorem dX0_product_91 : decode cX0_product 91 = .ok (.getfield 15, 3) := by decide +kernel
theorem dX0_product_94 : decode cX0_product 94 = .ok (.iload_n 2, 1) := by decide +kernel
theorem dX0_product_95 : decode cX0_product 95 = .ok (.aaload, 1) := by decide +kernel
theorem dX0_product_96 : decode cX0_product 96 = .ok (.aload_n 0, 1) := by decide +kernel
theorem dX0_product_97 : decode cX0_product 97 = .ok (.getfield 15, 3) := by decide +kernel
theorem dX0_product_100 : decode cX0_product 100 = .ok (.iload_n 3, 1) := by decide +kernel
theorem dX0_product_101 : decode cX0_product 101 = .ok (.aaload, 1) := by decide +kernel
theorem dX0_product_102 : decode cX0_product 102 = .ok (.iload 6, 2) := by decide +kernel
theorem dX0_product_104 : decode cX0_product 104 = .ok (.invokestatic 112, 3) := by decide +kernel
theorem dX0_product_107 : decode cX0_product 107 = .ok (.invokevirtual 116, 3) := by decide +kernel
theorem dX0_product_110 : decode cX0_product 110 = .ok (.iload 6, 2) := by decide +kernel
theorem dX0_product_112 : decode cX0_product 112 = .ok (.ireturn, 1) := by decide +kernel
set_option maxRecDepth 20000 in
theorem ggX0_at_X0_checkRow : GoodIn wsX0_at wsX0_checkRow := goodIn_ca (goodIn_r _ [6, 7, 8] (by decide +kernel) (by decide +kernel)) (goodIn_sub (fun _ h => List.mem_cons_of_mem _ (List.mem_append_right _ h)) (by decide +kernel))
set_option maxRecDepth 20000 in
theorem gX0_at_X0_checkRow : GoodIn wsX0_at (va_wsS RX0 86 yX0_checkRow wsX0_checkRow) := goodIn_app (goodIn_of _ (by decide +kernel)) ggX0_at_X0_checkRow
set_option maxRecDepth 20000 in
theorem ggX0_at_X0_rest : GoodIn wsX0_at wsX0_rest := goodIn_r _ [12, 2, 13, 14, 15, 16, 20, 21, 22, 23, 24, 25, 26, 27] (by decide +kernel) (by decide +kernel)
set_option maxRecDepth 20000 in
theorem gX0_at_X0_rest : GoodIn wsX0_at (wsV RX0 68 RX0 yX0_rest wsX0_rest) := goodIn_app (goodIn_of _ (by decide +kernel)) ggX0_at_X0_rest
set_option maxRecDepth 20000 in
theorem ggX0_at_X0_usedPart : GoodIn wsX0_at wsX0_usedPart := goodIn_r _ [19] (by decide +kernel) (by decide +kernel)
set_option maxRecDepth 20000 in
theorem gX0_at_X0_usedPart : GoodIn wsX0_at (va_wsS RX0 93 yX0_usedPart wsX0_usedPart) := goodIn_app (goodIn_of _ (by decide +kernel)) ggX0_at_X0_usedPart
theorem dX0_at_0 : decode cX0_at 0 = .ok (.iload_n 1, 1) := by decide +kernel
theorem dX0_at_1 : decode cX0_at 1 = .ok (.invokestatic 86, 3) := by decide +kernel
theorem dX0_at_4 : decode cX0_at 4 = .ok (.aload_n 0, 1) := by decide +kernel
theorem dX0_at_5 : decode cX0_at 5 = .ok (.getfield 15, 3) := by decide +kernel
theorem dX0_at_8 : decode cX0_at 8 = .ok (.iload_n 1, 1) := by decide +kernel
theorem dX0_at_9 : decode cX0_at 9 = .ok (.aaload, 1) := by decide +kernel
theorem dX0_at_10 : decode cX0_at 10 = .ok (.astore 4, 2) := by decide +kernel
theorem dX0_at_12 : decode cX0_at 12 = .ok (.aload_n 0, 1) := by decide +kernel
theorem dX0_at_13 : decode cX0_at 13 = .ok (.lload_n 2, 1) := by decide +kernel
theorem dX0_at_14 : decode cX0_at 14 = .ok (.invokevirtual 68, 3) := by decide +kernel
theorem dX0_at_17 : decode cX0_at 17 = .ok (.lstore 5, 2) := by decide +kernel
theorem dX0_at_19 : decode cX0_at 19 = .ok (.lconst 0, 1) := by decide +kernel
theorem dX0_at_20 : decode cX0_at 20 = .ok (.lstore 7, 2) := by decide +kernel
theorem dX0_at_22 : decode cX0_at 22 = .ok (.aload 4, 2) := by decide +kernel
theorem dX0_at_24 : decode cX0_at 24 = .ok (.invokestatic 93, 3) := by decide +kernel
theorem dX0_at_27 : decode cX0_at 27 = .ok (.iconst 1, 1) := by decide +kernel
theorem dX0_at_28 : decode cX0_at 28 = .ok (.isub, 1) := by decide +kernel
theorem dX0_at_29 : decode cX0_at 29 = .ok (.istore 9, 2) := by decide +kernel
theorem dX0_at_31 : decode cX0_at 31 = .ok (.iload 9, 2) := by decide +kernel
theorem dX0_at_33 : decode cX0_at 33 = .ok (.ifCond .lt 27, 3) := by decide +kernel
theorem dX0_at_36 : decode cX0_at 36 = .ok (.lload 7, 2) := by decide +kernel
theorem dX0_at_38 : decode cX0_at 38 = .ok (.lload 5, 2) := by decide +kernel
theorem dX0_at_40 : decode cX0_at 40 = .ok (.lmul, 1) := by decide +kernel
theorem dX0_at_41 : decode cX0_at 41 = .ok (.aload 4, 2) := by decide +kernel
theorem dX0_at_43 : decode cX0_at 43 = .ok (.iload 9, 2) := by decide +kernel
theorem dX0_at_45 : decode cX0_at 45 = .ok (.laload, 1) := by decide +kernel
theorem dX0_at_46 : decode cX0_at 46 = .ok (.ladd, 1) := by decide +kernel
theorem dX0_at_47 : decode cX0_at 47 = .ok (.aload_n 0, 1) := by decide +kernel
theorem dX0_at_48 : decode cX0_at 48 = .ok (.getfield 71, 3) := by decide +kernel
theorem dX0_at_51 : decode cX0_at 51 = .ok (.lrem, 1) := by decide +kernel
theorem dX0_at_52 : decode cX0_at 52 = .ok (.lstore 7, 2) := by decide +kernel
theorem dX0_at_54 : decode cX0_at 54 = .ok (.iinc 9 (-1), 3) := by decide +kernel
theorem dX0_at_57 : decode cX0_at 57 = .ok (.goto (-26), 3) := by decide +kernel
theorem dX0_at_60 : decode cX0_at 60 = .ok (.lload 7, 2) := by decide +kernel
theorem dX0_at_62 : decode cX0_at 62 = .ok (.lreturn, 1) := by decide +kernel
set_option maxRecDepth 20000 in
theorem ggX0_word_X0_checkNatural : GoodIn wsX0_word wsX0_checkNatural := goodIn_ca (goodIn_r _ [6, 7, 8] (by decide +kernel) (by decide +kernel)) (goodIn_sub (fun _ h => List.mem_cons_of_mem _ (List.mem_append_right _ h)) (by decide +kernel))
set_option maxRecDepth 20000 in
theorem gX0_word_X0_checkNatural : GoodIn wsX0_word (va_wsS RX0 120 yX0_checkNatural wsX0_checkNatural) := goodIn_app (goodIn_of _ (by decide +kernel)) ggX0_word_X0_checkNatural
set_option maxRecDepth 20000 in
theorem ggX0_word_X0_checkWord : GoodIn wsX0_word wsX0_checkWord := goodIn_ca (goodIn_r _ [11, 7, 8] (by decide +kernel) (by decide +kernel)) (goodIn_sub (fun _ h => List.mem_cons_of_mem _ (List.mem_append_right _ h)) (by decide +kernel))
set_option maxRecDepth 20000 in
theorem gX0_word_X0_checkWord : GoodIn wsX0_word (va_wsS RX0 123 yX0_checkWord wsX0_checkWord) := goodIn_app (goodIn_of _ (by decide +kernel)) ggX0_word_X0_checkWord
theorem dX0_word_0 : decode cX0_word 0 = .ok (.iload_n 1, 1) := by decide +kernel
theorem dX0_word_1 : decode cX0_word 1 = .ok (.invokestatic 120, 3) := by decide +kernel
theorem dX0_word_4 : decode cX0_word 4 = .ok (.iload_n 2, 1) := by decide +kernel
theorem dX0_word_5 : decode cX0_word 5 = .ok (.invokestatic 123, 3) := by decide +kernel
theorem dX0_word_8 : decode cX0_word 8 = .ok (.aload_n 0, 1) := by decide +kernel
theorem dX0_word_9 : decode cX0_word 9 = .ok (.getfield 18, 3) := by decide +kernel
theorem dX0_word_12 : decode cX0_word 12 = .ok (.iload_n 1, 1) := by decide +kernel
theorem dX0_word_13 : decode cX0_word 13 = .ok (.aaload, 1) := by decide +kernel
theorem dX0_word_14 : decode cX0_word 14 = .ok (.iload_n 2, 1) := by decide +kernel
theorem dX0_word_15 : decode cX0_word 15 = .ok (.laload, 1) := by decide +kernel
theorem dX0_word_16 : decode cX0_word 16 = .ok (.lstore 5, 2) := by decide +kernel
theorem dX0_word_18 : decode cX0_word 18 = .ok (.lload_n 3, 1) := by decide +kernel
theorem dX0_word_19 : decode cX0_word 19 = .ok (.ldc2_w 126, 3) := by decide +kernel
theorem dX0_word_22 : decode cX0_word 22 = .ok (.land, 1) := by decide +kernel
theorem dX0_word_23 : decode cX0_word 23 = .ok (.lstore 7, 2) := by decide +kernel
theorem dX0_word_25 : decode cX0_word 25 = .ok (.aload_n 0, 1) := by decide +kernel
theorem dX0_word_26 : decode cX0_word 26 = .ok (.getfield 18, 3) := by decide +kernel
theorem dX0_word_29 : decode cX0_word 29 = .ok (.iload_n 1, 1) := by decide +kernel
theorem dX0_word_30 : decode cX0_word 30 = .ok (.aaload, 1) := by decide +kernel
theorem dX0_word_31 : decode cX0_word 31 = .ok (.iload_n 2, 1) := by decide +kernel
theorem dX0_word_32 : decode cX0_word 32 = .ok (.lload 7, 2) := by decide +kernel
theorem dX0_word_34 : decode cX0_word 34 = .ok (.lastore, 1) := by decide +kernel
theorem dX0_word_35 : decode cX0_word 35 = .ok (.lload 5, 2) := by decide +kernel
theorem dX0_word_37 : decode cX0_word 37 = .ok (.lload 7, 2) := by decide +kernel
theorem dX0_word_39 : decode cX0_word 39 = .ok (.lcmp, 1) := by decide +kernel
theorem dX0_word_40 : decode cX0_word 40 = .ok (.ifCond .eq 7, 3) := by decide +kernel
theorem dX0_word_43 : decode cX0_word 43 = .ok (.iconst 1, 1) := by decide +kernel
theorem dX0_word_44 : decode cX0_word 44 = .ok (.goto 4, 3) := by decide +kernel
theorem dX0_word_47 : decode cX0_word 47 = .ok (.iconst 0, 1) := by decide +kernel
theorem dX0_word_48 : decode cX0_word 48 = .ok (.ireturn, 1) := by decide +kernel
set_option maxRecDepth 20000 in
theorem ggX0_wordAt_X0_checkNatural : GoodIn wsX0_wordAt wsX0_checkNatural := goodIn_ca (goodIn_r _ [5, 6, 7] (by decide +kernel) (by decide +kernel)) (goodIn_sub (fun _ h => List.mem_cons_of_mem _ (List.mem_append_right _ h)) (by decide +kernel))
set_option maxRecDepth 20000 in
theorem gX0_wordAt_X0_checkNatural : GoodIn wsX0_wordAt (va_wsS RX0 120 yX0_checkNatural wsX0_checkNatural) := goodIn_app (goodIn_of _ (by decide +kernel)) ggX0_wordAt_X0_checkNatural
set_option maxRecDepth 20000 in
theorem ggX0_wordAt_X0_checkWord : GoodIn wsX0_wordAt wsX0_checkWord := goodIn_ca (goodIn_r _ [10, 6, 7] (by decide +kernel) (by decide +kernel)) (goodIn_sub (fun _ h => List.mem_cons_of_mem _ (List.mem_append_right _ h)) (by decide +kernel))
set_option maxRecDepth 20000 in
theorem gX0_wordAt_X0_checkWord : GoodIn wsX0_wordAt (va_wsS RX0 123 yX0_checkWord wsX0_checkWord) := goodIn_app (goodIn_of _ (by decide +kernel)) ggX0_wordAt_X0_checkWord
theorem dX0_wordAt_0 : decode cX0_wordAt 0 = .ok (.iload_n 1, 1) := by decide +kernel
theorem dX0_wordAt_1 : decode cX0_wordAt 1 = .ok (.invokestatic 120, 3) := by decide +kernel
theorem dX0_wordAt_4 : decode cX0_wordAt 4 = .ok (.iload_n 2, 1) := by decide +kernel
theorem dX0_wordAt_5 : decode cX0_wordAt 5 = .ok (.invokestatic 123, 3) := by decide +kernel
theorem dX0_wordAt_8 : decode cX0_wordAt 8 = .ok (.aload_n 0, 1) := by decide +kernel
theorem dX0_wordAt_9 : decode cX0_wordAt 9 = .ok (.getfield 18, 3) := by decide +kernel
theorem dX0_wordAt_12 : decode cX0_wordAt 12 = .ok (.iload_n 1, 1) := by decide +kernel
theorem dX0_wordAt_13 : decode cX0_wordAt 13 = .ok (.aaload, 1) := by decide +kernel
theorem dX0_wordAt_14 : decode cX0_wordAt 14 = .ok (.iload_n 2, 1) := by decide +kernel
theorem dX0_wordAt_15 : decode cX0_wordAt 15 = .ok (.laload, 1) := by decide +kernel
theorem dX0_wordAt_16 : decode cX0_wordAt 16 = .ok (.lreturn, 1) := by decide +kernel
set_option maxRecDepth 20000 in
theorem ggX0_size_X0_checkNatural : GoodIn wsX0_size wsX0_checkNatural := goodIn_ca (goodIn_r _ [5, 6, 7] (by decide +kernel) (by decide +kernel)) (goodIn_sub (fun _ h => List.mem_cons_of_mem _ (List.mem_append_right _ h)) (by decide +kernel))
set_option maxRecDepth 20000 in
theorem gX0_size_X0_checkNatural : GoodIn wsX0_size (va_wsS RX0 120 yX0_checkNatural wsX0_checkNatural) := goodIn_app (goodIn_of _ (by decide +kernel)) ggX0_size_X0_checkNatural
set_option maxRecDepth 20000 in
theorem ggX0_size_X0_usedPart : GoodIn wsX0_size wsX0_usedPart := goodIn_r _ [10] (by decide +kernel) (by decide +kernel)
set_option maxRecDepth 20000 in
theorem gX0_size_X0_usedPart : GoodIn wsX0_size (va_wsS RX0 93 yX0_usedPart wsX0_usedPart) := goodIn_app (goodIn_of _ (by decide +kernel)) ggX0_size_X0_usedPart
theorem dX0_size_0 : decode cX0_size 0 = .ok (.iload_n 1, 1) := by decide +kernel
theorem dX0_size_1 : decode cX0_size 1 = .ok (.invokestatic 120, 3) := by decide +kernel
theorem dX0_size_4 : decode cX0_size 4 = .ok (.aload_n 0, 1) := by decide +kernel
theorem dX0_size_5 : decode cX0_size 5 = .ok (.getfield 18, 3) := by decide +kernel
theorem dX0_size_8 : decode cX0_size 8 = .ok (.iload_n 1, 1) := by decide +kernel
theorem dX0_size_9 : decode cX0_size 9 = .ok (.aaload, 1) := by decide +kernel
theorem dX0_size_10 : decode cX0_size 10 = .ok (.invokestatic 93, 3) := by decide +kernel
theorem dX0_size_13 : decode cX0_size 13 = .ok (.ireturn, 1) := by decide +kernel
set_option maxRecDepth 20000 in
theorem ggX0_multiply_X0_checkNatural : GoodIn wsX0_multiply wsX0_checkNatural := goodIn_ca (goodIn_r _ [12, 13, 14] (by decide +kernel) (by decide +kernel)) (goodIn_sub (fun _ h => List.mem_cons_of_mem _ (List.mem_append_right _ h)) (by decide +kernel))
set_option maxRecDepth 20000 in
theorem gX0_multiply_X0_checkNatural : GoodIn wsX0_multiply (va_wsS RX0 120 yX0_checkNatural wsX0_checkNatural) := goodIn_app (goodIn_of _ (by decide +kernel)) ggX0_multiply_X0_checkNatural
set_option maxRecDepth 20000 in
theorem ggX0_multiply_X0_usedPart : GoodIn wsX0_multiply wsX0_usedPart := goodIn_r _ [17] (by decide +kernel) (by decide +kernel)
set_option maxRecDepth 20000 in
theorem gX0_multiply_X0_usedPart : GoodIn wsX0_multiply (va_wsS RX0 93 yX0_usedPart wsX0_usedPart) := goodIn_app (goodIn_of _ (by decide +kernel)) ggX0_multiply_X0_usedPart
set_option maxRecDepth 20000 in
theorem ggX0_multiply_J7_fill_d0a16 : GoodIn wsX0_multiply wsJ7_fill_d0a16 := goodIn_r _ [21] (by decide +kernel) (by decide +kernel)
set_option maxRecDepth 20000 in
theorem gX0_multiply_J7_fill_d0a16 : GoodIn wsX0_multiply (va_wsS RX0 62 yJ7_fill_d0a16 wsJ7_fill_d0a16) := goodIn_app (goodIn_of _ (by decide +kernel)) ggX0_multiply_J7_fill_d0a16
set_option maxRecDepth 20000 in
theorem ggX0_multiply_X0_multiplyWords : GoodIn wsX0_multiply wsX0_multiplyWords := goodIn_r _ [25, 4, 26, 18, 19, 20, 21, 27, 28, 29, 30, 31, 32, 33, 34] (by decide +kernel) (by decide +kernel)
set_option maxRecDepth 20000 in
theorem gX0_multiply_X0_multiplyWords : GoodIn wsX0_multiply (wsV RX0 130 RX0 yX0_multiplyWords wsX0_multiplyWords) := goodIn_app (goodIn_of _ (by decide +kernel)) ggX0_multiply_X0_multiplyWords
theorem dX0_multiply_0 : decode cX0_multiply 0 = .ok (.iload_n 1, 1) := by decide +kernel
theorem dX0_multiply_1 : decode cX0_multiply 1 = .ok (.invokestatic 120, 3) := by decide +kernel
theorem dX0_multiply_4 : decode cX0_multiply 4 = .ok (.iload_n 2, 1) := by decide +kernel
theorem dX0_multiply_5 : decode cX0_multiply 5 = .ok (.invokestatic 120, 3) := by decide +kernel
theorem dX0_multiply_8 : decode cX0_multiply 8 = .ok (.iload_n 3, 1) := by decide +kernel
theorem dX0_multiply_9 : decode cX0_multiply 9 = .ok (.invokestatic 120, 3) := by decide +kernel
theorem dX0_multiply_12 : decode cX0_multiply 12 = .ok (.aload_n 0, 1) := by decide +kernel
theorem dX0_multiply_13 : decode cX0_multiply 13 = .ok (.getfield 18, 3) := by decide +kernel
theorem dX0_multiply_16 : decode cX0_multiply 16 = .ok (.iload_n 2, 1) := by decide +kernel
theorem dX0_multiply_17 : decode cX0_multiply 17 = .ok (.aaload, 1) := by decide +kernel
theorem dX0_multiply_18 : decode cX0_multiply 18 = .ok (.invokestatic 93, 3) := by decide +kernel
theorem dX0_multiply_21 : decode cX0_multiply 21 = .ok (.istore 4, 2) := by decide +kernel
theorem dX0_multiply_23 : decode cX0_multiply 23 = .ok (.aload_n 0, 1) := by decide +kernel
theorem dX0_multiply_24 : decode cX0_multiply 24 = .ok (.getfield 18, 3) := by decide +kernel
theorem dX0_multiply_27 : decode cX0_multiply 27 = .ok (.iload_n 3, 1) := by decide +kernel
theorem dX0_multiply_28 : decode cX0_multiply 28 = .ok (.aaload, 1) := by decide +kernel
theorem dX0_multiply_29 : decode cX0_multiply 29 = .ok (.invokestatic 93, 3) := by decide +kernel
theorem dX0_multiply_32 : decode cX0_multiply 32 = .ok (.istore 5, 2) := by decide +kernel
theorem dX0_multiply_34 : decode cX0_multiply 34 = .ok (.iload 4, 2) := by decide +kernel
theorem dX0_multiply_36 : decode cX0_multiply 36 = .ok (.ifCond .eq 8, 3) := by decide +kernel
theorem dX0_multiply_39 : decode cX0_multiply 39 = .ok (.iload 5, 2) := by decide +kernel
theorem dX0_multiply_41 : decode cX0_multiply 41 = .ok (.ifCond .ne 15, 3) := by decide +kernel
theorem dX0_multiply_44 : decode cX0_multiply 44 = .ok (.aload_n 0, 1) := by decide +kernel
theorem dX0_multiply_45 : decode cX0_multiply 45 = .ok (.getfield 18, 3) := by decide +kernel
theorem dX0_multiply_48 : decode cX0_multiply 48 = .ok (.iload_n 1, 1) := by decide +kernel
theorem dX0_multiply_49 : decode cX0_multiply 49 = .ok (.aaload, 1) := by decide +kernel
theorem dX0_multiply_50 : decode cX0_multiply 50 = .ok (.lconst 0, 1) := by decide +kernel
theorem dX0_multiply_51 : decode cX0_multiply 51 = .ok (.invokestatic 62, 3) := by decide +kernel
theorem dX0_multiply_54 : decode cX0_multiply 54 = .ok (.iconst 0, 1) := by decide +kernel
theorem dX0_multiply_55 : decode cX0_multiply 55 = .ok (.ireturn, 1) := by decide +kernel
theorem dX0_multiply_56 : decode cX0_multiply 56 = .ok (.iload 4, 2) := by decide +kernel
theorem dX0_multiply_58 : decode cX0_multiply 58 = .ok (.iload 5, 2) := by decide +kernel
theorem dX0_multiply_60 : decode cX0_multiply 60 = .ok (.iadd, 1) := by decide +kernel
theorem dX0_multiply_61 : decode cX0_multiply 61 = .ok (.sipush 240, 3) := by decide +kernel
theorem dX0_multiply_64 : decode cX0_multiply 64 = .ok (.if_icmp .le 13, 3) := by decide +kernel
theorem dX0_multiply_67 : decode cX0_multiply 67 = .ok (.new 107, 3) := by decide +kernel
theorem dX0_multiply_70 : decode cX0_multiply 70 = .ok (.dup, 1) := by decide +kernel
theorem dX0_multiply_71 : decode cX0_multiply 71 = .ok (.ldc 128, 2) := by decide +kernel
theorem dX0_multiply_73 : decode cX0_multiply 73 = .ok (.invokespecial 111, 3) := by decide +kernel
theorem dX0_multiply_76 : decode cX0_multiply 76 = .ok (.athrow, 1) := by decide +kernel
theorem dX0_multiply_77 : decode cX0_multiply 77 = .ok (.aload_n 0, 1) := by decide +kernel
theorem dX0_multiply_78 : decode cX0_multiply 78 = .ok (.aload_n 0, 1) := by decide +kernel
theorem dX0_multiply_79 : decode cX0_multiply 79 = .ok (.getfield 18, 3) := by decide +kernel
theorem dX0_multiply_82 : decode cX0_multiply 82 = .ok (.iload_n 2, 1) := by decide +kernel
theorem dX0_multiply_83 : decode cX0_multiply 83 = .ok (.aaload, 1) := by decide +kernel
theorem dX0_multiply_84 : decode cX0_multiply 84 = .ok (.iload 4, 2) := by decide +kernel
theorem dX0_multiply_86 : decode cX0_multiply 86 = .ok (.aload_n 0, 1) := by decide +kernel
theorem dX0_multiply_87 : decode cX0_multiply 87 = .ok (.getfield 18, 3) := by decide +kernel
theorem dX0_multiply_90 : decode cX0_multiply 90 = .ok (.iload_n 3, 1) := by decide +kernel
theorem dX0_multiply_91 : decode cX0_multiply 91 = .ok (.aaload, 1) := by decide +kernel
theorem dX0_multiply_92 : decode cX0_multiply 92 = .ok (.iload 5, 2) := by decide +kernel
theorem dX0_multiply_94 : decode cX0_multiply 94 = .ok (.invokevirtual 130, 3) := by decide +kernel
theorem dX0_multiply_97 : decode cX0_multiply 97 = .ok (.aload_n 0, 1) := by decide +kernel
theorem dX0_multiply_98 : decode cX0_multiply 98 = .ok (.getfield 30, 3) := by decide +kernel
theorem dX0_multiply_101 : decode cX0_multiply 101 = .ok (.iconst 0, 1) := by decide +kernel
theorem dX0_multiply_102 : decode cX0_multiply 102 = .ok (.aload_n 0, 1) := by decide +kernel
theorem dX0_multiply_103 : decode cX0_multiply 103 = .ok (.getfield 18, 3) := by decide +kernel
theorem dX0_multiply_106 : decode cX0_multiply 106 = .ok (.iload_n 1, 1) := by decide +kernel
theorem dX0_multiply_107 : decode cX0_multiply 107 = .ok (.aaload, 1) := by decide +kernel
theorem dX0_multiply_108 : decode cX0_multiply 108 = .ok (.iconst 0, 1) := by decide +kernel
theorem dX0_multiply_109 : decode cX0_multiply 109 = .ok (.sipush 240, 3) := by decide +kernel
theorem dX0_multiply_112 : decode cX0_multiply 112 = .ok (.invokestatic 134, 3) := by decide +kernel
theorem dX0_multiply_115 : decode cX0_multiply 115 = .ok (.aload_n 0, 1) := by decide +kernel
theorem dX0_multiply_116 : decode cX0_multiply 116 = .ok (.getfield 30, 3) := by decide +kernel
theorem dX0_multiply_119 : decode cX0_multiply 119 = .ok (.invokestatic 93, 3) := by decide +kernel
theorem dX0_multiply_122 : decode cX0_multiply 122 = .ok (.ireturn, 1) := by decide +kernel
set_option maxRecDepth 20000 in
theorem ggX0_sum_X0_checkNatural : GoodIn wsX0_sum wsX0_checkNatural := goodIn_ca (goodIn_r _ [12, 13, 14] (by decide +kernel) (by decide +kernel)) (goodIn_sub (fun _ h => List.mem_cons_of_mem _ (List.mem_append_right _ h)) (by decide +kernel))
set_option maxRecDepth 20000 in
theorem gX0_sum_X0_checkNatural : GoodIn wsX0_sum (va_wsS RX0 120 yX0_checkNatural wsX0_checkNatural) := goodIn_app (goodIn_of _ (by decide +kernel)) ggX0_sum_X0_checkNatural
set_option maxRecDepth 20000 in
theorem ggX0_sum_X0_addWords : GoodIn wsX0_sum wsX0_addWords := goodIn_r _ [18, 4, 19, 23, 24, 25, 26, 27, 28, 29, 30] (by decide +kernel) (by decide +kernel)
set_option maxRecDepth 20000 in
theorem gX0_sum_X0_addWords : GoodIn wsX0_sum (wsV RX0 140 RX0 yX0_addWords wsX0_addWords) := goodIn_app (goodIn_of _ (by decide +kernel)) ggX0_sum_X0_addWords
set_option maxRecDepth 20000 in
theorem ggX0_sum_X0_usedPart : GoodIn wsX0_sum wsX0_usedPart := goodIn_r _ [22] (by decide +kernel) (by decide +kernel)
set_option maxRecDepth 20000 in
theorem gX0_sum_X0_usedPart : GoodIn wsX0_sum (va_wsS RX0 93 yX0_usedPart wsX0_usedPart) := goodIn_app (goodIn_of _ (by decide +kernel)) ggX0_sum_X0_usedPart
theorem dX0_sum_0 : decode cX0_sum 0 = .ok (.iload_n 1, 1) := by decide +kernel
theorem dX0_sum_1 : decode cX0_sum 1 = .ok (.invokestatic 120, 3) := by decide +kernel
theorem dX0_sum_4 : decode cX0_sum 4 = .ok (.iload_n 2, 1) := by decide +kernel
theorem dX0_sum_5 : decode cX0_sum 5 = .ok (.invokestatic 120, 3) := by decide +kernel
theorem dX0_sum_8 : decode cX0_sum 8 = .ok (.iload_n 3, 1) := by decide +kernel
theorem dX0_sum_9 : decode cX0_sum 9 = .ok (.invokestatic 120, 3) := by decide +kernel
theorem dX0_sum_12 : decode cX0_sum 12 = .ok (.aload_n 0, 1) := by decide +kernel
theorem dX0_sum_13 : decode cX0_sum 13 = .ok (.aload_n 0, 1) := by decide +kernel
theorem dX0_sum_14 : decode cX0_sum 14 = .ok (.getfield 18, 3) := by decide +kernel
theorem dX0_sum_17 : decode cX0_sum 17 = .ok (.iload_n 2, 1) := by decide +kernel
theorem dX0_sum_18 : decode cX0_sum 18 = .ok (.aaload, 1) := by decide +kernel
theorem dX0_sum_19 : decode cX0_sum 19 = .ok (.aload_n 0, 1) := by decide +kernel
theorem dX0_sum_20 : decode cX0_sum 20 = .ok (.getfield 18, 3) := by decide +kernel
theorem dX0_sum_23 : decode cX0_sum 23 = .ok (.iload_n 3, 1) := by decide +kernel
theorem dX0_sum_24 : decode cX0_sum 24 = .ok (.aaload, 1) := by decide +kernel
theorem dX0_sum_25 : decode cX0_sum 25 = .ok (.invokevirtual 140, 3) := by decide +kernel
theorem dX0_sum_28 : decode cX0_sum 28 = .ok (.lconst 0, 1) := by decide +kernel
theorem dX0_sum_29 : decode cX0_sum 29 = .ok (.lcmp, 1) := by decide +kernel
theorem dX0_sum_30 : decode cX0_sum 30 = .ok (.ifCond .eq 13, 3) := by decide +kernel
theorem dX0_sum_33 : decode cX0_sum 33 = .ok (.new 107, 3) := by decide +kernel
theorem dX0_sum_36 : decode cX0_sum 36 = .ok (.dup, 1) := by decide +kernel
theorem dX0_sum_37 : decode cX0_sum 37 = .ok (.ldc 144, 2) := by decide +kernel
theorem dX0_sum_39 : decode cX0_sum 39 = .ok (.invokespecial 111, 3) := by decide +kernel
theorem dX0_sum_42 : decode cX0_sum 42 = .ok (.athrow, 1) := by decide +kernel
theorem dX0_sum_43 : decode cX0_sum 43 = .ok (.aload_n 0, 1) := by decide +kernel
theorem dX0_sum_44 : decode cX0_sum 44 = .ok (.getfield 30, 3) := by decide +kernel
theorem dX0_sum_47 : decode cX0_sum 47 = .ok (.iconst 0, 1) := by decide +kernel
theorem dX0_sum_48 : decode cX0_sum 48 = .ok (.aload_n 0, 1) := by decide +kernel
theorem dX0_sum_49 : decode cX0_sum 49 = .ok (.getfield 18, 3) := by decide +kernel
theorem dX0_sum_52 : decode cX0_sum 52 = .ok (.iload_n 1, 1) := by decide +kernel
theorem dX0_sum_53 : decode cX0_sum 53 = .ok (.aaload, 1) := by decide +kernel
theorem dX0_sum_54 : decode cX0_sum 54 = .ok (.iconst 0, 1) := by decide +kernel
theorem dX0_sum_55 : decode cX0_sum 55 = .ok (.sipush 240, 3) := by decide +kernel
theorem dX0_sum_58 : decode cX0_sum 58 = .ok (.invokestatic 134, 3) := by decide +kernel
theorem dX0_sum_61 : decode cX0_sum 61 = .ok (.aload_n 0, 1) := by decide +kernel
theorem dX0_sum_62 : decode cX0_sum 62 = .ok (.getfield 30, 3) := by decide +kernel
theorem dX0_sum_65 : decode cX0_sum 65 = .ok (.invokestatic 93, 3) := by decide +kernel
theorem dX0_sum_68 : decode cX0_sum 68 = .ok (.ireturn, 1) := by decide +kernel
theorem dX0_checkRow_0 : decode cX0_checkRow 0 = .ok (.iload_n 0, 1) := by decide +kernel
theorem dX0_checkRow_1 : decode cX0_checkRow 1 = .ok (.ifCond .lt 9, 3) := by decide +kernel
theorem dX0_checkRow_4 : decode cX0_checkRow 4 = .ok (.iload_n 0, 1) := by decide +kernel
theorem dX0_checkRow_5 : decode cX0_checkRow 5 = .ok (.bipush 6, 2) := by decide +kernel
theorem dX0_checkRow_7 : decode cX0_checkRow 7 = .ok (.if_icmp .lt 13, 3) := by decide +kernel
theorem dX0_checkRow_10 : decode cX0_checkRow 10 = .ok (.new 146, 3) := by decide +kernel
theorem dX0_checkRow_13 : decode cX0_checkRow 13 = .ok (.dup, 1) := by decide +kernel
theorem dX0_checkRow_14 : decode cX0_checkRow 14 = .ok (.ldc 148, 2) := by decide +kernel
theorem dX0_checkRow_16 : decode cX0_checkRow 16 = .ok (.invokespecial 150, 3) := by decide +kernel
theorem dX0_checkRow_19 : decode cX0_checkRow 19 = .ok (.athrow, 1) := by decide +kernel
theorem dX0_checkRow_20 : decode cX0_checkRow 20 = .ok (.return_, 1) := by decide +kernel
theorem dX0_checkCoefficient_0 : decode cX0_checkCoefficient 0 = .ok (.iload_n 0, 1) := by decide +kernel
theorem dX0_checkCoefficient_1 : decode cX0_checkCoefficient 1 = .ok (.ifCond .lt 10, 3) := by decide +kernel
theorem dX0_checkCoefficient_4 : decode cX0_checkCoefficient 4 = .ok (.iload_n 0, 1) := by decide +kernel
theorem dX0_checkCoefficient_5 : decode cX0_checkCoefficient 5 = .ok (.sipush 512, 3) := by decide +kernel
theorem dX0_checkCoefficient_8 : decode cX0_checkCoefficient 8 = .ok (.if_icmp .lt 13, 3) := by decide +kernel
theorem dX0_checkCoefficient_11 : decode cX0_checkCoefficient 11 = .ok (.new 146, 3) := by decide +kernel
theorem dX0_checkCoefficient_14 : decode cX0_checkCoefficient 14 = .ok (.dup, 1) := by decide +kernel
theorem dX0_checkCoefficient_15 : decode cX0_checkCoefficient 15 = .ok (.ldc 151, 2) := by decide +kernel
theorem dX0_checkCoefficient_17 : decode cX0_checkCoefficient 17 = .ok (.invokespecial 150, 3) := by decide +kernel
theorem dX0_checkCoefficient_20 : decode cX0_checkCoefficient 20 = .ok (.athrow, 1) := by decide +kernel
theorem dX0_checkCoefficient_21 : decode cX0_checkCoefficient 21 = .ok (.return_, 1) := by decide +kernel
theorem dX0_checkNatural_0 : decode cX0_checkNatural 0 = .ok (.iload_n 0, 1) := by decide +kernel
theorem dX0_checkNatural_1 : decode cX0_checkNatural 1 = .ok (.ifCond .lt 9, 3) := by decide +kernel
theorem dX0_checkNatural_4 : decode cX0_checkNatural 4 = .ok (.iload_n 0, 1) := by decide +kernel
theorem dX0_checkNatural_5 : decode cX0_checkNatural 5 = .ok (.bipush 6, 2) := by decide +kernel
theorem dX0_checkNatural_7 : decode cX0_checkNatural 7 = .ok (.if_icmp .lt 13, 3) := by decide +kernel
theorem dX0_checkNatural_10 : decode cX0_checkNatural 10 = .ok (.new 146, 3) := by decide +kernel
theorem dX0_checkNatural_13 : decode cX0_checkNatural 13 = .ok (.dup, 1) := by decide +kernel
theorem dX0_checkNatural_14 : decode cX0_checkNatural 14 = .ok (.ldc 153, 2) := by decide +kernel
theorem dX0_checkNatural_16 : decode cX0_checkNatural 16 = .ok (.invokespecial 150, 3) := by decide +kernel
theorem dX0_checkNatural_19 : decode cX0_checkNatural 19 = .ok (.athrow, 1) := by decide +kernel
theorem dX0_checkNatural_20 : decode cX0_checkNatural 20 = .ok (.return_, 1) := by decide +kernel
theorem dX0_checkWord_0 : decode cX0_checkWord 0 = .ok (.iload_n 0, 1) := by decide +kernel
theorem dX0_checkWord_1 : decode cX0_checkWord 1 = .ok (.ifCond .lt 10, 3) := by decide +kernel
theorem dX0_checkWord_4 : decode cX0_checkWord 4 = .ok (.iload_n 0, 1) := by decide +kernel
theorem dX0_checkWord_5 : decode cX0_checkWord 5 = .ok (.sipush 240, 3) := by decide +kernel
theorem dX0_checkWord_8 : decode cX0_checkWord 8 = .ok (.if_icmp .lt 13, 3) := by decide +kernel
theorem dX0_checkWord_11 : decode cX0_checkWord 11 = .ok (.new 146, 3) := by decide +kernel
theorem dX0_checkWord_14 : decode cX0_checkWord 14 = .ok (.dup, 1) := by decide +kernel
theorem dX0_checkWord_15 : decode cX0_checkWord 15 = .ok (.ldc 155, 2) := by decide +kernel
theorem dX0_checkWord_17 : decode cX0_checkWord 17 = .ok (.invokespecial 150, 3) := by decide +kernel
theorem dX0_checkWord_20 : decode cX0_checkWord 20 = .ok (.athrow, 1) := by decide +kernel
theorem dX0_checkWord_21 : decode cX0_checkWord 21 = .ok (.return_, 1) := by decide +kernel
theorem dX0_checkTurn_0 : decode cX0_checkTurn 0 = .ok (.iload_n 0, 1) := by decide +kernel
theorem dX0_checkTurn_1 : decode cX0_checkTurn 1 = .ok (.iconst 1, 1) := by decide +kernel
theorem dX0_checkTurn_2 : decode cX0_checkTurn 2 = .ok (.if_icmp .lt 18, 3) := by decide +kernel
theorem dX0_checkTurn_5 : decode cX0_checkTurn 5 = .ok (.iload_n 0, 1) := by decide +kernel
theorem dX0_checkTurn_6 : decode cX0_checkTurn 6 = .ok (.sipush 512, 3) := by decide +kernel
theorem dX0_checkTurn_9 : decode cX0_checkTurn 9 = .ok (.if_icmp .gt 11, 3) := by decide +kernel
theorem dX0_checkTurn_12 : decode cX0_checkTurn 12 = .ok (.iload_n 0, 1) := by decide +kernel
theorem dX0_checkTurn_13 : decode cX0_checkTurn 13 = .ok (.iload_n 0, 1) := by decide +kernel
theorem dX0_checkTurn_14 : decode cX0_checkTurn 14 = .ok (.iconst 1, 1) := by decide +kernel
theorem dX0_checkTurn_15 : decode cX0_checkTurn 15 = .ok (.isub, 1) := by decide +kernel
theorem dX0_checkTurn_16 : decode cX0_checkTurn 16 = .ok (.iand, 1) := by decide +kernel
theorem dX0_checkTurn_17 : decode cX0_checkTurn 17 = .ok (.ifCond .eq 13, 3) := by decide +kernel
theorem dX0_checkTurn_20 : decode cX0_checkTurn 20 = .ok (.new 47, 3) := by decide +kernel
theorem dX0_checkTurn_23 : decode cX0_checkTurn 23 = .ok (.dup, 1) := by decide +kernel
theorem dX0_checkTurn_24 : decode cX0_checkTurn 24 = .ok (.ldc 157, 2) := by decide +kernel
theorem dX0_checkTurn_26 : decode cX0_checkTurn 26 = .ok (.invokespecial 51, 3) := by decide +kernel
theorem dX0_checkTurn_29 : decode cX0_checkTurn 29 = .ok (.athrow, 1) := by decide +kernel
theorem dX0_checkTurn_30 : decode cX0_checkTurn 30 = .ok (.return_, 1) := by decide +kernel
theorem dX0_usedPart_0 : decode cX0_usedPart 0 = .ok (.aload_n 0, 1) := by decide +kernel
theorem dX0_usedPart_1 : decode cX0_usedPart 1 = .ok (.arraylength, 1) := by decide +kernel
theorem dX0_usedPart_2 : decode cX0_usedPart 2 = .ok (.istore_n 1, 1) := by decide +kernel
theorem dX0_usedPart_3 : decode cX0_usedPart 3 = .ok (.iload_n 1, 1) := by decide +kernel
theorem dX0_usedPart_4 : decode cX0_usedPart 4 = .ok (.ifCond .le 19, 3) := by decide +kernel
theorem dX0_usedPart_7 : decode cX0_usedPart 7 = .ok (.aload_n 0, 1) := by decide +kernel
theorem dX0_usedPart_8 : decode cX0_usedPart 8 = .ok (.iload_n 1, 1) := by decide +kernel
theorem dX0_usedPart_9 : decode cX0_usedPart 9 = .ok (.iconst 1, 1) := by decide +kernel
theorem dX0_usedPart_10 : decode cX0_usedPart 10 = .ok (.isub, 1) := by decide +kernel
theorem dX0_usedPart_11 : decode cX0_usedPart 11 = .ok (.laload, 1) := by decide +kernel
theorem dX0_usedPart_12 : decode cX0_usedPart 12 = .ok (.lconst 0, 1) := by decide +kernel
theorem dX0_usedPart_13 : decode cX0_usedPart 13 = .ok (.lcmp, 1) := by decide +kernel
theorem dX0_usedPart_14 : decode cX0_usedPart 14 = .ok (.ifCond .ne 9, 3) := by decide +kernel
theorem dX0_usedPart_17 : decode cX0_usedPart 17 = .ok (.iinc 1 (-1), 3) := by decide +kernel
theorem dX0_usedPart_20 : decode cX0_usedPart 20 = .ok (.goto (-17), 3) := by decide +kernel
theorem dX0_usedPart_23 : decode cX0_usedPart 23 = .ok (.iload_n 1, 1) := by decide +kernel
theorem dX0_usedPart_24 : decode cX0_usedPart 24 = .ok (.ireturn, 1) := by decide +kernel
set_option maxRecDepth 20000 in
theorem ggX0_usePrime_X0_powerModulo : GoodIn wsX0_usePrime wsX0_powerModulo := goodIn_r _ [7] (by decide +kernel) (by decide +kernel)
set_option maxRecDepth 20000 in
theorem gX0_usePrime_X0_powerModulo : GoodIn wsX0_usePrime (va_wsS RX0 77 yX0_powerModulo wsX0_powerModulo) := goodIn_app (goodIn_of _ (by decide +kernel)) ggX0_usePrime_X0_powerModulo
theorem dX0_usePrime_0 : decode cX0_usePrime 0 = .ok (.aload_n 0, 1) := by decide +kernel
theorem dX0_usePrime_1 : decode cX0_usePrime 1 = .ok (.lload_n 1, 1) := by decide +kernel
theorem dX0_usePrime_2 : decode cX0_usePrime 2 = .ok (.putfield 71, 3) := by decide +kernel
theorem dX0_usePrime_5 : decode cX0_usePrime 5 = .ok (.lload_n 3, 1) := by decide +kernel
theorem dX0_usePrime_6 : decode cX0_usePrime 6 = .ok (.lload_n 1, 1) := by decide +kernel
theorem dX0_usePrime_7 : decode cX0_usePrime 7 = .ok (.lconst 1, 1) := by decide +kernel
theorem dX0_usePrime_8 : decode cX0_usePrime 8 = .ok (.lsub, 1) := by decide +kernel
theorem dX0_usePrime_9 : decode cX0_usePrime 9 = .ok (.ldc2_w 45, 3) := by decide +kernel
theorem dX0_usePrime_12 : decode cX0_usePrime 12 = .ok (.ldiv, 1) := by decide +kernel
theorem dX0_usePrime_13 : decode cX0_usePrime 13 = .ok (.lload_n 1, 1) := by decide +kernel
theorem dX0_usePrime_14 : decode cX0_usePrime 14 = .ok (.invokestatic 77, 3) := by decide +kernel
theorem dX0_usePrime_17 : decode cX0_usePrime 17 = .ok (.lstore 5, 2) := by decide +kernel
theorem dX0_usePrime_19 : decode cX0_usePrime 19 = .ok (.lconst 1, 1) := by decide +kernel
theorem dX0_usePrime_20 : decode cX0_usePrime 20 = .ok (.lstore 7, 2) := by decide +kernel
theorem dX0_usePrime_22 : decode cX0_usePrime 22 = .ok (.iconst 0, 1) := by decide +kernel
theorem dX0_usePrime_23 : decode cX0_usePrime 23 = .ok (.istore 9, 2) := by decide +kernel
theorem dX0_usePrime_25 : decode cX0_usePrime 25 = .ok (.iload 9, 2) := by decide +kernel
theorem dX0_usePrime_27 : decode cX0_usePrime 27 = .ok (.sipush 512, 3) := by decide +kernel
theorem dX0_usePrime_30 : decode cX0_usePrime 30 = .ok (.if_icmp .ge 27, 3) := by decide +kernel
theorem dX0_usePrime_33 : decode cX0_usePrime 33 = .ok (.aload_n 0, 1) := by decide +kernel
theorem dX0_usePrime_34 : decode cX0_usePrime 34 = .ok (.getfield 9, 3) := by decide +kernel
theorem dX0_usePrime_37 : decode cX0_usePrime 37 = .ok (.iload 9, 2) := by decide +kernel
theorem dX0_usePrime_39 : decode cX0_usePrime 39 = .ok (.lload 7, 2) := by decide +kernel
theorem dX0_usePrime_41 : decode cX0_usePrime 41 = .ok (.lastore, 1) := by decide +kernel
theorem dX0_usePrime_42 : decode cX0_usePrime 42 = .ok (.lload 7, 2) := by decide +kernel
theorem dX0_usePrime_44 : decode cX0_usePrime 44 = .ok (.lload 5, 2) := by decide +kernel
theorem dX0_usePrime_46 : decode cX0_usePrime 46 = .ok (.lmul, 1) := by decide +kernel
theorem dX0_usePrime_47 : decode cX0_usePrime 47 = .ok (.lload_n 1, 1) := by decide +kernel
theorem dX0_usePrime_48 : decode cX0_usePrime 48 = .ok (.lrem, 1) := by decide +kernel
theorem dX0_usePrime_49 : decode cX0_usePrime 49 = .ok (.lstore 7, 2) := by decide +kernel
theorem dX0_usePrime_51 : decode cX0_usePrime 51 = .ok (.iinc 9 1, 3) := by decide +kernel
theorem dX0_usePrime_54 : decode cX0_usePrime 54 = .ok (.goto (-29), 3) := by decide +kernel
theorem dX0_usePrime_57 : decode cX0_usePrime 57 = .ok (.return_, 1) := by decide +kernel
set_option maxRecDepth 20000 in
theorem ggX0_leastRoot_X0_findFactors : GoodIn wsX0_leastRoot wsX0_findFactors := goodIn_r _ [7, 1, 8, 9, 10, 6, 11, 19, 20, 21, 22, 23, 24, 25, 26] (by decide +kernel) (by decide +kernel)
set_option maxRecDepth 20000 in
theorem gX0_leastRoot_X0_findFactors : GoodIn wsX0_leastRoot (wsV RX0 159 RX0 yX0_findFactors wsX0_findFactors) := goodIn_app (goodIn_of _ (by decide +kernel)) ggX0_leastRoot_X0_findFactors
set_option maxRecDepth 20000 in
theorem ggX0_leastRoot_X0_powerModulo : GoodIn wsX0_leastRoot wsX0_powerModulo := goodIn_r _ [14] (by decide +kernel) (by decide +kernel)
set_option maxRecDepth 20000 in
theorem gX0_leastRoot_X0_powerModulo : GoodIn wsX0_leastRoot (va_wsS RX0 77 yX0_powerModulo wsX0_powerModulo) := goodIn_app (goodIn_of _ (by decide +kernel)) ggX0_leastRoot_X0_powerModulo
set_option maxRecDepth 20000 in
theorem ggX0_leastRoot_X0_comesToOneOnlyAtTheEnd : GoodIn wsX0_leastRoot wsX0_comesToOneOnlyAtTheEnd := goodIn_r _ [18, 8, 12, 13, 6, 14, 19, 20, 21, 22, 23, 24, 25, 26] (by decide +kernel) (by decide +kernel)
set_option maxRecDepth 20000 in
theorem gX0_leastRoot_X0_comesToOneOnlyAtTheEnd : GoodIn wsX0_leastRoot (wsV RX0 163 RX0 yX0_comesToOneOnlyAtTheEnd wsX0_comesToOneOnlyAtTheEnd) := goodIn_app (goodIn_of _ (by decide +kernel)) ggX0_leastRoot_X0_comesToOneOnlyAtTheEnd
theorem dX0_leastRoot_0 : decode cX0_leastRoot 0 = .ok (.aload_n 0, 1) := by decide +kernel
theorem dX0_leastRoot_1 : decode cX0_leastRoot 1 = .ok (.lload_n 1, 1) := by decide +kernel
theorem dX0_leastRoot_2 : decode cX0_leastRoot 2 = .ok (.lconst 1, 1) := by decide +kernel
theorem dX0_leastRoot_3 : decode cX0_leastRoot 3 = .ok (.lsub, 1) := by decide +kernel
theorem dX0_leastRoot_4 : decode cX0_leastRoot 4 = .ok (.invokevirtual 159, 3) := by decide +kernel
theorem dX0_leastRoot_7 : decode cX0_leastRoot 7 = .ok (.istore_n 3, 1) := by decide +kernel
theorem dX0_leastRoot_8 : decode cX0_leastRoot 8 = .ok (.ldc2_w 41, 3) := by decide +kernel
theorem dX0_leastRoot_11 : decode cX0_leastRoot 11 = .ok (.lstore 4, 2) := by decide +kernel
theorem dX0_leastRoot_13 : decode cX0_leastRoot 13 = .ok (.lload 4, 2) := by decide +kernel
theorem dX0_leastRoot_15 : decode cX0_leastRoot 15 = .ok (.lload_n 1, 1) := by decide +kernel
theorem dX0_leastRoot_16 : decode cX0_leastRoot 16 = .ok (.lcmp, 1) := by decide +kernel
theorem dX0_leastRoot_17 : decode cX0_leastRoot 17 = .ok (.ifCond .ge 44, 3) := by decide +kernel
theorem dX0_leastRoot_20 : decode cX0_leastRoot 20 = .ok (.lload 4, 2) := by decide +kernel
theorem dX0_leastRoot_22 : decode cX0_leastRoot 22 = .ok (.lload_n 1, 1) := by decide +kernel
theorem dX0_leastRoot_23 : decode cX0_leastRoot 23 = .ok (.lconst 1, 1) := by decide +kernel
theorem dX0_leastRoot_24 : decode cX0_leastRoot 24 = .ok (.lsub, 1) := by decide +kernel
theorem dX0_leastRoot_25 : decode cX0_leastRoot 25 = .ok (.lload_n 1, 1) := by decide +kernel
theorem dX0_leastRoot_26 : decode cX0_leastRoot 26 = .ok (.invokestatic 77, 3) := by decide +kernel
theorem dX0_leastRoot_29 : decode cX0_leastRoot 29 = .ok (.lconst 1, 1) := by decide +kernel
theorem dX0_leastRoot_30 : decode cX0_leastRoot 30 = .ok (.lcmp, 1) := by decide +kernel
theorem dX0_leastRoot_31 : decode cX0_leastRoot 31 = .ok (.ifCond .eq 7, 3) := by decide +kernel
theorem dX0_leastRoot_34 : decode cX0_leastRoot 34 = .ok (.ldc2_w 58, 3) := by decide +kernel
theorem dX0_leastRoot_37 : decode cX0_leastRoot 37 = .ok (.lreturn, 1) := by decide +kernel
theorem dX0_leastRoot_38 : decode cX0_leastRoot 38 = .ok (.aload_n 0, 1) := by decide +kernel
theorem dX0_leastRoot_39 : decode cX0_leastRoot 39 = .ok (.lload 4, 2) := by decide +kernel
theorem dX0_leastRoot_41 : decode cX0_leastRoot 41 = .ok (.lload_n 1, 1) := by decide +kernel
theorem dX0_leastRoot_42 : decode cX0_leastRoot 42 = .ok (.iload_n 3, 1) := by decide +kernel
theorem dX0_leastRoot_43 : decode cX0_leastRoot 43 = .ok (.invokevirtual 163, 3) := by decide +kernel
theorem dX0_leastRoot_46 : decode cX0_leastRoot 46 = .ok (.ifCond .eq 6, 3) := by decide +kernel
theorem dX0_leastRoot_49 : decode cX0_leastRoot 49 = .ok (.lload 4, 2) := by decide +kernel
theorem dX0_leastRoot_51 : decode cX0_leastRoot 51 = .ok (.lreturn, 1) := by decide +kernel
theorem dX0_leastRoot_52 : decode cX0_leastRoot 52 = .ok (.lload 4, 2) := by decide +kernel
theorem dX0_leastRoot_54 : decode cX0_leastRoot 54 = .ok (.lconst 1, 1) := by decide +kernel
theorem dX0_leastRoot_55 : decode cX0_leastRoot 55 = .ok (.ladd, 1) := by decide +kernel
theorem dX0_leastRoot_56 : decode cX0_leastRoot 56 = .ok (.lstore 4, 2) := by decide +kernel
theorem dX0_leastRoot_58 : decode cX0_leastRoot 58 = .ok (.goto (-45), 3) := by decide +kernel
theorem dX0_leastRoot_61 : decode cX0_leastRoot 61 = .ok (.ldc2_w 58, 3) := by decide +kernel
theorem dX0_leastRoot_64 : decode cX0_leastRoot 64 = .ok (.lreturn, 1) := by decide +kernel
set_option maxRecDepth 20000 in
theorem ggX0_comesToOneOnlyAtTheEnd_X0_powerModulo : GoodIn wsX0_comesToOneOnlyAtTheEnd wsX0_powerModulo := goodIn_r _ [5] (by decide +kernel) (by decide +kernel)
set_option maxRecDepth 20000 in
theorem gX0_comesToOneOnlyAtTheEnd_X0_powerModulo : GoodIn wsX0_comesToOneOnlyAtTheEnd (va_wsS RX0 77 yX0_powerModulo wsX0_powerModulo) := goodIn_app (goodIn_of _ (by decide +kernel)) ggX0_comesToOneOnlyAtTheEnd_X0_powerModulo
theorem dX0_comesToOneOnlyAtTheEnd_0 : decode cX0_comesToOneOnlyAtTheEnd 0 = .ok (.iconst 0, 1) := by decide +kernel
theorem dX0_comesToOneOnlyAtTheEnd_1 : decode cX0_comesToOneOnlyAtTheEnd 1 = .ok (.istore 6, 2) := by decide +kernel
theorem dX0_comesToOneOnlyAtTheEnd_3 : decode cX0_comesToOneOnlyAtTheEnd 3 = .ok (.iload 6, 2) := by decide +kernel
theorem dX0_comesToOneOnlyAtTheEnd_5 : decode cX0_comesToOneOnlyAtTheEnd 5 = .ok (.iload 5, 2) := by decide +kernel
theorem dX0_comesToOneOnlyAtTheEnd_7 : decode cX0_comesToOneOnlyAtTheEnd 7 = .ok (.if_icmp .ge 32, 3) := by decide +kernel
theorem dX0_comesToOneOnlyAtTheEnd_10 : decode cX0_comesToOneOnlyAtTheEnd 10 = .ok (.lload_n 1, 1) := by decide +kernel
theorem dX0_comesToOneOnlyAtTheEnd_11 : decode cX0_comesToOneOnlyAtTheEnd 11 = .ok (.lload_n 3, 1) := by decide +kernel
theorem dX0_comesToOneOnlyAtTheEnd_12 : decode cX0_comesToOneOnlyAtTheEnd 12 = .ok (.lconst 1, 1) := by decide +kernel
theorem dX0_comesToOneOnlyAtTheEnd_13 : decode cX0_comesToOneOnlyAtTheEnd 13 = .ok (.lsub, 1) := by decide +kernel
theorem dX0_comesToOneOnlyAtTheEnd_14 : decode cX0_comesToOneOnlyAtTheEnd 14 = .ok (.aload_n 0, 1) := by decide +kernel
theorem dX0_comesToOneOnlyAtTheEnd_15 : decode cX0_comesToOneOnlyAtTheEnd 15 = .ok (.getfield 21, 3) := by decide +kernel
theorem dX0_comesToOneOnlyAtTheEnd_18 : decode cX0_comesToOneOnlyAtTheEnd 18 = .ok (.iload 6, 2) := by decide +kernel
theorem dX0_comesToOneOnlyAtTheEnd_20 : decode cX0_comesToOneOnlyAtTheEnd 20 = .ok (.laload, 1) := by decide +kernel
theorem dX0_comesToOneOnlyAtTheEnd_21 : decode cX0_comesToOneOnlyAtTheEnd 21 = .ok (.ldiv, 1) := by decide +kernel
theorem dX0_comesToOneOnlyAtTheEnd_22 : decode cX0_comesToOneOnlyAtTheEnd 22 = .ok (.lload_n 3, 1) := by decide +kernel
theorem dX0_comesToOneOnlyAtTheEnd_23 : decode cX0_comesToOneOnlyAtTheEnd 23 = .ok (.invokestatic 77, 3) := by decide +kernel
theorem dX0_comesToOneOnlyAtTheEnd_26 : decode cX0_comesToOneOnlyAtTheEnd 26 = .ok (.lconst 1, 1) := by decide +kernel
theorem dX0_comesToOneOnlyAtTheEnd_27 : decode cX0_comesToOneOnlyAtTheEnd 27 = .ok (.lcmp, 1) := by decide +kernel
theorem dX0_comesToOneOnlyAtTheEnd_28 : decode cX0_comesToOneOnlyAtTheEnd 28 = .ok (.ifCond .ne 5, 3) := by decide +kernel
theorem dX0_comesToOneOnlyAtTheEnd_31 : decode cX0_comesToOneOnlyAtTheEnd 31 = .ok (.iconst 0, 1) := by decide +kernel
theorem dX0_comesToOneOnlyAtTheEnd_32 : decode cX0_comesToOneOnlyAtTheEnd 32 = .ok (.ireturn, 1) := by decide +kernel
theorem dX0_comesToOneOnlyAtTheEnd_33 : decode cX0_comesToOneOnlyAtTheEnd 33 = .ok (.iinc 6 1, 3) := by decide +kernel
theorem dX0_comesToOneOnlyAtTheEnd_36 : decode cX0_comesToOneOnlyAtTheEnd 36 = .ok (.goto (-33), 3) := by decide +kernel
theorem dX0_comesToOneOnlyAtTheEnd_39 : decode cX0_comesToOneOnlyAtTheEnd 39 = .ok (.iconst 1, 1) := by decide +kernel
theorem dX0_comesToOneOnlyAtTheEnd_40 : decode cX0_comesToOneOnlyAtTheEnd 40 = .ok (.ireturn, 1) := by decide +kernel
set_option maxRecDepth 20000 in
theorem ggX0_findFactors_X0_without : GoodIn wsX0_findFactors wsX0_without := goodIn_r _ [6] (by decide +kernel) (by decide +kernel)
set_option maxRecDepth 20000 in
theorem gX0_findFactors_X0_without : GoodIn wsX0_findFactors (va_wsS RX0 167 yX0_without wsX0_without) := goodIn_app (goodIn_of _ (by decide +kernel)) ggX0_findFactors_X0_without
theorem dX0_findFactors_0 : decode cX0_findFactors 0 = .ok (.iconst 0, 1) := by decide +kernel
theorem dX0_findFactors_1 : decode cX0_findFactors 1 = .ok (.istore_n 3, 1) := by decide +kernel
theorem dX0_findFactors_2 : decode cX0_findFactors 2 = .ok (.lload_n 1, 1) := by decide +kernel
theorem dX0_findFactors_3 : decode cX0_findFactors 3 = .ok (.lstore 4, 2) := by decide +kernel
theorem dX0_findFactors_5 : decode cX0_findFactors 5 = .ok (.ldc2_w 41, 3) := by decide +kernel
theorem dX0_findFactors_8 : decode cX0_findFactors 8 = .ok (.lstore 6, 2) := by decide +kernel
theorem dX0_findFactors_10 : decode cX0_findFactors 10 = .ok (.lload 6, 2) := by decide +kernel
theorem dX0_findFactors_12 : decode cX0_findFactors 12 = .ok (.lload 6, 2) := by decide +kernel
theorem dX0_findFactors_14 : decode cX0_findFactors 14 = .ok (.lmul, 1) := by decide +kernel
theorem dX0_findFactors_15 : decode cX0_findFactors 15 = .ok (.lload 4, 2) := by decide +kernel
theorem dX0_findFactors_17 : decode cX0_findFactors 17 = .ok (.lcmp, 1) := by decide +kernel
theorem dX0_findFactors_18 : decode cX0_findFactors 18 = .ok (.ifCond .gt 48, 3) := by decide +kernel
theorem dX0_findFactors_21 : decode cX0_findFactors 21 = .ok (.lload 4, 2) := by decide +kernel
theorem dX0_findFactors_23 : decode cX0_findFactors 23 = .ok (.lload 6, 2) := by decide +kernel
theorem dX0_findFactors_25 : decode cX0_findFactors 25 = .ok (.lrem, 1) := by decide +kernel
theorem dX0_findFactors_26 : decode cX0_findFactors 26 = .ok (.lconst 0, 1) := by decide +kernel
theorem dX0_findFactors_27 : decode cX0_findFactors 27 = .ok (.lcmp, 1) := by decide +kernel
theorem dX0_findFactors_28 : decode cX0_findFactors 28 = .ok (.ifCond .ne 29, 3) := by decide +kernel
theorem dX0_findFactors_31 : decode cX0_findFactors 31 = .ok (.iload_n 3, 1) := by decide +kernel
theorem dX0_findFactors_32 : decode cX0_findFactors 32 = .ok (.bipush 9, 2) := by decide +kernel
theorem dX0_findFactors_34 : decode cX0_findFactors 34 = .ok (.if_icmp .ge 23, 3) := by decide +kernel
theorem dX0_findFactors_37 : decode cX0_findFactors 37 = .ok (.aload_n 0, 1) := by decide +kernel
theorem dX0_findFactors_38 : decode cX0_findFactors 38 = .ok (.getfield 21, 3) := by decide +kernel
theorem dX0_findFactors_41 : decode cX0_findFactors 41 = .ok (.iload_n 3, 1) := by decide +kernel
theorem dX0_findFactors_42 : decode cX0_findFactors 42 = .ok (.lload 6, 2) := by decide +kernel
theorem dX0_findFactors_44 : decode cX0_findFactors 44 = .ok (.lastore, 1) := by decide +kernel
theorem dX0_findFactors_45 : decode cX0_findFactors 45 = .ok (.iinc 3 1, 3) := by decide +kernel
theorem dX0_findFactors_48 : decode cX0_findFactors 48 = .ok (.lload 4, 2) := by decide +kernel
theorem dX0_findFactors_50 : decode cX0_findFactors 50 = .ok (.lload 6, 2) := by decide +kernel
theorem dX0_findFactors_52 : decode cX0_findFactors 52 = .ok (.invokestatic 167, 3) := by decide +kernel
theorem dX0_findFactors_55 : decode cX0_findFactors 55 = .ok (.lstore 4, 2) := by decide +kernel
theorem dX0_findFactors_57 : decode cX0_findFactors 57 = .ok (.lload 6, 2) := by decide +kernel
theorem dX0_findFactors_59 : decode cX0_findFactors 59 = .ok (.lconst 1, 1) := by decide +kernel
theorem dX0_findFactors_60 : decode cX0_findFactors 60 = .ok (.ladd, 1) := by decide +kernel
theorem dX0_findFactors_61 : decode cX0_findFactors 61 = .ok (.lstore 6, 2) := by decide +kernel
theorem dX0_findFactors_63 : decode cX0_findFactors 63 = .ok (.goto (-53), 3) := by decide +kernel
theorem dX0_findFactors_66 : decode cX0_findFactors 66 = .ok (.lload 4, 2) := by decide +kernel
theorem dX0_findFactors_68 : decode cX0_findFactors 68 = .ok (.lconst 1, 1) := by decide +kernel
theorem dX0_findFactors_69 : decode cX0_findFactors 69 = .ok (.lcmp, 1) := by decide +kernel
theorem dX0_findFactors_70 : decode cX0_findFactors 70 = .ok (.ifCond .le 20, 3) := by decide +kernel
theorem dX0_findFactors_73 : decode cX0_findFactors 73 = .ok (.iload_n 3, 1) := by decide +kernel
theorem dX0_findFactors_74 : decode cX0_findFactors 74 = .ok (.bipush 9, 2) := by decide +kernel
theorem dX0_findFactors_76 : decode cX0_findFactors 76 = .ok (.if_icmp .ge 14, 3) := by decide +kernel
theorem dX0_findFactors_79 : decode cX0_findFactors 79 = .ok (.aload_n 0, 1) := by decide +kernel
theorem dX0_findFactors_80 : decode cX0_findFactors 80 = .ok (.getfield 21, 3) := by decide +kernel
theorem dX0_findFactors_83 : decode cX0_findFactors 83 = .ok (.iload_n 3, 1) := by decide +kernel
theorem dX0_findFactors_84 : decode cX0_findFactors 84 = .ok (.lload 4, 2) := by decide +kernel
theorem dX0_findFactors_86 : decode cX0_findFactors 86 = .ok (.lastore, 1) := by decide +kernel
theorem dX0_findFactors_87 : decode cX0_findFactors 87 = .ok (.iinc 3 1, 3) := by decide +kernel
theorem dX0_findFactors_90 : decode cX0_findFactors 90 = .ok (.iload_n 3, 1) := by decide +kernel
theorem dX0_findFactors_91 : decode cX0_findFactors 91 = .ok (.ireturn, 1) := by decide +kernel
theorem dX0_without_0 : decode cX0_without 0 = .ok (.lload_n 0, 1) := by decide +kernel
theorem dX0_without_1 : decode cX0_without 1 = .ok (.lstore 4, 2) := by decide +kernel
theorem dX0_without_3 : decode cX0_without 3 = .ok (.iconst 0, 1) := by decide +kernel
theorem dX0_without_4 : decode cX0_without 4 = .ok (.istore 6, 2) := by decide +kernel
theorem dX0_without_6 : decode cX0_without 6 = .ok (.iload 6, 2) := by decide +kernel
theorem dX0_without_8 : decode cX0_without 8 = .ok (.bipush 31, 2) := by decide +kernel
theorem dX0_without_10 : decode cX0_without 10 = .ok (.if_icmp .ge 24, 3) := by decide +kernel
theorem dX0_without_13 : decode cX0_without 13 = .ok (.lload 4, 2) := by decide +kernel
theorem dX0_without_15 : decode cX0_without 15 = .ok (.lload_n 2, 1) := by decide +kernel
theorem dX0_without_16 : decode cX0_without 16 = .ok (.lrem, 1) := by decide +kernel
theorem dX0_without_17 : decode cX0_without 17 = .ok (.lconst 0, 1) := by decide +kernel
theorem dX0_without_18 : decode cX0_without 18 = .ok (.lcmp, 1) := by decide +kernel
theorem dX0_without_19 : decode cX0_without 19 = .ok (.ifCond .ne 15, 3) := by decide +kernel
theorem dX0_without_22 : decode cX0_without 22 = .ok (.lload 4, 2) := by decide +kernel
theorem dX0_without_24 : decode cX0_without 24 = .ok (.lload_n 2, 1) := by decide +kernel
theorem dX0_without_25 : decode cX0_without 25 = .ok (.ldiv, 1) := by decide +kernel
theorem dX0_without_26 : decode cX0_without 26 = .ok (.lstore 4, 2) := by decide +kernel
theorem dX0_without_28 : decode cX0_without 28 = .ok (.iinc 6 1, 3) := by decide +kernel
theorem dX0_without_31 : decode cX0_without 31 = .ok (.goto (-25), 3) := by decide +kernel
theorem dX0_without_34 : decode cX0_without 34 = .ok (.lload 4, 2) := by decide +kernel
theorem dX0_without_36 : decode cX0_without 36 = .ok (.lreturn, 1) := by decide +kernel
set_option maxRecDepth 20000 in
theorem ggX0_rest_J9_floorMod_f86c9 : GoodIn wsX0_rest wsJ9_floorMod_f86c9 := goodIn_r _ [5] (by decide +kernel) (by decide +kernel)
set_option maxRecDepth 20000 in
theorem gX0_rest_J9_floorMod_f86c9 : GoodIn wsX0_rest (va_wsS RX0 171 yJ9_floorMod_f86c9 wsJ9_floorMod_f86c9) := goodIn_app (goodIn_of _ (by decide +kernel)) ggX0_rest_J9_floorMod_f86c9
theorem dX0_rest_0 : decode cX0_rest 0 = .ok (.lload_n 1, 1) := by decide +kernel
theorem dX0_rest_1 : decode cX0_rest 1 = .ok (.aload_n 0, 1) := by decide +kernel
theorem dX0_rest_2 : decode cX0_rest 2 = .ok (.getfield 71, 3) := by decide +kernel
theorem dX0_rest_5 : decode cX0_rest 5 = .ok (.invokestatic 171, 3) := by decide +kernel
theorem dX0_rest_8 : decode cX0_rest 8 = .ok (.lreturn, 1) := by decide +kernel
theorem dX0_powerModulo_0 : decode cX0_powerModulo 0 = .ok (.lconst 1, 1) := by decide +kernel
theorem dX0_powerModulo_1 : decode cX0_powerModulo 1 = .ok (.lstore 6, 2) := by decide +kernel
theorem dX0_powerModulo_3 : decode cX0_powerModulo 3 = .ok (.lload_n 0, 1) := by decide +kernel
theorem dX0_powerModulo_4 : decode cX0_powerModulo 4 = .ok (.lstore 8, 2) := by decide +kernel
theorem dX0_powerModulo_6 : decode cX0_powerModulo 6 = .ok (.lload_n 2, 1) := by decide +kernel
theorem dX0_powerModulo_7 : decode cX0_powerModulo 7 = .ok (.lstore 10, 2) := by decide +kernel
theorem dX0_powerModulo_9 : decode cX0_powerModulo 9 = .ok (.lload 10, 2) := by decide +kernel
theorem dX0_powerModulo_11 : decode cX0_powerModulo 11 = .ok (.lconst 0, 1) := by decide +kernel
theorem dX0_powerModulo_12 : decode cX0_powerModulo 12 = .ok (.lcmp, 1) := by decide +kernel
theorem dX0_powerModulo_13 : decode cX0_powerModulo 13 = .ok (.ifCond .le 41, 3) := by decide +kernel
theorem dX0_powerModulo_16 : decode cX0_powerModulo 16 = .ok (.lload 10, 2) := by decide +kernel
theorem dX0_powerModulo_18 : decode cX0_powerModulo 18 = .ok (.lconst 1, 1) := by decide +kernel
theorem dX0_powerModulo_19 : decode cX0_powerModulo 19 = .ok (.land, 1) := by decide +kernel
theorem dX0_powerModulo_20 : decode cX0_powerModulo 20 = .ok (.lconst 1, 1) := by decide +kernel
theorem dX0_powerModulo_21 : decode cX0_powerModulo 21 = .ok (.lcmp, 1) := by decide +kernel
theorem dX0_powerModulo_22 : decode cX0_powerModulo 22 = .ok (.ifCond .ne 13, 3) := by decide +kernel
theorem dX0_powerModulo_25 : decode cX0_powerModulo 25 = .ok (.lload 6, 2) := by decide +kernel
theorem dX0_powerModulo_27 : decode cX0_powerModulo 27 = .ok (.lload 8, 2) := by decide +kernel
theorem dX0_powerModulo_29 : decode cX0_powerModulo 29 = .ok (.lmul, 1) := by decide +kernel
theorem dX0_powerModulo_30 : decode cX0_powerModulo 30 = .ok (.lload 4, 2) := by decide +kernel
theorem dX0_powerModulo_32 : decode cX0_powerModulo 32 = .ok (.lrem, 1) := by decide +kernel
theorem dX0_powerModulo_33 : decode cX0_powerModulo 33 = .ok (.lstore 6, 2) := by decide +kernel
theorem dX0_powerModulo_35 : decode cX0_powerModulo 35 = .ok (.lload 8, 2) := by decide +kernel
theorem dX0_powerModulo_37 : decode cX0_powerModulo 37 = .ok (.lload 8, 2) := by decide +kernel
theorem dX0_powerModulo_39 : decode cX0_powerModulo 39 = .ok (.lmul, 1) := by decide +kernel
theorem dX0_powerModulo_40 : decode cX0_powerModulo 40 = .ok (.lload 4, 2) := by decide +kernel
theorem dX0_powerModulo_42 : decode cX0_powerModulo 42 = .ok (.lrem, 1) := by decide +kernel
theorem dX0_powerModulo_43 : decode cX0_powerModulo 43 = .ok (.lstore 8, 2) := by decide +kernel
theorem dX0_powerModulo_45 : decode cX0_powerModulo 45 = .ok (.lload 10, 2) := by decide +kernel
theorem dX0_powerModulo_47 : decode cX0_powerModulo 47 = .ok (.iconst 1, 1) := by decide +kernel
theorem dX0_powerModulo_48 : decode cX0_powerModulo 48 = .ok (.lshr, 1) := by decide +kernel
theorem dX0_powerModulo_49 : decode cX0_powerModulo 49 = .ok (.lstore 10, 2) := by decide +kernel
theorem dX0_powerModulo_51 : decode cX0_powerModulo 51 = .ok (.goto (-42), 3) := by decide +kernel
theorem dX0_powerModulo_54 : decode cX0_powerModulo 54 = .ok (.lload 6, 2) := by decide +kernel
theorem dX0_powerModulo_56 : decode cX0_powerModulo 56 = .ok (.lreturn, 1) := by decide +kernel
set_option maxRecDepth 20000 in
theorem ggX0_inverseOf_X0_powerModulo : GoodIn wsX0_inverseOf wsX0_powerModulo := goodIn_r _ [6] (by decide +kernel) (by decide +kernel)
set_option maxRecDepth 20000 in
theorem gX0_inverseOf_X0_powerModulo : GoodIn wsX0_inverseOf (va_wsS RX0 77 yX0_powerModulo wsX0_powerModulo) := goodIn_app (goodIn_of _ (by decide +kernel)) ggX0_inverseOf_X0_powerModulo
theorem dX0_inverseOf_0 : decode cX0_inverseOf 0 = .ok (.lload_n 1, 1) := by decide +kernel
theorem dX0_inverseOf_1 : decode cX0_inverseOf 1 = .ok (.aload_n 0, 1) := by decide +kernel
theorem dX0_inverseOf_2 : decode cX0_inverseOf 2 = .ok (.getfield 71, 3) := by decide +kernel
theorem dX0_inverseOf_5 : decode cX0_inverseOf 5 = .ok (.ldc2_w 41, 3) := by decide +kernel
theorem dX0_inverseOf_8 : decode cX0_inverseOf 8 = .ok (.lsub, 1) := by decide +kernel
theorem dX0_inverseOf_9 : decode cX0_inverseOf 9 = .ok (.aload_n 0, 1) := by decide +kernel
theorem dX0_inverseOf_10 : decode cX0_inverseOf 10 = .ok (.getfield 71, 3) := by decide +kernel
theorem dX0_inverseOf_13 : decode cX0_inverseOf 13 = .ok (.invokestatic 77, 3) := by decide +kernel
theorem dX0_inverseOf_16 : decode cX0_inverseOf 16 = .ok (.lreturn, 1) := by decide +kernel
set_option maxRecDepth 20000 in
theorem ggX0_turnForward_X0_orderByMirroredBits : GoodIn wsX0_turnForward wsX0_orderByMirroredBits := goodIn_r _ [4, 5, 6, 3, 7, 8, 9, 10] (by decide +kernel) (by decide +kernel)
set_option maxRecDepth 20000 in
theorem gX0_turnForward_X0_orderByMirroredBits : GoodIn wsX0_turnForward (va_wsS RX0 176 yX0_orderByMirroredBits wsX0_orderByMirroredBits) := goodIn_app (goodIn_of _ (by decide +kernel)) ggX0_turnForward_X0_orderByMirroredBits
set_option maxRecDepth 20000 in
theorem ggX0_turnForward_X0_joinHalves : GoodIn wsX0_turnForward wsX0_joinHalves := goodIn_r _ [14, 15, 16, 17, 18, 19, 20, 21, 22, 23, 24] (by decide +kernel) (by decide +kernel)
set_option maxRecDepth 20000 in
theorem gX0_turnForward_X0_joinHalves : GoodIn wsX0_turnForward (wsV RX0 179 RX0 yX0_joinHalves wsX0_joinHalves) := goodIn_app (goodIn_of _ (by decide +kernel)) ggX0_turnForward_X0_joinHalves
theorem dX0_turnForward_0 : decode cX0_turnForward 0 = .ok (.aload_n 1, 1) := by decide +kernel
theorem dX0_turnForward_1 : decode cX0_turnForward 1 = .ok (.iload_n 2, 1) := by decide +kernel
theorem dX0_turnForward_2 : decode cX0_turnForward 2 = .ok (.invokestatic 176, 3) := by decide +kernel
theorem dX0_turnForward_5 : decode cX0_turnForward 5 = .ok (.sipush 256, 3) := by decide +kernel
theorem dX0_turnForward_8 : decode cX0_turnForward 8 = .ok (.istore_n 3, 1) := by decide +kernel
theorem dX0_turnForward_9 : decode cX0_turnForward 9 = .ok (.iconst 1, 1) := by decide +kernel
theorem dX0_turnForward_10 : decode cX0_turnForward 10 = .ok (.istore 4, 2) := by decide +kernel
theorem dX0_turnForward_12 : decode cX0_turnForward 12 = .ok (.iload 4, 2) := by decide +kernel
theorem dX0_turnForward_14 : decode cX0_turnForward 14 = .ok (.iload_n 2, 1) := by decide +kernel
theorem dX0_turnForward_15 : decode cX0_turnForward 15 = .ok (.if_icmp .ge 25, 3) := by decide +kernel
theorem dX0_turnForward_18 : decode cX0_turnForward 18 = .ok (.aload_n 0, 1) := by decide +kernel
theorem dX0_turnForward_19 : decode cX0_turnForward 19 = .ok (.aload_n 1, 1) := by decide +kernel
theorem dX0_turnForward_20 : decode cX0_turnForward 20 = .ok (.iload_n 2, 1) := by decide +kernel
theorem dX0_turnForward_21 : decode cX0_turnForward 21 = .ok (.iload 4, 2) := by decide +kernel
theorem dX0_turnForward_23 : decode cX0_turnForward 23 = .ok (.iload_n 3, 1) := by decide +kernel
theorem dX0_turnForward_24 : decode cX0_turnForward 24 = .ok (.invokevirtual 179, 3) := by decide +kernel
theorem dX0_turnForward_27 : decode cX0_turnForward 27 = .ok (.iload_n 3, 1) := by decide +kernel
theorem dX0_turnForward_28 : decode cX0_turnForward 28 = .ok (.iconst 2, 1) := by decide +kernel
theorem dX0_turnForward_29 : decode cX0_turnForward 29 = .ok (.idiv, 1) := by decide +kernel
theorem dX0_turnForward_30 : decode cX0_turnForward 30 = .ok (.istore_n 3, 1) := by decide +kernel
theorem dX0_turnForward_31 : decode cX0_turnForward 31 = .ok (.iload 4, 2) := by decide +kernel
theorem dX0_turnForward_33 : decode cX0_turnForward 33 = .ok (.iconst 2, 1) := by decide +kernel
theorem dX0_turnForward_34 : decode cX0_turnForward 34 = .ok (.imul, 1) := by decide +kernel
theorem dX0_turnForward_35 : decode cX0_turnForward 35 = .ok (.istore 4, 2) := by decide +kernel
theorem dX0_turnForward_37 : decode cX0_turnForward 37 = .ok (.goto (-25), 3) := by decide +kernel
theorem dX0_turnForward_40 : decode cX0_turnForward 40 = .ok (.return_, 1) := by decide +kernel
set_option maxRecDepth 20000 in
theorem ggX0_turnBackward_X0_turnForward : GoodIn wsX0_turnBackward wsX0_turnForward := goodIn_r _ [6, 7, 8, 5, 9, 10, 11, 12, 13, 14, 15, 16, 17, 18, 19, 20, 1, 29, 30, 31, 32, 33, 34, 35, 36] (by decide +kernel) (by decide +kernel)
set_option maxRecDepth 20000 in
theorem gX0_turnBackward_X0_turnForward : GoodIn wsX0_turnBackward (wsV RX0 104 RX0 yX0_turnForward wsX0_turnForward) := goodIn_app (goodIn_of _ (by decide +kernel)) ggX0_turnBackward_X0_turnForward
set_option maxRecDepth 20000 in
theorem ggX0_turnBackward_X0_inverseOf : GoodIn wsX0_turnBackward wsX0_inverseOf := goodIn_r _ [24, 1, 25, 26, 27, 5, 28, 29, 30, 31, 32, 33, 34, 35, 36] (by decide +kernel) (by decide +kernel)
set_option maxRecDepth 20000 in
theorem gX0_turnBackward_X0_inverseOf : GoodIn wsX0_turnBackward (wsV RX0 83 RX0 yX0_inverseOf wsX0_inverseOf) := goodIn_app (goodIn_of _ (by decide +kernel)) ggX0_turnBackward_X0_inverseOf
set_option maxRecDepth 20000 in
theorem ggX0_turnBackward_X0_swap : GoodIn wsX0_turnBackward wsX0_swap := goodIn_r _ [15] (by decide +kernel) (by decide +kernel)
set_option maxRecDepth 20000 in
theorem gX0_turnBackward_X0_swap : GoodIn wsX0_turnBackward (va_wsS RX0 183 yX0_swap wsX0_swap) := goodIn_app (goodIn_of _ (by decide +kernel)) ggX0_turnBackward_X0_swap
theorem dX0_turnBackward_0 : decode cX0_turnBackward 0 = .ok (.aload_n 0, 1) := by decide +kernel
theorem dX0_turnBackward_1 : decode cX0_turnBackward 1 = .ok (.aload_n 1, 1) := by decide +kernel
theorem dX0_turnBackward_2 : decode cX0_turnBackward 2 = .ok (.iload_n 2, 1) := by decide +kernel
theorem dX0_turnBackward_3 : decode cX0_turnBackward 3 = .ok (.invokevirtual 104, 3) := by decide +kernel
theorem dX0_turnBackward_6 : decode cX0_turnBackward 6 = .ok (.aload_n 0, 1) := by decide +kernel
theorem dX0_turnBackward_7 : decode cX0_turnBackward 7 = .ok (.iload_n 2, 1) := by decide +kernel
theorem dX0_turnBackward_8 : decode cX0_turnBackward 8 = .ok (.i2l, 1) := by decide +kernel
theorem dX0_turnBackward_9 : decode cX0_turnBackward 9 = .ok (.invokevirtual 83, 3) := by decide +kernel
theorem dX0_turnBackward_12 : decode cX0_turnBackward 12 = .ok (.lstore_n 3, 1) := by decide +kernel
theorem dX0_turnBackward_13 : decode cX0_turnBackward 13 = .ok (.iconst 0, 1) := by decide +kernel
theorem dX0_turnBackward_14 : decode cX0_turnBackward 14 = .ok (.istore 5, 2) := by decide +kernel
theorem dX0_turnBackward_16 : decode cX0_turnBackward 16 = .ok (.iload 5, 2) := by decide +kernel
theorem dX0_turnBackward_18 : decode cX0_turnBackward 18 = .ok (.iload_n 2, 1) := by decide +kernel
theorem dX0_turnBackward_19 : decode cX0_turnBackward 19 = .ok (.if_icmp .ge 24, 3) := by decide +kernel
theorem dX0_turnBackward_22 : decode cX0_turnBackward 22 = .ok (.aload_n 1, 1) := by decide +kernel
theorem dX0_turnBackward_23 : decode cX0_turnBackward 23 = .ok (.iload 5, 2) := by decide +kernel
theorem dX0_turnBackward_25 : decode cX0_turnBackward 25 = .ok (.aload_n 1, 1) := by decide +kernel
theorem dX0_turnBackward_26 : decode cX0_turnBackward 26 = .ok (.iload 5, 2) := by decide +kernel
theorem dX0_turnBackward_28 : decode cX0_turnBackward 28 = .ok (.laload, 1) := by decide +kernel
theorem dX0_turnBackward_29 : decode cX0_turnBackward 29 = .ok (.lload_n 3, 1) := by decide +kernel
theorem dX0_turnBackward_30 : decode cX0_turnBackward 30 = .ok (.lmul, 1) := by decide +kernel
theorem dX0_turnBackward_31 : decode cX0_turnBackward 31 = .ok (.aload_n 0, 1) := by decide +kernel
theorem dX0_turnBackward_32 : decode cX0_turnBackward 32 = .ok (.getfield 71, 3) := by decide +kernel
theorem dX0_turnBackward_35 : decode cX0_turnBackward 35 = .ok (.lrem, 1) := by decide +kernel
theorem dX0_turnBackward_36 : decode cX0_turnBackward 36 = .ok (.lastore, 1) := by decide +kernel
theorem dX0_turnBackward_37 : decode cX0_turnBackward 37 = .ok (.iinc 5 1, 3) := by decide +kernel
theorem dX0_turnBackward_40 : decode cX0_turnBackward 40 = .ok (.goto (-24), 3) := by decide +kernel
theorem dX0_turnBackward_43 : decode cX0_turnBackward 43 = .ok (.iload_n 2, 1) := by decide +kernel
theorem dX0_turnBackward_44 : decode cX0_turnBackward 44 = .ok (.iconst 1, 1) := by decide +kernel
theorem dX0_turnBackward_45 : decode cX0_turnBackward 45 = .ok (.isub, 1) := by decide +kernel
theorem dX0_turnBackward_46 : decode cX0_turnBackward 46 = .ok (.istore 5, 2) := by decide +kernel
theorem dX0_turnBackward_48 : decode cX0_turnBackward 48 = .ok (.iconst 1, 1) := by decide +kernel
theorem dX0_turnBackward_49 : decode cX0_turnBackward 49 = .ok (.istore 6, 2) := by decide +kernel
theorem dX0_turnBackward_51 : decode cX0_turnBackward 51 = .ok (.iload 6, 2) := by decide +kernel
theorem dX0_turnBackward_53 : decode cX0_turnBackward 53 = .ok (.iload 5, 2) := by decide +kernel
theorem dX0_turnBackward_55 : decode cX0_turnBackward 55 = .ok (.if_icmp .ge 20, 3) := by decide +kernel
theorem dX0_turnBackward_58 : decode cX0_turnBackward 58 = .ok (.aload_n 1, 1) := by decide +kernel
theorem dX0_turnBackward_59 : decode cX0_turnBackward 59 = .ok (.iload 6, 2) := by decide +kernel
theorem dX0_turnBackward_61 : decode cX0_turnBackward 61 = .ok (.iload 5, 2) := by decide +kernel
theorem dX0_turnBackward_63 : decode cX0_turnBackward 63 = .ok (.invokestatic 183, 3) := by decide +kernel
theorem dX0_turnBackward_66 : decode cX0_turnBackward 66 = .ok (.iinc 5 (-1), 3) := by decide +kernel
theorem dX0_turnBackward_69 : decode cX0_turnBackward 69 = .ok (.iinc 6 1, 3) := by decide +kernel
theorem dX0_turnBackward_72 : decode cX0_turnBackward 72 = .ok (.goto (-21), 3) := by decide +kernel
theorem dX0_turnBackward_75 : decode cX0_turnBackward 75 = .ok (.return_, 1) := by decide +kernel
set_option maxRecDepth 20000 in
theorem ggX0_orderByMirroredBits_X0_nextMirrored : GoodIn wsX0_orderByMirroredBits wsX0_nextMirrored := goodIn_r _ [4] (by decide +kernel) (by decide +kernel)
set_option maxRecDepth 20000 in
theorem gX0_orderByMirroredBits_X0_nextMirrored : GoodIn wsX0_orderByMirroredBits (va_wsS RX0 187 yX0_nextMirrored wsX0_nextMirrored) := goodIn_app (goodIn_of _ (by decide +kernel)) ggX0_orderByMirroredBits_X0_nextMirrored
set_option maxRecDepth 20000 in
theorem ggX0_orderByMirroredBits_X0_swap : GoodIn wsX0_orderByMirroredBits wsX0_swap := goodIn_r _ [7] (by decide +kernel) (by decide +kernel)
set_option maxRecDepth 20000 in
theorem gX0_orderByMirroredBits_X0_swap : GoodIn wsX0_orderByMirroredBits (va_wsS RX0 183 yX0_swap wsX0_swap) := goodIn_app (goodIn_of _ (by decide +kernel)) ggX0_orderByMirroredBits_X0_swap
theorem dX0_orderByMirroredBits_0 : decode cX0_orderByMirroredBits 0 = .ok (.iconst 0, 1) := by decide +kernel
theorem dX0_orderByMirroredBits_1 : decode cX0_orderByMirroredBits 1 = .ok (.istore_n 2, 1) := by decide +kernel
theorem dX0_orderByMirroredBits_2 : decode cX0_orderByMirroredBits 2 = .ok (.iconst 1, 1) := by decide +kernel
theorem dX0_orderByMirroredBits_3 : decode cX0_orderByMirroredBits 3 = .ok (.istore_n 3, 1) := by decide +kernel
theorem dX0_orderByMirroredBits_4 : decode cX0_orderByMirroredBits 4 = .ok (.iload_n 3, 1) := by decide +kernel
theorem dX0_orderByMirroredBits_5 : decode cX0_orderByMirroredBits 5 = .ok (.iload_n 1, 1) := by decide +kernel
theorem dX0_orderByMirroredBits_6 : decode cX0_orderByMirroredBits 6 = .ok (.if_icmp .ge 26, 3) := by decide +kernel
theorem dX0_orderByMirroredBits_9 : decode cX0_orderByMirroredBits 9 = .ok (.iload_n 2, 1) := by decide +kernel
theorem dX0_orderByMirroredBits_10 : decode cX0_orderByMirroredBits 10 = .ok (.iload_n 1, 1) := by decide +kernel
theorem dX0_orderByMirroredBits_11 : decode cX0_orderByMirroredBits 11 = .ok (.invokestatic 187, 3) := by decide +kernel
theorem dX0_orderByMirroredBits_14 : decode cX0_orderByMirroredBits 14 = .ok (.istore_n 2, 1) := by decide +kernel
theorem dX0_orderByMirroredBits_15 : decode cX0_orderByMirroredBits 15 = .ok (.iload_n 3, 1) := by decide +kernel
theorem dX0_orderByMirroredBits_16 : decode cX0_orderByMirroredBits 16 = .ok (.iload_n 2, 1) := by decide +kernel
theorem dX0_orderByMirroredBits_17 : decode cX0_orderByMirroredBits 17 = .ok (.if_icmp .ge 9, 3) := by decide +kernel
theorem dX0_orderByMirroredBits_20 : decode cX0_orderByMirroredBits 20 = .ok (.aload_n 0, 1) := by decide +kernel
theorem dX0_orderByMirroredBits_21 : decode cX0_orderByMirroredBits 21 = .ok (.iload_n 3, 1) := by decide +kernel
theorem dX0_orderByMirroredBits_22 : decode cX0_orderByMirroredBits 22 = .ok (.iload_n 2, 1) := by decide +kernel
theorem dX0_orderByMirroredBits_23 : decode cX0_orderByMirroredBits 23 = .ok (.invokestatic 183, 3) := by decide +kernel
theorem dX0_orderByMirroredBits_26 : decode cX0_orderByMirroredBits 26 = .ok (.iinc 3 1, 3) := by decide +kernel
theorem dX0_orderByMirroredBits_29 : decode cX0_orderByMirroredBits 29 = .ok (.goto (-25), 3) := by decide +kernel
theorem dX0_orderByMirroredBits_32 : decode cX0_orderByMirroredBits 32 = .ok (.return_, 1) := by decide +kernel
theorem dX0_nextMirrored_0 : decode cX0_nextMirrored 0 = .ok (.iload_n 0, 1) := by decide +kernel
theorem dX0_nextMirrored_1 : decode cX0_nextMirrored 1 = .ok (.istore_n 2, 1) := by decide +kernel
theorem dX0_nextMirrored_2 : decode cX0_nextMirrored 2 = .ok (.iload_n 1, 1) := by decide +kernel
theorem dX0_nextMirrored_3 : decode cX0_nextMirrored 3 = .ok (.iconst 2, 1) := by decide +kernel
theorem dX0_nextMirrored_4 : decode cX0_nextMirrored 4 = .ok (.idiv, 1) := by decide +kernel
theorem dX0_nextMirrored_5 : decode cX0_nextMirrored 5 = .ok (.istore_n 3, 1) := by decide +kernel
theorem dX0_nextMirrored_6 : decode cX0_nextMirrored 6 = .ok (.iload_n 3, 1) := by decide +kernel
theorem dX0_nextMirrored_7 : decode cX0_nextMirrored 7 = .ok (.ifCond .le 20, 3) := by decide +kernel
theorem dX0_nextMirrored_10 : decode cX0_nextMirrored 10 = .ok (.iload_n 2, 1) := by decide +kernel
theorem dX0_nextMirrored_11 : decode cX0_nextMirrored 11 = .ok (.iload_n 3, 1) := by decide +kernel
theorem dX0_nextMirrored_12 : decode cX0_nextMirrored 12 = .ok (.iand, 1) := by decide +kernel
theorem dX0_nextMirrored_13 : decode cX0_nextMirrored 13 = .ok (.ifCond .eq 14, 3) := by decide +kernel
theorem dX0_nextMirrored_16 : decode cX0_nextMirrored 16 = .ok (.iload_n 2, 1) := by decide +kernel
theorem dX0_nextMirrored_17 : decode cX0_nextMirrored 17 = .ok (.iload_n 3, 1) := by decide +kernel
theorem dX0_nextMirrored_18 : decode cX0_nextMirrored 18 = .ok (.isub, 1) := by decide +kernel
theorem dX0_nextMirrored_19 : decode cX0_nextMirrored 19 = .ok (.istore_n 2, 1) := by decide +kernel
theorem dX0_nextMirrored_20 : decode cX0_nextMirrored 20 = .ok (.iload_n 3, 1) := by decide +kernel
theorem dX0_nextMirrored_21 : decode cX0_nextMirrored 21 = .ok (.iconst 2, 1) := by decide +kernel
theorem dX0_nextMirrored_22 : decode cX0_nextMirrored 22 = .ok (.idiv, 1) := by decide +kernel
theorem dX0_nextMirrored_23 : decode cX0_nextMirrored 23 = .ok (.istore_n 3, 1) := by decide +kernel
theorem dX0_nextMirrored_24 : decode cX0_nextMirrored 24 = .ok (.goto (-18), 3) := by decide +kernel
theorem dX0_nextMirrored_27 : decode cX0_nextMirrored 27 = .ok (.iload_n 2, 1) := by decide +kernel
theorem dX0_nextMirrored_28 : decode cX0_nextMirrored 28 = .ok (.iload_n 3, 1) := by decide +kernel
theorem dX0_nextMirrored_29 : decode cX0_nextMirrored 29 = .ok (.iadd, 1) := by decide +kernel
theorem dX0_nextMirrored_30 : decode cX0_nextMirrored 30 = .ok (.ireturn, 1) := by decide +kernel
theorem dX0_swap_0 : decode cX0_swap 0 = .ok (.aload_n 0, 1) := by decide +kernel
theorem dX0_swap_1 : decode cX0_swap 1 = .ok (.iload_n 1, 1) := by decide +kernel
theorem dX0_swap_2 : decode cX0_swap 2 = .ok (.laload, 1) := by decide +kernel
theorem dX0_swap_3 : decode cX0_swap 3 = .ok (.lstore_n 3, 1) := by decide +kernel
theorem dX0_swap_4 : decode cX0_swap 4 = .ok (.aload_n 0, 1) := by decide +kernel
theorem dX0_swap_5 : decode cX0_swap 5 = .ok (.iload_n 1, 1) := by decide +kernel
theorem dX0_swap_6 : decode cX0_swap 6 = .ok (.aload_n 0, 1) := by decide +kernel
theorem dX0_swap_7 : decode cX0_swap 7 = .ok (.iload_n 2, 1) := by decide +kernel
theorem dX0_swap_8 : decode cX0_swap 8 = .ok (.laload, 1) := by decide +kernel
theorem dX0_swap_9 : decode cX0_swap 9 = .ok (.lastore, 1) := by decide +kernel
theorem dX0_swap_10 : decode cX0_swap 10 = .ok (.aload_n 0, 1) := by decide +kernel
theorem dX0_swap_11 : decode cX0_swap 11 = .ok (.iload_n 2, 1) := by decide +kernel
theorem dX0_swap_12 : decode cX0_swap 12 = .ok (.lload_n 3, 1) := by decide +kernel
theorem dX0_swap_13 : decode cX0_swap 13 = .ok (.lastore, 1) := by decide +kernel
theorem dX0_swap_14 : decode cX0_swap 14 = .ok (.return_, 1) := by decide +kernel
theorem dX0_joinHalves_0 : decode cX0_joinHalves 0 = .ok (.iconst 0, 1) := by decide +kernel
theorem dX0_joinHalves_1 : decode cX0_joinHalves 1 = .ok (.istore 5, 2) := by decide +kernel
theorem dX0_joinHalves_3 : decode cX0_joinHalves 3 = .ok (.iload 5, 2) := by decide +kernel
theorem dX0_joinHalves_5 : decode cX0_joinHalves 5 = .ok (.iload_n 2, 1) := by decide +kernel
theorem dX0_joinHalves_6 : decode cX0_joinHalves 6 = .ok (.if_icmp .ge 133, 3) := by decide +kernel
theorem dX0_joinHalves_9 : decode cX0_joinHalves 9 = .ok (.iconst 0, 1) := by decide +kernel
theorem dX0_joinHalves_10 : decode cX0_joinHalves 10 = .ok (.istore 6, 2) := by decide +kernel
theorem dX0_joinHalves_12 : decode cX0_joinHalves 12 = .ok (.iload 6, 2) := by decide +kernel
theorem dX0_joinHalves_14 : decode cX0_joinHalves 14 = .ok (.iload_n 3, 1) := by decide +kernel
theorem dX0_joinHalves_15 : decode cX0_joinHalves 15 = .ok (.if_icmp .ge 113, 3) := by decide +kernel
theorem dX0_joinHalves_18 : decode cX0_joinHalves 18 = .ok (.iload 5, 2) := by decide +kernel
theorem dX0_joinHalves_20 : decode cX0_joinHalves 20 = .ok (.iload 6, 2) := by decide +kernel
theorem dX0_joinHalves_22 : decode cX0_joinHalves 22 = .ok (.iadd, 1) := by decide +kernel
theorem dX0_joinHalves_23 : decode cX0_joinHalves 23 = .ok (.istore 7, 2) := by decide +kernel
theorem dX0_joinHalves_25 : decode cX0_joinHalves 25 = .ok (.iload 7, 2) := by decide +kernel
theorem dX0_joinHalves_27 : decode cX0_joinHalves 27 = .ok (.iload_n 3, 1) := by decide +kernel
theorem dX0_joinHalves_28 : decode cX0_joinHalves 28 = .ok (.iadd, 1) := by decide +kernel
theorem dX0_joinHalves_29 : decode cX0_joinHalves 29 = .ok (.istore 8, 2) := by decide +kernel
theorem dX0_joinHalves_31 : decode cX0_joinHalves 31 = .ok (.aload_n 1, 1) := by decide +kernel
theorem dX0_joinHalves_32 : decode cX0_joinHalves 32 = .ok (.iload 7, 2) := by decide +kernel
theorem dX0_joinHalves_34 : decode cX0_joinHalves 34 = .ok (.laload, 1) := by decide +kernel
theorem dX0_joinHalves_35 : decode cX0_joinHalves 35 = .ok (.lstore 9, 2) := by decide +kernel
theorem dX0_joinHalves_37 : decode cX0_joinHalves 37 = .ok (.aload_n 1, 1) := by decide +kernel
theorem dX0_joinHalves_38 : decode cX0_joinHalves 38 = .ok (.iload 8, 2) := by decide +kernel
theorem dX0_joinHalves_40 : decode cX0_joinHalves 40 = .ok (.laload, 1) := by decide +kernel
theorem dX0_joinHalves_41 : decode cX0_joinHalves 41 = .ok (.aload_n 0, 1) := by decide +kernel
theorem dX0_joinHalves_42 : decode cX0_joinHalves 42 = .ok (.getfield 9, 3) := by decide +kernel
theorem dX0_joinHalves_45 : decode cX0_joinHalves 45 = .ok (.iload 6, 2) := by decide +kernel
theorem dX0_joinHalves_47 : decode cX0_joinHalves 47 = .ok (.iload 4, 2) := by decide +kernel
theorem dX0_joinHalves_49 : decode cX0_joinHalves 49 = .ok (.imul, 1) := by decide +kernel
theorem dX0_joinHalves_50 : decode cX0_joinHalves 50 = .ok (.laload, 1) := by decide +kernel
theorem dX0_joinHalves_51 : decode cX0_joinHalves 51 = .ok (.lmul, 1) := by decide +kernel
theorem dX0_joinHalves_52 : decode cX0_joinHalves 52 = .ok (.aload_n 0, 1) := by decide +kernel
theorem dX0_joinHalves_53 : decode cX0_joinHalves 53 = .ok (.getfield 71, 3) := by decide +kernel
theorem dX0_joinHalves_56 : decode cX0_joinHalves 56 = .ok (.lrem, 1) := by decide +kernel
theorem dX0_joinHalves_57 : decode cX0_joinHalves 57 = .ok (.lstore 11, 2) := by decide +kernel
theorem dX0_joinHalves_59 : decode cX0_joinHalves 59 = .ok (.lload 9, 2) := by decide +kernel
theorem dX0_joinHalves_61 : decode cX0_joinHalves 61 = .ok (.lload 11, 2) := by decide +kernel
theorem dX0_joinHalves_63 : decode cX0_joinHalves 63 = .ok (.ladd, 1) := by decide +kernel
theorem dX0_joinHalves_64 : decode cX0_joinHalves 64 = .ok (.lstore 13, 2) := by decide +kernel
theorem dX0_joinHalves_66 : decode cX0_joinHalves 66 = .ok (.lload 9, 2) := by decide +kernel
theorem dX0_joinHalves_68 : decode cX0_joinHalves 68 = .ok (.lload 11, 2) := by decide +kernel
theorem dX0_joinHalves_70 : decode cX0_joinHalves 70 = .ok (.lsub, 1) := by decide +kernel
theorem dX0_joinHalves_71 : decode cX0_joinHalves 71 = .ok (.lstore 15, 2) := by decide +kernel
theorem dX0_joinHalves_73 : decode cX0_joinHalves 73 = .ok (.aload_n 1, 1) := by decide +kernel
theorem dX0_joinHalves_74 : decode cX0_joinHalves 74 = .ok (.iload 7, 2) := by decide +kernel
theorem dX0_joinHalves_76 : decode cX0_joinHalves 76 = .ok (.lload 13, 2) := by decide +kernel
theorem dX0_joinHalves_78 : decode cX0_joinHalves 78 = .ok (.aload_n 0, 1) := by decide +kernel
theorem dX0_joinHalves_79 : decode cX0_joinHalves 79 = .ok (.getfield 71, 3) := by decide +kernel
theorem dX0_joinHalves_82 : decode cX0_joinHalves 82 = .ok (.lcmp, 1) := by decide +kernel
theorem dX0_joinHalves_83 : decode cX0_joinHalves 83 = .ok (.ifCond .lt 13, 3) := by decide +kernel
theorem dX0_joinHalves_86 : decode cX0_joinHalves 86 = .ok (.lload 13, 2) := by decide +kernel
theorem dX0_joinHalves_88 : decode cX0_joinHalves 88 = .ok (.aload_n 0, 1) := by decide +kernel
theorem dX0_joinHalves_89 : decode cX0_joinHalves 89 = .ok (.getfield 71, 3) := by decide +kernel
theorem dX0_joinHalves_92 : decode cX0_joinHalves 92 = .ok (.lsub, 1) := by decide +kernel
theorem dX0_joinHalves_93 : decode cX0_joinHalves 93 = .ok (.goto 5, 3) := by decide +kernel
theorem dX0_joinHalves_96 : decode cX0_joinHalves 96 = .ok (.lload 13, 2) := by decide +kernel
theorem dX0_joinHalves_98 : decode cX0_joinHalves 98 = .ok (.lastore, 1) := by decide +kernel
theorem dX0_joinHalves_99 : decode cX0_joinHalves 99 = .ok (.aload_n 1, 1) := by decide +kernel
theorem dX0_joinHalves_100 : decode cX0_joinHalves 100 = .ok (.iload 8, 2) := by decide +kernel
theorem dX0_joinHalves_102 : decode cX0_joinHalves 102 = .ok (.lload 15, 2) := by decide +kernel
theorem dX0_joinHalves_104 : decode cX0_joinHalves 104 = .ok (.lconst 0, 1) := by decide +kernel
theorem dX0_joinHalves_105 : decode cX0_joinHalves 105 = .ok (.lcmp, 1) := by decide +kernel
theorem dX0_joinHalves_106 : decode cX0_joinHalves 106 = .ok (.ifCond .ge 13, 3) := by decide +kernel
theorem dX0_joinHalves_109 : decode cX0_joinHalves 109 = .ok (.lload 15, 2) := by decide +kernel
theorem dX0_joinHalves_111 : decode cX0_joinHalves 111 = .ok (.aload_n 0, 1) := by decide +kernel
theorem dX0_joinHalves_112 : decode cX0_joinHalves 112 = .ok (.getfield 71, 3) := by decide +kernel
theorem dX0_joinHalves_115 : decode cX0_joinHalves 115 = .ok (.ladd, 1) := by decide +kernel
theorem dX0_joinHalves_116 : decode cX0_joinHalves 116 = .ok (.goto 5, 3) := by decide +kernel
theorem dX0_joinHalves_119 : decode cX0_joinHalves 119 = .ok (.lload 15, 2) := by decide +kernel
theorem dX0_joinHalves_121 : decode cX0_joinHalves 121 = .ok (.lastore, 1) := by decide +kernel
theorem dX0_joinHalves_122 : decode cX0_joinHalves 122 = .ok (.iinc 6 1, 3) := by decide +kernel
theorem dX0_joinHalves_125 : decode cX0_joinHalves 125 = .ok (.goto (-113), 3) := by decide +kernel
theorem dX0_joinHalves_128 : decode cX0_joinHalves 128 = .ok (.iload 5, 2) := by decide +kernel
theorem dX0_joinHalves_130 : decode cX0_joinHalves 130 = .ok (.iconst 2, 1) := by decide +kernel
theorem dX0_joinHalves_131 : decode cX0_joinHalves 131 = .ok (.iload_n 3, 1) := by decide +kernel
theorem dX0_joinHalves_132 : decode cX0_joinHalves 132 = .ok (.imul, 1) := by decide +kernel
theorem dX0_joinHalves_133 : decode cX0_joinHalves 133 = .ok (.iadd, 1) := by decide +kernel
theorem dX0_joinHalves_134 : decode cX0_joinHalves 134 = .ok (.istore 5, 2) := by decide +kernel
theorem dX0_joinHalves_136 : decode cX0_joinHalves 136 = .ok (.goto (-133), 3) := by decide +kernel
theorem dX0_joinHalves_139 : decode cX0_joinHalves 139 = .ok (.return_, 1) := by decide +kernel
theorem dX0_turnThatHolds_0 : decode cX0_turnThatHolds 0 = .ok (.iconst 1, 1) := by decide +kernel
theorem dX0_turnThatHolds_1 : decode cX0_turnThatHolds 1 = .ok (.istore_n 1, 1) := by decide +kernel
theorem dX0_turnThatHolds_2 : decode cX0_turnThatHolds 2 = .ok (.iload_n 1, 1) := by decide +kernel
theorem dX0_turnThatHolds_3 : decode cX0_turnThatHolds 3 = .ok (.iload_n 0, 1) := by decide +kernel
theorem dX0_turnThatHolds_4 : decode cX0_turnThatHolds 4 = .ok (.if_icmp .ge 17, 3) := by decide +kernel
theorem dX0_turnThatHolds_7 : decode cX0_turnThatHolds 7 = .ok (.iload_n 1, 1) := by decide +kernel
theorem dX0_turnThatHolds_8 : decode cX0_turnThatHolds 8 = .ok (.sipush 512, 3) := by decide +kernel
theorem dX0_turnThatHolds_11 : decode cX0_turnThatHolds 11 = .ok (.if_icmp .ge 10, 3) := by decide +kernel
theorem dX0_turnThatHolds_14 : decode cX0_turnThatHolds 14 = .ok (.iload_n 1, 1) := by decide +kernel
theorem dX0_turnThatHolds_15 : decode cX0_turnThatHolds 15 = .ok (.iconst 2, 1) := by decide +kernel
theorem dX0_turnThatHolds_16 : decode cX0_turnThatHolds 16 = .ok (.imul, 1) := by decide +kernel
theorem dX0_turnThatHolds_17 : decode cX0_turnThatHolds 17 = .ok (.istore_n 1, 1) := by decide +kernel
theorem dX0_turnThatHolds_18 : decode cX0_turnThatHolds 18 = .ok (.goto (-16), 3) := by decide +kernel
theorem dX0_turnThatHolds_21 : decode cX0_turnThatHolds 21 = .ok (.iload_n 1, 1) := by decide +kernel
theorem dX0_turnThatHolds_22 : decode cX0_turnThatHolds 22 = .ok (.ireturn, 1) := by decide +kernel
set_option maxRecDepth 20000 in
theorem ggX0_multiplyRows_X0_turnForward : GoodIn wsX0_multiplyRows wsX0_turnForward := goodIn_r _ [12, 13, 14, 11, 15, 16, 17, 18, 19, 20, 21, 22, 23, 24, 25, 26, 7, 43, 44, 45, 46, 47, 48, 49, 50] (by decide +kernel) (by decide +kernel)
set_option maxRecDepth 20000 in
theorem gX0_multiplyRows_X0_turnForward : GoodIn wsX0_multiplyRows (wsV RX0 104 RX0 yX0_turnForward wsX0_turnForward) := goodIn_app (goodIn_of _ (by decide +kernel)) ggX0_multiplyRows_X0_turnForward
set_option maxRecDepth 20000 in
theorem ggX0_multiplyRows_X0_turnBackward : GoodIn wsX0_multiplyRows wsX0_turnBackward := goodIn_r _ [30, 7, 8, 9, 10, 11, 12, 13, 14, 15, 16, 17, 18, 19, 20, 21, 22, 23, 24, 25, 26, 31, 32, 33, 34, 35, 36, 37, 38, 43, 44, 45, 46, 47, 48, 49, 50] (by decide +kernel) (by decide +kernel)
set_option maxRecDepth 20000 in
theorem gX0_multiplyRows_X0_turnBackward : GoodIn wsX0_multiplyRows (wsV RX0 100 RX0 yX0_turnBackward wsX0_turnBackward) := goodIn_app (goodIn_of _ (by decide +kernel)) ggX0_multiplyRows_X0_turnBackward
set_option maxRecDepth 20000 in
theorem ggX0_multiplyRows_J7_fill_d0a16 : GoodIn wsX0_multiplyRows wsJ7_fill_d0a16 := goodIn_r _ [42] (by decide +kernel) (by decide +kernel)
set_option maxRecDepth 20000 in
theorem gX0_multiplyRows_J7_fill_d0a16 : GoodIn wsX0_multiplyRows (va_wsS RX0 62 yJ7_fill_d0a16 wsJ7_fill_d0a16) := goodIn_app (goodIn_of _ (by decide +kernel)) ggX0_multiplyRows_J7_fill_d0a16
theorem dX0_multiplyRows_0 : decode cX0_multiplyRows 0 = .ok (.aload_n 2, 1) := by decide +kernel
theorem dX0_multiplyRows_1 : decode cX0_multiplyRows 1 = .ok (.iconst 0, 1) := by decide +kernel
theorem dX0_multiplyRows_2 : decode cX0_multiplyRows 2 = .ok (.aload_n 0, 1) := by decide +kernel
theorem dX0_multiplyRows_3 : decode cX0_multiplyRows 3 = .ok (.getfield 24, 3) := by decide +kernel
theorem dX0_multiplyRows_6 : decode cX0_multiplyRows 6 = .ok (.iconst 0, 1) := by decide +kernel
theorem dX0_multiplyRows_7 : decode cX0_multiplyRows 7 = .ok (.iload 4, 2) := by decide +kernel
theorem dX0_multiplyRows_9 : decode cX0_multiplyRows 9 = .ok (.invokestatic 134, 3) := by decide +kernel
theorem dX0_multiplyRows_12 : decode cX0_multiplyRows 12 = .ok (.aload_n 3, 1) := by decide +kernel
theorem dX0_multiplyRows_13 : decode cX0_multiplyRows 13 = .ok (.iconst 0, 1) := by decide +kernel
theorem dX0_multiplyRows_14 : decode cX0_multiplyRows 14 = .ok (.aload_n 0, 1) := by decide +kernel
theorem dX0_multiplyRows_15 : decode cX0_multiplyRows 15 = .ok (.getfield 27, 3) := by decide +kernel
theorem dX0_multiplyRows_18 : decode cX0_multiplyRows 18 = .ok (.iconst 0, 1) := by decide +kernel
theorem dX0_multiplyRows_19 : decode cX0_multiplyRows 19 = .ok (.iload 4, 2) := by decide +kernel
theorem dX0_multiplyRows_21 : decode cX0_multiplyRows 21 = .ok (.invokestatic 134, 3) := by decide +kernel
theorem dX0_multiplyRows_24 : decode cX0_multiplyRows 24 = .ok (.aload_n 0, 1) := by decide +kernel
theorem dX0_multiplyRows_25 : decode cX0_multiplyRows 25 = .ok (.aload_n 0, 1) := by decide +kernel
theorem dX0_multiplyRows_26 : decode cX0_multiplyRows 26 = .ok (.getfield 24, 3) := by decide +kernel
theorem dX0_multiplyRows_29 : decode cX0_multiplyRows 29 = .ok (.iload 4, 2) := by decide +kernel
theorem dX0_multiplyRows_31 : decode cX0_multiplyRows 31 = .ok (.invokevirtual 104, 3) := by decide +kernel
theorem dX0_multiplyRows_34 : decode cX0_multiplyRows 34 = .ok (.aload_n 0, 1) := by decide +kernel
theorem dX0_multiplyRows_35 : decode cX0_multiplyRows 35 = .ok (.aload_n 0, 1) := by decide +kernel
theorem dX0_multiplyRows_36 : decode cX0_multiplyRows 36 = .ok (.getfield 27, 3) := by decide +kernel
theorem dX0_multiplyRows_39 : decode cX0_multiplyRows 39 = .ok (.iload 4, 2) := by decide +kernel
theorem dX0_multiplyRows_41 : decode cX0_multiplyRows 41 = .ok (.invokevirtual 104, 3) := by decide +kernel
theorem dX0_multiplyRows_44 : decode cX0_multiplyRows 44 = .ok (.iconst 0, 1) := by decide +kernel
theorem dX0_multiplyRows_45 : decode cX0_multiplyRows 45 = .ok (.istore 5, 2) := by decide +kernel
theorem dX0_multiplyRows_47 : decode cX0_multiplyRows 47 = .ok (.iload 5, 2) := by decide +kernel
theorem dX0_multiplyRows_49 : decode cX0_multiplyRows 49 = .ok (.iload 4, 2) := by decide +kernel
theorem dX0_multiplyRows_51 : decode cX0_multiplyRows 51 = .ok (.if_icmp .ge 36, 3) := by decide +kernel
theorem dX0_multiplyRows_54 : decode cX0_multiplyRows 54 = .ok (.aload_n 0, 1) := by decide +kernel
theorem dX0_multiplyRows_55 : decode cX0_multiplyRows 55 = .ok (.getfield 24, 3) := by decide +kernel
theorem dX0_multiplyRows_58 : decode cX0_multiplyRows 58 = .ok (.iload 5, 2) := by decide +kernel
theorem dX0_multiplyRows_60 : decode cX0_multiplyRows 60 = .ok (.aload_n 0, 1) := by decide +kernel
theorem dX0_multiplyRows_61 : decode cX0_multiplyRows 61 = .ok (.getfield 24, 3) := by decide +kernel
theorem dX0_multiplyRows_64 : decode cX0_multiplyRows 64 = .ok (.iload 5, 2) := by decide +kernel
theorem dX0_multiplyRows_66 : decode cX0_multiplyRows 66 = .ok (.laload, 1) := by decide +kernel
theorem dX0_multiplyRows_67 : decode cX0_multiplyRows 67 = .ok (.aload_n 0, 1) := by decide +kernel
theorem dX0_multiplyRows_68 : decode cX0_multiplyRows 68 = .ok (.getfield 27, 3) := by decide +kernel
theorem dX0_multiplyRows_71 : decode cX0_multiplyRows 71 = .ok (.iload 5, 2) := by decide +kernel
theorem dX0_multiplyRows_73 : decode cX0_multiplyRows 73 = .ok (.laload, 1) := by decide +kernel
theorem dX0_multiplyRows_74 : decode cX0_multiplyRows 74 = .ok (.lmul, 1) := by decide +kernel
theorem dX0_multiplyRows_75 : decode cX0_multiplyRows 75 = .ok (.aload_n 0, 1) := by decide +kernel
theorem dX0_multiplyRows_76 : decode cX0_multiplyRows 76 = .ok (.getfield 71, 3) := by decide +kernel
theorem dX0_multiplyRows_79 : decode cX0_multiplyRows 79 = .ok (.lrem, 1) := by decide +kernel
theorem dX0_multiplyRows_80 : decode cX0_multiplyRows 80 = .ok (.lastore, 1) := by decide +kernel
theorem dX0_multiplyRows_81 : decode cX0_multiplyRows 81 = .ok (.iinc 5 1, 3) := by decide +kernel
theorem dX0_multiplyRows_84 : decode cX0_multiplyRows 84 = .ok (.goto (-37), 3) := by decide +kernel
theorem dX0_multiplyRows_87 : decode cX0_multiplyRows 87 = .ok (.aload_n 0, 1) := by decide +kernel
theorem dX0_multiplyRows_88 : decode cX0_multiplyRows 88 = .ok (.aload_n 0, 1) := by decide +kernel
theorem dX0_multiplyRows_89 : decode cX0_multiplyRows 89 = .ok (.getfield 24, 3) := by decide +kernel
theorem dX0_multiplyRows_92 : decode cX0_multiplyRows 92 = .ok (.iload 4, 2) := by decide +kernel
theorem dX0_multiplyRows_94 : decode cX0_multiplyRows 94 = .ok (.invokevirtual 100, 3) := by decide +kernel
theorem dX0_multiplyRows_97 : decode cX0_multiplyRows 97 = .ok (.aload_n 1, 1) := by decide +kernel
theorem dX0_multiplyRows_98 : decode cX0_multiplyRows 98 = .ok (.lconst 0, 1) := by decide +kernel
theorem dX0_multiplyRows_99 : decode cX0_multiplyRows 99 = .ok (.invokestatic 62, 3) := by decide +kernel
theorem dX0_multiplyRows_102 : decode cX0_multiplyRows 102 = .ok (.aload_n 0, 1) := by decide +kernel
theorem dX0_multiplyRows_103 : decode cX0_multiplyRows 103 = .ok (.getfield 24, 3) := by decide +kernel
theorem dX0_multiplyRows_106 : decode cX0_multiplyRows 106 = .ok (.iconst 0, 1) := by decide +kernel
theorem dX0_multiplyRows_107 : decode cX0_multiplyRows 107 = .ok (.aload_n 1, 1) := by decide +kernel
theorem dX0_multiplyRows_108 : decode cX0_multiplyRows 108 = .ok (.iconst 0, 1) := by decide +kernel
theorem dX0_multiplyRows_109 : decode cX0_multiplyRows 109 = .ok (.iload 4, 2) := by decide +kernel
theorem dX0_multiplyRows_111 : decode cX0_multiplyRows 111 = .ok (.invokestatic 134, 3) := by decide +kernel
theorem dX0_multiplyRows_114 : decode cX0_multiplyRows 114 = .ok (.return_, 1) := by decide +kernel
set_option maxRecDepth 20000 in
theorem ggX0_multiplyWords_J7_fill_d0a16 : GoodIn wsX0_multiplyWords wsJ7_fill_d0a16 := goodIn_r _ [6] (by decide +kernel) (by decide +kernel)
set_option maxRecDepth 20000 in
theorem gX0_multiplyWords_J7_fill_d0a16 : GoodIn wsX0_multiplyWords (va_wsS RX0 62 yJ7_fill_d0a16 wsJ7_fill_d0a16) := goodIn_app (goodIn_of _ (by decide +kernel)) ggX0_multiplyWords_J7_fill_d0a16
theorem dX0_multiplyWords_0 : decode cX0_multiplyWords 0 = .ok (.aload_n 0, 1) := by decide +kernel
theorem dX0_multiplyWords_1 : decode cX0_multiplyWords 1 = .ok (.getfield 30, 3) := by decide +kernel
theorem dX0_multiplyWords_4 : decode cX0_multiplyWords 4 = .ok (.lconst 0, 1) := by decide +kernel
theorem dX0_multiplyWords_5 : decode cX0_multiplyWords 5 = .ok (.invokestatic 62, 3) := by decide +kernel
theorem dX0_multiplyWords_8 : decode cX0_multiplyWords 8 = .ok (.iconst 0, 1) := by decide +kernel
theorem dX0_multiplyWords_9 : decode cX0_multiplyWords 9 = .ok (.istore 5, 2) := by decide +kernel
theorem dX0_multiplyWords_11 : decode cX0_multiplyWords 11 = .ok (.iload 5, 2) := by decide +kernel
theorem dX0_multiplyWords_13 : decode cX0_multiplyWords 13 = .ok (.iload_n 2, 1) := by decide +kernel
theorem dX0_multiplyWords_14 : decode cX0_multiplyWords 14 = .ok (.if_icmp .ge 88, 3) := by decide +kernel
theorem dX0_multiplyWords_17 : decode cX0_multiplyWords 17 = .ok (.lconst 0, 1) := by decide +kernel
theorem dX0_multiplyWords_18 : decode cX0_multiplyWords 18 = .ok (.lstore 6, 2) := by decide +kernel
theorem dX0_multiplyWords_20 : decode cX0_multiplyWords 20 = .ok (.iconst 0, 1) := by decide +kernel
theorem dX0_multiplyWords_21 : decode cX0_multiplyWords 21 = .ok (.istore 8, 2) := by decide +kernel
theorem dX0_multiplyWords_23 : decode cX0_multiplyWords 23 = .ok (.iload 8, 2) := by decide +kernel
theorem dX0_multiplyWords_25 : decode cX0_multiplyWords 25 = .ok (.iload 4, 2) := by decide +kernel
theorem dX0_multiplyWords_27 : decode cX0_multiplyWords 27 = .ok (.if_icmp .ge 57, 3) := by decide +kernel
theorem dX0_multiplyWords_30 : decode cX0_multiplyWords 30 = .ok (.aload_n 1, 1) := by decide +kernel
theorem dX0_multiplyWords_31 : decode cX0_multiplyWords 31 = .ok (.iload 5, 2) := by decide +kernel
theorem dX0_multiplyWords_33 : decode cX0_multiplyWords 33 = .ok (.laload, 1) := by decide +kernel
theorem dX0_multiplyWords_34 : decode cX0_multiplyWords 34 = .ok (.aload_n 3, 1) := by decide +kernel
theorem dX0_multiplyWords_35 : decode cX0_multiplyWords 35 = .ok (.iload 8, 2) := by decide +kernel
theorem dX0_multiplyWords_37 : decode cX0_multiplyWords 37 = .ok (.laload, 1) := by decide +kernel
theorem dX0_multiplyWords_38 : decode cX0_multiplyWords 38 = .ok (.lmul, 1) := by decide +kernel
theorem dX0_multiplyWords_39 : decode cX0_multiplyWords 39 = .ok (.aload_n 0, 1) := by decide +kernel
theorem dX0_multiplyWords_40 : decode cX0_multiplyWords 40 = .ok (.getfield 30, 3) := by decide +kernel
theorem dX0_multiplyWords_43 : decode cX0_multiplyWords 43 = .ok (.iload 5, 2) := by decide +kernel
theorem dX0_multiplyWords_45 : decode cX0_multiplyWords 45 = .ok (.iload 8, 2) := by decide +kernel
theorem dX0_multiplyWords_47 : decode cX0_multiplyWords 47 = .ok (.iadd, 1) := by decide +kernel
theorem dX0_multiplyWords_48 : decode cX0_multiplyWords 48 = .ok (.laload, 1) := by decide +kernel
theorem dX0_multiplyWords_49 : decode cX0_multiplyWords 49 = .ok (.ladd, 1) := by decide +kernel
theorem dX0_multiplyWords_50 : decode cX0_multiplyWords 50 = .ok (.lload 6, 2) := by decide +kernel
theorem dX0_multiplyWords_52 : decode cX0_multiplyWords 52 = .ok (.ladd, 1) := by decide +kernel
theorem dX0_multiplyWords_53 : decode cX0_multiplyWords 53 = .ok (.lstore 9, 2) := by decide +kernel
theorem dX0_multiplyWords_55 : decode cX0_multiplyWords 55 = .ok (.aload_n 0, 1) := by decide +kernel
theorem dX0_multiplyWords_56 : decode cX0_multiplyWords 56 = .ok (.getfield 30, 3) := by decide +kernel
theorem dX0_multiplyWords_59 : decode cX0_multiplyWords 59 = .ok (.iload 5, 2) := by decide +kernel
theorem dX0_multiplyWords_61 : decode cX0_multiplyWords 61 = .ok (.iload 8, 2) := by decide +kernel
theorem dX0_multiplyWords_63 : decode cX0_multiplyWords 63 = .ok (.iadd, 1) := by decide +kernel
theorem dX0_multiplyWords_64 : decode cX0_multiplyWords 64 = .ok (.lload 9, 2) := by decide +kernel
theorem dX0_multiplyWords_66 : decode cX0_multiplyWords 66 = .ok (.ldc2_w 126, 3) := by decide +kernel
theorem dX0_multiplyWords_69 : decode cX0_multiplyWords 69 = .ok (.land, 1) := by decide +kernel
theorem dX0_multiplyWords_70 : decode cX0_multiplyWords 70 = .ok (.lastore, 1) := by decide +kernel
theorem dX0_multiplyWords_71 : decode cX0_multiplyWords 71 = .ok (.lload 9, 2) := by decide +kernel
theorem dX0_multiplyWords_73 : decode cX0_multiplyWords 73 = .ok (.bipush 32, 2) := by decide +kernel
theorem dX0_multiplyWords_75 : decode cX0_multiplyWords 75 = .ok (.lushr, 1) := by decide +kernel
theorem dX0_multiplyWords_76 : decode cX0_multiplyWords 76 = .ok (.lstore 6, 2) := by decide +kernel
theorem dX0_multiplyWords_78 : decode cX0_multiplyWords 78 = .ok (.iinc 8 1, 3) := by decide +kernel
theorem dX0_multiplyWords_81 : decode cX0_multiplyWords 81 = .ok (.goto (-58), 3) := by decide +kernel
theorem dX0_multiplyWords_84 : decode cX0_multiplyWords 84 = .ok (.aload_n 0, 1) := by decide +kernel
theorem dX0_multiplyWords_85 : decode cX0_multiplyWords 85 = .ok (.getfield 30, 3) := by decide +kernel
theorem dX0_multiplyWords_88 : decode cX0_multiplyWords 88 = .ok (.iload 5, 2) := by decide +kernel
theorem dX0_multiplyWords_90 : decode cX0_multiplyWords 90 = .ok (.iload 4, 2) := by decide +kernel
theorem dX0_multiplyWords_92 : decode cX0_multiplyWords 92 = .ok (.iadd, 1) := by decide +kernel
theorem dX0_multiplyWords_93 : decode cX0_multiplyWords 93 = .ok (.lload 6, 2) := by decide +kernel
theorem dX0_multiplyWords_95 : decode cX0_multiplyWords 95 = .ok (.lastore, 1) := by decide +kernel
theorem dX0_multiplyWords_96 : decode cX0_multiplyWords 96 = .ok (.iinc 5 1, 3) := by decide +kernel
theorem dX0_multiplyWords_99 : decode cX0_multiplyWords 99 = .ok (.goto (-88), 3) := by decide +kernel
theorem dX0_multiplyWords_102 : decode cX0_multiplyWords 102 = .ok (.return_, 1) := by decide +kernel
theorem dX0_addWords_0 : decode cX0_addWords 0 = .ok (.lconst 0, 1) := by decide +kernel
theorem dX0_addWords_1 : decode cX0_addWords 1 = .ok (.lstore_n 3, 1) := by decide +kernel
theorem dX0_addWords_2 : decode cX0_addWords 2 = .ok (.iconst 0, 1) := by decide +kernel
theorem dX0_addWords_3 : decode cX0_addWords 3 = .ok (.istore 5, 2) := by decide +kernel
theorem dX0_addWords_5 : decode cX0_addWords 5 = .ok (.iload 5, 2) := by decide +kernel
theorem dX0_addWords_7 : decode cX0_addWords 7 = .ok (.sipush 240, 3) := by decide +kernel
theorem dX0_addWords_10 : decode cX0_addWords 10 = .ok (.if_icmp .ge 41, 3) := by decide +kernel
theorem dX0_addWords_13 : decode cX0_addWords 13 = .ok (.aload_n 1, 1) := by decide +kernel
theorem dX0_addWords_14 : decode cX0_addWords 14 = .ok (.iload 5, 2) := by decide +kernel
theorem dX0_addWords_16 : decode cX0_addWords 16 = .ok (.laload, 1) := by decide +kernel
theorem dX0_addWords_17 : decode cX0_addWords 17 = .ok (.aload_n 2, 1) := by decide +kernel
theorem dX0_addWords_18 : decode cX0_addWords 18 = .ok (.iload 5, 2) := by decide +kernel
theorem dX0_addWords_20 : decode cX0_addWords 20 = .ok (.laload, 1) := by decide +kernel
theorem dX0_addWords_21 : decode cX0_addWords 21 = .ok (.ladd, 1) := by decide +kernel
theorem dX0_addWords_22 : decode cX0_addWords 22 = .ok (.lload_n 3, 1) := by decide +kernel
theorem dX0_addWords_23 : decode cX0_addWords 23 = .ok (.ladd, 1) := by decide +kernel
theorem dX0_addWords_24 : decode cX0_addWords 24 = .ok (.lstore 6, 2) := by decide +kernel
theorem dX0_addWords_26 : decode cX0_addWords 26 = .ok (.aload_n 0, 1) := by decide +kernel
theorem dX0_addWords_27 : decode cX0_addWords 27 = .ok (.getfield 30, 3) := by decide +kernel
theorem dX0_addWords_30 : decode cX0_addWords 30 = .ok (.iload 5, 2) := by decide +kernel
theorem dX0_addWords_32 : decode cX0_addWords 32 = .ok (.lload 6, 2) := by decide +kernel
theorem dX0_addWords_34 : decode cX0_addWords 34 = .ok (.ldc2_w 126, 3) := by decide +kernel
theorem dX0_addWords_37 : decode cX0_addWords 37 = .ok (.land, 1) := by decide +kernel
theorem dX0_addWords_38 : decode cX0_addWords 38 = .ok (.lastore, 1) := by decide +kernel
theorem dX0_addWords_39 : decode cX0_addWords 39 = .ok (.lload 6, 2) := by decide +kernel
theorem dX0_addWords_41 : decode cX0_addWords 41 = .ok (.bipush 32, 2) := by decide +kernel
theorem dX0_addWords_43 : decode cX0_addWords 43 = .ok (.lushr, 1) := by decide +kernel
theorem dX0_addWords_44 : decode cX0_addWords 44 = .ok (.lstore_n 3, 1) := by decide +kernel
theorem dX0_addWords_45 : decode cX0_addWords 45 = .ok (.iinc 5 1, 3) := by decide +kernel
theorem dX0_addWords_48 : decode cX0_addWords 48 = .ok (.goto (-43), 3) := by decide +kernel
theorem dX0_addWords_51 : decode cX0_addWords 51 = .ok (.lload_n 3, 1) := by decide +kernel
theorem dX0_addWords_52 : decode cX0_addWords 52 = .ok (.lreturn, 1) := by decide +kernel
end
section
set_option maxRecDepth 20000 in
theorem ggX1_init_X1_rootOf : GoodIn wsX1_init wsX1_rootOf := goodIn_r _ [16, 17, 18, 15, 19, 20, 21, 22, 23] (by decide +kernel) (by decide +kernel)
set_option maxRecDepth 20000 in
theorem gX1_init_X1_rootOf : GoodIn wsX1_init (va_wsS RX1 31 yX1_rootOf wsX1_rootOf) := goodIn_app (goodIn_of _ (by decide +kernel)) ggX1_init_X1_rootOf
theorem dX1_init_0 : decode cX1_init 0 = .ok (.aload_n 0, 1) := by decide +kernel
theorem dX1_init_1 : decode cX1_init 1 = .ok (.invokespecial 1, 3) := by decide +kernel
theorem dX1_init_4 : decode cX1_init 4 = .ok (.aload_n 0, 1) := by decide +kernel
theorem dX1_init_5 : decode cX1_init 5 = .ok (.sipush 3072, 3) := by decide +kernel
theorem dX1_init_8 : decode cX1_init 8 = .ok (.newarray .long, 2) := by decide +kernel
theorem dX1_init_10 : decode cX1_init 10 = .ok (.putfield 7, 3) := by decide +kernel
theorem dX1_init_13 : decode cX1_init 13 = .ok (.aload_n 0, 1) := by decide +kernel
theorem dX1_init_14 : decode cX1_init 14 = .ok (.sipush 1440, 3) := by decide +kernel
theorem dX1_init_17 : decode cX1_init 17 = .ok (.newarray .long, 2) := by decide +kernel
theorem dX1_init_19 : decode cX1_init 19 = .ok (.putfield 13, 3) := by decide +kernel
theorem dX1_init_22 : decode cX1_init 22 = .ok (.aload_n 0, 1) := by decide +kernel
theorem dX1_init_23 : decode cX1_init 23 = .ok (.sipush 512, 3) := by decide +kernel
theorem dX1_init_26 : decode cX1_init 26 = .ok (.newarray .long, 2) := by decide +kernel
theorem dX1_init_28 : decode cX1_init 28 = .ok (.putfield 16, 3) := by decide +kernel
theorem dX1_init_31 : decode cX1_init 31 = .ok (.aload_n 0, 1) := by decide +kernel
theorem dX1_init_32 : decode cX1_init 32 = .ok (.sipush 512, 3) := by decide +kernel
theorem dX1_init_35 : decode cX1_init 35 = .ok (.newarray .long, 2) := by decide +kernel
theorem dX1_init_37 : decode cX1_init 37 = .ok (.putfield 19, 3) := by decide +kernel
theorem dX1_init_40 : decode cX1_init 40 = .ok (.aload_n 0, 1) := by decide +kernel
theorem dX1_init_41 : decode cX1_init 41 = .ok (.sipush 241, 3) := by decide +kernel
theorem dX1_init_44 : decode cX1_init 44 = .ok (.newarray .long, 2) := by decide +kernel
theorem dX1_init_46 : decode cX1_init 46 = .ok (.putfield 22, 3) := by decide +kernel
theorem dX1_init_49 : decode cX1_init 49 = .ok (.aload_n 0, 1) := by decide +kernel
theorem dX1_init_50 : decode cX1_init 50 = .ok (.ldc2_w 25, 3) := by decide +kernel
theorem dX1_init_53 : decode cX1_init 53 = .ok (.putfield 27, 3) := by decide +kernel
theorem dX1_init_56 : decode cX1_init 56 = .ok (.aload_n 0, 1) := by decide +kernel
theorem dX1_init_57 : decode cX1_init 57 = .ok (.aload_n 0, 1) := by decide +kernel
theorem dX1_init_58 : decode cX1_init 58 = .ok (.getfield 27, 3) := by decide +kernel
theorem dX1_init_61 : decode cX1_init 61 = .ok (.invokestatic 31, 3) := by decide +kernel
theorem dX1_init_64 : decode cX1_init 64 = .ok (.putfield 35, 3) := by decide +kernel
theorem dX1_init_67 : decode cX1_init 67 = .ok (.return_, 1) := by decide +kernel
theorem dX1_thrown_0 : decode cX1_thrown 0 = .ok (.aload_n 0, 1) := by decide +kernel
theorem dX1_thrown_1 : decode cX1_thrown 1 = .ok (.getfield 38, 3) := by decide +kernel
theorem dX1_thrown_4 : decode cX1_thrown 4 = .ok (.ireturn, 1) := by decide +kernel
theorem dX1_rest_0 : decode cX1_rest 0 = .ok (.lload_n 1, 1) := by decide +kernel
theorem dX1_rest_1 : decode cX1_rest 1 = .ok (.aload_n 0, 1) := by decide +kernel
theorem dX1_rest_2 : decode cX1_rest 2 = .ok (.getfield 27, 3) := by decide +kernel
theorem dX1_rest_5 : decode cX1_rest 5 = .ok (.lrem, 1) := by decide +kernel
theorem dX1_rest_6 : decode cX1_rest 6 = .ok (.lstore_n 3, 1) := by decide +kernel
theorem dX1_rest_7 : decode cX1_rest 7 = .ok (.lload_n 3, 1) := by decide +kernel
theorem dX1_rest_8 : decode cX1_rest 8 = .ok (.lconst 0, 1) := by decide +kernel
theorem dX1_rest_9 : decode cX1_rest 9 = .ok (.lcmp, 1) := by decide +kernel
theorem dX1_rest_10 : decode cX1_rest 10 = .ok (.ifCond .ge 12, 3) := by decide +kernel
theorem dX1_rest_13 : decode cX1_rest 13 = .ok (.lload_n 3, 1) := by decide +kernel
theorem dX1_rest_14 : decode cX1_rest 14 = .ok (.aload_n 0, 1) := by decide +kernel
theorem dX1_rest_15 : decode cX1_rest 15 = .ok (.getfield 27, 3) := by decide +kernel
theorem dX1_rest_18 : decode cX1_rest 18 = .ok (.ladd, 1) := by decide +kernel
theorem dX1_rest_19 : decode cX1_rest 19 = .ok (.goto 4, 3) := by decide +kernel
theorem dX1_rest_22 : decode cX1_rest 22 = .ok (.lload_n 3, 1) := by decide +kernel
theorem dX1_rest_23 : decode cX1_rest 23 = .ok (.lreturn, 1) := by decide +kernel
theorem dX1_raise_0 : decode cX1_raise 0 = .ok (.lconst 1, 1) := by decide +kernel
theorem dX1_raise_1 : decode cX1_raise 1 = .ok (.lstore 6, 2) := by decide +kernel
theorem dX1_raise_3 : decode cX1_raise 3 = .ok (.lload_n 0, 1) := by decide +kernel
theorem dX1_raise_4 : decode cX1_raise 4 = .ok (.lload 4, 2) := by decide +kernel
theorem dX1_raise_6 : decode cX1_raise 6 = .ok (.lrem, 1) := by decide +kernel
theorem dX1_raise_7 : decode cX1_raise 7 = .ok (.lstore 8, 2) := by decide +kernel
theorem dX1_raise_9 : decode cX1_raise 9 = .ok (.lload_n 2, 1) := by decide +kernel
theorem dX1_raise_10 : decode cX1_raise 10 = .ok (.lstore 10, 2) := by decide +kernel
theorem dX1_raise_12 : decode cX1_raise 12 = .ok (.lload 10, 2) := by decide +kernel
theorem dX1_raise_14 : decode cX1_raise 14 = .ok (.lconst 0, 1) := by decide +kernel
theorem dX1_raise_15 : decode cX1_raise 15 = .ok (.lcmp, 1) := by decide +kernel
theorem dX1_raise_16 : decode cX1_raise 16 = .ok (.ifCond .le 50, 3) := by decide +kernel
theorem dX1_raise_19 : decode cX1_raise 19 = .ok (.lload 10, 2) := by decide +kernel
theorem dX1_raise_21 : decode cX1_raise 21 = .ok (.ldc2_w 42, 3) := by decide +kernel
theorem dX1_raise_24 : decode cX1_raise 24 = .ok (.lrem, 1) := by decide +kernel
theorem dX1_raise_25 : decode cX1_raise 25 = .ok (.lconst 1, 1) := by decide +kernel
theorem dX1_raise_26 : decode cX1_raise 26 = .ok (.lcmp, 1) := by decide +kernel
theorem dX1_raise_27 : decode cX1_raise 27 = .ok (.ifCond .ne 14, 3) := by decide +kernel
theorem dX1_raise_30 : decode cX1_raise 30 = .ok (.lload 6, 2) := by decide +kernel
theorem dX1_raise_32 : decode cX1_raise 32 = .ok (.lload 8, 2) := by decide +kernel
theorem dX1_raise_34 : decode cX1_raise 34 = .ok (.lmul, 1) := by decide +kernel
theorem dX1_raise_35 : decode cX1_raise 35 = .ok (.lload 4, 2) := by decide +kernel
theorem dX1_raise_37 : decode cX1_raise 37 = .ok (.lrem, 1) := by decide +kernel
theorem dX1_raise_38 : decode cX1_raise 38 = .ok (.goto 5, 3) := by decide +kernel
theorem dX1_raise_41 : decode cX1_raise 41 = .ok (.lload 6, 2) := by decide +kernel
theorem dX1_raise_43 : decode cX1_raise 43 = .ok (.lstore 6, 2) := by decide +kernel
theorem dX1_raise_45 : decode cX1_raise 45 = .ok (.lload 8, 2) := by decide +kernel
theorem dX1_raise_47 : decode cX1_raise 47 = .ok (.lload 8, 2) := by decide +kernel
theorem dX1_raise_49 : decode cX1_raise 49 = .ok (.lmul, 1) := by decide +kernel
theorem dX1_raise_50 : decode cX1_raise 50 = .ok (.lload 4, 2) := by decide +kernel
theorem dX1_raise_52 : decode cX1_raise 52 = .ok (.lrem, 1) := by decide +kernel
theorem dX1_raise_53 : decode cX1_raise 53 = .ok (.lstore 8, 2) := by decide +kernel
theorem dX1_raise_55 : decode cX1_raise 55 = .ok (.lload 10, 2) := by decide +kernel
theorem dX1_raise_57 : decode cX1_raise 57 = .ok (.ldc2_w 42, 3) := by decide +kernel
theorem dX1_raise_60 : decode cX1_raise 60 = .ok (.ldiv, 1) := by decide +kernel
theorem dX1_raise_61 : decode cX1_raise 61 = .ok (.lstore 10, 2) := by decide +kernel
theorem dX1_raise_63 : decode cX1_raise 63 = .ok (.goto (-51), 3) := by decide +kernel
theorem dX1_raise_66 : decode cX1_raise 66 = .ok (.lload 6, 2) := by decide +kernel
theorem dX1_raise_68 : decode cX1_raise 68 = .ok (.lreturn, 1) := by decide +kernel
theorem dX1_isPrime_0 : decode cX1_isPrime 0 = .ok (.lload_n 0, 1) := by decide +kernel
theorem dX1_isPrime_1 : decode cX1_isPrime 1 = .ok (.ldc2_w 42, 3) := by decide +kernel
theorem dX1_isPrime_4 : decode cX1_isPrime 4 = .ok (.lcmp, 1) := by decide +kernel
theorem dX1_isPrime_5 : decode cX1_isPrime 5 = .ok (.ifCond .ge 5, 3) := by decide +kernel
theorem dX1_isPrime_8 : decode cX1_isPrime 8 = .ok (.iconst 0, 1) := by decide +kernel
theorem dX1_isPrime_9 : decode cX1_isPrime 9 = .ok (.ireturn, 1) := by decide +kernel
theorem dX1_isPrime_10 : decode cX1_isPrime 10 = .ok (.ldc2_w 42, 3) := by decide +kernel
theorem dX1_isPrime_13 : decode cX1_isPrime 13 = .ok (.lstore_n 2, 1) := by decide +kernel
theorem dX1_isPrime_14 : decode cX1_isPrime 14 = .ok (.lload_n 2, 1) := by decide +kernel
theorem dX1_isPrime_15 : decode cX1_isPrime 15 = .ok (.lload_n 2, 1) := by decide +kernel
theorem dX1_isPrime_16 : decode cX1_isPrime 16 = .ok (.lmul, 1) := by decide +kernel
theorem dX1_isPrime_17 : decode cX1_isPrime 17 = .ok (.lload_n 0, 1) := by decide +kernel
theorem dX1_isPrime_18 : decode cX1_isPrime 18 = .ok (.lcmp, 1) := by decide +kernel
theorem dX1_isPrime_19 : decode cX1_isPrime 19 = .ok (.ifCond .gt 20, 3) := by decide +kernel
theorem dX1_isPrime_22 : decode cX1_isPrime 22 = .ok (.lload_n 0, 1) := by decide +kernel
theorem dX1_isPrime_23 : decode cX1_isPrime 23 = .ok (.lload_n 2, 1) := by decide +kernel
theorem dX1_isPrime_24 : decode cX1_isPrime 24 = .ok (.lrem, 1) := by decide +kernel
theorem dX1_isPrime_25 : decode cX1_isPrime 25 = .ok (.lconst 0, 1) := by decide +kernel
theorem dX1_isPrime_26 : decode cX1_isPrime 26 = .ok (.lcmp, 1) := by decide +kernel
theorem dX1_isPrime_27 : decode cX1_isPrime 27 = .ok (.ifCond .ne 5, 3) := by decide +kernel
theorem dX1_isPrime_30 : decode cX1_isPrime 30 = .ok (.iconst 0, 1) := by decide +kernel
theorem dX1_isPrime_31 : decode cX1_isPrime 31 = .ok (.ireturn, 1) := by decide +kernel
theorem dX1_isPrime_32 : decode cX1_isPrime 32 = .ok (.lload_n 2, 1) := by decide +kernel
theorem dX1_isPrime_33 : decode cX1_isPrime 33 = .ok (.lconst 1, 1) := by decide +kernel
theorem dX1_isPrime_34 : decode cX1_isPrime 34 = .ok (.ladd, 1) := by decide +kernel
theorem dX1_isPrime_35 : decode cX1_isPrime 35 = .ok (.lstore_n 2, 1) := by decide +kernel
theorem dX1_isPrime_36 : decode cX1_isPrime 36 = .ok (.goto (-22), 3) := by decide +kernel
theorem dX1_isPrime_39 : decode cX1_isPrime 39 = .ok (.iconst 1, 1) := by decide +kernel
theorem dX1_isPrime_40 : decode cX1_isPrime 40 = .ok (.ireturn, 1) := by decide +kernel
set_option maxRecDepth 20000 in
theorem ggX1_isRoot_X1_raise : GoodIn wsX1_isRoot wsX1_raise := goodIn_r _ [5, 1] (by decide +kernel) (by decide +kernel)
set_option maxRecDepth 20000 in
theorem gX1_isRoot_X1_raise : GoodIn wsX1_isRoot (va_wsS RX1 44 yX1_raise wsX1_raise) := goodIn_app (goodIn_of _ (by decide +kernel)) ggX1_isRoot_X1_raise
theorem dX1_isRoot_0 : decode cX1_isRoot 0 = .ok (.lload_n 2, 1) := by decide +kernel
theorem dX1_isRoot_1 : decode cX1_isRoot 1 = .ok (.lconst 1, 1) := by decide +kernel
theorem dX1_isRoot_2 : decode cX1_isRoot 2 = .ok (.lsub, 1) := by decide +kernel
theorem dX1_isRoot_3 : decode cX1_isRoot 3 = .ok (.lstore 4, 2) := by decide +kernel
theorem dX1_isRoot_5 : decode cX1_isRoot 5 = .ok (.iconst 1, 1) := by decide +kernel
theorem dX1_isRoot_6 : decode cX1_isRoot 6 = .ok (.istore 6, 2) := by decide +kernel
theorem dX1_isRoot_8 : decode cX1_isRoot 8 = .ok (.ldc2_w 42, 3) := by decide +kernel
theorem dX1_isRoot_11 : decode cX1_isRoot 11 = .ok (.lstore 7, 2) := by decide +kernel
theorem dX1_isRoot_13 : decode cX1_isRoot 13 = .ok (.lload 7, 2) := by decide +kernel
theorem dX1_isRoot_15 : decode cX1_isRoot 15 = .ok (.lload 7, 2) := by decide +kernel
theorem dX1_isRoot_17 : decode cX1_isRoot 17 = .ok (.lmul, 1) := by decide +kernel
theorem dX1_isRoot_18 : decode cX1_isRoot 18 = .ok (.lload 4, 2) := by decide +kernel
theorem dX1_isRoot_20 : decode cX1_isRoot 20 = .ok (.lcmp, 1) := by decide +kernel
theorem dX1_isRoot_21 : decode cX1_isRoot 21 = .ok (.ifCond .gt 70, 3) := by decide +kernel
theorem dX1_isRoot_24 : decode cX1_isRoot 24 = .ok (.iload 6, 2) := by decide +kernel
theorem dX1_isRoot_26 : decode cX1_isRoot 26 = .ok (.ifCond .eq 65, 3) := by decide +kernel
theorem dX1_isRoot_29 : decode cX1_isRoot 29 = .ok (.lload 4, 2) := by decide +kernel
theorem dX1_isRoot_31 : decode cX1_isRoot 31 = .ok (.lload 7, 2) := by decide +kernel
theorem dX1_isRoot_33 : decode cX1_isRoot 33 = .ok (.lrem, 1) := by decide +kernel
theorem dX1_isRoot_34 : decode cX1_isRoot 34 = .ok (.lconst 0, 1) := by decide +kernel
theorem dX1_isRoot_35 : decode cX1_isRoot 35 = .ok (.lcmp, 1) := by decide +kernel
theorem dX1_isRoot_36 : decode cX1_isRoot 36 = .ok (.ifCond .ne 46, 3) := by decide +kernel
theorem dX1_isRoot_39 : decode cX1_isRoot 39 = .ok (.lload_n 0, 1) := by decide +kernel
theorem dX1_isRoot_40 : decode cX1_isRoot 40 = .ok (.lload_n 2, 1) := by decide +kernel
theorem dX1_isRoot_41 : decode cX1_isRoot 41 = .ok (.lconst 1, 1) := by decide +kernel
theorem dX1_isRoot_42 : decode cX1_isRoot 42 = .ok (.lsub, 1) := by decide +kernel
theorem dX1_isRoot_43 : decode cX1_isRoot 43 = .ok (.lload 7, 2) := by decide +kernel
theorem dX1_isRoot_45 : decode cX1_isRoot 45 = .ok (.ldiv, 1) := by decide +kernel
theorem dX1_isRoot_46 : decode cX1_isRoot 46 = .ok (.lload_n 2, 1) := by decide +kernel
theorem dX1_isRoot_47 : decode cX1_isRoot 47 = .ok (.invokestatic 44, 3) := by decide +kernel
theorem dX1_isRoot_50 : decode cX1_isRoot 50 = .ok (.lconst 1, 1) := by decide +kernel
theorem dX1_isRoot_51 : decode cX1_isRoot 51 = .ok (.lcmp, 1) := by decide +kernel
theorem dX1_isRoot_52 : decode cX1_isRoot 52 = .ok (.ifCond .eq 7, 3) := by decide +kernel
theorem dX1_isRoot_55 : decode cX1_isRoot 55 = .ok (.iconst 1, 1) := by decide +kernel
theorem dX1_isRoot_56 : decode cX1_isRoot 56 = .ok (.goto 4, 3) := by decide +kernel
theorem dX1_isRoot_59 : decode cX1_isRoot 59 = .ok (.iconst 0, 1) := by decide +kernel
theorem dX1_isRoot_60 : decode cX1_isRoot 60 = .ok (.istore 6, 2) := by decide +kernel
theorem dX1_isRoot_62 : decode cX1_isRoot 62 = .ok (.lload 4, 2) := by decide +kernel
theorem dX1_isRoot_64 : decode cX1_isRoot 64 = .ok (.lload 7, 2) := by decide +kernel
theorem dX1_isRoot_66 : decode cX1_isRoot 66 = .ok (.lrem, 1) := by decide +kernel
theorem dX1_isRoot_67 : decode cX1_isRoot 67 = .ok (.lconst 0, 1) := by decide +kernel
theorem dX1_isRoot_68 : decode cX1_isRoot 68 = .ok (.lcmp, 1) := by decide +kernel
theorem dX1_isRoot_69 : decode cX1_isRoot 69 = .ok (.ifCond .ne 13, 3) := by decide +kernel
theorem dX1_isRoot_72 : decode cX1_isRoot 72 = .ok (.lload 4, 2) := by decide +kernel
theorem dX1_isRoot_74 : decode cX1_isRoot 74 = .ok (.lload 7, 2) := by decide +kernel
theorem dX1_isRoot_76 : decode cX1_isRoot 76 = .ok (.ldiv, 1) := by decide +kernel
theorem dX1_isRoot_77 : decode cX1_isRoot 77 = .ok (.lstore 4, 2) := by decide +kernel
theorem dX1_isRoot_79 : decode cX1_isRoot 79 = .ok (.goto (-17), 3) := by decide +kernel
theorem dX1_isRoot_82 : decode cX1_isRoot 82 = .ok (.lload 7, 2) := by decide +kernel
theorem dX1_isRoot_84 : decode cX1_isRoot 84 = .ok (.lconst 1, 1) := by decide +kernel
theorem dX1_isRoot_85 : decode cX1_isRoot 85 = .ok (.ladd, 1) := by decide +kernel
theorem dX1_isRoot_86 : decode cX1_isRoot 86 = .ok (.lstore 7, 2) := by decide +kernel
theorem dX1_isRoot_88 : decode cX1_isRoot 88 = .ok (.goto (-75), 3) := by decide +kernel
theorem dX1_isRoot_91 : decode cX1_isRoot 91 = .ok (.iload 6, 2) := by decide +kernel
theorem dX1_isRoot_93 : decode cX1_isRoot 93 = .ok (.ifCond .eq 30, 3) := by decide +kernel
theorem dX1_isRoot_96 : decode cX1_isRoot 96 = .ok (.lload 4, 2) := by decide +kernel
theorem dX1_isRoot_98 : decode cX1_isRoot 98 = .ok (.lconst 1, 1) := by decide +kernel
theorem dX1_isRoot_99 : decode cX1_isRoot 99 = .ok (.lcmp, 1) := by decide +kernel
theorem dX1_isRoot_100 : decode cX1_isRoot 100 = .ok (.ifCond .eq 19, 3) := by decide +kernel
theorem dX1_isRoot_103 : decode cX1_isRoot 103 = .ok (.lload_n 0, 1) := by decide +kernel
theorem dX1_isRoot_104 : decode cX1_isRoot 104 = .ok (.lload_n 2, 1) := by decide +kernel
theorem dX1_isRoot_105 : decode cX1_isRoot 105 = .ok (.lconst 1, 1) := by decide +kernel
theorem dX1_isRoot_106 : decode cX1_isRoot 106 = .ok (.lsub, 1) := by decide +kernel
theorem dX1_isRoot_107 : decode cX1_isRoot 107 = .ok (.lload 4, 2) := by decide +kernel
theorem dX1_isRoot_109 : decode cX1_isRoot 109 = .ok (.ldiv, 1) := by decide +kernel
theorem dX1_isRoot_110 : decode cX1_isRoot 110 = .ok (.lload_n 2, 1) := by decide +kernel
theorem dX1_isRoot_111 : decode cX1_isRoot 111 = .ok (.invokestatic 44, 3) := by decide +kernel
theorem dX1_isRoot_114 : decode cX1_isRoot 114 = .ok (.lconst 1, 1) := by decide +kernel
theorem dX1_isRoot_115 : decode cX1_isRoot 115 = .ok (.lcmp, 1) := by decide +kernel
theorem dX1_isRoot_116 : decode cX1_isRoot 116 = .ok (.ifCond .eq 7, 3) := by decide +kernel
theorem dX1_isRoot_119 : decode cX1_isRoot 119 = .ok (.iconst 1, 1) := by decide +kernel
theorem dX1_isRoot_120 : decode cX1_isRoot 120 = .ok (.goto 4, 3) := by decide +kernel
theorem dX1_isRoot_123 : decode cX1_isRoot 123 = .ok (.iconst 0, 1) := by decide +kernel
theorem dX1_isRoot_124 : decode cX1_isRoot 124 = .ok (.ireturn, 1) := by decide +kernel
set_option maxRecDepth 20000 in
theorem ggX1_rootOf_X1_isRoot : GoodIn wsX1_rootOf wsX1_isRoot := goodIn_r _ [4, 5, 6, 7, 3, 8] (by decide +kernel) (by decide +kernel)
set_option maxRecDepth 20000 in
theorem gX1_rootOf_X1_isRoot : GoodIn wsX1_rootOf (va_wsS RX1 48 yX1_isRoot wsX1_isRoot) := goodIn_app (goodIn_of _ (by decide +kernel)) ggX1_rootOf_X1_isRoot
theorem dX1_rootOf_0 : decode cX1_rootOf 0 = .ok (.lconst 1, 1) := by decide +kernel
theorem dX1_rootOf_1 : decode cX1_rootOf 1 = .ok (.lstore_n 2, 1) := by decide +kernel
theorem dX1_rootOf_2 : decode cX1_rootOf 2 = .ok (.lload_n 2, 1) := by decide +kernel
theorem dX1_rootOf_3 : decode cX1_rootOf 3 = .ok (.lload_n 0, 1) := by decide +kernel
theorem dX1_rootOf_4 : decode cX1_rootOf 4 = .ok (.invokestatic 48, 3) := by decide +kernel
theorem dX1_rootOf_7 : decode cX1_rootOf 7 = .ok (.ifCond .ne 10, 3) := by decide +kernel
theorem dX1_rootOf_10 : decode cX1_rootOf 10 = .ok (.lload_n 2, 1) := by decide +kernel
theorem dX1_rootOf_11 : decode cX1_rootOf 11 = .ok (.lconst 1, 1) := by decide +kernel
theorem dX1_rootOf_12 : decode cX1_rootOf 12 = .ok (.ladd, 1) := by decide +kernel
theorem dX1_rootOf_13 : decode cX1_rootOf 13 = .ok (.lstore_n 2, 1) := by decide +kernel
theorem dX1_rootOf_14 : decode cX1_rootOf 14 = .ok (.goto (-12), 3) := by decide +kernel
theorem dX1_rootOf_17 : decode cX1_rootOf 17 = .ok (.lload_n 2, 1) := by decide +kernel
theorem dX1_rootOf_18 : decode cX1_rootOf 18 = .ok (.lreturn, 1) := by decide +kernel
set_option maxRecDepth 20000 in
theorem ggX1_field_X1_isPrime : GoodIn wsX1_field wsX1_isPrime := goodIn_r _ [10, 11] (by decide +kernel) (by decide +kernel)
set_option maxRecDepth 20000 in
theorem gX1_field_X1_isPrime : GoodIn wsX1_field (va_wsS RX1 56 yX1_isPrime wsX1_isPrime) := goodIn_app (goodIn_of _ (by decide +kernel)) ggX1_field_X1_isPrime
set_option maxRecDepth 20000 in
theorem ggX1_field_X1_rootOf : GoodIn wsX1_field wsX1_rootOf := goodIn_r _ [14, 15, 16, 9, 17, 11, 18, 19, 20] (by decide +kernel) (by decide +kernel)
set_option maxRecDepth 20000 in
theorem gX1_field_X1_rootOf : GoodIn wsX1_field (va_wsS RX1 31 yX1_rootOf wsX1_rootOf) := goodIn_app (goodIn_of _ (by decide +kernel)) ggX1_field_X1_rootOf
theorem dX1_field_0 : decode cX1_field 0 = .ok (.aload_n 0, 1) := by decide +kernel
theorem dX1_field_1 : decode cX1_field 1 = .ok (.lload_n 1, 1) := by decide +kernel
theorem dX1_field_2 : decode cX1_field 2 = .ok (.lconst 1, 1) := by decide +kernel
theorem dX1_field_3 : decode cX1_field 3 = .ok (.lcmp, 1) := by decide +kernel
theorem dX1_field_4 : decode cX1_field 4 = .ok (.ifCond .le 34, 3) := by decide +kernel
theorem dX1_field_7 : decode cX1_field 7 = .ok (.lload_n 1, 1) := by decide +kernel
theorem dX1_field_8 : decode cX1_field 8 = .ok (.ldc2_w 52, 3) := by decide +kernel
theorem dX1_field_11 : decode cX1_field 11 = .ok (.lcmp, 1) := by decide +kernel
theorem dX1_field_12 : decode cX1_field 12 = .ok (.ifCond .gt 26, 3) := by decide +kernel
theorem dX1_field_15 : decode cX1_field 15 = .ok (.lload_n 1, 1) := by decide +kernel
theorem dX1_field_16 : decode cX1_field 16 = .ok (.lconst 1, 1) := by decide +kernel
theorem dX1_field_17 : decode cX1_field 17 = .ok (.lsub, 1) := by decide +kernel
theorem dX1_field_18 : decode cX1_field 18 = .ok (.ldc2_w 54, 3) := by decide +kernel
theorem dX1_field_21 : decode cX1_field 21 = .ok (.lrem, 1) := by decide +kernel
theorem dX1_field_22 : decode cX1_field 22 = .ok (.lconst 0, 1) := by decide +kernel
theorem dX1_field_23 : decode cX1_field 23 = .ok (.lcmp, 1) := by decide +kernel
theorem dX1_field_24 : decode cX1_field 24 = .ok (.ifCond .ne 14, 3) := by decide +kernel
theorem dX1_field_27 : decode cX1_field 27 = .ok (.lload_n 1, 1) := by decide +kernel
theorem dX1_field_28 : decode cX1_field 28 = .ok (.invokestatic 56, 3) := by decide +kernel
theorem dX1_field_31 : decode cX1_field 31 = .ok (.ifCond .eq 7, 3) := by decide +kernel
theorem dX1_field_34 : decode cX1_field 34 = .ok (.iconst 0, 1) := by decide +kernel
theorem dX1_field_35 : decode cX1_field 35 = .ok (.goto 4, 3) := by decide +kernel
theorem dX1_field_38 : decode cX1_field 38 = .ok (.iconst 1, 1) := by decide +kernel
theorem dX1_field_39 : decode cX1_field 39 = .ok (.putfield 38, 3) := by decide +kernel
theorem dX1_field_42 : decode cX1_field 42 = .ok (.aload_n 0, 1) := by decide +kernel
theorem dX1_field_43 : decode cX1_field 43 = .ok (.getfield 38, 3) := by decide +kernel
theorem dX1_field_46 : decode cX1_field 46 = .ok (.ifCond .le 5, 3) := by decide +kernel
theorem dX1_field_49 : decode cX1_field 49 = .ok (.lconst 0, 1) := by decide +kernel
theorem dX1_field_50 : decode cX1_field 50 = .ok (.lreturn, 1) := by decide +kernel
theorem dX1_field_51 : decode cX1_field 51 = .ok (.aload_n 0, 1) := by decide +kernel
theorem dX1_field_52 : decode cX1_field 52 = .ok (.lload_n 1, 1) := by decide +kernel
theorem dX1_field_53 : decode cX1_field 53 = .ok (.putfield 27, 3) := by decide +kernel
theorem dX1_field_56 : decode cX1_field 56 = .ok (.aload_n 0, 1) := by decide +kernel
theorem dX1_field_57 : decode cX1_field 57 = .ok (.lload_n 1, 1) := by decide +kernel
theorem dX1_field_58 : decode cX1_field 58 = .ok (.invokestatic 31, 3) := by decide +kernel
theorem dX1_field_61 : decode cX1_field 61 = .ok (.putfield 35, 3) := by decide +kernel
theorem dX1_field_64 : decode cX1_field 64 = .ok (.iconst 0, 1) := by decide +kernel
theorem dX1_field_65 : decode cX1_field 65 = .ok (.istore_n 3, 1) := by decide +kernel
theorem dX1_field_66 : decode cX1_field 66 = .ok (.iload_n 3, 1) := by decide +kernel
theorem dX1_field_67 : decode cX1_field 67 = .ok (.sipush 3072, 3) := by decide +kernel
theorem dX1_field_70 : decode cX1_field 70 = .ok (.if_icmp .ge 16, 3) := by decide +kernel
theorem dX1_field_73 : decode cX1_field 73 = .ok (.aload_n 0, 1) := by decide +kernel
theorem dX1_field_74 : decode cX1_field 74 = .ok (.getfield 7, 3) := by decide +kernel
theorem dX1_field_77 : decode cX1_field 77 = .ok (.iload_n 3, 1) := by decide +kernel
theorem dX1_field_78 : decode cX1_field 78 = .ok (.lconst 0, 1) := by decide +kernel
theorem dX1_field_79 : decode cX1_field 79 = .ok (.lastore, 1) := by decide +kernel
theorem dX1_field_80 : decode cX1_field 80 = .ok (.iinc 3 1, 3) := by decide +kernel
theorem dX1_field_83 : decode cX1_field 83 = .ok (.goto (-17), 3) := by decide +kernel
theorem dX1_field_86 : decode cX1_field 86 = .ok (.aload_n 0, 1) := by decide +kernel
theorem dX1_field_87 : decode cX1_field 87 = .ok (.getfield 35, 3) := by decide +kernel
theorem dX1_field_90 : decode cX1_field 90 = .ok (.lreturn, 1) := by decide +kernel
set_option maxRecDepth 20000 in
theorem ggX1_times_X1_rest : GoodIn wsX1_times wsX1_rest := goodIn_r _ [7, 2, 8, 9, 10, 11, 12, 13, 14, 15] (by decide +kernel) (by decide +kernel)
set_option maxRecDepth 20000 in
theorem gX1_times_X1_rest : GoodIn wsX1_times (wsV RX1 60 RX1 yX1_rest wsX1_rest) := goodIn_app (goodIn_of _ (by decide +kernel)) ggX1_times_X1_rest
theorem dX1_times_0 : decode cX1_times 0 = .ok (.aload_n 0, 1) := by decide +kernel
theorem dX1_times_1 : decode cX1_times 1 = .ok (.iconst 0, 1) := by decide +kernel
theorem dX1_times_2 : decode cX1_times 2 = .ok (.putfield 38, 3) := by decide +kernel
theorem dX1_times_5 : decode cX1_times 5 = .ok (.aload_n 0, 1) := by decide +kernel
theorem dX1_times_6 : decode cX1_times 6 = .ok (.lload_n 1, 1) := by decide +kernel
theorem dX1_times_7 : decode cX1_times 7 = .ok (.invokevirtual 60, 3) := by decide +kernel
theorem dX1_times_10 : decode cX1_times 10 = .ok (.aload_n 0, 1) := by decide +kernel
theorem dX1_times_11 : decode cX1_times 11 = .ok (.lload_n 3, 1) := by decide +kernel
theorem dX1_times_12 : decode cX1_times 12 = .ok (.invokevirtual 60, 3) := by decide +kernel
theorem dX1_times_15 : decode cX1_times 15 = .ok (.lmul, 1) := by decide +kernel
theorem dX1_times_16 : decode cX1_times 16 = .ok (.aload_n 0, 1) := by decide +kernel
theorem dX1_times_17 : decode cX1_times 17 = .ok (.getfield 27, 3) := by decide +kernel
theorem dX1_times_20 : decode cX1_times 20 = .ok (.lrem, 1) := by decide +kernel
theorem dX1_times_21 : decode cX1_times 21 = .ok (.lreturn, 1) := by decide +kernel
set_option maxRecDepth 20000 in
theorem ggX1_power_X1_rest : GoodIn wsX1_power wsX1_rest := goodIn_r _ [7, 2, 12, 13, 14, 15, 16, 17, 18, 19] (by decide +kernel) (by decide +kernel)
set_option maxRecDepth 20000 in
theorem gX1_power_X1_rest : GoodIn wsX1_power (wsV RX1 60 RX1 yX1_rest wsX1_rest) := goodIn_app (goodIn_of _ (by decide +kernel)) ggX1_power_X1_rest
set_option maxRecDepth 20000 in
theorem ggX1_power_X1_raise : GoodIn wsX1_power wsX1_raise := goodIn_r _ [10, 11] (by decide +kernel) (by decide +kernel)
set_option maxRecDepth 20000 in
theorem gX1_power_X1_raise : GoodIn wsX1_power (va_wsS RX1 44 yX1_raise wsX1_raise) := goodIn_app (goodIn_of _ (by decide +kernel)) ggX1_power_X1_raise
theorem dX1_power_0 : decode cX1_power 0 = .ok (.aload_n 0, 1) := by decide +kernel
theorem dX1_power_1 : decode cX1_power 1 = .ok (.lload_n 3, 1) := by decide +kernel
theorem dX1_power_2 : decode cX1_power 2 = .ok (.lconst 0, 1) := by decide +kernel
theorem dX1_power_3 : decode cX1_power 3 = .ok (.lcmp, 1) := by decide +kernel
theorem dX1_power_4 : decode cX1_power 4 = .ok (.ifCond .ge 7, 3) := by decide +kernel
theorem dX1_power_7 : decode cX1_power 7 = .ok (.iconst 1, 1) := by decide +kernel
theorem dX1_power_8 : decode cX1_power 8 = .ok (.goto 4, 3) := by decide +kernel
theorem dX1_power_11 : decode cX1_power 11 = .ok (.iconst 0, 1) := by decide +kernel
theorem dX1_power_12 : decode cX1_power 12 = .ok (.putfield 38, 3) := by decide +kernel
theorem dX1_power_15 : decode cX1_power 15 = .ok (.aload_n 0, 1) := by decide +kernel
theorem dX1_power_16 : decode cX1_power 16 = .ok (.getfield 38, 3) := by decide +kernel
theorem dX1_power_19 : decode cX1_power 19 = .ok (.ifCond .le 7, 3) := by decide +kernel
theorem dX1_power_22 : decode cX1_power 22 = .ok (.lconst 0, 1) := by decide +kernel
theorem dX1_power_23 : decode cX1_power 23 = .ok (.goto 16, 3) := by decide +kernel
theorem dX1_power_26 : decode cX1_power 26 = .ok (.aload_n 0, 1) := by decide +kernel
theorem dX1_power_27 : decode cX1_power 27 = .ok (.lload_n 1, 1) := by decide +kernel
theorem dX1_power_28 : decode cX1_power 28 = .ok (.invokevirtual 60, 3) := by decide +kernel
theorem dX1_power_31 : decode cX1_power 31 = .ok (.lload_n 3, 1) := by decide +kernel
theorem dX1_power_32 : decode cX1_power 32 = .ok (.aload_n 0, 1) := by decide +kernel
theorem dX1_power_33 : decode cX1_power 33 = .ok (.getfield 27, 3) := by decide +kernel
theorem dX1_power_36 : decode cX1_power 36 = .ok (.invokestatic 44, 3) := by decide +kernel
theorem dX1_power_39 : decode cX1_power 39 = .ok (.lreturn, 1) := by decide +kernel
set_option maxRecDepth 20000 in
theorem ggX1_inverse_X1_rest : GoodIn wsX1_inverse wsX1_rest := goodIn_r _ [8, 2, 12, 13, 14, 15, 16, 17, 18, 19] (by decide +kernel) (by decide +kernel)
set_option maxRecDepth 20000 in
theorem gX1_inverse_X1_rest : GoodIn wsX1_inverse (wsV RX1 60 RX1 yX1_rest wsX1_rest) := goodIn_app (goodIn_of _ (by decide +kernel)) ggX1_inverse_X1_rest
set_option maxRecDepth 20000 in
theorem ggX1_inverse_X1_raise : GoodIn wsX1_inverse wsX1_raise := goodIn_r _ [11, 3] (by decide +kernel) (by decide +kernel)
set_option maxRecDepth 20000 in
theorem gX1_inverse_X1_raise : GoodIn wsX1_inverse (va_wsS RX1 44 yX1_raise wsX1_raise) := goodIn_app (goodIn_of _ (by decide +kernel)) ggX1_inverse_X1_raise
theorem dX1_inverse_0 : decode cX1_inverse 0 = .ok (.aload_n 0, 1) := by decide +kernel
theorem dX1_inverse_1 : decode cX1_inverse 1 = .ok (.aload_n 0, 1) := by decide +kernel
theorem dX1_inverse_2 : decode cX1_inverse 2 = .ok (.lload_n 1, 1) := by decide +kernel
theorem dX1_inverse_3 : decode cX1_inverse 3 = .ok (.invokevirtual 60, 3) := by decide +kernel
theorem dX1_inverse_6 : decode cX1_inverse 6 = .ok (.lconst 0, 1) := by decide +kernel
theorem dX1_inverse_7 : decode cX1_inverse 7 = .ok (.lcmp, 1) := by decide +kernel
theorem dX1_inverse_8 : decode cX1_inverse 8 = .ok (.ifCond .ne 7, 3) := by decide +kernel
theorem dX1_inverse_11 : decode cX1_inverse 11 = .ok (.iconst 1, 1) := by decide +kernel
theorem dX1_inverse_12 : decode cX1_inverse 12 = .ok (.goto 4, 3) := by decide +kernel
theorem dX1_inverse_15 : decode cX1_inverse 15 = .ok (.iconst 0, 1) := by decide +kernel
theorem dX1_inverse_16 : decode cX1_inverse 16 = .ok (.putfield 38, 3) := by decide +kernel
theorem dX1_inverse_19 : decode cX1_inverse 19 = .ok (.aload_n 0, 1) := by decide +kernel
theorem dX1_inverse_20 : decode cX1_inverse 20 = .ok (.getfield 38, 3) := by decide +kernel
theorem dX1_inverse_23 : decode cX1_inverse 23 = .ok (.ifCond .le 7, 3) := by decide +kernel
theorem dX1_inverse_26 : decode cX1_inverse 26 = .ok (.lconst 0, 1) := by decide +kernel
theorem dX1_inverse_27 : decode cX1_inverse 27 = .ok (.goto 23, 3) := by decide +kernel
theorem dX1_inverse_30 : decode cX1_inverse 30 = .ok (.aload_n 0, 1) := by decide +kernel
theorem dX1_inverse_31 : decode cX1_inverse 31 = .ok (.lload_n 1, 1) := by decide +kernel
theorem dX1_inverse_32 : decode cX1_inverse 32 = .ok (.invokevirtual 60, 3) := by decide +kernel
theorem dX1_inverse_35 : decode cX1_inverse 35 = .ok (.aload_n 0, 1) := by decide +kernel
theorem dX1_inverse_36 : decode cX1_inverse 36 = .ok (.getfield 27, 3) := by decide +kernel
theorem dX1_inverse_39 : decode cX1_inverse 39 = .ok (.ldc2_w 42, 3) := by decide +kernel
theorem dX1_inverse_42 : decode cX1_inverse 42 = .ok (.lsub, 1) := by decide +kernel
theorem dX1_inverse_43 : decode cX1_inverse 43 = .ok (.aload_n 0, 1) := by decide +kernel
theorem dX1_inverse_44 : decode cX1_inverse 44 = .ok (.getfield 27, 3) := by decide +kernel
theorem dX1_inverse_47 : decode cX1_inverse 47 = .ok (.invokestatic 44, 3) := by decide +kernel
theorem dX1_inverse_50 : decode cX1_inverse 50 = .ok (.lreturn, 1) := by decide +kernel
theorem dX1_isRow_0 : decode cX1_isRow 0 = .ok (.iload_n 0, 1) := by decide +kernel
theorem dX1_isRow_1 : decode cX1_isRow 1 = .ok (.ifCond .lt 13, 3) := by decide +kernel
theorem dX1_isRow_4 : decode cX1_isRow 4 = .ok (.iload_n 0, 1) := by decide +kernel
theorem dX1_isRow_5 : decode cX1_isRow 5 = .ok (.bipush 6, 2) := by decide +kernel
theorem dX1_isRow_7 : decode cX1_isRow 7 = .ok (.if_icmp .ge 7, 3) := by decide +kernel
theorem dX1_isRow_10 : decode cX1_isRow 10 = .ok (.iconst 1, 1) := by decide +kernel
theorem dX1_isRow_11 : decode cX1_isRow 11 = .ok (.goto 4, 3) := by decide +kernel
theorem dX1_isRow_14 : decode cX1_isRow 14 = .ok (.iconst 0, 1) := by decide +kernel
theorem dX1_isRow_15 : decode cX1_isRow 15 = .ok (.ireturn, 1) := by decide +kernel
set_option maxRecDepth 20000 in
theorem ggX1_put_X1_isRow : GoodIn wsX1_put wsX1_isRow := goodIn_r _ [6] (by decide +kernel) (by decide +kernel)
set_option maxRecDepth 20000 in
theorem gX1_put_X1_isRow : GoodIn wsX1_put (va_wsS RX1 63 yX1_isRow wsX1_isRow) := goodIn_app (goodIn_of _ (by decide +kernel)) ggX1_put_X1_isRow
set_option maxRecDepth 20000 in
theorem ggX1_put_X1_rest : GoodIn wsX1_put wsX1_rest := goodIn_r _ [10, 11, 12, 13, 14, 15, 16, 17, 18, 19] (by decide +kernel) (by decide +kernel)
set_option maxRecDepth 20000 in
theorem gX1_put_X1_rest : GoodIn wsX1_put (wsV RX1 60 RX1 yX1_rest wsX1_rest) := goodIn_app (goodIn_of _ (by decide +kernel)) ggX1_put_X1_rest
theorem dX1_put_0 : decode cX1_put 0 = .ok (.aload_n 0, 1) := by decide +kernel
theorem dX1_put_1 : decode cX1_put 1 = .ok (.iload_n 1, 1) := by decide +kernel
theorem dX1_put_2 : decode cX1_put 2 = .ok (.invokestatic 63, 3) := by decide +kernel
theorem dX1_put_5 : decode cX1_put 5 = .ok (.ifCond .eq 18, 3) := by decide +kernel
theorem dX1_put_8 : decode cX1_put 8 = .ok (.iload_n 2, 1) := by decide +kernel
theorem dX1_put_9 : decode cX1_put 9 = .ok (.ifCond .lt 14, 3) := by decide +kernel
theorem dX1_put_12 : decode cX1_put 12 = .ok (.iload_n 2, 1) := by decide +kernel
theorem dX1_put_13 : decode cX1_put 13 = .ok (.sipush 512, 3) := by decide +kernel
theorem dX1_put_16 : decode cX1_put 16 = .ok (.if_icmp .ge 7, 3) := by decide +kernel
theorem dX1_put_19 : decode cX1_put 19 = .ok (.iconst 0, 1) := by decide +kernel
theorem dX1_put_20 : decode cX1_put 20 = .ok (.goto 4, 3) := by decide +kernel
theorem dX1_put_23 : decode cX1_put 23 = .ok (.iconst 1, 1) := by decide +kernel
theorem dX1_put_24 : decode cX1_put 24 = .ok (.putfield 38, 3) := by decide +kernel
theorem dX1_put_27 : decode cX1_put 27 = .ok (.aload_n 0, 1) := by decide +kernel
theorem dX1_put_28 : decode cX1_put 28 = .ok (.getfield 38, 3) := by decide +kernel
theorem dX1_put_31 : decode cX1_put 31 = .ok (.ifCond .le 5, 3) := by decide +kernel
theorem dX1_put_34 : decode cX1_put 34 = .ok (.iconst 0, 1) := by decide +kernel
theorem dX1_put_35 : decode cX1_put 35 = .ok (.ireturn, 1) := by decide +kernel
theorem dX1_put_36 : decode cX1_put 36 = .ok (.sipush 512, 3) := by decide +kernel
theorem dX1_put_39 : decode cX1_put 39 = .ok (.iload_n 1, 1) := by decide +kernel
theorem dX1_put_40 : decode cX1_put 40 = .ok (.imul, 1) := by decide +kernel
theorem dX1_put_41 : decode cX1_put 41 = .ok (.iload_n 2, 1) := by decide +kernel
theorem dX1_put_42 : decode cX1_put 42 = .ok (.iadd, 1) := by decide +kernel
theorem dX1_put_43 : decode cX1_put 43 = .ok (.istore 5, 2) := by decide +kernel
theorem dX1_put_45 : decode cX1_put 45 = .ok (.aload_n 0, 1) := by decide +kernel
theorem dX1_put_46 : decode cX1_put 46 = .ok (.getfield 7, 3) := by decide +kernel
theorem dX1_put_49 : decode cX1_put 49 = .ok (.iload 5, 2) := by decide +kernel
theorem dX1_put_51 : decode cX1_put 51 = .ok (.laload, 1) := by decide +kernel
theorem dX1_put_52 : decode cX1_put 52 = .ok (.aload_n 0, 1) := by decide +kernel
theorem dX1_put_53 : decode cX1_put 53 = .ok (.lload_n 3, 1) := by decide +kernel
theorem dX1_put_54 : decode cX1_put 54 = .ok (.invokevirtual 60, 3) := by decide +kernel
theorem dX1_put_57 : decode cX1_put 57 = .ok (.lcmp, 1) := by decide +kernel
theorem dX1_put_58 : decode cX1_put 58 = .ok (.ifCond .eq 7, 3) := by decide +kernel
theorem dX1_put_61 : decode cX1_put 61 = .ok (.iconst 1, 1) := by decide +kernel
theorem dX1_put_62 : decode cX1_put 62 = .ok (.goto 4, 3) := by decide +kernel
theorem dX1_put_65 : decode cX1_put 65 = .ok (.iconst 0, 1) := by decide +kernel
theorem dX1_put_66 : decode cX1_put 66 = .ok (.istore 6, 2) := by decide +kernel
theorem dX1_put_68 : decode cX1_put 68 = .ok (.aload_n 0, 1) := by decide +kernel
theorem dX1_put_69 : decode cX1_put 69 = .ok (.getfield 7, 3) := by decide +kernel
theorem dX1_put_72 : decode cX1_put 72 = .ok (.iload 5, 2) := by decide +kernel
theorem dX1_put_74 : decode cX1_put 74 = .ok (.aload_n 0, 1) := by decide +kernel
theorem dX1_put_75 : decode cX1_put 75 = .ok (.lload_n 3, 1) := by decide +kernel
theorem dX1_put_76 : decode cX1_put 76 = .ok (.invokevirtual 60, 3) := by decide +kernel
theorem dX1_put_79 : decode cX1_put 79 = .ok (.lastore, 1) := by decide +kernel
theorem dX1_put_80 : decode cX1_put 80 = .ok (.iload 6, 2) := by decide +kernel
theorem dX1_put_82 : decode cX1_put 82 = .ok (.ireturn, 1) := by decide +kernel
set_option maxRecDepth 20000 in
theorem ggX1_get_X1_isRow : GoodIn wsX1_get wsX1_isRow := goodIn_r _ [6] (by decide +kernel) (by decide +kernel)
set_option maxRecDepth 20000 in
theorem gX1_get_X1_isRow : GoodIn wsX1_get (va_wsS RX1 63 yX1_isRow wsX1_isRow) := goodIn_app (goodIn_of _ (by decide +kernel)) ggX1_get_X1_isRow
theorem dX1_get_0 : decode cX1_get 0 = .ok (.aload_n 0, 1) := by decide +kernel
theorem dX1_get_1 : decode cX1_get 1 = .ok (.iload_n 1, 1) := by decide +kernel
theorem dX1_get_2 : decode cX1_get 2 = .ok (.invokestatic 63, 3) := by decide +kernel
theorem dX1_get_5 : decode cX1_get 5 = .ok (.ifCond .eq 18, 3) := by decide +kernel
theorem dX1_get_8 : decode cX1_get 8 = .ok (.iload_n 2, 1) := by decide +kernel
theorem dX1_get_9 : decode cX1_get 9 = .ok (.ifCond .lt 14, 3) := by decide +kernel
theorem dX1_get_12 : decode cX1_get 12 = .ok (.iload_n 2, 1) := by decide +kernel
theorem dX1_get_13 : decode cX1_get 13 = .ok (.sipush 512, 3) := by decide +kernel
theorem dX1_get_16 : decode cX1_get 16 = .ok (.if_icmp .ge 7, 3) := by decide +kernel
theorem dX1_get_19 : decode cX1_get 19 = .ok (.iconst 0, 1) := by decide +kernel
theorem dX1_get_20 : decode cX1_get 20 = .ok (.goto 4, 3) := by decide +kernel
theorem dX1_get_23 : decode cX1_get 23 = .ok (.iconst 1, 1) := by decide +kernel
theorem dX1_get_24 : decode cX1_get 24 = .ok (.putfield 38, 3) := by decide +kernel
theorem dX1_get_27 : decode cX1_get 27 = .ok (.aload_n 0, 1) := by decide +kernel
theorem dX1_get_28 : decode cX1_get 28 = .ok (.getfield 38, 3) := by decide +kernel
theorem dX1_get_31 : decode cX1_get 31 = .ok (.ifCond .le 7, 3) := by decide +kernel
theorem dX1_get_34 : decode cX1_get 34 = .ok (.lconst 0, 1) := by decide +kernel
theorem dX1_get_35 : decode cX1_get 35 = .ok (.goto 15, 3) := by decide +kernel
theorem dX1_get_38 : decode cX1_get 38 = .ok (.aload_n 0, 1) := by decide +kernel
theorem dX1_get_39 : decode cX1_get 39 = .ok (.getfield 7, 3) := by decide +kernel
theorem dX1_get_42 : decode cX1_get 42 = .ok (.sipush 512, 3) := by decide +kernel
theorem dX1_get_45 : decode cX1_get 45 = .ok (.iload_n 1, 1) := by decide +kernel
theorem dX1_get_46 : decode cX1_get 46 = .ok (.imul, 1) := by decide +kernel
theorem dX1_get_47 : decode cX1_get 47 = .ok (.iload_n 2, 1) := by decide +kernel
theorem dX1_get_48 : decode cX1_get 48 = .ok (.iadd, 1) := by decide +kernel
theorem dX1_get_49 : decode cX1_get 49 = .ok (.laload, 1) := by decide +kernel
theorem dX1_get_50 : decode cX1_get 50 = .ok (.lreturn, 1) := by decide +kernel
theorem dX1_lengthOf_0 : decode cX1_lengthOf 0 = .ok (.sipush 512, 3) := by decide +kernel
theorem dX1_lengthOf_3 : decode cX1_lengthOf 3 = .ok (.istore_n 2, 1) := by decide +kernel
theorem dX1_lengthOf_4 : decode cX1_lengthOf 4 = .ok (.iload_n 2, 1) := by decide +kernel
theorem dX1_lengthOf_5 : decode cX1_lengthOf 5 = .ok (.ifCond .le 28, 3) := by decide +kernel
theorem dX1_lengthOf_8 : decode cX1_lengthOf 8 = .ok (.aload_n 0, 1) := by decide +kernel
theorem dX1_lengthOf_9 : decode cX1_lengthOf 9 = .ok (.getfield 7, 3) := by decide +kernel
theorem dX1_lengthOf_12 : decode cX1_lengthOf 12 = .ok (.sipush 512, 3) := by decide +kernel
theorem dX1_lengthOf_15 : decode cX1_lengthOf 15 = .ok (.iload_n 1, 1) := by decide +kernel
theorem dX1_lengthOf_16 : decode cX1_lengthOf 16 = .ok (.imul, 1) := by decide +kernel
theorem dX1_lengthOf_17 : decode cX1_lengthOf 17 = .ok (.iload_n 2, 1) := by decide +kernel
theorem dX1_lengthOf_18 : decode cX1_lengthOf 18 = .ok (.iadd, 1) := by decide +kernel
theorem dX1_lengthOf_19 : decode cX1_lengthOf 19 = .ok (.iconst 1, 1) := by decide +kernel
theorem dX1_lengthOf_20 : decode cX1_lengthOf 20 = .ok (.isub, 1) := by decide +kernel
theorem dX1_lengthOf_21 : decode cX1_lengthOf 21 = .ok (.laload, 1) := by decide +kernel
theorem dX1_lengthOf_22 : decode cX1_lengthOf 22 = .ok (.lconst 0, 1) := by decide +kernel
theorem dX1_lengthOf_23 : decode cX1_lengthOf 23 = .ok (.lcmp, 1) := by decide +kernel
theorem dX1_lengthOf_24 : decode cX1_lengthOf 24 = .ok (.ifCond .ne 9, 3) := by decide +kernel
theorem dX1_lengthOf_27 : decode cX1_lengthOf 27 = .ok (.iinc 2 (-1), 3) := by decide +kernel
theorem dX1_lengthOf_30 : decode cX1_lengthOf 30 = .ok (.goto (-26), 3) := by decide +kernel
theorem dX1_lengthOf_33 : decode cX1_lengthOf 33 = .ok (.iload_n 2, 1) := by decide +kernel
theorem dX1_lengthOf_34 : decode cX1_lengthOf 34 = .ok (.ireturn, 1) := by decide +kernel
set_option maxRecDepth 20000 in
theorem ggX1_length_X1_isRow : GoodIn wsX1_length wsX1_isRow := goodIn_r _ [5] (by decide +kernel) (by decide +kernel)
set_option maxRecDepth 20000 in
theorem gX1_length_X1_isRow : GoodIn wsX1_length (va_wsS RX1 63 yX1_isRow wsX1_isRow) := goodIn_app (goodIn_of _ (by decide +kernel)) ggX1_length_X1_isRow
set_option maxRecDepth 20000 in
theorem ggX1_length_X1_lengthOf : GoodIn wsX1_length wsX1_lengthOf := goodIn_r _ [9, 10, 11, 12, 13, 14, 15, 16, 17, 18] (by decide +kernel) (by decide +kernel)
set_option maxRecDepth 20000 in
theorem gX1_length_X1_lengthOf : GoodIn wsX1_length (wsV RX1 67 RX1 yX1_lengthOf wsX1_lengthOf) := goodIn_app (goodIn_of _ (by decide +kernel)) ggX1_length_X1_lengthOf
theorem dX1_length_0 : decode cX1_length 0 = .ok (.aload_n 0, 1) := by decide +kernel
theorem dX1_length_1 : decode cX1_length 1 = .ok (.iload_n 1, 1) := by decide +kernel
theorem dX1_length_2 : decode cX1_length 2 = .ok (.invokestatic 63, 3) := by decide +kernel
theorem dX1_length_5 : decode cX1_length 5 = .ok (.ifCond .eq 7, 3) := by decide +kernel
theorem dX1_length_8 : decode cX1_length 8 = .ok (.iconst 0, 1) := by decide +kernel
theorem dX1_length_9 : decode cX1_length 9 = .ok (.goto 4, 3) := by decide +kernel
theorem dX1_length_12 : decode cX1_length 12 = .ok (.iconst 1, 1) := by decide +kernel
theorem dX1_length_13 : decode cX1_length 13 = .ok (.putfield 38, 3) := by decide +kernel
theorem dX1_length_16 : decode cX1_length 16 = .ok (.aload_n 0, 1) := by decide +kernel
theorem dX1_length_17 : decode cX1_length 17 = .ok (.getfield 38, 3) := by decide +kernel
theorem dX1_length_20 : decode cX1_length 20 = .ok (.ifCond .le 7, 3) := by decide +kernel
theorem dX1_length_23 : decode cX1_length 23 = .ok (.iconst 0, 1) := by decide +kernel
theorem dX1_length_24 : decode cX1_length 24 = .ok (.goto 8, 3) := by decide +kernel
theorem dX1_length_27 : decode cX1_length 27 = .ok (.aload_n 0, 1) := by decide +kernel
theorem dX1_length_28 : decode cX1_length 28 = .ok (.iload_n 1, 1) := by decide +kernel
theorem dX1_length_29 : decode cX1_length 29 = .ok (.invokevirtual 67, 3) := by decide +kernel
theorem dX1_length_32 : decode cX1_length 32 = .ok (.ireturn, 1) := by decide +kernel
set_option maxRecDepth 20000 in
theorem ggX1_turn_X1_isRow : GoodIn wsX1_turn wsX1_isRow := goodIn_r _ [11] (by decide +kernel) (by decide +kernel)
set_option maxRecDepth 20000 in
theorem gX1_turn_X1_isRow : GoodIn wsX1_turn (va_wsS RX1 63 yX1_isRow wsX1_isRow) := goodIn_app (goodIn_of _ (by decide +kernel)) ggX1_turn_X1_isRow
set_option maxRecDepth 20000 in
theorem ggX1_turn_X1_raise : GoodIn wsX1_turn wsX1_raise := goodIn_r _ [14, 4] (by decide +kernel) (by decide +kernel)
set_option maxRecDepth 20000 in
theorem gX1_turn_X1_raise : GoodIn wsX1_turn (va_wsS RX1 44 yX1_raise wsX1_raise) := goodIn_app (goodIn_of _ (by decide +kernel)) ggX1_turn_X1_raise
theorem dX1_turn_0 : decode cX1_turn 0 = .ok (.iload_n 2, 1) := by decide +kernel
theorem dX1_turn_1 : decode cX1_turn 1 = .ok (.iconst 1, 1) := by decide +kernel
theorem dX1_turn_2 : decode cX1_turn 2 = .ok (.if_icmp .lt 22, 3) := by decide +kernel
theorem dX1_turn_5 : decode cX1_turn 5 = .ok (.iload_n 2, 1) := by decide +kernel
theorem dX1_turn_6 : decode cX1_turn 6 = .ok (.sipush 512, 3) := by decide +kernel
theorem dX1_turn_9 : decode cX1_turn 9 = .ok (.if_icmp .gt 15, 3) := by decide +kernel
theorem dX1_turn_12 : decode cX1_turn 12 = .ok (.iload_n 2, 1) := by decide +kernel
theorem dX1_turn_13 : decode cX1_turn 13 = .ok (.iload_n 2, 1) := by decide +kernel
theorem dX1_turn_14 : decode cX1_turn 14 = .ok (.iconst 1, 1) := by decide +kernel
theorem dX1_turn_15 : decode cX1_turn 15 = .ok (.isub, 1) := by decide +kernel
theorem dX1_turn_16 : decode cX1_turn 16 = .ok (.iand, 1) := by decide +kernel
theorem dX1_turn_17 : decode cX1_turn 17 = .ok (.ifCond .ne 7, 3) := by decide +kernel
theorem dX1_turn_20 : decode cX1_turn 20 = .ok (.iconst 1, 1) := by decide +kernel
theorem dX1_turn_21 : decode cX1_turn 21 = .ok (.goto 4, 3) := by decide +kernel
theorem dX1_turn_24 : decode cX1_turn 24 = .ok (.iconst 0, 1) := by decide +kernel
theorem dX1_turn_25 : decode cX1_turn 25 = .ok (.istore 4, 2) := by decide +kernel
theorem dX1_turn_27 : decode cX1_turn 27 = .ok (.aload_n 0, 1) := by decide +kernel
theorem dX1_turn_28 : decode cX1_turn 28 = .ok (.iload_n 1, 1) := by decide +kernel
theorem dX1_turn_29 : decode cX1_turn 29 = .ok (.invokestatic 63, 3) := by decide +kernel
theorem dX1_turn_32 : decode cX1_turn 32 = .ok (.ifCond .ne 7, 3) := by decide +kernel
theorem dX1_turn_35 : decode cX1_turn 35 = .ok (.iconst 1, 1) := by decide +kernel
theorem dX1_turn_36 : decode cX1_turn 36 = .ok (.goto 13, 3) := by decide +kernel
theorem dX1_turn_39 : decode cX1_turn 39 = .ok (.iload 4, 2) := by decide +kernel
theorem dX1_turn_41 : decode cX1_turn 41 = .ok (.ifCond .ne 7, 3) := by decide +kernel
theorem dX1_turn_44 : decode cX1_turn 44 = .ok (.iconst 2, 1) := by decide +kernel
theorem dX1_turn_45 : decode cX1_turn 45 = .ok (.goto 4, 3) := by decide +kernel
theorem dX1_turn_48 : decode cX1_turn 48 = .ok (.iconst 0, 1) := by decide +kernel
theorem dX1_turn_49 : decode cX1_turn 49 = .ok (.putfield 38, 3) := by decide +kernel
theorem dX1_turn_52 : decode cX1_turn 52 = .ok (.aload_n 0, 1) := by decide +kernel
theorem dX1_turn_53 : decode cX1_turn 53 = .ok (.getfield 38, 3) := by decide +kernel
theorem dX1_turn_56 : decode cX1_turn 56 = .ok (.ifCond .le 4, 3) := by decide +kernel
theorem dX1_turn_59 : decode cX1_turn 59 = .ok (.return_, 1) := by decide +kernel
theorem dX1_turn_60 : decode cX1_turn 60 = .ok (.aload_n 0, 1) := by decide +kernel
theorem dX1_turn_61 : decode cX1_turn 61 = .ok (.getfield 35, 3) := by decide +kernel
theorem dX1_turn_64 : decode cX1_turn 64 = .ok (.aload_n 0, 1) := by decide +kernel
theorem dX1_turn_65 : decode cX1_turn 65 = .ok (.getfield 27, 3) := by decide +kernel
theorem dX1_turn_68 : decode cX1_turn 68 = .ok (.lconst 1, 1) := by decide +kernel
theorem dX1_turn_69 : decode cX1_turn 69 = .ok (.lsub, 1) := by decide +kernel
theorem dX1_turn_70 : decode cX1_turn 70 = .ok (.iload_n 2, 1) := by decide +kernel
theorem dX1_turn_71 : decode cX1_turn 71 = .ok (.i2l, 1) := by decide +kernel
theorem dX1_turn_72 : decode cX1_turn 72 = .ok (.ldiv, 1) := by decide +kernel
theorem dX1_turn_73 : decode cX1_turn 73 = .ok (.aload_n 0, 1) := by decide +kernel
theorem dX1_turn_74 : decode cX1_turn 74 = .ok (.getfield 27, 3) := by decide +kernel
theorem dX1_turn_77 : decode cX1_turn 77 = .ok (.invokestatic 44, 3) := by decide +kernel
theorem dX1_turn_80 : decode cX1_turn 80 = .ok (.lstore 5, 2) := by decide +kernel
theorem dX1_turn_82 : decode cX1_turn 82 = .ok (.iload_n 3, 1) := by decide +kernel
theorem dX1_turn_83 : decode cX1_turn 83 = .ok (.ifCond .eq 23, 3) := by decide +kernel
theorem dX1_turn_86 : decode cX1_turn 86 = .ok (.lload 5, 2) := by decide +kernel
theorem dX1_turn_88 : decode cX1_turn 88 = .ok (.aload_n 0, 1) := by decide +kernel
theorem dX1_turn_89 : decode cX1_turn 89 = .ok (.getfield 27, 3) := by decide +kernel
theorem dX1_turn_92 : decode cX1_turn 92 = .ok (.ldc2_w 42, 3) := by decide +kernel
theorem dX1_turn_95 : decode cX1_turn 95 = .ok (.lsub, 1) := by decide +kernel
theorem dX1_turn_96 : decode cX1_turn 96 = .ok (.aload_n 0, 1) := by decide +kernel
theorem dX1_turn_97 : decode cX1_turn 97 = .ok (.getfield 27, 3) := by decide +kernel
theorem dX1_turn_100 : decode cX1_turn 100 = .ok (.invokestatic 44, 3) := by decide +kernel
theorem dX1_turn_103 : decode cX1_turn 103 = .ok (.goto 5, 3) := by decide +kernel
theorem dX1_turn_106 : decode cX1_turn 106 = .ok (.lload 5, 2) := by decide +kernel
theorem dX1_turn_108 : decode cX1_turn 108 = .ok (.lstore 7, 2) := by decide +kernel
theorem dX1_turn_110 : decode cX1_turn 110 = .ok (.iload_n 3, 1) := by decide +kernel
theorem dX1_turn_111 : decode cX1_turn 111 = .ok (.ifCond .eq 23, 3) := by decide +kernel
theorem dX1_turn_114 : decode cX1_turn 114 = .ok (.iload_n 2, 1) := by decide +kernel
theorem dX1_turn_115 : decode cX1_turn 115 = .ok (.i2l, 1) := by decide +kernel
theorem dX1_turn_116 : decode cX1_turn 116 = .ok (.aload_n 0, 1) := by decide +kernel
theorem dX1_turn_117 : decode cX1_turn 117 = .ok (.getfield 27, 3) := by decide +kernel
theorem dX1_turn_120 : decode cX1_turn 120 = .ok (.ldc2_w 42, 3) := by decide +kernel
theorem dX1_turn_123 : decode cX1_turn 123 = .ok (.lsub, 1) := by decide +kernel
theorem dX1_turn_124 : decode cX1_turn 124 = .ok (.aload_n 0, 1) := by decide +kernel
theorem dX1_turn_125 : decode cX1_turn 125 = .ok (.getfield 27, 3) := by decide +kernel
theorem dX1_turn_128 : decode cX1_turn 128 = .ok (.invokestatic 44, 3) := by decide +kernel
theorem dX1_turn_131 : decode cX1_turn 131 = .ok (.goto 4, 3) := by decide +kernel
theorem dX1_turn_134 : decode cX1_turn 134 = .ok (.lconst 1, 1) := by decide +kernel
theorem dX1_turn_135 : decode cX1_turn 135 = .ok (.lstore 9, 2) := by decide +kernel
theorem dX1_turn_137 : decode cX1_turn 137 = .ok (.aload_n 0, 1) := by decide +kernel
theorem dX1_turn_138 : decode cX1_turn 138 = .ok (.getfield 19, 3) := by decide +kernel
theorem dX1_turn_141 : decode cX1_turn 141 = .ok (.iconst 0, 1) := by decide +kernel
theorem dX1_turn_142 : decode cX1_turn 142 = .ok (.lconst 1, 1) := by decide +kernel
theorem dX1_turn_143 : decode cX1_turn 143 = .ok (.lastore, 1) := by decide +kernel
theorem dX1_turn_144 : decode cX1_turn 144 = .ok (.iconst 1, 1) := by decide +kernel
theorem dX1_turn_145 : decode cX1_turn 145 = .ok (.istore 11, 2) := by decide +kernel
theorem dX1_turn_147 : decode cX1_turn 147 = .ok (.iload 11, 2) := by decide +kernel
theorem dX1_turn_149 : decode cX1_turn 149 = .ok (.iload_n 2, 1) := by decide +kernel
theorem dX1_turn_150 : decode cX1_turn 150 = .ok (.if_icmp .ge 33, 3) := by decide +kernel
theorem dX1_turn_153 : decode cX1_turn 153 = .ok (.aload_n 0, 1) := by decide +kernel
theorem dX1_turn_154 : decode cX1_turn 154 = .ok (.getfield 19, 3) := by decide +kernel
theorem dX1_turn_157 : decode cX1_turn 157 = .ok (.iload 11, 2) := by decide +kernel
theorem dX1_turn_159 : decode cX1_turn 159 = .ok (.aload_n 0, 1) := by decide +kernel
theorem dX1_turn_160 : decode cX1_turn 160 = .ok (.getfield 19, 3) := by decide +kernel
theorem dX1_turn_163 : decode cX1_turn 163 = .ok (.iload 11, 2) := by decide +kernel
theorem dX1_turn_165 : decode cX1_turn 165 = .ok (.iconst 1, 1) := by decide +kernel
theorem dX1_turn_166 : decode cX1_turn 166 = .ok (.isub, 1) := by decide +kernel
theorem dX1_turn_167 : decode cX1_turn 167 = .ok (.laload, 1) := by decide +kernel
theorem dX1_turn_168 : decode cX1_turn 168 = .ok (.lload 7, 2) := by decide +kernel
theorem dX1_turn_170 : decode cX1_turn 170 = .ok (.lmul, 1) := by decide +kernel
theorem dX1_turn_171 : decode cX1_turn 171 = .ok (.aload_n 0, 1) := by decide +kernel
theorem dX1_turn_172 : decode cX1_turn 172 = .ok (.getfield 27, 3) := by decide +kernel
theorem dX1_turn_175 : decode cX1_turn 175 = .ok (.lrem, 1) := by decide +kernel
theorem dX1_turn_176 : decode cX1_turn 176 = .ok (.lastore, 1) := by decide +kernel
theorem dX1_turn_177 : decode cX1_turn 177 = .ok (.iinc 11 1, 3) := by decide +kernel
theorem dX1_turn_180 : decode cX1_turn 180 = .ok (.goto (-33), 3) := by decide +kernel
theorem dX1_turn_183 : decode cX1_turn 183 = .ok (.iconst 0, 1) := by decide +kernel
theorem dX1_turn_184 : decode cX1_turn 184 = .ok (.istore 11, 2) := by decide +kernel
theorem dX1_turn_186 : decode cX1_turn 186 = .ok (.iload 11, 2) := by decide +kernel
theorem dX1_turn_188 : decode cX1_turn 188 = .ok (.iload_n 2, 1) := by decide +kernel
theorem dX1_turn_189 : decode cX1_turn 189 = .ok (.if_icmp .ge 89, 3) := by decide +kernel
theorem dX1_turn_192 : decode cX1_turn 192 = .ok (.lconst 0, 1) := by decide +kernel
theorem dX1_turn_193 : decode cX1_turn 193 = .ok (.lstore 12, 2) := by decide +kernel
theorem dX1_turn_195 : decode cX1_turn 195 = .ok (.iconst 0, 1) := by decide +kernel
theorem dX1_turn_196 : decode cX1_turn 196 = .ok (.istore 14, 2) := by decide +kernel
theorem dX1_turn_198 : decode cX1_turn 198 = .ok (.iconst 0, 1) := by decide +kernel
theorem dX1_turn_199 : decode cX1_turn 199 = .ok (.istore 15, 2) := by decide +kernel
theorem dX1_turn_201 : decode cX1_turn 201 = .ok (.iload 15, 2) := by decide +kernel
theorem dX1_turn_203 : decode cX1_turn 203 = .ok (.iload_n 2, 1) := by decide +kernel
theorem dX1_turn_204 : decode cX1_turn 204 = .ok (.if_icmp .ge 51, 3) := by decide +kernel
theorem dX1_turn_207 : decode cX1_turn 207 = .ok (.lload 12, 2) := by decide +kernel
theorem dX1_turn_209 : decode cX1_turn 209 = .ok (.aload_n 0, 1) := by decide +kernel
theorem dX1_turn_210 : decode cX1_turn 210 = .ok (.getfield 7, 3) := by decide +kernel
theorem dX1_turn_213 : decode cX1_turn 213 = .ok (.sipush 512, 3) := by decide +kernel
theorem dX1_turn_216 : decode cX1_turn 216 = .ok (.iload_n 1, 1) := by decide +kernel
theorem dX1_turn_217 : decode cX1_turn 217 = .ok (.imul, 1) := by decide +kernel
theorem dX1_turn_218 : decode cX1_turn 218 = .ok (.iload 15, 2) := by decide +kernel
theorem dX1_turn_220 : decode cX1_turn 220 = .ok (.iadd, 1) := by decide +kernel
theorem dX1_turn_221 : decode cX1_turn 221 = .ok (.laload, 1) := by decide +kernel
theorem dX1_turn_222 : decode cX1_turn 222 = .ok (.aload_n 0, 1) := by decide +kernel
theorem dX1_turn_223 : decode cX1_turn 223 = .ok (.getfield 19, 3) := by decide +kernel
theorem dX1_turn_226 : decode cX1_turn 226 = .ok (.iload 14, 2) := by decide +kernel
theorem dX1_turn_228 : decode cX1_turn 228 = .ok (.laload, 1) := by decide +kernel
theorem dX1_turn_229 : decode cX1_turn 229 = .ok (.lmul, 1) := by decide +kernel
theorem dX1_turn_230 : decode cX1_turn 230 = .ok (.ladd, 1) := by decide +kernel
theorem dX1_turn_231 : decode cX1_turn 231 = .ok (.aload_n 0, 1) := by decide +kernel
theorem dX1_turn_232 : decode cX1_turn 232 = .ok (.getfield 27, 3) := by decide +kernel
theorem dX1_turn_235 : decode cX1_turn 235 = .ok (.lrem, 1) := by decide +kernel
theorem dX1_turn_236 : decode cX1_turn 236 = .ok (.lstore 12, 2) := by decide +kernel
theorem dX1_turn_238 : decode cX1_turn 238 = .ok (.iload 14, 2) := by decide +kernel
theorem dX1_turn_240 : decode cX1_turn 240 = .ok (.iload 11, 2) := by decide +kernel
theorem dX1_turn_242 : decode cX1_turn 242 = .ok (.iadd, 1) := by decide +kernel
theorem dX1_turn_243 : decode cX1_turn 243 = .ok (.iload_n 2, 1) := by decide +kernel
theorem dX1_turn_244 : decode cX1_turn 244 = .ok (.iconst 1, 1) := by decide +kernel
theorem dX1_turn_245 : decode cX1_turn 245 = .ok (.isub, 1) := by decide +kernel
theorem dX1_turn_246 : decode cX1_turn 246 = .ok (.iand, 1) := by decide +kernel
theorem dX1_turn_247 : decode cX1_turn 247 = .ok (.istore 14, 2) := by decide +kernel
theorem dX1_turn_249 : decode cX1_turn 249 = .ok (.iinc 15 1, 3) := by decide +kernel
theorem dX1_turn_252 : decode cX1_turn 252 = .ok (.goto (-51), 3) := by decide +kernel
theorem dX1_turn_255 : decode cX1_turn 255 = .ok (.aload_n 0, 1) := by decide +kernel
theorem dX1_turn_256 : decode cX1_turn 256 = .ok (.getfield 16, 3) := by decide +kernel
theorem dX1_turn_259 : decode cX1_turn 259 = .ok (.iload 11, 2) := by decide +kernel
theorem dX1_turn_261 : decode cX1_turn 261 = .ok (.lload 12, 2) := by decide +kernel
theorem dX1_turn_263 : decode cX1_turn 263 = .ok (.lload 9, 2) := by decide +kernel
theorem dX1_turn_265 : decode cX1_turn 265 = .ok (.lmul, 1) := by decide +kernel
theorem dX1_turn_266 : decode cX1_turn 266 = .ok (.aload_n 0, 1) := by decide +kernel
theorem dX1_turn_267 : decode cX1_turn 267 = .ok (.getfield 27, 3) := by decide +kernel
theorem dX1_turn_270 : decode cX1_turn 270 = .ok (.lrem, 1) := by decide +kernel
theorem dX1_turn_271 : decode cX1_turn 271 = .ok (.lastore, 1) := by decide +kernel
theorem dX1_turn_272 : decode cX1_turn 272 = .ok (.iinc 11 1, 3) := by decide +kernel
theorem dX1_turn_275 : decode cX1_turn 275 = .ok (.goto (-89), 3) := by decide +kernel
theorem dX1_turn_278 : decode cX1_turn 278 = .ok (.iconst 0, 1) := by decide +kernel
theorem dX1_turn_279 : decode cX1_turn 279 = .ok (.istore 11, 2) := by decide +kernel
theorem dX1_turn_281 : decode cX1_turn 281 = .ok (.iload 11, 2) := by decide +kernel
theorem dX1_turn_283 : decode cX1_turn 283 = .ok (.iload_n 2, 1) := by decide +kernel
theorem dX1_turn_284 : decode cX1_turn 284 = .ok (.if_icmp .ge 29, 3) := by decide +kernel
theorem dX1_turn_287 : decode cX1_turn 287 = .ok (.aload_n 0, 1) := by decide +kernel
theorem dX1_turn_288 : decode cX1_turn 288 = .ok (.getfield 7, 3) := by decide +kernel
theorem dX1_turn_291 : decode cX1_turn 291 = .ok (.sipush 512, 3) := by decide +kernel
theorem dX1_turn_294 : decode cX1_turn 294 = .ok (.iload_n 1, 1) := by decide +kernel
theorem dX1_turn_295 : decode cX1_turn 295 = .ok (.imul, 1) := by decide +kernel
theorem dX1_turn_296 : decode cX1_turn 296 = .ok (.iload 11, 2) := by decide +kernel
theorem dX1_turn_298 : decode cX1_turn 298 = .ok (.iadd, 1) := by decide +kernel
theorem dX1_turn_299 : decode cX1_turn 299 = .ok (.aload_n 0, 1) := by decide +kernel
theorem dX1_turn_300 : decode cX1_turn 300 = .ok (.getfield 16, 3) := by decide +kernel
theorem dX1_turn_303 : decode cX1_turn 303 = .ok (.iload 11, 2) := by decide +kernel
theorem dX1_turn_305 : decode cX1_turn 305 = .ok (.laload, 1) := by decide +kernel
theorem dX1_turn_306 : decode cX1_turn 306 = .ok (.lastore, 1) := by decide +kernel
theorem dX1_turn_307 : decode cX1_turn 307 = .ok (.iinc 11 1, 3) := by decide +kernel
theorem dX1_turn_310 : decode cX1_turn 310 = .ok (.goto (-29), 3) := by decide +kernel
theorem dX1_turn_313 : decode cX1_turn 313 = .ok (.return_, 1) := by decide +kernel
set_option maxRecDepth 20000 in
theorem ggX1_product_X1_isRow : GoodIn wsX1_product wsX1_isRow := goodIn_r _ [8] (by decide +kernel) (by decide +kernel)
set_option maxRecDepth 20000 in
theorem gX1_product_X1_isRow : GoodIn wsX1_product (va_wsS RX1 63 yX1_isRow wsX1_isRow) := goodIn_app (goodIn_of _ (by decide +kernel)) ggX1_product_X1_isRow
set_option maxRecDepth 20000 in
theorem ggX1_product_X1_lengthOf : GoodIn wsX1_product wsX1_lengthOf := goodIn_r _ [12, 3, 13, 14, 15, 16, 17, 18, 19, 20] (by decide +kernel) (by decide +kernel)
set_option maxRecDepth 20000 in
theorem gX1_product_X1_lengthOf : GoodIn wsX1_product (wsV RX1 67 RX1 yX1_lengthOf wsX1_lengthOf) := goodIn_app (goodIn_of _ (by decide +kernel)) ggX1_product_X1_lengthOf
theorem dX1_product_0 : decode cX1_product 0 = .ok (.iload_n 1, 1) := by decide +kernel
theorem dX1_product_1 : decode cX1_product 1 = .ok (.invokestatic 63, 3) := by decide +kernel
theorem dX1_product_4 : decode cX1_product 4 = .ok (.ifCond .eq 21, 3) := by decide +kernel
theorem dX1_product_7 : decode cX1_product 7 = .ok (.iload_n 2, 1) := by decide +kernel
theorem dX1_product_8 : decode cX1_product 8 = .ok (.invokestatic 63, 3) := by decide +kernel
theorem dX1_product_11 : decode cX1_product 11 = .ok (.ifCond .eq 14, 3) := by decide +kernel
theorem dX1_product_14 : decode cX1_product 14 = .ok (.iload_n 3, 1) := by decide +kernel
theorem dX1_product_15 : decode cX1_product 15 = .ok (.invokestatic 63, 3) := by decide +kernel
theorem dX1_product_18 : decode cX1_product 18 = .ok (.ifCond .eq 7, 3) := by decide +kernel
theorem dX1_product_21 : decode cX1_product 21 = .ok (.iconst 1, 1) := by decide +kernel
theorem dX1_product_22 : decode cX1_product 22 = .ok (.goto 4, 3) := by decide +kernel
theorem dX1_product_25 : decode cX1_product 25 = .ok (.iconst 0, 1) := by decide +kernel
theorem dX1_product_26 : decode cX1_product 26 = .ok (.istore 4, 2) := by decide +kernel
theorem dX1_product_28 : decode cX1_product 28 = .ok (.iload 4, 2) := by decide +kernel
theorem dX1_product_30 : decode cX1_product 30 = .ok (.ifCond .eq 11, 3) := by decide +kernel
theorem dX1_product_33 : decode cX1_product 33 = .ok (.aload_n 0, 1) := by decide +kernel
theorem dX1_product_34 : decode cX1_product 34 = .ok (.iload_n 2, 1) := by decide +kernel
theorem dX1_product_35 : decode cX1_product 35 = .ok (.invokevirtual 67, 3) := by decide +kernel
theorem dX1_product_38 : decode cX1_product 38 = .ok (.goto 4, 3) := by decide +kernel
theorem dX1_product_41 : decode cX1_product 41 = .ok (.iconst 0, 1) := by decide +kernel
theorem dX1_product_42 : decode cX1_product 42 = .ok (.istore 5, 2) := by decide +kernel
theorem dX1_product_44 : decode cX1_product 44 = .ok (.iload 4, 2) := by decide +kernel
theorem dX1_product_46 : decode cX1_product 46 = .ok (.ifCond .eq 11, 3) := by decide +kernel
theorem dX1_product_49 : decode cX1_product 49 = .ok (.aload_n 0, 1) := by decide +kernel
theorem dX1_product_50 : decode cX1_product 50 = .ok (.iload_n 3, 1) := by decide +kernel
theorem dX1_product_51 : decode cX1_product 51 = .ok (.invokevirtual 67, 3) := by decide +kernel
theorem dX1_product_54 : decode cX1_product 54 = .ok (.goto 4, 3) := by decide +kernel
theorem dX1_product_57 : decode cX1_product 57 = .ok (.iconst 0, 1) := by decide +kernel
theorem dX1_product_58 : decode cX1_product 58 = .ok (.istore 6, 2) := by decide +kernel
theorem dX1_product_60 : decode cX1_product 60 = .ok (.aload_n 0, 1) := by decide +kernel
theorem dX1_product_61 : decode cX1_product 61 = .ok (.iload 4, 2) := by decide +kernel
theorem dX1_product_63 : decode cX1_product 63 = .ok (.ifCond .ne 7, 3) := by decide +kernel
theorem dX1_product_66 : decode cX1_product 66 = .ok (.iconst 1, 1) := by decide +kernel
theorem dX1_product_67 : decode cX1_product 67 = .ok (.goto 31, 3) := by decide +kernel
theorem dX1_product_70 : decode cX1_product 70 = .ok (.iload 5, 2) := by decide +kernel
theorem dX1_product_72 : decode cX1_product 72 = .ok (.ifCond .le 25, 3) := by decide +kernel
theorem dX1_product_75 : decode cX1_product 75 = .ok (.iload 6, 2) := by decide +kernel
theorem dX1_product_77 : decode cX1_product 77 = .ok (.ifCond .le 20, 3) := by decide +kernel
theorem dX1_product_80 : decode cX1_product 80 = .ok (.iload 5, 2) := by decide +kernel
theorem dX1_product_82 : decode cX1_product 82 = .ok (.iload 6, 2) := by decide +kernel
theorem dX1_product_84 : decode cX1_product 84 = .ok (.iadd, 1) := by decide +kernel
theorem dX1_product_85 : decode cX1_product 85 = .ok (.iconst 1, 1) := by decide +kernel
theorem dX1_product_86 : decode cX1_product 86 = .ok (.isub, 1) := by decide +kernel
theorem dX1_product_87 : decode cX1_product 87 = .ok (.sipush 512, 3) := by decide +kernel
theorem dX1_product_90 : decode cX1_product 90 = .ok (.if_icmp .le 7, 3) := by decide +kernel
theorem dX1_product_93 : decode cX1_product 93 = .ok (.iconst 2, 1) := by decide +kernel
theorem dX1_product_94 : decode cX1_product 94 = .ok (.goto 4, 3) := by decide +kernel
theorem dX1_product_97 : decode cX1_product 97 = .ok (.iconst 0, 1) := by decide +kernel
theorem dX1_product_98 : decode cX1_product 98 = .ok (.putfield 38, 3) := by decide +kernel
theorem dX1_product_101 : decode cX1_product 101 = .ok (.aload_n 0, 1) := by decide +kernel
theorem dX1_product_102 : decode cX1_product 102 = .ok (.getfield 38, 3) := by decide +kernel
theorem dX1_product_105 : decode cX1_product 105 = .ok (.ifCond .le 5, 3) := by decide +kernel
theorem dX1_product_108 : decode cX1_product 108 = .ok (.iconst 0, 1) := by decide +kernel
theorem dX1_product_109 : decode cX1_product 109 = .ok (.ireturn, 1) := by decide +kernel
theorem dX1_product_110 : decode cX1_product 110 = .ok (.iconst 0, 1) := by decide +kernel
theorem dX1_product_111 : decode cX1_product 111 = .ok (.istore 7, 2) := by decide +kernel
theorem dX1_product_113 : decode cX1_product 113 = .ok (.iload 7, 2) := by decide +kernel
theorem dX1_product_115 : decode cX1_product 115 = .ok (.sipush 512, 3) := by decide +kernel
theorem dX1_product_118 : decode cX1_product 118 = .ok (.if_icmp .ge 17, 3) := by decide +kernel
theorem dX1_product_121 : decode cX1_product 121 = .ok (.aload_n 0, 1) := by decide +kernel
theorem dX1_product_122 : decode cX1_product 122 = .ok (.getfield 16, 3) := by decide +kernel
theorem dX1_product_125 : decode cX1_product 125 = .ok (.iload 7, 2) := by decide +kernel
theorem dX1_product_127 : decode cX1_product 127 = .ok (.lconst 0, 1) := by decide +kernel
theorem dX1_product_128 : decode cX1_product 128 = .ok (.lastore, 1) := by decide +kernel
theorem dX1_product_129 : decode cX1_product 129 = .ok (.iinc 7 1, 3) := by decide +kernel
theorem dX1_product_132 : decode cX1_product 132 = .ok (.goto (-19), 3) := by decide +kernel
theorem dX1_product_135 : decode cX1_product 135 = .ok (.iconst 0, 1) := by decide +kernel
theorem dX1_product_136 : decode cX1_product 136 = .ok (.istore 7, 2) := by decide +kernel
theorem dX1_product_138 : decode cX1_product 138 = .ok (.iload 7, 2) := by decide +kernel
theorem dX1_product_140 : decode cX1_product 140 = .ok (.iload 5, 2) := by decide +kernel
theorem dX1_product_142 : decode cX1_product 142 = .ok (.if_icmp .ge 78, 3) := by decide +kernel
theorem dX1_product_145 : decode cX1_product 145 = .ok (.iconst 0, 1) := by decide +kernel
theorem dX1_product_146 : decode cX1_product 146 = .ok (.istore 8, 2) := by decide +kernel
theorem dX1_product_148 : decode cX1_product 148 = .ok (.iload 8, 2) := by decide +kernel
theorem dX1_product_150 : decode cX1_product 150 = .ok (.iload 6, 2) := by decide +kernel
theorem dX1_product_152 : decode cX1_product 152 = .ok (.if_icmp .ge 62, 3) := by decide +kernel
theorem dX1_product_155 : decode cX1_product 155 = .ok (.aload_n 0, 1) := by decide +kernel
theorem dX1_product_156 : decode cX1_product 156 = .ok (.getfield 16, 3) := by decide +kernel
theorem dX1_product_159 : decode cX1_product 159 = .ok (.iload 7, 2) := by decide +kernel
theorem dX1_product_161 : decode cX1_product 161 = .ok (.iload 8, 2) := by decide +kernel
theorem dX1_product_163 : decode cX1_product 163 = .ok (.iadd, 1) := by decide +kernel
theorem dX1_product_164 : decode cX1_product 164 = .ok (.aload_n 0, 1) := by decide +kernel
theorem dX1_product_165 : decode cX1_product 165 = .ok (.getfield 16, 3) := by decide +kernel
theorem dX1_product_168 : decode cX1_product 168 = .ok (.iload 7, 2) := by decide +kernel
theorem dX1_product_170 : decode cX1_product 170 = .ok (.iload 8, 2) := by decide +kernel
theorem dX1_product_172 : decode cX1_product 172 = .ok (.iadd, 1) := by decide +kernel
theorem dX1_product_173 : decode cX1_product 173 = .ok (.laload, 1) := by decide +kernel
theorem dX1_product_174 : decode cX1_product 174 = .ok (.aload_n 0, 1) := by decide +kernel
theorem dX1_product_175 : decode cX1_product 175 = .ok (.getfield 7, 3) := by decide +kernel
theorem dX1_product_178 : decode cX1_product 178 = .ok (.sipush 512, 3) := by decide +kernel
theorem dX1_product_181 : decode cX1_product 181 = .ok (.iload_n 2, 1) := by decide +kernel
theorem dX1_product_182 : decode cX1_product 182 = .ok (.imul, 1) := by decide +kernel
theorem dX1_product_183 : decode cX1_product 183 = .ok (.iload 7, 2) := by decide +kernel
theorem dX1_product_185 : decode cX1_product 185 = .ok (.iadd, 1) := by decide +kernel
theorem dX1_product_186 : decode cX1_product 186 = .ok (.laload, 1) := by decide +kernel
theorem dX1_product_187 : decode cX1_product 187 = .ok (.aload_n 0, 1) := by decide +kernel
theorem dX1_product_188 : decode cX1_product 188 = .ok (.getfield 7, 3) := by decide +kernel
theorem dX1_product_191 : decode cX1_product 191 = .ok (.sipush 512, 3) := by decide +kernel
theorem dX1_product_194 : decode cX1_product 194 = .ok (.iload_n 3, 1) := by decide +kernel
theorem dX1_product_195 : decode cX1_product 195 = .ok (.imul, 1) := by decide +kernel
theorem dX1_product_196 : decode cX1_product 196 = .ok (.iload 8, 2) := by decide +kernel
theorem dX1_product_198 : decode cX1_product 198 = .ok (.iadd, 1) := by decide +kernel
theorem dX1_product_199 : decode cX1_product 199 = .ok (.laload, 1) := by decide +kernel
theorem dX1_product_200 : decode cX1_product 200 = .ok (.lmul, 1) := by decide +kernel
theorem dX1_product_201 : decode cX1_product 201 = .ok (.ladd, 1) := by decide +kernel
theorem dX1_product_202 : decode cX1_product 202 = .ok (.aload_n 0, 1) := by decide +kernel
theorem dX1_product_203 : decode cX1_product 203 = .ok (.getfield 27, 3) := by decide +kernel
theorem dX1_product_206 : decode cX1_product 206 = .ok (.lrem, 1) := by decide +kernel
theorem dX1_product_207 : decode cX1_product 207 = .ok (.lastore, 1) := by decide +kernel
theorem dX1_product_208 : decode cX1_product 208 = .ok (.iinc 8 1, 3) := by decide +kernel
theorem dX1_product_211 : decode cX1_product 211 = .ok (.goto (-63), 3) := by decide +kernel
theorem dX1_product_214 : decode cX1_product 214 = .ok (.iinc 7 1, 3) := by decide +kernel
theorem dX1_product_217 : decode cX1_product 217 = .ok (.goto (-79), 3) := by decide +kernel
theorem dX1_product_220 : decode cX1_product 220 = .ok (.iconst 0, 1) := by decide +kernel
theorem dX1_product_221 : decode cX1_product 221 = .ok (.istore 7, 2) := by decide +kernel
theorem dX1_product_223 : decode cX1_product 223 = .ok (.iload 7, 2) := by decide +kernel
theorem dX1_product_225 : decode cX1_product 225 = .ok (.sipush 512, 3) := by decide +kernel
theorem dX1_product_228 : decode cX1_product 228 = .ok (.if_icmp .ge 29, 3) := by decide +kernel
theorem dX1_product_231 : decode cX1_product 231 = .ok (.aload_n 0, 1) := by decide +kernel
theorem dX1_product_232 : decode cX1_product 232 = .ok (.getfield 7, 3) := by decide +kernel
theorem dX1_product_235 : decode cX1_product 235 = .ok (.sipush 512, 3) := by decide +kernel
theorem dX1_product_238 : decode cX1_product 238 = .ok (.iload_n 1, 1) := by decide +kernel
theorem dX1_product_239 : decode cX1_product 239 = .ok (.imul, 1) := by decide +kernel
theorem dX1_product_240 : decode cX1_product 240 = .ok (.iload 7, 2) := by decide +kernel
theorem dX1_product_242 : decode cX1_product 242 = .ok (.iadd, 1) := by decide +kernel
theorem dX1_product_243 : decode cX1_product 243 = .ok (.aload_n 0, 1) := by decide +kernel
theorem dX1_product_244 : decode cX1_product 244 = .ok (.getfield 16, 3) := by decide +kernel
theorem dX1_product_247 : decode cX1_product 247 = .ok (.iload 7, 2) := by decide +kernel
theorem dX1_product_249 : decode cX1_product 249 = .ok (.laload, 1) := by decide +kernel
theorem dX1_product_250 : decode cX1_product 250 = .ok (.lastore, 1) := by decide +kernel
theorem dX1_product_251 : decode cX1_product 251 = .ok (.iinc 7 1, 3) := by decide +kernel
theorem dX1_product_254 : decode cX1_product 254 = .ok (.goto (-31), 3) := by decide +kernel
theorem dX1_product_257 : decode cX1_product 257 = .ok (.aload_n 0, 1) := by decide +kernel
theorem dX1_product_258 : decode cX1_product 258 = .ok (.iload_n 1, 1) := by decide +kernel
theorem dX1_product_259 : decode cX1_product 259 = .ok (.invokevirtual 67, 3) := by decide +kernel
theorem dX1_product_262 : decode cX1_product 262 = .ok (.ireturn, 1) := by decide +kernel
set_option maxRecDepth 20000 in
theorem ggX1_at_X1_isRow : GoodIn wsX1_at wsX1_isRow := goodIn_r _ [7] (by decide +kernel) (by decide +kernel)
set_option maxRecDepth 20000 in
theorem gX1_at_X1_isRow : GoodIn wsX1_at (va_wsS RX1 63 yX1_isRow wsX1_isRow) := goodIn_app (goodIn_of _ (by decide +kernel)) ggX1_at_X1_isRow
set_option maxRecDepth 20000 in
theorem ggX1_at_X1_rest : GoodIn wsX1_at wsX1_rest := goodIn_r _ [11, 3, 12, 13, 14, 15, 16, 17, 18, 19] (by decide +kernel) (by decide +kernel)
set_option maxRecDepth 20000 in
theorem gX1_at_X1_rest : GoodIn wsX1_at (wsV RX1 60 RX1 yX1_rest wsX1_rest) := goodIn_app (goodIn_of _ (by decide +kernel)) ggX1_at_X1_rest
theorem dX1_at_0 : decode cX1_at 0 = .ok (.aload_n 0, 1) := by decide +kernel
theorem dX1_at_1 : decode cX1_at 1 = .ok (.iload_n 1, 1) := by decide +kernel
theorem dX1_at_2 : decode cX1_at 2 = .ok (.invokestatic 63, 3) := by decide +kernel
theorem dX1_at_5 : decode cX1_at 5 = .ok (.ifCond .eq 7, 3) := by decide +kernel
theorem dX1_at_8 : decode cX1_at 8 = .ok (.iconst 0, 1) := by decide +kernel
theorem dX1_at_9 : decode cX1_at 9 = .ok (.goto 4, 3) := by decide +kernel
theorem dX1_at_12 : decode cX1_at 12 = .ok (.iconst 1, 1) := by decide +kernel
theorem dX1_at_13 : decode cX1_at 13 = .ok (.putfield 38, 3) := by decide +kernel
theorem dX1_at_16 : decode cX1_at 16 = .ok (.lconst 0, 1) := by decide +kernel
theorem dX1_at_17 : decode cX1_at 17 = .ok (.lstore 4, 2) := by decide +kernel
theorem dX1_at_19 : decode cX1_at 19 = .ok (.aload_n 0, 1) := by decide +kernel
theorem dX1_at_20 : decode cX1_at 20 = .ok (.lload_n 2, 1) := by decide +kernel
theorem dX1_at_21 : decode cX1_at 21 = .ok (.invokevirtual 60, 3) := by decide +kernel
theorem dX1_at_24 : decode cX1_at 24 = .ok (.lstore 6, 2) := by decide +kernel
theorem dX1_at_26 : decode cX1_at 26 = .ok (.sipush 511, 3) := by decide +kernel
theorem dX1_at_29 : decode cX1_at 29 = .ok (.istore 8, 2) := by decide +kernel
theorem dX1_at_31 : decode cX1_at 31 = .ok (.iload 8, 2) := by decide +kernel
theorem dX1_at_33 : decode cX1_at 33 = .ok (.ifCond .lt 42, 3) := by decide +kernel
theorem dX1_at_36 : decode cX1_at 36 = .ok (.aload_n 0, 1) := by decide +kernel
theorem dX1_at_37 : decode cX1_at 37 = .ok (.getfield 38, 3) := by decide +kernel
theorem dX1_at_40 : decode cX1_at 40 = .ok (.ifCond .ne 35, 3) := by decide +kernel
theorem dX1_at_43 : decode cX1_at 43 = .ok (.lload 4, 2) := by decide +kernel
theorem dX1_at_45 : decode cX1_at 45 = .ok (.lload 6, 2) := by decide +kernel
theorem dX1_at_47 : decode cX1_at 47 = .ok (.lmul, 1) := by decide +kernel
theorem dX1_at_48 : decode cX1_at 48 = .ok (.aload_n 0, 1) := by decide +kernel
theorem dX1_at_49 : decode cX1_at 49 = .ok (.getfield 7, 3) := by decide +kernel
theorem dX1_at_52 : decode cX1_at 52 = .ok (.sipush 512, 3) := by decide +kernel
theorem dX1_at_55 : decode cX1_at 55 = .ok (.iload_n 1, 1) := by decide +kernel
theorem dX1_at_56 : decode cX1_at 56 = .ok (.imul, 1) := by decide +kernel
theorem dX1_at_57 : decode cX1_at 57 = .ok (.iload 8, 2) := by decide +kernel
theorem dX1_at_59 : decode cX1_at 59 = .ok (.iadd, 1) := by decide +kernel
theorem dX1_at_60 : decode cX1_at 60 = .ok (.laload, 1) := by decide +kernel
theorem dX1_at_61 : decode cX1_at 61 = .ok (.ladd, 1) := by decide +kernel
theorem dX1_at_62 : decode cX1_at 62 = .ok (.aload_n 0, 1) := by decide +kernel
theorem dX1_at_63 : decode cX1_at 63 = .ok (.getfield 27, 3) := by decide +kernel
theorem dX1_at_66 : decode cX1_at 66 = .ok (.lrem, 1) := by decide +kernel
theorem dX1_at_67 : decode cX1_at 67 = .ok (.lstore 4, 2) := by decide +kernel
theorem dX1_at_69 : decode cX1_at 69 = .ok (.iinc 8 (-1), 3) := by decide +kernel
theorem dX1_at_72 : decode cX1_at 72 = .ok (.goto (-41), 3) := by decide +kernel
theorem dX1_at_75 : decode cX1_at 75 = .ok (.lload 4, 2) := by decide +kernel
theorem dX1_at_77 : decode cX1_at 77 = .ok (.lreturn, 1) := by decide +kernel
set_option maxRecDepth 20000 in
theorem ggX1_word_X1_isRow : GoodIn wsX1_word wsX1_isRow := goodIn_r _ [7] (by decide +kernel) (by decide +kernel)
set_option maxRecDepth 20000 in
theorem gX1_word_X1_isRow : GoodIn wsX1_word (va_wsS RX1 63 yX1_isRow wsX1_isRow) := goodIn_app (goodIn_of _ (by decide +kernel)) ggX1_word_X1_isRow
theorem dX1_word_0 : decode cX1_word 0 = .ok (.aload_n 0, 1) := by decide +kernel
theorem dX1_word_1 : decode cX1_word 1 = .ok (.iload_n 1, 1) := by decide +kernel
theorem dX1_word_2 : decode cX1_word 2 = .ok (.invokestatic 63, 3) := by decide +kernel
theorem dX1_word_5 : decode cX1_word 5 = .ok (.ifCond .eq 18, 3) := by decide +kernel
theorem dX1_word_8 : decode cX1_word 8 = .ok (.iload_n 2, 1) := by decide +kernel
theorem dX1_word_9 : decode cX1_word 9 = .ok (.ifCond .lt 14, 3) := by decide +kernel
theorem dX1_word_12 : decode cX1_word 12 = .ok (.iload_n 2, 1) := by decide +kernel
theorem dX1_word_13 : decode cX1_word 13 = .ok (.sipush 240, 3) := by decide +kernel
theorem dX1_word_16 : decode cX1_word 16 = .ok (.if_icmp .ge 7, 3) := by decide +kernel
theorem dX1_word_19 : decode cX1_word 19 = .ok (.iconst 0, 1) := by decide +kernel
theorem dX1_word_20 : decode cX1_word 20 = .ok (.goto 4, 3) := by decide +kernel
theorem dX1_word_23 : decode cX1_word 23 = .ok (.iconst 1, 1) := by decide +kernel
theorem dX1_word_24 : decode cX1_word 24 = .ok (.putfield 38, 3) := by decide +kernel
theorem dX1_word_27 : decode cX1_word 27 = .ok (.aload_n 0, 1) := by decide +kernel
theorem dX1_word_28 : decode cX1_word 28 = .ok (.getfield 38, 3) := by decide +kernel
theorem dX1_word_31 : decode cX1_word 31 = .ok (.ifCond .le 5, 3) := by decide +kernel
theorem dX1_word_34 : decode cX1_word 34 = .ok (.iconst 0, 1) := by decide +kernel
theorem dX1_word_35 : decode cX1_word 35 = .ok (.ireturn, 1) := by decide +kernel
theorem dX1_word_36 : decode cX1_word 36 = .ok (.sipush 240, 3) := by decide +kernel
theorem dX1_word_39 : decode cX1_word 39 = .ok (.iload_n 1, 1) := by decide +kernel
theorem dX1_word_40 : decode cX1_word 40 = .ok (.imul, 1) := by decide +kernel
theorem dX1_word_41 : decode cX1_word 41 = .ok (.iload_n 2, 1) := by decide +kernel
theorem dX1_word_42 : decode cX1_word 42 = .ok (.iadd, 1) := by decide +kernel
theorem dX1_word_43 : decode cX1_word 43 = .ok (.istore 5, 2) := by decide +kernel
theorem dX1_word_45 : decode cX1_word 45 = .ok (.aload_n 0, 1) := by decide +kernel
theorem dX1_word_46 : decode cX1_word 46 = .ok (.getfield 13, 3) := by decide +kernel
theorem dX1_word_49 : decode cX1_word 49 = .ok (.iload 5, 2) := by decide +kernel
theorem dX1_word_51 : decode cX1_word 51 = .ok (.laload, 1) := by decide +kernel
theorem dX1_word_52 : decode cX1_word 52 = .ok (.lload_n 3, 1) := by decide +kernel
theorem dX1_word_53 : decode cX1_word 53 = .ok (.ldc2_w 71, 3) := by decide +kernel
theorem dX1_word_56 : decode cX1_word 56 = .ok (.land, 1) := by decide +kernel
theorem dX1_word_57 : decode cX1_word 57 = .ok (.lcmp, 1) := by decide +kernel
theorem dX1_word_58 : decode cX1_word 58 = .ok (.ifCond .eq 7, 3) := by decide +kernel
theorem dX1_word_61 : decode cX1_word 61 = .ok (.iconst 1, 1) := by decide +kernel
theorem dX1_word_62 : decode cX1_word 62 = .ok (.goto 4, 3) := by decide +kernel
theorem dX1_word_65 : decode cX1_word 65 = .ok (.iconst 0, 1) := by decide +kernel
theorem dX1_word_66 : decode cX1_word 66 = .ok (.istore 6, 2) := by decide +kernel
theorem dX1_word_68 : decode cX1_word 68 = .ok (.aload_n 0, 1) := by decide +kernel
theorem dX1_word_69 : decode cX1_word 69 = .ok (.getfield 13, 3) := by decide +kernel
theorem dX1_word_72 : decode cX1_word 72 = .ok (.iload 5, 2) := by decide +kernel
theorem dX1_word_74 : decode cX1_word 74 = .ok (.lload_n 3, 1) := by decide +kernel
theorem dX1_word_75 : decode cX1_word 75 = .ok (.ldc2_w 71, 3) := by decide +kernel
theorem dX1_word_78 : decode cX1_word 78 = .ok (.land, 1) := by decide +kernel
theorem dX1_word_79 : decode cX1_word 79 = .ok (.lastore, 1) := by decide +kernel
theorem dX1_word_80 : decode cX1_word 80 = .ok (.iload 6, 2) := by decide +kernel
theorem dX1_word_82 : decode cX1_word 82 = .ok (.ireturn, 1) := by decide +kernel
set_option maxRecDepth 20000 in
theorem ggX1_wordAt_X1_isRow : GoodIn wsX1_wordAt wsX1_isRow := goodIn_r _ [6] (by decide +kernel) (by decide +kernel)
set_option maxRecDepth 20000 in
theorem gX1_wordAt_X1_isRow : GoodIn wsX1_wordAt (va_wsS RX1 63 yX1_isRow wsX1_isRow) := goodIn_app (goodIn_of _ (by decide +kernel)) ggX1_wordAt_X1_isRow
theorem dX1_wordAt_0 : decode cX1_wordAt 0 = .ok (.aload_n 0, 1) := by decide +kernel
theorem dX1_wordAt_1 : decode cX1_wordAt 1 = .ok (.iload_n 1, 1) := by decide +kernel
theorem dX1_wordAt_2 : decode cX1_wordAt 2 = .ok (.invokestatic 63, 3) := by decide +kernel
theorem dX1_wordAt_5 : decode cX1_wordAt 5 = .ok (.ifCond .eq 18, 3) := by decide +kernel
theorem dX1_wordAt_8 : decode cX1_wordAt 8 = .ok (.iload_n 2, 1) := by decide +kernel
theorem dX1_wordAt_9 : decode cX1_wordAt 9 = .ok (.ifCond .lt 14, 3) := by decide +kernel
theorem dX1_wordAt_12 : decode cX1_wordAt 12 = .ok (.iload_n 2, 1) := by decide +kernel
theorem dX1_wordAt_13 : decode cX1_wordAt 13 = .ok (.sipush 240, 3) := by decide +kernel
theorem dX1_wordAt_16 : decode cX1_wordAt 16 = .ok (.if_icmp .ge 7, 3) := by decide +kernel
theorem dX1_wordAt_19 : decode cX1_wordAt 19 = .ok (.iconst 0, 1) := by decide +kernel
theorem dX1_wordAt_20 : decode cX1_wordAt 20 = .ok (.goto 4, 3) := by decide +kernel
theorem dX1_wordAt_23 : decode cX1_wordAt 23 = .ok (.iconst 1, 1) := by decide +kernel
theorem dX1_wordAt_24 : decode cX1_wordAt 24 = .ok (.putfield 38, 3) := by decide +kernel
theorem dX1_wordAt_27 : decode cX1_wordAt 27 = .ok (.aload_n 0, 1) := by decide +kernel
theorem dX1_wordAt_28 : decode cX1_wordAt 28 = .ok (.getfield 38, 3) := by decide +kernel
theorem dX1_wordAt_31 : decode cX1_wordAt 31 = .ok (.ifCond .le 7, 3) := by decide +kernel
theorem dX1_wordAt_34 : decode cX1_wordAt 34 = .ok (.lconst 0, 1) := by decide +kernel
theorem dX1_wordAt_35 : decode cX1_wordAt 35 = .ok (.goto 15, 3) := by decide +kernel
theorem dX1_wordAt_38 : decode cX1_wordAt 38 = .ok (.aload_n 0, 1) := by decide +kernel
theorem dX1_wordAt_39 : decode cX1_wordAt 39 = .ok (.getfield 13, 3) := by decide +kernel
theorem dX1_wordAt_42 : decode cX1_wordAt 42 = .ok (.sipush 240, 3) := by decide +kernel
theorem dX1_wordAt_45 : decode cX1_wordAt 45 = .ok (.iload_n 1, 1) := by decide +kernel
theorem dX1_wordAt_46 : decode cX1_wordAt 46 = .ok (.imul, 1) := by decide +kernel
theorem dX1_wordAt_47 : decode cX1_wordAt 47 = .ok (.iload_n 2, 1) := by decide +kernel
theorem dX1_wordAt_48 : decode cX1_wordAt 48 = .ok (.iadd, 1) := by decide +kernel
theorem dX1_wordAt_49 : decode cX1_wordAt 49 = .ok (.laload, 1) := by decide +kernel
theorem dX1_wordAt_50 : decode cX1_wordAt 50 = .ok (.lreturn, 1) := by decide +kernel
theorem dX1_sizeOf_0 : decode cX1_sizeOf 0 = .ok (.sipush 240, 3) := by decide +kernel
theorem dX1_sizeOf_3 : decode cX1_sizeOf 3 = .ok (.istore_n 2, 1) := by decide +kernel
theorem dX1_sizeOf_4 : decode cX1_sizeOf 4 = .ok (.iload_n 2, 1) := by decide +kernel
theorem dX1_sizeOf_5 : decode cX1_sizeOf 5 = .ok (.ifCond .le 28, 3) := by decide +kernel
theorem dX1_sizeOf_8 : decode cX1_sizeOf 8 = .ok (.aload_n 0, 1) := by decide +kernel
theorem dX1_sizeOf_9 : decode cX1_sizeOf 9 = .ok (.getfield 13, 3) := by decide +kernel
theorem dX1_sizeOf_12 : decode cX1_sizeOf 12 = .ok (.sipush 240, 3) := by decide +kernel
theorem dX1_sizeOf_15 : decode cX1_sizeOf 15 = .ok (.iload_n 1, 1) := by decide +kernel
theorem dX1_sizeOf_16 : decode cX1_sizeOf 16 = .ok (.imul, 1) := by decide +kernel
theorem dX1_sizeOf_17 : decode cX1_sizeOf 17 = .ok (.iload_n 2, 1) := by decide +kernel
theorem dX1_sizeOf_18 : decode cX1_sizeOf 18 = .ok (.iadd, 1) := by decide +kernel
theorem dX1_sizeOf_19 : decode cX1_sizeOf 19 = .ok (.iconst 1, 1) := by decide +kernel
theorem dX1_sizeOf_20 : decode cX1_sizeOf 20 = .ok (.isub, 1) := by decide +kernel
theorem dX1_sizeOf_21 : decode cX1_sizeOf 21 = .ok (.laload, 1) := by decide +kernel
theorem dX1_sizeOf_22 : decode cX1_sizeOf 22 = .ok (.lconst 0, 1) := by decide +kernel
theorem dX1_sizeOf_23 : decode cX1_sizeOf 23 = .ok (.lcmp, 1) := by decide +kernel
theorem dX1_sizeOf_24 : decode cX1_sizeOf 24 = .ok (.ifCond .ne 9, 3) := by decide +kernel
theorem dX1_sizeOf_27 : decode cX1_sizeOf 27 = .ok (.iinc 2 (-1), 3) := by decide +kernel
theorem dX1_sizeOf_30 : decode cX1_sizeOf 30 = .ok (.goto (-26), 3) := by decide +kernel
theorem dX1_sizeOf_33 : decode cX1_sizeOf 33 = .ok (.iload_n 2, 1) := by decide +kernel
theorem dX1_sizeOf_34 : decode cX1_sizeOf 34 = .ok (.ireturn, 1) := by decide +kernel
set_option maxRecDepth 20000 in
theorem ggX1_size_X1_isRow : GoodIn wsX1_size wsX1_isRow := goodIn_r _ [5] (by decide +kernel) (by decide +kernel)
set_option maxRecDepth 20000 in
theorem gX1_size_X1_isRow : GoodIn wsX1_size (va_wsS RX1 63 yX1_isRow wsX1_isRow) := goodIn_app (goodIn_of _ (by decide +kernel)) ggX1_size_X1_isRow
set_option maxRecDepth 20000 in
theorem ggX1_size_X1_sizeOf : GoodIn wsX1_size wsX1_sizeOf := goodIn_r _ [9, 10, 11, 12, 13, 14, 15, 16, 17, 18] (by decide +kernel) (by decide +kernel)
set_option maxRecDepth 20000 in
theorem gX1_size_X1_sizeOf : GoodIn wsX1_size (wsV RX1 73 RX1 yX1_sizeOf wsX1_sizeOf) := goodIn_app (goodIn_of _ (by decide +kernel)) ggX1_size_X1_sizeOf
theorem dX1_size_0 : decode cX1_size 0 = .ok (.aload_n 0, 1) := by decide +kernel
theorem dX1_size_1 : decode cX1_size 1 = .ok (.iload_n 1, 1) := by decide +kernel
theorem dX1_size_2 : decode cX1_size 2 = .ok (.invokestatic 63, 3) := by decide +kernel
theorem dX1_size_5 : decode cX1_size 5 = .ok (.ifCond .eq 7, 3) := by decide +kernel
theorem dX1_size_8 : decode cX1_size 8 = .ok (.iconst 0, 1) := by decide +kernel
theorem dX1_size_9 : decode cX1_size 9 = .ok (.goto 4, 3) := by decide +kernel
theorem dX1_size_12 : decode cX1_size 12 = .ok (.iconst 1, 1) := by decide +kernel
theorem dX1_size_13 : decode cX1_size 13 = .ok (.putfield 38, 3) := by decide +kernel
theorem dX1_size_16 : decode cX1_size 16 = .ok (.aload_n 0, 1) := by decide +kernel
theorem dX1_size_17 : decode cX1_size 17 = .ok (.getfield 38, 3) := by decide +kernel
theorem dX1_size_20 : decode cX1_size 20 = .ok (.ifCond .le 7, 3) := by decide +kernel
theorem dX1_size_23 : decode cX1_size 23 = .ok (.iconst 0, 1) := by decide +kernel
theorem dX1_size_24 : decode cX1_size 24 = .ok (.goto 8, 3) := by decide +kernel
theorem dX1_size_27 : decode cX1_size 27 = .ok (.aload_n 0, 1) := by decide +kernel
theorem dX1_size_28 : decode cX1_size 28 = .ok (.iload_n 1, 1) := by decide +kernel
theorem dX1_size_29 : decode cX1_size 29 = .ok (.invokevirtual 73, 3) := by decide +kernel
theorem dX1_size_32 : decode cX1_size 32 = .ok (.ireturn, 1) := by decide +kernel
theorem dX1_clearSums_0 : decode cX1_clearSums 0 = .ok (.iconst 0, 1) := by decide +kernel
theorem dX1_clearSums_1 : decode cX1_clearSums 1 = .ok (.istore_n 1, 1) := by decide +kernel
theorem dX1_clearSums_2 : decode cX1_clearSums 2 = .ok (.iload_n 1, 1) := by decide +kernel
theorem dX1_clearSums_3 : decode cX1_clearSums 3 = .ok (.sipush 240, 3) := by decide +kernel
theorem dX1_clearSums_6 : decode cX1_clearSums 6 = .ok (.if_icmp .gt 16, 3) := by decide +kernel
theorem dX1_clearSums_9 : decode cX1_clearSums 9 = .ok (.aload_n 0, 1) := by decide +kernel
theorem dX1_clearSums_10 : decode cX1_clearSums 10 = .ok (.getfield 22, 3) := by decide +kernel
theorem dX1_clearSums_13 : decode cX1_clearSums 13 = .ok (.iload_n 1, 1) := by decide +kernel
theorem dX1_clearSums_14 : decode cX1_clearSums 14 = .ok (.lconst 0, 1) := by decide +kernel
theorem dX1_clearSums_15 : decode cX1_clearSums 15 = .ok (.lastore, 1) := by decide +kernel
theorem dX1_clearSums_16 : decode cX1_clearSums 16 = .ok (.iinc 1 1, 3) := by decide +kernel
theorem dX1_clearSums_19 : decode cX1_clearSums 19 = .ok (.goto (-17), 3) := by decide +kernel
theorem dX1_clearSums_22 : decode cX1_clearSums 22 = .ok (.return_, 1) := by decide +kernel
set_option maxRecDepth 20000 in
theorem ggX1_take_X1_sizeOf : GoodIn wsX1_take wsX1_sizeOf := goodIn_r _ [7, 1, 8, 9, 10, 11, 12, 13, 14, 15] (by decide +kernel) (by decide +kernel)
set_option maxRecDepth 20000 in
theorem gX1_take_X1_sizeOf : GoodIn wsX1_take (wsV RX1 73 RX1 yX1_sizeOf wsX1_sizeOf) := goodIn_app (goodIn_of _ (by decide +kernel)) ggX1_take_X1_sizeOf
theorem dX1_take_0 : decode cX1_take 0 = .ok (.iconst 0, 1) := by decide +kernel
theorem dX1_take_1 : decode cX1_take 1 = .ok (.istore_n 2, 1) := by decide +kernel
theorem dX1_take_2 : decode cX1_take 2 = .ok (.iload_n 2, 1) := by decide +kernel
theorem dX1_take_3 : decode cX1_take 3 = .ok (.sipush 240, 3) := by decide +kernel
theorem dX1_take_6 : decode cX1_take 6 = .ok (.if_icmp .ge 27, 3) := by decide +kernel
theorem dX1_take_9 : decode cX1_take 9 = .ok (.aload_n 0, 1) := by decide +kernel
theorem dX1_take_10 : decode cX1_take 10 = .ok (.getfield 13, 3) := by decide +kernel
theorem dX1_take_13 : decode cX1_take 13 = .ok (.sipush 240, 3) := by decide +kernel
theorem dX1_take_16 : decode cX1_take 16 = .ok (.iload_n 1, 1) := by decide +kernel
theorem dX1_take_17 : decode cX1_take 17 = .ok (.imul, 1) := by decide +kernel
theorem dX1_take_18 : decode cX1_take 18 = .ok (.iload_n 2, 1) := by decide +kernel
theorem dX1_take_19 : decode cX1_take 19 = .ok (.iadd, 1) := by decide +kernel
theorem dX1_take_20 : decode cX1_take 20 = .ok (.aload_n 0, 1) := by decide +kernel
theorem dX1_take_21 : decode cX1_take 21 = .ok (.getfield 22, 3) := by decide +kernel
theorem dX1_take_24 : decode cX1_take 24 = .ok (.iload_n 2, 1) := by decide +kernel
theorem dX1_take_25 : decode cX1_take 25 = .ok (.laload, 1) := by decide +kernel
theorem dX1_take_26 : decode cX1_take 26 = .ok (.lastore, 1) := by decide +kernel
theorem dX1_take_27 : decode cX1_take 27 = .ok (.iinc 2 1, 3) := by decide +kernel
theorem dX1_take_30 : decode cX1_take 30 = .ok (.goto (-28), 3) := by decide +kernel
theorem dX1_take_33 : decode cX1_take 33 = .ok (.aload_n 0, 1) := by decide +kernel
theorem dX1_take_34 : decode cX1_take 34 = .ok (.iload_n 1, 1) := by decide +kernel
theorem dX1_take_35 : decode cX1_take 35 = .ok (.invokevirtual 73, 3) := by decide +kernel
theorem dX1_take_38 : decode cX1_take 38 = .ok (.ireturn, 1) := by decide +kernel
set_option maxRecDepth 20000 in
theorem ggX1_multiply_X1_isRow : GoodIn wsX1_multiply wsX1_isRow := goodIn_r _ [8] (by decide +kernel) (by decide +kernel)
set_option maxRecDepth 20000 in
theorem gX1_multiply_X1_isRow : GoodIn wsX1_multiply (va_wsS RX1 63 yX1_isRow wsX1_isRow) := goodIn_app (goodIn_of _ (by decide +kernel)) ggX1_multiply_X1_isRow
set_option maxRecDepth 20000 in
theorem ggX1_multiply_X1_sizeOf : GoodIn wsX1_multiply wsX1_sizeOf := goodIn_r _ [12, 2, 21, 22, 23, 24, 25, 26, 27, 28] (by decide +kernel) (by decide +kernel)
set_option maxRecDepth 20000 in
theorem gX1_multiply_X1_sizeOf : GoodIn wsX1_multiply (wsV RX1 73 RX1 yX1_sizeOf wsX1_sizeOf) := goodIn_app (goodIn_of _ (by decide +kernel)) ggX1_multiply_X1_sizeOf
set_option maxRecDepth 20000 in
theorem ggX1_multiply_X1_clearSums : GoodIn wsX1_multiply wsX1_clearSums := goodIn_r _ [16, 3, 21, 22, 23, 24, 25, 26, 27, 28] (by decide +kernel) (by decide +kernel)
set_option maxRecDepth 20000 in
theorem gX1_multiply_X1_clearSums : GoodIn wsX1_multiply (wsV RX1 76 RX1 yX1_clearSums wsX1_clearSums) := goodIn_app (goodIn_of _ (by decide +kernel)) ggX1_multiply_X1_clearSums
set_option maxRecDepth 20000 in
theorem ggX1_multiply_X1_take : GoodIn wsX1_multiply wsX1_take := goodIn_r _ [20, 2, 3, 9, 10, 11, 7, 12, 21, 22, 23, 24, 25, 26, 27, 28] (by decide +kernel) (by decide +kernel)
set_option maxRecDepth 20000 in
theorem gX1_multiply_X1_take : GoodIn wsX1_multiply (wsV RX1 79 RX1 yX1_take wsX1_take) := goodIn_app (goodIn_of _ (by decide +kernel)) ggX1_multiply_X1_take
theorem dX1_multiply_0 : decode cX1_multiply 0 = .ok (.iload_n 1, 1) := by decide +kernel
theorem dX1_multiply_1 : decode cX1_multiply 1 = .ok (.invokestatic 63, 3) := by decide +kernel
theorem dX1_multiply_4 : decode cX1_multiply 4 = .ok (.ifCond .eq 21, 3) := by decide +kernel
theorem dX1_multiply_7 : decode cX1_multiply 7 = .ok (.iload_n 2, 1) := by decide +kernel
theorem dX1_multiply_8 : decode cX1_multiply 8 = .ok (.invokestatic 63, 3) := by decide +kernel
theorem dX1_multiply_11 : decode cX1_multiply 11 = .ok (.ifCond .eq 14, 3) := by decide +kernel
theorem dX1_multiply_14 : decode cX1_multiply 14 = .ok (.iload_n 3, 1) := by decide +kernel
theorem dX1_multiply_15 : decode cX1_multiply 15 = .ok (.invokestatic 63, 3) := by decide +kernel
theorem dX1_multiply_18 : decode cX1_multiply 18 = .ok (.ifCond .eq 7, 3) := by decide +kernel
theorem dX1_multiply_21 : decode cX1_multiply 21 = .ok (.iconst 1, 1) := by decide +kernel
theorem dX1_multiply_22 : decode cX1_multiply 22 = .ok (.goto 4, 3) := by decide +kernel
theorem dX1_multiply_25 : decode cX1_multiply 25 = .ok (.iconst 0, 1) := by decide +kernel
theorem dX1_multiply_26 : decode cX1_multiply 26 = .ok (.istore 4, 2) := by decide +kernel
theorem dX1_multiply_28 : decode cX1_multiply 28 = .ok (.iload 4, 2) := by decide +kernel
theorem dX1_multiply_30 : decode cX1_multiply 30 = .ok (.ifCond .eq 11, 3) := by decide +kernel
theorem dX1_multiply_33 : decode cX1_multiply 33 = .ok (.aload_n 0, 1) := by decide +kernel
theorem dX1_multiply_34 : decode cX1_multiply 34 = .ok (.iload_n 2, 1) := by decide +kernel
theorem dX1_multiply_35 : decode cX1_multiply 35 = .ok (.invokevirtual 73, 3) := by decide +kernel
theorem dX1_multiply_38 : decode cX1_multiply 38 = .ok (.goto 4, 3) := by decide +kernel
theorem dX1_multiply_41 : decode cX1_multiply 41 = .ok (.iconst 0, 1) := by decide +kernel
theorem dX1_multiply_42 : decode cX1_multiply 42 = .ok (.istore 5, 2) := by decide +kernel
theorem dX1_multiply_44 : decode cX1_multiply 44 = .ok (.iload 4, 2) := by decide +kernel
theorem dX1_multiply_46 : decode cX1_multiply 46 = .ok (.ifCond .eq 11, 3) := by decide +kernel
theorem dX1_multiply_49 : decode cX1_multiply 49 = .ok (.aload_n 0, 1) := by decide +kernel
theorem dX1_multiply_50 : decode cX1_multiply 50 = .ok (.iload_n 3, 1) := by decide +kernel
theorem dX1_multiply_51 : decode cX1_multiply 51 = .ok (.invokevirtual 73, 3) := by decide +kernel
theorem dX1_multiply_54 : decode cX1_multiply 54 = .ok (.goto 4, 3) := by decide +kernel
theorem dX1_multiply_57 : decode cX1_multiply 57 = .ok (.iconst 0, 1) := by decide +kernel
theorem dX1_multiply_58 : decode cX1_multiply 58 = .ok (.istore 6, 2) := by decide +kernel
theorem dX1_multiply_60 : decode cX1_multiply 60 = .ok (.aload_n 0, 1) := by decide +kernel
theorem dX1_multiply_61 : decode cX1_multiply 61 = .ok (.iload 4, 2) := by decide +kernel
theorem dX1_multiply_63 : decode cX1_multiply 63 = .ok (.ifCond .ne 7, 3) := by decide +kernel
theorem dX1_multiply_66 : decode cX1_multiply 66 = .ok (.iconst 1, 1) := by decide +kernel
theorem dX1_multiply_67 : decode cX1_multiply 67 = .ok (.goto 29, 3) := by decide +kernel
theorem dX1_multiply_70 : decode cX1_multiply 70 = .ok (.iload 5, 2) := by decide +kernel
theorem dX1_multiply_72 : decode cX1_multiply 72 = .ok (.ifCond .le 23, 3) := by decide +kernel
theorem dX1_multiply_75 : decode cX1_multiply 75 = .ok (.iload 6, 2) := by decide +kernel
theorem dX1_multiply_77 : decode cX1_multiply 77 = .ok (.ifCond .le 18, 3) := by decide +kernel
theorem dX1_multiply_80 : decode cX1_multiply 80 = .ok (.iload 5, 2) := by decide +kernel
theorem dX1_multiply_82 : decode cX1_multiply 82 = .ok (.iload 6, 2) := by decide +kernel
theorem dX1_multiply_84 : decode cX1_multiply 84 = .ok (.iadd, 1) := by decide +kernel
theorem dX1_multiply_85 : decode cX1_multiply 85 = .ok (.sipush 240, 3) := by decide +kernel
theorem dX1_multiply_88 : decode cX1_multiply 88 = .ok (.if_icmp .le 7, 3) := by decide +kernel
theorem dX1_multiply_91 : decode cX1_multiply 91 = .ok (.iconst 2, 1) := by decide +kernel
theorem dX1_multiply_92 : decode cX1_multiply 92 = .ok (.goto 4, 3) := by decide +kernel
theorem dX1_multiply_95 : decode cX1_multiply 95 = .ok (.iconst 0, 1) := by decide +kernel
theorem dX1_multiply_96 : decode cX1_multiply 96 = .ok (.putfield 38, 3) := by decide +kernel
theorem dX1_multiply_99 : decode cX1_multiply 99 = .ok (.aload_n 0, 1) := by decide +kernel
theorem dX1_multiply_100 : decode cX1_multiply 100 = .ok (.getfield 38, 3) := by decide +kernel
theorem dX1_multiply_103 : decode cX1_multiply 103 = .ok (.ifCond .le 5, 3) := by decide +kernel
theorem dX1_multiply_106 : decode cX1_multiply 106 = .ok (.iconst 0, 1) := by decide +kernel
theorem dX1_multiply_107 : decode cX1_multiply 107 = .ok (.ireturn, 1) := by decide +kernel
theorem dX1_multiply_108 : decode cX1_multiply 108 = .ok (.aload_n 0, 1) := by decide +kernel
theorem dX1_multiply_109 : decode cX1_multiply 109 = .ok (.invokevirtual 76, 3) := by decide +kernel
theorem dX1_multiply_112 : decode cX1_multiply 112 = .ok (.iconst 0, 1) := by decide +kernel
theorem dX1_multiply_113 : decode cX1_multiply 113 = .ok (.istore 7, 2) := by decide +kernel
theorem dX1_multiply_115 : decode cX1_multiply 115 = .ok (.iload 7, 2) := by decide +kernel
theorem dX1_multiply_117 : decode cX1_multiply 117 = .ok (.iload 5, 2) := by decide +kernel
theorem dX1_multiply_119 : decode cX1_multiply 119 = .ok (.if_icmp .ge 106, 3) := by decide +kernel
theorem dX1_multiply_122 : decode cX1_multiply 122 = .ok (.lconst 0, 1) := by decide +kernel
theorem dX1_multiply_123 : decode cX1_multiply 123 = .ok (.lstore 8, 2) := by decide +kernel
theorem dX1_multiply_125 : decode cX1_multiply 125 = .ok (.iconst 0, 1) := by decide +kernel
theorem dX1_multiply_126 : decode cX1_multiply 126 = .ok (.istore 10, 2) := by decide +kernel
theorem dX1_multiply_128 : decode cX1_multiply 128 = .ok (.iload 10, 2) := by decide +kernel
theorem dX1_multiply_130 : decode cX1_multiply 130 = .ok (.iload 6, 2) := by decide +kernel
theorem dX1_multiply_132 : decode cX1_multiply 132 = .ok (.if_icmp .ge 75, 3) := by decide +kernel
theorem dX1_multiply_135 : decode cX1_multiply 135 = .ok (.aload_n 0, 1) := by decide +kernel
theorem dX1_multiply_136 : decode cX1_multiply 136 = .ok (.getfield 13, 3) := by decide +kernel
theorem dX1_multiply_139 : decode cX1_multiply 139 = .ok (.sipush 240, 3) := by decide +kernel
theorem dX1_multiply_142 : decode cX1_multiply 142 = .ok (.iload_n 2, 1) := by decide +kernel
theorem dX1_multiply_143 : decode cX1_multiply 143 = .ok (.imul, 1) := by decide +kernel
theorem dX1_multiply_144 : decode cX1_multiply 144 = .ok (.iload 7, 2) := by decide +kernel
theorem dX1_multiply_146 : decode cX1_multiply 146 = .ok (.iadd, 1) := by decide +kernel
theorem dX1_multiply_147 : decode cX1_multiply 147 = .ok (.laload, 1) := by decide +kernel
theorem dX1_multiply_148 : decode cX1_multiply 148 = .ok (.aload_n 0, 1) := by decide +kernel
theorem dX1_multiply_149 : decode cX1_multiply 149 = .ok (.getfield 13, 3) := by decide +kernel
theorem dX1_multiply_152 : decode cX1_multiply 152 = .ok (.sipush 240, 3) := by decide +kernel
theorem dX1_multiply_155 : decode cX1_multiply 155 = .ok (.iload_n 3, 1) := by decide +kernel
theorem dX1_multiply_156 : decode cX1_multiply 156 = .ok (.imul, 1) := by decide +kernel
theorem dX1_multiply_157 : decode cX1_multiply 157 = .ok (.iload 10, 2) := by decide +kernel
theorem dX1_multiply_159 : decode cX1_multiply 159 = .ok (.iadd, 1) := by decide +kernel
theorem dX1_multiply_160 : decode cX1_multiply 160 = .ok (.laload, 1) := by decide +kernel
theorem dX1_multiply_161 : decode cX1_multiply 161 = .ok (.lmul, 1) := by decide +kernel
theorem dX1_multiply_162 : decode cX1_multiply 162 = .ok (.aload_n 0, 1) := by decide +kernel
theorem dX1_multiply_163 : decode cX1_multiply 163 = .ok (.getfield 22, 3) := by decide +kernel
theorem dX1_multiply_166 : decode cX1_multiply 166 = .ok (.iload 7, 2) := by decide +kernel
theorem dX1_multiply_168 : decode cX1_multiply 168 = .ok (.iload 10, 2) := by decide +kernel
theorem dX1_multiply_170 : decode cX1_multiply 170 = .ok (.iadd, 1) := by decide +kernel
theorem dX1_multiply_171 : decode cX1_multiply 171 = .ok (.laload, 1) := by decide +kernel
theorem dX1_multiply_172 : decode cX1_multiply 172 = .ok (.ladd, 1) := by decide +kernel
theorem dX1_multiply_173 : decode cX1_multiply 173 = .ok (.lload 8, 2) := by decide +kernel
theorem dX1_multiply_175 : decode cX1_multiply 175 = .ok (.ladd, 1) := by decide +kernel
theorem dX1_multiply_176 : decode cX1_multiply 176 = .ok (.lstore 11, 2) := by decide +kernel
theorem dX1_multiply_178 : decode cX1_multiply 178 = .ok (.aload_n 0, 1) := by decide +kernel
theorem dX1_multiply_179 : decode cX1_multiply 179 = .ok (.getfield 22, 3) := by decide +kernel
theorem dX1_multiply_182 : decode cX1_multiply 182 = .ok (.iload 7, 2) := by decide +kernel
theorem dX1_multiply_184 : decode cX1_multiply 184 = .ok (.iload 10, 2) := by decide +kernel
theorem dX1_multiply_186 : decode cX1_multiply 186 = .ok (.iadd, 1) := by decide +kernel
theorem dX1_multiply_187 : decode cX1_multiply 187 = .ok (.lload 11, 2) := by decide +kernel
theorem dX1_multiply_189 : decode cX1_multiply 189 = .ok (.ldc2_w 71, 3) := by decide +kernel
theorem dX1_multiply_192 : decode cX1_multiply 192 = .ok (.land, 1) := by decide +kernel
theorem dX1_multiply_193 : decode cX1_multiply 193 = .ok (.lastore, 1) := by decide +kernel
theorem dX1_multiply_194 : decode cX1_multiply 194 = .ok (.lload 11, 2) := by decide +kernel
theorem dX1_multiply_196 : decode cX1_multiply 196 = .ok (.bipush 32, 2) := by decide +kernel
theorem dX1_multiply_198 : decode cX1_multiply 198 = .ok (.lushr, 1) := by decide +kernel
theorem dX1_multiply_199 : decode cX1_multiply 199 = .ok (.lstore 8, 2) := by decide +kernel
theorem dX1_multiply_201 : decode cX1_multiply 201 = .ok (.iinc 10 1, 3) := by decide +kernel
theorem dX1_multiply_204 : decode cX1_multiply 204 = .ok (.goto (-76), 3) := by decide +kernel
theorem dX1_multiply_207 : decode cX1_multiply 207 = .ok (.aload_n 0, 1) := by decide +kernel
theorem dX1_multiply_208 : decode cX1_multiply 208 = .ok (.getfield 22, 3) := by decide +kernel
theorem dX1_multiply_211 : decode cX1_multiply 211 = .ok (.iload 7, 2) := by decide +kernel
theorem dX1_multiply_213 : decode cX1_multiply 213 = .ok (.iload 6, 2) := by decide +kernel
theorem dX1_multiply_215 : decode cX1_multiply 215 = .ok (.iadd, 1) := by decide +kernel
theorem dX1_multiply_216 : decode cX1_multiply 216 = .ok (.lload 8, 2) := by decide +kernel
theorem dX1_multiply_218 : decode cX1_multiply 218 = .ok (.lastore, 1) := by decide +kernel
theorem dX1_multiply_219 : decode cX1_multiply 219 = .ok (.iinc 7 1, 3) := by decide +kernel
theorem dX1_multiply_222 : decode cX1_multiply 222 = .ok (.goto (-107), 3) := by decide +kernel
theorem dX1_multiply_225 : decode cX1_multiply 225 = .ok (.aload_n 0, 1) := by decide +kernel
theorem dX1_multiply_226 : decode cX1_multiply 226 = .ok (.iload_n 1, 1) := by decide +kernel
theorem dX1_multiply_227 : decode cX1_multiply 227 = .ok (.invokevirtual 79, 3) := by decide +kernel
theorem dX1_multiply_230 : decode cX1_multiply 230 = .ok (.ireturn, 1) := by decide +kernel
set_option maxRecDepth 20000 in
theorem ggX1_sum_X1_isRow : GoodIn wsX1_sum wsX1_isRow := goodIn_r _ [8] (by decide +kernel) (by decide +kernel)
set_option maxRecDepth 20000 in
theorem gX1_sum_X1_isRow : GoodIn wsX1_sum (va_wsS RX1 63 yX1_isRow wsX1_isRow) := goodIn_app (goodIn_of _ (by decide +kernel)) ggX1_sum_X1_isRow
set_option maxRecDepth 20000 in
theorem ggX1_sum_X1_clearSums : GoodIn wsX1_sum wsX1_clearSums := goodIn_r _ [12, 3, 21, 22, 23, 24, 25, 26, 27, 28] (by decide +kernel) (by decide +kernel)
set_option maxRecDepth 20000 in
theorem gX1_sum_X1_clearSums : GoodIn wsX1_sum (wsV RX1 76 RX1 yX1_clearSums wsX1_clearSums) := goodIn_app (goodIn_of _ (by decide +kernel)) ggX1_sum_X1_clearSums
set_option maxRecDepth 20000 in
theorem ggX1_sum_X1_take : GoodIn wsX1_sum wsX1_take := goodIn_r _ [16, 2, 3, 17, 18, 19, 7, 20, 21, 22, 23, 24, 25, 26, 27, 28] (by decide +kernel) (by decide +kernel)
set_option maxRecDepth 20000 in
theorem gX1_sum_X1_take : GoodIn wsX1_sum (wsV RX1 79 RX1 yX1_take wsX1_take) := goodIn_app (goodIn_of _ (by decide +kernel)) ggX1_sum_X1_take
theorem dX1_sum_0 : decode cX1_sum 0 = .ok (.iload_n 1, 1) := by decide +kernel
theorem dX1_sum_1 : decode cX1_sum 1 = .ok (.invokestatic 63, 3) := by decide +kernel
theorem dX1_sum_4 : decode cX1_sum 4 = .ok (.ifCond .eq 21, 3) := by decide +kernel
theorem dX1_sum_7 : decode cX1_sum 7 = .ok (.iload_n 2, 1) := by decide +kernel
theorem dX1_sum_8 : decode cX1_sum 8 = .ok (.invokestatic 63, 3) := by decide +kernel
theorem dX1_sum_11 : decode cX1_sum 11 = .ok (.ifCond .eq 14, 3) := by decide +kernel
theorem dX1_sum_14 : decode cX1_sum 14 = .ok (.iload_n 3, 1) := by decide +kernel
theorem dX1_sum_15 : decode cX1_sum 15 = .ok (.invokestatic 63, 3) := by decide +kernel
theorem dX1_sum_18 : decode cX1_sum 18 = .ok (.ifCond .eq 7, 3) := by decide +kernel
theorem dX1_sum_21 : decode cX1_sum 21 = .ok (.iconst 1, 1) := by decide +kernel
theorem dX1_sum_22 : decode cX1_sum 22 = .ok (.goto 4, 3) := by decide +kernel
theorem dX1_sum_25 : decode cX1_sum 25 = .ok (.iconst 0, 1) := by decide +kernel
theorem dX1_sum_26 : decode cX1_sum 26 = .ok (.istore 4, 2) := by decide +kernel
theorem dX1_sum_28 : decode cX1_sum 28 = .ok (.aload_n 0, 1) := by decide +kernel
theorem dX1_sum_29 : decode cX1_sum 29 = .ok (.iload 4, 2) := by decide +kernel
theorem dX1_sum_31 : decode cX1_sum 31 = .ok (.ifCond .eq 7, 3) := by decide +kernel
theorem dX1_sum_34 : decode cX1_sum 34 = .ok (.iconst 0, 1) := by decide +kernel
theorem dX1_sum_35 : decode cX1_sum 35 = .ok (.goto 4, 3) := by decide +kernel
theorem dX1_sum_38 : decode cX1_sum 38 = .ok (.iconst 1, 1) := by decide +kernel
theorem dX1_sum_39 : decode cX1_sum 39 = .ok (.putfield 38, 3) := by decide +kernel
theorem dX1_sum_42 : decode cX1_sum 42 = .ok (.lconst 0, 1) := by decide +kernel
theorem dX1_sum_43 : decode cX1_sum 43 = .ok (.lstore 5, 2) := by decide +kernel
theorem dX1_sum_45 : decode cX1_sum 45 = .ok (.aload_n 0, 1) := by decide +kernel
theorem dX1_sum_46 : decode cX1_sum 46 = .ok (.invokevirtual 76, 3) := by decide +kernel
theorem dX1_sum_49 : decode cX1_sum 49 = .ok (.iconst 0, 1) := by decide +kernel
theorem dX1_sum_50 : decode cX1_sum 50 = .ok (.istore 7, 2) := by decide +kernel
theorem dX1_sum_52 : decode cX1_sum 52 = .ok (.iload 7, 2) := by decide +kernel
theorem dX1_sum_54 : decode cX1_sum 54 = .ok (.sipush 240, 3) := by decide +kernel
theorem dX1_sum_57 : decode cX1_sum 57 = .ok (.if_icmp .ge 66, 3) := by decide +kernel
theorem dX1_sum_60 : decode cX1_sum 60 = .ok (.iload 4, 2) := by decide +kernel
theorem dX1_sum_62 : decode cX1_sum 62 = .ok (.ifCond .eq 61, 3) := by decide +kernel
theorem dX1_sum_65 : decode cX1_sum 65 = .ok (.aload_n 0, 1) := by decide +kernel
theorem dX1_sum_66 : decode cX1_sum 66 = .ok (.getfield 13, 3) := by decide +kernel
theorem dX1_sum_69 : decode cX1_sum 69 = .ok (.sipush 240, 3) := by decide +kernel
theorem dX1_sum_72 : decode cX1_sum 72 = .ok (.iload_n 2, 1) := by decide +kernel
theorem dX1_sum_73 : decode cX1_sum 73 = .ok (.imul, 1) := by decide +kernel
theorem dX1_sum_74 : decode cX1_sum 74 = .ok (.iload 7, 2) := by decide +kernel
theorem dX1_sum_76 : decode cX1_sum 76 = .ok (.iadd, 1) := by decide +kernel
theorem dX1_sum_77 : decode cX1_sum 77 = .ok (.laload, 1) := by decide +kernel
theorem dX1_sum_78 : decode cX1_sum 78 = .ok (.aload_n 0, 1) := by decide +kernel
theorem dX1_sum_79 : decode cX1_sum 79 = .ok (.getfield 13, 3) := by decide +kernel
theorem dX1_sum_82 : decode cX1_sum 82 = .ok (.sipush 240, 3) := by decide +kernel
theorem dX1_sum_85 : decode cX1_sum 85 = .ok (.iload_n 3, 1) := by decide +kernel
theorem dX1_sum_86 : decode cX1_sum 86 = .ok (.imul, 1) := by decide +kernel
theorem dX1_sum_87 : decode cX1_sum 87 = .ok (.iload 7, 2) := by decide +kernel
theorem dX1_sum_89 : decode cX1_sum 89 = .ok (.iadd, 1) := by decide +kernel
theorem dX1_sum_90 : decode cX1_sum 90 = .ok (.laload, 1) := by decide +kernel
theorem dX1_sum_91 : decode cX1_sum 91 = .ok (.ladd, 1) := by decide +kernel
theorem dX1_sum_92 : decode cX1_sum 92 = .ok (.lload 5, 2) := by decide +kernel
theorem dX1_sum_94 : decode cX1_sum 94 = .ok (.ladd, 1) := by decide +kernel
theorem dX1_sum_95 : decode cX1_sum 95 = .ok (.lstore 8, 2) := by decide +kernel
theorem dX1_sum_97 : decode cX1_sum 97 = .ok (.aload_n 0, 1) := by decide +kernel
theorem dX1_sum_98 : decode cX1_sum 98 = .ok (.getfield 22, 3) := by decide +kernel
theorem dX1_sum_101 : decode cX1_sum 101 = .ok (.iload 7, 2) := by decide +kernel
theorem dX1_sum_103 : decode cX1_sum 103 = .ok (.lload 8, 2) := by decide +kernel
theorem dX1_sum_105 : decode cX1_sum 105 = .ok (.ldc2_w 71, 3) := by decide +kernel
theorem dX1_sum_108 : decode cX1_sum 108 = .ok (.land, 1) := by decide +kernel
theorem dX1_sum_109 : decode cX1_sum 109 = .ok (.lastore, 1) := by decide +kernel
theorem dX1_sum_110 : decode cX1_sum 110 = .ok (.lload 8, 2) := by decide +kernel
theorem dX1_sum_112 : decode cX1_sum 112 = .ok (.bipush 32, 2) := by decide +kernel
theorem dX1_sum_114 : decode cX1_sum 114 = .ok (.lshr, 1) := by decide +kernel
theorem dX1_sum_115 : decode cX1_sum 115 = .ok (.lstore 5, 2) := by decide +kernel
theorem dX1_sum_117 : decode cX1_sum 117 = .ok (.iinc 7 1, 3) := by decide +kernel
theorem dX1_sum_120 : decode cX1_sum 120 = .ok (.goto (-68), 3) := by decide +kernel
theorem dX1_sum_123 : decode cX1_sum 123 = .ok (.aload_n 0, 1) := by decide +kernel
theorem dX1_sum_124 : decode cX1_sum 124 = .ok (.aload_n 0, 1) := by decide +kernel
theorem dX1_sum_125 : decode cX1_sum 125 = .ok (.getfield 38, 3) := by decide +kernel
theorem dX1_sum_128 : decode cX1_sum 128 = .ok (.ifCond .ne 14, 3) := by decide +kernel
theorem dX1_sum_131 : decode cX1_sum 131 = .ok (.lload 5, 2) := by decide +kernel
theorem dX1_sum_133 : decode cX1_sum 133 = .ok (.lconst 0, 1) := by decide +kernel
theorem dX1_sum_134 : decode cX1_sum 134 = .ok (.lcmp, 1) := by decide +kernel
theorem dX1_sum_135 : decode cX1_sum 135 = .ok (.ifCond .le 7, 3) := by decide +kernel
theorem dX1_sum_138 : decode cX1_sum 138 = .ok (.iconst 2, 1) := by decide +kernel
theorem dX1_sum_139 : decode cX1_sum 139 = .ok (.goto 7, 3) := by decide +kernel
theorem dX1_sum_142 : decode cX1_sum 142 = .ok (.aload_n 0, 1) := by decide +kernel
theorem dX1_sum_143 : decode cX1_sum 143 = .ok (.getfield 38, 3) := by decide +kernel
theorem dX1_sum_146 : decode cX1_sum 146 = .ok (.putfield 38, 3) := by decide +kernel
theorem dX1_sum_149 : decode cX1_sum 149 = .ok (.aload_n 0, 1) := by decide +kernel
theorem dX1_sum_150 : decode cX1_sum 150 = .ok (.getfield 38, 3) := by decide +kernel
theorem dX1_sum_153 : decode cX1_sum 153 = .ok (.ifCond .le 7, 3) := by decide +kernel
theorem dX1_sum_156 : decode cX1_sum 156 = .ok (.iconst 0, 1) := by decide +kernel
theorem dX1_sum_157 : decode cX1_sum 157 = .ok (.goto 8, 3) := by decide +kernel
theorem dX1_sum_160 : decode cX1_sum 160 = .ok (.aload_n 0, 1) := by decide +kernel
theorem dX1_sum_161 : decode cX1_sum 161 = .ok (.iload_n 1, 1) := by decide +kernel
theorem dX1_sum_162 : decode cX1_sum 162 = .ok (.invokevirtual 79, 3) := by decide +kernel
theorem dX1_sum_165 : decode cX1_sum 165 = .ok (.ireturn, 1) := by decide +kernel
end
section
/-! ===== rows over natural numbers: nI, lN on the stack ===== -/
theorem k_andI (a b : Nat) : nI a &&& nI b = nI (a &&& b) := by
  apply Int32.toBitVec_inj.1
  show BitVec.ofNat 32 a &&& BitVec.ofNat 32 b = BitVec.ofNat 32 (a &&& b)
  apply BitVec.eq_of_getLsbD_eq
  intro i hi
  simp [hi]
theorem k_lI {a : Nat} (h : a < 2 ^ 63) : (lN a).toInt = (a : Int) := lg_ofNat_toInt h
theorem k_lshr1 {a : Nat} (h : a < 2 ^ 63) : lN a >>> ((nI 1).toInt64 &&& 63) = lN (a / 2) := by
  have hD : (((nI 1).toInt64 &&& 63).toBitVec.smod 64).toNat = 1 := by decide
  have hd : a / 2 ≤ a := Nat.div_le_self _ _
  apply Int64.toInt_inj.mp
  have e : (lN a >>> ((nI 1).toInt64 &&& 63)).toInt = (lN a).toInt >>> 1 := by
    have := BitVec.toInt_sshiftRight (x := (lN a).toBitVec) (n := (((nI 1).toInt64 &&& 63).toBitVec.smod 64).toNat)
    rw [hD] at this
    exact this
  rw [e, Int.shiftRight_eq_div_pow, k_lI h, k_lI (by omega)]
  rfl
theorem k_andL {a b : Nat} : lN a &&& lN b = lN (a &&& b) := by
  apply Int64.toBitVec_inj.1
  show BitVec.ofNat 64 a &&& BitVec.ofNat 64 b = BitVec.ofNat 64 (a &&& b)
  apply BitVec.eq_of_getLsbD_eq
  intro i hi
  simp [hi]
theorem k_and1 (a : Nat) : lN a &&& lN 1 = lN (a % 2) := by
  rw [k_andL, Nat.and_one_is_mod]
theorem k_lne {b : Nat} (h0 : 0 < b) (hb : b < 2 ^ 63) : ¬ lN b = 0 := fun h => by
  have : b = 0 := (pk_lEQ hb (by decide)).mp (h.trans (show (0 : Int64) = lN 0 from rfl))
  omega
section
variable {M : gM} {cc : ByteArray} {own : String} {Ts : List Cond} {tys : List (ClassId × FieldType)} {D : va_G} {cl : List vw_C} {A : Nat → Prop} {nL cells slots : Nat} {Q : State → Prop} {N : Nat} {ad : Nat → Nat} {pc : Nat} {lv : gLv} {rest : List Value} {ct : Nat → va_E}
theorem gN_iadd (C : gX M cc own Ts tys D cl A nL) {a b : Nat} (d : decode cc pc = .ok (.iadd, 1)) (k : gW M D cl A nL cells slots Q N ad (pc + 1) lv (.int (nI (a + b)) :: rest) ct) : gW M D cl A nL cells slots Q N ad pc lv (.int (nI b) :: .int (nI a) :: rest) ct := g_iadd C d (g_ti _ (nI_add a b) k)
theorem gN_isub (C : gX M cc own Ts tys D cl A nL) {a b : Nat} (h : b ≤ a) (d : decode cc pc = .ok (.isub, 1)) (k : gW M D cl A nL cells slots Q N ad (pc + 1) lv (.int (nI (a - b)) :: rest) ct) : gW M D cl A nL cells slots Q N ad pc lv (.int (nI b) :: .int (nI a) :: rest) ct := g_isub C d (g_ti _ (pk_sub h) k)
theorem gN_imul (C : gX M cc own Ts tys D cl A nL) {a b : Nat} (d : decode cc pc = .ok (.imul, 1)) (k : gW M D cl A nL cells slots Q N ad (pc + 1) lv (.int (nI (a * b)) :: rest) ct) : gW M D cl A nL cells slots Q N ad pc lv (.int (nI b) :: .int (nI a) :: rest) ct := g_imul C d (g_ti _ (pk_mul a b) k)
theorem gN_iand (C : gX M cc own Ts tys D cl A nL) {a b : Nat} (d : decode cc pc = .ok (.iand, 1)) (k : gW M D cl A nL cells slots Q N ad (pc + 1) lv (.int (nI (a &&& b)) :: rest) ct) : gW M D cl A nL cells slots Q N ad pc lv (.int (nI b) :: .int (nI a) :: rest) ct := g_iand C d (g_ti _ (k_andI a b) k)
theorem gN_idiv (C : gX M cc own Ts tys D cl A nL) {a b : Nat} (ha : a < 2 ^ 31) (h0 : 0 < b) (hb : b < 2 ^ 31) (d : decode cc pc = .ok (.idiv, 1)) (k : gW M D cl A nL cells slots Q N ad (pc + 1) lv (.int (nI (a / b)) :: rest) ct) : gW M D cl A nL cells slots Q N ad pc lv (.int (nI b) :: .int (nI a) :: rest) ct := g_idiv C d (nI_ne0 h0 hb) (g_ti _ (pk_div ha h0 hb) k)
theorem gN_ladd (C : gX M cc own Ts tys D cl A nL) {a b : Nat} (d : decode cc pc = .ok (.ladd, 1)) (k : gW M D cl A nL cells slots Q N ad (pc + 1) lv (.long (lN (a + b)) :: rest) ct) : gW M D cl A nL cells slots Q N ad pc lv (.long (lN b) :: .long (lN a) :: rest) ct := g_ladd C d (g_tl _ (lN_add a b) k)
theorem gN_lsub (C : gX M cc own Ts tys D cl A nL) {a b : Nat} (h : b ≤ a) (d : decode cc pc = .ok (.lsub, 1)) (k : gW M D cl A nL cells slots Q N ad (pc + 1) lv (.long (lN (a - b)) :: rest) ct) : gW M D cl A nL cells slots Q N ad pc lv (.long (lN b) :: .long (lN a) :: rest) ct := g_lsub C d (g_tl _ (lN_sub h) k)
theorem gN_lmul (C : gX M cc own Ts tys D cl A nL) {a b : Nat} (d : decode cc pc = .ok (.lmul, 1)) (k : gW M D cl A nL cells slots Q N ad (pc + 1) lv (.long (lN (a * b)) :: rest) ct) : gW M D cl A nL cells slots Q N ad pc lv (.long (lN b) :: .long (lN a) :: rest) ct := g_lmul C d (g_tl _ (lN_mul a b) k)
theorem gN_lrem (C : gX M cc own Ts tys D cl A nL) {a b : Nat} (ha : a < 2 ^ 63) (h0 : 0 < b) (hb : b < 2 ^ 63) (d : decode cc pc = .ok (.lrem, 1)) (k : gW M D cl A nL cells slots Q N ad (pc + 1) lv (.long (lN (a % b)) :: rest) ct) : gW M D cl A nL cells slots Q N ad pc lv (.long (lN b) :: .long (lN a) :: rest) ct := g_lrem C d (k_lne h0 hb) (g_tl _ (pk_lRem ha h0 hb) k)
theorem gN_ldiv (C : gX M cc own Ts tys D cl A nL) {a b : Nat} (ha : a < 2 ^ 63) (h0 : 0 < b) (hb : b < 2 ^ 63) (d : decode cc pc = .ok (.ldiv, 1)) (k : gW M D cl A nL cells slots Q N ad (pc + 1) lv (.long (lN (a / b)) :: rest) ct) : gW M D cl A nL cells slots Q N ad pc lv (.long (lN b) :: .long (lN a) :: rest) ct := g_ldiv C d (k_lne h0 hb) (g_tl _ (pk_lDiv ha h0 hb) k)
theorem gN_i2l (C : gX M cc own Ts tys D cl A nL) {a : Nat} (h : a < 2 ^ 31) (d : decode cc pc = .ok (.i2l, 1)) (k : gW M D cl A nL cells slots Q N ad (pc + 1) lv (.long (lN a) :: rest) ct) : gW M D cl A nL cells slots Q N ad pc lv (.int (nI a) :: rest) ct := g_i2l C d (g_tl _ (nI_l h) k)
theorem gN_inc (C : gX M cc own Ts tys D cl A nL) {i a : Nat} (d : decode cc pc = .ok (.iinc i 1, 3)) (h : lvq lv i = some (.int (nI a)) := by rfl) (hi : i < nL := by decide) (hc : lvc lv i = true := by rfl) (k : gW M D cl A nL cells slots Q N ad (pc + 3) ((i, some (.int (nI (a + 1)))) :: lv) rest ct) : gW M D cl A nL cells slots Q N ad pc lv rest ct := g_iinc C (nI (a + 1)) d (by rw [← nI_1]; rfl) h hi hc k
theorem gN_dec (C : gX M cc own Ts tys D cl A nL) {i a : Nat} (d : decode cc pc = .ok (.iinc i (-1), 3)) (h : lvq lv i = some (.int (nI (a + 1))) := by rfl) (hi : i < nL := by decide) (hc : lvc lv i = true := by rfl) (k : gW M D cl A nL cells slots Q N ad (pc + 3) ((i, some (.int (nI a))) :: lv) rest ct) : gW M D cl A nL cells slots Q N ad pc lv rest ct := g_iinc C (nI a) d (by rw [← pk_m1 a]; rfl) h hi hc k
end
/-- no room of its own -/
abbrev rz : Room := { frames := 0, cells := 0, slots := 0, locals := 0 }
end
section
/-! ===== sums over a commutative ring ===== -/
theorem rpow_mul {R : Type} [Lean.Grind.CommRing R] (a : R) (m n : Nat) : a ^ (m * n) = (a ^ m) ^ n := by
  induction n with
  | zero => rw [Nat.mul_zero, Lean.Grind.Semiring.pow_zero, Lean.Grind.Semiring.pow_zero]
  | succ n ih => rw [Nat.mul_succ, Lean.Grind.Semiring.pow_add, ih, Lean.Grind.Semiring.pow_succ]
def sm {R : Type} [Lean.Grind.CommRing R] (f : Nat → R) : Nat → R
  | 0 => 0
  | n + 1 => sm f n + f n
theorem sm_congr {R : Type} [Lean.Grind.CommRing R] {f g : Nat → R} : ∀ {n : Nat}, (∀ i, i < n → f i = g i) → sm f n = sm g n
  | 0, _ => rfl
  | n + 1, h => by
    simp only [sm]
    rw [sm_congr (n := n) (fun i hi => h i (Nat.lt_succ_of_lt hi)), h n (Nat.lt_succ_self n)]
theorem sm_zero {R : Type} [Lean.Grind.CommRing R] : ∀ n : Nat, sm (fun _ => (0 : R)) n = 0
  | 0 => rfl
  | n + 1 => by
    simp only [sm]
    rw [sm_zero n]
    grind
theorem sm_add {R : Type} [Lean.Grind.CommRing R] (f g : Nat → R) : ∀ n : Nat, sm (fun i => f i + g i) n = sm f n + sm g n
  | 0 => by simp only [sm]; grind
  | n + 1 => by
    simp only [sm]
    rw [sm_add f g n]
    grind
theorem sm_mul {R : Type} [Lean.Grind.CommRing R] (c : R) (f : Nat → R) : ∀ n : Nat, sm (fun i => c * f i) n = c * sm f n
  | 0 => by simp only [sm]; grind
  | n + 1 => by
    simp only [sm]
    rw [sm_mul c f n]
    grind
theorem sm_mulr {R : Type} [Lean.Grind.CommRing R] (c : R) (f : Nat → R) (n : Nat) : sm (fun i => f i * c) n = sm f n * c := by
  rw [show (fun i => f i * c) = (fun i => c * f i) from funext fun i => by grind, sm_mul]
  grind
theorem sm_swap {R : Type} [Lean.Grind.CommRing R] (f : Nat → Nat → R) (m : Nat) : ∀ n : Nat, sm (fun i => sm (fun j => f i j) m) n = sm (fun j => sm (fun i => f i j) n) m
  | 0 => by simp only [sm]; rw [sm_zero]
  | n + 1 => by
    simp only [sm]
    rw [sm_swap f m n, ← sm_add]
theorem sm_two {R : Type} [Lean.Grind.CommRing R] (f : Nat → R) : ∀ n : Nat, sm f (2 * n) = sm (fun i => f (2 * i)) n + sm (fun i => f (2 * i + 1)) n
  | 0 => by simp only [Nat.mul_zero, sm]; grind
  | n + 1 => by
    rw [show 2 * (n + 1) = 2 * n + 1 + 1 by omega]
    simp only [sm]
    rw [sm_two f n]
    grind
theorem sm_app {R : Type} [Lean.Grind.CommRing R] (f : Nat → R) (m : Nat) : ∀ n : Nat, sm f (m + n) = sm f m + sm (fun i => f (m + i)) n
  | 0 => by simp only [Nat.add_zero, sm]; grind
  | n + 1 => by
    rw [show m + (n + 1) = m + n + 1 by omega]
    simp only [sm]
    rw [sm_app f m n]
    grind
theorem sm_at {R : Type} [Lean.Grind.CommRing R] {f : Nat → R} {k : Nat} : ∀ {n : Nat}, k < n → (∀ i, i < n → i ≠ k → f i = 0) → sm f n = f k
  | 0, h, _ => absurd h (Nat.not_lt_zero k)
  | n + 1, h, h0 => by
    simp only [sm]
    by_cases e : k = n
    · subst e
      rw [sm_congr (g := fun _ => (0 : R)) (fun i hi => h0 i (Nat.lt_succ_of_lt hi) (Nat.ne_of_lt hi)), sm_zero]
      grind
    · rw [sm_at (n := n) (by omega) (fun i hi hk => h0 i (Nat.lt_succ_of_lt hi) hk), h0 n (Nat.lt_succ_self n) (fun q => e q.symm)]
      grind
theorem sm_none {R : Type} [Lean.Grind.CommRing R] {f : Nat → R} {n : Nat} (h0 : ∀ i, i < n → f i = 0) : sm f n = 0 := by
  rw [sm_congr (g := fun _ => (0 : R)) h0, sm_zero]
/-! ===== what a row comes to at the powers of r ===== -/
def dft {R : Type} [Lean.Grind.CommRing R] (r : R) (m : Nat) (x : Nat → R) (j : Nat) : R := sm (fun i => x i * r ^ (i * j)) m
theorem dft_congr {R : Type} [Lean.Grind.CommRing R] {r : R} {m : Nat} {x y : Nat → R} {j : Nat} (h : ∀ i, i < m → x i = y i) : dft r m x j = dft r m y j := sm_congr fun i hi => by rw [h i hi]
theorem dft_lo {R : Type} [Lean.Grind.CommRing R] (r : R) (m : Nat) (x : Nat → R) (j : Nat) :
    dft r (2 * m) x j = dft (r * r) m (fun i => x (2 * i)) j + r ^ j * dft (r * r) m (fun i => x (2 * i + 1)) j := by
  unfold dft
  rw [sm_two, ← sm_mul]
  congr 1
  · apply sm_congr
    intro i _
    rw [show 2 * i * j = i * j + i * j by rw [Nat.mul_assoc, Nat.two_mul], Lean.Grind.Semiring.pow_add, Lean.Grind.CommSemiring.mul_pow]
  · apply sm_congr
    intro i _
    rw [show (2 * i + 1) * j = (i * j + i * j) + j by rw [Nat.add_mul, Nat.one_mul, Nat.mul_assoc, Nat.two_mul], Lean.Grind.Semiring.pow_add, Lean.Grind.Semiring.pow_add, Lean.Grind.CommSemiring.mul_pow]
    grind
theorem dft_hi {R : Type} [Lean.Grind.CommRing R] (r : R) (m : Nat) (hm : r ^ m = -1) (x : Nat → R) (j : Nat) :
    dft r (2 * m) x (j + m) = dft (r * r) m (fun i => x (2 * i)) j - r ^ j * dft (r * r) m (fun i => x (2 * i + 1)) j := by
  rw [dft_lo]
  have h1 : (r * r) ^ m = 1 := by rw [Lean.Grind.CommSemiring.mul_pow, hm]; grind
  have h2 : ∀ y : Nat → R, dft (r * r) m y (j + m) = dft (r * r) m y j := by
    intro y
    unfold dft
    apply sm_congr
    intro i _
    rw [Nat.mul_add, Lean.Grind.Semiring.pow_add, Nat.mul_comm i m, rpow_mul _ m i, h1, Lean.Grind.Semiring.one_pow]
    grind
  rw [h2, h2, Lean.Grind.Semiring.pow_add, hm]
  grind
end
section
/-! ===== numbers whose bits stand in opposite order ===== -/
def rv : Nat → Nat → Nat
  | 0, _ => 0
  | K + 1, b => rv K (b / 2) + 2 ^ K * (b % 2)
theorem rv_lt : ∀ (K b : Nat), rv K b < 2 ^ K
  | 0, _ => Nat.one_pos
  | K + 1, b => by
    have h := rv_lt K (b / 2)
    have h2 : b % 2 < 2 := Nat.mod_lt _ (by decide)
    rw [rv, Nat.pow_succ]
    rcases (show b % 2 = 0 ∨ b % 2 = 1 by omega) with e | e <;> rw [e] <;> omega
theorem rv_zero : ∀ K : Nat, rv K 0 = 0
  | 0 => rfl
  | K + 1 => by rw [rv]; simp [rv_zero K]
theorem rv_top : ∀ (K b c : Nat), b < 2 ^ K → rv (K + 1) (b + 2 ^ K * c) = 2 * rv K b + c % 2
  | 0, b, c, hb => by
    have : b = 0 := by have : b < 1 := hb; omega
    subst this
    simp [rv]
  | K + 1, b, c, hb => by
    rw [Nat.pow_succ] at hb
    have e1 : (b + 2 ^ (K + 1) * c) / 2 = b / 2 + 2 ^ K * c := by
      rw [Nat.pow_succ, show b + 2 ^ K * 2 * c = b + 2 * (2 ^ K * c) by rw [Nat.mul_comm (2 ^ K) 2, Nat.mul_assoc], Nat.add_mul_div_left _ _ (by decide)]
    have e2 : (b + 2 ^ (K + 1) * c) % 2 = b % 2 := by
      rw [Nat.pow_succ, show b + 2 ^ K * 2 * c = b + 2 * (2 ^ K * c) by rw [Nat.mul_comm (2 ^ K) 2, Nat.mul_assoc], Nat.add_mul_mod_self_left]
    have ih := rv_top K (b / 2) c (by omega)
    rw [rv, e1, e2, ih, rv]
    rw [Nat.pow_succ]
    generalize rv K (b / 2) = z
    generalize 2 ^ K = w
    rcases (show b % 2 = 0 ∨ b % 2 = 1 by omega) with e | e <;> rw [e] <;> omega
theorem rv_rv : ∀ (K b : Nat), b < 2 ^ K → rv K (rv K b) = b
  | 0, b, hb => by have : b < 1 := hb; simp [rv]; omega
  | K + 1, b, hb => by
    rw [Nat.pow_succ] at hb
    rw [show rv (K + 1) b = rv K (b / 2) + 2 ^ K * (b % 2) from rfl, rv_top K _ _ (rv_lt K _), rv_rv K (b / 2) (by omega)]
    omega
theorem rv_even (K b : Nat) : rv (K + 1) (2 * b) = rv K b := by
  rw [rv, show 2 * b / 2 = b by omega, show 2 * b % 2 = 0 by omega]; simp
theorem rv_odd (K b : Nat) : rv (K + 1) (2 * b + 1) = rv K b + 2 ^ K := by
  rw [rv, show (2 * b + 1) / 2 = b by omega, show (2 * b + 1) % 2 = 1 by omega]; simp
/-- one more, with the carry going downwards -/
def nm : Nat → Nat → Nat
  | 0, x => x
  | K + 1, x => if 2 ^ K ≤ x then nm K (x - 2 ^ K) else x + 2 ^ K
theorem nm_rv : ∀ (K b : Nat), b + 1 < 2 ^ K → nm K (rv K b) = rv K (b + 1)
  | 0, b, h => by have : b + 1 < 1 := h; omega
  | K + 1, b, h => by
    rw [Nat.pow_succ] at h
    rw [nm, show rv (K + 1) b = rv K (b / 2) + 2 ^ K * (b % 2) from rfl]
    have hl := rv_lt K (b / 2)
    rcases (show b % 2 = 0 ∨ b % 2 = 1 by omega) with e | e
    · rw [e, Nat.mul_zero, Nat.add_zero, if_neg (by omega)]
      rw [show b + 1 = 2 * (b / 2) + 1 by omega, rv_odd]
    · rw [e, Nat.mul_one, if_pos (by omega), Nat.add_sub_cancel]
      rw [show b + 1 = 2 * (b / 2 + 1) by omega, rv_even]
      exact nm_rv K (b / 2) (by omega)
/-- the row with its first k numbers and their mirrors in their places -/
def ob {α : Type} (K : Nat) (x : Nat → α) (k : Nat) : Nat → α := fun i => if i < 2 ^ K ∧ (i < k ∨ rv K i < k) then x (rv K i) else x i
theorem ob_end {α : Type} (K : Nat) (x : Nat → α) {i : Nat} (hi : i < 2 ^ K) : ob K x (2 ^ K) i = x (rv K i) := by
  unfold ob; rw [if_pos ⟨hi, Or.inl hi⟩]
theorem ob_one {α : Type} (K : Nat) (x : Nat → α) : ob K x 1 = x := by
  funext i
  unfold ob
  by_cases h : i < 2 ^ K ∧ (i < 1 ∨ rv K i < 1)
  · rw [if_pos h]
    have : i = 0 := by
      rcases h.2 with h1 | h1
      · omega
      · have h2 : rv K i = 0 := by omega
        have h3 := rv_rv K i h.1
        rw [h2, rv_zero] at h3
        exact h3.symm
    rw [this, rv_zero]
  · rw [if_neg h]
/-- a mirror that stands behind: the two change places -/
theorem ob_swap {α : Type} (K : Nat) (x : Nat → α) {k : Nat} (hk : k < 2 ^ K) (h : k < rv K k) (i : Nat) :
    (if i = k then ob K x k (rv K k) else if i = rv K k then ob K x k k else ob K x k i) = ob K x (k + 1) i := by
  have hr := rv_rv K k hk
  have hl := rv_lt K k
  by_cases h1 : i = k
  · subst h1
    rw [if_pos rfl]
    unfold ob
    rw [hr, if_neg (by omega), if_pos ⟨hk, Or.inl (Nat.lt_succ_self i)⟩]
  · rw [if_neg h1]
    by_cases h2 : i = rv K k
    · subst h2
      rw [if_pos rfl]
      unfold ob
      rw [hr, if_neg (by omega), if_pos ⟨hl, Or.inr (Nat.lt_succ_self k)⟩]
    · rw [if_neg h2]
      unfold ob
      by_cases h3 : i < 2 ^ K
      · have h4 : rv K i ≠ k := fun q => h2 (by rw [← q, rv_rv K i h3])
        by_cases h5 : i < k ∨ rv K i < k
        · rw [if_pos ⟨h3, h5⟩, if_pos ⟨h3, by omega⟩]
        · rw [if_neg (fun q => h5 q.2), if_neg (by omega)]
      · rw [if_neg (by omega), if_neg (by omega)]
/-- a mirror that stands before, or the number itself: nothing changes -/
theorem ob_keep {α : Type} (K : Nat) (x : Nat → α) {k : Nat} (hk : k < 2 ^ K) (h : rv K k ≤ k) : ob K x (k + 1) = ob K x k := by
  funext i
  have hr := rv_rv K k hk
  unfold ob
  by_cases h3 : i < 2 ^ K
  · by_cases h1 : i = k
    · subst h1
      by_cases h6 : rv K i < i
      · rw [if_pos ⟨h3, by omega⟩, if_pos ⟨h3, by omega⟩]
      · have : rv K i = i := by omega
        rw [if_pos ⟨h3, by omega⟩, this]
        split <;> rfl
    · by_cases h2 : rv K i = k
      · have h7 : i = rv K k := by rw [← h2, rv_rv K i h3]
        rw [if_pos ⟨h3, by omega⟩, if_pos ⟨h3, by omega⟩]
      · by_cases h5 : i < k ∨ rv K i < k
        · rw [if_pos ⟨h3, by omega⟩, if_pos ⟨h3, h5⟩]
        · rw [if_neg (by omega), if_neg (fun q => h5 q.2)]
  · rw [if_neg (by omega), if_neg (by omega)]
end
section
/-! ===== the turn, stage by stage ===== -/
/-- one stage: parts of m are joined to parts of 2 m; r is the root of the greater parts -/
def jn {R : Type} [Lean.Grind.CommRing R] (m : Nat) (r : R) (v : Nat → R) : Nat → R := fun i =>
  if i % (2 * m) < m then v i + r ^ (i % (2 * m)) * v (i + m) else v (i - m) - r ^ (i % (2 * m) - m) * v i
/-- behind stage s: block b of the row, of 2 to the s numbers, is what every 2 to the (K - s)-th number from rv b on comes to -/
def stg {R : Type} [Lean.Grind.CommRing R] (K s : Nat) (r : R) (x v : Nat → R) : Prop :=
  ∀ b j, b < 2 ^ (K - s) → j < 2 ^ s → v (b * 2 ^ s + j) = dft r (2 ^ s) (fun i => x (rv (K - s) b + 2 ^ (K - s) * i)) j
theorem stg_0 {R : Type} [Lean.Grind.CommRing R] (K : Nat) (r : R) (x v : Nat → R) (h : ∀ i, i < 2 ^ K → v i = x (rv K i)) : stg K 0 r x v := by
  intro b j hb hj
  have hj0 : j = 0 := by have : j < 1 := hj; omega
  subst hj0
  rw [Nat.sub_zero] at hb ⊢
  rw [Nat.pow_zero, Nat.mul_one, Nat.add_zero, h b hb]
  unfold dft
  simp only [sm, Nat.mul_zero, Lean.Grind.Semiring.pow_zero, Nat.add_zero]
  grind
theorem stg_1 {R : Type} [Lean.Grind.CommRing R] {K s : Nat} (hs : s < K) {r : R} {x v : Nat → R} (hr : r ^ (2 ^ s) = -1) (h : stg K s (r * r) x v) : stg K (s + 1) r x (jn (2 ^ s) r v) := by
  intro b j hb hj
  have eK : K - s = (K - (s + 1)) + 1 := by omega
  generalize hP : 2 ^ s = m at hr h ⊢
  have hm : 0 < m := by rw [← hP]; exact Nat.pow_pos (by decide)
  have hp1 : 2 ^ (s + 1) = 2 * m := by rw [Nat.pow_succ, hP, Nat.mul_comm]
  rw [hp1] at hj ⊢
  generalize hL : K - (s + 1) = L at hb eK ⊢
  unfold stg at h
  rw [hP, eK] at h
  have hb2 : 2 ^ (L + 1) = 2 * 2 ^ L := by rw [Nat.pow_succ, Nat.mul_comm]
  have e0 := fun j hj => h (2 * b) j (by omega) hj
  have e1 := fun j hj => h (2 * b + 1) j (by omega) hj
  have hmod : ∀ j, j < 2 * m → (b * (2 * m) + j) % (2 * m) = j := fun j hj => by
    rw [Nat.mul_comm b, Nat.mul_add_mod, Nat.mod_eq_of_lt hj]
  have hev : (fun i => x (rv (L + 1) (2 * b) + 2 ^ (L + 1) * i)) = (fun i => x (rv L b + 2 ^ L * (2 * i))) := by
    funext i
    rw [rv_even, hb2, Nat.mul_comm 2 (2 ^ L), Nat.mul_assoc]
  have hod : (fun i => x (rv (L + 1) (2 * b + 1) + 2 ^ (L + 1) * i)) = (fun i => x (rv L b + 2 ^ L * (2 * i + 1))) := by
    funext i
    rw [rv_odd, hb2, Nat.mul_comm 2 (2 ^ L), Nat.mul_assoc, Nat.mul_add, Nat.mul_one]
    congr 1
    omega
  rw [hev] at e0
  rw [hod] at e1
  have eA : b * (2 * m) = 2 * b * m := by rw [← Nat.mul_assoc, Nat.mul_comm b 2]
  have eB : b * (2 * m) + m = (2 * b + 1) * m := by rw [Nat.add_mul, Nat.one_mul, eA]
  by_cases hjm : j < m
  · unfold jn
    rw [hmod j hj, if_pos hjm, dft_lo]
    have i0 := e0 j hjm
    have i1 := e1 j hjm
    rw [← eA] at i0
    rw [← eB] at i1
    rw [i0, show b * (2 * m) + j + m = b * (2 * m) + m + j by omega, i1]
  · unfold jn
    rw [hmod j hj, if_neg hjm]
    obtain ⟨t, rfl⟩ : ∃ t, j = t + m := ⟨j - m, by omega⟩
    have ht : t < m := by omega
    have i0 := e0 t ht
    have i1 := e1 t ht
    rw [← eA] at i0
    rw [← eB] at i1
    rw [show b * (2 * m) + (t + m) - m = b * (2 * m) + t by omega, i0, show b * (2 * m) + (t + m) = b * (2 * m) + m + t by omega, i1, Nat.add_sub_cancel, dft_hi r m hr]
theorem stg_end {R : Type} [Lean.Grind.CommRing R] {K : Nat} {r : R} {x v : Nat → R} (h : stg K K r x v) {j : Nat} (hj : j < 2 ^ K) : v j = dft r (2 ^ K) x j := by
  have h0 := h 0 j (by rw [Nat.sub_self]; decide) hj
  rw [Nat.zero_mul, Nat.zero_add, Nat.sub_self] at h0
  rw [h0]
  apply dft_congr
  intro i _
  congr 1
  simp [rv]
/-! ===== and back ===== -/
theorem neg1_odd {R : Type} [Lean.Grind.CommRing R] : ∀ u : Nat, (-1 : R) ^ (2 * u + 1) = -1
  | 0 => by rw [Nat.mul_zero, Nat.zero_add, Lean.Grind.Semiring.pow_one]
  | u + 1 => by
    rw [show 2 * (u + 1) + 1 = (2 * u + 1) + 1 + 1 by omega, Lean.Grind.Semiring.pow_succ, Lean.Grind.Semiring.pow_succ, neg1_odd u]
    grind
theorem odd_part : ∀ t : Nat, 0 < t → ∃ a u, t = 2 ^ a * (2 * u + 1) := by
  intro t
  induction t using Nat.strongRecOn with
  | ind t ih =>
    intro h
    rcases (show t % 2 = 0 ∨ t % 2 = 1 by omega) with e | e
    · obtain ⟨a, u, h2⟩ := ih (t / 2) (by omega) (by omega)
      refine ⟨a + 1, u, ?_⟩
      rw [Nat.pow_succ, Nat.mul_comm (2 ^ a) 2, Nat.mul_assoc, ← h2]
      omega
    · exact ⟨0, t / 2, by rw [Nat.pow_zero, Nat.one_mul]; omega⟩
theorem geo_2 {R : Type} [Lean.Grind.CommRing R] (u : R) (m : Nat) : sm (fun j => u ^ j) (2 * m) = (1 + u ^ m) * sm (fun j => u ^ j) m := by
  rw [Nat.two_mul, sm_app]
  have : sm (fun i => u ^ (m + i)) m = u ^ m * sm (fun j => u ^ j) m := by
    rw [← sm_mul]
    apply sm_congr
    intro i _
    rw [Lean.Grind.Semiring.pow_add]
  rw [this]
  grind
theorem geo_0 {R : Type} [Lean.Grind.CommRing R] (u : R) : ∀ (k i : Nat), i < k → u ^ (2 ^ i) = -1 → sm (fun j => u ^ j) (2 ^ k) = 0
  | 0, i, h, _ => absurd h (Nat.not_lt_zero i)
  | k + 1, i, h, hi => by
    rw [Nat.pow_succ, Nat.mul_comm, geo_2]
    by_cases e : i = k
    · subst e
      rw [hi]
      grind
    · rw [geo_0 u k i (by omega) hi]
      grind
/-- the sum of the powers of a power of w: 0 but for the 0th -/
theorem geo_w {R : Type} [Lean.Grind.CommRing R] {w : R} {k t : Nat} (hw : w ^ (2 ^ k) = -1) (h0 : 0 < t) (ht : t < 2 ^ (k + 1)) : sm (fun j => (w ^ t) ^ j) (2 ^ (k + 1)) = 0 := by
  obtain ⟨a, u, e⟩ := odd_part t h0
  have ha : a ≤ k := by
    rcases Nat.lt_or_ge k a with h | h
    · have h1 : 2 ^ (k + 1) ≤ 2 ^ a := Nat.pow_le_pow_right (by decide) h
      have h2 : 2 ^ a ≤ t := by rw [e]; exact Nat.le_mul_of_pos_right _ (by omega)
      omega
    · exact h
  refine geo_0 _ (k + 1) (k - a) (by omega) ?_
  rw [← rpow_mul, e, Nat.mul_comm (2 ^ a), Nat.mul_assoc, ← Nat.pow_add, show a + (k - a) = k by omega, Nat.mul_comm, rpow_mul, hw, neg1_odd]
theorem neg_pow2 {R : Type} [Lean.Grind.CommRing R] {w : R} {m : Nat} (hw : w ^ m = -1) : w ^ (2 * m) = 1 := by
  rw [Nat.two_mul, Lean.Grind.Semiring.pow_add, hw]
  grind
/-- the product by turning: what the turned products come to at the inverse powers -/
theorem conv_dft {R : Type} [Lean.Grind.CommRing R] {w sh : R} {k : Nat} (hw : w ^ (2 ^ k) = -1) {n : Nat} (hn : n = 2 ^ (k + 1)) (hsh : sh * sm (fun _ => (1 : R)) n = 1) (a b : Nat → R) {m1 m2 : Nat} (h1 : m1 ≤ n) (h2 : m2 ≤ n)
    (ha : ∀ i, i < n → m1 ≤ i → a i = 0) (hb : ∀ i, i < n → m2 ≤ i → b i = 0) (hm : m1 + m2 ≤ n + 1) {q q' : Nat} (hq : q < n) (hq' : q + q' = n ∨ (q = 0 ∧ q' = 0)) :
    dft w n (fun j => dft w n a j * dft w n b j) q' * sh = sm (fun i => sm (fun l => if i + l = q then a i * b l else 0) m2) m1 := by
  have wn : w ^ n = 1 := by rw [hn, Nat.pow_succ, Nat.mul_comm]; exact neg_pow2 hw
  have ea : ∀ j, dft w n a j = sm (fun i => a i * w ^ (i * j)) m1 := by
    intro j
    unfold dft
    rw [show n = m1 + (n - m1) by omega, sm_app, sm_none (n := n - m1) (fun i hi => by rw [ha (m1 + i) (by omega) (by omega)]; grind)]
    grind
  have eb : ∀ j, dft w n b j = sm (fun i => b i * w ^ (i * j)) m2 := by
    intro j
    unfold dft
    rw [show n = m2 + (n - m2) by omega, sm_app, sm_none (n := n - m2) (fun i hi => by rw [hb (m2 + i) (by omega) (by omega)]; grind)]
    grind
  have e1 : dft w n (fun j => dft w n a j * dft w n b j) q' = sm (fun i => sm (fun l => a i * b l * sm (fun j => (w ^ (i + l + q')) ^ j) n) m2) m1 := by
    unfold dft
    have : ∀ j, j < n → (sm (fun i => a i * w ^ (i * j)) n * sm (fun i => b i * w ^ (i * j)) n) * w ^ (j * q') = sm (fun i => sm (fun l => a i * b l * (w ^ (i + l + q')) ^ j) m2) m1 := by
      intro j _
      have ea' := ea j
      have eb' := eb j
      unfold dft at ea' eb'
      rw [ea', eb', ← sm_mulr, ← sm_mulr]
      apply sm_congr
      intro i _
      rw [← sm_mul, ← sm_mulr]
      apply sm_congr
      intro l _
      rw [← rpow_mul, Nat.add_mul, Nat.add_mul, Lean.Grind.Semiring.pow_add, Lean.Grind.Semiring.pow_add, Nat.mul_comm q' j]
      grind
    rw [sm_congr this, sm_swap]
    apply sm_congr
    intro i _
    rw [sm_swap]
    apply sm_congr
    intro l _
    rw [sm_mul]
  rw [e1, ← sm_mulr]
  apply sm_congr
  intro i hi
  rw [← sm_mulr]
  apply sm_congr
  intro l hl
  by_cases e : i + l = q
  · rw [if_pos e]
    have e2 : sm (fun j => (w ^ (i + l + q')) ^ j) n = sm (fun _ => (1 : R)) n := by
      apply sm_congr
      intro j _
      have : w ^ (i + l + q') = 1 := by
        rcases hq' with h | h
        · rw [e, h, wn]
        · rw [e, h.1, h.2, Nat.add_zero, Lean.Grind.Semiring.pow_zero]
      rw [this, Lean.Grind.Semiring.one_pow]
    rw [e2, show a i * b l * sm (fun _ => (1 : R)) n * sh = a i * b l * (sh * sm (fun _ => (1 : R)) n) by grind, hsh]
    grind
  · rw [if_neg e]
    have hlt : i + l < n := by omega
    have e3 : sm (fun j => (w ^ (i + l + q')) ^ j) n = 0 := by
      rcases Nat.lt_or_ge (i + l + q') n with h | h
      · rw [hn]
        refine geo_w hw ?_ (by rw [← hn]; exact h)
        rcases hq' with h9 | h9
        · omega
        · omega
      · have h5 : w ^ (i + l + q') = w ^ (i + l + q' - n) := by
          rw [show i + l + q' = n + (i + l + q' - n) by omega, Lean.Grind.Semiring.pow_add, wn, Nat.add_sub_cancel_left]
          grind
        rw [h5, hn]
        refine geo_w hw ?_ (by rw [← hn]; omega)
        rw [← hn]
        omega
    rw [e3]
    grind
end
section
/-! ===== swap, nextMirrored, orderByMirroredBits ===== -/
def sw (f : Nat → Int64) (i j : Nat) : Nat → Int64 := fun k => if k = i then f j else if k = j then f i else f k
theorem sw_eq (f : Nat → Int64) (i j : Nat) : vp_updL (vp_updL f i (f j)) j (f i) = sw f i j := by
  funext k
  unfold sw vp_updL
  by_cases h1 : k = j
  · subst h1
    by_cases h2 : k = i
    · subst h2; simp
    · simp [h2]
  · simp [h1]

set_option maxRecDepth 100000 in
set_option maxHeartbeats 4000000 in
theorem c_swap (l : Launch) {D : va_G} {cl : List vw_C} {tys : List (ClassId × FieldType)} {N : Nat} {ad : Nat → Nat} {ct : Nat → va_E} {q : Nat} (hq : q < N) {cJ : ClassId} {n : Nat} {f : Nat → Int64} (he : ct q = LA cJ n f) (ht : tys[0]? = some (cJ, .long)) (hn : n < 2 ^ 31) {i j : Nat} (hi : i < n) (hj : j < n) :
    gMv l yX0_swap wsX0_swap rz D cl tys N ad [.ref (ad q), .int (nI i), .int (nI j)] ct (fun ct1 => ct1 = va_up ct q (LA cJ n (sw f i j))) := by
  refine gof_v (cc := cX0_swap) (maxL := 5) (by decide) rfl (Nat.le_of_ble_eq_true rfl) ?_
  intro M sz C hlM hRM hr hsz
  refine g_aload_n C dX0_swap_0 (k := ?_)
  refine g_iload_n C dX0_swap_1 (k := ?_)
  refine g_lald C q 0 hq he ht hi hn dX0_swap_2 ?_
  refine g_lstore_n C dX0_swap_3 (k := ?_)
  refine g_aload_n C dX0_swap_4 (k := ?_)
  refine g_iload_n C dX0_swap_5 (k := ?_)
  refine g_aload_n C dX0_swap_6 (k := ?_)
  refine g_iload_n C dX0_swap_7 (k := ?_)
  refine g_lald C q 0 hq he ht hj hn dX0_swap_8 ?_
  refine g_last C q 0 hq he ht hi hn dX0_swap_9 ?_
  refine g_aload_n C dX0_swap_10 (k := ?_)
  refine g_iload_n C dX0_swap_11 (k := ?_)
  refine g_lload_n C dX0_swap_12 (k := ?_)
  refine g_last C q 0 hq (va_up_self _ _ _) ht hj hn dX0_swap_13 ?_
  refine g_vret C hr ?_ dX0_swap_14
  rw [bx_uu, sw_eq]
theorem and_top {k x : Nat} (h : x < 2 ^ (k + 1)) : x &&& 2 ^ k = if 2 ^ k ≤ x then 2 ^ k else 0 := by
  apply Nat.eq_of_testBit_eq
  intro i
  rw [Nat.testBit_and, Nat.testBit_two_pow]
  by_cases e : k = i
  · subst e
    by_cases h1 : 2 ^ k ≤ x
    · rw [if_pos h1, Nat.testBit_of_two_pow_le_and_two_pow_add_one_gt h1 h, Nat.testBit_two_pow_self]; simp
    · rw [if_neg h1, Nat.testBit_lt_two_pow (by omega)]; simp
  · rw [show decide (k = i) = false by simp [e], Bool.and_false]
    split
    · rw [Nat.testBit_two_pow_of_ne e]
    · simp
theorem g_l2 {M : gM} {D : va_G} {cl : List vw_C} {A : Nat → Prop} {nL cells slots : Nat} {Q : State → Prop} {N : Nat} {ad : Nat → Nat} {pc : Nat} {lv lv' : gLv} {st : List Value} {ct : Nat → va_E} (k : gW M D cl A nL cells slots Q N ad pc lv' st ct) (hp : lvp lv lv') : gW M D cl A nL cells slots Q N ad pc lv st ct := g_lv hp k
set_option maxRecDepth 100000 in
set_option maxHeartbeats 4000000 in
theorem c_nextMirrored (l : Launch) {D : va_G} {cl : List vw_C} {tys : List (ClassId × FieldType)} {N : Nat} {ad : Nat → Nat} {ct : Nat → va_E} {K x : Nat} (hK : K ≤ 9) (hx : x < 2 ^ K) :
    gMi l yX0_nextMirrored wsX0_nextMirrored rz D cl tys N ad [.int (nI x), .int (nI (2 ^ K))] ct (fun r ct1 => r = nI (nm K x) ∧ ct1 = ct) := by
  refine gof_i (cc := cX0_nextMirrored) (maxL := 4) (by decide) rfl (Nat.le_of_ble_eq_true rfl) ?_
  intro M sz C hlM hRM hr hsz
  have hp9 : ∀ k, k ≤ 9 → 2 ^ k < 2 ^ 31 := fun k hk => Nat.pow_lt_pow_right (by decide) (by omega)
  have loop : ∀ (k y : Nat), k ≤ 9 → y < 2 ^ k → nm k y = nm K x → gW M D cl (ixA N ad sz) 4 0 0 (MQ (gb M) (va_Qi (fun r ct1 => r = nI (nm K x) ∧ ct1 = ct) (gB D cl tys N ad (ixA N ad sz)) (ixA N ad sz)) (ga M) (gs M) 0 0 (ixA N ad sz)) N ad 6 [(3, some (.int (nI (2 ^ k / 2)))), (2, some (.int (nI y)))] [] ct := by
    intro k
    induction k with
    | zero =>
      intro y _ hy hv
      refine g_iload_n C dX0_nextMirrored_6 (k := ?_)
      refine g_ifN_le (tgt := 27) C (by decide) dX0_nextMirrored_7 (by decide) (fun _ => ?_) (fun h => absurd h (by decide))
      refine g_iload_n C dX0_nextMirrored_27 (k := ?_)
      refine g_iload_n C dX0_nextMirrored_28 (k := ?_)
      refine gN_iadd C dX0_nextMirrored_29 ?_
      refine g_iret C hr ⟨?_, rfl⟩ dX0_nextMirrored_30
      rw [← hv]
      show nI (y + 0) = nI y
      rw [Nat.add_zero]
    | succ k ih =>
      intro y hk hy hv
      have e2 : 2 ^ (k + 1) / 2 = 2 ^ k := by rw [Nat.pow_succ, Nat.mul_div_cancel _ (by decide)]
      have hpk := hp9 k (by omega)
      have hpk1 := hp9 (k + 1) hk
      have hpos : 0 < 2 ^ k := Nat.pow_pos (by decide)
      rw [e2]
      refine g_iload_n C dX0_nextMirrored_6 (k := ?_)
      refine g_ifN_le (tgt := 27) C hpk dX0_nextMirrored_7 (by decide) (fun h => absurd h (by omega)) (fun _ => ?_)
      refine g_iload_n C dX0_nextMirrored_10 (k := ?_)
      refine g_iload_n C dX0_nextMirrored_11 (k := ?_)
      refine gN_iand C dX0_nextMirrored_12 ?_
      rw [and_top hy]
      by_cases hle : 2 ^ k ≤ y
      · rw [if_pos hle]
        refine g_ifN_eq (tgt := 27) C hpk dX0_nextMirrored_13 (by decide) (fun h => absurd h (by omega)) (fun _ => ?_)
        refine g_iload_n C dX0_nextMirrored_16 (k := ?_)
        refine g_iload_n C dX0_nextMirrored_17 (k := ?_)
        refine gN_isub C hle dX0_nextMirrored_18 ?_
        refine g_istore_n C dX0_nextMirrored_19 (k := ?_)
        refine g_iload_n C dX0_nextMirrored_20 (k := ?_)
        refine g_iconst C (nI 2) dX0_nextMirrored_21 (k := ?_)
        refine gN_idiv C hpk (by decide) (by decide) dX0_nextMirrored_22 ?_
        refine g_istore_n C dX0_nextMirrored_23 (k := ?_)
        refine g_goto (tgt := 6) C dX0_nextMirrored_24 (k := ?_)
        rw [Nat.pow_succ] at hy
        refine g_l2 (ih (y - 2 ^ k) (by omega) (by omega) ?_) ⟨Or.inr rfl, Or.inr rfl, trivial⟩
        rw [← hv, nm, if_pos hle]
      · rw [if_neg hle]
        refine g_ifN_eq (tgt := 27) C (by decide) dX0_nextMirrored_13 (by decide) (fun _ => ?_) (fun h => absurd rfl h)
        refine g_iload_n C dX0_nextMirrored_27 (k := ?_)
        refine g_iload_n C dX0_nextMirrored_28 (k := ?_)
        refine gN_iadd C dX0_nextMirrored_29 ?_
        refine g_iret C hr ⟨?_, rfl⟩ dX0_nextMirrored_30
        rw [← hv, nm, if_neg hle]
  refine g_iload_n C dX0_nextMirrored_0 (k := ?_)
  refine g_istore_n C dX0_nextMirrored_1 (k := ?_)
  refine g_iload_n C dX0_nextMirrored_2 (k := ?_)
  refine g_iconst C (nI 2) dX0_nextMirrored_3 (k := ?_)
  refine gN_idiv C (hp9 K hK) (by decide) (by decide) dX0_nextMirrored_4 ?_
  refine g_istore_n C dX0_nextMirrored_5 (k := ?_)
  exact g_l2 (loop K x hK hx rfl) ⟨Or.inr rfl, Or.inr rfl, trivial⟩
abbrev ro1 : Room := { frames := 1, cells := 0, slots := 0, locals := 24 }
set_option maxRecDepth 100000 in
set_option maxHeartbeats 4000000 in
theorem c_orderByMirroredBits (l : Launch) {D : va_G} {cl : List vw_C} {tys : List (ClassId × FieldType)} {N : Nat} {ad : Nat → Nat} {ct : Nat → va_E} {q : Nat} (hq : q < N) {cJ : ClassId} {n K : Nat} {f : Nat → Int64} (he : ct q = LA cJ n f) (ht : tys[0]? = some (cJ, .long)) (hn : n < 2 ^ 31) (hK : K ≤ 9) (hKn : 2 ^ K ≤ n) :
    gMv l yX0_orderByMirroredBits wsX0_orderByMirroredBits ro1 D cl tys N ad [.ref (ad q), .int (nI (2 ^ K))] ct (fun ct1 => ct1 = va_up ct q (LA cJ n (ob K f (2 ^ K)))) := by
  refine gof_v (cc := cX0_orderByMirroredBits) (maxL := 4) (by decide) rfl (Nat.le_of_ble_eq_true rfl) ?_
  intro M sz C hlM hRM hr hsz
  have hKp : 2 ^ K < 2 ^ 31 := Nat.pow_lt_pow_right (by decide) (by omega)
  have hpos : 0 < 2 ^ K := Nat.pow_pos (by decide)
  have loop : ∀ (d k : Nat), 1 ≤ k → k ≤ 2 ^ K → 2 ^ K = k + d → gW M D cl (ixA N ad sz) 4 0 0 (MQ (gb M) (va_Qv (fun ct1 => ct1 = va_up ct q (LA cJ n (ob K f (2 ^ K)))) (gB D cl tys N ad (ixA N ad sz)) (ixA N ad sz)) (ga M) (gs M) 0 0 (ixA N ad sz)) N ad 4 [(0, some (.ref (ad q))), (1, some (.int (nI (2 ^ K)))), (2, some (.int (nI (rv K (k - 1))))), (3, some (.int (nI k)))] [] (va_up ct q (LA cJ n (ob K f k))) := by
    intro d
    induction d with
    | zero =>
      intro k h1 h2 h3
      refine g_iload_n C dX0_orderByMirroredBits_4 (k := ?_)
      refine g_iload_n C dX0_orderByMirroredBits_5 (k := ?_)
      refine g_icN_ge (tgt := 32) C (by omega) hKp dX0_orderByMirroredBits_6 (by decide) (fun _ => ?_) (fun h => absurd h (by omega))
      refine g_vret C hr ?_ dX0_orderByMirroredBits_32
      rw [show k = 2 ^ K by omega]
    | succ d ih =>
      intro k h1 h2 h3
      refine g_iload_n C dX0_orderByMirroredBits_4 (k := ?_)
      refine g_iload_n C dX0_orderByMirroredBits_5 (k := ?_)
      refine g_icN_ge (tgt := 32) C (by omega) hKp dX0_orderByMirroredBits_6 (by decide) (fun h => absurd h (by omega)) (fun _ => ?_)
      refine g_iload_n C dX0_orderByMirroredBits_9 (k := ?_)
      refine g_iload_n C dX0_orderByMirroredBits_10 (k := ?_)
      refine g_cSi (n := 2) (av := [.int (nI (rv K (k - 1))), .int (nI (2 ^ K))]) C (by rw [hlM]; exact c_nextMirrored l hK (rv_lt K _)) gX0_orderByMirroredBits_X0_nextMirrored rfl ⟨rfl, rfl⟩ (by rw [hRM]; exact ⟨Nat.le_of_ble_eq_true rfl, Nat.le_of_ble_eq_true rfl⟩) (by rw [hRM]; exact ⟨Nat.le_of_ble_eq_true rfl, Nat.le_of_ble_eq_true rfl⟩) (Nat.le_of_ble_eq_true rfl) (by decide +kernel) rfl dX0_orderByMirroredBits_11 ?_
      rintro v ct1 ⟨rfl, rfl⟩
      rw [nm_rv K (k - 1) (by omega), show k - 1 + 1 = k by omega]
      have hrl := rv_lt K k
      refine g_istore_n C dX0_orderByMirroredBits_14 (k := ?_)
      refine g_iload_n C dX0_orderByMirroredBits_15 (k := ?_)
      refine g_iload_n C dX0_orderByMirroredBits_16 (k := ?_)
      by_cases hlt : k < rv K k
      · refine g_icN_ge (tgt := 26) C (by omega) (by omega) dX0_orderByMirroredBits_17 (by decide) (fun h => absurd h (by omega)) (fun _ => ?_)
        refine g_aload_n C dX0_orderByMirroredBits_20 (k := ?_)
        refine g_iload_n C dX0_orderByMirroredBits_21 (k := ?_)
        refine g_iload_n C dX0_orderByMirroredBits_22 (k := ?_)
        refine g_cSv (n := 3) (av := [.ref (ad q), .int (nI k), .int (nI (rv K k))]) C (by rw [hlM]; exact c_swap l hq (va_up_self _ _ _) ht hn (by omega) (by omega)) gX0_orderByMirroredBits_X0_swap rfl ⟨rfl, rfl⟩ (by rw [hRM]; exact ⟨Nat.le_of_ble_eq_true rfl, Nat.le_of_ble_eq_true rfl⟩) (by rw [hRM]; exact ⟨Nat.le_of_ble_eq_true rfl, Nat.le_of_ble_eq_true rfl⟩) (Nat.le_of_ble_eq_true rfl) (by decide +kernel) rfl dX0_orderByMirroredBits_23 ?_
        rintro ct1 rfl
        rw [bx_uu, show sw (ob K f k) k (rv K k) = ob K f (k + 1) from funext fun i => ob_swap K f (by omega) hlt i]
        refine gN_inc C dX0_orderByMirroredBits_26 (k := ?_)
        refine g_goto (tgt := 4) C dX0_orderByMirroredBits_29 (k := ?_)
        exact g_l2 (ih (k + 1) (by omega) (by omega) (by omega)) ⟨Or.inr rfl, Or.inr rfl, Or.inr rfl, Or.inr rfl, trivial⟩
      · refine g_icN_ge (tgt := 26) C (by omega) (by omega) dX0_orderByMirroredBits_17 (by decide) (fun _ => ?_) (fun h => absurd h (by omega))
        rw [← ob_keep K f (k := k) (by omega) (by omega)]
        refine gN_inc C dX0_orderByMirroredBits_26 (k := ?_)
        refine g_goto (tgt := 4) C dX0_orderByMirroredBits_29 (k := ?_)
        exact g_l2 (ih (k + 1) (by omega) (by omega) (by omega)) ⟨Or.inr rfl, Or.inr rfl, Or.inr rfl, Or.inr rfl, trivial⟩
  refine g_iconst C (nI 0) dX0_orderByMirroredBits_0 (k := ?_)
  refine g_istore_n C dX0_orderByMirroredBits_1 (k := ?_)
  refine g_iconst C (nI 1) dX0_orderByMirroredBits_2 (k := ?_)
  refine g_istore_n C dX0_orderByMirroredBits_3 (k := ?_)
  refine g_ct (ct' := va_up ct q (LA cJ n (ob K f 1))) ?_ ?_
  · rw [ob_one, ← he]
    funext k
    by_cases hk : k = q
    · subst hk; rw [va_up_self]
    · rw [va_up_ne _ _ hk]
  · refine g_l2 (loop (2 ^ K - 1) 1 (by omega) (by omega) (by omega)) ⟨Or.inr rfl, Or.inr rfl, Or.inr ?_, Or.inr rfl, trivial⟩
    show some (Value.int (nI 0)) = some (Value.int (nI (rv K 0)))
    rw [rv_zero]
end
section
/-! ===== rows of numbers as natural numbers ===== -/
abbrev LN (cJ : ClassId) (n : Nat) (v : Nat → Nat) : va_E := LA cJ n (fun k => lN (v k))
def nu (v : Nat → Nat) (i x : Nat) : Nat → Nat := fun k => if k = i then x else v k
theorem nu_s (v : Nat → Nat) (i x : Nat) : nu v i x i = x := by simp [nu]
theorem nu_n (v : Nat → Nat) {i k : Nat} (x : Nat) (h : k ≠ i) : nu v i x k = v k := by simp [nu, h]
theorem LN_up (cJ : ClassId) (n : Nat) (v : Nat → Nat) (i x : Nat) : LA cJ n (vp_updL (fun k => lN (v k)) i (lN x)) = LN cJ n (nu v i x) := by
  have : vp_updL (fun k => lN (v k)) i (lN x) = fun k => lN (nu v i x k) := by
    funext k
    unfold vp_updL nu
    split <;> rfl
  rw [this]
theorem gN_lald {M : gM} {cc : ByteArray} {own : String} {Ts : List Cond} {tys : List (ClassId × FieldType)} {D : va_G} {cl : List vw_C} {A : Nat → Prop} {nL cells slots : Nat} {Q : State → Prop} {N : Nat} {ad : Nat → Nat} {pc : Nat} {lv : gLv} {rest : List Value} {ct : Nat → va_E} (C : gX M cc own Ts tys D cl A nL) (q : Nat) (hq : q < N) {cJ : ClassId} {n : Nat} {v : Nat → Nat} (he : ct q = LN cJ n v) (ht : tys[0]? = some (cJ, .long)) {i : Nat} (hi : i < n) (hn : n < 2 ^ 31) (d : decode cc pc = .ok (.laload, 1)) (k : gW M D cl A nL cells slots Q N ad (pc + 1) lv (.long (lN (v i)) :: rest) ct) : gW M D cl A nL cells slots Q N ad pc lv (.int (nI i) :: .ref (ad q) :: rest) ct := g_lald C q 0 hq he ht hi hn d k
theorem gN_last {M : gM} {cc : ByteArray} {own : String} {Ts : List Cond} {tys : List (ClassId × FieldType)} {D : va_G} {cl : List vw_C} {A : Nat → Prop} {nL cells slots : Nat} {Q : State → Prop} {N : Nat} {ad : Nat → Nat} {pc : Nat} {lv : gLv} {rest : List Value} {ct : Nat → va_E} (C : gX M cc own Ts tys D cl A nL) (q : Nat) (hq : q < N) {cJ : ClassId} {n : Nat} {v : Nat → Nat} (he : ct q = LN cJ n v) (ht : tys[0]? = some (cJ, .long)) {i x : Nat} (hi : i < n) (hn : n < 2 ^ 31) (d : decode cc pc = .ok (.lastore, 1)) (k : gW M D cl A nL cells slots Q N ad (pc + 1) lv rest (va_up ct q (LN cJ n (nu v i x)))) : gW M D cl A nL cells slots Q N ad pc lv (.long (lN x) :: .int (nI i) :: .ref (ad q) :: rest) ct := g_last C q 0 hq he ht hi hn d (by rw [LN_up]; exact k)
theorem ob_lN (K : Nat) (v : Nat → Nat) (m : Nat) : ob K (fun k => lN (v k)) m = fun k => lN (ob K v m k) := by
  funext k
  unfold ob
  split <;> rfl
def swN (v : Nat → Nat) (i j : Nat) : Nat → Nat := fun k => if k = i then v j else if k = j then v i else v k
theorem sw_lN (v : Nat → Nat) (i j : Nat) : sw (fun k => lN (v k)) i j = fun k => lN (swN v i j k) := by
  funext k
  unfold sw swN
  split
  · rfl
  · split <;> rfl
/-! ===== the object: prime, wheel, rows, naturals, factors, left, right, answerWords ===== -/
abbrev obX (p : Nat) (ad : Nat → Nat) : va_E := .inr (0, [.long (lN p), .ref (ad 1), .ref (ad 2), .ref (ad 9), .ref (ad 16), .ref (ad 17), .ref (ad 18), .ref (ad 19)])
/-! ===== joinHalves ===== -/
def rdp (p x : Nat) : Nat := if p ≤ x then x - p else x
def sbp (p a b : Nat) : Nat := if b ≤ a then a - b else a + p - b
/-- number i behind the joining of parts of h; wn the wheel, t its step -/
def jv (p h t : Nat) (wn v : Nat → Nat) : Nat → Nat := fun i =>
  if i % (2 * h) < h then rdp p (v i + v (i + h) * wn (i % (2 * h) * t) % p) else sbp p (v (i - h)) (v i * wn ((i % (2 * h) - h) * t) % p)
def jd (S h i x : Nat) : Bool := decide (x < S) || (decide (S ≤ x) && decide (x < S + i)) || (decide (S + h ≤ x) && decide (x < S + h + i))
theorem jd_iff {S h i x : Nat} : jd S h i x = true ↔ (x < S ∨ (S ≤ x ∧ x < S + i) ∨ (S + h ≤ x ∧ x < S + h + i)) := by
  unfold jd; simp [or_assoc]
/-- the row where the numbers of jd are joined already -/
def jw (p h t : Nat) (wn v : Nat → Nat) (S i : Nat) : Nat → Nat := fun x => if jd S h i x = true then jv p h t wn v x else v x
theorem jw_not {p h t : Nat} {wn v : Nat → Nat} {S i x : Nat} (h1 : ¬ (x < S ∨ (S ≤ x ∧ x < S + i) ∨ (S + h ≤ x ∧ x < S + h + i))) : jw p h t wn v S i x = v x := by
  unfold jw; rw [if_neg (fun q => h1 (jd_iff.mp q))]
theorem jw_0 {p h t : Nat} {wn v : Nat → Nat} : jw p h t wn v 0 0 = v := by
  funext x; exact jw_not (by omega)
theorem jw_block {p h t : Nat} {wn v : Nat → Nat} {S : Nat} : jw p h t wn v S h = jw p h t wn v (S + 2 * h) 0 := by
  funext x
  unfold jw
  have : jd S h h x = jd (S + 2 * h) h 0 x := by
    rw [Bool.eq_iff_iff, jd_iff, jd_iff]
    omega
  rw [this]
theorem jw_step {p h t : Nat} {wn v : Nat → Nat} {S i : Nat} (hi : i < h) (hS : S % (2 * h) = 0) :
    nu (nu (jw p h t wn v S i) (S + i) (rdp p (v (S + i) + v (S + i + h) * wn (i * t) % p))) (S + i + h) (sbp p (v (S + i)) (v (S + i + h) * wn (i * t) % p)) = jw p h t wn v S (i + 1) := by
  have m1 : (S + i) % (2 * h) = i := by rw [Nat.add_mod, hS, Nat.zero_add, Nat.mod_mod, Nat.mod_eq_of_lt (by omega)]
  have m2 : (S + i + h) % (2 * h) = i + h := by rw [Nat.add_assoc, Nat.add_mod, hS, Nat.zero_add, Nat.mod_mod, Nat.mod_eq_of_lt (by omega)]
  funext x
  by_cases h1 : x = S + i + h
  · subst h1
    rw [nu_s]
    unfold jw
    rw [if_pos (jd_iff.mpr (by omega))]
    unfold jv
    rw [m2, if_neg (by omega), Nat.add_sub_cancel, Nat.add_sub_cancel]
  · rw [nu_n _ _ h1]
    by_cases h2 : x = S + i
    · subst h2
      rw [nu_s]
      unfold jw
      rw [if_pos (jd_iff.mpr (by omega))]
      unfold jv
      rw [m1, if_pos hi]
    · rw [nu_n _ _ h2]
      unfold jw
      have : jd S h i x = jd S h (i + 1) x := by
        rw [Bool.eq_iff_iff, jd_iff, jd_iff]
        omega
      rw [this]
theorem jv_lt {p h t n : Nat} {wn v : Nat → Nat} (hp : 0 < p) (hv : ∀ k, k < n → v k < p) {i : Nat} (hi : i < n) : jv p h t wn v i < p := by
  unfold jv rdp sbp
  have h1 := hv i hi
  have h2 := hv (i - h) (by omega)
  have h3 : v (i + h) * wn (i % (2 * h) * t) % p < p := Nat.mod_lt _ hp
  have h4 : v i * wn ((i % (2 * h) - h) * t) % p < p := Nat.mod_lt _ hp
  split
  · split <;> omega
  · split <;> omega

theorem k_wrap {a b p : Nat} (h : b ≤ a + p) : lN a - lN b + lN p = lN (a + p - b) := by
  rw [← lN_sub h, ← lN_add]
  grind
theorem k_neg {a b : Nat} (ha : a < 2 ^ 62) (hb : b < 2 ^ 62) (h : a < b) : ¬ lN 0 ≤ lN a - lN b := by
  intro q
  rw [Int64.le_iff_toInt_le] at q
  have e : (lN a - lN b).toInt = (a : Int) - b := by
    rw [Int64.toInt_sub, k_lI (by omega), k_lI (by omega)]
    exact Int.bmod_eq_of_le (by omega) (by omega)
  rw [e, k_lI (by decide)] at q
  omega

set_option maxRecDepth 100000 in
set_option maxHeartbeats 4000000 in
theorem c_joinHalves (l : Launch) {D : va_G} {tys : List (ClassId × FieldType)} {N : Nat} {ad : Nat → Nat} {ct : Nat → va_E} (hN : 20 ≤ N) {q : Nat} (hq : q < N) (hq0 : q ≠ 0) (hq1 : q ≠ 1) {cJ : ClassId} {p h t B : Nat} {wn v : Nat → Nat} (e0 : ct 0 = obX p ad) (ew : ct 1 = LN cJ 512 wn) (he : ct q = LN cJ 512 v) (ht : tys[0]? = some (cJ, .long)) (hp : 0 < p) (hp2 : p < 2 ^ 31) (hv : ∀ k, k < B * (2 * h) → v k < p) (hwn : ∀ k, k < 512 → wn k < p) (hB : B * (2 * h) ≤ 512) (hh : 0 < h) (ht0 : 0 < t) (hht : h * t ≤ 512) :
    gMv l yX0_joinHalves wsX0_joinHalves rz D vwCl tys N ad [.ref (ad 0), .ref (ad q), .int (nI (B * (2 * h))), .int (nI h), .int (nI t)] ct (fun ct1 => ct1 = va_up ct q (LN cJ 512 (jw p h t wn v (B * (2 * h)) 0))) := by
  refine gof_v (cc := cX0_joinHalves) (maxL := 17) (by decide) rfl (Nat.le_of_ble_eq_true rfl) ?_
  intro M sz C hlM hRM hr hsz
  have h0 : 0 < N := by omega
  have h1N : 1 < N := by omega
  obtain ⟨n, hne⟩ : ∃ n, n = B * (2 * h) := ⟨_, rfl⟩
  rw [← hne] at hB hv
  have outer : ∀ (c b : Nat), B = b + c → gW M D vwCl (ixA N ad sz) 17 0 0 (MQ (gb M) (va_Qv (fun ct1 => ct1 = va_up ct q (LN cJ 512 (jw p h t wn v (B * (2 * h)) 0))) (gB D vwCl tys N ad (ixA N ad sz)) (ixA N ad sz)) (ga M) (gs M) 0 0 (ixA N ad sz)) N ad 3 [(0, some (.ref (ad 0))), (1, some (.ref (ad q))), (2, some (.int (nI n))), (3, some (.int (nI h))), (4, some (.int (nI t))), (5, some (.int (nI (b * (2 * h)))))] [] (va_up ct q (LN cJ 512 (jw p h t wn v (b * (2 * h)) 0))) := by
    intro c
    induction c with
    | zero =>
      intro b hb
      have hbB : b = B := by omega
      subst hbB
      refine g_iload C dX0_joinHalves_3 (k := ?_)
      refine g_iload_n C dX0_joinHalves_5 (k := ?_)
      refine g_icN_ge (tgt := 139) C (by omega) (by omega) dX0_joinHalves_6 (by decide) (fun _ => ?_) (fun h => absurd h (by omega))
      exact g_vret C hr rfl dX0_joinHalves_139
    | succ c ihc =>
      intro b hb
      have hlt : b * (2 * h) + 2 * h ≤ n := by
        rw [hne, ← Nat.succ_mul]
        exact Nat.mul_le_mul_right _ (by omega)
      have hSm : (b * (2 * h)) % (2 * h) = 0 := Nat.mul_mod_left b (2 * h)
      have ihc2 := ihc (b + 1) (by omega)
      rw [show (b + 1) * (2 * h) = b * (2 * h) + 2 * h from Nat.succ_mul b (2 * h)] at ihc2
      generalize hSe : b * (2 * h) = S at hlt hSm ihc2 ⊢
      have hbn : S < n := by omega
      have inner : ∀ (d i : Nat), i ≤ h → h = i + d → gW M D vwCl (ixA N ad sz) 17 0 0 (MQ (gb M) (va_Qv (fun ct1 => ct1 = va_up ct q (LN cJ 512 (jw p h t wn v (B * (2 * h)) 0))) (gB D vwCl tys N ad (ixA N ad sz)) (ixA N ad sz)) (ga M) (gs M) 0 0 (ixA N ad sz)) N ad 12 [(0, some (.ref (ad 0))), (1, some (.ref (ad q))), (2, some (.int (nI n))), (3, some (.int (nI h))), (4, some (.int (nI t))), (5, some (.int (nI (S)))), (6, some (.int (nI i)))] [] (va_up ct q (LN cJ 512 (jw p h t wn v S i))) := by
        intro d
        induction d with
        | zero =>
          intro i hi hd
          have hih : i = h := by omega
          subst hih
          refine g_iload C dX0_joinHalves_12 (k := ?_)
          refine g_iload_n C dX0_joinHalves_14 (k := ?_)
          refine g_icN_ge (tgt := 128) C (by omega) (by omega) dX0_joinHalves_15 (by decide) (fun _ => ?_) (fun h => absurd h (by omega))
          refine g_iload C dX0_joinHalves_128 (k := ?_)
          refine g_iconst C (nI 2) dX0_joinHalves_130 (k := ?_)
          refine g_iload_n C dX0_joinHalves_131 (k := ?_)
          refine gN_imul C dX0_joinHalves_132 ?_
          refine gN_iadd C dX0_joinHalves_133 ?_
          refine g_istore C dX0_joinHalves_134 (k := ?_)
          refine g_goto (tgt := 3) C dX0_joinHalves_136 (k := ?_)
          rw [jw_block]
          exact g_l2 ihc2 ⟨Or.inr rfl, Or.inr rfl, Or.inr rfl, Or.inr rfl, Or.inr rfl, Or.inr rfl, trivial⟩
        | succ d ihd =>
          intro i hi0 hd
          have hi : i < h := by omega
          have e1 : (va_up ct q (LN cJ 512 (jw p h t wn v S i))) 0 = obX p ad := by rw [va_up_ne _ _ (fun e => hq0 e.symm)]; exact e0
          have e1w : (va_up ct q (LN cJ 512 (jw p h t wn v S i))) 1 = LN cJ 512 wn := by rw [va_up_ne _ _ (fun e => hq1 e.symm)]; exact ew
          have e2 : ∀ z, (va_up ct q z) 0 = obX p ad := fun z => by rw [va_up_ne _ _ (fun e => hq0 e.symm)]; exact e0
          have e2 := e2 (LN cJ 512 (nu (jw p h t wn v S i) (S + i) (rdp p (v (S + i) + v (S + i + h) * wn (i * t) % p))))
          have hit : i * t < 512 := Nat.lt_of_lt_of_le (Nat.mul_lt_mul_of_pos_right hi ht0) hht
          have rl : jw p h t wn v S i (S + i) = v (S + i) := jw_not (by omega)
          have rh : jw p h t wn v S i (S + i + h) = v (S + i + h) := jw_not (by omega)
          refine g_iload C dX0_joinHalves_12 (k := ?_)
          refine g_iload_n C dX0_joinHalves_14 (k := ?_)
          refine g_icN_ge (tgt := 128) C (by omega) (by omega) dX0_joinHalves_15 (by decide) (fun h => absurd h (by omega)) (fun _ => ?_)
          refine g_iload C dX0_joinHalves_18 (k := ?_)
          refine g_iload C dX0_joinHalves_20 (k := ?_)
          refine gN_iadd C dX0_joinHalves_22 ?_
          refine g_istore C dX0_joinHalves_23 (k := ?_)
          refine g_iload C dX0_joinHalves_25 (k := ?_)
          refine g_iload_n C dX0_joinHalves_27 (k := ?_)
          refine gN_iadd C dX0_joinHalves_28 ?_
          refine g_istore C dX0_joinHalves_29 (k := ?_)
          refine g_aload_n C dX0_joinHalves_31 (k := ?_)
          refine g_iload C dX0_joinHalves_32 (k := ?_)
          refine gN_lald C q hq (va_up_self _ _ _) ht (by omega) (by decide) dX0_joinHalves_34 ?_
          refine g_lstore C dX0_joinHalves_35 (k := ?_)
          refine g_aload_n C dX0_joinHalves_37 (k := ?_)
          refine g_iload C dX0_joinHalves_38 (k := ?_)
          refine gN_lald C q hq (va_up_self _ _ _) ht (by omega) (by decide) dX0_joinHalves_40 ?_
          refine g_aload_n C dX0_joinHalves_41 (k := ?_)
          refine g_getf (Cn := RX0) (T := TX0) (n := 8) (ref := "WheelProducts") C 0 1 h0 e1 rfl (by decide +kernel) (by decide) (by decide +kernel) (fun _ h => h) rfl dX0_joinHalves_42 ?_
          refine g_iload C dX0_joinHalves_45 (k := ?_)
          refine g_iload C dX0_joinHalves_47 (k := ?_)
          refine gN_imul C dX0_joinHalves_49 ?_
          refine gN_lald C 1 h1N e1w ht hit (by decide) dX0_joinHalves_50 ?_
          refine gN_lmul C dX0_joinHalves_51 ?_
          rw [rl, rh]
          have hv1 := hv (S + i) (by omega)
          have hmul : v (S + i + h) * wn (i * t) < 2 ^ 62 := Nat.lt_of_lt_of_le (Nat.mul_lt_mul'' (Nat.lt_trans (hv _ (by omega)) hp2) (Nat.lt_trans (hwn _ hit) hp2)) (by decide)
          refine g_aload_n C dX0_joinHalves_52 (k := ?_)
          refine g_getf (Cn := RX0) (T := TX0) (n := 8) (ref := "WheelProducts") C 0 0 h0 e1 rfl (by decide +kernel) (by decide) (by decide +kernel) (fun _ h => h) rfl dX0_joinHalves_53 ?_
          refine gN_lrem C (by omega) hp (by omega) dX0_joinHalves_56 ?_
          refine g_lstore C dX0_joinHalves_57 (k := ?_)
          have hol : v (S + i + h) * wn (i * t) % p < p := Nat.mod_lt _ hp
          have hj := jw_step (p := p) (h := h) (t := t) (wn := wn) (v := v) hi hSm
          generalize ho : v (S + i + h) * wn (i * t) % p = o at hol e2 hj ⊢
          by_cases h1 : p ≤ v (S + i) + o <;> by_cases h2 : o ≤ v (S + i)
          · refine g_lload C dX0_joinHalves_59 (k := ?_)
            refine g_lload C dX0_joinHalves_61 (k := ?_)
            refine gN_ladd C dX0_joinHalves_63 ?_
            refine g_lstore C dX0_joinHalves_64 (k := ?_)
            refine g_lload C dX0_joinHalves_66 (k := ?_)
            refine g_lload C dX0_joinHalves_68 (k := ?_)
            refine gN_lsub C h2 dX0_joinHalves_70 ?_
            refine g_lstore C dX0_joinHalves_71 (k := ?_)
            refine g_aload_n C dX0_joinHalves_73 (k := ?_)
            refine g_iload C dX0_joinHalves_74 (k := ?_)
            refine g_lload C dX0_joinHalves_76 (k := ?_)
            refine g_aload_n C dX0_joinHalves_78 (k := ?_)
            refine g_getf (Cn := RX0) (T := TX0) (n := 8) (ref := "WheelProducts") C 0 0 h0 e1 rfl (by decide +kernel) (by decide) (by decide +kernel) (fun _ h => h) rfl dX0_joinHalves_79 ?_
            refine g_lcN_lt (tgt := 96) C (by omega) (by omega) dX0_joinHalves_82 dX0_joinHalves_83 (by decide) (fun h => absurd h (by omega)) (fun _ => ?_)
            refine g_lload C dX0_joinHalves_86 (k := ?_)
            refine g_aload_n C dX0_joinHalves_88 (k := ?_)
            refine g_getf (Cn := RX0) (T := TX0) (n := 8) (ref := "WheelProducts") C 0 0 h0 e1 rfl (by decide +kernel) (by decide) (by decide +kernel) (fun _ h => h) rfl dX0_joinHalves_89 ?_
            refine gN_lsub C h1 dX0_joinHalves_92 ?_
            refine g_goto (tgt := 98) C dX0_joinHalves_93 (k := ?_)
            refine g_tl _ (show lN (v (S + i) + o - p) = lN (rdp p (v (S + i) + o)) by rw [rdp, if_pos h1]) ?_
            refine gN_last C q hq (va_up_self _ _ _) ht (by omega) (by decide) dX0_joinHalves_98 ?_
            rw [bx_uu]
            refine g_aload_n C dX0_joinHalves_99 (k := ?_)
            refine g_iload C dX0_joinHalves_100 (k := ?_)
            refine g_lload C dX0_joinHalves_102 (k := ?_)
            refine g_lconst C (lN 0) dX0_joinHalves_104 (k := ?_)
            refine g_lcN_ge (tgt := 119) C (by omega) (by decide) dX0_joinHalves_105 dX0_joinHalves_106 (by decide) (fun _ => ?_) (fun h => absurd h (by omega))
            refine g_lload C dX0_joinHalves_119 (k := ?_)
            refine g_tl _ (show lN (v (S + i) - o) = lN (sbp p (v (S + i)) o) by rw [sbp, if_pos h2]) ?_
            refine gN_last C q hq (va_up_self _ _ _) ht (by omega) (by decide) dX0_joinHalves_121 ?_
            rw [bx_uu, hj]
            refine gN_inc C dX0_joinHalves_122 (k := ?_)
            refine g_goto (tgt := 12) C dX0_joinHalves_125 (k := ?_)
            exact g_l2 (ihd (i + 1) (by omega) (by omega)) ⟨Or.inr rfl, Or.inr rfl, Or.inr rfl, Or.inr rfl, Or.inr rfl, Or.inr rfl, Or.inr rfl, trivial⟩
          · refine g_lload C dX0_joinHalves_59 (k := ?_)
            refine g_lload C dX0_joinHalves_61 (k := ?_)
            refine gN_ladd C dX0_joinHalves_63 ?_
            refine g_lstore C dX0_joinHalves_64 (k := ?_)
            refine g_lload C dX0_joinHalves_66 (k := ?_)
            refine g_lload C dX0_joinHalves_68 (k := ?_)
            refine g_lsub C dX0_joinHalves_70 (k := ?_)
            refine g_lstore C dX0_joinHalves_71 (k := ?_)
            refine g_aload_n C dX0_joinHalves_73 (k := ?_)
            refine g_iload C dX0_joinHalves_74 (k := ?_)
            refine g_lload C dX0_joinHalves_76 (k := ?_)
            refine g_aload_n C dX0_joinHalves_78 (k := ?_)
            refine g_getf (Cn := RX0) (T := TX0) (n := 8) (ref := "WheelProducts") C 0 0 h0 e1 rfl (by decide +kernel) (by decide) (by decide +kernel) (fun _ h => h) rfl dX0_joinHalves_79 ?_
            refine g_lcN_lt (tgt := 96) C (by omega) (by omega) dX0_joinHalves_82 dX0_joinHalves_83 (by decide) (fun h => absurd h (by omega)) (fun _ => ?_)
            refine g_lload C dX0_joinHalves_86 (k := ?_)
            refine g_aload_n C dX0_joinHalves_88 (k := ?_)
            refine g_getf (Cn := RX0) (T := TX0) (n := 8) (ref := "WheelProducts") C 0 0 h0 e1 rfl (by decide +kernel) (by decide) (by decide +kernel) (fun _ h => h) rfl dX0_joinHalves_89 ?_
            refine gN_lsub C h1 dX0_joinHalves_92 ?_
            refine g_goto (tgt := 98) C dX0_joinHalves_93 (k := ?_)
            refine g_tl _ (show lN (v (S + i) + o - p) = lN (rdp p (v (S + i) + o)) by rw [rdp, if_pos h1]) ?_
            refine gN_last C q hq (va_up_self _ _ _) ht (by omega) (by decide) dX0_joinHalves_98 ?_
            rw [bx_uu]
            refine g_aload_n C dX0_joinHalves_99 (k := ?_)
            refine g_iload C dX0_joinHalves_100 (k := ?_)
            refine g_lload C dX0_joinHalves_102 (k := ?_)
            refine g_lconst C (lN 0) dX0_joinHalves_104 (k := ?_)
            refine g_lc_ge (tgt := 119) C dX0_joinHalves_105 dX0_joinHalves_106 (by decide) (fun h => absurd h (k_neg (by omega) (by omega) (by omega))) (fun _ => ?_)
            refine g_lload C dX0_joinHalves_109 (k := ?_)
            refine g_aload_n C dX0_joinHalves_111 (k := ?_)
            refine g_getf (Cn := RX0) (T := TX0) (n := 8) (ref := "WheelProducts") C 0 0 h0 e2 rfl (by decide +kernel) (by decide) (by decide +kernel) (fun _ h => h) rfl dX0_joinHalves_112 ?_
            refine g_ladd C dX0_joinHalves_115 (k := ?_)
            refine g_goto (tgt := 121) C dX0_joinHalves_116 (k := ?_)
            refine g_tl _ (show lN (v (S + i)) - lN o + lN p = lN (sbp p (v (S + i)) o) by rw [sbp, if_neg h2, k_wrap (by omega)]) ?_
            refine gN_last C q hq (va_up_self _ _ _) ht (by omega) (by decide) dX0_joinHalves_121 ?_
            rw [bx_uu, hj]
            refine gN_inc C dX0_joinHalves_122 (k := ?_)
            refine g_goto (tgt := 12) C dX0_joinHalves_125 (k := ?_)
            exact g_l2 (ihd (i + 1) (by omega) (by omega)) ⟨Or.inr rfl, Or.inr rfl, Or.inr rfl, Or.inr rfl, Or.inr rfl, Or.inr rfl, Or.inr rfl, trivial⟩
          · refine g_lload C dX0_joinHalves_59 (k := ?_)
            refine g_lload C dX0_joinHalves_61 (k := ?_)
            refine gN_ladd C dX0_joinHalves_63 ?_
            refine g_lstore C dX0_joinHalves_64 (k := ?_)
            refine g_lload C dX0_joinHalves_66 (k := ?_)
            refine g_lload C dX0_joinHalves_68 (k := ?_)
            refine gN_lsub C h2 dX0_joinHalves_70 ?_
            refine g_lstore C dX0_joinHalves_71 (k := ?_)
            refine g_aload_n C dX0_joinHalves_73 (k := ?_)
            refine g_iload C dX0_joinHalves_74 (k := ?_)
            refine g_lload C dX0_joinHalves_76 (k := ?_)
            refine g_aload_n C dX0_joinHalves_78 (k := ?_)
            refine g_getf (Cn := RX0) (T := TX0) (n := 8) (ref := "WheelProducts") C 0 0 h0 e1 rfl (by decide +kernel) (by decide) (by decide +kernel) (fun _ h => h) rfl dX0_joinHalves_79 ?_
            refine g_lcN_lt (tgt := 96) C (by omega) (by omega) dX0_joinHalves_82 dX0_joinHalves_83 (by decide) (fun _ => ?_) (fun h => absurd h (by omega))
            refine g_lload C dX0_joinHalves_96 (k := ?_)
            refine g_tl _ (show lN (v (S + i) + o) = lN (rdp p (v (S + i) + o)) by rw [rdp, if_neg h1]) ?_
            refine gN_last C q hq (va_up_self _ _ _) ht (by omega) (by decide) dX0_joinHalves_98 ?_
            rw [bx_uu]
            refine g_aload_n C dX0_joinHalves_99 (k := ?_)
            refine g_iload C dX0_joinHalves_100 (k := ?_)
            refine g_lload C dX0_joinHalves_102 (k := ?_)
            refine g_lconst C (lN 0) dX0_joinHalves_104 (k := ?_)
            refine g_lcN_ge (tgt := 119) C (by omega) (by decide) dX0_joinHalves_105 dX0_joinHalves_106 (by decide) (fun _ => ?_) (fun h => absurd h (by omega))
            refine g_lload C dX0_joinHalves_119 (k := ?_)
            refine g_tl _ (show lN (v (S + i) - o) = lN (sbp p (v (S + i)) o) by rw [sbp, if_pos h2]) ?_
            refine gN_last C q hq (va_up_self _ _ _) ht (by omega) (by decide) dX0_joinHalves_121 ?_
            rw [bx_uu, hj]
            refine gN_inc C dX0_joinHalves_122 (k := ?_)
            refine g_goto (tgt := 12) C dX0_joinHalves_125 (k := ?_)
            exact g_l2 (ihd (i + 1) (by omega) (by omega)) ⟨Or.inr rfl, Or.inr rfl, Or.inr rfl, Or.inr rfl, Or.inr rfl, Or.inr rfl, Or.inr rfl, trivial⟩
          · refine g_lload C dX0_joinHalves_59 (k := ?_)
            refine g_lload C dX0_joinHalves_61 (k := ?_)
            refine gN_ladd C dX0_joinHalves_63 ?_
            refine g_lstore C dX0_joinHalves_64 (k := ?_)
            refine g_lload C dX0_joinHalves_66 (k := ?_)
            refine g_lload C dX0_joinHalves_68 (k := ?_)
            refine g_lsub C dX0_joinHalves_70 (k := ?_)
            refine g_lstore C dX0_joinHalves_71 (k := ?_)
            refine g_aload_n C dX0_joinHalves_73 (k := ?_)
            refine g_iload C dX0_joinHalves_74 (k := ?_)
            refine g_lload C dX0_joinHalves_76 (k := ?_)
            refine g_aload_n C dX0_joinHalves_78 (k := ?_)
            refine g_getf (Cn := RX0) (T := TX0) (n := 8) (ref := "WheelProducts") C 0 0 h0 e1 rfl (by decide +kernel) (by decide) (by decide +kernel) (fun _ h => h) rfl dX0_joinHalves_79 ?_
            refine g_lcN_lt (tgt := 96) C (by omega) (by omega) dX0_joinHalves_82 dX0_joinHalves_83 (by decide) (fun _ => ?_) (fun h => absurd h (by omega))
            refine g_lload C dX0_joinHalves_96 (k := ?_)
            refine g_tl _ (show lN (v (S + i) + o) = lN (rdp p (v (S + i) + o)) by rw [rdp, if_neg h1]) ?_
            refine gN_last C q hq (va_up_self _ _ _) ht (by omega) (by decide) dX0_joinHalves_98 ?_
            rw [bx_uu]
            refine g_aload_n C dX0_joinHalves_99 (k := ?_)
            refine g_iload C dX0_joinHalves_100 (k := ?_)
            refine g_lload C dX0_joinHalves_102 (k := ?_)
            refine g_lconst C (lN 0) dX0_joinHalves_104 (k := ?_)
            refine g_lc_ge (tgt := 119) C dX0_joinHalves_105 dX0_joinHalves_106 (by decide) (fun h => absurd h (k_neg (by omega) (by omega) (by omega))) (fun _ => ?_)
            refine g_lload C dX0_joinHalves_109 (k := ?_)
            refine g_aload_n C dX0_joinHalves_111 (k := ?_)
            refine g_getf (Cn := RX0) (T := TX0) (n := 8) (ref := "WheelProducts") C 0 0 h0 e2 rfl (by decide +kernel) (by decide) (by decide +kernel) (fun _ h => h) rfl dX0_joinHalves_112 ?_
            refine g_ladd C dX0_joinHalves_115 (k := ?_)
            refine g_goto (tgt := 121) C dX0_joinHalves_116 (k := ?_)
            refine g_tl _ (show lN (v (S + i)) - lN o + lN p = lN (sbp p (v (S + i)) o) by rw [sbp, if_neg h2, k_wrap (by omega)]) ?_
            refine gN_last C q hq (va_up_self _ _ _) ht (by omega) (by decide) dX0_joinHalves_121 ?_
            rw [bx_uu, hj]
            refine gN_inc C dX0_joinHalves_122 (k := ?_)
            refine g_goto (tgt := 12) C dX0_joinHalves_125 (k := ?_)
            exact g_l2 (ihd (i + 1) (by omega) (by omega)) ⟨Or.inr rfl, Or.inr rfl, Or.inr rfl, Or.inr rfl, Or.inr rfl, Or.inr rfl, Or.inr rfl, trivial⟩
      refine g_iload C dX0_joinHalves_3 (k := ?_)
      refine g_iload_n C dX0_joinHalves_5 (k := ?_)
      refine g_icN_ge (tgt := 139) C (by omega) (by omega) dX0_joinHalves_6 (by decide) (fun h => absurd h (by omega)) (fun _ => ?_)
      refine g_iconst C (nI 0) dX0_joinHalves_9 (k := ?_)
      refine g_istore C dX0_joinHalves_10 (k := ?_)
      exact g_l2 (inner h 0 (by omega) (by omega)) ⟨Or.inr rfl, Or.inr rfl, Or.inr rfl, Or.inr rfl, Or.inr rfl, Or.inr rfl, Or.inr rfl, trivial⟩
  refine g_iconst C (nI 0) dX0_joinHalves_0 (k := ?_)
  refine g_istore C dX0_joinHalves_1 (k := ?_)
  refine g_ct (ct' := va_up ct q (LN cJ 512 (jw p h t wn v (0 * (2 * h)) 0))) ?_ ?_
  · rw [Nat.zero_mul, jw_0]
    funext k
    by_cases hk : k = q
    · subst hk; rw [va_up_self]; exact he
    · rw [va_up_ne _ _ hk]
  · refine g_l2 (outer B 0 (by omega)) ⟨Or.inr rfl, Or.inr rfl, Or.inr ?_, Or.inr rfl, Or.inr rfl, Or.inr ?_, trivial⟩
    · rw [hne]; rfl
    · rw [Nat.zero_mul]; rfl
end
section
/-! ===== an array's content counts below its length alone ===== -/
theorem LA_ext {cJ : ClassId} {n : Nat} {f g : Nat → Int64} (h : ∀ k, k < n → f k = g k) : vp_cell cJ (n, .inr (.inl f)) = vp_cell cJ (n, .inr (.inl g)) := by
  show arrV cJ n (fun j => .long (f j)) = arrV cJ n (fun j => .long (g j))
  unfold arrV
  have : (fun j : Fin n => Value.long (f j.val)) = (fun j : Fin n => Value.long (g j.val)) := funext fun j => by rw [h j.val j.isLt]
  rw [this]
theorem g_ext {M : gM} {D : va_G} {cl : List vw_C} {A : Nat → Prop} {nL cells slots : Nat} {Q : State → Prop} {N : Nat} {ad : Nat → Nat} {pc : Nat} {lv : gLv} {st : List Value} {ct : Nat → va_E} (q : Nat) {cJ : ClassId} {n : Nat} {f g : Nat → Int64} (he : ct q = LA cJ n f) (h : ∀ k, k < n → f k = g k) (k : gW M D cl A nL cells slots Q N ad pc lv st (va_up ct q (LA cJ n g))) : gW M D cl A nL cells slots Q N ad pc lv st ct := by
  intro H locs ls hP hD hS hl
  refine k H locs ls (fun i x hx => ?_) (ix_D hD) hS hl
  have hi := ix_lt hx
  rw [ix_at hi] at hx
  cases hx
  by_cases e : i = q
  · subst e
    rw [va_up_self]
    have h1 : H[ad i]? = some (vp_cell cJ (n, .inr (.inl f))) := hP i _ (ix_e hi he)
    show H[ad i]? = some (vp_cell cJ (n, .inr (.inl g)))
    rw [← LA_ext h]; exact h1
  · rw [va_up_ne _ _ e]
    exact hP i _ (ix_at hi)
theorem up_id {ct : Nat → va_E} {q : Nat} {e : va_E} (h : ct q = e) : va_up ct q e = ct := by
  funext k
  by_cases hk : k = q
  · subst hk; rw [va_up_self, h]
  · rw [va_up_ne _ _ hk]

set_option maxRecDepth 100000 in
set_option maxHeartbeats 4000000 in
theorem c_fill (l : Launch) {D : va_G} {tys : List (ClassId × FieldType)} {N : Nat} {ad : Nat → Nat} {ct : Nat → va_E} {cl : List vw_C} {q : Nat} (hq : q < N) {cJ : ClassId} {n x : Nat} {v : Nat → Nat} (he : ct q = LN cJ n v) (ht : tys[0]? = some (cJ, .long)) (hn : n < 2 ^ 31) :
    gMv l yJ7_fill_d0a16 wsJ7_fill_d0a16 rz D cl tys N ad [.ref (ad q), .long (lN x)] ct (fun ct1 => ct1 = va_up ct q (LN cJ n (fun _ => x))) := by
  refine gof_v (cc := cJ7_fill_d0a16) (maxL := 5) (by decide) rfl (Nat.le_of_ble_eq_true rfl) ?_
  intro M sz C hlM hRM hr hsz
  have loop : ∀ (d i : Nat), n = i + d → gW M D cl (ixA N ad sz) 5 0 0 (MQ (gb M) (va_Qv (fun ct1 => ct1 = va_up ct q (LN cJ n (fun _ => x))) (gB D cl tys N ad (ixA N ad sz)) (ixA N ad sz)) (ga M) (gs M) 0 0 (ixA N ad sz)) N ad 6 [(0, some (.ref (ad q))), (1, some (.long (lN x))), (3, some (.int (nI i))), (4, some (.int (nI n)))] [] (va_up ct q (LN cJ n (fun k => if k < i then x else v k))) := by
    intro d
    induction d with
    | zero =>
      intro i hd
      refine g_iload_n C dJ7_fill_d0a16_6 (k := ?_)
      refine g_iload C dJ7_fill_d0a16_7 (k := ?_)
      refine g_icN_ge (tgt := 22) C (by omega) hn dJ7_fill_d0a16_9 (by decide) (fun _ => ?_) (fun h => absurd h (by omega))
      refine g_ext q (va_up_self _ _ _) (g := fun k => lN ((fun _ => x) k)) (fun k hk => by show lN (if k < i then x else v k) = lN x; rw [if_pos (by omega)]) ?_
      refine g_vret C hr ?_ dJ7_fill_d0a16_22
      rw [bx_uu]
    | succ d ih =>
      intro i hd
      refine g_iload_n C dJ7_fill_d0a16_6 (k := ?_)
      refine g_iload C dJ7_fill_d0a16_7 (k := ?_)
      refine g_icN_ge (tgt := 22) C (by omega) hn dJ7_fill_d0a16_9 (by decide) (fun h => absurd h (by omega)) (fun _ => ?_)
      refine g_aload_n C dJ7_fill_d0a16_12 (k := ?_)
      refine g_iload_n C dJ7_fill_d0a16_13 (k := ?_)
      refine g_lload_n C dJ7_fill_d0a16_14 (k := ?_)
      refine gN_last C q hq (va_up_self _ _ _) ht (by omega) hn dJ7_fill_d0a16_15 ?_
      refine gN_inc C dJ7_fill_d0a16_16 (k := ?_)
      refine g_goto (tgt := 6) C dJ7_fill_d0a16_19 (k := ?_)
      have e : nu (fun k => if k < i then x else v k) i x = fun k => if k < i + 1 then x else v k := by
        funext k
        unfold nu
        by_cases h1 : k = i
        · rw [if_pos h1, if_pos (by omega)]
        · rw [if_neg h1]
          show (if k < i then x else v k) = _
          by_cases h2 : k < i
          · rw [if_pos h2, if_pos (by omega)]
          · rw [if_neg h2, if_neg (by omega)]
      rw [bx_uu, e]
      exact g_l2 (ih (i + 1) (by omega)) ⟨Or.inr rfl, Or.inr rfl, Or.inr rfl, Or.inr rfl, trivial⟩
  refine g_iconst C (nI 0) dJ7_fill_d0a16_0 (k := ?_)
  refine g_istore_n C dJ7_fill_d0a16_1 (k := ?_)
  refine g_aload_n C dJ7_fill_d0a16_2 (k := ?_)
  refine g_alen C q 0 hq he ht dJ7_fill_d0a16_3 ?_
  refine g_istore C dJ7_fill_d0a16_4 (k := ?_)
  refine g_ct (ct' := va_up ct q (LN cJ n (fun k => if k < 0 then x else v k))) ?_ ?_
  · have : (fun k => if k < 0 then x else v k) = v := funext fun k => if_neg (by omega)
    rw [this, up_id he]
  · exact g_l2 (loop n 0 (by omega)) ⟨Or.inr rfl, Or.inr rfl, Or.inr rfl, Or.inr rfl, trivial⟩
theorem gofF_l {l : Launch} {y : MethodName} {ws ws' : List Cond} {rm : Room} {cc : ByteArray} {maxL : Nat} {D : va_G} {cl : List vw_C} {tys : List (ClassId × FieldType)} {N : Nat} {ad : Nat → Nat} {av : List Value} {ct : Nat → va_E} {post : Int64 → (Nat → va_E) → Prop} (hy : plainFor y = true) (hw : ws = Cond.code y cc maxL (some .long) :: ws') (hlen : (lg_sl av).length ≤ maxL)
    (body : ∀ (M : gM) (sz : Nat), gX M cc y.cls ws tys D cl (ixA N ad sz) maxL → gl M = l → gR M = (headSpec ws rm).room → (gt M).sig.returnType = (some .long) → (gs M).heap.size = sz → gW M D cl (ixA N ad sz) maxL 0 0 (MQ (gb M) (va_Ql post (gB D cl tys N ad (ixA N ad sz)) (ixA N ad sz)) (ga M) (gs M) 0 0 (ixA N ad sz)) N ad 0 (lva 0 av) [] ct) : gMl l y ws rm D cl tys N ad av ct post := by
  intro sz
  refine va_MetF (cc := cc) (maxL := maxL) (ret := (some .long)) hy hw ?_
  intro p e s m args below meth c s₁ B hml hv
  obtain ⟨rfl, hsz, hP, hK, hD0⟩ := hv
  have hts := atoms_spec (ws := ws) B.pre
  have hown : s.vm.findClass y.cls = some m.cls := findClass_of_methodNamed B.named
  have hl := lv_entry av (n := maxL) hlen
  rw [lg_entry_eq]
  generalize (lg_sl av ++ List.replicate (maxL - (lg_sl av).length) Slot.unset).toArray = ls at hl ⊢
  exact body (p, l, e, (headSpec ws rm).room, s, m, av.toArray, below, meth, c) sz ⟨B.exec, B.bytes, hml, hown, hts, hK, fun q h => Or.inr (by rw [← hsz]; exact h), B.notSynchronized⟩ rfl rfl B.returns hsz s.heap [] ls hP (ixA_D hD0) va_S.rf (lva_h hl)

/-- the rest of any long -/
def fm (p : Nat) (x : Int64) : Nat := (x.toInt % (p : Int)).toNat
theorem fm_lt {p : Nat} (h : 0 < p) (x : Int64) : fm p x < p := by
  have h1 := Int.emod_nonneg x.toInt (show (p : Int) ≠ 0 by omega)
  have h2 := Int.emod_lt_of_pos x.toInt (show (0 : Int) < p by omega)
  unfold fm; omega
theorem k_rem (x : Int64) {p : Nat} (h0 : 0 < p) (hp : p < 2 ^ 31) : (x - x / lN p * lN p).toInt = x.toInt.tmod p := by
  have a := x.toInt_lt
  have b := x.le_toInt
  have e : (lN p).toInt = p := k_lI (by omega)
  have ed : (x / lN p).toInt = x.toInt.tdiv p := by rw [Jvm.Kit.i64_div (by rw [e]; omega), e]
  have hm := Int.tmod_add_tdiv_mul x.toInt p
  have hb := tmod_bounds (a := x.toInt) (M := p) (by omega)
  rw [Int64.toInt_sub, Int64.toInt_mul, ed, e]
  generalize x.toInt.tdiv p * (p : Int) = T at hm
  generalize x.toInt.tmod p = r at hm hb
  rw [Int.bmod_def, Int.bmod_def]
  omega
theorem k_remN (x : Int64) {p : Nat} (h0 : 0 < p) (hp : p < 2 ^ 31) (hx : 0 ≤ x.toInt) : x - x / lN p * lN p = lN (fm p x) := by
  apply Int64.toInt_inj.mp
  have := fm_lt h0 x
  have h1 := Int.emod_nonneg x.toInt (show (p : Int) ≠ 0 by omega)
  rw [k_rem x h0 hp, k_lI (by omega), Int.tmod_eq_emod_of_nonneg hx]
  unfold fm; omega
/-- of a number below 0: the rest is 0 or the machine's one and p -/
theorem k_remM (x : Int64) {p : Nat} (h0 : 0 < p) (hp : p < 2 ^ 31) (hx : x.toInt < 0) :
    (x.toInt.tmod p = 0 ∧ fm p x = 0) ∨ (x.toInt.tmod p < 0 ∧ (fm p x : Int) = x.toInt.tmod p + p) := by
  have hm := Int.tmod_add_tdiv_mul x.toInt p
  have hb := tmod_bounds (a := x.toInt) (M := p) (by omega)
  have h1 := Int.emod_nonneg x.toInt (show (p : Int) ≠ 0 by omega)
  have e : x.toInt.tmod p = -((-x.toInt).tmod p) := by rw [Int.neg_tmod, Int.neg_neg]
  have e2 : (-x.toInt).tmod p = (-x.toInt) % p := Int.tmod_eq_emod_of_nonneg (by omega)
  have h3 := Int.emod_nonneg (-x.toInt) (show (p : Int) ≠ 0 by omega)
  have h4 := Int.emod_lt_of_pos (-x.toInt) (show (0 : Int) < p by omega)
  rcases (show x.toInt.tmod p = 0 ∨ x.toInt.tmod p < 0 by omega) with h | h
  · refine Or.inl ⟨h, ?_⟩
    have : x.toInt % p = 0 := by
      rw [show x.toInt = x.toInt.tdiv p * p by omega, Int.mul_emod_left]
    unfold fm; rw [this]; rfl
  · refine Or.inr ⟨h, ?_⟩
    have : x.toInt % p = x.toInt.tmod p + p := by
      have e5 : x.toInt = (x.toInt.tmod p + p) + (x.toInt.tdiv p - 1) * p := by
        rw [Int.sub_mul, Int.one_mul]; omega
      rw [e5, Int.add_mul_emod_self_right, ← e5]
      exact Int.emod_eq_of_lt (by omega) (by omega)
    unfold fm; omega
theorem k_xor (x : Int64) {p : Nat} (hp : p < 2 ^ 31) : lN 0 ≤ x ^^^ lN p ↔ 0 ≤ x.toInt := by
  have e0 : lN 0 = 0 := rfl
  rw [e0, Jvm.Kit.i64_nonneg]
  have h1 : ∀ y : Int64, 0 ≤ y.toInt ↔ y.toBitVec.msb = false := fun y => by
    show 0 ≤ y.toBitVec.toInt ↔ _
    rw [BitVec.msb_eq_toInt]; simp
  rw [h1, h1]
  show (x.toBitVec ^^^ (lN p).toBitVec).msb = false ↔ _
  rw [BitVec.msb_xor]
  have : (lN p).toBitVec.msb = false := (h1 (lN p)).mp (by rw [k_lI (by omega)]; omega)
  rw [this, Bool.xor_false]

set_option maxRecDepth 100000 in
set_option maxHeartbeats 4000000 in
theorem c_floorMod (l : Launch) {D : va_G} {tys : List (ClassId × FieldType)} {N : Nat} {ad : Nat → Nat} {ct : Nat → va_E} {cl : List vw_C} {p : Nat} (x : Int64) (h0 : 0 < p) (hp : p < 2 ^ 31) :
    gMl l yJ9_floorMod_f86c9 wsJ9_floorMod_f86c9 rz D cl tys N ad [.long x, .long (lN p)] ct (fun r ct1 => r = lN (fm p x) ∧ ct1 = ct) := by
  refine gofF_l (cc := cJ9_floorMod_f86c9) (maxL := 6) (by decide +kernel) rfl (Nat.le_of_ble_eq_true rfl) ?_
  intro M sz C hlM hRM hr hsz
  have hfl := fm_lt h0 x
  refine g_lload_n C dJ9_floorMod_f86c9_0 (k := ?_)
  refine g_lload_n C dJ9_floorMod_f86c9_1 (k := ?_)
  refine g_lrem C dJ9_floorMod_f86c9_2 (k_lne h0 (by omega)) ?_
  refine g_lstore C dJ9_floorMod_f86c9_3 (k := ?_)
  refine g_lload_n C dJ9_floorMod_f86c9_5 (k := ?_)
  refine g_lload_n C dJ9_floorMod_f86c9_6 (k := ?_)
  refine g_lxor C dJ9_floorMod_f86c9_7 ?_
  refine g_lconst C (lN 0) dJ9_floorMod_f86c9_8 (k := ?_)
  refine g_lc_ge (tgt := 25) C dJ9_floorMod_f86c9_9 dJ9_floorMod_f86c9_10 (by decide) (fun h => ?_) (fun h => ?_)
  · have hx := (k_xor x hp).mp h
    refine g_lload C dJ9_floorMod_f86c9_25 (k := ?_)
    exact g_lret C hr ⟨k_remN x h0 hp hx, rfl⟩ dJ9_floorMod_f86c9_27
  · have hx : x.toInt < 0 := by
      have := mt (k_xor x hp).mpr h
      omega
    have hr1 := k_rem x h0 hp
    have hb := tmod_bounds (a := x.toInt) (M := p) (by omega)
    refine g_lload C dJ9_floorMod_f86c9_13 (k := ?_)
    refine g_lconst C (lN 0) dJ9_floorMod_f86c9_15 (k := ?_)
    rcases k_remM x h0 hp hx with ⟨h1, h2⟩ | ⟨h1, h2⟩
    · refine g_lc_eq (tgt := 25) C dJ9_floorMod_f86c9_16 dJ9_floorMod_f86c9_17 (by decide) (fun _ => ?_) (fun h => absurd (Int64.toInt_inj.mp (by rw [hr1, h1]; rfl)) h)
      refine g_lload C dJ9_floorMod_f86c9_25 (k := ?_)
      exact g_lret C hr ⟨Int64.toInt_inj.mp (by rw [hr1, h1, h2]; rfl), rfl⟩ dJ9_floorMod_f86c9_27
    · refine g_lc_eq (tgt := 25) C dJ9_floorMod_f86c9_16 dJ9_floorMod_f86c9_17 (by decide) (fun h => absurd h1 (by rw [← hr1, h, k_lI (by decide)]; decide)) (fun _ => ?_)
      refine g_lload C dJ9_floorMod_f86c9_20 (k := ?_)
      refine g_lload_n C dJ9_floorMod_f86c9_22 (k := ?_)
      refine g_ladd C dJ9_floorMod_f86c9_23 ?_
      refine g_lret C hr ⟨Int64.toInt_inj.mp ?_, rfl⟩ dJ9_floorMod_f86c9_24
      have e : (lN p).toInt = p := k_lI (by omega)
      rw [Jvm.Kit.i64_add (by rw [hr1, e]; omega) (by rw [hr1, e]; omega), hr1, e, k_lI (by omega), h2]
abbrev rr1 : Room := { frames := 1, cells := 0, slots := 0, locals := 25 }
set_option maxRecDepth 100000 in
set_option maxHeartbeats 4000000 in
theorem c_rest (l : Launch) {D : va_G} {tys : List (ClassId × FieldType)} {N : Nat} {ad : Nat → Nat} {ct : Nat → va_E} (hN : 20 ≤ N) {p : Nat} (e0 : ct 0 = obX p ad) (x : Int64) (hp0 : 0 < p) (hp : p < 2 ^ 31) :
    gMl l yX0_rest wsX0_rest rr1 D vwCl tys N ad [.ref (ad 0), .long x] ct (fun r ct1 => r = lN (fm p x) ∧ ct1 = ct) := by
  refine gof_l (cc := cX0_rest) (maxL := 3) (by decide) rfl (Nat.le_of_ble_eq_true rfl) ?_
  intro M sz C hlM hRM hr hsz
  have h0 : 0 < N := by omega
  refine g_lload_n C dX0_rest_0 (k := ?_)
  refine g_aload_n C dX0_rest_1 (k := ?_)
  refine g_getf (Cn := RX0) (T := TX0) (n := 8) (ref := "WheelProducts") C 0 0 h0 e0 rfl (by decide +kernel) (by decide) (by decide +kernel) (fun _ h => h) rfl dX0_rest_2 ?_
  refine g_cSl (n := 2) (av := [.long x, .long (lN p)]) C (by rw [hlM]; exact c_floorMod l x hp0 hp) gX0_rest_J9_floorMod_f86c9 rfl ⟨rfl, rfl⟩ (by rw [hRM]; exact ⟨Nat.le_of_ble_eq_true rfl, Nat.le_of_ble_eq_true rfl⟩) (by rw [hRM]; exact ⟨Nat.le_of_ble_eq_true rfl, Nat.le_of_ble_eq_true rfl⟩) (Nat.le_of_ble_eq_true rfl) (by decide +kernel) rfl dX0_rest_5 ?_
  rintro v ct1 ⟨rfl, rfl⟩
  exact g_lret C hr ⟨rfl, rfl⟩ dX0_rest_8
/-- one more than the greatest place below n that isn't 0; 0 without one -/
def up1 (v : Nat → Nat) : Nat → Nat
  | 0 => 0
  | n + 1 => if v n = 0 then up1 v n else n + 1
theorem up1_le (v : Nat → Nat) : ∀ n, up1 v n ≤ n
  | 0 => Nat.le_refl 0
  | n + 1 => by
    unfold up1
    split
    · exact Nat.le_succ_of_le (up1_le v n)
    · exact Nat.le_refl _
theorem up1_z (v : Nat → Nat) : ∀ n i, up1 v n ≤ i → i < n → v i = 0
  | 0, i, _, h => absurd h (Nat.not_lt_zero i)
  | n + 1, i, h1, h2 => by
    unfold up1 at h1
    by_cases e : v n = 0
    · rw [if_pos e] at h1
      rcases Nat.lt_or_ge i n with h | h
      · exact up1_z v n i h1 h
      · rw [show i = n by omega]; exact e
    · rw [if_neg e] at h1
      omega
theorem up1_nz (v : Nat → Nat) : ∀ n, up1 v n ≠ 0 → v (up1 v n - 1) ≠ 0
  | 0, h => absurd rfl h
  | n + 1, h => by
    unfold up1 at h ⊢
    by_cases e : v n = 0
    · rw [if_pos e] at h ⊢
      exact up1_nz v n h
    · rw [if_neg e, Nat.add_sub_cancel]
      exact e
theorem up1_congr {v w : Nat → Nat} : ∀ {n : Nat}, (∀ i, i < n → v i = w i) → up1 v n = up1 w n
  | 0, _ => rfl
  | n + 1, h => by
    unfold up1
    rw [h n (Nat.lt_succ_self n), up1_congr (fun i hi => h i (Nat.lt_succ_of_lt hi))]

set_option maxRecDepth 100000 in
set_option maxHeartbeats 4000000 in
theorem c_usedPart (l : Launch) {D : va_G} {tys : List (ClassId × FieldType)} {N : Nat} {ad : Nat → Nat} {ct : Nat → va_E} {cl : List vw_C} {q : Nat} (hq : q < N) {cJ : ClassId} {n : Nat} {v : Nat → Nat} (he : ct q = LN cJ n v) (ht : tys[0]? = some (cJ, .long)) (hn : n < 2 ^ 31) (hv : ∀ k, k < n → v k < 2 ^ 63) :
    gMi l yX0_usedPart wsX0_usedPart rz D cl tys N ad [.ref (ad q)] ct (fun r ct1 => r = nI (up1 v n) ∧ ct1 = ct) := by
  refine gof_i (cc := cX0_usedPart) (maxL := 2) (by decide) rfl (Nat.le_of_ble_eq_true rfl) ?_
  intro M sz C hlM hRM hr hsz
  have loop : ∀ i : Nat, i ≤ n → up1 v i = up1 v n → gW M D cl (ixA N ad sz) 2 0 0 (MQ (gb M) (va_Qi (fun r ct1 => r = nI (up1 v n) ∧ ct1 = ct) (gB D cl tys N ad (ixA N ad sz)) (ixA N ad sz)) (ga M) (gs M) 0 0 (ixA N ad sz)) N ad 3 [(0, some (.ref (ad q))), (1, some (.int (nI i)))] [] ct := by
    intro i
    induction i with
    | zero =>
      intro _ hu
      refine g_iload_n C dX0_usedPart_3 (k := ?_)
      refine g_ifN_le (tgt := 23) C (by decide) dX0_usedPart_4 (by decide) (fun _ => ?_) (fun h => absurd h (by decide))
      refine g_iload_n C dX0_usedPart_23 (k := ?_)
      refine g_iret C hr ⟨?_, rfl⟩ dX0_usedPart_24
      rw [← hu]; rfl
    | succ i ih =>
      intro hi hu
      refine g_iload_n C dX0_usedPart_3 (k := ?_)
      refine g_ifN_le (tgt := 23) C (by omega) dX0_usedPart_4 (by decide) (fun h => absurd h (by omega)) (fun _ => ?_)
      refine g_aload_n C dX0_usedPart_7 (k := ?_)
      refine g_iload_n C dX0_usedPart_8 (k := ?_)
      refine g_iconst C (nI 1) dX0_usedPart_9 (k := ?_)
      refine gN_isub C (by omega) dX0_usedPart_10 ?_
      rw [Nat.add_sub_cancel]
      refine gN_lald C q hq he ht (by omega) hn dX0_usedPart_11 ?_
      refine g_lconst C (lN 0) dX0_usedPart_12 (k := ?_)
      have hvi := hv i (by omega)
      by_cases hz : v i = 0
      · refine g_lcN_ne (tgt := 23) C hvi (by decide) dX0_usedPart_13 dX0_usedPart_14 (by decide) (fun h => absurd hz h) (fun _ => ?_)
        refine gN_dec C dX0_usedPart_17 (k := ?_)
        refine g_goto (tgt := 3) C dX0_usedPart_20 (k := ?_)
        refine g_l2 (ih (by omega) ?_) ⟨Or.inr rfl, Or.inr rfl, trivial⟩
        rw [← hu, up1, if_pos hz]
      · refine g_lcN_ne (tgt := 23) C hvi (by decide) dX0_usedPart_13 dX0_usedPart_14 (by decide) (fun _ => ?_) (fun h => absurd h hz)
        refine g_iload_n C dX0_usedPart_23 (k := ?_)
        refine g_iret C hr ⟨?_, rfl⟩ dX0_usedPart_24
        rw [← hu, up1, if_neg hz]
  refine g_aload_n C dX0_usedPart_0 (k := ?_)
  refine g_alen C q 0 hq he ht dX0_usedPart_1 ?_
  refine g_istore_n C dX0_usedPart_2 (k := ?_)
  exact g_l2 (loop n (Nat.le_refl n) rfl) ⟨Or.inr rfl, Or.inr rfl, trivial⟩
end
section
/-! ===== powerModulo ===== -/
theorem pm_odd (a s k m : Nat) : (a * s % m) * (s * s % m) ^ k % m = a * s ^ (2 * k + 1) % m := by
  rw [Nat.mul_mod, Nat.mod_mod, ← Nat.pow_mod, ← Nat.mul_mod, Nat.pow_succ, Nat.pow_mul, Nat.pow_two, Nat.mul_assoc, Nat.mul_comm s]
theorem pm_even (a s k m : Nat) : a * (s * s % m) ^ k % m = a * s ^ (2 * k) % m := by
  rw [Nat.mul_mod, ← Nat.pow_mod, ← Nat.mul_mod, Nat.pow_mul, Nat.pow_two]

set_option maxRecDepth 100000 in
set_option maxHeartbeats 4000000 in
theorem c_powerModulo (l : Launch) {D : va_G} {tys : List (ClassId × FieldType)} {N : Nat} {ad : Nat → Nat} {ct : Nat → va_E} {cl : List vw_C} {x e m : Nat} (hx : x < m) (he : e < 2 ^ 63) (hm : 1 < m) (hm2 : m < 2 ^ 31) :
    gMl l yX0_powerModulo wsX0_powerModulo rz D cl tys N ad [.long (lN x), .long (lN e), .long (lN m)] ct (fun r ct1 => r = lN (x ^ e % m) ∧ ct1 = ct) := by
  refine gof_l (cc := cX0_powerModulo) (maxL := 12) (by decide) rfl (Nat.le_of_ble_eq_true rfl) ?_
  intro M sz C hlM hRM hr hsz
  have loop : ∀ (b a s : Nat), a < m → s < m → b < 2 ^ 63 → a * s ^ b % m = x ^ e % m → gW M D cl (ixA N ad sz) 12 0 0 (MQ (gb M) (va_Ql (fun r ct1 => r = lN (x ^ e % m) ∧ ct1 = ct) (gB D cl tys N ad (ixA N ad sz)) (ixA N ad sz)) (ga M) (gs M) 0 0 (ixA N ad sz)) N ad 9 [(4, some (.long (lN m))), (6, some (.long (lN a))), (8, some (.long (lN s))), (10, some (.long (lN b)))] [] ct := by
    intro b
    induction b using Nat.strongRecOn with
    | ind b ih =>
      intro a s ha hs hb63 hv
      have hss : s * s < 2 ^ 62 := Nat.lt_of_lt_of_le (Nat.mul_lt_mul'' (Nat.lt_trans hs hm2) (Nat.lt_trans hs hm2)) (by decide)
      have has : a * s < 2 ^ 62 := Nat.lt_of_lt_of_le (Nat.mul_lt_mul'' (Nat.lt_trans ha hm2) (Nat.lt_trans hs hm2)) (by decide)
      refine g_lload C dX0_powerModulo_9 (k := ?_)
      refine g_lconst C (lN 0) dX0_powerModulo_11 (k := ?_)
      by_cases hb0 : b = 0
      · refine g_lcN_le (tgt := 54) C hb63 (by decide) dX0_powerModulo_12 dX0_powerModulo_13 (by decide) (fun _ => ?_) (fun h => absurd h (by omega))
        refine g_lload C dX0_powerModulo_54 (k := ?_)
        refine g_lret C hr ⟨?_, rfl⟩ dX0_powerModulo_56
        rw [hb0, Nat.pow_zero, Nat.mul_one, Nat.mod_eq_of_lt ha] at hv
        rw [hv]
      · refine g_lcN_le (tgt := 54) C hb63 (by decide) dX0_powerModulo_12 dX0_powerModulo_13 (by decide) (fun h => absurd h (by omega)) (fun _ => ?_)
        refine g_lload C dX0_powerModulo_16 (k := ?_)
        refine g_lconst C (lN 1) dX0_powerModulo_18 (k := ?_)
        refine g_land C dX0_powerModulo_19 ?_
        refine g_tl _ (k_and1 b) ?_
        refine g_lconst C (lN 1) dX0_powerModulo_20 (k := ?_)
        by_cases h1 : b % 2 = 1
        · refine g_lcN_ne (tgt := 35) C (by omega) (by decide) dX0_powerModulo_21 dX0_powerModulo_22 (by decide) (fun h => absurd h1 h) (fun _ => ?_)
          refine g_lload C dX0_powerModulo_25 (k := ?_)
          refine g_lload C dX0_powerModulo_27 (k := ?_)
          refine gN_lmul C dX0_powerModulo_29 ?_
          refine g_lload C dX0_powerModulo_30 (k := ?_)
          refine gN_lrem C (by omega) (by omega) (by omega) dX0_powerModulo_32 ?_
          refine g_lstore C dX0_powerModulo_33 (k := ?_)
          refine g_lload C dX0_powerModulo_35 (k := ?_)
          refine g_lload C dX0_powerModulo_37 (k := ?_)
          refine gN_lmul C dX0_powerModulo_39 ?_
          refine g_lload C dX0_powerModulo_40 (k := ?_)
          refine gN_lrem C (by omega) (by omega) (by omega) dX0_powerModulo_42 ?_
          refine g_lstore C dX0_powerModulo_43 (k := ?_)
          refine g_lload C dX0_powerModulo_45 (k := ?_)
          refine g_iconst C (nI 1) dX0_powerModulo_47 (k := ?_)
          refine g_lshr C dX0_powerModulo_48 ?_
          refine g_tl _ (k_lshr1 hb63) ?_
          refine g_lstore C dX0_powerModulo_49 (k := ?_)
          refine g_goto (tgt := 9) C dX0_powerModulo_51 (k := ?_)
          refine g_l2 (ih (b / 2) (by omega) (a * s % m) (s * s % m) (Nat.mod_lt _ (by omega)) (Nat.mod_lt _ (by omega)) (by omega) ?_) ⟨Or.inr rfl, Or.inr rfl, Or.inr rfl, Or.inr rfl, trivial⟩
          rw [pm_odd, show 2 * (b / 2) + 1 = b by omega, hv]
        · refine g_lcN_ne (tgt := 35) C (by omega) (by decide) dX0_powerModulo_21 dX0_powerModulo_22 (by decide) (fun _ => ?_) (fun h => absurd h h1)
          refine g_lload C dX0_powerModulo_35 (k := ?_)
          refine g_lload C dX0_powerModulo_37 (k := ?_)
          refine gN_lmul C dX0_powerModulo_39 ?_
          refine g_lload C dX0_powerModulo_40 (k := ?_)
          refine gN_lrem C (by omega) (by omega) (by omega) dX0_powerModulo_42 ?_
          refine g_lstore C dX0_powerModulo_43 (k := ?_)
          refine g_lload C dX0_powerModulo_45 (k := ?_)
          refine g_iconst C (nI 1) dX0_powerModulo_47 (k := ?_)
          refine g_lshr C dX0_powerModulo_48 ?_
          refine g_tl _ (k_lshr1 hb63) ?_
          refine g_lstore C dX0_powerModulo_49 (k := ?_)
          refine g_goto (tgt := 9) C dX0_powerModulo_51 (k := ?_)
          refine g_l2 (ih (b / 2) (by omega) a (s * s % m) ha (Nat.mod_lt _ (by omega)) (by omega) ?_) ⟨Or.inr rfl, Or.inr rfl, Or.inr rfl, Or.inr rfl, trivial⟩
          rw [pm_even, show 2 * (b / 2) = b by omega, hv]
  refine g_lconst C (lN 1) dX0_powerModulo_0 (k := ?_)
  refine g_lstore C dX0_powerModulo_1 (k := ?_)
  refine g_lload_n C dX0_powerModulo_3 (k := ?_)
  refine g_lstore C dX0_powerModulo_4 (k := ?_)
  refine g_lload_n C dX0_powerModulo_6 (k := ?_)
  refine g_lstore C dX0_powerModulo_7 (k := ?_)
  exact g_l2 (loop e 1 x hm hx he (by rw [Nat.one_mul])) ⟨Or.inr rfl, Or.inr rfl, Or.inr rfl, Or.inr rfl, trivial⟩
abbrev ri1 : Room := { frames := 1, cells := 0, slots := 0, locals := 31 }
set_option maxRecDepth 100000 in
set_option maxHeartbeats 4000000 in
theorem c_inverseOf (l : Launch) {D : va_G} {tys : List (ClassId × FieldType)} {N : Nat} {ad : Nat → Nat} {ct : Nat → va_E} (hN : 20 ≤ N) {p x : Nat} (e0 : ct 0 = obX p ad) (hx : x < p) (hp1 : 1 < p) (hp : p < 2 ^ 31) :
    gMl l yX0_inverseOf wsX0_inverseOf ri1 D vwCl tys N ad [.ref (ad 0), .long (lN x)] ct (fun r ct1 => r = lN (x ^ (p - 2) % p) ∧ ct1 = ct) := by
  refine gof_l (cc := cX0_inverseOf) (maxL := 3) (by decide) rfl (Nat.le_of_ble_eq_true rfl) ?_
  intro M sz C hlM hRM hr hsz
  have h0 : 0 < N := by omega
  refine g_lload_n C dX0_inverseOf_0 (k := ?_)
  refine g_aload_n C dX0_inverseOf_1 (k := ?_)
  refine g_getf (Cn := RX0) (T := TX0) (n := 8) (ref := "WheelProducts") C 0 0 h0 e0 rfl (by decide +kernel) (by decide) (by decide +kernel) (fun _ h => h) rfl dX0_inverseOf_2 ?_
  refine g_ldc2 (v := 2) C (by decide +kernel) dX0_inverseOf_5 ?_
  refine g_tl (lN 2) rfl ?_
  refine gN_lsub C (by omega) dX0_inverseOf_8 ?_
  refine g_aload_n C dX0_inverseOf_9 (k := ?_)
  refine g_getf (Cn := RX0) (T := TX0) (n := 8) (ref := "WheelProducts") C 0 0 h0 e0 rfl (by decide +kernel) (by decide) (by decide +kernel) (fun _ h => h) rfl dX0_inverseOf_10 ?_
  refine g_cSl (n := 3) (av := [.long (lN x), .long (lN (p - 2)), .long (lN p)]) C (by rw [hlM]; exact c_powerModulo l hx (by omega) hp1 hp) gX0_inverseOf_X0_powerModulo rfl ⟨rfl, rfl⟩ (by rw [hRM]; exact ⟨Nat.le_of_ble_eq_true rfl, Nat.le_of_ble_eq_true rfl⟩) (by rw [hRM]; exact ⟨Nat.le_of_ble_eq_true rfl, Nat.le_of_ble_eq_true rfl⟩) (Nat.le_of_ble_eq_true rfl) (by decide +kernel) rfl dX0_inverseOf_13 ?_
  rintro v ct1 ⟨rfl, rfl⟩
  exact g_lret C hr ⟨rfl, rfl⟩ dX0_inverseOf_16
set_option maxRecDepth 100000 in
set_option maxHeartbeats 4000000 in
theorem c_turnThatHolds (l : Launch) {D : va_G} {tys : List (ClassId × FieldType)} {N : Nat} {ad : Nat → Nat} {ct : Nat → va_E} {cl : List vw_C} {n : Nat} (hn : n ≤ 512) :
    gMi l yX0_turnThatHolds wsX0_turnThatHolds rz D cl tys N ad [.int (nI n)] ct (fun r ct1 => (∃ K, K ≤ 9 ∧ n ≤ 2 ^ K ∧ r = nI (2 ^ K)) ∧ ct1 = ct) := by
  refine gof_i (cc := cX0_turnThatHolds) (maxL := 2) (by decide) rfl (Nat.le_of_ble_eq_true rfl) ?_
  intro M sz C hlM hRM hr hsz
  have loop : ∀ (d K : Nat), 9 = K + d → gW M D cl (ixA N ad sz) 2 0 0 (MQ (gb M) (va_Qi (fun r ct1 => (∃ K, K ≤ 9 ∧ n ≤ 2 ^ K ∧ r = nI (2 ^ K)) ∧ ct1 = ct) (gB D cl tys N ad (ixA N ad sz)) (ixA N ad sz)) (ga M) (gs M) 0 0 (ixA N ad sz)) N ad 2 [(0, some (.int (nI n))), (1, some (.int (nI (2 ^ K))))] [] ct := by
    intro d
    induction d with
    | zero =>
      intro K hd
      have hK : K = 9 := by omega
      subst hK
      refine g_iload_n C dX0_turnThatHolds_2 (k := ?_)
      refine g_iload_n C dX0_turnThatHolds_3 (k := ?_)
      refine g_icN_ge (tgt := 21) C (by decide) (by omega) dX0_turnThatHolds_4 (by decide) (fun h => ?_) (fun h => absurd h (by omega))
      refine g_iload_n C dX0_turnThatHolds_21 (k := ?_)
      exact g_iret C hr ⟨⟨9, by omega, h, rfl⟩, rfl⟩ dX0_turnThatHolds_22
    | succ d ih =>
      intro K hd
      have hK : 2 ^ K < 512 := show 2 ^ K < 2 ^ 9 from Nat.pow_lt_pow_right (by decide) (by omega)
      refine g_iload_n C dX0_turnThatHolds_2 (k := ?_)
      refine g_iload_n C dX0_turnThatHolds_3 (k := ?_)
      refine g_icN_ge (tgt := 21) C (by omega) (by omega) dX0_turnThatHolds_4 (by decide) (fun h => ?_) (fun _ => ?_)
      · refine g_iload_n C dX0_turnThatHolds_21 (k := ?_)
        exact g_iret C hr ⟨⟨K, by omega, h, rfl⟩, rfl⟩ dX0_turnThatHolds_22
      · refine g_iload_n C dX0_turnThatHolds_7 (k := ?_)
        refine g_sipush C (nI 512) dX0_turnThatHolds_8 (k := ?_)
        refine g_icN_ge (tgt := 21) C (by omega) (by decide) dX0_turnThatHolds_11 (by decide) (fun h => absurd h (by omega)) (fun _ => ?_)
        refine g_iload_n C dX0_turnThatHolds_14 (k := ?_)
        refine g_iconst C (nI 2) dX0_turnThatHolds_15 (k := ?_)
        refine gN_imul C dX0_turnThatHolds_16 ?_
        refine g_istore_n C dX0_turnThatHolds_17 (k := ?_)
        refine g_goto (tgt := 2) C dX0_turnThatHolds_18 (k := ?_)
        exact g_l2 (ih (K + 1) (by omega)) ⟨Or.inr rfl, Or.inr rfl, trivial⟩
  refine g_iconst C (nI 1) dX0_turnThatHolds_0 (k := ?_)
  refine g_istore_n C dX0_turnThatHolds_1 (k := ?_)
  exact g_l2 (loop 9 0 rfl) ⟨Or.inr rfl, Or.inr rfl, trivial⟩
/-! ===== the turn: all stages ===== -/
def tf (p : Nat) (wn : Nat → Nat) (K : Nat) (v : Nat → Nat) : Nat → Nat → Nat
  | 0 => ob K v (2 ^ K)
  | s + 1 => jw p (2 ^ s) (256 / 2 ^ s) wn (tf p wn K v s) (2 ^ K) 0
theorem ob_lt {p K m : Nat} {v : Nat → Nat} (hv : ∀ k, k < 2 ^ K → v k < p) {k : Nat} (hk : k < 2 ^ K) : ob K v m k < p := by
  unfold ob
  split
  · exact hv _ (rv_lt K k)
  · exact hv _ hk
theorem tf_lt {p K : Nat} {wn v : Nat → Nat} (hp : 0 < p) (hv : ∀ k, k < 2 ^ K → v k < p) : ∀ s k, k < 2 ^ K → tf p wn K v s k < p
  | 0, k, hk => ob_lt hv hk
  | s + 1, k, hk => by
    rw [tf]
    unfold jw
    split
    · exact jv_lt hp (tf_lt hp hv s) hk
    · exact tf_lt hp hv s k hk
abbrev rt2 : Room := { frames := 2, cells := 0, slots := 0, locals := 50 }

set_option maxRecDepth 100000 in
set_option maxHeartbeats 4000000 in
theorem c_turnForward (l : Launch) {D : va_G} {tys : List (ClassId × FieldType)} {N : Nat} {ad : Nat → Nat} {ct : Nat → va_E} (hN : 20 ≤ N) {q : Nat} (hq : q < N) (hq0 : q ≠ 0) (hq1 : q ≠ 1) {cJ : ClassId} {p K : Nat} {wn v : Nat → Nat} (e0 : ct 0 = obX p ad) (ew : ct 1 = LN cJ 512 wn) (he : ct q = LN cJ 512 v) (ht : tys[0]? = some (cJ, .long)) (hp : 0 < p) (hp2 : p < 2 ^ 31) (hK : K ≤ 9) (hv : ∀ k, k < 2 ^ K → v k < p) (hwn : ∀ k, k < 512 → wn k < p) :
    gMv l yX0_turnForward wsX0_turnForward rt2 D vwCl tys N ad [.ref (ad 0), .ref (ad q), .int (nI (2 ^ K))] ct (fun ct1 => ct1 = va_up ct q (LN cJ 512 (tf p wn K v K))) := by
  refine gof_v (cc := cX0_turnForward) (maxL := 5) (by decide) rfl (Nat.le_of_ble_eq_true rfl) ?_
  intro M sz C hlM hRM hr hsz
  have h0 : 0 < N := by omega
  have hKn : 2 ^ K ≤ 512 := show 2 ^ K ≤ 2 ^ 9 from Nat.pow_le_pow_right (by decide) hK
  have loop : ∀ (d s : Nat), K = s + d → gW M D vwCl (ixA N ad sz) 5 0 0 (MQ (gb M) (va_Qv (fun ct1 => ct1 = va_up ct q (LN cJ 512 (tf p wn K v K))) (gB D vwCl tys N ad (ixA N ad sz)) (ixA N ad sz)) (ga M) (gs M) 0 0 (ixA N ad sz)) N ad 12 [(0, some (.ref (ad 0))), (1, some (.ref (ad q))), (2, some (.int (nI (2 ^ K)))), (3, some (.int (nI (256 / 2 ^ s)))), (4, some (.int (nI (2 ^ s))))] [] (va_up ct q (LN cJ 512 (tf p wn K v s))) := by
    intro d
    induction d with
    | zero =>
      intro s hd
      have hsK : s = K := by omega
      subst hsK
      refine g_iload C dX0_turnForward_12 (k := ?_)
      refine g_iload_n C dX0_turnForward_14 (k := ?_)
      refine g_icN_ge (tgt := 40) C (by omega) (by omega) dX0_turnForward_15 (by decide) (fun _ => ?_) (fun h => absurd h (by omega))
      exact g_vret C hr rfl dX0_turnForward_40
    | succ d ih =>
      intro s hd
      have hsp : 2 ^ s < 2 ^ K := Nat.pow_lt_pow_right (by decide) (by omega)
      have hs8 : 2 ^ s ≤ 256 := show 2 ^ s ≤ 2 ^ 8 from Nat.pow_le_pow_right (by decide) (by omega)
      have hpos : 0 < 2 ^ s := Nat.pow_pos (by decide)
      have hB : 2 ^ (K - (s + 1)) * (2 * 2 ^ s) = 2 ^ K := by
        rw [Nat.mul_comm 2, ← Nat.pow_succ, ← Nat.pow_add]
        congr 1
        omega
      have hdl : 256 / 2 ^ s ≤ 256 := Nat.div_le_self _ _
      refine g_iload C dX0_turnForward_12 (k := ?_)
      refine g_iload_n C dX0_turnForward_14 (k := ?_)
      refine g_icN_ge (tgt := 40) C (by omega) (by omega) dX0_turnForward_15 (by decide) (fun h => absurd h (by omega)) (fun _ => ?_)
      refine g_aload_n C dX0_turnForward_18 (k := ?_)
      refine g_aload_n C dX0_turnForward_19 (k := ?_)
      refine g_iload_n C dX0_turnForward_20 (k := ?_)
      refine g_iload C dX0_turnForward_21 (k := ?_)
      refine g_iload_n C dX0_turnForward_23 (k := ?_)
      refine g_cVv (rmy := rz) (n := 4) (av := [.ref (ad q), .int (nI (2 ^ K)), .int (nI (2 ^ s)), .int (nI (256 / 2 ^ s))]) C 0 h0 (by rw [va_up_ne _ _ (fun e => hq0 e.symm)]; exact e0) rfl (post := fun ct1 => ct1 = va_up ct q (LN cJ 512 (tf p wn K v (s + 1)))) ?_ gX0_turnForward_X0_joinHalves rfl ⟨rfl, rfl⟩ (by rw [hRM]; exact ⟨Nat.le_of_ble_eq_true rfl, Nat.le_of_ble_eq_true rfl⟩) (by rw [hRM]; exact ⟨Nat.le_of_ble_eq_true rfl, Nat.le_of_ble_eq_true rfl⟩) (Nat.le_of_ble_eq_true rfl) (by decide +kernel) rfl dX0_turnForward_24 ?_
      · rw [hlM]
        have c1 := c_joinHalves l (D := D) (tys := tys) (ad := ad) (ct := va_up ct q (LN cJ 512 (tf p wn K v s))) hN hq hq0 hq1 (p := p) (h := 2 ^ s) (t := 256 / 2 ^ s) (B := 2 ^ (K - (s + 1))) (by rw [va_up_ne _ _ (fun e => hq0 e.symm)]; exact e0) (by rw [va_up_ne _ _ (fun e => hq1 e.symm)]; exact ew) (va_up_self _ _ _) ht hp hp2 (by rw [hB]; exact tf_lt hp hv s) hwn (by rw [hB]; exact hKn) hpos (Nat.div_pos hs8 hpos) (Nat.le_trans (Nat.mul_div_le _ _) (by decide))
        rw [hB, bx_uu] at c1
        exact c1
      rintro ct1 rfl
      refine g_iload_n C dX0_turnForward_27 (k := ?_)
      refine g_iconst C (nI 2) dX0_turnForward_28 (k := ?_)
      refine gN_idiv C (by omega) (by decide) (by decide) dX0_turnForward_29 ?_
      rw [Nat.div_div_eq_div_mul, ← Nat.pow_succ]
      refine g_istore_n C dX0_turnForward_30 (k := ?_)
      refine g_iload C dX0_turnForward_31 (k := ?_)
      refine g_iconst C (nI 2) dX0_turnForward_33 (k := ?_)
      refine gN_imul C dX0_turnForward_34 ?_
      rw [← Nat.pow_succ]
      refine g_istore C dX0_turnForward_35 (k := ?_)
      refine g_goto (tgt := 12) C dX0_turnForward_37 (k := ?_)
      exact g_l2 (ih (s + 1) (by omega)) ⟨Or.inr rfl, Or.inr rfl, Or.inr rfl, Or.inr rfl, Or.inr rfl, trivial⟩
  refine g_aload_n C dX0_turnForward_0 (k := ?_)
  refine g_iload_n C dX0_turnForward_1 (k := ?_)
  refine g_cSv (n := 2) (av := [.ref (ad q), .int (nI (2 ^ K))]) C (by rw [hlM]; exact c_orderByMirroredBits l hq he ht (by decide) hK hKn) gX0_turnForward_X0_orderByMirroredBits rfl ⟨rfl, rfl⟩ (by rw [hRM]; exact ⟨Nat.le_of_ble_eq_true rfl, Nat.le_of_ble_eq_true rfl⟩) (by rw [hRM]; exact ⟨Nat.le_of_ble_eq_true rfl, Nat.le_of_ble_eq_true rfl⟩) (Nat.le_of_ble_eq_true rfl) (by decide +kernel) rfl dX0_turnForward_2 ?_
  rintro ct1 rfl
  rw [ob_lN]
  refine g_sipush C (nI 256) dX0_turnForward_5 (k := ?_)
  refine g_istore_n C dX0_turnForward_8 (k := ?_)
  refine g_iconst C (nI 1) dX0_turnForward_9 (k := ?_)
  refine g_istore C dX0_turnForward_10 (k := ?_)
  exact g_l2 (loop K 0 (by omega)) ⟨Or.inr rfl, Or.inr rfl, Or.inr rfl, Or.inr rfl, Or.inr rfl, trivial⟩
end
section
/-! ===== turnBackward ===== -/
/-- the first n numbers times sh -/
def scl (p sh n : Nat) (v : Nat → Nat) : Nat → Nat := fun k => if k < n then v k * sh % p else v k
/-- numbers 1 .. n - 1 in opposite order -/
def rvs (n : Nat) (v : Nat → Nat) : Nat → Nat := fun k => if 1 ≤ k ∧ k < n then v (n - k) else v k
/-- .. so far: those below j and above n - j -/
def rvj (n j : Nat) (v : Nat → Nat) : Nat → Nat := fun k => if (1 ≤ k ∧ k < j) ∨ (n - j < k ∧ k < n) then v (n - k) else v k
theorem rvj_1 {n : Nat} (hn : 1 ≤ n) (v : Nat → Nat) : rvj n 1 v = v := by
  funext k
  unfold rvj
  rw [if_neg (by omega)]
theorem rvj_end {n j : Nat} (h1 : 1 ≤ j) (hj : j ≤ n) (h : n - j ≤ j) (v : Nat → Nat) : rvj n j v = rvs n v := by
  funext k
  unfold rvj rvs
  by_cases hk : 1 ≤ k ∧ k < n
  · rw [if_pos hk]
    by_cases h2 : (1 ≤ k ∧ k < j) ∨ (n - j < k ∧ k < n)
    · rw [if_pos h2]
    · rw [if_neg h2]
      congr 1
      omega
  · rw [if_neg hk, if_neg (by omega)]
theorem rvj_sw {n j : Nat} (h1 : 1 ≤ j) (h : j < n - j) (v : Nat → Nat) : swN (rvj n j v) j (n - j) = rvj n (j + 1) v := by
  funext k
  show (if k = j then rvj n j v (n - j) else if k = n - j then rvj n j v j else rvj n j v k) = _
  by_cases e1 : k = j
  · subst e1
    rw [if_pos rfl]
    unfold rvj
    rw [if_neg (by omega), if_pos (by omega)]
  · rw [if_neg e1]
    by_cases e2 : k = n - j
    · subst e2
      rw [if_pos rfl]
      unfold rvj
      rw [if_neg (by omega), if_pos (by omega)]
      congr 1
      omega
    · rw [if_neg e2]
      unfold rvj
      by_cases h2 : (1 ≤ k ∧ k < j) ∨ (n - j < k ∧ k < n)
      · rw [if_pos h2, if_pos (by omega)]
      · rw [if_neg h2, if_neg (by omega)]
/-- what a row is, turned back -/
def tb (p : Nat) (wn : Nat → Nat) (K : Nat) (v : Nat → Nat) : Nat → Nat := rvs (2 ^ K) (scl p ((2 ^ K) ^ (p - 2) % p) (2 ^ K) (tf p wn K v K))
theorem tb_lt {p K : Nat} {wn v : Nat → Nat} (hp : 0 < p) {k : Nat} (hk : k < 2 ^ K) : tb p wn K v k < p := by
  unfold tb rvs
  split
  · unfold scl
    rw [if_pos (by omega)]
    exact Nat.mod_lt _ hp
  · unfold scl
    rw [if_pos hk]
    exact Nat.mod_lt _ hp
abbrev rt3 : Room := { frames := 3, cells := 0, slots := 0, locals := 74 }

set_option maxRecDepth 100000 in
set_option maxHeartbeats 4000000 in
theorem c_turnBackward (l : Launch) {D : va_G} {tys : List (ClassId × FieldType)} {N : Nat} {ad : Nat → Nat} {ct : Nat → va_E} (hN : 20 ≤ N) {q : Nat} (hq : q < N) (hq0 : q ≠ 0) (hq1 : q ≠ 1) {cJ : ClassId} {p K : Nat} {wn v : Nat → Nat} (e0 : ct 0 = obX p ad) (ew : ct 1 = LN cJ 512 wn) (he : ct q = LN cJ 512 v) (ht : tys[0]? = some (cJ, .long)) (hp : 512 < p) (hp2 : p < 2 ^ 31) (hK : K ≤ 9) (hv : ∀ k, k < 2 ^ K → v k < p) (hwn : ∀ k, k < 512 → wn k < p) :
    gMv l yX0_turnBackward wsX0_turnBackward rt3 D vwCl tys N ad [.ref (ad 0), .ref (ad q), .int (nI (2 ^ K))] ct (fun ct1 => ct1 = va_up ct q (LN cJ 512 (tb p wn K v))) := by
  refine gof_v (cc := cX0_turnBackward) (maxL := 7) (by decide) rfl (Nat.le_of_ble_eq_true rfl) ?_
  intro M sz C hlM hRM hr hsz
  have h0 : 0 < N := by omega
  have hKn : 2 ^ K ≤ 512 := show 2 ^ K ≤ 2 ^ 9 from Nat.pow_le_pow_right (by decide) hK
  have hpos : 0 < 2 ^ K := Nat.pow_pos (by decide)
  have hq0' : ∀ z, (va_up ct q z) 0 = obX p ad := fun z => by rw [va_up_ne _ _ (fun e => hq0 e.symm)]; exact e0
  have loop2 : ∀ (d j : Nat), 1 ≤ j → j ≤ 2 ^ K → 2 ^ K - j ≤ j + d → gW M D vwCl (ixA N ad sz) 7 0 0 (MQ (gb M) (va_Qv (fun ct1 => ct1 = va_up ct q (LN cJ 512 (tb p wn K v))) (gB D vwCl tys N ad (ixA N ad sz)) (ixA N ad sz)) (ga M) (gs M) 0 0 (ixA N ad sz)) N ad 51 [(0, some (.ref (ad 0))), (1, some (.ref (ad q))), (2, some (.int (nI (2 ^ K)))), (5, some (.int (nI (2 ^ K - j)))), (6, some (.int (nI j)))] [] (va_up ct q (LN cJ 512 (rvj (2 ^ K) j (scl p ((2 ^ K) ^ (p - 2) % p) (2 ^ K) (tf p wn K v K))))) := by
    intro d
    induction d with
    | zero =>
      intro j h1 h2 h3
      refine g_iload C dX0_turnBackward_51 (k := ?_)
      refine g_iload C dX0_turnBackward_53 (k := ?_)
      refine g_icN_ge (tgt := 75) C (by omega) (by omega) dX0_turnBackward_55 (by decide) (fun _ => ?_) (fun h => absurd h (by omega))
      refine g_vret C hr ?_ dX0_turnBackward_75
      rw [rvj_end h1 h2 (by omega)]; rfl
    | succ d ih =>
      intro j h1 h2 h3
      refine g_iload C dX0_turnBackward_51 (k := ?_)
      refine g_iload C dX0_turnBackward_53 (k := ?_)
      by_cases hlt : j < 2 ^ K - j
      · refine g_icN_ge (tgt := 75) C (by omega) (by omega) dX0_turnBackward_55 (by decide) (fun h => absurd h (by omega)) (fun _ => ?_)
        refine g_aload_n C dX0_turnBackward_58 (k := ?_)
        refine g_iload C dX0_turnBackward_59 (k := ?_)
        refine g_iload C dX0_turnBackward_61 (k := ?_)
        refine g_cSv (n := 3) (av := [.ref (ad q), .int (nI j), .int (nI (2 ^ K - j))]) C (by rw [hlM]; exact c_swap l hq (va_up_self _ _ _) ht (by decide) (by omega) (by omega)) gX0_turnBackward_X0_swap rfl ⟨rfl, rfl⟩ (by rw [hRM]; exact ⟨Nat.le_of_ble_eq_true rfl, Nat.le_of_ble_eq_true rfl⟩) (by rw [hRM]; exact ⟨Nat.le_of_ble_eq_true rfl, Nat.le_of_ble_eq_true rfl⟩) (Nat.le_of_ble_eq_true rfl) (by decide +kernel) rfl dX0_turnBackward_63 ?_
        rintro ct1 rfl
        rw [bx_uu, sw_lN, rvj_sw h1 hlt]
        refine gN_dec (a := 2 ^ K - j - 1) C dX0_turnBackward_66 (h := by rw [show 2 ^ K - j - 1 + 1 = 2 ^ K - j by omega]; rfl) (k := ?_)
        refine gN_inc C dX0_turnBackward_69 (k := ?_)
        refine g_goto (tgt := 51) C dX0_turnBackward_72 (k := ?_)
        exact g_l2 (ih (j + 1) (by omega) (by omega) (by omega)) ⟨Or.inr rfl, Or.inr rfl, Or.inr rfl, Or.inr rfl, Or.inr rfl, trivial⟩
      · refine g_icN_ge (tgt := 75) C (by omega) (by omega) dX0_turnBackward_55 (by decide) (fun _ => ?_) (fun h => absurd h (by omega))
        refine g_vret C hr ?_ dX0_turnBackward_75
        rw [rvj_end h1 h2 (by omega)]; rfl
  refine g_aload_n C dX0_turnBackward_0 (k := ?_)
  refine g_aload_n C dX0_turnBackward_1 (k := ?_)
  refine g_iload_n C dX0_turnBackward_2 (k := ?_)
  refine g_cVv (n := 2) (av := [.ref (ad q), .int (nI (2 ^ K))]) C 0 h0 e0 rfl (by rw [hlM]; exact c_turnForward l hN hq hq0 hq1 e0 ew he ht (by omega) hp2 hK hv hwn) gX0_turnBackward_X0_turnForward rfl ⟨rfl, rfl⟩ (by rw [hRM]; exact ⟨Nat.le_of_ble_eq_true rfl, Nat.le_of_ble_eq_true rfl⟩) (by rw [hRM]; exact ⟨Nat.le_of_ble_eq_true rfl, Nat.le_of_ble_eq_true rfl⟩) (Nat.le_of_ble_eq_true rfl) (by decide +kernel) rfl dX0_turnBackward_3 ?_
  rintro ct1 rfl
  refine g_aload_n C dX0_turnBackward_6 (k := ?_)
  refine g_iload_n C dX0_turnBackward_7 (k := ?_)
  refine gN_i2l C (by omega) dX0_turnBackward_8 ?_
  refine g_cVl (n := 1) (av := [.long (lN (2 ^ K))]) C 0 h0 (hq0' _) rfl (by rw [hlM]; exact c_inverseOf l hN (hq0' _) (by omega) (by omega) hp2) gX0_turnBackward_X0_inverseOf rfl ⟨rfl, rfl⟩ (by rw [hRM]; exact ⟨Nat.le_of_ble_eq_true rfl, Nat.le_of_ble_eq_true rfl⟩) (by rw [hRM]; exact ⟨Nat.le_of_ble_eq_true rfl, Nat.le_of_ble_eq_true rfl⟩) (Nat.le_of_ble_eq_true rfl) (by decide +kernel) rfl dX0_turnBackward_9 ?_
  rintro _ ct1 ⟨rfl, rfl⟩
  have htl := tf_lt (p := p) (wn := wn) (v := v) (K := K) (by omega) hv K
  generalize hsh : (2 ^ K) ^ (p - 2) % p = sh at loop2 ⊢
  have hshl : sh < p := by rw [← hsh]; exact Nat.mod_lt _ (by omega)
  generalize hT : tf p wn K v K = T at htl loop2 ⊢
  have loop1 : ∀ (d i : Nat), 2 ^ K = i + d → gW M D vwCl (ixA N ad sz) 7 0 0 (MQ (gb M) (va_Qv (fun ct1 => ct1 = va_up ct q (LN cJ 512 (tb p wn K v))) (gB D vwCl tys N ad (ixA N ad sz)) (ixA N ad sz)) (ga M) (gs M) 0 0 (ixA N ad sz)) N ad 16 [(0, some (.ref (ad 0))), (1, some (.ref (ad q))), (2, some (.int (nI (2 ^ K)))), (3, some (.long (lN sh))), (5, some (.int (nI i)))] [] (va_up ct q (LN cJ 512 (scl p sh i T))) := by
    intro d
    induction d with
    | zero =>
      intro i hd
      have hi : i = 2 ^ K := by omega
      refine g_iload C dX0_turnBackward_16 (k := ?_)
      refine g_iload_n C dX0_turnBackward_18 (k := ?_)
      refine g_icN_ge (tgt := 43) C (by omega) (by omega) dX0_turnBackward_19 (by decide) (fun _ => ?_) (fun h => absurd h (by omega))
      refine g_iload_n C dX0_turnBackward_43 (k := ?_)
      refine g_iconst C (nI 1) dX0_turnBackward_44 (k := ?_)
      refine gN_isub C (by omega) dX0_turnBackward_45 ?_
      refine g_istore C dX0_turnBackward_46 (k := ?_)
      refine g_iconst C (nI 1) dX0_turnBackward_48 (k := ?_)
      refine g_istore C dX0_turnBackward_49 (k := ?_)
      have h9 := loop2 (2 ^ K) 1 (by omega) (by omega) (by omega)
      rw [rvj_1 (by omega), ← hi] at h9
      rw [← hi]
      exact g_l2 h9 ⟨Or.inr rfl, Or.inr rfl, Or.inr rfl, Or.inr rfl, Or.inr rfl, trivial⟩
    | succ d ih =>
      intro i hd
      have hTi := htl i (by omega)
      have hmul : T i * sh < 2 ^ 62 := Nat.lt_of_lt_of_le (Nat.mul_lt_mul'' (Nat.lt_trans hTi hp2) (Nat.lt_trans hshl hp2)) (by decide)
      have hsi : scl p sh i T i = T i := by unfold scl; rw [if_neg (by omega)]
      refine g_iload C dX0_turnBackward_16 (k := ?_)
      refine g_iload_n C dX0_turnBackward_18 (k := ?_)
      refine g_icN_ge (tgt := 43) C (by omega) (by omega) dX0_turnBackward_19 (by decide) (fun h => absurd h (by omega)) (fun _ => ?_)
      refine g_aload_n C dX0_turnBackward_22 (k := ?_)
      refine g_iload C dX0_turnBackward_23 (k := ?_)
      refine g_aload_n C dX0_turnBackward_25 (k := ?_)
      refine g_iload C dX0_turnBackward_26 (k := ?_)
      refine gN_lald C q hq (va_up_self _ _ _) ht (by omega) (by decide) dX0_turnBackward_28 ?_
      rw [hsi]
      refine g_lload_n C dX0_turnBackward_29 (k := ?_)
      refine gN_lmul C dX0_turnBackward_30 ?_
      refine g_aload_n C dX0_turnBackward_31 (k := ?_)
      refine g_getf (Cn := RX0) (T := TX0) (n := 8) (ref := "WheelProducts") C 0 0 h0 (hq0' _) rfl (by decide +kernel) (by decide) (by decide +kernel) (fun _ h => h) rfl dX0_turnBackward_32 ?_
      refine gN_lrem C (by omega) (by omega) (by omega) dX0_turnBackward_35 ?_
      refine gN_last C q hq (va_up_self _ _ _) ht (by omega) (by decide) dX0_turnBackward_36 ?_
      refine gN_inc C dX0_turnBackward_37 (k := ?_)
      refine g_goto (tgt := 16) C dX0_turnBackward_40 (k := ?_)
      have e : nu (scl p sh i T) i (T i * sh % p) = scl p sh (i + 1) T := by
        funext k
        unfold nu scl
        by_cases h1 : k = i
        · subst h1; rw [if_pos rfl, if_pos (by omega)]
        · rw [if_neg h1]
          by_cases h2 : k < i
          · rw [if_pos h2, if_pos (by omega)]
          · rw [if_neg h2, if_neg (by omega)]
      rw [bx_uu, e]
      exact g_l2 (ih (i + 1) (by omega)) ⟨Or.inr rfl, Or.inr rfl, Or.inr rfl, Or.inr rfl, Or.inr rfl, trivial⟩
  refine g_lstore_n C dX0_turnBackward_12 (k := ?_)
  refine g_iconst C (nI 0) dX0_turnBackward_13 (k := ?_)
  refine g_istore C dX0_turnBackward_14 (k := ?_)
  refine g_ct (ct' := va_up ct q (LN cJ 512 (scl p sh 0 T))) ?_ ?_
  · have : scl p sh 0 T = T := funext fun k => if_neg (by omega)
    rw [this]
  · exact g_l2 (loop1 (2 ^ K) 0 (by omega)) ⟨Or.inr rfl, Or.inr rfl, Or.inr rfl, Or.inr rfl, Or.inr rfl, trivial⟩
end
section
/-! ===== only the first 2 to the K numbers count ===== -/
theorem jv_congr {p h t n : Nat} {wn v w : Nat → Nat} (hv : ∀ k, k < n → v k = w k) (hn : n % (2 * h) = 0) (hh : 0 < h) {i : Nat} (hi : i < n) : jv p h t wn v i = jv p h t wn w i := by
  unfold jv
  by_cases hm : i % (2 * h) < h
  · rw [if_pos hm, if_pos hm]
    have hl : i + h < n := by
      have e1 := Nat.div_add_mod i (2 * h)
      have e2 := Nat.div_add_mod n (2 * h)
      rw [hn, Nat.add_zero] at e2
      have h3 : i / (2 * h) < n / (2 * h) := by
        rcases Nat.lt_or_ge (i / (2 * h)) (n / (2 * h)) with h9 | h9
        · exact h9
        · have := Nat.mul_le_mul_left (2 * h) h9
          omega
      have h4 : 2 * h * (i / (2 * h) + 1) ≤ 2 * h * (n / (2 * h)) := Nat.mul_le_mul_left _ h3
      rw [Nat.mul_add, Nat.mul_one] at h4
      omega
    rw [hv i hi, hv _ hl]
  · rw [if_neg hm, if_neg hm, hv i hi, hv (i - h) (by omega)]
theorem tf_congr {p K : Nat} {wn v w : Nat → Nat} (hv : ∀ k, k < 2 ^ K → v k = w k) : ∀ s, s ≤ K → ∀ k, k < 2 ^ K → tf p wn K v s k = tf p wn K w s k
  | 0, _, k, hk => by
    show ob K v (2 ^ K) k = ob K w (2 ^ K) k
    rw [ob_end K v hk, ob_end K w hk, hv _ (rv_lt K k)]
  | s + 1, hs, k, hk => by
    have ih := tf_congr (p := p) (wn := wn) hv s (by omega)
    rw [tf, tf]
    unfold jw
    split
    · refine jv_congr ih ?_ (Nat.pow_pos (by decide)) hk
      rw [Nat.mul_comm 2, ← Nat.pow_succ]
      rw [show 2 ^ K = 2 ^ (K - (s + 1)) * 2 ^ (s + 1) by rw [← Nat.pow_add]; congr 1; omega]
      exact Nat.mul_mod_left _ _
    · exact ih k hk
theorem tb_congr {p K : Nat} {wn v w : Nat → Nat} (hv : ∀ k, k < 2 ^ K → v k = w k) {k : Nat} (hk : k < 2 ^ K) : tb p wn K v k = tb p wn K w k := by
  have h := tf_congr (p := p) (wn := wn) hv K (Nat.le_refl K)
  unfold tb rvs scl
  by_cases h1 : 1 ≤ k ∧ k < 2 ^ K
  · rw [if_pos h1, if_pos h1, if_pos (by omega), if_pos (by omega), h _ (by omega)]
  · rw [if_neg h1, if_neg h1, if_pos hk, if_pos hk, h k hk]
/-- the product of two rows, by turning -/
def mr (p : Nat) (wn : Nat → Nat) (K : Nat) (a b : Nat → Nat) : Nat → Nat := fun k => if k < 2 ^ K then tb p wn K (fun j => tf p wn K a K j * tf p wn K b K j % p) k else 0
def cpN (v w : Nat → Nat) (n : Nat) : Nat → Nat := fun k => if k < n then v k else w k
theorem cp_lN (v w : Nat → Nat) (n : Nat) : va_cpy (fun k => lN (v k)) (fun k => lN (w k)) 0 0 n = fun k => lN (cpN v w n k) := by
  funext k
  unfold va_cpy cpN
  by_cases h : k < n
  · rw [if_pos ⟨Nat.zero_le k, by omega⟩, if_pos h, Nat.zero_add, Nat.sub_zero]
  · rw [if_neg (by omega), if_neg h]
abbrev rt4 : Room := { frames := 4, cells := 0, slots := 0, locals := 100 }

set_option maxRecDepth 100000 in
set_option maxHeartbeats 4000000 in
theorem c_multiplyRows (l : Launch) {D : va_G} {tys : List (ClassId × FieldType)} {N : Nat} {ad : Nat → Nat} {ct : Nat → va_E} (hN : 20 ≤ N) {qt qa qb : Nat} (hqt : 2 < qt ∧ qt < 9) (hqa : 2 < qa ∧ qa < 9) (hqb : 2 < qb ∧ qb < 9) {cJ : ClassId} {p K : Nat} {wn va vb vt lf rt : Nat → Nat} (e0 : ct 0 = obX p ad) (ew : ct 1 = LN cJ 512 wn) (ea : ct qa = LN cJ 512 va) (eb : ct qb = LN cJ 512 vb) (et : ct qt = LN cJ 512 vt) (el : ct 17 = LN cJ 512 lf) (er : ct 18 = LN cJ 512 rt) (ht : tys[0]? = some (cJ, .long)) (hp : 512 < p) (hp2 : p < 2 ^ 31) (hK : K ≤ 9) (hva : ∀ k, k < 2 ^ K → va k < p) (hvb : ∀ k, k < 2 ^ K → vb k < p) (hwn : ∀ k, k < 512 → wn k < p) :
    gMv l yX0_multiplyRows wsX0_multiplyRows rt4 D vwCl tys N ad [.ref (ad 0), .ref (ad qt), .ref (ad qa), .ref (ad qb), .int (nI (2 ^ K))] ct (fun ct1 => ∃ lf1 rt1, ct1 = va_up (va_up (va_up ct 17 (LN cJ 512 lf1)) 18 (LN cJ 512 rt1)) qt (LN cJ 512 (mr p wn K va vb))) := by
  refine gof_v (cc := cX0_multiplyRows) (maxL := 6) (by decide) rfl (Nat.le_of_ble_eq_true rfl) ?_
  intro M sz C hlM hRM hr hsz
  have h0 : 0 < N := by omega
  have h17 : 17 < N := by omega
  have h18 : 18 < N := by omega
  have hKn : 2 ^ K ≤ 512 := show 2 ^ K ≤ 2 ^ 9 from Nat.pow_le_pow_right (by decide) hK
  refine g_aload_n C dX0_multiplyRows_0 (k := ?_)
  refine g_iconst C 0 dX0_multiplyRows_1 (k := ?_)
  refine g_aload_n C dX0_multiplyRows_2 (k := ?_)
  refine g_getf (Cn := RX0) (T := TX0) (n := 8) (ref := "WheelProducts") C 0 5 h0 e0 rfl (by decide +kernel) (by decide) (by decide +kernel) (fun _ h => h) rfl dX0_multiplyRows_3 ?_
  refine g_iconst C 0 dX0_multiplyRows_6 (k := ?_)
  refine g_iload C dX0_multiplyRows_7 (k := ?_)
  refine g_acopy C (by decide +kernel) (by decide +kernel) (by decide +kernel) (by decide +kernel) qa 17 0 (by omega) h17 ea el ht hKn hKn (by omega) (by rw [hRM]; exact Nat.le_of_ble_eq_true rfl) (by rw [hRM]; exact Nat.le_of_ble_eq_true rfl) dX0_multiplyRows_9 ?_
  rw [cp_lN]
  generalize hL0 : cpN va lf (2 ^ K) = L0
  refine g_aload_n C dX0_multiplyRows_12 (k := ?_)
  refine g_iconst C 0 dX0_multiplyRows_13 (k := ?_)
  refine g_aload_n C dX0_multiplyRows_14 (k := ?_)
  refine g_getf (Cn := RX0) (T := TX0) (n := 8) (ref := "WheelProducts") C 0 6 h0 (by (repeat rw [va_up_ne _ _ (by omega)]); exact e0) rfl (by decide +kernel) (by decide) (by decide +kernel) (fun _ h => h) rfl dX0_multiplyRows_15 ?_
  refine g_iconst C 0 dX0_multiplyRows_18 (k := ?_)
  refine g_iload C dX0_multiplyRows_19 (k := ?_)
  refine g_acopy C (by decide +kernel) (by decide +kernel) (by decide +kernel) (by decide +kernel) qb 18 0 (by omega) h18 (by (repeat rw [va_up_ne _ _ (by omega)]); exact eb) (by (repeat rw [va_up_ne _ _ (by omega)]); exact er) ht hKn hKn (by omega) (by rw [hRM]; exact Nat.le_of_ble_eq_true rfl) (by rw [hRM]; exact Nat.le_of_ble_eq_true rfl) dX0_multiplyRows_21 ?_
  rw [cp_lN]
  generalize hR0 : cpN vb rt (2 ^ K) = R0
  have hLv : ∀ k, k < 2 ^ K → L0 k = va k := fun k hk => by rw [← hL0]; unfold cpN; rw [if_pos hk]
  have hRv : ∀ k, k < 2 ^ K → R0 k = vb k := fun k hk => by rw [← hR0]; unfold cpN; rw [if_pos hk]
  refine g_aload_n C dX0_multiplyRows_24 (k := ?_)
  refine g_aload_n C dX0_multiplyRows_25 (k := ?_)
  refine g_getf (Cn := RX0) (T := TX0) (n := 8) (ref := "WheelProducts") C 0 5 h0 (by (repeat rw [va_up_ne _ _ (by omega)]); exact e0) rfl (by decide +kernel) (by decide) (by decide +kernel) (fun _ h => h) rfl dX0_multiplyRows_26 ?_
  refine g_iload C dX0_multiplyRows_29 (k := ?_)
  refine g_cVv (n := 2) (av := [.ref (ad 17), .int (nI (2 ^ K))]) C 0 h0 (by (repeat rw [va_up_ne _ _ (by omega)]); exact e0) rfl (by rw [hlM]; exact c_turnForward l hN h17 (by decide) (by decide) (v := L0) (by (repeat rw [va_up_ne _ _ (by omega)]); exact e0) (by (repeat rw [va_up_ne _ _ (by omega)]); exact ew) (by rw [va_up_ne _ _ (by decide), va_up_self]) ht (by omega) hp2 hK (fun k hk => by rw [hLv k hk]; exact hva k hk) hwn) gX0_multiplyRows_X0_turnForward rfl ⟨rfl, rfl⟩ (by rw [hRM]; exact ⟨Nat.le_of_ble_eq_true rfl, Nat.le_of_ble_eq_true rfl⟩) (by rw [hRM]; exact ⟨Nat.le_of_ble_eq_true rfl, Nat.le_of_ble_eq_true rfl⟩) (Nat.le_of_ble_eq_true rfl) (by decide +kernel) rfl dX0_multiplyRows_31 ?_
  rintro ct1 rfl
  refine g_aload_n C dX0_multiplyRows_34 (k := ?_)
  refine g_aload_n C dX0_multiplyRows_35 (k := ?_)
  refine g_getf (Cn := RX0) (T := TX0) (n := 8) (ref := "WheelProducts") C 0 6 h0 (by (repeat rw [va_up_ne _ _ (by omega)]); exact e0) rfl (by decide +kernel) (by decide) (by decide +kernel) (fun _ h => h) rfl dX0_multiplyRows_36 ?_
  refine g_iload C dX0_multiplyRows_39 (k := ?_)
  refine g_cVv (n := 2) (av := [.ref (ad 18), .int (nI (2 ^ K))]) C 0 h0 (by (repeat rw [va_up_ne _ _ (by omega)]); exact e0) rfl (by rw [hlM]; exact c_turnForward l hN h18 (by decide) (by decide) (v := R0) (by (repeat rw [va_up_ne _ _ (by omega)]); exact e0) (by (repeat rw [va_up_ne _ _ (by omega)]); exact ew) (by rw [va_up_ne _ _ (by decide), va_up_self]) ht (by omega) hp2 hK (fun k hk => by rw [hRv k hk]; exact hvb k hk) hwn) gX0_multiplyRows_X0_turnForward rfl ⟨rfl, rfl⟩ (by rw [hRM]; exact ⟨Nat.le_of_ble_eq_true rfl, Nat.le_of_ble_eq_true rfl⟩) (by rw [hRM]; exact ⟨Nat.le_of_ble_eq_true rfl, Nat.le_of_ble_eq_true rfl⟩) (Nat.le_of_ble_eq_true rfl) (by decide +kernel) rfl dX0_multiplyRows_41 ?_
  rintro ct1 rfl
  have hLt := tf_congr (p := p) (wn := wn) hLv K (Nat.le_refl K)
  have hRt := tf_congr (p := p) (wn := wn) hRv K (Nat.le_refl K)
  have hLl := tf_lt (p := p) (wn := wn) (v := va) (K := K) (by omega) hva K
  have hRl := tf_lt (p := p) (wn := wn) (v := vb) (K := K) (by omega) hvb K
  generalize tf p wn K L0 K = L1 at hLt ⊢
  generalize tf p wn K R0 K = R1 at hRt ⊢
  have hct : va_up (va_up (va_up (va_up ct 17 (LN cJ 512 L0)) 18 (LN cJ 512 R0)) 17 (LN cJ 512 L1)) 18 (LN cJ 512 R1) = va_up (va_up ct 17 (LN cJ 512 L1)) 18 (LN cJ 512 R1) := by
    funext k
    by_cases h1 : k = 18
    · subst h1; rw [va_up_self, va_up_self]
    · rw [va_up_ne _ _ h1, va_up_ne _ _ h1]
      by_cases h2 : k = 17
      · subst h2; rw [va_up_self, va_up_self]
      · rw [va_up_ne _ _ h2, va_up_ne _ _ h1, va_up_ne _ _ h2, va_up_ne _ _ h2]
  rw [hct]
  have loop : ∀ (d i : Nat), 2 ^ K = i + d → gW M D vwCl (ixA N ad sz) 6 0 0 (MQ (gb M) (va_Qv (fun ct1 => ∃ lf1 rt1, ct1 = va_up (va_up (va_up ct 17 (LN cJ 512 lf1)) 18 (LN cJ 512 rt1)) qt (LN cJ 512 (mr p wn K va vb))) (gB D vwCl tys N ad (ixA N ad sz)) (ixA N ad sz)) (ga M) (gs M) 0 0 (ixA N ad sz)) N ad 47 [(0, some (.ref (ad 0))), (1, some (.ref (ad qt))), (4, some (.int (nI (2 ^ K)))), (5, some (.int (nI i)))] [] (va_up (va_up ct 17 (LN cJ 512 (fun k => if k < i then L1 k * R1 k % p else L1 k))) 18 (LN cJ 512 R1)) := by
    intro d
    induction d with
    | zero =>
      intro i hd
      have hi : 2 ^ K = i := by omega
      refine g_iload C dX0_multiplyRows_47 (k := ?_)
      refine g_iload C dX0_multiplyRows_49 (k := ?_)
      refine g_icN_ge (tgt := 87) C (by omega) (by omega) dX0_multiplyRows_51 (by decide) (fun _ => ?_) (fun h => absurd h (by omega))
      refine g_aload_n C dX0_multiplyRows_87 (k := ?_)
      refine g_aload_n C dX0_multiplyRows_88 (k := ?_)
      refine g_getf (Cn := RX0) (T := TX0) (n := 8) (ref := "WheelProducts") C 0 5 h0 (by (repeat rw [va_up_ne _ _ (by omega)]); exact e0) rfl (by decide +kernel) (by decide) (by decide +kernel) (fun _ h => h) rfl dX0_multiplyRows_89 ?_
      refine g_iload C dX0_multiplyRows_92 (k := ?_)
      generalize hP : (fun k => if k < i then L1 k * R1 k % p else L1 k) = P
      have hPv : ∀ k, k < 2 ^ K → P k = tf p wn K va K k * tf p wn K vb K k % p := fun k hk => by
        rw [← hP]
        show (if k < i then L1 k * R1 k % p else L1 k) = _
        rw [if_pos (by omega), hLt k hk, hRt k hk]
      refine g_cVv (n := 2) (av := [.ref (ad 17), .int (nI (2 ^ K))]) C 0 h0 (by (repeat rw [va_up_ne _ _ (by omega)]); exact e0) rfl (by rw [hlM]; exact c_turnBackward l hN h17 (by decide) (by decide) (v := P) (by (repeat rw [va_up_ne _ _ (by omega)]); exact e0) (by (repeat rw [va_up_ne _ _ (by omega)]); exact ew) (by rw [va_up_ne _ _ (by decide), va_up_self]) ht hp hp2 hK (fun k hk => by rw [hPv k hk]; exact Nat.mod_lt _ (by omega)) hwn) gX0_multiplyRows_X0_turnBackward rfl ⟨rfl, rfl⟩ (by rw [hRM]; exact ⟨Nat.le_of_ble_eq_true rfl, Nat.le_of_ble_eq_true rfl⟩) (by rw [hRM]; exact ⟨Nat.le_of_ble_eq_true rfl, Nat.le_of_ble_eq_true rfl⟩) (Nat.le_of_ble_eq_true rfl) (by decide +kernel) rfl dX0_multiplyRows_94 ?_
      rintro ct1 rfl
      have hB := fun k hk => tb_congr (p := p) (wn := wn) hPv (k := k) hk
      generalize tb p wn K P = B at hB ⊢
      refine g_aload_n C dX0_multiplyRows_97 (k := ?_)
      refine g_lconst C (lN 0) dX0_multiplyRows_98 (k := ?_)
      refine g_cSv (n := 2) (av := [.ref (ad qt), .long (lN 0)]) C (by rw [hlM]; exact c_fill l (by omega) (by (repeat rw [va_up_ne _ _ (by omega)]); exact et) ht (by decide)) gX0_multiplyRows_J7_fill_d0a16 rfl ⟨rfl, rfl⟩ (by rw [hRM]; exact ⟨Nat.le_of_ble_eq_true rfl, Nat.le_of_ble_eq_true rfl⟩) (by rw [hRM]; exact ⟨Nat.le_of_ble_eq_true rfl, Nat.le_of_ble_eq_true rfl⟩) (Nat.le_of_ble_eq_true rfl) (by decide +kernel) rfl dX0_multiplyRows_99 ?_
      rintro ct1 rfl
      refine g_aload_n C dX0_multiplyRows_102 (k := ?_)
      refine g_getf (Cn := RX0) (T := TX0) (n := 8) (ref := "WheelProducts") C 0 5 h0 (by (repeat rw [va_up_ne _ _ (by omega)]); exact e0) rfl (by decide +kernel) (by decide) (by decide +kernel) (fun _ h => h) rfl dX0_multiplyRows_103 ?_
      refine g_iconst C 0 dX0_multiplyRows_106 (k := ?_)
      refine g_aload_n C dX0_multiplyRows_107 (k := ?_)
      refine g_iconst C 0 dX0_multiplyRows_108 (k := ?_)
      refine g_iload C dX0_multiplyRows_109 (k := ?_)
      refine g_acopy C (by decide +kernel) (by decide +kernel) (by decide +kernel) (by decide +kernel) 17 qt 0 h17 (by omega) (by rw [va_up_ne _ _ (by omega), va_up_self]) (va_up_self _ _ _) ht hKn hKn (by omega) (by rw [hRM]; exact Nat.le_of_ble_eq_true rfl) (by rw [hRM]; exact Nat.le_of_ble_eq_true rfl) dX0_multiplyRows_111 ?_
      rw [cp_lN]
      refine g_vret C hr ⟨B, R1, ?_⟩ dX0_multiplyRows_114
      have hmr : cpN B (fun _ => 0) (2 ^ K) = mr p wn K va vb := by
        funext k
        unfold cpN mr
        by_cases hk : k < 2 ^ K
        · rw [if_pos hk, if_pos hk, hB k hk]
        · rw [if_neg hk, if_neg hk]
      rw [bx_uu, hmr]
      funext k
      by_cases h1 : k = qt
      · subst h1; rw [va_up_self, va_up_self]
      · rw [va_up_ne _ _ h1, va_up_ne _ _ h1]
        by_cases h2 : k = 17
        · subst h2; rw [va_up_self, va_up_ne _ _ (by decide), va_up_self]
        · rw [va_up_ne _ _ h2]
          by_cases h3 : k = 18
          · subst h3; rw [va_up_self, va_up_self]
          · rw [va_up_ne _ _ h3, va_up_ne _ _ h3, va_up_ne _ _ h2, va_up_ne _ _ h2]
    | succ d ih =>
      intro i hd
      have hik : i < 2 ^ K := by omega
      have hl1 : L1 i < p := by rw [hLt i hik]; exact hLl i hik
      have hr1 : R1 i < p := by rw [hRt i hik]; exact hRl i hik
      have hmul : L1 i * R1 i < 2 ^ 62 := Nat.lt_of_lt_of_le (Nat.mul_lt_mul'' (Nat.lt_trans hl1 hp2) (Nat.lt_trans hr1 hp2)) (by decide)
      refine g_iload C dX0_multiplyRows_47 (k := ?_)
      refine g_iload C dX0_multiplyRows_49 (k := ?_)
      refine g_icN_ge (tgt := 87) C (by omega) (by omega) dX0_multiplyRows_51 (by decide) (fun h => absurd h (by omega)) (fun _ => ?_)
      refine g_aload_n C dX0_multiplyRows_54 (k := ?_)
      refine g_getf (Cn := RX0) (T := TX0) (n := 8) (ref := "WheelProducts") C 0 5 h0 (by (repeat rw [va_up_ne _ _ (by omega)]); exact e0) rfl (by decide +kernel) (by decide) (by decide +kernel) (fun _ h => h) rfl dX0_multiplyRows_55 ?_
      refine g_iload C dX0_multiplyRows_58 (k := ?_)
      refine g_aload_n C dX0_multiplyRows_60 (k := ?_)
      refine g_getf (Cn := RX0) (T := TX0) (n := 8) (ref := "WheelProducts") C 0 5 h0 (by (repeat rw [va_up_ne _ _ (by omega)]); exact e0) rfl (by decide +kernel) (by decide) (by decide +kernel) (fun _ h => h) rfl dX0_multiplyRows_61 ?_
      refine g_iload C dX0_multiplyRows_64 (k := ?_)
      refine gN_lald C 17 h17 (by rw [va_up_ne _ _ (by decide), va_up_self]) ht (by omega) (by decide) dX0_multiplyRows_66 ?_
      rw [if_neg (show ¬ i < i by omega)]
      refine g_aload_n C dX0_multiplyRows_67 (k := ?_)
      refine g_getf (Cn := RX0) (T := TX0) (n := 8) (ref := "WheelProducts") C 0 6 h0 (by (repeat rw [va_up_ne _ _ (by omega)]); exact e0) rfl (by decide +kernel) (by decide) (by decide +kernel) (fun _ h => h) rfl dX0_multiplyRows_68 ?_
      refine g_iload C dX0_multiplyRows_71 (k := ?_)
      refine gN_lald C 18 h18 (va_up_self _ _ _) ht (by omega) (by decide) dX0_multiplyRows_73 ?_
      refine gN_lmul C dX0_multiplyRows_74 ?_
      refine g_aload_n C dX0_multiplyRows_75 (k := ?_)
      refine g_getf (Cn := RX0) (T := TX0) (n := 8) (ref := "WheelProducts") C 0 0 h0 (by (repeat rw [va_up_ne _ _ (by omega)]); exact e0) rfl (by decide +kernel) (by decide) (by decide +kernel) (fun _ h => h) rfl dX0_multiplyRows_76 ?_
      refine gN_lrem C (by omega) (by omega) (by omega) dX0_multiplyRows_79 ?_
      refine gN_last C 17 h17 (by rw [va_up_ne _ _ (by decide), va_up_self]) ht (by omega) (by decide) dX0_multiplyRows_80 ?_
      have e : nu (fun k => if k < i then L1 k * R1 k % p else L1 k) i (L1 i * R1 i % p) = fun k => if k < i + 1 then L1 k * R1 k % p else L1 k := by
        funext k
        unfold nu
        by_cases h1 : k = i
        · subst h1; rw [if_pos rfl, if_pos (by omega)]
        · rw [if_neg h1]
          show (if k < i then L1 k * R1 k % p else L1 k) = _
          by_cases h2 : k < i
          · rw [if_pos h2, if_pos (by omega)]
          · rw [if_neg h2, if_neg (by omega)]
      have hcc : ∀ x y z, va_up (va_up (va_up ct 17 x) 18 y) 17 z = va_up (va_up ct 17 z) 18 y := by
        intro x y z
        funext k
        by_cases h2 : k = 17
        · subst h2; rw [va_up_self, va_up_ne _ _ (by decide), va_up_self]
        · rw [va_up_ne _ _ h2]
          by_cases h3 : k = 18
          · subst h3; rw [va_up_self, va_up_self]
          · rw [va_up_ne _ _ h3, va_up_ne _ _ h3, va_up_ne _ _ h2, va_up_ne _ _ h2]
      rw [hcc, e]
      refine gN_inc C dX0_multiplyRows_81 (k := ?_)
      refine g_goto (tgt := 47) C dX0_multiplyRows_84 (k := ?_)
      exact g_l2 (ih (i + 1) (by omega)) ⟨Or.inr rfl, Or.inr rfl, Or.inr rfl, Or.inr rfl, trivial⟩
  refine g_iconst C (nI 0) dX0_multiplyRows_44 (k := ?_)
  refine g_istore C dX0_multiplyRows_45 (k := ?_)
  refine g_ct (ct' := va_up (va_up ct 17 (LN cJ 512 (fun k => if k < 0 then L1 k * R1 k % p else L1 k))) 18 (LN cJ 512 R1)) ?_ ?_
  · have : (fun k => if k < 0 then L1 k * R1 k % p else L1 k) = L1 := funext fun k => if_neg (by omega)
    rw [this]
  · exact g_l2 (loop (2 ^ K) 0 (by omega)) ⟨Or.inr rfl, Or.inr rfl, Or.inr rfl, Or.inr rfl, trivial⟩
end
section
/-! ===== words ===== -/
theorem k_mask (x : Nat) : lN x &&& lN 4294967295 = lN (x % 4294967296) := by
  rw [k_andL]
  exact congrArg lN (Nat.and_two_pow_sub_one_eq_mod x 32)
theorem k_ushr32 {x : Nat} (h : x < 2 ^ 64) : ((lN x).toUInt64 >>> ((nI 32).toInt64.toUInt64 &&& Int64.toUInt64 63)).toInt64 = lN (x / 4294967296) := by
  have hs : ((nI 32).toInt64.toUInt64 &&& Int64.toUInt64 63).toNat % 64 = 32 := by decide
  have e : (lN x).toUInt64 >>> ((nI 32).toInt64.toUInt64 &&& Int64.toUInt64 63) = UInt64.ofNat (x / 4294967296) := UInt64.toNat_inj.mp (by
    rw [UInt64.toNat_shiftRight, hs, Nat.shiftRight_eq_div_pow, UInt64.toNat_ofNat']
    show (UInt64.ofNat x).toNat / 2 ^ 32 = _
    rw [UInt64.toNat_ofNat', Nat.mod_eq_of_lt h, Nat.mod_eq_of_lt (by have := Nat.div_le_self x 4294967296; omega)])
  rw [e]
  rfl
/-- what is carried to word k of a sum -/
def cy (a b : Nat → Nat) : Nat → Nat
  | 0 => 0
  | k + 1 => (a k + b k + cy a b k) / 4294967296
theorem cy_lt {a b : Nat → Nat} (ha : ∀ k, a k < 2 ^ 32) (hb : ∀ k, b k < 2 ^ 32) : ∀ k, cy a b k < 2
  | 0 => Nat.zero_lt_two
  | k + 1 => by
    have h1 := ha k
    have h2 := hb k
    have h3 := cy_lt ha hb k
    unfold cy
    omega
def sw1 (a b : Nat → Nat) : Nat → Nat := fun k => (a k + b k + cy a b k) % 4294967296
/-- a word of a product's row: value, carry, step by step -/
def mi (a b : Nat → Nat) (i : Nat) (s : Nat → Nat) : Nat → (Nat → Nat) × Nat
  | 0 => (s, 0)
  | j + 1 => (nu (mi a b i s j).1 (i + j) ((a i * b j + (mi a b i s j).1 (i + j) + (mi a b i s j).2) % 4294967296), (a i * b j + (mi a b i s j).1 (i + j) + (mi a b i s j).2) / 4294967296)
def mo (a b : Nat → Nat) (nb : Nat) : Nat → Nat → Nat
  | 0 => fun _ => 0
  | i + 1 => nu (mi a b i (mo a b nb i) nb).1 (i + nb) (mi a b i (mo a b nb i) nb).2
theorem mul32 {x y s c : Nat} (hx : x < 2 ^ 32) (hy : y < 2 ^ 32) (hs : s < 2 ^ 32) (hc : c < 2 ^ 32) : x * y + s + c < 2 ^ 64 := by
  have h1 : x * y ≤ (2 ^ 32 - 1) * (2 ^ 32 - 1) := Nat.mul_le_mul (by omega) (by omega)
  omega
theorem mi_lt {a b : Nat → Nat} (ha : ∀ k, a k < 2 ^ 32) (hb : ∀ k, b k < 2 ^ 32) (i : Nat) {s : Nat → Nat} (hs : ∀ k, s k < 2 ^ 32) : ∀ j, (∀ k, (mi a b i s j).1 k < 2 ^ 32) ∧ (mi a b i s j).2 < 2 ^ 32
  | 0 => ⟨hs, Nat.two_pow_pos 32⟩
  | j + 1 => by
    obtain ⟨h1, h2⟩ := mi_lt ha hb i hs j
    have h3 := mul32 (ha i) (hb j) (h1 (i + j)) h2
    refine ⟨fun k => ?_, ?_⟩
    · show nu (mi a b i s j).1 (i + j) _ k < _
      unfold nu
      split
      · exact Nat.mod_lt _ (by decide)
      · exact h1 k
    · show (a i * b j + (mi a b i s j).1 (i + j) + (mi a b i s j).2) / 4294967296 < 2 ^ 32
      omega
theorem mo_lt {a b : Nat → Nat} (ha : ∀ k, a k < 2 ^ 32) (hb : ∀ k, b k < 2 ^ 32) (nb : Nat) : ∀ i k, mo a b nb i k < 2 ^ 32
  | 0, _ => by show 0 < 2 ^ 32; decide
  | i + 1, k => by
    obtain ⟨h1, h2⟩ := mi_lt ha hb i (mo_lt ha hb nb i) nb
    show nu (mi a b i (mo a b nb i) nb).1 (i + nb) _ k < _
    unfold nu
    split
    · exact h2
    · exact h1 k

set_option maxRecDepth 100000 in
set_option maxHeartbeats 4000000 in
theorem c_addWords (l : Launch) {D : va_G} {tys : List (ClassId × FieldType)} {N : Nat} {ad : Nat → Nat} {ct : Nat → va_E} (hN : 20 ≤ N) {qa qb : Nat} (hqa : 9 < qa ∧ qa < 16) (hqb : 9 < qb ∧ qb < 16) {cJ : ClassId} {p : Nat} {a b z : Nat → Nat} (e0 : ct 0 = obX p ad) (ea : ct qa = LN cJ 240 a) (eb : ct qb = LN cJ 240 b) (ez : ct 19 = LN cJ 240 z) (ht : tys[0]? = some (cJ, .long)) (ha : ∀ k, a k < 2 ^ 32) (hb : ∀ k, b k < 2 ^ 32) :
    gMl l yX0_addWords wsX0_addWords rz D vwCl tys N ad [.ref (ad 0), .ref (ad qa), .ref (ad qb)] ct (fun r ct1 => r = lN (cy a b 240) ∧ ct1 = va_up ct 19 (LN cJ 240 (sw1 a b))) := by
  refine gof_l (cc := cX0_addWords) (maxL := 8) (by decide) rfl (Nat.le_of_ble_eq_true rfl) ?_
  intro M sz C hlM hRM hr hsz
  have h0 : 0 < N := by omega
  have h19 : 19 < N := by omega
  have loop : ∀ (d i : Nat), 240 = i + d → gW M D vwCl (ixA N ad sz) 8 0 0 (MQ (gb M) (va_Ql (fun r ct1 => r = lN (cy a b 240) ∧ ct1 = va_up ct 19 (LN cJ 240 (sw1 a b))) (gB D vwCl tys N ad (ixA N ad sz)) (ixA N ad sz)) (ga M) (gs M) 0 0 (ixA N ad sz)) N ad 5 [(0, some (.ref (ad 0))), (1, some (.ref (ad qa))), (2, some (.ref (ad qb))), (3, some (.long (lN (cy a b i)))), (5, some (.int (nI i)))] [] (va_up ct 19 (LN cJ 240 (fun k => if k < i then sw1 a b k else z k))) := by
    intro d
    induction d with
    | zero =>
      intro i hd
      have hi : i = 240 := by omega
      subst hi
      refine g_iload C dX0_addWords_5 (k := ?_)
      refine g_sipush C (nI 240) dX0_addWords_7 (k := ?_)
      refine g_icN_ge (tgt := 51) C (by decide) (by decide) dX0_addWords_10 (by decide) (fun _ => ?_) (fun h => absurd h (by decide))
      refine g_ext 19 (va_up_self _ _ _) (g := fun k => lN (sw1 a b k)) (fun k hk => by show lN (if k < 240 then sw1 a b k else z k) = _; rw [if_pos hk]) ?_
      refine g_lload_n C dX0_addWords_51 (k := ?_)
      refine g_lret C hr ⟨rfl, ?_⟩ dX0_addWords_52
      rw [bx_uu]
    | succ d ih =>
      intro i hd
      have h1 := ha i
      have h2 := hb i
      have h3 := cy_lt ha hb i
      refine g_iload C dX0_addWords_5 (k := ?_)
      refine g_sipush C (nI 240) dX0_addWords_7 (k := ?_)
      refine g_icN_ge (tgt := 51) C (by omega) (by decide) dX0_addWords_10 (by decide) (fun h => absurd h (by omega)) (fun _ => ?_)
      refine g_aload_n C dX0_addWords_13 (k := ?_)
      refine g_iload C dX0_addWords_14 (k := ?_)
      refine gN_lald C qa (by omega) (by (repeat rw [va_up_ne _ _ (by omega)]); exact ea) ht (by omega) (by decide) dX0_addWords_16 ?_
      refine g_aload_n C dX0_addWords_17 (k := ?_)
      refine g_iload C dX0_addWords_18 (k := ?_)
      refine gN_lald C qb (by omega) (by (repeat rw [va_up_ne _ _ (by omega)]); exact eb) ht (by omega) (by decide) dX0_addWords_20 ?_
      refine gN_ladd C dX0_addWords_21 ?_
      refine g_lload_n C dX0_addWords_22 (k := ?_)
      refine gN_ladd C dX0_addWords_23 ?_
      refine g_lstore C dX0_addWords_24 (k := ?_)
      refine g_aload_n C dX0_addWords_26 (k := ?_)
      refine g_getf (Cn := RX0) (T := TX0) (n := 8) (ref := "WheelProducts") C 0 7 h0 (by (repeat rw [va_up_ne _ _ (by omega)]); exact e0) rfl (by decide +kernel) (by decide) (by decide +kernel) (fun _ h => h) rfl dX0_addWords_27 ?_
      refine g_iload C dX0_addWords_30 (k := ?_)
      refine g_lload C dX0_addWords_32 (k := ?_)
      refine g_ldc2 (v := 4294967295) C (by decide +kernel) dX0_addWords_34 ?_
      refine g_tl (lN 4294967295) rfl ?_
      refine g_land C dX0_addWords_37 ?_
      refine g_tl _ (k_mask _) ?_
      refine gN_last C 19 h19 (va_up_self _ _ _) ht (by omega) (by decide) dX0_addWords_38 ?_
      refine g_lload C dX0_addWords_39 (k := ?_)
      refine g_bipush C (nI 32) dX0_addWords_41 (k := ?_)
      refine g_lushr C dX0_addWords_43 ?_
      refine g_tl _ (k_ushr32 (by omega)) ?_
      refine g_lstore_n C dX0_addWords_44 (k := ?_)
      refine gN_inc C dX0_addWords_45 (k := ?_)
      refine g_goto (tgt := 5) C dX0_addWords_48 (k := ?_)
      have e : nu (fun k => if k < i then sw1 a b k else z k) i ((a i + b i + cy a b i) % 4294967296) = fun k => if k < i + 1 then sw1 a b k else z k := by
        funext k
        unfold nu
        by_cases h1 : k = i
        · subst h1; rw [if_pos rfl, if_pos (by omega)]; rfl
        · rw [if_neg h1]
          show (if k < i then sw1 a b k else z k) = _
          by_cases h2 : k < i
          · rw [if_pos h2, if_pos (by omega)]
          · rw [if_neg h2, if_neg (by omega)]
      rw [bx_uu, e]
      exact g_l2 (ih (i + 1) (by omega)) ⟨Or.inr rfl, Or.inr rfl, Or.inr rfl, Or.inr rfl, Or.inr rfl, trivial⟩
  refine g_lconst C (lN 0) dX0_addWords_0 (k := ?_)
  refine g_lstore_n C dX0_addWords_1 (k := ?_)
  refine g_iconst C (nI 0) dX0_addWords_2 (k := ?_)
  refine g_istore C dX0_addWords_3 (k := ?_)
  refine g_ct (ct' := va_up ct 19 (LN cJ 240 (fun k => if k < 0 then sw1 a b k else z k))) ?_ ?_
  · have : (fun k => if k < 0 then sw1 a b k else z k) = z := funext fun k => if_neg (by omega)
    rw [this, up_id ez]
  · exact g_l2 (loop 240 0 (by omega)) ⟨Or.inr rfl, Or.inr rfl, Or.inr rfl, Or.inr rfl, Or.inr rfl, trivial⟩
abbrev rw1 : Room := { frames := 1, cells := 0, slots := 0, locals := 24 }
set_option maxRecDepth 100000 in
set_option maxHeartbeats 4000000 in
theorem c_multiplyWords (l : Launch) {D : va_G} {tys : List (ClassId × FieldType)} {N : Nat} {ad : Nat → Nat} {ct : Nat → va_E} (hN : 20 ≤ N) {qa qb : Nat} (hqa : 9 < qa ∧ qa < 16) (hqb : 9 < qb ∧ qb < 16) {cJ : ClassId} {p na nb : Nat} {a b z : Nat → Nat} (e0 : ct 0 = obX p ad) (ea : ct qa = LN cJ 240 a) (eb : ct qb = LN cJ 240 b) (ez : ct 19 = LN cJ 240 z) (ht : tys[0]? = some (cJ, .long)) (ha : ∀ k, a k < 2 ^ 32) (hb : ∀ k, b k < 2 ^ 32) (hab : na + nb ≤ 240) :
    gMv l yX0_multiplyWords wsX0_multiplyWords rw1 D vwCl tys N ad [.ref (ad 0), .ref (ad qa), .int (nI na), .ref (ad qb), .int (nI nb)] ct (fun ct1 => ct1 = va_up ct 19 (LN cJ 240 (mo a b nb na))) := by
  refine gof_v (cc := cX0_multiplyWords) (maxL := 11) (by decide) rfl (Nat.le_of_ble_eq_true rfl) ?_
  intro M sz C hlM hRM hr hsz
  have h0 : 0 < N := by omega
  have h19 : 19 < N := by omega
  have outer : ∀ (d i : Nat), na = i + d → gW M D vwCl (ixA N ad sz) 11 0 0 (MQ (gb M) (va_Qv (fun ct1 => ct1 = va_up ct 19 (LN cJ 240 (mo a b nb na))) (gB D vwCl tys N ad (ixA N ad sz)) (ixA N ad sz)) (ga M) (gs M) 0 0 (ixA N ad sz)) N ad 11 [(0, some (.ref (ad 0))), (1, some (.ref (ad qa))), (2, some (.int (nI na))), (3, some (.ref (ad qb))), (4, some (.int (nI nb))), (5, some (.int (nI i)))] [] (va_up ct 19 (LN cJ 240 (mo a b nb i))) := by
    intro d
    induction d with
    | zero =>
      intro i hd
      have hi : i = na := by omega
      subst hi
      refine g_iload C dX0_multiplyWords_11 (k := ?_)
      refine g_iload_n C dX0_multiplyWords_13 (k := ?_)
      refine g_icN_ge (tgt := 102) C (by omega) (by omega) dX0_multiplyWords_14 (by decide) (fun _ => ?_) (fun h => absurd h (by omega))
      exact g_vret C hr rfl dX0_multiplyWords_102
    | succ d ih =>
      intro i hd
      have hml := mo_lt ha hb nb i
      have ih2 := ih (i + 1) (by omega)
      rw [mo] at ih2
      generalize mo a b nb i = s at hml ih2 ⊢
      have inner : ∀ (e j : Nat), nb = j + e → gW M D vwCl (ixA N ad sz) 11 0 0 (MQ (gb M) (va_Qv (fun ct1 => ct1 = va_up ct 19 (LN cJ 240 (mo a b nb na))) (gB D vwCl tys N ad (ixA N ad sz)) (ixA N ad sz)) (ga M) (gs M) 0 0 (ixA N ad sz)) N ad 23 [(0, some (.ref (ad 0))), (1, some (.ref (ad qa))), (2, some (.int (nI na))), (3, some (.ref (ad qb))), (4, some (.int (nI nb))), (5, some (.int (nI i))), (6, some (.long (lN (mi a b i s j).2))), (8, some (.int (nI j)))] [] (va_up ct 19 (LN cJ 240 (mi a b i s j).1)) := by
        intro e
        induction e with
        | zero =>
          intro j hj
          have hjn : j = nb := by omega
          subst hjn
          refine g_iload C dX0_multiplyWords_23 (k := ?_)
          refine g_iload C dX0_multiplyWords_25 (k := ?_)
          refine g_icN_ge (tgt := 84) C (by omega) (by omega) dX0_multiplyWords_27 (by decide) (fun _ => ?_) (fun h => absurd h (by omega))
          refine g_aload_n C dX0_multiplyWords_84 (k := ?_)
          refine g_getf (Cn := RX0) (T := TX0) (n := 8) (ref := "WheelProducts") C 0 7 h0 (by (repeat rw [va_up_ne _ _ (by omega)]); exact e0) rfl (by decide +kernel) (by decide) (by decide +kernel) (fun _ h => h) rfl dX0_multiplyWords_85 ?_
          refine g_iload C dX0_multiplyWords_88 (k := ?_)
          refine g_iload C dX0_multiplyWords_90 (k := ?_)
          refine gN_iadd C dX0_multiplyWords_92 ?_
          refine g_lload C dX0_multiplyWords_93 (k := ?_)
          refine gN_last C 19 h19 (va_up_self _ _ _) ht (by omega) (by decide) dX0_multiplyWords_95 ?_
          rw [bx_uu]
          refine gN_inc C dX0_multiplyWords_96 (k := ?_)
          refine g_goto (tgt := 11) C dX0_multiplyWords_99 (k := ?_)
          exact g_l2 ih2 ⟨Or.inr rfl, Or.inr rfl, Or.inr rfl, Or.inr rfl, Or.inr rfl, Or.inr rfl, trivial⟩
        | succ e ihe =>
          intro j hj
          obtain ⟨q1, q2⟩ := mi_lt ha hb i hml j
          have h3 := mul32 (ha i) (hb j) (q1 (i + j)) q2
          have ihe2 := ihe (j + 1) (by omega)
          rw [mi] at ihe2
          dsimp only at ihe2
          generalize (mi a b i s j).1 = s1 at q1 h3 ihe2 ⊢
          generalize (mi a b i s j).2 = c1 at q2 h3 ihe2 ⊢
          refine g_iload C dX0_multiplyWords_23 (k := ?_)
          refine g_iload C dX0_multiplyWords_25 (k := ?_)
          refine g_icN_ge (tgt := 84) C (by omega) (by omega) dX0_multiplyWords_27 (by decide) (fun h => absurd h (by omega)) (fun _ => ?_)
          refine g_aload_n C dX0_multiplyWords_30 (k := ?_)
          refine g_iload C dX0_multiplyWords_31 (k := ?_)
          refine gN_lald C qa (by omega) (by (repeat rw [va_up_ne _ _ (by omega)]); exact ea) ht (by omega) (by decide) dX0_multiplyWords_33 ?_
          refine g_aload_n C dX0_multiplyWords_34 (k := ?_)
          refine g_iload C dX0_multiplyWords_35 (k := ?_)
          refine gN_lald C qb (by omega) (by (repeat rw [va_up_ne _ _ (by omega)]); exact eb) ht (by omega) (by decide) dX0_multiplyWords_37 ?_
          refine gN_lmul C dX0_multiplyWords_38 ?_
          refine g_aload_n C dX0_multiplyWords_39 (k := ?_)
          refine g_getf (Cn := RX0) (T := TX0) (n := 8) (ref := "WheelProducts") C 0 7 h0 (by (repeat rw [va_up_ne _ _ (by omega)]); exact e0) rfl (by decide +kernel) (by decide) (by decide +kernel) (fun _ h => h) rfl dX0_multiplyWords_40 ?_
          refine g_iload C dX0_multiplyWords_43 (k := ?_)
          refine g_iload C dX0_multiplyWords_45 (k := ?_)
          refine gN_iadd C dX0_multiplyWords_47 ?_
          refine gN_lald C 19 h19 (va_up_self _ _ _) ht (by omega) (by decide) dX0_multiplyWords_48 ?_
          refine gN_ladd C dX0_multiplyWords_49 ?_
          refine g_lload C dX0_multiplyWords_50 (k := ?_)
          refine gN_ladd C dX0_multiplyWords_52 ?_
          refine g_lstore C dX0_multiplyWords_53 (k := ?_)
          refine g_aload_n C dX0_multiplyWords_55 (k := ?_)
          refine g_getf (Cn := RX0) (T := TX0) (n := 8) (ref := "WheelProducts") C 0 7 h0 (by (repeat rw [va_up_ne _ _ (by omega)]); exact e0) rfl (by decide +kernel) (by decide) (by decide +kernel) (fun _ h => h) rfl dX0_multiplyWords_56 ?_
          refine g_iload C dX0_multiplyWords_59 (k := ?_)
          refine g_iload C dX0_multiplyWords_61 (k := ?_)
          refine gN_iadd C dX0_multiplyWords_63 ?_
          refine g_lload C dX0_multiplyWords_64 (k := ?_)
          refine g_ldc2 (v := 4294967295) C (by decide +kernel) dX0_multiplyWords_66 ?_
          refine g_tl (lN 4294967295) rfl ?_
          refine g_land C dX0_multiplyWords_69 ?_
          refine g_tl _ (k_mask _) ?_
          refine gN_last C 19 h19 (va_up_self _ _ _) ht (by omega) (by decide) dX0_multiplyWords_70 ?_
          rw [bx_uu]
          refine g_lload C dX0_multiplyWords_71 (k := ?_)
          refine g_bipush C (nI 32) dX0_multiplyWords_73 (k := ?_)
          refine g_lushr C dX0_multiplyWords_75 ?_
          refine g_tl _ (k_ushr32 h3) ?_
          refine g_lstore C dX0_multiplyWords_76 (k := ?_)
          refine gN_inc C dX0_multiplyWords_78 (k := ?_)
          refine g_goto (tgt := 23) C dX0_multiplyWords_81 (k := ?_)
          exact g_l2 ihe2 ⟨Or.inr rfl, Or.inr rfl, Or.inr rfl, Or.inr rfl, Or.inr rfl, Or.inr rfl, Or.inr rfl, Or.inr rfl, trivial⟩
      refine g_iload C dX0_multiplyWords_11 (k := ?_)
      refine g_iload_n C dX0_multiplyWords_13 (k := ?_)
      refine g_icN_ge (tgt := 102) C (by omega) (by omega) dX0_multiplyWords_14 (by decide) (fun h => absurd h (by omega)) (fun _ => ?_)
      refine g_lconst C (lN 0) dX0_multiplyWords_17 (k := ?_)
      refine g_lstore C dX0_multiplyWords_18 (k := ?_)
      refine g_iconst C (nI 0) dX0_multiplyWords_20 (k := ?_)
      refine g_istore C dX0_multiplyWords_21 (k := ?_)
      exact g_l2 (inner nb 0 (by omega)) ⟨Or.inr rfl, Or.inr rfl, Or.inr rfl, Or.inr rfl, Or.inr rfl, Or.inr rfl, Or.inr rfl, Or.inr rfl, trivial⟩
  refine g_aload_n C dX0_multiplyWords_0 (k := ?_)
  refine g_getf (Cn := RX0) (T := TX0) (n := 8) (ref := "WheelProducts") C 0 7 h0 e0 rfl (by decide +kernel) (by decide) (by decide +kernel) (fun _ h => h) rfl dX0_multiplyWords_1 ?_
  refine g_lconst C (lN 0) dX0_multiplyWords_4 (k := ?_)
  refine g_cSv (n := 2) (av := [.ref (ad 19), .long (lN 0)]) C (by rw [hlM]; exact c_fill l h19 ez ht (by decide)) gX0_multiplyWords_J7_fill_d0a16 rfl ⟨rfl, rfl⟩ (by rw [hRM]; exact ⟨Nat.le_of_ble_eq_true rfl, Nat.le_of_ble_eq_true rfl⟩) (by rw [hRM]; exact ⟨Nat.le_of_ble_eq_true rfl, Nat.le_of_ble_eq_true rfl⟩) (Nat.le_of_ble_eq_true rfl) (by decide +kernel) rfl dX0_multiplyWords_5 ?_
  rintro ct1 rfl
  refine g_iconst C (nI 0) dX0_multiplyWords_8 (k := ?_)
  refine g_istore C dX0_multiplyWords_9 (k := ?_)
  exact g_l2 (outer na 0 (by omega)) ⟨Or.inr rfl, Or.inr rfl, Or.inr rfl, Or.inr rfl, Or.inr rfl, Or.inr rfl, trivial⟩
end
section
/-! ===== the factors of a number, as both programs find them ===== -/
def wof (d : Nat) : Nat → Nat → Nat
  | 0, n => n
  | f + 1, n => if n % d = 0 then wof d f (n / d) else n
def ffl : Nat → Nat → Nat → List Nat
  | 0, _, rem => if 1 < rem then [rem] else []
  | f + 1, d, rem => if d * d ≤ rem then (if rem % d = 0 then d :: ffl f (d + 1) (wof d 31 rem) else ffl f (d + 1) rem) else (if 1 < rem then [rem] else [])
def facs (n : Nat) : List Nat := ffl 46341 2 n
theorem wof_le (d : Nat) : ∀ f n, wof d f n ≤ n
  | 0, n => Nat.le_refl n
  | f + 1, n => by
    unfold wof
    split
    · exact Nat.le_trans (wof_le d f _) (Nat.div_le_self n d)
    · exact Nat.le_refl n
def fl (fa : Nat → Nat) (L : List Nat) : Prop := ∀ k, k < L.length → L[k]? = some (fa k)
theorem fl_add {fa : Nat → Nat} {L : List Nat} {d : Nat} (h : fl fa L) : fl (nu fa L.length d) (L ++ [d]) := by
  intro k hk
  rw [List.length_append, List.length_singleton] at hk
  by_cases e : k = L.length
  · subst e
    rw [List.getElem?_append_right (Nat.le_refl _), Nat.sub_self, nu_s]
    rfl
  · rw [List.getElem?_append_left (by omega), nu_n _ _ e]
    exact h k (by omega)
def okR (p : Nat) (L : List Nat) (g : Nat) : Bool := L.all (fun q => decide (g ^ ((p - 1) / q) % p ≠ 1))
def lrf (p : Nat) (L : List Nat) : Nat → Nat → Option Nat
  | 0, _ => none
  | f + 1, g => if g ^ (p - 1) % p = 1 then (if okR p L g = true then some g else lrf p L f (g + 1)) else none
def lrv : Option Nat → Int64
  | some g => lN g
  | none => -1

set_option maxRecDepth 100000 in
set_option maxHeartbeats 4000000 in
theorem c_without (l : Launch) {D : va_G} {tys : List (ClassId × FieldType)} {N : Nat} {ad : Nat → Nat} {ct : Nat → va_E} {cl : List vw_C} {n d : Nat} (hn : n < 2 ^ 63) (hd : 0 < d) (hd2 : d < 2 ^ 63) :
    gMl l yX0_without wsX0_without rz D cl tys N ad [.long (lN n), .long (lN d)] ct (fun r ct1 => r = lN (wof d 31 n) ∧ ct1 = ct) := by
  refine gof_l (cc := cX0_without) (maxL := 7) (by decide) rfl (Nat.le_of_ble_eq_true rfl) ?_
  intro M sz C hlM hRM hr hsz
  have loop : ∀ (f i c : Nat), 31 = i + f → c < 2 ^ 63 → wof d f c = wof d 31 n → gW M D cl (ixA N ad sz) 7 0 0 (MQ (gb M) (va_Ql (fun r ct1 => r = lN (wof d 31 n) ∧ ct1 = ct) (gB D cl tys N ad (ixA N ad sz)) (ixA N ad sz)) (ga M) (gs M) 0 0 (ixA N ad sz)) N ad 6 [(2, some (.long (lN d))), (4, some (.long (lN c))), (6, some (.int (nI i)))] [] ct := by
    intro f
    induction f with
    | zero =>
      intro i c hi hc hv
      refine g_iload C dX0_without_6 (k := ?_)
      refine g_bipush C (nI 31) dX0_without_8 (k := ?_)
      refine g_icN_ge (tgt := 34) C (by omega) (by decide) dX0_without_10 (by decide) (fun _ => ?_) (fun h => absurd h (by omega))
      refine g_lload C dX0_without_34 (k := ?_)
      refine g_lret C hr ⟨?_, rfl⟩ dX0_without_36
      rw [← hv]; rfl
    | succ f ih =>
      intro i c hi hc hv
      have hm : c % d < 2 ^ 63 := Nat.lt_trans (Nat.mod_lt _ hd) hd2
      refine g_iload C dX0_without_6 (k := ?_)
      refine g_bipush C (nI 31) dX0_without_8 (k := ?_)
      refine g_icN_ge (tgt := 34) C (by omega) (by decide) dX0_without_10 (by decide) (fun h => absurd h (by omega)) (fun _ => ?_)
      refine g_lload C dX0_without_13 (k := ?_)
      refine g_lload_n C dX0_without_15 (k := ?_)
      refine gN_lrem C hc hd hd2 dX0_without_16 ?_
      refine g_lconst C (lN 0) dX0_without_17 (k := ?_)
      by_cases hz : c % d = 0
      · refine g_lcN_ne (tgt := 34) C hm (by decide) dX0_without_18 dX0_without_19 (by decide) (fun h => absurd hz h) (fun _ => ?_)
        refine g_lload C dX0_without_22 (k := ?_)
        refine g_lload_n C dX0_without_24 (k := ?_)
        refine gN_ldiv C hc hd hd2 dX0_without_25 ?_
        refine g_lstore C dX0_without_26 (k := ?_)
        refine gN_inc C dX0_without_28 (k := ?_)
        refine g_goto (tgt := 6) C dX0_without_31 (k := ?_)
        refine g_l2 (ih (i + 1) (c / d) (by omega) (Nat.lt_of_le_of_lt (Nat.div_le_self c d) hc) ?_) ⟨Or.inr rfl, Or.inr rfl, Or.inr rfl, trivial⟩
        rw [← hv, wof, if_pos hz]
      · refine g_lcN_ne (tgt := 34) C hm (by decide) dX0_without_18 dX0_without_19 (by decide) (fun _ => ?_) (fun h => absurd h hz)
        refine g_lload C dX0_without_34 (k := ?_)
        refine g_lret C hr ⟨?_, rfl⟩ dX0_without_36
        rw [← hv, wof, if_neg hz]
  refine g_lload_n C dX0_without_0 (k := ?_)
  refine g_lstore C dX0_without_1 (k := ?_)
  refine g_iconst C (nI 0) dX0_without_3 (k := ?_)
  refine g_istore C dX0_without_4 (k := ?_)
  exact g_l2 (loop 31 0 n rfl hn rfl) ⟨Or.inr rfl, Or.inr rfl, Or.inr rfl, trivial⟩
abbrev rf1 : Room := { frames := 1, cells := 0, slots := 0, locals := 26 }
set_option maxRecDepth 100000 in
set_option maxHeartbeats 4000000 in
theorem c_findFactors (l : Launch) {D : va_G} {tys : List (ClassId × FieldType)} {N : Nat} {ad : Nat → Nat} {ct : Nat → va_E} (hN : 20 ≤ N) {cJ : ClassId} {p n : Nat} {f0 : Nat → Nat} (e0 : ct 0 = obX p ad) (ef : ct 16 = LN cJ 9 f0) (ht : tys[0]? = some (cJ, .long)) (hn : n < 2 ^ 31) (hlen : (facs n).length ≤ 9) :
    gMi l yX0_findFactors wsX0_findFactors rf1 D vwCl tys N ad [.ref (ad 0), .long (lN n)] ct (fun r ct1 => r = nI (facs n).length ∧ ∃ fa, fl fa (facs n) ∧ ct1 = va_up ct 16 (LN cJ 9 fa)) := by
  refine gof_i (cc := cX0_findFactors) (maxL := 8) (by decide) rfl (Nat.le_of_ble_eq_true rfl) ?_
  intro M sz C hlM hRM hr hsz
  have h0 : 0 < N := by omega
  have h16 : 16 < N := by omega
  have hfin : ∀ (L : List Nat) (fa : Nat → Nat) (c d : Nat), c < 2 ^ 31 → d < 2 ^ 31 → fl fa L → L ++ (if 1 < c then [c] else []) = facs n → gW M D vwCl (ixA N ad sz) 8 0 0 (MQ (gb M) (va_Qi (fun r ct1 => r = nI (facs n).length ∧ ∃ fa, fl fa (facs n) ∧ ct1 = va_up ct 16 (LN cJ 9 fa)) (gB D vwCl tys N ad (ixA N ad sz)) (ixA N ad sz)) (ga M) (gs M) 0 0 (ixA N ad sz)) N ad 66 [(0, some (.ref (ad 0))), (3, some (.int (nI L.length))), (4, some (.long (lN c))), (6, some (.long (lN d)))] [] (va_up ct 16 (LN cJ 9 fa)) := by
    intro L fa c d hc hd2 hfa hL
    have hll : (facs n).length ≤ 9 := hlen
    refine g_lload C dX0_findFactors_66 (k := ?_)
    refine g_lconst C (lN 1) dX0_findFactors_68 (k := ?_)
    by_cases h1 : 1 < c
    · rw [if_pos h1] at hL
      rw [← hL, List.length_append, List.length_singleton] at hll
      refine g_lcN_le (tgt := 90) C (by omega) (by decide) dX0_findFactors_69 dX0_findFactors_70 (by decide) (fun h => absurd h (by omega)) (fun _ => ?_)
      refine g_iload_n C dX0_findFactors_73 (k := ?_)
      refine g_bipush C (nI 9) dX0_findFactors_74 (k := ?_)
      refine g_icN_ge (tgt := 90) C (by omega) (by decide) dX0_findFactors_76 (by decide) (fun h => absurd h (by omega)) (fun _ => ?_)
      refine g_aload_n C dX0_findFactors_79 (k := ?_)
      refine g_getf (Cn := RX0) (T := TX0) (n := 8) (ref := "WheelProducts") C 0 4 h0 (by (repeat rw [va_up_ne _ _ (by omega)]); exact e0) rfl (by decide +kernel) (by decide) (by decide +kernel) (fun _ h => h) rfl dX0_findFactors_80 ?_
      refine g_iload_n C dX0_findFactors_83 (k := ?_)
      refine g_lload C dX0_findFactors_84 (k := ?_)
      refine gN_last C 16 h16 (va_up_self _ _ _) ht (by omega) (by decide) dX0_findFactors_86 ?_
      rw [bx_uu]
      refine gN_inc C dX0_findFactors_87 (k := ?_)
      refine g_iload_n C dX0_findFactors_90 (k := ?_)
      refine g_iret C hr ⟨?_, _, ?_, rfl⟩ dX0_findFactors_91
      · rw [← hL, List.length_append]; rfl
      · rw [← hL]; exact fl_add hfa
    · rw [if_neg h1, List.append_nil] at hL
      refine g_lcN_le (tgt := 90) C (by omega) (by decide) dX0_findFactors_69 dX0_findFactors_70 (by decide) (fun _ => ?_) (fun h => absurd h (by omega))
      refine g_iload_n C dX0_findFactors_90 (k := ?_)
      exact g_iret C hr ⟨by rw [hL], fa, by rw [← hL]; exact hfa, rfl⟩ dX0_findFactors_91
  have loop : ∀ (f d c : Nat) (L : List Nat) (fa : Nat → Nat), d + f = 46343 → 2 ≤ d → c < 2 ^ 31 → fl fa L → L ++ ffl f d c = facs n → gW M D vwCl (ixA N ad sz) 8 0 0 (MQ (gb M) (va_Qi (fun r ct1 => r = nI (facs n).length ∧ ∃ fa, fl fa (facs n) ∧ ct1 = va_up ct 16 (LN cJ 9 fa)) (gB D vwCl tys N ad (ixA N ad sz)) (ixA N ad sz)) (ga M) (gs M) 0 0 (ixA N ad sz)) N ad 10 [(0, some (.ref (ad 0))), (3, some (.int (nI L.length))), (4, some (.long (lN c))), (6, some (.long (lN d)))] [] (va_up ct 16 (LN cJ 9 fa)) := by
    intro f
    induction f with
    | zero =>
      intro d c L fa hdf hd2 hc hfa hL
      have hdd : 46343 * 46343 ≤ d * d := Nat.mul_le_mul (by omega) (by omega)
      have hdu : d * d ≤ 46343 * 46343 := Nat.mul_le_mul (by omega) (by omega)
      refine g_lload C dX0_findFactors_10 (k := ?_)
      refine g_lload C dX0_findFactors_12 (k := ?_)
      refine gN_lmul C dX0_findFactors_14 ?_
      refine g_lload C dX0_findFactors_15 (k := ?_)
      refine g_lcN_gt (tgt := 66) C (by omega) (by omega) dX0_findFactors_17 dX0_findFactors_18 (by decide) (fun _ => ?_) (fun h => absurd h (by omega))
      exact hfin L fa c d hc (by omega) hfa hL
    | succ f ih =>
      intro d c L fa hdf hd2 hc hfa hL
      have hdu : d * d ≤ 46343 * 46343 := Nat.mul_le_mul (by omega) (by omega)
      refine g_lload C dX0_findFactors_10 (k := ?_)
      refine g_lload C dX0_findFactors_12 (k := ?_)
      refine gN_lmul C dX0_findFactors_14 ?_
      refine g_lload C dX0_findFactors_15 (k := ?_)
      by_cases hdc : d * d ≤ c
      · rw [ffl, if_pos hdc] at hL
        have hm : c % d < 2 ^ 63 := Nat.lt_trans (Nat.mod_lt c (show 0 < d by omega)) (by omega)
        refine g_lcN_gt (tgt := 66) C (by omega) (by omega) dX0_findFactors_17 dX0_findFactors_18 (by decide) (fun h => absurd h (by omega)) (fun _ => ?_)
        refine g_lload C dX0_findFactors_21 (k := ?_)
        refine g_lload C dX0_findFactors_23 (k := ?_)
        refine gN_lrem C (by omega) (by omega) (by omega) dX0_findFactors_25 ?_
        refine g_lconst C (lN 0) dX0_findFactors_26 (k := ?_)
        by_cases hz : c % d = 0
        · rw [if_pos hz] at hL
          have hll : (facs n).length ≤ 9 := hlen
          rw [← hL, List.length_append, List.length_cons] at hll
          refine g_lcN_ne (tgt := 57) C hm (by decide) dX0_findFactors_27 dX0_findFactors_28 (by decide) (fun h => absurd hz h) (fun _ => ?_)
          refine g_iload_n C dX0_findFactors_31 (k := ?_)
          refine g_bipush C (nI 9) dX0_findFactors_32 (k := ?_)
          refine g_icN_ge (tgt := 57) C (by omega) (by decide) dX0_findFactors_34 (by decide) (fun h => absurd h (by omega)) (fun _ => ?_)
          refine g_aload_n C dX0_findFactors_37 (k := ?_)
          refine g_getf (Cn := RX0) (T := TX0) (n := 8) (ref := "WheelProducts") C 0 4 h0 (by (repeat rw [va_up_ne _ _ (by omega)]); exact e0) rfl (by decide +kernel) (by decide) (by decide +kernel) (fun _ h => h) rfl dX0_findFactors_38 ?_
          refine g_iload_n C dX0_findFactors_41 (k := ?_)
          refine g_lload C dX0_findFactors_42 (k := ?_)
          refine gN_last C 16 h16 (va_up_self _ _ _) ht (by omega) (by decide) dX0_findFactors_44 ?_
          rw [bx_uu]
          refine gN_inc C dX0_findFactors_45 (k := ?_)
          refine g_lload C dX0_findFactors_48 (k := ?_)
          refine g_lload C dX0_findFactors_50 (k := ?_)
          refine g_cSl (n := 2) (av := [.long (lN c), .long (lN d)]) C (by rw [hlM]; exact c_without l (by omega) (by omega) (by omega)) gX0_findFactors_X0_without rfl ⟨rfl, rfl⟩ (by rw [hRM]; exact ⟨Nat.le_of_ble_eq_true rfl, Nat.le_of_ble_eq_true rfl⟩) (by rw [hRM]; exact ⟨Nat.le_of_ble_eq_true rfl, Nat.le_of_ble_eq_true rfl⟩) (Nat.le_of_ble_eq_true rfl) (by decide +kernel) rfl dX0_findFactors_52 ?_
          rintro v ct1 ⟨rfl, rfl⟩
          refine g_lstore C dX0_findFactors_55 (k := ?_)
          refine g_lload C dX0_findFactors_57 (k := ?_)
          refine g_lconst C (lN 1) dX0_findFactors_59 (k := ?_)
          refine gN_ladd C dX0_findFactors_60 ?_
          refine g_lstore C dX0_findFactors_61 (k := ?_)
          refine g_goto (tgt := 10) C dX0_findFactors_63 (k := ?_)
          refine g_l2 (ih (d + 1) (wof d 31 c) (L ++ [d]) _ (by omega) (by omega) (Nat.lt_of_le_of_lt (wof_le d 31 c) hc) (fl_add hfa) ?_) ⟨Or.inr rfl, Or.inr ?_, Or.inr rfl, Or.inr rfl, trivial⟩
          · rw [List.append_assoc]; exact hL
          · rw [List.length_append]; rfl
        · rw [if_neg hz] at hL
          refine g_lcN_ne (tgt := 57) C hm (by decide) dX0_findFactors_27 dX0_findFactors_28 (by decide) (fun _ => ?_) (fun h => absurd h hz)
          refine g_lload C dX0_findFactors_57 (k := ?_)
          refine g_lconst C (lN 1) dX0_findFactors_59 (k := ?_)
          refine gN_ladd C dX0_findFactors_60 ?_
          refine g_lstore C dX0_findFactors_61 (k := ?_)
          refine g_goto (tgt := 10) C dX0_findFactors_63 (k := ?_)
          exact g_l2 (ih (d + 1) c L fa (by omega) (by omega) hc hfa hL) ⟨Or.inr rfl, Or.inr rfl, Or.inr rfl, Or.inr rfl, trivial⟩
      · rw [ffl, if_neg hdc] at hL
        refine g_lcN_gt (tgt := 66) C (by omega) (by omega) dX0_findFactors_17 dX0_findFactors_18 (by decide) (fun _ => ?_) (fun h => absurd h (by omega))
        exact hfin L fa c d hc (by omega) hfa hL
  refine g_iconst C (nI 0) dX0_findFactors_0 (k := ?_)
  refine g_istore_n C dX0_findFactors_1 (k := ?_)
  refine g_lload_n C dX0_findFactors_2 (k := ?_)
  refine g_lstore C dX0_findFactors_3 (k := ?_)
  refine g_ldc2 (v := 2) C (by decide +kernel) dX0_findFactors_5 ?_
  refine g_tl (lN 2) rfl ?_
  refine g_lstore C dX0_findFactors_8 (k := ?_)
  refine g_ct (ct' := va_up ct 16 (LN cJ 9 f0)) (up_id ef).symm ?_
  exact g_l2 (loop 46341 2 n [] f0 rfl (by decide) hn (fun k hk => absurd hk (Nat.not_lt_zero k)) rfl) ⟨Or.inr rfl, Or.inr rfl, Or.inr rfl, Or.inr rfl, trivial⟩
abbrev rc1 : Room := { frames := 1, cells := 0, slots := 0, locals := 31 }
set_option maxRecDepth 100000 in
set_option maxHeartbeats 4000000 in
theorem c_comesToOne (l : Launch) {D : va_G} {tys : List (ClassId × FieldType)} {N : Nat} {ad : Nat → Nat} {ct : Nat → va_E} (hN : 20 ≤ N) {cJ : ClassId} {p0 p g : Nat} {L : List Nat} {fa : Nat → Nat} (e0 : ct 0 = obX p0 ad) (ef : ct 16 = LN cJ 9 fa) (ht : tys[0]? = some (cJ, .long)) (hp : 1 < p) (hp2 : p < 2 ^ 31) (hg : g < p) (hfa : fl fa L) (hlen : L.length ≤ 9) (hL : ∀ q ∈ L, 0 < q ∧ q < 2 ^ 31) :
    gMi l yX0_comesToOneOnlyAtTheEnd wsX0_comesToOneOnlyAtTheEnd rc1 D vwCl tys N ad [.ref (ad 0), .long (lN g), .long (lN p), .int (nI L.length)] ct (fun r ct1 => r = nI (if okR p L g = true then 1 else 0) ∧ ct1 = ct) := by
  refine gof_z (cc := cX0_comesToOneOnlyAtTheEnd) (maxL := 7) (by decide) rfl (Nat.le_of_ble_eq_true rfl) ?_
  intro M sz C hlM hRM hr hsz
  have h0 : 0 < N := by omega
  have h16 : 16 < N := by omega
  have loop : ∀ (d i : Nat), L.length = i + d → okR p (L.drop i) g = okR p L g → gW M D vwCl (ixA N ad sz) 7 0 0 (MQ (gb M) (va_Qi (fun r ct1 => r = nI (if okR p L g = true then 1 else 0) ∧ ct1 = ct) (gB D vwCl tys N ad (ixA N ad sz)) (ixA N ad sz)) (ga M) (gs M) 0 0 (ixA N ad sz)) N ad 3 [(0, some (.ref (ad 0))), (1, some (.long (lN g))), (3, some (.long (lN p))), (5, some (.int (nI L.length))), (6, some (.int (nI i)))] [] ct := by
    intro d
    induction d with
    | zero =>
      intro i hi hv
      refine g_iload C dX0_comesToOneOnlyAtTheEnd_3 (k := ?_)
      refine g_iload C dX0_comesToOneOnlyAtTheEnd_5 (k := ?_)
      refine g_icN_ge (tgt := 39) C (by omega) (by omega) dX0_comesToOneOnlyAtTheEnd_7 (by decide) (fun _ => ?_) (fun h => absurd h (by omega))
      refine g_iconst C (nI 1) dX0_comesToOneOnlyAtTheEnd_39 (k := ?_)
      refine g_zret C hr (by decide) ⟨?_, rfl⟩ dX0_comesToOneOnlyAtTheEnd_40
      rw [← hv, List.drop_eq_nil_of_le (by omega)]
      rfl
    | succ d ih =>
      intro i hi hv
      have hil : i < L.length := by omega
      have hfi := hfa i hil
      obtain ⟨hq0, hq2⟩ := hL (fa i) (List.mem_of_getElem? hfi)
      have hdr : L.drop i = fa i :: L.drop (i + 1) := by
        rw [List.drop_eq_getElem_cons hil]
        congr 1
        rw [List.getElem?_eq_getElem hil] at hfi
        exact Option.some.inj hfi
      refine g_iload C dX0_comesToOneOnlyAtTheEnd_3 (k := ?_)
      refine g_iload C dX0_comesToOneOnlyAtTheEnd_5 (k := ?_)
      refine g_icN_ge (tgt := 39) C (by omega) (by omega) dX0_comesToOneOnlyAtTheEnd_7 (by decide) (fun h => absurd h (by omega)) (fun _ => ?_)
      refine g_lload_n C dX0_comesToOneOnlyAtTheEnd_10 (k := ?_)
      refine g_lload_n C dX0_comesToOneOnlyAtTheEnd_11 (k := ?_)
      refine g_lconst C (lN 1) dX0_comesToOneOnlyAtTheEnd_12 (k := ?_)
      refine gN_lsub C (by omega) dX0_comesToOneOnlyAtTheEnd_13 ?_
      refine g_aload_n C dX0_comesToOneOnlyAtTheEnd_14 (k := ?_)
      refine g_getf (Cn := RX0) (T := TX0) (n := 8) (ref := "WheelProducts") C 0 4 h0 e0 rfl (by decide +kernel) (by decide) (by decide +kernel) (fun _ h => h) rfl dX0_comesToOneOnlyAtTheEnd_15 ?_
      refine g_iload C dX0_comesToOneOnlyAtTheEnd_18 (k := ?_)
      refine gN_lald C 16 h16 ef ht (by omega) (by decide) dX0_comesToOneOnlyAtTheEnd_20 ?_
      refine gN_ldiv C (by omega) hq0 (by omega) dX0_comesToOneOnlyAtTheEnd_21 ?_
      refine g_lload_n C dX0_comesToOneOnlyAtTheEnd_22 (k := ?_)
      have hdl : (p - 1) / fa i ≤ p - 1 := Nat.div_le_self _ _
      refine g_cSl (n := 3) (av := [.long (lN g), .long (lN ((p - 1) / fa i)), .long (lN p)]) C (by rw [hlM]; exact c_powerModulo l hg (by omega) hp hp2) gX0_comesToOneOnlyAtTheEnd_X0_powerModulo rfl ⟨rfl, rfl⟩ (by rw [hRM]; exact ⟨Nat.le_of_ble_eq_true rfl, Nat.le_of_ble_eq_true rfl⟩) (by rw [hRM]; exact ⟨Nat.le_of_ble_eq_true rfl, Nat.le_of_ble_eq_true rfl⟩) (Nat.le_of_ble_eq_true rfl) (by decide +kernel) rfl dX0_comesToOneOnlyAtTheEnd_23 ?_
      rintro _ _ ⟨rfl, rfl⟩
      have hml : g ^ ((p - 1) / fa i) % p < p := Nat.mod_lt _ (by omega)
      refine g_lconst C (lN 1) dX0_comesToOneOnlyAtTheEnd_26 (k := ?_)
      by_cases h1 : g ^ ((p - 1) / fa i) % p = 1
      · refine g_lcN_ne (tgt := 33) C (by omega) (by decide) dX0_comesToOneOnlyAtTheEnd_27 dX0_comesToOneOnlyAtTheEnd_28 (by decide) (fun h => absurd h1 h) (fun _ => ?_)
        refine g_iconst C (nI 0) dX0_comesToOneOnlyAtTheEnd_31 (k := ?_)
        refine g_zret C hr (by decide) ⟨?_, rfl⟩ dX0_comesToOneOnlyAtTheEnd_32
        rw [← hv, hdr]
        have : okR p (fa i :: L.drop (i + 1)) g = false := by
          unfold okR
          rw [List.all_cons]
          simp [h1]
        rw [this]
        rfl
      · refine g_lcN_ne (tgt := 33) C (by omega) (by decide) dX0_comesToOneOnlyAtTheEnd_27 dX0_comesToOneOnlyAtTheEnd_28 (by decide) (fun _ => ?_) (fun h => absurd h h1)
        refine gN_inc C dX0_comesToOneOnlyAtTheEnd_33 (k := ?_)
        refine g_goto (tgt := 3) C dX0_comesToOneOnlyAtTheEnd_36 (k := ?_)
        refine g_l2 (ih (i + 1) (by omega) ?_) ⟨Or.inr rfl, Or.inr rfl, Or.inr rfl, Or.inr rfl, Or.inr rfl, trivial⟩
        rw [← hv, hdr]
        unfold okR
        rw [List.all_cons]
        simp [h1]
  refine g_iconst C (nI 0) dX0_comesToOneOnlyAtTheEnd_0 (k := ?_)
  refine g_istore C dX0_comesToOneOnlyAtTheEnd_1 (k := ?_)
  exact g_l2 (loop L.length 0 (by omega) rfl) ⟨Or.inr rfl, Or.inr rfl, Or.inr rfl, Or.inr rfl, Or.inr rfl, trivial⟩
abbrev rl2 : Room := { frames := 2, cells := 0, slots := 0, locals := 57 }
set_option maxRecDepth 100000 in
set_option maxHeartbeats 4000000 in
theorem c_leastRoot (l : Launch) {D : va_G} {tys : List (ClassId × FieldType)} {N : Nat} {ad : Nat → Nat} {ct : Nat → va_E} (hN : 20 ≤ N) {cJ : ClassId} {p0 p : Nat} {f0 : Nat → Nat} (e0 : ct 0 = obX p0 ad) (ef : ct 16 = LN cJ 9 f0) (ht : tys[0]? = some (cJ, .long)) (hp : 2 < p) (hp2 : p < 2 ^ 31) (hlen : (facs (p - 1)).length ≤ 9) (hL : ∀ q ∈ facs (p - 1), 0 < q ∧ q < 2 ^ 31) :
    gMl l yX0_leastRoot wsX0_leastRoot rl2 D vwCl tys N ad [.ref (ad 0), .long (lN p)] ct (fun r ct1 => r = lrv (lrf p (facs (p - 1)) (p - 2) 2) ∧ ∃ fa, ct1 = va_up ct 16 (LN cJ 9 fa)) := by
  refine gof_l (cc := cX0_leastRoot) (maxL := 6) (by decide) rfl (Nat.le_of_ble_eq_true rfl) ?_
  intro M sz C hlM hRM hr hsz
  have h0 : 0 < N := by omega
  refine g_aload_n C dX0_leastRoot_0 (k := ?_)
  refine g_lload_n C dX0_leastRoot_1 (k := ?_)
  refine g_lconst C (lN 1) dX0_leastRoot_2 (k := ?_)
  refine gN_lsub C (by omega) dX0_leastRoot_3 ?_
  refine g_cVi (n := 1) (av := [.long (lN (p - 1))]) C 0 h0 e0 rfl (by rw [hlM]; exact c_findFactors l hN e0 ef ht (by omega) hlen) gX0_leastRoot_X0_findFactors rfl ⟨rfl, rfl⟩ (by rw [hRM]; exact ⟨Nat.le_of_ble_eq_true rfl, Nat.le_of_ble_eq_true rfl⟩) (by rw [hRM]; exact ⟨Nat.le_of_ble_eq_true rfl, Nat.le_of_ble_eq_true rfl⟩) (Nat.le_of_ble_eq_true rfl) (by decide +kernel) rfl dX0_leastRoot_4 ?_
  rintro _ _ ⟨rfl, fa, hfa, rfl⟩
  have loop : ∀ (f g : Nat), g + f = p → 2 ≤ g → lrf p (facs (p - 1)) f g = lrf p (facs (p - 1)) (p - 2) 2 → gW M D vwCl (ixA N ad sz) 6 0 0 (MQ (gb M) (va_Ql (fun r ct1 => r = lrv (lrf p (facs (p - 1)) (p - 2) 2) ∧ ∃ fa, ct1 = va_up ct 16 (LN cJ 9 fa)) (gB D vwCl tys N ad (ixA N ad sz)) (ixA N ad sz)) (ga M) (gs M) 0 0 (ixA N ad sz)) N ad 13 [(0, some (.ref (ad 0))), (1, some (.long (lN p))), (3, some (.int (nI (facs (p - 1)).length))), (4, some (.long (lN g)))] [] (va_up ct 16 (LN cJ 9 fa)) := by
    intro f
    induction f with
    | zero =>
      intro g hg h2 hv
      refine g_lload C dX0_leastRoot_13 (k := ?_)
      refine g_lload_n C dX0_leastRoot_15 (k := ?_)
      refine g_lcN_ge (tgt := 61) C (by omega) (by omega) dX0_leastRoot_16 dX0_leastRoot_17 (by decide) (fun _ => ?_) (fun h => absurd h (by omega))
      refine g_ldc2 (v := -1) C (by decide +kernel) dX0_leastRoot_61 ?_
      exact g_lret C hr ⟨by rw [← hv]; rfl, fa, rfl⟩ dX0_leastRoot_64
    | succ f ih =>
      intro g hg h2 hv
      refine g_lload C dX0_leastRoot_13 (k := ?_)
      refine g_lload_n C dX0_leastRoot_15 (k := ?_)
      refine g_lcN_ge (tgt := 61) C (by omega) (by omega) dX0_leastRoot_16 dX0_leastRoot_17 (by decide) (fun h => absurd h (by omega)) (fun _ => ?_)
      refine g_lload C dX0_leastRoot_20 (k := ?_)
      refine g_lload_n C dX0_leastRoot_22 (k := ?_)
      refine g_lconst C (lN 1) dX0_leastRoot_23 (k := ?_)
      refine gN_lsub C (by omega) dX0_leastRoot_24 ?_
      refine g_lload_n C dX0_leastRoot_25 (k := ?_)
      refine g_cSl (n := 3) (av := [.long (lN g), .long (lN (p - 1)), .long (lN p)]) C (by rw [hlM]; exact c_powerModulo l (by omega) (by omega) (by omega) hp2) gX0_leastRoot_X0_powerModulo rfl ⟨rfl, rfl⟩ (by rw [hRM]; exact ⟨Nat.le_of_ble_eq_true rfl, Nat.le_of_ble_eq_true rfl⟩) (by rw [hRM]; exact ⟨Nat.le_of_ble_eq_true rfl, Nat.le_of_ble_eq_true rfl⟩) (Nat.le_of_ble_eq_true rfl) (by decide +kernel) rfl dX0_leastRoot_26 ?_
      rintro _ _ ⟨rfl, rfl⟩
      have hml : g ^ (p - 1) % p < p := Nat.mod_lt _ (by omega)
      refine g_lconst C (lN 1) dX0_leastRoot_29 (k := ?_)
      by_cases h1 : g ^ (p - 1) % p = 1
      · rw [lrf, if_pos h1] at hv
        refine g_lcN_eq (tgt := 38) C (by omega) (by decide) dX0_leastRoot_30 dX0_leastRoot_31 (by decide) (fun _ => ?_) (fun h => absurd h1 h)
        refine g_aload_n C dX0_leastRoot_38 (k := ?_)
        refine g_lload C dX0_leastRoot_39 (k := ?_)
        refine g_lload_n C dX0_leastRoot_41 (k := ?_)
        refine g_iload_n C dX0_leastRoot_42 (k := ?_)
        refine g_cVi (n := 3) (av := [.long (lN g), .long (lN p), .int (nI (facs (p - 1)).length)]) C 0 h0 (by (repeat rw [va_up_ne _ _ (by omega)]); exact e0) rfl (by rw [hlM]; exact c_comesToOne l hN (by (repeat rw [va_up_ne _ _ (by omega)]); exact e0) (va_up_self _ _ _) ht (by omega) hp2 (by omega) hfa hlen hL) gX0_leastRoot_X0_comesToOneOnlyAtTheEnd rfl ⟨rfl, rfl⟩ (by rw [hRM]; exact ⟨Nat.le_of_ble_eq_true rfl, Nat.le_of_ble_eq_true rfl⟩) (by rw [hRM]; exact ⟨Nat.le_of_ble_eq_true rfl, Nat.le_of_ble_eq_true rfl⟩) (Nat.le_of_ble_eq_true rfl) (by decide +kernel) rfl dX0_leastRoot_43 ?_
        rintro _ _ ⟨rfl, rfl⟩
        by_cases h3 : okR p (facs (p - 1)) g = true
        · rw [if_pos h3] at hv ⊢
          refine g_ifN_eq (tgt := 52) C (by decide) dX0_leastRoot_46 (by decide) (fun h => absurd h (by decide)) (fun _ => ?_)
          refine g_lload C dX0_leastRoot_49 (k := ?_)
          exact g_lret C hr ⟨by rw [← hv]; rfl, fa, rfl⟩ dX0_leastRoot_51
        · rw [if_neg h3] at hv ⊢
          refine g_ifN_eq (tgt := 52) C (by decide) dX0_leastRoot_46 (by decide) (fun _ => ?_) (fun h => absurd rfl h)
          refine g_lload C dX0_leastRoot_52 (k := ?_)
          refine g_lconst C (lN 1) dX0_leastRoot_54 (k := ?_)
          refine gN_ladd C dX0_leastRoot_55 ?_
          refine g_lstore C dX0_leastRoot_56 (k := ?_)
          refine g_goto (tgt := 13) C dX0_leastRoot_58 (k := ?_)
          exact g_l2 (ih (g + 1) (by omega) (by omega) hv) ⟨Or.inr rfl, Or.inr rfl, Or.inr rfl, Or.inr rfl, trivial⟩
      · rw [lrf, if_neg h1] at hv
        refine g_lcN_eq (tgt := 38) C (by omega) (by decide) dX0_leastRoot_30 dX0_leastRoot_31 (by decide) (fun h => absurd h h1) (fun _ => ?_)
        refine g_ldc2 (v := -1) C (by decide +kernel) dX0_leastRoot_34 ?_
        exact g_lret C hr ⟨by rw [← hv]; rfl, fa, rfl⟩ dX0_leastRoot_37
  refine g_istore_n C dX0_leastRoot_7 (k := ?_)
  refine g_ldc2 (v := 2) C (by decide +kernel) dX0_leastRoot_8 ?_
  refine g_tl (lN 2) rfl ?_
  refine g_lstore C dX0_leastRoot_11 (k := ?_)
  exact g_l2 (loop (p - 2) 2 (by omega) (by decide) rfl) ⟨Or.inr rfl, Or.inr rfl, Or.inr rfl, Or.inr rfl, trivial⟩
abbrev ru1 : Room := { frames := 1, cells := 0, slots := 0, locals := 31 }
set_option maxRecDepth 100000 in
set_option maxHeartbeats 4000000 in
theorem c_usePrime (l : Launch) {D : va_G} {tys : List (ClassId × FieldType)} {N : Nat} {ad : Nat → Nat} {ct : Nat → va_E} (hN : 20 ≤ N) {cJ : ClassId} {p0 p g : Nat} {w0 : Nat → Nat} (e0 : ct 0 = obX p0 ad) (ew : ct 1 = LN cJ 512 w0) (ht : tys[0]? = some (cJ, .long)) (hp : 1 < p) (hp2 : p < 2 ^ 31) (hg : g < p) :
    gMv l yX0_usePrime wsX0_usePrime ru1 D vwCl tys N ad [.ref (ad 0), .long (lN p), .long (lN g)] ct (fun ct1 => ct1 = va_up (va_up ct 0 (obX p ad)) 1 (LN cJ 512 (fun k => (g ^ ((p - 1) / 512) % p) ^ k % p))) := by
  refine gof_v (cc := cX0_usePrime) (maxL := 10) (by decide) rfl (Nat.le_of_ble_eq_true rfl) ?_
  intro M sz C hlM hRM hr hsz
  have h0 : 0 < N := by omega
  have h1 : 1 < N := by omega
  refine g_aload_n C dX0_usePrime_0 (k := ?_)
  refine g_lload_n C dX0_usePrime_1 (k := ?_)
  refine g_putf (Cn := RX0) (T := TX0) (n := 8) (ref := "WheelProducts") (ty := .long) C 0 0 h0 e0 rfl (by decide +kernel) tyX0 tyX0_ok nmX0 (by decide) (by decide +kernel) (fun _ h => h) rfl (by decide +kernel) rfl rfl (Nat.le_of_ble_eq_true rfl) dX0_usePrime_2 ?_
  refine g_ct (ct' := va_up ct 0 (obX p ad)) rfl ?_
  refine g_lload_n C dX0_usePrime_5 (k := ?_)
  refine g_lload_n C dX0_usePrime_6 (k := ?_)
  refine g_lconst C (lN 1) dX0_usePrime_7 (k := ?_)
  refine gN_lsub C (by omega) dX0_usePrime_8 ?_
  refine g_ldc2 (v := 512) C (by decide +kernel) dX0_usePrime_9 ?_
  refine g_tl (lN 512) rfl ?_
  refine gN_ldiv C (by omega) (by decide) (by decide) dX0_usePrime_12 ?_
  refine g_lload_n C dX0_usePrime_13 (k := ?_)
  have hdl : (p - 1) / 512 ≤ p - 1 := Nat.div_le_self _ _
  refine g_cSl (n := 3) (av := [.long (lN g), .long (lN ((p - 1) / 512)), .long (lN p)]) C (by rw [hlM]; exact c_powerModulo l hg (by omega) hp hp2) gX0_usePrime_X0_powerModulo rfl ⟨rfl, rfl⟩ (by rw [hRM]; exact ⟨Nat.le_of_ble_eq_true rfl, Nat.le_of_ble_eq_true rfl⟩) (by rw [hRM]; exact ⟨Nat.le_of_ble_eq_true rfl, Nat.le_of_ble_eq_true rfl⟩) (Nat.le_of_ble_eq_true rfl) (by decide +kernel) rfl dX0_usePrime_14 ?_
  rintro _ _ ⟨rfl, rfl⟩
  generalize hst : g ^ ((p - 1) / 512) % p = st
  have hsl : st < p := by rw [← hst]; exact Nat.mod_lt _ (by omega)
  have loop : ∀ (d i : Nat), 512 = i + d → gW M D vwCl (ixA N ad sz) 10 0 0 (MQ (gb M) (va_Qv (fun ct1 => ct1 = va_up (va_up ct 0 (obX p ad)) 1 (LN cJ 512 (fun k => st ^ k % p))) (gB D vwCl tys N ad (ixA N ad sz)) (ixA N ad sz)) (ga M) (gs M) 0 0 (ixA N ad sz)) N ad 25 [(0, some (.ref (ad 0))), (1, some (.long (lN p))), (5, some (.long (lN st))), (7, some (.long (lN (st ^ i % p)))), (9, some (.int (nI i)))] [] (va_up (va_up ct 0 (obX p ad)) 1 (LN cJ 512 (fun k => if k < i then st ^ k % p else w0 k))) := by
    intro d
    induction d with
    | zero =>
      intro i hd
      have hi : i = 512 := by omega
      subst hi
      refine g_iload C dX0_usePrime_25 (k := ?_)
      refine g_sipush C (nI 512) dX0_usePrime_27 (k := ?_)
      refine g_icN_ge (tgt := 57) C (by decide) (by decide) dX0_usePrime_30 (by decide) (fun _ => ?_) (fun h => absurd h (by decide))
      refine g_ext 1 (va_up_self _ _ _) (g := fun k => lN (st ^ k % p)) (fun k hk => by show lN (if k < 512 then st ^ k % p else w0 k) = _; rw [if_pos hk]) ?_
      refine g_vret C hr ?_ dX0_usePrime_57
      rw [bx_uu]
    | succ d ih =>
      intro i hd
      have hml : st ^ i % p < p := Nat.mod_lt _ (by omega)
      have hmul : st ^ i % p * st < 2 ^ 62 := Nat.lt_of_lt_of_le (Nat.mul_lt_mul'' (Nat.lt_trans hml hp2) (Nat.lt_trans hsl hp2)) (by decide)
      refine g_iload C dX0_usePrime_25 (k := ?_)
      refine g_sipush C (nI 512) dX0_usePrime_27 (k := ?_)
      refine g_icN_ge (tgt := 57) C (by omega) (by decide) dX0_usePrime_30 (by decide) (fun h => absurd h (by omega)) (fun _ => ?_)
      refine g_aload_n C dX0_usePrime_33 (k := ?_)
      refine g_getf (Cn := RX0) (T := TX0) (n := 8) (ref := "WheelProducts") C 0 1 h0 (by rw [va_up_ne _ _ (by decide), va_up_self]) rfl (by decide +kernel) (by decide) (by decide +kernel) (fun _ h => h) rfl dX0_usePrime_34 ?_
      refine g_iload C dX0_usePrime_37 (k := ?_)
      refine g_lload C dX0_usePrime_39 (k := ?_)
      refine gN_last C 1 h1 (va_up_self _ _ _) ht (by omega) (by decide) dX0_usePrime_41 ?_
      rw [bx_uu]
      refine g_lload C dX0_usePrime_42 (k := ?_)
      refine g_lload C dX0_usePrime_44 (k := ?_)
      refine gN_lmul C dX0_usePrime_46 ?_
      refine g_lload_n C dX0_usePrime_47 (k := ?_)
      refine gN_lrem C (by omega) (by omega) (by omega) dX0_usePrime_48 ?_
      rw [show st ^ i % p * st % p = st ^ (i + 1) % p by rw [Nat.pow_succ, Nat.mod_mul_mod]]
      refine g_lstore C dX0_usePrime_49 (k := ?_)
      refine gN_inc C dX0_usePrime_51 (k := ?_)
      refine g_goto (tgt := 25) C dX0_usePrime_54 (k := ?_)
      have e : nu (fun k => if k < i then st ^ k % p else w0 k) i (st ^ i % p) = fun k => if k < i + 1 then st ^ k % p else w0 k := by
        funext k
        unfold nu
        by_cases h1 : k = i
        · subst h1; rw [if_pos rfl, if_pos (by omega)]
        · rw [if_neg h1]
          show (if k < i then st ^ k % p else w0 k) = _
          by_cases h2 : k < i
          · rw [if_pos h2, if_pos (by omega)]
          · rw [if_neg h2, if_neg (by omega)]
      rw [e]
      exact g_l2 (ih (i + 1) (by omega)) ⟨Or.inr rfl, Or.inr rfl, Or.inr rfl, Or.inr rfl, Or.inr rfl, trivial⟩
  refine g_lstore C dX0_usePrime_17 (k := ?_)
  refine g_lconst C (lN 1) dX0_usePrime_19 (k := ?_)
  refine g_lstore C dX0_usePrime_20 (k := ?_)
  refine g_iconst C (nI 0) dX0_usePrime_22 (k := ?_)
  refine g_istore C dX0_usePrime_23 (k := ?_)
  refine g_ct (ct' := va_up (va_up ct 0 (obX p ad)) 1 (LN cJ 512 (fun k => if k < 0 then st ^ k % p else w0 k))) ?_ ?_
  · have : (fun k => if k < 0 then st ^ k % p else w0 k) = w0 := funext fun k => if_neg (by omega)
    rw [this]
    exact (up_id (q := 1) (by rw [va_up_ne _ _ (by decide)]; exact ew)).symm
  · refine g_l2 (loop 512 0 (by omega)) ⟨Or.inr rfl, Or.inr rfl, Or.inr rfl, Or.inr ?_, Or.inr rfl, trivial⟩
    rw [Nat.pow_zero, Nat.mod_eq_of_lt hp]; rfl
end
section
/-! ===== methods that may throw, over the indexed world ===== -/
abbrev xIA : String := "java/lang/IllegalArgumentException"
abbrev xIO : String := "java/lang/IndexOutOfBoundsException"
abbrev xUO : String := "java/lang/UnsupportedOperationException"
abbrev xNM : List String := ["java/lang/RuntimeException", "java/lang/Exception"]
def gBad : List Cond := [.castable xIA xIA, .castable xIO xIO, .castable xUO xUO, .declares ⟨"java/lang/RuntimeException", "<init>", "(Ljava/lang/String;)V"⟩, .declares ⟨"java/lang/Exception", "<init>", "(Ljava/lang/String;)V"⟩, .declares ⟨"java/lang/Throwable", "<init>", "(Ljava/lang/String;)V"⟩]
def gStr : List (Nat × String) := [(49, "not below 2 to the 31, or 512 does not divide p - 1"), (60, "not a prime"), (75, "the power is below 0"), (81, "0 has no inverse"), (148, "no such row"), (151, "no such coefficient"), (157, "n is none of 1, 2, 4, .. 512"), (109, "the product has more than 512 coefficients"), (153, "no such natural"), (155, "no such word"), (128, "the sizes of both together are above 240"), (144, "the sum has more than 240 words")]
theorem gBad_on : ∀ w ∈ gBad, w.onTables = true := by decide +kernel
theorem gBad_warm {s U : State} (hW : s.WarmedH U.vm) (h : ∀ w ∈ gBad, va_Nw w s) : ∀ w ∈ gBad, va_Nw w U := by
  intro w hw
  have h1 := h w hw
  simp only [gBad, List.mem_cons, List.not_mem_nil, or_false] at hw
  rcases hw with rfl | rfl | rfl | rfl | rfl | rfl
  · exact va_Nw.warmC hW h1
  · exact va_Nw.warmC hW h1
  · exact va_Nw.warmC hW h1
  · exact va_Nw.warmD hW h1
  · exact va_Nw.warmD hW h1
  · exact va_Nw.warmD hW h1
/-- what a throw needs of the machine: two statics of Throwable outside of A, words, texts -/
def gT (A : Nat → Prop) (U : State) (H : Heap) : Prop := vx_Zq Bundle.tN "UNASSIGNED_STACK" Bundle.steD A U H ∧ vx_Zq Bundle.tN "SUPPRESSED_SENTINEL" Bundle.listD A U H ∧ (∀ w ∈ gBad, va_Nw w U) ∧ ∀ q ∈ gStr, ∃ sa, vk_R RX0 q.1 q.2 sa U
theorem gT_warm {A B : Nat → Prop} {s U : State} {H H1 : Heap} (hW : s.WarmedH U.vm) (hk : ∀ q : Nat, q < H.size → ¬ A q → H1[q]? = H[q]?) (hAB : ∀ q, B q → A q) (h : gT A s H) : gT B U H1 :=
  ⟨vx_Zq.narrow (vx_Zq.moved hW.alike (vx_Zq.kept h.1 hk)) hAB, vx_Zq.narrow (vx_Zq.moved hW.alike (vx_Zq.kept h.2.1 hk)) hAB, gBad_warm hW h.2.2.1, fun q hq => by obtain ⟨sa, hsa⟩ := h.2.2.2 q hq; exact ⟨sa, vk_R.warm hW hsa⟩⟩
def gPT (D : va_G) (cl : List vw_C) (tys : List (ClassId × FieldType)) (N : Nat) (ad : Nat → Nat) (ct : Nat → va_E) (sz : Nat) (U : State) : Prop := gP D cl tys N ad ct sz U ∧ gT (ixA N ad sz) U U.heap
theorem gPT_bl {D : va_G} {cl : List vw_C} {tys : List (ClassId × FieldType)} {N : Nat} {ad : Nat → Nat} {ct : Nat → va_E} {sz : Nat} {av : List Value} : FrameBlind (va_Pc av (gPT D cl tys N ad ct sz)) := fun a U g mk q => by
  obtain ⟨q0, ⟨q1, qP, qK, qD⟩, t1, t2, t3, t4⟩ := q
  have hal : U.vm.Alike (U.calling g mk a).vm := Vm.Alike.refl U.vm
  exact ⟨q0, ⟨q1, qP, va_K.moved (u := U) (U := U.calling g mk a) hal qK, qD⟩, vx_Zq.moved (u := U) (U := U.calling g mk a) hal t1, vx_Zq.moved (u := U) (U := U.calling g mk a) hal t2, fun w hw => va_Nw.same (gBad_on w hw) (u := U) (U := U.calling g mk a) rfl (t3 w hw), fun x hx => by obtain ⟨sa, hsa⟩ := t4 x hx; exact ⟨sa, vk_R.same (u := U) (U := U.calling g mk a) rfl hsa⟩⟩
/-- a throw's end: the class, the world as it is then -/
abbrev gXC (D : va_G) (cl : List vw_C) (tys : List (ClassId × FieldType)) (N : Nat) (ad : Nat → Nat) (A : Nat → Prop) (xp : String → (Nat → va_E) → Prop) : String → State → State → Prop := vx_X (fun _ : Nat → va_E => True) (fun E ct1 t => xp E ct1 ∧ gB D cl tys N ad A ct1 t) A
def gTl (l : Launch) (y : MethodName) (ws : List Cond) (rm : Room) (mc ms : Nat) (D : va_G) (cl : List vw_C) (tys : List (ClassId × FieldType)) (N : Nat) (ad : Nat → Nat) (av : List Value) (ct : Nat → va_E) (post : Int64 → (Nat → va_E) → Prop) (xp : String → (Nat → va_E) → Prop) : Prop := ∀ sz, vx_Met l y ws rm (va_Pc av (gPT D cl tys N ad ct sz)) (va_Ql post (gB D cl tys N ad (ixA N ad sz)) (ixA N ad sz)) (gXC D cl tys N ad (ixA N ad sz) xp) mc ms (ixA N ad sz)
def gTi (l : Launch) (y : MethodName) (ws : List Cond) (rm : Room) (mc ms : Nat) (D : va_G) (cl : List vw_C) (tys : List (ClassId × FieldType)) (N : Nat) (ad : Nat → Nat) (av : List Value) (ct : Nat → va_E) (post : Int32 → (Nat → va_E) → Prop) (xp : String → (Nat → va_E) → Prop) : Prop := ∀ sz, vx_Met l y ws rm (va_Pc av (gPT D cl tys N ad ct sz)) (va_Qi post (gB D cl tys N ad (ixA N ad sz)) (ixA N ad sz)) (gXC D cl tys N ad (ixA N ad sz) xp) mc ms (ixA N ad sz)
def gTv (l : Launch) (y : MethodName) (ws : List Cond) (rm : Room) (mc ms : Nat) (D : va_G) (cl : List vw_C) (tys : List (ClassId × FieldType)) (N : Nat) (ad : Nat → Nat) (av : List Value) (ct : Nat → va_E) (post : (Nat → va_E) → Prop) (xp : String → (Nat → va_E) → Prop) : Prop := ∀ sz, vx_Met l y ws rm (va_Pc av (gPT D cl tys N ad ct sz)) (va_Qv post (gB D cl tys N ad (ixA N ad sz)) (ixA N ad sz)) (gXC D cl tys N ad (ixA N ad sz) xp) mc ms (ixA N ad sz)
section
variable {M : gM} {cc : ByteArray} {own : String} {Ts : List Cond} {tys : List (ClassId × FieldType)} {D : va_G} {cl : List vw_C} {nL cells slots mc ms : Nat} {N : Nat} {ad : Nat → Nat} {pc : Nat} {lv : gLv} {rest : List Value} {ct : Nat → va_E} {sz : Nat} {Qc : Array Value → State → Outcome → State → Prop} {xp : String → (Nat → va_E) → Prop}
theorem g_throwS (C : gX M cc own Ts tys D cl (ixA N ad sz) nL) (hT : gT (ixA N ad sz) (gs M) (gs M).heap) (hl : (gl M).stackTraces = false) (hE : ∀ x ∈ (gc M).exceptionTable.toList, False) {E text : String} {ik is ic : Nat} (ho : own = RX0) (hst : (is, text) ∈ gStr) (hfit : Bundle.fit E = true)
    (hk : Cond.classLink own ik E ∈ Ts) (hini : Cond.initialized E ∈ Ts) (hin : ∀ w ∈ (vx_atS own ic E xNM).filter goodWord, w ∈ Ts) (hbad : ∀ w ∈ (vx_atS own ic E xNM).filter (fun w => !goodWord w), w ∈ gBad) (hgood : ∀ w ∈ Cond.classLink own ik E :: Cond.initialized E :: vx_atS own ic E xNM, vx_ot w = true)
    (d0 : decode cc pc = .ok (.new ik, 3)) (d3 : decode cc (pc + 3) = .ok (.dup, 1)) (d4 : decode cc (pc + 4) = .ok (.ldc is, 2)) (d6 : decode cc (pc + 6) = .ok (.invokespecial ic, 3)) (d9 : decode cc (pc + 9) = .ok (.athrow, 1))
    (hRf : 5 < (gR M).frames) (hRl : (rest.map fun v => v.category).sum + 82 ≤ (gR M).locals) (hRc : cells + 1 ≤ (gR M).cells) (hRs : slots + 6 ≤ (gR M).slots) (hc : cells + 1 ≤ mc) (hs : slots + 6 ≤ ms) (hx : xp E ct) :
    gW M D cl (ixA N ad sz) nL cells slots (vx_MQ (gb M) Qc (gXC D cl tys N ad (ixA N ad sz) xp) (ga M) (gs M) mc ms (ixA N ad sz)) N ad pc lv rest ct := by
  intro H locs ls hP hD hS hlv
  obtain ⟨sa, hsa⟩ := hT.2.2.2 _ hst
  have hts := C.2.2.2.2.1
  refine vx_throwS (own := own) (cls := E) (text := text) (names := xNM) (sa := sa) C.1 C.2.1 hl C.2.2.2.1 hfit (by decide +kernel) (hts _ hk) (hts _ hini) (by rw [ho]; exact hsa)
    (vx_hat (B := gBad) (fun w hw => hts w (hin w hw)) hbad (fun w hw => va_Nw.use (gBad_on w hw) (hT.2.2.1 w hw))) hgood hT.1 hT.2.1 hS (hlv.1.trans C.2.2.1.symm) d0 d3 d4 d6 d9 (fun x hx => (hE x hx).elim) hRf hRl hRc hRs C.2.2.2.2.2.2.2 (fun t ha hsz hk2 => ?_) hS.2.2 hc hs
  exact ⟨ct, trivial, ⟨hx, hP.kept (fun k q hq => hk2 q.1 (hP k q hq).lt), va_K.moved ha C.2.2.2.2.2.1, hD⟩, Nat.le_trans hS.1 hsz, fun q h1 h2 => (hk2 q (Nat.lt_of_lt_of_le h1 hS.1)).trans (hS.2.1 q h1 h2)⟩
theorem gT_lret {post : Int64 → (Nat → va_E) → Prop} {v : Int64} (C : gX M cc own Ts tys D cl (ixA N ad sz) nL) (hr : (gt M).sig.returnType = some .long) (hc : cells ≤ mc) (hs : slots ≤ ms) (hp : post v ct) (d : decode cc pc = .ok (.lreturn, 1)) :
    gW M D cl (ixA N ad sz) nL cells slots (vx_MQ (gb M) (va_Ql post (gB D cl tys N ad (ixA N ad sz)) (ixA N ad sz)) (gXC D cl tys N ad (ixA N ad sz) xp) (ga M) (gs M) mc ms (ixA N ad sz)) N ad pc lv [.long v] ct := by
  intro H locs ls hP hD hS hl
  exact W.widen hc hs (vx_ret (W.lret (v := v) C.1 C.2.1 hr (fun t ht hW => ⟨⟨v, ct, rfl, hp, by rw [ht]; exact hP, va_K.moved hW.alike C.2.2.2.2.2.1, hD⟩, hS.F ht⟩) hS.2.2 d (hlocks := C.2.2.2.2.2.2.2)))
theorem gT_iret {post : Int32 → (Nat → va_E) → Prop} {v : Int32} (C : gX M cc own Ts tys D cl (ixA N ad sz) nL) (hr : (gt M).sig.returnType = some .int) (hc : cells ≤ mc) (hs : slots ≤ ms) (hp : post v ct) (d : decode cc pc = .ok (.ireturn, 1)) :
    gW M D cl (ixA N ad sz) nL cells slots (vx_MQ (gb M) (va_Qi post (gB D cl tys N ad (ixA N ad sz)) (ixA N ad sz)) (gXC D cl tys N ad (ixA N ad sz) xp) (ga M) (gs M) mc ms (ixA N ad sz)) N ad pc lv [.int v] ct := by
  intro H locs ls hP hD hS hl
  exact W.widen hc hs (vx_ret (W.iret (v := v) C.1 C.2.1 hr (fun t ht hW => ⟨⟨v, ct, rfl, hp, by rw [ht]; exact hP, va_K.moved hW.alike C.2.2.2.2.2.1, hD⟩, hS.F ht⟩) hS.2.2 d (hlocks := C.2.2.2.2.2.2.2)))
theorem gT_zret {post : Int32 → (Nat → va_E) → Prop} {v : Int32} (C : gX M cc own Ts tys D cl (ixA N ad sz) nL) (hr : (gt M).sig.returnType = some .boolean) (hn : narrow .boolean (.int v) = .int v) (hc : cells ≤ mc) (hs : slots ≤ ms) (hp : post v ct) (d : decode cc pc = .ok (.ireturn, 1)) :
    gW M D cl (ixA N ad sz) nL cells slots (vx_MQ (gb M) (va_Qi post (gB D cl tys N ad (ixA N ad sz)) (ixA N ad sz)) (gXC D cl tys N ad (ixA N ad sz) xp) (ga M) (gs M) mc ms (ixA N ad sz)) N ad pc lv [.int v] ct := by
  intro H locs ls hP hD hS hl
  exact W.widen hc hs (vx_ret (W.zret (v := v) C.1 C.2.1 hr hn (fun t ht hW => ⟨⟨v, ct, rfl, hp, by rw [ht]; exact hP, va_K.moved hW.alike C.2.2.2.2.2.1, hD⟩, hS.F ht⟩) hS.2.2 d (hlocks := C.2.2.2.2.2.2.2)))
theorem gT_vret {post : (Nat → va_E) → Prop} (C : gX M cc own Ts tys D cl (ixA N ad sz) nL) (hr : (gt M).sig.returnType = none) (hc : cells ≤ mc) (hs : slots ≤ ms) (hp : post ct) (d : decode cc pc = .ok (.return_, 1)) :
    gW M D cl (ixA N ad sz) nL cells slots (vx_MQ (gb M) (va_Qv post (gB D cl tys N ad (ixA N ad sz)) (ixA N ad sz)) (gXC D cl tys N ad (ixA N ad sz) xp) (ga M) (gs M) mc ms (ixA N ad sz)) N ad pc lv [] ct := by
  intro H locs ls hP hD hS hl
  exact W.widen hc hs (vx_ret (W.vret C.1 C.2.1 hr (fun t ht hW => ⟨⟨ct, rfl, hp, by rw [ht]; exact hP, va_K.moved hW.alike C.2.2.2.2.2.1, hD⟩, hS.F ht⟩) hS.2.2 d (hlocks := C.2.2.2.2.2.2.2)))
/-- a static call that may throw, not caught here: void -/
theorem gT_cSv (C : gX M cc own Ts tys D cl (ixA N ad sz) nL) (hT : gT (ixA N ad sz) (gs M) (gs M).heap) (hE : ∀ x ∈ (gc M).exceptionTable.toList, False) {y : MethodName} {wsy wsy' : List Cond} {rmy : Room} {mcy msy : Nat} {bytes : ByteArray} {maxL index n : Nat} {ret : Option FieldType} {av : List Value} {post : (Nat → va_E) → Prop} {xpy : String → (Nat → va_E) → Prop}
    (hM : gTv (gl M) y wsy rmy mcy msy D cl tys N ad av ct post xpy) (hG : GoodIn Ts (va_wsS own index y wsy)) (hw : wsy = Cond.code y bytes maxL ret :: wsy') (hrc : rmy.cells = mcy ∧ rmy.slots = msy) (hR : rmy.frames + 1 ≤ (gR M).frames ∧ 8 + (maxL + 11) + rmy.locals ≤ (gR M).locals) (hroom : cells + mcy ≤ (gR M).cells ∧ slots + msy ≤ (gR M).slots) (hst : (rest.map fun v => v.category).sum ≤ 8) (hd : y.cls ≠ "java/lang/invoke/MethodHandle" ∧ y.cls ≠ "java/lang/invoke/VarHandle" ∧ (parseMethodDescriptor y.desc).map (fun d => d.parameters.length) = some n) (hn : av.length = n) (d : decode cc pc = .ok (.invokestatic index, 3))
    (hc : cells + mcy ≤ mc) (hs : slots + msy ≤ ms) (hx : ∀ E ct1, xpy E ct1 → xp E ct1)
    (k : ∀ ct1 : Nat → va_E, post ct1 → gW M D cl (ixA N ad sz) nL (cells + mcy) (slots + msy) (vx_MQ (gb M) Qc (gXC D cl tys N ad (ixA N ad sz) xp) (ga M) (gs M) mc ms (ixA N ad sz)) N ad (pc + 3) lv rest ct1) :
    gW M D cl (ixA N ad sz) nL cells slots (vx_MQ (gb M) Qc (gXC D cl tys N ad (ixA N ad sz) xp) (ga M) (gs M) mc ms (ixA N ad sz)) N ad pc lv (av.reverse ++ rest) ct := by
  intro H locs ls hP hD hS hl
  have hup := ixA_up hD hS C.2.2.2.2.2.2.1
  refine vx_callv (vx_runS (As := av) (rest := rest) ⟨C.1, C.2.1, C.2.2.1, C.2.2.2.1, C.2.2.2.2.1⟩ (hM H.size) (va_cwS n C.2.2.2.2.1 hG hw hrc.1 hrc.2 hd hR) ⟨gPT_bl, fun U hU hW => ⟨rfl, ⟨by rw [hU], by rw [hU]; exact hP, va_K.moved hW.alike C.2.2.2.2.2.1, hD.weaken (fun _ _ _ _ => trivial)⟩, by rw [hU]; exact gT_warm hW hS.2.1 hup hT⟩⟩ rfl hn hl.1 rfl (lv_room hst) d hroom) hS (fun q _ h => hup q h) hup (fun q _ h => hup q h)
    (fun E ce q9 u t H1 locs1 ht hvm _ hB hz1 hk1 hS1 hce hcv hcl => ?_) (fun u t H1 locs1 ht hvm hw2 hB hz1 hk1 hS1 => ?_)
  · obtain ⟨hxp, hP1, hK1, hD1⟩ := hB
    rw [ht] at hP1
    exact vx_out (fun x hx => (hE x hx).elim) C.2.2.2.2.2.2.2 hce hcv hcl (fun t2 ht2 hal => ⟨u, trivial, ⟨hx E u hxp, by rw [ht2]; exact hP1, va_K.moved hal C.2.2.2.2.2.1, ix_D hD⟩, hS1.F ht2⟩) hS1.2.2 hc hs
  · obtain ⟨hP1, hK1, hD1⟩ := hB
    rw [ht] at hP1
    exact k u hw2 H1 locs1 ls hP1 (ix_D hD) hS1 hl
end
end
section
theorem gofT_v {l : Launch} {y : MethodName} {ws ws' : List Cond} {rm : Room} {mc ms : Nat} {cc : ByteArray} {maxL : Nat} {D : va_G} {cl : List vw_C} {tys : List (ClassId × FieldType)} {N : Nat} {ad : Nat → Nat} {av : List Value} {ct : Nat → va_E} {post : (Nat → va_E) → Prop} {xp : String → (Nat → va_E) → Prop} (hy : plainName y.cls = true) (hw : ws = Cond.code y cc maxL none :: ws') (hlen : (lg_sl av).length ≤ maxL)
    (body : ∀ (M : gM) (sz : Nat), gX M cc y.cls ws tys D cl (ixA N ad sz) maxL → gl M = l → gR M = (headSpec ws rm).room → (gt M).sig.returnType = none → gT (ixA N ad sz) (gs M) (gs M).heap → (∀ x ∈ (gc M).exceptionTable.toList, False) → gW M D cl (ixA N ad sz) maxL 0 0 (vx_MQ (gb M) (va_Qv post (gB D cl tys N ad (ixA N ad sz)) (ixA N ad sz)) (gXC D cl tys N ad (ixA N ad sz) xp) (ga M) (gs M) mc ms (ixA N ad sz)) N ad 0 (lva 0 av) [] ct) : gTv l y ws rm mc ms D cl tys N ad av ct post xp := by
  intro sz
  refine vx_ofW (cc := cc) (maxL := maxL) (ret := none) hy hw ?_
  intro p e s m args below meth c s₁ B hml hE hv
  obtain ⟨rfl, ⟨hsz, hP, hK, hD0⟩, hT⟩ := hv
  have hts := atoms_spec (ws := ws) B.pre
  have hown : s.vm.findClass y.cls = some m.cls := findClass_of_methodNamed B.named
  have hl := lv_entry av (n := maxL) hlen
  rw [lg_entry_eq]
  generalize (lg_sl av ++ List.replicate (maxL - (lg_sl av).length) Slot.unset).toArray = ls at hl ⊢
  exact body (p, l, e, (headSpec ws rm).room, s, m, av.toArray, below, meth, c) sz ⟨B.exec, B.bytes, hml, hown, hts, hK, fun q h => Or.inr (by rw [← hsz]; exact h), B.notSynchronized⟩ rfl rfl B.returns hT hE s.heap [] ls hP (ixA_D hD0) va_S.rf (lva_h hl)
theorem gofT_l {l : Launch} {y : MethodName} {ws ws' : List Cond} {rm : Room} {mc ms : Nat} {cc : ByteArray} {maxL : Nat} {D : va_G} {cl : List vw_C} {tys : List (ClassId × FieldType)} {N : Nat} {ad : Nat → Nat} {av : List Value} {ct : Nat → va_E} {post : Int64 → (Nat → va_E) → Prop} {xp : String → (Nat → va_E) → Prop} (hy : plainName y.cls = true) (hw : ws = Cond.code y cc maxL (some .long) :: ws') (hlen : (lg_sl av).length ≤ maxL)
    (body : ∀ (M : gM) (sz : Nat), gX M cc y.cls ws tys D cl (ixA N ad sz) maxL → gl M = l → gR M = (headSpec ws rm).room → (gt M).sig.returnType = (some .long) → gT (ixA N ad sz) (gs M) (gs M).heap → (∀ x ∈ (gc M).exceptionTable.toList, False) → gW M D cl (ixA N ad sz) maxL 0 0 (vx_MQ (gb M) (va_Ql post (gB D cl tys N ad (ixA N ad sz)) (ixA N ad sz)) (gXC D cl tys N ad (ixA N ad sz) xp) (ga M) (gs M) mc ms (ixA N ad sz)) N ad 0 (lva 0 av) [] ct) : gTl l y ws rm mc ms D cl tys N ad av ct post xp := by
  intro sz
  refine vx_ofW (cc := cc) (maxL := maxL) (ret := (some .long)) hy hw ?_
  intro p e s m args below meth c s₁ B hml hE hv
  obtain ⟨rfl, ⟨hsz, hP, hK, hD0⟩, hT⟩ := hv
  have hts := atoms_spec (ws := ws) B.pre
  have hown : s.vm.findClass y.cls = some m.cls := findClass_of_methodNamed B.named
  have hl := lv_entry av (n := maxL) hlen
  rw [lg_entry_eq]
  generalize (lg_sl av ++ List.replicate (maxL - (lg_sl av).length) Slot.unset).toArray = ls at hl ⊢
  exact body (p, l, e, (headSpec ws rm).room, s, m, av.toArray, below, meth, c) sz ⟨B.exec, B.bytes, hml, hown, hts, hK, fun q h => Or.inr (by rw [← hsz]; exact h), B.notSynchronized⟩ rfl rfl B.returns hT hE s.heap [] ls hP (ixA_D hD0) va_S.rf (lva_h hl)
theorem gofT_i {l : Launch} {y : MethodName} {ws ws' : List Cond} {rm : Room} {mc ms : Nat} {cc : ByteArray} {maxL : Nat} {D : va_G} {cl : List vw_C} {tys : List (ClassId × FieldType)} {N : Nat} {ad : Nat → Nat} {av : List Value} {ct : Nat → va_E} {post : Int32 → (Nat → va_E) → Prop} {xp : String → (Nat → va_E) → Prop} (hy : plainName y.cls = true) (hw : ws = Cond.code y cc maxL (some .int) :: ws') (hlen : (lg_sl av).length ≤ maxL)
    (body : ∀ (M : gM) (sz : Nat), gX M cc y.cls ws tys D cl (ixA N ad sz) maxL → gl M = l → gR M = (headSpec ws rm).room → (gt M).sig.returnType = (some .int) → gT (ixA N ad sz) (gs M) (gs M).heap → (∀ x ∈ (gc M).exceptionTable.toList, False) → gW M D cl (ixA N ad sz) maxL 0 0 (vx_MQ (gb M) (va_Qi post (gB D cl tys N ad (ixA N ad sz)) (ixA N ad sz)) (gXC D cl tys N ad (ixA N ad sz) xp) (ga M) (gs M) mc ms (ixA N ad sz)) N ad 0 (lva 0 av) [] ct) : gTi l y ws rm mc ms D cl tys N ad av ct post xp := by
  intro sz
  refine vx_ofW (cc := cc) (maxL := maxL) (ret := (some .int)) hy hw ?_
  intro p e s m args below meth c s₁ B hml hE hv
  obtain ⟨rfl, ⟨hsz, hP, hK, hD0⟩, hT⟩ := hv
  have hts := atoms_spec (ws := ws) B.pre
  have hown : s.vm.findClass y.cls = some m.cls := findClass_of_methodNamed B.named
  have hl := lv_entry av (n := maxL) hlen
  rw [lg_entry_eq]
  generalize (lg_sl av ++ List.replicate (maxL - (lg_sl av).length) Slot.unset).toArray = ls at hl ⊢
  exact body (p, l, e, (headSpec ws rm).room, s, m, av.toArray, below, meth, c) sz ⟨B.exec, B.bytes, hml, hown, hts, hK, fun q h => Or.inr (by rw [← hsz]; exact h), B.notSynchronized⟩ rfl rfl B.returns hT hE s.heap [] ls hP (ixA_D hD0) va_S.rf (lva_h hl)
theorem gofT_z {l : Launch} {y : MethodName} {ws ws' : List Cond} {rm : Room} {mc ms : Nat} {cc : ByteArray} {maxL : Nat} {D : va_G} {cl : List vw_C} {tys : List (ClassId × FieldType)} {N : Nat} {ad : Nat → Nat} {av : List Value} {ct : Nat → va_E} {post : Int32 → (Nat → va_E) → Prop} {xp : String → (Nat → va_E) → Prop} (hy : plainName y.cls = true) (hw : ws = Cond.code y cc maxL (some .boolean) :: ws') (hlen : (lg_sl av).length ≤ maxL)
    (body : ∀ (M : gM) (sz : Nat), gX M cc y.cls ws tys D cl (ixA N ad sz) maxL → gl M = l → gR M = (headSpec ws rm).room → (gt M).sig.returnType = (some .boolean) → gT (ixA N ad sz) (gs M) (gs M).heap → (∀ x ∈ (gc M).exceptionTable.toList, False) → gW M D cl (ixA N ad sz) maxL 0 0 (vx_MQ (gb M) (va_Qi post (gB D cl tys N ad (ixA N ad sz)) (ixA N ad sz)) (gXC D cl tys N ad (ixA N ad sz) xp) (ga M) (gs M) mc ms (ixA N ad sz)) N ad 0 (lva 0 av) [] ct) : gTi l y ws rm mc ms D cl tys N ad av ct post xp := by
  intro sz
  refine vx_ofW (cc := cc) (maxL := maxL) (ret := (some .boolean)) hy hw ?_
  intro p e s m args below meth c s₁ B hml hE hv
  obtain ⟨rfl, ⟨hsz, hP, hK, hD0⟩, hT⟩ := hv
  have hts := atoms_spec (ws := ws) B.pre
  have hown : s.vm.findClass y.cls = some m.cls := findClass_of_methodNamed B.named
  have hl := lv_entry av (n := maxL) hlen
  rw [lg_entry_eq]
  generalize (lg_sl av ++ List.replicate (maxL - (lg_sl av).length) Slot.unset).toArray = ls at hl ⊢
  exact body (p, l, e, (headSpec ws rm).room, s, m, av.toArray, below, meth, c) sz ⟨B.exec, B.bytes, hml, hown, hts, hK, fun q h => Or.inr (by rw [← hsz]; exact h), B.notSynchronized⟩ rfl rfl B.returns hT hE s.heap [] ls hP (ixA_D hD0) va_S.rf (lva_h hl)
/-- an int below n -/
abbrev ir (x : Int32) (n : Nat) : Prop := ∃ k, k < n ∧ x = nI k
theorem ir_no {x : Int32} {n : Nat} (hn : n < 2 ^ 31) (h : x < 0 ∨ nI n ≤ x) : ¬ ir x n := by
  rintro ⟨k, hk, rfl⟩
  rcases h with h | h
  · exact nI_pos (by omega) h
  · exact nI_ge hk hn h
abbrev rck : Room := { frames := 6, cells := 1, slots := 6, locals := 82 }

set_option maxRecDepth 100000 in
set_option maxHeartbeats 4000000 in
theorem c_checkRow {l : Launch} (hl : l.stackTraces = false) {D : va_G} {tys : List (ClassId × FieldType)} {N : Nat} {ad : Nat → Nat} {ct : Nat → va_E} {cl : List vw_C} (x : Int32) :
    gTv l yX0_checkRow wsX0_checkRow rck 1 6 D cl tys N ad [.int x] ct (fun ct1 => ct1 = ct ∧ ir x 6) (fun E ct1 => E = xIO ∧ ct1 = ct ∧ ¬ ir x 6) := by
  refine gofT_v (cc := cX0_checkRow) (maxL := 1) (by decide) rfl (Nat.le_of_ble_eq_true rfl) ?_
  intro M sz C hlM hRM hr hT hE
  refine g_iload_n C dX0_checkRow_0 (k := ?_)
  rcases pk_ix x (n := 6) (by decide) with h | h | ⟨k, hk, rfl⟩
  · refine g_if_lt (tgt := 10) C dX0_checkRow_1 (by decide) (fun _ => ?_) (fun h2 => absurd h h2)
    exact g_throwS (E := xIO) (text := "no such row") C hT (by rw [hlM]; exact hl) hE rfl (by decide +kernel) (by decide +kernel) (by decide +kernel) (by decide +kernel) (by decide +kernel) (by decide +kernel) (by decide +kernel) dX0_checkRow_10 dX0_checkRow_13 dX0_checkRow_14 dX0_checkRow_16 dX0_checkRow_19 (by rw [hRM]; exact (Nat.le_of_ble_eq_true rfl)) (by rw [hRM]; exact (Nat.le_of_ble_eq_true rfl)) (by rw [hRM]; exact (Nat.le_of_ble_eq_true rfl)) (by rw [hRM]; exact (Nat.le_of_ble_eq_true rfl)) (Nat.le_of_ble_eq_true rfl) (Nat.le_of_ble_eq_true rfl) ⟨rfl, rfl, ir_no (by decide) (Or.inl h)⟩
  · refine g_if_lt (tgt := 10) C dX0_checkRow_1 (by decide) (fun h2 => ?_) (fun _ => ?_)
    · exact g_throwS (E := xIO) (text := "no such row") C hT (by rw [hlM]; exact hl) hE rfl (by decide +kernel) (by decide +kernel) (by decide +kernel) (by decide +kernel) (by decide +kernel) (by decide +kernel) (by decide +kernel) dX0_checkRow_10 dX0_checkRow_13 dX0_checkRow_14 dX0_checkRow_16 dX0_checkRow_19 (by rw [hRM]; exact (Nat.le_of_ble_eq_true rfl)) (by rw [hRM]; exact (Nat.le_of_ble_eq_true rfl)) (by rw [hRM]; exact (Nat.le_of_ble_eq_true rfl)) (by rw [hRM]; exact (Nat.le_of_ble_eq_true rfl)) (Nat.le_of_ble_eq_true rfl) (Nat.le_of_ble_eq_true rfl) ⟨rfl, rfl, ir_no (by decide) (Or.inl h2)⟩
    · refine g_iload_n C dX0_checkRow_4 (k := ?_)
      refine g_bipush C (nI 6) dX0_checkRow_5 (k := ?_)
      refine g_ic_lt (tgt := 20) C dX0_checkRow_7 (by decide) (fun h2 => absurd h2 (by rw [Int32.not_lt]; exact h)) (fun _ => ?_)
      exact g_throwS (E := xIO) (text := "no such row") C hT (by rw [hlM]; exact hl) hE rfl (by decide +kernel) (by decide +kernel) (by decide +kernel) (by decide +kernel) (by decide +kernel) (by decide +kernel) (by decide +kernel) dX0_checkRow_10 dX0_checkRow_13 dX0_checkRow_14 dX0_checkRow_16 dX0_checkRow_19 (by rw [hRM]; exact (Nat.le_of_ble_eq_true rfl)) (by rw [hRM]; exact (Nat.le_of_ble_eq_true rfl)) (by rw [hRM]; exact (Nat.le_of_ble_eq_true rfl)) (by rw [hRM]; exact (Nat.le_of_ble_eq_true rfl)) (Nat.le_of_ble_eq_true rfl) (Nat.le_of_ble_eq_true rfl) ⟨rfl, rfl, ir_no (by decide) (Or.inr h)⟩
  · refine g_ifN_lt (tgt := 10) C (by omega) dX0_checkRow_1 (by decide) (fun h2 => absurd h2 (by omega)) (fun _ => ?_)
    refine g_iload_n C dX0_checkRow_4 (k := ?_)
    refine g_bipush C (nI 6) dX0_checkRow_5 (k := ?_)
    refine g_icN_lt (tgt := 20) C (by omega) (by decide) dX0_checkRow_7 (by decide) (fun _ => ?_) (fun h2 => absurd hk (by omega))
    exact gT_vret C hr (Nat.le_of_ble_eq_true rfl) (Nat.le_of_ble_eq_true rfl) ⟨rfl, k, hk, rfl⟩ dX0_checkRow_20
set_option maxRecDepth 100000 in
set_option maxHeartbeats 4000000 in
theorem c_checkCoefficient {l : Launch} (hl : l.stackTraces = false) {D : va_G} {tys : List (ClassId × FieldType)} {N : Nat} {ad : Nat → Nat} {ct : Nat → va_E} {cl : List vw_C} (x : Int32) :
    gTv l yX0_checkCoefficient wsX0_checkCoefficient rck 1 6 D cl tys N ad [.int x] ct (fun ct1 => ct1 = ct ∧ ir x 512) (fun E ct1 => E = xIO ∧ ct1 = ct ∧ ¬ ir x 512) := by
  refine gofT_v (cc := cX0_checkCoefficient) (maxL := 1) (by decide) rfl (Nat.le_of_ble_eq_true rfl) ?_
  intro M sz C hlM hRM hr hT hE
  refine g_iload_n C dX0_checkCoefficient_0 (k := ?_)
  rcases pk_ix x (n := 512) (by decide) with h | h | ⟨k, hk, rfl⟩
  · refine g_if_lt (tgt := 11) C dX0_checkCoefficient_1 (by decide) (fun _ => ?_) (fun h2 => absurd h h2)
    exact g_throwS (E := xIO) (text := "no such coefficient") C hT (by rw [hlM]; exact hl) hE rfl (by decide +kernel) (by decide +kernel) (by decide +kernel) (by decide +kernel) (by decide +kernel) (by decide +kernel) (by decide +kernel) dX0_checkCoefficient_11 dX0_checkCoefficient_14 dX0_checkCoefficient_15 dX0_checkCoefficient_17 dX0_checkCoefficient_20 (by rw [hRM]; exact (Nat.le_of_ble_eq_true rfl)) (by rw [hRM]; exact (Nat.le_of_ble_eq_true rfl)) (by rw [hRM]; exact (Nat.le_of_ble_eq_true rfl)) (by rw [hRM]; exact (Nat.le_of_ble_eq_true rfl)) (Nat.le_of_ble_eq_true rfl) (Nat.le_of_ble_eq_true rfl) ⟨rfl, rfl, ir_no (by decide) (Or.inl h)⟩
  · refine g_if_lt (tgt := 11) C dX0_checkCoefficient_1 (by decide) (fun h2 => ?_) (fun _ => ?_)
    · exact g_throwS (E := xIO) (text := "no such coefficient") C hT (by rw [hlM]; exact hl) hE rfl (by decide +kernel) (by decide +kernel) (by decide +kernel) (by decide +kernel) (by decide +kernel) (by decide +kernel) (by decide +kernel) dX0_checkCoefficient_11 dX0_checkCoefficient_14 dX0_checkCoefficient_15 dX0_checkCoefficient_17 dX0_checkCoefficient_20 (by rw [hRM]; exact (Nat.le_of_ble_eq_true rfl)) (by rw [hRM]; exact (Nat.le_of_ble_eq_true rfl)) (by rw [hRM]; exact (Nat.le_of_ble_eq_true rfl)) (by rw [hRM]; exact (Nat.le_of_ble_eq_true rfl)) (Nat.le_of_ble_eq_true rfl) (Nat.le_of_ble_eq_true rfl) ⟨rfl, rfl, ir_no (by decide) (Or.inl h2)⟩
    · refine g_iload_n C dX0_checkCoefficient_4 (k := ?_)
      refine g_sipush C (nI 512) dX0_checkCoefficient_5 (k := ?_)
      refine g_ic_lt (tgt := 21) C dX0_checkCoefficient_8 (by decide) (fun h2 => absurd h2 (by rw [Int32.not_lt]; exact h)) (fun _ => ?_)
      exact g_throwS (E := xIO) (text := "no such coefficient") C hT (by rw [hlM]; exact hl) hE rfl (by decide +kernel) (by decide +kernel) (by decide +kernel) (by decide +kernel) (by decide +kernel) (by decide +kernel) (by decide +kernel) dX0_checkCoefficient_11 dX0_checkCoefficient_14 dX0_checkCoefficient_15 dX0_checkCoefficient_17 dX0_checkCoefficient_20 (by rw [hRM]; exact (Nat.le_of_ble_eq_true rfl)) (by rw [hRM]; exact (Nat.le_of_ble_eq_true rfl)) (by rw [hRM]; exact (Nat.le_of_ble_eq_true rfl)) (by rw [hRM]; exact (Nat.le_of_ble_eq_true rfl)) (Nat.le_of_ble_eq_true rfl) (Nat.le_of_ble_eq_true rfl) ⟨rfl, rfl, ir_no (by decide) (Or.inr h)⟩
  · refine g_ifN_lt (tgt := 11) C (by omega) dX0_checkCoefficient_1 (by decide) (fun h2 => absurd h2 (by omega)) (fun _ => ?_)
    refine g_iload_n C dX0_checkCoefficient_4 (k := ?_)
    refine g_sipush C (nI 512) dX0_checkCoefficient_5 (k := ?_)
    refine g_icN_lt (tgt := 21) C (by omega) (by decide) dX0_checkCoefficient_8 (by decide) (fun _ => ?_) (fun h2 => absurd hk (by omega))
    exact gT_vret C hr (Nat.le_of_ble_eq_true rfl) (Nat.le_of_ble_eq_true rfl) ⟨rfl, k, hk, rfl⟩ dX0_checkCoefficient_21
set_option maxRecDepth 100000 in
set_option maxHeartbeats 4000000 in
theorem c_checkNatural {l : Launch} (hl : l.stackTraces = false) {D : va_G} {tys : List (ClassId × FieldType)} {N : Nat} {ad : Nat → Nat} {ct : Nat → va_E} {cl : List vw_C} (x : Int32) :
    gTv l yX0_checkNatural wsX0_checkNatural rck 1 6 D cl tys N ad [.int x] ct (fun ct1 => ct1 = ct ∧ ir x 6) (fun E ct1 => E = xIO ∧ ct1 = ct ∧ ¬ ir x 6) := by
  refine gofT_v (cc := cX0_checkNatural) (maxL := 1) (by decide) rfl (Nat.le_of_ble_eq_true rfl) ?_
  intro M sz C hlM hRM hr hT hE
  refine g_iload_n C dX0_checkNatural_0 (k := ?_)
  rcases pk_ix x (n := 6) (by decide) with h | h | ⟨k, hk, rfl⟩
  · refine g_if_lt (tgt := 10) C dX0_checkNatural_1 (by decide) (fun _ => ?_) (fun h2 => absurd h h2)
    exact g_throwS (E := xIO) (text := "no such natural") C hT (by rw [hlM]; exact hl) hE rfl (by decide +kernel) (by decide +kernel) (by decide +kernel) (by decide +kernel) (by decide +kernel) (by decide +kernel) (by decide +kernel) dX0_checkNatural_10 dX0_checkNatural_13 dX0_checkNatural_14 dX0_checkNatural_16 dX0_checkNatural_19 (by rw [hRM]; exact (Nat.le_of_ble_eq_true rfl)) (by rw [hRM]; exact (Nat.le_of_ble_eq_true rfl)) (by rw [hRM]; exact (Nat.le_of_ble_eq_true rfl)) (by rw [hRM]; exact (Nat.le_of_ble_eq_true rfl)) (Nat.le_of_ble_eq_true rfl) (Nat.le_of_ble_eq_true rfl) ⟨rfl, rfl, ir_no (by decide) (Or.inl h)⟩
  · refine g_if_lt (tgt := 10) C dX0_checkNatural_1 (by decide) (fun h2 => ?_) (fun _ => ?_)
    · exact g_throwS (E := xIO) (text := "no such natural") C hT (by rw [hlM]; exact hl) hE rfl (by decide +kernel) (by decide +kernel) (by decide +kernel) (by decide +kernel) (by decide +kernel) (by decide +kernel) (by decide +kernel) dX0_checkNatural_10 dX0_checkNatural_13 dX0_checkNatural_14 dX0_checkNatural_16 dX0_checkNatural_19 (by rw [hRM]; exact (Nat.le_of_ble_eq_true rfl)) (by rw [hRM]; exact (Nat.le_of_ble_eq_true rfl)) (by rw [hRM]; exact (Nat.le_of_ble_eq_true rfl)) (by rw [hRM]; exact (Nat.le_of_ble_eq_true rfl)) (Nat.le_of_ble_eq_true rfl) (Nat.le_of_ble_eq_true rfl) ⟨rfl, rfl, ir_no (by decide) (Or.inl h2)⟩
    · refine g_iload_n C dX0_checkNatural_4 (k := ?_)
      refine g_bipush C (nI 6) dX0_checkNatural_5 (k := ?_)
      refine g_ic_lt (tgt := 20) C dX0_checkNatural_7 (by decide) (fun h2 => absurd h2 (by rw [Int32.not_lt]; exact h)) (fun _ => ?_)
      exact g_throwS (E := xIO) (text := "no such natural") C hT (by rw [hlM]; exact hl) hE rfl (by decide +kernel) (by decide +kernel) (by decide +kernel) (by decide +kernel) (by decide +kernel) (by decide +kernel) (by decide +kernel) dX0_checkNatural_10 dX0_checkNatural_13 dX0_checkNatural_14 dX0_checkNatural_16 dX0_checkNatural_19 (by rw [hRM]; exact (Nat.le_of_ble_eq_true rfl)) (by rw [hRM]; exact (Nat.le_of_ble_eq_true rfl)) (by rw [hRM]; exact (Nat.le_of_ble_eq_true rfl)) (by rw [hRM]; exact (Nat.le_of_ble_eq_true rfl)) (Nat.le_of_ble_eq_true rfl) (Nat.le_of_ble_eq_true rfl) ⟨rfl, rfl, ir_no (by decide) (Or.inr h)⟩
  · refine g_ifN_lt (tgt := 10) C (by omega) dX0_checkNatural_1 (by decide) (fun h2 => absurd h2 (by omega)) (fun _ => ?_)
    refine g_iload_n C dX0_checkNatural_4 (k := ?_)
    refine g_bipush C (nI 6) dX0_checkNatural_5 (k := ?_)
    refine g_icN_lt (tgt := 20) C (by omega) (by decide) dX0_checkNatural_7 (by decide) (fun _ => ?_) (fun h2 => absurd hk (by omega))
    exact gT_vret C hr (Nat.le_of_ble_eq_true rfl) (Nat.le_of_ble_eq_true rfl) ⟨rfl, k, hk, rfl⟩ dX0_checkNatural_20
set_option maxRecDepth 100000 in
set_option maxHeartbeats 4000000 in
theorem c_checkWord {l : Launch} (hl : l.stackTraces = false) {D : va_G} {tys : List (ClassId × FieldType)} {N : Nat} {ad : Nat → Nat} {ct : Nat → va_E} {cl : List vw_C} (x : Int32) :
    gTv l yX0_checkWord wsX0_checkWord rck 1 6 D cl tys N ad [.int x] ct (fun ct1 => ct1 = ct ∧ ir x 240) (fun E ct1 => E = xIO ∧ ct1 = ct ∧ ¬ ir x 240) := by
  refine gofT_v (cc := cX0_checkWord) (maxL := 1) (by decide) rfl (Nat.le_of_ble_eq_true rfl) ?_
  intro M sz C hlM hRM hr hT hE
  refine g_iload_n C dX0_checkWord_0 (k := ?_)
  rcases pk_ix x (n := 240) (by decide) with h | h | ⟨k, hk, rfl⟩
  · refine g_if_lt (tgt := 11) C dX0_checkWord_1 (by decide) (fun _ => ?_) (fun h2 => absurd h h2)
    exact g_throwS (E := xIO) (text := "no such word") C hT (by rw [hlM]; exact hl) hE rfl (by decide +kernel) (by decide +kernel) (by decide +kernel) (by decide +kernel) (by decide +kernel) (by decide +kernel) (by decide +kernel) dX0_checkWord_11 dX0_checkWord_14 dX0_checkWord_15 dX0_checkWord_17 dX0_checkWord_20 (by rw [hRM]; exact (Nat.le_of_ble_eq_true rfl)) (by rw [hRM]; exact (Nat.le_of_ble_eq_true rfl)) (by rw [hRM]; exact (Nat.le_of_ble_eq_true rfl)) (by rw [hRM]; exact (Nat.le_of_ble_eq_true rfl)) (Nat.le_of_ble_eq_true rfl) (Nat.le_of_ble_eq_true rfl) ⟨rfl, rfl, ir_no (by decide) (Or.inl h)⟩
  · refine g_if_lt (tgt := 11) C dX0_checkWord_1 (by decide) (fun h2 => ?_) (fun _ => ?_)
    · exact g_throwS (E := xIO) (text := "no such word") C hT (by rw [hlM]; exact hl) hE rfl (by decide +kernel) (by decide +kernel) (by decide +kernel) (by decide +kernel) (by decide +kernel) (by decide +kernel) (by decide +kernel) dX0_checkWord_11 dX0_checkWord_14 dX0_checkWord_15 dX0_checkWord_17 dX0_checkWord_20 (by rw [hRM]; exact (Nat.le_of_ble_eq_true rfl)) (by rw [hRM]; exact (Nat.le_of_ble_eq_true rfl)) (by rw [hRM]; exact (Nat.le_of_ble_eq_true rfl)) (by rw [hRM]; exact (Nat.le_of_ble_eq_true rfl)) (Nat.le_of_ble_eq_true rfl) (Nat.le_of_ble_eq_true rfl) ⟨rfl, rfl, ir_no (by decide) (Or.inl h2)⟩
    · refine g_iload_n C dX0_checkWord_4 (k := ?_)
      refine g_sipush C (nI 240) dX0_checkWord_5 (k := ?_)
      refine g_ic_lt (tgt := 21) C dX0_checkWord_8 (by decide) (fun h2 => absurd h2 (by rw [Int32.not_lt]; exact h)) (fun _ => ?_)
      exact g_throwS (E := xIO) (text := "no such word") C hT (by rw [hlM]; exact hl) hE rfl (by decide +kernel) (by decide +kernel) (by decide +kernel) (by decide +kernel) (by decide +kernel) (by decide +kernel) (by decide +kernel) dX0_checkWord_11 dX0_checkWord_14 dX0_checkWord_15 dX0_checkWord_17 dX0_checkWord_20 (by rw [hRM]; exact (Nat.le_of_ble_eq_true rfl)) (by rw [hRM]; exact (Nat.le_of_ble_eq_true rfl)) (by rw [hRM]; exact (Nat.le_of_ble_eq_true rfl)) (by rw [hRM]; exact (Nat.le_of_ble_eq_true rfl)) (Nat.le_of_ble_eq_true rfl) (Nat.le_of_ble_eq_true rfl) ⟨rfl, rfl, ir_no (by decide) (Or.inr h)⟩
  · refine g_ifN_lt (tgt := 11) C (by omega) dX0_checkWord_1 (by decide) (fun h2 => absurd h2 (by omega)) (fun _ => ?_)
    refine g_iload_n C dX0_checkWord_4 (k := ?_)
    refine g_sipush C (nI 240) dX0_checkWord_5 (k := ?_)
    refine g_icN_lt (tgt := 21) C (by omega) (by decide) dX0_checkWord_8 (by decide) (fun _ => ?_) (fun h2 => absurd hk (by omega))
    exact gT_vret C hr (Nat.le_of_ble_eq_true rfl) (Nat.le_of_ble_eq_true rfl) ⟨rfl, k, hk, rfl⟩ dX0_checkWord_21
/-! ===== the object's state ===== -/
abbrev gRow (ad : Nat → Nat) (b : Nat) : Nat → Option Nat := fun i => if i < 6 then some (ad (b + i)) else none
def stX (cJ cQ : ClassId) (ad : Nat → Nat) (p : Nat) (wn : Nat → Nat) (Mr Nw : Nat → Nat → Nat) (ct : Nat → va_E) : Prop :=
  ct 0 = obX p ad ∧ ct 1 = LN cJ 512 wn ∧ ct 2 = QA cQ 6 (gRow ad 3) ∧ (∀ i, i < 6 → ct (3 + i) = LN cJ 512 (Mr i)) ∧ ct 9 = QA cQ 6 (gRow ad 10) ∧ (∀ i, i < 6 → ct (10 + i) = LN cJ 240 (Nw i)) ∧ (∃ f, ct 16 = LN cJ 9 f) ∧ (∃ f, ct 17 = LN cJ 512 f) ∧ (∃ f, ct 18 = LN cJ 512 f) ∧ ∃ f, ct 19 = LN cJ 240 f
def nvX (p : Nat) (wn : Nat → Nat) (Mr Nw : Nat → Nat → Nat) : Prop :=
  512 < p ∧ p < 2 ^ 31 ∧ (∀ k, k < 512 → wn k < p) ∧ (∀ i k, i < 6 → k < 512 → Mr i k < p) ∧ ∀ i k, i < 6 → Nw i k < 2 ^ 32

abbrev rg_get : Room := { frames := 7, cells := 2, slots := 12, locals := 104 }
set_option maxRecDepth 100000 in
set_option maxHeartbeats 4000000 in
theorem c_get {l : Launch} (hl : l.stackTraces = false) {D : va_G} {tys : List (ClassId × FieldType)} {N : Nat} {ad : Nat → Nat} {ct : Nat → va_E} (hN : 20 ≤ N) {cJ cQ : ClassId} {p : Nat} {wn : Nat → Nat} {Mr Nw : Nat → Nat → Nat} (S : stX cJ cQ ad p wn Mr Nw ct) (ht : tys[0]? = some (cJ, .long)) (ht2 : tys[1]? = some (cQ, .array .long)) (hv : nvX p wn Mr Nw) (x y : Int32) :
    gTl l yX0_get wsX0_get rg_get 2 12 D vwCl tys N ad [.ref (ad 0), .int x, .int y] ct (fun r ct1 => ct1 = ct ∧ ∃ i k, i < 6 ∧ k < 512 ∧ x = nI i ∧ y = nI k ∧ r = lN (Mr i k)) (fun E ct1 => E = xIO ∧ ct1 = ct ∧ ¬ (ir x 6 ∧ ir y 512)) := by
  refine gofT_l (cc := cX0_get) (maxL := 3) (by decide) rfl (Nat.le_of_ble_eq_true rfl) ?_
  intro M sz C hlM hRM hr hT hE
  have h0 : 0 < N := by omega
  refine g_iload_n C dX0_get_0 (k := ?_)
  refine gT_cSv (rmy := rck) (n := 1) (av := [.int x]) C hT hE (by rw [hlM]; exact c_checkRow hl x) gX0_get_X0_checkRow rfl ⟨rfl, rfl⟩ (by rw [hRM]; exact ⟨Nat.le_of_ble_eq_true rfl, Nat.le_of_ble_eq_true rfl⟩) (by rw [hRM]; exact ⟨Nat.le_of_ble_eq_true rfl, Nat.le_of_ble_eq_true rfl⟩) (Nat.le_of_ble_eq_true rfl) (by decide +kernel) rfl dX0_get_1 (Nat.le_of_ble_eq_true rfl) (Nat.le_of_ble_eq_true rfl) (by intro E c q; exact ⟨q.1, q.2.1, fun z => q.2.2 z.1⟩) ?_
  rintro _ ⟨rfl, i, hi, rfl⟩
  refine g_iload_n C dX0_get_4 (k := ?_)
  refine gT_cSv (rmy := rck) (n := 1) (av := [.int y]) C hT hE (by rw [hlM]; exact c_checkCoefficient hl y) gX0_get_X0_checkCoefficient rfl ⟨rfl, rfl⟩ (by rw [hRM]; exact ⟨Nat.le_of_ble_eq_true rfl, Nat.le_of_ble_eq_true rfl⟩) (by rw [hRM]; exact ⟨Nat.le_of_ble_eq_true rfl, Nat.le_of_ble_eq_true rfl⟩) (Nat.le_of_ble_eq_true rfl) (by decide +kernel) rfl dX0_get_5 (Nat.le_of_ble_eq_true rfl) (Nat.le_of_ble_eq_true rfl) (by intro E c q; exact ⟨q.1, q.2.1, fun z => q.2.2 z.2⟩) ?_
  rintro _ ⟨rfl, k, hk, rfl⟩
  refine g_aload_n C dX0_get_8 (k := ?_)
  refine g_getf (Cn := RX0) (T := TX0) (n := 8) (ref := "WheelProducts") C 0 2 h0 S.1 rfl (by decide +kernel) (by decide) (by decide +kernel) (fun _ h => h) rfl dX0_get_9 ?_
  refine g_iload_n C dX0_get_12 (k := ?_)
  refine g_aald C 2 1 (by omega) S.2.2.1 ht2 rfl hi (by decide) (if_pos hi) dX0_get_13 ?_
  refine g_iload_n C dX0_get_14 (k := ?_)
  refine gN_lald C (3 + i) (by omega) (S.2.2.2.1 i hi) ht hk (by decide) dX0_get_15 ?_
  exact gT_lret C hr (Nat.le_of_ble_eq_true rfl) (Nat.le_of_ble_eq_true rfl) ⟨rfl, i, k, hi, hk, rfl, rfl, rfl⟩ dX0_get_16
abbrev rg_wordAt : Room := { frames := 7, cells := 2, slots := 12, locals := 104 }
set_option maxRecDepth 100000 in
set_option maxHeartbeats 4000000 in
theorem c_wordAt {l : Launch} (hl : l.stackTraces = false) {D : va_G} {tys : List (ClassId × FieldType)} {N : Nat} {ad : Nat → Nat} {ct : Nat → va_E} (hN : 20 ≤ N) {cJ cQ : ClassId} {p : Nat} {wn : Nat → Nat} {Mr Nw : Nat → Nat → Nat} (S : stX cJ cQ ad p wn Mr Nw ct) (ht : tys[0]? = some (cJ, .long)) (ht2 : tys[1]? = some (cQ, .array .long)) (hv : nvX p wn Mr Nw) (x y : Int32) :
    gTl l yX0_wordAt wsX0_wordAt rg_wordAt 2 12 D vwCl tys N ad [.ref (ad 0), .int x, .int y] ct (fun r ct1 => ct1 = ct ∧ ∃ i k, i < 6 ∧ k < 240 ∧ x = nI i ∧ y = nI k ∧ r = lN (Nw i k)) (fun E ct1 => E = xIO ∧ ct1 = ct ∧ ¬ (ir x 6 ∧ ir y 240)) := by
  refine gofT_l (cc := cX0_wordAt) (maxL := 3) (by decide) rfl (Nat.le_of_ble_eq_true rfl) ?_
  intro M sz C hlM hRM hr hT hE
  have h0 : 0 < N := by omega
  refine g_iload_n C dX0_wordAt_0 (k := ?_)
  refine gT_cSv (rmy := rck) (n := 1) (av := [.int x]) C hT hE (by rw [hlM]; exact c_checkNatural hl x) gX0_wordAt_X0_checkNatural rfl ⟨rfl, rfl⟩ (by rw [hRM]; exact ⟨Nat.le_of_ble_eq_true rfl, Nat.le_of_ble_eq_true rfl⟩) (by rw [hRM]; exact ⟨Nat.le_of_ble_eq_true rfl, Nat.le_of_ble_eq_true rfl⟩) (Nat.le_of_ble_eq_true rfl) (by decide +kernel) rfl dX0_wordAt_1 (Nat.le_of_ble_eq_true rfl) (Nat.le_of_ble_eq_true rfl) (by intro E c q; exact ⟨q.1, q.2.1, fun z => q.2.2 z.1⟩) ?_
  rintro _ ⟨rfl, i, hi, rfl⟩
  refine g_iload_n C dX0_wordAt_4 (k := ?_)
  refine gT_cSv (rmy := rck) (n := 1) (av := [.int y]) C hT hE (by rw [hlM]; exact c_checkWord hl y) gX0_wordAt_X0_checkWord rfl ⟨rfl, rfl⟩ (by rw [hRM]; exact ⟨Nat.le_of_ble_eq_true rfl, Nat.le_of_ble_eq_true rfl⟩) (by rw [hRM]; exact ⟨Nat.le_of_ble_eq_true rfl, Nat.le_of_ble_eq_true rfl⟩) (Nat.le_of_ble_eq_true rfl) (by decide +kernel) rfl dX0_wordAt_5 (Nat.le_of_ble_eq_true rfl) (Nat.le_of_ble_eq_true rfl) (by intro E c q; exact ⟨q.1, q.2.1, fun z => q.2.2 z.2⟩) ?_
  rintro _ ⟨rfl, k, hk, rfl⟩
  refine g_aload_n C dX0_wordAt_8 (k := ?_)
  refine g_getf (Cn := RX0) (T := TX0) (n := 8) (ref := "WheelProducts") C 0 3 h0 S.1 rfl (by decide +kernel) (by decide) (by decide +kernel) (fun _ h => h) rfl dX0_wordAt_9 ?_
  refine g_iload_n C dX0_wordAt_12 (k := ?_)
  refine g_aald C 9 1 (by omega) S.2.2.2.2.1 ht2 rfl hi (by decide) (if_pos hi) dX0_wordAt_13 ?_
  refine g_iload_n C dX0_wordAt_14 (k := ?_)
  refine gN_lald C (10 + i) (by omega) (S.2.2.2.2.2.1 i hi) ht hk (by decide) dX0_wordAt_15 ?_
  exact gT_lret C hr (Nat.le_of_ble_eq_true rfl) (Nat.le_of_ble_eq_true rfl) ⟨rfl, i, k, hi, hk, rfl, rfl, rfl⟩ dX0_wordAt_16
abbrev rg_length : Room := { frames := 7, cells := 1, slots := 6, locals := 104 }
set_option maxRecDepth 100000 in
set_option maxHeartbeats 4000000 in
theorem c_length {l : Launch} (hl : l.stackTraces = false) {D : va_G} {tys : List (ClassId × FieldType)} {N : Nat} {ad : Nat → Nat} {ct : Nat → va_E} (hN : 20 ≤ N) {cJ cQ : ClassId} {p : Nat} {wn : Nat → Nat} {Mr Nw : Nat → Nat → Nat} (S : stX cJ cQ ad p wn Mr Nw ct) (ht : tys[0]? = some (cJ, .long)) (ht2 : tys[1]? = some (cQ, .array .long)) (hv : nvX p wn Mr Nw) (x : Int32) :
    gTi l yX0_length wsX0_length rg_length 1 6 D vwCl tys N ad [.ref (ad 0), .int x] ct (fun r ct1 => ct1 = ct ∧ ∃ i, i < 6 ∧ x = nI i ∧ r = nI (up1 (Mr i) 512)) (fun E ct1 => E = xIO ∧ ct1 = ct ∧ ¬ ir x 6) := by
  refine gofT_i (cc := cX0_length) (maxL := 2) (by decide) rfl (Nat.le_of_ble_eq_true rfl) ?_
  intro M sz C hlM hRM hr hT hE
  have h0 : 0 < N := by omega
  have hp2 := hv.2.1
  refine g_iload_n C dX0_length_0 (k := ?_)
  refine gT_cSv (rmy := rck) (n := 1) (av := [.int x]) C hT hE (by rw [hlM]; exact c_checkRow hl x) gX0_length_X0_checkRow rfl ⟨rfl, rfl⟩ (by rw [hRM]; exact ⟨Nat.le_of_ble_eq_true rfl, Nat.le_of_ble_eq_true rfl⟩) (by rw [hRM]; exact ⟨Nat.le_of_ble_eq_true rfl, Nat.le_of_ble_eq_true rfl⟩) (Nat.le_of_ble_eq_true rfl) (by decide +kernel) rfl dX0_length_1 (Nat.le_of_ble_eq_true rfl) (Nat.le_of_ble_eq_true rfl) (by intro E c q; exact ⟨q.1, q.2.1, fun z => q.2.2 z⟩) ?_
  rintro _ ⟨rfl, i, hi, rfl⟩
  refine g_aload_n C dX0_length_4 (k := ?_)
  refine g_getf (Cn := RX0) (T := TX0) (n := 8) (ref := "WheelProducts") C 0 2 h0 S.1 rfl (by decide +kernel) (by decide) (by decide +kernel) (fun _ h => h) rfl dX0_length_5 ?_
  refine g_iload_n C dX0_length_8 (k := ?_)
  refine g_aald C 2 1 (by omega) S.2.2.1 ht2 rfl hi (by decide) (if_pos hi) dX0_length_9 ?_
  refine g_cSi (n := 1) (av := [.ref (ad (3 + i))]) C (by rw [hlM]; exact c_usedPart l (by omega) (S.2.2.2.1 i hi) ht (by decide) (fun k hk => Nat.lt_trans (hv.2.2.2.1 i k hi hk) (by omega))) gX0_length_X0_usedPart rfl ⟨rfl, rfl⟩ (by rw [hRM]; exact ⟨Nat.le_of_ble_eq_true rfl, Nat.le_of_ble_eq_true rfl⟩) (by rw [hRM]; exact ⟨Nat.le_of_ble_eq_true rfl, Nat.le_of_ble_eq_true rfl⟩) (Nat.le_of_ble_eq_true rfl) (by decide +kernel) rfl dX0_length_10 ?_
  rintro _ _ ⟨rfl, rfl⟩
  exact gT_iret C hr (Nat.le_of_ble_eq_true rfl) (Nat.le_of_ble_eq_true rfl) ⟨rfl, i, hi, rfl, rfl⟩ dX0_length_13
abbrev rg_size : Room := { frames := 7, cells := 1, slots := 6, locals := 104 }
set_option maxRecDepth 100000 in
set_option maxHeartbeats 4000000 in
theorem c_size {l : Launch} (hl : l.stackTraces = false) {D : va_G} {tys : List (ClassId × FieldType)} {N : Nat} {ad : Nat → Nat} {ct : Nat → va_E} (hN : 20 ≤ N) {cJ cQ : ClassId} {p : Nat} {wn : Nat → Nat} {Mr Nw : Nat → Nat → Nat} (S : stX cJ cQ ad p wn Mr Nw ct) (ht : tys[0]? = some (cJ, .long)) (ht2 : tys[1]? = some (cQ, .array .long)) (hv : nvX p wn Mr Nw) (x : Int32) :
    gTi l yX0_size wsX0_size rg_size 1 6 D vwCl tys N ad [.ref (ad 0), .int x] ct (fun r ct1 => ct1 = ct ∧ ∃ i, i < 6 ∧ x = nI i ∧ r = nI (up1 (Nw i) 240)) (fun E ct1 => E = xIO ∧ ct1 = ct ∧ ¬ ir x 6) := by
  refine gofT_i (cc := cX0_size) (maxL := 2) (by decide) rfl (Nat.le_of_ble_eq_true rfl) ?_
  intro M sz C hlM hRM hr hT hE
  have h0 : 0 < N := by omega
  have hp2 := hv.2.1
  refine g_iload_n C dX0_size_0 (k := ?_)
  refine gT_cSv (rmy := rck) (n := 1) (av := [.int x]) C hT hE (by rw [hlM]; exact c_checkNatural hl x) gX0_size_X0_checkNatural rfl ⟨rfl, rfl⟩ (by rw [hRM]; exact ⟨Nat.le_of_ble_eq_true rfl, Nat.le_of_ble_eq_true rfl⟩) (by rw [hRM]; exact ⟨Nat.le_of_ble_eq_true rfl, Nat.le_of_ble_eq_true rfl⟩) (Nat.le_of_ble_eq_true rfl) (by decide +kernel) rfl dX0_size_1 (Nat.le_of_ble_eq_true rfl) (Nat.le_of_ble_eq_true rfl) (by intro E c q; exact ⟨q.1, q.2.1, fun z => q.2.2 z⟩) ?_
  rintro _ ⟨rfl, i, hi, rfl⟩
  refine g_aload_n C dX0_size_4 (k := ?_)
  refine g_getf (Cn := RX0) (T := TX0) (n := 8) (ref := "WheelProducts") C 0 3 h0 S.1 rfl (by decide +kernel) (by decide) (by decide +kernel) (fun _ h => h) rfl dX0_size_5 ?_
  refine g_iload_n C dX0_size_8 (k := ?_)
  refine g_aald C 9 1 (by omega) S.2.2.2.2.1 ht2 rfl hi (by decide) (if_pos hi) dX0_size_9 ?_
  refine g_cSi (n := 1) (av := [.ref (ad (10 + i))]) C (by rw [hlM]; exact c_usedPart l (by omega) (S.2.2.2.2.2.1 i hi) ht (by decide) (fun k _ => Nat.lt_trans (hv.2.2.2.2 i k hi) (by decide))) gX0_size_X0_usedPart rfl ⟨rfl, rfl⟩ (by rw [hRM]; exact ⟨Nat.le_of_ble_eq_true rfl, Nat.le_of_ble_eq_true rfl⟩) (by rw [hRM]; exact ⟨Nat.le_of_ble_eq_true rfl, Nat.le_of_ble_eq_true rfl⟩) (Nat.le_of_ble_eq_true rfl) (by decide +kernel) rfl dX0_size_10 ?_
  rintro _ _ ⟨rfl, rfl⟩
  exact gT_iret C hr (Nat.le_of_ble_eq_true rfl) (Nat.le_of_ble_eq_true rfl) ⟨rfl, i, hi, rfl, rfl⟩ dX0_size_13
theorem k_maskX (x : Int64) : ∃ n, n < 2 ^ 32 ∧ x &&& lN 4294967295 = lN n ∧ n = x.toBitVec.toNat % 4294967296 := by
  have e : x = lN x.toBitVec.toNat := by
    apply Int64.toBitVec_inj.1
    show x.toBitVec = BitVec.ofNat 64 x.toBitVec.toNat
    simp
  refine ⟨x.toBitVec.toNat % 4294967296, Nat.mod_lt _ (by decide), ?_, rfl⟩
  rw [← k_mask, ← e]
def mk32 (x : Int64) : Nat := x.toBitVec.toNat % 4294967296

abbrev rg_put : Room := { frames := 7, cells := 2, slots := 12, locals := 104 }
set_option maxRecDepth 100000 in
set_option maxHeartbeats 4000000 in
theorem c_put {l : Launch} (hl : l.stackTraces = false) {D : va_G} {tys : List (ClassId × FieldType)} {N : Nat} {ad : Nat → Nat} {ct : Nat → va_E} (hN : 20 ≤ N) {cJ cQ : ClassId} {p : Nat} {wn : Nat → Nat} {Mr Nw : Nat → Nat → Nat} (S : stX cJ cQ ad p wn Mr Nw ct) (ht : tys[0]? = some (cJ, .long)) (ht2 : tys[1]? = some (cQ, .array .long)) (hv : nvX p wn Mr Nw) (x y : Int32) (z : Int64) :
    gTi l yX0_put wsX0_put rg_put 2 12 D vwCl tys N ad [.ref (ad 0), .int x, .int y, .long z] ct (fun r ct1 => ∃ i k, i < 6 ∧ k < 512 ∧ x = nI i ∧ y = nI k ∧ r = nI (if Mr i k = fm p z then 0 else 1) ∧ ct1 = va_up ct (3 + i) (LN cJ 512 (nu (Mr i) k (fm p z)))) (fun E ct1 => E = xIO ∧ ct1 = ct ∧ ¬ (ir x 6 ∧ ir y 512)) := by
  refine gofT_z (cc := cX0_put) (maxL := 9) (by decide) rfl (Nat.le_of_ble_eq_true rfl) ?_
  intro M sz C hlM hRM hr hT hE
  have h0 : 0 < N := by omega
  have hp1 := hv.1
  have hp2 := hv.2.1
  refine g_iload_n C dX0_put_0 (k := ?_)
  refine gT_cSv (rmy := rck) (n := 1) (av := [.int x]) C hT hE (by rw [hlM]; exact c_checkRow hl x) gX0_put_X0_checkRow rfl ⟨rfl, rfl⟩ (by rw [hRM]; exact ⟨Nat.le_of_ble_eq_true rfl, Nat.le_of_ble_eq_true rfl⟩) (by rw [hRM]; exact ⟨Nat.le_of_ble_eq_true rfl, Nat.le_of_ble_eq_true rfl⟩) (Nat.le_of_ble_eq_true rfl) (by decide +kernel) rfl dX0_put_1 (Nat.le_of_ble_eq_true rfl) (Nat.le_of_ble_eq_true rfl) (by intro E c q; exact ⟨q.1, q.2.1, fun z => q.2.2 z.1⟩) ?_
  rintro _ ⟨rfl, i, hi, rfl⟩
  refine g_iload_n C dX0_put_4 (k := ?_)
  refine gT_cSv (rmy := rck) (n := 1) (av := [.int y]) C hT hE (by rw [hlM]; exact c_checkCoefficient hl y) gX0_put_X0_checkCoefficient rfl ⟨rfl, rfl⟩ (by rw [hRM]; exact ⟨Nat.le_of_ble_eq_true rfl, Nat.le_of_ble_eq_true rfl⟩) (by rw [hRM]; exact ⟨Nat.le_of_ble_eq_true rfl, Nat.le_of_ble_eq_true rfl⟩) (Nat.le_of_ble_eq_true rfl) (by decide +kernel) rfl dX0_put_5 (Nat.le_of_ble_eq_true rfl) (Nat.le_of_ble_eq_true rfl) (by intro E c q; exact ⟨q.1, q.2.1, fun z => q.2.2 z.2⟩) ?_
  rintro _ ⟨rfl, k, hk, rfl⟩
  refine g_aload_n C dX0_put_8 (k := ?_)
  refine g_getf (Cn := RX0) (T := TX0) (n := 8) (ref := "WheelProducts") C 0 2 h0 S.1 rfl (by decide +kernel) (by decide) (by decide +kernel) (fun _ h => h) rfl dX0_put_9 ?_
  refine g_iload_n C dX0_put_12 (k := ?_)
  refine g_aald C 2 1 (by omega) S.2.2.1 ht2 rfl hi (by decide) (if_pos hi) dX0_put_13 ?_
  refine g_iload_n C dX0_put_14 (k := ?_)
  refine gN_lald C (3 + i) (by omega) (S.2.2.2.1 i hi) ht hk (by decide) dX0_put_15 ?_
  refine g_lstore C dX0_put_16 (k := ?_)
  refine g_aload_n C dX0_put_18 (k := ?_)
  refine g_lload_n C dX0_put_19 (k := ?_)
  refine g_cVl (n := 1) (av := [.long z]) C 0 h0 S.1 rfl (by rw [hlM]; exact c_rest l hN S.1 z (by omega) hp2) gX0_put_X0_rest rfl ⟨rfl, rfl⟩ (by rw [hRM]; exact ⟨Nat.le_of_ble_eq_true rfl, Nat.le_of_ble_eq_true rfl⟩) (by rw [hRM]; exact ⟨Nat.le_of_ble_eq_true rfl, Nat.le_of_ble_eq_true rfl⟩) (Nat.le_of_ble_eq_true rfl) (by decide +kernel) rfl dX0_put_20 ?_
  rintro _ _ ⟨rfl, rfl⟩
  refine g_lstore C dX0_put_23 (k := ?_)
  refine g_aload_n C dX0_put_25 (k := ?_)
  refine g_getf (Cn := RX0) (T := TX0) (n := 8) (ref := "WheelProducts") C 0 2 h0 S.1 rfl (by decide +kernel) (by decide) (by decide +kernel) (fun _ h => h) rfl dX0_put_26 ?_
  refine g_iload_n C dX0_put_29 (k := ?_)
  refine g_aald C 2 1 (by omega) S.2.2.1 ht2 rfl hi (by decide) (if_pos hi) dX0_put_30 ?_
  refine g_iload_n C dX0_put_31 (k := ?_)
  refine g_lload C dX0_put_32 (k := ?_)
  refine gN_last C (3 + i) (by omega) (S.2.2.2.1 i hi) ht hk (by decide) dX0_put_34 ?_
  refine g_lload C dX0_put_35 (k := ?_)
  refine g_lload C dX0_put_37 (k := ?_)
  by_cases hz : Mr i k = fm p z
  · refine g_lcN_eq (tgt := 47) C (Nat.lt_trans (hv.2.2.2.1 i k hi hk) (by omega)) (Nat.lt_trans (fm_lt (by omega) z) (by omega)) dX0_put_39 dX0_put_40 (by decide) (fun _ => ?_) (fun h => absurd hz h)
    refine g_iconst C (nI 0) dX0_put_47 (k := ?_)
    exact gT_zret C hr (by decide) (Nat.le_of_ble_eq_true rfl) (Nat.le_of_ble_eq_true rfl) ⟨i, k, hi, hk, rfl, rfl, by rw [if_pos hz], rfl⟩ dX0_put_48
  · refine g_lcN_eq (tgt := 47) C (Nat.lt_trans (hv.2.2.2.1 i k hi hk) (by omega)) (Nat.lt_trans (fm_lt (by omega) z) (by omega)) dX0_put_39 dX0_put_40 (by decide) (fun h => absurd h hz) (fun _ => ?_)
    refine g_iconst C (nI 1) dX0_put_43 (k := ?_)
    refine g_goto (tgt := 48) C dX0_put_44 (k := ?_)
    exact gT_zret C hr (by decide) (Nat.le_of_ble_eq_true rfl) (Nat.le_of_ble_eq_true rfl) ⟨i, k, hi, hk, rfl, rfl, by rw [if_neg hz], rfl⟩ dX0_put_48
abbrev rg_word : Room := { frames := 7, cells := 2, slots := 12, locals := 104 }
set_option maxRecDepth 100000 in
set_option maxHeartbeats 4000000 in
theorem c_word {l : Launch} (hl : l.stackTraces = false) {D : va_G} {tys : List (ClassId × FieldType)} {N : Nat} {ad : Nat → Nat} {ct : Nat → va_E} (hN : 20 ≤ N) {cJ cQ : ClassId} {p : Nat} {wn : Nat → Nat} {Mr Nw : Nat → Nat → Nat} (S : stX cJ cQ ad p wn Mr Nw ct) (ht : tys[0]? = some (cJ, .long)) (ht2 : tys[1]? = some (cQ, .array .long)) (hv : nvX p wn Mr Nw) (x y : Int32) (z : Int64) :
    gTi l yX0_word wsX0_word rg_word 2 12 D vwCl tys N ad [.ref (ad 0), .int x, .int y, .long z] ct (fun r ct1 => ∃ i k, i < 6 ∧ k < 240 ∧ x = nI i ∧ y = nI k ∧ r = nI (if Nw i k = mk32 z then 0 else 1) ∧ ct1 = va_up ct (10 + i) (LN cJ 240 (nu (Nw i) k (mk32 z)))) (fun E ct1 => E = xIO ∧ ct1 = ct ∧ ¬ (ir x 6 ∧ ir y 240)) := by
  refine gofT_z (cc := cX0_word) (maxL := 9) (by decide) rfl (Nat.le_of_ble_eq_true rfl) ?_
  intro M sz C hlM hRM hr hT hE
  have h0 : 0 < N := by omega
  have hp1 := hv.1
  have hp2 := hv.2.1
  refine g_iload_n C dX0_word_0 (k := ?_)
  refine gT_cSv (rmy := rck) (n := 1) (av := [.int x]) C hT hE (by rw [hlM]; exact c_checkNatural hl x) gX0_word_X0_checkNatural rfl ⟨rfl, rfl⟩ (by rw [hRM]; exact ⟨Nat.le_of_ble_eq_true rfl, Nat.le_of_ble_eq_true rfl⟩) (by rw [hRM]; exact ⟨Nat.le_of_ble_eq_true rfl, Nat.le_of_ble_eq_true rfl⟩) (Nat.le_of_ble_eq_true rfl) (by decide +kernel) rfl dX0_word_1 (Nat.le_of_ble_eq_true rfl) (Nat.le_of_ble_eq_true rfl) (by intro E c q; exact ⟨q.1, q.2.1, fun z => q.2.2 z.1⟩) ?_
  rintro _ ⟨rfl, i, hi, rfl⟩
  refine g_iload_n C dX0_word_4 (k := ?_)
  refine gT_cSv (rmy := rck) (n := 1) (av := [.int y]) C hT hE (by rw [hlM]; exact c_checkWord hl y) gX0_word_X0_checkWord rfl ⟨rfl, rfl⟩ (by rw [hRM]; exact ⟨Nat.le_of_ble_eq_true rfl, Nat.le_of_ble_eq_true rfl⟩) (by rw [hRM]; exact ⟨Nat.le_of_ble_eq_true rfl, Nat.le_of_ble_eq_true rfl⟩) (Nat.le_of_ble_eq_true rfl) (by decide +kernel) rfl dX0_word_5 (Nat.le_of_ble_eq_true rfl) (Nat.le_of_ble_eq_true rfl) (by intro E c q; exact ⟨q.1, q.2.1, fun z => q.2.2 z.2⟩) ?_
  rintro _ ⟨rfl, k, hk, rfl⟩
  refine g_aload_n C dX0_word_8 (k := ?_)
  refine g_getf (Cn := RX0) (T := TX0) (n := 8) (ref := "WheelProducts") C 0 3 h0 S.1 rfl (by decide +kernel) (by decide) (by decide +kernel) (fun _ h => h) rfl dX0_word_9 ?_
  refine g_iload_n C dX0_word_12 (k := ?_)
  refine g_aald C 9 1 (by omega) S.2.2.2.2.1 ht2 rfl hi (by decide) (if_pos hi) dX0_word_13 ?_
  refine g_iload_n C dX0_word_14 (k := ?_)
  refine gN_lald C (10 + i) (by omega) (S.2.2.2.2.2.1 i hi) ht hk (by decide) dX0_word_15 ?_
  refine g_lstore C dX0_word_16 (k := ?_)
  refine g_lload_n C dX0_word_18 (k := ?_)
  refine g_ldc2 (v := 4294967295) C (by decide +kernel) dX0_word_19 ?_
  refine g_tl (lN 4294967295) rfl ?_
  refine g_land C dX0_word_22 ?_
  obtain ⟨zn, hz1, hz2, hz3⟩ := k_maskX z
  refine g_tl _ hz2 ?_
  rw [show zn = mk32 z from hz3]
  rw [show zn = mk32 z from hz3] at hz1
  refine g_lstore C dX0_word_23 (k := ?_)
  refine g_aload_n C dX0_word_25 (k := ?_)
  refine g_getf (Cn := RX0) (T := TX0) (n := 8) (ref := "WheelProducts") C 0 3 h0 S.1 rfl (by decide +kernel) (by decide) (by decide +kernel) (fun _ h => h) rfl dX0_word_26 ?_
  refine g_iload_n C dX0_word_29 (k := ?_)
  refine g_aald C 9 1 (by omega) S.2.2.2.2.1 ht2 rfl hi (by decide) (if_pos hi) dX0_word_30 ?_
  refine g_iload_n C dX0_word_31 (k := ?_)
  refine g_lload C dX0_word_32 (k := ?_)
  refine gN_last C (10 + i) (by omega) (S.2.2.2.2.2.1 i hi) ht hk (by decide) dX0_word_34 ?_
  refine g_lload C dX0_word_35 (k := ?_)
  refine g_lload C dX0_word_37 (k := ?_)
  by_cases hz : Nw i k = mk32 z
  · refine g_lcN_eq (tgt := 47) C (Nat.lt_trans (hv.2.2.2.2 i k hi) (by decide)) (Nat.lt_trans hz1 (by decide)) dX0_word_39 dX0_word_40 (by decide) (fun _ => ?_) (fun h => absurd hz h)
    refine g_iconst C (nI 0) dX0_word_47 (k := ?_)
    exact gT_zret C hr (by decide) (Nat.le_of_ble_eq_true rfl) (Nat.le_of_ble_eq_true rfl) ⟨i, k, hi, hk, rfl, rfl, by rw [if_pos hz], rfl⟩ dX0_word_48
  · refine g_lcN_eq (tgt := 47) C (Nat.lt_trans (hv.2.2.2.2 i k hi) (by decide)) (Nat.lt_trans hz1 (by decide)) dX0_word_39 dX0_word_40 (by decide) (fun h => absurd h hz) (fun _ => ?_)
    refine g_iconst C (nI 1) dX0_word_43 (k := ?_)
    refine g_goto (tgt := 48) C dX0_word_44 (k := ?_)
    exact gT_zret C hr (by decide) (Nat.le_of_ble_eq_true rfl) (Nat.le_of_ble_eq_true rfl) ⟨i, k, hi, hk, rfl, rfl, by rw [if_neg hz], rfl⟩ dX0_word_48
end
section
/-! ===== how many factors there are ===== -/
theorem wof_dvd (d : Nat) : ∀ f n, wof d f n ∣ n
  | 0, n => Nat.dvd_refl n
  | f + 1, n => by
    unfold wof
    split
    · exact Nat.dvd_trans (wof_dvd d f _) (Nat.div_dvd_of_dvd (Nat.dvd_of_mod_eq_zero (by assumption)))
    · exact Nat.dvd_refl n
theorem wof_pos (d : Nat) (f : Nat) {n : Nat} (hn : 0 < n) : 0 < wof d f n := Nat.pos_of_dvd_of_pos (wof_dvd d f n) hn
theorem wof_not {d : Nat} (hd : 2 ≤ d) : ∀ f n, 0 < n → n < d ^ f → wof d f n % d ≠ 0
  | 0, n, h0, h => by rw [Nat.pow_zero] at h; omega
  | f + 1, n, h0, h => by
    unfold wof
    by_cases hz : n % d = 0
    · rw [if_pos hz]
      have e := Nat.div_add_mod n d
      rw [hz, Nat.add_zero] at e
      refine wof_not hd f (n / d) ?_ ?_
      · rcases Nat.eq_zero_or_pos (n / d) with h1 | h1
        · rw [h1, Nat.mul_zero] at e; omega
        · exact h1
      · rw [Nat.pow_succ] at h
        rw [Nat.div_lt_iff_lt_mul (by omega)]
        exact h
    · rw [if_neg hz]
      exact hz
theorem wof_mul {d f n : Nat} (hz : n % d = 0) : wof d (f + 1) n * d ≤ n := by
  unfold wof
  rw [if_pos hz]
  exact Nat.le_trans (Nat.mul_le_mul_right d (wof_le d f _)) (Nat.div_mul_le_self n d)
/-- 3 times 5 times 7 .. -/
def odQ : Nat → Nat
  | 0 => 1
  | j + 1 => odQ j * (2 * j + 3)
theorem odQ_mono : ∀ i j, odQ i ≤ odQ (i + j)
  | _, 0 => Nat.le_refl _
  | i, j + 1 => by
    rw [← Nat.add_assoc, odQ]
    exact Nat.le_trans (odQ_mono i j) (Nat.le_mul_of_pos_right _ (by omega))
theorem odd_dvd {a b : Nat} (h : a ∣ b) (hb : b % 2 = 1) : a % 2 = 1 := by
  obtain ⟨c, rfl⟩ := h
  rcases (show a % 2 = 0 ∨ a % 2 = 1 by omega) with e | e
  · rw [Nat.mul_mod, e, Nat.zero_mul] at hb; exact absurd hb (by decide)
  · exact e
theorem ffl_len : ∀ (f d rem j : Nat), 2 * j + 2 ≤ d → rem % 2 = 1 → rem * odQ j ≤ 4194304 → j + (ffl f d rem).length ≤ 7 := by
  intro f
  have hend : ∀ (rem j : Nat), rem % 2 = 1 → rem * odQ j ≤ 4194304 → j + (if 1 < rem then [rem] else ([] : List Nat)).length ≤ 7 := by
    intro rem j hr h
    by_cases h1 : 1 < rem
    · rw [if_pos h1]
      show j + 1 ≤ 7
      rcases Nat.lt_or_ge j 7 with h2 | h2
      · omega
      · have h3 := odQ_mono 7 (j - 7)
        rw [show 7 + (j - 7) = j by omega, show odQ 7 = 2027025 from rfl] at h3
        have h4 : 3 * 2027025 ≤ rem * odQ j := Nat.mul_le_mul (by omega) h3
        omega
    · rw [if_neg h1]
      show j + 0 ≤ 7
      rcases Nat.lt_or_ge j 8 with h2 | h2
      · omega
      · have h3 := odQ_mono 8 (j - 8)
        rw [show 8 + (j - 8) = j by omega, show odQ 8 = 34459425 from rfl] at h3
        have h4 : 1 * 34459425 ≤ rem * odQ j := Nat.mul_le_mul (by omega) h3
        omega
  induction f with
  | zero => intro d rem j _ hr h; exact hend rem j hr h
  | succ f ih =>
    intro d rem j hd hr h
    unfold ffl
    by_cases hdd : d * d ≤ rem
    · rw [if_pos hdd]
      by_cases hz : rem % d = 0
      · rw [if_pos hz, List.length_cons]
        have hdo : d % 2 = 1 := odd_dvd (Nat.dvd_of_mod_eq_zero hz) hr
        have h1 := ih (d + 1) (wof d 31 rem) (j + 1) (by omega) (odd_dvd (wof_dvd d 31 rem) hr) (by
          rw [odQ]
          have h2 : wof d 31 rem * d ≤ rem := wof_mul (f := 30) hz
          have h3 : wof d 31 rem * (odQ j * (2 * j + 3)) ≤ wof d 31 rem * (odQ j * d) := Nat.mul_le_mul_left _ (Nat.mul_le_mul_left _ (by omega))
          have h4 : wof d 31 rem * (odQ j * d) = wof d 31 rem * d * odQ j := by rw [Nat.mul_comm (odQ j) d, Nat.mul_assoc]
          have h5 : wof d 31 rem * d * odQ j ≤ rem * odQ j := Nat.mul_le_mul_right _ h2
          omega)
        omega
      · rw [if_neg hz]
        exact ih (d + 1) rem j (by omega) hr h
    · rw [if_neg hdd]
      exact hend rem j hr h
theorem wof_two {f n : Nat} (h : n % 2 = 0) : wof 2 (f + 1) n = wof 2 f (n / 2) := by
  rw [wof, if_pos h]
theorem facs_len {n : Nat} (h0 : 0 < n) (hn : n < 2 ^ 31) (h : n % 512 = 0) : (facs n).length ≤ 9 := by
  obtain ⟨m, rfl⟩ : ∃ m, n = 512 * m := ⟨n / 512, by omega⟩
  have e : wof 2 31 (512 * m) = wof 2 22 m := by
    rw [wof_two (by omega), wof_two (by omega), wof_two (by omega), wof_two (by omega), wof_two (by omega), wof_two (by omega), wof_two (by omega), wof_two (by omega), wof_two (by omega)]
    congr 1
    omega
  unfold facs
  rw [show (46341 : Nat) = 46340 + 1 from rfl, ffl, if_pos (by omega), if_pos (by omega), List.length_cons, e]
  have h1 := ffl_len 46340 (2 + 1) (wof 2 22 m) 0 (by decide) (by
    have := wof_not (d := 2) (by decide) 22 m (by omega) (by omega)
    omega) (by
    have := wof_le 2 22 m
    show wof 2 22 m * 1 ≤ _
    omega)
  omega
theorem ffl_pos : ∀ (f d rem : Nat), 2 ≤ d → rem < 2 ^ 31 → ∀ q ∈ ffl f d rem, 2 ≤ q ∧ q < 2 ^ 31
  | 0, d, rem, hd, hr, q, hq => by
    unfold ffl at hq
    split at hq
    · rw [List.mem_singleton] at hq; omega
    · cases hq
  | f + 1, d, rem, hd, hr, q, hq => by
    unfold ffl at hq
    split at hq
    · rename_i hdd
      split at hq
      · rcases List.mem_cons.mp hq with rfl | hq
        · have : q * 2 ≤ q * q := Nat.mul_le_mul_left q hd
          omega
        · exact ffl_pos f (d + 1) _ (by omega) (Nat.lt_of_le_of_lt (wof_le d 31 rem) hr) q hq
      · exact ffl_pos f (d + 1) rem (by omega) hr q hq
    · split at hq
      · rw [List.mem_singleton] at hq; omega
      · cases hq
theorem facs_pos {n : Nat} (hn : n < 2 ^ 31) : ∀ q ∈ facs n, 0 < q ∧ q < 2 ^ 31 := fun q hq => by
  have := ffl_pos 46341 2 n (by decide) hn q hq
  omega
end
section
abbrev rti : Room := { frames := 2, cells := 0, slots := 0, locals := 47 }
set_option maxRecDepth 100000 in
set_option maxHeartbeats 4000000 in
theorem c_times (l : Launch) {D : va_G} {tys : List (ClassId × FieldType)} {N : Nat} {ad : Nat → Nat} {ct : Nat → va_E} (hN : 20 ≤ N) {cJ cQ : ClassId} {p : Nat} {wn : Nat → Nat} {Mr Nw : Nat → Nat → Nat} (S : stX cJ cQ ad p wn Mr Nw ct) (ht : tys[0]? = some (cJ, .long)) (ht2 : tys[1]? = some (cQ, .array .long)) (hv : nvX p wn Mr Nw) (x y : Int64) :
    gMl l yX0_times wsX0_times rti D vwCl tys N ad [.ref (ad 0), .long x, .long y] ct (fun r ct1 => r = lN (fm p x * fm p y % p) ∧ ct1 = ct) := by
  refine gof_l (cc := cX0_times) (maxL := 5) (by decide) rfl (Nat.le_of_ble_eq_true rfl) ?_
  intro M sz C hlM hRM hr hsz
  have h0 : 0 < N := by omega
  have hp1 := hv.1
  have hp2 := hv.2.1
  have hx := fm_lt (p := p) (by omega) x
  have hy := fm_lt (p := p) (by omega) y
  have hmul : fm p x * fm p y < 2 ^ 62 := Nat.lt_of_lt_of_le (Nat.mul_lt_mul'' (Nat.lt_trans hx hp2) (Nat.lt_trans hy hp2)) (by decide)
  refine g_aload_n C dX0_times_0 (k := ?_)
  refine g_lload_n C dX0_times_1 (k := ?_)
  refine g_cVl (n := 1) (av := [.long x]) C 0 h0 S.1 rfl (by rw [hlM]; exact c_rest l hN S.1 x (by omega) hp2) gX0_times_X0_rest rfl ⟨rfl, rfl⟩ (by rw [hRM]; exact ⟨Nat.le_of_ble_eq_true rfl, Nat.le_of_ble_eq_true rfl⟩) (by rw [hRM]; exact ⟨Nat.le_of_ble_eq_true rfl, Nat.le_of_ble_eq_true rfl⟩) (Nat.le_of_ble_eq_true rfl) (by decide +kernel) rfl dX0_times_2 ?_
  rintro _ _ ⟨rfl, rfl⟩
  refine g_aload_n C dX0_times_5 (k := ?_)
  refine g_lload_n C dX0_times_6 (k := ?_)
  refine g_cVl (n := 1) (av := [.long y]) C 0 h0 S.1 rfl (by rw [hlM]; exact c_rest l hN S.1 y (by omega) hp2) gX0_times_X0_rest rfl ⟨rfl, rfl⟩ (by rw [hRM]; exact ⟨Nat.le_of_ble_eq_true rfl, Nat.le_of_ble_eq_true rfl⟩) (by rw [hRM]; exact ⟨Nat.le_of_ble_eq_true rfl, Nat.le_of_ble_eq_true rfl⟩) (Nat.le_of_ble_eq_true rfl) (by decide +kernel) rfl dX0_times_7 ?_
  rintro _ _ ⟨rfl, rfl⟩
  refine gN_lmul C dX0_times_10 ?_
  refine g_aload_n C dX0_times_11 (k := ?_)
  refine g_getf (Cn := RX0) (T := TX0) (n := 8) (ref := "WheelProducts") C 0 0 h0 S.1 rfl (by decide +kernel) (by decide) (by decide +kernel) (fun _ h => h) rfl dX0_times_12 ?_
  refine gN_lrem C (by omega) (by omega) (by omega) dX0_times_15 ?_
  exact g_lret C hr ⟨rfl, rfl⟩ dX0_times_16
abbrev rpo : Room := { frames := 6, cells := 1, slots := 6, locals := 82 }
set_option maxRecDepth 100000 in
set_option maxHeartbeats 4000000 in
theorem c_power {l : Launch} (hl : l.stackTraces = false) {D : va_G} {tys : List (ClassId × FieldType)} {N : Nat} {ad : Nat → Nat} {ct : Nat → va_E} (hN : 20 ≤ N) {cJ cQ : ClassId} {p : Nat} {wn : Nat → Nat} {Mr Nw : Nat → Nat → Nat} (S : stX cJ cQ ad p wn Mr Nw ct) (ht : tys[0]? = some (cJ, .long)) (ht2 : tys[1]? = some (cQ, .array .long)) (hv : nvX p wn Mr Nw) (x e : Int64) :
    gTl l yX0_power wsX0_power rpo 1 6 D vwCl tys N ad [.ref (ad 0), .long x, .long e] ct (fun r ct1 => ct1 = ct ∧ ∃ n, n < 2 ^ 63 ∧ e = lN n ∧ r = lN (fm p x ^ n % p)) (fun E ct1 => E = xIA ∧ ct1 = ct ∧ e < 0) := by
  refine gofT_l (cc := cX0_power) (maxL := 5) (by decide) rfl (Nat.le_of_ble_eq_true rfl) ?_
  intro M sz C hlM hRM hr hT hE
  have h0 : 0 < N := by omega
  have hp1 := hv.1
  have hp2 := hv.2.1
  refine g_lload_n C dX0_power_0 (k := ?_)
  refine g_lconst C (lN 0) dX0_power_1 (k := ?_)
  by_cases hneg : e < 0
  · refine g_lc_ge (tgt := 16) C dX0_power_2 dX0_power_3 (by decide) (fun h => absurd hneg (by rw [Int64.not_lt]; exact h)) (fun _ => ?_)
    exact g_throwS (E := xIA) (text := "the power is below 0") C hT (by rw [hlM]; exact hl) hE rfl (by decide +kernel) (by decide +kernel) (by decide +kernel) (by decide +kernel) (by decide +kernel) (by decide +kernel) (by decide +kernel) dX0_power_6 dX0_power_9 dX0_power_10 dX0_power_12 dX0_power_15 (by rw [hRM]; exact (Nat.le_of_ble_eq_true rfl)) (by rw [hRM]; exact (Nat.le_of_ble_eq_true rfl)) (by rw [hRM]; exact (Nat.le_of_ble_eq_true rfl)) (by rw [hRM]; exact (Nat.le_of_ble_eq_true rfl)) (Nat.le_of_ble_eq_true rfl) (Nat.le_of_ble_eq_true rfl) ⟨rfl, rfl, hneg⟩
  · obtain ⟨n, hn, rfl⟩ := pk_lOf hneg
    refine g_lcN_ge (tgt := 16) C hn (by decide) dX0_power_2 dX0_power_3 (by decide) (fun _ => ?_) (fun h => absurd h (by omega))
    refine g_aload_n C dX0_power_16 (k := ?_)
    refine g_lload_n C dX0_power_17 (k := ?_)
    refine g_cVl (n := 1) (av := [.long x]) C 0 h0 S.1 rfl (by rw [hlM]; exact c_rest l hN S.1 x (by omega) hp2) gX0_power_X0_rest rfl ⟨rfl, rfl⟩ (by rw [hRM]; exact ⟨Nat.le_of_ble_eq_true rfl, Nat.le_of_ble_eq_true rfl⟩) (by rw [hRM]; exact ⟨Nat.le_of_ble_eq_true rfl, Nat.le_of_ble_eq_true rfl⟩) (Nat.le_of_ble_eq_true rfl) (by decide +kernel) rfl dX0_power_18 ?_
    rintro _ _ ⟨rfl, rfl⟩
    refine g_lload_n C dX0_power_21 (k := ?_)
    refine g_aload_n C dX0_power_22 (k := ?_)
    refine g_getf (Cn := RX0) (T := TX0) (n := 8) (ref := "WheelProducts") C 0 0 h0 S.1 rfl (by decide +kernel) (by decide) (by decide +kernel) (fun _ h => h) rfl dX0_power_23 ?_
    refine g_cSl (n := 3) (av := [.long (lN (fm p x)), .long (lN n), .long (lN p)]) C (by rw [hlM]; exact c_powerModulo l (fm_lt (by omega) x) hn (by omega) hp2) gX0_power_X0_powerModulo rfl ⟨rfl, rfl⟩ (by rw [hRM]; exact ⟨Nat.le_of_ble_eq_true rfl, Nat.le_of_ble_eq_true rfl⟩) (by rw [hRM]; exact ⟨Nat.le_of_ble_eq_true rfl, Nat.le_of_ble_eq_true rfl⟩) (Nat.le_of_ble_eq_true rfl) (by decide +kernel) rfl dX0_power_26 ?_
    rintro _ _ ⟨rfl, rfl⟩
    exact gT_lret C hr (Nat.le_of_ble_eq_true rfl) (Nat.le_of_ble_eq_true rfl) ⟨rfl, n, hn, rfl, rfl⟩ dX0_power_29
set_option maxRecDepth 100000 in
set_option maxHeartbeats 4000000 in
theorem c_inverse {l : Launch} (hl : l.stackTraces = false) {D : va_G} {tys : List (ClassId × FieldType)} {N : Nat} {ad : Nat → Nat} {ct : Nat → va_E} (hN : 20 ≤ N) {cJ cQ : ClassId} {p : Nat} {wn : Nat → Nat} {Mr Nw : Nat → Nat → Nat} (S : stX cJ cQ ad p wn Mr Nw ct) (ht : tys[0]? = some (cJ, .long)) (ht2 : tys[1]? = some (cQ, .array .long)) (hv : nvX p wn Mr Nw) (x : Int64) :
    gTl l yX0_inverse wsX0_inverse rpo 1 6 D vwCl tys N ad [.ref (ad 0), .long x] ct (fun r ct1 => ct1 = ct ∧ fm p x ≠ 0 ∧ r = lN (fm p x ^ (p - 2) % p)) (fun E ct1 => E = xIA ∧ ct1 = ct ∧ fm p x = 0) := by
  refine gofT_l (cc := cX0_inverse) (maxL := 5) (by decide) rfl (Nat.le_of_ble_eq_true rfl) ?_
  intro M sz C hlM hRM hr hT hE
  have h0 : 0 < N := by omega
  have hp1 := hv.1
  have hp2 := hv.2.1
  have hx := fm_lt (p := p) (by omega) x
  refine g_aload_n C dX0_inverse_0 (k := ?_)
  refine g_lload_n C dX0_inverse_1 (k := ?_)
  refine g_cVl (n := 1) (av := [.long x]) C 0 h0 S.1 rfl (by rw [hlM]; exact c_rest l hN S.1 x (by omega) hp2) gX0_inverse_X0_rest rfl ⟨rfl, rfl⟩ (by rw [hRM]; exact ⟨Nat.le_of_ble_eq_true rfl, Nat.le_of_ble_eq_true rfl⟩) (by rw [hRM]; exact ⟨Nat.le_of_ble_eq_true rfl, Nat.le_of_ble_eq_true rfl⟩) (Nat.le_of_ble_eq_true rfl) (by decide +kernel) rfl dX0_inverse_2 ?_
  rintro _ _ ⟨rfl, rfl⟩
  refine g_lstore_n C dX0_inverse_5 (k := ?_)
  refine g_lload_n C dX0_inverse_6 (k := ?_)
  refine g_lconst C (lN 0) dX0_inverse_7 (k := ?_)
  by_cases hz : fm p x = 0
  · refine g_lcN_ne (tgt := 22) C (by omega) (by decide) dX0_inverse_8 dX0_inverse_9 (by decide) (fun h => absurd hz h) (fun _ => ?_)
    exact g_throwS (E := xIA) (text := "0 has no inverse") C hT (by rw [hlM]; exact hl) hE rfl (by decide +kernel) (by decide +kernel) (by decide +kernel) (by decide +kernel) (by decide +kernel) (by decide +kernel) (by decide +kernel) dX0_inverse_12 dX0_inverse_15 dX0_inverse_16 dX0_inverse_18 dX0_inverse_21 (by rw [hRM]; exact (Nat.le_of_ble_eq_true rfl)) (by rw [hRM]; exact (Nat.le_of_ble_eq_true rfl)) (by rw [hRM]; exact (Nat.le_of_ble_eq_true rfl)) (by rw [hRM]; exact (Nat.le_of_ble_eq_true rfl)) (Nat.le_of_ble_eq_true rfl) (Nat.le_of_ble_eq_true rfl) ⟨rfl, rfl, hz⟩
  · refine g_lcN_ne (tgt := 22) C (by omega) (by decide) dX0_inverse_8 dX0_inverse_9 (by decide) (fun _ => ?_) (fun h => absurd h hz)
    refine g_aload_n C dX0_inverse_22 (k := ?_)
    refine g_lload_n C dX0_inverse_23 (k := ?_)
    refine g_cVl (n := 1) (av := [.long (lN (fm p x))]) C 0 h0 S.1 rfl (by rw [hlM]; exact c_inverseOf l hN S.1 hx (by omega) hp2) gX0_inverse_X0_inverseOf rfl ⟨rfl, rfl⟩ (by rw [hRM]; exact ⟨Nat.le_of_ble_eq_true rfl, Nat.le_of_ble_eq_true rfl⟩) (by rw [hRM]; exact ⟨Nat.le_of_ble_eq_true rfl, Nat.le_of_ble_eq_true rfl⟩) (Nat.le_of_ble_eq_true rfl) (by decide +kernel) rfl dX0_inverse_24 ?_
    rintro _ _ ⟨rfl, rfl⟩
    exact gT_lret C hr (Nat.le_of_ble_eq_true rfl) (Nat.le_of_ble_eq_true rfl) ⟨rfl, hz, rfl⟩ dX0_inverse_27
/-- Horner: numbers m - 1 .. 0 -/
def hra (p : Nat) (v : Nat → Nat) (x : Nat) : Nat → Nat → Nat
  | 0, a => a
  | m + 1, a => hra p v x m ((a * x + v m) % p)
def hrn (p : Nat) (v : Nat → Nat) (x m : Nat) : Nat := hra p v x m 0
theorem hra_skip {p : Nat} {v : Nat → Nat} {x : Nat} : ∀ m, hra p v x m 0 = hra p v x (up1 v m) 0
  | 0 => rfl
  | m + 1 => by
    unfold up1
    by_cases h : v m = 0
    · rw [if_pos h, hra, h, Nat.zero_mul, Nat.add_zero, Nat.zero_mod]
      exact hra_skip m
    · rw [if_neg h]
theorem k_m1 : nI 0 - nI 1 < 0 := by decide
abbrev rat : Room := { frames := 7, cells := 1, slots := 6, locals := 104 }
set_option maxRecDepth 100000 in
set_option maxHeartbeats 4000000 in
theorem c_at {l : Launch} (hl : l.stackTraces = false) {D : va_G} {tys : List (ClassId × FieldType)} {N : Nat} {ad : Nat → Nat} {ct : Nat → va_E} (hN : 20 ≤ N) {cJ cQ : ClassId} {p : Nat} {wn : Nat → Nat} {Mr Nw : Nat → Nat → Nat} (S : stX cJ cQ ad p wn Mr Nw ct) (ht : tys[0]? = some (cJ, .long)) (ht2 : tys[1]? = some (cQ, .array .long)) (hv : nvX p wn Mr Nw) (x : Int32) (z : Int64) :
    gTl l yX0_at wsX0_at rat 1 6 D vwCl tys N ad [.ref (ad 0), .int x, .long z] ct (fun r ct1 => ct1 = ct ∧ ∃ i, i < 6 ∧ x = nI i ∧ r = lN (hrn p (Mr i) (fm p z) 512)) (fun E ct1 => E = xIO ∧ ct1 = ct ∧ ¬ ir x 6) := by
  refine gofT_l (cc := cX0_at) (maxL := 10) (by decide) rfl (Nat.le_of_ble_eq_true rfl) ?_
  intro M sz C hlM hRM hr hT hE
  have h0 : 0 < N := by omega
  have hp1 := hv.1
  have hp2 := hv.2.1
  have hx := fm_lt (p := p) (by omega) z
  refine g_iload_n C dX0_at_0 (k := ?_)
  refine gT_cSv (rmy := rck) (n := 1) (av := [.int x]) C hT hE (by rw [hlM]; exact c_checkRow hl x) gX0_at_X0_checkRow rfl ⟨rfl, rfl⟩ (by rw [hRM]; exact ⟨Nat.le_of_ble_eq_true rfl, Nat.le_of_ble_eq_true rfl⟩) (by rw [hRM]; exact ⟨Nat.le_of_ble_eq_true rfl, Nat.le_of_ble_eq_true rfl⟩) (Nat.le_of_ble_eq_true rfl) (by decide +kernel) rfl dX0_at_1 (Nat.le_of_ble_eq_true rfl) (Nat.le_of_ble_eq_true rfl) (by intro E c q; exact ⟨q.1, q.2.1, fun z => q.2.2 z⟩) ?_
  rintro ct ⟨rfl, i, hi, rfl⟩
  have hrow := S.2.2.2.1 i hi
  have hMr := fun k hk => hv.2.2.2.1 i k hi hk
  refine g_aload_n C dX0_at_4 (k := ?_)
  refine g_getf (Cn := RX0) (T := TX0) (n := 8) (ref := "WheelProducts") C 0 2 h0 S.1 rfl (by decide +kernel) (by decide) (by decide +kernel) (fun _ h => h) rfl dX0_at_5 ?_
  refine g_iload_n C dX0_at_8 (k := ?_)
  refine g_aald C 2 1 (by omega) S.2.2.1 ht2 rfl hi (by decide) (if_pos hi) dX0_at_9 ?_
  refine g_astore C dX0_at_10 (k := ?_)
  refine g_aload_n C dX0_at_12 (k := ?_)
  refine g_lload_n C dX0_at_13 (k := ?_)
  refine g_cVl (n := 1) (av := [.long z]) C 0 h0 S.1 rfl (by rw [hlM]; exact c_rest l hN S.1 z (by omega) hp2) gX0_at_X0_rest rfl ⟨rfl, rfl⟩ (by rw [hRM]; exact ⟨Nat.le_of_ble_eq_true rfl, Nat.le_of_ble_eq_true rfl⟩) (by rw [hRM]; exact ⟨Nat.le_of_ble_eq_true rfl, Nat.le_of_ble_eq_true rfl⟩) (Nat.le_of_ble_eq_true rfl) (by decide +kernel) rfl dX0_at_14 ?_
  rintro _ ct ⟨rfl, rfl⟩
  refine g_lstore C dX0_at_17 (k := ?_)
  refine g_lconst C (lN 0) dX0_at_19 (k := ?_)
  refine g_lstore C dX0_at_20 (k := ?_)
  refine g_aload C dX0_at_22 (k := ?_)
  refine g_cSi (n := 1) (av := [.ref (ad (3 + i))]) C (by rw [hlM]; exact c_usedPart l (by omega) hrow ht (by decide) (fun k hk => Nat.lt_trans (hMr k hk) (by omega))) gX0_at_X0_usedPart rfl ⟨rfl, rfl⟩ (by rw [hRM]; exact ⟨Nat.le_of_ble_eq_true rfl, Nat.le_of_ble_eq_true rfl⟩) (by rw [hRM]; exact ⟨Nat.le_of_ble_eq_true rfl, Nat.le_of_ble_eq_true rfl⟩) (Nat.le_of_ble_eq_true rfl) (by decide +kernel) rfl dX0_at_24 ?_
  rintro _ ct ⟨rfl, rfl⟩
  have hul := up1_le (Mr i) 512
  have hfin : hra p (Mr i) (fm p z) (up1 (Mr i) 512) 0 = hrn p (Mr i) (fm p z) 512 := (hra_skip 512).symm
  generalize up1 (Mr i) 512 = u at hul hfin ⊢
  have loop : ∀ (m a : Nat), m ≤ 512 → a < p → hra p (Mr i) (fm p z) m a = hrn p (Mr i) (fm p z) 512 → gW M D vwCl (ixA N ad sz) 10 1 6 (vx_MQ (gb M) (va_Ql (fun r ct1 => ct1 = ct ∧ ∃ i_1, i_1 < 6 ∧ nI i = nI i_1 ∧ r = lN (hrn p (Mr i_1) (fm p z) 512)) (gB D vwCl tys N ad (ixA N ad sz)) (ixA N ad sz)) (gXC D vwCl tys N ad (ixA N ad sz) (fun E ct1 => E = xIO ∧ ct1 = ct ∧ ¬ ir (nI i) 6)) (ga M) (gs M) 1 6 (ixA N ad sz)) N ad 31 [(0, some (.ref (ad 0))), (4, some (.ref (ad (3 + i)))), (5, some (.long (lN (fm p z)))), (7, some (.long (lN a))), (9, some (.int (nI m - nI 1)))] [] ct := by
    intro m
    induction m with
    | zero =>
      intro a _ ha hh
      refine g_iload C dX0_at_31 (k := ?_)
      refine g_if_lt (tgt := 60) C dX0_at_33 (by decide) (fun _ => ?_) (fun h => absurd k_m1 h)
      refine g_lload C dX0_at_60 (k := ?_)
      exact gT_lret C hr (Nat.le_of_ble_eq_true rfl) (Nat.le_of_ble_eq_true rfl) ⟨rfl, i, hi, rfl, by rw [← hh]; rfl⟩ dX0_at_62
    | succ m ih =>
      intro a hm ha hh
      have hvm := hMr m (by omega)
      have hmul : a * fm p z < 2 ^ 62 := Nat.lt_of_lt_of_le (Nat.mul_lt_mul'' (Nat.lt_trans ha hp2) (Nat.lt_trans hx hp2)) (by decide)
      have e1 : nI (m + 1) - nI 1 = nI m := by rw [pk_sub (by omega)]; rfl
      rw [e1]
      refine g_iload C dX0_at_31 (k := ?_)
      refine g_ifN_lt (tgt := 60) C (by omega) dX0_at_33 (by decide) (fun h => absurd h (by omega)) (fun _ => ?_)
      refine g_lload C dX0_at_36 (k := ?_)
      refine g_lload C dX0_at_38 (k := ?_)
      refine gN_lmul C dX0_at_40 ?_
      refine g_aload C dX0_at_41 (k := ?_)
      refine g_iload C dX0_at_43 (k := ?_)
      refine gN_lald C (3 + i) (by omega) hrow ht (by omega) (by decide) dX0_at_45 ?_
      refine gN_ladd C dX0_at_46 ?_
      refine g_aload_n C dX0_at_47 (k := ?_)
      refine g_getf (Cn := RX0) (T := TX0) (n := 8) (ref := "WheelProducts") C 0 0 h0 S.1 rfl (by decide +kernel) (by decide) (by decide +kernel) (fun _ h => h) rfl dX0_at_48 ?_
      refine gN_lrem C (by omega) (by omega) (by omega) dX0_at_51 ?_
      refine g_lstore C dX0_at_52 (k := ?_)
      refine g_iinc C (nI m - nI 1) dX0_at_54 (by rw [Int32.sub_eq_add_neg]; rfl) (k := ?_)
      refine g_goto (tgt := 31) C dX0_at_57 (k := ?_)
      exact g_l2 (ih ((a * fm p z + Mr i m) % p) (by omega) (Nat.mod_lt _ (by omega)) hh) ⟨Or.inr rfl, Or.inr rfl, Or.inr rfl, Or.inr rfl, Or.inr rfl, trivial⟩
  refine g_iconst C (nI 1) dX0_at_27 (k := ?_)
  refine g_isub C dX0_at_28 ?_
  refine g_istore C dX0_at_29 (k := ?_)
  exact g_l2 (loop u 0 hul (by omega) hfin) ⟨Or.inr rfl, Or.inr rfl, Or.inr rfl, Or.inr rfl, Or.inr rfl, trivial⟩
end
section
/-- 1, 2, 4, .. 512 -/
abbrev pw2 (x : Int32) : Prop := ∃ K, K < 10 ∧ x = nI (2 ^ K)
theorem pw2_tab : ∀ j, j < 513 → ((1 ≤ j ∧ j &&& (j - 1) = 0) ↔ ∃ K, K < 10 ∧ j = 2 ^ K) := by decide +kernel
theorem pw2_nI {j : Nat} (hj : j < 2 ^ 31) : pw2 (nI j) ↔ ∃ K, K < 10 ∧ j = 2 ^ K := by
  constructor
  · rintro ⟨K, hK, h⟩
    have h2 : 2 ^ K < 2 ^ 31 := Nat.pow_lt_pow_right (by decide) (by omega)
    exact ⟨K, hK, (nI_eq hj h2).mp h⟩
  · rintro ⟨K, hK, rfl⟩
    exact ⟨K, hK, rfl⟩
theorem pw2_hi {x : Int32} (h : pw2 x) : ∃ j, 1 ≤ j ∧ j < 513 ∧ x = nI j := by
  obtain ⟨K, hK, rfl⟩ := h
  have h2 : 2 ^ K ≤ 2 ^ 9 := Nat.pow_le_pow_right (by decide) (by omega)
  have h3 : 0 < 2 ^ K := Nat.pow_pos (by decide)
  exact ⟨2 ^ K, by omega, by omega, rfl⟩
set_option maxRecDepth 100000 in
set_option maxHeartbeats 4000000 in
theorem c_checkTurn {l : Launch} (hl : l.stackTraces = false) {D : va_G} {tys : List (ClassId × FieldType)} {N : Nat} {ad : Nat → Nat} {ct : Nat → va_E} {cl : List vw_C} (x : Int32) :
    gTv l yX0_checkTurn wsX0_checkTurn rck 1 6 D cl tys N ad [.int x] ct (fun ct1 => ct1 = ct ∧ pw2 x) (fun E ct1 => E = xIA ∧ ct1 = ct ∧ ¬ pw2 x) := by
  refine gofT_v (cc := cX0_checkTurn) (maxL := 1) (by decide) rfl (Nat.le_of_ble_eq_true rfl) ?_
  intro M sz C hlM hRM hr hT hE
  refine g_iload_n C dX0_checkTurn_0 (k := ?_)
  refine g_iconst C (nI 1) dX0_checkTurn_1 (k := ?_)
  by_cases hin : ir x 513
  · obtain ⟨j, hj, rfl⟩ := hin
    by_cases h1 : 1 ≤ j
    · refine g_icN_lt (tgt := 20) C (by omega) (by decide) dX0_checkTurn_2 (by decide) (fun h => absurd h (by omega)) (fun _ => ?_)
      refine g_iload_n C dX0_checkTurn_5 (k := ?_)
      refine g_sipush C (nI 512) dX0_checkTurn_6 (k := ?_)
      refine g_icN_gt (tgt := 20) C (by omega) (by decide) dX0_checkTurn_9 (by decide) (fun h => absurd h (by omega)) (fun _ => ?_)
      refine g_iload_n C dX0_checkTurn_12 (k := ?_)
      refine g_iload_n C dX0_checkTurn_13 (k := ?_)
      refine g_iconst C (nI 1) dX0_checkTurn_14 (k := ?_)
      refine gN_isub C h1 dX0_checkTurn_15 ?_
      refine gN_iand C dX0_checkTurn_16 ?_
      have hand : j &&& (j - 1) < 2 ^ 31 := Nat.lt_of_le_of_lt Nat.and_le_left (by omega)
      by_cases hz : j &&& (j - 1) = 0
      · refine g_ifN_eq (tgt := 30) C hand dX0_checkTurn_17 (by decide) (fun _ => ?_) (fun h => absurd hz h)
        exact gT_vret C hr (Nat.le_of_ble_eq_true rfl) (Nat.le_of_ble_eq_true rfl) ⟨rfl, (pw2_nI (by omega)).mpr ((pw2_tab j hj).mp ⟨h1, hz⟩)⟩ dX0_checkTurn_30
      · have hno : ¬ pw2 (nI j) := fun q => hz ((pw2_tab j hj).mpr ((pw2_nI (by omega)).mp q)).2
        refine g_ifN_eq (tgt := 30) C hand dX0_checkTurn_17 (by decide) (fun h => absurd h hz) (fun _ => ?_)
        exact g_throwS (E := xIA) (text := "n is none of 1, 2, 4, .. 512") C hT (by rw [hlM]; exact hl) hE rfl (by decide +kernel) (by decide +kernel) (by decide +kernel) (by decide +kernel) (by decide +kernel) (by decide +kernel) (by decide +kernel) dX0_checkTurn_20 dX0_checkTurn_23 dX0_checkTurn_24 dX0_checkTurn_26 dX0_checkTurn_29 (by rw [hRM]; exact (Nat.le_of_ble_eq_true rfl)) (by rw [hRM]; exact (Nat.le_of_ble_eq_true rfl)) (by rw [hRM]; exact (Nat.le_of_ble_eq_true rfl)) (by rw [hRM]; exact (Nat.le_of_ble_eq_true rfl)) (Nat.le_of_ble_eq_true rfl) (Nat.le_of_ble_eq_true rfl) ⟨rfl, rfl, hno⟩
    · have hno : ¬ pw2 (nI j) := fun q => h1 ((pw2_tab j hj).mpr ((pw2_nI (by omega)).mp q)).1
      refine g_icN_lt (tgt := 20) C (by omega) (by decide) dX0_checkTurn_2 (by decide) (fun _ => ?_) (fun h => absurd h (by omega))
      exact g_throwS (E := xIA) (text := "n is none of 1, 2, 4, .. 512") C hT (by rw [hlM]; exact hl) hE rfl (by decide +kernel) (by decide +kernel) (by decide +kernel) (by decide +kernel) (by decide +kernel) (by decide +kernel) (by decide +kernel) dX0_checkTurn_20 dX0_checkTurn_23 dX0_checkTurn_24 dX0_checkTurn_26 dX0_checkTurn_29 (by rw [hRM]; exact (Nat.le_of_ble_eq_true rfl)) (by rw [hRM]; exact (Nat.le_of_ble_eq_true rfl)) (by rw [hRM]; exact (Nat.le_of_ble_eq_true rfl)) (by rw [hRM]; exact (Nat.le_of_ble_eq_true rfl)) (Nat.le_of_ble_eq_true rfl) (Nat.le_of_ble_eq_true rfl) ⟨rfl, rfl, hno⟩
  · have hno : ¬ pw2 x := fun q => by
      obtain ⟨j, -, hj, hx⟩ := pw2_hi q
      exact hin ⟨j, hj, hx⟩
    refine g_ic_lt (tgt := 20) C dX0_checkTurn_2 (by decide) (fun _ => ?_) (fun h1 => ?_)
    · exact g_throwS (E := xIA) (text := "n is none of 1, 2, 4, .. 512") C hT (by rw [hlM]; exact hl) hE rfl (by decide +kernel) (by decide +kernel) (by decide +kernel) (by decide +kernel) (by decide +kernel) (by decide +kernel) (by decide +kernel) dX0_checkTurn_20 dX0_checkTurn_23 dX0_checkTurn_24 dX0_checkTurn_26 dX0_checkTurn_29 (by rw [hRM]; exact (Nat.le_of_ble_eq_true rfl)) (by rw [hRM]; exact (Nat.le_of_ble_eq_true rfl)) (by rw [hRM]; exact (Nat.le_of_ble_eq_true rfl)) (by rw [hRM]; exact (Nat.le_of_ble_eq_true rfl)) (Nat.le_of_ble_eq_true rfl) (Nat.le_of_ble_eq_true rfl) ⟨rfl, rfl, hno⟩
    · refine g_iload_n C dX0_checkTurn_5 (k := ?_)
      refine g_sipush C (nI 512) dX0_checkTurn_6 (k := ?_)
      refine g_ic_gt (tgt := 20) C dX0_checkTurn_9 (by decide) (fun _ => ?_) (fun h2 => ?_)
      · exact g_throwS (E := xIA) (text := "n is none of 1, 2, 4, .. 512") C hT (by rw [hlM]; exact hl) hE rfl (by decide +kernel) (by decide +kernel) (by decide +kernel) (by decide +kernel) (by decide +kernel) (by decide +kernel) (by decide +kernel) dX0_checkTurn_20 dX0_checkTurn_23 dX0_checkTurn_24 dX0_checkTurn_26 dX0_checkTurn_29 (by rw [hRM]; exact (Nat.le_of_ble_eq_true rfl)) (by rw [hRM]; exact (Nat.le_of_ble_eq_true rfl)) (by rw [hRM]; exact (Nat.le_of_ble_eq_true rfl)) (by rw [hRM]; exact (Nat.le_of_ble_eq_true rfl)) (Nat.le_of_ble_eq_true rfl) (Nat.le_of_ble_eq_true rfl) ⟨rfl, rfl, hno⟩
      · exfalso
        rcases pk_ix x (n := 513) (by decide) with h | h | ⟨j, hj, rfl⟩
        · exact h1 (Int32.lt_trans h (by decide))
        · exact h2 (Int32.lt_of_lt_of_le (by decide) h)
        · exact hin ⟨j, hj, rfl⟩
abbrev rtu : Room := { frames := 7, cells := 2, slots := 12, locals := 104 }
set_option maxRecDepth 100000 in
set_option maxHeartbeats 4000000 in
theorem c_turn {l : Launch} (hl : l.stackTraces = false) {D : va_G} {tys : List (ClassId × FieldType)} {N : Nat} {ad : Nat → Nat} {ct : Nat → va_E} (hN : 20 ≤ N) {cJ cQ : ClassId} {p : Nat} {wn : Nat → Nat} {Mr Nw : Nat → Nat → Nat} (S : stX cJ cQ ad p wn Mr Nw ct) (ht : tys[0]? = some (cJ, .long)) (ht2 : tys[1]? = some (cQ, .array .long)) (hv : nvX p wn Mr Nw) (x y b : Int32) :
    gTv l yX0_turn wsX0_turn rtu 2 12 D vwCl tys N ad [.ref (ad 0), .int x, .int y, .int b] ct (fun ct1 => ∃ i K, i < 6 ∧ K < 10 ∧ x = nI i ∧ y = nI (2 ^ K) ∧ ct1 = va_up ct (3 + i) (LN cJ 512 (if b = 0 then tf p wn K (Mr i) K else tb p wn K (Mr i)))) (fun E ct1 => ct1 = ct ∧ ((E = xIO ∧ ¬ ir x 6) ∨ (E = xIA ∧ ir x 6 ∧ ¬ pw2 y))) := by
  refine gofT_v (cc := cX0_turn) (maxL := 4) (by decide) rfl (Nat.le_of_ble_eq_true rfl) ?_
  intro M sz C hlM hRM hr hT hE
  have h0 : 0 < N := by omega
  have hp1 := hv.1
  have hp2 := hv.2.1
  refine g_iload_n C dX0_turn_0 (k := ?_)
  refine gT_cSv (rmy := rck) (n := 1) (av := [.int x]) C hT hE (by rw [hlM]; exact c_checkRow hl x) gX0_turn_X0_checkRow rfl ⟨rfl, rfl⟩ (by rw [hRM]; exact ⟨Nat.le_of_ble_eq_true rfl, Nat.le_of_ble_eq_true rfl⟩) (by rw [hRM]; exact ⟨Nat.le_of_ble_eq_true rfl, Nat.le_of_ble_eq_true rfl⟩) (Nat.le_of_ble_eq_true rfl) (by decide +kernel) rfl dX0_turn_1 (Nat.le_of_ble_eq_true rfl) (Nat.le_of_ble_eq_true rfl) (by intro E c q; exact ⟨q.2.1, Or.inl ⟨q.1, q.2.2⟩⟩) ?_
  rintro ct ⟨rfl, i, hi, rfl⟩
  have hrow := S.2.2.2.1 i hi
  refine g_iload_n C dX0_turn_4 (k := ?_)
  refine gT_cSv (rmy := rck) (n := 1) (av := [.int y]) C hT hE (by rw [hlM]; exact c_checkTurn hl y) gX0_turn_X0_checkTurn rfl ⟨rfl, rfl⟩ (by rw [hRM]; exact ⟨Nat.le_of_ble_eq_true rfl, Nat.le_of_ble_eq_true rfl⟩) (by rw [hRM]; exact ⟨Nat.le_of_ble_eq_true rfl, Nat.le_of_ble_eq_true rfl⟩) (Nat.le_of_ble_eq_true rfl) (by decide +kernel) rfl dX0_turn_5 (Nat.le_of_ble_eq_true rfl) (Nat.le_of_ble_eq_true rfl) (by intro E c q; exact ⟨q.2.1, Or.inr ⟨q.1, ⟨i, hi, rfl⟩, q.2.2⟩⟩) ?_
  rintro ct ⟨rfl, K, hK, rfl⟩
  have hKn : 2 ^ K ≤ 512 := show 2 ^ K ≤ 2 ^ 9 from Nat.pow_le_pow_right (by decide) (by omega)
  refine g_iload_n C dX0_turn_8 (k := ?_)
  refine g_if_eq (tgt := 26) C dX0_turn_9 (by decide) (fun hb => ?_) (fun hb => ?_)
  · refine g_aload_n C dX0_turn_26 (k := ?_)
    refine g_aload_n C dX0_turn_27 (k := ?_)
    refine g_getf (Cn := RX0) (T := TX0) (n := 8) (ref := "WheelProducts") C 0 2 h0 S.1 rfl (by decide +kernel) (by decide) (by decide +kernel) (fun _ h => h) rfl dX0_turn_28 ?_
    refine g_iload_n C dX0_turn_31 (k := ?_)
    refine g_aald C 2 1 (by omega) S.2.2.1 ht2 rfl hi (by decide) (if_pos hi) dX0_turn_32 ?_
    refine g_iload_n C dX0_turn_33 (k := ?_)
    refine g_cVv (n := 2) (av := [.ref (ad (3 + i)), .int (nI (2 ^ K))]) C 0 h0 S.1 rfl (by rw [hlM]; exact c_turnForward l hN (by omega) (by omega) (by omega) S.1 S.2.1 hrow ht (by omega) hp2 (by omega) (fun k hk => hv.2.2.2.1 i k hi (by omega)) hv.2.2.1) gX0_turn_X0_turnForward rfl ⟨rfl, rfl⟩ (by rw [hRM]; exact ⟨Nat.le_of_ble_eq_true rfl, Nat.le_of_ble_eq_true rfl⟩) (by rw [hRM]; exact ⟨Nat.le_of_ble_eq_true rfl, Nat.le_of_ble_eq_true rfl⟩) (Nat.le_of_ble_eq_true rfl) (by decide +kernel) rfl dX0_turn_34 ?_
    rintro _ rfl
    exact gT_vret C hr (Nat.le_of_ble_eq_true rfl) (Nat.le_of_ble_eq_true rfl) ⟨i, K, hi, hK, rfl, rfl, by rw [if_pos hb]⟩ dX0_turn_37
  · refine g_aload_n C dX0_turn_12 (k := ?_)
    refine g_aload_n C dX0_turn_13 (k := ?_)
    refine g_getf (Cn := RX0) (T := TX0) (n := 8) (ref := "WheelProducts") C 0 2 h0 S.1 rfl (by decide +kernel) (by decide) (by decide +kernel) (fun _ h => h) rfl dX0_turn_14 ?_
    refine g_iload_n C dX0_turn_17 (k := ?_)
    refine g_aald C 2 1 (by omega) S.2.2.1 ht2 rfl hi (by decide) (if_pos hi) dX0_turn_18 ?_
    refine g_iload_n C dX0_turn_19 (k := ?_)
    refine g_cVv (n := 2) (av := [.ref (ad (3 + i)), .int (nI (2 ^ K))]) C 0 h0 S.1 rfl (by rw [hlM]; exact c_turnBackward l hN (by omega) (by omega) (by omega) S.1 S.2.1 hrow ht hp1 hp2 (by omega) (fun k hk => hv.2.2.2.1 i k hi (by omega)) hv.2.2.1) gX0_turn_X0_turnBackward rfl ⟨rfl, rfl⟩ (by rw [hRM]; exact ⟨Nat.le_of_ble_eq_true rfl, Nat.le_of_ble_eq_true rfl⟩) (by rw [hRM]; exact ⟨Nat.le_of_ble_eq_true rfl, Nat.le_of_ble_eq_true rfl⟩) (Nat.le_of_ble_eq_true rfl) (by decide +kernel) rfl dX0_turn_20 ?_
    rintro _ rfl
    refine g_goto (tgt := 37) C dX0_turn_23 (k := ?_)
    exact gT_vret C hr (Nat.le_of_ble_eq_true rfl) (Nat.le_of_ble_eq_true rfl) ⟨i, K, hi, hK, rfl, rfl, by rw [if_neg hb]⟩ dX0_turn_37
abbrev rpr : Room := { frames := 7, cells := 4, slots := 24, locals := 126 }
set_option maxRecDepth 100000 in
set_option maxHeartbeats 4000000 in
theorem c_product {l : Launch} (hl : l.stackTraces = false) {D : va_G} {tys : List (ClassId × FieldType)} {N : Nat} {ad : Nat → Nat} {ct : Nat → va_E} (hN : 20 ≤ N) {cJ cQ : ClassId} {p : Nat} {wn : Nat → Nat} {Mr Nw : Nat → Nat → Nat} (S : stX cJ cQ ad p wn Mr Nw ct) (ht : tys[0]? = some (cJ, .long)) (ht2 : tys[1]? = some (cQ, .array .long)) (hv : nvX p wn Mr Nw) (x y z : Int32) :
    gTi l yX0_product wsX0_product rpr 4 24 D vwCl tys N ad [.ref (ad 0), .int x, .int y, .int z] ct (fun r ct1 => ∃ t i j, t < 6 ∧ i < 6 ∧ j < 6 ∧ x = nI t ∧ y = nI i ∧ z = nI j ∧ (((up1 (Mr i) 512 = 0 ∨ up1 (Mr j) 512 = 0) ∧ r = nI 0 ∧ ct1 = va_up ct (3 + t) (LN cJ 512 (fun _ => 0))) ∨ (up1 (Mr i) 512 ≠ 0 ∧ up1 (Mr j) 512 ≠ 0 ∧ r = nI (up1 (Mr i) 512 + up1 (Mr j) 512 - 1) ∧ ∃ K lf1 rt1, K ≤ 9 ∧ up1 (Mr i) 512 + up1 (Mr j) 512 - 1 ≤ 2 ^ K ∧ ct1 = va_up (va_up (va_up ct 17 (LN cJ 512 lf1)) 18 (LN cJ 512 rt1)) (3 + t) (LN cJ 512 (mr p wn K (Mr i) (Mr j)))))) (fun E ct1 => ct1 = ct ∧ ((E = xIO ∧ ¬ (ir x 6 ∧ ir y 6 ∧ ir z 6)) ∨ (E = xUO ∧ ∃ t i j, t < 6 ∧ i < 6 ∧ j < 6 ∧ x = nI t ∧ y = nI i ∧ z = nI j ∧ up1 (Mr i) 512 ≠ 0 ∧ up1 (Mr j) 512 ≠ 0 ∧ 512 < up1 (Mr i) 512 + up1 (Mr j) 512 - 1))) := by
  refine gofT_i (cc := cX0_product) (maxL := 7) (by decide) rfl (Nat.le_of_ble_eq_true rfl) ?_
  intro M sz C hlM hRM hr hT hE
  have h0 : 0 < N := by omega
  have hp1 := hv.1
  have hp2 := hv.2.1
  refine g_iload_n C dX0_product_0 (k := ?_)
  refine gT_cSv (rmy := rck) (n := 1) (av := [.int x]) C hT hE (by rw [hlM]; exact c_checkRow hl x) gX0_product_X0_checkRow rfl ⟨rfl, rfl⟩ (by rw [hRM]; exact ⟨Nat.le_of_ble_eq_true rfl, Nat.le_of_ble_eq_true rfl⟩) (by rw [hRM]; exact ⟨Nat.le_of_ble_eq_true rfl, Nat.le_of_ble_eq_true rfl⟩) (Nat.le_of_ble_eq_true rfl) (by decide +kernel) rfl dX0_product_1 (Nat.le_of_ble_eq_true rfl) (Nat.le_of_ble_eq_true rfl) (by intro E c q; exact ⟨q.2.1, Or.inl ⟨q.1, fun z => q.2.2 z.1⟩⟩) ?_
  rintro ct ⟨rfl, t, ht6, rfl⟩
  refine g_iload_n C dX0_product_4 (k := ?_)
  refine gT_cSv (rmy := rck) (n := 1) (av := [.int y]) C hT hE (by rw [hlM]; exact c_checkRow hl y) gX0_product_X0_checkRow rfl ⟨rfl, rfl⟩ (by rw [hRM]; exact ⟨Nat.le_of_ble_eq_true rfl, Nat.le_of_ble_eq_true rfl⟩) (by rw [hRM]; exact ⟨Nat.le_of_ble_eq_true rfl, Nat.le_of_ble_eq_true rfl⟩) (Nat.le_of_ble_eq_true rfl) (by decide +kernel) rfl dX0_product_5 (Nat.le_of_ble_eq_true rfl) (Nat.le_of_ble_eq_true rfl) (by intro E c q; exact ⟨q.2.1, Or.inl ⟨q.1, fun z => q.2.2 z.2.1⟩⟩) ?_
  rintro ct ⟨rfl, i, hi, rfl⟩
  refine g_iload_n C dX0_product_8 (k := ?_)
  refine gT_cSv (rmy := rck) (n := 1) (av := [.int z]) C hT hE (by rw [hlM]; exact c_checkRow hl z) gX0_product_X0_checkRow rfl ⟨rfl, rfl⟩ (by rw [hRM]; exact ⟨Nat.le_of_ble_eq_true rfl, Nat.le_of_ble_eq_true rfl⟩) (by rw [hRM]; exact ⟨Nat.le_of_ble_eq_true rfl, Nat.le_of_ble_eq_true rfl⟩) (Nat.le_of_ble_eq_true rfl) (by decide +kernel) rfl dX0_product_9 (Nat.le_of_ble_eq_true rfl) (Nat.le_of_ble_eq_true rfl) (by intro E c q; exact ⟨q.2.1, Or.inl ⟨q.1, fun z => q.2.2 z.2.2⟩⟩) ?_
  rintro ct ⟨rfl, j, hj, rfl⟩
  have hirow := S.2.2.2.1 i hi
  have hjrow := S.2.2.2.1 j hj
  have htrow := S.2.2.2.1 t ht6
  refine g_aload_n C dX0_product_12 (k := ?_)
  refine g_getf (Cn := RX0) (T := TX0) (n := 8) (ref := "WheelProducts") C 0 2 h0 S.1 rfl (by decide +kernel) (by decide) (by decide +kernel) (fun _ h => h) rfl dX0_product_13 ?_
  refine g_iload_n C dX0_product_16 (k := ?_)
  refine g_aald C 2 1 (by omega) S.2.2.1 ht2 rfl hi (by decide) (if_pos hi) dX0_product_17 ?_
  refine g_cSi (n := 1) (av := [.ref (ad (3 + i))]) C (by rw [hlM]; exact c_usedPart l (by omega) hirow ht (by decide) (fun k hk => Nat.lt_trans (hv.2.2.2.1 i k hi hk) (by omega))) gX0_product_X0_usedPart rfl ⟨rfl, rfl⟩ (by rw [hRM]; exact ⟨Nat.le_of_ble_eq_true rfl, Nat.le_of_ble_eq_true rfl⟩) (by rw [hRM]; exact ⟨Nat.le_of_ble_eq_true rfl, Nat.le_of_ble_eq_true rfl⟩) (Nat.le_of_ble_eq_true rfl) (by decide +kernel) rfl dX0_product_18 ?_
  rintro _ ct ⟨rfl, rfl⟩
  refine g_istore C dX0_product_21 (k := ?_)
  refine g_aload_n C dX0_product_23 (k := ?_)
  refine g_getf (Cn := RX0) (T := TX0) (n := 8) (ref := "WheelProducts") C 0 2 h0 S.1 rfl (by decide +kernel) (by decide) (by decide +kernel) (fun _ h => h) rfl dX0_product_24 ?_
  refine g_iload_n C dX0_product_27 (k := ?_)
  refine g_aald C 2 1 (by omega) S.2.2.1 ht2 rfl hj (by decide) (if_pos hj) dX0_product_28 ?_
  refine g_cSi (n := 1) (av := [.ref (ad (3 + j))]) C (by rw [hlM]; exact c_usedPart l (by omega) hjrow ht (by decide) (fun k hk => Nat.lt_trans (hv.2.2.2.1 j k hj hk) (by omega))) gX0_product_X0_usedPart rfl ⟨rfl, rfl⟩ (by rw [hRM]; exact ⟨Nat.le_of_ble_eq_true rfl, Nat.le_of_ble_eq_true rfl⟩) (by rw [hRM]; exact ⟨Nat.le_of_ble_eq_true rfl, Nat.le_of_ble_eq_true rfl⟩) (Nat.le_of_ble_eq_true rfl) (by decide +kernel) rfl dX0_product_29 ?_
  rintro _ ct ⟨rfl, rfl⟩
  have hul := up1_le (Mr i) 512
  have hvl := up1_le (Mr j) 512
  refine g_istore C dX0_product_32 (k := ?_)
  refine g_iload C dX0_product_34 (k := ?_)
  by_cases hz1 : up1 (Mr i) 512 = 0
  · refine g_ifN_eq (tgt := 44) C (by omega) dX0_product_36 (by decide) (fun _ => ?_) (fun h => absurd hz1 h)
    refine g_aload_n C dX0_product_44 (k := ?_)
    refine g_getf (Cn := RX0) (T := TX0) (n := 8) (ref := "WheelProducts") C 0 2 h0 S.1 rfl (by decide +kernel) (by decide) (by decide +kernel) (fun _ h => h) rfl dX0_product_45 ?_
    refine g_iload_n C dX0_product_48 (k := ?_)
    refine g_aald C 2 1 (by omega) S.2.2.1 ht2 rfl ht6 (by decide) (if_pos ht6) dX0_product_49 ?_
    refine g_lconst C (lN 0) dX0_product_50 (k := ?_)
    refine g_cSv (n := 2) (av := [.ref (ad (3 + t)), .long (lN 0)]) C (by rw [hlM]; exact c_fill l (by omega) htrow ht (by decide)) gX0_product_J7_fill_d0a16 rfl ⟨rfl, rfl⟩ (by rw [hRM]; exact ⟨Nat.le_of_ble_eq_true rfl, Nat.le_of_ble_eq_true rfl⟩) (by rw [hRM]; exact ⟨Nat.le_of_ble_eq_true rfl, Nat.le_of_ble_eq_true rfl⟩) (Nat.le_of_ble_eq_true rfl) (by decide +kernel) rfl dX0_product_51 ?_
    rintro _ rfl
    refine g_iconst C (nI 0) dX0_product_54 (k := ?_)
    exact gT_iret C hr (Nat.le_of_ble_eq_true rfl) (Nat.le_of_ble_eq_true rfl) ⟨t, i, j, ht6, hi, hj, rfl, rfl, rfl, Or.inl ⟨Or.inl hz1, rfl, rfl⟩⟩ dX0_product_55
  · refine g_ifN_eq (tgt := 44) C (by omega) dX0_product_36 (by decide) (fun h => absurd h hz1) (fun _ => ?_)
    refine g_iload C dX0_product_39 (k := ?_)
    by_cases hz2 : up1 (Mr j) 512 = 0
    · refine g_ifN_ne (tgt := 56) C (by omega) dX0_product_41 (by decide) (fun h => absurd hz2 h) (fun _ => ?_)
      refine g_aload_n C dX0_product_44 (k := ?_)
      refine g_getf (Cn := RX0) (T := TX0) (n := 8) (ref := "WheelProducts") C 0 2 h0 S.1 rfl (by decide +kernel) (by decide) (by decide +kernel) (fun _ h => h) rfl dX0_product_45 ?_
      refine g_iload_n C dX0_product_48 (k := ?_)
      refine g_aald C 2 1 (by omega) S.2.2.1 ht2 rfl ht6 (by decide) (if_pos ht6) dX0_product_49 ?_
      refine g_lconst C (lN 0) dX0_product_50 (k := ?_)
      refine g_cSv (n := 2) (av := [.ref (ad (3 + t)), .long (lN 0)]) C (by rw [hlM]; exact c_fill l (by omega) htrow ht (by decide)) gX0_product_J7_fill_d0a16 rfl ⟨rfl, rfl⟩ (by rw [hRM]; exact ⟨Nat.le_of_ble_eq_true rfl, Nat.le_of_ble_eq_true rfl⟩) (by rw [hRM]; exact ⟨Nat.le_of_ble_eq_true rfl, Nat.le_of_ble_eq_true rfl⟩) (Nat.le_of_ble_eq_true rfl) (by decide +kernel) rfl dX0_product_51 ?_
      rintro _ rfl
      refine g_iconst C (nI 0) dX0_product_54 (k := ?_)
      exact gT_iret C hr (Nat.le_of_ble_eq_true rfl) (Nat.le_of_ble_eq_true rfl) ⟨t, i, j, ht6, hi, hj, rfl, rfl, rfl, Or.inl ⟨Or.inr hz2, rfl, rfl⟩⟩ dX0_product_55
    · refine g_ifN_ne (tgt := 56) C (by omega) dX0_product_41 (by decide) (fun _ => ?_) (fun h => absurd h hz2)
      refine g_iload C dX0_product_56 (k := ?_)
      refine g_iload C dX0_product_58 (k := ?_)
      refine gN_iadd C dX0_product_60 ?_
      refine g_iconst C (nI 1) dX0_product_61 (k := ?_)
      refine gN_isub C (by omega) dX0_product_62 ?_
      refine g_istore C dX0_product_63 (k := ?_)
      refine g_iload C dX0_product_65 (k := ?_)
      refine g_sipush C (nI 512) dX0_product_67 (k := ?_)
      by_cases hbig : 512 < up1 (Mr i) 512 + up1 (Mr j) 512 - 1
      · refine g_icN_le (tgt := 83) C (by omega) (by decide) dX0_product_70 (by decide) (fun h => absurd h (by omega)) (fun _ => ?_)
        exact g_throwS (E := xUO) (text := "the product has more than 512 coefficients") C hT (by rw [hlM]; exact hl) hE rfl (by decide +kernel) (by decide +kernel) (by decide +kernel) (by decide +kernel) (by decide +kernel) (by decide +kernel) (by decide +kernel) dX0_product_73 dX0_product_76 dX0_product_77 dX0_product_79 dX0_product_82 (by rw [hRM]; exact (Nat.le_of_ble_eq_true rfl)) (by rw [hRM]; exact (Nat.le_of_ble_eq_true rfl)) (by rw [hRM]; exact (Nat.le_of_ble_eq_true rfl)) (by rw [hRM]; exact (Nat.le_of_ble_eq_true rfl)) (Nat.le_of_ble_eq_true rfl) (Nat.le_of_ble_eq_true rfl) ⟨rfl, Or.inr ⟨rfl, t, i, j, ht6, hi, hj, rfl, rfl, rfl, hz1, hz2, hbig⟩⟩
      · refine g_icN_le (tgt := 83) C (by omega) (by decide) dX0_product_70 (by decide) (fun _ => ?_) (fun h => absurd h (by omega))
        refine g_aload_n C dX0_product_83 (k := ?_)
        refine g_aload_n C dX0_product_84 (k := ?_)
        refine g_getf (Cn := RX0) (T := TX0) (n := 8) (ref := "WheelProducts") C 0 2 h0 S.1 rfl (by decide +kernel) (by decide) (by decide +kernel) (fun _ h => h) rfl dX0_product_85 ?_
        refine g_iload_n C dX0_product_88 (k := ?_)
        refine g_aald C 2 1 (by omega) S.2.2.1 ht2 rfl ht6 (by decide) (if_pos ht6) dX0_product_89 ?_
        refine g_aload_n C dX0_product_90 (k := ?_)
        refine g_getf (Cn := RX0) (T := TX0) (n := 8) (ref := "WheelProducts") C 0 2 h0 S.1 rfl (by decide +kernel) (by decide) (by decide +kernel) (fun _ h => h) rfl dX0_product_91 ?_
        refine g_iload_n C dX0_product_94 (k := ?_)
        refine g_aald C 2 1 (by omega) S.2.2.1 ht2 rfl hi (by decide) (if_pos hi) dX0_product_95 ?_
        refine g_aload_n C dX0_product_96 (k := ?_)
        refine g_getf (Cn := RX0) (T := TX0) (n := 8) (ref := "WheelProducts") C 0 2 h0 S.1 rfl (by decide +kernel) (by decide) (by decide +kernel) (fun _ h => h) rfl dX0_product_97 ?_
        refine g_iload_n C dX0_product_100 (k := ?_)
        refine g_aald C 2 1 (by omega) S.2.2.1 ht2 rfl hj (by decide) (if_pos hj) dX0_product_101 ?_
        refine g_iload C dX0_product_102 (k := ?_)
        refine g_cSi (n := 1) (av := [.int (nI (up1 (Mr i) 512 + up1 (Mr j) 512 - 1))]) C (by rw [hlM]; exact c_turnThatHolds l (by omega)) gX0_product_X0_turnThatHolds rfl ⟨rfl, rfl⟩ (by rw [hRM]; exact ⟨Nat.le_of_ble_eq_true rfl, Nat.le_of_ble_eq_true rfl⟩) (by rw [hRM]; exact ⟨Nat.le_of_ble_eq_true rfl, Nat.le_of_ble_eq_true rfl⟩) (Nat.le_of_ble_eq_true rfl) (by decide +kernel) rfl dX0_product_104 ?_
        rintro _ ct ⟨⟨K, hK, hKl, rfl⟩, rfl⟩
        have hKn : 2 ^ K ≤ 512 := show 2 ^ K ≤ 2 ^ 9 from Nat.pow_le_pow_right (by decide) hK
        obtain ⟨lf, el⟩ := S.2.2.2.2.2.2.2.1
        obtain ⟨rt, er⟩ := S.2.2.2.2.2.2.2.2.1
        refine g_cVv (n := 4) (av := [.ref (ad (3 + t)), .ref (ad (3 + i)), .ref (ad (3 + j)), .int (nI (2 ^ K))]) C 0 h0 S.1 rfl (by rw [hlM]; exact c_multiplyRows l hN (by omega) (by omega) (by omega) S.1 S.2.1 hirow hjrow htrow el er ht hp1 hp2 hK (fun k hk => hv.2.2.2.1 i k hi (by omega)) (fun k hk => hv.2.2.2.1 j k hj (by omega)) hv.2.2.1) gX0_product_X0_multiplyRows rfl ⟨rfl, rfl⟩ (by rw [hRM]; exact ⟨Nat.le_of_ble_eq_true rfl, Nat.le_of_ble_eq_true rfl⟩) (by rw [hRM]; exact ⟨Nat.le_of_ble_eq_true rfl, Nat.le_of_ble_eq_true rfl⟩) (Nat.le_of_ble_eq_true rfl) (by decide +kernel) rfl dX0_product_107 ?_
        rintro _ ⟨lf1, rt1, rfl⟩
        refine g_iload C dX0_product_110 (k := ?_)
        exact gT_iret C hr (Nat.le_of_ble_eq_true rfl) (Nat.le_of_ble_eq_true rfl) ⟨t, i, j, ht6, hi, hj, rfl, rfl, rfl, Or.inr ⟨hz1, hz2, rfl, K, lf1, rt1, hK, hKl, rfl⟩⟩ dX0_product_112
abbrev rmu : Room := { frames := 7, cells := 4, slots := 24, locals := 126 }
set_option maxRecDepth 100000 in
set_option maxHeartbeats 4000000 in
theorem c_multiply {l : Launch} (hl : l.stackTraces = false) {D : va_G} {tys : List (ClassId × FieldType)} {N : Nat} {ad : Nat → Nat} {ct : Nat → va_E} (hN : 20 ≤ N) {cJ cQ : ClassId} {p : Nat} {wn : Nat → Nat} {Mr Nw : Nat → Nat → Nat} (S : stX cJ cQ ad p wn Mr Nw ct) (ht : tys[0]? = some (cJ, .long)) (ht2 : tys[1]? = some (cQ, .array .long)) (hv : nvX p wn Mr Nw) (x y z : Int32) :
    gTi l yX0_multiply wsX0_multiply rmu 4 24 D vwCl tys N ad [.ref (ad 0), .int x, .int y, .int z] ct (fun r ct1 => ∃ t i j, t < 6 ∧ i < 6 ∧ j < 6 ∧ x = nI t ∧ y = nI i ∧ z = nI j ∧ (((up1 (Nw i) 240 = 0 ∨ up1 (Nw j) 240 = 0) ∧ r = nI 0 ∧ ct1 = va_up ct (10 + t) (LN cJ 240 (fun _ => 0))) ∨ (up1 (Nw i) 240 ≠ 0 ∧ up1 (Nw j) 240 ≠ 0 ∧ up1 (Nw i) 240 + up1 (Nw j) 240 ≤ 240 ∧ r = nI (up1 (mo (Nw i) (Nw j) (up1 (Nw j) 240) (up1 (Nw i) 240)) 240) ∧ ct1 = va_up (va_up ct 19 (LN cJ 240 (mo (Nw i) (Nw j) (up1 (Nw j) 240) (up1 (Nw i) 240)))) (10 + t) (LN cJ 240 (mo (Nw i) (Nw j) (up1 (Nw j) 240) (up1 (Nw i) 240)))))) (fun E ct1 => ct1 = ct ∧ ((E = xIO ∧ ¬ (ir x 6 ∧ ir y 6 ∧ ir z 6)) ∨ (E = xUO ∧ ∃ t i j, t < 6 ∧ i < 6 ∧ j < 6 ∧ x = nI t ∧ y = nI i ∧ z = nI j ∧ up1 (Nw i) 240 ≠ 0 ∧ up1 (Nw j) 240 ≠ 0 ∧ 240 < up1 (Nw i) 240 + up1 (Nw j) 240))) := by
  refine gofT_i (cc := cX0_multiply) (maxL := 6) (by decide) rfl (Nat.le_of_ble_eq_true rfl) ?_
  intro M sz C hlM hRM hr hT hE
  have h0 : 0 < N := by omega
  have hp1 := hv.1
  have hp2 := hv.2.1
  refine g_iload_n C dX0_multiply_0 (k := ?_)
  refine gT_cSv (rmy := rck) (n := 1) (av := [.int x]) C hT hE (by rw [hlM]; exact c_checkNatural hl x) gX0_multiply_X0_checkNatural rfl ⟨rfl, rfl⟩ (by rw [hRM]; exact ⟨Nat.le_of_ble_eq_true rfl, Nat.le_of_ble_eq_true rfl⟩) (by rw [hRM]; exact ⟨Nat.le_of_ble_eq_true rfl, Nat.le_of_ble_eq_true rfl⟩) (Nat.le_of_ble_eq_true rfl) (by decide +kernel) rfl dX0_multiply_1 (Nat.le_of_ble_eq_true rfl) (Nat.le_of_ble_eq_true rfl) (by intro E c q; exact ⟨q.2.1, Or.inl ⟨q.1, fun z => q.2.2 z.1⟩⟩) ?_
  rintro ct ⟨rfl, t, ht6, rfl⟩
  refine g_iload_n C dX0_multiply_4 (k := ?_)
  refine gT_cSv (rmy := rck) (n := 1) (av := [.int y]) C hT hE (by rw [hlM]; exact c_checkNatural hl y) gX0_multiply_X0_checkNatural rfl ⟨rfl, rfl⟩ (by rw [hRM]; exact ⟨Nat.le_of_ble_eq_true rfl, Nat.le_of_ble_eq_true rfl⟩) (by rw [hRM]; exact ⟨Nat.le_of_ble_eq_true rfl, Nat.le_of_ble_eq_true rfl⟩) (Nat.le_of_ble_eq_true rfl) (by decide +kernel) rfl dX0_multiply_5 (Nat.le_of_ble_eq_true rfl) (Nat.le_of_ble_eq_true rfl) (by intro E c q; exact ⟨q.2.1, Or.inl ⟨q.1, fun z => q.2.2 z.2.1⟩⟩) ?_
  rintro ct ⟨rfl, i, hi, rfl⟩
  refine g_iload_n C dX0_multiply_8 (k := ?_)
  refine gT_cSv (rmy := rck) (n := 1) (av := [.int z]) C hT hE (by rw [hlM]; exact c_checkNatural hl z) gX0_multiply_X0_checkNatural rfl ⟨rfl, rfl⟩ (by rw [hRM]; exact ⟨Nat.le_of_ble_eq_true rfl, Nat.le_of_ble_eq_true rfl⟩) (by rw [hRM]; exact ⟨Nat.le_of_ble_eq_true rfl, Nat.le_of_ble_eq_true rfl⟩) (Nat.le_of_ble_eq_true rfl) (by decide +kernel) rfl dX0_multiply_9 (Nat.le_of_ble_eq_true rfl) (Nat.le_of_ble_eq_true rfl) (by intro E c q; exact ⟨q.2.1, Or.inl ⟨q.1, fun z => q.2.2 z.2.2⟩⟩) ?_
  rintro ct ⟨rfl, j, hj, rfl⟩
  have hirow := S.2.2.2.2.2.1 i hi
  have hjrow := S.2.2.2.2.2.1 j hj
  have htrow := S.2.2.2.2.2.1 t ht6
  refine g_aload_n C dX0_multiply_12 (k := ?_)
  refine g_getf (Cn := RX0) (T := TX0) (n := 8) (ref := "WheelProducts") C 0 3 h0 S.1 rfl (by decide +kernel) (by decide) (by decide +kernel) (fun _ h => h) rfl dX0_multiply_13 ?_
  refine g_iload_n C dX0_multiply_16 (k := ?_)
  refine g_aald C 9 1 (by omega) S.2.2.2.2.1 ht2 rfl hi (by decide) (if_pos hi) dX0_multiply_17 ?_
  refine g_cSi (n := 1) (av := [.ref (ad (10 + i))]) C (by rw [hlM]; exact c_usedPart l (by omega) hirow ht (by decide) (fun k _ => Nat.lt_trans (hv.2.2.2.2 i k hi) (by decide))) gX0_multiply_X0_usedPart rfl ⟨rfl, rfl⟩ (by rw [hRM]; exact ⟨Nat.le_of_ble_eq_true rfl, Nat.le_of_ble_eq_true rfl⟩) (by rw [hRM]; exact ⟨Nat.le_of_ble_eq_true rfl, Nat.le_of_ble_eq_true rfl⟩) (Nat.le_of_ble_eq_true rfl) (by decide +kernel) rfl dX0_multiply_18 ?_
  rintro _ ct ⟨rfl, rfl⟩
  refine g_istore C dX0_multiply_21 (k := ?_)
  refine g_aload_n C dX0_multiply_23 (k := ?_)
  refine g_getf (Cn := RX0) (T := TX0) (n := 8) (ref := "WheelProducts") C 0 3 h0 S.1 rfl (by decide +kernel) (by decide) (by decide +kernel) (fun _ h => h) rfl dX0_multiply_24 ?_
  refine g_iload_n C dX0_multiply_27 (k := ?_)
  refine g_aald C 9 1 (by omega) S.2.2.2.2.1 ht2 rfl hj (by decide) (if_pos hj) dX0_multiply_28 ?_
  refine g_cSi (n := 1) (av := [.ref (ad (10 + j))]) C (by rw [hlM]; exact c_usedPart l (by omega) hjrow ht (by decide) (fun k _ => Nat.lt_trans (hv.2.2.2.2 j k hj) (by decide))) gX0_multiply_X0_usedPart rfl ⟨rfl, rfl⟩ (by rw [hRM]; exact ⟨Nat.le_of_ble_eq_true rfl, Nat.le_of_ble_eq_true rfl⟩) (by rw [hRM]; exact ⟨Nat.le_of_ble_eq_true rfl, Nat.le_of_ble_eq_true rfl⟩) (Nat.le_of_ble_eq_true rfl) (by decide +kernel) rfl dX0_multiply_29 ?_
  rintro _ ct ⟨rfl, rfl⟩
  have hul := up1_le (Nw i) 240
  have hvl := up1_le (Nw j) 240
  refine g_istore C dX0_multiply_32 (k := ?_)
  refine g_iload C dX0_multiply_34 (k := ?_)
  by_cases hz1 : up1 (Nw i) 240 = 0
  · refine g_ifN_eq (tgt := 44) C (by omega) dX0_multiply_36 (by decide) (fun _ => ?_) (fun h => absurd hz1 h)
    refine g_aload_n C dX0_multiply_44 (k := ?_)
    refine g_getf (Cn := RX0) (T := TX0) (n := 8) (ref := "WheelProducts") C 0 3 h0 S.1 rfl (by decide +kernel) (by decide) (by decide +kernel) (fun _ h => h) rfl dX0_multiply_45 ?_
    refine g_iload_n C dX0_multiply_48 (k := ?_)
    refine g_aald C 9 1 (by omega) S.2.2.2.2.1 ht2 rfl ht6 (by decide) (if_pos ht6) dX0_multiply_49 ?_
    refine g_lconst C (lN 0) dX0_multiply_50 (k := ?_)
    refine g_cSv (n := 2) (av := [.ref (ad (10 + t)), .long (lN 0)]) C (by rw [hlM]; exact c_fill l (by omega) htrow ht (by decide)) gX0_multiply_J7_fill_d0a16 rfl ⟨rfl, rfl⟩ (by rw [hRM]; exact ⟨Nat.le_of_ble_eq_true rfl, Nat.le_of_ble_eq_true rfl⟩) (by rw [hRM]; exact ⟨Nat.le_of_ble_eq_true rfl, Nat.le_of_ble_eq_true rfl⟩) (Nat.le_of_ble_eq_true rfl) (by decide +kernel) rfl dX0_multiply_51 ?_
    rintro _ rfl
    refine g_iconst C (nI 0) dX0_multiply_54 (k := ?_)
    exact gT_iret C hr (Nat.le_of_ble_eq_true rfl) (Nat.le_of_ble_eq_true rfl) ⟨t, i, j, ht6, hi, hj, rfl, rfl, rfl, Or.inl ⟨Or.inl hz1, rfl, rfl⟩⟩ dX0_multiply_55
  · refine g_ifN_eq (tgt := 44) C (by omega) dX0_multiply_36 (by decide) (fun h => absurd h hz1) (fun _ => ?_)
    refine g_iload C dX0_multiply_39 (k := ?_)
    by_cases hz2 : up1 (Nw j) 240 = 0
    · refine g_ifN_ne (tgt := 56) C (by omega) dX0_multiply_41 (by decide) (fun h => absurd hz2 h) (fun _ => ?_)
      refine g_aload_n C dX0_multiply_44 (k := ?_)
      refine g_getf (Cn := RX0) (T := TX0) (n := 8) (ref := "WheelProducts") C 0 3 h0 S.1 rfl (by decide +kernel) (by decide) (by decide +kernel) (fun _ h => h) rfl dX0_multiply_45 ?_
      refine g_iload_n C dX0_multiply_48 (k := ?_)
      refine g_aald C 9 1 (by omega) S.2.2.2.2.1 ht2 rfl ht6 (by decide) (if_pos ht6) dX0_multiply_49 ?_
      refine g_lconst C (lN 0) dX0_multiply_50 (k := ?_)
      refine g_cSv (n := 2) (av := [.ref (ad (10 + t)), .long (lN 0)]) C (by rw [hlM]; exact c_fill l (by omega) htrow ht (by decide)) gX0_multiply_J7_fill_d0a16 rfl ⟨rfl, rfl⟩ (by rw [hRM]; exact ⟨Nat.le_of_ble_eq_true rfl, Nat.le_of_ble_eq_true rfl⟩) (by rw [hRM]; exact ⟨Nat.le_of_ble_eq_true rfl, Nat.le_of_ble_eq_true rfl⟩) (Nat.le_of_ble_eq_true rfl) (by decide +kernel) rfl dX0_multiply_51 ?_
      rintro _ rfl
      refine g_iconst C (nI 0) dX0_multiply_54 (k := ?_)
      exact gT_iret C hr (Nat.le_of_ble_eq_true rfl) (Nat.le_of_ble_eq_true rfl) ⟨t, i, j, ht6, hi, hj, rfl, rfl, rfl, Or.inl ⟨Or.inr hz2, rfl, rfl⟩⟩ dX0_multiply_55
    · refine g_ifN_ne (tgt := 56) C (by omega) dX0_multiply_41 (by decide) (fun _ => ?_) (fun h => absurd h hz2)
      refine g_iload C dX0_multiply_56 (k := ?_)
      refine g_iload C dX0_multiply_58 (k := ?_)
      refine gN_iadd C dX0_multiply_60 ?_
      refine g_sipush C (nI 240) dX0_multiply_61 (k := ?_)
      by_cases hbig : 240 < up1 (Nw i) 240 + up1 (Nw j) 240
      · refine g_icN_le (tgt := 77) C (by omega) (by decide) dX0_multiply_64 (by decide) (fun h => absurd h (by omega)) (fun _ => ?_)
        exact g_throwS (E := xUO) (text := "the sizes of both together are above 240") C hT (by rw [hlM]; exact hl) hE rfl (by decide +kernel) (by decide +kernel) (by decide +kernel) (by decide +kernel) (by decide +kernel) (by decide +kernel) (by decide +kernel) dX0_multiply_67 dX0_multiply_70 dX0_multiply_71 dX0_multiply_73 dX0_multiply_76 (by rw [hRM]; exact (Nat.le_of_ble_eq_true rfl)) (by rw [hRM]; exact (Nat.le_of_ble_eq_true rfl)) (by rw [hRM]; exact (Nat.le_of_ble_eq_true rfl)) (by rw [hRM]; exact (Nat.le_of_ble_eq_true rfl)) (Nat.le_of_ble_eq_true rfl) (Nat.le_of_ble_eq_true rfl) ⟨rfl, Or.inr ⟨rfl, t, i, j, ht6, hi, hj, rfl, rfl, rfl, hz1, hz2, hbig⟩⟩
      · refine g_icN_le (tgt := 77) C (by omega) (by decide) dX0_multiply_64 (by decide) (fun _ => ?_) (fun h => absurd h (by omega))
        obtain ⟨z0, ez⟩ := S.2.2.2.2.2.2.2.2.2
        have hMl := mo_lt (hv.2.2.2.2 i · hi) (hv.2.2.2.2 j · hj) (up1 (Nw j) 240) (up1 (Nw i) 240)
        refine g_aload_n C dX0_multiply_77 (k := ?_)
        refine g_aload_n C dX0_multiply_78 (k := ?_)
        refine g_getf (Cn := RX0) (T := TX0) (n := 8) (ref := "WheelProducts") C 0 3 h0 S.1 rfl (by decide +kernel) (by decide) (by decide +kernel) (fun _ h => h) rfl dX0_multiply_79 ?_
        refine g_iload_n C dX0_multiply_82 (k := ?_)
        refine g_aald C 9 1 (by omega) S.2.2.2.2.1 ht2 rfl hi (by decide) (if_pos hi) dX0_multiply_83 ?_
        refine g_iload C dX0_multiply_84 (k := ?_)
        refine g_aload_n C dX0_multiply_86 (k := ?_)
        refine g_getf (Cn := RX0) (T := TX0) (n := 8) (ref := "WheelProducts") C 0 3 h0 S.1 rfl (by decide +kernel) (by decide) (by decide +kernel) (fun _ h => h) rfl dX0_multiply_87 ?_
        refine g_iload_n C dX0_multiply_90 (k := ?_)
        refine g_aald C 9 1 (by omega) S.2.2.2.2.1 ht2 rfl hj (by decide) (if_pos hj) dX0_multiply_91 ?_
        refine g_iload C dX0_multiply_92 (k := ?_)
        refine g_cVv (n := 4) (av := [.ref (ad (10 + i)), .int (nI (up1 (Nw i) 240)), .ref (ad (10 + j)), .int (nI (up1 (Nw j) 240))]) C 0 h0 S.1 rfl (by rw [hlM]; exact c_multiplyWords l hN (by omega) (by omega) S.1 hirow hjrow ez ht (fun k => hv.2.2.2.2 i k hi) (fun k => hv.2.2.2.2 j k hj) (by omega)) gX0_multiply_X0_multiplyWords rfl ⟨rfl, rfl⟩ (by rw [hRM]; exact ⟨Nat.le_of_ble_eq_true rfl, Nat.le_of_ble_eq_true rfl⟩) (by rw [hRM]; exact ⟨Nat.le_of_ble_eq_true rfl, Nat.le_of_ble_eq_true rfl⟩) (Nat.le_of_ble_eq_true rfl) (by decide +kernel) rfl dX0_multiply_94 ?_
        rintro _ rfl
        refine g_aload_n C dX0_multiply_97 (k := ?_)
        refine g_getf (Cn := RX0) (T := TX0) (n := 8) (ref := "WheelProducts") C 0 7 h0 (by (repeat rw [va_up_ne _ _ (by omega)]); exact S.1) rfl (by decide +kernel) (by decide) (by decide +kernel) (fun _ h => h) rfl dX0_multiply_98 ?_
        refine g_iconst C 0 dX0_multiply_101 (k := ?_)
        refine g_aload_n C dX0_multiply_102 (k := ?_)
        refine g_getf (Cn := RX0) (T := TX0) (n := 8) (ref := "WheelProducts") C 0 3 h0 (by (repeat rw [va_up_ne _ _ (by omega)]); exact S.1) rfl (by decide +kernel) (by decide) (by decide +kernel) (fun _ h => h) rfl dX0_multiply_103 ?_
        refine g_iload_n C dX0_multiply_106 (k := ?_)
        refine g_aald C 9 1 (by omega) (by (repeat rw [va_up_ne _ _ (by omega)]); exact S.2.2.2.2.1) ht2 rfl ht6 (by decide) (if_pos ht6) dX0_multiply_107 ?_
        refine g_iconst C 0 dX0_multiply_108 (k := ?_)
        refine g_sipush C (nI 240) dX0_multiply_109 (k := ?_)
        refine g_acopy C (by decide +kernel) (by decide +kernel) (by decide +kernel) (by decide +kernel) 19 (10 + t) 0 (by omega) (by omega) (va_up_self _ _ _) (by rw [va_up_ne _ _ (by omega)]; exact htrow) ht (Nat.le_refl 240) (Nat.le_refl 240) (by decide) (by rw [hRM]; exact Nat.le_of_ble_eq_true rfl) (by rw [hRM]; exact Nat.le_of_ble_eq_true rfl) dX0_multiply_112 ?_
        rw [cp_lN]
        refine g_ext (10 + t) (va_up_self _ _ _) (g := fun k => lN ((mo (Nw i) (Nw j) (up1 (Nw j) 240) (up1 (Nw i) 240)) k)) (fun k hk => by show lN (cpN _ _ 240 k) = _; unfold cpN; rw [if_pos hk]) ?_
        rw [bx_uu]
        refine g_aload_n C dX0_multiply_115 (k := ?_)
        refine g_getf (Cn := RX0) (T := TX0) (n := 8) (ref := "WheelProducts") C 0 7 h0 (by (repeat rw [va_up_ne _ _ (by omega)]); exact S.1) rfl (by decide +kernel) (by decide) (by decide +kernel) (fun _ h => h) rfl dX0_multiply_116 ?_
        refine g_cSi (n := 1) (av := [.ref (ad 19)]) C (by rw [hlM]; exact c_usedPart l (by omega) (by rw [va_up_ne _ _ (by omega), va_up_self]) ht (by decide) (fun k _ => Nat.lt_trans (hMl k) (by decide))) gX0_multiply_X0_usedPart rfl ⟨rfl, rfl⟩ (by rw [hRM]; exact ⟨Nat.le_of_ble_eq_true rfl, Nat.le_of_ble_eq_true rfl⟩) (by rw [hRM]; exact ⟨Nat.le_of_ble_eq_true rfl, Nat.le_of_ble_eq_true rfl⟩) (Nat.le_of_ble_eq_true rfl) (by decide +kernel) rfl dX0_multiply_119 ?_
        rintro _ _ ⟨rfl, rfl⟩
        exact gT_iret C hr (Nat.le_of_ble_eq_true rfl) (Nat.le_of_ble_eq_true rfl) ⟨t, i, j, ht6, hi, hj, rfl, rfl, rfl, Or.inr ⟨hz1, hz2, by omega, rfl, rfl⟩⟩ dX0_multiply_122
set_option maxRecDepth 100000 in
set_option maxHeartbeats 4000000 in
theorem c_sum {l : Launch} (hl : l.stackTraces = false) {D : va_G} {tys : List (ClassId × FieldType)} {N : Nat} {ad : Nat → Nat} {ct : Nat → va_E} (hN : 20 ≤ N) {cJ cQ : ClassId} {p : Nat} {wn : Nat → Nat} {Mr Nw : Nat → Nat → Nat} (S : stX cJ cQ ad p wn Mr Nw ct) (ht : tys[0]? = some (cJ, .long)) (ht2 : tys[1]? = some (cQ, .array .long)) (hv : nvX p wn Mr Nw) (x y z : Int32) :
    gTi l yX0_sum wsX0_sum rmu 4 24 D vwCl tys N ad [.ref (ad 0), .int x, .int y, .int z] ct (fun r ct1 => ∃ t i j, t < 6 ∧ i < 6 ∧ j < 6 ∧ x = nI t ∧ y = nI i ∧ z = nI j ∧ cy (Nw i) (Nw j) 240 = 0 ∧ r = nI (up1 (sw1 (Nw i) (Nw j)) 240) ∧ ct1 = va_up (va_up ct 19 (LN cJ 240 (sw1 (Nw i) (Nw j)))) (10 + t) (LN cJ 240 (sw1 (Nw i) (Nw j)))) (fun E ct1 => (ct1 = ct ∧ E = xIO ∧ ¬ (ir x 6 ∧ ir y 6 ∧ ir z 6)) ∨ (E = xUO ∧ ∃ t i j, t < 6 ∧ i < 6 ∧ j < 6 ∧ x = nI t ∧ y = nI i ∧ z = nI j ∧ cy (Nw i) (Nw j) 240 ≠ 0 ∧ ct1 = va_up ct 19 (LN cJ 240 (sw1 (Nw i) (Nw j))))) := by
  refine gofT_i (cc := cX0_sum) (maxL := 4) (by decide) rfl (Nat.le_of_ble_eq_true rfl) ?_
  intro M sz C hlM hRM hr hT hE
  have h0 : 0 < N := by omega
  have hp1 := hv.1
  have hp2 := hv.2.1
  refine g_iload_n C dX0_sum_0 (k := ?_)
  refine gT_cSv (rmy := rck) (n := 1) (av := [.int x]) C hT hE (by rw [hlM]; exact c_checkNatural hl x) gX0_sum_X0_checkNatural rfl ⟨rfl, rfl⟩ (by rw [hRM]; exact ⟨Nat.le_of_ble_eq_true rfl, Nat.le_of_ble_eq_true rfl⟩) (by rw [hRM]; exact ⟨Nat.le_of_ble_eq_true rfl, Nat.le_of_ble_eq_true rfl⟩) (Nat.le_of_ble_eq_true rfl) (by decide +kernel) rfl dX0_sum_1 (Nat.le_of_ble_eq_true rfl) (Nat.le_of_ble_eq_true rfl) (by intro E c q; exact Or.inl ⟨q.2.1, q.1, fun z => q.2.2 z.1⟩) ?_
  rintro ct ⟨rfl, t, ht6, rfl⟩
  refine g_iload_n C dX0_sum_4 (k := ?_)
  refine gT_cSv (rmy := rck) (n := 1) (av := [.int y]) C hT hE (by rw [hlM]; exact c_checkNatural hl y) gX0_sum_X0_checkNatural rfl ⟨rfl, rfl⟩ (by rw [hRM]; exact ⟨Nat.le_of_ble_eq_true rfl, Nat.le_of_ble_eq_true rfl⟩) (by rw [hRM]; exact ⟨Nat.le_of_ble_eq_true rfl, Nat.le_of_ble_eq_true rfl⟩) (Nat.le_of_ble_eq_true rfl) (by decide +kernel) rfl dX0_sum_5 (Nat.le_of_ble_eq_true rfl) (Nat.le_of_ble_eq_true rfl) (by intro E c q; exact Or.inl ⟨q.2.1, q.1, fun z => q.2.2 z.2.1⟩) ?_
  rintro ct ⟨rfl, i, hi, rfl⟩
  refine g_iload_n C dX0_sum_8 (k := ?_)
  refine gT_cSv (rmy := rck) (n := 1) (av := [.int z]) C hT hE (by rw [hlM]; exact c_checkNatural hl z) gX0_sum_X0_checkNatural rfl ⟨rfl, rfl⟩ (by rw [hRM]; exact ⟨Nat.le_of_ble_eq_true rfl, Nat.le_of_ble_eq_true rfl⟩) (by rw [hRM]; exact ⟨Nat.le_of_ble_eq_true rfl, Nat.le_of_ble_eq_true rfl⟩) (Nat.le_of_ble_eq_true rfl) (by decide +kernel) rfl dX0_sum_9 (Nat.le_of_ble_eq_true rfl) (Nat.le_of_ble_eq_true rfl) (by intro E c q; exact Or.inl ⟨q.2.1, q.1, fun z => q.2.2 z.2.2⟩) ?_
  rintro ct ⟨rfl, j, hj, rfl⟩
  have hirow := S.2.2.2.2.2.1 i hi
  have hjrow := S.2.2.2.2.2.1 j hj
  have htrow := S.2.2.2.2.2.1 t ht6
  obtain ⟨z0, ez⟩ := S.2.2.2.2.2.2.2.2.2
  have hcy := cy_lt (hv.2.2.2.2 i · hi) (hv.2.2.2.2 j · hj) 240
  refine g_aload_n C dX0_sum_12 (k := ?_)
  refine g_aload_n C dX0_sum_13 (k := ?_)
  refine g_getf (Cn := RX0) (T := TX0) (n := 8) (ref := "WheelProducts") C 0 3 h0 S.1 rfl (by decide +kernel) (by decide) (by decide +kernel) (fun _ h => h) rfl dX0_sum_14 ?_
  refine g_iload_n C dX0_sum_17 (k := ?_)
  refine g_aald C 9 1 (by omega) S.2.2.2.2.1 ht2 rfl hi (by decide) (if_pos hi) dX0_sum_18 ?_
  refine g_aload_n C dX0_sum_19 (k := ?_)
  refine g_getf (Cn := RX0) (T := TX0) (n := 8) (ref := "WheelProducts") C 0 3 h0 S.1 rfl (by decide +kernel) (by decide) (by decide +kernel) (fun _ h => h) rfl dX0_sum_20 ?_
  refine g_iload_n C dX0_sum_23 (k := ?_)
  refine g_aald C 9 1 (by omega) S.2.2.2.2.1 ht2 rfl hj (by decide) (if_pos hj) dX0_sum_24 ?_
  refine g_cVl (n := 2) (av := [.ref (ad (10 + i)), .ref (ad (10 + j))]) C 0 h0 S.1 rfl (by rw [hlM]; exact c_addWords l hN (by omega) (by omega) S.1 hirow hjrow ez ht (fun k => hv.2.2.2.2 i k hi) (fun k => hv.2.2.2.2 j k hj)) gX0_sum_X0_addWords rfl ⟨rfl, rfl⟩ (by rw [hRM]; exact ⟨Nat.le_of_ble_eq_true rfl, Nat.le_of_ble_eq_true rfl⟩) (by rw [hRM]; exact ⟨Nat.le_of_ble_eq_true rfl, Nat.le_of_ble_eq_true rfl⟩) (Nat.le_of_ble_eq_true rfl) (by decide +kernel) rfl dX0_sum_25 ?_
  rintro _ _ ⟨rfl, rfl⟩
  refine g_lconst C (lN 0) dX0_sum_28 (k := ?_)
  by_cases hz : cy (Nw i) (Nw j) 240 = 0
  · refine g_lcN_eq (tgt := 43) C (by omega) (by decide) dX0_sum_29 dX0_sum_30 (by decide) (fun _ => ?_) (fun h => absurd hz h)
    refine g_aload_n C dX0_sum_43 (k := ?_)
    refine g_getf (Cn := RX0) (T := TX0) (n := 8) (ref := "WheelProducts") C 0 7 h0 (by (repeat rw [va_up_ne _ _ (by omega)]); exact S.1) rfl (by decide +kernel) (by decide) (by decide +kernel) (fun _ h => h) rfl dX0_sum_44 ?_
    refine g_iconst C 0 dX0_sum_47 (k := ?_)
    refine g_aload_n C dX0_sum_48 (k := ?_)
    refine g_getf (Cn := RX0) (T := TX0) (n := 8) (ref := "WheelProducts") C 0 3 h0 (by (repeat rw [va_up_ne _ _ (by omega)]); exact S.1) rfl (by decide +kernel) (by decide) (by decide +kernel) (fun _ h => h) rfl dX0_sum_49 ?_
    refine g_iload_n C dX0_sum_52 (k := ?_)
    refine g_aald C 9 1 (by omega) (by (repeat rw [va_up_ne _ _ (by omega)]); exact S.2.2.2.2.1) ht2 rfl ht6 (by decide) (if_pos ht6) dX0_sum_53 ?_
    refine g_iconst C 0 dX0_sum_54 (k := ?_)
    refine g_sipush C (nI 240) dX0_sum_55 (k := ?_)
    refine g_acopy C (by decide +kernel) (by decide +kernel) (by decide +kernel) (by decide +kernel) 19 (10 + t) 0 (by omega) (by omega) (va_up_self _ _ _) (by rw [va_up_ne _ _ (by omega)]; exact htrow) ht (Nat.le_refl 240) (Nat.le_refl 240) (by decide) (by rw [hRM]; exact Nat.le_of_ble_eq_true rfl) (by rw [hRM]; exact Nat.le_of_ble_eq_true rfl) dX0_sum_58 ?_
    rw [cp_lN]
    refine g_ext (10 + t) (va_up_self _ _ _) (g := fun k => lN ((sw1 (Nw i) (Nw j)) k)) (fun k hk => by show lN (cpN _ _ 240 k) = _; unfold cpN; rw [if_pos hk]) ?_
    rw [bx_uu]
    refine g_aload_n C dX0_sum_61 (k := ?_)
    refine g_getf (Cn := RX0) (T := TX0) (n := 8) (ref := "WheelProducts") C 0 7 h0 (by (repeat rw [va_up_ne _ _ (by omega)]); exact S.1) rfl (by decide +kernel) (by decide) (by decide +kernel) (fun _ h => h) rfl dX0_sum_62 ?_
    refine g_cSi (n := 1) (av := [.ref (ad 19)]) C (by rw [hlM]; exact c_usedPart l (v := sw1 (Nw i) (Nw j)) (n := 240) (by omega) (by rw [va_up_ne _ _ (by omega), va_up_self]) ht (by decide) (fun k _ => Nat.lt_trans (show sw1 (Nw i) (Nw j) k < 4294967296 from Nat.mod_lt _ (by decide)) (by decide))) gX0_sum_X0_usedPart rfl ⟨rfl, rfl⟩ (by rw [hRM]; exact ⟨Nat.le_of_ble_eq_true rfl, Nat.le_of_ble_eq_true rfl⟩) (by rw [hRM]; exact ⟨Nat.le_of_ble_eq_true rfl, Nat.le_of_ble_eq_true rfl⟩) (Nat.le_of_ble_eq_true rfl) (by decide +kernel) rfl dX0_sum_65 ?_
    rintro _ _ ⟨rfl, rfl⟩
    exact gT_iret C hr (Nat.le_of_ble_eq_true rfl) (Nat.le_of_ble_eq_true rfl) ⟨t, i, j, ht6, hi, hj, rfl, rfl, rfl, hz, rfl, rfl⟩ dX0_sum_68
  · refine g_lcN_eq (tgt := 43) C (by omega) (by decide) dX0_sum_29 dX0_sum_30 (by decide) (fun h => absurd h hz) (fun _ => ?_)
    exact g_throwS (E := xUO) (text := "the sum has more than 240 words") C hT (by rw [hlM]; exact hl) hE rfl (by decide +kernel) (by decide +kernel) (by decide +kernel) (by decide +kernel) (by decide +kernel) (by decide +kernel) (by decide +kernel) dX0_sum_33 dX0_sum_36 dX0_sum_37 dX0_sum_39 dX0_sum_42 (by rw [hRM]; exact (Nat.le_of_ble_eq_true rfl)) (by rw [hRM]; exact (Nat.le_of_ble_eq_true rfl)) (by rw [hRM]; exact (Nat.le_of_ble_eq_true rfl)) (by rw [hRM]; exact (Nat.le_of_ble_eq_true rfl)) (Nat.le_of_ble_eq_true rfl) (Nat.le_of_ble_eq_true rfl) (Or.inr ⟨rfl, t, i, j, ht6, hi, hj, rfl, rfl, rfl, hz, rfl⟩)
end
section
/-! ===== field ===== -/
/-- as told: 2 .. 2 to the 31 less 1, one less a multiple of 512 -/
abbrev fok (n : Nat) : Prop := 2 ≤ n ∧ n < 2 ^ 31 ∧ (n - 1) % 512 = 0
theorem lrf_lt {p : Nat} {L : List Nat} : ∀ {f g0 g : Nat}, lrf p L f g0 = some g → g0 ≤ g ∧ g < g0 + f
  | 0, _, _, h => by cases h
  | f + 1, g0, g, h => by
    unfold lrf at h
    split at h
    · split at h
      · cases h; omega
      · have := lrf_lt (f := f) (g0 := g0 + 1) h
        omega
    · cases h
/-- rows 0 .. i - 1 are 0 -/
def zrw (cJ : ClassId) (ct : Nat → va_E) (i : Nat) : Nat → va_E := fun k => if 3 ≤ k ∧ k < 3 + i then LN cJ 512 (fun _ => 0) else ct k
theorem zrw_0 (cJ : ClassId) (ct : Nat → va_E) : zrw cJ ct 0 = ct := by
  funext k; unfold zrw; rw [if_neg (by omega)]
theorem zrw_s (cJ : ClassId) (ct : Nat → va_E) (i : Nat) : va_up (zrw cJ ct i) (3 + i) (LN cJ 512 (fun _ => 0)) = zrw cJ ct (i + 1) := by
  funext k
  by_cases h : k = 3 + i
  · subst h; rw [va_up_self]; unfold zrw; rw [if_pos (by omega)]
  · rw [va_up_ne _ _ h]
    unfold zrw
    by_cases h2 : 3 ≤ k ∧ k < 3 + i
    · rw [if_pos h2, if_pos (by omega)]
    · rw [if_neg h2, if_neg (by omega)]
theorem zrw_n (cJ : ClassId) (ct : Nat → va_E) (i : Nat) {k : Nat} (h : k < 3 ∨ 9 ≤ k ∨ 3 + i ≤ k) (hi : i ≤ 6) : zrw cJ ct i k = ct k := by
  unfold zrw; rw [if_neg (by omega)]
abbrev rfi : Room := { frames := 6, cells := 1, slots := 6, locals := 82 }

set_option maxRecDepth 100000 in
set_option maxHeartbeats 4000000 in
theorem c_field {l : Launch} (hl : l.stackTraces = false) {D : va_G} {tys : List (ClassId × FieldType)} {N : Nat} {ad : Nat → Nat} {ct : Nat → va_E} (hN : 20 ≤ N) {cJ cQ : ClassId} {p : Nat} {wn : Nat → Nat} {Mr Nw : Nat → Nat → Nat} (S : stX cJ cQ ad p wn Mr Nw ct) (ht : tys[0]? = some (cJ, .long)) (ht2 : tys[1]? = some (cQ, .array .long)) (hv : nvX p wn Mr Nw) (x : Int64) :
    gTl l yX0_field wsX0_field rfi 1 6 D vwCl tys N ad [.ref (ad 0), .long x] ct (fun r ct1 => ∃ n g fa, fok n ∧ x = lN n ∧ lrf n (facs (n - 1)) (n - 2) 2 = some g ∧ r = lN g ∧ ct1 = zrw cJ (va_up (va_up (va_up ct 16 (LN cJ 9 fa)) 0 (obX n ad)) 1 (LN cJ 512 (fun k => (g ^ ((n - 1) / 512) % n) ^ k % n))) 6) (fun E ct1 => E = xIA ∧ ((ct1 = ct ∧ ¬ ∃ n, fok n ∧ x = lN n) ∨ ∃ n fa, fok n ∧ x = lN n ∧ lrf n (facs (n - 1)) (n - 2) 2 = none ∧ ct1 = va_up ct 16 (LN cJ 9 fa))) := by
  refine gofT_l (cc := cX0_field) (maxL := 6) (by decide) rfl (Nat.le_of_ble_eq_true rfl) ?_
  intro M sz C hlM hRM hr hT hE
  have h0 : 0 < N := by omega
  refine g_lload_n C dX0_field_0 (k := ?_)
  refine g_ldc2 (v := 2) C (by decide +kernel) dX0_field_1 ?_
  refine g_tl (lN 2) rfl ?_
  by_cases h1 : x < lN 2
  · refine g_lc_lt (tgt := 28) C dX0_field_4 dX0_field_5 (by decide) (fun _ => ?_) (fun h => absurd h1 h)
    have hno : ¬ ∃ n, fok n ∧ x = lN n := by
      rintro ⟨n, hn, rfl⟩
      have := (pk_lLT (by omega) (by decide)).mp h1
      omega
    exact g_throwS (E := xIA) (text := "not below 2 to the 31, or 512 does not divide p - 1") C hT (by rw [hlM]; exact hl) hE rfl (by decide +kernel) (by decide +kernel) (by decide +kernel) (by decide +kernel) (by decide +kernel) (by decide +kernel) (by decide +kernel) dX0_field_28 dX0_field_31 dX0_field_32 dX0_field_34 dX0_field_37 (by rw [hRM]; exact (Nat.le_of_ble_eq_true rfl)) (by rw [hRM]; exact (Nat.le_of_ble_eq_true rfl)) (by rw [hRM]; exact (Nat.le_of_ble_eq_true rfl)) (by rw [hRM]; exact (Nat.le_of_ble_eq_true rfl)) (Nat.le_of_ble_eq_true rfl) (Nat.le_of_ble_eq_true rfl) ⟨rfl, Or.inl ⟨rfl, hno⟩⟩
  · refine g_lc_lt (tgt := 28) C dX0_field_4 dX0_field_5 (by decide) (fun h => absurd h h1) (fun _ => ?_)
    have hx0 : ¬ x < 0 := fun h => h1 (Int64.lt_trans h (by decide))
    obtain ⟨n, hn63, rfl⟩ := pk_lOf hx0
    have hn2 : 2 ≤ n := by
      rcases Nat.lt_or_ge n 2 with h | h
      · exact absurd ((pk_lLT hn63 (by decide)).mpr h) h1
      · exact h
    refine g_lload_n C dX0_field_8 (k := ?_)
    refine g_ldc2 (v := 2147483648) C (by decide +kernel) dX0_field_9 ?_
    refine g_tl (lN 2147483648) rfl ?_
    by_cases h2 : 2147483648 ≤ n
    · refine g_lcN_ge (tgt := 28) C hn63 (by decide) dX0_field_12 dX0_field_13 (by decide) (fun _ => ?_) (fun h => absurd h (by omega))
      have hno : ¬ ∃ m, fok m ∧ lN n = lN m := by
        rintro ⟨m, hm, he⟩
        have := (pk_lEQ hn63 (by omega)).mp he
        omega
      exact g_throwS (E := xIA) (text := "not below 2 to the 31, or 512 does not divide p - 1") C hT (by rw [hlM]; exact hl) hE rfl (by decide +kernel) (by decide +kernel) (by decide +kernel) (by decide +kernel) (by decide +kernel) (by decide +kernel) (by decide +kernel) dX0_field_28 dX0_field_31 dX0_field_32 dX0_field_34 dX0_field_37 (by rw [hRM]; exact (Nat.le_of_ble_eq_true rfl)) (by rw [hRM]; exact (Nat.le_of_ble_eq_true rfl)) (by rw [hRM]; exact (Nat.le_of_ble_eq_true rfl)) (by rw [hRM]; exact (Nat.le_of_ble_eq_true rfl)) (Nat.le_of_ble_eq_true rfl) (Nat.le_of_ble_eq_true rfl) ⟨rfl, Or.inl ⟨rfl, hno⟩⟩
    · refine g_lcN_ge (tgt := 28) C hn63 (by decide) dX0_field_12 dX0_field_13 (by decide) (fun h => absurd h (by omega)) (fun _ => ?_)
      refine g_lload_n C dX0_field_16 (k := ?_)
      refine g_lconst C (lN 1) dX0_field_17 (k := ?_)
      refine gN_lsub C (by omega) dX0_field_18 ?_
      refine g_ldc2 (v := 512) C (by decide +kernel) dX0_field_19 ?_
      refine g_tl (lN 512) rfl ?_
      refine gN_lrem C (by omega) (by decide) (by decide) dX0_field_22 ?_
      refine g_lconst C (lN 0) dX0_field_23 (k := ?_)
      have hmm : (n - 1) % 512 < 512 := Nat.mod_lt _ (by decide)
      by_cases h3 : (n - 1) % 512 = 0
      · have hfok : fok n := ⟨hn2, by omega, h3⟩
        have hn513 : 513 ≤ n := by omega
        refine g_lcN_eq (tgt := 38) C (by omega) (by decide) dX0_field_24 dX0_field_25 (by decide) (fun _ => ?_) (fun h => absurd h3 h)
        refine g_aload_n C dX0_field_38 (k := ?_)
        refine g_lload_n C dX0_field_39 (k := ?_)
        obtain ⟨f0, ef⟩ := S.2.2.2.2.2.2.1
        refine g_cVl (n := 1) (av := [.long (lN n)]) C 0 h0 S.1 rfl (by rw [hlM]; exact c_leastRoot l hN S.1 ef ht (by omega) (by omega) (facs_len (by omega) (by omega) h3) (facs_pos (by omega))) gX0_field_X0_leastRoot rfl ⟨rfl, rfl⟩ (by rw [hRM]; exact ⟨Nat.le_of_ble_eq_true rfl, Nat.le_of_ble_eq_true rfl⟩) (by rw [hRM]; exact ⟨Nat.le_of_ble_eq_true rfl, Nat.le_of_ble_eq_true rfl⟩) (Nat.le_of_ble_eq_true rfl) (by decide +kernel) rfl dX0_field_40 ?_
        rintro _ _ ⟨rfl, fa, rfl⟩
        refine g_lstore_n C dX0_field_43 (k := ?_)
        refine g_lload_n C dX0_field_44 (k := ?_)
        refine g_ldc2 (v := -1) C (by decide +kernel) dX0_field_45 ?_
        rcases hlr : lrf n (facs (n - 1)) (n - 2) 2 with _ | g
        · refine g_lc_ne (tgt := 62) C dX0_field_48 dX0_field_49 (by decide) (fun h => absurd rfl h) (fun _ => ?_)
          exact g_throwS (E := xIA) (text := "not a prime") C hT (by rw [hlM]; exact hl) hE rfl (by decide +kernel) (by decide +kernel) (by decide +kernel) (by decide +kernel) (by decide +kernel) (by decide +kernel) (by decide +kernel) dX0_field_52 dX0_field_55 dX0_field_56 dX0_field_58 dX0_field_61 (by rw [hRM]; exact (Nat.le_of_ble_eq_true rfl)) (by rw [hRM]; exact (Nat.le_of_ble_eq_true rfl)) (by rw [hRM]; exact (Nat.le_of_ble_eq_true rfl)) (by rw [hRM]; exact (Nat.le_of_ble_eq_true rfl)) (Nat.le_of_ble_eq_true rfl) (Nat.le_of_ble_eq_true rfl) ⟨rfl, Or.inr ⟨n, fa, hfok, rfl, hlr, rfl⟩⟩
        · have hg := lrf_lt hlr
          have hgne : ¬ lrv (some g) = -1 := fun h => by
            have h9 : (lN g).toInt = (-1 : Int64).toInt := congrArg Int64.toInt h
            rw [k_lI (by omega), show (-1 : Int64).toInt = -1 from rfl] at h9
            omega
          refine g_lc_ne (tgt := 62) C dX0_field_48 dX0_field_49 (by decide) (fun _ => ?_) (fun h => absurd h hgne)
          refine g_l2 (lv' := [(0, some (.ref (ad 0))), (1, some (.long (lN n))), (3, some (.long (lN g)))]) ?_ ⟨Or.inr rfl, Or.inr rfl, Or.inr rfl, trivial⟩
          refine g_aload_n C dX0_field_62 (k := ?_)
          refine g_lload_n C dX0_field_63 (k := ?_)
          refine g_lload_n C dX0_field_64 (k := ?_)
          refine g_cVv (n := 2) (av := [.long (lN n), .long (lN g)]) C 0 h0 (by rw [va_up_ne _ _ (by decide)]; exact S.1) rfl (by rw [hlM]; exact c_usePrime l hN (by rw [va_up_ne _ _ (by decide)]; exact S.1) (by rw [va_up_ne _ _ (by decide)]; exact S.2.1) ht (by omega) (by omega) (by omega)) gX0_field_X0_usePrime rfl ⟨rfl, rfl⟩ (by rw [hRM]; exact ⟨Nat.le_of_ble_eq_true rfl, Nat.le_of_ble_eq_true rfl⟩) (by rw [hRM]; exact ⟨Nat.le_of_ble_eq_true rfl, Nat.le_of_ble_eq_true rfl⟩) (Nat.le_of_ble_eq_true rfl) (by decide +kernel) rfl dX0_field_65 ?_
          rintro _ rfl
          generalize hB : (va_up (va_up (va_up ct 16 (LN cJ 9 fa)) 0 (obX n ad)) 1 (LN cJ 512 (fun k => (g ^ ((n - 1) / 512) % n) ^ k % n))) = B
          have hB2 : B 2 = QA cQ 6 (gRow ad 3) := by rw [← hB]; (repeat rw [va_up_ne _ _ (by decide)]); exact S.2.2.1
          have hB0 : B 0 = obX n ad := by rw [← hB, va_up_ne _ _ (by decide), va_up_self]
          have hBr : ∀ i, i < 6 → B (3 + i) = LN cJ 512 (Mr i) := fun i hi => by rw [← hB]; (repeat rw [va_up_ne _ _ (by omega)]); exact S.2.2.2.1 i hi
          have loop : ∀ (d i : Nat), 6 = i + d → gW M D vwCl (ixA N ad sz) 6 0 0 (vx_MQ (gb M) (va_Ql (fun r ct1 => ∃ n_1 g fa, fok n_1 ∧ lN n = lN n_1 ∧ lrf n_1 (facs (n_1 - 1)) (n_1 - 2) 2 = some g ∧ r = lN g ∧ ct1 = zrw cJ (va_up (va_up (va_up ct 16 (LN cJ 9 fa)) 0 (obX n_1 ad)) 1 (LN cJ 512 (fun k => (g ^ ((n_1 - 1) / 512) % n_1) ^ k % n_1))) 6) (gB D vwCl tys N ad (ixA N ad sz)) (ixA N ad sz)) (gXC D vwCl tys N ad (ixA N ad sz) (fun E ct1 => E = xIA ∧ ((ct1 = ct ∧ ¬ ∃ n_1, fok n_1 ∧ lN n = lN n_1) ∨ ∃ n_1 fa, fok n_1 ∧ lN n = lN n_1 ∧ lrf n_1 (facs (n_1 - 1)) (n_1 - 2) 2 = none ∧ ct1 = va_up ct 16 (LN cJ 9 fa)))) (ga M) (gs M) 1 6 (ixA N ad sz)) N ad 71 [(0, some (.ref (ad 0))), (3, some (.long (lN g))), (5, some (.int (nI i)))] [] (zrw cJ B i) := by
            intro d
            induction d with
            | zero =>
              intro i hd
              have hi : i = 6 := by omega
              subst hi
              refine g_iload C dX0_field_71 (k := ?_)
              refine g_bipush C (nI 6) dX0_field_73 (k := ?_)
              refine g_icN_ge (tgt := 95) C (by decide) (by decide) dX0_field_75 (by decide) (fun _ => ?_) (fun h => absurd h (by decide))
              refine g_lload_n C dX0_field_95 (k := ?_)
              exact gT_lret C hr (Nat.zero_le _) (Nat.zero_le _) ⟨n, g, fa, hfok, rfl, hlr, rfl, by rw [hB]⟩ dX0_field_96
            | succ d ih =>
              intro i hd
              have hi : i < 6 := by omega
              refine g_iload C dX0_field_71 (k := ?_)
              refine g_bipush C (nI 6) dX0_field_73 (k := ?_)
              refine g_icN_ge (tgt := 95) C (by omega) (by decide) dX0_field_75 (by decide) (fun h => absurd h (by omega)) (fun _ => ?_)
              refine g_aload_n C dX0_field_78 (k := ?_)
              refine g_getf (Cn := RX0) (T := TX0) (n := 8) (ref := "WheelProducts") C 0 2 h0 (by rw [zrw_n cJ B i (by omega) (by omega)]; exact hB0) rfl (by decide +kernel) (by decide) (by decide +kernel) (fun _ h => h) rfl dX0_field_79 ?_
              refine g_iload C dX0_field_82 (k := ?_)
              refine g_aald C 2 1 (by omega) (by rw [zrw_n cJ B i (by omega) (by omega)]; exact hB2) ht2 rfl hi (by decide) (if_pos hi) dX0_field_84 ?_
              refine g_lconst C (lN 0) dX0_field_85 (k := ?_)
              refine g_cSv (n := 2) (av := [.ref (ad (3 + i)), .long (lN 0)]) C (by rw [hlM]; exact c_fill l (by omega) (by rw [zrw_n cJ B i (by omega) (by omega)]; exact hBr i hi) ht (by decide)) gX0_field_J7_fill_d0a16 rfl ⟨rfl, rfl⟩ (by rw [hRM]; exact ⟨Nat.le_of_ble_eq_true rfl, Nat.le_of_ble_eq_true rfl⟩) (by rw [hRM]; exact ⟨Nat.le_of_ble_eq_true rfl, Nat.le_of_ble_eq_true rfl⟩) (Nat.le_of_ble_eq_true rfl) (by decide +kernel) rfl dX0_field_86 ?_
              rintro _ rfl
              rw [zrw_s]
              refine gN_inc C dX0_field_89 (k := ?_)
              refine g_goto (tgt := 71) C dX0_field_92 (k := ?_)
              exact g_l2 (ih (i + 1) (by omega)) ⟨Or.inr rfl, Or.inr rfl, Or.inr rfl, trivial⟩
          refine g_iconst C (nI 0) dX0_field_68 (k := ?_)
          refine g_istore C dX0_field_69 (k := ?_)
          rw [← zrw_0 cJ B]
          exact g_l2 (loop 6 0 rfl) ⟨Or.inr rfl, Or.inr rfl, Or.inr rfl, trivial⟩
      · refine g_lcN_eq (tgt := 38) C (by omega) (by decide) dX0_field_24 dX0_field_25 (by decide) (fun h => absurd h h3) (fun _ => ?_)
        have hno : ¬ ∃ m, fok m ∧ lN n = lN m := by
          rintro ⟨m, hm, he⟩
          have := (pk_lEQ hn63 (by omega)).mp he
          subst this
          exact h3 hm.2.2
        exact g_throwS (E := xIA) (text := "not below 2 to the 31, or 512 does not divide p - 1") C hT (by rw [hlM]; exact hl) hE rfl (by decide +kernel) (by decide +kernel) (by decide +kernel) (by decide +kernel) (by decide +kernel) (by decide +kernel) (by decide +kernel) dX0_field_28 dX0_field_31 dX0_field_32 dX0_field_34 dX0_field_37 (by rw [hRM]; exact (Nat.le_of_ble_eq_true rfl)) (by rw [hRM]; exact (Nat.le_of_ble_eq_true rfl)) (by rw [hRM]; exact (Nat.le_of_ble_eq_true rfl)) (by rw [hRM]; exact (Nat.le_of_ble_eq_true rfl)) (Nat.le_of_ble_eq_true rfl) (Nat.le_of_ble_eq_true rfl) ⟨rfl, Or.inl ⟨rfl, hno⟩⟩
end
section
/-! ===== the reference: thrown, prime, root, cells, words, work, powers, sums ===== -/
abbrev obM (th : Int32) (p g : Nat) (ad : Nat → Nat) : va_E := .inr (1, [.int th, .long (lN p), .long (lN g), .ref (ad 21), .ref (ad 22), .ref (ad 23), .ref (ad 24), .ref (ad 25)])

set_option maxRecDepth 100000 in
set_option maxHeartbeats 4000000 in
theorem m_thrown (l : Launch) {D : va_G} {tys : List (ClassId × FieldType)} {N : Nat} {ad : Nat → Nat} {ct : Nat → va_E} (hN : 26 ≤ N) {th : Int32} {p g : Nat} (e20 : ct 20 = obM th p g ad) :
    gMi l yX1_thrown wsX1_thrown rz D vwCl tys N ad [.ref (ad 20)] ct (fun r ct1 => r = th ∧ ct1 = ct) := by
  refine gof_i (cc := cX1_thrown) (maxL := 1) (by decide) rfl (Nat.le_of_ble_eq_true rfl) ?_
  intro M sz C hlM hRM hr hsz
  have h20 : 20 < N := by omega
  refine g_aload_n C dX1_thrown_0 (k := ?_)
  refine g_getf (Cn := RX1) (T := TX1) (n := 8) (ref := "WheelProductsModel") C 20 0 h20 e20 rfl (by decide +kernel) (by decide) (by decide +kernel) (fun _ h => h) rfl dX1_thrown_1 ?_
  exact g_iret C hr ⟨rfl, rfl⟩ dX1_thrown_4
set_option maxRecDepth 100000 in
set_option maxHeartbeats 4000000 in
theorem m_rest (l : Launch) {D : va_G} {tys : List (ClassId × FieldType)} {N : Nat} {ad : Nat → Nat} {ct : Nat → va_E} (hN : 26 ≤ N) {th : Int32} {p g : Nat} (e20 : ct 20 = obM th p g ad) (x : Int64) (h0 : 0 < p) (hp : p < 2 ^ 31) :
    gMl l yX1_rest wsX1_rest rz D vwCl tys N ad [.ref (ad 20), .long x] ct (fun r ct1 => r = lN (fm p x) ∧ ct1 = ct) := by
  refine gof_l (cc := cX1_rest) (maxL := 5) (by decide) rfl (Nat.le_of_ble_eq_true rfl) ?_
  intro M sz C hlM hRM hr hsz
  have h20 : 20 < N := by omega
  have hfl := fm_lt h0 x
  refine g_lload_n C dX1_rest_0 (k := ?_)
  refine g_aload_n C dX1_rest_1 (k := ?_)
  refine g_getf (Cn := RX1) (T := TX1) (n := 8) (ref := "WheelProductsModel") C 20 1 h20 e20 rfl (by decide +kernel) (by decide) (by decide +kernel) (fun _ h => h) rfl dX1_rest_2 ?_
  refine g_lrem C dX1_rest_5 (k_lne h0 (by omega)) ?_
  refine g_lstore_n C dX1_rest_6 (k := ?_)
  refine g_lload_n C dX1_rest_7 (k := ?_)
  refine g_lconst C (lN 0) dX1_rest_8 (k := ?_)
  have hr1 := k_rem x h0 hp
  have hb := tmod_bounds (a := x.toInt) (M := p) (by omega)
  have e : (lN p).toInt = p := k_lI (by omega)
  by_cases hx : 0 ≤ x.toInt
  · have hrm := k_remN x h0 hp hx
    rw [hrm]
    refine g_lcN_ge (tgt := 22) C (by omega) (by decide) dX1_rest_9 dX1_rest_10 (by decide) (fun _ => ?_) (fun h => absurd h (by omega))
    refine g_lload_n C dX1_rest_22 (k := ?_)
    exact g_lret C hr ⟨rfl, rfl⟩ dX1_rest_23
  · rcases k_remM x h0 hp (by omega) with ⟨h1, h2⟩ | ⟨h1, h2⟩
    · refine g_lc_ge (tgt := 22) C dX1_rest_9 dX1_rest_10 (by decide) (fun _ => ?_) (fun h => absurd (by rw [Int64.le_iff_toInt_le, hr1, h1]; decide) h)
      refine g_lload_n C dX1_rest_22 (k := ?_)
      exact g_lret C hr ⟨Int64.toInt_inj.mp (by rw [hr1, h1, h2]; rfl), rfl⟩ dX1_rest_23
    · refine g_lc_ge (tgt := 22) C dX1_rest_9 dX1_rest_10 (by decide) (fun h => absurd h (by rw [Int64.le_iff_toInt_le, hr1, show (lN 0).toInt = 0 from rfl]; omega)) (fun _ => ?_)
      refine g_lload_n C dX1_rest_13 (k := ?_)
      refine g_aload_n C dX1_rest_14 (k := ?_)
      refine g_getf (Cn := RX1) (T := TX1) (n := 8) (ref := "WheelProductsModel") C 20 1 h20 e20 rfl (by decide +kernel) (by decide) (by decide +kernel) (fun _ h => h) rfl dX1_rest_15 ?_
      refine g_ladd C dX1_rest_18 ?_
      refine g_goto (tgt := 23) C dX1_rest_19 (k := ?_)
      refine g_lret C hr ⟨Int64.toInt_inj.mp ?_, rfl⟩ dX1_rest_23
      rw [Jvm.Kit.i64_add (by rw [hr1, e]; omega) (by rw [hr1, e]; omega), hr1, e, k_lI (by omega), h2]
set_option maxRecDepth 100000 in
set_option maxHeartbeats 4000000 in
theorem m_raise (l : Launch) {D : va_G} {tys : List (ClassId × FieldType)} {N : Nat} {ad : Nat → Nat} {ct : Nat → va_E} {cl : List vw_C} {x e m : Nat} (hx : x < 2 ^ 63) (he : e < 2 ^ 63) (hm : 1 < m) (hm2 : m < 2 ^ 31) :
    gMl l yX1_raise wsX1_raise rz D cl tys N ad [.long (lN x), .long (lN e), .long (lN m)] ct (fun r ct1 => r = lN (x ^ e % m) ∧ ct1 = ct) := by
  refine gof_l (cc := cX1_raise) (maxL := 12) (by decide) rfl (Nat.le_of_ble_eq_true rfl) ?_
  intro M sz C hlM hRM hr hsz
  have loop : ∀ (b a s : Nat), a < m → s < m → b < 2 ^ 63 → a * s ^ b % m = x ^ e % m → gW M D cl (ixA N ad sz) 12 0 0 (MQ (gb M) (va_Ql (fun r ct1 => r = lN (x ^ e % m) ∧ ct1 = ct) (gB D cl tys N ad (ixA N ad sz)) (ixA N ad sz)) (ga M) (gs M) 0 0 (ixA N ad sz)) N ad 12 [(4, some (.long (lN m))), (6, some (.long (lN a))), (8, some (.long (lN s))), (10, some (.long (lN b)))] [] ct := by
    intro b
    induction b using Nat.strongRecOn with
    | ind b ih =>
      intro a s ha hs hb63 hv
      have hss : s * s < 2 ^ 62 := Nat.lt_of_lt_of_le (Nat.mul_lt_mul'' (Nat.lt_trans hs hm2) (Nat.lt_trans hs hm2)) (by decide)
      have has : a * s < 2 ^ 62 := Nat.lt_of_lt_of_le (Nat.mul_lt_mul'' (Nat.lt_trans ha hm2) (Nat.lt_trans hs hm2)) (by decide)
      refine g_lload C dX1_raise_12 (k := ?_)
      refine g_lconst C (lN 0) dX1_raise_14 (k := ?_)
      by_cases hb0 : b = 0
      · refine g_lcN_le (tgt := 66) C hb63 (by decide) dX1_raise_15 dX1_raise_16 (by decide) (fun _ => ?_) (fun h => absurd h (by omega))
        refine g_lload C dX1_raise_66 (k := ?_)
        refine g_lret C hr ⟨?_, rfl⟩ dX1_raise_68
        rw [hb0, Nat.pow_zero, Nat.mul_one, Nat.mod_eq_of_lt ha] at hv
        rw [hv]
      · refine g_lcN_le (tgt := 66) C hb63 (by decide) dX1_raise_15 dX1_raise_16 (by decide) (fun h => absurd h (by omega)) (fun _ => ?_)
        refine g_lload C dX1_raise_19 (k := ?_)
        refine g_ldc2 (v := 2) C (by decide +kernel) dX1_raise_21 ?_
        refine g_tl (lN 2) rfl ?_
        refine gN_lrem C hb63 (by decide) (by decide) dX1_raise_24 ?_
        refine g_lconst C (lN 1) dX1_raise_25 (k := ?_)
        by_cases h1 : b % 2 = 1
        · refine g_lcN_ne (tgt := 41) C (by omega) (by decide) dX1_raise_26 dX1_raise_27 (by decide) (fun h => absurd h1 h) (fun _ => ?_)
          refine g_lload C dX1_raise_30 (k := ?_)
          refine g_lload C dX1_raise_32 (k := ?_)
          refine gN_lmul C dX1_raise_34 ?_
          refine g_lload C dX1_raise_35 (k := ?_)
          refine gN_lrem C (by omega) (by omega) (by omega) dX1_raise_37 ?_
          refine g_goto (tgt := 43) C dX1_raise_38 (k := ?_)
          refine g_lstore C dX1_raise_43 (k := ?_)
          refine g_lload C dX1_raise_45 (k := ?_)
          refine g_lload C dX1_raise_47 (k := ?_)
          refine gN_lmul C dX1_raise_49 ?_
          refine g_lload C dX1_raise_50 (k := ?_)
          refine gN_lrem C (by omega) (by omega) (by omega) dX1_raise_52 ?_
          refine g_lstore C dX1_raise_53 (k := ?_)
          refine g_lload C dX1_raise_55 (k := ?_)
          refine g_ldc2 (v := 2) C (by decide +kernel) dX1_raise_57 ?_
          refine g_tl (lN 2) rfl ?_
          refine gN_ldiv C hb63 (by decide) (by decide) dX1_raise_60 ?_
          refine g_lstore C dX1_raise_61 (k := ?_)
          refine g_goto (tgt := 12) C dX1_raise_63 (k := ?_)
          refine g_l2 (ih (b / 2) (by omega) (a * s % m) (s * s % m) (Nat.mod_lt _ (by omega)) (Nat.mod_lt _ (by omega)) (by omega) ?_) ⟨Or.inr rfl, Or.inr rfl, Or.inr rfl, Or.inr rfl, trivial⟩
          rw [pm_odd, show 2 * (b / 2) + 1 = b by omega, hv]
        · refine g_lcN_ne (tgt := 41) C (by omega) (by decide) dX1_raise_26 dX1_raise_27 (by decide) (fun _ => ?_) (fun h => absurd h h1)
          refine g_lload C dX1_raise_41 (k := ?_)
          refine g_lstore C dX1_raise_43 (k := ?_)
          refine g_lload C dX1_raise_45 (k := ?_)
          refine g_lload C dX1_raise_47 (k := ?_)
          refine gN_lmul C dX1_raise_49 ?_
          refine g_lload C dX1_raise_50 (k := ?_)
          refine gN_lrem C (by omega) (by omega) (by omega) dX1_raise_52 ?_
          refine g_lstore C dX1_raise_53 (k := ?_)
          refine g_lload C dX1_raise_55 (k := ?_)
          refine g_ldc2 (v := 2) C (by decide +kernel) dX1_raise_57 ?_
          refine g_tl (lN 2) rfl ?_
          refine gN_ldiv C hb63 (by decide) (by decide) dX1_raise_60 ?_
          refine g_lstore C dX1_raise_61 (k := ?_)
          refine g_goto (tgt := 12) C dX1_raise_63 (k := ?_)
          refine g_l2 (ih (b / 2) (by omega) a (s * s % m) ha (Nat.mod_lt _ (by omega)) (by omega) ?_) ⟨Or.inr rfl, Or.inr rfl, Or.inr rfl, Or.inr rfl, trivial⟩
          rw [pm_even, show 2 * (b / 2) = b by omega, hv]
  refine g_lconst C (lN 1) dX1_raise_0 (k := ?_)
  refine g_lstore C dX1_raise_1 (k := ?_)
  refine g_lload_n C dX1_raise_3 (k := ?_)
  refine g_lload C dX1_raise_4 (k := ?_)
  refine gN_lrem C hx (by omega) (by omega) dX1_raise_6 ?_
  refine g_lstore C dX1_raise_7 (k := ?_)
  refine g_lload_n C dX1_raise_9 (k := ?_)
  refine g_lstore C dX1_raise_10 (k := ?_)
  exact g_l2 (loop e 1 (x % m) hm (Nat.mod_lt _ (by omega)) he (by rw [Nat.one_mul, ← Nat.pow_mod])) ⟨Or.inr rfl, Or.inr rfl, Or.inr rfl, Or.inr rfl, trivial⟩
/-- a prime: no number from 2 on whose square isn't above it divides it -/
def prm (n : Nat) : Prop := 2 ≤ n ∧ ∀ d, 2 ≤ d → d * d ≤ n → n % d ≠ 0
set_option maxRecDepth 100000 in
set_option maxHeartbeats 4000000 in
theorem m_isPrime (l : Launch) {D : va_G} {tys : List (ClassId × FieldType)} {N : Nat} {ad : Nat → Nat} {ct : Nat → va_E} {cl : List vw_C} {n : Nat} (h2 : 2 ≤ n) (hn : n < 2 ^ 31) :
    gMi l yX1_isPrime wsX1_isPrime rz D cl tys N ad [.long (lN n)] ct (fun r ct1 => ((r = nI 1 ∧ prm n) ∨ (r = nI 0 ∧ ¬ prm n)) ∧ ct1 = ct) := by
  refine gof_z (cc := cX1_isPrime) (maxL := 4) (by decide) rfl (Nat.le_of_ble_eq_true rfl) ?_
  intro M sz C hlM hRM hr hsz
  have loop : ∀ (f d : Nat), d + f = 46343 → 2 ≤ d → (∀ c, 2 ≤ c → c < d → c * c ≤ n → n % c ≠ 0) → gW M D cl (ixA N ad sz) 4 0 0 (MQ (gb M) (va_Qi (fun r ct1 => ((r = nI 1 ∧ prm n) ∨ (r = nI 0 ∧ ¬ prm n)) ∧ ct1 = ct) (gB D cl tys N ad (ixA N ad sz)) (ixA N ad sz)) (ga M) (gs M) 0 0 (ixA N ad sz)) N ad 14 [(0, some (.long (lN n))), (2, some (.long (lN d)))] [] ct := by
    intro f
    induction f with
    | zero =>
      intro d hd hd2 hv
      have hdd : 46343 * 46343 ≤ d * d := Nat.mul_le_mul (by omega) (by omega)
      have hdu : d * d ≤ 46343 * 46343 := Nat.mul_le_mul (by omega) (by omega)
      refine g_lload_n C dX1_isPrime_14 (k := ?_)
      refine g_lload_n C dX1_isPrime_15 (k := ?_)
      refine gN_lmul C dX1_isPrime_16 ?_
      refine g_lload_n C dX1_isPrime_17 (k := ?_)
      refine g_lcN_gt (tgt := 39) C (by omega) (by omega) dX1_isPrime_18 dX1_isPrime_19 (by decide) (fun _ => ?_) (fun h => absurd h (by omega))
      refine g_iconst C (nI 1) dX1_isPrime_39 (k := ?_)
      refine g_zret C hr (by decide) ⟨Or.inl ⟨rfl, h2, fun c hc hcc => ?_⟩, rfl⟩ dX1_isPrime_40
      refine hv c hc ?_ hcc
      rcases Nat.lt_or_ge c d with h | h
      · exact h
      · have := Nat.mul_le_mul h h
        omega
    | succ f ih =>
      intro d hd hd2 hv
      have hdu : d * d ≤ 46343 * 46343 := Nat.mul_le_mul (by omega) (by omega)
      refine g_lload_n C dX1_isPrime_14 (k := ?_)
      refine g_lload_n C dX1_isPrime_15 (k := ?_)
      refine gN_lmul C dX1_isPrime_16 ?_
      refine g_lload_n C dX1_isPrime_17 (k := ?_)
      by_cases hdn : d * d ≤ n
      · have hm : n % d < 2 ^ 63 := Nat.lt_trans (Nat.mod_lt n (show 0 < d by omega)) (by omega)
        refine g_lcN_gt (tgt := 39) C (by omega) (by omega) dX1_isPrime_18 dX1_isPrime_19 (by decide) (fun h => absurd h (by omega)) (fun _ => ?_)
        refine g_lload_n C dX1_isPrime_22 (k := ?_)
        refine g_lload_n C dX1_isPrime_23 (k := ?_)
        refine gN_lrem C (by omega) (by omega) (by omega) dX1_isPrime_24 ?_
        refine g_lconst C (lN 0) dX1_isPrime_25 (k := ?_)
        by_cases hz : n % d = 0
        · refine g_lcN_ne (tgt := 32) C hm (by decide) dX1_isPrime_26 dX1_isPrime_27 (by decide) (fun h => absurd hz h) (fun _ => ?_)
          refine g_iconst C (nI 0) dX1_isPrime_30 (k := ?_)
          exact g_zret C hr (by decide) ⟨Or.inr ⟨rfl, fun q => q.2 d hd2 hdn hz⟩, rfl⟩ dX1_isPrime_31
        · refine g_lcN_ne (tgt := 32) C hm (by decide) dX1_isPrime_26 dX1_isPrime_27 (by decide) (fun _ => ?_) (fun h => absurd h hz)
          refine g_lload_n C dX1_isPrime_32 (k := ?_)
          refine g_lconst C (lN 1) dX1_isPrime_33 (k := ?_)
          refine gN_ladd C dX1_isPrime_34 ?_
          refine g_lstore_n C dX1_isPrime_35 (k := ?_)
          refine g_goto (tgt := 14) C dX1_isPrime_36 (k := ?_)
          refine g_l2 (ih (d + 1) (by omega) (by omega) (fun c hc hcd hcc => ?_)) ⟨Or.inr rfl, Or.inr rfl, trivial⟩
          by_cases hcd2 : c = d
          · rw [hcd2]; exact hz
          · exact hv c hc (by omega) hcc
      · refine g_lcN_gt (tgt := 39) C (by omega) (by omega) dX1_isPrime_18 dX1_isPrime_19 (by decide) (fun _ => ?_) (fun h => absurd h (by omega))
        refine g_iconst C (nI 1) dX1_isPrime_39 (k := ?_)
        refine g_zret C hr (by decide) ⟨Or.inl ⟨rfl, h2, fun c hc hcc => ?_⟩, rfl⟩ dX1_isPrime_40
        refine hv c hc ?_ hcc
        rcases Nat.lt_or_ge c d with h | h
        · exact h
        · have := Nat.mul_le_mul h h
          omega
  refine g_lload_n C dX1_isPrime_0 (k := ?_)
  refine g_ldc2 (v := 2) C (by decide +kernel) dX1_isPrime_1 ?_
  refine g_tl (lN 2) rfl ?_
  refine g_lcN_ge (tgt := 10) C (by omega) (by decide) dX1_isPrime_4 dX1_isPrime_5 (by decide) (fun _ => ?_) (fun h => absurd h (by omega))
  refine g_ldc2 (v := 2) C (by decide +kernel) dX1_isPrime_10 ?_
  refine g_tl (lN 2) rfl ?_
  refine g_lstore_n C dX1_isPrime_13 (k := ?_)
  exact g_l2 (loop 46341 2 rfl (by decide) (fun c h1 h2 _ => by omega)) ⟨Or.inr rfl, Or.inr rfl, trivial⟩
set_option maxRecDepth 100000 in
set_option maxHeartbeats 4000000 in
theorem m_isRow (l : Launch) {D : va_G} {tys : List (ClassId × FieldType)} {N : Nat} {ad : Nat → Nat} {ct : Nat → va_E} {cl : List vw_C} (x : Int32) :
    gMi l yX1_isRow wsX1_isRow rz D cl tys N ad [.int x] ct (fun r ct1 => ((r = nI 1 ∧ ir x 6) ∨ (r = nI 0 ∧ ¬ ir x 6)) ∧ ct1 = ct) := by
  refine gof_z (cc := cX1_isRow) (maxL := 1) (by decide) rfl (Nat.le_of_ble_eq_true rfl) ?_
  intro M sz C hlM hRM hr hsz
  refine g_iload_n C dX1_isRow_0 (k := ?_)
  rcases pk_ix x (n := 6) (by decide) with h | h | ⟨k, hk, rfl⟩
  · refine g_if_lt (tgt := 14) C dX1_isRow_1 (by decide) (fun _ => ?_) (fun h2 => absurd h h2)
    refine g_iconst C (nI 0) dX1_isRow_14 (k := ?_)
    exact g_zret C hr (by decide) ⟨Or.inr ⟨rfl, ir_no (by decide) (Or.inl h)⟩, rfl⟩ dX1_isRow_15
  · refine g_if_lt (tgt := 14) C dX1_isRow_1 (by decide) (fun h2 => ?_) (fun _ => ?_)
    · refine g_iconst C (nI 0) dX1_isRow_14 (k := ?_)
      exact g_zret C hr (by decide) ⟨Or.inr ⟨rfl, ir_no (by decide) (Or.inl h2)⟩, rfl⟩ dX1_isRow_15
    · refine g_iload_n C dX1_isRow_4 (k := ?_)
      refine g_bipush C (nI 6) dX1_isRow_5 (k := ?_)
      refine g_ic_ge (tgt := 14) C dX1_isRow_7 (by decide) (fun _ => ?_) (fun h2 => absurd h h2)
      refine g_iconst C (nI 0) dX1_isRow_14 (k := ?_)
      exact g_zret C hr (by decide) ⟨Or.inr ⟨rfl, ir_no (by decide) (Or.inr h)⟩, rfl⟩ dX1_isRow_15
  · refine g_ifN_lt (tgt := 14) C (by omega) dX1_isRow_1 (by decide) (fun h2 => absurd h2 (by omega)) (fun _ => ?_)
    refine g_iload_n C dX1_isRow_4 (k := ?_)
    refine g_bipush C (nI 6) dX1_isRow_5 (k := ?_)
    refine g_icN_ge (tgt := 14) C (by omega) (by decide) dX1_isRow_7 (by decide) (fun h2 => absurd h2 (by omega)) (fun _ => ?_)
    refine g_iconst C (nI 1) dX1_isRow_10 (k := ?_)
    refine g_goto (tgt := 15) C dX1_isRow_11 (k := ?_)
    exact g_zret C hr (by decide) ⟨Or.inl ⟨rfl, k, hk, rfl⟩, rfl⟩ dX1_isRow_15
set_option maxRecDepth 100000 in
set_option maxHeartbeats 4000000 in
theorem m_lengthOf (l : Launch) {D : va_G} {tys : List (ClassId × FieldType)} {N : Nat} {ad : Nat → Nat} {ct : Nat → va_E} (hN : 26 ≤ N) {cJ : ClassId} {th : Int32} {p g i : Nat} {c : Nat → Nat} (e20 : ct 20 = obM th p g ad) (ec : ct 21 = LN cJ 3072 c) (ht : tys[0]? = some (cJ, .long)) (hi : i < 6) (hc : ∀ k, k < 3072 → c k < 2 ^ 63) :
    gMi l yX1_lengthOf wsX1_lengthOf rz D vwCl tys N ad [.ref (ad 20), .int (nI i)] ct (fun r ct1 => r = nI (up1 (fun k => c (512 * i + k)) 512) ∧ ct1 = ct) := by
  refine gof_i (cc := cX1_lengthOf) (maxL := 3) (by decide) rfl (Nat.le_of_ble_eq_true rfl) ?_
  intro M sz C hlM hRM hr hsz
  have h20 : 20 < N := by omega
  have hq : 21 < N := by omega
  have loop : ∀ n : Nat, n ≤ 512 → up1 (fun k => c (512 * i + k)) n = up1 (fun k => c (512 * i + k)) 512 → gW M D vwCl (ixA N ad sz) 3 0 0 (MQ (gb M) (va_Qi (fun r ct1 => r = nI (up1 (fun k => c (512 * i + k)) 512) ∧ ct1 = ct) (gB D vwCl tys N ad (ixA N ad sz)) (ixA N ad sz)) (ga M) (gs M) 0 0 (ixA N ad sz)) N ad 4 [(0, some (.ref (ad 20))), (1, some (.int (nI i))), (2, some (.int (nI n)))] [] ct := by
    intro n
    induction n with
    | zero =>
      intro _ hu
      refine g_iload_n C dX1_lengthOf_4 (k := ?_)
      refine g_ifN_le (tgt := 33) C (by decide) dX1_lengthOf_5 (by decide) (fun _ => ?_) (fun h => absurd h (by decide))
      refine g_iload_n C dX1_lengthOf_33 (k := ?_)
      exact g_iret C hr ⟨by rw [← hu]; rfl, rfl⟩ dX1_lengthOf_34
    | succ n ih =>
      intro hn hu
      refine g_iload_n C dX1_lengthOf_4 (k := ?_)
      refine g_ifN_le (tgt := 33) C (by omega) dX1_lengthOf_5 (by decide) (fun h => absurd h (by omega)) (fun _ => ?_)
      refine g_aload_n C dX1_lengthOf_8 (k := ?_)
      refine g_getf (Cn := RX1) (T := TX1) (n := 8) (ref := "WheelProductsModel") C 20 3 h20 e20 rfl (by decide +kernel) (by decide) (by decide +kernel) (fun _ h => h) rfl dX1_lengthOf_9 ?_
      refine g_sipush C (nI 512) dX1_lengthOf_12 (k := ?_)
      refine g_iload_n C dX1_lengthOf_15 (k := ?_)
      refine gN_imul C dX1_lengthOf_16 ?_
      refine g_iload_n C dX1_lengthOf_17 (k := ?_)
      refine gN_iadd C dX1_lengthOf_18 ?_
      refine g_iconst C (nI 1) dX1_lengthOf_19 (k := ?_)
      refine gN_isub C (by omega) dX1_lengthOf_20 ?_
      rw [show 512 * i + (n + 1) - 1 = 512 * i + n by omega]
      refine gN_lald C 21 hq ec ht (by omega) (by decide) dX1_lengthOf_21 ?_
      refine g_lconst C (lN 0) dX1_lengthOf_22 (k := ?_)
      have hvi := hc (512 * i + n) (by omega)
      by_cases hz : c (512 * i + n) = 0
      · refine g_lcN_ne (tgt := 33) C hvi (by decide) dX1_lengthOf_23 dX1_lengthOf_24 (by decide) (fun h => absurd hz h) (fun _ => ?_)
        refine gN_dec C dX1_lengthOf_27 (k := ?_)
        refine g_goto (tgt := 4) C dX1_lengthOf_30 (k := ?_)
        refine g_l2 (ih (by omega) ?_) ⟨Or.inr rfl, Or.inr rfl, Or.inr rfl, trivial⟩
        rw [← hu, up1, if_pos hz]
      · refine g_lcN_ne (tgt := 33) C hvi (by decide) dX1_lengthOf_23 dX1_lengthOf_24 (by decide) (fun _ => ?_) (fun h => absurd h hz)
        refine g_iload_n C dX1_lengthOf_33 (k := ?_)
        refine g_iret C hr ⟨?_, rfl⟩ dX1_lengthOf_34
        rw [← hu, up1, if_neg hz]
  refine g_sipush C (nI 512) dX1_lengthOf_0 (k := ?_)
  refine g_istore_n C dX1_lengthOf_3 (k := ?_)
  exact g_l2 (loop 512 (Nat.le_refl _) rfl) ⟨Or.inr rfl, Or.inr rfl, Or.inr rfl, trivial⟩
set_option maxRecDepth 100000 in
set_option maxHeartbeats 4000000 in
theorem m_sizeOf (l : Launch) {D : va_G} {tys : List (ClassId × FieldType)} {N : Nat} {ad : Nat → Nat} {ct : Nat → va_E} (hN : 26 ≤ N) {cJ : ClassId} {th : Int32} {p g i : Nat} {c : Nat → Nat} (e20 : ct 20 = obM th p g ad) (ec : ct 22 = LN cJ 1440 c) (ht : tys[0]? = some (cJ, .long)) (hi : i < 6) (hc : ∀ k, k < 1440 → c k < 2 ^ 63) :
    gMi l yX1_sizeOf wsX1_sizeOf rz D vwCl tys N ad [.ref (ad 20), .int (nI i)] ct (fun r ct1 => r = nI (up1 (fun k => c (240 * i + k)) 240) ∧ ct1 = ct) := by
  refine gof_i (cc := cX1_sizeOf) (maxL := 3) (by decide) rfl (Nat.le_of_ble_eq_true rfl) ?_
  intro M sz C hlM hRM hr hsz
  have h20 : 20 < N := by omega
  have hq : 22 < N := by omega
  have loop : ∀ n : Nat, n ≤ 240 → up1 (fun k => c (240 * i + k)) n = up1 (fun k => c (240 * i + k)) 240 → gW M D vwCl (ixA N ad sz) 3 0 0 (MQ (gb M) (va_Qi (fun r ct1 => r = nI (up1 (fun k => c (240 * i + k)) 240) ∧ ct1 = ct) (gB D vwCl tys N ad (ixA N ad sz)) (ixA N ad sz)) (ga M) (gs M) 0 0 (ixA N ad sz)) N ad 4 [(0, some (.ref (ad 20))), (1, some (.int (nI i))), (2, some (.int (nI n)))] [] ct := by
    intro n
    induction n with
    | zero =>
      intro _ hu
      refine g_iload_n C dX1_sizeOf_4 (k := ?_)
      refine g_ifN_le (tgt := 33) C (by decide) dX1_sizeOf_5 (by decide) (fun _ => ?_) (fun h => absurd h (by decide))
      refine g_iload_n C dX1_sizeOf_33 (k := ?_)
      exact g_iret C hr ⟨by rw [← hu]; rfl, rfl⟩ dX1_sizeOf_34
    | succ n ih =>
      intro hn hu
      refine g_iload_n C dX1_sizeOf_4 (k := ?_)
      refine g_ifN_le (tgt := 33) C (by omega) dX1_sizeOf_5 (by decide) (fun h => absurd h (by omega)) (fun _ => ?_)
      refine g_aload_n C dX1_sizeOf_8 (k := ?_)
      refine g_getf (Cn := RX1) (T := TX1) (n := 8) (ref := "WheelProductsModel") C 20 4 h20 e20 rfl (by decide +kernel) (by decide) (by decide +kernel) (fun _ h => h) rfl dX1_sizeOf_9 ?_
      refine g_sipush C (nI 240) dX1_sizeOf_12 (k := ?_)
      refine g_iload_n C dX1_sizeOf_15 (k := ?_)
      refine gN_imul C dX1_sizeOf_16 ?_
      refine g_iload_n C dX1_sizeOf_17 (k := ?_)
      refine gN_iadd C dX1_sizeOf_18 ?_
      refine g_iconst C (nI 1) dX1_sizeOf_19 (k := ?_)
      refine gN_isub C (by omega) dX1_sizeOf_20 ?_
      rw [show 240 * i + (n + 1) - 1 = 240 * i + n by omega]
      refine gN_lald C 22 hq ec ht (by omega) (by decide) dX1_sizeOf_21 ?_
      refine g_lconst C (lN 0) dX1_sizeOf_22 (k := ?_)
      have hvi := hc (240 * i + n) (by omega)
      by_cases hz : c (240 * i + n) = 0
      · refine g_lcN_ne (tgt := 33) C hvi (by decide) dX1_sizeOf_23 dX1_sizeOf_24 (by decide) (fun h => absurd hz h) (fun _ => ?_)
        refine gN_dec C dX1_sizeOf_27 (k := ?_)
        refine g_goto (tgt := 4) C dX1_sizeOf_30 (k := ?_)
        refine g_l2 (ih (by omega) ?_) ⟨Or.inr rfl, Or.inr rfl, Or.inr rfl, trivial⟩
        rw [← hu, up1, if_pos hz]
      · refine g_lcN_ne (tgt := 33) C hvi (by decide) dX1_sizeOf_23 dX1_sizeOf_24 (by decide) (fun _ => ?_) (fun h => absurd h hz)
        refine g_iload_n C dX1_sizeOf_33 (k := ?_)
        refine g_iret C hr ⟨?_, rfl⟩ dX1_sizeOf_34
        rw [← hu, up1, if_neg hz]
  refine g_sipush C (nI 240) dX1_sizeOf_0 (k := ?_)
  refine g_istore_n C dX1_sizeOf_3 (k := ?_)
  exact g_l2 (loop 240 (Nat.le_refl _) rfl) ⟨Or.inr rfl, Or.inr rfl, Or.inr rfl, trivial⟩
end
section
theorem okR_nil (p g : Nat) : okR p [] g = true := rfl
theorem okR_cons (p g q : Nat) (L : List Nat) : okR p (q :: L) g = (decide (g ^ ((p - 1) / q) % p ≠ 1) && okR p L g) := by unfold okR; rw [List.all_cons]
abbrev rir : Room := { frames := 1, cells := 0, slots := 0, locals := 31 }
set_option maxRecDepth 100000 in
set_option maxHeartbeats 4000000 in
theorem m_isRoot (l : Launch) {D : va_G} {tys : List (ClassId × FieldType)} {N : Nat} {ad : Nat → Nat} {ct : Nat → va_E} {cl : List vw_C} {g p : Nat} (hg : g < 2 ^ 31) (hp : 2 < p) (hp2 : p < 2 ^ 31) :
    gMi l yX1_isRoot wsX1_isRoot rir D cl tys N ad [.long (lN g), .long (lN p)] ct (fun r ct1 => r = nI (if okR p (facs (p - 1)) g = true then 1 else 0) ∧ ct1 = ct) := by
  refine gof_z (cc := cX1_isRoot) (maxL := 9) (by decide) rfl (Nat.le_of_ble_eq_true rfl) ?_
  intro M sz C hlM hRM hr hsz
  have hfin : ∀ (c b d : Nat), 1 ≤ c → c < 2 ^ 31 → (b = 0 ∨ b = 1) → okR p (facs (p - 1)) g = (decide (b = 1) && okR p (if 1 < c then [c] else []) g) → gW M D cl (ixA N ad sz) 9 0 0 (MQ (gb M) (va_Qi (fun r ct1 => r = nI (if okR p (facs (p - 1)) g = true then 1 else 0) ∧ ct1 = ct) (gB D cl tys N ad (ixA N ad sz)) (ixA N ad sz)) (ga M) (gs M) 0 0 (ixA N ad sz)) N ad 91 [(0, some (.long (lN g))), (2, some (.long (lN p))), (4, some (.long (lN c))), (6, some (.int (nI b))), (7, some (.long (lN d)))] [] ct := by
    intro c b d hc hc2 hb hv
    refine g_iload C dX1_isRoot_91 (k := ?_)
    rcases hb with rfl | rfl
    · refine g_ifN_eq (tgt := 123) C (by decide) dX1_isRoot_93 (by decide) (fun _ => ?_) (fun h => absurd rfl h)
      refine g_iconst C (nI 0) dX1_isRoot_123 (k := ?_)
      refine g_zret C hr (by decide) ⟨?_, rfl⟩ dX1_isRoot_124
      rw [show okR p (facs (p - 1)) g = false from hv]; rfl
    · refine g_ifN_eq (tgt := 123) C (by decide) dX1_isRoot_93 (by decide) (fun h => absurd h (by decide)) (fun _ => ?_)
      refine g_lload C dX1_isRoot_96 (k := ?_)
      refine g_lconst C (lN 1) dX1_isRoot_98 (k := ?_)
      by_cases hc1 : c = 1
      · subst hc1
        refine g_lcN_eq (tgt := 119) C (by decide) (by decide) dX1_isRoot_99 dX1_isRoot_100 (by decide) (fun _ => ?_) (fun h => absurd rfl h)
        refine g_iconst C (nI 1) dX1_isRoot_119 (k := ?_)
        refine g_goto (tgt := 124) C dX1_isRoot_120 (k := ?_)
        refine g_zret C hr (by decide) ⟨?_, rfl⟩ dX1_isRoot_124
        rw [show okR p (facs (p - 1)) g = true from hv]; rfl
      · refine g_lcN_eq (tgt := 119) C (by omega) (by decide) dX1_isRoot_99 dX1_isRoot_100 (by decide) (fun h => absurd h hc1) (fun _ => ?_)
        rw [if_pos (by omega), okR_cons, okR_nil] at hv
        have hdl : (p - 1) / c ≤ p - 1 := Nat.div_le_self _ _
        refine g_lload_n C dX1_isRoot_103 (k := ?_)
        refine g_lload_n C dX1_isRoot_104 (k := ?_)
        refine g_lconst C (lN 1) dX1_isRoot_105 (k := ?_)
        refine gN_lsub C (by omega) dX1_isRoot_106 ?_
        refine g_lload C dX1_isRoot_107 (k := ?_)
        refine gN_ldiv C (by omega) (by omega) (by omega) dX1_isRoot_109 ?_
        refine g_lload_n C dX1_isRoot_110 (k := ?_)
        refine g_cSl (n := 3) (av := [.long (lN g), .long (lN ((p - 1) / c)), .long (lN p)]) C (by rw [hlM]; exact m_raise l (by omega) (by omega) (by omega) hp2) gX1_isRoot_X1_raise rfl ⟨rfl, rfl⟩ (by rw [hRM]; exact ⟨Nat.le_of_ble_eq_true rfl, Nat.le_of_ble_eq_true rfl⟩) (by rw [hRM]; exact ⟨Nat.le_of_ble_eq_true rfl, Nat.le_of_ble_eq_true rfl⟩) (Nat.le_of_ble_eq_true rfl) (by decide +kernel) rfl dX1_isRoot_111 ?_
        rintro _ ct ⟨rfl, rfl⟩
        have hml : g ^ ((p - 1) / c) % p < p := Nat.mod_lt _ (by omega)
        refine g_lconst C (lN 1) dX1_isRoot_114 (k := ?_)
        by_cases h1 : g ^ ((p - 1) / c) % p = 1
        · refine g_lcN_eq (tgt := 123) C (by omega) (by decide) dX1_isRoot_115 dX1_isRoot_116 (by decide) (fun _ => ?_) (fun h => absurd h1 h)
          refine g_iconst C (nI 0) dX1_isRoot_123 (k := ?_)
          refine g_zret C hr (by decide) ⟨?_, rfl⟩ dX1_isRoot_124
          rw [hv]; simp [h1]
        · refine g_lcN_eq (tgt := 123) C (by omega) (by decide) dX1_isRoot_115 dX1_isRoot_116 (by decide) (fun h => absurd h h1) (fun _ => ?_)
          refine g_iconst C (nI 1) dX1_isRoot_119 (k := ?_)
          refine g_goto (tgt := 124) C dX1_isRoot_120 (k := ?_)
          refine g_zret C hr (by decide) ⟨?_, rfl⟩ dX1_isRoot_124
          rw [hv]; simp [h1]
  have loop : ∀ (f d c b : Nat), d + f = 46343 → 2 ≤ d → 1 ≤ c → c < 2 ^ 31 → (b = 0 ∨ b = 1) → okR p (facs (p - 1)) g = (decide (b = 1) && okR p (ffl f d c) g) → gW M D cl (ixA N ad sz) 9 0 0 (MQ (gb M) (va_Qi (fun r ct1 => r = nI (if okR p (facs (p - 1)) g = true then 1 else 0) ∧ ct1 = ct) (gB D cl tys N ad (ixA N ad sz)) (ixA N ad sz)) (ga M) (gs M) 0 0 (ixA N ad sz)) N ad 13 [(0, some (.long (lN g))), (2, some (.long (lN p))), (4, some (.long (lN c))), (6, some (.int (nI b))), (7, some (.long (lN d)))] [] ct := by
    intro f
    induction f with
    | zero =>
      intro d c b hd hd2 hc hc2 hb hv
      have hdd : 46343 * 46343 ≤ d * d := Nat.mul_le_mul (by omega) (by omega)
      have hdu : d * d ≤ 46343 * 46343 := Nat.mul_le_mul (by omega) (by omega)
      refine g_lload C dX1_isRoot_13 (k := ?_)
      refine g_lload C dX1_isRoot_15 (k := ?_)
      refine gN_lmul C dX1_isRoot_17 ?_
      refine g_lload C dX1_isRoot_18 (k := ?_)
      refine g_lcN_gt (tgt := 91) C (by omega) (by omega) dX1_isRoot_20 dX1_isRoot_21 (by decide) (fun _ => ?_) (fun h => absurd h (by omega))
      exact hfin c b d hc hc2 hb hv
    | succ f ih =>
      intro d c b hd hd2 hc hc2 hb hv
      have hdu : d * d ≤ 46343 * 46343 := Nat.mul_le_mul (by omega) (by omega)
      refine g_lload C dX1_isRoot_13 (k := ?_)
      refine g_lload C dX1_isRoot_15 (k := ?_)
      refine gN_lmul C dX1_isRoot_17 ?_
      refine g_lload C dX1_isRoot_18 (k := ?_)
      by_cases hdc : d * d ≤ c
      · refine g_lcN_gt (tgt := 91) C (by omega) (by omega) dX1_isRoot_20 dX1_isRoot_21 (by decide) (fun h => absurd h (by omega)) (fun _ => ?_)
        refine g_iload C dX1_isRoot_24 (k := ?_)
        rcases hb with rfl | rfl
        · refine g_ifN_eq (tgt := 91) C (by decide) dX1_isRoot_26 (by decide) (fun _ => ?_) (fun h => absurd rfl h)
          exact hfin c 0 d hc hc2 (Or.inl rfl) hv
        · refine g_ifN_eq (tgt := 91) C (by decide) dX1_isRoot_26 (by decide) (fun h => absurd h (by decide)) (fun _ => ?_)
          rw [ffl, if_pos hdc] at hv
          have hm : c % d < 2 ^ 63 := Nat.lt_trans (Nat.mod_lt c (show 0 < d by omega)) (by omega)
          refine g_lload C dX1_isRoot_29 (k := ?_)
          refine g_lload C dX1_isRoot_31 (k := ?_)
          refine gN_lrem C (by omega) (by omega) (by omega) dX1_isRoot_33 ?_
          refine g_lconst C (lN 0) dX1_isRoot_34 (k := ?_)
          by_cases hz : c % d = 0
          · rw [if_pos hz, okR_cons] at hv
            have hdl : (p - 1) / d ≤ p - 1 := Nat.div_le_self _ _
            have strip : ∀ (k c1 b1 : Nat), 1 ≤ c1 → c1 < 2 ^ 31 → c1 < d ^ k → wof d k c1 = wof d 31 c → (b1 = 0 ∨ b1 = 1) → okR p (facs (p - 1)) g = (decide (b1 = 1) && okR p (ffl f (d + 1) (wof d 31 c)) g) → gW M D cl (ixA N ad sz) 9 0 0 (MQ (gb M) (va_Qi (fun r ct1 => r = nI (if okR p (facs (p - 1)) g = true then 1 else 0) ∧ ct1 = ct) (gB D cl tys N ad (ixA N ad sz)) (ixA N ad sz)) (ga M) (gs M) 0 0 (ixA N ad sz)) N ad 62 [(0, some (.long (lN g))), (2, some (.long (lN p))), (4, some (.long (lN c1))), (6, some (.int (nI b1))), (7, some (.long (lN d)))] [] ct := by
              intro k
              induction k with
              | zero => intro c1 b1 h1 _ h2 _ _ _; rw [Nat.pow_zero] at h2; omega
              | succ k ihk =>
                intro c1 b1 h1 h12 h2 h3 hb1 hv1
                have hm1 : c1 % d < 2 ^ 63 := Nat.lt_trans (Nat.mod_lt c1 (show 0 < d by omega)) (by omega)
                refine g_lload C dX1_isRoot_62 (k := ?_)
                refine g_lload C dX1_isRoot_64 (k := ?_)
                refine gN_lrem C (by omega) (by omega) (by omega) dX1_isRoot_66 ?_
                refine g_lconst C (lN 0) dX1_isRoot_67 (k := ?_)
                by_cases hz1 : c1 % d = 0
                · refine g_lcN_ne (tgt := 82) C hm1 (by decide) dX1_isRoot_68 dX1_isRoot_69 (by decide) (fun h => absurd hz1 h) (fun _ => ?_)
                  have e9 := Nat.div_add_mod c1 d
                  rw [hz1, Nat.add_zero] at e9
                  have hq1 : 1 ≤ c1 / d := by
                    rcases Nat.eq_zero_or_pos (c1 / d) with h9 | h9
                    · rw [h9, Nat.mul_zero] at e9; omega
                    · exact h9
                  have hq2 : c1 / d ≤ c1 := Nat.div_le_self _ _
                  refine g_lload C dX1_isRoot_72 (k := ?_)
                  refine g_lload C dX1_isRoot_74 (k := ?_)
                  refine gN_ldiv C (by omega) (by omega) (by omega) dX1_isRoot_76 ?_
                  refine g_lstore C dX1_isRoot_77 (k := ?_)
                  refine g_goto (tgt := 62) C dX1_isRoot_79 (k := ?_)
                  refine g_l2 (ihk (c1 / d) b1 hq1 (by omega) ?_ ?_ hb1 hv1) ⟨Or.inr rfl, Or.inr rfl, Or.inr rfl, Or.inr rfl, Or.inr rfl, trivial⟩
                  · rw [Nat.pow_succ] at h2
                    rw [Nat.div_lt_iff_lt_mul (by omega)]; exact h2
                  · rw [← h3, wof, if_pos hz1]
                · refine g_lcN_ne (tgt := 82) C hm1 (by decide) dX1_isRoot_68 dX1_isRoot_69 (by decide) (fun _ => ?_) (fun h => absurd h hz1)
                  rw [wof, if_neg hz1] at h3
                  refine g_lload C dX1_isRoot_82 (k := ?_)
                  refine g_lconst C (lN 1) dX1_isRoot_84 (k := ?_)
                  refine gN_ladd C dX1_isRoot_85 ?_
                  refine g_lstore C dX1_isRoot_86 (k := ?_)
                  refine g_goto (tgt := 13) C dX1_isRoot_88 (k := ?_)
                  refine g_l2 (ih (d + 1) c1 b1 (by omega) (by omega) h1 h12 hb1 (by rw [h3]; exact hv1)) ⟨Or.inr rfl, Or.inr rfl, Or.inr rfl, Or.inr rfl, Or.inr rfl, trivial⟩
            have hpw : c < d ^ 31 := Nat.lt_of_lt_of_le hc2 (Nat.pow_le_pow_left hd2 31)
            refine g_lcN_ne (tgt := 82) C hm (by decide) dX1_isRoot_35 dX1_isRoot_36 (by decide) (fun h => absurd hz h) (fun _ => ?_)
            refine g_lload_n C dX1_isRoot_39 (k := ?_)
            refine g_lload_n C dX1_isRoot_40 (k := ?_)
            refine g_lconst C (lN 1) dX1_isRoot_41 (k := ?_)
            refine gN_lsub C (by omega) dX1_isRoot_42 ?_
            refine g_lload C dX1_isRoot_43 (k := ?_)
            refine gN_ldiv C (by omega) (by omega) (by omega) dX1_isRoot_45 ?_
            refine g_lload_n C dX1_isRoot_46 (k := ?_)
            refine g_cSl (n := 3) (av := [.long (lN g), .long (lN ((p - 1) / d)), .long (lN p)]) C (by rw [hlM]; exact m_raise l (by omega) (by omega) (by omega) hp2) gX1_isRoot_X1_raise rfl ⟨rfl, rfl⟩ (by rw [hRM]; exact ⟨Nat.le_of_ble_eq_true rfl, Nat.le_of_ble_eq_true rfl⟩) (by rw [hRM]; exact ⟨Nat.le_of_ble_eq_true rfl, Nat.le_of_ble_eq_true rfl⟩) (Nat.le_of_ble_eq_true rfl) (by decide +kernel) rfl dX1_isRoot_47 ?_
            rintro _ ct ⟨rfl, rfl⟩
            have hml : g ^ ((p - 1) / d) % p < p := Nat.mod_lt _ (by omega)
            refine g_lconst C (lN 1) dX1_isRoot_50 (k := ?_)
            by_cases h1 : g ^ ((p - 1) / d) % p = 1
            · refine g_lcN_eq (tgt := 59) C (by omega) (by decide) dX1_isRoot_51 dX1_isRoot_52 (by decide) (fun _ => ?_) (fun h => absurd h1 h)
              refine g_iconst C (nI 0) dX1_isRoot_59 (k := ?_)
              refine g_istore C dX1_isRoot_60 (k := ?_)
              exact g_l2 (strip 31 c 0 hc hc2 hpw rfl (Or.inl rfl) (by rw [hv]; simp [h1])) ⟨Or.inr rfl, Or.inr rfl, Or.inr rfl, Or.inr rfl, Or.inr rfl, trivial⟩
            · refine g_lcN_eq (tgt := 59) C (by omega) (by decide) dX1_isRoot_51 dX1_isRoot_52 (by decide) (fun h => absurd h h1) (fun _ => ?_)
              refine g_iconst C (nI 1) dX1_isRoot_55 (k := ?_)
              refine g_goto (tgt := 60) C dX1_isRoot_56 (k := ?_)
              refine g_istore C dX1_isRoot_60 (k := ?_)
              exact g_l2 (strip 31 c 1 hc hc2 hpw rfl (Or.inr rfl) (by rw [hv]; simp [h1])) ⟨Or.inr rfl, Or.inr rfl, Or.inr rfl, Or.inr rfl, Or.inr rfl, trivial⟩
          · rw [if_neg hz] at hv
            refine g_lcN_ne (tgt := 82) C hm (by decide) dX1_isRoot_35 dX1_isRoot_36 (by decide) (fun _ => ?_) (fun h => absurd h hz)
            refine g_lload C dX1_isRoot_82 (k := ?_)
            refine g_lconst C (lN 1) dX1_isRoot_84 (k := ?_)
            refine gN_ladd C dX1_isRoot_85 ?_
            refine g_lstore C dX1_isRoot_86 (k := ?_)
            refine g_goto (tgt := 13) C dX1_isRoot_88 (k := ?_)
            exact g_l2 (ih (d + 1) c 1 (by omega) (by omega) hc hc2 (Or.inr rfl) hv) ⟨Or.inr rfl, Or.inr rfl, Or.inr rfl, Or.inr rfl, Or.inr rfl, trivial⟩
      · rw [ffl, if_neg hdc] at hv
        refine g_lcN_gt (tgt := 91) C (by omega) (by omega) dX1_isRoot_20 dX1_isRoot_21 (by decide) (fun _ => ?_) (fun h => absurd h (by omega))
        exact hfin c b d hc hc2 hb hv
  refine g_lload_n C dX1_isRoot_0 (k := ?_)
  refine g_lconst C (lN 1) dX1_isRoot_1 (k := ?_)
  refine gN_lsub C (by omega) dX1_isRoot_2 ?_
  refine g_lstore C dX1_isRoot_3 (k := ?_)
  refine g_iconst C (nI 1) dX1_isRoot_5 (k := ?_)
  refine g_istore C dX1_isRoot_6 (k := ?_)
  refine g_ldc2 (v := 2) C (by decide +kernel) dX1_isRoot_8 ?_
  refine g_tl (lN 2) rfl ?_
  refine g_lstore C dX1_isRoot_11 (k := ?_)
  exact g_l2 (loop 46341 2 (p - 1) 1 rfl (by decide) (by omega) (by omega) (Or.inr rfl) rfl) ⟨Or.inr rfl, Or.inr rfl, Or.inr rfl, Or.inr rfl, Or.inr rfl, trivial⟩
/-- the least number from 1 on that passes -/
def lsR (p g : Nat) : Prop := 1 ≤ g ∧ okR p (facs (p - 1)) g = true ∧ ∀ h, 1 ≤ h → h < g → okR p (facs (p - 1)) h = false
abbrev rro : Room := { frames := 2, cells := 0, slots := 0, locals := 60 }
set_option maxRecDepth 100000 in
set_option maxHeartbeats 4000000 in
theorem m_rootOf (l : Launch) {D : va_G} {tys : List (ClassId × FieldType)} {N : Nat} {ad : Nat → Nat} {ct : Nat → va_E} {cl : List vw_C} {p g0 : Nat} (hp : 2 < p) (hp2 : p < 2 ^ 31) (hg : lsR p g0) (hg2 : g0 < 2 ^ 31) :
    gMl l yX1_rootOf wsX1_rootOf rro D cl tys N ad [.long (lN p)] ct (fun r ct1 => r = lN g0 ∧ ct1 = ct) := by
  refine gof_l (cc := cX1_rootOf) (maxL := 4) (by decide) rfl (Nat.le_of_ble_eq_true rfl) ?_
  intro M sz C hlM hRM hr hsz
  have loop : ∀ (f g : Nat), g + f = g0 → 1 ≤ g → gW M D cl (ixA N ad sz) 4 0 0 (MQ (gb M) (va_Ql (fun r ct1 => r = lN g0 ∧ ct1 = ct) (gB D cl tys N ad (ixA N ad sz)) (ixA N ad sz)) (ga M) (gs M) 0 0 (ixA N ad sz)) N ad 2 [(0, some (.long (lN p))), (2, some (.long (lN g)))] [] ct := by
    intro f
    induction f with
    | zero =>
      intro g hgf h1
      have hgg : g = g0 := by omega
      subst hgg
      refine g_lload_n C dX1_rootOf_2 (k := ?_)
      refine g_lload_n C dX1_rootOf_3 (k := ?_)
      refine g_cSi (n := 2) (av := [.long (lN g), .long (lN p)]) C (by rw [hlM]; exact m_isRoot l hg2 hp hp2) gX1_rootOf_X1_isRoot rfl ⟨rfl, rfl⟩ (by rw [hRM]; exact ⟨Nat.le_of_ble_eq_true rfl, Nat.le_of_ble_eq_true rfl⟩) (by rw [hRM]; exact ⟨Nat.le_of_ble_eq_true rfl, Nat.le_of_ble_eq_true rfl⟩) (Nat.le_of_ble_eq_true rfl) (by decide +kernel) rfl dX1_rootOf_4 ?_
      rintro _ _ ⟨rfl, rfl⟩
      rw [if_pos hg.2.1]
      refine g_ifN_ne (tgt := 17) C (by decide) dX1_rootOf_7 (by decide) (fun _ => ?_) (fun h => absurd h (by decide))
      refine g_lload_n C dX1_rootOf_17 (k := ?_)
      exact g_lret C hr ⟨rfl, rfl⟩ dX1_rootOf_18
    | succ f ih =>
      intro g hgf h1
      refine g_lload_n C dX1_rootOf_2 (k := ?_)
      refine g_lload_n C dX1_rootOf_3 (k := ?_)
      refine g_cSi (n := 2) (av := [.long (lN g), .long (lN p)]) C (by rw [hlM]; exact m_isRoot l (by omega) hp hp2) gX1_rootOf_X1_isRoot rfl ⟨rfl, rfl⟩ (by rw [hRM]; exact ⟨Nat.le_of_ble_eq_true rfl, Nat.le_of_ble_eq_true rfl⟩) (by rw [hRM]; exact ⟨Nat.le_of_ble_eq_true rfl, Nat.le_of_ble_eq_true rfl⟩) (Nat.le_of_ble_eq_true rfl) (by decide +kernel) rfl dX1_rootOf_4 ?_
      rintro _ ct ⟨rfl, rfl⟩
      rw [hg.2.2 g h1 (by omega), if_neg (by decide)]
      refine g_ifN_ne (tgt := 17) C (by decide) dX1_rootOf_7 (by decide) (fun h => absurd rfl h) (fun _ => ?_)
      refine g_lload_n C dX1_rootOf_10 (k := ?_)
      refine g_lconst C (lN 1) dX1_rootOf_11 (k := ?_)
      refine gN_ladd C dX1_rootOf_12 ?_
      refine g_lstore_n C dX1_rootOf_13 (k := ?_)
      refine g_goto (tgt := 2) C dX1_rootOf_14 (k := ?_)
      exact g_l2 (ih (g + 1) (by omega) (by omega)) ⟨Or.inr rfl, Or.inr rfl, trivial⟩
  refine g_lconst C (lN 1) dX1_rootOf_0 (k := ?_)
  refine g_lstore_n C dX1_rootOf_1 (k := ?_)
  exact g_l2 (loop (g0 - 1) 1 (by have := hg.1; omega) (by decide)) ⟨Or.inr rfl, Or.inr rfl, trivial⟩
set_option maxRecDepth 100000 in
set_option maxHeartbeats 4000000 in
theorem m_clearSums (l : Launch) {D : va_G} {tys : List (ClassId × FieldType)} {N : Nat} {ad : Nat → Nat} {ct : Nat → va_E} (hN : 26 ≤ N) {cJ : ClassId} {th : Int32} {p g : Nat} {z : Nat → Nat} (e20 : ct 20 = obM th p g ad) (ez : ct 25 = LN cJ 241 z) (ht : tys[0]? = some (cJ, .long)) :
    gMv l yX1_clearSums wsX1_clearSums rz D vwCl tys N ad [.ref (ad 20)] ct (fun ct1 => ct1 = va_up ct 25 (LN cJ 241 (fun _ => 0))) := by
  refine gof_v (cc := cX1_clearSums) (maxL := 2) (by decide) rfl (Nat.le_of_ble_eq_true rfl) ?_
  intro M sz C hlM hRM hr hsz
  have h20 : 20 < N := by omega
  have h25 : 25 < N := by omega
  have loop : ∀ (d i : Nat), 241 = i + d → gW M D vwCl (ixA N ad sz) 2 0 0 (MQ (gb M) (va_Qv (fun ct1 => ct1 = va_up ct 25 (LN cJ 241 (fun _ => 0))) (gB D vwCl tys N ad (ixA N ad sz)) (ixA N ad sz)) (ga M) (gs M) 0 0 (ixA N ad sz)) N ad 2 [(0, some (.ref (ad 20))), (1, some (.int (nI i)))] [] (va_up ct 25 (LN cJ 241 (fun k => if k < i then 0 else z k))) := by
    intro d
    induction d with
    | zero =>
      intro i hd
      have hi : i = 241 := by omega
      subst hi
      refine g_iload_n C dX1_clearSums_2 (k := ?_)
      refine g_sipush C (nI 240) dX1_clearSums_3 (k := ?_)
      refine g_icN_gt (tgt := 22) C (by decide) (by decide) dX1_clearSums_6 (by decide) (fun _ => ?_) (fun h => absurd h (by decide))
      refine g_ext 25 (va_up_self _ _ _) (g := fun k => lN ((fun _ => 0) k)) (fun k hk => by show lN (if k < 241 then 0 else z k) = _; rw [if_pos hk]) ?_
      refine g_vret C hr ?_ dX1_clearSums_22
      rw [bx_uu]
    | succ d ih =>
      intro i hd
      refine g_iload_n C dX1_clearSums_2 (k := ?_)
      refine g_sipush C (nI 240) dX1_clearSums_3 (k := ?_)
      refine g_icN_gt (tgt := 22) C (by omega) (by decide) dX1_clearSums_6 (by decide) (fun h => absurd h (by omega)) (fun _ => ?_)
      refine g_aload_n C dX1_clearSums_9 (k := ?_)
      refine g_getf (Cn := RX1) (T := TX1) (n := 8) (ref := "WheelProductsModel") C 20 7 h20 (by (repeat rw [va_up_ne _ _ (by omega)]); exact e20) rfl (by decide +kernel) (by decide) (by decide +kernel) (fun _ h => h) rfl dX1_clearSums_10 ?_
      refine g_iload_n C dX1_clearSums_13 (k := ?_)
      refine g_lconst C (lN 0) dX1_clearSums_14 (k := ?_)
      refine gN_last C 25 h25 (va_up_self _ _ _) ht (by omega) (by decide) dX1_clearSums_15 ?_
      refine gN_inc C dX1_clearSums_16 (k := ?_)
      refine g_goto (tgt := 2) C dX1_clearSums_19 (k := ?_)
      have e : nu (fun k => if k < i then 0 else z k) i 0 = fun k => if k < i + 1 then 0 else z k := by
        funext k
        unfold nu
        by_cases h1 : k = i
        · rw [if_pos h1, if_pos (by omega)]
        · rw [if_neg h1]
          show (if k < i then 0 else z k) = _
          by_cases h2 : k < i
          · rw [if_pos h2, if_pos (by omega)]
          · rw [if_neg h2, if_neg (by omega)]
      rw [bx_uu, e]
      exact g_l2 (ih (i + 1) (by omega)) ⟨Or.inr rfl, Or.inr rfl, trivial⟩
  refine g_iconst C (nI 0) dX1_clearSums_0 (k := ?_)
  refine g_istore_n C dX1_clearSums_1 (k := ?_)
  refine g_ct (ct' := va_up ct 25 (LN cJ 241 (fun k => if k < 0 then 0 else z k))) ?_ ?_
  · have : (fun k => if k < 0 then 0 else z k) = z := funext fun k => if_neg (by omega)
    rw [this, up_id ez]
  · exact g_l2 (loop 241 0 (by omega)) ⟨Or.inr rfl, Or.inr rfl, trivial⟩
/-- a flat row: of rows of W numbers, the first n of row t are s -/
def fr (W t n : Nat) (s v : Nat → Nat) : Nat → Nat := fun x => if W * t ≤ x ∧ x < W * t + n then s (x - W * t) else v x
theorem fr_0 (W t : Nat) (s v : Nat → Nat) : fr W t 0 s v = v := by
  funext x; unfold fr; rw [if_neg (by omega)]
theorem fr_s (W t n : Nat) (s v : Nat → Nat) : nu (fr W t n s v) (W * t + n) (s n) = fr W t (n + 1) s v := by
  funext x
  unfold nu fr
  by_cases h : x = W * t + n
  · rw [if_pos h, if_pos (by omega), show x - W * t = n by omega]
  · rw [if_neg h]
    by_cases h2 : W * t ≤ x ∧ x < W * t + n
    · rw [if_pos h2, if_pos (by omega)]
    · rw [if_neg h2, if_neg (by omega)]
theorem fr_at (W t n : Nat) (s v : Nat → Nat) {k : Nat} (h : k < n) : fr W t n s v (W * t + k) = s k := by
  unfold fr; rw [if_pos (by omega), Nat.add_sub_cancel_left]
abbrev rtk : Room := { frames := 1, cells := 0, slots := 0, locals := 22 }
set_option maxRecDepth 100000 in
set_option maxHeartbeats 4000000 in
theorem m_take (l : Launch) {D : va_G} {tys : List (ClassId × FieldType)} {N : Nat} {ad : Nat → Nat} {ct : Nat → va_E} (hN : 26 ≤ N) {cJ : ClassId} {th : Int32} {p g t : Nat} {s wd : Nat → Nat} (e20 : ct 20 = obM th p g ad) (ew : ct 22 = LN cJ 1440 wd) (es : ct 25 = LN cJ 241 s) (ht : tys[0]? = some (cJ, .long)) (ht6 : t < 6) (hw : ∀ k, k < 1440 → wd k < 2 ^ 63) (hs : ∀ k, k < 240 → s k < 2 ^ 63) :
    gMi l yX1_take wsX1_take rtk D vwCl tys N ad [.ref (ad 20), .int (nI t)] ct (fun r ct1 => r = nI (up1 s 240) ∧ ct1 = va_up ct 22 (LN cJ 1440 (fr 240 t 240 s wd))) := by
  refine gof_i (cc := cX1_take) (maxL := 3) (by decide) rfl (Nat.le_of_ble_eq_true rfl) ?_
  intro M sz C hlM hRM hr hsz
  have h20 : 20 < N := by omega
  have h22 : 22 < N := by omega
  have h25 : 25 < N := by omega
  have loop : ∀ (d i : Nat), 240 = i + d → gW M D vwCl (ixA N ad sz) 3 0 0 (MQ (gb M) (va_Qi (fun r ct1 => r = nI (up1 s 240) ∧ ct1 = va_up ct 22 (LN cJ 1440 (fr 240 t 240 s wd))) (gB D vwCl tys N ad (ixA N ad sz)) (ixA N ad sz)) (ga M) (gs M) 0 0 (ixA N ad sz)) N ad 2 [(0, some (.ref (ad 20))), (1, some (.int (nI t))), (2, some (.int (nI i)))] [] (va_up ct 22 (LN cJ 1440 (fr 240 t i s wd))) := by
    intro d
    induction d with
    | zero =>
      intro i hd
      have hi : i = 240 := by omega
      subst hi
      refine g_iload_n C dX1_take_2 (k := ?_)
      refine g_sipush C (nI 240) dX1_take_3 (k := ?_)
      refine g_icN_ge (tgt := 33) C (by decide) (by decide) dX1_take_6 (by decide) (fun _ => ?_) (fun h => absurd h (by decide))
      refine g_aload_n C dX1_take_33 (k := ?_)
      refine g_iload_n C dX1_take_34 (k := ?_)
      have hfrl : ∀ k, k < 1440 → fr 240 t 240 s wd k < 2 ^ 63 := fun k hk => by
        unfold fr
        split
        · exact hs _ (by omega)
        · exact hw k hk
      refine g_cVi (n := 1) (av := [.int (nI t)]) C 20 h20 (by (repeat rw [va_up_ne _ _ (by omega)]); exact e20) rfl (by rw [hlM]; exact m_sizeOf l hN (by (repeat rw [va_up_ne _ _ (by omega)]); exact e20) (va_up_self _ _ _) ht ht6 hfrl) gX1_take_X1_sizeOf rfl ⟨rfl, rfl⟩ (by rw [hRM]; exact ⟨Nat.le_of_ble_eq_true rfl, Nat.le_of_ble_eq_true rfl⟩) (by rw [hRM]; exact ⟨Nat.le_of_ble_eq_true rfl, Nat.le_of_ble_eq_true rfl⟩) (Nat.le_of_ble_eq_true rfl) (by decide +kernel) rfl dX1_take_35 ?_
      rintro _ _ ⟨rfl, rfl⟩
      refine g_iret C hr ⟨?_, rfl⟩ dX1_take_38
      rw [up1_congr (fun k hk => fr_at 240 t 240 s wd hk)]
    | succ d ih =>
      intro i hd
      refine g_iload_n C dX1_take_2 (k := ?_)
      refine g_sipush C (nI 240) dX1_take_3 (k := ?_)
      refine g_icN_ge (tgt := 33) C (by omega) (by decide) dX1_take_6 (by decide) (fun h => absurd h (by omega)) (fun _ => ?_)
      refine g_aload_n C dX1_take_9 (k := ?_)
      refine g_getf (Cn := RX1) (T := TX1) (n := 8) (ref := "WheelProductsModel") C 20 4 h20 (by (repeat rw [va_up_ne _ _ (by omega)]); exact e20) rfl (by decide +kernel) (by decide) (by decide +kernel) (fun _ h => h) rfl dX1_take_10 ?_
      refine g_sipush C (nI 240) dX1_take_13 (k := ?_)
      refine g_iload_n C dX1_take_16 (k := ?_)
      refine gN_imul C dX1_take_17 ?_
      refine g_iload_n C dX1_take_18 (k := ?_)
      refine gN_iadd C dX1_take_19 ?_
      refine g_aload_n C dX1_take_20 (k := ?_)
      refine g_getf (Cn := RX1) (T := TX1) (n := 8) (ref := "WheelProductsModel") C 20 7 h20 (by (repeat rw [va_up_ne _ _ (by omega)]); exact e20) rfl (by decide +kernel) (by decide) (by decide +kernel) (fun _ h => h) rfl dX1_take_21 ?_
      refine g_iload_n C dX1_take_24 (k := ?_)
      refine gN_lald C 25 h25 (by (repeat rw [va_up_ne _ _ (by omega)]); exact es) ht (by omega) (by decide) dX1_take_25 ?_
      refine gN_last C 22 h22 (va_up_self _ _ _) ht (by omega) (by decide) dX1_take_26 ?_
      rw [bx_uu, fr_s]
      refine gN_inc C dX1_take_27 (k := ?_)
      refine g_goto (tgt := 2) C dX1_take_30 (k := ?_)
      exact g_l2 (ih (i + 1) (by omega)) ⟨Or.inr rfl, Or.inr rfl, Or.inr rfl, trivial⟩
  refine g_iconst C (nI 0) dX1_take_0 (k := ?_)
  refine g_istore_n C dX1_take_1 (k := ?_)
  refine g_ct (ct' := va_up ct 22 (LN cJ 1440 (fr 240 t 0 s wd))) (by rw [fr_0, up_id ew]) ?_
  exact g_l2 (loop 240 0 (by omega)) ⟨Or.inr rfl, Or.inr rfl, Or.inr rfl, trivial⟩
end
section
abbrev rm1 : Room := { frames := 1, cells := 0, slots := 0, locals := 31 }
set_option maxRecDepth 100000 in
set_option maxHeartbeats 4000000 in
theorem m_times (l : Launch) {D : va_G} {tys : List (ClassId × FieldType)} {N : Nat} {ad : Nat → Nat} {ct : Nat → va_E} (hN : 26 ≤ N) {cJ : ClassId} {th : Int32} {p g : Nat} {c wd : Nat → Nat} (e20 : ct 20 = obM th p g ad) (ec : ct 21 = LN cJ 3072 c) (ew : ct 22 = LN cJ 1440 wd) (ht : tys[0]? = some (cJ, .long)) (hp1 : 512 < p) (hp2 : p < 2 ^ 31) (hc : ∀ k, k < 3072 → c k < p) (hw : ∀ k, k < 1440 → wd k < 2 ^ 32) (x y : Int64) :
    gMl l yX1_times wsX1_times rm1 D vwCl tys N ad [.ref (ad 20), .long x, .long y] ct (fun r ct1 => r = lN (fm p x * fm p y % p) ∧ ct1 = va_up ct 20 (obM (nI 0) p g ad)) := by
  refine gof_l (cc := cX1_times) (maxL := 5) (by decide) rfl (Nat.le_of_ble_eq_true rfl) ?_
  intro M sz C hlM hRM hr hsz
  have h20 : 20 < N := by omega
  have h21 : 21 < N := by omega
  have h22 : 22 < N := by omega
  have hx := fm_lt (p := p) (by omega) x
  have hy := fm_lt (p := p) (by omega) y
  have hmul : fm p x * fm p y < 2 ^ 62 := Nat.lt_of_lt_of_le (Nat.mul_lt_mul'' (Nat.lt_trans hx hp2) (Nat.lt_trans hy hp2)) (by decide)
  refine g_aload_n C dX1_times_0 (k := ?_)
  refine g_iconst C (nI 0) dX1_times_1 (k := ?_)
  refine g_putf (Cn := RX1) (T := TX1) (n := 8) (ref := "WheelProductsModel") (ty := .int) C 20 0 h20 e20 rfl (by decide +kernel) tyX1 tyX1_ok nmX1 (by decide) (by decide +kernel) (fun _ h => h) rfl (by decide +kernel) rfl rfl (Nat.le_of_ble_eq_true rfl) dX1_times_2 ?_
  refine g_ct (ct' := va_up (ct) 20 (obM (nI 0) p g ad)) rfl ?_
  refine g_aload_n C dX1_times_5 (k := ?_)
  refine g_lload_n C dX1_times_6 (k := ?_)
  refine g_cVl (n := 1) (av := [.long x]) C 20 h20 (va_up_self _ _ _) rfl (by rw [hlM]; exact m_rest l hN (va_up_self _ _ _) x (by omega) hp2) gX1_times_X1_rest rfl ⟨rfl, rfl⟩ (by rw [hRM]; exact ⟨Nat.le_of_ble_eq_true rfl, Nat.le_of_ble_eq_true rfl⟩) (by rw [hRM]; exact ⟨Nat.le_of_ble_eq_true rfl, Nat.le_of_ble_eq_true rfl⟩) (Nat.le_of_ble_eq_true rfl) (by decide +kernel) rfl dX1_times_7 ?_
  rintro _ _ ⟨rfl, rfl⟩
  refine g_aload_n C dX1_times_10 (k := ?_)
  refine g_lload_n C dX1_times_11 (k := ?_)
  refine g_cVl (n := 1) (av := [.long y]) C 20 h20 (va_up_self _ _ _) rfl (by rw [hlM]; exact m_rest l hN (va_up_self _ _ _) y (by omega) hp2) gX1_times_X1_rest rfl ⟨rfl, rfl⟩ (by rw [hRM]; exact ⟨Nat.le_of_ble_eq_true rfl, Nat.le_of_ble_eq_true rfl⟩) (by rw [hRM]; exact ⟨Nat.le_of_ble_eq_true rfl, Nat.le_of_ble_eq_true rfl⟩) (Nat.le_of_ble_eq_true rfl) (by decide +kernel) rfl dX1_times_12 ?_
  rintro _ _ ⟨rfl, rfl⟩
  refine gN_lmul C dX1_times_15 ?_
  refine g_aload_n C dX1_times_16 (k := ?_)
  refine g_getf (Cn := RX1) (T := TX1) (n := 8) (ref := "WheelProductsModel") C 20 1 h20 (va_up_self _ _ _) rfl (by decide +kernel) (by decide) (by decide +kernel) (fun _ h => h) rfl dX1_times_17 ?_
  refine gN_lrem C (by omega) (by omega) (by omega) dX1_times_20 ?_
  exact g_lret C hr ⟨rfl, rfl⟩ dX1_times_21
set_option maxRecDepth 100000 in
set_option maxHeartbeats 4000000 in
theorem m_power (l : Launch) {D : va_G} {tys : List (ClassId × FieldType)} {N : Nat} {ad : Nat → Nat} {ct : Nat → va_E} (hN : 26 ≤ N) {cJ : ClassId} {th : Int32} {p g : Nat} {c wd : Nat → Nat} (e20 : ct 20 = obM th p g ad) (ec : ct 21 = LN cJ 3072 c) (ew : ct 22 = LN cJ 1440 wd) (ht : tys[0]? = some (cJ, .long)) (hp1 : 512 < p) (hp2 : p < 2 ^ 31) (hc : ∀ k, k < 3072 → c k < p) (hw : ∀ k, k < 1440 → wd k < 2 ^ 32) (x e : Int64) :
    gMl l yX1_power wsX1_power rm1 D vwCl tys N ad [.ref (ad 20), .long x, .long e] ct (fun r ct1 => (e < 0 ∧ ct1 = va_up ct 20 (obM (nI 1) p g ad)) ∨ (∃ n, n < 2 ^ 63 ∧ e = lN n ∧ r = lN (fm p x ^ n % p) ∧ ct1 = va_up ct 20 (obM (nI 0) p g ad))) := by
  refine gof_l (cc := cX1_power) (maxL := 5) (by decide) rfl (Nat.le_of_ble_eq_true rfl) ?_
  intro M sz C hlM hRM hr hsz
  have h20 : 20 < N := by omega
  have h21 : 21 < N := by omega
  have h22 : 22 < N := by omega
  have hx := fm_lt (p := p) (by omega) x
  refine g_aload_n C dX1_power_0 (k := ?_)
  refine g_lload_n C dX1_power_1 (k := ?_)
  refine g_lconst C (lN 0) dX1_power_2 (k := ?_)
  by_cases hneg : e < 0
  · refine g_lc_ge (tgt := 11) C dX1_power_3 dX1_power_4 (by decide) (fun h => absurd hneg (by rw [Int64.not_lt]; exact h)) (fun _ => ?_)
    refine g_iconst C (nI 1) dX1_power_7 (k := ?_)
    refine g_goto (tgt := 12) C dX1_power_8 (k := ?_)
    refine g_putf (Cn := RX1) (T := TX1) (n := 8) (ref := "WheelProductsModel") (ty := .int) C 20 0 h20 e20 rfl (by decide +kernel) tyX1 tyX1_ok nmX1 (by decide) (by decide +kernel) (fun _ h => h) rfl (by decide +kernel) rfl rfl (Nat.le_of_ble_eq_true rfl) dX1_power_12 ?_
    refine g_ct (ct' := va_up (ct) 20 (obM (nI 1) p g ad)) rfl ?_
    refine g_aload_n C dX1_power_15 (k := ?_)
    refine g_getf (Cn := RX1) (T := TX1) (n := 8) (ref := "WheelProductsModel") C 20 0 h20 (va_up_self _ _ _) rfl (by decide +kernel) (by decide) (by decide +kernel) (fun _ h => h) rfl dX1_power_16 ?_
    refine g_ifN_le (tgt := 26) C (by decide) dX1_power_19 (by decide) (fun h => absurd h (by decide)) (fun _ => ?_)
    refine g_lconst C (lN 0) dX1_power_22 (k := ?_)
    refine g_goto (tgt := 39) C dX1_power_23 (k := ?_)
    exact g_lret C hr (Or.inl ⟨hneg, rfl⟩) dX1_power_39
  · obtain ⟨n, hn, rfl⟩ := pk_lOf hneg
    refine g_lcN_ge (tgt := 11) C hn (by decide) dX1_power_3 dX1_power_4 (by decide) (fun _ => ?_) (fun h => absurd h (by omega))
    refine g_iconst C (nI 0) dX1_power_11 (k := ?_)
    refine g_putf (Cn := RX1) (T := TX1) (n := 8) (ref := "WheelProductsModel") (ty := .int) C 20 0 h20 e20 rfl (by decide +kernel) tyX1 tyX1_ok nmX1 (by decide) (by decide +kernel) (fun _ h => h) rfl (by decide +kernel) rfl rfl (Nat.le_of_ble_eq_true rfl) dX1_power_12 ?_
    refine g_ct (ct' := va_up (ct) 20 (obM (nI 0) p g ad)) rfl ?_
    refine g_aload_n C dX1_power_15 (k := ?_)
    refine g_getf (Cn := RX1) (T := TX1) (n := 8) (ref := "WheelProductsModel") C 20 0 h20 (va_up_self _ _ _) rfl (by decide +kernel) (by decide) (by decide +kernel) (fun _ h => h) rfl dX1_power_16 ?_
    refine g_ifN_le (tgt := 26) C (by decide) dX1_power_19 (by decide) (fun _ => ?_) (fun h => absurd h (by decide))
    refine g_aload_n C dX1_power_26 (k := ?_)
    refine g_lload_n C dX1_power_27 (k := ?_)
    refine g_cVl (n := 1) (av := [.long x]) C 20 h20 (va_up_self _ _ _) rfl (by rw [hlM]; exact m_rest l hN (va_up_self _ _ _) x (by omega) hp2) gX1_power_X1_rest rfl ⟨rfl, rfl⟩ (by rw [hRM]; exact ⟨Nat.le_of_ble_eq_true rfl, Nat.le_of_ble_eq_true rfl⟩) (by rw [hRM]; exact ⟨Nat.le_of_ble_eq_true rfl, Nat.le_of_ble_eq_true rfl⟩) (Nat.le_of_ble_eq_true rfl) (by decide +kernel) rfl dX1_power_28 ?_
    rintro _ _ ⟨rfl, rfl⟩
    refine g_lload_n C dX1_power_31 (k := ?_)
    refine g_aload_n C dX1_power_32 (k := ?_)
    refine g_getf (Cn := RX1) (T := TX1) (n := 8) (ref := "WheelProductsModel") C 20 1 h20 (va_up_self _ _ _) rfl (by decide +kernel) (by decide) (by decide +kernel) (fun _ h => h) rfl dX1_power_33 ?_
    refine g_cSl (n := 3) (av := [.long (lN (fm p x)), .long (lN (n)), .long (lN p)]) C (by rw [hlM]; exact m_raise l (by omega) hn (by omega) hp2) gX1_power_X1_raise rfl ⟨rfl, rfl⟩ (by rw [hRM]; exact ⟨Nat.le_of_ble_eq_true rfl, Nat.le_of_ble_eq_true rfl⟩) (by rw [hRM]; exact ⟨Nat.le_of_ble_eq_true rfl, Nat.le_of_ble_eq_true rfl⟩) (Nat.le_of_ble_eq_true rfl) (by decide +kernel) rfl dX1_power_36 ?_
    rintro _ _ ⟨rfl, rfl⟩
    exact g_lret C hr (Or.inr ⟨n, hn, rfl, rfl, rfl⟩) dX1_power_39
set_option maxRecDepth 100000 in
set_option maxHeartbeats 4000000 in
theorem m_inverse (l : Launch) {D : va_G} {tys : List (ClassId × FieldType)} {N : Nat} {ad : Nat → Nat} {ct : Nat → va_E} (hN : 26 ≤ N) {cJ : ClassId} {th : Int32} {p g : Nat} {c wd : Nat → Nat} (e20 : ct 20 = obM th p g ad) (ec : ct 21 = LN cJ 3072 c) (ew : ct 22 = LN cJ 1440 wd) (ht : tys[0]? = some (cJ, .long)) (hp1 : 512 < p) (hp2 : p < 2 ^ 31) (hc : ∀ k, k < 3072 → c k < p) (hw : ∀ k, k < 1440 → wd k < 2 ^ 32) (x : Int64) :
    gMl l yX1_inverse wsX1_inverse rm1 D vwCl tys N ad [.ref (ad 20), .long x] ct (fun r ct1 => (fm p x = 0 ∧ ct1 = va_up ct 20 (obM (nI 1) p g ad)) ∨ (fm p x ≠ 0 ∧ r = lN (fm p x ^ (p - 2) % p) ∧ ct1 = va_up ct 20 (obM (nI 0) p g ad))) := by
  refine gof_l (cc := cX1_inverse) (maxL := 3) (by decide) rfl (Nat.le_of_ble_eq_true rfl) ?_
  intro M sz C hlM hRM hr hsz
  have h20 : 20 < N := by omega
  have h21 : 21 < N := by omega
  have h22 : 22 < N := by omega
  have hx := fm_lt (p := p) (by omega) x
  refine g_aload_n C dX1_inverse_0 (k := ?_)
  refine g_aload_n C dX1_inverse_1 (k := ?_)
  refine g_lload_n C dX1_inverse_2 (k := ?_)
  refine g_cVl (n := 1) (av := [.long x]) C 20 h20 e20 rfl (by rw [hlM]; exact m_rest l hN e20 x (by omega) hp2) gX1_inverse_X1_rest rfl ⟨rfl, rfl⟩ (by rw [hRM]; exact ⟨Nat.le_of_ble_eq_true rfl, Nat.le_of_ble_eq_true rfl⟩) (by rw [hRM]; exact ⟨Nat.le_of_ble_eq_true rfl, Nat.le_of_ble_eq_true rfl⟩) (Nat.le_of_ble_eq_true rfl) (by decide +kernel) rfl dX1_inverse_3 ?_
  rintro _ ct ⟨rfl, rfl⟩
  refine g_lconst C (lN 0) dX1_inverse_6 (k := ?_)
  by_cases hz : fm p x = 0
  · refine g_lcN_ne (tgt := 15) C (by omega) (by decide) dX1_inverse_7 dX1_inverse_8 (by decide) (fun h => absurd hz h) (fun _ => ?_)
    refine g_iconst C (nI 1) dX1_inverse_11 (k := ?_)
    refine g_goto (tgt := 16) C dX1_inverse_12 (k := ?_)
    refine g_putf (Cn := RX1) (T := TX1) (n := 8) (ref := "WheelProductsModel") (ty := .int) C 20 0 h20 e20 rfl (by decide +kernel) tyX1 tyX1_ok nmX1 (by decide) (by decide +kernel) (fun _ h => h) rfl (by decide +kernel) rfl rfl (Nat.le_of_ble_eq_true rfl) dX1_inverse_16 ?_
    refine g_ct (ct' := va_up (ct) 20 (obM (nI 1) p g ad)) rfl ?_
    refine g_aload_n C dX1_inverse_19 (k := ?_)
    refine g_getf (Cn := RX1) (T := TX1) (n := 8) (ref := "WheelProductsModel") C 20 0 h20 (va_up_self _ _ _) rfl (by decide +kernel) (by decide) (by decide +kernel) (fun _ h => h) rfl dX1_inverse_20 ?_
    refine g_ifN_le (tgt := 30) C (by decide) dX1_inverse_23 (by decide) (fun h => absurd h (by decide)) (fun _ => ?_)
    refine g_lconst C (lN 0) dX1_inverse_26 (k := ?_)
    refine g_goto (tgt := 50) C dX1_inverse_27 (k := ?_)
    exact g_lret C hr (Or.inl ⟨hz, rfl⟩) dX1_inverse_50
  · refine g_lcN_ne (tgt := 15) C (by omega) (by decide) dX1_inverse_7 dX1_inverse_8 (by decide) (fun _ => ?_) (fun h => absurd h hz)
    refine g_iconst C (nI 0) dX1_inverse_15 (k := ?_)
    refine g_putf (Cn := RX1) (T := TX1) (n := 8) (ref := "WheelProductsModel") (ty := .int) C 20 0 h20 e20 rfl (by decide +kernel) tyX1 tyX1_ok nmX1 (by decide) (by decide +kernel) (fun _ h => h) rfl (by decide +kernel) rfl rfl (Nat.le_of_ble_eq_true rfl) dX1_inverse_16 ?_
    refine g_ct (ct' := va_up (ct) 20 (obM (nI 0) p g ad)) rfl ?_
    refine g_aload_n C dX1_inverse_19 (k := ?_)
    refine g_getf (Cn := RX1) (T := TX1) (n := 8) (ref := "WheelProductsModel") C 20 0 h20 (va_up_self _ _ _) rfl (by decide +kernel) (by decide) (by decide +kernel) (fun _ h => h) rfl dX1_inverse_20 ?_
    refine g_ifN_le (tgt := 30) C (by decide) dX1_inverse_23 (by decide) (fun _ => ?_) (fun h => absurd h (by decide))
    refine g_aload_n C dX1_inverse_30 (k := ?_)
    refine g_lload_n C dX1_inverse_31 (k := ?_)
    refine g_cVl (n := 1) (av := [.long x]) C 20 h20 (va_up_self _ _ _) rfl (by rw [hlM]; exact m_rest l hN (va_up_self _ _ _) x (by omega) hp2) gX1_inverse_X1_rest rfl ⟨rfl, rfl⟩ (by rw [hRM]; exact ⟨Nat.le_of_ble_eq_true rfl, Nat.le_of_ble_eq_true rfl⟩) (by rw [hRM]; exact ⟨Nat.le_of_ble_eq_true rfl, Nat.le_of_ble_eq_true rfl⟩) (Nat.le_of_ble_eq_true rfl) (by decide +kernel) rfl dX1_inverse_32 ?_
    rintro _ _ ⟨rfl, rfl⟩
    refine g_aload_n C dX1_inverse_35 (k := ?_)
    refine g_getf (Cn := RX1) (T := TX1) (n := 8) (ref := "WheelProductsModel") C 20 1 h20 (va_up_self _ _ _) rfl (by decide +kernel) (by decide) (by decide +kernel) (fun _ h => h) rfl dX1_inverse_36 ?_
    refine g_ldc2 (v := 2) C (by decide +kernel) dX1_inverse_39 ?_
    refine g_tl (lN 2) rfl ?_
    refine gN_lsub C (by omega) dX1_inverse_42 ?_
    refine g_aload_n C dX1_inverse_43 (k := ?_)
    refine g_getf (Cn := RX1) (T := TX1) (n := 8) (ref := "WheelProductsModel") C 20 1 h20 (va_up_self _ _ _) rfl (by decide +kernel) (by decide) (by decide +kernel) (fun _ h => h) rfl dX1_inverse_44 ?_
    refine g_cSl (n := 3) (av := [.long (lN (fm p x)), .long (lN (p - 2)), .long (lN p)]) C (by rw [hlM]; exact m_raise l (by omega) (by omega) (by omega) hp2) gX1_inverse_X1_raise rfl ⟨rfl, rfl⟩ (by rw [hRM]; exact ⟨Nat.le_of_ble_eq_true rfl, Nat.le_of_ble_eq_true rfl⟩) (by rw [hRM]; exact ⟨Nat.le_of_ble_eq_true rfl, Nat.le_of_ble_eq_true rfl⟩) (Nat.le_of_ble_eq_true rfl) (by decide +kernel) rfl dX1_inverse_47 ?_
    rintro _ _ ⟨rfl, rfl⟩
    exact g_lret C hr (Or.inr ⟨hz, rfl, rfl⟩) dX1_inverse_50
set_option maxRecDepth 100000 in
set_option maxHeartbeats 4000000 in
theorem m_get (l : Launch) {D : va_G} {tys : List (ClassId × FieldType)} {N : Nat} {ad : Nat → Nat} {ct : Nat → va_E} (hN : 26 ≤ N) {cJ : ClassId} {th : Int32} {p g : Nat} {c wd : Nat → Nat} (e20 : ct 20 = obM th p g ad) (ec : ct 21 = LN cJ 3072 c) (ew : ct 22 = LN cJ 1440 wd) (ht : tys[0]? = some (cJ, .long)) (hp1 : 512 < p) (hp2 : p < 2 ^ 31) (hc : ∀ k, k < 3072 → c k < p) (hw : ∀ k, k < 1440 → wd k < 2 ^ 32) (x y : Int32) :
    gMl l yX1_get wsX1_get rm1 D vwCl tys N ad [.ref (ad 20), .int x, .int y] ct (fun r ct1 => (¬ (ir x 6 ∧ ir y 512) ∧ ct1 = va_up ct 20 (obM (nI 1) p g ad)) ∨ (∃ i k, i < 6 ∧ k < 512 ∧ x = nI i ∧ y = nI k ∧ r = lN (c (512 * i + k)) ∧ ct1 = va_up ct 20 (obM (nI 0) p g ad))) := by
  refine gof_l (cc := cX1_get) (maxL := 3) (by decide) rfl (Nat.le_of_ble_eq_true rfl) ?_
  intro M sz C hlM hRM hr hsz
  have h20 : 20 < N := by omega
  have h21 : 21 < N := by omega
  have h22 : 22 < N := by omega
  refine g_aload_n C dX1_get_0 (k := ?_)
  refine g_iload_n C dX1_get_1 (k := ?_)
  refine g_cSi (n := 1) (av := [.int x]) C (by rw [hlM]; exact m_isRow l x) gX1_get_X1_isRow rfl ⟨rfl, rfl⟩ (by rw [hRM]; exact ⟨Nat.le_of_ble_eq_true rfl, Nat.le_of_ble_eq_true rfl⟩) (by rw [hRM]; exact ⟨Nat.le_of_ble_eq_true rfl, Nat.le_of_ble_eq_true rfl⟩) (Nat.le_of_ble_eq_true rfl) (by decide +kernel) rfl dX1_get_2 ?_
  rintro _ ct ⟨hir, rfl⟩
  have hbad : ¬ (ir x 6 ∧ ir y 512) → gW M D vwCl (ixA N ad sz) 3 0 0 (MQ (gb M) (va_Ql (fun r ct1 => (¬ (ir x 6 ∧ ir y 512) ∧ ct1 = va_up ct 20 (obM (nI 1) p g ad)) ∨ (∃ i k, i < 6 ∧ k < 512 ∧ x = nI i ∧ y = nI k ∧ r = lN (c (512 * i + k)) ∧ ct1 = va_up ct 20 (obM (nI 0) p g ad))) (gB D vwCl tys N ad (ixA N ad sz)) (ixA N ad sz)) (ga M) (gs M) 0 0 (ixA N ad sz)) N ad 23 (lva 0 [.ref (ad 20), .int x, .int y]) [.ref (ad 20)] ct := by
    intro hno
    refine g_iconst C (nI 1) dX1_get_23 (k := ?_)
    refine g_putf (Cn := RX1) (T := TX1) (n := 8) (ref := "WheelProductsModel") (ty := .int) C 20 0 h20 e20 rfl (by decide +kernel) tyX1 tyX1_ok nmX1 (by decide) (by decide +kernel) (fun _ h => h) rfl (by decide +kernel) rfl rfl (Nat.le_of_ble_eq_true rfl) dX1_get_24 ?_
    refine g_ct (ct' := va_up (ct) 20 (obM (nI 1) p g ad)) rfl ?_
    refine g_aload_n C dX1_get_27 (k := ?_)
    refine g_getf (Cn := RX1) (T := TX1) (n := 8) (ref := "WheelProductsModel") C 20 0 h20 (va_up_self _ _ _) rfl (by decide +kernel) (by decide) (by decide +kernel) (fun _ h => h) rfl dX1_get_28 ?_
    refine g_ifN_le (tgt := 38) C (by decide) dX1_get_31 (by decide) (fun h => absurd h (by decide)) (fun _ => ?_)
    refine g_lconst C (lN 0) dX1_get_34 (k := ?_)
    refine g_goto (tgt := 50) C dX1_get_35 (k := ?_)
    exact g_lret C hr (Or.inl ⟨hno, rfl⟩) dX1_get_50
  rcases hir with ⟨rfl, hi⟩ | ⟨rfl, hno⟩
  · refine g_ifN_eq (tgt := 23) C (by decide) dX1_get_5 (by decide) (fun h => absurd h (by decide)) (fun _ => ?_)
    refine g_iload_n C dX1_get_8 (k := ?_)
    rcases pk_ix y (n := 512) (by decide) with h | h | ⟨k, hk, rfl⟩
    · refine g_if_lt (tgt := 23) C dX1_get_9 (by decide) (fun _ => ?_) (fun h2 => absurd h h2)
      exact hbad (fun q => ir_no (by decide) (Or.inl h) q.2)
    · refine g_if_lt (tgt := 23) C dX1_get_9 (by decide) (fun h2 => ?_) (fun _ => ?_)
      · exact hbad (fun q => ir_no (by decide) (Or.inl h2) q.2)
      · refine g_iload_n C dX1_get_12 (k := ?_)
        refine g_sipush C (nI 512) dX1_get_13 (k := ?_)
        refine g_ic_ge (tgt := 23) C dX1_get_16 (by decide) (fun _ => ?_) (fun h2 => absurd h h2)
        exact hbad (fun q => ir_no (by decide) (Or.inr h) q.2)
    · refine g_ifN_lt (tgt := 23) C (by omega) dX1_get_9 (by decide) (fun h2 => absurd h2 (by omega)) (fun _ => ?_)
      refine g_iload_n C dX1_get_12 (k := ?_)
      refine g_sipush C (nI 512) dX1_get_13 (k := ?_)
      refine g_icN_ge (tgt := 23) C (by omega) (by decide) dX1_get_16 (by decide) (fun h2 => absurd h2 (by omega)) (fun _ => ?_)
      obtain ⟨i, hi, rfl⟩ := hi
      refine g_iconst C (nI 0) dX1_get_19 (k := ?_)
      refine g_goto (tgt := 24) C dX1_get_20 (k := ?_)
      refine g_putf (Cn := RX1) (T := TX1) (n := 8) (ref := "WheelProductsModel") (ty := .int) C 20 0 h20 e20 rfl (by decide +kernel) tyX1 tyX1_ok nmX1 (by decide) (by decide +kernel) (fun _ h => h) rfl (by decide +kernel) rfl rfl (Nat.le_of_ble_eq_true rfl) dX1_get_24 ?_
      refine g_ct (ct' := va_up (ct) 20 (obM (nI 0) p g ad)) rfl ?_
      refine g_aload_n C dX1_get_27 (k := ?_)
      refine g_getf (Cn := RX1) (T := TX1) (n := 8) (ref := "WheelProductsModel") C 20 0 h20 (va_up_self _ _ _) rfl (by decide +kernel) (by decide) (by decide +kernel) (fun _ h => h) rfl dX1_get_28 ?_
      refine g_ifN_le (tgt := 38) C (by decide) dX1_get_31 (by decide) (fun _ => ?_) (fun h => absurd h (by decide))
      refine g_aload_n C dX1_get_38 (k := ?_)
      refine g_getf (Cn := RX1) (T := TX1) (n := 8) (ref := "WheelProductsModel") C 20 3 h20 (va_up_self _ _ _) rfl (by decide +kernel) (by decide) (by decide +kernel) (fun _ h => h) rfl dX1_get_39 ?_
      refine g_sipush C (nI 512) dX1_get_42 (k := ?_)
      refine g_iload_n C dX1_get_45 (k := ?_)
      refine gN_imul C dX1_get_46 ?_
      refine g_iload_n C dX1_get_47 (k := ?_)
      refine gN_iadd C dX1_get_48 ?_
      refine gN_lald C 21 h21 (by (repeat rw [va_up_ne _ _ (by omega)]); exact ec) ht (by omega) (by decide) dX1_get_49 ?_
      exact g_lret C hr (Or.inr ⟨i, k, hi, hk, rfl, rfl, rfl, rfl⟩) dX1_get_50
  · refine g_ifN_eq (tgt := 23) C (by decide) dX1_get_5 (by decide) (fun _ => ?_) (fun h => absurd rfl h)
    exact hbad (fun q => hno q.1)
set_option maxRecDepth 100000 in
set_option maxHeartbeats 4000000 in
theorem m_wordAt (l : Launch) {D : va_G} {tys : List (ClassId × FieldType)} {N : Nat} {ad : Nat → Nat} {ct : Nat → va_E} (hN : 26 ≤ N) {cJ : ClassId} {th : Int32} {p g : Nat} {c wd : Nat → Nat} (e20 : ct 20 = obM th p g ad) (ec : ct 21 = LN cJ 3072 c) (ew : ct 22 = LN cJ 1440 wd) (ht : tys[0]? = some (cJ, .long)) (hp1 : 512 < p) (hp2 : p < 2 ^ 31) (hc : ∀ k, k < 3072 → c k < p) (hw : ∀ k, k < 1440 → wd k < 2 ^ 32) (x y : Int32) :
    gMl l yX1_wordAt wsX1_wordAt rm1 D vwCl tys N ad [.ref (ad 20), .int x, .int y] ct (fun r ct1 => (¬ (ir x 6 ∧ ir y 240) ∧ ct1 = va_up ct 20 (obM (nI 1) p g ad)) ∨ (∃ i k, i < 6 ∧ k < 240 ∧ x = nI i ∧ y = nI k ∧ r = lN (wd (240 * i + k)) ∧ ct1 = va_up ct 20 (obM (nI 0) p g ad))) := by
  refine gof_l (cc := cX1_wordAt) (maxL := 3) (by decide) rfl (Nat.le_of_ble_eq_true rfl) ?_
  intro M sz C hlM hRM hr hsz
  have h20 : 20 < N := by omega
  have h21 : 21 < N := by omega
  have h22 : 22 < N := by omega
  refine g_aload_n C dX1_wordAt_0 (k := ?_)
  refine g_iload_n C dX1_wordAt_1 (k := ?_)
  refine g_cSi (n := 1) (av := [.int x]) C (by rw [hlM]; exact m_isRow l x) gX1_wordAt_X1_isRow rfl ⟨rfl, rfl⟩ (by rw [hRM]; exact ⟨Nat.le_of_ble_eq_true rfl, Nat.le_of_ble_eq_true rfl⟩) (by rw [hRM]; exact ⟨Nat.le_of_ble_eq_true rfl, Nat.le_of_ble_eq_true rfl⟩) (Nat.le_of_ble_eq_true rfl) (by decide +kernel) rfl dX1_wordAt_2 ?_
  rintro _ ct ⟨hir, rfl⟩
  have hbad : ¬ (ir x 6 ∧ ir y 240) → gW M D vwCl (ixA N ad sz) 3 0 0 (MQ (gb M) (va_Ql (fun r ct1 => (¬ (ir x 6 ∧ ir y 240) ∧ ct1 = va_up ct 20 (obM (nI 1) p g ad)) ∨ (∃ i k, i < 6 ∧ k < 240 ∧ x = nI i ∧ y = nI k ∧ r = lN (wd (240 * i + k)) ∧ ct1 = va_up ct 20 (obM (nI 0) p g ad))) (gB D vwCl tys N ad (ixA N ad sz)) (ixA N ad sz)) (ga M) (gs M) 0 0 (ixA N ad sz)) N ad 23 (lva 0 [.ref (ad 20), .int x, .int y]) [.ref (ad 20)] ct := by
    intro hno
    refine g_iconst C (nI 1) dX1_wordAt_23 (k := ?_)
    refine g_putf (Cn := RX1) (T := TX1) (n := 8) (ref := "WheelProductsModel") (ty := .int) C 20 0 h20 e20 rfl (by decide +kernel) tyX1 tyX1_ok nmX1 (by decide) (by decide +kernel) (fun _ h => h) rfl (by decide +kernel) rfl rfl (Nat.le_of_ble_eq_true rfl) dX1_wordAt_24 ?_
    refine g_ct (ct' := va_up (ct) 20 (obM (nI 1) p g ad)) rfl ?_
    refine g_aload_n C dX1_wordAt_27 (k := ?_)
    refine g_getf (Cn := RX1) (T := TX1) (n := 8) (ref := "WheelProductsModel") C 20 0 h20 (va_up_self _ _ _) rfl (by decide +kernel) (by decide) (by decide +kernel) (fun _ h => h) rfl dX1_wordAt_28 ?_
    refine g_ifN_le (tgt := 38) C (by decide) dX1_wordAt_31 (by decide) (fun h => absurd h (by decide)) (fun _ => ?_)
    refine g_lconst C (lN 0) dX1_wordAt_34 (k := ?_)
    refine g_goto (tgt := 50) C dX1_wordAt_35 (k := ?_)
    exact g_lret C hr (Or.inl ⟨hno, rfl⟩) dX1_wordAt_50
  rcases hir with ⟨rfl, hi⟩ | ⟨rfl, hno⟩
  · refine g_ifN_eq (tgt := 23) C (by decide) dX1_wordAt_5 (by decide) (fun h => absurd h (by decide)) (fun _ => ?_)
    refine g_iload_n C dX1_wordAt_8 (k := ?_)
    rcases pk_ix y (n := 240) (by decide) with h | h | ⟨k, hk, rfl⟩
    · refine g_if_lt (tgt := 23) C dX1_wordAt_9 (by decide) (fun _ => ?_) (fun h2 => absurd h h2)
      exact hbad (fun q => ir_no (by decide) (Or.inl h) q.2)
    · refine g_if_lt (tgt := 23) C dX1_wordAt_9 (by decide) (fun h2 => ?_) (fun _ => ?_)
      · exact hbad (fun q => ir_no (by decide) (Or.inl h2) q.2)
      · refine g_iload_n C dX1_wordAt_12 (k := ?_)
        refine g_sipush C (nI 240) dX1_wordAt_13 (k := ?_)
        refine g_ic_ge (tgt := 23) C dX1_wordAt_16 (by decide) (fun _ => ?_) (fun h2 => absurd h h2)
        exact hbad (fun q => ir_no (by decide) (Or.inr h) q.2)
    · refine g_ifN_lt (tgt := 23) C (by omega) dX1_wordAt_9 (by decide) (fun h2 => absurd h2 (by omega)) (fun _ => ?_)
      refine g_iload_n C dX1_wordAt_12 (k := ?_)
      refine g_sipush C (nI 240) dX1_wordAt_13 (k := ?_)
      refine g_icN_ge (tgt := 23) C (by omega) (by decide) dX1_wordAt_16 (by decide) (fun h2 => absurd h2 (by omega)) (fun _ => ?_)
      obtain ⟨i, hi, rfl⟩ := hi
      refine g_iconst C (nI 0) dX1_wordAt_19 (k := ?_)
      refine g_goto (tgt := 24) C dX1_wordAt_20 (k := ?_)
      refine g_putf (Cn := RX1) (T := TX1) (n := 8) (ref := "WheelProductsModel") (ty := .int) C 20 0 h20 e20 rfl (by decide +kernel) tyX1 tyX1_ok nmX1 (by decide) (by decide +kernel) (fun _ h => h) rfl (by decide +kernel) rfl rfl (Nat.le_of_ble_eq_true rfl) dX1_wordAt_24 ?_
      refine g_ct (ct' := va_up (ct) 20 (obM (nI 0) p g ad)) rfl ?_
      refine g_aload_n C dX1_wordAt_27 (k := ?_)
      refine g_getf (Cn := RX1) (T := TX1) (n := 8) (ref := "WheelProductsModel") C 20 0 h20 (va_up_self _ _ _) rfl (by decide +kernel) (by decide) (by decide +kernel) (fun _ h => h) rfl dX1_wordAt_28 ?_
      refine g_ifN_le (tgt := 38) C (by decide) dX1_wordAt_31 (by decide) (fun _ => ?_) (fun h => absurd h (by decide))
      refine g_aload_n C dX1_wordAt_38 (k := ?_)
      refine g_getf (Cn := RX1) (T := TX1) (n := 8) (ref := "WheelProductsModel") C 20 4 h20 (va_up_self _ _ _) rfl (by decide +kernel) (by decide) (by decide +kernel) (fun _ h => h) rfl dX1_wordAt_39 ?_
      refine g_sipush C (nI 240) dX1_wordAt_42 (k := ?_)
      refine g_iload_n C dX1_wordAt_45 (k := ?_)
      refine gN_imul C dX1_wordAt_46 ?_
      refine g_iload_n C dX1_wordAt_47 (k := ?_)
      refine gN_iadd C dX1_wordAt_48 ?_
      refine gN_lald C 22 h22 (by (repeat rw [va_up_ne _ _ (by omega)]); exact ew) ht (by omega) (by decide) dX1_wordAt_49 ?_
      exact g_lret C hr (Or.inr ⟨i, k, hi, hk, rfl, rfl, rfl, rfl⟩) dX1_wordAt_50
  · refine g_ifN_eq (tgt := 23) C (by decide) dX1_wordAt_5 (by decide) (fun _ => ?_) (fun h => absurd rfl h)
    exact hbad (fun q => hno q.1)
set_option maxRecDepth 100000 in
set_option maxHeartbeats 4000000 in
theorem m_put (l : Launch) {D : va_G} {tys : List (ClassId × FieldType)} {N : Nat} {ad : Nat → Nat} {ct : Nat → va_E} (hN : 26 ≤ N) {cJ : ClassId} {th : Int32} {p g : Nat} {c wd : Nat → Nat} (e20 : ct 20 = obM th p g ad) (ec : ct 21 = LN cJ 3072 c) (ew : ct 22 = LN cJ 1440 wd) (ht : tys[0]? = some (cJ, .long)) (hp1 : 512 < p) (hp2 : p < 2 ^ 31) (hc : ∀ k, k < 3072 → c k < p) (hw : ∀ k, k < 1440 → wd k < 2 ^ 32) (x y : Int32) (z : Int64) :
    gMi l yX1_put wsX1_put rm1 D vwCl tys N ad [.ref (ad 20), .int x, .int y, .long z] ct (fun r ct1 => (¬ (ir x 6 ∧ ir y 512) ∧ ct1 = va_up ct 20 (obM (nI 1) p g ad)) ∨ (∃ i k, i < 6 ∧ k < 512 ∧ x = nI i ∧ y = nI k ∧ r = nI (if c (512 * i + k) = fm p z then 0 else 1) ∧ ct1 = va_up (va_up ct 20 (obM (nI 0) p g ad)) 21 (LN cJ 3072 (nu c (512 * i + k) (fm p z))))) := by
  refine gof_z (cc := cX1_put) (maxL := 7) (by decide) rfl (Nat.le_of_ble_eq_true rfl) ?_
  intro M sz C hlM hRM hr hsz
  have h20 : 20 < N := by omega
  have h21 : 21 < N := by omega
  have h22 : 22 < N := by omega
  refine g_aload_n C dX1_put_0 (k := ?_)
  refine g_iload_n C dX1_put_1 (k := ?_)
  refine g_cSi (n := 1) (av := [.int x]) C (by rw [hlM]; exact m_isRow l x) gX1_put_X1_isRow rfl ⟨rfl, rfl⟩ (by rw [hRM]; exact ⟨Nat.le_of_ble_eq_true rfl, Nat.le_of_ble_eq_true rfl⟩) (by rw [hRM]; exact ⟨Nat.le_of_ble_eq_true rfl, Nat.le_of_ble_eq_true rfl⟩) (Nat.le_of_ble_eq_true rfl) (by decide +kernel) rfl dX1_put_2 ?_
  rintro _ ct ⟨hir, rfl⟩
  have hbad : ¬ (ir x 6 ∧ ir y 512) → gW M D vwCl (ixA N ad sz) 7 0 0 (MQ (gb M) (va_Qi (fun r ct1 => (¬ (ir x 6 ∧ ir y 512) ∧ ct1 = va_up ct 20 (obM (nI 1) p g ad)) ∨ (∃ i k, i < 6 ∧ k < 512 ∧ x = nI i ∧ y = nI k ∧ r = nI (if c (512 * i + k) = fm p z then 0 else 1) ∧ ct1 = va_up (va_up ct 20 (obM (nI 0) p g ad)) 21 (LN cJ 3072 (nu c (512 * i + k) (fm p z))))) (gB D vwCl tys N ad (ixA N ad sz)) (ixA N ad sz)) (ga M) (gs M) 0 0 (ixA N ad sz)) N ad 23 (lva 0 [.ref (ad 20), .int x, .int y, .long z]) [.ref (ad 20)] ct := by
    intro hno
    refine g_iconst C (nI 1) dX1_put_23 (k := ?_)
    refine g_putf (Cn := RX1) (T := TX1) (n := 8) (ref := "WheelProductsModel") (ty := .int) C 20 0 h20 e20 rfl (by decide +kernel) tyX1 tyX1_ok nmX1 (by decide) (by decide +kernel) (fun _ h => h) rfl (by decide +kernel) rfl rfl (Nat.le_of_ble_eq_true rfl) dX1_put_24 ?_
    refine g_ct (ct' := va_up (ct) 20 (obM (nI 1) p g ad)) rfl ?_
    refine g_aload_n C dX1_put_27 (k := ?_)
    refine g_getf (Cn := RX1) (T := TX1) (n := 8) (ref := "WheelProductsModel") C 20 0 h20 (va_up_self _ _ _) rfl (by decide +kernel) (by decide) (by decide +kernel) (fun _ h => h) rfl dX1_put_28 ?_
    refine g_ifN_le (tgt := 36) C (by decide) dX1_put_31 (by decide) (fun h => absurd h (by decide)) (fun _ => ?_)
    refine g_iconst C (nI 0) dX1_put_34 (k := ?_)
    exact g_zret C hr (by decide) (Or.inl ⟨hno, rfl⟩) dX1_put_35
  rcases hir with ⟨rfl, hi⟩ | ⟨rfl, hno⟩
  · refine g_ifN_eq (tgt := 23) C (by decide) dX1_put_5 (by decide) (fun h => absurd h (by decide)) (fun _ => ?_)
    refine g_iload_n C dX1_put_8 (k := ?_)
    rcases pk_ix y (n := 512) (by decide) with h | h | ⟨k, hk, rfl⟩
    · refine g_if_lt (tgt := 23) C dX1_put_9 (by decide) (fun _ => ?_) (fun h2 => absurd h h2)
      exact hbad (fun q => ir_no (by decide) (Or.inl h) q.2)
    · refine g_if_lt (tgt := 23) C dX1_put_9 (by decide) (fun h2 => ?_) (fun _ => ?_)
      · exact hbad (fun q => ir_no (by decide) (Or.inl h2) q.2)
      · refine g_iload_n C dX1_put_12 (k := ?_)
        refine g_sipush C (nI 512) dX1_put_13 (k := ?_)
        refine g_ic_ge (tgt := 23) C dX1_put_16 (by decide) (fun _ => ?_) (fun h2 => absurd h h2)
        exact hbad (fun q => ir_no (by decide) (Or.inr h) q.2)
    · refine g_ifN_lt (tgt := 23) C (by omega) dX1_put_9 (by decide) (fun h2 => absurd h2 (by omega)) (fun _ => ?_)
      refine g_iload_n C dX1_put_12 (k := ?_)
      refine g_sipush C (nI 512) dX1_put_13 (k := ?_)
      refine g_icN_ge (tgt := 23) C (by omega) (by decide) dX1_put_16 (by decide) (fun h2 => absurd h2 (by omega)) (fun _ => ?_)
      obtain ⟨i, hi, rfl⟩ := hi
      refine g_iconst C (nI 0) dX1_put_19 (k := ?_)
      refine g_goto (tgt := 24) C dX1_put_20 (k := ?_)
      refine g_putf (Cn := RX1) (T := TX1) (n := 8) (ref := "WheelProductsModel") (ty := .int) C 20 0 h20 e20 rfl (by decide +kernel) tyX1 tyX1_ok nmX1 (by decide) (by decide +kernel) (fun _ h => h) rfl (by decide +kernel) rfl rfl (Nat.le_of_ble_eq_true rfl) dX1_put_24 ?_
      refine g_ct (ct' := va_up (ct) 20 (obM (nI 0) p g ad)) rfl ?_
      refine g_aload_n C dX1_put_27 (k := ?_)
      refine g_getf (Cn := RX1) (T := TX1) (n := 8) (ref := "WheelProductsModel") C 20 0 h20 (va_up_self _ _ _) rfl (by decide +kernel) (by decide) (by decide +kernel) (fun _ h => h) rfl dX1_put_28 ?_
      refine g_ifN_le (tgt := 36) C (by decide) dX1_put_31 (by decide) (fun _ => ?_) (fun h => absurd h (by decide))
      have hzl := fm_lt (p := p) (by omega) z
      have hcl := hc (512 * i + k) (by omega)
      refine g_sipush C (nI 512) dX1_put_36 (k := ?_)
      refine g_iload_n C dX1_put_39 (k := ?_)
      refine gN_imul C dX1_put_40 ?_
      refine g_iload_n C dX1_put_41 (k := ?_)
      refine gN_iadd C dX1_put_42 ?_
      refine g_istore C dX1_put_43 (k := ?_)
      refine g_aload_n C dX1_put_45 (k := ?_)
      refine g_getf (Cn := RX1) (T := TX1) (n := 8) (ref := "WheelProductsModel") C 20 3 h20 (va_up_self _ _ _) rfl (by decide +kernel) (by decide) (by decide +kernel) (fun _ h => h) rfl dX1_put_46 ?_
      refine g_iload C dX1_put_49 (k := ?_)
      refine gN_lald C 21 h21 (by (repeat rw [va_up_ne _ _ (by omega)]); exact ec) ht (by omega) (by decide) dX1_put_51 ?_
      refine g_aload_n C dX1_put_52 (k := ?_)
      refine g_lload_n C dX1_put_53 (k := ?_)
      refine g_cVl (n := 1) (av := [.long z]) C 20 h20 (va_up_self _ _ _) rfl (by rw [hlM]; exact m_rest l hN (va_up_self _ _ _) z (by omega) hp2) gX1_put_X1_rest rfl ⟨rfl, rfl⟩ (by rw [hRM]; exact ⟨Nat.le_of_ble_eq_true rfl, Nat.le_of_ble_eq_true rfl⟩) (by rw [hRM]; exact ⟨Nat.le_of_ble_eq_true rfl, Nat.le_of_ble_eq_true rfl⟩) (Nat.le_of_ble_eq_true rfl) (by decide +kernel) rfl dX1_put_54 ?_
      rintro _ _ ⟨rfl, rfl⟩
      by_cases hz : c (512 * i + k) = fm p z
      · refine g_lcN_eq (tgt := 65) C (by omega) (by omega) dX1_put_57 dX1_put_58 (by decide) (fun _ => ?_) (fun h => absurd hz h)
        refine g_iconst C (nI 0) dX1_put_65 (k := ?_)
        refine g_istore C dX1_put_66 (k := ?_)
        refine g_aload_n C dX1_put_68 (k := ?_)
        refine g_getf (Cn := RX1) (T := TX1) (n := 8) (ref := "WheelProductsModel") C 20 3 h20 (va_up_self _ _ _) rfl (by decide +kernel) (by decide) (by decide +kernel) (fun _ h => h) rfl dX1_put_69 ?_
        refine g_iload C dX1_put_72 (k := ?_)
        refine g_aload_n C dX1_put_74 (k := ?_)
        refine g_lload_n C dX1_put_75 (k := ?_)
        refine g_cVl (n := 1) (av := [.long z]) C 20 h20 (va_up_self _ _ _) rfl (by rw [hlM]; exact m_rest l hN (va_up_self _ _ _) z (by omega) hp2) gX1_put_X1_rest rfl ⟨rfl, rfl⟩ (by rw [hRM]; exact ⟨Nat.le_of_ble_eq_true rfl, Nat.le_of_ble_eq_true rfl⟩) (by rw [hRM]; exact ⟨Nat.le_of_ble_eq_true rfl, Nat.le_of_ble_eq_true rfl⟩) (Nat.le_of_ble_eq_true rfl) (by decide +kernel) rfl dX1_put_76 ?_
        rintro _ _ ⟨rfl, rfl⟩
        refine gN_last C 21 h21 (by (repeat rw [va_up_ne _ _ (by omega)]); exact ec) ht (by omega) (by decide) dX1_put_79 ?_
        refine g_iload C dX1_put_80 (k := ?_)
        exact g_zret C hr (by decide) (Or.inr ⟨i, k, hi, hk, rfl, rfl, by rw [if_pos hz], rfl⟩) dX1_put_82
      · refine g_lcN_eq (tgt := 65) C (by omega) (by omega) dX1_put_57 dX1_put_58 (by decide) (fun h => absurd h hz) (fun _ => ?_)
        refine g_iconst C (nI 1) dX1_put_61 (k := ?_)
        refine g_goto (tgt := 66) C dX1_put_62 (k := ?_)
        refine g_istore C dX1_put_66 (k := ?_)
        refine g_aload_n C dX1_put_68 (k := ?_)
        refine g_getf (Cn := RX1) (T := TX1) (n := 8) (ref := "WheelProductsModel") C 20 3 h20 (va_up_self _ _ _) rfl (by decide +kernel) (by decide) (by decide +kernel) (fun _ h => h) rfl dX1_put_69 ?_
        refine g_iload C dX1_put_72 (k := ?_)
        refine g_aload_n C dX1_put_74 (k := ?_)
        refine g_lload_n C dX1_put_75 (k := ?_)
        refine g_cVl (n := 1) (av := [.long z]) C 20 h20 (va_up_self _ _ _) rfl (by rw [hlM]; exact m_rest l hN (va_up_self _ _ _) z (by omega) hp2) gX1_put_X1_rest rfl ⟨rfl, rfl⟩ (by rw [hRM]; exact ⟨Nat.le_of_ble_eq_true rfl, Nat.le_of_ble_eq_true rfl⟩) (by rw [hRM]; exact ⟨Nat.le_of_ble_eq_true rfl, Nat.le_of_ble_eq_true rfl⟩) (Nat.le_of_ble_eq_true rfl) (by decide +kernel) rfl dX1_put_76 ?_
        rintro _ _ ⟨rfl, rfl⟩
        refine gN_last C 21 h21 (by (repeat rw [va_up_ne _ _ (by omega)]); exact ec) ht (by omega) (by decide) dX1_put_79 ?_
        refine g_iload C dX1_put_80 (k := ?_)
        exact g_zret C hr (by decide) (Or.inr ⟨i, k, hi, hk, rfl, rfl, by rw [if_neg hz], rfl⟩) dX1_put_82
  · refine g_ifN_eq (tgt := 23) C (by decide) dX1_put_5 (by decide) (fun _ => ?_) (fun h => absurd rfl h)
    exact hbad (fun q => hno q.1)
set_option maxRecDepth 100000 in
set_option maxHeartbeats 4000000 in
theorem m_word (l : Launch) {D : va_G} {tys : List (ClassId × FieldType)} {N : Nat} {ad : Nat → Nat} {ct : Nat → va_E} (hN : 26 ≤ N) {cJ : ClassId} {th : Int32} {p g : Nat} {c wd : Nat → Nat} (e20 : ct 20 = obM th p g ad) (ec : ct 21 = LN cJ 3072 c) (ew : ct 22 = LN cJ 1440 wd) (ht : tys[0]? = some (cJ, .long)) (hp1 : 512 < p) (hp2 : p < 2 ^ 31) (hc : ∀ k, k < 3072 → c k < p) (hw : ∀ k, k < 1440 → wd k < 2 ^ 32) (x y : Int32) (z : Int64) :
    gMi l yX1_word wsX1_word rm1 D vwCl tys N ad [.ref (ad 20), .int x, .int y, .long z] ct (fun r ct1 => (¬ (ir x 6 ∧ ir y 240) ∧ ct1 = va_up ct 20 (obM (nI 1) p g ad)) ∨ (∃ i k, i < 6 ∧ k < 240 ∧ x = nI i ∧ y = nI k ∧ r = nI (if wd (240 * i + k) = mk32 z then 0 else 1) ∧ ct1 = va_up (va_up ct 20 (obM (nI 0) p g ad)) 22 (LN cJ 1440 (nu wd (240 * i + k) (mk32 z))))) := by
  refine gof_z (cc := cX1_word) (maxL := 7) (by decide) rfl (Nat.le_of_ble_eq_true rfl) ?_
  intro M sz C hlM hRM hr hsz
  have h20 : 20 < N := by omega
  have h21 : 21 < N := by omega
  have h22 : 22 < N := by omega
  refine g_aload_n C dX1_word_0 (k := ?_)
  refine g_iload_n C dX1_word_1 (k := ?_)
  refine g_cSi (n := 1) (av := [.int x]) C (by rw [hlM]; exact m_isRow l x) gX1_word_X1_isRow rfl ⟨rfl, rfl⟩ (by rw [hRM]; exact ⟨Nat.le_of_ble_eq_true rfl, Nat.le_of_ble_eq_true rfl⟩) (by rw [hRM]; exact ⟨Nat.le_of_ble_eq_true rfl, Nat.le_of_ble_eq_true rfl⟩) (Nat.le_of_ble_eq_true rfl) (by decide +kernel) rfl dX1_word_2 ?_
  rintro _ ct ⟨hir, rfl⟩
  have hbad : ¬ (ir x 6 ∧ ir y 240) → gW M D vwCl (ixA N ad sz) 7 0 0 (MQ (gb M) (va_Qi (fun r ct1 => (¬ (ir x 6 ∧ ir y 240) ∧ ct1 = va_up ct 20 (obM (nI 1) p g ad)) ∨ (∃ i k, i < 6 ∧ k < 240 ∧ x = nI i ∧ y = nI k ∧ r = nI (if wd (240 * i + k) = mk32 z then 0 else 1) ∧ ct1 = va_up (va_up ct 20 (obM (nI 0) p g ad)) 22 (LN cJ 1440 (nu wd (240 * i + k) (mk32 z))))) (gB D vwCl tys N ad (ixA N ad sz)) (ixA N ad sz)) (ga M) (gs M) 0 0 (ixA N ad sz)) N ad 23 (lva 0 [.ref (ad 20), .int x, .int y, .long z]) [.ref (ad 20)] ct := by
    intro hno
    refine g_iconst C (nI 1) dX1_word_23 (k := ?_)
    refine g_putf (Cn := RX1) (T := TX1) (n := 8) (ref := "WheelProductsModel") (ty := .int) C 20 0 h20 e20 rfl (by decide +kernel) tyX1 tyX1_ok nmX1 (by decide) (by decide +kernel) (fun _ h => h) rfl (by decide +kernel) rfl rfl (Nat.le_of_ble_eq_true rfl) dX1_word_24 ?_
    refine g_ct (ct' := va_up (ct) 20 (obM (nI 1) p g ad)) rfl ?_
    refine g_aload_n C dX1_word_27 (k := ?_)
    refine g_getf (Cn := RX1) (T := TX1) (n := 8) (ref := "WheelProductsModel") C 20 0 h20 (va_up_self _ _ _) rfl (by decide +kernel) (by decide) (by decide +kernel) (fun _ h => h) rfl dX1_word_28 ?_
    refine g_ifN_le (tgt := 36) C (by decide) dX1_word_31 (by decide) (fun h => absurd h (by decide)) (fun _ => ?_)
    refine g_iconst C (nI 0) dX1_word_34 (k := ?_)
    exact g_zret C hr (by decide) (Or.inl ⟨hno, rfl⟩) dX1_word_35
  rcases hir with ⟨rfl, hi⟩ | ⟨rfl, hno⟩
  · refine g_ifN_eq (tgt := 23) C (by decide) dX1_word_5 (by decide) (fun h => absurd h (by decide)) (fun _ => ?_)
    refine g_iload_n C dX1_word_8 (k := ?_)
    rcases pk_ix y (n := 240) (by decide) with h | h | ⟨k, hk, rfl⟩
    · refine g_if_lt (tgt := 23) C dX1_word_9 (by decide) (fun _ => ?_) (fun h2 => absurd h h2)
      exact hbad (fun q => ir_no (by decide) (Or.inl h) q.2)
    · refine g_if_lt (tgt := 23) C dX1_word_9 (by decide) (fun h2 => ?_) (fun _ => ?_)
      · exact hbad (fun q => ir_no (by decide) (Or.inl h2) q.2)
      · refine g_iload_n C dX1_word_12 (k := ?_)
        refine g_sipush C (nI 240) dX1_word_13 (k := ?_)
        refine g_ic_ge (tgt := 23) C dX1_word_16 (by decide) (fun _ => ?_) (fun h2 => absurd h h2)
        exact hbad (fun q => ir_no (by decide) (Or.inr h) q.2)
    · refine g_ifN_lt (tgt := 23) C (by omega) dX1_word_9 (by decide) (fun h2 => absurd h2 (by omega)) (fun _ => ?_)
      refine g_iload_n C dX1_word_12 (k := ?_)
      refine g_sipush C (nI 240) dX1_word_13 (k := ?_)
      refine g_icN_ge (tgt := 23) C (by omega) (by decide) dX1_word_16 (by decide) (fun h2 => absurd h2 (by omega)) (fun _ => ?_)
      obtain ⟨i, hi, rfl⟩ := hi
      refine g_iconst C (nI 0) dX1_word_19 (k := ?_)
      refine g_goto (tgt := 24) C dX1_word_20 (k := ?_)
      refine g_putf (Cn := RX1) (T := TX1) (n := 8) (ref := "WheelProductsModel") (ty := .int) C 20 0 h20 e20 rfl (by decide +kernel) tyX1 tyX1_ok nmX1 (by decide) (by decide +kernel) (fun _ h => h) rfl (by decide +kernel) rfl rfl (Nat.le_of_ble_eq_true rfl) dX1_word_24 ?_
      refine g_ct (ct' := va_up (ct) 20 (obM (nI 0) p g ad)) rfl ?_
      refine g_aload_n C dX1_word_27 (k := ?_)
      refine g_getf (Cn := RX1) (T := TX1) (n := 8) (ref := "WheelProductsModel") C 20 0 h20 (va_up_self _ _ _) rfl (by decide +kernel) (by decide) (by decide +kernel) (fun _ h => h) rfl dX1_word_28 ?_
      refine g_ifN_le (tgt := 36) C (by decide) dX1_word_31 (by decide) (fun _ => ?_) (fun h => absurd h (by decide))
      obtain ⟨zn, hz1, hz2, hz3⟩ := k_maskX z
      rw [show zn = mk32 z from hz3] at hz1 hz2
      have hcl := hw (240 * i + k) (by omega)
      refine g_sipush C (nI 240) dX1_word_36 (k := ?_)
      refine g_iload_n C dX1_word_39 (k := ?_)
      refine gN_imul C dX1_word_40 ?_
      refine g_iload_n C dX1_word_41 (k := ?_)
      refine gN_iadd C dX1_word_42 ?_
      refine g_istore C dX1_word_43 (k := ?_)
      refine g_aload_n C dX1_word_45 (k := ?_)
      refine g_getf (Cn := RX1) (T := TX1) (n := 8) (ref := "WheelProductsModel") C 20 4 h20 (va_up_self _ _ _) rfl (by decide +kernel) (by decide) (by decide +kernel) (fun _ h => h) rfl dX1_word_46 ?_
      refine g_iload C dX1_word_49 (k := ?_)
      refine gN_lald C 22 h22 (by (repeat rw [va_up_ne _ _ (by omega)]); exact ew) ht (by omega) (by decide) dX1_word_51 ?_
      refine g_lload_n C dX1_word_52 (k := ?_)
      refine g_ldc2 (v := 4294967295) C (by decide +kernel) dX1_word_53 ?_
      refine g_tl (lN 4294967295) rfl ?_
      refine g_land C dX1_word_56 ?_
      refine g_tl _ hz2 ?_
      by_cases hz : wd (240 * i + k) = mk32 z
      · refine g_lcN_eq (tgt := 65) C (by omega) (by omega) dX1_word_57 dX1_word_58 (by decide) (fun _ => ?_) (fun h => absurd hz h)
        refine g_iconst C (nI 0) dX1_word_65 (k := ?_)
        refine g_istore C dX1_word_66 (k := ?_)
        refine g_aload_n C dX1_word_68 (k := ?_)
        refine g_getf (Cn := RX1) (T := TX1) (n := 8) (ref := "WheelProductsModel") C 20 4 h20 (va_up_self _ _ _) rfl (by decide +kernel) (by decide) (by decide +kernel) (fun _ h => h) rfl dX1_word_69 ?_
        refine g_iload C dX1_word_72 (k := ?_)
        refine g_lload_n C dX1_word_74 (k := ?_)
        refine g_ldc2 (v := 4294967295) C (by decide +kernel) dX1_word_75 ?_
        refine g_tl (lN 4294967295) rfl ?_
        refine g_land C dX1_word_78 ?_
        refine g_tl _ hz2 ?_
        refine gN_last C 22 h22 (by (repeat rw [va_up_ne _ _ (by omega)]); exact ew) ht (by omega) (by decide) dX1_word_79 ?_
        refine g_iload C dX1_word_80 (k := ?_)
        exact g_zret C hr (by decide) (Or.inr ⟨i, k, hi, hk, rfl, rfl, by rw [if_pos hz], rfl⟩) dX1_word_82
      · refine g_lcN_eq (tgt := 65) C (by omega) (by omega) dX1_word_57 dX1_word_58 (by decide) (fun h => absurd h hz) (fun _ => ?_)
        refine g_iconst C (nI 1) dX1_word_61 (k := ?_)
        refine g_goto (tgt := 66) C dX1_word_62 (k := ?_)
        refine g_istore C dX1_word_66 (k := ?_)
        refine g_aload_n C dX1_word_68 (k := ?_)
        refine g_getf (Cn := RX1) (T := TX1) (n := 8) (ref := "WheelProductsModel") C 20 4 h20 (va_up_self _ _ _) rfl (by decide +kernel) (by decide) (by decide +kernel) (fun _ h => h) rfl dX1_word_69 ?_
        refine g_iload C dX1_word_72 (k := ?_)
        refine g_lload_n C dX1_word_74 (k := ?_)
        refine g_ldc2 (v := 4294967295) C (by decide +kernel) dX1_word_75 ?_
        refine g_tl (lN 4294967295) rfl ?_
        refine g_land C dX1_word_78 ?_
        refine g_tl _ hz2 ?_
        refine gN_last C 22 h22 (by (repeat rw [va_up_ne _ _ (by omega)]); exact ew) ht (by omega) (by decide) dX1_word_79 ?_
        refine g_iload C dX1_word_80 (k := ?_)
        exact g_zret C hr (by decide) (Or.inr ⟨i, k, hi, hk, rfl, rfl, by rw [if_neg hz], rfl⟩) dX1_word_82
  · refine g_ifN_eq (tgt := 23) C (by decide) dX1_word_5 (by decide) (fun _ => ?_) (fun h => absurd rfl h)
    exact hbad (fun q => hno q.1)
abbrev rm2 : Room := { frames := 2, cells := 0, slots := 0, locals := 60 }
set_option maxRecDepth 100000 in
set_option maxHeartbeats 4000000 in
theorem m_length (l : Launch) {D : va_G} {tys : List (ClassId × FieldType)} {N : Nat} {ad : Nat → Nat} {ct : Nat → va_E} (hN : 26 ≤ N) {cJ : ClassId} {th : Int32} {p g : Nat} {c wd : Nat → Nat} (e20 : ct 20 = obM th p g ad) (ec : ct 21 = LN cJ 3072 c) (ew : ct 22 = LN cJ 1440 wd) (ht : tys[0]? = some (cJ, .long)) (hp1 : 512 < p) (hp2 : p < 2 ^ 31) (hc : ∀ k, k < 3072 → c k < p) (hw : ∀ k, k < 1440 → wd k < 2 ^ 32) (x : Int32) :
    gMi l yX1_length wsX1_length rm2 D vwCl tys N ad [.ref (ad 20), .int x] ct (fun r ct1 => (¬ ir x 6 ∧ ct1 = va_up ct 20 (obM (nI 1) p g ad)) ∨ (∃ i, i < 6 ∧ x = nI i ∧ r = nI (up1 (fun k => c (512 * i + k)) 512) ∧ ct1 = va_up ct 20 (obM (nI 0) p g ad))) := by
  refine gof_i (cc := cX1_length) (maxL := 2) (by decide) rfl (Nat.le_of_ble_eq_true rfl) ?_
  intro M sz C hlM hRM hr hsz
  have h20 : 20 < N := by omega
  have h21 : 21 < N := by omega
  have h22 : 22 < N := by omega
  refine g_aload_n C dX1_length_0 (k := ?_)
  refine g_iload_n C dX1_length_1 (k := ?_)
  refine g_cSi (n := 1) (av := [.int x]) C (by rw [hlM]; exact m_isRow l x) gX1_length_X1_isRow rfl ⟨rfl, rfl⟩ (by rw [hRM]; exact ⟨Nat.le_of_ble_eq_true rfl, Nat.le_of_ble_eq_true rfl⟩) (by rw [hRM]; exact ⟨Nat.le_of_ble_eq_true rfl, Nat.le_of_ble_eq_true rfl⟩) (Nat.le_of_ble_eq_true rfl) (by decide +kernel) rfl dX1_length_2 ?_
  rintro _ ct ⟨hir, rfl⟩
  rcases hir with ⟨rfl, i, hi, rfl⟩ | ⟨rfl, hno⟩
  · refine g_ifN_eq (tgt := 12) C (by decide) dX1_length_5 (by decide) (fun h => absurd h (by decide)) (fun _ => ?_)
    refine g_iconst C (nI 0) dX1_length_8 (k := ?_)
    refine g_goto (tgt := 13) C dX1_length_9 (k := ?_)
    refine g_putf (Cn := RX1) (T := TX1) (n := 8) (ref := "WheelProductsModel") (ty := .int) C 20 0 h20 e20 rfl (by decide +kernel) tyX1 tyX1_ok nmX1 (by decide) (by decide +kernel) (fun _ h => h) rfl (by decide +kernel) rfl rfl (Nat.le_of_ble_eq_true rfl) dX1_length_13 ?_
    refine g_ct (ct' := va_up (ct) 20 (obM (nI 0) p g ad)) rfl ?_
    refine g_aload_n C dX1_length_16 (k := ?_)
    refine g_getf (Cn := RX1) (T := TX1) (n := 8) (ref := "WheelProductsModel") C 20 0 h20 (va_up_self _ _ _) rfl (by decide +kernel) (by decide) (by decide +kernel) (fun _ h => h) rfl dX1_length_17 ?_
    refine g_ifN_le (tgt := 27) C (by decide) dX1_length_20 (by decide) (fun _ => ?_) (fun h => absurd h (by decide))
    refine g_aload_n C dX1_length_27 (k := ?_)
    refine g_iload_n C dX1_length_28 (k := ?_)
    refine g_cVi (n := 1) (av := [.int (nI i)]) C 20 h20 (va_up_self _ _ _) rfl (by rw [hlM]; exact m_lengthOf l hN (va_up_self _ _ _) (by (repeat rw [va_up_ne _ _ (by omega)]); exact ec) ht hi (fun k hk => Nat.lt_trans (hc k hk) (by omega))) gX1_length_X1_lengthOf rfl ⟨rfl, rfl⟩ (by rw [hRM]; exact ⟨Nat.le_of_ble_eq_true rfl, Nat.le_of_ble_eq_true rfl⟩) (by rw [hRM]; exact ⟨Nat.le_of_ble_eq_true rfl, Nat.le_of_ble_eq_true rfl⟩) (Nat.le_of_ble_eq_true rfl) (by decide +kernel) rfl dX1_length_29 ?_
    rintro _ _ ⟨rfl, rfl⟩
    exact g_iret C hr (Or.inr ⟨i, hi, rfl, rfl, rfl⟩) dX1_length_32
  · refine g_ifN_eq (tgt := 12) C (by decide) dX1_length_5 (by decide) (fun _ => ?_) (fun h => absurd rfl h)
    refine g_iconst C (nI 1) dX1_length_12 (k := ?_)
    refine g_putf (Cn := RX1) (T := TX1) (n := 8) (ref := "WheelProductsModel") (ty := .int) C 20 0 h20 e20 rfl (by decide +kernel) tyX1 tyX1_ok nmX1 (by decide) (by decide +kernel) (fun _ h => h) rfl (by decide +kernel) rfl rfl (Nat.le_of_ble_eq_true rfl) dX1_length_13 ?_
    refine g_ct (ct' := va_up (ct) 20 (obM (nI 1) p g ad)) rfl ?_
    refine g_aload_n C dX1_length_16 (k := ?_)
    refine g_getf (Cn := RX1) (T := TX1) (n := 8) (ref := "WheelProductsModel") C 20 0 h20 (va_up_self _ _ _) rfl (by decide +kernel) (by decide) (by decide +kernel) (fun _ h => h) rfl dX1_length_17 ?_
    refine g_ifN_le (tgt := 27) C (by decide) dX1_length_20 (by decide) (fun h => absurd h (by decide)) (fun _ => ?_)
    refine g_iconst C (nI 0) dX1_length_23 (k := ?_)
    refine g_goto (tgt := 32) C dX1_length_24 (k := ?_)
    exact g_iret C hr (Or.inl ⟨hno, rfl⟩) dX1_length_32
set_option maxRecDepth 100000 in
set_option maxHeartbeats 4000000 in
theorem m_size (l : Launch) {D : va_G} {tys : List (ClassId × FieldType)} {N : Nat} {ad : Nat → Nat} {ct : Nat → va_E} (hN : 26 ≤ N) {cJ : ClassId} {th : Int32} {p g : Nat} {c wd : Nat → Nat} (e20 : ct 20 = obM th p g ad) (ec : ct 21 = LN cJ 3072 c) (ew : ct 22 = LN cJ 1440 wd) (ht : tys[0]? = some (cJ, .long)) (hp1 : 512 < p) (hp2 : p < 2 ^ 31) (hc : ∀ k, k < 3072 → c k < p) (hw : ∀ k, k < 1440 → wd k < 2 ^ 32) (x : Int32) :
    gMi l yX1_size wsX1_size rm2 D vwCl tys N ad [.ref (ad 20), .int x] ct (fun r ct1 => (¬ ir x 6 ∧ ct1 = va_up ct 20 (obM (nI 1) p g ad)) ∨ (∃ i, i < 6 ∧ x = nI i ∧ r = nI (up1 (fun k => wd (240 * i + k)) 240) ∧ ct1 = va_up ct 20 (obM (nI 0) p g ad))) := by
  refine gof_i (cc := cX1_size) (maxL := 2) (by decide) rfl (Nat.le_of_ble_eq_true rfl) ?_
  intro M sz C hlM hRM hr hsz
  have h20 : 20 < N := by omega
  have h21 : 21 < N := by omega
  have h22 : 22 < N := by omega
  refine g_aload_n C dX1_size_0 (k := ?_)
  refine g_iload_n C dX1_size_1 (k := ?_)
  refine g_cSi (n := 1) (av := [.int x]) C (by rw [hlM]; exact m_isRow l x) gX1_size_X1_isRow rfl ⟨rfl, rfl⟩ (by rw [hRM]; exact ⟨Nat.le_of_ble_eq_true rfl, Nat.le_of_ble_eq_true rfl⟩) (by rw [hRM]; exact ⟨Nat.le_of_ble_eq_true rfl, Nat.le_of_ble_eq_true rfl⟩) (Nat.le_of_ble_eq_true rfl) (by decide +kernel) rfl dX1_size_2 ?_
  rintro _ ct ⟨hir, rfl⟩
  rcases hir with ⟨rfl, i, hi, rfl⟩ | ⟨rfl, hno⟩
  · refine g_ifN_eq (tgt := 12) C (by decide) dX1_size_5 (by decide) (fun h => absurd h (by decide)) (fun _ => ?_)
    refine g_iconst C (nI 0) dX1_size_8 (k := ?_)
    refine g_goto (tgt := 13) C dX1_size_9 (k := ?_)
    refine g_putf (Cn := RX1) (T := TX1) (n := 8) (ref := "WheelProductsModel") (ty := .int) C 20 0 h20 e20 rfl (by decide +kernel) tyX1 tyX1_ok nmX1 (by decide) (by decide +kernel) (fun _ h => h) rfl (by decide +kernel) rfl rfl (Nat.le_of_ble_eq_true rfl) dX1_size_13 ?_
    refine g_ct (ct' := va_up (ct) 20 (obM (nI 0) p g ad)) rfl ?_
    refine g_aload_n C dX1_size_16 (k := ?_)
    refine g_getf (Cn := RX1) (T := TX1) (n := 8) (ref := "WheelProductsModel") C 20 0 h20 (va_up_self _ _ _) rfl (by decide +kernel) (by decide) (by decide +kernel) (fun _ h => h) rfl dX1_size_17 ?_
    refine g_ifN_le (tgt := 27) C (by decide) dX1_size_20 (by decide) (fun _ => ?_) (fun h => absurd h (by decide))
    refine g_aload_n C dX1_size_27 (k := ?_)
    refine g_iload_n C dX1_size_28 (k := ?_)
    refine g_cVi (n := 1) (av := [.int (nI i)]) C 20 h20 (va_up_self _ _ _) rfl (by rw [hlM]; exact m_sizeOf l hN (va_up_self _ _ _) (by (repeat rw [va_up_ne _ _ (by omega)]); exact ew) ht hi (fun k hk => Nat.lt_trans (hw k hk) (by decide))) gX1_size_X1_sizeOf rfl ⟨rfl, rfl⟩ (by rw [hRM]; exact ⟨Nat.le_of_ble_eq_true rfl, Nat.le_of_ble_eq_true rfl⟩) (by rw [hRM]; exact ⟨Nat.le_of_ble_eq_true rfl, Nat.le_of_ble_eq_true rfl⟩) (Nat.le_of_ble_eq_true rfl) (by decide +kernel) rfl dX1_size_29 ?_
    rintro _ _ ⟨rfl, rfl⟩
    exact g_iret C hr (Or.inr ⟨i, hi, rfl, rfl, rfl⟩) dX1_size_32
  · refine g_ifN_eq (tgt := 12) C (by decide) dX1_size_5 (by decide) (fun _ => ?_) (fun h => absurd rfl h)
    refine g_iconst C (nI 1) dX1_size_12 (k := ?_)
    refine g_putf (Cn := RX1) (T := TX1) (n := 8) (ref := "WheelProductsModel") (ty := .int) C 20 0 h20 e20 rfl (by decide +kernel) tyX1 tyX1_ok nmX1 (by decide) (by decide +kernel) (fun _ h => h) rfl (by decide +kernel) rfl rfl (Nat.le_of_ble_eq_true rfl) dX1_size_13 ?_
    refine g_ct (ct' := va_up (ct) 20 (obM (nI 1) p g ad)) rfl ?_
    refine g_aload_n C dX1_size_16 (k := ?_)
    refine g_getf (Cn := RX1) (T := TX1) (n := 8) (ref := "WheelProductsModel") C 20 0 h20 (va_up_self _ _ _) rfl (by decide +kernel) (by decide) (by decide +kernel) (fun _ h => h) rfl dX1_size_17 ?_
    refine g_ifN_le (tgt := 27) C (by decide) dX1_size_20 (by decide) (fun h => absurd h (by decide)) (fun _ => ?_)
    refine g_iconst C (nI 0) dX1_size_23 (k := ?_)
    refine g_goto (tgt := 32) C dX1_size_24 (k := ?_)
    exact g_iret C hr (Or.inl ⟨hno, rfl⟩) dX1_size_32
set_option maxRecDepth 100000 in
set_option maxHeartbeats 4000000 in
theorem m_at (l : Launch) {D : va_G} {tys : List (ClassId × FieldType)} {N : Nat} {ad : Nat → Nat} {ct : Nat → va_E} (hN : 26 ≤ N) {cJ : ClassId} {th : Int32} {p g : Nat} {c wd : Nat → Nat} (e20 : ct 20 = obM th p g ad) (ec : ct 21 = LN cJ 3072 c) (ew : ct 22 = LN cJ 1440 wd) (ht : tys[0]? = some (cJ, .long)) (hp1 : 512 < p) (hp2 : p < 2 ^ 31) (hc : ∀ k, k < 3072 → c k < p) (hw : ∀ k, k < 1440 → wd k < 2 ^ 32) (x : Int32) (z : Int64) :
    gMl l yX1_at wsX1_at rm1 D vwCl tys N ad [.ref (ad 20), .int x, .long z] ct (fun r ct1 => (¬ ir x 6 ∧ ct1 = va_up ct 20 (obM (nI 1) p g ad)) ∨ (∃ i, i < 6 ∧ x = nI i ∧ r = lN (hrn p (fun k => c (512 * i + k)) (fm p z) 512) ∧ ct1 = va_up ct 20 (obM (nI 0) p g ad))) := by
  refine gof_l (cc := cX1_at) (maxL := 9) (by decide) rfl (Nat.le_of_ble_eq_true rfl) ?_
  intro M sz C hlM hRM hr hsz
  have h20 : 20 < N := by omega
  have h21 : 21 < N := by omega
  have h22 : 22 < N := by omega
  have hx := fm_lt (p := p) (by omega) z
  refine g_aload_n C dX1_at_0 (k := ?_)
  refine g_iload_n C dX1_at_1 (k := ?_)
  refine g_cSi (n := 1) (av := [.int x]) C (by rw [hlM]; exact m_isRow l x) gX1_at_X1_isRow rfl ⟨rfl, rfl⟩ (by rw [hRM]; exact ⟨Nat.le_of_ble_eq_true rfl, Nat.le_of_ble_eq_true rfl⟩) (by rw [hRM]; exact ⟨Nat.le_of_ble_eq_true rfl, Nat.le_of_ble_eq_true rfl⟩) (Nat.le_of_ble_eq_true rfl) (by decide +kernel) rfl dX1_at_2 ?_
  rintro _ ct ⟨hir, rfl⟩
  rcases hir with ⟨rfl, i, hi, rfl⟩ | ⟨rfl, hno⟩
  · refine g_ifN_eq (tgt := 12) C (by decide) dX1_at_5 (by decide) (fun h => absurd h (by decide)) (fun _ => ?_)
    refine g_iconst C (nI 0) dX1_at_8 (k := ?_)
    refine g_goto (tgt := 13) C dX1_at_9 (k := ?_)
    refine g_putf (Cn := RX1) (T := TX1) (n := 8) (ref := "WheelProductsModel") (ty := .int) C 20 0 h20 e20 rfl (by decide +kernel) tyX1 tyX1_ok nmX1 (by decide) (by decide +kernel) (fun _ h => h) rfl (by decide +kernel) rfl rfl (Nat.le_of_ble_eq_true rfl) dX1_at_13 ?_
    refine g_ct (ct' := va_up (ct) 20 (obM (nI 0) p g ad)) rfl ?_
    refine g_lconst C (lN 0) dX1_at_16 (k := ?_)
    refine g_lstore C dX1_at_17 (k := ?_)
    refine g_aload_n C dX1_at_19 (k := ?_)
    refine g_lload_n C dX1_at_20 (k := ?_)
    refine g_cVl (n := 1) (av := [.long z]) C 20 h20 (va_up_self _ _ _) rfl (by rw [hlM]; exact m_rest l hN (va_up_self _ _ _) z (by omega) hp2) gX1_at_X1_rest rfl ⟨rfl, rfl⟩ (by rw [hRM]; exact ⟨Nat.le_of_ble_eq_true rfl, Nat.le_of_ble_eq_true rfl⟩) (by rw [hRM]; exact ⟨Nat.le_of_ble_eq_true rfl, Nat.le_of_ble_eq_true rfl⟩) (Nat.le_of_ble_eq_true rfl) (by decide +kernel) rfl dX1_at_21 ?_
    rintro _ _ ⟨rfl, rfl⟩
    have loop : ∀ (m a : Nat), m ≤ 512 → a < p → hra p (fun k => c (512 * i + k)) (fm p z) m a = hrn p (fun k => c (512 * i + k)) (fm p z) 512 → gW M D vwCl (ixA N ad sz) 9 0 0 (MQ (gb M) (va_Ql (fun r ct1 => (¬ ir (nI i) 6 ∧ ct1 = va_up ct 20 (obM (nI 1) p g ad)) ∨ (∃ i_1, i_1 < 6 ∧ nI i = nI i_1 ∧ r = lN (hrn p (fun k => c (512 * i_1 + k)) (fm p z) 512) ∧ ct1 = va_up ct 20 (obM (nI 0) p g ad))) (gB D vwCl tys N ad (ixA N ad sz)) (ixA N ad sz)) (ga M) (gs M) 0 0 (ixA N ad sz)) N ad 31 [(0, some (.ref (ad 20))), (1, some (.int (nI i))), (4, some (.long (lN a))), (6, some (.long (lN (fm p z)))), (8, some (.int (nI m - nI 1)))] [] (va_up ct 20 (obM (nI 0) p g ad)) := by
      intro m
      induction m with
      | zero =>
        intro a _ ha hh
        refine g_iload C dX1_at_31 (k := ?_)
        refine g_if_lt (tgt := 75) C dX1_at_33 (by decide) (fun _ => ?_) (fun h => absurd k_m1 h)
        refine g_lload C dX1_at_75 (k := ?_)
        exact g_lret C hr (Or.inr ⟨i, hi, rfl, by rw [← hh]; rfl, rfl⟩) dX1_at_77
      | succ m ih =>
        intro a hm ha hh
        have hvm := hc (512 * i + m) (by omega)
        have hmul : a * fm p z < 2 ^ 62 := Nat.lt_of_lt_of_le (Nat.mul_lt_mul'' (Nat.lt_trans ha hp2) (Nat.lt_trans hx hp2)) (by decide)
        have e1 : nI (m + 1) - nI 1 = nI m := by rw [pk_sub (by omega)]; rfl
        rw [e1]
        refine g_iload C dX1_at_31 (k := ?_)
        refine g_ifN_lt (tgt := 75) C (by omega) dX1_at_33 (by decide) (fun h => absurd h (by omega)) (fun _ => ?_)
        refine g_aload_n C dX1_at_36 (k := ?_)
        refine g_getf (Cn := RX1) (T := TX1) (n := 8) (ref := "WheelProductsModel") C 20 0 h20 (va_up_self _ _ _) rfl (by decide +kernel) (by decide) (by decide +kernel) (fun _ h => h) rfl dX1_at_37 ?_
        refine g_ifN_ne (tgt := 75) C (by decide) dX1_at_40 (by decide) (fun h => absurd rfl h) (fun _ => ?_)
        refine g_lload C dX1_at_43 (k := ?_)
        refine g_lload C dX1_at_45 (k := ?_)
        refine gN_lmul C dX1_at_47 ?_
        refine g_aload_n C dX1_at_48 (k := ?_)
        refine g_getf (Cn := RX1) (T := TX1) (n := 8) (ref := "WheelProductsModel") C 20 3 h20 (va_up_self _ _ _) rfl (by decide +kernel) (by decide) (by decide +kernel) (fun _ h => h) rfl dX1_at_49 ?_
        refine g_sipush C (nI 512) dX1_at_52 (k := ?_)
        refine g_iload_n C dX1_at_55 (k := ?_)
        refine gN_imul C dX1_at_56 ?_
        refine g_iload C dX1_at_57 (k := ?_)
        refine gN_iadd C dX1_at_59 ?_
        refine gN_lald C 21 h21 (by (repeat rw [va_up_ne _ _ (by omega)]); exact ec) ht (by omega) (by decide) dX1_at_60 ?_
        refine gN_ladd C dX1_at_61 ?_
        refine g_aload_n C dX1_at_62 (k := ?_)
        refine g_getf (Cn := RX1) (T := TX1) (n := 8) (ref := "WheelProductsModel") C 20 1 h20 (va_up_self _ _ _) rfl (by decide +kernel) (by decide) (by decide +kernel) (fun _ h => h) rfl dX1_at_63 ?_
        refine gN_lrem C (by omega) (by omega) (by omega) dX1_at_66 ?_
        refine g_lstore C dX1_at_67 (k := ?_)
        refine g_iinc C (nI m - nI 1) dX1_at_69 (by rw [Int32.sub_eq_add_neg]; rfl) (k := ?_)
        refine g_goto (tgt := 31) C dX1_at_72 (k := ?_)
        exact g_l2 (ih ((a * fm p z + c (512 * i + m)) % p) (by omega) (Nat.mod_lt _ (by omega)) hh) ⟨Or.inr rfl, Or.inr rfl, Or.inr rfl, Or.inr rfl, Or.inr rfl, trivial⟩
    refine g_lstore C dX1_at_24 (k := ?_)
    refine g_sipush C (nI 511) dX1_at_26 (k := ?_)
    refine g_istore C dX1_at_29 (k := ?_)
    exact g_l2 (loop 512 0 (Nat.le_refl _) (by omega) rfl) ⟨Or.inr rfl, Or.inr rfl, Or.inr rfl, Or.inr rfl, Or.inr rfl, trivial⟩
  · refine g_ifN_eq (tgt := 12) C (by decide) dX1_at_5 (by decide) (fun _ => ?_) (fun h => absurd rfl h)
    refine g_iconst C (nI 1) dX1_at_12 (k := ?_)
    refine g_putf (Cn := RX1) (T := TX1) (n := 8) (ref := "WheelProductsModel") (ty := .int) C 20 0 h20 e20 rfl (by decide +kernel) tyX1 tyX1_ok nmX1 (by decide) (by decide +kernel) (fun _ h => h) rfl (by decide +kernel) rfl rfl (Nat.le_of_ble_eq_true rfl) dX1_at_13 ?_
    refine g_ct (ct' := va_up (ct) 20 (obM (nI 1) p g ad)) rfl ?_
    refine g_lconst C (lN 0) dX1_at_16 (k := ?_)
    refine g_lstore C dX1_at_17 (k := ?_)
    refine g_aload_n C dX1_at_19 (k := ?_)
    refine g_lload_n C dX1_at_20 (k := ?_)
    refine g_cVl (n := 1) (av := [.long z]) C 20 h20 (va_up_self _ _ _) rfl (by rw [hlM]; exact m_rest l hN (va_up_self _ _ _) z (by omega) hp2) gX1_at_X1_rest rfl ⟨rfl, rfl⟩ (by rw [hRM]; exact ⟨Nat.le_of_ble_eq_true rfl, Nat.le_of_ble_eq_true rfl⟩) (by rw [hRM]; exact ⟨Nat.le_of_ble_eq_true rfl, Nat.le_of_ble_eq_true rfl⟩) (Nat.le_of_ble_eq_true rfl) (by decide +kernel) rfl dX1_at_21 ?_
    rintro _ _ ⟨rfl, rfl⟩
    refine g_lstore C dX1_at_24 (k := ?_)
    refine g_sipush C (nI 511) dX1_at_26 (k := ?_)
    refine g_istore C dX1_at_29 (k := ?_)
    refine g_iload C dX1_at_31 (k := ?_)
    refine g_ifN_lt (tgt := 75) C (by decide) dX1_at_33 (by decide) (fun h => absurd h (by decide)) (fun _ => ?_)
    refine g_aload_n C dX1_at_36 (k := ?_)
    refine g_getf (Cn := RX1) (T := TX1) (n := 8) (ref := "WheelProductsModel") C 20 0 h20 (va_up_self _ _ _) rfl (by decide +kernel) (by decide) (by decide +kernel) (fun _ h => h) rfl dX1_at_37 ?_
    refine g_ifN_ne (tgt := 75) C (by decide) dX1_at_40 (by decide) (fun _ => ?_) (fun h => absurd h (by decide))
    refine g_lload C dX1_at_75 (k := ?_)
    exact g_lret C hr (Or.inl ⟨hno, rfl⟩) dX1_at_77
end
section
abbrev rmf : Room := { frames := 3, cells := 0, slots := 0, locals := 90 }
set_option maxRecDepth 100000 in
set_option maxHeartbeats 4000000 in
theorem m_field (l : Launch) {D : va_G} {tys : List (ClassId × FieldType)} {N : Nat} {ad : Nat → Nat} {ct : Nat → va_E} (hN : 26 ≤ N) {cJ : ClassId} {th : Int32} {p g : Nat} {c wd : Nat → Nat} (e20 : ct 20 = obM th p g ad) (ec : ct 21 = LN cJ 3072 c) (ew : ct 22 = LN cJ 1440 wd) (ht : tys[0]? = some (cJ, .long)) (hp1 : 512 < p) (hp2 : p < 2 ^ 31) (hc : ∀ k, k < 3072 → c k < p) (hw : ∀ k, k < 1440 → wd k < 2 ^ 32) (hroot : ∀ n, fok n → prm n → ∃ g1, lsR n g1 ∧ g1 < 2 ^ 31) (x : Int64) :
    gMl l yX1_field wsX1_field rmf D vwCl tys N ad [.ref (ad 20), .long x] ct (fun r ct1 => ((¬ ∃ n, fok n ∧ prm n ∧ x = lN n) ∧ ct1 = va_up ct 20 (obM (nI 1) p g ad)) ∨ (∃ n g1, fok n ∧ prm n ∧ x = lN n ∧ lsR n g1 ∧ g1 < 2 ^ 31 ∧ r = lN g1 ∧ ct1 = va_up (va_up ct 20 (obM (nI 0) n g1 ad)) 21 (LN cJ 3072 (fun _ => 0)))) := by
  refine gof_l (cc := cX1_field) (maxL := 4) (by decide) rfl (Nat.le_of_ble_eq_true rfl) ?_
  intro M sz C hlM hRM hr hsz
  have h20 : 20 < N := by omega
  have h21 : 21 < N := by omega
  have h22 : 22 < N := by omega
  have hbad : (¬ ∃ n, fok n ∧ prm n ∧ x = lN n) → gW M D vwCl (ixA N ad sz) 4 0 0 (MQ (gb M) (va_Ql (fun r ct1 => ((¬ ∃ n, fok n ∧ prm n ∧ x = lN n) ∧ ct1 = va_up ct 20 (obM (nI 1) p g ad)) ∨ (∃ n g1, fok n ∧ prm n ∧ x = lN n ∧ lsR n g1 ∧ g1 < 2 ^ 31 ∧ r = lN g1 ∧ ct1 = va_up (va_up ct 20 (obM (nI 0) n g1 ad)) 21 (LN cJ 3072 (fun _ => 0)))) (gB D vwCl tys N ad (ixA N ad sz)) (ixA N ad sz)) (ga M) (gs M) 0 0 (ixA N ad sz)) N ad 38 (lva 0 [.ref (ad 20), .long x]) [.ref (ad 20)] ct := by
    intro hno
    refine g_iconst C (nI 1) dX1_field_38 (k := ?_)
    refine g_putf (Cn := RX1) (T := TX1) (n := 8) (ref := "WheelProductsModel") (ty := .int) C 20 0 h20 e20 rfl (by decide +kernel) tyX1 tyX1_ok nmX1 (by decide) (by decide +kernel) (fun _ h => h) rfl (by decide +kernel) rfl rfl (Nat.le_of_ble_eq_true rfl) dX1_field_39 ?_
    refine g_ct (ct' := va_up (ct) 20 (obM (nI 1) p g ad)) rfl ?_
    refine g_aload_n C dX1_field_42 (k := ?_)
    refine g_getf (Cn := RX1) (T := TX1) (n := 8) (ref := "WheelProductsModel") C 20 0 h20 (va_up_self _ _ _) rfl (by decide +kernel) (by decide) (by decide +kernel) (fun _ h => h) rfl dX1_field_43 ?_
    refine g_ifN_le (tgt := 51) C (by decide) dX1_field_46 (by decide) (fun h => absurd h (by decide)) (fun _ => ?_)
    refine g_lconst C (lN 0) dX1_field_49 (k := ?_)
    exact g_lret C hr (Or.inl ⟨hno, rfl⟩) dX1_field_50
  refine g_aload_n C dX1_field_0 (k := ?_)
  refine g_lload_n C dX1_field_1 (k := ?_)
  refine g_lconst C (lN 1) dX1_field_2 (k := ?_)
  by_cases h1 : x ≤ lN 1
  · refine g_lc_le (tgt := 38) C dX1_field_3 dX1_field_4 (by decide) (fun _ => ?_) (fun h => absurd h1 h)
    refine hbad ?_
    rintro ⟨m, hm, -, rfl⟩
    have := (pk_lLE (by omega) (by decide)).mp h1
    omega
  · refine g_lc_le (tgt := 38) C dX1_field_3 dX1_field_4 (by decide) (fun h => absurd h h1) (fun _ => ?_)
    have hx0 : ¬ x < 0 := fun h => h1 (Int64.le_of_lt (Int64.lt_trans h (by decide)))
    obtain ⟨n, hn63, rfl⟩ := pk_lOf hx0
    have hn2 : 2 ≤ n := by
      rcases Nat.lt_or_ge n 2 with h | h
      · exact absurd ((pk_lLE hn63 (by decide)).mpr (by omega)) h1
      · exact h
    refine g_lload_n C dX1_field_7 (k := ?_)
    refine g_ldc2 (v := 2147483647) C (by decide +kernel) dX1_field_8 ?_
    refine g_tl (lN 2147483647) rfl ?_
    by_cases h2 : 2147483647 < n
    · refine g_lcN_gt (tgt := 38) C hn63 (by decide) dX1_field_11 dX1_field_12 (by decide) (fun _ => ?_) (fun h => absurd h (by omega))
      refine hbad ?_
      rintro ⟨m, hm, -, he⟩
      have := (pk_lEQ hn63 (by omega)).mp he
      omega
    · refine g_lcN_gt (tgt := 38) C hn63 (by decide) dX1_field_11 dX1_field_12 (by decide) (fun h => absurd h (by omega)) (fun _ => ?_)
      refine g_lload_n C dX1_field_15 (k := ?_)
      refine g_lconst C (lN 1) dX1_field_16 (k := ?_)
      refine gN_lsub C (by omega) dX1_field_17 ?_
      refine g_ldc2 (v := 512) C (by decide +kernel) dX1_field_18 ?_
      refine g_tl (lN 512) rfl ?_
      refine gN_lrem C (by omega) (by decide) (by decide) dX1_field_21 ?_
      refine g_lconst C (lN 0) dX1_field_22 (k := ?_)
      have hmm : (n - 1) % 512 < 512 := Nat.mod_lt _ (by decide)
      by_cases h3 : (n - 1) % 512 = 0
      · refine g_lcN_ne (tgt := 38) C (by omega) (by decide) dX1_field_23 dX1_field_24 (by decide) (fun h => absurd h3 h) (fun _ => ?_)
        have hfok : fok n := ⟨hn2, by omega, h3⟩
        refine g_lload_n C dX1_field_27 (k := ?_)
        refine g_cSi (n := 1) (av := [.long (lN n)]) C (by rw [hlM]; exact m_isPrime l hn2 (by omega)) gX1_field_X1_isPrime rfl ⟨rfl, rfl⟩ (by rw [hRM]; exact ⟨Nat.le_of_ble_eq_true rfl, Nat.le_of_ble_eq_true rfl⟩) (by rw [hRM]; exact ⟨Nat.le_of_ble_eq_true rfl, Nat.le_of_ble_eq_true rfl⟩) (Nat.le_of_ble_eq_true rfl) (by decide +kernel) rfl dX1_field_28 ?_
        rintro _ ct ⟨hpr, rfl⟩
        rcases hpr with ⟨rfl, hpr⟩ | ⟨rfl, hpr⟩
        · refine g_ifN_eq (tgt := 38) C (by decide) dX1_field_31 (by decide) (fun h => absurd h (by decide)) (fun _ => ?_)
          obtain ⟨g1, hls, hg1⟩ := hroot n hfok hpr
          refine g_iconst C (nI 0) dX1_field_34 (k := ?_)
          refine g_goto (tgt := 39) C dX1_field_35 (k := ?_)
          refine g_putf (Cn := RX1) (T := TX1) (n := 8) (ref := "WheelProductsModel") (ty := .int) C 20 0 h20 e20 rfl (by decide +kernel) tyX1 tyX1_ok nmX1 (by decide) (by decide +kernel) (fun _ h => h) rfl (by decide +kernel) rfl rfl (Nat.le_of_ble_eq_true rfl) dX1_field_39 ?_
          refine g_ct (ct' := va_up (ct) 20 (obM (nI 0) p g ad)) rfl ?_
          refine g_aload_n C dX1_field_42 (k := ?_)
          refine g_getf (Cn := RX1) (T := TX1) (n := 8) (ref := "WheelProductsModel") C 20 0 h20 (va_up_self _ _ _) rfl (by decide +kernel) (by decide) (by decide +kernel) (fun _ h => h) rfl dX1_field_43 ?_
          refine g_ifN_le (tgt := 51) C (by decide) dX1_field_46 (by decide) (fun _ => ?_) (fun h => absurd h (by decide))
          refine g_aload_n C dX1_field_51 (k := ?_)
          refine g_lload_n C dX1_field_52 (k := ?_)
          refine g_putf (Cn := RX1) (T := TX1) (n := 8) (ref := "WheelProductsModel") (ty := .long) C 20 1 h20 (va_up_self _ _ _) rfl (by decide +kernel) tyX1 tyX1_ok nmX1 (by decide) (by decide +kernel) (fun _ h => h) rfl (by decide +kernel) rfl rfl (Nat.le_of_ble_eq_true rfl) dX1_field_53 ?_
          rw [bx_uu]
          refine g_ct (ct' := va_up ct 20 (obM (nI 0) n g ad)) rfl ?_
          refine g_aload_n C dX1_field_56 (k := ?_)
          refine g_lload_n C dX1_field_57 (k := ?_)
          refine g_cSl (n := 1) (av := [.long (lN n)]) C (by rw [hlM]; exact m_rootOf l (by omega) (by omega) hls hg1) gX1_field_X1_rootOf rfl ⟨rfl, rfl⟩ (by rw [hRM]; exact ⟨Nat.le_of_ble_eq_true rfl, Nat.le_of_ble_eq_true rfl⟩) (by rw [hRM]; exact ⟨Nat.le_of_ble_eq_true rfl, Nat.le_of_ble_eq_true rfl⟩) (Nat.le_of_ble_eq_true rfl) (by decide +kernel) rfl dX1_field_58 ?_
          rintro _ _ ⟨rfl, rfl⟩
          refine g_putf (Cn := RX1) (T := TX1) (n := 8) (ref := "WheelProductsModel") (ty := .long) C 20 2 h20 (va_up_self _ _ _) rfl (by decide +kernel) tyX1 tyX1_ok nmX1 (by decide) (by decide +kernel) (fun _ h => h) rfl (by decide +kernel) rfl rfl (Nat.le_of_ble_eq_true rfl) dX1_field_61 ?_
          rw [bx_uu]
          refine g_ct (ct' := va_up ct 20 (obM (nI 0) n g1 ad)) rfl ?_
          have loop : ∀ (d i : Nat), 3072 = i + d → gW M D vwCl (ixA N ad sz) 4 0 0 (MQ (gb M) (va_Ql (fun r ct1 => ((¬ ∃ n_1, fok n_1 ∧ prm n_1 ∧ lN n = lN n_1) ∧ ct1 = va_up ct 20 (obM (nI 1) p g ad)) ∨ (∃ n_1 g1, fok n_1 ∧ prm n_1 ∧ lN n = lN n_1 ∧ lsR n_1 g1 ∧ g1 < 2 ^ 31 ∧ r = lN g1 ∧ ct1 = va_up (va_up ct 20 (obM (nI 0) n_1 g1 ad)) 21 (LN cJ 3072 (fun _ => 0)))) (gB D vwCl tys N ad (ixA N ad sz)) (ixA N ad sz)) (ga M) (gs M) 0 0 (ixA N ad sz)) N ad 66 [(0, some (.ref (ad 20))), (3, some (.int (nI i)))] [] (va_up (va_up ct 20 (obM (nI 0) n g1 ad)) 21 (LN cJ 3072 (fun k => if k < i then 0 else c k))) := by
            intro d
            induction d with
            | zero =>
              intro i hd
              have hi : i = 3072 := by omega
              subst hi
              refine g_iload_n C dX1_field_66 (k := ?_)
              refine g_sipush C (nI 3072) dX1_field_67 (k := ?_)
              refine g_icN_ge (tgt := 86) C (by decide) (by decide) dX1_field_70 (by decide) (fun _ => ?_) (fun h => absurd h (by decide))
              refine g_ext 21 (va_up_self _ _ _) (g := fun k => lN ((fun _ => 0) k)) (fun k hk => by show lN (if k < 3072 then 0 else c k) = _; rw [if_pos hk]) ?_
              rw [bx_uu]
              refine g_aload_n C dX1_field_86 (k := ?_)
              refine g_getf (Cn := RX1) (T := TX1) (n := 8) (ref := "WheelProductsModel") C 20 2 h20 (by rw [va_up_ne _ _ (by decide), va_up_self]) rfl (by decide +kernel) (by decide) (by decide +kernel) (fun _ h => h) rfl dX1_field_87 ?_
              exact g_lret C hr (Or.inr ⟨n, g1, hfok, hpr, rfl, hls, hg1, rfl, rfl⟩) dX1_field_90
            | succ d ih =>
              intro i hd
              refine g_iload_n C dX1_field_66 (k := ?_)
              refine g_sipush C (nI 3072) dX1_field_67 (k := ?_)
              refine g_icN_ge (tgt := 86) C (by omega) (by decide) dX1_field_70 (by decide) (fun h => absurd h (by omega)) (fun _ => ?_)
              refine g_aload_n C dX1_field_73 (k := ?_)
              refine g_getf (Cn := RX1) (T := TX1) (n := 8) (ref := "WheelProductsModel") C 20 3 h20 (by rw [va_up_ne _ _ (by decide), va_up_self]) rfl (by decide +kernel) (by decide) (by decide +kernel) (fun _ h => h) rfl dX1_field_74 ?_
              refine g_iload_n C dX1_field_77 (k := ?_)
              refine g_lconst C (lN 0) dX1_field_78 (k := ?_)
              refine gN_last C 21 h21 (va_up_self _ _ _) ht (by omega) (by decide) dX1_field_79 ?_
              refine gN_inc C dX1_field_80 (k := ?_)
              refine g_goto (tgt := 66) C dX1_field_83 (k := ?_)
              have e : nu (fun k => if k < i then 0 else c k) i 0 = fun k => if k < i + 1 then 0 else c k := by
                funext k
                unfold nu
                by_cases h1 : k = i
                · rw [if_pos h1, if_pos (by omega)]
                · rw [if_neg h1]
                  show (if k < i then 0 else c k) = _
                  by_cases h2 : k < i
                  · rw [if_pos h2, if_pos (by omega)]
                  · rw [if_neg h2, if_neg (by omega)]
              rw [bx_uu, e]
              exact g_l2 (ih (i + 1) (by omega)) ⟨Or.inr rfl, Or.inr rfl, trivial⟩
          refine g_iconst C (nI 0) dX1_field_64 (k := ?_)
          refine g_istore_n C dX1_field_65 (k := ?_)
          refine g_ct (ct' := va_up (va_up ct 20 (obM (nI 0) n g1 ad)) 21 (LN cJ 3072 (fun k => if k < 0 then 0 else c k))) ?_ ?_
          · have : (fun k => if k < 0 then 0 else c k) = c := funext fun k => if_neg (by omega)
            rw [this]
            exact (up_id (q := 21) (by rw [va_up_ne _ _ (by decide)]; exact ec)).symm
          · exact g_l2 (loop 3072 0 (by omega)) ⟨Or.inr rfl, Or.inr rfl, trivial⟩
        · refine g_ifN_eq (tgt := 38) C (by decide) dX1_field_31 (by decide) (fun _ => ?_) (fun h => absurd rfl h)
          refine hbad ?_
          rintro ⟨m, hm, hpm, he⟩
          have := (pk_lEQ hn63 (by omega)).mp he
          subst this
          exact hpr hpm
      · refine g_lcN_ne (tgt := 38) C (by omega) (by decide) dX1_field_23 dX1_field_24 (by decide) (fun _ => ?_) (fun h => absurd h h3)
        refine hbad ?_
        rintro ⟨m, hm, hpm, he⟩
        have := (pk_lEQ hn63 (by omega)).mp he
        subst this
        exact h3 hm.2.2
/-! ===== the reference's turn ===== -/
def dsm (p n b j : Nat) (v : Nat → Nat) : Nat → Nat
  | 0 => 0
  | m + 1 => (dsm p n b j v m + v m * (b ^ (m * j % n) % p)) % p
def mtr (p n b sh : Nat) (v : Nat → Nat) : Nat → Nat := fun j => dsm p n b j v n * sh % p
theorem dsm_lt {p n b j : Nat} {v : Nat → Nat} (hp : 0 < p) : ∀ m, dsm p n b j v m < p
  | 0 => hp
  | m + 1 => Nat.mod_lt _ hp

abbrev rmt : Room := { frames := 1, cells := 0, slots := 0, locals := 31 }
set_option maxRecDepth 100000 in
set_option maxHeartbeats 4000000 in
theorem m_turn (l : Launch) {D : va_G} {tys : List (ClassId × FieldType)} {N : Nat} {ad : Nat → Nat} {ct : Nat → va_E} (hN : 26 ≤ N) {cJ : ClassId} {th : Int32} {p g : Nat} {c wd : Nat → Nat} (e20 : ct 20 = obM th p g ad) (ec : ct 21 = LN cJ 3072 c) (ew : ct 22 = LN cJ 1440 wd) (ht : tys[0]? = some (cJ, .long)) (hp1 : 512 < p) (hp2 : p < 2 ^ 31) (hc : ∀ k, k < 3072 → c k < p) (hw : ∀ k, k < 1440 → wd k < 2 ^ 32) {wk pw : Nat → Nat} (ek : ct 23 = LN cJ 512 wk) (ep : ct 24 = LN cJ 512 pw) (hg : g < p) (x y b : Int32) :
    gMv l yX1_turn wsX1_turn rmt D vwCl tys N ad [.ref (ad 20), .int x, .int y, .int b] ct (fun ct1 => (¬ ir x 6 ∧ ct1 = va_up ct 20 (obM (nI 1) p g ad)) ∨ (ir x 6 ∧ ¬ pw2 y ∧ ct1 = va_up ct 20 (obM (nI 2) p g ad)) ∨ (∃ i K, i < 6 ∧ K < 10 ∧ x = nI i ∧ y = nI (2 ^ K) ∧ ∃ f24 f23, ct1 = va_up (va_up (va_up (va_up ct 20 (obM (nI 0) p g ad)) 24 (LN cJ 512 f24)) 23 (LN cJ 512 f23)) 21 (LN cJ 3072 (fr 512 i (2 ^ K) (mtr p (2 ^ K) (if b = 0 then g ^ ((p - 1) / 2 ^ K) % p else (g ^ ((p - 1) / 2 ^ K) % p) ^ (p - 2) % p) (if b = 0 then 1 else (2 ^ K) ^ (p - 2) % p) (fun k => c (512 * i + k))) c)))) := by
  refine gof_v (cc := cX1_turn) (maxL := 16) (by decide) rfl (Nat.le_of_ble_eq_true rfl) ?_
  intro M sz C hlM hRM hr hsz
  have h20 : 20 < N := by omega
  have h21 : 21 < N := by omega
  have h22 : 22 < N := by omega
  have h23 : 23 < N := by omega
  have h24 : 24 < N := by omega
  have hgood : ∀ (i K : Nat), i < 6 → K < 10 → x = nI i → y = nI (2 ^ K) → gW M D vwCl (ixA N ad sz) 16 0 0 (MQ (gb M) (va_Qv (fun ct1 => (¬ ir x 6 ∧ ct1 = va_up ct 20 (obM (nI 1) p g ad)) ∨ (ir x 6 ∧ ¬ pw2 y ∧ ct1 = va_up ct 20 (obM (nI 2) p g ad)) ∨ (∃ i K, i < 6 ∧ K < 10 ∧ x = nI i ∧ y = nI (2 ^ K) ∧ ∃ f24 f23, ct1 = va_up (va_up (va_up (va_up ct 20 (obM (nI 0) p g ad)) 24 (LN cJ 512 f24)) 23 (LN cJ 512 f23)) 21 (LN cJ 3072 (fr 512 i (2 ^ K) (mtr p (2 ^ K) (if b = 0 then g ^ ((p - 1) / 2 ^ K) % p else (g ^ ((p - 1) / 2 ^ K) % p) ^ (p - 2) % p) (if b = 0 then 1 else (2 ^ K) ^ (p - 2) % p) (fun k => c (512 * i + k))) c)))) (gB D vwCl tys N ad (ixA N ad sz)) (ixA N ad sz)) (ga M) (gs M) 0 0 (ixA N ad sz)) N ad 60 (lva 0 [.ref (ad 20), .int x, .int y, .int b]) [] (va_up ct 20 (obM (nI 0) p g ad)) := by
    rintro i K hi hK rfl rfl
    have hpos : 0 < 2 ^ K := Nat.pow_pos (by decide)
    have hKn : 2 ^ K ≤ 512 := show 2 ^ K ≤ 2 ^ 9 from Nat.pow_le_pow_right (by decide) (by omega)
    have hdl : (p - 1) / 2 ^ K ≤ p - 1 := Nat.div_le_self _ _
    have hwl : g ^ ((p - 1) / 2 ^ K) % p < p := Nat.mod_lt _ (by omega)
    refine g_aload_n C dX1_turn_60 (k := ?_)
    refine g_getf (Cn := RX1) (T := TX1) (n := 8) (ref := "WheelProductsModel") C 20 2 h20 (va_up_self _ _ _) rfl (by decide +kernel) (by decide) (by decide +kernel) (fun _ h => h) rfl dX1_turn_61 ?_
    refine g_aload_n C dX1_turn_64 (k := ?_)
    refine g_getf (Cn := RX1) (T := TX1) (n := 8) (ref := "WheelProductsModel") C 20 1 h20 (va_up_self _ _ _) rfl (by decide +kernel) (by decide) (by decide +kernel) (fun _ h => h) rfl dX1_turn_65 ?_
    refine g_lconst C (lN 1) dX1_turn_68 (k := ?_)
    refine gN_lsub C (by omega) dX1_turn_69 ?_
    refine g_iload_n C dX1_turn_70 (k := ?_)
    refine gN_i2l C (by omega) dX1_turn_71 ?_
    refine gN_ldiv C (by omega) hpos (by omega) dX1_turn_72 ?_
    refine g_aload_n C dX1_turn_73 (k := ?_)
    refine g_getf (Cn := RX1) (T := TX1) (n := 8) (ref := "WheelProductsModel") C 20 1 h20 (va_up_self _ _ _) rfl (by decide +kernel) (by decide) (by decide +kernel) (fun _ h => h) rfl dX1_turn_74 ?_
    refine g_cSl (n := 3) (av := [.long (lN (g)), .long (lN ((p - 1) / 2 ^ K)), .long (lN p)]) C (by rw [hlM]; exact m_raise l (by omega) (by omega) (by omega) hp2) gX1_turn_X1_raise rfl ⟨rfl, rfl⟩ (by rw [hRM]; exact ⟨Nat.le_of_ble_eq_true rfl, Nat.le_of_ble_eq_true rfl⟩) (by rw [hRM]; exact ⟨Nat.le_of_ble_eq_true rfl, Nat.le_of_ble_eq_true rfl⟩) (Nat.le_of_ble_eq_true rfl) (by decide +kernel) rfl dX1_turn_77 ?_
    rintro _ _ ⟨rfl, rfl⟩
    have hby : ∀ (lv : gLv) (k : gW M D vwCl (ixA N ad sz) 16 0 0 (MQ (gb M) (va_Qv (fun ct1 => (¬ ir (nI i) 6 ∧ ct1 = va_up ct 20 (obM (nI 1) p g ad)) ∨ (ir (nI i) 6 ∧ ¬ pw2 (nI (2 ^ K)) ∧ ct1 = va_up ct 20 (obM (nI 2) p g ad)) ∨ (∃ i_1 K_1, i_1 < 6 ∧ K_1 < 10 ∧ nI i = nI i_1 ∧ nI (2 ^ K) = nI (2 ^ K_1) ∧ ∃ f24 f23, ct1 = va_up (va_up (va_up (va_up ct 20 (obM (nI 0) p g ad)) 24 (LN cJ 512 f24)) 23 (LN cJ 512 f23)) 21 (LN cJ 3072 (fr 512 i_1 (2 ^ K_1) (mtr p (2 ^ K_1) (if b = 0 then g ^ ((p - 1) / 2 ^ K_1) % p else (g ^ ((p - 1) / 2 ^ K_1) % p) ^ (p - 2) % p) (if b = 0 then 1 else (2 ^ K_1) ^ (p - 2) % p) (fun k => c (512 * i_1 + k))) c)))) (gB D vwCl tys N ad (ixA N ad sz)) (ixA N ad sz)) (ga M) (gs M) 0 0 (ixA N ad sz)) N ad 108 lv [.long (lN (if b = 0 then g ^ ((p - 1) / 2 ^ K) % p else (g ^ ((p - 1) / 2 ^ K) % p) ^ (p - 2) % p))] (va_up ct 20 (obM (nI 0) p g ad))), lvq lv 3 = some (.int b) → lvq lv 0 = some (.ref (ad 20)) → lvq lv 5 = some (.long (lN (g ^ ((p - 1) / 2 ^ K) % p))) → gW M D vwCl (ixA N ad sz) 16 0 0 (MQ (gb M) (va_Qv (fun ct1 => (¬ ir (nI i) 6 ∧ ct1 = va_up ct 20 (obM (nI 1) p g ad)) ∨ (ir (nI i) 6 ∧ ¬ pw2 (nI (2 ^ K)) ∧ ct1 = va_up ct 20 (obM (nI 2) p g ad)) ∨ (∃ i_1 K_1, i_1 < 6 ∧ K_1 < 10 ∧ nI i = nI i_1 ∧ nI (2 ^ K) = nI (2 ^ K_1) ∧ ∃ f24 f23, ct1 = va_up (va_up (va_up (va_up ct 20 (obM (nI 0) p g ad)) 24 (LN cJ 512 f24)) 23 (LN cJ 512 f23)) 21 (LN cJ 3072 (fr 512 i_1 (2 ^ K_1) (mtr p (2 ^ K_1) (if b = 0 then g ^ ((p - 1) / 2 ^ K_1) % p else (g ^ ((p - 1) / 2 ^ K_1) % p) ^ (p - 2) % p) (if b = 0 then 1 else (2 ^ K_1) ^ (p - 2) % p) (fun k => c (512 * i_1 + k))) c)))) (gB D vwCl tys N ad (ixA N ad sz)) (ixA N ad sz)) (ga M) (gs M) 0 0 (ixA N ad sz)) N ad 82 lv [] (va_up ct 20 (obM (nI 0) p g ad)) := by
      intro lv k h3 h00 h5
      refine g_iload_n C dX1_turn_82 h3 ?_
      by_cases hb : b = 0
      · refine g_if_eq (tgt := 106) C dX1_turn_83 (by decide) (fun _ => ?_) (fun h => absurd hb h)
        refine g_lload C dX1_turn_106 h5 ?_
        rw [if_pos hb] at k
        exact k
      · refine g_if_eq (tgt := 106) C dX1_turn_83 (by decide) (fun h => absurd h hb) (fun _ => ?_)
        refine g_lload C dX1_turn_86 h5 ?_
        refine g_aload_n C dX1_turn_88 h00 ?_
        refine g_getf (Cn := RX1) (T := TX1) (n := 8) (ref := "WheelProductsModel") C 20 1 h20 (va_up_self _ _ _) rfl (by decide +kernel) (by decide) (by decide +kernel) (fun _ h => h) rfl dX1_turn_89 ?_
        refine g_ldc2 (v := 2) C (by decide +kernel) dX1_turn_92 ?_
        refine g_tl (lN 2) rfl ?_
        refine gN_lsub C (by omega) dX1_turn_95 ?_
        refine g_aload_n C dX1_turn_96 h00 ?_
        refine g_getf (Cn := RX1) (T := TX1) (n := 8) (ref := "WheelProductsModel") C 20 1 h20 (va_up_self _ _ _) rfl (by decide +kernel) (by decide) (by decide +kernel) (fun _ h => h) rfl dX1_turn_97 ?_
        refine g_cSl (n := 3) (av := [.long (lN (g ^ ((p - 1) / 2 ^ K) % p)), .long (lN (p - 2)), .long (lN p)]) C (by rw [hlM]; exact m_raise l (by omega) (by omega) (by omega) hp2) gX1_turn_X1_raise rfl ⟨rfl, rfl⟩ (by rw [hRM]; exact ⟨Nat.le_of_ble_eq_true rfl, Nat.le_of_ble_eq_true rfl⟩) (by rw [hRM]; exact ⟨Nat.le_of_ble_eq_true rfl, Nat.le_of_ble_eq_true rfl⟩) (Nat.le_of_ble_eq_true rfl) (by decide +kernel) rfl dX1_turn_100 ?_
        rintro _ _ ⟨rfl, rfl⟩
        refine g_goto (tgt := 108) C dX1_turn_103 (k := ?_)
        rw [if_neg hb] at k
        exact k
    have hshr : ∀ (lv : gLv) (k : gW M D vwCl (ixA N ad sz) 16 0 0 (MQ (gb M) (va_Qv (fun ct1 => (¬ ir (nI i) 6 ∧ ct1 = va_up ct 20 (obM (nI 1) p g ad)) ∨ (ir (nI i) 6 ∧ ¬ pw2 (nI (2 ^ K)) ∧ ct1 = va_up ct 20 (obM (nI 2) p g ad)) ∨ (∃ i_1 K_1, i_1 < 6 ∧ K_1 < 10 ∧ nI i = nI i_1 ∧ nI (2 ^ K) = nI (2 ^ K_1) ∧ ∃ f24 f23, ct1 = va_up (va_up (va_up (va_up ct 20 (obM (nI 0) p g ad)) 24 (LN cJ 512 f24)) 23 (LN cJ 512 f23)) 21 (LN cJ 3072 (fr 512 i_1 (2 ^ K_1) (mtr p (2 ^ K_1) (if b = 0 then g ^ ((p - 1) / 2 ^ K_1) % p else (g ^ ((p - 1) / 2 ^ K_1) % p) ^ (p - 2) % p) (if b = 0 then 1 else (2 ^ K_1) ^ (p - 2) % p) (fun k => c (512 * i_1 + k))) c)))) (gB D vwCl tys N ad (ixA N ad sz)) (ixA N ad sz)) (ga M) (gs M) 0 0 (ixA N ad sz)) N ad 135 lv [.long (lN (if b = 0 then 1 else (2 ^ K) ^ (p - 2) % p))] (va_up ct 20 (obM (nI 0) p g ad))), lvq lv 3 = some (.int b) → lvq lv 0 = some (.ref (ad 20)) → lvq lv 2 = some (.int (nI (2 ^ K))) → gW M D vwCl (ixA N ad sz) 16 0 0 (MQ (gb M) (va_Qv (fun ct1 => (¬ ir (nI i) 6 ∧ ct1 = va_up ct 20 (obM (nI 1) p g ad)) ∨ (ir (nI i) 6 ∧ ¬ pw2 (nI (2 ^ K)) ∧ ct1 = va_up ct 20 (obM (nI 2) p g ad)) ∨ (∃ i_1 K_1, i_1 < 6 ∧ K_1 < 10 ∧ nI i = nI i_1 ∧ nI (2 ^ K) = nI (2 ^ K_1) ∧ ∃ f24 f23, ct1 = va_up (va_up (va_up (va_up ct 20 (obM (nI 0) p g ad)) 24 (LN cJ 512 f24)) 23 (LN cJ 512 f23)) 21 (LN cJ 3072 (fr 512 i_1 (2 ^ K_1) (mtr p (2 ^ K_1) (if b = 0 then g ^ ((p - 1) / 2 ^ K_1) % p else (g ^ ((p - 1) / 2 ^ K_1) % p) ^ (p - 2) % p) (if b = 0 then 1 else (2 ^ K_1) ^ (p - 2) % p) (fun k => c (512 * i_1 + k))) c)))) (gB D vwCl tys N ad (ixA N ad sz)) (ixA N ad sz)) (ga M) (gs M) 0 0 (ixA N ad sz)) N ad 110 lv [] (va_up ct 20 (obM (nI 0) p g ad)) := by
      intro lv k h3 h00 h2
      refine g_iload_n C dX1_turn_110 h3 ?_
      by_cases hb : b = 0
      · refine g_if_eq (tgt := 134) C dX1_turn_111 (by decide) (fun _ => ?_) (fun h => absurd hb h)
        refine g_lconst C (lN 1) dX1_turn_134 (k := ?_)
        rw [if_pos hb] at k
        exact k
      · refine g_if_eq (tgt := 134) C dX1_turn_111 (by decide) (fun h => absurd h hb) (fun _ => ?_)
        refine g_iload_n C dX1_turn_114 h2 ?_
        refine gN_i2l C (by omega) dX1_turn_115 ?_
        refine g_aload_n C dX1_turn_116 h00 ?_
        refine g_getf (Cn := RX1) (T := TX1) (n := 8) (ref := "WheelProductsModel") C 20 1 h20 (va_up_self _ _ _) rfl (by decide +kernel) (by decide) (by decide +kernel) (fun _ h => h) rfl dX1_turn_117 ?_
        refine g_ldc2 (v := 2) C (by decide +kernel) dX1_turn_120 ?_
        refine g_tl (lN 2) rfl ?_
        refine gN_lsub C (by omega) dX1_turn_123 ?_
        refine g_aload_n C dX1_turn_124 h00 ?_
        refine g_getf (Cn := RX1) (T := TX1) (n := 8) (ref := "WheelProductsModel") C 20 1 h20 (va_up_self _ _ _) rfl (by decide +kernel) (by decide) (by decide +kernel) (fun _ h => h) rfl dX1_turn_125 ?_
        refine g_cSl (n := 3) (av := [.long (lN (2 ^ K)), .long (lN (p - 2)), .long (lN p)]) C (by rw [hlM]; exact m_raise l (by omega) (by omega) (by omega) hp2) gX1_turn_X1_raise rfl ⟨rfl, rfl⟩ (by rw [hRM]; exact ⟨Nat.le_of_ble_eq_true rfl, Nat.le_of_ble_eq_true rfl⟩) (by rw [hRM]; exact ⟨Nat.le_of_ble_eq_true rfl, Nat.le_of_ble_eq_true rfl⟩) (Nat.le_of_ble_eq_true rfl) (by decide +kernel) rfl dX1_turn_128 ?_
        rintro _ _ ⟨rfl, rfl⟩
        refine g_goto (tgt := 135) C dX1_turn_131 (k := ?_)
        rw [if_neg hb] at k
        exact k
    have hbyl : (if b = 0 then g ^ ((p - 1) / 2 ^ K) % p else (g ^ ((p - 1) / 2 ^ K) % p) ^ (p - 2) % p) < p := by split <;> exact Nat.mod_lt _ (by omega)
    have hshl : (if b = 0 then 1 else (2 ^ K) ^ (p - 2) % p) < p := by
      split
      · omega
      · exact Nat.mod_lt _ (by omega)
    refine g_lstore C dX1_turn_80 (k := ?_)
    refine hby _ ?_ rfl rfl rfl
    refine g_lstore C dX1_turn_108 (k := ?_)
    refine hshr _ ?_ rfl rfl rfl
    refine g_lstore C dX1_turn_135 (k := ?_)
    refine g_l2 (lv' := [(0, some (.ref (ad 20))), (1, some (.int (nI i))), (2, some (.int (nI (2 ^ K)))), (7, some (.long (lN (if b = 0 then g ^ ((p - 1) / 2 ^ K) % p else (g ^ ((p - 1) / 2 ^ K) % p) ^ (p - 2) % p)))), (9, some (.long (lN (if b = 0 then 1 else (2 ^ K) ^ (p - 2) % p))))]) ?_ ⟨Or.inr rfl, Or.inr rfl, Or.inr rfl, Or.inr rfl, Or.inr rfl, trivial⟩
    generalize hBe : (if b = 0 then g ^ ((p - 1) / 2 ^ K) % p else (g ^ ((p - 1) / 2 ^ K) % p) ^ (p - 2) % p) = B at hbyl
    generalize hSe : (if b = 0 then 1 else (2 ^ K) ^ (p - 2) % p) = sh at hshl
    generalize hVe : (fun k => c (512 * i + k)) = v
    have hve : ∀ k, v k = c (512 * i + k) := fun k => by rw [← hVe]
    have hvl : ∀ k, k < 512 → v k < p := fun k hk => by rw [hve]; exact hc _ (by omega)
    have loop3 : ∀ (f24 f23 : Nat → Nat), (∀ j, j < 2 ^ K → f23 j = mtr p (2 ^ K) B sh v j) → ∀ (d j : Nat), 2 ^ K = j + d → gW M D vwCl (ixA N ad sz) 16 0 0 (MQ (gb M) (va_Qv (fun ct1 => (¬ ir (nI i) 6 ∧ ct1 = va_up ct 20 (obM (nI 1) p g ad)) ∨ (ir (nI i) 6 ∧ ¬ pw2 (nI (2 ^ K)) ∧ ct1 = va_up ct 20 (obM (nI 2) p g ad)) ∨ (∃ i_1 K_1, i_1 < 6 ∧ K_1 < 10 ∧ nI i = nI i_1 ∧ nI (2 ^ K) = nI (2 ^ K_1) ∧ ∃ f24 f23, ct1 = va_up (va_up (va_up (va_up ct 20 (obM (nI 0) p g ad)) 24 (LN cJ 512 f24)) 23 (LN cJ 512 f23)) 21 (LN cJ 3072 (fr 512 i_1 (2 ^ K_1) (mtr p (2 ^ K_1) (if b = 0 then g ^ ((p - 1) / 2 ^ K_1) % p else (g ^ ((p - 1) / 2 ^ K_1) % p) ^ (p - 2) % p) (if b = 0 then 1 else (2 ^ K_1) ^ (p - 2) % p) (fun k => c (512 * i_1 + k))) c)))) (gB D vwCl tys N ad (ixA N ad sz)) (ixA N ad sz)) (ga M) (gs M) 0 0 (ixA N ad sz)) N ad 281 [(0, some (.ref (ad 20))), (1, some (.int (nI i))), (2, some (.int (nI (2 ^ K)))), (7, some (.long (lN B))), (9, some (.long (lN sh))), (11, some (.int (nI j)))] [] (va_up (va_up (va_up (va_up ct 20 (obM (nI 0) p g ad)) 24 (LN cJ 512 f24)) 23 (LN cJ 512 f23)) 21 (LN cJ 3072 (fr 512 i j (mtr p (2 ^ K) B sh v) c))) := by
      intro f24 f23 hf d
      induction d with
      | zero =>
        intro j hd
        have hj : 2 ^ K = j := by omega
        refine g_iload C dX1_turn_281 (k := ?_)
        refine g_iload_n C dX1_turn_283 (k := ?_)
        refine g_icN_ge (tgt := 313) C (by omega) (by omega) dX1_turn_284 (by decide) (fun _ => ?_) (fun h => absurd h (by omega))
        refine g_vret C hr (Or.inr (Or.inr ⟨i, K, hi, hK, rfl, rfl, f24, f23, ?_⟩)) dX1_turn_313
        rw [hBe, hSe, hVe, ← hj]
      | succ d ih =>
        intro j hd
        refine g_iload C dX1_turn_281 (k := ?_)
        refine g_iload_n C dX1_turn_283 (k := ?_)
        refine g_icN_ge (tgt := 313) C (by omega) (by omega) dX1_turn_284 (by decide) (fun h => absurd h (by omega)) (fun _ => ?_)
        refine g_aload_n C dX1_turn_287 (k := ?_)
        refine g_getf (Cn := RX1) (T := TX1) (n := 8) (ref := "WheelProductsModel") C 20 3 h20 (by (repeat rw [va_up_ne _ _ (by decide)]); rw [va_up_self]) rfl (by decide +kernel) (by decide) (by decide +kernel) (fun _ h => h) rfl dX1_turn_288 ?_
        refine g_sipush C (nI 512) dX1_turn_291 (k := ?_)
        refine g_iload_n C dX1_turn_294 (k := ?_)
        refine gN_imul C dX1_turn_295 ?_
        refine g_iload C dX1_turn_296 (k := ?_)
        refine gN_iadd C dX1_turn_298 ?_
        refine g_aload_n C dX1_turn_299 (k := ?_)
        refine g_getf (Cn := RX1) (T := TX1) (n := 8) (ref := "WheelProductsModel") C 20 5 h20 (by (repeat rw [va_up_ne _ _ (by decide)]); rw [va_up_self]) rfl (by decide +kernel) (by decide) (by decide +kernel) (fun _ h => h) rfl dX1_turn_300 ?_
        refine g_iload C dX1_turn_303 (k := ?_)
        refine gN_lald C 23 h23 (by rw [va_up_ne _ _ (by decide), va_up_self]) ht (by omega) (by decide) dX1_turn_305 ?_
        rw [hf j (by omega)]
        refine gN_last C 21 h21 (va_up_self _ _ _) ht (by omega) (by decide) dX1_turn_306 ?_
        rw [bx_uu, fr_s]
        refine gN_inc C dX1_turn_307 (k := ?_)
        refine g_goto (tgt := 281) C dX1_turn_310 (k := ?_)
        exact g_l2 (ih (j + 1) (by omega)) ⟨Or.inr rfl, Or.inr rfl, Or.inr rfl, Or.inr rfl, Or.inr rfl, Or.inr rfl, trivial⟩
    have loop2 : ∀ (f24 : Nat → Nat), (∀ k, k < 2 ^ K → f24 k = B ^ k % p) → ∀ (d j : Nat), 2 ^ K = j + d → gW M D vwCl (ixA N ad sz) 16 0 0 (MQ (gb M) (va_Qv (fun ct1 => (¬ ir (nI i) 6 ∧ ct1 = va_up ct 20 (obM (nI 1) p g ad)) ∨ (ir (nI i) 6 ∧ ¬ pw2 (nI (2 ^ K)) ∧ ct1 = va_up ct 20 (obM (nI 2) p g ad)) ∨ (∃ i_1 K_1, i_1 < 6 ∧ K_1 < 10 ∧ nI i = nI i_1 ∧ nI (2 ^ K) = nI (2 ^ K_1) ∧ ∃ f24 f23, ct1 = va_up (va_up (va_up (va_up ct 20 (obM (nI 0) p g ad)) 24 (LN cJ 512 f24)) 23 (LN cJ 512 f23)) 21 (LN cJ 3072 (fr 512 i_1 (2 ^ K_1) (mtr p (2 ^ K_1) (if b = 0 then g ^ ((p - 1) / 2 ^ K_1) % p else (g ^ ((p - 1) / 2 ^ K_1) % p) ^ (p - 2) % p) (if b = 0 then 1 else (2 ^ K_1) ^ (p - 2) % p) (fun k => c (512 * i_1 + k))) c)))) (gB D vwCl tys N ad (ixA N ad sz)) (ixA N ad sz)) (ga M) (gs M) 0 0 (ixA N ad sz)) N ad 186 [(0, some (.ref (ad 20))), (1, some (.int (nI i))), (2, some (.int (nI (2 ^ K)))), (7, some (.long (lN B))), (9, some (.long (lN sh))), (11, some (.int (nI j)))] [] (va_up (va_up (va_up ct 20 (obM (nI 0) p g ad)) 24 (LN cJ 512 f24)) 23 (LN cJ 512 (fun k => if k < j then mtr p (2 ^ K) B sh v k else wk k))) := by
      intro f24 hf24 d
      induction d with
      | zero =>
        intro j hd
        have hj : 2 ^ K = j := by omega
        refine g_iload C dX1_turn_186 (k := ?_)
        refine g_iload_n C dX1_turn_188 (k := ?_)
        refine g_icN_ge (tgt := 278) C (by omega) (by omega) dX1_turn_189 (by decide) (fun _ => ?_) (fun h => absurd h (by omega))
        refine g_iconst C (nI 0) dX1_turn_278 (k := ?_)
        refine g_istore C dX1_turn_279 (k := ?_)
        have h9 := loop3 f24 (fun k => if k < j then mtr p (2 ^ K) B sh v k else wk k) (fun k hk => if_pos (by omega)) (2 ^ K) 0 (by omega)
        rw [fr_0, up_id (q := 21) (e := LN cJ 3072 c) (by (repeat rw [va_up_ne _ _ (by decide)]); exact ec)] at h9
        exact g_l2 h9 ⟨Or.inr rfl, Or.inr rfl, Or.inr rfl, Or.inr rfl, Or.inr rfl, Or.inr rfl, trivial⟩
      | succ d ih =>
        intro j hd
        have inner : ∀ (e m : Nat), 2 ^ K = m + e → gW M D vwCl (ixA N ad sz) 16 0 0 (MQ (gb M) (va_Qv (fun ct1 => (¬ ir (nI i) 6 ∧ ct1 = va_up ct 20 (obM (nI 1) p g ad)) ∨ (ir (nI i) 6 ∧ ¬ pw2 (nI (2 ^ K)) ∧ ct1 = va_up ct 20 (obM (nI 2) p g ad)) ∨ (∃ i_1 K_1, i_1 < 6 ∧ K_1 < 10 ∧ nI i = nI i_1 ∧ nI (2 ^ K) = nI (2 ^ K_1) ∧ ∃ f24 f23, ct1 = va_up (va_up (va_up (va_up ct 20 (obM (nI 0) p g ad)) 24 (LN cJ 512 f24)) 23 (LN cJ 512 f23)) 21 (LN cJ 3072 (fr 512 i_1 (2 ^ K_1) (mtr p (2 ^ K_1) (if b = 0 then g ^ ((p - 1) / 2 ^ K_1) % p else (g ^ ((p - 1) / 2 ^ K_1) % p) ^ (p - 2) % p) (if b = 0 then 1 else (2 ^ K_1) ^ (p - 2) % p) (fun k => c (512 * i_1 + k))) c)))) (gB D vwCl tys N ad (ixA N ad sz)) (ixA N ad sz)) (ga M) (gs M) 0 0 (ixA N ad sz)) N ad 201 [(0, some (.ref (ad 20))), (1, some (.int (nI i))), (2, some (.int (nI (2 ^ K)))), (7, some (.long (lN B))), (9, some (.long (lN sh))), (11, some (.int (nI j))), (12, some (.long (lN (dsm p (2 ^ K) B j v m)))), (14, some (.int (nI (m * j % 2 ^ K)))), (15, some (.int (nI m)))] [] (va_up (va_up (va_up ct 20 (obM (nI 0) p g ad)) 24 (LN cJ 512 f24)) 23 (LN cJ 512 (fun k => if k < j then mtr p (2 ^ K) B sh v k else wk k))) := by
          intro e
          induction e with
          | zero =>
            intro m hm
            have hmK : m = 2 ^ K := by omega
            have hdl := dsm_lt (n := 2 ^ K) (b := B) (j := j) (v := v) (show 0 < p by omega) m
            have hmul : dsm p (2 ^ K) B j v m * sh < 2 ^ 62 := Nat.lt_of_lt_of_le (Nat.mul_lt_mul'' (Nat.lt_trans hdl hp2) (Nat.lt_trans hshl hp2)) (by decide)
            refine g_iload C dX1_turn_201 (k := ?_)
            refine g_iload_n C dX1_turn_203 (k := ?_)
            refine g_icN_ge (tgt := 255) C (by omega) (by omega) dX1_turn_204 (by decide) (fun _ => ?_) (fun h => absurd h (by omega))
            refine g_aload_n C dX1_turn_255 (k := ?_)
            refine g_getf (Cn := RX1) (T := TX1) (n := 8) (ref := "WheelProductsModel") C 20 5 h20 (by (repeat rw [va_up_ne _ _ (by decide)]); rw [va_up_self]) rfl (by decide +kernel) (by decide) (by decide +kernel) (fun _ h => h) rfl dX1_turn_256 ?_
            refine g_iload C dX1_turn_259 (k := ?_)
            refine g_lload C dX1_turn_261 (k := ?_)
            refine g_lload C dX1_turn_263 (k := ?_)
            refine gN_lmul C dX1_turn_265 ?_
            refine g_aload_n C dX1_turn_266 (k := ?_)
            refine g_getf (Cn := RX1) (T := TX1) (n := 8) (ref := "WheelProductsModel") C 20 1 h20 (by (repeat rw [va_up_ne _ _ (by decide)]); rw [va_up_self]) rfl (by decide +kernel) (by decide) (by decide +kernel) (fun _ h => h) rfl dX1_turn_267 ?_
            refine gN_lrem C (by omega) (by omega) (by omega) dX1_turn_270 ?_
            refine gN_last C 23 h23 (va_up_self _ _ _) ht (by omega) (by decide) dX1_turn_271 ?_
            have e9 : nu (fun k => if k < j then mtr p (2 ^ K) B sh v k else wk k) j (dsm p (2 ^ K) B j v m * sh % p) = fun k => if k < j + 1 then mtr p (2 ^ K) B sh v k else wk k := by
              funext k
              unfold nu
              by_cases h1 : k = j
              · subst h1; rw [if_pos rfl, if_pos (by omega), hmK]; rfl
              · rw [if_neg h1]
                show (if k < j then mtr p (2 ^ K) B sh v k else wk k) = _
                by_cases h2 : k < j
                · rw [if_pos h2, if_pos (by omega)]
                · rw [if_neg h2, if_neg (by omega)]
            rw [bx_uu, e9]
            refine gN_inc C dX1_turn_272 (k := ?_)
            refine g_goto (tgt := 186) C dX1_turn_275 (k := ?_)
            exact g_l2 (ih (j + 1) (by omega)) ⟨Or.inr rfl, Or.inr rfl, Or.inr rfl, Or.inr rfl, Or.inr rfl, Or.inr rfl, trivial⟩
          | succ e ihe =>
            intro m hm
            have hdl := dsm_lt (n := 2 ^ K) (b := B) (j := j) (v := v) (show 0 < p by omega) m
            have hat : m * j % 2 ^ K < 2 ^ K := Nat.mod_lt _ hpos
            have hpw : B ^ (m * j % 2 ^ K) % p < p := Nat.mod_lt _ (by omega)
            have hvm := hvl m (by omega)
            have hmul : v m * (B ^ (m * j % 2 ^ K) % p) < 2 ^ 62 := Nat.lt_of_lt_of_le (Nat.mul_lt_mul'' (Nat.lt_trans hvm hp2) (Nat.lt_trans hpw hp2)) (by decide)
            refine g_iload C dX1_turn_201 (k := ?_)
            refine g_iload_n C dX1_turn_203 (k := ?_)
            refine g_icN_ge (tgt := 255) C (by omega) (by omega) dX1_turn_204 (by decide) (fun h => absurd h (by omega)) (fun _ => ?_)
            refine g_lload C dX1_turn_207 (k := ?_)
            refine g_aload_n C dX1_turn_209 (k := ?_)
            refine g_getf (Cn := RX1) (T := TX1) (n := 8) (ref := "WheelProductsModel") C 20 3 h20 (by (repeat rw [va_up_ne _ _ (by decide)]); rw [va_up_self]) rfl (by decide +kernel) (by decide) (by decide +kernel) (fun _ h => h) rfl dX1_turn_210 ?_
            refine g_sipush C (nI 512) dX1_turn_213 (k := ?_)
            refine g_iload_n C dX1_turn_216 (k := ?_)
            refine gN_imul C dX1_turn_217 ?_
            refine g_iload C dX1_turn_218 (k := ?_)
            refine gN_iadd C dX1_turn_220 ?_
            refine gN_lald C 21 h21 (by (repeat rw [va_up_ne _ _ (by decide)]); exact ec) ht (by omega) (by decide) dX1_turn_221 ?_
            rw [← hve m]
            refine g_aload_n C dX1_turn_222 (k := ?_)
            refine g_getf (Cn := RX1) (T := TX1) (n := 8) (ref := "WheelProductsModel") C 20 6 h20 (by (repeat rw [va_up_ne _ _ (by decide)]); rw [va_up_self]) rfl (by decide +kernel) (by decide) (by decide +kernel) (fun _ h => h) rfl dX1_turn_223 ?_
            refine g_iload C dX1_turn_226 (k := ?_)
            refine gN_lald C 24 h24 (by rw [va_up_ne _ _ (by decide), va_up_self]) ht (by omega) (by decide) dX1_turn_228 ?_
            rw [hf24 _ hat]
            refine gN_lmul C dX1_turn_229 ?_
            refine gN_ladd C dX1_turn_230 ?_
            refine g_aload_n C dX1_turn_231 (k := ?_)
            refine g_getf (Cn := RX1) (T := TX1) (n := 8) (ref := "WheelProductsModel") C 20 1 h20 (by (repeat rw [va_up_ne _ _ (by decide)]); rw [va_up_self]) rfl (by decide +kernel) (by decide) (by decide +kernel) (fun _ h => h) rfl dX1_turn_232 ?_
            refine gN_lrem C (by omega) (by omega) (by omega) dX1_turn_235 ?_
            refine g_lstore C dX1_turn_236 (k := ?_)
            refine g_iload C dX1_turn_238 (k := ?_)
            refine g_iload C dX1_turn_240 (k := ?_)
            refine gN_iadd C dX1_turn_242 ?_
            refine g_iload_n C dX1_turn_243 (k := ?_)
            refine g_iconst C (nI 1) dX1_turn_244 (k := ?_)
            refine gN_isub C (by omega) dX1_turn_245 ?_
            refine gN_iand C dX1_turn_246 ?_
            rw [Nat.and_two_pow_sub_one_eq_mod, show (m * j % 2 ^ K + j) % 2 ^ K = (m + 1) * j % 2 ^ K by rw [Nat.add_mul, Nat.one_mul, Nat.mod_add_mod]]
            refine g_istore C dX1_turn_247 (k := ?_)
            refine gN_inc C dX1_turn_249 (k := ?_)
            refine g_goto (tgt := 201) C dX1_turn_252 (k := ?_)
            exact g_l2 (ihe (m + 1) (by omega)) ⟨Or.inr rfl, Or.inr rfl, Or.inr rfl, Or.inr rfl, Or.inr rfl, Or.inr rfl, Or.inr rfl, Or.inr rfl, Or.inr rfl, trivial⟩
        refine g_iload C dX1_turn_186 (k := ?_)
        refine g_iload_n C dX1_turn_188 (k := ?_)
        refine g_icN_ge (tgt := 278) C (by omega) (by omega) dX1_turn_189 (by decide) (fun h => absurd h (by omega)) (fun _ => ?_)
        refine g_lconst C (lN 0) dX1_turn_192 (k := ?_)
        refine g_lstore C dX1_turn_193 (k := ?_)
        refine g_iconst C (nI 0) dX1_turn_195 (k := ?_)
        refine g_istore C dX1_turn_196 (k := ?_)
        refine g_iconst C (nI 0) dX1_turn_198 (k := ?_)
        refine g_istore C dX1_turn_199 (k := ?_)
        refine g_l2 (inner (2 ^ K) 0 (by omega)) ⟨Or.inr rfl, Or.inr rfl, Or.inr rfl, Or.inr rfl, Or.inr rfl, Or.inr rfl, Or.inr rfl, Or.inr ?_, Or.inr rfl, trivial⟩
        rw [Nat.zero_mul, Nat.zero_mod]; rfl
    have loop1 : ∀ (d k : Nat), 1 ≤ k → 2 ^ K = k + d → gW M D vwCl (ixA N ad sz) 16 0 0 (MQ (gb M) (va_Qv (fun ct1 => (¬ ir (nI i) 6 ∧ ct1 = va_up ct 20 (obM (nI 1) p g ad)) ∨ (ir (nI i) 6 ∧ ¬ pw2 (nI (2 ^ K)) ∧ ct1 = va_up ct 20 (obM (nI 2) p g ad)) ∨ (∃ i_1 K_1, i_1 < 6 ∧ K_1 < 10 ∧ nI i = nI i_1 ∧ nI (2 ^ K) = nI (2 ^ K_1) ∧ ∃ f24 f23, ct1 = va_up (va_up (va_up (va_up ct 20 (obM (nI 0) p g ad)) 24 (LN cJ 512 f24)) 23 (LN cJ 512 f23)) 21 (LN cJ 3072 (fr 512 i_1 (2 ^ K_1) (mtr p (2 ^ K_1) (if b = 0 then g ^ ((p - 1) / 2 ^ K_1) % p else (g ^ ((p - 1) / 2 ^ K_1) % p) ^ (p - 2) % p) (if b = 0 then 1 else (2 ^ K_1) ^ (p - 2) % p) (fun k => c (512 * i_1 + k))) c)))) (gB D vwCl tys N ad (ixA N ad sz)) (ixA N ad sz)) (ga M) (gs M) 0 0 (ixA N ad sz)) N ad 147 [(0, some (.ref (ad 20))), (1, some (.int (nI i))), (2, some (.int (nI (2 ^ K)))), (7, some (.long (lN B))), (9, some (.long (lN sh))), (11, some (.int (nI k)))] [] (va_up (va_up ct 20 (obM (nI 0) p g ad)) 24 (LN cJ 512 (fun q => if q < k then B ^ q % p else pw q))) := by
      intro d
      induction d with
      | zero =>
        intro k h1 hd
        have hk : 2 ^ K = k := by omega
        refine g_iload C dX1_turn_147 (k := ?_)
        refine g_iload_n C dX1_turn_149 (k := ?_)
        refine g_icN_ge (tgt := 183) C (by omega) (by omega) dX1_turn_150 (by decide) (fun _ => ?_) (fun h => absurd h (by omega))
        refine g_iconst C (nI 0) dX1_turn_183 (k := ?_)
        refine g_istore C dX1_turn_184 (k := ?_)
        have h9 := loop2 (fun q => if q < k then B ^ q % p else pw q) (fun q hq => if_pos (by omega)) (2 ^ K) 0 (by omega)
        have e8 : (fun k => if k < 0 then mtr p (2 ^ K) B sh v k else wk k) = wk := funext fun k => if_neg (by omega)
        rw [e8, up_id (q := 23) (e := LN cJ 512 wk) (by (repeat rw [va_up_ne _ _ (by decide)]); exact ek)] at h9
        exact g_l2 h9 ⟨Or.inr rfl, Or.inr rfl, Or.inr rfl, Or.inr rfl, Or.inr rfl, Or.inr rfl, trivial⟩
      | succ d ih =>
        intro k h1 hd
        have hpk : B ^ (k - 1) % p < p := Nat.mod_lt _ (by omega)
        have hmul : B ^ (k - 1) % p * B < 2 ^ 62 := Nat.lt_of_lt_of_le (Nat.mul_lt_mul'' (Nat.lt_trans hpk hp2) (Nat.lt_trans hbyl hp2)) (by decide)
        refine g_iload C dX1_turn_147 (k := ?_)
        refine g_iload_n C dX1_turn_149 (k := ?_)
        refine g_icN_ge (tgt := 183) C (by omega) (by omega) dX1_turn_150 (by decide) (fun h => absurd h (by omega)) (fun _ => ?_)
        refine g_aload_n C dX1_turn_153 (k := ?_)
        refine g_getf (Cn := RX1) (T := TX1) (n := 8) (ref := "WheelProductsModel") C 20 6 h20 (by (repeat rw [va_up_ne _ _ (by decide)]); rw [va_up_self]) rfl (by decide +kernel) (by decide) (by decide +kernel) (fun _ h => h) rfl dX1_turn_154 ?_
        refine g_iload C dX1_turn_157 (k := ?_)
        refine g_aload_n C dX1_turn_159 (k := ?_)
        refine g_getf (Cn := RX1) (T := TX1) (n := 8) (ref := "WheelProductsModel") C 20 6 h20 (by (repeat rw [va_up_ne _ _ (by decide)]); rw [va_up_self]) rfl (by decide +kernel) (by decide) (by decide +kernel) (fun _ h => h) rfl dX1_turn_160 ?_
        refine g_iload C dX1_turn_163 (k := ?_)
        refine g_iconst C (nI 1) dX1_turn_165 (k := ?_)
        refine gN_isub C h1 dX1_turn_166 ?_
        refine gN_lald C 24 h24 (va_up_self _ _ _) ht (by omega) (by decide) dX1_turn_167 ?_
        rw [if_pos (show k - 1 < k by omega)]
        refine g_lload C dX1_turn_168 (k := ?_)
        refine gN_lmul C dX1_turn_170 ?_
        refine g_aload_n C dX1_turn_171 (k := ?_)
        refine g_getf (Cn := RX1) (T := TX1) (n := 8) (ref := "WheelProductsModel") C 20 1 h20 (by (repeat rw [va_up_ne _ _ (by decide)]); rw [va_up_self]) rfl (by decide +kernel) (by decide) (by decide +kernel) (fun _ h => h) rfl dX1_turn_172 ?_
        refine gN_lrem C (by omega) (by omega) (by omega) dX1_turn_175 ?_
        rw [show B ^ (k - 1) % p * B % p = B ^ k % p by rw [Nat.mod_mul_mod, ← Nat.pow_succ, show (k - 1).succ = k by omega]]
        refine gN_last C 24 h24 (va_up_self _ _ _) ht (by omega) (by decide) dX1_turn_176 ?_
        have e9 : nu (fun q => if q < k then B ^ q % p else pw q) k (B ^ k % p) = fun q => if q < k + 1 then B ^ q % p else pw q := by
          funext q
          unfold nu
          by_cases h1 : q = k
          · subst h1; rw [if_pos rfl, if_pos (by omega)]
          · rw [if_neg h1]
            show (if q < k then B ^ q % p else pw q) = _
            by_cases h2 : q < k
            · rw [if_pos h2, if_pos (by omega)]
            · rw [if_neg h2, if_neg (by omega)]
        rw [bx_uu, e9]
        refine gN_inc C dX1_turn_177 (k := ?_)
        refine g_goto (tgt := 147) C dX1_turn_180 (k := ?_)
        exact g_l2 (ih (k + 1) (by omega) (by omega)) ⟨Or.inr rfl, Or.inr rfl, Or.inr rfl, Or.inr rfl, Or.inr rfl, Or.inr rfl, trivial⟩
    refine g_aload_n C dX1_turn_137 (k := ?_)
    refine g_getf (Cn := RX1) (T := TX1) (n := 8) (ref := "WheelProductsModel") C 20 6 h20 (va_up_self _ _ _) rfl (by decide +kernel) (by decide) (by decide +kernel) (fun _ h => h) rfl dX1_turn_138 ?_
    refine g_iconst C (nI 0) dX1_turn_141 (k := ?_)
    refine g_lconst C (lN 1) dX1_turn_142 (k := ?_)
    refine gN_last C 24 h24 (by rw [va_up_ne _ _ (by decide)]; exact ep) ht (by decide) (by decide) dX1_turn_143 ?_
    have e7 : nu pw 0 1 = fun q => if q < 1 then B ^ q % p else pw q := by
      funext q
      unfold nu
      by_cases h1 : q = 0
      · subst h1; rw [if_pos rfl, if_pos (by decide), Nat.pow_zero, Nat.mod_eq_of_lt (by omega)]
      · rw [if_neg h1, if_neg (by omega)]
    rw [e7]
    refine g_iconst C (nI 1) dX1_turn_144 (k := ?_)
    refine g_istore C dX1_turn_145 (k := ?_)
    exact g_l2 (loop1 (2 ^ K - 1) 1 (by decide) (by omega)) ⟨Or.inr rfl, Or.inr rfl, Or.inr rfl, Or.inr rfl, Or.inr rfl, Or.inr rfl, trivial⟩
  have hmid : ∀ f : Nat, ((f = 1 ∧ pw2 y) ∨ (f = 0 ∧ ¬ pw2 y)) → gW M D vwCl (ixA N ad sz) 16 0 0 (MQ (gb M) (va_Qv (fun ct1 => (¬ ir x 6 ∧ ct1 = va_up ct 20 (obM (nI 1) p g ad)) ∨ (ir x 6 ∧ ¬ pw2 y ∧ ct1 = va_up ct 20 (obM (nI 2) p g ad)) ∨ (∃ i K, i < 6 ∧ K < 10 ∧ x = nI i ∧ y = nI (2 ^ K) ∧ ∃ f24 f23, ct1 = va_up (va_up (va_up (va_up ct 20 (obM (nI 0) p g ad)) 24 (LN cJ 512 f24)) 23 (LN cJ 512 f23)) 21 (LN cJ 3072 (fr 512 i (2 ^ K) (mtr p (2 ^ K) (if b = 0 then g ^ ((p - 1) / 2 ^ K) % p else (g ^ ((p - 1) / 2 ^ K) % p) ^ (p - 2) % p) (if b = 0 then 1 else (2 ^ K) ^ (p - 2) % p) (fun k => c (512 * i + k))) c)))) (gB D vwCl tys N ad (ixA N ad sz)) (ixA N ad sz)) (ga M) (gs M) 0 0 (ixA N ad sz)) N ad 25 (lva 0 [.ref (ad 20), .int x, .int y, .int b]) [.int (nI f)] ct := by
    intro f hf
    refine g_istore C dX1_turn_25 (k := ?_)
    refine g_aload_n C dX1_turn_27 (k := ?_)
    refine g_iload_n C dX1_turn_28 (k := ?_)
    refine g_cSi (n := 1) (av := [.int x]) C (by rw [hlM]; exact m_isRow l x) gX1_turn_X1_isRow rfl ⟨rfl, rfl⟩ (by rw [hRM]; exact ⟨Nat.le_of_ble_eq_true rfl, Nat.le_of_ble_eq_true rfl⟩) (by rw [hRM]; exact ⟨Nat.le_of_ble_eq_true rfl, Nat.le_of_ble_eq_true rfl⟩) (Nat.le_of_ble_eq_true rfl) (by decide +kernel) rfl dX1_turn_29 ?_
    rintro _ ct ⟨hir, rfl⟩
    rcases hir with ⟨rfl, hi⟩ | ⟨rfl, hno⟩
    · refine g_ifN_ne (tgt := 39) C (by decide) dX1_turn_32 (by decide) (fun _ => ?_) (fun h => absurd h (by decide))
      refine g_iload C dX1_turn_39 (k := ?_)
      rcases hf with ⟨rfl, hpw⟩ | ⟨rfl, hpw⟩
      · refine g_ifN_ne (tgt := 48) C (by decide) dX1_turn_41 (by decide) (fun _ => ?_) (fun h => absurd h (by decide))
        refine g_iconst C (nI 0) dX1_turn_48 (k := ?_)
        refine g_putf (Cn := RX1) (T := TX1) (n := 8) (ref := "WheelProductsModel") (ty := .int) C 20 0 h20 e20 rfl (by decide +kernel) tyX1 tyX1_ok nmX1 (by decide) (by decide +kernel) (fun _ h => h) rfl (by decide +kernel) rfl rfl (Nat.le_of_ble_eq_true rfl) dX1_turn_49 ?_
        refine g_ct (ct' := va_up (ct) 20 (obM (nI 0) p g ad)) rfl ?_
        refine g_aload_n C dX1_turn_52 (k := ?_)
        refine g_getf (Cn := RX1) (T := TX1) (n := 8) (ref := "WheelProductsModel") C 20 0 h20 (va_up_self _ _ _) rfl (by decide +kernel) (by decide) (by decide +kernel) (fun _ h => h) rfl dX1_turn_53 ?_
        refine g_ifN_le (tgt := 60) C (by decide) dX1_turn_56 (by decide) (fun _ => ?_) (fun h => absurd h (by decide))
        obtain ⟨i, hi6, hxi⟩ := hi
        obtain ⟨K, hK, hyK⟩ := hpw
        exact g_l2 (hgood i K hi6 hK hxi hyK) ⟨Or.inr rfl, Or.inr rfl, Or.inr rfl, Or.inr rfl, trivial⟩
      · refine g_ifN_ne (tgt := 48) C (by decide) dX1_turn_41 (by decide) (fun h => absurd rfl h) (fun _ => ?_)
        refine g_iconst C (nI 2) dX1_turn_44 (k := ?_)
        refine g_goto (tgt := 49) C dX1_turn_45 (k := ?_)
        refine g_putf (Cn := RX1) (T := TX1) (n := 8) (ref := "WheelProductsModel") (ty := .int) C 20 0 h20 e20 rfl (by decide +kernel) tyX1 tyX1_ok nmX1 (by decide) (by decide +kernel) (fun _ h => h) rfl (by decide +kernel) rfl rfl (Nat.le_of_ble_eq_true rfl) dX1_turn_49 ?_
        refine g_ct (ct' := va_up (ct) 20 (obM (nI 2) p g ad)) rfl ?_
        refine g_aload_n C dX1_turn_52 (k := ?_)
        refine g_getf (Cn := RX1) (T := TX1) (n := 8) (ref := "WheelProductsModel") C 20 0 h20 (va_up_self _ _ _) rfl (by decide +kernel) (by decide) (by decide +kernel) (fun _ h => h) rfl dX1_turn_53 ?_
        refine g_ifN_le (tgt := 60) C (by decide) dX1_turn_56 (by decide) (fun h => absurd h (by decide)) (fun _ => ?_)
        exact g_vret C hr (Or.inr (Or.inl ⟨hi, hpw, rfl⟩)) dX1_turn_59
    · refine g_ifN_ne (tgt := 39) C (by decide) dX1_turn_32 (by decide) (fun h => absurd rfl h) (fun _ => ?_)
      refine g_iconst C (nI 1) dX1_turn_35 (k := ?_)
      refine g_goto (tgt := 49) C dX1_turn_36 (k := ?_)
      refine g_putf (Cn := RX1) (T := TX1) (n := 8) (ref := "WheelProductsModel") (ty := .int) C 20 0 h20 e20 rfl (by decide +kernel) tyX1 tyX1_ok nmX1 (by decide) (by decide +kernel) (fun _ h => h) rfl (by decide +kernel) rfl rfl (Nat.le_of_ble_eq_true rfl) dX1_turn_49 ?_
      refine g_ct (ct' := va_up (ct) 20 (obM (nI 1) p g ad)) rfl ?_
      refine g_aload_n C dX1_turn_52 (k := ?_)
      refine g_getf (Cn := RX1) (T := TX1) (n := 8) (ref := "WheelProductsModel") C 20 0 h20 (va_up_self _ _ _) rfl (by decide +kernel) (by decide) (by decide +kernel) (fun _ h => h) rfl dX1_turn_53 ?_
      refine g_ifN_le (tgt := 60) C (by decide) dX1_turn_56 (by decide) (fun h => absurd h (by decide)) (fun _ => ?_)
      exact g_vret C hr (Or.inl ⟨hno, rfl⟩) dX1_turn_59
  refine g_iload_n C dX1_turn_0 (k := ?_)
  refine g_iconst C (nI 1) dX1_turn_1 (k := ?_)
  by_cases hin : ir y 513
  · obtain ⟨j, hj, rfl⟩ := hin
    by_cases h1 : 1 ≤ j
    · refine g_icN_lt (tgt := 24) C (by omega) (by decide) dX1_turn_2 (by decide) (fun h => absurd h (by omega)) (fun _ => ?_)
      refine g_iload_n C dX1_turn_5 (k := ?_)
      refine g_sipush C (nI 512) dX1_turn_6 (k := ?_)
      refine g_icN_gt (tgt := 24) C (by omega) (by decide) dX1_turn_9 (by decide) (fun h => absurd h (by omega)) (fun _ => ?_)
      refine g_iload_n C dX1_turn_12 (k := ?_)
      refine g_iload_n C dX1_turn_13 (k := ?_)
      refine g_iconst C (nI 1) dX1_turn_14 (k := ?_)
      refine gN_isub C h1 dX1_turn_15 ?_
      refine gN_iand C dX1_turn_16 ?_
      have hand : j &&& (j - 1) < 2 ^ 31 := Nat.lt_of_le_of_lt Nat.and_le_left (by omega)
      by_cases hz : j &&& (j - 1) = 0
      · refine g_ifN_ne (tgt := 24) C hand dX1_turn_17 (by decide) (fun h => absurd hz h) (fun _ => ?_)
        refine g_iconst C (nI 1) dX1_turn_20 (k := ?_)
        refine g_goto (tgt := 25) C dX1_turn_21 (k := ?_)
        exact hmid 1 (Or.inl ⟨rfl, (pw2_nI (by omega)).mpr ((pw2_tab j hj).mp ⟨h1, hz⟩)⟩)
      · have hno : ¬ pw2 (nI j) := fun q => hz ((pw2_tab j hj).mpr ((pw2_nI (by omega)).mp q)).2
        refine g_ifN_ne (tgt := 24) C hand dX1_turn_17 (by decide) (fun _ => ?_) (fun h => absurd h hz)
        refine g_iconst C (nI 0) dX1_turn_24 (k := ?_)
        exact hmid 0 (Or.inr ⟨rfl, hno⟩)
    · have hno : ¬ pw2 (nI j) := fun q => h1 ((pw2_tab j hj).mpr ((pw2_nI (by omega)).mp q)).1
      refine g_icN_lt (tgt := 24) C (by omega) (by decide) dX1_turn_2 (by decide) (fun _ => ?_) (fun h => absurd h (by omega))
      refine g_iconst C (nI 0) dX1_turn_24 (k := ?_)
      exact hmid 0 (Or.inr ⟨rfl, hno⟩)
  · have hno : ¬ pw2 y := fun q => by
      obtain ⟨j, -, hj, hx⟩ := pw2_hi q
      exact hin ⟨j, hj, hx⟩
    refine g_ic_lt (tgt := 24) C dX1_turn_2 (by decide) (fun _ => ?_) (fun h1 => ?_)
    · refine g_iconst C (nI 0) dX1_turn_24 (k := ?_)
      exact hmid 0 (Or.inr ⟨rfl, hno⟩)
    · refine g_iload_n C dX1_turn_5 (k := ?_)
      refine g_sipush C (nI 512) dX1_turn_6 (k := ?_)
      refine g_ic_gt (tgt := 24) C dX1_turn_9 (by decide) (fun _ => ?_) (fun h2 => ?_)
      · refine g_iconst C (nI 0) dX1_turn_24 (k := ?_)
        exact hmid 0 (Or.inr ⟨rfl, hno⟩)
      · exfalso
        rcases pk_ix y (n := 513) (by decide) with h | h | ⟨j, hj, rfl⟩
        · exact h1 (Int32.lt_trans h (by decide))
        · exact h2 (Int32.lt_of_lt_of_le (by decide) h)
        · exact hin ⟨j, hj, rfl⟩
end
