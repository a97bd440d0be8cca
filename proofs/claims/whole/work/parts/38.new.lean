/-! ===== worlds that grow ===== -/
theorem va_AOA.moved {t : FieldType} {u U : State} (hvm : u.vm.Alike U.vm) (h : va_AOA t u) : va_AOA t U := Jvm.Stand.arrayOver_alikeB hvm h
theorem ix_cg {N : Nat} {ad ad' : Nat → Nat} {ct ct' : Nat → va_E} (h1 : ∀ k, k < N → ad k = ad' k) (h2 : ∀ k, k < N → ct k = ct' k) : ix N ad ct = ix N ad' ct' := by
  unfold ix
  apply List.map_congr_left
  intro k hk
  rw [h1 k (List.mem_range.mp hk), h2 k (List.mem_range.mp hk)]
theorem ix_add {N m : Nat} {ad : Nat → Nat} {ct : Nat → va_E} : ix (N + m) ad ct = ix N ad ct ++ (List.range m).map (fun k => (ad (N + k), ct (N + k))) := by
  unfold ix
  rw [List.range_add, List.map_append, List.map_map]
  rfl
theorem ix_app {N : Nat} {ad : Nat → Nat} {ct : Nat → va_E} {q : Nat} {e : va_E} : ix N ad ct ++ [(q, e)] = ix (N + 1) (va_up ad N q) (va_up ct N e) := by
  rw [ix_add]
  congr 1
  · exact ix_cg (fun k hk => (va_up_ne _ _ (by omega)).symm) (fun k hk => (va_up_ne _ _ (by omega)).symm)
  · show [(q, e)] = [(va_up ad N q (N + 0), va_up ct N e (N + 0))]
    rw [Nat.add_zero, va_up_self, va_up_self]
/-- seven more: the outer array, six rows of n -/
def gN7 (cJ cQ : ClassId) (n N : Nat) (ad : Nat → Nat) (ct : Nat → va_E) : Nat → va_E := fun k => if k < N then ct k else if k = N then QA cQ 6 (gRow ad (N + 1)) else LN cJ n (fun _ => 0)
section
variable {M : gM} {cc : ByteArray} {own : String} {Ts : List Cond} {tys : List (ClassId × FieldType)} {D : va_G} {cl : List vw_C} {A : Nat → Prop} {nL cells slots : Nat} {Q : State → Prop} {N : Nat} {ad : Nat → Nat} {pc : Nat} {lv : gLv} {rest : List Value} {ct : Nat → va_E}
theorem g_newl (C : gX M cc own Ts tys D cl A nL) {cJ : ClassId} (ht : tys[0]? = some (cJ, .long)) {n : Nat} (harr : Cond.arrayClass .long ∈ Ts) (hn0 : ¬ nI n < 0) (hnN : (nI n).toNatClampNeg = n) (hby : n * componentBytes .long ≤ 536870912) (hcells : cells + 1 ≤ (gR M).cells) (hslots : slots + n ≤ (gR M).slots) (d : decode cc pc = .ok (.newarray .long, 2))
    (k : ∀ ad' : Nat → Nat, (∀ j, j < N → ad' j = ad j) → gW M D cl A nL (cells + 1) (slots + n) Q (N + 1) ad' (pc + 2) lv (.ref (ad' N) :: rest) (va_up ct N (LN cJ n (fun _ => 0)))) : gW M D cl A nL cells slots Q N ad pc lv (.int (nI n) :: rest) ct := by
  intro H locs ls hP hD hS hl
  refine va_newa (atype := .long) C.1 C.2.1 (C.2.2.2.2.1 _ harr) rfl C.2.2.2.2.2.1 hP hD hS C.2.2.2.2.2.2.1 (a0 := (n, .inr (.inl (fun _ => lN 0)))) (N' := n) (fun cA => rfl) hn0 hnN hby hcells hslots d (fun q cA H1 hK1 hP1 hD1 hS1 => ?_)
  have e : cA = cJ := by
    have h1 : va_RA (gs M) cA .long := (hK1.2 tys.length (cA, .long) (by rw [List.getElem?_append_right (Nat.le_refl _), Nat.sub_self]; rfl)).2
    have h2 : va_RA (gs M) cJ .long := (C.2.2.2.2.2.1.2 0 _ ht).2
    exact Option.some.inj (h1.symm.trans h2)
  subst e
  rw [ix_app] at hP1 hD1
  have := k (va_up ad N q) (fun j hj => va_up_ne _ _ (by omega)) H1 locs ls hP1 hD1 hS1 hl
  rw [va_up_self] at this
  exact this
theorem g_mna (C : gX M cc own Ts tys D cl A nL) {cJ cQ : ClassId} (ht : tys[0]? = some (cJ, .long)) (ht2 : tys[1]? = some (cQ, .array .long)) {n index : Nat} (hlink : Cond.classLink own index "[[J" ∈ Ts) (hov : va_AOA .long (gs M)) (harr : Cond.arrayClass .long ∈ Ts) (hn0 : ¬ nI n < 0) (hnN : (nI n).toNatClampNeg = n) (hby : n * componentBytes .long ≤ 536870912) (hby2 : n ≤ 536870912) (hcells : cells + 7 ≤ (gR M).cells) (hslots : slots + (6 + 6 * n) ≤ (gR M).slots) (d : decode cc pc = .ok (.multianewarray index 2, 4))
    (k : ∀ ad' : Nat → Nat, (∀ j, j < N → ad' j = ad j) → gW M D cl A nL (cells + 1 + 6) (slots + 6 + 6 * n) Q (N + 7) ad' (pc + 4) lv (.ref (ad' N) :: rest) (gN7 cJ cQ n N ad' ct)) : gW M D cl A nL cells slots Q N ad pc lv (.int (nI n) :: .int (nI 6) :: rest) ct := by
  intro H locs ls hP hD hS hl
  have hcy : (gs M).vm.findClass (FieldType.array .long).toString = some cJ := (C.2.2.2.2.2.1.2 0 _ ht).2
  refine va_mna (X := ix N ad ct) (L := []) (f := fun _ => LN cJ n (fun _ => 0)) (ty := .long) (own := own) (index := index) (cy := cJ) C.1 C.2.1 C.2.2.2.1 (C.2.2.2.2.1 _ hlink) hov (C.2.2.2.2.1 _ harr) hcy C.2.2.2.2.2.1 (by show va_P D cl (ix N ad ct ++ []) H; rw [List.append_nil]; exact hP) (by show va_D A (ix N ad ct ++ []); rw [List.append_nil]; exact hD) hS C.2.2.2.2.2.2.1 (N' := 6) (K' := n) (z := (n, .inr (.inl (fun _ => lN 0)))) (by decide) hn0 (by decide) hnN (by decide) hby hby2 rfl rfl hcells hslots (fun c => arrV_new ..) d (fun q r cA H1 hinj hnl hK1 hP1 hD1 hS1 => ?_)
  have e : cA = cQ := by
    have h1 : va_RA (gs M) cA (.array .long) := (hK1.2 tys.length (cA, .array .long) (by rw [List.getElem?_append_right (Nat.le_refl _), Nat.sub_self]; rfl)).2
    have h2 : va_RA (gs M) cQ (.array .long) := (C.2.2.2.2.2.1.2 1 _ ht2).2
    exact Option.some.inj (h1.symm.trans h2)
  subst e
  have ea : ∀ i, (fun j => if j < N then ad j else if j = N then q else r (j - N - 1)) (N + 1 + i) = r i := fun i => by
    show (if N + 1 + i < N then ad (N + 1 + i) else if N + 1 + i = N then q else r (N + 1 + i - N - 1)) = r i
    rw [if_neg (by omega), if_neg (by omega), show N + 1 + i - N - 1 = i by omega]
  have eN : (fun j => if j < N then ad j else if j = N then q else r (j - N - 1)) N = q := by
    show (if N < N then ad N else if N = N then q else r (N - N - 1)) = q
    rw [if_neg (by omega), if_pos rfl]
  have hlow : ∀ j, j < N → (fun j => if j < N then ad j else if j = N then q else r (j - N - 1)) j = ad j := fun j hj => if_pos hj
  generalize (fun j => if j < N then ad j else if j = N then q else r (j - N - 1)) = ad' at ea eN hlow
  have hw : (ix N ad ct ++ [(q, .inl (cA, 6, .inr (.inr (.inr (.inr (fun i => if i < 6 then some (r i) else none))))))]) ++ va_pl ([] ++ (List.range 6).map r) (vr_up (fun _ => LN cJ n (fun _ => 0)) ((List.range 6).map r) (.inl (cJ, n, .inr (.inl (fun _ => lN 0))))) = ix (N + 7) ad' (gN7 cJ cA n N ad' ct) := by
    rw [show N + 7 = N + 1 + 6 by rfl, ix_add (N := N + 1), ix_add (N := N) (m := 1)]
    congr 1
    · congr 1
      · refine ix_cg (fun j hj => (hlow j hj).symm) (fun j hj => ?_)
        unfold gN7
        rw [if_pos hj]
      · show [_] = [(ad' (N + 0), gN7 cJ cA n N ad' ct (N + 0))]
        rw [Nat.add_zero, eN]
        unfold gN7
        rw [if_neg (by omega), if_pos rfl]
        have : (fun i => if i < 6 then some (r i) else none) = gRow ad' (N + 1) := by
          funext i
          show _ = if i < 6 then some (ad' (N + 1 + i)) else none
          rw [ea]
        rw [this]
    · unfold va_pl
      rw [List.nil_append, List.map_map]
      apply List.map_congr_left
      intro i hi
      have h6 := List.mem_range.mp hi
      show (r i, vr_up _ _ _ (r i)) = (ad' (N + 1 + i), gN7 cJ cA n N ad' ct (N + 1 + i))
      rw [ea, vr_up_in (List.mem_map.mpr ⟨i, hi, rfl⟩)]
      unfold gN7
      rw [if_neg (by omega), if_neg (by omega)]
  rw [hw] at hP1 hD1
  have := k ad' hlow H1 locs ls hP1 hD1 hS1 hl
  rw [eN] at this
  exact this
theorem g_putfF (C : gX M cc own Ts tys D cl A nL) {ref Cn : String} {T : u_T} {n ci index : Nat} (q j : Nat) (hq : q < N) {fs : List Value} (he : ct q = .inr (ci, fs)) (hc : cl[ci]? = some (Cn, T, n)) (hin : ∀ w ∈ u_ws Cn T n, w ∈ Ts) (ty0 : Nat → FieldType) (hty : ∀ k, k < n → parseFieldDescriptor (T k).2.2.1 = some (ty0 k)) (hnm : ∀ a, a < n → ∀ b, b < n → a ≠ b → (T a).2.1 ≠ (T b).2.1) (hj : j < n) (hlink : Cond.fieldLink own index ref (T j).2.1 (T j).2.2.1 ∈ Ts) (hsame : ∀ x, (gs M).fieldFound? (T j).1 (T j).2.1 (T j).2.2.1 = some x → (gs M).fieldFound? ref (T j).2.1 (T j).2.2.1 = some x) (hfin : (T j).2.2.2 = true) (hname : (gt M).name = "<init>") (hdecl : (T j).1 = own) {ty : FieldType} {v : Value} (hd : parseFieldDescriptor (T j).2.2.1 = some ty) (hn : narrow ty v = v) (hfit : fits ty v = true) (hl0 : j < fs.length) {a : Nat} (ha : ad q = a) (d : decode cc pc = .ok (.putfield index, 3)) (k : gW M D cl A nL cells slots Q N ad (pc + 3) lv rest (va_up ct q (.inr (ci, fs.set j v)))) : gW M D cl A nL cells slots Q N ad pc lv (v :: .ref a :: rest) ct := by
  subst ha
  intro H locs ls hP hD hS hl
  refine va_putF C.1 C.2.1 C.2.2.2.2.1 hin ty0 hty hnm C.2.2.2.1 C.2.2.2.2.2.1 hP hD hS q (ix_e hq he) hc j hj (C.2.2.2.2.1 _ hlink) hsame hfin hname hdecl hd hn hfit hl0 d (fun H1 locs1 hP1 hD1 hS1 => ?_)
  rw [ix_set] at hP1
  exact k H1 locs1 ls hP1 (ix_D hD) hS1 hl
theorem g_objInit (C : gX M cc own Ts tys D cl A nL) {idx a : Nat} (h1 : Cond.methodLink own idx Lib.objectInit ∈ Ts) (h2 : Cond.instanceMethod Lib.objectInit ∈ Ts) (h3 : Cond.code Lib.objectInit ⟨#[0xb1]⟩ 1 none ∈ Ts) (hf : 1 ≤ (gR M).frames) (hR : (rest.map fun v => v.category).sum + 12 ≤ (gR M).locals) (d : decode cc pc = .ok (.invokespecial idx, 3)) (k : gW M D cl A nL cells slots Q N ad (pc + 3) lv rest ct) : gW M D cl A nL cells slots Q N ad pc lv (.ref a :: rest) ct := by
  intro H locs ls hP hD hS hl
  refine W.objInit C.1 C.2.1 C.2.2.2.1 (C.2.2.2.2.1 _ h1) (C.2.2.2.2.1 _ h2) (C.2.2.2.2.1 _ h3) rfl (hl.1.trans C.2.2.1.symm) rfl d hf (by show 2 * 0 + _ + 12 ≤ _; omega) ?_
  exact W.eq (g2 := F0 (gm M) (pc + 3) ls rest) rfl (k H locs ls hP hD hS hl)
/-- other addresses beyond the world -/
theorem g_ad {ad' : Nat → Nat} {st : List Value} (h : ∀ k, k < N → ad k = ad' k) (k : gW M D cl A nL cells slots Q N ad' pc lv st ct) : gW M D cl A nL cells slots Q N ad pc lv st ct := by
  intro H locs ls hP hD hS hl
  rw [ix_cg (ct' := ct) h (fun _ _ => rfl)] at hP hD
  exact k H locs ls hP hD hS hl
/-- other names beyond the world -/
theorem g_ctN {ct' : Nat → va_E} {st : List Value} (h : ∀ k, k < N → ct k = ct' k) (k : gW M D cl A nL cells slots Q N ad pc lv st ct') : gW M D cl A nL cells slots Q N ad pc lv st ct := by
  intro H locs ls hP hD hS hl
  rw [ix_cg (ad' := ad) (fun _ _ => rfl) h] at hP hD
  exact k H locs ls hP hD hS hl
end
/-! ===== a constructor's contract: the world grows from N to N1 cells ===== -/
abbrev gS : Type := (Nat → Nat) × (Nat → va_E)
def gPI (D : va_G) (cl : List vw_C) (tys : List (ClassId × FieldType)) (N : Nat) (ad : Nat → Nat) (ct : Nat → va_E) (sz : Nat) (U : State) : Prop := gP D cl tys N ad ct sz U ∧ va_AOA .long U
theorem gPI_bl {D : va_G} {cl : List vw_C} {tys : List (ClassId × FieldType)} {N : Nat} {ad : Nat → Nat} {ct : Nat → va_E} {sz : Nat} {av : List Value} : FrameBlind (va_Pc av (gPI D cl tys N ad ct sz)) := fun a U g mk q => by
  obtain ⟨q0, ⟨q1, qP, qK, qD⟩, qA⟩ := q
  have hal : U.vm.Alike (U.calling g mk a).vm := Vm.Alike.refl U.vm
  exact ⟨q0, ⟨q1, qP, va_K.moved (u := U) (U := U.calling g mk a) hal qK, qD⟩, va_AOA.moved (u := U) (U := U.calling g mk a) hal qA⟩
def gI (l : Launch) (y : MethodName) (ws : List Cond) (rm : Room) (mc ms : Nat) (D : va_G) (cl : List vw_C) (tys : List (ClassId × FieldType)) (N N1 : Nat) (ad : Nat → Nat) (av : List Value) (ct : Nat → va_E) (post : gS → Prop) : Prop := ∀ sz, Met l y ws rm (va_Pc av (gPI D cl tys N ad ct sz)) (va_Qv post (fun u t => gB D cl tys N1 u.1 (ixA N ad sz) u.2 t) (ixA N ad sz)) mc ms (ixA N ad sz)
theorem gofI {l : Launch} {y : MethodName} {ws ws' : List Cond} {rm : Room} {mc ms : Nat} {cc : ByteArray} {maxL : Nat} {D : va_G} {cl : List vw_C} {tys : List (ClassId × FieldType)} {N N1 : Nat} {ad : Nat → Nat} {av : List Value} {ct : Nat → va_E} {post : gS → Prop} (hy : plainName y.cls = true) (hyn : y.name = "<init>") (hw : ws = Cond.code y cc maxL none :: ws') (hlen : (lg_sl av).length ≤ maxL)
    (body : ∀ (M : gM) (sz : Nat), gX M cc y.cls ws tys D cl (ixA N ad sz) maxL → gl M = l → gR M = (headSpec ws rm).room → (gt M).sig.returnType = none → (gt M).name = "<init>" → va_AOA .long (gs M) → gW M D cl (ixA N ad sz) maxL 0 0 (MQ (gb M) (va_Qv post (fun u t => gB D cl tys N1 u.1 (ixA N ad sz) u.2 t) (ixA N ad sz)) (ga M) (gs M) mc ms (ixA N ad sz)) N ad 0 (lva 0 av) [] ct) : gI l y ws rm mc ms D cl tys N N1 ad av ct post := by
  intro sz
  refine Met.ofW (cc := cc) (maxL := maxL) (ret := none) hy hw ?_
  intro p e s m args below meth c s₁ B hml hv
  obtain ⟨rfl, ⟨hsz, hP, hK, hD0⟩, hA⟩ := hv
  have hts := atoms_spec (ws := ws) B.pre
  have hown : s.vm.findClass y.cls = some m.cls := findClass_of_methodNamed B.named
  have hnm : meth.name = "<init>" := (name_of_methodNamed B.named B.method).1.trans hyn
  have hl := lv_entry av (n := maxL) hlen
  rw [lg_entry_eq]
  generalize (lg_sl av ++ List.replicate (maxL - (lg_sl av).length) Slot.unset).toArray = ls at hl ⊢
  exact body (p, l, e, (headSpec ws rm).room, s, m, av.toArray, below, meth, c) sz ⟨B.exec, B.bytes, hml, hown, hts, hK, fun q h => Or.inr (by rw [← hsz]; exact h), B.notSynchronized⟩ rfl rfl B.returns hnm hA s.heap [] ls hP (ixA_D hD0) va_S.rf (lva_h hl)
theorem g_iniret {M : gM} {cc : ByteArray} {own : String} {Ts : List Cond} {tys : List (ClassId × FieldType)} {D : va_G} {cl : List vw_C} {A : Nat → Prop} {nL cells slots : Nat} {N1 : Nat} {ad : Nat → Nat} {pc : Nat} {lv : gLv} {ct : Nat → va_E} {post : gS → Prop} (C : gX M cc own Ts tys D cl A nL) (hr : (gt M).sig.returnType = none) (hp : post (ad, ct)) (d : decode cc pc = .ok (.return_, 1)) :
    gW M D cl A nL cells slots (MQ (gb M) (va_Qv post (fun u t => gB D cl tys N1 u.1 A u.2 t) A) (ga M) (gs M) cells slots A) N1 ad pc lv [] ct := by
  intro H locs ls hP hD hS hl
  exact W.vret C.1 C.2.1 hr (fun t ht hW => ⟨⟨(ad, ct), rfl, hp, by show va_P D cl (ix N1 ad ct) t.heap; rw [ht]; exact hP, va_K.moved hW.alike C.2.2.2.2.2.1, hD⟩, hS.F ht⟩) hS.2.2 d (hlocks := C.2.2.2.2.2.2.2)
