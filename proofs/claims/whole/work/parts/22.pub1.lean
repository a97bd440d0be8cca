theorem gofT_v {l : Launch} {y : MethodName} {ws ws' : List Cond} {rm : Room} {mc ms : Nat} {cc : ByteArray} {maxL : Nat} {D : va_G} {cl : List vw_C} {tys : List (ClassId × FieldType)} {N : Nat} {ad : Nat → Nat} {av : List Value} {ct : Nat → va_E} {post : (Nat → va_E) → Prop} {xp : String → (Nat → va_E) → Prop} (hy : plainName y.cls = true) (hw : ws = Cond.code y cc maxL none :: ws') (hlen : (lg_sl av).length ≤ maxL)
    (body : ∀ (M : gM) (sz : Nat), gX M cc y.cls ws tys D cl (ixA N ad sz) maxL → gl M = l → gR M = (headSpec ws rm).room → (gt M).sig.returnType = none → gT (ixA N ad sz) (gs M) (gs M).heap → (∀ x ∈ (gc M).exceptionTable.toList, False) → gW M D cl (ixA N ad sz) maxL 0 0 (vx_MQ (gb M) (va_Qv post (gB D cl tys N ad (ixA N ad sz)) (ixA N ad sz)) (gXC D cl tys N ad (ixA N ad sz) xp) (ga M) (gs M) mc ms (ixA N ad sz)) N ad 0 (lva 0 av) [] ct) : gTv l y ws rm mc ms D cl tys N ad av ct post xp := by
  intro sz
  refine vx_ofW (cc := cc) (maxL := maxL) (ret := none) hy hw ?_
  intro p e s m args below meth c s₁ B hml hE hv
  obtain ⟨rfl, ⟨hsz, hP, hK, hD0⟩, hT⟩ := hv
  have hts := atoms_spec (ws := ws) B.pre
  have hown : s.vm.findClass y.cls = some m.cls := findClass_of_methodNamed B.named
  have hl := lv_entry av (n := maxL) hlen
  rw [lg_entry_eq]
  generalize (lg_sl av ++ List.replicate (maxL - (lg_sl av).length) Slot.unset).toArray = ls at hl ⊢
  exact body (p, l, e, (headSpec ws rm).room, s, m, av.toArray, below, meth, c) sz ⟨B.exec, B.bytes, hml, hown, hts, hK, fun q h => Or.inr (by rw [← hsz]; exact h), B.notSynchronized⟩ rfl rfl B.returns hT hE s.heap [] ls hP (ixA_D hD0) va_S.rf (lva_h hl)
theorem gofT_l {l : Launch} {y : MethodName} {ws ws' : List Cond} {rm : Room} {mc ms : Nat} {cc : ByteArray} {maxL : Nat} {D : va_G} {cl : List vw_C} {tys : List (ClassId × FieldType)} {N : Nat} {ad : Nat → Nat} {av : List Value} {ct : Nat → va_E} {post : Int64 → (Nat → va_E) → Prop} {xp : String → (Nat → va_E) → Prop} (hy : plainName y.cls = true) (hw : ws = Cond.code y cc maxL (some .long) :: ws') (hlen : (lg_sl av).length ≤ maxL)
    (body : ∀ (M : gM) (sz : Nat), gX M cc y.cls ws tys D cl (ixA N ad sz) maxL → gl M = l → gR M = (headSpec ws rm).room → (gt M).sig.returnType = (some .long) → gT (ixA N ad sz) (gs M) (gs M).heap → (∀ x ∈ (gc M).exceptionTable.toList, False) → gW M D cl (ixA N ad sz) maxL 0 0 (vx_MQ (gb M) (va_Ql post (gB D cl tys N ad (ixA N ad sz)) (ixA N ad sz)) (gXC D cl tys N ad (ixA N ad sz) xp) (ga M) (gs M) mc ms (ixA N ad sz)) N ad 0 (lva 0 av) [] ct) : gTl l y ws rm mc ms D cl tys N ad av ct post xp := by
  intro sz
  refine vx_ofW (cc := cc) (maxL := maxL) (ret := (some .long)) hy hw ?_
  intro p e s m args below meth c s₁ B hml hE hv
  obtain ⟨rfl, ⟨hsz, hP, hK, hD0⟩, hT⟩ := hv
  have hts := atoms_spec (ws := ws) B.pre
  have hown : s.vm.findClass y.cls = some m.cls := findClass_of_methodNamed B.named
  have hl := lv_entry av (n := maxL) hlen
  rw [lg_entry_eq]
  generalize (lg_sl av ++ List.replicate (maxL - (lg_sl av).length) Slot.unset).toArray = ls at hl ⊢
  exact body (p, l, e, (headSpec ws rm).room, s, m, av.toArray, below, meth, c) sz ⟨B.exec, B.bytes, hml, hown, hts, hK, fun q h => Or.inr (by rw [← hsz]; exact h), B.notSynchronized⟩ rfl rfl B.returns hT hE s.heap [] ls hP (ixA_D hD0) va_S.rf (lva_h hl)
theorem gofT_i {l : Launch} {y : MethodName} {ws ws' : List Cond} {rm : Room} {mc ms : Nat} {cc : ByteArray} {maxL : Nat} {D : va_G} {cl : List vw_C} {tys : List (ClassId × FieldType)} {N : Nat} {ad : Nat → Nat} {av : List Value} {ct : Nat → va_E} {post : Int32 → (Nat → va_E) → Prop} {xp : String → (Nat → va_E) → Prop} (hy : plainName y.cls = true) (hw : ws = Cond.code y cc maxL (some .int) :: ws') (hlen : (lg_sl av).length ≤ maxL)
    (body : ∀ (M : gM) (sz : Nat), gX M cc y.cls ws tys D cl (ixA N ad sz) maxL → gl M = l → gR M = (headSpec ws rm).room → (gt M).sig.returnType = (some .int) → gT (ixA N ad sz) (gs M) (gs M).heap → (∀ x ∈ (gc M).exceptionTable.toList, False) → gW M D cl (ixA N ad sz) maxL 0 0 (vx_MQ (gb M) (va_Qi post (gB D cl tys N ad (ixA N ad sz)) (ixA N ad sz)) (gXC D cl tys N ad (ixA N ad sz) xp) (ga M) (gs M) mc ms (ixA N ad sz)) N ad 0 (lva 0 av) [] ct) : gTi l y ws rm mc ms D cl tys N ad av ct post xp := by
  intro sz
  refine vx_ofW (cc := cc) (maxL := maxL) (ret := (some .int)) hy hw ?_
  intro p e s m args below meth c s₁ B hml hE hv
  obtain ⟨rfl, ⟨hsz, hP, hK, hD0⟩, hT⟩ := hv
  have hts := atoms_spec (ws := ws) B.pre
  have hown : s.vm.findClass y.cls = some m.cls := findClass_of_methodNamed B.named
  have hl := lv_entry av (n := maxL) hlen
  rw [lg_entry_eq]
  generalize (lg_sl av ++ List.replicate (maxL - (lg_sl av).length) Slot.unset).toArray = ls at hl ⊢
  exact body (p, l, e, (headSpec ws rm).room, s, m, av.toArray, below, meth, c) sz ⟨B.exec, B.bytes, hml, hown, hts, hK, fun q h => Or.inr (by rw [← hsz]; exact h), B.notSynchronized⟩ rfl rfl B.returns hT hE s.heap [] ls hP (ixA_D hD0) va_S.rf (lva_h hl)
theorem gofT_z {l : Launch} {y : MethodName} {ws ws' : List Cond} {rm : Room} {mc ms : Nat} {cc : ByteArray} {maxL : Nat} {D : va_G} {cl : List vw_C} {tys : List (ClassId × FieldType)} {N : Nat} {ad : Nat → Nat} {av : List Value} {ct : Nat → va_E} {post : Int32 → (Nat → va_E) → Prop} {xp : String → (Nat → va_E) → Prop} (hy : plainName y.cls = true) (hw : ws = Cond.code y cc maxL (some .boolean) :: ws') (hlen : (lg_sl av).length ≤ maxL)
    (body : ∀ (M : gM) (sz : Nat), gX M cc y.cls ws tys D cl (ixA N ad sz) maxL → gl M = l → gR M = (headSpec ws rm).room → (gt M).sig.returnType = (some .boolean) → gT (ixA N ad sz) (gs M) (gs M).heap → (∀ x ∈ (gc M).exceptionTable.toList, False) → gW M D cl (ixA N ad sz) maxL 0 0 (vx_MQ (gb M) (va_Qi post (gB D cl tys N ad (ixA N ad sz)) (ixA N ad sz)) (gXC D cl tys N ad (ixA N ad sz) xp) (ga M) (gs M) mc ms (ixA N ad sz)) N ad 0 (lva 0 av) [] ct) : gTi l y ws rm mc ms D cl tys N ad av ct post xp := by
  intro sz
  refine vx_ofW (cc := cc) (maxL := maxL) (ret := (some .boolean)) hy hw ?_
  intro p e s m args below meth c s₁ B hml hE hv
  obtain ⟨rfl, ⟨hsz, hP, hK, hD0⟩, hT⟩ := hv
  have hts := atoms_spec (ws := ws) B.pre
  have hown : s.vm.findClass y.cls = some m.cls := findClass_of_methodNamed B.named
  have hl := lv_entry av (n := maxL) hlen
  rw [lg_entry_eq]
  generalize (lg_sl av ++ List.replicate (maxL - (lg_sl av).length) Slot.unset).toArray = ls at hl ⊢
  exact body (p, l, e, (headSpec ws rm).room, s, m, av.toArray, below, meth, c) sz ⟨B.exec, B.bytes, hml, hown, hts, hK, fun q h => Or.inr (by rw [← hsz]; exact h), B.notSynchronized⟩ rfl rfl B.returns hT hE s.heap [] ls hP (ixA_D hD0) va_S.rf (lva_h hl)
/-- an int below n -/
abbrev ir (x : Int32) (n : Nat) : Prop := ∃ k, k < n ∧ x = nI k
theorem ir_no {x : Int32} {n : Nat} (hn : n < 2 ^ 31) (h : x < 0 ∨ nI n ≤ x) : ¬ ir x n := by
  rintro ⟨k, hk, rfl⟩
  rcases h with h | h
  · exact nI_pos (by omega) h
  · exact nI_ge hk hn h
abbrev rck : Room := { frames := 6, cells := 1, slots := 6, locals := 82 }

set_option maxRecDepth 100000 in
set_option maxHeartbeats 4000000 in
theorem c_checkRow {l : Launch} (hl : l.stackTraces = false) {D : va_G} {tys : List (ClassId × FieldType)} {N : Nat} {ad : Nat → Nat} {ct : Nat → va_E} {cl : List vw_C} (x : Int32) :
    gTv l yX0_checkRow wsX0_checkRow rck 1 6 D cl tys N ad [.int x] ct (fun ct1 => ct1 = ct ∧ ir x 6) (fun E ct1 => E = xIO ∧ ct1 = ct ∧ ¬ ir x 6) := by
  refine gofT_v (cc := cX0_checkRow) (maxL := 1) (by decide) rfl (Nat.le_of_ble_eq_true rfl) ?_
  intro M sz C hlM hRM hr hT hE
  refine g_iload_n C dX0_checkRow_0 (k := ?_)
  rcases pk_ix x (n := 6) (by decide) with h | h | ⟨k, hk, rfl⟩
  · refine g_if_lt (tgt := 10) C dX0_checkRow_1 (by decide) (fun _ => ?_) (fun h2 => absurd h h2)
    exact g_throwS (E := xIO) (text := "no such row") C hT (by rw [hlM]; exact hl) hE rfl (by decide +kernel) (by decide +kernel) (by decide +kernel) (by decide +kernel) (by decide +kernel) (by decide +kernel) (by decide +kernel) dX0_checkRow_10 dX0_checkRow_13 dX0_checkRow_14 dX0_checkRow_16 dX0_checkRow_19 (by rw [hRM]; exact (Nat.le_of_ble_eq_true rfl)) (by rw [hRM]; exact (Nat.le_of_ble_eq_true rfl)) (by rw [hRM]; exact (Nat.le_of_ble_eq_true rfl)) (by rw [hRM]; exact (Nat.le_of_ble_eq_true rfl)) (Nat.le_of_ble_eq_true rfl) (Nat.le_of_ble_eq_true rfl) ⟨rfl, rfl, ir_no (by decide) (Or.inl h)⟩
  · refine g_if_lt (tgt := 10) C dX0_checkRow_1 (by decide) (fun h2 => ?_) (fun _ => ?_)
    · exact g_throwS (E := xIO) (text := "no such row") C hT (by rw [hlM]; exact hl) hE rfl (by decide +kernel) (by decide +kernel) (by decide +kernel) (by decide +kernel) (by decide +kernel) (by decide +kernel) (by decide +kernel) dX0_checkRow_10 dX0_checkRow_13 dX0_checkRow_14 dX0_checkRow_16 dX0_checkRow_19 (by rw [hRM]; exact (Nat.le_of_ble_eq_true rfl)) (by rw [hRM]; exact (Nat.le_of_ble_eq_true rfl)) (by rw [hRM]; exact (Nat.le_of_ble_eq_true rfl)) (by rw [hRM]; exact (Nat.le_of_ble_eq_true rfl)) (Nat.le_of_ble_eq_true rfl) (Nat.le_of_ble_eq_true rfl) ⟨rfl, rfl, ir_no (by decide) (Or.inl h2)⟩
    · refine g_iload_n C dX0_checkRow_4 (k := ?_)
      refine g_bipush C (nI 6) dX0_checkRow_5 (k := ?_)
      refine g_ic_lt (tgt := 20) C dX0_checkRow_7 (by decide) (fun h2 => absurd h2 (by rw [Int32.not_lt]; exact h)) (fun _ => ?_)
      exact g_throwS (E := xIO) (text := "no such row") C hT (by rw [hlM]; exact hl) hE rfl (by decide +kernel) (by decide +kernel) (by decide +kernel) (by decide +kernel) (by decide +kernel) (by decide +kernel) (by decide +kernel) dX0_checkRow_10 dX0_checkRow_13 dX0_checkRow_14 dX0_checkRow_16 dX0_checkRow_19 (by rw [hRM]; exact (Nat.le_of_ble_eq_true rfl)) (by rw [hRM]; exact (Nat.le_of_ble_eq_true rfl)) (by rw [hRM]; exact (Nat.le_of_ble_eq_true rfl)) (by rw [hRM]; exact (Nat.le_of_ble_eq_true rfl)) (Nat.le_of_ble_eq_true rfl) (Nat.le_of_ble_eq_true rfl) ⟨rfl, rfl, ir_no (by decide) (Or.inr h)⟩
  · refine g_ifN_lt (tgt := 10) C (by omega) dX0_checkRow_1 (by decide) (fun h2 => absurd h2 (by omega)) (fun _ => ?_)
    refine g_iload_n C dX0_checkRow_4 (k := ?_)
    refine g_bipush C (nI 6) dX0_checkRow_5 (k := ?_)
    refine g_icN_lt (tgt := 20) C (by omega) (by decide) dX0_checkRow_7 (by decide) (fun _ => ?_) (fun h2 => absurd hk (by omega))
    exact gT_vret C hr (Nat.le_of_ble_eq_true rfl) (Nat.le_of_ble_eq_true rfl) ⟨rfl, k, hk, rfl⟩ dX0_checkRow_20
set_option maxRecDepth 100000 in
set_option maxHeartbeats 4000000 in
theorem c_checkCoefficient {l : Launch} (hl : l.stackTraces = false) {D : va_G} {tys : List (ClassId × FieldType)} {N : Nat} {ad : Nat → Nat} {ct : Nat → va_E} {cl : List vw_C} (x : Int32) :
    gTv l yX0_checkCoefficient wsX0_checkCoefficient rck 1 6 D cl tys N ad [.int x] ct (fun ct1 => ct1 = ct ∧ ir x 512) (fun E ct1 => E = xIO ∧ ct1 = ct ∧ ¬ ir x 512) := by
  refine gofT_v (cc := cX0_checkCoefficient) (maxL := 1) (by decide) rfl (Nat.le_of_ble_eq_true rfl) ?_
  intro M sz C hlM hRM hr hT hE
  refine g_iload_n C dX0_checkCoefficient_0 (k := ?_)
  rcases pk_ix x (n := 512) (by decide) with h | h | ⟨k, hk, rfl⟩
  · refine g_if_lt (tgt := 11) C dX0_checkCoefficient_1 (by decide) (fun _ => ?_) (fun h2 => absurd h h2)
    exact g_throwS (E := xIO) (text := "no such coefficient") C hT (by rw [hlM]; exact hl) hE rfl (by decide +kernel) (by decide +kernel) (by decide +kernel) (by decide +kernel) (by decide +kernel) (by decide +kernel) (by decide +kernel) dX0_checkCoefficient_11 dX0_checkCoefficient_14 dX0_checkCoefficient_15 dX0_checkCoefficient_17 dX0_checkCoefficient_20 (by rw [hRM]; exact (Nat.le_of_ble_eq_true rfl)) (by rw [hRM]; exact (Nat.le_of_ble_eq_true rfl)) (by rw [hRM]; exact (Nat.le_of_ble_eq_true rfl)) (by rw [hRM]; exact (Nat.le_of_ble_eq_true rfl)) (Nat.le_of_ble_eq_true rfl) (Nat.le_of_ble_eq_true rfl) ⟨rfl, rfl, ir_no (by decide) (Or.inl h)⟩
  · refine g_if_lt (tgt := 11) C dX0_checkCoefficient_1 (by decide) (fun h2 => ?_) (fun _ => ?_)
    · exact g_throwS (E := xIO) (text := "no such coefficient") C hT (by rw [hlM]; exact hl) hE rfl (by decide +kernel) (by decide +kernel) (by decide +kernel) (by decide +kernel) (by decide +kernel) (by decide +kernel) (by decide +kernel) dX0_checkCoefficient_11 dX0_checkCoefficient_14 dX0_checkCoefficient_15 dX0_checkCoefficient_17 dX0_checkCoefficient_20 (by rw [hRM]; exact (Nat.le_of_ble_eq_true rfl)) (by rw [hRM]; exact (Nat.le_of_ble_eq_true rfl)) (by rw [hRM]; exact (Nat.le_of_ble_eq_true rfl)) (by rw [hRM]; exact (Nat.le_of_ble_eq_true rfl)) (Nat.le_of_ble_eq_true rfl) (Nat.le_of_ble_eq_true rfl) ⟨rfl, rfl, ir_no (by decide) (Or.inl h2)⟩
    · refine g_iload_n C dX0_checkCoefficient_4 (k := ?_)
      refine g_sipush C (nI 512) dX0_checkCoefficient_5 (k := ?_)
      refine g_ic_lt (tgt := 21) C dX0_checkCoefficient_8 (by decide) (fun h2 => absurd h2 (by rw [Int32.not_lt]; exact h)) (fun _ => ?_)
      exact g_throwS (E := xIO) (text := "no such coefficient") C hT (by rw [hlM]; exact hl) hE rfl (by decide +kernel) (by decide +kernel) (by decide +kernel) (by decide +kernel) (by decide +kernel) (by decide +kernel) (by decide +kernel) dX0_checkCoefficient_11 dX0_checkCoefficient_14 dX0_checkCoefficient_15 dX0_checkCoefficient_17 dX0_checkCoefficient_20 (by rw [hRM]; exact (Nat.le_of_ble_eq_true rfl)) (by rw [hRM]; exact (Nat.le_of_ble_eq_true rfl)) (by rw [hRM]; exact (Nat.le_of_ble_eq_true rfl)) (by rw [hRM]; exact (Nat.le_of_ble_eq_true rfl)) (Nat.le_of_ble_eq_true rfl) (Nat.le_of_ble_eq_true rfl) ⟨rfl, rfl, ir_no (by decide) (Or.inr h)⟩
  · refine g_ifN_lt (tgt := 11) C (by omega) dX0_checkCoefficient_1 (by decide) (fun h2 => absurd h2 (by omega)) (fun _ => ?_)
    refine g_iload_n C dX0_checkCoefficient_4 (k := ?_)
    refine g_sipush C (nI 512) dX0_checkCoefficient_5 (k := ?_)
    refine g_icN_lt (tgt := 21) C (by omega) (by decide) dX0_checkCoefficient_8 (by decide) (fun _ => ?_) (fun h2 => absurd hk (by omega))
    exact gT_vret C hr (Nat.le_of_ble_eq_true rfl) (Nat.le_of_ble_eq_true rfl) ⟨rfl, k, hk, rfl⟩ dX0_checkCoefficient_21
set_option maxRecDepth 100000 in
set_option maxHeartbeats 4000000 in
theorem c_checkNatural {l : Launch} (hl : l.stackTraces = false) {D : va_G} {tys : List (ClassId × FieldType)} {N : Nat} {ad : Nat → Nat} {ct : Nat → va_E} {cl : List vw_C} (x : Int32) :
    gTv l yX0_checkNatural wsX0_checkNatural rck 1 6 D cl tys N ad [.int x] ct (fun ct1 => ct1 = ct ∧ ir x 6) (fun E ct1 => E = xIO ∧ ct1 = ct ∧ ¬ ir x 6) := by
  refine gofT_v (cc := cX0_checkNatural) (maxL := 1) (by decide) rfl (Nat.le_of_ble_eq_true rfl) ?_
  intro M sz C hlM hRM hr hT hE
  refine g_iload_n C dX0_checkNatural_0 (k := ?_)
  rcases pk_ix x (n := 6) (by decide) with h | h | ⟨k, hk, rfl⟩
  · refine g_if_lt (tgt := 10) C dX0_checkNatural_1 (by decide) (fun _ => ?_) (fun h2 => absurd h h2)
    exact g_throwS (E := xIO) (text := "no such natural") C hT (by rw [hlM]; exact hl) hE rfl (by decide +kernel) (by decide +kernel) (by decide +kernel) (by decide +kernel) (by decide +kernel) (by decide +kernel) (by decide +kernel) dX0_checkNatural_10 dX0_checkNatural_13 dX0_checkNatural_14 dX0_checkNatural_16 dX0_checkNatural_19 (by rw [hRM]; exact (Nat.le_of_ble_eq_true rfl)) (by rw [hRM]; exact (Nat.le_of_ble_eq_true rfl)) (by rw [hRM]; exact (Nat.le_of_ble_eq_true rfl)) (by rw [hRM]; exact (Nat.le_of_ble_eq_true rfl)) (Nat.le_of_ble_eq_true rfl) (Nat.le_of_ble_eq_true rfl) ⟨rfl, rfl, ir_no (by decide) (Or.inl h)⟩
  · refine g_if_lt (tgt := 10) C dX0_checkNatural_1 (by decide) (fun h2 => ?_) (fun _ => ?_)
    · exact g_throwS (E := xIO) (text := "no such natural") C hT (by rw [hlM]; exact hl) hE rfl (by decide +kernel) (by decide +kernel) (by decide +kernel) (by decide +kernel) (by decide +kernel) (by decide +kernel) (by decide +kernel) dX0_checkNatural_10 dX0_checkNatural_13 dX0_checkNatural_14 dX0_checkNatural_16 dX0_checkNatural_19 (by rw [hRM]; exact (Nat.le_of_ble_eq_true rfl)) (by rw [hRM]; exact (Nat.le_of_ble_eq_true rfl)) (by rw [hRM]; exact (Nat.le_of_ble_eq_true rfl)) (by rw [hRM]; exact (Nat.le_of_ble_eq_true rfl)) (Nat.le_of_ble_eq_true rfl) (Nat.le_of_ble_eq_true rfl) ⟨rfl, rfl, ir_no (by decide) (Or.inl h2)⟩
    · refine g_iload_n C dX0_checkNatural_4 (k := ?_)
      refine g_bipush C (nI 6) dX0_checkNatural_5 (k := ?_)
      refine g_ic_lt (tgt := 20) C dX0_checkNatural_7 (by decide) (fun h2 => absurd h2 (by rw [Int32.not_lt]; exact h)) (fun _ => ?_)
      exact g_throwS (E := xIO) (text := "no such natural") C hT (by rw [hlM]; exact hl) hE rfl (by decide +kernel) (by decide +kernel) (by decide +kernel) (by decide +kernel) (by decide +kernel) (by decide +kernel) (by decide +kernel) dX0_checkNatural_10 dX0_checkNatural_13 dX0_checkNatural_14 dX0_checkNatural_16 dX0_checkNatural_19 (by rw [hRM]; exact (Nat.le_of_ble_eq_true rfl)) (by rw [hRM]; exact (Nat.le_of_ble_eq_true rfl)) (by rw [hRM]; exact (Nat.le_of_ble_eq_true rfl)) (by rw [hRM]; exact (Nat.le_of_ble_eq_true rfl)) (Nat.le_of_ble_eq_true rfl) (Nat.le_of_ble_eq_true rfl) ⟨rfl, rfl, ir_no (by decide) (Or.inr h)⟩
  · refine g_ifN_lt (tgt := 10) C (by omega) dX0_checkNatural_1 (by decide) (fun h2 => absurd h2 (by omega)) (fun _ => ?_)
    refine g_iload_n C dX0_checkNatural_4 (k := ?_)
    refine g_bipush C (nI 6) dX0_checkNatural_5 (k := ?_)
    refine g_icN_lt (tgt := 20) C (by omega) (by decide) dX0_checkNatural_7 (by decide) (fun _ => ?_) (fun h2 => absurd hk (by omega))
    exact gT_vret C hr (Nat.le_of_ble_eq_true rfl) (Nat.le_of_ble_eq_true rfl) ⟨rfl, k, hk, rfl⟩ dX0_checkNatural_20
set_option maxRecDepth 100000 in
set_option maxHeartbeats 4000000 in
theorem c_checkWord {l : Launch} (hl : l.stackTraces = false) {D : va_G} {tys : List (ClassId × FieldType)} {N : Nat} {ad : Nat → Nat} {ct : Nat → va_E} {cl : List vw_C} (x : Int32) :
    gTv l yX0_checkWord wsX0_checkWord rck 1 6 D cl tys N ad [.int x] ct (fun ct1 => ct1 = ct ∧ ir x 240) (fun E ct1 => E = xIO ∧ ct1 = ct ∧ ¬ ir x 240) := by
  refine gofT_v (cc := cX0_checkWord) (maxL := 1) (by decide) rfl (Nat.le_of_ble_eq_true rfl) ?_
  intro M sz C hlM hRM hr hT hE
  refine g_iload_n C dX0_checkWord_0 (k := ?_)
  rcases pk_ix x (n := 240) (by decide) with h | h | ⟨k, hk, rfl⟩
  · refine g_if_lt (tgt := 11) C dX0_checkWord_1 (by decide) (fun _ => ?_) (fun h2 => absurd h h2)
    exact g_throwS (E := xIO) (text := "no such word") C hT (by rw [hlM]; exact hl) hE rfl (by decide +kernel) (by decide +kernel) (by decide +kernel) (by decide +kernel) (by decide +kernel) (by decide +kernel) (by decide +kernel) dX0_checkWord_11 dX0_checkWord_14 dX0_checkWord_15 dX0_checkWord_17 dX0_checkWord_20 (by rw [hRM]; exact (Nat.le_of_ble_eq_true rfl)) (by rw [hRM]; exact (Nat.le_of_ble_eq_true rfl)) (by rw [hRM]; exact (Nat.le_of_ble_eq_true rfl)) (by rw [hRM]; exact (Nat.le_of_ble_eq_true rfl)) (Nat.le_of_ble_eq_true rfl) (Nat.le_of_ble_eq_true rfl) ⟨rfl, rfl, ir_no (by decide) (Or.inl h)⟩
  · refine g_if_lt (tgt := 11) C dX0_checkWord_1 (by decide) (fun h2 => ?_) (fun _ => ?_)
    · exact g_throwS (E := xIO) (text := "no such word") C hT (by rw [hlM]; exact hl) hE rfl (by decide +kernel) (by decide +kernel) (by decide +kernel) (by decide +kernel) (by decide +kernel) (by decide +kernel) (by decide +kernel) dX0_checkWord_11 dX0_checkWord_14 dX0_checkWord_15 dX0_checkWord_17 dX0_checkWord_20 (by rw [hRM]; exact (Nat.le_of_ble_eq_true rfl)) (by rw [hRM]; exact (Nat.le_of_ble_eq_true rfl)) (by rw [hRM]; exact (Nat.le_of_ble_eq_true rfl)) (by rw [hRM]; exact (Nat.le_of_ble_eq_true rfl)) (Nat.le_of_ble_eq_true rfl) (Nat.le_of_ble_eq_true rfl) ⟨rfl, rfl, ir_no (by decide) (Or.inl h2)⟩
    · refine g_iload_n C dX0_checkWord_4 (k := ?_)
      refine g_sipush C (nI 240) dX0_checkWord_5 (k := ?_)
      refine g_ic_lt (tgt := 21) C dX0_checkWord_8 (by decide) (fun h2 => absurd h2 (by rw [Int32.not_lt]; exact h)) (fun _ => ?_)
      exact g_throwS (E := xIO) (text := "no such word") C hT (by rw [hlM]; exact hl) hE rfl (by decide +kernel) (by decide +kernel) (by decide +kernel) (by decide +kernel) (by decide +kernel) (by decide +kernel) (by decide +kernel) dX0_checkWord_11 dX0_checkWord_14 dX0_checkWord_15 dX0_checkWord_17 dX0_checkWord_20 (by rw [hRM]; exact (Nat.le_of_ble_eq_true rfl)) (by rw [hRM]; exact (Nat.le_of_ble_eq_true rfl)) (by rw [hRM]; exact (Nat.le_of_ble_eq_true rfl)) (by rw [hRM]; exact (Nat.le_of_ble_eq_true rfl)) (Nat.le_of_ble_eq_true rfl) (Nat.le_of_ble_eq_true rfl) ⟨rfl, rfl, ir_no (by decide) (Or.inr h)⟩
  · refine g_ifN_lt (tgt := 11) C (by omega) dX0_checkWord_1 (by decide) (fun h2 => absurd h2 (by omega)) (fun _ => ?_)
    refine g_iload_n C dX0_checkWord_4 (k := ?_)
    refine g_sipush C (nI 240) dX0_checkWord_5 (k := ?_)
    refine g_icN_lt (tgt := 21) C (by omega) (by decide) dX0_checkWord_8 (by decide) (fun _ => ?_) (fun h2 => absurd hk (by omega))
    exact gT_vret C hr (Nat.le_of_ble_eq_true rfl) (Nat.le_of_ble_eq_true rfl) ⟨rfl, k, hk, rfl⟩ dX0_checkWord_21
/-! ===== the object's state ===== -/
abbrev gRow (ad : Nat → Nat) (b : Nat) : Nat → Option Nat := fun i => if i < 6 then some (ad (b + i)) else none
def stX (cJ cQ : ClassId) (ad : Nat → Nat) (p : Nat) (wn : Nat → Nat) (Mr Nw : Nat → Nat → Nat) (ct : Nat → va_E) : Prop :=
  ct 0 = obX p ad ∧ ct 1 = LN cJ 512 wn ∧ ct 2 = QA cQ 6 (gRow ad 3) ∧ (∀ i, i < 6 → ct (3 + i) = LN cJ 512 (Mr i)) ∧ ct 9 = QA cQ 6 (gRow ad 10) ∧ (∀ i, i < 6 → ct (10 + i) = LN cJ 240 (Nw i)) ∧ (∃ f, ct 16 = LN cJ 9 f) ∧ (∃ f, ct 17 = LN cJ 512 f) ∧ (∃ f, ct 18 = LN cJ 512 f) ∧ ∃ f, ct 19 = LN cJ 240 f
def nvX (p : Nat) (wn : Nat → Nat) (Mr Nw : Nat → Nat → Nat) : Prop :=
  512 < p ∧ p < 2 ^ 31 ∧ (∀ k, k < 512 → wn k < p) ∧ (∀ i k, i < 6 → k < 512 → Mr i k < p) ∧ ∀ i k, i < 6 → Nw i k < 2 ^ 32

abbrev rg_get : Room := { frames := 7, cells := 2, slots := 12, locals := 104 }
set_option maxRecDepth 100000 in
set_option maxHeartbeats 4000000 in
theorem c_get {l : Launch} (hl : l.stackTraces = false) {D : va_G} {tys : List (ClassId × FieldType)} {N : Nat} {ad : Nat → Nat} {ct : Nat → va_E} (hN : 20 ≤ N) {cJ cQ : ClassId} {p : Nat} {wn : Nat → Nat} {Mr Nw : Nat → Nat → Nat} (S : stX cJ cQ ad p wn Mr Nw ct) (ht : tys[0]? = some (cJ, .long)) (ht2 : tys[1]? = some (cQ, .array .long)) (hv : nvX p wn Mr Nw) (x y : Int32) :
    gTl l yX0_get wsX0_get rg_get 2 12 D vwCl tys N ad [.ref (ad 0), .int x, .int y] ct (fun r ct1 => ct1 = ct ∧ ∃ i k, i < 6 ∧ k < 512 ∧ x = nI i ∧ y = nI k ∧ r = lN (Mr i k)) (fun E ct1 => E = xIO ∧ ct1 = ct ∧ ¬ (ir x 6 ∧ ir y 512)) := by
  refine gofT_l (cc := cX0_get) (maxL := 3) (by decide) rfl (Nat.le_of_ble_eq_true rfl) ?_
  intro M sz C hlM hRM hr hT hE
  have h0 : 0 < N := by omega
  refine g_iload_n C dX0_get_0 (k := ?_)
  refine gT_cSv (rmy := rck) (n := 1) (av := [.int x]) C hT hE (by rw [hlM]; exact c_checkRow hl x) gX0_get_X0_checkRow rfl ⟨rfl, rfl⟩ (by rw [hRM]; exact ⟨Nat.le_of_ble_eq_true rfl, Nat.le_of_ble_eq_true rfl⟩) (by rw [hRM]; exact ⟨Nat.le_of_ble_eq_true rfl, Nat.le_of_ble_eq_true rfl⟩) (Nat.le_of_ble_eq_true rfl) (by decide +kernel) rfl dX0_get_1 (Nat.le_of_ble_eq_true rfl) (Nat.le_of_ble_eq_true rfl) (by intro E c q; exact ⟨q.1, q.2.1, fun z => q.2.2 z.1⟩) ?_
  rintro _ ⟨rfl, i, hi, rfl⟩
  refine g_iload_n C dX0_get_4 (k := ?_)
  refine gT_cSv (rmy := rck) (n := 1) (av := [.int y]) C hT hE (by rw [hlM]; exact c_checkCoefficient hl y) gX0_get_X0_checkCoefficient rfl ⟨rfl, rfl⟩ (by rw [hRM]; exact ⟨Nat.le_of_ble_eq_true rfl, Nat.le_of_ble_eq_true rfl⟩) (by rw [hRM]; exact ⟨Nat.le_of_ble_eq_true rfl, Nat.le_of_ble_eq_true rfl⟩) (Nat.le_of_ble_eq_true rfl) (by decide +kernel) rfl dX0_get_5 (Nat.le_of_ble_eq_true rfl) (Nat.le_of_ble_eq_true rfl) (by intro E c q; exact ⟨q.1, q.2.1, fun z => q.2.2 z.2⟩) ?_
  rintro _ ⟨rfl, k, hk, rfl⟩
  refine g_aload_n C dX0_get_8 (k := ?_)
  refine g_getf (Cn := RX0) (T := TX0) (n := 8) (ref := "WheelProducts") C 0 2 h0 S.1 rfl (by decide +kernel) (by decide) (by decide +kernel) (fun _ h => h) rfl dX0_get_9 ?_
  refine g_iload_n C dX0_get_12 (k := ?_)
  refine g_aald C 2 1 (by omega) S.2.2.1 ht2 rfl hi (by decide) (if_pos hi) dX0_get_13 ?_
  refine g_iload_n C dX0_get_14 (k := ?_)
  refine gN_lald C (3 + i) (by omega) (S.2.2.2.1 i hi) ht hk (by decide) dX0_get_15 ?_
  exact gT_lret C hr (Nat.le_of_ble_eq_true rfl) (Nat.le_of_ble_eq_true rfl) ⟨rfl, i, k, hi, hk, rfl, rfl, rfl⟩ dX0_get_16
abbrev rg_wordAt : Room := { frames := 7, cells := 2, slots := 12, locals := 104 }
set_option maxRecDepth 100000 in
set_option maxHeartbeats 4000000 in
theorem c_wordAt {l : Launch} (hl : l.stackTraces = false) {D : va_G} {tys : List (ClassId × FieldType)} {N : Nat} {ad : Nat → Nat} {ct : Nat → va_E} (hN : 20 ≤ N) {cJ cQ : ClassId} {p : Nat} {wn : Nat → Nat} {Mr Nw : Nat → Nat → Nat} (S : stX cJ cQ ad p wn Mr Nw ct) (ht : tys[0]? = some (cJ, .long)) (ht2 : tys[1]? = some (cQ, .array .long)) (hv : nvX p wn Mr Nw) (x y : Int32) :
    gTl l yX0_wordAt wsX0_wordAt rg_wordAt 2 12 D vwCl tys N ad [.ref (ad 0), .int x, .int y] ct (fun r ct1 => ct1 = ct ∧ ∃ i k, i < 6 ∧ k < 240 ∧ x = nI i ∧ y = nI k ∧ r = lN (Nw i k)) (fun E ct1 => E = xIO ∧ ct1 = ct ∧ ¬ (ir x 6 ∧ ir y 240)) := by
  refine gofT_l (cc := cX0_wordAt) (maxL := 3) (by decide) rfl (Nat.le_of_ble_eq_true rfl) ?_
  intro M sz C hlM hRM hr hT hE
  have h0 : 0 < N := by omega
  refine g_iload_n C dX0_wordAt_0 (k := ?_)
  refine gT_cSv (rmy := rck) (n := 1) (av := [.int x]) C hT hE (by rw [hlM]; exact c_checkNatural hl x) gX0_wordAt_X0_checkNatural rfl ⟨rfl, rfl⟩ (by rw [hRM]; exact ⟨Nat.le_of_ble_eq_true rfl, Nat.le_of_ble_eq_true rfl⟩) (by rw [hRM]; exact ⟨Nat.le_of_ble_eq_true rfl, Nat.le_of_ble_eq_true rfl⟩) (Nat.le_of_ble_eq_true rfl) (by decide +kernel) rfl dX0_wordAt_1 (Nat.le_of_ble_eq_true rfl) (Nat.le_of_ble_eq_true rfl) (by intro E c q; exact ⟨q.1, q.2.1, fun z => q.2.2 z.1⟩) ?_
  rintro _ ⟨rfl, i, hi, rfl⟩
  refine g_iload_n C dX0_wordAt_4 (k := ?_)
  refine gT_cSv (rmy := rck) (n := 1) (av := [.int y]) C hT hE (by rw [hlM]; exact c_checkWord hl y) gX0_wordAt_X0_checkWord rfl ⟨rfl, rfl⟩ (by rw [hRM]; exact ⟨Nat.le_of_ble_eq_true rfl, Nat.le_of_ble_eq_true rfl⟩) (by rw [hRM]; exact ⟨Nat.le_of_ble_eq_true rfl, Nat.le_of_ble_eq_true rfl⟩) (Nat.le_of_ble_eq_true rfl) (by decide +kernel) rfl dX0_wordAt_5 (Nat.le_of_ble_eq_true rfl) (Nat.le_of_ble_eq_true rfl) (by intro E c q; exact ⟨q.1, q.2.1, fun z => q.2.2 z.2⟩) ?_
  rintro _ ⟨rfl, k, hk, rfl⟩
  refine g_aload_n C dX0_wordAt_8 (k := ?_)
  refine g_getf (Cn := RX0) (T := TX0) (n := 8) (ref := "WheelProducts") C 0 3 h0 S.1 rfl (by decide +kernel) (by decide) (by decide +kernel) (fun _ h => h) rfl dX0_wordAt_9 ?_
  refine g_iload_n C dX0_wordAt_12 (k := ?_)
  refine g_aald C 9 1 (by omega) S.2.2.2.2.1 ht2 rfl hi (by decide) (if_pos hi) dX0_wordAt_13 ?_
  refine g_iload_n C dX0_wordAt_14 (k := ?_)
  refine gN_lald C (10 + i) (by omega) (S.2.2.2.2.2.1 i hi) ht hk (by decide) dX0_wordAt_15 ?_
  exact gT_lret C hr (Nat.le_of_ble_eq_true rfl) (Nat.le_of_ble_eq_true rfl) ⟨rfl, i, k, hi, hk, rfl, rfl, rfl⟩ dX0_wordAt_16
abbrev rg_length : Room := { frames := 7, cells := 1, slots := 6, locals := 104 }
set_option maxRecDepth 100000 in
set_option maxHeartbeats 4000000 in
theorem c_length {l : Launch} (hl : l.stackTraces = false) {D : va_G} {tys : List (ClassId × FieldType)} {N : Nat} {ad : Nat → Nat} {ct : Nat → va_E} (hN : 20 ≤ N) {cJ cQ : ClassId} {p : Nat} {wn : Nat → Nat} {Mr Nw : Nat → Nat → Nat} (S : stX cJ cQ ad p wn Mr Nw ct) (ht : tys[0]? = some (cJ, .long)) (ht2 : tys[1]? = some (cQ, .array .long)) (hv : nvX p wn Mr Nw) (x : Int32) :
    gTi l yX0_length wsX0_length rg_length 1 6 D vwCl tys N ad [.ref (ad 0), .int x] ct (fun r ct1 => ct1 = ct ∧ ∃ i, i < 6 ∧ x = nI i ∧ r = nI (up1 (Mr i) 512)) (fun E ct1 => E = xIO ∧ ct1 = ct ∧ ¬ ir x 6) := by
  refine gofT_i (cc := cX0_length) (maxL := 2) (by decide) rfl (Nat.le_of_ble_eq_true rfl) ?_
  intro M sz C hlM hRM hr hT hE
  have h0 : 0 < N := by omega
  have hp2 := hv.2.1
  refine g_iload_n C dX0_length_0 (k := ?_)
  refine gT_cSv (rmy := rck) (n := 1) (av := [.int x]) C hT hE (by rw [hlM]; exact c_checkRow hl x) gX0_length_X0_checkRow rfl ⟨rfl, rfl⟩ (by rw [hRM]; exact ⟨Nat.le_of_ble_eq_true rfl, Nat.le_of_ble_eq_true rfl⟩) (by rw [hRM]; exact ⟨Nat.le_of_ble_eq_true rfl, Nat.le_of_ble_eq_true rfl⟩) (Nat.le_of_ble_eq_true rfl) (by decide +kernel) rfl dX0_length_1 (Nat.le_of_ble_eq_true rfl) (Nat.le_of_ble_eq_true rfl) (by intro E c q; exact ⟨q.1, q.2.1, fun z => q.2.2 z⟩) ?_
  rintro _ ⟨rfl, i, hi, rfl⟩
  refine g_aload_n C dX0_length_4 (k := ?_)
  refine g_getf (Cn := RX0) (T := TX0) (n := 8) (ref := "WheelProducts") C 0 2 h0 S.1 rfl (by decide +kernel) (by decide) (by decide +kernel) (fun _ h => h) rfl dX0_length_5 ?_
  refine g_iload_n C dX0_length_8 (k := ?_)
  refine g_aald C 2 1 (by omega) S.2.2.1 ht2 rfl hi (by decide) (if_pos hi) dX0_length_9 ?_
  refine g_cSi (n := 1) (av := [.ref (ad (3 + i))]) C (by rw [hlM]; exact c_usedPart l (by omega) (S.2.2.2.1 i hi) ht (by decide) (fun k hk => Nat.lt_trans (hv.2.2.2.1 i k hi hk) (by omega))) gX0_length_X0_usedPart rfl ⟨rfl, rfl⟩ (by rw [hRM]; exact ⟨Nat.le_of_ble_eq_true rfl, Nat.le_of_ble_eq_true rfl⟩) (by rw [hRM]; exact ⟨Nat.le_of_ble_eq_true rfl, Nat.le_of_ble_eq_true rfl⟩) (Nat.le_of_ble_eq_true rfl) (by decide +kernel) rfl dX0_length_10 ?_
  rintro _ _ ⟨rfl, rfl⟩
  exact gT_iret C hr (Nat.le_of_ble_eq_true rfl) (Nat.le_of_ble_eq_true rfl) ⟨rfl, i, hi, rfl, rfl⟩ dX0_length_13
abbrev rg_size : Room := { frames := 7, cells := 1, slots := 6, locals := 104 }
set_option maxRecDepth 100000 in
set_option maxHeartbeats 4000000 in
theorem c_size {l : Launch} (hl : l.stackTraces = false) {D : va_G} {tys : List (ClassId × FieldType)} {N : Nat} {ad : Nat → Nat} {ct : Nat → va_E} (hN : 20 ≤ N) {cJ cQ : ClassId} {p : Nat} {wn : Nat → Nat} {Mr Nw : Nat → Nat → Nat} (S : stX cJ cQ ad p wn Mr Nw ct) (ht : tys[0]? = some (cJ, .long)) (ht2 : tys[1]? = some (cQ, .array .long)) (hv : nvX p wn Mr Nw) (x : Int32) :
    gTi l yX0_size wsX0_size rg_size 1 6 D vwCl tys N ad [.ref (ad 0), .int x] ct (fun r ct1 => ct1 = ct ∧ ∃ i, i < 6 ∧ x = nI i ∧ r = nI (up1 (Nw i) 240)) (fun E ct1 => E = xIO ∧ ct1 = ct ∧ ¬ ir x 6) := by
  refine gofT_i (cc := cX0_size) (maxL := 2) (by decide) rfl (Nat.le_of_ble_eq_true rfl) ?_
  intro M sz C hlM hRM hr hT hE
  have h0 : 0 < N := by omega
  have hp2 := hv.2.1
  refine g_iload_n C dX0_size_0 (k := ?_)
  refine gT_cSv (rmy := rck) (n := 1) (av := [.int x]) C hT hE (by rw [hlM]; exact c_checkNatural hl x) gX0_size_X0_checkNatural rfl ⟨rfl, rfl⟩ (by rw [hRM]; exact ⟨Nat.le_of_ble_eq_true rfl, Nat.le_of_ble_eq_true rfl⟩) (by rw [hRM]; exact ⟨Nat.le_of_ble_eq_true rfl, Nat.le_of_ble_eq_true rfl⟩) (Nat.le_of_ble_eq_true rfl) (by decide +kernel) rfl dX0_size_1 (Nat.le_of_ble_eq_true rfl) (Nat.le_of_ble_eq_true rfl) (by intro E c q; exact ⟨q.1, q.2.1, fun z => q.2.2 z⟩) ?_
  rintro _ ⟨rfl, i, hi, rfl⟩
  refine g_aload_n C dX0_size_4 (k := ?_)
  refine g_getf (Cn := RX0) (T := TX0) (n := 8) (ref := "WheelProducts") C 0 3 h0 S.1 rfl (by decide +kernel) (by decide) (by decide +kernel) (fun _ h => h) rfl dX0_size_5 ?_
  refine g_iload_n C dX0_size_8 (k := ?_)
  refine g_aald C 9 1 (by omega) S.2.2.2.2.1 ht2 rfl hi (by decide) (if_pos hi) dX0_size_9 ?_
  refine g_cSi (n := 1) (av := [.ref (ad (10 + i))]) C (by rw [hlM]; exact c_usedPart l (by omega) (S.2.2.2.2.2.1 i hi) ht (by decide) (fun k _ => Nat.lt_trans (hv.2.2.2.2 i k hi) (by decide))) gX0_size_X0_usedPart rfl ⟨rfl, rfl⟩ (by rw [hRM]; exact ⟨Nat.le_of_ble_eq_true rfl, Nat.le_of_ble_eq_true rfl⟩) (by rw [hRM]; exact ⟨Nat.le_of_ble_eq_true rfl, Nat.le_of_ble_eq_true rfl⟩) (Nat.le_of_ble_eq_true rfl) (by decide +kernel) rfl dX0_size_10 ?_
  rintro _ _ ⟨rfl, rfl⟩
  exact gT_iret C hr (Nat.le_of_ble_eq_true rfl) (Nat.le_of_ble_eq_true rfl) ⟨rfl, i, hi, rfl, rfl⟩ dX0_size_13
theorem k_maskX (x : Int64) : ∃ n, n < 2 ^ 32 ∧ x &&& lN 4294967295 = lN n ∧ n = x.toBitVec.toNat % 4294967296 := by
  have e : x = lN x.toBitVec.toNat := by
    apply Int64.toBitVec_inj.1
    show x.toBitVec = BitVec.ofNat 64 x.toBitVec.toNat
    simp
  refine ⟨x.toBitVec.toNat % 4294967296, Nat.mod_lt _ (by decide), ?_, rfl⟩
  rw [← k_mask, ← e]
def mk32 (x : Int64) : Nat := x.toBitVec.toNat % 4294967296

abbrev rg_put : Room := { frames := 7, cells := 2, slots := 12, locals := 104 }
set_option maxRecDepth 100000 in
set_option maxHeartbeats 4000000 in
theorem c_put {l : Launch} (hl : l.stackTraces = false) {D : va_G} {tys : List (ClassId × FieldType)} {N : Nat} {ad : Nat → Nat} {ct : Nat → va_E} (hN : 20 ≤ N) {cJ cQ : ClassId} {p : Nat} {wn : Nat → Nat} {Mr Nw : Nat → Nat → Nat} (S : stX cJ cQ ad p wn Mr Nw ct) (ht : tys[0]? = some (cJ, .long)) (ht2 : tys[1]? = some (cQ, .array .long)) (hv : nvX p wn Mr Nw) (x y : Int32) (z : Int64) :
    gTi l yX0_put wsX0_put rg_put 2 12 D vwCl tys N ad [.ref (ad 0), .int x, .int y, .long z] ct (fun r ct1 => ∃ i k, i < 6 ∧ k < 512 ∧ x = nI i ∧ y = nI k ∧ r = nI (if Mr i k = fm p z then 0 else 1) ∧ ct1 = va_up ct (3 + i) (LN cJ 512 (nu (Mr i) k (fm p z)))) (fun E ct1 => E = xIO ∧ ct1 = ct ∧ ¬ (ir x 6 ∧ ir y 512)) := by
  refine gofT_z (cc := cX0_put) (maxL := 9) (by decide) rfl (Nat.le_of_ble_eq_true rfl) ?_
  intro M sz C hlM hRM hr hT hE
  have h0 : 0 < N := by omega
  have hp1 := hv.1
  have hp2 := hv.2.1
  refine g_iload_n C dX0_put_0 (k := ?_)
  refine gT_cSv (rmy := rck) (n := 1) (av := [.int x]) C hT hE (by rw [hlM]; exact c_checkRow hl x) gX0_put_X0_checkRow rfl ⟨rfl, rfl⟩ (by rw [hRM]; exact ⟨Nat.le_of_ble_eq_true rfl, Nat.le_of_ble_eq_true rfl⟩) (by rw [hRM]; exact ⟨Nat.le_of_ble_eq_true rfl, Nat.le_of_ble_eq_true rfl⟩) (Nat.le_of_ble_eq_true rfl) (by decide +kernel) rfl dX0_put_1 (Nat.le_of_ble_eq_true rfl) (Nat.le_of_ble_eq_true rfl) (by intro E c q; exact ⟨q.1, q.2.1, fun z => q.2.2 z.1⟩) ?_
  rintro _ ⟨rfl, i, hi, rfl⟩
  refine g_iload_n C dX0_put_4 (k := ?_)
  refine gT_cSv (rmy := rck) (n := 1) (av := [.int y]) C hT hE (by rw [hlM]; exact c_checkCoefficient hl y) gX0_put_X0_checkCoefficient rfl ⟨rfl, rfl⟩ (by rw [hRM]; exact ⟨Nat.le_of_ble_eq_true rfl, Nat.le_of_ble_eq_true rfl⟩) (by rw [hRM]; exact ⟨Nat.le_of_ble_eq_true rfl, Nat.le_of_ble_eq_true rfl⟩) (Nat.le_of_ble_eq_true rfl) (by decide +kernel) rfl dX0_put_5 (Nat.le_of_ble_eq_true rfl) (Nat.le_of_ble_eq_true rfl) (by intro E c q; exact ⟨q.1, q.2.1, fun z => q.2.2 z.2⟩) ?_
  rintro _ ⟨rfl, k, hk, rfl⟩
  refine g_aload_n C dX0_put_8 (k := ?_)
  refine g_getf (Cn := RX0) (T := TX0) (n := 8) (ref := "WheelProducts") C 0 2 h0 S.1 rfl (by decide +kernel) (by decide) (by decide +kernel) (fun _ h => h) rfl dX0_put_9 ?_
  refine g_iload_n C dX0_put_12 (k := ?_)
  refine g_aald C 2 1 (by omega) S.2.2.1 ht2 rfl hi (by decide) (if_pos hi) dX0_put_13 ?_
  refine g_iload_n C dX0_put_14 (k := ?_)
  refine gN_lald C (3 + i) (by omega) (S.2.2.2.1 i hi) ht hk (by decide) dX0_put_15 ?_
  refine g_lstore C dX0_put_16 (k := ?_)
  refine g_aload_n C dX0_put_18 (k := ?_)
  refine g_lload_n C dX0_put_19 (k := ?_)
  refine g_cVl (n := 1) (av := [.long z]) C 0 h0 S.1 rfl (by rw [hlM]; exact c_rest l hN S.1 z (by omega) hp2) gX0_put_X0_rest rfl ⟨rfl, rfl⟩ (by rw [hRM]; exact ⟨Nat.le_of_ble_eq_true rfl, Nat.le_of_ble_eq_true rfl⟩) (by rw [hRM]; exact ⟨Nat.le_of_ble_eq_true rfl, Nat.le_of_ble_eq_true rfl⟩) (Nat.le_of_ble_eq_true rfl) (by decide +kernel) rfl dX0_put_20 ?_
  rintro _ _ ⟨rfl, rfl⟩
  refine g_lstore C dX0_put_23 (k := ?_)
  refine g_aload_n C dX0_put_25 (k := ?_)
  refine g_getf (Cn := RX0) (T := TX0) (n := 8) (ref := "WheelProducts") C 0 2 h0 S.1 rfl (by decide +kernel) (by decide) (by decide +kernel) (fun _ h => h) rfl dX0_put_26 ?_
  refine g_iload_n C dX0_put_29 (k := ?_)
  refine g_aald C 2 1 (by omega) S.2.2.1 ht2 rfl hi (by decide) (if_pos hi) dX0_put_30 ?_
  refine g_iload_n C dX0_put_31 (k := ?_)
  refine g_lload C dX0_put_32 (k := ?_)
  refine gN_last C (3 + i) (by omega) (S.2.2.2.1 i hi) ht hk (by decide) dX0_put_34 ?_
  refine g_lload C dX0_put_35 (k := ?_)
  refine g_lload C dX0_put_37 (k := ?_)
  by_cases hz : Mr i k = fm p z
  · refine g_lcN_eq (tgt := 47) C (Nat.lt_trans (hv.2.2.2.1 i k hi hk) (by omega)) (Nat.lt_trans (fm_lt (by omega) z) (by omega)) dX0_put_39 dX0_put_40 (by decide) (fun _ => ?_) (fun h => absurd hz h)
    refine g_iconst C (nI 0) dX0_put_47 (k := ?_)
    exact gT_zret C hr (by decide) (Nat.le_of_ble_eq_true rfl) (Nat.le_of_ble_eq_true rfl) ⟨i, k, hi, hk, rfl, rfl, by rw [if_pos hz], rfl⟩ dX0_put_48
  · refine g_lcN_eq (tgt := 47) C (Nat.lt_trans (hv.2.2.2.1 i k hi hk) (by omega)) (Nat.lt_trans (fm_lt (by omega) z) (by omega)) dX0_put_39 dX0_put_40 (by decide) (fun h => absurd h hz) (fun _ => ?_)
    refine g_iconst C (nI 1) dX0_put_43 (k := ?_)
    refine g_goto (tgt := 48) C dX0_put_44 (k := ?_)
    exact gT_zret C hr (by decide) (Nat.le_of_ble_eq_true rfl) (Nat.le_of_ble_eq_true rfl) ⟨i, k, hi, hk, rfl, rfl, by rw [if_neg hz], rfl⟩ dX0_put_48
abbrev rg_word : Room := { frames := 7, cells := 2, slots := 12, locals := 104 }
set_option maxRecDepth 100000 in
set_option maxHeartbeats 4000000 in
theorem c_word {l : Launch} (hl : l.stackTraces = false) {D : va_G} {tys : List (ClassId × FieldType)} {N : Nat} {ad : Nat → Nat} {ct : Nat → va_E} (hN : 20 ≤ N) {cJ cQ : ClassId} {p : Nat} {wn : Nat → Nat} {Mr Nw : Nat → Nat → Nat} (S : stX cJ cQ ad p wn Mr Nw ct) (ht : tys[0]? = some (cJ, .long)) (ht2 : tys[1]? = some (cQ, .array .long)) (hv : nvX p wn Mr Nw) (x y : Int32) (z : Int64) :
    gTi l yX0_word wsX0_word rg_word 2 12 D vwCl tys N ad [.ref (ad 0), .int x, .int y, .long z] ct (fun r ct1 => ∃ i k, i < 6 ∧ k < 240 ∧ x = nI i ∧ y = nI k ∧ r = nI (if Nw i k = mk32 z then 0 else 1) ∧ ct1 = va_up ct (10 + i) (LN cJ 240 (nu (Nw i) k (mk32 z)))) (fun E ct1 => E = xIO ∧ ct1 = ct ∧ ¬ (ir x 6 ∧ ir y 240)) := by
  refine gofT_z (cc := cX0_word) (maxL := 9) (by decide) rfl (Nat.le_of_ble_eq_true rfl) ?_
  intro M sz C hlM hRM hr hT hE
  have h0 : 0 < N := by omega
  have hp1 := hv.1
  have hp2 := hv.2.1
  refine g_iload_n C dX0_word_0 (k := ?_)
  refine gT_cSv (rmy := rck) (n := 1) (av := [.int x]) C hT hE (by rw [hlM]; exact c_checkNatural hl x) gX0_word_X0_checkNatural rfl ⟨rfl, rfl⟩ (by rw [hRM]; exact ⟨Nat.le_of_ble_eq_true rfl, Nat.le_of_ble_eq_true rfl⟩) (by rw [hRM]; exact ⟨Nat.le_of_ble_eq_true rfl, Nat.le_of_ble_eq_true rfl⟩) (Nat.le_of_ble_eq_true rfl) (by decide +kernel) rfl dX0_word_1 (Nat.le_of_ble_eq_true rfl) (Nat.le_of_ble_eq_true rfl) (by intro E c q; exact ⟨q.1, q.2.1, fun z => q.2.2 z.1⟩) ?_
  rintro _ ⟨rfl, i, hi, rfl⟩
  refine g_iload_n C dX0_word_4 (k := ?_)
  refine gT_cSv (rmy := rck) (n := 1) (av := [.int y]) C hT hE (by rw [hlM]; exact c_checkWord hl y) gX0_word_X0_checkWord rfl ⟨rfl, rfl⟩ (by rw [hRM]; exact ⟨Nat.le_of_ble_eq_true rfl, Nat.le_of_ble_eq_true rfl⟩) (by rw [hRM]; exact ⟨Nat.le_of_ble_eq_true rfl, Nat.le_of_ble_eq_true rfl⟩) (Nat.le_of_ble_eq_true rfl) (by decide +kernel) rfl dX0_word_5 (Nat.le_of_ble_eq_true rfl) (Nat.le_of_ble_eq_true rfl) (by intro E c q; exact ⟨q.1, q.2.1, fun z => q.2.2 z.2⟩) ?_
  rintro _ ⟨rfl, k, hk, rfl⟩
  refine g_aload_n C dX0_word_8 (k := ?_)
  refine g_getf (Cn := RX0) (T := TX0) (n := 8) (ref := "WheelProducts") C 0 3 h0 S.1 rfl (by decide +kernel) (by decide) (by decide +kernel) (fun _ h => h) rfl dX0_word_9 ?_
  refine g_iload_n C dX0_word_12 (k := ?_)
  refine g_aald C 9 1 (by omega) S.2.2.2.2.1 ht2 rfl hi (by decide) (if_pos hi) dX0_word_13 ?_
  refine g_iload_n C dX0_word_14 (k := ?_)
  refine gN_lald C (10 + i) (by omega) (S.2.2.2.2.2.1 i hi) ht hk (by decide) dX0_word_15 ?_
  refine g_lstore C dX0_word_16 (k := ?_)
  refine g_lload_n C dX0_word_18 (k := ?_)
  refine g_ldc2 (v := 4294967295) C (by decide +kernel) dX0_word_19 ?_
  refine g_tl (lN 4294967295) rfl ?_
  refine g_land C dX0_word_22 ?_
  obtain ⟨zn, hz1, hz2, hz3⟩ := k_maskX z
  refine g_tl _ hz2 ?_
  rw [show zn = mk32 z from hz3]
  rw [show zn = mk32 z from hz3] at hz1
  refine g_lstore C dX0_word_23 (k := ?_)
  refine g_aload_n C dX0_word_25 (k := ?_)
  refine g_getf (Cn := RX0) (T := TX0) (n := 8) (ref := "WheelProducts") C 0 3 h0 S.1 rfl (by decide +kernel) (by decide) (by decide +kernel) (fun _ h => h) rfl dX0_word_26 ?_
  refine g_iload_n C dX0_word_29 (k := ?_)
  refine g_aald C 9 1 (by omega) S.2.2.2.2.1 ht2 rfl hi (by decide) (if_pos hi) dX0_word_30 ?_
  refine g_iload_n C dX0_word_31 (k := ?_)
  refine g_lload C dX0_word_32 (k := ?_)
  refine gN_last C (10 + i) (by omega) (S.2.2.2.2.2.1 i hi) ht hk (by decide) dX0_word_34 ?_
  refine g_lload C dX0_word_35 (k := ?_)
  refine g_lload C dX0_word_37 (k := ?_)
  by_cases hz : Nw i k = mk32 z
  · refine g_lcN_eq (tgt := 47) C (Nat.lt_trans (hv.2.2.2.2 i k hi) (by decide)) (Nat.lt_trans hz1 (by decide)) dX0_word_39 dX0_word_40 (by decide) (fun _ => ?_) (fun h => absurd hz h)
    refine g_iconst C (nI 0) dX0_word_47 (k := ?_)
    exact gT_zret C hr (by decide) (Nat.le_of_ble_eq_true rfl) (Nat.le_of_ble_eq_true rfl) ⟨i, k, hi, hk, rfl, rfl, by rw [if_pos hz], rfl⟩ dX0_word_48
  · refine g_lcN_eq (tgt := 47) C (Nat.lt_trans (hv.2.2.2.2 i k hi) (by decide)) (Nat.lt_trans hz1 (by decide)) dX0_word_39 dX0_word_40 (by decide) (fun h => absurd h hz) (fun _ => ?_)
    refine g_iconst C (nI 1) dX0_word_43 (k := ?_)
    refine g_goto (tgt := 48) C dX0_word_44 (k := ?_)
    exact gT_zret C hr (by decide) (Nat.le_of_ble_eq_true rfl) (Nat.le_of_ble_eq_true rfl) ⟨i, k, hi, hk, rfl, rfl, by rw [if_neg hz], rfl⟩ dX0_word_48
