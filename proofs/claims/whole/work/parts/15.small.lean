/-! ===== an array's content counts below its length alone ===== -/
theorem LA_ext {cJ : ClassId} {n : Nat} {f g : Nat → Int64} (h : ∀ k, k < n → f k = g k) : vp_cell cJ (n, .inr (.inl f)) = vp_cell cJ (n, .inr (.inl g)) := by
  show arrV cJ n (fun j => .long (f j)) = arrV cJ n (fun j => .long (g j))
  unfold arrV
  have : (fun j : Fin n => Value.long (f j.val)) = (fun j : Fin n => Value.long (g j.val)) := funext fun j => by rw [h j.val j.isLt]
  rw [this]
theorem g_ext {M : gM} {D : va_G} {cl : List vw_C} {A : Nat → Prop} {nL cells slots : Nat} {Q : State → Prop} {N : Nat} {ad : Nat → Nat} {pc : Nat} {lv : gLv} {st : List Value} {ct : Nat → va_E} (q : Nat) {cJ : ClassId} {n : Nat} {f g : Nat → Int64} (he : ct q = LA cJ n f) (h : ∀ k, k < n → f k = g k) (k : gW M D cl A nL cells slots Q N ad pc lv st (va_up ct q (LA cJ n g))) : gW M D cl A nL cells slots Q N ad pc lv st ct := by
  intro H locs ls hP hD hS hl
  refine k H locs ls (fun i x hx => ?_) (ix_D hD) hS hl
  have hi := ix_lt hx
  rw [ix_at hi] at hx
  cases hx
  by_cases e : i = q
  · subst e
    rw [va_up_self]
    have h1 : H[ad i]? = some (vp_cell cJ (n, .inr (.inl f))) := hP i _ (ix_e hi he)
    show H[ad i]? = some (vp_cell cJ (n, .inr (.inl g)))
    rw [← LA_ext h]; exact h1
  · rw [va_up_ne _ _ e]
    exact hP i _ (ix_at hi)
theorem up_id {ct : Nat → va_E} {q : Nat} {e : va_E} (h : ct q = e) : va_up ct q e = ct := by
  funext k
  by_cases hk : k = q
  · subst hk; rw [va_up_self, h]
  · rw [va_up_ne _ _ hk]

set_option maxRecDepth 100000 in
set_option maxHeartbeats 4000000 in
theorem c_fill (l : Launch) {D : va_G} {tys : List (ClassId × FieldType)} {N : Nat} {ad : Nat → Nat} {ct : Nat → va_E} {cl : List vw_C} {q : Nat} (hq : q < N) {cJ : ClassId} {n x : Nat} {v : Nat → Nat} (he : ct q = LN cJ n v) (ht : tys[0]? = some (cJ, .long)) (hn : n < 2 ^ 31) :
    gMv l yJ7_fill_d0a16 wsJ7_fill_d0a16 rz D cl tys N ad [.ref (ad q), .long (lN x)] ct (fun ct1 => ct1 = va_up ct q (LN cJ n (fun _ => x))) := by
  refine gof_v (cc := cJ7_fill_d0a16) (maxL := 5) (by decide) rfl (Nat.le_of_ble_eq_true rfl) ?_
  intro M sz C hlM hRM hr hsz
  have loop : ∀ (d i : Nat), n = i + d → gW M D cl (ixA N ad sz) 5 0 0 (MQ (gb M) (va_Qv (fun ct1 => ct1 = va_up ct q (LN cJ n (fun _ => x))) (gB D cl tys N ad (ixA N ad sz)) (ixA N ad sz)) (ga M) (gs M) 0 0 (ixA N ad sz)) N ad 6 [(0, some (.ref (ad q))), (1, some (.long (lN x))), (3, some (.int (nI i))), (4, some (.int (nI n)))] [] (va_up ct q (LN cJ n (fun k => if k < i then x else v k))) := by
    intro d
    induction d with
    | zero =>
      intro i hd
      refine g_iload_n C dJ7_fill_d0a16_6 (k := ?_)
      refine g_iload C dJ7_fill_d0a16_7 (k := ?_)
      refine g_icN_ge (tgt := 22) C (by omega) hn dJ7_fill_d0a16_9 (by decide) (fun _ => ?_) (fun h => absurd h (by omega))
      refine g_ext q (va_up_self _ _ _) (g := fun k => lN ((fun _ => x) k)) (fun k hk => by show lN (if k < i then x else v k) = lN x; rw [if_pos (by omega)]) ?_
      refine g_vret C hr ?_ dJ7_fill_d0a16_22
      rw [bx_uu]
    | succ d ih =>
      intro i hd
      refine g_iload_n C dJ7_fill_d0a16_6 (k := ?_)
      refine g_iload C dJ7_fill_d0a16_7 (k := ?_)
      refine g_icN_ge (tgt := 22) C (by omega) hn dJ7_fill_d0a16_9 (by decide) (fun h => absurd h (by omega)) (fun _ => ?_)
      refine g_aload_n C dJ7_fill_d0a16_12 (k := ?_)
      refine g_iload_n C dJ7_fill_d0a16_13 (k := ?_)
      refine g_lload_n C dJ7_fill_d0a16_14 (k := ?_)
      refine gN_last C q hq (va_up_self _ _ _) ht (by omega) hn dJ7_fill_d0a16_15 ?_
      refine gN_inc C dJ7_fill_d0a16_16 (k := ?_)
      refine g_goto (tgt := 6) C dJ7_fill_d0a16_19 (k := ?_)
      have e : nu (fun k => if k < i then x else v k) i x = fun k => if k < i + 1 then x else v k := by
        funext k
        unfold nu
        by_cases h1 : k = i
        · rw [if_pos h1, if_pos (by omega)]
        · rw [if_neg h1]
          show (if k < i then x else v k) = _
          by_cases h2 : k < i
          · rw [if_pos h2, if_pos (by omega)]
          · rw [if_neg h2, if_neg (by omega)]
      rw [bx_uu, e]
      exact g_l2 (ih (i + 1) (by omega)) ⟨Or.inr rfl, Or.inr rfl, Or.inr rfl, Or.inr rfl, trivial⟩
  refine g_iconst C (nI 0) dJ7_fill_d0a16_0 (k := ?_)
  refine g_istore_n C dJ7_fill_d0a16_1 (k := ?_)
  refine g_aload_n C dJ7_fill_d0a16_2 (k := ?_)
  refine g_alen C q 0 hq he ht dJ7_fill_d0a16_3 ?_
  refine g_istore C dJ7_fill_d0a16_4 (k := ?_)
  refine g_ct (ct' := va_up ct q (LN cJ n (fun k => if k < 0 then x else v k))) ?_ ?_
  · have : (fun k => if k < 0 then x else v k) = v := funext fun k => if_neg (by omega)
    rw [this, up_id he]
  · exact g_l2 (loop n 0 (by omega)) ⟨Or.inr rfl, Or.inr rfl, Or.inr rfl, Or.inr rfl, trivial⟩
theorem gofF_l {l : Launch} {y : MethodName} {ws ws' : List Cond} {rm : Room} {cc : ByteArray} {maxL : Nat} {D : va_G} {cl : List vw_C} {tys : List (ClassId × FieldType)} {N : Nat} {ad : Nat → Nat} {av : List Value} {ct : Nat → va_E} {post : Int64 → (Nat → va_E) → Prop} (hy : plainFor y = true) (hw : ws = Cond.code y cc maxL (some .long) :: ws') (hlen : (lg_sl av).length ≤ maxL)
    (body : ∀ (M : gM) (sz : Nat), gX M cc y.cls ws tys D cl (ixA N ad sz) maxL → gl M = l → gR M = (headSpec ws rm).room → (gt M).sig.returnType = (some .long) → (gs M).heap.size = sz → gW M D cl (ixA N ad sz) maxL 0 0 (MQ (gb M) (va_Ql post (gB D cl tys N ad (ixA N ad sz)) (ixA N ad sz)) (ga M) (gs M) 0 0 (ixA N ad sz)) N ad 0 (lva 0 av) [] ct) : gMl l y ws rm D cl tys N ad av ct post := by
  intro sz
  refine va_MetF (cc := cc) (maxL := maxL) (ret := (some .long)) hy hw ?_
  intro p e s m args below meth c s₁ B hml hv
  obtain ⟨rfl, hsz, hP, hK, hD0⟩ := hv
  have hts := atoms_spec (ws := ws) B.pre
  have hown : s.vm.findClass y.cls = some m.cls := findClass_of_methodNamed B.named
  have hl := lv_entry av (n := maxL) hlen
  rw [lg_entry_eq]
  generalize (lg_sl av ++ List.replicate (maxL - (lg_sl av).length) Slot.unset).toArray = ls at hl ⊢
  exact body (p, l, e, (headSpec ws rm).room, s, m, av.toArray, below, meth, c) sz ⟨B.exec, B.bytes, hml, hown, hts, hK, fun q h => Or.inr (by rw [← hsz]; exact h), B.notSynchronized⟩ rfl rfl B.returns hsz s.heap [] ls hP (ixA_D hD0) va_S.rf (lva_h hl)

/-- the rest of any long -/
def fm (p : Nat) (x : Int64) : Nat := (x.toInt % (p : Int)).toNat
theorem fm_lt {p : Nat} (h : 0 < p) (x : Int64) : fm p x < p := by
  have h1 := Int.emod_nonneg x.toInt (show (p : Int) ≠ 0 by omega)
  have h2 := Int.emod_lt_of_pos x.toInt (show (0 : Int) < p by omega)
  unfold fm; omega
theorem k_rem (x : Int64) {p : Nat} (h0 : 0 < p) (hp : p < 2 ^ 31) : (x - x / lN p * lN p).toInt = x.toInt.tmod p := by
  have a := x.toInt_lt
  have b := x.le_toInt
  have e : (lN p).toInt = p := k_lI (by omega)
  have ed : (x / lN p).toInt = x.toInt.tdiv p := by rw [Jvm.Kit.i64_div (by rw [e]; omega), e]
  have hm := Int.tmod_add_tdiv_mul x.toInt p
  have hb := tmod_bounds (a := x.toInt) (M := p) (by omega)
  rw [Int64.toInt_sub, Int64.toInt_mul, ed, e]
  generalize x.toInt.tdiv p * (p : Int) = T at hm
  generalize x.toInt.tmod p = r at hm hb
  rw [Int.bmod_def, Int.bmod_def]
  omega
theorem k_remN (x : Int64) {p : Nat} (h0 : 0 < p) (hp : p < 2 ^ 31) (hx : 0 ≤ x.toInt) : x - x / lN p * lN p = lN (fm p x) := by
  apply Int64.toInt_inj.mp
  have := fm_lt h0 x
  have h1 := Int.emod_nonneg x.toInt (show (p : Int) ≠ 0 by omega)
  rw [k_rem x h0 hp, k_lI (by omega), Int.tmod_eq_emod_of_nonneg hx]
  unfold fm; omega
/-- of a number below 0: the rest is 0 or the machine's one and p -/
theorem k_remM (x : Int64) {p : Nat} (h0 : 0 < p) (hp : p < 2 ^ 31) (hx : x.toInt < 0) :
    (x.toInt.tmod p = 0 ∧ fm p x = 0) ∨ (x.toInt.tmod p < 0 ∧ (fm p x : Int) = x.toInt.tmod p + p) := by
  have hm := Int.tmod_add_tdiv_mul x.toInt p
  have hb := tmod_bounds (a := x.toInt) (M := p) (by omega)
  have h1 := Int.emod_nonneg x.toInt (show (p : Int) ≠ 0 by omega)
  have e : x.toInt.tmod p = -((-x.toInt).tmod p) := by rw [Int.neg_tmod, Int.neg_neg]
  have e2 : (-x.toInt).tmod p = (-x.toInt) % p := Int.tmod_eq_emod_of_nonneg (by omega)
  have h3 := Int.emod_nonneg (-x.toInt) (show (p : Int) ≠ 0 by omega)
  have h4 := Int.emod_lt_of_pos (-x.toInt) (show (0 : Int) < p by omega)
  rcases (show x.toInt.tmod p = 0 ∨ x.toInt.tmod p < 0 by omega) with h | h
  · refine Or.inl ⟨h, ?_⟩
    have : x.toInt % p = 0 := by
      rw [show x.toInt = x.toInt.tdiv p * p by omega, Int.mul_emod_left]
    unfold fm; rw [this]; rfl
  · refine Or.inr ⟨h, ?_⟩
    have : x.toInt % p = x.toInt.tmod p + p := by
      have e5 : x.toInt = (x.toInt.tmod p + p) + (x.toInt.tdiv p - 1) * p := by
        rw [Int.sub_mul, Int.one_mul]; omega
      rw [e5, Int.add_mul_emod_self_right, ← e5]
      exact Int.emod_eq_of_lt (by omega) (by omega)
    unfold fm; omega
theorem k_xor (x : Int64) {p : Nat} (hp : p < 2 ^ 31) : lN 0 ≤ x ^^^ lN p ↔ 0 ≤ x.toInt := by
  have e0 : lN 0 = 0 := rfl
  rw [e0, Jvm.Kit.i64_nonneg]
  have h1 : ∀ y : Int64, 0 ≤ y.toInt ↔ y.toBitVec.msb = false := fun y => by
    show 0 ≤ y.toBitVec.toInt ↔ _
    rw [BitVec.msb_eq_toInt]; simp
  rw [h1, h1]
  show (x.toBitVec ^^^ (lN p).toBitVec).msb = false ↔ _
  rw [BitVec.msb_xor]
  have : (lN p).toBitVec.msb = false := (h1 (lN p)).mp (by rw [k_lI (by omega)]; omega)
  rw [this, Bool.xor_false]

set_option maxRecDepth 100000 in
set_option maxHeartbeats 4000000 in
theorem c_floorMod (l : Launch) {D : va_G} {tys : List (ClassId × FieldType)} {N : Nat} {ad : Nat → Nat} {ct : Nat → va_E} {cl : List vw_C} {p : Nat} (x : Int64) (h0 : 0 < p) (hp : p < 2 ^ 31) :
    gMl l yJ9_floorMod_f86c9 wsJ9_floorMod_f86c9 rz D cl tys N ad [.long x, .long (lN p)] ct (fun r ct1 => r = lN (fm p x) ∧ ct1 = ct) := by
  refine gofF_l (cc := cJ9_floorMod_f86c9) (maxL := 6) (by decide +kernel) rfl (Nat.le_of_ble_eq_true rfl) ?_
  intro M sz C hlM hRM hr hsz
  have hfl := fm_lt h0 x
  refine g_lload_n C dJ9_floorMod_f86c9_0 (k := ?_)
  refine g_lload_n C dJ9_floorMod_f86c9_1 (k := ?_)
  refine g_lrem C dJ9_floorMod_f86c9_2 (k_lne h0 (by omega)) ?_
  refine g_lstore C dJ9_floorMod_f86c9_3 (k := ?_)
  refine g_lload_n C dJ9_floorMod_f86c9_5 (k := ?_)
  refine g_lload_n C dJ9_floorMod_f86c9_6 (k := ?_)
  refine g_lxor C dJ9_floorMod_f86c9_7 ?_
  refine g_lconst C (lN 0) dJ9_floorMod_f86c9_8 (k := ?_)
  refine g_lc_ge (tgt := 25) C dJ9_floorMod_f86c9_9 dJ9_floorMod_f86c9_10 (by decide) (fun h => ?_) (fun h => ?_)
  · have hx := (k_xor x hp).mp h
    refine g_lload C dJ9_floorMod_f86c9_25 (k := ?_)
    exact g_lret C hr ⟨k_remN x h0 hp hx, rfl⟩ dJ9_floorMod_f86c9_27
  · have hx : x.toInt < 0 := by
      have := mt (k_xor x hp).mpr h
      omega
    have hr1 := k_rem x h0 hp
    have hb := tmod_bounds (a := x.toInt) (M := p) (by omega)
    refine g_lload C dJ9_floorMod_f86c9_13 (k := ?_)
    refine g_lconst C (lN 0) dJ9_floorMod_f86c9_15 (k := ?_)
    rcases k_remM x h0 hp hx with ⟨h1, h2⟩ | ⟨h1, h2⟩
    · refine g_lc_eq (tgt := 25) C dJ9_floorMod_f86c9_16 dJ9_floorMod_f86c9_17 (by decide) (fun _ => ?_) (fun h => absurd (Int64.toInt_inj.mp (by rw [hr1, h1]; rfl)) h)
      refine g_lload C dJ9_floorMod_f86c9_25 (k := ?_)
      exact g_lret C hr ⟨Int64.toInt_inj.mp (by rw [hr1, h1, h2]; rfl), rfl⟩ dJ9_floorMod_f86c9_27
    · refine g_lc_eq (tgt := 25) C dJ9_floorMod_f86c9_16 dJ9_floorMod_f86c9_17 (by decide) (fun h => absurd h1 (by rw [← hr1, h, k_lI (by decide)]; decide)) (fun _ => ?_)
      refine g_lload C dJ9_floorMod_f86c9_20 (k := ?_)
      refine g_lload_n C dJ9_floorMod_f86c9_22 (k := ?_)
      refine g_ladd C dJ9_floorMod_f86c9_23 ?_
      refine g_lret C hr ⟨Int64.toInt_inj.mp ?_, rfl⟩ dJ9_floorMod_f86c9_24
      have e : (lN p).toInt = p := k_lI (by omega)
      rw [Jvm.Kit.i64_add (by rw [hr1, e]; omega) (by rw [hr1, e]; omega), hr1, e, k_lI (by omega), h2]
abbrev rr1 : Room := { frames := 1, cells := 0, slots := 0, locals := 25 }
set_option maxRecDepth 100000 in
set_option maxHeartbeats 4000000 in
theorem c_rest (l : Launch) {D : va_G} {tys : List (ClassId × FieldType)} {N : Nat} {ad : Nat → Nat} {ct : Nat → va_E} (hN : 20 ≤ N) {p : Nat} (e0 : ct 0 = obX p ad) (x : Int64) (hp0 : 0 < p) (hp : p < 2 ^ 31) :
    gMl l yX0_rest wsX0_rest rr1 D vwCl tys N ad [.ref (ad 0), .long x] ct (fun r ct1 => r = lN (fm p x) ∧ ct1 = ct) := by
  refine gof_l (cc := cX0_rest) (maxL := 3) (by decide) rfl (Nat.le_of_ble_eq_true rfl) ?_
  intro M sz C hlM hRM hr hsz
  have h0 : 0 < N := by omega
  refine g_lload_n C dX0_rest_0 (k := ?_)
  refine g_aload_n C dX0_rest_1 (k := ?_)
  refine g_getf (Cn := RX0) (T := TX0) (n := 8) (ref := "WheelProducts") C 0 0 h0 e0 rfl (by decide +kernel) (by decide) (by decide +kernel) (fun _ h => h) rfl dX0_rest_2 ?_
  refine g_cSl (n := 2) (av := [.long x, .long (lN p)]) C (by rw [hlM]; exact c_floorMod l x hp0 hp) gX0_rest_J9_floorMod_f86c9 rfl ⟨rfl, rfl⟩ (by rw [hRM]; exact ⟨Nat.le_of_ble_eq_true rfl, Nat.le_of_ble_eq_true rfl⟩) (by rw [hRM]; exact ⟨Nat.le_of_ble_eq_true rfl, Nat.le_of_ble_eq_true rfl⟩) (Nat.le_of_ble_eq_true rfl) (by decide +kernel) rfl dX0_rest_5 ?_
  rintro v ct1 ⟨rfl, rfl⟩
  exact g_lret C hr ⟨rfl, rfl⟩ dX0_rest_8
/-- one more than the greatest place below n that isn't 0; 0 without one -/
def up1 (v : Nat → Nat) : Nat → Nat
  | 0 => 0
  | n + 1 => if v n = 0 then up1 v n else n + 1
theorem up1_le (v : Nat → Nat) : ∀ n, up1 v n ≤ n
  | 0 => Nat.le_refl 0
  | n + 1 => by
    unfold up1
    split
    · exact Nat.le_succ_of_le (up1_le v n)
    · exact Nat.le_refl _
theorem up1_z (v : Nat → Nat) : ∀ n i, up1 v n ≤ i → i < n → v i = 0
  | 0, i, _, h => absurd h (Nat.not_lt_zero i)
  | n + 1, i, h1, h2 => by
    unfold up1 at h1
    by_cases e : v n = 0
    · rw [if_pos e] at h1
      rcases Nat.lt_or_ge i n with h | h
      · exact up1_z v n i h1 h
      · rw [show i = n by omega]; exact e
    · rw [if_neg e] at h1
      omega
theorem up1_nz (v : Nat → Nat) : ∀ n, up1 v n ≠ 0 → v (up1 v n - 1) ≠ 0
  | 0, h => absurd rfl h
  | n + 1, h => by
    unfold up1 at h ⊢
    by_cases e : v n = 0
    · rw [if_pos e] at h ⊢
      exact up1_nz v n h
    · rw [if_neg e, Nat.add_sub_cancel]
      exact e
theorem up1_congr {v w : Nat → Nat} : ∀ {n : Nat}, (∀ i, i < n → v i = w i) → up1 v n = up1 w n
  | 0, _ => rfl
  | n + 1, h => by
    unfold up1
    rw [h n (Nat.lt_succ_self n), up1_congr (fun i hi => h i (Nat.lt_succ_of_lt hi))]

set_option maxRecDepth 100000 in
set_option maxHeartbeats 4000000 in
theorem c_usedPart (l : Launch) {D : va_G} {tys : List (ClassId × FieldType)} {N : Nat} {ad : Nat → Nat} {ct : Nat → va_E} {cl : List vw_C} {q : Nat} (hq : q < N) {cJ : ClassId} {n : Nat} {v : Nat → Nat} (he : ct q = LN cJ n v) (ht : tys[0]? = some (cJ, .long)) (hn : n < 2 ^ 31) (hv : ∀ k, k < n → v k < 2 ^ 63) :
    gMi l yX0_usedPart wsX0_usedPart rz D cl tys N ad [.ref (ad q)] ct (fun r ct1 => r = nI (up1 v n) ∧ ct1 = ct) := by
  refine gof_i (cc := cX0_usedPart) (maxL := 2) (by decide) rfl (Nat.le_of_ble_eq_true rfl) ?_
  intro M sz C hlM hRM hr hsz
  have loop : ∀ i : Nat, i ≤ n → up1 v i = up1 v n → gW M D cl (ixA N ad sz) 2 0 0 (MQ (gb M) (va_Qi (fun r ct1 => r = nI (up1 v n) ∧ ct1 = ct) (gB D cl tys N ad (ixA N ad sz)) (ixA N ad sz)) (ga M) (gs M) 0 0 (ixA N ad sz)) N ad 3 [(0, some (.ref (ad q))), (1, some (.int (nI i)))] [] ct := by
    intro i
    induction i with
    | zero =>
      intro _ hu
      refine g_iload_n C dX0_usedPart_3 (k := ?_)
      refine g_ifN_le (tgt := 23) C (by decide) dX0_usedPart_4 (by decide) (fun _ => ?_) (fun h => absurd h (by decide))
      refine g_iload_n C dX0_usedPart_23 (k := ?_)
      refine g_iret C hr ⟨?_, rfl⟩ dX0_usedPart_24
      rw [← hu]; rfl
    | succ i ih =>
      intro hi hu
      refine g_iload_n C dX0_usedPart_3 (k := ?_)
      refine g_ifN_le (tgt := 23) C (by omega) dX0_usedPart_4 (by decide) (fun h => absurd h (by omega)) (fun _ => ?_)
      refine g_aload_n C dX0_usedPart_7 (k := ?_)
      refine g_iload_n C dX0_usedPart_8 (k := ?_)
      refine g_iconst C (nI 1) dX0_usedPart_9 (k := ?_)
      refine gN_isub C (by omega) dX0_usedPart_10 ?_
      rw [Nat.add_sub_cancel]
      refine gN_lald C q hq he ht (by omega) hn dX0_usedPart_11 ?_
      refine g_lconst C (lN 0) dX0_usedPart_12 (k := ?_)
      have hvi := hv i (by omega)
      by_cases hz : v i = 0
      · refine g_lcN_ne (tgt := 23) C hvi (by decide) dX0_usedPart_13 dX0_usedPart_14 (by decide) (fun h => absurd hz h) (fun _ => ?_)
        refine gN_dec C dX0_usedPart_17 (k := ?_)
        refine g_goto (tgt := 3) C dX0_usedPart_20 (k := ?_)
        refine g_l2 (ih (by omega) ?_) ⟨Or.inr rfl, Or.inr rfl, trivial⟩
        rw [← hu, up1, if_pos hz]
      · refine g_lcN_ne (tgt := 23) C hvi (by decide) dX0_usedPart_13 dX0_usedPart_14 (by decide) (fun _ => ?_) (fun h => absurd h hz)
        refine g_iload_n C dX0_usedPart_23 (k := ?_)
        refine g_iret C hr ⟨?_, rfl⟩ dX0_usedPart_24
        rw [← hu, up1, if_neg hz]
  refine g_aload_n C dX0_usedPart_0 (k := ?_)
  refine g_alen C q 0 hq he ht dX0_usedPart_1 ?_
  refine g_istore_n C dX0_usedPart_2 (k := ?_)
  exact g_l2 (loop n (Nat.le_refl n) rfl) ⟨Or.inr rfl, Or.inr rfl, trivial⟩
