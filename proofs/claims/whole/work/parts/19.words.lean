/-! ===== words ===== -/
theorem k_mask (x : Nat) : lN x &&& lN 4294967295 = lN (x % 4294967296) := by
  rw [k_andL]
  exact congrArg lN (Nat.and_two_pow_sub_one_eq_mod x 32)
theorem k_ushr32 {x : Nat} (h : x < 2 ^ 64) : ((lN x).toUInt64 >>> ((nI 32).toInt64.toUInt64 &&& Int64.toUInt64 63)).toInt64 = lN (x / 4294967296) := by
  have hs : ((nI 32).toInt64.toUInt64 &&& Int64.toUInt64 63).toNat % 64 = 32 := by decide
  have e : (lN x).toUInt64 >>> ((nI 32).toInt64.toUInt64 &&& Int64.toUInt64 63) = UInt64.ofNat (x / 4294967296) := UInt64.toNat_inj.mp (by
    rw [UInt64.toNat_shiftRight, hs, Nat.shiftRight_eq_div_pow, UInt64.toNat_ofNat']
    show (UInt64.ofNat x).toNat / 2 ^ 32 = _
    rw [UInt64.toNat_ofNat', Nat.mod_eq_of_lt h, Nat.mod_eq_of_lt (by have := Nat.div_le_self x 4294967296; omega)])
  rw [e]
  rfl
/-- what is carried to word k of a sum -/
def cy (a b : Nat → Nat) : Nat → Nat
  | 0 => 0
  | k + 1 => (a k + b k + cy a b k) / 4294967296
theorem cy_lt {a b : Nat → Nat} (ha : ∀ k, a k < 2 ^ 32) (hb : ∀ k, b k < 2 ^ 32) : ∀ k, cy a b k < 2
  | 0 => Nat.zero_lt_two
  | k + 1 => by
    have h1 := ha k
    have h2 := hb k
    have h3 := cy_lt ha hb k
    unfold cy
    omega
def sw1 (a b : Nat → Nat) : Nat → Nat := fun k => (a k + b k + cy a b k) % 4294967296
/-- a word of a product's row: value, carry, step by step -/
def mi (a b : Nat → Nat) (i : Nat) (s : Nat → Nat) : Nat → (Nat → Nat) × Nat
  | 0 => (s, 0)
  | j + 1 => (nu (mi a b i s j).1 (i + j) ((a i * b j + (mi a b i s j).1 (i + j) + (mi a b i s j).2) % 4294967296), (a i * b j + (mi a b i s j).1 (i + j) + (mi a b i s j).2) / 4294967296)
def mo (a b : Nat → Nat) (nb : Nat) : Nat → Nat → Nat
  | 0 => fun _ => 0
  | i + 1 => nu (mi a b i (mo a b nb i) nb).1 (i + nb) (mi a b i (mo a b nb i) nb).2
theorem mul32 {x y s c : Nat} (hx : x < 2 ^ 32) (hy : y < 2 ^ 32) (hs : s < 2 ^ 32) (hc : c < 2 ^ 32) : x * y + s + c < 2 ^ 64 := by
  have h1 : x * y ≤ (2 ^ 32 - 1) * (2 ^ 32 - 1) := Nat.mul_le_mul (by omega) (by omega)
  omega
theorem mi_lt {a b : Nat → Nat} (ha : ∀ k, a k < 2 ^ 32) (hb : ∀ k, b k < 2 ^ 32) (i : Nat) {s : Nat → Nat} (hs : ∀ k, s k < 2 ^ 32) : ∀ j, (∀ k, (mi a b i s j).1 k < 2 ^ 32) ∧ (mi a b i s j).2 < 2 ^ 32
  | 0 => ⟨hs, Nat.two_pow_pos 32⟩
  | j + 1 => by
    obtain ⟨h1, h2⟩ := mi_lt ha hb i hs j
    have h3 := mul32 (ha i) (hb j) (h1 (i + j)) h2
    refine ⟨fun k => ?_, ?_⟩
    · show nu (mi a b i s j).1 (i + j) _ k < _
      unfold nu
      split
      · exact Nat.mod_lt _ (by decide)
      · exact h1 k
    · show (a i * b j + (mi a b i s j).1 (i + j) + (mi a b i s j).2) / 4294967296 < 2 ^ 32
      omega
theorem mo_lt {a b : Nat → Nat} (ha : ∀ k, a k < 2 ^ 32) (hb : ∀ k, b k < 2 ^ 32) (nb : Nat) : ∀ i k, mo a b nb i k < 2 ^ 32
  | 0, _ => by show 0 < 2 ^ 32; decide
  | i + 1, k => by
    obtain ⟨h1, h2⟩ := mi_lt ha hb i (mo_lt ha hb nb i) nb
    show nu (mi a b i (mo a b nb i) nb).1 (i + nb) _ k < _
    unfold nu
    split
    · exact h2
    · exact h1 k

set_option maxRecDepth 100000 in
set_option maxHeartbeats 4000000 in
theorem c_addWords (l : Launch) {D : va_G} {tys : List (ClassId × FieldType)} {N : Nat} {ad : Nat → Nat} {ct : Nat → va_E} (hN : 20 ≤ N) {qa qb : Nat} (hqa : 9 < qa ∧ qa < 16) (hqb : 9 < qb ∧ qb < 16) {cJ : ClassId} {p : Nat} {a b z : Nat → Nat} (e0 : ct 0 = obX p ad) (ea : ct qa = LN cJ 240 a) (eb : ct qb = LN cJ 240 b) (ez : ct 19 = LN cJ 240 z) (ht : tys[0]? = some (cJ, .long)) (ha : ∀ k, a k < 2 ^ 32) (hb : ∀ k, b k < 2 ^ 32) :
    gMl l yX0_addWords wsX0_addWords rz D vwCl tys N ad [.ref (ad 0), .ref (ad qa), .ref (ad qb)] ct (fun r ct1 => r = lN (cy a b 240) ∧ ct1 = va_up ct 19 (LN cJ 240 (sw1 a b))) := by
  refine gof_l (cc := cX0_addWords) (maxL := 8) (by decide) rfl (Nat.le_of_ble_eq_true rfl) ?_
  intro M sz C hlM hRM hr hsz
  have h0 : 0 < N := by omega
  have h19 : 19 < N := by omega
  have loop : ∀ (d i : Nat), 240 = i + d → gW M D vwCl (ixA N ad sz) 8 0 0 (MQ (gb M) (va_Ql (fun r ct1 => r = lN (cy a b 240) ∧ ct1 = va_up ct 19 (LN cJ 240 (sw1 a b))) (gB D vwCl tys N ad (ixA N ad sz)) (ixA N ad sz)) (ga M) (gs M) 0 0 (ixA N ad sz)) N ad 5 [(0, some (.ref (ad 0))), (1, some (.ref (ad qa))), (2, some (.ref (ad qb))), (3, some (.long (lN (cy a b i)))), (5, some (.int (nI i)))] [] (va_up ct 19 (LN cJ 240 (fun k => if k < i then sw1 a b k else z k))) := by
    intro d
    induction d with
    | zero =>
      intro i hd
      have hi : i = 240 := by omega
      subst hi
      refine g_iload C dX0_addWords_5 (k := ?_)
      refine g_sipush C (nI 240) dX0_addWords_7 (k := ?_)
      refine g_icN_ge (tgt := 51) C (by decide) (by decide) dX0_addWords_10 (by decide) (fun _ => ?_) (fun h => absurd h (by decide))
      refine g_ext 19 (va_up_self _ _ _) (g := fun k => lN (sw1 a b k)) (fun k hk => by show lN (if k < 240 then sw1 a b k else z k) = _; rw [if_pos hk]) ?_
      refine g_lload_n C dX0_addWords_51 (k := ?_)
      refine g_lret C hr ⟨rfl, ?_⟩ dX0_addWords_52
      rw [bx_uu]
    | succ d ih =>
      intro i hd
      have h1 := ha i
      have h2 := hb i
      have h3 := cy_lt ha hb i
      refine g_iload C dX0_addWords_5 (k := ?_)
      refine g_sipush C (nI 240) dX0_addWords_7 (k := ?_)
      refine g_icN_ge (tgt := 51) C (by omega) (by decide) dX0_addWords_10 (by decide) (fun h => absurd h (by omega)) (fun _ => ?_)
      refine g_aload_n C dX0_addWords_13 (k := ?_)
      refine g_iload C dX0_addWords_14 (k := ?_)
      refine gN_lald C qa (by omega) (by (repeat rw [va_up_ne _ _ (by omega)]); exact ea) ht (by omega) (by decide) dX0_addWords_16 ?_
      refine g_aload_n C dX0_addWords_17 (k := ?_)
      refine g_iload C dX0_addWords_18 (k := ?_)
      refine gN_lald C qb (by omega) (by (repeat rw [va_up_ne _ _ (by omega)]); exact eb) ht (by omega) (by decide) dX0_addWords_20 ?_
      refine gN_ladd C dX0_addWords_21 ?_
      refine g_lload_n C dX0_addWords_22 (k := ?_)
      refine gN_ladd C dX0_addWords_23 ?_
      refine g_lstore C dX0_addWords_24 (k := ?_)
      refine g_aload_n C dX0_addWords_26 (k := ?_)
      refine g_getf (Cn := RX0) (T := TX0) (n := 8) (ref := "WheelProducts") C 0 7 h0 (by (repeat rw [va_up_ne _ _ (by omega)]); exact e0) rfl (by decide +kernel) (by decide) (by decide +kernel) (fun _ h => h) rfl dX0_addWords_27 ?_
      refine g_iload C dX0_addWords_30 (k := ?_)
      refine g_lload C dX0_addWords_32 (k := ?_)
      refine g_ldc2 (v := 4294967295) C (by decide +kernel) dX0_addWords_34 ?_
      refine g_tl (lN 4294967295) rfl ?_
      refine g_land C dX0_addWords_37 ?_
      refine g_tl _ (k_mask _) ?_
      refine gN_last C 19 h19 (va_up_self _ _ _) ht (by omega) (by decide) dX0_addWords_38 ?_
      refine g_lload C dX0_addWords_39 (k := ?_)
      refine g_bipush C (nI 32) dX0_addWords_41 (k := ?_)
      refine g_lushr C dX0_addWords_43 ?_
      refine g_tl _ (k_ushr32 (by omega)) ?_
      refine g_lstore_n C dX0_addWords_44 (k := ?_)
      refine gN_inc C dX0_addWords_45 (k := ?_)
      refine g_goto (tgt := 5) C dX0_addWords_48 (k := ?_)
      have e : nu (fun k => if k < i then sw1 a b k else z k) i ((a i + b i + cy a b i) % 4294967296) = fun k => if k < i + 1 then sw1 a b k else z k := by
        funext k
        unfold nu
        by_cases h1 : k = i
        · subst h1; rw [if_pos rfl, if_pos (by omega)]; rfl
        · rw [if_neg h1]
          show (if k < i then sw1 a b k else z k) = _
          by_cases h2 : k < i
          · rw [if_pos h2, if_pos (by omega)]
          · rw [if_neg h2, if_neg (by omega)]
      rw [bx_uu, e]
      exact g_l2 (ih (i + 1) (by omega)) ⟨Or.inr rfl, Or.inr rfl, Or.inr rfl, Or.inr rfl, Or.inr rfl, trivial⟩
  refine g_lconst C (lN 0) dX0_addWords_0 (k := ?_)
  refine g_lstore_n C dX0_addWords_1 (k := ?_)
  refine g_iconst C (nI 0) dX0_addWords_2 (k := ?_)
  refine g_istore C dX0_addWords_3 (k := ?_)
  refine g_ct (ct' := va_up ct 19 (LN cJ 240 (fun k => if k < 0 then sw1 a b k else z k))) ?_ ?_
  · have : (fun k => if k < 0 then sw1 a b k else z k) = z := funext fun k => if_neg (by omega)
    rw [this, up_id ez]
  · exact g_l2 (loop 240 0 (by omega)) ⟨Or.inr rfl, Or.inr rfl, Or.inr rfl, Or.inr rfl, Or.inr rfl, trivial⟩
abbrev rw1 : Room := { frames := 1, cells := 0, slots := 0, locals := 24 }
set_option maxRecDepth 100000 in
set_option maxHeartbeats 4000000 in
theorem c_multiplyWords (l : Launch) {D : va_G} {tys : List (ClassId × FieldType)} {N : Nat} {ad : Nat → Nat} {ct : Nat → va_E} (hN : 20 ≤ N) {qa qb : Nat} (hqa : 9 < qa ∧ qa < 16) (hqb : 9 < qb ∧ qb < 16) {cJ : ClassId} {p na nb : Nat} {a b z : Nat → Nat} (e0 : ct 0 = obX p ad) (ea : ct qa = LN cJ 240 a) (eb : ct qb = LN cJ 240 b) (ez : ct 19 = LN cJ 240 z) (ht : tys[0]? = some (cJ, .long)) (ha : ∀ k, a k < 2 ^ 32) (hb : ∀ k, b k < 2 ^ 32) (hab : na + nb ≤ 240) :
    gMv l yX0_multiplyWords wsX0_multiplyWords rw1 D vwCl tys N ad [.ref (ad 0), .ref (ad qa), .int (nI na), .ref (ad qb), .int (nI nb)] ct (fun ct1 => ct1 = va_up ct 19 (LN cJ 240 (mo a b nb na))) := by
  refine gof_v (cc := cX0_multiplyWords) (maxL := 11) (by decide) rfl (Nat.le_of_ble_eq_true rfl) ?_
  intro M sz C hlM hRM hr hsz
  have h0 : 0 < N := by omega
  have h19 : 19 < N := by omega
  have outer : ∀ (d i : Nat), na = i + d → gW M D vwCl (ixA N ad sz) 11 0 0 (MQ (gb M) (va_Qv (fun ct1 => ct1 = va_up ct 19 (LN cJ 240 (mo a b nb na))) (gB D vwCl tys N ad (ixA N ad sz)) (ixA N ad sz)) (ga M) (gs M) 0 0 (ixA N ad sz)) N ad 11 [(0, some (.ref (ad 0))), (1, some (.ref (ad qa))), (2, some (.int (nI na))), (3, some (.ref (ad qb))), (4, some (.int (nI nb))), (5, some (.int (nI i)))] [] (va_up ct 19 (LN cJ 240 (mo a b nb i))) := by
    intro d
    induction d with
    | zero =>
      intro i hd
      have hi : i = na := by omega
      subst hi
      refine g_iload C dX0_multiplyWords_11 (k := ?_)
      refine g_iload_n C dX0_multiplyWords_13 (k := ?_)
      refine g_icN_ge (tgt := 102) C (by omega) (by omega) dX0_multiplyWords_14 (by decide) (fun _ => ?_) (fun h => absurd h (by omega))
      exact g_vret C hr rfl dX0_multiplyWords_102
    | succ d ih =>
      intro i hd
      have hml := mo_lt ha hb nb i
      have ih2 := ih (i + 1) (by omega)
      rw [mo] at ih2
      generalize mo a b nb i = s at hml ih2 ⊢
      have inner : ∀ (e j : Nat), nb = j + e → gW M D vwCl (ixA N ad sz) 11 0 0 (MQ (gb M) (va_Qv (fun ct1 => ct1 = va_up ct 19 (LN cJ 240 (mo a b nb na))) (gB D vwCl tys N ad (ixA N ad sz)) (ixA N ad sz)) (ga M) (gs M) 0 0 (ixA N ad sz)) N ad 23 [(0, some (.ref (ad 0))), (1, some (.ref (ad qa))), (2, some (.int (nI na))), (3, some (.ref (ad qb))), (4, some (.int (nI nb))), (5, some (.int (nI i))), (6, some (.long (lN (mi a b i s j).2))), (8, some (.int (nI j)))] [] (va_up ct 19 (LN cJ 240 (mi a b i s j).1)) := by
        intro e
        induction e with
        | zero =>
          intro j hj
          have hjn : j = nb := by omega
          subst hjn
          refine g_iload C dX0_multiplyWords_23 (k := ?_)
          refine g_iload C dX0_multiplyWords_25 (k := ?_)
          refine g_icN_ge (tgt := 84) C (by omega) (by omega) dX0_multiplyWords_27 (by decide) (fun _ => ?_) (fun h => absurd h (by omega))
          refine g_aload_n C dX0_multiplyWords_84 (k := ?_)
          refine g_getf (Cn := RX0) (T := TX0) (n := 8) (ref := "WheelProducts") C 0 7 h0 (by (repeat rw [va_up_ne _ _ (by omega)]); exact e0) rfl (by decide +kernel) (by decide) (by decide +kernel) (fun _ h => h) rfl dX0_multiplyWords_85 ?_
          refine g_iload C dX0_multiplyWords_88 (k := ?_)
          refine g_iload C dX0_multiplyWords_90 (k := ?_)
          refine gN_iadd C dX0_multiplyWords_92 ?_
          refine g_lload C dX0_multiplyWords_93 (k := ?_)
          refine gN_last C 19 h19 (va_up_self _ _ _) ht (by omega) (by decide) dX0_multiplyWords_95 ?_
          rw [bx_uu]
          refine gN_inc C dX0_multiplyWords_96 (k := ?_)
          refine g_goto (tgt := 11) C dX0_multiplyWords_99 (k := ?_)
          exact g_l2 ih2 ⟨Or.inr rfl, Or.inr rfl, Or.inr rfl, Or.inr rfl, Or.inr rfl, Or.inr rfl, trivial⟩
        | succ e ihe =>
          intro j hj
          obtain ⟨q1, q2⟩ := mi_lt ha hb i hml j
          have h3 := mul32 (ha i) (hb j) (q1 (i + j)) q2
          have ihe2 := ihe (j + 1) (by omega)
          rw [mi] at ihe2
          dsimp only at ihe2
          generalize (mi a b i s j).1 = s1 at q1 h3 ihe2 ⊢
          generalize (mi a b i s j).2 = c1 at q2 h3 ihe2 ⊢
          refine g_iload C dX0_multiplyWords_23 (k := ?_)
          refine g_iload C dX0_multiplyWords_25 (k := ?_)
          refine g_icN_ge (tgt := 84) C (by omega) (by omega) dX0_multiplyWords_27 (by decide) (fun h => absurd h (by omega)) (fun _ => ?_)
          refine g_aload_n C dX0_multiplyWords_30 (k := ?_)
          refine g_iload C dX0_multiplyWords_31 (k := ?_)
          refine gN_lald C qa (by omega) (by (repeat rw [va_up_ne _ _ (by omega)]); exact ea) ht (by omega) (by decide) dX0_multiplyWords_33 ?_
          refine g_aload_n C dX0_multiplyWords_34 (k := ?_)
          refine g_iload C dX0_multiplyWords_35 (k := ?_)
          refine gN_lald C qb (by omega) (by (repeat rw [va_up_ne _ _ (by omega)]); exact eb) ht (by omega) (by decide) dX0_multiplyWords_37 ?_
          refine gN_lmul C dX0_multiplyWords_38 ?_
          refine g_aload_n C dX0_multiplyWords_39 (k := ?_)
          refine g_getf (Cn := RX0) (T := TX0) (n := 8) (ref := "WheelProducts") C 0 7 h0 (by (repeat rw [va_up_ne _ _ (by omega)]); exact e0) rfl (by decide +kernel) (by decide) (by decide +kernel) (fun _ h => h) rfl dX0_multiplyWords_40 ?_
          refine g_iload C dX0_multiplyWords_43 (k := ?_)
          refine g_iload C dX0_multiplyWords_45 (k := ?_)
          refine gN_iadd C dX0_multiplyWords_47 ?_
          refine gN_lald C 19 h19 (va_up_self _ _ _) ht (by omega) (by decide) dX0_multiplyWords_48 ?_
          refine gN_ladd C dX0_multiplyWords_49 ?_
          refine g_lload C dX0_multiplyWords_50 (k := ?_)
          refine gN_ladd C dX0_multiplyWords_52 ?_
          refine g_lstore C dX0_multiplyWords_53 (k := ?_)
          refine g_aload_n C dX0_multiplyWords_55 (k := ?_)
          refine g_getf (Cn := RX0) (T := TX0) (n := 8) (ref := "WheelProducts") C 0 7 h0 (by (repeat rw [va_up_ne _ _ (by omega)]); exact e0) rfl (by decide +kernel) (by decide) (by decide +kernel) (fun _ h => h) rfl dX0_multiplyWords_56 ?_
          refine g_iload C dX0_multiplyWords_59 (k := ?_)
          refine g_iload C dX0_multiplyWords_61 (k := ?_)
          refine gN_iadd C dX0_multiplyWords_63 ?_
          refine g_lload C dX0_multiplyWords_64 (k := ?_)
          refine g_ldc2 (v := 4294967295) C (by decide +kernel) dX0_multiplyWords_66 ?_
          refine g_tl (lN 4294967295) rfl ?_
          refine g_land C dX0_multiplyWords_69 ?_
          refine g_tl _ (k_mask _) ?_
          refine gN_last C 19 h19 (va_up_self _ _ _) ht (by omega) (by decide) dX0_multiplyWords_70 ?_
          rw [bx_uu]
          refine g_lload C dX0_multiplyWords_71 (k := ?_)
          refine g_bipush C (nI 32) dX0_multiplyWords_73 (k := ?_)
          refine g_lushr C dX0_multiplyWords_75 ?_
          refine g_tl _ (k_ushr32 h3) ?_
          refine g_lstore C dX0_multiplyWords_76 (k := ?_)
          refine gN_inc C dX0_multiplyWords_78 (k := ?_)
          refine g_goto (tgt := 23) C dX0_multiplyWords_81 (k := ?_)
          exact g_l2 ihe2 ⟨Or.inr rfl, Or.inr rfl, Or.inr rfl, Or.inr rfl, Or.inr rfl, Or.inr rfl, Or.inr rfl, Or.inr rfl, trivial⟩
      refine g_iload C dX0_multiplyWords_11 (k := ?_)
      refine g_iload_n C dX0_multiplyWords_13 (k := ?_)
      refine g_icN_ge (tgt := 102) C (by omega) (by omega) dX0_multiplyWords_14 (by decide) (fun h => absurd h (by omega)) (fun _ => ?_)
      refine g_lconst C (lN 0) dX0_multiplyWords_17 (k := ?_)
      refine g_lstore C dX0_multiplyWords_18 (k := ?_)
      refine g_iconst C (nI 0) dX0_multiplyWords_20 (k := ?_)
      refine g_istore C dX0_multiplyWords_21 (k := ?_)
      exact g_l2 (inner nb 0 (by omega)) ⟨Or.inr rfl, Or.inr rfl, Or.inr rfl, Or.inr rfl, Or.inr rfl, Or.inr rfl, Or.inr rfl, Or.inr rfl, trivial⟩
  refine g_aload_n C dX0_multiplyWords_0 (k := ?_)
  refine g_getf (Cn := RX0) (T := TX0) (n := 8) (ref := "WheelProducts") C 0 7 h0 e0 rfl (by decide +kernel) (by decide) (by decide +kernel) (fun _ h => h) rfl dX0_multiplyWords_1 ?_
  refine g_lconst C (lN 0) dX0_multiplyWords_4 (k := ?_)
  refine g_cSv (n := 2) (av := [.ref (ad 19), .long (lN 0)]) C (by rw [hlM]; exact c_fill l h19 ez ht (by decide)) gX0_multiplyWords_J7_fill_d0a16 rfl ⟨rfl, rfl⟩ (by rw [hRM]; exact ⟨Nat.le_of_ble_eq_true rfl, Nat.le_of_ble_eq_true rfl⟩) (by rw [hRM]; exact ⟨Nat.le_of_ble_eq_true rfl, Nat.le_of_ble_eq_true rfl⟩) (Nat.le_of_ble_eq_true rfl) (by decide +kernel) rfl dX0_multiplyWords_5 ?_
  rintro ct1 rfl
  refine g_iconst C (nI 0) dX0_multiplyWords_8 (k := ?_)
  refine g_istore C dX0_multiplyWords_9 (k := ?_)
  exact g_l2 (outer na 0 (by omega)) ⟨Or.inr rfl, Or.inr rfl, Or.inr rfl, Or.inr rfl, Or.inr rfl, Or.inr rfl, trivial⟩
