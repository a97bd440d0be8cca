/-! ===== rows of numbers as natural numbers ===== -/
abbrev LN (cJ : ClassId) (n : Nat) (v : Nat → Nat) : va_E := LA cJ n (fun k => lN (v k))
def nu (v : Nat → Nat) (i x : Nat) : Nat → Nat := fun k => if k = i then x else v k
theorem nu_s (v : Nat → Nat) (i x : Nat) : nu v i x i = x := by simp [nu]
theorem nu_n (v : Nat → Nat) {i k : Nat} (x : Nat) (h : k ≠ i) : nu v i x k = v k := by simp [nu, h]
theorem LN_up (cJ : ClassId) (n : Nat) (v : Nat → Nat) (i x : Nat) : LA cJ n (vp_updL (fun k => lN (v k)) i (lN x)) = LN cJ n (nu v i x) := by
  have : vp_updL (fun k => lN (v k)) i (lN x) = fun k => lN (nu v i x k) := by
    funext k
    unfold vp_updL nu
    split <;> rfl
  rw [this]
theorem gN_lald {M : gM} {cc : ByteArray} {own : String} {Ts : List Cond} {tys : List (ClassId × FieldType)} {D : va_G} {cl : List vw_C} {A : Nat → Prop} {nL cells slots : Nat} {Q : State → Prop} {N : Nat} {ad : Nat → Nat} {pc : Nat} {lv : gLv} {rest : List Value} {ct : Nat → va_E} (C : gX M cc own Ts tys D cl A nL) (q : Nat) (hq : q < N) {cJ : ClassId} {n : Nat} {v : Nat → Nat} (he : ct q = LN cJ n v) (ht : tys[0]? = some (cJ, .long)) {i : Nat} (hi : i < n) (hn : n < 2 ^ 31) (d : decode cc pc = .ok (.laload, 1)) (k : gW M D cl A nL cells slots Q N ad (pc + 1) lv (.long (lN (v i)) :: rest) ct) : gW M D cl A nL cells slots Q N ad pc lv (.int (nI i) :: .ref (ad q) :: rest) ct := g_lald C q 0 hq he ht hi hn d k
theorem gN_last {M : gM} {cc : ByteArray} {own : String} {Ts : List Cond} {tys : List (ClassId × FieldType)} {D : va_G} {cl : List vw_C} {A : Nat → Prop} {nL cells slots : Nat} {Q : State → Prop} {N : Nat} {ad : Nat → Nat} {pc : Nat} {lv : gLv} {rest : List Value} {ct : Nat → va_E} (C : gX M cc own Ts tys D cl A nL) (q : Nat) (hq : q < N) {cJ : ClassId} {n : Nat} {v : Nat → Nat} (he : ct q = LN cJ n v) (ht : tys[0]? = some (cJ, .long)) {i x : Nat} (hi : i < n) (hn : n < 2 ^ 31) (d : decode cc pc = .ok (.lastore, 1)) (k : gW M D cl A nL cells slots Q N ad (pc + 1) lv rest (va_up ct q (LN cJ n (nu v i x)))) : gW M D cl A nL cells slots Q N ad pc lv (.long (lN x) :: .int (nI i) :: .ref (ad q) :: rest) ct := g_last C q 0 hq he ht hi hn d (by rw [LN_up]; exact k)
theorem ob_lN (K : Nat) (v : Nat → Nat) (m : Nat) : ob K (fun k => lN (v k)) m = fun k => lN (ob K v m k) := by
  funext k
  unfold ob
  split <;> rfl
def swN (v : Nat → Nat) (i j : Nat) : Nat → Nat := fun k => if k = i then v j else if k = j then v i else v k
theorem sw_lN (v : Nat → Nat) (i j : Nat) : sw (fun k => lN (v k)) i j = fun k => lN (swN v i j k) := by
  funext k
  unfold sw swN
  split
  · rfl
  · split <;> rfl
/-! ===== the object: prime, wheel, rows, naturals, factors, left, right, answerWords ===== -/
abbrev obX (p : Nat) (ad : Nat → Nat) : va_E := .inr (0, [.long (lN p), .ref (ad 1), .ref (ad 2), .ref (ad 9), .ref (ad 16), .ref (ad 17), .ref (ad 18), .ref (ad 19)])
/-! ===== joinHalves ===== -/
def rdp (p x : Nat) : Nat := if p ≤ x then x - p else x
def sbp (p a b : Nat) : Nat := if b ≤ a then a - b else a + p - b
/-- number i behind the joining of parts of h; wn the wheel, t its step -/
def jv (p h t : Nat) (wn v : Nat → Nat) : Nat → Nat := fun i =>
  if i % (2 * h) < h then rdp p (v i + v (i + h) * wn (i % (2 * h) * t) % p) else sbp p (v (i - h)) (v i * wn ((i % (2 * h) - h) * t) % p)
def jd (S h i x : Nat) : Bool := decide (x < S) || (decide (S ≤ x) && decide (x < S + i)) || (decide (S + h ≤ x) && decide (x < S + h + i))
theorem jd_iff {S h i x : Nat} : jd S h i x = true ↔ (x < S ∨ (S ≤ x ∧ x < S + i) ∨ (S + h ≤ x ∧ x < S + h + i)) := by
  unfold jd; simp [or_assoc]
/-- the row where the numbers of jd are joined already -/
def jw (p h t : Nat) (wn v : Nat → Nat) (S i : Nat) : Nat → Nat := fun x => if jd S h i x = true then jv p h t wn v x else v x
theorem jw_not {p h t : Nat} {wn v : Nat → Nat} {S i x : Nat} (h1 : ¬ (x < S ∨ (S ≤ x ∧ x < S + i) ∨ (S + h ≤ x ∧ x < S + h + i))) : jw p h t wn v S i x = v x := by
  unfold jw; rw [if_neg (fun q => h1 (jd_iff.mp q))]
theorem jw_0 {p h t : Nat} {wn v : Nat → Nat} : jw p h t wn v 0 0 = v := by
  funext x; exact jw_not (by omega)
theorem jw_block {p h t : Nat} {wn v : Nat → Nat} {S : Nat} : jw p h t wn v S h = jw p h t wn v (S + 2 * h) 0 := by
  funext x
  unfold jw
  have : jd S h h x = jd (S + 2 * h) h 0 x := by
    rw [Bool.eq_iff_iff, jd_iff, jd_iff]
    omega
  rw [this]
theorem jw_step {p h t : Nat} {wn v : Nat → Nat} {S i : Nat} (hi : i < h) (hS : S % (2 * h) = 0) :
    nu (nu (jw p h t wn v S i) (S + i) (rdp p (v (S + i) + v (S + i + h) * wn (i * t) % p))) (S + i + h) (sbp p (v (S + i)) (v (S + i + h) * wn (i * t) % p)) = jw p h t wn v S (i + 1) := by
  have m1 : (S + i) % (2 * h) = i := by rw [Nat.add_mod, hS, Nat.zero_add, Nat.mod_mod, Nat.mod_eq_of_lt (by omega)]
  have m2 : (S + i + h) % (2 * h) = i + h := by rw [Nat.add_assoc, Nat.add_mod, hS, Nat.zero_add, Nat.mod_mod, Nat.mod_eq_of_lt (by omega)]
  funext x
  by_cases h1 : x = S + i + h
  · subst h1
    rw [nu_s]
    unfold jw
    rw [if_pos (jd_iff.mpr (by omega))]
    unfold jv
    rw [m2, if_neg (by omega), Nat.add_sub_cancel, Nat.add_sub_cancel]
  · rw [nu_n _ _ h1]
    by_cases h2 : x = S + i
    · subst h2
      rw [nu_s]
      unfold jw
      rw [if_pos (jd_iff.mpr (by omega))]
      unfold jv
      rw [m1, if_pos hi]
    · rw [nu_n _ _ h2]
      unfold jw
      have : jd S h i x = jd S h (i + 1) x := by
        rw [Bool.eq_iff_iff, jd_iff, jd_iff]
        omega
      rw [this]
theorem jv_lt {p h t n : Nat} {wn v : Nat → Nat} (hp : 0 < p) (hv : ∀ k, k < n → v k < p) {i : Nat} (hi : i < n) : jv p h t wn v i < p := by
  unfold jv rdp sbp
  have h1 := hv i hi
  have h2 := hv (i - h) (by omega)
  have h3 : v (i + h) * wn (i % (2 * h) * t) % p < p := Nat.mod_lt _ hp
  have h4 : v i * wn ((i % (2 * h) - h) * t) % p < p := Nat.mod_lt _ hp
  split
  · split <;> omega
  · split <;> omega

theorem k_wrap {a b p : Nat} (h : b ≤ a + p) : lN a - lN b + lN p = lN (a + p - b) := by
  rw [← lN_sub h, ← lN_add]
  grind
theorem k_neg {a b : Nat} (ha : a < 2 ^ 62) (hb : b < 2 ^ 62) (h : a < b) : ¬ lN 0 ≤ lN a - lN b := by
  intro q
  rw [Int64.le_iff_toInt_le] at q
  have e : (lN a - lN b).toInt = (a : Int) - b := by
    rw [Int64.toInt_sub, k_lI (by omega), k_lI (by omega)]
    exact Int.bmod_eq_of_le (by omega) (by omega)
  rw [e, k_lI (by decide)] at q
  omega

set_option maxRecDepth 100000 in
set_option maxHeartbeats 4000000 in
theorem c_joinHalves (l : Launch) {D : va_G} {tys : List (ClassId × FieldType)} {N : Nat} {ad : Nat → Nat} {ct : Nat → va_E} (hN : 20 ≤ N) {q : Nat} (hq : q < N) (hq0 : q ≠ 0) (hq1 : q ≠ 1) {cJ : ClassId} {p h t B : Nat} {wn v : Nat → Nat} (e0 : ct 0 = obX p ad) (ew : ct 1 = LN cJ 512 wn) (he : ct q = LN cJ 512 v) (ht : tys[0]? = some (cJ, .long)) (hp : 0 < p) (hp2 : p < 2 ^ 31) (hv : ∀ k, k < B * (2 * h) → v k < p) (hwn : ∀ k, k < 512 → wn k < p) (hB : B * (2 * h) ≤ 512) (hh : 0 < h) (ht0 : 0 < t) (hht : h * t ≤ 512) :
    gMv l yX0_joinHalves wsX0_joinHalves rz D vwCl tys N ad [.ref (ad 0), .ref (ad q), .int (nI (B * (2 * h))), .int (nI h), .int (nI t)] ct (fun ct1 => ct1 = va_up ct q (LN cJ 512 (jw p h t wn v (B * (2 * h)) 0))) := by
  refine gof_v (cc := cX0_joinHalves) (maxL := 17) (by decide) rfl (Nat.le_of_ble_eq_true rfl) ?_
  intro M sz C hlM hRM hr hsz
  have h0 : 0 < N := by omega
  have h1N : 1 < N := by omega
  obtain ⟨n, hne⟩ : ∃ n, n = B * (2 * h) := ⟨_, rfl⟩
  rw [← hne] at hB hv
  have outer : ∀ (c b : Nat), B = b + c → gW M D vwCl (ixA N ad sz) 17 0 0 (MQ (gb M) (va_Qv (fun ct1 => ct1 = va_up ct q (LN cJ 512 (jw p h t wn v (B * (2 * h)) 0))) (gB D vwCl tys N ad (ixA N ad sz)) (ixA N ad sz)) (ga M) (gs M) 0 0 (ixA N ad sz)) N ad 3 [(0, some (.ref (ad 0))), (1, some (.ref (ad q))), (2, some (.int (nI n))), (3, some (.int (nI h))), (4, some (.int (nI t))), (5, some (.int (nI (b * (2 * h)))))] [] (va_up ct q (LN cJ 512 (jw p h t wn v (b * (2 * h)) 0))) := by
    intro c
    induction c with
    | zero =>
      intro b hb
      have hbB : b = B := by omega
      subst hbB
      refine g_iload C dX0_joinHalves_3 (k := ?_)
      refine g_iload_n C dX0_joinHalves_5 (k := ?_)
      refine g_icN_ge (tgt := 139) C (by omega) (by omega) dX0_joinHalves_6 (by decide) (fun _ => ?_) (fun h => absurd h (by omega))
      exact g_vret C hr rfl dX0_joinHalves_139
    | succ c ihc =>
      intro b hb
      have hlt : b * (2 * h) + 2 * h ≤ n := by
        rw [hne, ← Nat.succ_mul]
        exact Nat.mul_le_mul_right _ (by omega)
      have hSm : (b * (2 * h)) % (2 * h) = 0 := Nat.mul_mod_left b (2 * h)
      have ihc2 := ihc (b + 1) (by omega)
      rw [show (b + 1) * (2 * h) = b * (2 * h) + 2 * h from Nat.succ_mul b (2 * h)] at ihc2
      generalize hSe : b * (2 * h) = S at hlt hSm ihc2 ⊢
      have hbn : S < n := by omega
      have inner : ∀ (d i : Nat), i ≤ h → h = i + d → gW M D vwCl (ixA N ad sz) 17 0 0 (MQ (gb M) (va_Qv (fun ct1 => ct1 = va_up ct q (LN cJ 512 (jw p h t wn v (B * (2 * h)) 0))) (gB D vwCl tys N ad (ixA N ad sz)) (ixA N ad sz)) (ga M) (gs M) 0 0 (ixA N ad sz)) N ad 12 [(0, some (.ref (ad 0))), (1, some (.ref (ad q))), (2, some (.int (nI n))), (3, some (.int (nI h))), (4, some (.int (nI t))), (5, some (.int (nI (S)))), (6, some (.int (nI i)))] [] (va_up ct q (LN cJ 512 (jw p h t wn v S i))) := by
        intro d
        induction d with
        | zero =>
          intro i hi hd
          have hih : i = h := by omega
          subst hih
          refine g_iload C dX0_joinHalves_12 (k := ?_)
          refine g_iload_n C dX0_joinHalves_14 (k := ?_)
          refine g_icN_ge (tgt := 128) C (by omega) (by omega) dX0_joinHalves_15 (by decide) (fun _ => ?_) (fun h => absurd h (by omega))
          refine g_iload C dX0_joinHalves_128 (k := ?_)
          refine g_iconst C (nI 2) dX0_joinHalves_130 (k := ?_)
          refine g_iload_n C dX0_joinHalves_131 (k := ?_)
          refine gN_imul C dX0_joinHalves_132 ?_
          refine gN_iadd C dX0_joinHalves_133 ?_
          refine g_istore C dX0_joinHalves_134 (k := ?_)
          refine g_goto (tgt := 3) C dX0_joinHalves_136 (k := ?_)
          rw [jw_block]
          exact g_l2 ihc2 ⟨Or.inr rfl, Or.inr rfl, Or.inr rfl, Or.inr rfl, Or.inr rfl, Or.inr rfl, trivial⟩
        | succ d ihd =>
          intro i hi0 hd
          have hi : i < h := by omega
          have e1 : (va_up ct q (LN cJ 512 (jw p h t wn v S i))) 0 = obX p ad := by rw [va_up_ne _ _ (fun e => hq0 e.symm)]; exact e0
          have e1w : (va_up ct q (LN cJ 512 (jw p h t wn v S i))) 1 = LN cJ 512 wn := by rw [va_up_ne _ _ (fun e => hq1 e.symm)]; exact ew
          have e2 : ∀ z, (va_up ct q z) 0 = obX p ad := fun z => by rw [va_up_ne _ _ (fun e => hq0 e.symm)]; exact e0
          have e2 := e2 (LN cJ 512 (nu (jw p h t wn v S i) (S + i) (rdp p (v (S + i) + v (S + i + h) * wn (i * t) % p))))
          have hit : i * t < 512 := Nat.lt_of_lt_of_le (Nat.mul_lt_mul_of_pos_right hi ht0) hht
          have rl : jw p h t wn v S i (S + i) = v (S + i) := jw_not (by omega)
          have rh : jw p h t wn v S i (S + i + h) = v (S + i + h) := jw_not (by omega)
          refine g_iload C dX0_joinHalves_12 (k := ?_)
          refine g_iload_n C dX0_joinHalves_14 (k := ?_)
          refine g_icN_ge (tgt := 128) C (by omega) (by omega) dX0_joinHalves_15 (by decide) (fun h => absurd h (by omega)) (fun _ => ?_)
          refine g_iload C dX0_joinHalves_18 (k := ?_)
          refine g_iload C dX0_joinHalves_20 (k := ?_)
          refine gN_iadd C dX0_joinHalves_22 ?_
          refine g_istore C dX0_joinHalves_23 (k := ?_)
          refine g_iload C dX0_joinHalves_25 (k := ?_)
          refine g_iload_n C dX0_joinHalves_27 (k := ?_)
          refine gN_iadd C dX0_joinHalves_28 ?_
          refine g_istore C dX0_joinHalves_29 (k := ?_)
          refine g_aload_n C dX0_joinHalves_31 (k := ?_)
          refine g_iload C dX0_joinHalves_32 (k := ?_)
          refine gN_lald C q hq (va_up_self _ _ _) ht (by omega) (by decide) dX0_joinHalves_34 ?_
          refine g_lstore C dX0_joinHalves_35 (k := ?_)
          refine g_aload_n C dX0_joinHalves_37 (k := ?_)
          refine g_iload C dX0_joinHalves_38 (k := ?_)
          refine gN_lald C q hq (va_up_self _ _ _) ht (by omega) (by decide) dX0_joinHalves_40 ?_
          refine g_aload_n C dX0_joinHalves_41 (k := ?_)
          refine g_getf (Cn := RX0) (T := TX0) (n := 8) (ref := "WheelProducts") C 0 1 h0 e1 rfl (by decide +kernel) (by decide) (by decide +kernel) (fun _ h => h) rfl dX0_joinHalves_42 ?_
          refine g_iload C dX0_joinHalves_45 (k := ?_)
          refine g_iload C dX0_joinHalves_47 (k := ?_)
          refine gN_imul C dX0_joinHalves_49 ?_
          refine gN_lald C 1 h1N e1w ht hit (by decide) dX0_joinHalves_50 ?_
          refine gN_lmul C dX0_joinHalves_51 ?_
          rw [rl, rh]
          have hv1 := hv (S + i) (by omega)
          have hmul : v (S + i + h) * wn (i * t) < 2 ^ 62 := Nat.lt_of_lt_of_le (Nat.mul_lt_mul'' (Nat.lt_trans (hv _ (by omega)) hp2) (Nat.lt_trans (hwn _ hit) hp2)) (by decide)
          refine g_aload_n C dX0_joinHalves_52 (k := ?_)
          refine g_getf (Cn := RX0) (T := TX0) (n := 8) (ref := "WheelProducts") C 0 0 h0 e1 rfl (by decide +kernel) (by decide) (by decide +kernel) (fun _ h => h) rfl dX0_joinHalves_53 ?_
          refine gN_lrem C (by omega) hp (by omega) dX0_joinHalves_56 ?_
          refine g_lstore C dX0_joinHalves_57 (k := ?_)
          have hol : v (S + i + h) * wn (i * t) % p < p := Nat.mod_lt _ hp
          have hj := jw_step (p := p) (h := h) (t := t) (wn := wn) (v := v) hi hSm
          generalize ho : v (S + i + h) * wn (i * t) % p = o at hol e2 hj ⊢
          by_cases h1 : p ≤ v (S + i) + o <;> by_cases h2 : o ≤ v (S + i)
          · refine g_lload C dX0_joinHalves_59 (k := ?_)
            refine g_lload C dX0_joinHalves_61 (k := ?_)
            refine gN_ladd C dX0_joinHalves_63 ?_
            refine g_lstore C dX0_joinHalves_64 (k := ?_)
            refine g_lload C dX0_joinHalves_66 (k := ?_)
            refine g_lload C dX0_joinHalves_68 (k := ?_)
            refine gN_lsub C h2 dX0_joinHalves_70 ?_
            refine g_lstore C dX0_joinHalves_71 (k := ?_)
            refine g_aload_n C dX0_joinHalves_73 (k := ?_)
            refine g_iload C dX0_joinHalves_74 (k := ?_)
            refine g_lload C dX0_joinHalves_76 (k := ?_)
            refine g_aload_n C dX0_joinHalves_78 (k := ?_)
            refine g_getf (Cn := RX0) (T := TX0) (n := 8) (ref := "WheelProducts") C 0 0 h0 e1 rfl (by decide +kernel) (by decide) (by decide +kernel) (fun _ h => h) rfl dX0_joinHalves_79 ?_
            refine g_lcN_lt (tgt := 96) C (by omega) (by omega) dX0_joinHalves_82 dX0_joinHalves_83 (by decide) (fun h => absurd h (by omega)) (fun _ => ?_)
            refine g_lload C dX0_joinHalves_86 (k := ?_)
            refine g_aload_n C dX0_joinHalves_88 (k := ?_)
            refine g_getf (Cn := RX0) (T := TX0) (n := 8) (ref := "WheelProducts") C 0 0 h0 e1 rfl (by decide +kernel) (by decide) (by decide +kernel) (fun _ h => h) rfl dX0_joinHalves_89 ?_
            refine gN_lsub C h1 dX0_joinHalves_92 ?_
            refine g_goto (tgt := 98) C dX0_joinHalves_93 (k := ?_)
            refine g_tl _ (show lN (v (S + i) + o - p) = lN (rdp p (v (S + i) + o)) by rw [rdp, if_pos h1]) ?_
            refine gN_last C q hq (va_up_self _ _ _) ht (by omega) (by decide) dX0_joinHalves_98 ?_
            rw [bx_uu]
            refine g_aload_n C dX0_joinHalves_99 (k := ?_)
            refine g_iload C dX0_joinHalves_100 (k := ?_)
            refine g_lload C dX0_joinHalves_102 (k := ?_)
            refine g_lconst C (lN 0) dX0_joinHalves_104 (k := ?_)
            refine g_lcN_ge (tgt := 119) C (by omega) (by decide) dX0_joinHalves_105 dX0_joinHalves_106 (by decide) (fun _ => ?_) (fun h => absurd h (by omega))
            refine g_lload C dX0_joinHalves_119 (k := ?_)
            refine g_tl _ (show lN (v (S + i) - o) = lN (sbp p (v (S + i)) o) by rw [sbp, if_pos h2]) ?_
            refine gN_last C q hq (va_up_self _ _ _) ht (by omega) (by decide) dX0_joinHalves_121 ?_
            rw [bx_uu, hj]
            refine gN_inc C dX0_joinHalves_122 (k := ?_)
            refine g_goto (tgt := 12) C dX0_joinHalves_125 (k := ?_)
            exact g_l2 (ihd (i + 1) (by omega) (by omega)) ⟨Or.inr rfl, Or.inr rfl, Or.inr rfl, Or.inr rfl, Or.inr rfl, Or.inr rfl, Or.inr rfl, trivial⟩
          · refine g_lload C dX0_joinHalves_59 (k := ?_)
            refine g_lload C dX0_joinHalves_61 (k := ?_)
            refine gN_ladd C dX0_joinHalves_63 ?_
            refine g_lstore C dX0_joinHalves_64 (k := ?_)
            refine g_lload C dX0_joinHalves_66 (k := ?_)
            refine g_lload C dX0_joinHalves_68 (k := ?_)
            refine g_lsub C dX0_joinHalves_70 (k := ?_)
            refine g_lstore C dX0_joinHalves_71 (k := ?_)
            refine g_aload_n C dX0_joinHalves_73 (k := ?_)
            refine g_iload C dX0_joinHalves_74 (k := ?_)
            refine g_lload C dX0_joinHalves_76 (k := ?_)
            refine g_aload_n C dX0_joinHalves_78 (k := ?_)
            refine g_getf (Cn := RX0) (T := TX0) (n := 8) (ref := "WheelProducts") C 0 0 h0 e1 rfl (by decide +kernel) (by decide) (by decide +kernel) (fun _ h => h) rfl dX0_joinHalves_79 ?_
            refine g_lcN_lt (tgt := 96) C (by omega) (by omega) dX0_joinHalves_82 dX0_joinHalves_83 (by decide) (fun h => absurd h (by omega)) (fun _ => ?_)
            refine g_lload C dX0_joinHalves_86 (k := ?_)
            refine g_aload_n C dX0_joinHalves_88 (k := ?_)
            refine g_getf (Cn := RX0) (T := TX0) (n := 8) (ref := "WheelProducts") C 0 0 h0 e1 rfl (by decide +kernel) (by decide) (by decide +kernel) (fun _ h => h) rfl dX0_joinHalves_89 ?_
            refine gN_lsub C h1 dX0_joinHalves_92 ?_
            refine g_goto (tgt := 98) C dX0_joinHalves_93 (k := ?_)
            refine g_tl _ (show lN (v (S + i) + o - p) = lN (rdp p (v (S + i) + o)) by rw [rdp, if_pos h1]) ?_
            refine gN_last C q hq (va_up_self _ _ _) ht (by omega) (by decide) dX0_joinHalves_98 ?_
            rw [bx_uu]
            refine g_aload_n C dX0_joinHalves_99 (k := ?_)
            refine g_iload C dX0_joinHalves_100 (k := ?_)
            refine g_lload C dX0_joinHalves_102 (k := ?_)
            refine g_lconst C (lN 0) dX0_joinHalves_104 (k := ?_)
            refine g_lc_ge (tgt := 119) C dX0_joinHalves_105 dX0_joinHalves_106 (by decide) (fun h => absurd h (k_neg (by omega) (by omega) (by omega))) (fun _ => ?_)
            refine g_lload C dX0_joinHalves_109 (k := ?_)
            refine g_aload_n C dX0_joinHalves_111 (k := ?_)
            refine g_getf (Cn := RX0) (T := TX0) (n := 8) (ref := "WheelProducts") C 0 0 h0 e2 rfl (by decide +kernel) (by decide) (by decide +kernel) (fun _ h => h) rfl dX0_joinHalves_112 ?_
            refine g_ladd C dX0_joinHalves_115 (k := ?_)
            refine g_goto (tgt := 121) C dX0_joinHalves_116 (k := ?_)
            refine g_tl _ (show lN (v (S + i)) - lN o + lN p = lN (sbp p (v (S + i)) o) by rw [sbp, if_neg h2, k_wrap (by omega)]) ?_
            refine gN_last C q hq (va_up_self _ _ _) ht (by omega) (by decide) dX0_joinHalves_121 ?_
            rw [bx_uu, hj]
            refine gN_inc C dX0_joinHalves_122 (k := ?_)
            refine g_goto (tgt := 12) C dX0_joinHalves_125 (k := ?_)
            exact g_l2 (ihd (i + 1) (by omega) (by omega)) ⟨Or.inr rfl, Or.inr rfl, Or.inr rfl, Or.inr rfl, Or.inr rfl, Or.inr rfl, Or.inr rfl, trivial⟩
          · refine g_lload C dX0_joinHalves_59 (k := ?_)
            refine g_lload C dX0_joinHalves_61 (k := ?_)
            refine gN_ladd C dX0_joinHalves_63 ?_
            refine g_lstore C dX0_joinHalves_64 (k := ?_)
            refine g_lload C dX0_joinHalves_66 (k := ?_)
            refine g_lload C dX0_joinHalves_68 (k := ?_)
            refine gN_lsub C h2 dX0_joinHalves_70 ?_
            refine g_lstore C dX0_joinHalves_71 (k := ?_)
            refine g_aload_n C dX0_joinHalves_73 (k := ?_)
            refine g_iload C dX0_joinHalves_74 (k := ?_)
            refine g_lload C dX0_joinHalves_76 (k := ?_)
            refine g_aload_n C dX0_joinHalves_78 (k := ?_)
            refine g_getf (Cn := RX0) (T := TX0) (n := 8) (ref := "WheelProducts") C 0 0 h0 e1 rfl (by decide +kernel) (by decide) (by decide +kernel) (fun _ h => h) rfl dX0_joinHalves_79 ?_
            refine g_lcN_lt (tgt := 96) C (by omega) (by omega) dX0_joinHalves_82 dX0_joinHalves_83 (by decide) (fun _ => ?_) (fun h => absurd h (by omega))
            refine g_lload C dX0_joinHalves_96 (k := ?_)
            refine g_tl _ (show lN (v (S + i) + o) = lN (rdp p (v (S + i) + o)) by rw [rdp, if_neg h1]) ?_
            refine gN_last C q hq (va_up_self _ _ _) ht (by omega) (by decide) dX0_joinHalves_98 ?_
            rw [bx_uu]
            refine g_aload_n C dX0_joinHalves_99 (k := ?_)
            refine g_iload C dX0_joinHalves_100 (k := ?_)
            refine g_lload C dX0_joinHalves_102 (k := ?_)
            refine g_lconst C (lN 0) dX0_joinHalves_104 (k := ?_)
            refine g_lcN_ge (tgt := 119) C (by omega) (by decide) dX0_joinHalves_105 dX0_joinHalves_106 (by decide) (fun _ => ?_) (fun h => absurd h (by omega))
            refine g_lload C dX0_joinHalves_119 (k := ?_)
            refine g_tl _ (show lN (v (S + i) - o) = lN (sbp p (v (S + i)) o) by rw [sbp, if_pos h2]) ?_
            refine gN_last C q hq (va_up_self _ _ _) ht (by omega) (by decide) dX0_joinHalves_121 ?_
            rw [bx_uu, hj]
            refine gN_inc C dX0_joinHalves_122 (k := ?_)
            refine g_goto (tgt := 12) C dX0_joinHalves_125 (k := ?_)
            exact g_l2 (ihd (i + 1) (by omega) (by omega)) ⟨Or.inr rfl, Or.inr rfl, Or.inr rfl, Or.inr rfl, Or.inr rfl, Or.inr rfl, Or.inr rfl, trivial⟩
          · refine g_lload C dX0_joinHalves_59 (k := ?_)
            refine g_lload C dX0_joinHalves_61 (k := ?_)
            refine gN_ladd C dX0_joinHalves_63 ?_
            refine g_lstore C dX0_joinHalves_64 (k := ?_)
            refine g_lload C dX0_joinHalves_66 (k := ?_)
            refine g_lload C dX0_joinHalves_68 (k := ?_)
            refine g_lsub C dX0_joinHalves_70 (k := ?_)
            refine g_lstore C dX0_joinHalves_71 (k := ?_)
            refine g_aload_n C dX0_joinHalves_73 (k := ?_)
            refine g_iload C dX0_joinHalves_74 (k := ?_)
            refine g_lload C dX0_joinHalves_76 (k := ?_)
            refine g_aload_n C dX0_joinHalves_78 (k := ?_)
            refine g_getf (Cn := RX0) (T := TX0) (n := 8) (ref := "WheelProducts") C 0 0 h0 e1 rfl (by decide +kernel) (by decide) (by decide +kernel) (fun _ h => h) rfl dX0_joinHalves_79 ?_
            refine g_lcN_lt (tgt := 96) C (by omega) (by omega) dX0_joinHalves_82 dX0_joinHalves_83 (by decide) (fun _ => ?_) (fun h => absurd h (by omega))
            refine g_lload C dX0_joinHalves_96 (k := ?_)
            refine g_tl _ (show lN (v (S + i) + o) = lN (rdp p (v (S + i) + o)) by rw [rdp, if_neg h1]) ?_
            refine gN_last C q hq (va_up_self _ _ _) ht (by omega) (by decide) dX0_joinHalves_98 ?_
            rw [bx_uu]
            refine g_aload_n C dX0_joinHalves_99 (k := ?_)
            refine g_iload C dX0_joinHalves_100 (k := ?_)
            refine g_lload C dX0_joinHalves_102 (k := ?_)
            refine g_lconst C (lN 0) dX0_joinHalves_104 (k := ?_)
            refine g_lc_ge (tgt := 119) C dX0_joinHalves_105 dX0_joinHalves_106 (by decide) (fun h => absurd h (k_neg (by omega) (by omega) (by omega))) (fun _ => ?_)
            refine g_lload C dX0_joinHalves_109 (k := ?_)
            refine g_aload_n C dX0_joinHalves_111 (k := ?_)
            refine g_getf (Cn := RX0) (T := TX0) (n := 8) (ref := "WheelProducts") C 0 0 h0 e2 rfl (by decide +kernel) (by decide) (by decide +kernel) (fun _ h => h) rfl dX0_joinHalves_112 ?_
            refine g_ladd C dX0_joinHalves_115 (k := ?_)
            refine g_goto (tgt := 121) C dX0_joinHalves_116 (k := ?_)
            refine g_tl _ (show lN (v (S + i)) - lN o + lN p = lN (sbp p (v (S + i)) o) by rw [sbp, if_neg h2, k_wrap (by omega)]) ?_
            refine gN_last C q hq (va_up_self _ _ _) ht (by omega) (by decide) dX0_joinHalves_121 ?_
            rw [bx_uu, hj]
            refine gN_inc C dX0_joinHalves_122 (k := ?_)
            refine g_goto (tgt := 12) C dX0_joinHalves_125 (k := ?_)
            exact g_l2 (ihd (i + 1) (by omega) (by omega)) ⟨Or.inr rfl, Or.inr rfl, Or.inr rfl, Or.inr rfl, Or.inr rfl, Or.inr rfl, Or.inr rfl, trivial⟩
      refine g_iload C dX0_joinHalves_3 (k := ?_)
      refine g_iload_n C dX0_joinHalves_5 (k := ?_)
      refine g_icN_ge (tgt := 139) C (by omega) (by omega) dX0_joinHalves_6 (by decide) (fun h => absurd h (by omega)) (fun _ => ?_)
      refine g_iconst C (nI 0) dX0_joinHalves_9 (k := ?_)
      refine g_istore C dX0_joinHalves_10 (k := ?_)
      exact g_l2 (inner h 0 (by omega) (by omega)) ⟨Or.inr rfl, Or.inr rfl, Or.inr rfl, Or.inr rfl, Or.inr rfl, Or.inr rfl, Or.inr rfl, trivial⟩
  refine g_iconst C (nI 0) dX0_joinHalves_0 (k := ?_)
  refine g_istore C dX0_joinHalves_1 (k := ?_)
  refine g_ct (ct' := va_up ct q (LN cJ 512 (jw p h t wn v (0 * (2 * h)) 0))) ?_ ?_
  · rw [Nat.zero_mul, jw_0]
    funext k
    by_cases hk : k = q
    · subst hk; rw [va_up_self]; exact he
    · rw [va_up_ne _ _ hk]
  · refine g_l2 (outer B 0 (by omega)) ⟨Or.inr rfl, Or.inr rfl, Or.inr ?_, Or.inr rfl, Or.inr rfl, Or.inr ?_, trivial⟩
    · rw [hne]; rfl
    · rw [Nat.zero_mul]; rfl
