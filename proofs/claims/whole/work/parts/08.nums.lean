/-! ===== rows over natural numbers: nI, lN on the stack ===== -/
theorem k_andI (a b : Nat) : nI a &&& nI b = nI (a &&& b) := by
  apply Int32.toBitVec_inj.1
  show BitVec.ofNat 32 a &&& BitVec.ofNat 32 b = BitVec.ofNat 32 (a &&& b)
  apply BitVec.eq_of_getLsbD_eq
  intro i hi
  simp [hi]
theorem k_lI {a : Nat} (h : a < 2 ^ 63) : (lN a).toInt = (a : Int) := lg_ofNat_toInt h
theorem k_lshr1 {a : Nat} (h : a < 2 ^ 63) : lN a >>> ((nI 1).toInt64 &&& 63) = lN (a / 2) := by
  have hD : (((nI 1).toInt64 &&& 63).toBitVec.smod 64).toNat = 1 := by decide
  have hd : a / 2 ≤ a := Nat.div_le_self _ _
  apply Int64.toInt_inj.mp
  have e : (lN a >>> ((nI 1).toInt64 &&& 63)).toInt = (lN a).toInt >>> 1 := by
    have := BitVec.toInt_sshiftRight (x := (lN a).toBitVec) (n := (((nI 1).toInt64 &&& 63).toBitVec.smod 64).toNat)
    rw [hD] at this
    exact this
  rw [e, Int.shiftRight_eq_div_pow, k_lI h, k_lI (by omega)]
  rfl
theorem k_andL {a b : Nat} : lN a &&& lN b = lN (a &&& b) := by
  apply Int64.toBitVec_inj.1
  show BitVec.ofNat 64 a &&& BitVec.ofNat 64 b = BitVec.ofNat 64 (a &&& b)
  apply BitVec.eq_of_getLsbD_eq
  intro i hi
  simp [hi]
theorem k_and1 (a : Nat) : lN a &&& lN 1 = lN (a % 2) := by
  rw [k_andL, Nat.and_one_is_mod]
theorem k_lne {b : Nat} (h0 : 0 < b) (hb : b < 2 ^ 63) : ¬ lN b = 0 := fun h => by
  have : b = 0 := (pk_lEQ hb (by decide)).mp (h.trans (show (0 : Int64) = lN 0 from rfl))
  omega
section
variable {M : gM} {cc : ByteArray} {own : String} {Ts : List Cond} {tys : List (ClassId × FieldType)} {D : va_G} {cl : List vw_C} {A : Nat → Prop} {nL cells slots : Nat} {Q : State → Prop} {N : Nat} {ad : Nat → Nat} {pc : Nat} {lv : gLv} {rest : List Value} {ct : Nat → va_E}
theorem gN_iadd (C : gX M cc own Ts tys D cl A nL) {a b : Nat} (d : decode cc pc = .ok (.iadd, 1)) (k : gW M D cl A nL cells slots Q N ad (pc + 1) lv (.int (nI (a + b)) :: rest) ct) : gW M D cl A nL cells slots Q N ad pc lv (.int (nI b) :: .int (nI a) :: rest) ct := g_iadd C d (g_ti _ (nI_add a b) k)
theorem gN_isub (C : gX M cc own Ts tys D cl A nL) {a b : Nat} (h : b ≤ a) (d : decode cc pc = .ok (.isub, 1)) (k : gW M D cl A nL cells slots Q N ad (pc + 1) lv (.int (nI (a - b)) :: rest) ct) : gW M D cl A nL cells slots Q N ad pc lv (.int (nI b) :: .int (nI a) :: rest) ct := g_isub C d (g_ti _ (pk_sub h) k)
theorem gN_imul (C : gX M cc own Ts tys D cl A nL) {a b : Nat} (d : decode cc pc = .ok (.imul, 1)) (k : gW M D cl A nL cells slots Q N ad (pc + 1) lv (.int (nI (a * b)) :: rest) ct) : gW M D cl A nL cells slots Q N ad pc lv (.int (nI b) :: .int (nI a) :: rest) ct := g_imul C d (g_ti _ (pk_mul a b) k)
theorem gN_iand (C : gX M cc own Ts tys D cl A nL) {a b : Nat} (d : decode cc pc = .ok (.iand, 1)) (k : gW M D cl A nL cells slots Q N ad (pc + 1) lv (.int (nI (a &&& b)) :: rest) ct) : gW M D cl A nL cells slots Q N ad pc lv (.int (nI b) :: .int (nI a) :: rest) ct := g_iand C d (g_ti _ (k_andI a b) k)
theorem gN_idiv (C : gX M cc own Ts tys D cl A nL) {a b : Nat} (ha : a < 2 ^ 31) (h0 : 0 < b) (hb : b < 2 ^ 31) (d : decode cc pc = .ok (.idiv, 1)) (k : gW M D cl A nL cells slots Q N ad (pc + 1) lv (.int (nI (a / b)) :: rest) ct) : gW M D cl A nL cells slots Q N ad pc lv (.int (nI b) :: .int (nI a) :: rest) ct := g_idiv C d (nI_ne0 h0 hb) (g_ti _ (pk_div ha h0 hb) k)
theorem gN_ladd (C : gX M cc own Ts tys D cl A nL) {a b : Nat} (d : decode cc pc = .ok (.ladd, 1)) (k : gW M D cl A nL cells slots Q N ad (pc + 1) lv (.long (lN (a + b)) :: rest) ct) : gW M D cl A nL cells slots Q N ad pc lv (.long (lN b) :: .long (lN a) :: rest) ct := g_ladd C d (g_tl _ (lN_add a b) k)
theorem gN_lsub (C : gX M cc own Ts tys D cl A nL) {a b : Nat} (h : b ≤ a) (d : decode cc pc = .ok (.lsub, 1)) (k : gW M D cl A nL cells slots Q N ad (pc + 1) lv (.long (lN (a - b)) :: rest) ct) : gW M D cl A nL cells slots Q N ad pc lv (.long (lN b) :: .long (lN a) :: rest) ct := g_lsub C d (g_tl _ (lN_sub h) k)
theorem gN_lmul (C : gX M cc own Ts tys D cl A nL) {a b : Nat} (d : decode cc pc = .ok (.lmul, 1)) (k : gW M D cl A nL cells slots Q N ad (pc + 1) lv (.long (lN (a * b)) :: rest) ct) : gW M D cl A nL cells slots Q N ad pc lv (.long (lN b) :: .long (lN a) :: rest) ct := g_lmul C d (g_tl _ (lN_mul a b) k)
theorem gN_lrem (C : gX M cc own Ts tys D cl A nL) {a b : Nat} (ha : a < 2 ^ 63) (h0 : 0 < b) (hb : b < 2 ^ 63) (d : decode cc pc = .ok (.lrem, 1)) (k : gW M D cl A nL cells slots Q N ad (pc + 1) lv (.long (lN (a % b)) :: rest) ct) : gW M D cl A nL cells slots Q N ad pc lv (.long (lN b) :: .long (lN a) :: rest) ct := g_lrem C d (k_lne h0 hb) (g_tl _ (pk_lRem ha h0 hb) k)
theorem gN_ldiv (C : gX M cc own Ts tys D cl A nL) {a b : Nat} (ha : a < 2 ^ 63) (h0 : 0 < b) (hb : b < 2 ^ 63) (d : decode cc pc = .ok (.ldiv, 1)) (k : gW M D cl A nL cells slots Q N ad (pc + 1) lv (.long (lN (a / b)) :: rest) ct) : gW M D cl A nL cells slots Q N ad pc lv (.long (lN b) :: .long (lN a) :: rest) ct := g_ldiv C d (k_lne h0 hb) (g_tl _ (pk_lDiv ha h0 hb) k)
theorem gN_i2l (C : gX M cc own Ts tys D cl A nL) {a : Nat} (h : a < 2 ^ 31) (d : decode cc pc = .ok (.i2l, 1)) (k : gW M D cl A nL cells slots Q N ad (pc + 1) lv (.long (lN a) :: rest) ct) : gW M D cl A nL cells slots Q N ad pc lv (.int (nI a) :: rest) ct := g_i2l C d (g_tl _ (nI_l h) k)
theorem gN_inc (C : gX M cc own Ts tys D cl A nL) {i a : Nat} (d : decode cc pc = .ok (.iinc i 1, 3)) (h : lvq lv i = some (.int (nI a)) := by rfl) (hi : i < nL := by decide) (hc : lvc lv i = true := by rfl) (k : gW M D cl A nL cells slots Q N ad (pc + 3) ((i, some (.int (nI (a + 1)))) :: lv) rest ct) : gW M D cl A nL cells slots Q N ad pc lv rest ct := g_iinc C (nI (a + 1)) d (by rw [← nI_1]; rfl) h hi hc k
theorem gN_dec (C : gX M cc own Ts tys D cl A nL) {i a : Nat} (d : decode cc pc = .ok (.iinc i (-1), 3)) (h : lvq lv i = some (.int (nI (a + 1))) := by rfl) (hi : i < nL := by decide) (hc : lvc lv i = true := by rfl) (k : gW M D cl A nL cells slots Q N ad (pc + 3) ((i, some (.int (nI a))) :: lv) rest ct) : gW M D cl A nL cells slots Q N ad pc lv rest ct := g_iinc C (nI a) d (by rw [← pk_m1 a]; rfl) h hi hc k
end
/-- no room of its own -/
abbrev rz : Room := { frames := 0, cells := 0, slots := 0, locals := 0 }
