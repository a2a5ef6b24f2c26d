/-! Numbers: the bits of an int as a number; shifts and masks; ranges. -/
/-- the bits of an int as a number -/
def uN (x : Int32) : Nat := x.toBitVec.toNat
theorem uN_lt (x : Int32) : uN x < 2 ^ 32 := x.toBitVec.isLt
theorem uN_nI {n : Nat} (h : n < 2 ^ 32) : uN (nI n) = n := pk_tn h
theorem nI_uN (x : Int32) : nI (uN x) = x := by
  apply Int32.toBitVec_inj.mp
  apply BitVec.eq_of_toNat_eq
  exact pk_tn (uN_lt x)
theorem uN_inj {x y : Int32} (h : uN x = uN y) : x = y := by rw [← nI_uN x, ← nI_uN y, h]
theorem uN_or (x y : Int32) : uN (x ||| y) = uN x ||| uN y := by
  unfold uN
  rw [Int32.toBitVec_or, BitVec.toNat_or]
theorem uN_and (x y : Int32) : uN (x &&& y) = uN x &&& uN y := by
  unfold uN
  rw [Int32.toBitVec_and, BitVec.toNat_and]
theorem uN_0 : uN 0 = 0 := rfl
theorem nI_z {q : Nat} (h : q < 2 ^ 32) : nI q = 0 ↔ q = 0 := by
  constructor
  · intro e
    have e2 := congrArg uN e
    rw [uN_nI h] at e2
    exact e2
  · intro e
    subst e
    rfl
theorem nI_i {a b : Nat} (ha : a < 2 ^ 32) (hb : b < 2 ^ 32) (e : nI a = nI b) : a = b := by
  have e2 := congrArg uN e
  rwa [uN_nI ha, uN_nI hb] at e2
/-- in a range -/
theorem hw_in {x : Int32} {n : Nat} (hn : n < 2 ^ 31) (h0 : ¬ x < 0) (h1 : ¬ nI n ≤ x) : uN x < n := by
  obtain ⟨j, hj, rfl⟩ := nI_of h0
  rw [uN_nI (by omega)]
  rw [nI_leI hn hj] at h1
  omega
theorem hw_neg {x : Int32} (h : x < 0) : 2 ^ 31 ≤ uN x := by
  apply Nat.le_of_not_lt
  intro h1
  rw [← nI_uN x] at h
  exact nI_pos h1 h
theorem hw_big {x : Int32} {n : Nat} (hn : n < 2 ^ 31) (h : nI n ≤ x) : ¬ uN x < n := by
  intro h1
  rw [← nI_uN x] at h
  exact nI_ge h1 hn h
theorem hw_pos {x : Int32} {n : Nat} (hn : n < 2 ^ 31) (h : uN x < n) : ¬ x < 0 ∧ x < nI n := by
  rw [← nI_uN x]
  exact ⟨nI_pos (by omega), nI_lt h hn⟩
-- shifts and bits
theorem hw_uc : ∀ d, d < 32 → (((nI d).toUInt32 &&& Int32.toUInt32 31).toBitVec % 32).toNat = d := by decide +kernel
theorem hw_ushr (x : Int32) {d : Nat} (hd : d < 32) : (x.toUInt32 >>> ((nI d).toUInt32 &&& Int32.toUInt32 31)).toInt32 = nI (uN x / 2 ^ d) := by
  apply uN_inj
  rw [uN_nI (Nat.lt_of_le_of_lt (Nat.div_le_self _ _) (uN_lt x))]
  exact pk_ushr x (nI d) d (hw_uc d hd)
theorem bI_nI (b : Bool) : bI b = nI b.toNat := by cases b <;> rfl
theorem hw_tb (x d : Nat) : nI (x / 2 ^ d % 2) = bI (x.testBit d) := by
  rw [bI_nI, Nat.toNat_testBit]
/-- bit d by >>> -/
theorem hw_ubit (x : Int32) {d : Nat} (hd : d < 32) : (x.toUInt32 >>> ((nI d).toUInt32 &&& Int32.toUInt32 31)).toInt32 &&& nI 1 = bI ((uN x).testBit d) := by
  rw [hw_ushr x hd, pk_andN (Nat.lt_of_le_of_lt (Nat.div_le_self _ _) (uN_lt x)) (m := nI 1) 1 (by decide), ← hw_tb]
/-- bit d by >> -/
theorem hw_sbit (x : Int32) {d : Nat} (hd : d < 32) : (x >>> (nI d &&& 31)) &&& nI 1 = bI ((uN x).testBit d) := by
  rw [pk_and (x >>> (nI d &&& 31)) (m := nI 1) 1 (by decide)]
  have h1 : (x >>> (nI d &&& 31)).toBitVec = x.toBitVec.sshiftRight d := by
    rw [Int32.toBitVec_shiftRight, BitVec.sshiftRight', hw_cnt d hd]
  rw [h1]
  have h2 : (x.toBitVec.sshiftRight d).toNat.testBit 0 = (uN x).testBit d := by
    show (x.toBitVec.sshiftRight d).getLsbD 0 = x.toBitVec.getLsbD d
    rw [BitVec.getLsbD_sshiftRight]
    simp [hd]
  rw [bI_nI, ← h2, Nat.toNat_testBit]
  simp
theorem hw_shr {a d : Nat} (ha : a < 2 ^ 31) (hd : d < 32) : nI a >>> (nI d &&& 31) = nI (a / 2 ^ d) := pk_shrN ha _ d (hw_cnt d hd)
theorem hw_bshl (b : Bool) {d : Nat} (hd : d < 32) : bI b <<< (nI d &&& 31) = nI (b.toNat * 2 ^ d) := by
  rw [bI_nI]
  have h : 2 ^ d ≤ 2 ^ 31 := Nat.pow_le_pow_right (by decide) (by omega)
  exact pk_shlN _ d (hw_cnt d hd) (by cases b <;> simp <;> omega)
/-- 2^d by a shift, d up to 31 -/
theorem hw_shl1' {d : Nat} (hd : d < 32) : nI 1 <<< (nI d &&& 31) = nI (2 ^ d) := by
  have h := hw_bshl true hd
  rw [bI_nI] at h
  simpa using h
/-- both are sets of n variables -/
theorem hw_sets {x y n : Nat} : (x ||| y) / 2 ^ n = 0 ↔ x < 2 ^ n ∧ y < 2 ^ n := by
  rw [Nat.div_eq_zero_iff_lt (Nat.two_pow_pos n)]
  constructor
  · intro h
    refine ⟨Nat.lt_of_le_of_lt Nat.left_le_or h, ?_⟩
    rw [Nat.or_comm] at h
    exact Nat.lt_of_le_of_lt Nat.left_le_or h
  · intro h
    exact Nat.or_lt_two_pow h.1 h.2
/-- a number or a bit that it hasn't -/
theorem hw_orb {x d : Nat} (h : x.testBit d = false) (b : Bool) : x ||| b.toNat * 2 ^ d = x + b.toNat * 2 ^ d := by
  cases b with
  | false => simp
  | true =>
    show x ||| 1 * 2 ^ d = x + 1 * 2 ^ d
    rw [Nat.one_mul]
    have e : x = 2 ^ (d + 1) * (x / 2 ^ (d + 1)) + x % 2 ^ d := by
      have h1 := Nat.div_add_mod x (2 ^ (d + 1))
      have h2 : x % 2 ^ (d + 1) = x % 2 ^ d := by
        rw [Nat.mod_pow_succ, ← Nat.toNat_testBit, h]
        simp
      rw [h2] at h1
      exact h1.symm
    have hr : x % 2 ^ d < 2 ^ d := Nat.mod_lt _ (Nat.two_pow_pos d)
    generalize x % 2 ^ d = r at e hr
    generalize x / 2 ^ (d + 1) = q at e
    subst e
    have hp : 2 ^ (d + 1) = 2 ^ d + 2 ^ d := Nat.two_pow_succ d
    rw [Nat.two_pow_add_eq_or_of_lt (by omega), Nat.or_assoc, Nat.or_two_pow_eq_add_of_lt hr, ← Nat.two_pow_add_eq_or_of_lt (by omega), ← Nat.two_pow_add_eq_or_of_lt (by omega)]
    omega
theorem bI_le (b : Bool) : b.toNat ≤ 1 := by cases b <;> decide
