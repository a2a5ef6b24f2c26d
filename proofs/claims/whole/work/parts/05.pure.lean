/-! The game, as numbers: who wins, the positions of the reference, lines of values. Nothing of the machine. -/
def sd_C (a x y : Bool) : Bool := if a = true then (x && y) else (x || y)
/-- Eve wins: k variables are left, d are set, v their values -/
def sd_R (A : Nat) (S : Nat → Bool) : Nat → Nat → Nat → Bool
  | 0, _, v => S v
  | k + 1, d, v => sd_C (A.testBit d) (sd_R A S k (d + 1) v) (sd_R A S k (d + 1) (v + 2 ^ d))
def sd_E (n A : Nat) (S : Nat → Bool) (d v : Nat) : Bool := sd_R A S (n - d) d v
theorem sd_E_n (n A : Nat) (S : Nat → Bool) (v : Nat) : sd_E n A S n v = S v := by
  unfold sd_E
  rw [Nat.sub_self]
  rfl
theorem sd_E_s {n A : Nat} {S : Nat → Bool} {d : Nat} (v : Nat) (h : d < n) : sd_E n A S d v = sd_C (A.testBit d) (sd_E n A S (d + 1) v) (sd_E n A S (d + 1) (v + 2 ^ d)) := by
  unfold sd_E
  rw [show n - d = (n - (d + 1)) + 1 by omega]
  rfl
theorem sd_R_cg {A : Nat} {S S' : Nat → Bool} : ∀ (k d v : Nat), (∀ w, w < 2 ^ (d + k) → S w = S' w) → v < 2 ^ d → sd_R A S k d v = sd_R A S' k d v
  | 0, d, v, h, hv => h v hv
  | k + 1, d, v, h, hv => by
    have h2 : 2 ^ (d + 1) = 2 ^ d + 2 ^ d := Nat.two_pow_succ d
    have h' : ∀ w, w < 2 ^ (d + 1 + k) → S w = S' w := fun w hw => h w (by rw [show d + (k + 1) = d + 1 + k by omega]; exact hw)
    show sd_C _ _ _ = sd_C _ _ _
    rw [sd_R_cg k (d + 1) v h' (by omega), sd_R_cg k (d + 1) (v + 2 ^ d) h' (by omega)]
theorem sd_E_cg {n A d v : Nat} {S S' : Nat → Bool} (h : ∀ w, w < 2 ^ n → S w = S' w) (hd : d ≤ n) (hv : v < 2 ^ d) : sd_E n A S d v = sd_E n A S' d v :=
  sd_R_cg _ _ _ (by rw [show d + (n - d) = n by omega]; exact h) hv
/-- the class's row of winners, by 2^d + v -/
def sd_ew (n A : Nat) (S : Nat → Bool) (j : Nat) : Bool := if j = 0 then false else sd_E n A S (Nat.log2 j) (j - 2 ^ Nat.log2 j)
theorem sd_log {d v : Nat} (h : v < 2 ^ d) : Nat.log2 (2 ^ d + v) = d := by
  have h0 := Nat.two_pow_pos d
  exact (Nat.log2_eq_iff (by omega)).mpr ⟨by omega, by rw [Nat.two_pow_succ]; omega⟩
theorem sd_ew_at {n A : Nat} {S : Nat → Bool} {d v : Nat} (h : v < 2 ^ d) : sd_ew n A S (2 ^ d + v) = sd_E n A S d v := by
  have h0 := Nat.two_pow_pos d
  unfold sd_ew
  rw [if_neg (by omega), sd_log h, Nat.add_sub_cancel_left]
theorem sd_split {n j : Nat} (h0 : j ≠ 0) (h : j < 2 * 2 ^ n) : ∃ d v, d ≤ n ∧ v < 2 ^ d ∧ j = 2 ^ d + v := by
  have h1 := Nat.log2_self_le h0
  have h2 := @Nat.lt_log2_self j
  rw [Nat.two_pow_succ] at h2
  refine ⟨Nat.log2 j, j - 2 ^ Nat.log2 j, ?_, by omega, by omega⟩
  have h3 := (Nat.log2_lt (k := n + 1) h0).mpr (by rw [Nat.two_pow_succ]; omega)
  omega
theorem sd_ew_cg {n A : Nat} {S S' : Nat → Bool} (h : ∀ w, w < 2 ^ n → S w = S' w) {j : Nat} (hj : j < 2 * 2 ^ n) : sd_ew n A S j = sd_ew n A S' j := by
  by_cases h0 : j = 0
  · subst h0
    rfl
  · obtain ⟨d, v, h1, h2, rfl⟩ := sd_split h0 hj
    rw [sd_ew_at h2, sd_ew_at h2, sd_E_cg h h1 h2]
/-- the reference's position behind the first d values of v -/
def sd_pos : Nat → Nat → Nat
  | 0, _ => 1
  | d + 1, v => 2 * sd_pos d v + (v.testBit d).toNat
theorem sd_pos_b (d v : Nat) : 2 ^ d ≤ sd_pos d v ∧ sd_pos d v < 2 * 2 ^ d := by
  induction d with
  | zero => exact ⟨Nat.le_refl 1, show 1 < 2 * 2 ^ 0 by decide⟩
  | succ d ih =>
    have h1 := bI_le (v.testBit d)
    have h2 := Nat.two_pow_succ d
    show 2 ^ (d + 1) ≤ 2 * sd_pos d v + (v.testBit d).toNat ∧ 2 * sd_pos d v + (v.testBit d).toNat < 2 * 2 ^ (d + 1)
    omega
theorem sd_pos_cg {v w : Nat} : ∀ d, (∀ i, i < d → v.testBit i = w.testBit i) → sd_pos d v = sd_pos d w
  | 0, _ => rfl
  | d + 1, h => by
    show 2 * sd_pos d v + (v.testBit d).toNat = 2 * sd_pos d w + (w.testBit d).toNat
    rw [sd_pos_cg d (fun i hi => h i (by omega)), h d (by omega)]
theorem sd_pos_0 {d v : Nat} (h : v < 2 ^ d) : sd_pos (d + 1) v = 2 * sd_pos d v := by
  show 2 * sd_pos d v + (v.testBit d).toNat = _
  rw [Nat.testBit_lt_two_pow h]
  rfl
theorem sd_pos_1 {d v : Nat} (h : v < 2 ^ d) : sd_pos (d + 1) (v + 2 ^ d) = 2 * sd_pos d v + 1 := by
  show 2 * sd_pos d (v + 2 ^ d) + ((v + 2 ^ d).testBit d).toNat = _
  rw [Nat.add_comm v, sd_pos_cg d (fun i hi => Nat.testBit_two_pow_add_gt hi v), Nat.testBit_two_pow_add_eq, Nat.testBit_lt_two_pow h]
  rfl
theorem sd_pos_dv (d v : Nat) : ∀ i, sd_pos (d + i) v / 2 ^ i = sd_pos d v
  | 0 => Nat.div_one _
  | i + 1 => by
    have h1 : sd_pos (d + i + 1) v / 2 = sd_pos (d + i) v := by
      have h2 := bI_le (v.testBit (d + i))
      show (2 * sd_pos (d + i) v + (v.testBit (d + i)).toNat) / 2 = _
      omega
    rw [Nat.pow_succ', ← Nat.div_div_eq_div_mul]
    show sd_pos (d + i + 1) v / 2 / 2 ^ i = _
    rw [h1]
    exact sd_pos_dv d v i
theorem sd_pos_tb {n k : Nat} (v : Nat) (h : k < n) : (sd_pos n v).testBit (n - 1 - k) = v.testBit k := by
  have h1 := sd_pos_dv (k + 1) v (n - 1 - k)
  rw [show k + 1 + (n - 1 - k) = n by omega] at h1
  have h2 := Nat.testBit_div_two_pow (n := n - 1 - k) (sd_pos n v) 0
  rw [Nat.zero_add, h1, Nat.testBit_zero] at h2
  rw [← h2]
  show decide ((2 * sd_pos k v + (v.testBit k).toNat) % 2 = 1) = v.testBit k
  cases v.testBit k
  · exact decide_eq_false (by show ¬ (2 * sd_pos k v + 0) % 2 = 1; omega)
  · exact decide_eq_true (by show (2 * sd_pos k v + 1) % 2 = 1; omega)
/-- the values that the reference reads off an end, after k steps -/
def sd_on (n e : Nat) : Nat → Nat
  | 0 => 0
  | k + 1 => sd_on n e k + (e.testBit (n - 1 - k)).toNat * 2 ^ k
theorem sd_on_lt (n e : Nat) : ∀ k, sd_on n e k < 2 ^ k
  | 0 => by show 0 < 1; decide
  | k + 1 => by
    have h1 := sd_on_lt n e k
    have h2 := Nat.two_pow_succ k
    show sd_on n e k + (e.testBit (n - 1 - k)).toNat * 2 ^ k < 2 ^ (k + 1)
    cases e.testBit (n - 1 - k)
    · show sd_on n e k + 0 * 2 ^ k < _; omega
    · show sd_on n e k + 1 * 2 ^ k < _; omega
theorem sd_on_pos {n v : Nat} : ∀ k, k ≤ n → sd_on n (sd_pos n v) k = v % 2 ^ k
  | 0, _ => (Nat.mod_one v).symm
  | k + 1, h => by
    show sd_on n (sd_pos n v) k + ((sd_pos n v).testBit (n - 1 - k)).toNat * 2 ^ k = _
    rw [sd_on_pos k (by omega), sd_pos_tb v (by omega), Nat.toNat_testBit, Nat.mod_pow_succ, Nat.mul_comm (2 ^ k)]
/-- the reference's winner: k variables left, at position j -/
def sd_M (n A : Nat) (S : Nat → Bool) : Nat → Nat → Bool
  | 0, j => S (sd_on n j n)
  | k + 1, j => sd_C (A.testBit (n - 1 - k)) (sd_M n A S k (2 * j)) (sd_M n A S k (2 * j + 1))
theorem sd_M_R {n A : Nat} {S : Nat → Bool} : ∀ k v, k ≤ n → v < 2 ^ (n - k) → sd_M n A S k (sd_pos (n - k) v) = sd_R A S k (n - k) v
  | 0, v, _, hv => by
    show S (sd_on n (sd_pos n v) n) = S v
    rw [sd_on_pos n (Nat.le_refl n), Nat.mod_eq_of_lt (show v < 2 ^ n from hv)]
  | k + 1, v, h, hv => by
    have h1 := sd_M_R (n := n) (A := A) (S := S) k v (by omega)
    have h2 := sd_M_R (n := n) (A := A) (S := S) k (v + 2 ^ (n - (k + 1))) (by omega)
    have e2 : n - 1 - k = n - (k + 1) := by omega
    have e1 : n - k = n - (k + 1) + 1 := by omega
    rw [e1] at h1 h2
    generalize n - (k + 1) = d at hv h1 h2 e2 ⊢
    have hp := Nat.two_pow_succ d
    have h1 := h1 (by omega)
    have h2 := h2 (by omega)
    rw [sd_pos_0 hv] at h1
    rw [sd_pos_1 hv] at h2
    show sd_C (A.testBit (n - 1 - k)) (sd_M n A S k (2 * sd_pos d v)) (sd_M n A S k (2 * sd_pos d v + 1)) = sd_C (A.testBit d) (sd_R A S k (d + 1) v) (sd_R A S k (d + 1) (v + 2 ^ d))
    rw [e2, h1, h2]
/-- the reference's row of winners -/
def sd_wn (n A : Nat) (S : Nat → Bool) (j : Nat) : Bool := if j = 0 ∨ 2 * 2 ^ n ≤ j then false else sd_M n A S (n - Nat.log2 j) j
theorem sd_lg {v j : Nat} (h1 : 2 ^ v ≤ j) (h2 : j < 2 * 2 ^ v) : Nat.log2 j = v := by
  have h0 := Nat.two_pow_pos v
  exact (Nat.log2_eq_iff (by omega)).mpr ⟨h1, by rw [Nat.two_pow_succ]; omega⟩
theorem sd_wn_in {n A : Nat} {S : Nat → Bool} {v j : Nat} (hv : v ≤ n) (h1 : 2 ^ v ≤ j) (h2 : j < 2 * 2 ^ v) : sd_wn n A S j = sd_M n A S (n - v) j := by
  have h0 := Nat.two_pow_pos v
  have h3 : 2 ^ v ≤ 2 ^ n := Nat.pow_le_pow_right (by decide) hv
  unfold sd_wn
  rw [if_neg (by omega), sd_lg h1 h2]
theorem sd_wn_at {n A : Nat} {S : Nat → Bool} {d v : Nat} (hd : d ≤ n) (hv : v < 2 ^ d) : sd_wn n A S (sd_pos d v) = sd_E n A S d v := by
  have hb := sd_pos_b d v
  have h1 := sd_M_R (n := n) (A := A) (S := S) (n - d) v (by omega)
  rw [show n - (n - d) = d by omega] at h1
  rw [sd_wn_in hd hb.1 hb.2, h1 hv]
  rfl
theorem sd_wn_leaf {n A : Nat} {S : Nat → Bool} {j : Nat} (h1 : 2 ^ n ≤ j) (h2 : j < 2 * 2 ^ n) : sd_wn n A S j = S (sd_on n j n) := by
  rw [sd_wn_in (Nat.le_refl n) h1 h2, Nat.sub_self]
  rfl
theorem sd_wn_node {n A : Nat} {S : Nat → Bool} {v j : Nat} (hv : v < n) (h1 : 2 ^ v ≤ j) (h2 : j < 2 * 2 ^ v) : sd_wn n A S j = sd_C (A.testBit v) (sd_wn n A S (2 * j)) (sd_wn n A S (2 * j + 1)) := by
  have hp := Nat.two_pow_succ v
  rw [sd_wn_in (Nat.le_of_lt hv) h1 h2, sd_wn_in (v := v + 1) hv (by omega) (by omega), sd_wn_in (v := v + 1) hv (by omega) (by omega)]
  rw [show n - v = (n - (v + 1)) + 1 by omega]
  show sd_C (A.testBit (n - 1 - (n - (v + 1)))) _ _ = _
  rw [show n - 1 - (n - (v + 1)) = v by omega]
/-- how many of Adam's variables stand before v -/
def sd_ct (A : Nat) : Nat → Nat
  | 0 => 0
  | v + 1 => sd_ct A v + (A.testBit v).toNat
theorem sd_ct_mono (A : Nat) {v w : Nat} (h : v ≤ w) : sd_ct A v ≤ sd_ct A w := by
  induction h with
  | refl => exact Nat.le_refl _
  | step _ ih => exact Nat.le_trans ih (Nat.le_add_right _ _)
theorem sd_ct_le (A : Nat) : ∀ v, sd_ct A v ≤ v
  | 0 => Nat.le_refl 0
  | v + 1 => Nat.add_le_add (sd_ct_le A v) (bI_le _)
/-- a number bit by bit: bit d is f d (the bits below) -/
def sd_ac (f : Nat → Nat → Bool) : Nat → Nat
  | 0 => 0
  | d + 1 => sd_ac f d + (f d (sd_ac f d)).toNat * 2 ^ d
theorem sd_ac_lt (f : Nat → Nat → Bool) : ∀ d, sd_ac f d < 2 ^ d
  | 0 => by show 0 < 1; decide
  | d + 1 => by
    have h1 := sd_ac_lt f d
    have h2 := Nat.two_pow_succ d
    show sd_ac f d + (f d (sd_ac f d)).toNat * 2 ^ d < 2 ^ (d + 1)
    cases f d (sd_ac f d)
    · show sd_ac f d + 0 * 2 ^ d < _; omega
    · show sd_ac f d + 1 * 2 ^ d < _; omega
theorem sd_ac_tb (f : Nat → Nat → Bool) {d : Nat} : ∀ m, d < m → (sd_ac f m).testBit d = f d (sd_ac f d)
  | 0, h => by omega
  | m + 1, h => by
    show (sd_ac f m + (f m (sd_ac f m)).toNat * 2 ^ m).testBit d = _
    rw [Nat.add_comm, Nat.mul_comm, Nat.testBit_two_pow_mul_add _ (sd_ac_lt f m)]
    by_cases hd : d < m
    · rw [if_pos hd]
      exact sd_ac_tb f m hd
    · obtain rfl : d = m := by omega
      rw [if_neg hd, Nat.sub_self]
      cases f d (sd_ac f d) <;> rfl
theorem sd_ac_hi (f : Nat → Nat → Bool) {d m : Nat} (h : m ≤ d) : (sd_ac f m).testBit d = false := Nat.testBit_lt_two_pow (Nat.lt_of_lt_of_le (sd_ac_lt f m) (Nat.pow_le_pow_right (by decide) h))
theorem sd_ac_cg {f g : Nat → Nat → Bool} : ∀ m, (∀ d, d < m → f d (sd_ac f d) = g d (sd_ac f d)) → sd_ac f m = sd_ac g m
  | 0, _ => rfl
  | m + 1, h => by
    have h1 := sd_ac_cg m (fun d hd => h d (by omega))
    show sd_ac f m + (f m (sd_ac f m)).toNat * 2 ^ m = sd_ac g m + (g m (sd_ac g m)).toNat * 2 ^ m
    rw [h m (by omega), h1]
theorem sd_pos_ac (f : Nat → Nat → Bool) (d : Nat) : sd_pos (d + 1) (sd_ac f (d + 1)) = 2 * sd_pos d (sd_ac f d) + (f d (sd_ac f d)).toNat := by
  show 2 * sd_pos d (sd_ac f (d + 1)) + ((sd_ac f (d + 1)).testBit d).toNat = _
  rw [sd_ac_tb f (d + 1) (by omega), sd_pos_cg (v := sd_ac f (d + 1)) (w := sd_ac f d) d (fun i hi => by rw [sd_ac_tb f (d + 1) (by omega), sd_ac_tb f d hi])]
theorem sd_pos_acm (f : Nat → Nat → Bool) {d m : Nat} (h : d ≤ m) : sd_pos d (sd_ac f m) = sd_pos d (sd_ac f d) :=
  sd_pos_cg d (fun i hi => by rw [sd_ac_tb f m (by omega), sd_ac_tb f d hi])
/-- a clause fails at v -/
def sd_fl (y z v : Nat) : Bool := (v &&& y == 0) && (v &&& z == z)
/-- how many of the first k clauses fail at v -/
def sd_br (Y Z : Nat → Nat) : Nat → Nat → Nat
  | 0, _ => 0
  | k + 1, v => sd_br Y Z k v + (sd_fl (Y k) (Z k) v).toNat
theorem sd_br_cg {Y Z Y' Z' : Nat → Nat} {v : Nat} : ∀ k, (∀ j, j < k → Y j = Y' j ∧ Z j = Z' j) → sd_br Y Z k v = sd_br Y' Z' k v
  | 0, _ => rfl
  | k + 1, h => by
    show sd_br Y Z k v + (sd_fl (Y k) (Z k) v).toNat = sd_br Y' Z' k v + (sd_fl (Y' k) (Z' k) v).toNat
    rw [sd_br_cg k (fun j hj => h j (by omega)), (h k (by omega)).1, (h k (by omega)).2]
theorem sd_br_le (Y Z : Nat → Nat) (v : Nat) : ∀ k, sd_br Y Z k v ≤ k
  | 0 => Nat.le_refl 0
  | k + 1 => Nat.add_le_add (sd_br_le Y Z v k) (bI_le _)
/-- one clause more -/
theorem sd_br_up (Y Z : Nat → Nat) (k y z v : Nat) : sd_br (va_up Y k y) (va_up Z k z) (k + 1) v = sd_br Y Z k v + (sd_fl y z v).toNat := by
  show sd_br (va_up Y k y) (va_up Z k z) k v + (sd_fl (va_up Y k y k) (va_up Z k z k) v).toNat = _
  rw [va_up_self, va_up_self, sd_br_cg k (fun j hj => ⟨va_up_ne Y y (by omega), va_up_ne Z z (by omega)⟩)]
/-- clause i taken out of c + 1 -/
def sd_sh (Y : Nat → Nat) (i c : Nat) : Nat → Nat := fun j => if i ≤ j ∧ j < c then Y (j + 1) else Y j
theorem sd_br_sh (Y Z : Nat → Nat) {i : Nat} (v : Nat) : ∀ c, i ≤ c → sd_br Y Z (c + 1) v = sd_br (sd_sh Y i c) (sd_sh Z i c) c v + (sd_fl (Y i) (Z i) v).toNat
  | 0, h => by
    obtain rfl : i = 0 := by omega
    rfl
  | c + 1, h => by
    by_cases hi : i = c + 1
    · subst hi
      show sd_br Y Z (c + 1) v + _ = _
      rw [sd_br_cg (Y' := sd_sh Y (c + 1) (c + 1)) (Z' := sd_sh Z (c + 1) (c + 1)) (c + 1) (fun j hj => ⟨(if_neg (by omega)).symm, (if_neg (by omega)).symm⟩)]
    · have ih := sd_br_sh Y Z (i := i) v c (by omega)
      show sd_br Y Z (c + 1) v + (sd_fl (Y (c + 1)) (Z (c + 1)) v).toNat = sd_br (sd_sh Y i (c + 1)) (sd_sh Z i (c + 1)) c v + (sd_fl (sd_sh Y i (c + 1) c) (sd_sh Z i (c + 1) c) v).toNat + (sd_fl (Y i) (Z i) v).toNat
      have e1 : sd_sh Y i (c + 1) c = Y (c + 1) := if_pos (by omega)
      have e2 : sd_sh Z i (c + 1) c = Z (c + 1) := if_pos (by omega)
      have e3 : sd_br (sd_sh Y i (c + 1)) (sd_sh Z i (c + 1)) c v = sd_br (sd_sh Y i c) (sd_sh Z i c) c v := by
        apply sd_br_cg
        intro j hj
        by_cases hij : i ≤ j
        · exact ⟨by unfold sd_sh; rw [if_pos (by omega), if_pos (by omega)], by unfold sd_sh; rw [if_pos (by omega), if_pos (by omega)]⟩
        · exact ⟨by unfold sd_sh; rw [if_neg (by omega), if_neg (by omega)], by unfold sd_sh; rw [if_neg (by omega), if_neg (by omega)]⟩
      rw [e1, e2, e3, ih]
      omega
/-- the best move -/
def sd_bm (n A : Nat) (S : Nat → Bool) (d v : Nat) : Bool := !(sd_E n A S (d + 1) v == !A.testBit d) && (sd_E n A S (d + 1) (v + 2 ^ d) == !A.testBit d)
/-- how many below k -/
def sd_cn (f : Nat → Bool) : Nat → Nat
  | 0 => 0
  | k + 1 => sd_cn f k + (f k).toNat
theorem sd_cn_cg {f g : Nat → Bool} : ∀ k, (∀ j, j < k → f j = g j) → sd_cn f k = sd_cn g k
  | 0, _ => rfl
  | k + 1, h => by
    show sd_cn f k + _ = sd_cn g k + _
    rw [sd_cn_cg k (fun j hj => h j (by omega)), h k (by omega)]
theorem sd_cn_le (f : Nat → Bool) : ∀ k, sd_cn f k ≤ k
  | 0 => Nat.le_refl 0
  | k + 1 => Nat.add_le_add (sd_cn_le f k) (bI_le _)
theorem sd_cn_add (f : Nat → Bool) (a : Nat) : ∀ b, sd_cn f (a + b) = sd_cn f a + sd_cn (fun j => f (a + j)) b
  | 0 => rfl
  | b + 1 => by
    show sd_cn f (a + b) + (f (a + b)).toNat = sd_cn f a + (sd_cn (fun j => f (a + j)) b + (f (a + b)).toNat)
    rw [sd_cn_add f a b]
    omega
theorem sd_cn_two (f : Nat → Bool) : ∀ k, sd_cn f (2 * k) = sd_cn (fun j => f (2 * j)) k + sd_cn (fun j => f (2 * j + 1)) k
  | 0 => rfl
  | k + 1 => by
    show sd_cn f (2 * k) + (f (2 * k)).toNat + (f (2 * k + 1)).toNat = (sd_cn _ k + (f (2 * k)).toNat) + (sd_cn _ k + (f (2 * k + 1)).toNat)
    rw [sd_cn_two f k]
    omega
/-- the ends under a position are the values that go on from it -/
theorem sd_cn_pos {n : Nat} {S : Nat → Bool} : ∀ k v, k ≤ n → v < 2 ^ (n - k) → sd_cn (fun j => S (sd_on n (sd_pos (n - k) v * 2 ^ k + j) n)) (2 ^ k) = sd_cn (fun w => S (v + 2 ^ (n - k) * w)) (2 ^ k)
  | 0, v, _, hv => by
    show 0 + (S (sd_on n (sd_pos n v * 1 + 0) n)).toNat = 0 + (S (v + 2 ^ n * 0)).toNat
    rw [Nat.mul_one, Nat.add_zero, sd_on_pos n (Nat.le_refl n), Nat.mod_eq_of_lt (show v < 2 ^ n from hv), Nat.mul_zero, Nat.add_zero]
  | k + 1, v, h, hv => by
    have h1 := sd_cn_pos (n := n) (S := S) k v (by omega)
    have h2 := sd_cn_pos (n := n) (S := S) k (v + 2 ^ (n - (k + 1))) (by omega)
    rw [show n - k = n - (k + 1) + 1 by omega] at h1 h2
    generalize n - (k + 1) = d at hv h1 h2 ⊢
    have hp := Nat.two_pow_succ d
    have hk := Nat.two_pow_succ k
    have h1 := h1 (by omega)
    have h2 := h2 (by omega)
    rw [sd_pos_0 hv] at h1
    rw [sd_pos_1 hv] at h2
    have e1 : sd_cn (fun j => S (sd_on n (sd_pos d v * 2 ^ (k + 1) + j) n)) (2 ^ (k + 1)) = sd_cn (fun j => S (sd_on n (2 * sd_pos d v * 2 ^ k + j) n)) (2 ^ k) + sd_cn (fun j => S (sd_on n ((2 * sd_pos d v + 1) * 2 ^ k + j) n)) (2 ^ k) := by
      rw [hk, sd_cn_add]
      have a1 : sd_pos d v * (2 ^ k + 2 ^ k) = 2 * sd_pos d v * 2 ^ k := by
        rw [← Nat.two_mul, ← Nat.mul_assoc, Nat.mul_comm (sd_pos d v) 2]
      have a2 : ∀ j, sd_pos d v * (2 ^ k + 2 ^ k) + (2 ^ k + j) = (2 * sd_pos d v + 1) * 2 ^ k + j := by
        intro j
        rw [a1, Nat.add_mul, Nat.one_mul]
        omega
      rw [a1]
      congr 1
      apply sd_cn_cg
      intro j _
      show S (sd_on n (2 * sd_pos d v * 2 ^ k + (2 ^ k + j)) n) = _
      rw [← a1, a2 j]
    have e2 : sd_cn (fun w => S (v + 2 ^ d * w)) (2 ^ (k + 1)) = sd_cn (fun w => S (v + 2 ^ (d + 1) * w)) (2 ^ k) + sd_cn (fun w => S (v + 2 ^ d + 2 ^ (d + 1) * w)) (2 ^ k) := by
      rw [Nat.pow_succ', sd_cn_two]
      congr 1
      · apply sd_cn_cg
        intro j _
        show S (v + 2 ^ d * (2 * j)) = _
        rw [← Nat.mul_assoc, Nat.mul_comm (2 ^ d) 2, ← Nat.pow_succ']
      · apply sd_cn_cg
        intro j _
        show S (v + 2 ^ d * (2 * j + 1)) = _
        rw [Nat.mul_add, Nat.mul_one, ← Nat.mul_assoc, Nat.mul_comm (2 ^ d) 2, ← Nat.pow_succ', Nat.add_comm (2 ^ (d + 1) * j), Nat.add_assoc]
    rw [e1, e2, h1, h2]
theorem sd_cn_all {n : Nat} {S : Nat → Bool} : sd_cn (fun j => S (sd_on n (2 ^ n + j) n)) (2 ^ n) = sd_cn S (2 ^ n) := by
  have h := sd_cn_pos (n := n) (S := S) n 0 (Nat.le_refl n) (by rw [Nat.sub_self]; decide)
  rw [Nat.sub_self] at h
  have e1 : ∀ j, sd_pos 0 0 * 2 ^ n + j = 2 ^ n + j := fun j => by show 1 * 2 ^ n + j = _; rw [Nat.one_mul]
  have e2 : ∀ w, 0 + 2 ^ 0 * w = w := fun w => by rw [Nat.zero_add, Nat.pow_zero, Nat.one_mul]
  simp only [e1, e2] at h
  exact h
