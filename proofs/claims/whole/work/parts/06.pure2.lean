/-! The game, as numbers: clauses of the reference, lines of sums, learned tables, gaps, Adam's first five. -/
/-- all clauses hold, as the reference reads it -/
def sd_al (Y Z : Nat → Nat) (sk : Nat → Bool) (g : Bool) (v : Nat) : Nat → Bool
  | 0 => g
  | k + 1 => sd_al Y Z sk g v k && (sk k || !sd_fl (Y k) (Z k) v)
theorem sd_z (a : Nat) (b : Bool) : (a + b.toNat == 0) = ((a == 0) && !b) := by
  cases b
  · show (a + 0 == 0) = ((a == 0) && true)
    rw [Nat.add_zero, Bool.and_true]
  · show (a + 1 == 0) = ((a == 0) && false)
    rw [Bool.and_false]
    exact beq_false_of_ne (by omega)
theorem sd_al_g (Y Z : Nat → Nat) (sk : Nat → Bool) (g : Bool) (v : Nat) : ∀ k, sd_al Y Z sk g v k = (g && sd_al Y Z sk true v k)
  | 0 => (Bool.and_true g).symm
  | k + 1 => by
    show (sd_al Y Z sk g v k && _) = (g && (sd_al Y Z sk true v k && _))
    rw [sd_al_g Y Z sk g v k, Bool.and_assoc]
theorem sd_al_n (Y Z : Nat → Nat) (sk : Nat → Bool) (v : Nat) : ∀ k, (∀ j, j < k → sk j = false) → sd_al Y Z sk true v k = (sd_br Y Z k v == 0)
  | 0, _ => rfl
  | k + 1, h => by
    show (sd_al Y Z sk true v k && (sk k || !sd_fl (Y k) (Z k) v)) = (sd_br Y Z k v + (sd_fl (Y k) (Z k) v).toNat == 0)
    rw [sd_al_n Y Z sk v k (fun j hj => h j (by omega)), h k (by omega), Bool.false_or, sd_z]
theorem sd_al_m (Y Z : Nat → Nat) (y z v k : Nat) : sd_al Y Z (fun _ => false) (!sd_fl y z v) v k = (sd_br (va_up Y k y) (va_up Z k z) (k + 1) v == 0) := by
  rw [sd_al_g, sd_al_n _ _ _ _ k (fun _ _ => rfl), sd_br_up, sd_z, Bool.and_comm]
theorem sd_al_s (Y Z : Nat → Nat) {i : Nat} (v : Nat) : ∀ c, i ≤ c → sd_al Y Z (fun k => k == i) true v (c + 1) = (sd_br (sd_sh Y i c) (sd_sh Z i c) c v == 0)
  | 0, h => by
    obtain rfl : i = 0 := by omega
    rfl
  | c + 1, h => by
    show (sd_al Y Z (fun k => k == i) true v (c + 1) && ((c + 1 == i) || !sd_fl (Y (c + 1)) (Z (c + 1)) v)) = _
    by_cases hi : i = c + 1
    · subst hi
      rw [sd_al_n Y Z _ v (c + 1) (fun j hj => beq_false_of_ne (by omega)), beq_self_eq_true, Bool.true_or, Bool.and_true]
      rw [sd_br_cg (Y' := sd_sh Y (c + 1) (c + 1)) (Z' := sd_sh Z (c + 1) (c + 1)) (c + 1) (fun j hj => ⟨(if_neg (by omega)).symm, (if_neg (by omega)).symm⟩)]
    · have e0 : (c + 1 == i) = false := beq_false_of_ne (fun h2 => hi h2.symm)
      have e1 : sd_sh Y i (c + 1) c = Y (c + 1) := if_pos (by omega)
      have e2 : sd_sh Z i (c + 1) c = Z (c + 1) := if_pos (by omega)
      have e3 : sd_br (sd_sh Y i (c + 1)) (sd_sh Z i (c + 1)) c v = sd_br (sd_sh Y i c) (sd_sh Z i c) c v := by
        apply sd_br_cg
        intro j hj
        by_cases hij : i ≤ j
        · exact ⟨by unfold sd_sh; rw [if_pos (by omega), if_pos (by omega)], by unfold sd_sh; rw [if_pos (by omega), if_pos (by omega)]⟩
        · exact ⟨by unfold sd_sh; rw [if_neg (by omega), if_neg (by omega)], by unfold sd_sh; rw [if_neg (by omega), if_neg (by omega)]⟩
      show _ = (sd_br (sd_sh Y i (c + 1)) (sd_sh Z i (c + 1)) c v + (sd_fl (sd_sh Y i (c + 1) c) (sd_sh Z i (c + 1) c) v).toNat == 0)
      rw [e0, Bool.false_or, sd_al_s Y Z v c (by omega), e1, e2, e3, sd_z]
/-- the line of a sum: Adam's values are its bits, Eve's are g's -/
def sd_li (A : Nat) (g : Nat → Nat → Bool) (sum : Nat) : Nat → Nat → Bool := fun d x => if A.testBit d = true then sum.testBit (sd_ct A d) else g d x
theorem sd_li_a {A : Nat} {g : Nat → Nat → Bool} {sum d x : Nat} (h : A.testBit d = true) : sd_li A g sum d x = sum.testBit (sd_ct A d) := if_pos h
theorem sd_li_e {A : Nat} {g : Nat → Nat → Bool} {sum d x : Nat} (h : A.testBit d = false) : sd_li A g sum d x = g d x := if_neg (by rw [h]; decide)
theorem sd_ct_a {A w d : Nat} (h : A.testBit w = true) (hw : w < d) : sd_ct A w < sd_ct A d := by
  have h1 := sd_ct_mono A (v := w + 1) (w := d) hw
  have h2 : sd_ct A (w + 1) = sd_ct A w + 1 := by
    show sd_ct A w + (A.testBit w).toNat = _
    rw [h]
    rfl
  omega
theorem sd_tbm {s t m i : Nat} (h : s % 2 ^ m = t % 2 ^ m) (hi : i < m) : s.testBit i = t.testBit i := by
  have h1 := Nat.testBit_mod_two_pow s m i
  have h2 := Nat.testBit_mod_two_pow t m i
  rw [h, h2] at h1
  simpa [hi] using h1.symm
theorem sd_li_cg {A : Nat} {g : Nat → Nat → Bool} {s t d : Nat} (h : s % 2 ^ sd_ct A d = t % 2 ^ sd_ct A d) : sd_ac (sd_li A g s) d = sd_ac (sd_li A g t) d := by
  apply sd_ac_cg
  intro w hw
  by_cases ha : A.testBit w = true
  · rw [sd_li_a ha, sd_li_a ha]
    exact sd_tbm h (sd_ct_a ha hw)
  · have ha : A.testBit w = false := by simpa using ha
    rw [sd_li_e ha, sd_li_e ha]
/-- what is learned for variable v at index i -/
def sd_lb (n A : Nat) (S : Nat → Bool) (v i : Nat) : Bool := sd_bm n A S v (sd_ac (sd_li A (sd_bm n A S) i) v)
/-- a table of k bits -/
def sd_ob (g : Nat → Bool) (k : Nat) : Nat := sd_ac (fun i _ => g i) k
theorem sd_ob_s (g : Nat → Bool) (k : Nat) : sd_ob g (k + 1) = sd_ob g k + (g k).toNat * 2 ^ k := rfl
theorem sd_ob_lt (g : Nat → Bool) (k : Nat) : sd_ob g k < 2 ^ k := sd_ac_lt _ k
theorem sd_ob_tb (g : Nat → Bool) {i k : Nat} (h : i < k) : (sd_ob g k).testBit i = g i := sd_ac_tb _ k h
theorem sd_ob_hi (g : Nat → Bool) {i k : Nat} (h : k ≤ i) : (sd_ob g k).testBit i = false := sd_ac_hi _ h
/-- one bit more -/
theorem sd_ob_or (g : Nat → Bool) (k : Nat) : sd_ob g k ||| (g k).toNat * 2 ^ k = sd_ob g (k + 1) := by
  rw [hw_orb (sd_ob_hi g (Nat.le_refl k))]
  rfl
/-- a bit that is there already -/
theorem sd_ob_in (g : Nat → Bool) {i k : Nat} (h : i < k) : sd_ob g k ||| (g i).toNat * 2 ^ i = sd_ob g k := by
  apply Nat.eq_of_testBit_eq
  intro j
  rw [Nat.testBit_or, Nat.testBit_mul_two_pow]
  by_cases hj : j = i
  · subst hj
    rw [sd_ob_tb g h]
    cases g j <;> simp
  · have e : (decide (i ≤ j) && (g i).toNat.testBit (j - i)) = false := by
      by_cases hij : i ≤ j
      · have h1 : (g i).toNat < 2 ^ (j - i) := by
          have h2 := bI_le (g i)
          have h3 : 2 ^ 1 ≤ 2 ^ (j - i) := Nat.pow_le_pow_right (by decide) (by omega)
          omega
        rw [Nat.testBit_lt_two_pow h1, Bool.and_false]
      · rw [decide_eq_false hij, Bool.false_and]
    rw [e, Bool.or_false]
def sd_lt (n A : Nat) (S : Nat → Bool) (v : Nat) : Nat := sd_ob (sd_lb n A S v) (2 ^ sd_ct A v)
/-- the tables behind learn -/
def sd_T (n A : Nat) (S : Nat → Bool) (T : Nat → Int32) : Nat → Int32 := fun v => if v < n then (if A.testBit v = true then 0 else nI (sd_lt n A S v)) else T v
/-- the line of the claims -/
def sd_cl (A : Nat) (T : Nat → Int32) (sum : Nat) : Nat → Nat → Bool := sd_li A (fun d _ => (uN (T d)).testBit (sum % 2 ^ sd_ct A d)) sum
theorem sd_p32 {A n v : Nat} (h5 : sd_ct A n ≤ 5) (hv : v ≤ n) : 2 ^ sd_ct A v ≤ 32 := by
  have h1 := sd_ct_mono A hv
  exact Nat.pow_le_pow_right (n := 2) (by decide) (show sd_ct A v ≤ 5 by omega)
theorem sd_lt_32 {n A v : Nat} {S : Nat → Bool} (h5 : sd_ct A n ≤ 5) (hv : v ≤ n) : sd_lt n A S v < 2 ^ 32 :=
  Nat.lt_of_lt_of_le (sd_ob_lt _ _) (Nat.pow_le_pow_right (by decide) (sd_p32 h5 hv))
/-- learned tables lead along the best moves -/
theorem sd_cl_learn {n A : Nat} {S : Nat → Bool} {T : Nat → Int32} (h5 : sd_ct A n ≤ 5) (sum : Nat) {m : Nat} (hm : m ≤ n) (hT : ∀ d, d < m → A.testBit d = false → T d = nI (sd_lt n A S d)) : sd_ac (sd_cl A T sum) m = sd_ac (sd_li A (sd_bm n A S) sum) m := by
  symm
  apply sd_ac_cg
  intro d hd
  by_cases ha : A.testBit d = true
  · unfold sd_cl
    rw [sd_li_a ha, sd_li_a ha]
  · have ha : A.testBit d = false := by simpa using ha
    unfold sd_cl
    rw [sd_li_e ha, sd_li_e ha, hT d hd ha, uN_nI (sd_lt_32 h5 (by omega))]
    unfold sd_lt
    rw [sd_ob_tb _ (Nat.mod_lt _ (Nat.two_pow_pos _))]
    unfold sd_lb
    rw [sd_li_cg (s := sum % 2 ^ sd_ct A d) (t := sum) (Nat.mod_mod _ _)]
/-- the first place where f fails, of the k from i on -/
def sd_gp (f : Nat → Bool) : Nat → Nat → Int32
  | 0, _ => -1
  | k + 1, i => if f i = true then sd_gp f k (i + 1) else nI i
theorem sd_gp_cg {f g : Nat → Bool} : ∀ k i, (∀ j, i ≤ j → j < i + k → f j = g j) → sd_gp f k i = sd_gp g k i
  | 0, _, _ => rfl
  | k + 1, i, h => by
    show (if f i = true then sd_gp f k (i + 1) else nI i) = (if g i = true then sd_gp g k (i + 1) else nI i)
    rw [h i (Nat.le_refl i) (by omega), sd_gp_cg k (i + 1) (fun j h1 h2 => h j (by omega) (by omega))]
/-- Adam's first five below v: the set, and how many -/
def sd_kk (x : Nat) : Nat → Nat × Nat
  | 0 => (0, 0)
  | v + 1 => if x.testBit v = true ∧ (sd_kk x v).2 < 5 then ((sd_kk x v).1 + 2 ^ v, (sd_kk x v).2 + 1) else sd_kk x v
theorem sd_kk_t {x v : Nat} (h : x.testBit v = true) (h2 : (sd_kk x v).2 < 5) : sd_kk x (v + 1) = ((sd_kk x v).1 + 2 ^ v, (sd_kk x v).2 + 1) := if_pos ⟨h, h2⟩
theorem sd_kk_f {x v : Nat} (h : ¬ (x.testBit v = true ∧ (sd_kk x v).2 < 5)) : sd_kk x (v + 1) = sd_kk x v := if_neg h
theorem sd_kk_lt (x : Nat) : ∀ v, (sd_kk x v).1 < 2 ^ v
  | 0 => by show 0 < 1; decide
  | v + 1 => by
    have h1 := sd_kk_lt x v
    have h2 := Nat.two_pow_succ v
    by_cases h : x.testBit v = true ∧ (sd_kk x v).2 < 5
    · rw [sd_kk_t h.1 h.2]
      show (sd_kk x v).1 + 2 ^ v < _
      omega
    · rw [sd_kk_f h]
      omega
theorem sd_kk_5 (x : Nat) : ∀ v, (sd_kk x v).2 ≤ 5
  | 0 => by show 0 ≤ 5; decide
  | v + 1 => by
    have h1 := sd_kk_5 x v
    by_cases h : x.testBit v = true ∧ (sd_kk x v).2 < 5
    · rw [sd_kk_t h.1 h.2]
      show (sd_kk x v).2 + 1 ≤ 5
      omega
    · rw [sd_kk_f h]
      omega
theorem sd_kk_le (x : Nat) : ∀ v, (sd_kk x v).2 ≤ v
  | 0 => Nat.le_refl 0
  | v + 1 => by
    have h1 := sd_kk_le x v
    by_cases h : x.testBit v = true ∧ (sd_kk x v).2 < 5
    · rw [sd_kk_t h.1 h.2]
      show (sd_kk x v).2 + 1 ≤ v + 1
      omega
    · rw [sd_kk_f h]
      omega
theorem sd_kk_cg {x y : Nat} : ∀ v, (∀ i, i < v → x.testBit i = y.testBit i) → sd_kk x v = sd_kk y v
  | 0, _ => rfl
  | v + 1, h => by
    have h1 := sd_kk_cg v (fun i hi => h i (by omega))
    show (if x.testBit v = true ∧ (sd_kk x v).2 < 5 then ((sd_kk x v).1 + 2 ^ v, (sd_kk x v).2 + 1) else sd_kk x v) = _
    rw [h v (by omega), h1]
    rfl
/-- behind the last variable, or with five taken, nothing comes -/
theorem sd_kk_end {x n : Nat} (h : ∀ i, n ≤ i → x.testBit i = false ∨ 5 ≤ (sd_kk x n).2) : ∀ k, sd_kk x (n + k) = sd_kk x n
  | 0 => rfl
  | k + 1 => by
    have h1 := sd_kk_end h k
    show sd_kk x (n + k + 1) = _
    rw [sd_kk_f, h1]
    rw [h1]
    intro h2
    rcases h (n + k) (by omega) with h3 | h3
    · rw [h3] at h2
      exact absurd h2.1 (by decide)
    · omega
theorem sd_ct_cg {A B : Nat} : ∀ v, (∀ i, i < v → A.testBit i = B.testBit i) → sd_ct A v = sd_ct B v
  | 0, _ => rfl
  | v + 1, h => by
    show sd_ct A v + _ = sd_ct B v + _
    rw [sd_ct_cg v (fun i hi => h i (by omega)), h v (by omega)]
theorem sd_kk_ct (x : Nat) : ∀ v, sd_ct (sd_kk x v).1 v = (sd_kk x v).2
  | 0 => rfl
  | v + 1 => by
    have h1 := sd_kk_ct x v
    have hl := sd_kk_lt x v
    by_cases h : x.testBit v = true ∧ (sd_kk x v).2 < 5
    · rw [sd_kk_t h.1 h.2]
      show sd_ct ((sd_kk x v).1 + 2 ^ v) v + (((sd_kk x v).1 + 2 ^ v).testBit v).toNat = (sd_kk x v).2 + 1
      rw [Nat.add_comm (sd_kk x v).1, Nat.testBit_two_pow_add_eq, Nat.testBit_lt_two_pow hl, sd_ct_cg (B := (sd_kk x v).1) v (fun i hi => Nat.testBit_two_pow_add_gt hi _), h1]
      rfl
    · rw [sd_kk_f h]
      show sd_ct (sd_kk x v).1 v + ((sd_kk x v).1.testBit v).toNat = (sd_kk x v).2
      rw [Nat.testBit_lt_two_pow hl, h1]
      rfl
theorem sd_A5 (x n : Nat) : sd_ct (sd_kk x n).1 n ≤ 5 := by
  rw [sd_kk_ct]
  exact sd_kk_5 x n
