/-! Contracts of StrategyDesk: claimValues, learn. -/
/-- the tables after i variables of claimValues -/
def sd_cv (a : Nat) (T : Nat → Int32) (sm vl i : Nat) : Nat → Int32 := fun j => if j < i ∧ a.testBit j = false then T j ||| nI ((vl.testBit j).toNat * 2 ^ (sm % 2 ^ sd_ct a j)) else T j
theorem sd_cv_0 (a : Nat) (T : Nat → Int32) (sm vl j : Nat) : T j = sd_cv a T sm vl 0 j := (if_neg (by omega)).symm
theorem sd_cv_a {a i : Nat} {T : Nat → Int32} {sm vl : Nat} (h : a.testBit i = true) (j : Nat) : sd_cv a T sm vl i j = sd_cv a T sm vl (i + 1) j := by
  unfold sd_cv
  by_cases hj : j = i
  · subst hj
    rw [if_neg (by omega), if_neg (by rw [h]; simp)]
  · by_cases h2 : j < i ∧ a.testBit j = false
    · rw [if_pos h2, if_pos ⟨by omega, h2.2⟩]
    · rw [if_neg h2, if_neg (fun h3 => h2 ⟨by omega, h3.2⟩)]
theorem sd_cv_e {a i : Nat} {T : Nat → Int32} {sm vl : Nat} (h : a.testBit i = false) (j : Nat) : upd (sd_cv a T sm vl i) i (sd_cv a T sm vl i i ||| nI ((vl.testBit i).toNat * 2 ^ (sm % 2 ^ sd_ct a i))) j = sd_cv a T sm vl (i + 1) j := by
  by_cases hj : j = i
  · subst hj
    rw [pk_us]
    unfold sd_cv
    rw [if_neg (by omega), if_pos ⟨by omega, h⟩]
  · rw [pk_un hj]
    unfold sd_cv
    by_cases h2 : j < i ∧ a.testBit j = false
    · rw [if_pos h2, if_pos ⟨by omega, h2.2⟩]
    · rw [if_neg h2, if_neg (fun h3 => h2 ⟨by omega, h3.2⟩)]
/-- the tables after s sums of learn -/
def sd_Ts (n a : Nat) (S : Nat → Bool) (T : Nat → Int32) (s : Nat) : Nat → Int32 := fun j => if j < n then (if a.testBit j = true then 0 else nI (sd_ob (sd_lb n a S j) (min s (2 ^ sd_ct a j)))) else T j
theorem sd_Ts_end {n a : Nat} (S : Nat → Bool) (T : Nat → Int32) (j : Nat) : sd_Ts n a S T (2 ^ sd_ct a n) j = sd_T n a S T j := by
  unfold sd_Ts sd_T sd_lt
  by_cases hj : j < n
  · have h1 : 2 ^ sd_ct a j ≤ 2 ^ sd_ct a n := Nat.pow_le_pow_right (by decide) (sd_ct_mono a (by omega))
    rw [Nat.min_eq_right h1]
  · rw [if_neg hj, if_neg hj]
/-- what a best line gives at v depends on the sum of what stands before v -/
theorem sd_L_tb {n a : Nat} {S : Nat → Bool} {s v : Nat} (hv : v < n) (h : a.testBit v = false) : (sd_ac (sd_li a (sd_bm n a S) s) n).testBit v = sd_lb n a S v (s % 2 ^ sd_ct a v) := by
  rw [sd_ac_tb _ n hv, sd_li_e h]
  unfold sd_lb
  rw [sd_li_cg (s := s % 2 ^ sd_ct a v) (t := s) (Nat.mod_mod _ _)]
theorem sd_Ts_s {n a : Nat} {S : Nat → Bool} {T : Nat → Int32} {s j : Nat} (hj : j < n) : sd_cv a (sd_Ts n a S T s) s (sd_ac (sd_li a (sd_bm n a S) s) n) n j = sd_Ts n a S T (s + 1) j := by
  by_cases h : a.testBit j = true
  · have e1 : sd_cv a (sd_Ts n a S T s) s (sd_ac (sd_li a (sd_bm n a S) s) n) n j = sd_Ts n a S T s j := if_neg (by rw [h]; simp)
    rw [e1]
    unfold sd_Ts
    rw [if_pos hj, if_pos h, if_pos hj, if_pos h]
  · have h : a.testBit j = false := by simpa using h
    have e1 : sd_cv a (sd_Ts n a S T s) s (sd_ac (sd_li a (sd_bm n a S) s) n) n j = sd_Ts n a S T s j ||| nI (((sd_ac (sd_li a (sd_bm n a S) s) n).testBit j).toNat * 2 ^ (s % 2 ^ sd_ct a j)) := if_pos ⟨hj, h⟩
    rw [e1, sd_L_tb hj h]
    unfold sd_Ts
    rw [if_pos hj, if_neg (by rw [h]; decide), if_pos hj, if_neg (by rw [h]; decide), hw_or]
    apply congrArg nI
    by_cases hs : s < 2 ^ sd_ct a j
    · rw [Nat.mod_eq_of_lt hs, Nat.min_eq_left (by omega), Nat.min_eq_left (by omega)]
      exact sd_ob_or _ s
    · rw [Nat.min_eq_right (by omega), Nat.min_eq_right (by omega)]
      exact sd_ob_in _ (Nat.mod_lt _ (Nat.two_pow_pos _))
theorem sd_vb_li {n a : Nat} {S : Nat → Bool} {s : Nat} (ha : a < 2 ^ n) : sd_ac (sd_vb n a S (2 ^ n - 1 - a) (sd_ac (sd_li a (fun _ _ => false) s) n)) n = sd_ac (sd_li a (sd_bm n a S) s) n := by
  apply sd_ac_cg
  intro d hd
  unfold sd_vb
  rw [sd_ev ha hd, sd_ac_tb _ n hd]
  by_cases h : a.testBit d = true
  · rw [sd_li_a h, sd_li_a h, h]
    rfl
  · have h : a.testBit d = false := by simpa using h
    rw [sd_li_e h, sd_li_e h, h]
    rfl
theorem sd_Ts_0 {n a : Nat} {S : Nat → Bool} {T : Nat → Int32} {j : Nat} (hj : j < n) : sd_Ts n a S T 0 j = 0 := by
  unfold sd_Ts
  rw [if_pos hj, Nat.zero_min]
  by_cases h : a.testBit j = true
  · rw [if_pos h]
  · rw [if_neg h]
    rfl

set_option maxHeartbeats 4000000 in
set_option maxRecDepth 100000 in
theorem c_claimValues (l : Launch) (D : va_G) (cI cZ : ClassId) (od og ob oe oy oz ot n a q d v : Nat) (Y Z : Nat → Nat) (T : Nat → Int32) (ok : dOk n a q d v Y Z) (sz : Nat) (sm vl : Nat) (hsm : sm < 32) (hvl : vl < 2 ^ n) : Met l yX1_claimValues (kX1_claimValues :: aW) { frames := 3, cells := 0, slots := 0, locals := 63 } (wPre [.ref od, .int (nI sm), .int (nI vl)] D [(od, .inr (1, [.int (nI n), .int (nI a), .int (nI (2 ^ n - 1 - a)), .ref og, .ref oy, .ref oz, .int (nI q), .int (nI d), .int (nI v), .ref ot])), (og, .inr (0, [.int (nI n), .int (nI a), .ref ob, .ref oe])), (ob, .inl (cI, (2 ^ n), .inl (fun jq => nI ((sd_br Y Z q) jq)))), (oe, .inl (cZ, (2 * 2 ^ n), .inl (fun jq => bI ((sd_ew n a (fun w => sd_br Y Z q w == 0)) jq)))), (oy, .inl (cI, 24, .inl (fun jq => nI (Y jq)))), (oz, .inl (cI, 24, .inl (fun jq => nI (Z jq)))), (ot, .inl (cI, n, .inl T))] [(cI, .int), (cZ, .boolean)] sz) (wQ none D [(od, .inr (1, [.int (nI n), .int (nI a), .int (nI (2 ^ n - 1 - a)), .ref og, .ref oy, .ref oz, .int (nI q), .int (nI d), .int (nI v), .ref ot])), (og, .inr (0, [.int (nI n), .int (nI a), .ref ob, .ref oe])), (ob, .inl (cI, (2 ^ n), .inl (fun jq => nI ((sd_br Y Z q) jq)))), (oe, .inl (cZ, (2 * 2 ^ n), .inl (fun jq => bI ((sd_ew n a (fun w => sd_br Y Z q w == 0)) jq)))), (oy, .inl (cI, 24, .inl (fun jq => nI (Y jq)))), (oz, .inl (cI, 24, .inl (fun jq => nI (Z jq)))), (ot, .inl (cI, n, .inl (sd_cv a T sm vl n)))] (va_A [(od, .inr (1, [.int (nI n), .int (nI a), .int (nI (2 ^ n - 1 - a)), .ref og, .ref oy, .ref oz, .int (nI q), .int (nI d), .int (nI v), .ref ot])), (og, .inr (0, [.int (nI n), .int (nI a), .ref ob, .ref oe])), (ob, .inl (cI, (2 ^ n), .inl (fun jq => nI ((sd_br Y Z q) jq)))), (oe, .inl (cZ, (2 * 2 ^ n), .inl (fun jq => bI ((sd_ew n a (fun w => sd_br Y Z q w == 0)) jq)))), (oy, .inl (cI, 24, .inl (fun jq => nI (Y jq)))), (oz, .inl (cI, 24, .inl (fun jq => nI (Z jq)))), (ot, .inl (cI, n, .inl T))] sz)) 0 0 (va_A [(od, .inr (1, [.int (nI n), .int (nI a), .int (nI (2 ^ n - 1 - a)), .ref og, .ref oy, .ref oz, .int (nI q), .int (nI d), .int (nI v), .ref ot])), (og, .inr (0, [.int (nI n), .int (nI a), .ref ob, .ref oe])), (ob, .inl (cI, (2 ^ n), .inl (fun jq => nI ((sd_br Y Z q) jq)))), (oe, .inl (cZ, (2 * 2 ^ n), .inl (fun jq => bI ((sd_ew n a (fun w => sd_br Y Z q w == 0)) jq)))), (oy, .inl (cI, 24, .inl (fun jq => nI (Y jq)))), (oz, .inl (cI, 24, .inl (fun jq => nI (Z jq)))), (ot, .inl (cI, n, .inl T))] sz) := by
  obtain ⟨hn1, hn, ha, h5, hq, hY, hZ, hd, hv⟩ := id ok
  have h2n := hw_p10 hn
  refine Met.ofW (cc := cX1_claimValues) (maxL := 4) (ret := none) (by decide) rfl ?_
  intro p e s m args below meth c s₁ Bo hml hpre
  obtain ⟨rfl, hsz, hP, hK, hN, hD0⟩ := hpre
  subst hsz
  have hD := hD0.self (sz := s.heap.size)
  generalize hAe : va_A [(od, .inr (1, [.int (nI n), .int (nI a), .int (nI (2 ^ n - 1 - a)), .ref og, .ref oy, .ref oz, .int (nI q), .int (nI d), .int (nI v), .ref ot])), (og, .inr (0, [.int (nI n), .int (nI a), .ref ob, .ref oe])), (ob, .inl (cI, (2 ^ n), .inl (fun jq => nI ((sd_br Y Z q) jq)))), (oe, .inl (cZ, (2 * 2 ^ n), .inl (fun jq => bI ((sd_ew n a (fun w => sd_br Y Z q w == 0)) jq)))), (oy, .inl (cI, 24, .inl (fun jq => nI (Y jq)))), (oz, .inl (cI, 24, .inl (fun jq => nI (Z jq)))), (ot, .inl (cI, n, .inl T))] s.heap.size = A at hD ⊢
  have hA : ∀ q : Nat, s.heap.size ≤ q → A q := fun q h => by rw [← hAe]; exact Or.inr h
  have hS : va_S A s.heap s.heap [] := va_S.rf
  have hx := Bo.exec
  have hb := Bo.bytes
  have hr := Bo.returns
  have hts := atoms_spec (ws := kX1_claimValues :: aW) Bo.pre
  have ht : ∀ w ∈ aW, w.before _ s = true := fun w h => hts w (List.mem_cons_of_mem _ h)
  have hown : s.vm.findClass RX1 = some m.cls := findClass_of_methodNamed Bo.named
  have hlocks := Bo.notSynchronized
  have hP : va_P D clS [(od, .inr (1, [.int (nI n), .int (nI a), .int (nI (2 ^ n - 1 - a)), .ref og, .ref oy, .ref oz, .int (nI q), .int (nI d), .int (nI v), .ref ot])), (og, .inr (0, [.int (nI n), .int (nI a), .ref ob, .ref oe])), (ob, .inl (cI, (2 ^ n), .inl (fun jq => nI ((sd_br Y Z q) jq)))), (oe, .inl (cZ, (2 * 2 ^ n), .inl (fun jq => bI ((sd_ew n a (fun w => sd_br Y Z q w == 0)) jq)))), (oy, .inl (cI, 24, .inl (fun jq => nI (Y jq)))), (oz, .inl (cI, 24, .inl (fun jq => nI (Z jq)))), (ot, .inl (cI, n, .inl T))] s.heap := hP
  have hl := lv_entry ([.ref od, .int (nI sm), .int (nI vl)]) (n := 4) (Nat.le_of_ble_eq_true rfl)
  rw [lg_entry_eq]
  generalize (lg_sl ([.ref od, .int (nI sm), .int (nI vl)]) ++ List.replicate (4 - (lg_sl ([.ref od, .int (nI sm), .int (nI vl)])).length) Slot.unset).toArray = ls at hl ⊢
  have hl : lv_has ls 4 [(0, .ref od), (1, .int (nI sm)), (2, .int (nI vl))] := hl
  refine lv_iconst (v := nI 0) hx hb dX1_claimValues_0 (by decide) ?_
  refine lv_istore_n hx hb dX1_claimValues_1 rfl hl (by decide) rfl (fun ls hl => ?_)
  have hl : lv_has ls 4 [(3, .int (nI 0)), (0, .ref od), (1, .int (nI sm)), (2, .int (nI vl))] := hl
  have hl : lv_has ls 4 [(0, .ref od), (1, .int (nI sm)), (2, .int (nI vl)), (3, .int (nI 0))] := lv_sub hl [1, 2, 3, 0] rfl
  have hP : va_P D clS [(od, .inr (1, [.int (nI n), .int (nI a), .int (nI (2 ^ n - 1 - a)), .ref og, .ref oy, .ref oz, .int (nI q), .int (nI d), .int (nI v), .ref ot])), (og, .inr (0, [.int (nI n), .int (nI a), .ref ob, .ref oe])), (ob, .inl (cI, (2 ^ n), .inl (fun jq => nI ((sd_br Y Z q) jq)))), (oe, .inl (cZ, (2 * 2 ^ n), .inl (fun jq => bI ((sd_ew n a (fun w => sd_br Y Z q w == 0)) jq)))), (oy, .inl (cI, 24, .inl (fun jq => nI (Y jq)))), (oz, .inl (cI, 24, .inl (fun jq => nI (Z jq)))), (ot, .inl (cI, n, .inl (sd_cv a T sm vl 0)))] s.heap := hw_cg hP (sd_cv a T sm vl 0) (q0 := 6) rfl (fun j _ => sd_cv_0 a T sm vl j) rfl
  have hD : va_D A [(od, .inr (1, [.int (nI n), .int (nI a), .int (nI (2 ^ n - 1 - a)), .ref og, .ref oy, .ref oz, .int (nI q), .int (nI d), .int (nI v), .ref ot])), (og, .inr (0, [.int (nI n), .int (nI a), .ref ob, .ref oe])), (ob, .inl (cI, (2 ^ n), .inl (fun jq => nI ((sd_br Y Z q) jq)))), (oe, .inl (cZ, (2 * 2 ^ n), .inl (fun jq => bI ((sd_ew n a (fun w => sd_br Y Z q w == 0)) jq)))), (oy, .inl (cI, 24, .inl (fun jq => nI (Y jq)))), (oz, .inl (cI, 24, .inl (fun jq => nI (Z jq)))), (ot, .inl (cI, n, .inl (sd_cv a T sm vl 0)))] := hw_ad hD rfl
  suffices lp : ∀ k : Nat, ∀ (i : Nat) (ls : Array Slot) (H : Heap) (locs : List Loc), (i + k = n) → lv_has ls 4 [(0, .ref od), (1, .int (nI sm)), (2, .int (nI vl)), (3, .int (nI i))] → va_P D clS [(od, .inr (1, [.int (nI n), .int (nI a), .int (nI (2 ^ n - 1 - a)), .ref og, .ref oy, .ref oz, .int (nI q), .int (nI d), .int (nI v), .ref ot])), (og, .inr (0, [.int (nI n), .int (nI a), .ref ob, .ref oe])), (ob, .inl (cI, (2 ^ n), .inl (fun jq => nI ((sd_br Y Z q) jq)))), (oe, .inl (cZ, (2 * 2 ^ n), .inl (fun jq => bI ((sd_ew n a (fun w => sd_br Y Z q w == 0)) jq)))), (oy, .inl (cI, 24, .inl (fun jq => nI (Y jq)))), (oz, .inl (cI, 24, .inl (fun jq => nI (Z jq)))), (ot, .inl (cI, n, .inl (sd_cv a T sm vl i)))] H → va_S A s.heap H locs → W p l e (headSpec (kX1_claimValues :: aW) { frames := 3, cells := 0, slots := 0, locals := 63 }).room s m (([.ref od, .int (nI sm), .int (nI vl)] : List Value).toArray) below meth c H locs 0 0 (MQ below (wQ none D [(od, .inr (1, [.int (nI n), .int (nI a), .int (nI (2 ^ n - 1 - a)), .ref og, .ref oy, .ref oz, .int (nI q), .int (nI d), .int (nI v), .ref ot])), (og, .inr (0, [.int (nI n), .int (nI a), .ref ob, .ref oe])), (ob, .inl (cI, (2 ^ n), .inl (fun jq => nI ((sd_br Y Z q) jq)))), (oe, .inl (cZ, (2 * 2 ^ n), .inl (fun jq => bI ((sd_ew n a (fun w => sd_br Y Z q w == 0)) jq)))), (oy, .inl (cI, 24, .inl (fun jq => nI (Y jq)))), (oz, .inl (cI, 24, .inl (fun jq => nI (Z jq)))), (ot, .inl (cI, n, .inl (sd_cv a T sm vl n)))] A) (([.ref od, .int (nI sm), .int (nI vl)] : List Value).toArray) s 0 0 A) (F0 m 2 ls []) by
    exact lp n 0 ls s.heap [] (by omega) hl hP hS
  intro k
  induction k with
  | zero =>
    intro i ls H locs hi hl hP hS
    have hD : va_D A [(od, .inr (1, [.int (nI n), .int (nI a), .int (nI (2 ^ n - 1 - a)), .ref og, .ref oy, .ref oz, .int (nI q), .int (nI d), .int (nI v), .ref ot])), (og, .inr (0, [.int (nI n), .int (nI a), .ref ob, .ref oe])), (ob, .inl (cI, (2 ^ n), .inl (fun jq => nI ((sd_br Y Z q) jq)))), (oe, .inl (cZ, (2 * 2 ^ n), .inl (fun jq => bI ((sd_ew n a (fun w => sd_br Y Z q w == 0)) jq)))), (oy, .inl (cI, 24, .inl (fun jq => nI (Y jq)))), (oz, .inl (cI, 24, .inl (fun jq => nI (Z jq)))), (ot, .inl (cI, n, .inl (sd_cv a T sm vl i)))] := hw_ad hD rfl
    refine lv_iload_n hx hb dX1_claimValues_2 rfl (lv_at hl 3 rfl) ?_
    refine lv_aload_n hx hb dX1_claimValues_3 rfl (lv_at hl 0 rfl) ?_
    refine va_get (D := D) (ci := 1) (v := .int (nI n)) (C := RX1) (T := TX1) (N := 10) hx hb ht inX1 hown hK hP 0 rfl rfl 0 (by decide) (ht _ wf_X1_size) (fun _ h9 => h9) rfl dX1_claimValues_4 ?_
    refine lv_icmp_ge (tgt := 45) hx hb dX1_claimValues_7 rfl (fun _ => ?_) (fun hc => absurd (show ¬ (n ≤ i) from fun h9 => hc ((nI_leI (by omega) (by omega)).mpr h9)) (by omega))
    obtain rfl : n = i := by omega
    exact W.vret hx hb hr (fun t ht2 _ => ⟨rfl, by rw [ht2]; exact hP, hS.F ht2⟩) hS.2.2 dX1_claimValues_45
  | succ k ih =>
    intro i ls H locs hi hl hP hS
    have hD : va_D A [(od, .inr (1, [.int (nI n), .int (nI a), .int (nI (2 ^ n - 1 - a)), .ref og, .ref oy, .ref oz, .int (nI q), .int (nI d), .int (nI v), .ref ot])), (og, .inr (0, [.int (nI n), .int (nI a), .ref ob, .ref oe])), (ob, .inl (cI, (2 ^ n), .inl (fun jq => nI ((sd_br Y Z q) jq)))), (oe, .inl (cZ, (2 * 2 ^ n), .inl (fun jq => bI ((sd_ew n a (fun w => sd_br Y Z q w == 0)) jq)))), (oy, .inl (cI, 24, .inl (fun jq => nI (Y jq)))), (oz, .inl (cI, 24, .inl (fun jq => nI (Z jq)))), (ot, .inl (cI, n, .inl (sd_cv a T sm vl i)))] := hw_ad hD rfl
    have h32 := sd_p32 h5 (v := i) (by omega)
    have hmd : sm % 2 ^ sd_ct a i < 2 ^ sd_ct a i := Nat.mod_lt _ (Nat.two_pow_pos _)
    refine lv_iload_n hx hb dX1_claimValues_2 rfl (lv_at hl 3 rfl) ?_
    refine lv_aload_n hx hb dX1_claimValues_3 rfl (lv_at hl 0 rfl) ?_
    refine va_get (D := D) (ci := 1) (v := .int (nI n)) (C := RX1) (T := TX1) (N := 10) hx hb ht inX1 hown hK hP 0 rfl rfl 0 (by decide) (ht _ wf_X1_size) (fun _ h9 => h9) rfl dX1_claimValues_4 ?_
    refine lv_icmp_ge (tgt := 45) hx hb dX1_claimValues_7 rfl (fun hc => absurd (show n ≤ i from (nI_leI (by omega) (by omega)).mp hc) (by omega)) (fun _ => ?_)
    refine lv_aload_n hx hb dX1_claimValues_10 rfl (lv_at hl 0 rfl) ?_
    refine lv_iload_n hx hb dX1_claimValues_11 rfl (lv_at hl 3 rfl) ?_
    refine hw_callR (va_runV (b := od) (As := [.int (nI i)]) (rest := []) ⟨hx, hb, hml, hown, ht⟩ (c_isEves l D cI cZ od og ob oe oy oz ot n a q d v Y Z (sd_cv a T sm vl i) ok (nI i)) (cwV 1 ht (gV wm_X1_X1_isEves wi_X1_isEves ws_X1_isEves wn_X1 wc_X1_isEves) rfl rfl rfl (by decide +kernel) ⟨Nat.le_of_ble_eq_true rfl, Nat.le_of_ble_eq_true rfl⟩) (rPre_V 0 hP hK hN rfl rfl) rfl rfl hl.1 rfl (lv_room (Nat.le_of_ble_eq_true rfl)) dX1_claimValues_12 ⟨Nat.zero_le _, Nat.zero_le _⟩) ?_
    refine lv_nm (y := bI (!a.testBit i)) (congrArg bI (hw_ev0 (by omega) (by omega))) ?_
    refine lv_if_eq (tgt := 39) hx hb dX1_claimValues_15 rfl (fun h1 => ?_) (fun h1 => ?_)
    · have h1 : (!a.testBit i) = false := (bI_eq0 _).mp h1
      have hP : va_P D clS [(od, .inr (1, [.int (nI n), .int (nI a), .int (nI (2 ^ n - 1 - a)), .ref og, .ref oy, .ref oz, .int (nI q), .int (nI d), .int (nI v), .ref ot])), (og, .inr (0, [.int (nI n), .int (nI a), .ref ob, .ref oe])), (ob, .inl (cI, (2 ^ n), .inl (fun jq => nI ((sd_br Y Z q) jq)))), (oe, .inl (cZ, (2 * 2 ^ n), .inl (fun jq => bI ((sd_ew n a (fun w => sd_br Y Z q w == 0)) jq)))), (oy, .inl (cI, 24, .inl (fun jq => nI (Y jq)))), (oz, .inl (cI, 24, .inl (fun jq => nI (Z jq)))), (ot, .inl (cI, n, .inl (sd_cv a T sm vl (i + 1))))] H := hw_cg hP (sd_cv a T sm vl (i + 1)) (q0 := 6) rfl (fun j _ => sd_cv_a (by simpa using h1) j) rfl
      have hD : va_D A [(od, .inr (1, [.int (nI n), .int (nI a), .int (nI (2 ^ n - 1 - a)), .ref og, .ref oy, .ref oz, .int (nI q), .int (nI d), .int (nI v), .ref ot])), (og, .inr (0, [.int (nI n), .int (nI a), .ref ob, .ref oe])), (ob, .inl (cI, (2 ^ n), .inl (fun jq => nI ((sd_br Y Z q) jq)))), (oe, .inl (cZ, (2 * 2 ^ n), .inl (fun jq => bI ((sd_ew n a (fun w => sd_br Y Z q w == 0)) jq)))), (oy, .inl (cI, 24, .inl (fun jq => nI (Y jq)))), (oz, .inl (cI, 24, .inl (fun jq => nI (Z jq)))), (ot, .inl (cI, n, .inl (sd_cv a T sm vl (i + 1))))] := hw_ad hD rfl
      refine lv_iinc (k := 3) (v := nI (i + 1)) hx hb dX1_claimValues_39 hl rfl (hw_inc _) (by decide) rfl (fun ls hl => ?_)
      have hl : lv_has ls 4 [(3, .int (nI (i + 1))), (0, .ref od), (1, .int (nI sm)), (2, .int (nI vl))] := hl
      refine lv_goto (tgt := 2) hx hb dX1_claimValues_42 rfl ?_
      have hl : lv_has ls 4 [(0, .ref od), (1, .int (nI sm)), (2, .int (nI vl)), (3, .int (nI (i + 1)))] := lv_sub hl [1, 2, 3, 0] rfl
      exact ih (i + 1) ls H locs (by omega) hl hP hS
    · have h1 : (!a.testBit i) = true := bI_ne0 h1
      refine lv_aload_n hx hb dX1_claimValues_18 rfl (lv_at hl 0 rfl) ?_
      refine va_get (D := D) (ci := 1) (v := .ref ot) (C := RX1) (T := TX1) (N := 10) hx hb ht inX1 hown hK hP 0 rfl rfl 9 (by decide) (ht _ wf_X1_tables) (fun _ h9 => h9) rfl dX1_claimValues_19 ?_
      refine lv_iload_n hx hb dX1_claimValues_22 rfl (lv_at hl 3 rfl) ?_
      refine lv_dup2_11 hx hb dX1_claimValues_23 rfl rfl ?_
      refine na_iald (f := sd_cv a T sm vl i) hx hb hK hP 6 0 rfl rfl (j := i) (by omega) (by omega) dX1_claimValues_24 ?_
      refine lv_iload_n hx hb dX1_claimValues_25 rfl (lv_at hl 2 rfl) ?_
      refine lv_iload_n hx hb dX1_claimValues_26 rfl (lv_at hl 3 rfl) ?_
      refine hw_callR (va_runS (As := [.int (nI vl), .int (nI i)]) (rest := [.int ((sd_cv a T sm vl i) i), .int (nI i), .ref ot]) ⟨hx, hb, hml, hown, ht⟩ (c_bitn l D cI cZ vl i (by omega) (by omega)) (va_cwS 2 ht (gS wm_X1_X1_bit wt_X1_bit wn_X1 wc_X1_bit) rfl rfl rfl (by decide +kernel) ⟨Nat.le_of_ble_eq_true rfl, Nat.le_of_ble_eq_true rfl⟩) (rPre_S (hP.sub [] rfl) hK hN) rfl rfl hl.1 rfl (lv_room (Nat.le_of_ble_eq_true rfl)) dX1_claimValues_27 ⟨Nat.zero_le _, Nat.zero_le _⟩) ?_
      refine lv_aload_n hx hb dX1_claimValues_30 rfl (lv_at hl 0 rfl) ?_
      refine lv_iload_n hx hb dX1_claimValues_31 rfl (lv_at hl 3 rfl) ?_
      refine lv_iload_n hx hb dX1_claimValues_32 rfl (lv_at hl 1 rfl) ?_
      refine hw_callR (va_runV (b := od) (As := [.int (nI i), .int (nI sm)]) (rest := [.int (bI (vl.testBit i)), .int ((sd_cv a T sm vl i) i), .int (nI i), .ref ot]) ⟨hx, hb, hml, hown, ht⟩ (c_sumBefore l D cI cZ od og ob oe oy oz ot n a q d v Y Z (sd_cv a T sm vl i) ok i sm (by omega)) (cwV 2 ht (gV wm_X1_X1_sumBefore wi_X1_sumBefore ws_X1_sumBefore wn_X1 wc_X1_sumBefore) rfl rfl rfl (by decide +kernel) ⟨Nat.le_of_ble_eq_true rfl, Nat.le_of_ble_eq_true rfl⟩) (rPre_V 0 hP hK hN rfl rfl) rfl rfl hl.1 rfl (lv_room (Nat.le_of_ble_eq_true rfl)) dX1_claimValues_33 ⟨Nat.zero_le _, Nat.zero_le _⟩) ?_
      refine lv_ishl hx hb dX1_claimValues_36 ?_
      refine lv_nm (y := nI ((vl.testBit i).toNat * 2 ^ (sm % 2 ^ sd_ct a i))) (hw_bshl _ (by omega)) ?_
      refine lv_ior hx hb dX1_claimValues_37 ?_
      refine na_iast (f := sd_cv a T sm vl i) (x := ((sd_cv a T sm vl i) i) ||| (nI ((vl.testBit i).toNat * 2 ^ (sm % 2 ^ sd_ct a i)))) hx hb hK hP hD hS 6 0 rfl rfl (j := i) (by omega) (by omega) dX1_claimValues_38 (fun H locs hP hD hS => ?_)
      have hP : va_P D clS [(od, .inr (1, [.int (nI n), .int (nI a), .int (nI (2 ^ n - 1 - a)), .ref og, .ref oy, .ref oz, .int (nI q), .int (nI d), .int (nI v), .ref ot])), (og, .inr (0, [.int (nI n), .int (nI a), .ref ob, .ref oe])), (ob, .inl (cI, (2 ^ n), .inl (fun jq => nI ((sd_br Y Z q) jq)))), (oe, .inl (cZ, (2 * 2 ^ n), .inl (fun jq => bI ((sd_ew n a (fun w => sd_br Y Z q w == 0)) jq)))), (oy, .inl (cI, 24, .inl (fun jq => nI (Y jq)))), (oz, .inl (cI, 24, .inl (fun jq => nI (Z jq)))), (ot, .inl (cI, n, .inl (upd (sd_cv a T sm vl i) i (((sd_cv a T sm vl i) i) ||| (nI ((vl.testBit i).toNat * 2 ^ (sm % 2 ^ sd_ct a i)))))))] H := hP
      have hD : va_D A [(od, .inr (1, [.int (nI n), .int (nI a), .int (nI (2 ^ n - 1 - a)), .ref og, .ref oy, .ref oz, .int (nI q), .int (nI d), .int (nI v), .ref ot])), (og, .inr (0, [.int (nI n), .int (nI a), .ref ob, .ref oe])), (ob, .inl (cI, (2 ^ n), .inl (fun jq => nI ((sd_br Y Z q) jq)))), (oe, .inl (cZ, (2 * 2 ^ n), .inl (fun jq => bI ((sd_ew n a (fun w => sd_br Y Z q w == 0)) jq)))), (oy, .inl (cI, 24, .inl (fun jq => nI (Y jq)))), (oz, .inl (cI, 24, .inl (fun jq => nI (Z jq)))), (ot, .inl (cI, n, .inl (upd (sd_cv a T sm vl i) i (((sd_cv a T sm vl i) i) ||| (nI ((vl.testBit i).toNat * 2 ^ (sm % 2 ^ sd_ct a i)))))))] := hD
      have hP : va_P D clS [(od, .inr (1, [.int (nI n), .int (nI a), .int (nI (2 ^ n - 1 - a)), .ref og, .ref oy, .ref oz, .int (nI q), .int (nI d), .int (nI v), .ref ot])), (og, .inr (0, [.int (nI n), .int (nI a), .ref ob, .ref oe])), (ob, .inl (cI, (2 ^ n), .inl (fun jq => nI ((sd_br Y Z q) jq)))), (oe, .inl (cZ, (2 * 2 ^ n), .inl (fun jq => bI ((sd_ew n a (fun w => sd_br Y Z q w == 0)) jq)))), (oy, .inl (cI, 24, .inl (fun jq => nI (Y jq)))), (oz, .inl (cI, 24, .inl (fun jq => nI (Z jq)))), (ot, .inl (cI, n, .inl (sd_cv a T sm vl (i + 1))))] H := hw_cg hP (sd_cv a T sm vl (i + 1)) (q0 := 6) rfl (fun j _ => sd_cv_e (by simpa using h1) j) rfl
      have hD : va_D A [(od, .inr (1, [.int (nI n), .int (nI a), .int (nI (2 ^ n - 1 - a)), .ref og, .ref oy, .ref oz, .int (nI q), .int (nI d), .int (nI v), .ref ot])), (og, .inr (0, [.int (nI n), .int (nI a), .ref ob, .ref oe])), (ob, .inl (cI, (2 ^ n), .inl (fun jq => nI ((sd_br Y Z q) jq)))), (oe, .inl (cZ, (2 * 2 ^ n), .inl (fun jq => bI ((sd_ew n a (fun w => sd_br Y Z q w == 0)) jq)))), (oy, .inl (cI, 24, .inl (fun jq => nI (Y jq)))), (oz, .inl (cI, 24, .inl (fun jq => nI (Z jq)))), (ot, .inl (cI, n, .inl (sd_cv a T sm vl (i + 1))))] := hw_ad hD rfl
      refine lv_iinc (k := 3) (v := nI (i + 1)) hx hb dX1_claimValues_39 hl rfl (hw_inc _) (by decide) rfl (fun ls hl => ?_)
      have hl : lv_has ls 4 [(3, .int (nI (i + 1))), (0, .ref od), (1, .int (nI sm)), (2, .int (nI vl))] := hl
      refine lv_goto (tgt := 2) hx hb dX1_claimValues_42 rfl ?_
      have hl : lv_has ls 4 [(0, .ref od), (1, .int (nI sm)), (2, .int (nI vl)), (3, .int (nI (i + 1)))] := lv_sub hl [1, 2, 3, 0] rfl
      exact ih (i + 1) ls H locs (by omega) hl hP hS

set_option maxHeartbeats 4000000 in
set_option maxRecDepth 100000 in
theorem c_learn (l : Launch) (D : va_G) (cI cZ : ClassId) (od og ob oe oy oz ot n a q d v : Nat) (Y Z : Nat → Nat) (T : Nat → Int32) (ok : dOk n a q d v Y Z) (sz : Nat) : Met l yX1_learn (kX1_learn :: aW) { frames := 5, cells := 0, slots := 0, locals := 108 } (wPre [.ref od] D [(od, .inr (1, [.int (nI n), .int (nI a), .int (nI (2 ^ n - 1 - a)), .ref og, .ref oy, .ref oz, .int (nI q), .int (nI d), .int (nI v), .ref ot])), (og, .inr (0, [.int (nI n), .int (nI a), .ref ob, .ref oe])), (ob, .inl (cI, (2 ^ n), .inl (fun jq => nI ((sd_br Y Z q) jq)))), (oe, .inl (cZ, (2 * 2 ^ n), .inl (fun jq => bI ((sd_ew n a (fun w => sd_br Y Z q w == 0)) jq)))), (oy, .inl (cI, 24, .inl (fun jq => nI (Y jq)))), (oz, .inl (cI, 24, .inl (fun jq => nI (Z jq)))), (ot, .inl (cI, n, .inl T))] [(cI, .int), (cZ, .boolean)] sz) (wQ (some (.int (sd_gp (fun sm => sd_br Y Z q (sd_ac (sd_cl a (sd_T n a (fun w => sd_br Y Z q w == 0) T) sm) n) == 0) (2 ^ sd_ct a n) 0))) D [(od, .inr (1, [.int (nI n), .int (nI a), .int (nI (2 ^ n - 1 - a)), .ref og, .ref oy, .ref oz, .int (nI q), .int (nI d), .int (nI v), .ref ot])), (og, .inr (0, [.int (nI n), .int (nI a), .ref ob, .ref oe])), (ob, .inl (cI, (2 ^ n), .inl (fun jq => nI ((sd_br Y Z q) jq)))), (oe, .inl (cZ, (2 * 2 ^ n), .inl (fun jq => bI ((sd_ew n a (fun w => sd_br Y Z q w == 0)) jq)))), (oy, .inl (cI, 24, .inl (fun jq => nI (Y jq)))), (oz, .inl (cI, 24, .inl (fun jq => nI (Z jq)))), (ot, .inl (cI, n, .inl (sd_T n a (fun w => sd_br Y Z q w == 0) T)))] (va_A [(od, .inr (1, [.int (nI n), .int (nI a), .int (nI (2 ^ n - 1 - a)), .ref og, .ref oy, .ref oz, .int (nI q), .int (nI d), .int (nI v), .ref ot])), (og, .inr (0, [.int (nI n), .int (nI a), .ref ob, .ref oe])), (ob, .inl (cI, (2 ^ n), .inl (fun jq => nI ((sd_br Y Z q) jq)))), (oe, .inl (cZ, (2 * 2 ^ n), .inl (fun jq => bI ((sd_ew n a (fun w => sd_br Y Z q w == 0)) jq)))), (oy, .inl (cI, 24, .inl (fun jq => nI (Y jq)))), (oz, .inl (cI, 24, .inl (fun jq => nI (Z jq)))), (ot, .inl (cI, n, .inl T))] sz)) 0 0 (va_A [(od, .inr (1, [.int (nI n), .int (nI a), .int (nI (2 ^ n - 1 - a)), .ref og, .ref oy, .ref oz, .int (nI q), .int (nI d), .int (nI v), .ref ot])), (og, .inr (0, [.int (nI n), .int (nI a), .ref ob, .ref oe])), (ob, .inl (cI, (2 ^ n), .inl (fun jq => nI ((sd_br Y Z q) jq)))), (oe, .inl (cZ, (2 * 2 ^ n), .inl (fun jq => bI ((sd_ew n a (fun w => sd_br Y Z q w == 0)) jq)))), (oy, .inl (cI, 24, .inl (fun jq => nI (Y jq)))), (oz, .inl (cI, 24, .inl (fun jq => nI (Z jq)))), (ot, .inl (cI, n, .inl T))] sz) := by
  obtain ⟨hn1, hn, ha, h5, hq, hY, hZ, hd, hv⟩ := id ok
  have h2n := hw_p10 hn
  refine Met.ofW (cc := cX1_learn) (maxL := 3) (ret := (some .int)) (by decide) rfl ?_
  intro p e s m args below meth c s₁ Bo hml hpre
  obtain ⟨rfl, hsz, hP, hK, hN, hD0⟩ := hpre
  subst hsz
  have hD := hD0.self (sz := s.heap.size)
  generalize hAe : va_A [(od, .inr (1, [.int (nI n), .int (nI a), .int (nI (2 ^ n - 1 - a)), .ref og, .ref oy, .ref oz, .int (nI q), .int (nI d), .int (nI v), .ref ot])), (og, .inr (0, [.int (nI n), .int (nI a), .ref ob, .ref oe])), (ob, .inl (cI, (2 ^ n), .inl (fun jq => nI ((sd_br Y Z q) jq)))), (oe, .inl (cZ, (2 * 2 ^ n), .inl (fun jq => bI ((sd_ew n a (fun w => sd_br Y Z q w == 0)) jq)))), (oy, .inl (cI, 24, .inl (fun jq => nI (Y jq)))), (oz, .inl (cI, 24, .inl (fun jq => nI (Z jq)))), (ot, .inl (cI, n, .inl T))] s.heap.size = A at hD ⊢
  have hA : ∀ q : Nat, s.heap.size ≤ q → A q := fun q h => by rw [← hAe]; exact Or.inr h
  have hS : va_S A s.heap s.heap [] := va_S.rf
  have hx := Bo.exec
  have hb := Bo.bytes
  have hr := Bo.returns
  have hts := atoms_spec (ws := kX1_learn :: aW) Bo.pre
  have ht : ∀ w ∈ aW, w.before _ s = true := fun w h => hts w (List.mem_cons_of_mem _ h)
  have hown : s.vm.findClass RX1 = some m.cls := findClass_of_methodNamed Bo.named
  have hlocks := Bo.notSynchronized
  have hP : va_P D clS [(od, .inr (1, [.int (nI n), .int (nI a), .int (nI (2 ^ n - 1 - a)), .ref og, .ref oy, .ref oz, .int (nI q), .int (nI d), .int (nI v), .ref ot])), (og, .inr (0, [.int (nI n), .int (nI a), .ref ob, .ref oe])), (ob, .inl (cI, (2 ^ n), .inl (fun jq => nI ((sd_br Y Z q) jq)))), (oe, .inl (cZ, (2 * 2 ^ n), .inl (fun jq => bI ((sd_ew n a (fun w => sd_br Y Z q w == 0)) jq)))), (oy, .inl (cI, 24, .inl (fun jq => nI (Y jq)))), (oz, .inl (cI, 24, .inl (fun jq => nI (Z jq)))), (ot, .inl (cI, n, .inl T))] s.heap := hP
  have hl := lv_entry ([.ref od]) (n := 3) (Nat.le_of_ble_eq_true rfl)
  rw [lg_entry_eq]
  generalize (lg_sl ([.ref od]) ++ List.replicate (3 - (lg_sl ([.ref od])).length) Slot.unset).toArray = ls at hl ⊢
  have hl : lv_has ls 3 [(0, .ref od)] := hl
  refine lv_iconst (v := nI 0) hx hb dX1_learn_0 (by decide) ?_
  refine lv_istore_n hx hb dX1_learn_1 rfl hl (by decide) rfl (fun ls hl => ?_)
  have hl : lv_has ls 3 [(1, .int (nI 0)), (0, .ref od)] := hl
  have hl : lv_has ls 3 [(0, .ref od), (1, .int (nI 0))] := lv_sub hl [1, 0] rfl
  suffices lp : ∀ k : Nat, ∀ (i : Nat) (F : Nat → Int32) (ls : Array Slot) (H : Heap) (locs : List Loc), (i + k = n) → (∀ j, j < i → F j = 0) → lv_has ls 3 [(0, .ref od), (1, .int (nI i))] → va_P D clS [(od, .inr (1, [.int (nI n), .int (nI a), .int (nI (2 ^ n - 1 - a)), .ref og, .ref oy, .ref oz, .int (nI q), .int (nI d), .int (nI v), .ref ot])), (og, .inr (0, [.int (nI n), .int (nI a), .ref ob, .ref oe])), (ob, .inl (cI, (2 ^ n), .inl (fun jq => nI ((sd_br Y Z q) jq)))), (oe, .inl (cZ, (2 * 2 ^ n), .inl (fun jq => bI ((sd_ew n a (fun w => sd_br Y Z q w == 0)) jq)))), (oy, .inl (cI, 24, .inl (fun jq => nI (Y jq)))), (oz, .inl (cI, 24, .inl (fun jq => nI (Z jq)))), (ot, .inl (cI, n, .inl F))] H → va_S A s.heap H locs → W p l e (headSpec (kX1_learn :: aW) { frames := 5, cells := 0, slots := 0, locals := 108 }).room s m (([.ref od] : List Value).toArray) below meth c H locs 0 0 (MQ below (wQ (some (.int (sd_gp (fun sm => sd_br Y Z q (sd_ac (sd_cl a (sd_T n a (fun w => sd_br Y Z q w == 0) T) sm) n) == 0) (2 ^ sd_ct a n) 0))) D [(od, .inr (1, [.int (nI n), .int (nI a), .int (nI (2 ^ n - 1 - a)), .ref og, .ref oy, .ref oz, .int (nI q), .int (nI d), .int (nI v), .ref ot])), (og, .inr (0, [.int (nI n), .int (nI a), .ref ob, .ref oe])), (ob, .inl (cI, (2 ^ n), .inl (fun jq => nI ((sd_br Y Z q) jq)))), (oe, .inl (cZ, (2 * 2 ^ n), .inl (fun jq => bI ((sd_ew n a (fun w => sd_br Y Z q w == 0)) jq)))), (oy, .inl (cI, 24, .inl (fun jq => nI (Y jq)))), (oz, .inl (cI, 24, .inl (fun jq => nI (Z jq)))), (ot, .inl (cI, n, .inl (sd_T n a (fun w => sd_br Y Z q w == 0) T)))] A) (([.ref od] : List Value).toArray) s 0 0 A) (F0 m 2 ls []) by
    exact lp n 0 T ls s.heap [] (by omega) (fun j hj => by omega) hl hP hS
  intro k
  induction k with
  | zero =>
    intro i F ls H locs hi hF hl hP hS
    have hD : va_D A [(od, .inr (1, [.int (nI n), .int (nI a), .int (nI (2 ^ n - 1 - a)), .ref og, .ref oy, .ref oz, .int (nI q), .int (nI d), .int (nI v), .ref ot])), (og, .inr (0, [.int (nI n), .int (nI a), .ref ob, .ref oe])), (ob, .inl (cI, (2 ^ n), .inl (fun jq => nI ((sd_br Y Z q) jq)))), (oe, .inl (cZ, (2 * 2 ^ n), .inl (fun jq => bI ((sd_ew n a (fun w => sd_br Y Z q w == 0)) jq)))), (oy, .inl (cI, 24, .inl (fun jq => nI (Y jq)))), (oz, .inl (cI, 24, .inl (fun jq => nI (Z jq)))), (ot, .inl (cI, n, .inl F))] := hw_ad hD rfl
    refine lv_iload_n hx hb dX1_learn_2 rfl (lv_at hl 1 rfl) ?_
    refine lv_aload_n hx hb dX1_learn_3 rfl (lv_at hl 0 rfl) ?_
    refine va_get (D := D) (ci := 1) (v := .int (nI n)) (C := RX1) (T := TX1) (N := 10) hx hb ht inX1 hown hK hP 0 rfl rfl 0 (by decide) (ht _ wf_X1_size) (fun _ h9 => h9) rfl dX1_learn_4 ?_
    refine lv_icmp_ge (tgt := 23) hx hb dX1_learn_7 rfl (fun _ => ?_) (fun hc => absurd (show ¬ (n ≤ i) from fun h9 => hc ((nI_leI (by omega) (by omega)).mpr h9)) (by omega))
    obtain rfl : n = i := by omega
    have hP : va_P D clS [(od, .inr (1, [.int (nI n), .int (nI a), .int (nI (2 ^ n - 1 - a)), .ref og, .ref oy, .ref oz, .int (nI q), .int (nI d), .int (nI v), .ref ot])), (og, .inr (0, [.int (nI n), .int (nI a), .ref ob, .ref oe])), (ob, .inl (cI, (2 ^ n), .inl (fun jq => nI ((sd_br Y Z q) jq)))), (oe, .inl (cZ, (2 * 2 ^ n), .inl (fun jq => bI ((sd_ew n a (fun w => sd_br Y Z q w == 0)) jq)))), (oy, .inl (cI, 24, .inl (fun jq => nI (Y jq)))), (oz, .inl (cI, 24, .inl (fun jq => nI (Z jq)))), (ot, .inl (cI, n, .inl (sd_Ts n a (fun w => sd_br Y Z q w == 0) T 0)))] H := hw_cg hP (sd_Ts n a (fun w => sd_br Y Z q w == 0) T 0) (q0 := 6) rfl (fun j hj => (hF j hj).trans (sd_Ts_0 hj).symm) rfl
    have hD : va_D A [(od, .inr (1, [.int (nI n), .int (nI a), .int (nI (2 ^ n - 1 - a)), .ref og, .ref oy, .ref oz, .int (nI q), .int (nI d), .int (nI v), .ref ot])), (og, .inr (0, [.int (nI n), .int (nI a), .ref ob, .ref oe])), (ob, .inl (cI, (2 ^ n), .inl (fun jq => nI ((sd_br Y Z q) jq)))), (oe, .inl (cZ, (2 * 2 ^ n), .inl (fun jq => bI ((sd_ew n a (fun w => sd_br Y Z q w == 0)) jq)))), (oy, .inl (cI, 24, .inl (fun jq => nI (Y jq)))), (oz, .inl (cI, 24, .inl (fun jq => nI (Z jq)))), (ot, .inl (cI, n, .inl (sd_Ts n a (fun w => sd_br Y Z q w == 0) T 0)))] := hw_ad hD rfl
    have h32 := sd_p32 h5 (v := n) (Nat.le_refl n)
    refine lv_aload_n hx hb dX1_learn_23 rfl (lv_at hl 0 rfl) ?_
    refine lv_aload_n hx hb dX1_learn_24 rfl (lv_at hl 0 rfl) ?_
    refine va_get (D := D) (ci := 1) (v := .int (nI n)) (C := RX1) (T := TX1) (N := 10) hx hb ht inX1 hown hK hP 0 rfl rfl 0 (by decide) (ht _ wf_X1_size) (fun _ h9 => h9) rfl dX1_learn_25 ?_
    refine hw_callR (va_runV (b := od) (As := [.int (nI n)]) (rest := []) ⟨hx, hb, hml, hown, ht⟩ (c_sumsBefore l D cI cZ od og ob oe oy oz ot n a q d v Y Z (sd_Ts n a (fun w => sd_br Y Z q w == 0) T 0) ok n (Nat.le_refl n)) (cwV 1 ht (gV wm_X1_X1_sumsBefore wi_X1_sumsBefore ws_X1_sumsBefore wn_X1 wc_X1_sumsBefore) rfl rfl rfl (by decide +kernel) ⟨Nat.le_of_ble_eq_true rfl, Nat.le_of_ble_eq_true rfl⟩) (rPre_V 0 hP hK hN rfl rfl) rfl rfl hl.1 rfl (lv_room (Nat.le_of_ble_eq_true rfl)) dX1_learn_28 ⟨Nat.zero_le _, Nat.zero_le _⟩) ?_
    refine lv_istore_n hx hb dX1_learn_31 rfl hl (by decide) rfl (fun ls hl => ?_)
    have hl : lv_has ls 3 [(1, .int (nI (2 ^ sd_ct a n))), (0, .ref od)] := hl
    refine lv_iconst (v := nI 0) hx hb dX1_learn_32 (by decide) ?_
    refine lv_istore_n hx hb dX1_learn_33 rfl hl (by decide) rfl (fun ls hl => ?_)
    have hl : lv_has ls 3 [(2, .int (nI 0)), (1, .int (nI (2 ^ sd_ct a n))), (0, .ref od)] := hl
    have hl : lv_has ls 3 [(0, .ref od), (1, .int (nI (2 ^ sd_ct a n))), (2, .int (nI 0))] := lv_sub hl [2, 1, 0] rfl
    suffices lq : ∀ k : Nat, ∀ (i : Nat) (ls : Array Slot) (H : Heap) (locs : List Loc), (i + k = 2 ^ sd_ct a n) → lv_has ls 3 [(0, .ref od), (1, .int (nI (2 ^ sd_ct a n))), (2, .int (nI i))] → va_P D clS [(od, .inr (1, [.int (nI n), .int (nI a), .int (nI (2 ^ n - 1 - a)), .ref og, .ref oy, .ref oz, .int (nI q), .int (nI d), .int (nI v), .ref ot])), (og, .inr (0, [.int (nI n), .int (nI a), .ref ob, .ref oe])), (ob, .inl (cI, (2 ^ n), .inl (fun jq => nI ((sd_br Y Z q) jq)))), (oe, .inl (cZ, (2 * 2 ^ n), .inl (fun jq => bI ((sd_ew n a (fun w => sd_br Y Z q w == 0)) jq)))), (oy, .inl (cI, 24, .inl (fun jq => nI (Y jq)))), (oz, .inl (cI, 24, .inl (fun jq => nI (Z jq)))), (ot, .inl (cI, n, .inl (sd_Ts n a (fun w => sd_br Y Z q w == 0) T i)))] H → va_S A s.heap H locs → W p l e (headSpec (kX1_learn :: aW) { frames := 5, cells := 0, slots := 0, locals := 108 }).room s m (([.ref od] : List Value).toArray) below meth c H locs 0 0 (MQ below (wQ (some (.int (sd_gp (fun sm => sd_br Y Z q (sd_ac (sd_cl a (sd_T n a (fun w => sd_br Y Z q w == 0) T) sm) n) == 0) (2 ^ sd_ct a n) 0))) D [(od, .inr (1, [.int (nI n), .int (nI a), .int (nI (2 ^ n - 1 - a)), .ref og, .ref oy, .ref oz, .int (nI q), .int (nI d), .int (nI v), .ref ot])), (og, .inr (0, [.int (nI n), .int (nI a), .ref ob, .ref oe])), (ob, .inl (cI, (2 ^ n), .inl (fun jq => nI ((sd_br Y Z q) jq)))), (oe, .inl (cZ, (2 * 2 ^ n), .inl (fun jq => bI ((sd_ew n a (fun w => sd_br Y Z q w == 0)) jq)))), (oy, .inl (cI, 24, .inl (fun jq => nI (Y jq)))), (oz, .inl (cI, 24, .inl (fun jq => nI (Z jq)))), (ot, .inl (cI, n, .inl (sd_T n a (fun w => sd_br Y Z q w == 0) T)))] A) (([.ref od] : List Value).toArray) s 0 0 A) (F0 m 34 ls []) by
      exact lq (2 ^ sd_ct a n) 0 ls H locs (by omega) hl hP hS
    intro k
    induction k with
    | zero =>
      intro i ls H locs hi hl hP hS
      have hD : va_D A [(od, .inr (1, [.int (nI n), .int (nI a), .int (nI (2 ^ n - 1 - a)), .ref og, .ref oy, .ref oz, .int (nI q), .int (nI d), .int (nI v), .ref ot])), (og, .inr (0, [.int (nI n), .int (nI a), .ref ob, .ref oe])), (ob, .inl (cI, (2 ^ n), .inl (fun jq => nI ((sd_br Y Z q) jq)))), (oe, .inl (cZ, (2 * 2 ^ n), .inl (fun jq => bI ((sd_ew n a (fun w => sd_br Y Z q w == 0)) jq)))), (oy, .inl (cI, 24, .inl (fun jq => nI (Y jq)))), (oz, .inl (cI, 24, .inl (fun jq => nI (Z jq)))), (ot, .inl (cI, n, .inl (sd_Ts n a (fun w => sd_br Y Z q w == 0) T i)))] := hw_ad hD rfl
      refine lv_iload_n hx hb dX1_learn_34 rfl (lv_at hl 2 rfl) ?_
      refine lv_iload_n hx hb dX1_learn_35 rfl (lv_at hl 1 rfl) ?_
      refine lv_icmp_ge (tgt := 63) hx hb dX1_learn_36 rfl (fun _ => ?_) (fun hc => absurd (show ¬ (2 ^ sd_ct a n ≤ i) from fun h9 => hc ((nI_leI (by omega) (by omega)).mpr h9)) (by omega))
      obtain rfl : i = 2 ^ sd_ct a n := by omega
      have hP : va_P D clS [(od, .inr (1, [.int (nI n), .int (nI a), .int (nI (2 ^ n - 1 - a)), .ref og, .ref oy, .ref oz, .int (nI q), .int (nI d), .int (nI v), .ref ot])), (og, .inr (0, [.int (nI n), .int (nI a), .ref ob, .ref oe])), (ob, .inl (cI, (2 ^ n), .inl (fun jq => nI ((sd_br Y Z q) jq)))), (oe, .inl (cZ, (2 * 2 ^ n), .inl (fun jq => bI ((sd_ew n a (fun w => sd_br Y Z q w == 0)) jq)))), (oy, .inl (cI, 24, .inl (fun jq => nI (Y jq)))), (oz, .inl (cI, 24, .inl (fun jq => nI (Z jq)))), (ot, .inl (cI, n, .inl (sd_T n a (fun w => sd_br Y Z q w == 0) T)))] H := hw_cg hP (sd_T n a (fun w => sd_br Y Z q w == 0) T) (q0 := 6) rfl (fun j _ => sd_Ts_end (fun w => sd_br Y Z q w == 0) T j) rfl
      have hD : va_D A [(od, .inr (1, [.int (nI n), .int (nI a), .int (nI (2 ^ n - 1 - a)), .ref og, .ref oy, .ref oz, .int (nI q), .int (nI d), .int (nI v), .ref ot])), (og, .inr (0, [.int (nI n), .int (nI a), .ref ob, .ref oe])), (ob, .inl (cI, (2 ^ n), .inl (fun jq => nI ((sd_br Y Z q) jq)))), (oe, .inl (cZ, (2 * 2 ^ n), .inl (fun jq => bI ((sd_ew n a (fun w => sd_br Y Z q w == 0)) jq)))), (oy, .inl (cI, 24, .inl (fun jq => nI (Y jq)))), (oz, .inl (cI, 24, .inl (fun jq => nI (Z jq)))), (ot, .inl (cI, n, .inl (sd_T n a (fun w => sd_br Y Z q w == 0) T)))] := hw_ad hD rfl
      refine lv_aload_n hx hb dX1_learn_63 rfl (lv_at hl 0 rfl) ?_
      refine hw_callR (va_runV (b := od) (As := []) (rest := []) ⟨hx, hb, hml, hown, ht⟩ (c_gap l D cI cZ od og ob oe oy oz ot n a q d v Y Z (sd_T n a (fun w => sd_br Y Z q w == 0) T) ok) (cwV 0 ht (gV wm_X1_X1_gap wi_X1_gap ws_X1_gap wn_X1 wc_X1_gap) rfl rfl rfl (by decide +kernel) ⟨Nat.le_of_ble_eq_true rfl, Nat.le_of_ble_eq_true rfl⟩) (rPre_V 0 hP hK hN rfl rfl) rfl rfl hl.1 rfl (lv_room (Nat.le_of_ble_eq_true rfl)) dX1_learn_64 ⟨Nat.zero_le _, Nat.zero_le _⟩) ?_
      exact W.iret hx hb hr (fun t ht2 _ => ⟨hw_ret (rfl), by rw [ht2]; exact hP, hS.F ht2⟩) hS.2.2 dX1_learn_67
    | succ k ih2 =>
      intro i ls H locs hi hl hP hS
      have hD : va_D A [(od, .inr (1, [.int (nI n), .int (nI a), .int (nI (2 ^ n - 1 - a)), .ref og, .ref oy, .ref oz, .int (nI q), .int (nI d), .int (nI v), .ref ot])), (og, .inr (0, [.int (nI n), .int (nI a), .ref ob, .ref oe])), (ob, .inl (cI, (2 ^ n), .inl (fun jq => nI ((sd_br Y Z q) jq)))), (oe, .inl (cZ, (2 * 2 ^ n), .inl (fun jq => bI ((sd_ew n a (fun w => sd_br Y Z q w == 0)) jq)))), (oy, .inl (cI, 24, .inl (fun jq => nI (Y jq)))), (oz, .inl (cI, 24, .inl (fun jq => nI (Z jq)))), (ot, .inl (cI, n, .inl (sd_Ts n a (fun w => sd_br Y Z q w == 0) T i)))] := hw_ad hD rfl
      have hav := sd_ac_lt (sd_li a (fun _ _ => false) i) n
      have hll := sd_ac_lt (sd_li a (sd_bm n a (fun w => sd_br Y Z q w == 0)) i) n
      refine lv_iload_n hx hb dX1_learn_34 rfl (lv_at hl 2 rfl) ?_
      refine lv_iload_n hx hb dX1_learn_35 rfl (lv_at hl 1 rfl) ?_
      refine lv_icmp_ge (tgt := 63) hx hb dX1_learn_36 rfl (fun hc => absurd (show 2 ^ sd_ct a n ≤ i from (nI_leI (by omega) (by omega)).mp hc) (by omega)) (fun _ => ?_)
      refine lv_aload_n hx hb dX1_learn_39 rfl (lv_at hl 0 rfl) ?_
      refine lv_iload_n hx hb dX1_learn_40 rfl (lv_at hl 2 rfl) ?_
      refine lv_aload_n hx hb dX1_learn_41 rfl (lv_at hl 0 rfl) ?_
      refine lv_aload_n hx hb dX1_learn_42 rfl (lv_at hl 0 rfl) ?_
      refine va_get (D := D) (ci := 1) (v := .int (nI (2 ^ n - 1 - a))) (C := RX1) (T := TX1) (N := 10) hx hb ht inX1 hown hK hP 0 rfl rfl 2 (by decide) (ht _ wf_X1_eveSet) (fun _ h9 => h9) rfl dX1_learn_43 ?_
      refine lv_aload_n hx hb dX1_learn_46 rfl (lv_at hl 0 rfl) ?_
      refine lv_iload_n hx hb dX1_learn_47 rfl (lv_at hl 2 rfl) ?_
      refine hw_callR (va_runV (b := od) (As := [.int (nI i)]) (rest := [.int (nI (2 ^ n - 1 - a)), .ref od, .int (nI i), .ref od]) ⟨hx, hb, hml, hown, ht⟩ (c_adamValues l D cI cZ od og ob oe oy oz ot n a q d v Y Z (sd_Ts n a (fun w => sd_br Y Z q w == 0) T i) ok i (by omega)) (cwV 1 ht (gV wm_X1_X1_adamValues wi_X1_adamValues ws_X1_adamValues wn_X1 wc_X1_adamValues) rfl rfl rfl (by decide +kernel) ⟨Nat.le_of_ble_eq_true rfl, Nat.le_of_ble_eq_true rfl⟩) (rPre_V 0 hP hK hN rfl rfl) rfl rfl hl.1 rfl (lv_room (Nat.le_of_ble_eq_true rfl)) dX1_learn_48 ⟨Nat.zero_le _, Nat.zero_le _⟩) ?_
      refine hw_callR (va_runV (b := od) (As := [.int (nI (2 ^ n - 1 - a)), .int (nI (sd_ac (sd_li a (fun _ _ => false) i) n))]) (rest := [.int (nI i), .ref od]) ⟨hx, hb, hml, hown, ht⟩ (c_valuesWithBest l D cI cZ od og ob oe oy oz ot n a q d v Y Z (sd_Ts n a (fun w => sd_br Y Z q w == 0) T i) ok (2 ^ n - 1 - a) (nI (sd_ac (sd_li a (fun _ _ => false) i) n)) (by omega)) (cwV 2 ht (gV wm_X1_X1_valuesWithBest wi_X1_valuesWithBest ws_X1_valuesWithBest wn_X1 wc_X1_valuesWithBest) rfl rfl rfl (by decide +kernel) ⟨Nat.le_of_ble_eq_true rfl, Nat.le_of_ble_eq_true rfl⟩) (rPre_V 0 hP hK hN rfl rfl) rfl rfl hl.1 rfl (lv_room (Nat.le_of_ble_eq_true rfl)) dX1_learn_51 ⟨Nat.zero_le _, Nat.zero_le _⟩) ?_
      refine lv_nm (y := nI (sd_ac (sd_li a (sd_bm n a (fun w => sd_br Y Z q w == 0)) i) n)) (by rw [uN_nI (by omega), sd_vb_li ha]) ?_
      refine hw_callW (ws' := [(od, .inr (1, [.int (nI n), .int (nI a), .int (nI (2 ^ n - 1 - a)), .ref og, .ref oy, .ref oz, .int (nI q), .int (nI d), .int (nI v), .ref ot])), (og, .inr (0, [.int (nI n), .int (nI a), .ref ob, .ref oe])), (ob, .inl (cI, (2 ^ n), .inl (fun jq => nI ((sd_br Y Z q) jq)))), (oe, .inl (cZ, (2 * 2 ^ n), .inl (fun jq => bI ((sd_ew n a (fun w => sd_br Y Z q w == 0)) jq)))), (oy, .inl (cI, 24, .inl (fun jq => nI (Y jq)))), (oz, .inl (cI, 24, .inl (fun jq => nI (Z jq)))), (ot, .inl (cI, n, .inl (sd_cv a (sd_Ts n a (fun w => sd_br Y Z q w == 0) T i) i (sd_ac (sd_li a (sd_bm n a (fun w => sd_br Y Z q w == 0)) i) n) n)))]) (va_runV (b := od) (As := [.int (nI i), .int (nI (sd_ac (sd_li a (sd_bm n a (fun w => sd_br Y Z q w == 0)) i) n))]) (rest := []) ⟨hx, hb, hml, hown, ht⟩ (c_claimValues l D cI cZ od og ob oe oy oz ot n a q d v Y Z (sd_Ts n a (fun w => sd_br Y Z q w == 0) T i) ok H.size i (sd_ac (sd_li a (sd_bm n a (fun w => sd_br Y Z q w == 0)) i) n) (by omega) hll) (cwV 2 ht (gV wm_X1_X1_claimValues wi_X1_claimValues ws_X1_claimValues wn_X1 wc_X1_claimValues) rfl rfl rfl (by decide +kernel) ⟨Nat.le_of_ble_eq_true rfl, Nat.le_of_ble_eq_true rfl⟩) (wPre_V 0 hP hD hK hN rfl rfl) rfl rfl hl.1 rfl (lv_room (Nat.le_of_ble_eq_true rfl)) dX1_learn_54 ⟨Nat.zero_le _, Nat.zero_le _⟩) hD hS hA rfl (fun H locs hP hD hS => ?_)
      have hP : va_P D clS [(od, .inr (1, [.int (nI n), .int (nI a), .int (nI (2 ^ n - 1 - a)), .ref og, .ref oy, .ref oz, .int (nI q), .int (nI d), .int (nI v), .ref ot])), (og, .inr (0, [.int (nI n), .int (nI a), .ref ob, .ref oe])), (ob, .inl (cI, (2 ^ n), .inl (fun jq => nI ((sd_br Y Z q) jq)))), (oe, .inl (cZ, (2 * 2 ^ n), .inl (fun jq => bI ((sd_ew n a (fun w => sd_br Y Z q w == 0)) jq)))), (oy, .inl (cI, 24, .inl (fun jq => nI (Y jq)))), (oz, .inl (cI, 24, .inl (fun jq => nI (Z jq)))), (ot, .inl (cI, n, .inl (sd_cv a (sd_Ts n a (fun w => sd_br Y Z q w == 0) T i) i (sd_ac (sd_li a (sd_bm n a (fun w => sd_br Y Z q w == 0)) i) n) n)))] H := hP
      have hD : va_D A [(od, .inr (1, [.int (nI n), .int (nI a), .int (nI (2 ^ n - 1 - a)), .ref og, .ref oy, .ref oz, .int (nI q), .int (nI d), .int (nI v), .ref ot])), (og, .inr (0, [.int (nI n), .int (nI a), .ref ob, .ref oe])), (ob, .inl (cI, (2 ^ n), .inl (fun jq => nI ((sd_br Y Z q) jq)))), (oe, .inl (cZ, (2 * 2 ^ n), .inl (fun jq => bI ((sd_ew n a (fun w => sd_br Y Z q w == 0)) jq)))), (oy, .inl (cI, 24, .inl (fun jq => nI (Y jq)))), (oz, .inl (cI, 24, .inl (fun jq => nI (Z jq)))), (ot, .inl (cI, n, .inl (sd_cv a (sd_Ts n a (fun w => sd_br Y Z q w == 0) T i) i (sd_ac (sd_li a (sd_bm n a (fun w => sd_br Y Z q w == 0)) i) n) n)))] := hD
      refine W.eq (g2 := F0 m 57 ls []) rfl ?_
      have hP : va_P D clS [(od, .inr (1, [.int (nI n), .int (nI a), .int (nI (2 ^ n - 1 - a)), .ref og, .ref oy, .ref oz, .int (nI q), .int (nI d), .int (nI v), .ref ot])), (og, .inr (0, [.int (nI n), .int (nI a), .ref ob, .ref oe])), (ob, .inl (cI, (2 ^ n), .inl (fun jq => nI ((sd_br Y Z q) jq)))), (oe, .inl (cZ, (2 * 2 ^ n), .inl (fun jq => bI ((sd_ew n a (fun w => sd_br Y Z q w == 0)) jq)))), (oy, .inl (cI, 24, .inl (fun jq => nI (Y jq)))), (oz, .inl (cI, 24, .inl (fun jq => nI (Z jq)))), (ot, .inl (cI, n, .inl (sd_Ts n a (fun w => sd_br Y Z q w == 0) T (i + 1))))] H := hw_cg hP (sd_Ts n a (fun w => sd_br Y Z q w == 0) T (i + 1)) (q0 := 6) rfl (fun j hj => sd_Ts_s hj) rfl
      have hD : va_D A [(od, .inr (1, [.int (nI n), .int (nI a), .int (nI (2 ^ n - 1 - a)), .ref og, .ref oy, .ref oz, .int (nI q), .int (nI d), .int (nI v), .ref ot])), (og, .inr (0, [.int (nI n), .int (nI a), .ref ob, .ref oe])), (ob, .inl (cI, (2 ^ n), .inl (fun jq => nI ((sd_br Y Z q) jq)))), (oe, .inl (cZ, (2 * 2 ^ n), .inl (fun jq => bI ((sd_ew n a (fun w => sd_br Y Z q w == 0)) jq)))), (oy, .inl (cI, 24, .inl (fun jq => nI (Y jq)))), (oz, .inl (cI, 24, .inl (fun jq => nI (Z jq)))), (ot, .inl (cI, n, .inl (sd_Ts n a (fun w => sd_br Y Z q w == 0) T (i + 1))))] := hw_ad hD rfl
      refine lv_iinc (k := 2) (v := nI (i + 1)) hx hb dX1_learn_57 hl rfl (hw_inc _) (by decide) rfl (fun ls hl => ?_)
      have hl : lv_has ls 3 [(2, .int (nI (i + 1))), (0, .ref od), (1, .int (nI (2 ^ sd_ct a n)))] := hl
      refine lv_goto (tgt := 34) hx hb dX1_learn_60 rfl ?_
      have hl : lv_has ls 3 [(0, .ref od), (1, .int (nI (2 ^ sd_ct a n))), (2, .int (nI (i + 1)))] := lv_sub hl [1, 2, 0] rfl
      exact ih2 (i + 1) ls H locs (by omega) hl hP hS
  | succ k ih =>
    intro i F ls H locs hi hF hl hP hS
    have hD : va_D A [(od, .inr (1, [.int (nI n), .int (nI a), .int (nI (2 ^ n - 1 - a)), .ref og, .ref oy, .ref oz, .int (nI q), .int (nI d), .int (nI v), .ref ot])), (og, .inr (0, [.int (nI n), .int (nI a), .ref ob, .ref oe])), (ob, .inl (cI, (2 ^ n), .inl (fun jq => nI ((sd_br Y Z q) jq)))), (oe, .inl (cZ, (2 * 2 ^ n), .inl (fun jq => bI ((sd_ew n a (fun w => sd_br Y Z q w == 0)) jq)))), (oy, .inl (cI, 24, .inl (fun jq => nI (Y jq)))), (oz, .inl (cI, 24, .inl (fun jq => nI (Z jq)))), (ot, .inl (cI, n, .inl F))] := hw_ad hD rfl
    refine lv_iload_n hx hb dX1_learn_2 rfl (lv_at hl 1 rfl) ?_
    refine lv_aload_n hx hb dX1_learn_3 rfl (lv_at hl 0 rfl) ?_
    refine va_get (D := D) (ci := 1) (v := .int (nI n)) (C := RX1) (T := TX1) (N := 10) hx hb ht inX1 hown hK hP 0 rfl rfl 0 (by decide) (ht _ wf_X1_size) (fun _ h9 => h9) rfl dX1_learn_4 ?_
    refine lv_icmp_ge (tgt := 23) hx hb dX1_learn_7 rfl (fun hc => absurd (show n ≤ i from (nI_leI (by omega) (by omega)).mp hc) (by omega)) (fun _ => ?_)
    refine lv_aload_n hx hb dX1_learn_10 rfl (lv_at hl 0 rfl) ?_
    refine va_get (D := D) (ci := 1) (v := .ref ot) (C := RX1) (T := TX1) (N := 10) hx hb ht inX1 hown hK hP 0 rfl rfl 9 (by decide) (ht _ wf_X1_tables) (fun _ h9 => h9) rfl dX1_learn_11 ?_
    refine lv_iload_n hx hb dX1_learn_14 rfl (lv_at hl 1 rfl) ?_
    refine lv_iconst (v := nI 0) hx hb dX1_learn_15 (by decide) ?_
    refine na_iast (f := F) (x := nI 0) hx hb hK hP hD hS 6 0 rfl rfl (j := i) (by omega) (by omega) dX1_learn_16 (fun H locs hP hD hS => ?_)
    have hP : va_P D clS [(od, .inr (1, [.int (nI n), .int (nI a), .int (nI (2 ^ n - 1 - a)), .ref og, .ref oy, .ref oz, .int (nI q), .int (nI d), .int (nI v), .ref ot])), (og, .inr (0, [.int (nI n), .int (nI a), .ref ob, .ref oe])), (ob, .inl (cI, (2 ^ n), .inl (fun jq => nI ((sd_br Y Z q) jq)))), (oe, .inl (cZ, (2 * 2 ^ n), .inl (fun jq => bI ((sd_ew n a (fun w => sd_br Y Z q w == 0)) jq)))), (oy, .inl (cI, 24, .inl (fun jq => nI (Y jq)))), (oz, .inl (cI, 24, .inl (fun jq => nI (Z jq)))), (ot, .inl (cI, n, .inl (upd F i (nI 0))))] H := hP
    have hD : va_D A [(od, .inr (1, [.int (nI n), .int (nI a), .int (nI (2 ^ n - 1 - a)), .ref og, .ref oy, .ref oz, .int (nI q), .int (nI d), .int (nI v), .ref ot])), (og, .inr (0, [.int (nI n), .int (nI a), .ref ob, .ref oe])), (ob, .inl (cI, (2 ^ n), .inl (fun jq => nI ((sd_br Y Z q) jq)))), (oe, .inl (cZ, (2 * 2 ^ n), .inl (fun jq => bI ((sd_ew n a (fun w => sd_br Y Z q w == 0)) jq)))), (oy, .inl (cI, 24, .inl (fun jq => nI (Y jq)))), (oz, .inl (cI, 24, .inl (fun jq => nI (Z jq)))), (ot, .inl (cI, n, .inl (upd F i (nI 0))))] := hD
    refine lv_iinc (k := 1) (v := nI (i + 1)) hx hb dX1_learn_17 hl rfl (hw_inc _) (by decide) rfl (fun ls hl => ?_)
    have hl : lv_has ls 3 [(1, .int (nI (i + 1))), (0, .ref od)] := hl
    refine lv_goto (tgt := 2) hx hb dX1_learn_20 rfl ?_
    have hl : lv_has ls 3 [(0, .ref od), (1, .int (nI (i + 1)))] := lv_sub hl [1, 0] rfl
    exact ih (i + 1) (upd F i (nI 0)) ls H locs (by omega) (fun j hj => (Nat.lt_or_ge j i).elim (fun h9 => (pk_un (by omega)).trans (hF j h9)) (fun h9 => by obtain rfl : j = i := (by omega); exact pk_us)) hl hP hS
