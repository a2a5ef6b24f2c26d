/-! Contracts of StrategyDesk: lines of claims, gaps, claimed, reply, answer, models. -/
theorem sd_dv (x i : Nat) : 2 ^ i * (x / 2 ^ i) = 2 ^ (i + 1) * (x / 2 ^ (i + 1)) + (x.testBit i).toNat * 2 ^ i := by
  have h1 := Nat.div_add_mod (x / 2 ^ i) 2
  rw [Nat.div_div_eq_div_mul, ← Nat.pow_succ, ← Nat.toNat_testBit] at h1
  have h2 : 2 ^ i * (x / 2 ^ i) = 2 ^ i * (2 * (x / 2 ^ (i + 1)) + (x.testBit i).toNat) := by rw [h1]
  rw [h2, Nat.mul_add, ← Nat.mul_assoc, ← Nat.pow_succ, Nat.mul_comm (2 ^ i) (Bool.toNat _)]
/-- what valuesWithClaims holds after i variables -/
def sd_mx (n a : Nat) (T : Nat → Int32) (sm i : Nat) : Nat := sd_ac (sd_cl a T sm) i + 2 ^ i * (sd_ac (sd_li a (fun _ _ => false) sm) n / 2 ^ i)
theorem sd_mx_0 (n a : Nat) (T : Nat → Int32) (sm : Nat) : sd_mx n a T sm 0 = sd_ac (sd_li a (fun _ _ => false) sm) n := by
  show 0 + 1 * (sd_ac (sd_li a (fun _ _ => false) sm) n / 1) = _
  rw [Nat.zero_add, Nat.one_mul, Nat.div_one]
theorem sd_mx_n (n a : Nat) (T : Nat → Int32) (sm : Nat) : sd_mx n a T sm n = sd_ac (sd_cl a T sm) n := by
  unfold sd_mx
  rw [Nat.div_eq_of_lt (sd_ac_lt _ n), Nat.mul_zero, Nat.add_zero]
theorem sd_mx_a {n a : Nat} {T : Nat → Int32} {sm i : Nat} (hi : i < n) (h : a.testBit i = true) : sd_mx n a T sm (i + 1) = sd_mx n a T sm i := by
  unfold sd_mx
  rw [sd_dv _ i, sd_ac_tb _ n hi, sd_li_a h]
  show sd_ac (sd_cl a T sm) i + (sd_cl a T sm i (sd_ac (sd_cl a T sm) i)).toNat * 2 ^ i + _ = _
  rw [show sd_cl a T sm i (sd_ac (sd_cl a T sm) i) = sm.testBit (sd_ct a i) from sd_li_a h]
  omega
theorem sd_mx_e {n a : Nat} {T : Nat → Int32} {sm i : Nat} (hi : i < n) (h : a.testBit i = false) : sd_mx n a T sm i ||| ((uN (T i)).testBit (sm % 2 ^ sd_ct a i)).toNat * 2 ^ i = sd_mx n a T sm (i + 1) := by
  have e1 : sd_mx n a T sm i = 2 ^ (i + 1) * (sd_ac (sd_li a (fun _ _ => false) sm) n / 2 ^ (i + 1)) + sd_ac (sd_cl a T sm) i := by
    unfold sd_mx
    rw [sd_dv _ i, sd_ac_tb _ n hi, sd_li_e h]
    show sd_ac (sd_cl a T sm) i + (_ + 0 * 2 ^ i) = _
    omega
  have hl := sd_ac_lt (sd_cl a T sm) i
  have hp := Nat.two_pow_succ i
  have e2 : (sd_mx n a T sm i).testBit i = false := by
    rw [e1, Nat.testBit_two_pow_mul_add _ (by omega), if_pos (by omega)]
    exact sd_ac_hi _ (Nat.le_refl i)
  rw [hw_orb e2, e1]
  unfold sd_mx
  show _ = sd_ac (sd_cl a T sm) i + (sd_cl a T sm i (sd_ac (sd_cl a T sm) i)).toNat * 2 ^ i + _
  rw [show sd_cl a T sm i (sd_ac (sd_cl a T sm) i) = (uN (T i)).testBit (sm % 2 ^ sd_ct a i) from sd_li_e h]
  omega
theorem sd_mx_lt {n a : Nat} {T : Nat → Int32} {sm : Nat} {i : Nat} (hi : i ≤ n) : sd_mx n a T sm i < 2 ^ n := by
  induction i with
  | zero => rw [sd_mx_0]; exact sd_ac_lt _ n
  | succ i ih =>
    have h1 := ih (by omega)
    by_cases h : a.testBit i = true
    · rw [sd_mx_a (by omega) h]; exact h1
    · have h : a.testBit i = false := by simpa using h
      rw [← sd_mx_e (by omega) h]
      apply Nat.or_lt_two_pow h1
      have h2 := bI_le ((uN (T i)).testBit (sm % 2 ^ sd_ct a i))
      have h3 : 2 ^ (i + 1) ≤ 2 ^ n := Nat.pow_le_pow_right (by decide) hi
      have hp := Nat.two_pow_succ i
      have hp0 := Nat.two_pow_pos i
      cases (uN (T i)).testBit (sm % 2 ^ sd_ct a i)
      · show 0 * 2 ^ i < 2 ^ n; omega
      · show 1 * 2 ^ i < 2 ^ n; omega
theorem hw_ev_t {x n : Nat} {b : Bool} (h : (decide (x < n) && !b) = true) : x < n ∧ b = false := by simpa using h
theorem hw_ev_f {x n : Nat} {b : Bool} (h : (decide (x < n) && !b) = false) : ¬ (x < n ∧ b = false) := by
  intro h2
  rw [decide_eq_true h2.1, h2.2] at h
  exact absurd h (by decide)
theorem hw_in' {x : Int32} {n : Nat} (hn : n < 2 ^ 31) (h0 : ¬ x < 0) (h1 : x < nI n) : uN x < n := hw_in hn h0 (Int32.not_le.mpr h1)
theorem hw_big' {x : Int32} {n : Nat} (hn : n < 2 ^ 31) (h : ¬ x < nI n) : ¬ uN x < n := hw_big hn (Int32.not_lt.mp h)
theorem hw_ev0 {n a i : Nat} (hi : i < n) (hn : n < 2 ^ 31) : (decide (uN (nI i) < n) && !a.testBit (uN (nI i))) = !a.testBit i := by
  rw [uN_nI (by omega), decide_eq_true hi, Bool.true_and]

set_option maxHeartbeats 4000000 in
set_option maxRecDepth 100000 in
theorem c_valuesWithClaims (l : Launch) (D : va_G) (cI cZ : ClassId) (od og ob oe oy oz ot n a q d v : Nat) (Y Z : Nat → Nat) (T : Nat → Int32) (ok : dOk n a q d v Y Z) (sm : Nat) (hsm : sm < 32) : Met l yX1_valuesWithClaims (kX1_valuesWithClaims :: aW) { frames := 3, cells := 0, slots := 0, locals := 63 } (rPre [.ref od, .int (nI sm)] D [(od, .inr (1, [.int (nI n), .int (nI a), .int (nI (2 ^ n - 1 - a)), .ref og, .ref oy, .ref oz, .int (nI q), .int (nI d), .int (nI v), .ref ot])), (og, .inr (0, [.int (nI n), .int (nI a), .ref ob, .ref oe])), (ob, .inl (cI, (2 ^ n), .inl (fun j => nI ((sd_br Y Z q) j)))), (oe, .inl (cZ, (2 * 2 ^ n), .inl (fun j => bI ((sd_ew n a (fun w => sd_br Y Z q w == 0)) j)))), (oy, .inl (cI, 24, .inl (fun j => nI (Y j)))), (oz, .inl (cI, 24, .inl (fun j => nI (Z j)))), (ot, .inl (cI, n, .inl T))] [(cI, .int), (cZ, .boolean)]) (QcRead (nI (sd_ac (sd_cl a T sm) n))) 0 0 (fun _ => False) := by
  obtain ⟨hn1, hn, ha, h5, hq, hY, hZ, hd, hv⟩ := id ok
  have h2n := hw_p10 hn
  refine Met.ofW (cc := cX1_valuesWithClaims) (maxL := 4) (ret := (some .int)) (by decide) rfl ?_
  intro p e s m args below meth c s₁ Bo hml hpre
  obtain ⟨rfl, hP, hK, hN⟩ := hpre
  have hx := Bo.exec
  have hb := Bo.bytes
  have hr := Bo.returns
  have hts := atoms_spec (ws := kX1_valuesWithClaims :: aW) Bo.pre
  have ht : ∀ w ∈ aW, w.before _ s = true := fun w h => hts w (List.mem_cons_of_mem _ h)
  have hown : s.vm.findClass RX1 = some m.cls := findClass_of_methodNamed Bo.named
  have hlocks := Bo.notSynchronized
  have hP : va_P D clS [(od, .inr (1, [.int (nI n), .int (nI a), .int (nI (2 ^ n - 1 - a)), .ref og, .ref oy, .ref oz, .int (nI q), .int (nI d), .int (nI v), .ref ot])), (og, .inr (0, [.int (nI n), .int (nI a), .ref ob, .ref oe])), (ob, .inl (cI, (2 ^ n), .inl (fun j => nI ((sd_br Y Z q) j)))), (oe, .inl (cZ, (2 * 2 ^ n), .inl (fun j => bI ((sd_ew n a (fun w => sd_br Y Z q w == 0)) j)))), (oy, .inl (cI, 24, .inl (fun j => nI (Y j)))), (oz, .inl (cI, 24, .inl (fun j => nI (Z j)))), (ot, .inl (cI, n, .inl T))] s.heap := hP
  have hl := lv_entry ([.ref od, .int (nI sm)]) (n := 4) (Nat.le_of_ble_eq_true rfl)
  rw [lg_entry_eq]
  generalize (lg_sl ([.ref od, .int (nI sm)]) ++ List.replicate (4 - (lg_sl ([.ref od, .int (nI sm)])).length) Slot.unset).toArray = ls at hl ⊢
  have hl : lv_has ls 4 [(0, .ref od), (1, .int (nI sm))] := hl
  refine lv_aload_n hx hb dX1_valuesWithClaims_0 rfl (lv_at hl 0 rfl) ?_
  refine lv_iload_n hx hb dX1_valuesWithClaims_1 rfl (lv_at hl 1 rfl) ?_
  refine hw_callR (va_runV (b := od) (As := [.int (nI sm)]) (rest := []) ⟨hx, hb, hml, hown, ht⟩ (c_adamValues l D cI cZ od og ob oe oy oz ot n a q d v Y Z T ok sm hsm) (cwV 1 ht (gV wm_X1_X1_adamValues wi_X1_adamValues ws_X1_adamValues wn_X1 wc_X1_adamValues) rfl rfl rfl (by decide +kernel) ⟨Nat.le_of_ble_eq_true rfl, Nat.le_of_ble_eq_true rfl⟩) (rPre_V 0 hP hK hN rfl rfl) rfl rfl hl.1 rfl (lv_room (Nat.le_of_ble_eq_true rfl)) dX1_valuesWithClaims_2 ⟨Nat.zero_le _, Nat.zero_le _⟩) ?_
  refine lv_istore_n hx hb dX1_valuesWithClaims_5 rfl hl (by decide) rfl (fun ls hl => ?_)
  have hl : lv_has ls 4 [(2, .int (nI (sd_ac (sd_li a (fun _ _ => false) sm) n))), (0, .ref od), (1, .int (nI sm))] := hl
  refine lv_iconst (v := nI 0) hx hb dX1_valuesWithClaims_6 (by decide) ?_
  refine lv_istore_n hx hb dX1_valuesWithClaims_7 rfl hl (by decide) rfl (fun ls hl => ?_)
  have hl : lv_has ls 4 [(3, .int (nI 0)), (2, .int (nI (sd_ac (sd_li a (fun _ _ => false) sm) n))), (0, .ref od), (1, .int (nI sm))] := hl
  have hl : lv_has ls 4 [(0, .ref od), (1, .int (nI sm)), (2, .int (nI (sd_ac (sd_li a (fun _ _ => false) sm) n))), (3, .int (nI 0))] := lv_sub hl [2, 3, 1, 0] rfl
  have hl : lv_has ls 4 [(0, .ref od), (1, .int (nI sm)), (2, .int (nI (sd_mx n a T sm 0))), (3, .int (nI 0))] := by rw [show nI (sd_mx n a T sm 0) = nI (sd_ac (sd_li a (fun _ _ => false) sm) n) from congrArg nI (sd_mx_0 n a T sm)]; exact hl
  suffices lp : ∀ k : Nat, ∀ (i : Nat) (ls : Array Slot), (i + k = n) → lv_has ls 4 [(0, .ref od), (1, .int (nI sm)), (2, .int (nI (sd_mx n a T sm i))), (3, .int (nI i))] → W p l e (headSpec (kX1_valuesWithClaims :: aW) { frames := 3, cells := 0, slots := 0, locals := 63 }).room s m (([.ref od, .int (nI sm)] : List Value).toArray) below meth c s.heap [] 0 0 (MQ below (QcRead (nI (sd_ac (sd_cl a T sm) n))) (([.ref od, .int (nI sm)] : List Value).toArray) s 0 0 (fun _ => False)) (F0 m 8 ls []) by
    exact lp n 0 ls (by omega) hl
  intro k
  induction k with
  | zero =>
    intro i ls hi hl
    refine lv_iload_n hx hb dX1_valuesWithClaims_8 rfl (lv_at hl 3 rfl) ?_
    refine lv_aload_n hx hb dX1_valuesWithClaims_9 rfl (lv_at hl 0 rfl) ?_
    refine va_get (D := D) (ci := 1) (v := .int (nI n)) (C := RX1) (T := TX1) (N := 10) hx hb ht inX1 hown hK hP 0 rfl rfl 0 (by decide) (ht _ wf_X1_size) (fun _ h9 => h9) rfl dX1_valuesWithClaims_10 ?_
    refine lv_icmp_ge (tgt := 50) hx hb dX1_valuesWithClaims_13 rfl (fun _ => ?_) (fun hc => absurd (show ¬ (n ≤ i) from fun h9 => hc ((nI_leI (by omega) (by omega)).mpr h9)) (by omega))
    refine lv_iload_n hx hb dX1_valuesWithClaims_50 rfl (lv_at hl 2 rfl) ?_
    exact W.iret hx hb hr (fun t ht2 _ => ⟨hw_ret (by rw [show i = n by omega, sd_mx_n]), ht2⟩) (fun _ h => by cases h) dX1_valuesWithClaims_51
  | succ k ih =>
    intro i ls hi hl
    have hmx := sd_mx_lt (n := n) (a := a) (T := T) (sm := sm) (i := i) (by omega)
    have hct := sd_ct_mono a (v := i) (w := n) (by omega)
    have h32 := sd_p32 h5 (v := i) (by omega)
    have hmd : sm % 2 ^ sd_ct a i < 2 ^ sd_ct a i := Nat.mod_lt _ (Nat.two_pow_pos _)
    refine lv_iload_n hx hb dX1_valuesWithClaims_8 rfl (lv_at hl 3 rfl) ?_
    refine lv_aload_n hx hb dX1_valuesWithClaims_9 rfl (lv_at hl 0 rfl) ?_
    refine va_get (D := D) (ci := 1) (v := .int (nI n)) (C := RX1) (T := TX1) (N := 10) hx hb ht inX1 hown hK hP 0 rfl rfl 0 (by decide) (ht _ wf_X1_size) (fun _ h9 => h9) rfl dX1_valuesWithClaims_10 ?_
    refine lv_icmp_ge (tgt := 50) hx hb dX1_valuesWithClaims_13 rfl (fun hc => absurd (show n ≤ i from (nI_leI (by omega) (by omega)).mp hc) (by omega)) (fun _ => ?_)
    refine lv_aload_n hx hb dX1_valuesWithClaims_16 rfl (lv_at hl 0 rfl) ?_
    refine lv_iload_n hx hb dX1_valuesWithClaims_17 rfl (lv_at hl 3 rfl) ?_
    refine hw_callR (va_runV (b := od) (As := [.int (nI i)]) (rest := []) ⟨hx, hb, hml, hown, ht⟩ (c_isEves l D cI cZ od og ob oe oy oz ot n a q d v Y Z T ok (nI i)) (cwV 1 ht (gV wm_X1_X1_isEves wi_X1_isEves ws_X1_isEves wn_X1 wc_X1_isEves) rfl rfl rfl (by decide +kernel) ⟨Nat.le_of_ble_eq_true rfl, Nat.le_of_ble_eq_true rfl⟩) (rPre_V 0 hP hK hN rfl rfl) rfl rfl hl.1 rfl (lv_room (Nat.le_of_ble_eq_true rfl)) dX1_valuesWithClaims_18 ⟨Nat.zero_le _, Nat.zero_le _⟩) ?_
    refine lv_nm (y := bI (!a.testBit i)) (congrArg bI (hw_ev0 (by omega) (by omega))) ?_
    refine lv_if_eq (tgt := 44) hx hb dX1_valuesWithClaims_21 rfl (fun h1 => ?_) (fun h1 => ?_)
    · have h1 : (!a.testBit i) = false := (bI_eq0 _).mp h1
      have hl : lv_has ls 4 [(0, .ref od), (1, .int (nI sm)), (2, .int (nI (sd_mx n a T sm (i + 1)))), (3, .int (nI i))] := by rw [show nI (sd_mx n a T sm (i + 1)) = nI (sd_mx n a T sm i) from congrArg nI (sd_mx_a (by omega) (by simpa using h1))]; exact hl
      refine lv_iinc (k := 3) (v := nI (i + 1)) hx hb dX1_valuesWithClaims_44 hl rfl (hw_inc _) (by decide) rfl (fun ls hl => ?_)
      have hl : lv_has ls 4 [(3, .int (nI (i + 1))), (0, .ref od), (1, .int (nI sm)), (2, .int (nI (sd_mx n a T sm (i + 1))))] := hl
      refine lv_goto (tgt := 8) hx hb dX1_valuesWithClaims_47 rfl ?_
      have hl : lv_has ls 4 [(0, .ref od), (1, .int (nI sm)), (2, .int (nI (sd_mx n a T sm (i + 1)))), (3, .int (nI (i + 1)))] := lv_sub hl [1, 2, 3, 0] rfl
      exact ih (i + 1) ls (by omega) hl
    · have h1 : (!a.testBit i) = true := bI_ne0 h1
      have h2 : a.testBit i = false := by simpa using h1
      refine lv_iload_n hx hb dX1_valuesWithClaims_24 rfl (lv_at hl 2 rfl) ?_
      refine lv_aload_n hx hb dX1_valuesWithClaims_25 rfl (lv_at hl 0 rfl) ?_
      refine va_get (D := D) (ci := 1) (v := .ref ot) (C := RX1) (T := TX1) (N := 10) hx hb ht inX1 hown hK hP 0 rfl rfl 9 (by decide) (ht _ wf_X1_tables) (fun _ h9 => h9) rfl dX1_valuesWithClaims_26 ?_
      refine lv_iload_n hx hb dX1_valuesWithClaims_29 rfl (lv_at hl 3 rfl) ?_
      refine na_iald (f := T) hx hb hK hP 6 0 rfl rfl (j := i) (by omega) (by omega) dX1_valuesWithClaims_30 ?_
      refine lv_aload_n hx hb dX1_valuesWithClaims_31 rfl (lv_at hl 0 rfl) ?_
      refine lv_iload_n hx hb dX1_valuesWithClaims_32 rfl (lv_at hl 3 rfl) ?_
      refine lv_iload_n hx hb dX1_valuesWithClaims_33 rfl (lv_at hl 1 rfl) ?_
      refine hw_callR (va_runV (b := od) (As := [.int (nI i), .int (nI sm)]) (rest := [.int (T i), .int (nI (sd_mx n a T sm i))]) ⟨hx, hb, hml, hown, ht⟩ (c_sumBefore l D cI cZ od og ob oe oy oz ot n a q d v Y Z T ok i sm (by omega)) (cwV 2 ht (gV wm_X1_X1_sumBefore wi_X1_sumBefore ws_X1_sumBefore wn_X1 wc_X1_sumBefore) rfl rfl rfl (by decide +kernel) ⟨Nat.le_of_ble_eq_true rfl, Nat.le_of_ble_eq_true rfl⟩) (rPre_V 0 hP hK hN rfl rfl) rfl rfl hl.1 rfl (lv_room (Nat.le_of_ble_eq_true rfl)) dX1_valuesWithClaims_34 ⟨Nat.zero_le _, Nat.zero_le _⟩) ?_
      refine hw_callR (va_runS (As := [.int (T i), .int (nI (sm % 2 ^ sd_ct a i))]) (rest := [.int (nI (sd_mx n a T sm i))]) ⟨hx, hb, hml, hown, ht⟩ (c_bit l D cI cZ (T i) (sm % 2 ^ sd_ct a i) (by omega)) (va_cwS 2 ht (gS wm_X1_X1_bit wt_X1_bit wn_X1 wc_X1_bit) rfl rfl rfl (by decide +kernel) ⟨Nat.le_of_ble_eq_true rfl, Nat.le_of_ble_eq_true rfl⟩) (rPre_S (hP.sub [] rfl) hK hN) rfl rfl hl.1 rfl (lv_room (Nat.le_of_ble_eq_true rfl)) dX1_valuesWithClaims_37 ⟨Nat.zero_le _, Nat.zero_le _⟩) ?_
      refine lv_iload_n hx hb dX1_valuesWithClaims_40 rfl (lv_at hl 3 rfl) ?_
      refine lv_ishl hx hb dX1_valuesWithClaims_41 ?_
      refine lv_nm (y := nI (((uN (T i)).testBit (sm % 2 ^ sd_ct a i)).toNat * 2 ^ i)) (hw_bshl _ (by omega)) ?_
      refine lv_ior hx hb dX1_valuesWithClaims_42 ?_
      refine lv_nm (y := nI ((sd_mx n a T sm i) ||| (((uN (T i)).testBit (sm % 2 ^ sd_ct a i)).toNat * 2 ^ i))) (hw_or _ _) ?_
      refine lv_nm (y := nI (sd_mx n a T sm (i + 1))) (congrArg nI (sd_mx_e (by omega) h2)) ?_
      refine lv_istore_n hx hb dX1_valuesWithClaims_43 rfl hl (by decide) rfl (fun ls hl => ?_)
      have hl : lv_has ls 4 [(2, .int (nI (sd_mx n a T sm (i + 1)))), (0, .ref od), (1, .int (nI sm)), (3, .int (nI i))] := hl
      refine lv_iinc (k := 3) (v := nI (i + 1)) hx hb dX1_valuesWithClaims_44 hl rfl (hw_inc _) (by decide) rfl (fun ls hl => ?_)
      have hl : lv_has ls 4 [(3, .int (nI (i + 1))), (2, .int (nI (sd_mx n a T sm (i + 1)))), (0, .ref od), (1, .int (nI sm))] := hl
      refine lv_goto (tgt := 8) hx hb dX1_valuesWithClaims_47 rfl ?_
      have hl : lv_has ls 4 [(0, .ref od), (1, .int (nI sm)), (2, .int (nI (sd_mx n a T sm (i + 1)))), (3, .int (nI (i + 1)))] := lv_sub hl [2, 3, 1, 0] rfl
      exact ih (i + 1) ls (by omega) hl

set_option maxHeartbeats 4000000 in
set_option maxRecDepth 100000 in
theorem c_gap (l : Launch) (D : va_G) (cI cZ : ClassId) (od og ob oe oy oz ot n a q d v : Nat) (Y Z : Nat → Nat) (T : Nat → Int32) (ok : dOk n a q d v Y Z) : Met l yX1_gap (kX1_gap :: aW) { frames := 4, cells := 0, slots := 0, locals := 86 } (rPre [.ref od] D [(od, .inr (1, [.int (nI n), .int (nI a), .int (nI (2 ^ n - 1 - a)), .ref og, .ref oy, .ref oz, .int (nI q), .int (nI d), .int (nI v), .ref ot])), (og, .inr (0, [.int (nI n), .int (nI a), .ref ob, .ref oe])), (ob, .inl (cI, (2 ^ n), .inl (fun j => nI ((sd_br Y Z q) j)))), (oe, .inl (cZ, (2 * 2 ^ n), .inl (fun j => bI ((sd_ew n a (fun w => sd_br Y Z q w == 0)) j)))), (oy, .inl (cI, 24, .inl (fun j => nI (Y j)))), (oz, .inl (cI, 24, .inl (fun j => nI (Z j)))), (ot, .inl (cI, n, .inl T))] [(cI, .int), (cZ, .boolean)]) (QcRead (sd_gp (fun sm => sd_br Y Z q (sd_ac (sd_cl a T sm) n) == 0) (2 ^ sd_ct a n) 0)) 0 0 (fun _ => False) := by
  obtain ⟨hn1, hn, ha, h5, hq, hY, hZ, hd, hv⟩ := id ok
  have h2n := hw_p10 hn
  refine Met.ofW (cc := cX1_gap) (maxL := 3) (ret := (some .int)) (by decide) rfl ?_
  intro p e s m args below meth c s₁ Bo hml hpre
  obtain ⟨rfl, hP, hK, hN⟩ := hpre
  have hx := Bo.exec
  have hb := Bo.bytes
  have hr := Bo.returns
  have hts := atoms_spec (ws := kX1_gap :: aW) Bo.pre
  have ht : ∀ w ∈ aW, w.before _ s = true := fun w h => hts w (List.mem_cons_of_mem _ h)
  have hown : s.vm.findClass RX1 = some m.cls := findClass_of_methodNamed Bo.named
  have hlocks := Bo.notSynchronized
  have hP : va_P D clS [(od, .inr (1, [.int (nI n), .int (nI a), .int (nI (2 ^ n - 1 - a)), .ref og, .ref oy, .ref oz, .int (nI q), .int (nI d), .int (nI v), .ref ot])), (og, .inr (0, [.int (nI n), .int (nI a), .ref ob, .ref oe])), (ob, .inl (cI, (2 ^ n), .inl (fun j => nI ((sd_br Y Z q) j)))), (oe, .inl (cZ, (2 * 2 ^ n), .inl (fun j => bI ((sd_ew n a (fun w => sd_br Y Z q w == 0)) j)))), (oy, .inl (cI, 24, .inl (fun j => nI (Y j)))), (oz, .inl (cI, 24, .inl (fun j => nI (Z j)))), (ot, .inl (cI, n, .inl T))] s.heap := hP
  have hl := lv_entry ([.ref od]) (n := 3) (Nat.le_of_ble_eq_true rfl)
  rw [lg_entry_eq]
  generalize (lg_sl ([.ref od]) ++ List.replicate (3 - (lg_sl ([.ref od])).length) Slot.unset).toArray = ls at hl ⊢
  have hl : lv_has ls 3 [(0, .ref od)] := hl
  have h32 := sd_p32 h5 (v := n) (Nat.le_refl n)
  refine lv_aload_n hx hb dX1_gap_0 rfl (lv_at hl 0 rfl) ?_
  refine lv_aload_n hx hb dX1_gap_1 rfl (lv_at hl 0 rfl) ?_
  refine va_get (D := D) (ci := 1) (v := .int (nI n)) (C := RX1) (T := TX1) (N := 10) hx hb ht inX1 hown hK hP 0 rfl rfl 0 (by decide) (ht _ wf_X1_size) (fun _ h9 => h9) rfl dX1_gap_2 ?_
  refine hw_callR (va_runV (b := od) (As := [.int (nI n)]) (rest := []) ⟨hx, hb, hml, hown, ht⟩ (c_sumsBefore l D cI cZ od og ob oe oy oz ot n a q d v Y Z T ok n (Nat.le_refl n)) (cwV 1 ht (gV wm_X1_X1_sumsBefore wi_X1_sumsBefore ws_X1_sumsBefore wn_X1 wc_X1_sumsBefore) rfl rfl rfl (by decide +kernel) ⟨Nat.le_of_ble_eq_true rfl, Nat.le_of_ble_eq_true rfl⟩) (rPre_V 0 hP hK hN rfl rfl) rfl rfl hl.1 rfl (lv_room (Nat.le_of_ble_eq_true rfl)) dX1_gap_5 ⟨Nat.zero_le _, Nat.zero_le _⟩) ?_
  refine lv_istore_n hx hb dX1_gap_8 rfl hl (by decide) rfl (fun ls hl => ?_)
  have hl : lv_has ls 3 [(1, .int (nI (2 ^ sd_ct a n))), (0, .ref od)] := hl
  refine lv_iconst (v := nI 0) hx hb dX1_gap_9 (by decide) ?_
  refine lv_istore_n hx hb dX1_gap_10 rfl hl (by decide) rfl (fun ls hl => ?_)
  have hl : lv_has ls 3 [(2, .int (nI 0)), (1, .int (nI (2 ^ sd_ct a n))), (0, .ref od)] := hl
  have hl : lv_has ls 3 [(0, .ref od), (1, .int (nI (2 ^ sd_ct a n))), (2, .int (nI 0))] := lv_sub hl [2, 1, 0] rfl
  suffices lp : ∀ k : Nat, ∀ (i : Nat) (ls : Array Slot), (i + k = 2 ^ sd_ct a n) → (sd_gp (fun sm => sd_br Y Z q (sd_ac (sd_cl a T sm) n) == 0) (2 ^ sd_ct a n) 0 = sd_gp (fun sm => sd_br Y Z q (sd_ac (sd_cl a T sm) n) == 0) k i) → lv_has ls 3 [(0, .ref od), (1, .int (nI (2 ^ sd_ct a n))), (2, .int (nI i))] → W p l e (headSpec (kX1_gap :: aW) { frames := 4, cells := 0, slots := 0, locals := 86 }).room s m (([.ref od] : List Value).toArray) below meth c s.heap [] 0 0 (MQ below (QcRead (sd_gp (fun sm => sd_br Y Z q (sd_ac (sd_cl a T sm) n) == 0) (2 ^ sd_ct a n) 0)) (([.ref od] : List Value).toArray) s 0 0 (fun _ => False)) (F0 m 11 ls []) by
    exact lp (2 ^ sd_ct a n) 0 ls (by omega) rfl hl
  intro k
  induction k with
  | zero =>
    intro i ls hi hg hl
    refine lv_iload_n hx hb dX1_gap_11 rfl (lv_at hl 2 rfl) ?_
    refine lv_iload_n hx hb dX1_gap_12 rfl (lv_at hl 1 rfl) ?_
    refine lv_icmp_ge (tgt := 43) hx hb dX1_gap_13 rfl (fun _ => ?_) (fun hc => absurd (show ¬ (2 ^ sd_ct a n ≤ i) from fun h9 => hc ((nI_leI (by omega) (by omega)).mpr h9)) (by omega))
    refine lv_iconst (v := (-1)) hx hb dX1_gap_43 (by decide) ?_
    exact W.iret hx hb hr (fun t ht2 _ => ⟨hw_ret (hg.symm), ht2⟩) (fun _ h => by cases h) dX1_gap_44
  | succ k ih =>
    intro i ls hi hg hl
    have hac := sd_ac_lt (sd_cl a T i) n
    refine lv_iload_n hx hb dX1_gap_11 rfl (lv_at hl 2 rfl) ?_
    refine lv_iload_n hx hb dX1_gap_12 rfl (lv_at hl 1 rfl) ?_
    refine lv_icmp_ge (tgt := 43) hx hb dX1_gap_13 rfl (fun hc => absurd (show 2 ^ sd_ct a n ≤ i from (nI_leI (by omega) (by omega)).mp hc) (by omega)) (fun _ => ?_)
    refine lv_aload_n hx hb dX1_gap_16 rfl (lv_at hl 0 rfl) ?_
    refine va_get (D := D) (ci := 1) (v := .ref og) (C := RX1) (T := TX1) (N := 10) hx hb ht inX1 hown hK hP 0 rfl rfl 3 (by decide) (ht _ wf_X1_game) (fun _ h9 => h9) rfl dX1_gap_17 ?_
    refine lv_aload_n hx hb dX1_gap_20 rfl (lv_at hl 0 rfl) ?_
    refine va_get (D := D) (ci := 1) (v := .int (nI n)) (C := RX1) (T := TX1) (N := 10) hx hb ht inX1 hown hK hP 0 rfl rfl 0 (by decide) (ht _ wf_X1_size) (fun _ h9 => h9) rfl dX1_gap_21 ?_
    refine lv_aload_n hx hb dX1_gap_24 rfl (lv_at hl 0 rfl) ?_
    refine lv_iload_n hx hb dX1_gap_25 rfl (lv_at hl 2 rfl) ?_
    refine hw_callR (va_runV (b := od) (As := [.int (nI i)]) (rest := [.int (nI n), .ref og]) ⟨hx, hb, hml, hown, ht⟩ (c_valuesWithClaims l D cI cZ od og ob oe oy oz ot n a q d v Y Z T ok i (by omega)) (cwV 1 ht (gV wm_X1_X1_valuesWithClaims wi_X1_valuesWithClaims ws_X1_valuesWithClaims wn_X1 wc_X1_valuesWithClaims) rfl rfl rfl (by decide +kernel) ⟨Nat.le_of_ble_eq_true rfl, Nat.le_of_ble_eq_true rfl⟩) (rPre_V 0 hP hK hN rfl rfl) rfl rfl hl.1 rfl (lv_room (Nat.le_of_ble_eq_true rfl)) dX1_gap_26 ⟨Nat.zero_le _, Nat.zero_le _⟩) ?_
    refine hw_callR (va_runV (b := og) (As := [.int (nI n), .int (nI (sd_ac (sd_cl a T i) n))]) (rest := []) ⟨hx, hb, hml, hown, ht⟩ (c_eveWinsAt l D cI cZ og ob oe n a n (sd_ac (sd_cl a T i) n) (sd_br Y Z q) (sd_ew n a (fun w => sd_br Y Z q w == 0)) hn (by omega) (by omega)) (cwV 2 ht (gV wm_X1_X0_eveWinsAt wi_X0_eveWinsAt ws_X0_eveWinsAt wn_X0 wc_X0_eveWinsAt) rfl rfl rfl (by decide +kernel) ⟨Nat.le_of_ble_eq_true rfl, Nat.le_of_ble_eq_true rfl⟩) (rPre_V 0 (hP.sub [1, 2, 3] rfl) hK hN rfl rfl) rfl rfl hl.1 rfl (lv_room (Nat.le_of_ble_eq_true rfl)) dX1_gap_29 ⟨Nat.zero_le _, Nat.zero_le _⟩) ?_
    refine lv_nm (y := bI (sd_br Y Z q (sd_ac (sd_cl a T i) n) == 0)) (congrArg bI ((sd_ew_at hac).trans (sd_E_n n a (fun w => sd_br Y Z q w == 0) _))) ?_
    refine lv_if_ne (tgt := 37) hx hb dX1_gap_32 rfl (fun h1 => ?_) (fun h1 => ?_)
    · have h1 : (sd_br Y Z q (sd_ac (sd_cl a T i) n) == 0) = true := bI_ne0 h1
      refine lv_iinc (k := 2) (v := nI (i + 1)) hx hb dX1_gap_37 hl rfl (hw_inc _) (by decide) rfl (fun ls hl => ?_)
      have hl : lv_has ls 3 [(2, .int (nI (i + 1))), (0, .ref od), (1, .int (nI (2 ^ sd_ct a n)))] := hl
      refine lv_goto (tgt := 11) hx hb dX1_gap_40 rfl ?_
      have hl : lv_has ls 3 [(0, .ref od), (1, .int (nI (2 ^ sd_ct a n))), (2, .int (nI (i + 1)))] := lv_sub hl [1, 2, 0] rfl
      exact ih (i + 1) ls (by omega) (hg.trans (if_pos h1)) hl
    · have h1 : (sd_br Y Z q (sd_ac (sd_cl a T i) n) == 0) = false := (bI_eq0 _).mp h1
      refine lv_iload_n hx hb dX1_gap_35 rfl (lv_at hl 2 rfl) ?_
      exact W.iret hx hb hr (fun t ht2 _ => ⟨hw_ret ((hg.trans (if_neg (fun h9 => absurd (h1.symm.trans h9) (by decide)))).symm), ht2⟩) (fun _ h => by cases h) dX1_gap_36

set_option maxHeartbeats 4000000 in
set_option maxRecDepth 100000 in
theorem c_claimed (l : Launch) (D : va_G) (cI cZ : ClassId) (od og ob oe oy oz ot n a q d v : Nat) (Y Z : Nat → Nat) (T : Nat → Int32) (ok : dOk n a q d v Y Z) (x y0 : Int32) : Met l yX1_claimed (kX1_claimed :: aW) { frames := 2, cells := 0, slots := 0, locals := 42 } (rPre [.ref od, .int x, .int y0] D [(od, .inr (1, [.int (nI n), .int (nI a), .int (nI (2 ^ n - 1 - a)), .ref og, .ref oy, .ref oz, .int (nI q), .int (nI d), .int (nI v), .ref ot])), (og, .inr (0, [.int (nI n), .int (nI a), .ref ob, .ref oe])), (ob, .inl (cI, (2 ^ n), .inl (fun j => nI ((sd_br Y Z q) j)))), (oe, .inl (cZ, (2 * 2 ^ n), .inl (fun j => bI ((sd_ew n a (fun w => sd_br Y Z q w == 0)) j)))), (oy, .inl (cI, 24, .inl (fun j => nI (Y j)))), (oz, .inl (cI, 24, .inl (fun j => nI (Z j)))), (ot, .inl (cI, n, .inl T))] [(cI, .int), (cZ, .boolean)]) (QcRead (if (uN x < n ∧ a.testBit (uN x) = false) ∧ uN y0 < 2 ^ sd_ct a (uN x) then bI ((uN (T (uN x))).testBit (uN y0)) else 0)) 0 0 (fun _ => False) := by
  obtain ⟨hn1, hn, ha, h5, hq, hY, hZ, hd, hv⟩ := id ok
  have h2n := hw_p10 hn
  refine Met.ofW (cc := cX1_claimed) (maxL := 3) (ret := (some .int)) (by decide) rfl ?_
  intro p e s m args below meth c s₁ Bo hml hpre
  obtain ⟨rfl, hP, hK, hN⟩ := hpre
  have hx := Bo.exec
  have hb := Bo.bytes
  have hr := Bo.returns
  have hts := atoms_spec (ws := kX1_claimed :: aW) Bo.pre
  have ht : ∀ w ∈ aW, w.before _ s = true := fun w h => hts w (List.mem_cons_of_mem _ h)
  have hown : s.vm.findClass RX1 = some m.cls := findClass_of_methodNamed Bo.named
  have hlocks := Bo.notSynchronized
  have hP : va_P D clS [(od, .inr (1, [.int (nI n), .int (nI a), .int (nI (2 ^ n - 1 - a)), .ref og, .ref oy, .ref oz, .int (nI q), .int (nI d), .int (nI v), .ref ot])), (og, .inr (0, [.int (nI n), .int (nI a), .ref ob, .ref oe])), (ob, .inl (cI, (2 ^ n), .inl (fun j => nI ((sd_br Y Z q) j)))), (oe, .inl (cZ, (2 * 2 ^ n), .inl (fun j => bI ((sd_ew n a (fun w => sd_br Y Z q w == 0)) j)))), (oy, .inl (cI, 24, .inl (fun j => nI (Y j)))), (oz, .inl (cI, 24, .inl (fun j => nI (Z j)))), (ot, .inl (cI, n, .inl T))] s.heap := hP
  have hl := lv_entry ([.ref od, .int x, .int y0]) (n := 3) (Nat.le_of_ble_eq_true rfl)
  rw [lg_entry_eq]
  generalize (lg_sl ([.ref od, .int x, .int y0]) ++ List.replicate (3 - (lg_sl ([.ref od, .int x, .int y0])).length) Slot.unset).toArray = ls at hl ⊢
  have hl : lv_has ls 3 [(0, .ref od), (1, .int x), (2, .int y0)] := hl
  refine lv_aload_n hx hb dX1_claimed_0 rfl (lv_at hl 0 rfl) ?_
  refine lv_iload_n hx hb dX1_claimed_1 rfl (lv_at hl 1 rfl) ?_
  refine hw_callR (va_runV (b := od) (As := [.int x]) (rest := []) ⟨hx, hb, hml, hown, ht⟩ (c_isEves l D cI cZ od og ob oe oy oz ot n a q d v Y Z T ok x) (cwV 1 ht (gV wm_X1_X1_isEves wi_X1_isEves ws_X1_isEves wn_X1 wc_X1_isEves) rfl rfl rfl (by decide +kernel) ⟨Nat.le_of_ble_eq_true rfl, Nat.le_of_ble_eq_true rfl⟩) (rPre_V 0 hP hK hN rfl rfl) rfl rfl hl.1 rfl (lv_room (Nat.le_of_ble_eq_true rfl)) dX1_claimed_2 ⟨Nat.zero_le _, Nat.zero_le _⟩) ?_
  refine lv_if_eq (tgt := 21) hx hb dX1_claimed_5 rfl (fun h1 => ?_) (fun h1 => ?_)
  · have h1 : (decide (uN x < n) && !a.testBit (uN x)) = false := (bI_eq0 _).mp h1
    refine lv_iconst (v := nI 0) hx hb dX1_claimed_21 (by decide) ?_
    exact W.iret hx hb hr (fun t ht2 _ => ⟨hw_ret ((if_neg (fun h9 => hw_ev_f h1 h9.1)).symm), ht2⟩) (fun _ h => by cases h) dX1_claimed_22
  · have h1 : (decide (uN x < n) && !a.testBit (uN x)) = true := bI_ne0 h1
    have hE := hw_ev_t h1
    have h32 := sd_p32 h5 (v := uN x) (by omega)
    refine lv_iload_n hx hb dX1_claimed_8 rfl (lv_at hl 2 rfl) ?_
    refine lv_if_lt (tgt := 21) hx hb dX1_claimed_9 rfl (fun h2 => ?_) (fun h2 => ?_)
    · refine lv_iconst (v := nI 0) hx hb dX1_claimed_21 (by decide) ?_
      exact W.iret hx hb hr (fun t ht2 _ => ⟨hw_ret ((if_neg (fun h9 => (hw_pos (by omega) h9.2).1 h2)).symm), ht2⟩) (fun _ h => by cases h) dX1_claimed_22
    · refine lv_iload_n hx hb dX1_claimed_12 rfl (lv_at hl 2 rfl) ?_
      refine lv_aload_n hx hb dX1_claimed_13 rfl (lv_at hl 0 rfl) ?_
      refine lv_iload_n hx hb dX1_claimed_14 rfl (lv_at hl 1 rfl) ?_
      refine lv_nm (y := nI (uN x)) ((nI_uN x).symm) ?_
      refine hw_callR (va_runV (b := od) (As := [.int (nI (uN x))]) (rest := [.int y0]) ⟨hx, hb, hml, hown, ht⟩ (c_sumsBefore l D cI cZ od og ob oe oy oz ot n a q d v Y Z T ok (uN x) (by omega)) (cwV 1 ht (gV wm_X1_X1_sumsBefore wi_X1_sumsBefore ws_X1_sumsBefore wn_X1 wc_X1_sumsBefore) rfl rfl rfl (by decide +kernel) ⟨Nat.le_of_ble_eq_true rfl, Nat.le_of_ble_eq_true rfl⟩) (rPre_V 0 hP hK hN rfl rfl) rfl rfl hl.1 rfl (lv_room (Nat.le_of_ble_eq_true rfl)) dX1_claimed_15 ⟨Nat.zero_le _, Nat.zero_le _⟩) ?_
      refine lv_icmp_lt (tgt := 23) hx hb dX1_claimed_18 rfl (fun h3 => ?_) (fun h3 => ?_)
      · have hy := hw_in' (by omega) h2 h3
        refine lv_aload_n hx hb dX1_claimed_23 rfl (lv_at hl 0 rfl) ?_
        refine va_get (D := D) (ci := 1) (v := .ref ot) (C := RX1) (T := TX1) (N := 10) hx hb ht inX1 hown hK hP 0 rfl rfl 9 (by decide) (ht _ wf_X1_tables) (fun _ h9 => h9) rfl dX1_claimed_24 ?_
        refine lv_iload_n hx hb dX1_claimed_27 rfl (lv_at hl 1 rfl) ?_
        refine lv_nm (y := nI (uN x)) ((nI_uN x).symm) ?_
        refine na_iald (f := T) hx hb hK hP 6 0 rfl rfl (j := uN x) (by omega) (by omega) dX1_claimed_28 ?_
        refine lv_iload_n hx hb dX1_claimed_29 rfl (lv_at hl 2 rfl) ?_
        refine lv_nm (y := nI (uN y0)) ((nI_uN y0).symm) ?_
        refine hw_callR (va_runS (As := [.int (T (uN x)), .int (nI (uN y0))]) (rest := []) ⟨hx, hb, hml, hown, ht⟩ (c_bit l D cI cZ (T (uN x)) (uN y0) (by omega)) (va_cwS 2 ht (gS wm_X1_X1_bit wt_X1_bit wn_X1 wc_X1_bit) rfl rfl rfl (by decide +kernel) ⟨Nat.le_of_ble_eq_true rfl, Nat.le_of_ble_eq_true rfl⟩) (rPre_S (hP.sub [] rfl) hK hN) rfl rfl hl.1 rfl (lv_room (Nat.le_of_ble_eq_true rfl)) dX1_claimed_30 ⟨Nat.zero_le _, Nat.zero_le _⟩) ?_
        exact W.iret hx hb hr (fun t ht2 _ => ⟨hw_ret ((if_pos ⟨hE, hy⟩).symm), ht2⟩) (fun _ h => by cases h) dX1_claimed_33
      · refine lv_iconst (v := nI 0) hx hb dX1_claimed_21 (by decide) ?_
        exact W.iret hx hb hr (fun t ht2 _ => ⟨hw_ret ((if_neg (fun h9 => hw_big' (by omega) h3 h9.2)).symm), ht2⟩) (fun _ h => by cases h) dX1_claimed_22

set_option maxHeartbeats 4000000 in
set_option maxRecDepth 100000 in
theorem c_reply (l : Launch) (D : va_G) (cI cZ : ClassId) (od og ob oe oy oz ot n a q d v : Nat) (Y Z : Nat → Nat) (T : Nat → Int32) (ok : dOk n a q d v Y Z) (x td : Int32) : Met l yX1_reply (kX1_reply :: aW) { frames := 3, cells := 0, slots := 0, locals := 72 } (rPre [.ref od, .int x, .int td] D [(od, .inr (1, [.int (nI n), .int (nI a), .int (nI (2 ^ n - 1 - a)), .ref og, .ref oy, .ref oz, .int (nI q), .int (nI d), .int (nI v), .ref ot])), (og, .inr (0, [.int (nI n), .int (nI a), .ref ob, .ref oe])), (ob, .inl (cI, (2 ^ n), .inl (fun j => nI ((sd_br Y Z q) j)))), (oe, .inl (cZ, (2 * 2 ^ n), .inl (fun j => bI ((sd_ew n a (fun w => sd_br Y Z q w == 0)) j)))), (oy, .inl (cI, 24, .inl (fun j => nI (Y j)))), (oz, .inl (cI, 24, .inl (fun j => nI (Z j)))), (ot, .inl (cI, n, .inl T))] [(cI, .int), (cZ, .boolean)]) (QcRead (if uN x < n then bI (sd_vb n a (fun w => sd_br Y Z q w == 0) (2 ^ n - 1 - a) (uN td) (uN x) (sd_ac (sd_vb n a (fun w => sd_br Y Z q w == 0) (2 ^ n - 1 - a) (uN td)) (uN x))) else -1)) 0 0 (fun _ => False) := by
  obtain ⟨hn1, hn, ha, h5, hq, hY, hZ, hd, hv⟩ := id ok
  have h2n := hw_p10 hn
  refine Met.ofW (cc := cX1_reply) (maxL := 3) (ret := (some .int)) (by decide) rfl ?_
  intro p e s m args below meth c s₁ Bo hml hpre
  obtain ⟨rfl, hP, hK, hN⟩ := hpre
  have hx := Bo.exec
  have hb := Bo.bytes
  have hr := Bo.returns
  have hts := atoms_spec (ws := kX1_reply :: aW) Bo.pre
  have ht : ∀ w ∈ aW, w.before _ s = true := fun w h => hts w (List.mem_cons_of_mem _ h)
  have hown : s.vm.findClass RX1 = some m.cls := findClass_of_methodNamed Bo.named
  have hlocks := Bo.notSynchronized
  have hP : va_P D clS [(od, .inr (1, [.int (nI n), .int (nI a), .int (nI (2 ^ n - 1 - a)), .ref og, .ref oy, .ref oz, .int (nI q), .int (nI d), .int (nI v), .ref ot])), (og, .inr (0, [.int (nI n), .int (nI a), .ref ob, .ref oe])), (ob, .inl (cI, (2 ^ n), .inl (fun j => nI ((sd_br Y Z q) j)))), (oe, .inl (cZ, (2 * 2 ^ n), .inl (fun j => bI ((sd_ew n a (fun w => sd_br Y Z q w == 0)) j)))), (oy, .inl (cI, 24, .inl (fun j => nI (Y j)))), (oz, .inl (cI, 24, .inl (fun j => nI (Z j)))), (ot, .inl (cI, n, .inl T))] s.heap := hP
  have hl := lv_entry ([.ref od, .int x, .int td]) (n := 3) (Nat.le_of_ble_eq_true rfl)
  rw [lg_entry_eq]
  generalize (lg_sl ([.ref od, .int x, .int td]) ++ List.replicate (3 - (lg_sl ([.ref od, .int x, .int td])).length) Slot.unset).toArray = ls at hl ⊢
  have hl : lv_has ls 3 [(0, .ref od), (1, .int x), (2, .int td)] := hl
  refine lv_aload_n hx hb dX1_reply_0 rfl (lv_at hl 0 rfl) ?_
  refine lv_iload_n hx hb dX1_reply_1 rfl (lv_at hl 1 rfl) ?_
  refine hw_callR (va_runV (b := od) (As := [.int x]) (rest := []) ⟨hx, hb, hml, hown, ht⟩ (c_isVariable l D cI cZ od og ob oe oy oz ot n a q d v Y Z T ok x) (cwV 1 ht (gV wm_X1_X1_isVariable wi_X1_isVariable ws_X1_isVariable wn_X1 wc_X1_isVariable) rfl rfl rfl (by decide +kernel) ⟨Nat.le_of_ble_eq_true rfl, Nat.le_of_ble_eq_true rfl⟩) (rPre_V 0 hP hK hN rfl rfl) rfl rfl hl.1 rfl (lv_room (Nat.le_of_ble_eq_true rfl)) dX1_reply_2 ⟨Nat.zero_le _, Nat.zero_le _⟩) ?_
  refine lv_if_eq (tgt := 24) hx hb dX1_reply_5 rfl (fun h1 => ?_) (fun h1 => ?_)
  · have h1 : (decide (uN x < n)) = false := (bI_eq0 _).mp h1
    refine lv_iconst (v := (-1)) hx hb dX1_reply_24 (by decide) ?_
    exact W.iret hx hb hr (fun t ht2 _ => ⟨hw_ret ((if_neg (of_decide_eq_false h1)).symm), ht2⟩) (fun _ h => by cases h) dX1_reply_25
  · have h1 : (decide (uN x < n)) = true := bI_ne0 h1
    have hxn : uN x < n := of_decide_eq_true h1
    have hac := sd_ac_lt (sd_vb n a (fun w => sd_br Y Z q w == 0) (2 ^ n - 1 - a) (uN td)) n
    refine lv_aload_n hx hb dX1_reply_8 rfl (lv_at hl 0 rfl) ?_
    refine lv_aload_n hx hb dX1_reply_9 rfl (lv_at hl 0 rfl) ?_
    refine va_get (D := D) (ci := 1) (v := .int (nI (2 ^ n - 1 - a))) (C := RX1) (T := TX1) (N := 10) hx hb ht inX1 hown hK hP 0 rfl rfl 2 (by decide) (ht _ wf_X1_eveSet) (fun _ h9 => h9) rfl dX1_reply_10 ?_
    refine lv_iload_n hx hb dX1_reply_13 rfl (lv_at hl 2 rfl) ?_
    refine hw_callR (va_runV (b := od) (As := [.int (nI (2 ^ n - 1 - a)), .int td]) (rest := []) ⟨hx, hb, hml, hown, ht⟩ (c_valuesWithBest l D cI cZ od og ob oe oy oz ot n a q d v Y Z T ok (2 ^ n - 1 - a) td (by omega)) (cwV 2 ht (gV wm_X1_X1_valuesWithBest wi_X1_valuesWithBest ws_X1_valuesWithBest wn_X1 wc_X1_valuesWithBest) rfl rfl rfl (by decide +kernel) ⟨Nat.le_of_ble_eq_true rfl, Nat.le_of_ble_eq_true rfl⟩) (rPre_V 0 hP hK hN rfl rfl) rfl rfl hl.1 rfl (lv_room (Nat.le_of_ble_eq_true rfl)) dX1_reply_14 ⟨Nat.zero_le _, Nat.zero_le _⟩) ?_
    refine lv_iload_n hx hb dX1_reply_17 rfl (lv_at hl 1 rfl) ?_
    refine lv_nm (y := nI (uN x)) ((nI_uN x).symm) ?_
    refine hw_callR (va_runS (As := [.int (nI (sd_ac (sd_vb n a (fun w => sd_br Y Z q w == 0) (2 ^ n - 1 - a) (uN td)) n)), .int (nI (uN x))]) (rest := []) ⟨hx, hb, hml, hown, ht⟩ (c_bitn l D cI cZ (sd_ac (sd_vb n a (fun w => sd_br Y Z q w == 0) (2 ^ n - 1 - a) (uN td)) n) (uN x) (by omega) (by omega)) (va_cwS 2 ht (gS wm_X1_X1_bit wt_X1_bit wn_X1 wc_X1_bit) rfl rfl rfl (by decide +kernel) ⟨Nat.le_of_ble_eq_true rfl, Nat.le_of_ble_eq_true rfl⟩) (rPre_S (hP.sub [] rfl) hK hN) rfl rfl hl.1 rfl (lv_room (Nat.le_of_ble_eq_true rfl)) dX1_reply_18 ⟨Nat.zero_le _, Nat.zero_le _⟩) ?_
    refine lv_nm (y := bI (sd_vb n a (fun w => sd_br Y Z q w == 0) (2 ^ n - 1 - a) (uN td) (uN x) (sd_ac (sd_vb n a (fun w => sd_br Y Z q w == 0) (2 ^ n - 1 - a) (uN td)) (uN x)))) (congrArg bI (sd_ac_tb _ n hxn)) ?_
    refine lv_goto (tgt := 25) hx hb dX1_reply_21 rfl ?_
    exact W.iret hx hb hr (fun t ht2 _ => ⟨hw_ret ((if_pos hxn).symm), ht2⟩) (fun _ h => by cases h) dX1_reply_25

set_option maxHeartbeats 4000000 in
set_option maxRecDepth 100000 in
theorem c_answer (l : Launch) (D : va_G) (cI cZ : ClassId) (od og ob oe oy oz ot n a q d v : Nat) (Y Z : Nat → Nat) (T : Nat → Int32) (ok : dOk n a q d v Y Z) (x td : Int32) : Met l yX1_answer (kX1_answer :: aW) { frames := 3, cells := 0, slots := 0, locals := 72 } (rPre [.ref od, .int x, .int td] D [(od, .inr (1, [.int (nI n), .int (nI a), .int (nI (2 ^ n - 1 - a)), .ref og, .ref oy, .ref oz, .int (nI q), .int (nI d), .int (nI v), .ref ot])), (og, .inr (0, [.int (nI n), .int (nI a), .ref ob, .ref oe])), (ob, .inl (cI, (2 ^ n), .inl (fun j => nI ((sd_br Y Z q) j)))), (oe, .inl (cZ, (2 * 2 ^ n), .inl (fun j => bI ((sd_ew n a (fun w => sd_br Y Z q w == 0)) j)))), (oy, .inl (cI, 24, .inl (fun j => nI (Y j)))), (oz, .inl (cI, 24, .inl (fun j => nI (Z j)))), (ot, .inl (cI, n, .inl T))] [(cI, .int), (cZ, .boolean)]) (QcRead (if uN x < n then bI (sd_vb n a (fun w => sd_br Y Z q w == 0) a (uN td) (uN x) (sd_ac (sd_vb n a (fun w => sd_br Y Z q w == 0) a (uN td)) (uN x))) else -1)) 0 0 (fun _ => False) := by
  obtain ⟨hn1, hn, ha, h5, hq, hY, hZ, hd, hv⟩ := id ok
  have h2n := hw_p10 hn
  refine Met.ofW (cc := cX1_answer) (maxL := 3) (ret := (some .int)) (by decide) rfl ?_
  intro p e s m args below meth c s₁ Bo hml hpre
  obtain ⟨rfl, hP, hK, hN⟩ := hpre
  have hx := Bo.exec
  have hb := Bo.bytes
  have hr := Bo.returns
  have hts := atoms_spec (ws := kX1_answer :: aW) Bo.pre
  have ht : ∀ w ∈ aW, w.before _ s = true := fun w h => hts w (List.mem_cons_of_mem _ h)
  have hown : s.vm.findClass RX1 = some m.cls := findClass_of_methodNamed Bo.named
  have hlocks := Bo.notSynchronized
  have hP : va_P D clS [(od, .inr (1, [.int (nI n), .int (nI a), .int (nI (2 ^ n - 1 - a)), .ref og, .ref oy, .ref oz, .int (nI q), .int (nI d), .int (nI v), .ref ot])), (og, .inr (0, [.int (nI n), .int (nI a), .ref ob, .ref oe])), (ob, .inl (cI, (2 ^ n), .inl (fun j => nI ((sd_br Y Z q) j)))), (oe, .inl (cZ, (2 * 2 ^ n), .inl (fun j => bI ((sd_ew n a (fun w => sd_br Y Z q w == 0)) j)))), (oy, .inl (cI, 24, .inl (fun j => nI (Y j)))), (oz, .inl (cI, 24, .inl (fun j => nI (Z j)))), (ot, .inl (cI, n, .inl T))] s.heap := hP
  have hl := lv_entry ([.ref od, .int x, .int td]) (n := 3) (Nat.le_of_ble_eq_true rfl)
  rw [lg_entry_eq]
  generalize (lg_sl ([.ref od, .int x, .int td]) ++ List.replicate (3 - (lg_sl ([.ref od, .int x, .int td])).length) Slot.unset).toArray = ls at hl ⊢
  have hl : lv_has ls 3 [(0, .ref od), (1, .int x), (2, .int td)] := hl
  refine lv_aload_n hx hb dX1_answer_0 rfl (lv_at hl 0 rfl) ?_
  refine lv_iload_n hx hb dX1_answer_1 rfl (lv_at hl 1 rfl) ?_
  refine hw_callR (va_runV (b := od) (As := [.int x]) (rest := []) ⟨hx, hb, hml, hown, ht⟩ (c_isVariable l D cI cZ od og ob oe oy oz ot n a q d v Y Z T ok x) (cwV 1 ht (gV wm_X1_X1_isVariable wi_X1_isVariable ws_X1_isVariable wn_X1 wc_X1_isVariable) rfl rfl rfl (by decide +kernel) ⟨Nat.le_of_ble_eq_true rfl, Nat.le_of_ble_eq_true rfl⟩) (rPre_V 0 hP hK hN rfl rfl) rfl rfl hl.1 rfl (lv_room (Nat.le_of_ble_eq_true rfl)) dX1_answer_2 ⟨Nat.zero_le _, Nat.zero_le _⟩) ?_
  refine lv_if_eq (tgt := 24) hx hb dX1_answer_5 rfl (fun h1 => ?_) (fun h1 => ?_)
  · have h1 : (decide (uN x < n)) = false := (bI_eq0 _).mp h1
    refine lv_iconst (v := (-1)) hx hb dX1_answer_24 (by decide) ?_
    exact W.iret hx hb hr (fun t ht2 _ => ⟨hw_ret ((if_neg (of_decide_eq_false h1)).symm), ht2⟩) (fun _ h => by cases h) dX1_answer_25
  · have h1 : (decide (uN x < n)) = true := bI_ne0 h1
    have hxn : uN x < n := of_decide_eq_true h1
    have hac := sd_ac_lt (sd_vb n a (fun w => sd_br Y Z q w == 0) a (uN td)) n
    refine lv_aload_n hx hb dX1_answer_8 rfl (lv_at hl 0 rfl) ?_
    refine lv_aload_n hx hb dX1_answer_9 rfl (lv_at hl 0 rfl) ?_
    refine va_get (D := D) (ci := 1) (v := .int (nI a)) (C := RX1) (T := TX1) (N := 10) hx hb ht inX1 hown hK hP 0 rfl rfl 1 (by decide) (ht _ wf_X1_adamSet) (fun _ h9 => h9) rfl dX1_answer_10 ?_
    refine lv_iload_n hx hb dX1_answer_13 rfl (lv_at hl 2 rfl) ?_
    refine hw_callR (va_runV (b := od) (As := [.int (nI a), .int td]) (rest := []) ⟨hx, hb, hml, hown, ht⟩ (c_valuesWithBest l D cI cZ od og ob oe oy oz ot n a q d v Y Z T ok a td (by omega)) (cwV 2 ht (gV wm_X1_X1_valuesWithBest wi_X1_valuesWithBest ws_X1_valuesWithBest wn_X1 wc_X1_valuesWithBest) rfl rfl rfl (by decide +kernel) ⟨Nat.le_of_ble_eq_true rfl, Nat.le_of_ble_eq_true rfl⟩) (rPre_V 0 hP hK hN rfl rfl) rfl rfl hl.1 rfl (lv_room (Nat.le_of_ble_eq_true rfl)) dX1_answer_14 ⟨Nat.zero_le _, Nat.zero_le _⟩) ?_
    refine lv_iload_n hx hb dX1_answer_17 rfl (lv_at hl 1 rfl) ?_
    refine lv_nm (y := nI (uN x)) ((nI_uN x).symm) ?_
    refine hw_callR (va_runS (As := [.int (nI (sd_ac (sd_vb n a (fun w => sd_br Y Z q w == 0) a (uN td)) n)), .int (nI (uN x))]) (rest := []) ⟨hx, hb, hml, hown, ht⟩ (c_bitn l D cI cZ (sd_ac (sd_vb n a (fun w => sd_br Y Z q w == 0) a (uN td)) n) (uN x) (by omega) (by omega)) (va_cwS 2 ht (gS wm_X1_X1_bit wt_X1_bit wn_X1 wc_X1_bit) rfl rfl rfl (by decide +kernel) ⟨Nat.le_of_ble_eq_true rfl, Nat.le_of_ble_eq_true rfl⟩) (rPre_S (hP.sub [] rfl) hK hN) rfl rfl hl.1 rfl (lv_room (Nat.le_of_ble_eq_true rfl)) dX1_answer_18 ⟨Nat.zero_le _, Nat.zero_le _⟩) ?_
    refine lv_nm (y := bI (sd_vb n a (fun w => sd_br Y Z q w == 0) a (uN td) (uN x) (sd_ac (sd_vb n a (fun w => sd_br Y Z q w == 0) a (uN td)) (uN x)))) (congrArg bI (sd_ac_tb _ n hxn)) ?_
    refine lv_goto (tgt := 25) hx hb dX1_answer_21 rfl ?_
    exact W.iret hx hb hr (fun t ht2 _ => ⟨hw_ret ((if_pos hxn).symm), ht2⟩) (fun _ h => by cases h) dX1_answer_25

set_option maxHeartbeats 4000000 in
set_option maxRecDepth 100000 in
theorem c_models (l : Launch) (D : va_G) (cI cZ : ClassId) (od og ob oe oy oz ot n a q d v : Nat) (Y Z : Nat → Nat) (T : Nat → Int32) (ok : dOk n a q d v Y Z) : Met l yX1_models (kX1_models :: aW) { frames := 1, cells := 0, slots := 0, locals := 22 } (rPre [.ref od] D [(od, .inr (1, [.int (nI n), .int (nI a), .int (nI (2 ^ n - 1 - a)), .ref og, .ref oy, .ref oz, .int (nI q), .int (nI d), .int (nI v), .ref ot])), (og, .inr (0, [.int (nI n), .int (nI a), .ref ob, .ref oe])), (ob, .inl (cI, (2 ^ n), .inl (fun j => nI ((sd_br Y Z q) j)))), (oe, .inl (cZ, (2 * 2 ^ n), .inl (fun j => bI ((sd_ew n a (fun w => sd_br Y Z q w == 0)) j)))), (oy, .inl (cI, 24, .inl (fun j => nI (Y j)))), (oz, .inl (cI, 24, .inl (fun j => nI (Z j)))), (ot, .inl (cI, n, .inl T))] [(cI, .int), (cZ, .boolean)]) (QcRead (nI (sd_cn (fun w => sd_br Y Z q w == 0) (2 ^ n)))) 0 0 (fun _ => False) := by
  obtain ⟨hn1, hn, ha, h5, hq, hY, hZ, hd, hv⟩ := id ok
  have h2n := hw_p10 hn
  refine Met.ofW (cc := cX1_models) (maxL := 1) (ret := (some .int)) (by decide) rfl ?_
  intro p e s m args below meth c s₁ Bo hml hpre
  obtain ⟨rfl, hP, hK, hN⟩ := hpre
  have hx := Bo.exec
  have hb := Bo.bytes
  have hr := Bo.returns
  have hts := atoms_spec (ws := kX1_models :: aW) Bo.pre
  have ht : ∀ w ∈ aW, w.before _ s = true := fun w h => hts w (List.mem_cons_of_mem _ h)
  have hown : s.vm.findClass RX1 = some m.cls := findClass_of_methodNamed Bo.named
  have hlocks := Bo.notSynchronized
  have hP : va_P D clS [(od, .inr (1, [.int (nI n), .int (nI a), .int (nI (2 ^ n - 1 - a)), .ref og, .ref oy, .ref oz, .int (nI q), .int (nI d), .int (nI v), .ref ot])), (og, .inr (0, [.int (nI n), .int (nI a), .ref ob, .ref oe])), (ob, .inl (cI, (2 ^ n), .inl (fun j => nI ((sd_br Y Z q) j)))), (oe, .inl (cZ, (2 * 2 ^ n), .inl (fun j => bI ((sd_ew n a (fun w => sd_br Y Z q w == 0)) j)))), (oy, .inl (cI, 24, .inl (fun j => nI (Y j)))), (oz, .inl (cI, 24, .inl (fun j => nI (Z j)))), (ot, .inl (cI, n, .inl T))] s.heap := hP
  have hl := lv_entry ([.ref od]) (n := 1) (Nat.le_of_ble_eq_true rfl)
  rw [lg_entry_eq]
  generalize (lg_sl ([.ref od]) ++ List.replicate (1 - (lg_sl ([.ref od])).length) Slot.unset).toArray = ls at hl ⊢
  have hl : lv_has ls 1 [(0, .ref od)] := hl
  refine lv_aload_n hx hb dX1_models_0 rfl (lv_at hl 0 rfl) ?_
  refine va_get (D := D) (ci := 1) (v := .ref og) (C := RX1) (T := TX1) (N := 10) hx hb ht inX1 hown hK hP 0 rfl rfl 3 (by decide) (ht _ wf_X1_game) (fun _ h9 => h9) rfl dX1_models_1 ?_
  refine hw_callR (va_runV (b := og) (As := []) (rest := []) ⟨hx, hb, hml, hown, ht⟩ (c_countModels l D cI cZ og ob oe n a (sd_br Y Z q) (sd_ew n a (fun w => sd_br Y Z q w == 0)) hn (fun u _ => Nat.lt_of_le_of_lt (sd_br_le Y Z u q) (by omega))) (cwV 0 ht (gV wm_X1_X0_countModels wi_X0_countModels ws_X0_countModels wn_X0 wc_X0_countModels) rfl rfl rfl (by decide +kernel) ⟨Nat.le_of_ble_eq_true rfl, Nat.le_of_ble_eq_true rfl⟩) (rPre_V 0 (hP.sub [1, 2, 3] rfl) hK hN rfl rfl) rfl rfl hl.1 rfl (lv_room (Nat.le_of_ble_eq_true rfl)) dX1_models_4 ⟨Nat.zero_le _, Nat.zero_le _⟩) ?_
  exact W.iret hx hb hr (fun t ht2 _ => ⟨hw_ret (rfl), ht2⟩) (fun _ h => by cases h) dX1_models_7
