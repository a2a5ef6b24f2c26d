/-! Contracts of bit and of the class Game. -/
theorem hw_p10 {n : Nat} (h : n ≤ 10) : 2 ^ n ≤ 1024 := Nat.le_trans (Nat.pow_le_pow_right (n := 2) (by decide) h) (by decide)
theorem hw_bt {x y : Bool} (h : x = y) : true = (x == y) := by rw [h]; exact (beq_self_eq_true y).symm
theorem hw_bf {x y : Bool} (h : ¬ x = y) : false = (x == y) := (beq_false_of_ne h).symm
theorem sd_leafs {n a : Nat} {Br : Nat → Nat} {F : Nat → Bool} (hF : ∀ j, j < 2 ^ n → F (2 ^ n + j) = (Br j == 0)) (j : Nat) (h1 : 2 ^ n ≤ j) (h2 : j < 2 * 2 ^ n) : F j = sd_ew n a (fun v => Br v == 0) j := by
  obtain ⟨v, rfl⟩ : ∃ v, j = 2 ^ n + v := ⟨j - 2 ^ n, by omega⟩
  rw [hF v (by omega), sd_ew_at (by omega), sd_E_n]
theorem sd_cn_t {f : Nat → Bool} {i : Nat} (h : f i = true) : sd_cn f (i + 1) = sd_cn f i + 1 := by
  show sd_cn f i + (f i).toNat = _
  rw [h]
  rfl
theorem sd_cn_f {f : Nat → Bool} {i : Nat} (h : f i = false) : sd_cn f (i + 1) = sd_cn f i := by
  show sd_cn f i + (f i).toNat = _
  rw [h]
  rfl
/-- one depth judged, as far as i of its positions -/
def sd_ji (a d : Nat) (G : Nat → Bool) (i : Nat) : Nat → Bool := fun j => if 2 ^ d ≤ j ∧ j < 2 ^ d + i then sd_C (a.testBit d) (G (2 ^ (d + 1) + (j - 2 ^ d))) (G (2 ^ (d + 1) + j)) else G j
theorem sd_ji_s {a d i : Nat} {G : Nat → Bool} (hi : i < 2 ^ d) (j : Nat) : va_up (sd_ji a d G i) (2 ^ d + i) (sd_C (a.testBit d) (sd_ji a d G i (2 ^ (d + 1) + i)) (sd_ji a d G i (2 ^ (d + 1) + (i + 2 ^ d)))) j = sd_ji a d G (i + 1) j := by
  have hp := Nat.two_pow_succ d
  by_cases hj : j = 2 ^ d + i
  · subst hj
    rw [va_up_self]
    have e1 : sd_ji a d G i (2 ^ (d + 1) + i) = G (2 ^ (d + 1) + i) := if_neg (by omega)
    have e2 : sd_ji a d G i (2 ^ (d + 1) + (i + 2 ^ d)) = G (2 ^ (d + 1) + (i + 2 ^ d)) := if_neg (by omega)
    have e3 : sd_ji a d G (i + 1) (2 ^ d + i) = sd_C (a.testBit d) (G (2 ^ (d + 1) + (2 ^ d + i - 2 ^ d))) (G (2 ^ (d + 1) + (2 ^ d + i))) := if_pos (by omega)
    rw [e1, e2, e3, Nat.add_sub_cancel_left, Nat.add_comm i]
  · rw [va_up_ne _ _ hj]
    unfold sd_ji
    by_cases h : 2 ^ d ≤ j ∧ j < 2 ^ d + i
    · rw [if_pos h, if_pos (by omega)]
    · rw [if_neg h, if_neg (by omega)]
/-- judged from depth d + 1 on, and depth d judged: judged from depth d on -/
theorem sd_ji_ok {n a d : Nat} {S G : Nat → Bool} (hd : d < n) (hG : ∀ j, 2 ^ (d + 1) ≤ j → j < 2 * 2 ^ n → G j = sd_ew n a S j) (j : Nat) (h1 : 2 ^ d ≤ j) (h2 : j < 2 * 2 ^ n) : sd_ji a d G (2 ^ d) j = sd_ew n a S j := by
  have hp := Nat.two_pow_succ d
  have hdn : 2 ^ (d + 1) ≤ 2 ^ n := Nat.pow_le_pow_right (by decide) hd
  unfold sd_ji
  by_cases h : j < 2 ^ d + 2 ^ d
  · rw [if_pos ⟨h1, h⟩]
    obtain ⟨v, rfl⟩ : ∃ v, j = 2 ^ d + v := ⟨j - 2 ^ d, by omega⟩
    have hv : v < 2 ^ d := by omega
    rw [Nat.add_sub_cancel_left, hG _ (by omega) (by omega), hG _ (by omega) (by omega), sd_ew_at (by omega), Nat.add_comm (2 ^ d) v, sd_ew_at (by omega), Nat.add_comm v (2 ^ d), sd_ew_at hv, sd_E_s v hd, Nat.add_comm v (2 ^ d)]
  · rw [if_neg (by omega)]
    exact hG j (by omega) h2
theorem sd_no {b q : Nat} {st : Int32} {fl : Bool} (h : (if fl = true then nI b + st else nI b) = nI q) (hb : b < 2 ^ 31) (hq : q < 2 ^ 31) (hf : fl = false) : b = q := by
  subst hf
  exact nI_i (by omega) (by omega) h
theorem sd_yes {b q : Nat} {st : Int32} {fl : Bool} (h : (if fl = true then nI b + st else nI b) = nI q) (hf : fl = true) : nI b + st = nI q := by
  subst hf
  exact h

set_option maxHeartbeats 4000000 in
set_option maxRecDepth 100000 in
/-- bit i of x -/
theorem c_bit (l : Launch) (D : va_G) (cI cZ : ClassId) (x : Int32) (i : Nat) (hi : i < 32) : Met l yX1_bit (kX1_bit :: aW) { frames := 0, cells := 0, slots := 0, locals := 0 } (rPre [.int x, .int (nI i)] D [] [(cI, .int), (cZ, .boolean)]) (QcRead (bI ((uN x).testBit i))) 0 0 (fun _ => False) := by
  refine Met.ofW (cc := cX1_bit) (maxL := 2) (ret := (some .int)) (by decide) rfl ?_
  intro p e s m args below meth c s₁ Bo hml hpre
  obtain ⟨rfl, hP, hK, hN⟩ := hpre
  have hx := Bo.exec
  have hb := Bo.bytes
  have hr := Bo.returns
  have hts := atoms_spec (ws := kX1_bit :: aW) Bo.pre
  have ht : ∀ w ∈ aW, w.before _ s = true := fun w h => hts w (List.mem_cons_of_mem _ h)
  have hown : s.vm.findClass RX1 = some m.cls := findClass_of_methodNamed Bo.named
  have hlocks := Bo.notSynchronized
  have hP : va_P D clS [] s.heap := hP
  have hl := lv_entry ([.int x, .int (nI i)]) (n := 2) (Nat.le_of_ble_eq_true rfl)
  rw [lg_entry_eq]
  generalize (lg_sl ([.int x, .int (nI i)]) ++ List.replicate (2 - (lg_sl ([.int x, .int (nI i)])).length) Slot.unset).toArray = ls at hl ⊢
  have hl : lv_has ls 2 [(0, .int x), (1, .int (nI i))] := hl
  refine lv_iload_n hx hb dX1_bit_0 rfl (lv_at hl 0 rfl) ?_
  refine lv_iload_n hx hb dX1_bit_1 rfl (lv_at hl 1 rfl) ?_
  refine lv_iushr hx hb dX1_bit_2 rfl ?_
  refine lv_iconst (v := nI 1) hx hb dX1_bit_3 (by decide) ?_
  refine lv_iand hx hb dX1_bit_4 ?_
  refine lv_nm (y := bI ((uN x).testBit i)) (hw_ubit _ (by omega)) ?_
  exact W.iret hx hb hr (fun t ht2 _ => ⟨hw_ret (rfl), ht2⟩) (fun _ h => by cases h) dX1_bit_5

theorem c_bitn (l : Launch) (D : va_G) (cI cZ : ClassId) (x i : Nat) (hx : x < 2 ^ 32) (hi : i < 32) : Met l yX1_bit (kX1_bit :: aW) { frames := 0, cells := 0, slots := 0, locals := 0 } (rPre [.int (nI x), .int (nI i)] D [] [(cI, .int), (cZ, .boolean)]) (QcRead (bI (x.testBit i))) 0 0 (fun _ => False) := by
  have h := c_bit l D cI cZ (nI x) i hi
  rw [uN_nI hx] at h
  exact h

set_option maxHeartbeats 4000000 in
set_option maxRecDepth 100000 in
theorem c_eveWinsAt (l : Launch) (D : va_G) (cI cZ : ClassId) (og ob oe n a : Nat) (d v : Nat) (Br : Nat → Nat) (f : Nat → Bool) (hn : n ≤ 10) (hd : d ≤ 10) (hj : 2 ^ d + v < 2 * 2 ^ n) : Met l yX0_eveWinsAt (kX0_eveWinsAt :: aW) { frames := 0, cells := 0, slots := 0, locals := 0 } (rPre [.ref og, .int (nI d), .int (nI v)] D [(og, .inr (0, [.int (nI n), .int (nI a), .ref ob, .ref oe])), (ob, .inl (cI, (2 ^ n), .inl (fun j => nI (Br j)))), (oe, .inl (cZ, (2 * 2 ^ n), .inl (fun j => bI (f j))))] [(cI, .int), (cZ, .boolean)]) (QcRead (bI (f (2 ^ d + v)))) 0 0 (fun _ => False) := by
  refine Met.ofW (cc := cX0_eveWinsAt) (maxL := 3) (ret := (some .boolean)) (by decide) rfl ?_
  intro p e s m args below meth c s₁ Bo hml hpre
  obtain ⟨rfl, hP, hK, hN⟩ := hpre
  have hx := Bo.exec
  have hb := Bo.bytes
  have hr := Bo.returns
  have hts := atoms_spec (ws := kX0_eveWinsAt :: aW) Bo.pre
  have ht : ∀ w ∈ aW, w.before _ s = true := fun w h => hts w (List.mem_cons_of_mem _ h)
  have hown : s.vm.findClass RX0 = some m.cls := findClass_of_methodNamed Bo.named
  have hlocks := Bo.notSynchronized
  have hP : va_P D clS [(og, .inr (0, [.int (nI n), .int (nI a), .ref ob, .ref oe])), (ob, .inl (cI, (2 ^ n), .inl (fun j => nI (Br j)))), (oe, .inl (cZ, (2 * 2 ^ n), .inl (fun j => bI (f j))))] s.heap := hP
  have hl := lv_entry ([.ref og, .int (nI d), .int (nI v)]) (n := 3) (Nat.le_of_ble_eq_true rfl)
  rw [lg_entry_eq]
  generalize (lg_sl ([.ref og, .int (nI d), .int (nI v)]) ++ List.replicate (3 - (lg_sl ([.ref og, .int (nI d), .int (nI v)])).length) Slot.unset).toArray = ls at hl ⊢
  have hl : lv_has ls 3 [(0, .ref og), (1, .int (nI d)), (2, .int (nI v))] := hl
  have h2n := hw_p10 hn
  refine lv_aload_n hx hb dX0_eveWinsAt_0 rfl (lv_at hl 0 rfl) ?_
  refine va_get (D := D) (ci := 0) (v := .ref oe) (C := RX0) (T := TX0) (N := 4) hx hb ht inX0 hown hK hP 0 rfl rfl 3 (by decide) (ht _ wf_X0_eveWins) (fun _ h9 => h9) rfl dX0_eveWinsAt_1 ?_
  refine lv_iconst (v := nI 1) hx hb dX0_eveWinsAt_4 (by decide) ?_
  refine lv_iload_n hx hb dX0_eveWinsAt_5 rfl (lv_at hl 1 rfl) ?_
  refine lv_ishl hx hb dX0_eveWinsAt_6 ?_
  refine lv_nm (y := nI (2 ^ d)) (hw_shl1' (by omega)) ?_
  refine lv_iload_n hx hb dX0_eveWinsAt_7 rfl (lv_at hl 2 rfl) ?_
  refine lv_iadd hx hb dX0_eveWinsAt_8 ?_
  refine lv_nm (y := nI ((2 ^ d) + v)) (nI_add _ _) ?_
  refine na_zald (f := f) hx hb hK hP 2 1 rfl rfl (j := (2 ^ d) + v) (by omega) (by omega) dX0_eveWinsAt_9 ?_
  exact W.zret hx hb hr (bI_nar _) (fun t ht2 _ => ⟨hw_ret (rfl), ht2⟩) (fun _ h => by cases h) dX0_eveWinsAt_10

set_option maxHeartbeats 4000000 in
set_option maxRecDepth 100000 in
theorem c_bestMove (l : Launch) (D : va_G) (cI cZ : ClassId) (og ob oe n a : Nat) (d v : Nat) (Br : Nat → Nat) (S : Nat → Bool) (hn : n ≤ 10) (ha : a < 2 ^ n) (hd : d < n) (hv : v < 2 ^ d) : Met l yX0_bestMove (kX0_bestMove :: aW) { frames := 1, cells := 0, slots := 0, locals := 22 } (rPre [.ref og, .int (nI d), .int (nI v)] D [(og, .inr (0, [.int (nI n), .int (nI a), .ref ob, .ref oe])), (ob, .inl (cI, (2 ^ n), .inl (fun j => nI (Br j)))), (oe, .inl (cZ, (2 * 2 ^ n), .inl (fun j => bI ((sd_ew n a S) j))))] [(cI, .int), (cZ, .boolean)]) (QcRead (bI (sd_bm n a S d v))) 0 0 (fun _ => False) := by
  refine Met.ofW (cc := cX0_bestMove) (maxL := 6) (ret := (some .int)) (by decide) rfl ?_
  intro p e s m args below meth c s₁ Bo hml hpre
  obtain ⟨rfl, hP, hK, hN⟩ := hpre
  have hx := Bo.exec
  have hb := Bo.bytes
  have hr := Bo.returns
  have hts := atoms_spec (ws := kX0_bestMove :: aW) Bo.pre
  have ht : ∀ w ∈ aW, w.before _ s = true := fun w h => hts w (List.mem_cons_of_mem _ h)
  have hown : s.vm.findClass RX0 = some m.cls := findClass_of_methodNamed Bo.named
  have hlocks := Bo.notSynchronized
  have hP : va_P D clS [(og, .inr (0, [.int (nI n), .int (nI a), .ref ob, .ref oe])), (ob, .inl (cI, (2 ^ n), .inl (fun j => nI (Br j)))), (oe, .inl (cZ, (2 * 2 ^ n), .inl (fun j => bI ((sd_ew n a S) j))))] s.heap := hP
  have hl := lv_entry ([.ref og, .int (nI d), .int (nI v)]) (n := 6) (Nat.le_of_ble_eq_true rfl)
  rw [lg_entry_eq]
  generalize (lg_sl ([.ref og, .int (nI d), .int (nI v)]) ++ List.replicate (6 - (lg_sl ([.ref og, .int (nI d), .int (nI v)])).length) Slot.unset).toArray = ls at hl ⊢
  have hl : lv_has ls 6 [(0, .ref og), (1, .int (nI d)), (2, .int (nI v))] := hl
  have h2n := hw_p10 hn
  have hp := Nat.two_pow_succ d
  have hdn : 2 ^ (d + 1) ≤ 2 ^ n := Nat.pow_le_pow_right (by decide) hd
  refine lv_aload_n hx hb dX0_bestMove_0 rfl (lv_at hl 0 rfl) ?_
  refine va_get (D := D) (ci := 0) (v := .int (nI a)) (C := RX0) (T := TX0) (N := 4) hx hb ht inX0 hown hK hP 0 rfl rfl 1 (by decide) (ht _ wf_X0_adamSet) (fun _ h9 => h9) rfl dX0_bestMove_1 ?_
  refine lv_iload_n hx hb dX0_bestMove_4 rfl (lv_at hl 1 rfl) ?_
  refine hw_callR (va_runSN (As := [.int (nI a), .int (nI d)]) (rest := []) ⟨hx, hb, hml, hown, ht⟩ (c_bitn l D cI cZ a d (by omega) (by omega)) ⟨va_cnB 2 ht (gA wc_X1_bit) rfl rfl rfl hN (ht _ wn_X1) (by decide +kernel) ⟨Nat.le_of_ble_eq_true rfl, Nat.le_of_ble_eq_true rfl⟩, ht _ wt_X1_bit, trivial⟩ (rPre_S (hP.sub [] rfl) hK hN) rfl rfl hl.1 rfl (lv_room (Nat.le_of_ble_eq_true rfl)) dX0_bestMove_5 ⟨Nat.zero_le _, Nat.zero_le _⟩) ?_
  suffices mk : W p l e (headSpec (kX0_bestMove :: aW) { frames := 1, cells := 0, slots := 0, locals := 22 }).room s m (([.ref og, .int (nI d), .int (nI v)] : List Value).toArray) below meth c s.heap [] 0 0 (MQ below (QcRead (bI (sd_bm n a S d v))) (([.ref og, .int (nI d), .int (nI v)] : List Value).toArray) s 0 0 (fun _ => False)) (F0 m 16 ls [.int (bI (!a.testBit d))]) by
    refine lv_if_ne (tgt := 15) hx hb dX0_bestMove_8 rfl (fun h1 => ?_) (fun h1 => ?_)
    · have h1 : (a.testBit d) = true := bI_ne0 h1
      refine lv_iconst (v := nI 0) hx hb dX0_bestMove_15 (by decide) ?_
      refine lv_nm (y := bI (!a.testBit d)) (hw_0.trans (congrArg bI (show false = (!a.testBit d) by simp [h1]))) ?_
      exact mk
    · have h1 : (a.testBit d) = false := (bI_eq0 _).mp h1
      refine lv_iconst (v := nI 1) hx hb dX0_bestMove_11 (by decide) ?_
      refine lv_goto (tgt := 16) hx hb dX0_bestMove_12 rfl ?_
      refine lv_nm (y := bI (!a.testBit d)) (hw_1.trans (congrArg bI (show true = (!a.testBit d) by simp [h1]))) ?_
      exact mk
  refine lv_istore_n hx hb dX0_bestMove_16 rfl hl (by decide) rfl (fun ls hl => ?_)
  have hl : lv_has ls 6 [(3, .int (bI (!a.testBit d))), (0, .ref og), (1, .int (nI d)), (2, .int (nI v))] := hl
  refine lv_aload_n hx hb dX0_bestMove_17 rfl (lv_at hl 1 rfl) ?_
  refine lv_iload_n hx hb dX0_bestMove_18 rfl (lv_at hl 2 rfl) ?_
  refine lv_iconst (v := nI 1) hx hb dX0_bestMove_19 (by decide) ?_
  refine lv_iadd hx hb dX0_bestMove_20 ?_
  refine lv_nm (y := nI (d + 1)) (nI_add _ _) ?_
  refine lv_iload_n hx hb dX0_bestMove_21 rfl (lv_at hl 3 rfl) ?_
  refine hw_callR (va_runV (b := og) (As := [.int (nI (d + 1)), .int (nI v)]) (rest := []) ⟨hx, hb, hml, hown, ht⟩ (c_eveWinsAt l D cI cZ og ob oe n a (d + 1) v Br (sd_ew n a S) hn (by omega) (by omega)) (cwV 2 ht (gV wm_X0_X0_eveWinsAt wi_X0_eveWinsAt ws_X0_eveWinsAt wn_X0 wc_X0_eveWinsAt) rfl rfl rfl (by decide +kernel) ⟨Nat.le_of_ble_eq_true rfl, Nat.le_of_ble_eq_true rfl⟩) (rPre_V 0 hP hK hN rfl rfl) rfl rfl hl.1 rfl (lv_room (Nat.le_of_ble_eq_true rfl)) dX0_bestMove_22 ⟨Nat.zero_le _, Nat.zero_le _⟩) ?_
  refine lv_nm (y := bI (sd_E n a S (d + 1) v)) (congrArg bI (sd_ew_at (by omega))) ?_
  refine lv_iload_n hx hb dX0_bestMove_25 rfl (lv_at hl 0 rfl) ?_
  suffices mk : W p l e (headSpec (kX0_bestMove :: aW) { frames := 1, cells := 0, slots := 0, locals := 22 }).room s m (([.ref og, .int (nI d), .int (nI v)] : List Value).toArray) below meth c s.heap [] 0 0 (MQ below (QcRead (bI (sd_bm n a S d v))) (([.ref og, .int (nI d), .int (nI v)] : List Value).toArray) s 0 0 (fun _ => False)) (F0 m 34 ls [.int (bI (sd_E n a S (d + 1) v == !a.testBit d))]) by
    refine lv_icmp_ne (tgt := 33) hx hb dX0_bestMove_26 rfl (fun h1 => ?_) (fun h1 => ?_)
    · have h1 : ¬ (sd_E n a S (d + 1) v) = (!a.testBit d) := fun h9 => h1 ((bI_inj _ _).mpr h9)
      refine lv_iconst (v := nI 0) hx hb dX0_bestMove_33 (by decide) ?_
      refine lv_nm (y := bI (sd_E n a S (d + 1) v == !a.testBit d)) (hw_0.trans (congrArg bI (show false = (sd_E n a S (d + 1) v == !a.testBit d) by first | exact hw_bt h1 | exact hw_bf h1))) ?_
      exact mk
    · have h1 : (sd_E n a S (d + 1) v) = (!a.testBit d) := (bI_inj _ _).mp h1
      refine lv_iconst (v := nI 1) hx hb dX0_bestMove_29 (by decide) ?_
      refine lv_goto (tgt := 34) hx hb dX0_bestMove_30 rfl ?_
      refine lv_nm (y := bI (sd_E n a S (d + 1) v == !a.testBit d)) (hw_1.trans (congrArg bI (show true = (sd_E n a S (d + 1) v == !a.testBit d) by first | exact hw_bt h1 | exact hw_bf h1))) ?_
      exact mk
  refine lv_istore hx hb dX0_bestMove_34 hl (by decide) rfl (fun ls hl => ?_)
  have hl : lv_has ls 6 [(4, .int (bI (sd_E n a S (d + 1) v == !a.testBit d))), (3, .int (bI (!a.testBit d))), (0, .ref og), (1, .int (nI d)), (2, .int (nI v))] := hl
  refine lv_aload_n hx hb dX0_bestMove_36 rfl (lv_at hl 2 rfl) ?_
  refine lv_iload_n hx hb dX0_bestMove_37 rfl (lv_at hl 3 rfl) ?_
  refine lv_iconst (v := nI 1) hx hb dX0_bestMove_38 (by decide) ?_
  refine lv_iadd hx hb dX0_bestMove_39 ?_
  refine lv_nm (y := nI (d + 1)) (nI_add _ _) ?_
  refine lv_iload_n hx hb dX0_bestMove_40 rfl (lv_at hl 4 rfl) ?_
  refine lv_iconst (v := nI 1) hx hb dX0_bestMove_41 (by decide) ?_
  refine lv_iload_n hx hb dX0_bestMove_42 rfl (lv_at hl 3 rfl) ?_
  refine lv_ishl hx hb dX0_bestMove_43 ?_
  refine lv_nm (y := nI (2 ^ d)) (hw_shl1' (by omega)) ?_
  refine lv_ior hx hb dX0_bestMove_44 ?_
  refine lv_nm (y := nI (v ||| (2 ^ d))) (hw_or _ _) ?_
  refine lv_nm (y := nI (v + 2 ^ d)) (congrArg nI (Nat.or_two_pow_eq_add_of_lt hv)) ?_
  refine hw_callR (va_runV (b := og) (As := [.int (nI (d + 1)), .int (nI (v + 2 ^ d))]) (rest := []) ⟨hx, hb, hml, hown, ht⟩ (c_eveWinsAt l D cI cZ og ob oe n a (d + 1) (v + 2 ^ d) Br (sd_ew n a S) hn (by omega) (by omega)) (cwV 2 ht (gV wm_X0_X0_eveWinsAt wi_X0_eveWinsAt ws_X0_eveWinsAt wn_X0 wc_X0_eveWinsAt) rfl rfl rfl (by decide +kernel) ⟨Nat.le_of_ble_eq_true rfl, Nat.le_of_ble_eq_true rfl⟩) (rPre_V 0 hP hK hN rfl rfl) rfl rfl hl.1 rfl (lv_room (Nat.le_of_ble_eq_true rfl)) dX0_bestMove_45 ⟨Nat.zero_le _, Nat.zero_le _⟩) ?_
  refine lv_nm (y := bI (sd_E n a S (d + 1) (v + 2 ^ d))) (congrArg bI (sd_ew_at (by omega))) ?_
  refine lv_iload_n hx hb dX0_bestMove_48 rfl (lv_at hl 1 rfl) ?_
  suffices mk : W p l e (headSpec (kX0_bestMove :: aW) { frames := 1, cells := 0, slots := 0, locals := 22 }).room s m (([.ref og, .int (nI d), .int (nI v)] : List Value).toArray) below meth c s.heap [] 0 0 (MQ below (QcRead (bI (sd_bm n a S d v))) (([.ref og, .int (nI d), .int (nI v)] : List Value).toArray) s 0 0 (fun _ => False)) (F0 m 57 ls [.int (bI (sd_E n a S (d + 1) (v + 2 ^ d) == !a.testBit d))]) by
    refine lv_icmp_ne (tgt := 56) hx hb dX0_bestMove_49 rfl (fun h1 => ?_) (fun h1 => ?_)
    · have h1 : ¬ (sd_E n a S (d + 1) (v + 2 ^ d)) = (!a.testBit d) := fun h9 => h1 ((bI_inj _ _).mpr h9)
      refine lv_iconst (v := nI 0) hx hb dX0_bestMove_56 (by decide) ?_
      refine lv_nm (y := bI (sd_E n a S (d + 1) (v + 2 ^ d) == !a.testBit d)) (hw_0.trans (congrArg bI (show false = (sd_E n a S (d + 1) (v + 2 ^ d) == !a.testBit d) by first | exact hw_bt h1 | exact hw_bf h1))) ?_
      exact mk
    · have h1 : (sd_E n a S (d + 1) (v + 2 ^ d)) = (!a.testBit d) := (bI_inj _ _).mp h1
      refine lv_iconst (v := nI 1) hx hb dX0_bestMove_52 (by decide) ?_
      refine lv_goto (tgt := 57) hx hb dX0_bestMove_53 rfl ?_
      refine lv_nm (y := bI (sd_E n a S (d + 1) (v + 2 ^ d) == !a.testBit d)) (hw_1.trans (congrArg bI (show true = (sd_E n a S (d + 1) (v + 2 ^ d) == !a.testBit d) by first | exact hw_bt h1 | exact hw_bf h1))) ?_
      exact mk
  refine lv_istore hx hb dX0_bestMove_57 hl (by decide) rfl (fun ls hl => ?_)
  have hl : lv_has ls 6 [(5, .int (bI (sd_E n a S (d + 1) (v + 2 ^ d) == !a.testBit d))), (4, .int (bI (sd_E n a S (d + 1) v == !a.testBit d))), (3, .int (bI (!a.testBit d))), (0, .ref og), (1, .int (nI d)), (2, .int (nI v))] := hl
  refine lv_iload hx hb dX0_bestMove_59 (lv_at hl 1 rfl) ?_
  suffices mk : W p l e (headSpec (kX0_bestMove :: aW) { frames := 1, cells := 0, slots := 0, locals := 22 }).room s m (([.ref og, .int (nI d), .int (nI v)] : List Value).toArray) below meth c s.heap [] 0 0 (MQ below (QcRead (bI (sd_bm n a S d v))) (([.ref og, .int (nI d), .int (nI v)] : List Value).toArray) s 0 0 (fun _ => False)) (F0 m 74 ls [.int (bI (sd_bm n a S d v))]) by
    refine lv_if_ne (tgt := 73) hx hb dX0_bestMove_61 rfl (fun h1 => ?_) (fun h1 => ?_)
    · have h1 : (sd_E n a S (d + 1) v == !a.testBit d) = true := bI_ne0 h1
      refine lv_iconst (v := nI 0) hx hb dX0_bestMove_73 (by decide) ?_
      refine lv_nm (y := bI (sd_bm n a S d v)) (hw_0.trans (congrArg bI (show false = (sd_bm n a S d v) by unfold sd_bm; rw [h1]; rfl))) ?_
      exact mk
    · have h1 : (sd_E n a S (d + 1) v == !a.testBit d) = false := (bI_eq0 _).mp h1
      refine lv_iload hx hb dX0_bestMove_64 (lv_at hl 0 rfl) ?_
      refine lv_if_eq (tgt := 73) hx hb dX0_bestMove_66 rfl (fun h2 => ?_) (fun h2 => ?_)
      · have h2 : (sd_E n a S (d + 1) (v + 2 ^ d) == !a.testBit d) = false := (bI_eq0 _).mp h2
        refine lv_iconst (v := nI 0) hx hb dX0_bestMove_73 (by decide) ?_
        refine lv_nm (y := bI (sd_bm n a S d v)) (hw_0.trans (congrArg bI (show false = (sd_bm n a S d v) by unfold sd_bm; rw [h1, h2]; rfl))) ?_
        exact mk
      · have h2 : (sd_E n a S (d + 1) (v + 2 ^ d) == !a.testBit d) = true := bI_ne0 h2
        refine lv_iconst (v := nI 1) hx hb dX0_bestMove_69 (by decide) ?_
        refine lv_goto (tgt := 74) hx hb dX0_bestMove_70 rfl ?_
        refine lv_nm (y := bI (sd_bm n a S d v)) (hw_1.trans (congrArg bI (show true = (sd_bm n a S d v) by unfold sd_bm; rw [h1, h2]; rfl))) ?_
        exact mk
  exact W.iret hx hb hr (fun t ht2 _ => ⟨hw_ret (rfl), ht2⟩) (fun _ h => by cases h) dX0_bestMove_74

set_option maxHeartbeats 4000000 in
set_option maxRecDepth 100000 in
theorem c_countModels (l : Launch) (D : va_G) (cI cZ : ClassId) (og ob oe n a : Nat) (Br : Nat → Nat) (f : Nat → Bool) (hn : n ≤ 10) (hB : ∀ v, v < 2 ^ n → Br v < 2 ^ 31) : Met l yX0_countModels (kX0_countModels :: aW) { frames := 0, cells := 0, slots := 0, locals := 0 } (rPre [.ref og] D [(og, .inr (0, [.int (nI n), .int (nI a), .ref ob, .ref oe])), (ob, .inl (cI, (2 ^ n), .inl (fun j => nI (Br j)))), (oe, .inl (cZ, (2 * 2 ^ n), .inl (fun j => bI (f j))))] [(cI, .int), (cZ, .boolean)]) (QcRead (nI (sd_cn (fun v => Br v == 0) (2 ^ n)))) 0 0 (fun _ => False) := by
  refine Met.ofW (cc := cX0_countModels) (maxL := 3) (ret := (some .int)) (by decide) rfl ?_
  intro p e s m args below meth c s₁ Bo hml hpre
  obtain ⟨rfl, hP, hK, hN⟩ := hpre
  have hx := Bo.exec
  have hb := Bo.bytes
  have hr := Bo.returns
  have hts := atoms_spec (ws := kX0_countModels :: aW) Bo.pre
  have ht : ∀ w ∈ aW, w.before _ s = true := fun w h => hts w (List.mem_cons_of_mem _ h)
  have hown : s.vm.findClass RX0 = some m.cls := findClass_of_methodNamed Bo.named
  have hlocks := Bo.notSynchronized
  have hP : va_P D clS [(og, .inr (0, [.int (nI n), .int (nI a), .ref ob, .ref oe])), (ob, .inl (cI, (2 ^ n), .inl (fun j => nI (Br j)))), (oe, .inl (cZ, (2 * 2 ^ n), .inl (fun j => bI (f j))))] s.heap := hP
  have hl := lv_entry ([.ref og]) (n := 3) (Nat.le_of_ble_eq_true rfl)
  rw [lg_entry_eq]
  generalize (lg_sl ([.ref og]) ++ List.replicate (3 - (lg_sl ([.ref og])).length) Slot.unset).toArray = ls at hl ⊢
  have hl : lv_has ls 3 [(0, .ref og)] := hl
  have h2n := hw_p10 hn
  refine lv_iconst (v := nI 0) hx hb dX0_countModels_0 (by decide) ?_
  refine lv_istore_n hx hb dX0_countModels_1 rfl hl (by decide) rfl (fun ls hl => ?_)
  have hl : lv_has ls 3 [(1, .int (nI 0)), (0, .ref og)] := hl
  refine lv_iconst (v := nI 0) hx hb dX0_countModels_2 (by decide) ?_
  refine lv_istore_n hx hb dX0_countModels_3 rfl hl (by decide) rfl (fun ls hl => ?_)
  have hl : lv_has ls 3 [(2, .int (nI 0)), (1, .int (nI 0)), (0, .ref og)] := hl
  have hl : lv_has ls 3 [(0, .ref og), (1, .int (nI 0)), (2, .int (nI 0))] := lv_sub hl [2, 1, 0] rfl
  suffices lp : ∀ k : Nat, ∀ (i : Nat) (ls : Array Slot), (i + k = 2 ^ n) → lv_has ls 3 [(0, .ref og), (1, .int (nI (sd_cn (fun v => Br v == 0) i))), (2, .int (nI i))] → W p l e (headSpec (kX0_countModels :: aW) { frames := 0, cells := 0, slots := 0, locals := 0 }).room s m (([.ref og] : List Value).toArray) below meth c s.heap [] 0 0 (MQ below (QcRead (nI (sd_cn (fun v => Br v == 0) (2 ^ n)))) (([.ref og] : List Value).toArray) s 0 0 (fun _ => False)) (F0 m 4 ls []) by
    exact lp (2 ^ n) 0 ls (by omega) hl
  intro k
  induction k with
  | zero =>
    intro i ls hi hl
    refine lv_iload_n hx hb dX0_countModels_4 rfl (lv_at hl 2 rfl) ?_
    refine lv_aload_n hx hb dX0_countModels_5 rfl (lv_at hl 0 rfl) ?_
    refine va_get (D := D) (ci := 0) (v := .ref ob) (C := RX0) (T := TX0) (N := 4) hx hb ht inX0 hown hK hP 0 rfl rfl 2 (by decide) (ht _ wf_X0_broken) (fun _ h9 => h9) rfl dX0_countModels_6 ?_
    refine va_alen (v := nI (2 ^ n)) hx hb hK hP 1 0 rfl rfl rfl dX0_countModels_9 ?_
    refine lv_icmp_ge (tgt := 31) hx hb dX0_countModels_10 rfl (fun _ => ?_) (fun hc => absurd (show ¬ (2 ^ n ≤ i) from fun h9 => hc ((nI_leI (by omega) (by omega)).mpr h9)) (by omega))
    refine lv_iload_n hx hb dX0_countModels_31 rfl (lv_at hl 1 rfl) ?_
    exact W.iret hx hb hr (fun t ht2 _ => ⟨hw_ret (by rw [show i = 2 ^ n by omega]), ht2⟩) (fun _ h => by cases h) dX0_countModels_32
  | succ k ih =>
    intro i ls hi hl
    refine lv_iload_n hx hb dX0_countModels_4 rfl (lv_at hl 2 rfl) ?_
    refine lv_aload_n hx hb dX0_countModels_5 rfl (lv_at hl 0 rfl) ?_
    refine va_get (D := D) (ci := 0) (v := .ref ob) (C := RX0) (T := TX0) (N := 4) hx hb ht inX0 hown hK hP 0 rfl rfl 2 (by decide) (ht _ wf_X0_broken) (fun _ h9 => h9) rfl dX0_countModels_6 ?_
    refine va_alen (v := nI (2 ^ n)) hx hb hK hP 1 0 rfl rfl rfl dX0_countModels_9 ?_
    refine lv_icmp_ge (tgt := 31) hx hb dX0_countModels_10 rfl (fun hc => absurd (show 2 ^ n ≤ i from (nI_leI (by omega) (by omega)).mp hc) (by omega)) (fun _ => ?_)
    refine lv_aload_n hx hb dX0_countModels_13 rfl (lv_at hl 0 rfl) ?_
    refine va_get (D := D) (ci := 0) (v := .ref ob) (C := RX0) (T := TX0) (N := 4) hx hb ht inX0 hown hK hP 0 rfl rfl 2 (by decide) (ht _ wf_X0_broken) (fun _ h9 => h9) rfl dX0_countModels_14 ?_
    refine lv_iload_n hx hb dX0_countModels_17 rfl (lv_at hl 2 rfl) ?_
    refine na_nald (f := Br) hx hb hK hP 1 0 rfl rfl (j := i) (by omega) (by omega) dX0_countModels_18 ?_
    have hBl := hB i (by omega)
    refine lv_if_ne (tgt := 25) hx hb dX0_countModels_19 rfl (fun hc => ?_) (fun hc => ?_)
    · have hc : ¬ Br i = 0 := fun h9 => hc ((nI_z (by omega)).mpr h9)
      have hl : lv_has ls 3 [(0, .ref og), (1, .int (nI (sd_cn (fun v => Br v == 0) (i + 1)))), (2, .int (nI i))] := by rw [show nI (sd_cn (fun v => Br v == 0) (i + 1)) = nI (sd_cn (fun v => Br v == 0) i) from congrArg nI (sd_cn_f (beq_false_of_ne hc))]; exact hl
      refine lv_iinc (k := 2) (v := nI (i + 1)) hx hb dX0_countModels_25 hl rfl (hw_inc _) (by decide) rfl (fun ls hl => ?_)
      have hl : lv_has ls 3 [(2, .int (nI (i + 1))), (0, .ref og), (1, .int (nI (sd_cn (fun v => Br v == 0) (i + 1))))] := hl
      refine lv_goto (tgt := 4) hx hb dX0_countModels_28 rfl ?_
      have hl : lv_has ls 3 [(0, .ref og), (1, .int (nI (sd_cn (fun v => Br v == 0) (i + 1)))), (2, .int (nI (i + 1)))] := lv_sub hl [1, 2, 0] rfl
      exact ih (i + 1) ls (by omega) hl
    · have hc : Br i = 0 := (nI_z (by omega)).mp hc
      refine lv_iinc (k := 1) (v := nI (sd_cn (fun v => Br v == 0) (i + 1))) hx hb dX0_countModels_22 hl rfl ((hw_inc _).trans (congrArg nI (sd_cn_t (f := fun v => Br v == 0) (i := i) (beq_iff_eq.mpr hc)).symm)) (by decide) rfl (fun ls hl => ?_)
      have hl : lv_has ls 3 [(1, .int (nI (sd_cn (fun v => Br v == 0) (i + 1)))), (0, .ref og), (2, .int (nI i))] := hl
      refine lv_iinc (k := 2) (v := nI (i + 1)) hx hb dX0_countModels_25 hl rfl (hw_inc _) (by decide) rfl (fun ls hl => ?_)
      have hl : lv_has ls 3 [(2, .int (nI (i + 1))), (1, .int (nI (sd_cn (fun v => Br v == 0) (i + 1)))), (0, .ref og)] := hl
      refine lv_goto (tgt := 4) hx hb dX0_countModels_28 rfl ?_
      have hl : lv_has ls 3 [(0, .ref og), (1, .int (nI (sd_cn (fun v => Br v == 0) (i + 1)))), (2, .int (nI (i + 1)))] := lv_sub hl [2, 1, 0] rfl
      exact ih (i + 1) ls (by omega) hl

set_option maxHeartbeats 4000000 in
set_option maxRecDepth 100000 in
theorem c_judgeDepth (l : Launch) (D : va_G) (cI cZ : ClassId) (og ob oe n a : Nat) (d sz : Nat) (Br : Nat → Nat) (G : Nat → Bool) (hn : n ≤ 10) (ha : a < 2 ^ n) (hd : d < n) : Met l yX0_judgeDepth (kX0_judgeDepth :: aW) { frames := 1, cells := 0, slots := 0, locals := 22 } (wPre [.ref og, .int (nI d)] D [(og, .inr (0, [.int (nI n), .int (nI a), .ref ob, .ref oe])), (ob, .inl (cI, (2 ^ n), .inl (fun j => nI (Br j)))), (oe, .inl (cZ, (2 * 2 ^ n), .inl (fun j => bI (G j))))] [(cI, .int), (cZ, .boolean)] sz) (wQ none D [(og, .inr (0, [.int (nI n), .int (nI a), .ref ob, .ref oe])), (ob, .inl (cI, (2 ^ n), .inl (fun j => nI (Br j)))), (oe, .inl (cZ, (2 * 2 ^ n), .inl (fun j => bI ((sd_ji a d G (2 ^ d)) j))))] (va_A [(og, .inr (0, [.int (nI n), .int (nI a), .ref ob, .ref oe])), (ob, .inl (cI, (2 ^ n), .inl (fun j => nI (Br j)))), (oe, .inl (cZ, (2 * 2 ^ n), .inl (fun j => bI (G j))))] sz)) 0 0 (va_A [(og, .inr (0, [.int (nI n), .int (nI a), .ref ob, .ref oe])), (ob, .inl (cI, (2 ^ n), .inl (fun j => nI (Br j)))), (oe, .inl (cZ, (2 * 2 ^ n), .inl (fun j => bI (G j))))] sz) := by
  refine Met.ofW (cc := cX0_judgeDepth) (maxL := 7) (ret := none) (by decide) rfl ?_
  intro p e s m args below meth c s₁ Bo hml hpre
  obtain ⟨rfl, hsz, hP, hK, hN, hD0⟩ := hpre
  subst hsz
  have hD := hD0.self (sz := s.heap.size)
  generalize hAe : va_A [(og, .inr (0, [.int (nI n), .int (nI a), .ref ob, .ref oe])), (ob, .inl (cI, (2 ^ n), .inl (fun j => nI (Br j)))), (oe, .inl (cZ, (2 * 2 ^ n), .inl (fun j => bI (G j))))] s.heap.size = A at hD ⊢
  have hA : ∀ q : Nat, s.heap.size ≤ q → A q := fun q h => by rw [← hAe]; exact Or.inr h
  have hS : va_S A s.heap s.heap [] := va_S.rf
  have hx := Bo.exec
  have hb := Bo.bytes
  have hr := Bo.returns
  have hts := atoms_spec (ws := kX0_judgeDepth :: aW) Bo.pre
  have ht : ∀ w ∈ aW, w.before _ s = true := fun w h => hts w (List.mem_cons_of_mem _ h)
  have hown : s.vm.findClass RX0 = some m.cls := findClass_of_methodNamed Bo.named
  have hlocks := Bo.notSynchronized
  have hP : va_P D clS [(og, .inr (0, [.int (nI n), .int (nI a), .ref ob, .ref oe])), (ob, .inl (cI, (2 ^ n), .inl (fun j => nI (Br j)))), (oe, .inl (cZ, (2 * 2 ^ n), .inl (fun j => bI (G j))))] s.heap := hP
  have hl := lv_entry ([.ref og, .int (nI d)]) (n := 7) (Nat.le_of_ble_eq_true rfl)
  rw [lg_entry_eq]
  generalize (lg_sl ([.ref og, .int (nI d)]) ++ List.replicate (7 - (lg_sl ([.ref og, .int (nI d)])).length) Slot.unset).toArray = ls at hl ⊢
  have hl : lv_has ls 7 [(0, .ref og), (1, .int (nI d))] := hl
  have h2n := hw_p10 hn
  have hp := Nat.two_pow_succ d
  have hdn : 2 ^ (d + 1) ≤ 2 ^ n := Nat.pow_le_pow_right (by decide) hd
  refine lv_aload_n hx hb dX0_judgeDepth_0 rfl (lv_at hl 0 rfl) ?_
  refine va_get (D := D) (ci := 0) (v := .int (nI a)) (C := RX0) (T := TX0) (N := 4) hx hb ht inX0 hown hK hP 0 rfl rfl 1 (by decide) (ht _ wf_X0_adamSet) (fun _ h9 => h9) rfl dX0_judgeDepth_1 ?_
  refine lv_iload_n hx hb dX0_judgeDepth_4 rfl (lv_at hl 1 rfl) ?_
  refine hw_callR (va_runSN (As := [.int (nI a), .int (nI d)]) (rest := []) ⟨hx, hb, hml, hown, ht⟩ (c_bitn l D cI cZ a d (by omega) (by omega)) ⟨va_cnB 2 ht (gA wc_X1_bit) rfl rfl rfl hN (ht _ wn_X1) (by decide +kernel) ⟨Nat.le_of_ble_eq_true rfl, Nat.le_of_ble_eq_true rfl⟩, ht _ wt_X1_bit, trivial⟩ (rPre_S (hP.sub [] rfl) hK hN) rfl rfl hl.1 rfl (lv_room (Nat.le_of_ble_eq_true rfl)) dX0_judgeDepth_5 ⟨Nat.zero_le _, Nat.zero_le _⟩) ?_
  suffices mk : W p l e (headSpec (kX0_judgeDepth :: aW) { frames := 1, cells := 0, slots := 0, locals := 22 }).room s m (([.ref og, .int (nI d)] : List Value).toArray) below meth c s.heap [] 0 0 (MQ below (wQ none D [(og, .inr (0, [.int (nI n), .int (nI a), .ref ob, .ref oe])), (ob, .inl (cI, (2 ^ n), .inl (fun j => nI (Br j)))), (oe, .inl (cZ, (2 * 2 ^ n), .inl (fun j => bI ((sd_ji a d G (2 ^ d)) j))))] A) (([.ref og, .int (nI d)] : List Value).toArray) s 0 0 A) (F0 m 16 ls [.int (bI (!a.testBit d))]) by
    refine lv_if_ne (tgt := 15) hx hb dX0_judgeDepth_8 rfl (fun h1 => ?_) (fun h1 => ?_)
    · have h1 : (a.testBit d) = true := bI_ne0 h1
      refine lv_iconst (v := nI 0) hx hb dX0_judgeDepth_15 (by decide) ?_
      refine lv_nm (y := bI (!a.testBit d)) (hw_0.trans (congrArg bI (show false = (!a.testBit d) by simp [h1]))) ?_
      exact mk
    · have h1 : (a.testBit d) = false := (bI_eq0 _).mp h1
      refine lv_iconst (v := nI 1) hx hb dX0_judgeDepth_11 (by decide) ?_
      refine lv_goto (tgt := 16) hx hb dX0_judgeDepth_12 rfl ?_
      refine lv_nm (y := bI (!a.testBit d)) (hw_1.trans (congrArg bI (show true = (!a.testBit d) by simp [h1]))) ?_
      exact mk
  refine lv_istore_n hx hb dX0_judgeDepth_16 rfl hl (by decide) rfl (fun ls hl => ?_)
  have hl : lv_has ls 7 [(2, .int (bI (!a.testBit d))), (0, .ref og), (1, .int (nI d))] := hl
  refine lv_iconst (v := nI 1) hx hb dX0_judgeDepth_17 (by decide) ?_
  refine lv_iload_n hx hb dX0_judgeDepth_18 rfl (lv_at hl 2 rfl) ?_
  refine lv_ishl hx hb dX0_judgeDepth_19 ?_
  refine lv_nm (y := nI (2 ^ d)) (hw_shl1' (by omega)) ?_
  refine lv_istore_n hx hb dX0_judgeDepth_20 rfl hl (by decide) rfl (fun ls hl => ?_)
  have hl : lv_has ls 7 [(3, .int (nI (2 ^ d))), (2, .int (bI (!a.testBit d))), (0, .ref og), (1, .int (nI d))] := hl
  refine lv_iconst (v := nI 0) hx hb dX0_judgeDepth_21 (by decide) ?_
  refine lv_istore hx hb dX0_judgeDepth_22 hl (by decide) rfl (fun ls hl => ?_)
  have hl : lv_has ls 7 [(4, .int (nI 0)), (3, .int (nI (2 ^ d))), (2, .int (bI (!a.testBit d))), (0, .ref og), (1, .int (nI d))] := hl
  have hl : lv_has ls 7 [(0, .ref og), (1, .int (nI d)), (2, .int (bI (!a.testBit d))), (3, .int (nI (2 ^ d))), (4, .int (nI 0))] := lv_sub hl [3, 4, 2, 1, 0] rfl
  have hP : va_P D clS [(og, .inr (0, [.int (nI n), .int (nI a), .ref ob, .ref oe])), (ob, .inl (cI, (2 ^ n), .inl (fun j => nI (Br j)))), (oe, .inl (cZ, (2 * 2 ^ n), .inl (fun j => bI ((sd_ji a d G 0) j))))] s.heap := hw_cgz hP (sd_ji a d G 0) (q0 := 2) rfl (fun j _ => (if_neg (by omega)).symm) rfl
  have hD : va_D A [(og, .inr (0, [.int (nI n), .int (nI a), .ref ob, .ref oe])), (ob, .inl (cI, (2 ^ n), .inl (fun j => nI (Br j)))), (oe, .inl (cZ, (2 * 2 ^ n), .inl (fun j => bI ((sd_ji a d G 0) j))))] := hw_ad hD rfl
  suffices lp : ∀ k : Nat, ∀ (i : Nat) (ls : Array Slot) (H : Heap) (locs : List Loc), (i + k = 2 ^ d) → lv_has ls 7 [(0, .ref og), (1, .int (nI d)), (2, .int (bI (!a.testBit d))), (3, .int (nI (2 ^ d))), (4, .int (nI i))] → va_P D clS [(og, .inr (0, [.int (nI n), .int (nI a), .ref ob, .ref oe])), (ob, .inl (cI, (2 ^ n), .inl (fun j => nI (Br j)))), (oe, .inl (cZ, (2 * 2 ^ n), .inl (fun j => bI ((sd_ji a d G i) j))))] H → va_S A s.heap H locs → W p l e (headSpec (kX0_judgeDepth :: aW) { frames := 1, cells := 0, slots := 0, locals := 22 }).room s m (([.ref og, .int (nI d)] : List Value).toArray) below meth c H locs 0 0 (MQ below (wQ none D [(og, .inr (0, [.int (nI n), .int (nI a), .ref ob, .ref oe])), (ob, .inl (cI, (2 ^ n), .inl (fun j => nI (Br j)))), (oe, .inl (cZ, (2 * 2 ^ n), .inl (fun j => bI ((sd_ji a d G (2 ^ d)) j))))] A) (([.ref og, .int (nI d)] : List Value).toArray) s 0 0 A) (F0 m 24 ls []) by
    exact lp (2 ^ d) 0 ls s.heap [] (by omega) hl hP hS
  intro k
  induction k with
  | zero =>
    intro i ls H locs hi hl hP hS
    have hD : va_D A [(og, .inr (0, [.int (nI n), .int (nI a), .ref ob, .ref oe])), (ob, .inl (cI, (2 ^ n), .inl (fun j => nI (Br j)))), (oe, .inl (cZ, (2 * 2 ^ n), .inl (fun j => bI ((sd_ji a d G i) j))))] := hw_ad hD rfl
    refine lv_iload hx hb dX0_judgeDepth_24 (lv_at hl 4 rfl) ?_
    refine lv_iload_n hx hb dX0_judgeDepth_26 rfl (lv_at hl 3 rfl) ?_
    refine lv_icmp_ge (tgt := 106) hx hb dX0_judgeDepth_27 rfl (fun _ => ?_) (fun hc => absurd (show ¬ (2 ^ d ≤ i) from fun h9 => hc ((nI_leI (by omega) (by omega)).mpr h9)) (by omega))
    obtain rfl : i = 2 ^ d := by omega
    exact W.vret hx hb hr (fun t ht2 _ => ⟨rfl, by rw [ht2]; exact hP, hS.F ht2⟩) hS.2.2 dX0_judgeDepth_106
  | succ k ih =>
    intro i ls H locs hi hl hP hS
    have hD : va_D A [(og, .inr (0, [.int (nI n), .int (nI a), .ref ob, .ref oe])), (ob, .inl (cI, (2 ^ n), .inl (fun j => nI (Br j)))), (oe, .inl (cZ, (2 * 2 ^ n), .inl (fun j => bI ((sd_ji a d G i) j))))] := hw_ad hD rfl
    refine lv_iload hx hb dX0_judgeDepth_24 (lv_at hl 4 rfl) ?_
    refine lv_iload_n hx hb dX0_judgeDepth_26 rfl (lv_at hl 3 rfl) ?_
    refine lv_icmp_ge (tgt := 106) hx hb dX0_judgeDepth_27 rfl (fun hc => absurd (show 2 ^ d ≤ i from (nI_leI (by omega) (by omega)).mp hc) (by omega)) (fun _ => ?_)
    refine lv_aload_n hx hb dX0_judgeDepth_30 rfl (lv_at hl 0 rfl) ?_
    refine lv_iload_n hx hb dX0_judgeDepth_31 rfl (lv_at hl 1 rfl) ?_
    refine lv_iconst (v := nI 1) hx hb dX0_judgeDepth_32 (by decide) ?_
    refine lv_iadd hx hb dX0_judgeDepth_33 ?_
    refine lv_nm (y := nI (d + 1)) (nI_add _ _) ?_
    refine lv_iload hx hb dX0_judgeDepth_34 (lv_at hl 4 rfl) ?_
    refine hw_callR (va_runV (b := og) (As := [.int (nI (d + 1)), .int (nI i)]) (rest := []) ⟨hx, hb, hml, hown, ht⟩ (c_eveWinsAt l D cI cZ og ob oe n a (d + 1) i Br (sd_ji a d G i) hn (by omega) (by omega)) (cwV 2 ht (gV wm_X0_X0_eveWinsAt wi_X0_eveWinsAt ws_X0_eveWinsAt wn_X0 wc_X0_eveWinsAt) rfl rfl rfl (by decide +kernel) ⟨Nat.le_of_ble_eq_true rfl, Nat.le_of_ble_eq_true rfl⟩) (rPre_V 0 hP hK hN rfl rfl) rfl rfl hl.1 rfl (lv_room (Nat.le_of_ble_eq_true rfl)) dX0_judgeDepth_36 ⟨Nat.zero_le _, Nat.zero_le _⟩) ?_
    refine lv_istore hx hb dX0_judgeDepth_39 hl (by decide) rfl (fun ls hl => ?_)
    have hl : lv_has ls 7 [(5, .int (bI (sd_ji a d G i (2 ^ (d + 1) + i)))), (0, .ref og), (1, .int (nI d)), (2, .int (bI (!a.testBit d))), (3, .int (nI (2 ^ d))), (4, .int (nI i))] := hl
    refine lv_aload_n hx hb dX0_judgeDepth_41 rfl (lv_at hl 1 rfl) ?_
    refine lv_iload_n hx hb dX0_judgeDepth_42 rfl (lv_at hl 2 rfl) ?_
    refine lv_iconst (v := nI 1) hx hb dX0_judgeDepth_43 (by decide) ?_
    refine lv_iadd hx hb dX0_judgeDepth_44 ?_
    refine lv_nm (y := nI (d + 1)) (nI_add _ _) ?_
    refine lv_iload hx hb dX0_judgeDepth_45 (lv_at hl 5 rfl) ?_
    refine lv_iload_n hx hb dX0_judgeDepth_47 rfl (lv_at hl 4 rfl) ?_
    refine lv_ior hx hb dX0_judgeDepth_48 ?_
    refine lv_nm (y := nI (i ||| (2 ^ d))) (hw_or _ _) ?_
    refine lv_nm (y := nI (i + 2 ^ d)) (congrArg nI (Nat.or_two_pow_eq_add_of_lt (by omega))) ?_
    refine hw_callR (va_runV (b := og) (As := [.int (nI (d + 1)), .int (nI (i + 2 ^ d))]) (rest := []) ⟨hx, hb, hml, hown, ht⟩ (c_eveWinsAt l D cI cZ og ob oe n a (d + 1) (i + 2 ^ d) Br (sd_ji a d G i) hn (by omega) (by omega)) (cwV 2 ht (gV wm_X0_X0_eveWinsAt wi_X0_eveWinsAt ws_X0_eveWinsAt wn_X0 wc_X0_eveWinsAt) rfl rfl rfl (by decide +kernel) ⟨Nat.le_of_ble_eq_true rfl, Nat.le_of_ble_eq_true rfl⟩) (rPre_V 0 hP hK hN rfl rfl) rfl rfl hl.1 rfl (lv_room (Nat.le_of_ble_eq_true rfl)) dX0_judgeDepth_49 ⟨Nat.zero_le _, Nat.zero_le _⟩) ?_
    refine lv_istore hx hb dX0_judgeDepth_52 hl (by decide) rfl (fun ls hl => ?_)
    have hl : lv_has ls 7 [(6, .int (bI (sd_ji a d G i (2 ^ (d + 1) + (i + 2 ^ d))))), (5, .int (bI (sd_ji a d G i (2 ^ (d + 1) + i)))), (0, .ref og), (1, .int (nI d)), (2, .int (bI (!a.testBit d))), (3, .int (nI (2 ^ d))), (4, .int (nI i))] := hl
    refine lv_aload_n hx hb dX0_judgeDepth_54 rfl (lv_at hl 2 rfl) ?_
    refine va_get (D := D) (ci := 0) (v := .ref oe) (C := RX0) (T := TX0) (N := 4) hx hb ht inX0 hown hK hP 0 rfl rfl 3 (by decide) (ht _ wf_X0_eveWins) (fun _ h9 => h9) rfl dX0_judgeDepth_55 ?_
    refine lv_iload_n hx hb dX0_judgeDepth_58 rfl (lv_at hl 5 rfl) ?_
    refine lv_iload hx hb dX0_judgeDepth_59 (lv_at hl 6 rfl) ?_
    refine lv_iadd hx hb dX0_judgeDepth_61 ?_
    refine lv_nm (y := nI ((2 ^ d) + i)) (nI_add _ _) ?_
    refine lv_iload_n hx hb dX0_judgeDepth_62 rfl (lv_at hl 4 rfl) ?_
    suffices mk : W p l e (headSpec (kX0_judgeDepth :: aW) { frames := 1, cells := 0, slots := 0, locals := 22 }).room s m (([.ref og, .int (nI d)] : List Value).toArray) below meth c H locs 0 0 (MQ below (wQ none D [(og, .inr (0, [.int (nI n), .int (nI a), .ref ob, .ref oe])), (ob, .inl (cI, (2 ^ n), .inl (fun j => nI (Br j)))), (oe, .inl (cZ, (2 * 2 ^ n), .inl (fun j => bI ((sd_ji a d G (2 ^ d)) j))))] A) (([.ref og, .int (nI d)] : List Value).toArray) s 0 0 A) (F0 m 99 ls [.int (bI (sd_C (a.testBit d) (sd_ji a d G i (2 ^ (d + 1) + i)) (sd_ji a d G i (2 ^ (d + 1) + (i + 2 ^ d))))), .int (nI ((2 ^ d) + i)), .ref oe]) by
      refine lv_if_eq (tgt := 84) hx hb dX0_judgeDepth_63 rfl (fun h1 => ?_) (fun h1 => ?_)
      · have h1 : (!a.testBit d) = false := (bI_eq0 _).mp h1
        refine lv_iload hx hb dX0_judgeDepth_84 (lv_at hl 1 rfl) ?_
        refine lv_if_eq (tgt := 98) hx hb dX0_judgeDepth_86 rfl (fun h2 => ?_) (fun h2 => ?_)
        · have h2 : (sd_ji a d G i (2 ^ (d + 1) + i)) = false := (bI_eq0 _).mp h2
          refine lv_iconst (v := nI 0) hx hb dX0_judgeDepth_98 (by decide) ?_
          refine lv_nm (y := bI (sd_C (a.testBit d) (sd_ji a d G i (2 ^ (d + 1) + i)) (sd_ji a d G i (2 ^ (d + 1) + (i + 2 ^ d))))) (hw_0.trans (congrArg bI (show false = (sd_C (a.testBit d) (sd_ji a d G i (2 ^ (d + 1) + i)) (sd_ji a d G i (2 ^ (d + 1) + (i + 2 ^ d)))) by revert h1 h2; unfold sd_C; generalize a.testBit d = x1; generalize sd_ji a d G i (2 ^ (d + 1) + i) = x2; generalize sd_ji a d G i (2 ^ (d + 1) + (i + 2 ^ d)) = x3; revert x1 x2 x3; decide))) ?_
          exact mk
        · have h2 : (sd_ji a d G i (2 ^ (d + 1) + i)) = true := bI_ne0 h2
          refine lv_iload hx hb dX0_judgeDepth_89 (lv_at hl 0 rfl) ?_
          refine lv_if_eq (tgt := 98) hx hb dX0_judgeDepth_91 rfl (fun h3 => ?_) (fun h3 => ?_)
          · have h3 : (sd_ji a d G i (2 ^ (d + 1) + (i + 2 ^ d))) = false := (bI_eq0 _).mp h3
            refine lv_iconst (v := nI 0) hx hb dX0_judgeDepth_98 (by decide) ?_
            refine lv_nm (y := bI (sd_C (a.testBit d) (sd_ji a d G i (2 ^ (d + 1) + i)) (sd_ji a d G i (2 ^ (d + 1) + (i + 2 ^ d))))) (hw_0.trans (congrArg bI (show false = (sd_C (a.testBit d) (sd_ji a d G i (2 ^ (d + 1) + i)) (sd_ji a d G i (2 ^ (d + 1) + (i + 2 ^ d)))) by revert h1 h2 h3; unfold sd_C; generalize a.testBit d = x1; generalize sd_ji a d G i (2 ^ (d + 1) + i) = x2; generalize sd_ji a d G i (2 ^ (d + 1) + (i + 2 ^ d)) = x3; revert x1 x2 x3; decide))) ?_
            exact mk
          · have h3 : (sd_ji a d G i (2 ^ (d + 1) + (i + 2 ^ d))) = true := bI_ne0 h3
            refine lv_iconst (v := nI 1) hx hb dX0_judgeDepth_94 (by decide) ?_
            refine lv_goto (tgt := 99) hx hb dX0_judgeDepth_95 rfl ?_
            refine lv_nm (y := bI (sd_C (a.testBit d) (sd_ji a d G i (2 ^ (d + 1) + i)) (sd_ji a d G i (2 ^ (d + 1) + (i + 2 ^ d))))) (hw_1.trans (congrArg bI (show true = (sd_C (a.testBit d) (sd_ji a d G i (2 ^ (d + 1) + i)) (sd_ji a d G i (2 ^ (d + 1) + (i + 2 ^ d)))) by revert h1 h2 h3; unfold sd_C; generalize a.testBit d = x1; generalize sd_ji a d G i (2 ^ (d + 1) + i) = x2; generalize sd_ji a d G i (2 ^ (d + 1) + (i + 2 ^ d)) = x3; revert x1 x2 x3; decide))) ?_
            exact mk
      · have h1 : (!a.testBit d) = true := bI_ne0 h1
        refine lv_iload hx hb dX0_judgeDepth_66 (lv_at hl 1 rfl) ?_
        refine lv_if_ne (tgt := 76) hx hb dX0_judgeDepth_68 rfl (fun h2 => ?_) (fun h2 => ?_)
        · have h2 : (sd_ji a d G i (2 ^ (d + 1) + i)) = true := bI_ne0 h2
          refine lv_iconst (v := nI 1) hx hb dX0_judgeDepth_76 (by decide) ?_
          refine lv_goto (tgt := 99) hx hb dX0_judgeDepth_77 rfl ?_
          refine lv_nm (y := bI (sd_C (a.testBit d) (sd_ji a d G i (2 ^ (d + 1) + i)) (sd_ji a d G i (2 ^ (d + 1) + (i + 2 ^ d))))) (hw_1.trans (congrArg bI (show true = (sd_C (a.testBit d) (sd_ji a d G i (2 ^ (d + 1) + i)) (sd_ji a d G i (2 ^ (d + 1) + (i + 2 ^ d)))) by revert h1 h2; unfold sd_C; generalize a.testBit d = x1; generalize sd_ji a d G i (2 ^ (d + 1) + i) = x2; generalize sd_ji a d G i (2 ^ (d + 1) + (i + 2 ^ d)) = x3; revert x1 x2 x3; decide))) ?_
          exact mk
        · have h2 : (sd_ji a d G i (2 ^ (d + 1) + i)) = false := (bI_eq0 _).mp h2
          refine lv_iload hx hb dX0_judgeDepth_71 (lv_at hl 0 rfl) ?_
          refine lv_if_eq (tgt := 80) hx hb dX0_judgeDepth_73 rfl (fun h3 => ?_) (fun h3 => ?_)
          · have h3 : (sd_ji a d G i (2 ^ (d + 1) + (i + 2 ^ d))) = false := (bI_eq0 _).mp h3
            refine lv_iconst (v := nI 0) hx hb dX0_judgeDepth_80 (by decide) ?_
            refine lv_goto (tgt := 99) hx hb dX0_judgeDepth_81 rfl ?_
            refine lv_nm (y := bI (sd_C (a.testBit d) (sd_ji a d G i (2 ^ (d + 1) + i)) (sd_ji a d G i (2 ^ (d + 1) + (i + 2 ^ d))))) (hw_0.trans (congrArg bI (show false = (sd_C (a.testBit d) (sd_ji a d G i (2 ^ (d + 1) + i)) (sd_ji a d G i (2 ^ (d + 1) + (i + 2 ^ d)))) by revert h1 h2 h3; unfold sd_C; generalize a.testBit d = x1; generalize sd_ji a d G i (2 ^ (d + 1) + i) = x2; generalize sd_ji a d G i (2 ^ (d + 1) + (i + 2 ^ d)) = x3; revert x1 x2 x3; decide))) ?_
            exact mk
          · have h3 : (sd_ji a d G i (2 ^ (d + 1) + (i + 2 ^ d))) = true := bI_ne0 h3
            refine lv_iconst (v := nI 1) hx hb dX0_judgeDepth_76 (by decide) ?_
            refine lv_goto (tgt := 99) hx hb dX0_judgeDepth_77 rfl ?_
            refine lv_nm (y := bI (sd_C (a.testBit d) (sd_ji a d G i (2 ^ (d + 1) + i)) (sd_ji a d G i (2 ^ (d + 1) + (i + 2 ^ d))))) (hw_1.trans (congrArg bI (show true = (sd_C (a.testBit d) (sd_ji a d G i (2 ^ (d + 1) + i)) (sd_ji a d G i (2 ^ (d + 1) + (i + 2 ^ d)))) by revert h1 h2 h3; unfold sd_C; generalize a.testBit d = x1; generalize sd_ji a d G i (2 ^ (d + 1) + i) = x2; generalize sd_ji a d G i (2 ^ (d + 1) + (i + 2 ^ d)) = x3; revert x1 x2 x3; decide))) ?_
            exact mk
    refine na_zast (f := sd_ji a d G i) (b := sd_C (a.testBit d) (sd_ji a d G i (2 ^ (d + 1) + i)) (sd_ji a d G i (2 ^ (d + 1) + (i + 2 ^ d)))) hx hb hK hP hD hS 2 1 rfl rfl (j := (2 ^ d) + i) (by omega) (by omega) dX0_judgeDepth_99 (fun H locs hP hD hS => ?_)
    have hP : va_P D clS [(og, .inr (0, [.int (nI n), .int (nI a), .ref ob, .ref oe])), (ob, .inl (cI, (2 ^ n), .inl (fun j => nI (Br j)))), (oe, .inl (cZ, (2 * 2 ^ n), .inl (fun j => bI ((va_up (sd_ji a d G i) ((2 ^ d) + i) (sd_C (a.testBit d) (sd_ji a d G i (2 ^ (d + 1) + i)) (sd_ji a d G i (2 ^ (d + 1) + (i + 2 ^ d))))) j))))] H := hP
    have hD : va_D A [(og, .inr (0, [.int (nI n), .int (nI a), .ref ob, .ref oe])), (ob, .inl (cI, (2 ^ n), .inl (fun j => nI (Br j)))), (oe, .inl (cZ, (2 * 2 ^ n), .inl (fun j => bI ((va_up (sd_ji a d G i) ((2 ^ d) + i) (sd_C (a.testBit d) (sd_ji a d G i (2 ^ (d + 1) + i)) (sd_ji a d G i (2 ^ (d + 1) + (i + 2 ^ d))))) j))))] := hD
    have hP : va_P D clS [(og, .inr (0, [.int (nI n), .int (nI a), .ref ob, .ref oe])), (ob, .inl (cI, (2 ^ n), .inl (fun j => nI (Br j)))), (oe, .inl (cZ, (2 * 2 ^ n), .inl (fun j => bI ((sd_ji a d G (i + 1)) j))))] H := hw_cgz hP (sd_ji a d G (i + 1)) (q0 := 2) rfl (fun j _ => sd_ji_s (by omega) j) rfl
    have hD : va_D A [(og, .inr (0, [.int (nI n), .int (nI a), .ref ob, .ref oe])), (ob, .inl (cI, (2 ^ n), .inl (fun j => nI (Br j)))), (oe, .inl (cZ, (2 * 2 ^ n), .inl (fun j => bI ((sd_ji a d G (i + 1)) j))))] := hw_ad hD rfl
    refine lv_iinc (k := 6) (v := nI (i + 1)) hx hb dX0_judgeDepth_100 hl rfl (hw_inc _) (by decide) rfl (fun ls hl => ?_)
    have hl : lv_has ls 7 [(4, .int (nI (i + 1))), (6, .int (bI (sd_ji a d G i (2 ^ (d + 1) + (i + 2 ^ d))))), (5, .int (bI (sd_ji a d G i (2 ^ (d + 1) + i)))), (0, .ref og), (1, .int (nI d)), (2, .int (bI (!a.testBit d))), (3, .int (nI (2 ^ d)))] := hl
    refine lv_goto (tgt := 24) hx hb dX0_judgeDepth_103 rfl ?_
    have hl : lv_has ls 7 [(0, .ref og), (1, .int (nI d)), (2, .int (bI (!a.testBit d))), (3, .int (nI (2 ^ d))), (4, .int (nI (i + 1)))] := lv_sub hl [3, 4, 5, 6, 0] rfl
    exact ih (i + 1) ls H locs (by omega) hl hP hS

set_option maxHeartbeats 4000000 in
set_option maxRecDepth 100000 in
theorem c_judgeAll (l : Launch) (D : va_G) (cI cZ : ClassId) (og ob oe n a : Nat) (sz : Nat) (Br : Nat → Nat) (f : Nat → Bool) (hn1 : 1 ≤ n) (hn : n ≤ 10) (ha : a < 2 ^ n) (hB : ∀ v, v < 2 ^ n → Br v < 2 ^ 31) (hf0 : f 0 = false) : Met l yX0_judgeAll (kX0_judgeAll :: aW) { frames := 2, cells := 0, slots := 0, locals := 48 } (wPre [.ref og] D [(og, .inr (0, [.int (nI n), .int (nI a), .ref ob, .ref oe])), (ob, .inl (cI, (2 ^ n), .inl (fun j => nI (Br j)))), (oe, .inl (cZ, (2 * 2 ^ n), .inl (fun j => bI (f j))))] [(cI, .int), (cZ, .boolean)] sz) (wQ none D [(og, .inr (0, [.int (nI n), .int (nI a), .ref ob, .ref oe])), (ob, .inl (cI, (2 ^ n), .inl (fun j => nI (Br j)))), (oe, .inl (cZ, (2 * 2 ^ n), .inl (fun j => bI ((sd_ew n a (fun v => Br v == 0)) j))))] (va_A [(og, .inr (0, [.int (nI n), .int (nI a), .ref ob, .ref oe])), (ob, .inl (cI, (2 ^ n), .inl (fun j => nI (Br j)))), (oe, .inl (cZ, (2 * 2 ^ n), .inl (fun j => bI (f j))))] sz)) 0 0 (va_A [(og, .inr (0, [.int (nI n), .int (nI a), .ref ob, .ref oe])), (ob, .inl (cI, (2 ^ n), .inl (fun j => nI (Br j)))), (oe, .inl (cZ, (2 * 2 ^ n), .inl (fun j => bI (f j))))] sz) := by
  refine Met.ofW (cc := cX0_judgeAll) (maxL := 2) (ret := none) (by decide) rfl ?_
  intro p e s m args below meth c s₁ Bo hml hpre
  obtain ⟨rfl, hsz, hP, hK, hN, hD0⟩ := hpre
  subst hsz
  have hD := hD0.self (sz := s.heap.size)
  generalize hAe : va_A [(og, .inr (0, [.int (nI n), .int (nI a), .ref ob, .ref oe])), (ob, .inl (cI, (2 ^ n), .inl (fun j => nI (Br j)))), (oe, .inl (cZ, (2 * 2 ^ n), .inl (fun j => bI (f j))))] s.heap.size = A at hD ⊢
  have hA : ∀ q : Nat, s.heap.size ≤ q → A q := fun q h => by rw [← hAe]; exact Or.inr h
  have hS : va_S A s.heap s.heap [] := va_S.rf
  have hx := Bo.exec
  have hb := Bo.bytes
  have hr := Bo.returns
  have hts := atoms_spec (ws := kX0_judgeAll :: aW) Bo.pre
  have ht : ∀ w ∈ aW, w.before _ s = true := fun w h => hts w (List.mem_cons_of_mem _ h)
  have hown : s.vm.findClass RX0 = some m.cls := findClass_of_methodNamed Bo.named
  have hlocks := Bo.notSynchronized
  have hP : va_P D clS [(og, .inr (0, [.int (nI n), .int (nI a), .ref ob, .ref oe])), (ob, .inl (cI, (2 ^ n), .inl (fun j => nI (Br j)))), (oe, .inl (cZ, (2 * 2 ^ n), .inl (fun j => bI (f j))))] s.heap := hP
  have hl := lv_entry ([.ref og]) (n := 2) (Nat.le_of_ble_eq_true rfl)
  rw [lg_entry_eq]
  generalize (lg_sl ([.ref og]) ++ List.replicate (2 - (lg_sl ([.ref og])).length) Slot.unset).toArray = ls at hl ⊢
  have hl : lv_has ls 2 [(0, .ref og)] := hl
  have h2n := hw_p10 hn
  refine lv_iconst (v := nI 0) hx hb dX0_judgeAll_0 (by decide) ?_
  refine lv_istore_n hx hb dX0_judgeAll_1 rfl hl (by decide) rfl (fun ls hl => ?_)
  have hl : lv_has ls 2 [(1, .int (nI 0)), (0, .ref og)] := hl
  have hl : lv_has ls 2 [(0, .ref og), (1, .int (nI 0))] := lv_sub hl [1, 0] rfl
  suffices lp : ∀ k : Nat, ∀ (i : Nat) (F : Nat → Bool) (ls : Array Slot) (H : Heap) (locs : List Loc), (i + k = 2 ^ n) → (∀ j, j < i → F (2 ^ n + j) = (Br j == 0)) → (F 0 = false) → lv_has ls 2 [(0, .ref og), (1, .int (nI i))] → va_P D clS [(og, .inr (0, [.int (nI n), .int (nI a), .ref ob, .ref oe])), (ob, .inl (cI, (2 ^ n), .inl (fun j => nI (Br j)))), (oe, .inl (cZ, (2 * 2 ^ n), .inl (fun j => bI (F j))))] H → va_S A s.heap H locs → W p l e (headSpec (kX0_judgeAll :: aW) { frames := 2, cells := 0, slots := 0, locals := 48 }).room s m (([.ref og] : List Value).toArray) below meth c H locs 0 0 (MQ below (wQ none D [(og, .inr (0, [.int (nI n), .int (nI a), .ref ob, .ref oe])), (ob, .inl (cI, (2 ^ n), .inl (fun j => nI (Br j)))), (oe, .inl (cZ, (2 * 2 ^ n), .inl (fun j => bI ((sd_ew n a (fun v => Br v == 0)) j))))] A) (([.ref og] : List Value).toArray) s 0 0 A) (F0 m 2 ls []) by
    exact lp (2 ^ n) 0 f ls s.heap [] (by omega) (fun j hj => by omega) hf0 hl hP hS
  intro k
  induction k with
  | zero =>
    intro i F ls H locs hi hF hF0 hl hP hS
    have hD : va_D A [(og, .inr (0, [.int (nI n), .int (nI a), .ref ob, .ref oe])), (ob, .inl (cI, (2 ^ n), .inl (fun j => nI (Br j)))), (oe, .inl (cZ, (2 * 2 ^ n), .inl (fun j => bI (F j))))] := hw_ad hD rfl
    refine lv_iload_n hx hb dX0_judgeAll_2 rfl (lv_at hl 1 rfl) ?_
    refine lv_aload_n hx hb dX0_judgeAll_3 rfl (lv_at hl 0 rfl) ?_
    refine va_get (D := D) (ci := 0) (v := .ref ob) (C := RX0) (T := TX0) (N := 4) hx hb ht inX0 hown hK hP 0 rfl rfl 2 (by decide) (ht _ wf_X0_broken) (fun _ h9 => h9) rfl dX0_judgeAll_4 ?_
    refine va_alen (v := nI (2 ^ n)) hx hb hK hP 1 0 rfl rfl rfl dX0_judgeAll_7 ?_
    refine lv_icmp_ge (tgt := 43) hx hb dX0_judgeAll_8 rfl (fun _ => ?_) (fun hc => absurd (show ¬ (2 ^ n ≤ i) from fun h9 => hc ((nI_leI (by omega) (by omega)).mpr h9)) (by omega))
    obtain rfl : i = 2 ^ n := by omega
    refine lv_aload_n hx hb dX0_judgeAll_43 rfl (lv_at hl 0 rfl) ?_
    refine va_get (D := D) (ci := 0) (v := .int (nI n)) (C := RX0) (T := TX0) (N := 4) hx hb ht inX0 hown hK hP 0 rfl rfl 0 (by decide) (ht _ wf_X0_size) (fun _ h9 => h9) rfl dX0_judgeAll_44 ?_
    refine lv_iconst (v := nI 1) hx hb dX0_judgeAll_47 (by decide) ?_
    refine lv_isub hx hb dX0_judgeAll_48 ?_
    refine lv_nm (y := nI (n - 1)) (pk_sub (by omega)) ?_
    refine lv_istore_n hx hb dX0_judgeAll_49 rfl hl (by decide) rfl (fun ls hl => ?_)
    have hl : lv_has ls 2 [(1, .int (nI (n - 1))), (0, .ref og)] := hl
    have hl : lv_has ls 2 [(0, .ref og), (1, .int (nI (n - 1)))] := lv_sub hl [1, 0] rfl
    have hl : lv_has ls 2 [(0, .ref og), (1, .int (nI n - 1))] := by rw [show nI n - 1 = nI (n - 1) from pk_sub (a := n) (b := 1) (by omega)]; exact hl
    suffices lq : ∀ k : Nat, ∀ (F : Nat → Bool) (ls : Array Slot) (H : Heap) (locs : List Loc), (k ≤ n) → (∀ j, 2 ^ k ≤ j → j < 2 * 2 ^ n → F j = sd_ew n a (fun v => Br v == 0) j) → (F 0 = false) → lv_has ls 2 [(0, .ref og), (1, .int (nI k - 1))] → va_P D clS [(og, .inr (0, [.int (nI n), .int (nI a), .ref ob, .ref oe])), (ob, .inl (cI, (2 ^ n), .inl (fun j => nI (Br j)))), (oe, .inl (cZ, (2 * 2 ^ n), .inl (fun j => bI (F j))))] H → va_S A s.heap H locs → W p l e (headSpec (kX0_judgeAll :: aW) { frames := 2, cells := 0, slots := 0, locals := 48 }).room s m (([.ref og] : List Value).toArray) below meth c H locs 0 0 (MQ below (wQ none D [(og, .inr (0, [.int (nI n), .int (nI a), .ref ob, .ref oe])), (ob, .inl (cI, (2 ^ n), .inl (fun j => nI (Br j)))), (oe, .inl (cZ, (2 * 2 ^ n), .inl (fun j => bI ((sd_ew n a (fun v => Br v == 0)) j))))] A) (([.ref og] : List Value).toArray) s 0 0 A) (F0 m 50 ls []) by
      exact lq n F ls H locs (Nat.le_refl n) (sd_leafs hF) hF0 hl hP hS
    intro k
    induction k with
    | zero =>
      intro F ls H locs hk hG hF0 hl hP hS
      have hD : va_D A [(og, .inr (0, [.int (nI n), .int (nI a), .ref ob, .ref oe])), (ob, .inl (cI, (2 ^ n), .inl (fun j => nI (Br j)))), (oe, .inl (cZ, (2 * 2 ^ n), .inl (fun j => bI (F j))))] := hw_ad hD rfl
      refine lv_iload_n hx hb dX0_judgeAll_50 rfl (lv_at hl 1 rfl) ?_
      refine lv_if_lt (tgt := 65) hx hb dX0_judgeAll_51 rfl (fun _ => ?_) (fun hc => absurd (by decide) hc)
      have hP : va_P D clS [(og, .inr (0, [.int (nI n), .int (nI a), .ref ob, .ref oe])), (ob, .inl (cI, (2 ^ n), .inl (fun j => nI (Br j)))), (oe, .inl (cZ, (2 * 2 ^ n), .inl (fun j => bI ((sd_ew n a (fun v => Br v == 0)) j))))] H := hw_cgz hP (sd_ew n a (fun v => Br v == 0)) (q0 := 2) rfl (fun j hj => (Nat.eq_zero_or_pos j).elim (fun h0 => by subst h0; exact hF0) (fun h0 => hG j (Nat.le_trans (by decide) h0) hj)) rfl
      have hD : va_D A [(og, .inr (0, [.int (nI n), .int (nI a), .ref ob, .ref oe])), (ob, .inl (cI, (2 ^ n), .inl (fun j => nI (Br j)))), (oe, .inl (cZ, (2 * 2 ^ n), .inl (fun j => bI ((sd_ew n a (fun v => Br v == 0)) j))))] := hw_ad hD rfl
      exact W.vret hx hb hr (fun t ht2 _ => ⟨rfl, by rw [ht2]; exact hP, hS.F ht2⟩) hS.2.2 dX0_judgeAll_65
    | succ k ih2 =>
      intro F ls H locs hk hG hF0 hl hP hS
      have hD : va_D A [(og, .inr (0, [.int (nI n), .int (nI a), .ref ob, .ref oe])), (ob, .inl (cI, (2 ^ n), .inl (fun j => nI (Br j)))), (oe, .inl (cZ, (2 * 2 ^ n), .inl (fun j => bI (F j))))] := hw_ad hD rfl
      have hl : lv_has ls 2 [(0, .ref og), (1, .int (nI k))] := by rw [show nI k = nI (k + 1) - 1 from (nI_pred k).symm]; exact hl
      refine lv_iload_n hx hb dX0_judgeAll_50 rfl (lv_at hl 1 rfl) ?_
      refine lv_if_lt (tgt := 65) hx hb dX0_judgeAll_51 rfl (fun hc => absurd (nI_pos (by omega) hc) id) (fun _ => ?_)
      refine lv_aload_n hx hb dX0_judgeAll_54 rfl (lv_at hl 0 rfl) ?_
      refine lv_iload_n hx hb dX0_judgeAll_55 rfl (lv_at hl 1 rfl) ?_
      refine hw_callW (ws' := [(og, .inr (0, [.int (nI n), .int (nI a), .ref ob, .ref oe])), (ob, .inl (cI, (2 ^ n), .inl (fun j => nI (Br j)))), (oe, .inl (cZ, (2 * 2 ^ n), .inl (fun j => bI ((sd_ji a k F (2 ^ k)) j))))]) (va_runV (b := og) (As := [.int (nI k)]) (rest := []) ⟨hx, hb, hml, hown, ht⟩ (c_judgeDepth l D cI cZ og ob oe n a k H.size Br F hn ha (by omega)) (cwV 1 ht (gV wm_X0_X0_judgeDepth wi_X0_judgeDepth ws_X0_judgeDepth wn_X0 wc_X0_judgeDepth) rfl rfl rfl (by decide +kernel) ⟨Nat.le_of_ble_eq_true rfl, Nat.le_of_ble_eq_true rfl⟩) (wPre_V 0 hP hD hK hN rfl rfl) rfl rfl hl.1 rfl (lv_room (Nat.le_of_ble_eq_true rfl)) dX0_judgeAll_56 ⟨Nat.zero_le _, Nat.zero_le _⟩) hD hS hA rfl (fun H locs hP hD hS => ?_)
      have hP : va_P D clS [(og, .inr (0, [.int (nI n), .int (nI a), .ref ob, .ref oe])), (ob, .inl (cI, (2 ^ n), .inl (fun j => nI (Br j)))), (oe, .inl (cZ, (2 * 2 ^ n), .inl (fun j => bI ((sd_ji a k F (2 ^ k)) j))))] H := hP
      have hD : va_D A [(og, .inr (0, [.int (nI n), .int (nI a), .ref ob, .ref oe])), (ob, .inl (cI, (2 ^ n), .inl (fun j => nI (Br j)))), (oe, .inl (cZ, (2 * 2 ^ n), .inl (fun j => bI ((sd_ji a k F (2 ^ k)) j))))] := hD
      refine W.eq (g2 := F0 m 59 ls []) rfl ?_
      refine lv_iinc (k := 1) (v := nI k - 1) hx hb dX0_judgeAll_59 hl rfl (hw_m1 _) (by decide) rfl (fun ls hl => ?_)
      have hl : lv_has ls 2 [(1, .int (nI k - 1)), (0, .ref og)] := hl
      refine lv_goto (tgt := 50) hx hb dX0_judgeAll_62 rfl ?_
      have hl : lv_has ls 2 [(0, .ref og), (1, .int (nI k - 1))] := lv_sub hl [1, 0] rfl
      exact ih2 (sd_ji a k F (2 ^ k)) ls H locs (by omega) (sd_ji_ok (by omega) hG) ((if_neg (by have h9 := Nat.two_pow_pos k; omega)).trans hF0) hl hP hS
  | succ k ih =>
    intro i F ls H locs hi hF hF0 hl hP hS
    have hD : va_D A [(og, .inr (0, [.int (nI n), .int (nI a), .ref ob, .ref oe])), (ob, .inl (cI, (2 ^ n), .inl (fun j => nI (Br j)))), (oe, .inl (cZ, (2 * 2 ^ n), .inl (fun j => bI (F j))))] := hw_ad hD rfl
    refine lv_iload_n hx hb dX0_judgeAll_2 rfl (lv_at hl 1 rfl) ?_
    refine lv_aload_n hx hb dX0_judgeAll_3 rfl (lv_at hl 0 rfl) ?_
    refine va_get (D := D) (ci := 0) (v := .ref ob) (C := RX0) (T := TX0) (N := 4) hx hb ht inX0 hown hK hP 0 rfl rfl 2 (by decide) (ht _ wf_X0_broken) (fun _ h9 => h9) rfl dX0_judgeAll_4 ?_
    refine va_alen (v := nI (2 ^ n)) hx hb hK hP 1 0 rfl rfl rfl dX0_judgeAll_7 ?_
    refine lv_icmp_ge (tgt := 43) hx hb dX0_judgeAll_8 rfl (fun hc => absurd (show 2 ^ n ≤ i from (nI_leI (by omega) (by omega)).mp hc) (by omega)) (fun _ => ?_)
    refine lv_aload_n hx hb dX0_judgeAll_11 rfl (lv_at hl 0 rfl) ?_
    refine va_get (D := D) (ci := 0) (v := .ref oe) (C := RX0) (T := TX0) (N := 4) hx hb ht inX0 hown hK hP 0 rfl rfl 3 (by decide) (ht _ wf_X0_eveWins) (fun _ h9 => h9) rfl dX0_judgeAll_12 ?_
    refine lv_aload_n hx hb dX0_judgeAll_15 rfl (lv_at hl 0 rfl) ?_
    refine va_get (D := D) (ci := 0) (v := .ref ob) (C := RX0) (T := TX0) (N := 4) hx hb ht inX0 hown hK hP 0 rfl rfl 2 (by decide) (ht _ wf_X0_broken) (fun _ h9 => h9) rfl dX0_judgeAll_16 ?_
    refine va_alen (v := nI (2 ^ n)) hx hb hK hP 1 0 rfl rfl rfl dX0_judgeAll_19 ?_
    refine lv_iload_n hx hb dX0_judgeAll_20 rfl (lv_at hl 1 rfl) ?_
    refine lv_iadd hx hb dX0_judgeAll_21 ?_
    refine lv_nm (y := nI ((2 ^ n) + i)) (nI_add _ _) ?_
    refine lv_aload_n hx hb dX0_judgeAll_22 rfl (lv_at hl 0 rfl) ?_
    refine va_get (D := D) (ci := 0) (v := .ref ob) (C := RX0) (T := TX0) (N := 4) hx hb ht inX0 hown hK hP 0 rfl rfl 2 (by decide) (ht _ wf_X0_broken) (fun _ h9 => h9) rfl dX0_judgeAll_23 ?_
    refine lv_iload_n hx hb dX0_judgeAll_26 rfl (lv_at hl 1 rfl) ?_
    refine na_nald (f := Br) hx hb hK hP 1 0 rfl rfl (j := i) (by omega) (by omega) dX0_judgeAll_27 ?_
    have hBl := hB i (by omega)
    suffices mk : W p l e (headSpec (kX0_judgeAll :: aW) { frames := 2, cells := 0, slots := 0, locals := 48 }).room s m (([.ref og] : List Value).toArray) below meth c H locs 0 0 (MQ below (wQ none D [(og, .inr (0, [.int (nI n), .int (nI a), .ref ob, .ref oe])), (ob, .inl (cI, (2 ^ n), .inl (fun j => nI (Br j)))), (oe, .inl (cZ, (2 * 2 ^ n), .inl (fun j => bI ((sd_ew n a (fun v => Br v == 0)) j))))] A) (([.ref og] : List Value).toArray) s 0 0 A) (F0 m 36 ls [.int (bI (Br i == 0)), .int (nI ((2 ^ n) + i)), .ref oe]) by
      refine lv_if_ne (tgt := 35) hx hb dX0_judgeAll_28 rfl (fun h1 => ?_) (fun h1 => ?_)
      · have h1 : ¬ Br i = 0 := fun h9 => h1 ((nI_z (by omega)).mpr h9)
        refine lv_iconst (v := nI 0) hx hb dX0_judgeAll_35 (by decide) ?_
        refine lv_nm (y := bI (Br i == 0)) (hw_0.trans (congrArg bI (show false = (Br i == 0) by first | exact (beq_iff_eq.mpr h1).symm | exact (beq_false_of_ne h1).symm))) ?_
        exact mk
      · have h1 : Br i = 0 := (nI_z (by omega)).mp h1
        refine lv_iconst (v := nI 1) hx hb dX0_judgeAll_31 (by decide) ?_
        refine lv_goto (tgt := 36) hx hb dX0_judgeAll_32 rfl ?_
        refine lv_nm (y := bI (Br i == 0)) (hw_1.trans (congrArg bI (show true = (Br i == 0) by first | exact (beq_iff_eq.mpr h1).symm | exact (beq_false_of_ne h1).symm))) ?_
        exact mk
    refine na_zast (f := F) (b := Br i == 0) hx hb hK hP hD hS 2 1 rfl rfl (j := (2 ^ n) + i) (by omega) (by omega) dX0_judgeAll_36 (fun H locs hP hD hS => ?_)
    have hP : va_P D clS [(og, .inr (0, [.int (nI n), .int (nI a), .ref ob, .ref oe])), (ob, .inl (cI, (2 ^ n), .inl (fun j => nI (Br j)))), (oe, .inl (cZ, (2 * 2 ^ n), .inl (fun j => bI ((va_up F ((2 ^ n) + i) (Br i == 0)) j))))] H := hP
    have hD : va_D A [(og, .inr (0, [.int (nI n), .int (nI a), .ref ob, .ref oe])), (ob, .inl (cI, (2 ^ n), .inl (fun j => nI (Br j)))), (oe, .inl (cZ, (2 * 2 ^ n), .inl (fun j => bI ((va_up F ((2 ^ n) + i) (Br i == 0)) j))))] := hD
    refine lv_iinc (k := 1) (v := nI (i + 1)) hx hb dX0_judgeAll_37 hl rfl (hw_inc _) (by decide) rfl (fun ls hl => ?_)
    have hl : lv_has ls 2 [(1, .int (nI (i + 1))), (0, .ref og)] := hl
    refine lv_goto (tgt := 2) hx hb dX0_judgeAll_40 rfl ?_
    have hl : lv_has ls 2 [(0, .ref og), (1, .int (nI (i + 1)))] := lv_sub hl [1, 0] rfl
    have hF2 : ∀ j, j < i + 1 → va_up F (2 ^ n + i) (Br i == 0) (2 ^ n + j) = (Br j == 0) := fun j hj => by
      by_cases hji : j = i
      · subst hji; exact va_up_self _ _ _
      · rw [va_up_ne _ _ (by omega)]; exact hF j (by omega)
    exact ih (i + 1) (va_up F (2 ^ n + i) (Br i == 0)) ls H locs (by omega) hF2 ((va_up_ne _ _ (by have h9 := Nat.two_pow_pos n; omega)).trans hF0) hl hP hS

set_option maxHeartbeats 4000000 in
set_option maxRecDepth 100000 in
theorem c_change (l : Launch) (D : va_G) (cI cZ : ClassId) (og ob oe n a : Nat) (y z sz : Nat) (st : Int32) (Br Bq : Nat → Nat) (f : Nat → Bool) (hn1 : 1 ≤ n) (hn : n ≤ 10) (ha : a < 2 ^ n) (hy : y < 2 ^ n) (hz : z < 2 ^ n) (hB : ∀ v, v < 2 ^ n → Br v < 2 ^ 31) (hBq2 : ∀ v, v < 2 ^ n → Bq v < 2 ^ 31) (hBq : ∀ v, v < 2 ^ n → (if sd_fl y z v = true then nI (Br v) + st else nI (Br v)) = nI (Bq v)) (hf0 : f 0 = false) : Met l yX0_change (kX0_change :: aW) { frames := 3, cells := 0, slots := 0, locals := 69 } (wPre [.ref og, .int (nI y), .int (nI z), .int st] D [(og, .inr (0, [.int (nI n), .int (nI a), .ref ob, .ref oe])), (ob, .inl (cI, (2 ^ n), .inl (fun j => nI (Br j)))), (oe, .inl (cZ, (2 * 2 ^ n), .inl (fun j => bI (f j))))] [(cI, .int), (cZ, .boolean)] sz) (wQ none D [(og, .inr (0, [.int (nI n), .int (nI a), .ref ob, .ref oe])), (ob, .inl (cI, (2 ^ n), .inl (fun j => nI (Bq j)))), (oe, .inl (cZ, (2 * 2 ^ n), .inl (fun j => bI ((sd_ew n a (fun v => Bq v == 0)) j))))] (va_A [(og, .inr (0, [.int (nI n), .int (nI a), .ref ob, .ref oe])), (ob, .inl (cI, (2 ^ n), .inl (fun j => nI (Br j)))), (oe, .inl (cZ, (2 * 2 ^ n), .inl (fun j => bI (f j))))] sz)) 0 0 (va_A [(og, .inr (0, [.int (nI n), .int (nI a), .ref ob, .ref oe])), (ob, .inl (cI, (2 ^ n), .inl (fun j => nI (Br j)))), (oe, .inl (cZ, (2 * 2 ^ n), .inl (fun j => bI (f j))))] sz) := by
  refine Met.ofW (cc := cX0_change) (maxL := 5) (ret := none) (by decide) rfl ?_
  intro p e s m args below meth c s₁ Bo hml hpre
  obtain ⟨rfl, hsz, hP, hK, hN, hD0⟩ := hpre
  subst hsz
  have hD := hD0.self (sz := s.heap.size)
  generalize hAe : va_A [(og, .inr (0, [.int (nI n), .int (nI a), .ref ob, .ref oe])), (ob, .inl (cI, (2 ^ n), .inl (fun j => nI (Br j)))), (oe, .inl (cZ, (2 * 2 ^ n), .inl (fun j => bI (f j))))] s.heap.size = A at hD ⊢
  have hA : ∀ q : Nat, s.heap.size ≤ q → A q := fun q h => by rw [← hAe]; exact Or.inr h
  have hS : va_S A s.heap s.heap [] := va_S.rf
  have hx := Bo.exec
  have hb := Bo.bytes
  have hr := Bo.returns
  have hts := atoms_spec (ws := kX0_change :: aW) Bo.pre
  have ht : ∀ w ∈ aW, w.before _ s = true := fun w h => hts w (List.mem_cons_of_mem _ h)
  have hown : s.vm.findClass RX0 = some m.cls := findClass_of_methodNamed Bo.named
  have hlocks := Bo.notSynchronized
  have hP : va_P D clS [(og, .inr (0, [.int (nI n), .int (nI a), .ref ob, .ref oe])), (ob, .inl (cI, (2 ^ n), .inl (fun j => nI (Br j)))), (oe, .inl (cZ, (2 * 2 ^ n), .inl (fun j => bI (f j))))] s.heap := hP
  have hl := lv_entry ([.ref og, .int (nI y), .int (nI z), .int st]) (n := 5) (Nat.le_of_ble_eq_true rfl)
  rw [lg_entry_eq]
  generalize (lg_sl ([.ref og, .int (nI y), .int (nI z), .int st]) ++ List.replicate (5 - (lg_sl ([.ref og, .int (nI y), .int (nI z), .int st])).length) Slot.unset).toArray = ls at hl ⊢
  have hl : lv_has ls 5 [(0, .ref og), (1, .int (nI y)), (2, .int (nI z)), (3, .int st)] := hl
  have h2n := hw_p10 hn
  refine lv_iconst (v := nI 0) hx hb dX0_change_0 (by decide) ?_
  refine lv_istore hx hb dX0_change_1 hl (by decide) rfl (fun ls hl => ?_)
  have hl : lv_has ls 5 [(4, .int (nI 0)), (0, .ref og), (1, .int (nI y)), (2, .int (nI z)), (3, .int st)] := hl
  have hl : lv_has ls 5 [(0, .ref og), (1, .int (nI y)), (2, .int (nI z)), (3, .int st), (4, .int (nI 0))] := lv_sub hl [1, 2, 3, 4, 0] rfl
  suffices lp : ∀ k : Nat, ∀ (i : Nat) (F : Nat → Nat) (ls : Array Slot) (H : Heap) (locs : List Loc), (i + k = 2 ^ n) → (∀ j, j < i → F j = Bq j) → (∀ j, i ≤ j → F j = Br j) → lv_has ls 5 [(0, .ref og), (1, .int (nI y)), (2, .int (nI z)), (3, .int st), (4, .int (nI i))] → va_P D clS [(og, .inr (0, [.int (nI n), .int (nI a), .ref ob, .ref oe])), (ob, .inl (cI, (2 ^ n), .inl (fun j => nI (F j)))), (oe, .inl (cZ, (2 * 2 ^ n), .inl (fun j => bI (f j))))] H → va_S A s.heap H locs → W p l e (headSpec (kX0_change :: aW) { frames := 3, cells := 0, slots := 0, locals := 69 }).room s m (([.ref og, .int (nI y), .int (nI z), .int st] : List Value).toArray) below meth c H locs 0 0 (MQ below (wQ none D [(og, .inr (0, [.int (nI n), .int (nI a), .ref ob, .ref oe])), (ob, .inl (cI, (2 ^ n), .inl (fun j => nI (Bq j)))), (oe, .inl (cZ, (2 * 2 ^ n), .inl (fun j => bI ((sd_ew n a (fun v => Bq v == 0)) j))))] A) (([.ref og, .int (nI y), .int (nI z), .int st] : List Value).toArray) s 0 0 A) (F0 m 3 ls []) by
    exact lp (2 ^ n) 0 Br ls s.heap [] (by omega) (fun j hj => by omega) (fun j _ => rfl) hl hP hS
  intro k
  induction k with
  | zero =>
    intro i F ls H locs hi hF1 hF2 hl hP hS
    have hD : va_D A [(og, .inr (0, [.int (nI n), .int (nI a), .ref ob, .ref oe])), (ob, .inl (cI, (2 ^ n), .inl (fun j => nI (F j)))), (oe, .inl (cZ, (2 * 2 ^ n), .inl (fun j => bI (f j))))] := hw_ad hD rfl
    refine lv_iload hx hb dX0_change_3 (lv_at hl 4 rfl) ?_
    refine lv_aload_n hx hb dX0_change_5 rfl (lv_at hl 0 rfl) ?_
    refine va_get (D := D) (ci := 0) (v := .ref ob) (C := RX0) (T := TX0) (N := 4) hx hb ht inX0 hown hK hP 0 rfl rfl 2 (by decide) (ht _ wf_X0_broken) (fun _ h9 => h9) rfl dX0_change_6 ?_
    refine va_alen (v := nI (2 ^ n)) hx hb hK hP 1 0 rfl rfl rfl dX0_change_9 ?_
    refine lv_icmp_ge (tgt := 45) hx hb dX0_change_10 rfl (fun _ => ?_) (fun hc => absurd (show ¬ (2 ^ n ≤ i) from fun h9 => hc ((nI_leI (by omega) (by omega)).mpr h9)) (by omega))
    have hP : va_P D clS [(og, .inr (0, [.int (nI n), .int (nI a), .ref ob, .ref oe])), (ob, .inl (cI, (2 ^ n), .inl (fun j => nI (Bq j)))), (oe, .inl (cZ, (2 * 2 ^ n), .inl (fun j => bI (f j))))] H := hw_cgn hP Bq (q0 := 1) rfl (fun j hj => hF1 j (by omega)) rfl
    have hD : va_D A [(og, .inr (0, [.int (nI n), .int (nI a), .ref ob, .ref oe])), (ob, .inl (cI, (2 ^ n), .inl (fun j => nI (Bq j)))), (oe, .inl (cZ, (2 * 2 ^ n), .inl (fun j => bI (f j))))] := hw_ad hD rfl
    refine lv_aload_n hx hb dX0_change_45 rfl (lv_at hl 0 rfl) ?_
    refine hw_callW (ws' := [(og, .inr (0, [.int (nI n), .int (nI a), .ref ob, .ref oe])), (ob, .inl (cI, (2 ^ n), .inl (fun j => nI (Bq j)))), (oe, .inl (cZ, (2 * 2 ^ n), .inl (fun j => bI ((sd_ew n a (fun v => Bq v == 0)) j))))]) (va_runV (b := og) (As := []) (rest := []) ⟨hx, hb, hml, hown, ht⟩ (c_judgeAll l D cI cZ og ob oe n a H.size Bq f hn1 hn ha hBq2 hf0) (cwV 0 ht (gV wm_X0_X0_judgeAll wi_X0_judgeAll ws_X0_judgeAll wn_X0 wc_X0_judgeAll) rfl rfl rfl (by decide +kernel) ⟨Nat.le_of_ble_eq_true rfl, Nat.le_of_ble_eq_true rfl⟩) (wPre_V 0 hP hD hK hN rfl rfl) rfl rfl hl.1 rfl (lv_room (Nat.le_of_ble_eq_true rfl)) dX0_change_46 ⟨Nat.zero_le _, Nat.zero_le _⟩) hD hS hA rfl (fun H locs hP hD hS => ?_)
    have hP : va_P D clS [(og, .inr (0, [.int (nI n), .int (nI a), .ref ob, .ref oe])), (ob, .inl (cI, (2 ^ n), .inl (fun j => nI (Bq j)))), (oe, .inl (cZ, (2 * 2 ^ n), .inl (fun j => bI ((sd_ew n a (fun v => Bq v == 0)) j))))] H := hP
    have hD : va_D A [(og, .inr (0, [.int (nI n), .int (nI a), .ref ob, .ref oe])), (ob, .inl (cI, (2 ^ n), .inl (fun j => nI (Bq j)))), (oe, .inl (cZ, (2 * 2 ^ n), .inl (fun j => bI ((sd_ew n a (fun v => Bq v == 0)) j))))] := hD
    refine W.eq (g2 := F0 m 49 ls []) rfl ?_
    exact W.vret hx hb hr (fun t ht2 _ => ⟨rfl, by rw [ht2]; exact hP, hS.F ht2⟩) hS.2.2 dX0_change_49
  | succ k ih =>
    intro i F ls H locs hi hF1 hF2 hl hP hS
    have hD : va_D A [(og, .inr (0, [.int (nI n), .int (nI a), .ref ob, .ref oe])), (ob, .inl (cI, (2 ^ n), .inl (fun j => nI (F j)))), (oe, .inl (cZ, (2 * 2 ^ n), .inl (fun j => bI (f j))))] := hw_ad hD rfl
    refine lv_iload hx hb dX0_change_3 (lv_at hl 4 rfl) ?_
    refine lv_aload_n hx hb dX0_change_5 rfl (lv_at hl 0 rfl) ?_
    refine va_get (D := D) (ci := 0) (v := .ref ob) (C := RX0) (T := TX0) (N := 4) hx hb ht inX0 hown hK hP 0 rfl rfl 2 (by decide) (ht _ wf_X0_broken) (fun _ h9 => h9) rfl dX0_change_6 ?_
    refine va_alen (v := nI (2 ^ n)) hx hb hK hP 1 0 rfl rfl rfl dX0_change_9 ?_
    refine lv_icmp_ge (tgt := 45) hx hb dX0_change_10 rfl (fun hc => absurd (show 2 ^ n ≤ i from (nI_leI (by omega) (by omega)).mp hc) (by omega)) (fun _ => ?_)
    refine lv_iload hx hb dX0_change_13 (lv_at hl 4 rfl) ?_
    refine lv_iload_n hx hb dX0_change_15 rfl (lv_at hl 1 rfl) ?_
    refine lv_iand hx hb dX0_change_16 ?_
    refine lv_nm (y := nI (i &&& y)) (hw_and _ _) ?_
    have hFi := hF2 i (Nat.le_refl i)
    have hBi := hBq i (by omega)
    have hand1 : i &&& y < 2 ^ 31 := Nat.lt_of_le_of_lt Nat.and_le_left (by omega)
    have hand2 : i &&& z < 2 ^ 31 := Nat.lt_of_le_of_lt Nat.and_le_left (by omega)
    refine lv_if_ne (tgt := 39) hx hb dX0_change_17 rfl (fun h1 => ?_) (fun h1 => ?_)
    · have h1 : ¬ i &&& y = 0 := fun h9 => h1 ((nI_z (by omega)).mpr h9)
      have hno : Br i = Bq i := sd_no hBi (hB i (by omega)) (hBq2 i (by omega)) (by unfold sd_fl; rw [beq_false_of_ne h1, Bool.false_and])
      refine lv_iinc (k := 4) (v := nI (i + 1)) hx hb dX0_change_39 hl rfl (hw_inc _) (by decide) rfl (fun ls hl => ?_)
      have hl : lv_has ls 5 [(4, .int (nI (i + 1))), (0, .ref og), (1, .int (nI y)), (2, .int (nI z)), (3, .int st)] := hl
      refine lv_goto (tgt := 3) hx hb dX0_change_42 rfl ?_
      have hl : lv_has ls 5 [(0, .ref og), (1, .int (nI y)), (2, .int (nI z)), (3, .int st), (4, .int (nI (i + 1)))] := lv_sub hl [1, 2, 3, 4, 0] rfl
      exact ih (i + 1) F ls H locs (by omega) (fun j hj => (Nat.lt_or_ge j i).elim (hF1 j) (fun h9 => by obtain rfl : j = i := (by omega); rw [hFi]; exact hno)) (fun j hj => hF2 j (by omega)) hl hP hS
    · have h1 : i &&& y = 0 := (nI_z (by omega)).mp h1
      refine lv_iload hx hb dX0_change_20 (lv_at hl 4 rfl) ?_
      refine lv_iload_n hx hb dX0_change_22 rfl (lv_at hl 2 rfl) ?_
      refine lv_iand hx hb dX0_change_23 ?_
      refine lv_nm (y := nI (i &&& z)) (hw_and _ _) ?_
      refine lv_iload_n hx hb dX0_change_24 rfl (lv_at hl 2 rfl) ?_
      refine lv_icmp_ne (tgt := 39) hx hb dX0_change_25 rfl (fun h2 => ?_) (fun h2 => ?_)
      · have h2 : ¬ (i &&& z = z) := fun h9 => h2 ((nI_eq (by omega) (by omega)).mpr h9)
        have hno : Br i = Bq i := sd_no hBi (hB i (by omega)) (hBq2 i (by omega)) (by unfold sd_fl; rw [beq_false_of_ne h2, Bool.and_false])
        refine lv_iinc (k := 4) (v := nI (i + 1)) hx hb dX0_change_39 hl rfl (hw_inc _) (by decide) rfl (fun ls hl => ?_)
        have hl : lv_has ls 5 [(4, .int (nI (i + 1))), (0, .ref og), (1, .int (nI y)), (2, .int (nI z)), (3, .int st)] := hl
        refine lv_goto (tgt := 3) hx hb dX0_change_42 rfl ?_
        have hl : lv_has ls 5 [(0, .ref og), (1, .int (nI y)), (2, .int (nI z)), (3, .int st), (4, .int (nI (i + 1)))] := lv_sub hl [1, 2, 3, 4, 0] rfl
        exact ih (i + 1) F ls H locs (by omega) (fun j hj => (Nat.lt_or_ge j i).elim (hF1 j) (fun h9 => by obtain rfl : j = i := (by omega); rw [hFi]; exact hno)) (fun j hj => hF2 j (by omega)) hl hP hS
      · have h2 : i &&& z = z := (nI_eq (by omega) (by omega)).mp h2
        refine lv_aload_n hx hb dX0_change_28 rfl (lv_at hl 0 rfl) ?_
        refine va_get (D := D) (ci := 0) (v := .ref ob) (C := RX0) (T := TX0) (N := 4) hx hb ht inX0 hown hK hP 0 rfl rfl 2 (by decide) (ht _ wf_X0_broken) (fun _ h9 => h9) rfl dX0_change_29 ?_
        refine lv_iload hx hb dX0_change_32 (lv_at hl 4 rfl) ?_
        refine lv_dup2_11 hx hb dX0_change_34 rfl rfl ?_
        refine na_nald (f := F) hx hb hK hP 1 0 rfl rfl (j := i) (by omega) (by omega) dX0_change_35 ?_
        refine lv_iload_n hx hb dX0_change_36 rfl (lv_at hl 3 rfl) ?_
        refine lv_iadd hx hb dX0_change_37 ?_
        refine lv_nm (y := nI (Bq i)) (by rw [hFi]; exact sd_yes hBi (by unfold sd_fl; rw [h1, h2]; exact (by simp))) ?_
        refine na_nast (f := F) (x := Bq i) hx hb hK hP hD hS 1 0 rfl rfl (j := i) (by omega) (by omega) dX0_change_38 (fun H locs hP hD hS => ?_)
        have hP : va_P D clS [(og, .inr (0, [.int (nI n), .int (nI a), .ref ob, .ref oe])), (ob, .inl (cI, (2 ^ n), .inl (fun j => nI ((va_up F i (Bq i)) j)))), (oe, .inl (cZ, (2 * 2 ^ n), .inl (fun j => bI (f j))))] H := hP
        have hD : va_D A [(og, .inr (0, [.int (nI n), .int (nI a), .ref ob, .ref oe])), (ob, .inl (cI, (2 ^ n), .inl (fun j => nI ((va_up F i (Bq i)) j)))), (oe, .inl (cZ, (2 * 2 ^ n), .inl (fun j => bI (f j))))] := hD
        refine lv_iinc (k := 4) (v := nI (i + 1)) hx hb dX0_change_39 hl rfl (hw_inc _) (by decide) rfl (fun ls hl => ?_)
        have hl : lv_has ls 5 [(4, .int (nI (i + 1))), (0, .ref og), (1, .int (nI y)), (2, .int (nI z)), (3, .int st)] := hl
        refine lv_goto (tgt := 3) hx hb dX0_change_42 rfl ?_
        have hl : lv_has ls 5 [(0, .ref og), (1, .int (nI y)), (2, .int (nI z)), (3, .int st), (4, .int (nI (i + 1)))] := lv_sub hl [1, 2, 3, 4, 0] rfl
        exact ih (i + 1) (va_up F i (Bq i)) ls H locs (by omega) (fun j hj => (Nat.lt_or_ge j i).elim (fun h9 => (va_up_ne _ _ (by omega)).trans (hF1 j h9)) (fun h9 => by obtain rfl : j = i := (by omega); exact va_up_self _ _ _)) (fun j hj => (va_up_ne _ _ (by omega)).trans (hF2 j (by omega))) hl hP hS
