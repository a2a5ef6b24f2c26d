/-! Contracts of StrategyDesk. -/
def dOk (n a q d v : Nat) (Y Z : Nat → Nat) : Prop := 1 ≤ n ∧ n ≤ 10 ∧ a < 2 ^ n ∧ sd_ct a n ≤ 5 ∧ q ≤ 24 ∧ (∀ j, Y j < 2 ^ n) ∧ (∀ j, Z j < 2 ^ n) ∧ d ≤ n ∧ v < 2 ^ d
theorem hw_set_t {y z : Int32} {n : Nat} (h : uN (y ||| z) / 2 ^ n = 0) : true = (decide (uN y < 2 ^ n) && decide (uN z < 2 ^ n)) := by
  rw [uN_or, hw_sets] at h
  rw [decide_eq_true h.1, decide_eq_true h.2]
  rfl
theorem hw_set_f {y z : Int32} {n : Nat} (h : ¬ uN (y ||| z) / 2 ^ n = 0) : false = (decide (uN y < 2 ^ n) && decide (uN z < 2 ^ n)) := by
  rw [uN_or, hw_sets] at h
  by_cases h1 : uN y < 2 ^ n
  · rw [decide_eq_false (p := uN z < 2 ^ n) (fun h2 => h ⟨h1, h2⟩), Bool.and_false]
  · rw [decide_eq_false h1, Bool.false_and]
theorem sd_ev {n a w : Nat} (ha : a < 2 ^ n) (hw : w < n) : (2 ^ n - 1 - a).testBit w = !a.testBit w := by
  rw [show 2 ^ n - 1 - a = 2 ^ n - (a + 1) by omega, Nat.testBit_two_pow_sub_succ ha, decide_eq_true hw, Bool.true_and]
theorem sd_ct_mod {a w : Nat} (hw : w ≤ 10) : sd_ct (a % 2 ^ w) 10 = sd_ct a w := by
  have h : ∀ k, sd_ct (a % 2 ^ w) (w + k) = sd_ct a w := by
    intro k
    induction k with
    | zero =>
      apply sd_ct_cg
      intro i hi
      rw [Nat.testBit_mod_two_pow, decide_eq_true (show i < w from hi), Bool.true_and]
    | succ k ih =>
      show sd_ct (a % 2 ^ w) (w + k) + ((a % 2 ^ w).testBit (w + k)).toNat = _
      rw [ih, Nat.testBit_mod_two_pow, decide_eq_false (by omega), Bool.false_and]
      rfl
  have h2 := h (10 - w)
  rwa [show w + (10 - w) = 10 by omega] at h2
/-- the values that valuesWithBest gathers -/
def sd_vb (n a : Nat) (S : Nat → Bool) (mv td : Nat) : Nat → Nat → Bool := fun d x => if mv.testBit d = true then sd_bm n a S d x else td.testBit d
def bc1 (x : Int32) : Int32 := x - ((x.toUInt32 >>> ((nI 1).toUInt32 &&& Int32.toUInt32 31)).toInt32 &&& (1431655765 : Int32))
def bc2 (x : Int32) : Int32 := (x &&& (858993459 : Int32)) + ((x.toUInt32 >>> ((nI 2).toUInt32 &&& Int32.toUInt32 31)).toInt32 &&& (858993459 : Int32))
def bc3 (x : Int32) : Int32 := (x + (x.toUInt32 >>> ((nI 4).toUInt32 &&& Int32.toUInt32 31)).toInt32) &&& (252645135 : Int32)
def bc4 (x : Int32) : Int32 := x + (x.toUInt32 >>> ((nI 8).toUInt32 &&& Int32.toUInt32 31)).toInt32
def bc5 (x : Int32) : Int32 := x + (x.toUInt32 >>> ((nI 16).toUInt32 &&& Int32.toUInt32 31)).toInt32
def bc6 (x : Int32) : Int32 := x &&& nI 63
theorem bc_ok : ∀ x, x < 1024 → bc6 (bc5 (bc4 (bc3 (bc2 (bc1 (nI x)))))) = nI (sd_ct x 10) := by decide +kernel

set_option maxHeartbeats 4000000 in
set_option maxRecDepth 100000 in
theorem c_bitCount (l : Launch) (D : va_G) (cI cZ : ClassId) (x : Nat) (hx9 : x < 1024) : Met l yJ6_bitCount (kJ6_bitCount :: aW) { frames := 0, cells := 0, slots := 0, locals := 0 } (rPre [.int (nI x)] D [] [(cI, .int), (cZ, .boolean)]) (QcRead (nI (sd_ct x 10))) 0 0 (fun _ => False) := by
  refine Met.ofW (cc := cJ6_bitCount) (maxL := 1) (ret := (some .int)) (by decide) rfl ?_
  intro p e s m args below meth c s₁ Bo hml hpre
  obtain ⟨rfl, hP, hK, hN⟩ := hpre
  have hx := Bo.exec
  have hb := Bo.bytes
  have hr := Bo.returns
  have hts := atoms_spec (ws := kJ6_bitCount :: aW) Bo.pre
  have ht : ∀ w ∈ aW, w.before _ s = true := fun w h => hts w (List.mem_cons_of_mem _ h)
  have hown : s.vm.findClass RJ6 = some m.cls := findClass_of_methodNamed Bo.named
  have hlocks := Bo.notSynchronized
  have hP : va_P D clS [] s.heap := hP
  have hl := lv_entry ([.int (nI x)]) (n := 1) (Nat.le_of_ble_eq_true rfl)
  rw [lg_entry_eq]
  generalize (lg_sl ([.int (nI x)]) ++ List.replicate (1 - (lg_sl ([.int (nI x)])).length) Slot.unset).toArray = ls at hl ⊢
  have hl : lv_has ls 1 [(0, .int (nI x))] := hl
  refine lv_iload_n hx hb dJ6_bitCount_0 rfl (lv_at hl 0 rfl) ?_
  refine lv_iload_n hx hb dJ6_bitCount_1 rfl (lv_at hl 0 rfl) ?_
  refine lv_iconst (v := nI 1) hx hb dJ6_bitCount_2 (by decide) ?_
  refine lv_iushr hx hb dJ6_bitCount_3 rfl ?_
  refine lv_ldcw (v := 1431655765) hx hb hown (ht _ wq_J6_265) dJ6_bitCount_4 ?_
  refine lv_iand hx hb dJ6_bitCount_7 ?_
  refine lv_isub hx hb dJ6_bitCount_8 ?_
  refine lv_nm (y := bc1 (nI x)) (rfl) ?_
  refine lv_istore_n hx hb dJ6_bitCount_9 rfl hl (by decide) rfl (fun ls hl => ?_)
  have hl : lv_has ls 1 [(0, .int (bc1 (nI x)))] := hl
  refine lv_iload_n hx hb dJ6_bitCount_10 rfl (lv_at hl 0 rfl) ?_
  refine lv_ldcw (v := 858993459) hx hb hown (ht _ wq_J6_266) dJ6_bitCount_11 ?_
  refine lv_iand hx hb dJ6_bitCount_14 ?_
  refine lv_iload_n hx hb dJ6_bitCount_15 rfl (lv_at hl 0 rfl) ?_
  refine lv_iconst (v := nI 2) hx hb dJ6_bitCount_16 (by decide) ?_
  refine lv_iushr hx hb dJ6_bitCount_17 rfl ?_
  refine lv_ldcw (v := 858993459) hx hb hown (ht _ wq_J6_266) dJ6_bitCount_18 ?_
  refine lv_iand hx hb dJ6_bitCount_21 ?_
  refine lv_iadd hx hb dJ6_bitCount_22 ?_
  refine lv_nm (y := bc2 (bc1 (nI x))) (rfl) ?_
  refine lv_istore_n hx hb dJ6_bitCount_23 rfl hl (by decide) rfl (fun ls hl => ?_)
  have hl : lv_has ls 1 [(0, .int (bc2 (bc1 (nI x))))] := hl
  refine lv_iload_n hx hb dJ6_bitCount_24 rfl (lv_at hl 0 rfl) ?_
  refine lv_iload_n hx hb dJ6_bitCount_25 rfl (lv_at hl 0 rfl) ?_
  refine lv_iconst (v := nI 4) hx hb dJ6_bitCount_26 (by decide) ?_
  refine lv_iushr hx hb dJ6_bitCount_27 rfl ?_
  refine lv_iadd hx hb dJ6_bitCount_28 ?_
  refine lv_ldcw (v := 252645135) hx hb hown (ht _ wq_J6_267) dJ6_bitCount_29 ?_
  refine lv_iand hx hb dJ6_bitCount_32 ?_
  refine lv_nm (y := bc3 (bc2 (bc1 (nI x)))) (rfl) ?_
  refine lv_istore_n hx hb dJ6_bitCount_33 rfl hl (by decide) rfl (fun ls hl => ?_)
  have hl : lv_has ls 1 [(0, .int (bc3 (bc2 (bc1 (nI x)))))] := hl
  refine lv_iload_n hx hb dJ6_bitCount_34 rfl (lv_at hl 0 rfl) ?_
  refine lv_iload_n hx hb dJ6_bitCount_35 rfl (lv_at hl 0 rfl) ?_
  refine lv_bipush (v := nI 8) hx hb dJ6_bitCount_36 (by decide) ?_
  refine lv_iushr hx hb dJ6_bitCount_38 rfl ?_
  refine lv_iadd hx hb dJ6_bitCount_39 ?_
  refine lv_nm (y := bc4 (bc3 (bc2 (bc1 (nI x))))) (rfl) ?_
  refine lv_istore_n hx hb dJ6_bitCount_40 rfl hl (by decide) rfl (fun ls hl => ?_)
  have hl : lv_has ls 1 [(0, .int (bc4 (bc3 (bc2 (bc1 (nI x))))))] := hl
  refine lv_iload_n hx hb dJ6_bitCount_41 rfl (lv_at hl 0 rfl) ?_
  refine lv_iload_n hx hb dJ6_bitCount_42 rfl (lv_at hl 0 rfl) ?_
  refine lv_bipush (v := nI 16) hx hb dJ6_bitCount_43 (by decide) ?_
  refine lv_iushr hx hb dJ6_bitCount_45 rfl ?_
  refine lv_iadd hx hb dJ6_bitCount_46 ?_
  refine lv_nm (y := bc5 (bc4 (bc3 (bc2 (bc1 (nI x)))))) (rfl) ?_
  refine lv_istore_n hx hb dJ6_bitCount_47 rfl hl (by decide) rfl (fun ls hl => ?_)
  have hl : lv_has ls 1 [(0, .int (bc5 (bc4 (bc3 (bc2 (bc1 (nI x)))))))] := hl
  refine lv_iload_n hx hb dJ6_bitCount_48 rfl (lv_at hl 0 rfl) ?_
  refine lv_bipush (v := nI 63) hx hb dJ6_bitCount_49 (by decide) ?_
  refine lv_iand hx hb dJ6_bitCount_51 ?_
  refine lv_nm (y := bc6 (bc5 (bc4 (bc3 (bc2 (bc1 (nI x))))))) (rfl) ?_
  exact W.iret hx hb hr (fun t ht2 _ => ⟨hw_ret (bc_ok x hx9), ht2⟩) (fun _ h => by cases h) dJ6_bitCount_52

set_option maxHeartbeats 4000000 in
set_option maxRecDepth 100000 in
theorem c_variables (l : Launch) (D : va_G) (cI cZ : ClassId) (od og ob oe oy oz ot n a q d v : Nat) (Y Z : Nat → Nat) (T : Nat → Int32) (ok : dOk n a q d v Y Z) : Met l yX1_variables (kX1_variables :: aW) { frames := 0, cells := 0, slots := 0, locals := 0 } (rPre [.ref od] D [(od, .inr (1, [.int (nI n), .int (nI a), .int (nI (2 ^ n - 1 - a)), .ref og, .ref oy, .ref oz, .int (nI q), .int (nI d), .int (nI v), .ref ot])), (og, .inr (0, [.int (nI n), .int (nI a), .ref ob, .ref oe])), (ob, .inl (cI, (2 ^ n), .inl (fun j => nI ((sd_br Y Z q) j)))), (oe, .inl (cZ, (2 * 2 ^ n), .inl (fun j => bI ((sd_ew n a (fun w => sd_br Y Z q w == 0)) j)))), (oy, .inl (cI, 24, .inl (fun j => nI (Y j)))), (oz, .inl (cI, 24, .inl (fun j => nI (Z j)))), (ot, .inl (cI, n, .inl T))] [(cI, .int), (cZ, .boolean)]) (QcRead (nI n)) 0 0 (fun _ => False) := by
  obtain ⟨hn1, hn, ha, h5, hq, hY, hZ, hd, hv⟩ := id ok
  have h2n := hw_p10 hn
  refine Met.ofW (cc := cX1_variables) (maxL := 1) (ret := (some .int)) (by decide) rfl ?_
  intro p e s m args below meth c s₁ Bo hml hpre
  obtain ⟨rfl, hP, hK, hN⟩ := hpre
  have hx := Bo.exec
  have hb := Bo.bytes
  have hr := Bo.returns
  have hts := atoms_spec (ws := kX1_variables :: aW) Bo.pre
  have ht : ∀ w ∈ aW, w.before _ s = true := fun w h => hts w (List.mem_cons_of_mem _ h)
  have hown : s.vm.findClass RX1 = some m.cls := findClass_of_methodNamed Bo.named
  have hlocks := Bo.notSynchronized
  have hP : va_P D clS [(od, .inr (1, [.int (nI n), .int (nI a), .int (nI (2 ^ n - 1 - a)), .ref og, .ref oy, .ref oz, .int (nI q), .int (nI d), .int (nI v), .ref ot])), (og, .inr (0, [.int (nI n), .int (nI a), .ref ob, .ref oe])), (ob, .inl (cI, (2 ^ n), .inl (fun j => nI ((sd_br Y Z q) j)))), (oe, .inl (cZ, (2 * 2 ^ n), .inl (fun j => bI ((sd_ew n a (fun w => sd_br Y Z q w == 0)) j)))), (oy, .inl (cI, 24, .inl (fun j => nI (Y j)))), (oz, .inl (cI, 24, .inl (fun j => nI (Z j)))), (ot, .inl (cI, n, .inl T))] s.heap := hP
  have hl := lv_entry ([.ref od]) (n := 1) (Nat.le_of_ble_eq_true rfl)
  rw [lg_entry_eq]
  generalize (lg_sl ([.ref od]) ++ List.replicate (1 - (lg_sl ([.ref od])).length) Slot.unset).toArray = ls at hl ⊢
  have hl : lv_has ls 1 [(0, .ref od)] := hl
  refine lv_aload_n hx hb dX1_variables_0 rfl (lv_at hl 0 rfl) ?_
  refine va_get (D := D) (ci := 1) (v := .int (nI n)) (C := RX1) (T := TX1) (N := 10) hx hb ht inX1 hown hK hP 0 rfl rfl 0 (by decide) (ht _ wf_X1_size) (fun _ h9 => h9) rfl dX1_variables_1 ?_
  exact W.iret hx hb hr (fun t ht2 _ => ⟨hw_ret (rfl), ht2⟩) (fun _ h => by cases h) dX1_variables_4

set_option maxHeartbeats 4000000 in
set_option maxRecDepth 100000 in
theorem c_adams (l : Launch) (D : va_G) (cI cZ : ClassId) (od og ob oe oy oz ot n a q d v : Nat) (Y Z : Nat → Nat) (T : Nat → Int32) (ok : dOk n a q d v Y Z) : Met l yX1_adams (kX1_adams :: aW) { frames := 0, cells := 0, slots := 0, locals := 0 } (rPre [.ref od] D [(od, .inr (1, [.int (nI n), .int (nI a), .int (nI (2 ^ n - 1 - a)), .ref og, .ref oy, .ref oz, .int (nI q), .int (nI d), .int (nI v), .ref ot])), (og, .inr (0, [.int (nI n), .int (nI a), .ref ob, .ref oe])), (ob, .inl (cI, (2 ^ n), .inl (fun j => nI ((sd_br Y Z q) j)))), (oe, .inl (cZ, (2 * 2 ^ n), .inl (fun j => bI ((sd_ew n a (fun w => sd_br Y Z q w == 0)) j)))), (oy, .inl (cI, 24, .inl (fun j => nI (Y j)))), (oz, .inl (cI, 24, .inl (fun j => nI (Z j)))), (ot, .inl (cI, n, .inl T))] [(cI, .int), (cZ, .boolean)]) (QcRead (nI a)) 0 0 (fun _ => False) := by
  obtain ⟨hn1, hn, ha, h5, hq, hY, hZ, hd, hv⟩ := id ok
  have h2n := hw_p10 hn
  refine Met.ofW (cc := cX1_adams) (maxL := 1) (ret := (some .int)) (by decide) rfl ?_
  intro p e s m args below meth c s₁ Bo hml hpre
  obtain ⟨rfl, hP, hK, hN⟩ := hpre
  have hx := Bo.exec
  have hb := Bo.bytes
  have hr := Bo.returns
  have hts := atoms_spec (ws := kX1_adams :: aW) Bo.pre
  have ht : ∀ w ∈ aW, w.before _ s = true := fun w h => hts w (List.mem_cons_of_mem _ h)
  have hown : s.vm.findClass RX1 = some m.cls := findClass_of_methodNamed Bo.named
  have hlocks := Bo.notSynchronized
  have hP : va_P D clS [(od, .inr (1, [.int (nI n), .int (nI a), .int (nI (2 ^ n - 1 - a)), .ref og, .ref oy, .ref oz, .int (nI q), .int (nI d), .int (nI v), .ref ot])), (og, .inr (0, [.int (nI n), .int (nI a), .ref ob, .ref oe])), (ob, .inl (cI, (2 ^ n), .inl (fun j => nI ((sd_br Y Z q) j)))), (oe, .inl (cZ, (2 * 2 ^ n), .inl (fun j => bI ((sd_ew n a (fun w => sd_br Y Z q w == 0)) j)))), (oy, .inl (cI, 24, .inl (fun j => nI (Y j)))), (oz, .inl (cI, 24, .inl (fun j => nI (Z j)))), (ot, .inl (cI, n, .inl T))] s.heap := hP
  have hl := lv_entry ([.ref od]) (n := 1) (Nat.le_of_ble_eq_true rfl)
  rw [lg_entry_eq]
  generalize (lg_sl ([.ref od]) ++ List.replicate (1 - (lg_sl ([.ref od])).length) Slot.unset).toArray = ls at hl ⊢
  have hl : lv_has ls 1 [(0, .ref od)] := hl
  refine lv_aload_n hx hb dX1_adams_0 rfl (lv_at hl 0 rfl) ?_
  refine va_get (D := D) (ci := 1) (v := .int (nI a)) (C := RX1) (T := TX1) (N := 10) hx hb ht inX1 hown hK hP 0 rfl rfl 1 (by decide) (ht _ wf_X1_adamSet) (fun _ h9 => h9) rfl dX1_adams_1 ?_
  exact W.iret hx hb hr (fun t ht2 _ => ⟨hw_ret (rfl), ht2⟩) (fun _ h => by cases h) dX1_adams_4

set_option maxHeartbeats 4000000 in
set_option maxRecDepth 100000 in
theorem c_clauses (l : Launch) (D : va_G) (cI cZ : ClassId) (od og ob oe oy oz ot n a q d v : Nat) (Y Z : Nat → Nat) (T : Nat → Int32) (ok : dOk n a q d v Y Z) : Met l yX1_clauses (kX1_clauses :: aW) { frames := 0, cells := 0, slots := 0, locals := 0 } (rPre [.ref od] D [(od, .inr (1, [.int (nI n), .int (nI a), .int (nI (2 ^ n - 1 - a)), .ref og, .ref oy, .ref oz, .int (nI q), .int (nI d), .int (nI v), .ref ot])), (og, .inr (0, [.int (nI n), .int (nI a), .ref ob, .ref oe])), (ob, .inl (cI, (2 ^ n), .inl (fun j => nI ((sd_br Y Z q) j)))), (oe, .inl (cZ, (2 * 2 ^ n), .inl (fun j => bI ((sd_ew n a (fun w => sd_br Y Z q w == 0)) j)))), (oy, .inl (cI, 24, .inl (fun j => nI (Y j)))), (oz, .inl (cI, 24, .inl (fun j => nI (Z j)))), (ot, .inl (cI, n, .inl T))] [(cI, .int), (cZ, .boolean)]) (QcRead (nI q)) 0 0 (fun _ => False) := by
  obtain ⟨hn1, hn, ha, h5, hq, hY, hZ, hd, hv⟩ := id ok
  have h2n := hw_p10 hn
  refine Met.ofW (cc := cX1_clauses) (maxL := 1) (ret := (some .int)) (by decide) rfl ?_
  intro p e s m args below meth c s₁ Bo hml hpre
  obtain ⟨rfl, hP, hK, hN⟩ := hpre
  have hx := Bo.exec
  have hb := Bo.bytes
  have hr := Bo.returns
  have hts := atoms_spec (ws := kX1_clauses :: aW) Bo.pre
  have ht : ∀ w ∈ aW, w.before _ s = true := fun w h => hts w (List.mem_cons_of_mem _ h)
  have hown : s.vm.findClass RX1 = some m.cls := findClass_of_methodNamed Bo.named
  have hlocks := Bo.notSynchronized
  have hP : va_P D clS [(od, .inr (1, [.int (nI n), .int (nI a), .int (nI (2 ^ n - 1 - a)), .ref og, .ref oy, .ref oz, .int (nI q), .int (nI d), .int (nI v), .ref ot])), (og, .inr (0, [.int (nI n), .int (nI a), .ref ob, .ref oe])), (ob, .inl (cI, (2 ^ n), .inl (fun j => nI ((sd_br Y Z q) j)))), (oe, .inl (cZ, (2 * 2 ^ n), .inl (fun j => bI ((sd_ew n a (fun w => sd_br Y Z q w == 0)) j)))), (oy, .inl (cI, 24, .inl (fun j => nI (Y j)))), (oz, .inl (cI, 24, .inl (fun j => nI (Z j)))), (ot, .inl (cI, n, .inl T))] s.heap := hP
  have hl := lv_entry ([.ref od]) (n := 1) (Nat.le_of_ble_eq_true rfl)
  rw [lg_entry_eq]
  generalize (lg_sl ([.ref od]) ++ List.replicate (1 - (lg_sl ([.ref od])).length) Slot.unset).toArray = ls at hl ⊢
  have hl : lv_has ls 1 [(0, .ref od)] := hl
  refine lv_aload_n hx hb dX1_clauses_0 rfl (lv_at hl 0 rfl) ?_
  refine va_get (D := D) (ci := 1) (v := .int (nI q)) (C := RX1) (T := TX1) (N := 10) hx hb ht inX1 hown hK hP 0 rfl rfl 6 (by decide) (ht _ wf_X1_clauseCount) (fun _ h9 => h9) rfl dX1_clauses_1 ?_
  exact W.iret hx hb hr (fun t ht2 _ => ⟨hw_ret (rfl), ht2⟩) (fun _ h => by cases h) dX1_clauses_4

set_option maxHeartbeats 4000000 in
set_option maxRecDepth 100000 in
theorem c_played (l : Launch) (D : va_G) (cI cZ : ClassId) (od og ob oe oy oz ot n a q d v : Nat) (Y Z : Nat → Nat) (T : Nat → Int32) (ok : dOk n a q d v Y Z) : Met l yX1_played (kX1_played :: aW) { frames := 0, cells := 0, slots := 0, locals := 0 } (rPre [.ref od] D [(od, .inr (1, [.int (nI n), .int (nI a), .int (nI (2 ^ n - 1 - a)), .ref og, .ref oy, .ref oz, .int (nI q), .int (nI d), .int (nI v), .ref ot])), (og, .inr (0, [.int (nI n), .int (nI a), .ref ob, .ref oe])), (ob, .inl (cI, (2 ^ n), .inl (fun j => nI ((sd_br Y Z q) j)))), (oe, .inl (cZ, (2 * 2 ^ n), .inl (fun j => bI ((sd_ew n a (fun w => sd_br Y Z q w == 0)) j)))), (oy, .inl (cI, 24, .inl (fun j => nI (Y j)))), (oz, .inl (cI, 24, .inl (fun j => nI (Z j)))), (ot, .inl (cI, n, .inl T))] [(cI, .int), (cZ, .boolean)]) (QcRead (nI d)) 0 0 (fun _ => False) := by
  obtain ⟨hn1, hn, ha, h5, hq, hY, hZ, hd, hv⟩ := id ok
  have h2n := hw_p10 hn
  refine Met.ofW (cc := cX1_played) (maxL := 1) (ret := (some .int)) (by decide) rfl ?_
  intro p e s m args below meth c s₁ Bo hml hpre
  obtain ⟨rfl, hP, hK, hN⟩ := hpre
  have hx := Bo.exec
  have hb := Bo.bytes
  have hr := Bo.returns
  have hts := atoms_spec (ws := kX1_played :: aW) Bo.pre
  have ht : ∀ w ∈ aW, w.before _ s = true := fun w h => hts w (List.mem_cons_of_mem _ h)
  have hown : s.vm.findClass RX1 = some m.cls := findClass_of_methodNamed Bo.named
  have hlocks := Bo.notSynchronized
  have hP : va_P D clS [(od, .inr (1, [.int (nI n), .int (nI a), .int (nI (2 ^ n - 1 - a)), .ref og, .ref oy, .ref oz, .int (nI q), .int (nI d), .int (nI v), .ref ot])), (og, .inr (0, [.int (nI n), .int (nI a), .ref ob, .ref oe])), (ob, .inl (cI, (2 ^ n), .inl (fun j => nI ((sd_br Y Z q) j)))), (oe, .inl (cZ, (2 * 2 ^ n), .inl (fun j => bI ((sd_ew n a (fun w => sd_br Y Z q w == 0)) j)))), (oy, .inl (cI, 24, .inl (fun j => nI (Y j)))), (oz, .inl (cI, 24, .inl (fun j => nI (Z j)))), (ot, .inl (cI, n, .inl T))] s.heap := hP
  have hl := lv_entry ([.ref od]) (n := 1) (Nat.le_of_ble_eq_true rfl)
  rw [lg_entry_eq]
  generalize (lg_sl ([.ref od]) ++ List.replicate (1 - (lg_sl ([.ref od])).length) Slot.unset).toArray = ls at hl ⊢
  have hl : lv_has ls 1 [(0, .ref od)] := hl
  refine lv_aload_n hx hb dX1_played_0 rfl (lv_at hl 0 rfl) ?_
  refine va_get (D := D) (ci := 1) (v := .int (nI d)) (C := RX1) (T := TX1) (N := 10) hx hb ht inX1 hown hK hP 0 rfl rfl 7 (by decide) (ht _ wf_X1_playDepth) (fun _ h9 => h9) rfl dX1_played_1 ?_
  exact W.iret hx hb hr (fun t ht2 _ => ⟨hw_ret (rfl), ht2⟩) (fun _ h => by cases h) dX1_played_4

set_option maxHeartbeats 4000000 in
set_option maxRecDepth 100000 in
theorem c_isVariable (l : Launch) (D : va_G) (cI cZ : ClassId) (od og ob oe oy oz ot n a q d v : Nat) (Y Z : Nat → Nat) (T : Nat → Int32) (ok : dOk n a q d v Y Z) (x : Int32) : Met l yX1_isVariable (kX1_isVariable :: aW) { frames := 0, cells := 0, slots := 0, locals := 0 } (rPre [.ref od, .int x] D [(od, .inr (1, [.int (nI n), .int (nI a), .int (nI (2 ^ n - 1 - a)), .ref og, .ref oy, .ref oz, .int (nI q), .int (nI d), .int (nI v), .ref ot])), (og, .inr (0, [.int (nI n), .int (nI a), .ref ob, .ref oe])), (ob, .inl (cI, (2 ^ n), .inl (fun j => nI ((sd_br Y Z q) j)))), (oe, .inl (cZ, (2 * 2 ^ n), .inl (fun j => bI ((sd_ew n a (fun w => sd_br Y Z q w == 0)) j)))), (oy, .inl (cI, 24, .inl (fun j => nI (Y j)))), (oz, .inl (cI, 24, .inl (fun j => nI (Z j)))), (ot, .inl (cI, n, .inl T))] [(cI, .int), (cZ, .boolean)]) (QcRead (bI (decide (uN x < n)))) 0 0 (fun _ => False) := by
  obtain ⟨hn1, hn, ha, h5, hq, hY, hZ, hd, hv⟩ := id ok
  have h2n := hw_p10 hn
  refine Met.ofW (cc := cX1_isVariable) (maxL := 2) (ret := (some .boolean)) (by decide) rfl ?_
  intro p e s m args below meth c s₁ Bo hml hpre
  obtain ⟨rfl, hP, hK, hN⟩ := hpre
  have hx := Bo.exec
  have hb := Bo.bytes
  have hr := Bo.returns
  have hts := atoms_spec (ws := kX1_isVariable :: aW) Bo.pre
  have ht : ∀ w ∈ aW, w.before _ s = true := fun w h => hts w (List.mem_cons_of_mem _ h)
  have hown : s.vm.findClass RX1 = some m.cls := findClass_of_methodNamed Bo.named
  have hlocks := Bo.notSynchronized
  have hP : va_P D clS [(od, .inr (1, [.int (nI n), .int (nI a), .int (nI (2 ^ n - 1 - a)), .ref og, .ref oy, .ref oz, .int (nI q), .int (nI d), .int (nI v), .ref ot])), (og, .inr (0, [.int (nI n), .int (nI a), .ref ob, .ref oe])), (ob, .inl (cI, (2 ^ n), .inl (fun j => nI ((sd_br Y Z q) j)))), (oe, .inl (cZ, (2 * 2 ^ n), .inl (fun j => bI ((sd_ew n a (fun w => sd_br Y Z q w == 0)) j)))), (oy, .inl (cI, 24, .inl (fun j => nI (Y j)))), (oz, .inl (cI, 24, .inl (fun j => nI (Z j)))), (ot, .inl (cI, n, .inl T))] s.heap := hP
  have hl := lv_entry ([.ref od, .int x]) (n := 2) (Nat.le_of_ble_eq_true rfl)
  rw [lg_entry_eq]
  generalize (lg_sl ([.ref od, .int x]) ++ List.replicate (2 - (lg_sl ([.ref od, .int x])).length) Slot.unset).toArray = ls at hl ⊢
  have hl : lv_has ls 2 [(0, .ref od), (1, .int x)] := hl
  suffices mk : W p l e (headSpec (kX1_isVariable :: aW) { frames := 0, cells := 0, slots := 0, locals := 0 }).room s m (([.ref od, .int x] : List Value).toArray) below meth c s.heap [] 0 0 (MQ below (QcRead (bI (decide (uN x < n)))) (([.ref od, .int x] : List Value).toArray) s 0 0 (fun _ => False)) (F0 m 17 ls [.int (bI (decide (uN x < n)))]) by
    refine lv_iload_n hx hb dX1_isVariable_0 rfl (lv_at hl 1 rfl) ?_
    refine lv_if_lt (tgt := 16) hx hb dX1_isVariable_1 rfl (fun h1 => ?_) (fun h1 => ?_)
    · refine lv_iconst (v := nI 0) hx hb dX1_isVariable_16 (by decide) ?_
      refine lv_nm (y := bI (decide (uN x < n))) (hw_0.trans (congrArg bI (show false = (decide (uN x < n)) by first | exact (decide_eq_true (hw_in (by omega) h1 h2)).symm | exact (decide_eq_false (hw_big (by omega) h2)).symm | exact (decide_eq_false (fun h9 => (hw_pos (n := n) (by omega) h9).1 h1)).symm))) ?_
      exact mk
    · refine lv_iload_n hx hb dX1_isVariable_4 rfl (lv_at hl 1 rfl) ?_
      refine lv_aload_n hx hb dX1_isVariable_5 rfl (lv_at hl 0 rfl) ?_
      refine va_get (D := D) (ci := 1) (v := .int (nI n)) (C := RX1) (T := TX1) (N := 10) hx hb ht inX1 hown hK hP 0 rfl rfl 0 (by decide) (ht _ wf_X1_size) (fun _ h9 => h9) rfl dX1_isVariable_6 ?_
      refine lv_icmp_ge (tgt := 16) hx hb dX1_isVariable_9 rfl (fun h2 => ?_) (fun h2 => ?_)
      · refine lv_iconst (v := nI 0) hx hb dX1_isVariable_16 (by decide) ?_
        refine lv_nm (y := bI (decide (uN x < n))) (hw_0.trans (congrArg bI (show false = (decide (uN x < n)) by first | exact (decide_eq_true (hw_in (by omega) h1 h2)).symm | exact (decide_eq_false (hw_big (by omega) h2)).symm | exact (decide_eq_false (fun h9 => (hw_pos (n := n) (by omega) h9).1 h1)).symm))) ?_
        exact mk
      · refine lv_iconst (v := nI 1) hx hb dX1_isVariable_12 (by decide) ?_
        refine lv_goto (tgt := 17) hx hb dX1_isVariable_13 rfl ?_
        refine lv_nm (y := bI (decide (uN x < n))) (hw_1.trans (congrArg bI (show true = (decide (uN x < n)) by first | exact (decide_eq_true (hw_in (by omega) h1 h2)).symm | exact (decide_eq_false (hw_big (by omega) h2)).symm | exact (decide_eq_false (fun h9 => (hw_pos (n := n) (by omega) h9).1 h1)).symm))) ?_
        exact mk
  exact W.zret hx hb hr (bI_nar _) (fun t ht2 _ => ⟨hw_ret (rfl), ht2⟩) (fun _ h => by cases h) dX1_isVariable_17

set_option maxHeartbeats 4000000 in
set_option maxRecDepth 100000 in
theorem c_isClause (l : Launch) (D : va_G) (cI cZ : ClassId) (od og ob oe oy oz ot n a q d v : Nat) (Y Z : Nat → Nat) (T : Nat → Int32) (ok : dOk n a q d v Y Z) (x : Int32) : Met l yX1_isClause (kX1_isClause :: aW) { frames := 0, cells := 0, slots := 0, locals := 0 } (rPre [.ref od, .int x] D [(od, .inr (1, [.int (nI n), .int (nI a), .int (nI (2 ^ n - 1 - a)), .ref og, .ref oy, .ref oz, .int (nI q), .int (nI d), .int (nI v), .ref ot])), (og, .inr (0, [.int (nI n), .int (nI a), .ref ob, .ref oe])), (ob, .inl (cI, (2 ^ n), .inl (fun j => nI ((sd_br Y Z q) j)))), (oe, .inl (cZ, (2 * 2 ^ n), .inl (fun j => bI ((sd_ew n a (fun w => sd_br Y Z q w == 0)) j)))), (oy, .inl (cI, 24, .inl (fun j => nI (Y j)))), (oz, .inl (cI, 24, .inl (fun j => nI (Z j)))), (ot, .inl (cI, n, .inl T))] [(cI, .int), (cZ, .boolean)]) (QcRead (bI (decide (uN x < q)))) 0 0 (fun _ => False) := by
  obtain ⟨hn1, hn, ha, h5, hq, hY, hZ, hd, hv⟩ := id ok
  have h2n := hw_p10 hn
  refine Met.ofW (cc := cX1_isClause) (maxL := 2) (ret := (some .boolean)) (by decide) rfl ?_
  intro p e s m args below meth c s₁ Bo hml hpre
  obtain ⟨rfl, hP, hK, hN⟩ := hpre
  have hx := Bo.exec
  have hb := Bo.bytes
  have hr := Bo.returns
  have hts := atoms_spec (ws := kX1_isClause :: aW) Bo.pre
  have ht : ∀ w ∈ aW, w.before _ s = true := fun w h => hts w (List.mem_cons_of_mem _ h)
  have hown : s.vm.findClass RX1 = some m.cls := findClass_of_methodNamed Bo.named
  have hlocks := Bo.notSynchronized
  have hP : va_P D clS [(od, .inr (1, [.int (nI n), .int (nI a), .int (nI (2 ^ n - 1 - a)), .ref og, .ref oy, .ref oz, .int (nI q), .int (nI d), .int (nI v), .ref ot])), (og, .inr (0, [.int (nI n), .int (nI a), .ref ob, .ref oe])), (ob, .inl (cI, (2 ^ n), .inl (fun j => nI ((sd_br Y Z q) j)))), (oe, .inl (cZ, (2 * 2 ^ n), .inl (fun j => bI ((sd_ew n a (fun w => sd_br Y Z q w == 0)) j)))), (oy, .inl (cI, 24, .inl (fun j => nI (Y j)))), (oz, .inl (cI, 24, .inl (fun j => nI (Z j)))), (ot, .inl (cI, n, .inl T))] s.heap := hP
  have hl := lv_entry ([.ref od, .int x]) (n := 2) (Nat.le_of_ble_eq_true rfl)
  rw [lg_entry_eq]
  generalize (lg_sl ([.ref od, .int x]) ++ List.replicate (2 - (lg_sl ([.ref od, .int x])).length) Slot.unset).toArray = ls at hl ⊢
  have hl : lv_has ls 2 [(0, .ref od), (1, .int x)] := hl
  suffices mk : W p l e (headSpec (kX1_isClause :: aW) { frames := 0, cells := 0, slots := 0, locals := 0 }).room s m (([.ref od, .int x] : List Value).toArray) below meth c s.heap [] 0 0 (MQ below (QcRead (bI (decide (uN x < q)))) (([.ref od, .int x] : List Value).toArray) s 0 0 (fun _ => False)) (F0 m 17 ls [.int (bI (decide (uN x < q)))]) by
    refine lv_iload_n hx hb dX1_isClause_0 rfl (lv_at hl 1 rfl) ?_
    refine lv_if_lt (tgt := 16) hx hb dX1_isClause_1 rfl (fun h1 => ?_) (fun h1 => ?_)
    · refine lv_iconst (v := nI 0) hx hb dX1_isClause_16 (by decide) ?_
      refine lv_nm (y := bI (decide (uN x < q))) (hw_0.trans (congrArg bI (show false = (decide (uN x < q)) by first | exact (decide_eq_true (hw_in (by omega) h1 h2)).symm | exact (decide_eq_false (hw_big (by omega) h2)).symm | exact (decide_eq_false (fun h9 => (hw_pos (n := q) (by omega) h9).1 h1)).symm))) ?_
      exact mk
    · refine lv_iload_n hx hb dX1_isClause_4 rfl (lv_at hl 1 rfl) ?_
      refine lv_aload_n hx hb dX1_isClause_5 rfl (lv_at hl 0 rfl) ?_
      refine va_get (D := D) (ci := 1) (v := .int (nI q)) (C := RX1) (T := TX1) (N := 10) hx hb ht inX1 hown hK hP 0 rfl rfl 6 (by decide) (ht _ wf_X1_clauseCount) (fun _ h9 => h9) rfl dX1_isClause_6 ?_
      refine lv_icmp_ge (tgt := 16) hx hb dX1_isClause_9 rfl (fun h2 => ?_) (fun h2 => ?_)
      · refine lv_iconst (v := nI 0) hx hb dX1_isClause_16 (by decide) ?_
        refine lv_nm (y := bI (decide (uN x < q))) (hw_0.trans (congrArg bI (show false = (decide (uN x < q)) by first | exact (decide_eq_true (hw_in (by omega) h1 h2)).symm | exact (decide_eq_false (hw_big (by omega) h2)).symm | exact (decide_eq_false (fun h9 => (hw_pos (n := q) (by omega) h9).1 h1)).symm))) ?_
        exact mk
      · refine lv_iconst (v := nI 1) hx hb dX1_isClause_12 (by decide) ?_
        refine lv_goto (tgt := 17) hx hb dX1_isClause_13 rfl ?_
        refine lv_nm (y := bI (decide (uN x < q))) (hw_1.trans (congrArg bI (show true = (decide (uN x < q)) by first | exact (decide_eq_true (hw_in (by omega) h1 h2)).symm | exact (decide_eq_false (hw_big (by omega) h2)).symm | exact (decide_eq_false (fun h9 => (hw_pos (n := q) (by omega) h9).1 h1)).symm))) ?_
        exact mk
  exact W.zret hx hb hr (bI_nar _) (fun t ht2 _ => ⟨hw_ret (rfl), ht2⟩) (fun _ h => by cases h) dX1_isClause_17

set_option maxHeartbeats 4000000 in
set_option maxRecDepth 100000 in
theorem c_isEves (l : Launch) (D : va_G) (cI cZ : ClassId) (od og ob oe oy oz ot n a q d v : Nat) (Y Z : Nat → Nat) (T : Nat → Int32) (ok : dOk n a q d v Y Z) (x : Int32) : Met l yX1_isEves (kX1_isEves :: aW) { frames := 1, cells := 0, slots := 0, locals := 21 } (rPre [.ref od, .int x] D [(od, .inr (1, [.int (nI n), .int (nI a), .int (nI (2 ^ n - 1 - a)), .ref og, .ref oy, .ref oz, .int (nI q), .int (nI d), .int (nI v), .ref ot])), (og, .inr (0, [.int (nI n), .int (nI a), .ref ob, .ref oe])), (ob, .inl (cI, (2 ^ n), .inl (fun j => nI ((sd_br Y Z q) j)))), (oe, .inl (cZ, (2 * 2 ^ n), .inl (fun j => bI ((sd_ew n a (fun w => sd_br Y Z q w == 0)) j)))), (oy, .inl (cI, 24, .inl (fun j => nI (Y j)))), (oz, .inl (cI, 24, .inl (fun j => nI (Z j)))), (ot, .inl (cI, n, .inl T))] [(cI, .int), (cZ, .boolean)]) (QcRead (bI (decide (uN x < n) && !a.testBit (uN x)))) 0 0 (fun _ => False) := by
  obtain ⟨hn1, hn, ha, h5, hq, hY, hZ, hd, hv⟩ := id ok
  have h2n := hw_p10 hn
  refine Met.ofW (cc := cX1_isEves) (maxL := 2) (ret := (some .boolean)) (by decide) rfl ?_
  intro p e s m args below meth c s₁ Bo hml hpre
  obtain ⟨rfl, hP, hK, hN⟩ := hpre
  have hx := Bo.exec
  have hb := Bo.bytes
  have hr := Bo.returns
  have hts := atoms_spec (ws := kX1_isEves :: aW) Bo.pre
  have ht : ∀ w ∈ aW, w.before _ s = true := fun w h => hts w (List.mem_cons_of_mem _ h)
  have hown : s.vm.findClass RX1 = some m.cls := findClass_of_methodNamed Bo.named
  have hlocks := Bo.notSynchronized
  have hP : va_P D clS [(od, .inr (1, [.int (nI n), .int (nI a), .int (nI (2 ^ n - 1 - a)), .ref og, .ref oy, .ref oz, .int (nI q), .int (nI d), .int (nI v), .ref ot])), (og, .inr (0, [.int (nI n), .int (nI a), .ref ob, .ref oe])), (ob, .inl (cI, (2 ^ n), .inl (fun j => nI ((sd_br Y Z q) j)))), (oe, .inl (cZ, (2 * 2 ^ n), .inl (fun j => bI ((sd_ew n a (fun w => sd_br Y Z q w == 0)) j)))), (oy, .inl (cI, 24, .inl (fun j => nI (Y j)))), (oz, .inl (cI, 24, .inl (fun j => nI (Z j)))), (ot, .inl (cI, n, .inl T))] s.heap := hP
  have hl := lv_entry ([.ref od, .int x]) (n := 2) (Nat.le_of_ble_eq_true rfl)
  rw [lg_entry_eq]
  generalize (lg_sl ([.ref od, .int x]) ++ List.replicate (2 - (lg_sl ([.ref od, .int x])).length) Slot.unset).toArray = ls at hl ⊢
  have hl : lv_has ls 2 [(0, .ref od), (1, .int x)] := hl
  suffices mk : W p l e (headSpec (kX1_isEves :: aW) { frames := 1, cells := 0, slots := 0, locals := 21 }).room s m (([.ref od, .int x] : List Value).toArray) below meth c s.heap [] 0 0 (MQ below (QcRead (bI (decide (uN x < n) && !a.testBit (uN x)))) (([.ref od, .int x] : List Value).toArray) s 0 0 (fun _ => False)) (F0 m 25 ls [.int (bI (decide (uN x < n) && !a.testBit (uN x)))]) by
    refine lv_aload_n hx hb dX1_isEves_0 rfl (lv_at hl 0 rfl) ?_
    refine lv_iload_n hx hb dX1_isEves_1 rfl (lv_at hl 1 rfl) ?_
    refine hw_callR (va_runV (b := od) (As := [.int x]) (rest := []) ⟨hx, hb, hml, hown, ht⟩ (c_isVariable l D cI cZ od og ob oe oy oz ot n a q d v Y Z T ok x) (cwV 1 ht (gV wm_X1_X1_isVariable wi_X1_isVariable ws_X1_isVariable wn_X1 wc_X1_isVariable) rfl rfl rfl (by decide +kernel) ⟨Nat.le_of_ble_eq_true rfl, Nat.le_of_ble_eq_true rfl⟩) (rPre_V 0 hP hK hN rfl rfl) rfl rfl hl.1 rfl (lv_room (Nat.le_of_ble_eq_true rfl)) dX1_isEves_2 ⟨Nat.zero_le _, Nat.zero_le _⟩) ?_
    refine lv_if_eq (tgt := 24) hx hb dX1_isEves_5 rfl (fun h1 => ?_) (fun h1 => ?_)
    · have h1 : (decide (uN x < n)) = false := (bI_eq0 _).mp h1
      refine lv_iconst (v := nI 0) hx hb dX1_isEves_24 (by decide) ?_
      refine lv_nm (y := bI (decide (uN x < n) && !a.testBit (uN x))) (hw_0.trans (congrArg bI (show false = (decide (uN x < n) && !a.testBit (uN x)) by rw [h1]; rfl))) ?_
      exact mk
    · have h1 : (decide (uN x < n)) = true := bI_ne0 h1
      refine lv_aload_n hx hb dX1_isEves_8 rfl (lv_at hl 0 rfl) ?_
      refine va_get (D := D) (ci := 1) (v := .int (nI (2 ^ n - 1 - a))) (C := RX1) (T := TX1) (N := 10) hx hb ht inX1 hown hK hP 0 rfl rfl 2 (by decide) (ht _ wf_X1_eveSet) (fun _ h9 => h9) rfl dX1_isEves_9 ?_
      refine lv_iload_n hx hb dX1_isEves_12 rfl (lv_at hl 1 rfl) ?_
      have hxn : uN x < n := of_decide_eq_true h1
      refine lv_nm (y := nI (uN x)) ((nI_uN x).symm) ?_
      refine hw_callR (va_runS (As := [.int (nI (2 ^ n - 1 - a)), .int (nI (uN x))]) (rest := []) ⟨hx, hb, hml, hown, ht⟩ (c_bitn l D cI cZ (2 ^ n - 1 - a) (uN x) (by omega) (by omega)) (va_cwS 2 ht (gS wm_X1_X1_bit wt_X1_bit wn_X1 wc_X1_bit) rfl rfl rfl (by decide +kernel) ⟨Nat.le_of_ble_eq_true rfl, Nat.le_of_ble_eq_true rfl⟩) (rPre_S (hP.sub [] rfl) hK hN) rfl rfl hl.1 rfl (lv_room (Nat.le_of_ble_eq_true rfl)) dX1_isEves_13 ⟨Nat.zero_le _, Nat.zero_le _⟩) ?_
      refine lv_nm (y := bI (!a.testBit (uN x))) (congrArg bI (sd_ev ha hxn)) ?_
      refine lv_iconst (v := nI 1) hx hb dX1_isEves_16 (by decide) ?_
      refine lv_icmp_ne (tgt := 24) hx hb dX1_isEves_17 rfl (fun h2 => ?_) (fun h2 => ?_)
      · have h2 : (!a.testBit (uN x)) = false := bI_ne1 h2
        refine lv_iconst (v := nI 0) hx hb dX1_isEves_24 (by decide) ?_
        refine lv_nm (y := bI (decide (uN x < n) && !a.testBit (uN x))) (hw_0.trans (congrArg bI (show false = (decide (uN x < n) && !a.testBit (uN x)) by rw [h1, h2]; rfl))) ?_
        exact mk
      · have h2 : (!a.testBit (uN x)) = true := (bI_eq1 _).mp h2
        refine lv_iconst (v := nI 1) hx hb dX1_isEves_20 (by decide) ?_
        refine lv_goto (tgt := 25) hx hb dX1_isEves_21 rfl ?_
        refine lv_nm (y := bI (decide (uN x < n) && !a.testBit (uN x))) (hw_1.trans (congrArg bI (show true = (decide (uN x < n) && !a.testBit (uN x)) by rw [h1, h2]; rfl))) ?_
        exact mk
  exact W.zret hx hb hr (bI_nar _) (fun t ht2 _ => ⟨hw_ret (rfl), ht2⟩) (fun _ h => by cases h) dX1_isEves_25

set_option maxHeartbeats 4000000 in
set_option maxRecDepth 100000 in
theorem c_areSets (l : Launch) (D : va_G) (cI cZ : ClassId) (od og ob oe oy oz ot n a q d v : Nat) (Y Z : Nat → Nat) (T : Nat → Int32) (ok : dOk n a q d v Y Z) (y0 z0 : Int32) : Met l yX1_areSets (kX1_areSets :: aW) { frames := 0, cells := 0, slots := 0, locals := 0 } (rPre [.ref od, .int y0, .int z0] D [(od, .inr (1, [.int (nI n), .int (nI a), .int (nI (2 ^ n - 1 - a)), .ref og, .ref oy, .ref oz, .int (nI q), .int (nI d), .int (nI v), .ref ot])), (og, .inr (0, [.int (nI n), .int (nI a), .ref ob, .ref oe])), (ob, .inl (cI, (2 ^ n), .inl (fun j => nI ((sd_br Y Z q) j)))), (oe, .inl (cZ, (2 * 2 ^ n), .inl (fun j => bI ((sd_ew n a (fun w => sd_br Y Z q w == 0)) j)))), (oy, .inl (cI, 24, .inl (fun j => nI (Y j)))), (oz, .inl (cI, 24, .inl (fun j => nI (Z j)))), (ot, .inl (cI, n, .inl T))] [(cI, .int), (cZ, .boolean)]) (QcRead (bI (decide (uN y0 < 2 ^ n) && decide (uN z0 < 2 ^ n)))) 0 0 (fun _ => False) := by
  obtain ⟨hn1, hn, ha, h5, hq, hY, hZ, hd, hv⟩ := id ok
  have h2n := hw_p10 hn
  refine Met.ofW (cc := cX1_areSets) (maxL := 3) (ret := (some .boolean)) (by decide) rfl ?_
  intro p e s m args below meth c s₁ Bo hml hpre
  obtain ⟨rfl, hP, hK, hN⟩ := hpre
  have hx := Bo.exec
  have hb := Bo.bytes
  have hr := Bo.returns
  have hts := atoms_spec (ws := kX1_areSets :: aW) Bo.pre
  have ht : ∀ w ∈ aW, w.before _ s = true := fun w h => hts w (List.mem_cons_of_mem _ h)
  have hown : s.vm.findClass RX1 = some m.cls := findClass_of_methodNamed Bo.named
  have hlocks := Bo.notSynchronized
  have hP : va_P D clS [(od, .inr (1, [.int (nI n), .int (nI a), .int (nI (2 ^ n - 1 - a)), .ref og, .ref oy, .ref oz, .int (nI q), .int (nI d), .int (nI v), .ref ot])), (og, .inr (0, [.int (nI n), .int (nI a), .ref ob, .ref oe])), (ob, .inl (cI, (2 ^ n), .inl (fun j => nI ((sd_br Y Z q) j)))), (oe, .inl (cZ, (2 * 2 ^ n), .inl (fun j => bI ((sd_ew n a (fun w => sd_br Y Z q w == 0)) j)))), (oy, .inl (cI, 24, .inl (fun j => nI (Y j)))), (oz, .inl (cI, 24, .inl (fun j => nI (Z j)))), (ot, .inl (cI, n, .inl T))] s.heap := hP
  have hl := lv_entry ([.ref od, .int y0, .int z0]) (n := 3) (Nat.le_of_ble_eq_true rfl)
  rw [lg_entry_eq]
  generalize (lg_sl ([.ref od, .int y0, .int z0]) ++ List.replicate (3 - (lg_sl ([.ref od, .int y0, .int z0])).length) Slot.unset).toArray = ls at hl ⊢
  have hl : lv_has ls 3 [(0, .ref od), (1, .int y0), (2, .int z0)] := hl
  refine lv_iload_n hx hb dX1_areSets_0 rfl (lv_at hl 1 rfl) ?_
  refine lv_iload_n hx hb dX1_areSets_1 rfl (lv_at hl 2 rfl) ?_
  refine lv_ior hx hb dX1_areSets_2 ?_
  refine lv_aload_n hx hb dX1_areSets_3 rfl (lv_at hl 0 rfl) ?_
  refine va_get (D := D) (ci := 1) (v := .int (nI n)) (C := RX1) (T := TX1) (N := 10) hx hb ht inX1 hown hK hP 0 rfl rfl 0 (by decide) (ht _ wf_X1_size) (fun _ h9 => h9) rfl dX1_areSets_4 ?_
  refine lv_iushr hx hb dX1_areSets_7 rfl ?_
  refine lv_nm (y := nI (uN (y0 ||| z0) / 2 ^ n)) (hw_ushr _ (by omega)) ?_
  have hdv : uN (y0 ||| z0) / 2 ^ n < 2 ^ 32 := Nat.lt_of_le_of_lt (Nat.div_le_self _ _) (uN_lt _)
  suffices mk : W p l e (headSpec (kX1_areSets :: aW) { frames := 0, cells := 0, slots := 0, locals := 0 }).room s m (([.ref od, .int y0, .int z0] : List Value).toArray) below meth c s.heap [] 0 0 (MQ below (QcRead (bI (decide (uN y0 < 2 ^ n) && decide (uN z0 < 2 ^ n)))) (([.ref od, .int y0, .int z0] : List Value).toArray) s 0 0 (fun _ => False)) (F0 m 16 ls [.int (bI (decide (uN y0 < 2 ^ n) && decide (uN z0 < 2 ^ n)))]) by
    refine lv_if_ne (tgt := 15) hx hb dX1_areSets_8 rfl (fun h1 => ?_) (fun h1 => ?_)
    · have h1 : ¬ uN (y0 ||| z0) / 2 ^ n = 0 := fun h9 => h1 ((nI_z (by omega)).mpr h9)
      refine lv_iconst (v := nI 0) hx hb dX1_areSets_15 (by decide) ?_
      refine lv_nm (y := bI (decide (uN y0 < 2 ^ n) && decide (uN z0 < 2 ^ n))) (hw_0.trans (congrArg bI (show false = (decide (uN y0 < 2 ^ n) && decide (uN z0 < 2 ^ n)) by first | exact hw_set_t h1 | exact hw_set_f h1))) ?_
      exact mk
    · have h1 : uN (y0 ||| z0) / 2 ^ n = 0 := (nI_z (by omega)).mp h1
      refine lv_iconst (v := nI 1) hx hb dX1_areSets_11 (by decide) ?_
      refine lv_goto (tgt := 16) hx hb dX1_areSets_12 rfl ?_
      refine lv_nm (y := bI (decide (uN y0 < 2 ^ n) && decide (uN z0 < 2 ^ n))) (hw_1.trans (congrArg bI (show true = (decide (uN y0 < 2 ^ n) && decide (uN z0 < 2 ^ n)) by first | exact hw_set_t h1 | exact hw_set_f h1))) ?_
      exact mk
  exact W.zret hx hb hr (bI_nar _) (fun t ht2 _ => ⟨hw_ret (rfl), ht2⟩) (fun _ h => by cases h) dX1_areSets_16

set_option maxHeartbeats 4000000 in
set_option maxRecDepth 100000 in
theorem c_sumsBefore (l : Launch) (D : va_G) (cI cZ : ClassId) (od og ob oe oy oz ot n a q d v : Nat) (Y Z : Nat → Nat) (T : Nat → Int32) (ok : dOk n a q d v Y Z) (i : Nat) (hi : i ≤ n) : Met l yX1_sumsBefore (kX1_sumsBefore :: aW) { frames := 1, cells := 0, slots := 0, locals := 20 } (rPre [.ref od, .int (nI i)] D [(od, .inr (1, [.int (nI n), .int (nI a), .int (nI (2 ^ n - 1 - a)), .ref og, .ref oy, .ref oz, .int (nI q), .int (nI d), .int (nI v), .ref ot])), (og, .inr (0, [.int (nI n), .int (nI a), .ref ob, .ref oe])), (ob, .inl (cI, (2 ^ n), .inl (fun j => nI ((sd_br Y Z q) j)))), (oe, .inl (cZ, (2 * 2 ^ n), .inl (fun j => bI ((sd_ew n a (fun w => sd_br Y Z q w == 0)) j)))), (oy, .inl (cI, 24, .inl (fun j => nI (Y j)))), (oz, .inl (cI, 24, .inl (fun j => nI (Z j)))), (ot, .inl (cI, n, .inl T))] [(cI, .int), (cZ, .boolean)]) (QcRead (nI (2 ^ sd_ct a i))) 0 0 (fun _ => False) := by
  obtain ⟨hn1, hn, ha, h5, hq, hY, hZ, hd, hv⟩ := id ok
  have h2n := hw_p10 hn
  refine Met.ofW (cc := cX1_sumsBefore) (maxL := 2) (ret := (some .int)) (by decide) rfl ?_
  intro p e s m args below meth c s₁ Bo hml hpre
  obtain ⟨rfl, hP, hK, hN⟩ := hpre
  have hx := Bo.exec
  have hb := Bo.bytes
  have hr := Bo.returns
  have hts := atoms_spec (ws := kX1_sumsBefore :: aW) Bo.pre
  have ht : ∀ w ∈ aW, w.before _ s = true := fun w h => hts w (List.mem_cons_of_mem _ h)
  have hown : s.vm.findClass RX1 = some m.cls := findClass_of_methodNamed Bo.named
  have hlocks := Bo.notSynchronized
  have hP : va_P D clS [(od, .inr (1, [.int (nI n), .int (nI a), .int (nI (2 ^ n - 1 - a)), .ref og, .ref oy, .ref oz, .int (nI q), .int (nI d), .int (nI v), .ref ot])), (og, .inr (0, [.int (nI n), .int (nI a), .ref ob, .ref oe])), (ob, .inl (cI, (2 ^ n), .inl (fun j => nI ((sd_br Y Z q) j)))), (oe, .inl (cZ, (2 * 2 ^ n), .inl (fun j => bI ((sd_ew n a (fun w => sd_br Y Z q w == 0)) j)))), (oy, .inl (cI, 24, .inl (fun j => nI (Y j)))), (oz, .inl (cI, 24, .inl (fun j => nI (Z j)))), (ot, .inl (cI, n, .inl T))] s.heap := hP
  have hl := lv_entry ([.ref od, .int (nI i)]) (n := 2) (Nat.le_of_ble_eq_true rfl)
  rw [lg_entry_eq]
  generalize (lg_sl ([.ref od, .int (nI i)]) ++ List.replicate (2 - (lg_sl ([.ref od, .int (nI i)])).length) Slot.unset).toArray = ls at hl ⊢
  have hl : lv_has ls 2 [(0, .ref od), (1, .int (nI i))] := hl
  have hpi := Nat.two_pow_pos i
  have hci := sd_ct_mono a hi
  have hil : a % 2 ^ i < 1024 := Nat.lt_of_le_of_lt (Nat.mod_le _ _) (by omega)
  refine lv_iconst (v := nI 1) hx hb dX1_sumsBefore_0 (by decide) ?_
  refine lv_aload_n hx hb dX1_sumsBefore_1 rfl (lv_at hl 0 rfl) ?_
  refine va_get (D := D) (ci := 1) (v := .int (nI a)) (C := RX1) (T := TX1) (N := 10) hx hb ht inX1 hown hK hP 0 rfl rfl 1 (by decide) (ht _ wf_X1_adamSet) (fun _ h9 => h9) rfl dX1_sumsBefore_2 ?_
  refine lv_iconst (v := nI 1) hx hb dX1_sumsBefore_5 (by decide) ?_
  refine lv_iload_n hx hb dX1_sumsBefore_6 rfl (lv_at hl 1 rfl) ?_
  refine lv_ishl hx hb dX1_sumsBefore_7 ?_
  refine lv_nm (y := nI (2 ^ i)) (hw_shl1' (by omega)) ?_
  refine lv_iconst (v := nI 1) hx hb dX1_sumsBefore_8 (by decide) ?_
  refine lv_isub hx hb dX1_sumsBefore_9 ?_
  refine lv_nm (y := nI ((2 ^ i) - 1)) (pk_sub (by omega)) ?_
  refine lv_iand hx hb dX1_sumsBefore_10 ?_
  refine lv_nm (y := nI (a &&& ((2 ^ i) - 1))) (hw_and _ _) ?_
  refine lv_nm (y := nI (a % 2 ^ i)) (congrArg nI (Nat.and_two_pow_sub_one_eq_mod a i)) ?_
  refine hw_callR (va_runS (As := [.int (nI (a % 2 ^ i))]) (rest := [.int (nI 1)]) ⟨hx, hb, hml, hown, ht⟩ (c_bitCount l D cI cZ (a % 2 ^ i) hil) (va_cwS 1 ht (gS wm_X1_J6_bitCount wt_J6_bitCount wn_J6 wc_J6_bitCount) rfl rfl rfl (by decide +kernel) ⟨Nat.le_of_ble_eq_true rfl, Nat.le_of_ble_eq_true rfl⟩) (rPre_S (hP.sub [] rfl) hK hN) rfl rfl hl.1 rfl (lv_room (Nat.le_of_ble_eq_true rfl)) dX1_sumsBefore_11 ⟨Nat.zero_le _, Nat.zero_le _⟩) ?_
  refine lv_nm (y := nI (sd_ct a i)) (congrArg nI (sd_ct_mod (by omega))) ?_
  refine lv_ishl hx hb dX1_sumsBefore_14 ?_
  refine lv_nm (y := nI (2 ^ (sd_ct a i))) (hw_shl1' (by omega)) ?_
  exact W.iret hx hb hr (fun t ht2 _ => ⟨hw_ret (rfl), ht2⟩) (fun _ h => by cases h) dX1_sumsBefore_15

set_option maxHeartbeats 4000000 in
set_option maxRecDepth 100000 in
theorem c_sumBefore (l : Launch) (D : va_G) (cI cZ : ClassId) (od og ob oe oy oz ot n a q d v : Nat) (Y Z : Nat → Nat) (T : Nat → Int32) (ok : dOk n a q d v Y Z) (i sm : Nat) (hi : i ≤ n) : Met l yX1_sumBefore (kX1_sumBefore :: aW) { frames := 2, cells := 0, slots := 0, locals := 41 } (rPre [.ref od, .int (nI i), .int (nI sm)] D [(od, .inr (1, [.int (nI n), .int (nI a), .int (nI (2 ^ n - 1 - a)), .ref og, .ref oy, .ref oz, .int (nI q), .int (nI d), .int (nI v), .ref ot])), (og, .inr (0, [.int (nI n), .int (nI a), .ref ob, .ref oe])), (ob, .inl (cI, (2 ^ n), .inl (fun j => nI ((sd_br Y Z q) j)))), (oe, .inl (cZ, (2 * 2 ^ n), .inl (fun j => bI ((sd_ew n a (fun w => sd_br Y Z q w == 0)) j)))), (oy, .inl (cI, 24, .inl (fun j => nI (Y j)))), (oz, .inl (cI, 24, .inl (fun j => nI (Z j)))), (ot, .inl (cI, n, .inl T))] [(cI, .int), (cZ, .boolean)]) (QcRead (nI (sm % 2 ^ sd_ct a i))) 0 0 (fun _ => False) := by
  obtain ⟨hn1, hn, ha, h5, hq, hY, hZ, hd, hv⟩ := id ok
  have h2n := hw_p10 hn
  refine Met.ofW (cc := cX1_sumBefore) (maxL := 3) (ret := (some .int)) (by decide) rfl ?_
  intro p e s m args below meth c s₁ Bo hml hpre
  obtain ⟨rfl, hP, hK, hN⟩ := hpre
  have hx := Bo.exec
  have hb := Bo.bytes
  have hr := Bo.returns
  have hts := atoms_spec (ws := kX1_sumBefore :: aW) Bo.pre
  have ht : ∀ w ∈ aW, w.before _ s = true := fun w h => hts w (List.mem_cons_of_mem _ h)
  have hown : s.vm.findClass RX1 = some m.cls := findClass_of_methodNamed Bo.named
  have hlocks := Bo.notSynchronized
  have hP : va_P D clS [(od, .inr (1, [.int (nI n), .int (nI a), .int (nI (2 ^ n - 1 - a)), .ref og, .ref oy, .ref oz, .int (nI q), .int (nI d), .int (nI v), .ref ot])), (og, .inr (0, [.int (nI n), .int (nI a), .ref ob, .ref oe])), (ob, .inl (cI, (2 ^ n), .inl (fun j => nI ((sd_br Y Z q) j)))), (oe, .inl (cZ, (2 * 2 ^ n), .inl (fun j => bI ((sd_ew n a (fun w => sd_br Y Z q w == 0)) j)))), (oy, .inl (cI, 24, .inl (fun j => nI (Y j)))), (oz, .inl (cI, 24, .inl (fun j => nI (Z j)))), (ot, .inl (cI, n, .inl T))] s.heap := hP
  have hl := lv_entry ([.ref od, .int (nI i), .int (nI sm)]) (n := 3) (Nat.le_of_ble_eq_true rfl)
  rw [lg_entry_eq]
  generalize (lg_sl ([.ref od, .int (nI i), .int (nI sm)]) ++ List.replicate (3 - (lg_sl ([.ref od, .int (nI i), .int (nI sm)])).length) Slot.unset).toArray = ls at hl ⊢
  have hl : lv_has ls 3 [(0, .ref od), (1, .int (nI i)), (2, .int (nI sm))] := hl
  have hpi := Nat.two_pow_pos (sd_ct a i)
  refine lv_iload_n hx hb dX1_sumBefore_0 rfl (lv_at hl 2 rfl) ?_
  refine lv_aload_n hx hb dX1_sumBefore_1 rfl (lv_at hl 0 rfl) ?_
  refine lv_iload_n hx hb dX1_sumBefore_2 rfl (lv_at hl 1 rfl) ?_
  refine hw_callR (va_runV (b := od) (As := [.int (nI i)]) (rest := [.int (nI sm)]) ⟨hx, hb, hml, hown, ht⟩ (c_sumsBefore l D cI cZ od og ob oe oy oz ot n a q d v Y Z T ok i hi) (cwV 1 ht (gV wm_X1_X1_sumsBefore wi_X1_sumsBefore ws_X1_sumsBefore wn_X1 wc_X1_sumsBefore) rfl rfl rfl (by decide +kernel) ⟨Nat.le_of_ble_eq_true rfl, Nat.le_of_ble_eq_true rfl⟩) (rPre_V 0 hP hK hN rfl rfl) rfl rfl hl.1 rfl (lv_room (Nat.le_of_ble_eq_true rfl)) dX1_sumBefore_3 ⟨Nat.zero_le _, Nat.zero_le _⟩) ?_
  refine lv_iconst (v := nI 1) hx hb dX1_sumBefore_6 (by decide) ?_
  refine lv_isub hx hb dX1_sumBefore_7 ?_
  refine lv_nm (y := nI ((2 ^ sd_ct a i) - 1)) (pk_sub (by omega)) ?_
  refine lv_iand hx hb dX1_sumBefore_8 ?_
  refine lv_nm (y := nI (sm &&& ((2 ^ sd_ct a i) - 1))) (hw_and _ _) ?_
  refine lv_nm (y := nI (sm % 2 ^ sd_ct a i)) (congrArg nI (Nat.and_two_pow_sub_one_eq_mod sm _)) ?_
  exact W.iret hx hb hr (fun t ht2 _ => ⟨hw_ret (rfl), ht2⟩) (fun _ h => by cases h) dX1_sumBefore_9

set_option maxHeartbeats 4000000 in
set_option maxRecDepth 100000 in
theorem c_wins (l : Launch) (D : va_G) (cI cZ : ClassId) (od og ob oe oy oz ot n a q d v : Nat) (Y Z : Nat → Nat) (T : Nat → Int32) (ok : dOk n a q d v Y Z) : Met l yX1_wins (kX1_wins :: aW) { frames := 1, cells := 0, slots := 0, locals := 22 } (rPre [.ref od] D [(od, .inr (1, [.int (nI n), .int (nI a), .int (nI (2 ^ n - 1 - a)), .ref og, .ref oy, .ref oz, .int (nI q), .int (nI d), .int (nI v), .ref ot])), (og, .inr (0, [.int (nI n), .int (nI a), .ref ob, .ref oe])), (ob, .inl (cI, (2 ^ n), .inl (fun j => nI ((sd_br Y Z q) j)))), (oe, .inl (cZ, (2 * 2 ^ n), .inl (fun j => bI ((sd_ew n a (fun w => sd_br Y Z q w == 0)) j)))), (oy, .inl (cI, 24, .inl (fun j => nI (Y j)))), (oz, .inl (cI, 24, .inl (fun j => nI (Z j)))), (ot, .inl (cI, n, .inl T))] [(cI, .int), (cZ, .boolean)]) (QcRead (bI (sd_E n a (fun w => sd_br Y Z q w == 0) d v))) 0 0 (fun _ => False) := by
  obtain ⟨hn1, hn, ha, h5, hq, hY, hZ, hd, hv⟩ := id ok
  have h2n := hw_p10 hn
  refine Met.ofW (cc := cX1_wins) (maxL := 1) (ret := (some .boolean)) (by decide) rfl ?_
  intro p e s m args below meth c s₁ Bo hml hpre
  obtain ⟨rfl, hP, hK, hN⟩ := hpre
  have hx := Bo.exec
  have hb := Bo.bytes
  have hr := Bo.returns
  have hts := atoms_spec (ws := kX1_wins :: aW) Bo.pre
  have ht : ∀ w ∈ aW, w.before _ s = true := fun w h => hts w (List.mem_cons_of_mem _ h)
  have hown : s.vm.findClass RX1 = some m.cls := findClass_of_methodNamed Bo.named
  have hlocks := Bo.notSynchronized
  have hP : va_P D clS [(od, .inr (1, [.int (nI n), .int (nI a), .int (nI (2 ^ n - 1 - a)), .ref og, .ref oy, .ref oz, .int (nI q), .int (nI d), .int (nI v), .ref ot])), (og, .inr (0, [.int (nI n), .int (nI a), .ref ob, .ref oe])), (ob, .inl (cI, (2 ^ n), .inl (fun j => nI ((sd_br Y Z q) j)))), (oe, .inl (cZ, (2 * 2 ^ n), .inl (fun j => bI ((sd_ew n a (fun w => sd_br Y Z q w == 0)) j)))), (oy, .inl (cI, 24, .inl (fun j => nI (Y j)))), (oz, .inl (cI, 24, .inl (fun j => nI (Z j)))), (ot, .inl (cI, n, .inl T))] s.heap := hP
  have hl := lv_entry ([.ref od]) (n := 1) (Nat.le_of_ble_eq_true rfl)
  rw [lg_entry_eq]
  generalize (lg_sl ([.ref od]) ++ List.replicate (1 - (lg_sl ([.ref od])).length) Slot.unset).toArray = ls at hl ⊢
  have hl : lv_has ls 1 [(0, .ref od)] := hl
  have hdn : 2 ^ d ≤ 2 ^ n := Nat.pow_le_pow_right (by decide) hd
  refine lv_aload_n hx hb dX1_wins_0 rfl (lv_at hl 0 rfl) ?_
  refine va_get (D := D) (ci := 1) (v := .ref og) (C := RX1) (T := TX1) (N := 10) hx hb ht inX1 hown hK hP 0 rfl rfl 3 (by decide) (ht _ wf_X1_game) (fun _ h9 => h9) rfl dX1_wins_1 ?_
  refine lv_aload_n hx hb dX1_wins_4 rfl (lv_at hl 0 rfl) ?_
  refine va_get (D := D) (ci := 1) (v := .int (nI d)) (C := RX1) (T := TX1) (N := 10) hx hb ht inX1 hown hK hP 0 rfl rfl 7 (by decide) (ht _ wf_X1_playDepth) (fun _ h9 => h9) rfl dX1_wins_5 ?_
  refine lv_aload_n hx hb dX1_wins_8 rfl (lv_at hl 0 rfl) ?_
  refine va_get (D := D) (ci := 1) (v := .int (nI v)) (C := RX1) (T := TX1) (N := 10) hx hb ht inX1 hown hK hP 0 rfl rfl 8 (by decide) (ht _ wf_X1_playValues) (fun _ h9 => h9) rfl dX1_wins_9 ?_
  refine hw_callR (va_runV (b := og) (As := [.int (nI d), .int (nI v)]) (rest := []) ⟨hx, hb, hml, hown, ht⟩ (c_eveWinsAt l D cI cZ og ob oe n a d v (sd_br Y Z q) (sd_ew n a (fun w => sd_br Y Z q w == 0)) hn (by omega) (by omega)) (cwV 2 ht (gV wm_X1_X0_eveWinsAt wi_X0_eveWinsAt ws_X0_eveWinsAt wn_X0 wc_X0_eveWinsAt) rfl rfl rfl (by decide +kernel) ⟨Nat.le_of_ble_eq_true rfl, Nat.le_of_ble_eq_true rfl⟩) (rPre_V 0 (hP.sub [1, 2, 3] rfl) hK hN rfl rfl) rfl rfl hl.1 rfl (lv_room (Nat.le_of_ble_eq_true rfl)) dX1_wins_12 ⟨Nat.zero_le _, Nat.zero_le _⟩) ?_
  refine lv_nm (y := bI (sd_E n a (fun w => sd_br Y Z q w == 0) d v)) (congrArg bI (sd_ew_at hv)) ?_
  exact W.zret hx hb hr (bI_nar _) (fun t ht2 _ => ⟨hw_ret (rfl), ht2⟩) (fun _ h => by cases h) dX1_wins_15

set_option maxHeartbeats 4000000 in
set_option maxRecDepth 100000 in
theorem c_best (l : Launch) (D : va_G) (cI cZ : ClassId) (od og ob oe oy oz ot n a q d v : Nat) (Y Z : Nat → Nat) (T : Nat → Int32) (ok : dOk n a q d v Y Z) : Met l yX1_best (kX1_best :: aW) { frames := 2, cells := 0, slots := 0, locals := 47 } (rPre [.ref od] D [(od, .inr (1, [.int (nI n), .int (nI a), .int (nI (2 ^ n - 1 - a)), .ref og, .ref oy, .ref oz, .int (nI q), .int (nI d), .int (nI v), .ref ot])), (og, .inr (0, [.int (nI n), .int (nI a), .ref ob, .ref oe])), (ob, .inl (cI, (2 ^ n), .inl (fun j => nI ((sd_br Y Z q) j)))), (oe, .inl (cZ, (2 * 2 ^ n), .inl (fun j => bI ((sd_ew n a (fun w => sd_br Y Z q w == 0)) j)))), (oy, .inl (cI, 24, .inl (fun j => nI (Y j)))), (oz, .inl (cI, 24, .inl (fun j => nI (Z j)))), (ot, .inl (cI, n, .inl T))] [(cI, .int), (cZ, .boolean)]) (QcRead (if d < n then bI (sd_bm n a (fun w => sd_br Y Z q w == 0) d v) else -1)) 0 0 (fun _ => False) := by
  obtain ⟨hn1, hn, ha, h5, hq, hY, hZ, hd, hv⟩ := id ok
  have h2n := hw_p10 hn
  refine Met.ofW (cc := cX1_best) (maxL := 1) (ret := (some .int)) (by decide) rfl ?_
  intro p e s m args below meth c s₁ Bo hml hpre
  obtain ⟨rfl, hP, hK, hN⟩ := hpre
  have hx := Bo.exec
  have hb := Bo.bytes
  have hr := Bo.returns
  have hts := atoms_spec (ws := kX1_best :: aW) Bo.pre
  have ht : ∀ w ∈ aW, w.before _ s = true := fun w h => hts w (List.mem_cons_of_mem _ h)
  have hown : s.vm.findClass RX1 = some m.cls := findClass_of_methodNamed Bo.named
  have hlocks := Bo.notSynchronized
  have hP : va_P D clS [(od, .inr (1, [.int (nI n), .int (nI a), .int (nI (2 ^ n - 1 - a)), .ref og, .ref oy, .ref oz, .int (nI q), .int (nI d), .int (nI v), .ref ot])), (og, .inr (0, [.int (nI n), .int (nI a), .ref ob, .ref oe])), (ob, .inl (cI, (2 ^ n), .inl (fun j => nI ((sd_br Y Z q) j)))), (oe, .inl (cZ, (2 * 2 ^ n), .inl (fun j => bI ((sd_ew n a (fun w => sd_br Y Z q w == 0)) j)))), (oy, .inl (cI, 24, .inl (fun j => nI (Y j)))), (oz, .inl (cI, 24, .inl (fun j => nI (Z j)))), (ot, .inl (cI, n, .inl T))] s.heap := hP
  have hl := lv_entry ([.ref od]) (n := 1) (Nat.le_of_ble_eq_true rfl)
  rw [lg_entry_eq]
  generalize (lg_sl ([.ref od]) ++ List.replicate (1 - (lg_sl ([.ref od])).length) Slot.unset).toArray = ls at hl ⊢
  have hl : lv_has ls 1 [(0, .ref od)] := hl
  refine lv_aload_n hx hb dX1_best_0 rfl (lv_at hl 0 rfl) ?_
  refine va_get (D := D) (ci := 1) (v := .int (nI d)) (C := RX1) (T := TX1) (N := 10) hx hb ht inX1 hown hK hP 0 rfl rfl 7 (by decide) (ht _ wf_X1_playDepth) (fun _ h9 => h9) rfl dX1_best_1 ?_
  refine lv_aload_n hx hb dX1_best_4 rfl (lv_at hl 0 rfl) ?_
  refine va_get (D := D) (ci := 1) (v := .int (nI n)) (C := RX1) (T := TX1) (N := 10) hx hb ht inX1 hown hK hP 0 rfl rfl 0 (by decide) (ht _ wf_X1_size) (fun _ h9 => h9) rfl dX1_best_5 ?_
  refine lv_icmp_lt (tgt := 15) hx hb dX1_best_8 rfl (fun hc => ?_) (fun hc => ?_)
  · have hc : d < n := (nI_ltI (by omega) (by omega)).mp hc
    refine lv_aload_n hx hb dX1_best_15 rfl (lv_at hl 0 rfl) ?_
    refine va_get (D := D) (ci := 1) (v := .ref og) (C := RX1) (T := TX1) (N := 10) hx hb ht inX1 hown hK hP 0 rfl rfl 3 (by decide) (ht _ wf_X1_game) (fun _ h9 => h9) rfl dX1_best_16 ?_
    refine lv_aload_n hx hb dX1_best_19 rfl (lv_at hl 0 rfl) ?_
    refine va_get (D := D) (ci := 1) (v := .int (nI d)) (C := RX1) (T := TX1) (N := 10) hx hb ht inX1 hown hK hP 0 rfl rfl 7 (by decide) (ht _ wf_X1_playDepth) (fun _ h9 => h9) rfl dX1_best_20 ?_
    refine lv_aload_n hx hb dX1_best_23 rfl (lv_at hl 0 rfl) ?_
    refine va_get (D := D) (ci := 1) (v := .int (nI v)) (C := RX1) (T := TX1) (N := 10) hx hb ht inX1 hown hK hP 0 rfl rfl 8 (by decide) (ht _ wf_X1_playValues) (fun _ h9 => h9) rfl dX1_best_24 ?_
    refine hw_callR (va_runV (b := og) (As := [.int (nI d), .int (nI v)]) (rest := []) ⟨hx, hb, hml, hown, ht⟩ (c_bestMove l D cI cZ og ob oe n a d v (sd_br Y Z q) (fun w => sd_br Y Z q w == 0) hn ha (by omega) hv) (cwV 2 ht (gV wm_X1_X0_bestMove wi_X0_bestMove ws_X0_bestMove wn_X0 wc_X0_bestMove) rfl rfl rfl (by decide +kernel) ⟨Nat.le_of_ble_eq_true rfl, Nat.le_of_ble_eq_true rfl⟩) (rPre_V 0 (hP.sub [1, 2, 3] rfl) hK hN rfl rfl) rfl rfl hl.1 rfl (lv_room (Nat.le_of_ble_eq_true rfl)) dX1_best_27 ⟨Nat.zero_le _, Nat.zero_le _⟩) ?_
    exact W.iret hx hb hr (fun t ht2 _ => ⟨hw_ret ((if_pos (by omega)).symm), ht2⟩) (fun _ h => by cases h) dX1_best_30
  · have hc : ¬ (d < n) := fun h9 => hc ((nI_ltI (by omega) (by omega)).mpr h9)
    refine lv_iconst (v := (-1)) hx hb dX1_best_11 (by decide) ?_
    refine lv_goto (tgt := 30) hx hb dX1_best_12 rfl ?_
    exact W.iret hx hb hr (fun t ht2 _ => ⟨hw_ret ((if_neg (by omega)).symm), ht2⟩) (fun _ h => by cases h) dX1_best_30

set_option maxHeartbeats 4000000 in
set_option maxRecDepth 100000 in
theorem c_valuesWithBest (l : Launch) (D : va_G) (cI cZ : ClassId) (od og ob oe oy oz ot n a q d v : Nat) (Y Z : Nat → Nat) (T : Nat → Int32) (ok : dOk n a q d v Y Z) (mv : Nat) (td : Int32) (hmv : mv < 2 ^ 32) : Met l yX1_valuesWithBest (kX1_valuesWithBest :: aW) { frames := 2, cells := 0, slots := 0, locals := 47 } (rPre [.ref od, .int (nI mv), .int td] D [(od, .inr (1, [.int (nI n), .int (nI a), .int (nI (2 ^ n - 1 - a)), .ref og, .ref oy, .ref oz, .int (nI q), .int (nI d), .int (nI v), .ref ot])), (og, .inr (0, [.int (nI n), .int (nI a), .ref ob, .ref oe])), (ob, .inl (cI, (2 ^ n), .inl (fun j => nI ((sd_br Y Z q) j)))), (oe, .inl (cZ, (2 * 2 ^ n), .inl (fun j => bI ((sd_ew n a (fun w => sd_br Y Z q w == 0)) j)))), (oy, .inl (cI, 24, .inl (fun j => nI (Y j)))), (oz, .inl (cI, 24, .inl (fun j => nI (Z j)))), (ot, .inl (cI, n, .inl T))] [(cI, .int), (cZ, .boolean)]) (QcRead (nI (sd_ac (sd_vb n a (fun w => sd_br Y Z q w == 0) mv (uN td)) n))) 0 0 (fun _ => False) := by
  obtain ⟨hn1, hn, ha, h5, hq, hY, hZ, hd, hv⟩ := id ok
  have h2n := hw_p10 hn
  refine Met.ofW (cc := cX1_valuesWithBest) (maxL := 6) (ret := (some .int)) (by decide) rfl ?_
  intro p e s m args below meth c s₁ Bo hml hpre
  obtain ⟨rfl, hP, hK, hN⟩ := hpre
  have hx := Bo.exec
  have hb := Bo.bytes
  have hr := Bo.returns
  have hts := atoms_spec (ws := kX1_valuesWithBest :: aW) Bo.pre
  have ht : ∀ w ∈ aW, w.before _ s = true := fun w h => hts w (List.mem_cons_of_mem _ h)
  have hown : s.vm.findClass RX1 = some m.cls := findClass_of_methodNamed Bo.named
  have hlocks := Bo.notSynchronized
  have hP : va_P D clS [(od, .inr (1, [.int (nI n), .int (nI a), .int (nI (2 ^ n - 1 - a)), .ref og, .ref oy, .ref oz, .int (nI q), .int (nI d), .int (nI v), .ref ot])), (og, .inr (0, [.int (nI n), .int (nI a), .ref ob, .ref oe])), (ob, .inl (cI, (2 ^ n), .inl (fun j => nI ((sd_br Y Z q) j)))), (oe, .inl (cZ, (2 * 2 ^ n), .inl (fun j => bI ((sd_ew n a (fun w => sd_br Y Z q w == 0)) j)))), (oy, .inl (cI, 24, .inl (fun j => nI (Y j)))), (oz, .inl (cI, 24, .inl (fun j => nI (Z j)))), (ot, .inl (cI, n, .inl T))] s.heap := hP
  have hl := lv_entry ([.ref od, .int (nI mv), .int td]) (n := 6) (Nat.le_of_ble_eq_true rfl)
  rw [lg_entry_eq]
  generalize (lg_sl ([.ref od, .int (nI mv), .int td]) ++ List.replicate (6 - (lg_sl ([.ref od, .int (nI mv), .int td])).length) Slot.unset).toArray = ls at hl ⊢
  have hl : lv_has ls 6 [(0, .ref od), (1, .int (nI mv)), (2, .int td)] := hl
  refine lv_iconst (v := nI 0) hx hb dX1_valuesWithBest_0 (by decide) ?_
  refine lv_istore_n hx hb dX1_valuesWithBest_1 rfl hl (by decide) rfl (fun ls hl => ?_)
  have hl : lv_has ls 6 [(3, .int (nI 0)), (0, .ref od), (1, .int (nI mv)), (2, .int td)] := hl
  refine lv_iconst (v := nI 0) hx hb dX1_valuesWithBest_2 (by decide) ?_
  refine lv_istore hx hb dX1_valuesWithBest_3 hl (by decide) rfl (fun ls hl => ?_)
  have hl : lv_has ls 6 [(4, .int (nI 0)), (3, .int (nI 0)), (0, .ref od), (1, .int (nI mv)), (2, .int td)] := hl
  have hl : lv_has ls 6 [(0, .ref od), (1, .int (nI mv)), (2, .int td), (3, .int (nI 0)), (4, .int (nI 0))] := lv_sub hl [2, 3, 4, 1, 0] rfl
  suffices lp : ∀ k : Nat, ∀ (i : Nat) (ls : Array Slot), (i + k = n) → lv_has ls 6 [(0, .ref od), (1, .int (nI mv)), (2, .int td), (3, .int (nI (sd_ac (sd_vb n a (fun w => sd_br Y Z q w == 0) mv (uN td)) i))), (4, .int (nI i))] → W p l e (headSpec (kX1_valuesWithBest :: aW) { frames := 2, cells := 0, slots := 0, locals := 47 }).room s m (([.ref od, .int (nI mv), .int td] : List Value).toArray) below meth c s.heap [] 0 0 (MQ below (QcRead (nI (sd_ac (sd_vb n a (fun w => sd_br Y Z q w == 0) mv (uN td)) n))) (([.ref od, .int (nI mv), .int td] : List Value).toArray) s 0 0 (fun _ => False)) (F0 m 5 ls []) by
    exact lp n 0 ls (by omega) hl
  intro k
  induction k with
  | zero =>
    intro i ls hi hl
    refine lv_iload hx hb dX1_valuesWithBest_5 (lv_at hl 4 rfl) ?_
    refine lv_aload_n hx hb dX1_valuesWithBest_7 rfl (lv_at hl 0 rfl) ?_
    refine va_get (D := D) (ci := 1) (v := .int (nI n)) (C := RX1) (T := TX1) (N := 10) hx hb ht inX1 hown hK hP 0 rfl rfl 0 (by decide) (ht _ wf_X1_size) (fun _ h9 => h9) rfl dX1_valuesWithBest_8 ?_
    refine lv_icmp_ge (tgt := 59) hx hb dX1_valuesWithBest_11 rfl (fun _ => ?_) (fun hc => absurd (show ¬ (n ≤ i) from fun h9 => hc ((nI_leI (by omega) (by omega)).mpr h9)) (by omega))
    refine lv_iload_n hx hb dX1_valuesWithBest_59 rfl (lv_at hl 3 rfl) ?_
    exact W.iret hx hb hr (fun t ht2 _ => ⟨hw_ret (by rw [show i = n by omega]), ht2⟩) (fun _ h => by cases h) dX1_valuesWithBest_60
  | succ k ih =>
    intro i ls hi hl
    have hac := sd_ac_lt (sd_vb n a (fun w => sd_br Y Z q w == 0) mv (uN td)) i
    have h2i : 2 ^ i ≤ 2 ^ n := Nat.pow_le_pow_right (by decide) (by omega)
    refine lv_iload hx hb dX1_valuesWithBest_5 (lv_at hl 4 rfl) ?_
    refine lv_aload_n hx hb dX1_valuesWithBest_7 rfl (lv_at hl 0 rfl) ?_
    refine va_get (D := D) (ci := 1) (v := .int (nI n)) (C := RX1) (T := TX1) (N := 10) hx hb ht inX1 hown hK hP 0 rfl rfl 0 (by decide) (ht _ wf_X1_size) (fun _ h9 => h9) rfl dX1_valuesWithBest_8 ?_
    refine lv_icmp_ge (tgt := 59) hx hb dX1_valuesWithBest_11 rfl (fun hc => absurd (show n ≤ i from (nI_leI (by omega) (by omega)).mp hc) (by omega)) (fun _ => ?_)
    refine lv_iload_n hx hb dX1_valuesWithBest_14 rfl (lv_at hl 1 rfl) ?_
    refine lv_iload hx hb dX1_valuesWithBest_15 (lv_at hl 4 rfl) ?_
    refine hw_callR (va_runS (As := [.int (nI mv), .int (nI i)]) (rest := []) ⟨hx, hb, hml, hown, ht⟩ (c_bitn l D cI cZ mv i hmv (by omega)) (va_cwS 2 ht (gS wm_X1_X1_bit wt_X1_bit wn_X1 wc_X1_bit) rfl rfl rfl (by decide +kernel) ⟨Nat.le_of_ble_eq_true rfl, Nat.le_of_ble_eq_true rfl⟩) (rPre_S (hP.sub [] rfl) hK hN) rfl rfl hl.1 rfl (lv_room (Nat.le_of_ble_eq_true rfl)) dX1_valuesWithBest_17 ⟨Nat.zero_le _, Nat.zero_le _⟩) ?_
    refine lv_iconst (v := nI 1) hx hb dX1_valuesWithBest_20 (by decide) ?_
    suffices mk : W p l e (headSpec (kX1_valuesWithBest :: aW) { frames := 2, cells := 0, slots := 0, locals := 47 }).room s m (([.ref od, .int (nI mv), .int td] : List Value).toArray) below meth c s.heap [] 0 0 (MQ below (QcRead (nI (sd_ac (sd_vb n a (fun w => sd_br Y Z q w == 0) mv (uN td)) n))) (([.ref od, .int (nI mv), .int td] : List Value).toArray) s 0 0 (fun _ => False)) (F0 m 43 ls [.int (bI (sd_vb n a (fun w => sd_br Y Z q w == 0) mv (uN td) i (sd_ac (sd_vb n a (fun w => sd_br Y Z q w == 0) mv (uN td)) i)))]) by
      refine lv_icmp_ne (tgt := 37) hx hb dX1_valuesWithBest_21 rfl (fun h1 => ?_) (fun h1 => ?_)
      · have h1 : (mv.testBit i) = false := bI_ne1 h1
        refine lv_iload_n hx hb dX1_valuesWithBest_37 rfl (lv_at hl 2 rfl) ?_
        refine lv_iload hx hb dX1_valuesWithBest_38 (lv_at hl 4 rfl) ?_
        refine hw_callR (va_runS (As := [.int td, .int (nI i)]) (rest := []) ⟨hx, hb, hml, hown, ht⟩ (c_bit l D cI cZ td i (by omega)) (va_cwS 2 ht (gS wm_X1_X1_bit wt_X1_bit wn_X1 wc_X1_bit) rfl rfl rfl (by decide +kernel) ⟨Nat.le_of_ble_eq_true rfl, Nat.le_of_ble_eq_true rfl⟩) (rPre_S (hP.sub [] rfl) hK hN) rfl rfl hl.1 rfl (lv_room (Nat.le_of_ble_eq_true rfl)) dX1_valuesWithBest_40 ⟨Nat.zero_le _, Nat.zero_le _⟩) ?_
        refine lv_nm (y := bI (sd_vb n a (fun w => sd_br Y Z q w == 0) mv (uN td) i (sd_ac (sd_vb n a (fun w => sd_br Y Z q w == 0) mv (uN td)) i))) (congrArg bI (if_neg (by rw [h1]; decide)).symm) ?_
        exact mk
      · have h1 : (mv.testBit i) = true := (bI_eq1 _).mp h1
        refine lv_aload_n hx hb dX1_valuesWithBest_24 rfl (lv_at hl 0 rfl) ?_
        refine va_get (D := D) (ci := 1) (v := .ref og) (C := RX1) (T := TX1) (N := 10) hx hb ht inX1 hown hK hP 0 rfl rfl 3 (by decide) (ht _ wf_X1_game) (fun _ h9 => h9) rfl dX1_valuesWithBest_25 ?_
        refine lv_iload hx hb dX1_valuesWithBest_28 (lv_at hl 4 rfl) ?_
        refine lv_iload_n hx hb dX1_valuesWithBest_30 rfl (lv_at hl 3 rfl) ?_
        refine hw_callR (va_runV (b := og) (As := [.int (nI i), .int (nI (sd_ac (sd_vb n a (fun w => sd_br Y Z q w == 0) mv (uN td)) i))]) (rest := []) ⟨hx, hb, hml, hown, ht⟩ (c_bestMove l D cI cZ og ob oe n a i (sd_ac (sd_vb n a (fun w => sd_br Y Z q w == 0) mv (uN td)) i) (sd_br Y Z q) (fun w => sd_br Y Z q w == 0) hn ha (by omega) hac) (cwV 2 ht (gV wm_X1_X0_bestMove wi_X0_bestMove ws_X0_bestMove wn_X0 wc_X0_bestMove) rfl rfl rfl (by decide +kernel) ⟨Nat.le_of_ble_eq_true rfl, Nat.le_of_ble_eq_true rfl⟩) (rPre_V 0 (hP.sub [1, 2, 3] rfl) hK hN rfl rfl) rfl rfl hl.1 rfl (lv_room (Nat.le_of_ble_eq_true rfl)) dX1_valuesWithBest_31 ⟨Nat.zero_le _, Nat.zero_le _⟩) ?_
        refine lv_nm (y := bI (sd_vb n a (fun w => sd_br Y Z q w == 0) mv (uN td) i (sd_ac (sd_vb n a (fun w => sd_br Y Z q w == 0) mv (uN td)) i))) (congrArg bI (if_pos h1).symm) ?_
        refine lv_goto (tgt := 43) hx hb dX1_valuesWithBest_34 rfl ?_
        exact mk
    refine lv_istore hx hb dX1_valuesWithBest_43 hl (by decide) rfl (fun ls hl => ?_)
    have hl : lv_has ls 6 [(5, .int (bI (sd_vb n a (fun w => sd_br Y Z q w == 0) mv (uN td) i (sd_ac (sd_vb n a (fun w => sd_br Y Z q w == 0) mv (uN td)) i)))), (0, .ref od), (1, .int (nI mv)), (2, .int td), (3, .int (nI (sd_ac (sd_vb n a (fun w => sd_br Y Z q w == 0) mv (uN td)) i))), (4, .int (nI i))] := hl
    refine lv_iload_n hx hb dX1_valuesWithBest_45 rfl (lv_at hl 4 rfl) ?_
    refine lv_iload hx hb dX1_valuesWithBest_46 (lv_at hl 0 rfl) ?_
    refine lv_iload hx hb dX1_valuesWithBest_48 (lv_at hl 5 rfl) ?_
    refine lv_ishl hx hb dX1_valuesWithBest_50 ?_
    refine lv_nm (y := nI ((sd_vb n a (fun w => sd_br Y Z q w == 0) mv (uN td) i (sd_ac (sd_vb n a (fun w => sd_br Y Z q w == 0) mv (uN td)) i)).toNat * 2 ^ i)) (hw_bshl _ (by omega)) ?_
    refine lv_ior hx hb dX1_valuesWithBest_51 ?_
    refine lv_nm (y := nI ((sd_ac (sd_vb n a (fun w => sd_br Y Z q w == 0) mv (uN td)) i) ||| ((sd_vb n a (fun w => sd_br Y Z q w == 0) mv (uN td) i (sd_ac (sd_vb n a (fun w => sd_br Y Z q w == 0) mv (uN td)) i)).toNat * 2 ^ i))) (hw_or _ _) ?_
    refine lv_nm (y := nI (sd_ac (sd_vb n a (fun w => sd_br Y Z q w == 0) mv (uN td)) (i + 1))) (congrArg nI (hw_orb (sd_ac_hi _ (Nat.le_refl i)) _)) ?_
    refine lv_istore_n hx hb dX1_valuesWithBest_52 rfl hl (by decide) rfl (fun ls hl => ?_)
    have hl : lv_has ls 6 [(3, .int (nI (sd_ac (sd_vb n a (fun w => sd_br Y Z q w == 0) mv (uN td)) (i + 1)))), (5, .int (bI (sd_vb n a (fun w => sd_br Y Z q w == 0) mv (uN td) i (sd_ac (sd_vb n a (fun w => sd_br Y Z q w == 0) mv (uN td)) i)))), (0, .ref od), (1, .int (nI mv)), (2, .int td), (4, .int (nI i))] := hl
    refine lv_iinc (k := 5) (v := nI (i + 1)) hx hb dX1_valuesWithBest_53 hl rfl (hw_inc _) (by decide) rfl (fun ls hl => ?_)
    have hl : lv_has ls 6 [(4, .int (nI (i + 1))), (3, .int (nI (sd_ac (sd_vb n a (fun w => sd_br Y Z q w == 0) mv (uN td)) (i + 1)))), (5, .int (bI (sd_vb n a (fun w => sd_br Y Z q w == 0) mv (uN td) i (sd_ac (sd_vb n a (fun w => sd_br Y Z q w == 0) mv (uN td)) i)))), (0, .ref od), (1, .int (nI mv)), (2, .int td)] := hl
    refine lv_goto (tgt := 5) hx hb dX1_valuesWithBest_56 rfl ?_
    have hl : lv_has ls 6 [(0, .ref od), (1, .int (nI mv)), (2, .int td), (3, .int (nI (sd_ac (sd_vb n a (fun w => sd_br Y Z q w == 0) mv (uN td)) (i + 1)))), (4, .int (nI (i + 1)))] := lv_sub hl [3, 4, 5, 1, 0] rfl
    exact ih (i + 1) ls (by omega) hl

set_option maxHeartbeats 4000000 in
set_option maxRecDepth 100000 in
theorem c_adamValues (l : Launch) (D : va_G) (cI cZ : ClassId) (od og ob oe oy oz ot n a q d v : Nat) (Y Z : Nat → Nat) (T : Nat → Int32) (ok : dOk n a q d v Y Z) (sm : Nat) (hsm : sm < 32) : Met l yX1_adamValues (kX1_adamValues :: aW) { frames := 1, cells := 0, slots := 0, locals := 21 } (rPre [.ref od, .int (nI sm)] D [(od, .inr (1, [.int (nI n), .int (nI a), .int (nI (2 ^ n - 1 - a)), .ref og, .ref oy, .ref oz, .int (nI q), .int (nI d), .int (nI v), .ref ot])), (og, .inr (0, [.int (nI n), .int (nI a), .ref ob, .ref oe])), (ob, .inl (cI, (2 ^ n), .inl (fun j => nI ((sd_br Y Z q) j)))), (oe, .inl (cZ, (2 * 2 ^ n), .inl (fun j => bI ((sd_ew n a (fun w => sd_br Y Z q w == 0)) j)))), (oy, .inl (cI, 24, .inl (fun j => nI (Y j)))), (oz, .inl (cI, 24, .inl (fun j => nI (Z j)))), (ot, .inl (cI, n, .inl T))] [(cI, .int), (cZ, .boolean)]) (QcRead (nI (sd_ac (sd_li a (fun _ _ => false) sm) n))) 0 0 (fun _ => False) := by
  obtain ⟨hn1, hn, ha, h5, hq, hY, hZ, hd, hv⟩ := id ok
  have h2n := hw_p10 hn
  refine Met.ofW (cc := cX1_adamValues) (maxL := 5) (ret := (some .int)) (by decide) rfl ?_
  intro p e s m args below meth c s₁ Bo hml hpre
  obtain ⟨rfl, hP, hK, hN⟩ := hpre
  have hx := Bo.exec
  have hb := Bo.bytes
  have hr := Bo.returns
  have hts := atoms_spec (ws := kX1_adamValues :: aW) Bo.pre
  have ht : ∀ w ∈ aW, w.before _ s = true := fun w h => hts w (List.mem_cons_of_mem _ h)
  have hown : s.vm.findClass RX1 = some m.cls := findClass_of_methodNamed Bo.named
  have hlocks := Bo.notSynchronized
  have hP : va_P D clS [(od, .inr (1, [.int (nI n), .int (nI a), .int (nI (2 ^ n - 1 - a)), .ref og, .ref oy, .ref oz, .int (nI q), .int (nI d), .int (nI v), .ref ot])), (og, .inr (0, [.int (nI n), .int (nI a), .ref ob, .ref oe])), (ob, .inl (cI, (2 ^ n), .inl (fun j => nI ((sd_br Y Z q) j)))), (oe, .inl (cZ, (2 * 2 ^ n), .inl (fun j => bI ((sd_ew n a (fun w => sd_br Y Z q w == 0)) j)))), (oy, .inl (cI, 24, .inl (fun j => nI (Y j)))), (oz, .inl (cI, 24, .inl (fun j => nI (Z j)))), (ot, .inl (cI, n, .inl T))] s.heap := hP
  have hl := lv_entry ([.ref od, .int (nI sm)]) (n := 5) (Nat.le_of_ble_eq_true rfl)
  rw [lg_entry_eq]
  generalize (lg_sl ([.ref od, .int (nI sm)]) ++ List.replicate (5 - (lg_sl ([.ref od, .int (nI sm)])).length) Slot.unset).toArray = ls at hl ⊢
  have hl : lv_has ls 5 [(0, .ref od), (1, .int (nI sm))] := hl
  refine lv_iconst (v := nI 0) hx hb dX1_adamValues_0 (by decide) ?_
  refine lv_istore_n hx hb dX1_adamValues_1 rfl hl (by decide) rfl (fun ls hl => ?_)
  have hl : lv_has ls 5 [(2, .int (nI 0)), (0, .ref od), (1, .int (nI sm))] := hl
  refine lv_iconst (v := nI 0) hx hb dX1_adamValues_2 (by decide) ?_
  refine lv_istore_n hx hb dX1_adamValues_3 rfl hl (by decide) rfl (fun ls hl => ?_)
  have hl : lv_has ls 5 [(3, .int (nI 0)), (2, .int (nI 0)), (0, .ref od), (1, .int (nI sm))] := hl
  refine lv_iconst (v := nI 0) hx hb dX1_adamValues_4 (by decide) ?_
  refine lv_istore hx hb dX1_adamValues_5 hl (by decide) rfl (fun ls hl => ?_)
  have hl : lv_has ls 5 [(4, .int (nI 0)), (3, .int (nI 0)), (2, .int (nI 0)), (0, .ref od), (1, .int (nI sm))] := hl
  have hl : lv_has ls 5 [(0, .ref od), (1, .int (nI sm)), (2, .int (nI 0)), (3, .int (nI 0)), (4, .int (nI 0))] := lv_sub hl [3, 4, 2, 1, 0] rfl
  suffices lp : ∀ k : Nat, ∀ (i : Nat) (ls : Array Slot), (i + k = n) → lv_has ls 5 [(0, .ref od), (1, .int (nI sm)), (2, .int (nI (sd_ac (sd_li a (fun _ _ => false) sm) i))), (3, .int (nI (sd_ct a i))), (4, .int (nI i))] → W p l e (headSpec (kX1_adamValues :: aW) { frames := 1, cells := 0, slots := 0, locals := 21 }).room s m (([.ref od, .int (nI sm)] : List Value).toArray) below meth c s.heap [] 0 0 (MQ below (QcRead (nI (sd_ac (sd_li a (fun _ _ => false) sm) n))) (([.ref od, .int (nI sm)] : List Value).toArray) s 0 0 (fun _ => False)) (F0 m 7 ls []) by
    exact lp n 0 ls (by omega) hl
  intro k
  induction k with
  | zero =>
    intro i ls hi hl
    refine lv_iload hx hb dX1_adamValues_7 (lv_at hl 4 rfl) ?_
    refine lv_aload_n hx hb dX1_adamValues_9 rfl (lv_at hl 0 rfl) ?_
    refine va_get (D := D) (ci := 1) (v := .int (nI n)) (C := RX1) (T := TX1) (N := 10) hx hb ht inX1 hown hK hP 0 rfl rfl 0 (by decide) (ht _ wf_X1_size) (fun _ h9 => h9) rfl dX1_adamValues_10 ?_
    refine lv_icmp_ge (tgt := 49) hx hb dX1_adamValues_13 rfl (fun _ => ?_) (fun hc => absurd (show ¬ (n ≤ i) from fun h9 => hc ((nI_leI (by omega) (by omega)).mpr h9)) (by omega))
    refine lv_iload_n hx hb dX1_adamValues_49 rfl (lv_at hl 2 rfl) ?_
    exact W.iret hx hb hr (fun t ht2 _ => ⟨hw_ret (by rw [show i = n by omega]), ht2⟩) (fun _ h => by cases h) dX1_adamValues_50
  | succ k ih =>
    intro i ls hi hl
    have hac := sd_ac_lt (sd_li a (fun _ _ => false) sm) i
    have h2i : 2 ^ i ≤ 2 ^ n := Nat.pow_le_pow_right (by decide) (by omega)
    have hct := sd_ct_mono a (v := i) (w := n) (by omega)
    refine lv_iload hx hb dX1_adamValues_7 (lv_at hl 4 rfl) ?_
    refine lv_aload_n hx hb dX1_adamValues_9 rfl (lv_at hl 0 rfl) ?_
    refine va_get (D := D) (ci := 1) (v := .int (nI n)) (C := RX1) (T := TX1) (N := 10) hx hb ht inX1 hown hK hP 0 rfl rfl 0 (by decide) (ht _ wf_X1_size) (fun _ h9 => h9) rfl dX1_adamValues_10 ?_
    refine lv_icmp_ge (tgt := 49) hx hb dX1_adamValues_13 rfl (fun hc => absurd (show n ≤ i from (nI_leI (by omega) (by omega)).mp hc) (by omega)) (fun _ => ?_)
    refine lv_aload_n hx hb dX1_adamValues_16 rfl (lv_at hl 0 rfl) ?_
    refine va_get (D := D) (ci := 1) (v := .int (nI a)) (C := RX1) (T := TX1) (N := 10) hx hb ht inX1 hown hK hP 0 rfl rfl 1 (by decide) (ht _ wf_X1_adamSet) (fun _ h9 => h9) rfl dX1_adamValues_17 ?_
    refine lv_iload hx hb dX1_adamValues_20 (lv_at hl 4 rfl) ?_
    refine hw_callR (va_runS (As := [.int (nI a), .int (nI i)]) (rest := []) ⟨hx, hb, hml, hown, ht⟩ (c_bitn l D cI cZ a i (by omega) (by omega)) (va_cwS 2 ht (gS wm_X1_X1_bit wt_X1_bit wn_X1 wc_X1_bit) rfl rfl rfl (by decide +kernel) ⟨Nat.le_of_ble_eq_true rfl, Nat.le_of_ble_eq_true rfl⟩) (rPre_S (hP.sub [] rfl) hK hN) rfl rfl hl.1 rfl (lv_room (Nat.le_of_ble_eq_true rfl)) dX1_adamValues_22 ⟨Nat.zero_le _, Nat.zero_le _⟩) ?_
    refine lv_iconst (v := nI 1) hx hb dX1_adamValues_25 (by decide) ?_
    refine lv_icmp_ne (tgt := 43) hx hb dX1_adamValues_26 rfl (fun h1 => ?_) (fun h1 => ?_)
    · have h1 : (a.testBit i) = false := bI_ne1 h1
      have hl : lv_has ls 5 [(0, .ref od), (1, .int (nI sm)), (2, .int (nI (sd_ac (sd_li a (fun _ _ => false) sm) (i + 1)))), (3, .int (nI (sd_ct a i))), (4, .int (nI i))] := by rw [show nI (sd_ac (sd_li a (fun _ _ => false) sm) (i + 1)) = nI (sd_ac (sd_li a (fun _ _ => false) sm) i) from congrArg nI (by show sd_ac (sd_li a (fun _ _ => false) sm) i + (sd_li a (fun _ _ => false) sm i (sd_ac (sd_li a (fun _ _ => false) sm) i)).toNat * 2 ^ i = _; rw [sd_li_e h1]; simp)]; exact hl
      have hl : lv_has ls 5 [(0, .ref od), (1, .int (nI sm)), (2, .int (nI (sd_ac (sd_li a (fun _ _ => false) sm) (i + 1)))), (3, .int (nI (sd_ct a (i + 1)))), (4, .int (nI i))] := by rw [show nI (sd_ct a (i + 1)) = nI (sd_ct a i) from congrArg nI (by show sd_ct a i + (a.testBit i).toNat = _; rw [h1]; rfl)]; exact hl
      refine lv_iinc (k := 4) (v := nI (i + 1)) hx hb dX1_adamValues_43 hl rfl (hw_inc _) (by decide) rfl (fun ls hl => ?_)
      have hl : lv_has ls 5 [(4, .int (nI (i + 1))), (0, .ref od), (1, .int (nI sm)), (2, .int (nI (sd_ac (sd_li a (fun _ _ => false) sm) (i + 1)))), (3, .int (nI (sd_ct a (i + 1))))] := hl
      refine lv_goto (tgt := 7) hx hb dX1_adamValues_46 rfl ?_
      have hl : lv_has ls 5 [(0, .ref od), (1, .int (nI sm)), (2, .int (nI (sd_ac (sd_li a (fun _ _ => false) sm) (i + 1)))), (3, .int (nI (sd_ct a (i + 1)))), (4, .int (nI (i + 1)))] := lv_sub hl [1, 2, 3, 4, 0] rfl
      exact ih (i + 1) ls (by omega) hl
    · have h1 : (a.testBit i) = true := (bI_eq1 _).mp h1
      have e1 : sd_li a (fun _ _ => false) sm i (sd_ac (sd_li a (fun _ _ => false) sm) i) = sm.testBit (sd_ct a i) := sd_li_a h1
      refine lv_iload_n hx hb dX1_adamValues_29 rfl (lv_at hl 2 rfl) ?_
      refine lv_iload_n hx hb dX1_adamValues_30 rfl (lv_at hl 1 rfl) ?_
      refine lv_iload_n hx hb dX1_adamValues_31 rfl (lv_at hl 3 rfl) ?_
      refine hw_callR (va_runS (As := [.int (nI sm), .int (nI (sd_ct a i))]) (rest := [.int (nI (sd_ac (sd_li a (fun _ _ => false) sm) i))]) ⟨hx, hb, hml, hown, ht⟩ (c_bitn l D cI cZ sm (sd_ct a i) (by omega) (by omega)) (va_cwS 2 ht (gS wm_X1_X1_bit wt_X1_bit wn_X1 wc_X1_bit) rfl rfl rfl (by decide +kernel) ⟨Nat.le_of_ble_eq_true rfl, Nat.le_of_ble_eq_true rfl⟩) (rPre_S (hP.sub [] rfl) hK hN) rfl rfl hl.1 rfl (lv_room (Nat.le_of_ble_eq_true rfl)) dX1_adamValues_32 ⟨Nat.zero_le _, Nat.zero_le _⟩) ?_
      refine lv_iload hx hb dX1_adamValues_35 (lv_at hl 4 rfl) ?_
      refine lv_ishl hx hb dX1_adamValues_37 ?_
      refine lv_nm (y := nI ((sm.testBit (sd_ct a i)).toNat * 2 ^ i)) (hw_bshl _ (by omega)) ?_
      refine lv_ior hx hb dX1_adamValues_38 ?_
      refine lv_nm (y := nI ((sd_ac (sd_li a (fun _ _ => false) sm) i) ||| ((sm.testBit (sd_ct a i)).toNat * 2 ^ i))) (hw_or _ _) ?_
      refine lv_nm (y := nI (sd_ac (sd_li a (fun _ _ => false) sm) (i + 1))) (by rw [hw_orb (sd_ac_hi _ (Nat.le_refl i))]; show _ = nI (sd_ac (sd_li a (fun _ _ => false) sm) i + (sd_li a (fun _ _ => false) sm i (sd_ac (sd_li a (fun _ _ => false) sm) i)).toNat * 2 ^ i); rw [e1]) ?_
      refine lv_istore_n hx hb dX1_adamValues_39 rfl hl (by decide) rfl (fun ls hl => ?_)
      have hl : lv_has ls 5 [(2, .int (nI (sd_ac (sd_li a (fun _ _ => false) sm) (i + 1)))), (0, .ref od), (1, .int (nI sm)), (3, .int (nI (sd_ct a i))), (4, .int (nI i))] := hl
      refine lv_iinc (k := 3) (v := nI (sd_ct a (i + 1))) hx hb dX1_adamValues_40 hl rfl ((hw_inc _).trans (by show _ = nI (sd_ct a i + (a.testBit i).toNat); rw [h1]; rfl)) (by decide) rfl (fun ls hl => ?_)
      have hl : lv_has ls 5 [(3, .int (nI (sd_ct a (i + 1)))), (2, .int (nI (sd_ac (sd_li a (fun _ _ => false) sm) (i + 1)))), (0, .ref od), (1, .int (nI sm)), (4, .int (nI i))] := hl
      refine lv_iinc (k := 4) (v := nI (i + 1)) hx hb dX1_adamValues_43 hl rfl (hw_inc _) (by decide) rfl (fun ls hl => ?_)
      have hl : lv_has ls 5 [(4, .int (nI (i + 1))), (3, .int (nI (sd_ct a (i + 1)))), (2, .int (nI (sd_ac (sd_li a (fun _ _ => false) sm) (i + 1)))), (0, .ref od), (1, .int (nI sm))] := hl
      refine lv_goto (tgt := 7) hx hb dX1_adamValues_46 rfl ?_
      have hl : lv_has ls 5 [(0, .ref od), (1, .int (nI sm)), (2, .int (nI (sd_ac (sd_li a (fun _ _ => false) sm) (i + 1)))), (3, .int (nI (sd_ct a (i + 1)))), (4, .int (nI (i + 1)))] := lv_sub hl [3, 4, 2, 1, 0] rfl
      exact ih (i + 1) ls (by omega) hl
