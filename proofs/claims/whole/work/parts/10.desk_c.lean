/-! Contracts of StrategyDesk: what changes its cells. -/
theorem hw_clr : ∀ d, d < 10 → ∀ v, v < 2 ^ (d + 1) → nI v &&& (nI (2 ^ d) ^^^ (-1)) = nI (v % 2 ^ d) := by decide +kernel
theorem sd_in {b : Nat} {fl : Bool} {st : Int32} (hst : st = nI 1) : (if fl = true then nI b + st else nI b) = nI (b + fl.toNat) := by
  subst hst
  cases fl
  · rfl
  · exact nI_add b 1
theorem sd_out {b q : Nat} {fl : Bool} {st : Int32} (hst : st = -1) (h : b = q + fl.toNat) : (if fl = true then nI b + st else nI b) = nI q := by
  subst hst
  subst h
  cases fl
  · rfl
  · exact pk_m1 q
theorem sd_brl (Y Z : Nat → Nat) {q : Nat} (hq : q ≤ 25) (u : Nat) : sd_br Y Z q u < 2 ^ 31 := Nat.lt_of_le_of_lt (sd_br_le Y Z u q) (by omega)
theorem sd_sh_0 (Y : Nat → Nat) (i j : Nat) : Y j = sd_sh Y i i j := (if_neg (by omega)).symm
theorem sd_sh_s (Y : Nat → Nat) {i r : Nat} (hi : i ≤ r) (j : Nat) : va_up (sd_sh Y i r) r (sd_sh Y i r (r + 1)) j = sd_sh Y i (r + 1) j := by
  have e : sd_sh Y i r (r + 1) = Y (r + 1) := if_neg (by omega)
  rw [e]
  by_cases hj : j = r
  · subst hj
    rw [va_up_self]
    exact (if_pos (by omega)).symm
  · rw [va_up_ne _ _ hj]
    unfold sd_sh
    by_cases h : i ≤ j ∧ j < r
    · rw [if_pos h, if_pos (by omega)]
    · rw [if_neg h, if_neg (by omega)]
theorem sd_sh_lt {Y : Nat → Nat} {N i c : Nat} (h : ∀ j, Y j < N) (j : Nat) : sd_sh Y i c j < N := by
  unfold sd_sh
  by_cases h2 : i ≤ j ∧ j < c
  · rw [if_pos h2]; exact h _
  · rw [if_neg h2]; exact h _
theorem va_up_lt {Y : Nat → Nat} {N i x : Nat} (h : ∀ j, Y j < N) (hx : x < N) (j : Nat) : va_up Y i x j < N := by
  by_cases hj : j = i
  · subst hj
    rw [va_up_self]; exact hx
  · rw [va_up_ne _ _ hj]; exact h j

set_option maxHeartbeats 4000000 in
set_option maxRecDepth 100000 in
theorem c_claim_no (l : Launch) (D : va_G) (cI cZ : ClassId) (od og ob oe oy oz ot n a q d v : Nat) (Y Z : Nat → Nat) (T : Nat → Int32) (ok : dOk n a q d v Y Z) (x tb : Int32) (hno : ¬ (uN x < n ∧ a.testBit (uN x) = false)) : Met l yX1_claim (kX1_claim :: aW) { frames := 2, cells := 0, slots := 0, locals := 42 } (rPre [.ref od, .int x, .int tb] D [(od, .inr (1, [.int (nI n), .int (nI a), .int (nI (2 ^ n - 1 - a)), .ref og, .ref oy, .ref oz, .int (nI q), .int (nI d), .int (nI v), .ref ot])), (og, .inr (0, [.int (nI n), .int (nI a), .ref ob, .ref oe])), (ob, .inl (cI, (2 ^ n), .inl (fun jq => nI ((sd_br Y Z q) jq)))), (oe, .inl (cZ, (2 * 2 ^ n), .inl (fun jq => bI ((sd_ew n a (fun w => sd_br Y Z q w == 0)) jq)))), (oy, .inl (cI, 24, .inl (fun jq => nI (Y jq)))), (oz, .inl (cI, 24, .inl (fun jq => nI (Z jq)))), (ot, .inl (cI, n, .inl T))] [(cI, .int), (cZ, .boolean)]) (QcRead (bI false)) 0 0 (fun _ => False) := by
  obtain ⟨hn1, hn, ha, h5, hq, hY, hZ, hd, hv⟩ := id ok
  have h2n := hw_p10 hn
  refine Met.ofW (cc := cX1_claim) (maxL := 3) (ret := (some .boolean)) (by decide) rfl ?_
  intro p e s m args below meth c s₁ Bo hml hpre
  obtain ⟨rfl, hP, hK, hN⟩ := hpre
  have hx := Bo.exec
  have hb := Bo.bytes
  have hr := Bo.returns
  have hts := atoms_spec (ws := kX1_claim :: aW) Bo.pre
  have ht : ∀ w ∈ aW, w.before _ s = true := fun w h => hts w (List.mem_cons_of_mem _ h)
  have hown : s.vm.findClass RX1 = some m.cls := findClass_of_methodNamed Bo.named
  have hlocks := Bo.notSynchronized
  have hP : va_P D clS [(od, .inr (1, [.int (nI n), .int (nI a), .int (nI (2 ^ n - 1 - a)), .ref og, .ref oy, .ref oz, .int (nI q), .int (nI d), .int (nI v), .ref ot])), (og, .inr (0, [.int (nI n), .int (nI a), .ref ob, .ref oe])), (ob, .inl (cI, (2 ^ n), .inl (fun jq => nI ((sd_br Y Z q) jq)))), (oe, .inl (cZ, (2 * 2 ^ n), .inl (fun jq => bI ((sd_ew n a (fun w => sd_br Y Z q w == 0)) jq)))), (oy, .inl (cI, 24, .inl (fun jq => nI (Y jq)))), (oz, .inl (cI, 24, .inl (fun jq => nI (Z jq)))), (ot, .inl (cI, n, .inl T))] s.heap := hP
  have hl := lv_entry ([.ref od, .int x, .int tb]) (n := 3) (Nat.le_of_ble_eq_true rfl)
  rw [lg_entry_eq]
  generalize (lg_sl ([.ref od, .int x, .int tb]) ++ List.replicate (3 - (lg_sl ([.ref od, .int x, .int tb])).length) Slot.unset).toArray = ls at hl ⊢
  have hl : lv_has ls 3 [(0, .ref od), (1, .int x), (2, .int tb)] := hl
  refine lv_aload_n hx hb dX1_claim_0 rfl (lv_at hl 0 rfl) ?_
  refine lv_iload_n hx hb dX1_claim_1 rfl (lv_at hl 1 rfl) ?_
  refine hw_callR (va_runV (b := od) (As := [.int x]) (rest := []) ⟨hx, hb, hml, hown, ht⟩ (c_isEves l D cI cZ od og ob oe oy oz ot n a q d v Y Z T ok x) (cwV 1 ht (gV wm_X1_X1_isEves wi_X1_isEves ws_X1_isEves wn_X1 wc_X1_isEves) rfl rfl rfl (by decide +kernel) ⟨Nat.le_of_ble_eq_true rfl, Nat.le_of_ble_eq_true rfl⟩) (rPre_V 0 hP hK hN rfl rfl) rfl rfl hl.1 rfl (lv_room (Nat.le_of_ble_eq_true rfl)) dX1_claim_2 ⟨Nat.zero_le _, Nat.zero_le _⟩) ?_
  refine lv_if_ne (tgt := 10) hx hb dX1_claim_5 rfl (fun h1 => ?_) (fun h1 => ?_)
  · have h1 : (decide (uN x < n) && !a.testBit (uN x)) = true := bI_ne0 h1
    exact absurd (hw_ev_t h1) hno
  · have h1 : (decide (uN x < n) && !a.testBit (uN x)) = false := (bI_eq0 _).mp h1
    refine lv_iconst (v := nI 0) hx hb dX1_claim_8 (by decide) ?_
    exact W.zret hx hb hr rfl (fun t ht2 _ => ⟨hw_ret (rfl), ht2⟩) (fun _ h => by cases h) dX1_claim_9

set_option maxHeartbeats 4000000 in
set_option maxRecDepth 100000 in
theorem c_claim (l : Launch) (D : va_G) (cI cZ : ClassId) (od og ob oe oy oz ot n a q d v : Nat) (Y Z : Nat → Nat) (T : Nat → Int32) (ok : dOk n a q d v Y Z) (sz : Nat) (i : Nat) (tb : Int32) (hi : i < n) (hE : a.testBit i = false) : Met l yX1_claim (kX1_claim :: aW) { frames := 2, cells := 0, slots := 0, locals := 42 } (wPre [.ref od, .int (nI i), .int tb] D [(od, .inr (1, [.int (nI n), .int (nI a), .int (nI (2 ^ n - 1 - a)), .ref og, .ref oy, .ref oz, .int (nI q), .int (nI d), .int (nI v), .ref ot])), (og, .inr (0, [.int (nI n), .int (nI a), .ref ob, .ref oe])), (ob, .inl (cI, (2 ^ n), .inl (fun jq => nI ((sd_br Y Z q) jq)))), (oe, .inl (cZ, (2 * 2 ^ n), .inl (fun jq => bI ((sd_ew n a (fun w => sd_br Y Z q w == 0)) jq)))), (oy, .inl (cI, 24, .inl (fun jq => nI (Y jq)))), (oz, .inl (cI, 24, .inl (fun jq => nI (Z jq)))), (ot, .inl (cI, n, .inl T))] [(cI, .int), (cZ, .boolean)] sz) (wQ (some (.int (bI true))) D [(od, .inr (1, [.int (nI n), .int (nI a), .int (nI (2 ^ n - 1 - a)), .ref og, .ref oy, .ref oz, .int (nI q), .int (nI d), .int (nI v), .ref ot])), (og, .inr (0, [.int (nI n), .int (nI a), .ref ob, .ref oe])), (ob, .inl (cI, (2 ^ n), .inl (fun jq => nI ((sd_br Y Z q) jq)))), (oe, .inl (cZ, (2 * 2 ^ n), .inl (fun jq => bI ((sd_ew n a (fun w => sd_br Y Z q w == 0)) jq)))), (oy, .inl (cI, 24, .inl (fun jq => nI (Y jq)))), (oz, .inl (cI, 24, .inl (fun jq => nI (Z jq)))), (ot, .inl (cI, n, .inl (upd T i tb)))] (va_A [(od, .inr (1, [.int (nI n), .int (nI a), .int (nI (2 ^ n - 1 - a)), .ref og, .ref oy, .ref oz, .int (nI q), .int (nI d), .int (nI v), .ref ot])), (og, .inr (0, [.int (nI n), .int (nI a), .ref ob, .ref oe])), (ob, .inl (cI, (2 ^ n), .inl (fun jq => nI ((sd_br Y Z q) jq)))), (oe, .inl (cZ, (2 * 2 ^ n), .inl (fun jq => bI ((sd_ew n a (fun w => sd_br Y Z q w == 0)) jq)))), (oy, .inl (cI, 24, .inl (fun jq => nI (Y jq)))), (oz, .inl (cI, 24, .inl (fun jq => nI (Z jq)))), (ot, .inl (cI, n, .inl T))] sz)) 0 0 (va_A [(od, .inr (1, [.int (nI n), .int (nI a), .int (nI (2 ^ n - 1 - a)), .ref og, .ref oy, .ref oz, .int (nI q), .int (nI d), .int (nI v), .ref ot])), (og, .inr (0, [.int (nI n), .int (nI a), .ref ob, .ref oe])), (ob, .inl (cI, (2 ^ n), .inl (fun jq => nI ((sd_br Y Z q) jq)))), (oe, .inl (cZ, (2 * 2 ^ n), .inl (fun jq => bI ((sd_ew n a (fun w => sd_br Y Z q w == 0)) jq)))), (oy, .inl (cI, 24, .inl (fun jq => nI (Y jq)))), (oz, .inl (cI, 24, .inl (fun jq => nI (Z jq)))), (ot, .inl (cI, n, .inl T))] sz) := by
  obtain ⟨hn1, hn, ha, h5, hq, hY, hZ, hd, hv⟩ := id ok
  have h2n := hw_p10 hn
  refine Met.ofW (cc := cX1_claim) (maxL := 3) (ret := (some .boolean)) (by decide) rfl ?_
  intro p e s m args below meth c s₁ Bo hml hpre
  obtain ⟨rfl, hsz, hP, hK, hN, hD0⟩ := hpre
  subst hsz
  have hD := hD0.self (sz := s.heap.size)
  generalize hAe : va_A [(od, .inr (1, [.int (nI n), .int (nI a), .int (nI (2 ^ n - 1 - a)), .ref og, .ref oy, .ref oz, .int (nI q), .int (nI d), .int (nI v), .ref ot])), (og, .inr (0, [.int (nI n), .int (nI a), .ref ob, .ref oe])), (ob, .inl (cI, (2 ^ n), .inl (fun jq => nI ((sd_br Y Z q) jq)))), (oe, .inl (cZ, (2 * 2 ^ n), .inl (fun jq => bI ((sd_ew n a (fun w => sd_br Y Z q w == 0)) jq)))), (oy, .inl (cI, 24, .inl (fun jq => nI (Y jq)))), (oz, .inl (cI, 24, .inl (fun jq => nI (Z jq)))), (ot, .inl (cI, n, .inl T))] s.heap.size = A at hD ⊢
  have hA : ∀ q : Nat, s.heap.size ≤ q → A q := fun q h => by rw [← hAe]; exact Or.inr h
  have hS : va_S A s.heap s.heap [] := va_S.rf
  have hx := Bo.exec
  have hb := Bo.bytes
  have hr := Bo.returns
  have hts := atoms_spec (ws := kX1_claim :: aW) Bo.pre
  have ht : ∀ w ∈ aW, w.before _ s = true := fun w h => hts w (List.mem_cons_of_mem _ h)
  have hown : s.vm.findClass RX1 = some m.cls := findClass_of_methodNamed Bo.named
  have hlocks := Bo.notSynchronized
  have hP : va_P D clS [(od, .inr (1, [.int (nI n), .int (nI a), .int (nI (2 ^ n - 1 - a)), .ref og, .ref oy, .ref oz, .int (nI q), .int (nI d), .int (nI v), .ref ot])), (og, .inr (0, [.int (nI n), .int (nI a), .ref ob, .ref oe])), (ob, .inl (cI, (2 ^ n), .inl (fun jq => nI ((sd_br Y Z q) jq)))), (oe, .inl (cZ, (2 * 2 ^ n), .inl (fun jq => bI ((sd_ew n a (fun w => sd_br Y Z q w == 0)) jq)))), (oy, .inl (cI, 24, .inl (fun jq => nI (Y jq)))), (oz, .inl (cI, 24, .inl (fun jq => nI (Z jq)))), (ot, .inl (cI, n, .inl T))] s.heap := hP
  have hl := lv_entry ([.ref od, .int (nI i), .int tb]) (n := 3) (Nat.le_of_ble_eq_true rfl)
  rw [lg_entry_eq]
  generalize (lg_sl ([.ref od, .int (nI i), .int tb]) ++ List.replicate (3 - (lg_sl ([.ref od, .int (nI i), .int tb])).length) Slot.unset).toArray = ls at hl ⊢
  have hl : lv_has ls 3 [(0, .ref od), (1, .int (nI i)), (2, .int tb)] := hl
  refine lv_aload_n hx hb dX1_claim_0 rfl (lv_at hl 0 rfl) ?_
  refine lv_iload_n hx hb dX1_claim_1 rfl (lv_at hl 1 rfl) ?_
  refine hw_callR (va_runV (b := od) (As := [.int (nI i)]) (rest := []) ⟨hx, hb, hml, hown, ht⟩ (c_isEves l D cI cZ od og ob oe oy oz ot n a q d v Y Z T ok (nI i)) (cwV 1 ht (gV wm_X1_X1_isEves wi_X1_isEves ws_X1_isEves wn_X1 wc_X1_isEves) rfl rfl rfl (by decide +kernel) ⟨Nat.le_of_ble_eq_true rfl, Nat.le_of_ble_eq_true rfl⟩) (rPre_V 0 hP hK hN rfl rfl) rfl rfl hl.1 rfl (lv_room (Nat.le_of_ble_eq_true rfl)) dX1_claim_2 ⟨Nat.zero_le _, Nat.zero_le _⟩) ?_
  refine lv_nm (y := bI (!a.testBit i)) (congrArg bI (hw_ev0 (by omega) (by omega))) ?_
  have hE2 : (!a.testBit i) = true := by rw [hE]; rfl
  refine lv_if_ne (tgt := 10) hx hb dX1_claim_5 rfl (fun h1 => ?_) (fun h1 => ?_)
  · have h1 : (!a.testBit i) = true := bI_ne0 h1
    refine lv_aload_n hx hb dX1_claim_10 rfl (lv_at hl 0 rfl) ?_
    refine va_get (D := D) (ci := 1) (v := .ref ot) (C := RX1) (T := TX1) (N := 10) hx hb ht inX1 hown hK hP 0 rfl rfl 9 (by decide) (ht _ wf_X1_tables) (fun _ h9 => h9) rfl dX1_claim_11 ?_
    refine lv_iload_n hx hb dX1_claim_14 rfl (lv_at hl 1 rfl) ?_
    refine lv_iload_n hx hb dX1_claim_15 rfl (lv_at hl 2 rfl) ?_
    refine na_iast (f := T) (x := tb) hx hb hK hP hD hS 6 0 rfl rfl (j := i) (by omega) (by omega) dX1_claim_16 (fun H locs hP hD hS => ?_)
    have hP : va_P D clS [(od, .inr (1, [.int (nI n), .int (nI a), .int (nI (2 ^ n - 1 - a)), .ref og, .ref oy, .ref oz, .int (nI q), .int (nI d), .int (nI v), .ref ot])), (og, .inr (0, [.int (nI n), .int (nI a), .ref ob, .ref oe])), (ob, .inl (cI, (2 ^ n), .inl (fun jq => nI ((sd_br Y Z q) jq)))), (oe, .inl (cZ, (2 * 2 ^ n), .inl (fun jq => bI ((sd_ew n a (fun w => sd_br Y Z q w == 0)) jq)))), (oy, .inl (cI, 24, .inl (fun jq => nI (Y jq)))), (oz, .inl (cI, 24, .inl (fun jq => nI (Z jq)))), (ot, .inl (cI, n, .inl (upd T i tb)))] H := hP
    have hD : va_D A [(od, .inr (1, [.int (nI n), .int (nI a), .int (nI (2 ^ n - 1 - a)), .ref og, .ref oy, .ref oz, .int (nI q), .int (nI d), .int (nI v), .ref ot])), (og, .inr (0, [.int (nI n), .int (nI a), .ref ob, .ref oe])), (ob, .inl (cI, (2 ^ n), .inl (fun jq => nI ((sd_br Y Z q) jq)))), (oe, .inl (cZ, (2 * 2 ^ n), .inl (fun jq => bI ((sd_ew n a (fun w => sd_br Y Z q w == 0)) jq)))), (oy, .inl (cI, 24, .inl (fun jq => nI (Y jq)))), (oz, .inl (cI, 24, .inl (fun jq => nI (Z jq)))), (ot, .inl (cI, n, .inl (upd T i tb)))] := hD
    refine lv_iconst (v := nI 1) hx hb dX1_claim_17 (by decide) ?_
    exact W.zret hx hb hr rfl (fun t ht2 _ => ⟨hw_ret (rfl), by rw [ht2]; exact hP, hS.F ht2⟩) hS.2.2 dX1_claim_18
  · have h1 : (!a.testBit i) = false := (bI_eq0 _).mp h1
    exact absurd (hE2.symm.trans h1) (by decide)

set_option maxHeartbeats 4000000 in
set_option maxRecDepth 100000 in
theorem c_play_no (l : Launch) (D : va_G) (cI cZ : ClassId) (od og ob oe oy oz ot n a q d v : Nat) (Y Z : Nat → Nat) (T : Nat → Int32) (ok : dOk n a q d v Y Z) (x : Int32) (hno : ¬ (uN x < 2 ∧ d < n)) : Met l yX1_play (kX1_play :: aW) { frames := 0, cells := 0, slots := 0, locals := 0 } (rPre [.ref od, .int x] D [(od, .inr (1, [.int (nI n), .int (nI a), .int (nI (2 ^ n - 1 - a)), .ref og, .ref oy, .ref oz, .int (nI q), .int (nI d), .int (nI v), .ref ot])), (og, .inr (0, [.int (nI n), .int (nI a), .ref ob, .ref oe])), (ob, .inl (cI, (2 ^ n), .inl (fun jq => nI ((sd_br Y Z q) jq)))), (oe, .inl (cZ, (2 * 2 ^ n), .inl (fun jq => bI ((sd_ew n a (fun w => sd_br Y Z q w == 0)) jq)))), (oy, .inl (cI, 24, .inl (fun jq => nI (Y jq)))), (oz, .inl (cI, 24, .inl (fun jq => nI (Z jq)))), (ot, .inl (cI, n, .inl T))] [(cI, .int), (cZ, .boolean)]) (QcRead (-1)) 0 0 (fun _ => False) := by
  obtain ⟨hn1, hn, ha, h5, hq, hY, hZ, hd, hv⟩ := id ok
  have h2n := hw_p10 hn
  refine Met.ofW (cc := cX1_play) (maxL := 2) (ret := (some .int)) (by decide) rfl ?_
  intro p e s m args below meth c s₁ Bo hml hpre
  obtain ⟨rfl, hP, hK, hN⟩ := hpre
  have hx := Bo.exec
  have hb := Bo.bytes
  have hr := Bo.returns
  have hts := atoms_spec (ws := kX1_play :: aW) Bo.pre
  have ht : ∀ w ∈ aW, w.before _ s = true := fun w h => hts w (List.mem_cons_of_mem _ h)
  have hown : s.vm.findClass RX1 = some m.cls := findClass_of_methodNamed Bo.named
  have hlocks := Bo.notSynchronized
  have hP : va_P D clS [(od, .inr (1, [.int (nI n), .int (nI a), .int (nI (2 ^ n - 1 - a)), .ref og, .ref oy, .ref oz, .int (nI q), .int (nI d), .int (nI v), .ref ot])), (og, .inr (0, [.int (nI n), .int (nI a), .ref ob, .ref oe])), (ob, .inl (cI, (2 ^ n), .inl (fun jq => nI ((sd_br Y Z q) jq)))), (oe, .inl (cZ, (2 * 2 ^ n), .inl (fun jq => bI ((sd_ew n a (fun w => sd_br Y Z q w == 0)) jq)))), (oy, .inl (cI, 24, .inl (fun jq => nI (Y jq)))), (oz, .inl (cI, 24, .inl (fun jq => nI (Z jq)))), (ot, .inl (cI, n, .inl T))] s.heap := hP
  have hl := lv_entry ([.ref od, .int x]) (n := 2) (Nat.le_of_ble_eq_true rfl)
  rw [lg_entry_eq]
  generalize (lg_sl ([.ref od, .int x]) ++ List.replicate (2 - (lg_sl ([.ref od, .int x])).length) Slot.unset).toArray = ls at hl ⊢
  have hl : lv_has ls 2 [(0, .ref od), (1, .int x)] := hl
  refine lv_iload_n hx hb dX1_play_0 rfl (lv_at hl 1 rfl) ?_
  refine lv_if_eq (tgt := 9) hx hb dX1_play_1 rfl (fun h1 => ?_) (fun h1 => ?_)
  · refine lv_aload_n hx hb dX1_play_9 rfl (lv_at hl 0 rfl) ?_
    refine va_get (D := D) (ci := 1) (v := .int (nI d)) (C := RX1) (T := TX1) (N := 10) hx hb ht inX1 hown hK hP 0 rfl rfl 7 (by decide) (ht _ wf_X1_playDepth) (fun _ h9 => h9) rfl dX1_play_10 ?_
    refine lv_aload_n hx hb dX1_play_13 rfl (lv_at hl 0 rfl) ?_
    refine va_get (D := D) (ci := 1) (v := .int (nI n)) (C := RX1) (T := TX1) (N := 10) hx hb ht inX1 hown hK hP 0 rfl rfl 0 (by decide) (ht _ wf_X1_size) (fun _ h9 => h9) rfl dX1_play_14 ?_
    refine lv_icmp_lt (tgt := 22) hx hb dX1_play_17 rfl (fun h2 => ?_) (fun h2 => ?_)
    · have h2 : d < n := (nI_ltI (by omega) (by omega)).mp h2
      exact absurd ⟨by subst h1; decide, by omega⟩ hno
    · have h2 : ¬ (d < n) := fun h9 => h2 ((nI_ltI (by omega) (by omega)).mpr h9)
      refine lv_iconst (v := (-1)) hx hb dX1_play_20 (by decide) ?_
      exact W.iret hx hb hr (fun t ht2 _ => ⟨hw_ret (rfl), ht2⟩) (fun _ h => by cases h) dX1_play_21
  · refine lv_iload_n hx hb dX1_play_4 rfl (lv_at hl 1 rfl) ?_
    refine lv_iconst (v := nI 1) hx hb dX1_play_5 (by decide) ?_
    refine lv_icmp_ne (tgt := 20) hx hb dX1_play_6 rfl (fun h2 => ?_) (fun h2 => ?_)
    · refine lv_iconst (v := (-1)) hx hb dX1_play_20 (by decide) ?_
      exact W.iret hx hb hr (fun t ht2 _ => ⟨hw_ret (rfl), ht2⟩) (fun _ h => by cases h) dX1_play_21
    · refine lv_aload_n hx hb dX1_play_9 rfl (lv_at hl 0 rfl) ?_
      refine va_get (D := D) (ci := 1) (v := .int (nI d)) (C := RX1) (T := TX1) (N := 10) hx hb ht inX1 hown hK hP 0 rfl rfl 7 (by decide) (ht _ wf_X1_playDepth) (fun _ h9 => h9) rfl dX1_play_10 ?_
      refine lv_aload_n hx hb dX1_play_13 rfl (lv_at hl 0 rfl) ?_
      refine va_get (D := D) (ci := 1) (v := .int (nI n)) (C := RX1) (T := TX1) (N := 10) hx hb ht inX1 hown hK hP 0 rfl rfl 0 (by decide) (ht _ wf_X1_size) (fun _ h9 => h9) rfl dX1_play_14 ?_
      refine lv_icmp_lt (tgt := 22) hx hb dX1_play_17 rfl (fun h3 => ?_) (fun h3 => ?_)
      · have h3 : d < n := (nI_ltI (by omega) (by omega)).mp h3
        exact absurd ⟨by subst h2; decide, by omega⟩ hno
      · have h3 : ¬ (d < n) := fun h9 => h3 ((nI_ltI (by omega) (by omega)).mpr h9)
        refine lv_iconst (v := (-1)) hx hb dX1_play_20 (by decide) ?_
        exact W.iret hx hb hr (fun t ht2 _ => ⟨hw_ret (rfl), ht2⟩) (fun _ h => by cases h) dX1_play_21

set_option maxHeartbeats 4000000 in
set_option maxRecDepth 100000 in
theorem c_play (l : Launch) (D : va_G) (cI cZ : ClassId) (od og ob oe oy oz ot n a q d v : Nat) (Y Z : Nat → Nat) (T : Nat → Int32) (ok : dOk n a q d v Y Z) (sz : Nat) (b : Bool) (hdn : d < n) : Met l yX1_play (kX1_play :: aW) { frames := 0, cells := 0, slots := 0, locals := 0 } (wPre [.ref od, .int (bI b)] D [(od, .inr (1, [.int (nI n), .int (nI a), .int (nI (2 ^ n - 1 - a)), .ref og, .ref oy, .ref oz, .int (nI q), .int (nI d), .int (nI v), .ref ot])), (og, .inr (0, [.int (nI n), .int (nI a), .ref ob, .ref oe])), (ob, .inl (cI, (2 ^ n), .inl (fun jq => nI ((sd_br Y Z q) jq)))), (oe, .inl (cZ, (2 * 2 ^ n), .inl (fun jq => bI ((sd_ew n a (fun w => sd_br Y Z q w == 0)) jq)))), (oy, .inl (cI, 24, .inl (fun jq => nI (Y jq)))), (oz, .inl (cI, 24, .inl (fun jq => nI (Z jq)))), (ot, .inl (cI, n, .inl T))] [(cI, .int), (cZ, .boolean)] sz) (wQ (some (.int (nI d))) D [(od, .inr (1, [.int (nI n), .int (nI a), .int (nI (2 ^ n - 1 - a)), .ref og, .ref oy, .ref oz, .int (nI q), .int (nI (d + 1)), .int (nI (v + b.toNat * 2 ^ d)), .ref ot])), (og, .inr (0, [.int (nI n), .int (nI a), .ref ob, .ref oe])), (ob, .inl (cI, (2 ^ n), .inl (fun jq => nI ((sd_br Y Z q) jq)))), (oe, .inl (cZ, (2 * 2 ^ n), .inl (fun jq => bI ((sd_ew n a (fun w => sd_br Y Z q w == 0)) jq)))), (oy, .inl (cI, 24, .inl (fun jq => nI (Y jq)))), (oz, .inl (cI, 24, .inl (fun jq => nI (Z jq)))), (ot, .inl (cI, n, .inl T))] (va_A [(od, .inr (1, [.int (nI n), .int (nI a), .int (nI (2 ^ n - 1 - a)), .ref og, .ref oy, .ref oz, .int (nI q), .int (nI d), .int (nI v), .ref ot])), (og, .inr (0, [.int (nI n), .int (nI a), .ref ob, .ref oe])), (ob, .inl (cI, (2 ^ n), .inl (fun jq => nI ((sd_br Y Z q) jq)))), (oe, .inl (cZ, (2 * 2 ^ n), .inl (fun jq => bI ((sd_ew n a (fun w => sd_br Y Z q w == 0)) jq)))), (oy, .inl (cI, 24, .inl (fun jq => nI (Y jq)))), (oz, .inl (cI, 24, .inl (fun jq => nI (Z jq)))), (ot, .inl (cI, n, .inl T))] sz)) 0 0 (va_A [(od, .inr (1, [.int (nI n), .int (nI a), .int (nI (2 ^ n - 1 - a)), .ref og, .ref oy, .ref oz, .int (nI q), .int (nI d), .int (nI v), .ref ot])), (og, .inr (0, [.int (nI n), .int (nI a), .ref ob, .ref oe])), (ob, .inl (cI, (2 ^ n), .inl (fun jq => nI ((sd_br Y Z q) jq)))), (oe, .inl (cZ, (2 * 2 ^ n), .inl (fun jq => bI ((sd_ew n a (fun w => sd_br Y Z q w == 0)) jq)))), (oy, .inl (cI, 24, .inl (fun jq => nI (Y jq)))), (oz, .inl (cI, 24, .inl (fun jq => nI (Z jq)))), (ot, .inl (cI, n, .inl T))] sz) := by
  obtain ⟨hn1, hn, ha, h5, hq, hY, hZ, hd, hv⟩ := id ok
  have h2n := hw_p10 hn
  refine Met.ofW (cc := cX1_play) (maxL := 2) (ret := (some .int)) (by decide) rfl ?_
  intro p e s m args below meth c s₁ Bo hml hpre
  obtain ⟨rfl, hsz, hP, hK, hN, hD0⟩ := hpre
  subst hsz
  have hD := hD0.self (sz := s.heap.size)
  generalize hAe : va_A [(od, .inr (1, [.int (nI n), .int (nI a), .int (nI (2 ^ n - 1 - a)), .ref og, .ref oy, .ref oz, .int (nI q), .int (nI d), .int (nI v), .ref ot])), (og, .inr (0, [.int (nI n), .int (nI a), .ref ob, .ref oe])), (ob, .inl (cI, (2 ^ n), .inl (fun jq => nI ((sd_br Y Z q) jq)))), (oe, .inl (cZ, (2 * 2 ^ n), .inl (fun jq => bI ((sd_ew n a (fun w => sd_br Y Z q w == 0)) jq)))), (oy, .inl (cI, 24, .inl (fun jq => nI (Y jq)))), (oz, .inl (cI, 24, .inl (fun jq => nI (Z jq)))), (ot, .inl (cI, n, .inl T))] s.heap.size = A at hD ⊢
  have hA : ∀ q : Nat, s.heap.size ≤ q → A q := fun q h => by rw [← hAe]; exact Or.inr h
  have hS : va_S A s.heap s.heap [] := va_S.rf
  have hx := Bo.exec
  have hb := Bo.bytes
  have hr := Bo.returns
  have hts := atoms_spec (ws := kX1_play :: aW) Bo.pre
  have ht : ∀ w ∈ aW, w.before _ s = true := fun w h => hts w (List.mem_cons_of_mem _ h)
  have hown : s.vm.findClass RX1 = some m.cls := findClass_of_methodNamed Bo.named
  have hlocks := Bo.notSynchronized
  have hP : va_P D clS [(od, .inr (1, [.int (nI n), .int (nI a), .int (nI (2 ^ n - 1 - a)), .ref og, .ref oy, .ref oz, .int (nI q), .int (nI d), .int (nI v), .ref ot])), (og, .inr (0, [.int (nI n), .int (nI a), .ref ob, .ref oe])), (ob, .inl (cI, (2 ^ n), .inl (fun jq => nI ((sd_br Y Z q) jq)))), (oe, .inl (cZ, (2 * 2 ^ n), .inl (fun jq => bI ((sd_ew n a (fun w => sd_br Y Z q w == 0)) jq)))), (oy, .inl (cI, 24, .inl (fun jq => nI (Y jq)))), (oz, .inl (cI, 24, .inl (fun jq => nI (Z jq)))), (ot, .inl (cI, n, .inl T))] s.heap := hP
  have hl := lv_entry ([.ref od, .int (bI b)]) (n := 2) (Nat.le_of_ble_eq_true rfl)
  rw [lg_entry_eq]
  generalize (lg_sl ([.ref od, .int (bI b)]) ++ List.replicate (2 - (lg_sl ([.ref od, .int (bI b)])).length) Slot.unset).toArray = ls at hl ⊢
  have hl : lv_has ls 2 [(0, .ref od), (1, .int (bI b))] := hl
  refine lv_iload_n hx hb dX1_play_0 rfl (lv_at hl 1 rfl) ?_
  suffices mk : W p l e (headSpec (kX1_play :: aW) { frames := 0, cells := 0, slots := 0, locals := 0 }).room s m (([.ref od, .int (bI b)] : List Value).toArray) below meth c s.heap [] 0 0 (MQ below (wQ (some (.int (nI d))) D [(od, .inr (1, [.int (nI n), .int (nI a), .int (nI (2 ^ n - 1 - a)), .ref og, .ref oy, .ref oz, .int (nI q), .int (nI (d + 1)), .int (nI (v + b.toNat * 2 ^ d)), .ref ot])), (og, .inr (0, [.int (nI n), .int (nI a), .ref ob, .ref oe])), (ob, .inl (cI, (2 ^ n), .inl (fun jq => nI ((sd_br Y Z q) jq)))), (oe, .inl (cZ, (2 * 2 ^ n), .inl (fun jq => bI ((sd_ew n a (fun w => sd_br Y Z q w == 0)) jq)))), (oy, .inl (cI, 24, .inl (fun jq => nI (Y jq)))), (oz, .inl (cI, 24, .inl (fun jq => nI (Z jq)))), (ot, .inl (cI, n, .inl T))] A) (([.ref od, .int (bI b)] : List Value).toArray) s 0 0 A) (F0 m 9 ls []) by
    refine lv_if_eq (tgt := 9) hx hb dX1_play_1 rfl (fun h1 => ?_) (fun h1 => ?_)
    · have h1 : b = false := (bI_eq0 _).mp h1
      exact mk
    · have h1 : b = true := bI_ne0 h1
      refine lv_iload_n hx hb dX1_play_4 rfl (lv_at hl 1 rfl) ?_
      refine lv_iconst (v := nI 1) hx hb dX1_play_5 (by decide) ?_
      refine lv_icmp_ne (tgt := 20) hx hb dX1_play_6 rfl (fun h2 => ?_) (fun h2 => ?_)
      · have h2 : b = false := bI_ne1 h2
        exact absurd (h1.symm.trans h2) (by decide)
      · have h2 : b = true := (bI_eq1 _).mp h2
        exact mk
  refine lv_aload_n hx hb dX1_play_9 rfl (lv_at hl 0 rfl) ?_
  refine va_get (D := D) (ci := 1) (v := .int (nI d)) (C := RX1) (T := TX1) (N := 10) hx hb ht inX1 hown hK hP 0 rfl rfl 7 (by decide) (ht _ wf_X1_playDepth) (fun _ h9 => h9) rfl dX1_play_10 ?_
  refine lv_aload_n hx hb dX1_play_13 rfl (lv_at hl 0 rfl) ?_
  refine va_get (D := D) (ci := 1) (v := .int (nI n)) (C := RX1) (T := TX1) (N := 10) hx hb ht inX1 hown hK hP 0 rfl rfl 0 (by decide) (ht _ wf_X1_size) (fun _ h9 => h9) rfl dX1_play_14 ?_
  refine lv_icmp_lt (tgt := 22) hx hb dX1_play_17 rfl (fun _ => ?_) (fun hc => absurd (show ¬ (d < n) from fun h9 => hc ((nI_ltI (by omega) (by omega)).mpr h9)) (by omega))
  refine lv_aload_n hx hb dX1_play_22 rfl (lv_at hl 0 rfl) ?_
  refine lv_dup hx hb dX1_play_23 rfl ?_
  refine va_get (D := D) (ci := 1) (v := .int (nI v)) (C := RX1) (T := TX1) (N := 10) hx hb ht inX1 hown hK hP 0 rfl rfl 8 (by decide) (ht _ wf_X1_playValues) (fun _ h9 => h9) rfl dX1_play_24 ?_
  refine lv_iload_n hx hb dX1_play_27 rfl (lv_at hl 1 rfl) ?_
  refine lv_aload_n hx hb dX1_play_28 rfl (lv_at hl 0 rfl) ?_
  refine va_get (D := D) (ci := 1) (v := .int (nI d)) (C := RX1) (T := TX1) (N := 10) hx hb ht inX1 hown hK hP 0 rfl rfl 7 (by decide) (ht _ wf_X1_playDepth) (fun _ h9 => h9) rfl dX1_play_29 ?_
  refine lv_ishl hx hb dX1_play_32 ?_
  refine lv_nm (y := nI (b.toNat * 2 ^ d)) (hw_bshl _ (by omega)) ?_
  refine lv_ior hx hb dX1_play_33 ?_
  refine lv_nm (y := nI (v ||| (b.toNat * 2 ^ d))) (hw_or _ _) ?_
  refine lv_nm (y := nI (v + b.toNat * 2 ^ d)) (congrArg nI (hw_orb (Nat.testBit_lt_two_pow hv) b)) ?_
  refine va_put (D := D) (ci := 1) (v := .int (nI (v + b.toNat * 2 ^ d))) (ty := .int) (C := RX1) (T := TX1) (N := 10) hx hb ht inX1 tyX1 tyX1_ok nmX1 hown hK hP hD hS 0 rfl rfl 8 (by decide) (ht _ wf_X1_playValues) (fun _ h9 => h9) rfl (by decide +kernel) rfl rfl (Nat.le_of_ble_eq_true rfl) dX1_play_34 (fun H locs hP hD hS => ?_)
  have hP : va_P D clS [(od, .inr (1, [.int (nI n), .int (nI a), .int (nI (2 ^ n - 1 - a)), .ref og, .ref oy, .ref oz, .int (nI q), .int (nI d), .int (nI (v + b.toNat * 2 ^ d)), .ref ot])), (og, .inr (0, [.int (nI n), .int (nI a), .ref ob, .ref oe])), (ob, .inl (cI, (2 ^ n), .inl (fun jq => nI ((sd_br Y Z q) jq)))), (oe, .inl (cZ, (2 * 2 ^ n), .inl (fun jq => bI ((sd_ew n a (fun w => sd_br Y Z q w == 0)) jq)))), (oy, .inl (cI, 24, .inl (fun jq => nI (Y jq)))), (oz, .inl (cI, 24, .inl (fun jq => nI (Z jq)))), (ot, .inl (cI, n, .inl T))] H := hP
  have hD : va_D A [(od, .inr (1, [.int (nI n), .int (nI a), .int (nI (2 ^ n - 1 - a)), .ref og, .ref oy, .ref oz, .int (nI q), .int (nI d), .int (nI (v + b.toNat * 2 ^ d)), .ref ot])), (og, .inr (0, [.int (nI n), .int (nI a), .ref ob, .ref oe])), (ob, .inl (cI, (2 ^ n), .inl (fun jq => nI ((sd_br Y Z q) jq)))), (oe, .inl (cZ, (2 * 2 ^ n), .inl (fun jq => bI ((sd_ew n a (fun w => sd_br Y Z q w == 0)) jq)))), (oy, .inl (cI, 24, .inl (fun jq => nI (Y jq)))), (oz, .inl (cI, 24, .inl (fun jq => nI (Z jq)))), (ot, .inl (cI, n, .inl T))] := hD
  refine lv_aload_n hx hb dX1_play_37 rfl (lv_at hl 0 rfl) ?_
  refine lv_dup hx hb dX1_play_38 rfl ?_
  refine va_get (D := D) (ci := 1) (v := .int (nI d)) (C := RX1) (T := TX1) (N := 10) hx hb ht inX1 hown hK hP 0 rfl rfl 7 (by decide) (ht _ wf_X1_playDepth) (fun _ h9 => h9) rfl dX1_play_39 ?_
  refine lv_iconst (v := nI 1) hx hb dX1_play_42 (by decide) ?_
  refine lv_iadd hx hb dX1_play_43 ?_
  refine lv_nm (y := nI (d + 1)) (nI_add _ _) ?_
  refine va_put (D := D) (ci := 1) (v := .int (nI (d + 1))) (ty := .int) (C := RX1) (T := TX1) (N := 10) hx hb ht inX1 tyX1 tyX1_ok nmX1 hown hK hP hD hS 0 rfl rfl 7 (by decide) (ht _ wf_X1_playDepth) (fun _ h9 => h9) rfl (by decide +kernel) rfl rfl (Nat.le_of_ble_eq_true rfl) dX1_play_44 (fun H locs hP hD hS => ?_)
  have hP : va_P D clS [(od, .inr (1, [.int (nI n), .int (nI a), .int (nI (2 ^ n - 1 - a)), .ref og, .ref oy, .ref oz, .int (nI q), .int (nI (d + 1)), .int (nI (v + b.toNat * 2 ^ d)), .ref ot])), (og, .inr (0, [.int (nI n), .int (nI a), .ref ob, .ref oe])), (ob, .inl (cI, (2 ^ n), .inl (fun jq => nI ((sd_br Y Z q) jq)))), (oe, .inl (cZ, (2 * 2 ^ n), .inl (fun jq => bI ((sd_ew n a (fun w => sd_br Y Z q w == 0)) jq)))), (oy, .inl (cI, 24, .inl (fun jq => nI (Y jq)))), (oz, .inl (cI, 24, .inl (fun jq => nI (Z jq)))), (ot, .inl (cI, n, .inl T))] H := hP
  have hD : va_D A [(od, .inr (1, [.int (nI n), .int (nI a), .int (nI (2 ^ n - 1 - a)), .ref og, .ref oy, .ref oz, .int (nI q), .int (nI (d + 1)), .int (nI (v + b.toNat * 2 ^ d)), .ref ot])), (og, .inr (0, [.int (nI n), .int (nI a), .ref ob, .ref oe])), (ob, .inl (cI, (2 ^ n), .inl (fun jq => nI ((sd_br Y Z q) jq)))), (oe, .inl (cZ, (2 * 2 ^ n), .inl (fun jq => bI ((sd_ew n a (fun w => sd_br Y Z q w == 0)) jq)))), (oy, .inl (cI, 24, .inl (fun jq => nI (Y jq)))), (oz, .inl (cI, 24, .inl (fun jq => nI (Z jq)))), (ot, .inl (cI, n, .inl T))] := hD
  refine lv_aload_n hx hb dX1_play_47 rfl (lv_at hl 0 rfl) ?_
  refine va_get (D := D) (ci := 1) (v := .int (nI (d + 1))) (C := RX1) (T := TX1) (N := 10) hx hb ht inX1 hown hK hP 0 rfl rfl 7 (by decide) (ht _ wf_X1_playDepth) (fun _ h9 => h9) rfl dX1_play_48 ?_
  refine lv_iconst (v := nI 1) hx hb dX1_play_51 (by decide) ?_
  refine lv_isub hx hb dX1_play_52 ?_
  refine lv_nm (y := nI d) (nI_pred _) ?_
  exact W.iret hx hb hr (fun t ht2 _ => ⟨hw_ret (rfl), by rw [ht2]; exact hP, hS.F ht2⟩) hS.2.2 dX1_play_53

set_option maxHeartbeats 4000000 in
set_option maxRecDepth 100000 in
theorem c_undo_no (l : Launch) (D : va_G) (cI cZ : ClassId) (od og ob oe oy oz ot n a q d v : Nat) (Y Z : Nat → Nat) (T : Nat → Int32) (ok : dOk n a q d v Y Z) (hd0 : d = 0) : Met l yX1_undo (kX1_undo :: aW) { frames := 0, cells := 0, slots := 0, locals := 0 } (rPre [.ref od] D [(od, .inr (1, [.int (nI n), .int (nI a), .int (nI (2 ^ n - 1 - a)), .ref og, .ref oy, .ref oz, .int (nI q), .int (nI d), .int (nI v), .ref ot])), (og, .inr (0, [.int (nI n), .int (nI a), .ref ob, .ref oe])), (ob, .inl (cI, (2 ^ n), .inl (fun jq => nI ((sd_br Y Z q) jq)))), (oe, .inl (cZ, (2 * 2 ^ n), .inl (fun jq => bI ((sd_ew n a (fun w => sd_br Y Z q w == 0)) jq)))), (oy, .inl (cI, 24, .inl (fun jq => nI (Y jq)))), (oz, .inl (cI, 24, .inl (fun jq => nI (Z jq)))), (ot, .inl (cI, n, .inl T))] [(cI, .int), (cZ, .boolean)]) (QcRead (bI false)) 0 0 (fun _ => False) := by
  obtain ⟨hn1, hn, ha, h5, hq, hY, hZ, hd, hv⟩ := id ok
  have h2n := hw_p10 hn
  refine Met.ofW (cc := cX1_undo) (maxL := 1) (ret := (some .boolean)) (by decide) rfl ?_
  intro p e s m args below meth c s₁ Bo hml hpre
  obtain ⟨rfl, hP, hK, hN⟩ := hpre
  have hx := Bo.exec
  have hb := Bo.bytes
  have hr := Bo.returns
  have hts := atoms_spec (ws := kX1_undo :: aW) Bo.pre
  have ht : ∀ w ∈ aW, w.before _ s = true := fun w h => hts w (List.mem_cons_of_mem _ h)
  have hown : s.vm.findClass RX1 = some m.cls := findClass_of_methodNamed Bo.named
  have hlocks := Bo.notSynchronized
  have hP : va_P D clS [(od, .inr (1, [.int (nI n), .int (nI a), .int (nI (2 ^ n - 1 - a)), .ref og, .ref oy, .ref oz, .int (nI q), .int (nI d), .int (nI v), .ref ot])), (og, .inr (0, [.int (nI n), .int (nI a), .ref ob, .ref oe])), (ob, .inl (cI, (2 ^ n), .inl (fun jq => nI ((sd_br Y Z q) jq)))), (oe, .inl (cZ, (2 * 2 ^ n), .inl (fun jq => bI ((sd_ew n a (fun w => sd_br Y Z q w == 0)) jq)))), (oy, .inl (cI, 24, .inl (fun jq => nI (Y jq)))), (oz, .inl (cI, 24, .inl (fun jq => nI (Z jq)))), (ot, .inl (cI, n, .inl T))] s.heap := hP
  have hl := lv_entry ([.ref od]) (n := 1) (Nat.le_of_ble_eq_true rfl)
  rw [lg_entry_eq]
  generalize (lg_sl ([.ref od]) ++ List.replicate (1 - (lg_sl ([.ref od])).length) Slot.unset).toArray = ls at hl ⊢
  have hl : lv_has ls 1 [(0, .ref od)] := hl
  refine lv_aload_n hx hb dX1_undo_0 rfl (lv_at hl 0 rfl) ?_
  refine va_get (D := D) (ci := 1) (v := .int (nI d)) (C := RX1) (T := TX1) (N := 10) hx hb ht inX1 hown hK hP 0 rfl rfl 7 (by decide) (ht _ wf_X1_playDepth) (fun _ h9 => h9) rfl dX1_undo_1 ?_
  refine lv_if_gt (tgt := 9) hx hb dX1_undo_4 rfl (fun h1 => ?_) (fun h1 => ?_)
  · have h1 : 0 < d := hw_gt0 h1
    omega
  · have h1 : d = 0 := hw_ngt0 (by omega) h1
    refine lv_iconst (v := nI 0) hx hb dX1_undo_7 (by decide) ?_
    exact W.zret hx hb hr rfl (fun t ht2 _ => ⟨hw_ret (rfl), ht2⟩) (fun _ h => by cases h) dX1_undo_8

set_option maxHeartbeats 4000000 in
set_option maxRecDepth 100000 in
theorem c_undo (l : Launch) (D : va_G) (cI cZ : ClassId) (od og ob oe oy oz ot n a q e0 v : Nat) (Y Z : Nat → Nat) (T : Nat → Int32) (ok : dOk n a q (e0 + 1) v Y Z) (sz : Nat) : Met l yX1_undo (kX1_undo :: aW) { frames := 0, cells := 0, slots := 0, locals := 0 } (wPre [.ref od] D [(od, .inr (1, [.int (nI n), .int (nI a), .int (nI (2 ^ n - 1 - a)), .ref og, .ref oy, .ref oz, .int (nI q), .int (nI (e0 + 1)), .int (nI v), .ref ot])), (og, .inr (0, [.int (nI n), .int (nI a), .ref ob, .ref oe])), (ob, .inl (cI, (2 ^ n), .inl (fun jq => nI ((sd_br Y Z q) jq)))), (oe, .inl (cZ, (2 * 2 ^ n), .inl (fun jq => bI ((sd_ew n a (fun w => sd_br Y Z q w == 0)) jq)))), (oy, .inl (cI, 24, .inl (fun jq => nI (Y jq)))), (oz, .inl (cI, 24, .inl (fun jq => nI (Z jq)))), (ot, .inl (cI, n, .inl T))] [(cI, .int), (cZ, .boolean)] sz) (wQ (some (.int (bI true))) D [(od, .inr (1, [.int (nI n), .int (nI a), .int (nI (2 ^ n - 1 - a)), .ref og, .ref oy, .ref oz, .int (nI q), .int (nI e0), .int (nI (v % 2 ^ e0)), .ref ot])), (og, .inr (0, [.int (nI n), .int (nI a), .ref ob, .ref oe])), (ob, .inl (cI, (2 ^ n), .inl (fun jq => nI ((sd_br Y Z q) jq)))), (oe, .inl (cZ, (2 * 2 ^ n), .inl (fun jq => bI ((sd_ew n a (fun w => sd_br Y Z q w == 0)) jq)))), (oy, .inl (cI, 24, .inl (fun jq => nI (Y jq)))), (oz, .inl (cI, 24, .inl (fun jq => nI (Z jq)))), (ot, .inl (cI, n, .inl T))] (va_A [(od, .inr (1, [.int (nI n), .int (nI a), .int (nI (2 ^ n - 1 - a)), .ref og, .ref oy, .ref oz, .int (nI q), .int (nI (e0 + 1)), .int (nI v), .ref ot])), (og, .inr (0, [.int (nI n), .int (nI a), .ref ob, .ref oe])), (ob, .inl (cI, (2 ^ n), .inl (fun jq => nI ((sd_br Y Z q) jq)))), (oe, .inl (cZ, (2 * 2 ^ n), .inl (fun jq => bI ((sd_ew n a (fun w => sd_br Y Z q w == 0)) jq)))), (oy, .inl (cI, 24, .inl (fun jq => nI (Y jq)))), (oz, .inl (cI, 24, .inl (fun jq => nI (Z jq)))), (ot, .inl (cI, n, .inl T))] sz)) 0 0 (va_A [(od, .inr (1, [.int (nI n), .int (nI a), .int (nI (2 ^ n - 1 - a)), .ref og, .ref oy, .ref oz, .int (nI q), .int (nI (e0 + 1)), .int (nI v), .ref ot])), (og, .inr (0, [.int (nI n), .int (nI a), .ref ob, .ref oe])), (ob, .inl (cI, (2 ^ n), .inl (fun jq => nI ((sd_br Y Z q) jq)))), (oe, .inl (cZ, (2 * 2 ^ n), .inl (fun jq => bI ((sd_ew n a (fun w => sd_br Y Z q w == 0)) jq)))), (oy, .inl (cI, 24, .inl (fun jq => nI (Y jq)))), (oz, .inl (cI, 24, .inl (fun jq => nI (Z jq)))), (ot, .inl (cI, n, .inl T))] sz) := by
  obtain ⟨hn1, hn, ha, h5, hq, hY, hZ, hd, hv⟩ := id ok
  have h2n := hw_p10 hn
  refine Met.ofW (cc := cX1_undo) (maxL := 1) (ret := (some .boolean)) (by decide) rfl ?_
  intro p e s m args below meth c s₁ Bo hml hpre
  obtain ⟨rfl, hsz, hP, hK, hN, hD0⟩ := hpre
  subst hsz
  have hD := hD0.self (sz := s.heap.size)
  generalize hAe : va_A [(od, .inr (1, [.int (nI n), .int (nI a), .int (nI (2 ^ n - 1 - a)), .ref og, .ref oy, .ref oz, .int (nI q), .int (nI (e0 + 1)), .int (nI v), .ref ot])), (og, .inr (0, [.int (nI n), .int (nI a), .ref ob, .ref oe])), (ob, .inl (cI, (2 ^ n), .inl (fun jq => nI ((sd_br Y Z q) jq)))), (oe, .inl (cZ, (2 * 2 ^ n), .inl (fun jq => bI ((sd_ew n a (fun w => sd_br Y Z q w == 0)) jq)))), (oy, .inl (cI, 24, .inl (fun jq => nI (Y jq)))), (oz, .inl (cI, 24, .inl (fun jq => nI (Z jq)))), (ot, .inl (cI, n, .inl T))] s.heap.size = A at hD ⊢
  have hA : ∀ q : Nat, s.heap.size ≤ q → A q := fun q h => by rw [← hAe]; exact Or.inr h
  have hS : va_S A s.heap s.heap [] := va_S.rf
  have hx := Bo.exec
  have hb := Bo.bytes
  have hr := Bo.returns
  have hts := atoms_spec (ws := kX1_undo :: aW) Bo.pre
  have ht : ∀ w ∈ aW, w.before _ s = true := fun w h => hts w (List.mem_cons_of_mem _ h)
  have hown : s.vm.findClass RX1 = some m.cls := findClass_of_methodNamed Bo.named
  have hlocks := Bo.notSynchronized
  have hP : va_P D clS [(od, .inr (1, [.int (nI n), .int (nI a), .int (nI (2 ^ n - 1 - a)), .ref og, .ref oy, .ref oz, .int (nI q), .int (nI (e0 + 1)), .int (nI v), .ref ot])), (og, .inr (0, [.int (nI n), .int (nI a), .ref ob, .ref oe])), (ob, .inl (cI, (2 ^ n), .inl (fun jq => nI ((sd_br Y Z q) jq)))), (oe, .inl (cZ, (2 * 2 ^ n), .inl (fun jq => bI ((sd_ew n a (fun w => sd_br Y Z q w == 0)) jq)))), (oy, .inl (cI, 24, .inl (fun jq => nI (Y jq)))), (oz, .inl (cI, 24, .inl (fun jq => nI (Z jq)))), (ot, .inl (cI, n, .inl T))] s.heap := hP
  have hl := lv_entry ([.ref od]) (n := 1) (Nat.le_of_ble_eq_true rfl)
  rw [lg_entry_eq]
  generalize (lg_sl ([.ref od]) ++ List.replicate (1 - (lg_sl ([.ref od])).length) Slot.unset).toArray = ls at hl ⊢
  have hl : lv_has ls 1 [(0, .ref od)] := hl
  refine lv_aload_n hx hb dX1_undo_0 rfl (lv_at hl 0 rfl) ?_
  refine va_get (D := D) (ci := 1) (v := .int (nI (e0 + 1))) (C := RX1) (T := TX1) (N := 10) hx hb ht inX1 hown hK hP 0 rfl rfl 7 (by decide) (ht _ wf_X1_playDepth) (fun _ h9 => h9) rfl dX1_undo_1 ?_
  refine lv_if_gt (tgt := 9) hx hb dX1_undo_4 rfl (fun h1 => ?_) (fun h1 => ?_)
  · have h1 : 0 < e0 + 1 := hw_gt0 h1
    refine lv_aload_n hx hb dX1_undo_9 rfl (lv_at hl 0 rfl) ?_
    refine lv_dup hx hb dX1_undo_10 rfl ?_
    refine va_get (D := D) (ci := 1) (v := .int (nI (e0 + 1))) (C := RX1) (T := TX1) (N := 10) hx hb ht inX1 hown hK hP 0 rfl rfl 7 (by decide) (ht _ wf_X1_playDepth) (fun _ h9 => h9) rfl dX1_undo_11 ?_
    refine lv_iconst (v := nI 1) hx hb dX1_undo_14 (by decide) ?_
    refine lv_isub hx hb dX1_undo_15 ?_
    refine lv_nm (y := nI e0) (nI_pred _) ?_
    refine va_put (D := D) (ci := 1) (v := .int (nI e0)) (ty := .int) (C := RX1) (T := TX1) (N := 10) hx hb ht inX1 tyX1 tyX1_ok nmX1 hown hK hP hD hS 0 rfl rfl 7 (by decide) (ht _ wf_X1_playDepth) (fun _ h9 => h9) rfl (by decide +kernel) rfl rfl (Nat.le_of_ble_eq_true rfl) dX1_undo_16 (fun H locs hP hD hS => ?_)
    have hP : va_P D clS [(od, .inr (1, [.int (nI n), .int (nI a), .int (nI (2 ^ n - 1 - a)), .ref og, .ref oy, .ref oz, .int (nI q), .int (nI e0), .int (nI v), .ref ot])), (og, .inr (0, [.int (nI n), .int (nI a), .ref ob, .ref oe])), (ob, .inl (cI, (2 ^ n), .inl (fun jq => nI ((sd_br Y Z q) jq)))), (oe, .inl (cZ, (2 * 2 ^ n), .inl (fun jq => bI ((sd_ew n a (fun w => sd_br Y Z q w == 0)) jq)))), (oy, .inl (cI, 24, .inl (fun jq => nI (Y jq)))), (oz, .inl (cI, 24, .inl (fun jq => nI (Z jq)))), (ot, .inl (cI, n, .inl T))] H := hP
    have hD : va_D A [(od, .inr (1, [.int (nI n), .int (nI a), .int (nI (2 ^ n - 1 - a)), .ref og, .ref oy, .ref oz, .int (nI q), .int (nI e0), .int (nI v), .ref ot])), (og, .inr (0, [.int (nI n), .int (nI a), .ref ob, .ref oe])), (ob, .inl (cI, (2 ^ n), .inl (fun jq => nI ((sd_br Y Z q) jq)))), (oe, .inl (cZ, (2 * 2 ^ n), .inl (fun jq => bI ((sd_ew n a (fun w => sd_br Y Z q w == 0)) jq)))), (oy, .inl (cI, 24, .inl (fun jq => nI (Y jq)))), (oz, .inl (cI, 24, .inl (fun jq => nI (Z jq)))), (ot, .inl (cI, n, .inl T))] := hD
    refine lv_aload_n hx hb dX1_undo_19 rfl (lv_at hl 0 rfl) ?_
    refine lv_dup hx hb dX1_undo_20 rfl ?_
    refine va_get (D := D) (ci := 1) (v := .int (nI v)) (C := RX1) (T := TX1) (N := 10) hx hb ht inX1 hown hK hP 0 rfl rfl 8 (by decide) (ht _ wf_X1_playValues) (fun _ h9 => h9) rfl dX1_undo_21 ?_
    refine lv_iconst (v := nI 1) hx hb dX1_undo_24 (by decide) ?_
    refine lv_aload_n hx hb dX1_undo_25 rfl (lv_at hl 0 rfl) ?_
    refine va_get (D := D) (ci := 1) (v := .int (nI e0)) (C := RX1) (T := TX1) (N := 10) hx hb ht inX1 hown hK hP 0 rfl rfl 7 (by decide) (ht _ wf_X1_playDepth) (fun _ h9 => h9) rfl dX1_undo_26 ?_
    refine lv_ishl hx hb dX1_undo_29 ?_
    refine lv_nm (y := nI (2 ^ e0)) (hw_shl1' (by omega)) ?_
    refine lv_iconst (v := (-1)) hx hb dX1_undo_30 (by decide) ?_
    refine lv_ixor hx hb dX1_undo_31 ?_
    refine lv_iand hx hb dX1_undo_32 ?_
    refine lv_nm (y := nI (v % 2 ^ e0)) (hw_clr e0 (by omega) v hv) ?_
    refine va_put (D := D) (ci := 1) (v := .int (nI (v % 2 ^ e0))) (ty := .int) (C := RX1) (T := TX1) (N := 10) hx hb ht inX1 tyX1 tyX1_ok nmX1 hown hK hP hD hS 0 rfl rfl 8 (by decide) (ht _ wf_X1_playValues) (fun _ h9 => h9) rfl (by decide +kernel) rfl rfl (Nat.le_of_ble_eq_true rfl) dX1_undo_33 (fun H locs hP hD hS => ?_)
    have hP : va_P D clS [(od, .inr (1, [.int (nI n), .int (nI a), .int (nI (2 ^ n - 1 - a)), .ref og, .ref oy, .ref oz, .int (nI q), .int (nI e0), .int (nI (v % 2 ^ e0)), .ref ot])), (og, .inr (0, [.int (nI n), .int (nI a), .ref ob, .ref oe])), (ob, .inl (cI, (2 ^ n), .inl (fun jq => nI ((sd_br Y Z q) jq)))), (oe, .inl (cZ, (2 * 2 ^ n), .inl (fun jq => bI ((sd_ew n a (fun w => sd_br Y Z q w == 0)) jq)))), (oy, .inl (cI, 24, .inl (fun jq => nI (Y jq)))), (oz, .inl (cI, 24, .inl (fun jq => nI (Z jq)))), (ot, .inl (cI, n, .inl T))] H := hP
    have hD : va_D A [(od, .inr (1, [.int (nI n), .int (nI a), .int (nI (2 ^ n - 1 - a)), .ref og, .ref oy, .ref oz, .int (nI q), .int (nI e0), .int (nI (v % 2 ^ e0)), .ref ot])), (og, .inr (0, [.int (nI n), .int (nI a), .ref ob, .ref oe])), (ob, .inl (cI, (2 ^ n), .inl (fun jq => nI ((sd_br Y Z q) jq)))), (oe, .inl (cZ, (2 * 2 ^ n), .inl (fun jq => bI ((sd_ew n a (fun w => sd_br Y Z q w == 0)) jq)))), (oy, .inl (cI, 24, .inl (fun jq => nI (Y jq)))), (oz, .inl (cI, 24, .inl (fun jq => nI (Z jq)))), (ot, .inl (cI, n, .inl T))] := hD
    refine lv_iconst (v := nI 1) hx hb dX1_undo_36 (by decide) ?_
    exact W.zret hx hb hr rfl (fun t ht2 _ => ⟨hw_ret (rfl), by rw [ht2]; exact hP, hS.F ht2⟩) hS.2.2 dX1_undo_37
  · have h1 : e0 + 1 = 0 := hw_ngt0 (by omega) h1
    omega

set_option maxHeartbeats 4000000 in
set_option maxRecDepth 100000 in
theorem c_add_bad (l : Launch) (D : va_G) (cI cZ : ClassId) (od og ob oe oy oz ot n a q d v : Nat) (Y Z : Nat → Nat) (T : Nat → Int32) (ok : dOk n a q d v Y Z) (y0 z0 : Int32) (hno : ¬ (uN y0 < 2 ^ n ∧ uN z0 < 2 ^ n)) : Met l yX1_add (kX1_add :: aW) { frames := 4, cells := 0, slots := 0, locals := 93 } (rPre [.ref od, .int y0, .int z0] D [(od, .inr (1, [.int (nI n), .int (nI a), .int (nI (2 ^ n - 1 - a)), .ref og, .ref oy, .ref oz, .int (nI q), .int (nI d), .int (nI v), .ref ot])), (og, .inr (0, [.int (nI n), .int (nI a), .ref ob, .ref oe])), (ob, .inl (cI, (2 ^ n), .inl (fun jq => nI ((sd_br Y Z q) jq)))), (oe, .inl (cZ, (2 * 2 ^ n), .inl (fun jq => bI ((sd_ew n a (fun w => sd_br Y Z q w == 0)) jq)))), (oy, .inl (cI, 24, .inl (fun jq => nI (Y jq)))), (oz, .inl (cI, 24, .inl (fun jq => nI (Z jq)))), (ot, .inl (cI, n, .inl T))] [(cI, .int), (cZ, .boolean)]) (QcRead (-1)) 0 0 (fun _ => False) := by
  obtain ⟨hn1, hn, ha, h5, hq, hY, hZ, hd, hv⟩ := id ok
  have h2n := hw_p10 hn
  refine Met.ofW (cc := cX1_add) (maxL := 3) (ret := (some .int)) (by decide) rfl ?_
  intro p e s m args below meth c s₁ Bo hml hpre
  obtain ⟨rfl, hP, hK, hN⟩ := hpre
  have hx := Bo.exec
  have hb := Bo.bytes
  have hr := Bo.returns
  have hts := atoms_spec (ws := kX1_add :: aW) Bo.pre
  have ht : ∀ w ∈ aW, w.before _ s = true := fun w h => hts w (List.mem_cons_of_mem _ h)
  have hown : s.vm.findClass RX1 = some m.cls := findClass_of_methodNamed Bo.named
  have hlocks := Bo.notSynchronized
  have hP : va_P D clS [(od, .inr (1, [.int (nI n), .int (nI a), .int (nI (2 ^ n - 1 - a)), .ref og, .ref oy, .ref oz, .int (nI q), .int (nI d), .int (nI v), .ref ot])), (og, .inr (0, [.int (nI n), .int (nI a), .ref ob, .ref oe])), (ob, .inl (cI, (2 ^ n), .inl (fun jq => nI ((sd_br Y Z q) jq)))), (oe, .inl (cZ, (2 * 2 ^ n), .inl (fun jq => bI ((sd_ew n a (fun w => sd_br Y Z q w == 0)) jq)))), (oy, .inl (cI, 24, .inl (fun jq => nI (Y jq)))), (oz, .inl (cI, 24, .inl (fun jq => nI (Z jq)))), (ot, .inl (cI, n, .inl T))] s.heap := hP
  have hl := lv_entry ([.ref od, .int y0, .int z0]) (n := 3) (Nat.le_of_ble_eq_true rfl)
  rw [lg_entry_eq]
  generalize (lg_sl ([.ref od, .int y0, .int z0]) ++ List.replicate (3 - (lg_sl ([.ref od, .int y0, .int z0])).length) Slot.unset).toArray = ls at hl ⊢
  have hl : lv_has ls 3 [(0, .ref od), (1, .int y0), (2, .int z0)] := hl
  refine lv_aload_n hx hb dX1_add_0 rfl (lv_at hl 0 rfl) ?_
  refine lv_iload_n hx hb dX1_add_1 rfl (lv_at hl 1 rfl) ?_
  refine lv_iload_n hx hb dX1_add_2 rfl (lv_at hl 2 rfl) ?_
  refine hw_callR (va_runV (b := od) (As := [.int y0, .int z0]) (rest := []) ⟨hx, hb, hml, hown, ht⟩ (c_areSets l D cI cZ od og ob oe oy oz ot n a q d v Y Z T ok y0 z0) (cwV 2 ht (gV wm_X1_X1_areSets wi_X1_areSets ws_X1_areSets wn_X1 wc_X1_areSets) rfl rfl rfl (by decide +kernel) ⟨Nat.le_of_ble_eq_true rfl, Nat.le_of_ble_eq_true rfl⟩) (rPre_V 0 hP hK hN rfl rfl) rfl rfl hl.1 rfl (lv_room (Nat.le_of_ble_eq_true rfl)) dX1_add_3 ⟨Nat.zero_le _, Nat.zero_le _⟩) ?_
  refine lv_if_ne (tgt := 11) hx hb dX1_add_6 rfl (fun h1 => ?_) (fun h1 => ?_)
  · have h1 : (decide (uN y0 < 2 ^ n) && decide (uN z0 < 2 ^ n)) = true := bI_ne0 h1
    exact absurd (by simpa using h1) hno
  · have h1 : (decide (uN y0 < 2 ^ n) && decide (uN z0 < 2 ^ n)) = false := (bI_eq0 _).mp h1
    refine lv_iconst (v := (-1)) hx hb dX1_add_9 (by decide) ?_
    exact W.iret hx hb hr (fun t ht2 _ => ⟨hw_ret (rfl), ht2⟩) (fun _ h => by cases h) dX1_add_10

set_option maxHeartbeats 4000000 in
set_option maxRecDepth 100000 in
theorem c_add_full (l : Launch) (D : va_G) (cI cZ : ClassId) (od og ob oe oy oz ot n a q d v : Nat) (Y Z : Nat → Nat) (T : Nat → Int32) (ok : dOk n a q d v Y Z) (y z : Nat) (hy : y < 2 ^ n) (hz : z < 2 ^ n) (hfull : q = 24) : Met l yX1_add (kX1_add :: aW) { frames := 4, cells := 0, slots := 0, locals := 93 } (rPre [.ref od, .int (nI y), .int (nI z)] D [(od, .inr (1, [.int (nI n), .int (nI a), .int (nI (2 ^ n - 1 - a)), .ref og, .ref oy, .ref oz, .int (nI q), .int (nI d), .int (nI v), .ref ot])), (og, .inr (0, [.int (nI n), .int (nI a), .ref ob, .ref oe])), (ob, .inl (cI, (2 ^ n), .inl (fun jq => nI ((sd_br Y Z q) jq)))), (oe, .inl (cZ, (2 * 2 ^ n), .inl (fun jq => bI ((sd_ew n a (fun w => sd_br Y Z q w == 0)) jq)))), (oy, .inl (cI, 24, .inl (fun jq => nI (Y jq)))), (oz, .inl (cI, 24, .inl (fun jq => nI (Z jq)))), (ot, .inl (cI, n, .inl T))] [(cI, .int), (cZ, .boolean)]) (QcRead (-2)) 0 0 (fun _ => False) := by
  obtain ⟨hn1, hn, ha, h5, hq, hY, hZ, hd, hv⟩ := id ok
  have h2n := hw_p10 hn
  refine Met.ofW (cc := cX1_add) (maxL := 3) (ret := (some .int)) (by decide) rfl ?_
  intro p e s m args below meth c s₁ Bo hml hpre
  obtain ⟨rfl, hP, hK, hN⟩ := hpre
  have hx := Bo.exec
  have hb := Bo.bytes
  have hr := Bo.returns
  have hts := atoms_spec (ws := kX1_add :: aW) Bo.pre
  have ht : ∀ w ∈ aW, w.before _ s = true := fun w h => hts w (List.mem_cons_of_mem _ h)
  have hown : s.vm.findClass RX1 = some m.cls := findClass_of_methodNamed Bo.named
  have hlocks := Bo.notSynchronized
  have hP : va_P D clS [(od, .inr (1, [.int (nI n), .int (nI a), .int (nI (2 ^ n - 1 - a)), .ref og, .ref oy, .ref oz, .int (nI q), .int (nI d), .int (nI v), .ref ot])), (og, .inr (0, [.int (nI n), .int (nI a), .ref ob, .ref oe])), (ob, .inl (cI, (2 ^ n), .inl (fun jq => nI ((sd_br Y Z q) jq)))), (oe, .inl (cZ, (2 * 2 ^ n), .inl (fun jq => bI ((sd_ew n a (fun w => sd_br Y Z q w == 0)) jq)))), (oy, .inl (cI, 24, .inl (fun jq => nI (Y jq)))), (oz, .inl (cI, 24, .inl (fun jq => nI (Z jq)))), (ot, .inl (cI, n, .inl T))] s.heap := hP
  have hl := lv_entry ([.ref od, .int (nI y), .int (nI z)]) (n := 3) (Nat.le_of_ble_eq_true rfl)
  rw [lg_entry_eq]
  generalize (lg_sl ([.ref od, .int (nI y), .int (nI z)]) ++ List.replicate (3 - (lg_sl ([.ref od, .int (nI y), .int (nI z)])).length) Slot.unset).toArray = ls at hl ⊢
  have hl : lv_has ls 3 [(0, .ref od), (1, .int (nI y)), (2, .int (nI z))] := hl
  refine lv_aload_n hx hb dX1_add_0 rfl (lv_at hl 0 rfl) ?_
  refine lv_iload_n hx hb dX1_add_1 rfl (lv_at hl 1 rfl) ?_
  refine lv_iload_n hx hb dX1_add_2 rfl (lv_at hl 2 rfl) ?_
  refine hw_callR (va_runV (b := od) (As := [.int (nI y), .int (nI z)]) (rest := []) ⟨hx, hb, hml, hown, ht⟩ (c_areSets l D cI cZ od og ob oe oy oz ot n a q d v Y Z T ok (nI y) (nI z)) (cwV 2 ht (gV wm_X1_X1_areSets wi_X1_areSets ws_X1_areSets wn_X1 wc_X1_areSets) rfl rfl rfl (by decide +kernel) ⟨Nat.le_of_ble_eq_true rfl, Nat.le_of_ble_eq_true rfl⟩) (rPre_V 0 hP hK hN rfl rfl) rfl rfl hl.1 rfl (lv_room (Nat.le_of_ble_eq_true rfl)) dX1_add_3 ⟨Nat.zero_le _, Nat.zero_le _⟩) ?_
  refine lv_nm (y := bI true) (congrArg bI (by rw [uN_nI (by omega), uN_nI (by omega), decide_eq_true hy, decide_eq_true hz]; rfl)) ?_
  refine lv_if_ne (tgt := 11) hx hb dX1_add_6 rfl (fun _ => ?_) (fun hc => absurd (show true = false from (bI_eq0 _).mp hc) (by decide))
  refine lv_aload_n hx hb dX1_add_11 rfl (lv_at hl 0 rfl) ?_
  refine va_get (D := D) (ci := 1) (v := .int (nI q)) (C := RX1) (T := TX1) (N := 10) hx hb ht inX1 hown hK hP 0 rfl rfl 6 (by decide) (ht _ wf_X1_clauseCount) (fun _ h9 => h9) rfl dX1_add_12 ?_
  refine lv_bipush (v := nI 24) hx hb dX1_add_15 (by decide) ?_
  refine lv_icmp_lt (tgt := 23) hx hb dX1_add_17 rfl (fun hc => absurd (show q < 24 from (nI_ltI (by omega) (by omega)).mp hc) (by omega)) (fun _ => ?_)
  refine lv_bipush (v := (-2)) hx hb dX1_add_20 (by decide) ?_
  exact W.iret hx hb hr (fun t ht2 _ => ⟨hw_ret (rfl), ht2⟩) (fun _ h => by cases h) dX1_add_22

set_option maxHeartbeats 4000000 in
set_option maxRecDepth 100000 in
theorem c_add (l : Launch) (D : va_G) (cI cZ : ClassId) (od og ob oe oy oz ot n a q d v : Nat) (Y Z : Nat → Nat) (T : Nat → Int32) (ok : dOk n a q d v Y Z) (sz : Nat) (y z : Nat) (hy : y < 2 ^ n) (hz : z < 2 ^ n) (hfull : q < 24) : Met l yX1_add (kX1_add :: aW) { frames := 4, cells := 0, slots := 0, locals := 93 } (wPre [.ref od, .int (nI y), .int (nI z)] D [(od, .inr (1, [.int (nI n), .int (nI a), .int (nI (2 ^ n - 1 - a)), .ref og, .ref oy, .ref oz, .int (nI q), .int (nI d), .int (nI v), .ref ot])), (og, .inr (0, [.int (nI n), .int (nI a), .ref ob, .ref oe])), (ob, .inl (cI, (2 ^ n), .inl (fun jq => nI ((sd_br Y Z q) jq)))), (oe, .inl (cZ, (2 * 2 ^ n), .inl (fun jq => bI ((sd_ew n a (fun w => sd_br Y Z q w == 0)) jq)))), (oy, .inl (cI, 24, .inl (fun jq => nI (Y jq)))), (oz, .inl (cI, 24, .inl (fun jq => nI (Z jq)))), (ot, .inl (cI, n, .inl T))] [(cI, .int), (cZ, .boolean)] sz) (wQ (some (.int (nI q))) D [(od, .inr (1, [.int (nI n), .int (nI a), .int (nI (2 ^ n - 1 - a)), .ref og, .ref oy, .ref oz, .int (nI (q + 1)), .int (nI d), .int (nI v), .ref ot])), (og, .inr (0, [.int (nI n), .int (nI a), .ref ob, .ref oe])), (ob, .inl (cI, (2 ^ n), .inl (fun jq => nI ((sd_br (va_up Y q y) (va_up Z q z) (q + 1)) jq)))), (oe, .inl (cZ, (2 * 2 ^ n), .inl (fun jq => bI ((sd_ew n a (fun w => sd_br (va_up Y q y) (va_up Z q z) (q + 1) w == 0)) jq)))), (oy, .inl (cI, 24, .inl (fun jq => nI ((va_up Y q y) jq)))), (oz, .inl (cI, 24, .inl (fun jq => nI ((va_up Z q z) jq)))), (ot, .inl (cI, n, .inl T))] (va_A [(od, .inr (1, [.int (nI n), .int (nI a), .int (nI (2 ^ n - 1 - a)), .ref og, .ref oy, .ref oz, .int (nI q), .int (nI d), .int (nI v), .ref ot])), (og, .inr (0, [.int (nI n), .int (nI a), .ref ob, .ref oe])), (ob, .inl (cI, (2 ^ n), .inl (fun jq => nI ((sd_br Y Z q) jq)))), (oe, .inl (cZ, (2 * 2 ^ n), .inl (fun jq => bI ((sd_ew n a (fun w => sd_br Y Z q w == 0)) jq)))), (oy, .inl (cI, 24, .inl (fun jq => nI (Y jq)))), (oz, .inl (cI, 24, .inl (fun jq => nI (Z jq)))), (ot, .inl (cI, n, .inl T))] sz)) 0 0 (va_A [(od, .inr (1, [.int (nI n), .int (nI a), .int (nI (2 ^ n - 1 - a)), .ref og, .ref oy, .ref oz, .int (nI q), .int (nI d), .int (nI v), .ref ot])), (og, .inr (0, [.int (nI n), .int (nI a), .ref ob, .ref oe])), (ob, .inl (cI, (2 ^ n), .inl (fun jq => nI ((sd_br Y Z q) jq)))), (oe, .inl (cZ, (2 * 2 ^ n), .inl (fun jq => bI ((sd_ew n a (fun w => sd_br Y Z q w == 0)) jq)))), (oy, .inl (cI, 24, .inl (fun jq => nI (Y jq)))), (oz, .inl (cI, 24, .inl (fun jq => nI (Z jq)))), (ot, .inl (cI, n, .inl T))] sz) := by
  obtain ⟨hn1, hn, ha, h5, hq, hY, hZ, hd, hv⟩ := id ok
  have h2n := hw_p10 hn
  refine Met.ofW (cc := cX1_add) (maxL := 3) (ret := (some .int)) (by decide) rfl ?_
  intro p e s m args below meth c s₁ Bo hml hpre
  obtain ⟨rfl, hsz, hP, hK, hN, hD0⟩ := hpre
  subst hsz
  have hD := hD0.self (sz := s.heap.size)
  generalize hAe : va_A [(od, .inr (1, [.int (nI n), .int (nI a), .int (nI (2 ^ n - 1 - a)), .ref og, .ref oy, .ref oz, .int (nI q), .int (nI d), .int (nI v), .ref ot])), (og, .inr (0, [.int (nI n), .int (nI a), .ref ob, .ref oe])), (ob, .inl (cI, (2 ^ n), .inl (fun jq => nI ((sd_br Y Z q) jq)))), (oe, .inl (cZ, (2 * 2 ^ n), .inl (fun jq => bI ((sd_ew n a (fun w => sd_br Y Z q w == 0)) jq)))), (oy, .inl (cI, 24, .inl (fun jq => nI (Y jq)))), (oz, .inl (cI, 24, .inl (fun jq => nI (Z jq)))), (ot, .inl (cI, n, .inl T))] s.heap.size = A at hD ⊢
  have hA : ∀ q : Nat, s.heap.size ≤ q → A q := fun q h => by rw [← hAe]; exact Or.inr h
  have hS : va_S A s.heap s.heap [] := va_S.rf
  have hx := Bo.exec
  have hb := Bo.bytes
  have hr := Bo.returns
  have hts := atoms_spec (ws := kX1_add :: aW) Bo.pre
  have ht : ∀ w ∈ aW, w.before _ s = true := fun w h => hts w (List.mem_cons_of_mem _ h)
  have hown : s.vm.findClass RX1 = some m.cls := findClass_of_methodNamed Bo.named
  have hlocks := Bo.notSynchronized
  have hP : va_P D clS [(od, .inr (1, [.int (nI n), .int (nI a), .int (nI (2 ^ n - 1 - a)), .ref og, .ref oy, .ref oz, .int (nI q), .int (nI d), .int (nI v), .ref ot])), (og, .inr (0, [.int (nI n), .int (nI a), .ref ob, .ref oe])), (ob, .inl (cI, (2 ^ n), .inl (fun jq => nI ((sd_br Y Z q) jq)))), (oe, .inl (cZ, (2 * 2 ^ n), .inl (fun jq => bI ((sd_ew n a (fun w => sd_br Y Z q w == 0)) jq)))), (oy, .inl (cI, 24, .inl (fun jq => nI (Y jq)))), (oz, .inl (cI, 24, .inl (fun jq => nI (Z jq)))), (ot, .inl (cI, n, .inl T))] s.heap := hP
  have hl := lv_entry ([.ref od, .int (nI y), .int (nI z)]) (n := 3) (Nat.le_of_ble_eq_true rfl)
  rw [lg_entry_eq]
  generalize (lg_sl ([.ref od, .int (nI y), .int (nI z)]) ++ List.replicate (3 - (lg_sl ([.ref od, .int (nI y), .int (nI z)])).length) Slot.unset).toArray = ls at hl ⊢
  have hl : lv_has ls 3 [(0, .ref od), (1, .int (nI y)), (2, .int (nI z))] := hl
  refine lv_aload_n hx hb dX1_add_0 rfl (lv_at hl 0 rfl) ?_
  refine lv_iload_n hx hb dX1_add_1 rfl (lv_at hl 1 rfl) ?_
  refine lv_iload_n hx hb dX1_add_2 rfl (lv_at hl 2 rfl) ?_
  refine hw_callR (va_runV (b := od) (As := [.int (nI y), .int (nI z)]) (rest := []) ⟨hx, hb, hml, hown, ht⟩ (c_areSets l D cI cZ od og ob oe oy oz ot n a q d v Y Z T ok (nI y) (nI z)) (cwV 2 ht (gV wm_X1_X1_areSets wi_X1_areSets ws_X1_areSets wn_X1 wc_X1_areSets) rfl rfl rfl (by decide +kernel) ⟨Nat.le_of_ble_eq_true rfl, Nat.le_of_ble_eq_true rfl⟩) (rPre_V 0 hP hK hN rfl rfl) rfl rfl hl.1 rfl (lv_room (Nat.le_of_ble_eq_true rfl)) dX1_add_3 ⟨Nat.zero_le _, Nat.zero_le _⟩) ?_
  refine lv_nm (y := bI true) (congrArg bI (by rw [uN_nI (by omega), uN_nI (by omega), decide_eq_true hy, decide_eq_true hz]; rfl)) ?_
  refine lv_if_ne (tgt := 11) hx hb dX1_add_6 rfl (fun _ => ?_) (fun hc => absurd (show true = false from (bI_eq0 _).mp hc) (by decide))
  refine lv_aload_n hx hb dX1_add_11 rfl (lv_at hl 0 rfl) ?_
  refine va_get (D := D) (ci := 1) (v := .int (nI q)) (C := RX1) (T := TX1) (N := 10) hx hb ht inX1 hown hK hP 0 rfl rfl 6 (by decide) (ht _ wf_X1_clauseCount) (fun _ h9 => h9) rfl dX1_add_12 ?_
  refine lv_bipush (v := nI 24) hx hb dX1_add_15 (by decide) ?_
  refine lv_icmp_lt (tgt := 23) hx hb dX1_add_17 rfl (fun _ => ?_) (fun hc => absurd (show ¬ (q < 24) from fun h9 => hc ((nI_ltI (by omega) (by omega)).mpr h9)) (by omega))
  refine lv_aload_n hx hb dX1_add_23 rfl (lv_at hl 0 rfl) ?_
  refine va_get (D := D) (ci := 1) (v := .ref oy) (C := RX1) (T := TX1) (N := 10) hx hb ht inX1 hown hK hP 0 rfl rfl 4 (by decide) (ht _ wf_X1_yesSets) (fun _ h9 => h9) rfl dX1_add_24 ?_
  refine lv_aload_n hx hb dX1_add_27 rfl (lv_at hl 0 rfl) ?_
  refine va_get (D := D) (ci := 1) (v := .int (nI q)) (C := RX1) (T := TX1) (N := 10) hx hb ht inX1 hown hK hP 0 rfl rfl 6 (by decide) (ht _ wf_X1_clauseCount) (fun _ h9 => h9) rfl dX1_add_28 ?_
  refine lv_iload_n hx hb dX1_add_31 rfl (lv_at hl 1 rfl) ?_
  refine na_nast (f := Y) (x := y) hx hb hK hP hD hS 4 0 rfl rfl (j := q) (by omega) (by omega) dX1_add_32 (fun H locs hP hD hS => ?_)
  have hP : va_P D clS [(od, .inr (1, [.int (nI n), .int (nI a), .int (nI (2 ^ n - 1 - a)), .ref og, .ref oy, .ref oz, .int (nI q), .int (nI d), .int (nI v), .ref ot])), (og, .inr (0, [.int (nI n), .int (nI a), .ref ob, .ref oe])), (ob, .inl (cI, (2 ^ n), .inl (fun jq => nI ((sd_br Y Z q) jq)))), (oe, .inl (cZ, (2 * 2 ^ n), .inl (fun jq => bI ((sd_ew n a (fun w => sd_br Y Z q w == 0)) jq)))), (oy, .inl (cI, 24, .inl (fun jq => nI ((va_up Y q y) jq)))), (oz, .inl (cI, 24, .inl (fun jq => nI (Z jq)))), (ot, .inl (cI, n, .inl T))] H := hP
  have hD : va_D A [(od, .inr (1, [.int (nI n), .int (nI a), .int (nI (2 ^ n - 1 - a)), .ref og, .ref oy, .ref oz, .int (nI q), .int (nI d), .int (nI v), .ref ot])), (og, .inr (0, [.int (nI n), .int (nI a), .ref ob, .ref oe])), (ob, .inl (cI, (2 ^ n), .inl (fun jq => nI ((sd_br Y Z q) jq)))), (oe, .inl (cZ, (2 * 2 ^ n), .inl (fun jq => bI ((sd_ew n a (fun w => sd_br Y Z q w == 0)) jq)))), (oy, .inl (cI, 24, .inl (fun jq => nI ((va_up Y q y) jq)))), (oz, .inl (cI, 24, .inl (fun jq => nI (Z jq)))), (ot, .inl (cI, n, .inl T))] := hD
  refine lv_aload_n hx hb dX1_add_33 rfl (lv_at hl 0 rfl) ?_
  refine va_get (D := D) (ci := 1) (v := .ref oz) (C := RX1) (T := TX1) (N := 10) hx hb ht inX1 hown hK hP 0 rfl rfl 5 (by decide) (ht _ wf_X1_noSets) (fun _ h9 => h9) rfl dX1_add_34 ?_
  refine lv_aload_n hx hb dX1_add_37 rfl (lv_at hl 0 rfl) ?_
  refine va_get (D := D) (ci := 1) (v := .int (nI q)) (C := RX1) (T := TX1) (N := 10) hx hb ht inX1 hown hK hP 0 rfl rfl 6 (by decide) (ht _ wf_X1_clauseCount) (fun _ h9 => h9) rfl dX1_add_38 ?_
  refine lv_iload_n hx hb dX1_add_41 rfl (lv_at hl 2 rfl) ?_
  refine na_nast (f := Z) (x := z) hx hb hK hP hD hS 5 0 rfl rfl (j := q) (by omega) (by omega) dX1_add_42 (fun H locs hP hD hS => ?_)
  have hP : va_P D clS [(od, .inr (1, [.int (nI n), .int (nI a), .int (nI (2 ^ n - 1 - a)), .ref og, .ref oy, .ref oz, .int (nI q), .int (nI d), .int (nI v), .ref ot])), (og, .inr (0, [.int (nI n), .int (nI a), .ref ob, .ref oe])), (ob, .inl (cI, (2 ^ n), .inl (fun jq => nI ((sd_br Y Z q) jq)))), (oe, .inl (cZ, (2 * 2 ^ n), .inl (fun jq => bI ((sd_ew n a (fun w => sd_br Y Z q w == 0)) jq)))), (oy, .inl (cI, 24, .inl (fun jq => nI ((va_up Y q y) jq)))), (oz, .inl (cI, 24, .inl (fun jq => nI ((va_up Z q z) jq)))), (ot, .inl (cI, n, .inl T))] H := hP
  have hD : va_D A [(od, .inr (1, [.int (nI n), .int (nI a), .int (nI (2 ^ n - 1 - a)), .ref og, .ref oy, .ref oz, .int (nI q), .int (nI d), .int (nI v), .ref ot])), (og, .inr (0, [.int (nI n), .int (nI a), .ref ob, .ref oe])), (ob, .inl (cI, (2 ^ n), .inl (fun jq => nI ((sd_br Y Z q) jq)))), (oe, .inl (cZ, (2 * 2 ^ n), .inl (fun jq => bI ((sd_ew n a (fun w => sd_br Y Z q w == 0)) jq)))), (oy, .inl (cI, 24, .inl (fun jq => nI ((va_up Y q y) jq)))), (oz, .inl (cI, 24, .inl (fun jq => nI ((va_up Z q z) jq)))), (ot, .inl (cI, n, .inl T))] := hD
  refine lv_aload_n hx hb dX1_add_43 rfl (lv_at hl 0 rfl) ?_
  refine lv_dup hx hb dX1_add_44 rfl ?_
  refine va_get (D := D) (ci := 1) (v := .int (nI q)) (C := RX1) (T := TX1) (N := 10) hx hb ht inX1 hown hK hP 0 rfl rfl 6 (by decide) (ht _ wf_X1_clauseCount) (fun _ h9 => h9) rfl dX1_add_45 ?_
  refine lv_iconst (v := nI 1) hx hb dX1_add_48 (by decide) ?_
  refine lv_iadd hx hb dX1_add_49 ?_
  refine lv_nm (y := nI (q + 1)) (nI_add _ _) ?_
  refine va_put (D := D) (ci := 1) (v := .int (nI (q + 1))) (ty := .int) (C := RX1) (T := TX1) (N := 10) hx hb ht inX1 tyX1 tyX1_ok nmX1 hown hK hP hD hS 0 rfl rfl 6 (by decide) (ht _ wf_X1_clauseCount) (fun _ h9 => h9) rfl (by decide +kernel) rfl rfl (Nat.le_of_ble_eq_true rfl) dX1_add_50 (fun H locs hP hD hS => ?_)
  have hP : va_P D clS [(od, .inr (1, [.int (nI n), .int (nI a), .int (nI (2 ^ n - 1 - a)), .ref og, .ref oy, .ref oz, .int (nI (q + 1)), .int (nI d), .int (nI v), .ref ot])), (og, .inr (0, [.int (nI n), .int (nI a), .ref ob, .ref oe])), (ob, .inl (cI, (2 ^ n), .inl (fun jq => nI ((sd_br Y Z q) jq)))), (oe, .inl (cZ, (2 * 2 ^ n), .inl (fun jq => bI ((sd_ew n a (fun w => sd_br Y Z q w == 0)) jq)))), (oy, .inl (cI, 24, .inl (fun jq => nI ((va_up Y q y) jq)))), (oz, .inl (cI, 24, .inl (fun jq => nI ((va_up Z q z) jq)))), (ot, .inl (cI, n, .inl T))] H := hP
  have hD : va_D A [(od, .inr (1, [.int (nI n), .int (nI a), .int (nI (2 ^ n - 1 - a)), .ref og, .ref oy, .ref oz, .int (nI (q + 1)), .int (nI d), .int (nI v), .ref ot])), (og, .inr (0, [.int (nI n), .int (nI a), .ref ob, .ref oe])), (ob, .inl (cI, (2 ^ n), .inl (fun jq => nI ((sd_br Y Z q) jq)))), (oe, .inl (cZ, (2 * 2 ^ n), .inl (fun jq => bI ((sd_ew n a (fun w => sd_br Y Z q w == 0)) jq)))), (oy, .inl (cI, 24, .inl (fun jq => nI ((va_up Y q y) jq)))), (oz, .inl (cI, 24, .inl (fun jq => nI ((va_up Z q z) jq)))), (ot, .inl (cI, n, .inl T))] := hD
  refine lv_aload_n hx hb dX1_add_53 rfl (lv_at hl 0 rfl) ?_
  refine va_get (D := D) (ci := 1) (v := .ref og) (C := RX1) (T := TX1) (N := 10) hx hb ht inX1 hown hK hP 0 rfl rfl 3 (by decide) (ht _ wf_X1_game) (fun _ h9 => h9) rfl dX1_add_54 ?_
  refine lv_iload_n hx hb dX1_add_57 rfl (lv_at hl 1 rfl) ?_
  refine lv_iload_n hx hb dX1_add_58 rfl (lv_at hl 2 rfl) ?_
  refine lv_iconst (v := nI 1) hx hb dX1_add_59 (by decide) ?_
  refine hw_call (wc := [(og, .inr (0, [.int (nI n), .int (nI a), .ref ob, .ref oe])), (ob, .inl (cI, (2 ^ n), .inl (fun jq => nI ((sd_br Y Z q) jq)))), (oe, .inl (cZ, (2 * 2 ^ n), .inl (fun jq => bI ((sd_ew n a (fun w => sd_br Y Z q w == 0)) jq))))]) (wc' := [(og, .inr (0, [.int (nI n), .int (nI a), .ref ob, .ref oe])), (ob, .inl (cI, (2 ^ n), .inl (fun jq => nI ((sd_br (va_up Y q y) (va_up Z q z) (q + 1)) jq)))), (oe, .inl (cZ, (2 * 2 ^ n), .inl (fun jq => bI ((sd_ew n a (fun w => sd_br (va_up Y q y) (va_up Z q z) (q + 1) w == 0)) jq))))]) (wr := [(od, .inr (1, [.int (nI n), .int (nI a), .int (nI (2 ^ n - 1 - a)), .ref og, .ref oy, .ref oz, .int (nI (q + 1)), .int (nI d), .int (nI v), .ref ot])), (oy, .inl (cI, 24, .inl (fun jq => nI ((va_up Y q y) jq)))), (oz, .inl (cI, 24, .inl (fun jq => nI ((va_up Z q z) jq)))), (ot, .inl (cI, n, .inl T))]) (ws' := [(od, .inr (1, [.int (nI n), .int (nI a), .int (nI (2 ^ n - 1 - a)), .ref og, .ref oy, .ref oz, .int (nI (q + 1)), .int (nI d), .int (nI v), .ref ot])), (og, .inr (0, [.int (nI n), .int (nI a), .ref ob, .ref oe])), (ob, .inl (cI, (2 ^ n), .inl (fun jq => nI ((sd_br (va_up Y q y) (va_up Z q z) (q + 1)) jq)))), (oe, .inl (cZ, (2 * 2 ^ n), .inl (fun jq => bI ((sd_ew n a (fun w => sd_br (va_up Y q y) (va_up Z q z) (q + 1) w == 0)) jq)))), (oy, .inl (cI, 24, .inl (fun jq => nI ((va_up Y q y) jq)))), (oz, .inl (cI, 24, .inl (fun jq => nI ((va_up Z q z) jq)))), (ot, .inl (cI, n, .inl T))]) (va_runV (b := og) (As := [.int (nI y), .int (nI z), .int (nI 1)]) (rest := []) ⟨hx, hb, hml, hown, ht⟩ (c_change l D cI cZ og ob oe n a y z H.size (nI 1) (sd_br Y Z q) (sd_br (va_up Y q y) (va_up Z q z) (q + 1)) (sd_ew n a (fun w => sd_br Y Z q w == 0)) hn1 hn ha hy hz (fun u _ => sd_brl Y Z (by omega) u) (fun u _ => sd_brl _ _ (by omega) u) (fun u _ => by rw [sd_br_up]; exact sd_in rfl) rfl) (cwV 3 ht (gV wm_X1_X0_change wi_X0_change ws_X0_change wn_X0 wc_X0_change) rfl rfl rfl (by decide +kernel) ⟨Nat.le_of_ble_eq_true rfl, Nat.le_of_ble_eq_true rfl⟩) (wPre_V 0 (hP.sub [1, 2, 3] rfl) (hD.sub [1, 2, 3] (by decide) rfl) hK hN rfl rfl) rfl rfl hl.1 rfl (lv_room (Nat.le_of_ble_eq_true rfl)) dX1_add_60 ⟨Nat.zero_le _, Nat.zero_le _⟩) hP hD hS hA [1, 2, 3] [0, 4, 5, 6] [0, 4, 5, 6, 1, 2, 3] rfl rfl (by decide) (by decide) (by decide) rfl rfl rfl (fun H locs hP hD hS => ?_)
  have hP : va_P D clS [(od, .inr (1, [.int (nI n), .int (nI a), .int (nI (2 ^ n - 1 - a)), .ref og, .ref oy, .ref oz, .int (nI (q + 1)), .int (nI d), .int (nI v), .ref ot])), (og, .inr (0, [.int (nI n), .int (nI a), .ref ob, .ref oe])), (ob, .inl (cI, (2 ^ n), .inl (fun jq => nI ((sd_br (va_up Y q y) (va_up Z q z) (q + 1)) jq)))), (oe, .inl (cZ, (2 * 2 ^ n), .inl (fun jq => bI ((sd_ew n a (fun w => sd_br (va_up Y q y) (va_up Z q z) (q + 1) w == 0)) jq)))), (oy, .inl (cI, 24, .inl (fun jq => nI ((va_up Y q y) jq)))), (oz, .inl (cI, 24, .inl (fun jq => nI ((va_up Z q z) jq)))), (ot, .inl (cI, n, .inl T))] H := hP
  have hD : va_D A [(od, .inr (1, [.int (nI n), .int (nI a), .int (nI (2 ^ n - 1 - a)), .ref og, .ref oy, .ref oz, .int (nI (q + 1)), .int (nI d), .int (nI v), .ref ot])), (og, .inr (0, [.int (nI n), .int (nI a), .ref ob, .ref oe])), (ob, .inl (cI, (2 ^ n), .inl (fun jq => nI ((sd_br (va_up Y q y) (va_up Z q z) (q + 1)) jq)))), (oe, .inl (cZ, (2 * 2 ^ n), .inl (fun jq => bI ((sd_ew n a (fun w => sd_br (va_up Y q y) (va_up Z q z) (q + 1) w == 0)) jq)))), (oy, .inl (cI, 24, .inl (fun jq => nI ((va_up Y q y) jq)))), (oz, .inl (cI, 24, .inl (fun jq => nI ((va_up Z q z) jq)))), (ot, .inl (cI, n, .inl T))] := hD
  refine W.eq (g2 := F0 m 63 ls []) rfl ?_
  refine lv_aload_n hx hb dX1_add_63 rfl (lv_at hl 0 rfl) ?_
  refine va_get (D := D) (ci := 1) (v := .int (nI (q + 1))) (C := RX1) (T := TX1) (N := 10) hx hb ht inX1 hown hK hP 0 rfl rfl 6 (by decide) (ht _ wf_X1_clauseCount) (fun _ h9 => h9) rfl dX1_add_64 ?_
  refine lv_iconst (v := nI 1) hx hb dX1_add_67 (by decide) ?_
  refine lv_isub hx hb dX1_add_68 ?_
  refine lv_nm (y := nI q) (nI_pred _) ?_
  exact W.iret hx hb hr (fun t ht2 _ => ⟨hw_ret (rfl), by rw [ht2]; exact hP, hS.F ht2⟩) hS.2.2 dX1_add_69

set_option maxHeartbeats 4000000 in
set_option maxRecDepth 100000 in
theorem c_drop_no (l : Launch) (D : va_G) (cI cZ : ClassId) (od og ob oe oy oz ot n a q d v : Nat) (Y Z : Nat → Nat) (T : Nat → Int32) (ok : dOk n a q d v Y Z) (x : Int32) (hno : ¬ uN x < q) : Met l yX1_drop (kX1_drop :: aW) { frames := 4, cells := 0, slots := 0, locals := 93 } (rPre [.ref od, .int x] D [(od, .inr (1, [.int (nI n), .int (nI a), .int (nI (2 ^ n - 1 - a)), .ref og, .ref oy, .ref oz, .int (nI q), .int (nI d), .int (nI v), .ref ot])), (og, .inr (0, [.int (nI n), .int (nI a), .ref ob, .ref oe])), (ob, .inl (cI, (2 ^ n), .inl (fun jq => nI ((sd_br Y Z q) jq)))), (oe, .inl (cZ, (2 * 2 ^ n), .inl (fun jq => bI ((sd_ew n a (fun w => sd_br Y Z q w == 0)) jq)))), (oy, .inl (cI, 24, .inl (fun jq => nI (Y jq)))), (oz, .inl (cI, 24, .inl (fun jq => nI (Z jq)))), (ot, .inl (cI, n, .inl T))] [(cI, .int), (cZ, .boolean)]) (QcRead (bI false)) 0 0 (fun _ => False) := by
  obtain ⟨hn1, hn, ha, h5, hq, hY, hZ, hd, hv⟩ := id ok
  have h2n := hw_p10 hn
  refine Met.ofW (cc := cX1_drop) (maxL := 3) (ret := (some .boolean)) (by decide) rfl ?_
  intro p e s m args below meth c s₁ Bo hml hpre
  obtain ⟨rfl, hP, hK, hN⟩ := hpre
  have hx := Bo.exec
  have hb := Bo.bytes
  have hr := Bo.returns
  have hts := atoms_spec (ws := kX1_drop :: aW) Bo.pre
  have ht : ∀ w ∈ aW, w.before _ s = true := fun w h => hts w (List.mem_cons_of_mem _ h)
  have hown : s.vm.findClass RX1 = some m.cls := findClass_of_methodNamed Bo.named
  have hlocks := Bo.notSynchronized
  have hP : va_P D clS [(od, .inr (1, [.int (nI n), .int (nI a), .int (nI (2 ^ n - 1 - a)), .ref og, .ref oy, .ref oz, .int (nI q), .int (nI d), .int (nI v), .ref ot])), (og, .inr (0, [.int (nI n), .int (nI a), .ref ob, .ref oe])), (ob, .inl (cI, (2 ^ n), .inl (fun jq => nI ((sd_br Y Z q) jq)))), (oe, .inl (cZ, (2 * 2 ^ n), .inl (fun jq => bI ((sd_ew n a (fun w => sd_br Y Z q w == 0)) jq)))), (oy, .inl (cI, 24, .inl (fun jq => nI (Y jq)))), (oz, .inl (cI, 24, .inl (fun jq => nI (Z jq)))), (ot, .inl (cI, n, .inl T))] s.heap := hP
  have hl := lv_entry ([.ref od, .int x]) (n := 3) (Nat.le_of_ble_eq_true rfl)
  rw [lg_entry_eq]
  generalize (lg_sl ([.ref od, .int x]) ++ List.replicate (3 - (lg_sl ([.ref od, .int x])).length) Slot.unset).toArray = ls at hl ⊢
  have hl : lv_has ls 3 [(0, .ref od), (1, .int x)] := hl
  refine lv_aload_n hx hb dX1_drop_0 rfl (lv_at hl 0 rfl) ?_
  refine lv_iload_n hx hb dX1_drop_1 rfl (lv_at hl 1 rfl) ?_
  refine hw_callR (va_runV (b := od) (As := [.int x]) (rest := []) ⟨hx, hb, hml, hown, ht⟩ (c_isClause l D cI cZ od og ob oe oy oz ot n a q d v Y Z T ok x) (cwV 1 ht (gV wm_X1_X1_isClause wi_X1_isClause ws_X1_isClause wn_X1 wc_X1_isClause) rfl rfl rfl (by decide +kernel) ⟨Nat.le_of_ble_eq_true rfl, Nat.le_of_ble_eq_true rfl⟩) (rPre_V 0 hP hK hN rfl rfl) rfl rfl hl.1 rfl (lv_room (Nat.le_of_ble_eq_true rfl)) dX1_drop_2 ⟨Nat.zero_le _, Nat.zero_le _⟩) ?_
  refine lv_if_ne (tgt := 10) hx hb dX1_drop_5 rfl (fun h1 => ?_) (fun h1 => ?_)
  · have h1 : (decide (uN x < q)) = true := bI_ne0 h1
    exact absurd (of_decide_eq_true h1) hno
  · have h1 : (decide (uN x < q)) = false := (bI_eq0 _).mp h1
    refine lv_iconst (v := nI 0) hx hb dX1_drop_8 (by decide) ?_
    exact W.zret hx hb hr rfl (fun t ht2 _ => ⟨hw_ret (rfl), ht2⟩) (fun _ h => by cases h) dX1_drop_9

set_option maxHeartbeats 4000000 in
set_option maxRecDepth 100000 in
theorem c_idle_no (l : Launch) (D : va_G) (cI cZ : ClassId) (od og ob oe oy oz ot n a q d v : Nat) (Y Z : Nat → Nat) (T : Nat → Int32) (ok : dOk n a q d v Y Z) (x : Int32) (hno : ¬ uN x < q) : Met l yX1_idle (kX1_idle :: aW) { frames := 5, cells := 0, slots := 0, locals := 118 } (rPre [.ref od, .int x] D [(od, .inr (1, [.int (nI n), .int (nI a), .int (nI (2 ^ n - 1 - a)), .ref og, .ref oy, .ref oz, .int (nI q), .int (nI d), .int (nI v), .ref ot])), (og, .inr (0, [.int (nI n), .int (nI a), .ref ob, .ref oe])), (ob, .inl (cI, (2 ^ n), .inl (fun jq => nI ((sd_br Y Z q) jq)))), (oe, .inl (cZ, (2 * 2 ^ n), .inl (fun jq => bI ((sd_ew n a (fun w => sd_br Y Z q w == 0)) jq)))), (oy, .inl (cI, 24, .inl (fun jq => nI (Y jq)))), (oz, .inl (cI, 24, .inl (fun jq => nI (Z jq)))), (ot, .inl (cI, n, .inl T))] [(cI, .int), (cZ, .boolean)]) (QcRead (bI false)) 0 0 (fun _ => False) := by
  obtain ⟨hn1, hn, ha, h5, hq, hY, hZ, hd, hv⟩ := id ok
  have h2n := hw_p10 hn
  refine Met.ofW (cc := cX1_idle) (maxL := 2) (ret := (some .boolean)) (by decide) rfl ?_
  intro p e s m args below meth c s₁ Bo hml hpre
  obtain ⟨rfl, hP, hK, hN⟩ := hpre
  have hx := Bo.exec
  have hb := Bo.bytes
  have hr := Bo.returns
  have hts := atoms_spec (ws := kX1_idle :: aW) Bo.pre
  have ht : ∀ w ∈ aW, w.before _ s = true := fun w h => hts w (List.mem_cons_of_mem _ h)
  have hown : s.vm.findClass RX1 = some m.cls := findClass_of_methodNamed Bo.named
  have hlocks := Bo.notSynchronized
  have hP : va_P D clS [(od, .inr (1, [.int (nI n), .int (nI a), .int (nI (2 ^ n - 1 - a)), .ref og, .ref oy, .ref oz, .int (nI q), .int (nI d), .int (nI v), .ref ot])), (og, .inr (0, [.int (nI n), .int (nI a), .ref ob, .ref oe])), (ob, .inl (cI, (2 ^ n), .inl (fun jq => nI ((sd_br Y Z q) jq)))), (oe, .inl (cZ, (2 * 2 ^ n), .inl (fun jq => bI ((sd_ew n a (fun w => sd_br Y Z q w == 0)) jq)))), (oy, .inl (cI, 24, .inl (fun jq => nI (Y jq)))), (oz, .inl (cI, 24, .inl (fun jq => nI (Z jq)))), (ot, .inl (cI, n, .inl T))] s.heap := hP
  have hl := lv_entry ([.ref od, .int x]) (n := 2) (Nat.le_of_ble_eq_true rfl)
  rw [lg_entry_eq]
  generalize (lg_sl ([.ref od, .int x]) ++ List.replicate (2 - (lg_sl ([.ref od, .int x])).length) Slot.unset).toArray = ls at hl ⊢
  have hl : lv_has ls 2 [(0, .ref od), (1, .int x)] := hl
  refine lv_aload_n hx hb dX1_idle_0 rfl (lv_at hl 0 rfl) ?_
  refine lv_iload_n hx hb dX1_idle_1 rfl (lv_at hl 1 rfl) ?_
  refine hw_callR (va_runV (b := od) (As := [.int x]) (rest := []) ⟨hx, hb, hml, hown, ht⟩ (c_isClause l D cI cZ od og ob oe oy oz ot n a q d v Y Z T ok x) (cwV 1 ht (gV wm_X1_X1_isClause wi_X1_isClause ws_X1_isClause wn_X1 wc_X1_isClause) rfl rfl rfl (by decide +kernel) ⟨Nat.le_of_ble_eq_true rfl, Nat.le_of_ble_eq_true rfl⟩) (rPre_V 0 hP hK hN rfl rfl) rfl rfl hl.1 rfl (lv_room (Nat.le_of_ble_eq_true rfl)) dX1_idle_2 ⟨Nat.zero_le _, Nat.zero_le _⟩) ?_
  refine lv_if_eq (tgt := 32) hx hb dX1_idle_5 rfl (fun h1 => ?_) (fun h1 => ?_)
  · have h1 : (decide (uN x < q)) = false := (bI_eq0 _).mp h1
    refine lv_iconst (v := nI 0) hx hb dX1_idle_32 (by decide) ?_
    exact W.zret hx hb hr rfl (fun t ht2 _ => ⟨hw_ret (rfl), ht2⟩) (fun _ h => by cases h) dX1_idle_33
  · have h1 : (decide (uN x < q)) = true := bI_ne0 h1
    exact absurd (of_decide_eq_true h1) hno

set_option maxHeartbeats 4000000 in
set_option maxRecDepth 100000 in
theorem c_drop (l : Launch) (D : va_G) (cI cZ : ClassId) (od og ob oe oy oz ot n a r d v : Nat) (Y Z : Nat → Nat) (T : Nat → Int32) (ok : dOk n a (r + 1) d v Y Z) (sz : Nat) (i : Nat) (hi : i < r + 1) : Met l yX1_drop (kX1_drop :: aW) { frames := 4, cells := 0, slots := 0, locals := 93 } (wPre [.ref od, .int (nI i)] D [(od, .inr (1, [.int (nI n), .int (nI a), .int (nI (2 ^ n - 1 - a)), .ref og, .ref oy, .ref oz, .int (nI (r + 1)), .int (nI d), .int (nI v), .ref ot])), (og, .inr (0, [.int (nI n), .int (nI a), .ref ob, .ref oe])), (ob, .inl (cI, (2 ^ n), .inl (fun jq => nI ((sd_br Y Z (r + 1)) jq)))), (oe, .inl (cZ, (2 * 2 ^ n), .inl (fun jq => bI ((sd_ew n a (fun w => sd_br Y Z (r + 1) w == 0)) jq)))), (oy, .inl (cI, 24, .inl (fun jq => nI (Y jq)))), (oz, .inl (cI, 24, .inl (fun jq => nI (Z jq)))), (ot, .inl (cI, n, .inl T))] [(cI, .int), (cZ, .boolean)] sz) (wQ (some (.int (bI true))) D [(od, .inr (1, [.int (nI n), .int (nI a), .int (nI (2 ^ n - 1 - a)), .ref og, .ref oy, .ref oz, .int (nI r), .int (nI d), .int (nI v), .ref ot])), (og, .inr (0, [.int (nI n), .int (nI a), .ref ob, .ref oe])), (ob, .inl (cI, (2 ^ n), .inl (fun jq => nI ((sd_br (sd_sh Y i r) (sd_sh Z i r) r) jq)))), (oe, .inl (cZ, (2 * 2 ^ n), .inl (fun jq => bI ((sd_ew n a (fun w => sd_br (sd_sh Y i r) (sd_sh Z i r) r w == 0)) jq)))), (oy, .inl (cI, 24, .inl (fun jq => nI ((sd_sh Y i r) jq)))), (oz, .inl (cI, 24, .inl (fun jq => nI ((sd_sh Z i r) jq)))), (ot, .inl (cI, n, .inl T))] (va_A [(od, .inr (1, [.int (nI n), .int (nI a), .int (nI (2 ^ n - 1 - a)), .ref og, .ref oy, .ref oz, .int (nI (r + 1)), .int (nI d), .int (nI v), .ref ot])), (og, .inr (0, [.int (nI n), .int (nI a), .ref ob, .ref oe])), (ob, .inl (cI, (2 ^ n), .inl (fun jq => nI ((sd_br Y Z (r + 1)) jq)))), (oe, .inl (cZ, (2 * 2 ^ n), .inl (fun jq => bI ((sd_ew n a (fun w => sd_br Y Z (r + 1) w == 0)) jq)))), (oy, .inl (cI, 24, .inl (fun jq => nI (Y jq)))), (oz, .inl (cI, 24, .inl (fun jq => nI (Z jq)))), (ot, .inl (cI, n, .inl T))] sz)) 0 0 (va_A [(od, .inr (1, [.int (nI n), .int (nI a), .int (nI (2 ^ n - 1 - a)), .ref og, .ref oy, .ref oz, .int (nI (r + 1)), .int (nI d), .int (nI v), .ref ot])), (og, .inr (0, [.int (nI n), .int (nI a), .ref ob, .ref oe])), (ob, .inl (cI, (2 ^ n), .inl (fun jq => nI ((sd_br Y Z (r + 1)) jq)))), (oe, .inl (cZ, (2 * 2 ^ n), .inl (fun jq => bI ((sd_ew n a (fun w => sd_br Y Z (r + 1) w == 0)) jq)))), (oy, .inl (cI, 24, .inl (fun jq => nI (Y jq)))), (oz, .inl (cI, 24, .inl (fun jq => nI (Z jq)))), (ot, .inl (cI, n, .inl T))] sz) := by
  obtain ⟨hn1, hn, ha, h5, hq, hY, hZ, hd, hv⟩ := id ok
  have h2n := hw_p10 hn
  refine Met.ofW (cc := cX1_drop) (maxL := 3) (ret := (some .boolean)) (by decide) rfl ?_
  intro p e s m args below meth c s₁ Bo hml hpre
  obtain ⟨rfl, hsz, hP, hK, hN, hD0⟩ := hpre
  subst hsz
  have hD := hD0.self (sz := s.heap.size)
  generalize hAe : va_A [(od, .inr (1, [.int (nI n), .int (nI a), .int (nI (2 ^ n - 1 - a)), .ref og, .ref oy, .ref oz, .int (nI (r + 1)), .int (nI d), .int (nI v), .ref ot])), (og, .inr (0, [.int (nI n), .int (nI a), .ref ob, .ref oe])), (ob, .inl (cI, (2 ^ n), .inl (fun jq => nI ((sd_br Y Z (r + 1)) jq)))), (oe, .inl (cZ, (2 * 2 ^ n), .inl (fun jq => bI ((sd_ew n a (fun w => sd_br Y Z (r + 1) w == 0)) jq)))), (oy, .inl (cI, 24, .inl (fun jq => nI (Y jq)))), (oz, .inl (cI, 24, .inl (fun jq => nI (Z jq)))), (ot, .inl (cI, n, .inl T))] s.heap.size = A at hD ⊢
  have hA : ∀ q : Nat, s.heap.size ≤ q → A q := fun q h => by rw [← hAe]; exact Or.inr h
  have hS : va_S A s.heap s.heap [] := va_S.rf
  have hx := Bo.exec
  have hb := Bo.bytes
  have hr := Bo.returns
  have hts := atoms_spec (ws := kX1_drop :: aW) Bo.pre
  have ht : ∀ w ∈ aW, w.before _ s = true := fun w h => hts w (List.mem_cons_of_mem _ h)
  have hown : s.vm.findClass RX1 = some m.cls := findClass_of_methodNamed Bo.named
  have hlocks := Bo.notSynchronized
  have hP : va_P D clS [(od, .inr (1, [.int (nI n), .int (nI a), .int (nI (2 ^ n - 1 - a)), .ref og, .ref oy, .ref oz, .int (nI (r + 1)), .int (nI d), .int (nI v), .ref ot])), (og, .inr (0, [.int (nI n), .int (nI a), .ref ob, .ref oe])), (ob, .inl (cI, (2 ^ n), .inl (fun jq => nI ((sd_br Y Z (r + 1)) jq)))), (oe, .inl (cZ, (2 * 2 ^ n), .inl (fun jq => bI ((sd_ew n a (fun w => sd_br Y Z (r + 1) w == 0)) jq)))), (oy, .inl (cI, 24, .inl (fun jq => nI (Y jq)))), (oz, .inl (cI, 24, .inl (fun jq => nI (Z jq)))), (ot, .inl (cI, n, .inl T))] s.heap := hP
  have hl := lv_entry ([.ref od, .int (nI i)]) (n := 3) (Nat.le_of_ble_eq_true rfl)
  rw [lg_entry_eq]
  generalize (lg_sl ([.ref od, .int (nI i)]) ++ List.replicate (3 - (lg_sl ([.ref od, .int (nI i)])).length) Slot.unset).toArray = ls at hl ⊢
  have hl : lv_has ls 3 [(0, .ref od), (1, .int (nI i))] := hl
  refine lv_aload_n hx hb dX1_drop_0 rfl (lv_at hl 0 rfl) ?_
  refine lv_iload_n hx hb dX1_drop_1 rfl (lv_at hl 1 rfl) ?_
  refine hw_callR (va_runV (b := od) (As := [.int (nI i)]) (rest := []) ⟨hx, hb, hml, hown, ht⟩ (c_isClause l D cI cZ od og ob oe oy oz ot n a (r + 1) d v Y Z T ok (nI i)) (cwV 1 ht (gV wm_X1_X1_isClause wi_X1_isClause ws_X1_isClause wn_X1 wc_X1_isClause) rfl rfl rfl (by decide +kernel) ⟨Nat.le_of_ble_eq_true rfl, Nat.le_of_ble_eq_true rfl⟩) (rPre_V 0 hP hK hN rfl rfl) rfl rfl hl.1 rfl (lv_room (Nat.le_of_ble_eq_true rfl)) dX1_drop_2 ⟨Nat.zero_le _, Nat.zero_le _⟩) ?_
  refine lv_nm (y := bI true) (congrArg bI (decide_eq_true (by rw [uN_nI (by omega)]; exact hi))) ?_
  refine lv_if_ne (tgt := 10) hx hb dX1_drop_5 rfl (fun _ => ?_) (fun hc => absurd (show true = false from (bI_eq0 _).mp hc) (by decide))
  refine lv_aload_n hx hb dX1_drop_10 rfl (lv_at hl 0 rfl) ?_
  refine va_get (D := D) (ci := 1) (v := .ref og) (C := RX1) (T := TX1) (N := 10) hx hb ht inX1 hown hK hP 0 rfl rfl 3 (by decide) (ht _ wf_X1_game) (fun _ h9 => h9) rfl dX1_drop_11 ?_
  refine lv_aload_n hx hb dX1_drop_14 rfl (lv_at hl 0 rfl) ?_
  refine va_get (D := D) (ci := 1) (v := .ref oy) (C := RX1) (T := TX1) (N := 10) hx hb ht inX1 hown hK hP 0 rfl rfl 4 (by decide) (ht _ wf_X1_yesSets) (fun _ h9 => h9) rfl dX1_drop_15 ?_
  refine lv_iload_n hx hb dX1_drop_18 rfl (lv_at hl 1 rfl) ?_
  refine na_nald (f := Y) hx hb hK hP 4 0 rfl rfl (j := i) (by omega) (by omega) dX1_drop_19 ?_
  refine lv_aload_n hx hb dX1_drop_20 rfl (lv_at hl 0 rfl) ?_
  refine va_get (D := D) (ci := 1) (v := .ref oz) (C := RX1) (T := TX1) (N := 10) hx hb ht inX1 hown hK hP 0 rfl rfl 5 (by decide) (ht _ wf_X1_noSets) (fun _ h9 => h9) rfl dX1_drop_21 ?_
  refine lv_iload_n hx hb dX1_drop_24 rfl (lv_at hl 1 rfl) ?_
  refine na_nald (f := Z) hx hb hK hP 5 0 rfl rfl (j := i) (by omega) (by omega) dX1_drop_25 ?_
  refine lv_iconst (v := (-1)) hx hb dX1_drop_26 (by decide) ?_
  refine hw_call (wc := [(og, .inr (0, [.int (nI n), .int (nI a), .ref ob, .ref oe])), (ob, .inl (cI, (2 ^ n), .inl (fun jq => nI ((sd_br Y Z (r + 1)) jq)))), (oe, .inl (cZ, (2 * 2 ^ n), .inl (fun jq => bI ((sd_ew n a (fun w => sd_br Y Z (r + 1) w == 0)) jq))))]) (wc' := [(og, .inr (0, [.int (nI n), .int (nI a), .ref ob, .ref oe])), (ob, .inl (cI, (2 ^ n), .inl (fun jq => nI ((sd_br (sd_sh Y i r) (sd_sh Z i r) r) jq)))), (oe, .inl (cZ, (2 * 2 ^ n), .inl (fun jq => bI ((sd_ew n a (fun w => sd_br (sd_sh Y i r) (sd_sh Z i r) r w == 0)) jq))))]) (wr := [(od, .inr (1, [.int (nI n), .int (nI a), .int (nI (2 ^ n - 1 - a)), .ref og, .ref oy, .ref oz, .int (nI (r + 1)), .int (nI d), .int (nI v), .ref ot])), (oy, .inl (cI, 24, .inl (fun jq => nI (Y jq)))), (oz, .inl (cI, 24, .inl (fun jq => nI (Z jq)))), (ot, .inl (cI, n, .inl T))]) (ws' := [(od, .inr (1, [.int (nI n), .int (nI a), .int (nI (2 ^ n - 1 - a)), .ref og, .ref oy, .ref oz, .int (nI (r + 1)), .int (nI d), .int (nI v), .ref ot])), (og, .inr (0, [.int (nI n), .int (nI a), .ref ob, .ref oe])), (ob, .inl (cI, (2 ^ n), .inl (fun jq => nI ((sd_br (sd_sh Y i r) (sd_sh Z i r) r) jq)))), (oe, .inl (cZ, (2 * 2 ^ n), .inl (fun jq => bI ((sd_ew n a (fun w => sd_br (sd_sh Y i r) (sd_sh Z i r) r w == 0)) jq)))), (oy, .inl (cI, 24, .inl (fun jq => nI (Y jq)))), (oz, .inl (cI, 24, .inl (fun jq => nI (Z jq)))), (ot, .inl (cI, n, .inl T))]) (va_runV (b := og) (As := [.int (nI (Y i)), .int (nI (Z i)), .int (-1)]) (rest := []) ⟨hx, hb, hml, hown, ht⟩ (c_change l D cI cZ og ob oe n a (Y i) (Z i) s.heap.size (-1) (sd_br Y Z (r + 1)) (sd_br (sd_sh Y i r) (sd_sh Z i r) r) (sd_ew n a (fun w => sd_br Y Z (r + 1) w == 0)) hn1 hn ha (hY i) (hZ i) (fun u _ => sd_brl Y Z (by omega) u) (fun u _ => sd_brl _ _ (by omega) u) (fun u _ => sd_out rfl (sd_br_sh Y Z u r (by omega))) rfl) (cwV 3 ht (gV wm_X1_X0_change wi_X0_change ws_X0_change wn_X0 wc_X0_change) rfl rfl rfl (by decide +kernel) ⟨Nat.le_of_ble_eq_true rfl, Nat.le_of_ble_eq_true rfl⟩) (wPre_V 0 (hP.sub [1, 2, 3] rfl) (hD.sub [1, 2, 3] (by decide) rfl) hK hN rfl rfl) rfl rfl hl.1 rfl (lv_room (Nat.le_of_ble_eq_true rfl)) dX1_drop_27 ⟨Nat.zero_le _, Nat.zero_le _⟩) hP hD hS hA [1, 2, 3] [0, 4, 5, 6] [0, 4, 5, 6, 1, 2, 3] rfl rfl (by decide) (by decide) (by decide) rfl rfl rfl (fun H locs hP hD hS => ?_)
  have hP : va_P D clS [(od, .inr (1, [.int (nI n), .int (nI a), .int (nI (2 ^ n - 1 - a)), .ref og, .ref oy, .ref oz, .int (nI (r + 1)), .int (nI d), .int (nI v), .ref ot])), (og, .inr (0, [.int (nI n), .int (nI a), .ref ob, .ref oe])), (ob, .inl (cI, (2 ^ n), .inl (fun jq => nI ((sd_br (sd_sh Y i r) (sd_sh Z i r) r) jq)))), (oe, .inl (cZ, (2 * 2 ^ n), .inl (fun jq => bI ((sd_ew n a (fun w => sd_br (sd_sh Y i r) (sd_sh Z i r) r w == 0)) jq)))), (oy, .inl (cI, 24, .inl (fun jq => nI (Y jq)))), (oz, .inl (cI, 24, .inl (fun jq => nI (Z jq)))), (ot, .inl (cI, n, .inl T))] H := hP
  have hD : va_D A [(od, .inr (1, [.int (nI n), .int (nI a), .int (nI (2 ^ n - 1 - a)), .ref og, .ref oy, .ref oz, .int (nI (r + 1)), .int (nI d), .int (nI v), .ref ot])), (og, .inr (0, [.int (nI n), .int (nI a), .ref ob, .ref oe])), (ob, .inl (cI, (2 ^ n), .inl (fun jq => nI ((sd_br (sd_sh Y i r) (sd_sh Z i r) r) jq)))), (oe, .inl (cZ, (2 * 2 ^ n), .inl (fun jq => bI ((sd_ew n a (fun w => sd_br (sd_sh Y i r) (sd_sh Z i r) r w == 0)) jq)))), (oy, .inl (cI, 24, .inl (fun jq => nI (Y jq)))), (oz, .inl (cI, 24, .inl (fun jq => nI (Z jq)))), (ot, .inl (cI, n, .inl T))] := hD
  refine W.eq (g2 := F0 m 30 ls []) rfl ?_
  refine lv_aload_n hx hb dX1_drop_30 rfl (lv_at hl 0 rfl) ?_
  refine lv_dup hx hb dX1_drop_31 rfl ?_
  refine va_get (D := D) (ci := 1) (v := .int (nI (r + 1))) (C := RX1) (T := TX1) (N := 10) hx hb ht inX1 hown hK hP 0 rfl rfl 6 (by decide) (ht _ wf_X1_clauseCount) (fun _ h9 => h9) rfl dX1_drop_32 ?_
  refine lv_iconst (v := nI 1) hx hb dX1_drop_35 (by decide) ?_
  refine lv_isub hx hb dX1_drop_36 ?_
  refine lv_nm (y := nI r) (nI_pred _) ?_
  refine va_put (D := D) (ci := 1) (v := .int (nI r)) (ty := .int) (C := RX1) (T := TX1) (N := 10) hx hb ht inX1 tyX1 tyX1_ok nmX1 hown hK hP hD hS 0 rfl rfl 6 (by decide) (ht _ wf_X1_clauseCount) (fun _ h9 => h9) rfl (by decide +kernel) rfl rfl (Nat.le_of_ble_eq_true rfl) dX1_drop_37 (fun H locs hP hD hS => ?_)
  have hP : va_P D clS [(od, .inr (1, [.int (nI n), .int (nI a), .int (nI (2 ^ n - 1 - a)), .ref og, .ref oy, .ref oz, .int (nI r), .int (nI d), .int (nI v), .ref ot])), (og, .inr (0, [.int (nI n), .int (nI a), .ref ob, .ref oe])), (ob, .inl (cI, (2 ^ n), .inl (fun jq => nI ((sd_br (sd_sh Y i r) (sd_sh Z i r) r) jq)))), (oe, .inl (cZ, (2 * 2 ^ n), .inl (fun jq => bI ((sd_ew n a (fun w => sd_br (sd_sh Y i r) (sd_sh Z i r) r w == 0)) jq)))), (oy, .inl (cI, 24, .inl (fun jq => nI (Y jq)))), (oz, .inl (cI, 24, .inl (fun jq => nI (Z jq)))), (ot, .inl (cI, n, .inl T))] H := hP
  have hD : va_D A [(od, .inr (1, [.int (nI n), .int (nI a), .int (nI (2 ^ n - 1 - a)), .ref og, .ref oy, .ref oz, .int (nI r), .int (nI d), .int (nI v), .ref ot])), (og, .inr (0, [.int (nI n), .int (nI a), .ref ob, .ref oe])), (ob, .inl (cI, (2 ^ n), .inl (fun jq => nI ((sd_br (sd_sh Y i r) (sd_sh Z i r) r) jq)))), (oe, .inl (cZ, (2 * 2 ^ n), .inl (fun jq => bI ((sd_ew n a (fun w => sd_br (sd_sh Y i r) (sd_sh Z i r) r w == 0)) jq)))), (oy, .inl (cI, 24, .inl (fun jq => nI (Y jq)))), (oz, .inl (cI, 24, .inl (fun jq => nI (Z jq)))), (ot, .inl (cI, n, .inl T))] := hD
  refine lv_iload_n hx hb dX1_drop_40 rfl (lv_at hl 1 rfl) ?_
  refine lv_istore_n hx hb dX1_drop_41 rfl hl (by decide) rfl (fun ls hl => ?_)
  have hl : lv_has ls 3 [(2, .int (nI i)), (0, .ref od), (1, .int (nI i))] := hl
  have hl : lv_has ls 3 [(0, .ref od), (1, .int (nI i)), (2, .int (nI i))] := lv_sub hl [1, 2, 0] rfl
  have hP : va_P D clS [(od, .inr (1, [.int (nI n), .int (nI a), .int (nI (2 ^ n - 1 - a)), .ref og, .ref oy, .ref oz, .int (nI r), .int (nI d), .int (nI v), .ref ot])), (og, .inr (0, [.int (nI n), .int (nI a), .ref ob, .ref oe])), (ob, .inl (cI, (2 ^ n), .inl (fun jq => nI ((sd_br (sd_sh Y i r) (sd_sh Z i r) r) jq)))), (oe, .inl (cZ, (2 * 2 ^ n), .inl (fun jq => bI ((sd_ew n a (fun w => sd_br (sd_sh Y i r) (sd_sh Z i r) r w == 0)) jq)))), (oy, .inl (cI, 24, .inl (fun jq => nI ((sd_sh Y i i) jq)))), (oz, .inl (cI, 24, .inl (fun jq => nI (Z jq)))), (ot, .inl (cI, n, .inl T))] H := hw_cgn hP (sd_sh Y i i) (q0 := 4) rfl (fun j _ => sd_sh_0 Y i j) rfl
  have hD : va_D A [(od, .inr (1, [.int (nI n), .int (nI a), .int (nI (2 ^ n - 1 - a)), .ref og, .ref oy, .ref oz, .int (nI r), .int (nI d), .int (nI v), .ref ot])), (og, .inr (0, [.int (nI n), .int (nI a), .ref ob, .ref oe])), (ob, .inl (cI, (2 ^ n), .inl (fun jq => nI ((sd_br (sd_sh Y i r) (sd_sh Z i r) r) jq)))), (oe, .inl (cZ, (2 * 2 ^ n), .inl (fun jq => bI ((sd_ew n a (fun w => sd_br (sd_sh Y i r) (sd_sh Z i r) r w == 0)) jq)))), (oy, .inl (cI, 24, .inl (fun jq => nI ((sd_sh Y i i) jq)))), (oz, .inl (cI, 24, .inl (fun jq => nI (Z jq)))), (ot, .inl (cI, n, .inl T))] := hw_ad hD rfl
  have hP : va_P D clS [(od, .inr (1, [.int (nI n), .int (nI a), .int (nI (2 ^ n - 1 - a)), .ref og, .ref oy, .ref oz, .int (nI r), .int (nI d), .int (nI v), .ref ot])), (og, .inr (0, [.int (nI n), .int (nI a), .ref ob, .ref oe])), (ob, .inl (cI, (2 ^ n), .inl (fun jq => nI ((sd_br (sd_sh Y i r) (sd_sh Z i r) r) jq)))), (oe, .inl (cZ, (2 * 2 ^ n), .inl (fun jq => bI ((sd_ew n a (fun w => sd_br (sd_sh Y i r) (sd_sh Z i r) r w == 0)) jq)))), (oy, .inl (cI, 24, .inl (fun jq => nI ((sd_sh Y i i) jq)))), (oz, .inl (cI, 24, .inl (fun jq => nI ((sd_sh Z i i) jq)))), (ot, .inl (cI, n, .inl T))] H := hw_cgn hP (sd_sh Z i i) (q0 := 5) rfl (fun j _ => sd_sh_0 Z i j) rfl
  have hD : va_D A [(od, .inr (1, [.int (nI n), .int (nI a), .int (nI (2 ^ n - 1 - a)), .ref og, .ref oy, .ref oz, .int (nI r), .int (nI d), .int (nI v), .ref ot])), (og, .inr (0, [.int (nI n), .int (nI a), .ref ob, .ref oe])), (ob, .inl (cI, (2 ^ n), .inl (fun jq => nI ((sd_br (sd_sh Y i r) (sd_sh Z i r) r) jq)))), (oe, .inl (cZ, (2 * 2 ^ n), .inl (fun jq => bI ((sd_ew n a (fun w => sd_br (sd_sh Y i r) (sd_sh Z i r) r w == 0)) jq)))), (oy, .inl (cI, 24, .inl (fun jq => nI ((sd_sh Y i i) jq)))), (oz, .inl (cI, 24, .inl (fun jq => nI ((sd_sh Z i i) jq)))), (ot, .inl (cI, n, .inl T))] := hw_ad hD rfl
  suffices lp : ∀ k : Nat, ∀ (j : Nat) (ls : Array Slot) (H : Heap) (locs : List Loc), (j + k = r) → (i ≤ j) → lv_has ls 3 [(0, .ref od), (1, .int (nI i)), (2, .int (nI j))] → va_P D clS [(od, .inr (1, [.int (nI n), .int (nI a), .int (nI (2 ^ n - 1 - a)), .ref og, .ref oy, .ref oz, .int (nI r), .int (nI d), .int (nI v), .ref ot])), (og, .inr (0, [.int (nI n), .int (nI a), .ref ob, .ref oe])), (ob, .inl (cI, (2 ^ n), .inl (fun jq => nI ((sd_br (sd_sh Y i r) (sd_sh Z i r) r) jq)))), (oe, .inl (cZ, (2 * 2 ^ n), .inl (fun jq => bI ((sd_ew n a (fun w => sd_br (sd_sh Y i r) (sd_sh Z i r) r w == 0)) jq)))), (oy, .inl (cI, 24, .inl (fun jq => nI ((sd_sh Y i j) jq)))), (oz, .inl (cI, 24, .inl (fun jq => nI ((sd_sh Z i j) jq)))), (ot, .inl (cI, n, .inl T))] H → va_S A s.heap H locs → W p l e (headSpec (kX1_drop :: aW) { frames := 4, cells := 0, slots := 0, locals := 93 }).room s m (([.ref od, .int (nI i)] : List Value).toArray) below meth c H locs 0 0 (MQ below (wQ (some (.int (bI true))) D [(od, .inr (1, [.int (nI n), .int (nI a), .int (nI (2 ^ n - 1 - a)), .ref og, .ref oy, .ref oz, .int (nI r), .int (nI d), .int (nI v), .ref ot])), (og, .inr (0, [.int (nI n), .int (nI a), .ref ob, .ref oe])), (ob, .inl (cI, (2 ^ n), .inl (fun jq => nI ((sd_br (sd_sh Y i r) (sd_sh Z i r) r) jq)))), (oe, .inl (cZ, (2 * 2 ^ n), .inl (fun jq => bI ((sd_ew n a (fun w => sd_br (sd_sh Y i r) (sd_sh Z i r) r w == 0)) jq)))), (oy, .inl (cI, 24, .inl (fun jq => nI ((sd_sh Y i r) jq)))), (oz, .inl (cI, 24, .inl (fun jq => nI ((sd_sh Z i r) jq)))), (ot, .inl (cI, n, .inl T))] A) (([.ref od, .int (nI i)] : List Value).toArray) s 0 0 A) (F0 m 42 ls []) by
    exact lp (r - i) i ls H locs (by omega) (Nat.le_refl i) hl hP hS
  intro k
  induction k with
  | zero =>
    intro j ls H locs hj hij hl hP hS
    have hD : va_D A [(od, .inr (1, [.int (nI n), .int (nI a), .int (nI (2 ^ n - 1 - a)), .ref og, .ref oy, .ref oz, .int (nI r), .int (nI d), .int (nI v), .ref ot])), (og, .inr (0, [.int (nI n), .int (nI a), .ref ob, .ref oe])), (ob, .inl (cI, (2 ^ n), .inl (fun jq => nI ((sd_br (sd_sh Y i r) (sd_sh Z i r) r) jq)))), (oe, .inl (cZ, (2 * 2 ^ n), .inl (fun jq => bI ((sd_ew n a (fun w => sd_br (sd_sh Y i r) (sd_sh Z i r) r w == 0)) jq)))), (oy, .inl (cI, 24, .inl (fun jq => nI ((sd_sh Y i j) jq)))), (oz, .inl (cI, 24, .inl (fun jq => nI ((sd_sh Z i j) jq)))), (ot, .inl (cI, n, .inl T))] := hw_ad hD rfl
    refine lv_iload_n hx hb dX1_drop_42 rfl (lv_at hl 2 rfl) ?_
    refine lv_aload_n hx hb dX1_drop_43 rfl (lv_at hl 0 rfl) ?_
    refine va_get (D := D) (ci := 1) (v := .int (nI r)) (C := RX1) (T := TX1) (N := 10) hx hb ht inX1 hown hK hP 0 rfl rfl 6 (by decide) (ht _ wf_X1_clauseCount) (fun _ h9 => h9) rfl dX1_drop_44 ?_
    refine lv_icmp_ge (tgt := 84) hx hb dX1_drop_47 rfl (fun _ => ?_) (fun hc => absurd (show ¬ (r ≤ j) from fun h9 => hc ((nI_leI (by omega) (by omega)).mpr h9)) (by omega))
    obtain rfl : r = j := by omega
    refine lv_iconst (v := nI 1) hx hb dX1_drop_84 (by decide) ?_
    exact W.zret hx hb hr rfl (fun t ht2 _ => ⟨hw_ret (rfl), by rw [ht2]; exact hP, hS.F ht2⟩) hS.2.2 dX1_drop_85
  | succ k ih =>
    intro j ls H locs hj hij hl hP hS
    have hD : va_D A [(od, .inr (1, [.int (nI n), .int (nI a), .int (nI (2 ^ n - 1 - a)), .ref og, .ref oy, .ref oz, .int (nI r), .int (nI d), .int (nI v), .ref ot])), (og, .inr (0, [.int (nI n), .int (nI a), .ref ob, .ref oe])), (ob, .inl (cI, (2 ^ n), .inl (fun jq => nI ((sd_br (sd_sh Y i r) (sd_sh Z i r) r) jq)))), (oe, .inl (cZ, (2 * 2 ^ n), .inl (fun jq => bI ((sd_ew n a (fun w => sd_br (sd_sh Y i r) (sd_sh Z i r) r w == 0)) jq)))), (oy, .inl (cI, 24, .inl (fun jq => nI ((sd_sh Y i j) jq)))), (oz, .inl (cI, 24, .inl (fun jq => nI ((sd_sh Z i j) jq)))), (ot, .inl (cI, n, .inl T))] := hw_ad hD rfl
    refine lv_iload_n hx hb dX1_drop_42 rfl (lv_at hl 2 rfl) ?_
    refine lv_aload_n hx hb dX1_drop_43 rfl (lv_at hl 0 rfl) ?_
    refine va_get (D := D) (ci := 1) (v := .int (nI r)) (C := RX1) (T := TX1) (N := 10) hx hb ht inX1 hown hK hP 0 rfl rfl 6 (by decide) (ht _ wf_X1_clauseCount) (fun _ h9 => h9) rfl dX1_drop_44 ?_
    refine lv_icmp_ge (tgt := 84) hx hb dX1_drop_47 rfl (fun hc => absurd (show r ≤ j from (nI_leI (by omega) (by omega)).mp hc) (by omega)) (fun _ => ?_)
    refine lv_aload_n hx hb dX1_drop_50 rfl (lv_at hl 0 rfl) ?_
    refine va_get (D := D) (ci := 1) (v := .ref oy) (C := RX1) (T := TX1) (N := 10) hx hb ht inX1 hown hK hP 0 rfl rfl 4 (by decide) (ht _ wf_X1_yesSets) (fun _ h9 => h9) rfl dX1_drop_51 ?_
    refine lv_iload_n hx hb dX1_drop_54 rfl (lv_at hl 2 rfl) ?_
    refine lv_aload_n hx hb dX1_drop_55 rfl (lv_at hl 0 rfl) ?_
    refine va_get (D := D) (ci := 1) (v := .ref oy) (C := RX1) (T := TX1) (N := 10) hx hb ht inX1 hown hK hP 0 rfl rfl 4 (by decide) (ht _ wf_X1_yesSets) (fun _ h9 => h9) rfl dX1_drop_56 ?_
    refine lv_iload_n hx hb dX1_drop_59 rfl (lv_at hl 2 rfl) ?_
    refine lv_iconst (v := nI 1) hx hb dX1_drop_60 (by decide) ?_
    refine lv_iadd hx hb dX1_drop_61 ?_
    refine lv_nm (y := nI (j + 1)) (nI_add _ _) ?_
    refine na_nald (f := sd_sh Y i j) hx hb hK hP 4 0 rfl rfl (j := j + 1) (by omega) (by omega) dX1_drop_62 ?_
    refine na_nast (f := sd_sh Y i j) (x := (sd_sh Y i j) (j + 1)) hx hb hK hP hD hS 4 0 rfl rfl (j := j) (by omega) (by omega) dX1_drop_63 (fun H locs hP hD hS => ?_)
    have hP : va_P D clS [(od, .inr (1, [.int (nI n), .int (nI a), .int (nI (2 ^ n - 1 - a)), .ref og, .ref oy, .ref oz, .int (nI r), .int (nI d), .int (nI v), .ref ot])), (og, .inr (0, [.int (nI n), .int (nI a), .ref ob, .ref oe])), (ob, .inl (cI, (2 ^ n), .inl (fun jq => nI ((sd_br (sd_sh Y i r) (sd_sh Z i r) r) jq)))), (oe, .inl (cZ, (2 * 2 ^ n), .inl (fun jq => bI ((sd_ew n a (fun w => sd_br (sd_sh Y i r) (sd_sh Z i r) r w == 0)) jq)))), (oy, .inl (cI, 24, .inl (fun jq => nI ((va_up (sd_sh Y i j) j ((sd_sh Y i j) (j + 1))) jq)))), (oz, .inl (cI, 24, .inl (fun jq => nI ((sd_sh Z i j) jq)))), (ot, .inl (cI, n, .inl T))] H := hP
    have hD : va_D A [(od, .inr (1, [.int (nI n), .int (nI a), .int (nI (2 ^ n - 1 - a)), .ref og, .ref oy, .ref oz, .int (nI r), .int (nI d), .int (nI v), .ref ot])), (og, .inr (0, [.int (nI n), .int (nI a), .ref ob, .ref oe])), (ob, .inl (cI, (2 ^ n), .inl (fun jq => nI ((sd_br (sd_sh Y i r) (sd_sh Z i r) r) jq)))), (oe, .inl (cZ, (2 * 2 ^ n), .inl (fun jq => bI ((sd_ew n a (fun w => sd_br (sd_sh Y i r) (sd_sh Z i r) r w == 0)) jq)))), (oy, .inl (cI, 24, .inl (fun jq => nI ((va_up (sd_sh Y i j) j ((sd_sh Y i j) (j + 1))) jq)))), (oz, .inl (cI, 24, .inl (fun jq => nI ((sd_sh Z i j) jq)))), (ot, .inl (cI, n, .inl T))] := hD
    have hP : va_P D clS [(od, .inr (1, [.int (nI n), .int (nI a), .int (nI (2 ^ n - 1 - a)), .ref og, .ref oy, .ref oz, .int (nI r), .int (nI d), .int (nI v), .ref ot])), (og, .inr (0, [.int (nI n), .int (nI a), .ref ob, .ref oe])), (ob, .inl (cI, (2 ^ n), .inl (fun jq => nI ((sd_br (sd_sh Y i r) (sd_sh Z i r) r) jq)))), (oe, .inl (cZ, (2 * 2 ^ n), .inl (fun jq => bI ((sd_ew n a (fun w => sd_br (sd_sh Y i r) (sd_sh Z i r) r w == 0)) jq)))), (oy, .inl (cI, 24, .inl (fun jq => nI ((sd_sh Y i (j + 1)) jq)))), (oz, .inl (cI, 24, .inl (fun jq => nI ((sd_sh Z i j) jq)))), (ot, .inl (cI, n, .inl T))] H := hw_cgn hP (sd_sh Y i (j + 1)) (q0 := 4) rfl (fun t _ => sd_sh_s Y hij t) rfl
    have hD : va_D A [(od, .inr (1, [.int (nI n), .int (nI a), .int (nI (2 ^ n - 1 - a)), .ref og, .ref oy, .ref oz, .int (nI r), .int (nI d), .int (nI v), .ref ot])), (og, .inr (0, [.int (nI n), .int (nI a), .ref ob, .ref oe])), (ob, .inl (cI, (2 ^ n), .inl (fun jq => nI ((sd_br (sd_sh Y i r) (sd_sh Z i r) r) jq)))), (oe, .inl (cZ, (2 * 2 ^ n), .inl (fun jq => bI ((sd_ew n a (fun w => sd_br (sd_sh Y i r) (sd_sh Z i r) r w == 0)) jq)))), (oy, .inl (cI, 24, .inl (fun jq => nI ((sd_sh Y i (j + 1)) jq)))), (oz, .inl (cI, 24, .inl (fun jq => nI ((sd_sh Z i j) jq)))), (ot, .inl (cI, n, .inl T))] := hw_ad hD rfl
    refine lv_aload_n hx hb dX1_drop_64 rfl (lv_at hl 0 rfl) ?_
    refine va_get (D := D) (ci := 1) (v := .ref oz) (C := RX1) (T := TX1) (N := 10) hx hb ht inX1 hown hK hP 0 rfl rfl 5 (by decide) (ht _ wf_X1_noSets) (fun _ h9 => h9) rfl dX1_drop_65 ?_
    refine lv_iload_n hx hb dX1_drop_68 rfl (lv_at hl 2 rfl) ?_
    refine lv_aload_n hx hb dX1_drop_69 rfl (lv_at hl 0 rfl) ?_
    refine va_get (D := D) (ci := 1) (v := .ref oz) (C := RX1) (T := TX1) (N := 10) hx hb ht inX1 hown hK hP 0 rfl rfl 5 (by decide) (ht _ wf_X1_noSets) (fun _ h9 => h9) rfl dX1_drop_70 ?_
    refine lv_iload_n hx hb dX1_drop_73 rfl (lv_at hl 2 rfl) ?_
    refine lv_iconst (v := nI 1) hx hb dX1_drop_74 (by decide) ?_
    refine lv_iadd hx hb dX1_drop_75 ?_
    refine lv_nm (y := nI (j + 1)) (nI_add _ _) ?_
    refine na_nald (f := sd_sh Z i j) hx hb hK hP 5 0 rfl rfl (j := j + 1) (by omega) (by omega) dX1_drop_76 ?_
    refine na_nast (f := sd_sh Z i j) (x := (sd_sh Z i j) (j + 1)) hx hb hK hP hD hS 5 0 rfl rfl (j := j) (by omega) (by omega) dX1_drop_77 (fun H locs hP hD hS => ?_)
    have hP : va_P D clS [(od, .inr (1, [.int (nI n), .int (nI a), .int (nI (2 ^ n - 1 - a)), .ref og, .ref oy, .ref oz, .int (nI r), .int (nI d), .int (nI v), .ref ot])), (og, .inr (0, [.int (nI n), .int (nI a), .ref ob, .ref oe])), (ob, .inl (cI, (2 ^ n), .inl (fun jq => nI ((sd_br (sd_sh Y i r) (sd_sh Z i r) r) jq)))), (oe, .inl (cZ, (2 * 2 ^ n), .inl (fun jq => bI ((sd_ew n a (fun w => sd_br (sd_sh Y i r) (sd_sh Z i r) r w == 0)) jq)))), (oy, .inl (cI, 24, .inl (fun jq => nI ((sd_sh Y i (j + 1)) jq)))), (oz, .inl (cI, 24, .inl (fun jq => nI ((va_up (sd_sh Z i j) j ((sd_sh Z i j) (j + 1))) jq)))), (ot, .inl (cI, n, .inl T))] H := hP
    have hD : va_D A [(od, .inr (1, [.int (nI n), .int (nI a), .int (nI (2 ^ n - 1 - a)), .ref og, .ref oy, .ref oz, .int (nI r), .int (nI d), .int (nI v), .ref ot])), (og, .inr (0, [.int (nI n), .int (nI a), .ref ob, .ref oe])), (ob, .inl (cI, (2 ^ n), .inl (fun jq => nI ((sd_br (sd_sh Y i r) (sd_sh Z i r) r) jq)))), (oe, .inl (cZ, (2 * 2 ^ n), .inl (fun jq => bI ((sd_ew n a (fun w => sd_br (sd_sh Y i r) (sd_sh Z i r) r w == 0)) jq)))), (oy, .inl (cI, 24, .inl (fun jq => nI ((sd_sh Y i (j + 1)) jq)))), (oz, .inl (cI, 24, .inl (fun jq => nI ((va_up (sd_sh Z i j) j ((sd_sh Z i j) (j + 1))) jq)))), (ot, .inl (cI, n, .inl T))] := hD
    have hP : va_P D clS [(od, .inr (1, [.int (nI n), .int (nI a), .int (nI (2 ^ n - 1 - a)), .ref og, .ref oy, .ref oz, .int (nI r), .int (nI d), .int (nI v), .ref ot])), (og, .inr (0, [.int (nI n), .int (nI a), .ref ob, .ref oe])), (ob, .inl (cI, (2 ^ n), .inl (fun jq => nI ((sd_br (sd_sh Y i r) (sd_sh Z i r) r) jq)))), (oe, .inl (cZ, (2 * 2 ^ n), .inl (fun jq => bI ((sd_ew n a (fun w => sd_br (sd_sh Y i r) (sd_sh Z i r) r w == 0)) jq)))), (oy, .inl (cI, 24, .inl (fun jq => nI ((sd_sh Y i (j + 1)) jq)))), (oz, .inl (cI, 24, .inl (fun jq => nI ((sd_sh Z i (j + 1)) jq)))), (ot, .inl (cI, n, .inl T))] H := hw_cgn hP (sd_sh Z i (j + 1)) (q0 := 5) rfl (fun t _ => sd_sh_s Z hij t) rfl
    have hD : va_D A [(od, .inr (1, [.int (nI n), .int (nI a), .int (nI (2 ^ n - 1 - a)), .ref og, .ref oy, .ref oz, .int (nI r), .int (nI d), .int (nI v), .ref ot])), (og, .inr (0, [.int (nI n), .int (nI a), .ref ob, .ref oe])), (ob, .inl (cI, (2 ^ n), .inl (fun jq => nI ((sd_br (sd_sh Y i r) (sd_sh Z i r) r) jq)))), (oe, .inl (cZ, (2 * 2 ^ n), .inl (fun jq => bI ((sd_ew n a (fun w => sd_br (sd_sh Y i r) (sd_sh Z i r) r w == 0)) jq)))), (oy, .inl (cI, 24, .inl (fun jq => nI ((sd_sh Y i (j + 1)) jq)))), (oz, .inl (cI, 24, .inl (fun jq => nI ((sd_sh Z i (j + 1)) jq)))), (ot, .inl (cI, n, .inl T))] := hw_ad hD rfl
    refine lv_iinc (k := 2) (v := nI (j + 1)) hx hb dX1_drop_78 hl rfl (hw_inc _) (by decide) rfl (fun ls hl => ?_)
    have hl : lv_has ls 3 [(2, .int (nI (j + 1))), (0, .ref od), (1, .int (nI i))] := hl
    refine lv_goto (tgt := 42) hx hb dX1_drop_81 rfl ?_
    have hl : lv_has ls 3 [(0, .ref od), (1, .int (nI i)), (2, .int (nI (j + 1)))] := lv_sub hl [1, 2, 0] rfl
    exact ih (j + 1) ls H locs (by omega) (by omega) hl hP hS

set_option maxHeartbeats 4000000 in
set_option maxRecDepth 100000 in
theorem c_leavesWinner (l : Launch) (D : va_G) (cI cZ : ClassId) (od og ob oe oy oz ot n a q d v : Nat) (Y Z : Nat → Nat) (T : Nat → Int32) (ok : dOk n a q d v Y Z) (sz : Nat) (y z : Nat) (st : Int32) (Bq : Nat → Nat) (hy : y < 2 ^ n) (hz : z < 2 ^ n) (hBq2 : ∀ u, u < 2 ^ n → Bq u < 2 ^ 31) (hB1 : ∀ u, u < 2 ^ n → (if sd_fl y z u = true then nI (sd_br Y Z q u) + st else nI (sd_br Y Z q u)) = nI (Bq u)) (hB2 : ∀ u, u < 2 ^ n → (if sd_fl y z u = true then nI (Bq u) + -st else nI (Bq u)) = nI (sd_br Y Z q u)) : Met l yX1_leavesWinner (kX1_leavesWinner :: aW) { frames := 4, cells := 0, slots := 0, locals := 93 } (wPre [.ref od, .int (nI y), .int (nI z), .int st] D [(od, .inr (1, [.int (nI n), .int (nI a), .int (nI (2 ^ n - 1 - a)), .ref og, .ref oy, .ref oz, .int (nI q), .int (nI d), .int (nI v), .ref ot])), (og, .inr (0, [.int (nI n), .int (nI a), .ref ob, .ref oe])), (ob, .inl (cI, (2 ^ n), .inl (fun jq => nI ((sd_br Y Z q) jq)))), (oe, .inl (cZ, (2 * 2 ^ n), .inl (fun jq => bI ((sd_ew n a (fun w => sd_br Y Z q w == 0)) jq)))), (oy, .inl (cI, 24, .inl (fun jq => nI (Y jq)))), (oz, .inl (cI, 24, .inl (fun jq => nI (Z jq)))), (ot, .inl (cI, n, .inl T))] [(cI, .int), (cZ, .boolean)] sz) (wQ (some (.int (bI (sd_E n a (fun w => sd_br Y Z q w == 0) 0 0 == sd_E n a (fun w => Bq w == 0) 0 0)))) D [(od, .inr (1, [.int (nI n), .int (nI a), .int (nI (2 ^ n - 1 - a)), .ref og, .ref oy, .ref oz, .int (nI q), .int (nI d), .int (nI v), .ref ot])), (og, .inr (0, [.int (nI n), .int (nI a), .ref ob, .ref oe])), (ob, .inl (cI, (2 ^ n), .inl (fun jq => nI ((sd_br Y Z q) jq)))), (oe, .inl (cZ, (2 * 2 ^ n), .inl (fun jq => bI ((sd_ew n a (fun w => sd_br Y Z q w == 0)) jq)))), (oy, .inl (cI, 24, .inl (fun jq => nI (Y jq)))), (oz, .inl (cI, 24, .inl (fun jq => nI (Z jq)))), (ot, .inl (cI, n, .inl T))] (va_A [(od, .inr (1, [.int (nI n), .int (nI a), .int (nI (2 ^ n - 1 - a)), .ref og, .ref oy, .ref oz, .int (nI q), .int (nI d), .int (nI v), .ref ot])), (og, .inr (0, [.int (nI n), .int (nI a), .ref ob, .ref oe])), (ob, .inl (cI, (2 ^ n), .inl (fun jq => nI ((sd_br Y Z q) jq)))), (oe, .inl (cZ, (2 * 2 ^ n), .inl (fun jq => bI ((sd_ew n a (fun w => sd_br Y Z q w == 0)) jq)))), (oy, .inl (cI, 24, .inl (fun jq => nI (Y jq)))), (oz, .inl (cI, 24, .inl (fun jq => nI (Z jq)))), (ot, .inl (cI, n, .inl T))] sz)) 0 0 (va_A [(od, .inr (1, [.int (nI n), .int (nI a), .int (nI (2 ^ n - 1 - a)), .ref og, .ref oy, .ref oz, .int (nI q), .int (nI d), .int (nI v), .ref ot])), (og, .inr (0, [.int (nI n), .int (nI a), .ref ob, .ref oe])), (ob, .inl (cI, (2 ^ n), .inl (fun jq => nI ((sd_br Y Z q) jq)))), (oe, .inl (cZ, (2 * 2 ^ n), .inl (fun jq => bI ((sd_ew n a (fun w => sd_br Y Z q w == 0)) jq)))), (oy, .inl (cI, 24, .inl (fun jq => nI (Y jq)))), (oz, .inl (cI, 24, .inl (fun jq => nI (Z jq)))), (ot, .inl (cI, n, .inl T))] sz) := by
  obtain ⟨hn1, hn, ha, h5, hq, hY, hZ, hd, hv⟩ := id ok
  have h2n := hw_p10 hn
  refine Met.ofW (cc := cX1_leavesWinner) (maxL := 6) (ret := (some .boolean)) (by decide) rfl ?_
  intro p e s m args below meth c s₁ Bo hml hpre
  obtain ⟨rfl, hsz, hP, hK, hN, hD0⟩ := hpre
  subst hsz
  have hD := hD0.self (sz := s.heap.size)
  generalize hAe : va_A [(od, .inr (1, [.int (nI n), .int (nI a), .int (nI (2 ^ n - 1 - a)), .ref og, .ref oy, .ref oz, .int (nI q), .int (nI d), .int (nI v), .ref ot])), (og, .inr (0, [.int (nI n), .int (nI a), .ref ob, .ref oe])), (ob, .inl (cI, (2 ^ n), .inl (fun jq => nI ((sd_br Y Z q) jq)))), (oe, .inl (cZ, (2 * 2 ^ n), .inl (fun jq => bI ((sd_ew n a (fun w => sd_br Y Z q w == 0)) jq)))), (oy, .inl (cI, 24, .inl (fun jq => nI (Y jq)))), (oz, .inl (cI, 24, .inl (fun jq => nI (Z jq)))), (ot, .inl (cI, n, .inl T))] s.heap.size = A at hD ⊢
  have hA : ∀ q : Nat, s.heap.size ≤ q → A q := fun q h => by rw [← hAe]; exact Or.inr h
  have hS : va_S A s.heap s.heap [] := va_S.rf
  have hx := Bo.exec
  have hb := Bo.bytes
  have hr := Bo.returns
  have hts := atoms_spec (ws := kX1_leavesWinner :: aW) Bo.pre
  have ht : ∀ w ∈ aW, w.before _ s = true := fun w h => hts w (List.mem_cons_of_mem _ h)
  have hown : s.vm.findClass RX1 = some m.cls := findClass_of_methodNamed Bo.named
  have hlocks := Bo.notSynchronized
  have hP : va_P D clS [(od, .inr (1, [.int (nI n), .int (nI a), .int (nI (2 ^ n - 1 - a)), .ref og, .ref oy, .ref oz, .int (nI q), .int (nI d), .int (nI v), .ref ot])), (og, .inr (0, [.int (nI n), .int (nI a), .ref ob, .ref oe])), (ob, .inl (cI, (2 ^ n), .inl (fun jq => nI ((sd_br Y Z q) jq)))), (oe, .inl (cZ, (2 * 2 ^ n), .inl (fun jq => bI ((sd_ew n a (fun w => sd_br Y Z q w == 0)) jq)))), (oy, .inl (cI, 24, .inl (fun jq => nI (Y jq)))), (oz, .inl (cI, 24, .inl (fun jq => nI (Z jq)))), (ot, .inl (cI, n, .inl T))] s.heap := hP
  have hl := lv_entry ([.ref od, .int (nI y), .int (nI z), .int st]) (n := 6) (Nat.le_of_ble_eq_true rfl)
  rw [lg_entry_eq]
  generalize (lg_sl ([.ref od, .int (nI y), .int (nI z), .int st]) ++ List.replicate (6 - (lg_sl ([.ref od, .int (nI y), .int (nI z), .int st])).length) Slot.unset).toArray = ls at hl ⊢
  have hl : lv_has ls 6 [(0, .ref od), (1, .int (nI y)), (2, .int (nI z)), (3, .int st)] := hl
  have hpn := Nat.two_pow_pos n
  refine lv_aload_n hx hb dX1_leavesWinner_0 rfl (lv_at hl 0 rfl) ?_
  refine va_get (D := D) (ci := 1) (v := .ref og) (C := RX1) (T := TX1) (N := 10) hx hb ht inX1 hown hK hP 0 rfl rfl 3 (by decide) (ht _ wf_X1_game) (fun _ h9 => h9) rfl dX1_leavesWinner_1 ?_
  refine lv_iconst (v := nI 0) hx hb dX1_leavesWinner_4 (by decide) ?_
  refine lv_iconst (v := nI 0) hx hb dX1_leavesWinner_5 (by decide) ?_
  refine hw_callR (va_runV (b := og) (As := [.int (nI 0), .int (nI 0)]) (rest := []) ⟨hx, hb, hml, hown, ht⟩ (c_eveWinsAt l D cI cZ og ob oe n a 0 0 (sd_br Y Z q) (sd_ew n a (fun w => sd_br Y Z q w == 0)) hn (by omega) (by show 1 + 0 < _; omega)) (cwV 2 ht (gV wm_X1_X0_eveWinsAt wi_X0_eveWinsAt ws_X0_eveWinsAt wn_X0 wc_X0_eveWinsAt) rfl rfl rfl (by decide +kernel) ⟨Nat.le_of_ble_eq_true rfl, Nat.le_of_ble_eq_true rfl⟩) (rPre_V 0 (hP.sub [1, 2, 3] rfl) hK hN rfl rfl) rfl rfl hl.1 rfl (lv_room (Nat.le_of_ble_eq_true rfl)) dX1_leavesWinner_6 ⟨Nat.zero_le _, Nat.zero_le _⟩) ?_
  refine lv_nm (y := bI (sd_E n a (fun w => sd_br Y Z q w == 0) 0 0)) (congrArg bI (sd_ew_at (d := 0) (v := 0) (by decide))) ?_
  refine lv_istore hx hb dX1_leavesWinner_9 hl (by decide) rfl (fun ls hl => ?_)
  have hl : lv_has ls 6 [(4, .int (bI (sd_E n a (fun w => sd_br Y Z q w == 0) 0 0))), (0, .ref od), (1, .int (nI y)), (2, .int (nI z)), (3, .int st)] := hl
  refine lv_aload_n hx hb dX1_leavesWinner_11 rfl (lv_at hl 1 rfl) ?_
  refine va_get (D := D) (ci := 1) (v := .ref og) (C := RX1) (T := TX1) (N := 10) hx hb ht inX1 hown hK hP 0 rfl rfl 3 (by decide) (ht _ wf_X1_game) (fun _ h9 => h9) rfl dX1_leavesWinner_12 ?_
  refine lv_iload_n hx hb dX1_leavesWinner_15 rfl (lv_at hl 2 rfl) ?_
  refine lv_iload_n hx hb dX1_leavesWinner_16 rfl (lv_at hl 3 rfl) ?_
  refine lv_iload_n hx hb dX1_leavesWinner_17 rfl (lv_at hl 4 rfl) ?_
  refine hw_call (wc := [(og, .inr (0, [.int (nI n), .int (nI a), .ref ob, .ref oe])), (ob, .inl (cI, (2 ^ n), .inl (fun jq => nI ((sd_br Y Z q) jq)))), (oe, .inl (cZ, (2 * 2 ^ n), .inl (fun jq => bI ((sd_ew n a (fun w => sd_br Y Z q w == 0)) jq))))]) (wc' := [(og, .inr (0, [.int (nI n), .int (nI a), .ref ob, .ref oe])), (ob, .inl (cI, (2 ^ n), .inl (fun jq => nI (Bq jq)))), (oe, .inl (cZ, (2 * 2 ^ n), .inl (fun jq => bI ((sd_ew n a (fun w => Bq w == 0)) jq))))]) (wr := [(od, .inr (1, [.int (nI n), .int (nI a), .int (nI (2 ^ n - 1 - a)), .ref og, .ref oy, .ref oz, .int (nI q), .int (nI d), .int (nI v), .ref ot])), (oy, .inl (cI, 24, .inl (fun jq => nI (Y jq)))), (oz, .inl (cI, 24, .inl (fun jq => nI (Z jq)))), (ot, .inl (cI, n, .inl T))]) (ws' := [(od, .inr (1, [.int (nI n), .int (nI a), .int (nI (2 ^ n - 1 - a)), .ref og, .ref oy, .ref oz, .int (nI q), .int (nI d), .int (nI v), .ref ot])), (og, .inr (0, [.int (nI n), .int (nI a), .ref ob, .ref oe])), (ob, .inl (cI, (2 ^ n), .inl (fun jq => nI (Bq jq)))), (oe, .inl (cZ, (2 * 2 ^ n), .inl (fun jq => bI ((sd_ew n a (fun w => Bq w == 0)) jq)))), (oy, .inl (cI, 24, .inl (fun jq => nI (Y jq)))), (oz, .inl (cI, 24, .inl (fun jq => nI (Z jq)))), (ot, .inl (cI, n, .inl T))]) (va_runV (b := og) (As := [.int (nI y), .int (nI z), .int st]) (rest := []) ⟨hx, hb, hml, hown, ht⟩ (c_change l D cI cZ og ob oe n a y z s.heap.size st (sd_br Y Z q) Bq (sd_ew n a (fun w => sd_br Y Z q w == 0)) hn1 hn ha hy hz (fun u _ => sd_brl Y Z (by omega) u) hBq2 hB1 rfl) (cwV 3 ht (gV wm_X1_X0_change wi_X0_change ws_X0_change wn_X0 wc_X0_change) rfl rfl rfl (by decide +kernel) ⟨Nat.le_of_ble_eq_true rfl, Nat.le_of_ble_eq_true rfl⟩) (wPre_V 0 (hP.sub [1, 2, 3] rfl) (hD.sub [1, 2, 3] (by decide) rfl) hK hN rfl rfl) rfl rfl hl.1 rfl (lv_room (Nat.le_of_ble_eq_true rfl)) dX1_leavesWinner_18 ⟨Nat.zero_le _, Nat.zero_le _⟩) hP hD hS hA [1, 2, 3] [0, 4, 5, 6] [0, 4, 5, 6, 1, 2, 3] rfl rfl (by decide) (by decide) (by decide) rfl rfl rfl (fun H locs hP hD hS => ?_)
  have hP : va_P D clS [(od, .inr (1, [.int (nI n), .int (nI a), .int (nI (2 ^ n - 1 - a)), .ref og, .ref oy, .ref oz, .int (nI q), .int (nI d), .int (nI v), .ref ot])), (og, .inr (0, [.int (nI n), .int (nI a), .ref ob, .ref oe])), (ob, .inl (cI, (2 ^ n), .inl (fun jq => nI (Bq jq)))), (oe, .inl (cZ, (2 * 2 ^ n), .inl (fun jq => bI ((sd_ew n a (fun w => Bq w == 0)) jq)))), (oy, .inl (cI, 24, .inl (fun jq => nI (Y jq)))), (oz, .inl (cI, 24, .inl (fun jq => nI (Z jq)))), (ot, .inl (cI, n, .inl T))] H := hP
  have hD : va_D A [(od, .inr (1, [.int (nI n), .int (nI a), .int (nI (2 ^ n - 1 - a)), .ref og, .ref oy, .ref oz, .int (nI q), .int (nI d), .int (nI v), .ref ot])), (og, .inr (0, [.int (nI n), .int (nI a), .ref ob, .ref oe])), (ob, .inl (cI, (2 ^ n), .inl (fun jq => nI (Bq jq)))), (oe, .inl (cZ, (2 * 2 ^ n), .inl (fun jq => bI ((sd_ew n a (fun w => Bq w == 0)) jq)))), (oy, .inl (cI, 24, .inl (fun jq => nI (Y jq)))), (oz, .inl (cI, 24, .inl (fun jq => nI (Z jq)))), (ot, .inl (cI, n, .inl T))] := hD
  refine W.eq (g2 := F0 m 21 ls []) rfl ?_
  refine lv_aload_n hx hb dX1_leavesWinner_21 rfl (lv_at hl 1 rfl) ?_
  refine va_get (D := D) (ci := 1) (v := .ref og) (C := RX1) (T := TX1) (N := 10) hx hb ht inX1 hown hK hP 0 rfl rfl 3 (by decide) (ht _ wf_X1_game) (fun _ h9 => h9) rfl dX1_leavesWinner_22 ?_
  refine lv_iconst (v := nI 0) hx hb dX1_leavesWinner_25 (by decide) ?_
  refine lv_iconst (v := nI 0) hx hb dX1_leavesWinner_26 (by decide) ?_
  refine hw_callR (va_runV (b := og) (As := [.int (nI 0), .int (nI 0)]) (rest := []) ⟨hx, hb, hml, hown, ht⟩ (c_eveWinsAt l D cI cZ og ob oe n a 0 0 Bq (sd_ew n a (fun w => Bq w == 0)) hn (by omega) (by show 1 + 0 < _; omega)) (cwV 2 ht (gV wm_X1_X0_eveWinsAt wi_X0_eveWinsAt ws_X0_eveWinsAt wn_X0 wc_X0_eveWinsAt) rfl rfl rfl (by decide +kernel) ⟨Nat.le_of_ble_eq_true rfl, Nat.le_of_ble_eq_true rfl⟩) (rPre_V 0 (hP.sub [1, 2, 3] rfl) hK hN rfl rfl) rfl rfl hl.1 rfl (lv_room (Nat.le_of_ble_eq_true rfl)) dX1_leavesWinner_27 ⟨Nat.zero_le _, Nat.zero_le _⟩) ?_
  refine lv_nm (y := bI (sd_E n a (fun w => Bq w == 0) 0 0)) (congrArg bI (sd_ew_at (d := 0) (v := 0) (by decide))) ?_
  refine lv_istore hx hb dX1_leavesWinner_30 hl (by decide) rfl (fun ls hl => ?_)
  have hl : lv_has ls 6 [(5, .int (bI (sd_E n a (fun w => Bq w == 0) 0 0))), (4, .int (bI (sd_E n a (fun w => sd_br Y Z q w == 0) 0 0))), (0, .ref od), (1, .int (nI y)), (2, .int (nI z)), (3, .int st)] := hl
  refine lv_aload_n hx hb dX1_leavesWinner_32 rfl (lv_at hl 2 rfl) ?_
  refine va_get (D := D) (ci := 1) (v := .ref og) (C := RX1) (T := TX1) (N := 10) hx hb ht inX1 hown hK hP 0 rfl rfl 3 (by decide) (ht _ wf_X1_game) (fun _ h9 => h9) rfl dX1_leavesWinner_33 ?_
  refine lv_iload_n hx hb dX1_leavesWinner_36 rfl (lv_at hl 3 rfl) ?_
  refine lv_iload_n hx hb dX1_leavesWinner_37 rfl (lv_at hl 4 rfl) ?_
  refine lv_iload_n hx hb dX1_leavesWinner_38 rfl (lv_at hl 5 rfl) ?_
  refine lv_ineg hx hb dX1_leavesWinner_39 ?_
  refine hw_call (wc := [(og, .inr (0, [.int (nI n), .int (nI a), .ref ob, .ref oe])), (ob, .inl (cI, (2 ^ n), .inl (fun jq => nI (Bq jq)))), (oe, .inl (cZ, (2 * 2 ^ n), .inl (fun jq => bI ((sd_ew n a (fun w => Bq w == 0)) jq))))]) (wc' := [(og, .inr (0, [.int (nI n), .int (nI a), .ref ob, .ref oe])), (ob, .inl (cI, (2 ^ n), .inl (fun jq => nI ((sd_br Y Z q) jq)))), (oe, .inl (cZ, (2 * 2 ^ n), .inl (fun jq => bI ((sd_ew n a (fun w => sd_br Y Z q w == 0)) jq))))]) (wr := [(od, .inr (1, [.int (nI n), .int (nI a), .int (nI (2 ^ n - 1 - a)), .ref og, .ref oy, .ref oz, .int (nI q), .int (nI d), .int (nI v), .ref ot])), (oy, .inl (cI, 24, .inl (fun jq => nI (Y jq)))), (oz, .inl (cI, 24, .inl (fun jq => nI (Z jq)))), (ot, .inl (cI, n, .inl T))]) (ws' := [(od, .inr (1, [.int (nI n), .int (nI a), .int (nI (2 ^ n - 1 - a)), .ref og, .ref oy, .ref oz, .int (nI q), .int (nI d), .int (nI v), .ref ot])), (og, .inr (0, [.int (nI n), .int (nI a), .ref ob, .ref oe])), (ob, .inl (cI, (2 ^ n), .inl (fun jq => nI ((sd_br Y Z q) jq)))), (oe, .inl (cZ, (2 * 2 ^ n), .inl (fun jq => bI ((sd_ew n a (fun w => sd_br Y Z q w == 0)) jq)))), (oy, .inl (cI, 24, .inl (fun jq => nI (Y jq)))), (oz, .inl (cI, 24, .inl (fun jq => nI (Z jq)))), (ot, .inl (cI, n, .inl T))]) (va_runV (b := og) (As := [.int (nI y), .int (nI z), .int (-st)]) (rest := []) ⟨hx, hb, hml, hown, ht⟩ (c_change l D cI cZ og ob oe n a y z H.size (-st) Bq (sd_br Y Z q) (sd_ew n a (fun w => Bq w == 0)) hn1 hn ha hy hz hBq2 (fun u _ => sd_brl Y Z (by omega) u) hB2 rfl) (cwV 3 ht (gV wm_X1_X0_change wi_X0_change ws_X0_change wn_X0 wc_X0_change) rfl rfl rfl (by decide +kernel) ⟨Nat.le_of_ble_eq_true rfl, Nat.le_of_ble_eq_true rfl⟩) (wPre_V 0 (hP.sub [1, 2, 3] rfl) (hD.sub [1, 2, 3] (by decide) rfl) hK hN rfl rfl) rfl rfl hl.1 rfl (lv_room (Nat.le_of_ble_eq_true rfl)) dX1_leavesWinner_40 ⟨Nat.zero_le _, Nat.zero_le _⟩) hP hD hS hA [1, 2, 3] [0, 4, 5, 6] [0, 4, 5, 6, 1, 2, 3] rfl rfl (by decide) (by decide) (by decide) rfl rfl rfl (fun H locs hP hD hS => ?_)
  have hP : va_P D clS [(od, .inr (1, [.int (nI n), .int (nI a), .int (nI (2 ^ n - 1 - a)), .ref og, .ref oy, .ref oz, .int (nI q), .int (nI d), .int (nI v), .ref ot])), (og, .inr (0, [.int (nI n), .int (nI a), .ref ob, .ref oe])), (ob, .inl (cI, (2 ^ n), .inl (fun jq => nI ((sd_br Y Z q) jq)))), (oe, .inl (cZ, (2 * 2 ^ n), .inl (fun jq => bI ((sd_ew n a (fun w => sd_br Y Z q w == 0)) jq)))), (oy, .inl (cI, 24, .inl (fun jq => nI (Y jq)))), (oz, .inl (cI, 24, .inl (fun jq => nI (Z jq)))), (ot, .inl (cI, n, .inl T))] H := hP
  have hD : va_D A [(od, .inr (1, [.int (nI n), .int (nI a), .int (nI (2 ^ n - 1 - a)), .ref og, .ref oy, .ref oz, .int (nI q), .int (nI d), .int (nI v), .ref ot])), (og, .inr (0, [.int (nI n), .int (nI a), .ref ob, .ref oe])), (ob, .inl (cI, (2 ^ n), .inl (fun jq => nI ((sd_br Y Z q) jq)))), (oe, .inl (cZ, (2 * 2 ^ n), .inl (fun jq => bI ((sd_ew n a (fun w => sd_br Y Z q w == 0)) jq)))), (oy, .inl (cI, 24, .inl (fun jq => nI (Y jq)))), (oz, .inl (cI, 24, .inl (fun jq => nI (Z jq)))), (ot, .inl (cI, n, .inl T))] := hD
  refine W.eq (g2 := F0 m 43 ls []) rfl ?_
  refine lv_iload hx hb dX1_leavesWinner_43 (lv_at hl 1 rfl) ?_
  refine lv_iload hx hb dX1_leavesWinner_45 (lv_at hl 0 rfl) ?_
  suffices mk : W p l e (headSpec (kX1_leavesWinner :: aW) { frames := 4, cells := 0, slots := 0, locals := 93 }).room s m (([.ref od, .int (nI y), .int (nI z), .int st] : List Value).toArray) below meth c H locs 0 0 (MQ below (wQ (some (.int (bI (sd_E n a (fun w => sd_br Y Z q w == 0) 0 0 == sd_E n a (fun w => Bq w == 0) 0 0)))) D [(od, .inr (1, [.int (nI n), .int (nI a), .int (nI (2 ^ n - 1 - a)), .ref og, .ref oy, .ref oz, .int (nI q), .int (nI d), .int (nI v), .ref ot])), (og, .inr (0, [.int (nI n), .int (nI a), .ref ob, .ref oe])), (ob, .inl (cI, (2 ^ n), .inl (fun jq => nI ((sd_br Y Z q) jq)))), (oe, .inl (cZ, (2 * 2 ^ n), .inl (fun jq => bI ((sd_ew n a (fun w => sd_br Y Z q w == 0)) jq)))), (oy, .inl (cI, 24, .inl (fun jq => nI (Y jq)))), (oz, .inl (cI, 24, .inl (fun jq => nI (Z jq)))), (ot, .inl (cI, n, .inl T))] A) (([.ref od, .int (nI y), .int (nI z), .int st] : List Value).toArray) s 0 0 A) (F0 m 55 ls [.int (bI (sd_E n a (fun w => sd_br Y Z q w == 0) 0 0 == sd_E n a (fun w => Bq w == 0) 0 0))]) by
    refine lv_icmp_ne (tgt := 54) hx hb dX1_leavesWinner_47 rfl (fun h1 => ?_) (fun h1 => ?_)
    · have h1 : ¬ (sd_E n a (fun w => sd_br Y Z q w == 0) 0 0) = (sd_E n a (fun w => Bq w == 0) 0 0) := fun h9 => h1 ((bI_inj _ _).mpr h9)
      refine lv_iconst (v := nI 0) hx hb dX1_leavesWinner_54 (by decide) ?_
      refine lv_nm (y := bI (sd_E n a (fun w => sd_br Y Z q w == 0) 0 0 == sd_E n a (fun w => Bq w == 0) 0 0)) (hw_0.trans (congrArg bI (show false = (sd_E n a (fun w => sd_br Y Z q w == 0) 0 0 == sd_E n a (fun w => Bq w == 0) 0 0) by first | exact hw_bt h1 | exact hw_bf h1))) ?_
      exact mk
    · have h1 : (sd_E n a (fun w => sd_br Y Z q w == 0) 0 0) = (sd_E n a (fun w => Bq w == 0) 0 0) := (bI_inj _ _).mp h1
      refine lv_iconst (v := nI 1) hx hb dX1_leavesWinner_50 (by decide) ?_
      refine lv_goto (tgt := 55) hx hb dX1_leavesWinner_51 rfl ?_
      refine lv_nm (y := bI (sd_E n a (fun w => sd_br Y Z q w == 0) 0 0 == sd_E n a (fun w => Bq w == 0) 0 0)) (hw_1.trans (congrArg bI (show true = (sd_E n a (fun w => sd_br Y Z q w == 0) 0 0 == sd_E n a (fun w => Bq w == 0) 0 0) by first | exact hw_bt h1 | exact hw_bf h1))) ?_
      exact mk
  exact W.zret hx hb hr (bI_nar _) (fun t ht2 _ => ⟨hw_ret (rfl), by rw [ht2]; exact hP, hS.F ht2⟩) hS.2.2 dX1_leavesWinner_55

set_option maxHeartbeats 4000000 in
set_option maxRecDepth 100000 in
theorem c_idle (l : Launch) (D : va_G) (cI cZ : ClassId) (od og ob oe oy oz ot n a r d v : Nat) (Y Z : Nat → Nat) (T : Nat → Int32) (ok : dOk n a (r + 1) d v Y Z) (sz : Nat) (i : Nat) (hi : i < r + 1) : Met l yX1_idle (kX1_idle :: aW) { frames := 5, cells := 0, slots := 0, locals := 118 } (wPre [.ref od, .int (nI i)] D [(od, .inr (1, [.int (nI n), .int (nI a), .int (nI (2 ^ n - 1 - a)), .ref og, .ref oy, .ref oz, .int (nI (r + 1)), .int (nI d), .int (nI v), .ref ot])), (og, .inr (0, [.int (nI n), .int (nI a), .ref ob, .ref oe])), (ob, .inl (cI, (2 ^ n), .inl (fun jq => nI ((sd_br Y Z (r + 1)) jq)))), (oe, .inl (cZ, (2 * 2 ^ n), .inl (fun jq => bI ((sd_ew n a (fun w => sd_br Y Z (r + 1) w == 0)) jq)))), (oy, .inl (cI, 24, .inl (fun jq => nI (Y jq)))), (oz, .inl (cI, 24, .inl (fun jq => nI (Z jq)))), (ot, .inl (cI, n, .inl T))] [(cI, .int), (cZ, .boolean)] sz) (wQ (some (.int (bI (sd_E n a (fun w => sd_br Y Z (r + 1) w == 0) 0 0 == sd_E n a (fun w => sd_br (sd_sh Y i r) (sd_sh Z i r) r w == 0) 0 0)))) D [(od, .inr (1, [.int (nI n), .int (nI a), .int (nI (2 ^ n - 1 - a)), .ref og, .ref oy, .ref oz, .int (nI (r + 1)), .int (nI d), .int (nI v), .ref ot])), (og, .inr (0, [.int (nI n), .int (nI a), .ref ob, .ref oe])), (ob, .inl (cI, (2 ^ n), .inl (fun jq => nI ((sd_br Y Z (r + 1)) jq)))), (oe, .inl (cZ, (2 * 2 ^ n), .inl (fun jq => bI ((sd_ew n a (fun w => sd_br Y Z (r + 1) w == 0)) jq)))), (oy, .inl (cI, 24, .inl (fun jq => nI (Y jq)))), (oz, .inl (cI, 24, .inl (fun jq => nI (Z jq)))), (ot, .inl (cI, n, .inl T))] (va_A [(od, .inr (1, [.int (nI n), .int (nI a), .int (nI (2 ^ n - 1 - a)), .ref og, .ref oy, .ref oz, .int (nI (r + 1)), .int (nI d), .int (nI v), .ref ot])), (og, .inr (0, [.int (nI n), .int (nI a), .ref ob, .ref oe])), (ob, .inl (cI, (2 ^ n), .inl (fun jq => nI ((sd_br Y Z (r + 1)) jq)))), (oe, .inl (cZ, (2 * 2 ^ n), .inl (fun jq => bI ((sd_ew n a (fun w => sd_br Y Z (r + 1) w == 0)) jq)))), (oy, .inl (cI, 24, .inl (fun jq => nI (Y jq)))), (oz, .inl (cI, 24, .inl (fun jq => nI (Z jq)))), (ot, .inl (cI, n, .inl T))] sz)) 0 0 (va_A [(od, .inr (1, [.int (nI n), .int (nI a), .int (nI (2 ^ n - 1 - a)), .ref og, .ref oy, .ref oz, .int (nI (r + 1)), .int (nI d), .int (nI v), .ref ot])), (og, .inr (0, [.int (nI n), .int (nI a), .ref ob, .ref oe])), (ob, .inl (cI, (2 ^ n), .inl (fun jq => nI ((sd_br Y Z (r + 1)) jq)))), (oe, .inl (cZ, (2 * 2 ^ n), .inl (fun jq => bI ((sd_ew n a (fun w => sd_br Y Z (r + 1) w == 0)) jq)))), (oy, .inl (cI, 24, .inl (fun jq => nI (Y jq)))), (oz, .inl (cI, 24, .inl (fun jq => nI (Z jq)))), (ot, .inl (cI, n, .inl T))] sz) := by
  obtain ⟨hn1, hn, ha, h5, hq, hY, hZ, hd, hv⟩ := id ok
  have h2n := hw_p10 hn
  refine Met.ofW (cc := cX1_idle) (maxL := 2) (ret := (some .boolean)) (by decide) rfl ?_
  intro p e s m args below meth c s₁ Bo hml hpre
  obtain ⟨rfl, hsz, hP, hK, hN, hD0⟩ := hpre
  subst hsz
  have hD := hD0.self (sz := s.heap.size)
  generalize hAe : va_A [(od, .inr (1, [.int (nI n), .int (nI a), .int (nI (2 ^ n - 1 - a)), .ref og, .ref oy, .ref oz, .int (nI (r + 1)), .int (nI d), .int (nI v), .ref ot])), (og, .inr (0, [.int (nI n), .int (nI a), .ref ob, .ref oe])), (ob, .inl (cI, (2 ^ n), .inl (fun jq => nI ((sd_br Y Z (r + 1)) jq)))), (oe, .inl (cZ, (2 * 2 ^ n), .inl (fun jq => bI ((sd_ew n a (fun w => sd_br Y Z (r + 1) w == 0)) jq)))), (oy, .inl (cI, 24, .inl (fun jq => nI (Y jq)))), (oz, .inl (cI, 24, .inl (fun jq => nI (Z jq)))), (ot, .inl (cI, n, .inl T))] s.heap.size = A at hD ⊢
  have hA : ∀ q : Nat, s.heap.size ≤ q → A q := fun q h => by rw [← hAe]; exact Or.inr h
  have hS : va_S A s.heap s.heap [] := va_S.rf
  have hx := Bo.exec
  have hb := Bo.bytes
  have hr := Bo.returns
  have hts := atoms_spec (ws := kX1_idle :: aW) Bo.pre
  have ht : ∀ w ∈ aW, w.before _ s = true := fun w h => hts w (List.mem_cons_of_mem _ h)
  have hown : s.vm.findClass RX1 = some m.cls := findClass_of_methodNamed Bo.named
  have hlocks := Bo.notSynchronized
  have hP : va_P D clS [(od, .inr (1, [.int (nI n), .int (nI a), .int (nI (2 ^ n - 1 - a)), .ref og, .ref oy, .ref oz, .int (nI (r + 1)), .int (nI d), .int (nI v), .ref ot])), (og, .inr (0, [.int (nI n), .int (nI a), .ref ob, .ref oe])), (ob, .inl (cI, (2 ^ n), .inl (fun jq => nI ((sd_br Y Z (r + 1)) jq)))), (oe, .inl (cZ, (2 * 2 ^ n), .inl (fun jq => bI ((sd_ew n a (fun w => sd_br Y Z (r + 1) w == 0)) jq)))), (oy, .inl (cI, 24, .inl (fun jq => nI (Y jq)))), (oz, .inl (cI, 24, .inl (fun jq => nI (Z jq)))), (ot, .inl (cI, n, .inl T))] s.heap := hP
  have hl := lv_entry ([.ref od, .int (nI i)]) (n := 2) (Nat.le_of_ble_eq_true rfl)
  rw [lg_entry_eq]
  generalize (lg_sl ([.ref od, .int (nI i)]) ++ List.replicate (2 - (lg_sl ([.ref od, .int (nI i)])).length) Slot.unset).toArray = ls at hl ⊢
  have hl : lv_has ls 2 [(0, .ref od), (1, .int (nI i))] := hl
  refine lv_aload_n hx hb dX1_idle_0 rfl (lv_at hl 0 rfl) ?_
  refine lv_iload_n hx hb dX1_idle_1 rfl (lv_at hl 1 rfl) ?_
  refine hw_callR (va_runV (b := od) (As := [.int (nI i)]) (rest := []) ⟨hx, hb, hml, hown, ht⟩ (c_isClause l D cI cZ od og ob oe oy oz ot n a (r + 1) d v Y Z T ok (nI i)) (cwV 1 ht (gV wm_X1_X1_isClause wi_X1_isClause ws_X1_isClause wn_X1 wc_X1_isClause) rfl rfl rfl (by decide +kernel) ⟨Nat.le_of_ble_eq_true rfl, Nat.le_of_ble_eq_true rfl⟩) (rPre_V 0 hP hK hN rfl rfl) rfl rfl hl.1 rfl (lv_room (Nat.le_of_ble_eq_true rfl)) dX1_idle_2 ⟨Nat.zero_le _, Nat.zero_le _⟩) ?_
  refine lv_nm (y := bI true) (congrArg bI (decide_eq_true (by rw [uN_nI (by omega)]; exact hi))) ?_
  refine lv_if_eq (tgt := 32) hx hb dX1_idle_5 rfl (fun hc => absurd (show true = false from (bI_eq0 _).mp hc) (by decide)) (fun _ => ?_)
  refine lv_aload_n hx hb dX1_idle_8 rfl (lv_at hl 0 rfl) ?_
  refine lv_aload_n hx hb dX1_idle_9 rfl (lv_at hl 0 rfl) ?_
  refine va_get (D := D) (ci := 1) (v := .ref oy) (C := RX1) (T := TX1) (N := 10) hx hb ht inX1 hown hK hP 0 rfl rfl 4 (by decide) (ht _ wf_X1_yesSets) (fun _ h9 => h9) rfl dX1_idle_10 ?_
  refine lv_iload_n hx hb dX1_idle_13 rfl (lv_at hl 1 rfl) ?_
  refine na_nald (f := Y) hx hb hK hP 4 0 rfl rfl (j := i) (by omega) (by omega) dX1_idle_14 ?_
  refine lv_aload_n hx hb dX1_idle_15 rfl (lv_at hl 0 rfl) ?_
  refine va_get (D := D) (ci := 1) (v := .ref oz) (C := RX1) (T := TX1) (N := 10) hx hb ht inX1 hown hK hP 0 rfl rfl 5 (by decide) (ht _ wf_X1_noSets) (fun _ h9 => h9) rfl dX1_idle_16 ?_
  refine lv_iload_n hx hb dX1_idle_19 rfl (lv_at hl 1 rfl) ?_
  refine na_nald (f := Z) hx hb hK hP 5 0 rfl rfl (j := i) (by omega) (by omega) dX1_idle_20 ?_
  refine lv_iconst (v := (-1)) hx hb dX1_idle_21 (by decide) ?_
  refine hw_callW (ws' := [(od, .inr (1, [.int (nI n), .int (nI a), .int (nI (2 ^ n - 1 - a)), .ref og, .ref oy, .ref oz, .int (nI (r + 1)), .int (nI d), .int (nI v), .ref ot])), (og, .inr (0, [.int (nI n), .int (nI a), .ref ob, .ref oe])), (ob, .inl (cI, (2 ^ n), .inl (fun jq => nI ((sd_br Y Z (r + 1)) jq)))), (oe, .inl (cZ, (2 * 2 ^ n), .inl (fun jq => bI ((sd_ew n a (fun w => sd_br Y Z (r + 1) w == 0)) jq)))), (oy, .inl (cI, 24, .inl (fun jq => nI (Y jq)))), (oz, .inl (cI, 24, .inl (fun jq => nI (Z jq)))), (ot, .inl (cI, n, .inl T))]) (va_runV (b := od) (As := [.int (nI (Y i)), .int (nI (Z i)), .int (-1)]) (rest := []) ⟨hx, hb, hml, hown, ht⟩ (c_leavesWinner l D cI cZ od og ob oe oy oz ot n a (r + 1) d v Y Z T ok s.heap.size (Y i) (Z i) (-1) (sd_br (sd_sh Y i r) (sd_sh Z i r) r) (hY i) (hZ i) (fun u _ => sd_brl _ _ (by omega) u) (fun u _ => sd_out rfl (sd_br_sh Y Z u r (by omega))) (fun u _ => by rw [sd_br_sh Y Z (i := i) u r (by omega)]; exact sd_in (by decide))) (cwV 3 ht (gV wm_X1_X1_leavesWinner wi_X1_leavesWinner ws_X1_leavesWinner wn_X1 wc_X1_leavesWinner) rfl rfl rfl (by decide +kernel) ⟨Nat.le_of_ble_eq_true rfl, Nat.le_of_ble_eq_true rfl⟩) (wPre_V 0 hP hD hK hN rfl rfl) rfl rfl hl.1 rfl (lv_room (Nat.le_of_ble_eq_true rfl)) dX1_idle_22 ⟨Nat.zero_le _, Nat.zero_le _⟩) hD hS hA rfl (fun H locs hP hD hS => ?_)
  have hP : va_P D clS [(od, .inr (1, [.int (nI n), .int (nI a), .int (nI (2 ^ n - 1 - a)), .ref og, .ref oy, .ref oz, .int (nI (r + 1)), .int (nI d), .int (nI v), .ref ot])), (og, .inr (0, [.int (nI n), .int (nI a), .ref ob, .ref oe])), (ob, .inl (cI, (2 ^ n), .inl (fun jq => nI ((sd_br Y Z (r + 1)) jq)))), (oe, .inl (cZ, (2 * 2 ^ n), .inl (fun jq => bI ((sd_ew n a (fun w => sd_br Y Z (r + 1) w == 0)) jq)))), (oy, .inl (cI, 24, .inl (fun jq => nI (Y jq)))), (oz, .inl (cI, 24, .inl (fun jq => nI (Z jq)))), (ot, .inl (cI, n, .inl T))] H := hP
  have hD : va_D A [(od, .inr (1, [.int (nI n), .int (nI a), .int (nI (2 ^ n - 1 - a)), .ref og, .ref oy, .ref oz, .int (nI (r + 1)), .int (nI d), .int (nI v), .ref ot])), (og, .inr (0, [.int (nI n), .int (nI a), .ref ob, .ref oe])), (ob, .inl (cI, (2 ^ n), .inl (fun jq => nI ((sd_br Y Z (r + 1)) jq)))), (oe, .inl (cZ, (2 * 2 ^ n), .inl (fun jq => bI ((sd_ew n a (fun w => sd_br Y Z (r + 1) w == 0)) jq)))), (oy, .inl (cI, 24, .inl (fun jq => nI (Y jq)))), (oz, .inl (cI, 24, .inl (fun jq => nI (Z jq)))), (ot, .inl (cI, n, .inl T))] := hD
  refine W.eq (g2 := F0 m 25 ls [.int (bI (sd_E n a (fun w => sd_br Y Z (r + 1) w == 0) 0 0 == sd_E n a (fun w => sd_br (sd_sh Y i r) (sd_sh Z i r) r w == 0) 0 0))]) rfl ?_
  suffices mk : W p l e (headSpec (kX1_idle :: aW) { frames := 5, cells := 0, slots := 0, locals := 118 }).room s m (([.ref od, .int (nI i)] : List Value).toArray) below meth c H locs 0 0 (MQ below (wQ (some (.int (bI (sd_E n a (fun w => sd_br Y Z (r + 1) w == 0) 0 0 == sd_E n a (fun w => sd_br (sd_sh Y i r) (sd_sh Z i r) r w == 0) 0 0)))) D [(od, .inr (1, [.int (nI n), .int (nI a), .int (nI (2 ^ n - 1 - a)), .ref og, .ref oy, .ref oz, .int (nI (r + 1)), .int (nI d), .int (nI v), .ref ot])), (og, .inr (0, [.int (nI n), .int (nI a), .ref ob, .ref oe])), (ob, .inl (cI, (2 ^ n), .inl (fun jq => nI ((sd_br Y Z (r + 1)) jq)))), (oe, .inl (cZ, (2 * 2 ^ n), .inl (fun jq => bI ((sd_ew n a (fun w => sd_br Y Z (r + 1) w == 0)) jq)))), (oy, .inl (cI, 24, .inl (fun jq => nI (Y jq)))), (oz, .inl (cI, 24, .inl (fun jq => nI (Z jq)))), (ot, .inl (cI, n, .inl T))] A) (([.ref od, .int (nI i)] : List Value).toArray) s 0 0 A) (F0 m 33 ls [.int (bI (sd_E n a (fun w => sd_br Y Z (r + 1) w == 0) 0 0 == sd_E n a (fun w => sd_br (sd_sh Y i r) (sd_sh Z i r) r w == 0) 0 0))]) by
    refine lv_if_eq (tgt := 32) hx hb dX1_idle_25 rfl (fun h1 => ?_) (fun h1 => ?_)
    · have h1 : (sd_E n a (fun w => sd_br Y Z (r + 1) w == 0) 0 0 == sd_E n a (fun w => sd_br (sd_sh Y i r) (sd_sh Z i r) r w == 0) 0 0) = false := (bI_eq0 _).mp h1
      refine lv_iconst (v := nI 0) hx hb dX1_idle_32 (by decide) ?_
      refine lv_nm (y := bI (sd_E n a (fun w => sd_br Y Z (r + 1) w == 0) 0 0 == sd_E n a (fun w => sd_br (sd_sh Y i r) (sd_sh Z i r) r w == 0) 0 0)) (hw_0.trans (congrArg bI (show false = (sd_E n a (fun w => sd_br Y Z (r + 1) w == 0) 0 0 == sd_E n a (fun w => sd_br (sd_sh Y i r) (sd_sh Z i r) r w == 0) 0 0) by rw [h1]))) ?_
      exact mk
    · have h1 : (sd_E n a (fun w => sd_br Y Z (r + 1) w == 0) 0 0 == sd_E n a (fun w => sd_br (sd_sh Y i r) (sd_sh Z i r) r w == 0) 0 0) = true := bI_ne0 h1
      refine lv_iconst (v := nI 1) hx hb dX1_idle_28 (by decide) ?_
      refine lv_goto (tgt := 33) hx hb dX1_idle_29 rfl ?_
      refine lv_nm (y := bI (sd_E n a (fun w => sd_br Y Z (r + 1) w == 0) 0 0 == sd_E n a (fun w => sd_br (sd_sh Y i r) (sd_sh Z i r) r w == 0) 0 0)) (hw_1.trans (congrArg bI (show true = (sd_E n a (fun w => sd_br Y Z (r + 1) w == 0) 0 0 == sd_E n a (fun w => sd_br (sd_sh Y i r) (sd_sh Z i r) r w == 0) 0 0) by rw [h1]))) ?_
      exact mk
  exact W.zret hx hb hr (bI_nar _) (fun t ht2 _ => ⟨hw_ret (rfl), by rw [ht2]; exact hP, hS.F ht2⟩) hS.2.2 dX1_idle_33

set_option maxHeartbeats 4000000 in
set_option maxRecDepth 100000 in
theorem c_harmless_no (l : Launch) (D : va_G) (cI cZ : ClassId) (od og ob oe oy oz ot n a q d v : Nat) (Y Z : Nat → Nat) (T : Nat → Int32) (ok : dOk n a q d v Y Z) (y0 z0 : Int32) (hno : ¬ (uN y0 < 2 ^ n ∧ uN z0 < 2 ^ n)) : Met l yX1_harmless (kX1_harmless :: aW) { frames := 5, cells := 0, slots := 0, locals := 118 } (rPre [.ref od, .int y0, .int z0] D [(od, .inr (1, [.int (nI n), .int (nI a), .int (nI (2 ^ n - 1 - a)), .ref og, .ref oy, .ref oz, .int (nI q), .int (nI d), .int (nI v), .ref ot])), (og, .inr (0, [.int (nI n), .int (nI a), .ref ob, .ref oe])), (ob, .inl (cI, (2 ^ n), .inl (fun jq => nI ((sd_br Y Z q) jq)))), (oe, .inl (cZ, (2 * 2 ^ n), .inl (fun jq => bI ((sd_ew n a (fun w => sd_br Y Z q w == 0)) jq)))), (oy, .inl (cI, 24, .inl (fun jq => nI (Y jq)))), (oz, .inl (cI, 24, .inl (fun jq => nI (Z jq)))), (ot, .inl (cI, n, .inl T))] [(cI, .int), (cZ, .boolean)]) (QcRead (bI false)) 0 0 (fun _ => False) := by
  obtain ⟨hn1, hn, ha, h5, hq, hY, hZ, hd, hv⟩ := id ok
  have h2n := hw_p10 hn
  refine Met.ofW (cc := cX1_harmless) (maxL := 3) (ret := (some .boolean)) (by decide) rfl ?_
  intro p e s m args below meth c s₁ Bo hml hpre
  obtain ⟨rfl, hP, hK, hN⟩ := hpre
  have hx := Bo.exec
  have hb := Bo.bytes
  have hr := Bo.returns
  have hts := atoms_spec (ws := kX1_harmless :: aW) Bo.pre
  have ht : ∀ w ∈ aW, w.before _ s = true := fun w h => hts w (List.mem_cons_of_mem _ h)
  have hown : s.vm.findClass RX1 = some m.cls := findClass_of_methodNamed Bo.named
  have hlocks := Bo.notSynchronized
  have hP : va_P D clS [(od, .inr (1, [.int (nI n), .int (nI a), .int (nI (2 ^ n - 1 - a)), .ref og, .ref oy, .ref oz, .int (nI q), .int (nI d), .int (nI v), .ref ot])), (og, .inr (0, [.int (nI n), .int (nI a), .ref ob, .ref oe])), (ob, .inl (cI, (2 ^ n), .inl (fun jq => nI ((sd_br Y Z q) jq)))), (oe, .inl (cZ, (2 * 2 ^ n), .inl (fun jq => bI ((sd_ew n a (fun w => sd_br Y Z q w == 0)) jq)))), (oy, .inl (cI, 24, .inl (fun jq => nI (Y jq)))), (oz, .inl (cI, 24, .inl (fun jq => nI (Z jq)))), (ot, .inl (cI, n, .inl T))] s.heap := hP
  have hl := lv_entry ([.ref od, .int y0, .int z0]) (n := 3) (Nat.le_of_ble_eq_true rfl)
  rw [lg_entry_eq]
  generalize (lg_sl ([.ref od, .int y0, .int z0]) ++ List.replicate (3 - (lg_sl ([.ref od, .int y0, .int z0])).length) Slot.unset).toArray = ls at hl ⊢
  have hl : lv_has ls 3 [(0, .ref od), (1, .int y0), (2, .int z0)] := hl
  refine lv_aload_n hx hb dX1_harmless_0 rfl (lv_at hl 0 rfl) ?_
  refine lv_iload_n hx hb dX1_harmless_1 rfl (lv_at hl 1 rfl) ?_
  refine lv_iload_n hx hb dX1_harmless_2 rfl (lv_at hl 2 rfl) ?_
  refine hw_callR (va_runV (b := od) (As := [.int y0, .int z0]) (rest := []) ⟨hx, hb, hml, hown, ht⟩ (c_areSets l D cI cZ od og ob oe oy oz ot n a q d v Y Z T ok y0 z0) (cwV 2 ht (gV wm_X1_X1_areSets wi_X1_areSets ws_X1_areSets wn_X1 wc_X1_areSets) rfl rfl rfl (by decide +kernel) ⟨Nat.le_of_ble_eq_true rfl, Nat.le_of_ble_eq_true rfl⟩) (rPre_V 0 hP hK hN rfl rfl) rfl rfl hl.1 rfl (lv_room (Nat.le_of_ble_eq_true rfl)) dX1_harmless_3 ⟨Nat.zero_le _, Nat.zero_le _⟩) ?_
  refine lv_if_eq (tgt := 23) hx hb dX1_harmless_6 rfl (fun h1 => ?_) (fun h1 => ?_)
  · have h1 : (decide (uN y0 < 2 ^ n) && decide (uN z0 < 2 ^ n)) = false := (bI_eq0 _).mp h1
    refine lv_iconst (v := nI 0) hx hb dX1_harmless_23 (by decide) ?_
    exact W.zret hx hb hr rfl (fun t ht2 _ => ⟨hw_ret (rfl), ht2⟩) (fun _ h => by cases h) dX1_harmless_24
  · have h1 : (decide (uN y0 < 2 ^ n) && decide (uN z0 < 2 ^ n)) = true := bI_ne0 h1
    exact absurd (by simpa using h1) hno

set_option maxHeartbeats 4000000 in
set_option maxRecDepth 100000 in
theorem c_harmless (l : Launch) (D : va_G) (cI cZ : ClassId) (od og ob oe oy oz ot n a q d v : Nat) (Y Z : Nat → Nat) (T : Nat → Int32) (ok : dOk n a q d v Y Z) (sz : Nat) (y z : Nat) (hy : y < 2 ^ n) (hz : z < 2 ^ n) : Met l yX1_harmless (kX1_harmless :: aW) { frames := 5, cells := 0, slots := 0, locals := 118 } (wPre [.ref od, .int (nI y), .int (nI z)] D [(od, .inr (1, [.int (nI n), .int (nI a), .int (nI (2 ^ n - 1 - a)), .ref og, .ref oy, .ref oz, .int (nI q), .int (nI d), .int (nI v), .ref ot])), (og, .inr (0, [.int (nI n), .int (nI a), .ref ob, .ref oe])), (ob, .inl (cI, (2 ^ n), .inl (fun jq => nI ((sd_br Y Z q) jq)))), (oe, .inl (cZ, (2 * 2 ^ n), .inl (fun jq => bI ((sd_ew n a (fun w => sd_br Y Z q w == 0)) jq)))), (oy, .inl (cI, 24, .inl (fun jq => nI (Y jq)))), (oz, .inl (cI, 24, .inl (fun jq => nI (Z jq)))), (ot, .inl (cI, n, .inl T))] [(cI, .int), (cZ, .boolean)] sz) (wQ (some (.int (bI (sd_E n a (fun w => sd_br Y Z q w == 0) 0 0 == sd_E n a (fun w => sd_br (va_up Y q y) (va_up Z q z) (q + 1) w == 0) 0 0)))) D [(od, .inr (1, [.int (nI n), .int (nI a), .int (nI (2 ^ n - 1 - a)), .ref og, .ref oy, .ref oz, .int (nI q), .int (nI d), .int (nI v), .ref ot])), (og, .inr (0, [.int (nI n), .int (nI a), .ref ob, .ref oe])), (ob, .inl (cI, (2 ^ n), .inl (fun jq => nI ((sd_br Y Z q) jq)))), (oe, .inl (cZ, (2 * 2 ^ n), .inl (fun jq => bI ((sd_ew n a (fun w => sd_br Y Z q w == 0)) jq)))), (oy, .inl (cI, 24, .inl (fun jq => nI (Y jq)))), (oz, .inl (cI, 24, .inl (fun jq => nI (Z jq)))), (ot, .inl (cI, n, .inl T))] (va_A [(od, .inr (1, [.int (nI n), .int (nI a), .int (nI (2 ^ n - 1 - a)), .ref og, .ref oy, .ref oz, .int (nI q), .int (nI d), .int (nI v), .ref ot])), (og, .inr (0, [.int (nI n), .int (nI a), .ref ob, .ref oe])), (ob, .inl (cI, (2 ^ n), .inl (fun jq => nI ((sd_br Y Z q) jq)))), (oe, .inl (cZ, (2 * 2 ^ n), .inl (fun jq => bI ((sd_ew n a (fun w => sd_br Y Z q w == 0)) jq)))), (oy, .inl (cI, 24, .inl (fun jq => nI (Y jq)))), (oz, .inl (cI, 24, .inl (fun jq => nI (Z jq)))), (ot, .inl (cI, n, .inl T))] sz)) 0 0 (va_A [(od, .inr (1, [.int (nI n), .int (nI a), .int (nI (2 ^ n - 1 - a)), .ref og, .ref oy, .ref oz, .int (nI q), .int (nI d), .int (nI v), .ref ot])), (og, .inr (0, [.int (nI n), .int (nI a), .ref ob, .ref oe])), (ob, .inl (cI, (2 ^ n), .inl (fun jq => nI ((sd_br Y Z q) jq)))), (oe, .inl (cZ, (2 * 2 ^ n), .inl (fun jq => bI ((sd_ew n a (fun w => sd_br Y Z q w == 0)) jq)))), (oy, .inl (cI, 24, .inl (fun jq => nI (Y jq)))), (oz, .inl (cI, 24, .inl (fun jq => nI (Z jq)))), (ot, .inl (cI, n, .inl T))] sz) := by
  obtain ⟨hn1, hn, ha, h5, hq, hY, hZ, hd, hv⟩ := id ok
  have h2n := hw_p10 hn
  refine Met.ofW (cc := cX1_harmless) (maxL := 3) (ret := (some .boolean)) (by decide) rfl ?_
  intro p e s m args below meth c s₁ Bo hml hpre
  obtain ⟨rfl, hsz, hP, hK, hN, hD0⟩ := hpre
  subst hsz
  have hD := hD0.self (sz := s.heap.size)
  generalize hAe : va_A [(od, .inr (1, [.int (nI n), .int (nI a), .int (nI (2 ^ n - 1 - a)), .ref og, .ref oy, .ref oz, .int (nI q), .int (nI d), .int (nI v), .ref ot])), (og, .inr (0, [.int (nI n), .int (nI a), .ref ob, .ref oe])), (ob, .inl (cI, (2 ^ n), .inl (fun jq => nI ((sd_br Y Z q) jq)))), (oe, .inl (cZ, (2 * 2 ^ n), .inl (fun jq => bI ((sd_ew n a (fun w => sd_br Y Z q w == 0)) jq)))), (oy, .inl (cI, 24, .inl (fun jq => nI (Y jq)))), (oz, .inl (cI, 24, .inl (fun jq => nI (Z jq)))), (ot, .inl (cI, n, .inl T))] s.heap.size = A at hD ⊢
  have hA : ∀ q : Nat, s.heap.size ≤ q → A q := fun q h => by rw [← hAe]; exact Or.inr h
  have hS : va_S A s.heap s.heap [] := va_S.rf
  have hx := Bo.exec
  have hb := Bo.bytes
  have hr := Bo.returns
  have hts := atoms_spec (ws := kX1_harmless :: aW) Bo.pre
  have ht : ∀ w ∈ aW, w.before _ s = true := fun w h => hts w (List.mem_cons_of_mem _ h)
  have hown : s.vm.findClass RX1 = some m.cls := findClass_of_methodNamed Bo.named
  have hlocks := Bo.notSynchronized
  have hP : va_P D clS [(od, .inr (1, [.int (nI n), .int (nI a), .int (nI (2 ^ n - 1 - a)), .ref og, .ref oy, .ref oz, .int (nI q), .int (nI d), .int (nI v), .ref ot])), (og, .inr (0, [.int (nI n), .int (nI a), .ref ob, .ref oe])), (ob, .inl (cI, (2 ^ n), .inl (fun jq => nI ((sd_br Y Z q) jq)))), (oe, .inl (cZ, (2 * 2 ^ n), .inl (fun jq => bI ((sd_ew n a (fun w => sd_br Y Z q w == 0)) jq)))), (oy, .inl (cI, 24, .inl (fun jq => nI (Y jq)))), (oz, .inl (cI, 24, .inl (fun jq => nI (Z jq)))), (ot, .inl (cI, n, .inl T))] s.heap := hP
  have hl := lv_entry ([.ref od, .int (nI y), .int (nI z)]) (n := 3) (Nat.le_of_ble_eq_true rfl)
  rw [lg_entry_eq]
  generalize (lg_sl ([.ref od, .int (nI y), .int (nI z)]) ++ List.replicate (3 - (lg_sl ([.ref od, .int (nI y), .int (nI z)])).length) Slot.unset).toArray = ls at hl ⊢
  have hl : lv_has ls 3 [(0, .ref od), (1, .int (nI y)), (2, .int (nI z))] := hl
  refine lv_aload_n hx hb dX1_harmless_0 rfl (lv_at hl 0 rfl) ?_
  refine lv_iload_n hx hb dX1_harmless_1 rfl (lv_at hl 1 rfl) ?_
  refine lv_iload_n hx hb dX1_harmless_2 rfl (lv_at hl 2 rfl) ?_
  refine hw_callR (va_runV (b := od) (As := [.int (nI y), .int (nI z)]) (rest := []) ⟨hx, hb, hml, hown, ht⟩ (c_areSets l D cI cZ od og ob oe oy oz ot n a q d v Y Z T ok (nI y) (nI z)) (cwV 2 ht (gV wm_X1_X1_areSets wi_X1_areSets ws_X1_areSets wn_X1 wc_X1_areSets) rfl rfl rfl (by decide +kernel) ⟨Nat.le_of_ble_eq_true rfl, Nat.le_of_ble_eq_true rfl⟩) (rPre_V 0 hP hK hN rfl rfl) rfl rfl hl.1 rfl (lv_room (Nat.le_of_ble_eq_true rfl)) dX1_harmless_3 ⟨Nat.zero_le _, Nat.zero_le _⟩) ?_
  refine lv_nm (y := bI true) (congrArg bI (by rw [uN_nI (by omega), uN_nI (by omega), decide_eq_true hy, decide_eq_true hz]; rfl)) ?_
  refine lv_if_eq (tgt := 23) hx hb dX1_harmless_6 rfl (fun hc => absurd (show true = false from (bI_eq0 _).mp hc) (by decide)) (fun _ => ?_)
  refine lv_aload_n hx hb dX1_harmless_9 rfl (lv_at hl 0 rfl) ?_
  refine lv_iload_n hx hb dX1_harmless_10 rfl (lv_at hl 1 rfl) ?_
  refine lv_iload_n hx hb dX1_harmless_11 rfl (lv_at hl 2 rfl) ?_
  refine lv_iconst (v := nI 1) hx hb dX1_harmless_12 (by decide) ?_
  refine hw_callW (ws' := [(od, .inr (1, [.int (nI n), .int (nI a), .int (nI (2 ^ n - 1 - a)), .ref og, .ref oy, .ref oz, .int (nI q), .int (nI d), .int (nI v), .ref ot])), (og, .inr (0, [.int (nI n), .int (nI a), .ref ob, .ref oe])), (ob, .inl (cI, (2 ^ n), .inl (fun jq => nI ((sd_br Y Z q) jq)))), (oe, .inl (cZ, (2 * 2 ^ n), .inl (fun jq => bI ((sd_ew n a (fun w => sd_br Y Z q w == 0)) jq)))), (oy, .inl (cI, 24, .inl (fun jq => nI (Y jq)))), (oz, .inl (cI, 24, .inl (fun jq => nI (Z jq)))), (ot, .inl (cI, n, .inl T))]) (va_runV (b := od) (As := [.int (nI y), .int (nI z), .int (nI 1)]) (rest := []) ⟨hx, hb, hml, hown, ht⟩ (c_leavesWinner l D cI cZ od og ob oe oy oz ot n a q d v Y Z T ok s.heap.size y z (nI 1) (sd_br (va_up Y q y) (va_up Z q z) (q + 1)) hy hz (fun u _ => sd_brl _ _ (by omega) u) (fun u _ => by rw [sd_br_up]; exact sd_in rfl) (fun u _ => sd_out (by decide) (sd_br_up Y Z q y z u))) (cwV 3 ht (gV wm_X1_X1_leavesWinner wi_X1_leavesWinner ws_X1_leavesWinner wn_X1 wc_X1_leavesWinner) rfl rfl rfl (by decide +kernel) ⟨Nat.le_of_ble_eq_true rfl, Nat.le_of_ble_eq_true rfl⟩) (wPre_V 0 hP hD hK hN rfl rfl) rfl rfl hl.1 rfl (lv_room (Nat.le_of_ble_eq_true rfl)) dX1_harmless_13 ⟨Nat.zero_le _, Nat.zero_le _⟩) hD hS hA rfl (fun H locs hP hD hS => ?_)
  have hP : va_P D clS [(od, .inr (1, [.int (nI n), .int (nI a), .int (nI (2 ^ n - 1 - a)), .ref og, .ref oy, .ref oz, .int (nI q), .int (nI d), .int (nI v), .ref ot])), (og, .inr (0, [.int (nI n), .int (nI a), .ref ob, .ref oe])), (ob, .inl (cI, (2 ^ n), .inl (fun jq => nI ((sd_br Y Z q) jq)))), (oe, .inl (cZ, (2 * 2 ^ n), .inl (fun jq => bI ((sd_ew n a (fun w => sd_br Y Z q w == 0)) jq)))), (oy, .inl (cI, 24, .inl (fun jq => nI (Y jq)))), (oz, .inl (cI, 24, .inl (fun jq => nI (Z jq)))), (ot, .inl (cI, n, .inl T))] H := hP
  have hD : va_D A [(od, .inr (1, [.int (nI n), .int (nI a), .int (nI (2 ^ n - 1 - a)), .ref og, .ref oy, .ref oz, .int (nI q), .int (nI d), .int (nI v), .ref ot])), (og, .inr (0, [.int (nI n), .int (nI a), .ref ob, .ref oe])), (ob, .inl (cI, (2 ^ n), .inl (fun jq => nI ((sd_br Y Z q) jq)))), (oe, .inl (cZ, (2 * 2 ^ n), .inl (fun jq => bI ((sd_ew n a (fun w => sd_br Y Z q w == 0)) jq)))), (oy, .inl (cI, 24, .inl (fun jq => nI (Y jq)))), (oz, .inl (cI, 24, .inl (fun jq => nI (Z jq)))), (ot, .inl (cI, n, .inl T))] := hD
  refine W.eq (g2 := F0 m 16 ls [.int (bI (sd_E n a (fun w => sd_br Y Z q w == 0) 0 0 == sd_E n a (fun w => sd_br (va_up Y q y) (va_up Z q z) (q + 1) w == 0) 0 0))]) rfl ?_
  suffices mk : W p l e (headSpec (kX1_harmless :: aW) { frames := 5, cells := 0, slots := 0, locals := 118 }).room s m (([.ref od, .int (nI y), .int (nI z)] : List Value).toArray) below meth c H locs 0 0 (MQ below (wQ (some (.int (bI (sd_E n a (fun w => sd_br Y Z q w == 0) 0 0 == sd_E n a (fun w => sd_br (va_up Y q y) (va_up Z q z) (q + 1) w == 0) 0 0)))) D [(od, .inr (1, [.int (nI n), .int (nI a), .int (nI (2 ^ n - 1 - a)), .ref og, .ref oy, .ref oz, .int (nI q), .int (nI d), .int (nI v), .ref ot])), (og, .inr (0, [.int (nI n), .int (nI a), .ref ob, .ref oe])), (ob, .inl (cI, (2 ^ n), .inl (fun jq => nI ((sd_br Y Z q) jq)))), (oe, .inl (cZ, (2 * 2 ^ n), .inl (fun jq => bI ((sd_ew n a (fun w => sd_br Y Z q w == 0)) jq)))), (oy, .inl (cI, 24, .inl (fun jq => nI (Y jq)))), (oz, .inl (cI, 24, .inl (fun jq => nI (Z jq)))), (ot, .inl (cI, n, .inl T))] A) (([.ref od, .int (nI y), .int (nI z)] : List Value).toArray) s 0 0 A) (F0 m 24 ls [.int (bI (sd_E n a (fun w => sd_br Y Z q w == 0) 0 0 == sd_E n a (fun w => sd_br (va_up Y q y) (va_up Z q z) (q + 1) w == 0) 0 0))]) by
    refine lv_if_eq (tgt := 23) hx hb dX1_harmless_16 rfl (fun h1 => ?_) (fun h1 => ?_)
    · have h1 : (sd_E n a (fun w => sd_br Y Z q w == 0) 0 0 == sd_E n a (fun w => sd_br (va_up Y q y) (va_up Z q z) (q + 1) w == 0) 0 0) = false := (bI_eq0 _).mp h1
      refine lv_iconst (v := nI 0) hx hb dX1_harmless_23 (by decide) ?_
      refine lv_nm (y := bI (sd_E n a (fun w => sd_br Y Z q w == 0) 0 0 == sd_E n a (fun w => sd_br (va_up Y q y) (va_up Z q z) (q + 1) w == 0) 0 0)) (hw_0.trans (congrArg bI (show false = (sd_E n a (fun w => sd_br Y Z q w == 0) 0 0 == sd_E n a (fun w => sd_br (va_up Y q y) (va_up Z q z) (q + 1) w == 0) 0 0) by rw [h1]))) ?_
      exact mk
    · have h1 : (sd_E n a (fun w => sd_br Y Z q w == 0) 0 0 == sd_E n a (fun w => sd_br (va_up Y q y) (va_up Z q z) (q + 1) w == 0) 0 0) = true := bI_ne0 h1
      refine lv_iconst (v := nI 1) hx hb dX1_harmless_19 (by decide) ?_
      refine lv_goto (tgt := 24) hx hb dX1_harmless_20 rfl ?_
      refine lv_nm (y := bI (sd_E n a (fun w => sd_br Y Z q w == 0) 0 0 == sd_E n a (fun w => sd_br (va_up Y q y) (va_up Z q z) (q + 1) w == 0) 0 0)) (hw_1.trans (congrArg bI (show true = (sd_E n a (fun w => sd_br Y Z q w == 0) 0 0 == sd_E n a (fun w => sd_br (va_up Y q y) (va_up Z q z) (q + 1) w == 0) 0 0) by rw [h1]))) ?_
      exact mk
  exact W.zret hx hb hr (bI_nar _) (fun t ht2 _ => ⟨hw_ret (rfl), by rw [ht2]; exact hP, hS.F ht2⟩) hS.2.2 dX1_harmless_24
