/-! Contracts of the reference: look, and what rests on it. -/
/-- where the row of winners is known it is right; what never is written is false -/
def mOk (n : Nat) (kn : Bool) (wn V : Nat → Bool) : Prop := (kn = true → wn = V) ∧ wn 0 = false ∧ ∀ j, 2 * 2 ^ n ≤ j → wn j = false
theorem sd_wn_0 (n a : Nat) (S : Nat → Bool) : sd_wn n a S 0 = false := if_pos (Or.inl rfl)
theorem sd_wn_hi (n a : Nat) (S : Nat → Bool) (j : Nat) (h : 2 * 2 ^ n ≤ j) : sd_wn n a S j = false := if_pos (Or.inr h)
theorem mOk_wn (n a : Nat) (S : Nat → Bool) (kn : Bool) : mOk n kn (sd_wn n a S) (sd_wn n a S) := ⟨fun _ => rfl, sd_wn_0 n a S, sd_wn_hi n a S⟩
theorem mOk_no {n : Nat} {kn : Bool} {wn V : Nat → Bool} (U : Nat → Bool) (h : mOk n kn wn V) : mOk n false wn U := ⟨fun h9 => absurd h9 (by decide), h.2.1, h.2.2⟩
theorem hw_skm : ∀ i, i < 24 → (nI i = -1 ↔ (fun _ : Nat => false) i = true) := by decide +kernel
theorem hw_ski {i : Nat} (hi : i < 24) (j : Nat) (hj : j < 24) : nI j = nI i ↔ (fun k => k == i) j = true := by
  rw [nI_eq (by omega) (by omega)]
  exact beq_iff_eq.symm
theorem hw_xt {x y : Bool} (h : ¬ x = y) : true = (x == !y) := by cases x <;> cases y <;> first | rfl | exact absurd rfl h
theorem hw_xf {x y : Bool} (h : x = y) : false = (x == !y) := by cases x <;> cases y <;> first | rfl | exact absurd h (by decide)
/-- the values that led gathers -/
def sd_ld (n a : Nat) (S : Nat → Bool) (ab : Bool) (td : Nat) : Nat → Nat → Bool := fun d x => if a.testBit d = ab then sd_bm n a S d x else td.testBit d
theorem sd_pos_k {n d v : Nat} (hd : d ≤ n) (h : 2 ^ n ≤ 1024) : sd_pos d v < 2048 := by
  have h1 := sd_pos_b d v
  have h2 : 2 ^ d ≤ 2 ^ n := Nat.pow_le_pow_right (by decide) hd
  omega

set_option maxHeartbeats 4000000 in
set_option maxRecDepth 100000 in
theorem m_look (l : Launch) (D : va_G) (cI cZ : ClassId) (om my mz mv mt n a q d v u1 u2 : Nat) (kn mr : Bool) (sk : Int32) (Y Z : Nat → Nat) (T : Nat → Int32) (wn : Nat → Bool) (ok : dOk n a q d v Y Z) (sz : Nat) (mk : mOk n kn wn (sd_wn n a (fun w => sd_br Y Z q w == 0))) (hu1 : u1 < 2 ^ n) (hu2 : u2 < 2 ^ n) : Met l yX2_look (kX2_look :: aW) { frames := 3, cells := 0, slots := 0, locals := 67 } (wPre [.ref om] D [(om, .inr (2, [.int (nI n), .int (nI a), .int (nI q), .ref my, .ref mz, .int (bI kn), .int sk, .int (bI mr), .int (nI u1), .int (nI u2), .ref mv, .int (nI (sd_pos d v)), .int (nI d), .ref mt])), (my, .inl (cI, 24, .inl (fun jq => nI (Y jq)))), (mz, .inl (cI, 24, .inl (fun jq => nI (Z jq)))), (mv, .inl (cZ, 2048, .inl (fun jq => bI (wn jq)))), (mt, .inl (cI, 10, .inl T))] [(cI, .int), (cZ, .boolean)] sz) (wQ none D [(om, .inr (2, [.int (nI n), .int (nI a), .int (nI q), .ref my, .ref mz, .int (bI true), .int (if kn = true then sk else -1), .int (bI (kn && mr)), .int (nI u1), .int (nI u2), .ref mv, .int (nI (sd_pos d v)), .int (nI d), .ref mt])), (my, .inl (cI, 24, .inl (fun jq => nI (Y jq)))), (mz, .inl (cI, 24, .inl (fun jq => nI (Z jq)))), (mv, .inl (cZ, 2048, .inl (fun jq => bI ((sd_wn n a (fun w => sd_br Y Z q w == 0)) jq)))), (mt, .inl (cI, 10, .inl T))] (va_A [(om, .inr (2, [.int (nI n), .int (nI a), .int (nI q), .ref my, .ref mz, .int (bI kn), .int sk, .int (bI mr), .int (nI u1), .int (nI u2), .ref mv, .int (nI (sd_pos d v)), .int (nI d), .ref mt])), (my, .inl (cI, 24, .inl (fun jq => nI (Y jq)))), (mz, .inl (cI, 24, .inl (fun jq => nI (Z jq)))), (mv, .inl (cZ, 2048, .inl (fun jq => bI (wn jq)))), (mt, .inl (cI, 10, .inl T))] sz)) 0 0 (va_A [(om, .inr (2, [.int (nI n), .int (nI a), .int (nI q), .ref my, .ref mz, .int (bI kn), .int sk, .int (bI mr), .int (nI u1), .int (nI u2), .ref mv, .int (nI (sd_pos d v)), .int (nI d), .ref mt])), (my, .inl (cI, 24, .inl (fun jq => nI (Y jq)))), (mz, .inl (cI, 24, .inl (fun jq => nI (Z jq)))), (mv, .inl (cZ, 2048, .inl (fun jq => bI (wn jq)))), (mt, .inl (cI, 10, .inl T))] sz) := by
  obtain ⟨hn1, hn, ha, h5, hq, hY, hZ, hd, hv⟩ := id ok
  have h2n := hw_p10 hn
  refine Met.ofW (cc := cX2_look) (maxL := 1) (ret := none) (by decide) rfl ?_
  intro p e s m args below meth c s₁ Bo hml hpre
  obtain ⟨rfl, hsz, hP, hK, hN, hD0⟩ := hpre
  subst hsz
  have hD := hD0.self (sz := s.heap.size)
  generalize hAe : va_A [(om, .inr (2, [.int (nI n), .int (nI a), .int (nI q), .ref my, .ref mz, .int (bI kn), .int sk, .int (bI mr), .int (nI u1), .int (nI u2), .ref mv, .int (nI (sd_pos d v)), .int (nI d), .ref mt])), (my, .inl (cI, 24, .inl (fun jq => nI (Y jq)))), (mz, .inl (cI, 24, .inl (fun jq => nI (Z jq)))), (mv, .inl (cZ, 2048, .inl (fun jq => bI (wn jq)))), (mt, .inl (cI, 10, .inl T))] s.heap.size = A at hD ⊢
  have hA : ∀ q : Nat, s.heap.size ≤ q → A q := fun q h => by rw [← hAe]; exact Or.inr h
  have hS : va_S A s.heap s.heap [] := va_S.rf
  have hx := Bo.exec
  have hb := Bo.bytes
  have hr := Bo.returns
  have hts := atoms_spec (ws := kX2_look :: aW) Bo.pre
  have ht : ∀ w ∈ aW, w.before _ s = true := fun w h => hts w (List.mem_cons_of_mem _ h)
  have hown : s.vm.findClass RX2 = some m.cls := findClass_of_methodNamed Bo.named
  have hlocks := Bo.notSynchronized
  have hP : va_P D clS [(om, .inr (2, [.int (nI n), .int (nI a), .int (nI q), .ref my, .ref mz, .int (bI kn), .int sk, .int (bI mr), .int (nI u1), .int (nI u2), .ref mv, .int (nI (sd_pos d v)), .int (nI d), .ref mt])), (my, .inl (cI, 24, .inl (fun jq => nI (Y jq)))), (mz, .inl (cI, 24, .inl (fun jq => nI (Z jq)))), (mv, .inl (cZ, 2048, .inl (fun jq => bI (wn jq)))), (mt, .inl (cI, 10, .inl T))] s.heap := hP
  have hl := lv_entry ([.ref om]) (n := 1) (Nat.le_of_ble_eq_true rfl)
  rw [lg_entry_eq]
  generalize (lg_sl ([.ref om]) ++ List.replicate (1 - (lg_sl ([.ref om])).length) Slot.unset).toArray = ls at hl ⊢
  have hl : lv_has ls 1 [(0, .ref om)] := hl
  refine lv_aload_n hx hb dX2_look_0 rfl (lv_at hl 0 rfl) ?_
  refine va_get (D := D) (ci := 2) (v := .int (bI kn)) (C := RX2) (T := TX2) (N := 14) hx hb ht inX2 hown hK hP 0 rfl rfl 5 (by decide) (ht _ wf_X2_known) (fun _ h9 => h9) rfl dX2_look_1 ?_
  refine lv_if_eq (tgt := 8) hx hb dX2_look_4 rfl (fun h1 => ?_) (fun h1 => ?_)
  · have h1 : kn = false := (bI_eq0 _).mp h1
    refine lv_aload_n hx hb dX2_look_8 rfl (lv_at hl 0 rfl) ?_
    refine lv_iconst (v := (-1)) hx hb dX2_look_9 (by decide) ?_
    refine va_put (D := D) (ci := 2) (v := .int (-1)) (ty := .int) (C := RX2) (T := TX2) (N := 14) hx hb ht inX2 tyX2 tyX2_ok nmX2 hown hK hP hD hS 0 rfl rfl 6 (by decide) (ht _ wf_X2_skip) (fun _ h9 => h9) rfl (by decide +kernel) rfl rfl (Nat.le_of_ble_eq_true rfl) dX2_look_10 (fun H locs hP hD hS => ?_)
    have hP : va_P D clS [(om, .inr (2, [.int (nI n), .int (nI a), .int (nI q), .ref my, .ref mz, .int (bI kn), .int (-1), .int (bI mr), .int (nI u1), .int (nI u2), .ref mv, .int (nI (sd_pos d v)), .int (nI d), .ref mt])), (my, .inl (cI, 24, .inl (fun jq => nI (Y jq)))), (mz, .inl (cI, 24, .inl (fun jq => nI (Z jq)))), (mv, .inl (cZ, 2048, .inl (fun jq => bI (wn jq)))), (mt, .inl (cI, 10, .inl T))] H := hP
    have hD : va_D A [(om, .inr (2, [.int (nI n), .int (nI a), .int (nI q), .ref my, .ref mz, .int (bI kn), .int (-1), .int (bI mr), .int (nI u1), .int (nI u2), .ref mv, .int (nI (sd_pos d v)), .int (nI d), .ref mt])), (my, .inl (cI, 24, .inl (fun jq => nI (Y jq)))), (mz, .inl (cI, 24, .inl (fun jq => nI (Z jq)))), (mv, .inl (cZ, 2048, .inl (fun jq => bI (wn jq)))), (mt, .inl (cI, 10, .inl T))] := hD
    refine lv_aload_n hx hb dX2_look_13 rfl (lv_at hl 0 rfl) ?_
    refine lv_iconst (v := nI 0) hx hb dX2_look_14 (by decide) ?_
    refine va_put (D := D) (ci := 2) (v := .int (bI false)) (ty := .boolean) (C := RX2) (T := TX2) (N := 14) hx hb ht inX2 tyX2 tyX2_ok nmX2 hown hK hP hD hS 0 rfl rfl 7 (by decide) (ht _ wf_X2_more) (fun _ h9 => h9) rfl (by decide +kernel) (bI_nar _) (bI_fit _) (Nat.le_of_ble_eq_true rfl) dX2_look_15 (fun H locs hP hD hS => ?_)
    have hP : va_P D clS [(om, .inr (2, [.int (nI n), .int (nI a), .int (nI q), .ref my, .ref mz, .int (bI kn), .int (-1), .int (bI false), .int (nI u1), .int (nI u2), .ref mv, .int (nI (sd_pos d v)), .int (nI d), .ref mt])), (my, .inl (cI, 24, .inl (fun jq => nI (Y jq)))), (mz, .inl (cI, 24, .inl (fun jq => nI (Z jq)))), (mv, .inl (cZ, 2048, .inl (fun jq => bI (wn jq)))), (mt, .inl (cI, 10, .inl T))] H := hP
    have hD : va_D A [(om, .inr (2, [.int (nI n), .int (nI a), .int (nI q), .ref my, .ref mz, .int (bI kn), .int (-1), .int (bI false), .int (nI u1), .int (nI u2), .ref mv, .int (nI (sd_pos d v)), .int (nI d), .ref mt])), (my, .inl (cI, 24, .inl (fun jq => nI (Y jq)))), (mz, .inl (cI, 24, .inl (fun jq => nI (Z jq)))), (mv, .inl (cZ, 2048, .inl (fun jq => bI (wn jq)))), (mt, .inl (cI, 10, .inl T))] := hD
    refine lv_aload_n hx hb dX2_look_18 rfl (lv_at hl 0 rfl) ?_
    refine hw_callW (ws' := [(om, .inr (2, [.int (nI n), .int (nI a), .int (nI q), .ref my, .ref mz, .int (bI kn), .int (-1), .int (bI false), .int (nI u1), .int (nI u2), .ref mv, .int (nI (sd_pos d v)), .int (nI d), .ref mt])), (my, .inl (cI, 24, .inl (fun jq => nI (Y jq)))), (mz, .inl (cI, 24, .inl (fun jq => nI (Z jq)))), (mv, .inl (cZ, 2048, .inl (fun jq => bI ((sd_wn n a (fun w => sd_br Y Z q w == 0)) jq)))), (mt, .inl (cI, 10, .inl T))]) (va_runV (b := om) (As := []) (rest := []) ⟨hx, hb, hml, hown, ht⟩ (m_fill l D cI cZ om my mz mv mt n a q d v u1 u2 kn false (-1) Y Z T wn ok H.size (fun w => sd_br Y Z q w == 0) (fun _ => false) hu1 hu2 hw_skm (fun w _ => sd_al_n Y Z _ w q (fun _ _ => rfl)) mk.2.1 mk.2.2) (cwV 0 ht (gV wm_X2_X2_fill wi_X2_fill ws_X2_fill wn_X2 wc_X2_fill) rfl rfl rfl (by decide +kernel) ⟨Nat.le_of_ble_eq_true rfl, Nat.le_of_ble_eq_true rfl⟩) (wPre_V 0 hP hD hK hN rfl rfl) rfl rfl hl.1 rfl (lv_room (Nat.le_of_ble_eq_true rfl)) dX2_look_19 ⟨Nat.zero_le _, Nat.zero_le _⟩) hD hS hA rfl (fun H locs hP hD hS => ?_)
    have hP : va_P D clS [(om, .inr (2, [.int (nI n), .int (nI a), .int (nI q), .ref my, .ref mz, .int (bI kn), .int (-1), .int (bI false), .int (nI u1), .int (nI u2), .ref mv, .int (nI (sd_pos d v)), .int (nI d), .ref mt])), (my, .inl (cI, 24, .inl (fun jq => nI (Y jq)))), (mz, .inl (cI, 24, .inl (fun jq => nI (Z jq)))), (mv, .inl (cZ, 2048, .inl (fun jq => bI ((sd_wn n a (fun w => sd_br Y Z q w == 0)) jq)))), (mt, .inl (cI, 10, .inl T))] H := hP
    have hD : va_D A [(om, .inr (2, [.int (nI n), .int (nI a), .int (nI q), .ref my, .ref mz, .int (bI kn), .int (-1), .int (bI false), .int (nI u1), .int (nI u2), .ref mv, .int (nI (sd_pos d v)), .int (nI d), .ref mt])), (my, .inl (cI, 24, .inl (fun jq => nI (Y jq)))), (mz, .inl (cI, 24, .inl (fun jq => nI (Z jq)))), (mv, .inl (cZ, 2048, .inl (fun jq => bI ((sd_wn n a (fun w => sd_br Y Z q w == 0)) jq)))), (mt, .inl (cI, 10, .inl T))] := hD
    refine W.eq (g2 := F0 m 22 ls []) rfl ?_
    refine lv_aload_n hx hb dX2_look_22 rfl (lv_at hl 0 rfl) ?_
    refine lv_iconst (v := nI 1) hx hb dX2_look_23 (by decide) ?_
    refine va_put (D := D) (ci := 2) (v := .int (bI true)) (ty := .boolean) (C := RX2) (T := TX2) (N := 14) hx hb ht inX2 tyX2 tyX2_ok nmX2 hown hK hP hD hS 0 rfl rfl 5 (by decide) (ht _ wf_X2_known) (fun _ h9 => h9) rfl (by decide +kernel) (bI_nar _) (bI_fit _) (Nat.le_of_ble_eq_true rfl) dX2_look_24 (fun H locs hP hD hS => ?_)
    have hP : va_P D clS [(om, .inr (2, [.int (nI n), .int (nI a), .int (nI q), .ref my, .ref mz, .int (bI true), .int (-1), .int (bI false), .int (nI u1), .int (nI u2), .ref mv, .int (nI (sd_pos d v)), .int (nI d), .ref mt])), (my, .inl (cI, 24, .inl (fun jq => nI (Y jq)))), (mz, .inl (cI, 24, .inl (fun jq => nI (Z jq)))), (mv, .inl (cZ, 2048, .inl (fun jq => bI ((sd_wn n a (fun w => sd_br Y Z q w == 0)) jq)))), (mt, .inl (cI, 10, .inl T))] H := hP
    have hD : va_D A [(om, .inr (2, [.int (nI n), .int (nI a), .int (nI q), .ref my, .ref mz, .int (bI true), .int (-1), .int (bI false), .int (nI u1), .int (nI u2), .ref mv, .int (nI (sd_pos d v)), .int (nI d), .ref mt])), (my, .inl (cI, 24, .inl (fun jq => nI (Y jq)))), (mz, .inl (cI, 24, .inl (fun jq => nI (Z jq)))), (mv, .inl (cZ, 2048, .inl (fun jq => bI ((sd_wn n a (fun w => sd_br Y Z q w == 0)) jq)))), (mt, .inl (cI, 10, .inl T))] := hD
    subst h1
    exact W.vret hx hb hr (fun t ht2 _ => ⟨rfl, by rw [ht2]; exact hP, hS.F ht2⟩) hS.2.2 dX2_look_27
  · have h1 : kn = true := bI_ne0 h1
    have hwn := mk.1 h1
    subst hwn
    subst h1
    exact W.vret hx hb hr (fun t ht2 _ => ⟨rfl, by rw [ht2]; exact hP, hS.F ht2⟩) hS.2.2 dX2_look_7

set_option maxHeartbeats 4000000 in
set_option maxRecDepth 100000 in
theorem m_move (l : Launch) (D : va_G) (cI cZ : ClassId) (om my mz mv mt n a q d v u1 u2 : Nat) (kn mr : Bool) (sk : Int32) (Y Z : Nat → Nat) (T : Nat → Int32) (wn : Nat → Bool) (ok : dOk n a q d v Y Z) (i w : Nat) (hi : i < n) (hw : w < 2 ^ i) : Met l yX2_move (kX2_move :: aW) { frames := 1, cells := 0, slots := 0, locals := 21 } (rPre [.ref om, .int (nI (sd_pos i w)), .int (nI i)] D [(om, .inr (2, [.int (nI n), .int (nI a), .int (nI q), .ref my, .ref mz, .int (bI kn), .int sk, .int (bI mr), .int (nI u1), .int (nI u2), .ref mv, .int (nI (sd_pos d v)), .int (nI d), .ref mt])), (my, .inl (cI, 24, .inl (fun jq => nI (Y jq)))), (mz, .inl (cI, 24, .inl (fun jq => nI (Z jq)))), (mv, .inl (cZ, 2048, .inl (fun jq => bI ((sd_wn n a (fun w => sd_br Y Z q w == 0)) jq)))), (mt, .inl (cI, 10, .inl T))] [(cI, .int), (cZ, .boolean)]) (QcRead (bI (sd_bm n a (fun w => sd_br Y Z q w == 0) i w))) 0 0 (fun _ => False) := by
  obtain ⟨hn1, hn, ha, h5, hq, hY, hZ, hd, hv⟩ := id ok
  have h2n := hw_p10 hn
  refine Met.ofW (cc := cX2_move) (maxL := 5) (ret := (some .int)) (by decide) rfl ?_
  intro p e s m args below meth c s₁ Bo hml hpre
  obtain ⟨rfl, hP, hK, hN⟩ := hpre
  have hx := Bo.exec
  have hb := Bo.bytes
  have hr := Bo.returns
  have hts := atoms_spec (ws := kX2_move :: aW) Bo.pre
  have ht : ∀ w ∈ aW, w.before _ s = true := fun w h => hts w (List.mem_cons_of_mem _ h)
  have hown : s.vm.findClass RX2 = some m.cls := findClass_of_methodNamed Bo.named
  have hlocks := Bo.notSynchronized
  have hP : va_P D clS [(om, .inr (2, [.int (nI n), .int (nI a), .int (nI q), .ref my, .ref mz, .int (bI kn), .int sk, .int (bI mr), .int (nI u1), .int (nI u2), .ref mv, .int (nI (sd_pos d v)), .int (nI d), .ref mt])), (my, .inl (cI, 24, .inl (fun jq => nI (Y jq)))), (mz, .inl (cI, 24, .inl (fun jq => nI (Z jq)))), (mv, .inl (cZ, 2048, .inl (fun jq => bI ((sd_wn n a (fun w => sd_br Y Z q w == 0)) jq)))), (mt, .inl (cI, 10, .inl T))] s.heap := hP
  have hl := lv_entry ([.ref om, .int (nI (sd_pos i w)), .int (nI i)]) (n := 5) (Nat.le_of_ble_eq_true rfl)
  rw [lg_entry_eq]
  generalize (lg_sl ([.ref om, .int (nI (sd_pos i w)), .int (nI i)]) ++ List.replicate (5 - (lg_sl ([.ref om, .int (nI (sd_pos i w)), .int (nI i)])).length) Slot.unset).toArray = ls at hl ⊢
  have hl : lv_has ls 5 [(0, .ref om), (1, .int (nI (sd_pos i w))), (2, .int (nI i))] := hl
  have hpb := sd_pos_b i w
  have hp := Nat.two_pow_succ i
  have hin9 : 2 ^ (i + 1) ≤ 2 ^ n := Nat.pow_le_pow_right (by decide) hi
  refine lv_aload_n hx hb dX2_move_0 rfl (lv_at hl 0 rfl) ?_
  refine va_get (D := D) (ci := 2) (v := .ref mv) (C := RX2) (T := TX2) (N := 14) hx hb ht inX2 hown hK hP 0 rfl rfl 10 (by decide) (ht _ wf_X2_win) (fun _ h9 => h9) rfl dX2_move_1 ?_
  refine lv_iconst (v := nI 2) hx hb dX2_move_4 (by decide) ?_
  refine lv_iload_n hx hb dX2_move_5 rfl (lv_at hl 1 rfl) ?_
  refine lv_imul hx hb dX2_move_6 ?_
  refine lv_nm (y := nI (2 * (sd_pos i w))) (pk_mul _ _) ?_
  refine na_zald (f := sd_wn n a (fun w => sd_br Y Z q w == 0)) hx hb hK hP 3 1 rfl rfl (j := 2 * (sd_pos i w)) (by omega) (by omega) dX2_move_7 ?_
  refine lv_nm (y := bI (sd_E n a (fun w => sd_br Y Z q w == 0) (i + 1) w)) (congrArg bI (by rw [← sd_pos_0 hw]; exact sd_wn_at hi (by omega))) ?_
  refine lv_aload_n hx hb dX2_move_8 rfl (lv_at hl 0 rfl) ?_
  refine lv_iload_n hx hb dX2_move_9 rfl (lv_at hl 2 rfl) ?_
  refine hw_callR (va_runV (b := om) (As := [.int (nI i)]) (rest := [.int (bI (sd_E n a (fun w => sd_br Y Z q w == 0) (i + 1) w))]) ⟨hx, hb, hml, hown, ht⟩ (m_isAdams l D cI cZ om my mz mv mt n a q d v u1 u2 kn mr sk Y Z T (sd_wn n a (fun w => sd_br Y Z q w == 0)) ok i (by omega)) (cwV 1 ht (gV wm_X2_X2_isAdams wi_X2_isAdams ws_X2_isAdams wn_X2 wc_X2_isAdams) rfl rfl rfl (by decide +kernel) ⟨Nat.le_of_ble_eq_true rfl, Nat.le_of_ble_eq_true rfl⟩) (rPre_V 0 hP hK hN rfl rfl) rfl rfl hl.1 rfl (lv_room (Nat.le_of_ble_eq_true rfl)) dX2_move_10 ⟨Nat.zero_le _, Nat.zero_le _⟩) ?_
  suffices mk : W p l e (headSpec (kX2_move :: aW) { frames := 1, cells := 0, slots := 0, locals := 21 }).room s m (([.ref om, .int (nI (sd_pos i w)), .int (nI i)] : List Value).toArray) below meth c s.heap [] 0 0 (MQ below (QcRead (bI (sd_bm n a (fun w => sd_br Y Z q w == 0) i w))) (([.ref om, .int (nI (sd_pos i w)), .int (nI i)] : List Value).toArray) s 0 0 (fun _ => False)) (F0 m 21 ls [.int (bI (sd_E n a (fun w => sd_br Y Z q w == 0) (i + 1) w == !a.testBit i))]) by
    refine lv_icmp_eq (tgt := 20) hx hb dX2_move_13 rfl (fun h1 => ?_) (fun h1 => ?_)
    · have h1 : (sd_E n a (fun w => sd_br Y Z q w == 0) (i + 1) w) = (a.testBit i) := (bI_inj _ _).mp h1
      refine lv_iconst (v := nI 0) hx hb dX2_move_20 (by decide) ?_
      refine lv_nm (y := bI (sd_E n a (fun w => sd_br Y Z q w == 0) (i + 1) w == !a.testBit i)) (hw_0.trans (congrArg bI (show false = (sd_E n a (fun w => sd_br Y Z q w == 0) (i + 1) w == !a.testBit i) by first | exact hw_xt h1 | exact hw_xf h1))) ?_
      exact mk
    · have h1 : ¬ (sd_E n a (fun w => sd_br Y Z q w == 0) (i + 1) w) = (a.testBit i) := fun h9 => h1 ((bI_inj _ _).mpr h9)
      refine lv_iconst (v := nI 1) hx hb dX2_move_16 (by decide) ?_
      refine lv_goto (tgt := 21) hx hb dX2_move_17 rfl ?_
      refine lv_nm (y := bI (sd_E n a (fun w => sd_br Y Z q w == 0) (i + 1) w == !a.testBit i)) (hw_1.trans (congrArg bI (show true = (sd_E n a (fun w => sd_br Y Z q w == 0) (i + 1) w == !a.testBit i) by first | exact hw_xt h1 | exact hw_xf h1))) ?_
      exact mk
  refine lv_istore_n hx hb dX2_move_21 rfl hl (by decide) rfl (fun ls hl => ?_)
  have hl : lv_has ls 5 [(3, .int (bI (sd_E n a (fun w => sd_br Y Z q w == 0) (i + 1) w == !a.testBit i))), (0, .ref om), (1, .int (nI (sd_pos i w))), (2, .int (nI i))] := hl
  refine lv_aload_n hx hb dX2_move_22 rfl (lv_at hl 1 rfl) ?_
  refine va_get (D := D) (ci := 2) (v := .ref mv) (C := RX2) (T := TX2) (N := 14) hx hb ht inX2 hown hK hP 0 rfl rfl 10 (by decide) (ht _ wf_X2_win) (fun _ h9 => h9) rfl dX2_move_23 ?_
  refine lv_iconst (v := nI 2) hx hb dX2_move_26 (by decide) ?_
  refine lv_iload_n hx hb dX2_move_27 rfl (lv_at hl 2 rfl) ?_
  refine lv_imul hx hb dX2_move_28 ?_
  refine lv_nm (y := nI (2 * (sd_pos i w))) (pk_mul _ _) ?_
  refine lv_iconst (v := nI 1) hx hb dX2_move_29 (by decide) ?_
  refine lv_iadd hx hb dX2_move_30 ?_
  refine lv_nm (y := nI ((2 * (sd_pos i w)) + 1)) (nI_add _ _) ?_
  refine na_zald (f := sd_wn n a (fun w => sd_br Y Z q w == 0)) hx hb hK hP 3 1 rfl rfl (j := (2 * (sd_pos i w)) + 1) (by omega) (by omega) dX2_move_31 ?_
  refine lv_nm (y := bI (sd_E n a (fun w => sd_br Y Z q w == 0) (i + 1) (w + 2 ^ i))) (congrArg bI (by rw [← sd_pos_1 hw]; exact sd_wn_at hi (by omega))) ?_
  refine lv_aload_n hx hb dX2_move_32 rfl (lv_at hl 1 rfl) ?_
  refine lv_iload_n hx hb dX2_move_33 rfl (lv_at hl 3 rfl) ?_
  refine hw_callR (va_runV (b := om) (As := [.int (nI i)]) (rest := [.int (bI (sd_E n a (fun w => sd_br Y Z q w == 0) (i + 1) (w + 2 ^ i)))]) ⟨hx, hb, hml, hown, ht⟩ (m_isAdams l D cI cZ om my mz mv mt n a q d v u1 u2 kn mr sk Y Z T (sd_wn n a (fun w => sd_br Y Z q w == 0)) ok i (by omega)) (cwV 1 ht (gV wm_X2_X2_isAdams wi_X2_isAdams ws_X2_isAdams wn_X2 wc_X2_isAdams) rfl rfl rfl (by decide +kernel) ⟨Nat.le_of_ble_eq_true rfl, Nat.le_of_ble_eq_true rfl⟩) (rPre_V 0 hP hK hN rfl rfl) rfl rfl hl.1 rfl (lv_room (Nat.le_of_ble_eq_true rfl)) dX2_move_34 ⟨Nat.zero_le _, Nat.zero_le _⟩) ?_
  suffices mk : W p l e (headSpec (kX2_move :: aW) { frames := 1, cells := 0, slots := 0, locals := 21 }).room s m (([.ref om, .int (nI (sd_pos i w)), .int (nI i)] : List Value).toArray) below meth c s.heap [] 0 0 (MQ below (QcRead (bI (sd_bm n a (fun w => sd_br Y Z q w == 0) i w))) (([.ref om, .int (nI (sd_pos i w)), .int (nI i)] : List Value).toArray) s 0 0 (fun _ => False)) (F0 m 45 ls [.int (bI (sd_E n a (fun w => sd_br Y Z q w == 0) (i + 1) (w + 2 ^ i) == !a.testBit i))]) by
    refine lv_icmp_eq (tgt := 44) hx hb dX2_move_37 rfl (fun h1 => ?_) (fun h1 => ?_)
    · have h1 : (sd_E n a (fun w => sd_br Y Z q w == 0) (i + 1) (w + 2 ^ i)) = (a.testBit i) := (bI_inj _ _).mp h1
      refine lv_iconst (v := nI 0) hx hb dX2_move_44 (by decide) ?_
      refine lv_nm (y := bI (sd_E n a (fun w => sd_br Y Z q w == 0) (i + 1) (w + 2 ^ i) == !a.testBit i)) (hw_0.trans (congrArg bI (show false = (sd_E n a (fun w => sd_br Y Z q w == 0) (i + 1) (w + 2 ^ i) == !a.testBit i) by first | exact hw_xt h1 | exact hw_xf h1))) ?_
      exact mk
    · have h1 : ¬ (sd_E n a (fun w => sd_br Y Z q w == 0) (i + 1) (w + 2 ^ i)) = (a.testBit i) := fun h9 => h1 ((bI_inj _ _).mpr h9)
      refine lv_iconst (v := nI 1) hx hb dX2_move_40 (by decide) ?_
      refine lv_goto (tgt := 45) hx hb dX2_move_41 rfl ?_
      refine lv_nm (y := bI (sd_E n a (fun w => sd_br Y Z q w == 0) (i + 1) (w + 2 ^ i) == !a.testBit i)) (hw_1.trans (congrArg bI (show true = (sd_E n a (fun w => sd_br Y Z q w == 0) (i + 1) (w + 2 ^ i) == !a.testBit i) by first | exact hw_xt h1 | exact hw_xf h1))) ?_
      exact mk
  refine lv_istore hx hb dX2_move_45 hl (by decide) rfl (fun ls hl => ?_)
  have hl : lv_has ls 5 [(4, .int (bI (sd_E n a (fun w => sd_br Y Z q w == 0) (i + 1) (w + 2 ^ i) == !a.testBit i))), (3, .int (bI (sd_E n a (fun w => sd_br Y Z q w == 0) (i + 1) w == !a.testBit i))), (0, .ref om), (1, .int (nI (sd_pos i w))), (2, .int (nI i))] := hl
  refine lv_iload_n hx hb dX2_move_47 rfl (lv_at hl 1 rfl) ?_
  suffices mk : W p l e (headSpec (kX2_move :: aW) { frames := 1, cells := 0, slots := 0, locals := 21 }).room s m (([.ref om, .int (nI (sd_pos i w)), .int (nI i)] : List Value).toArray) below meth c s.heap [] 0 0 (MQ below (QcRead (bI (sd_bm n a (fun w => sd_br Y Z q w == 0) i w))) (([.ref om, .int (nI (sd_pos i w)), .int (nI i)] : List Value).toArray) s 0 0 (fun _ => False)) (F0 m 61 ls [.int (bI (sd_bm n a (fun w => sd_br Y Z q w == 0) i w))]) by
    refine lv_if_ne (tgt := 60) hx hb dX2_move_48 rfl (fun h1 => ?_) (fun h1 => ?_)
    · have h1 : (sd_E n a (fun w => sd_br Y Z q w == 0) (i + 1) w == !a.testBit i) = true := bI_ne0 h1
      refine lv_iconst (v := nI 0) hx hb dX2_move_60 (by decide) ?_
      refine lv_nm (y := bI (sd_bm n a (fun w => sd_br Y Z q w == 0) i w)) (hw_0.trans (congrArg bI (show false = (sd_bm n a (fun w => sd_br Y Z q w == 0) i w) by unfold sd_bm; rw [h1]; rfl))) ?_
      exact mk
    · have h1 : (sd_E n a (fun w => sd_br Y Z q w == 0) (i + 1) w == !a.testBit i) = false := (bI_eq0 _).mp h1
      refine lv_iload hx hb dX2_move_51 (lv_at hl 0 rfl) ?_
      refine lv_if_eq (tgt := 60) hx hb dX2_move_53 rfl (fun h2 => ?_) (fun h2 => ?_)
      · have h2 : (sd_E n a (fun w => sd_br Y Z q w == 0) (i + 1) (w + 2 ^ i) == !a.testBit i) = false := (bI_eq0 _).mp h2
        refine lv_iconst (v := nI 0) hx hb dX2_move_60 (by decide) ?_
        refine lv_nm (y := bI (sd_bm n a (fun w => sd_br Y Z q w == 0) i w)) (hw_0.trans (congrArg bI (show false = (sd_bm n a (fun w => sd_br Y Z q w == 0) i w) by unfold sd_bm; rw [h1, h2]; rfl))) ?_
        exact mk
      · have h2 : (sd_E n a (fun w => sd_br Y Z q w == 0) (i + 1) (w + 2 ^ i) == !a.testBit i) = true := bI_ne0 h2
        refine lv_iconst (v := nI 1) hx hb dX2_move_56 (by decide) ?_
        refine lv_goto (tgt := 61) hx hb dX2_move_57 rfl ?_
        refine lv_nm (y := bI (sd_bm n a (fun w => sd_br Y Z q w == 0) i w)) (hw_1.trans (congrArg bI (show true = (sd_bm n a (fun w => sd_br Y Z q w == 0) i w) by unfold sd_bm; rw [h1, h2]; rfl))) ?_
        exact mk
  exact W.iret hx hb hr (fun t ht2 _ => ⟨hw_ret (rfl), ht2⟩) (fun _ h => by cases h) dX2_move_61

set_option maxHeartbeats 4000000 in
set_option maxRecDepth 100000 in
theorem m_wins (l : Launch) (D : va_G) (cI cZ : ClassId) (om my mz mv mt n a q d v u1 u2 : Nat) (kn mr : Bool) (sk : Int32) (Y Z : Nat → Nat) (T : Nat → Int32) (wn : Nat → Bool) (ok : dOk n a q d v Y Z) (sz : Nat) (mk : mOk n kn wn (sd_wn n a (fun w => sd_br Y Z q w == 0))) (hu1 : u1 < 2 ^ n) (hu2 : u2 < 2 ^ n) : Met l yX2_wins (kX2_wins :: aW) { frames := 4, cells := 0, slots := 0, locals := 87 } (wPre [.ref om] D [(om, .inr (2, [.int (nI n), .int (nI a), .int (nI q), .ref my, .ref mz, .int (bI kn), .int sk, .int (bI mr), .int (nI u1), .int (nI u2), .ref mv, .int (nI (sd_pos d v)), .int (nI d), .ref mt])), (my, .inl (cI, 24, .inl (fun jq => nI (Y jq)))), (mz, .inl (cI, 24, .inl (fun jq => nI (Z jq)))), (mv, .inl (cZ, 2048, .inl (fun jq => bI (wn jq)))), (mt, .inl (cI, 10, .inl T))] [(cI, .int), (cZ, .boolean)] sz) (wQ (some (.int (bI (sd_E n a (fun w => sd_br Y Z q w == 0) d v)))) D [(om, .inr (2, [.int (nI n), .int (nI a), .int (nI q), .ref my, .ref mz, .int (bI true), .int (if kn = true then sk else -1), .int (bI (kn && mr)), .int (nI u1), .int (nI u2), .ref mv, .int (nI (sd_pos d v)), .int (nI d), .ref mt])), (my, .inl (cI, 24, .inl (fun jq => nI (Y jq)))), (mz, .inl (cI, 24, .inl (fun jq => nI (Z jq)))), (mv, .inl (cZ, 2048, .inl (fun jq => bI ((sd_wn n a (fun w => sd_br Y Z q w == 0)) jq)))), (mt, .inl (cI, 10, .inl T))] (va_A [(om, .inr (2, [.int (nI n), .int (nI a), .int (nI q), .ref my, .ref mz, .int (bI kn), .int sk, .int (bI mr), .int (nI u1), .int (nI u2), .ref mv, .int (nI (sd_pos d v)), .int (nI d), .ref mt])), (my, .inl (cI, 24, .inl (fun jq => nI (Y jq)))), (mz, .inl (cI, 24, .inl (fun jq => nI (Z jq)))), (mv, .inl (cZ, 2048, .inl (fun jq => bI (wn jq)))), (mt, .inl (cI, 10, .inl T))] sz)) 0 0 (va_A [(om, .inr (2, [.int (nI n), .int (nI a), .int (nI q), .ref my, .ref mz, .int (bI kn), .int sk, .int (bI mr), .int (nI u1), .int (nI u2), .ref mv, .int (nI (sd_pos d v)), .int (nI d), .ref mt])), (my, .inl (cI, 24, .inl (fun jq => nI (Y jq)))), (mz, .inl (cI, 24, .inl (fun jq => nI (Z jq)))), (mv, .inl (cZ, 2048, .inl (fun jq => bI (wn jq)))), (mt, .inl (cI, 10, .inl T))] sz) := by
  obtain ⟨hn1, hn, ha, h5, hq, hY, hZ, hd, hv⟩ := id ok
  have h2n := hw_p10 hn
  refine Met.ofW (cc := cX2_wins) (maxL := 1) (ret := (some .boolean)) (by decide) rfl ?_
  intro p e s m args below meth c s₁ Bo hml hpre
  obtain ⟨rfl, hsz, hP, hK, hN, hD0⟩ := hpre
  subst hsz
  have hD := hD0.self (sz := s.heap.size)
  generalize hAe : va_A [(om, .inr (2, [.int (nI n), .int (nI a), .int (nI q), .ref my, .ref mz, .int (bI kn), .int sk, .int (bI mr), .int (nI u1), .int (nI u2), .ref mv, .int (nI (sd_pos d v)), .int (nI d), .ref mt])), (my, .inl (cI, 24, .inl (fun jq => nI (Y jq)))), (mz, .inl (cI, 24, .inl (fun jq => nI (Z jq)))), (mv, .inl (cZ, 2048, .inl (fun jq => bI (wn jq)))), (mt, .inl (cI, 10, .inl T))] s.heap.size = A at hD ⊢
  have hA : ∀ q : Nat, s.heap.size ≤ q → A q := fun q h => by rw [← hAe]; exact Or.inr h
  have hS : va_S A s.heap s.heap [] := va_S.rf
  have hx := Bo.exec
  have hb := Bo.bytes
  have hr := Bo.returns
  have hts := atoms_spec (ws := kX2_wins :: aW) Bo.pre
  have ht : ∀ w ∈ aW, w.before _ s = true := fun w h => hts w (List.mem_cons_of_mem _ h)
  have hown : s.vm.findClass RX2 = some m.cls := findClass_of_methodNamed Bo.named
  have hlocks := Bo.notSynchronized
  have hP : va_P D clS [(om, .inr (2, [.int (nI n), .int (nI a), .int (nI q), .ref my, .ref mz, .int (bI kn), .int sk, .int (bI mr), .int (nI u1), .int (nI u2), .ref mv, .int (nI (sd_pos d v)), .int (nI d), .ref mt])), (my, .inl (cI, 24, .inl (fun jq => nI (Y jq)))), (mz, .inl (cI, 24, .inl (fun jq => nI (Z jq)))), (mv, .inl (cZ, 2048, .inl (fun jq => bI (wn jq)))), (mt, .inl (cI, 10, .inl T))] s.heap := hP
  have hl := lv_entry ([.ref om]) (n := 1) (Nat.le_of_ble_eq_true rfl)
  rw [lg_entry_eq]
  generalize (lg_sl ([.ref om]) ++ List.replicate (1 - (lg_sl ([.ref om])).length) Slot.unset).toArray = ls at hl ⊢
  have hl : lv_has ls 1 [(0, .ref om)] := hl
  have hpk := sd_pos_k (v := v) hd h2n
  refine lv_aload_n hx hb dX2_wins_0 rfl (lv_at hl 0 rfl) ?_
  refine hw_callW (ws' := [(om, .inr (2, [.int (nI n), .int (nI a), .int (nI q), .ref my, .ref mz, .int (bI true), .int (if kn = true then sk else -1), .int (bI (kn && mr)), .int (nI u1), .int (nI u2), .ref mv, .int (nI (sd_pos d v)), .int (nI d), .ref mt])), (my, .inl (cI, 24, .inl (fun jq => nI (Y jq)))), (mz, .inl (cI, 24, .inl (fun jq => nI (Z jq)))), (mv, .inl (cZ, 2048, .inl (fun jq => bI ((sd_wn n a (fun w => sd_br Y Z q w == 0)) jq)))), (mt, .inl (cI, 10, .inl T))]) (va_runV (b := om) (As := []) (rest := []) ⟨hx, hb, hml, hown, ht⟩ (m_look l D cI cZ om my mz mv mt n a q d v u1 u2 kn mr sk Y Z T wn ok s.heap.size mk hu1 hu2) (cwV 0 ht (gV wm_X2_X2_look wi_X2_look ws_X2_look wn_X2 wc_X2_look) rfl rfl rfl (by decide +kernel) ⟨Nat.le_of_ble_eq_true rfl, Nat.le_of_ble_eq_true rfl⟩) (wPre_V 0 hP hD hK hN rfl rfl) rfl rfl hl.1 rfl (lv_room (Nat.le_of_ble_eq_true rfl)) dX2_wins_1 ⟨Nat.zero_le _, Nat.zero_le _⟩) hD hS hA rfl (fun H locs hP hD hS => ?_)
  have hP : va_P D clS [(om, .inr (2, [.int (nI n), .int (nI a), .int (nI q), .ref my, .ref mz, .int (bI true), .int (if kn = true then sk else -1), .int (bI (kn && mr)), .int (nI u1), .int (nI u2), .ref mv, .int (nI (sd_pos d v)), .int (nI d), .ref mt])), (my, .inl (cI, 24, .inl (fun jq => nI (Y jq)))), (mz, .inl (cI, 24, .inl (fun jq => nI (Z jq)))), (mv, .inl (cZ, 2048, .inl (fun jq => bI ((sd_wn n a (fun w => sd_br Y Z q w == 0)) jq)))), (mt, .inl (cI, 10, .inl T))] H := hP
  have hD : va_D A [(om, .inr (2, [.int (nI n), .int (nI a), .int (nI q), .ref my, .ref mz, .int (bI true), .int (if kn = true then sk else -1), .int (bI (kn && mr)), .int (nI u1), .int (nI u2), .ref mv, .int (nI (sd_pos d v)), .int (nI d), .ref mt])), (my, .inl (cI, 24, .inl (fun jq => nI (Y jq)))), (mz, .inl (cI, 24, .inl (fun jq => nI (Z jq)))), (mv, .inl (cZ, 2048, .inl (fun jq => bI ((sd_wn n a (fun w => sd_br Y Z q w == 0)) jq)))), (mt, .inl (cI, 10, .inl T))] := hD
  refine W.eq (g2 := F0 m 4 ls []) rfl ?_
  refine lv_aload_n hx hb dX2_wins_4 rfl (lv_at hl 0 rfl) ?_
  refine va_get (D := D) (ci := 2) (v := .ref mv) (C := RX2) (T := TX2) (N := 14) hx hb ht inX2 hown hK hP 0 rfl rfl 10 (by decide) (ht _ wf_X2_win) (fun _ h9 => h9) rfl dX2_wins_5 ?_
  refine lv_aload_n hx hb dX2_wins_8 rfl (lv_at hl 0 rfl) ?_
  refine va_get (D := D) (ci := 2) (v := .int (nI (sd_pos d v))) (C := RX2) (T := TX2) (N := 14) hx hb ht inX2 hown hK hP 0 rfl rfl 11 (by decide) (ht _ wf_X2_position) (fun _ h9 => h9) rfl dX2_wins_9 ?_
  refine na_zald (f := sd_wn n a (fun w => sd_br Y Z q w == 0)) hx hb hK hP 3 1 rfl rfl (j := sd_pos d v) (by omega) (by omega) dX2_wins_12 ?_
  refine lv_nm (y := bI (sd_E n a (fun w => sd_br Y Z q w == 0) d v)) (congrArg bI (sd_wn_at hd hv)) ?_
  exact W.zret hx hb hr (bI_nar _) (fun t ht2 _ => ⟨hw_ret (rfl), by rw [ht2]; exact hP, hS.F ht2⟩) hS.2.2 dX2_wins_13

set_option maxHeartbeats 4000000 in
set_option maxRecDepth 100000 in
theorem m_best (l : Launch) (D : va_G) (cI cZ : ClassId) (om my mz mv mt n a q d v u1 u2 : Nat) (kn mr : Bool) (sk : Int32) (Y Z : Nat → Nat) (T : Nat → Int32) (wn : Nat → Bool) (ok : dOk n a q d v Y Z) (sz : Nat) (mk : mOk n kn wn (sd_wn n a (fun w => sd_br Y Z q w == 0))) (hu1 : u1 < 2 ^ n) (hu2 : u2 < 2 ^ n) : Met l yX2_best (kX2_best :: aW) { frames := 4, cells := 0, slots := 0, locals := 87 } (wPre [.ref om] D [(om, .inr (2, [.int (nI n), .int (nI a), .int (nI q), .ref my, .ref mz, .int (bI kn), .int sk, .int (bI mr), .int (nI u1), .int (nI u2), .ref mv, .int (nI (sd_pos d v)), .int (nI d), .ref mt])), (my, .inl (cI, 24, .inl (fun jq => nI (Y jq)))), (mz, .inl (cI, 24, .inl (fun jq => nI (Z jq)))), (mv, .inl (cZ, 2048, .inl (fun jq => bI (wn jq)))), (mt, .inl (cI, 10, .inl T))] [(cI, .int), (cZ, .boolean)] sz) (wQ (some (.int (if d < n then bI (sd_bm n a (fun w => sd_br Y Z q w == 0) d v) else -1))) D [(om, .inr (2, [.int (nI n), .int (nI a), .int (nI q), .ref my, .ref mz, .int (bI true), .int (if kn = true then sk else -1), .int (bI (kn && mr)), .int (nI u1), .int (nI u2), .ref mv, .int (nI (sd_pos d v)), .int (nI d), .ref mt])), (my, .inl (cI, 24, .inl (fun jq => nI (Y jq)))), (mz, .inl (cI, 24, .inl (fun jq => nI (Z jq)))), (mv, .inl (cZ, 2048, .inl (fun jq => bI ((sd_wn n a (fun w => sd_br Y Z q w == 0)) jq)))), (mt, .inl (cI, 10, .inl T))] (va_A [(om, .inr (2, [.int (nI n), .int (nI a), .int (nI q), .ref my, .ref mz, .int (bI kn), .int sk, .int (bI mr), .int (nI u1), .int (nI u2), .ref mv, .int (nI (sd_pos d v)), .int (nI d), .ref mt])), (my, .inl (cI, 24, .inl (fun jq => nI (Y jq)))), (mz, .inl (cI, 24, .inl (fun jq => nI (Z jq)))), (mv, .inl (cZ, 2048, .inl (fun jq => bI (wn jq)))), (mt, .inl (cI, 10, .inl T))] sz)) 0 0 (va_A [(om, .inr (2, [.int (nI n), .int (nI a), .int (nI q), .ref my, .ref mz, .int (bI kn), .int sk, .int (bI mr), .int (nI u1), .int (nI u2), .ref mv, .int (nI (sd_pos d v)), .int (nI d), .ref mt])), (my, .inl (cI, 24, .inl (fun jq => nI (Y jq)))), (mz, .inl (cI, 24, .inl (fun jq => nI (Z jq)))), (mv, .inl (cZ, 2048, .inl (fun jq => bI (wn jq)))), (mt, .inl (cI, 10, .inl T))] sz) := by
  obtain ⟨hn1, hn, ha, h5, hq, hY, hZ, hd, hv⟩ := id ok
  have h2n := hw_p10 hn
  refine Met.ofW (cc := cX2_best) (maxL := 1) (ret := (some .int)) (by decide) rfl ?_
  intro p e s m args below meth c s₁ Bo hml hpre
  obtain ⟨rfl, hsz, hP, hK, hN, hD0⟩ := hpre
  subst hsz
  have hD := hD0.self (sz := s.heap.size)
  generalize hAe : va_A [(om, .inr (2, [.int (nI n), .int (nI a), .int (nI q), .ref my, .ref mz, .int (bI kn), .int sk, .int (bI mr), .int (nI u1), .int (nI u2), .ref mv, .int (nI (sd_pos d v)), .int (nI d), .ref mt])), (my, .inl (cI, 24, .inl (fun jq => nI (Y jq)))), (mz, .inl (cI, 24, .inl (fun jq => nI (Z jq)))), (mv, .inl (cZ, 2048, .inl (fun jq => bI (wn jq)))), (mt, .inl (cI, 10, .inl T))] s.heap.size = A at hD ⊢
  have hA : ∀ q : Nat, s.heap.size ≤ q → A q := fun q h => by rw [← hAe]; exact Or.inr h
  have hS : va_S A s.heap s.heap [] := va_S.rf
  have hx := Bo.exec
  have hb := Bo.bytes
  have hr := Bo.returns
  have hts := atoms_spec (ws := kX2_best :: aW) Bo.pre
  have ht : ∀ w ∈ aW, w.before _ s = true := fun w h => hts w (List.mem_cons_of_mem _ h)
  have hown : s.vm.findClass RX2 = some m.cls := findClass_of_methodNamed Bo.named
  have hlocks := Bo.notSynchronized
  have hP : va_P D clS [(om, .inr (2, [.int (nI n), .int (nI a), .int (nI q), .ref my, .ref mz, .int (bI kn), .int sk, .int (bI mr), .int (nI u1), .int (nI u2), .ref mv, .int (nI (sd_pos d v)), .int (nI d), .ref mt])), (my, .inl (cI, 24, .inl (fun jq => nI (Y jq)))), (mz, .inl (cI, 24, .inl (fun jq => nI (Z jq)))), (mv, .inl (cZ, 2048, .inl (fun jq => bI (wn jq)))), (mt, .inl (cI, 10, .inl T))] s.heap := hP
  have hl := lv_entry ([.ref om]) (n := 1) (Nat.le_of_ble_eq_true rfl)
  rw [lg_entry_eq]
  generalize (lg_sl ([.ref om]) ++ List.replicate (1 - (lg_sl ([.ref om])).length) Slot.unset).toArray = ls at hl ⊢
  have hl : lv_has ls 1 [(0, .ref om)] := hl
  refine lv_aload_n hx hb dX2_best_0 rfl (lv_at hl 0 rfl) ?_
  refine hw_callW (ws' := [(om, .inr (2, [.int (nI n), .int (nI a), .int (nI q), .ref my, .ref mz, .int (bI true), .int (if kn = true then sk else -1), .int (bI (kn && mr)), .int (nI u1), .int (nI u2), .ref mv, .int (nI (sd_pos d v)), .int (nI d), .ref mt])), (my, .inl (cI, 24, .inl (fun jq => nI (Y jq)))), (mz, .inl (cI, 24, .inl (fun jq => nI (Z jq)))), (mv, .inl (cZ, 2048, .inl (fun jq => bI ((sd_wn n a (fun w => sd_br Y Z q w == 0)) jq)))), (mt, .inl (cI, 10, .inl T))]) (va_runV (b := om) (As := []) (rest := []) ⟨hx, hb, hml, hown, ht⟩ (m_look l D cI cZ om my mz mv mt n a q d v u1 u2 kn mr sk Y Z T wn ok s.heap.size mk hu1 hu2) (cwV 0 ht (gV wm_X2_X2_look wi_X2_look ws_X2_look wn_X2 wc_X2_look) rfl rfl rfl (by decide +kernel) ⟨Nat.le_of_ble_eq_true rfl, Nat.le_of_ble_eq_true rfl⟩) (wPre_V 0 hP hD hK hN rfl rfl) rfl rfl hl.1 rfl (lv_room (Nat.le_of_ble_eq_true rfl)) dX2_best_1 ⟨Nat.zero_le _, Nat.zero_le _⟩) hD hS hA rfl (fun H locs hP hD hS => ?_)
  have hP : va_P D clS [(om, .inr (2, [.int (nI n), .int (nI a), .int (nI q), .ref my, .ref mz, .int (bI true), .int (if kn = true then sk else -1), .int (bI (kn && mr)), .int (nI u1), .int (nI u2), .ref mv, .int (nI (sd_pos d v)), .int (nI d), .ref mt])), (my, .inl (cI, 24, .inl (fun jq => nI (Y jq)))), (mz, .inl (cI, 24, .inl (fun jq => nI (Z jq)))), (mv, .inl (cZ, 2048, .inl (fun jq => bI ((sd_wn n a (fun w => sd_br Y Z q w == 0)) jq)))), (mt, .inl (cI, 10, .inl T))] H := hP
  have hD : va_D A [(om, .inr (2, [.int (nI n), .int (nI a), .int (nI q), .ref my, .ref mz, .int (bI true), .int (if kn = true then sk else -1), .int (bI (kn && mr)), .int (nI u1), .int (nI u2), .ref mv, .int (nI (sd_pos d v)), .int (nI d), .ref mt])), (my, .inl (cI, 24, .inl (fun jq => nI (Y jq)))), (mz, .inl (cI, 24, .inl (fun jq => nI (Z jq)))), (mv, .inl (cZ, 2048, .inl (fun jq => bI ((sd_wn n a (fun w => sd_br Y Z q w == 0)) jq)))), (mt, .inl (cI, 10, .inl T))] := hD
  refine W.eq (g2 := F0 m 4 ls []) rfl ?_
  refine lv_aload_n hx hb dX2_best_4 rfl (lv_at hl 0 rfl) ?_
  refine va_get (D := D) (ci := 2) (v := .int (nI d)) (C := RX2) (T := TX2) (N := 14) hx hb ht inX2 hown hK hP 0 rfl rfl 12 (by decide) (ht _ wf_X2_set) (fun _ h9 => h9) rfl dX2_best_5 ?_
  refine lv_aload_n hx hb dX2_best_8 rfl (lv_at hl 0 rfl) ?_
  refine va_get (D := D) (ci := 2) (v := .int (nI n)) (C := RX2) (T := TX2) (N := 14) hx hb ht inX2 hown hK hP 0 rfl rfl 0 (by decide) (ht _ wf_X2_n) (fun _ h9 => h9) rfl dX2_best_9 ?_
  refine lv_icmp_ne (tgt := 19) hx hb dX2_best_12 rfl (fun h1 => ?_) (fun h1 => ?_)
  · have h1 : ¬ (d = n) := fun h9 => h1 ((nI_eq (by omega) (by omega)).mpr h9)
    refine lv_aload_n hx hb dX2_best_19 rfl (lv_at hl 0 rfl) ?_
    refine lv_aload_n hx hb dX2_best_20 rfl (lv_at hl 0 rfl) ?_
    refine va_get (D := D) (ci := 2) (v := .int (nI (sd_pos d v))) (C := RX2) (T := TX2) (N := 14) hx hb ht inX2 hown hK hP 0 rfl rfl 11 (by decide) (ht _ wf_X2_position) (fun _ h9 => h9) rfl dX2_best_21 ?_
    refine lv_aload_n hx hb dX2_best_24 rfl (lv_at hl 0 rfl) ?_
    refine va_get (D := D) (ci := 2) (v := .int (nI d)) (C := RX2) (T := TX2) (N := 14) hx hb ht inX2 hown hK hP 0 rfl rfl 12 (by decide) (ht _ wf_X2_set) (fun _ h9 => h9) rfl dX2_best_25 ?_
    refine hw_callR (va_runV (b := om) (As := [.int (nI (sd_pos d v)), .int (nI d)]) (rest := []) ⟨hx, hb, hml, hown, ht⟩ (m_move l D cI cZ om my mz mv mt n a q d v u1 u2 true (kn && mr) (if kn = true then sk else -1) Y Z T (sd_wn n a (fun w => sd_br Y Z q w == 0)) ok d v (by omega) hv) (cwV 2 ht (gV wm_X2_X2_move wi_X2_move ws_X2_move wn_X2 wc_X2_move) rfl rfl rfl (by decide +kernel) ⟨Nat.le_of_ble_eq_true rfl, Nat.le_of_ble_eq_true rfl⟩) (rPre_V 0 hP hK hN rfl rfl) rfl rfl hl.1 rfl (lv_room (Nat.le_of_ble_eq_true rfl)) dX2_best_28 ⟨Nat.zero_le _, Nat.zero_le _⟩) ?_
    exact W.iret hx hb hr (fun t ht2 _ => ⟨hw_ret ((if_pos (by omega)).symm), by rw [ht2]; exact hP, hS.F ht2⟩) hS.2.2 dX2_best_31
  · have h1 : d = n := (nI_eq (by omega) (by omega)).mp h1
    refine lv_iconst (v := (-1)) hx hb dX2_best_15 (by decide) ?_
    refine lv_goto (tgt := 31) hx hb dX2_best_16 rfl ?_
    exact W.iret hx hb hr (fun t ht2 _ => ⟨hw_ret ((if_neg (by omega)).symm), by rw [ht2]; exact hP, hS.F ht2⟩) hS.2.2 dX2_best_31

set_option maxHeartbeats 4000000 in
set_option maxRecDepth 100000 in
theorem m_led_no (l : Launch) (D : va_G) (cI cZ : ClassId) (om my mz mv mt n a q d v u1 u2 : Nat) (kn mr : Bool) (sk : Int32) (Y Z : Nat → Nat) (T : Nat → Int32) (wn : Nat → Bool) (ok : dOk n a q d v Y Z) (x td : Int32) (ab : Bool) (hno : ¬ uN x < n) : Met l yX2_led (kX2_led :: aW) { frames := 4, cells := 0, slots := 0, locals := 87 } (rPre [.ref om, .int x, .int (bI ab), .int td] D [(om, .inr (2, [.int (nI n), .int (nI a), .int (nI q), .ref my, .ref mz, .int (bI kn), .int sk, .int (bI mr), .int (nI u1), .int (nI u2), .ref mv, .int (nI (sd_pos d v)), .int (nI d), .ref mt])), (my, .inl (cI, 24, .inl (fun jq => nI (Y jq)))), (mz, .inl (cI, 24, .inl (fun jq => nI (Z jq)))), (mv, .inl (cZ, 2048, .inl (fun jq => bI (wn jq)))), (mt, .inl (cI, 10, .inl T))] [(cI, .int), (cZ, .boolean)]) (QcRead (-1)) 0 0 (fun _ => False) := by
  obtain ⟨hn1, hn, ha, h5, hq, hY, hZ, hd, hv⟩ := id ok
  have h2n := hw_p10 hn
  refine Met.ofW (cc := cX2_led) (maxL := 7) (ret := (some .int)) (by decide) rfl ?_
  intro p e s m args below meth c s₁ Bo hml hpre
  obtain ⟨rfl, hP, hK, hN⟩ := hpre
  have hx := Bo.exec
  have hb := Bo.bytes
  have hr := Bo.returns
  have hts := atoms_spec (ws := kX2_led :: aW) Bo.pre
  have ht : ∀ w ∈ aW, w.before _ s = true := fun w h => hts w (List.mem_cons_of_mem _ h)
  have hown : s.vm.findClass RX2 = some m.cls := findClass_of_methodNamed Bo.named
  have hlocks := Bo.notSynchronized
  have hP : va_P D clS [(om, .inr (2, [.int (nI n), .int (nI a), .int (nI q), .ref my, .ref mz, .int (bI kn), .int sk, .int (bI mr), .int (nI u1), .int (nI u2), .ref mv, .int (nI (sd_pos d v)), .int (nI d), .ref mt])), (my, .inl (cI, 24, .inl (fun jq => nI (Y jq)))), (mz, .inl (cI, 24, .inl (fun jq => nI (Z jq)))), (mv, .inl (cZ, 2048, .inl (fun jq => bI (wn jq)))), (mt, .inl (cI, 10, .inl T))] s.heap := hP
  have hl := lv_entry ([.ref om, .int x, .int (bI ab), .int td]) (n := 7) (Nat.le_of_ble_eq_true rfl)
  rw [lg_entry_eq]
  generalize (lg_sl ([.ref om, .int x, .int (bI ab), .int td]) ++ List.replicate (7 - (lg_sl ([.ref om, .int x, .int (bI ab), .int td])).length) Slot.unset).toArray = ls at hl ⊢
  have hl : lv_has ls 7 [(0, .ref om), (1, .int x), (2, .int (bI ab)), (3, .int td)] := hl
  refine lv_iload_n hx hb dX2_led_0 rfl (lv_at hl 1 rfl) ?_
  refine lv_if_lt (tgt := 12) hx hb dX2_led_1 rfl (fun h1 => ?_) (fun h1 => ?_)
  · refine lv_iconst (v := (-1)) hx hb dX2_led_12 (by decide) ?_
    exact W.iret hx hb hr (fun t ht2 _ => ⟨hw_ret (rfl), ht2⟩) (fun _ h => by cases h) dX2_led_13
  · refine lv_iload_n hx hb dX2_led_4 rfl (lv_at hl 1 rfl) ?_
    refine lv_aload_n hx hb dX2_led_5 rfl (lv_at hl 0 rfl) ?_
    refine va_get (D := D) (ci := 2) (v := .int (nI n)) (C := RX2) (T := TX2) (N := 14) hx hb ht inX2 hown hK hP 0 rfl rfl 0 (by decide) (ht _ wf_X2_n) (fun _ h9 => h9) rfl dX2_led_6 ?_
    refine lv_icmp_lt (tgt := 14) hx hb dX2_led_9 rfl (fun h2 => ?_) (fun h2 => ?_)
    · exact absurd (hw_in' (by omega) h1 h2) hno
    · refine lv_iconst (v := (-1)) hx hb dX2_led_12 (by decide) ?_
      exact W.iret hx hb hr (fun t ht2 _ => ⟨hw_ret (rfl), ht2⟩) (fun _ h => by cases h) dX2_led_13

set_option maxHeartbeats 4000000 in
set_option maxRecDepth 100000 in
theorem m_led (l : Launch) (D : va_G) (cI cZ : ClassId) (om my mz mv mt n a q d v u1 u2 : Nat) (kn mr : Bool) (sk : Int32) (Y Z : Nat → Nat) (T : Nat → Int32) (wn : Nat → Bool) (ok : dOk n a q d v Y Z) (sz : Nat) (mk : mOk n kn wn (sd_wn n a (fun w => sd_br Y Z q w == 0))) (hu1 : u1 < 2 ^ n) (hu2 : u2 < 2 ^ n) (j : Nat) (ab : Bool) (td : Int32) (hj : j < n) : Met l yX2_led (kX2_led :: aW) { frames := 4, cells := 0, slots := 0, locals := 87 } (wPre [.ref om, .int (nI j), .int (bI ab), .int td] D [(om, .inr (2, [.int (nI n), .int (nI a), .int (nI q), .ref my, .ref mz, .int (bI kn), .int sk, .int (bI mr), .int (nI u1), .int (nI u2), .ref mv, .int (nI (sd_pos d v)), .int (nI d), .ref mt])), (my, .inl (cI, 24, .inl (fun jq => nI (Y jq)))), (mz, .inl (cI, 24, .inl (fun jq => nI (Z jq)))), (mv, .inl (cZ, 2048, .inl (fun jq => bI (wn jq)))), (mt, .inl (cI, 10, .inl T))] [(cI, .int), (cZ, .boolean)] sz) (wQ (some (.int (bI (sd_ld n a (fun w => sd_br Y Z q w == 0) ab (uN td) j (sd_ac (sd_ld n a (fun w => sd_br Y Z q w == 0) ab (uN td)) j))))) D [(om, .inr (2, [.int (nI n), .int (nI a), .int (nI q), .ref my, .ref mz, .int (bI true), .int (if kn = true then sk else -1), .int (bI (kn && mr)), .int (nI u1), .int (nI u2), .ref mv, .int (nI (sd_pos d v)), .int (nI d), .ref mt])), (my, .inl (cI, 24, .inl (fun jq => nI (Y jq)))), (mz, .inl (cI, 24, .inl (fun jq => nI (Z jq)))), (mv, .inl (cZ, 2048, .inl (fun jq => bI ((sd_wn n a (fun w => sd_br Y Z q w == 0)) jq)))), (mt, .inl (cI, 10, .inl T))] (va_A [(om, .inr (2, [.int (nI n), .int (nI a), .int (nI q), .ref my, .ref mz, .int (bI kn), .int sk, .int (bI mr), .int (nI u1), .int (nI u2), .ref mv, .int (nI (sd_pos d v)), .int (nI d), .ref mt])), (my, .inl (cI, 24, .inl (fun jq => nI (Y jq)))), (mz, .inl (cI, 24, .inl (fun jq => nI (Z jq)))), (mv, .inl (cZ, 2048, .inl (fun jq => bI (wn jq)))), (mt, .inl (cI, 10, .inl T))] sz)) 0 0 (va_A [(om, .inr (2, [.int (nI n), .int (nI a), .int (nI q), .ref my, .ref mz, .int (bI kn), .int sk, .int (bI mr), .int (nI u1), .int (nI u2), .ref mv, .int (nI (sd_pos d v)), .int (nI d), .ref mt])), (my, .inl (cI, 24, .inl (fun jq => nI (Y jq)))), (mz, .inl (cI, 24, .inl (fun jq => nI (Z jq)))), (mv, .inl (cZ, 2048, .inl (fun jq => bI (wn jq)))), (mt, .inl (cI, 10, .inl T))] sz) := by
  obtain ⟨hn1, hn, ha, h5, hq, hY, hZ, hd, hv⟩ := id ok
  have h2n := hw_p10 hn
  refine Met.ofW (cc := cX2_led) (maxL := 7) (ret := (some .int)) (by decide) rfl ?_
  intro p e s m args below meth c s₁ Bo hml hpre
  obtain ⟨rfl, hsz, hP, hK, hN, hD0⟩ := hpre
  subst hsz
  have hD := hD0.self (sz := s.heap.size)
  generalize hAe : va_A [(om, .inr (2, [.int (nI n), .int (nI a), .int (nI q), .ref my, .ref mz, .int (bI kn), .int sk, .int (bI mr), .int (nI u1), .int (nI u2), .ref mv, .int (nI (sd_pos d v)), .int (nI d), .ref mt])), (my, .inl (cI, 24, .inl (fun jq => nI (Y jq)))), (mz, .inl (cI, 24, .inl (fun jq => nI (Z jq)))), (mv, .inl (cZ, 2048, .inl (fun jq => bI (wn jq)))), (mt, .inl (cI, 10, .inl T))] s.heap.size = A at hD ⊢
  have hA : ∀ q : Nat, s.heap.size ≤ q → A q := fun q h => by rw [← hAe]; exact Or.inr h
  have hS : va_S A s.heap s.heap [] := va_S.rf
  have hx := Bo.exec
  have hb := Bo.bytes
  have hr := Bo.returns
  have hts := atoms_spec (ws := kX2_led :: aW) Bo.pre
  have ht : ∀ w ∈ aW, w.before _ s = true := fun w h => hts w (List.mem_cons_of_mem _ h)
  have hown : s.vm.findClass RX2 = some m.cls := findClass_of_methodNamed Bo.named
  have hlocks := Bo.notSynchronized
  have hP : va_P D clS [(om, .inr (2, [.int (nI n), .int (nI a), .int (nI q), .ref my, .ref mz, .int (bI kn), .int sk, .int (bI mr), .int (nI u1), .int (nI u2), .ref mv, .int (nI (sd_pos d v)), .int (nI d), .ref mt])), (my, .inl (cI, 24, .inl (fun jq => nI (Y jq)))), (mz, .inl (cI, 24, .inl (fun jq => nI (Z jq)))), (mv, .inl (cZ, 2048, .inl (fun jq => bI (wn jq)))), (mt, .inl (cI, 10, .inl T))] s.heap := hP
  have hl := lv_entry ([.ref om, .int (nI j), .int (bI ab), .int td]) (n := 7) (Nat.le_of_ble_eq_true rfl)
  rw [lg_entry_eq]
  generalize (lg_sl ([.ref om, .int (nI j), .int (bI ab), .int td]) ++ List.replicate (7 - (lg_sl ([.ref om, .int (nI j), .int (bI ab), .int td])).length) Slot.unset).toArray = ls at hl ⊢
  have hl : lv_has ls 7 [(0, .ref om), (1, .int (nI j)), (2, .int (bI ab)), (3, .int td)] := hl
  refine lv_iload_n hx hb dX2_led_0 rfl (lv_at hl 1 rfl) ?_
  refine lv_if_lt (tgt := 12) hx hb dX2_led_1 rfl (fun hc => absurd (nI_pos (by omega) hc) id) (fun _ => ?_)
  refine lv_iload_n hx hb dX2_led_4 rfl (lv_at hl 1 rfl) ?_
  refine lv_aload_n hx hb dX2_led_5 rfl (lv_at hl 0 rfl) ?_
  refine va_get (D := D) (ci := 2) (v := .int (nI n)) (C := RX2) (T := TX2) (N := 14) hx hb ht inX2 hown hK hP 0 rfl rfl 0 (by decide) (ht _ wf_X2_n) (fun _ h9 => h9) rfl dX2_led_6 ?_
  refine lv_icmp_lt (tgt := 14) hx hb dX2_led_9 rfl (fun _ => ?_) (fun hc => absurd (show ¬ (j < n) from fun h9 => hc ((nI_ltI (by omega) (by omega)).mpr h9)) (by omega))
  refine lv_aload_n hx hb dX2_led_14 rfl (lv_at hl 0 rfl) ?_
  refine hw_callW (ws' := [(om, .inr (2, [.int (nI n), .int (nI a), .int (nI q), .ref my, .ref mz, .int (bI true), .int (if kn = true then sk else -1), .int (bI (kn && mr)), .int (nI u1), .int (nI u2), .ref mv, .int (nI (sd_pos d v)), .int (nI d), .ref mt])), (my, .inl (cI, 24, .inl (fun jq => nI (Y jq)))), (mz, .inl (cI, 24, .inl (fun jq => nI (Z jq)))), (mv, .inl (cZ, 2048, .inl (fun jq => bI ((sd_wn n a (fun w => sd_br Y Z q w == 0)) jq)))), (mt, .inl (cI, 10, .inl T))]) (va_runV (b := om) (As := []) (rest := []) ⟨hx, hb, hml, hown, ht⟩ (m_look l D cI cZ om my mz mv mt n a q d v u1 u2 kn mr sk Y Z T wn ok s.heap.size mk hu1 hu2) (cwV 0 ht (gV wm_X2_X2_look wi_X2_look ws_X2_look wn_X2 wc_X2_look) rfl rfl rfl (by decide +kernel) ⟨Nat.le_of_ble_eq_true rfl, Nat.le_of_ble_eq_true rfl⟩) (wPre_V 0 hP hD hK hN rfl rfl) rfl rfl hl.1 rfl (lv_room (Nat.le_of_ble_eq_true rfl)) dX2_led_15 ⟨Nat.zero_le _, Nat.zero_le _⟩) hD hS hA rfl (fun H locs hP hD hS => ?_)
  have hP : va_P D clS [(om, .inr (2, [.int (nI n), .int (nI a), .int (nI q), .ref my, .ref mz, .int (bI true), .int (if kn = true then sk else -1), .int (bI (kn && mr)), .int (nI u1), .int (nI u2), .ref mv, .int (nI (sd_pos d v)), .int (nI d), .ref mt])), (my, .inl (cI, 24, .inl (fun jq => nI (Y jq)))), (mz, .inl (cI, 24, .inl (fun jq => nI (Z jq)))), (mv, .inl (cZ, 2048, .inl (fun jq => bI ((sd_wn n a (fun w => sd_br Y Z q w == 0)) jq)))), (mt, .inl (cI, 10, .inl T))] H := hP
  have hD : va_D A [(om, .inr (2, [.int (nI n), .int (nI a), .int (nI q), .ref my, .ref mz, .int (bI true), .int (if kn = true then sk else -1), .int (bI (kn && mr)), .int (nI u1), .int (nI u2), .ref mv, .int (nI (sd_pos d v)), .int (nI d), .ref mt])), (my, .inl (cI, 24, .inl (fun jq => nI (Y jq)))), (mz, .inl (cI, 24, .inl (fun jq => nI (Z jq)))), (mv, .inl (cZ, 2048, .inl (fun jq => bI ((sd_wn n a (fun w => sd_br Y Z q w == 0)) jq)))), (mt, .inl (cI, 10, .inl T))] := hD
  refine W.eq (g2 := F0 m 18 ls []) rfl ?_
  refine lv_iconst (v := nI 1) hx hb dX2_led_18 (by decide) ?_
  refine lv_istore hx hb dX2_led_19 hl (by decide) rfl (fun ls hl => ?_)
  have hl : lv_has ls 7 [(4, .int (nI 1)), (0, .ref om), (1, .int (nI j)), (2, .int (bI ab)), (3, .int td)] := hl
  refine lv_iconst (v := nI 0) hx hb dX2_led_21 (by decide) ?_
  refine lv_istore hx hb dX2_led_22 hl (by decide) rfl (fun ls hl => ?_)
  have hl : lv_has ls 7 [(5, .int (nI 0)), (4, .int (nI 1)), (0, .ref om), (1, .int (nI j)), (2, .int (bI ab)), (3, .int td)] := hl
  refine lv_iconst (v := nI 0) hx hb dX2_led_24 (by decide) ?_
  refine lv_istore hx hb dX2_led_25 hl (by decide) rfl (fun ls hl => ?_)
  have hl : lv_has ls 7 [(6, .int (nI 0)), (5, .int (nI 0)), (4, .int (nI 1)), (0, .ref om), (1, .int (nI j)), (2, .int (bI ab)), (3, .int td)] := hl
  have hl : lv_has ls 7 [(0, .ref om), (1, .int (nI j)), (2, .int (bI ab)), (3, .int td), (4, .int (nI 1)), (5, .int (nI 0)), (6, .int (nI 0))] := lv_sub hl [3, 4, 5, 6, 2, 1, 0] rfl
  suffices lp : ∀ k : Nat, ∀ (i : Nat) (vb : Bool) (ls : Array Slot) (H : Heap) (locs : List Loc), (i + k = j + 1) → (i = j + 1 → vb = sd_ld n a (fun w => sd_br Y Z q w == 0) ab (uN td) j (sd_ac (sd_ld n a (fun w => sd_br Y Z q w == 0) ab (uN td)) j)) → lv_has ls 7 [(0, .ref om), (1, .int (nI j)), (2, .int (bI ab)), (3, .int td), (4, .int (nI (sd_pos i (sd_ac (sd_ld n a (fun w => sd_br Y Z q w == 0) ab (uN td)) i)))), (5, .int (bI vb)), (6, .int (nI i))] → va_P D clS [(om, .inr (2, [.int (nI n), .int (nI a), .int (nI q), .ref my, .ref mz, .int (bI true), .int (if kn = true then sk else -1), .int (bI (kn && mr)), .int (nI u1), .int (nI u2), .ref mv, .int (nI (sd_pos d v)), .int (nI d), .ref mt])), (my, .inl (cI, 24, .inl (fun jq => nI (Y jq)))), (mz, .inl (cI, 24, .inl (fun jq => nI (Z jq)))), (mv, .inl (cZ, 2048, .inl (fun jq => bI ((sd_wn n a (fun w => sd_br Y Z q w == 0)) jq)))), (mt, .inl (cI, 10, .inl T))] H → va_S A s.heap H locs → W p l e (headSpec (kX2_led :: aW) { frames := 4, cells := 0, slots := 0, locals := 87 }).room s m (([.ref om, .int (nI j), .int (bI ab), .int td] : List Value).toArray) below meth c H locs 0 0 (MQ below (wQ (some (.int (bI (sd_ld n a (fun w => sd_br Y Z q w == 0) ab (uN td) j (sd_ac (sd_ld n a (fun w => sd_br Y Z q w == 0) ab (uN td)) j))))) D [(om, .inr (2, [.int (nI n), .int (nI a), .int (nI q), .ref my, .ref mz, .int (bI true), .int (if kn = true then sk else -1), .int (bI (kn && mr)), .int (nI u1), .int (nI u2), .ref mv, .int (nI (sd_pos d v)), .int (nI d), .ref mt])), (my, .inl (cI, 24, .inl (fun jq => nI (Y jq)))), (mz, .inl (cI, 24, .inl (fun jq => nI (Z jq)))), (mv, .inl (cZ, 2048, .inl (fun jq => bI ((sd_wn n a (fun w => sd_br Y Z q w == 0)) jq)))), (mt, .inl (cI, 10, .inl T))] A) (([.ref om, .int (nI j), .int (bI ab), .int td] : List Value).toArray) s 0 0 A) (F0 m 27 ls []) by
    exact lp (j + 1) 0 false ls H locs (by omega) (fun h9 => by omega) hl hP hS
  intro k
  induction k with
  | zero =>
    intro i vb ls H locs hi hb9 hl hP hS
    have hD : va_D A [(om, .inr (2, [.int (nI n), .int (nI a), .int (nI q), .ref my, .ref mz, .int (bI true), .int (if kn = true then sk else -1), .int (bI (kn && mr)), .int (nI u1), .int (nI u2), .ref mv, .int (nI (sd_pos d v)), .int (nI d), .ref mt])), (my, .inl (cI, 24, .inl (fun jq => nI (Y jq)))), (mz, .inl (cI, 24, .inl (fun jq => nI (Z jq)))), (mv, .inl (cZ, 2048, .inl (fun jq => bI ((sd_wn n a (fun w => sd_br Y Z q w == 0)) jq)))), (mt, .inl (cI, 10, .inl T))] := hw_ad hD rfl
    refine lv_iload hx hb dX2_led_27 (lv_at hl 6 rfl) ?_
    refine lv_iload_n hx hb dX2_led_29 rfl (lv_at hl 1 rfl) ?_
    refine lv_icmp_gt (tgt := 77) hx hb dX2_led_30 rfl (fun _ => ?_) (fun hc => absurd (show ¬ (j < i) from fun h9 => hc ((nI_ltI (by omega) (by omega)).mpr h9)) (by omega))
    refine lv_iload hx hb dX2_led_77 (lv_at hl 5 rfl) ?_
    exact W.iret hx hb hr (fun t ht2 _ => ⟨hw_ret (congrArg bI (hb9 (by omega))), by rw [ht2]; exact hP, hS.F ht2⟩) hS.2.2 dX2_led_79
  | succ k ih =>
    intro i vb ls H locs hi hb9 hl hP hS
    have hD : va_D A [(om, .inr (2, [.int (nI n), .int (nI a), .int (nI q), .ref my, .ref mz, .int (bI true), .int (if kn = true then sk else -1), .int (bI (kn && mr)), .int (nI u1), .int (nI u2), .ref mv, .int (nI (sd_pos d v)), .int (nI d), .ref mt])), (my, .inl (cI, 24, .inl (fun jq => nI (Y jq)))), (mz, .inl (cI, 24, .inl (fun jq => nI (Z jq)))), (mv, .inl (cZ, 2048, .inl (fun jq => bI ((sd_wn n a (fun w => sd_br Y Z q w == 0)) jq)))), (mt, .inl (cI, 10, .inl T))] := hw_ad hD rfl
    have hac := sd_ac_lt (sd_ld n a (fun w => sd_br Y Z q w == 0) ab (uN td)) i
    refine lv_iload hx hb dX2_led_27 (lv_at hl 6 rfl) ?_
    refine lv_iload_n hx hb dX2_led_29 rfl (lv_at hl 1 rfl) ?_
    refine lv_icmp_gt (tgt := 77) hx hb dX2_led_30 rfl (fun hc => absurd (show j < i from (nI_ltI (by omega) (by omega)).mp hc) (by omega)) (fun _ => ?_)
    refine lv_aload_n hx hb dX2_led_33 rfl (lv_at hl 0 rfl) ?_
    refine lv_iload hx hb dX2_led_34 (lv_at hl 6 rfl) ?_
    refine hw_callR (va_runV (b := om) (As := [.int (nI i)]) (rest := []) ⟨hx, hb, hml, hown, ht⟩ (m_isAdams l D cI cZ om my mz mv mt n a q d v u1 u2 true (kn && mr) (if kn = true then sk else -1) Y Z T (sd_wn n a (fun w => sd_br Y Z q w == 0)) ok i (by omega)) (cwV 1 ht (gV wm_X2_X2_isAdams wi_X2_isAdams ws_X2_isAdams wn_X2 wc_X2_isAdams) rfl rfl rfl (by decide +kernel) ⟨Nat.le_of_ble_eq_true rfl, Nat.le_of_ble_eq_true rfl⟩) (rPre_V 0 hP hK hN rfl rfl) rfl rfl hl.1 rfl (lv_room (Nat.le_of_ble_eq_true rfl)) dX2_led_36 ⟨Nat.zero_le _, Nat.zero_le _⟩) ?_
    refine lv_iload_n hx hb dX2_led_39 rfl (lv_at hl 2 rfl) ?_
    suffices mk9 : W p l e (headSpec (kX2_led :: aW) { frames := 4, cells := 0, slots := 0, locals := 87 }).room s m (([.ref om, .int (nI j), .int (bI ab), .int td] : List Value).toArray) below meth c H locs 0 0 (MQ below (wQ (some (.int (bI (sd_ld n a (fun w => sd_br Y Z q w == 0) ab (uN td) j (sd_ac (sd_ld n a (fun w => sd_br Y Z q w == 0) ab (uN td)) j))))) D [(om, .inr (2, [.int (nI n), .int (nI a), .int (nI q), .ref my, .ref mz, .int (bI true), .int (if kn = true then sk else -1), .int (bI (kn && mr)), .int (nI u1), .int (nI u2), .ref mv, .int (nI (sd_pos d v)), .int (nI d), .ref mt])), (my, .inl (cI, 24, .inl (fun jq => nI (Y jq)))), (mz, .inl (cI, 24, .inl (fun jq => nI (Z jq)))), (mv, .inl (cZ, 2048, .inl (fun jq => bI ((sd_wn n a (fun w => sd_br Y Z q w == 0)) jq)))), (mt, .inl (cI, 10, .inl T))] A) (([.ref om, .int (nI j), .int (bI ab), .int td] : List Value).toArray) s 0 0 A) (F0 m 60 ls [.int (bI (sd_ld n a (fun w => sd_br Y Z q w == 0) ab (uN td) i (sd_ac (sd_ld n a (fun w => sd_br Y Z q w == 0) ab (uN td)) i)))]) by
      refine lv_icmp_ne (tgt := 54) hx hb dX2_led_40 rfl (fun h1 => ?_) (fun h1 => ?_)
      · have h1 : ¬ (a.testBit i) = ab := fun h9 => h1 ((bI_inj _ _).mpr h9)
        refine lv_iload_n hx hb dX2_led_54 rfl (lv_at hl 3 rfl) ?_
        refine lv_iload hx hb dX2_led_55 (lv_at hl 6 rfl) ?_
        refine lv_ishr hx hb dX2_led_57 ?_
        refine lv_iconst (v := nI 1) hx hb dX2_led_58 (by decide) ?_
        refine lv_iand hx hb dX2_led_59 ?_
        refine lv_nm (y := bI ((uN td).testBit i)) (hw_sbit _ (by omega)) ?_
        refine lv_nm (y := bI (sd_ld n a (fun w => sd_br Y Z q w == 0) ab (uN td) i (sd_ac (sd_ld n a (fun w => sd_br Y Z q w == 0) ab (uN td)) i))) (congrArg bI (if_neg h1).symm) ?_
        exact mk9
      · have h1 : (a.testBit i) = ab := (bI_inj _ _).mp h1
        refine lv_aload_n hx hb dX2_led_43 rfl (lv_at hl 0 rfl) ?_
        refine lv_iload hx hb dX2_led_44 (lv_at hl 4 rfl) ?_
        refine lv_iload hx hb dX2_led_46 (lv_at hl 6 rfl) ?_
        refine hw_callR (va_runV (b := om) (As := [.int (nI (sd_pos i (sd_ac (sd_ld n a (fun w => sd_br Y Z q w == 0) ab (uN td)) i))), .int (nI i)]) (rest := []) ⟨hx, hb, hml, hown, ht⟩ (m_move l D cI cZ om my mz mv mt n a q d v u1 u2 true (kn && mr) (if kn = true then sk else -1) Y Z T (sd_wn n a (fun w => sd_br Y Z q w == 0)) ok i (sd_ac (sd_ld n a (fun w => sd_br Y Z q w == 0) ab (uN td)) i) (by omega) hac) (cwV 2 ht (gV wm_X2_X2_move wi_X2_move ws_X2_move wn_X2 wc_X2_move) rfl rfl rfl (by decide +kernel) ⟨Nat.le_of_ble_eq_true rfl, Nat.le_of_ble_eq_true rfl⟩) (rPre_V 0 hP hK hN rfl rfl) rfl rfl hl.1 rfl (lv_room (Nat.le_of_ble_eq_true rfl)) dX2_led_48 ⟨Nat.zero_le _, Nat.zero_le _⟩) ?_
        refine lv_nm (y := bI (sd_ld n a (fun w => sd_br Y Z q w == 0) ab (uN td) i (sd_ac (sd_ld n a (fun w => sd_br Y Z q w == 0) ab (uN td)) i))) (congrArg bI (if_pos h1).symm) ?_
        refine lv_goto (tgt := 60) hx hb dX2_led_51 rfl ?_
        exact mk9
    refine lv_istore hx hb dX2_led_60 hl (by decide) rfl (fun ls hl => ?_)
    have hl : lv_has ls 7 [(5, .int (bI (sd_ld n a (fun w => sd_br Y Z q w == 0) ab (uN td) i (sd_ac (sd_ld n a (fun w => sd_br Y Z q w == 0) ab (uN td)) i)))), (0, .ref om), (1, .int (nI j)), (2, .int (bI ab)), (3, .int td), (4, .int (nI (sd_pos i (sd_ac (sd_ld n a (fun w => sd_br Y Z q w == 0) ab (uN td)) i)))), (6, .int (nI i))] := hl
    refine lv_iconst (v := nI 2) hx hb dX2_led_62 (by decide) ?_
    refine lv_iload hx hb dX2_led_63 (lv_at hl 5 rfl) ?_
    refine lv_imul hx hb dX2_led_65 ?_
    refine lv_nm (y := nI (2 * (sd_pos i (sd_ac (sd_ld n a (fun w => sd_br Y Z q w == 0) ab (uN td)) i)))) (pk_mul _ _) ?_
    refine lv_iload hx hb dX2_led_66 (lv_at hl 0 rfl) ?_
    refine lv_iadd hx hb dX2_led_68 ?_
    refine lv_nm (y := nI (sd_pos (i + 1) (sd_ac (sd_ld n a (fun w => sd_br Y Z q w == 0) ab (uN td)) (i + 1)))) (by rw [bI_nI, nI_add, sd_pos_ac]) ?_
    refine lv_istore hx hb dX2_led_69 hl (by decide) rfl (fun ls hl => ?_)
    have hl : lv_has ls 7 [(4, .int (nI (sd_pos (i + 1) (sd_ac (sd_ld n a (fun w => sd_br Y Z q w == 0) ab (uN td)) (i + 1))))), (5, .int (bI (sd_ld n a (fun w => sd_br Y Z q w == 0) ab (uN td) i (sd_ac (sd_ld n a (fun w => sd_br Y Z q w == 0) ab (uN td)) i)))), (0, .ref om), (1, .int (nI j)), (2, .int (bI ab)), (3, .int td), (6, .int (nI i))] := hl
    refine lv_iinc (k := 6) (v := nI (i + 1)) hx hb dX2_led_71 hl rfl (hw_inc _) (by decide) rfl (fun ls hl => ?_)
    have hl : lv_has ls 7 [(6, .int (nI (i + 1))), (4, .int (nI (sd_pos (i + 1) (sd_ac (sd_ld n a (fun w => sd_br Y Z q w == 0) ab (uN td)) (i + 1))))), (5, .int (bI (sd_ld n a (fun w => sd_br Y Z q w == 0) ab (uN td) i (sd_ac (sd_ld n a (fun w => sd_br Y Z q w == 0) ab (uN td)) i)))), (0, .ref om), (1, .int (nI j)), (2, .int (bI ab)), (3, .int td)] := hl
    refine lv_goto (tgt := 27) hx hb dX2_led_74 rfl ?_
    have hl : lv_has ls 7 [(0, .ref om), (1, .int (nI j)), (2, .int (bI ab)), (3, .int td), (4, .int (nI (sd_pos (i + 1) (sd_ac (sd_ld n a (fun w => sd_br Y Z q w == 0) ab (uN td)) (i + 1))))), (5, .int (bI (sd_ld n a (fun w => sd_br Y Z q w == 0) ab (uN td) i (sd_ac (sd_ld n a (fun w => sd_br Y Z q w == 0) ab (uN td)) i)))), (6, .int (nI (i + 1)))] := lv_sub hl [3, 4, 5, 6, 1, 2, 0] rfl
    exact ih (i + 1) (sd_ld n a (fun w => sd_br Y Z q w == 0) ab (uN td) i (sd_ac (sd_ld n a (fun w => sd_br Y Z q w == 0) ab (uN td)) i)) ls H locs (by omega) (fun h9 => by obtain rfl : i = j := (by omega); rfl) hl hP hS

set_option maxHeartbeats 4000000 in
set_option maxRecDepth 100000 in
theorem m_reply_no (l : Launch) (D : va_G) (cI cZ : ClassId) (om my mz mv mt n a q d v u1 u2 : Nat) (kn mr : Bool) (sk : Int32) (Y Z : Nat → Nat) (T : Nat → Int32) (wn : Nat → Bool) (ok : dOk n a q d v Y Z) (x td : Int32) (hno : ¬ uN x < n) : Met l yX2_reply (kX2_reply :: aW) { frames := 5, cells := 0, slots := 0, locals := 113 } (rPre [.ref om, .int x, .int td] D [(om, .inr (2, [.int (nI n), .int (nI a), .int (nI q), .ref my, .ref mz, .int (bI kn), .int sk, .int (bI mr), .int (nI u1), .int (nI u2), .ref mv, .int (nI (sd_pos d v)), .int (nI d), .ref mt])), (my, .inl (cI, 24, .inl (fun jq => nI (Y jq)))), (mz, .inl (cI, 24, .inl (fun jq => nI (Z jq)))), (mv, .inl (cZ, 2048, .inl (fun jq => bI (wn jq)))), (mt, .inl (cI, 10, .inl T))] [(cI, .int), (cZ, .boolean)]) (QcRead (-1)) 0 0 (fun _ => False) := by
  obtain ⟨hn1, hn, ha, h5, hq, hY, hZ, hd, hv⟩ := id ok
  have h2n := hw_p10 hn
  refine Met.ofW (cc := cX2_reply) (maxL := 3) (ret := (some .int)) (by decide) rfl ?_
  intro p e s m args below meth c s₁ Bo hml hpre
  obtain ⟨rfl, hP, hK, hN⟩ := hpre
  have hx := Bo.exec
  have hb := Bo.bytes
  have hr := Bo.returns
  have hts := atoms_spec (ws := kX2_reply :: aW) Bo.pre
  have ht : ∀ w ∈ aW, w.before _ s = true := fun w h => hts w (List.mem_cons_of_mem _ h)
  have hown : s.vm.findClass RX2 = some m.cls := findClass_of_methodNamed Bo.named
  have hlocks := Bo.notSynchronized
  have hP : va_P D clS [(om, .inr (2, [.int (nI n), .int (nI a), .int (nI q), .ref my, .ref mz, .int (bI kn), .int sk, .int (bI mr), .int (nI u1), .int (nI u2), .ref mv, .int (nI (sd_pos d v)), .int (nI d), .ref mt])), (my, .inl (cI, 24, .inl (fun jq => nI (Y jq)))), (mz, .inl (cI, 24, .inl (fun jq => nI (Z jq)))), (mv, .inl (cZ, 2048, .inl (fun jq => bI (wn jq)))), (mt, .inl (cI, 10, .inl T))] s.heap := hP
  have hl := lv_entry ([.ref om, .int x, .int td]) (n := 3) (Nat.le_of_ble_eq_true rfl)
  rw [lg_entry_eq]
  generalize (lg_sl ([.ref om, .int x, .int td]) ++ List.replicate (3 - (lg_sl ([.ref om, .int x, .int td])).length) Slot.unset).toArray = ls at hl ⊢
  have hl : lv_has ls 3 [(0, .ref om), (1, .int x), (2, .int td)] := hl
  refine lv_aload_n hx hb dX2_reply_0 rfl (lv_at hl 0 rfl) ?_
  refine lv_iload_n hx hb dX2_reply_1 rfl (lv_at hl 1 rfl) ?_
  refine lv_iconst (v := nI 0) hx hb dX2_reply_2 (by decide) ?_
  refine lv_nm (y := bI false) (hw_0) ?_
  refine lv_iload_n hx hb dX2_reply_3 rfl (lv_at hl 2 rfl) ?_
  refine hw_callR (va_runV (b := om) (As := [.int x, .int (bI false), .int td]) (rest := []) ⟨hx, hb, hml, hown, ht⟩ (m_led_no l D cI cZ om my mz mv mt n a q d v u1 u2 kn mr sk Y Z T wn ok x td false hno) (cwV 3 ht (gV wm_X2_X2_led wi_X2_led ws_X2_led wn_X2 wc_X2_led) rfl rfl rfl (by decide +kernel) ⟨Nat.le_of_ble_eq_true rfl, Nat.le_of_ble_eq_true rfl⟩) (rPre_V 0 hP hK hN rfl rfl) rfl rfl hl.1 rfl (lv_room (Nat.le_of_ble_eq_true rfl)) dX2_reply_4 ⟨Nat.zero_le _, Nat.zero_le _⟩) ?_
  exact W.iret hx hb hr (fun t ht2 _ => ⟨hw_ret (rfl), ht2⟩) (fun _ h => by cases h) dX2_reply_7

set_option maxHeartbeats 4000000 in
set_option maxRecDepth 100000 in
theorem m_reply (l : Launch) (D : va_G) (cI cZ : ClassId) (om my mz mv mt n a q d v u1 u2 : Nat) (kn mr : Bool) (sk : Int32) (Y Z : Nat → Nat) (T : Nat → Int32) (wn : Nat → Bool) (ok : dOk n a q d v Y Z) (sz : Nat) (mk : mOk n kn wn (sd_wn n a (fun w => sd_br Y Z q w == 0))) (hu1 : u1 < 2 ^ n) (hu2 : u2 < 2 ^ n) (j : Nat) (td : Int32) (hj : j < n) : Met l yX2_reply (kX2_reply :: aW) { frames := 5, cells := 0, slots := 0, locals := 113 } (wPre [.ref om, .int (nI j), .int td] D [(om, .inr (2, [.int (nI n), .int (nI a), .int (nI q), .ref my, .ref mz, .int (bI kn), .int sk, .int (bI mr), .int (nI u1), .int (nI u2), .ref mv, .int (nI (sd_pos d v)), .int (nI d), .ref mt])), (my, .inl (cI, 24, .inl (fun jq => nI (Y jq)))), (mz, .inl (cI, 24, .inl (fun jq => nI (Z jq)))), (mv, .inl (cZ, 2048, .inl (fun jq => bI (wn jq)))), (mt, .inl (cI, 10, .inl T))] [(cI, .int), (cZ, .boolean)] sz) (wQ (some (.int (bI (sd_ld n a (fun w => sd_br Y Z q w == 0) false (uN td) j (sd_ac (sd_ld n a (fun w => sd_br Y Z q w == 0) false (uN td)) j))))) D [(om, .inr (2, [.int (nI n), .int (nI a), .int (nI q), .ref my, .ref mz, .int (bI true), .int (if kn = true then sk else -1), .int (bI (kn && mr)), .int (nI u1), .int (nI u2), .ref mv, .int (nI (sd_pos d v)), .int (nI d), .ref mt])), (my, .inl (cI, 24, .inl (fun jq => nI (Y jq)))), (mz, .inl (cI, 24, .inl (fun jq => nI (Z jq)))), (mv, .inl (cZ, 2048, .inl (fun jq => bI ((sd_wn n a (fun w => sd_br Y Z q w == 0)) jq)))), (mt, .inl (cI, 10, .inl T))] (va_A [(om, .inr (2, [.int (nI n), .int (nI a), .int (nI q), .ref my, .ref mz, .int (bI kn), .int sk, .int (bI mr), .int (nI u1), .int (nI u2), .ref mv, .int (nI (sd_pos d v)), .int (nI d), .ref mt])), (my, .inl (cI, 24, .inl (fun jq => nI (Y jq)))), (mz, .inl (cI, 24, .inl (fun jq => nI (Z jq)))), (mv, .inl (cZ, 2048, .inl (fun jq => bI (wn jq)))), (mt, .inl (cI, 10, .inl T))] sz)) 0 0 (va_A [(om, .inr (2, [.int (nI n), .int (nI a), .int (nI q), .ref my, .ref mz, .int (bI kn), .int sk, .int (bI mr), .int (nI u1), .int (nI u2), .ref mv, .int (nI (sd_pos d v)), .int (nI d), .ref mt])), (my, .inl (cI, 24, .inl (fun jq => nI (Y jq)))), (mz, .inl (cI, 24, .inl (fun jq => nI (Z jq)))), (mv, .inl (cZ, 2048, .inl (fun jq => bI (wn jq)))), (mt, .inl (cI, 10, .inl T))] sz) := by
  obtain ⟨hn1, hn, ha, h5, hq, hY, hZ, hd, hv⟩ := id ok
  have h2n := hw_p10 hn
  refine Met.ofW (cc := cX2_reply) (maxL := 3) (ret := (some .int)) (by decide) rfl ?_
  intro p e s m args below meth c s₁ Bo hml hpre
  obtain ⟨rfl, hsz, hP, hK, hN, hD0⟩ := hpre
  subst hsz
  have hD := hD0.self (sz := s.heap.size)
  generalize hAe : va_A [(om, .inr (2, [.int (nI n), .int (nI a), .int (nI q), .ref my, .ref mz, .int (bI kn), .int sk, .int (bI mr), .int (nI u1), .int (nI u2), .ref mv, .int (nI (sd_pos d v)), .int (nI d), .ref mt])), (my, .inl (cI, 24, .inl (fun jq => nI (Y jq)))), (mz, .inl (cI, 24, .inl (fun jq => nI (Z jq)))), (mv, .inl (cZ, 2048, .inl (fun jq => bI (wn jq)))), (mt, .inl (cI, 10, .inl T))] s.heap.size = A at hD ⊢
  have hA : ∀ q : Nat, s.heap.size ≤ q → A q := fun q h => by rw [← hAe]; exact Or.inr h
  have hS : va_S A s.heap s.heap [] := va_S.rf
  have hx := Bo.exec
  have hb := Bo.bytes
  have hr := Bo.returns
  have hts := atoms_spec (ws := kX2_reply :: aW) Bo.pre
  have ht : ∀ w ∈ aW, w.before _ s = true := fun w h => hts w (List.mem_cons_of_mem _ h)
  have hown : s.vm.findClass RX2 = some m.cls := findClass_of_methodNamed Bo.named
  have hlocks := Bo.notSynchronized
  have hP : va_P D clS [(om, .inr (2, [.int (nI n), .int (nI a), .int (nI q), .ref my, .ref mz, .int (bI kn), .int sk, .int (bI mr), .int (nI u1), .int (nI u2), .ref mv, .int (nI (sd_pos d v)), .int (nI d), .ref mt])), (my, .inl (cI, 24, .inl (fun jq => nI (Y jq)))), (mz, .inl (cI, 24, .inl (fun jq => nI (Z jq)))), (mv, .inl (cZ, 2048, .inl (fun jq => bI (wn jq)))), (mt, .inl (cI, 10, .inl T))] s.heap := hP
  have hl := lv_entry ([.ref om, .int (nI j), .int td]) (n := 3) (Nat.le_of_ble_eq_true rfl)
  rw [lg_entry_eq]
  generalize (lg_sl ([.ref om, .int (nI j), .int td]) ++ List.replicate (3 - (lg_sl ([.ref om, .int (nI j), .int td])).length) Slot.unset).toArray = ls at hl ⊢
  have hl : lv_has ls 3 [(0, .ref om), (1, .int (nI j)), (2, .int td)] := hl
  refine lv_aload_n hx hb dX2_reply_0 rfl (lv_at hl 0 rfl) ?_
  refine lv_iload_n hx hb dX2_reply_1 rfl (lv_at hl 1 rfl) ?_
  refine lv_iconst (v := nI 0) hx hb dX2_reply_2 (by decide) ?_
  refine lv_nm (y := bI false) (hw_0) ?_
  refine lv_iload_n hx hb dX2_reply_3 rfl (lv_at hl 2 rfl) ?_
  refine hw_callW (ws' := [(om, .inr (2, [.int (nI n), .int (nI a), .int (nI q), .ref my, .ref mz, .int (bI true), .int (if kn = true then sk else -1), .int (bI (kn && mr)), .int (nI u1), .int (nI u2), .ref mv, .int (nI (sd_pos d v)), .int (nI d), .ref mt])), (my, .inl (cI, 24, .inl (fun jq => nI (Y jq)))), (mz, .inl (cI, 24, .inl (fun jq => nI (Z jq)))), (mv, .inl (cZ, 2048, .inl (fun jq => bI ((sd_wn n a (fun w => sd_br Y Z q w == 0)) jq)))), (mt, .inl (cI, 10, .inl T))]) (va_runV (b := om) (As := [.int (nI j), .int (bI false), .int td]) (rest := []) ⟨hx, hb, hml, hown, ht⟩ (m_led l D cI cZ om my mz mv mt n a q d v u1 u2 kn mr sk Y Z T wn ok s.heap.size mk hu1 hu2 j false td hj) (cwV 3 ht (gV wm_X2_X2_led wi_X2_led ws_X2_led wn_X2 wc_X2_led) rfl rfl rfl (by decide +kernel) ⟨Nat.le_of_ble_eq_true rfl, Nat.le_of_ble_eq_true rfl⟩) (wPre_V 0 hP hD hK hN rfl rfl) rfl rfl hl.1 rfl (lv_room (Nat.le_of_ble_eq_true rfl)) dX2_reply_4 ⟨Nat.zero_le _, Nat.zero_le _⟩) hD hS hA rfl (fun H locs hP hD hS => ?_)
  have hP : va_P D clS [(om, .inr (2, [.int (nI n), .int (nI a), .int (nI q), .ref my, .ref mz, .int (bI true), .int (if kn = true then sk else -1), .int (bI (kn && mr)), .int (nI u1), .int (nI u2), .ref mv, .int (nI (sd_pos d v)), .int (nI d), .ref mt])), (my, .inl (cI, 24, .inl (fun jq => nI (Y jq)))), (mz, .inl (cI, 24, .inl (fun jq => nI (Z jq)))), (mv, .inl (cZ, 2048, .inl (fun jq => bI ((sd_wn n a (fun w => sd_br Y Z q w == 0)) jq)))), (mt, .inl (cI, 10, .inl T))] H := hP
  have hD : va_D A [(om, .inr (2, [.int (nI n), .int (nI a), .int (nI q), .ref my, .ref mz, .int (bI true), .int (if kn = true then sk else -1), .int (bI (kn && mr)), .int (nI u1), .int (nI u2), .ref mv, .int (nI (sd_pos d v)), .int (nI d), .ref mt])), (my, .inl (cI, 24, .inl (fun jq => nI (Y jq)))), (mz, .inl (cI, 24, .inl (fun jq => nI (Z jq)))), (mv, .inl (cZ, 2048, .inl (fun jq => bI ((sd_wn n a (fun w => sd_br Y Z q w == 0)) jq)))), (mt, .inl (cI, 10, .inl T))] := hD
  refine W.eq (g2 := F0 m 7 ls [.int (bI (sd_ld n a (fun w => sd_br Y Z q w == 0) false (uN td) j (sd_ac (sd_ld n a (fun w => sd_br Y Z q w == 0) false (uN td)) j)))]) rfl ?_
  exact W.iret hx hb hr (fun t ht2 _ => ⟨hw_ret (rfl), by rw [ht2]; exact hP, hS.F ht2⟩) hS.2.2 dX2_reply_7

set_option maxHeartbeats 4000000 in
set_option maxRecDepth 100000 in
theorem m_answer_no (l : Launch) (D : va_G) (cI cZ : ClassId) (om my mz mv mt n a q d v u1 u2 : Nat) (kn mr : Bool) (sk : Int32) (Y Z : Nat → Nat) (T : Nat → Int32) (wn : Nat → Bool) (ok : dOk n a q d v Y Z) (x td : Int32) (hno : ¬ uN x < n) : Met l yX2_answer (kX2_answer :: aW) { frames := 5, cells := 0, slots := 0, locals := 113 } (rPre [.ref om, .int x, .int td] D [(om, .inr (2, [.int (nI n), .int (nI a), .int (nI q), .ref my, .ref mz, .int (bI kn), .int sk, .int (bI mr), .int (nI u1), .int (nI u2), .ref mv, .int (nI (sd_pos d v)), .int (nI d), .ref mt])), (my, .inl (cI, 24, .inl (fun jq => nI (Y jq)))), (mz, .inl (cI, 24, .inl (fun jq => nI (Z jq)))), (mv, .inl (cZ, 2048, .inl (fun jq => bI (wn jq)))), (mt, .inl (cI, 10, .inl T))] [(cI, .int), (cZ, .boolean)]) (QcRead (-1)) 0 0 (fun _ => False) := by
  obtain ⟨hn1, hn, ha, h5, hq, hY, hZ, hd, hv⟩ := id ok
  have h2n := hw_p10 hn
  refine Met.ofW (cc := cX2_answer) (maxL := 3) (ret := (some .int)) (by decide) rfl ?_
  intro p e s m args below meth c s₁ Bo hml hpre
  obtain ⟨rfl, hP, hK, hN⟩ := hpre
  have hx := Bo.exec
  have hb := Bo.bytes
  have hr := Bo.returns
  have hts := atoms_spec (ws := kX2_answer :: aW) Bo.pre
  have ht : ∀ w ∈ aW, w.before _ s = true := fun w h => hts w (List.mem_cons_of_mem _ h)
  have hown : s.vm.findClass RX2 = some m.cls := findClass_of_methodNamed Bo.named
  have hlocks := Bo.notSynchronized
  have hP : va_P D clS [(om, .inr (2, [.int (nI n), .int (nI a), .int (nI q), .ref my, .ref mz, .int (bI kn), .int sk, .int (bI mr), .int (nI u1), .int (nI u2), .ref mv, .int (nI (sd_pos d v)), .int (nI d), .ref mt])), (my, .inl (cI, 24, .inl (fun jq => nI (Y jq)))), (mz, .inl (cI, 24, .inl (fun jq => nI (Z jq)))), (mv, .inl (cZ, 2048, .inl (fun jq => bI (wn jq)))), (mt, .inl (cI, 10, .inl T))] s.heap := hP
  have hl := lv_entry ([.ref om, .int x, .int td]) (n := 3) (Nat.le_of_ble_eq_true rfl)
  rw [lg_entry_eq]
  generalize (lg_sl ([.ref om, .int x, .int td]) ++ List.replicate (3 - (lg_sl ([.ref om, .int x, .int td])).length) Slot.unset).toArray = ls at hl ⊢
  have hl : lv_has ls 3 [(0, .ref om), (1, .int x), (2, .int td)] := hl
  refine lv_aload_n hx hb dX2_answer_0 rfl (lv_at hl 0 rfl) ?_
  refine lv_iload_n hx hb dX2_answer_1 rfl (lv_at hl 1 rfl) ?_
  refine lv_iconst (v := nI 1) hx hb dX2_answer_2 (by decide) ?_
  refine lv_nm (y := bI true) (hw_1) ?_
  refine lv_iload_n hx hb dX2_answer_3 rfl (lv_at hl 2 rfl) ?_
  refine hw_callR (va_runV (b := om) (As := [.int x, .int (bI true), .int td]) (rest := []) ⟨hx, hb, hml, hown, ht⟩ (m_led_no l D cI cZ om my mz mv mt n a q d v u1 u2 kn mr sk Y Z T wn ok x td true hno) (cwV 3 ht (gV wm_X2_X2_led wi_X2_led ws_X2_led wn_X2 wc_X2_led) rfl rfl rfl (by decide +kernel) ⟨Nat.le_of_ble_eq_true rfl, Nat.le_of_ble_eq_true rfl⟩) (rPre_V 0 hP hK hN rfl rfl) rfl rfl hl.1 rfl (lv_room (Nat.le_of_ble_eq_true rfl)) dX2_answer_4 ⟨Nat.zero_le _, Nat.zero_le _⟩) ?_
  exact W.iret hx hb hr (fun t ht2 _ => ⟨hw_ret (rfl), ht2⟩) (fun _ h => by cases h) dX2_answer_7

set_option maxHeartbeats 4000000 in
set_option maxRecDepth 100000 in
theorem m_answer (l : Launch) (D : va_G) (cI cZ : ClassId) (om my mz mv mt n a q d v u1 u2 : Nat) (kn mr : Bool) (sk : Int32) (Y Z : Nat → Nat) (T : Nat → Int32) (wn : Nat → Bool) (ok : dOk n a q d v Y Z) (sz : Nat) (mk : mOk n kn wn (sd_wn n a (fun w => sd_br Y Z q w == 0))) (hu1 : u1 < 2 ^ n) (hu2 : u2 < 2 ^ n) (j : Nat) (td : Int32) (hj : j < n) : Met l yX2_answer (kX2_answer :: aW) { frames := 5, cells := 0, slots := 0, locals := 113 } (wPre [.ref om, .int (nI j), .int td] D [(om, .inr (2, [.int (nI n), .int (nI a), .int (nI q), .ref my, .ref mz, .int (bI kn), .int sk, .int (bI mr), .int (nI u1), .int (nI u2), .ref mv, .int (nI (sd_pos d v)), .int (nI d), .ref mt])), (my, .inl (cI, 24, .inl (fun jq => nI (Y jq)))), (mz, .inl (cI, 24, .inl (fun jq => nI (Z jq)))), (mv, .inl (cZ, 2048, .inl (fun jq => bI (wn jq)))), (mt, .inl (cI, 10, .inl T))] [(cI, .int), (cZ, .boolean)] sz) (wQ (some (.int (bI (sd_ld n a (fun w => sd_br Y Z q w == 0) true (uN td) j (sd_ac (sd_ld n a (fun w => sd_br Y Z q w == 0) true (uN td)) j))))) D [(om, .inr (2, [.int (nI n), .int (nI a), .int (nI q), .ref my, .ref mz, .int (bI true), .int (if kn = true then sk else -1), .int (bI (kn && mr)), .int (nI u1), .int (nI u2), .ref mv, .int (nI (sd_pos d v)), .int (nI d), .ref mt])), (my, .inl (cI, 24, .inl (fun jq => nI (Y jq)))), (mz, .inl (cI, 24, .inl (fun jq => nI (Z jq)))), (mv, .inl (cZ, 2048, .inl (fun jq => bI ((sd_wn n a (fun w => sd_br Y Z q w == 0)) jq)))), (mt, .inl (cI, 10, .inl T))] (va_A [(om, .inr (2, [.int (nI n), .int (nI a), .int (nI q), .ref my, .ref mz, .int (bI kn), .int sk, .int (bI mr), .int (nI u1), .int (nI u2), .ref mv, .int (nI (sd_pos d v)), .int (nI d), .ref mt])), (my, .inl (cI, 24, .inl (fun jq => nI (Y jq)))), (mz, .inl (cI, 24, .inl (fun jq => nI (Z jq)))), (mv, .inl (cZ, 2048, .inl (fun jq => bI (wn jq)))), (mt, .inl (cI, 10, .inl T))] sz)) 0 0 (va_A [(om, .inr (2, [.int (nI n), .int (nI a), .int (nI q), .ref my, .ref mz, .int (bI kn), .int sk, .int (bI mr), .int (nI u1), .int (nI u2), .ref mv, .int (nI (sd_pos d v)), .int (nI d), .ref mt])), (my, .inl (cI, 24, .inl (fun jq => nI (Y jq)))), (mz, .inl (cI, 24, .inl (fun jq => nI (Z jq)))), (mv, .inl (cZ, 2048, .inl (fun jq => bI (wn jq)))), (mt, .inl (cI, 10, .inl T))] sz) := by
  obtain ⟨hn1, hn, ha, h5, hq, hY, hZ, hd, hv⟩ := id ok
  have h2n := hw_p10 hn
  refine Met.ofW (cc := cX2_answer) (maxL := 3) (ret := (some .int)) (by decide) rfl ?_
  intro p e s m args below meth c s₁ Bo hml hpre
  obtain ⟨rfl, hsz, hP, hK, hN, hD0⟩ := hpre
  subst hsz
  have hD := hD0.self (sz := s.heap.size)
  generalize hAe : va_A [(om, .inr (2, [.int (nI n), .int (nI a), .int (nI q), .ref my, .ref mz, .int (bI kn), .int sk, .int (bI mr), .int (nI u1), .int (nI u2), .ref mv, .int (nI (sd_pos d v)), .int (nI d), .ref mt])), (my, .inl (cI, 24, .inl (fun jq => nI (Y jq)))), (mz, .inl (cI, 24, .inl (fun jq => nI (Z jq)))), (mv, .inl (cZ, 2048, .inl (fun jq => bI (wn jq)))), (mt, .inl (cI, 10, .inl T))] s.heap.size = A at hD ⊢
  have hA : ∀ q : Nat, s.heap.size ≤ q → A q := fun q h => by rw [← hAe]; exact Or.inr h
  have hS : va_S A s.heap s.heap [] := va_S.rf
  have hx := Bo.exec
  have hb := Bo.bytes
  have hr := Bo.returns
  have hts := atoms_spec (ws := kX2_answer :: aW) Bo.pre
  have ht : ∀ w ∈ aW, w.before _ s = true := fun w h => hts w (List.mem_cons_of_mem _ h)
  have hown : s.vm.findClass RX2 = some m.cls := findClass_of_methodNamed Bo.named
  have hlocks := Bo.notSynchronized
  have hP : va_P D clS [(om, .inr (2, [.int (nI n), .int (nI a), .int (nI q), .ref my, .ref mz, .int (bI kn), .int sk, .int (bI mr), .int (nI u1), .int (nI u2), .ref mv, .int (nI (sd_pos d v)), .int (nI d), .ref mt])), (my, .inl (cI, 24, .inl (fun jq => nI (Y jq)))), (mz, .inl (cI, 24, .inl (fun jq => nI (Z jq)))), (mv, .inl (cZ, 2048, .inl (fun jq => bI (wn jq)))), (mt, .inl (cI, 10, .inl T))] s.heap := hP
  have hl := lv_entry ([.ref om, .int (nI j), .int td]) (n := 3) (Nat.le_of_ble_eq_true rfl)
  rw [lg_entry_eq]
  generalize (lg_sl ([.ref om, .int (nI j), .int td]) ++ List.replicate (3 - (lg_sl ([.ref om, .int (nI j), .int td])).length) Slot.unset).toArray = ls at hl ⊢
  have hl : lv_has ls 3 [(0, .ref om), (1, .int (nI j)), (2, .int td)] := hl
  refine lv_aload_n hx hb dX2_answer_0 rfl (lv_at hl 0 rfl) ?_
  refine lv_iload_n hx hb dX2_answer_1 rfl (lv_at hl 1 rfl) ?_
  refine lv_iconst (v := nI 1) hx hb dX2_answer_2 (by decide) ?_
  refine lv_nm (y := bI true) (hw_1) ?_
  refine lv_iload_n hx hb dX2_answer_3 rfl (lv_at hl 2 rfl) ?_
  refine hw_callW (ws' := [(om, .inr (2, [.int (nI n), .int (nI a), .int (nI q), .ref my, .ref mz, .int (bI true), .int (if kn = true then sk else -1), .int (bI (kn && mr)), .int (nI u1), .int (nI u2), .ref mv, .int (nI (sd_pos d v)), .int (nI d), .ref mt])), (my, .inl (cI, 24, .inl (fun jq => nI (Y jq)))), (mz, .inl (cI, 24, .inl (fun jq => nI (Z jq)))), (mv, .inl (cZ, 2048, .inl (fun jq => bI ((sd_wn n a (fun w => sd_br Y Z q w == 0)) jq)))), (mt, .inl (cI, 10, .inl T))]) (va_runV (b := om) (As := [.int (nI j), .int (bI true), .int td]) (rest := []) ⟨hx, hb, hml, hown, ht⟩ (m_led l D cI cZ om my mz mv mt n a q d v u1 u2 kn mr sk Y Z T wn ok s.heap.size mk hu1 hu2 j true td hj) (cwV 3 ht (gV wm_X2_X2_led wi_X2_led ws_X2_led wn_X2 wc_X2_led) rfl rfl rfl (by decide +kernel) ⟨Nat.le_of_ble_eq_true rfl, Nat.le_of_ble_eq_true rfl⟩) (wPre_V 0 hP hD hK hN rfl rfl) rfl rfl hl.1 rfl (lv_room (Nat.le_of_ble_eq_true rfl)) dX2_answer_4 ⟨Nat.zero_le _, Nat.zero_le _⟩) hD hS hA rfl (fun H locs hP hD hS => ?_)
  have hP : va_P D clS [(om, .inr (2, [.int (nI n), .int (nI a), .int (nI q), .ref my, .ref mz, .int (bI true), .int (if kn = true then sk else -1), .int (bI (kn && mr)), .int (nI u1), .int (nI u2), .ref mv, .int (nI (sd_pos d v)), .int (nI d), .ref mt])), (my, .inl (cI, 24, .inl (fun jq => nI (Y jq)))), (mz, .inl (cI, 24, .inl (fun jq => nI (Z jq)))), (mv, .inl (cZ, 2048, .inl (fun jq => bI ((sd_wn n a (fun w => sd_br Y Z q w == 0)) jq)))), (mt, .inl (cI, 10, .inl T))] H := hP
  have hD : va_D A [(om, .inr (2, [.int (nI n), .int (nI a), .int (nI q), .ref my, .ref mz, .int (bI true), .int (if kn = true then sk else -1), .int (bI (kn && mr)), .int (nI u1), .int (nI u2), .ref mv, .int (nI (sd_pos d v)), .int (nI d), .ref mt])), (my, .inl (cI, 24, .inl (fun jq => nI (Y jq)))), (mz, .inl (cI, 24, .inl (fun jq => nI (Z jq)))), (mv, .inl (cZ, 2048, .inl (fun jq => bI ((sd_wn n a (fun w => sd_br Y Z q w == 0)) jq)))), (mt, .inl (cI, 10, .inl T))] := hD
  refine W.eq (g2 := F0 m 7 ls [.int (bI (sd_ld n a (fun w => sd_br Y Z q w == 0) true (uN td) j (sd_ac (sd_ld n a (fun w => sd_br Y Z q w == 0) true (uN td)) j)))]) rfl ?_
  exact W.iret hx hb hr (fun t ht2 _ => ⟨hw_ret (rfl), by rw [ht2]; exact hP, hS.F ht2⟩) hS.2.2 dX2_answer_7
