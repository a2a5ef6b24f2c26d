/-! The law from its entry. -/
theorem lw_K {s : State} {args : Array Value} (ht : ∀ w ∈ aW, w.before args s = true) : ∃ (D : va_G) (cI cZ : ClassId), va_K D clS [(cI, .int), (cZ, .boolean)] s := by
  obtain ⟨c0, i0, k0⟩ := u_known ht inX0 (ht _ wk_X0)
  obtain ⟨c1, i1, k1⟩ := u_known ht inX1 (ht _ wk_X1)
  obtain ⟨c2, i2, k2⟩ := u_known ht inX2 (ht _ wk_X2)
  obtain ⟨cI, kA, comp, hf, hk, hkind⟩ := Cond.arrayClass_spec (ht _ wa_int)
  obtain ⟨cZ, kB, comp2, hf2, hk2, hkind2⟩ := Cond.arrayClass_spec (ht _ wa_boolean)
  refine ⟨(fun k => match k with | 0 => c0 | 1 => c1 | _ => c2, fun k => match k with | 0 => i0 | 1 => i1 | _ => i2), cI, cZ, ?_, ?_⟩
  · intro j q hq
    match j, hq with
    | 0, hq => cases hq; exact k0
    | 1, hq => cases hq; exact k1
    | 2, hq => cases hq; exact k2
    | j + 3, hq => cases hq
  · intro j q hq
    match j, hq with
    | 0, hq => cases hq; exact ⟨fun n z => ⟨fun k h => (by cases h), kA, hk, comp, hkind⟩, hf⟩
    | 1, hq => cases hq; exact ⟨fun n z => ⟨fun k h => (by cases h), kB, hk2, comp2, hkind2⟩, hf2⟩
    | j + 2, hq => cases hq

set_option maxHeartbeats 4000000 in
set_option maxRecDepth 100000 in
theorem whole_start {p : Program} {e : Env} {s : State} {m : MethodId} {below : List Frame} {meth : Method} {c : Code} (l : Launch) {b L : Nat} {xs : Nat → Int32} (hL : L ≤ 1538) (C0 : lw_At p s m meth c b L xs) : W p l e room_1 s m #[Value.ref b] below meth c s.heap [] 0 0 (lw_Z below #[Value.ref b] s) (entryFrame m ([Value.ref b] : List Value).toArray 4) := by
  obtain ⟨hx, hb, hr, hml, hown, hts, hX, hbl, hlocks, hgv⟩ := C0
  have ht : ∀ w ∈ aW, w.before #[Value.ref b] s = true := fun w h => hts w (aW_in w h)
  have hown : s.vm.findClass RL = some m.cls := hown
  have hN : nst s := va_Nw.of rfl (hts _ nstW_in)
  obtain ⟨D, cI, cZ, hK⟩ := lw_K ht
  have hbA : ¬ (fun z => s.heap.size ≤ z) b := Nat.not_le.mpr hbl
  have hA : ∀ z, s.heap.size ≤ z → (fun z => s.heap.size ≤ z) z := fun _ h => h
  have hS : va_S (fun z => s.heap.size ≤ z) s.heap s.heap [] := va_S.rf
  have hP : va_P D clS [] s.heap := fun k q h => by cases h
  have hD : va_D (fun z => s.heap.size ≤ z) [] := ⟨fun i j p q h => (by cases h), fun k q h => (by cases h)⟩
  have hl := lv_entry ([.ref b]) (n := 4) (Nat.le_of_ble_eq_true rfl)
  rw [lg_entry_eq]
  generalize (lg_sl ([.ref b]) ++ List.replicate (4 - (lg_sl ([.ref b])).length) Slot.unset).toArray = ls at hl ⊢
  have hl : lv_has ls 4 [(0, .ref b)] := hl
  obtain ⟨x0, hx0⟩ : ∃ x0 : Int32, (if 0 < L then xs 0 else 0) = x0 := ⟨_, rfl⟩
  obtain ⟨x1, hx1⟩ : ∃ x1 : Int32, (if 1 < L then xs 1 else 0) = x1 := ⟨_, rfl⟩
  obtain ⟨n, hne⟩ : ∃ n, n = sd_n x0 := ⟨_, rfl⟩
  obtain ⟨a, hae⟩ : ∃ a, a = (sd_kk (uN x1) n).1 := ⟨_, rfl⟩
  have hn1 : 1 ≤ n := by rw [hne]; exact (sd_n_b x0).1
  have hn : n ≤ 10 := by rw [hne]; exact (sd_n_b x0).2
  have ha : a < 2 ^ n := by rw [hae]; exact sd_kk_lt _ n
  have h5 : sd_ct a n ≤ 5 := by rw [hae]; exact sd_A5 _ n
  refine va_new (ci := 1) (fs := [.int (nI 0), .int (nI 0), .int (nI 0), .null, .null, .null, .int (nI 0), .int (nI 0), .int (nI 0), .null]) (C := RX1) (T := TX1) (N := 10) hx hb ht inX1 tyX1 tyX1_ok hown (ht _ wl_L_X1) (ht _ wk_X1) (ht _ wn_X1) hK hP hD hS hA rfl (fun j hj => by match j, hj with | 0, _ => rfl | 1, _ => rfl | 2, _ => rfl | 3, _ => rfl | 4, _ => rfl | 5, _ => rfl | 6, _ => rfl | 7, _ => rfl | 8, _ => rfl | 9, _ => rfl | t + 10, h => omega) (Nat.le_of_ble_eq_true rfl) (Nat.le_of_ble_eq_true rfl) dL_law_0 (fun od H hP hD hS => ?_)
  have hP : va_P D clS [(od, .inr (1, [.int (nI 0), .int (nI 0), .int (nI 0), .null, .null, .null, .int (nI 0), .int (nI 0), .int (nI 0), .null]))] H := hP
  have hD : va_D (fun z => s.heap.size ≤ z) [(od, .inr (1, [.int (nI 0), .int (nI 0), .int (nI 0), .null, .null, .null, .int (nI 0), .int (nI 0), .int (nI 0), .null]))] := hD
  refine W.widen (k := 1) (n := 10) (by omega) (by omega) ?_
  refine lv_dup hx hb dL_law_3 rfl ?_
  refine lv_aload_n hx hb dL_law_4 rfl (lv_at hl 0 rfl) ?_
  refine lv_iconst (v := nI 0) hx hb dL_law_5 (by decide) ?_
  refine hw_callR (va_runS (As := [.ref b, .int (nI 0)]) (rest := [.ref od, .ref od]) ⟨hx, hb, hml, hown, ht⟩ (c_cell l b L 0 xs (by omega) (by decide)) (va_cwS 2 ht (gS wm_L_L_cell wt_L_cell wn_L wc_L_cell) rfl rfl rfl (by decide +kernel) ⟨Nat.le_of_ble_eq_true rfl, Nat.le_of_ble_eq_true rfl⟩) (hw_xP hX hbl hbA hS) rfl rfl hl.1 rfl (lv_room (Nat.le_of_ble_eq_true rfl)) dL_law_6 ⟨Nat.le_of_ble_eq_true rfl, Nat.le_of_ble_eq_true rfl⟩) ?_
  refine lv_nm (y := x0) (hx0) ?_
  refine lv_aload_n hx hb dL_law_9 rfl (lv_at hl 0 rfl) ?_
  refine lv_iconst (v := nI 1) hx hb dL_law_10 (by decide) ?_
  refine hw_callR (va_runS (As := [.ref b, .int (nI 1)]) (rest := [.int x0, .ref od, .ref od]) ⟨hx, hb, hml, hown, ht⟩ (c_cell l b L 1 xs (by omega) (by decide)) (va_cwS 2 ht (gS wm_L_L_cell wt_L_cell wn_L wc_L_cell) rfl rfl rfl (by decide +kernel) ⟨Nat.le_of_ble_eq_true rfl, Nat.le_of_ble_eq_true rfl⟩) (hw_xP hX hbl hbA hS) rfl rfl hl.1 rfl (lv_room (Nat.le_of_ble_eq_true rfl)) dL_law_11 ⟨Nat.le_of_ble_eq_true rfl, Nat.le_of_ble_eq_true rfl⟩) ?_
  refine lv_nm (y := x1) (hx1) ?_
  refine hw_new (wc := [(od, .inr (1, [.int (nI 0), .int (nI 0), .int (nI 0), .null, .null, .null, .int (nI 0), .int (nI 0), .int (nI 0), .null]))]) (wr := []) (va_runI (b := od) (As := [.int x0, .int x1]) (rest := [.ref od]) ⟨hx, hb, hml, hown, ht⟩ (c_Desk l D cI cZ od n a H.size x0 x1 hne hae hn1 hn) (cwI 2 ht (gA wc_X1_init) rfl rfl rfl (ht _ wn_X1) (ht _ wm_L_X1_init) (ht _ wi_X1_init) rfl (by decide +kernel) ⟨Nat.le_of_ble_eq_true rfl, Nat.le_of_ble_eq_true rfl⟩) (wPre_S (hP.sub [0] rfl) (hD.sub [0] (by decide) rfl) hK hN) rfl rfl hl.1 rfl (lv_room (Nat.le_of_ble_eq_true rfl)) dL_law_14 ⟨Nat.le_of_ble_eq_true rfl, Nat.le_of_ble_eq_true rfl⟩) hP hD hS hA [0] [] rfl rfl (by decide) (by decide) (fun u H locs hP hD hS => ?_)
  obtain ⟨og, ob, oe, oy, oz, ot⟩ := u
  have hP : va_P D clS [(od, .inr (1, [.int (nI n), .int (nI a), .int (nI (2 ^ n - 1 - a)), .ref og, .ref oy, .ref oz, .int (nI 0), .int (nI 0), .int (nI 0), .ref ot])), (og, .inr (0, [.int (nI n), .int (nI a), .ref ob, .ref oe])), (ob, .inl (cI, (2 ^ n), .inl (fun jq => nI ((sd_br (fun _ => 0) (fun _ => 0) 0) jq)))), (oe, .inl (cZ, (2 * 2 ^ n), .inl (fun jq => bI ((sd_ew n a (fun w => sd_br (fun _ => 0) (fun _ => 0) 0 w == 0)) jq)))), (oy, .inl (cI, 24, .inl (fun jq => nI ((fun _ => 0) jq)))), (oz, .inl (cI, 24, .inl (fun jq => nI ((fun _ => 0) jq)))), (ot, .inl (cI, n, .inl (fun _ => 0)))] H := hP
  have hD : va_D (fun z => s.heap.size ≤ z) [(od, .inr (1, [.int (nI n), .int (nI a), .int (nI (2 ^ n - 1 - a)), .ref og, .ref oy, .ref oz, .int (nI 0), .int (nI 0), .int (nI 0), .ref ot])), (og, .inr (0, [.int (nI n), .int (nI a), .ref ob, .ref oe])), (ob, .inl (cI, (2 ^ n), .inl (fun jq => nI ((sd_br (fun _ => 0) (fun _ => 0) 0) jq)))), (oe, .inl (cZ, (2 * 2 ^ n), .inl (fun jq => bI ((sd_ew n a (fun w => sd_br (fun _ => 0) (fun _ => 0) 0 w == 0)) jq)))), (oy, .inl (cI, 24, .inl (fun jq => nI ((fun _ => 0) jq)))), (oz, .inl (cI, 24, .inl (fun jq => nI ((fun _ => 0) jq)))), (ot, .inl (cI, n, .inl (fun _ => 0)))] := hD
  refine lv_astore_n hx hb dL_law_17 rfl hl (by decide) rfl (fun ls hl => ?_)
  have hl : lv_has ls 4 [(1, .ref od), (0, .ref b)] := hl
  refine va_new (ci := 2) (fs := [.int (nI 0), .int (nI 0), .int (nI 0), .null, .null, .int (bI false), .int (nI 0), .int (bI false), .int (nI 0), .int (nI 0), .null, .int (nI 0), .int (nI 0), .null]) (C := RX2) (T := TX2) (N := 14) hx hb ht inX2 tyX2 tyX2_ok hown (ht _ wl_L_X2) (ht _ wk_X2) (ht _ wn_X2) hK hP hD hS hA rfl (fun j hj => by match j, hj with | 0, _ => rfl | 1, _ => rfl | 2, _ => rfl | 3, _ => rfl | 4, _ => rfl | 5, _ => rfl | 6, _ => rfl | 7, _ => rfl | 8, _ => rfl | 9, _ => rfl | 10, _ => rfl | 11, _ => rfl | 12, _ => rfl | 13, _ => rfl | t + 14, h => omega) (Nat.le_of_ble_eq_true rfl) (Nat.le_of_ble_eq_true rfl) dL_law_18 (fun om H hP hD hS => ?_)
  have hP : va_P D clS [(od, .inr (1, [.int (nI n), .int (nI a), .int (nI (2 ^ n - 1 - a)), .ref og, .ref oy, .ref oz, .int (nI 0), .int (nI 0), .int (nI 0), .ref ot])), (og, .inr (0, [.int (nI n), .int (nI a), .ref ob, .ref oe])), (ob, .inl (cI, (2 ^ n), .inl (fun jq => nI ((sd_br (fun _ => 0) (fun _ => 0) 0) jq)))), (oe, .inl (cZ, (2 * 2 ^ n), .inl (fun jq => bI ((sd_ew n a (fun w => sd_br (fun _ => 0) (fun _ => 0) 0 w == 0)) jq)))), (oy, .inl (cI, 24, .inl (fun jq => nI ((fun _ => 0) jq)))), (oz, .inl (cI, 24, .inl (fun jq => nI ((fun _ => 0) jq)))), (ot, .inl (cI, n, .inl (fun _ => 0))), (om, .inr (2, [.int (nI 0), .int (nI 0), .int (nI 0), .null, .null, .int (bI false), .int (nI 0), .int (bI false), .int (nI 0), .int (nI 0), .null, .int (nI 0), .int (nI 0), .null]))] H := hP
  have hD : va_D (fun z => s.heap.size ≤ z) [(od, .inr (1, [.int (nI n), .int (nI a), .int (nI (2 ^ n - 1 - a)), .ref og, .ref oy, .ref oz, .int (nI 0), .int (nI 0), .int (nI 0), .ref ot])), (og, .inr (0, [.int (nI n), .int (nI a), .ref ob, .ref oe])), (ob, .inl (cI, (2 ^ n), .inl (fun jq => nI ((sd_br (fun _ => 0) (fun _ => 0) 0) jq)))), (oe, .inl (cZ, (2 * 2 ^ n), .inl (fun jq => bI ((sd_ew n a (fun w => sd_br (fun _ => 0) (fun _ => 0) 0 w == 0)) jq)))), (oy, .inl (cI, 24, .inl (fun jq => nI ((fun _ => 0) jq)))), (oz, .inl (cI, 24, .inl (fun jq => nI ((fun _ => 0) jq)))), (ot, .inl (cI, n, .inl (fun _ => 0))), (om, .inr (2, [.int (nI 0), .int (nI 0), .int (nI 0), .null, .null, .int (bI false), .int (nI 0), .int (bI false), .int (nI 0), .int (nI 0), .null, .int (nI 0), .int (nI 0), .null]))] := hD
  refine W.widen (k := 8) (n := 3158) (by omega) (by omega) ?_
  refine lv_dup hx hb dL_law_21 rfl ?_
  refine lv_aload_n hx hb dL_law_22 rfl (lv_at hl 1 rfl) ?_
  refine lv_iconst (v := nI 0) hx hb dL_law_23 (by decide) ?_
  refine hw_callR (va_runS (As := [.ref b, .int (nI 0)]) (rest := [.ref om, .ref om]) ⟨hx, hb, hml, hown, ht⟩ (c_cell l b L 0 xs (by omega) (by decide)) (va_cwS 2 ht (gS wm_L_L_cell wt_L_cell wn_L wc_L_cell) rfl rfl rfl (by decide +kernel) ⟨Nat.le_of_ble_eq_true rfl, Nat.le_of_ble_eq_true rfl⟩) (hw_xP hX hbl hbA hS) rfl rfl hl.1 rfl (lv_room (Nat.le_of_ble_eq_true rfl)) dL_law_24 ⟨Nat.le_of_ble_eq_true rfl, Nat.le_of_ble_eq_true rfl⟩) ?_
  refine lv_nm (y := x0) (hx0) ?_
  refine lv_aload_n hx hb dL_law_27 rfl (lv_at hl 1 rfl) ?_
  refine lv_iconst (v := nI 1) hx hb dL_law_28 (by decide) ?_
  refine hw_callR (va_runS (As := [.ref b, .int (nI 1)]) (rest := [.int x0, .ref om, .ref om]) ⟨hx, hb, hml, hown, ht⟩ (c_cell l b L 1 xs (by omega) (by decide)) (va_cwS 2 ht (gS wm_L_L_cell wt_L_cell wn_L wc_L_cell) rfl rfl rfl (by decide +kernel) ⟨Nat.le_of_ble_eq_true rfl, Nat.le_of_ble_eq_true rfl⟩) (hw_xP hX hbl hbA hS) rfl rfl hl.1 rfl (lv_room (Nat.le_of_ble_eq_true rfl)) dL_law_29 ⟨Nat.le_of_ble_eq_true rfl, Nat.le_of_ble_eq_true rfl⟩) ?_
  refine lv_nm (y := x1) (hx1) ?_
  refine hw_new (wc := [(om, .inr (2, [.int (nI 0), .int (nI 0), .int (nI 0), .null, .null, .int (bI false), .int (nI 0), .int (bI false), .int (nI 0), .int (nI 0), .null, .int (nI 0), .int (nI 0), .null]))]) (wr := [(od, .inr (1, [.int (nI n), .int (nI a), .int (nI (2 ^ n - 1 - a)), .ref og, .ref oy, .ref oz, .int (nI 0), .int (nI 0), .int (nI 0), .ref ot])), (og, .inr (0, [.int (nI n), .int (nI a), .ref ob, .ref oe])), (ob, .inl (cI, (2 ^ n), .inl (fun jq => nI ((sd_br (fun _ => 0) (fun _ => 0) 0) jq)))), (oe, .inl (cZ, (2 * 2 ^ n), .inl (fun jq => bI ((sd_ew n a (fun w => sd_br (fun _ => 0) (fun _ => 0) 0 w == 0)) jq)))), (oy, .inl (cI, 24, .inl (fun jq => nI ((fun _ => 0) jq)))), (oz, .inl (cI, 24, .inl (fun jq => nI ((fun _ => 0) jq)))), (ot, .inl (cI, n, .inl (fun _ => 0)))]) (va_runI (b := om) (As := [.int x0, .int x1]) (rest := [.ref om]) ⟨hx, hb, hml, hown, ht⟩ (c_Model l D cI cZ om n a H.size x0 x1 hne hae hn1 hn) (cwI 2 ht (gA wc_X2_init) rfl rfl rfl (ht _ wn_X2) (ht _ wm_L_X2_init) (ht _ wi_X2_init) rfl (by decide +kernel) ⟨Nat.le_of_ble_eq_true rfl, Nat.le_of_ble_eq_true rfl⟩) (wPre_S (hP.sub [7] rfl) (hD.sub [7] (by decide) rfl) hK hN) rfl rfl hl.1 rfl (lv_room (Nat.le_of_ble_eq_true rfl)) dL_law_32 ⟨Nat.le_of_ble_eq_true rfl, Nat.le_of_ble_eq_true rfl⟩) hP hD hS hA [7] [0, 1, 2, 3, 4, 5, 6] rfl rfl (by decide) (by decide) (fun u H locs hP hD hS => ?_)
  obtain ⟨my, mz, mv, mt⟩ := u
  have hP : va_P D clS [(od, .inr (1, [.int (nI n), .int (nI a), .int (nI (2 ^ n - 1 - a)), .ref og, .ref oy, .ref oz, .int (nI 0), .int (nI 0), .int (nI 0), .ref ot])), (og, .inr (0, [.int (nI n), .int (nI a), .ref ob, .ref oe])), (ob, .inl (cI, (2 ^ n), .inl (fun jq => nI ((sd_br (fun _ => 0) (fun _ => 0) 0) jq)))), (oe, .inl (cZ, (2 * 2 ^ n), .inl (fun jq => bI ((sd_ew n a (fun w => sd_br (fun _ => 0) (fun _ => 0) 0 w == 0)) jq)))), (oy, .inl (cI, 24, .inl (fun jq => nI ((fun _ => 0) jq)))), (oz, .inl (cI, 24, .inl (fun jq => nI ((fun _ => 0) jq)))), (ot, .inl (cI, n, .inl (fun _ => 0))), (om, .inr (2, [.int (nI n), .int (nI a), .int (nI 0), .ref my, .ref mz, .int (bI false), .int (-1), .int (bI false), .int (nI 0), .int (nI 0), .ref mv, .int (nI (sd_pos 0 0)), .int (nI 0), .ref mt])), (my, .inl (cI, 24, .inl (fun jq => nI ((fun _ => 0) jq)))), (mz, .inl (cI, 24, .inl (fun jq => nI ((fun _ => 0) jq)))), (mv, .inl (cZ, 2048, .inl (fun jq => bI ((fun _ => false) jq)))), (mt, .inl (cI, 10, .inl (fun _ => 0)))] H := hP
  have hD : va_D (fun z => s.heap.size ≤ z) [(od, .inr (1, [.int (nI n), .int (nI a), .int (nI (2 ^ n - 1 - a)), .ref og, .ref oy, .ref oz, .int (nI 0), .int (nI 0), .int (nI 0), .ref ot])), (og, .inr (0, [.int (nI n), .int (nI a), .ref ob, .ref oe])), (ob, .inl (cI, (2 ^ n), .inl (fun jq => nI ((sd_br (fun _ => 0) (fun _ => 0) 0) jq)))), (oe, .inl (cZ, (2 * 2 ^ n), .inl (fun jq => bI ((sd_ew n a (fun w => sd_br (fun _ => 0) (fun _ => 0) 0 w == 0)) jq)))), (oy, .inl (cI, 24, .inl (fun jq => nI ((fun _ => 0) jq)))), (oz, .inl (cI, 24, .inl (fun jq => nI ((fun _ => 0) jq)))), (ot, .inl (cI, n, .inl (fun _ => 0))), (om, .inr (2, [.int (nI n), .int (nI a), .int (nI 0), .ref my, .ref mz, .int (bI false), .int (-1), .int (bI false), .int (nI 0), .int (nI 0), .ref mv, .int (nI (sd_pos 0 0)), .int (nI 0), .ref mt])), (my, .inl (cI, 24, .inl (fun jq => nI ((fun _ => 0) jq)))), (mz, .inl (cI, 24, .inl (fun jq => nI ((fun _ => 0) jq)))), (mv, .inl (cZ, 2048, .inl (fun jq => bI ((fun _ => false) jq)))), (mt, .inl (cI, 10, .inl (fun _ => 0)))] := hD
  refine lv_astore_n hx hb dL_law_35 rfl hl (by decide) rfl (fun ls hl => ?_)
  have hl : lv_has ls 4 [(2, .ref om), (1, .ref od), (0, .ref b)] := hl
  refine lv_iconst (v := nI 2) hx hb dL_law_36 (by decide) ?_
  refine lv_istore_n hx hb dL_law_37 rfl hl (by decide) rfl (fun ls hl => ?_)
  have hl : lv_has ls 4 [(3, .int (nI 2)), (2, .ref om), (1, .ref od), (0, .ref b)] := hl
  have hl : lv_has ls 4 [(0, .ref b), (1, .ref od), (2, .ref om), (3, .int (nI 2))] := lv_sub hl [3, 2, 1, 0] rfl
  suffices lp : ∀ (k i : Nat) (q d v u1 u2 : Nat) (kn mr : Bool) (sk : Int32) (Y Z : Nat → Nat) (T : Nat → Int32) (wn : Nat → Bool) (ls : Array Slot) (H : Heap) (locs : List Loc), (L < i + 3 + 3 * k) → (i ≤ L + 2) → dOk n a q d v Y Z → mOk n kn wn (sd_wn n a (fun w => sd_br Y Z q w == 0)) → u1 < 2 ^ n → u2 < 2 ^ n → lv_has ls 4 [(0, .ref b), (1, .ref od), (2, .ref om), (3, .int (nI i))] → va_P D clS [(od, .inr (1, [.int (nI n), .int (nI a), .int (nI (2 ^ n - 1 - a)), .ref og, .ref oy, .ref oz, .int (nI q), .int (nI d), .int (nI v), .ref ot])), (og, .inr (0, [.int (nI n), .int (nI a), .ref ob, .ref oe])), (ob, .inl (cI, (2 ^ n), .inl (fun jq => nI ((sd_br Y Z q) jq)))), (oe, .inl (cZ, (2 * 2 ^ n), .inl (fun jq => bI ((sd_ew n a (fun w => sd_br Y Z q w == 0)) jq)))), (oy, .inl (cI, 24, .inl (fun jq => nI (Y jq)))), (oz, .inl (cI, 24, .inl (fun jq => nI (Z jq)))), (ot, .inl (cI, n, .inl T)), (om, .inr (2, [.int (nI n), .int (nI a), .int (nI q), .ref my, .ref mz, .int (bI kn), .int sk, .int (bI mr), .int (nI u1), .int (nI u2), .ref mv, .int (nI (sd_pos d v)), .int (nI d), .ref mt])), (my, .inl (cI, 24, .inl (fun jq => nI (Y jq)))), (mz, .inl (cI, 24, .inl (fun jq => nI (Z jq)))), (mv, .inl (cZ, 2048, .inl (fun jq => bI (wn jq)))), (mt, .inl (cI, 10, .inl T))] H → va_D (fun z => s.heap.size ≤ z) [(od, .inr (1, [.int (nI n), .int (nI a), .int (nI (2 ^ n - 1 - a)), .ref og, .ref oy, .ref oz, .int (nI q), .int (nI d), .int (nI v), .ref ot])), (og, .inr (0, [.int (nI n), .int (nI a), .ref ob, .ref oe])), (ob, .inl (cI, (2 ^ n), .inl (fun jq => nI ((sd_br Y Z q) jq)))), (oe, .inl (cZ, (2 * 2 ^ n), .inl (fun jq => bI ((sd_ew n a (fun w => sd_br Y Z q w == 0)) jq)))), (oy, .inl (cI, 24, .inl (fun jq => nI (Y jq)))), (oz, .inl (cI, 24, .inl (fun jq => nI (Z jq)))), (ot, .inl (cI, n, .inl T)), (om, .inr (2, [.int (nI n), .int (nI a), .int (nI q), .ref my, .ref mz, .int (bI kn), .int sk, .int (bI mr), .int (nI u1), .int (nI u2), .ref mv, .int (nI (sd_pos d v)), .int (nI d), .ref mt])), (my, .inl (cI, 24, .inl (fun jq => nI (Y jq)))), (mz, .inl (cI, 24, .inl (fun jq => nI (Z jq)))), (mv, .inl (cZ, 2048, .inl (fun jq => bI (wn jq)))), (mt, .inl (cI, 10, .inl T))] → va_S (fun z => s.heap.size ≤ z) s.heap H locs → W p l e room_1 s m #[Value.ref b] below meth c H locs 12 5264 (lw_Z below #[Value.ref b] s) (F0 m 38 ls []) by
    exact lp L 2 0 0 0 0 0 false false (-1) (fun _ => 0) (fun _ => 0) (fun _ => 0) (fun _ => false) ls H locs (by omega) (by omega) ⟨hn1, hn, ha, h5, by decide, fun _ => Nat.two_pow_pos n, fun _ => Nat.two_pow_pos n, Nat.zero_le n, by decide⟩ ⟨fun h9 => absurd h9 (by decide), rfl, fun _ _ => rfl⟩ (Nat.two_pow_pos n) (Nat.two_pow_pos n) hl hP hD hS
  intro k
  induction k with
  | zero =>
    intro i q d v u1 u2 kn mr sk Y Z T wn ls H locs hk hi ok mk hu1 hu2 hl hP hD hS
    have hx3 : L < i + 3 := by omega
    refine lv_iload_n hx hb dL_law_38 rfl (lv_at hl 3 rfl) ?_
    refine lv_aload_n hx hb dL_law_39 rfl (lv_at hl 0 rfl) ?_
    refine na_slen hx hb hX hbl hbA hS dL_law_40 ?_
    refine lv_iconst (v := nI 3) hx hb dL_law_41 (by decide) ?_
    refine lv_isub hx hb dL_law_42 ?_
    refine lv_icmp_gt (tgt := 547) hx hb dL_law_43 rfl (fun _ => ?_) (fun hc9 => absurd (hw_lx (by omega) (by omega) hx3) hc9)
    refine lv_iconst (v := nI 1) hx hb dL_law_547 (by decide) ?_
    refine lv_nm (y := 1) rfl ?_
    refine va_forget hS.2.2 ?_
    refine W.widen (k := 600000) (n := 7302250) (by decide) (by decide) ?_
    exact lw_ret hx hb hr hlocks dL_law_548
  | succ k ih =>
    intro i q d v u1 u2 kn mr sk Y Z T wn ls H locs hk hi ok mk hu1 hu2 hl hP hD hS
    by_cases hx3 : L < i + 3
    · refine lv_iload_n hx hb dL_law_38 rfl (lv_at hl 3 rfl) ?_
      refine lv_aload_n hx hb dL_law_39 rfl (lv_at hl 0 rfl) ?_
      refine na_slen hx hb hX hbl hbA hS dL_law_40 ?_
      refine lv_iconst (v := nI 3) hx hb dL_law_41 (by decide) ?_
      refine lv_isub hx hb dL_law_42 ?_
      refine lv_icmp_gt (tgt := 547) hx hb dL_law_43 rfl (fun _ => ?_) (fun hc9 => absurd (hw_lx (by omega) (by omega) hx3) hc9)
      refine lv_iconst (v := nI 1) hx hb dL_law_547 (by decide) ?_
      refine lv_nm (y := 1) rfl ?_
      refine va_forget hS.2.2 ?_
      refine W.widen (k := 600000) (n := 7302250) (by decide) (by decide) ?_
      exact lw_ret hx hb hr hlocks dL_law_548
    · refine lv_iload_n hx hb dL_law_38 rfl (lv_at hl 3 rfl) ?_
      refine lv_aload_n hx hb dL_law_39 rfl (lv_at hl 0 rfl) ?_
      refine na_slen hx hb hX hbl hbA hS dL_law_40 ?_
      refine lv_iconst (v := nI 3) hx hb dL_law_41 (by decide) ?_
      refine lv_isub hx hb dL_law_42 ?_
      refine lv_icmp_gt (tgt := 547) hx hb dL_law_43 rfl (fun hc9 => absurd hc9 (hw_ly (by omega) (by omega) (by omega))) (fun _ => ?_)
      have nx : lwN p l e s m below meth c b D cI cZ od og ob oe oy oz ot om my mz mv mt n a i := by
        intro q d v u1 u2 kn mr sk Y Z T wn ls H locs ok mk hu1 hu2 hl hP hD hS
        refine lv_iinc (k := 3) (v := nI (i + 3)) hx hb dL_law_541 hl rfl (hw_inc3 _) (by decide) rfl (fun ls hl => ?_)
        have hl : lv_has ls 4 [(3, .int (nI (i + 3))), (0, .ref b), (1, .ref od), (2, .ref om)] := hl
        refine lv_goto (tgt := 38) hx hb dL_law_544 rfl ?_
        have hl : lv_has ls 4 [(0, .ref b), (1, .ref od), (2, .ref om), (3, .int (nI (i + 3)))] := lv_sub hl [1, 2, 3, 0] rfl
        exact ih (i + 3) q d v u1 u2 kn mr sk Y Z T wn ls H locs (by omega) (by omega) ok mk hu1 hu2 hl hP hD hS
      refine lv_aload_n hx hb dL_law_46 rfl (lv_at hl 0 rfl) ?_
      refine lv_iload_n hx hb dL_law_47 rfl (lv_at hl 3 rfl) ?_
      refine na_sld hx hb hX hbl hbA hS (j := i) (by omega) (by omega) dL_law_48 ?_
      refine lv_bipush (v := nI 31) hx hb dL_law_49 (by decide) ?_
      refine lv_iand hx hb dL_law_51 ?_
      obtain ⟨op, hop, eop⟩ := pk_andE (xs i) (m := nI 31) 5 (by decide)
      refine lv_nm (y := nI op) (eop) ?_
      by_cases ho0 : op = 0
      · subst ho0
        refine lv_tableIn (off := 92) (tgt := 144) hx hb dL_law_52 (by decide) (by decide) (by decide) rfl ?_
        exact lw_c0 ⟨hx, hb, hml, hown, ht, hN, hK, hX, hbl⟩ hL (by omega) nx ok mk hu1 hu2 hl hP hD hS
      by_cases ho1 : op = 1
      · subst ho1
        refine lv_tableIn (off := 105) (tgt := 157) hx hb dL_law_52 (by decide) (by decide) (by decide) rfl ?_
        exact lw_c1 ⟨hx, hb, hml, hown, ht, hN, hK, hX, hbl⟩ hL (by omega) nx ok mk hu1 hu2 hl hP hD hS
      by_cases ho2 : op = 2
      · subst ho2
        refine lv_tableIn (off := 118) (tgt := 170) hx hb dL_law_52 (by decide) (by decide) (by decide) rfl ?_
        exact lw_c2 ⟨hx, hb, hml, hown, ht, hN, hK, hX, hbl⟩ hL (by omega) nx ok mk hu1 hu2 hl hP hD hS
      by_cases ho3 : op = 3
      · subst ho3
        refine lv_tableIn (off := 151) (tgt := 203) hx hb dL_law_52 (by decide) (by decide) (by decide) rfl ?_
        exact lw_c3 ⟨hx, hb, hml, hown, ht, hN, hK, hX, hbl⟩ hL (by omega) nx ok mk hu1 hu2 hl hP hD hS
      by_cases ho4 : op = 4
      · subst ho4
        refine lv_tableIn (off := 174) (tgt := 226) hx hb dL_law_52 (by decide) (by decide) (by decide) rfl ?_
        exact lw_c4 ⟨hx, hb, hml, hown, ht, hN, hK, hX, hbl⟩ hL (by omega) nx ok mk hu1 hu2 hl hP hD hS
      by_cases ho5 : op = 5
      · subst ho5
        refine lv_tableIn (off := 187) (tgt := 239) hx hb dL_law_52 (by decide) (by decide) (by decide) rfl ?_
        exact lw_c5 ⟨hx, hb, hml, hown, ht, hN, hK, hX, hbl⟩ hL (by omega) nx ok mk hu1 hu2 hl hP hD hS
      by_cases ho6 : op = 6
      · subst ho6
        refine lv_tableIn (off := 210) (tgt := 262) hx hb dL_law_52 (by decide) (by decide) (by decide) rfl ?_
        exact lw_c6 ⟨hx, hb, hml, hown, ht, hN, hK, hX, hbl⟩ hL (by omega) nx ok mk hu1 hu2 hl hP hD hS
      by_cases ho7 : op = 7
      · subst ho7
        refine lv_tableIn (off := 223) (tgt := 275) hx hb dL_law_52 (by decide) (by decide) (by decide) rfl ?_
        exact lw_c7 ⟨hx, hb, hml, hown, ht, hN, hK, hX, hbl⟩ hL (by omega) nx ok mk hu1 hu2 hl hP hD hS
      by_cases ho8 : op = 8
      · subst ho8
        refine lv_tableIn (off := 236) (tgt := 288) hx hb dL_law_52 (by decide) (by decide) (by decide) rfl ?_
        exact lw_c8 ⟨hx, hb, hml, hown, ht, hN, hK, hX, hbl⟩ hL (by omega) nx ok mk hu1 hu2 hl hP hD hS
      by_cases ho9 : op = 9
      · subst ho9
        refine lv_tableIn (off := 249) (tgt := 301) hx hb dL_law_52 (by decide) (by decide) (by decide) rfl ?_
        exact lw_c9 ⟨hx, hb, hml, hown, ht, hN, hK, hX, hbl⟩ hL (by omega) nx ok mk hu1 hu2 hl hP hD hS
      by_cases ho10 : op = 10
      · subst ho10
        refine lv_tableIn (off := 262) (tgt := 314) hx hb dL_law_52 (by decide) (by decide) (by decide) rfl ?_
        exact lw_c10 ⟨hx, hb, hml, hown, ht, hN, hK, hX, hbl⟩ hL (by omega) nx ok mk hu1 hu2 hl hP hD hS
      by_cases ho11 : op = 11
      · subst ho11
        refine lv_tableIn (off := 295) (tgt := 347) hx hb dL_law_52 (by decide) (by decide) (by decide) rfl ?_
        exact lw_c11 ⟨hx, hb, hml, hown, ht, hN, hK, hX, hbl⟩ hL (by omega) nx ok mk hu1 hu2 hl hP hD hS
      by_cases ho12 : op = 12
      · subst ho12
        refine lv_tableIn (off := 328) (tgt := 380) hx hb dL_law_52 (by decide) (by decide) (by decide) rfl ?_
        exact lw_c12 ⟨hx, hb, hml, hown, ht, hN, hK, hX, hbl⟩ hL (by omega) nx ok mk hu1 hu2 hl hP hD hS
      by_cases ho13 : op = 13
      · subst ho13
        refine lv_tableIn (off := 351) (tgt := 403) hx hb dL_law_52 (by decide) (by decide) (by decide) rfl ?_
        exact lw_c13 ⟨hx, hb, hml, hown, ht, hN, hK, hX, hbl⟩ hL (by omega) nx ok mk hu1 hu2 hl hP hD hS
      by_cases ho14 : op = 14
      · subst ho14
        refine lv_tableIn (off := 384) (tgt := 436) hx hb dL_law_52 (by decide) (by decide) (by decide) rfl ?_
        exact lw_c14 ⟨hx, hb, hml, hown, ht, hN, hK, hX, hbl⟩ hL (by omega) nx ok mk hu1 hu2 hl hP hD hS
      by_cases ho15 : op = 15
      · subst ho15
        refine lv_tableIn (off := 397) (tgt := 449) hx hb dL_law_52 (by decide) (by decide) (by decide) rfl ?_
        exact lw_c15 ⟨hx, hb, hml, hown, ht, hN, hK, hX, hbl⟩ hL (by omega) nx ok mk hu1 hu2 hl hP hD hS
      by_cases ho16 : op = 16
      · subst ho16
        refine lv_tableIn (off := 430) (tgt := 482) hx hb dL_law_52 (by decide) (by decide) (by decide) rfl ?_
        exact lw_c16 ⟨hx, hb, hml, hown, ht, hN, hK, hX, hbl⟩ hL (by omega) nx ok mk hu1 hu2 hl hP hD hS
      by_cases ho17 : op = 17
      · subst ho17
        refine lv_tableIn (off := 443) (tgt := 495) hx hb dL_law_52 (by decide) (by decide) (by decide) rfl ?_
        exact lw_c17 ⟨hx, hb, hml, hown, ht, hN, hK, hX, hbl⟩ hL (by omega) nx ok mk hu1 hu2 hl hP hD hS
      by_cases ho18 : op = 18
      · subst ho18
        refine lv_tableIn (off := 456) (tgt := 508) hx hb dL_law_52 (by decide) (by decide) (by decide) rfl ?_
        exact lw_c18 ⟨hx, hb, hml, hown, ht, hN, hK, hX, hbl⟩ hL (by omega) nx ok mk hu1 hu2 hl hP hD hS
      refine lv_tableOut (tgt := 541) hx hb dL_law_52 (Or.inr (by rw [nI_toInt (by omega)]; omega)) rfl ?_
      exact nx q d v u1 u2 kn mr sk Y Z T wn ls H locs ok mk hu1 hu2 hl hP hD hS
