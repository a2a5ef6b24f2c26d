/-! Contracts of the reference: clauses, play, models, claims. -/
theorem hw_nt {b : Bool} (h : (!b) = true) : b = false := by simpa using h
theorem hw_nf {b : Bool} (h : (!b) = false) : b = true := by simpa using h
theorem hw_01 {x : Int32} (h1 : ¬ x < 0) (h2 : ¬ nI 1 < x) : uN x < 2 := by
  obtain ⟨j, hj, rfl⟩ := nI_of h1
  rw [uN_nI (by omega)]
  rw [nI_ltI (by decide) hj] at h2
  omega
theorem hw_b01 : ∀ b : Bool, ¬ bI b < 0 ∧ ¬ nI 1 < bI b := by decide +kernel
theorem sd_pos_play {d v : Nat} (b : Bool) (h : v < 2 ^ d) : 2 * sd_pos d v + b.toNat = sd_pos (d + 1) (v + b.toNat * 2 ^ d) := by
  cases b
  · show 2 * sd_pos d v + 0 = sd_pos (d + 1) (v + 0 * 2 ^ d)
    rw [Nat.zero_mul]
    exact (sd_pos_0 h).symm
  · show 2 * sd_pos d v + 1 = sd_pos (d + 1) (v + 1 * 2 ^ d)
    rw [Nat.one_mul]
    exact (sd_pos_1 h).symm
theorem sd_pos_undo (d v : Nat) : sd_pos (d + 1) v / 2 = sd_pos d (v % 2 ^ d) := by
  have h1 := sd_pos_dv d v 1
  rw [sd_pos_cg (v := v % 2 ^ d) (w := v) d (fun i hi => by rw [Nat.testBit_mod_two_pow, decide_eq_true hi, Bool.true_and])]
  exact h1

set_option maxHeartbeats 4000000 in
set_option maxRecDepth 100000 in
theorem m_models (l : Launch) (D : va_G) (cI cZ : ClassId) (om my mz mv mt n a q d v u1 u2 : Nat) (kn mr : Bool) (sk : Int32) (Y Z : Nat → Nat) (T : Nat → Int32) (wn : Nat → Bool) (ok : dOk n a q d v Y Z) (sz : Nat) (mk : mOk n kn wn (sd_wn n a (fun w => sd_br Y Z q w == 0))) (hu1 : u1 < 2 ^ n) (hu2 : u2 < 2 ^ n) : Met l yX2_models (kX2_models :: aW) { frames := 4, cells := 0, slots := 0, locals := 87 } (wPre [.ref om] D [(om, .inr (2, [.int (nI n), .int (nI a), .int (nI q), .ref my, .ref mz, .int (bI kn), .int sk, .int (bI mr), .int (nI u1), .int (nI u2), .ref mv, .int (nI (sd_pos d v)), .int (nI d), .ref mt])), (my, .inl (cI, 24, .inl (fun jq => nI (Y jq)))), (mz, .inl (cI, 24, .inl (fun jq => nI (Z jq)))), (mv, .inl (cZ, 2048, .inl (fun jq => bI (wn jq)))), (mt, .inl (cI, 10, .inl T))] [(cI, .int), (cZ, .boolean)] sz) (wQ (some (.int (nI (sd_cn (fun w => sd_br Y Z q w == 0) (2 ^ n))))) D [(om, .inr (2, [.int (nI n), .int (nI a), .int (nI q), .ref my, .ref mz, .int (bI true), .int (if kn = true then sk else -1), .int (bI (kn && mr)), .int (nI u1), .int (nI u2), .ref mv, .int (nI (sd_pos d v)), .int (nI d), .ref mt])), (my, .inl (cI, 24, .inl (fun jq => nI (Y jq)))), (mz, .inl (cI, 24, .inl (fun jq => nI (Z jq)))), (mv, .inl (cZ, 2048, .inl (fun jq => bI ((sd_wn n a (fun w => sd_br Y Z q w == 0)) jq)))), (mt, .inl (cI, 10, .inl T))] (va_A [(om, .inr (2, [.int (nI n), .int (nI a), .int (nI q), .ref my, .ref mz, .int (bI kn), .int sk, .int (bI mr), .int (nI u1), .int (nI u2), .ref mv, .int (nI (sd_pos d v)), .int (nI d), .ref mt])), (my, .inl (cI, 24, .inl (fun jq => nI (Y jq)))), (mz, .inl (cI, 24, .inl (fun jq => nI (Z jq)))), (mv, .inl (cZ, 2048, .inl (fun jq => bI (wn jq)))), (mt, .inl (cI, 10, .inl T))] sz)) 0 0 (va_A [(om, .inr (2, [.int (nI n), .int (nI a), .int (nI q), .ref my, .ref mz, .int (bI kn), .int sk, .int (bI mr), .int (nI u1), .int (nI u2), .ref mv, .int (nI (sd_pos d v)), .int (nI d), .ref mt])), (my, .inl (cI, 24, .inl (fun jq => nI (Y jq)))), (mz, .inl (cI, 24, .inl (fun jq => nI (Z jq)))), (mv, .inl (cZ, 2048, .inl (fun jq => bI (wn jq)))), (mt, .inl (cI, 10, .inl T))] sz) := by
  obtain ⟨hn1, hn, ha, h5, hq, hY, hZ, hd, hv⟩ := id ok
  have h2n := hw_p10 hn
  refine Met.ofW (cc := cX2_models) (maxL := 3) (ret := (some .int)) (by decide) rfl ?_
  intro p e s m args below meth c s₁ Bo hml hpre
  obtain ⟨rfl, hsz, hP, hK, hN, hD0⟩ := hpre
  subst hsz
  have hD := hD0.self (sz := s.heap.size)
  generalize hAe : va_A [(om, .inr (2, [.int (nI n), .int (nI a), .int (nI q), .ref my, .ref mz, .int (bI kn), .int sk, .int (bI mr), .int (nI u1), .int (nI u2), .ref mv, .int (nI (sd_pos d v)), .int (nI d), .ref mt])), (my, .inl (cI, 24, .inl (fun jq => nI (Y jq)))), (mz, .inl (cI, 24, .inl (fun jq => nI (Z jq)))), (mv, .inl (cZ, 2048, .inl (fun jq => bI (wn jq)))), (mt, .inl (cI, 10, .inl T))] s.heap.size = A at hD ⊢
  have hA : ∀ q : Nat, s.heap.size ≤ q → A q := fun q h => by rw [← hAe]; exact Or.inr h
  have hS : va_S A s.heap s.heap [] := va_S.rf
  have hx := Bo.exec
  have hb := Bo.bytes
  have hr := Bo.returns
  have hts := atoms_spec (ws := kX2_models :: aW) Bo.pre
  have ht : ∀ w ∈ aW, w.before _ s = true := fun w h => hts w (List.mem_cons_of_mem _ h)
  have hown : s.vm.findClass RX2 = some m.cls := findClass_of_methodNamed Bo.named
  have hlocks := Bo.notSynchronized
  have hP : va_P D clS [(om, .inr (2, [.int (nI n), .int (nI a), .int (nI q), .ref my, .ref mz, .int (bI kn), .int sk, .int (bI mr), .int (nI u1), .int (nI u2), .ref mv, .int (nI (sd_pos d v)), .int (nI d), .ref mt])), (my, .inl (cI, 24, .inl (fun jq => nI (Y jq)))), (mz, .inl (cI, 24, .inl (fun jq => nI (Z jq)))), (mv, .inl (cZ, 2048, .inl (fun jq => bI (wn jq)))), (mt, .inl (cI, 10, .inl T))] s.heap := hP
  have hl := lv_entry ([.ref om]) (n := 3) (Nat.le_of_ble_eq_true rfl)
  rw [lg_entry_eq]
  generalize (lg_sl ([.ref om]) ++ List.replicate (3 - (lg_sl ([.ref om])).length) Slot.unset).toArray = ls at hl ⊢
  have hl : lv_has ls 3 [(0, .ref om)] := hl
  have hpn := Nat.two_pow_pos n
  refine lv_aload_n hx hb dX2_models_0 rfl (lv_at hl 0 rfl) ?_
  refine hw_callW (ws' := [(om, .inr (2, [.int (nI n), .int (nI a), .int (nI q), .ref my, .ref mz, .int (bI true), .int (if kn = true then sk else -1), .int (bI (kn && mr)), .int (nI u1), .int (nI u2), .ref mv, .int (nI (sd_pos d v)), .int (nI d), .ref mt])), (my, .inl (cI, 24, .inl (fun jq => nI (Y jq)))), (mz, .inl (cI, 24, .inl (fun jq => nI (Z jq)))), (mv, .inl (cZ, 2048, .inl (fun jq => bI ((sd_wn n a (fun w => sd_br Y Z q w == 0)) jq)))), (mt, .inl (cI, 10, .inl T))]) (va_runV (b := om) (As := []) (rest := []) ⟨hx, hb, hml, hown, ht⟩ (m_look l D cI cZ om my mz mv mt n a q d v u1 u2 kn mr sk Y Z T wn ok s.heap.size mk hu1 hu2) (cwV 0 ht (gV wm_X2_X2_look wi_X2_look ws_X2_look wn_X2 wc_X2_look) rfl rfl rfl (by decide +kernel) ⟨Nat.le_of_ble_eq_true rfl, Nat.le_of_ble_eq_true rfl⟩) (wPre_V 0 hP hD hK hN rfl rfl) rfl rfl hl.1 rfl (lv_room (Nat.le_of_ble_eq_true rfl)) dX2_models_1 ⟨Nat.zero_le _, Nat.zero_le _⟩) hD hS hA rfl (fun H locs hP hD hS => ?_)
  have hP : va_P D clS [(om, .inr (2, [.int (nI n), .int (nI a), .int (nI q), .ref my, .ref mz, .int (bI true), .int (if kn = true then sk else -1), .int (bI (kn && mr)), .int (nI u1), .int (nI u2), .ref mv, .int (nI (sd_pos d v)), .int (nI d), .ref mt])), (my, .inl (cI, 24, .inl (fun jq => nI (Y jq)))), (mz, .inl (cI, 24, .inl (fun jq => nI (Z jq)))), (mv, .inl (cZ, 2048, .inl (fun jq => bI ((sd_wn n a (fun w => sd_br Y Z q w == 0)) jq)))), (mt, .inl (cI, 10, .inl T))] H := hP
  have hD : va_D A [(om, .inr (2, [.int (nI n), .int (nI a), .int (nI q), .ref my, .ref mz, .int (bI true), .int (if kn = true then sk else -1), .int (bI (kn && mr)), .int (nI u1), .int (nI u2), .ref mv, .int (nI (sd_pos d v)), .int (nI d), .ref mt])), (my, .inl (cI, 24, .inl (fun jq => nI (Y jq)))), (mz, .inl (cI, 24, .inl (fun jq => nI (Z jq)))), (mv, .inl (cZ, 2048, .inl (fun jq => bI ((sd_wn n a (fun w => sd_br Y Z q w == 0)) jq)))), (mt, .inl (cI, 10, .inl T))] := hD
  refine W.eq (g2 := F0 m 4 ls []) rfl ?_
  refine lv_iconst (v := nI 0) hx hb dX2_models_4 (by decide) ?_
  refine lv_istore_n hx hb dX2_models_5 rfl hl (by decide) rfl (fun ls hl => ?_)
  have hl : lv_has ls 3 [(1, .int (nI 0)), (0, .ref om)] := hl
  refine lv_iconst (v := nI 1) hx hb dX2_models_6 (by decide) ?_
  refine lv_aload_n hx hb dX2_models_7 rfl (lv_at hl 1 rfl) ?_
  refine va_get (D := D) (ci := 2) (v := .int (nI n)) (C := RX2) (T := TX2) (N := 14) hx hb ht inX2 hown hK hP 0 rfl rfl 0 (by decide) (ht _ wf_X2_n) (fun _ h9 => h9) rfl dX2_models_8 ?_
  refine lv_ishl hx hb dX2_models_11 ?_
  refine lv_nm (y := nI (2 ^ n)) (hw_shl1' (by omega)) ?_
  refine lv_istore_n hx hb dX2_models_12 rfl hl (by decide) rfl (fun ls hl => ?_)
  have hl : lv_has ls 3 [(2, .int (nI (2 ^ n))), (1, .int (nI 0)), (0, .ref om)] := hl
  have hl : lv_has ls 3 [(0, .ref om), (1, .int (nI 0)), (2, .int (nI (2 ^ n)))] := lv_sub hl [2, 1, 0] rfl
  suffices lp : ∀ k : Nat, ∀ (i : Nat) (ls : Array Slot) (H : Heap) (locs : List Loc), (i + k = 2 ^ n) → lv_has ls 3 [(0, .ref om), (1, .int (nI (sd_cn (fun j => sd_br Y Z q (sd_on n (2 ^ n + j) n) == 0) i))), (2, .int (nI (2 ^ n + i)))] → va_P D clS [(om, .inr (2, [.int (nI n), .int (nI a), .int (nI q), .ref my, .ref mz, .int (bI true), .int (if kn = true then sk else -1), .int (bI (kn && mr)), .int (nI u1), .int (nI u2), .ref mv, .int (nI (sd_pos d v)), .int (nI d), .ref mt])), (my, .inl (cI, 24, .inl (fun jq => nI (Y jq)))), (mz, .inl (cI, 24, .inl (fun jq => nI (Z jq)))), (mv, .inl (cZ, 2048, .inl (fun jq => bI ((sd_wn n a (fun w => sd_br Y Z q w == 0)) jq)))), (mt, .inl (cI, 10, .inl T))] H → va_S A s.heap H locs → W p l e (headSpec (kX2_models :: aW) { frames := 4, cells := 0, slots := 0, locals := 87 }).room s m (([.ref om] : List Value).toArray) below meth c H locs 0 0 (MQ below (wQ (some (.int (nI (sd_cn (fun w => sd_br Y Z q w == 0) (2 ^ n))))) D [(om, .inr (2, [.int (nI n), .int (nI a), .int (nI q), .ref my, .ref mz, .int (bI true), .int (if kn = true then sk else -1), .int (bI (kn && mr)), .int (nI u1), .int (nI u2), .ref mv, .int (nI (sd_pos d v)), .int (nI d), .ref mt])), (my, .inl (cI, 24, .inl (fun jq => nI (Y jq)))), (mz, .inl (cI, 24, .inl (fun jq => nI (Z jq)))), (mv, .inl (cZ, 2048, .inl (fun jq => bI ((sd_wn n a (fun w => sd_br Y Z q w == 0)) jq)))), (mt, .inl (cI, 10, .inl T))] A) (([.ref om] : List Value).toArray) s 0 0 A) (F0 m 13 ls []) by
    exact lp (2 ^ n) 0 ls H locs (by omega) hl hP hS
  intro k
  induction k with
  | zero =>
    intro i ls H locs hi hl hP hS
    have hD : va_D A [(om, .inr (2, [.int (nI n), .int (nI a), .int (nI q), .ref my, .ref mz, .int (bI true), .int (if kn = true then sk else -1), .int (bI (kn && mr)), .int (nI u1), .int (nI u2), .ref mv, .int (nI (sd_pos d v)), .int (nI d), .ref mt])), (my, .inl (cI, 24, .inl (fun jq => nI (Y jq)))), (mz, .inl (cI, 24, .inl (fun jq => nI (Z jq)))), (mv, .inl (cZ, 2048, .inl (fun jq => bI ((sd_wn n a (fun w => sd_br Y Z q w == 0)) jq)))), (mt, .inl (cI, 10, .inl T))] := hw_ad hD rfl
    refine lv_iload_n hx hb dX2_models_13 rfl (lv_at hl 2 rfl) ?_
    refine lv_iconst (v := nI 2) hx hb dX2_models_14 (by decide) ?_
    refine lv_aload_n hx hb dX2_models_15 rfl (lv_at hl 0 rfl) ?_
    refine va_get (D := D) (ci := 2) (v := .int (nI n)) (C := RX2) (T := TX2) (N := 14) hx hb ht inX2 hown hK hP 0 rfl rfl 0 (by decide) (ht _ wf_X2_n) (fun _ h9 => h9) rfl dX2_models_16 ?_
    refine lv_ishl hx hb dX2_models_19 ?_
    refine lv_nm (y := nI (2 * 2 ^ n)) (hw_shl2 (by omega)) ?_
    refine lv_icmp_ge (tgt := 46) hx hb dX2_models_20 rfl (fun _ => ?_) (fun hc => absurd (show ¬ (2 * 2 ^ n ≤ 2 ^ n + i) from fun h9 => hc ((nI_leI (by omega) (by omega)).mpr h9)) (by omega))
    refine lv_iload_n hx hb dX2_models_46 rfl (lv_at hl 1 rfl) ?_
    exact W.iret hx hb hr (fun t ht2 _ => ⟨hw_ret (by rw [show i = 2 ^ n by omega]; exact congrArg nI (sd_cn_all (S := (fun w => sd_br Y Z q w == 0)))), by rw [ht2]; exact hP, hS.F ht2⟩) hS.2.2 dX2_models_47
  | succ k ih =>
    intro i ls H locs hi hl hP hS
    have hD : va_D A [(om, .inr (2, [.int (nI n), .int (nI a), .int (nI q), .ref my, .ref mz, .int (bI true), .int (if kn = true then sk else -1), .int (bI (kn && mr)), .int (nI u1), .int (nI u2), .ref mv, .int (nI (sd_pos d v)), .int (nI d), .ref mt])), (my, .inl (cI, 24, .inl (fun jq => nI (Y jq)))), (mz, .inl (cI, 24, .inl (fun jq => nI (Z jq)))), (mv, .inl (cZ, 2048, .inl (fun jq => bI ((sd_wn n a (fun w => sd_br Y Z q w == 0)) jq)))), (mt, .inl (cI, 10, .inl T))] := hw_ad hD rfl
    have hcl := sd_cn_le (fun j => sd_br Y Z q (sd_on n (2 ^ n + j) n) == 0) i
    refine lv_iload_n hx hb dX2_models_13 rfl (lv_at hl 2 rfl) ?_
    refine lv_iconst (v := nI 2) hx hb dX2_models_14 (by decide) ?_
    refine lv_aload_n hx hb dX2_models_15 rfl (lv_at hl 0 rfl) ?_
    refine va_get (D := D) (ci := 2) (v := .int (nI n)) (C := RX2) (T := TX2) (N := 14) hx hb ht inX2 hown hK hP 0 rfl rfl 0 (by decide) (ht _ wf_X2_n) (fun _ h9 => h9) rfl dX2_models_16 ?_
    refine lv_ishl hx hb dX2_models_19 ?_
    refine lv_nm (y := nI (2 * 2 ^ n)) (hw_shl2 (by omega)) ?_
    refine lv_icmp_ge (tgt := 46) hx hb dX2_models_20 rfl (fun hc => absurd (show 2 * 2 ^ n ≤ 2 ^ n + i from (nI_leI (by omega) (by omega)).mp hc) (by omega)) (fun _ => ?_)
    refine lv_aload_n hx hb dX2_models_23 rfl (lv_at hl 0 rfl) ?_
    refine va_get (D := D) (ci := 2) (v := .ref mv) (C := RX2) (T := TX2) (N := 14) hx hb ht inX2 hown hK hP 0 rfl rfl 10 (by decide) (ht _ wf_X2_win) (fun _ h9 => h9) rfl dX2_models_24 ?_
    refine lv_iload_n hx hb dX2_models_27 rfl (lv_at hl 2 rfl) ?_
    refine na_zald (f := sd_wn n a (fun w => sd_br Y Z q w == 0)) hx hb hK hP 3 1 rfl rfl (j := 2 ^ n + i) (by omega) (by omega) dX2_models_28 ?_
    refine lv_nm (y := bI (sd_br Y Z q (sd_on n (2 ^ n + i) n) == 0)) (congrArg bI (sd_wn_leaf (S := (fun w => sd_br Y Z q w == 0)) (by omega) (by omega))) ?_
    suffices mk9 : W p l e (headSpec (kX2_models :: aW) { frames := 4, cells := 0, slots := 0, locals := 87 }).room s m (([.ref om] : List Value).toArray) below meth c H locs 0 0 (MQ below (wQ (some (.int (nI (sd_cn (fun w => sd_br Y Z q w == 0) (2 ^ n))))) D [(om, .inr (2, [.int (nI n), .int (nI a), .int (nI q), .ref my, .ref mz, .int (bI true), .int (if kn = true then sk else -1), .int (bI (kn && mr)), .int (nI u1), .int (nI u2), .ref mv, .int (nI (sd_pos d v)), .int (nI d), .ref mt])), (my, .inl (cI, 24, .inl (fun jq => nI (Y jq)))), (mz, .inl (cI, 24, .inl (fun jq => nI (Z jq)))), (mv, .inl (cZ, 2048, .inl (fun jq => bI ((sd_wn n a (fun w => sd_br Y Z q w == 0)) jq)))), (mt, .inl (cI, 10, .inl T))] A) (([.ref om] : List Value).toArray) s 0 0 A) (F0 m 39 ls [.int (nI (sd_cn (fun j => sd_br Y Z q (sd_on n (2 ^ n + j) n) == 0) (i + 1)))]) by
      refine lv_if_eq (tgt := 38) hx hb dX2_models_29 rfl (fun h1 => ?_) (fun h1 => ?_)
      · have h1 : (sd_br Y Z q (sd_on n (2 ^ n + i) n) == 0) = false := (bI_eq0 _).mp h1
        refine lv_iload_n hx hb dX2_models_38 rfl (lv_at hl 1 rfl) ?_
        refine lv_nm (y := nI (sd_cn (fun j => sd_br Y Z q (sd_on n (2 ^ n + j) n) == 0) (i + 1))) (congrArg nI (sd_cn_f (f := (fun j => sd_br Y Z q (sd_on n (2 ^ n + j) n) == 0)) h1).symm) ?_
        exact mk9
      · have h1 : (sd_br Y Z q (sd_on n (2 ^ n + i) n) == 0) = true := bI_ne0 h1
        refine lv_iload_n hx hb dX2_models_32 rfl (lv_at hl 1 rfl) ?_
        refine lv_iconst (v := nI 1) hx hb dX2_models_33 (by decide) ?_
        refine lv_iadd hx hb dX2_models_34 ?_
        refine lv_nm (y := nI ((sd_cn (fun j => sd_br Y Z q (sd_on n (2 ^ n + j) n) == 0) i) + 1)) (nI_add _ _) ?_
        refine lv_nm (y := nI (sd_cn (fun j => sd_br Y Z q (sd_on n (2 ^ n + j) n) == 0) (i + 1))) (congrArg nI (sd_cn_t (f := (fun j => sd_br Y Z q (sd_on n (2 ^ n + j) n) == 0)) h1).symm) ?_
        refine lv_goto (tgt := 39) hx hb dX2_models_35 rfl ?_
        exact mk9
    refine lv_istore_n hx hb dX2_models_39 rfl hl (by decide) rfl (fun ls hl => ?_)
    have hl : lv_has ls 3 [(1, .int (nI (sd_cn (fun j => sd_br Y Z q (sd_on n (2 ^ n + j) n) == 0) (i + 1)))), (0, .ref om), (2, .int (nI (2 ^ n + i)))] := hl
    refine lv_iinc (k := 2) (v := nI (2 ^ n + (i + 1))) hx hb dX2_models_40 hl rfl (hw_inc _) (by decide) rfl (fun ls hl => ?_)
    have hl : lv_has ls 3 [(2, .int (nI (2 ^ n + (i + 1)))), (1, .int (nI (sd_cn (fun j => sd_br Y Z q (sd_on n (2 ^ n + j) n) == 0) (i + 1)))), (0, .ref om)] := hl
    refine lv_goto (tgt := 13) hx hb dX2_models_43 rfl ?_
    have hl : lv_has ls 3 [(0, .ref om), (1, .int (nI (sd_cn (fun j => sd_br Y Z q (sd_on n (2 ^ n + j) n) == 0) (i + 1)))), (2, .int (nI (2 ^ n + (i + 1))))] := lv_sub hl [2, 1, 0] rfl
    exact ih (i + 1) ls H locs (by omega) hl hP hS

set_option maxHeartbeats 4000000 in
set_option maxRecDepth 100000 in
theorem m_add_bad (l : Launch) (D : va_G) (cI cZ : ClassId) (om my mz mv mt n a q d v u1 u2 : Nat) (kn mr : Bool) (sk : Int32) (Y Z : Nat → Nat) (T : Nat → Int32) (wn : Nat → Bool) (ok : dOk n a q d v Y Z) (y0 z0 : Int32) (hno : ¬ (uN y0 < 2 ^ n ∧ uN z0 < 2 ^ n)) : Met l yX2_add (kX2_add :: aW) { frames := 1, cells := 0, slots := 0, locals := 21 } (rPre [.ref om, .int y0, .int z0] D [(om, .inr (2, [.int (nI n), .int (nI a), .int (nI q), .ref my, .ref mz, .int (bI kn), .int sk, .int (bI mr), .int (nI u1), .int (nI u2), .ref mv, .int (nI (sd_pos d v)), .int (nI d), .ref mt])), (my, .inl (cI, 24, .inl (fun jq => nI (Y jq)))), (mz, .inl (cI, 24, .inl (fun jq => nI (Z jq)))), (mv, .inl (cZ, 2048, .inl (fun jq => bI (wn jq)))), (mt, .inl (cI, 10, .inl T))] [(cI, .int), (cZ, .boolean)]) (QcRead (-1)) 0 0 (fun _ => False) := by
  obtain ⟨hn1, hn, ha, h5, hq, hY, hZ, hd, hv⟩ := id ok
  have h2n := hw_p10 hn
  refine Met.ofW (cc := cX2_add) (maxL := 3) (ret := (some .int)) (by decide) rfl ?_
  intro p e s m args below meth c s₁ Bo hml hpre
  obtain ⟨rfl, hP, hK, hN⟩ := hpre
  have hx := Bo.exec
  have hb := Bo.bytes
  have hr := Bo.returns
  have hts := atoms_spec (ws := kX2_add :: aW) Bo.pre
  have ht : ∀ w ∈ aW, w.before _ s = true := fun w h => hts w (List.mem_cons_of_mem _ h)
  have hown : s.vm.findClass RX2 = some m.cls := findClass_of_methodNamed Bo.named
  have hlocks := Bo.notSynchronized
  have hP : va_P D clS [(om, .inr (2, [.int (nI n), .int (nI a), .int (nI q), .ref my, .ref mz, .int (bI kn), .int sk, .int (bI mr), .int (nI u1), .int (nI u2), .ref mv, .int (nI (sd_pos d v)), .int (nI d), .ref mt])), (my, .inl (cI, 24, .inl (fun jq => nI (Y jq)))), (mz, .inl (cI, 24, .inl (fun jq => nI (Z jq)))), (mv, .inl (cZ, 2048, .inl (fun jq => bI (wn jq)))), (mt, .inl (cI, 10, .inl T))] s.heap := hP
  have hl := lv_entry ([.ref om, .int y0, .int z0]) (n := 3) (Nat.le_of_ble_eq_true rfl)
  rw [lg_entry_eq]
  generalize (lg_sl ([.ref om, .int y0, .int z0]) ++ List.replicate (3 - (lg_sl ([.ref om, .int y0, .int z0])).length) Slot.unset).toArray = ls at hl ⊢
  have hl : lv_has ls 3 [(0, .ref om), (1, .int y0), (2, .int z0)] := hl
  refine lv_aload_n hx hb dX2_add_0 rfl (lv_at hl 0 rfl) ?_
  refine lv_iload_n hx hb dX2_add_1 rfl (lv_at hl 1 rfl) ?_
  refine hw_callR (va_runV (b := om) (As := [.int y0]) (rest := []) ⟨hx, hb, hml, hown, ht⟩ (m_strange l D cI cZ om my mz mv mt n a q d v u1 u2 kn mr sk Y Z T wn ok y0) (cwV 1 ht (gV wm_X2_X2_strange wi_X2_strange ws_X2_strange wn_X2 wc_X2_strange) rfl rfl rfl (by decide +kernel) ⟨Nat.le_of_ble_eq_true rfl, Nat.le_of_ble_eq_true rfl⟩) (rPre_V 0 hP hK hN rfl rfl) rfl rfl hl.1 rfl (lv_room (Nat.le_of_ble_eq_true rfl)) dX2_add_2 ⟨Nat.zero_le _, Nat.zero_le _⟩) ?_
  refine lv_if_ne (tgt := 16) hx hb dX2_add_5 rfl (fun h1 => ?_) (fun h1 => ?_)
  · have h1 : (!decide (uN y0 < 2 ^ n)) = true := bI_ne0 h1
    refine lv_iconst (v := (-1)) hx hb dX2_add_16 (by decide) ?_
    exact W.iret hx hb hr (fun t ht2 _ => ⟨hw_ret (rfl), ht2⟩) (fun _ h => by cases h) dX2_add_17
  · have h1 : (!decide (uN y0 < 2 ^ n)) = false := (bI_eq0 _).mp h1
    refine lv_aload_n hx hb dX2_add_8 rfl (lv_at hl 0 rfl) ?_
    refine lv_iload_n hx hb dX2_add_9 rfl (lv_at hl 2 rfl) ?_
    refine hw_callR (va_runV (b := om) (As := [.int z0]) (rest := []) ⟨hx, hb, hml, hown, ht⟩ (m_strange l D cI cZ om my mz mv mt n a q d v u1 u2 kn mr sk Y Z T wn ok z0) (cwV 1 ht (gV wm_X2_X2_strange wi_X2_strange ws_X2_strange wn_X2 wc_X2_strange) rfl rfl rfl (by decide +kernel) ⟨Nat.le_of_ble_eq_true rfl, Nat.le_of_ble_eq_true rfl⟩) (rPre_V 0 hP hK hN rfl rfl) rfl rfl hl.1 rfl (lv_room (Nat.le_of_ble_eq_true rfl)) dX2_add_10 ⟨Nat.zero_le _, Nat.zero_le _⟩) ?_
    refine lv_if_eq (tgt := 18) hx hb dX2_add_13 rfl (fun h2 => ?_) (fun h2 => ?_)
    · have h2 : (!decide (uN z0 < 2 ^ n)) = false := (bI_eq0 _).mp h2
      exact absurd ⟨by simpa using h1, by simpa using h2⟩ hno
    · have h2 : (!decide (uN z0 < 2 ^ n)) = true := bI_ne0 h2
      refine lv_iconst (v := (-1)) hx hb dX2_add_16 (by decide) ?_
      exact W.iret hx hb hr (fun t ht2 _ => ⟨hw_ret (rfl), ht2⟩) (fun _ h => by cases h) dX2_add_17

set_option maxHeartbeats 4000000 in
set_option maxRecDepth 100000 in
theorem m_add_full (l : Launch) (D : va_G) (cI cZ : ClassId) (om my mz mv mt n a q d v u1 u2 : Nat) (kn mr : Bool) (sk : Int32) (Y Z : Nat → Nat) (T : Nat → Int32) (wn : Nat → Bool) (ok : dOk n a q d v Y Z) (y z : Nat) (hy : y < 2 ^ n) (hz : z < 2 ^ n) (hfull : q = 24) : Met l yX2_add (kX2_add :: aW) { frames := 1, cells := 0, slots := 0, locals := 21 } (rPre [.ref om, .int (nI y), .int (nI z)] D [(om, .inr (2, [.int (nI n), .int (nI a), .int (nI q), .ref my, .ref mz, .int (bI kn), .int sk, .int (bI mr), .int (nI u1), .int (nI u2), .ref mv, .int (nI (sd_pos d v)), .int (nI d), .ref mt])), (my, .inl (cI, 24, .inl (fun jq => nI (Y jq)))), (mz, .inl (cI, 24, .inl (fun jq => nI (Z jq)))), (mv, .inl (cZ, 2048, .inl (fun jq => bI (wn jq)))), (mt, .inl (cI, 10, .inl T))] [(cI, .int), (cZ, .boolean)]) (QcRead (-2)) 0 0 (fun _ => False) := by
  obtain ⟨hn1, hn, ha, h5, hq, hY, hZ, hd, hv⟩ := id ok
  have h2n := hw_p10 hn
  refine Met.ofW (cc := cX2_add) (maxL := 3) (ret := (some .int)) (by decide) rfl ?_
  intro p e s m args below meth c s₁ Bo hml hpre
  obtain ⟨rfl, hP, hK, hN⟩ := hpre
  have hx := Bo.exec
  have hb := Bo.bytes
  have hr := Bo.returns
  have hts := atoms_spec (ws := kX2_add :: aW) Bo.pre
  have ht : ∀ w ∈ aW, w.before _ s = true := fun w h => hts w (List.mem_cons_of_mem _ h)
  have hown : s.vm.findClass RX2 = some m.cls := findClass_of_methodNamed Bo.named
  have hlocks := Bo.notSynchronized
  have hP : va_P D clS [(om, .inr (2, [.int (nI n), .int (nI a), .int (nI q), .ref my, .ref mz, .int (bI kn), .int sk, .int (bI mr), .int (nI u1), .int (nI u2), .ref mv, .int (nI (sd_pos d v)), .int (nI d), .ref mt])), (my, .inl (cI, 24, .inl (fun jq => nI (Y jq)))), (mz, .inl (cI, 24, .inl (fun jq => nI (Z jq)))), (mv, .inl (cZ, 2048, .inl (fun jq => bI (wn jq)))), (mt, .inl (cI, 10, .inl T))] s.heap := hP
  have hl := lv_entry ([.ref om, .int (nI y), .int (nI z)]) (n := 3) (Nat.le_of_ble_eq_true rfl)
  rw [lg_entry_eq]
  generalize (lg_sl ([.ref om, .int (nI y), .int (nI z)]) ++ List.replicate (3 - (lg_sl ([.ref om, .int (nI y), .int (nI z)])).length) Slot.unset).toArray = ls at hl ⊢
  have hl : lv_has ls 3 [(0, .ref om), (1, .int (nI y)), (2, .int (nI z))] := hl
  refine lv_aload_n hx hb dX2_add_0 rfl (lv_at hl 0 rfl) ?_
  refine lv_iload_n hx hb dX2_add_1 rfl (lv_at hl 1 rfl) ?_
  refine hw_callR (va_runV (b := om) (As := [.int (nI y)]) (rest := []) ⟨hx, hb, hml, hown, ht⟩ (m_strange l D cI cZ om my mz mv mt n a q d v u1 u2 kn mr sk Y Z T wn ok (nI y)) (cwV 1 ht (gV wm_X2_X2_strange wi_X2_strange ws_X2_strange wn_X2 wc_X2_strange) rfl rfl rfl (by decide +kernel) ⟨Nat.le_of_ble_eq_true rfl, Nat.le_of_ble_eq_true rfl⟩) (rPre_V 0 hP hK hN rfl rfl) rfl rfl hl.1 rfl (lv_room (Nat.le_of_ble_eq_true rfl)) dX2_add_2 ⟨Nat.zero_le _, Nat.zero_le _⟩) ?_
  refine lv_nm (y := bI false) (congrArg bI (by rw [uN_nI (by omega), decide_eq_true hy]; rfl)) ?_
  refine lv_if_ne (tgt := 16) hx hb dX2_add_5 rfl (fun hc => absurd (show false = true from bI_ne0 hc) (by decide)) (fun _ => ?_)
  refine lv_aload_n hx hb dX2_add_8 rfl (lv_at hl 0 rfl) ?_
  refine lv_iload_n hx hb dX2_add_9 rfl (lv_at hl 2 rfl) ?_
  refine hw_callR (va_runV (b := om) (As := [.int (nI z)]) (rest := []) ⟨hx, hb, hml, hown, ht⟩ (m_strange l D cI cZ om my mz mv mt n a q d v u1 u2 kn mr sk Y Z T wn ok (nI z)) (cwV 1 ht (gV wm_X2_X2_strange wi_X2_strange ws_X2_strange wn_X2 wc_X2_strange) rfl rfl rfl (by decide +kernel) ⟨Nat.le_of_ble_eq_true rfl, Nat.le_of_ble_eq_true rfl⟩) (rPre_V 0 hP hK hN rfl rfl) rfl rfl hl.1 rfl (lv_room (Nat.le_of_ble_eq_true rfl)) dX2_add_10 ⟨Nat.zero_le _, Nat.zero_le _⟩) ?_
  refine lv_nm (y := bI false) (congrArg bI (by rw [uN_nI (by omega), decide_eq_true hz]; rfl)) ?_
  refine lv_if_eq (tgt := 18) hx hb dX2_add_13 rfl (fun _ => ?_) (fun hc => absurd (show false = true from bI_ne0 hc) (by decide))
  refine lv_aload_n hx hb dX2_add_18 rfl (lv_at hl 0 rfl) ?_
  refine va_get (D := D) (ci := 2) (v := .int (nI q)) (C := RX2) (T := TX2) (N := 14) hx hb ht inX2 hown hK hP 0 rfl rfl 2 (by decide) (ht _ wf_X2_many) (fun _ h9 => h9) rfl dX2_add_19 ?_
  refine lv_bipush (v := nI 24) hx hb dX2_add_22 (by decide) ?_
  refine lv_icmp_ne (tgt := 30) hx hb dX2_add_24 rfl (fun hc => absurd (show ¬ (q = 24) from fun h9 => hc ((nI_eq (by omega) (by omega)).mpr h9)) (by omega)) (fun _ => ?_)
  refine lv_bipush (v := (-2)) hx hb dX2_add_27 (by decide) ?_
  exact W.iret hx hb hr (fun t ht2 _ => ⟨hw_ret (rfl), ht2⟩) (fun _ h => by cases h) dX2_add_29

set_option maxHeartbeats 4000000 in
set_option maxRecDepth 100000 in
theorem m_add (l : Launch) (D : va_G) (cI cZ : ClassId) (om my mz mv mt n a q d v u1 u2 : Nat) (kn mr : Bool) (sk : Int32) (Y Z : Nat → Nat) (T : Nat → Int32) (wn : Nat → Bool) (ok : dOk n a q d v Y Z) (sz : Nat) (y z : Nat) (hy : y < 2 ^ n) (hz : z < 2 ^ n) (hfull : q < 24) : Met l yX2_add (kX2_add :: aW) { frames := 1, cells := 0, slots := 0, locals := 21 } (wPre [.ref om, .int (nI y), .int (nI z)] D [(om, .inr (2, [.int (nI n), .int (nI a), .int (nI q), .ref my, .ref mz, .int (bI kn), .int sk, .int (bI mr), .int (nI u1), .int (nI u2), .ref mv, .int (nI (sd_pos d v)), .int (nI d), .ref mt])), (my, .inl (cI, 24, .inl (fun jq => nI (Y jq)))), (mz, .inl (cI, 24, .inl (fun jq => nI (Z jq)))), (mv, .inl (cZ, 2048, .inl (fun jq => bI (wn jq)))), (mt, .inl (cI, 10, .inl T))] [(cI, .int), (cZ, .boolean)] sz) (wQ (some (.int (nI q))) D [(om, .inr (2, [.int (nI n), .int (nI a), .int (nI (q + 1)), .ref my, .ref mz, .int (bI false), .int sk, .int (bI mr), .int (nI u1), .int (nI u2), .ref mv, .int (nI (sd_pos d v)), .int (nI d), .ref mt])), (my, .inl (cI, 24, .inl (fun jq => nI ((va_up Y q y) jq)))), (mz, .inl (cI, 24, .inl (fun jq => nI ((va_up Z q z) jq)))), (mv, .inl (cZ, 2048, .inl (fun jq => bI (wn jq)))), (mt, .inl (cI, 10, .inl T))] (va_A [(om, .inr (2, [.int (nI n), .int (nI a), .int (nI q), .ref my, .ref mz, .int (bI kn), .int sk, .int (bI mr), .int (nI u1), .int (nI u2), .ref mv, .int (nI (sd_pos d v)), .int (nI d), .ref mt])), (my, .inl (cI, 24, .inl (fun jq => nI (Y jq)))), (mz, .inl (cI, 24, .inl (fun jq => nI (Z jq)))), (mv, .inl (cZ, 2048, .inl (fun jq => bI (wn jq)))), (mt, .inl (cI, 10, .inl T))] sz)) 0 0 (va_A [(om, .inr (2, [.int (nI n), .int (nI a), .int (nI q), .ref my, .ref mz, .int (bI kn), .int sk, .int (bI mr), .int (nI u1), .int (nI u2), .ref mv, .int (nI (sd_pos d v)), .int (nI d), .ref mt])), (my, .inl (cI, 24, .inl (fun jq => nI (Y jq)))), (mz, .inl (cI, 24, .inl (fun jq => nI (Z jq)))), (mv, .inl (cZ, 2048, .inl (fun jq => bI (wn jq)))), (mt, .inl (cI, 10, .inl T))] sz) := by
  obtain ⟨hn1, hn, ha, h5, hq, hY, hZ, hd, hv⟩ := id ok
  have h2n := hw_p10 hn
  refine Met.ofW (cc := cX2_add) (maxL := 3) (ret := (some .int)) (by decide) rfl ?_
  intro p e s m args below meth c s₁ Bo hml hpre
  obtain ⟨rfl, hsz, hP, hK, hN, hD0⟩ := hpre
  subst hsz
  have hD := hD0.self (sz := s.heap.size)
  generalize hAe : va_A [(om, .inr (2, [.int (nI n), .int (nI a), .int (nI q), .ref my, .ref mz, .int (bI kn), .int sk, .int (bI mr), .int (nI u1), .int (nI u2), .ref mv, .int (nI (sd_pos d v)), .int (nI d), .ref mt])), (my, .inl (cI, 24, .inl (fun jq => nI (Y jq)))), (mz, .inl (cI, 24, .inl (fun jq => nI (Z jq)))), (mv, .inl (cZ, 2048, .inl (fun jq => bI (wn jq)))), (mt, .inl (cI, 10, .inl T))] s.heap.size = A at hD ⊢
  have hA : ∀ q : Nat, s.heap.size ≤ q → A q := fun q h => by rw [← hAe]; exact Or.inr h
  have hS : va_S A s.heap s.heap [] := va_S.rf
  have hx := Bo.exec
  have hb := Bo.bytes
  have hr := Bo.returns
  have hts := atoms_spec (ws := kX2_add :: aW) Bo.pre
  have ht : ∀ w ∈ aW, w.before _ s = true := fun w h => hts w (List.mem_cons_of_mem _ h)
  have hown : s.vm.findClass RX2 = some m.cls := findClass_of_methodNamed Bo.named
  have hlocks := Bo.notSynchronized
  have hP : va_P D clS [(om, .inr (2, [.int (nI n), .int (nI a), .int (nI q), .ref my, .ref mz, .int (bI kn), .int sk, .int (bI mr), .int (nI u1), .int (nI u2), .ref mv, .int (nI (sd_pos d v)), .int (nI d), .ref mt])), (my, .inl (cI, 24, .inl (fun jq => nI (Y jq)))), (mz, .inl (cI, 24, .inl (fun jq => nI (Z jq)))), (mv, .inl (cZ, 2048, .inl (fun jq => bI (wn jq)))), (mt, .inl (cI, 10, .inl T))] s.heap := hP
  have hl := lv_entry ([.ref om, .int (nI y), .int (nI z)]) (n := 3) (Nat.le_of_ble_eq_true rfl)
  rw [lg_entry_eq]
  generalize (lg_sl ([.ref om, .int (nI y), .int (nI z)]) ++ List.replicate (3 - (lg_sl ([.ref om, .int (nI y), .int (nI z)])).length) Slot.unset).toArray = ls at hl ⊢
  have hl : lv_has ls 3 [(0, .ref om), (1, .int (nI y)), (2, .int (nI z))] := hl
  refine lv_aload_n hx hb dX2_add_0 rfl (lv_at hl 0 rfl) ?_
  refine lv_iload_n hx hb dX2_add_1 rfl (lv_at hl 1 rfl) ?_
  refine hw_callR (va_runV (b := om) (As := [.int (nI y)]) (rest := []) ⟨hx, hb, hml, hown, ht⟩ (m_strange l D cI cZ om my mz mv mt n a q d v u1 u2 kn mr sk Y Z T wn ok (nI y)) (cwV 1 ht (gV wm_X2_X2_strange wi_X2_strange ws_X2_strange wn_X2 wc_X2_strange) rfl rfl rfl (by decide +kernel) ⟨Nat.le_of_ble_eq_true rfl, Nat.le_of_ble_eq_true rfl⟩) (rPre_V 0 hP hK hN rfl rfl) rfl rfl hl.1 rfl (lv_room (Nat.le_of_ble_eq_true rfl)) dX2_add_2 ⟨Nat.zero_le _, Nat.zero_le _⟩) ?_
  refine lv_nm (y := bI false) (congrArg bI (by rw [uN_nI (by omega), decide_eq_true hy]; rfl)) ?_
  refine lv_if_ne (tgt := 16) hx hb dX2_add_5 rfl (fun hc => absurd (show false = true from bI_ne0 hc) (by decide)) (fun _ => ?_)
  refine lv_aload_n hx hb dX2_add_8 rfl (lv_at hl 0 rfl) ?_
  refine lv_iload_n hx hb dX2_add_9 rfl (lv_at hl 2 rfl) ?_
  refine hw_callR (va_runV (b := om) (As := [.int (nI z)]) (rest := []) ⟨hx, hb, hml, hown, ht⟩ (m_strange l D cI cZ om my mz mv mt n a q d v u1 u2 kn mr sk Y Z T wn ok (nI z)) (cwV 1 ht (gV wm_X2_X2_strange wi_X2_strange ws_X2_strange wn_X2 wc_X2_strange) rfl rfl rfl (by decide +kernel) ⟨Nat.le_of_ble_eq_true rfl, Nat.le_of_ble_eq_true rfl⟩) (rPre_V 0 hP hK hN rfl rfl) rfl rfl hl.1 rfl (lv_room (Nat.le_of_ble_eq_true rfl)) dX2_add_10 ⟨Nat.zero_le _, Nat.zero_le _⟩) ?_
  refine lv_nm (y := bI false) (congrArg bI (by rw [uN_nI (by omega), decide_eq_true hz]; rfl)) ?_
  refine lv_if_eq (tgt := 18) hx hb dX2_add_13 rfl (fun _ => ?_) (fun hc => absurd (show false = true from bI_ne0 hc) (by decide))
  refine lv_aload_n hx hb dX2_add_18 rfl (lv_at hl 0 rfl) ?_
  refine va_get (D := D) (ci := 2) (v := .int (nI q)) (C := RX2) (T := TX2) (N := 14) hx hb ht inX2 hown hK hP 0 rfl rfl 2 (by decide) (ht _ wf_X2_many) (fun _ h9 => h9) rfl dX2_add_19 ?_
  refine lv_bipush (v := nI 24) hx hb dX2_add_22 (by decide) ?_
  refine lv_icmp_ne (tgt := 30) hx hb dX2_add_24 rfl (fun _ => ?_) (fun hc => absurd (show q = 24 from (nI_eq (by omega) (by omega)).mp hc) (by omega))
  refine lv_aload_n hx hb dX2_add_30 rfl (lv_at hl 0 rfl) ?_
  refine va_get (D := D) (ci := 2) (v := .ref my) (C := RX2) (T := TX2) (N := 14) hx hb ht inX2 hown hK hP 0 rfl rfl 3 (by decide) (ht _ wf_X2_yes) (fun _ h9 => h9) rfl dX2_add_31 ?_
  refine lv_aload_n hx hb dX2_add_34 rfl (lv_at hl 0 rfl) ?_
  refine va_get (D := D) (ci := 2) (v := .int (nI q)) (C := RX2) (T := TX2) (N := 14) hx hb ht inX2 hown hK hP 0 rfl rfl 2 (by decide) (ht _ wf_X2_many) (fun _ h9 => h9) rfl dX2_add_35 ?_
  refine lv_iload_n hx hb dX2_add_38 rfl (lv_at hl 1 rfl) ?_
  refine na_nast (f := Y) (x := y) hx hb hK hP hD hS 1 0 rfl rfl (j := q) (by omega) (by omega) dX2_add_39 (fun H locs hP hD hS => ?_)
  have hP : va_P D clS [(om, .inr (2, [.int (nI n), .int (nI a), .int (nI q), .ref my, .ref mz, .int (bI kn), .int sk, .int (bI mr), .int (nI u1), .int (nI u2), .ref mv, .int (nI (sd_pos d v)), .int (nI d), .ref mt])), (my, .inl (cI, 24, .inl (fun jq => nI ((va_up Y q y) jq)))), (mz, .inl (cI, 24, .inl (fun jq => nI (Z jq)))), (mv, .inl (cZ, 2048, .inl (fun jq => bI (wn jq)))), (mt, .inl (cI, 10, .inl T))] H := hP
  have hD : va_D A [(om, .inr (2, [.int (nI n), .int (nI a), .int (nI q), .ref my, .ref mz, .int (bI kn), .int sk, .int (bI mr), .int (nI u1), .int (nI u2), .ref mv, .int (nI (sd_pos d v)), .int (nI d), .ref mt])), (my, .inl (cI, 24, .inl (fun jq => nI ((va_up Y q y) jq)))), (mz, .inl (cI, 24, .inl (fun jq => nI (Z jq)))), (mv, .inl (cZ, 2048, .inl (fun jq => bI (wn jq)))), (mt, .inl (cI, 10, .inl T))] := hD
  refine lv_aload_n hx hb dX2_add_40 rfl (lv_at hl 0 rfl) ?_
  refine va_get (D := D) (ci := 2) (v := .ref mz) (C := RX2) (T := TX2) (N := 14) hx hb ht inX2 hown hK hP 0 rfl rfl 4 (by decide) (ht _ wf_X2_no) (fun _ h9 => h9) rfl dX2_add_41 ?_
  refine lv_aload_n hx hb dX2_add_44 rfl (lv_at hl 0 rfl) ?_
  refine va_get (D := D) (ci := 2) (v := .int (nI q)) (C := RX2) (T := TX2) (N := 14) hx hb ht inX2 hown hK hP 0 rfl rfl 2 (by decide) (ht _ wf_X2_many) (fun _ h9 => h9) rfl dX2_add_45 ?_
  refine lv_iload_n hx hb dX2_add_48 rfl (lv_at hl 2 rfl) ?_
  refine na_nast (f := Z) (x := z) hx hb hK hP hD hS 2 0 rfl rfl (j := q) (by omega) (by omega) dX2_add_49 (fun H locs hP hD hS => ?_)
  have hP : va_P D clS [(om, .inr (2, [.int (nI n), .int (nI a), .int (nI q), .ref my, .ref mz, .int (bI kn), .int sk, .int (bI mr), .int (nI u1), .int (nI u2), .ref mv, .int (nI (sd_pos d v)), .int (nI d), .ref mt])), (my, .inl (cI, 24, .inl (fun jq => nI ((va_up Y q y) jq)))), (mz, .inl (cI, 24, .inl (fun jq => nI ((va_up Z q z) jq)))), (mv, .inl (cZ, 2048, .inl (fun jq => bI (wn jq)))), (mt, .inl (cI, 10, .inl T))] H := hP
  have hD : va_D A [(om, .inr (2, [.int (nI n), .int (nI a), .int (nI q), .ref my, .ref mz, .int (bI kn), .int sk, .int (bI mr), .int (nI u1), .int (nI u2), .ref mv, .int (nI (sd_pos d v)), .int (nI d), .ref mt])), (my, .inl (cI, 24, .inl (fun jq => nI ((va_up Y q y) jq)))), (mz, .inl (cI, 24, .inl (fun jq => nI ((va_up Z q z) jq)))), (mv, .inl (cZ, 2048, .inl (fun jq => bI (wn jq)))), (mt, .inl (cI, 10, .inl T))] := hD
  refine lv_aload_n hx hb dX2_add_50 rfl (lv_at hl 0 rfl) ?_
  refine lv_dup hx hb dX2_add_51 rfl ?_
  refine va_get (D := D) (ci := 2) (v := .int (nI q)) (C := RX2) (T := TX2) (N := 14) hx hb ht inX2 hown hK hP 0 rfl rfl 2 (by decide) (ht _ wf_X2_many) (fun _ h9 => h9) rfl dX2_add_52 ?_
  refine lv_iconst (v := nI 1) hx hb dX2_add_55 (by decide) ?_
  refine lv_iadd hx hb dX2_add_56 ?_
  refine lv_nm (y := nI (q + 1)) (nI_add _ _) ?_
  refine va_put (D := D) (ci := 2) (v := .int (nI (q + 1))) (ty := .int) (C := RX2) (T := TX2) (N := 14) hx hb ht inX2 tyX2 tyX2_ok nmX2 hown hK hP hD hS 0 rfl rfl 2 (by decide) (ht _ wf_X2_many) (fun _ h9 => h9) rfl (by decide +kernel) rfl rfl (Nat.le_of_ble_eq_true rfl) dX2_add_57 (fun H locs hP hD hS => ?_)
  have hP : va_P D clS [(om, .inr (2, [.int (nI n), .int (nI a), .int (nI (q + 1)), .ref my, .ref mz, .int (bI kn), .int sk, .int (bI mr), .int (nI u1), .int (nI u2), .ref mv, .int (nI (sd_pos d v)), .int (nI d), .ref mt])), (my, .inl (cI, 24, .inl (fun jq => nI ((va_up Y q y) jq)))), (mz, .inl (cI, 24, .inl (fun jq => nI ((va_up Z q z) jq)))), (mv, .inl (cZ, 2048, .inl (fun jq => bI (wn jq)))), (mt, .inl (cI, 10, .inl T))] H := hP
  have hD : va_D A [(om, .inr (2, [.int (nI n), .int (nI a), .int (nI (q + 1)), .ref my, .ref mz, .int (bI kn), .int sk, .int (bI mr), .int (nI u1), .int (nI u2), .ref mv, .int (nI (sd_pos d v)), .int (nI d), .ref mt])), (my, .inl (cI, 24, .inl (fun jq => nI ((va_up Y q y) jq)))), (mz, .inl (cI, 24, .inl (fun jq => nI ((va_up Z q z) jq)))), (mv, .inl (cZ, 2048, .inl (fun jq => bI (wn jq)))), (mt, .inl (cI, 10, .inl T))] := hD
  refine lv_aload_n hx hb dX2_add_60 rfl (lv_at hl 0 rfl) ?_
  refine lv_iconst (v := nI 0) hx hb dX2_add_61 (by decide) ?_
  refine va_put (D := D) (ci := 2) (v := .int (bI false)) (ty := .boolean) (C := RX2) (T := TX2) (N := 14) hx hb ht inX2 tyX2 tyX2_ok nmX2 hown hK hP hD hS 0 rfl rfl 5 (by decide) (ht _ wf_X2_known) (fun _ h9 => h9) rfl (by decide +kernel) (bI_nar _) (bI_fit _) (Nat.le_of_ble_eq_true rfl) dX2_add_62 (fun H locs hP hD hS => ?_)
  have hP : va_P D clS [(om, .inr (2, [.int (nI n), .int (nI a), .int (nI (q + 1)), .ref my, .ref mz, .int (bI false), .int sk, .int (bI mr), .int (nI u1), .int (nI u2), .ref mv, .int (nI (sd_pos d v)), .int (nI d), .ref mt])), (my, .inl (cI, 24, .inl (fun jq => nI ((va_up Y q y) jq)))), (mz, .inl (cI, 24, .inl (fun jq => nI ((va_up Z q z) jq)))), (mv, .inl (cZ, 2048, .inl (fun jq => bI (wn jq)))), (mt, .inl (cI, 10, .inl T))] H := hP
  have hD : va_D A [(om, .inr (2, [.int (nI n), .int (nI a), .int (nI (q + 1)), .ref my, .ref mz, .int (bI false), .int sk, .int (bI mr), .int (nI u1), .int (nI u2), .ref mv, .int (nI (sd_pos d v)), .int (nI d), .ref mt])), (my, .inl (cI, 24, .inl (fun jq => nI ((va_up Y q y) jq)))), (mz, .inl (cI, 24, .inl (fun jq => nI ((va_up Z q z) jq)))), (mv, .inl (cZ, 2048, .inl (fun jq => bI (wn jq)))), (mt, .inl (cI, 10, .inl T))] := hD
  refine lv_aload_n hx hb dX2_add_65 rfl (lv_at hl 0 rfl) ?_
  refine va_get (D := D) (ci := 2) (v := .int (nI (q + 1))) (C := RX2) (T := TX2) (N := 14) hx hb ht inX2 hown hK hP 0 rfl rfl 2 (by decide) (ht _ wf_X2_many) (fun _ h9 => h9) rfl dX2_add_66 ?_
  refine lv_iconst (v := nI 1) hx hb dX2_add_69 (by decide) ?_
  refine lv_isub hx hb dX2_add_70 ?_
  refine lv_nm (y := nI q) (nI_pred _) ?_
  exact W.iret hx hb hr (fun t ht2 _ => ⟨hw_ret (rfl), by rw [ht2]; exact hP, hS.F ht2⟩) hS.2.2 dX2_add_71

set_option maxHeartbeats 4000000 in
set_option maxRecDepth 100000 in
theorem m_drop_no (l : Launch) (D : va_G) (cI cZ : ClassId) (om my mz mv mt n a q d v u1 u2 : Nat) (kn mr : Bool) (sk : Int32) (Y Z : Nat → Nat) (T : Nat → Int32) (wn : Nat → Bool) (ok : dOk n a q d v Y Z) (x : Int32) (hno : ¬ uN x < q) : Met l yX2_drop (kX2_drop :: aW) { frames := 1, cells := 0, slots := 0, locals := 21 } (rPre [.ref om, .int x] D [(om, .inr (2, [.int (nI n), .int (nI a), .int (nI q), .ref my, .ref mz, .int (bI kn), .int sk, .int (bI mr), .int (nI u1), .int (nI u2), .ref mv, .int (nI (sd_pos d v)), .int (nI d), .ref mt])), (my, .inl (cI, 24, .inl (fun jq => nI (Y jq)))), (mz, .inl (cI, 24, .inl (fun jq => nI (Z jq)))), (mv, .inl (cZ, 2048, .inl (fun jq => bI (wn jq)))), (mt, .inl (cI, 10, .inl T))] [(cI, .int), (cZ, .boolean)]) (QcRead (bI false)) 0 0 (fun _ => False) := by
  obtain ⟨hn1, hn, ha, h5, hq, hY, hZ, hd, hv⟩ := id ok
  have h2n := hw_p10 hn
  refine Met.ofW (cc := cX2_drop) (maxL := 3) (ret := (some .boolean)) (by decide) rfl ?_
  intro p e s m args below meth c s₁ Bo hml hpre
  obtain ⟨rfl, hP, hK, hN⟩ := hpre
  have hx := Bo.exec
  have hb := Bo.bytes
  have hr := Bo.returns
  have hts := atoms_spec (ws := kX2_drop :: aW) Bo.pre
  have ht : ∀ w ∈ aW, w.before _ s = true := fun w h => hts w (List.mem_cons_of_mem _ h)
  have hown : s.vm.findClass RX2 = some m.cls := findClass_of_methodNamed Bo.named
  have hlocks := Bo.notSynchronized
  have hP : va_P D clS [(om, .inr (2, [.int (nI n), .int (nI a), .int (nI q), .ref my, .ref mz, .int (bI kn), .int sk, .int (bI mr), .int (nI u1), .int (nI u2), .ref mv, .int (nI (sd_pos d v)), .int (nI d), .ref mt])), (my, .inl (cI, 24, .inl (fun jq => nI (Y jq)))), (mz, .inl (cI, 24, .inl (fun jq => nI (Z jq)))), (mv, .inl (cZ, 2048, .inl (fun jq => bI (wn jq)))), (mt, .inl (cI, 10, .inl T))] s.heap := hP
  have hl := lv_entry ([.ref om, .int x]) (n := 3) (Nat.le_of_ble_eq_true rfl)
  rw [lg_entry_eq]
  generalize (lg_sl ([.ref om, .int x]) ++ List.replicate (3 - (lg_sl ([.ref om, .int x])).length) Slot.unset).toArray = ls at hl ⊢
  have hl : lv_has ls 3 [(0, .ref om), (1, .int x)] := hl
  refine lv_aload_n hx hb dX2_drop_0 rfl (lv_at hl 0 rfl) ?_
  refine lv_iload_n hx hb dX2_drop_1 rfl (lv_at hl 1 rfl) ?_
  refine hw_callR (va_runV (b := om) (As := [.int x]) (rest := []) ⟨hx, hb, hml, hown, ht⟩ (m_noClause l D cI cZ om my mz mv mt n a q d v u1 u2 kn mr sk Y Z T wn ok x) (cwV 1 ht (gV wm_X2_X2_noClause wi_X2_noClause ws_X2_noClause wn_X2 wc_X2_noClause) rfl rfl rfl (by decide +kernel) ⟨Nat.le_of_ble_eq_true rfl, Nat.le_of_ble_eq_true rfl⟩) (rPre_V 0 hP hK hN rfl rfl) rfl rfl hl.1 rfl (lv_room (Nat.le_of_ble_eq_true rfl)) dX2_drop_2 ⟨Nat.zero_le _, Nat.zero_le _⟩) ?_
  refine lv_if_eq (tgt := 10) hx hb dX2_drop_5 rfl (fun h1 => ?_) (fun h1 => ?_)
  · have h1 : (!decide (uN x < q)) = false := (bI_eq0 _).mp h1
    exact absurd (by simpa using h1) hno
  · have h1 : (!decide (uN x < q)) = true := bI_ne0 h1
    refine lv_iconst (v := nI 0) hx hb dX2_drop_8 (by decide) ?_
    exact W.zret hx hb hr rfl (fun t ht2 _ => ⟨hw_ret (rfl), ht2⟩) (fun _ h => by cases h) dX2_drop_9

set_option maxHeartbeats 4000000 in
set_option maxRecDepth 100000 in
theorem m_idle_no (l : Launch) (D : va_G) (cI cZ : ClassId) (om my mz mv mt n a q d v u1 u2 : Nat) (kn mr : Bool) (sk : Int32) (Y Z : Nat → Nat) (T : Nat → Int32) (wn : Nat → Bool) (ok : dOk n a q d v Y Z) (x : Int32) (hno : ¬ uN x < q) : Met l yX2_idle (kX2_idle :: aW) { frames := 4, cells := 0, slots := 0, locals := 87 } (rPre [.ref om, .int x] D [(om, .inr (2, [.int (nI n), .int (nI a), .int (nI q), .ref my, .ref mz, .int (bI kn), .int sk, .int (bI mr), .int (nI u1), .int (nI u2), .ref mv, .int (nI (sd_pos d v)), .int (nI d), .ref mt])), (my, .inl (cI, 24, .inl (fun jq => nI (Y jq)))), (mz, .inl (cI, 24, .inl (fun jq => nI (Z jq)))), (mv, .inl (cZ, 2048, .inl (fun jq => bI (wn jq)))), (mt, .inl (cI, 10, .inl T))] [(cI, .int), (cZ, .boolean)]) (QcRead (bI false)) 0 0 (fun _ => False) := by
  obtain ⟨hn1, hn, ha, h5, hq, hY, hZ, hd, hv⟩ := id ok
  have h2n := hw_p10 hn
  refine Met.ofW (cc := cX2_idle) (maxL := 3) (ret := (some .boolean)) (by decide) rfl ?_
  intro p e s m args below meth c s₁ Bo hml hpre
  obtain ⟨rfl, hP, hK, hN⟩ := hpre
  have hx := Bo.exec
  have hb := Bo.bytes
  have hr := Bo.returns
  have hts := atoms_spec (ws := kX2_idle :: aW) Bo.pre
  have ht : ∀ w ∈ aW, w.before _ s = true := fun w h => hts w (List.mem_cons_of_mem _ h)
  have hown : s.vm.findClass RX2 = some m.cls := findClass_of_methodNamed Bo.named
  have hlocks := Bo.notSynchronized
  have hP : va_P D clS [(om, .inr (2, [.int (nI n), .int (nI a), .int (nI q), .ref my, .ref mz, .int (bI kn), .int sk, .int (bI mr), .int (nI u1), .int (nI u2), .ref mv, .int (nI (sd_pos d v)), .int (nI d), .ref mt])), (my, .inl (cI, 24, .inl (fun jq => nI (Y jq)))), (mz, .inl (cI, 24, .inl (fun jq => nI (Z jq)))), (mv, .inl (cZ, 2048, .inl (fun jq => bI (wn jq)))), (mt, .inl (cI, 10, .inl T))] s.heap := hP
  have hl := lv_entry ([.ref om, .int x]) (n := 3) (Nat.le_of_ble_eq_true rfl)
  rw [lg_entry_eq]
  generalize (lg_sl ([.ref om, .int x]) ++ List.replicate (3 - (lg_sl ([.ref om, .int x])).length) Slot.unset).toArray = ls at hl ⊢
  have hl : lv_has ls 3 [(0, .ref om), (1, .int x)] := hl
  refine lv_aload_n hx hb dX2_idle_0 rfl (lv_at hl 0 rfl) ?_
  refine lv_iload_n hx hb dX2_idle_1 rfl (lv_at hl 1 rfl) ?_
  refine hw_callR (va_runV (b := om) (As := [.int x]) (rest := []) ⟨hx, hb, hml, hown, ht⟩ (m_noClause l D cI cZ om my mz mv mt n a q d v u1 u2 kn mr sk Y Z T wn ok x) (cwV 1 ht (gV wm_X2_X2_noClause wi_X2_noClause ws_X2_noClause wn_X2 wc_X2_noClause) rfl rfl rfl (by decide +kernel) ⟨Nat.le_of_ble_eq_true rfl, Nat.le_of_ble_eq_true rfl⟩) (rPre_V 0 hP hK hN rfl rfl) rfl rfl hl.1 rfl (lv_room (Nat.le_of_ble_eq_true rfl)) dX2_idle_2 ⟨Nat.zero_le _, Nat.zero_le _⟩) ?_
  refine lv_if_eq (tgt := 10) hx hb dX2_idle_5 rfl (fun h1 => ?_) (fun h1 => ?_)
  · have h1 : (!decide (uN x < q)) = false := (bI_eq0 _).mp h1
    exact absurd (by simpa using h1) hno
  · have h1 : (!decide (uN x < q)) = true := bI_ne0 h1
    refine lv_iconst (v := nI 0) hx hb dX2_idle_8 (by decide) ?_
    exact W.zret hx hb hr rfl (fun t ht2 _ => ⟨hw_ret (rfl), ht2⟩) (fun _ h => by cases h) dX2_idle_9

set_option maxHeartbeats 4000000 in
set_option maxRecDepth 100000 in
theorem m_drop (l : Launch) (D : va_G) (cI cZ : ClassId) (om my mz mv mt n a r d v u1 u2 : Nat) (kn mr : Bool) (sk : Int32) (Y Z : Nat → Nat) (T : Nat → Int32) (wn : Nat → Bool) (ok : dOk n a (r + 1) d v Y Z) (sz : Nat) (i : Nat) (hi : i < r + 1) : Met l yX2_drop (kX2_drop :: aW) { frames := 1, cells := 0, slots := 0, locals := 21 } (wPre [.ref om, .int (nI i)] D [(om, .inr (2, [.int (nI n), .int (nI a), .int (nI (r + 1)), .ref my, .ref mz, .int (bI kn), .int sk, .int (bI mr), .int (nI u1), .int (nI u2), .ref mv, .int (nI (sd_pos d v)), .int (nI d), .ref mt])), (my, .inl (cI, 24, .inl (fun jq => nI (Y jq)))), (mz, .inl (cI, 24, .inl (fun jq => nI (Z jq)))), (mv, .inl (cZ, 2048, .inl (fun jq => bI (wn jq)))), (mt, .inl (cI, 10, .inl T))] [(cI, .int), (cZ, .boolean)] sz) (wQ (some (.int (bI true))) D [(om, .inr (2, [.int (nI n), .int (nI a), .int (nI r), .ref my, .ref mz, .int (bI false), .int sk, .int (bI mr), .int (nI u1), .int (nI u2), .ref mv, .int (nI (sd_pos d v)), .int (nI d), .ref mt])), (my, .inl (cI, 24, .inl (fun jq => nI ((sd_sh Y i r) jq)))), (mz, .inl (cI, 24, .inl (fun jq => nI ((sd_sh Z i r) jq)))), (mv, .inl (cZ, 2048, .inl (fun jq => bI (wn jq)))), (mt, .inl (cI, 10, .inl T))] (va_A [(om, .inr (2, [.int (nI n), .int (nI a), .int (nI (r + 1)), .ref my, .ref mz, .int (bI kn), .int sk, .int (bI mr), .int (nI u1), .int (nI u2), .ref mv, .int (nI (sd_pos d v)), .int (nI d), .ref mt])), (my, .inl (cI, 24, .inl (fun jq => nI (Y jq)))), (mz, .inl (cI, 24, .inl (fun jq => nI (Z jq)))), (mv, .inl (cZ, 2048, .inl (fun jq => bI (wn jq)))), (mt, .inl (cI, 10, .inl T))] sz)) 0 0 (va_A [(om, .inr (2, [.int (nI n), .int (nI a), .int (nI (r + 1)), .ref my, .ref mz, .int (bI kn), .int sk, .int (bI mr), .int (nI u1), .int (nI u2), .ref mv, .int (nI (sd_pos d v)), .int (nI d), .ref mt])), (my, .inl (cI, 24, .inl (fun jq => nI (Y jq)))), (mz, .inl (cI, 24, .inl (fun jq => nI (Z jq)))), (mv, .inl (cZ, 2048, .inl (fun jq => bI (wn jq)))), (mt, .inl (cI, 10, .inl T))] sz) := by
  obtain ⟨hn1, hn, ha, h5, hq, hY, hZ, hd, hv⟩ := id ok
  have h2n := hw_p10 hn
  refine Met.ofW (cc := cX2_drop) (maxL := 3) (ret := (some .boolean)) (by decide) rfl ?_
  intro p e s m args below meth c s₁ Bo hml hpre
  obtain ⟨rfl, hsz, hP, hK, hN, hD0⟩ := hpre
  subst hsz
  have hD := hD0.self (sz := s.heap.size)
  generalize hAe : va_A [(om, .inr (2, [.int (nI n), .int (nI a), .int (nI (r + 1)), .ref my, .ref mz, .int (bI kn), .int sk, .int (bI mr), .int (nI u1), .int (nI u2), .ref mv, .int (nI (sd_pos d v)), .int (nI d), .ref mt])), (my, .inl (cI, 24, .inl (fun jq => nI (Y jq)))), (mz, .inl (cI, 24, .inl (fun jq => nI (Z jq)))), (mv, .inl (cZ, 2048, .inl (fun jq => bI (wn jq)))), (mt, .inl (cI, 10, .inl T))] s.heap.size = A at hD ⊢
  have hA : ∀ q : Nat, s.heap.size ≤ q → A q := fun q h => by rw [← hAe]; exact Or.inr h
  have hS : va_S A s.heap s.heap [] := va_S.rf
  have hx := Bo.exec
  have hb := Bo.bytes
  have hr := Bo.returns
  have hts := atoms_spec (ws := kX2_drop :: aW) Bo.pre
  have ht : ∀ w ∈ aW, w.before _ s = true := fun w h => hts w (List.mem_cons_of_mem _ h)
  have hown : s.vm.findClass RX2 = some m.cls := findClass_of_methodNamed Bo.named
  have hlocks := Bo.notSynchronized
  have hP : va_P D clS [(om, .inr (2, [.int (nI n), .int (nI a), .int (nI (r + 1)), .ref my, .ref mz, .int (bI kn), .int sk, .int (bI mr), .int (nI u1), .int (nI u2), .ref mv, .int (nI (sd_pos d v)), .int (nI d), .ref mt])), (my, .inl (cI, 24, .inl (fun jq => nI (Y jq)))), (mz, .inl (cI, 24, .inl (fun jq => nI (Z jq)))), (mv, .inl (cZ, 2048, .inl (fun jq => bI (wn jq)))), (mt, .inl (cI, 10, .inl T))] s.heap := hP
  have hl := lv_entry ([.ref om, .int (nI i)]) (n := 3) (Nat.le_of_ble_eq_true rfl)
  rw [lg_entry_eq]
  generalize (lg_sl ([.ref om, .int (nI i)]) ++ List.replicate (3 - (lg_sl ([.ref om, .int (nI i)])).length) Slot.unset).toArray = ls at hl ⊢
  have hl : lv_has ls 3 [(0, .ref om), (1, .int (nI i))] := hl
  refine lv_aload_n hx hb dX2_drop_0 rfl (lv_at hl 0 rfl) ?_
  refine lv_iload_n hx hb dX2_drop_1 rfl (lv_at hl 1 rfl) ?_
  refine hw_callR (va_runV (b := om) (As := [.int (nI i)]) (rest := []) ⟨hx, hb, hml, hown, ht⟩ (m_noClause l D cI cZ om my mz mv mt n a (r + 1) d v u1 u2 kn mr sk Y Z T wn ok (nI i)) (cwV 1 ht (gV wm_X2_X2_noClause wi_X2_noClause ws_X2_noClause wn_X2 wc_X2_noClause) rfl rfl rfl (by decide +kernel) ⟨Nat.le_of_ble_eq_true rfl, Nat.le_of_ble_eq_true rfl⟩) (rPre_V 0 hP hK hN rfl rfl) rfl rfl hl.1 rfl (lv_room (Nat.le_of_ble_eq_true rfl)) dX2_drop_2 ⟨Nat.zero_le _, Nat.zero_le _⟩) ?_
  refine lv_nm (y := bI false) (congrArg bI (by rw [uN_nI (by omega), decide_eq_true hi]; rfl)) ?_
  refine lv_if_eq (tgt := 10) hx hb dX2_drop_5 rfl (fun _ => ?_) (fun hc => absurd (show false = true from bI_ne0 hc) (by decide))
  refine lv_aload_n hx hb dX2_drop_10 rfl (lv_at hl 0 rfl) ?_
  refine lv_dup hx hb dX2_drop_11 rfl ?_
  refine va_get (D := D) (ci := 2) (v := .int (nI (r + 1))) (C := RX2) (T := TX2) (N := 14) hx hb ht inX2 hown hK hP 0 rfl rfl 2 (by decide) (ht _ wf_X2_many) (fun _ h9 => h9) rfl dX2_drop_12 ?_
  refine lv_iconst (v := nI 1) hx hb dX2_drop_15 (by decide) ?_
  refine lv_isub hx hb dX2_drop_16 ?_
  refine lv_nm (y := nI r) (nI_pred _) ?_
  refine va_put (D := D) (ci := 2) (v := .int (nI r)) (ty := .int) (C := RX2) (T := TX2) (N := 14) hx hb ht inX2 tyX2 tyX2_ok nmX2 hown hK hP hD hS 0 rfl rfl 2 (by decide) (ht _ wf_X2_many) (fun _ h9 => h9) rfl (by decide +kernel) rfl rfl (Nat.le_of_ble_eq_true rfl) dX2_drop_17 (fun H locs hP hD hS => ?_)
  have hP : va_P D clS [(om, .inr (2, [.int (nI n), .int (nI a), .int (nI r), .ref my, .ref mz, .int (bI kn), .int sk, .int (bI mr), .int (nI u1), .int (nI u2), .ref mv, .int (nI (sd_pos d v)), .int (nI d), .ref mt])), (my, .inl (cI, 24, .inl (fun jq => nI (Y jq)))), (mz, .inl (cI, 24, .inl (fun jq => nI (Z jq)))), (mv, .inl (cZ, 2048, .inl (fun jq => bI (wn jq)))), (mt, .inl (cI, 10, .inl T))] H := hP
  have hD : va_D A [(om, .inr (2, [.int (nI n), .int (nI a), .int (nI r), .ref my, .ref mz, .int (bI kn), .int sk, .int (bI mr), .int (nI u1), .int (nI u2), .ref mv, .int (nI (sd_pos d v)), .int (nI d), .ref mt])), (my, .inl (cI, 24, .inl (fun jq => nI (Y jq)))), (mz, .inl (cI, 24, .inl (fun jq => nI (Z jq)))), (mv, .inl (cZ, 2048, .inl (fun jq => bI (wn jq)))), (mt, .inl (cI, 10, .inl T))] := hD
  refine lv_iload_n hx hb dX2_drop_20 rfl (lv_at hl 1 rfl) ?_
  refine lv_istore_n hx hb dX2_drop_21 rfl hl (by decide) rfl (fun ls hl => ?_)
  have hl : lv_has ls 3 [(2, .int (nI i)), (0, .ref om), (1, .int (nI i))] := hl
  have hl : lv_has ls 3 [(0, .ref om), (1, .int (nI i)), (2, .int (nI i))] := lv_sub hl [1, 2, 0] rfl
  have hP : va_P D clS [(om, .inr (2, [.int (nI n), .int (nI a), .int (nI r), .ref my, .ref mz, .int (bI kn), .int sk, .int (bI mr), .int (nI u1), .int (nI u2), .ref mv, .int (nI (sd_pos d v)), .int (nI d), .ref mt])), (my, .inl (cI, 24, .inl (fun jq => nI ((sd_sh Y i i) jq)))), (mz, .inl (cI, 24, .inl (fun jq => nI (Z jq)))), (mv, .inl (cZ, 2048, .inl (fun jq => bI (wn jq)))), (mt, .inl (cI, 10, .inl T))] H := hw_cgn hP (sd_sh Y i i) (q0 := 1) rfl (fun j _ => sd_sh_0 Y i j) rfl
  have hD : va_D A [(om, .inr (2, [.int (nI n), .int (nI a), .int (nI r), .ref my, .ref mz, .int (bI kn), .int sk, .int (bI mr), .int (nI u1), .int (nI u2), .ref mv, .int (nI (sd_pos d v)), .int (nI d), .ref mt])), (my, .inl (cI, 24, .inl (fun jq => nI ((sd_sh Y i i) jq)))), (mz, .inl (cI, 24, .inl (fun jq => nI (Z jq)))), (mv, .inl (cZ, 2048, .inl (fun jq => bI (wn jq)))), (mt, .inl (cI, 10, .inl T))] := hw_ad hD rfl
  have hP : va_P D clS [(om, .inr (2, [.int (nI n), .int (nI a), .int (nI r), .ref my, .ref mz, .int (bI kn), .int sk, .int (bI mr), .int (nI u1), .int (nI u2), .ref mv, .int (nI (sd_pos d v)), .int (nI d), .ref mt])), (my, .inl (cI, 24, .inl (fun jq => nI ((sd_sh Y i i) jq)))), (mz, .inl (cI, 24, .inl (fun jq => nI ((sd_sh Z i i) jq)))), (mv, .inl (cZ, 2048, .inl (fun jq => bI (wn jq)))), (mt, .inl (cI, 10, .inl T))] H := hw_cgn hP (sd_sh Z i i) (q0 := 2) rfl (fun j _ => sd_sh_0 Z i j) rfl
  have hD : va_D A [(om, .inr (2, [.int (nI n), .int (nI a), .int (nI r), .ref my, .ref mz, .int (bI kn), .int sk, .int (bI mr), .int (nI u1), .int (nI u2), .ref mv, .int (nI (sd_pos d v)), .int (nI d), .ref mt])), (my, .inl (cI, 24, .inl (fun jq => nI ((sd_sh Y i i) jq)))), (mz, .inl (cI, 24, .inl (fun jq => nI ((sd_sh Z i i) jq)))), (mv, .inl (cZ, 2048, .inl (fun jq => bI (wn jq)))), (mt, .inl (cI, 10, .inl T))] := hw_ad hD rfl
  suffices lp : ∀ k : Nat, ∀ (j : Nat) (ls : Array Slot) (H : Heap) (locs : List Loc), (j + k = r) → (i ≤ j) → lv_has ls 3 [(0, .ref om), (1, .int (nI i)), (2, .int (nI j))] → va_P D clS [(om, .inr (2, [.int (nI n), .int (nI a), .int (nI r), .ref my, .ref mz, .int (bI kn), .int sk, .int (bI mr), .int (nI u1), .int (nI u2), .ref mv, .int (nI (sd_pos d v)), .int (nI d), .ref mt])), (my, .inl (cI, 24, .inl (fun jq => nI ((sd_sh Y i j) jq)))), (mz, .inl (cI, 24, .inl (fun jq => nI ((sd_sh Z i j) jq)))), (mv, .inl (cZ, 2048, .inl (fun jq => bI (wn jq)))), (mt, .inl (cI, 10, .inl T))] H → va_S A s.heap H locs → W p l e (headSpec (kX2_drop :: aW) { frames := 1, cells := 0, slots := 0, locals := 21 }).room s m (([.ref om, .int (nI i)] : List Value).toArray) below meth c H locs 0 0 (MQ below (wQ (some (.int (bI true))) D [(om, .inr (2, [.int (nI n), .int (nI a), .int (nI r), .ref my, .ref mz, .int (bI false), .int sk, .int (bI mr), .int (nI u1), .int (nI u2), .ref mv, .int (nI (sd_pos d v)), .int (nI d), .ref mt])), (my, .inl (cI, 24, .inl (fun jq => nI ((sd_sh Y i r) jq)))), (mz, .inl (cI, 24, .inl (fun jq => nI ((sd_sh Z i r) jq)))), (mv, .inl (cZ, 2048, .inl (fun jq => bI (wn jq)))), (mt, .inl (cI, 10, .inl T))] A) (([.ref om, .int (nI i)] : List Value).toArray) s 0 0 A) (F0 m 22 ls []) by
    exact lp (r - i) i ls H locs (by omega) (Nat.le_refl i) hl hP hS
  intro k
  induction k with
  | zero =>
    intro j ls H locs hj hij hl hP hS
    have hD : va_D A [(om, .inr (2, [.int (nI n), .int (nI a), .int (nI r), .ref my, .ref mz, .int (bI kn), .int sk, .int (bI mr), .int (nI u1), .int (nI u2), .ref mv, .int (nI (sd_pos d v)), .int (nI d), .ref mt])), (my, .inl (cI, 24, .inl (fun jq => nI ((sd_sh Y i j) jq)))), (mz, .inl (cI, 24, .inl (fun jq => nI ((sd_sh Z i j) jq)))), (mv, .inl (cZ, 2048, .inl (fun jq => bI (wn jq)))), (mt, .inl (cI, 10, .inl T))] := hw_ad hD rfl
    refine lv_iload_n hx hb dX2_drop_22 rfl (lv_at hl 2 rfl) ?_
    refine lv_aload_n hx hb dX2_drop_23 rfl (lv_at hl 0 rfl) ?_
    refine va_get (D := D) (ci := 2) (v := .int (nI r)) (C := RX2) (T := TX2) (N := 14) hx hb ht inX2 hown hK hP 0 rfl rfl 2 (by decide) (ht _ wf_X2_many) (fun _ h9 => h9) rfl dX2_drop_24 ?_
    refine lv_icmp_ge (tgt := 64) hx hb dX2_drop_27 rfl (fun _ => ?_) (fun hc => absurd (show ¬ (r ≤ j) from fun h9 => hc ((nI_leI (by omega) (by omega)).mpr h9)) (by omega))
    obtain rfl : r = j := by omega
    refine lv_aload_n hx hb dX2_drop_64 rfl (lv_at hl 0 rfl) ?_
    refine lv_iconst (v := nI 0) hx hb dX2_drop_65 (by decide) ?_
    refine va_put (D := D) (ci := 2) (v := .int (bI false)) (ty := .boolean) (C := RX2) (T := TX2) (N := 14) hx hb ht inX2 tyX2 tyX2_ok nmX2 hown hK hP hD hS 0 rfl rfl 5 (by decide) (ht _ wf_X2_known) (fun _ h9 => h9) rfl (by decide +kernel) (bI_nar _) (bI_fit _) (Nat.le_of_ble_eq_true rfl) dX2_drop_66 (fun H locs hP hD hS => ?_)
    have hP : va_P D clS [(om, .inr (2, [.int (nI n), .int (nI a), .int (nI r), .ref my, .ref mz, .int (bI false), .int sk, .int (bI mr), .int (nI u1), .int (nI u2), .ref mv, .int (nI (sd_pos d v)), .int (nI d), .ref mt])), (my, .inl (cI, 24, .inl (fun jq => nI ((sd_sh Y i r) jq)))), (mz, .inl (cI, 24, .inl (fun jq => nI ((sd_sh Z i r) jq)))), (mv, .inl (cZ, 2048, .inl (fun jq => bI (wn jq)))), (mt, .inl (cI, 10, .inl T))] H := hP
    have hD : va_D A [(om, .inr (2, [.int (nI n), .int (nI a), .int (nI r), .ref my, .ref mz, .int (bI false), .int sk, .int (bI mr), .int (nI u1), .int (nI u2), .ref mv, .int (nI (sd_pos d v)), .int (nI d), .ref mt])), (my, .inl (cI, 24, .inl (fun jq => nI ((sd_sh Y i r) jq)))), (mz, .inl (cI, 24, .inl (fun jq => nI ((sd_sh Z i r) jq)))), (mv, .inl (cZ, 2048, .inl (fun jq => bI (wn jq)))), (mt, .inl (cI, 10, .inl T))] := hD
    refine lv_iconst (v := nI 1) hx hb dX2_drop_69 (by decide) ?_
    exact W.zret hx hb hr rfl (fun t ht2 _ => ⟨hw_ret (rfl), by rw [ht2]; exact hP, hS.F ht2⟩) hS.2.2 dX2_drop_70
  | succ k ih =>
    intro j ls H locs hj hij hl hP hS
    have hD : va_D A [(om, .inr (2, [.int (nI n), .int (nI a), .int (nI r), .ref my, .ref mz, .int (bI kn), .int sk, .int (bI mr), .int (nI u1), .int (nI u2), .ref mv, .int (nI (sd_pos d v)), .int (nI d), .ref mt])), (my, .inl (cI, 24, .inl (fun jq => nI ((sd_sh Y i j) jq)))), (mz, .inl (cI, 24, .inl (fun jq => nI ((sd_sh Z i j) jq)))), (mv, .inl (cZ, 2048, .inl (fun jq => bI (wn jq)))), (mt, .inl (cI, 10, .inl T))] := hw_ad hD rfl
    refine lv_iload_n hx hb dX2_drop_22 rfl (lv_at hl 2 rfl) ?_
    refine lv_aload_n hx hb dX2_drop_23 rfl (lv_at hl 0 rfl) ?_
    refine va_get (D := D) (ci := 2) (v := .int (nI r)) (C := RX2) (T := TX2) (N := 14) hx hb ht inX2 hown hK hP 0 rfl rfl 2 (by decide) (ht _ wf_X2_many) (fun _ h9 => h9) rfl dX2_drop_24 ?_
    refine lv_icmp_ge (tgt := 64) hx hb dX2_drop_27 rfl (fun hc => absurd (show r ≤ j from (nI_leI (by omega) (by omega)).mp hc) (by omega)) (fun _ => ?_)
    refine lv_aload_n hx hb dX2_drop_30 rfl (lv_at hl 0 rfl) ?_
    refine va_get (D := D) (ci := 2) (v := .ref my) (C := RX2) (T := TX2) (N := 14) hx hb ht inX2 hown hK hP 0 rfl rfl 3 (by decide) (ht _ wf_X2_yes) (fun _ h9 => h9) rfl dX2_drop_31 ?_
    refine lv_iload_n hx hb dX2_drop_34 rfl (lv_at hl 2 rfl) ?_
    refine lv_aload_n hx hb dX2_drop_35 rfl (lv_at hl 0 rfl) ?_
    refine va_get (D := D) (ci := 2) (v := .ref my) (C := RX2) (T := TX2) (N := 14) hx hb ht inX2 hown hK hP 0 rfl rfl 3 (by decide) (ht _ wf_X2_yes) (fun _ h9 => h9) rfl dX2_drop_36 ?_
    refine lv_iload_n hx hb dX2_drop_39 rfl (lv_at hl 2 rfl) ?_
    refine lv_iconst (v := nI 1) hx hb dX2_drop_40 (by decide) ?_
    refine lv_iadd hx hb dX2_drop_41 ?_
    refine lv_nm (y := nI (j + 1)) (nI_add _ _) ?_
    refine na_nald (f := sd_sh Y i j) hx hb hK hP 1 0 rfl rfl (j := j + 1) (by omega) (by omega) dX2_drop_42 ?_
    refine na_nast (f := sd_sh Y i j) (x := (sd_sh Y i j) (j + 1)) hx hb hK hP hD hS 1 0 rfl rfl (j := j) (by omega) (by omega) dX2_drop_43 (fun H locs hP hD hS => ?_)
    have hP : va_P D clS [(om, .inr (2, [.int (nI n), .int (nI a), .int (nI r), .ref my, .ref mz, .int (bI kn), .int sk, .int (bI mr), .int (nI u1), .int (nI u2), .ref mv, .int (nI (sd_pos d v)), .int (nI d), .ref mt])), (my, .inl (cI, 24, .inl (fun jq => nI ((va_up (sd_sh Y i j) j ((sd_sh Y i j) (j + 1))) jq)))), (mz, .inl (cI, 24, .inl (fun jq => nI ((sd_sh Z i j) jq)))), (mv, .inl (cZ, 2048, .inl (fun jq => bI (wn jq)))), (mt, .inl (cI, 10, .inl T))] H := hP
    have hD : va_D A [(om, .inr (2, [.int (nI n), .int (nI a), .int (nI r), .ref my, .ref mz, .int (bI kn), .int sk, .int (bI mr), .int (nI u1), .int (nI u2), .ref mv, .int (nI (sd_pos d v)), .int (nI d), .ref mt])), (my, .inl (cI, 24, .inl (fun jq => nI ((va_up (sd_sh Y i j) j ((sd_sh Y i j) (j + 1))) jq)))), (mz, .inl (cI, 24, .inl (fun jq => nI ((sd_sh Z i j) jq)))), (mv, .inl (cZ, 2048, .inl (fun jq => bI (wn jq)))), (mt, .inl (cI, 10, .inl T))] := hD
    have hP : va_P D clS [(om, .inr (2, [.int (nI n), .int (nI a), .int (nI r), .ref my, .ref mz, .int (bI kn), .int sk, .int (bI mr), .int (nI u1), .int (nI u2), .ref mv, .int (nI (sd_pos d v)), .int (nI d), .ref mt])), (my, .inl (cI, 24, .inl (fun jq => nI ((sd_sh Y i (j + 1)) jq)))), (mz, .inl (cI, 24, .inl (fun jq => nI ((sd_sh Z i j) jq)))), (mv, .inl (cZ, 2048, .inl (fun jq => bI (wn jq)))), (mt, .inl (cI, 10, .inl T))] H := hw_cgn hP (sd_sh Y i (j + 1)) (q0 := 1) rfl (fun t _ => sd_sh_s Y hij t) rfl
    have hD : va_D A [(om, .inr (2, [.int (nI n), .int (nI a), .int (nI r), .ref my, .ref mz, .int (bI kn), .int sk, .int (bI mr), .int (nI u1), .int (nI u2), .ref mv, .int (nI (sd_pos d v)), .int (nI d), .ref mt])), (my, .inl (cI, 24, .inl (fun jq => nI ((sd_sh Y i (j + 1)) jq)))), (mz, .inl (cI, 24, .inl (fun jq => nI ((sd_sh Z i j) jq)))), (mv, .inl (cZ, 2048, .inl (fun jq => bI (wn jq)))), (mt, .inl (cI, 10, .inl T))] := hw_ad hD rfl
    refine lv_aload_n hx hb dX2_drop_44 rfl (lv_at hl 0 rfl) ?_
    refine va_get (D := D) (ci := 2) (v := .ref mz) (C := RX2) (T := TX2) (N := 14) hx hb ht inX2 hown hK hP 0 rfl rfl 4 (by decide) (ht _ wf_X2_no) (fun _ h9 => h9) rfl dX2_drop_45 ?_
    refine lv_iload_n hx hb dX2_drop_48 rfl (lv_at hl 2 rfl) ?_
    refine lv_aload_n hx hb dX2_drop_49 rfl (lv_at hl 0 rfl) ?_
    refine va_get (D := D) (ci := 2) (v := .ref mz) (C := RX2) (T := TX2) (N := 14) hx hb ht inX2 hown hK hP 0 rfl rfl 4 (by decide) (ht _ wf_X2_no) (fun _ h9 => h9) rfl dX2_drop_50 ?_
    refine lv_iload_n hx hb dX2_drop_53 rfl (lv_at hl 2 rfl) ?_
    refine lv_iconst (v := nI 1) hx hb dX2_drop_54 (by decide) ?_
    refine lv_iadd hx hb dX2_drop_55 ?_
    refine lv_nm (y := nI (j + 1)) (nI_add _ _) ?_
    refine na_nald (f := sd_sh Z i j) hx hb hK hP 2 0 rfl rfl (j := j + 1) (by omega) (by omega) dX2_drop_56 ?_
    refine na_nast (f := sd_sh Z i j) (x := (sd_sh Z i j) (j + 1)) hx hb hK hP hD hS 2 0 rfl rfl (j := j) (by omega) (by omega) dX2_drop_57 (fun H locs hP hD hS => ?_)
    have hP : va_P D clS [(om, .inr (2, [.int (nI n), .int (nI a), .int (nI r), .ref my, .ref mz, .int (bI kn), .int sk, .int (bI mr), .int (nI u1), .int (nI u2), .ref mv, .int (nI (sd_pos d v)), .int (nI d), .ref mt])), (my, .inl (cI, 24, .inl (fun jq => nI ((sd_sh Y i (j + 1)) jq)))), (mz, .inl (cI, 24, .inl (fun jq => nI ((va_up (sd_sh Z i j) j ((sd_sh Z i j) (j + 1))) jq)))), (mv, .inl (cZ, 2048, .inl (fun jq => bI (wn jq)))), (mt, .inl (cI, 10, .inl T))] H := hP
    have hD : va_D A [(om, .inr (2, [.int (nI n), .int (nI a), .int (nI r), .ref my, .ref mz, .int (bI kn), .int sk, .int (bI mr), .int (nI u1), .int (nI u2), .ref mv, .int (nI (sd_pos d v)), .int (nI d), .ref mt])), (my, .inl (cI, 24, .inl (fun jq => nI ((sd_sh Y i (j + 1)) jq)))), (mz, .inl (cI, 24, .inl (fun jq => nI ((va_up (sd_sh Z i j) j ((sd_sh Z i j) (j + 1))) jq)))), (mv, .inl (cZ, 2048, .inl (fun jq => bI (wn jq)))), (mt, .inl (cI, 10, .inl T))] := hD
    have hP : va_P D clS [(om, .inr (2, [.int (nI n), .int (nI a), .int (nI r), .ref my, .ref mz, .int (bI kn), .int sk, .int (bI mr), .int (nI u1), .int (nI u2), .ref mv, .int (nI (sd_pos d v)), .int (nI d), .ref mt])), (my, .inl (cI, 24, .inl (fun jq => nI ((sd_sh Y i (j + 1)) jq)))), (mz, .inl (cI, 24, .inl (fun jq => nI ((sd_sh Z i (j + 1)) jq)))), (mv, .inl (cZ, 2048, .inl (fun jq => bI (wn jq)))), (mt, .inl (cI, 10, .inl T))] H := hw_cgn hP (sd_sh Z i (j + 1)) (q0 := 2) rfl (fun t _ => sd_sh_s Z hij t) rfl
    have hD : va_D A [(om, .inr (2, [.int (nI n), .int (nI a), .int (nI r), .ref my, .ref mz, .int (bI kn), .int sk, .int (bI mr), .int (nI u1), .int (nI u2), .ref mv, .int (nI (sd_pos d v)), .int (nI d), .ref mt])), (my, .inl (cI, 24, .inl (fun jq => nI ((sd_sh Y i (j + 1)) jq)))), (mz, .inl (cI, 24, .inl (fun jq => nI ((sd_sh Z i (j + 1)) jq)))), (mv, .inl (cZ, 2048, .inl (fun jq => bI (wn jq)))), (mt, .inl (cI, 10, .inl T))] := hw_ad hD rfl
    refine lv_iinc (k := 2) (v := nI (j + 1)) hx hb dX2_drop_58 hl rfl (hw_inc _) (by decide) rfl (fun ls hl => ?_)
    have hl : lv_has ls 3 [(2, .int (nI (j + 1))), (0, .ref om), (1, .int (nI i))] := hl
    refine lv_goto (tgt := 22) hx hb dX2_drop_61 rfl ?_
    have hl : lv_has ls 3 [(0, .ref om), (1, .int (nI i)), (2, .int (nI (j + 1)))] := lv_sub hl [1, 2, 0] rfl
    exact ih (j + 1) ls H locs (by omega) (by omega) hl hP hS

set_option maxHeartbeats 4000000 in
set_option maxRecDepth 100000 in
theorem m_idle (l : Launch) (D : va_G) (cI cZ : ClassId) (om my mz mv mt n a r d v u1 u2 : Nat) (kn mr : Bool) (sk : Int32) (Y Z : Nat → Nat) (T : Nat → Int32) (wn : Nat → Bool) (ok : dOk n a (r + 1) d v Y Z) (sz : Nat) (mk : mOk n kn wn (sd_wn n a (fun w => sd_br Y Z (r + 1) w == 0))) (hu1 : u1 < 2 ^ n) (hu2 : u2 < 2 ^ n) (i : Nat) (hi : i < r + 1) : Met l yX2_idle (kX2_idle :: aW) { frames := 4, cells := 0, slots := 0, locals := 87 } (wPre [.ref om, .int (nI i)] D [(om, .inr (2, [.int (nI n), .int (nI a), .int (nI (r + 1)), .ref my, .ref mz, .int (bI kn), .int sk, .int (bI mr), .int (nI u1), .int (nI u2), .ref mv, .int (nI (sd_pos d v)), .int (nI d), .ref mt])), (my, .inl (cI, 24, .inl (fun jq => nI (Y jq)))), (mz, .inl (cI, 24, .inl (fun jq => nI (Z jq)))), (mv, .inl (cZ, 2048, .inl (fun jq => bI (wn jq)))), (mt, .inl (cI, 10, .inl T))] [(cI, .int), (cZ, .boolean)] sz) (wQ (some (.int (bI (sd_E n a (fun w => sd_br Y Z (r + 1) w == 0) 0 0 == sd_E n a (fun w => sd_br (sd_sh Y i r) (sd_sh Z i r) r w == 0) 0 0)))) D [(om, .inr (2, [.int (nI n), .int (nI a), .int (nI (r + 1)), .ref my, .ref mz, .int (bI false), .int (nI i), .int (bI false), .int (nI u1), .int (nI u2), .ref mv, .int (nI (sd_pos d v)), .int (nI d), .ref mt])), (my, .inl (cI, 24, .inl (fun jq => nI (Y jq)))), (mz, .inl (cI, 24, .inl (fun jq => nI (Z jq)))), (mv, .inl (cZ, 2048, .inl (fun jq => bI ((sd_wn n a (fun w => sd_br (sd_sh Y i r) (sd_sh Z i r) r w == 0)) jq)))), (mt, .inl (cI, 10, .inl T))] (va_A [(om, .inr (2, [.int (nI n), .int (nI a), .int (nI (r + 1)), .ref my, .ref mz, .int (bI kn), .int sk, .int (bI mr), .int (nI u1), .int (nI u2), .ref mv, .int (nI (sd_pos d v)), .int (nI d), .ref mt])), (my, .inl (cI, 24, .inl (fun jq => nI (Y jq)))), (mz, .inl (cI, 24, .inl (fun jq => nI (Z jq)))), (mv, .inl (cZ, 2048, .inl (fun jq => bI (wn jq)))), (mt, .inl (cI, 10, .inl T))] sz)) 0 0 (va_A [(om, .inr (2, [.int (nI n), .int (nI a), .int (nI (r + 1)), .ref my, .ref mz, .int (bI kn), .int sk, .int (bI mr), .int (nI u1), .int (nI u2), .ref mv, .int (nI (sd_pos d v)), .int (nI d), .ref mt])), (my, .inl (cI, 24, .inl (fun jq => nI (Y jq)))), (mz, .inl (cI, 24, .inl (fun jq => nI (Z jq)))), (mv, .inl (cZ, 2048, .inl (fun jq => bI (wn jq)))), (mt, .inl (cI, 10, .inl T))] sz) := by
  obtain ⟨hn1, hn, ha, h5, hq, hY, hZ, hd, hv⟩ := id ok
  have h2n := hw_p10 hn
  refine Met.ofW (cc := cX2_idle) (maxL := 3) (ret := (some .boolean)) (by decide) rfl ?_
  intro p e s m args below meth c s₁ Bo hml hpre
  obtain ⟨rfl, hsz, hP, hK, hN, hD0⟩ := hpre
  subst hsz
  have hD := hD0.self (sz := s.heap.size)
  generalize hAe : va_A [(om, .inr (2, [.int (nI n), .int (nI a), .int (nI (r + 1)), .ref my, .ref mz, .int (bI kn), .int sk, .int (bI mr), .int (nI u1), .int (nI u2), .ref mv, .int (nI (sd_pos d v)), .int (nI d), .ref mt])), (my, .inl (cI, 24, .inl (fun jq => nI (Y jq)))), (mz, .inl (cI, 24, .inl (fun jq => nI (Z jq)))), (mv, .inl (cZ, 2048, .inl (fun jq => bI (wn jq)))), (mt, .inl (cI, 10, .inl T))] s.heap.size = A at hD ⊢
  have hA : ∀ q : Nat, s.heap.size ≤ q → A q := fun q h => by rw [← hAe]; exact Or.inr h
  have hS : va_S A s.heap s.heap [] := va_S.rf
  have hx := Bo.exec
  have hb := Bo.bytes
  have hr := Bo.returns
  have hts := atoms_spec (ws := kX2_idle :: aW) Bo.pre
  have ht : ∀ w ∈ aW, w.before _ s = true := fun w h => hts w (List.mem_cons_of_mem _ h)
  have hown : s.vm.findClass RX2 = some m.cls := findClass_of_methodNamed Bo.named
  have hlocks := Bo.notSynchronized
  have hP : va_P D clS [(om, .inr (2, [.int (nI n), .int (nI a), .int (nI (r + 1)), .ref my, .ref mz, .int (bI kn), .int sk, .int (bI mr), .int (nI u1), .int (nI u2), .ref mv, .int (nI (sd_pos d v)), .int (nI d), .ref mt])), (my, .inl (cI, 24, .inl (fun jq => nI (Y jq)))), (mz, .inl (cI, 24, .inl (fun jq => nI (Z jq)))), (mv, .inl (cZ, 2048, .inl (fun jq => bI (wn jq)))), (mt, .inl (cI, 10, .inl T))] s.heap := hP
  have hl := lv_entry ([.ref om, .int (nI i)]) (n := 3) (Nat.le_of_ble_eq_true rfl)
  rw [lg_entry_eq]
  generalize (lg_sl ([.ref om, .int (nI i)]) ++ List.replicate (3 - (lg_sl ([.ref om, .int (nI i)])).length) Slot.unset).toArray = ls at hl ⊢
  have hl : lv_has ls 3 [(0, .ref om), (1, .int (nI i))] := hl
  refine lv_aload_n hx hb dX2_idle_0 rfl (lv_at hl 0 rfl) ?_
  refine lv_iload_n hx hb dX2_idle_1 rfl (lv_at hl 1 rfl) ?_
  refine hw_callR (va_runV (b := om) (As := [.int (nI i)]) (rest := []) ⟨hx, hb, hml, hown, ht⟩ (m_noClause l D cI cZ om my mz mv mt n a (r + 1) d v u1 u2 kn mr sk Y Z T wn ok (nI i)) (cwV 1 ht (gV wm_X2_X2_noClause wi_X2_noClause ws_X2_noClause wn_X2 wc_X2_noClause) rfl rfl rfl (by decide +kernel) ⟨Nat.le_of_ble_eq_true rfl, Nat.le_of_ble_eq_true rfl⟩) (rPre_V 0 hP hK hN rfl rfl) rfl rfl hl.1 rfl (lv_room (Nat.le_of_ble_eq_true rfl)) dX2_idle_2 ⟨Nat.zero_le _, Nat.zero_le _⟩) ?_
  refine lv_nm (y := bI false) (congrArg bI (by rw [uN_nI (by omega), decide_eq_true hi]; rfl)) ?_
  refine lv_if_eq (tgt := 10) hx hb dX2_idle_5 rfl (fun _ => ?_) (fun hc => absurd (show false = true from bI_ne0 hc) (by decide))
  refine lv_aload_n hx hb dX2_idle_10 rfl (lv_at hl 0 rfl) ?_
  refine hw_callW (ws' := [(om, .inr (2, [.int (nI n), .int (nI a), .int (nI (r + 1)), .ref my, .ref mz, .int (bI true), .int (if kn = true then sk else -1), .int (bI (kn && mr)), .int (nI u1), .int (nI u2), .ref mv, .int (nI (sd_pos d v)), .int (nI d), .ref mt])), (my, .inl (cI, 24, .inl (fun jq => nI (Y jq)))), (mz, .inl (cI, 24, .inl (fun jq => nI (Z jq)))), (mv, .inl (cZ, 2048, .inl (fun jq => bI ((sd_wn n a (fun w => sd_br Y Z (r + 1) w == 0)) jq)))), (mt, .inl (cI, 10, .inl T))]) (va_runV (b := om) (As := []) (rest := []) ⟨hx, hb, hml, hown, ht⟩ (m_look l D cI cZ om my mz mv mt n a (r + 1) d v u1 u2 kn mr sk Y Z T wn ok s.heap.size mk hu1 hu2) (cwV 0 ht (gV wm_X2_X2_look wi_X2_look ws_X2_look wn_X2 wc_X2_look) rfl rfl rfl (by decide +kernel) ⟨Nat.le_of_ble_eq_true rfl, Nat.le_of_ble_eq_true rfl⟩) (wPre_V 0 hP hD hK hN rfl rfl) rfl rfl hl.1 rfl (lv_room (Nat.le_of_ble_eq_true rfl)) dX2_idle_11 ⟨Nat.zero_le _, Nat.zero_le _⟩) hD hS hA rfl (fun H locs hP hD hS => ?_)
  have hP : va_P D clS [(om, .inr (2, [.int (nI n), .int (nI a), .int (nI (r + 1)), .ref my, .ref mz, .int (bI true), .int (if kn = true then sk else -1), .int (bI (kn && mr)), .int (nI u1), .int (nI u2), .ref mv, .int (nI (sd_pos d v)), .int (nI d), .ref mt])), (my, .inl (cI, 24, .inl (fun jq => nI (Y jq)))), (mz, .inl (cI, 24, .inl (fun jq => nI (Z jq)))), (mv, .inl (cZ, 2048, .inl (fun jq => bI ((sd_wn n a (fun w => sd_br Y Z (r + 1) w == 0)) jq)))), (mt, .inl (cI, 10, .inl T))] H := hP
  have hD : va_D A [(om, .inr (2, [.int (nI n), .int (nI a), .int (nI (r + 1)), .ref my, .ref mz, .int (bI true), .int (if kn = true then sk else -1), .int (bI (kn && mr)), .int (nI u1), .int (nI u2), .ref mv, .int (nI (sd_pos d v)), .int (nI d), .ref mt])), (my, .inl (cI, 24, .inl (fun jq => nI (Y jq)))), (mz, .inl (cI, 24, .inl (fun jq => nI (Z jq)))), (mv, .inl (cZ, 2048, .inl (fun jq => bI ((sd_wn n a (fun w => sd_br Y Z (r + 1) w == 0)) jq)))), (mt, .inl (cI, 10, .inl T))] := hD
  refine W.eq (g2 := F0 m 14 ls []) rfl ?_
  refine lv_aload_n hx hb dX2_idle_14 rfl (lv_at hl 0 rfl) ?_
  refine va_get (D := D) (ci := 2) (v := .ref mv) (C := RX2) (T := TX2) (N := 14) hx hb ht inX2 hown hK hP 0 rfl rfl 10 (by decide) (ht _ wf_X2_win) (fun _ h9 => h9) rfl dX2_idle_15 ?_
  refine lv_iconst (v := nI 1) hx hb dX2_idle_18 (by decide) ?_
  refine na_zald (f := sd_wn n a (fun w => sd_br Y Z (r + 1) w == 0)) hx hb hK hP 3 1 rfl rfl (j := 1) (by omega) (by omega) dX2_idle_19 ?_
  refine lv_nm (y := bI (sd_E n a (fun w => sd_br Y Z (r + 1) w == 0) 0 0)) (congrArg bI (sd_wn_at (d := 0) (v := 0) (Nat.zero_le n) (by decide))) ?_
  refine lv_istore_n hx hb dX2_idle_20 rfl hl (by decide) rfl (fun ls hl => ?_)
  have hl : lv_has ls 3 [(2, .int (bI (sd_E n a (fun w => sd_br Y Z (r + 1) w == 0) 0 0))), (0, .ref om), (1, .int (nI i))] := hl
  refine lv_aload_n hx hb dX2_idle_21 rfl (lv_at hl 1 rfl) ?_
  refine lv_iconst (v := nI 0) hx hb dX2_idle_22 (by decide) ?_
  refine va_put (D := D) (ci := 2) (v := .int (bI false)) (ty := .boolean) (C := RX2) (T := TX2) (N := 14) hx hb ht inX2 tyX2 tyX2_ok nmX2 hown hK hP hD hS 0 rfl rfl 5 (by decide) (ht _ wf_X2_known) (fun _ h9 => h9) rfl (by decide +kernel) (bI_nar _) (bI_fit _) (Nat.le_of_ble_eq_true rfl) dX2_idle_23 (fun H locs hP hD hS => ?_)
  have hP : va_P D clS [(om, .inr (2, [.int (nI n), .int (nI a), .int (nI (r + 1)), .ref my, .ref mz, .int (bI false), .int (if kn = true then sk else -1), .int (bI (kn && mr)), .int (nI u1), .int (nI u2), .ref mv, .int (nI (sd_pos d v)), .int (nI d), .ref mt])), (my, .inl (cI, 24, .inl (fun jq => nI (Y jq)))), (mz, .inl (cI, 24, .inl (fun jq => nI (Z jq)))), (mv, .inl (cZ, 2048, .inl (fun jq => bI ((sd_wn n a (fun w => sd_br Y Z (r + 1) w == 0)) jq)))), (mt, .inl (cI, 10, .inl T))] H := hP
  have hD : va_D A [(om, .inr (2, [.int (nI n), .int (nI a), .int (nI (r + 1)), .ref my, .ref mz, .int (bI false), .int (if kn = true then sk else -1), .int (bI (kn && mr)), .int (nI u1), .int (nI u2), .ref mv, .int (nI (sd_pos d v)), .int (nI d), .ref mt])), (my, .inl (cI, 24, .inl (fun jq => nI (Y jq)))), (mz, .inl (cI, 24, .inl (fun jq => nI (Z jq)))), (mv, .inl (cZ, 2048, .inl (fun jq => bI ((sd_wn n a (fun w => sd_br Y Z (r + 1) w == 0)) jq)))), (mt, .inl (cI, 10, .inl T))] := hD
  refine lv_aload_n hx hb dX2_idle_26 rfl (lv_at hl 1 rfl) ?_
  refine lv_iload_n hx hb dX2_idle_27 rfl (lv_at hl 2 rfl) ?_
  refine va_put (D := D) (ci := 2) (v := .int (nI i)) (ty := .int) (C := RX2) (T := TX2) (N := 14) hx hb ht inX2 tyX2 tyX2_ok nmX2 hown hK hP hD hS 0 rfl rfl 6 (by decide) (ht _ wf_X2_skip) (fun _ h9 => h9) rfl (by decide +kernel) rfl rfl (Nat.le_of_ble_eq_true rfl) dX2_idle_28 (fun H locs hP hD hS => ?_)
  have hP : va_P D clS [(om, .inr (2, [.int (nI n), .int (nI a), .int (nI (r + 1)), .ref my, .ref mz, .int (bI false), .int (nI i), .int (bI (kn && mr)), .int (nI u1), .int (nI u2), .ref mv, .int (nI (sd_pos d v)), .int (nI d), .ref mt])), (my, .inl (cI, 24, .inl (fun jq => nI (Y jq)))), (mz, .inl (cI, 24, .inl (fun jq => nI (Z jq)))), (mv, .inl (cZ, 2048, .inl (fun jq => bI ((sd_wn n a (fun w => sd_br Y Z (r + 1) w == 0)) jq)))), (mt, .inl (cI, 10, .inl T))] H := hP
  have hD : va_D A [(om, .inr (2, [.int (nI n), .int (nI a), .int (nI (r + 1)), .ref my, .ref mz, .int (bI false), .int (nI i), .int (bI (kn && mr)), .int (nI u1), .int (nI u2), .ref mv, .int (nI (sd_pos d v)), .int (nI d), .ref mt])), (my, .inl (cI, 24, .inl (fun jq => nI (Y jq)))), (mz, .inl (cI, 24, .inl (fun jq => nI (Z jq)))), (mv, .inl (cZ, 2048, .inl (fun jq => bI ((sd_wn n a (fun w => sd_br Y Z (r + 1) w == 0)) jq)))), (mt, .inl (cI, 10, .inl T))] := hD
  refine lv_aload_n hx hb dX2_idle_31 rfl (lv_at hl 1 rfl) ?_
  refine lv_iconst (v := nI 0) hx hb dX2_idle_32 (by decide) ?_
  refine va_put (D := D) (ci := 2) (v := .int (bI false)) (ty := .boolean) (C := RX2) (T := TX2) (N := 14) hx hb ht inX2 tyX2 tyX2_ok nmX2 hown hK hP hD hS 0 rfl rfl 7 (by decide) (ht _ wf_X2_more) (fun _ h9 => h9) rfl (by decide +kernel) (bI_nar _) (bI_fit _) (Nat.le_of_ble_eq_true rfl) dX2_idle_33 (fun H locs hP hD hS => ?_)
  have hP : va_P D clS [(om, .inr (2, [.int (nI n), .int (nI a), .int (nI (r + 1)), .ref my, .ref mz, .int (bI false), .int (nI i), .int (bI false), .int (nI u1), .int (nI u2), .ref mv, .int (nI (sd_pos d v)), .int (nI d), .ref mt])), (my, .inl (cI, 24, .inl (fun jq => nI (Y jq)))), (mz, .inl (cI, 24, .inl (fun jq => nI (Z jq)))), (mv, .inl (cZ, 2048, .inl (fun jq => bI ((sd_wn n a (fun w => sd_br Y Z (r + 1) w == 0)) jq)))), (mt, .inl (cI, 10, .inl T))] H := hP
  have hD : va_D A [(om, .inr (2, [.int (nI n), .int (nI a), .int (nI (r + 1)), .ref my, .ref mz, .int (bI false), .int (nI i), .int (bI false), .int (nI u1), .int (nI u2), .ref mv, .int (nI (sd_pos d v)), .int (nI d), .ref mt])), (my, .inl (cI, 24, .inl (fun jq => nI (Y jq)))), (mz, .inl (cI, 24, .inl (fun jq => nI (Z jq)))), (mv, .inl (cZ, 2048, .inl (fun jq => bI ((sd_wn n a (fun w => sd_br Y Z (r + 1) w == 0)) jq)))), (mt, .inl (cI, 10, .inl T))] := hD
  refine lv_aload_n hx hb dX2_idle_36 rfl (lv_at hl 1 rfl) ?_
  refine hw_callW (ws' := [(om, .inr (2, [.int (nI n), .int (nI a), .int (nI (r + 1)), .ref my, .ref mz, .int (bI false), .int (nI i), .int (bI false), .int (nI u1), .int (nI u2), .ref mv, .int (nI (sd_pos d v)), .int (nI d), .ref mt])), (my, .inl (cI, 24, .inl (fun jq => nI (Y jq)))), (mz, .inl (cI, 24, .inl (fun jq => nI (Z jq)))), (mv, .inl (cZ, 2048, .inl (fun jq => bI ((sd_wn n a (fun w => sd_br (sd_sh Y i r) (sd_sh Z i r) r w == 0)) jq)))), (mt, .inl (cI, 10, .inl T))]) (va_runV (b := om) (As := []) (rest := []) ⟨hx, hb, hml, hown, ht⟩ (m_fill l D cI cZ om my mz mv mt n a (r + 1) d v u1 u2 false false (nI i) Y Z T (sd_wn n a (fun w => sd_br Y Z (r + 1) w == 0)) ok H.size (fun w => sd_br (sd_sh Y i r) (sd_sh Z i r) r w == 0) (fun k => k == i) hu1 hu2 (hw_ski (by omega)) (fun w _ => sd_al_s Y Z w r (by omega)) (sd_wn_0 n a _) (sd_wn_hi n a _)) (cwV 0 ht (gV wm_X2_X2_fill wi_X2_fill ws_X2_fill wn_X2 wc_X2_fill) rfl rfl rfl (by decide +kernel) ⟨Nat.le_of_ble_eq_true rfl, Nat.le_of_ble_eq_true rfl⟩) (wPre_V 0 hP hD hK hN rfl rfl) rfl rfl hl.1 rfl (lv_room (Nat.le_of_ble_eq_true rfl)) dX2_idle_37 ⟨Nat.zero_le _, Nat.zero_le _⟩) hD hS hA rfl (fun H locs hP hD hS => ?_)
  have hP : va_P D clS [(om, .inr (2, [.int (nI n), .int (nI a), .int (nI (r + 1)), .ref my, .ref mz, .int (bI false), .int (nI i), .int (bI false), .int (nI u1), .int (nI u2), .ref mv, .int (nI (sd_pos d v)), .int (nI d), .ref mt])), (my, .inl (cI, 24, .inl (fun jq => nI (Y jq)))), (mz, .inl (cI, 24, .inl (fun jq => nI (Z jq)))), (mv, .inl (cZ, 2048, .inl (fun jq => bI ((sd_wn n a (fun w => sd_br (sd_sh Y i r) (sd_sh Z i r) r w == 0)) jq)))), (mt, .inl (cI, 10, .inl T))] H := hP
  have hD : va_D A [(om, .inr (2, [.int (nI n), .int (nI a), .int (nI (r + 1)), .ref my, .ref mz, .int (bI false), .int (nI i), .int (bI false), .int (nI u1), .int (nI u2), .ref mv, .int (nI (sd_pos d v)), .int (nI d), .ref mt])), (my, .inl (cI, 24, .inl (fun jq => nI (Y jq)))), (mz, .inl (cI, 24, .inl (fun jq => nI (Z jq)))), (mv, .inl (cZ, 2048, .inl (fun jq => bI ((sd_wn n a (fun w => sd_br (sd_sh Y i r) (sd_sh Z i r) r w == 0)) jq)))), (mt, .inl (cI, 10, .inl T))] := hD
  refine W.eq (g2 := F0 m 40 ls []) rfl ?_
  refine lv_aload_n hx hb dX2_idle_40 rfl (lv_at hl 1 rfl) ?_
  refine va_get (D := D) (ci := 2) (v := .ref mv) (C := RX2) (T := TX2) (N := 14) hx hb ht inX2 hown hK hP 0 rfl rfl 10 (by decide) (ht _ wf_X2_win) (fun _ h9 => h9) rfl dX2_idle_41 ?_
  refine lv_iconst (v := nI 1) hx hb dX2_idle_44 (by decide) ?_
  refine na_zald (f := sd_wn n a (fun w => sd_br (sd_sh Y i r) (sd_sh Z i r) r w == 0)) hx hb hK hP 3 1 rfl rfl (j := 1) (by omega) (by omega) dX2_idle_45 ?_
  refine lv_nm (y := bI (sd_E n a (fun w => sd_br (sd_sh Y i r) (sd_sh Z i r) r w == 0) 0 0)) (congrArg bI (sd_wn_at (d := 0) (v := 0) (Nat.zero_le n) (by decide))) ?_
  refine lv_iload_n hx hb dX2_idle_46 rfl (lv_at hl 0 rfl) ?_
  suffices mk : W p l e (headSpec (kX2_idle :: aW) { frames := 4, cells := 0, slots := 0, locals := 87 }).room s m (([.ref om, .int (nI i)] : List Value).toArray) below meth c H locs 0 0 (MQ below (wQ (some (.int (bI (sd_E n a (fun w => sd_br Y Z (r + 1) w == 0) 0 0 == sd_E n a (fun w => sd_br (sd_sh Y i r) (sd_sh Z i r) r w == 0) 0 0)))) D [(om, .inr (2, [.int (nI n), .int (nI a), .int (nI (r + 1)), .ref my, .ref mz, .int (bI false), .int (nI i), .int (bI false), .int (nI u1), .int (nI u2), .ref mv, .int (nI (sd_pos d v)), .int (nI d), .ref mt])), (my, .inl (cI, 24, .inl (fun jq => nI (Y jq)))), (mz, .inl (cI, 24, .inl (fun jq => nI (Z jq)))), (mv, .inl (cZ, 2048, .inl (fun jq => bI ((sd_wn n a (fun w => sd_br (sd_sh Y i r) (sd_sh Z i r) r w == 0)) jq)))), (mt, .inl (cI, 10, .inl T))] A) (([.ref om, .int (nI i)] : List Value).toArray) s 0 0 A) (F0 m 55 ls [.int (bI (sd_E n a (fun w => sd_br Y Z (r + 1) w == 0) 0 0 == sd_E n a (fun w => sd_br (sd_sh Y i r) (sd_sh Z i r) r w == 0) 0 0))]) by
    refine lv_icmp_ne (tgt := 54) hx hb dX2_idle_47 rfl (fun h1 => ?_) (fun h1 => ?_)
    · have h1 : ¬ (sd_E n a (fun w => sd_br (sd_sh Y i r) (sd_sh Z i r) r w == 0) 0 0) = (sd_E n a (fun w => sd_br Y Z (r + 1) w == 0) 0 0) := fun h9 => h1 ((bI_inj _ _).mpr h9)
      refine lv_iconst (v := nI 0) hx hb dX2_idle_54 (by decide) ?_
      refine lv_nm (y := bI (sd_E n a (fun w => sd_br Y Z (r + 1) w == 0) 0 0 == sd_E n a (fun w => sd_br (sd_sh Y i r) (sd_sh Z i r) r w == 0) 0 0)) (hw_0.trans (congrArg bI (show false = (sd_E n a (fun w => sd_br Y Z (r + 1) w == 0) 0 0 == sd_E n a (fun w => sd_br (sd_sh Y i r) (sd_sh Z i r) r w == 0) 0 0) by first | exact hw_bt h1.symm | exact hw_bf (fun h9 => h1 h9.symm)))) ?_
      exact mk
    · have h1 : (sd_E n a (fun w => sd_br (sd_sh Y i r) (sd_sh Z i r) r w == 0) 0 0) = (sd_E n a (fun w => sd_br Y Z (r + 1) w == 0) 0 0) := (bI_inj _ _).mp h1
      refine lv_iconst (v := nI 1) hx hb dX2_idle_50 (by decide) ?_
      refine lv_goto (tgt := 55) hx hb dX2_idle_51 rfl ?_
      refine lv_nm (y := bI (sd_E n a (fun w => sd_br Y Z (r + 1) w == 0) 0 0 == sd_E n a (fun w => sd_br (sd_sh Y i r) (sd_sh Z i r) r w == 0) 0 0)) (hw_1.trans (congrArg bI (show true = (sd_E n a (fun w => sd_br Y Z (r + 1) w == 0) 0 0 == sd_E n a (fun w => sd_br (sd_sh Y i r) (sd_sh Z i r) r w == 0) 0 0) by first | exact hw_bt h1.symm | exact hw_bf (fun h9 => h1 h9.symm)))) ?_
      exact mk
  exact W.zret hx hb hr (bI_nar _) (fun t ht2 _ => ⟨hw_ret (rfl), by rw [ht2]; exact hP, hS.F ht2⟩) hS.2.2 dX2_idle_55

set_option maxHeartbeats 4000000 in
set_option maxRecDepth 100000 in
theorem m_harmless_no (l : Launch) (D : va_G) (cI cZ : ClassId) (om my mz mv mt n a q d v u1 u2 : Nat) (kn mr : Bool) (sk : Int32) (Y Z : Nat → Nat) (T : Nat → Int32) (wn : Nat → Bool) (ok : dOk n a q d v Y Z) (y0 z0 : Int32) (hno : ¬ (uN y0 < 2 ^ n ∧ uN z0 < 2 ^ n)) : Met l yX2_harmless (kX2_harmless :: aW) { frames := 4, cells := 0, slots := 0, locals := 87 } (rPre [.ref om, .int y0, .int z0] D [(om, .inr (2, [.int (nI n), .int (nI a), .int (nI q), .ref my, .ref mz, .int (bI kn), .int sk, .int (bI mr), .int (nI u1), .int (nI u2), .ref mv, .int (nI (sd_pos d v)), .int (nI d), .ref mt])), (my, .inl (cI, 24, .inl (fun jq => nI (Y jq)))), (mz, .inl (cI, 24, .inl (fun jq => nI (Z jq)))), (mv, .inl (cZ, 2048, .inl (fun jq => bI (wn jq)))), (mt, .inl (cI, 10, .inl T))] [(cI, .int), (cZ, .boolean)]) (QcRead (bI false)) 0 0 (fun _ => False) := by
  obtain ⟨hn1, hn, ha, h5, hq, hY, hZ, hd, hv⟩ := id ok
  have h2n := hw_p10 hn
  refine Met.ofW (cc := cX2_harmless) (maxL := 4) (ret := (some .boolean)) (by decide) rfl ?_
  intro p e s m args below meth c s₁ Bo hml hpre
  obtain ⟨rfl, hP, hK, hN⟩ := hpre
  have hx := Bo.exec
  have hb := Bo.bytes
  have hr := Bo.returns
  have hts := atoms_spec (ws := kX2_harmless :: aW) Bo.pre
  have ht : ∀ w ∈ aW, w.before _ s = true := fun w h => hts w (List.mem_cons_of_mem _ h)
  have hown : s.vm.findClass RX2 = some m.cls := findClass_of_methodNamed Bo.named
  have hlocks := Bo.notSynchronized
  have hP : va_P D clS [(om, .inr (2, [.int (nI n), .int (nI a), .int (nI q), .ref my, .ref mz, .int (bI kn), .int sk, .int (bI mr), .int (nI u1), .int (nI u2), .ref mv, .int (nI (sd_pos d v)), .int (nI d), .ref mt])), (my, .inl (cI, 24, .inl (fun jq => nI (Y jq)))), (mz, .inl (cI, 24, .inl (fun jq => nI (Z jq)))), (mv, .inl (cZ, 2048, .inl (fun jq => bI (wn jq)))), (mt, .inl (cI, 10, .inl T))] s.heap := hP
  have hl := lv_entry ([.ref om, .int y0, .int z0]) (n := 4) (Nat.le_of_ble_eq_true rfl)
  rw [lg_entry_eq]
  generalize (lg_sl ([.ref om, .int y0, .int z0]) ++ List.replicate (4 - (lg_sl ([.ref om, .int y0, .int z0])).length) Slot.unset).toArray = ls at hl ⊢
  have hl : lv_has ls 4 [(0, .ref om), (1, .int y0), (2, .int z0)] := hl
  refine lv_aload_n hx hb dX2_harmless_0 rfl (lv_at hl 0 rfl) ?_
  refine lv_iload_n hx hb dX2_harmless_1 rfl (lv_at hl 1 rfl) ?_
  refine hw_callR (va_runV (b := om) (As := [.int y0]) (rest := []) ⟨hx, hb, hml, hown, ht⟩ (m_strange l D cI cZ om my mz mv mt n a q d v u1 u2 kn mr sk Y Z T wn ok y0) (cwV 1 ht (gV wm_X2_X2_strange wi_X2_strange ws_X2_strange wn_X2 wc_X2_strange) rfl rfl rfl (by decide +kernel) ⟨Nat.le_of_ble_eq_true rfl, Nat.le_of_ble_eq_true rfl⟩) (rPre_V 0 hP hK hN rfl rfl) rfl rfl hl.1 rfl (lv_room (Nat.le_of_ble_eq_true rfl)) dX2_harmless_2 ⟨Nat.zero_le _, Nat.zero_le _⟩) ?_
  refine lv_if_ne (tgt := 16) hx hb dX2_harmless_5 rfl (fun h1 => ?_) (fun h1 => ?_)
  · have h1 : (!decide (uN y0 < 2 ^ n)) = true := bI_ne0 h1
    refine lv_iconst (v := nI 0) hx hb dX2_harmless_16 (by decide) ?_
    exact W.zret hx hb hr rfl (fun t ht2 _ => ⟨hw_ret (rfl), ht2⟩) (fun _ h => by cases h) dX2_harmless_17
  · have h1 : (!decide (uN y0 < 2 ^ n)) = false := (bI_eq0 _).mp h1
    refine lv_aload_n hx hb dX2_harmless_8 rfl (lv_at hl 0 rfl) ?_
    refine lv_iload_n hx hb dX2_harmless_9 rfl (lv_at hl 2 rfl) ?_
    refine hw_callR (va_runV (b := om) (As := [.int z0]) (rest := []) ⟨hx, hb, hml, hown, ht⟩ (m_strange l D cI cZ om my mz mv mt n a q d v u1 u2 kn mr sk Y Z T wn ok z0) (cwV 1 ht (gV wm_X2_X2_strange wi_X2_strange ws_X2_strange wn_X2 wc_X2_strange) rfl rfl rfl (by decide +kernel) ⟨Nat.le_of_ble_eq_true rfl, Nat.le_of_ble_eq_true rfl⟩) (rPre_V 0 hP hK hN rfl rfl) rfl rfl hl.1 rfl (lv_room (Nat.le_of_ble_eq_true rfl)) dX2_harmless_10 ⟨Nat.zero_le _, Nat.zero_le _⟩) ?_
    refine lv_if_eq (tgt := 18) hx hb dX2_harmless_13 rfl (fun h2 => ?_) (fun h2 => ?_)
    · have h2 : (!decide (uN z0 < 2 ^ n)) = false := (bI_eq0 _).mp h2
      exact absurd ⟨by simpa using h1, by simpa using h2⟩ hno
    · have h2 : (!decide (uN z0 < 2 ^ n)) = true := bI_ne0 h2
      refine lv_iconst (v := nI 0) hx hb dX2_harmless_16 (by decide) ?_
      exact W.zret hx hb hr rfl (fun t ht2 _ => ⟨hw_ret (rfl), ht2⟩) (fun _ h => by cases h) dX2_harmless_17

set_option maxHeartbeats 4000000 in
set_option maxRecDepth 100000 in
theorem m_harmless (l : Launch) (D : va_G) (cI cZ : ClassId) (om my mz mv mt n a q d v u1 u2 : Nat) (kn mr : Bool) (sk : Int32) (Y Z : Nat → Nat) (T : Nat → Int32) (wn : Nat → Bool) (ok : dOk n a q d v Y Z) (sz : Nat) (mk : mOk n kn wn (sd_wn n a (fun w => sd_br Y Z q w == 0))) (hu1 : u1 < 2 ^ n) (hu2 : u2 < 2 ^ n) (y z : Nat) (hy : y < 2 ^ n) (hz : z < 2 ^ n) : Met l yX2_harmless (kX2_harmless :: aW) { frames := 4, cells := 0, slots := 0, locals := 87 } (wPre [.ref om, .int (nI y), .int (nI z)] D [(om, .inr (2, [.int (nI n), .int (nI a), .int (nI q), .ref my, .ref mz, .int (bI kn), .int sk, .int (bI mr), .int (nI u1), .int (nI u2), .ref mv, .int (nI (sd_pos d v)), .int (nI d), .ref mt])), (my, .inl (cI, 24, .inl (fun jq => nI (Y jq)))), (mz, .inl (cI, 24, .inl (fun jq => nI (Z jq)))), (mv, .inl (cZ, 2048, .inl (fun jq => bI (wn jq)))), (mt, .inl (cI, 10, .inl T))] [(cI, .int), (cZ, .boolean)] sz) (wQ (some (.int (bI (sd_E n a (fun w => sd_br Y Z q w == 0) 0 0 == sd_E n a (fun w => sd_br (va_up Y q y) (va_up Z q z) (q + 1) w == 0) 0 0)))) D [(om, .inr (2, [.int (nI n), .int (nI a), .int (nI q), .ref my, .ref mz, .int (bI false), .int (-1), .int (bI true), .int (nI y), .int (nI z), .ref mv, .int (nI (sd_pos d v)), .int (nI d), .ref mt])), (my, .inl (cI, 24, .inl (fun jq => nI (Y jq)))), (mz, .inl (cI, 24, .inl (fun jq => nI (Z jq)))), (mv, .inl (cZ, 2048, .inl (fun jq => bI ((sd_wn n a (fun w => sd_br (va_up Y q y) (va_up Z q z) (q + 1) w == 0)) jq)))), (mt, .inl (cI, 10, .inl T))] (va_A [(om, .inr (2, [.int (nI n), .int (nI a), .int (nI q), .ref my, .ref mz, .int (bI kn), .int sk, .int (bI mr), .int (nI u1), .int (nI u2), .ref mv, .int (nI (sd_pos d v)), .int (nI d), .ref mt])), (my, .inl (cI, 24, .inl (fun jq => nI (Y jq)))), (mz, .inl (cI, 24, .inl (fun jq => nI (Z jq)))), (mv, .inl (cZ, 2048, .inl (fun jq => bI (wn jq)))), (mt, .inl (cI, 10, .inl T))] sz)) 0 0 (va_A [(om, .inr (2, [.int (nI n), .int (nI a), .int (nI q), .ref my, .ref mz, .int (bI kn), .int sk, .int (bI mr), .int (nI u1), .int (nI u2), .ref mv, .int (nI (sd_pos d v)), .int (nI d), .ref mt])), (my, .inl (cI, 24, .inl (fun jq => nI (Y jq)))), (mz, .inl (cI, 24, .inl (fun jq => nI (Z jq)))), (mv, .inl (cZ, 2048, .inl (fun jq => bI (wn jq)))), (mt, .inl (cI, 10, .inl T))] sz) := by
  obtain ⟨hn1, hn, ha, h5, hq, hY, hZ, hd, hv⟩ := id ok
  have h2n := hw_p10 hn
  refine Met.ofW (cc := cX2_harmless) (maxL := 4) (ret := (some .boolean)) (by decide) rfl ?_
  intro p e s m args below meth c s₁ Bo hml hpre
  obtain ⟨rfl, hsz, hP, hK, hN, hD0⟩ := hpre
  subst hsz
  have hD := hD0.self (sz := s.heap.size)
  generalize hAe : va_A [(om, .inr (2, [.int (nI n), .int (nI a), .int (nI q), .ref my, .ref mz, .int (bI kn), .int sk, .int (bI mr), .int (nI u1), .int (nI u2), .ref mv, .int (nI (sd_pos d v)), .int (nI d), .ref mt])), (my, .inl (cI, 24, .inl (fun jq => nI (Y jq)))), (mz, .inl (cI, 24, .inl (fun jq => nI (Z jq)))), (mv, .inl (cZ, 2048, .inl (fun jq => bI (wn jq)))), (mt, .inl (cI, 10, .inl T))] s.heap.size = A at hD ⊢
  have hA : ∀ q : Nat, s.heap.size ≤ q → A q := fun q h => by rw [← hAe]; exact Or.inr h
  have hS : va_S A s.heap s.heap [] := va_S.rf
  have hx := Bo.exec
  have hb := Bo.bytes
  have hr := Bo.returns
  have hts := atoms_spec (ws := kX2_harmless :: aW) Bo.pre
  have ht : ∀ w ∈ aW, w.before _ s = true := fun w h => hts w (List.mem_cons_of_mem _ h)
  have hown : s.vm.findClass RX2 = some m.cls := findClass_of_methodNamed Bo.named
  have hlocks := Bo.notSynchronized
  have hP : va_P D clS [(om, .inr (2, [.int (nI n), .int (nI a), .int (nI q), .ref my, .ref mz, .int (bI kn), .int sk, .int (bI mr), .int (nI u1), .int (nI u2), .ref mv, .int (nI (sd_pos d v)), .int (nI d), .ref mt])), (my, .inl (cI, 24, .inl (fun jq => nI (Y jq)))), (mz, .inl (cI, 24, .inl (fun jq => nI (Z jq)))), (mv, .inl (cZ, 2048, .inl (fun jq => bI (wn jq)))), (mt, .inl (cI, 10, .inl T))] s.heap := hP
  have hl := lv_entry ([.ref om, .int (nI y), .int (nI z)]) (n := 4) (Nat.le_of_ble_eq_true rfl)
  rw [lg_entry_eq]
  generalize (lg_sl ([.ref om, .int (nI y), .int (nI z)]) ++ List.replicate (4 - (lg_sl ([.ref om, .int (nI y), .int (nI z)])).length) Slot.unset).toArray = ls at hl ⊢
  have hl : lv_has ls 4 [(0, .ref om), (1, .int (nI y)), (2, .int (nI z))] := hl
  refine lv_aload_n hx hb dX2_harmless_0 rfl (lv_at hl 0 rfl) ?_
  refine lv_iload_n hx hb dX2_harmless_1 rfl (lv_at hl 1 rfl) ?_
  refine hw_callR (va_runV (b := om) (As := [.int (nI y)]) (rest := []) ⟨hx, hb, hml, hown, ht⟩ (m_strange l D cI cZ om my mz mv mt n a q d v u1 u2 kn mr sk Y Z T wn ok (nI y)) (cwV 1 ht (gV wm_X2_X2_strange wi_X2_strange ws_X2_strange wn_X2 wc_X2_strange) rfl rfl rfl (by decide +kernel) ⟨Nat.le_of_ble_eq_true rfl, Nat.le_of_ble_eq_true rfl⟩) (rPre_V 0 hP hK hN rfl rfl) rfl rfl hl.1 rfl (lv_room (Nat.le_of_ble_eq_true rfl)) dX2_harmless_2 ⟨Nat.zero_le _, Nat.zero_le _⟩) ?_
  refine lv_nm (y := bI false) (congrArg bI (by rw [uN_nI (by omega), decide_eq_true hy]; rfl)) ?_
  refine lv_if_ne (tgt := 16) hx hb dX2_harmless_5 rfl (fun hc => absurd (show false = true from bI_ne0 hc) (by decide)) (fun _ => ?_)
  refine lv_aload_n hx hb dX2_harmless_8 rfl (lv_at hl 0 rfl) ?_
  refine lv_iload_n hx hb dX2_harmless_9 rfl (lv_at hl 2 rfl) ?_
  refine hw_callR (va_runV (b := om) (As := [.int (nI z)]) (rest := []) ⟨hx, hb, hml, hown, ht⟩ (m_strange l D cI cZ om my mz mv mt n a q d v u1 u2 kn mr sk Y Z T wn ok (nI z)) (cwV 1 ht (gV wm_X2_X2_strange wi_X2_strange ws_X2_strange wn_X2 wc_X2_strange) rfl rfl rfl (by decide +kernel) ⟨Nat.le_of_ble_eq_true rfl, Nat.le_of_ble_eq_true rfl⟩) (rPre_V 0 hP hK hN rfl rfl) rfl rfl hl.1 rfl (lv_room (Nat.le_of_ble_eq_true rfl)) dX2_harmless_10 ⟨Nat.zero_le _, Nat.zero_le _⟩) ?_
  refine lv_nm (y := bI false) (congrArg bI (by rw [uN_nI (by omega), decide_eq_true hz]; rfl)) ?_
  refine lv_if_eq (tgt := 18) hx hb dX2_harmless_13 rfl (fun _ => ?_) (fun hc => absurd (show false = true from bI_ne0 hc) (by decide))
  refine lv_aload_n hx hb dX2_harmless_18 rfl (lv_at hl 0 rfl) ?_
  refine hw_callW (ws' := [(om, .inr (2, [.int (nI n), .int (nI a), .int (nI q), .ref my, .ref mz, .int (bI true), .int (if kn = true then sk else -1), .int (bI (kn && mr)), .int (nI u1), .int (nI u2), .ref mv, .int (nI (sd_pos d v)), .int (nI d), .ref mt])), (my, .inl (cI, 24, .inl (fun jq => nI (Y jq)))), (mz, .inl (cI, 24, .inl (fun jq => nI (Z jq)))), (mv, .inl (cZ, 2048, .inl (fun jq => bI ((sd_wn n a (fun w => sd_br Y Z q w == 0)) jq)))), (mt, .inl (cI, 10, .inl T))]) (va_runV (b := om) (As := []) (rest := []) ⟨hx, hb, hml, hown, ht⟩ (m_look l D cI cZ om my mz mv mt n a q d v u1 u2 kn mr sk Y Z T wn ok s.heap.size mk hu1 hu2) (cwV 0 ht (gV wm_X2_X2_look wi_X2_look ws_X2_look wn_X2 wc_X2_look) rfl rfl rfl (by decide +kernel) ⟨Nat.le_of_ble_eq_true rfl, Nat.le_of_ble_eq_true rfl⟩) (wPre_V 0 hP hD hK hN rfl rfl) rfl rfl hl.1 rfl (lv_room (Nat.le_of_ble_eq_true rfl)) dX2_harmless_19 ⟨Nat.zero_le _, Nat.zero_le _⟩) hD hS hA rfl (fun H locs hP hD hS => ?_)
  have hP : va_P D clS [(om, .inr (2, [.int (nI n), .int (nI a), .int (nI q), .ref my, .ref mz, .int (bI true), .int (if kn = true then sk else -1), .int (bI (kn && mr)), .int (nI u1), .int (nI u2), .ref mv, .int (nI (sd_pos d v)), .int (nI d), .ref mt])), (my, .inl (cI, 24, .inl (fun jq => nI (Y jq)))), (mz, .inl (cI, 24, .inl (fun jq => nI (Z jq)))), (mv, .inl (cZ, 2048, .inl (fun jq => bI ((sd_wn n a (fun w => sd_br Y Z q w == 0)) jq)))), (mt, .inl (cI, 10, .inl T))] H := hP
  have hD : va_D A [(om, .inr (2, [.int (nI n), .int (nI a), .int (nI q), .ref my, .ref mz, .int (bI true), .int (if kn = true then sk else -1), .int (bI (kn && mr)), .int (nI u1), .int (nI u2), .ref mv, .int (nI (sd_pos d v)), .int (nI d), .ref mt])), (my, .inl (cI, 24, .inl (fun jq => nI (Y jq)))), (mz, .inl (cI, 24, .inl (fun jq => nI (Z jq)))), (mv, .inl (cZ, 2048, .inl (fun jq => bI ((sd_wn n a (fun w => sd_br Y Z q w == 0)) jq)))), (mt, .inl (cI, 10, .inl T))] := hD
  refine W.eq (g2 := F0 m 22 ls []) rfl ?_
  refine lv_aload_n hx hb dX2_harmless_22 rfl (lv_at hl 0 rfl) ?_
  refine va_get (D := D) (ci := 2) (v := .ref mv) (C := RX2) (T := TX2) (N := 14) hx hb ht inX2 hown hK hP 0 rfl rfl 10 (by decide) (ht _ wf_X2_win) (fun _ h9 => h9) rfl dX2_harmless_23 ?_
  refine lv_iconst (v := nI 1) hx hb dX2_harmless_26 (by decide) ?_
  refine na_zald (f := sd_wn n a (fun w => sd_br Y Z q w == 0)) hx hb hK hP 3 1 rfl rfl (j := 1) (by omega) (by omega) dX2_harmless_27 ?_
  refine lv_nm (y := bI (sd_E n a (fun w => sd_br Y Z q w == 0) 0 0)) (congrArg bI (sd_wn_at (d := 0) (v := 0) (Nat.zero_le n) (by decide))) ?_
  refine lv_istore_n hx hb dX2_harmless_28 rfl hl (by decide) rfl (fun ls hl => ?_)
  have hl : lv_has ls 4 [(3, .int (bI (sd_E n a (fun w => sd_br Y Z q w == 0) 0 0))), (0, .ref om), (1, .int (nI y)), (2, .int (nI z))] := hl
  refine lv_aload_n hx hb dX2_harmless_29 rfl (lv_at hl 1 rfl) ?_
  refine lv_iconst (v := nI 0) hx hb dX2_harmless_30 (by decide) ?_
  refine va_put (D := D) (ci := 2) (v := .int (bI false)) (ty := .boolean) (C := RX2) (T := TX2) (N := 14) hx hb ht inX2 tyX2 tyX2_ok nmX2 hown hK hP hD hS 0 rfl rfl 5 (by decide) (ht _ wf_X2_known) (fun _ h9 => h9) rfl (by decide +kernel) (bI_nar _) (bI_fit _) (Nat.le_of_ble_eq_true rfl) dX2_harmless_31 (fun H locs hP hD hS => ?_)
  have hP : va_P D clS [(om, .inr (2, [.int (nI n), .int (nI a), .int (nI q), .ref my, .ref mz, .int (bI false), .int (if kn = true then sk else -1), .int (bI (kn && mr)), .int (nI u1), .int (nI u2), .ref mv, .int (nI (sd_pos d v)), .int (nI d), .ref mt])), (my, .inl (cI, 24, .inl (fun jq => nI (Y jq)))), (mz, .inl (cI, 24, .inl (fun jq => nI (Z jq)))), (mv, .inl (cZ, 2048, .inl (fun jq => bI ((sd_wn n a (fun w => sd_br Y Z q w == 0)) jq)))), (mt, .inl (cI, 10, .inl T))] H := hP
  have hD : va_D A [(om, .inr (2, [.int (nI n), .int (nI a), .int (nI q), .ref my, .ref mz, .int (bI false), .int (if kn = true then sk else -1), .int (bI (kn && mr)), .int (nI u1), .int (nI u2), .ref mv, .int (nI (sd_pos d v)), .int (nI d), .ref mt])), (my, .inl (cI, 24, .inl (fun jq => nI (Y jq)))), (mz, .inl (cI, 24, .inl (fun jq => nI (Z jq)))), (mv, .inl (cZ, 2048, .inl (fun jq => bI ((sd_wn n a (fun w => sd_br Y Z q w == 0)) jq)))), (mt, .inl (cI, 10, .inl T))] := hD
  refine lv_aload_n hx hb dX2_harmless_34 rfl (lv_at hl 1 rfl) ?_
  refine lv_iconst (v := (-1)) hx hb dX2_harmless_35 (by decide) ?_
  refine va_put (D := D) (ci := 2) (v := .int (-1)) (ty := .int) (C := RX2) (T := TX2) (N := 14) hx hb ht inX2 tyX2 tyX2_ok nmX2 hown hK hP hD hS 0 rfl rfl 6 (by decide) (ht _ wf_X2_skip) (fun _ h9 => h9) rfl (by decide +kernel) rfl rfl (Nat.le_of_ble_eq_true rfl) dX2_harmless_36 (fun H locs hP hD hS => ?_)
  have hP : va_P D clS [(om, .inr (2, [.int (nI n), .int (nI a), .int (nI q), .ref my, .ref mz, .int (bI false), .int (-1), .int (bI (kn && mr)), .int (nI u1), .int (nI u2), .ref mv, .int (nI (sd_pos d v)), .int (nI d), .ref mt])), (my, .inl (cI, 24, .inl (fun jq => nI (Y jq)))), (mz, .inl (cI, 24, .inl (fun jq => nI (Z jq)))), (mv, .inl (cZ, 2048, .inl (fun jq => bI ((sd_wn n a (fun w => sd_br Y Z q w == 0)) jq)))), (mt, .inl (cI, 10, .inl T))] H := hP
  have hD : va_D A [(om, .inr (2, [.int (nI n), .int (nI a), .int (nI q), .ref my, .ref mz, .int (bI false), .int (-1), .int (bI (kn && mr)), .int (nI u1), .int (nI u2), .ref mv, .int (nI (sd_pos d v)), .int (nI d), .ref mt])), (my, .inl (cI, 24, .inl (fun jq => nI (Y jq)))), (mz, .inl (cI, 24, .inl (fun jq => nI (Z jq)))), (mv, .inl (cZ, 2048, .inl (fun jq => bI ((sd_wn n a (fun w => sd_br Y Z q w == 0)) jq)))), (mt, .inl (cI, 10, .inl T))] := hD
  refine lv_aload_n hx hb dX2_harmless_39 rfl (lv_at hl 1 rfl) ?_
  refine lv_iconst (v := nI 1) hx hb dX2_harmless_40 (by decide) ?_
  refine va_put (D := D) (ci := 2) (v := .int (bI true)) (ty := .boolean) (C := RX2) (T := TX2) (N := 14) hx hb ht inX2 tyX2 tyX2_ok nmX2 hown hK hP hD hS 0 rfl rfl 7 (by decide) (ht _ wf_X2_more) (fun _ h9 => h9) rfl (by decide +kernel) (bI_nar _) (bI_fit _) (Nat.le_of_ble_eq_true rfl) dX2_harmless_41 (fun H locs hP hD hS => ?_)
  have hP : va_P D clS [(om, .inr (2, [.int (nI n), .int (nI a), .int (nI q), .ref my, .ref mz, .int (bI false), .int (-1), .int (bI true), .int (nI u1), .int (nI u2), .ref mv, .int (nI (sd_pos d v)), .int (nI d), .ref mt])), (my, .inl (cI, 24, .inl (fun jq => nI (Y jq)))), (mz, .inl (cI, 24, .inl (fun jq => nI (Z jq)))), (mv, .inl (cZ, 2048, .inl (fun jq => bI ((sd_wn n a (fun w => sd_br Y Z q w == 0)) jq)))), (mt, .inl (cI, 10, .inl T))] H := hP
  have hD : va_D A [(om, .inr (2, [.int (nI n), .int (nI a), .int (nI q), .ref my, .ref mz, .int (bI false), .int (-1), .int (bI true), .int (nI u1), .int (nI u2), .ref mv, .int (nI (sd_pos d v)), .int (nI d), .ref mt])), (my, .inl (cI, 24, .inl (fun jq => nI (Y jq)))), (mz, .inl (cI, 24, .inl (fun jq => nI (Z jq)))), (mv, .inl (cZ, 2048, .inl (fun jq => bI ((sd_wn n a (fun w => sd_br Y Z q w == 0)) jq)))), (mt, .inl (cI, 10, .inl T))] := hD
  refine lv_aload_n hx hb dX2_harmless_44 rfl (lv_at hl 1 rfl) ?_
  refine lv_iload_n hx hb dX2_harmless_45 rfl (lv_at hl 2 rfl) ?_
  refine va_put (D := D) (ci := 2) (v := .int (nI y)) (ty := .int) (C := RX2) (T := TX2) (N := 14) hx hb ht inX2 tyX2 tyX2_ok nmX2 hown hK hP hD hS 0 rfl rfl 8 (by decide) (ht _ wf_X2_moreYes) (fun _ h9 => h9) rfl (by decide +kernel) rfl rfl (Nat.le_of_ble_eq_true rfl) dX2_harmless_46 (fun H locs hP hD hS => ?_)
  have hP : va_P D clS [(om, .inr (2, [.int (nI n), .int (nI a), .int (nI q), .ref my, .ref mz, .int (bI false), .int (-1), .int (bI true), .int (nI y), .int (nI u2), .ref mv, .int (nI (sd_pos d v)), .int (nI d), .ref mt])), (my, .inl (cI, 24, .inl (fun jq => nI (Y jq)))), (mz, .inl (cI, 24, .inl (fun jq => nI (Z jq)))), (mv, .inl (cZ, 2048, .inl (fun jq => bI ((sd_wn n a (fun w => sd_br Y Z q w == 0)) jq)))), (mt, .inl (cI, 10, .inl T))] H := hP
  have hD : va_D A [(om, .inr (2, [.int (nI n), .int (nI a), .int (nI q), .ref my, .ref mz, .int (bI false), .int (-1), .int (bI true), .int (nI y), .int (nI u2), .ref mv, .int (nI (sd_pos d v)), .int (nI d), .ref mt])), (my, .inl (cI, 24, .inl (fun jq => nI (Y jq)))), (mz, .inl (cI, 24, .inl (fun jq => nI (Z jq)))), (mv, .inl (cZ, 2048, .inl (fun jq => bI ((sd_wn n a (fun w => sd_br Y Z q w == 0)) jq)))), (mt, .inl (cI, 10, .inl T))] := hD
  refine lv_aload_n hx hb dX2_harmless_49 rfl (lv_at hl 1 rfl) ?_
  refine lv_iload_n hx hb dX2_harmless_50 rfl (lv_at hl 3 rfl) ?_
  refine va_put (D := D) (ci := 2) (v := .int (nI z)) (ty := .int) (C := RX2) (T := TX2) (N := 14) hx hb ht inX2 tyX2 tyX2_ok nmX2 hown hK hP hD hS 0 rfl rfl 9 (by decide) (ht _ wf_X2_moreNo) (fun _ h9 => h9) rfl (by decide +kernel) rfl rfl (Nat.le_of_ble_eq_true rfl) dX2_harmless_51 (fun H locs hP hD hS => ?_)
  have hP : va_P D clS [(om, .inr (2, [.int (nI n), .int (nI a), .int (nI q), .ref my, .ref mz, .int (bI false), .int (-1), .int (bI true), .int (nI y), .int (nI z), .ref mv, .int (nI (sd_pos d v)), .int (nI d), .ref mt])), (my, .inl (cI, 24, .inl (fun jq => nI (Y jq)))), (mz, .inl (cI, 24, .inl (fun jq => nI (Z jq)))), (mv, .inl (cZ, 2048, .inl (fun jq => bI ((sd_wn n a (fun w => sd_br Y Z q w == 0)) jq)))), (mt, .inl (cI, 10, .inl T))] H := hP
  have hD : va_D A [(om, .inr (2, [.int (nI n), .int (nI a), .int (nI q), .ref my, .ref mz, .int (bI false), .int (-1), .int (bI true), .int (nI y), .int (nI z), .ref mv, .int (nI (sd_pos d v)), .int (nI d), .ref mt])), (my, .inl (cI, 24, .inl (fun jq => nI (Y jq)))), (mz, .inl (cI, 24, .inl (fun jq => nI (Z jq)))), (mv, .inl (cZ, 2048, .inl (fun jq => bI ((sd_wn n a (fun w => sd_br Y Z q w == 0)) jq)))), (mt, .inl (cI, 10, .inl T))] := hD
  refine lv_aload_n hx hb dX2_harmless_54 rfl (lv_at hl 1 rfl) ?_
  refine hw_callW (ws' := [(om, .inr (2, [.int (nI n), .int (nI a), .int (nI q), .ref my, .ref mz, .int (bI false), .int (-1), .int (bI true), .int (nI y), .int (nI z), .ref mv, .int (nI (sd_pos d v)), .int (nI d), .ref mt])), (my, .inl (cI, 24, .inl (fun jq => nI (Y jq)))), (mz, .inl (cI, 24, .inl (fun jq => nI (Z jq)))), (mv, .inl (cZ, 2048, .inl (fun jq => bI ((sd_wn n a (fun w => sd_br (va_up Y q y) (va_up Z q z) (q + 1) w == 0)) jq)))), (mt, .inl (cI, 10, .inl T))]) (va_runV (b := om) (As := []) (rest := []) ⟨hx, hb, hml, hown, ht⟩ (m_fill l D cI cZ om my mz mv mt n a q d v y z false true (-1) Y Z T (sd_wn n a (fun w => sd_br Y Z q w == 0)) ok H.size (fun w => sd_br (va_up Y q y) (va_up Z q z) (q + 1) w == 0) (fun _ => false) hy hz hw_skm (fun w _ => sd_al_m Y Z y z w q) (sd_wn_0 n a _) (sd_wn_hi n a _)) (cwV 0 ht (gV wm_X2_X2_fill wi_X2_fill ws_X2_fill wn_X2 wc_X2_fill) rfl rfl rfl (by decide +kernel) ⟨Nat.le_of_ble_eq_true rfl, Nat.le_of_ble_eq_true rfl⟩) (wPre_V 0 hP hD hK hN rfl rfl) rfl rfl hl.1 rfl (lv_room (Nat.le_of_ble_eq_true rfl)) dX2_harmless_55 ⟨Nat.zero_le _, Nat.zero_le _⟩) hD hS hA rfl (fun H locs hP hD hS => ?_)
  have hP : va_P D clS [(om, .inr (2, [.int (nI n), .int (nI a), .int (nI q), .ref my, .ref mz, .int (bI false), .int (-1), .int (bI true), .int (nI y), .int (nI z), .ref mv, .int (nI (sd_pos d v)), .int (nI d), .ref mt])), (my, .inl (cI, 24, .inl (fun jq => nI (Y jq)))), (mz, .inl (cI, 24, .inl (fun jq => nI (Z jq)))), (mv, .inl (cZ, 2048, .inl (fun jq => bI ((sd_wn n a (fun w => sd_br (va_up Y q y) (va_up Z q z) (q + 1) w == 0)) jq)))), (mt, .inl (cI, 10, .inl T))] H := hP
  have hD : va_D A [(om, .inr (2, [.int (nI n), .int (nI a), .int (nI q), .ref my, .ref mz, .int (bI false), .int (-1), .int (bI true), .int (nI y), .int (nI z), .ref mv, .int (nI (sd_pos d v)), .int (nI d), .ref mt])), (my, .inl (cI, 24, .inl (fun jq => nI (Y jq)))), (mz, .inl (cI, 24, .inl (fun jq => nI (Z jq)))), (mv, .inl (cZ, 2048, .inl (fun jq => bI ((sd_wn n a (fun w => sd_br (va_up Y q y) (va_up Z q z) (q + 1) w == 0)) jq)))), (mt, .inl (cI, 10, .inl T))] := hD
  refine W.eq (g2 := F0 m 58 ls []) rfl ?_
  refine lv_aload_n hx hb dX2_harmless_58 rfl (lv_at hl 1 rfl) ?_
  refine va_get (D := D) (ci := 2) (v := .ref mv) (C := RX2) (T := TX2) (N := 14) hx hb ht inX2 hown hK hP 0 rfl rfl 10 (by decide) (ht _ wf_X2_win) (fun _ h9 => h9) rfl dX2_harmless_59 ?_
  refine lv_iconst (v := nI 1) hx hb dX2_harmless_62 (by decide) ?_
  refine na_zald (f := sd_wn n a (fun w => sd_br (va_up Y q y) (va_up Z q z) (q + 1) w == 0)) hx hb hK hP 3 1 rfl rfl (j := 1) (by omega) (by omega) dX2_harmless_63 ?_
  refine lv_nm (y := bI (sd_E n a (fun w => sd_br (va_up Y q y) (va_up Z q z) (q + 1) w == 0) 0 0)) (congrArg bI (sd_wn_at (d := 0) (v := 0) (Nat.zero_le n) (by decide))) ?_
  refine lv_iload_n hx hb dX2_harmless_64 rfl (lv_at hl 0 rfl) ?_
  suffices mk : W p l e (headSpec (kX2_harmless :: aW) { frames := 4, cells := 0, slots := 0, locals := 87 }).room s m (([.ref om, .int (nI y), .int (nI z)] : List Value).toArray) below meth c H locs 0 0 (MQ below (wQ (some (.int (bI (sd_E n a (fun w => sd_br Y Z q w == 0) 0 0 == sd_E n a (fun w => sd_br (va_up Y q y) (va_up Z q z) (q + 1) w == 0) 0 0)))) D [(om, .inr (2, [.int (nI n), .int (nI a), .int (nI q), .ref my, .ref mz, .int (bI false), .int (-1), .int (bI true), .int (nI y), .int (nI z), .ref mv, .int (nI (sd_pos d v)), .int (nI d), .ref mt])), (my, .inl (cI, 24, .inl (fun jq => nI (Y jq)))), (mz, .inl (cI, 24, .inl (fun jq => nI (Z jq)))), (mv, .inl (cZ, 2048, .inl (fun jq => bI ((sd_wn n a (fun w => sd_br (va_up Y q y) (va_up Z q z) (q + 1) w == 0)) jq)))), (mt, .inl (cI, 10, .inl T))] A) (([.ref om, .int (nI y), .int (nI z)] : List Value).toArray) s 0 0 A) (F0 m 73 ls [.int (bI (sd_E n a (fun w => sd_br Y Z q w == 0) 0 0 == sd_E n a (fun w => sd_br (va_up Y q y) (va_up Z q z) (q + 1) w == 0) 0 0))]) by
    refine lv_icmp_ne (tgt := 72) hx hb dX2_harmless_65 rfl (fun h1 => ?_) (fun h1 => ?_)
    · have h1 : ¬ (sd_E n a (fun w => sd_br (va_up Y q y) (va_up Z q z) (q + 1) w == 0) 0 0) = (sd_E n a (fun w => sd_br Y Z q w == 0) 0 0) := fun h9 => h1 ((bI_inj _ _).mpr h9)
      refine lv_iconst (v := nI 0) hx hb dX2_harmless_72 (by decide) ?_
      refine lv_nm (y := bI (sd_E n a (fun w => sd_br Y Z q w == 0) 0 0 == sd_E n a (fun w => sd_br (va_up Y q y) (va_up Z q z) (q + 1) w == 0) 0 0)) (hw_0.trans (congrArg bI (show false = (sd_E n a (fun w => sd_br Y Z q w == 0) 0 0 == sd_E n a (fun w => sd_br (va_up Y q y) (va_up Z q z) (q + 1) w == 0) 0 0) by first | exact hw_bt h1.symm | exact hw_bf (fun h9 => h1 h9.symm)))) ?_
      exact mk
    · have h1 : (sd_E n a (fun w => sd_br (va_up Y q y) (va_up Z q z) (q + 1) w == 0) 0 0) = (sd_E n a (fun w => sd_br Y Z q w == 0) 0 0) := (bI_inj _ _).mp h1
      refine lv_iconst (v := nI 1) hx hb dX2_harmless_68 (by decide) ?_
      refine lv_goto (tgt := 73) hx hb dX2_harmless_69 rfl ?_
      refine lv_nm (y := bI (sd_E n a (fun w => sd_br Y Z q w == 0) 0 0 == sd_E n a (fun w => sd_br (va_up Y q y) (va_up Z q z) (q + 1) w == 0) 0 0)) (hw_1.trans (congrArg bI (show true = (sd_E n a (fun w => sd_br Y Z q w == 0) 0 0 == sd_E n a (fun w => sd_br (va_up Y q y) (va_up Z q z) (q + 1) w == 0) 0 0) by first | exact hw_bt h1.symm | exact hw_bf (fun h9 => h1 h9.symm)))) ?_
      exact mk
  exact W.zret hx hb hr (bI_nar _) (fun t ht2 _ => ⟨hw_ret (rfl), by rw [ht2]; exact hP, hS.F ht2⟩) hS.2.2 dX2_harmless_73

set_option maxHeartbeats 4000000 in
set_option maxRecDepth 100000 in
theorem m_play_no (l : Launch) (D : va_G) (cI cZ : ClassId) (om my mz mv mt n a q d v u1 u2 : Nat) (kn mr : Bool) (sk : Int32) (Y Z : Nat → Nat) (T : Nat → Int32) (wn : Nat → Bool) (ok : dOk n a q d v Y Z) (x : Int32) (hno : ¬ (uN x < 2 ∧ d < n)) : Met l yX2_play (kX2_play :: aW) { frames := 0, cells := 0, slots := 0, locals := 0 } (rPre [.ref om, .int x] D [(om, .inr (2, [.int (nI n), .int (nI a), .int (nI q), .ref my, .ref mz, .int (bI kn), .int sk, .int (bI mr), .int (nI u1), .int (nI u2), .ref mv, .int (nI (sd_pos d v)), .int (nI d), .ref mt])), (my, .inl (cI, 24, .inl (fun jq => nI (Y jq)))), (mz, .inl (cI, 24, .inl (fun jq => nI (Z jq)))), (mv, .inl (cZ, 2048, .inl (fun jq => bI (wn jq)))), (mt, .inl (cI, 10, .inl T))] [(cI, .int), (cZ, .boolean)]) (QcRead (-1)) 0 0 (fun _ => False) := by
  obtain ⟨hn1, hn, ha, h5, hq, hY, hZ, hd, hv⟩ := id ok
  have h2n := hw_p10 hn
  refine Met.ofW (cc := cX2_play) (maxL := 2) (ret := (some .int)) (by decide) rfl ?_
  intro p e s m args below meth c s₁ Bo hml hpre
  obtain ⟨rfl, hP, hK, hN⟩ := hpre
  have hx := Bo.exec
  have hb := Bo.bytes
  have hr := Bo.returns
  have hts := atoms_spec (ws := kX2_play :: aW) Bo.pre
  have ht : ∀ w ∈ aW, w.before _ s = true := fun w h => hts w (List.mem_cons_of_mem _ h)
  have hown : s.vm.findClass RX2 = some m.cls := findClass_of_methodNamed Bo.named
  have hlocks := Bo.notSynchronized
  have hP : va_P D clS [(om, .inr (2, [.int (nI n), .int (nI a), .int (nI q), .ref my, .ref mz, .int (bI kn), .int sk, .int (bI mr), .int (nI u1), .int (nI u2), .ref mv, .int (nI (sd_pos d v)), .int (nI d), .ref mt])), (my, .inl (cI, 24, .inl (fun jq => nI (Y jq)))), (mz, .inl (cI, 24, .inl (fun jq => nI (Z jq)))), (mv, .inl (cZ, 2048, .inl (fun jq => bI (wn jq)))), (mt, .inl (cI, 10, .inl T))] s.heap := hP
  have hl := lv_entry ([.ref om, .int x]) (n := 2) (Nat.le_of_ble_eq_true rfl)
  rw [lg_entry_eq]
  generalize (lg_sl ([.ref om, .int x]) ++ List.replicate (2 - (lg_sl ([.ref om, .int x])).length) Slot.unset).toArray = ls at hl ⊢
  have hl : lv_has ls 2 [(0, .ref om), (1, .int x)] := hl
  refine lv_iload_n hx hb dX2_play_0 rfl (lv_at hl 1 rfl) ?_
  refine lv_if_lt (tgt := 20) hx hb dX2_play_1 rfl (fun h1 => ?_) (fun h1 => ?_)
  · refine lv_iconst (v := (-1)) hx hb dX2_play_20 (by decide) ?_
    exact W.iret hx hb hr (fun t ht2 _ => ⟨hw_ret (rfl), ht2⟩) (fun _ h => by cases h) dX2_play_21
  · refine lv_iload_n hx hb dX2_play_4 rfl (lv_at hl 1 rfl) ?_
    refine lv_iconst (v := nI 1) hx hb dX2_play_5 (by decide) ?_
    refine lv_icmp_gt (tgt := 20) hx hb dX2_play_6 rfl (fun h2 => ?_) (fun h2 => ?_)
    · refine lv_iconst (v := (-1)) hx hb dX2_play_20 (by decide) ?_
      exact W.iret hx hb hr (fun t ht2 _ => ⟨hw_ret (rfl), ht2⟩) (fun _ h => by cases h) dX2_play_21
    · refine lv_aload_n hx hb dX2_play_9 rfl (lv_at hl 0 rfl) ?_
      refine va_get (D := D) (ci := 2) (v := .int (nI d)) (C := RX2) (T := TX2) (N := 14) hx hb ht inX2 hown hK hP 0 rfl rfl 12 (by decide) (ht _ wf_X2_set) (fun _ h9 => h9) rfl dX2_play_10 ?_
      refine lv_aload_n hx hb dX2_play_13 rfl (lv_at hl 0 rfl) ?_
      refine va_get (D := D) (ci := 2) (v := .int (nI n)) (C := RX2) (T := TX2) (N := 14) hx hb ht inX2 hown hK hP 0 rfl rfl 0 (by decide) (ht _ wf_X2_n) (fun _ h9 => h9) rfl dX2_play_14 ?_
      refine lv_icmp_ne (tgt := 22) hx hb dX2_play_17 rfl (fun h3 => ?_) (fun h3 => ?_)
      · have h3 : ¬ (d = n) := fun h9 => h3 ((nI_eq (by omega) (by omega)).mpr h9)
        exact absurd ⟨hw_01 h1 h2, by omega⟩ hno
      · have h3 : d = n := (nI_eq (by omega) (by omega)).mp h3
        refine lv_iconst (v := (-1)) hx hb dX2_play_20 (by decide) ?_
        exact W.iret hx hb hr (fun t ht2 _ => ⟨hw_ret (rfl), ht2⟩) (fun _ h => by cases h) dX2_play_21

set_option maxHeartbeats 4000000 in
set_option maxRecDepth 100000 in
theorem m_play (l : Launch) (D : va_G) (cI cZ : ClassId) (om my mz mv mt n a q d v u1 u2 : Nat) (kn mr : Bool) (sk : Int32) (Y Z : Nat → Nat) (T : Nat → Int32) (wn : Nat → Bool) (ok : dOk n a q d v Y Z) (sz : Nat) (b : Bool) (hdn : d < n) : Met l yX2_play (kX2_play :: aW) { frames := 0, cells := 0, slots := 0, locals := 0 } (wPre [.ref om, .int (bI b)] D [(om, .inr (2, [.int (nI n), .int (nI a), .int (nI q), .ref my, .ref mz, .int (bI kn), .int sk, .int (bI mr), .int (nI u1), .int (nI u2), .ref mv, .int (nI (sd_pos d v)), .int (nI d), .ref mt])), (my, .inl (cI, 24, .inl (fun jq => nI (Y jq)))), (mz, .inl (cI, 24, .inl (fun jq => nI (Z jq)))), (mv, .inl (cZ, 2048, .inl (fun jq => bI (wn jq)))), (mt, .inl (cI, 10, .inl T))] [(cI, .int), (cZ, .boolean)] sz) (wQ (some (.int (nI d))) D [(om, .inr (2, [.int (nI n), .int (nI a), .int (nI q), .ref my, .ref mz, .int (bI kn), .int sk, .int (bI mr), .int (nI u1), .int (nI u2), .ref mv, .int (nI (sd_pos (d + 1) (v + b.toNat * 2 ^ d))), .int (nI (d + 1)), .ref mt])), (my, .inl (cI, 24, .inl (fun jq => nI (Y jq)))), (mz, .inl (cI, 24, .inl (fun jq => nI (Z jq)))), (mv, .inl (cZ, 2048, .inl (fun jq => bI (wn jq)))), (mt, .inl (cI, 10, .inl T))] (va_A [(om, .inr (2, [.int (nI n), .int (nI a), .int (nI q), .ref my, .ref mz, .int (bI kn), .int sk, .int (bI mr), .int (nI u1), .int (nI u2), .ref mv, .int (nI (sd_pos d v)), .int (nI d), .ref mt])), (my, .inl (cI, 24, .inl (fun jq => nI (Y jq)))), (mz, .inl (cI, 24, .inl (fun jq => nI (Z jq)))), (mv, .inl (cZ, 2048, .inl (fun jq => bI (wn jq)))), (mt, .inl (cI, 10, .inl T))] sz)) 0 0 (va_A [(om, .inr (2, [.int (nI n), .int (nI a), .int (nI q), .ref my, .ref mz, .int (bI kn), .int sk, .int (bI mr), .int (nI u1), .int (nI u2), .ref mv, .int (nI (sd_pos d v)), .int (nI d), .ref mt])), (my, .inl (cI, 24, .inl (fun jq => nI (Y jq)))), (mz, .inl (cI, 24, .inl (fun jq => nI (Z jq)))), (mv, .inl (cZ, 2048, .inl (fun jq => bI (wn jq)))), (mt, .inl (cI, 10, .inl T))] sz) := by
  obtain ⟨hn1, hn, ha, h5, hq, hY, hZ, hd, hv⟩ := id ok
  have h2n := hw_p10 hn
  refine Met.ofW (cc := cX2_play) (maxL := 2) (ret := (some .int)) (by decide) rfl ?_
  intro p e s m args below meth c s₁ Bo hml hpre
  obtain ⟨rfl, hsz, hP, hK, hN, hD0⟩ := hpre
  subst hsz
  have hD := hD0.self (sz := s.heap.size)
  generalize hAe : va_A [(om, .inr (2, [.int (nI n), .int (nI a), .int (nI q), .ref my, .ref mz, .int (bI kn), .int sk, .int (bI mr), .int (nI u1), .int (nI u2), .ref mv, .int (nI (sd_pos d v)), .int (nI d), .ref mt])), (my, .inl (cI, 24, .inl (fun jq => nI (Y jq)))), (mz, .inl (cI, 24, .inl (fun jq => nI (Z jq)))), (mv, .inl (cZ, 2048, .inl (fun jq => bI (wn jq)))), (mt, .inl (cI, 10, .inl T))] s.heap.size = A at hD ⊢
  have hA : ∀ q : Nat, s.heap.size ≤ q → A q := fun q h => by rw [← hAe]; exact Or.inr h
  have hS : va_S A s.heap s.heap [] := va_S.rf
  have hx := Bo.exec
  have hb := Bo.bytes
  have hr := Bo.returns
  have hts := atoms_spec (ws := kX2_play :: aW) Bo.pre
  have ht : ∀ w ∈ aW, w.before _ s = true := fun w h => hts w (List.mem_cons_of_mem _ h)
  have hown : s.vm.findClass RX2 = some m.cls := findClass_of_methodNamed Bo.named
  have hlocks := Bo.notSynchronized
  have hP : va_P D clS [(om, .inr (2, [.int (nI n), .int (nI a), .int (nI q), .ref my, .ref mz, .int (bI kn), .int sk, .int (bI mr), .int (nI u1), .int (nI u2), .ref mv, .int (nI (sd_pos d v)), .int (nI d), .ref mt])), (my, .inl (cI, 24, .inl (fun jq => nI (Y jq)))), (mz, .inl (cI, 24, .inl (fun jq => nI (Z jq)))), (mv, .inl (cZ, 2048, .inl (fun jq => bI (wn jq)))), (mt, .inl (cI, 10, .inl T))] s.heap := hP
  have hl := lv_entry ([.ref om, .int (bI b)]) (n := 2) (Nat.le_of_ble_eq_true rfl)
  rw [lg_entry_eq]
  generalize (lg_sl ([.ref om, .int (bI b)]) ++ List.replicate (2 - (lg_sl ([.ref om, .int (bI b)])).length) Slot.unset).toArray = ls at hl ⊢
  have hl : lv_has ls 2 [(0, .ref om), (1, .int (bI b))] := hl
  refine lv_iload_n hx hb dX2_play_0 rfl (lv_at hl 1 rfl) ?_
  refine lv_if_lt (tgt := 20) hx hb dX2_play_1 rfl (fun hc => absurd hc ((hw_b01 b).1)) (fun _ => ?_)
  refine lv_iload_n hx hb dX2_play_4 rfl (lv_at hl 1 rfl) ?_
  refine lv_iconst (v := nI 1) hx hb dX2_play_5 (by decide) ?_
  refine lv_icmp_gt (tgt := 20) hx hb dX2_play_6 rfl (fun hc => absurd hc ((hw_b01 b).2)) (fun _ => ?_)
  refine lv_aload_n hx hb dX2_play_9 rfl (lv_at hl 0 rfl) ?_
  refine va_get (D := D) (ci := 2) (v := .int (nI d)) (C := RX2) (T := TX2) (N := 14) hx hb ht inX2 hown hK hP 0 rfl rfl 12 (by decide) (ht _ wf_X2_set) (fun _ h9 => h9) rfl dX2_play_10 ?_
  refine lv_aload_n hx hb dX2_play_13 rfl (lv_at hl 0 rfl) ?_
  refine va_get (D := D) (ci := 2) (v := .int (nI n)) (C := RX2) (T := TX2) (N := 14) hx hb ht inX2 hown hK hP 0 rfl rfl 0 (by decide) (ht _ wf_X2_n) (fun _ h9 => h9) rfl dX2_play_14 ?_
  refine lv_icmp_ne (tgt := 22) hx hb dX2_play_17 rfl (fun _ => ?_) (fun hc => absurd (show d = n from (nI_eq (by omega) (by omega)).mp hc) (by omega))
  refine lv_aload_n hx hb dX2_play_22 rfl (lv_at hl 0 rfl) ?_
  refine lv_iconst (v := nI 2) hx hb dX2_play_23 (by decide) ?_
  refine lv_aload_n hx hb dX2_play_24 rfl (lv_at hl 0 rfl) ?_
  refine va_get (D := D) (ci := 2) (v := .int (nI (sd_pos d v))) (C := RX2) (T := TX2) (N := 14) hx hb ht inX2 hown hK hP 0 rfl rfl 11 (by decide) (ht _ wf_X2_position) (fun _ h9 => h9) rfl dX2_play_25 ?_
  refine lv_imul hx hb dX2_play_28 ?_
  refine lv_nm (y := nI (2 * (sd_pos d v))) (pk_mul _ _) ?_
  refine lv_iload_n hx hb dX2_play_29 rfl (lv_at hl 1 rfl) ?_
  refine lv_iadd hx hb dX2_play_30 ?_
  refine lv_nm (y := nI (sd_pos (d + 1) (v + b.toNat * 2 ^ d))) (by rw [bI_nI, nI_add, sd_pos_play b hv]) ?_
  refine va_put (D := D) (ci := 2) (v := .int (nI (sd_pos (d + 1) (v + b.toNat * 2 ^ d)))) (ty := .int) (C := RX2) (T := TX2) (N := 14) hx hb ht inX2 tyX2 tyX2_ok nmX2 hown hK hP hD hS 0 rfl rfl 11 (by decide) (ht _ wf_X2_position) (fun _ h9 => h9) rfl (by decide +kernel) rfl rfl (Nat.le_of_ble_eq_true rfl) dX2_play_31 (fun H locs hP hD hS => ?_)
  have hP : va_P D clS [(om, .inr (2, [.int (nI n), .int (nI a), .int (nI q), .ref my, .ref mz, .int (bI kn), .int sk, .int (bI mr), .int (nI u1), .int (nI u2), .ref mv, .int (nI (sd_pos (d + 1) (v + b.toNat * 2 ^ d))), .int (nI d), .ref mt])), (my, .inl (cI, 24, .inl (fun jq => nI (Y jq)))), (mz, .inl (cI, 24, .inl (fun jq => nI (Z jq)))), (mv, .inl (cZ, 2048, .inl (fun jq => bI (wn jq)))), (mt, .inl (cI, 10, .inl T))] H := hP
  have hD : va_D A [(om, .inr (2, [.int (nI n), .int (nI a), .int (nI q), .ref my, .ref mz, .int (bI kn), .int sk, .int (bI mr), .int (nI u1), .int (nI u2), .ref mv, .int (nI (sd_pos (d + 1) (v + b.toNat * 2 ^ d))), .int (nI d), .ref mt])), (my, .inl (cI, 24, .inl (fun jq => nI (Y jq)))), (mz, .inl (cI, 24, .inl (fun jq => nI (Z jq)))), (mv, .inl (cZ, 2048, .inl (fun jq => bI (wn jq)))), (mt, .inl (cI, 10, .inl T))] := hD
  refine lv_aload_n hx hb dX2_play_34 rfl (lv_at hl 0 rfl) ?_
  refine lv_dup hx hb dX2_play_35 rfl ?_
  refine va_get (D := D) (ci := 2) (v := .int (nI d)) (C := RX2) (T := TX2) (N := 14) hx hb ht inX2 hown hK hP 0 rfl rfl 12 (by decide) (ht _ wf_X2_set) (fun _ h9 => h9) rfl dX2_play_36 ?_
  refine lv_iconst (v := nI 1) hx hb dX2_play_39 (by decide) ?_
  refine lv_iadd hx hb dX2_play_40 ?_
  refine lv_nm (y := nI (d + 1)) (nI_add _ _) ?_
  refine va_put (D := D) (ci := 2) (v := .int (nI (d + 1))) (ty := .int) (C := RX2) (T := TX2) (N := 14) hx hb ht inX2 tyX2 tyX2_ok nmX2 hown hK hP hD hS 0 rfl rfl 12 (by decide) (ht _ wf_X2_set) (fun _ h9 => h9) rfl (by decide +kernel) rfl rfl (Nat.le_of_ble_eq_true rfl) dX2_play_41 (fun H locs hP hD hS => ?_)
  have hP : va_P D clS [(om, .inr (2, [.int (nI n), .int (nI a), .int (nI q), .ref my, .ref mz, .int (bI kn), .int sk, .int (bI mr), .int (nI u1), .int (nI u2), .ref mv, .int (nI (sd_pos (d + 1) (v + b.toNat * 2 ^ d))), .int (nI (d + 1)), .ref mt])), (my, .inl (cI, 24, .inl (fun jq => nI (Y jq)))), (mz, .inl (cI, 24, .inl (fun jq => nI (Z jq)))), (mv, .inl (cZ, 2048, .inl (fun jq => bI (wn jq)))), (mt, .inl (cI, 10, .inl T))] H := hP
  have hD : va_D A [(om, .inr (2, [.int (nI n), .int (nI a), .int (nI q), .ref my, .ref mz, .int (bI kn), .int sk, .int (bI mr), .int (nI u1), .int (nI u2), .ref mv, .int (nI (sd_pos (d + 1) (v + b.toNat * 2 ^ d))), .int (nI (d + 1)), .ref mt])), (my, .inl (cI, 24, .inl (fun jq => nI (Y jq)))), (mz, .inl (cI, 24, .inl (fun jq => nI (Z jq)))), (mv, .inl (cZ, 2048, .inl (fun jq => bI (wn jq)))), (mt, .inl (cI, 10, .inl T))] := hD
  refine lv_aload_n hx hb dX2_play_44 rfl (lv_at hl 0 rfl) ?_
  refine va_get (D := D) (ci := 2) (v := .int (nI (d + 1))) (C := RX2) (T := TX2) (N := 14) hx hb ht inX2 hown hK hP 0 rfl rfl 12 (by decide) (ht _ wf_X2_set) (fun _ h9 => h9) rfl dX2_play_45 ?_
  refine lv_iconst (v := nI 1) hx hb dX2_play_48 (by decide) ?_
  refine lv_isub hx hb dX2_play_49 ?_
  refine lv_nm (y := nI d) (nI_pred _) ?_
  exact W.iret hx hb hr (fun t ht2 _ => ⟨hw_ret (rfl), by rw [ht2]; exact hP, hS.F ht2⟩) hS.2.2 dX2_play_50

set_option maxHeartbeats 4000000 in
set_option maxRecDepth 100000 in
theorem m_undo_no (l : Launch) (D : va_G) (cI cZ : ClassId) (om my mz mv mt n a q d v u1 u2 : Nat) (kn mr : Bool) (sk : Int32) (Y Z : Nat → Nat) (T : Nat → Int32) (wn : Nat → Bool) (ok : dOk n a q d v Y Z) (hd0 : d = 0) : Met l yX2_undo (kX2_undo :: aW) { frames := 0, cells := 0, slots := 0, locals := 0 } (rPre [.ref om] D [(om, .inr (2, [.int (nI n), .int (nI a), .int (nI q), .ref my, .ref mz, .int (bI kn), .int sk, .int (bI mr), .int (nI u1), .int (nI u2), .ref mv, .int (nI (sd_pos d v)), .int (nI d), .ref mt])), (my, .inl (cI, 24, .inl (fun jq => nI (Y jq)))), (mz, .inl (cI, 24, .inl (fun jq => nI (Z jq)))), (mv, .inl (cZ, 2048, .inl (fun jq => bI (wn jq)))), (mt, .inl (cI, 10, .inl T))] [(cI, .int), (cZ, .boolean)]) (QcRead (bI false)) 0 0 (fun _ => False) := by
  obtain ⟨hn1, hn, ha, h5, hq, hY, hZ, hd, hv⟩ := id ok
  have h2n := hw_p10 hn
  refine Met.ofW (cc := cX2_undo) (maxL := 1) (ret := (some .boolean)) (by decide) rfl ?_
  intro p e s m args below meth c s₁ Bo hml hpre
  obtain ⟨rfl, hP, hK, hN⟩ := hpre
  have hx := Bo.exec
  have hb := Bo.bytes
  have hr := Bo.returns
  have hts := atoms_spec (ws := kX2_undo :: aW) Bo.pre
  have ht : ∀ w ∈ aW, w.before _ s = true := fun w h => hts w (List.mem_cons_of_mem _ h)
  have hown : s.vm.findClass RX2 = some m.cls := findClass_of_methodNamed Bo.named
  have hlocks := Bo.notSynchronized
  have hP : va_P D clS [(om, .inr (2, [.int (nI n), .int (nI a), .int (nI q), .ref my, .ref mz, .int (bI kn), .int sk, .int (bI mr), .int (nI u1), .int (nI u2), .ref mv, .int (nI (sd_pos d v)), .int (nI d), .ref mt])), (my, .inl (cI, 24, .inl (fun jq => nI (Y jq)))), (mz, .inl (cI, 24, .inl (fun jq => nI (Z jq)))), (mv, .inl (cZ, 2048, .inl (fun jq => bI (wn jq)))), (mt, .inl (cI, 10, .inl T))] s.heap := hP
  have hl := lv_entry ([.ref om]) (n := 1) (Nat.le_of_ble_eq_true rfl)
  rw [lg_entry_eq]
  generalize (lg_sl ([.ref om]) ++ List.replicate (1 - (lg_sl ([.ref om])).length) Slot.unset).toArray = ls at hl ⊢
  have hl : lv_has ls 1 [(0, .ref om)] := hl
  refine lv_aload_n hx hb dX2_undo_0 rfl (lv_at hl 0 rfl) ?_
  refine va_get (D := D) (ci := 2) (v := .int (nI d)) (C := RX2) (T := TX2) (N := 14) hx hb ht inX2 hown hK hP 0 rfl rfl 12 (by decide) (ht _ wf_X2_set) (fun _ h9 => h9) rfl dX2_undo_1 ?_
  refine lv_if_ne (tgt := 9) hx hb dX2_undo_4 rfl (fun h1 => ?_) (fun h1 => ?_)
  · have h1 : ¬ d = 0 := fun h9 => h1 ((nI_z (by omega)).mpr h9)
    omega
  · have h1 : d = 0 := (nI_z (by omega)).mp h1
    refine lv_iconst (v := nI 0) hx hb dX2_undo_7 (by decide) ?_
    exact W.zret hx hb hr rfl (fun t ht2 _ => ⟨hw_ret (rfl), ht2⟩) (fun _ h => by cases h) dX2_undo_8

set_option maxHeartbeats 4000000 in
set_option maxRecDepth 100000 in
theorem m_undo (l : Launch) (D : va_G) (cI cZ : ClassId) (om my mz mv mt n a q e0 v u1 u2 : Nat) (kn mr : Bool) (sk : Int32) (Y Z : Nat → Nat) (T : Nat → Int32) (wn : Nat → Bool) (ok : dOk n a q (e0 + 1) v Y Z) (sz : Nat) : Met l yX2_undo (kX2_undo :: aW) { frames := 0, cells := 0, slots := 0, locals := 0 } (wPre [.ref om] D [(om, .inr (2, [.int (nI n), .int (nI a), .int (nI q), .ref my, .ref mz, .int (bI kn), .int sk, .int (bI mr), .int (nI u1), .int (nI u2), .ref mv, .int (nI (sd_pos (e0 + 1) v)), .int (nI (e0 + 1)), .ref mt])), (my, .inl (cI, 24, .inl (fun jq => nI (Y jq)))), (mz, .inl (cI, 24, .inl (fun jq => nI (Z jq)))), (mv, .inl (cZ, 2048, .inl (fun jq => bI (wn jq)))), (mt, .inl (cI, 10, .inl T))] [(cI, .int), (cZ, .boolean)] sz) (wQ (some (.int (bI true))) D [(om, .inr (2, [.int (nI n), .int (nI a), .int (nI q), .ref my, .ref mz, .int (bI kn), .int sk, .int (bI mr), .int (nI u1), .int (nI u2), .ref mv, .int (nI (sd_pos e0 (v % 2 ^ e0))), .int (nI e0), .ref mt])), (my, .inl (cI, 24, .inl (fun jq => nI (Y jq)))), (mz, .inl (cI, 24, .inl (fun jq => nI (Z jq)))), (mv, .inl (cZ, 2048, .inl (fun jq => bI (wn jq)))), (mt, .inl (cI, 10, .inl T))] (va_A [(om, .inr (2, [.int (nI n), .int (nI a), .int (nI q), .ref my, .ref mz, .int (bI kn), .int sk, .int (bI mr), .int (nI u1), .int (nI u2), .ref mv, .int (nI (sd_pos (e0 + 1) v)), .int (nI (e0 + 1)), .ref mt])), (my, .inl (cI, 24, .inl (fun jq => nI (Y jq)))), (mz, .inl (cI, 24, .inl (fun jq => nI (Z jq)))), (mv, .inl (cZ, 2048, .inl (fun jq => bI (wn jq)))), (mt, .inl (cI, 10, .inl T))] sz)) 0 0 (va_A [(om, .inr (2, [.int (nI n), .int (nI a), .int (nI q), .ref my, .ref mz, .int (bI kn), .int sk, .int (bI mr), .int (nI u1), .int (nI u2), .ref mv, .int (nI (sd_pos (e0 + 1) v)), .int (nI (e0 + 1)), .ref mt])), (my, .inl (cI, 24, .inl (fun jq => nI (Y jq)))), (mz, .inl (cI, 24, .inl (fun jq => nI (Z jq)))), (mv, .inl (cZ, 2048, .inl (fun jq => bI (wn jq)))), (mt, .inl (cI, 10, .inl T))] sz) := by
  obtain ⟨hn1, hn, ha, h5, hq, hY, hZ, hd, hv⟩ := id ok
  have h2n := hw_p10 hn
  refine Met.ofW (cc := cX2_undo) (maxL := 1) (ret := (some .boolean)) (by decide) rfl ?_
  intro p e s m args below meth c s₁ Bo hml hpre
  obtain ⟨rfl, hsz, hP, hK, hN, hD0⟩ := hpre
  subst hsz
  have hD := hD0.self (sz := s.heap.size)
  generalize hAe : va_A [(om, .inr (2, [.int (nI n), .int (nI a), .int (nI q), .ref my, .ref mz, .int (bI kn), .int sk, .int (bI mr), .int (nI u1), .int (nI u2), .ref mv, .int (nI (sd_pos (e0 + 1) v)), .int (nI (e0 + 1)), .ref mt])), (my, .inl (cI, 24, .inl (fun jq => nI (Y jq)))), (mz, .inl (cI, 24, .inl (fun jq => nI (Z jq)))), (mv, .inl (cZ, 2048, .inl (fun jq => bI (wn jq)))), (mt, .inl (cI, 10, .inl T))] s.heap.size = A at hD ⊢
  have hA : ∀ q : Nat, s.heap.size ≤ q → A q := fun q h => by rw [← hAe]; exact Or.inr h
  have hS : va_S A s.heap s.heap [] := va_S.rf
  have hx := Bo.exec
  have hb := Bo.bytes
  have hr := Bo.returns
  have hts := atoms_spec (ws := kX2_undo :: aW) Bo.pre
  have ht : ∀ w ∈ aW, w.before _ s = true := fun w h => hts w (List.mem_cons_of_mem _ h)
  have hown : s.vm.findClass RX2 = some m.cls := findClass_of_methodNamed Bo.named
  have hlocks := Bo.notSynchronized
  have hP : va_P D clS [(om, .inr (2, [.int (nI n), .int (nI a), .int (nI q), .ref my, .ref mz, .int (bI kn), .int sk, .int (bI mr), .int (nI u1), .int (nI u2), .ref mv, .int (nI (sd_pos (e0 + 1) v)), .int (nI (e0 + 1)), .ref mt])), (my, .inl (cI, 24, .inl (fun jq => nI (Y jq)))), (mz, .inl (cI, 24, .inl (fun jq => nI (Z jq)))), (mv, .inl (cZ, 2048, .inl (fun jq => bI (wn jq)))), (mt, .inl (cI, 10, .inl T))] s.heap := hP
  have hl := lv_entry ([.ref om]) (n := 1) (Nat.le_of_ble_eq_true rfl)
  rw [lg_entry_eq]
  generalize (lg_sl ([.ref om]) ++ List.replicate (1 - (lg_sl ([.ref om])).length) Slot.unset).toArray = ls at hl ⊢
  have hl : lv_has ls 1 [(0, .ref om)] := hl
  have hpk := sd_pos_k (v := v) hd h2n
  refine lv_aload_n hx hb dX2_undo_0 rfl (lv_at hl 0 rfl) ?_
  refine va_get (D := D) (ci := 2) (v := .int (nI (e0 + 1))) (C := RX2) (T := TX2) (N := 14) hx hb ht inX2 hown hK hP 0 rfl rfl 12 (by decide) (ht _ wf_X2_set) (fun _ h9 => h9) rfl dX2_undo_1 ?_
  refine lv_if_ne (tgt := 9) hx hb dX2_undo_4 rfl (fun h1 => ?_) (fun h1 => ?_)
  · have h1 : ¬ e0 + 1 = 0 := fun h9 => h1 ((nI_z (by omega)).mpr h9)
    refine lv_aload_n hx hb dX2_undo_9 rfl (lv_at hl 0 rfl) ?_
    refine lv_aload_n hx hb dX2_undo_10 rfl (lv_at hl 0 rfl) ?_
    refine va_get (D := D) (ci := 2) (v := .int (nI (sd_pos (e0 + 1) v))) (C := RX2) (T := TX2) (N := 14) hx hb ht inX2 hown hK hP 0 rfl rfl 11 (by decide) (ht _ wf_X2_position) (fun _ h9 => h9) rfl dX2_undo_11 ?_
    refine lv_iconst (v := nI 2) hx hb dX2_undo_14 (by decide) ?_
    refine lv_idiv hx hb dX2_undo_15 (by decide) ?_
    refine lv_nm (y := nI (sd_pos e0 (v % 2 ^ e0))) ((pk_div (by omega) (by decide) (by decide)).trans (congrArg nI (sd_pos_undo e0 v))) ?_
    refine va_put (D := D) (ci := 2) (v := .int (nI (sd_pos e0 (v % 2 ^ e0)))) (ty := .int) (C := RX2) (T := TX2) (N := 14) hx hb ht inX2 tyX2 tyX2_ok nmX2 hown hK hP hD hS 0 rfl rfl 11 (by decide) (ht _ wf_X2_position) (fun _ h9 => h9) rfl (by decide +kernel) rfl rfl (Nat.le_of_ble_eq_true rfl) dX2_undo_16 (fun H locs hP hD hS => ?_)
    have hP : va_P D clS [(om, .inr (2, [.int (nI n), .int (nI a), .int (nI q), .ref my, .ref mz, .int (bI kn), .int sk, .int (bI mr), .int (nI u1), .int (nI u2), .ref mv, .int (nI (sd_pos e0 (v % 2 ^ e0))), .int (nI (e0 + 1)), .ref mt])), (my, .inl (cI, 24, .inl (fun jq => nI (Y jq)))), (mz, .inl (cI, 24, .inl (fun jq => nI (Z jq)))), (mv, .inl (cZ, 2048, .inl (fun jq => bI (wn jq)))), (mt, .inl (cI, 10, .inl T))] H := hP
    have hD : va_D A [(om, .inr (2, [.int (nI n), .int (nI a), .int (nI q), .ref my, .ref mz, .int (bI kn), .int sk, .int (bI mr), .int (nI u1), .int (nI u2), .ref mv, .int (nI (sd_pos e0 (v % 2 ^ e0))), .int (nI (e0 + 1)), .ref mt])), (my, .inl (cI, 24, .inl (fun jq => nI (Y jq)))), (mz, .inl (cI, 24, .inl (fun jq => nI (Z jq)))), (mv, .inl (cZ, 2048, .inl (fun jq => bI (wn jq)))), (mt, .inl (cI, 10, .inl T))] := hD
    refine lv_aload_n hx hb dX2_undo_19 rfl (lv_at hl 0 rfl) ?_
    refine lv_dup hx hb dX2_undo_20 rfl ?_
    refine va_get (D := D) (ci := 2) (v := .int (nI (e0 + 1))) (C := RX2) (T := TX2) (N := 14) hx hb ht inX2 hown hK hP 0 rfl rfl 12 (by decide) (ht _ wf_X2_set) (fun _ h9 => h9) rfl dX2_undo_21 ?_
    refine lv_iconst (v := nI 1) hx hb dX2_undo_24 (by decide) ?_
    refine lv_isub hx hb dX2_undo_25 ?_
    refine lv_nm (y := nI e0) (nI_pred _) ?_
    refine va_put (D := D) (ci := 2) (v := .int (nI e0)) (ty := .int) (C := RX2) (T := TX2) (N := 14) hx hb ht inX2 tyX2 tyX2_ok nmX2 hown hK hP hD hS 0 rfl rfl 12 (by decide) (ht _ wf_X2_set) (fun _ h9 => h9) rfl (by decide +kernel) rfl rfl (Nat.le_of_ble_eq_true rfl) dX2_undo_26 (fun H locs hP hD hS => ?_)
    have hP : va_P D clS [(om, .inr (2, [.int (nI n), .int (nI a), .int (nI q), .ref my, .ref mz, .int (bI kn), .int sk, .int (bI mr), .int (nI u1), .int (nI u2), .ref mv, .int (nI (sd_pos e0 (v % 2 ^ e0))), .int (nI e0), .ref mt])), (my, .inl (cI, 24, .inl (fun jq => nI (Y jq)))), (mz, .inl (cI, 24, .inl (fun jq => nI (Z jq)))), (mv, .inl (cZ, 2048, .inl (fun jq => bI (wn jq)))), (mt, .inl (cI, 10, .inl T))] H := hP
    have hD : va_D A [(om, .inr (2, [.int (nI n), .int (nI a), .int (nI q), .ref my, .ref mz, .int (bI kn), .int sk, .int (bI mr), .int (nI u1), .int (nI u2), .ref mv, .int (nI (sd_pos e0 (v % 2 ^ e0))), .int (nI e0), .ref mt])), (my, .inl (cI, 24, .inl (fun jq => nI (Y jq)))), (mz, .inl (cI, 24, .inl (fun jq => nI (Z jq)))), (mv, .inl (cZ, 2048, .inl (fun jq => bI (wn jq)))), (mt, .inl (cI, 10, .inl T))] := hD
    refine lv_iconst (v := nI 1) hx hb dX2_undo_29 (by decide) ?_
    exact W.zret hx hb hr rfl (fun t ht2 _ => ⟨hw_ret (rfl), by rw [ht2]; exact hP, hS.F ht2⟩) hS.2.2 dX2_undo_30
  · have h1 : e0 + 1 = 0 := (nI_z (by omega)).mp h1
    omega

set_option maxHeartbeats 4000000 in
set_option maxRecDepth 100000 in
theorem m_claim_no (l : Launch) (D : va_G) (cI cZ : ClassId) (om my mz mv mt n a q d v u1 u2 : Nat) (kn mr : Bool) (sk : Int32) (Y Z : Nat → Nat) (T : Nat → Int32) (wn : Nat → Bool) (ok : dOk n a q d v Y Z) (x tb : Int32) (hno : ¬ (uN x < n ∧ a.testBit (uN x) = false)) : Met l yX2_claim (kX2_claim :: aW) { frames := 2, cells := 0, slots := 0, locals := 42 } (rPre [.ref om, .int x, .int tb] D [(om, .inr (2, [.int (nI n), .int (nI a), .int (nI q), .ref my, .ref mz, .int (bI kn), .int sk, .int (bI mr), .int (nI u1), .int (nI u2), .ref mv, .int (nI (sd_pos d v)), .int (nI d), .ref mt])), (my, .inl (cI, 24, .inl (fun jq => nI (Y jq)))), (mz, .inl (cI, 24, .inl (fun jq => nI (Z jq)))), (mv, .inl (cZ, 2048, .inl (fun jq => bI (wn jq)))), (mt, .inl (cI, 10, .inl T))] [(cI, .int), (cZ, .boolean)]) (QcRead (bI false)) 0 0 (fun _ => False) := by
  obtain ⟨hn1, hn, ha, h5, hq, hY, hZ, hd, hv⟩ := id ok
  have h2n := hw_p10 hn
  refine Met.ofW (cc := cX2_claim) (maxL := 3) (ret := (some .boolean)) (by decide) rfl ?_
  intro p e s m args below meth c s₁ Bo hml hpre
  obtain ⟨rfl, hP, hK, hN⟩ := hpre
  have hx := Bo.exec
  have hb := Bo.bytes
  have hr := Bo.returns
  have hts := atoms_spec (ws := kX2_claim :: aW) Bo.pre
  have ht : ∀ w ∈ aW, w.before _ s = true := fun w h => hts w (List.mem_cons_of_mem _ h)
  have hown : s.vm.findClass RX2 = some m.cls := findClass_of_methodNamed Bo.named
  have hlocks := Bo.notSynchronized
  have hP : va_P D clS [(om, .inr (2, [.int (nI n), .int (nI a), .int (nI q), .ref my, .ref mz, .int (bI kn), .int sk, .int (bI mr), .int (nI u1), .int (nI u2), .ref mv, .int (nI (sd_pos d v)), .int (nI d), .ref mt])), (my, .inl (cI, 24, .inl (fun jq => nI (Y jq)))), (mz, .inl (cI, 24, .inl (fun jq => nI (Z jq)))), (mv, .inl (cZ, 2048, .inl (fun jq => bI (wn jq)))), (mt, .inl (cI, 10, .inl T))] s.heap := hP
  have hl := lv_entry ([.ref om, .int x, .int tb]) (n := 3) (Nat.le_of_ble_eq_true rfl)
  rw [lg_entry_eq]
  generalize (lg_sl ([.ref om, .int x, .int tb]) ++ List.replicate (3 - (lg_sl ([.ref om, .int x, .int tb])).length) Slot.unset).toArray = ls at hl ⊢
  have hl : lv_has ls 3 [(0, .ref om), (1, .int x), (2, .int tb)] := hl
  refine lv_aload_n hx hb dX2_claim_0 rfl (lv_at hl 0 rfl) ?_
  refine lv_iload_n hx hb dX2_claim_1 rfl (lv_at hl 1 rfl) ?_
  refine hw_callR (va_runV (b := om) (As := [.int x]) (rest := []) ⟨hx, hb, hml, hown, ht⟩ (m_noEves l D cI cZ om my mz mv mt n a q d v u1 u2 kn mr sk Y Z T wn ok x) (cwV 1 ht (gV wm_X2_X2_noEves wi_X2_noEves ws_X2_noEves wn_X2 wc_X2_noEves) rfl rfl rfl (by decide +kernel) ⟨Nat.le_of_ble_eq_true rfl, Nat.le_of_ble_eq_true rfl⟩) (rPre_V 0 hP hK hN rfl rfl) rfl rfl hl.1 rfl (lv_room (Nat.le_of_ble_eq_true rfl)) dX2_claim_2 ⟨Nat.zero_le _, Nat.zero_le _⟩) ?_
  refine lv_if_eq (tgt := 10) hx hb dX2_claim_5 rfl (fun h1 => ?_) (fun h1 => ?_)
  · have h1 : (!(decide (uN x < n) && !a.testBit (uN x))) = false := (bI_eq0 _).mp h1
    exact absurd (hw_ev_t (hw_nf h1)) hno
  · have h1 : (!(decide (uN x < n) && !a.testBit (uN x))) = true := bI_ne0 h1
    refine lv_iconst (v := nI 0) hx hb dX2_claim_8 (by decide) ?_
    exact W.zret hx hb hr rfl (fun t ht2 _ => ⟨hw_ret (rfl), ht2⟩) (fun _ h => by cases h) dX2_claim_9

set_option maxHeartbeats 4000000 in
set_option maxRecDepth 100000 in
theorem m_claim (l : Launch) (D : va_G) (cI cZ : ClassId) (om my mz mv mt n a q d v u1 u2 : Nat) (kn mr : Bool) (sk : Int32) (Y Z : Nat → Nat) (T : Nat → Int32) (wn : Nat → Bool) (ok : dOk n a q d v Y Z) (sz : Nat) (i : Nat) (tb : Int32) (hi : i < n) (hE : a.testBit i = false) : Met l yX2_claim (kX2_claim :: aW) { frames := 2, cells := 0, slots := 0, locals := 42 } (wPre [.ref om, .int (nI i), .int tb] D [(om, .inr (2, [.int (nI n), .int (nI a), .int (nI q), .ref my, .ref mz, .int (bI kn), .int sk, .int (bI mr), .int (nI u1), .int (nI u2), .ref mv, .int (nI (sd_pos d v)), .int (nI d), .ref mt])), (my, .inl (cI, 24, .inl (fun jq => nI (Y jq)))), (mz, .inl (cI, 24, .inl (fun jq => nI (Z jq)))), (mv, .inl (cZ, 2048, .inl (fun jq => bI (wn jq)))), (mt, .inl (cI, 10, .inl T))] [(cI, .int), (cZ, .boolean)] sz) (wQ (some (.int (bI true))) D [(om, .inr (2, [.int (nI n), .int (nI a), .int (nI q), .ref my, .ref mz, .int (bI kn), .int sk, .int (bI mr), .int (nI u1), .int (nI u2), .ref mv, .int (nI (sd_pos d v)), .int (nI d), .ref mt])), (my, .inl (cI, 24, .inl (fun jq => nI (Y jq)))), (mz, .inl (cI, 24, .inl (fun jq => nI (Z jq)))), (mv, .inl (cZ, 2048, .inl (fun jq => bI (wn jq)))), (mt, .inl (cI, 10, .inl (upd T i tb)))] (va_A [(om, .inr (2, [.int (nI n), .int (nI a), .int (nI q), .ref my, .ref mz, .int (bI kn), .int sk, .int (bI mr), .int (nI u1), .int (nI u2), .ref mv, .int (nI (sd_pos d v)), .int (nI d), .ref mt])), (my, .inl (cI, 24, .inl (fun jq => nI (Y jq)))), (mz, .inl (cI, 24, .inl (fun jq => nI (Z jq)))), (mv, .inl (cZ, 2048, .inl (fun jq => bI (wn jq)))), (mt, .inl (cI, 10, .inl T))] sz)) 0 0 (va_A [(om, .inr (2, [.int (nI n), .int (nI a), .int (nI q), .ref my, .ref mz, .int (bI kn), .int sk, .int (bI mr), .int (nI u1), .int (nI u2), .ref mv, .int (nI (sd_pos d v)), .int (nI d), .ref mt])), (my, .inl (cI, 24, .inl (fun jq => nI (Y jq)))), (mz, .inl (cI, 24, .inl (fun jq => nI (Z jq)))), (mv, .inl (cZ, 2048, .inl (fun jq => bI (wn jq)))), (mt, .inl (cI, 10, .inl T))] sz) := by
  obtain ⟨hn1, hn, ha, h5, hq, hY, hZ, hd, hv⟩ := id ok
  have h2n := hw_p10 hn
  refine Met.ofW (cc := cX2_claim) (maxL := 3) (ret := (some .boolean)) (by decide) rfl ?_
  intro p e s m args below meth c s₁ Bo hml hpre
  obtain ⟨rfl, hsz, hP, hK, hN, hD0⟩ := hpre
  subst hsz
  have hD := hD0.self (sz := s.heap.size)
  generalize hAe : va_A [(om, .inr (2, [.int (nI n), .int (nI a), .int (nI q), .ref my, .ref mz, .int (bI kn), .int sk, .int (bI mr), .int (nI u1), .int (nI u2), .ref mv, .int (nI (sd_pos d v)), .int (nI d), .ref mt])), (my, .inl (cI, 24, .inl (fun jq => nI (Y jq)))), (mz, .inl (cI, 24, .inl (fun jq => nI (Z jq)))), (mv, .inl (cZ, 2048, .inl (fun jq => bI (wn jq)))), (mt, .inl (cI, 10, .inl T))] s.heap.size = A at hD ⊢
  have hA : ∀ q : Nat, s.heap.size ≤ q → A q := fun q h => by rw [← hAe]; exact Or.inr h
  have hS : va_S A s.heap s.heap [] := va_S.rf
  have hx := Bo.exec
  have hb := Bo.bytes
  have hr := Bo.returns
  have hts := atoms_spec (ws := kX2_claim :: aW) Bo.pre
  have ht : ∀ w ∈ aW, w.before _ s = true := fun w h => hts w (List.mem_cons_of_mem _ h)
  have hown : s.vm.findClass RX2 = some m.cls := findClass_of_methodNamed Bo.named
  have hlocks := Bo.notSynchronized
  have hP : va_P D clS [(om, .inr (2, [.int (nI n), .int (nI a), .int (nI q), .ref my, .ref mz, .int (bI kn), .int sk, .int (bI mr), .int (nI u1), .int (nI u2), .ref mv, .int (nI (sd_pos d v)), .int (nI d), .ref mt])), (my, .inl (cI, 24, .inl (fun jq => nI (Y jq)))), (mz, .inl (cI, 24, .inl (fun jq => nI (Z jq)))), (mv, .inl (cZ, 2048, .inl (fun jq => bI (wn jq)))), (mt, .inl (cI, 10, .inl T))] s.heap := hP
  have hl := lv_entry ([.ref om, .int (nI i), .int tb]) (n := 3) (Nat.le_of_ble_eq_true rfl)
  rw [lg_entry_eq]
  generalize (lg_sl ([.ref om, .int (nI i), .int tb]) ++ List.replicate (3 - (lg_sl ([.ref om, .int (nI i), .int tb])).length) Slot.unset).toArray = ls at hl ⊢
  have hl : lv_has ls 3 [(0, .ref om), (1, .int (nI i)), (2, .int tb)] := hl
  refine lv_aload_n hx hb dX2_claim_0 rfl (lv_at hl 0 rfl) ?_
  refine lv_iload_n hx hb dX2_claim_1 rfl (lv_at hl 1 rfl) ?_
  refine hw_callR (va_runV (b := om) (As := [.int (nI i)]) (rest := []) ⟨hx, hb, hml, hown, ht⟩ (m_noEves l D cI cZ om my mz mv mt n a q d v u1 u2 kn mr sk Y Z T wn ok (nI i)) (cwV 1 ht (gV wm_X2_X2_noEves wi_X2_noEves ws_X2_noEves wn_X2 wc_X2_noEves) rfl rfl rfl (by decide +kernel) ⟨Nat.le_of_ble_eq_true rfl, Nat.le_of_ble_eq_true rfl⟩) (rPre_V 0 hP hK hN rfl rfl) rfl rfl hl.1 rfl (lv_room (Nat.le_of_ble_eq_true rfl)) dX2_claim_2 ⟨Nat.zero_le _, Nat.zero_le _⟩) ?_
  refine lv_nm (y := bI false) (congrArg bI (by rw [hw_ev0 hi (by omega), hE]; rfl)) ?_
  refine lv_if_eq (tgt := 10) hx hb dX2_claim_5 rfl (fun _ => ?_) (fun hc => absurd (show false = true from bI_ne0 hc) (by decide))
  refine lv_aload_n hx hb dX2_claim_10 rfl (lv_at hl 0 rfl) ?_
  refine va_get (D := D) (ci := 2) (v := .ref mt) (C := RX2) (T := TX2) (N := 14) hx hb ht inX2 hown hK hP 0 rfl rfl 13 (by decide) (ht _ wf_X2_tables) (fun _ h9 => h9) rfl dX2_claim_11 ?_
  refine lv_iload_n hx hb dX2_claim_14 rfl (lv_at hl 1 rfl) ?_
  refine lv_iload_n hx hb dX2_claim_15 rfl (lv_at hl 2 rfl) ?_
  refine na_iast (f := T) (x := tb) hx hb hK hP hD hS 4 0 rfl rfl (j := i) (by omega) (by omega) dX2_claim_16 (fun H locs hP hD hS => ?_)
  have hP : va_P D clS [(om, .inr (2, [.int (nI n), .int (nI a), .int (nI q), .ref my, .ref mz, .int (bI kn), .int sk, .int (bI mr), .int (nI u1), .int (nI u2), .ref mv, .int (nI (sd_pos d v)), .int (nI d), .ref mt])), (my, .inl (cI, 24, .inl (fun jq => nI (Y jq)))), (mz, .inl (cI, 24, .inl (fun jq => nI (Z jq)))), (mv, .inl (cZ, 2048, .inl (fun jq => bI (wn jq)))), (mt, .inl (cI, 10, .inl (upd T i tb)))] H := hP
  have hD : va_D A [(om, .inr (2, [.int (nI n), .int (nI a), .int (nI q), .ref my, .ref mz, .int (bI kn), .int sk, .int (bI mr), .int (nI u1), .int (nI u2), .ref mv, .int (nI (sd_pos d v)), .int (nI d), .ref mt])), (my, .inl (cI, 24, .inl (fun jq => nI (Y jq)))), (mz, .inl (cI, 24, .inl (fun jq => nI (Z jq)))), (mv, .inl (cZ, 2048, .inl (fun jq => bI (wn jq)))), (mt, .inl (cI, 10, .inl (upd T i tb)))] := hD
  refine lv_iconst (v := nI 1) hx hb dX2_claim_17 (by decide) ?_
  exact W.zret hx hb hr rfl (fun t ht2 _ => ⟨hw_ret (rfl), by rw [ht2]; exact hP, hS.F ht2⟩) hS.2.2 dX2_claim_18

set_option maxHeartbeats 4000000 in
set_option maxRecDepth 100000 in
theorem m_claimed (l : Launch) (D : va_G) (cI cZ : ClassId) (om my mz mv mt n a q d v u1 u2 : Nat) (kn mr : Bool) (sk : Int32) (Y Z : Nat → Nat) (T : Nat → Int32) (wn : Nat → Bool) (ok : dOk n a q d v Y Z) (x y0 : Int32) : Met l yX2_claimed (kX2_claimed :: aW) { frames := 2, cells := 0, slots := 0, locals := 44 } (rPre [.ref om, .int x, .int y0] D [(om, .inr (2, [.int (nI n), .int (nI a), .int (nI q), .ref my, .ref mz, .int (bI kn), .int sk, .int (bI mr), .int (nI u1), .int (nI u2), .ref mv, .int (nI (sd_pos d v)), .int (nI d), .ref mt])), (my, .inl (cI, 24, .inl (fun jq => nI (Y jq)))), (mz, .inl (cI, 24, .inl (fun jq => nI (Z jq)))), (mv, .inl (cZ, 2048, .inl (fun jq => bI (wn jq)))), (mt, .inl (cI, 10, .inl T))] [(cI, .int), (cZ, .boolean)]) (QcRead (if (uN x < n ∧ a.testBit (uN x) = false) ∧ uN y0 < 2 ^ sd_ct a (uN x) then bI ((uN (T (uN x))).testBit (uN y0)) else 0)) 0 0 (fun _ => False) := by
  obtain ⟨hn1, hn, ha, h5, hq, hY, hZ, hd, hv⟩ := id ok
  have h2n := hw_p10 hn
  refine Met.ofW (cc := cX2_claimed) (maxL := 3) (ret := (some .int)) (by decide) rfl ?_
  intro p e s m args below meth c s₁ Bo hml hpre
  obtain ⟨rfl, hP, hK, hN⟩ := hpre
  have hx := Bo.exec
  have hb := Bo.bytes
  have hr := Bo.returns
  have hts := atoms_spec (ws := kX2_claimed :: aW) Bo.pre
  have ht : ∀ w ∈ aW, w.before _ s = true := fun w h => hts w (List.mem_cons_of_mem _ h)
  have hown : s.vm.findClass RX2 = some m.cls := findClass_of_methodNamed Bo.named
  have hlocks := Bo.notSynchronized
  have hP : va_P D clS [(om, .inr (2, [.int (nI n), .int (nI a), .int (nI q), .ref my, .ref mz, .int (bI kn), .int sk, .int (bI mr), .int (nI u1), .int (nI u2), .ref mv, .int (nI (sd_pos d v)), .int (nI d), .ref mt])), (my, .inl (cI, 24, .inl (fun jq => nI (Y jq)))), (mz, .inl (cI, 24, .inl (fun jq => nI (Z jq)))), (mv, .inl (cZ, 2048, .inl (fun jq => bI (wn jq)))), (mt, .inl (cI, 10, .inl T))] s.heap := hP
  have hl := lv_entry ([.ref om, .int x, .int y0]) (n := 3) (Nat.le_of_ble_eq_true rfl)
  rw [lg_entry_eq]
  generalize (lg_sl ([.ref om, .int x, .int y0]) ++ List.replicate (3 - (lg_sl ([.ref om, .int x, .int y0])).length) Slot.unset).toArray = ls at hl ⊢
  have hl : lv_has ls 3 [(0, .ref om), (1, .int x), (2, .int y0)] := hl
  refine lv_aload_n hx hb dX2_claimed_0 rfl (lv_at hl 0 rfl) ?_
  refine lv_iload_n hx hb dX2_claimed_1 rfl (lv_at hl 1 rfl) ?_
  refine hw_callR (va_runV (b := om) (As := [.int x]) (rest := []) ⟨hx, hb, hml, hown, ht⟩ (m_noEves l D cI cZ om my mz mv mt n a q d v u1 u2 kn mr sk Y Z T wn ok x) (cwV 1 ht (gV wm_X2_X2_noEves wi_X2_noEves ws_X2_noEves wn_X2 wc_X2_noEves) rfl rfl rfl (by decide +kernel) ⟨Nat.le_of_ble_eq_true rfl, Nat.le_of_ble_eq_true rfl⟩) (rPre_V 0 hP hK hN rfl rfl) rfl rfl hl.1 rfl (lv_room (Nat.le_of_ble_eq_true rfl)) dX2_claimed_2 ⟨Nat.zero_le _, Nat.zero_le _⟩) ?_
  refine lv_if_ne (tgt := 23) hx hb dX2_claimed_5 rfl (fun h1 => ?_) (fun h1 => ?_)
  · have h1 : (!(decide (uN x < n) && !a.testBit (uN x))) = true := bI_ne0 h1
    refine lv_iconst (v := nI 0) hx hb dX2_claimed_23 (by decide) ?_
    exact W.iret hx hb hr (fun t ht2 _ => ⟨hw_ret ((if_neg (fun h9 => hw_ev_f (hw_nt h1) h9.1)).symm), ht2⟩) (fun _ h => by cases h) dX2_claimed_24
  · have h1 : (!(decide (uN x < n) && !a.testBit (uN x))) = false := (bI_eq0 _).mp h1
    have hE := hw_ev_t (x := uN x) (n := n) (b := a.testBit (uN x)) (hw_nf h1)
    have h32 := sd_p32 h5 (v := uN x) (by omega)
    have hc5 := sd_ct_mono a (v := uN x) (w := n) (by omega)
    refine lv_iload_n hx hb dX2_claimed_8 rfl (lv_at hl 2 rfl) ?_
    refine lv_if_lt (tgt := 23) hx hb dX2_claimed_9 rfl (fun h2 => ?_) (fun h2 => ?_)
    · refine lv_iconst (v := nI 0) hx hb dX2_claimed_23 (by decide) ?_
      exact W.iret hx hb hr (fun t ht2 _ => ⟨hw_ret ((if_neg (fun h9 => (hw_pos (by omega) h9.2).1 h2)).symm), ht2⟩) (fun _ h => by cases h) dX2_claimed_24
    · refine lv_iload_n hx hb dX2_claimed_12 rfl (lv_at hl 2 rfl) ?_
      refine lv_iconst (v := nI 1) hx hb dX2_claimed_13 (by decide) ?_
      refine lv_aload_n hx hb dX2_claimed_14 rfl (lv_at hl 0 rfl) ?_
      refine lv_iload_n hx hb dX2_claimed_15 rfl (lv_at hl 1 rfl) ?_
      refine lv_nm (y := nI (uN x)) ((nI_uN x).symm) ?_
      refine hw_callR (va_runV (b := om) (As := [.int (nI (uN x))]) (rest := [.int (nI 1), .int y0]) ⟨hx, hb, hml, hown, ht⟩ (m_before l D cI cZ om my mz mv mt n a q d v u1 u2 kn mr sk Y Z T wn ok (uN x) (by omega)) (cwV 1 ht (gV wm_X2_X2_before wi_X2_before ws_X2_before wn_X2 wc_X2_before) rfl rfl rfl (by decide +kernel) ⟨Nat.le_of_ble_eq_true rfl, Nat.le_of_ble_eq_true rfl⟩) (rPre_V 0 hP hK hN rfl rfl) rfl rfl hl.1 rfl (lv_room (Nat.le_of_ble_eq_true rfl)) dX2_claimed_16 ⟨Nat.zero_le _, Nat.zero_le _⟩) ?_
      refine lv_ishl hx hb dX2_claimed_19 ?_
      refine lv_nm (y := nI (2 ^ (sd_ct a (uN x)))) (hw_shl1' (by omega)) ?_
      refine lv_icmp_lt (tgt := 25) hx hb dX2_claimed_20 rfl (fun h3 => ?_) (fun h3 => ?_)
      · have hy := hw_in' (by omega) h2 h3
        refine lv_aload_n hx hb dX2_claimed_25 rfl (lv_at hl 0 rfl) ?_
        refine va_get (D := D) (ci := 2) (v := .ref mt) (C := RX2) (T := TX2) (N := 14) hx hb ht inX2 hown hK hP 0 rfl rfl 13 (by decide) (ht _ wf_X2_tables) (fun _ h9 => h9) rfl dX2_claimed_26 ?_
        refine lv_iload_n hx hb dX2_claimed_29 rfl (lv_at hl 1 rfl) ?_
        refine lv_nm (y := nI (uN x)) ((nI_uN x).symm) ?_
        refine na_iald (f := T) hx hb hK hP 4 0 rfl rfl (j := uN x) (by omega) (by omega) dX2_claimed_30 ?_
        refine lv_iload_n hx hb dX2_claimed_31 rfl (lv_at hl 2 rfl) ?_
        refine lv_nm (y := nI (uN y0)) ((nI_uN y0).symm) ?_
        refine lv_ishr hx hb dX2_claimed_32 ?_
        refine lv_iconst (v := nI 1) hx hb dX2_claimed_33 (by decide) ?_
        refine lv_iand hx hb dX2_claimed_34 ?_
        refine lv_nm (y := bI ((uN (T (uN x))).testBit (uN y0))) (hw_sbit _ (by omega)) ?_
        exact W.iret hx hb hr (fun t ht2 _ => ⟨hw_ret ((if_pos ⟨hE, hy⟩).symm), ht2⟩) (fun _ h => by cases h) dX2_claimed_35
      · refine lv_iconst (v := nI 0) hx hb dX2_claimed_23 (by decide) ?_
        exact W.iret hx hb hr (fun t ht2 _ => ⟨hw_ret ((if_neg (fun h9 => hw_big' (by omega) h3 h9.2)).symm), ht2⟩) (fun _ h => by cases h) dX2_claimed_24

set_option maxHeartbeats 4000000 in
set_option maxRecDepth 100000 in
theorem m_reached (l : Launch) (D : va_G) (cI cZ : ClassId) (om my mz mv mt n a q d v u1 u2 : Nat) (kn mr : Bool) (sk : Int32) (Y Z : Nat → Nat) (T : Nat → Int32) (wn : Nat → Bool) (ok : dOk n a q d v Y Z) (sm : Nat) (hsm : sm < 32) : Met l yX2_reached (kX2_reached :: aW) { frames := 2, cells := 0, slots := 0, locals := 44 } (rPre [.ref om, .int (nI sm)] D [(om, .inr (2, [.int (nI n), .int (nI a), .int (nI q), .ref my, .ref mz, .int (bI kn), .int sk, .int (bI mr), .int (nI u1), .int (nI u2), .ref mv, .int (nI (sd_pos d v)), .int (nI d), .ref mt])), (my, .inl (cI, 24, .inl (fun jq => nI (Y jq)))), (mz, .inl (cI, 24, .inl (fun jq => nI (Z jq)))), (mv, .inl (cZ, 2048, .inl (fun jq => bI (wn jq)))), (mt, .inl (cI, 10, .inl T))] [(cI, .int), (cZ, .boolean)]) (QcRead (nI (sd_pos n (sd_ac (sd_cl a T sm) n)))) 0 0 (fun _ => False) := by
  obtain ⟨hn1, hn, ha, h5, hq, hY, hZ, hd, hv⟩ := id ok
  have h2n := hw_p10 hn
  refine Met.ofW (cc := cX2_reached) (maxL := 6) (ret := (some .int)) (by decide) rfl ?_
  intro p e s m args below meth c s₁ Bo hml hpre
  obtain ⟨rfl, hP, hK, hN⟩ := hpre
  have hx := Bo.exec
  have hb := Bo.bytes
  have hr := Bo.returns
  have hts := atoms_spec (ws := kX2_reached :: aW) Bo.pre
  have ht : ∀ w ∈ aW, w.before _ s = true := fun w h => hts w (List.mem_cons_of_mem _ h)
  have hown : s.vm.findClass RX2 = some m.cls := findClass_of_methodNamed Bo.named
  have hlocks := Bo.notSynchronized
  have hP : va_P D clS [(om, .inr (2, [.int (nI n), .int (nI a), .int (nI q), .ref my, .ref mz, .int (bI kn), .int sk, .int (bI mr), .int (nI u1), .int (nI u2), .ref mv, .int (nI (sd_pos d v)), .int (nI d), .ref mt])), (my, .inl (cI, 24, .inl (fun jq => nI (Y jq)))), (mz, .inl (cI, 24, .inl (fun jq => nI (Z jq)))), (mv, .inl (cZ, 2048, .inl (fun jq => bI (wn jq)))), (mt, .inl (cI, 10, .inl T))] s.heap := hP
  have hl := lv_entry ([.ref om, .int (nI sm)]) (n := 6) (Nat.le_of_ble_eq_true rfl)
  rw [lg_entry_eq]
  generalize (lg_sl ([.ref om, .int (nI sm)]) ++ List.replicate (6 - (lg_sl ([.ref om, .int (nI sm)])).length) Slot.unset).toArray = ls at hl ⊢
  have hl : lv_has ls 6 [(0, .ref om), (1, .int (nI sm))] := hl
  refine lv_iconst (v := nI 1) hx hb dX2_reached_0 (by decide) ?_
  refine lv_istore_n hx hb dX2_reached_1 rfl hl (by decide) rfl (fun ls hl => ?_)
  have hl : lv_has ls 6 [(2, .int (nI 1)), (0, .ref om), (1, .int (nI sm))] := hl
  refine lv_iconst (v := nI 0) hx hb dX2_reached_2 (by decide) ?_
  refine lv_istore_n hx hb dX2_reached_3 rfl hl (by decide) rfl (fun ls hl => ?_)
  have hl : lv_has ls 6 [(3, .int (nI 0)), (2, .int (nI 1)), (0, .ref om), (1, .int (nI sm))] := hl
  have hl : lv_has ls 6 [(0, .ref om), (1, .int (nI sm)), (2, .int (nI 1)), (3, .int (nI 0))] := lv_sub hl [2, 3, 1, 0] rfl
  suffices lp : ∀ k : Nat, ∀ (i : Nat) (ls : Array Slot), (i + k = n) → lv_has ls 6 [(0, .ref om), (1, .int (nI sm)), (2, .int (nI (sd_pos i (sd_ac (sd_cl a T sm) i)))), (3, .int (nI i))] → W p l e (headSpec (kX2_reached :: aW) { frames := 2, cells := 0, slots := 0, locals := 44 }).room s m (([.ref om, .int (nI sm)] : List Value).toArray) below meth c s.heap [] 0 0 (MQ below (QcRead (nI (sd_pos n (sd_ac (sd_cl a T sm) n)))) (([.ref om, .int (nI sm)] : List Value).toArray) s 0 0 (fun _ => False)) (F0 m 4 ls []) by
    exact lp n 0 ls (by omega) hl
  intro k
  induction k with
  | zero =>
    intro i ls hi hl
    refine lv_iload_n hx hb dX2_reached_4 rfl (lv_at hl 3 rfl) ?_
    refine lv_aload_n hx hb dX2_reached_5 rfl (lv_at hl 0 rfl) ?_
    refine va_get (D := D) (ci := 2) (v := .int (nI n)) (C := RX2) (T := TX2) (N := 14) hx hb ht inX2 hown hK hP 0 rfl rfl 0 (by decide) (ht _ wf_X2_n) (fun _ h9 => h9) rfl dX2_reached_6 ?_
    refine lv_icmp_ge (tgt := 71) hx hb dX2_reached_9 rfl (fun _ => ?_) (fun hc => absurd (show ¬ (n ≤ i) from fun h9 => hc ((nI_leI (by omega) (by omega)).mpr h9)) (by omega))
    refine lv_iload_n hx hb dX2_reached_71 rfl (lv_at hl 2 rfl) ?_
    exact W.iret hx hb hr (fun t ht2 _ => ⟨hw_ret (by rw [show i = n by omega]), ht2⟩) (fun _ h => by cases h) dX2_reached_72
  | succ k ih =>
    intro i ls hi hl
    have hct := sd_ct_mono a (v := i) (w := n) (by omega)
    have hp0 := Nat.two_pow_pos (sd_ct a i)
    have h32 := sd_p32 h5 (v := i) (by omega)
    have hmd : sm % 2 ^ sd_ct a i < 2 ^ sd_ct a i := Nat.mod_lt _ (Nat.two_pow_pos _)
    refine lv_iload_n hx hb dX2_reached_4 rfl (lv_at hl 3 rfl) ?_
    refine lv_aload_n hx hb dX2_reached_5 rfl (lv_at hl 0 rfl) ?_
    refine va_get (D := D) (ci := 2) (v := .int (nI n)) (C := RX2) (T := TX2) (N := 14) hx hb ht inX2 hown hK hP 0 rfl rfl 0 (by decide) (ht _ wf_X2_n) (fun _ h9 => h9) rfl dX2_reached_6 ?_
    refine lv_icmp_ge (tgt := 71) hx hb dX2_reached_9 rfl (fun hc => absurd (show n ≤ i from (nI_leI (by omega) (by omega)).mp hc) (by omega)) (fun _ => ?_)
    refine lv_iload_n hx hb dX2_reached_12 rfl (lv_at hl 1 rfl) ?_
    refine lv_iconst (v := nI 1) hx hb dX2_reached_13 (by decide) ?_
    refine lv_aload_n hx hb dX2_reached_14 rfl (lv_at hl 0 rfl) ?_
    refine lv_iload_n hx hb dX2_reached_15 rfl (lv_at hl 3 rfl) ?_
    refine hw_callR (va_runV (b := om) (As := [.int (nI i)]) (rest := [.int (nI 1), .int (nI sm)]) ⟨hx, hb, hml, hown, ht⟩ (m_before l D cI cZ om my mz mv mt n a q d v u1 u2 kn mr sk Y Z T wn ok i (by omega)) (cwV 1 ht (gV wm_X2_X2_before wi_X2_before ws_X2_before wn_X2 wc_X2_before) rfl rfl rfl (by decide +kernel) ⟨Nat.le_of_ble_eq_true rfl, Nat.le_of_ble_eq_true rfl⟩) (rPre_V 0 hP hK hN rfl rfl) rfl rfl hl.1 rfl (lv_room (Nat.le_of_ble_eq_true rfl)) dX2_reached_16 ⟨Nat.zero_le _, Nat.zero_le _⟩) ?_
    refine lv_ishl hx hb dX2_reached_19 ?_
    refine lv_nm (y := nI (2 ^ (sd_ct a i))) (hw_shl1' (by omega)) ?_
    refine lv_iconst (v := nI 1) hx hb dX2_reached_20 (by decide) ?_
    refine lv_isub hx hb dX2_reached_21 ?_
    refine lv_nm (y := nI ((2 ^ (sd_ct a i)) - 1)) (pk_sub (by omega)) ?_
    refine lv_iand hx hb dX2_reached_22 ?_
    refine lv_nm (y := nI (sm &&& ((2 ^ (sd_ct a i)) - 1))) (hw_and _ _) ?_
    refine lv_nm (y := nI (sm % 2 ^ sd_ct a i)) (congrArg nI (Nat.and_two_pow_sub_one_eq_mod sm _)) ?_
    refine lv_istore hx hb dX2_reached_23 hl (by decide) rfl (fun ls hl => ?_)
    have hl : lv_has ls 6 [(4, .int (nI (sm % 2 ^ sd_ct a i))), (0, .ref om), (1, .int (nI sm)), (2, .int (nI (sd_pos i (sd_ac (sd_cl a T sm) i)))), (3, .int (nI i))] := hl
    refine lv_aload_n hx hb dX2_reached_25 rfl (lv_at hl 1 rfl) ?_
    refine lv_iload_n hx hb dX2_reached_26 rfl (lv_at hl 4 rfl) ?_
    refine hw_callR (va_runV (b := om) (As := [.int (nI i)]) (rest := []) ⟨hx, hb, hml, hown, ht⟩ (m_isAdams l D cI cZ om my mz mv mt n a q d v u1 u2 kn mr sk Y Z T wn ok i (by omega)) (cwV 1 ht (gV wm_X2_X2_isAdams wi_X2_isAdams ws_X2_isAdams wn_X2 wc_X2_isAdams) rfl rfl rfl (by decide +kernel) ⟨Nat.le_of_ble_eq_true rfl, Nat.le_of_ble_eq_true rfl⟩) (rPre_V 0 hP hK hN rfl rfl) rfl rfl hl.1 rfl (lv_room (Nat.le_of_ble_eq_true rfl)) dX2_reached_27 ⟨Nat.zero_le _, Nat.zero_le _⟩) ?_
    suffices mk9 : W p l e (headSpec (kX2_reached :: aW) { frames := 2, cells := 0, slots := 0, locals := 44 }).room s m (([.ref om, .int (nI sm)] : List Value).toArray) below meth c s.heap [] 0 0 (MQ below (QcRead (nI (sd_pos n (sd_ac (sd_cl a T sm) n)))) (([.ref om, .int (nI sm)] : List Value).toArray) s 0 0 (fun _ => False)) (F0 m 56 ls [.int (bI (sd_cl a T sm i (sd_ac (sd_cl a T sm) i)))]) by
      refine lv_if_eq (tgt := 45) hx hb dX2_reached_30 rfl (fun h1 => ?_) (fun h1 => ?_)
      · have h1 : (a.testBit i) = false := (bI_eq0 _).mp h1
        refine lv_aload_n hx hb dX2_reached_45 rfl (lv_at hl 1 rfl) ?_
        refine va_get (D := D) (ci := 2) (v := .ref mt) (C := RX2) (T := TX2) (N := 14) hx hb ht inX2 hown hK hP 0 rfl rfl 13 (by decide) (ht _ wf_X2_tables) (fun _ h9 => h9) rfl dX2_reached_46 ?_
        refine lv_iload_n hx hb dX2_reached_49 rfl (lv_at hl 4 rfl) ?_
        refine na_iald (f := T) hx hb hK hP 4 0 rfl rfl (j := i) (by omega) (by omega) dX2_reached_50 ?_
        refine lv_iload hx hb dX2_reached_51 (lv_at hl 0 rfl) ?_
        refine lv_ishr hx hb dX2_reached_53 ?_
        refine lv_iconst (v := nI 1) hx hb dX2_reached_54 (by decide) ?_
        refine lv_iand hx hb dX2_reached_55 ?_
        refine lv_nm (y := bI ((uN (T i)).testBit (sm % 2 ^ sd_ct a i))) (hw_sbit _ (by omega)) ?_
        refine lv_nm (y := bI (sd_cl a T sm i (sd_ac (sd_cl a T sm) i))) (congrArg bI (show sd_cl a T sm i (sd_ac (sd_cl a T sm) i) = (uN (T i)).testBit (sm % 2 ^ sd_ct a i) from sd_li_e h1).symm) ?_
        exact mk9
      · have h1 : (a.testBit i) = true := bI_ne0 h1
        refine lv_iload_n hx hb dX2_reached_33 rfl (lv_at hl 2 rfl) ?_
        refine lv_aload_n hx hb dX2_reached_34 rfl (lv_at hl 1 rfl) ?_
        refine lv_iload_n hx hb dX2_reached_35 rfl (lv_at hl 4 rfl) ?_
        refine hw_callR (va_runV (b := om) (As := [.int (nI i)]) (rest := [.int (nI sm)]) ⟨hx, hb, hml, hown, ht⟩ (m_before l D cI cZ om my mz mv mt n a q d v u1 u2 kn mr sk Y Z T wn ok i (by omega)) (cwV 1 ht (gV wm_X2_X2_before wi_X2_before ws_X2_before wn_X2 wc_X2_before) rfl rfl rfl (by decide +kernel) ⟨Nat.le_of_ble_eq_true rfl, Nat.le_of_ble_eq_true rfl⟩) (rPre_V 0 hP hK hN rfl rfl) rfl rfl hl.1 rfl (lv_room (Nat.le_of_ble_eq_true rfl)) dX2_reached_36 ⟨Nat.zero_le _, Nat.zero_le _⟩) ?_
        refine lv_ishr hx hb dX2_reached_39 ?_
        refine lv_iconst (v := nI 1) hx hb dX2_reached_40 (by decide) ?_
        refine lv_iand hx hb dX2_reached_41 ?_
        refine lv_nm (y := bI ((uN (nI sm)).testBit (sd_ct a i))) (hw_sbit _ (by omega)) ?_
        refine lv_nm (y := bI (sd_cl a T sm i (sd_ac (sd_cl a T sm) i))) (congrArg bI (by rw [uN_nI (by omega)]; exact (sd_li_a h1).symm)) ?_
        refine lv_goto (tgt := 56) hx hb dX2_reached_42 rfl ?_
        exact mk9
    refine lv_istore hx hb dX2_reached_56 hl (by decide) rfl (fun ls hl => ?_)
    have hl : lv_has ls 6 [(5, .int (bI (sd_cl a T sm i (sd_ac (sd_cl a T sm) i)))), (4, .int (nI (sm % 2 ^ sd_ct a i))), (0, .ref om), (1, .int (nI sm)), (2, .int (nI (sd_pos i (sd_ac (sd_cl a T sm) i)))), (3, .int (nI i))] := hl
    refine lv_iconst (v := nI 2) hx hb dX2_reached_58 (by decide) ?_
    refine lv_iload_n hx hb dX2_reached_59 rfl (lv_at hl 4 rfl) ?_
    refine lv_imul hx hb dX2_reached_60 ?_
    refine lv_nm (y := nI (2 * (sd_pos i (sd_ac (sd_cl a T sm) i)))) (pk_mul _ _) ?_
    refine lv_iload hx hb dX2_reached_61 (lv_at hl 0 rfl) ?_
    refine lv_iadd hx hb dX2_reached_63 ?_
    refine lv_nm (y := nI (sd_pos (i + 1) (sd_ac (sd_cl a T sm) (i + 1)))) (by rw [bI_nI, nI_add, sd_pos_ac]) ?_
    refine lv_istore_n hx hb dX2_reached_64 rfl hl (by decide) rfl (fun ls hl => ?_)
    have hl : lv_has ls 6 [(2, .int (nI (sd_pos (i + 1) (sd_ac (sd_cl a T sm) (i + 1))))), (5, .int (bI (sd_cl a T sm i (sd_ac (sd_cl a T sm) i)))), (4, .int (nI (sm % 2 ^ sd_ct a i))), (0, .ref om), (1, .int (nI sm)), (3, .int (nI i))] := hl
    refine lv_iinc (k := 5) (v := nI (i + 1)) hx hb dX2_reached_65 hl rfl (hw_inc _) (by decide) rfl (fun ls hl => ?_)
    have hl : lv_has ls 6 [(3, .int (nI (i + 1))), (2, .int (nI (sd_pos (i + 1) (sd_ac (sd_cl a T sm) (i + 1))))), (5, .int (bI (sd_cl a T sm i (sd_ac (sd_cl a T sm) i)))), (4, .int (nI (sm % 2 ^ sd_ct a i))), (0, .ref om), (1, .int (nI sm))] := hl
    refine lv_goto (tgt := 4) hx hb dX2_reached_68 rfl ?_
    have hl : lv_has ls 6 [(0, .ref om), (1, .int (nI sm)), (2, .int (nI (sd_pos (i + 1) (sd_ac (sd_cl a T sm) (i + 1))))), (3, .int (nI (i + 1)))] := lv_sub hl [4, 5, 1, 0] rfl
    exact ih (i + 1) ls (by omega) hl

set_option maxHeartbeats 4000000 in
set_option maxRecDepth 100000 in
theorem m_gap (l : Launch) (D : va_G) (cI cZ : ClassId) (om my mz mv mt n a q d v u1 u2 : Nat) (kn mr : Bool) (sk : Int32) (Y Z : Nat → Nat) (T : Nat → Int32) (wn : Nat → Bool) (ok : dOk n a q d v Y Z) (sz : Nat) (mk : mOk n kn wn (sd_wn n a (fun w => sd_br Y Z q w == 0))) (hu1 : u1 < 2 ^ n) (hu2 : u2 < 2 ^ n) : Met l yX2_gap (kX2_gap :: aW) { frames := 4, cells := 0, slots := 0, locals := 87 } (wPre [.ref om] D [(om, .inr (2, [.int (nI n), .int (nI a), .int (nI q), .ref my, .ref mz, .int (bI kn), .int sk, .int (bI mr), .int (nI u1), .int (nI u2), .ref mv, .int (nI (sd_pos d v)), .int (nI d), .ref mt])), (my, .inl (cI, 24, .inl (fun jq => nI (Y jq)))), (mz, .inl (cI, 24, .inl (fun jq => nI (Z jq)))), (mv, .inl (cZ, 2048, .inl (fun jq => bI (wn jq)))), (mt, .inl (cI, 10, .inl T))] [(cI, .int), (cZ, .boolean)] sz) (wQ (some (.int (sd_gp (fun sm => sd_br Y Z q (sd_ac (sd_cl a T sm) n) == 0) (2 ^ sd_ct a n) 0))) D [(om, .inr (2, [.int (nI n), .int (nI a), .int (nI q), .ref my, .ref mz, .int (bI true), .int (if kn = true then sk else -1), .int (bI (kn && mr)), .int (nI u1), .int (nI u2), .ref mv, .int (nI (sd_pos d v)), .int (nI d), .ref mt])), (my, .inl (cI, 24, .inl (fun jq => nI (Y jq)))), (mz, .inl (cI, 24, .inl (fun jq => nI (Z jq)))), (mv, .inl (cZ, 2048, .inl (fun jq => bI ((sd_wn n a (fun w => sd_br Y Z q w == 0)) jq)))), (mt, .inl (cI, 10, .inl T))] (va_A [(om, .inr (2, [.int (nI n), .int (nI a), .int (nI q), .ref my, .ref mz, .int (bI kn), .int sk, .int (bI mr), .int (nI u1), .int (nI u2), .ref mv, .int (nI (sd_pos d v)), .int (nI d), .ref mt])), (my, .inl (cI, 24, .inl (fun jq => nI (Y jq)))), (mz, .inl (cI, 24, .inl (fun jq => nI (Z jq)))), (mv, .inl (cZ, 2048, .inl (fun jq => bI (wn jq)))), (mt, .inl (cI, 10, .inl T))] sz)) 0 0 (va_A [(om, .inr (2, [.int (nI n), .int (nI a), .int (nI q), .ref my, .ref mz, .int (bI kn), .int sk, .int (bI mr), .int (nI u1), .int (nI u2), .ref mv, .int (nI (sd_pos d v)), .int (nI d), .ref mt])), (my, .inl (cI, 24, .inl (fun jq => nI (Y jq)))), (mz, .inl (cI, 24, .inl (fun jq => nI (Z jq)))), (mv, .inl (cZ, 2048, .inl (fun jq => bI (wn jq)))), (mt, .inl (cI, 10, .inl T))] sz) := by
  obtain ⟨hn1, hn, ha, h5, hq, hY, hZ, hd, hv⟩ := id ok
  have h2n := hw_p10 hn
  refine Met.ofW (cc := cX2_gap) (maxL := 2) (ret := (some .int)) (by decide) rfl ?_
  intro p e s m args below meth c s₁ Bo hml hpre
  obtain ⟨rfl, hsz, hP, hK, hN, hD0⟩ := hpre
  subst hsz
  have hD := hD0.self (sz := s.heap.size)
  generalize hAe : va_A [(om, .inr (2, [.int (nI n), .int (nI a), .int (nI q), .ref my, .ref mz, .int (bI kn), .int sk, .int (bI mr), .int (nI u1), .int (nI u2), .ref mv, .int (nI (sd_pos d v)), .int (nI d), .ref mt])), (my, .inl (cI, 24, .inl (fun jq => nI (Y jq)))), (mz, .inl (cI, 24, .inl (fun jq => nI (Z jq)))), (mv, .inl (cZ, 2048, .inl (fun jq => bI (wn jq)))), (mt, .inl (cI, 10, .inl T))] s.heap.size = A at hD ⊢
  have hA : ∀ q : Nat, s.heap.size ≤ q → A q := fun q h => by rw [← hAe]; exact Or.inr h
  have hS : va_S A s.heap s.heap [] := va_S.rf
  have hx := Bo.exec
  have hb := Bo.bytes
  have hr := Bo.returns
  have hts := atoms_spec (ws := kX2_gap :: aW) Bo.pre
  have ht : ∀ w ∈ aW, w.before _ s = true := fun w h => hts w (List.mem_cons_of_mem _ h)
  have hown : s.vm.findClass RX2 = some m.cls := findClass_of_methodNamed Bo.named
  have hlocks := Bo.notSynchronized
  have hP : va_P D clS [(om, .inr (2, [.int (nI n), .int (nI a), .int (nI q), .ref my, .ref mz, .int (bI kn), .int sk, .int (bI mr), .int (nI u1), .int (nI u2), .ref mv, .int (nI (sd_pos d v)), .int (nI d), .ref mt])), (my, .inl (cI, 24, .inl (fun jq => nI (Y jq)))), (mz, .inl (cI, 24, .inl (fun jq => nI (Z jq)))), (mv, .inl (cZ, 2048, .inl (fun jq => bI (wn jq)))), (mt, .inl (cI, 10, .inl T))] s.heap := hP
  have hl := lv_entry ([.ref om]) (n := 2) (Nat.le_of_ble_eq_true rfl)
  rw [lg_entry_eq]
  generalize (lg_sl ([.ref om]) ++ List.replicate (2 - (lg_sl ([.ref om])).length) Slot.unset).toArray = ls at hl ⊢
  have hl : lv_has ls 2 [(0, .ref om)] := hl
  have h32 := sd_p32 h5 (v := n) (Nat.le_refl n)
  refine lv_aload_n hx hb dX2_gap_0 rfl (lv_at hl 0 rfl) ?_
  refine hw_callW (ws' := [(om, .inr (2, [.int (nI n), .int (nI a), .int (nI q), .ref my, .ref mz, .int (bI true), .int (if kn = true then sk else -1), .int (bI (kn && mr)), .int (nI u1), .int (nI u2), .ref mv, .int (nI (sd_pos d v)), .int (nI d), .ref mt])), (my, .inl (cI, 24, .inl (fun jq => nI (Y jq)))), (mz, .inl (cI, 24, .inl (fun jq => nI (Z jq)))), (mv, .inl (cZ, 2048, .inl (fun jq => bI ((sd_wn n a (fun w => sd_br Y Z q w == 0)) jq)))), (mt, .inl (cI, 10, .inl T))]) (va_runV (b := om) (As := []) (rest := []) ⟨hx, hb, hml, hown, ht⟩ (m_look l D cI cZ om my mz mv mt n a q d v u1 u2 kn mr sk Y Z T wn ok s.heap.size mk hu1 hu2) (cwV 0 ht (gV wm_X2_X2_look wi_X2_look ws_X2_look wn_X2 wc_X2_look) rfl rfl rfl (by decide +kernel) ⟨Nat.le_of_ble_eq_true rfl, Nat.le_of_ble_eq_true rfl⟩) (wPre_V 0 hP hD hK hN rfl rfl) rfl rfl hl.1 rfl (lv_room (Nat.le_of_ble_eq_true rfl)) dX2_gap_1 ⟨Nat.zero_le _, Nat.zero_le _⟩) hD hS hA rfl (fun H locs hP hD hS => ?_)
  have hP : va_P D clS [(om, .inr (2, [.int (nI n), .int (nI a), .int (nI q), .ref my, .ref mz, .int (bI true), .int (if kn = true then sk else -1), .int (bI (kn && mr)), .int (nI u1), .int (nI u2), .ref mv, .int (nI (sd_pos d v)), .int (nI d), .ref mt])), (my, .inl (cI, 24, .inl (fun jq => nI (Y jq)))), (mz, .inl (cI, 24, .inl (fun jq => nI (Z jq)))), (mv, .inl (cZ, 2048, .inl (fun jq => bI ((sd_wn n a (fun w => sd_br Y Z q w == 0)) jq)))), (mt, .inl (cI, 10, .inl T))] H := hP
  have hD : va_D A [(om, .inr (2, [.int (nI n), .int (nI a), .int (nI q), .ref my, .ref mz, .int (bI true), .int (if kn = true then sk else -1), .int (bI (kn && mr)), .int (nI u1), .int (nI u2), .ref mv, .int (nI (sd_pos d v)), .int (nI d), .ref mt])), (my, .inl (cI, 24, .inl (fun jq => nI (Y jq)))), (mz, .inl (cI, 24, .inl (fun jq => nI (Z jq)))), (mv, .inl (cZ, 2048, .inl (fun jq => bI ((sd_wn n a (fun w => sd_br Y Z q w == 0)) jq)))), (mt, .inl (cI, 10, .inl T))] := hD
  refine W.eq (g2 := F0 m 4 ls []) rfl ?_
  refine lv_iconst (v := nI 0) hx hb dX2_gap_4 (by decide) ?_
  refine lv_istore_n hx hb dX2_gap_5 rfl hl (by decide) rfl (fun ls hl => ?_)
  have hl : lv_has ls 2 [(1, .int (nI 0)), (0, .ref om)] := hl
  have hl : lv_has ls 2 [(0, .ref om), (1, .int (nI 0))] := lv_sub hl [1, 0] rfl
  suffices lp : ∀ k : Nat, ∀ (i : Nat) (ls : Array Slot) (H : Heap) (locs : List Loc), (i + k = 2 ^ sd_ct a n) → (sd_gp (fun sm => sd_br Y Z q (sd_ac (sd_cl a T sm) n) == 0) (2 ^ sd_ct a n) 0 = sd_gp (fun sm => sd_br Y Z q (sd_ac (sd_cl a T sm) n) == 0) k i) → lv_has ls 2 [(0, .ref om), (1, .int (nI i))] → va_P D clS [(om, .inr (2, [.int (nI n), .int (nI a), .int (nI q), .ref my, .ref mz, .int (bI true), .int (if kn = true then sk else -1), .int (bI (kn && mr)), .int (nI u1), .int (nI u2), .ref mv, .int (nI (sd_pos d v)), .int (nI d), .ref mt])), (my, .inl (cI, 24, .inl (fun jq => nI (Y jq)))), (mz, .inl (cI, 24, .inl (fun jq => nI (Z jq)))), (mv, .inl (cZ, 2048, .inl (fun jq => bI ((sd_wn n a (fun w => sd_br Y Z q w == 0)) jq)))), (mt, .inl (cI, 10, .inl T))] H → va_S A s.heap H locs → W p l e (headSpec (kX2_gap :: aW) { frames := 4, cells := 0, slots := 0, locals := 87 }).room s m (([.ref om] : List Value).toArray) below meth c H locs 0 0 (MQ below (wQ (some (.int (sd_gp (fun sm => sd_br Y Z q (sd_ac (sd_cl a T sm) n) == 0) (2 ^ sd_ct a n) 0))) D [(om, .inr (2, [.int (nI n), .int (nI a), .int (nI q), .ref my, .ref mz, .int (bI true), .int (if kn = true then sk else -1), .int (bI (kn && mr)), .int (nI u1), .int (nI u2), .ref mv, .int (nI (sd_pos d v)), .int (nI d), .ref mt])), (my, .inl (cI, 24, .inl (fun jq => nI (Y jq)))), (mz, .inl (cI, 24, .inl (fun jq => nI (Z jq)))), (mv, .inl (cZ, 2048, .inl (fun jq => bI ((sd_wn n a (fun w => sd_br Y Z q w == 0)) jq)))), (mt, .inl (cI, 10, .inl T))] A) (([.ref om] : List Value).toArray) s 0 0 A) (F0 m 6 ls []) by
    exact lp (2 ^ sd_ct a n) 0 ls H locs (by omega) rfl hl hP hS
  intro k
  induction k with
  | zero =>
    intro i ls H locs hi hg hl hP hS
    have hD : va_D A [(om, .inr (2, [.int (nI n), .int (nI a), .int (nI q), .ref my, .ref mz, .int (bI true), .int (if kn = true then sk else -1), .int (bI (kn && mr)), .int (nI u1), .int (nI u2), .ref mv, .int (nI (sd_pos d v)), .int (nI d), .ref mt])), (my, .inl (cI, 24, .inl (fun jq => nI (Y jq)))), (mz, .inl (cI, 24, .inl (fun jq => nI (Z jq)))), (mv, .inl (cZ, 2048, .inl (fun jq => bI ((sd_wn n a (fun w => sd_br Y Z q w == 0)) jq)))), (mt, .inl (cI, 10, .inl T))] := hw_ad hD rfl
    refine lv_iload_n hx hb dX2_gap_6 rfl (lv_at hl 1 rfl) ?_
    refine lv_iconst (v := nI 1) hx hb dX2_gap_7 (by decide) ?_
    refine lv_aload_n hx hb dX2_gap_8 rfl (lv_at hl 0 rfl) ?_
    refine lv_aload_n hx hb dX2_gap_9 rfl (lv_at hl 0 rfl) ?_
    refine va_get (D := D) (ci := 2) (v := .int (nI n)) (C := RX2) (T := TX2) (N := 14) hx hb ht inX2 hown hK hP 0 rfl rfl 0 (by decide) (ht _ wf_X2_n) (fun _ h9 => h9) rfl dX2_gap_10 ?_
    refine hw_callR (va_runV (b := om) (As := [.int (nI n)]) (rest := [.int (nI 1), .int (nI i)]) ⟨hx, hb, hml, hown, ht⟩ (m_before l D cI cZ om my mz mv mt n a q d v u1 u2 true (kn && mr) (if kn = true then sk else -1) Y Z T (sd_wn n a (fun w => sd_br Y Z q w == 0)) ok n (Nat.le_refl n)) (cwV 1 ht (gV wm_X2_X2_before wi_X2_before ws_X2_before wn_X2 wc_X2_before) rfl rfl rfl (by decide +kernel) ⟨Nat.le_of_ble_eq_true rfl, Nat.le_of_ble_eq_true rfl⟩) (rPre_V 0 hP hK hN rfl rfl) rfl rfl hl.1 rfl (lv_room (Nat.le_of_ble_eq_true rfl)) dX2_gap_13 ⟨Nat.zero_le _, Nat.zero_le _⟩) ?_
    refine lv_ishl hx hb dX2_gap_16 ?_
    refine lv_nm (y := nI (2 ^ (sd_ct a n))) (hw_shl1' (by omega)) ?_
    refine lv_icmp_ge (tgt := 41) hx hb dX2_gap_17 rfl (fun _ => ?_) (fun hc => absurd (show ¬ (2 ^ (sd_ct a n) ≤ i) from fun h9 => hc ((nI_leI (by omega) (by omega)).mpr h9)) (by omega))
    refine lv_iconst (v := (-1)) hx hb dX2_gap_41 (by decide) ?_
    exact W.iret hx hb hr (fun t ht2 _ => ⟨hw_ret (hg.symm), by rw [ht2]; exact hP, hS.F ht2⟩) hS.2.2 dX2_gap_42
  | succ k ih =>
    intro i ls H locs hi hg hl hP hS
    have hD : va_D A [(om, .inr (2, [.int (nI n), .int (nI a), .int (nI q), .ref my, .ref mz, .int (bI true), .int (if kn = true then sk else -1), .int (bI (kn && mr)), .int (nI u1), .int (nI u2), .ref mv, .int (nI (sd_pos d v)), .int (nI d), .ref mt])), (my, .inl (cI, 24, .inl (fun jq => nI (Y jq)))), (mz, .inl (cI, 24, .inl (fun jq => nI (Z jq)))), (mv, .inl (cZ, 2048, .inl (fun jq => bI ((sd_wn n a (fun w => sd_br Y Z q w == 0)) jq)))), (mt, .inl (cI, 10, .inl T))] := hw_ad hD rfl
    have hac := sd_ac_lt (sd_cl a T i) n
    have hpk := sd_pos_k (v := sd_ac (sd_cl a T i) n) (Nat.le_refl n) h2n
    refine lv_iload_n hx hb dX2_gap_6 rfl (lv_at hl 1 rfl) ?_
    refine lv_iconst (v := nI 1) hx hb dX2_gap_7 (by decide) ?_
    refine lv_aload_n hx hb dX2_gap_8 rfl (lv_at hl 0 rfl) ?_
    refine lv_aload_n hx hb dX2_gap_9 rfl (lv_at hl 0 rfl) ?_
    refine va_get (D := D) (ci := 2) (v := .int (nI n)) (C := RX2) (T := TX2) (N := 14) hx hb ht inX2 hown hK hP 0 rfl rfl 0 (by decide) (ht _ wf_X2_n) (fun _ h9 => h9) rfl dX2_gap_10 ?_
    refine hw_callR (va_runV (b := om) (As := [.int (nI n)]) (rest := [.int (nI 1), .int (nI i)]) ⟨hx, hb, hml, hown, ht⟩ (m_before l D cI cZ om my mz mv mt n a q d v u1 u2 true (kn && mr) (if kn = true then sk else -1) Y Z T (sd_wn n a (fun w => sd_br Y Z q w == 0)) ok n (Nat.le_refl n)) (cwV 1 ht (gV wm_X2_X2_before wi_X2_before ws_X2_before wn_X2 wc_X2_before) rfl rfl rfl (by decide +kernel) ⟨Nat.le_of_ble_eq_true rfl, Nat.le_of_ble_eq_true rfl⟩) (rPre_V 0 hP hK hN rfl rfl) rfl rfl hl.1 rfl (lv_room (Nat.le_of_ble_eq_true rfl)) dX2_gap_13 ⟨Nat.zero_le _, Nat.zero_le _⟩) ?_
    refine lv_ishl hx hb dX2_gap_16 ?_
    refine lv_nm (y := nI (2 ^ (sd_ct a n))) (hw_shl1' (by omega)) ?_
    refine lv_icmp_ge (tgt := 41) hx hb dX2_gap_17 rfl (fun hc => absurd (show 2 ^ (sd_ct a n) ≤ i from (nI_leI (by omega) (by omega)).mp hc) (by omega)) (fun _ => ?_)
    refine lv_aload_n hx hb dX2_gap_20 rfl (lv_at hl 0 rfl) ?_
    refine va_get (D := D) (ci := 2) (v := .ref mv) (C := RX2) (T := TX2) (N := 14) hx hb ht inX2 hown hK hP 0 rfl rfl 10 (by decide) (ht _ wf_X2_win) (fun _ h9 => h9) rfl dX2_gap_21 ?_
    refine lv_aload_n hx hb dX2_gap_24 rfl (lv_at hl 0 rfl) ?_
    refine lv_iload_n hx hb dX2_gap_25 rfl (lv_at hl 1 rfl) ?_
    refine hw_callR (va_runV (b := om) (As := [.int (nI i)]) (rest := [.ref mv]) ⟨hx, hb, hml, hown, ht⟩ (m_reached l D cI cZ om my mz mv mt n a q d v u1 u2 true (kn && mr) (if kn = true then sk else -1) Y Z T (sd_wn n a (fun w => sd_br Y Z q w == 0)) ok i (by omega)) (cwV 1 ht (gV wm_X2_X2_reached wi_X2_reached ws_X2_reached wn_X2 wc_X2_reached) rfl rfl rfl (by decide +kernel) ⟨Nat.le_of_ble_eq_true rfl, Nat.le_of_ble_eq_true rfl⟩) (rPre_V 0 hP hK hN rfl rfl) rfl rfl hl.1 rfl (lv_room (Nat.le_of_ble_eq_true rfl)) dX2_gap_26 ⟨Nat.zero_le _, Nat.zero_le _⟩) ?_
    refine na_zald (f := sd_wn n a (fun w => sd_br Y Z q w == 0)) hx hb hK hP 3 1 rfl rfl (j := sd_pos n (sd_ac (sd_cl a T i) n)) (by omega) (by omega) dX2_gap_29 ?_
    refine lv_nm (y := bI (sd_br Y Z q (sd_ac (sd_cl a T i) n) == 0)) (congrArg bI ((sd_wn_at (Nat.le_refl n) hac).trans (sd_E_n n a (fun w => sd_br Y Z q w == 0) _))) ?_
    refine lv_if_ne (tgt := 35) hx hb dX2_gap_30 rfl (fun h1 => ?_) (fun h1 => ?_)
    · have h1 : (sd_br Y Z q (sd_ac (sd_cl a T i) n) == 0) = true := bI_ne0 h1
      refine lv_iinc (k := 1) (v := nI (i + 1)) hx hb dX2_gap_35 hl rfl (hw_inc _) (by decide) rfl (fun ls hl => ?_)
      have hl : lv_has ls 2 [(1, .int (nI (i + 1))), (0, .ref om)] := hl
      refine lv_goto (tgt := 6) hx hb dX2_gap_38 rfl ?_
      have hl : lv_has ls 2 [(0, .ref om), (1, .int (nI (i + 1)))] := lv_sub hl [1, 0] rfl
      exact ih (i + 1) ls H locs (by omega) (hg.trans (if_pos h1)) hl hP hS
    · have h1 : (sd_br Y Z q (sd_ac (sd_cl a T i) n) == 0) = false := (bI_eq0 _).mp h1
      refine lv_iload_n hx hb dX2_gap_33 rfl (lv_at hl 1 rfl) ?_
      exact W.iret hx hb hr (fun t ht2 _ => ⟨hw_ret ((hg.trans (if_neg (fun h9 => absurd (h1.symm.trans h9) (by decide)))).symm), by rw [ht2]; exact hP, hS.F ht2⟩) hS.2.2 dX2_gap_34
