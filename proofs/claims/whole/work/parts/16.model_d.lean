/-! Contracts of the reference: learn. -/
/-- the tables with the variables below v learned -/
def sd_Tm (n a : Nat) (S : Nat → Bool) (T : Nat → Int32) (v : Nat) : Nat → Int32 := fun j => if j < v then sd_T n a S T j else if j < n then 0 else T j
theorem sd_Tm_0 {n a : Nat} {S : Nat → Bool} {T F : Nat → Int32} (h1 : ∀ j, j < n → F j = 0) (h2 : ∀ j, n ≤ j → F j = T j) (j : Nat) : F j = sd_Tm n a S T 0 j := by
  unfold sd_Tm
  rw [if_neg (by omega)]
  by_cases hj : j < n
  · rw [if_pos hj]; exact h1 j hj
  · rw [if_neg hj]; exact h2 j (by omega)
theorem sd_Tm_n {n a : Nat} {S : Nat → Bool} {T : Nat → Int32} (j : Nat) : sd_Tm n a S T n j = sd_T n a S T j := by
  unfold sd_Tm
  by_cases hj : j < n
  · rw [if_pos hj]
  · rw [if_neg hj, if_neg hj]
    unfold sd_T
    rw [if_neg hj]
theorem sd_Tm_a {n a v : Nat} {S : Nat → Bool} {T : Nat → Int32} (hv : v < n) (h : a.testBit v = true) (j : Nat) : sd_Tm n a S T v j = sd_Tm n a S T (v + 1) j := by
  unfold sd_Tm
  by_cases hj : j = v
  · subst hj
    rw [if_neg (by omega), if_pos hv, if_pos (by omega)]
    unfold sd_T
    rw [if_pos hv, if_pos h]
  · by_cases h2 : j < v
    · rw [if_pos h2, if_pos (by omega)]
    · rw [if_neg h2, if_neg (show ¬ j < v + 1 by omega)]
theorem sd_Tm_e0 {n a v : Nat} {S : Nat → Bool} {T : Nat → Int32} (hv : v < n) (g : Nat → Bool) (j : Nat) : sd_Tm n a S T v j = upd (sd_Tm n a S T v) v (nI (sd_ob g 0)) j := by
  by_cases hj : j = v
  · subst hj
    rw [pk_us]
    unfold sd_Tm
    rw [if_neg (by omega), if_pos hv]
    rfl
  · rw [pk_un hj]
theorem sd_Tm_e1 {n a v : Nat} {S : Nat → Bool} {T : Nat → Int32} (hv : v < n) (h : a.testBit v = false) (j : Nat) : upd (sd_Tm n a S T v) v (nI (sd_ob (sd_lb n a S v) (2 ^ sd_ct a v))) j = sd_Tm n a S T (v + 1) j := by
  by_cases hj : j = v
  · subst hj
    rw [pk_us]
    unfold sd_Tm
    rw [if_pos (by omega)]
    unfold sd_T
    rw [if_pos hv, if_neg (by rw [h]; decide)]
    rfl
  · rw [pk_un hj]
    unfold sd_Tm
    by_cases h2 : j < v
    · rw [if_pos h2, if_pos (by omega)]
    · rw [if_neg h2, if_neg (show ¬ j < v + 1 by omega)]
theorem sd_uu (f : Nat → Int32) (k : Nat) {x y z : Int32} (h : y = z) (j : Nat) : upd (upd f k x) k y j = upd f k z j := by
  subst h
  by_cases hj : j = k
  · subst hj
    rw [pk_us, pk_us]
  · rw [pk_un hj, pk_un hj, pk_un hj]
theorem sd_at {n a v : Nat} {S : Nat → Bool} {T : Nat → Int32} (h5 : sd_ct a n ≤ 5) (hv : v < n) (i : Nat) (x : Int32) : sd_pos n (sd_ac (sd_cl a (upd (sd_Tm n a S T v) v x) i) n) / 2 ^ (n - v) = sd_pos v (sd_ac (sd_li a (sd_bm n a S) i) v) := by
  have h1 := sd_pos_dv v (sd_ac (sd_cl a (upd (sd_Tm n a S T v) v x) i) n) (n - v)
  rw [show v + (n - v) = n by omega] at h1
  rw [h1, sd_pos_acm _ (by omega), sd_cl_learn (S := S) h5 i (Nat.le_of_lt hv)]
  intro d hd ha
  rw [pk_un (by omega)]
  unfold sd_Tm
  rw [if_pos hd]
  unfold sd_T
  rw [if_pos (by omega), if_neg (by rw [ha]; decide)]

set_option maxHeartbeats 4000000 in
set_option maxRecDepth 100000 in
theorem m_learn (l : Launch) (D : va_G) (cI cZ : ClassId) (om my mz mv mt n a q d v u1 u2 : Nat) (kn mr : Bool) (sk : Int32) (Y Z : Nat → Nat) (T : Nat → Int32) (wn : Nat → Bool) (ok : dOk n a q d v Y Z) (sz : Nat) (mk : mOk n kn wn (sd_wn n a (fun w => sd_br Y Z q w == 0))) (hu1 : u1 < 2 ^ n) (hu2 : u2 < 2 ^ n) : Met l yX2_learn (kX2_learn :: aW) { frames := 5, cells := 0, slots := 0, locals := 108 } (wPre [.ref om] D [(om, .inr (2, [.int (nI n), .int (nI a), .int (nI q), .ref my, .ref mz, .int (bI kn), .int sk, .int (bI mr), .int (nI u1), .int (nI u2), .ref mv, .int (nI (sd_pos d v)), .int (nI d), .ref mt])), (my, .inl (cI, 24, .inl (fun jq => nI (Y jq)))), (mz, .inl (cI, 24, .inl (fun jq => nI (Z jq)))), (mv, .inl (cZ, 2048, .inl (fun jq => bI (wn jq)))), (mt, .inl (cI, 10, .inl T))] [(cI, .int), (cZ, .boolean)] sz) (wQ (some (.int (sd_gp (fun sm => sd_br Y Z q (sd_ac (sd_cl a (sd_T n a (fun w => sd_br Y Z q w == 0) T) sm) n) == 0) (2 ^ sd_ct a n) 0))) D [(om, .inr (2, [.int (nI n), .int (nI a), .int (nI q), .ref my, .ref mz, .int (bI true), .int (if true = true then (if kn = true then sk else -1) else -1), .int (bI (true && (kn && mr))), .int (nI u1), .int (nI u2), .ref mv, .int (nI (sd_pos d v)), .int (nI d), .ref mt])), (my, .inl (cI, 24, .inl (fun jq => nI (Y jq)))), (mz, .inl (cI, 24, .inl (fun jq => nI (Z jq)))), (mv, .inl (cZ, 2048, .inl (fun jq => bI ((sd_wn n a (fun w => sd_br Y Z q w == 0)) jq)))), (mt, .inl (cI, 10, .inl (sd_T n a (fun w => sd_br Y Z q w == 0) T)))] (va_A [(om, .inr (2, [.int (nI n), .int (nI a), .int (nI q), .ref my, .ref mz, .int (bI kn), .int sk, .int (bI mr), .int (nI u1), .int (nI u2), .ref mv, .int (nI (sd_pos d v)), .int (nI d), .ref mt])), (my, .inl (cI, 24, .inl (fun jq => nI (Y jq)))), (mz, .inl (cI, 24, .inl (fun jq => nI (Z jq)))), (mv, .inl (cZ, 2048, .inl (fun jq => bI (wn jq)))), (mt, .inl (cI, 10, .inl T))] sz)) 0 0 (va_A [(om, .inr (2, [.int (nI n), .int (nI a), .int (nI q), .ref my, .ref mz, .int (bI kn), .int sk, .int (bI mr), .int (nI u1), .int (nI u2), .ref mv, .int (nI (sd_pos d v)), .int (nI d), .ref mt])), (my, .inl (cI, 24, .inl (fun jq => nI (Y jq)))), (mz, .inl (cI, 24, .inl (fun jq => nI (Z jq)))), (mv, .inl (cZ, 2048, .inl (fun jq => bI (wn jq)))), (mt, .inl (cI, 10, .inl T))] sz) := by
  obtain ⟨hn1, hn, ha, h5, hq, hY, hZ, hd, hv⟩ := id ok
  have h2n := hw_p10 hn
  refine Met.ofW (cc := cX2_learn) (maxL := 4) (ret := (some .int)) (by decide) rfl ?_
  intro p e s m args below meth c s₁ Bo hml hpre
  obtain ⟨rfl, hsz, hP, hK, hN, hD0⟩ := hpre
  subst hsz
  have hD := hD0.self (sz := s.heap.size)
  generalize hAe : va_A [(om, .inr (2, [.int (nI n), .int (nI a), .int (nI q), .ref my, .ref mz, .int (bI kn), .int sk, .int (bI mr), .int (nI u1), .int (nI u2), .ref mv, .int (nI (sd_pos d v)), .int (nI d), .ref mt])), (my, .inl (cI, 24, .inl (fun jq => nI (Y jq)))), (mz, .inl (cI, 24, .inl (fun jq => nI (Z jq)))), (mv, .inl (cZ, 2048, .inl (fun jq => bI (wn jq)))), (mt, .inl (cI, 10, .inl T))] s.heap.size = A at hD ⊢
  have hA : ∀ q : Nat, s.heap.size ≤ q → A q := fun q h => by rw [← hAe]; exact Or.inr h
  have hS : va_S A s.heap s.heap [] := va_S.rf
  have hx := Bo.exec
  have hb := Bo.bytes
  have hr := Bo.returns
  have hts := atoms_spec (ws := kX2_learn :: aW) Bo.pre
  have ht : ∀ w ∈ aW, w.before _ s = true := fun w h => hts w (List.mem_cons_of_mem _ h)
  have hown : s.vm.findClass RX2 = some m.cls := findClass_of_methodNamed Bo.named
  have hlocks := Bo.notSynchronized
  have hP : va_P D clS [(om, .inr (2, [.int (nI n), .int (nI a), .int (nI q), .ref my, .ref mz, .int (bI kn), .int sk, .int (bI mr), .int (nI u1), .int (nI u2), .ref mv, .int (nI (sd_pos d v)), .int (nI d), .ref mt])), (my, .inl (cI, 24, .inl (fun jq => nI (Y jq)))), (mz, .inl (cI, 24, .inl (fun jq => nI (Z jq)))), (mv, .inl (cZ, 2048, .inl (fun jq => bI (wn jq)))), (mt, .inl (cI, 10, .inl T))] s.heap := hP
  have hl := lv_entry ([.ref om]) (n := 4) (Nat.le_of_ble_eq_true rfl)
  rw [lg_entry_eq]
  generalize (lg_sl ([.ref om]) ++ List.replicate (4 - (lg_sl ([.ref om])).length) Slot.unset).toArray = ls at hl ⊢
  have hl : lv_has ls 4 [(0, .ref om)] := hl
  refine lv_aload_n hx hb dX2_learn_0 rfl (lv_at hl 0 rfl) ?_
  refine hw_callW (ws' := [(om, .inr (2, [.int (nI n), .int (nI a), .int (nI q), .ref my, .ref mz, .int (bI true), .int (if kn = true then sk else -1), .int (bI (kn && mr)), .int (nI u1), .int (nI u2), .ref mv, .int (nI (sd_pos d v)), .int (nI d), .ref mt])), (my, .inl (cI, 24, .inl (fun jq => nI (Y jq)))), (mz, .inl (cI, 24, .inl (fun jq => nI (Z jq)))), (mv, .inl (cZ, 2048, .inl (fun jq => bI ((sd_wn n a (fun w => sd_br Y Z q w == 0)) jq)))), (mt, .inl (cI, 10, .inl T))]) (va_runV (b := om) (As := []) (rest := []) ⟨hx, hb, hml, hown, ht⟩ (m_look l D cI cZ om my mz mv mt n a q d v u1 u2 kn mr sk Y Z T wn ok s.heap.size mk hu1 hu2) (cwV 0 ht (gV wm_X2_X2_look wi_X2_look ws_X2_look wn_X2 wc_X2_look) rfl rfl rfl (by decide +kernel) ⟨Nat.le_of_ble_eq_true rfl, Nat.le_of_ble_eq_true rfl⟩) (wPre_V 0 hP hD hK hN rfl rfl) rfl rfl hl.1 rfl (lv_room (Nat.le_of_ble_eq_true rfl)) dX2_learn_1 ⟨Nat.zero_le _, Nat.zero_le _⟩) hD hS hA rfl (fun H locs hP hD hS => ?_)
  have hP : va_P D clS [(om, .inr (2, [.int (nI n), .int (nI a), .int (nI q), .ref my, .ref mz, .int (bI true), .int (if kn = true then sk else -1), .int (bI (kn && mr)), .int (nI u1), .int (nI u2), .ref mv, .int (nI (sd_pos d v)), .int (nI d), .ref mt])), (my, .inl (cI, 24, .inl (fun jq => nI (Y jq)))), (mz, .inl (cI, 24, .inl (fun jq => nI (Z jq)))), (mv, .inl (cZ, 2048, .inl (fun jq => bI ((sd_wn n a (fun w => sd_br Y Z q w == 0)) jq)))), (mt, .inl (cI, 10, .inl T))] H := hP
  have hD : va_D A [(om, .inr (2, [.int (nI n), .int (nI a), .int (nI q), .ref my, .ref mz, .int (bI true), .int (if kn = true then sk else -1), .int (bI (kn && mr)), .int (nI u1), .int (nI u2), .ref mv, .int (nI (sd_pos d v)), .int (nI d), .ref mt])), (my, .inl (cI, 24, .inl (fun jq => nI (Y jq)))), (mz, .inl (cI, 24, .inl (fun jq => nI (Z jq)))), (mv, .inl (cZ, 2048, .inl (fun jq => bI ((sd_wn n a (fun w => sd_br Y Z q w == 0)) jq)))), (mt, .inl (cI, 10, .inl T))] := hD
  refine W.eq (g2 := F0 m 4 ls []) rfl ?_
  refine lv_iconst (v := nI 0) hx hb dX2_learn_4 (by decide) ?_
  refine lv_istore_n hx hb dX2_learn_5 rfl hl (by decide) rfl (fun ls hl => ?_)
  have hl : lv_has ls 4 [(1, .int (nI 0)), (0, .ref om)] := hl
  have hl : lv_has ls 4 [(0, .ref om), (1, .int (nI 0))] := lv_sub hl [1, 0] rfl
  suffices lp : ∀ k : Nat, ∀ (i : Nat) (F : Nat → Int32) (ls : Array Slot) (H : Heap) (locs : List Loc), (i + k = n) → (∀ j, j < i → F j = 0) → (∀ j, n ≤ j → F j = T j) → lv_has ls 4 [(0, .ref om), (1, .int (nI i))] → va_P D clS [(om, .inr (2, [.int (nI n), .int (nI a), .int (nI q), .ref my, .ref mz, .int (bI true), .int (if kn = true then sk else -1), .int (bI (kn && mr)), .int (nI u1), .int (nI u2), .ref mv, .int (nI (sd_pos d v)), .int (nI d), .ref mt])), (my, .inl (cI, 24, .inl (fun jq => nI (Y jq)))), (mz, .inl (cI, 24, .inl (fun jq => nI (Z jq)))), (mv, .inl (cZ, 2048, .inl (fun jq => bI ((sd_wn n a (fun w => sd_br Y Z q w == 0)) jq)))), (mt, .inl (cI, 10, .inl F))] H → va_S A s.heap H locs → W p l e (headSpec (kX2_learn :: aW) { frames := 5, cells := 0, slots := 0, locals := 108 }).room s m (([.ref om] : List Value).toArray) below meth c H locs 0 0 (MQ below (wQ (some (.int (sd_gp (fun sm => sd_br Y Z q (sd_ac (sd_cl a (sd_T n a (fun w => sd_br Y Z q w == 0) T) sm) n) == 0) (2 ^ sd_ct a n) 0))) D [(om, .inr (2, [.int (nI n), .int (nI a), .int (nI q), .ref my, .ref mz, .int (bI true), .int (if true = true then (if kn = true then sk else -1) else -1), .int (bI (true && (kn && mr))), .int (nI u1), .int (nI u2), .ref mv, .int (nI (sd_pos d v)), .int (nI d), .ref mt])), (my, .inl (cI, 24, .inl (fun jq => nI (Y jq)))), (mz, .inl (cI, 24, .inl (fun jq => nI (Z jq)))), (mv, .inl (cZ, 2048, .inl (fun jq => bI ((sd_wn n a (fun w => sd_br Y Z q w == 0)) jq)))), (mt, .inl (cI, 10, .inl (sd_T n a (fun w => sd_br Y Z q w == 0) T)))] A) (([.ref om] : List Value).toArray) s 0 0 A) (F0 m 6 ls []) by
    exact lp n 0 T ls H locs (by omega) (fun j hj => by omega) (fun j _ => rfl) hl hP hS
  intro k
  induction k with
  | zero =>
    intro i F ls H locs hi hF hF2 hl hP hS
    have hD : va_D A [(om, .inr (2, [.int (nI n), .int (nI a), .int (nI q), .ref my, .ref mz, .int (bI true), .int (if kn = true then sk else -1), .int (bI (kn && mr)), .int (nI u1), .int (nI u2), .ref mv, .int (nI (sd_pos d v)), .int (nI d), .ref mt])), (my, .inl (cI, 24, .inl (fun jq => nI (Y jq)))), (mz, .inl (cI, 24, .inl (fun jq => nI (Z jq)))), (mv, .inl (cZ, 2048, .inl (fun jq => bI ((sd_wn n a (fun w => sd_br Y Z q w == 0)) jq)))), (mt, .inl (cI, 10, .inl F))] := hw_ad hD rfl
    refine lv_iload_n hx hb dX2_learn_6 rfl (lv_at hl 1 rfl) ?_
    refine lv_aload_n hx hb dX2_learn_7 rfl (lv_at hl 0 rfl) ?_
    refine va_get (D := D) (ci := 2) (v := .int (nI n)) (C := RX2) (T := TX2) (N := 14) hx hb ht inX2 hown hK hP 0 rfl rfl 0 (by decide) (ht _ wf_X2_n) (fun _ h9 => h9) rfl dX2_learn_8 ?_
    refine lv_icmp_ge (tgt := 27) hx hb dX2_learn_11 rfl (fun _ => ?_) (fun hc => absurd (show ¬ (n ≤ i) from fun h9 => hc ((nI_leI (by omega) (by omega)).mpr h9)) (by omega))
    obtain rfl : n = i := by omega
    have hP : va_P D clS [(om, .inr (2, [.int (nI n), .int (nI a), .int (nI q), .ref my, .ref mz, .int (bI true), .int (if kn = true then sk else -1), .int (bI (kn && mr)), .int (nI u1), .int (nI u2), .ref mv, .int (nI (sd_pos d v)), .int (nI d), .ref mt])), (my, .inl (cI, 24, .inl (fun jq => nI (Y jq)))), (mz, .inl (cI, 24, .inl (fun jq => nI (Z jq)))), (mv, .inl (cZ, 2048, .inl (fun jq => bI ((sd_wn n a (fun w => sd_br Y Z q w == 0)) jq)))), (mt, .inl (cI, 10, .inl (sd_Tm n a (fun w => sd_br Y Z q w == 0) T 0)))] H := hw_cg hP (sd_Tm n a (fun w => sd_br Y Z q w == 0) T 0) (q0 := 4) rfl (fun j _ => sd_Tm_0 hF hF2 j) rfl
    have hD : va_D A [(om, .inr (2, [.int (nI n), .int (nI a), .int (nI q), .ref my, .ref mz, .int (bI true), .int (if kn = true then sk else -1), .int (bI (kn && mr)), .int (nI u1), .int (nI u2), .ref mv, .int (nI (sd_pos d v)), .int (nI d), .ref mt])), (my, .inl (cI, 24, .inl (fun jq => nI (Y jq)))), (mz, .inl (cI, 24, .inl (fun jq => nI (Z jq)))), (mv, .inl (cZ, 2048, .inl (fun jq => bI ((sd_wn n a (fun w => sd_br Y Z q w == 0)) jq)))), (mt, .inl (cI, 10, .inl (sd_Tm n a (fun w => sd_br Y Z q w == 0) T 0)))] := hw_ad hD rfl
    refine lv_iconst (v := nI 0) hx hb dX2_learn_27 (by decide) ?_
    refine lv_istore_n hx hb dX2_learn_28 rfl hl (by decide) rfl (fun ls hl => ?_)
    have hl : lv_has ls 4 [(1, .int (nI 0)), (0, .ref om)] := hl
    have hl : lv_has ls 4 [(0, .ref om), (1, .int (nI 0))] := lv_sub hl [1, 0] rfl
    suffices lq : ∀ k : Nat, ∀ (j : Nat) (ls : Array Slot) (H : Heap) (locs : List Loc), (j + k = n) → lv_has ls 4 [(0, .ref om), (1, .int (nI j))] → va_P D clS [(om, .inr (2, [.int (nI n), .int (nI a), .int (nI q), .ref my, .ref mz, .int (bI true), .int (if kn = true then sk else -1), .int (bI (kn && mr)), .int (nI u1), .int (nI u2), .ref mv, .int (nI (sd_pos d v)), .int (nI d), .ref mt])), (my, .inl (cI, 24, .inl (fun jq => nI (Y jq)))), (mz, .inl (cI, 24, .inl (fun jq => nI (Z jq)))), (mv, .inl (cZ, 2048, .inl (fun jq => bI ((sd_wn n a (fun w => sd_br Y Z q w == 0)) jq)))), (mt, .inl (cI, 10, .inl (sd_Tm n a (fun w => sd_br Y Z q w == 0) T j)))] H → va_S A s.heap H locs → W p l e (headSpec (kX2_learn :: aW) { frames := 5, cells := 0, slots := 0, locals := 108 }).room s m (([.ref om] : List Value).toArray) below meth c H locs 0 0 (MQ below (wQ (some (.int (sd_gp (fun sm => sd_br Y Z q (sd_ac (sd_cl a (sd_T n a (fun w => sd_br Y Z q w == 0) T) sm) n) == 0) (2 ^ sd_ct a n) 0))) D [(om, .inr (2, [.int (nI n), .int (nI a), .int (nI q), .ref my, .ref mz, .int (bI true), .int (if true = true then (if kn = true then sk else -1) else -1), .int (bI (true && (kn && mr))), .int (nI u1), .int (nI u2), .ref mv, .int (nI (sd_pos d v)), .int (nI d), .ref mt])), (my, .inl (cI, 24, .inl (fun jq => nI (Y jq)))), (mz, .inl (cI, 24, .inl (fun jq => nI (Z jq)))), (mv, .inl (cZ, 2048, .inl (fun jq => bI ((sd_wn n a (fun w => sd_br Y Z q w == 0)) jq)))), (mt, .inl (cI, 10, .inl (sd_T n a (fun w => sd_br Y Z q w == 0) T)))] A) (([.ref om] : List Value).toArray) s 0 0 A) (F0 m 29 ls []) by
      exact lq n 0 ls H locs (by omega) hl hP hS
    intro k
    induction k with
    | zero =>
      intro j ls H locs hj hl hP hS
      have hD : va_D A [(om, .inr (2, [.int (nI n), .int (nI a), .int (nI q), .ref my, .ref mz, .int (bI true), .int (if kn = true then sk else -1), .int (bI (kn && mr)), .int (nI u1), .int (nI u2), .ref mv, .int (nI (sd_pos d v)), .int (nI d), .ref mt])), (my, .inl (cI, 24, .inl (fun jq => nI (Y jq)))), (mz, .inl (cI, 24, .inl (fun jq => nI (Z jq)))), (mv, .inl (cZ, 2048, .inl (fun jq => bI ((sd_wn n a (fun w => sd_br Y Z q w == 0)) jq)))), (mt, .inl (cI, 10, .inl (sd_Tm n a (fun w => sd_br Y Z q w == 0) T j)))] := hw_ad hD rfl
      refine lv_iload_n hx hb dX2_learn_29 rfl (lv_at hl 1 rfl) ?_
      refine lv_aload_n hx hb dX2_learn_30 rfl (lv_at hl 0 rfl) ?_
      refine va_get (D := D) (ci := 2) (v := .int (nI n)) (C := RX2) (T := TX2) (N := 14) hx hb ht inX2 hown hK hP 0 rfl rfl 0 (by decide) (ht _ wf_X2_n) (fun _ h9 => h9) rfl dX2_learn_31 ?_
      refine lv_icmp_ge (tgt := 118) hx hb dX2_learn_34 rfl (fun _ => ?_) (fun hc => absurd (show ¬ (n ≤ j) from fun h9 => hc ((nI_leI (by omega) (by omega)).mpr h9)) (by omega))
      obtain rfl : n = j := by omega
      have hP : va_P D clS [(om, .inr (2, [.int (nI n), .int (nI a), .int (nI q), .ref my, .ref mz, .int (bI true), .int (if kn = true then sk else -1), .int (bI (kn && mr)), .int (nI u1), .int (nI u2), .ref mv, .int (nI (sd_pos d v)), .int (nI d), .ref mt])), (my, .inl (cI, 24, .inl (fun jq => nI (Y jq)))), (mz, .inl (cI, 24, .inl (fun jq => nI (Z jq)))), (mv, .inl (cZ, 2048, .inl (fun jq => bI ((sd_wn n a (fun w => sd_br Y Z q w == 0)) jq)))), (mt, .inl (cI, 10, .inl (sd_T n a (fun w => sd_br Y Z q w == 0) T)))] H := hw_cg hP (sd_T n a (fun w => sd_br Y Z q w == 0) T) (q0 := 4) rfl (fun t _ => sd_Tm_n t) rfl
      have hD : va_D A [(om, .inr (2, [.int (nI n), .int (nI a), .int (nI q), .ref my, .ref mz, .int (bI true), .int (if kn = true then sk else -1), .int (bI (kn && mr)), .int (nI u1), .int (nI u2), .ref mv, .int (nI (sd_pos d v)), .int (nI d), .ref mt])), (my, .inl (cI, 24, .inl (fun jq => nI (Y jq)))), (mz, .inl (cI, 24, .inl (fun jq => nI (Z jq)))), (mv, .inl (cZ, 2048, .inl (fun jq => bI ((sd_wn n a (fun w => sd_br Y Z q w == 0)) jq)))), (mt, .inl (cI, 10, .inl (sd_T n a (fun w => sd_br Y Z q w == 0) T)))] := hw_ad hD rfl
      refine lv_aload_n hx hb dX2_learn_118 rfl (lv_at hl 0 rfl) ?_
      refine hw_callW (ws' := [(om, .inr (2, [.int (nI n), .int (nI a), .int (nI q), .ref my, .ref mz, .int (bI true), .int (if true = true then (if kn = true then sk else -1) else -1), .int (bI (true && (kn && mr))), .int (nI u1), .int (nI u2), .ref mv, .int (nI (sd_pos d v)), .int (nI d), .ref mt])), (my, .inl (cI, 24, .inl (fun jq => nI (Y jq)))), (mz, .inl (cI, 24, .inl (fun jq => nI (Z jq)))), (mv, .inl (cZ, 2048, .inl (fun jq => bI ((sd_wn n a (fun w => sd_br Y Z q w == 0)) jq)))), (mt, .inl (cI, 10, .inl (sd_T n a (fun w => sd_br Y Z q w == 0) T)))]) (va_runV (b := om) (As := []) (rest := []) ⟨hx, hb, hml, hown, ht⟩ (m_gap l D cI cZ om my mz mv mt n a q d v u1 u2 true (kn && mr) (if kn = true then sk else -1) Y Z (sd_T n a (fun w => sd_br Y Z q w == 0) T) (sd_wn n a (fun w => sd_br Y Z q w == 0)) ok H.size (mOk_wn n a _ true) hu1 hu2) (cwV 0 ht (gV wm_X2_X2_gap wi_X2_gap ws_X2_gap wn_X2 wc_X2_gap) rfl rfl rfl (by decide +kernel) ⟨Nat.le_of_ble_eq_true rfl, Nat.le_of_ble_eq_true rfl⟩) (wPre_V 0 hP hD hK hN rfl rfl) rfl rfl hl.1 rfl (lv_room (Nat.le_of_ble_eq_true rfl)) dX2_learn_119 ⟨Nat.zero_le _, Nat.zero_le _⟩) hD hS hA rfl (fun H locs hP hD hS => ?_)
      have hP : va_P D clS [(om, .inr (2, [.int (nI n), .int (nI a), .int (nI q), .ref my, .ref mz, .int (bI true), .int (if true = true then (if kn = true then sk else -1) else -1), .int (bI (true && (kn && mr))), .int (nI u1), .int (nI u2), .ref mv, .int (nI (sd_pos d v)), .int (nI d), .ref mt])), (my, .inl (cI, 24, .inl (fun jq => nI (Y jq)))), (mz, .inl (cI, 24, .inl (fun jq => nI (Z jq)))), (mv, .inl (cZ, 2048, .inl (fun jq => bI ((sd_wn n a (fun w => sd_br Y Z q w == 0)) jq)))), (mt, .inl (cI, 10, .inl (sd_T n a (fun w => sd_br Y Z q w == 0) T)))] H := hP
      have hD : va_D A [(om, .inr (2, [.int (nI n), .int (nI a), .int (nI q), .ref my, .ref mz, .int (bI true), .int (if true = true then (if kn = true then sk else -1) else -1), .int (bI (true && (kn && mr))), .int (nI u1), .int (nI u2), .ref mv, .int (nI (sd_pos d v)), .int (nI d), .ref mt])), (my, .inl (cI, 24, .inl (fun jq => nI (Y jq)))), (mz, .inl (cI, 24, .inl (fun jq => nI (Z jq)))), (mv, .inl (cZ, 2048, .inl (fun jq => bI ((sd_wn n a (fun w => sd_br Y Z q w == 0)) jq)))), (mt, .inl (cI, 10, .inl (sd_T n a (fun w => sd_br Y Z q w == 0) T)))] := hD
      refine W.eq (g2 := F0 m 122 ls [.int (sd_gp (fun sm => sd_br Y Z q (sd_ac (sd_cl a (sd_T n a (fun w => sd_br Y Z q w == 0) T) sm) n) == 0) (2 ^ sd_ct a n) 0)]) rfl ?_
      exact W.iret hx hb hr (fun t ht2 _ => ⟨hw_ret (rfl), by rw [ht2]; exact hP, hS.F ht2⟩) hS.2.2 dX2_learn_122
    | succ k ih2 =>
      intro j ls H locs hj hl hP hS
      have hD : va_D A [(om, .inr (2, [.int (nI n), .int (nI a), .int (nI q), .ref my, .ref mz, .int (bI true), .int (if kn = true then sk else -1), .int (bI (kn && mr)), .int (nI u1), .int (nI u2), .ref mv, .int (nI (sd_pos d v)), .int (nI d), .ref mt])), (my, .inl (cI, 24, .inl (fun jq => nI (Y jq)))), (mz, .inl (cI, 24, .inl (fun jq => nI (Z jq)))), (mv, .inl (cZ, 2048, .inl (fun jq => bI ((sd_wn n a (fun w => sd_br Y Z q w == 0)) jq)))), (mt, .inl (cI, 10, .inl (sd_Tm n a (fun w => sd_br Y Z q w == 0) T j)))] := hw_ad hD rfl
      have hct := sd_ct_mono a (v := j) (w := n) (by omega)
      have hp0 := Nat.two_pow_pos (sd_ct a j)
      have h32 := sd_p32 h5 (v := j) (by omega)
      refine lv_iload_n hx hb dX2_learn_29 rfl (lv_at hl 1 rfl) ?_
      refine lv_aload_n hx hb dX2_learn_30 rfl (lv_at hl 0 rfl) ?_
      refine va_get (D := D) (ci := 2) (v := .int (nI n)) (C := RX2) (T := TX2) (N := 14) hx hb ht inX2 hown hK hP 0 rfl rfl 0 (by decide) (ht _ wf_X2_n) (fun _ h9 => h9) rfl dX2_learn_31 ?_
      refine lv_icmp_ge (tgt := 118) hx hb dX2_learn_34 rfl (fun hc => absurd (show n ≤ j from (nI_leI (by omega) (by omega)).mp hc) (by omega)) (fun _ => ?_)
      refine lv_iconst (v := nI 0) hx hb dX2_learn_37 (by decide) ?_
      refine lv_istore_n hx hb dX2_learn_38 rfl hl (by decide) rfl (fun ls hl => ?_)
      have hl : lv_has ls 4 [(2, .int (nI 0)), (0, .ref om), (1, .int (nI j))] := hl
      have hl : lv_has ls 4 [(0, .ref om), (1, .int (nI j)), (2, .int (nI 0))] := lv_sub hl [1, 2, 0] rfl
      by_cases hA9 : a.testBit j = true
      · refine lv_iload_n hx hb dX2_learn_39 rfl (lv_at hl 2 rfl) ?_
        refine lv_iconst (v := nI 1) hx hb dX2_learn_40 (by decide) ?_
        refine lv_aload_n hx hb dX2_learn_41 rfl (lv_at hl 0 rfl) ?_
        refine lv_iload_n hx hb dX2_learn_42 rfl (lv_at hl 1 rfl) ?_
        refine hw_callR (va_runV (b := om) (As := [.int (nI j)]) (rest := [.int (nI 1), .int (nI 0)]) ⟨hx, hb, hml, hown, ht⟩ (m_before l D cI cZ om my mz mv mt n a q d v u1 u2 true (kn && mr) (if kn = true then sk else -1) Y Z (sd_Tm n a (fun w => sd_br Y Z q w == 0) T j) (sd_wn n a (fun w => sd_br Y Z q w == 0)) ok j (by omega)) (cwV 1 ht (gV wm_X2_X2_before wi_X2_before ws_X2_before wn_X2 wc_X2_before) rfl rfl rfl (by decide +kernel) ⟨Nat.le_of_ble_eq_true rfl, Nat.le_of_ble_eq_true rfl⟩) (rPre_V 0 hP hK hN rfl rfl) rfl rfl hl.1 rfl (lv_room (Nat.le_of_ble_eq_true rfl)) dX2_learn_43 ⟨Nat.zero_le _, Nat.zero_le _⟩) ?_
        refine lv_ishl hx hb dX2_learn_46 ?_
        refine lv_nm (y := nI (2 ^ (sd_ct a j))) (hw_shl1' (by omega)) ?_
        refine lv_icmp_ge (tgt := 112) hx hb dX2_learn_47 rfl (fun hc => absurd (show 2 ^ (sd_ct a j) ≤ 0 from (nI_leI (by omega) (by omega)).mp hc) (by omega)) (fun _ => ?_)
        refine lv_aload_n hx hb dX2_learn_50 rfl (lv_at hl 0 rfl) ?_
        refine lv_iload_n hx hb dX2_learn_51 rfl (lv_at hl 1 rfl) ?_
        refine hw_callR (va_runV (b := om) (As := [.int (nI j)]) (rest := []) ⟨hx, hb, hml, hown, ht⟩ (m_isAdams l D cI cZ om my mz mv mt n a q d v u1 u2 true (kn && mr) (if kn = true then sk else -1) Y Z (sd_Tm n a (fun w => sd_br Y Z q w == 0) T j) (sd_wn n a (fun w => sd_br Y Z q w == 0)) ok j (by omega)) (cwV 1 ht (gV wm_X2_X2_isAdams wi_X2_isAdams ws_X2_isAdams wn_X2 wc_X2_isAdams) rfl rfl rfl (by decide +kernel) ⟨Nat.le_of_ble_eq_true rfl, Nat.le_of_ble_eq_true rfl⟩) (rPre_V 0 hP hK hN rfl rfl) rfl rfl hl.1 rfl (lv_room (Nat.le_of_ble_eq_true rfl)) dX2_learn_52 ⟨Nat.zero_le _, Nat.zero_le _⟩) ?_
        refine lv_if_ne (tgt := 112) hx hb dX2_learn_55 rfl (fun h1 => ?_) (fun h1 => ?_)
        · have h1 : (a.testBit j) = true := bI_ne0 h1
          have hP : va_P D clS [(om, .inr (2, [.int (nI n), .int (nI a), .int (nI q), .ref my, .ref mz, .int (bI true), .int (if kn = true then sk else -1), .int (bI (kn && mr)), .int (nI u1), .int (nI u2), .ref mv, .int (nI (sd_pos d v)), .int (nI d), .ref mt])), (my, .inl (cI, 24, .inl (fun jq => nI (Y jq)))), (mz, .inl (cI, 24, .inl (fun jq => nI (Z jq)))), (mv, .inl (cZ, 2048, .inl (fun jq => bI ((sd_wn n a (fun w => sd_br Y Z q w == 0)) jq)))), (mt, .inl (cI, 10, .inl (sd_Tm n a (fun w => sd_br Y Z q w == 0) T (j + 1))))] H := hw_cg hP (sd_Tm n a (fun w => sd_br Y Z q w == 0) T (j + 1)) (q0 := 4) rfl (fun t _ => sd_Tm_a (by omega) hA9 t) rfl
          have hD : va_D A [(om, .inr (2, [.int (nI n), .int (nI a), .int (nI q), .ref my, .ref mz, .int (bI true), .int (if kn = true then sk else -1), .int (bI (kn && mr)), .int (nI u1), .int (nI u2), .ref mv, .int (nI (sd_pos d v)), .int (nI d), .ref mt])), (my, .inl (cI, 24, .inl (fun jq => nI (Y jq)))), (mz, .inl (cI, 24, .inl (fun jq => nI (Z jq)))), (mv, .inl (cZ, 2048, .inl (fun jq => bI ((sd_wn n a (fun w => sd_br Y Z q w == 0)) jq)))), (mt, .inl (cI, 10, .inl (sd_Tm n a (fun w => sd_br Y Z q w == 0) T (j + 1))))] := hw_ad hD rfl
          refine lv_iinc (k := 1) (v := nI (j + 1)) hx hb dX2_learn_112 hl rfl (hw_inc _) (by decide) rfl (fun ls hl => ?_)
          have hl : lv_has ls 4 [(1, .int (nI (j + 1))), (0, .ref om), (2, .int (nI 0))] := hl
          refine lv_goto (tgt := 29) hx hb dX2_learn_115 rfl ?_
          have hl : lv_has ls 4 [(0, .ref om), (1, .int (nI (j + 1)))] := lv_sub hl [1, 0] rfl
          exact ih2 (j + 1) ls H locs (by omega) hl hP hS
        · have h1 : (a.testBit j) = false := (bI_eq0 _).mp h1
          exact absurd (hA9.symm.trans h1) (by decide)
      · have hA9 : a.testBit j = false := by simpa using hA9
        have hP : va_P D clS [(om, .inr (2, [.int (nI n), .int (nI a), .int (nI q), .ref my, .ref mz, .int (bI true), .int (if kn = true then sk else -1), .int (bI (kn && mr)), .int (nI u1), .int (nI u2), .ref mv, .int (nI (sd_pos d v)), .int (nI d), .ref mt])), (my, .inl (cI, 24, .inl (fun jq => nI (Y jq)))), (mz, .inl (cI, 24, .inl (fun jq => nI (Z jq)))), (mv, .inl (cZ, 2048, .inl (fun jq => bI ((sd_wn n a (fun w => sd_br Y Z q w == 0)) jq)))), (mt, .inl (cI, 10, .inl (upd (sd_Tm n a (fun w => sd_br Y Z q w == 0) T j) j (nI (sd_ob (sd_lb n a (fun w => sd_br Y Z q w == 0) j) 0)))))] H := hw_cg hP (upd (sd_Tm n a (fun w => sd_br Y Z q w == 0) T j) j (nI (sd_ob (sd_lb n a (fun w => sd_br Y Z q w == 0) j) 0))) (q0 := 4) rfl (fun t _ => sd_Tm_e0 (by omega) _ t) rfl
        have hD : va_D A [(om, .inr (2, [.int (nI n), .int (nI a), .int (nI q), .ref my, .ref mz, .int (bI true), .int (if kn = true then sk else -1), .int (bI (kn && mr)), .int (nI u1), .int (nI u2), .ref mv, .int (nI (sd_pos d v)), .int (nI d), .ref mt])), (my, .inl (cI, 24, .inl (fun jq => nI (Y jq)))), (mz, .inl (cI, 24, .inl (fun jq => nI (Z jq)))), (mv, .inl (cZ, 2048, .inl (fun jq => bI ((sd_wn n a (fun w => sd_br Y Z q w == 0)) jq)))), (mt, .inl (cI, 10, .inl (upd (sd_Tm n a (fun w => sd_br Y Z q w == 0) T j) j (nI (sd_ob (sd_lb n a (fun w => sd_br Y Z q w == 0) j) 0)))))] := hw_ad hD rfl
        suffices lr : ∀ k2 : Nat, ∀ (i : Nat) (ls : Array Slot) (H : Heap) (locs : List Loc), (i + k2 = 2 ^ sd_ct a j) → lv_has ls 4 [(0, .ref om), (1, .int (nI j)), (2, .int (nI i))] → va_P D clS [(om, .inr (2, [.int (nI n), .int (nI a), .int (nI q), .ref my, .ref mz, .int (bI true), .int (if kn = true then sk else -1), .int (bI (kn && mr)), .int (nI u1), .int (nI u2), .ref mv, .int (nI (sd_pos d v)), .int (nI d), .ref mt])), (my, .inl (cI, 24, .inl (fun jq => nI (Y jq)))), (mz, .inl (cI, 24, .inl (fun jq => nI (Z jq)))), (mv, .inl (cZ, 2048, .inl (fun jq => bI ((sd_wn n a (fun w => sd_br Y Z q w == 0)) jq)))), (mt, .inl (cI, 10, .inl (upd (sd_Tm n a (fun w => sd_br Y Z q w == 0) T j) j (nI (sd_ob (sd_lb n a (fun w => sd_br Y Z q w == 0) j) i)))))] H → va_S A s.heap H locs → W p l e (headSpec (kX2_learn :: aW) { frames := 5, cells := 0, slots := 0, locals := 108 }).room s m (([.ref om] : List Value).toArray) below meth c H locs 0 0 (MQ below (wQ (some (.int (sd_gp (fun sm => sd_br Y Z q (sd_ac (sd_cl a (sd_T n a (fun w => sd_br Y Z q w == 0) T) sm) n) == 0) (2 ^ sd_ct a n) 0))) D [(om, .inr (2, [.int (nI n), .int (nI a), .int (nI q), .ref my, .ref mz, .int (bI true), .int (if true = true then (if kn = true then sk else -1) else -1), .int (bI (true && (kn && mr))), .int (nI u1), .int (nI u2), .ref mv, .int (nI (sd_pos d v)), .int (nI d), .ref mt])), (my, .inl (cI, 24, .inl (fun jq => nI (Y jq)))), (mz, .inl (cI, 24, .inl (fun jq => nI (Z jq)))), (mv, .inl (cZ, 2048, .inl (fun jq => bI ((sd_wn n a (fun w => sd_br Y Z q w == 0)) jq)))), (mt, .inl (cI, 10, .inl (sd_T n a (fun w => sd_br Y Z q w == 0) T)))] A) (([.ref om] : List Value).toArray) s 0 0 A) (F0 m 39 ls []) by
          exact lr (2 ^ sd_ct a j) 0 ls H locs (by omega) hl hP hS
        intro k2
        induction k2 with
        | zero =>
          intro i ls H locs hi hl hP hS
          have hD : va_D A [(om, .inr (2, [.int (nI n), .int (nI a), .int (nI q), .ref my, .ref mz, .int (bI true), .int (if kn = true then sk else -1), .int (bI (kn && mr)), .int (nI u1), .int (nI u2), .ref mv, .int (nI (sd_pos d v)), .int (nI d), .ref mt])), (my, .inl (cI, 24, .inl (fun jq => nI (Y jq)))), (mz, .inl (cI, 24, .inl (fun jq => nI (Z jq)))), (mv, .inl (cZ, 2048, .inl (fun jq => bI ((sd_wn n a (fun w => sd_br Y Z q w == 0)) jq)))), (mt, .inl (cI, 10, .inl (upd (sd_Tm n a (fun w => sd_br Y Z q w == 0) T j) j (nI (sd_ob (sd_lb n a (fun w => sd_br Y Z q w == 0) j) i)))))] := hw_ad hD rfl
          refine lv_iload_n hx hb dX2_learn_39 rfl (lv_at hl 2 rfl) ?_
          refine lv_iconst (v := nI 1) hx hb dX2_learn_40 (by decide) ?_
          refine lv_aload_n hx hb dX2_learn_41 rfl (lv_at hl 0 rfl) ?_
          refine lv_iload_n hx hb dX2_learn_42 rfl (lv_at hl 1 rfl) ?_
          refine hw_callR (va_runV (b := om) (As := [.int (nI j)]) (rest := [.int (nI 1), .int (nI i)]) ⟨hx, hb, hml, hown, ht⟩ (m_before l D cI cZ om my mz mv mt n a q d v u1 u2 true (kn && mr) (if kn = true then sk else -1) Y Z (upd (sd_Tm n a (fun w => sd_br Y Z q w == 0) T j) j (nI (sd_ob (sd_lb n a (fun w => sd_br Y Z q w == 0) j) i))) (sd_wn n a (fun w => sd_br Y Z q w == 0)) ok j (by omega)) (cwV 1 ht (gV wm_X2_X2_before wi_X2_before ws_X2_before wn_X2 wc_X2_before) rfl rfl rfl (by decide +kernel) ⟨Nat.le_of_ble_eq_true rfl, Nat.le_of_ble_eq_true rfl⟩) (rPre_V 0 hP hK hN rfl rfl) rfl rfl hl.1 rfl (lv_room (Nat.le_of_ble_eq_true rfl)) dX2_learn_43 ⟨Nat.zero_le _, Nat.zero_le _⟩) ?_
          refine lv_ishl hx hb dX2_learn_46 ?_
          refine lv_nm (y := nI (2 ^ (sd_ct a j))) (hw_shl1' (by omega)) ?_
          refine lv_icmp_ge (tgt := 112) hx hb dX2_learn_47 rfl (fun _ => ?_) (fun hc => absurd (show ¬ (2 ^ (sd_ct a j) ≤ i) from fun h9 => hc ((nI_leI (by omega) (by omega)).mpr h9)) (by omega))
          obtain rfl : i = 2 ^ sd_ct a j := by omega
          have hP : va_P D clS [(om, .inr (2, [.int (nI n), .int (nI a), .int (nI q), .ref my, .ref mz, .int (bI true), .int (if kn = true then sk else -1), .int (bI (kn && mr)), .int (nI u1), .int (nI u2), .ref mv, .int (nI (sd_pos d v)), .int (nI d), .ref mt])), (my, .inl (cI, 24, .inl (fun jq => nI (Y jq)))), (mz, .inl (cI, 24, .inl (fun jq => nI (Z jq)))), (mv, .inl (cZ, 2048, .inl (fun jq => bI ((sd_wn n a (fun w => sd_br Y Z q w == 0)) jq)))), (mt, .inl (cI, 10, .inl (sd_Tm n a (fun w => sd_br Y Z q w == 0) T (j + 1))))] H := hw_cg hP (sd_Tm n a (fun w => sd_br Y Z q w == 0) T (j + 1)) (q0 := 4) rfl (fun t _ => sd_Tm_e1 (by omega) hA9 t) rfl
          have hD : va_D A [(om, .inr (2, [.int (nI n), .int (nI a), .int (nI q), .ref my, .ref mz, .int (bI true), .int (if kn = true then sk else -1), .int (bI (kn && mr)), .int (nI u1), .int (nI u2), .ref mv, .int (nI (sd_pos d v)), .int (nI d), .ref mt])), (my, .inl (cI, 24, .inl (fun jq => nI (Y jq)))), (mz, .inl (cI, 24, .inl (fun jq => nI (Z jq)))), (mv, .inl (cZ, 2048, .inl (fun jq => bI ((sd_wn n a (fun w => sd_br Y Z q w == 0)) jq)))), (mt, .inl (cI, 10, .inl (sd_Tm n a (fun w => sd_br Y Z q w == 0) T (j + 1))))] := hw_ad hD rfl
          refine lv_iinc (k := 1) (v := nI (j + 1)) hx hb dX2_learn_112 hl rfl (hw_inc _) (by decide) rfl (fun ls hl => ?_)
          have hl : lv_has ls 4 [(1, .int (nI (j + 1))), (0, .ref om), (2, .int (nI (2 ^ sd_ct a j)))] := hl
          refine lv_goto (tgt := 29) hx hb dX2_learn_115 rfl ?_
          have hl : lv_has ls 4 [(0, .ref om), (1, .int (nI (j + 1)))] := lv_sub hl [1, 0] rfl
          exact ih2 (j + 1) ls H locs (by omega) hl hP hS
        | succ k2 ih3 =>
          intro i ls H locs hi hl hP hS
          have hD : va_D A [(om, .inr (2, [.int (nI n), .int (nI a), .int (nI q), .ref my, .ref mz, .int (bI true), .int (if kn = true then sk else -1), .int (bI (kn && mr)), .int (nI u1), .int (nI u2), .ref mv, .int (nI (sd_pos d v)), .int (nI d), .ref mt])), (my, .inl (cI, 24, .inl (fun jq => nI (Y jq)))), (mz, .inl (cI, 24, .inl (fun jq => nI (Z jq)))), (mv, .inl (cZ, 2048, .inl (fun jq => bI ((sd_wn n a (fun w => sd_br Y Z q w == 0)) jq)))), (mt, .inl (cI, 10, .inl (upd (sd_Tm n a (fun w => sd_br Y Z q w == 0) T j) j (nI (sd_ob (sd_lb n a (fun w => sd_br Y Z q w == 0) j) i)))))] := hw_ad hD rfl
          refine lv_iload_n hx hb dX2_learn_39 rfl (lv_at hl 2 rfl) ?_
          refine lv_iconst (v := nI 1) hx hb dX2_learn_40 (by decide) ?_
          refine lv_aload_n hx hb dX2_learn_41 rfl (lv_at hl 0 rfl) ?_
          refine lv_iload_n hx hb dX2_learn_42 rfl (lv_at hl 1 rfl) ?_
          refine hw_callR (va_runV (b := om) (As := [.int (nI j)]) (rest := [.int (nI 1), .int (nI i)]) ⟨hx, hb, hml, hown, ht⟩ (m_before l D cI cZ om my mz mv mt n a q d v u1 u2 true (kn && mr) (if kn = true then sk else -1) Y Z (upd (sd_Tm n a (fun w => sd_br Y Z q w == 0) T j) j (nI (sd_ob (sd_lb n a (fun w => sd_br Y Z q w == 0) j) i))) (sd_wn n a (fun w => sd_br Y Z q w == 0)) ok j (by omega)) (cwV 1 ht (gV wm_X2_X2_before wi_X2_before ws_X2_before wn_X2 wc_X2_before) rfl rfl rfl (by decide +kernel) ⟨Nat.le_of_ble_eq_true rfl, Nat.le_of_ble_eq_true rfl⟩) (rPre_V 0 hP hK hN rfl rfl) rfl rfl hl.1 rfl (lv_room (Nat.le_of_ble_eq_true rfl)) dX2_learn_43 ⟨Nat.zero_le _, Nat.zero_le _⟩) ?_
          refine lv_ishl hx hb dX2_learn_46 ?_
          refine lv_nm (y := nI (2 ^ (sd_ct a j))) (hw_shl1' (by omega)) ?_
          refine lv_icmp_ge (tgt := 112) hx hb dX2_learn_47 rfl (fun hc => absurd (show 2 ^ (sd_ct a j) ≤ i from (nI_leI (by omega) (by omega)).mp hc) (by omega)) (fun _ => ?_)
          refine lv_aload_n hx hb dX2_learn_50 rfl (lv_at hl 0 rfl) ?_
          refine lv_iload_n hx hb dX2_learn_51 rfl (lv_at hl 1 rfl) ?_
          refine hw_callR (va_runV (b := om) (As := [.int (nI j)]) (rest := []) ⟨hx, hb, hml, hown, ht⟩ (m_isAdams l D cI cZ om my mz mv mt n a q d v u1 u2 true (kn && mr) (if kn = true then sk else -1) Y Z (upd (sd_Tm n a (fun w => sd_br Y Z q w == 0) T j) j (nI (sd_ob (sd_lb n a (fun w => sd_br Y Z q w == 0) j) i))) (sd_wn n a (fun w => sd_br Y Z q w == 0)) ok j (by omega)) (cwV 1 ht (gV wm_X2_X2_isAdams wi_X2_isAdams ws_X2_isAdams wn_X2 wc_X2_isAdams) rfl rfl rfl (by decide +kernel) ⟨Nat.le_of_ble_eq_true rfl, Nat.le_of_ble_eq_true rfl⟩) (rPre_V 0 hP hK hN rfl rfl) rfl rfl hl.1 rfl (lv_room (Nat.le_of_ble_eq_true rfl)) dX2_learn_52 ⟨Nat.zero_le _, Nat.zero_le _⟩) ?_
          refine lv_nm (y := bI false) (congrArg bI hA9) ?_
          refine lv_if_ne (tgt := 112) hx hb dX2_learn_55 rfl (fun hc => absurd (show false = true from bI_ne0 hc) (by decide)) (fun _ => ?_)
          refine lv_aload_n hx hb dX2_learn_58 rfl (lv_at hl 0 rfl) ?_
          refine lv_iload_n hx hb dX2_learn_59 rfl (lv_at hl 2 rfl) ?_
          have hpk := sd_pos_k (v := sd_ac (sd_cl a (upd (sd_Tm n a (fun w => sd_br Y Z q w == 0) T j) j (nI (sd_ob (sd_lb n a (fun w => sd_br Y Z q w == 0) j) i))) i) n) (Nat.le_refl n) h2n
          have hac := sd_ac_lt (sd_li a (sd_bm n a (fun w => sd_br Y Z q w == 0)) i) j
          refine hw_callR (va_runV (b := om) (As := [.int (nI i)]) (rest := []) ⟨hx, hb, hml, hown, ht⟩ (m_reached l D cI cZ om my mz mv mt n a q d v u1 u2 true (kn && mr) (if kn = true then sk else -1) Y Z (upd (sd_Tm n a (fun w => sd_br Y Z q w == 0) T j) j (nI (sd_ob (sd_lb n a (fun w => sd_br Y Z q w == 0) j) i))) (sd_wn n a (fun w => sd_br Y Z q w == 0)) ok i (by omega)) (cwV 1 ht (gV wm_X2_X2_reached wi_X2_reached ws_X2_reached wn_X2 wc_X2_reached) rfl rfl rfl (by decide +kernel) ⟨Nat.le_of_ble_eq_true rfl, Nat.le_of_ble_eq_true rfl⟩) (rPre_V 0 hP hK hN rfl rfl) rfl rfl hl.1 rfl (lv_room (Nat.le_of_ble_eq_true rfl)) dX2_learn_60 ⟨Nat.zero_le _, Nat.zero_le _⟩) ?_
          refine lv_aload_n hx hb dX2_learn_63 rfl (lv_at hl 0 rfl) ?_
          refine va_get (D := D) (ci := 2) (v := .int (nI n)) (C := RX2) (T := TX2) (N := 14) hx hb ht inX2 hown hK hP 0 rfl rfl 0 (by decide) (ht _ wf_X2_n) (fun _ h9 => h9) rfl dX2_learn_64 ?_
          refine lv_iload_n hx hb dX2_learn_67 rfl (lv_at hl 1 rfl) ?_
          refine lv_isub hx hb dX2_learn_68 ?_
          refine lv_nm (y := nI (n - j)) (pk_sub (by omega)) ?_
          refine lv_ishr hx hb dX2_learn_69 ?_
          refine lv_nm (y := nI (sd_pos j (sd_ac (sd_li a (sd_bm n a (fun w => sd_br Y Z q w == 0)) i) j))) ((hw_shr (by omega) (by omega)).trans (congrArg nI (sd_at h5 (by omega) i _))) ?_
          refine lv_istore_n hx hb dX2_learn_70 rfl hl (by decide) rfl (fun ls hl => ?_)
          have hl : lv_has ls 4 [(3, .int (nI (sd_pos j (sd_ac (sd_li a (sd_bm n a (fun w => sd_br Y Z q w == 0)) i) j)))), (0, .ref om), (1, .int (nI j)), (2, .int (nI i))] := hl
          refine lv_aload_n hx hb dX2_learn_71 rfl (lv_at hl 1 rfl) ?_
          refine va_get (D := D) (ci := 2) (v := .ref mt) (C := RX2) (T := TX2) (N := 14) hx hb ht inX2 hown hK hP 0 rfl rfl 13 (by decide) (ht _ wf_X2_tables) (fun _ h9 => h9) rfl dX2_learn_72 ?_
          refine lv_iload_n hx hb dX2_learn_75 rfl (lv_at hl 2 rfl) ?_
          refine lv_aload_n hx hb dX2_learn_76 rfl (lv_at hl 1 rfl) ?_
          refine lv_iload_n hx hb dX2_learn_77 rfl (lv_at hl 0 rfl) ?_
          refine lv_iload_n hx hb dX2_learn_78 rfl (lv_at hl 2 rfl) ?_
          refine hw_callR (va_runV (b := om) (As := [.int (nI (sd_pos j (sd_ac (sd_li a (sd_bm n a (fun w => sd_br Y Z q w == 0)) i) j))), .int (nI j)]) (rest := [.int (nI j), .ref mt]) ⟨hx, hb, hml, hown, ht⟩ (m_move l D cI cZ om my mz mv mt n a q d v u1 u2 true (kn && mr) (if kn = true then sk else -1) Y Z (upd (sd_Tm n a (fun w => sd_br Y Z q w == 0) T j) j (nI (sd_ob (sd_lb n a (fun w => sd_br Y Z q w == 0) j) i))) (sd_wn n a (fun w => sd_br Y Z q w == 0)) ok j (sd_ac (sd_li a (sd_bm n a (fun w => sd_br Y Z q w == 0)) i) j) (by omega) hac) (cwV 2 ht (gV wm_X2_X2_move wi_X2_move ws_X2_move wn_X2 wc_X2_move) rfl rfl rfl (by decide +kernel) ⟨Nat.le_of_ble_eq_true rfl, Nat.le_of_ble_eq_true rfl⟩) (rPre_V 0 hP hK hN rfl rfl) rfl rfl hl.1 rfl (lv_room (Nat.le_of_ble_eq_true rfl)) dX2_learn_79 ⟨Nat.zero_le _, Nat.zero_le _⟩) ?_
          refine lv_nm (y := bI (sd_lb n a (fun w => sd_br Y Z q w == 0) j i)) (rfl) ?_
          refine lv_iconst (v := nI 1) hx hb dX2_learn_82 (by decide) ?_
          suffices mk9 : W p l e (headSpec (kX2_learn :: aW) { frames := 5, cells := 0, slots := 0, locals := 108 }).room s m (([.ref om] : List Value).toArray) below meth c H locs 0 0 (MQ below (wQ (some (.int (sd_gp (fun sm => sd_br Y Z q (sd_ac (sd_cl a (sd_T n a (fun w => sd_br Y Z q w == 0) T) sm) n) == 0) (2 ^ sd_ct a n) 0))) D [(om, .inr (2, [.int (nI n), .int (nI a), .int (nI q), .ref my, .ref mz, .int (bI true), .int (if true = true then (if kn = true then sk else -1) else -1), .int (bI (true && (kn && mr))), .int (nI u1), .int (nI u2), .ref mv, .int (nI (sd_pos d v)), .int (nI d), .ref mt])), (my, .inl (cI, 24, .inl (fun jq => nI (Y jq)))), (mz, .inl (cI, 24, .inl (fun jq => nI (Z jq)))), (mv, .inl (cZ, 2048, .inl (fun jq => bI ((sd_wn n a (fun w => sd_br Y Z q w == 0)) jq)))), (mt, .inl (cI, 10, .inl (sd_T n a (fun w => sd_br Y Z q w == 0) T)))] A) (([.ref om] : List Value).toArray) s 0 0 A) (F0 m 105 ls [.int (nI (sd_ob (sd_lb n a (fun w => sd_br Y Z q w == 0) j) (i + 1))), .int (nI j), .ref mt]) by
            refine lv_icmp_ne (tgt := 99) hx hb dX2_learn_83 rfl (fun h1 => ?_) (fun h1 => ?_)
            · have h1 : (sd_lb n a (fun w => sd_br Y Z q w == 0) j i) = false := bI_ne1 h1
              refine lv_aload_n hx hb dX2_learn_99 rfl (lv_at hl 1 rfl) ?_
              refine va_get (D := D) (ci := 2) (v := .ref mt) (C := RX2) (T := TX2) (N := 14) hx hb ht inX2 hown hK hP 0 rfl rfl 13 (by decide) (ht _ wf_X2_tables) (fun _ h9 => h9) rfl dX2_learn_100 ?_
              refine lv_iload_n hx hb dX2_learn_103 rfl (lv_at hl 2 rfl) ?_
              refine na_iald (f := upd (sd_Tm n a (fun w => sd_br Y Z q w == 0) T j) j (nI (sd_ob (sd_lb n a (fun w => sd_br Y Z q w == 0) j) i))) hx hb hK hP 4 0 rfl rfl (j := j) (by omega) (by omega) dX2_learn_104 ?_
              refine lv_nm (y := nI (sd_ob (sd_lb n a (fun w => sd_br Y Z q w == 0) j) i)) (pk_us) ?_
              refine lv_nm (y := nI (sd_ob (sd_lb n a (fun w => sd_br Y Z q w == 0) j) (i + 1))) (congrArg nI (by rw [sd_ob_s, h1]; simp)) ?_
              exact mk9
            · have h1 : (sd_lb n a (fun w => sd_br Y Z q w == 0) j i) = true := (bI_eq1 _).mp h1
              refine lv_aload_n hx hb dX2_learn_86 rfl (lv_at hl 1 rfl) ?_
              refine va_get (D := D) (ci := 2) (v := .ref mt) (C := RX2) (T := TX2) (N := 14) hx hb ht inX2 hown hK hP 0 rfl rfl 13 (by decide) (ht _ wf_X2_tables) (fun _ h9 => h9) rfl dX2_learn_87 ?_
              refine lv_iload_n hx hb dX2_learn_90 rfl (lv_at hl 2 rfl) ?_
              refine na_iald (f := upd (sd_Tm n a (fun w => sd_br Y Z q w == 0) T j) j (nI (sd_ob (sd_lb n a (fun w => sd_br Y Z q w == 0) j) i))) hx hb hK hP 4 0 rfl rfl (j := j) (by omega) (by omega) dX2_learn_91 ?_
              refine lv_nm (y := nI (sd_ob (sd_lb n a (fun w => sd_br Y Z q w == 0) j) i)) (pk_us) ?_
              refine lv_iconst (v := nI 1) hx hb dX2_learn_92 (by decide) ?_
              refine lv_iload_n hx hb dX2_learn_93 rfl (lv_at hl 3 rfl) ?_
              refine lv_ishl hx hb dX2_learn_94 ?_
              refine lv_nm (y := nI (2 ^ i)) (hw_shl1' (by omega)) ?_
              refine lv_ior hx hb dX2_learn_95 ?_
              refine lv_nm (y := nI ((sd_ob (sd_lb n a (fun w => sd_br Y Z q w == 0) j) i) ||| (2 ^ i))) (hw_or _ _) ?_
              refine lv_nm (y := nI (sd_ob (sd_lb n a (fun w => sd_br Y Z q w == 0) j) (i + 1))) (congrArg nI (by rw [← sd_ob_or, h1]; simp)) ?_
              refine lv_goto (tgt := 105) hx hb dX2_learn_96 rfl ?_
              exact mk9
          refine na_iast (f := upd (sd_Tm n a (fun w => sd_br Y Z q w == 0) T j) j (nI (sd_ob (sd_lb n a (fun w => sd_br Y Z q w == 0) j) i))) (x := nI (sd_ob (sd_lb n a (fun w => sd_br Y Z q w == 0) j) (i + 1))) hx hb hK hP hD hS 4 0 rfl rfl (j := j) (by omega) (by omega) dX2_learn_105 (fun H locs hP hD hS => ?_)
          have hP : va_P D clS [(om, .inr (2, [.int (nI n), .int (nI a), .int (nI q), .ref my, .ref mz, .int (bI true), .int (if kn = true then sk else -1), .int (bI (kn && mr)), .int (nI u1), .int (nI u2), .ref mv, .int (nI (sd_pos d v)), .int (nI d), .ref mt])), (my, .inl (cI, 24, .inl (fun jq => nI (Y jq)))), (mz, .inl (cI, 24, .inl (fun jq => nI (Z jq)))), (mv, .inl (cZ, 2048, .inl (fun jq => bI ((sd_wn n a (fun w => sd_br Y Z q w == 0)) jq)))), (mt, .inl (cI, 10, .inl (upd (upd (sd_Tm n a (fun w => sd_br Y Z q w == 0) T j) j (nI (sd_ob (sd_lb n a (fun w => sd_br Y Z q w == 0) j) i))) j (nI (sd_ob (sd_lb n a (fun w => sd_br Y Z q w == 0) j) (i + 1))))))] H := hP
          have hD : va_D A [(om, .inr (2, [.int (nI n), .int (nI a), .int (nI q), .ref my, .ref mz, .int (bI true), .int (if kn = true then sk else -1), .int (bI (kn && mr)), .int (nI u1), .int (nI u2), .ref mv, .int (nI (sd_pos d v)), .int (nI d), .ref mt])), (my, .inl (cI, 24, .inl (fun jq => nI (Y jq)))), (mz, .inl (cI, 24, .inl (fun jq => nI (Z jq)))), (mv, .inl (cZ, 2048, .inl (fun jq => bI ((sd_wn n a (fun w => sd_br Y Z q w == 0)) jq)))), (mt, .inl (cI, 10, .inl (upd (upd (sd_Tm n a (fun w => sd_br Y Z q w == 0) T j) j (nI (sd_ob (sd_lb n a (fun w => sd_br Y Z q w == 0) j) i))) j (nI (sd_ob (sd_lb n a (fun w => sd_br Y Z q w == 0) j) (i + 1))))))] := hD
          have hP : va_P D clS [(om, .inr (2, [.int (nI n), .int (nI a), .int (nI q), .ref my, .ref mz, .int (bI true), .int (if kn = true then sk else -1), .int (bI (kn && mr)), .int (nI u1), .int (nI u2), .ref mv, .int (nI (sd_pos d v)), .int (nI d), .ref mt])), (my, .inl (cI, 24, .inl (fun jq => nI (Y jq)))), (mz, .inl (cI, 24, .inl (fun jq => nI (Z jq)))), (mv, .inl (cZ, 2048, .inl (fun jq => bI ((sd_wn n a (fun w => sd_br Y Z q w == 0)) jq)))), (mt, .inl (cI, 10, .inl (upd (sd_Tm n a (fun w => sd_br Y Z q w == 0) T j) j (nI (sd_ob (sd_lb n a (fun w => sd_br Y Z q w == 0) j) (i + 1))))))] H := hw_cg hP (upd (sd_Tm n a (fun w => sd_br Y Z q w == 0) T j) j (nI (sd_ob (sd_lb n a (fun w => sd_br Y Z q w == 0) j) (i + 1)))) (q0 := 4) rfl (fun t _ => sd_uu _ _ rfl t) rfl
          have hD : va_D A [(om, .inr (2, [.int (nI n), .int (nI a), .int (nI q), .ref my, .ref mz, .int (bI true), .int (if kn = true then sk else -1), .int (bI (kn && mr)), .int (nI u1), .int (nI u2), .ref mv, .int (nI (sd_pos d v)), .int (nI d), .ref mt])), (my, .inl (cI, 24, .inl (fun jq => nI (Y jq)))), (mz, .inl (cI, 24, .inl (fun jq => nI (Z jq)))), (mv, .inl (cZ, 2048, .inl (fun jq => bI ((sd_wn n a (fun w => sd_br Y Z q w == 0)) jq)))), (mt, .inl (cI, 10, .inl (upd (sd_Tm n a (fun w => sd_br Y Z q w == 0) T j) j (nI (sd_ob (sd_lb n a (fun w => sd_br Y Z q w == 0) j) (i + 1))))))] := hw_ad hD rfl
          refine lv_iinc (k := 3) (v := nI (i + 1)) hx hb dX2_learn_106 hl rfl (hw_inc _) (by decide) rfl (fun ls hl => ?_)
          have hl : lv_has ls 4 [(2, .int (nI (i + 1))), (3, .int (nI (sd_pos j (sd_ac (sd_li a (sd_bm n a (fun w => sd_br Y Z q w == 0)) i) j)))), (0, .ref om), (1, .int (nI j))] := hl
          refine lv_goto (tgt := 39) hx hb dX2_learn_109 rfl ?_
          have hl : lv_has ls 4 [(0, .ref om), (1, .int (nI j)), (2, .int (nI (i + 1)))] := lv_sub hl [2, 3, 0] rfl
          exact ih3 (i + 1) ls H locs (by omega) hl hP hS
  | succ k ih =>
    intro i F ls H locs hi hF hF2 hl hP hS
    have hD : va_D A [(om, .inr (2, [.int (nI n), .int (nI a), .int (nI q), .ref my, .ref mz, .int (bI true), .int (if kn = true then sk else -1), .int (bI (kn && mr)), .int (nI u1), .int (nI u2), .ref mv, .int (nI (sd_pos d v)), .int (nI d), .ref mt])), (my, .inl (cI, 24, .inl (fun jq => nI (Y jq)))), (mz, .inl (cI, 24, .inl (fun jq => nI (Z jq)))), (mv, .inl (cZ, 2048, .inl (fun jq => bI ((sd_wn n a (fun w => sd_br Y Z q w == 0)) jq)))), (mt, .inl (cI, 10, .inl F))] := hw_ad hD rfl
    refine lv_iload_n hx hb dX2_learn_6 rfl (lv_at hl 1 rfl) ?_
    refine lv_aload_n hx hb dX2_learn_7 rfl (lv_at hl 0 rfl) ?_
    refine va_get (D := D) (ci := 2) (v := .int (nI n)) (C := RX2) (T := TX2) (N := 14) hx hb ht inX2 hown hK hP 0 rfl rfl 0 (by decide) (ht _ wf_X2_n) (fun _ h9 => h9) rfl dX2_learn_8 ?_
    refine lv_icmp_ge (tgt := 27) hx hb dX2_learn_11 rfl (fun hc => absurd (show n ≤ i from (nI_leI (by omega) (by omega)).mp hc) (by omega)) (fun _ => ?_)
    refine lv_aload_n hx hb dX2_learn_14 rfl (lv_at hl 0 rfl) ?_
    refine va_get (D := D) (ci := 2) (v := .ref mt) (C := RX2) (T := TX2) (N := 14) hx hb ht inX2 hown hK hP 0 rfl rfl 13 (by decide) (ht _ wf_X2_tables) (fun _ h9 => h9) rfl dX2_learn_15 ?_
    refine lv_iload_n hx hb dX2_learn_18 rfl (lv_at hl 1 rfl) ?_
    refine lv_iconst (v := nI 0) hx hb dX2_learn_19 (by decide) ?_
    refine na_iast (f := F) (x := nI 0) hx hb hK hP hD hS 4 0 rfl rfl (j := i) (by omega) (by omega) dX2_learn_20 (fun H locs hP hD hS => ?_)
    have hP : va_P D clS [(om, .inr (2, [.int (nI n), .int (nI a), .int (nI q), .ref my, .ref mz, .int (bI true), .int (if kn = true then sk else -1), .int (bI (kn && mr)), .int (nI u1), .int (nI u2), .ref mv, .int (nI (sd_pos d v)), .int (nI d), .ref mt])), (my, .inl (cI, 24, .inl (fun jq => nI (Y jq)))), (mz, .inl (cI, 24, .inl (fun jq => nI (Z jq)))), (mv, .inl (cZ, 2048, .inl (fun jq => bI ((sd_wn n a (fun w => sd_br Y Z q w == 0)) jq)))), (mt, .inl (cI, 10, .inl (upd F i (nI 0))))] H := hP
    have hD : va_D A [(om, .inr (2, [.int (nI n), .int (nI a), .int (nI q), .ref my, .ref mz, .int (bI true), .int (if kn = true then sk else -1), .int (bI (kn && mr)), .int (nI u1), .int (nI u2), .ref mv, .int (nI (sd_pos d v)), .int (nI d), .ref mt])), (my, .inl (cI, 24, .inl (fun jq => nI (Y jq)))), (mz, .inl (cI, 24, .inl (fun jq => nI (Z jq)))), (mv, .inl (cZ, 2048, .inl (fun jq => bI ((sd_wn n a (fun w => sd_br Y Z q w == 0)) jq)))), (mt, .inl (cI, 10, .inl (upd F i (nI 0))))] := hD
    refine lv_iinc (k := 1) (v := nI (i + 1)) hx hb dX2_learn_21 hl rfl (hw_inc _) (by decide) rfl (fun ls hl => ?_)
    have hl : lv_has ls 4 [(1, .int (nI (i + 1))), (0, .ref om)] := hl
    refine lv_goto (tgt := 6) hx hb dX2_learn_24 rfl ?_
    have hl : lv_has ls 4 [(0, .ref om), (1, .int (nI (i + 1)))] := lv_sub hl [1, 0] rfl
    exact ih (i + 1) (upd F i (nI 0)) ls H locs (by omega) (fun j hj => (Nat.lt_or_ge j i).elim (fun h9 => (pk_un (by omega)).trans (hF j h9)) (fun h9 => by obtain rfl : j = i := (by omega); exact pk_us)) (fun j hj => (pk_un (by omega)).trans (hF2 j hj)) hl hP hS
