/-! Contracts of the reference, StrategyDeskModel: what changes nothing, and fill. -/
theorem hw_andn {z w : Nat} (hz : z < 2 ^ 31) (hw : w < 2 ^ 31) : nI z &&& (nI w ^^^ (-1)) = 0 ↔ w &&& z = z := by
  have h1 : nI z &&& (nI w ^^^ (-1)) = 0 ↔ (BitVec.ofNat 32 z &&& ~~~ BitVec.ofNat 32 w) = 0#32 := by
    rw [← Int32.toBitVec_inj]
    have e : (nI z &&& (nI w ^^^ (-1))).toBitVec = BitVec.ofNat 32 z &&& (BitVec.ofNat 32 w ^^^ BitVec.allOnes 32) := rfl
    rw [e, BitVec.xor_allOnes]
    rfl
  rw [h1]
  have h2 : (w &&& z = z) ↔ BitVec.ofNat 32 w &&& BitVec.ofNat 32 z = BitVec.ofNat 32 z := by
    rw [← BitVec.ofNat_and]
    constructor
    · intro h
      rw [h]
    · intro h
      have h3 := congrArg BitVec.toNat h
      have h4 : w &&& z < 2 ^ 32 := Nat.lt_of_le_of_lt Nat.and_le_left (by omega)
      rwa [BitVec.toNat_ofNat, BitVec.toNat_ofNat, Nat.mod_eq_of_lt h4, Nat.mod_eq_of_lt (by omega)] at h3
  rw [h2]
  generalize BitVec.ofNat 32 z = zb
  generalize BitVec.ofNat 32 w = wb
  constructor
  · intro h
    apply BitVec.eq_of_getLsbD_eq
    intro i hi
    have h3 := congrArg (fun b => b.getLsbD i) h
    simp only [BitVec.getLsbD_and, BitVec.getLsbD_not, BitVec.getLsbD_zero, decide_eq_true hi, Bool.true_and] at h3
    rw [BitVec.getLsbD_and]
    revert h3
    generalize zb.getLsbD i = x
    generalize wb.getLsbD i = y
    revert x y
    decide
  · intro h
    apply BitVec.eq_of_getLsbD_eq
    intro i hi
    have h3 := congrArg (fun b => b.getLsbD i) h
    simp only [BitVec.getLsbD_and] at h3
    simp only [BitVec.getLsbD_and, BitVec.getLsbD_not, BitVec.getLsbD_zero, decide_eq_true hi, Bool.true_and]
    revert h3
    generalize zb.getLsbD i = x
    generalize wb.getLsbD i = y
    revert x y
    decide
theorem sd_M_cg {n A : Nat} {S S' : Nat → Bool} (h : ∀ w, w < 2 ^ n → S w = S' w) : ∀ k j, sd_M n A S k j = sd_M n A S' k j
  | 0, j => h _ (sd_on_lt n j n)
  | k + 1, j => by
    show sd_C _ _ _ = sd_C _ _ _
    rw [sd_M_cg h k, sd_M_cg h k]
theorem sd_wn_cg {n A : Nat} {S S' : Nat → Bool} (h : ∀ w, w < 2 ^ n → S w = S' w) : sd_wn n A S = sd_wn n A S' := by
  funext j
  unfold sd_wn
  by_cases h2 : j = 0 ∨ 2 * 2 ^ n ≤ j
  · rw [if_pos h2, if_pos h2]
  · rw [if_neg h2, if_neg h2, sd_M_cg h]
theorem sd_al_t1 {x s y : Bool} (h1 : x = true) (h2 : s = true) : true = (x && (s || y)) := by rw [h1, h2]; rfl
theorem sd_al_t2 {x s y : Bool} (h1 : x = true) (h2 : y = true) : true = (x && (s || y)) := by rw [h1, h2]; cases s <;> rfl
theorem sd_al_f1 {x s y : Bool} (h1 : x = false) : false = (x && (s || y)) := by rw [h1]; rfl
theorem sd_al_f2 {x s y : Bool} (h2 : s = false) (h3 : y = false) : false = (x && (s || y)) := by rw [h2, h3]; cases x <;> rfl
theorem hw_bn {b : Bool} (h : ¬ b = true) : b = false := by simpa using h
theorem sd_fl_t {y z w : Nat} (h1 : y &&& w = 0) (h2 : w &&& z = z) : sd_fl y z w = true := by
  unfold sd_fl
  rw [Nat.and_comm w y, h1, h2]
  simp
theorem sd_fl_f1 {y z w : Nat} (h1 : ¬ y &&& w = 0) : sd_fl y z w = false := by
  unfold sd_fl
  rw [Nat.and_comm w y, beq_false_of_ne h1, Bool.false_and]
theorem sd_fl_f2 {y z w : Nat} (h2 : ¬ w &&& z = z) : sd_fl y z w = false := by
  unfold sd_fl
  rw [beq_false_of_ne h2, Bool.and_false]

set_option maxHeartbeats 4000000 in
set_option maxRecDepth 100000 in
theorem m_holds (l : Launch) (D : va_G) (cI cZ : ClassId) (y z w : Nat) (hy : y < 2 ^ 31) (hz : z < 2 ^ 31) (hw : w < 2 ^ 31) : Met l yX2_holds (kX2_holds :: aW) { frames := 0, cells := 0, slots := 0, locals := 0 } (rPre [.int (nI y), .int (nI z), .int (nI w)] D [] [(cI, .int), (cZ, .boolean)]) (QcRead (bI (!sd_fl y z w))) 0 0 (fun _ => False) := by
  refine Met.ofW (cc := cX2_holds) (maxL := 3) (ret := (some .boolean)) (by decide) rfl ?_
  intro p e s m args below meth c s₁ Bo hml hpre
  obtain ⟨rfl, hP, hK, hN⟩ := hpre
  have hx := Bo.exec
  have hb := Bo.bytes
  have hr := Bo.returns
  have hts := atoms_spec (ws := kX2_holds :: aW) Bo.pre
  have ht : ∀ w ∈ aW, w.before _ s = true := fun w h => hts w (List.mem_cons_of_mem _ h)
  have hown : s.vm.findClass RX2 = some m.cls := findClass_of_methodNamed Bo.named
  have hlocks := Bo.notSynchronized
  have hP : va_P D clS [] s.heap := hP
  have hl := lv_entry ([.int (nI y), .int (nI z), .int (nI w)]) (n := 3) (Nat.le_of_ble_eq_true rfl)
  rw [lg_entry_eq]
  generalize (lg_sl ([.int (nI y), .int (nI z), .int (nI w)]) ++ List.replicate (3 - (lg_sl ([.int (nI y), .int (nI z), .int (nI w)])).length) Slot.unset).toArray = ls at hl ⊢
  have hl : lv_has ls 3 [(0, .int (nI y)), (1, .int (nI z)), (2, .int (nI w))] := hl
  have hyw : y &&& w < 2 ^ 31 := Nat.lt_of_le_of_lt Nat.and_le_left hy
  suffices mk : W p l e (headSpec (kX2_holds :: aW) { frames := 0, cells := 0, slots := 0, locals := 0 }).room s m (([.int (nI y), .int (nI z), .int (nI w)] : List Value).toArray) below meth c s.heap [] 0 0 (MQ below (QcRead (bI (!sd_fl y z w))) (([.int (nI y), .int (nI z), .int (nI w)] : List Value).toArray) s 0 0 (fun _ => False)) (F0 m 19 ls [.int (bI (!sd_fl y z w))]) by
    refine lv_iload_n hx hb dX2_holds_0 rfl (lv_at hl 0 rfl) ?_
    refine lv_iload_n hx hb dX2_holds_1 rfl (lv_at hl 2 rfl) ?_
    refine lv_iand hx hb dX2_holds_2 ?_
    refine lv_nm (y := nI (y &&& w)) (hw_and _ _) ?_
    refine lv_if_ne (tgt := 14) hx hb dX2_holds_3 rfl (fun h1 => ?_) (fun h1 => ?_)
    · have h1 : ¬ y &&& w = 0 := fun h9 => h1 ((nI_z (by omega)).mpr h9)
      refine lv_iconst (v := nI 1) hx hb dX2_holds_14 (by decide) ?_
      refine lv_goto (tgt := 19) hx hb dX2_holds_15 rfl ?_
      refine lv_nm (y := bI (!sd_fl y z w)) (hw_1.trans (congrArg bI (show true = (!sd_fl y z w) by first | (rw [sd_fl_t h1 ((hw_andn hz hw).mp h2)]; rfl) | (rw [sd_fl_f2 (fun h9 => h2 ((hw_andn hz hw).mpr h9))]; rfl) | (rw [sd_fl_f1 h1]; rfl)))) ?_
      exact mk
    · have h1 : y &&& w = 0 := (nI_z (by omega)).mp h1
      refine lv_iload_n hx hb dX2_holds_6 rfl (lv_at hl 1 rfl) ?_
      refine lv_iload_n hx hb dX2_holds_7 rfl (lv_at hl 2 rfl) ?_
      refine lv_iconst (v := (-1)) hx hb dX2_holds_8 (by decide) ?_
      refine lv_ixor hx hb dX2_holds_9 ?_
      refine lv_iand hx hb dX2_holds_10 ?_
      refine lv_if_eq (tgt := 18) hx hb dX2_holds_11 rfl (fun h2 => ?_) (fun h2 => ?_)
      · refine lv_iconst (v := nI 0) hx hb dX2_holds_18 (by decide) ?_
        refine lv_nm (y := bI (!sd_fl y z w)) (hw_0.trans (congrArg bI (show false = (!sd_fl y z w) by first | (rw [sd_fl_t h1 ((hw_andn hz hw).mp h2)]; rfl) | (rw [sd_fl_f2 (fun h9 => h2 ((hw_andn hz hw).mpr h9))]; rfl) | (rw [sd_fl_f1 h1]; rfl)))) ?_
        exact mk
      · refine lv_iconst (v := nI 1) hx hb dX2_holds_14 (by decide) ?_
        refine lv_goto (tgt := 19) hx hb dX2_holds_15 rfl ?_
        refine lv_nm (y := bI (!sd_fl y z w)) (hw_1.trans (congrArg bI (show true = (!sd_fl y z w) by first | (rw [sd_fl_t h1 ((hw_andn hz hw).mp h2)]; rfl) | (rw [sd_fl_f2 (fun h9 => h2 ((hw_andn hz hw).mpr h9))]; rfl) | (rw [sd_fl_f1 h1]; rfl)))) ?_
        exact mk
  exact W.zret hx hb hr (bI_nar _) (fun t ht2 _ => ⟨hw_ret (rfl), ht2⟩) (fun _ h => by cases h) dX2_holds_19

set_option maxHeartbeats 4000000 in
set_option maxRecDepth 100000 in
theorem m_variables (l : Launch) (D : va_G) (cI cZ : ClassId) (om my mz mv mt n a q d v u1 u2 : Nat) (kn mr : Bool) (sk : Int32) (Y Z : Nat → Nat) (T : Nat → Int32) (wn : Nat → Bool) (ok : dOk n a q d v Y Z) : Met l yX2_variables (kX2_variables :: aW) { frames := 0, cells := 0, slots := 0, locals := 0 } (rPre [.ref om] D [(om, .inr (2, [.int (nI n), .int (nI a), .int (nI q), .ref my, .ref mz, .int (bI kn), .int sk, .int (bI mr), .int (nI u1), .int (nI u2), .ref mv, .int (nI (sd_pos d v)), .int (nI d), .ref mt])), (my, .inl (cI, 24, .inl (fun jq => nI (Y jq)))), (mz, .inl (cI, 24, .inl (fun jq => nI (Z jq)))), (mv, .inl (cZ, 2048, .inl (fun jq => bI (wn jq)))), (mt, .inl (cI, 10, .inl T))] [(cI, .int), (cZ, .boolean)]) (QcRead (nI n)) 0 0 (fun _ => False) := by
  obtain ⟨hn1, hn, ha, h5, hq, hY, hZ, hd, hv⟩ := id ok
  have h2n := hw_p10 hn
  refine Met.ofW (cc := cX2_variables) (maxL := 1) (ret := (some .int)) (by decide) rfl ?_
  intro p e s m args below meth c s₁ Bo hml hpre
  obtain ⟨rfl, hP, hK, hN⟩ := hpre
  have hx := Bo.exec
  have hb := Bo.bytes
  have hr := Bo.returns
  have hts := atoms_spec (ws := kX2_variables :: aW) Bo.pre
  have ht : ∀ w ∈ aW, w.before _ s = true := fun w h => hts w (List.mem_cons_of_mem _ h)
  have hown : s.vm.findClass RX2 = some m.cls := findClass_of_methodNamed Bo.named
  have hlocks := Bo.notSynchronized
  have hP : va_P D clS [(om, .inr (2, [.int (nI n), .int (nI a), .int (nI q), .ref my, .ref mz, .int (bI kn), .int sk, .int (bI mr), .int (nI u1), .int (nI u2), .ref mv, .int (nI (sd_pos d v)), .int (nI d), .ref mt])), (my, .inl (cI, 24, .inl (fun jq => nI (Y jq)))), (mz, .inl (cI, 24, .inl (fun jq => nI (Z jq)))), (mv, .inl (cZ, 2048, .inl (fun jq => bI (wn jq)))), (mt, .inl (cI, 10, .inl T))] s.heap := hP
  have hl := lv_entry ([.ref om]) (n := 1) (Nat.le_of_ble_eq_true rfl)
  rw [lg_entry_eq]
  generalize (lg_sl ([.ref om]) ++ List.replicate (1 - (lg_sl ([.ref om])).length) Slot.unset).toArray = ls at hl ⊢
  have hl : lv_has ls 1 [(0, .ref om)] := hl
  refine lv_aload_n hx hb dX2_variables_0 rfl (lv_at hl 0 rfl) ?_
  refine va_get (D := D) (ci := 2) (v := .int (nI n)) (C := RX2) (T := TX2) (N := 14) hx hb ht inX2 hown hK hP 0 rfl rfl 0 (by decide) (ht _ wf_X2_n) (fun _ h9 => h9) rfl dX2_variables_1 ?_
  exact W.iret hx hb hr (fun t ht2 _ => ⟨hw_ret (rfl), ht2⟩) (fun _ h => by cases h) dX2_variables_4

set_option maxHeartbeats 4000000 in
set_option maxRecDepth 100000 in
theorem m_adams (l : Launch) (D : va_G) (cI cZ : ClassId) (om my mz mv mt n a q d v u1 u2 : Nat) (kn mr : Bool) (sk : Int32) (Y Z : Nat → Nat) (T : Nat → Int32) (wn : Nat → Bool) (ok : dOk n a q d v Y Z) : Met l yX2_adams (kX2_adams :: aW) { frames := 0, cells := 0, slots := 0, locals := 0 } (rPre [.ref om] D [(om, .inr (2, [.int (nI n), .int (nI a), .int (nI q), .ref my, .ref mz, .int (bI kn), .int sk, .int (bI mr), .int (nI u1), .int (nI u2), .ref mv, .int (nI (sd_pos d v)), .int (nI d), .ref mt])), (my, .inl (cI, 24, .inl (fun jq => nI (Y jq)))), (mz, .inl (cI, 24, .inl (fun jq => nI (Z jq)))), (mv, .inl (cZ, 2048, .inl (fun jq => bI (wn jq)))), (mt, .inl (cI, 10, .inl T))] [(cI, .int), (cZ, .boolean)]) (QcRead (nI a)) 0 0 (fun _ => False) := by
  obtain ⟨hn1, hn, ha, h5, hq, hY, hZ, hd, hv⟩ := id ok
  have h2n := hw_p10 hn
  refine Met.ofW (cc := cX2_adams) (maxL := 1) (ret := (some .int)) (by decide) rfl ?_
  intro p e s m args below meth c s₁ Bo hml hpre
  obtain ⟨rfl, hP, hK, hN⟩ := hpre
  have hx := Bo.exec
  have hb := Bo.bytes
  have hr := Bo.returns
  have hts := atoms_spec (ws := kX2_adams :: aW) Bo.pre
  have ht : ∀ w ∈ aW, w.before _ s = true := fun w h => hts w (List.mem_cons_of_mem _ h)
  have hown : s.vm.findClass RX2 = some m.cls := findClass_of_methodNamed Bo.named
  have hlocks := Bo.notSynchronized
  have hP : va_P D clS [(om, .inr (2, [.int (nI n), .int (nI a), .int (nI q), .ref my, .ref mz, .int (bI kn), .int sk, .int (bI mr), .int (nI u1), .int (nI u2), .ref mv, .int (nI (sd_pos d v)), .int (nI d), .ref mt])), (my, .inl (cI, 24, .inl (fun jq => nI (Y jq)))), (mz, .inl (cI, 24, .inl (fun jq => nI (Z jq)))), (mv, .inl (cZ, 2048, .inl (fun jq => bI (wn jq)))), (mt, .inl (cI, 10, .inl T))] s.heap := hP
  have hl := lv_entry ([.ref om]) (n := 1) (Nat.le_of_ble_eq_true rfl)
  rw [lg_entry_eq]
  generalize (lg_sl ([.ref om]) ++ List.replicate (1 - (lg_sl ([.ref om])).length) Slot.unset).toArray = ls at hl ⊢
  have hl : lv_has ls 1 [(0, .ref om)] := hl
  refine lv_aload_n hx hb dX2_adams_0 rfl (lv_at hl 0 rfl) ?_
  refine va_get (D := D) (ci := 2) (v := .int (nI a)) (C := RX2) (T := TX2) (N := 14) hx hb ht inX2 hown hK hP 0 rfl rfl 1 (by decide) (ht _ wf_X2_adam) (fun _ h9 => h9) rfl dX2_adams_1 ?_
  exact W.iret hx hb hr (fun t ht2 _ => ⟨hw_ret (rfl), ht2⟩) (fun _ h => by cases h) dX2_adams_4

set_option maxHeartbeats 4000000 in
set_option maxRecDepth 100000 in
theorem m_clauses (l : Launch) (D : va_G) (cI cZ : ClassId) (om my mz mv mt n a q d v u1 u2 : Nat) (kn mr : Bool) (sk : Int32) (Y Z : Nat → Nat) (T : Nat → Int32) (wn : Nat → Bool) (ok : dOk n a q d v Y Z) : Met l yX2_clauses (kX2_clauses :: aW) { frames := 0, cells := 0, slots := 0, locals := 0 } (rPre [.ref om] D [(om, .inr (2, [.int (nI n), .int (nI a), .int (nI q), .ref my, .ref mz, .int (bI kn), .int sk, .int (bI mr), .int (nI u1), .int (nI u2), .ref mv, .int (nI (sd_pos d v)), .int (nI d), .ref mt])), (my, .inl (cI, 24, .inl (fun jq => nI (Y jq)))), (mz, .inl (cI, 24, .inl (fun jq => nI (Z jq)))), (mv, .inl (cZ, 2048, .inl (fun jq => bI (wn jq)))), (mt, .inl (cI, 10, .inl T))] [(cI, .int), (cZ, .boolean)]) (QcRead (nI q)) 0 0 (fun _ => False) := by
  obtain ⟨hn1, hn, ha, h5, hq, hY, hZ, hd, hv⟩ := id ok
  have h2n := hw_p10 hn
  refine Met.ofW (cc := cX2_clauses) (maxL := 1) (ret := (some .int)) (by decide) rfl ?_
  intro p e s m args below meth c s₁ Bo hml hpre
  obtain ⟨rfl, hP, hK, hN⟩ := hpre
  have hx := Bo.exec
  have hb := Bo.bytes
  have hr := Bo.returns
  have hts := atoms_spec (ws := kX2_clauses :: aW) Bo.pre
  have ht : ∀ w ∈ aW, w.before _ s = true := fun w h => hts w (List.mem_cons_of_mem _ h)
  have hown : s.vm.findClass RX2 = some m.cls := findClass_of_methodNamed Bo.named
  have hlocks := Bo.notSynchronized
  have hP : va_P D clS [(om, .inr (2, [.int (nI n), .int (nI a), .int (nI q), .ref my, .ref mz, .int (bI kn), .int sk, .int (bI mr), .int (nI u1), .int (nI u2), .ref mv, .int (nI (sd_pos d v)), .int (nI d), .ref mt])), (my, .inl (cI, 24, .inl (fun jq => nI (Y jq)))), (mz, .inl (cI, 24, .inl (fun jq => nI (Z jq)))), (mv, .inl (cZ, 2048, .inl (fun jq => bI (wn jq)))), (mt, .inl (cI, 10, .inl T))] s.heap := hP
  have hl := lv_entry ([.ref om]) (n := 1) (Nat.le_of_ble_eq_true rfl)
  rw [lg_entry_eq]
  generalize (lg_sl ([.ref om]) ++ List.replicate (1 - (lg_sl ([.ref om])).length) Slot.unset).toArray = ls at hl ⊢
  have hl : lv_has ls 1 [(0, .ref om)] := hl
  refine lv_aload_n hx hb dX2_clauses_0 rfl (lv_at hl 0 rfl) ?_
  refine va_get (D := D) (ci := 2) (v := .int (nI q)) (C := RX2) (T := TX2) (N := 14) hx hb ht inX2 hown hK hP 0 rfl rfl 2 (by decide) (ht _ wf_X2_many) (fun _ h9 => h9) rfl dX2_clauses_1 ?_
  exact W.iret hx hb hr (fun t ht2 _ => ⟨hw_ret (rfl), ht2⟩) (fun _ h => by cases h) dX2_clauses_4

set_option maxHeartbeats 4000000 in
set_option maxRecDepth 100000 in
theorem m_played (l : Launch) (D : va_G) (cI cZ : ClassId) (om my mz mv mt n a q d v u1 u2 : Nat) (kn mr : Bool) (sk : Int32) (Y Z : Nat → Nat) (T : Nat → Int32) (wn : Nat → Bool) (ok : dOk n a q d v Y Z) : Met l yX2_played (kX2_played :: aW) { frames := 0, cells := 0, slots := 0, locals := 0 } (rPre [.ref om] D [(om, .inr (2, [.int (nI n), .int (nI a), .int (nI q), .ref my, .ref mz, .int (bI kn), .int sk, .int (bI mr), .int (nI u1), .int (nI u2), .ref mv, .int (nI (sd_pos d v)), .int (nI d), .ref mt])), (my, .inl (cI, 24, .inl (fun jq => nI (Y jq)))), (mz, .inl (cI, 24, .inl (fun jq => nI (Z jq)))), (mv, .inl (cZ, 2048, .inl (fun jq => bI (wn jq)))), (mt, .inl (cI, 10, .inl T))] [(cI, .int), (cZ, .boolean)]) (QcRead (nI d)) 0 0 (fun _ => False) := by
  obtain ⟨hn1, hn, ha, h5, hq, hY, hZ, hd, hv⟩ := id ok
  have h2n := hw_p10 hn
  refine Met.ofW (cc := cX2_played) (maxL := 1) (ret := (some .int)) (by decide) rfl ?_
  intro p e s m args below meth c s₁ Bo hml hpre
  obtain ⟨rfl, hP, hK, hN⟩ := hpre
  have hx := Bo.exec
  have hb := Bo.bytes
  have hr := Bo.returns
  have hts := atoms_spec (ws := kX2_played :: aW) Bo.pre
  have ht : ∀ w ∈ aW, w.before _ s = true := fun w h => hts w (List.mem_cons_of_mem _ h)
  have hown : s.vm.findClass RX2 = some m.cls := findClass_of_methodNamed Bo.named
  have hlocks := Bo.notSynchronized
  have hP : va_P D clS [(om, .inr (2, [.int (nI n), .int (nI a), .int (nI q), .ref my, .ref mz, .int (bI kn), .int sk, .int (bI mr), .int (nI u1), .int (nI u2), .ref mv, .int (nI (sd_pos d v)), .int (nI d), .ref mt])), (my, .inl (cI, 24, .inl (fun jq => nI (Y jq)))), (mz, .inl (cI, 24, .inl (fun jq => nI (Z jq)))), (mv, .inl (cZ, 2048, .inl (fun jq => bI (wn jq)))), (mt, .inl (cI, 10, .inl T))] s.heap := hP
  have hl := lv_entry ([.ref om]) (n := 1) (Nat.le_of_ble_eq_true rfl)
  rw [lg_entry_eq]
  generalize (lg_sl ([.ref om]) ++ List.replicate (1 - (lg_sl ([.ref om])).length) Slot.unset).toArray = ls at hl ⊢
  have hl : lv_has ls 1 [(0, .ref om)] := hl
  refine lv_aload_n hx hb dX2_played_0 rfl (lv_at hl 0 rfl) ?_
  refine va_get (D := D) (ci := 2) (v := .int (nI d)) (C := RX2) (T := TX2) (N := 14) hx hb ht inX2 hown hK hP 0 rfl rfl 12 (by decide) (ht _ wf_X2_set) (fun _ h9 => h9) rfl dX2_played_1 ?_
  exact W.iret hx hb hr (fun t ht2 _ => ⟨hw_ret (rfl), ht2⟩) (fun _ h => by cases h) dX2_played_4

set_option maxHeartbeats 4000000 in
set_option maxRecDepth 100000 in
theorem m_strange (l : Launch) (D : va_G) (cI cZ : ClassId) (om my mz mv mt n a q d v u1 u2 : Nat) (kn mr : Bool) (sk : Int32) (Y Z : Nat → Nat) (T : Nat → Int32) (wn : Nat → Bool) (ok : dOk n a q d v Y Z) (x : Int32) : Met l yX2_strange (kX2_strange :: aW) { frames := 0, cells := 0, slots := 0, locals := 0 } (rPre [.ref om, .int x] D [(om, .inr (2, [.int (nI n), .int (nI a), .int (nI q), .ref my, .ref mz, .int (bI kn), .int sk, .int (bI mr), .int (nI u1), .int (nI u2), .ref mv, .int (nI (sd_pos d v)), .int (nI d), .ref mt])), (my, .inl (cI, 24, .inl (fun jq => nI (Y jq)))), (mz, .inl (cI, 24, .inl (fun jq => nI (Z jq)))), (mv, .inl (cZ, 2048, .inl (fun jq => bI (wn jq)))), (mt, .inl (cI, 10, .inl T))] [(cI, .int), (cZ, .boolean)]) (QcRead (bI (!decide (uN x < 2 ^ n)))) 0 0 (fun _ => False) := by
  obtain ⟨hn1, hn, ha, h5, hq, hY, hZ, hd, hv⟩ := id ok
  have h2n := hw_p10 hn
  refine Met.ofW (cc := cX2_strange) (maxL := 2) (ret := (some .boolean)) (by decide) rfl ?_
  intro p e s m args below meth c s₁ Bo hml hpre
  obtain ⟨rfl, hP, hK, hN⟩ := hpre
  have hx := Bo.exec
  have hb := Bo.bytes
  have hr := Bo.returns
  have hts := atoms_spec (ws := kX2_strange :: aW) Bo.pre
  have ht : ∀ w ∈ aW, w.before _ s = true := fun w h => hts w (List.mem_cons_of_mem _ h)
  have hown : s.vm.findClass RX2 = some m.cls := findClass_of_methodNamed Bo.named
  have hlocks := Bo.notSynchronized
  have hP : va_P D clS [(om, .inr (2, [.int (nI n), .int (nI a), .int (nI q), .ref my, .ref mz, .int (bI kn), .int sk, .int (bI mr), .int (nI u1), .int (nI u2), .ref mv, .int (nI (sd_pos d v)), .int (nI d), .ref mt])), (my, .inl (cI, 24, .inl (fun jq => nI (Y jq)))), (mz, .inl (cI, 24, .inl (fun jq => nI (Z jq)))), (mv, .inl (cZ, 2048, .inl (fun jq => bI (wn jq)))), (mt, .inl (cI, 10, .inl T))] s.heap := hP
  have hl := lv_entry ([.ref om, .int x]) (n := 2) (Nat.le_of_ble_eq_true rfl)
  rw [lg_entry_eq]
  generalize (lg_sl ([.ref om, .int x]) ++ List.replicate (2 - (lg_sl ([.ref om, .int x])).length) Slot.unset).toArray = ls at hl ⊢
  have hl : lv_has ls 2 [(0, .ref om), (1, .int x)] := hl
  suffices mk : W p l e (headSpec (kX2_strange :: aW) { frames := 0, cells := 0, slots := 0, locals := 0 }).room s m (([.ref om, .int x] : List Value).toArray) below meth c s.heap [] 0 0 (MQ below (QcRead (bI (!decide (uN x < 2 ^ n)))) (([.ref om, .int x] : List Value).toArray) s 0 0 (fun _ => False)) (F0 m 19 ls [.int (bI (!decide (uN x < 2 ^ n)))]) by
    refine lv_iload_n hx hb dX2_strange_0 rfl (lv_at hl 1 rfl) ?_
    refine lv_if_lt (tgt := 14) hx hb dX2_strange_1 rfl (fun h1 => ?_) (fun h1 => ?_)
    · refine lv_iconst (v := nI 1) hx hb dX2_strange_14 (by decide) ?_
      refine lv_goto (tgt := 19) hx hb dX2_strange_15 rfl ?_
      refine lv_nm (y := bI (!decide (uN x < 2 ^ n))) (hw_1.trans (congrArg bI (show true = (!decide (uN x < 2 ^ n)) by first | (rw [decide_eq_true (hw_in' (by omega) h1 h2)]; rfl) | (rw [decide_eq_false (hw_big' (by omega) h2)]; rfl) | (rw [decide_eq_false (fun h9 => (hw_pos (n := 2 ^ n) (by omega) h9).1 h1)]; rfl)))) ?_
      exact mk
    · refine lv_iload_n hx hb dX2_strange_4 rfl (lv_at hl 1 rfl) ?_
      refine lv_iconst (v := nI 1) hx hb dX2_strange_5 (by decide) ?_
      refine lv_aload_n hx hb dX2_strange_6 rfl (lv_at hl 0 rfl) ?_
      refine va_get (D := D) (ci := 2) (v := .int (nI n)) (C := RX2) (T := TX2) (N := 14) hx hb ht inX2 hown hK hP 0 rfl rfl 0 (by decide) (ht _ wf_X2_n) (fun _ h9 => h9) rfl dX2_strange_7 ?_
      refine lv_ishl hx hb dX2_strange_10 ?_
      refine lv_nm (y := nI (2 ^ n)) (hw_shl1' (by omega)) ?_
      refine lv_icmp_lt (tgt := 18) hx hb dX2_strange_11 rfl (fun h2 => ?_) (fun h2 => ?_)
      · refine lv_iconst (v := nI 0) hx hb dX2_strange_18 (by decide) ?_
        refine lv_nm (y := bI (!decide (uN x < 2 ^ n))) (hw_0.trans (congrArg bI (show false = (!decide (uN x < 2 ^ n)) by first | (rw [decide_eq_true (hw_in' (by omega) h1 h2)]; rfl) | (rw [decide_eq_false (hw_big' (by omega) h2)]; rfl) | (rw [decide_eq_false (fun h9 => (hw_pos (n := 2 ^ n) (by omega) h9).1 h1)]; rfl)))) ?_
        exact mk
      · refine lv_iconst (v := nI 1) hx hb dX2_strange_14 (by decide) ?_
        refine lv_goto (tgt := 19) hx hb dX2_strange_15 rfl ?_
        refine lv_nm (y := bI (!decide (uN x < 2 ^ n))) (hw_1.trans (congrArg bI (show true = (!decide (uN x < 2 ^ n)) by first | (rw [decide_eq_true (hw_in' (by omega) h1 h2)]; rfl) | (rw [decide_eq_false (hw_big' (by omega) h2)]; rfl) | (rw [decide_eq_false (fun h9 => (hw_pos (n := 2 ^ n) (by omega) h9).1 h1)]; rfl)))) ?_
        exact mk
  exact W.zret hx hb hr (bI_nar _) (fun t ht2 _ => ⟨hw_ret (rfl), ht2⟩) (fun _ h => by cases h) dX2_strange_19

set_option maxHeartbeats 4000000 in
set_option maxRecDepth 100000 in
theorem m_noClause (l : Launch) (D : va_G) (cI cZ : ClassId) (om my mz mv mt n a q d v u1 u2 : Nat) (kn mr : Bool) (sk : Int32) (Y Z : Nat → Nat) (T : Nat → Int32) (wn : Nat → Bool) (ok : dOk n a q d v Y Z) (x : Int32) : Met l yX2_noClause (kX2_noClause :: aW) { frames := 0, cells := 0, slots := 0, locals := 0 } (rPre [.ref om, .int x] D [(om, .inr (2, [.int (nI n), .int (nI a), .int (nI q), .ref my, .ref mz, .int (bI kn), .int sk, .int (bI mr), .int (nI u1), .int (nI u2), .ref mv, .int (nI (sd_pos d v)), .int (nI d), .ref mt])), (my, .inl (cI, 24, .inl (fun jq => nI (Y jq)))), (mz, .inl (cI, 24, .inl (fun jq => nI (Z jq)))), (mv, .inl (cZ, 2048, .inl (fun jq => bI (wn jq)))), (mt, .inl (cI, 10, .inl T))] [(cI, .int), (cZ, .boolean)]) (QcRead (bI (!decide (uN x < q)))) 0 0 (fun _ => False) := by
  obtain ⟨hn1, hn, ha, h5, hq, hY, hZ, hd, hv⟩ := id ok
  have h2n := hw_p10 hn
  refine Met.ofW (cc := cX2_noClause) (maxL := 2) (ret := (some .boolean)) (by decide) rfl ?_
  intro p e s m args below meth c s₁ Bo hml hpre
  obtain ⟨rfl, hP, hK, hN⟩ := hpre
  have hx := Bo.exec
  have hb := Bo.bytes
  have hr := Bo.returns
  have hts := atoms_spec (ws := kX2_noClause :: aW) Bo.pre
  have ht : ∀ w ∈ aW, w.before _ s = true := fun w h => hts w (List.mem_cons_of_mem _ h)
  have hown : s.vm.findClass RX2 = some m.cls := findClass_of_methodNamed Bo.named
  have hlocks := Bo.notSynchronized
  have hP : va_P D clS [(om, .inr (2, [.int (nI n), .int (nI a), .int (nI q), .ref my, .ref mz, .int (bI kn), .int sk, .int (bI mr), .int (nI u1), .int (nI u2), .ref mv, .int (nI (sd_pos d v)), .int (nI d), .ref mt])), (my, .inl (cI, 24, .inl (fun jq => nI (Y jq)))), (mz, .inl (cI, 24, .inl (fun jq => nI (Z jq)))), (mv, .inl (cZ, 2048, .inl (fun jq => bI (wn jq)))), (mt, .inl (cI, 10, .inl T))] s.heap := hP
  have hl := lv_entry ([.ref om, .int x]) (n := 2) (Nat.le_of_ble_eq_true rfl)
  rw [lg_entry_eq]
  generalize (lg_sl ([.ref om, .int x]) ++ List.replicate (2 - (lg_sl ([.ref om, .int x])).length) Slot.unset).toArray = ls at hl ⊢
  have hl : lv_has ls 2 [(0, .ref om), (1, .int x)] := hl
  suffices mk : W p l e (headSpec (kX2_noClause :: aW) { frames := 0, cells := 0, slots := 0, locals := 0 }).room s m (([.ref om, .int x] : List Value).toArray) below meth c s.heap [] 0 0 (MQ below (QcRead (bI (!decide (uN x < q)))) (([.ref om, .int x] : List Value).toArray) s 0 0 (fun _ => False)) (F0 m 17 ls [.int (bI (!decide (uN x < q)))]) by
    refine lv_iload_n hx hb dX2_noClause_0 rfl (lv_at hl 1 rfl) ?_
    refine lv_if_lt (tgt := 12) hx hb dX2_noClause_1 rfl (fun h1 => ?_) (fun h1 => ?_)
    · refine lv_iconst (v := nI 1) hx hb dX2_noClause_12 (by decide) ?_
      refine lv_goto (tgt := 17) hx hb dX2_noClause_13 rfl ?_
      refine lv_nm (y := bI (!decide (uN x < q))) (hw_1.trans (congrArg bI (show true = (!decide (uN x < q)) by first | (rw [decide_eq_true (hw_in' (by omega) h1 h2)]; rfl) | (rw [decide_eq_false (hw_big' (by omega) h2)]; rfl) | (rw [decide_eq_false (fun h9 => (hw_pos (n := q) (by omega) h9).1 h1)]; rfl)))) ?_
      exact mk
    · refine lv_iload_n hx hb dX2_noClause_4 rfl (lv_at hl 1 rfl) ?_
      refine lv_aload_n hx hb dX2_noClause_5 rfl (lv_at hl 0 rfl) ?_
      refine va_get (D := D) (ci := 2) (v := .int (nI q)) (C := RX2) (T := TX2) (N := 14) hx hb ht inX2 hown hK hP 0 rfl rfl 2 (by decide) (ht _ wf_X2_many) (fun _ h9 => h9) rfl dX2_noClause_6 ?_
      refine lv_icmp_lt (tgt := 16) hx hb dX2_noClause_9 rfl (fun h2 => ?_) (fun h2 => ?_)
      · refine lv_iconst (v := nI 0) hx hb dX2_noClause_16 (by decide) ?_
        refine lv_nm (y := bI (!decide (uN x < q))) (hw_0.trans (congrArg bI (show false = (!decide (uN x < q)) by first | (rw [decide_eq_true (hw_in' (by omega) h1 h2)]; rfl) | (rw [decide_eq_false (hw_big' (by omega) h2)]; rfl) | (rw [decide_eq_false (fun h9 => (hw_pos (n := q) (by omega) h9).1 h1)]; rfl)))) ?_
        exact mk
      · refine lv_iconst (v := nI 1) hx hb dX2_noClause_12 (by decide) ?_
        refine lv_goto (tgt := 17) hx hb dX2_noClause_13 rfl ?_
        refine lv_nm (y := bI (!decide (uN x < q))) (hw_1.trans (congrArg bI (show true = (!decide (uN x < q)) by first | (rw [decide_eq_true (hw_in' (by omega) h1 h2)]; rfl) | (rw [decide_eq_false (hw_big' (by omega) h2)]; rfl) | (rw [decide_eq_false (fun h9 => (hw_pos (n := q) (by omega) h9).1 h1)]; rfl)))) ?_
        exact mk
  exact W.zret hx hb hr (bI_nar _) (fun t ht2 _ => ⟨hw_ret (rfl), ht2⟩) (fun _ h => by cases h) dX2_noClause_17

set_option maxHeartbeats 4000000 in
set_option maxRecDepth 100000 in
theorem m_isAdams (l : Launch) (D : va_G) (cI cZ : ClassId) (om my mz mv mt n a q d v u1 u2 : Nat) (kn mr : Bool) (sk : Int32) (Y Z : Nat → Nat) (T : Nat → Int32) (wn : Nat → Bool) (ok : dOk n a q d v Y Z) (i : Nat) (hi : i < 32) : Met l yX2_isAdams (kX2_isAdams :: aW) { frames := 0, cells := 0, slots := 0, locals := 0 } (rPre [.ref om, .int (nI i)] D [(om, .inr (2, [.int (nI n), .int (nI a), .int (nI q), .ref my, .ref mz, .int (bI kn), .int sk, .int (bI mr), .int (nI u1), .int (nI u2), .ref mv, .int (nI (sd_pos d v)), .int (nI d), .ref mt])), (my, .inl (cI, 24, .inl (fun jq => nI (Y jq)))), (mz, .inl (cI, 24, .inl (fun jq => nI (Z jq)))), (mv, .inl (cZ, 2048, .inl (fun jq => bI (wn jq)))), (mt, .inl (cI, 10, .inl T))] [(cI, .int), (cZ, .boolean)]) (QcRead (bI (a.testBit i))) 0 0 (fun _ => False) := by
  obtain ⟨hn1, hn, ha, h5, hq, hY, hZ, hd, hv⟩ := id ok
  have h2n := hw_p10 hn
  refine Met.ofW (cc := cX2_isAdams) (maxL := 2) (ret := (some .boolean)) (by decide) rfl ?_
  intro p e s m args below meth c s₁ Bo hml hpre
  obtain ⟨rfl, hP, hK, hN⟩ := hpre
  have hx := Bo.exec
  have hb := Bo.bytes
  have hr := Bo.returns
  have hts := atoms_spec (ws := kX2_isAdams :: aW) Bo.pre
  have ht : ∀ w ∈ aW, w.before _ s = true := fun w h => hts w (List.mem_cons_of_mem _ h)
  have hown : s.vm.findClass RX2 = some m.cls := findClass_of_methodNamed Bo.named
  have hlocks := Bo.notSynchronized
  have hP : va_P D clS [(om, .inr (2, [.int (nI n), .int (nI a), .int (nI q), .ref my, .ref mz, .int (bI kn), .int sk, .int (bI mr), .int (nI u1), .int (nI u2), .ref mv, .int (nI (sd_pos d v)), .int (nI d), .ref mt])), (my, .inl (cI, 24, .inl (fun jq => nI (Y jq)))), (mz, .inl (cI, 24, .inl (fun jq => nI (Z jq)))), (mv, .inl (cZ, 2048, .inl (fun jq => bI (wn jq)))), (mt, .inl (cI, 10, .inl T))] s.heap := hP
  have hl := lv_entry ([.ref om, .int (nI i)]) (n := 2) (Nat.le_of_ble_eq_true rfl)
  rw [lg_entry_eq]
  generalize (lg_sl ([.ref om, .int (nI i)]) ++ List.replicate (2 - (lg_sl ([.ref om, .int (nI i)])).length) Slot.unset).toArray = ls at hl ⊢
  have hl : lv_has ls 2 [(0, .ref om), (1, .int (nI i))] := hl
  refine lv_aload_n hx hb dX2_isAdams_0 rfl (lv_at hl 0 rfl) ?_
  refine va_get (D := D) (ci := 2) (v := .int (nI a)) (C := RX2) (T := TX2) (N := 14) hx hb ht inX2 hown hK hP 0 rfl rfl 1 (by decide) (ht _ wf_X2_adam) (fun _ h9 => h9) rfl dX2_isAdams_1 ?_
  refine lv_iload_n hx hb dX2_isAdams_4 rfl (lv_at hl 1 rfl) ?_
  refine lv_ishr hx hb dX2_isAdams_5 ?_
  refine lv_iconst (v := nI 1) hx hb dX2_isAdams_6 (by decide) ?_
  refine lv_iand hx hb dX2_isAdams_7 ?_
  refine lv_nm (y := bI ((uN (nI a)).testBit i)) (hw_sbit _ (by omega)) ?_
  refine lv_nm (y := bI (a.testBit i)) (congrArg bI (by rw [uN_nI (by omega)])) ?_
  refine lv_iconst (v := nI 1) hx hb dX2_isAdams_8 (by decide) ?_
  suffices mk : W p l e (headSpec (kX2_isAdams :: aW) { frames := 0, cells := 0, slots := 0, locals := 0 }).room s m (([.ref om, .int (nI i)] : List Value).toArray) below meth c s.heap [] 0 0 (MQ below (QcRead (bI (a.testBit i))) (([.ref om, .int (nI i)] : List Value).toArray) s 0 0 (fun _ => False)) (F0 m 17 ls [.int (bI (a.testBit i))]) by
    refine lv_icmp_ne (tgt := 16) hx hb dX2_isAdams_9 rfl (fun h1 => ?_) (fun h1 => ?_)
    · have h1 : (a.testBit i) = false := bI_ne1 h1
      refine lv_iconst (v := nI 0) hx hb dX2_isAdams_16 (by decide) ?_
      refine lv_nm (y := bI (a.testBit i)) (hw_0.trans (congrArg bI (show false = (a.testBit i) by rw [h1]))) ?_
      exact mk
    · have h1 : (a.testBit i) = true := (bI_eq1 _).mp h1
      refine lv_iconst (v := nI 1) hx hb dX2_isAdams_12 (by decide) ?_
      refine lv_goto (tgt := 17) hx hb dX2_isAdams_13 rfl ?_
      refine lv_nm (y := bI (a.testBit i)) (hw_1.trans (congrArg bI (show true = (a.testBit i) by rw [h1]))) ?_
      exact mk
  exact W.zret hx hb hr (bI_nar _) (fun t ht2 _ => ⟨hw_ret (rfl), ht2⟩) (fun _ h => by cases h) dX2_isAdams_17

set_option maxHeartbeats 4000000 in
set_option maxRecDepth 100000 in
theorem m_noEves (l : Launch) (D : va_G) (cI cZ : ClassId) (om my mz mv mt n a q d v u1 u2 : Nat) (kn mr : Bool) (sk : Int32) (Y Z : Nat → Nat) (T : Nat → Int32) (wn : Nat → Bool) (ok : dOk n a q d v Y Z) (x : Int32) : Met l yX2_noEves (kX2_noEves :: aW) { frames := 1, cells := 0, slots := 0, locals := 21 } (rPre [.ref om, .int x] D [(om, .inr (2, [.int (nI n), .int (nI a), .int (nI q), .ref my, .ref mz, .int (bI kn), .int sk, .int (bI mr), .int (nI u1), .int (nI u2), .ref mv, .int (nI (sd_pos d v)), .int (nI d), .ref mt])), (my, .inl (cI, 24, .inl (fun jq => nI (Y jq)))), (mz, .inl (cI, 24, .inl (fun jq => nI (Z jq)))), (mv, .inl (cZ, 2048, .inl (fun jq => bI (wn jq)))), (mt, .inl (cI, 10, .inl T))] [(cI, .int), (cZ, .boolean)]) (QcRead (bI (!(decide (uN x < n) && !a.testBit (uN x))))) 0 0 (fun _ => False) := by
  obtain ⟨hn1, hn, ha, h5, hq, hY, hZ, hd, hv⟩ := id ok
  have h2n := hw_p10 hn
  refine Met.ofW (cc := cX2_noEves) (maxL := 2) (ret := (some .boolean)) (by decide) rfl ?_
  intro p e s m args below meth c s₁ Bo hml hpre
  obtain ⟨rfl, hP, hK, hN⟩ := hpre
  have hx := Bo.exec
  have hb := Bo.bytes
  have hr := Bo.returns
  have hts := atoms_spec (ws := kX2_noEves :: aW) Bo.pre
  have ht : ∀ w ∈ aW, w.before _ s = true := fun w h => hts w (List.mem_cons_of_mem _ h)
  have hown : s.vm.findClass RX2 = some m.cls := findClass_of_methodNamed Bo.named
  have hlocks := Bo.notSynchronized
  have hP : va_P D clS [(om, .inr (2, [.int (nI n), .int (nI a), .int (nI q), .ref my, .ref mz, .int (bI kn), .int sk, .int (bI mr), .int (nI u1), .int (nI u2), .ref mv, .int (nI (sd_pos d v)), .int (nI d), .ref mt])), (my, .inl (cI, 24, .inl (fun jq => nI (Y jq)))), (mz, .inl (cI, 24, .inl (fun jq => nI (Z jq)))), (mv, .inl (cZ, 2048, .inl (fun jq => bI (wn jq)))), (mt, .inl (cI, 10, .inl T))] s.heap := hP
  have hl := lv_entry ([.ref om, .int x]) (n := 2) (Nat.le_of_ble_eq_true rfl)
  rw [lg_entry_eq]
  generalize (lg_sl ([.ref om, .int x]) ++ List.replicate (2 - (lg_sl ([.ref om, .int x])).length) Slot.unset).toArray = ls at hl ⊢
  have hl : lv_has ls 2 [(0, .ref om), (1, .int x)] := hl
  suffices mk : W p l e (headSpec (kX2_noEves :: aW) { frames := 1, cells := 0, slots := 0, locals := 21 }).room s m (([.ref om, .int x] : List Value).toArray) below meth c s.heap [] 0 0 (MQ below (QcRead (bI (!(decide (uN x < n) && !a.testBit (uN x))))) (([.ref om, .int x] : List Value).toArray) s 0 0 (fun _ => False)) (F0 m 25 ls [.int (bI (!(decide (uN x < n) && !a.testBit (uN x))))]) by
    refine lv_iload_n hx hb dX2_noEves_0 rfl (lv_at hl 1 rfl) ?_
    refine lv_if_lt (tgt := 20) hx hb dX2_noEves_1 rfl (fun h1 => ?_) (fun h1 => ?_)
    · refine lv_iconst (v := nI 1) hx hb dX2_noEves_20 (by decide) ?_
      refine lv_goto (tgt := 25) hx hb dX2_noEves_21 rfl ?_
      refine lv_nm (y := bI (!(decide (uN x < n) && !a.testBit (uN x)))) (hw_1.trans (congrArg bI (show true = (!(decide (uN x < n) && !a.testBit (uN x))) by first | (rw [decide_eq_true (hw_in (by omega) h1 h2), h3]; rfl) | (rw [decide_eq_false (hw_big (by omega) h2)]; rfl) | (rw [decide_eq_false (fun h9 => (hw_pos (n := n) (by omega) h9).1 h1)]; rfl)))) ?_
      exact mk
    · refine lv_iload_n hx hb dX2_noEves_4 rfl (lv_at hl 1 rfl) ?_
      refine lv_aload_n hx hb dX2_noEves_5 rfl (lv_at hl 0 rfl) ?_
      refine va_get (D := D) (ci := 2) (v := .int (nI n)) (C := RX2) (T := TX2) (N := 14) hx hb ht inX2 hown hK hP 0 rfl rfl 0 (by decide) (ht _ wf_X2_n) (fun _ h9 => h9) rfl dX2_noEves_6 ?_
      refine lv_icmp_ge (tgt := 20) hx hb dX2_noEves_9 rfl (fun h2 => ?_) (fun h2 => ?_)
      · refine lv_iconst (v := nI 1) hx hb dX2_noEves_20 (by decide) ?_
        refine lv_goto (tgt := 25) hx hb dX2_noEves_21 rfl ?_
        refine lv_nm (y := bI (!(decide (uN x < n) && !a.testBit (uN x)))) (hw_1.trans (congrArg bI (show true = (!(decide (uN x < n) && !a.testBit (uN x))) by first | (rw [decide_eq_true (hw_in (by omega) h1 h2), h3]; rfl) | (rw [decide_eq_false (hw_big (by omega) h2)]; rfl) | (rw [decide_eq_false (fun h9 => (hw_pos (n := n) (by omega) h9).1 h1)]; rfl)))) ?_
        exact mk
      · refine lv_aload_n hx hb dX2_noEves_12 rfl (lv_at hl 0 rfl) ?_
        refine lv_iload_n hx hb dX2_noEves_13 rfl (lv_at hl 1 rfl) ?_
        have hxn := hw_in (n := n) (by omega) h1 h2
        refine lv_nm (y := nI (uN x)) ((nI_uN x).symm) ?_
        refine hw_callR (va_runV (b := om) (As := [.int (nI (uN x))]) (rest := []) ⟨hx, hb, hml, hown, ht⟩ (m_isAdams l D cI cZ om my mz mv mt n a q d v u1 u2 kn mr sk Y Z T wn ok (uN x) (by omega)) (cwV 1 ht (gV wm_X2_X2_isAdams wi_X2_isAdams ws_X2_isAdams wn_X2 wc_X2_isAdams) rfl rfl rfl (by decide +kernel) ⟨Nat.le_of_ble_eq_true rfl, Nat.le_of_ble_eq_true rfl⟩) (rPre_V 0 hP hK hN rfl rfl) rfl rfl hl.1 rfl (lv_room (Nat.le_of_ble_eq_true rfl)) dX2_noEves_14 ⟨Nat.zero_le _, Nat.zero_le _⟩) ?_
        refine lv_if_eq (tgt := 24) hx hb dX2_noEves_17 rfl (fun h3 => ?_) (fun h3 => ?_)
        · have h3 : (a.testBit (uN x)) = false := (bI_eq0 _).mp h3
          refine lv_iconst (v := nI 0) hx hb dX2_noEves_24 (by decide) ?_
          refine lv_nm (y := bI (!(decide (uN x < n) && !a.testBit (uN x)))) (hw_0.trans (congrArg bI (show false = (!(decide (uN x < n) && !a.testBit (uN x))) by first | (rw [decide_eq_true (hw_in (by omega) h1 h2), h3]; rfl) | (rw [decide_eq_false (hw_big (by omega) h2)]; rfl) | (rw [decide_eq_false (fun h9 => (hw_pos (n := n) (by omega) h9).1 h1)]; rfl)))) ?_
          exact mk
        · have h3 : (a.testBit (uN x)) = true := bI_ne0 h3
          refine lv_iconst (v := nI 1) hx hb dX2_noEves_20 (by decide) ?_
          refine lv_goto (tgt := 25) hx hb dX2_noEves_21 rfl ?_
          refine lv_nm (y := bI (!(decide (uN x < n) && !a.testBit (uN x)))) (hw_1.trans (congrArg bI (show true = (!(decide (uN x < n) && !a.testBit (uN x))) by first | (rw [decide_eq_true (hw_in (by omega) h1 h2), h3]; rfl) | (rw [decide_eq_false (hw_big (by omega) h2)]; rfl) | (rw [decide_eq_false (fun h9 => (hw_pos (n := n) (by omega) h9).1 h1)]; rfl)))) ?_
          exact mk
  exact W.zret hx hb hr (bI_nar _) (fun t ht2 _ => ⟨hw_ret (rfl), ht2⟩) (fun _ h => by cases h) dX2_noEves_25

set_option maxHeartbeats 4000000 in
set_option maxRecDepth 100000 in
theorem m_before (l : Launch) (D : va_G) (cI cZ : ClassId) (om my mz mv mt n a q d v u1 u2 : Nat) (kn mr : Bool) (sk : Int32) (Y Z : Nat → Nat) (T : Nat → Int32) (wn : Nat → Bool) (ok : dOk n a q d v Y Z) (j : Nat) (hj : j ≤ n) : Met l yX2_before (kX2_before :: aW) { frames := 1, cells := 0, slots := 0, locals := 21 } (rPre [.ref om, .int (nI j)] D [(om, .inr (2, [.int (nI n), .int (nI a), .int (nI q), .ref my, .ref mz, .int (bI kn), .int sk, .int (bI mr), .int (nI u1), .int (nI u2), .ref mv, .int (nI (sd_pos d v)), .int (nI d), .ref mt])), (my, .inl (cI, 24, .inl (fun jq => nI (Y jq)))), (mz, .inl (cI, 24, .inl (fun jq => nI (Z jq)))), (mv, .inl (cZ, 2048, .inl (fun jq => bI (wn jq)))), (mt, .inl (cI, 10, .inl T))] [(cI, .int), (cZ, .boolean)]) (QcRead (nI (sd_ct a j))) 0 0 (fun _ => False) := by
  obtain ⟨hn1, hn, ha, h5, hq, hY, hZ, hd, hv⟩ := id ok
  have h2n := hw_p10 hn
  refine Met.ofW (cc := cX2_before) (maxL := 4) (ret := (some .int)) (by decide) rfl ?_
  intro p e s m args below meth c s₁ Bo hml hpre
  obtain ⟨rfl, hP, hK, hN⟩ := hpre
  have hx := Bo.exec
  have hb := Bo.bytes
  have hr := Bo.returns
  have hts := atoms_spec (ws := kX2_before :: aW) Bo.pre
  have ht : ∀ w ∈ aW, w.before _ s = true := fun w h => hts w (List.mem_cons_of_mem _ h)
  have hown : s.vm.findClass RX2 = some m.cls := findClass_of_methodNamed Bo.named
  have hlocks := Bo.notSynchronized
  have hP : va_P D clS [(om, .inr (2, [.int (nI n), .int (nI a), .int (nI q), .ref my, .ref mz, .int (bI kn), .int sk, .int (bI mr), .int (nI u1), .int (nI u2), .ref mv, .int (nI (sd_pos d v)), .int (nI d), .ref mt])), (my, .inl (cI, 24, .inl (fun jq => nI (Y jq)))), (mz, .inl (cI, 24, .inl (fun jq => nI (Z jq)))), (mv, .inl (cZ, 2048, .inl (fun jq => bI (wn jq)))), (mt, .inl (cI, 10, .inl T))] s.heap := hP
  have hl := lv_entry ([.ref om, .int (nI j)]) (n := 4) (Nat.le_of_ble_eq_true rfl)
  rw [lg_entry_eq]
  generalize (lg_sl ([.ref om, .int (nI j)]) ++ List.replicate (4 - (lg_sl ([.ref om, .int (nI j)])).length) Slot.unset).toArray = ls at hl ⊢
  have hl : lv_has ls 4 [(0, .ref om), (1, .int (nI j))] := hl
  refine lv_iconst (v := nI 0) hx hb dX2_before_0 (by decide) ?_
  refine lv_istore_n hx hb dX2_before_1 rfl hl (by decide) rfl (fun ls hl => ?_)
  have hl : lv_has ls 4 [(2, .int (nI 0)), (0, .ref om), (1, .int (nI j))] := hl
  refine lv_iconst (v := nI 0) hx hb dX2_before_2 (by decide) ?_
  refine lv_istore_n hx hb dX2_before_3 rfl hl (by decide) rfl (fun ls hl => ?_)
  have hl : lv_has ls 4 [(3, .int (nI 0)), (2, .int (nI 0)), (0, .ref om), (1, .int (nI j))] := hl
  have hl : lv_has ls 4 [(0, .ref om), (1, .int (nI j)), (2, .int (nI 0)), (3, .int (nI 0))] := lv_sub hl [2, 3, 1, 0] rfl
  suffices lp : ∀ k : Nat, ∀ (i : Nat) (ls : Array Slot), (i + k = j) → lv_has ls 4 [(0, .ref om), (1, .int (nI j)), (2, .int (nI (sd_ct a i))), (3, .int (nI i))] → W p l e (headSpec (kX2_before :: aW) { frames := 1, cells := 0, slots := 0, locals := 21 }).room s m (([.ref om, .int (nI j)] : List Value).toArray) below meth c s.heap [] 0 0 (MQ below (QcRead (nI (sd_ct a j))) (([.ref om, .int (nI j)] : List Value).toArray) s 0 0 (fun _ => False)) (F0 m 4 ls []) by
    exact lp j 0 ls (by omega) hl
  intro k
  induction k with
  | zero =>
    intro i ls hi hl
    refine lv_iload_n hx hb dX2_before_4 rfl (lv_at hl 3 rfl) ?_
    refine lv_iload_n hx hb dX2_before_5 rfl (lv_at hl 1 rfl) ?_
    refine lv_icmp_ge (tgt := 31) hx hb dX2_before_6 rfl (fun _ => ?_) (fun hc => absurd (show ¬ (j ≤ i) from fun h9 => hc ((nI_leI (by omega) (by omega)).mpr h9)) (by omega))
    refine lv_iload_n hx hb dX2_before_31 rfl (lv_at hl 2 rfl) ?_
    exact W.iret hx hb hr (fun t ht2 _ => ⟨hw_ret (by rw [show i = j by omega]), ht2⟩) (fun _ h => by cases h) dX2_before_32
  | succ k ih =>
    intro i ls hi hl
    have hci := sd_ct_le a i
    refine lv_iload_n hx hb dX2_before_4 rfl (lv_at hl 3 rfl) ?_
    refine lv_iload_n hx hb dX2_before_5 rfl (lv_at hl 1 rfl) ?_
    refine lv_icmp_ge (tgt := 31) hx hb dX2_before_6 rfl (fun hc => absurd (show j ≤ i from (nI_leI (by omega) (by omega)).mp hc) (by omega)) (fun _ => ?_)
    refine lv_aload_n hx hb dX2_before_9 rfl (lv_at hl 0 rfl) ?_
    refine lv_iload_n hx hb dX2_before_10 rfl (lv_at hl 3 rfl) ?_
    refine hw_callR (va_runV (b := om) (As := [.int (nI i)]) (rest := []) ⟨hx, hb, hml, hown, ht⟩ (m_isAdams l D cI cZ om my mz mv mt n a q d v u1 u2 kn mr sk Y Z T wn ok i (by omega)) (cwV 1 ht (gV wm_X2_X2_isAdams wi_X2_isAdams ws_X2_isAdams wn_X2 wc_X2_isAdams) rfl rfl rfl (by decide +kernel) ⟨Nat.le_of_ble_eq_true rfl, Nat.le_of_ble_eq_true rfl⟩) (rPre_V 0 hP hK hN rfl rfl) rfl rfl hl.1 rfl (lv_room (Nat.le_of_ble_eq_true rfl)) dX2_before_11 ⟨Nat.zero_le _, Nat.zero_le _⟩) ?_
    suffices mk : W p l e (headSpec (kX2_before :: aW) { frames := 1, cells := 0, slots := 0, locals := 21 }).room s m (([.ref om, .int (nI j)] : List Value).toArray) below meth c s.heap [] 0 0 (MQ below (QcRead (nI (sd_ct a j))) (([.ref om, .int (nI j)] : List Value).toArray) s 0 0 (fun _ => False)) (F0 m 24 ls [.int (nI (sd_ct a (i + 1)))]) by
      refine lv_if_eq (tgt := 23) hx hb dX2_before_14 rfl (fun h1 => ?_) (fun h1 => ?_)
      · have h1 : (a.testBit i) = false := (bI_eq0 _).mp h1
        refine lv_iload_n hx hb dX2_before_23 rfl (lv_at hl 2 rfl) ?_
        refine lv_nm (y := nI (sd_ct a (i + 1))) (congrArg nI (by show _ = sd_ct a i + (a.testBit i).toNat; rw [h1]; rfl)) ?_
        exact mk
      · have h1 : (a.testBit i) = true := bI_ne0 h1
        refine lv_iload_n hx hb dX2_before_17 rfl (lv_at hl 2 rfl) ?_
        refine lv_iconst (v := nI 1) hx hb dX2_before_18 (by decide) ?_
        refine lv_iadd hx hb dX2_before_19 ?_
        refine lv_nm (y := nI ((sd_ct a i) + 1)) (nI_add _ _) ?_
        refine lv_nm (y := nI (sd_ct a (i + 1))) (congrArg nI (by show _ = sd_ct a i + (a.testBit i).toNat; rw [h1]; rfl)) ?_
        refine lv_goto (tgt := 24) hx hb dX2_before_20 rfl ?_
        exact mk
    refine lv_istore_n hx hb dX2_before_24 rfl hl (by decide) rfl (fun ls hl => ?_)
    have hl : lv_has ls 4 [(2, .int (nI (sd_ct a (i + 1)))), (0, .ref om), (1, .int (nI j)), (3, .int (nI i))] := hl
    refine lv_iinc (k := 3) (v := nI (i + 1)) hx hb dX2_before_25 hl rfl (hw_inc _) (by decide) rfl (fun ls hl => ?_)
    have hl : lv_has ls 4 [(3, .int (nI (i + 1))), (2, .int (nI (sd_ct a (i + 1)))), (0, .ref om), (1, .int (nI j))] := hl
    refine lv_goto (tgt := 4) hx hb dX2_before_28 rfl ?_
    have hl : lv_has ls 4 [(0, .ref om), (1, .int (nI j)), (2, .int (nI (sd_ct a (i + 1)))), (3, .int (nI (i + 1)))] := lv_sub hl [2, 3, 1, 0] rfl
    exact ih (i + 1) ls (by omega) hl

set_option maxHeartbeats 4000000 in
set_option maxRecDepth 100000 in
theorem m_allHold (l : Launch) (D : va_G) (cI cZ : ClassId) (om my mz mv mt n a q d v u1 u2 : Nat) (kn mr : Bool) (sk : Int32) (Y Z : Nat → Nat) (T : Nat → Int32) (wn : Nat → Bool) (ok : dOk n a q d v Y Z) (w : Nat) (skf : Nat → Bool) (hw : w < 2 ^ n) (hu1 : u1 < 2 ^ n) (hu2 : u2 < 2 ^ n) (hsk : ∀ i, i < 24 → (nI i = sk ↔ skf i = true)) : Met l yX2_allHold (kX2_allHold :: aW) { frames := 1, cells := 0, slots := 0, locals := 22 } (rPre [.ref om, .int (nI w)] D [(om, .inr (2, [.int (nI n), .int (nI a), .int (nI q), .ref my, .ref mz, .int (bI kn), .int sk, .int (bI mr), .int (nI u1), .int (nI u2), .ref mv, .int (nI (sd_pos d v)), .int (nI d), .ref mt])), (my, .inl (cI, 24, .inl (fun jq => nI (Y jq)))), (mz, .inl (cI, 24, .inl (fun jq => nI (Z jq)))), (mv, .inl (cZ, 2048, .inl (fun jq => bI (wn jq)))), (mt, .inl (cI, 10, .inl T))] [(cI, .int), (cZ, .boolean)]) (QcRead (bI (sd_al Y Z skf (!mr || !sd_fl u1 u2 w) w q))) 0 0 (fun _ => False) := by
  obtain ⟨hn1, hn, ha, h5, hq, hY, hZ, hd, hv⟩ := id ok
  have h2n := hw_p10 hn
  refine Met.ofW (cc := cX2_allHold) (maxL := 4) (ret := (some .boolean)) (by decide) rfl ?_
  intro p e s m args below meth c s₁ Bo hml hpre
  obtain ⟨rfl, hP, hK, hN⟩ := hpre
  have hx := Bo.exec
  have hb := Bo.bytes
  have hr := Bo.returns
  have hts := atoms_spec (ws := kX2_allHold :: aW) Bo.pre
  have ht : ∀ w ∈ aW, w.before _ s = true := fun w h => hts w (List.mem_cons_of_mem _ h)
  have hown : s.vm.findClass RX2 = some m.cls := findClass_of_methodNamed Bo.named
  have hlocks := Bo.notSynchronized
  have hP : va_P D clS [(om, .inr (2, [.int (nI n), .int (nI a), .int (nI q), .ref my, .ref mz, .int (bI kn), .int sk, .int (bI mr), .int (nI u1), .int (nI u2), .ref mv, .int (nI (sd_pos d v)), .int (nI d), .ref mt])), (my, .inl (cI, 24, .inl (fun jq => nI (Y jq)))), (mz, .inl (cI, 24, .inl (fun jq => nI (Z jq)))), (mv, .inl (cZ, 2048, .inl (fun jq => bI (wn jq)))), (mt, .inl (cI, 10, .inl T))] s.heap := hP
  have hl := lv_entry ([.ref om, .int (nI w)]) (n := 4) (Nat.le_of_ble_eq_true rfl)
  rw [lg_entry_eq]
  generalize (lg_sl ([.ref om, .int (nI w)]) ++ List.replicate (4 - (lg_sl ([.ref om, .int (nI w)])).length) Slot.unset).toArray = ls at hl ⊢
  have hl : lv_has ls 4 [(0, .ref om), (1, .int (nI w))] := hl
  suffices mk : W p l e (headSpec (kX2_allHold :: aW) { frames := 1, cells := 0, slots := 0, locals := 22 }).room s m (([.ref om, .int (nI w)] : List Value).toArray) below meth c s.heap [] 0 0 (MQ below (QcRead (bI (sd_al Y Z skf (!mr || !sd_fl u1 u2 w) w q))) (([.ref om, .int (nI w)] : List Value).toArray) s 0 0 (fun _ => False)) (F0 m 27 ls [.int (bI (!mr || !sd_fl u1 u2 w))]) by
    refine lv_aload_n hx hb dX2_allHold_0 rfl (lv_at hl 0 rfl) ?_
    refine va_get (D := D) (ci := 2) (v := .int (bI mr)) (C := RX2) (T := TX2) (N := 14) hx hb ht inX2 hown hK hP 0 rfl rfl 7 (by decide) (ht _ wf_X2_more) (fun _ h9 => h9) rfl dX2_allHold_1 ?_
    refine lv_if_eq (tgt := 22) hx hb dX2_allHold_4 rfl (fun h1 => ?_) (fun h1 => ?_)
    · have h1 : mr = false := (bI_eq0 _).mp h1
      refine lv_iconst (v := nI 1) hx hb dX2_allHold_22 (by decide) ?_
      refine lv_goto (tgt := 27) hx hb dX2_allHold_23 rfl ?_
      refine lv_nm (y := bI (!mr || !sd_fl u1 u2 w)) (hw_1.trans (congrArg bI (show true = (!mr || !sd_fl u1 u2 w) by first | (rw [h1, h2]; rfl) | (rw [h1]; rfl)))) ?_
      exact mk
    · have h1 : mr = true := bI_ne0 h1
      refine lv_aload_n hx hb dX2_allHold_7 rfl (lv_at hl 0 rfl) ?_
      refine va_get (D := D) (ci := 2) (v := .int (nI u1)) (C := RX2) (T := TX2) (N := 14) hx hb ht inX2 hown hK hP 0 rfl rfl 8 (by decide) (ht _ wf_X2_moreYes) (fun _ h9 => h9) rfl dX2_allHold_8 ?_
      refine lv_aload_n hx hb dX2_allHold_11 rfl (lv_at hl 0 rfl) ?_
      refine va_get (D := D) (ci := 2) (v := .int (nI u2)) (C := RX2) (T := TX2) (N := 14) hx hb ht inX2 hown hK hP 0 rfl rfl 9 (by decide) (ht _ wf_X2_moreNo) (fun _ h9 => h9) rfl dX2_allHold_12 ?_
      refine lv_iload_n hx hb dX2_allHold_15 rfl (lv_at hl 1 rfl) ?_
      refine hw_callR (va_runS (As := [.int (nI u1), .int (nI u2), .int (nI w)]) (rest := []) ⟨hx, hb, hml, hown, ht⟩ (m_holds l D cI cZ u1 u2 w (by omega) (by omega) (by omega)) (va_cwS 3 ht (gS wm_X2_X2_holds wt_X2_holds wn_X2 wc_X2_holds) rfl rfl rfl (by decide +kernel) ⟨Nat.le_of_ble_eq_true rfl, Nat.le_of_ble_eq_true rfl⟩) (rPre_S (hP.sub [] rfl) hK hN) rfl rfl hl.1 rfl (lv_room (Nat.le_of_ble_eq_true rfl)) dX2_allHold_16 ⟨Nat.zero_le _, Nat.zero_le _⟩) ?_
      refine lv_if_eq (tgt := 26) hx hb dX2_allHold_19 rfl (fun h2 => ?_) (fun h2 => ?_)
      · have h2 : (!sd_fl u1 u2 w) = false := (bI_eq0 _).mp h2
        refine lv_iconst (v := nI 0) hx hb dX2_allHold_26 (by decide) ?_
        refine lv_nm (y := bI (!mr || !sd_fl u1 u2 w)) (hw_0.trans (congrArg bI (show false = (!mr || !sd_fl u1 u2 w) by first | (rw [h1, h2]; rfl) | (rw [h1]; rfl)))) ?_
        exact mk
      · have h2 : (!sd_fl u1 u2 w) = true := bI_ne0 h2
        refine lv_iconst (v := nI 1) hx hb dX2_allHold_22 (by decide) ?_
        refine lv_goto (tgt := 27) hx hb dX2_allHold_23 rfl ?_
        refine lv_nm (y := bI (!mr || !sd_fl u1 u2 w)) (hw_1.trans (congrArg bI (show true = (!mr || !sd_fl u1 u2 w) by first | (rw [h1, h2]; rfl) | (rw [h1]; rfl)))) ?_
        exact mk
  refine lv_istore_n hx hb dX2_allHold_27 rfl hl (by decide) rfl (fun ls hl => ?_)
  have hl : lv_has ls 4 [(2, .int (bI (!mr || !sd_fl u1 u2 w))), (0, .ref om), (1, .int (nI w))] := hl
  refine lv_iconst (v := nI 0) hx hb dX2_allHold_28 (by decide) ?_
  refine lv_istore_n hx hb dX2_allHold_29 rfl hl (by decide) rfl (fun ls hl => ?_)
  have hl : lv_has ls 4 [(3, .int (nI 0)), (2, .int (bI (!mr || !sd_fl u1 u2 w))), (0, .ref om), (1, .int (nI w))] := hl
  have hl : lv_has ls 4 [(0, .ref om), (1, .int (nI w)), (2, .int (bI (!mr || !sd_fl u1 u2 w))), (3, .int (nI 0))] := lv_sub hl [2, 3, 1, 0] rfl
  suffices lp : ∀ k : Nat, ∀ (i : Nat) (ls : Array Slot), (i + k = q) → lv_has ls 4 [(0, .ref om), (1, .int (nI w)), (2, .int (bI (sd_al Y Z skf (!mr || !sd_fl u1 u2 w) w i))), (3, .int (nI i))] → W p l e (headSpec (kX2_allHold :: aW) { frames := 1, cells := 0, slots := 0, locals := 22 }).room s m (([.ref om, .int (nI w)] : List Value).toArray) below meth c s.heap [] 0 0 (MQ below (QcRead (bI (sd_al Y Z skf (!mr || !sd_fl u1 u2 w) w q))) (([.ref om, .int (nI w)] : List Value).toArray) s 0 0 (fun _ => False)) (F0 m 30 ls []) by
    exact lp q 0 ls (by omega) hl
  intro k
  induction k with
  | zero =>
    intro i ls hi hl
    refine lv_iload_n hx hb dX2_allHold_30 rfl (lv_at hl 3 rfl) ?_
    refine lv_aload_n hx hb dX2_allHold_31 rfl (lv_at hl 0 rfl) ?_
    refine va_get (D := D) (ci := 2) (v := .int (nI q)) (C := RX2) (T := TX2) (N := 14) hx hb ht inX2 hown hK hP 0 rfl rfl 2 (by decide) (ht _ wf_X2_many) (fun _ h9 => h9) rfl dX2_allHold_32 ?_
    refine lv_icmp_ge (tgt := 81) hx hb dX2_allHold_35 rfl (fun _ => ?_) (fun hc => absurd (show ¬ (q ≤ i) from fun h9 => hc ((nI_leI (by omega) (by omega)).mpr h9)) (by omega))
    refine lv_iload_n hx hb dX2_allHold_81 rfl (lv_at hl 2 rfl) ?_
    exact W.zret hx hb hr (bI_nar _) (fun t ht2 _ => ⟨hw_ret (by rw [show i = q by omega]), ht2⟩) (fun _ h => by cases h) dX2_allHold_82
  | succ k ih =>
    intro i ls hi hl
    have hYi := hY i
    have hZi := hZ i
    have hski := hsk i (by omega)
    refine lv_iload_n hx hb dX2_allHold_30 rfl (lv_at hl 3 rfl) ?_
    refine lv_aload_n hx hb dX2_allHold_31 rfl (lv_at hl 0 rfl) ?_
    refine va_get (D := D) (ci := 2) (v := .int (nI q)) (C := RX2) (T := TX2) (N := 14) hx hb ht inX2 hown hK hP 0 rfl rfl 2 (by decide) (ht _ wf_X2_many) (fun _ h9 => h9) rfl dX2_allHold_32 ?_
    refine lv_icmp_ge (tgt := 81) hx hb dX2_allHold_35 rfl (fun hc => absurd (show q ≤ i from (nI_leI (by omega) (by omega)).mp hc) (by omega)) (fun _ => ?_)
    refine lv_iload_n hx hb dX2_allHold_38 rfl (lv_at hl 2 rfl) ?_
    suffices mk : W p l e (headSpec (kX2_allHold :: aW) { frames := 1, cells := 0, slots := 0, locals := 22 }).room s m (([.ref om, .int (nI w)] : List Value).toArray) below meth c s.heap [] 0 0 (MQ below (QcRead (bI (sd_al Y Z skf (!mr || !sd_fl u1 u2 w) w q))) (([.ref om, .int (nI w)] : List Value).toArray) s 0 0 (fun _ => False)) (F0 m 74 ls [.int (bI (sd_al Y Z skf (!mr || !sd_fl u1 u2 w) w (i + 1)))]) by
      refine lv_if_eq (tgt := 73) hx hb dX2_allHold_39 rfl (fun h1 => ?_) (fun h1 => ?_)
      · have h1 : (sd_al Y Z skf (!mr || !sd_fl u1 u2 w) w i) = false := (bI_eq0 _).mp h1
        refine lv_iconst (v := nI 0) hx hb dX2_allHold_73 (by decide) ?_
        refine lv_nm (y := bI (sd_al Y Z skf (!mr || !sd_fl u1 u2 w) w (i + 1))) (hw_0.trans (congrArg bI (show false = (sd_al Y Z skf (!mr || !sd_fl u1 u2 w) w (i + 1)) by first | exact sd_al_t1 h1 (hski.mp h2) | exact sd_al_t2 h1 h3 | exact sd_al_f1 h1 | exact sd_al_f2 (hw_bn (fun h9 => h2 (hski.mpr h9))) h3))) ?_
        exact mk
      · have h1 : (sd_al Y Z skf (!mr || !sd_fl u1 u2 w) w i) = true := bI_ne0 h1
        refine lv_iload_n hx hb dX2_allHold_42 rfl (lv_at hl 3 rfl) ?_
        refine lv_aload_n hx hb dX2_allHold_43 rfl (lv_at hl 0 rfl) ?_
        refine va_get (D := D) (ci := 2) (v := .int sk) (C := RX2) (T := TX2) (N := 14) hx hb ht inX2 hown hK hP 0 rfl rfl 6 (by decide) (ht _ wf_X2_skip) (fun _ h9 => h9) rfl dX2_allHold_44 ?_
        refine lv_icmp_eq (tgt := 69) hx hb dX2_allHold_47 rfl (fun h2 => ?_) (fun h2 => ?_)
        · refine lv_iconst (v := nI 1) hx hb dX2_allHold_69 (by decide) ?_
          refine lv_goto (tgt := 74) hx hb dX2_allHold_70 rfl ?_
          refine lv_nm (y := bI (sd_al Y Z skf (!mr || !sd_fl u1 u2 w) w (i + 1))) (hw_1.trans (congrArg bI (show true = (sd_al Y Z skf (!mr || !sd_fl u1 u2 w) w (i + 1)) by first | exact sd_al_t1 h1 (hski.mp h2) | exact sd_al_t2 h1 h3 | exact sd_al_f1 h1 | exact sd_al_f2 (hw_bn (fun h9 => h2 (hski.mpr h9))) h3))) ?_
          exact mk
        · refine lv_aload_n hx hb dX2_allHold_50 rfl (lv_at hl 0 rfl) ?_
          refine va_get (D := D) (ci := 2) (v := .ref my) (C := RX2) (T := TX2) (N := 14) hx hb ht inX2 hown hK hP 0 rfl rfl 3 (by decide) (ht _ wf_X2_yes) (fun _ h9 => h9) rfl dX2_allHold_51 ?_
          refine lv_iload_n hx hb dX2_allHold_54 rfl (lv_at hl 3 rfl) ?_
          refine na_nald (f := Y) hx hb hK hP 1 0 rfl rfl (j := i) (by omega) (by omega) dX2_allHold_55 ?_
          refine lv_aload_n hx hb dX2_allHold_56 rfl (lv_at hl 0 rfl) ?_
          refine va_get (D := D) (ci := 2) (v := .ref mz) (C := RX2) (T := TX2) (N := 14) hx hb ht inX2 hown hK hP 0 rfl rfl 4 (by decide) (ht _ wf_X2_no) (fun _ h9 => h9) rfl dX2_allHold_57 ?_
          refine lv_iload_n hx hb dX2_allHold_60 rfl (lv_at hl 3 rfl) ?_
          refine na_nald (f := Z) hx hb hK hP 2 0 rfl rfl (j := i) (by omega) (by omega) dX2_allHold_61 ?_
          refine lv_iload_n hx hb dX2_allHold_62 rfl (lv_at hl 1 rfl) ?_
          refine hw_callR (va_runS (As := [.int (nI (Y i)), .int (nI (Z i)), .int (nI w)]) (rest := []) ⟨hx, hb, hml, hown, ht⟩ (m_holds l D cI cZ (Y i) (Z i) w (by omega) (by omega) (by omega)) (va_cwS 3 ht (gS wm_X2_X2_holds wt_X2_holds wn_X2 wc_X2_holds) rfl rfl rfl (by decide +kernel) ⟨Nat.le_of_ble_eq_true rfl, Nat.le_of_ble_eq_true rfl⟩) (rPre_S (hP.sub [] rfl) hK hN) rfl rfl hl.1 rfl (lv_room (Nat.le_of_ble_eq_true rfl)) dX2_allHold_63 ⟨Nat.zero_le _, Nat.zero_le _⟩) ?_
          refine lv_if_eq (tgt := 73) hx hb dX2_allHold_66 rfl (fun h3 => ?_) (fun h3 => ?_)
          · have h3 : (!sd_fl (Y i) (Z i) w) = false := (bI_eq0 _).mp h3
            refine lv_iconst (v := nI 0) hx hb dX2_allHold_73 (by decide) ?_
            refine lv_nm (y := bI (sd_al Y Z skf (!mr || !sd_fl u1 u2 w) w (i + 1))) (hw_0.trans (congrArg bI (show false = (sd_al Y Z skf (!mr || !sd_fl u1 u2 w) w (i + 1)) by first | exact sd_al_t1 h1 (hski.mp h2) | exact sd_al_t2 h1 h3 | exact sd_al_f1 h1 | exact sd_al_f2 (hw_bn (fun h9 => h2 (hski.mpr h9))) h3))) ?_
            exact mk
          · have h3 : (!sd_fl (Y i) (Z i) w) = true := bI_ne0 h3
            refine lv_iconst (v := nI 1) hx hb dX2_allHold_69 (by decide) ?_
            refine lv_goto (tgt := 74) hx hb dX2_allHold_70 rfl ?_
            refine lv_nm (y := bI (sd_al Y Z skf (!mr || !sd_fl u1 u2 w) w (i + 1))) (hw_1.trans (congrArg bI (show true = (sd_al Y Z skf (!mr || !sd_fl u1 u2 w) w (i + 1)) by first | exact sd_al_t1 h1 (hski.mp h2) | exact sd_al_t2 h1 h3 | exact sd_al_f1 h1 | exact sd_al_f2 (hw_bn (fun h9 => h2 (hski.mpr h9))) h3))) ?_
            exact mk
    refine lv_istore_n hx hb dX2_allHold_74 rfl hl (by decide) rfl (fun ls hl => ?_)
    have hl : lv_has ls 4 [(2, .int (bI (sd_al Y Z skf (!mr || !sd_fl u1 u2 w) w (i + 1)))), (0, .ref om), (1, .int (nI w)), (3, .int (nI i))] := hl
    refine lv_iinc (k := 3) (v := nI (i + 1)) hx hb dX2_allHold_75 hl rfl (hw_inc _) (by decide) rfl (fun ls hl => ?_)
    have hl : lv_has ls 4 [(3, .int (nI (i + 1))), (2, .int (bI (sd_al Y Z skf (!mr || !sd_fl u1 u2 w) w (i + 1)))), (0, .ref om), (1, .int (nI w))] := hl
    refine lv_goto (tgt := 30) hx hb dX2_allHold_78 rfl ?_
    have hl : lv_has ls 4 [(0, .ref om), (1, .int (nI w)), (2, .int (bI (sd_al Y Z skf (!mr || !sd_fl u1 u2 w) w (i + 1)))), (3, .int (nI (i + 1)))] := lv_sub hl [2, 3, 1, 0] rfl
    exact ih (i + 1) ls (by omega) hl

set_option maxHeartbeats 4000000 in
set_option maxRecDepth 100000 in
theorem m_onesAt (l : Launch) (D : va_G) (cI cZ : ClassId) (om my mz mv mt n a q d v u1 u2 : Nat) (kn mr : Bool) (sk : Int32) (Y Z : Nat → Nat) (T : Nat → Int32) (wn : Nat → Bool) (ok : dOk n a q d v Y Z) (w : Nat) (hw : w < 2 ^ 31) : Met l yX2_onesAt (kX2_onesAt :: aW) { frames := 0, cells := 0, slots := 0, locals := 0 } (rPre [.ref om, .int (nI w)] D [(om, .inr (2, [.int (nI n), .int (nI a), .int (nI q), .ref my, .ref mz, .int (bI kn), .int sk, .int (bI mr), .int (nI u1), .int (nI u2), .ref mv, .int (nI (sd_pos d v)), .int (nI d), .ref mt])), (my, .inl (cI, 24, .inl (fun jq => nI (Y jq)))), (mz, .inl (cI, 24, .inl (fun jq => nI (Z jq)))), (mv, .inl (cZ, 2048, .inl (fun jq => bI (wn jq)))), (mt, .inl (cI, 10, .inl T))] [(cI, .int), (cZ, .boolean)]) (QcRead (nI (sd_on n w n))) 0 0 (fun _ => False) := by
  obtain ⟨hn1, hn, ha, h5, hq, hY, hZ, hd, hv⟩ := id ok
  have h2n := hw_p10 hn
  refine Met.ofW (cc := cX2_onesAt) (maxL := 4) (ret := (some .int)) (by decide) rfl ?_
  intro p e s m args below meth c s₁ Bo hml hpre
  obtain ⟨rfl, hP, hK, hN⟩ := hpre
  have hx := Bo.exec
  have hb := Bo.bytes
  have hr := Bo.returns
  have hts := atoms_spec (ws := kX2_onesAt :: aW) Bo.pre
  have ht : ∀ w ∈ aW, w.before _ s = true := fun w h => hts w (List.mem_cons_of_mem _ h)
  have hown : s.vm.findClass RX2 = some m.cls := findClass_of_methodNamed Bo.named
  have hlocks := Bo.notSynchronized
  have hP : va_P D clS [(om, .inr (2, [.int (nI n), .int (nI a), .int (nI q), .ref my, .ref mz, .int (bI kn), .int sk, .int (bI mr), .int (nI u1), .int (nI u2), .ref mv, .int (nI (sd_pos d v)), .int (nI d), .ref mt])), (my, .inl (cI, 24, .inl (fun jq => nI (Y jq)))), (mz, .inl (cI, 24, .inl (fun jq => nI (Z jq)))), (mv, .inl (cZ, 2048, .inl (fun jq => bI (wn jq)))), (mt, .inl (cI, 10, .inl T))] s.heap := hP
  have hl := lv_entry ([.ref om, .int (nI w)]) (n := 4) (Nat.le_of_ble_eq_true rfl)
  rw [lg_entry_eq]
  generalize (lg_sl ([.ref om, .int (nI w)]) ++ List.replicate (4 - (lg_sl ([.ref om, .int (nI w)])).length) Slot.unset).toArray = ls at hl ⊢
  have hl : lv_has ls 4 [(0, .ref om), (1, .int (nI w))] := hl
  refine lv_iconst (v := nI 0) hx hb dX2_onesAt_0 (by decide) ?_
  refine lv_istore_n hx hb dX2_onesAt_1 rfl hl (by decide) rfl (fun ls hl => ?_)
  have hl : lv_has ls 4 [(2, .int (nI 0)), (0, .ref om), (1, .int (nI w))] := hl
  refine lv_iconst (v := nI 0) hx hb dX2_onesAt_2 (by decide) ?_
  refine lv_istore_n hx hb dX2_onesAt_3 rfl hl (by decide) rfl (fun ls hl => ?_)
  have hl : lv_has ls 4 [(3, .int (nI 0)), (2, .int (nI 0)), (0, .ref om), (1, .int (nI w))] := hl
  have hl : lv_has ls 4 [(0, .ref om), (1, .int (nI w)), (2, .int (nI 0)), (3, .int (nI 0))] := lv_sub hl [2, 3, 1, 0] rfl
  suffices lp : ∀ k : Nat, ∀ (i : Nat) (ls : Array Slot), (i + k = n) → lv_has ls 4 [(0, .ref om), (1, .int (nI w)), (2, .int (nI (sd_on n w i))), (3, .int (nI i))] → W p l e (headSpec (kX2_onesAt :: aW) { frames := 0, cells := 0, slots := 0, locals := 0 }).room s m (([.ref om, .int (nI w)] : List Value).toArray) below meth c s.heap [] 0 0 (MQ below (QcRead (nI (sd_on n w n))) (([.ref om, .int (nI w)] : List Value).toArray) s 0 0 (fun _ => False)) (F0 m 4 ls []) by
    exact lp n 0 ls (by omega) hl
  intro k
  induction k with
  | zero =>
    intro i ls hi hl
    refine lv_iload_n hx hb dX2_onesAt_4 rfl (lv_at hl 3 rfl) ?_
    refine lv_aload_n hx hb dX2_onesAt_5 rfl (lv_at hl 0 rfl) ?_
    refine va_get (D := D) (ci := 2) (v := .int (nI n)) (C := RX2) (T := TX2) (N := 14) hx hb ht inX2 hown hK hP 0 rfl rfl 0 (by decide) (ht _ wf_X2_n) (fun _ h9 => h9) rfl dX2_onesAt_6 ?_
    refine lv_icmp_ge (tgt := 44) hx hb dX2_onesAt_9 rfl (fun _ => ?_) (fun hc => absurd (show ¬ (n ≤ i) from fun h9 => hc ((nI_leI (by omega) (by omega)).mpr h9)) (by omega))
    refine lv_iload_n hx hb dX2_onesAt_44 rfl (lv_at hl 2 rfl) ?_
    exact W.iret hx hb hr (fun t ht2 _ => ⟨hw_ret (by rw [show i = n by omega]), ht2⟩) (fun _ h => by cases h) dX2_onesAt_45
  | succ k ih =>
    intro i ls hi hl
    refine lv_iload_n hx hb dX2_onesAt_4 rfl (lv_at hl 3 rfl) ?_
    refine lv_aload_n hx hb dX2_onesAt_5 rfl (lv_at hl 0 rfl) ?_
    refine va_get (D := D) (ci := 2) (v := .int (nI n)) (C := RX2) (T := TX2) (N := 14) hx hb ht inX2 hown hK hP 0 rfl rfl 0 (by decide) (ht _ wf_X2_n) (fun _ h9 => h9) rfl dX2_onesAt_6 ?_
    refine lv_icmp_ge (tgt := 44) hx hb dX2_onesAt_9 rfl (fun hc => absurd (show n ≤ i from (nI_leI (by omega) (by omega)).mp hc) (by omega)) (fun _ => ?_)
    refine lv_iload_n hx hb dX2_onesAt_12 rfl (lv_at hl 1 rfl) ?_
    refine lv_aload_n hx hb dX2_onesAt_13 rfl (lv_at hl 0 rfl) ?_
    refine va_get (D := D) (ci := 2) (v := .int (nI n)) (C := RX2) (T := TX2) (N := 14) hx hb ht inX2 hown hK hP 0 rfl rfl 0 (by decide) (ht _ wf_X2_n) (fun _ h9 => h9) rfl dX2_onesAt_14 ?_
    refine lv_iconst (v := nI 1) hx hb dX2_onesAt_17 (by decide) ?_
    refine lv_isub hx hb dX2_onesAt_18 ?_
    refine lv_nm (y := nI (n - 1)) (pk_sub (by omega)) ?_
    refine lv_iload_n hx hb dX2_onesAt_19 rfl (lv_at hl 3 rfl) ?_
    refine lv_isub hx hb dX2_onesAt_20 ?_
    refine lv_nm (y := nI ((n - 1) - i)) (pk_sub (by omega)) ?_
    refine lv_ishr hx hb dX2_onesAt_21 ?_
    refine lv_iconst (v := nI 1) hx hb dX2_onesAt_22 (by decide) ?_
    refine lv_iand hx hb dX2_onesAt_23 ?_
    refine lv_nm (y := bI ((uN (nI w)).testBit ((n - 1) - i))) (hw_sbit _ (by omega)) ?_
    refine lv_nm (y := bI (w.testBit (n - 1 - i))) (congrArg bI (by rw [uN_nI (by omega)])) ?_
    refine lv_iconst (v := nI 1) hx hb dX2_onesAt_24 (by decide) ?_
    suffices mk : W p l e (headSpec (kX2_onesAt :: aW) { frames := 0, cells := 0, slots := 0, locals := 0 }).room s m (([.ref om, .int (nI w)] : List Value).toArray) below meth c s.heap [] 0 0 (MQ below (QcRead (nI (sd_on n w n))) (([.ref om, .int (nI w)] : List Value).toArray) s 0 0 (fun _ => False)) (F0 m 37 ls [.int (nI (sd_on n w (i + 1)))]) by
      refine lv_icmp_ne (tgt := 36) hx hb dX2_onesAt_25 rfl (fun h1 => ?_) (fun h1 => ?_)
      · have h1 : (w.testBit (n - 1 - i)) = false := bI_ne1 h1
        refine lv_iload_n hx hb dX2_onesAt_36 rfl (lv_at hl 2 rfl) ?_
        refine lv_nm (y := nI (sd_on n w (i + 1))) (congrArg nI (by show _ = sd_on n w i + (w.testBit (n - 1 - i)).toNat * 2 ^ i; rw [h1]; simp)) ?_
        exact mk
      · have h1 : (w.testBit (n - 1 - i)) = true := (bI_eq1 _).mp h1
        refine lv_iload_n hx hb dX2_onesAt_28 rfl (lv_at hl 2 rfl) ?_
        refine lv_iconst (v := nI 1) hx hb dX2_onesAt_29 (by decide) ?_
        refine lv_iload_n hx hb dX2_onesAt_30 rfl (lv_at hl 3 rfl) ?_
        refine lv_ishl hx hb dX2_onesAt_31 ?_
        refine lv_nm (y := nI (2 ^ i)) (hw_shl1' (by omega)) ?_
        refine lv_iadd hx hb dX2_onesAt_32 ?_
        refine lv_nm (y := nI ((sd_on n w i) + (2 ^ i))) (nI_add _ _) ?_
        refine lv_nm (y := nI (sd_on n w (i + 1))) (congrArg nI (by show _ = sd_on n w i + (w.testBit (n - 1 - i)).toNat * 2 ^ i; rw [h1]; simp)) ?_
        refine lv_goto (tgt := 37) hx hb dX2_onesAt_33 rfl ?_
        exact mk
    refine lv_istore_n hx hb dX2_onesAt_37 rfl hl (by decide) rfl (fun ls hl => ?_)
    have hl : lv_has ls 4 [(2, .int (nI (sd_on n w (i + 1)))), (0, .ref om), (1, .int (nI w)), (3, .int (nI i))] := hl
    refine lv_iinc (k := 3) (v := nI (i + 1)) hx hb dX2_onesAt_38 hl rfl (hw_inc _) (by decide) rfl (fun ls hl => ?_)
    have hl : lv_has ls 4 [(3, .int (nI (i + 1))), (2, .int (nI (sd_on n w (i + 1)))), (0, .ref om), (1, .int (nI w))] := hl
    refine lv_goto (tgt := 4) hx hb dX2_onesAt_41 rfl ?_
    have hl : lv_has ls 4 [(0, .ref om), (1, .int (nI w)), (2, .int (nI (sd_on n w (i + 1)))), (3, .int (nI (i + 1)))] := lv_sub hl [2, 3, 1, 0] rfl
    exact ih (i + 1) ls (by omega) hl

set_option maxHeartbeats 4000000 in
set_option maxRecDepth 100000 in
theorem m_fill (l : Launch) (D : va_G) (cI cZ : ClassId) (om my mz mv mt n a q d v u1 u2 : Nat) (kn mr : Bool) (sk : Int32) (Y Z : Nat → Nat) (T : Nat → Int32) (wn : Nat → Bool) (ok : dOk n a q d v Y Z) (sz : Nat) (S : Nat → Bool) (skf : Nat → Bool) (hu1 : u1 < 2 ^ n) (hu2 : u2 < 2 ^ n) (hsk : ∀ i, i < 24 → (nI i = sk ↔ skf i = true)) (hS9 : ∀ w, w < 2 ^ n → sd_al Y Z skf (!mr || !sd_fl u1 u2 w) w q = S w) (hw0 : wn 0 = false) (hwh : ∀ j, 2 * 2 ^ n ≤ j → wn j = false) : Met l yX2_fill (kX2_fill :: aW) { frames := 2, cells := 0, slots := 0, locals := 45 } (wPre [.ref om] D [(om, .inr (2, [.int (nI n), .int (nI a), .int (nI q), .ref my, .ref mz, .int (bI kn), .int sk, .int (bI mr), .int (nI u1), .int (nI u2), .ref mv, .int (nI (sd_pos d v)), .int (nI d), .ref mt])), (my, .inl (cI, 24, .inl (fun jq => nI (Y jq)))), (mz, .inl (cI, 24, .inl (fun jq => nI (Z jq)))), (mv, .inl (cZ, 2048, .inl (fun jq => bI (wn jq)))), (mt, .inl (cI, 10, .inl T))] [(cI, .int), (cZ, .boolean)] sz) (wQ none D [(om, .inr (2, [.int (nI n), .int (nI a), .int (nI q), .ref my, .ref mz, .int (bI kn), .int sk, .int (bI mr), .int (nI u1), .int (nI u2), .ref mv, .int (nI (sd_pos d v)), .int (nI d), .ref mt])), (my, .inl (cI, 24, .inl (fun jq => nI (Y jq)))), (mz, .inl (cI, 24, .inl (fun jq => nI (Z jq)))), (mv, .inl (cZ, 2048, .inl (fun jq => bI ((sd_wn n a S) jq)))), (mt, .inl (cI, 10, .inl T))] (va_A [(om, .inr (2, [.int (nI n), .int (nI a), .int (nI q), .ref my, .ref mz, .int (bI kn), .int sk, .int (bI mr), .int (nI u1), .int (nI u2), .ref mv, .int (nI (sd_pos d v)), .int (nI d), .ref mt])), (my, .inl (cI, 24, .inl (fun jq => nI (Y jq)))), (mz, .inl (cI, 24, .inl (fun jq => nI (Z jq)))), (mv, .inl (cZ, 2048, .inl (fun jq => bI (wn jq)))), (mt, .inl (cI, 10, .inl T))] sz)) 0 0 (va_A [(om, .inr (2, [.int (nI n), .int (nI a), .int (nI q), .ref my, .ref mz, .int (bI kn), .int sk, .int (bI mr), .int (nI u1), .int (nI u2), .ref mv, .int (nI (sd_pos d v)), .int (nI d), .ref mt])), (my, .inl (cI, 24, .inl (fun jq => nI (Y jq)))), (mz, .inl (cI, 24, .inl (fun jq => nI (Z jq)))), (mv, .inl (cZ, 2048, .inl (fun jq => bI (wn jq)))), (mt, .inl (cI, 10, .inl T))] sz) := by
  obtain ⟨hn1, hn, ha, h5, hq, hY, hZ, hd, hv⟩ := id ok
  have h2n := hw_p10 hn
  refine Met.ofW (cc := cX2_fill) (maxL := 3) (ret := none) (by decide) rfl ?_
  intro p e s m args below meth c s₁ Bo hml hpre
  obtain ⟨rfl, hsz, hP, hK, hN, hD0⟩ := hpre
  subst hsz
  have hD := hD0.self (sz := s.heap.size)
  generalize hAe : va_A [(om, .inr (2, [.int (nI n), .int (nI a), .int (nI q), .ref my, .ref mz, .int (bI kn), .int sk, .int (bI mr), .int (nI u1), .int (nI u2), .ref mv, .int (nI (sd_pos d v)), .int (nI d), .ref mt])), (my, .inl (cI, 24, .inl (fun jq => nI (Y jq)))), (mz, .inl (cI, 24, .inl (fun jq => nI (Z jq)))), (mv, .inl (cZ, 2048, .inl (fun jq => bI (wn jq)))), (mt, .inl (cI, 10, .inl T))] s.heap.size = A at hD ⊢
  have hA : ∀ q : Nat, s.heap.size ≤ q → A q := fun q h => by rw [← hAe]; exact Or.inr h
  have hS : va_S A s.heap s.heap [] := va_S.rf
  have hx := Bo.exec
  have hb := Bo.bytes
  have hr := Bo.returns
  have hts := atoms_spec (ws := kX2_fill :: aW) Bo.pre
  have ht : ∀ w ∈ aW, w.before _ s = true := fun w h => hts w (List.mem_cons_of_mem _ h)
  have hown : s.vm.findClass RX2 = some m.cls := findClass_of_methodNamed Bo.named
  have hlocks := Bo.notSynchronized
  have hP : va_P D clS [(om, .inr (2, [.int (nI n), .int (nI a), .int (nI q), .ref my, .ref mz, .int (bI kn), .int sk, .int (bI mr), .int (nI u1), .int (nI u2), .ref mv, .int (nI (sd_pos d v)), .int (nI d), .ref mt])), (my, .inl (cI, 24, .inl (fun jq => nI (Y jq)))), (mz, .inl (cI, 24, .inl (fun jq => nI (Z jq)))), (mv, .inl (cZ, 2048, .inl (fun jq => bI (wn jq)))), (mt, .inl (cI, 10, .inl T))] s.heap := hP
  have hl := lv_entry ([.ref om]) (n := 3) (Nat.le_of_ble_eq_true rfl)
  rw [lg_entry_eq]
  generalize (lg_sl ([.ref om]) ++ List.replicate (3 - (lg_sl ([.ref om])).length) Slot.unset).toArray = ls at hl ⊢
  have hl : lv_has ls 3 [(0, .ref om)] := hl
  have hpn := Nat.two_pow_pos n
  refine lv_iconst (v := nI 1) hx hb dX2_fill_0 (by decide) ?_
  refine lv_aload_n hx hb dX2_fill_1 rfl (lv_at hl 0 rfl) ?_
  refine va_get (D := D) (ci := 2) (v := .int (nI n)) (C := RX2) (T := TX2) (N := 14) hx hb ht inX2 hown hK hP 0 rfl rfl 0 (by decide) (ht _ wf_X2_n) (fun _ h9 => h9) rfl dX2_fill_2 ?_
  refine lv_ishl hx hb dX2_fill_5 ?_
  refine lv_nm (y := nI (2 ^ n)) (hw_shl1' (by omega)) ?_
  refine lv_istore_n hx hb dX2_fill_6 rfl hl (by decide) rfl (fun ls hl => ?_)
  have hl : lv_has ls 3 [(1, .int (nI (2 ^ n))), (0, .ref om)] := hl
  have hl : lv_has ls 3 [(0, .ref om), (1, .int (nI (2 ^ n)))] := lv_sub hl [1, 0] rfl
  suffices lp : ∀ k : Nat, ∀ (i : Nat) (F : Nat → Bool) (ls : Array Slot) (H : Heap) (locs : List Loc), (i + k = 2 * 2 ^ n) → (2 ^ n ≤ i) → (∀ j, 2 ^ n ≤ j → j < i → F j = sd_wn n a S j) → (∀ j, j = 0 ∨ 2 * 2 ^ n ≤ j → F j = false) → lv_has ls 3 [(0, .ref om), (1, .int (nI i))] → va_P D clS [(om, .inr (2, [.int (nI n), .int (nI a), .int (nI q), .ref my, .ref mz, .int (bI kn), .int sk, .int (bI mr), .int (nI u1), .int (nI u2), .ref mv, .int (nI (sd_pos d v)), .int (nI d), .ref mt])), (my, .inl (cI, 24, .inl (fun jq => nI (Y jq)))), (mz, .inl (cI, 24, .inl (fun jq => nI (Z jq)))), (mv, .inl (cZ, 2048, .inl (fun jq => bI (F jq)))), (mt, .inl (cI, 10, .inl T))] H → va_S A s.heap H locs → W p l e (headSpec (kX2_fill :: aW) { frames := 2, cells := 0, slots := 0, locals := 45 }).room s m (([.ref om] : List Value).toArray) below meth c H locs 0 0 (MQ below (wQ none D [(om, .inr (2, [.int (nI n), .int (nI a), .int (nI q), .ref my, .ref mz, .int (bI kn), .int sk, .int (bI mr), .int (nI u1), .int (nI u2), .ref mv, .int (nI (sd_pos d v)), .int (nI d), .ref mt])), (my, .inl (cI, 24, .inl (fun jq => nI (Y jq)))), (mz, .inl (cI, 24, .inl (fun jq => nI (Z jq)))), (mv, .inl (cZ, 2048, .inl (fun jq => bI ((sd_wn n a S) jq)))), (mt, .inl (cI, 10, .inl T))] A) (([.ref om] : List Value).toArray) s 0 0 A) (F0 m 7 ls []) by
    exact lp (2 ^ n) (2 ^ n) wn ls s.heap [] (by omega) (Nat.le_refl _) (fun j h8 h9 => by omega) (fun j h9 => h9.elim (fun h8 => by subst h8; exact hw0) (hwh j)) hl hP hS
  intro k
  induction k with
  | zero =>
    intro i F ls H locs hi hi2 hF ho hl hP hS
    have hD : va_D A [(om, .inr (2, [.int (nI n), .int (nI a), .int (nI q), .ref my, .ref mz, .int (bI kn), .int sk, .int (bI mr), .int (nI u1), .int (nI u2), .ref mv, .int (nI (sd_pos d v)), .int (nI d), .ref mt])), (my, .inl (cI, 24, .inl (fun jq => nI (Y jq)))), (mz, .inl (cI, 24, .inl (fun jq => nI (Z jq)))), (mv, .inl (cZ, 2048, .inl (fun jq => bI (F jq)))), (mt, .inl (cI, 10, .inl T))] := hw_ad hD rfl
    refine lv_iload_n hx hb dX2_fill_7 rfl (lv_at hl 1 rfl) ?_
    refine lv_iconst (v := nI 2) hx hb dX2_fill_8 (by decide) ?_
    refine lv_aload_n hx hb dX2_fill_9 rfl (lv_at hl 0 rfl) ?_
    refine va_get (D := D) (ci := 2) (v := .int (nI n)) (C := RX2) (T := TX2) (N := 14) hx hb ht inX2 hown hK hP 0 rfl rfl 0 (by decide) (ht _ wf_X2_n) (fun _ h9 => h9) rfl dX2_fill_10 ?_
    refine lv_ishl hx hb dX2_fill_13 ?_
    refine lv_nm (y := nI (2 * 2 ^ n)) (hw_shl2 (by omega)) ?_
    refine lv_icmp_ge (tgt := 38) hx hb dX2_fill_14 rfl (fun _ => ?_) (fun hc => absurd (show ¬ (2 * 2 ^ n ≤ i) from fun h9 => hc ((nI_leI (by omega) (by omega)).mpr h9)) (by omega))
    obtain rfl : i = 2 * 2 ^ n := by omega
    refine lv_aload_n hx hb dX2_fill_38 rfl (lv_at hl 0 rfl) ?_
    refine va_get (D := D) (ci := 2) (v := .int (nI n)) (C := RX2) (T := TX2) (N := 14) hx hb ht inX2 hown hK hP 0 rfl rfl 0 (by decide) (ht _ wf_X2_n) (fun _ h9 => h9) rfl dX2_fill_39 ?_
    refine lv_iconst (v := nI 1) hx hb dX2_fill_42 (by decide) ?_
    refine lv_isub hx hb dX2_fill_43 ?_
    refine lv_nm (y := nI (n - 1)) (pk_sub (by omega)) ?_
    refine lv_istore_n hx hb dX2_fill_44 rfl hl (by decide) rfl (fun ls hl => ?_)
    have hl : lv_has ls 3 [(1, .int (nI (n - 1))), (0, .ref om)] := hl
    have hl : lv_has ls 3 [(0, .ref om), (1, .int (nI (n - 1)))] := lv_sub hl [1, 0] rfl
    have hl : lv_has ls 3 [(0, .ref om), (1, .int (nI n - 1))] := by rw [show nI n - 1 = nI (n - 1) from pk_sub (a := n) (b := 1) (by omega)]; exact hl
    suffices lq : ∀ k : Nat, ∀ (F : Nat → Bool) (ls : Array Slot) (H : Heap) (locs : List Loc), (k ≤ n) → (∀ j, 2 ^ k ≤ j → j < 2 * 2 ^ n → F j = sd_wn n a S j) → (∀ j, j = 0 ∨ 2 * 2 ^ n ≤ j → F j = false) → lv_has ls 3 [(0, .ref om), (1, .int (nI k - 1))] → va_P D clS [(om, .inr (2, [.int (nI n), .int (nI a), .int (nI q), .ref my, .ref mz, .int (bI kn), .int sk, .int (bI mr), .int (nI u1), .int (nI u2), .ref mv, .int (nI (sd_pos d v)), .int (nI d), .ref mt])), (my, .inl (cI, 24, .inl (fun jq => nI (Y jq)))), (mz, .inl (cI, 24, .inl (fun jq => nI (Z jq)))), (mv, .inl (cZ, 2048, .inl (fun jq => bI (F jq)))), (mt, .inl (cI, 10, .inl T))] H → va_S A s.heap H locs → W p l e (headSpec (kX2_fill :: aW) { frames := 2, cells := 0, slots := 0, locals := 45 }).room s m (([.ref om] : List Value).toArray) below meth c H locs 0 0 (MQ below (wQ none D [(om, .inr (2, [.int (nI n), .int (nI a), .int (nI q), .ref my, .ref mz, .int (bI kn), .int sk, .int (bI mr), .int (nI u1), .int (nI u2), .ref mv, .int (nI (sd_pos d v)), .int (nI d), .ref mt])), (my, .inl (cI, 24, .inl (fun jq => nI (Y jq)))), (mz, .inl (cI, 24, .inl (fun jq => nI (Z jq)))), (mv, .inl (cZ, 2048, .inl (fun jq => bI ((sd_wn n a S) jq)))), (mt, .inl (cI, 10, .inl T))] A) (([.ref om] : List Value).toArray) s 0 0 A) (F0 m 45 ls []) by
      exact lq n F ls H locs (Nat.le_refl n) hF ho hl hP hS
    intro k
    induction k with
    | zero =>
      intro F ls H locs hk hF ho hl hP hS
      have hD : va_D A [(om, .inr (2, [.int (nI n), .int (nI a), .int (nI q), .ref my, .ref mz, .int (bI kn), .int sk, .int (bI mr), .int (nI u1), .int (nI u2), .ref mv, .int (nI (sd_pos d v)), .int (nI d), .ref mt])), (my, .inl (cI, 24, .inl (fun jq => nI (Y jq)))), (mz, .inl (cI, 24, .inl (fun jq => nI (Z jq)))), (mv, .inl (cZ, 2048, .inl (fun jq => bI (F jq)))), (mt, .inl (cI, 10, .inl T))] := hw_ad hD rfl
      refine lv_iload_n hx hb dX2_fill_45 rfl (lv_at hl 1 rfl) ?_
      refine lv_if_lt (tgt := 147) hx hb dX2_fill_46 rfl (fun _ => ?_) (fun hc => absurd (by decide) hc)
      have hP : va_P D clS [(om, .inr (2, [.int (nI n), .int (nI a), .int (nI q), .ref my, .ref mz, .int (bI kn), .int sk, .int (bI mr), .int (nI u1), .int (nI u2), .ref mv, .int (nI (sd_pos d v)), .int (nI d), .ref mt])), (my, .inl (cI, 24, .inl (fun jq => nI (Y jq)))), (mz, .inl (cI, 24, .inl (fun jq => nI (Z jq)))), (mv, .inl (cZ, 2048, .inl (fun jq => bI ((sd_wn n a S) jq)))), (mt, .inl (cI, 10, .inl T))] H := hw_cgz hP (sd_wn n a S) (q0 := 3) rfl (fun j hj => (Decidable.em (j = 0 ∨ 2 * 2 ^ n ≤ j)).elim (fun h9 => (ho j h9).trans (if_pos h9).symm) (fun h9 => hF j (by show 1 ≤ j; omega) (by omega))) rfl
      have hD : va_D A [(om, .inr (2, [.int (nI n), .int (nI a), .int (nI q), .ref my, .ref mz, .int (bI kn), .int sk, .int (bI mr), .int (nI u1), .int (nI u2), .ref mv, .int (nI (sd_pos d v)), .int (nI d), .ref mt])), (my, .inl (cI, 24, .inl (fun jq => nI (Y jq)))), (mz, .inl (cI, 24, .inl (fun jq => nI (Z jq)))), (mv, .inl (cZ, 2048, .inl (fun jq => bI ((sd_wn n a S) jq)))), (mt, .inl (cI, 10, .inl T))] := hw_ad hD rfl
      exact W.vret hx hb hr (fun t ht2 _ => ⟨rfl, by rw [ht2]; exact hP, hS.F ht2⟩) hS.2.2 dX2_fill_147
    | succ k ih2 =>
      intro F ls H locs hk hF ho hl hP hS
      have hD : va_D A [(om, .inr (2, [.int (nI n), .int (nI a), .int (nI q), .ref my, .ref mz, .int (bI kn), .int sk, .int (bI mr), .int (nI u1), .int (nI u2), .ref mv, .int (nI (sd_pos d v)), .int (nI d), .ref mt])), (my, .inl (cI, 24, .inl (fun jq => nI (Y jq)))), (mz, .inl (cI, 24, .inl (fun jq => nI (Z jq)))), (mv, .inl (cZ, 2048, .inl (fun jq => bI (F jq)))), (mt, .inl (cI, 10, .inl T))] := hw_ad hD rfl
      have hl : lv_has ls 3 [(0, .ref om), (1, .int (nI k))] := by rw [show nI k = nI (k + 1) - 1 from (nI_pred k).symm]; exact hl
      have hp := Nat.two_pow_succ k
      have hkn : 2 ^ (k + 1) ≤ 2 ^ n := Nat.pow_le_pow_right (by decide) hk
      refine lv_iload_n hx hb dX2_fill_45 rfl (lv_at hl 1 rfl) ?_
      refine lv_if_lt (tgt := 147) hx hb dX2_fill_46 rfl (fun hc => absurd (nI_pos (by omega) hc) id) (fun _ => ?_)
      refine lv_iconst (v := nI 1) hx hb dX2_fill_49 (by decide) ?_
      refine lv_iload_n hx hb dX2_fill_50 rfl (lv_at hl 1 rfl) ?_
      refine lv_ishl hx hb dX2_fill_51 ?_
      refine lv_nm (y := nI (2 ^ k)) (hw_shl1' (by omega)) ?_
      refine lv_istore_n hx hb dX2_fill_52 rfl hl (by decide) rfl (fun ls hl => ?_)
      have hl : lv_has ls 3 [(2, .int (nI (2 ^ k))), (0, .ref om), (1, .int (nI k))] := hl
      have hl : lv_has ls 3 [(0, .ref om), (1, .int (nI k)), (2, .int (nI (2 ^ k)))] := lv_sub hl [1, 2, 0] rfl
      have hk0 := hk
      suffices lr : ∀ k2 : Nat, ∀ (i : Nat) (F : Nat → Bool) (ls : Array Slot) (H : Heap) (locs : List Loc), (i + k2 = 2 * 2 ^ k) → (2 ^ k ≤ i) → (∀ j, 2 ^ (k + 1) ≤ j → j < 2 * 2 ^ n → F j = sd_wn n a S j) → (∀ j, 2 ^ k ≤ j → j < i → F j = sd_wn n a S j) → (∀ j, j = 0 ∨ 2 * 2 ^ n ≤ j → F j = false) → lv_has ls 3 [(0, .ref om), (1, .int (nI k)), (2, .int (nI i))] → va_P D clS [(om, .inr (2, [.int (nI n), .int (nI a), .int (nI q), .ref my, .ref mz, .int (bI kn), .int sk, .int (bI mr), .int (nI u1), .int (nI u2), .ref mv, .int (nI (sd_pos d v)), .int (nI d), .ref mt])), (my, .inl (cI, 24, .inl (fun jq => nI (Y jq)))), (mz, .inl (cI, 24, .inl (fun jq => nI (Z jq)))), (mv, .inl (cZ, 2048, .inl (fun jq => bI (F jq)))), (mt, .inl (cI, 10, .inl T))] H → va_S A s.heap H locs → W p l e (headSpec (kX2_fill :: aW) { frames := 2, cells := 0, slots := 0, locals := 45 }).room s m (([.ref om] : List Value).toArray) below meth c H locs 0 0 (MQ below (wQ none D [(om, .inr (2, [.int (nI n), .int (nI a), .int (nI q), .ref my, .ref mz, .int (bI kn), .int sk, .int (bI mr), .int (nI u1), .int (nI u2), .ref mv, .int (nI (sd_pos d v)), .int (nI d), .ref mt])), (my, .inl (cI, 24, .inl (fun jq => nI (Y jq)))), (mz, .inl (cI, 24, .inl (fun jq => nI (Z jq)))), (mv, .inl (cZ, 2048, .inl (fun jq => bI ((sd_wn n a S) jq)))), (mt, .inl (cI, 10, .inl T))] A) (([.ref om] : List Value).toArray) s 0 0 A) (F0 m 53 ls []) by
        exact lr (2 ^ k) (2 ^ k) F ls H locs (by omega) (Nat.le_refl _) hF (fun j h8 h9 => by omega) ho hl hP hS
      intro k2
      induction k2 with
      | zero =>
        intro i F ls H locs hi hi2 hF hF2 ho hl hP hS
        have hD : va_D A [(om, .inr (2, [.int (nI n), .int (nI a), .int (nI q), .ref my, .ref mz, .int (bI kn), .int sk, .int (bI mr), .int (nI u1), .int (nI u2), .ref mv, .int (nI (sd_pos d v)), .int (nI d), .ref mt])), (my, .inl (cI, 24, .inl (fun jq => nI (Y jq)))), (mz, .inl (cI, 24, .inl (fun jq => nI (Z jq)))), (mv, .inl (cZ, 2048, .inl (fun jq => bI (F jq)))), (mt, .inl (cI, 10, .inl T))] := hw_ad hD rfl
        refine lv_iload_n hx hb dX2_fill_53 rfl (lv_at hl 2 rfl) ?_
        refine lv_iconst (v := nI 2) hx hb dX2_fill_54 (by decide) ?_
        refine lv_iload_n hx hb dX2_fill_55 rfl (lv_at hl 1 rfl) ?_
        refine lv_ishl hx hb dX2_fill_56 ?_
        refine lv_nm (y := nI (2 * 2 ^ k)) (hw_shl2 (by omega)) ?_
        refine lv_icmp_ge (tgt := 141) hx hb dX2_fill_57 rfl (fun _ => ?_) (fun hc => absurd (show ¬ (2 * 2 ^ k ≤ i) from fun h9 => hc ((nI_leI (by omega) (by omega)).mpr h9)) (by omega))
        refine lv_iinc (k := 1) (v := nI k - 1) hx hb dX2_fill_141 hl rfl (hw_m1 _) (by decide) rfl (fun ls hl => ?_)
        have hl : lv_has ls 3 [(1, .int (nI k - 1)), (0, .ref om), (2, .int (nI i))] := hl
        refine lv_goto (tgt := 45) hx hb dX2_fill_144 rfl ?_
        have hl : lv_has ls 3 [(0, .ref om), (1, .int (nI k - 1))] := lv_sub hl [1, 0] rfl
        exact ih2 F ls H locs (by omega) (fun j h8 h9 => (Nat.lt_or_ge j (2 ^ (k + 1))).elim (fun h7 => hF2 j h8 (by omega)) (fun h7 => hF j h7 h9)) ho hl hP hS
      | succ k2 ih3 =>
        intro i F ls H locs hi hi2 hF hF2 ho hl hP hS
        have hD : va_D A [(om, .inr (2, [.int (nI n), .int (nI a), .int (nI q), .ref my, .ref mz, .int (bI kn), .int sk, .int (bI mr), .int (nI u1), .int (nI u2), .ref mv, .int (nI (sd_pos d v)), .int (nI d), .ref mt])), (my, .inl (cI, 24, .inl (fun jq => nI (Y jq)))), (mz, .inl (cI, 24, .inl (fun jq => nI (Z jq)))), (mv, .inl (cZ, 2048, .inl (fun jq => bI (F jq)))), (mt, .inl (cI, 10, .inl T))] := hw_ad hD rfl
        refine lv_iload_n hx hb dX2_fill_53 rfl (lv_at hl 2 rfl) ?_
        refine lv_iconst (v := nI 2) hx hb dX2_fill_54 (by decide) ?_
        refine lv_iload_n hx hb dX2_fill_55 rfl (lv_at hl 1 rfl) ?_
        refine lv_ishl hx hb dX2_fill_56 ?_
        refine lv_nm (y := nI (2 * 2 ^ k)) (hw_shl2 (by omega)) ?_
        refine lv_icmp_ge (tgt := 141) hx hb dX2_fill_57 rfl (fun hc => absurd (show 2 * 2 ^ k ≤ i from (nI_leI (by omega) (by omega)).mp hc) (by omega)) (fun _ => ?_)
        refine lv_aload_n hx hb dX2_fill_60 rfl (lv_at hl 0 rfl) ?_
        refine va_get (D := D) (ci := 2) (v := .ref mv) (C := RX2) (T := TX2) (N := 14) hx hb ht inX2 hown hK hP 0 rfl rfl 10 (by decide) (ht _ wf_X2_win) (fun _ h9 => h9) rfl dX2_fill_61 ?_
        refine lv_iload_n hx hb dX2_fill_64 rfl (lv_at hl 2 rfl) ?_
        refine lv_aload_n hx hb dX2_fill_65 rfl (lv_at hl 0 rfl) ?_
        refine lv_iload_n hx hb dX2_fill_66 rfl (lv_at hl 1 rfl) ?_
        refine hw_callR (va_runV (b := om) (As := [.int (nI k)]) (rest := [.int (nI i), .ref mv]) ⟨hx, hb, hml, hown, ht⟩ (m_isAdams l D cI cZ om my mz mv mt n a q d v u1 u2 kn mr sk Y Z T F ok k (by omega)) (cwV 1 ht (gV wm_X2_X2_isAdams wi_X2_isAdams ws_X2_isAdams wn_X2 wc_X2_isAdams) rfl rfl rfl (by decide +kernel) ⟨Nat.le_of_ble_eq_true rfl, Nat.le_of_ble_eq_true rfl⟩) (rPre_V 0 hP hK hN rfl rfl) rfl rfl hl.1 rfl (lv_room (Nat.le_of_ble_eq_true rfl)) dX2_fill_67 ⟨Nat.zero_le _, Nat.zero_le _⟩) ?_
        suffices mk : W p l e (headSpec (kX2_fill :: aW) { frames := 2, cells := 0, slots := 0, locals := 45 }).room s m (([.ref om] : List Value).toArray) below meth c H locs 0 0 (MQ below (wQ none D [(om, .inr (2, [.int (nI n), .int (nI a), .int (nI q), .ref my, .ref mz, .int (bI kn), .int sk, .int (bI mr), .int (nI u1), .int (nI u2), .ref mv, .int (nI (sd_pos d v)), .int (nI d), .ref mt])), (my, .inl (cI, 24, .inl (fun jq => nI (Y jq)))), (mz, .inl (cI, 24, .inl (fun jq => nI (Z jq)))), (mv, .inl (cZ, 2048, .inl (fun jq => bI ((sd_wn n a S) jq)))), (mt, .inl (cI, 10, .inl T))] A) (([.ref om] : List Value).toArray) s 0 0 A) (F0 m 134 ls [.int (bI (sd_C (a.testBit k) (F (2 * i)) (F (2 * i + 1)))), .int (nI i), .ref mv]) by
          refine lv_if_eq (tgt := 105) hx hb dX2_fill_70 rfl (fun h1 => ?_) (fun h1 => ?_)
          · have h1 : (a.testBit k) = false := (bI_eq0 _).mp h1
            refine lv_aload_n hx hb dX2_fill_105 rfl (lv_at hl 0 rfl) ?_
            refine va_get (D := D) (ci := 2) (v := .ref mv) (C := RX2) (T := TX2) (N := 14) hx hb ht inX2 hown hK hP 0 rfl rfl 10 (by decide) (ht _ wf_X2_win) (fun _ h9 => h9) rfl dX2_fill_106 ?_
            refine lv_iconst (v := nI 2) hx hb dX2_fill_109 (by decide) ?_
            refine lv_iload_n hx hb dX2_fill_110 rfl (lv_at hl 2 rfl) ?_
            refine lv_imul hx hb dX2_fill_111 ?_
            refine lv_nm (y := nI (2 * i)) (pk_mul _ _) ?_
            refine na_zald (f := F) hx hb hK hP 3 1 rfl rfl (j := 2 * i) (by omega) (by omega) dX2_fill_112 ?_
            refine lv_if_ne (tgt := 129) hx hb dX2_fill_113 rfl (fun h2 => ?_) (fun h2 => ?_)
            · have h2 : (F (2 * i)) = true := bI_ne0 h2
              refine lv_iconst (v := nI 1) hx hb dX2_fill_129 (by decide) ?_
              refine lv_goto (tgt := 134) hx hb dX2_fill_130 rfl ?_
              refine lv_nm (y := bI (sd_C (a.testBit k) (F (2 * i)) (F (2 * i + 1)))) (hw_1.trans (congrArg bI (show true = (sd_C (a.testBit k) (F (2 * i)) (F (2 * i + 1))) by revert h1 h2; unfold sd_C; generalize a.testBit k = x1; generalize F (2 * i) = x2; generalize F (2 * i + 1) = x3; revert x1 x2 x3; decide))) ?_
              exact mk
            · have h2 : (F (2 * i)) = false := (bI_eq0 _).mp h2
              refine lv_aload_n hx hb dX2_fill_116 rfl (lv_at hl 0 rfl) ?_
              refine va_get (D := D) (ci := 2) (v := .ref mv) (C := RX2) (T := TX2) (N := 14) hx hb ht inX2 hown hK hP 0 rfl rfl 10 (by decide) (ht _ wf_X2_win) (fun _ h9 => h9) rfl dX2_fill_117 ?_
              refine lv_iconst (v := nI 2) hx hb dX2_fill_120 (by decide) ?_
              refine lv_iload_n hx hb dX2_fill_121 rfl (lv_at hl 2 rfl) ?_
              refine lv_imul hx hb dX2_fill_122 ?_
              refine lv_nm (y := nI (2 * i)) (pk_mul _ _) ?_
              refine lv_iconst (v := nI 1) hx hb dX2_fill_123 (by decide) ?_
              refine lv_iadd hx hb dX2_fill_124 ?_
              refine lv_nm (y := nI ((2 * i) + 1)) (nI_add _ _) ?_
              refine na_zald (f := F) hx hb hK hP 3 1 rfl rfl (j := (2 * i) + 1) (by omega) (by omega) dX2_fill_125 ?_
              refine lv_if_eq (tgt := 133) hx hb dX2_fill_126 rfl (fun h3 => ?_) (fun h3 => ?_)
              · have h3 : (F ((2 * i) + 1)) = false := (bI_eq0 _).mp h3
                refine lv_iconst (v := nI 0) hx hb dX2_fill_133 (by decide) ?_
                refine lv_nm (y := bI (sd_C (a.testBit k) (F (2 * i)) (F (2 * i + 1)))) (hw_0.trans (congrArg bI (show false = (sd_C (a.testBit k) (F (2 * i)) (F (2 * i + 1))) by revert h1 h2 h3; unfold sd_C; generalize a.testBit k = x1; generalize F (2 * i) = x2; generalize F (2 * i + 1) = x3; revert x1 x2 x3; decide))) ?_
                exact mk
              · have h3 : (F ((2 * i) + 1)) = true := bI_ne0 h3
                refine lv_iconst (v := nI 1) hx hb dX2_fill_129 (by decide) ?_
                refine lv_goto (tgt := 134) hx hb dX2_fill_130 rfl ?_
                refine lv_nm (y := bI (sd_C (a.testBit k) (F (2 * i)) (F (2 * i + 1)))) (hw_1.trans (congrArg bI (show true = (sd_C (a.testBit k) (F (2 * i)) (F (2 * i + 1))) by revert h1 h2 h3; unfold sd_C; generalize a.testBit k = x1; generalize F (2 * i) = x2; generalize F (2 * i + 1) = x3; revert x1 x2 x3; decide))) ?_
                exact mk
          · have h1 : (a.testBit k) = true := bI_ne0 h1
            refine lv_aload_n hx hb dX2_fill_73 rfl (lv_at hl 0 rfl) ?_
            refine va_get (D := D) (ci := 2) (v := .ref mv) (C := RX2) (T := TX2) (N := 14) hx hb ht inX2 hown hK hP 0 rfl rfl 10 (by decide) (ht _ wf_X2_win) (fun _ h9 => h9) rfl dX2_fill_74 ?_
            refine lv_iconst (v := nI 2) hx hb dX2_fill_77 (by decide) ?_
            refine lv_iload_n hx hb dX2_fill_78 rfl (lv_at hl 2 rfl) ?_
            refine lv_imul hx hb dX2_fill_79 ?_
            refine lv_nm (y := nI (2 * i)) (pk_mul _ _) ?_
            refine na_zald (f := F) hx hb hK hP 3 1 rfl rfl (j := 2 * i) (by omega) (by omega) dX2_fill_80 ?_
            refine lv_if_eq (tgt := 101) hx hb dX2_fill_81 rfl (fun h2 => ?_) (fun h2 => ?_)
            · have h2 : (F (2 * i)) = false := (bI_eq0 _).mp h2
              refine lv_iconst (v := nI 0) hx hb dX2_fill_101 (by decide) ?_
              refine lv_goto (tgt := 134) hx hb dX2_fill_102 rfl ?_
              refine lv_nm (y := bI (sd_C (a.testBit k) (F (2 * i)) (F (2 * i + 1)))) (hw_0.trans (congrArg bI (show false = (sd_C (a.testBit k) (F (2 * i)) (F (2 * i + 1))) by revert h1 h2; unfold sd_C; generalize a.testBit k = x1; generalize F (2 * i) = x2; generalize F (2 * i + 1) = x3; revert x1 x2 x3; decide))) ?_
              exact mk
            · have h2 : (F (2 * i)) = true := bI_ne0 h2
              refine lv_aload_n hx hb dX2_fill_84 rfl (lv_at hl 0 rfl) ?_
              refine va_get (D := D) (ci := 2) (v := .ref mv) (C := RX2) (T := TX2) (N := 14) hx hb ht inX2 hown hK hP 0 rfl rfl 10 (by decide) (ht _ wf_X2_win) (fun _ h9 => h9) rfl dX2_fill_85 ?_
              refine lv_iconst (v := nI 2) hx hb dX2_fill_88 (by decide) ?_
              refine lv_iload_n hx hb dX2_fill_89 rfl (lv_at hl 2 rfl) ?_
              refine lv_imul hx hb dX2_fill_90 ?_
              refine lv_nm (y := nI (2 * i)) (pk_mul _ _) ?_
              refine lv_iconst (v := nI 1) hx hb dX2_fill_91 (by decide) ?_
              refine lv_iadd hx hb dX2_fill_92 ?_
              refine lv_nm (y := nI ((2 * i) + 1)) (nI_add _ _) ?_
              refine na_zald (f := F) hx hb hK hP 3 1 rfl rfl (j := (2 * i) + 1) (by omega) (by omega) dX2_fill_93 ?_
              refine lv_if_eq (tgt := 101) hx hb dX2_fill_94 rfl (fun h3 => ?_) (fun h3 => ?_)
              · have h3 : (F ((2 * i) + 1)) = false := (bI_eq0 _).mp h3
                refine lv_iconst (v := nI 0) hx hb dX2_fill_101 (by decide) ?_
                refine lv_goto (tgt := 134) hx hb dX2_fill_102 rfl ?_
                refine lv_nm (y := bI (sd_C (a.testBit k) (F (2 * i)) (F (2 * i + 1)))) (hw_0.trans (congrArg bI (show false = (sd_C (a.testBit k) (F (2 * i)) (F (2 * i + 1))) by revert h1 h2 h3; unfold sd_C; generalize a.testBit k = x1; generalize F (2 * i) = x2; generalize F (2 * i + 1) = x3; revert x1 x2 x3; decide))) ?_
                exact mk
              · have h3 : (F ((2 * i) + 1)) = true := bI_ne0 h3
                refine lv_iconst (v := nI 1) hx hb dX2_fill_97 (by decide) ?_
                refine lv_goto (tgt := 134) hx hb dX2_fill_98 rfl ?_
                refine lv_nm (y := bI (sd_C (a.testBit k) (F (2 * i)) (F (2 * i + 1)))) (hw_1.trans (congrArg bI (show true = (sd_C (a.testBit k) (F (2 * i)) (F (2 * i + 1))) by revert h1 h2 h3; unfold sd_C; generalize a.testBit k = x1; generalize F (2 * i) = x2; generalize F (2 * i + 1) = x3; revert x1 x2 x3; decide))) ?_
                exact mk
        refine lv_nm (y := bI (sd_wn n a S i)) (congrArg bI (by rw [hF (2 * i) (by omega) (by omega), hF (2 * i + 1) (by omega) (by omega)]; exact (sd_wn_node (by omega) hi2 (by omega)).symm)) ?_
        refine na_zast (f := F) (b := sd_wn n a S i) hx hb hK hP hD hS 3 1 rfl rfl (j := i) (by omega) (by omega) dX2_fill_134 (fun H locs hP hD hS => ?_)
        have hP : va_P D clS [(om, .inr (2, [.int (nI n), .int (nI a), .int (nI q), .ref my, .ref mz, .int (bI kn), .int sk, .int (bI mr), .int (nI u1), .int (nI u2), .ref mv, .int (nI (sd_pos d v)), .int (nI d), .ref mt])), (my, .inl (cI, 24, .inl (fun jq => nI (Y jq)))), (mz, .inl (cI, 24, .inl (fun jq => nI (Z jq)))), (mv, .inl (cZ, 2048, .inl (fun jq => bI ((va_up F i (sd_wn n a S i)) jq)))), (mt, .inl (cI, 10, .inl T))] H := hP
        have hD : va_D A [(om, .inr (2, [.int (nI n), .int (nI a), .int (nI q), .ref my, .ref mz, .int (bI kn), .int sk, .int (bI mr), .int (nI u1), .int (nI u2), .ref mv, .int (nI (sd_pos d v)), .int (nI d), .ref mt])), (my, .inl (cI, 24, .inl (fun jq => nI (Y jq)))), (mz, .inl (cI, 24, .inl (fun jq => nI (Z jq)))), (mv, .inl (cZ, 2048, .inl (fun jq => bI ((va_up F i (sd_wn n a S i)) jq)))), (mt, .inl (cI, 10, .inl T))] := hD
        refine lv_iinc (k := 2) (v := nI (i + 1)) hx hb dX2_fill_135 hl rfl (hw_inc _) (by decide) rfl (fun ls hl => ?_)
        have hl : lv_has ls 3 [(2, .int (nI (i + 1))), (0, .ref om), (1, .int (nI k))] := hl
        refine lv_goto (tgt := 53) hx hb dX2_fill_138 rfl ?_
        have hl : lv_has ls 3 [(0, .ref om), (1, .int (nI k)), (2, .int (nI (i + 1)))] := lv_sub hl [1, 2, 0] rfl
        exact ih3 (i + 1) (va_up F i (sd_wn n a S i)) ls H locs (by omega) (by omega) (fun j h8 h9 => (va_up_ne _ _ (by omega)).trans (hF j h8 h9)) (fun j h8 h9 => (Nat.lt_or_ge j i).elim (fun h7 => (va_up_ne _ _ (by omega)).trans (hF2 j h8 h7)) (fun h7 => by obtain rfl : j = i := (by omega); exact va_up_self _ _ _)) (fun j h9 => (va_up_ne _ _ (by have h8 := Nat.two_pow_pos k; omega)).trans (ho j h9)) hl hP hS
  | succ k ih =>
    intro i F ls H locs hi hi2 hF ho hl hP hS
    have hD : va_D A [(om, .inr (2, [.int (nI n), .int (nI a), .int (nI q), .ref my, .ref mz, .int (bI kn), .int sk, .int (bI mr), .int (nI u1), .int (nI u2), .ref mv, .int (nI (sd_pos d v)), .int (nI d), .ref mt])), (my, .inl (cI, 24, .inl (fun jq => nI (Y jq)))), (mz, .inl (cI, 24, .inl (fun jq => nI (Z jq)))), (mv, .inl (cZ, 2048, .inl (fun jq => bI (F jq)))), (mt, .inl (cI, 10, .inl T))] := hw_ad hD rfl
    refine lv_iload_n hx hb dX2_fill_7 rfl (lv_at hl 1 rfl) ?_
    refine lv_iconst (v := nI 2) hx hb dX2_fill_8 (by decide) ?_
    refine lv_aload_n hx hb dX2_fill_9 rfl (lv_at hl 0 rfl) ?_
    refine va_get (D := D) (ci := 2) (v := .int (nI n)) (C := RX2) (T := TX2) (N := 14) hx hb ht inX2 hown hK hP 0 rfl rfl 0 (by decide) (ht _ wf_X2_n) (fun _ h9 => h9) rfl dX2_fill_10 ?_
    refine lv_ishl hx hb dX2_fill_13 ?_
    refine lv_nm (y := nI (2 * 2 ^ n)) (hw_shl2 (by omega)) ?_
    refine lv_icmp_ge (tgt := 38) hx hb dX2_fill_14 rfl (fun hc => absurd (show 2 * 2 ^ n ≤ i from (nI_leI (by omega) (by omega)).mp hc) (by omega)) (fun _ => ?_)
    refine lv_aload_n hx hb dX2_fill_17 rfl (lv_at hl 0 rfl) ?_
    refine va_get (D := D) (ci := 2) (v := .ref mv) (C := RX2) (T := TX2) (N := 14) hx hb ht inX2 hown hK hP 0 rfl rfl 10 (by decide) (ht _ wf_X2_win) (fun _ h9 => h9) rfl dX2_fill_18 ?_
    refine lv_iload_n hx hb dX2_fill_21 rfl (lv_at hl 1 rfl) ?_
    refine lv_aload_n hx hb dX2_fill_22 rfl (lv_at hl 0 rfl) ?_
    refine lv_aload_n hx hb dX2_fill_23 rfl (lv_at hl 0 rfl) ?_
    refine lv_iload_n hx hb dX2_fill_24 rfl (lv_at hl 1 rfl) ?_
    refine hw_callR (va_runV (b := om) (As := [.int (nI i)]) (rest := [.ref om, .int (nI i), .ref mv]) ⟨hx, hb, hml, hown, ht⟩ (m_onesAt l D cI cZ om my mz mv mt n a q d v u1 u2 kn mr sk Y Z T F ok i (by omega)) (cwV 1 ht (gV wm_X2_X2_onesAt wi_X2_onesAt ws_X2_onesAt wn_X2 wc_X2_onesAt) rfl rfl rfl (by decide +kernel) ⟨Nat.le_of_ble_eq_true rfl, Nat.le_of_ble_eq_true rfl⟩) (rPre_V 0 hP hK hN rfl rfl) rfl rfl hl.1 rfl (lv_room (Nat.le_of_ble_eq_true rfl)) dX2_fill_25 ⟨Nat.zero_le _, Nat.zero_le _⟩) ?_
    have hon := sd_on_lt n i n
    refine hw_callR (va_runV (b := om) (As := [.int (nI (sd_on n i n))]) (rest := [.int (nI i), .ref mv]) ⟨hx, hb, hml, hown, ht⟩ (m_allHold l D cI cZ om my mz mv mt n a q d v u1 u2 kn mr sk Y Z T F ok (sd_on n i n) skf hon hu1 hu2 hsk) (cwV 1 ht (gV wm_X2_X2_allHold wi_X2_allHold ws_X2_allHold wn_X2 wc_X2_allHold) rfl rfl rfl (by decide +kernel) ⟨Nat.le_of_ble_eq_true rfl, Nat.le_of_ble_eq_true rfl⟩) (rPre_V 0 hP hK hN rfl rfl) rfl rfl hl.1 rfl (lv_room (Nat.le_of_ble_eq_true rfl)) dX2_fill_28 ⟨Nat.zero_le _, Nat.zero_le _⟩) ?_
    refine lv_nm (y := bI (sd_wn n a S i)) (congrArg bI ((hS9 _ hon).trans (sd_wn_leaf hi2 (by omega)).symm)) ?_
    refine na_zast (f := F) (b := sd_wn n a S i) hx hb hK hP hD hS 3 1 rfl rfl (j := i) (by omega) (by omega) dX2_fill_31 (fun H locs hP hD hS => ?_)
    have hP : va_P D clS [(om, .inr (2, [.int (nI n), .int (nI a), .int (nI q), .ref my, .ref mz, .int (bI kn), .int sk, .int (bI mr), .int (nI u1), .int (nI u2), .ref mv, .int (nI (sd_pos d v)), .int (nI d), .ref mt])), (my, .inl (cI, 24, .inl (fun jq => nI (Y jq)))), (mz, .inl (cI, 24, .inl (fun jq => nI (Z jq)))), (mv, .inl (cZ, 2048, .inl (fun jq => bI ((va_up F i (sd_wn n a S i)) jq)))), (mt, .inl (cI, 10, .inl T))] H := hP
    have hD : va_D A [(om, .inr (2, [.int (nI n), .int (nI a), .int (nI q), .ref my, .ref mz, .int (bI kn), .int sk, .int (bI mr), .int (nI u1), .int (nI u2), .ref mv, .int (nI (sd_pos d v)), .int (nI d), .ref mt])), (my, .inl (cI, 24, .inl (fun jq => nI (Y jq)))), (mz, .inl (cI, 24, .inl (fun jq => nI (Z jq)))), (mv, .inl (cZ, 2048, .inl (fun jq => bI ((va_up F i (sd_wn n a S i)) jq)))), (mt, .inl (cI, 10, .inl T))] := hD
    refine lv_iinc (k := 1) (v := nI (i + 1)) hx hb dX2_fill_32 hl rfl (hw_inc _) (by decide) rfl (fun ls hl => ?_)
    have hl : lv_has ls 3 [(1, .int (nI (i + 1))), (0, .ref om)] := hl
    refine lv_goto (tgt := 7) hx hb dX2_fill_35 rfl ?_
    have hl : lv_has ls 3 [(0, .ref om), (1, .int (nI (i + 1)))] := lv_sub hl [1, 0] rfl
    exact ih (i + 1) (va_up F i (sd_wn n a S i)) ls H locs (by omega) (by omega) (fun j h8 h9 => (Nat.lt_or_ge j i).elim (fun h7 => (va_up_ne _ _ (by omega)).trans (hF j h8 h7)) (fun h7 => by obtain rfl : j = i := (by omega); exact va_up_self _ _ _)) (fun j h9 => (va_up_ne _ _ (by omega)).trans (ho j h9)) hl hP hS
