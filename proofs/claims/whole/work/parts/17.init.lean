/-! The constructors. -/
/-- the end of a constructor: its own cells behind it, some of them new -/
def cQ {S : Type} (D : va_G) (B : S → va_W) (A : Nat → Prop) : Array Value → State → Outcome → State → Prop := fun _ st oc t => (∃ u : S, oc = .returned none ∧ va_P D clS (B u) t.heap ∧ va_D A (B u)) ∧ va_F A st t
section HN
variable {p : Program} {l : Launch} {e : Env} {R : Room} {s : State} {m : MethodId} {args : Array Value} {below : List Frame} {meth : Method} {c : Code} {H : Heap} {locs : List Loc} {cells slots : Nat} {Q : State → Prop}
variable {pc : Nat} {ls : Array Slot} {rest : List Value} {D : va_G} {A : Nat → Prop} {ws : va_W} {H0 : Heap}
theorem hw_new {S : Type} {B : S → va_W} {mc ms : Nat} {wc wr : va_W} {st0 : List Value} {av : Array Value} (hr : va_Run p l e R s m args below meth c H locs cells slots mc ms (F0 m pc ls st0) rest (cQ D B (va_A wc H.size) av) (va_A wc H.size)) (hP : va_P D clS ws H) (hD : va_D A ws) (hS : va_S A H0 H locs) (hA : ∀ q, H0.size ≤ q → A q)
    (isC isR : List Nat) (hC : isC.map (fun i => ws[i]?) = wc.map some) (hR : isR.map (fun i => ws[i]?) = wr.map some) (hnR : va_nd isR = true) (hdis : ∀ i ∈ isR, i ∉ isC)
    (kk : ∀ (u : S) (H1 : Heap) (locs1 : List Loc), va_P D clS (wr ++ B u) H1 → va_D A (wr ++ B u) → va_S A H0 H1 locs1 → W p l e R s m args below meth c H1 locs1 (cells + mc) (slots + ms) Q (F0 m (pc + 3) ls rest)) : W p l e R s m args below meth c H locs cells slots Q (F0 m pc ls st0) := by
  have hF := va_free (wc := wc) hD hS hA isC hC
  intro T hT X
  obtain ⟨v, st, t, T', L, h0, X', hL, e1, e2, ⟨⟨u, hv, hP1, hD1⟩, hz, hk⟩, hg⟩ := hr T hT X
  cases hv
  rw [h0] at hz hk
  have hj := va_join (wr := wr) (w1 := B u) (H1 := T'.heap) hP hD isC isR hC hR hnR hdis (fun q h1 h2 => by rw [e1]; exact hk q h1 h2) hF (by rw [e1]; exact hP1) hD1
  obtain ⟨t2, a1, b1⟩ := kk u T'.heap (locs ++ L) hj.1 hj.2
    ⟨Nat.le_trans hS.1 (by rw [e1]; exact hz), fun q h1 h2 => by rw [e1, hk q (Nat.lt_of_lt_of_le h1 hS.1) (fun z => h2 (hF q z))]; exact hS.2.1 q h1 h2, fun q hq => by
      rcases List.mem_append.mp hq with h | h
      · exact hS.2.2 q h
      · exact hF _ (hL q h)⟩ T' rfl X'
  exact ⟨t2, hg t2 a1, b1⟩
end HN
/-- how many variables: 1 to 10 -/
def sd_n (x : Int32) : Nat := if x < nI 1 then 1 else if nI 10 < x then 10 else uN x
theorem sd_n_b (x : Int32) : 1 ≤ sd_n x ∧ sd_n x ≤ 10 := by
  unfold sd_n
  by_cases h1 : x < nI 1
  · rw [if_pos h1]
    decide
  · rw [if_neg h1]
    by_cases h2 : nI 10 < x
    · rw [if_pos h2]
      decide
    · rw [if_neg h2]
      have h3 : ¬ x < 0 := fun h => h1 (Int32.lt_trans h (by decide))
      obtain ⟨j, hj, rfl⟩ := nI_of h3
      rw [uN_nI (by omega)]
      rw [nI_ltI hj (by decide)] at h1
      rw [nI_ltI (by decide) hj] at h2
      omega
theorem sd_n_mid {x : Int32} (h1 : ¬ x < nI 1) (h2 : ¬ nI 10 < x) : x = nI (sd_n x) := by
  unfold sd_n
  rw [if_neg h1, if_neg h2, nI_uN]
theorem sd_n_mm (x : Int32) : (if nI 1 < (if x < nI 10 then x else nI 10) then (if x < nI 10 then x else nI 10) else nI 1) = nI (sd_n x) := by
  by_cases h1 : x < nI 1
  · have h2 : x < nI 10 := Int32.lt_trans h1 (by decide)
    rw [if_pos h2, if_neg (fun h => Int32.lt_irrefl (Int32.lt_trans h h1))]
    unfold sd_n
    rw [if_pos h1]
  · by_cases h2 : nI 10 < x
    · rw [if_neg (fun h => Int32.lt_irrefl (Int32.lt_trans h h2)), if_pos (by decide)]
      unfold sd_n
      rw [if_neg h1, if_pos h2]
    · rw [← sd_n_mid h1 h2]
      have h3 : ¬ x < 0 := fun h => h1 (Int32.lt_trans h (by decide))
      obtain ⟨j, hj, rfl⟩ := nI_of h3
      rw [nI_ltI hj (by decide)] at h1
      rw [nI_ltI (by decide) hj] at h2
      by_cases h4 : j < 10
      · rw [if_pos (nI_lt h4 (by decide))]
        by_cases h5 : 1 < j
        · rw [if_pos (nI_lt h5 hj)]
        · rw [if_neg (nI_nlt (by omega) (by decide)), show j = 1 by omega]
      · rw [if_neg (nI_nlt (by omega) hj), if_pos (by decide), show j = 10 by omega]
theorem sd_kk_mod {x n : Nat} (hn : n ≤ 10) : sd_kk (x % 2 ^ n) 10 = sd_kk x n := by
  have h1 := sd_kk_end (x := x % 2 ^ n) (n := n) (fun i hi => Or.inl (by rw [Nat.testBit_mod_two_pow, decide_eq_false (by omega), Bool.false_and])) (10 - n)
  rw [show n + (10 - n) = 10 by omega] at h1
  rw [h1]
  exact sd_kk_cg n (fun i hi => by rw [Nat.testBit_mod_two_pow, decide_eq_true hi, Bool.true_and])
theorem sd_eve : ∀ n, n < 11 → ∀ a, a < 2 ^ n → nI (2 ^ n - 1) &&& (nI a ^^^ (-1)) = nI (2 ^ n - 1 - a) := by decide +kernel
section HM
variable {p : Program} {l : Launch} {e : Env} {R : Room} {s : State} {m : MethodId} {args : Array Value} {below : List Frame} {meth : Method} {c : Code} {H : Heap} {locs : List Loc} {cells slots : Nat} {Q : State → Prop} {pc : Nat} {ls : Array Slot} {rest : List Value}
theorem lv_nm2 {x y : Int32} {v : Value} (h : x = y) (k : W p l e R s m args below meth c H locs cells slots Q (F0 m pc ls (v :: .int y :: rest))) : W p l e R s m args below meth c H locs cells slots Q (F0 m pc ls (v :: .int x :: rest)) := by
  rw [h]; exact k
end HM

set_option maxHeartbeats 4000000 in
set_option maxRecDepth 100000 in
theorem c_firstOf (l : Launch) (D : va_G) (cI cZ : ClassId) (x : Nat) (hx9 : x < 1024) : Met l yX1_firstOf (kX1_firstOf :: aW) { frames := 1, cells := 0, slots := 0, locals := 21 } (rPre [.int (nI x), .int (nI 5)] D [] [(cI, .int), (cZ, .boolean)]) (QcRead (nI (sd_kk x 10).1)) 0 0 (fun _ => False) := by
  refine Met.ofW (cc := cX1_firstOf) (maxL := 5) (ret := (some .int)) (by decide) rfl ?_
  intro p e s m args below meth c s₁ Bo hml hpre
  obtain ⟨rfl, hP, hK, hN⟩ := hpre
  have hx := Bo.exec
  have hb := Bo.bytes
  have hr := Bo.returns
  have hts := atoms_spec (ws := kX1_firstOf :: aW) Bo.pre
  have ht : ∀ w ∈ aW, w.before _ s = true := fun w h => hts w (List.mem_cons_of_mem _ h)
  have hown : s.vm.findClass RX1 = some m.cls := findClass_of_methodNamed Bo.named
  have hlocks := Bo.notSynchronized
  have hP : va_P D clS [] s.heap := hP
  have hl := lv_entry ([.int (nI x), .int (nI 5)]) (n := 5) (Nat.le_of_ble_eq_true rfl)
  rw [lg_entry_eq]
  generalize (lg_sl ([.int (nI x), .int (nI 5)]) ++ List.replicate (5 - (lg_sl ([.int (nI x), .int (nI 5)])).length) Slot.unset).toArray = ls at hl ⊢
  have hl : lv_has ls 5 [(0, .int (nI x)), (1, .int (nI 5))] := hl
  refine lv_iconst (v := nI 0) hx hb dX1_firstOf_0 (by decide) ?_
  refine lv_istore_n hx hb dX1_firstOf_1 rfl hl (by decide) rfl (fun ls hl => ?_)
  have hl : lv_has ls 5 [(2, .int (nI 0)), (0, .int (nI x)), (1, .int (nI 5))] := hl
  refine lv_iconst (v := nI 0) hx hb dX1_firstOf_2 (by decide) ?_
  refine lv_istore_n hx hb dX1_firstOf_3 rfl hl (by decide) rfl (fun ls hl => ?_)
  have hl : lv_has ls 5 [(3, .int (nI 0)), (2, .int (nI 0)), (0, .int (nI x)), (1, .int (nI 5))] := hl
  refine lv_iconst (v := nI 0) hx hb dX1_firstOf_4 (by decide) ?_
  refine lv_istore hx hb dX1_firstOf_5 hl (by decide) rfl (fun ls hl => ?_)
  have hl : lv_has ls 5 [(4, .int (nI 0)), (3, .int (nI 0)), (2, .int (nI 0)), (0, .int (nI x)), (1, .int (nI 5))] := hl
  have hl : lv_has ls 5 [(0, .int (nI x)), (1, .int (nI 5)), (2, .int (nI 0)), (3, .int (nI 0)), (4, .int (nI 0))] := lv_sub hl [3, 4, 2, 1, 0] rfl
  suffices lp : ∀ k : Nat, ∀ (i : Nat) (ls : Array Slot), (i + k = 10) → lv_has ls 5 [(0, .int (nI x)), (1, .int (nI 5)), (2, .int (nI ((sd_kk x i).1))), (3, .int (nI ((sd_kk x i).2))), (4, .int (nI i))] → W p l e (headSpec (kX1_firstOf :: aW) { frames := 1, cells := 0, slots := 0, locals := 21 }).room s m (([.int (nI x), .int (nI 5)] : List Value).toArray) below meth c s.heap [] 0 0 (MQ below (QcRead (nI (sd_kk x 10).1)) (([.int (nI x), .int (nI 5)] : List Value).toArray) s 0 0 (fun _ => False)) (F0 m 7 ls []) by
    exact lp 10 0 ls (by omega) hl
  intro k
  induction k with
  | zero =>
    intro i ls hi hl
    refine lv_iload hx hb dX1_firstOf_7 (lv_at hl 4 rfl) ?_
    refine lv_bipush (v := nI 10) hx hb dX1_firstOf_9 (by decide) ?_
    refine lv_icmp_ge (tgt := 45) hx hb dX1_firstOf_11 rfl (fun _ => ?_) (fun hc => absurd (show ¬ (10 ≤ i) from fun h9 => hc ((nI_leI (by omega) (by omega)).mpr h9)) (by omega))
    refine lv_iload_n hx hb dX1_firstOf_45 rfl (lv_at hl 2 rfl) ?_
    exact W.iret hx hb hr (fun t ht2 _ => ⟨hw_ret (by rw [show i = 10 by omega]), ht2⟩) (fun _ h => by cases h) dX1_firstOf_46
  | succ k ih =>
    intro i ls hi hl
    have hk5 := sd_kk_5 x i
    have hkl := sd_kk_lt x i
    have h2i : 2 ^ i ≤ 1024 := hw_p10 (by omega)
    refine lv_iload hx hb dX1_firstOf_7 (lv_at hl 4 rfl) ?_
    refine lv_bipush (v := nI 10) hx hb dX1_firstOf_9 (by decide) ?_
    refine lv_icmp_ge (tgt := 45) hx hb dX1_firstOf_11 rfl (fun hc => absurd (show 10 ≤ i from (nI_leI (by omega) (by omega)).mp hc) (by omega)) (fun _ => ?_)
    refine lv_iload_n hx hb dX1_firstOf_14 rfl (lv_at hl 3 rfl) ?_
    refine lv_iload_n hx hb dX1_firstOf_15 rfl (lv_at hl 1 rfl) ?_
    refine lv_icmp_ge (tgt := 45) hx hb dX1_firstOf_16 rfl (fun h1 => ?_) (fun h1 => ?_)
    · have h1 : 5 ≤ (sd_kk x i).2 := (nI_leI (by omega) (by omega)).mp h1
      refine lv_iload_n hx hb dX1_firstOf_45 rfl (lv_at hl 2 rfl) ?_
      exact W.iret hx hb hr (fun t ht2 _ => ⟨hw_ret (by rw [show (10 : Nat) = i + (k + 1) by omega, sd_kk_end (fun j _ => Or.inr h1)]), ht2⟩) (fun _ h => by cases h) dX1_firstOf_46
    · have h1 : ¬ (5 ≤ (sd_kk x i).2) := fun h9 => h1 ((nI_leI (by omega) (by omega)).mpr h9)
      refine lv_iload_n hx hb dX1_firstOf_19 rfl (lv_at hl 0 rfl) ?_
      refine lv_iload hx hb dX1_firstOf_20 (lv_at hl 4 rfl) ?_
      refine hw_callR (va_runS (As := [.int (nI x), .int (nI i)]) (rest := []) ⟨hx, hb, hml, hown, ht⟩ (c_bitn l D cI cZ x i (by omega) (by omega)) (va_cwS 2 ht (gS wm_X1_X1_bit wt_X1_bit wn_X1 wc_X1_bit) rfl rfl rfl (by decide +kernel) ⟨Nat.le_of_ble_eq_true rfl, Nat.le_of_ble_eq_true rfl⟩) (rPre_S (hP.sub [] rfl) hK hN) rfl rfl hl.1 rfl (lv_room (Nat.le_of_ble_eq_true rfl)) dX1_firstOf_22 ⟨Nat.zero_le _, Nat.zero_le _⟩) ?_
      refine lv_iconst (v := nI 1) hx hb dX1_firstOf_25 (by decide) ?_
      refine lv_icmp_ne (tgt := 39) hx hb dX1_firstOf_26 rfl (fun h2 => ?_) (fun h2 => ?_)
      · have h2 : (x.testBit i) = false := bI_ne1 h2
        have hl : lv_has ls 5 [(0, .int (nI x)), (1, .int (nI 5)), (2, .int (nI ((sd_kk x (i + 1)).1))), (3, .int (nI ((sd_kk x i).2))), (4, .int (nI i))] := by rw [show nI ((sd_kk x (i + 1)).1) = nI ((sd_kk x i).1) from by rw [sd_kk_f (fun h9 => absurd (h2.symm.trans h9.1) (by decide))]]; exact hl
        have hl : lv_has ls 5 [(0, .int (nI x)), (1, .int (nI 5)), (2, .int (nI ((sd_kk x (i + 1)).1))), (3, .int (nI ((sd_kk x (i + 1)).2))), (4, .int (nI i))] := by rw [show nI ((sd_kk x (i + 1)).2) = nI ((sd_kk x i).2) from by rw [sd_kk_f (fun h9 => absurd (h2.symm.trans h9.1) (by decide))]]; exact hl
        refine lv_iinc (k := 4) (v := nI (i + 1)) hx hb dX1_firstOf_39 hl rfl (hw_inc _) (by decide) rfl (fun ls hl => ?_)
        have hl : lv_has ls 5 [(4, .int (nI (i + 1))), (0, .int (nI x)), (1, .int (nI 5)), (2, .int (nI ((sd_kk x (i + 1)).1))), (3, .int (nI ((sd_kk x (i + 1)).2)))] := hl
        refine lv_goto (tgt := 7) hx hb dX1_firstOf_42 rfl ?_
        have hl : lv_has ls 5 [(0, .int (nI x)), (1, .int (nI 5)), (2, .int (nI ((sd_kk x (i + 1)).1))), (3, .int (nI ((sd_kk x (i + 1)).2))), (4, .int (nI (i + 1)))] := lv_sub hl [1, 2, 3, 4, 0] rfl
        exact ih (i + 1) ls (by omega) hl
      · have h2 : (x.testBit i) = true := (bI_eq1 _).mp h2
        refine lv_iload_n hx hb dX1_firstOf_29 rfl (lv_at hl 2 rfl) ?_
        refine lv_iconst (v := nI 1) hx hb dX1_firstOf_30 (by decide) ?_
        refine lv_iload hx hb dX1_firstOf_31 (lv_at hl 4 rfl) ?_
        refine lv_ishl hx hb dX1_firstOf_33 ?_
        refine lv_nm (y := nI (2 ^ i)) (hw_shl1' (by omega)) ?_
        refine lv_ior hx hb dX1_firstOf_34 ?_
        refine lv_nm (y := nI (((sd_kk x i).1) ||| (2 ^ i))) (hw_or _ _) ?_
        refine lv_nm (y := nI ((sd_kk x (i + 1)).1)) (by rw [Nat.or_two_pow_eq_add_of_lt hkl, sd_kk_t h2 (by omega)]) ?_
        refine lv_istore_n hx hb dX1_firstOf_35 rfl hl (by decide) rfl (fun ls hl => ?_)
        have hl : lv_has ls 5 [(2, .int (nI ((sd_kk x (i + 1)).1))), (0, .int (nI x)), (1, .int (nI 5)), (3, .int (nI ((sd_kk x i).2))), (4, .int (nI i))] := hl
        refine lv_iinc (k := 3) (v := nI ((sd_kk x (i + 1)).2)) hx hb dX1_firstOf_36 hl rfl ((hw_inc _).trans (by rw [sd_kk_t h2 (by omega)])) (by decide) rfl (fun ls hl => ?_)
        have hl : lv_has ls 5 [(3, .int (nI ((sd_kk x (i + 1)).2))), (2, .int (nI ((sd_kk x (i + 1)).1))), (0, .int (nI x)), (1, .int (nI 5)), (4, .int (nI i))] := hl
        refine lv_iinc (k := 4) (v := nI (i + 1)) hx hb dX1_firstOf_39 hl rfl (hw_inc _) (by decide) rfl (fun ls hl => ?_)
        have hl : lv_has ls 5 [(4, .int (nI (i + 1))), (3, .int (nI ((sd_kk x (i + 1)).2))), (2, .int (nI ((sd_kk x (i + 1)).1))), (0, .int (nI x)), (1, .int (nI 5))] := hl
        refine lv_goto (tgt := 7) hx hb dX1_firstOf_42 rfl ?_
        have hl : lv_has ls 5 [(0, .int (nI x)), (1, .int (nI 5)), (2, .int (nI ((sd_kk x (i + 1)).1))), (3, .int (nI ((sd_kk x (i + 1)).2))), (4, .int (nI (i + 1)))] := lv_sub hl [3, 4, 2, 1, 0] rfl
        exact ih (i + 1) ls (by omega) hl

set_option maxHeartbeats 4000000 in
set_option maxRecDepth 100000 in
theorem c_Game (l : Launch) (D : va_G) (cI cZ : ClassId) (og n a sz : Nat) (hn1 : 1 ≤ n) (hn : n ≤ 10) (ha : a < 2 ^ n) : Met l yX0_init (kX0_init :: aW) { frames := 3, cells := 2, slots := 3072, locals := 69 } (wPre [.ref og, .int (nI n), .int (nI a)] D [(og, .inr (0, [.int (nI 0), .int (nI 0), .null, .null]))] [(cI, .int), (cZ, .boolean)] sz) (cQ D (fun u : Nat × Nat => [(og, .inr (0, [.int (nI n), .int (nI a), .ref u.1, .ref u.2])), (u.1, .inl (cI, (2 ^ n), .inl (fun jq => nI ((fun _ => 0) jq)))), (u.2, .inl (cZ, (2 * 2 ^ n), .inl (fun jq => bI ((sd_ew n a (fun w => (fun _ => 0) w == 0)) jq))))]) (va_A [(og, .inr (0, [.int (nI 0), .int (nI 0), .null, .null]))] sz)) 2 3072 (va_A [(og, .inr (0, [.int (nI 0), .int (nI 0), .null, .null]))] sz) := by
  refine Met.ofW (cc := cX0_init) (maxL := 3) (ret := none) (by decide) rfl ?_
  intro p e s m args below meth c s₁ Bo hml hpre
  obtain ⟨rfl, hsz, hP, hK, hN, hD0⟩ := hpre
  subst hsz
  have hD := hD0.self (sz := s.heap.size)
  generalize hAe : va_A [(og, .inr (0, [.int (nI 0), .int (nI 0), .null, .null]))] s.heap.size = A at hD ⊢
  have hA : ∀ q : Nat, s.heap.size ≤ q → A q := fun q h => by rw [← hAe]; exact Or.inr h
  have hS : va_S A s.heap s.heap [] := va_S.rf
  have hx := Bo.exec
  have hin : meth.name = "<init>" := (name_of_methodNamed Bo.named Bo.method).1
  have hb := Bo.bytes
  have hr := Bo.returns
  have hts := atoms_spec (ws := kX0_init :: aW) Bo.pre
  have ht : ∀ w ∈ aW, w.before _ s = true := fun w h => hts w (List.mem_cons_of_mem _ h)
  have hown : s.vm.findClass RX0 = some m.cls := findClass_of_methodNamed Bo.named
  have hlocks := Bo.notSynchronized
  have hP : va_P D clS [(og, .inr (0, [.int (nI 0), .int (nI 0), .null, .null]))] s.heap := hP
  have hl := lv_entry ([.ref og, .int (nI n), .int (nI a)]) (n := 3) (Nat.le_of_ble_eq_true rfl)
  rw [lg_entry_eq]
  generalize (lg_sl ([.ref og, .int (nI n), .int (nI a)]) ++ List.replicate (3 - (lg_sl ([.ref og, .int (nI n), .int (nI a)])).length) Slot.unset).toArray = ls at hl ⊢
  have hl : lv_has ls 3 [(0, .ref og), (1, .int (nI n)), (2, .int (nI a))] := hl
  have h2n := hw_p10 hn
  refine lv_aload_n hx hb dX0_init_0 rfl (lv_at hl 0 rfl) ?_
  refine W.objInit hx hb hown (ht _ wm_X0_O_init) (ht _ wi_O_init) (ht _ wc_O_init) rfl (by rw [hml]; exact hl.1) rfl dX0_init_1 (Nat.le_of_ble_eq_true rfl) (Nat.le_of_ble_eq_true rfl) ?_
  refine W.eq (g2 := F0 m 4 ls []) rfl ?_
  refine lv_aload_n hx hb dX0_init_4 rfl (lv_at hl 0 rfl) ?_
  refine lv_iload_n hx hb dX0_init_5 rfl (lv_at hl 1 rfl) ?_
  refine va_putF (D := D) (ci := 0) (v := .int (nI n)) (ty := .int) (C := RX0) (T := TX0) (N := 4) hx hb ht inX0 tyX0 tyX0_ok nmX0 hown hK hP hD hS 0 rfl rfl 0 (by decide) (ht _ wf_X0_size) (fun _ h9 => h9) rfl hin rfl (by decide +kernel) rfl rfl (Nat.le_of_ble_eq_true rfl) dX0_init_6 (fun H locs hP hD hS => ?_)
  have hP : va_P D clS [(og, .inr (0, [.int (nI n), .int (nI 0), .null, .null]))] H := hP
  have hD : va_D A [(og, .inr (0, [.int (nI n), .int (nI 0), .null, .null]))] := hD
  refine lv_aload_n hx hb dX0_init_9 rfl (lv_at hl 0 rfl) ?_
  refine lv_iload_n hx hb dX0_init_10 rfl (lv_at hl 2 rfl) ?_
  refine va_putF (D := D) (ci := 0) (v := .int (nI a)) (ty := .int) (C := RX0) (T := TX0) (N := 4) hx hb ht inX0 tyX0 tyX0_ok nmX0 hown hK hP hD hS 0 rfl rfl 1 (by decide) (ht _ wf_X0_adamSet) (fun _ h9 => h9) rfl hin rfl (by decide +kernel) rfl rfl (Nat.le_of_ble_eq_true rfl) dX0_init_11 (fun H locs hP hD hS => ?_)
  have hP : va_P D clS [(og, .inr (0, [.int (nI n), .int (nI a), .null, .null]))] H := hP
  have hD : va_D A [(og, .inr (0, [.int (nI n), .int (nI a), .null, .null]))] := hD
  refine lv_aload_n hx hb dX0_init_14 rfl (lv_at hl 0 rfl) ?_
  refine lv_iconst (v := nI 1) hx hb dX0_init_15 (by decide) ?_
  refine lv_iload_n hx hb dX0_init_16 rfl (lv_at hl 1 rfl) ?_
  refine lv_ishl hx hb dX0_init_17 ?_
  refine lv_nm (y := nI (2 ^ n)) (hw_shl1' (by omega)) ?_
  refine va_newa (atype := .int) (ty := .int) (a0 := (2 ^ n, .inl (fun jq => nI ((fun _ => 0) jq)))) (N' := 2 ^ n) hx hb (ht _ wa_int) rfl hK hP hD hS hA (fun _ => rfl) (nI_pos (by omega)) (nI_clamp (by omega)) (by show (2 ^ n) * 4 ≤ 536870912; omega) (Nat.le_of_ble_eq_true rfl) (by show 0 + (2 ^ n) ≤ 3072; omega) dX0_init_18 (fun ob cK H hK2 hP hD hS => ?_)
  obtain rfl : cI = cK := hw_uq hK2 (i := 0) (j := 2) rfl rfl
  have hP : va_P D clS [(og, .inr (0, [.int (nI n), .int (nI a), .null, .null])), (ob, .inl (cI, (2 ^ n), .inl (fun jq => nI ((fun _ => 0) jq))))] H := hP
  have hD : va_D A [(og, .inr (0, [.int (nI n), .int (nI a), .null, .null])), (ob, .inl (cI, (2 ^ n), .inl (fun jq => nI ((fun _ => 0) jq))))] := hD
  refine W.widen (k := 1) (n := 1024) (by omega) (by omega) ?_
  refine va_putF (D := D) (ci := 0) (v := .ref ob) (ty := .array .int) (C := RX0) (T := TX0) (N := 4) hx hb ht inX0 tyX0 tyX0_ok nmX0 hown hK hP hD hS 0 rfl rfl 2 (by decide) (ht _ wf_X0_broken) (fun _ h9 => h9) rfl hin rfl (by decide +kernel) rfl rfl (Nat.le_of_ble_eq_true rfl) dX0_init_20 (fun H locs hP hD hS => ?_)
  have hP : va_P D clS [(og, .inr (0, [.int (nI n), .int (nI a), .ref ob, .null])), (ob, .inl (cI, (2 ^ n), .inl (fun jq => nI ((fun _ => 0) jq))))] H := hP
  have hD : va_D A [(og, .inr (0, [.int (nI n), .int (nI a), .ref ob, .null])), (ob, .inl (cI, (2 ^ n), .inl (fun jq => nI ((fun _ => 0) jq))))] := hD
  refine lv_aload_n hx hb dX0_init_23 rfl (lv_at hl 0 rfl) ?_
  refine lv_iconst (v := nI 2) hx hb dX0_init_24 (by decide) ?_
  refine lv_iload_n hx hb dX0_init_25 rfl (lv_at hl 1 rfl) ?_
  refine lv_ishl hx hb dX0_init_26 ?_
  refine lv_nm (y := nI (2 * 2 ^ n)) (hw_shl2 (by omega)) ?_
  refine va_newa (atype := .boolean) (ty := .boolean) (a0 := (2 * 2 ^ n, .inl (fun jq => bI ((fun _ => false) jq)))) (N' := 2 * 2 ^ n) hx hb (ht _ wa_boolean) rfl hK hP hD hS hA (fun _ => rfl) (nI_pos (by omega)) (nI_clamp (by omega)) (by show (2 * 2 ^ n) * 1 ≤ 536870912; omega) (Nat.le_of_ble_eq_true rfl) (by show 1024 + (2 * 2 ^ n) ≤ 3072; omega) dX0_init_27 (fun oe cK H hK2 hP hD hS => ?_)
  obtain rfl : cZ = cK := hw_uqz hK2 (i := 1) (j := 2) rfl rfl
  have hP : va_P D clS [(og, .inr (0, [.int (nI n), .int (nI a), .ref ob, .null])), (ob, .inl (cI, (2 ^ n), .inl (fun jq => nI ((fun _ => 0) jq)))), (oe, .inl (cZ, (2 * 2 ^ n), .inl (fun jq => bI ((fun _ => false) jq))))] H := hP
  have hD : va_D A [(og, .inr (0, [.int (nI n), .int (nI a), .ref ob, .null])), (ob, .inl (cI, (2 ^ n), .inl (fun jq => nI ((fun _ => 0) jq)))), (oe, .inl (cZ, (2 * 2 ^ n), .inl (fun jq => bI ((fun _ => false) jq))))] := hD
  refine W.widen (k := 2) (n := 3072) (by omega) (by omega) ?_
  refine va_putF (D := D) (ci := 0) (v := .ref oe) (ty := .array .boolean) (C := RX0) (T := TX0) (N := 4) hx hb ht inX0 tyX0 tyX0_ok nmX0 hown hK hP hD hS 0 rfl rfl 3 (by decide) (ht _ wf_X0_eveWins) (fun _ h9 => h9) rfl hin rfl (by decide +kernel) rfl rfl (Nat.le_of_ble_eq_true rfl) dX0_init_29 (fun H locs hP hD hS => ?_)
  have hP : va_P D clS [(og, .inr (0, [.int (nI n), .int (nI a), .ref ob, .ref oe])), (ob, .inl (cI, (2 ^ n), .inl (fun jq => nI ((fun _ => 0) jq)))), (oe, .inl (cZ, (2 * 2 ^ n), .inl (fun jq => bI ((fun _ => false) jq))))] H := hP
  have hD : va_D A [(og, .inr (0, [.int (nI n), .int (nI a), .ref ob, .ref oe])), (ob, .inl (cI, (2 ^ n), .inl (fun jq => nI ((fun _ => 0) jq)))), (oe, .inl (cZ, (2 * 2 ^ n), .inl (fun jq => bI ((fun _ => false) jq))))] := hD
  refine lv_aload_n hx hb dX0_init_32 rfl (lv_at hl 0 rfl) ?_
  refine hw_callW (ws' := [(og, .inr (0, [.int (nI n), .int (nI a), .ref ob, .ref oe])), (ob, .inl (cI, (2 ^ n), .inl (fun jq => nI ((fun _ => 0) jq)))), (oe, .inl (cZ, (2 * 2 ^ n), .inl (fun jq => bI ((sd_ew n a (fun w => (fun _ => 0) w == 0)) jq))))]) (va_runV (b := og) (As := []) (rest := []) ⟨hx, hb, hml, hown, ht⟩ (c_judgeAll l D cI cZ og ob oe n a H.size (fun _ => 0) (fun _ => false) hn1 hn ha (fun _ _ => by decide) rfl) (cwV 0 ht (gV wm_X0_X0_judgeAll wi_X0_judgeAll ws_X0_judgeAll wn_X0 wc_X0_judgeAll) rfl rfl rfl (by decide +kernel) ⟨Nat.le_of_ble_eq_true rfl, Nat.le_of_ble_eq_true rfl⟩) (wPre_V 0 hP hD hK hN rfl rfl) rfl rfl hl.1 rfl (lv_room (Nat.le_of_ble_eq_true rfl)) dX0_init_33 ⟨Nat.le_of_ble_eq_true rfl, Nat.le_of_ble_eq_true rfl⟩) hD hS hA rfl (fun H locs hP hD hS => ?_)
  have hP : va_P D clS [(og, .inr (0, [.int (nI n), .int (nI a), .ref ob, .ref oe])), (ob, .inl (cI, (2 ^ n), .inl (fun jq => nI ((fun _ => 0) jq)))), (oe, .inl (cZ, (2 * 2 ^ n), .inl (fun jq => bI ((sd_ew n a (fun w => (fun _ => 0) w == 0)) jq))))] H := hP
  have hD : va_D A [(og, .inr (0, [.int (nI n), .int (nI a), .ref ob, .ref oe])), (ob, .inl (cI, (2 ^ n), .inl (fun jq => nI ((fun _ => 0) jq)))), (oe, .inl (cZ, (2 * 2 ^ n), .inl (fun jq => bI ((sd_ew n a (fun w => (fun _ => 0) w == 0)) jq))))] := hD
  refine W.eq (g2 := F0 m 36 ls []) rfl ?_
  exact W.vret hx hb hr (fun t ht2 _ => ⟨⟨(ob, oe), rfl, by rw [ht2]; exact hP, hD⟩, hS.F ht2⟩) hS.2.2 dX0_init_36

set_option maxHeartbeats 4000000 in
set_option maxRecDepth 100000 in
theorem c_Desk (l : Launch) (D : va_G) (cI cZ : ClassId) (od n a sz : Nat) (x0 x1 : Int32) (hne : n = sd_n x0) (hae : a = (sd_kk (uN x1) n).1) (hn1 : 1 ≤ n) (hn : n ≤ 10) : Met l yX1_init (kX1_init :: aW) { frames := 4, cells := 6, slots := 3134, locals := 91 } (wPre [.ref od, .int x0, .int x1] D [(od, .inr (1, [.int (nI 0), .int (nI 0), .int (nI 0), .null, .null, .null, .int (nI 0), .int (nI 0), .int (nI 0), .null]))] [(cI, .int), (cZ, .boolean)] sz) (cQ D (fun u : Nat × Nat × Nat × Nat × Nat × Nat => [(od, .inr (1, [.int (nI n), .int (nI a), .int (nI (2 ^ n - 1 - a)), .ref u.1, .ref u.2.2.2.1, .ref u.2.2.2.2.1, .int (nI 0), .int (nI 0), .int (nI 0), .ref u.2.2.2.2.2])), (u.1, .inr (0, [.int (nI n), .int (nI a), .ref u.2.1, .ref u.2.2.1])), (u.2.1, .inl (cI, (2 ^ n), .inl (fun jq => nI ((sd_br (fun _ => 0) (fun _ => 0) 0) jq)))), (u.2.2.1, .inl (cZ, (2 * 2 ^ n), .inl (fun jq => bI ((sd_ew n a (fun w => sd_br (fun _ => 0) (fun _ => 0) 0 w == 0)) jq)))), (u.2.2.2.1, .inl (cI, 24, .inl (fun jq => nI ((fun _ => 0) jq)))), (u.2.2.2.2.1, .inl (cI, 24, .inl (fun jq => nI ((fun _ => 0) jq)))), (u.2.2.2.2.2, .inl (cI, n, .inl (fun _ => 0)))]) (va_A [(od, .inr (1, [.int (nI 0), .int (nI 0), .int (nI 0), .null, .null, .null, .int (nI 0), .int (nI 0), .int (nI 0), .null]))] sz)) 6 3134 (va_A [(od, .inr (1, [.int (nI 0), .int (nI 0), .int (nI 0), .null, .null, .null, .int (nI 0), .int (nI 0), .int (nI 0), .null]))] sz) := by
  refine Met.ofW (cc := cX1_init) (maxL := 4) (ret := none) (by decide) rfl ?_
  intro p e s m args below meth c s₁ Bo hml hpre
  obtain ⟨rfl, hsz, hP, hK, hN, hD0⟩ := hpre
  subst hsz
  have hD := hD0.self (sz := s.heap.size)
  generalize hAe : va_A [(od, .inr (1, [.int (nI 0), .int (nI 0), .int (nI 0), .null, .null, .null, .int (nI 0), .int (nI 0), .int (nI 0), .null]))] s.heap.size = A at hD ⊢
  have hA : ∀ q : Nat, s.heap.size ≤ q → A q := fun q h => by rw [← hAe]; exact Or.inr h
  have hS : va_S A s.heap s.heap [] := va_S.rf
  have hx := Bo.exec
  have hin : meth.name = "<init>" := (name_of_methodNamed Bo.named Bo.method).1
  have hb := Bo.bytes
  have hr := Bo.returns
  have hts := atoms_spec (ws := kX1_init :: aW) Bo.pre
  have ht : ∀ w ∈ aW, w.before _ s = true := fun w h => hts w (List.mem_cons_of_mem _ h)
  have hown : s.vm.findClass RX1 = some m.cls := findClass_of_methodNamed Bo.named
  have hlocks := Bo.notSynchronized
  have hP : va_P D clS [(od, .inr (1, [.int (nI 0), .int (nI 0), .int (nI 0), .null, .null, .null, .int (nI 0), .int (nI 0), .int (nI 0), .null]))] s.heap := hP
  have hl := lv_entry ([.ref od, .int x0, .int x1]) (n := 4) (Nat.le_of_ble_eq_true rfl)
  rw [lg_entry_eq]
  generalize (lg_sl ([.ref od, .int x0, .int x1]) ++ List.replicate (4 - (lg_sl ([.ref od, .int x0, .int x1])).length) Slot.unset).toArray = ls at hl ⊢
  have hl : lv_has ls 4 [(0, .ref od), (1, .int x0), (2, .int x1)] := hl
  have h2n := hw_p10 hn
  have hpn := Nat.two_pow_pos n
  have ha : a < 2 ^ n := by rw [hae]; exact sd_kk_lt _ n
  refine lv_aload_n hx hb dX1_init_0 rfl (lv_at hl 0 rfl) ?_
  refine W.objInit hx hb hown (ht _ wm_X1_O_init) (ht _ wi_O_init) (ht _ wc_O_init) rfl (by rw [hml]; exact hl.1) rfl dX1_init_1 (Nat.le_of_ble_eq_true rfl) (Nat.le_of_ble_eq_true rfl) ?_
  refine W.eq (g2 := F0 m 4 ls []) rfl ?_
  refine lv_aload_n hx hb dX1_init_4 rfl (lv_at hl 0 rfl) ?_
  refine lv_iconst (v := nI 1) hx hb dX1_init_5 (by decide) ?_
  refine lv_bipush (v := nI 10) hx hb dX1_init_6 (by decide) ?_
  refine lv_iload_n hx hb dX1_init_8 rfl (lv_at hl 1 rfl) ?_
  refine va_mmin hx hb (by rw [hml]; exact hl.1.symm) hown (ht _ wm_X1_J9_min) (ht _ wt_J9_min) (ht _ wn_J9) (ht _ wc_J9_min) (Nat.le_of_ble_eq_true rfl) (Nat.le_of_ble_eq_true rfl) (Nat.le_of_ble_eq_true rfl) (Nat.le_of_ble_eq_true rfl) dX1_init_9 ?_
  refine va_mmax hx hb (by rw [hml]; exact hl.1.symm) hown (ht _ wm_X1_J9_max) (ht _ wt_J9_max) (ht _ wn_J9) (ht _ wc_J9_max) (Nat.le_of_ble_eq_true rfl) (Nat.le_of_ble_eq_true rfl) (Nat.le_of_ble_eq_true rfl) (Nat.le_of_ble_eq_true rfl) dX1_init_12 ?_
  refine lv_nm (y := nI n) (by rw [hne]; exact sd_n_mm x0) ?_
  refine va_putF (D := D) (ci := 1) (v := .int (nI n)) (ty := .int) (C := RX1) (T := TX1) (N := 10) hx hb ht inX1 tyX1 tyX1_ok nmX1 hown hK hP hD hS 0 rfl rfl 0 (by decide) (ht _ wf_X1_size) (fun _ h9 => h9) rfl hin rfl (by decide +kernel) rfl rfl (Nat.le_of_ble_eq_true rfl) dX1_init_15 (fun H locs hP hD hS => ?_)
  have hP : va_P D clS [(od, .inr (1, [.int (nI n), .int (nI 0), .int (nI 0), .null, .null, .null, .int (nI 0), .int (nI 0), .int (nI 0), .null]))] H := hP
  have hD : va_D A [(od, .inr (1, [.int (nI n), .int (nI 0), .int (nI 0), .null, .null, .null, .int (nI 0), .int (nI 0), .int (nI 0), .null]))] := hD
  refine lv_iconst (v := nI 1) hx hb dX1_init_18 (by decide) ?_
  refine lv_aload_n hx hb dX1_init_19 rfl (lv_at hl 0 rfl) ?_
  refine va_get (D := D) (ci := 1) (v := .int (nI n)) (C := RX1) (T := TX1) (N := 10) hx hb ht inX1 hown hK hP 0 rfl rfl 0 (by decide) (ht _ wf_X1_size) (fun _ h9 => h9) rfl dX1_init_20 ?_
  refine lv_ishl hx hb dX1_init_23 ?_
  refine lv_nm (y := nI (2 ^ n)) (hw_shl1' (by omega)) ?_
  refine lv_iconst (v := nI 1) hx hb dX1_init_24 (by decide) ?_
  refine lv_isub hx hb dX1_init_25 ?_
  refine lv_nm (y := nI ((2 ^ n) - 1)) (pk_sub (by omega)) ?_
  refine lv_istore_n hx hb dX1_init_26 rfl hl (by decide) rfl (fun ls hl => ?_)
  have hl : lv_has ls 4 [(3, .int (nI ((2 ^ n) - 1))), (0, .ref od), (1, .int x0), (2, .int x1)] := hl
  refine lv_aload_n hx hb dX1_init_27 rfl (lv_at hl 1 rfl) ?_
  refine lv_iload_n hx hb dX1_init_28 rfl (lv_at hl 3 rfl) ?_
  refine lv_iload_n hx hb dX1_init_29 rfl (lv_at hl 0 rfl) ?_
  refine lv_iand hx hb dX1_init_30 ?_
  refine lv_iconst (v := nI 5) hx hb dX1_init_31 (by decide) ?_
  refine lv_nm2 (y := nI (uN x1 % 2 ^ n)) (pk_and x1 n (pk_tn (by omega))) ?_
  have hmd : uN x1 % 2 ^ n < 2 ^ n := Nat.mod_lt _ hpn
  refine hw_callR (va_runS (As := [.int (nI (uN x1 % 2 ^ n)), .int (nI 5)]) (rest := [.ref od]) ⟨hx, hb, hml, hown, ht⟩ (c_firstOf l D cI cZ (uN x1 % 2 ^ n) (by omega)) (va_cwS 2 ht (gS wm_X1_X1_firstOf wt_X1_firstOf wn_X1 wc_X1_firstOf) rfl rfl rfl (by decide +kernel) ⟨Nat.le_of_ble_eq_true rfl, Nat.le_of_ble_eq_true rfl⟩) (rPre_S (hP.sub [] rfl) hK hN) rfl rfl hl.1 rfl (lv_room (Nat.le_of_ble_eq_true rfl)) dX1_init_32 ⟨Nat.le_of_ble_eq_true rfl, Nat.le_of_ble_eq_true rfl⟩) ?_
  refine lv_nm (y := nI a) (by rw [sd_kk_mod hn, hae]) ?_
  refine va_putF (D := D) (ci := 1) (v := .int (nI a)) (ty := .int) (C := RX1) (T := TX1) (N := 10) hx hb ht inX1 tyX1 tyX1_ok nmX1 hown hK hP hD hS 0 rfl rfl 1 (by decide) (ht _ wf_X1_adamSet) (fun _ h9 => h9) rfl hin rfl (by decide +kernel) rfl rfl (Nat.le_of_ble_eq_true rfl) dX1_init_35 (fun H locs hP hD hS => ?_)
  have hP : va_P D clS [(od, .inr (1, [.int (nI n), .int (nI a), .int (nI 0), .null, .null, .null, .int (nI 0), .int (nI 0), .int (nI 0), .null]))] H := hP
  have hD : va_D A [(od, .inr (1, [.int (nI n), .int (nI a), .int (nI 0), .null, .null, .null, .int (nI 0), .int (nI 0), .int (nI 0), .null]))] := hD
  refine lv_aload_n hx hb dX1_init_38 rfl (lv_at hl 1 rfl) ?_
  refine lv_iload_n hx hb dX1_init_39 rfl (lv_at hl 0 rfl) ?_
  refine lv_aload_n hx hb dX1_init_40 rfl (lv_at hl 1 rfl) ?_
  refine va_get (D := D) (ci := 1) (v := .int (nI a)) (C := RX1) (T := TX1) (N := 10) hx hb ht inX1 hown hK hP 0 rfl rfl 1 (by decide) (ht _ wf_X1_adamSet) (fun _ h9 => h9) rfl dX1_init_41 ?_
  refine lv_iconst (v := (-1)) hx hb dX1_init_44 (by decide) ?_
  refine lv_ixor hx hb dX1_init_45 ?_
  refine lv_iand hx hb dX1_init_46 ?_
  refine lv_nm (y := nI (2 ^ n - 1 - a)) (sd_eve n (by omega) a ha) ?_
  refine va_putF (D := D) (ci := 1) (v := .int (nI (2 ^ n - 1 - a))) (ty := .int) (C := RX1) (T := TX1) (N := 10) hx hb ht inX1 tyX1 tyX1_ok nmX1 hown hK hP hD hS 0 rfl rfl 2 (by decide) (ht _ wf_X1_eveSet) (fun _ h9 => h9) rfl hin rfl (by decide +kernel) rfl rfl (Nat.le_of_ble_eq_true rfl) dX1_init_47 (fun H locs hP hD hS => ?_)
  have hP : va_P D clS [(od, .inr (1, [.int (nI n), .int (nI a), .int (nI (2 ^ n - 1 - a)), .null, .null, .null, .int (nI 0), .int (nI 0), .int (nI 0), .null]))] H := hP
  have hD : va_D A [(od, .inr (1, [.int (nI n), .int (nI a), .int (nI (2 ^ n - 1 - a)), .null, .null, .null, .int (nI 0), .int (nI 0), .int (nI 0), .null]))] := hD
  refine lv_aload_n hx hb dX1_init_50 rfl (lv_at hl 1 rfl) ?_
  refine va_new (ci := 0) (fs := [.int (nI 0), .int (nI 0), .null, .null]) (C := RX0) (T := TX0) (N := 4) hx hb ht inX0 tyX0 tyX0_ok hown (ht _ wl_X1_X0) (ht _ wk_X0) (ht _ wn_X0) hK hP hD hS hA rfl (fun j hj => by match j, hj with | 0, _ => rfl | 1, _ => rfl | 2, _ => rfl | 3, _ => rfl | t + 4, h => omega) (Nat.le_of_ble_eq_true rfl) (Nat.le_of_ble_eq_true rfl) dX1_init_51 (fun og H hP hD hS => ?_)
  have hP : va_P D clS [(od, .inr (1, [.int (nI n), .int (nI a), .int (nI (2 ^ n - 1 - a)), .null, .null, .null, .int (nI 0), .int (nI 0), .int (nI 0), .null])), (og, .inr (0, [.int (nI 0), .int (nI 0), .null, .null]))] H := hP
  have hD : va_D A [(od, .inr (1, [.int (nI n), .int (nI a), .int (nI (2 ^ n - 1 - a)), .null, .null, .null, .int (nI 0), .int (nI 0), .int (nI 0), .null])), (og, .inr (0, [.int (nI 0), .int (nI 0), .null, .null]))] := hD
  refine W.widen (k := 1) (n := 4) (by omega) (by omega) ?_
  refine lv_dup hx hb dX1_init_54 rfl ?_
  refine lv_aload_n hx hb dX1_init_55 rfl (lv_at hl 1 rfl) ?_
  refine va_get (D := D) (ci := 1) (v := .int (nI n)) (C := RX1) (T := TX1) (N := 10) hx hb ht inX1 hown hK hP 0 rfl rfl 0 (by decide) (ht _ wf_X1_size) (fun _ h9 => h9) rfl dX1_init_56 ?_
  refine lv_aload_n hx hb dX1_init_59 rfl (lv_at hl 1 rfl) ?_
  refine va_get (D := D) (ci := 1) (v := .int (nI a)) (C := RX1) (T := TX1) (N := 10) hx hb ht inX1 hown hK hP 0 rfl rfl 1 (by decide) (ht _ wf_X1_adamSet) (fun _ h9 => h9) rfl dX1_init_60 ?_
  refine hw_new (wc := [(og, .inr (0, [.int (nI 0), .int (nI 0), .null, .null]))]) (wr := [(od, .inr (1, [.int (nI n), .int (nI a), .int (nI (2 ^ n - 1 - a)), .null, .null, .null, .int (nI 0), .int (nI 0), .int (nI 0), .null]))]) (va_runI (b := og) (As := [.int (nI n), .int (nI a)]) (rest := [.ref og, .ref od]) ⟨hx, hb, hml, hown, ht⟩ (c_Game l D cI cZ og n a H.size hn1 hn ha) (cwI 2 ht (gA wc_X0_init) rfl rfl rfl (ht _ wn_X0) (ht _ wm_X1_X0_init) (ht _ wi_X0_init) rfl (by decide +kernel) ⟨Nat.le_of_ble_eq_true rfl, Nat.le_of_ble_eq_true rfl⟩) (wPre_S (hP.sub [1] rfl) (hD.sub [1] (by decide) rfl) hK hN) rfl rfl hl.1 rfl (lv_room (Nat.le_of_ble_eq_true rfl)) dX1_init_63 ⟨Nat.le_of_ble_eq_true rfl, Nat.le_of_ble_eq_true rfl⟩) hP hD hS hA [1] [0] rfl rfl (by decide) (by decide) (fun u H locs hP hD hS => ?_)
  obtain ⟨ob, oe⟩ := u
  have hP : va_P D clS [(od, .inr (1, [.int (nI n), .int (nI a), .int (nI (2 ^ n - 1 - a)), .null, .null, .null, .int (nI 0), .int (nI 0), .int (nI 0), .null])), (og, .inr (0, [.int (nI n), .int (nI a), .ref ob, .ref oe])), (ob, .inl (cI, (2 ^ n), .inl (fun jq => nI ((fun _ => 0) jq)))), (oe, .inl (cZ, (2 * 2 ^ n), .inl (fun jq => bI ((sd_ew n a (fun w => (fun _ => 0) w == 0)) jq))))] H := hP
  have hD : va_D A [(od, .inr (1, [.int (nI n), .int (nI a), .int (nI (2 ^ n - 1 - a)), .null, .null, .null, .int (nI 0), .int (nI 0), .int (nI 0), .null])), (og, .inr (0, [.int (nI n), .int (nI a), .ref ob, .ref oe])), (ob, .inl (cI, (2 ^ n), .inl (fun jq => nI ((fun _ => 0) jq)))), (oe, .inl (cZ, (2 * 2 ^ n), .inl (fun jq => bI ((sd_ew n a (fun w => (fun _ => 0) w == 0)) jq))))] := hD
  refine va_putF (D := D) (ci := 1) (v := .ref og) (ty := .object "StrategyDesk$Game") (C := RX1) (T := TX1) (N := 10) hx hb ht inX1 tyX1 tyX1_ok nmX1 hown hK hP hD hS 0 rfl rfl 3 (by decide) (ht _ wf_X1_game) (fun _ h9 => h9) rfl hin rfl (by decide +kernel) rfl rfl (Nat.le_of_ble_eq_true rfl) dX1_init_66 (fun H locs hP hD hS => ?_)
  have hP : va_P D clS [(od, .inr (1, [.int (nI n), .int (nI a), .int (nI (2 ^ n - 1 - a)), .ref og, .null, .null, .int (nI 0), .int (nI 0), .int (nI 0), .null])), (og, .inr (0, [.int (nI n), .int (nI a), .ref ob, .ref oe])), (ob, .inl (cI, (2 ^ n), .inl (fun jq => nI ((fun _ => 0) jq)))), (oe, .inl (cZ, (2 * 2 ^ n), .inl (fun jq => bI ((sd_ew n a (fun w => (fun _ => 0) w == 0)) jq))))] H := hP
  have hD : va_D A [(od, .inr (1, [.int (nI n), .int (nI a), .int (nI (2 ^ n - 1 - a)), .ref og, .null, .null, .int (nI 0), .int (nI 0), .int (nI 0), .null])), (og, .inr (0, [.int (nI n), .int (nI a), .ref ob, .ref oe])), (ob, .inl (cI, (2 ^ n), .inl (fun jq => nI ((fun _ => 0) jq)))), (oe, .inl (cZ, (2 * 2 ^ n), .inl (fun jq => bI ((sd_ew n a (fun w => (fun _ => 0) w == 0)) jq))))] := hD
  refine lv_aload_n hx hb dX1_init_69 rfl (lv_at hl 1 rfl) ?_
  refine lv_bipush (v := nI 24) hx hb dX1_init_70 (by decide) ?_
  refine va_newa (atype := .int) (ty := .int) (a0 := (24, .inl (fun jq => nI ((fun _ => 0) jq)))) (N' := 24) hx hb (ht _ wa_int) rfl hK hP hD hS hA (fun _ => rfl) (nI_pos (by omega)) (nI_clamp (by omega)) (by show 24 * 4 ≤ 536870912; omega) (Nat.le_of_ble_eq_true rfl) (by show 3076 + 24 ≤ 3134; omega) dX1_init_72 (fun oy cK H hK2 hP hD hS => ?_)
  obtain rfl : cI = cK := hw_uq hK2 (i := 0) (j := 2) rfl rfl
  have hP : va_P D clS [(od, .inr (1, [.int (nI n), .int (nI a), .int (nI (2 ^ n - 1 - a)), .ref og, .null, .null, .int (nI 0), .int (nI 0), .int (nI 0), .null])), (og, .inr (0, [.int (nI n), .int (nI a), .ref ob, .ref oe])), (ob, .inl (cI, (2 ^ n), .inl (fun jq => nI ((fun _ => 0) jq)))), (oe, .inl (cZ, (2 * 2 ^ n), .inl (fun jq => bI ((sd_ew n a (fun w => (fun _ => 0) w == 0)) jq)))), (oy, .inl (cI, 24, .inl (fun jq => nI ((fun _ => 0) jq))))] H := hP
  have hD : va_D A [(od, .inr (1, [.int (nI n), .int (nI a), .int (nI (2 ^ n - 1 - a)), .ref og, .null, .null, .int (nI 0), .int (nI 0), .int (nI 0), .null])), (og, .inr (0, [.int (nI n), .int (nI a), .ref ob, .ref oe])), (ob, .inl (cI, (2 ^ n), .inl (fun jq => nI ((fun _ => 0) jq)))), (oe, .inl (cZ, (2 * 2 ^ n), .inl (fun jq => bI ((sd_ew n a (fun w => (fun _ => 0) w == 0)) jq)))), (oy, .inl (cI, 24, .inl (fun jq => nI ((fun _ => 0) jq))))] := hD
  refine W.widen (k := 4) (n := 3100) (by omega) (by omega) ?_
  refine va_putF (D := D) (ci := 1) (v := .ref oy) (ty := .array .int) (C := RX1) (T := TX1) (N := 10) hx hb ht inX1 tyX1 tyX1_ok nmX1 hown hK hP hD hS 0 rfl rfl 4 (by decide) (ht _ wf_X1_yesSets) (fun _ h9 => h9) rfl hin rfl (by decide +kernel) rfl rfl (Nat.le_of_ble_eq_true rfl) dX1_init_74 (fun H locs hP hD hS => ?_)
  have hP : va_P D clS [(od, .inr (1, [.int (nI n), .int (nI a), .int (nI (2 ^ n - 1 - a)), .ref og, .ref oy, .null, .int (nI 0), .int (nI 0), .int (nI 0), .null])), (og, .inr (0, [.int (nI n), .int (nI a), .ref ob, .ref oe])), (ob, .inl (cI, (2 ^ n), .inl (fun jq => nI ((fun _ => 0) jq)))), (oe, .inl (cZ, (2 * 2 ^ n), .inl (fun jq => bI ((sd_ew n a (fun w => (fun _ => 0) w == 0)) jq)))), (oy, .inl (cI, 24, .inl (fun jq => nI ((fun _ => 0) jq))))] H := hP
  have hD : va_D A [(od, .inr (1, [.int (nI n), .int (nI a), .int (nI (2 ^ n - 1 - a)), .ref og, .ref oy, .null, .int (nI 0), .int (nI 0), .int (nI 0), .null])), (og, .inr (0, [.int (nI n), .int (nI a), .ref ob, .ref oe])), (ob, .inl (cI, (2 ^ n), .inl (fun jq => nI ((fun _ => 0) jq)))), (oe, .inl (cZ, (2 * 2 ^ n), .inl (fun jq => bI ((sd_ew n a (fun w => (fun _ => 0) w == 0)) jq)))), (oy, .inl (cI, 24, .inl (fun jq => nI ((fun _ => 0) jq))))] := hD
  refine lv_aload_n hx hb dX1_init_77 rfl (lv_at hl 1 rfl) ?_
  refine lv_bipush (v := nI 24) hx hb dX1_init_78 (by decide) ?_
  refine va_newa (atype := .int) (ty := .int) (a0 := (24, .inl (fun jq => nI ((fun _ => 0) jq)))) (N' := 24) hx hb (ht _ wa_int) rfl hK hP hD hS hA (fun _ => rfl) (nI_pos (by omega)) (nI_clamp (by omega)) (by show 24 * 4 ≤ 536870912; omega) (Nat.le_of_ble_eq_true rfl) (by show 3100 + 24 ≤ 3134; omega) dX1_init_80 (fun oz cK H hK2 hP hD hS => ?_)
  obtain rfl : cI = cK := hw_uq hK2 (i := 0) (j := 2) rfl rfl
  have hP : va_P D clS [(od, .inr (1, [.int (nI n), .int (nI a), .int (nI (2 ^ n - 1 - a)), .ref og, .ref oy, .null, .int (nI 0), .int (nI 0), .int (nI 0), .null])), (og, .inr (0, [.int (nI n), .int (nI a), .ref ob, .ref oe])), (ob, .inl (cI, (2 ^ n), .inl (fun jq => nI ((fun _ => 0) jq)))), (oe, .inl (cZ, (2 * 2 ^ n), .inl (fun jq => bI ((sd_ew n a (fun w => (fun _ => 0) w == 0)) jq)))), (oy, .inl (cI, 24, .inl (fun jq => nI ((fun _ => 0) jq)))), (oz, .inl (cI, 24, .inl (fun jq => nI ((fun _ => 0) jq))))] H := hP
  have hD : va_D A [(od, .inr (1, [.int (nI n), .int (nI a), .int (nI (2 ^ n - 1 - a)), .ref og, .ref oy, .null, .int (nI 0), .int (nI 0), .int (nI 0), .null])), (og, .inr (0, [.int (nI n), .int (nI a), .ref ob, .ref oe])), (ob, .inl (cI, (2 ^ n), .inl (fun jq => nI ((fun _ => 0) jq)))), (oe, .inl (cZ, (2 * 2 ^ n), .inl (fun jq => bI ((sd_ew n a (fun w => (fun _ => 0) w == 0)) jq)))), (oy, .inl (cI, 24, .inl (fun jq => nI ((fun _ => 0) jq)))), (oz, .inl (cI, 24, .inl (fun jq => nI ((fun _ => 0) jq))))] := hD
  refine W.widen (k := 5) (n := 3124) (by omega) (by omega) ?_
  refine va_putF (D := D) (ci := 1) (v := .ref oz) (ty := .array .int) (C := RX1) (T := TX1) (N := 10) hx hb ht inX1 tyX1 tyX1_ok nmX1 hown hK hP hD hS 0 rfl rfl 5 (by decide) (ht _ wf_X1_noSets) (fun _ h9 => h9) rfl hin rfl (by decide +kernel) rfl rfl (Nat.le_of_ble_eq_true rfl) dX1_init_82 (fun H locs hP hD hS => ?_)
  have hP : va_P D clS [(od, .inr (1, [.int (nI n), .int (nI a), .int (nI (2 ^ n - 1 - a)), .ref og, .ref oy, .ref oz, .int (nI 0), .int (nI 0), .int (nI 0), .null])), (og, .inr (0, [.int (nI n), .int (nI a), .ref ob, .ref oe])), (ob, .inl (cI, (2 ^ n), .inl (fun jq => nI ((fun _ => 0) jq)))), (oe, .inl (cZ, (2 * 2 ^ n), .inl (fun jq => bI ((sd_ew n a (fun w => (fun _ => 0) w == 0)) jq)))), (oy, .inl (cI, 24, .inl (fun jq => nI ((fun _ => 0) jq)))), (oz, .inl (cI, 24, .inl (fun jq => nI ((fun _ => 0) jq))))] H := hP
  have hD : va_D A [(od, .inr (1, [.int (nI n), .int (nI a), .int (nI (2 ^ n - 1 - a)), .ref og, .ref oy, .ref oz, .int (nI 0), .int (nI 0), .int (nI 0), .null])), (og, .inr (0, [.int (nI n), .int (nI a), .ref ob, .ref oe])), (ob, .inl (cI, (2 ^ n), .inl (fun jq => nI ((fun _ => 0) jq)))), (oe, .inl (cZ, (2 * 2 ^ n), .inl (fun jq => bI ((sd_ew n a (fun w => (fun _ => 0) w == 0)) jq)))), (oy, .inl (cI, 24, .inl (fun jq => nI ((fun _ => 0) jq)))), (oz, .inl (cI, 24, .inl (fun jq => nI ((fun _ => 0) jq))))] := hD
  refine lv_aload_n hx hb dX1_init_85 rfl (lv_at hl 1 rfl) ?_
  refine lv_aload_n hx hb dX1_init_86 rfl (lv_at hl 1 rfl) ?_
  refine va_get (D := D) (ci := 1) (v := .int (nI n)) (C := RX1) (T := TX1) (N := 10) hx hb ht inX1 hown hK hP 0 rfl rfl 0 (by decide) (ht _ wf_X1_size) (fun _ h9 => h9) rfl dX1_init_87 ?_
  refine va_newa (atype := .int) (ty := .int) (a0 := (n, .inl (fun _ => 0))) (N' := n) hx hb (ht _ wa_int) rfl hK hP hD hS hA (fun _ => rfl) (nI_pos (by omega)) (nI_clamp (by omega)) (by show n * 4 ≤ 536870912; omega) (Nat.le_of_ble_eq_true rfl) (by show 3124 + n ≤ 3134; omega) dX1_init_90 (fun ot cK H hK2 hP hD hS => ?_)
  obtain rfl : cI = cK := hw_uq hK2 (i := 0) (j := 2) rfl rfl
  have hP : va_P D clS [(od, .inr (1, [.int (nI n), .int (nI a), .int (nI (2 ^ n - 1 - a)), .ref og, .ref oy, .ref oz, .int (nI 0), .int (nI 0), .int (nI 0), .null])), (og, .inr (0, [.int (nI n), .int (nI a), .ref ob, .ref oe])), (ob, .inl (cI, (2 ^ n), .inl (fun jq => nI ((fun _ => 0) jq)))), (oe, .inl (cZ, (2 * 2 ^ n), .inl (fun jq => bI ((sd_ew n a (fun w => (fun _ => 0) w == 0)) jq)))), (oy, .inl (cI, 24, .inl (fun jq => nI ((fun _ => 0) jq)))), (oz, .inl (cI, 24, .inl (fun jq => nI ((fun _ => 0) jq)))), (ot, .inl (cI, n, .inl (fun _ => 0)))] H := hP
  have hD : va_D A [(od, .inr (1, [.int (nI n), .int (nI a), .int (nI (2 ^ n - 1 - a)), .ref og, .ref oy, .ref oz, .int (nI 0), .int (nI 0), .int (nI 0), .null])), (og, .inr (0, [.int (nI n), .int (nI a), .ref ob, .ref oe])), (ob, .inl (cI, (2 ^ n), .inl (fun jq => nI ((fun _ => 0) jq)))), (oe, .inl (cZ, (2 * 2 ^ n), .inl (fun jq => bI ((sd_ew n a (fun w => (fun _ => 0) w == 0)) jq)))), (oy, .inl (cI, 24, .inl (fun jq => nI ((fun _ => 0) jq)))), (oz, .inl (cI, 24, .inl (fun jq => nI ((fun _ => 0) jq)))), (ot, .inl (cI, n, .inl (fun _ => 0)))] := hD
  refine W.widen (k := 6) (n := 3134) (by omega) (by omega) ?_
  refine va_putF (D := D) (ci := 1) (v := .ref ot) (ty := .array .int) (C := RX1) (T := TX1) (N := 10) hx hb ht inX1 tyX1 tyX1_ok nmX1 hown hK hP hD hS 0 rfl rfl 9 (by decide) (ht _ wf_X1_tables) (fun _ h9 => h9) rfl hin rfl (by decide +kernel) rfl rfl (Nat.le_of_ble_eq_true rfl) dX1_init_92 (fun H locs hP hD hS => ?_)
  have hP : va_P D clS [(od, .inr (1, [.int (nI n), .int (nI a), .int (nI (2 ^ n - 1 - a)), .ref og, .ref oy, .ref oz, .int (nI 0), .int (nI 0), .int (nI 0), .ref ot])), (og, .inr (0, [.int (nI n), .int (nI a), .ref ob, .ref oe])), (ob, .inl (cI, (2 ^ n), .inl (fun jq => nI ((fun _ => 0) jq)))), (oe, .inl (cZ, (2 * 2 ^ n), .inl (fun jq => bI ((sd_ew n a (fun w => (fun _ => 0) w == 0)) jq)))), (oy, .inl (cI, 24, .inl (fun jq => nI ((fun _ => 0) jq)))), (oz, .inl (cI, 24, .inl (fun jq => nI ((fun _ => 0) jq)))), (ot, .inl (cI, n, .inl (fun _ => 0)))] H := hP
  have hD : va_D A [(od, .inr (1, [.int (nI n), .int (nI a), .int (nI (2 ^ n - 1 - a)), .ref og, .ref oy, .ref oz, .int (nI 0), .int (nI 0), .int (nI 0), .ref ot])), (og, .inr (0, [.int (nI n), .int (nI a), .ref ob, .ref oe])), (ob, .inl (cI, (2 ^ n), .inl (fun jq => nI ((fun _ => 0) jq)))), (oe, .inl (cZ, (2 * 2 ^ n), .inl (fun jq => bI ((sd_ew n a (fun w => (fun _ => 0) w == 0)) jq)))), (oy, .inl (cI, 24, .inl (fun jq => nI ((fun _ => 0) jq)))), (oz, .inl (cI, 24, .inl (fun jq => nI ((fun _ => 0) jq)))), (ot, .inl (cI, n, .inl (fun _ => 0)))] := hD
  exact W.vret hx hb hr (fun t ht2 _ => ⟨⟨(og, ob, oe, oy, oz, ot), rfl, by rw [ht2]; exact hP, hD⟩, hS.F ht2⟩) hS.2.2 dX1_init_95

set_option maxHeartbeats 4000000 in
set_option maxRecDepth 100000 in
theorem c_Model (l : Launch) (D : va_G) (cI cZ : ClassId) (om n a sz : Nat) (x0 x1 : Int32) (hne : n = sd_n x0) (hae : a = (sd_kk (uN x1) n).1) (hn1 : 1 ≤ n) (hn : n ≤ 10) : Met l yX2_init (kX2_init :: aW) { frames := 1, cells := 4, slots := 2106, locals := 20 } (wPre [.ref om, .int x0, .int x1] D [(om, .inr (2, [.int (nI 0), .int (nI 0), .int (nI 0), .null, .null, .int (bI false), .int (nI 0), .int (bI false), .int (nI 0), .int (nI 0), .null, .int (nI 0), .int (nI 0), .null]))] [(cI, .int), (cZ, .boolean)] sz) (cQ D (fun u : Nat × Nat × Nat × Nat => [(om, .inr (2, [.int (nI n), .int (nI a), .int (nI 0), .ref u.1, .ref u.2.1, .int (bI false), .int (-1), .int (bI false), .int (nI 0), .int (nI 0), .ref u.2.2.1, .int (nI (sd_pos 0 0)), .int (nI 0), .ref u.2.2.2])), (u.1, .inl (cI, 24, .inl (fun jq => nI ((fun _ => 0) jq)))), (u.2.1, .inl (cI, 24, .inl (fun jq => nI ((fun _ => 0) jq)))), (u.2.2.1, .inl (cZ, 2048, .inl (fun jq => bI ((fun _ => false) jq)))), (u.2.2.2, .inl (cI, 10, .inl (fun _ => 0)))]) (va_A [(om, .inr (2, [.int (nI 0), .int (nI 0), .int (nI 0), .null, .null, .int (bI false), .int (nI 0), .int (bI false), .int (nI 0), .int (nI 0), .null, .int (nI 0), .int (nI 0), .null]))] sz)) 4 2106 (va_A [(om, .inr (2, [.int (nI 0), .int (nI 0), .int (nI 0), .null, .null, .int (bI false), .int (nI 0), .int (bI false), .int (nI 0), .int (nI 0), .null, .int (nI 0), .int (nI 0), .null]))] sz) := by
  refine Met.ofW (cc := cX2_init) (maxL := 6) (ret := none) (by decide) rfl ?_
  intro p e s m args below meth c s₁ Bo hml hpre
  obtain ⟨rfl, hsz, hP, hK, hN, hD0⟩ := hpre
  subst hsz
  have hD := hD0.self (sz := s.heap.size)
  generalize hAe : va_A [(om, .inr (2, [.int (nI 0), .int (nI 0), .int (nI 0), .null, .null, .int (bI false), .int (nI 0), .int (bI false), .int (nI 0), .int (nI 0), .null, .int (nI 0), .int (nI 0), .null]))] s.heap.size = A at hD ⊢
  have hA : ∀ q : Nat, s.heap.size ≤ q → A q := fun q h => by rw [← hAe]; exact Or.inr h
  have hS : va_S A s.heap s.heap [] := va_S.rf
  have hx := Bo.exec
  have hin : meth.name = "<init>" := (name_of_methodNamed Bo.named Bo.method).1
  have hb := Bo.bytes
  have hr := Bo.returns
  have hts := atoms_spec (ws := kX2_init :: aW) Bo.pre
  have ht : ∀ w ∈ aW, w.before _ s = true := fun w h => hts w (List.mem_cons_of_mem _ h)
  have hown : s.vm.findClass RX2 = some m.cls := findClass_of_methodNamed Bo.named
  have hlocks := Bo.notSynchronized
  have hP : va_P D clS [(om, .inr (2, [.int (nI 0), .int (nI 0), .int (nI 0), .null, .null, .int (bI false), .int (nI 0), .int (bI false), .int (nI 0), .int (nI 0), .null, .int (nI 0), .int (nI 0), .null]))] s.heap := hP
  have hl := lv_entry ([.ref om, .int x0, .int x1]) (n := 6) (Nat.le_of_ble_eq_true rfl)
  rw [lg_entry_eq]
  generalize (lg_sl ([.ref om, .int x0, .int x1]) ++ List.replicate (6 - (lg_sl ([.ref om, .int x0, .int x1])).length) Slot.unset).toArray = ls at hl ⊢
  have hl : lv_has ls 6 [(0, .ref om), (1, .int x0), (2, .int x1)] := hl
  refine lv_aload_n hx hb dX2_init_0 rfl (lv_at hl 0 rfl) ?_
  refine W.objInit hx hb hown (ht _ wm_X2_O_init) (ht _ wi_O_init) (ht _ wc_O_init) rfl (by rw [hml]; exact hl.1) rfl dX2_init_1 (Nat.le_of_ble_eq_true rfl) (Nat.le_of_ble_eq_true rfl) ?_
  refine W.eq (g2 := F0 m 4 ls []) rfl ?_
  refine lv_aload_n hx hb dX2_init_4 rfl (lv_at hl 0 rfl) ?_
  refine lv_bipush (v := nI 24) hx hb dX2_init_5 (by decide) ?_
  refine va_newa (atype := .int) (ty := .int) (a0 := (24, .inl (fun jq => nI ((fun _ => 0) jq)))) (N' := 24) hx hb (ht _ wa_int) rfl hK hP hD hS hA (fun _ => rfl) (nI_pos (by omega)) (nI_clamp (by omega)) (by show 24 * 4 ≤ 536870912; omega) (Nat.le_of_ble_eq_true rfl) (by show 0 + 24 ≤ 2106; omega) dX2_init_7 (fun my cK H hK2 hP hD hS => ?_)
  obtain rfl : cI = cK := hw_uq hK2 (i := 0) (j := 2) rfl rfl
  have hP : va_P D clS [(om, .inr (2, [.int (nI 0), .int (nI 0), .int (nI 0), .null, .null, .int (bI false), .int (nI 0), .int (bI false), .int (nI 0), .int (nI 0), .null, .int (nI 0), .int (nI 0), .null])), (my, .inl (cI, 24, .inl (fun jq => nI ((fun _ => 0) jq))))] H := hP
  have hD : va_D A [(om, .inr (2, [.int (nI 0), .int (nI 0), .int (nI 0), .null, .null, .int (bI false), .int (nI 0), .int (bI false), .int (nI 0), .int (nI 0), .null, .int (nI 0), .int (nI 0), .null])), (my, .inl (cI, 24, .inl (fun jq => nI ((fun _ => 0) jq))))] := hD
  refine W.widen (k := 1) (n := 24) (by omega) (by omega) ?_
  refine va_putF (D := D) (ci := 2) (v := .ref my) (ty := .array .int) (C := RX2) (T := TX2) (N := 14) hx hb ht inX2 tyX2 tyX2_ok nmX2 hown hK hP hD hS 0 rfl rfl 3 (by decide) (ht _ wf_X2_yes) (fun _ h9 => h9) rfl hin rfl (by decide +kernel) rfl rfl (Nat.le_of_ble_eq_true rfl) dX2_init_9 (fun H locs hP hD hS => ?_)
  have hP : va_P D clS [(om, .inr (2, [.int (nI 0), .int (nI 0), .int (nI 0), .ref my, .null, .int (bI false), .int (nI 0), .int (bI false), .int (nI 0), .int (nI 0), .null, .int (nI 0), .int (nI 0), .null])), (my, .inl (cI, 24, .inl (fun jq => nI ((fun _ => 0) jq))))] H := hP
  have hD : va_D A [(om, .inr (2, [.int (nI 0), .int (nI 0), .int (nI 0), .ref my, .null, .int (bI false), .int (nI 0), .int (bI false), .int (nI 0), .int (nI 0), .null, .int (nI 0), .int (nI 0), .null])), (my, .inl (cI, 24, .inl (fun jq => nI ((fun _ => 0) jq))))] := hD
  refine lv_aload_n hx hb dX2_init_12 rfl (lv_at hl 0 rfl) ?_
  refine lv_bipush (v := nI 24) hx hb dX2_init_13 (by decide) ?_
  refine va_newa (atype := .int) (ty := .int) (a0 := (24, .inl (fun jq => nI ((fun _ => 0) jq)))) (N' := 24) hx hb (ht _ wa_int) rfl hK hP hD hS hA (fun _ => rfl) (nI_pos (by omega)) (nI_clamp (by omega)) (by show 24 * 4 ≤ 536870912; omega) (Nat.le_of_ble_eq_true rfl) (by show 24 + 24 ≤ 2106; omega) dX2_init_15 (fun mz cK H hK2 hP hD hS => ?_)
  obtain rfl : cI = cK := hw_uq hK2 (i := 0) (j := 2) rfl rfl
  have hP : va_P D clS [(om, .inr (2, [.int (nI 0), .int (nI 0), .int (nI 0), .ref my, .null, .int (bI false), .int (nI 0), .int (bI false), .int (nI 0), .int (nI 0), .null, .int (nI 0), .int (nI 0), .null])), (my, .inl (cI, 24, .inl (fun jq => nI ((fun _ => 0) jq)))), (mz, .inl (cI, 24, .inl (fun jq => nI ((fun _ => 0) jq))))] H := hP
  have hD : va_D A [(om, .inr (2, [.int (nI 0), .int (nI 0), .int (nI 0), .ref my, .null, .int (bI false), .int (nI 0), .int (bI false), .int (nI 0), .int (nI 0), .null, .int (nI 0), .int (nI 0), .null])), (my, .inl (cI, 24, .inl (fun jq => nI ((fun _ => 0) jq)))), (mz, .inl (cI, 24, .inl (fun jq => nI ((fun _ => 0) jq))))] := hD
  refine W.widen (k := 2) (n := 48) (by omega) (by omega) ?_
  refine va_putF (D := D) (ci := 2) (v := .ref mz) (ty := .array .int) (C := RX2) (T := TX2) (N := 14) hx hb ht inX2 tyX2 tyX2_ok nmX2 hown hK hP hD hS 0 rfl rfl 4 (by decide) (ht _ wf_X2_no) (fun _ h9 => h9) rfl hin rfl (by decide +kernel) rfl rfl (Nat.le_of_ble_eq_true rfl) dX2_init_17 (fun H locs hP hD hS => ?_)
  have hP : va_P D clS [(om, .inr (2, [.int (nI 0), .int (nI 0), .int (nI 0), .ref my, .ref mz, .int (bI false), .int (nI 0), .int (bI false), .int (nI 0), .int (nI 0), .null, .int (nI 0), .int (nI 0), .null])), (my, .inl (cI, 24, .inl (fun jq => nI ((fun _ => 0) jq)))), (mz, .inl (cI, 24, .inl (fun jq => nI ((fun _ => 0) jq))))] H := hP
  have hD : va_D A [(om, .inr (2, [.int (nI 0), .int (nI 0), .int (nI 0), .ref my, .ref mz, .int (bI false), .int (nI 0), .int (bI false), .int (nI 0), .int (nI 0), .null, .int (nI 0), .int (nI 0), .null])), (my, .inl (cI, 24, .inl (fun jq => nI ((fun _ => 0) jq)))), (mz, .inl (cI, 24, .inl (fun jq => nI ((fun _ => 0) jq))))] := hD
  refine lv_aload_n hx hb dX2_init_20 rfl (lv_at hl 0 rfl) ?_
  refine lv_iconst (v := (-1)) hx hb dX2_init_21 (by decide) ?_
  refine va_put (D := D) (ci := 2) (v := .int (-1)) (ty := .int) (C := RX2) (T := TX2) (N := 14) hx hb ht inX2 tyX2 tyX2_ok nmX2 hown hK hP hD hS 0 rfl rfl 6 (by decide) (ht _ wf_X2_skip) (fun _ h9 => h9) rfl (by decide +kernel) rfl rfl (Nat.le_of_ble_eq_true rfl) dX2_init_22 (fun H locs hP hD hS => ?_)
  have hP : va_P D clS [(om, .inr (2, [.int (nI 0), .int (nI 0), .int (nI 0), .ref my, .ref mz, .int (bI false), .int (-1), .int (bI false), .int (nI 0), .int (nI 0), .null, .int (nI 0), .int (nI 0), .null])), (my, .inl (cI, 24, .inl (fun jq => nI ((fun _ => 0) jq)))), (mz, .inl (cI, 24, .inl (fun jq => nI ((fun _ => 0) jq))))] H := hP
  have hD : va_D A [(om, .inr (2, [.int (nI 0), .int (nI 0), .int (nI 0), .ref my, .ref mz, .int (bI false), .int (-1), .int (bI false), .int (nI 0), .int (nI 0), .null, .int (nI 0), .int (nI 0), .null])), (my, .inl (cI, 24, .inl (fun jq => nI ((fun _ => 0) jq)))), (mz, .inl (cI, 24, .inl (fun jq => nI ((fun _ => 0) jq))))] := hD
  refine lv_aload_n hx hb dX2_init_25 rfl (lv_at hl 0 rfl) ?_
  refine lv_sipush (v := nI 2048) hx hb dX2_init_26 (by decide) ?_
  refine va_newa (atype := .boolean) (ty := .boolean) (a0 := (2048, .inl (fun jq => bI ((fun _ => false) jq)))) (N' := 2048) hx hb (ht _ wa_boolean) rfl hK hP hD hS hA (fun _ => rfl) (nI_pos (by omega)) (nI_clamp (by omega)) (by show 2048 * 1 ≤ 536870912; omega) (Nat.le_of_ble_eq_true rfl) (by show 48 + 2048 ≤ 2106; omega) dX2_init_29 (fun mv cK H hK2 hP hD hS => ?_)
  obtain rfl : cZ = cK := hw_uqz hK2 (i := 1) (j := 2) rfl rfl
  have hP : va_P D clS [(om, .inr (2, [.int (nI 0), .int (nI 0), .int (nI 0), .ref my, .ref mz, .int (bI false), .int (-1), .int (bI false), .int (nI 0), .int (nI 0), .null, .int (nI 0), .int (nI 0), .null])), (my, .inl (cI, 24, .inl (fun jq => nI ((fun _ => 0) jq)))), (mz, .inl (cI, 24, .inl (fun jq => nI ((fun _ => 0) jq)))), (mv, .inl (cZ, 2048, .inl (fun jq => bI ((fun _ => false) jq))))] H := hP
  have hD : va_D A [(om, .inr (2, [.int (nI 0), .int (nI 0), .int (nI 0), .ref my, .ref mz, .int (bI false), .int (-1), .int (bI false), .int (nI 0), .int (nI 0), .null, .int (nI 0), .int (nI 0), .null])), (my, .inl (cI, 24, .inl (fun jq => nI ((fun _ => 0) jq)))), (mz, .inl (cI, 24, .inl (fun jq => nI ((fun _ => 0) jq)))), (mv, .inl (cZ, 2048, .inl (fun jq => bI ((fun _ => false) jq))))] := hD
  refine W.widen (k := 3) (n := 2096) (by omega) (by omega) ?_
  refine va_putF (D := D) (ci := 2) (v := .ref mv) (ty := .array .boolean) (C := RX2) (T := TX2) (N := 14) hx hb ht inX2 tyX2 tyX2_ok nmX2 hown hK hP hD hS 0 rfl rfl 10 (by decide) (ht _ wf_X2_win) (fun _ h9 => h9) rfl hin rfl (by decide +kernel) rfl rfl (Nat.le_of_ble_eq_true rfl) dX2_init_31 (fun H locs hP hD hS => ?_)
  have hP : va_P D clS [(om, .inr (2, [.int (nI 0), .int (nI 0), .int (nI 0), .ref my, .ref mz, .int (bI false), .int (-1), .int (bI false), .int (nI 0), .int (nI 0), .ref mv, .int (nI 0), .int (nI 0), .null])), (my, .inl (cI, 24, .inl (fun jq => nI ((fun _ => 0) jq)))), (mz, .inl (cI, 24, .inl (fun jq => nI ((fun _ => 0) jq)))), (mv, .inl (cZ, 2048, .inl (fun jq => bI ((fun _ => false) jq))))] H := hP
  have hD : va_D A [(om, .inr (2, [.int (nI 0), .int (nI 0), .int (nI 0), .ref my, .ref mz, .int (bI false), .int (-1), .int (bI false), .int (nI 0), .int (nI 0), .ref mv, .int (nI 0), .int (nI 0), .null])), (my, .inl (cI, 24, .inl (fun jq => nI ((fun _ => 0) jq)))), (mz, .inl (cI, 24, .inl (fun jq => nI ((fun _ => 0) jq)))), (mv, .inl (cZ, 2048, .inl (fun jq => bI ((fun _ => false) jq))))] := hD
  refine lv_aload_n hx hb dX2_init_34 rfl (lv_at hl 0 rfl) ?_
  refine lv_iconst (v := nI 1) hx hb dX2_init_35 (by decide) ?_
  refine va_put (D := D) (ci := 2) (v := .int (nI 1)) (ty := .int) (C := RX2) (T := TX2) (N := 14) hx hb ht inX2 tyX2 tyX2_ok nmX2 hown hK hP hD hS 0 rfl rfl 11 (by decide) (ht _ wf_X2_position) (fun _ h9 => h9) rfl (by decide +kernel) rfl rfl (Nat.le_of_ble_eq_true rfl) dX2_init_36 (fun H locs hP hD hS => ?_)
  have hP : va_P D clS [(om, .inr (2, [.int (nI 0), .int (nI 0), .int (nI 0), .ref my, .ref mz, .int (bI false), .int (-1), .int (bI false), .int (nI 0), .int (nI 0), .ref mv, .int (nI 1), .int (nI 0), .null])), (my, .inl (cI, 24, .inl (fun jq => nI ((fun _ => 0) jq)))), (mz, .inl (cI, 24, .inl (fun jq => nI ((fun _ => 0) jq)))), (mv, .inl (cZ, 2048, .inl (fun jq => bI ((fun _ => false) jq))))] H := hP
  have hD : va_D A [(om, .inr (2, [.int (nI 0), .int (nI 0), .int (nI 0), .ref my, .ref mz, .int (bI false), .int (-1), .int (bI false), .int (nI 0), .int (nI 0), .ref mv, .int (nI 1), .int (nI 0), .null])), (my, .inl (cI, 24, .inl (fun jq => nI ((fun _ => 0) jq)))), (mz, .inl (cI, 24, .inl (fun jq => nI ((fun _ => 0) jq)))), (mv, .inl (cZ, 2048, .inl (fun jq => bI ((fun _ => false) jq))))] := hD
  refine lv_aload_n hx hb dX2_init_39 rfl (lv_at hl 0 rfl) ?_
  refine lv_bipush (v := nI 10) hx hb dX2_init_40 (by decide) ?_
  refine va_newa (atype := .int) (ty := .int) (a0 := (10, .inl (fun _ => 0))) (N' := 10) hx hb (ht _ wa_int) rfl hK hP hD hS hA (fun _ => rfl) (nI_pos (by omega)) (nI_clamp (by omega)) (by show 10 * 4 ≤ 536870912; omega) (Nat.le_of_ble_eq_true rfl) (by show 2096 + 10 ≤ 2106; omega) dX2_init_42 (fun mt cK H hK2 hP hD hS => ?_)
  obtain rfl : cI = cK := hw_uq hK2 (i := 0) (j := 2) rfl rfl
  have hP : va_P D clS [(om, .inr (2, [.int (nI 0), .int (nI 0), .int (nI 0), .ref my, .ref mz, .int (bI false), .int (-1), .int (bI false), .int (nI 0), .int (nI 0), .ref mv, .int (nI 1), .int (nI 0), .null])), (my, .inl (cI, 24, .inl (fun jq => nI ((fun _ => 0) jq)))), (mz, .inl (cI, 24, .inl (fun jq => nI ((fun _ => 0) jq)))), (mv, .inl (cZ, 2048, .inl (fun jq => bI ((fun _ => false) jq)))), (mt, .inl (cI, 10, .inl (fun _ => 0)))] H := hP
  have hD : va_D A [(om, .inr (2, [.int (nI 0), .int (nI 0), .int (nI 0), .ref my, .ref mz, .int (bI false), .int (-1), .int (bI false), .int (nI 0), .int (nI 0), .ref mv, .int (nI 1), .int (nI 0), .null])), (my, .inl (cI, 24, .inl (fun jq => nI ((fun _ => 0) jq)))), (mz, .inl (cI, 24, .inl (fun jq => nI ((fun _ => 0) jq)))), (mv, .inl (cZ, 2048, .inl (fun jq => bI ((fun _ => false) jq)))), (mt, .inl (cI, 10, .inl (fun _ => 0)))] := hD
  refine W.widen (k := 4) (n := 2106) (by omega) (by omega) ?_
  refine va_putF (D := D) (ci := 2) (v := .ref mt) (ty := .array .int) (C := RX2) (T := TX2) (N := 14) hx hb ht inX2 tyX2 tyX2_ok nmX2 hown hK hP hD hS 0 rfl rfl 13 (by decide) (ht _ wf_X2_tables) (fun _ h9 => h9) rfl hin rfl (by decide +kernel) rfl rfl (Nat.le_of_ble_eq_true rfl) dX2_init_44 (fun H locs hP hD hS => ?_)
  have hP : va_P D clS [(om, .inr (2, [.int (nI 0), .int (nI 0), .int (nI 0), .ref my, .ref mz, .int (bI false), .int (-1), .int (bI false), .int (nI 0), .int (nI 0), .ref mv, .int (nI 1), .int (nI 0), .ref mt])), (my, .inl (cI, 24, .inl (fun jq => nI ((fun _ => 0) jq)))), (mz, .inl (cI, 24, .inl (fun jq => nI ((fun _ => 0) jq)))), (mv, .inl (cZ, 2048, .inl (fun jq => bI ((fun _ => false) jq)))), (mt, .inl (cI, 10, .inl (fun _ => 0)))] H := hP
  have hD : va_D A [(om, .inr (2, [.int (nI 0), .int (nI 0), .int (nI 0), .ref my, .ref mz, .int (bI false), .int (-1), .int (bI false), .int (nI 0), .int (nI 0), .ref mv, .int (nI 1), .int (nI 0), .ref mt])), (my, .inl (cI, 24, .inl (fun jq => nI ((fun _ => 0) jq)))), (mz, .inl (cI, 24, .inl (fun jq => nI ((fun _ => 0) jq)))), (mv, .inl (cZ, 2048, .inl (fun jq => bI ((fun _ => false) jq)))), (mt, .inl (cI, 10, .inl (fun _ => 0)))] := hD
  refine lv_aload_n hx hb dX2_init_47 rfl (lv_at hl 0 rfl) ?_
  refine lv_iload_n hx hb dX2_init_48 rfl (lv_at hl 1 rfl) ?_
  refine lv_iconst (v := nI 1) hx hb dX2_init_49 (by decide) ?_
  suffices mk9 : W p l e (headSpec (kX2_init :: aW) { frames := 1, cells := 4, slots := 2106, locals := 20 }).room s m (([.ref om, .int x0, .int x1] : List Value).toArray) below meth c H locs 4 2106 (MQ below (cQ D (fun u : Nat × Nat × Nat × Nat => [(om, .inr (2, [.int (nI n), .int (nI a), .int (nI 0), .ref u.1, .ref u.2.1, .int (bI false), .int (-1), .int (bI false), .int (nI 0), .int (nI 0), .ref u.2.2.1, .int (nI (sd_pos 0 0)), .int (nI 0), .ref u.2.2.2])), (u.1, .inl (cI, 24, .inl (fun jq => nI ((fun _ => 0) jq)))), (u.2.1, .inl (cI, 24, .inl (fun jq => nI ((fun _ => 0) jq)))), (u.2.2.1, .inl (cZ, 2048, .inl (fun jq => bI ((fun _ => false) jq)))), (u.2.2.2, .inl (cI, 10, .inl (fun _ => 0)))]) A) (([.ref om, .int x0, .int x1] : List Value).toArray) s 4 2106 A) (F0 m 69 ls [.int (nI n), .ref om]) by
    refine lv_icmp_ge (tgt := 57) hx hb dX2_init_50 rfl (fun h1 => ?_) (fun h1 => ?_)
    · refine lv_iload_n hx hb dX2_init_57 rfl (lv_at hl 1 rfl) ?_
      refine lv_bipush (v := nI 10) hx hb dX2_init_58 (by decide) ?_
      refine lv_icmp_le (tgt := 68) hx hb dX2_init_60 rfl (fun h2 => ?_) (fun h2 => ?_)
      · refine lv_iload_n hx hb dX2_init_68 rfl (lv_at hl 1 rfl) ?_
        refine lv_nm (y := nI n) (by rw [hne]; exact sd_n_mid (Int32.not_lt.mpr h1) (Int32.not_lt.mpr h2)) ?_
        exact mk9
      · refine lv_bipush (v := nI 10) hx hb dX2_init_63 (by decide) ?_
        refine lv_nm (y := nI n) (by rw [hne]; unfold sd_n; rw [if_neg (Int32.not_lt.mpr h1), if_pos (Int32.not_le.mp h2)]) ?_
        refine lv_goto (tgt := 69) hx hb dX2_init_65 rfl ?_
        exact mk9
    · refine lv_iconst (v := nI 1) hx hb dX2_init_53 (by decide) ?_
      refine lv_nm (y := nI n) (by rw [hne]; unfold sd_n; rw [if_pos (Int32.not_le.mp h1)]) ?_
      refine lv_goto (tgt := 69) hx hb dX2_init_54 rfl ?_
      exact mk9
  refine va_putF (D := D) (ci := 2) (v := .int (nI n)) (ty := .int) (C := RX2) (T := TX2) (N := 14) hx hb ht inX2 tyX2 tyX2_ok nmX2 hown hK hP hD hS 0 rfl rfl 0 (by decide) (ht _ wf_X2_n) (fun _ h9 => h9) rfl hin rfl (by decide +kernel) rfl rfl (Nat.le_of_ble_eq_true rfl) dX2_init_69 (fun H locs hP hD hS => ?_)
  have hP : va_P D clS [(om, .inr (2, [.int (nI n), .int (nI 0), .int (nI 0), .ref my, .ref mz, .int (bI false), .int (-1), .int (bI false), .int (nI 0), .int (nI 0), .ref mv, .int (nI 1), .int (nI 0), .ref mt])), (my, .inl (cI, 24, .inl (fun jq => nI ((fun _ => 0) jq)))), (mz, .inl (cI, 24, .inl (fun jq => nI ((fun _ => 0) jq)))), (mv, .inl (cZ, 2048, .inl (fun jq => bI ((fun _ => false) jq)))), (mt, .inl (cI, 10, .inl (fun _ => 0)))] H := hP
  have hD : va_D A [(om, .inr (2, [.int (nI n), .int (nI 0), .int (nI 0), .ref my, .ref mz, .int (bI false), .int (-1), .int (bI false), .int (nI 0), .int (nI 0), .ref mv, .int (nI 1), .int (nI 0), .ref mt])), (my, .inl (cI, 24, .inl (fun jq => nI ((fun _ => 0) jq)))), (mz, .inl (cI, 24, .inl (fun jq => nI ((fun _ => 0) jq)))), (mv, .inl (cZ, 2048, .inl (fun jq => bI ((fun _ => false) jq)))), (mt, .inl (cI, 10, .inl (fun _ => 0)))] := hD
  refine lv_iconst (v := nI 0) hx hb dX2_init_72 (by decide) ?_
  refine lv_istore_n hx hb dX2_init_73 rfl hl (by decide) rfl (fun ls hl => ?_)
  have hl : lv_has ls 6 [(3, .int (nI 0)), (0, .ref om), (1, .int x0), (2, .int x1)] := hl
  refine lv_iconst (v := nI 0) hx hb dX2_init_74 (by decide) ?_
  refine lv_istore hx hb dX2_init_75 hl (by decide) rfl (fun ls hl => ?_)
  have hl : lv_has ls 6 [(4, .int (nI 0)), (3, .int (nI 0)), (0, .ref om), (1, .int x0), (2, .int x1)] := hl
  refine lv_iconst (v := nI 0) hx hb dX2_init_77 (by decide) ?_
  refine lv_istore hx hb dX2_init_78 hl (by decide) rfl (fun ls hl => ?_)
  have hl : lv_has ls 6 [(5, .int (nI 0)), (4, .int (nI 0)), (3, .int (nI 0)), (0, .ref om), (1, .int x0), (2, .int x1)] := hl
  have hl : lv_has ls 6 [(0, .ref om), (1, .int x0), (2, .int x1), (3, .int (nI 0)), (4, .int (nI 0)), (5, .int (nI 0))] := lv_sub hl [3, 4, 5, 2, 1, 0] rfl
  suffices lp : ∀ k : Nat, ∀ (i : Nat) (ls : Array Slot) (H : Heap) (locs : List Loc), (i + k = n) → lv_has ls 6 [(0, .ref om), (1, .int x0), (2, .int x1), (3, .int (nI ((sd_kk (uN x1) i).1))), (4, .int (nI ((sd_kk (uN x1) i).2))), (5, .int (nI i))] → va_P D clS [(om, .inr (2, [.int (nI n), .int (nI 0), .int (nI 0), .ref my, .ref mz, .int (bI false), .int (-1), .int (bI false), .int (nI 0), .int (nI 0), .ref mv, .int (nI 1), .int (nI 0), .ref mt])), (my, .inl (cI, 24, .inl (fun jq => nI ((fun _ => 0) jq)))), (mz, .inl (cI, 24, .inl (fun jq => nI ((fun _ => 0) jq)))), (mv, .inl (cZ, 2048, .inl (fun jq => bI ((fun _ => false) jq)))), (mt, .inl (cI, 10, .inl (fun _ => 0)))] H → va_S A s.heap H locs → W p l e (headSpec (kX2_init :: aW) { frames := 1, cells := 4, slots := 2106, locals := 20 }).room s m (([.ref om, .int x0, .int x1] : List Value).toArray) below meth c H locs 4 2106 (MQ below (cQ D (fun u : Nat × Nat × Nat × Nat => [(om, .inr (2, [.int (nI n), .int (nI a), .int (nI 0), .ref u.1, .ref u.2.1, .int (bI false), .int (-1), .int (bI false), .int (nI 0), .int (nI 0), .ref u.2.2.1, .int (nI (sd_pos 0 0)), .int (nI 0), .ref u.2.2.2])), (u.1, .inl (cI, 24, .inl (fun jq => nI ((fun _ => 0) jq)))), (u.2.1, .inl (cI, 24, .inl (fun jq => nI ((fun _ => 0) jq)))), (u.2.2.1, .inl (cZ, 2048, .inl (fun jq => bI ((fun _ => false) jq)))), (u.2.2.2, .inl (cI, 10, .inl (fun _ => 0)))]) A) (([.ref om, .int x0, .int x1] : List Value).toArray) s 4 2106 A) (F0 m 80 ls []) by
    exact lp n 0 ls H locs (by omega) hl hP hS
  intro k
  induction k with
  | zero =>
    intro i ls H locs hi hl hP hS
    have hD : va_D A [(om, .inr (2, [.int (nI n), .int (nI 0), .int (nI 0), .ref my, .ref mz, .int (bI false), .int (-1), .int (bI false), .int (nI 0), .int (nI 0), .ref mv, .int (nI 1), .int (nI 0), .ref mt])), (my, .inl (cI, 24, .inl (fun jq => nI ((fun _ => 0) jq)))), (mz, .inl (cI, 24, .inl (fun jq => nI ((fun _ => 0) jq)))), (mv, .inl (cZ, 2048, .inl (fun jq => bI ((fun _ => false) jq)))), (mt, .inl (cI, 10, .inl (fun _ => 0)))] := hw_ad hD rfl
    refine lv_iload hx hb dX2_init_80 (lv_at hl 5 rfl) ?_
    refine lv_aload_n hx hb dX2_init_82 rfl (lv_at hl 0 rfl) ?_
    refine va_get (D := D) (ci := 2) (v := .int (nI n)) (C := RX2) (T := TX2) (N := 14) hx hb ht inX2 hown hK hP 0 rfl rfl 0 (by decide) (ht _ wf_X2_n) (fun _ h9 => h9) rfl dX2_init_83 ?_
    refine lv_icmp_ge (tgt := 121) hx hb dX2_init_86 rfl (fun _ => ?_) (fun hc => absurd (show ¬ (n ≤ i) from fun h9 => hc ((nI_leI (by omega) (by omega)).mpr h9)) (by omega))
    have hl : lv_has ls 6 [(0, .ref om), (1, .int x0), (2, .int x1), (3, .int (nI a)), (4, .int (nI ((sd_kk (uN x1) i).2))), (5, .int (nI i))] := by rw [show nI a = nI ((sd_kk (uN x1) i).1) from by rw [hae, show n = i by omega]]; exact hl
    refine lv_aload_n hx hb dX2_init_121 rfl (lv_at hl 0 rfl) ?_
    refine lv_iload_n hx hb dX2_init_122 rfl (lv_at hl 3 rfl) ?_
    refine va_putF (D := D) (ci := 2) (v := .int (nI a)) (ty := .int) (C := RX2) (T := TX2) (N := 14) hx hb ht inX2 tyX2 tyX2_ok nmX2 hown hK hP hD hS 0 rfl rfl 1 (by decide) (ht _ wf_X2_adam) (fun _ h9 => h9) rfl hin rfl (by decide +kernel) rfl rfl (Nat.le_of_ble_eq_true rfl) dX2_init_123 (fun H locs hP hD hS => ?_)
    have hP : va_P D clS [(om, .inr (2, [.int (nI n), .int (nI a), .int (nI 0), .ref my, .ref mz, .int (bI false), .int (-1), .int (bI false), .int (nI 0), .int (nI 0), .ref mv, .int (nI 1), .int (nI 0), .ref mt])), (my, .inl (cI, 24, .inl (fun jq => nI ((fun _ => 0) jq)))), (mz, .inl (cI, 24, .inl (fun jq => nI ((fun _ => 0) jq)))), (mv, .inl (cZ, 2048, .inl (fun jq => bI ((fun _ => false) jq)))), (mt, .inl (cI, 10, .inl (fun _ => 0)))] H := hP
    have hD : va_D A [(om, .inr (2, [.int (nI n), .int (nI a), .int (nI 0), .ref my, .ref mz, .int (bI false), .int (-1), .int (bI false), .int (nI 0), .int (nI 0), .ref mv, .int (nI 1), .int (nI 0), .ref mt])), (my, .inl (cI, 24, .inl (fun jq => nI ((fun _ => 0) jq)))), (mz, .inl (cI, 24, .inl (fun jq => nI ((fun _ => 0) jq)))), (mv, .inl (cZ, 2048, .inl (fun jq => bI ((fun _ => false) jq)))), (mt, .inl (cI, 10, .inl (fun _ => 0)))] := hD
    exact W.vret hx hb hr (fun t ht2 _ => ⟨⟨(my, mz, mv, mt), rfl, by rw [ht2]; exact hP, hD⟩, hS.F ht2⟩) hS.2.2 dX2_init_126
  | succ k ih =>
    intro i ls H locs hi hl hP hS
    have hD : va_D A [(om, .inr (2, [.int (nI n), .int (nI 0), .int (nI 0), .ref my, .ref mz, .int (bI false), .int (-1), .int (bI false), .int (nI 0), .int (nI 0), .ref mv, .int (nI 1), .int (nI 0), .ref mt])), (my, .inl (cI, 24, .inl (fun jq => nI ((fun _ => 0) jq)))), (mz, .inl (cI, 24, .inl (fun jq => nI ((fun _ => 0) jq)))), (mv, .inl (cZ, 2048, .inl (fun jq => bI ((fun _ => false) jq)))), (mt, .inl (cI, 10, .inl (fun _ => 0)))] := hw_ad hD rfl
    have hk5 := sd_kk_5 (uN x1) i
    have hkl := sd_kk_lt (uN x1) i
    have h2i : 2 ^ i ≤ 1024 := hw_p10 (by omega)
    refine lv_iload hx hb dX2_init_80 (lv_at hl 5 rfl) ?_
    refine lv_aload_n hx hb dX2_init_82 rfl (lv_at hl 0 rfl) ?_
    refine va_get (D := D) (ci := 2) (v := .int (nI n)) (C := RX2) (T := TX2) (N := 14) hx hb ht inX2 hown hK hP 0 rfl rfl 0 (by decide) (ht _ wf_X2_n) (fun _ h9 => h9) rfl dX2_init_83 ?_
    refine lv_icmp_ge (tgt := 121) hx hb dX2_init_86 rfl (fun hc => absurd (show n ≤ i from (nI_leI (by omega) (by omega)).mp hc) (by omega)) (fun _ => ?_)
    refine lv_iload_n hx hb dX2_init_89 rfl (lv_at hl 2 rfl) ?_
    refine lv_iload hx hb dX2_init_90 (lv_at hl 5 rfl) ?_
    refine lv_ishr hx hb dX2_init_92 ?_
    refine lv_iconst (v := nI 1) hx hb dX2_init_93 (by decide) ?_
    refine lv_iand hx hb dX2_init_94 ?_
    refine lv_nm (y := bI ((uN x1).testBit i)) (hw_sbit _ (by omega)) ?_
    refine lv_iconst (v := nI 1) hx hb dX2_init_95 (by decide) ?_
    refine lv_icmp_ne (tgt := 115) hx hb dX2_init_96 rfl (fun h1 => ?_) (fun h1 => ?_)
    · have h1 : ((uN x1).testBit i) = false := bI_ne1 h1
      have hl : lv_has ls 6 [(0, .ref om), (1, .int x0), (2, .int x1), (3, .int (nI ((sd_kk (uN x1) (i + 1)).1))), (4, .int (nI ((sd_kk (uN x1) i).2))), (5, .int (nI i))] := by rw [show nI ((sd_kk (uN x1) (i + 1)).1) = nI ((sd_kk (uN x1) i).1) from by rw [sd_kk_f (fun h9 => absurd (h1.symm.trans h9.1) (by decide))]]; exact hl
      have hl : lv_has ls 6 [(0, .ref om), (1, .int x0), (2, .int x1), (3, .int (nI ((sd_kk (uN x1) (i + 1)).1))), (4, .int (nI ((sd_kk (uN x1) (i + 1)).2))), (5, .int (nI i))] := by rw [show nI ((sd_kk (uN x1) (i + 1)).2) = nI ((sd_kk (uN x1) i).2) from by rw [sd_kk_f (fun h9 => absurd (h1.symm.trans h9.1) (by decide))]]; exact hl
      refine lv_iinc (k := 5) (v := nI (i + 1)) hx hb dX2_init_115 hl rfl (hw_inc _) (by decide) rfl (fun ls hl => ?_)
      have hl : lv_has ls 6 [(5, .int (nI (i + 1))), (0, .ref om), (1, .int x0), (2, .int x1), (3, .int (nI ((sd_kk (uN x1) (i + 1)).1))), (4, .int (nI ((sd_kk (uN x1) (i + 1)).2)))] := hl
      refine lv_goto (tgt := 80) hx hb dX2_init_118 rfl ?_
      have hl : lv_has ls 6 [(0, .ref om), (1, .int x0), (2, .int x1), (3, .int (nI ((sd_kk (uN x1) (i + 1)).1))), (4, .int (nI ((sd_kk (uN x1) (i + 1)).2))), (5, .int (nI (i + 1)))] := lv_sub hl [1, 2, 3, 4, 5, 0] rfl
      exact ih (i + 1) ls H locs (by omega) hl hP hS
    · have h1 : ((uN x1).testBit i) = true := (bI_eq1 _).mp h1
      refine lv_iload hx hb dX2_init_99 (lv_at hl 4 rfl) ?_
      refine lv_iconst (v := nI 5) hx hb dX2_init_101 (by decide) ?_
      refine lv_icmp_ge (tgt := 115) hx hb dX2_init_102 rfl (fun h2 => ?_) (fun h2 => ?_)
      · have h2 : 5 ≤ (sd_kk (uN x1) i).2 := (nI_leI (by omega) (by omega)).mp h2
        have hl : lv_has ls 6 [(0, .ref om), (1, .int x0), (2, .int x1), (3, .int (nI ((sd_kk (uN x1) (i + 1)).1))), (4, .int (nI ((sd_kk (uN x1) i).2))), (5, .int (nI i))] := by rw [show nI ((sd_kk (uN x1) (i + 1)).1) = nI ((sd_kk (uN x1) i).1) from by rw [sd_kk_f (fun h9 => by omega)]]; exact hl
        have hl : lv_has ls 6 [(0, .ref om), (1, .int x0), (2, .int x1), (3, .int (nI ((sd_kk (uN x1) (i + 1)).1))), (4, .int (nI ((sd_kk (uN x1) (i + 1)).2))), (5, .int (nI i))] := by rw [show nI ((sd_kk (uN x1) (i + 1)).2) = nI ((sd_kk (uN x1) i).2) from by rw [sd_kk_f (fun h9 => by omega)]]; exact hl
        refine lv_iinc (k := 5) (v := nI (i + 1)) hx hb dX2_init_115 hl rfl (hw_inc _) (by decide) rfl (fun ls hl => ?_)
        have hl : lv_has ls 6 [(5, .int (nI (i + 1))), (0, .ref om), (1, .int x0), (2, .int x1), (3, .int (nI ((sd_kk (uN x1) (i + 1)).1))), (4, .int (nI ((sd_kk (uN x1) (i + 1)).2)))] := hl
        refine lv_goto (tgt := 80) hx hb dX2_init_118 rfl ?_
        have hl : lv_has ls 6 [(0, .ref om), (1, .int x0), (2, .int x1), (3, .int (nI ((sd_kk (uN x1) (i + 1)).1))), (4, .int (nI ((sd_kk (uN x1) (i + 1)).2))), (5, .int (nI (i + 1)))] := lv_sub hl [1, 2, 3, 4, 5, 0] rfl
        exact ih (i + 1) ls H locs (by omega) hl hP hS
      · have h2 : ¬ (5 ≤ (sd_kk (uN x1) i).2) := fun h9 => h2 ((nI_leI (by omega) (by omega)).mpr h9)
        refine lv_iload_n hx hb dX2_init_105 rfl (lv_at hl 3 rfl) ?_
        refine lv_iconst (v := nI 1) hx hb dX2_init_106 (by decide) ?_
        refine lv_iload hx hb dX2_init_107 (lv_at hl 5 rfl) ?_
        refine lv_ishl hx hb dX2_init_109 ?_
        refine lv_nm (y := nI (2 ^ i)) (hw_shl1' (by omega)) ?_
        refine lv_iadd hx hb dX2_init_110 ?_
        refine lv_nm (y := nI (((sd_kk (uN x1) i).1) + (2 ^ i))) (nI_add _ _) ?_
        refine lv_nm (y := nI ((sd_kk (uN x1) (i + 1)).1)) (by rw [sd_kk_t h1 (by omega)]) ?_
        refine lv_istore_n hx hb dX2_init_111 rfl hl (by decide) rfl (fun ls hl => ?_)
        have hl : lv_has ls 6 [(3, .int (nI ((sd_kk (uN x1) (i + 1)).1))), (0, .ref om), (1, .int x0), (2, .int x1), (4, .int (nI ((sd_kk (uN x1) i).2))), (5, .int (nI i))] := hl
        refine lv_iinc (k := 4) (v := nI ((sd_kk (uN x1) (i + 1)).2)) hx hb dX2_init_112 hl rfl ((hw_inc _).trans (by rw [sd_kk_t h1 (by omega)])) (by decide) rfl (fun ls hl => ?_)
        have hl : lv_has ls 6 [(4, .int (nI ((sd_kk (uN x1) (i + 1)).2))), (3, .int (nI ((sd_kk (uN x1) (i + 1)).1))), (0, .ref om), (1, .int x0), (2, .int x1), (5, .int (nI i))] := hl
        refine lv_iinc (k := 5) (v := nI (i + 1)) hx hb dX2_init_115 hl rfl (hw_inc _) (by decide) rfl (fun ls hl => ?_)
        have hl : lv_has ls 6 [(5, .int (nI (i + 1))), (4, .int (nI ((sd_kk (uN x1) (i + 1)).2))), (3, .int (nI ((sd_kk (uN x1) (i + 1)).1))), (0, .ref om), (1, .int x0), (2, .int x1)] := hl
        refine lv_goto (tgt := 80) hx hb dX2_init_118 rfl ?_
        have hl : lv_has ls 6 [(0, .ref om), (1, .int x0), (2, .int x1), (3, .int (nI ((sd_kk (uN x1) (i + 1)).1))), (4, .int (nI ((sd_kk (uN x1) (i + 1)).2))), (5, .int (nI (i + 1)))] := lv_sub hl [3, 4, 5, 2, 1, 0] rfl
        exact ih (i + 1) ls H locs (by omega) hl hP hS
