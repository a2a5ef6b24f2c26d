/-! Help rows of my own: words, contracts of calls that change nothing and of calls that change cells but make none, arrays by Nat places, numbers. -/
-- words
theorem gA {cy : Cond} (h5 : cy ∈ aW) : GoodIn aW (cy :: aW) := by
  intro w hw
  have hm : w ∈ aW := by
    rcases List.mem_cons.mp hw with h | h
    · rw [h]; exact h5
    · exact h
  exact ⟨hm, good_of_word (aW_good w hm)⟩
theorem gV {own C : String} {idx : Nat} {y : MethodName} {cy : Cond} (h1 : Cond.methodLink own idx y ∈ aW) (h2 : Cond.instanceMethod y ∈ aW) (h3 : Cond.selects C y y ∈ aW) (h4 : Cond.initialized C ∈ aW) (h5 : cy ∈ aW) : GoodIn aW (wsV own idx C y (cy :: aW)) := by
  intro w hw
  have hm : w ∈ aW := by
    unfold wsV at hw
    rcases List.mem_append.mp hw with h | h
    · rcases List.mem_cons.mp h with h | h
      · rw [h]; exact h1
      rcases List.mem_cons.mp h with h | h
      · rw [h]; exact h2
      rcases List.mem_cons.mp h with h | h
      · rw [h]; exact h3
      rw [List.mem_singleton.mp h]; exact h4
    · rcases List.mem_cons.mp h with h | h
      · rw [h]; exact h5
      · exact h
  exact ⟨hm, good_of_word (aW_good w hm)⟩
theorem gS {own : String} {idx : Nat} {y : MethodName} {cy : Cond} (h1 : Cond.methodLink own idx y ∈ aW) (h2 : Cond.static y ∈ aW) (h4 : Cond.initialized y.cls ∈ aW) (h5 : cy ∈ aW) : GoodIn aW (va_wsS own idx y (cy :: aW)) := by
  intro w hw
  have hm : w ∈ aW := by
    unfold va_wsS at hw
    rcases List.mem_append.mp hw with h | h
    · rcases List.mem_cons.mp h with h | h
      · rw [h]; exact h1
      rcases List.mem_cons.mp h with h | h
      · rw [h]; exact h2
      rw [List.mem_singleton.mp h]; exact h4
    · rcases List.mem_cons.mp h with h | h
      · rw [h]; exact h5
      · exact h
  exact ⟨hm, good_of_word (aW_good w hm)⟩
-- a bool as an int
def bI (b : Bool) : Int32 := if b then 1 else 0
theorem bI_t : bI true = 1 := rfl
theorem bI_f : bI false = 0 := rfl
theorem bI_nar (b : Bool) : narrow .boolean (.int (bI b)) = .int (bI b) := by cases b <;> rfl
theorem bI_vp (b : Bool) : vp_nar .boolean (bI b) = bI b := by cases b <;> rfl
theorem bI_eq0 (b : Bool) : bI b = 0 ↔ b = false := by cases b <;> decide
theorem bI_inj (a b : Bool) : bI a = bI b ↔ a = b := by cases a <;> cases b <;> decide
theorem bI_eq1 (b : Bool) : bI b = nI 1 ↔ b = true := by cases b <;> decide
theorem bI_ne0 {b : Bool} (h : ¬ bI b = 0) : b = true := by cases b with
  | true => rfl
  | false => exact absurd rfl h
theorem bI_ne1 {b : Bool} (h : ¬ bI b = nI 1) : b = false := by cases b with
  | true => exact absurd rfl h
  | false => rfl
theorem bI_fit (b : Bool) : fits .boolean (.int (bI b)) = true := by cases b <;> rfl
theorem hw_0 : nI 0 = bI false := rfl
theorem hw_1 : nI 1 = bI true := rfl
theorem hw_ret {v r : Int32} (h : v = r) : Outcome.returned (some (Value.int v)) = .returned (some (.int r)) := by rw [h]
theorem bI_upd (f : Nat → Bool) (k : Nat) (b : Bool) : upd (fun j => bI (f j)) k (bI b) = fun j => bI (va_up f k b j) := by
  funext j
  by_cases h : j = k <;> simp [upd, va_up, h]
-- numbers
theorem hw_inc (a : Nat) : nI a + Int32.ofInt 1 = nI (a + 1) := nI_1 a
theorem hw_dec (a : Nat) : nI (a + 1) + Int32.ofInt (-1) = nI a := pk_m1 a
theorem hw_cnt : ∀ n, n < 32 → ((nI n &&& 31).toBitVec.smod 32).toNat = n := by decide +kernel
theorem hw_shl {a d : Nat} (hd : d < 32) (h : a * 2 ^ d < 2 ^ 31) : nI a <<< (nI d &&& 31) = nI (a * 2 ^ d) := pk_shlN _ d (hw_cnt d hd) (by omega)
theorem hw_shl1 {d : Nat} (hd : d < 31) : nI 1 <<< (nI d &&& 31) = nI (2 ^ d) := by
  have h : 2 ^ d < 2 ^ 31 := Nat.pow_lt_pow_right (by decide) hd
  rw [hw_shl (by omega) (by omega), Nat.one_mul]
theorem hw_shl2 {d : Nat} (hd : d < 30) : nI 2 <<< (nI d &&& 31) = nI (2 * 2 ^ d) := by
  have h : 2 ^ d < 2 ^ 30 := Nat.pow_lt_pow_right (by decide) hd
  exact hw_shl (by omega) (by omega)
theorem hw_m1 (x : Int32) : x + Int32.ofInt (-1) = x - 1 := by
  rw [Int32.sub_eq_add_neg]
  rfl
theorem hw_le0 {n : Nat} (hn : n < 2 ^ 31) (h : nI n ≤ 0) : n = 0 := by
  apply Nat.eq_zero_of_not_pos
  intro h0
  exact nI_nle h0 hn h
theorem hw_nle0 {n : Nat} (h : ¬ nI n ≤ 0) : 0 < n := by
  apply Nat.pos_of_ne_zero
  intro h0
  subst h0
  exact h (by decide)
theorem hw_gt0 {n : Nat} (h : 0 < nI n) : 0 < n := by
  apply Nat.pos_of_ne_zero
  intro h0
  subst h0
  exact absurd h (by decide)
theorem hw_ngt0 {n : Nat} (hn : n < 2 ^ 31) (h : ¬ 0 < nI n) : n = 0 := by
  apply Nat.eq_zero_of_not_pos
  intro h0
  exact h (nI_lt h0 hn)
theorem hw_and (a b : Nat) : nI a &&& nI b = nI (a &&& b) := by
  apply Int32.toBitVec_inj.mp
  simp [nI, Int32.toBitVec_and]
theorem hw_or (a b : Nat) : nI a ||| nI b = nI (a ||| b) := by
  apply Int32.toBitVec_inj.mp
  simp [nI, Int32.toBitVec_or]
-- contracts of methods that change nothing
def rPre (av : List Value) (D : va_G) (ws : va_W) (tys : List (ClassId × FieldType)) : Array Value → State → Prop := va_Pc av (fun U => va_P D clS ws U.heap ∧ va_K D clS tys U ∧ nst U)
theorem rPre_blind {av : List Value} {D : va_G} {ws : va_W} {tys : List (ClassId × FieldType)} : FrameBlind (rPre av D ws tys) := fun a U g mk q => ⟨q.1, q.2.1, va_K.moved (u := U) (U := U.calling g mk a) (Vm.Alike.refl U.vm) q.2.2.1, va_Nw.same rfl rfl q.2.2.2⟩
theorem rPre_S {s : State} {H : Heap} {As : List Value} {D : va_G} {ws : va_W} {tys : List (ClassId × FieldType)} (hP : va_P D clS ws H) (hK : va_K D clS tys s) (hN : nst s) : PreS s H (rPre As D ws tys) As := ⟨rPre_blind, fun U hU hW => ⟨rfl, by rw [hU]; exact hP, va_K.moved hW.alike hK, va_Nw.warmM hW hN⟩⟩
theorem rPre_V {s : State} {H : Heap} {b ci : Nat} {C : String} {T : u_T} {N : Nat} {fs : List Value} {As : List Value} {D : va_G} {ws : va_W} {tys : List (ClassId × FieldType)} (q0 : Nat) (hP : va_P D clS ws H) (hK : va_K D clS tys s) (hN : nst s) (hc : clS[ci]? = some (C, T, N)) (he : ws[q0]? = some (b, .inr (ci, fs))) : PreV s H C b (rPre (.ref b :: As) D ws tys) As := ⟨rPre_blind, va_recv hK hP hc he, fun U hU hW => ⟨rfl, by rw [hU]; exact hP, va_K.moved hW.alike hK, va_Nw.warmM hW hN⟩⟩
-- contracts of methods that change cells of their world and make none
def wPre (av : List Value) (D : va_G) (ws : va_W) (tys : List (ClassId × FieldType)) (sz : Nat) : Array Value → State → Prop := va_Pc av (fun U => U.heap.size = sz ∧ va_P D clS ws U.heap ∧ va_K D clS tys U ∧ nst U ∧ va_D (fun _ => True) ws)
def wQ (o : Option Value) (D : va_G) (ws' : va_W) (A : Nat → Prop) : Array Value → State → Outcome → State → Prop := fun _ st oc t => oc = .returned o ∧ va_P D clS ws' t.heap ∧ va_F A st t
theorem wPre_blind {av : List Value} {D : va_G} {ws : va_W} {tys : List (ClassId × FieldType)} {sz : Nat} : FrameBlind (wPre av D ws tys sz) := fun a U g mk q => ⟨q.1, q.2.1, q.2.2.1, va_K.moved (u := U) (U := U.calling g mk a) (Vm.Alike.refl U.vm) q.2.2.2.1, va_Nw.same rfl rfl q.2.2.2.2.1, q.2.2.2.2.2⟩
theorem wPre_S {s : State} {H : Heap} {As : List Value} {D : va_G} {ws : va_W} {tys : List (ClassId × FieldType)} {A : Nat → Prop} (hP : va_P D clS ws H) (hD : va_D A ws) (hK : va_K D clS tys s) (hN : nst s) : PreS s H (wPre As D ws tys H.size) As := ⟨wPre_blind, fun U hU hW => ⟨rfl, by rw [hU], by rw [hU]; exact hP, va_K.moved hW.alike hK, va_Nw.warmM hW hN, hD.weaken (fun _ _ _ _ => trivial)⟩⟩
theorem wPre_V {s : State} {H : Heap} {b ci : Nat} {C : String} {T : u_T} {N : Nat} {fs : List Value} {As : List Value} {D : va_G} {ws : va_W} {tys : List (ClassId × FieldType)} {A : Nat → Prop} (q0 : Nat) (hP : va_P D clS ws H) (hD : va_D A ws) (hK : va_K D clS tys s) (hN : nst s) (hc : clS[ci]? = some (C, T, N)) (he : ws[q0]? = some (b, .inr (ci, fs))) : PreV s H C b (wPre (.ref b :: As) D ws tys H.size) As := ⟨wPre_blind, va_recv hK hP hc he, fun U hU hW => ⟨rfl, by rw [hU], by rw [hU]; exact hP, va_K.moved hW.alike hK, va_Nw.warmM hW hN, hD.weaken (fun _ _ _ _ => trivial)⟩⟩
/-- the cells' addresses alone say that they are apart -/
theorem hw_adr {A : Nat → Prop} {ws ws' : va_W} (h : ws'.map (fun q => q.1) = ws.map (fun q => q.1)) (hD : va_D A ws) : va_D A ws' := by
  have key : ∀ (k : Nat) (q : Nat × va_E), ws'[k]? = some q → ∃ q2, ws[k]? = some q2 ∧ q2.1 = q.1 := by
    intro k q hk
    have h1 : (ws'.map (fun q => q.1))[k]? = some q.1 := by rw [List.getElem?_map, hk]; rfl
    rw [h, List.getElem?_map] at h1
    cases h2 : ws[k]? with
    | none => rw [h2] at h1; cases h1
    | some q2 => rw [h2] at h1; exact ⟨q2, rfl, Option.some.inj h1⟩
  refine ⟨fun i j x y hi hj hxy => ?_, fun k q hk => ?_⟩
  · obtain ⟨p2, a1, a2⟩ := key i x hi
    obtain ⟨q2, b1, b2⟩ := key j y hj
    exact hD.1 i j p2 q2 a1 b1 (by rw [a2, b2, hxy])
  · obtain ⟨q2, b1, b2⟩ := key k q hk
    rw [← b2]
    exact hD.2 k q2 b1
theorem hw_ad {A : Nat → Prop} {ws ws' : va_W} (hD : va_D A ws) (h : ws'.map (fun q => q.1) = ws.map (fun q => q.1)) : va_D A ws' := hw_adr h hD
/-- an array's contents are told by what stands below its length -/
theorem hw_cg {D : va_G} {cl : List vw_C} {ws ws' : va_W} {H : Heap} {a n q0 : Nat} {cA : ClassId} {f : Nat → Int32} (hP : va_P D cl ws H) (g : Nat → Int32) (ha : ws[q0]? = some (a, .inl (cA, n, .inl f))) (hg : ∀ j, j < n → f j = g j) (hw : ws.set q0 (a, .inl (cA, n, .inl g)) = ws') : va_P D cl ws' H := by
  subst hw
  intro k q hk
  by_cases hkq : k = q0
  · subst hkq
    rw [List.getElem?_set_self (List.getElem?_eq_some_iff.mp ha).1] at hk
    cases hk
    have h1 := hP k _ ha
    show H[a]? = some (vp_cell cA (n, .inl g))
    have h2 : vp_cell cA (n, .inl f) = vp_cell cA (n, .inl g) := by
      rw [vp_cell_i, vp_cell_i]
      unfold arrV
      congr 1
      apply congrArg
      funext j
      show Value.int (f j.val) = Value.int (g j.val)
      rw [hg j.val j.isLt]
    rw [← h2]
    exact h1
  · rw [List.getElem?_set_ne (fun h => hkq h.symm)] at hk
    exact hP k q hk
theorem hw_cgz {D : va_G} {cl : List vw_C} {ws ws' : va_W} {H : Heap} {a n q0 : Nat} {cA : ClassId} {f : Nat → Bool} (hP : va_P D cl ws H) (g : Nat → Bool) (ha : ws[q0]? = some (a, .inl (cA, n, .inl (fun j => bI (f j))))) (hg : ∀ j, j < n → f j = g j) (hw : ws.set q0 (a, .inl (cA, n, .inl (fun j => bI (g j)))) = ws') : va_P D cl ws' H :=
  hw_cg hP (fun j => bI (g j)) ha (fun j hj => by rw [hg j hj]) hw
theorem hw_cgn {D : va_G} {cl : List vw_C} {ws ws' : va_W} {H : Heap} {a n q0 : Nat} {cA : ClassId} {f : Nat → Nat} (hP : va_P D cl ws H) (g : Nat → Nat) (ha : ws[q0]? = some (a, .inl (cA, n, .inl (fun j => nI (f j))))) (hg : ∀ j, j < n → f j = g j) (hw : ws.set q0 (a, .inl (cA, n, .inl (fun j => nI (g j)))) = ws') : va_P D cl ws' H :=
  hw_cg hP (fun j => nI (g j)) ha (fun j hj => by rw [hg j hj]) hw
theorem nI_upd (f : Nat → Nat) (k x : Nat) : upd (fun j => nI (f j)) k (nI x) = fun j => nI (va_up f k x j) := by
  funext j
  by_cases h : j = k <;> simp [upd, va_up, h]
/-- two class numbers of one array type are one -/
theorem hw_uq {D : va_G} {cl : List vw_C} {tys : List (ClassId × FieldType)} {U : State} (hK : va_K D cl tys U) {i j : Nat} {c1 c2 : ClassId} (hi : tys[i]? = some (c1, .int)) (hj : tys[j]? = some (c2, .int)) : c1 = c2 := by
  have a1 : U.vm.findClass ("[" ++ (FieldType.int).toString) = some c1 := (hK.2 i _ hi).2
  have a2 : U.vm.findClass ("[" ++ (FieldType.int).toString) = some c2 := (hK.2 j _ hj).2
  exact Option.some.inj (a1.symm.trans a2)
theorem hw_uqz {D : va_G} {cl : List vw_C} {tys : List (ClassId × FieldType)} {U : State} (hK : va_K D cl tys U) {i j : Nat} {c1 c2 : ClassId} (hi : tys[i]? = some (c1, .boolean)) (hj : tys[j]? = some (c2, .boolean)) : c1 = c2 := by
  have a1 : U.vm.findClass ("[" ++ (FieldType.boolean).toString) = some c1 := (hK.2 i _ hi).2
  have a2 : U.vm.findClass ("[" ++ (FieldType.boolean).toString) = some c2 := (hK.2 j _ hj).2
  exact Option.some.inj (a1.symm.trans a2)
section HW
variable {p : Program} {l : Launch} {e : Env} {R : Room} {s : State} {m : MethodId} {args : Array Value} {below : List Frame} {meth : Method} {c : Code} {H : Heap} {locs : List Loc} {cells slots : Nat} {Q : State → Prop}
variable {cc : ByteArray} {pc : Nat} {ls : Array Slot} {rest : List Value} {D : va_G} {cl : List vw_C} {A : Nat → Prop} {a : Nat} {tys : List (ClassId × FieldType)} {ws : va_W} {H0 : Heap}
theorem lv_nm {x y : Int32} (h : x = y) (k : W p l e R s m args below meth c H locs cells slots Q (F0 m pc ls (.int y :: rest))) : W p l e R s m args below meth c H locs cells slots Q (F0 m pc ls (.int x :: rest)) := by
  rw [h]; exact k
theorem na_iald (hexec : p.tables.exec = Jvm.exec) (hb : c.code = cc) (hK : va_K D cl tys s) (hP : va_P D cl ws H) (q0 t0 : Nat) {cA : ClassId} {n : Nat} {f : Nat → Int32} (ha : ws[q0]? = some (a, .inl (cA, n, .inl f))) (ht : tys[t0]? = some (cA, .int)) {j : Nat} (hj : j < n) (hn : n < 2 ^ 31) (hdg : decode cc pc = .ok (.iaload, 1))
    (kk : W p l e R s m args below meth c H locs cells slots Q (F0 m (pc + 1) ls (.int (f j) :: rest))) : W p l e R s m args below meth c H locs cells slots Q (F0 m pc ls (.int (nI j) :: .ref a :: rest)) := by
  refine va_iald hexec hb hK hP q0 t0 ha ht (vp_in_nI hj hn) hdg ?_
  rw [nI_clamp (by omega)]; exact kk
theorem na_zald (hexec : p.tables.exec = Jvm.exec) (hb : c.code = cc) (hK : va_K D cl tys s) (hP : va_P D cl ws H) (q0 t0 : Nat) {cA : ClassId} {n : Nat} {f : Nat → Bool} (ha : ws[q0]? = some (a, .inl (cA, n, .inl (fun j => bI (f j))))) (ht : tys[t0]? = some (cA, .boolean)) {j : Nat} (hj : j < n) (hn : n < 2 ^ 31) (hdg : decode cc pc = .ok (.baload, 1))
    (kk : W p l e R s m args below meth c H locs cells slots Q (F0 m (pc + 1) ls (.int (bI (f j)) :: rest))) : W p l e R s m args below meth c H locs cells slots Q (F0 m pc ls (.int (nI j) :: .ref a :: rest)) := by
  refine va_zald hexec hb hK hP q0 t0 ha ht (vp_in_nI hj hn) hdg ?_
  rw [nI_clamp (by omega)]; exact kk
theorem na_nald (hexec : p.tables.exec = Jvm.exec) (hb : c.code = cc) (hK : va_K D cl tys s) (hP : va_P D cl ws H) (q0 t0 : Nat) {cA : ClassId} {n : Nat} {f : Nat → Nat} (ha : ws[q0]? = some (a, .inl (cA, n, .inl (fun j => nI (f j))))) (ht : tys[t0]? = some (cA, .int)) {j : Nat} (hj : j < n) (hn : n < 2 ^ 31) (hdg : decode cc pc = .ok (.iaload, 1))
    (kk : W p l e R s m args below meth c H locs cells slots Q (F0 m (pc + 1) ls (.int (nI (f j)) :: rest))) : W p l e R s m args below meth c H locs cells slots Q (F0 m pc ls (.int (nI j) :: .ref a :: rest)) := by
  refine va_iald hexec hb hK hP q0 t0 ha ht (vp_in_nI hj hn) hdg ?_
  rw [nI_clamp (by omega)]; exact kk
theorem na_iast (hexec : p.tables.exec = Jvm.exec) (hb : c.code = cc) (hK : va_K D cl tys s) (hP : va_P D cl ws H) (hD : va_D A ws) (hS : va_S A H0 H locs) (q0 t0 : Nat) {cA : ClassId} {n : Nat} {f : Nat → Int32} (ha : ws[q0]? = some (a, .inl (cA, n, .inl f))) (ht : tys[t0]? = some (cA, .int)) {j : Nat} {x : Int32} (hj : j < n) (hn : n < 2 ^ 31) (hdg : decode cc pc = .ok (.iastore, 1))
    (kk : ∀ (H1 : Heap) (locs1 : List Loc), va_P D cl (ws.set q0 (a, .inl (cA, n, .inl (upd f j x)))) H1 → va_D A (ws.set q0 (a, .inl (cA, n, .inl (upd f j x)))) → va_S A H0 H1 locs1 → W p l e R s m args below meth c H1 locs1 cells slots Q (F0 m (pc + 1) ls rest)) : W p l e R s m args below meth c H locs cells slots Q (F0 m pc ls (.int x :: .int (nI j) :: .ref a :: rest)) := by
  refine va_iast hexec hb hK hP hD hS q0 t0 ha ht (vp_in_nI hj hn) hdg ?_
  rw [nI_clamp (by omega)]; exact kk
theorem na_zast (hexec : p.tables.exec = Jvm.exec) (hb : c.code = cc) (hK : va_K D cl tys s) (hP : va_P D cl ws H) (hD : va_D A ws) (hS : va_S A H0 H locs) (q0 t0 : Nat) {cA : ClassId} {n : Nat} {f : Nat → Bool} (ha : ws[q0]? = some (a, .inl (cA, n, .inl (fun j => bI (f j))))) (ht : tys[t0]? = some (cA, .boolean)) {j : Nat} {b : Bool} (hj : j < n) (hn : n < 2 ^ 31) (hdg : decode cc pc = .ok (.bastore, 1))
    (kk : ∀ (H1 : Heap) (locs1 : List Loc), va_P D cl (ws.set q0 (a, .inl (cA, n, .inl (fun i => bI (va_up f j b i))))) H1 → va_D A (ws.set q0 (a, .inl (cA, n, .inl (fun i => bI (va_up f j b i))))) → va_S A H0 H1 locs1 → W p l e R s m args below meth c H1 locs1 cells slots Q (F0 m (pc + 1) ls rest)) : W p l e R s m args below meth c H locs cells slots Q (F0 m pc ls (.int (bI b) :: .int (nI j) :: .ref a :: rest)) := by
  refine va_zast hexec hb hK hP hD hS q0 t0 ha ht (vp_in_nI hj hn) hdg ?_
  rw [nI_clamp (by omega), bI_vp, bI_upd]; exact kk
theorem na_nast (hexec : p.tables.exec = Jvm.exec) (hb : c.code = cc) (hK : va_K D cl tys s) (hP : va_P D cl ws H) (hD : va_D A ws) (hS : va_S A H0 H locs) (q0 t0 : Nat) {cA : ClassId} {n : Nat} {f : Nat → Nat} (ha : ws[q0]? = some (a, .inl (cA, n, .inl (fun j => nI (f j))))) (ht : tys[t0]? = some (cA, .int)) {j x : Nat} (hj : j < n) (hn : n < 2 ^ 31) (hdg : decode cc pc = .ok (.iastore, 1))
    (kk : ∀ (H1 : Heap) (locs1 : List Loc), va_P D cl (ws.set q0 (a, .inl (cA, n, .inl (fun i => nI (va_up f j x i))))) H1 → va_D A (ws.set q0 (a, .inl (cA, n, .inl (fun i => nI (va_up f j x i))))) → va_S A H0 H1 locs1 → W p l e R s m args below meth c H1 locs1 cells slots Q (F0 m (pc + 1) ls rest)) : W p l e R s m args below meth c H locs cells slots Q (F0 m pc ls (.int (nI x) :: .int (nI j) :: .ref a :: rest)) := by
  refine va_iast hexec hb hK hP hD hS q0 t0 ha ht (vp_in_nI hj hn) hdg ?_
  rw [nI_clamp (by omega), nI_upd]; exact kk
theorem hw_cr {g : JFrame} {mc ms : Nat} {Qa : State → Outcome → State → Prop} {free : Addr → Prop} (h : va_Run p l e R s m args below meth c H locs cells slots mc ms g rest Qa free) : CallRun p l e R s m args below meth c H locs cells slots mc ms g rest Qa free := by
  intro T hT X
  obtain ⟨v, st, t, T', L, h0, X', hL, e1, e2, hq, hg⟩ := h T hT X
  exact ⟨v, st, t, T', L, h0, X', hL, e1, hq, hg⟩
/-- a call that changes nothing -/
theorem hw_callR {r : Int32} {st0 : List Value} {av : Array Value} (hr : va_Run p l e R s m args below meth c H locs cells slots 0 0 (F0 m pc ls st0) rest (QcRead r av) (fun _ => False)) (kk : W p l e R s m args below meth c H locs cells slots Q (F0 m (pc + 3) ls (.int r :: rest))) : W p l e R s m args below meth c H locs cells slots Q (F0 m pc ls st0) := W.callR (hw_cr hr) kk
/-- a call that changes cells of the whole world -/
theorem hw_callW {o : Option Value} {ws' : va_W} {st0 : List Value} {av : Array Value} (hr : va_Run p l e R s m args below meth c H locs cells slots 0 0 (F0 m pc ls st0) rest (wQ o D ws' (va_A ws H.size) av) (va_A ws H.size)) (hD : va_D A ws) (hS : va_S A H0 H locs) (hA : ∀ q, H0.size ≤ q → A q) (hadr : ws'.map (fun q => q.1) = ws.map (fun q => q.1))
    (kk : ∀ (H1 : Heap) (locs1 : List Loc), va_P D clS ws' H1 → va_D A ws' → va_S A H0 H1 locs1 → W p l e R s m args below meth c H1 locs1 cells slots Q (F0 m (pc + 3) ls (o.toList ++ rest))) : W p l e R s m args below meth c H locs cells slots Q (F0 m pc ls st0) := by
  have hF : ∀ q, va_A ws H.size q → A q := by
    intro q h
    rcases h with ⟨k, e9, h⟩ | h
    · exact hD.2 k (q, e9) h
    · exact hA q (Nat.le_trans hS.1 h)
  intro T hT X
  obtain ⟨v, st, t, T', L, h0, X', hL, e1, e2, ⟨hv, hP1, hz, hk⟩, hg⟩ := hr T hT X
  cases hv
  rw [h0] at hz hk
  obtain ⟨t2, a1, b1⟩ := kk T'.heap (locs ++ L) (by rw [e1]; exact hP1) (hw_adr hadr hD)
    ⟨Nat.le_trans hS.1 (by rw [e1]; exact hz), fun q h1 h2 => by rw [e1, hk q (Nat.lt_of_lt_of_le h1 hS.1) (fun z => h2 (hF q z))]; exact hS.2.1 q h1 h2, fun q hq => by
      rcases List.mem_append.mp hq with h | h
      · exact hS.2.2 q h
      · exact hF _ (hL q h)⟩ T' rfl X'
  exact ⟨t2, hg t2 a1, b1⟩
/-- a call that changes cells of a part of the world: isC the callee's places, isR the others', pm the order behind it -/
theorem hw_call {o : Option Value} {wc wc' wr ws' : va_W} {st0 : List Value} {av : Array Value} (hr : va_Run p l e R s m args below meth c H locs cells slots 0 0 (F0 m pc ls st0) rest (wQ o D wc' (va_A wc H.size) av) (va_A wc H.size)) (hP : va_P D clS ws H) (hD : va_D A ws) (hS : va_S A H0 H locs) (hA : ∀ q, H0.size ≤ q → A q)
    (isC isR pm : List Nat) (hC : isC.map (fun i => ws[i]?) = wc.map some) (hR : isR.map (fun i => ws[i]?) = wr.map some) (hnC : va_nd isC = true) (hnR : va_nd isR = true) (hdis : ∀ i ∈ isR, i ∉ isC) (hc' : wc'.map (fun q => q.1) = wc.map (fun q => q.1)) (hpm : pm.filterMap (fun i => (wr ++ wc')[i]?) = ws') (hadr : ws'.map (fun q => q.1) = ws.map (fun q => q.1))
    (kk : ∀ (H1 : Heap) (locs1 : List Loc), va_P D clS ws' H1 → va_D A ws' → va_S A H0 H1 locs1 → W p l e R s m args below meth c H1 locs1 cells slots Q (F0 m (pc + 3) ls (o.toList ++ rest))) : W p l e R s m args below meth c H locs cells slots Q (F0 m pc ls st0) := by
  have hF := va_free (wc := wc) hD hS hA isC hC
  intro T hT X
  obtain ⟨v, st, t, T', L, h0, X', hL, e1, e2, ⟨hv, hP1, hz, hk⟩, hg⟩ := hr T hT X
  cases hv
  rw [h0] at hz hk
  have hD1 : va_D (va_A wc H.size) wc' := hw_adr hc' (hD.sub isC hnC hC).self
  have hj := va_join (wr := wr) (w1 := wc') (H1 := T'.heap) hP hD isC isR hC hR hnR hdis (fun q h1 h2 => by rw [e1]; exact hk q h1 h2) hF (by rw [e1]; exact hP1) hD1
  obtain ⟨t2, a1, b1⟩ := kk T'.heap (locs ++ L) (hj.1.sub pm hpm) (hw_adr hadr hD)
    ⟨Nat.le_trans hS.1 (by rw [e1]; exact hz), fun q h1 h2 => by rw [e1, hk q (Nat.lt_of_lt_of_le h1 hS.1) (fun z => h2 (hF q z))]; exact hS.2.1 q h1 h2, fun q hq => by
      rcases List.mem_append.mp hq with h | h
      · exact hS.2.2 q h
      · exact hF _ (hL q h)⟩ T' rfl X'
  exact ⟨t2, hg t2 a1, b1⟩
end HW
