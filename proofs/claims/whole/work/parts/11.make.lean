/-! Making cells; copying arrays; the first constructor. -/
theorem pk_arr_nw_int (Γ : pk_T) (M : pk_M) (n : Nat) (cA : ClassId) : vp_cell cA (n, pk_arr Γ (pk_nw M (.inl (.int, n))) M.1.length .int) = arrV cA n (fun _ => defaultValue .int) := by
  simp only [pk_arr, pk_nw, if_true]
  rfl
theorem pk_arr_nw_bool (Γ : pk_T) (M : pk_M) (n : Nat) (cA : ClassId) : vp_cell cA (n, pk_arr Γ (pk_nw M (.inl (.boolean, n))) M.1.length .boolean) = arrV cA n (fun _ => defaultValue .boolean) := by
  simp only [pk_arr, pk_nw, if_true]
  rfl
theorem pk_arr_nw_long (Γ : pk_T) (M : pk_M) (n : Nat) (cA : ClassId) : vp_cell cA (n, pk_arr Γ (pk_nw M (.inl (.long, n))) M.1.length .long) = arrV cA n (fun _ => defaultValue .long) := by
  simp only [pk_arr, pk_nw, if_true]
  rfl
section PkN
variable {Γ : pk_T} {κ : pk_K} {cc : ByteArray} {M : pk_M} {ls : List (Option Value)} {st : List Value} {pc cu su : Nat}
/-- behind the making of a cell: it lies at the next place -/
theorem pk_made {z : pk_Sh} {ev : va_E} {a n : Nat} {p : Program} {e : Env} {s : State} {m : MethodId} {below : List Frame} {meth : Method} {c : Code} {H H1 : Heap} {locs : List Loc} {arr : Array Slot}
    (C : pk_C Γ κ cc p s m meth c) (hz : H.size = s.heap.size + cu) (hR : pk_R Γ M s H) (hS : va_S (pk_A Γ) s.heap H locs) (hL : pk_L Γ κ.2.1 ls arr)
    (hP1 : va_P Γ.2.1 vwCl (pk_w Γ M ++ [(a, ev)]) H1) (hD1 : va_D (pk_A Γ) (pk_w Γ M ++ [(a, ev)])) (he : ev = pk_cell Γ (pk_nw M z) M.1.length z) (hS1 : va_S (pk_A Γ) H H1 locs)
    (k : pk_G Γ κ cc (pk_nw M z) ls (.ref M.1.length :: st) pc (cu + 1) n) : W p Γ.1 e κ.2.2.2.2.1 s m κ.2.2.2.2.2.1 below meth c H1 locs (cu + 1) n (κ.2.2.2.2.2.2 below s) (F0 m pc arr (.ref a :: st.map (pk_gv Γ))) := by
  refine pk_Wsz (fun hle => ?_)
  have hlen : (pk_w Γ M).length = M.1.length - 5 := by simp [pk_w]
  have hlast : (pk_w Γ M ++ [(a, ev)])[M.1.length - 5]? = some (a, ev) := by
    rw [List.getElem?_append_right (by omega), hlen, Nat.sub_self]
    rfl
  have hlt : a < H1.size := (hP1 _ _ hlast).lt
  have hge : Γ.2.2.2.1 ≤ a := hD1.2 _ _ hlast
  have hsz := hR.2.1
  have h5 := hR.1
  have ha : a = pk_ga Γ M.1.length := by
    have e0 : pk_ga Γ M.1.length = Γ.2.2.2.1 + (M.1.length - 5) := by simp [pk_ga, Nat.not_lt.mpr h5]
    rw [e0]
    rcases Nat.lt_or_ge a (Γ.2.2.2.1 + (M.1.length - 5)) with hlt2 | hge2
    · exfalso
      have hi : a - Γ.2.2.2.1 < (pk_w Γ M).length := by omega
      obtain ⟨x, hx⟩ : ∃ x, (pk_w Γ M)[a - Γ.2.2.2.1]? = some x := ⟨_, List.getElem?_eq_getElem hi⟩
      have hx2 : (pk_w Γ M ++ [(a, ev)])[a - Γ.2.2.2.1]? = some x := by rw [List.getElem?_append_left hi]; exact hx
      have hxa : x.1 = a := by
        rw [pk_w_get] at hx
        cases hz' : M.1[a - Γ.2.2.2.1 + 5]? with
        | none => rw [hz'] at hx; cases hx
        | some z' =>
          rw [hz'] at hx
          cases hx
          show Γ.2.2.2.1 + (a - Γ.2.2.2.1) = a
          omega
      have := hD1.1 _ _ x (a, ev) hx2 hlast hxa
      omega
    · omega
  have hsz1 : H1.size = H.size + 1 := by
    have e0 : pk_ga Γ M.1.length = Γ.2.2.2.1 + (M.1.length - 5) := by simp [pk_ga, Nat.not_lt.mpr h5]
    omega
  have hl1 : (pk_nw M z).1.length = M.1.length + 1 := by simp [pk_nw]
  subst ha
  refine k p e s m below meth c H1 locs arr C (by omega) (hR.to (by omega) (by rw [hl1, hsz1]; omega) (by rw [pk_w_nw h5, ← he]; exact hP1) (fun j hj => ⟨?_, ?_⟩) (fun j hj hA => hS1.2.1 j hj hA)) (pk_Stay hS hS1) hL
  · show (M.1 ++ [z])[j]? = M.1[j]?
    rw [List.getElem?_append_left (by omega)]
  · funext i
    have : j ≠ M.1.length := by omega
    simp [pk_nw, this]
theorem pk_new {idx ci : Nat} (hd : decode cc pc = .ok (.new idx, 3)) (h8 : ci < 8) (hw1 : Cond.classLink κ.1 idx (pk_cls ci) ∈ pk_tbl) (hw2 : Cond.instantiable (pk_cls ci) (pk_fn ci) ∈ pk_tbl) (hw3 : Cond.initialized (pk_cls ci) ∈ pk_tbl) (h3 : Nat.ble (cu + 1) κ.2.2.2.2.1.cells = true) (h4 : Nat.ble (su + pk_fn ci) κ.2.2.2.2.1.slots = true)
    (k : pk_G Γ κ cc (pk_nw M (.inr ci)) ls (.ref M.1.length :: st) (pc + 3) (cu + 1) (su + pk_fn ci)) : pk_G Γ κ cc M ls st pc cu su := by
  intro p e s m below meth c H locs arr C hz hR hS hL
  refine va_new (H0 := H) (ci := ci) (fs := (List.range (pk_fn ci)).map (pk_fld Γ (pk_nw M (.inr ci)) M.1.length ci)) C.1 C.2.1 C.2.2.2.2.2.2.2.1 (pk_lays h8) (pk_fty ci) (pk_tyok h8) C.2.2.2.2.2.1 (C.2.2.2.2.2.2.2.1 _ hw1) (C.2.2.2.2.2.2.2.1 _ hw2) (C.2.2.2.2.2.2.2.1 _ hw3) hR.2.2.2.1 hR.2.2.1 (pk_w_D Γ M) (pk_S0 hS) (fun q hq => ?_) (pk_clq h8) (fun j hj => ?_) (Nat.le_of_ble_eq_true h3) (Nat.le_of_ble_eq_true h4) hd (fun a H1 hP1 hD1 hS1 => pk_made C hz hR hS hL hP1 hD1 rfl hS1 k)
  · show Γ.2.2.2.1 ≤ q
    have := hR.2.1
    omega
  · rw [pk_dv h8 j hj]
    simp only [vp_V, List.getD_eq_getElem?_getD, pk_fs_get _ hj, Option.getD_some, pk_fld, pk_nw, if_true]
    rfl
theorem pk_newa {atype : ArrayType} {ty : FieldType} {n : Int32} {N t0 : Nat} (hd : decode cc pc = .ok (.newarray atype, 2)) (hty : newarray.typeOf atype = ty) (ht : (ty = .int ∧ t0 = 0) ∨ (ty = .boolean ∧ t0 = 1) ∨ (ty = .long ∧ t0 = 2)) (hw : Cond.arrayClass (newarray.typeOf atype) ∈ pk_tbl) (hn : ¬ n < 0) (hN : n.toNatClampNeg = N) (hb : N ≤ 60000) (h3 : Nat.ble (cu + 1) κ.2.2.2.2.1.cells = true) (h4 : Nat.ble (su + N) κ.2.2.2.2.1.slots = true)
    (k : pk_G Γ κ cc (pk_nw M (.inl (ty, N))) ls (.ref M.1.length :: st) (pc + 2) (cu + 1) (su + N)) : pk_G Γ κ cc M ls (.int n :: st) pc cu su := by
  intro p e s m below meth c H locs arr C hz hR hS hL
  have hA : ∀ q, H.size ≤ q → pk_A Γ q := fun q hq => by
    show Γ.2.2.2.1 ≤ q
    have := hR.2.1
    omega
  have hK := hR.2.2.2.1
  rcases ht with ⟨rfl, rfl⟩ | ⟨rfl, rfl⟩ | ⟨rfl, rfl⟩
  · refine va_newa (H0 := H) (atype := atype) (a0 := (N, pk_arr Γ (pk_nw M (.inl (.int, N))) M.1.length .int)) C.1 C.2.1 (C.2.2.2.2.2.2.2.1 _ hw) hty hK hR.2.2.1 (pk_w_D Γ M) (pk_S0 hS) hA (pk_arr_nw_int Γ M N) hn hN (by show N * 4 ≤ _; omega) (Nat.le_of_ble_eq_true h3) (Nat.le_of_ble_eq_true h4) hd (fun a cA H1 hK1 hP1 hD1 hS1 => ?_)
    have e1 : cA = Γ.2.2.1 .int := Option.some.inj ((hK1.2 5 _ rfl).2.symm.trans (hK.2 0 _ rfl).2)
    exact pk_made C hz hR hS hL hP1 hD1 (by rw [e1]; rfl) hS1 k
  · refine va_newa (H0 := H) (atype := atype) (a0 := (N, pk_arr Γ (pk_nw M (.inl (.boolean, N))) M.1.length .boolean)) C.1 C.2.1 (C.2.2.2.2.2.2.2.1 _ hw) hty hK hR.2.2.1 (pk_w_D Γ M) (pk_S0 hS) hA (pk_arr_nw_bool Γ M N) hn hN (by show N * 1 ≤ _; omega) (Nat.le_of_ble_eq_true h3) (Nat.le_of_ble_eq_true h4) hd (fun a cA H1 hK1 hP1 hD1 hS1 => ?_)
    have e1 : cA = Γ.2.2.1 .boolean := Option.some.inj ((hK1.2 5 _ rfl).2.symm.trans (hK.2 1 _ rfl).2)
    exact pk_made C hz hR hS hL hP1 hD1 (by rw [e1]; rfl) hS1 k
  · refine va_newa (H0 := H) (atype := atype) (a0 := (N, pk_arr Γ (pk_nw M (.inl (.long, N))) M.1.length .long)) C.1 C.2.1 (C.2.2.2.2.2.2.2.1 _ hw) hty hK hR.2.2.1 (pk_w_D Γ M) (pk_S0 hS) hA (pk_arr_nw_long Γ M N) hn hN (by show N * 8 ≤ _; omega) (Nat.le_of_ble_eq_true h3) (Nat.le_of_ble_eq_true h4) hd (fun a cA H1 hK1 hP1 hD1 hS1 => ?_)
    have e1 : cA = Γ.2.2.1 .long := Option.some.inj ((hK1.2 5 _ rfl).2.symm.trans (hK.2 2 _ rfl).2)
    exact pk_made C hz hR hS hL hP1 hD1 (by rw [e1]; rfl) hS1 k
theorem pk_newq {idx N t0 : Nat} {C0 : String} {n : Int32} (hd : decode cc pc = .ok (.anewarray idx, 3)) (ht : pk_tq t0 C0) (hw1 : Cond.classLink κ.1 idx C0 ∈ pk_tbl) (hw2 : Cond.arrayOver (.object C0) ∈ pk_tbl) (hn : ¬ n < 0) (hN : n.toNatClampNeg = N) (hb : N ≤ 60000) (h3 : Nat.ble (cu + 1) κ.2.2.2.2.1.cells = true) (h4 : Nat.ble (su + N) κ.2.2.2.2.1.slots = true)
    (k : pk_G Γ κ cc (pk_nw M (.inl (.object C0, N))) ls (.ref M.1.length :: st) (pc + 3) (cu + 1) (su + N)) : pk_G Γ κ cc M ls (.int n :: st) pc cu su := by
  intro p e s m below meth c H locs arr C hz hR hS hL
  have hA : ∀ q, H.size ≤ q → pk_A Γ q := fun q hq => by
    show Γ.2.2.2.1 ≤ q
    have := hR.2.1
    omega
  have hK := hR.2.2.2.1
  refine va_newq (H0 := H) (C := C0) C.1 C.2.1 C.2.2.2.2.2.1 (C.2.2.2.2.2.2.2.1 _ hw1) (va_AO.of (C.2.2.2.2.2.2.2.1 _ hw2)) hK hR.2.2.1 (pk_w_D Γ M) (pk_S0 hS) hA hn hN (by omega) (Nat.le_of_ble_eq_true h3) (Nat.le_of_ble_eq_true h4) hd (fun a cA H1 hK1 hP1 hD1 hS1 => ?_)
  have ht' : (pk_tys Γ)[t0]? = some (Γ.2.2.1 (.object C0), .object C0) := by
    rcases ht with ⟨rfl, rfl⟩ | ⟨rfl, rfl⟩ <;> rfl
  obtain ⟨k1, c1, -, -, -, f1⟩ := (hK1.2 5 _ rfl).2
  obtain ⟨k2, c2, -, -, -, f2⟩ := (hK.2 t0 _ ht').2
  have e1 : cA = Γ.2.2.1 (.object C0) := Option.some.inj (f1.symm.trans f2)
  refine pk_made C hz hR hS hL hP1 hD1 ?_ hS1 k
  rw [e1]
  simp only [pk_cell, pk_arr, pk_nw, if_true]
  rfl
theorem pk_objInit {idx a : Nat} (hd : decode cc pc = .ok (.invokespecial idx, 3)) (hw1 : Cond.methodLink κ.1 idx objectInit ∈ pk_tbl) (hw2 : Cond.instanceMethod objectInit ∈ pk_tbl) (hw3 : Cond.code objectInit ⟨#[0xb1]⟩ 1 none ∈ pk_tbl) (h1 : Nat.ble 1 κ.2.2.2.2.1.frames = true) (h2 : Nat.ble 20 κ.2.2.2.2.1.locals = true) (h5 : Nat.ble ((st.map fun v => v.category).sum) 8 = true)
    (k : pk_G Γ κ cc M ls st (pc + 3) cu su) : pk_G Γ κ cc M ls (.ref a :: st) pc cu su := by
  intro p e s m below meth c H locs arr C hz hR hS hL
  have hcat : ((st.map (pk_gv Γ)).map fun v => v.category).sum ≤ 8 := by
    rw [List.map_map, show ((fun v : Value => v.category) ∘ pk_gv Γ) = (fun v : Value => v.category) from funext (pk_gv_cat Γ)]
    exact Nat.le_of_ble_eq_true h5
  have hloc := Nat.le_of_ble_eq_true h2
  exact W.objInit C.1 C.2.1 C.2.2.2.2.2.1 (C.2.2.2.2.2.2.2.1 _ hw1) (C.2.2.2.2.2.2.2.1 _ hw2) (C.2.2.2.2.2.2.2.1 _ hw3) rfl (by show arr.size = _; rw [hL.2.1, C.2.2.1]) rfl hd (Nat.le_of_ble_eq_true h1) (by show 2 * 0 + _ + 12 ≤ _; omega) (k p e s m below meth c H locs arr C hz hR hS hL)
theorem pk_copyI {idx a0 a n0 n1 : Nat} {sp dp n : Int32} (hd : decode cc pc = .ok (.invokestatic idx, 3)) (hw1 : Cond.methodLink κ.1 idx arraycopyName ∈ pk_tbl) (hw2 : Cond.native arraycopyName ∈ pk_tbl) (hw3 : Cond.static arraycopyName ∈ pk_tbl) (hw4 : Cond.initialized "java/lang/System" ∈ pk_tbl) (hs0 : pk_S M a0 = some (.inl (.int, n0))) (hs1 : pk_S M a = some (.inl (.int, n1))) (hq0 : 5 ≤ a0) (hq1 : 5 ≤ a) (g1 : ¬ sp < 0) (g2 : ¬ dp < 0) (g3 : ¬ n < 0) (g4 : sp.toNatClampNeg + n.toNatClampNeg ≤ n0) (g5 : dp.toNatClampNeg + n.toNatClampNeg ≤ n1)
    (h1 : Nat.ble 1 κ.2.2.2.2.1.frames = true) (h2 : Nat.ble ((st.map fun v => v.category).sum + (nativeFrameWords "java/lang/System" "arraycopy" 5 + 11)) κ.2.2.2.2.1.locals = true)
    (k : pk_G Γ κ cc (pk_cI M a0 sp.toNatClampNeg a dp.toNatClampNeg n.toNatClampNeg) ls st (pc + 3) cu su) : pk_G Γ κ cc M ls (.int n :: .int dp :: .ref a :: .int sp :: .ref a0 :: st) pc cu su := by
  intro p e s m below meth c H locs arr C hz hR hS hL
  refine va_copyi (H0 := H) C.1 C.2.1 (by rw [C.2.2.1, hL.2.1]) C.2.2.2.2.2.1 (C.2.2.2.2.2.2.2.1 _ hw1) (C.2.2.2.2.2.2.2.1 _ hw2) (C.2.2.2.2.2.2.2.1 _ hw3) (C.2.2.2.2.2.2.2.1 _ hw4) hR.2.2.2.1 hR.2.2.1 (pk_w_D Γ M) (pk_S0 hS) (a0 - 5) (a - 5) 0 0 (pk_w_at (Γ := Γ) hq0 hs0) (pk_w_at (Γ := Γ) hq1 hs1) rfl rfl rfl g1 g2 g3 g4 g5 (fun _ _ => rfl) (Nat.le_of_ble_eq_true h1) ?_ hd (fun H1 locs1 hP1 _ hS1 => pk_fin C hz hR hS hL (pk_off_cI M a0 _ a _ _) hq1 hs1 hP1 ?_ hS1 k)
  · rw [List.map_map, show ((fun v : Value => v.category) ∘ pk_gv Γ) = (fun v : Value => v.category) from funext (pk_gv_cat Γ)]
    exact Nat.le_of_ble_eq_true h2
  · have hf : va_cpy (M.2.1 a0) (M.2.1 a) sp.toNatClampNeg dp.toNatClampNeg n.toNatClampNeg = (pk_cI M a0 sp.toNatClampNeg a dp.toNatClampNeg n.toNatClampNeg).2.1 a := by
      funext j
      simp [va_cpy, pk_cI]
    simp only [pk_cell, pk_arr, hf]
theorem pk_copyJ {idx a0 a n0 n1 : Nat} {sp dp n : Int32} (hd : decode cc pc = .ok (.invokestatic idx, 3)) (hw1 : Cond.methodLink κ.1 idx arraycopyName ∈ pk_tbl) (hw2 : Cond.native arraycopyName ∈ pk_tbl) (hw3 : Cond.static arraycopyName ∈ pk_tbl) (hw4 : Cond.initialized "java/lang/System" ∈ pk_tbl) (hs0 : pk_S M a0 = some (.inl (.long, n0))) (hs1 : pk_S M a = some (.inl (.long, n1))) (hq0 : 5 ≤ a0) (hq1 : 5 ≤ a) (g1 : ¬ sp < 0) (g2 : ¬ dp < 0) (g3 : ¬ n < 0) (g4 : sp.toNatClampNeg + n.toNatClampNeg ≤ n0) (g5 : dp.toNatClampNeg + n.toNatClampNeg ≤ n1)
    (h1 : Nat.ble 1 κ.2.2.2.2.1.frames = true) (h2 : Nat.ble ((st.map fun v => v.category).sum + (nativeFrameWords "java/lang/System" "arraycopy" 5 + 11)) κ.2.2.2.2.1.locals = true)
    (k : pk_G Γ κ cc (pk_cJ M a0 sp.toNatClampNeg a dp.toNatClampNeg n.toNatClampNeg) ls st (pc + 3) cu su) : pk_G Γ κ cc M ls (.int n :: .int dp :: .ref a :: .int sp :: .ref a0 :: st) pc cu su := by
  intro p e s m below meth c H locs arr C hz hR hS hL
  refine va_copyl (H0 := H) C.1 C.2.1 (by rw [C.2.2.1, hL.2.1]) C.2.2.2.2.2.1 (C.2.2.2.2.2.2.2.1 _ hw1) (C.2.2.2.2.2.2.2.1 _ hw2) (C.2.2.2.2.2.2.2.1 _ hw3) (C.2.2.2.2.2.2.2.1 _ hw4) hR.2.2.2.1 hR.2.2.1 (pk_w_D Γ M) (pk_S0 hS) (a0 - 5) (a - 5) 2 2 (pk_w_at (Γ := Γ) hq0 hs0) (pk_w_at (Γ := Γ) hq1 hs1) rfl rfl rfl g1 g2 g3 g4 g5 (fun _ _ => rfl) (Nat.le_of_ble_eq_true h1) ?_ hd (fun H1 locs1 hP1 _ hS1 => pk_fin C hz hR hS hL (pk_off_cJ M a0 _ a _ _) hq1 hs1 hP1 ?_ hS1 k)
  · rw [List.map_map, show ((fun v : Value => v.category) ∘ pk_gv Γ) = (fun v : Value => v.category) from funext (pk_gv_cat Γ)]
    exact Nat.le_of_ble_eq_true h2
  · have hf : va_cpy (M.2.2.1 a0) (M.2.2.1 a) sp.toNatClampNeg dp.toNatClampNeg n.toNatClampNeg = (pk_cJ M a0 sp.toNatClampNeg a dp.toNatClampNeg n.toNatClampNeg).2.2.1 a := by
      funext j
      simp [va_cpy, pk_cJ]
    simp only [pk_cell, pk_arr, hf]
end PkN
