/-! The judgement: from the frame at pc, with the memory M, locals ls, stack st, the machine comes to the end that κ names. -/
abbrev pk_K : Type := String × Nat × Option FieldType × Bool × Room × Array Value × (List Frame → State → State → Prop)
def pk_C (Γ : pk_T) (κ : pk_K) (cc : ByteArray) (p : Program) (s : State) (m : MethodId) (meth : Method) (c : Code) : Prop :=
  p.tables.exec = Jvm.exec ∧ c.code = cc ∧ c.maxLocals = κ.2.1 ∧ meth.sig.returnType = κ.2.2.1 ∧ meth.locks = false ∧ s.vm.findClass κ.1 = some m.cls ∧ (κ.2.2.2.1 = true → meth.name = "<init>") ∧ (∀ w ∈ pk_tbl, w.before κ.2.2.2.2.2.1 s = true) ∧ Γ.2.2.2.1 ≤ s.heap.size
def pk_L (Γ : pk_T) (n : Nat) (ls : List (Option Value)) (arr : Array Slot) : Prop := ls.length = n ∧ arr.size = n ∧ lv_wf arr ∧ ∀ (k : Nat) (v : Value), ls[k]? = some (some v) → arr[k]? = some (.val (pk_gv Γ v))
def pk_G (Γ : pk_T) (κ : pk_K) (cc : ByteArray) (M : pk_M) (ls : List (Option Value)) (st : List Value) (pc cu su : Nat) : Prop :=
  ∀ (p : Program) (e : Env) (s : State) (m : MethodId) (below : List Frame) (meth : Method) (c : Code) (H : Heap) (locs : List Loc) (arr : Array Slot),
    pk_C Γ κ cc p s m meth c → H.size = s.heap.size + cu → pk_R Γ M s H → va_S (pk_A Γ) s.heap H locs → pk_L Γ κ.2.1 ls arr →
    W p Γ.1 e κ.2.2.2.2.1 s m κ.2.2.2.2.2.1 below meth c H locs cu su (κ.2.2.2.2.2.2 below s) (F0 m pc arr (st.map (pk_gv Γ)))
def pk_ok (ls : List (Option Value)) (i : Nat) : Bool := match i with
  | 0 => true
  | j + 1 => match ls[j]? with
    | some (some (.long _)) => false
    | some (some (.double _)) => false
    | _ => true
def pk_prs (Γ : pk_T) (ls : List (Option Value)) : List (Nat × Value) := (List.range ls.length).filterMap (fun k => match ls[k]? with
  | some (some v) => some (k, pk_gv Γ v)
  | _ => none)
theorem pk_prs_mem {Γ : pk_T} {ls : List (Option Value)} {q : Nat × Value} : q ∈ pk_prs Γ ls ↔ ∃ v, ls[q.1]? = some (some v) ∧ q.2 = pk_gv Γ v := by
  unfold pk_prs
  rw [List.mem_filterMap]
  constructor
  · rintro ⟨k, hk, h⟩
    cases hv : ls[k]? with
    | none => rw [hv] at h; cases h
    | some o =>
      cases o with
      | none => rw [hv] at h; cases h
      | some v => rw [hv] at h; cases h; exact ⟨v, hv, rfl⟩
  · rintro ⟨v, hv, e⟩
    refine ⟨q.1, List.mem_range.mpr (List.getElem?_eq_some_iff.mp hv).1, ?_⟩
    rw [hv]
    show some (q.1, pk_gv Γ v) = some q
    rw [← e]
theorem pk_L.has {Γ : pk_T} {n : Nat} {ls : List (Option Value)} {arr : Array Slot} (h : pk_L Γ n ls arr) : lv_has arr n (pk_prs Γ ls) := by
  refine ⟨h.2.1, h.2.2.1, fun q hq => ?_⟩
  obtain ⟨v, hv, e⟩ := pk_prs_mem.mp hq
  rw [e]
  exact h.2.2.2 q.1 v hv
theorem pk_gv_cat (Γ : pk_T) (v : Value) : (pk_gv Γ v).category = v.category := by cases v <;> rfl
theorem pk_L.set1 {Γ : pk_T} {n i : Nat} {ls : List (Option Value)} {arr arr' : Array Slot} {v : Value} (h : pk_L Γ n ls arr) (hok : pk_ok ls i = true) (hi : i < ls.length)
    (h' : lv_has arr' n ((i, pk_gv Γ v) :: (pk_prs Γ ls).filter (fun q => !(q.1 == i) && !(q.1 + 1 == i && q.2.category == 2)))) : pk_L Γ n (ls.set i (some v)) arr' := by
  refine ⟨by rw [List.length_set]; exact h.1, h'.1, h'.2.1, fun k w hk => ?_⟩
  by_cases hki : k = i
  · subst hki
    rw [List.getElem?_set_self hi] at hk
    cases hk
    exact h'.2.2 _ List.mem_cons_self
  · rw [List.getElem?_set_ne (fun e => hki e.symm)] at hk
    refine h'.2.2 (k, pk_gv Γ w) (List.mem_cons_of_mem _ (List.mem_filter.mpr ⟨pk_prs_mem.mpr ⟨w, hk, rfl⟩, ?_⟩))
    have hk1 : (k == i) = false := by simp [hki]
    show (!(k == i) && !(k + 1 == i && (pk_gv Γ w).category == 2)) = true
    rw [hk1, pk_gv_cat]
    by_cases hks : k + 1 = i
    · subst hks
      simp only [pk_ok, hk] at hok
      cases w <;> first | exact absurd hok Bool.false_ne_true | simp [Value.category]
    · simp [hks]
section PkA
variable {Γ : pk_T} {κ : pk_K} {cc : ByteArray} {M : pk_M} {ls : List (Option Value)} {st : List Value} {pc cu su : Nat}
theorem pk_iconst {n : Int} {v : Int32} (hd : decode cc pc = .ok (.iconst n, 1)) (hv : Int32.ofInt n = v) (k : pk_G Γ κ cc M ls (.int v :: st) (pc + 1) cu su) : pk_G Γ κ cc M ls st pc cu su := by
  intro p e s m below meth c H locs arr C hz hR hS hL
  exact lv_iconst C.1 C.2.1 hd hv (k p e s m below meth c H locs arr C hz hR hS hL)
theorem pk_bipush {n : Int} {v : Int32} (hd : decode cc pc = .ok (.bipush n, 2)) (hv : (Int8.ofInt n).toInt32 = v) (k : pk_G Γ κ cc M ls (.int v :: st) (pc + 2) cu su) : pk_G Γ κ cc M ls st pc cu su := by
  intro p e s m below meth c H locs arr C hz hR hS hL
  exact lv_bipush C.1 C.2.1 hd hv (k p e s m below meth c H locs arr C hz hR hS hL)
theorem pk_sipush {n : Int} {v : Int32} (hd : decode cc pc = .ok (.sipush n, 3)) (hv : (Int16.ofInt n).toInt32 = v) (k : pk_G Γ κ cc M ls (.int v :: st) (pc + 3) cu su) : pk_G Γ κ cc M ls st pc cu su := by
  intro p e s m below meth c H locs arr C hz hR hS hL
  exact lv_sipush C.1 C.2.1 hd hv (k p e s m below meth c H locs arr C hz hR hS hL)
theorem pk_lconst {n : Fin 2} {v : Int64} (hd : decode cc pc = .ok (.lconst n, 1)) (hv : Int64.ofNat (n : Nat) = v) (k : pk_G Γ κ cc M ls (.long v :: st) (pc + 1) cu su) : pk_G Γ κ cc M ls st pc cu su := by
  intro p e s m below meth c H locs arr C hz hR hS hL
  exact lv_lconst C.1 C.2.1 hd hv (k p e s m below meth c H locs arr C hz hR hS hL)
theorem pk_iload_n {i : Fin 4} {x : Int32} (hd : decode cc pc = .ok (.iload_n i, 1)) (hl : ls[(i : Nat)]? = some (some (.int x))) (k : pk_G Γ κ cc M ls (.int x :: st) (pc + 1) cu su) : pk_G Γ κ cc M ls st pc cu su := by
  intro p e s m below meth c H locs arr C hz hR hS hL
  exact lv_iload_n C.1 C.2.1 hd rfl (hL.2.2.2 _ _ hl) (k p e s m below meth c H locs arr C hz hR hS hL)
theorem pk_iload {i : Nat} {x : Int32} (hd : decode cc pc = .ok (.iload i, 2)) (hl : ls[i]? = some (some (.int x))) (k : pk_G Γ κ cc M ls (.int x :: st) (pc + 2) cu su) : pk_G Γ κ cc M ls st pc cu su := by
  intro p e s m below meth c H locs arr C hz hR hS hL
  exact lv_iload C.1 C.2.1 hd (hL.2.2.2 _ _ hl) (k p e s m below meth c H locs arr C hz hR hS hL)
theorem pk_lload_n {i : Fin 4} {x : Int64} (hd : decode cc pc = .ok (.lload_n i, 1)) (hl : ls[(i : Nat)]? = some (some (.long x))) (k : pk_G Γ κ cc M ls (.long x :: st) (pc + 1) cu su) : pk_G Γ κ cc M ls st pc cu su := by
  intro p e s m below meth c H locs arr C hz hR hS hL
  exact lv_lload_n C.1 C.2.1 hd rfl (hL.2.2.2 _ _ hl) (k p e s m below meth c H locs arr C hz hR hS hL)
theorem pk_lload {i : Nat} {x : Int64} (hd : decode cc pc = .ok (.lload i, 2)) (hl : ls[i]? = some (some (.long x))) (k : pk_G Γ κ cc M ls (.long x :: st) (pc + 2) cu su) : pk_G Γ κ cc M ls st pc cu su := by
  intro p e s m below meth c H locs arr C hz hR hS hL
  exact lv_lload C.1 C.2.1 hd (hL.2.2.2 _ _ hl) (k p e s m below meth c H locs arr C hz hR hS hL)
theorem pk_aload_n {i : Fin 4} {x : Nat} (hd : decode cc pc = .ok (.aload_n i, 1)) (hl : ls[(i : Nat)]? = some (some (.ref x))) (k : pk_G Γ κ cc M ls (.ref x :: st) (pc + 1) cu su) : pk_G Γ κ cc M ls st pc cu su := by
  intro p e s m below meth c H locs arr C hz hR hS hL
  exact lv_aload_n C.1 C.2.1 hd rfl (hL.2.2.2 _ _ hl) (k p e s m below meth c H locs arr C hz hR hS hL)
theorem pk_aload {i : Nat} {x : Nat} (hd : decode cc pc = .ok (.aload i, 2)) (hl : ls[i]? = some (some (.ref x))) (k : pk_G Γ κ cc M ls (.ref x :: st) (pc + 2) cu su) : pk_G Γ κ cc M ls st pc cu su := by
  intro p e s m below meth c H locs arr C hz hR hS hL
  exact lv_aload C.1 C.2.1 hd (hL.2.2.2 _ _ hl) (k p e s m below meth c H locs arr C hz hR hS hL)
theorem pk_istore_n {i : Fin 4} {x : Int32} (hd : decode cc pc = .ok (.istore_n i, 1)) (hok : pk_ok ls (i : Nat) = true) (hi : Nat.blt (i : Nat) ls.length = true) (k : pk_G Γ κ cc M (ls.set (i : Nat) (some (.int x))) st (pc + 1) cu su) : pk_G Γ κ cc M ls (.int x :: st) pc cu su := by
  intro p e s m below meth c H locs arr C hz hR hS hL
  have hi' : (i : Nat) < ls.length := Nat.le_of_ble_eq_true hi
  exact lv_istore_n C.1 C.2.1 hd rfl hL.has (by rw [← hL.1]; exact hi') rfl (fun arr' h => k p e s m below meth c H locs arr' C hz hR hS (hL.set1 hok hi' h))
theorem pk_istore {i : Nat} {x : Int32} (hd : decode cc pc = .ok (.istore i, 2)) (hok : pk_ok ls i = true) (hi : Nat.blt i ls.length = true) (k : pk_G Γ κ cc M (ls.set i (some (.int x))) st (pc + 2) cu su) : pk_G Γ κ cc M ls (.int x :: st) pc cu su := by
  intro p e s m below meth c H locs arr C hz hR hS hL
  have hi' : i < ls.length := Nat.le_of_ble_eq_true hi
  exact lv_istore C.1 C.2.1 hd hL.has (by rw [← hL.1]; exact hi') rfl (fun arr' h => k p e s m below meth c H locs arr' C hz hR hS (hL.set1 hok hi' h))
theorem pk_astore_n {i : Fin 4} {x : Nat} (hd : decode cc pc = .ok (.astore_n i, 1)) (hok : pk_ok ls (i : Nat) = true) (hi : Nat.blt (i : Nat) ls.length = true) (k : pk_G Γ κ cc M (ls.set (i : Nat) (some (.ref x))) st (pc + 1) cu su) : pk_G Γ κ cc M ls (.ref x :: st) pc cu su := by
  intro p e s m below meth c H locs arr C hz hR hS hL
  have hi' : (i : Nat) < ls.length := Nat.le_of_ble_eq_true hi
  exact lv_astore_n C.1 C.2.1 hd rfl hL.has (by rw [← hL.1]; exact hi') rfl (fun arr' h => k p e s m below meth c H locs arr' C hz hR hS (hL.set1 hok hi' h))
theorem pk_astore {i : Nat} {x : Nat} (hd : decode cc pc = .ok (.astore i, 2)) (hok : pk_ok ls i = true) (hi : Nat.blt i ls.length = true) (k : pk_G Γ κ cc M (ls.set i (some (.ref x))) st (pc + 2) cu su) : pk_G Γ κ cc M ls (.ref x :: st) pc cu su := by
  intro p e s m below meth c H locs arr C hz hR hS hL
  have hi' : i < ls.length := Nat.le_of_ble_eq_true hi
  exact lv_astore C.1 C.2.1 hd hL.has (by rw [← hL.1]; exact hi') rfl (fun arr' h => k p e s m below meth c H locs arr' C hz hR hS (hL.set1 hok hi' h))
theorem pk_iinc {i : Nat} {n : Int} {x v : Int32} (hd : decode cc pc = .ok (.iinc i n, 3)) (hl : ls[i]? = some (some (.int x))) (hv : x + Int32.ofInt n = v) (hok : pk_ok ls i = true) (k : pk_G Γ κ cc M (ls.set i (some (.int v))) st (pc + 3) cu su) : pk_G Γ κ cc M ls st pc cu su := by
  intro p e s m below meth c H locs arr C hz hR hS hL
  have hi' : i < ls.length := (List.getElem?_eq_some_iff.mp hl).1
  have hm : (i, pk_gv Γ (.int x)) ∈ pk_prs Γ ls := pk_prs_mem.mpr ⟨_, hl, rfl⟩
  obtain ⟨j, hj⟩ := List.getElem?_of_mem hm
  exact lv_iinc C.1 C.2.1 hd hL.has (k := j) hj hv (by rw [← hL.1]; exact hi') rfl (fun arr' h => k p e s m below meth c H locs arr' C hz hR hS (hL.set1 (v := .int v) hok hi' h))
theorem pk_iadd {x y : Int32} (hd : decode cc pc = .ok (.iadd, 1)) (k : pk_G Γ κ cc M ls (.int (x + y) :: st) (pc + 1) cu su) : pk_G Γ κ cc M ls (.int y :: .int x :: st) pc cu su := by
  intro p e s m below meth c H locs arr C hz hR hS hL
  exact lv_iadd C.1 C.2.1 hd (k p e s m below meth c H locs arr C hz hR hS hL)
theorem pk_isub {x y : Int32} (hd : decode cc pc = .ok (.isub, 1)) (k : pk_G Γ κ cc M ls (.int (x - y) :: st) (pc + 1) cu su) : pk_G Γ κ cc M ls (.int y :: .int x :: st) pc cu su := by
  intro p e s m below meth c H locs arr C hz hR hS hL
  exact lv_isub C.1 C.2.1 hd (k p e s m below meth c H locs arr C hz hR hS hL)
theorem pk_imul {x y : Int32} (hd : decode cc pc = .ok (.imul, 1)) (k : pk_G Γ κ cc M ls (.int (x * y) :: st) (pc + 1) cu su) : pk_G Γ κ cc M ls (.int y :: .int x :: st) pc cu su := by
  intro p e s m below meth c H locs arr C hz hR hS hL
  exact lv_imul C.1 C.2.1 hd (k p e s m below meth c H locs arr C hz hR hS hL)
theorem pk_iand {x y : Int32} (hd : decode cc pc = .ok (.iand, 1)) (k : pk_G Γ κ cc M ls (.int (x &&& y) :: st) (pc + 1) cu su) : pk_G Γ κ cc M ls (.int y :: .int x :: st) pc cu su := by
  intro p e s m below meth c H locs arr C hz hR hS hL
  exact lv_iand C.1 C.2.1 hd (k p e s m below meth c H locs arr C hz hR hS hL)
theorem pk_ior {x y : Int32} (hd : decode cc pc = .ok (.ior, 1)) (k : pk_G Γ κ cc M ls (.int (x ||| y) :: st) (pc + 1) cu su) : pk_G Γ κ cc M ls (.int y :: .int x :: st) pc cu su := by
  intro p e s m below meth c H locs arr C hz hR hS hL
  exact lv_ior C.1 C.2.1 hd (k p e s m below meth c H locs arr C hz hR hS hL)
theorem pk_ixor {x y : Int32} (hd : decode cc pc = .ok (.ixor, 1)) (k : pk_G Γ κ cc M ls (.int (x ^^^ y) :: st) (pc + 1) cu su) : pk_G Γ κ cc M ls (.int y :: .int x :: st) pc cu su := by
  intro p e s m below meth c H locs arr C hz hR hS hL
  exact lv_ixor C.1 C.2.1 hd (k p e s m below meth c H locs arr C hz hR hS hL)
end PkA
