/-! A flat memory: places 0 .. 4 are read only (the script, four tables), places from 5 on are made by the run, one behind the other. What stands in place p at index k: an int, a long, or a place (or none). -/
abbrev pk_Sh : Type := (FieldType × Nat) ⊕ Nat
abbrev pk_M : Type := List pk_Sh × (Nat → Nat → Int32) × (Nat → Nat → Int64) × (Nat → Nat → Option Nat)
abbrev pk_T : Type := Launch × va_G × (FieldType → ClassId) × Nat × (Nat → Nat)
def pk_isN : Cond → Bool
  | .fieldLinkNest .. => true
  | .methodLinkNest .. => true
  | .arrayOver (.object _) => true
  | _ => false
/-- the tables' words that stay -/
def pk_tbl : List Cond := lw_tbl.filter (fun w => goodWord w || pk_isN w)
theorem pk_tb {w : Cond} (h : w ∈ lw_tbl) (hg : (goodWord w || pk_isN w) = true) : w ∈ pk_tbl := List.mem_filter.mpr ⟨h, hg⟩
def pk_I (M : pk_M) (p k : Nat) : Int32 := M.2.1 p k
def pk_J (M : pk_M) (p k : Nat) : Int64 := M.2.2.1 p k
def pk_P (M : pk_M) (p k : Nat) : Option Nat := M.2.2.2 p k
def pk_S (M : pk_M) (p : Nat) : Option pk_Sh := M.1[p]?
def pk_sI (M : pk_M) (p k : Nat) (x : Int32) : pk_M := (M.1, fun q j => if q = p ∧ j = k then x else M.2.1 q j, M.2.2.1, M.2.2.2)
def pk_sJ (M : pk_M) (p k : Nat) (x : Int64) : pk_M := (M.1, M.2.1, fun q j => if q = p ∧ j = k then x else M.2.2.1 q j, M.2.2.2)
def pk_sP (M : pk_M) (p k : Nat) (x : Option Nat) : pk_M := (M.1, M.2.1, M.2.2.1, fun q j => if q = p ∧ j = k then x else M.2.2.2 q j)
def pk_cI (M : pk_M) (a i p k n : Nat) : pk_M := (M.1, fun q j => if q = p ∧ k ≤ j ∧ j < k + n then M.2.1 a (i + (j - k)) else M.2.1 q j, M.2.2.1, M.2.2.2)
def pk_cJ (M : pk_M) (a i p k n : Nat) : pk_M := (M.1, M.2.1, fun q j => if q = p ∧ k ≤ j ∧ j < k + n then M.2.2.1 a (i + (j - k)) else M.2.2.1 q j, M.2.2.2)
def pk_nw (M : pk_M) (z : pk_Sh) : pk_M := (M.1 ++ [z], fun q j => if q = M.1.length then 0 else M.2.1 q j, fun q j => if q = M.1.length then 0 else M.2.2.1 q j, fun q j => if q = M.1.length then none else M.2.2.2 q j)
def pk_ga (Γ : pk_T) (k : Nat) : Nat := if k < 5 then Γ.2.2.2.2 k else Γ.2.2.2.1 + (k - 5)
def pk_gv (Γ : pk_T) : Value → Value
  | .ref k => .ref (pk_ga Γ k)
  | v => v
def pk_A (Γ : pk_T) : Nat → Prop := fun q => Γ.2.2.2.1 ≤ q
def pk_fty (ci k : Nat) : FieldType := match ci with
  | 0 => tyX0 k
  | 1 => tyX1 k
  | 2 => tyX2 k
  | 3 => tyX3 k
  | 4 => tyX4 k
  | 5 => tyX5 k
  | 6 => tyX6 k
  | _ => tyX7 k
def pk_fn (ci : Nat) : Nat := match ci with
  | 0 => 7
  | 1 => 1
  | 2 => 2
  | 3 => 4
  | 4 => 7
  | 5 => 7
  | 6 => 12
  | _ => 21
def pk_isRef : FieldType → Bool
  | .array _ => true
  | .object _ => true
  | _ => false
def pk_fld (Γ : pk_T) (M : pk_M) (p ci k : Nat) : Value := if pk_isRef (pk_fty ci k) then va_rf ((M.2.2.2 p k).map (pk_ga Γ)) else .int (M.2.1 p k)
def pk_arr (Γ : pk_T) (M : pk_M) (p : Nat) (ty : FieldType) : (Nat → Int32) ⊕ (Nat → Int64) ⊕ (Nat → UInt32) ⊕ (Nat → UInt64) ⊕ (Nat → Option Nat) := match ty with
  | .long => .inr (.inl (M.2.2.1 p))
  | .object _ => .inr (.inr (.inr (.inr (fun j => (M.2.2.2 p j).map (pk_ga Γ)))))
  | _ => .inl (M.2.1 p)
def pk_cell (Γ : pk_T) (M : pk_M) (p : Nat) (z : pk_Sh) : va_E := match z with
  | .inl (ty, n) => .inl (Γ.2.2.1 ty, n, pk_arr Γ M p ty)
  | .inr ci => .inr (ci, (List.range (pk_fn ci)).map (pk_fld Γ M p ci))
def pk_w (Γ : pk_T) (M : pk_M) : va_W := (M.1.drop 5).mapIdx (fun i z => (Γ.2.2.2.1 + i, pk_cell Γ M (i + 5) z))
theorem pk_w_get (Γ : pk_T) (M : pk_M) (i : Nat) : (pk_w Γ M)[i]? = (M.1[i + 5]?).map (fun z => (Γ.2.2.2.1 + i, pk_cell Γ M (i + 5) z)) := by
  unfold pk_w
  rw [List.getElem?_mapIdx, List.getElem?_drop, Nat.add_comm 5 i]
theorem pk_w_at {Γ : pk_T} {M : pk_M} {p : Nat} {z : pk_Sh} (hp : 5 ≤ p) (hz : pk_S M p = some z) : (pk_w Γ M)[p - 5]? = some (pk_ga Γ p, pk_cell Γ M p z) := by
  have h : p - 5 + 5 = p := by omega
  rw [pk_w_get, h, show M.1[p]? = some z from hz]
  simp [pk_ga, Nat.not_lt.mpr hp]
/-- the same shapes, and the same contents but in place p -/
def pk_off (p : Nat) (M M1 : pk_M) : Prop := M1.1 = M.1 ∧ ∀ q, q ≠ p → M1.2.1 q = M.2.1 q ∧ M1.2.2.1 q = M.2.2.1 q ∧ M1.2.2.2 q = M.2.2.2 q
theorem pk_cell_off {Γ : pk_T} {M M1 : pk_M} {p q : Nat} (h : pk_off p M M1) (hq : q ≠ p) (z : pk_Sh) : pk_cell Γ M1 q z = pk_cell Γ M q z := by
  obtain ⟨-, h⟩ := h
  obtain ⟨h1, h2, h3⟩ := h q hq
  rcases z with ⟨ty, n⟩ | ci
  · simp only [pk_cell, pk_arr, h1, h2, h3]
  · have e : pk_fld Γ M1 q ci = pk_fld Γ M q ci := by
      funext k
      simp only [pk_fld, h1, h3]
    simp only [pk_cell, e]
theorem pk_w_set {Γ : pk_T} {M M1 : pk_M} {p : Nat} {z : pk_Sh} (h : pk_off p M M1) (hp : 5 ≤ p) (hz : pk_S M p = some z) : pk_w Γ M1 = (pk_w Γ M).set (p - 5) (pk_ga Γ p, pk_cell Γ M1 p z) := by
  apply List.ext_getElem?
  intro i
  by_cases hi : i = p - 5
  · subst hi
    have hl : p - 5 < (pk_w Γ M).length := (List.getElem?_eq_some_iff.mp (pk_w_at (Γ := Γ) hp hz)).1
    rw [List.getElem?_set_self hl, pk_w_at (z := z) hp (by show M1.1[p]? = _; rw [h.1]; exact hz)]
  · rw [List.getElem?_set_ne (fun e => hi e.symm), pk_w_get, pk_w_get, h.1]
    have hne : i + 5 ≠ p := by omega
    cases M.1[i + 5]? with
    | none => rfl
    | some z' => simp [pk_cell_off h hne]
theorem pk_off_sI (M : pk_M) (p k : Nat) (x : Int32) : pk_off p M (pk_sI M p k x) := ⟨rfl, fun q hq => ⟨by funext j; simp [pk_sI, hq], rfl, rfl⟩⟩
theorem pk_off_sJ (M : pk_M) (p k : Nat) (x : Int64) : pk_off p M (pk_sJ M p k x) := ⟨rfl, fun q hq => ⟨rfl, by funext j; simp [pk_sJ, hq], rfl⟩⟩
theorem pk_off_sP (M : pk_M) (p k : Nat) (x : Option Nat) : pk_off p M (pk_sP M p k x) := ⟨rfl, fun q hq => ⟨rfl, rfl, by funext j; simp [pk_sP, hq]⟩⟩
theorem pk_off_cI (M : pk_M) (a i p k n : Nat) : pk_off p M (pk_cI M a i p k n) := ⟨rfl, fun q hq => ⟨by funext j; simp [pk_cI, hq], rfl, rfl⟩⟩
theorem pk_off_cJ (M : pk_M) (a i p k n : Nat) : pk_off p M (pk_cJ M a i p k n) := ⟨rfl, fun q hq => ⟨rfl, by funext j; simp [pk_cJ, hq], rfl⟩⟩
theorem pk_cell_nw {Γ : pk_T} {M : pk_M} {z z' : pk_Sh} {q : Nat} (hq : q < M.1.length) : pk_cell Γ (pk_nw M z) q z' = pk_cell Γ M q z' := by
  have hn : q ≠ M.1.length := Nat.ne_of_lt hq
  rcases z' with ⟨ty, n⟩ | ci
  · simp only [pk_cell, pk_arr, pk_nw, hn, if_false]
  · have e : pk_fld Γ (pk_nw M z) q ci = pk_fld Γ M q ci := by
      funext k
      simp only [pk_fld, pk_nw, hn, if_false]
    simp only [pk_cell, e]
theorem pk_w_nw {Γ : pk_T} {M : pk_M} {z : pk_Sh} (h5 : 5 ≤ M.1.length) : pk_w Γ (pk_nw M z) = pk_w Γ M ++ [(pk_ga Γ M.1.length, pk_cell Γ (pk_nw M z) M.1.length z)] := by
  have hl : (pk_w Γ M).length = M.1.length - 5 := by simp [pk_w]
  apply List.ext_getElem?
  intro i
  rw [pk_w_get]
  show ((M.1 ++ [z])[i + 5]?).map _ = _
  by_cases hi : i + 5 < M.1.length
  · rw [List.getElem?_append_left hi, List.getElem?_append_left (by omega), pk_w_get]
    cases M.1[i + 5]? with
    | none => rfl
    | some z' => simp [pk_cell_nw hi]
  · rw [List.getElem?_append_right (by omega), List.getElem?_append_right (by omega), hl]
    by_cases he : i + 5 = M.1.length
    · have e1 : i + 5 - M.1.length = 0 := by omega
      have e2 : i - (M.1.length - 5) = 0 := by omega
      have e3 : M.1.length - 5 = i := by omega
      rw [e1, e2, ← he]
      simp [pk_ga, Nat.not_lt.mpr (by omega : 5 ≤ i + 5)]
    · have e1 : i + 5 - M.1.length ≠ 0 := by omega
      have e2 : i - (M.1.length - 5) ≠ 0 := by omega
      obtain ⟨x, hx⟩ := Nat.exists_eq_succ_of_ne_zero e1
      obtain ⟨y, hy⟩ := Nat.exists_eq_succ_of_ne_zero e2
      rw [hx, hy]
      rfl
/-- the cells are apart, and from the base on -/
theorem pk_w_D (Γ : pk_T) (M : pk_M) : va_D (pk_A Γ) (pk_w Γ M) := by
  have key : ∀ (i : Nat) (q : Nat × va_E), (pk_w Γ M)[i]? = some q → q.1 = Γ.2.2.2.1 + i := by
    intro i q h
    rw [pk_w_get] at h
    cases hz : M.1[i + 5]? with
    | none => rw [hz] at h; cases h
    | some z => rw [hz] at h; cases h; rfl
  refine ⟨fun i j a b hi hj hab => ?_, fun k q hk => ?_⟩
  · have h1 := key i a hi
    have h2 := key j b hj
    omega
  · show Γ.2.2.2.1 ≤ q.1
    rw [key k q hk]
    omega
/-- the tables and their places -/
def pk_st : List (String × Nat) := [("FIRST_TONES", 1), ("SIDE_X", 2), ("SIDE_Y", 3), ("ORDERS_BEHIND", 4)]
def pk_tys (Γ : pk_T) : List (ClassId × FieldType) := [(Γ.2.2.1 .int, .int), (Γ.2.2.1 .boolean, .boolean), (Γ.2.2.1 .long, .long), (Γ.2.2.1 (.object RX4), .object RX4), (Γ.2.2.1 (.object RX3), .object RX3)]
/-- the memory M is what the heap H holds, seen from a machine U -/
def pk_R (Γ : pk_T) (M : pk_M) (U : State) (H : Heap) : Prop :=
  5 ≤ M.1.length ∧ H.size = Γ.2.2.2.1 + (M.1.length - 5) ∧ va_P Γ.2.1 vwCl (pk_w Γ M) H ∧ va_K Γ.2.1 vwCl (pk_tys Γ) U ∧
  (∀ k, k < 5 → ∃ N, pk_S M k = some (.inl (.int, N)) ∧ va_T .int (pk_ga Γ k) N (fun j => .int (M.2.1 k j)) (pk_A Γ) U H) ∧
  (∀ q ∈ pk_st, va_Z RX6 q.1 "[I" (.ref (pk_ga Γ q.2)) (pk_A Γ) U H)
theorem pk_R.moved {Γ : pk_T} {M : pk_M} {u U : State} {H : Heap} (hvm : u.vm.Alike U.vm) (h : pk_R Γ M u H) : pk_R Γ M U H := by
  obtain ⟨h1, h2, h3, h4, h5, h6⟩ := h
  refine ⟨h1, h2, h3, h4.moved hvm, fun k hk => ?_, fun q hq => (h6 q hq).moved hvm⟩
  obtain ⟨N, e1, e2⟩ := h5 k hk
  exact ⟨N, e1, e2.moved hvm⟩
/-- a changed world: the same shapes or more, what is below the base stays -/
theorem pk_R.to {Γ : pk_T} {M M1 : pk_M} {U : State} {H H1 : Heap} (h : pk_R Γ M U H) (hl : 5 ≤ M1.1.length) (hz : H1.size = Γ.2.2.2.1 + (M1.1.length - 5)) (hP : va_P Γ.2.1 vwCl (pk_w Γ M1) H1)
    (ho : ∀ k, k < 5 → pk_S M1 k = pk_S M k ∧ M1.2.1 k = M.2.1 k) (hk : ∀ q : Nat, q < H.size → ¬ pk_A Γ q → H1[q]? = H[q]?) : pk_R Γ M1 U H1 := by
  obtain ⟨h1, h2, h3, h4, h5, h6⟩ := h
  refine ⟨hl, hz, hP, h4, fun k hk5 => ?_, fun q hq => (h6 q hq).kept hk⟩
  obtain ⟨N, e1, e2⟩ := h5 k hk5
  exact ⟨N, by rw [(ho k hk5).1]; exact e1, by rw [(ho k hk5).2]; exact e2.kept hk⟩
