/-! The world behind both constructors: which cell lies in which place, which place a reference names. -/
def pk_SH1 : List pk_Sh := [.inl (.int, 5), .inl (.int, 4), .inl (.int, 4), .inl (.int, 5), .inr 6, .inr 4, .inl (.int, 5), .inl (.int, 5), .inl (.int, 5), .inl (.int, 48), .inr 2, .inl (.object RX4, 6), .inr 4, .inl (.int, 5), .inl (.int, 5), .inl (.int, 5), .inl (.int, 48), .inr 4, .inl (.int, 5), .inl (.int, 5), .inl (.int, 5), .inl (.int, 48), .inr 4, .inl (.int, 5), .inl (.int, 5), .inl (.int, 5), .inl (.int, 48), .inr 4, .inl (.int, 5), .inl (.int, 5), .inl (.int, 5), .inl (.int, 48), .inr 4, .inl (.int, 5), .inl (.int, 5), .inl (.int, 5), .inl (.int, 48), .inr 4, .inl (.int, 5), .inl (.int, 5), .inl (.int, 5), .inl (.int, 48), .inr 4, .inl (.int, 5), .inl (.int, 5), .inl (.int, 5), .inl (.int, 48), .inr 2, .inl (.object RX4, 6), .inr 4, .inl (.int, 5), .inl (.int, 5), .inl (.int, 5), .inl (.int, 48), .inr 4, .inl (.int, 5), .inl (.int, 5), .inl (.int, 5), .inl (.int, 48), .inr 4, .inl (.int, 5), .inl (.int, 5), .inl (.int, 5), .inl (.int, 48), .inr 4, .inl (.int, 5), .inl (.int, 5), .inl (.int, 5), .inl (.int, 48), .inr 4, .inl (.int, 5), .inl (.int, 5), .inl (.int, 5), .inl (.int, 48), .inr 4, .inl (.int, 5), .inl (.int, 5), .inl (.int, 5), .inl (.int, 48), .inr 1, .inl (.int, 32), .inr 0, .inl (.int, 48), .inl (.int, 48), .inl (.int, 48), .inl (.int, 48), .inl (.boolean, 48), .inr 5, .inl (.int, 100), .inl (.int, 48), .inl (.object RX3, 4), .inl (.int, 48), .inl (.int, 5), .inl (.int, 5), .inr 3, .inl (.long, 24), .inr 3, .inl (.long, 24), .inr 3, .inl (.long, 24), .inr 3, .inl (.long, 24), .inr 7, .inl (.int, 62), .inl (.int, 32), .inl (.int, 48), .inl (.int, 48), .inl (.int, 372), .inl (.int, 48), .inl (.int, 100), .inl (.int, 48), .inl (.int, 62), .inl (.int, 372), .inl (.int, 4), .inl (.int, 4), .inl (.long, 96), .inl (.long, 24)]
def pk_SH (L : Nat) : List pk_Sh := .inl (.int, L) :: pk_SH1
def pk_isS (p : Nat) : Bool := p == 6 || p == 43 || (Nat.ble 13 p && Nat.blt p 43 && (p - 13) % 5 == 0) || (Nat.ble 50 p && Nat.blt p 80 && (p - 50) % 5 == 0)
def pk_rt (p k : Nat) : Option Nat := if pk_isS p then (if k < 4 then some (p + 1 + k) else none) else match p with
  | 5 => (match k with
    | 0 => some 6
    | 1 => some 11
    | 2 => some 43
    | 3 => some 48
    | 5 => some 80
    | 6 => some 82
    | 7 => some 88
    | 8 => some 91
    | 9 => some 92
    | 10 => some 93
    | 11 => some 94
    | _ => none)
  | 11 => (if k = 0 then some 12 else none)
  | 48 => (if k = 0 then some 49 else none)
  | 49 => (if k < 6 then some (50 + 5 * k) else none)
  | 80 => (if k = 0 then some 81 else none)
  | 82 => (if k < 5 then some (83 + k) else none)
  | 88 => (if k < 2 then some (89 + k) else none)
  | 91 => (if k < 4 then some (95 + 2 * k) else none)
  | 95 => (if k = 0 then some 96 else none)
  | 97 => (if k = 0 then some 98 else none)
  | 99 => (if k = 0 then some 100 else none)
  | 101 => (if k = 0 then some 102 else none)
  | 103 => (match k with
    | 0 => some 104
    | 1 => some 105
    | 2 => some 106
    | 3 => some 107
    | 4 => some 108
    | 6 => some 109
    | 7 => some 110
    | 10 => some 111
    | 14 => some 112
    | 15 => some 113
    | 17 => some 114
    | 18 => some 115
    | 19 => some 116
    | 20 => some 117
    | _ => none)
  | _ => none
def pk_WF (L : Nat) (M : pk_M) : Prop := M.1 = pk_SH L ∧ ∀ p k r, pk_rt p k = some r → pk_P M p k = some r
theorem pk_WF.s {L : Nat} {M : pk_M} (h : pk_WF L M) {q : Nat} {z : pk_Sh} (hq : (pk_SH L)[q]? = some z) : pk_S M q = some z := by
  rw [pk_S, h.1]
  exact hq
theorem pk_WF.p {L : Nat} {M : pk_M} (h : pk_WF L M) {q k r : Nat} (hq : pk_rt q k = some r) : pk_P M q k = some r := h.2 q k r hq
theorem pk_WF.to {L : Nat} {M M' : pk_M} (h : pk_WF L M) (h1 : M'.1 = M.1) (h2 : M'.2.2.2 = M.2.2.2) : pk_WF L M' := ⟨h1.trans h.1, fun p k r e => by show M'.2.2.2 p k = some r; rw [h2]; exact h.2 p k r e⟩
theorem pk_isS_lt {p : Nat} (h : pk_isS p = true) : 5 ≤ p ∧ p < 80 := by
  simp [pk_isS, Nat.ble_eq, Nat.blt_eq] at h
  omega
theorem pk_isS_cases {p : Nat} (h : pk_isS p = true) : p ∈ [6, 43, 13, 18, 23, 28, 33, 38, 50, 55, 60, 65, 70, 75] := by
  simp [pk_isS, Nat.ble_eq, Nat.blt_eq] at h
  simp only [List.mem_cons, List.not_mem_nil, or_false]
  omega
theorem pk_isS_sh {L p : Nat} {M : pk_M} (hW : pk_WF L M) (h : pk_isS p = true) : pk_S M p = some (.inr 4) ∧ pk_S M (p + 1) = some (.inl (.int, 5)) ∧ pk_S M (p + 2) = some (.inl (.int, 5)) ∧ pk_S M (p + 3) = some (.inl (.int, 5)) ∧ pk_S M (p + 4) = some (.inl (.int, 48)) := by
  have h2 := pk_isS_cases h
  simp only [List.mem_cons, List.not_mem_nil, or_false] at h2
  rcases h2 with rfl | rfl | rfl | rfl | rfl | rfl | rfl | rfl | rfl | rfl | rfl | rfl | rfl | rfl <;> exact ⟨hW.s rfl, hW.s rfl, hW.s rfl, hW.s rfl, hW.s rfl⟩
theorem pk_WF.ss {L p : Nat} {M : pk_M} (hW : pk_WF L M) (h : pk_isS p = true) : pk_S M p = some (.inr 4) := (pk_isS_sh hW h).1
theorem pk_WF.sp {L p k : Nat} {M : pk_M} (hW : pk_WF L M) (h : pk_isS p = true) (hk : k < 4) : pk_P M p k = some (p + 1 + k) := hW.p (by simp [pk_rt, h, hk])
theorem pk_nbi (b : Bool) : narrow .boolean (.int (pk_bi b)) = .int (pk_bi b) := by cases b <;> decide
