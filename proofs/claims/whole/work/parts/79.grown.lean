/-! Constructors: memories that grow. -/
theorem pk_gNI {M : pk_M} {z : pk_Sh} {q j : Nat} {x : Int32} (h : q ≠ M.1.length) (e : pk_I M q j = x) : pk_I (pk_nw M z) q j = x := by
  show (if q = M.1.length then 0 else M.2.1 q j) = x
  rw [if_neg h]
  exact e
theorem pk_gNI0 {M : pk_M} {z : pk_Sh} {q j : Nat} (h : q = M.1.length) : pk_I (pk_nw M z) q j = 0 := if_pos h
theorem pk_gNJ {M : pk_M} {z : pk_Sh} {q j : Nat} {x : Int64} (h : q ≠ M.1.length) (e : pk_J M q j = x) : pk_J (pk_nw M z) q j = x := by
  show (if q = M.1.length then 0 else M.2.2.1 q j) = x
  rw [if_neg h]
  exact e
theorem pk_gNJ0 {M : pk_M} {z : pk_Sh} {q j : Nat} (h : q = M.1.length) : pk_J (pk_nw M z) q j = 0 := if_pos h
theorem pk_gNP {M : pk_M} {z : pk_Sh} {q j : Nat} {x : Option Nat} (h : q ≠ M.1.length) (e : pk_P M q j = x) : pk_P (pk_nw M z) q j = x := by
  show (if q = M.1.length then none else M.2.2.2 q j) = x
  rw [if_neg h]
  exact e
theorem pk_gP0 {M : pk_M} {p k q j : Nat} {x z : Option Nat} (h : q ≠ p ∨ j ≠ k) (e : pk_P M q j = z) : pk_P (pk_sP M p k x) q j = z := by
  show (if q = p ∧ j = k then x else M.2.2.2 q j) = z
  rw [if_neg (by omega)]
  exact e
theorem pk_gP1 {M : pk_M} {p k q j : Nat} {x z : Option Nat} (h1 : q = p) (h2 : j = k) (e : x = z) : pk_P (pk_sP M p k x) q j = z := by
  show (if q = p ∧ j = k then x else M.2.2.2 q j) = z
  rw [if_pos ⟨h1, h2⟩]
  exact e
theorem pk_nwl (M : pk_M) (z : pk_Sh) : (pk_nw M z).1.length = M.1.length + 1 := by simp [pk_nw]
theorem pk_nwS {M : pk_M} {z z' : pk_Sh} {q : Nat} (e : pk_S M q = some z') : pk_S (pk_nw M z) q = some z' := by
  show (M.1 ++ [z])[q]? = some z'
  rw [List.getElem?_append_left (List.getElem?_eq_some_iff.mp e).1]
  exact e
theorem pk_nwS0 {M : pk_M} {z : pk_Sh} {q : Nat} (h : q = M.1.length) : pk_S (pk_nw M z) q = some z := by
  show (M.1 ++ [z])[q]? = some z
  rw [h, List.getElem?_append_right (Nat.le_refl _), Nat.sub_self]
  rfl
/-- place q has the same contents -/
def pk_sm (q : Nat) (M M' : pk_M) : Prop := M'.2.1 q = M.2.1 q ∧ M'.2.2.1 q = M.2.2.1 q ∧ M'.2.2.2 q = M.2.2.2 q
theorem pk_sm.rf (q : Nat) (M : pk_M) : pk_sm q M M := ⟨rfl, rfl, rfl⟩
theorem pk_sm.tr {q : Nat} {M M1 M2 : pk_M} (h : pk_sm q M M1) (h2 : pk_sm q M1 M2) : pk_sm q M M2 := ⟨h2.1.trans h.1, h2.2.1.trans h.2.1, h2.2.2.trans h.2.2⟩
theorem pk_sm.nw {q : Nat} {M : pk_M} {z : pk_Sh} (h : q ≠ M.1.length) : pk_sm q M (pk_nw M z) := ⟨by funext j; simp [pk_nw, h], by funext j; simp [pk_nw, h], by funext j; simp [pk_nw, h]⟩
theorem pk_sm.sP {q p k : Nat} {M : pk_M} {x : Option Nat} (h : q ≠ p) : pk_sm q M (pk_sP M p k x) := ⟨rfl, rfl, by funext j; simp [pk_sP, h]⟩
theorem pk_sm.sI {q p k : Nat} {M : pk_M} {x : Int32} (h : q ≠ p) : pk_sm q M (pk_sI M p k x) := ⟨by funext j; simp [pk_sI, h], rfl, rfl⟩
theorem pk_sm.I {q : Nat} {M M' : pk_M} (h : pk_sm q M M') (j : Nat) : pk_I M' q j = pk_I M q j := congrFun h.1 j
theorem pk_sm.J {q : Nat} {M M' : pk_M} (h : pk_sm q M M') (j : Nat) : pk_J M' q j = pk_J M q j := congrFun h.2.1 j
theorem pk_sm.P {q : Nat} {M M' : pk_M} (h : pk_sm q M M') (j : Nat) : pk_P M' q j = pk_P M q j := congrFun h.2.2 j
/-- grown by the shapes ext, what lies below b is as it was -/
def pk_gr (b : Nat) (M M' : pk_M) (ext : List pk_Sh) : Prop := M'.1 = M.1 ++ ext ∧ ∀ q, q < b → pk_sm q M M'
def sp_A0 : pk_St := (4, 3, 1, fun _ => 0, sp_ft, fun i => i, fun _ => 0)
def c_St (M : pk_M) (b : Nat) : Prop := pk_At M b sp_A0 ∧ ∀ k, k < 4 → pk_P M b k = some (b + 1 + k)
def c_Lo (M : pk_M) (b : Nat) : Prop := pk_P M b 0 = some (b + 1)
def c_Ar (M : pk_M) (b : Nat) : Prop := ∀ k, k < 5 → pk_P M b k = some (b + 1 + k)
def c_Ta (M : pk_M) (b : Nat) : Prop := (∀ k, k < 2 → pk_P M b k = some (b + 1 + k)) ∧ pk_I M b 2 = nI 0
def c_Ro (M : pk_M) (b : Nat) : Prop := pk_P M b 0 = some (b + 1) ∧ pk_Rw M b (false, 0, 0, fun _ => 0)
def c_Pa (M : pk_M) (b : Nat) : Prop := pk_P M b 0 = some (b + 1) ∧ pk_I M b 1 = nI 0 ∧ ∀ k, k < 6 → pk_P M (b + 1) k = some (b + 2 + 5 * k) ∧ c_St M (b + 2 + 5 * k)
theorem c_St.sm {M M' : pk_M} {b : Nat} (h : c_St M b) (k : ∀ q, b ≤ q → q ≤ b + 4 → pk_sm q M M') : c_St M' b := by
  obtain ⟨⟨h1, h2, h3, h4, h5, h6, h7⟩, h8⟩ := h
  have k0 := k b (by omega) (by omega)
  exact ⟨⟨(k0.I 4).trans h1, (k0.I 5).trans h2, (k0.I 6).trans h3, fun i hi => ((k (b + 1) (by omega) (by omega)).I i).trans (h4 i hi), fun i hi => ((k (b + 2) (by omega) (by omega)).I i).trans (h5 i hi), fun i hi => ((k (b + 3) (by omega) (by omega)).I i).trans (h6 i hi), fun i hi => ((k (b + 4) (by omega) (by omega)).I i).trans (h7 i hi)⟩, fun i hi => (k0.P i).trans (h8 i hi)⟩
theorem c_Lo.sm {M M' : pk_M} {b : Nat} (h : c_Lo M b) (k : pk_sm b M M') : c_Lo M' b := (k.P 0).trans h
theorem c_Ar.sm {M M' : pk_M} {b : Nat} (h : c_Ar M b) (k : pk_sm b M M') : c_Ar M' b := fun i hi => (k.P i).trans (h i hi)
theorem c_Ta.sm {M M' : pk_M} {b : Nat} (h : c_Ta M b) (k : pk_sm b M M') : c_Ta M' b := ⟨fun i hi => (k.P i).trans (h.1 i hi), (k.I 2).trans h.2⟩
theorem c_Ro.sm {M M' : pk_M} {b : Nat} (h : c_Ro M b) (k : pk_sm b M M') (k2 : pk_sm (b + 1) M M') : c_Ro M' b := ⟨(k.P 0).trans h.1, (k.I 1).trans h.2.1, (k.I 2).trans h.2.2.1, (k.I 3).trans h.2.2.2.1, h.2.2.2.2.1, h.2.2.2.2.2.1, fun j hj => (k2.J j).trans (h.2.2.2.2.2.2 j hj)⟩
theorem c_Pa.sm {M M' : pk_M} {b : Nat} (h : c_Pa M b) (k : ∀ q, b ≤ q → q < b + 32 → pk_sm q M M') : c_Pa M' b := ⟨((k b (by omega) (by omega)).P 0).trans h.1, ((k b (by omega) (by omega)).I 1).trans h.2.1, fun i hi => ⟨((k (b + 1) (by omega) (by omega)).P i).trans (h.2.2 i hi).1, (h.2.2 i hi).2.sm (fun q h1 h2 => k q (by omega) (by omega))⟩⟩
