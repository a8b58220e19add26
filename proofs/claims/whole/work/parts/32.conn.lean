/-! Places that hang together: the least place of an area. -/
/-- the place beside q: 0 above, 1 left, 2 right, 3 below -/
def sp_nb (A : pk_St) (q k : Nat) : Option Nat := if sp_inb A (nI (q % 8) + sp_sx k) (nI (q / 8) + sp_sy k) then some ((nI (q / 8) + sp_sy k).toNatClampNeg * 8 + (nI (q % 8) + sp_sx k).toNatClampNeg) else none
theorem sp_in_lt {A : pk_St} (hA : pk_okS A) {q : Nat} (h : sp_in A q = true) : q % 8 < sp_w A ∧ q / 8 < sp_h A ∧ q < 48 := by
  simp only [sp_in, Bool.and_eq_true, decide_eq_true_eq] at h
  have := hA.2.1
  exact ⟨h.1, h.2, by omega⟩
theorem sp_in_of {A : pk_St} {q : Nat} (h1 : q % 8 < sp_w A) (h2 : q / 8 < sp_h A) : sp_in A q = true := by simp [sp_in, h1, h2]
theorem pk_m1n {n : Nat} (h : 0 < n) : nI n + (-1 : Int32) = nI (n - 1) := by
  obtain ⟨m, rfl⟩ : ∃ m, n = m + 1 := ⟨n - 1, by omega⟩
  rw [pk_m1, Nat.add_sub_cancel]
theorem pk_m1z : nI 0 + (-1 : Int32) = -1 := by decide
theorem sp_inb_mx {A : pk_St} (y : Int32) : sp_inb A (-1) y = false := by
  rw [sp_inb, show decide ((0 : Int32) ≤ -1) = false by decide]
  rfl
theorem sp_inb_my {A : pk_St} (x : Int32) : sp_inb A x (-1) = false := by
  rw [sp_inb, show decide ((0 : Int32) ≤ -1) = false by decide, Bool.false_and, Bool.and_false]
theorem sp_nb0 {A : pk_St} (hA : pk_okS A) {q : Nat} (h : sp_in A q = true) : sp_nb A q 0 = if 8 ≤ q then some (q - 8) else none := by
  obtain ⟨h1, h2, h3⟩ := sp_in_lt hA h
  have hw := hA.1
  unfold sp_nb
  rw [show sp_sx 0 = 0 from rfl, show sp_sy 0 = -1 from rfl, Int32.add_zero]
  by_cases e : 8 ≤ q
  · rw [pk_m1n (show 0 < q / 8 by omega), sp_inb_n hA (by omega) (by omega), decide_eq_true h1, decide_eq_true (show q / 8 - 1 < sp_h A by omega), if_pos e, nI_clamp (by omega), nI_clamp (by omega)]
    simp
    omega
  · rw [show q / 8 = 0 by omega, pk_m1z, sp_inb_my, if_neg e]
    rfl
theorem sp_nb1 {A : pk_St} (hA : pk_okS A) {q : Nat} (h : sp_in A q = true) : sp_nb A q 1 = if 0 < q % 8 then some (q - 1) else none := by
  obtain ⟨h1, h2, h3⟩ := sp_in_lt hA h
  have hw := hA.1
  unfold sp_nb
  rw [show sp_sx 1 = -1 from rfl, show sp_sy 1 = 0 from rfl, Int32.add_zero]
  by_cases e : 0 < q % 8
  · rw [pk_m1n e, sp_inb_n hA (by omega) (by omega), decide_eq_true h2, decide_eq_true (show q % 8 - 1 < sp_w A by omega), if_pos e, nI_clamp (by omega), nI_clamp (by omega)]
    simp
    omega
  · rw [show q % 8 = 0 by omega, pk_m1z, sp_inb_mx]
    rfl
theorem sp_nb2 {A : pk_St} (hA : pk_okS A) {q : Nat} (h : sp_in A q = true) : sp_nb A q 2 = if q % 8 + 1 < sp_w A then some (q + 1) else none := by
  obtain ⟨h1, h2, h3⟩ := sp_in_lt hA h
  have hw := hA.1
  unfold sp_nb
  rw [show sp_sx 2 = 1 from rfl, show sp_sy 2 = 0 from rfl, Int32.add_zero, nI_1, sp_inb_n hA (by omega) (by omega), decide_eq_true h2, Bool.and_true]
  by_cases e : q % 8 + 1 < sp_w A
  · rw [decide_eq_true e, if_pos rfl, if_pos e, nI_clamp (by omega), nI_clamp (by omega)]
    congr 1
    omega
  · rw [decide_eq_false e, if_neg e]
    rfl
theorem sp_nb3 {A : pk_St} (hA : pk_okS A) {q : Nat} (h : sp_in A q = true) : sp_nb A q 3 = if q / 8 + 1 < sp_h A then some (q + 8) else none := by
  obtain ⟨h1, h2, h3⟩ := sp_in_lt hA h
  have hw := hA.1
  unfold sp_nb
  rw [show sp_sx 3 = 0 from rfl, show sp_sy 3 = 1 from rfl, Int32.add_zero, nI_1, sp_inb_n hA (by omega) (by omega), decide_eq_true h1, Bool.true_and]
  by_cases e : q / 8 + 1 < sp_h A
  · rw [decide_eq_true e, if_pos rfl, if_pos e, nI_clamp (by omega), nI_clamp (by omega)]
    congr 1
    omega
  · rw [decide_eq_false e, if_neg e]
    rfl
/-- who is beside is inside, and has the other beside -/
theorem sp_nb_in {A : pk_St} (hA : pk_okS A) {q k r : Nat} (h : sp_in A q = true) (hk : k < 4) (e : sp_nb A q k = some r) : sp_in A r = true ∧ sp_nb A r (3 - k) = some q := by
  obtain ⟨h1, h2, h3⟩ := sp_in_lt hA h
  have hw := hA.1
  obtain rfl | rfl | rfl | rfl : k = 0 ∨ k = 1 ∨ k = 2 ∨ k = 3 := by omega
  · rw [sp_nb0 hA h] at e
    split at e
    · cases e
      have hr : sp_in A (q - 8) = true := sp_in_of (by omega) (by omega)
      refine ⟨hr, ?_⟩
      rw [show 3 - 0 = 3 from rfl, sp_nb3 hA hr, if_pos (by omega)]
      congr 1
      omega
    · cases e
  · rw [sp_nb1 hA h] at e
    split at e
    · cases e
      have hr : sp_in A (q - 1) = true := sp_in_of (by omega) (by omega)
      refine ⟨hr, ?_⟩
      rw [show 3 - 1 = 2 from rfl, sp_nb2 hA hr, if_pos (by omega)]
      congr 1
      omega
    · cases e
  · rw [sp_nb2 hA h] at e
    split at e
    · cases e
      have hr : sp_in A (q + 1) = true := sp_in_of (by omega) (by omega)
      refine ⟨hr, ?_⟩
      rw [show 3 - 2 = 1 from rfl, sp_nb1 hA hr, if_pos (by omega)]
      congr 1
    · cases e
  · rw [sp_nb3 hA h] at e
    split at e
    · cases e
      have hr : sp_in A (q + 8) = true := sp_in_of (by omega) (by omega)
      refine ⟨hr, ?_⟩
      rw [show 3 - 3 = 0 from rfl, sp_nb0 hA hr, if_pos (by omega)]
      congr 1
    · cases e
def sp_adj (A : pk_St) (q r : Nat) : Prop := sp_in A q = true ∧ sp_s A q = sp_s A r ∧ ∃ k, k < 4 ∧ sp_nb A q k = some r
theorem sp_adj.symm {A : pk_St} (hA : pk_okS A) {q r : Nat} (h : sp_adj A q r) : sp_adj A r q := by
  obtain ⟨h1, h2, k, hk, e⟩ := h
  obtain ⟨h3, h4⟩ := sp_nb_in hA h1 hk e
  exact ⟨h3, h2.symm, 3 - k, by omega, h4⟩
def sp_rea (A : pk_St) : Nat → Nat → Nat → Prop
  | 0, q, r => q = r
  | n + 1, q, r => ∃ z, sp_rea A n q z ∧ sp_adj A z r
def sp_con (A : pk_St) (q r : Nat) : Prop := ∃ n, sp_rea A n q r
theorem sp_con.rf (A : pk_St) (q : Nat) : sp_con A q q := ⟨0, rfl⟩
theorem sp_con.snoc {A : pk_St} {q r z : Nat} (h : sp_con A q r) (h2 : sp_adj A r z) : sp_con A q z := by
  obtain ⟨n, h⟩ := h
  exact ⟨n + 1, r, h, h2⟩
theorem sp_con.tr {A : pk_St} {q r z : Nat} (h : sp_con A q r) (h2 : sp_con A r z) : sp_con A q z := by
  obtain ⟨n, h2⟩ := h2
  induction n generalizing z with
  | zero => cases h2; exact h
  | succ n ih =>
    obtain ⟨y, h3, h4⟩ := h2
    exact (ih h3).snoc h4
theorem sp_con.symm {A : pk_St} (hA : pk_okS A) {q r : Nat} (h : sp_con A q r) : sp_con A r q := by
  obtain ⟨n, h⟩ := h
  induction n generalizing r with
  | zero => cases h; exact sp_con.rf A q
  | succ n ih =>
    obtain ⟨y, h3, h4⟩ := h
    exact ((sp_con.rf A r).snoc (h4.symm hA)).tr (ih h3)
theorem sp_con.in {A : pk_St} (hA : pk_okS A) {q r : Nat} (h : sp_con A q r) (hq : sp_in A q = true) : sp_in A r = true ∧ sp_s A q = sp_s A r := by
  obtain ⟨n, h⟩ := h
  induction n generalizing r with
  | zero => cases h; exact ⟨hq, rfl⟩
  | succ n ih =>
    obtain ⟨y, h3, h4⟩ := h
    obtain ⟨g1, g2⟩ := ih h3
    obtain ⟨a1, a2, k, hk, a3⟩ := h4
    exact ⟨(sp_nb_in hA a1 hk a3).1, g2.trans a2⟩
noncomputable def sp_conB (A : pk_St) (q r : Nat) : Bool := @decide (sp_con A q r) (Classical.propDecidable _)
theorem sp_conB_iff {A : pk_St} {q r : Nat} : sp_conB A q r = true ↔ sp_con A q r := by
  unfold sp_conB
  exact @decide_eq_true_iff _ (Classical.propDecidable _)
/-- the first place of q's area -/
noncomputable def sp_lab (A : pk_St) (q : Nat) : Nat := sp_fst (fun r => sp_conB A r q) 48
theorem sp_fst_spec {f : Nat → Bool} {n : Nat} (h : sp_any f n = true) : f (sp_fst f n) = true ∧ sp_any f (sp_fst f n) = false := by
  induction n with
  | zero => cases h
  | succ n ih =>
    show f (if sp_any f n then sp_fst f n else n) = true ∧ sp_any f (if sp_any f n then sp_fst f n else n) = false
    cases h2 : sp_any f n
    · rw [if_neg (by decide)]
      rw [sp_any_succ, h2, Bool.false_or] at h
      exact ⟨h, h2⟩
    · rw [if_pos rfl]
      exact ih h2
theorem sp_lab_any {A : pk_St} {q : Nat} (hq : q < 48) : sp_any (fun r => sp_conB A r q) 48 = true := sp_any_true hq (sp_conB_iff.mpr (sp_con.rf A q))
theorem sp_lab_con {A : pk_St} {q : Nat} (hq : q < 48) : sp_con A (sp_lab A q) q := sp_conB_iff.mp (sp_fst_spec (sp_lab_any hq)).1
theorem sp_lab_le {A : pk_St} {q r : Nat} (hq : q < 48) (h : sp_con A r q) : sp_lab A q ≤ r := by
  rcases Nat.lt_or_ge r (sp_lab A q) with z | z
  · have h1 := (sp_fst_spec (sp_lab_any (A := A) hq)).2
    have h2 := sp_any_true (f := fun r => sp_conB A r q) z (sp_conB_iff.mpr h)
    rw [show sp_fst (fun r => sp_conB A r q) 48 = sp_lab A q from rfl, h2] at h1
    cases h1
  · exact z
theorem sp_lab_self {A : pk_St} {q : Nat} (hq : q < 48) : sp_lab A q ≤ q := sp_lab_le hq (sp_con.rf A q)
theorem sp_lab_eq {A : pk_St} (hA : pk_okS A) {q r : Nat} (hq : q < 48) (hr : r < 48) (h : sp_con A q r) : sp_lab A q = sp_lab A r := by
  apply Nat.le_antisymm
  · exact sp_lab_le hq ((sp_lab_con hr).tr (h.symm hA))
  · exact sp_lab_le hr ((sp_lab_con hq).tr h)
theorem sp_lab_in {A : pk_St} (hA : pk_okS A) {q : Nat} (h : sp_in A q = true) : sp_in A (sp_lab A q) = true ∧ sp_s A (sp_lab A q) = sp_s A q ∧ sp_lab A q < 48 ∧ sp_lab A (sp_lab A q) = sp_lab A q := by
  have hq := (sp_in_lt hA h).2.2
  have hc := sp_lab_con (A := A) hq
  obtain ⟨g1, g2⟩ := (hc.symm hA).in hA h
  have hl := (sp_in_lt hA g1).2.2
  exact ⟨g1, g2.symm, hl, sp_lab_eq hA hl hq hc⟩
/-- any labelling that is least, spreads and is reached is this one -/
theorem sp_lab_uniq {A : pk_St} (hA : pk_okS A) {l : Nat → Nat} (h1 : ∀ q, sp_in A q = true → l q ≤ q) (h2 : ∀ q r, sp_adj A q r → l q = l r) (h3 : ∀ q, sp_in A q = true → sp_con A (l q) q) {q : Nat} (hq : sp_in A q = true) : l q = sp_lab A q := by
  have hq48 := (sp_in_lt hA hq).2.2
  have hc : ∀ a b, sp_con A a b → l a = l b := by
    intro a b h
    obtain ⟨n, h⟩ := h
    induction n generalizing b with
    | zero => cases h; rfl
    | succ n ih =>
      obtain ⟨y, h4, h5⟩ := h
      exact (ih y h4).trans (h2 y b h5)
  apply Nat.le_antisymm
  · rw [← hc _ _ (sp_lab_con (A := A) hq48)]
    exact h1 _ (sp_lab_in hA hq).1
  · exact sp_lab_le hq48 (h3 q hq)
/-- areas: roots, their numbers, how many places -/
noncomputable def sp_root (A : pk_St) (q : Nat) : Bool := sp_in A q && (sp_lab A q == q)
noncomputable def sp_num2 (A : pk_St) (q : Nat) : Nat := sp_c (sp_root A) (sp_lab A q)
noncomputable def sp_many (A : pk_St) : Nat := sp_c (sp_root A) 48
noncomputable def sp_sz (A : pk_St) (r : Nat) : Nat := sp_c (fun q => sp_in A q && (sp_lab A q == r)) 48
theorem sp_c_lt {f : Nat → Bool} {a b : Nat} (h : a < b) (hf : f a = true) : sp_c f a < sp_c f b := by
  obtain ⟨k, rfl⟩ : ∃ k, b = a + 1 + k := ⟨b - a - 1, by omega⟩
  induction k with
  | zero =>
    rw [Nat.add_zero, sp_c_succ, hf, if_pos rfl]
    omega
  | succ k ih =>
    have := ih (by omega)
    rw [show a + 1 + (k + 1) = a + 1 + k + 1 by omega, sp_c_succ]
    split <;> omega
theorem sp_root_lab {A : pk_St} (hA : pk_okS A) {q : Nat} (h : sp_in A q = true) : sp_root A (sp_lab A q) = true := by
  obtain ⟨g1, g2, g3, g4⟩ := sp_lab_in hA h
  rw [sp_root, g1, g4]
  simp
theorem sp_num2_inj {A : pk_St} (hA : pk_okS A) {q r : Nat} (hq : sp_in A q = true) (hr : sp_in A r = true) (h : sp_num2 A q = sp_num2 A r) : sp_lab A q = sp_lab A r := by
  rcases Nat.lt_trichotomy (sp_lab A q) (sp_lab A r) with z | z | z
  · have := sp_c_lt z (sp_root_lab hA hq)
    unfold sp_num2 at h
    omega
  · exact z
  · have := sp_c_lt z (sp_root_lab hA hr)
    unfold sp_num2 at h
    omega
