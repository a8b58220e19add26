/-! Sums and counts over places. -/
def sp_fold (f : Nat → Nat → Nat) (a : Nat) : Nat → Nat
  | 0 => a
  | n + 1 => f n (sp_fold f a n)
theorem sp_fold_succ (f : Nat → Nat → Nat) (a n : Nat) : sp_fold f a (n + 1) = f n (sp_fold f a n) := rfl
theorem sp_fold_skip {f : Nat → Nat → Nat} {a n m : Nat} (hn : n ≤ m) (h : ∀ q, n ≤ q → q < m → ∀ x, f q x = x) : sp_fold f a m = sp_fold f a n := by
  obtain ⟨k, rfl⟩ : ∃ k, m = n + k := ⟨m - n, by omega⟩
  induction k with
  | zero => rfl
  | succ k ih =>
    show f (n + k) (sp_fold f a (n + k)) = _
    rw [h (n + k) (by omega) (by omega)]
    exact ih (by omega) (fun q h1 h2 => h q h1 (by omega))
theorem sp_fold_congr {f g : Nat → Nat → Nat} {a n : Nat} (h : ∀ q, q < n → ∀ x, f q x = g q x) : sp_fold f a n = sp_fold g a n := by
  induction n with
  | zero => rfl
  | succ n ih =>
    show f n (sp_fold f a n) = g n (sp_fold g a n)
    rw [ih (fun q hq => h q (by omega)), h n (by omega)]
/-- how many q below n -/
def sp_c (f : Nat → Bool) (n : Nat) : Nat := sp_fold (fun q x => if f q then x + 1 else x) 0 n
theorem sp_c_succ (f : Nat → Bool) (n : Nat) : sp_c f (n + 1) = if f n then sp_c f n + 1 else sp_c f n := rfl
theorem sp_c_le (f : Nat → Bool) (n : Nat) : sp_c f n ≤ n := by
  induction n with
  | zero => exact Nat.le_refl _
  | succ n ih =>
    rw [sp_c_succ]
    split <;> omega
theorem sp_c_skip {f : Nat → Bool} {n m : Nat} (hn : n ≤ m) (h : ∀ q, n ≤ q → q < m → f q = false) : sp_c f m = sp_c f n :=
  sp_fold_skip hn (fun q h1 h2 x => by simp [h q h1 h2])
theorem sp_c_congr {f g : Nat → Bool} {n : Nat} (h : ∀ q, q < n → f q = g q) : sp_c f n = sp_c g n :=
  sp_fold_congr (fun q hq x => by simp [h q hq])
theorem sp_in_row {A : pk_St} {j i : Nat} (hi : i < 8) : sp_in A (8 * j + i) = (decide (i < sp_w A) && decide (j < sp_h A)) := by
  have h1 : (8 * j + i) % 8 = i := by omega
  have h2 : (8 * j + i) / 8 = j := by omega
  simp only [sp_in, h1, h2]
theorem sp_in_out {A : pk_St} (hA : pk_okS A) {q : Nat} (h : 8 * sp_h A ≤ q) : sp_in A q = false := by
  have h2 : ¬ q / 8 < sp_h A := by omega
  simp [sp_in, h2]
theorem sp_in_gap {A : pk_St} {j q : Nat} (h1 : 8 * j + sp_w A ≤ q) (h2 : q < 8 * (j + 1)) : sp_in A q = false := by
  have h3 : ¬ q % 8 < sp_w A := by omega
  simp [sp_in, h3]
/-- places inside: at the end of a line, and of all -/
theorem sp_fold_line {A : pk_St} (hA : pk_okS A) {f : Nat → Nat → Nat} {a : Nat} (hf : ∀ q x, sp_in A q = false → f q x = x) (j : Nat) : sp_fold f a (8 * (j + 1)) = sp_fold f a (8 * j + sp_w A) :=
  sp_fold_skip (by have := hA.1; omega) (fun q h1 h2 x => hf q x (sp_in_gap h1 h2))
theorem sp_fold_end {A : pk_St} (hA : pk_okS A) {f : Nat → Nat → Nat} {a : Nat} (hf : ∀ q x, sp_in A q = false → f q x = x) : sp_fold f a 48 = sp_fold f a (8 * sp_h A) :=
  sp_fold_skip (by have := hA.2.1; omega) (fun q h1 h2 x => hf q x (sp_in_out hA h1))
