/-! drift. -/
def sp_lcg (d : Nat) : Nat := (12345 + 1103515245 * d) % 2 ^ 31
theorem sp_lcgL {d : Nat} (hd : d < 2 ^ 31) : (((nI d).toInt64 * 1103515245 + 12345) &&& 2147483647).toInt32 = nI (sp_lcg d) := by
  have e1 : (nI d).toInt64 = Int64.ofNat d := Int32.toInt64_ofNat' (by rw [Int32.toInt_maxValue]; omega)
  rw [e1, show (1103515245 : Int64) = Int64.ofNat 1103515245 from rfl, show (12345 : Int64) = Int64.ofNat 12345 from rfl, show (2147483647 : Int64) = Int64.ofNat 2147483647 from rfl, ← Int64.ofNat_mul, ← Int64.ofNat_add, Int64.toInt32_and, Int64.toInt32_ofNat', Int64.toInt32_ofNat']
  show nI _ &&& nI _ = _
  rw [pk_nand, sp_lcg, Nat.mul_comm, Nat.add_comm (1103515245 * d)]
  exact congrArg nI (Nat.and_two_pow_sub_one_eq_mod _ 31)
theorem sp_lcg_lt (d : Nat) : sp_lcg d < 2 ^ 31 := Nat.mod_lt _ (by decide)
def sp_drift (A : pk_St) : pk_St := s_set (s_d A (sp_lcg (sp_d A))) ((sp_lcg (sp_d A) / 65536 / 8 % sp_h A) * 8 + sp_lcg (sp_d A) / 65536 % sp_w A) (sp_lcg (sp_d A) / 65536 / 64 % 32)
theorem sp_drift_ok {A : pk_St} (h : pk_okS A) : pk_okS (sp_drift A) := by
  have hw := h.1
  have hh := h.2.1
  have h1 := Nat.mod_lt (sp_lcg (sp_d A) / 65536) (show 0 < sp_w A by omega)
  have h2 := Nat.mod_lt (sp_lcg (sp_d A) / 65536 / 8) (show 0 < sp_h A by omega)
  have hin : sp_in A ((sp_lcg (sp_d A) / 65536 / 8 % sp_h A) * 8 + sp_lcg (sp_d A) / 65536 % sp_w A) = true := sp_in_of (by omega) (by omega)
  refine ⟨h.1, h.2.1, sp_lcg_lt _, h.2.2.2.1, h.2.2.2.2.1, h.2.2.2.2.2.1, h.2.2.2.2.2.2.1, fun q hq => ?_, fun q hq hi => ?_⟩
  · show (if q = _ then _ else sp_s A q) < 32
    split
    · exact Nat.mod_lt _ (by decide)
    · exact h.2.2.2.2.2.2.2.1 q hq
  · show (if q = _ then _ else sp_s A q) = 0
    rw [if_neg]
    · exact h.2.2.2.2.2.2.2.2 q hq hi
    · intro e
      rw [e] at hi
      exact absurd (hin.symm.trans hi) (by decide)
def sp_dr (X : pk_X) : Nat → pk_X
  | 0 => X
  | k + 1 => x_A (x_K (sp_dr X k)) (sp_drift (sp_dr X k).1)
theorem sp_dr_ok {X : pk_X} (h : pk_okS X.1) (k : Nat) : pk_okS (sp_dr X k).1 := by
  induction k with
  | zero => exact h
  | succ k ih => exact sp_drift_ok ih
noncomputable def op_drift (X : pk_X) (n : Int32) : Int32 × pk_X := if n < 1 ∨ nI 40 < n then (-1, X) else (nI (sp_many (sp_dr X n.toNatClampNeg).1), sp_dr X n.toNatClampNeg)
