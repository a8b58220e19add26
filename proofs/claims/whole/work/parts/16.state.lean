/-! What a drawing's state is, as numbers; the methods of State. -/
abbrev pk_St : Type := Nat × Nat × Nat × (Nat → Nat) × (Nat → Nat) × (Nat → Nat) × (Nat → Nat)
def sp_w (A : pk_St) : Nat := A.1
def sp_h (A : pk_St) : Nat := A.2.1
def sp_d (A : pk_St) : Nat := A.2.2.1
def sp_k (A : pk_St) (i : Nat) : Nat := A.2.2.2.1 i
def sp_t (A : pk_St) (i : Nat) : Nat := A.2.2.2.2.1 i
def sp_o (A : pk_St) (i : Nat) : Nat := A.2.2.2.2.2.1 i
def sp_s (A : pk_St) (q : Nat) : Nat := A.2.2.2.2.2.2 q
/-- is place q (8 a line) one of the drawing's -/
def sp_in (A : pk_St) (q : Nat) : Bool := decide (q % 8 < sp_w A) && decide (q / 8 < sp_h A)
def pk_okS (A : pk_St) : Prop := (1 ≤ sp_w A ∧ sp_w A ≤ 8) ∧ (1 ≤ sp_h A ∧ sp_h A ≤ 6) ∧ sp_d A < 2 ^ 31 ∧ (∀ i, i < 5 → sp_k A i < 4) ∧ (∀ i, i < 5 → sp_t A i < 4096) ∧ (∀ i, i < 5 → sp_o A i < 5) ∧ (∀ i, i < 5 → ∀ j, j < 5 → sp_o A i = sp_o A j → i = j) ∧ (∀ q, q < 48 → sp_s A q < 32) ∧ (∀ q, q < 48 → sp_in A q = false → sp_s A q = 0)
/-- the State at place p holds A -/
def pk_At (M : pk_M) (p : Nat) (A : pk_St) : Prop := pk_I M p 4 = nI (sp_w A) ∧ pk_I M p 5 = nI (sp_h A) ∧ pk_I M p 6 = nI (sp_d A) ∧ (∀ i, i < 5 → pk_I M (p + 1) i = nI (sp_k A i)) ∧ (∀ i, i < 5 → pk_I M (p + 2) i = nI (sp_t A i)) ∧ (∀ i, i < 5 → pk_I M (p + 3) i = nI (sp_o A i)) ∧ (∀ q, q < 48 → pk_I M (p + 4) q = nI (sp_s A q))
theorem pk_WF.sp0 {L p : Nat} {M : pk_M} (hW : pk_WF L M) (h : pk_isS p = true) : pk_P M p 0 = some (p + 1) := hW.sp h (by decide)
theorem pk_WF.sp1 {L p : Nat} {M : pk_M} (hW : pk_WF L M) (h : pk_isS p = true) : pk_P M p 1 = some (p + 2) := hW.sp h (by decide)
theorem pk_WF.sp2 {L p : Nat} {M : pk_M} (hW : pk_WF L M) (h : pk_isS p = true) : pk_P M p 2 = some (p + 3) := hW.sp h (by decide)
theorem pk_WF.sp3 {L p : Nat} {M : pk_M} (hW : pk_WF L M) (h : pk_isS p = true) : pk_P M p 3 = some (p + 4) := hW.sp h (by decide)
theorem pk_WF.sa0 {L p : Nat} {M : pk_M} (hW : pk_WF L M) (h : pk_isS p = true) : pk_S M (p + 1) = some (.inl (.int, 5)) := (pk_isS_sh hW h).2.1
theorem pk_WF.sa1 {L p : Nat} {M : pk_M} (hW : pk_WF L M) (h : pk_isS p = true) : pk_S M (p + 2) = some (.inl (.int, 5)) := (pk_isS_sh hW h).2.2.1
theorem pk_WF.sa2 {L p : Nat} {M : pk_M} (hW : pk_WF L M) (h : pk_isS p = true) : pk_S M (p + 3) = some (.inl (.int, 5)) := (pk_isS_sh hW h).2.2.2.1
theorem pk_WF.sa3 {L p : Nat} {M : pk_M} (hW : pk_WF L M) (h : pk_isS p = true) : pk_S M (p + 4) = some (.inl (.int, 48)) := (pk_isS_sh hW h).2.2.2.2
/-- is (x, y) inside -/
def sp_inb (A : pk_St) (x y : Int32) : Bool := (decide (0 ≤ x) && decide (x < nI (sp_w A))) && (decide (0 ≤ y) && decide (y < nI (sp_h A)))
def sp_at (A : pk_St) (x y : Int32) : Nat := if sp_inb A x y then sp_s A (y.toNatClampNeg * 8 + x.toNatClampNeg) else 0
theorem sp_inb_of {A : pk_St} (hA : pk_okS A) {x y : Int32} (h : sp_inb A x y = true) : ∃ i j, i < sp_w A ∧ j < sp_h A ∧ x = nI i ∧ y = nI j := by
  simp only [sp_inb, Bool.and_eq_true, decide_eq_true_eq] at h
  have h1 := hA.1
  have h2 := hA.2.1
  obtain ⟨i, hi, rfl⟩ := pk_nof h.1.1 h.1.2 (by omega)
  obtain ⟨j, hj, rfl⟩ := pk_nof h.2.1 h.2.2 (by omega)
  exact ⟨i, j, hi, hj, rfl, rfl⟩
theorem sp_inb_n {A : pk_St} (hA : pk_okS A) {i j : Nat} (hi : i < 2 ^ 31) (hj : j < 2 ^ 31) : sp_inb A (nI i) (nI j) = (decide (i < sp_w A) && decide (j < sp_h A)) := by
  have h1 := hA.1
  have h2 := hA.2.1
  simp only [sp_inb, nI_pos' hi, nI_pos' hj, nI_ltI hi (show sp_w A < 2 ^ 31 by omega), nI_ltI hj (show sp_h A < 2 ^ 31 by omega), decide_true, Bool.true_and]
theorem sp_at_n {A : pk_St} (hA : pk_okS A) {i j : Nat} (hi : i < sp_w A) (hj : j < sp_h A) : sp_at A (nI i) (nI j) = sp_s A (j * 8 + i) := by
  have h1 := hA.1
  have h2 := hA.2.1
  simp only [sp_at, sp_inb_n hA (show i < 2 ^ 31 by omega) (show j < 2 ^ 31 by omega), hi, hj, decide_true, Bool.and_self, if_true, nI_clamp (show i < 2 ^ 31 by omega), nI_clamp (show j < 2 ^ 31 by omega)]
theorem sp_at_lt {A : pk_St} (hA : pk_okS A) (x y : Int32) : sp_at A x y < 32 := by
  unfold sp_at
  split
  · rename_i h
    obtain ⟨i, j, hi, hj, rfl, rfl⟩ := sp_inb_of hA h
    have h1 := hA.1
    have h2 := hA.2.1
    rw [nI_clamp (by omega), nI_clamp (by omega)]
    exact hA.2.2.2.2.2.2.2.1 _ (by omega)
  · decide

set_option maxRecDepth 100000 in
set_option maxHeartbeats 4000000 in
theorem e_X4_indexOf {Γ : pk_T} {M : pk_M} (x y : Nat) : pk_E Γ yX4_indexOf cX4_indexOf 2 (some .int) 0 0 0 M [.int (nI x), .int (nI y)] (fun r M' => r = some (.int (nI (y * 8 + x))) ∧ M' = M) := by
  refine pk_meth (own := RX4) (ini := false) [some (.int (nI x)), some (.int (nI y))] (by decide +kernel) rfl (by decide +kernel) rfl rfl ?_
  refine pk_iload_n dX4_indexOf_0 rfl ?_
  refine pk_bipush (v := nI 8) dX4_indexOf_1 (by decide) ?_
  first | refine pk_mulN dX4_indexOf_3 ?_ | refine pk_imul dX4_indexOf_3 ?_
  refine pk_iload_n dX4_indexOf_4 rfl ?_
  first | refine pk_addN dX4_indexOf_5 ?_ | refine pk_iadd dX4_indexOf_5 ?_
  refine pk_reti dX4_indexOf_6 (by first | rfl | exact pk_nbi _) ?_
  exact ⟨rfl, rfl⟩

set_option maxRecDepth 100000 in
set_option maxHeartbeats 4000000 in
theorem e_X4_isInside {Γ : pk_T} {M : pk_M} {L p : Nat} {A : pk_St} (hW : pk_WF L M) (hp : pk_isS p = true) (hA : pk_At M p A) (hok : pk_okS A) (x y : Int32) : pk_E Γ yX4_isInside cX4_isInside 3 (some .boolean) 1 0 0 M [.ref p, .int x, .int y] (fun r M' => r = some (.int (pk_bi (sp_inb A x y))) ∧ M' = M) := by
  have hw := hok.1
  have hh := hok.2.1
  have hs := hok.2.2.2.2.2.2.2.1
  have hp5 := pk_isS_lt hp
  refine pk_meth (own := RX4) (ini := false) [some (.ref p), some (.int x), some (.int y)] (by decide +kernel) rfl (by decide +kernel) rfl rfl ?_
  refine pk_iload_n dX4_isInside_0 rfl ?_
  refine pk_if_lt (tgt := 28) dX4_isInside_1 (by decide) (fun c_1 => ?_) (fun c_1 => ?_)
  · refine pk_iconst (v := nI 0) dX4_isInside_28 (by decide) ?_
    refine pk_reti dX4_isInside_29 (by first | rfl | exact pk_nbi _) ?_
    refine ⟨?_, rfl⟩
    first | (simp [sp_inb, pk_bi, Int32.not_le.mpr c_1]; rfl) | (simp [sp_inb, pk_bi, Int32.not_lt.mpr c_9]; rfl) | (simp [sp_inb, pk_bi, Int32.not_le.mpr c_13]; rfl) | (simp [sp_inb, pk_bi, Int32.not_lt.mpr c_21]; rfl) | (simp [sp_inb, pk_bi, Int32.not_lt.mp c_1, Int32.not_le.mp c_9, Int32.not_lt.mp c_13, Int32.not_le.mp c_21]; rfl)
  · refine pk_iload_n dX4_isInside_4 rfl ?_
    refine pk_aload_n dX4_isInside_5 rfl ?_
    refine pk_getN dX4_isInside_6 fl_X4_24 rfl (hW.ss hp) hA.1 ?_
    first | refine pk_geN (tgt := 28) dX4_isInside_9 (by decide) (by omega) (by omega) (fun c_9 => ?_) (fun c_9 => ?_) | refine pk_icmp_ge (tgt := 28) dX4_isInside_9 (by decide) (fun c_9 => ?_) (fun c_9 => ?_)
    · refine pk_iconst (v := nI 0) dX4_isInside_28 (by decide) ?_
      refine pk_reti dX4_isInside_29 (by first | rfl | exact pk_nbi _) ?_
      refine ⟨?_, rfl⟩
      first | (simp [sp_inb, pk_bi, Int32.not_le.mpr c_1]; rfl) | (simp [sp_inb, pk_bi, Int32.not_lt.mpr c_9]; rfl) | (simp [sp_inb, pk_bi, Int32.not_le.mpr c_13]; rfl) | (simp [sp_inb, pk_bi, Int32.not_lt.mpr c_21]; rfl) | (simp [sp_inb, pk_bi, Int32.not_lt.mp c_1, Int32.not_le.mp c_9, Int32.not_lt.mp c_13, Int32.not_le.mp c_21]; rfl)
    · refine pk_iload_n dX4_isInside_12 rfl ?_
      refine pk_if_lt (tgt := 28) dX4_isInside_13 (by decide) (fun c_13 => ?_) (fun c_13 => ?_)
      · refine pk_iconst (v := nI 0) dX4_isInside_28 (by decide) ?_
        refine pk_reti dX4_isInside_29 (by first | rfl | exact pk_nbi _) ?_
        refine ⟨?_, rfl⟩
        first | (simp [sp_inb, pk_bi, Int32.not_le.mpr c_1]; rfl) | (simp [sp_inb, pk_bi, Int32.not_lt.mpr c_9]; rfl) | (simp [sp_inb, pk_bi, Int32.not_le.mpr c_13]; rfl) | (simp [sp_inb, pk_bi, Int32.not_lt.mpr c_21]; rfl) | (simp [sp_inb, pk_bi, Int32.not_lt.mp c_1, Int32.not_le.mp c_9, Int32.not_lt.mp c_13, Int32.not_le.mp c_21]; rfl)
      · refine pk_iload_n dX4_isInside_16 rfl ?_
        refine pk_aload_n dX4_isInside_17 rfl ?_
        refine pk_getN dX4_isInside_18 fl_X4_28 rfl (hW.ss hp) hA.2.1 ?_
        first | refine pk_geN (tgt := 28) dX4_isInside_21 (by decide) (by omega) (by omega) (fun c_21 => ?_) (fun c_21 => ?_) | refine pk_icmp_ge (tgt := 28) dX4_isInside_21 (by decide) (fun c_21 => ?_) (fun c_21 => ?_)
        · refine pk_iconst (v := nI 0) dX4_isInside_28 (by decide) ?_
          refine pk_reti dX4_isInside_29 (by first | rfl | exact pk_nbi _) ?_
          refine ⟨?_, rfl⟩
          first | (simp [sp_inb, pk_bi, Int32.not_le.mpr c_1]; rfl) | (simp [sp_inb, pk_bi, Int32.not_lt.mpr c_9]; rfl) | (simp [sp_inb, pk_bi, Int32.not_le.mpr c_13]; rfl) | (simp [sp_inb, pk_bi, Int32.not_lt.mpr c_21]; rfl) | (simp [sp_inb, pk_bi, Int32.not_lt.mp c_1, Int32.not_le.mp c_9, Int32.not_lt.mp c_13, Int32.not_le.mp c_21]; rfl)
        · refine pk_iconst (v := nI 1) dX4_isInside_24 (by decide) ?_
          refine pk_goto (tgt := 29) dX4_isInside_25 (by decide) ?_
          refine pk_reti dX4_isInside_29 (by first | rfl | exact pk_nbi _) ?_
          refine ⟨?_, rfl⟩
          first | (simp [sp_inb, pk_bi, Int32.not_le.mpr c_1]; rfl) | (simp [sp_inb, pk_bi, Int32.not_lt.mpr c_9]; rfl) | (simp [sp_inb, pk_bi, Int32.not_le.mpr c_13]; rfl) | (simp [sp_inb, pk_bi, Int32.not_lt.mpr c_21]; rfl) | (simp [sp_inb, pk_bi, Int32.not_lt.mp c_1, Int32.not_le.mp c_9, Int32.not_lt.mp c_13, Int32.not_le.mp c_21]; rfl)

set_option maxRecDepth 100000 in
set_option maxHeartbeats 4000000 in
theorem e_X4_at {Γ : pk_T} {M : pk_M} {L p : Nat} {A : pk_St} (hW : pk_WF L M) (hp : pk_isS p = true) (hA : pk_At M p A) (hok : pk_okS A) (x y : Int32) {v : Nat} (hv : sp_at A x y = v) : pk_E Γ yX4_at cX4_at 3 (some .int) 2 0 0 M [.ref p, .int x, .int y] (fun r M' => r = some (.int (nI v)) ∧ M' = M) := by
  have hw := hok.1
  have hh := hok.2.1
  have hs := hok.2.2.2.2.2.2.2.1
  have hp5 := pk_isS_lt hp
  refine pk_meth (own := RX4) (ini := false) [some (.ref p), some (.int x), some (.int y)] (by decide +kernel) rfl (by decide +kernel) rfl rfl ?_
  refine pk_aload_n dX4_at_0 rfl ?_
  refine pk_iload_n dX4_at_1 rfl ?_
  refine pk_iload_n dX4_at_2 rfl ?_
  refine pk_Vi dX4_at_3 ml_X4_43 yw_X4_isInside yv_X4_isInside (hW.ss hp) (e_X4_isInside hW hp hA hok _ _) rfl rfl rfl rfl rfl rfl rfl ?_
  first | refine pk_eqb (tgt := 22) dX4_at_6 (by decide) (fun c_6 => ?_) (fun c_6 => ?_) | refine pk_eq0N (tgt := 22) dX4_at_6 (by decide) (by omega) (fun c_6 => ?_) (fun c_6 => ?_) | refine pk_if_eq (tgt := 22) dX4_at_6 (by decide) (fun c_6 => ?_) (fun c_6 => ?_)
  · refine pk_iconst (v := nI 0) dX4_at_22 (by decide) ?_
    refine pk_reti dX4_at_23 (by first | rfl | exact pk_nbi _) ?_
    refine ⟨?_, rfl⟩
    first | (rw [sp_at_n hok hi hj] at hv; rw [hv]) | (rw [← hv]; simp only [sp_at, c_6]; rfl)
  · obtain ⟨i, j, hi, hj, rfl, rfl⟩ := sp_inb_of hok c_6
    refine pk_aload_n dX4_at_9 rfl ?_
    refine pk_getP dX4_at_10 fl_X4_21 rfl (hW.ss hp) (hW.sp3 hp) ?_
    refine pk_iload_n dX4_at_13 rfl ?_
    refine pk_iload_n dX4_at_14 rfl ?_
    refine pk_Si dX4_at_15 ml_X4_47 yw_X4_indexOf ys_X4_indexOf (e_X4_indexOf _ _) rfl rfl rfl rfl rfl rfl rfl ?_
    refine pk_aldN dX4_at_18 (hW.sa3 hp) (by omega) (by omega) (hA.2.2.2.2.2.2 _ (by omega)) ?_
    refine pk_goto (tgt := 23) dX4_at_19 (by decide) ?_
    refine pk_reti dX4_at_23 (by first | rfl | exact pk_nbi _) ?_
    refine ⟨?_, rfl⟩
    first | (rw [sp_at_n hok hi hj] at hv; rw [hv]) | (rw [← hv]; simp only [sp_at, c_6]; rfl)

set_option maxRecDepth 100000 in
set_option maxHeartbeats 4000000 in
theorem e_X4_write {Γ : pk_T} {M : pk_M} {L p : Nat} {A : pk_St} (hW : pk_WF L M) (hp : pk_isS p = true) (hA : pk_At M p A) (hok : pk_okS A) (x y v : Int32) : pk_E Γ yX4_write cX4_write 4 none 2 0 0 M [.ref p, .int x, .int y, .int v] (fun r M' => r = none ∧ M' = if sp_inb A x y then pk_sI M (p + 4) (y.toNatClampNeg * 8 + x.toNatClampNeg) v else M) := by
  have hw := hok.1
  have hh := hok.2.1
  have hs := hok.2.2.2.2.2.2.2.1
  have hp5 := pk_isS_lt hp
  refine pk_meth (own := RX4) (ini := false) [some (.ref p), some (.int x), some (.int y), some (.int v)] (by decide +kernel) rfl (by decide +kernel) rfl rfl ?_
  refine pk_aload_n dX4_write_0 rfl ?_
  refine pk_iload_n dX4_write_1 rfl ?_
  refine pk_iload_n dX4_write_2 rfl ?_
  refine pk_Vi dX4_write_3 ml_X4_43 yw_X4_isInside yv_X4_isInside (hW.ss hp) (e_X4_isInside hW hp hA hok _ _) rfl rfl rfl rfl rfl rfl rfl ?_
  first | refine pk_eqb (tgt := 20) dX4_write_6 (by decide) (fun c_6 => ?_) (fun c_6 => ?_) | refine pk_eq0N (tgt := 20) dX4_write_6 (by decide) (by omega) (fun c_6 => ?_) (fun c_6 => ?_) | refine pk_if_eq (tgt := 20) dX4_write_6 (by decide) (fun c_6 => ?_) (fun c_6 => ?_)
  · refine pk_retv dX4_write_20 ?_
    first | exact ⟨rfl, rfl⟩ | exact ⟨rfl, by rw [c_6]; rfl⟩
  · rw [c_6, if_pos rfl]
    obtain ⟨i, j, hi, hj, rfl, rfl⟩ := sp_inb_of hok c_6
    rw [nI_clamp (by omega), nI_clamp (by omega)]
    refine pk_aload_n dX4_write_9 rfl ?_
    refine pk_getP dX4_write_10 fl_X4_21 rfl (hW.ss hp) (hW.sp3 hp) ?_
    refine pk_iload_n dX4_write_13 rfl ?_
    refine pk_iload_n dX4_write_14 rfl ?_
    refine pk_Si dX4_write_15 ml_X4_47 yw_X4_indexOf ys_X4_indexOf (e_X4_indexOf _ _) rfl rfl rfl rfl rfl rfl rfl ?_
    refine pk_iload_n dX4_write_18 rfl ?_
    refine pk_astN dX4_write_19 (hW.sa3 hp) (by omega) (by omega) (by omega) ?_
    refine pk_retv dX4_write_20 ?_
    first | exact ⟨rfl, rfl⟩ | exact ⟨rfl, by rw [c_6]; rfl⟩
