/-! PartedInks: the worst plate, orders by their numbers, odds. -/
set_option maxRecDepth 100000 in
set_option maxHeartbeats 4000000 in
theorem e_X6_isTaking {Γ : pk_T} {M : pk_M} (a b : Int32) : pk_E Γ yX6_isTaking cX6_isTaking 2 (some .boolean) 1 0 0 M [.int a, .int b] (fun r M' => r = some (.int (pk_bi ((decide (0 ≤ a) && decide (a < nI 4)) && (decide (0 ≤ b) && decide (b < nI 4))))) ∧ M' = M) := by
  refine pk_meth (own := RX6) (ini := false) [some (.int a), some (.int b)] (by decide +kernel) rfl (by decide +kernel) rfl rfl ?_
  refine pk_iload_n dX6_isTaking_0 rfl ?_
  refine pk_iconst (v := nI 4) dX6_isTaking_1 (by decide) ?_
  refine pk_Si dX6_isTaking_2 ml_X6_71 yw_X6_isBelow ys_X6_isBelow (e_X6_isBelow _ _) rfl rfl rfl rfl rfl rfl rfl ?_
  first | refine pk_eqb (tgt := 20) dX6_isTaking_5 (by decide) (fun c_5 => ?_) (fun c_5 => ?_) | refine pk_eq0N (tgt := 20) dX6_isTaking_5 (by decide) (by omega) (fun c_5 => ?_) (fun c_5 => ?_) | refine pk_if_eq (tgt := 20) dX6_isTaking_5 (by decide) (fun c_5 => ?_) (fun c_5 => ?_)
  · refine pk_iconst (v := nI 0) dX6_isTaking_20 (by decide) ?_
    refine pk_reti dX6_isTaking_21 (by first | rfl | exact pk_nbi _) ?_
    refine ⟨?_, rfl⟩
    first | (rw [c_5, c_13]; rfl) | (rw [c_5]; rfl)
  · refine pk_iload_n dX6_isTaking_8 rfl ?_
    refine pk_iconst (v := nI 4) dX6_isTaking_9 (by decide) ?_
    refine pk_Si dX6_isTaking_10 ml_X6_71 yw_X6_isBelow ys_X6_isBelow (e_X6_isBelow _ _) rfl rfl rfl rfl rfl rfl rfl ?_
    first | refine pk_eqb (tgt := 20) dX6_isTaking_13 (by decide) (fun c_13 => ?_) (fun c_13 => ?_) | refine pk_eq0N (tgt := 20) dX6_isTaking_13 (by decide) (by omega) (fun c_13 => ?_) (fun c_13 => ?_) | refine pk_if_eq (tgt := 20) dX6_isTaking_13 (by decide) (fun c_13 => ?_) (fun c_13 => ?_)
    · refine pk_iconst (v := nI 0) dX6_isTaking_20 (by decide) ?_
      refine pk_reti dX6_isTaking_21 (by first | rfl | exact pk_nbi _) ?_
      refine ⟨?_, rfl⟩
      first | (rw [c_5, c_13]; rfl) | (rw [c_5]; rfl)
    · refine pk_iconst (v := nI 1) dX6_isTaking_16 (by decide) ?_
      refine pk_goto (tgt := 21) dX6_isTaking_17 (by decide) ?_
      refine pk_reti dX6_isTaking_21 (by first | rfl | exact pk_nbi _) ?_
      refine ⟨?_, rfl⟩
      first | (rw [c_5, c_13]; rfl) | (rw [c_5]; rfl)

def sp_d3 (x : Int32) : Bool := decide (-1 ≤ x) && decide (x ≤ 1)
theorem sp_d3_of {x : Int32} (h : sp_d3 x = true) : ∃ t, t < 3 ∧ x = nI t - 1 := by
  simp only [sp_d3, Bool.and_eq_true, decide_eq_true_eq, Int32.le_iff_toInt_le] at h
  have h1 : (-1 : Int32).toInt = -1 := by decide
  have h2 : (1 : Int32).toInt = 1 := by decide
  rw [h1, h2] at h
  have h3 : x.toInt = -1 ∨ x.toInt = 0 ∨ x.toInt = 1 := by omega
  rcases h3 with h3 | h3 | h3
  · exact ⟨0, by decide, Int32.toInt_inj.mp (h3.trans (by decide))⟩
  · exact ⟨1, by decide, Int32.toInt_inj.mp (h3.trans (by decide))⟩
  · exact ⟨2, by decide, Int32.toInt_inj.mp (h3.trans (by decide))⟩

set_option maxRecDepth 100000 in
set_option maxHeartbeats 4000000 in
theorem e_X6_isPlateAside {Γ : pk_T} {M : pk_M} (k dx dy : Int32) : pk_E Γ yX6_isPlateAside cX6_isPlateAside 3 (some .boolean) 1 0 0 M [.int k, .int dx, .int dy] (fun r M' => r = some (.int (pk_bi ((decide (0 ≤ k) && decide (k < nI 5)) && (sp_d3 dx && sp_d3 dy)))) ∧ M' = M) := by
  refine pk_meth (own := RX6) (ini := false) [some (.int k), some (.int dx), some (.int dy)] (by decide +kernel) rfl (by decide +kernel) rfl rfl ?_
  refine pk_iload_n dX6_isPlateAside_0 rfl ?_
  refine pk_iconst (v := nI 5) dX6_isPlateAside_1 (by decide) ?_
  refine pk_Si dX6_isPlateAside_2 ml_X6_71 yw_X6_isBelow ys_X6_isBelow (e_X6_isBelow _ _) rfl rfl rfl rfl rfl rfl rfl ?_
  first | refine pk_eqb (tgt := 32) dX6_isPlateAside_5 (by decide) (fun c_5 => ?_) (fun c_5 => ?_) | refine pk_eq0N (tgt := 32) dX6_isPlateAside_5 (by decide) (by omega) (fun c_5 => ?_) (fun c_5 => ?_) | refine pk_if_eq (tgt := 32) dX6_isPlateAside_5 (by decide) (fun c_5 => ?_) (fun c_5 => ?_)
  · refine pk_iconst (v := nI 0) dX6_isPlateAside_32 (by decide) ?_
    refine pk_reti dX6_isPlateAside_33 (by first | rfl | exact pk_nbi _) ?_
    refine ⟨?_, rfl⟩
    simp only [sp_d3]
    first | (rw [c_5]; rfl) | (rw [c_5, Bool.true_and]; have e1 : decide ((-1 : Int32) ≤ dx) = false := decide_eq_false (Int32.not_le.mpr c_10); rw [e1]; rfl) | (rw [c_5, Bool.true_and]; have e1 : decide (dx ≤ (1 : Int32)) = false := decide_eq_false (Int32.not_le.mpr c_15); rw [e1, Bool.and_false]; rfl) | (rw [c_5, Bool.true_and]; have e1 : decide ((-1 : Int32) ≤ dy) = false := decide_eq_false (Int32.not_le.mpr c_20); rw [e1, Bool.false_and, Bool.and_false]; rfl) | (rw [c_5, Bool.true_and]; have e1 : decide (dy ≤ (1 : Int32)) = false := decide_eq_false (Int32.not_le.mpr c_25); rw [e1, Bool.and_false, Bool.and_false]; rfl) | (rw [c_5, Bool.true_and, decide_eq_true (Int32.not_lt.mp c_10), decide_eq_true (Int32.not_lt.mp c_20), show decide (dx ≤ (1 : Int32)) = true from decide_eq_true (Int32.not_lt.mp c_15), show decide (dy ≤ (1 : Int32)) = true from decide_eq_true (Int32.not_lt.mp c_25)]; rfl)
  · refine pk_iload_n dX6_isPlateAside_8 rfl ?_
    refine pk_iconst (v := -1) dX6_isPlateAside_9 (by decide) ?_
    refine pk_icmp_lt (tgt := 32) dX6_isPlateAside_10 (by decide) (fun c_10 => ?_) (fun c_10 => ?_)
    · refine pk_iconst (v := nI 0) dX6_isPlateAside_32 (by decide) ?_
      refine pk_reti dX6_isPlateAside_33 (by first | rfl | exact pk_nbi _) ?_
      refine ⟨?_, rfl⟩
      simp only [sp_d3]
      first | (rw [c_5]; rfl) | (rw [c_5, Bool.true_and]; have e1 : decide ((-1 : Int32) ≤ dx) = false := decide_eq_false (Int32.not_le.mpr c_10); rw [e1]; rfl) | (rw [c_5, Bool.true_and]; have e1 : decide (dx ≤ (1 : Int32)) = false := decide_eq_false (Int32.not_le.mpr c_15); rw [e1, Bool.and_false]; rfl) | (rw [c_5, Bool.true_and]; have e1 : decide ((-1 : Int32) ≤ dy) = false := decide_eq_false (Int32.not_le.mpr c_20); rw [e1, Bool.false_and, Bool.and_false]; rfl) | (rw [c_5, Bool.true_and]; have e1 : decide (dy ≤ (1 : Int32)) = false := decide_eq_false (Int32.not_le.mpr c_25); rw [e1, Bool.and_false, Bool.and_false]; rfl) | (rw [c_5, Bool.true_and, decide_eq_true (Int32.not_lt.mp c_10), decide_eq_true (Int32.not_lt.mp c_20), show decide (dx ≤ (1 : Int32)) = true from decide_eq_true (Int32.not_lt.mp c_15), show decide (dy ≤ (1 : Int32)) = true from decide_eq_true (Int32.not_lt.mp c_25)]; rfl)
    · refine pk_iload_n dX6_isPlateAside_13 rfl ?_
      refine pk_iconst (v := nI 1) dX6_isPlateAside_14 (by decide) ?_
      refine pk_icmp_gt (tgt := 32) dX6_isPlateAside_15 (by decide) (fun c_15 => ?_) (fun c_15 => ?_)
      · refine pk_iconst (v := nI 0) dX6_isPlateAside_32 (by decide) ?_
        refine pk_reti dX6_isPlateAside_33 (by first | rfl | exact pk_nbi _) ?_
        refine ⟨?_, rfl⟩
        simp only [sp_d3]
        first | (rw [c_5]; rfl) | (rw [c_5, Bool.true_and]; have e1 : decide ((-1 : Int32) ≤ dx) = false := decide_eq_false (Int32.not_le.mpr c_10); rw [e1]; rfl) | (rw [c_5, Bool.true_and]; have e1 : decide (dx ≤ (1 : Int32)) = false := decide_eq_false (Int32.not_le.mpr c_15); rw [e1, Bool.and_false]; rfl) | (rw [c_5, Bool.true_and]; have e1 : decide ((-1 : Int32) ≤ dy) = false := decide_eq_false (Int32.not_le.mpr c_20); rw [e1, Bool.false_and, Bool.and_false]; rfl) | (rw [c_5, Bool.true_and]; have e1 : decide (dy ≤ (1 : Int32)) = false := decide_eq_false (Int32.not_le.mpr c_25); rw [e1, Bool.and_false, Bool.and_false]; rfl) | (rw [c_5, Bool.true_and, decide_eq_true (Int32.not_lt.mp c_10), decide_eq_true (Int32.not_lt.mp c_20), show decide (dx ≤ (1 : Int32)) = true from decide_eq_true (Int32.not_lt.mp c_15), show decide (dy ≤ (1 : Int32)) = true from decide_eq_true (Int32.not_lt.mp c_25)]; rfl)
      · refine pk_iload_n dX6_isPlateAside_18 rfl ?_
        refine pk_iconst (v := -1) dX6_isPlateAside_19 (by decide) ?_
        refine pk_icmp_lt (tgt := 32) dX6_isPlateAside_20 (by decide) (fun c_20 => ?_) (fun c_20 => ?_)
        · refine pk_iconst (v := nI 0) dX6_isPlateAside_32 (by decide) ?_
          refine pk_reti dX6_isPlateAside_33 (by first | rfl | exact pk_nbi _) ?_
          refine ⟨?_, rfl⟩
          simp only [sp_d3]
          first | (rw [c_5]; rfl) | (rw [c_5, Bool.true_and]; have e1 : decide ((-1 : Int32) ≤ dx) = false := decide_eq_false (Int32.not_le.mpr c_10); rw [e1]; rfl) | (rw [c_5, Bool.true_and]; have e1 : decide (dx ≤ (1 : Int32)) = false := decide_eq_false (Int32.not_le.mpr c_15); rw [e1, Bool.and_false]; rfl) | (rw [c_5, Bool.true_and]; have e1 : decide ((-1 : Int32) ≤ dy) = false := decide_eq_false (Int32.not_le.mpr c_20); rw [e1, Bool.false_and, Bool.and_false]; rfl) | (rw [c_5, Bool.true_and]; have e1 : decide (dy ≤ (1 : Int32)) = false := decide_eq_false (Int32.not_le.mpr c_25); rw [e1, Bool.and_false, Bool.and_false]; rfl) | (rw [c_5, Bool.true_and, decide_eq_true (Int32.not_lt.mp c_10), decide_eq_true (Int32.not_lt.mp c_20), show decide (dx ≤ (1 : Int32)) = true from decide_eq_true (Int32.not_lt.mp c_15), show decide (dy ≤ (1 : Int32)) = true from decide_eq_true (Int32.not_lt.mp c_25)]; rfl)
        · refine pk_iload_n dX6_isPlateAside_23 rfl ?_
          refine pk_iconst (v := nI 1) dX6_isPlateAside_24 (by decide) ?_
          refine pk_icmp_gt (tgt := 32) dX6_isPlateAside_25 (by decide) (fun c_25 => ?_) (fun c_25 => ?_)
          · refine pk_iconst (v := nI 0) dX6_isPlateAside_32 (by decide) ?_
            refine pk_reti dX6_isPlateAside_33 (by first | rfl | exact pk_nbi _) ?_
            refine ⟨?_, rfl⟩
            simp only [sp_d3]
            first | (rw [c_5]; rfl) | (rw [c_5, Bool.true_and]; have e1 : decide ((-1 : Int32) ≤ dx) = false := decide_eq_false (Int32.not_le.mpr c_10); rw [e1]; rfl) | (rw [c_5, Bool.true_and]; have e1 : decide (dx ≤ (1 : Int32)) = false := decide_eq_false (Int32.not_le.mpr c_15); rw [e1, Bool.and_false]; rfl) | (rw [c_5, Bool.true_and]; have e1 : decide ((-1 : Int32) ≤ dy) = false := decide_eq_false (Int32.not_le.mpr c_20); rw [e1, Bool.false_and, Bool.and_false]; rfl) | (rw [c_5, Bool.true_and]; have e1 : decide (dy ≤ (1 : Int32)) = false := decide_eq_false (Int32.not_le.mpr c_25); rw [e1, Bool.and_false, Bool.and_false]; rfl) | (rw [c_5, Bool.true_and, decide_eq_true (Int32.not_lt.mp c_10), decide_eq_true (Int32.not_lt.mp c_20), show decide (dx ≤ (1 : Int32)) = true from decide_eq_true (Int32.not_lt.mp c_15), show decide (dy ≤ (1 : Int32)) = true from decide_eq_true (Int32.not_lt.mp c_25)]; rfl)
          · refine pk_iconst (v := nI 1) dX6_isPlateAside_28 (by decide) ?_
            refine pk_goto (tgt := 33) dX6_isPlateAside_29 (by decide) ?_
            refine pk_reti dX6_isPlateAside_33 (by first | rfl | exact pk_nbi _) ?_
            refine ⟨?_, rfl⟩
            simp only [sp_d3]
            first | (rw [c_5]; rfl) | (rw [c_5, Bool.true_and]; have e1 : decide ((-1 : Int32) ≤ dx) = false := decide_eq_false (Int32.not_le.mpr c_10); rw [e1]; rfl) | (rw [c_5, Bool.true_and]; have e1 : decide (dx ≤ (1 : Int32)) = false := decide_eq_false (Int32.not_le.mpr c_15); rw [e1, Bool.and_false]; rfl) | (rw [c_5, Bool.true_and]; have e1 : decide ((-1 : Int32) ≤ dy) = false := decide_eq_false (Int32.not_le.mpr c_20); rw [e1, Bool.false_and, Bool.and_false]; rfl) | (rw [c_5, Bool.true_and]; have e1 : decide (dy ≤ (1 : Int32)) = false := decide_eq_false (Int32.not_le.mpr c_25); rw [e1, Bool.and_false, Bool.and_false]; rfl) | (rw [c_5, Bool.true_and, decide_eq_true (Int32.not_lt.mp c_10), decide_eq_true (Int32.not_lt.mp c_20), show decide (dx ≤ (1 : Int32)) = true from decide_eq_true (Int32.not_lt.mp c_15), show decide (dy ≤ (1 : Int32)) = true from decide_eq_true (Int32.not_lt.mp c_25)]; rfl)

def sp_dig (n k : Nat) : Nat := n / 10 ^ k % 10
def sp_mask (n : Nat) : Nat → Nat := sp_fold (fun k x => x ||| 2 ^ sp_dig n k) 0
def sp_isO (n : Nat) : Bool := decide (n ≤ 43210) && (sp_mask n 5 == 31)
def sp_isOI (x : Int32) : Bool := decide (0 ≤ x) && sp_isO x.toNatClampNeg
theorem sp_mask_lt (n k : Nat) : sp_mask n k < 2 ^ 10 := by
  induction k with
  | zero => show 0 < 2 ^ 10; decide
  | succ k ih => exact pk_or_lt ih (Nat.pow_lt_pow_right (by decide) (Nat.mod_lt _ (by decide)))
theorem pk_div10 (n k : Nat) : n / 10 ^ k / 10 = n / 10 ^ (k + 1) := by rw [Nat.div_div_eq_div_mul, Nat.pow_succ]

set_option maxRecDepth 100000 in
set_option maxHeartbeats 4000000 in
theorem e_X6_isOrder {Γ : pk_T} {M : pk_M} (f : Int32) : pk_E Γ yX6_isOrder cX6_isOrder 4 (some .boolean) 0 0 0 M [.int f] (fun r M' => r = some (.int (pk_bi (sp_isOI f))) ∧ M' = M) := by
  refine pk_meth (own := RX6) (ini := false) [some (.int f), none, none, none] (by decide +kernel) rfl (by decide +kernel) rfl rfl ?_
  refine pk_iload_n dX6_isOrder_0 rfl ?_
  refine pk_if_lt (tgt := 11) dX6_isOrder_1 (by decide) (fun c_1 => ?_) (fun c_1 => ?_)
  · refine pk_iconst (v := nI 0) dX6_isOrder_11 (by decide) ?_
    refine pk_reti dX6_isOrder_12 (by first | rfl | exact pk_nbi _) ?_
    refine ⟨?_, rfl⟩
    first | (have e1 : decide ((0 : Int32) ≤ f) = false := decide_eq_false (Int32.not_le.mpr c_1); rw [sp_isOI, e1]; rfl) | (have e2 : ¬ n ≤ 43210 := fun h => c_8 (nI_le h (by decide)); rw [sp_isOI, nI_clamp hn, sp_isO, decide_eq_false e2, Bool.false_and, Bool.and_false]; rfl)
  · obtain ⟨n, hn, rfl⟩ := nI_of c_1
    refine pk_iload_n dX6_isOrder_4 rfl ?_
    refine pk_ldcw dX6_isOrder_5 kc_X6_295 ?_
    refine pk_icmp_le (tgt := 13) dX6_isOrder_8 (by decide) (fun c_8 => ?_) (fun c_8 => ?_)
    · refine pk_iconst (v := nI 0) dX6_isOrder_13 (by decide) ?_
      refine pk_istore_n dX6_isOrder_14 rfl rfl ?_
      refine pk_iload_n dX6_isOrder_15 rfl ?_
      refine pk_istore_n dX6_isOrder_16 rfl rfl ?_
      refine pk_iconst (v := nI 0) dX6_isOrder_17 (by decide) ?_
      refine pk_istore_n dX6_isOrder_18 rfl rfl ?_
      have hn2 : n ≤ 43210 := (nI_leI hn (by decide)).mp c_8
      refine pk_lsq (ls' := [some (.int (nI n)), some (.int (nI (sp_mask n 0))), some (.int (nI (n / 10 ^ 0))), some (.int (nI 0))]) (by rw [Nat.pow_zero, Nat.div_one]; rfl) ?_
      refine pk_for 5 (fun _ => M) (fun k => [some (.int (nI n)), some (.int (nI (sp_mask n k))), some (.int (nI (n / 10 ^ k))), some (.int (nI k))]) ?_ ?_ 0 (by omega)
      · intro k hk K
        have h1 : n / 10 ^ k ≤ n := Nat.div_le_self _ _
        have h2 : n / 10 ^ k % 10 < 10 := Nat.mod_lt _ (by decide)
        refine pk_iload_n dX6_isOrder_19 rfl ?_
        refine pk_iconst (v := nI 5) dX6_isOrder_20 (by decide) ?_
        first | refine pk_geN (tgt := 44) dX6_isOrder_21 (by decide) (by omega) (by omega) (fun c_21 => ?_) (fun c_21 => ?_) | refine pk_icmp_ge (tgt := 44) dX6_isOrder_21 (by decide) (fun c_21 => ?_) (fun c_21 => ?_)
        · omega
        · refine pk_iload_n dX6_isOrder_24 rfl ?_
          refine pk_iconst (v := nI 1) dX6_isOrder_25 (by decide) ?_
          refine pk_iload_n dX6_isOrder_26 rfl ?_
          refine pk_bipush (v := nI 10) dX6_isOrder_27 (by decide) ?_
          first | refine pk_remN dX6_isOrder_29 (by omega) (by omega) (by omega) ?_ | refine pk_irem dX6_isOrder_29 (by first | assumption | decide) ?_
          first | refine pk_shlNN dX6_isOrder_30 (by omega) ?_ | refine pk_ishl dX6_isOrder_30 ?_
          first | refine pk_orNN dX6_isOrder_31 ?_ | refine pk_ior dX6_isOrder_31 ?_
          refine pk_istore_n dX6_isOrder_32 rfl rfl ?_
          refine pk_iload_n dX6_isOrder_33 rfl ?_
          refine pk_bipush (v := nI 10) dX6_isOrder_34 (by decide) ?_
          first | refine pk_divN dX6_isOrder_36 (by omega) (by omega) (by omega) ?_ | refine pk_idiv dX6_isOrder_36 (by first | assumption | decide) ?_
          refine pk_istore_n dX6_isOrder_37 rfl rfl ?_
          first | refine pk_inc1 dX6_isOrder_38 rfl rfl ?_ | refine pk_iinc dX6_isOrder_38 rfl rfl rfl ?_
          refine pk_goto (tgt := 19) dX6_isOrder_41 (by decide) ?_
          refine pk_lsq ?_ K
          rw [← pk_div10]
          rfl
      · have h3 := sp_mask_lt n 5
        have e1 : sp_isOI (nI n) = (sp_mask n 5 == 31) := by
          rw [sp_isOI, nI_clamp hn, sp_isO, decide_eq_true hn2, decide_eq_true (nI_pos' hn)]
          simp
        refine pk_iload_n dX6_isOrder_19 rfl ?_
        refine pk_iconst (v := nI 5) dX6_isOrder_20 (by decide) ?_
        first | refine pk_geN (tgt := 44) dX6_isOrder_21 (by decide) (by omega) (by omega) (fun c_21 => ?_) (fun c_21 => ?_) | refine pk_icmp_ge (tgt := 44) dX6_isOrder_21 (by decide) (fun c_21 => ?_) (fun c_21 => ?_)
        · refine pk_iload_n dX6_isOrder_44 rfl ?_
          refine pk_bipush (v := nI 31) dX6_isOrder_45 (by decide) ?_
          first | refine pk_neN (tgt := 54) dX6_isOrder_47 (by decide) (by omega) (by omega) (fun c_47 => ?_) (fun c_47 => ?_) | refine pk_icmp_ne (tgt := 54) dX6_isOrder_47 (by decide) (fun c_47 => ?_) (fun c_47 => ?_)
          · refine pk_iconst (v := nI 0) dX6_isOrder_54 (by decide) ?_
            refine pk_reti dX6_isOrder_55 (by first | rfl | exact pk_nbi _) ?_
            refine ⟨?_, rfl⟩
            rw [e1]
            first | (rw [beq_eq_false_iff_ne.mpr c_47]; rfl) | (rw [c_47]; rfl)
          · refine pk_iconst (v := nI 1) dX6_isOrder_50 (by decide) ?_
            refine pk_goto (tgt := 55) dX6_isOrder_51 (by decide) ?_
            refine pk_reti dX6_isOrder_55 (by first | rfl | exact pk_nbi _) ?_
            refine ⟨?_, rfl⟩
            rw [e1]
            first | (rw [beq_eq_false_iff_ne.mpr c_47]; rfl) | (rw [c_47]; rfl)
        · omega
    · refine pk_iconst (v := nI 0) dX6_isOrder_11 (by decide) ?_
      refine pk_reti dX6_isOrder_12 (by first | rfl | exact pk_nbi _) ?_
      refine ⟨?_, rfl⟩
      first | (have e1 : decide ((0 : Int32) ≤ f) = false := decide_eq_false (Int32.not_le.mpr c_1); rw [sp_isOI, e1]; rfl) | (have e2 : ¬ n ≤ 43210 := fun h => c_8 (nI_le h (by decide)); rw [sp_isOI, nI_clamp hn, sp_isO, decide_eq_false e2, Bool.false_and, Bool.and_false]; rfl)

def sp_g (A : pk_St) (n : Nat) : Nat := sp_gaps A (n / 9) (nI (n % 3) - 1) (nI (n / 3 % 3) - 1)
/-- the best so far: 0, or its number and 1 -/
def sp_bst (g : Nat → Nat) : Nat → Nat := sp_fold (fun n b => if (if b = 0 then 0 else g (b - 1)) < g n then n + 1 else b) 0
def sp_most (g : Nat → Nat) (b : Nat) : Nat := if b = 0 then 0 else g (b - 1)
def sp_code (b : Nat) : Int32 := if b = 0 then -4 else nI (100 * ((b - 1) / 9) + 10 * ((b - 1) / 3 % 3) + (b - 1) % 3)
theorem sp_bst_succ (g : Nat → Nat) (n : Nat) : sp_bst g (n + 1) = if sp_most g (sp_bst g n) < g n then n + 1 else sp_bst g n := rfl
theorem sp_bst_le (g : Nat → Nat) (n : Nat) : sp_bst g n ≤ n := by
  induction n with
  | zero => exact Nat.le_refl _
  | succ n ih =>
    rw [sp_bst_succ]
    split <;> omega
theorem sp_dd_next (t : Nat) : nI t - 1 + Int32.ofInt 1 = nI (t + 1) - 1 := by
  rw [nI_succ]
  show nI t - 1 + 1 = nI t + 1 - 1
  simp
theorem sp_dd_le : ∀ t, t < 3 → nI t - 1 ≤ (1 : Int32) := by decide
theorem sp_cd : ∀ i, i < 5 → ∀ t, t < 3 → ∀ u, u < 3 → nI (100 * i) + nI 10 * ((nI t - 1) + nI 1) + (nI u - 1) + nI 1 = nI (100 * i + 10 * t + u) := by decide +kernel
theorem sp_code_at (i t u : Nat) (ht : t < 3) (hu : u < 3) : sp_code (9 * i + 3 * t + u + 1) = nI (100 * i + 10 * t + u) := by
  rw [sp_code, if_neg (by omega), Nat.add_sub_cancel, show (9 * i + 3 * t + u) / 9 = i by omega, show (9 * i + 3 * t + u) % 3 = u by omega, show (9 * i + 3 * t + u) / 3 % 3 = t by omega]
theorem sp_most_at (g : Nat → Nat) (n : Nat) : sp_most g (n + 1) = g n := by
  rw [sp_most, if_neg (by omega), Nat.add_sub_cancel]
theorem sp_g_le (A : pk_St) (n : Nat) : sp_g A n ≤ 48 := sp_gaps_le _ _ _ _
theorem sp_most_le (A : pk_St) (b : Nat) : sp_most (sp_g A) b ≤ 48 := by
  unfold sp_most
  split
  · omega
  · exact sp_g_le A _

set_option maxRecDepth 100000 in
set_option maxHeartbeats 4000000 in
theorem e_X6_worstAside {Γ : pk_T} {M : pk_M} {L : Nat} {A : pk_St} (hN : pk_now L M A) : pk_E Γ yX6_worstAside cX6_worstAside 7 (some .int) 5 0 0 M [.ref 5] (fun r M' => r = some (.int (sp_code (sp_bst (sp_g A) 45))) ∧ M' = M) := by
  obtain ⟨hW, hA, hok⟩ := hN
  refine pk_meth (own := RX6) (ini := false) [some (.ref 5), none, none, none, none, none, none] (by decide +kernel) rfl (by decide +kernel) rfl rfl ?_
  refine pk_bipush (v := -4) dX6_worstAside_0 (by decide) ?_
  refine pk_istore_n dX6_worstAside_2 rfl rfl ?_
  refine pk_iconst (v := nI 0) dX6_worstAside_3 (by decide) ?_
  refine pk_istore_n dX6_worstAside_4 rfl rfl ?_
  refine pk_iconst (v := nI 0) dX6_worstAside_5 (by decide) ?_
  refine pk_istore_n dX6_worstAside_6 rfl rfl ?_
  refine pk_fgt (ls' := [some (.ref 5), some (.int (sp_code (sp_bst (sp_g A) (9 * 0)))), some (.int (nI (sp_most (sp_g A) (sp_bst (sp_g A) (9 * 0))))), some (.int (nI 0)), none, none, none]) (by repeat first | exact trivial | refine ⟨rfl, ?_⟩) ?_
  refine pk_for 5 (fun _ => M) (fun i => [some (.ref 5), some (.int (sp_code (sp_bst (sp_g A) (9 * i)))), some (.int (nI (sp_most (sp_g A) (sp_bst (sp_g A) (9 * i))))), some (.int (nI i)), none, none, none]) ?_ ?_ 0 (by omega)
  · intro i hi K1
    refine pk_iload_n dX6_worstAside_7 rfl ?_
    refine pk_iconst (v := nI 5) dX6_worstAside_8 (by decide) ?_
    first | refine pk_geN (tgt := 86) dX6_worstAside_9 (by decide) (by omega) (by omega) (fun c_9 => ?_) (fun c_9 => ?_) | refine pk_icmp_ge (tgt := 86) dX6_worstAside_9 (by decide) (fun c_9 => ?_) (fun c_9 => ?_)
    · omega
    · refine pk_iconst (v := -1) dX6_worstAside_12 (by decide) ?_
      refine pk_istore dX6_worstAside_13 rfl rfl ?_
      refine pk_fgt (ls' := [some (.ref 5), some (.int (sp_code (sp_bst (sp_g A) (9 * i + 3 * 0)))), some (.int (nI (sp_most (sp_g A) (sp_bst (sp_g A) (9 * i + 3 * 0))))), some (.int (nI i)), some (.int (nI 0 - 1)), none, none]) (by repeat first | exact trivial | refine ⟨rfl, ?_⟩) ?_
      refine pk_for 3 (fun _ => M) (fun t => [some (.ref 5), some (.int (sp_code (sp_bst (sp_g A) (9 * i + 3 * t)))), some (.int (nI (sp_most (sp_g A) (sp_bst (sp_g A) (9 * i + 3 * t))))), some (.int (nI i)), some (.int (nI t - 1)), none, none]) ?_ ?_ 0 (by omega)
      · intro t ht K2
        refine pk_iload dX6_worstAside_15 rfl ?_
        refine pk_iconst (v := nI 1) dX6_worstAside_17 (by decide) ?_
        refine pk_icmp_gt (tgt := 80) dX6_worstAside_18 (by decide) (fun c_18 => ?_) (fun c_18 => ?_)
        · exact absurd c_18 (Int32.not_lt.mpr (sp_dd_le t ht))
        · refine pk_iconst (v := -1) dX6_worstAside_21 (by decide) ?_
          refine pk_istore dX6_worstAside_22 rfl rfl ?_
          refine pk_fgt (ls' := [some (.ref 5), some (.int (sp_code (sp_bst (sp_g A) (9 * i + 3 * t + 0)))), some (.int (nI (sp_most (sp_g A) (sp_bst (sp_g A) (9 * i + 3 * t + 0))))), some (.int (nI i)), some (.int (nI t - 1)), some (.int (nI 0 - 1)), none]) (by repeat first | exact trivial | refine ⟨rfl, ?_⟩) ?_
          refine pk_for 3 (fun _ => M) (fun u => [some (.ref 5), some (.int (sp_code (sp_bst (sp_g A) (9 * i + 3 * t + u)))), some (.int (nI (sp_most (sp_g A) (sp_bst (sp_g A) (9 * i + 3 * t + u))))), some (.int (nI i)), some (.int (nI t - 1)), some (.int (nI u - 1)), none]) ?_ ?_ 0 (by omega)
          · intro u hu K
            have e1 : sp_gaps A i (nI u - 1) (nI t - 1) = sp_g A (9 * i + 3 * t + u) := by
              rw [sp_g, show (9 * i + 3 * t + u) / 9 = i by omega, show (9 * i + 3 * t + u) % 3 = u by omega, show (9 * i + 3 * t + u) / 3 % 3 = t by omega]
            have h1 := sp_g_le A (9 * i + 3 * t + u)
            have h2 := sp_most_le A (sp_bst (sp_g A) (9 * i + 3 * t + u))
            have e3 : sp_bst (sp_g A) (9 * i + 3 * t + (u + 1)) = _ := sp_bst_succ (sp_g A) (9 * i + 3 * t + u)
            refine pk_iload dX6_worstAside_24 rfl ?_
            refine pk_iconst (v := nI 1) dX6_worstAside_26 (by decide) ?_
            refine pk_icmp_gt (tgt := 74) dX6_worstAside_27 (by decide) (fun c_27 => ?_) (fun c_27 => ?_)
            · exact absurd c_27 (Int32.not_lt.mpr (sp_dd_le u hu))
            · refine pk_aload_n dX6_worstAside_30 rfl ?_
              refine pk_iload_n dX6_worstAside_31 rfl ?_
              refine pk_iload dX6_worstAside_32 rfl ?_
              refine pk_iload dX6_worstAside_34 rfl ?_
              refine pk_Vi dX6_worstAside_36 ml_X6_233 yw_X6_gapsBy yv_X6_gapsBy (hW.s rfl) (e_X6_gapsBy ⟨hW, hA, hok⟩ (by omega) _ _) rfl rfl rfl rfl rfl rfl rfl ?_
              rw [e1]
              refine pk_istore dX6_worstAside_39 rfl rfl ?_
              refine pk_iload dX6_worstAside_41 rfl ?_
              refine pk_iload_n dX6_worstAside_43 rfl ?_
              first | refine pk_leN (tgt := 68) dX6_worstAside_44 (by decide) (by omega) (by omega) (fun c_44 => ?_) (fun c_44 => ?_) | refine pk_icmp_le (tgt := 68) dX6_worstAside_44 (by decide) (fun c_44 => ?_) (fun c_44 => ?_)
              · refine pk_iinc (v := nI (u + 1) - 1) dX6_worstAside_68 rfl (sp_dd_next u) rfl ?_
                refine pk_goto (tgt := 24) dX6_worstAside_71 (by decide) ?_
                refine pk_fgt (ls' := _) ?_ K
                rw [e3]
                rcases Nat.lt_or_ge (sp_most (sp_g A) (sp_bst (sp_g A) (9 * i + 3 * t + u))) (sp_g A (9 * i + 3 * t + u)) with hc | hc
                · first | (exfalso; omega) | (rw [if_pos hc]; exact ⟨rfl, congrArg (fun z => some (Value.int z)) ((sp_cd i hi t ht u hu).trans (sp_code_at i t u ht hu).symm), congrArg (fun z => some (Value.int (nI z))) (sp_most_at _ _).symm, rfl, rfl, rfl, trivial⟩)
                · first | (exfalso; omega) | (rw [if_neg (Nat.not_lt.mpr hc)]; exact ⟨rfl, rfl, rfl, rfl, rfl, rfl, trivial⟩)
              · refine pk_iload dX6_worstAside_47 rfl ?_
                refine pk_istore_n dX6_worstAside_49 rfl rfl ?_
                refine pk_bipush (v := nI 100) dX6_worstAside_50 (by decide) ?_
                refine pk_iload_n dX6_worstAside_52 rfl ?_
                first | refine pk_mulN dX6_worstAside_53 ?_ | refine pk_imul dX6_worstAside_53 ?_
                refine pk_bipush (v := nI 10) dX6_worstAside_54 (by decide) ?_
                refine pk_iload dX6_worstAside_56 rfl ?_
                refine pk_iconst (v := nI 1) dX6_worstAside_58 (by decide) ?_
                refine pk_iadd dX6_worstAside_59 ?_
                refine pk_imul dX6_worstAside_60 ?_
                refine pk_iadd dX6_worstAside_61 ?_
                refine pk_iload dX6_worstAside_62 rfl ?_
                refine pk_iadd dX6_worstAside_64 ?_
                refine pk_iconst (v := nI 1) dX6_worstAside_65 (by decide) ?_
                refine pk_iadd dX6_worstAside_66 ?_
                refine pk_istore_n dX6_worstAside_67 rfl rfl ?_
                refine pk_iinc (v := nI (u + 1) - 1) dX6_worstAside_68 rfl (sp_dd_next u) rfl ?_
                refine pk_goto (tgt := 24) dX6_worstAside_71 (by decide) ?_
                refine pk_fgt (ls' := _) ?_ K
                rw [e3]
                rcases Nat.lt_or_ge (sp_most (sp_g A) (sp_bst (sp_g A) (9 * i + 3 * t + u))) (sp_g A (9 * i + 3 * t + u)) with hc | hc
                · first | (exfalso; omega) | (rw [if_pos hc]; exact ⟨rfl, congrArg (fun z => some (Value.int z)) ((sp_cd i hi t ht u hu).trans (sp_code_at i t u ht hu).symm), congrArg (fun z => some (Value.int (nI z))) (sp_most_at _ _).symm, rfl, rfl, rfl, trivial⟩)
                · first | (exfalso; omega) | (rw [if_neg (Nat.not_lt.mpr hc)]; exact ⟨rfl, rfl, rfl, rfl, rfl, rfl, trivial⟩)
          · rw [show 9 * i + 3 * (t + 1) = 9 * i + 3 * t + 3 by omega] at K2
            refine pk_iload dX6_worstAside_24 rfl ?_
            refine pk_iconst (v := nI 1) dX6_worstAside_26 (by decide) ?_
            refine pk_icmp_gt (tgt := 74) dX6_worstAside_27 (by decide) (fun c_27 => ?_) (fun c_27 => ?_)
            · refine pk_iinc (v := nI (t + 1) - 1) dX6_worstAside_74 rfl (sp_dd_next t) rfl ?_
              refine pk_goto (tgt := 15) dX6_worstAside_77 (by decide) ?_
              exact pk_fgt (by repeat first | exact trivial | refine ⟨rfl, ?_⟩) K2
            · exact absurd (by decide) c_27
      · rw [show 9 * (i + 1) = 9 * i + 3 * 3 by omega] at K1
        refine pk_iload dX6_worstAside_15 rfl ?_
        refine pk_iconst (v := nI 1) dX6_worstAside_17 (by decide) ?_
        refine pk_icmp_gt (tgt := 80) dX6_worstAside_18 (by decide) (fun c_18 => ?_) (fun c_18 => ?_)
        · first | refine pk_inc1 dX6_worstAside_80 rfl rfl ?_ | refine pk_iinc dX6_worstAside_80 rfl rfl rfl ?_
          refine pk_goto (tgt := 7) dX6_worstAside_83 (by decide) ?_
          exact pk_fgt (by repeat first | exact trivial | refine ⟨rfl, ?_⟩) K1
        · exact absurd (by decide) c_18
  · refine pk_iload_n dX6_worstAside_7 rfl ?_
    refine pk_iconst (v := nI 5) dX6_worstAside_8 (by decide) ?_
    first | refine pk_geN (tgt := 86) dX6_worstAside_9 (by decide) (by omega) (by omega) (fun c_9 => ?_) (fun c_9 => ?_) | refine pk_icmp_ge (tgt := 86) dX6_worstAside_9 (by decide) (fun c_9 => ?_) (fun c_9 => ?_)
    · refine pk_iload_n dX6_worstAside_86 rfl ?_
      refine pk_reti dX6_worstAside_87 (by first | rfl | exact pk_nbi _) ?_
      exact ⟨rfl, rfl⟩
    · omega

theorem sp_code_neg (b : Nat) (hb : b ≤ 45) : (¬ (0 : Int32) ≤ sp_code b) ↔ b = 0 := by
  unfold sp_code
  by_cases h : b = 0
  · rw [if_pos h]
    exact ⟨fun _ => h, fun _ => by decide⟩
  · rw [if_neg h]
    exact ⟨fun z => absurd (nI_pos' (by omega)) z, fun z => absurd z h⟩

set_option maxRecDepth 100000 in
set_option maxHeartbeats 4000000 in
theorem e_X6_worstGaps {Γ : pk_T} {M : pk_M} {L : Nat} {A : pk_St} (hN : pk_now L M A) : pk_E Γ yX6_worstGaps cX6_worstGaps 2 (some .int) 6 0 0 M [.ref 5] (fun r M' => r = some (.int (nI (sp_most (sp_g A) (sp_bst (sp_g A) 45)))) ∧ M' = M) := by
  obtain ⟨hW, hA, hok⟩ := hN
  refine pk_meth (own := RX6) (ini := false) [some (.ref 5), none] (by decide +kernel) rfl (by decide +kernel) rfl rfl ?_
  have hb := sp_bst_le (sp_g A) 45
  have hcall := e_X6_worstAside (Γ := Γ) (M := M) ⟨hW, hA, hok⟩
  generalize sp_bst (sp_g A) 45 = b at hb hcall ⊢
  refine pk_aload_n dX6_worstGaps_0 rfl ?_
  refine pk_Vi dX6_worstGaps_1 ml_X6_178 yw_X6_worstAside yv_X6_worstAside (hW.s rfl) hcall rfl rfl rfl rfl rfl rfl rfl ?_
  refine pk_istore_n dX6_worstGaps_4 rfl rfl ?_
  refine pk_iload_n dX6_worstGaps_5 rfl ?_
  refine pk_if_ge (tgt := 11) dX6_worstGaps_6 (by decide) (fun c_6 => ?_) (fun c_6 => ?_)
  · have hb0 : b ≠ 0 := fun h => absurd c_6 ((sp_code_neg b hb).mpr h)
    obtain ⟨n, rfl⟩ : ∃ n, b = n + 1 := ⟨b - 1, by omega⟩
    have ec : sp_code (n + 1) = nI (100 * (n / 9) + 10 * (n / 3 % 3) + n % 3) := by rw [sp_code, if_neg (by omega), Nat.add_sub_cancel]
    rw [ec]
    refine pk_aload_n dX6_worstGaps_11 rfl ?_
    refine pk_iload_n dX6_worstGaps_12 rfl ?_
    refine pk_bipush (v := nI 100) dX6_worstGaps_13 (by decide) ?_
    first | refine pk_divN dX6_worstGaps_15 (by omega) (by omega) (by omega) ?_ | refine pk_idiv dX6_worstGaps_15 (by first | assumption | decide) ?_
    refine pk_iload_n dX6_worstGaps_16 rfl ?_
    refine pk_bipush (v := nI 10) dX6_worstGaps_17 (by decide) ?_
    first | refine pk_remN dX6_worstGaps_19 (by omega) (by omega) (by omega) ?_ | refine pk_irem dX6_worstGaps_19 (by first | assumption | decide) ?_
    refine pk_iconst (v := nI 1) dX6_worstGaps_20 (by decide) ?_
    refine pk_isub dX6_worstGaps_21 ?_
    refine pk_iload_n dX6_worstGaps_22 rfl ?_
    refine pk_bipush (v := nI 10) dX6_worstGaps_23 (by decide) ?_
    first | refine pk_divN dX6_worstGaps_25 (by omega) (by omega) (by omega) ?_ | refine pk_idiv dX6_worstGaps_25 (by first | assumption | decide) ?_
    refine pk_bipush (v := nI 10) dX6_worstGaps_26 (by decide) ?_
    first | refine pk_remN dX6_worstGaps_28 (by omega) (by omega) (by omega) ?_ | refine pk_irem dX6_worstGaps_28 (by first | assumption | decide) ?_
    refine pk_iconst (v := nI 1) dX6_worstGaps_29 (by decide) ?_
    refine pk_isub dX6_worstGaps_30 ?_
    rw [show (100 * (n / 9) + 10 * (n / 3 % 3) + n % 3) / 100 = n / 9 by omega, show (100 * (n / 9) + 10 * (n / 3 % 3) + n % 3) % 10 = n % 3 by omega, show (100 * (n / 9) + 10 * (n / 3 % 3) + n % 3) / 10 % 10 = n / 3 % 3 by omega]
    refine pk_Vi dX6_worstGaps_31 ml_X6_233 yw_X6_gapsBy yv_X6_gapsBy (hW.s rfl) (e_X6_gapsBy ⟨hW, hA, hok⟩ (by omega) _ _) rfl rfl rfl rfl rfl rfl rfl ?_
    refine pk_reti dX6_worstGaps_34 (by first | rfl | exact pk_nbi _) ?_
    refine ⟨?_, rfl⟩
    rw [sp_most, if_neg (by omega), Nat.add_sub_cancel]
    rfl
  · refine pk_iconst (v := nI 0) dX6_worstGaps_9 (by decide) ?_
    refine pk_reti dX6_worstGaps_10 (by first | rfl | exact pk_nbi _) ?_
    refine ⟨?_, rfl⟩
    rw [(sp_code_neg b hb).mp c_6]
    rfl
