/-! Tape: lines, sets. -/
def sp_il (v : Nat) : Bool := decide (97 ≤ v) && decide (v ≤ 101)

set_option maxRecDepth 100000 in
set_option maxHeartbeats 4000000 in
theorem e_X5_isInkLetter {Γ : pk_T} {M : pk_M} {v : Nat} (hv : v ≤ 126) : pk_E Γ yX5_isInkLetter cX5_isInkLetter 1 (some .boolean) 0 0 0 M [.int (nI v)] (fun r M' => r = some (.int (pk_bi (sp_il v))) ∧ M' = M) := by
  refine pk_meth (own := RX5) (ini := false) [some (.int (nI v))] (by decide +kernel) rfl (by decide +kernel) rfl rfl ?_
  refine pk_iload_n dX5_isInkLetter_0 rfl ?_
  refine pk_bipush (v := nI 97) dX5_isInkLetter_1 (by decide) ?_
  first | refine pk_ltN (tgt := 16) dX5_isInkLetter_3 (by decide) (by omega) (by omega) (fun c_3 => ?_) (fun c_3 => ?_) | refine pk_icmp_lt (tgt := 16) dX5_isInkLetter_3 (by decide) (fun c_3 => ?_) (fun c_3 => ?_)
  · refine pk_iconst (v := nI 0) dX5_isInkLetter_16 (by decide) ?_
    refine pk_reti dX5_isInkLetter_17 (by first | rfl | exact pk_nbi _) ?_
    refine ⟨?_, rfl⟩
    unfold sp_il
    by_cases h1 : 97 ≤ v <;> by_cases h2 : v ≤ 101 <;> simp only [h1, h2, decide_true, decide_false, Bool.and_true, Bool.and_false, Bool.true_and, Bool.false_and] <;> first | rfl | omega
  · refine pk_iload_n dX5_isInkLetter_6 rfl ?_
    refine pk_bipush (v := nI 101) dX5_isInkLetter_7 (by decide) ?_
    first | refine pk_gtN (tgt := 16) dX5_isInkLetter_9 (by decide) (by omega) (by omega) (fun c_9 => ?_) (fun c_9 => ?_) | refine pk_icmp_gt (tgt := 16) dX5_isInkLetter_9 (by decide) (fun c_9 => ?_) (fun c_9 => ?_)
    · refine pk_iconst (v := nI 0) dX5_isInkLetter_16 (by decide) ?_
      refine pk_reti dX5_isInkLetter_17 (by first | rfl | exact pk_nbi _) ?_
      refine ⟨?_, rfl⟩
      unfold sp_il
      by_cases h1 : 97 ≤ v <;> by_cases h2 : v ≤ 101 <;> simp only [h1, h2, decide_true, decide_false, Bool.and_true, Bool.and_false, Bool.true_and, Bool.false_and] <;> first | rfl | omega
    · refine pk_iconst (v := nI 1) dX5_isInkLetter_12 (by decide) ?_
      refine pk_goto (tgt := 17) dX5_isInkLetter_13 (by decide) ?_
      refine pk_reti dX5_isInkLetter_17 (by first | rfl | exact pk_nbi _) ?_
      refine ⟨?_, rfl⟩
      unfold sp_il
      by_cases h1 : 97 ≤ v <;> by_cases h2 : v ≤ 101 <;> simp only [h1, h2, decide_true, decide_false, Bool.and_true, Bool.and_false, Bool.true_and, Bool.false_and] <;> first | rfl | omega

def sp_el (w l k : Nat) : Bool := !(k == 0) && (l == 0 || k == w)

set_option maxRecDepth 100000 in
set_option maxHeartbeats 4000000 in
theorem e_X5_endLine {Γ : pk_T} {M : pk_M} {L w l k : Nat} (hW : pk_WF L M) (hw : pk_I M 88 4 = nI w) (hl : pk_I M 88 5 = nI l) (hk : pk_I M 88 6 = nI k) (hw2 : w < 2 ^ 31) (hl2 : l < 2 ^ 31) (hk2 : k < 2 ^ 31) : pk_E Γ yX5_endLine cX5_endLine 1 (some .boolean) 1 0 0 M [.ref 88] (fun r M' => r = some (.int (pk_bi (sp_el w l k))) ∧ M' = if sp_el w l k = true then pk_sI (pk_sI (pk_sI M 88 4 (nI k)) 88 6 (nI 0)) 88 5 (nI (l + 1)) else M) := by
  refine pk_meth (own := RX5) (ini := false) [some (.ref 88)] (by decide +kernel) rfl (by decide +kernel) rfl rfl ?_
  refine pk_aload_n dX5_endLine_0 rfl ?_
  refine pk_getN dX5_endLine_1 fl_X5_31 rfl (hW.s rfl) hk ?_
  first | refine pk_eqb (tgt := 25) dX5_endLine_4 (by decide) (fun c_4 => ?_) (fun c_4 => ?_) | refine pk_eq0N (tgt := 25) dX5_endLine_4 (by decide) (by omega) (fun c_4 => ?_) (fun c_4 => ?_) | refine pk_if_eq (tgt := 25) dX5_endLine_4 (by decide) (fun c_4 => ?_) (fun c_4 => ?_)
  · refine pk_iconst (v := nI 0) dX5_endLine_25 (by decide) ?_
    refine pk_reti dX5_endLine_26 (by first | rfl | exact pk_nbi _) ?_
    have he : sp_el w l k = false := by
      unfold sp_el
      by_cases h0 : k = 0
      · simp [h0]
      · have hl0 : ¬ l = 0 := fun h => by first | exact absurd c_4 h0 | exact c_11 (by rw [h]; decide)
        first | exact absurd c_4 h0 | (simp [h0, hl0, c_22]; done)
    rw [he]
    exact ⟨rfl, rfl⟩
  · refine pk_aload_n dX5_endLine_7 rfl ?_
    refine pk_getN dX5_endLine_8 fl_X5_28 rfl (hW.s rfl) hl ?_
    refine pk_if_le (tgt := 27) dX5_endLine_11 (by decide) (fun c_11 => ?_) (fun c_11 => ?_)
    · refine pk_aload_n dX5_endLine_27 rfl ?_
      refine pk_aload_n dX5_endLine_28 rfl ?_
      refine pk_getN dX5_endLine_29 fl_X5_31 rfl (hW.s rfl) hk ?_
      refine pk_putI dX5_endLine_32 fl_X5_25 rfl rfl rfl rfl (hW.s rfl) ?_
      refine pk_aload_n dX5_endLine_35 rfl ?_
      refine pk_iconst (v := nI 0) dX5_endLine_36 (by decide) ?_
      refine pk_putI dX5_endLine_37 fl_X5_31 rfl rfl rfl rfl (hW.s rfl) ?_
      refine pk_aload_n dX5_endLine_40 rfl ?_
      refine pk_dup dX5_endLine_41 rfl ?_
      refine pk_getN dX5_endLine_42 fl_X5_28 rfl (hW.s rfl) (pk_gS0 (by omega) (pk_gS0 (by omega) hl)) ?_
      refine pk_iconst (v := nI 1) dX5_endLine_45 (by decide) ?_
      first | refine pk_addN dX5_endLine_46 ?_ | refine pk_iadd dX5_endLine_46 ?_
      refine pk_putI dX5_endLine_47 fl_X5_28 rfl rfl rfl rfl (hW.s rfl) ?_
      refine pk_iconst (v := nI 1) dX5_endLine_50 (by decide) ?_
      refine pk_reti dX5_endLine_51 (by first | rfl | exact pk_nbi _) ?_
      have he : sp_el w l k = true := by
        unfold sp_el
        by_cases hl0 : l = 0
        · simp [c_4, hl0]
        · first
            | (rw [beq_iff_eq.mpr c_22, Bool.or_true, Bool.and_true]; simp [c_4]; done)
            | exact absurd ((nI_leI hl2 (by decide)).mp (show nI l ≤ nI 0 from c_11)) (fun h => hl0 (by omega))
      rw [he]
      exact ⟨rfl, rfl⟩
    · refine pk_aload_n dX5_endLine_14 rfl ?_
      refine pk_getN dX5_endLine_15 fl_X5_31 rfl (hW.s rfl) hk ?_
      refine pk_aload_n dX5_endLine_18 rfl ?_
      refine pk_getN dX5_endLine_19 fl_X5_25 rfl (hW.s rfl) hw ?_
      first | refine pk_eqN (tgt := 27) dX5_endLine_22 (by decide) (by omega) (by omega) (fun c_22 => ?_) (fun c_22 => ?_) | refine pk_icmp_eq (tgt := 27) dX5_endLine_22 (by decide) (fun c_22 => ?_) (fun c_22 => ?_)
      · refine pk_aload_n dX5_endLine_27 rfl ?_
        refine pk_aload_n dX5_endLine_28 rfl ?_
        refine pk_getN dX5_endLine_29 fl_X5_31 rfl (hW.s rfl) hk ?_
        refine pk_putI dX5_endLine_32 fl_X5_25 rfl rfl rfl rfl (hW.s rfl) ?_
        refine pk_aload_n dX5_endLine_35 rfl ?_
        refine pk_iconst (v := nI 0) dX5_endLine_36 (by decide) ?_
        refine pk_putI dX5_endLine_37 fl_X5_31 rfl rfl rfl rfl (hW.s rfl) ?_
        refine pk_aload_n dX5_endLine_40 rfl ?_
        refine pk_dup dX5_endLine_41 rfl ?_
        refine pk_getN dX5_endLine_42 fl_X5_28 rfl (hW.s rfl) (pk_gS0 (by omega) (pk_gS0 (by omega) hl)) ?_
        refine pk_iconst (v := nI 1) dX5_endLine_45 (by decide) ?_
        first | refine pk_addN dX5_endLine_46 ?_ | refine pk_iadd dX5_endLine_46 ?_
        refine pk_putI dX5_endLine_47 fl_X5_28 rfl rfl rfl rfl (hW.s rfl) ?_
        refine pk_iconst (v := nI 1) dX5_endLine_50 (by decide) ?_
        refine pk_reti dX5_endLine_51 (by first | rfl | exact pk_nbi _) ?_
        have he : sp_el w l k = true := by
          unfold sp_el
          by_cases hl0 : l = 0
          · simp [c_4, hl0]
          · first
              | (rw [beq_iff_eq.mpr c_22, Bool.or_true, Bool.and_true]; simp [c_4]; done)
              | exact absurd ((nI_leI hl2 (by decide)).mp (show nI l ≤ nI 0 from c_11)) (fun h => hl0 (by omega))
        rw [he]
        exact ⟨rfl, rfl⟩
      · refine pk_iconst (v := nI 0) dX5_endLine_25 (by decide) ?_
        refine pk_reti dX5_endLine_26 (by first | rfl | exact pk_nbi _) ?_
        have he : sp_el w l k = false := by
          unfold sp_el
          by_cases h0 : k = 0
          · simp [h0]
          · have hl0 : ¬ l = 0 := fun h => by first | exact absurd c_4 h0 | exact c_11 (by rw [h]; decide)
            first | exact absurd c_4 h0 | (simp [h0, hl0, c_22]; done)
        rw [he]
        exact ⟨rfl, rfl⟩
