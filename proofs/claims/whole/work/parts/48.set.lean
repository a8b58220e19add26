/-! Tape: a set. -/
def sp_rs (f : Nat → Nat) (n c x : Nat) : Option Nat × Nat := if c = 40 then sp_mi f n 101 0 (x + 1) else if c = 46 then (some 0, x + 1) else if sp_il c = true then (some (2 ^ (c - 97)), x + 1) else (none, x)

set_option maxRecDepth 100000 in
set_option maxHeartbeats 4000000 in
theorem e_X5_readSet {Γ : pk_T} {M : pk_M} {L n x : Nat} {f : Nat → Nat} (hW : pk_WF L M) (hn : pk_I M 88 2 = nI n) (hn2 : n ≤ 100) (hf : ∀ i, i < n → pk_I M 89 i = nI (f i)) (hf2 : ∀ i, i < n → f i ≤ 126) (hx : pk_I M 88 3 = nI x) (hx2 : x ≤ n) {c : Nat} (hc : c ≤ 126) (hcx : c ≠ 0 → x < n) : pk_E Γ yX5_readSet cX5_readSet 2 (some .int) 3 0 0 M [.ref 88, .int (nI c)] (fun r M' => r = some (.int (sp_on (sp_rs f n c x).1)) ∧ M' = pk_sI M 88 3 (nI (sp_rs f n c x).2)) := by
  refine pk_meth (own := RX5) (ini := false) [some (.ref 88), some (.int (nI c))] (by decide +kernel) rfl (by decide +kernel) rfl rfl ?_
  refine pk_iload_n dX5_readSet_0 rfl ?_
  refine pk_bipush (v := nI 40) dX5_readSet_1 (by decide) ?_
  first | refine pk_neN (tgt := 21) dX5_readSet_3 (by decide) (by omega) (by omega) (fun c_3 => ?_) (fun c_3 => ?_) | refine pk_icmp_ne (tgt := 21) dX5_readSet_3 (by decide) (fun c_3 => ?_) (fun c_3 => ?_)
  · refine pk_iload_n dX5_readSet_21 rfl ?_
    refine pk_bipush (v := nI 46) dX5_readSet_22 (by decide) ?_
    first | refine pk_eqN (tgt := 36) dX5_readSet_24 (by decide) (by omega) (by omega) (fun c_24 => ?_) (fun c_24 => ?_) | refine pk_icmp_eq (tgt := 36) dX5_readSet_24 (by decide) (fun c_24 => ?_) (fun c_24 => ?_)
    · refine pk_aload_n dX5_readSet_36 rfl ?_
      refine pk_dup dX5_readSet_37 rfl ?_
      refine pk_getN dX5_readSet_38 fl_X5_22 rfl (hW.s rfl) hx ?_
      refine pk_iconst (v := nI 1) dX5_readSet_41 (by decide) ?_
      first | refine pk_addN dX5_readSet_42 ?_ | refine pk_iadd dX5_readSet_42 ?_
      refine pk_putI dX5_readSet_43 fl_X5_22 rfl rfl rfl rfl (hW.s rfl) ?_
      refine pk_iload_n dX5_readSet_46 rfl ?_
      refine pk_bipush (v := nI 46) dX5_readSet_47 (by decide) ?_
      first | refine pk_neN (tgt := 56) dX5_readSet_49 (by decide) (by omega) (by omega) (fun c_49 => ?_) (fun c_49 => ?_) | refine pk_icmp_ne (tgt := 56) dX5_readSet_49 (by decide) (fun c_49 => ?_) (fun c_49 => ?_)
      · have hil : sp_il c = true := by first | exact c_31 | exact absurd c_24 c_49
        have hil2 := hil
        unfold sp_il at hil2
        rw [Bool.and_eq_true, decide_eq_true_eq, decide_eq_true_eq] at hil2
        refine pk_iconst (v := nI 1) dX5_readSet_56 (by decide) ?_
        refine pk_iload_n dX5_readSet_57 rfl ?_
        refine pk_bipush (v := nI 97) dX5_readSet_58 (by decide) ?_
        first | refine pk_subN dX5_readSet_60 (by omega) ?_ | refine pk_isub dX5_readSet_60 ?_
        first | refine pk_shlNN dX5_readSet_61 (by omega) ?_ | refine pk_ishl dX5_readSet_61 ?_
        refine pk_reti dX5_readSet_62 (by first | rfl | exact pk_nbi _) ?_
        first
          | (rw [sp_rs, if_neg c_3, if_pos c_49]; exact ⟨rfl, rfl⟩)
          | (rw [sp_rs, if_neg c_3, if_neg c_49, if_pos hil]; exact ⟨rfl, rfl⟩)
      · refine pk_iconst (v := nI 0) dX5_readSet_52 (by decide) ?_
        refine pk_goto (tgt := 62) dX5_readSet_53 (by decide) ?_
        refine pk_reti dX5_readSet_62 (by first | rfl | exact pk_nbi _) ?_
        first
          | (rw [sp_rs, if_neg c_3, if_pos c_49]; exact ⟨rfl, rfl⟩)
          | (rw [sp_rs, if_neg c_3, if_neg c_49, if_pos hil]; exact ⟨rfl, rfl⟩)
    · refine pk_iload_n dX5_readSet_27 rfl ?_
      refine pk_Si dX5_readSet_28 ml_X5_70 yw_X5_isInkLetter ys_X5_isInkLetter (e_X5_isInkLetter hc) rfl rfl rfl rfl rfl rfl rfl ?_
      first | refine pk_neb (tgt := 36) dX5_readSet_31 (by decide) (fun c_31 => ?_) (fun c_31 => ?_) | refine pk_ne0N (tgt := 36) dX5_readSet_31 (by decide) (by omega) (fun c_31 => ?_) (fun c_31 => ?_) | refine pk_if_ne (tgt := 36) dX5_readSet_31 (by decide) (fun c_31 => ?_) (fun c_31 => ?_)
      · refine pk_aload_n dX5_readSet_36 rfl ?_
        refine pk_dup dX5_readSet_37 rfl ?_
        refine pk_getN dX5_readSet_38 fl_X5_22 rfl (hW.s rfl) hx ?_
        refine pk_iconst (v := nI 1) dX5_readSet_41 (by decide) ?_
        first | refine pk_addN dX5_readSet_42 ?_ | refine pk_iadd dX5_readSet_42 ?_
        refine pk_putI dX5_readSet_43 fl_X5_22 rfl rfl rfl rfl (hW.s rfl) ?_
        refine pk_iload_n dX5_readSet_46 rfl ?_
        refine pk_bipush (v := nI 46) dX5_readSet_47 (by decide) ?_
        first | refine pk_neN (tgt := 56) dX5_readSet_49 (by decide) (by omega) (by omega) (fun c_49 => ?_) (fun c_49 => ?_) | refine pk_icmp_ne (tgt := 56) dX5_readSet_49 (by decide) (fun c_49 => ?_) (fun c_49 => ?_)
        · have hil : sp_il c = true := by first | exact c_31 | exact absurd c_24 c_49
          have hil2 := hil
          unfold sp_il at hil2
          rw [Bool.and_eq_true, decide_eq_true_eq, decide_eq_true_eq] at hil2
          refine pk_iconst (v := nI 1) dX5_readSet_56 (by decide) ?_
          refine pk_iload_n dX5_readSet_57 rfl ?_
          refine pk_bipush (v := nI 97) dX5_readSet_58 (by decide) ?_
          first | refine pk_subN dX5_readSet_60 (by omega) ?_ | refine pk_isub dX5_readSet_60 ?_
          first | refine pk_shlNN dX5_readSet_61 (by omega) ?_ | refine pk_ishl dX5_readSet_61 ?_
          refine pk_reti dX5_readSet_62 (by first | rfl | exact pk_nbi _) ?_
          first
            | (rw [sp_rs, if_neg c_3, if_pos c_49]; exact ⟨rfl, rfl⟩)
            | (rw [sp_rs, if_neg c_3, if_neg c_49, if_pos hil]; exact ⟨rfl, rfl⟩)
        · refine pk_iconst (v := nI 0) dX5_readSet_52 (by decide) ?_
          refine pk_goto (tgt := 62) dX5_readSet_53 (by decide) ?_
          refine pk_reti dX5_readSet_62 (by first | rfl | exact pk_nbi _) ?_
          first
            | (rw [sp_rs, if_neg c_3, if_pos c_49]; exact ⟨rfl, rfl⟩)
            | (rw [sp_rs, if_neg c_3, if_neg c_49, if_pos hil]; exact ⟨rfl, rfl⟩)
      · refine pk_iconst (v := -1) dX5_readSet_34 (by decide) ?_
        refine pk_reti dX5_readSet_35 (by first | rfl | exact pk_nbi _) ?_
        rw [sp_rs, if_neg c_3, if_neg c_24, if_neg (by rw [c_31]; decide)]
        exact ⟨rfl, (pk_sI_id hx).symm⟩
  · refine pk_aload_n dX5_readSet_6 rfl ?_
    refine pk_dup dX5_readSet_7 rfl ?_
    refine pk_getN dX5_readSet_8 fl_X5_22 rfl (hW.s rfl) hx ?_
    refine pk_iconst (v := nI 1) dX5_readSet_11 (by decide) ?_
    first | refine pk_addN dX5_readSet_12 ?_ | refine pk_iadd dX5_readSet_12 ?_
    refine pk_putI dX5_readSet_13 fl_X5_22 rfl rfl rfl rfl (hW.s rfl) ?_
    refine pk_aload_n dX5_readSet_16 rfl ?_
    refine pk_Vg dX5_readSet_17 ml_X5_67 yw_X5_readManyInks yv_X5_readManyInks (hW.s rfl) (e_X5_readManyInks (M := (pk_sI M 88 3 (nI (x + 1)))) (x := x + 1) hW (pk_gS0 (by omega) hn) hn2 (fun i hi => pk_gS0 (by omega) (hf i hi)) hf2 (pk_gS1 rfl rfl rfl) (hcx (by omega))) rfl rfl rfl rfl rfl rfl rfl (fun v M1 hv => ?_)
    obtain ⟨hv1, hv2⟩ := hv
    rw [pk_sI_sI] at hv2
    cases hv1
    subst hv2
    refine pk_reti dX5_readSet_20 (by first | rfl | exact pk_nbi _) ?_
    rw [sp_rs, if_pos c_3]
    exact ⟨rfl, rfl⟩
