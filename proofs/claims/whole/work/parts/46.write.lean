/-! Tape: beginning, writing. -/
set_option maxRecDepth 100000 in
set_option maxHeartbeats 4000000 in
theorem e_X5_begin {Γ : pk_T} {M : pk_M} {L : Nat} (hW : pk_WF L M) : pk_E Γ yX5_begin cX5_begin 2 none 0 0 0 M [.ref 88] (fun r M' => r = none ∧ M' = (pk_wI (pk_sI (pk_sI (pk_sI (pk_sI M 88 3 (nI 0)) 88 4 (nI 0)) 88 5 (nI 0)) 88 6 (nI 0)) 90 (fun q => if q < 48 then 0 else pk_I M 90 q))) := by
  refine pk_meth (own := RX5) (ini := false) [some (.ref 88), none] (by decide +kernel) rfl (by decide +kernel) rfl rfl ?_
  refine pk_aload_n dX5_begin_0 rfl ?_
  refine pk_iconst (v := nI 0) dX5_begin_1 (by decide) ?_
  refine pk_putI dX5_begin_2 fl_X5_22 rfl rfl rfl rfl (hW.s rfl) ?_
  refine pk_aload_n dX5_begin_5 rfl ?_
  refine pk_iconst (v := nI 0) dX5_begin_6 (by decide) ?_
  refine pk_putI dX5_begin_7 fl_X5_25 rfl rfl rfl rfl (hW.s rfl) ?_
  refine pk_aload_n dX5_begin_10 rfl ?_
  refine pk_iconst (v := nI 0) dX5_begin_11 (by decide) ?_
  refine pk_putI dX5_begin_12 fl_X5_28 rfl rfl rfl rfl (hW.s rfl) ?_
  refine pk_aload_n dX5_begin_15 rfl ?_
  refine pk_iconst (v := nI 0) dX5_begin_16 (by decide) ?_
  refine pk_putI dX5_begin_17 fl_X5_31 rfl rfl rfl rfl (hW.s rfl) ?_
  refine pk_iconst (v := nI 0) dX5_begin_20 (by decide) ?_
  refine pk_istore_n dX5_begin_21 rfl rfl ?_
  refine pk_Mq (M' := (pk_wI (pk_sI (pk_sI (pk_sI (pk_sI M 88 3 (nI 0)) 88 4 (nI 0)) 88 5 (nI 0)) 88 6 (nI 0)) 90 (fun q => if q < 0 then 0 else pk_I M 90 q))) ?_ ?_
  · refine Eq.trans (pk_wI_id (pk_sI (pk_sI (pk_sI (pk_sI M 88 3 (nI 0)) 88 4 (nI 0)) 88 5 (nI 0)) 88 6 (nI 0)) 90).symm ?_
    congr 1
  refine pk_for 48 (fun k => (pk_wI (pk_sI (pk_sI (pk_sI (pk_sI M 88 3 (nI 0)) 88 4 (nI 0)) 88 5 (nI 0)) 88 6 (nI 0)) 90 (fun q => if q < k then 0 else pk_I M 90 q))) (fun k => [some (.ref 88), some (.int (nI k))]) ?_ ?_ 0 (by omega)
  · intro k hk K
    refine pk_iload_n dX5_begin_22 rfl ?_
    refine pk_bipush (v := nI 48) dX5_begin_23 (by decide) ?_
    first | refine pk_geN (tgt := 41) dX5_begin_25 (by decide) (by omega) (by omega) (fun c_25 => ?_) (fun c_25 => ?_) | refine pk_icmp_ge (tgt := 41) dX5_begin_25 (by decide) (fun c_25 => ?_) (fun c_25 => ?_)
    · omega
    · refine pk_aload_n dX5_begin_28 rfl ?_
      refine pk_getP dX5_begin_29 fl_X5_15 rfl (hW.s rfl) (hW.p rfl) ?_
      refine pk_iload_n dX5_begin_32 rfl ?_
      refine pk_iconst (v := nI 0) dX5_begin_33 (by decide) ?_
      refine pk_astN dX5_begin_34 (hW.s rfl) (by omega) (by omega) (by omega) ?_
      rw [pk_wI_sI]
      first | refine pk_inc1 dX5_begin_35 rfl rfl ?_ | refine pk_iinc dX5_begin_35 rfl rfl rfl ?_
      refine pk_goto (tgt := 22) dX5_begin_38 (by decide) ?_
      refine pk_Mq ?_ K
      congr 1
      funext q
      by_cases e : q = k
      · rw [if_pos e, if_pos (by omega)]
        rfl
      · rw [if_neg e]
        by_cases e2 : q < k
        · rw [if_pos e2, if_pos (by omega)]
        · rw [if_neg e2, if_neg (by omega)]
  · refine pk_iload_n dX5_begin_22 rfl ?_
    refine pk_bipush (v := nI 48) dX5_begin_23 (by decide) ?_
    first | refine pk_geN (tgt := 41) dX5_begin_25 (by decide) (by omega) (by omega) (fun c_25 => ?_) (fun c_25 => ?_) | refine pk_icmp_ge (tgt := 41) dX5_begin_25 (by decide) (fun c_25 => ?_) (fun c_25 => ?_)
    · refine pk_retv dX5_begin_41 ?_
      exact ⟨rfl, rfl⟩
    · omega

set_option maxRecDepth 100000 in
set_option maxHeartbeats 4000000 in
theorem e_X5_writeNext {Γ : pk_T} {M : pk_M} {L l k : Nat} (hW : pk_WF L M) (hl : pk_I M 88 5 = nI l) (hk : pk_I M 88 6 = nI k) (h48 : l * 8 + k < 48) (v : Int32) : pk_E Γ yX5_writeNext cX5_writeNext 3 none 1 0 0 M [.ref 88, .int v] (fun r M' => r = none ∧ M' = pk_sI (pk_sI M 90 (l * 8 + k) v) 88 6 (nI (k + 1))) := by
  refine pk_meth (own := RX5) (ini := false) [some (.ref 88), some (.int v), none] (by decide +kernel) rfl (by decide +kernel) rfl rfl ?_
  refine pk_aload_n dX5_writeNext_0 rfl ?_
  refine pk_getN dX5_writeNext_1 fl_X5_31 rfl (hW.s rfl) hk ?_
  refine pk_aload_n dX5_writeNext_4 rfl ?_
  refine pk_getN dX5_writeNext_5 fl_X5_28 rfl (hW.s rfl) hl ?_
  refine pk_Si dX5_writeNext_8 ml_X5_61 yw_X4_indexOf ys_X4_indexOf (e_X4_indexOf _ _) rfl rfl rfl rfl rfl rfl rfl ?_
  refine pk_istore_n dX5_writeNext_11 rfl rfl ?_
  refine pk_iload_n dX5_writeNext_12 rfl ?_
  refine pk_bipush (v := nI 48) dX5_writeNext_13 (by decide) ?_
  refine pk_Si dX5_writeNext_15 ml_X5_34 yw_X6_isBelow ys_X6_isBelow (e_X6_isBelow _ _) rfl rfl rfl rfl rfl rfl rfl ?_
  first | refine pk_eqb (tgt := 28) dX5_writeNext_18 (by decide) (fun c_18 => ?_) (fun c_18 => ?_) | refine pk_eq0N (tgt := 28) dX5_writeNext_18 (by decide) (by omega) (fun c_18 => ?_) (fun c_18 => ?_) | refine pk_if_eq (tgt := 28) dX5_writeNext_18 (by decide) (fun c_18 => ?_) (fun c_18 => ?_)
  · exfalso; simp [nI_pos' (show l * 8 + k < 2 ^ 31 by omega), nI_ltI (show l * 8 + k < 2 ^ 31 by omega) (show 48 < 2 ^ 31 by decide)] at c_18; omega
  · refine pk_aload_n dX5_writeNext_21 rfl ?_
    refine pk_getP dX5_writeNext_22 fl_X5_15 rfl (hW.s rfl) (hW.p rfl) ?_
    refine pk_iload_n dX5_writeNext_25 rfl ?_
    refine pk_iload_n dX5_writeNext_26 rfl ?_
    refine pk_astN dX5_writeNext_27 (hW.s rfl) (by omega) (by omega) (by omega) ?_
    refine pk_aload_n dX5_writeNext_28 rfl ?_
    refine pk_dup dX5_writeNext_29 rfl ?_
    refine pk_getN dX5_writeNext_30 fl_X5_31 rfl (hW.s rfl) (pk_gS0 (by omega) hk) ?_
    refine pk_iconst (v := nI 1) dX5_writeNext_33 (by decide) ?_
    first | refine pk_addN dX5_writeNext_34 ?_ | refine pk_iadd dX5_writeNext_34 ?_
    refine pk_putI dX5_writeNext_35 fl_X5_31 rfl rfl rfl rfl (hW.s rfl) ?_
    refine pk_retv dX5_writeNext_38 ?_
    exact ⟨rfl, rfl⟩
