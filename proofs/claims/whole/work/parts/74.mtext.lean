/-! The model: letters, sets, runs. -/
theorem sp_bk_spec (f : Nat → Nat) (n : Nat) : ∀ m x, n - x = m → ¬ (sp_bk f n x < n ∧ f (sp_bk f n x) = 32) := by
  intro m
  induction m with
  | zero =>
    intro x h
    rw [sp_bk_stop (by omega)]
    omega
  | succ m ih =>
    intro x h
    by_cases c : x < n ∧ f x = 32
    · rw [sp_bk_step c.1 c.2]
      exact ih (x + 1) (by omega)
    · rw [sp_bk_stop c]
      exact c
theorem sp_bk_fix (f : Nat → Nat) (n x : Nat) : sp_bk f n (sp_bk f n x) = sp_bk f n x := sp_bk_stop (sp_bk_spec f n _ x rfl)
theorem e_X7_inN {Γ : pk_T} {M : pk_M} {c lo hi : Nat} {a b : Int64} (hc : c < 2 ^ 31) (hlo : lo < 2 ^ 31) (hhi : hi < 2 ^ 31) (ha : (nI lo).toInt64 = a) (hb : (nI hi).toInt64 = b) : pk_E Γ yX7_in cX7_in 6 (some .boolean) 0 0 0 M [.long (nI c).toInt64, .long a, .long b] (fun r M' => r = some (.int (pk_bi (decide (lo ≤ c) && decide (c ≤ hi)))) ∧ M' = M) := by
  have h := e_X7_inI (Γ := Γ) (M := M) (nI c) ha hb
  rw [show decide (nI lo ≤ nI c) = decide (lo ≤ c) from decide_eq_decide.mpr (nI_leI hlo hc), show decide (nI c ≤ nI hi) = decide (c ≤ hi) from decide_eq_decide.mpr (nI_leI hc hhi)] at h
  exact h
def sp_isR (c : Nat) : Bool := (decide (49 ≤ c) && decide (c ≤ 56)) || (c == 46) || (c == 40) || sp_il c

set_option maxRecDepth 100000 in
set_option maxHeartbeats 4000000 in
theorem e_X7_here {Γ : pk_T} {M : pk_M} {L n x : Nat} {f : Nat → Nat} (hW : pk_WF L M) (hn : pk_I M 103 8 = nI n) (hn2 : n ≤ 100) (hf : ∀ i, i < n → pk_I M 110 i = nI (f i)) (hf2 : ∀ i, i < n → f i ≤ 126) (hx : pk_I M 103 9 = nI x) (hx2 : x ≤ n) : pk_E Γ yX7_here cX7_here 1 (some .int) 0 0 0 M [.ref 103] (fun r M' => r = some (.int (nI (sp_ltr f n (sp_bk f n x)))) ∧ M' = (pk_sI M 103 9 (nI (sp_bk f n x)))) := by
  refine pk_meth (own := RX7) (ini := false) [some (.ref 103)] (by decide +kernel) rfl (by decide +kernel) rfl rfl ?_
  refine pk_Mq (M' := (pk_sI M 103 9 (nI (x)))) (pk_sI_id hx).symm ?_
  refine pk_wf (fun t => n - t) (fun t : Nat => t ≤ n ∧ sp_bk f n t = sp_bk f n x) (fun t => (pk_sI M 103 9 (nI (t)))) (fun _ => [some (.ref 103)]) ?_ x ⟨hx2, rfl⟩
  rintro t ⟨ht, ht2⟩ K
  refine pk_aload_n dX7_here_0 rfl ?_
  refine pk_getN dX7_here_1 fl_X7_241 rfl (hW.s rfl) (pk_gS1 rfl rfl rfl) ?_
  refine pk_aload_n dX7_here_4 rfl ?_
  refine pk_getN dX7_here_5 fl_X7_238 rfl (hW.s rfl) (pk_gS0 (by omega) hn) ?_
  first | refine pk_geN (tgt := 38) dX7_here_8 (by decide) (by omega) (by omega) (fun c_8 => ?_) (fun c_8 => ?_) | refine pk_icmp_ge (tgt := 38) dX7_here_8 (by decide) (fun c_8 => ?_) (fun c_8 => ?_)
  · have hst := sp_bk_stop (f := f) (n := n) (x := t) (by first | omega | (rintro ⟨-, h⟩; exact c_22 h))
    rw [hst] at ht2
    rw [← ht2]
    refine pk_aload_n dX7_here_38 rfl ?_
    refine pk_getN dX7_here_39 fl_X7_241 rfl (hW.s rfl) (pk_gS1 rfl rfl rfl) ?_
    refine pk_aload_n dX7_here_42 rfl ?_
    refine pk_getN dX7_here_43 fl_X7_238 rfl (hW.s rfl) (pk_gS0 (by omega) hn) ?_
    first | refine pk_geN (tgt := 61) dX7_here_46 (by decide) (by omega) (by omega) (fun c_46 => ?_) (fun c_46 => ?_) | refine pk_icmp_ge (tgt := 61) dX7_here_46 (by decide) (fun c_46 => ?_) (fun c_46 => ?_)
    · refine pk_iconst (v := nI 0) dX7_here_61 (by decide) ?_
      refine pk_reti dX7_here_62 (by first | rfl | exact pk_nbi _) ?_
      unfold sp_ltr
      rw [if_neg (by omega)]
      exact ⟨rfl, rfl⟩
    · refine pk_aload_n dX7_here_49 rfl ?_
      refine pk_getP dX7_here_50 fl_X7_28 rfl (hW.s rfl) (hW.p rfl) ?_
      refine pk_aload_n dX7_here_53 rfl ?_
      refine pk_getN dX7_here_54 fl_X7_241 rfl (hW.s rfl) (pk_gS1 rfl rfl rfl) ?_
      refine pk_aldN dX7_here_57 (hW.s rfl) (by omega) (by omega) (pk_gS0 (by omega) (hf t (by omega))) ?_
      refine pk_goto (tgt := 62) dX7_here_58 (by decide) ?_
      refine pk_reti dX7_here_62 (by first | rfl | exact pk_nbi _) ?_
      unfold sp_ltr
      rw [if_pos (by omega)]
      exact ⟨rfl, rfl⟩
  · have hft := hf2 t (by omega)
    refine pk_aload_n dX7_here_11 rfl ?_
    refine pk_getP dX7_here_12 fl_X7_28 rfl (hW.s rfl) (hW.p rfl) ?_
    refine pk_aload_n dX7_here_15 rfl ?_
    refine pk_getN dX7_here_16 fl_X7_241 rfl (hW.s rfl) (pk_gS1 rfl rfl rfl) ?_
    refine pk_aldN dX7_here_19 (hW.s rfl) (by omega) (by omega) (pk_gS0 (by omega) (hf t (by omega))) ?_
    refine pk_bipush (v := nI 32) dX7_here_20 (by decide) ?_
    first | refine pk_neN (tgt := 38) dX7_here_22 (by decide) (by omega) (by omega) (fun c_22 => ?_) (fun c_22 => ?_) | refine pk_icmp_ne (tgt := 38) dX7_here_22 (by decide) (fun c_22 => ?_) (fun c_22 => ?_)
    · have hst := sp_bk_stop (f := f) (n := n) (x := t) (by first | omega | (rintro ⟨-, h⟩; exact c_22 h))
      rw [hst] at ht2
      rw [← ht2]
      refine pk_aload_n dX7_here_38 rfl ?_
      refine pk_getN dX7_here_39 fl_X7_241 rfl (hW.s rfl) (pk_gS1 rfl rfl rfl) ?_
      refine pk_aload_n dX7_here_42 rfl ?_
      refine pk_getN dX7_here_43 fl_X7_238 rfl (hW.s rfl) (pk_gS0 (by omega) hn) ?_
      first | refine pk_geN (tgt := 61) dX7_here_46 (by decide) (by omega) (by omega) (fun c_46 => ?_) (fun c_46 => ?_) | refine pk_icmp_ge (tgt := 61) dX7_here_46 (by decide) (fun c_46 => ?_) (fun c_46 => ?_)
      · refine pk_iconst (v := nI 0) dX7_here_61 (by decide) ?_
        refine pk_reti dX7_here_62 (by first | rfl | exact pk_nbi _) ?_
        unfold sp_ltr
        rw [if_neg (by omega)]
        exact ⟨rfl, rfl⟩
      · refine pk_aload_n dX7_here_49 rfl ?_
        refine pk_getP dX7_here_50 fl_X7_28 rfl (hW.s rfl) (hW.p rfl) ?_
        refine pk_aload_n dX7_here_53 rfl ?_
        refine pk_getN dX7_here_54 fl_X7_241 rfl (hW.s rfl) (pk_gS1 rfl rfl rfl) ?_
        refine pk_aldN dX7_here_57 (hW.s rfl) (by omega) (by omega) (pk_gS0 (by omega) (hf t (by omega))) ?_
        refine pk_goto (tgt := 62) dX7_here_58 (by decide) ?_
        refine pk_reti dX7_here_62 (by first | rfl | exact pk_nbi _) ?_
        unfold sp_ltr
        rw [if_pos (by omega)]
        exact ⟨rfl, rfl⟩
    · refine pk_aload_n dX7_here_25 rfl ?_
      refine pk_dup dX7_here_26 rfl ?_
      refine pk_getN dX7_here_27 fl_X7_241 rfl (hW.s rfl) (pk_gS1 rfl rfl rfl) ?_
      refine pk_iconst (v := nI 1) dX7_here_30 (by decide) ?_
      first | refine pk_addN dX7_here_31 ?_ | refine pk_iadd dX7_here_31 ?_
      refine pk_putI dX7_here_32 fl_X7_241 rfl rfl rfl rfl (hW.s rfl) ?_
      rw [pk_sI_sI]
      refine pk_goto (tgt := 0) dX7_here_35 (by decide) ?_
      exact K (t + 1) ⟨by omega, by rw [← ht2]; exact (sp_bk_step (by omega) c_22).symm⟩ (by omega)

theorem e_X7_hereY {Γ : pk_T} {M : pk_M} {L n x : Nat} {f : Nat → Nat} (hW : pk_WF L M) (hn : pk_I M 103 8 = nI n) (hn2 : n ≤ 100) (hf : ∀ i, i < n → pk_I M 110 i = nI (f i)) (hf2 : ∀ i, i < n → f i ≤ 126) (hx : pk_I M 103 9 = nI x) (hx2 : x ≤ n) (hy : sp_bk f n x = x) : pk_E Γ yX7_here cX7_here 1 (some .int) 0 0 0 M [.ref 103] (fun r M' => r = some (.int (nI (sp_ltr f n x))) ∧ M' = M) := by
  have h := e_X7_here (Γ := Γ) hW hn hn2 hf hf2 hx hx2
  rw [hy, pk_sI_id hx] at h
  exact h

set_option maxRecDepth 100000 in
set_option maxHeartbeats 4000000 in
theorem e_X7_isRun {Γ : pk_T} {M : pk_M} {L n x : Nat} {f : Nat → Nat} (hW : pk_WF L M) (hn : pk_I M 103 8 = nI n) (hn2 : n ≤ 100) (hf : ∀ i, i < n → pk_I M 110 i = nI (f i)) (hf2 : ∀ i, i < n → f i ≤ 126) (hx : pk_I M 103 9 = nI x) (hx2 : x ≤ n) : pk_E Γ yX7_isRun cX7_isRun 1 (some .boolean) 1 0 0 M [.ref 103] (fun r M' => r = some (.int (pk_bi (sp_isR (sp_ltr f n (sp_bk f n x))))) ∧ M' = (pk_sI M 103 9 (nI ((sp_bk f n x))))) := by
  refine pk_meth (own := RX7) (ini := false) [some (.ref 103)] (by decide +kernel) rfl (by decide +kernel) rfl rfl ?_
  refine pk_aload_n dX7_isRun_0 rfl ?_
  refine pk_Vg dX7_isRun_1 ml_X7_244 yw_X7_here yv_X7_here (hW.s rfl) (e_X7_here hW hn hn2 hf hf2 hx hx2) rfl rfl rfl rfl rfl rfl rfl (fun v M1 hv => ?_)
  obtain ⟨hv1, hv2⟩ := hv
  cases hv1
  subst hv2
  have hyl := sp_bk_le (f := f) hx2
  have hyf := sp_bk_fix f n x
  have hcl := sp_ltr_le hf2 (sp_bk f n x)
  have hn1 : pk_I (pk_sI M 103 9 (nI ((sp_bk f n x)))) 103 8 = nI n := pk_gS0 (by omega) hn
  have hf1 : ∀ i, i < n → pk_I (pk_sI M 103 9 (nI ((sp_bk f n x)))) 110 i = nI (f i) := fun i hi => pk_gS0 (by omega) (hf i hi)
  have hx1 : pk_I (pk_sI M 103 9 (nI ((sp_bk f n x)))) 103 9 = nI (sp_bk f n x) := pk_gS1 rfl rfl rfl
  refine pk_i2l dX7_isRun_4 ?_
  refine pk_ldc2 dX7_isRun_5 kc_X7_247 ?_
  refine pk_ldc2 dX7_isRun_8 kc_X7_249 ?_
  refine pk_Si dX7_isRun_11 ml_X7_59 yw_X7_in ys_X7_in (e_X7_inN (lo := 49) (hi := 56) (by omega) (by decide) (by decide) (by decide) (by decide)) rfl rfl rfl rfl rfl rfl rfl ?_
  first | refine pk_neb (tgt := 52) dX7_isRun_14 (by decide) (fun c_14 => ?_) (fun c_14 => ?_) | refine pk_ne0N (tgt := 52) dX7_isRun_14 (by decide) (by omega) (fun c_14 => ?_) (fun c_14 => ?_) | refine pk_if_ne (tgt := 52) dX7_isRun_14 (by decide) (fun c_14 => ?_) (fun c_14 => ?_)
  · refine pk_iconst (v := nI 1) dX7_isRun_52 (by decide) ?_
    refine pk_goto (tgt := 57) dX7_isRun_53 (by decide) ?_
    refine pk_reti dX7_isRun_57 (by first | rfl | exact pk_nbi _) ?_
    refine ⟨?_, rfl⟩
    unfold sp_isR
    rw [c_14]
    rfl
  · refine pk_aload_n dX7_isRun_17 rfl ?_
    refine pk_Vi dX7_isRun_18 ml_X7_244 yw_X7_here yv_X7_here (hW.s rfl) (e_X7_hereY hW hn1 hn2 hf1 hf2 hx1 hyl hyf) rfl rfl rfl rfl rfl rfl rfl ?_
    refine pk_bipush (v := nI 46) dX7_isRun_21 (by decide) ?_
    first | refine pk_eqN (tgt := 52) dX7_isRun_23 (by decide) (by omega) (by omega) (fun c_23 => ?_) (fun c_23 => ?_) | refine pk_icmp_eq (tgt := 52) dX7_isRun_23 (by decide) (fun c_23 => ?_) (fun c_23 => ?_)
    · refine pk_iconst (v := nI 1) dX7_isRun_52 (by decide) ?_
      refine pk_goto (tgt := 57) dX7_isRun_53 (by decide) ?_
      refine pk_reti dX7_isRun_57 (by first | rfl | exact pk_nbi _) ?_
      refine ⟨?_, rfl⟩
      unfold sp_isR
      rw [beq_iff_eq.mpr c_23, Bool.or_true]
      rfl
    · refine pk_aload_n dX7_isRun_26 rfl ?_
      refine pk_Vi dX7_isRun_27 ml_X7_244 yw_X7_here yv_X7_here (hW.s rfl) (e_X7_hereY hW hn1 hn2 hf1 hf2 hx1 hyl hyf) rfl rfl rfl rfl rfl rfl rfl ?_
      refine pk_bipush (v := nI 40) dX7_isRun_30 (by decide) ?_
      first | refine pk_eqN (tgt := 52) dX7_isRun_32 (by decide) (by omega) (by omega) (fun c_32 => ?_) (fun c_32 => ?_) | refine pk_icmp_eq (tgt := 52) dX7_isRun_32 (by decide) (fun c_32 => ?_) (fun c_32 => ?_)
      · refine pk_iconst (v := nI 1) dX7_isRun_52 (by decide) ?_
        refine pk_goto (tgt := 57) dX7_isRun_53 (by decide) ?_
        refine pk_reti dX7_isRun_57 (by first | rfl | exact pk_nbi _) ?_
        refine ⟨?_, rfl⟩
        unfold sp_isR
        rw [beq_iff_eq.mpr c_32, Bool.or_true]
        rfl
      · refine pk_aload_n dX7_isRun_35 rfl ?_
        refine pk_Vi dX7_isRun_36 ml_X7_244 yw_X7_here yv_X7_here (hW.s rfl) (e_X7_hereY hW hn1 hn2 hf1 hf2 hx1 hyl hyf) rfl rfl rfl rfl rfl rfl rfl ?_
        refine pk_i2l dX7_isRun_39 ?_
        refine pk_ldc2 dX7_isRun_40 kc_X7_251 ?_
        refine pk_ldc2 dX7_isRun_43 kc_X7_253 ?_
        refine pk_Si dX7_isRun_46 ml_X7_59 yw_X7_in ys_X7_in (e_X7_inN (lo := 97) (hi := 101) (by omega) (by decide) (by decide) (by decide) (by decide)) rfl rfl rfl rfl rfl rfl rfl ?_
        first | refine pk_eqb (tgt := 56) dX7_isRun_49 (by decide) (fun c_49 => ?_) (fun c_49 => ?_) | refine pk_eq0N (tgt := 56) dX7_isRun_49 (by decide) (by omega) (fun c_49 => ?_) (fun c_49 => ?_) | refine pk_if_eq (tgt := 56) dX7_isRun_49 (by decide) (fun c_49 => ?_) (fun c_49 => ?_)
        · refine pk_iconst (v := nI 0) dX7_isRun_56 (by decide) ?_
          refine pk_reti dX7_isRun_57 (by first | rfl | exact pk_nbi _) ?_
          refine ⟨?_, rfl⟩
          unfold sp_isR
          rw [c_14, beq_eq_false_iff_ne.mpr c_23, beq_eq_false_iff_ne.mpr c_32, show sp_il _ = false from c_49]
          rfl
        · refine pk_iconst (v := nI 1) dX7_isRun_52 (by decide) ?_
          refine pk_goto (tgt := 57) dX7_isRun_53 (by decide) ?_
          refine pk_reti dX7_isRun_57 (by first | rfl | exact pk_nbi _) ?_
          refine ⟨?_, rfl⟩
          unfold sp_isR
          rw [show sp_il _ = true from c_49, Bool.or_true]
          rfl

set_option maxRecDepth 100000 in
set_option maxHeartbeats 4000000 in
theorem e_X7_readsSet {Γ : pk_T} {M : pk_M} {L n x : Nat} {f : Nat → Nat} (hW : pk_WF L M) (hn : pk_I M 103 8 = nI n) (hn2 : n ≤ 100) (hf : ∀ i, i < n → pk_I M 110 i = nI (f i)) (hf2 : ∀ i, i < n → f i ≤ 126) (hx : pk_I M 103 9 = nI x) (hx2 : x ≤ n) : pk_E Γ yX7_readsSet cX7_readsSet 3 (some .int) 1 0 0 M [.ref 103] (fun r M' => r = some (.int (sp_on (sp_rq f n x).1)) ∧ M' = (pk_sI M 103 9 (nI ((sp_rq f n x).2)))) := by
  refine pk_meth (own := RX7) (ini := false) [some (.ref 103), none, none] (by decide +kernel) rfl (by decide +kernel) rfl rfl ?_
  refine pk_aload_n dX7_readsSet_0 rfl ?_
  refine pk_Vg dX7_readsSet_1 ml_X7_244 yw_X7_here yv_X7_here (hW.s rfl) (e_X7_here hW hn hn2 hf hf2 hx hx2) rfl rfl rfl rfl rfl rfl rfl (fun v M1 hv => ?_)
  obtain ⟨hv1, hv2⟩ := hv
  cases hv1
  subst hv2
  have hyl := sp_bk_le (f := f) hx2
  have hyf := sp_bk_fix f n x
  have hcl := sp_ltr_le hf2 (sp_bk f n x)
  have hn1 : pk_I (pk_sI M 103 9 (nI ((sp_bk f n x)))) 103 8 = nI n := pk_gS0 (by omega) hn
  have hf1 : ∀ i, i < n → pk_I (pk_sI M 103 9 (nI ((sp_bk f n x)))) 110 i = nI (f i) := fun i hi => pk_gS0 (by omega) (hf i hi)
  have hx1 : pk_I (pk_sI M 103 9 (nI ((sp_bk f n x)))) 103 9 = nI (sp_bk f n x) := pk_gS1 rfl rfl rfl
  refine pk_istore_n dX7_readsSet_4 rfl rfl ?_
  refine pk_iload_n dX7_readsSet_5 rfl ?_
  refine pk_bipush (v := nI 46) dX7_readsSet_6 (by decide) ?_
  first | refine pk_eqN (tgt := 33) dX7_readsSet_8 (by decide) (by omega) (by omega) (fun c_8 => ?_) (fun c_8 => ?_) | refine pk_icmp_eq (tgt := 33) dX7_readsSet_8 (by decide) (fun c_8 => ?_) (fun c_8 => ?_)
  · refine pk_aload_n dX7_readsSet_33 rfl ?_
    refine pk_dup dX7_readsSet_34 rfl ?_
    refine pk_getN dX7_readsSet_35 fl_X7_241 rfl (hW.s rfl) hx1 ?_
    refine pk_iconst (v := nI 1) dX7_readsSet_38 (by decide) ?_
    first | refine pk_addN dX7_readsSet_39 ?_ | refine pk_iadd dX7_readsSet_39 ?_
    refine pk_putI dX7_readsSet_40 fl_X7_241 rfl rfl rfl rfl (hW.s rfl) ?_
    rw [pk_sI_sI]
    refine pk_iload_n dX7_readsSet_43 rfl ?_
    refine pk_bipush (v := nI 40) dX7_readsSet_44 (by decide) ?_
    first | refine pk_eqN (tgt := 66) dX7_readsSet_46 (by decide) (by omega) (by omega) (fun c_46 => ?_) (fun c_46 => ?_) | refine pk_icmp_eq (tgt := 66) dX7_readsSet_46 (by decide) (fun c_46 => ?_) (fun c_46 => ?_)
    · omega
    · refine pk_iload_n dX7_readsSet_49 rfl ?_
      refine pk_bipush (v := nI 46) dX7_readsSet_50 (by decide) ?_
      first | refine pk_neN (tgt := 59) dX7_readsSet_52 (by decide) (by omega) (by omega) (fun c_52 => ?_) (fun c_52 => ?_) | refine pk_icmp_ne (tgt := 59) dX7_readsSet_52 (by decide) (fun c_52 => ?_) (fun c_52 => ?_)
      · exact absurd c_8 c_52
      · refine pk_iconst (v := nI 0) dX7_readsSet_55 (by decide) ?_
        refine pk_goto (tgt := 65) dX7_readsSet_56 (by decide) ?_
        refine pk_reti dX7_readsSet_65 (by first | rfl | exact pk_nbi _) ?_
        have e : (sp_rq f n x) = (some 0, (sp_bk f n x) + 1) := by
          unfold sp_rq sp_rs
          rw [if_neg c_46, if_pos c_52]
        rw [e]
        exact ⟨rfl, rfl⟩
  · refine pk_iload_n dX7_readsSet_11 rfl ?_
    refine pk_bipush (v := nI 40) dX7_readsSet_12 (by decide) ?_
    first | refine pk_eqN (tgt := 33) dX7_readsSet_14 (by decide) (by omega) (by omega) (fun c_14 => ?_) (fun c_14 => ?_) | refine pk_icmp_eq (tgt := 33) dX7_readsSet_14 (by decide) (fun c_14 => ?_) (fun c_14 => ?_)
    · refine pk_aload_n dX7_readsSet_33 rfl ?_
      refine pk_dup dX7_readsSet_34 rfl ?_
      refine pk_getN dX7_readsSet_35 fl_X7_241 rfl (hW.s rfl) hx1 ?_
      refine pk_iconst (v := nI 1) dX7_readsSet_38 (by decide) ?_
      first | refine pk_addN dX7_readsSet_39 ?_ | refine pk_iadd dX7_readsSet_39 ?_
      refine pk_putI dX7_readsSet_40 fl_X7_241 rfl rfl rfl rfl (hW.s rfl) ?_
      rw [pk_sI_sI]
      refine pk_iload_n dX7_readsSet_43 rfl ?_
      refine pk_bipush (v := nI 40) dX7_readsSet_44 (by decide) ?_
      first | refine pk_eqN (tgt := 66) dX7_readsSet_46 (by decide) (by omega) (by omega) (fun c_46 => ?_) (fun c_46 => ?_) | refine pk_icmp_eq (tgt := 66) dX7_readsSet_46 (by decide) (fun c_46 => ?_) (fun c_46 => ?_)
      · refine pk_iconst (v := nI 0) dX7_readsSet_66 (by decide) ?_
        refine pk_istore_n dX7_readsSet_67 rfl rfl ?_
        have hyn := sp_ltr_lt (f := f) (n := n) (y := (sp_bk f n x)) (by omega)
        have erq : (sp_rq f n x) = sp_mi f n 101 0 ((sp_bk f n x) + 1) := by
          unfold sp_rq sp_rs
          rw [if_pos c_46]
        rw [erq]
        refine pk_fgt (ls' := [some (.ref 103), none, some (.int (nI 0))]) (by repeat first | exact trivial | refine ⟨rfl, ?_⟩) ?_
        refine pk_wf (fun z : Nat × Nat × Nat => n - z.2.2) (fun z : Nat × Nat × Nat => sp_mi f n z.1 z.2.1 z.2.2 = sp_mi f n 101 0 (sp_bk f n x + 1) ∧ n - z.2.2 < z.1 ∧ z.2.1 < 32 ∧ z.2.2 ≤ n) (fun z => (pk_sI M 103 9 (nI z.2.2))) (fun z => [some (.ref 103), none, some (.int (nI z.2.1))]) ?_ (101, 0, (sp_bk f n x) + 1) ⟨rfl, by dsimp only; omega, by dsimp only; omega, hyn⟩
        rintro ⟨u, s, z⟩ ⟨hz1, hzu, hs32, hz3⟩ K
        dsimp only at hz1 hzu hs32 hz3 K ⊢
        obtain ⟨v, hv⟩ : ∃ v, u = v + 1 := ⟨u - 1, by omega⟩
        subst hv
        rw [sp_mi] at hz1
        refine pk_aload_n dX7_readsSet_68 rfl ?_
        refine pk_Vg dX7_readsSet_69 ml_X7_244 yw_X7_here yv_X7_here (hW.s rfl) (e_X7_here (M := (pk_sI M 103 9 (nI (z)))) (x := z) hW (pk_gS0 (by omega) hn) hn2 (fun i hi => pk_gS0 (by omega) (hf i hi)) hf2 (pk_gS1 rfl rfl rfl) hz3) rfl rfl rfl rfl rfl rfl rfl (fun v M1 hv => ?_)
        obtain ⟨hv1, hv2⟩ := hv
        rw [pk_sI_sI] at hv2
        cases hv1
        subst hv2
        have hzl := sp_bk_le (f := f) hz3
        have hzf := sp_bk_fix f n z
        have hzg := sp_bk_ge f n z
        have hcl2 := sp_ltr_le hf2 (sp_bk f n z)
        have hn1 : pk_I (pk_sI M 103 9 (nI ((sp_bk f n z)))) 103 8 = nI n := pk_gS0 (by omega) hn
        have hf1 : ∀ i, i < n → pk_I (pk_sI M 103 9 (nI ((sp_bk f n z)))) 110 i = nI (f i) := fun i hi => pk_gS0 (by omega) (hf i hi)
        have hx1 : pk_I (pk_sI M 103 9 (nI ((sp_bk f n z)))) 103 9 = nI (sp_bk f n z) := pk_gS1 rfl rfl rfl
        refine pk_i2l dX7_readsSet_72 ?_
        refine pk_ldc2 dX7_readsSet_73 kc_X7_251 ?_
        refine pk_ldc2 dX7_readsSet_76 kc_X7_253 ?_
        refine pk_Si dX7_readsSet_79 ml_X7_59 yw_X7_in ys_X7_in (e_X7_inN (lo := 97) (hi := 101) (by omega) (by decide) (by decide) (by decide) (by decide)) rfl rfl rfl rfl rfl rfl rfl ?_
        first | refine pk_eqb (tgt := 110) dX7_readsSet_82 (by decide) (fun c_82 => ?_) (fun c_82 => ?_) | refine pk_eq0N (tgt := 110) dX7_readsSet_82 (by decide) (by omega) (fun c_82 => ?_) (fun c_82 => ?_) | refine pk_if_eq (tgt := 110) dX7_readsSet_82 (by decide) (fun c_82 => ?_) (fun c_82 => ?_)
        · have hil : sp_il (sp_ltr f n (sp_bk f n z)) = false := c_82
          refine pk_iload_n dX7_readsSet_110 rfl ?_
          refine pk_eq0N (tgt := 123) dX7_readsSet_111 (by decide) (by omega) (fun c_111 => ?_) (fun c_111 => ?_)
          · refine pk_iconst (v := -1) dX7_readsSet_123 (by decide) ?_
            refine pk_reti dX7_readsSet_124 (by first | rfl | exact pk_nbi _) ?_
            rw [if_neg (fun h => h.2 c_111), if_pos hil] at hz1
            rw [← hz1]
            exact ⟨rfl, rfl⟩
          · refine pk_aload_n dX7_readsSet_114 rfl ?_
            refine pk_Vi dX7_readsSet_115 ml_X7_244 yw_X7_here yv_X7_here (hW.s rfl) (e_X7_hereY hW hn1 hn2 hf1 hf2 hx1 hzl hzf) rfl rfl rfl rfl rfl rfl rfl ?_
            refine pk_bipush (v := nI 41) dX7_readsSet_118 (by decide) ?_
            first | refine pk_eqN (tgt := 125) dX7_readsSet_120 (by decide) (by omega) (by omega) (fun c_120 => ?_) (fun c_120 => ?_) | refine pk_icmp_eq (tgt := 125) dX7_readsSet_120 (by decide) (fun c_120 => ?_) (fun c_120 => ?_)
            · refine pk_aload_n dX7_readsSet_125 rfl ?_
              refine pk_dup dX7_readsSet_126 rfl ?_
              refine pk_getN dX7_readsSet_127 fl_X7_241 rfl (hW.s rfl) hx1 ?_
              refine pk_iconst (v := nI 1) dX7_readsSet_130 (by decide) ?_
              first | refine pk_addN dX7_readsSet_131 ?_ | refine pk_iadd dX7_readsSet_131 ?_
              refine pk_putI dX7_readsSet_132 fl_X7_241 rfl rfl rfl rfl (hW.s rfl) ?_
              rw [pk_sI_sI]
              refine pk_iload_n dX7_readsSet_135 rfl ?_
              refine pk_reti dX7_readsSet_136 (by first | rfl | exact pk_nbi _) ?_
              rw [if_pos ⟨c_120, c_111⟩] at hz1
              rw [← hz1]
              exact ⟨rfl, rfl⟩
            · refine pk_iconst (v := -1) dX7_readsSet_123 (by decide) ?_
              refine pk_reti dX7_readsSet_124 (by first | rfl | exact pk_nbi _) ?_
              rw [if_neg (fun h => c_120 h.1), if_pos hil] at hz1
              rw [← hz1]
              exact ⟨rfl, rfl⟩
        · have hil : sp_il (sp_ltr f n (sp_bk f n z)) = true := c_82
          have hi2 := sp_il_of hil
          have hzn := sp_ltr_lt (f := f) (n := n) (y := (sp_bk f n z)) (by omega)
          have hp2 := pk_p2 (show (sp_ltr f n (sp_bk f n z)) - 97 < 5 by omega)
          rw [if_neg (by omega), if_neg (by rw [hil]; decide)] at hz1
          refine pk_iload_n dX7_readsSet_85 rfl ?_
          refine pk_iconst (v := nI 1) dX7_readsSet_86 (by decide) ?_
          refine pk_aload_n dX7_readsSet_87 rfl ?_
          refine pk_Vi dX7_readsSet_88 ml_X7_244 yw_X7_here yv_X7_here (hW.s rfl) (e_X7_hereY hW hn1 hn2 hf1 hf2 hx1 hzl hzf) rfl rfl rfl rfl rfl rfl rfl ?_
          refine pk_bipush (v := nI 97) dX7_readsSet_91 (by decide) ?_
          first | refine pk_subN dX7_readsSet_93 (by omega) ?_ | refine pk_isub dX7_readsSet_93 ?_
          first | refine pk_shlNN dX7_readsSet_94 (by omega) ?_ | refine pk_ishl dX7_readsSet_94 ?_
          first | refine pk_orNN dX7_readsSet_95 ?_ | refine pk_ior dX7_readsSet_95 ?_
          refine pk_istore_n dX7_readsSet_96 rfl rfl ?_
          refine pk_aload_n dX7_readsSet_97 rfl ?_
          refine pk_dup dX7_readsSet_98 rfl ?_
          refine pk_getN dX7_readsSet_99 fl_X7_241 rfl (hW.s rfl) hx1 ?_
          refine pk_iconst (v := nI 1) dX7_readsSet_102 (by decide) ?_
          first | refine pk_addN dX7_readsSet_103 ?_ | refine pk_iadd dX7_readsSet_103 ?_
          refine pk_putI dX7_readsSet_104 fl_X7_241 rfl rfl rfl rfl (hW.s rfl) ?_
          rw [pk_sI_sI]
          refine pk_goto (tgt := 68) dX7_readsSet_107 (by decide) ?_
          exact K (v, s ||| 2 ^ ((sp_ltr f n (sp_bk f n z)) - 97), (sp_bk f n z) + 1) ⟨hz1, by dsimp only; omega, Nat.or_lt_two_pow (n := 5) hs32 hp2, hzn⟩ (by dsimp only; omega)
      · exact absurd c_14 c_46
    · refine pk_iload_n dX7_readsSet_17 rfl ?_
      refine pk_i2l dX7_readsSet_18 ?_
      refine pk_ldc2 dX7_readsSet_19 kc_X7_251 ?_
      refine pk_ldc2 dX7_readsSet_22 kc_X7_253 ?_
      refine pk_Si dX7_readsSet_25 ml_X7_59 yw_X7_in ys_X7_in (e_X7_inN (lo := 97) (hi := 101) (by omega) (by decide) (by decide) (by decide) (by decide)) rfl rfl rfl rfl rfl rfl rfl ?_
      first | refine pk_neb (tgt := 33) dX7_readsSet_28 (by decide) (fun c_28 => ?_) (fun c_28 => ?_) | refine pk_ne0N (tgt := 33) dX7_readsSet_28 (by decide) (by omega) (fun c_28 => ?_) (fun c_28 => ?_) | refine pk_if_ne (tgt := 33) dX7_readsSet_28 (by decide) (fun c_28 => ?_) (fun c_28 => ?_)
      · refine pk_aload_n dX7_readsSet_33 rfl ?_
        refine pk_dup dX7_readsSet_34 rfl ?_
        refine pk_getN dX7_readsSet_35 fl_X7_241 rfl (hW.s rfl) hx1 ?_
        refine pk_iconst (v := nI 1) dX7_readsSet_38 (by decide) ?_
        first | refine pk_addN dX7_readsSet_39 ?_ | refine pk_iadd dX7_readsSet_39 ?_
        refine pk_putI dX7_readsSet_40 fl_X7_241 rfl rfl rfl rfl (hW.s rfl) ?_
        rw [pk_sI_sI]
        refine pk_iload_n dX7_readsSet_43 rfl ?_
        refine pk_bipush (v := nI 40) dX7_readsSet_44 (by decide) ?_
        first | refine pk_eqN (tgt := 66) dX7_readsSet_46 (by decide) (by omega) (by omega) (fun c_46 => ?_) (fun c_46 => ?_) | refine pk_icmp_eq (tgt := 66) dX7_readsSet_46 (by decide) (fun c_46 => ?_) (fun c_46 => ?_)
        · exact absurd c_46 c_14
        · refine pk_iload_n dX7_readsSet_49 rfl ?_
          refine pk_bipush (v := nI 46) dX7_readsSet_50 (by decide) ?_
          first | refine pk_neN (tgt := 59) dX7_readsSet_52 (by decide) (by omega) (by omega) (fun c_52 => ?_) (fun c_52 => ?_) | refine pk_icmp_ne (tgt := 59) dX7_readsSet_52 (by decide) (fun c_52 => ?_) (fun c_52 => ?_)
          · have hil : sp_il (sp_ltr f n (sp_bk f n x)) = true := c_28
            have hi2 := sp_il_of hil
            have hyn := sp_ltr_lt (f := f) (n := n) (y := (sp_bk f n x)) (by omega)
            refine pk_iconst (v := nI 1) dX7_readsSet_59 (by decide) ?_
            refine pk_iload_n dX7_readsSet_60 rfl ?_
            refine pk_bipush (v := nI 97) dX7_readsSet_61 (by decide) ?_
            first | refine pk_subN dX7_readsSet_63 (by omega) ?_ | refine pk_isub dX7_readsSet_63 ?_
            first | refine pk_shlNN dX7_readsSet_64 (by omega) ?_ | refine pk_ishl dX7_readsSet_64 ?_
            refine pk_reti dX7_readsSet_65 (by first | rfl | exact pk_nbi _) ?_
            have e : (sp_rq f n x) = (some (2 ^ ((sp_ltr f n (sp_bk f n x)) - 97)), (sp_bk f n x) + 1) := by
              unfold sp_rq sp_rs
              rw [if_neg c_46, if_neg c_52, if_pos hil]
            rw [e]
            exact ⟨rfl, rfl⟩
          · exact absurd c_52 c_8
      · refine pk_iconst (v := -1) dX7_readsSet_31 (by decide) ?_
        refine pk_reti dX7_readsSet_32 (by first | rfl | exact pk_nbi _) ?_
        have e : (sp_rq f n x) = (none, (sp_bk f n x)) := by
          unfold sp_rq sp_rs
          rw [if_neg c_14, if_neg c_8, if_neg (by rw [show sp_il (sp_ltr f n (sp_bk f n x)) = false from c_28]; decide)]
        rw [e]
        exact ⟨rfl, rfl⟩
