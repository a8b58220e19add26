/-! Areas: reading them. -/
/-- the first place of the area a -/
noncomputable def sp_ro (A : pk_St) (a : Nat) : Nat := sp_fst (fun q => sp_root A q && (sp_c (sp_root A) q == a)) 48
theorem sp_c_hit {f : Nat → Bool} {n a : Nat} (h : a < sp_c f n) : ∃ q, q < n ∧ f q = true ∧ sp_c f q = a := by
  induction n with
  | zero => exact absurd h (Nat.not_lt_zero a)
  | succ n ih =>
    rw [sp_c_succ] at h
    by_cases e : a < sp_c f n
    · obtain ⟨q, h1, h2⟩ := ih e
      exact ⟨q, by omega, h2⟩
    · cases hf : f n
      · rw [hf, if_neg (by decide)] at h
        omega
      · rw [hf, if_pos rfl] at h
        exact ⟨n, by omega, hf, by omega⟩
theorem sp_ro_of {A : pk_St} {a : Nat} (h : a < sp_many A) : sp_root A (sp_ro A a) = true ∧ sp_c (sp_root A) (sp_ro A a) = a := by
  obtain ⟨q, h1, h2, h3⟩ := sp_c_hit h
  have := (sp_fst_spec (f := fun q => sp_root A q && (sp_c (sp_root A) q == a)) (sp_any_true h1 (by simp [h2, h3]))).1
  simp only [Bool.and_eq_true, beq_iff_eq] at this
  exact this
theorem sp_ro_lt {A : pk_St} (hA : pk_okS A) {a : Nat} (h : a < sp_many A) : sp_in A (sp_ro A a) = true ∧ sp_ro A a < 48 := by
  have h1 := (sp_ro_of h).1
  rw [sp_root, Bool.and_eq_true] at h1
  exact ⟨h1.1, (sp_in_lt hA h1.1).2.2⟩
theorem sp_many_le (A : pk_St) : sp_many A ≤ 48 := sp_c_le _ 48
theorem sp_sz_le (A : pk_St) (r : Nat) : sp_sz A r ≤ 48 := sp_c_le _ 48
theorem sp_num2_lt {A : pk_St} (hA : pk_okS A) {q : Nat} (h : sp_in A q = true) : sp_num2 A q < sp_many A := sp_c_lt (sp_lab_in hA h).2.2.1 (sp_root_lab hA h)

set_option maxRecDepth 100000 in
set_option maxHeartbeats 4000000 in
theorem e_X0_firstX {Γ : pk_T} {M : pk_M} {L a : Nat} {A : pk_St} (hW : pk_WF L M) (hok : pk_okS A) (har : pk_ara A M) (ha : a < sp_many A) : pk_E Γ yX0_firstX cX0_firstX 2 (some .int) 1 0 0 M [.ref 82, .int (nI a)] (fun r M' => r = some (.int (nI (sp_ro A a % 8))) ∧ M' = M) := by
  refine pk_meth (own := RX0) (ini := false) [some (.ref 82), some (.int (nI a))] (by decide +kernel) rfl (by decide +kernel) rfl rfl ?_
  have hm := sp_many_le A
  have hro := sp_ro_of ha
  have hrl := sp_ro_lt hok ha
  have h3 := har.2.2 _ hro.1
  rw [hro.2] at h3
  refine pk_iload_n dX0_firstX_0 rfl ?_
  refine pk_aload_n dX0_firstX_1 rfl ?_
  refine pk_getN dX0_firstX_2 fl_X0_32 rfl (hW.s rfl) har.1 ?_
  refine pk_Si dX0_firstX_5 ml_X0_51 yw_X6_isBelow ys_X6_isBelow (e_X6_isBelow _ _) rfl rfl rfl rfl rfl rfl rfl ?_
  first | refine pk_eqb (tgt := 23) dX0_firstX_8 (by decide) (fun c_8 => ?_) (fun c_8 => ?_) | refine pk_eq0N (tgt := 23) dX0_firstX_8 (by decide) (by omega) (fun c_8 => ?_) (fun c_8 => ?_) | refine pk_if_eq (tgt := 23) dX0_firstX_8 (by decide) (fun c_8 => ?_) (fun c_8 => ?_)
  · exfalso; simp [nI_pos' (show a < 2 ^ 31 by omega), nI_ltI (show a < 2 ^ 31 by omega) (show sp_many A < 2 ^ 31 by omega)] at c_8; omega
  · refine pk_aload_n dX0_firstX_11 rfl ?_
    refine pk_getP dX0_firstX_12 fl_X0_15 rfl (hW.s rfl) (hW.p rfl) ?_
    refine pk_iload_n dX0_firstX_15 rfl ?_
    refine pk_aldN dX0_firstX_16 (hW.s rfl) (by omega) (by omega) h3.1 ?_
    refine pk_bipush (v := nI 8) dX0_firstX_17 (by decide) ?_
    first | refine pk_remN dX0_firstX_19 (by omega) (by omega) (by omega) ?_ | refine pk_irem dX0_firstX_19 (by first | assumption | decide) ?_
    refine pk_goto (tgt := 24) dX0_firstX_20 (by decide) ?_
    refine pk_reti dX0_firstX_24 (by first | rfl | exact pk_nbi _) ?_
    exact ⟨rfl, rfl⟩

set_option maxRecDepth 100000 in
set_option maxHeartbeats 4000000 in
theorem e_X0_firstY {Γ : pk_T} {M : pk_M} {L a : Nat} {A : pk_St} (hW : pk_WF L M) (hok : pk_okS A) (har : pk_ara A M) (ha : a < sp_many A) : pk_E Γ yX0_firstY cX0_firstY 2 (some .int) 1 0 0 M [.ref 82, .int (nI a)] (fun r M' => r = some (.int (nI (sp_ro A a / 8))) ∧ M' = M) := by
  refine pk_meth (own := RX0) (ini := false) [some (.ref 82), some (.int (nI a))] (by decide +kernel) rfl (by decide +kernel) rfl rfl ?_
  have hm := sp_many_le A
  have hro := sp_ro_of ha
  have hrl := sp_ro_lt hok ha
  have h3 := har.2.2 _ hro.1
  rw [hro.2] at h3
  refine pk_iload_n dX0_firstY_0 rfl ?_
  refine pk_aload_n dX0_firstY_1 rfl ?_
  refine pk_getN dX0_firstY_2 fl_X0_32 rfl (hW.s rfl) har.1 ?_
  refine pk_Si dX0_firstY_5 ml_X0_51 yw_X6_isBelow ys_X6_isBelow (e_X6_isBelow _ _) rfl rfl rfl rfl rfl rfl rfl ?_
  first | refine pk_eqb (tgt := 23) dX0_firstY_8 (by decide) (fun c_8 => ?_) (fun c_8 => ?_) | refine pk_eq0N (tgt := 23) dX0_firstY_8 (by decide) (by omega) (fun c_8 => ?_) (fun c_8 => ?_) | refine pk_if_eq (tgt := 23) dX0_firstY_8 (by decide) (fun c_8 => ?_) (fun c_8 => ?_)
  · exfalso; simp [nI_pos' (show a < 2 ^ 31 by omega), nI_ltI (show a < 2 ^ 31 by omega) (show sp_many A < 2 ^ 31 by omega)] at c_8; omega
  · refine pk_aload_n dX0_firstY_11 rfl ?_
    refine pk_getP dX0_firstY_12 fl_X0_15 rfl (hW.s rfl) (hW.p rfl) ?_
    refine pk_iload_n dX0_firstY_15 rfl ?_
    refine pk_aldN dX0_firstY_16 (hW.s rfl) (by omega) (by omega) h3.1 ?_
    refine pk_bipush (v := nI 8) dX0_firstY_17 (by decide) ?_
    first | refine pk_divN dX0_firstY_19 (by omega) (by omega) (by omega) ?_ | refine pk_idiv dX0_firstY_19 (by first | assumption | decide) ?_
    refine pk_goto (tgt := 24) dX0_firstY_20 (by decide) ?_
    refine pk_reti dX0_firstY_24 (by first | rfl | exact pk_nbi _) ?_
    exact ⟨rfl, rfl⟩

set_option maxRecDepth 100000 in
set_option maxHeartbeats 4000000 in
theorem e_X0_placesOf {Γ : pk_T} {M : pk_M} {L a : Nat} {A : pk_St} (hW : pk_WF L M) (hok : pk_okS A) (har : pk_ara A M) (ha : a < sp_many A) : pk_E Γ yX0_placesOf cX0_placesOf 2 (some .int) 1 0 0 M [.ref 82, .int (nI a)] (fun r M' => r = some (.int (nI (sp_sz A (sp_ro A a)))) ∧ M' = M) := by
  refine pk_meth (own := RX0) (ini := false) [some (.ref 82), some (.int (nI a))] (by decide +kernel) rfl (by decide +kernel) rfl rfl ?_
  have hm := sp_many_le A
  have hro := sp_ro_of ha
  have hrl := sp_ro_lt hok ha
  have h3 := har.2.2 _ hro.1
  rw [hro.2] at h3
  refine pk_iload_n dX0_placesOf_0 rfl ?_
  refine pk_aload_n dX0_placesOf_1 rfl ?_
  refine pk_getN dX0_placesOf_2 fl_X0_32 rfl (hW.s rfl) har.1 ?_
  refine pk_Si dX0_placesOf_5 ml_X0_51 yw_X6_isBelow ys_X6_isBelow (e_X6_isBelow _ _) rfl rfl rfl rfl rfl rfl rfl ?_
  first | refine pk_eqb (tgt := 20) dX0_placesOf_8 (by decide) (fun c_8 => ?_) (fun c_8 => ?_) | refine pk_eq0N (tgt := 20) dX0_placesOf_8 (by decide) (by omega) (fun c_8 => ?_) (fun c_8 => ?_) | refine pk_if_eq (tgt := 20) dX0_placesOf_8 (by decide) (fun c_8 => ?_) (fun c_8 => ?_)
  · exfalso; simp [nI_pos' (show a < 2 ^ 31 by omega), nI_ltI (show a < 2 ^ 31 by omega) (show sp_many A < 2 ^ 31 by omega)] at c_8; omega
  · refine pk_aload_n dX0_placesOf_11 rfl ?_
    refine pk_getP dX0_placesOf_12 fl_X0_18 rfl (hW.s rfl) (hW.p rfl) ?_
    refine pk_iload_n dX0_placesOf_15 rfl ?_
    refine pk_aldN dX0_placesOf_16 (hW.s rfl) (by omega) (by omega) h3.2 ?_
    refine pk_goto (tgt := 21) dX0_placesOf_17 (by decide) ?_
    refine pk_reti dX0_placesOf_21 (by first | rfl | exact pk_nbi _) ?_
    exact ⟨rfl, rfl⟩

noncomputable def sp_gre (A : pk_St) (a : Nat) : Nat := sp_c (fun o => decide (sp_sz A (sp_ro A a) < sp_sz A (sp_ro A o)) || (sp_sz A (sp_ro A o) == sp_sz A (sp_ro A a) && decide (o < a))) (sp_many A)

theorem nI_sub_gt {a b : Nat} (ha : a < 2 ^ 30) (hb : b < 2 ^ 30) : (0 < nI a - nI b ↔ b < a) ∧ (nI a - nI b = 0 ↔ a = b) := by
  rcases Nat.lt_trichotomy a b with z | z | z
  · have e : nI a - nI b = -nI (b - a) := by
      obtain ⟨c, rfl⟩ : ∃ c, b = a + c := ⟨b - a, by omega⟩
      rw [Nat.add_sub_cancel_left]
      apply Int32.toInt_inj.mp
      rw [Int32.toInt_sub, Int32.toInt_neg, nI_toInt (by omega), nI_toInt (by omega), nI_toInt (by omega)]
      simp only [Int.bmod_def]
      omega
    have h : ¬ (0 : Int32) < nI a - nI b := by
      rw [e, Int32.lt_iff_toInt_lt, Int32.toInt_neg, nI_toInt (by omega)]
      simp only [Int.bmod_def]
      have : (0 : Int32).toInt = 0 := rfl
      omega
    refine ⟨⟨fun h2 => absurd h2 h, fun h2 => absurd h2 (by omega)⟩, ⟨fun h2 => ?_, fun h2 => absurd h2 (by omega)⟩⟩
    rw [e] at h2
    have h3 := congrArg Int32.toInt h2
    rw [Int32.toInt_neg, nI_toInt (by omega)] at h3
    simp only [Int.bmod_def] at h3
    have : (0 : Int32).toInt = 0 := rfl
    omega
  · subst z
    rw [Int32.sub_self]
    exact ⟨⟨fun h => absurd h (by decide), fun h => absurd h (Nat.lt_irrefl _)⟩, fun _ => rfl, fun _ => rfl⟩
  · rw [pk_nsub (by omega)]
    refine ⟨⟨fun _ => z, fun _ => ?_⟩, ⟨fun h2 => ?_, fun h2 => absurd h2 (by omega)⟩⟩
    · exact (nI_ltI (a := 0) (b := a - b) (by omega) (by omega)).mpr (by omega)
    · have := (pk_n0 (a := a - b) (by omega)).mp h2
      omega

set_option maxRecDepth 100000 in
set_option maxHeartbeats 4000000 in
theorem e_X0_greaterThan {Γ : pk_T} {M : pk_M} {L a : Nat} {A : pk_St} (hW : pk_WF L M) (hok : pk_okS A) (har : pk_ara A M) (ha : a < sp_many A) : pk_E Γ yX0_greaterThan cX0_greaterThan 5 (some .int) 2 0 0 M [.ref 82, .int (nI a)] (fun r M' => r = some (.int (nI (sp_gre A a))) ∧ M' = M) := by
  refine pk_meth (own := RX0) (ini := false) [some (.ref 82), some (.int (nI a)), none, none, none] (by decide +kernel) rfl (by decide +kernel) rfl rfl ?_
  have hm := sp_many_le A
  have hs1 := sp_sz_le A (sp_ro A a)
  refine pk_iconst (v := nI 0) dX0_greaterThan_0 (by decide) ?_
  refine pk_istore_n dX0_greaterThan_1 rfl rfl ?_
  refine pk_iconst (v := nI 0) dX0_greaterThan_2 (by decide) ?_
  refine pk_istore_n dX0_greaterThan_3 rfl rfl ?_
  refine pk_for (sp_many A) (fun _ => M) (fun o => [some (.ref 82), some (.int (nI (a))), some (.int (nI (sp_c (fun o => decide (sp_sz A (sp_ro A a) < sp_sz A (sp_ro A o)) || (sp_sz A (sp_ro A o) == sp_sz A (sp_ro A a) && decide (o < a))) o))), some (.int (nI (o))), none]) ?_ ?_ 0 (by omega)
  · intro o ho K
    refine pk_iload_n dX0_greaterThan_4 rfl ?_
    refine pk_aload_n dX0_greaterThan_5 rfl ?_
    refine pk_getN dX0_greaterThan_6 fl_X0_32 rfl (hW.s rfl) har.1 ?_
    first | refine pk_geN (tgt := 49) dX0_greaterThan_9 (by decide) (by omega) (by omega) (fun c_9 => ?_) (fun c_9 => ?_) | refine pk_icmp_ge (tgt := 49) dX0_greaterThan_9 (by decide) (fun c_9 => ?_) (fun c_9 => ?_)
    · omega
    · have hs2 := sp_sz_le A (sp_ro A o)
      have hc := sp_c_le (fun o => decide (sp_sz A (sp_ro A a) < sp_sz A (sp_ro A o)) || (sp_sz A (sp_ro A o) == sp_sz A (sp_ro A a) && decide (o < a))) o
      have hsub := nI_sub_gt (a := sp_sz A (sp_ro A o)) (b := sp_sz A (sp_ro A a)) (by omega) (by omega)
      refine pk_aload_n dX0_greaterThan_12 rfl ?_
      refine pk_iload_n dX0_greaterThan_13 rfl ?_
      refine pk_Vi dX0_greaterThan_14 ml_X0_72 yw_X0_placesOf yv_X0_placesOf (hW.s rfl) (e_X0_placesOf hW hok har ho) rfl rfl rfl rfl rfl rfl rfl ?_
      refine pk_aload_n dX0_greaterThan_17 rfl ?_
      refine pk_iload_n dX0_greaterThan_18 rfl ?_
      refine pk_Vi dX0_greaterThan_19 ml_X0_72 yw_X0_placesOf yv_X0_placesOf (hW.s rfl) (e_X0_placesOf hW hok har ha) rfl rfl rfl rfl rfl rfl rfl ?_
      refine pk_isub dX0_greaterThan_22 ?_
      refine pk_istore dX0_greaterThan_23 rfl rfl ?_
      refine pk_iload dX0_greaterThan_25 rfl ?_
      refine pk_if_gt (tgt := 40) dX0_greaterThan_27 (by decide) (fun c_27 => ?_) (fun c_27 => ?_)
      · first | refine pk_inc1 dX0_greaterThan_40 rfl rfl ?_ | refine pk_iinc dX0_greaterThan_40 rfl rfl rfl ?_
        first | refine pk_inc1 dX0_greaterThan_43 rfl rfl ?_ | refine pk_iinc dX0_greaterThan_43 rfl rfl rfl ?_
        refine pk_goto (tgt := 4) dX0_greaterThan_46 (by decide) ?_
        refine pk_fgt (ls' := _) ?_ K
        rw [sp_c_succ]
        by_cases hf : (decide (sp_sz A (sp_ro A a) < sp_sz A (sp_ro A o)) || (sp_sz A (sp_ro A o) == sp_sz A (sp_ro A a) && decide (o < a))) = true
        · rw [if_pos hf]
          first
            | exact ⟨rfl, rfl, rfl, rfl, trivial⟩
            | (exfalso
               rw [Bool.or_eq_true, decide_eq_true_eq, Bool.and_eq_true, beq_iff_eq, decide_eq_true_eq] at hf
               rcases hf with hf | ⟨h1, h2⟩
               · exact c_27 (hsub.1.mpr hf)
               · first | omega | exact c_32 (hsub.2.mpr h1))
        · rw [if_neg hf]
          first
            | exact ⟨rfl, rfl, rfl, rfl, trivial⟩
            | (exfalso
               apply hf
               rw [Bool.or_eq_true, decide_eq_true_eq, Bool.and_eq_true, beq_iff_eq, decide_eq_true_eq]
               first
                 | exact Or.inl (hsub.1.mp c_27)
                 | exact Or.inr ⟨hsub.2.mp c_32, c_37⟩)
      · refine pk_iload dX0_greaterThan_30 rfl ?_
        refine pk_if_ne (tgt := 43) dX0_greaterThan_32 (by decide) (fun c_32 => ?_) (fun c_32 => ?_)
        · first | refine pk_inc1 dX0_greaterThan_43 rfl rfl ?_ | refine pk_iinc dX0_greaterThan_43 rfl rfl rfl ?_
          refine pk_goto (tgt := 4) dX0_greaterThan_46 (by decide) ?_
          refine pk_fgt (ls' := _) ?_ K
          rw [sp_c_succ]
          by_cases hf : (decide (sp_sz A (sp_ro A a) < sp_sz A (sp_ro A o)) || (sp_sz A (sp_ro A o) == sp_sz A (sp_ro A a) && decide (o < a))) = true
          · rw [if_pos hf]
            first
              | exact ⟨rfl, rfl, rfl, rfl, trivial⟩
              | (exfalso
                 rw [Bool.or_eq_true, decide_eq_true_eq, Bool.and_eq_true, beq_iff_eq, decide_eq_true_eq] at hf
                 rcases hf with hf | ⟨h1, h2⟩
                 · exact c_27 (hsub.1.mpr hf)
                 · first | omega | exact c_32 (hsub.2.mpr h1))
          · rw [if_neg hf]
            first
              | exact ⟨rfl, rfl, rfl, rfl, trivial⟩
              | (exfalso
                 apply hf
                 rw [Bool.or_eq_true, decide_eq_true_eq, Bool.and_eq_true, beq_iff_eq, decide_eq_true_eq]
                 first
                   | exact Or.inl (hsub.1.mp c_27)
                   | exact Or.inr ⟨hsub.2.mp c_32, c_37⟩)
        · refine pk_iload_n dX0_greaterThan_35 rfl ?_
          refine pk_iload_n dX0_greaterThan_36 rfl ?_
          first | refine pk_geN (tgt := 43) dX0_greaterThan_37 (by decide) (by omega) (by omega) (fun c_37 => ?_) (fun c_37 => ?_) | refine pk_icmp_ge (tgt := 43) dX0_greaterThan_37 (by decide) (fun c_37 => ?_) (fun c_37 => ?_)
          · first | refine pk_inc1 dX0_greaterThan_43 rfl rfl ?_ | refine pk_iinc dX0_greaterThan_43 rfl rfl rfl ?_
            refine pk_goto (tgt := 4) dX0_greaterThan_46 (by decide) ?_
            refine pk_fgt (ls' := _) ?_ K
            rw [sp_c_succ]
            by_cases hf : (decide (sp_sz A (sp_ro A a) < sp_sz A (sp_ro A o)) || (sp_sz A (sp_ro A o) == sp_sz A (sp_ro A a) && decide (o < a))) = true
            · rw [if_pos hf]
              first
                | exact ⟨rfl, rfl, rfl, rfl, trivial⟩
                | (exfalso
                   rw [Bool.or_eq_true, decide_eq_true_eq, Bool.and_eq_true, beq_iff_eq, decide_eq_true_eq] at hf
                   rcases hf with hf | ⟨h1, h2⟩
                   · exact c_27 (hsub.1.mpr hf)
                   · first | omega | exact c_32 (hsub.2.mpr h1))
            · rw [if_neg hf]
              first
                | exact ⟨rfl, rfl, rfl, rfl, trivial⟩
                | (exfalso
                   apply hf
                   rw [Bool.or_eq_true, decide_eq_true_eq, Bool.and_eq_true, beq_iff_eq, decide_eq_true_eq]
                   first
                     | exact Or.inl (hsub.1.mp c_27)
                     | exact Or.inr ⟨hsub.2.mp c_32, c_37⟩)
          · first | refine pk_inc1 dX0_greaterThan_40 rfl rfl ?_ | refine pk_iinc dX0_greaterThan_40 rfl rfl rfl ?_
            first | refine pk_inc1 dX0_greaterThan_43 rfl rfl ?_ | refine pk_iinc dX0_greaterThan_43 rfl rfl rfl ?_
            refine pk_goto (tgt := 4) dX0_greaterThan_46 (by decide) ?_
            refine pk_fgt (ls' := _) ?_ K
            rw [sp_c_succ]
            by_cases hf : (decide (sp_sz A (sp_ro A a) < sp_sz A (sp_ro A o)) || (sp_sz A (sp_ro A o) == sp_sz A (sp_ro A a) && decide (o < a))) = true
            · rw [if_pos hf]
              first
                | exact ⟨rfl, rfl, rfl, rfl, trivial⟩
                | (exfalso
                   rw [Bool.or_eq_true, decide_eq_true_eq, Bool.and_eq_true, beq_iff_eq, decide_eq_true_eq] at hf
                   rcases hf with hf | ⟨h1, h2⟩
                   · exact c_27 (hsub.1.mpr hf)
                   · first | omega | exact c_32 (hsub.2.mpr h1))
            · rw [if_neg hf]
              first
                | exact ⟨rfl, rfl, rfl, rfl, trivial⟩
                | (exfalso
                   apply hf
                   rw [Bool.or_eq_true, decide_eq_true_eq, Bool.and_eq_true, beq_iff_eq, decide_eq_true_eq]
                   first
                     | exact Or.inl (hsub.1.mp c_27)
                     | exact Or.inr ⟨hsub.2.mp c_32, c_37⟩)
  · refine pk_iload_n dX0_greaterThan_4 rfl ?_
    refine pk_aload_n dX0_greaterThan_5 rfl ?_
    refine pk_getN dX0_greaterThan_6 fl_X0_32 rfl (hW.s rfl) har.1 ?_
    first | refine pk_geN (tgt := 49) dX0_greaterThan_9 (by decide) (by omega) (by omega) (fun c_9 => ?_) (fun c_9 => ?_) | refine pk_icmp_ge (tgt := 49) dX0_greaterThan_9 (by decide) (fun c_9 => ?_) (fun c_9 => ?_)
    · refine pk_iload_n dX0_greaterThan_49 rfl ?_
      refine pk_reti dX0_greaterThan_50 (by first | rfl | exact pk_nbi _) ?_
      exact ⟨rfl, rfl⟩
    · omega

/-- the area c, not a, is met beside the place q -/
noncomputable def sp_mb (A : pk_St) (q a c t : Nat) : Bool := match sp_nb A q t with
  | some z => (sp_num2 A z == c) && !(c == a)
  | none => false
theorem sp_c_or {f g : Nat → Bool} (n : Nat) : sp_c (fun c => f c || g c) n = sp_c f n + sp_c (fun c => g c && !f c) n := by
  induction n with
  | zero => rfl
  | succ n ih =>
    rw [sp_c_succ, sp_c_succ, sp_c_succ, ih]
    cases f n <;> cases g n <;> simp <;> omega

set_option maxRecDepth 100000 in
set_option maxHeartbeats 4000000 in
theorem e_X0_meetBeside {Γ : pk_T} {M : pk_M} {L a i j : Nat} {A : pk_St} (hW : pk_WF L M) (hA : pk_At M 6 A) (hok : pk_okS A) (hro : pk_ro M) (har : pk_ara A M) (hi : i < sp_w A) (hj : j < sp_h A) (ha : a < 48) {mt : Nat → Bool} (hmt : ∀ c, c < 48 → pk_I M 87 c = pk_bi (mt c)) : pk_E Γ yX0_meetBeside cX0_meetBeside 10 (some .int) 2 0 0 M [.ref 82, .int (nI i), .int (nI j), .int (nI a), .ref 6] (fun r M' => r = some (.int (nI (sp_c (fun c => sp_any (sp_mb A (j * 8 + i) a c) 4 && !mt c) 48))) ∧ M' = (pk_wI M 87 (fun c => if sp_any (sp_mb A (j * 8 + i) a c) 4 then 1 else pk_I M 87 c))) := by
  refine pk_meth (own := RX0) (ini := false) [some (.ref 82), some (.int (nI i)), some (.int (nI j)), some (.int (nI a)), some (.ref 6), none, none, none, none, none] (by decide +kernel) rfl (by decide +kernel) rfl rfl ?_
  have hw := hok.1
  have hh := hok.2.1
  have hin : sp_in A (j * 8 + i) = true := sp_in_of (by omega) (by omega)
  refine pk_iconst (v := nI 0) dX0_meetBeside_0 (by decide) ?_
  refine pk_istore dX0_meetBeside_1 rfl rfl ?_
  refine pk_iconst (v := nI 0) dX0_meetBeside_3 (by decide) ?_
  refine pk_istore dX0_meetBeside_4 rfl rfl ?_
  refine pk_Mq (M' := (pk_wI M 87 (fun c => if sp_any (sp_mb A (j * 8 + i) a c) 0 then 1 else pk_I M 87 c))) (pk_wI_id M 87).symm ?_
  refine pk_fgt (ls' := [some (.ref 82), some (.int (nI (i))), some (.int (nI (j))), some (.int (nI (a))), some (.ref 6), some (.int (nI (sp_c (fun c => sp_any (sp_mb A (j * 8 + i) a c) 0 && !mt c) 48))), some (.int (nI (0))), none, none, none]) ?_ ?_
  · have e0 : sp_c (fun c => sp_any (sp_mb A (j * 8 + i) a c) 0 && !mt c) 48 = 0 := sp_c_skip (n := 0) (by omega) (fun _ _ _ => rfl)
    rw [e0]
    repeat first | exact trivial | refine ⟨rfl, ?_⟩
  refine pk_for 4 (fun t => (pk_wI M 87 (fun c => if sp_any (sp_mb A (j * 8 + i) a c) t then 1 else pk_I M 87 c))) (fun t => [some (.ref 82), some (.int (nI (i))), some (.int (nI (j))), some (.int (nI (a))), some (.ref 6), some (.int (nI (sp_c (fun c => sp_any (sp_mb A (j * 8 + i) a c) t && !mt c) 48))), some (.int (nI (t))), none, none, none]) ?_ ?_ 0 (by omega)
  · intro t ht K
    have hf : pk_fr (fun q => q = 87) M (pk_wI M 87 (fun c => if sp_any (sp_mb A (j * 8 + i) a c) t then 1 else pk_I M 87 c)) := pk_fr.wI rfl
    have hW2 := hf.wf hW
    have hA2 := hf.at (p := 6) (fun q h1 h2 h3 => by omega) hA
    have hro2 := hf.ro (fun q h1 h2 => by omega) hro
    have hcl := sp_c_le (fun c => sp_any (sp_mb A (j * 8 + i) a c) t && !mt c) 48
    have hm87 : ∀ c, c < 48 → pk_I (pk_wI M 87 (fun c => if sp_any (sp_mb A (j * 8 + i) a c) t then 1 else pk_I M 87 c)) 87 c = pk_bi (sp_any (sp_mb A (j * 8 + i) a c) t || mt c) := by
      intro c hc
      refine pk_gW1 rfl ?_
      rw [hmt c hc]
      cases sp_any (sp_mb A (j * 8 + i) a c) t <;> rfl
    refine pk_iload dX0_meetBeside_6 rfl ?_
    refine pk_iconst (v := nI 4) dX0_meetBeside_8 (by decide) ?_
    first | refine pk_geN (tgt := 101) dX0_meetBeside_9 (by decide) (by omega) (by omega) (fun c_9 => ?_) (fun c_9 => ?_) | refine pk_icmp_ge (tgt := 101) dX0_meetBeside_9 (by decide) (fun c_9 => ?_) (fun c_9 => ?_)
    · omega
    · refine pk_iload_n dX0_meetBeside_12 rfl ?_
      refine pk_gets (q := 2) dX0_meetBeside_13 (by decide) gs_X0_63 ?_
      refine pk_iload dX0_meetBeside_16 rfl ?_
      refine pk_aldV dX0_meetBeside_18 (hW2.s rfl) (by omega) (by omega) (hro2.2.1 t (by omega)) ?_
      refine pk_iadd dX0_meetBeside_19 ?_
      refine pk_istore dX0_meetBeside_20 rfl rfl ?_
      refine pk_iload_n dX0_meetBeside_22 rfl ?_
      refine pk_gets (q := 3) dX0_meetBeside_23 (by decide) gs_X0_66 ?_
      refine pk_iload dX0_meetBeside_26 rfl ?_
      refine pk_aldV dX0_meetBeside_28 (hW2.s rfl) (by omega) (by omega) (hro2.2.2.1 t (by omega)) ?_
      refine pk_iadd dX0_meetBeside_29 ?_
      refine pk_istore dX0_meetBeside_30 rfl rfl ?_
      refine pk_aload dX0_meetBeside_32 rfl ?_
      refine pk_iload dX0_meetBeside_34 rfl ?_
      refine pk_iload dX0_meetBeside_36 rfl ?_
      refine pk_Vi dX0_meetBeside_38 ml_X0_69 yw_X4_isInside yv_X4_isInside (hW2.s rfl) (e_X4_isInside (p := 6) hW2 rfl hA2 hok _ _) rfl rfl rfl rfl rfl rfl rfl ?_
      first | refine pk_eqb (tgt := 55) dX0_meetBeside_41 (by decide) (fun c_41 => ?_) (fun c_41 => ?_) | refine pk_eq0N (tgt := 55) dX0_meetBeside_41 (by decide) (by omega) (fun c_41 => ?_) (fun c_41 => ?_) | refine pk_if_eq (tgt := 55) dX0_meetBeside_41 (by decide) (fun c_41 => ?_) (fun c_41 => ?_)
      · refine pk_iload_n dX0_meetBeside_55 rfl ?_
        refine pk_istore dX0_meetBeside_56 rfl rfl ?_
        refine pk_iload dX0_meetBeside_58 rfl ?_
        refine pk_iload_n dX0_meetBeside_60 rfl ?_
        first | refine pk_eqN (tgt := 95) dX0_meetBeside_61 (by decide) (by omega) (by omega) (fun c_61 => ?_) (fun c_61 => ?_) | refine pk_icmp_eq (tgt := 95) dX0_meetBeside_61 (by decide) (fun c_61 => ?_) (fun c_61 => ?_)
        · first | refine pk_inc1 dX0_meetBeside_95 rfl rfl ?_ | refine pk_iinc dX0_meetBeside_95 rfl rfl rfl ?_
          refine pk_goto (tgt := 6) dX0_meetBeside_98 (by decide) ?_
          have hnone : sp_nb A (j * 8 + i) t = none := by
            rw [sp_nb, show (j * 8 + i) % 8 = i by omega, show (j * 8 + i) / 8 = j by omega, c_41]
            rfl
          have e : ∀ c, sp_any (sp_mb A (j * 8 + i) a c) (t + 1) = sp_any (sp_mb A (j * 8 + i) a c) t := fun c => by
            rw [sp_any_succ, show sp_mb A (j * 8 + i) a c t = false by simp only [sp_mb, hnone], Bool.or_false]
          simp only [e] at K
          exact pk_fgt (by repeat first | exact trivial | refine ⟨rfl, ?_⟩) K
        · exact absurd rfl c_61
      · obtain ⟨x, y, hx, hy, ex, ey⟩ := sp_inb_of hok c_41
        have hnb : sp_nb A (j * 8 + i) t = some (y * 8 + x) := by
          rw [sp_nb, show (j * 8 + i) % 8 = i by omega, show (j * 8 + i) / 8 = j by omega, c_41, if_pos rfl, ex, ey, nI_clamp (by omega), nI_clamp (by omega)]
        rw [ex, ey]
        have hzin : sp_in A (y * 8 + x) = true := sp_in_of (by omega) (by omega)
        have hzl := sp_num2_lt hok hzin
        have hml := sp_many_le A
        refine pk_aload_n dX0_meetBeside_44 rfl ?_
        refine pk_iload dX0_meetBeside_45 rfl ?_
        refine pk_iload dX0_meetBeside_47 rfl ?_
        refine pk_Vi dX0_meetBeside_49 ml_X0_43 yw_X0_at yv_X0_at (hW2.s rfl) (e_X0_at hW2 (by omega)) rfl rfl rfl rfl rfl rfl rfl ?_
        rw [show pk_I (pk_wI M 87 (fun c => if sp_any (sp_mb A (j * 8 + i) a c) t then 1 else pk_I M 87 c)) 83 (y * 8 + x) = nI (sp_num2 A (y * 8 + x)) from pk_gW0 (by omega) (har.2.1 _ hzin)]
        refine pk_goto (tgt := 56) dX0_meetBeside_52 (by decide) ?_
        refine pk_istore dX0_meetBeside_56 rfl rfl ?_
        refine pk_iload dX0_meetBeside_58 rfl ?_
        refine pk_iload_n dX0_meetBeside_60 rfl ?_
        first | refine pk_eqN (tgt := 95) dX0_meetBeside_61 (by decide) (by omega) (by omega) (fun c_61 => ?_) (fun c_61 => ?_) | refine pk_icmp_eq (tgt := 95) dX0_meetBeside_61 (by decide) (fun c_61 => ?_) (fun c_61 => ?_)
        · first | refine pk_inc1 dX0_meetBeside_95 rfl rfl ?_ | refine pk_iinc dX0_meetBeside_95 rfl rfl rfl ?_
          refine pk_goto (tgt := 6) dX0_meetBeside_98 (by decide) ?_
          have hs : ∀ c, sp_any (sp_mb A (j * 8 + i) a c) (t + 1) = (sp_any (sp_mb A (j * 8 + i) a c) t || (((sp_num2 A (y * 8 + x)) == c) && !(c == a))) := fun c => by
            rw [sp_any_succ]
            congr 1
            simp only [sp_mb, hnb]
          by_cases hk : (sp_num2 A (y * 8 + x)) = a
          · have e : ∀ c, sp_any (sp_mb A (j * 8 + i) a c) (t + 1) = sp_any (sp_mb A (j * 8 + i) a c) t := fun c => by
              rw [hs c, hk]
              cases h1 : (a == c)
              · simp
              · have := eq_of_beq h1
                subst this
                simp
            simp only [e] at K
            first
              | exact pk_fgt (by repeat first | exact trivial | refine ⟨rfl, ?_⟩) K
              | exact absurd hk c_61
          · have hkk : ((sp_num2 A (y * 8 + x)) == a) = false := by simp [hk]
            have hne : ∀ c, ¬ c = (sp_num2 A (y * 8 + x)) → ((sp_num2 A (y * 8 + x)) == c) = false := fun c h => by
              simp only [beq_eq_false_iff_ne]
              exact fun h2 => h h2.symm
            cases hb : (sp_any (sp_mb A (j * 8 + i) a (sp_num2 A (y * 8 + x))) t || mt (sp_num2 A (y * 8 + x)))
            · first
                | exact absurd c_61 hk
                | (cases c_81.symm.trans hb; done)
                | (rw [Bool.or_eq_false_iff] at hb
                   have hadd := sp_c_add (R := fun c => sp_any (sp_mb A (j * 8 + i) a c) t && !mt c) (r := (sp_num2 A (y * 8 + x))) (n := 48) (by omega) (by rw [hb.1]; rfl)
                   have ec : sp_c (fun c => sp_any (sp_mb A (j * 8 + i) a c) (t + 1) && !mt c) 48 = sp_c (fun c => sp_any (sp_mb A (j * 8 + i) a c) t && !mt c) 48 + 1 := by
                     rw [← hadd]
                     apply sp_c_congr
                     intro c _
                     rw [hs c]
                     by_cases e : c = (sp_num2 A (y * 8 + x))
                     · subst e
                       rw [hb.1, hb.2, hkk]
                       simp
                     · have e1 : (c == (sp_num2 A (y * 8 + x))) = false := by simp [e]
                       rw [e1, hne c e]
                       simp
                   rw [ec] at K
                   refine pk_Mq ?_ (pk_fgt (by repeat first | exact trivial | refine ⟨rfl, ?_⟩) K)
                   congr 1
                   funext c
                   rw [hs c]
                   by_cases e : c = (sp_num2 A (y * 8 + x))
                   · subst e
                     rw [if_pos rfl, hkk]
                     simp
                     rfl
                   · rw [if_neg e, hne c e]
                     simp)
            · first
                | exact absurd c_61 hk
                | (cases c_81.symm.trans hb; done)
                | (have e1 : (fun c => sp_any (sp_mb A (j * 8 + i) a c) (t + 1) && !mt c) = (fun c => sp_any (sp_mb A (j * 8 + i) a c) t && !mt c) := by
                     funext c
                     rw [hs c]
                     by_cases e : c = (sp_num2 A (y * 8 + x))
                     · subst e
                       cases h1 : sp_any (sp_mb A (j * 8 + i) a (sp_num2 A (y * 8 + x))) t
                       · rw [h1, Bool.false_or] at hb
                         rw [hb]
                         simp
                       · simp
                     · rw [hne c e]
                       simp
                   have e3 : (fun c => if sp_any (sp_mb A (j * 8 + i) a c) (t + 1) then (1 : Int32) else pk_I M 87 c) = (fun c => if sp_any (sp_mb A (j * 8 + i) a c) t then (1 : Int32) else pk_I M 87 c) := by
                     funext c
                     rw [hs c]
                     by_cases e : c = (sp_num2 A (y * 8 + x))
                     · subst e
                       cases h1 : sp_any (sp_mb A (j * 8 + i) a (sp_num2 A (y * 8 + x))) t
                       · rw [h1, Bool.false_or] at hb
                         rw [hmt _ (by omega), hb, show pk_bi true = 1 from rfl]
                         simp
                       · simp
                     · rw [hne c e]
                       simp
                   rw [e1, e3] at K
                   exact pk_fgt (by repeat first | exact trivial | refine ⟨rfl, ?_⟩) K)
        · refine pk_iload dX0_meetBeside_64 rfl ?_
          refine pk_bipush (v := nI 48) dX0_meetBeside_66 (by decide) ?_
          refine pk_Si dX0_meetBeside_68 ml_X0_51 yw_X6_isBelow ys_X6_isBelow (e_X6_isBelow _ _) rfl rfl rfl rfl rfl rfl rfl ?_
          first | refine pk_eqb (tgt := 95) dX0_meetBeside_71 (by decide) (fun c_71 => ?_) (fun c_71 => ?_) | refine pk_eq0N (tgt := 95) dX0_meetBeside_71 (by decide) (by omega) (fun c_71 => ?_) (fun c_71 => ?_) | refine pk_if_eq (tgt := 95) dX0_meetBeside_71 (by decide) (fun c_71 => ?_) (fun c_71 => ?_)
          · exfalso; simp [nI_pos' (show sp_num2 A (y * 8 + x) < 2 ^ 31 by omega), nI_ltI (show sp_num2 A (y * 8 + x) < 2 ^ 31 by omega) (show 48 < 2 ^ 31 by decide)] at c_71; omega
          · refine pk_aload_n dX0_meetBeside_74 rfl ?_
            refine pk_getP dX0_meetBeside_75 fl_X0_24 rfl (hW2.s rfl) (hW2.p rfl) ?_
            refine pk_iload dX0_meetBeside_78 rfl ?_
            refine pk_zaN dX0_meetBeside_80 (hW2.s rfl) (by omega) (by omega) (by omega) (hm87 (sp_num2 A (y * 8 + x)) (by omega)) ?_
            first | refine pk_neb (tgt := 95) dX0_meetBeside_81 (by decide) (fun c_81 => ?_) (fun c_81 => ?_) | refine pk_ne0N (tgt := 95) dX0_meetBeside_81 (by decide) (by omega) (fun c_81 => ?_) (fun c_81 => ?_) | refine pk_if_ne (tgt := 95) dX0_meetBeside_81 (by decide) (fun c_81 => ?_) (fun c_81 => ?_)
            · first | refine pk_inc1 dX0_meetBeside_95 rfl rfl ?_ | refine pk_iinc dX0_meetBeside_95 rfl rfl rfl ?_
              refine pk_goto (tgt := 6) dX0_meetBeside_98 (by decide) ?_
              have hs : ∀ c, sp_any (sp_mb A (j * 8 + i) a c) (t + 1) = (sp_any (sp_mb A (j * 8 + i) a c) t || (((sp_num2 A (y * 8 + x)) == c) && !(c == a))) := fun c => by
                rw [sp_any_succ]
                congr 1
                simp only [sp_mb, hnb]
              by_cases hk : (sp_num2 A (y * 8 + x)) = a
              · have e : ∀ c, sp_any (sp_mb A (j * 8 + i) a c) (t + 1) = sp_any (sp_mb A (j * 8 + i) a c) t := fun c => by
                  rw [hs c, hk]
                  cases h1 : (a == c)
                  · simp
                  · have := eq_of_beq h1
                    subst this
                    simp
                simp only [e] at K
                first
                  | exact pk_fgt (by repeat first | exact trivial | refine ⟨rfl, ?_⟩) K
                  | exact absurd hk c_61
              · have hkk : ((sp_num2 A (y * 8 + x)) == a) = false := by simp [hk]
                have hne : ∀ c, ¬ c = (sp_num2 A (y * 8 + x)) → ((sp_num2 A (y * 8 + x)) == c) = false := fun c h => by
                  simp only [beq_eq_false_iff_ne]
                  exact fun h2 => h h2.symm
                cases hb : (sp_any (sp_mb A (j * 8 + i) a (sp_num2 A (y * 8 + x))) t || mt (sp_num2 A (y * 8 + x)))
                · first
                    | exact absurd c_61 hk
                    | (cases c_81.symm.trans hb; done)
                    | (rw [Bool.or_eq_false_iff] at hb
                       have hadd := sp_c_add (R := fun c => sp_any (sp_mb A (j * 8 + i) a c) t && !mt c) (r := (sp_num2 A (y * 8 + x))) (n := 48) (by omega) (by rw [hb.1]; rfl)
                       have ec : sp_c (fun c => sp_any (sp_mb A (j * 8 + i) a c) (t + 1) && !mt c) 48 = sp_c (fun c => sp_any (sp_mb A (j * 8 + i) a c) t && !mt c) 48 + 1 := by
                         rw [← hadd]
                         apply sp_c_congr
                         intro c _
                         rw [hs c]
                         by_cases e : c = (sp_num2 A (y * 8 + x))
                         · subst e
                           rw [hb.1, hb.2, hkk]
                           simp
                         · have e1 : (c == (sp_num2 A (y * 8 + x))) = false := by simp [e]
                           rw [e1, hne c e]
                           simp
                       rw [ec] at K
                       refine pk_Mq ?_ (pk_fgt (by repeat first | exact trivial | refine ⟨rfl, ?_⟩) K)
                       congr 1
                       funext c
                       rw [hs c]
                       by_cases e : c = (sp_num2 A (y * 8 + x))
                       · subst e
                         rw [if_pos rfl, hkk]
                         simp
                         rfl
                       · rw [if_neg e, hne c e]
                         simp)
                · first
                    | exact absurd c_61 hk
                    | (cases c_81.symm.trans hb; done)
                    | (have e1 : (fun c => sp_any (sp_mb A (j * 8 + i) a c) (t + 1) && !mt c) = (fun c => sp_any (sp_mb A (j * 8 + i) a c) t && !mt c) := by
                         funext c
                         rw [hs c]
                         by_cases e : c = (sp_num2 A (y * 8 + x))
                         · subst e
                           cases h1 : sp_any (sp_mb A (j * 8 + i) a (sp_num2 A (y * 8 + x))) t
                           · rw [h1, Bool.false_or] at hb
                             rw [hb]
                             simp
                           · simp
                         · rw [hne c e]
                           simp
                       have e3 : (fun c => if sp_any (sp_mb A (j * 8 + i) a c) (t + 1) then (1 : Int32) else pk_I M 87 c) = (fun c => if sp_any (sp_mb A (j * 8 + i) a c) t then (1 : Int32) else pk_I M 87 c) := by
                         funext c
                         rw [hs c]
                         by_cases e : c = (sp_num2 A (y * 8 + x))
                         · subst e
                           cases h1 : sp_any (sp_mb A (j * 8 + i) a (sp_num2 A (y * 8 + x))) t
                           · rw [h1, Bool.false_or] at hb
                             rw [hmt _ (by omega), hb, show pk_bi true = 1 from rfl]
                             simp
                           · simp
                         · rw [hne c e]
                           simp
                       rw [e1, e3] at K
                       exact pk_fgt (by repeat first | exact trivial | refine ⟨rfl, ?_⟩) K)
            · refine pk_aload_n dX0_meetBeside_84 rfl ?_
              refine pk_getP dX0_meetBeside_85 fl_X0_24 rfl (hW2.s rfl) (hW2.p rfl) ?_
              refine pk_iload dX0_meetBeside_88 rfl ?_
              refine pk_iconst (v := nI 1) dX0_meetBeside_90 (by decide) ?_
              refine pk_zasN dX0_meetBeside_91 (hW2.s rfl) (by omega) (by omega) (by omega) rfl ?_
              rw [pk_wI_sI]
              first | refine pk_inc1 dX0_meetBeside_92 rfl rfl ?_ | refine pk_iinc dX0_meetBeside_92 rfl rfl rfl ?_
              first | refine pk_inc1 dX0_meetBeside_95 rfl rfl ?_ | refine pk_iinc dX0_meetBeside_95 rfl rfl rfl ?_
              refine pk_goto (tgt := 6) dX0_meetBeside_98 (by decide) ?_
              have hs : ∀ c, sp_any (sp_mb A (j * 8 + i) a c) (t + 1) = (sp_any (sp_mb A (j * 8 + i) a c) t || (((sp_num2 A (y * 8 + x)) == c) && !(c == a))) := fun c => by
                rw [sp_any_succ]
                congr 1
                simp only [sp_mb, hnb]
              by_cases hk : (sp_num2 A (y * 8 + x)) = a
              · have e : ∀ c, sp_any (sp_mb A (j * 8 + i) a c) (t + 1) = sp_any (sp_mb A (j * 8 + i) a c) t := fun c => by
                  rw [hs c, hk]
                  cases h1 : (a == c)
                  · simp
                  · have := eq_of_beq h1
                    subst this
                    simp
                simp only [e] at K
                first
                  | exact pk_fgt (by repeat first | exact trivial | refine ⟨rfl, ?_⟩) K
                  | exact absurd hk c_61
              · have hkk : ((sp_num2 A (y * 8 + x)) == a) = false := by simp [hk]
                have hne : ∀ c, ¬ c = (sp_num2 A (y * 8 + x)) → ((sp_num2 A (y * 8 + x)) == c) = false := fun c h => by
                  simp only [beq_eq_false_iff_ne]
                  exact fun h2 => h h2.symm
                cases hb : (sp_any (sp_mb A (j * 8 + i) a (sp_num2 A (y * 8 + x))) t || mt (sp_num2 A (y * 8 + x)))
                · first
                    | exact absurd c_61 hk
                    | (cases c_81.symm.trans hb; done)
                    | (rw [Bool.or_eq_false_iff] at hb
                       have hadd := sp_c_add (R := fun c => sp_any (sp_mb A (j * 8 + i) a c) t && !mt c) (r := (sp_num2 A (y * 8 + x))) (n := 48) (by omega) (by rw [hb.1]; rfl)
                       have ec : sp_c (fun c => sp_any (sp_mb A (j * 8 + i) a c) (t + 1) && !mt c) 48 = sp_c (fun c => sp_any (sp_mb A (j * 8 + i) a c) t && !mt c) 48 + 1 := by
                         rw [← hadd]
                         apply sp_c_congr
                         intro c _
                         rw [hs c]
                         by_cases e : c = (sp_num2 A (y * 8 + x))
                         · subst e
                           rw [hb.1, hb.2, hkk]
                           simp
                         · have e1 : (c == (sp_num2 A (y * 8 + x))) = false := by simp [e]
                           rw [e1, hne c e]
                           simp
                       rw [ec] at K
                       refine pk_Mq ?_ (pk_fgt (by repeat first | exact trivial | refine ⟨rfl, ?_⟩) K)
                       congr 1
                       funext c
                       rw [hs c]
                       by_cases e : c = (sp_num2 A (y * 8 + x))
                       · subst e
                         rw [if_pos rfl, hkk]
                         simp
                         rfl
                       · rw [if_neg e, hne c e]
                         simp)
                · first
                    | exact absurd c_61 hk
                    | (cases c_81.symm.trans hb; done)
                    | (have e1 : (fun c => sp_any (sp_mb A (j * 8 + i) a c) (t + 1) && !mt c) = (fun c => sp_any (sp_mb A (j * 8 + i) a c) t && !mt c) := by
                         funext c
                         rw [hs c]
                         by_cases e : c = (sp_num2 A (y * 8 + x))
                         · subst e
                           cases h1 : sp_any (sp_mb A (j * 8 + i) a (sp_num2 A (y * 8 + x))) t
                           · rw [h1, Bool.false_or] at hb
                             rw [hb]
                             simp
                           · simp
                         · rw [hne c e]
                           simp
                       have e3 : (fun c => if sp_any (sp_mb A (j * 8 + i) a c) (t + 1) then (1 : Int32) else pk_I M 87 c) = (fun c => if sp_any (sp_mb A (j * 8 + i) a c) t then (1 : Int32) else pk_I M 87 c) := by
                         funext c
                         rw [hs c]
                         by_cases e : c = (sp_num2 A (y * 8 + x))
                         · subst e
                           cases h1 : sp_any (sp_mb A (j * 8 + i) a (sp_num2 A (y * 8 + x))) t
                           · rw [h1, Bool.false_or] at hb
                             rw [hmt _ (by omega), hb, show pk_bi true = 1 from rfl]
                             simp
                           · simp
                         · rw [hne c e]
                           simp
                       rw [e1, e3] at K
                       exact pk_fgt (by repeat first | exact trivial | refine ⟨rfl, ?_⟩) K)
  · refine pk_iload dX0_meetBeside_6 rfl ?_
    refine pk_iconst (v := nI 4) dX0_meetBeside_8 (by decide) ?_
    first | refine pk_geN (tgt := 101) dX0_meetBeside_9 (by decide) (by omega) (by omega) (fun c_9 => ?_) (fun c_9 => ?_) | refine pk_icmp_ge (tgt := 101) dX0_meetBeside_9 (by decide) (fun c_9 => ?_) (fun c_9 => ?_)
    · refine pk_iload dX0_meetBeside_101 rfl ?_
      refine pk_reti dX0_meetBeside_103 (by first | rfl | exact pk_nbi _) ?_
      exact ⟨rfl, rfl⟩
    · omega
