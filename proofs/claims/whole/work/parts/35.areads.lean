/-! Areas: reading them. -/
/-- the first place of the area a -/
noncomputable def sp_ro (A : pk_St) (a : Nat) : Nat := sp_fst (fun q => sp_root A q && (sp_c (sp_root A) q == a)) 48
theorem sp_c_hit {f : Nat → Bool} {n a : Nat} (h : a < sp_c f n) : ∃ q, q < n ∧ f q = true ∧ sp_c f q = a := by
  induction n with
  | zero => exact absurd h (Nat.not_lt_zero a)
  | succ n ih =>
    rw [sp_c_succ] at h
    by_cases e : a < sp_c f n
    · obtain ⟨q, h1, h2⟩ := ih e
      exact ⟨q, by omega, h2⟩
    · cases hf : f n
      · rw [hf, if_neg (by decide)] at h
        omega
      · rw [hf, if_pos rfl] at h
        exact ⟨n, by omega, hf, by omega⟩
theorem sp_ro_of {A : pk_St} {a : Nat} (h : a < sp_many A) : sp_root A (sp_ro A a) = true ∧ sp_c (sp_root A) (sp_ro A a) = a := by
  obtain ⟨q, h1, h2, h3⟩ := sp_c_hit h
  have := (sp_fst_spec (f := fun q => sp_root A q && (sp_c (sp_root A) q == a)) (sp_any_true h1 (by simp [h2, h3]))).1
  simp only [Bool.and_eq_true, beq_iff_eq] at this
  exact this
theorem sp_ro_lt {A : pk_St} (hA : pk_okS A) {a : Nat} (h : a < sp_many A) : sp_in A (sp_ro A a) = true ∧ sp_ro A a < 48 := by
  have h1 := (sp_ro_of h).1
  rw [sp_root, Bool.and_eq_true] at h1
  exact ⟨h1.1, (sp_in_lt hA h1.1).2.2⟩
theorem sp_many_le (A : pk_St) : sp_many A ≤ 48 := sp_c_le _ 48
theorem sp_sz_le (A : pk_St) (r : Nat) : sp_sz A r ≤ 48 := sp_c_le _ 48
theorem sp_num2_lt {A : pk_St} (hA : pk_okS A) {q : Nat} (h : sp_in A q = true) : sp_num2 A q < sp_many A := sp_c_lt (sp_lab_in hA h).2.2.1 (sp_root_lab hA h)

set_option maxRecDepth 100000 in
set_option maxHeartbeats 4000000 in
theorem e_X0_firstX {Γ : pk_T} {M : pk_M} {L a : Nat} {A : pk_St} (hW : pk_WF L M) (hok : pk_okS A) (har : pk_ara A M) (ha : a < sp_many A) : pk_E Γ yX0_firstX cX0_firstX 2 (some .int) 1 0 0 M [.ref 82, .int (nI a)] (fun r M' => r = some (.int (nI (sp_ro A a % 8))) ∧ M' = M) := by
  refine pk_meth (own := RX0) (ini := false) [some (.ref 82), some (.int (nI a))] (by decide +kernel) rfl (by decide +kernel) rfl rfl ?_
  have hm := sp_many_le A
  have hro := sp_ro_of ha
  have hrl := sp_ro_lt hok ha
  have h3 := har.2.2 _ hro.1
  rw [hro.2] at h3
  refine pk_iload_n dX0_firstX_0 rfl ?_
  refine pk_aload_n dX0_firstX_1 rfl ?_
  refine pk_getN dX0_firstX_2 fl_X0_32 rfl (hW.s rfl) har.1 ?_
  refine pk_Si dX0_firstX_5 ml_X0_51 yw_X6_isBelow ys_X6_isBelow (e_X6_isBelow _ _) rfl rfl rfl rfl rfl rfl rfl ?_
  first | refine pk_eqb (tgt := 23) dX0_firstX_8 (by decide) (fun c_8 => ?_) (fun c_8 => ?_) | refine pk_eq0N (tgt := 23) dX0_firstX_8 (by decide) (by omega) (fun c_8 => ?_) (fun c_8 => ?_) | refine pk_if_eq (tgt := 23) dX0_firstX_8 (by decide) (fun c_8 => ?_) (fun c_8 => ?_)
  · exfalso; simp [nI_pos' (show a < 2 ^ 31 by omega), nI_ltI (show a < 2 ^ 31 by omega) (show sp_many A < 2 ^ 31 by omega)] at c_8; omega
  · refine pk_aload_n dX0_firstX_11 rfl ?_
    refine pk_getP dX0_firstX_12 fl_X0_15 rfl (hW.s rfl) (hW.p rfl) ?_
    refine pk_iload_n dX0_firstX_15 rfl ?_
    refine pk_aldN dX0_firstX_16 (hW.s rfl) (by omega) (by omega) h3.1 ?_
    refine pk_bipush (v := nI 8) dX0_firstX_17 (by decide) ?_
    first | refine pk_remN dX0_firstX_19 (by omega) (by omega) (by omega) ?_ | refine pk_irem dX0_firstX_19 (by first | assumption | decide) ?_
    refine pk_goto (tgt := 24) dX0_firstX_20 (by decide) ?_
    refine pk_reti dX0_firstX_24 (by first | rfl | exact pk_nbi _) ?_
    exact ⟨rfl, rfl⟩

set_option maxRecDepth 100000 in
set_option maxHeartbeats 4000000 in
theorem e_X0_firstY {Γ : pk_T} {M : pk_M} {L a : Nat} {A : pk_St} (hW : pk_WF L M) (hok : pk_okS A) (har : pk_ara A M) (ha : a < sp_many A) : pk_E Γ yX0_firstY cX0_firstY 2 (some .int) 1 0 0 M [.ref 82, .int (nI a)] (fun r M' => r = some (.int (nI (sp_ro A a / 8))) ∧ M' = M) := by
  refine pk_meth (own := RX0) (ini := false) [some (.ref 82), some (.int (nI a))] (by decide +kernel) rfl (by decide +kernel) rfl rfl ?_
  have hm := sp_many_le A
  have hro := sp_ro_of ha
  have hrl := sp_ro_lt hok ha
  have h3 := har.2.2 _ hro.1
  rw [hro.2] at h3
  refine pk_iload_n dX0_firstY_0 rfl ?_
  refine pk_aload_n dX0_firstY_1 rfl ?_
  refine pk_getN dX0_firstY_2 fl_X0_32 rfl (hW.s rfl) har.1 ?_
  refine pk_Si dX0_firstY_5 ml_X0_51 yw_X6_isBelow ys_X6_isBelow (e_X6_isBelow _ _) rfl rfl rfl rfl rfl rfl rfl ?_
  first | refine pk_eqb (tgt := 23) dX0_firstY_8 (by decide) (fun c_8 => ?_) (fun c_8 => ?_) | refine pk_eq0N (tgt := 23) dX0_firstY_8 (by decide) (by omega) (fun c_8 => ?_) (fun c_8 => ?_) | refine pk_if_eq (tgt := 23) dX0_firstY_8 (by decide) (fun c_8 => ?_) (fun c_8 => ?_)
  · exfalso; simp [nI_pos' (show a < 2 ^ 31 by omega), nI_ltI (show a < 2 ^ 31 by omega) (show sp_many A < 2 ^ 31 by omega)] at c_8; omega
  · refine pk_aload_n dX0_firstY_11 rfl ?_
    refine pk_getP dX0_firstY_12 fl_X0_15 rfl (hW.s rfl) (hW.p rfl) ?_
    refine pk_iload_n dX0_firstY_15 rfl ?_
    refine pk_aldN dX0_firstY_16 (hW.s rfl) (by omega) (by omega) h3.1 ?_
    refine pk_bipush (v := nI 8) dX0_firstY_17 (by decide) ?_
    first | refine pk_divN dX0_firstY_19 (by omega) (by omega) (by omega) ?_ | refine pk_idiv dX0_firstY_19 (by first | assumption | decide) ?_
    refine pk_goto (tgt := 24) dX0_firstY_20 (by decide) ?_
    refine pk_reti dX0_firstY_24 (by first | rfl | exact pk_nbi _) ?_
    exact ⟨rfl, rfl⟩

set_option maxRecDepth 100000 in
set_option maxHeartbeats 4000000 in
theorem e_X0_placesOf {Γ : pk_T} {M : pk_M} {L a : Nat} {A : pk_St} (hW : pk_WF L M) (hok : pk_okS A) (har : pk_ara A M) (ha : a < sp_many A) : pk_E Γ yX0_placesOf cX0_placesOf 2 (some .int) 1 0 0 M [.ref 82, .int (nI a)] (fun r M' => r = some (.int (nI (sp_sz A (sp_ro A a)))) ∧ M' = M) := by
  refine pk_meth (own := RX0) (ini := false) [some (.ref 82), some (.int (nI a))] (by decide +kernel) rfl (by decide +kernel) rfl rfl ?_
  have hm := sp_many_le A
  have hro := sp_ro_of ha
  have hrl := sp_ro_lt hok ha
  have h3 := har.2.2 _ hro.1
  rw [hro.2] at h3
  refine pk_iload_n dX0_placesOf_0 rfl ?_
  refine pk_aload_n dX0_placesOf_1 rfl ?_
  refine pk_getN dX0_placesOf_2 fl_X0_32 rfl (hW.s rfl) har.1 ?_
  refine pk_Si dX0_placesOf_5 ml_X0_51 yw_X6_isBelow ys_X6_isBelow (e_X6_isBelow _ _) rfl rfl rfl rfl rfl rfl rfl ?_
  first | refine pk_eqb (tgt := 20) dX0_placesOf_8 (by decide) (fun c_8 => ?_) (fun c_8 => ?_) | refine pk_eq0N (tgt := 20) dX0_placesOf_8 (by decide) (by omega) (fun c_8 => ?_) (fun c_8 => ?_) | refine pk_if_eq (tgt := 20) dX0_placesOf_8 (by decide) (fun c_8 => ?_) (fun c_8 => ?_)
  · exfalso; simp [nI_pos' (show a < 2 ^ 31 by omega), nI_ltI (show a < 2 ^ 31 by omega) (show sp_many A < 2 ^ 31 by omega)] at c_8; omega
  · refine pk_aload_n dX0_placesOf_11 rfl ?_
    refine pk_getP dX0_placesOf_12 fl_X0_18 rfl (hW.s rfl) (hW.p rfl) ?_
    refine pk_iload_n dX0_placesOf_15 rfl ?_
    refine pk_aldN dX0_placesOf_16 (hW.s rfl) (by omega) (by omega) h3.2 ?_
    refine pk_goto (tgt := 21) dX0_placesOf_17 (by decide) ?_
    refine pk_reti dX0_placesOf_21 (by first | rfl | exact pk_nbi _) ?_
    exact ⟨rfl, rfl⟩

noncomputable def sp_gre (A : pk_St) (a : Nat) : Nat := sp_c (fun o => decide (sp_sz A (sp_ro A a) < sp_sz A (sp_ro A o)) || (sp_sz A (sp_ro A o) == sp_sz A (sp_ro A a) && decide (o < a))) (sp_many A)

theorem nI_sub_gt {a b : Nat} (ha : a < 2 ^ 30) (hb : b < 2 ^ 30) : (0 < nI a - nI b ↔ b < a) ∧ (nI a - nI b = 0 ↔ a = b) := by
  rcases Nat.lt_trichotomy a b with z | z | z
  · have e : nI a - nI b = -nI (b - a) := by
      obtain ⟨c, rfl⟩ : ∃ c, b = a + c := ⟨b - a, by omega⟩
      rw [Nat.add_sub_cancel_left]
      apply Int32.toInt_inj.mp
      rw [Int32.toInt_sub, Int32.toInt_neg, nI_toInt (by omega), nI_toInt (by omega), nI_toInt (by omega)]
      simp only [Int.bmod_def]
      omega
    have h : ¬ (0 : Int32) < nI a - nI b := by
      rw [e, Int32.lt_iff_toInt_lt, Int32.toInt_neg, nI_toInt (by omega)]
      simp only [Int.bmod_def]
      have : (0 : Int32).toInt = 0 := rfl
      omega
    refine ⟨⟨fun h2 => absurd h2 h, fun h2 => absurd h2 (by omega)⟩, ⟨fun h2 => ?_, fun h2 => absurd h2 (by omega)⟩⟩
    rw [e] at h2
    have h3 := congrArg Int32.toInt h2
    rw [Int32.toInt_neg, nI_toInt (by omega)] at h3
    simp only [Int.bmod_def] at h3
    have : (0 : Int32).toInt = 0 := rfl
    omega
  · subst z
    rw [Int32.sub_self]
    exact ⟨⟨fun h => absurd h (by decide), fun h => absurd h (Nat.lt_irrefl _)⟩, fun _ => rfl, fun _ => rfl⟩
  · rw [nI_sub (by omega)]
    refine ⟨⟨fun _ => z, fun _ => ?_⟩, ⟨fun h2 => ?_, fun h2 => absurd h2 (by omega)⟩⟩
    · exact (nI_ltI (a := 0) (b := a - b) (by omega) (by omega)).mpr (by omega)
    · have := nI_inj (a := a - b) (b := 0) (by omega) (by omega) h2
      omega
