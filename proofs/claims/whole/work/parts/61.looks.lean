/-! The model: looks, sets, inks. -/
theorem pm_now.wI {L p : Nat} {M : pk_M} {A : pk_St} (h : pm_now L M A) (hp : p ≠ 104) (f : Nat → Int32) : pm_now L (pk_wI M p f) A := ⟨h.1.to rfl rfl, fun j hj => pk_gW0 (fun e => hp e.symm) (h.2.1 j hj), h.2.2⟩
theorem pm_now.fr {D : Nat → Prop} {L : Nat} {M M1 : pk_M} {A : pk_St} (h : pk_fr D M M1) (hD : ¬ D 104) (hN : pm_now L M A) : pm_now L M1 A := ⟨h.wf hN.1, fun j hj => (h.I hD _).trans (hN.2.1 j hj), hN.2.2⟩
theorem sp_setsF_bit {A : pk_St} (s n : Nat) : (sp_fold (sp_setsF A) 0 n).testBit s = sp_any (fun p => sp_in A p && (sp_s A p == s)) n := by
  induction n with
  | zero => exact Nat.zero_testBit s
  | succ n ih =>
    rw [sp_fold_succ, sp_any_succ, sp_setsF]
    cases h : sp_in A n
    · rw [if_neg (by decide), ih, Bool.false_and, Bool.or_false]
    · rw [if_pos rfl, Nat.testBit_or, ih, Nat.testBit_two_pow, Bool.true_and]
      congr 1
theorem sp_sets_bit (A : pk_St) (s : Nat) : (sp_sets A).testBit s = sp_any (fun p => sp_in A p && (sp_s A p == s)) 48 := sp_setsF_bit s 48
theorem sp_c_zero (n : Nat) : sp_c (fun _ => false) n = 0 := sp_c_skip (Nat.zero_le n) (fun _ _ _ => rfl)
theorem sp_c_fresh {P : Nat → Bool} {g : Nat → Nat} {V : Nat} (hg : ∀ j, g j < V) (n : Nat) : sp_c (fun j => P j && !sp_any (fun q => P q && (g q == g j)) j) n = sp_c (fun v => sp_any (fun q => P q && (g q == v)) n) V := by
  induction n with
  | zero => exact (sp_c_zero V).symm
  | succ n ih =>
    rw [sp_c_succ]
    cases hP : P n
    · rw [Bool.false_and, if_neg (by decide), ih]
      refine sp_c_congr (fun v _ => ?_)
      rw [sp_any_succ, hP, Bool.false_and, Bool.or_false]
    · rw [Bool.true_and]
      cases hF : sp_any (fun q => P q && (g q == g n)) n
      · rw [Bool.not_false, if_pos rfl, ih, ← sp_c_add (hg n) hF]
        refine sp_c_congr (fun v _ => ?_)
        rw [sp_any_succ, hP, Bool.true_and, Bool.or_comm]
        congr 1
        exact Bool.beq_comm
      · rw [Bool.not_true, if_neg (by decide), ih]
        refine sp_c_congr (fun v _ => ?_)
        rw [sp_any_succ, hP, Bool.true_and]
        by_cases e : g n = v
        · subst e
          rw [hF, Bool.true_or]
        · rw [beq_eq_false_iff_ne.mpr e, Bool.or_false]
theorem sp_any_congr {f g : Nat → Bool} {n : Nat} (h : ∀ q, q < n → f q = g q) : sp_any f n = sp_any g n := by
  induction n with
  | zero => rfl
  | succ n ih => rw [sp_any_succ, sp_any_succ, ih (fun q hq => h q (by omega)), h n (by omega)]
theorem sp_bool_iff {a b : Bool} (h : a = true ↔ b = true) : a = b := by
  cases a <;> cases b <;> simp at h <;> rfl
/-- what holds of some set that is drawn holds in some place -/
theorem sp_any_drawn {A : pk_St} (hA : pk_okS A) (F : Nat → Bool) : sp_any (fun s => (sp_sets A).testBit s && F s) 32 = sp_any (fun p => sp_in A p && F (sp_s A p)) 48 := by
  apply sp_bool_iff
  rw [sp_any_iff, sp_any_iff]
  constructor
  · rintro ⟨s, hs, h⟩
    rw [Bool.and_eq_true, sp_sets_bit, sp_any_iff] at h
    obtain ⟨⟨p, hp, h1⟩, h2⟩ := h
    rw [Bool.and_eq_true, beq_iff_eq] at h1
    exact ⟨p, hp, by rw [h1.1, h1.2, h2]; rfl⟩
  · rintro ⟨p, hp, h⟩
    rw [Bool.and_eq_true] at h
    refine ⟨sp_s A p, hA.2.2.2.2.2.2.2.1 p hp, ?_⟩
    rw [Bool.and_eq_true, sp_sets_bit, sp_any_iff]
    exact ⟨⟨p, hp, by rw [h.1, beq_self_eq_true]; rfl⟩, h.2⟩
theorem sp_unlike_eq {A : pk_St} (hA : pk_okS A) : sp_c (fun p => sp_in A p && !sp_any (fun q => sp_in A q && (sp_lookA A (sp_s A q) == sp_lookA A (sp_s A p))) p) 48 = sp_unlike A := by
  rw [sp_c_fresh (P := sp_in A) (g := fun p => sp_lookA A (sp_s A p)) (V := 4096) (fun _ => sp_lookA_lt A _)]
  unfold sp_unlike
  rw [sp_c_fresh (P := fun s => (sp_sets A).testBit s) (g := fun s => sp_lookA A s) (V := 4096) (fun _ => sp_lookA_lt A _)]
  exact sp_c_congr (fun v _ => (sp_any_drawn hA (fun s => sp_lookA A s == v)).symm)
theorem sp_canAll_eq {A : pk_St} (hA : pk_okS A) (a : Nat) : (!sp_any (fun p => sp_in A p && !sp_can (sp_lookA A) a (sp_lookA A (sp_s A p))) 48) = sp_canAll (sp_lookA A) a (sp_sets A) := by
  unfold sp_canAll
  rw [← sp_any_drawn hA (fun s => !sp_can (sp_lookA A) a (sp_lookA A s))]
/-- the fewest: what the fold finds -/
theorem sp_fewF_spec (lk : Nat → Nat) (D : Nat) (m : Nat) (hm : m ≤ 32) : (sp_fewF lk D m = 31 ∧ ∀ i, i < m → sp_canAll lk i D = true → ¬ sp_bits i < 5) ∨ (sp_fewF lk D m < m ∧ sp_canAll lk (sp_fewF lk D m) D = true ∧ sp_bits (sp_fewF lk D m) < 5 ∧ ∀ i, i < m → sp_canAll lk i D = true → sp_bits (sp_fewF lk D m) < sp_bits i ∨ (sp_bits i = sp_bits (sp_fewF lk D m) ∧ sp_fewF lk D m ≤ i)) := by
  induction m with
  | zero => exact Or.inl ⟨rfl, fun i hi => absurd hi (Nat.not_lt_zero i)⟩
  | succ m ih =>
    have hstep : sp_fewF lk D (m + 1) = if decide (sp_bits m < sp_bits (sp_fewF lk D m)) && sp_canAll lk m D then m else sp_fewF lk D m := rfl
    have b31 : sp_bits 31 = 5 := by decide
    have hb := sp_bits_le m
    rw [hstep]
    rcases ih (by omega) with ⟨h1, h2⟩ | ⟨h1, h2, h3, h4⟩
    · rw [h1, b31]
      by_cases hc : sp_bits m < 5 ∧ sp_canAll lk m D = true
      · rw [decide_eq_true hc.1, hc.2, if_pos (by rfl)]
        refine Or.inr ⟨by omega, hc.2, hc.1, fun i hi hg => ?_⟩
        by_cases e : i = m
        · subst e
          exact Or.inr ⟨rfl, Nat.le_refl _⟩
        · have := h2 i (by omega) hg
          exact Or.inl (by omega)
      · rw [if_neg (by rw [Bool.and_eq_true, decide_eq_true_eq]; exact hc)]
        refine Or.inl ⟨rfl, fun i hi hg => ?_⟩
        by_cases e : i = m
        · subst e
          exact fun z => hc ⟨z, hg⟩
        · exact h2 i (by omega) hg
    · by_cases hc : sp_bits m < sp_bits (sp_fewF lk D m) ∧ sp_canAll lk m D = true
      · rw [decide_eq_true hc.1, hc.2, if_pos (by rfl)]
        refine Or.inr ⟨by omega, hc.2, by omega, fun i hi hg => ?_⟩
        by_cases e : i = m
        · subst e
          exact Or.inr ⟨rfl, Nat.le_refl _⟩
        · have := h4 i (by omega) hg
          exact Or.inl (by omega)
      · rw [if_neg (by rw [Bool.and_eq_true, decide_eq_true_eq]; exact hc)]
        refine Or.inr ⟨by omega, h2, h3, fun i hi hg => ?_⟩
        by_cases e : i = m
        · subst e
          rcases Nat.lt_or_ge (sp_bits i) (sp_bits (sp_fewF lk D i)) with z | z
          · exact absurd ⟨z, hg⟩ hc
          · rcases Nat.eq_or_lt_of_le z with z | z
            · exact Or.inr ⟨z.symm, by omega⟩
            · exact Or.inl z
        · exact h4 i (by omega) hg
theorem sp_few_at {A : pk_St} {n j : Nat} (hn : n < 5) (hj : j < 32) (h0 : ∀ i, i < 32 → sp_canAll (sp_lookA A) i (sp_sets A) = true → n ≤ sp_bits i) (h1 : ∀ i, i < j → sp_canAll (sp_lookA A) i (sp_sets A) = true → sp_bits i ≠ n) (h2 : sp_bits j = n) (h3 : sp_canAll (sp_lookA A) j (sp_sets A) = true) : sp_few A = j := by
  unfold sp_few
  rcases sp_fewF_spec (sp_lookA A) (sp_sets A) 32 (by decide) with ⟨g1, g2⟩ | ⟨g1, g2, g3, g4⟩
  · exact absurd (by omega) (g2 j hj h3)
  · have e1 := h0 _ g1 g2
    have e2 := g4 j hj h3
    rcases Nat.lt_or_ge (sp_fewF (sp_lookA A) (sp_sets A) 32) j with z | z
    · exact absurd (by omega) (h1 _ z g2)
    · omega
theorem sp_few_no {A : pk_St} (h0 : ∀ i, i < 32 → sp_canAll (sp_lookA A) i (sp_sets A) = true → 5 ≤ sp_bits i) : sp_few A = 31 := by
  unfold sp_few
  rcases sp_fewF_spec (sp_lookA A) (sp_sets A) 32 (by decide) with ⟨g1, g2⟩ | ⟨g1, g2, g3, g4⟩
  · exact g1
  · exact absurd (h0 _ g1 g2) (by omega)

set_option maxRecDepth 100000 in
set_option maxHeartbeats 4000000 in
theorem e_X7_looksOfAll {Γ : pk_T} {M : pk_M} {L : Nat} {A : pk_St} (hN : pm_now L M A) : pk_E Γ yX7_looksOfAll cX7_looksOfAll 2 none 4 0 0 M [.ref 103] (fun r M' => r = none ∧ pk_fr (fun q => q = 105) M M' ∧ ∀ s, s < 32 → pk_I M' 105 s = nI (sp_lookA A s)) := by
  obtain ⟨hW, hA, hok⟩ := hN
  have hw := hok.1
  have hh := hok.2.1
  have hs := hok.2.2.2.2.2.2.2.1
  refine pk_meth (own := RX7) (ini := false) [some (.ref 103), none] (by decide +kernel) rfl (by decide +kernel) rfl rfl ?_
  refine pk_iconst (v := nI 0) dX7_looksOfAll_0 (by decide) ?_
  refine pk_istore_n dX7_looksOfAll_1 rfl rfl ?_
  have e0 : M = (pk_wI M 105 (fun s => if s < 0 then nI (sp_lookA A s) else pk_I M 105 s)) := (pk_wI_id M 105).symm.trans (by congr 1)
  refine pk_Mq e0 ?_
  refine pk_for 32 (fun j => (pk_wI M 105 (fun s => if s < j then nI (sp_lookA A s) else pk_I M 105 s))) (fun j => [some (.ref 103), some (.int (nI j))]) ?_ ?_ 0 (by omega)
  · intro j hj K
    refine pk_iload_n dX7_looksOfAll_2 rfl ?_
    refine pk_bipush (v := nI 32) dX7_looksOfAll_3 (by decide) ?_
    first | refine pk_geN (tgt := 25) dX7_looksOfAll_5 (by decide) (by omega) (by omega) (fun c_5 => ?_) (fun c_5 => ?_) | refine pk_icmp_ge (tgt := 25) dX7_looksOfAll_5 (by decide) (fun c_5 => ?_) (fun c_5 => ?_)
    · omega
    · refine pk_aload_n dX7_looksOfAll_8 rfl ?_
      refine pk_getP dX7_looksOfAll_9 fl_X7_13 rfl (hW.s rfl) (hW.p rfl) ?_
      refine pk_iload_n dX7_looksOfAll_12 rfl ?_
      refine pk_aload_n dX7_looksOfAll_13 rfl ?_
      refine pk_iload_n dX7_looksOfAll_14 rfl ?_
      refine pk_Vi dX7_looksOfAll_15 ml_X7_84 yw_X7_lookOf yv_X7_lookOf (hW.s rfl) (e_X7_lookOf (pm_now.wI ⟨hW, hA, hok⟩ (by decide) _) (by omega)) rfl rfl rfl rfl rfl rfl rfl ?_
      refine pk_astN dX7_looksOfAll_18 (hW.s rfl) (by omega) (by omega) (by omega) ?_
      rw [pk_wI_sI]
      first | refine pk_inc1 dX7_looksOfAll_19 rfl rfl ?_ | refine pk_iinc dX7_looksOfAll_19 rfl rfl rfl ?_
      refine pk_goto (tgt := 2) dX7_looksOfAll_22 (by decide) ?_
      refine pk_Mq ?_ K
      congr 1
      funext q
      by_cases e : q = j
      · rw [if_pos e, if_pos (by omega), e]
      · rw [if_neg e]
        by_cases e2 : q < j
        · rw [if_pos e2, if_pos (by omega)]
        · rw [if_neg e2, if_neg (by omega)]
  · refine pk_iload_n dX7_looksOfAll_2 rfl ?_
    refine pk_bipush (v := nI 32) dX7_looksOfAll_3 (by decide) ?_
    first | refine pk_geN (tgt := 25) dX7_looksOfAll_5 (by decide) (by omega) (by omega) (fun c_5 => ?_) (fun c_5 => ?_) | refine pk_icmp_ge (tgt := 25) dX7_looksOfAll_5 (by decide) (fun c_5 => ?_) (fun c_5 => ?_)
    · refine pk_retv dX7_looksOfAll_25 ?_
      exact ⟨rfl, pk_fr.wI rfl, fun s hs => pk_gW1 rfl (if_pos hs)⟩
    · omega

set_option maxRecDepth 100000 in
set_option maxHeartbeats 4000000 in
theorem e_X7_alike {Γ : pk_T} {M : pk_M} {L : Nat} {A : pk_St} (hN : pm_now L M A) {t : Nat} (ht : t < 32) : pk_E Γ yX7_alike cX7_alike 4 (some .int) 4 0 0 M [.ref 103, .int (nI t)] (fun r M' => r = some (.int (nI (sp_c (fun o => sp_lookA A o == sp_lookA A t) 32))) ∧ M' = M) := by
  obtain ⟨hW, hA, hok⟩ := hN
  have hw := hok.1
  have hh := hok.2.1
  have hs := hok.2.2.2.2.2.2.2.1
  refine pk_meth (own := RX7) (ini := false) [some (.ref 103), some (.int (nI t)), none, none] (by decide +kernel) rfl (by decide +kernel) rfl rfl ?_
  refine pk_iconst (v := nI 0) dX7_alike_0 (by decide) ?_
  refine pk_istore_n dX7_alike_1 rfl rfl ?_
  refine pk_iconst (v := nI 0) dX7_alike_2 (by decide) ?_
  refine pk_istore_n dX7_alike_3 rfl rfl ?_
  refine pk_for 32 (fun _ => M) (fun j => [some (.ref 103), some (.int (nI t)), some (.int (nI (sp_c (fun o => sp_lookA A o == sp_lookA A t) j))), some (.int (nI j))]) ?_ ?_ 0 (by omega)
  · intro j hj K
    have hl1 := sp_lookA_lt A j
    have hl2 := sp_lookA_lt A t
    refine pk_iload_n dX7_alike_4 rfl ?_
    refine pk_bipush (v := nI 32) dX7_alike_5 (by decide) ?_
    first | refine pk_geN (tgt := 37) dX7_alike_7 (by decide) (by omega) (by omega) (fun c_7 => ?_) (fun c_7 => ?_) | refine pk_icmp_ge (tgt := 37) dX7_alike_7 (by decide) (fun c_7 => ?_) (fun c_7 => ?_)
    · omega
    · refine pk_iload_n dX7_alike_10 rfl ?_
      refine pk_aload_n dX7_alike_11 rfl ?_
      refine pk_iload_n dX7_alike_12 rfl ?_
      refine pk_Vi dX7_alike_13 ml_X7_84 yw_X7_lookOf yv_X7_lookOf (hW.s rfl) (e_X7_lookOf ⟨hW, hA, hok⟩ (by omega)) rfl rfl rfl rfl rfl rfl rfl ?_
      refine pk_aload_n dX7_alike_16 rfl ?_
      refine pk_iload_n dX7_alike_17 rfl ?_
      refine pk_Vi dX7_alike_18 ml_X7_84 yw_X7_lookOf yv_X7_lookOf (hW.s rfl) (e_X7_lookOf ⟨hW, hA, hok⟩ (by omega)) rfl rfl rfl rfl rfl rfl rfl ?_
      first | refine pk_neN (tgt := 28) dX7_alike_21 (by decide) (by omega) (by omega) (fun c_21 => ?_) (fun c_21 => ?_) | refine pk_icmp_ne (tgt := 28) dX7_alike_21 (by decide) (fun c_21 => ?_) (fun c_21 => ?_)
      · refine pk_iconst (v := nI 0) dX7_alike_28 (by decide) ?_
        first | refine pk_addN dX7_alike_29 ?_ | refine pk_iadd dX7_alike_29 ?_
        refine pk_istore_n dX7_alike_30 rfl rfl ?_
        first | refine pk_inc1 dX7_alike_31 rfl rfl ?_ | refine pk_iinc dX7_alike_31 rfl rfl rfl ?_
        refine pk_goto (tgt := 4) dX7_alike_34 (by decide) ?_
        refine pk_lsq ?_ K
        simp [sp_c_succ, c_21]
      · refine pk_iconst (v := nI 1) dX7_alike_24 (by decide) ?_
        refine pk_goto (tgt := 29) dX7_alike_25 (by decide) ?_
        first | refine pk_addN dX7_alike_29 ?_ | refine pk_iadd dX7_alike_29 ?_
        refine pk_istore_n dX7_alike_30 rfl rfl ?_
        first | refine pk_inc1 dX7_alike_31 rfl rfl ?_ | refine pk_iinc dX7_alike_31 rfl rfl rfl ?_
        refine pk_goto (tgt := 4) dX7_alike_34 (by decide) ?_
        refine pk_lsq ?_ K
        simp [sp_c_succ, c_21]
  · refine pk_iload_n dX7_alike_4 rfl ?_
    refine pk_bipush (v := nI 32) dX7_alike_5 (by decide) ?_
    first | refine pk_geN (tgt := 37) dX7_alike_7 (by decide) (by omega) (by omega) (fun c_7 => ?_) (fun c_7 => ?_) | refine pk_icmp_ge (tgt := 37) dX7_alike_7 (by decide) (fun c_7 => ?_) (fun c_7 => ?_)
    · refine pk_iload_n dX7_alike_37 rfl ?_
      refine pk_reti dX7_alike_38 (by first | rfl | exact pk_nbi _) ?_
      exact ⟨rfl, rfl⟩
    · omega

set_option maxRecDepth 100000 in
set_option maxHeartbeats 4000000 in
theorem e_X7_placesOf {Γ : pk_T} {M : pk_M} {L : Nat} {A : pk_St} (hN : pm_now L M A) {t : Nat} (ht : t < 32) : pk_E Γ yX7_placesOf cX7_placesOf 4 (some .int) 3 0 0 M [.ref 103, .int (nI t)] (fun r M' => r = some (.int (nI (sp_c (fun q => sp_in A q && (sp_s A q == t)) 48))) ∧ M' = M) := by
  obtain ⟨hW, hA, hok⟩ := hN
  have hw := hok.1
  have hh := hok.2.1
  have hs := hok.2.2.2.2.2.2.2.1
  refine pk_meth (own := RX7) (ini := false) [some (.ref 103), some (.int (nI t)), none, none] (by decide +kernel) rfl (by decide +kernel) rfl rfl ?_
  refine pk_iconst (v := nI 0) dX7_placesOf_0 (by decide) ?_
  refine pk_istore_n dX7_placesOf_1 rfl rfl ?_
  refine pk_iconst (v := nI 0) dX7_placesOf_2 (by decide) ?_
  refine pk_istore_n dX7_placesOf_3 rfl rfl ?_
  refine pk_for 48 (fun _ => M) (fun j => [some (.ref 103), some (.int (nI t)), some (.int (nI (sp_c (fun q => sp_in A q && (sp_s A q == t)) j))), some (.int (nI j))]) ?_ ?_ 0 (by omega)
  · intro j hj K
    have hsj := hs j (by omega)
    refine pk_iload_n dX7_placesOf_4 rfl ?_
    refine pk_bipush (v := nI 48) dX7_placesOf_5 (by decide) ?_
    first | refine pk_geN (tgt := 41) dX7_placesOf_7 (by decide) (by omega) (by omega) (fun c_7 => ?_) (fun c_7 => ?_) | refine pk_icmp_ge (tgt := 41) dX7_placesOf_7 (by decide) (fun c_7 => ?_) (fun c_7 => ?_)
    · omega
    · refine pk_iload_n dX7_placesOf_10 rfl ?_
      refine pk_aload_n dX7_placesOf_11 rfl ?_
      refine pk_iload_n dX7_placesOf_12 rfl ?_
      refine pk_Vi dX7_placesOf_13 ml_X7_88 yw_X7_isIn yv_X7_isIn (hW.s rfl) (e_X7_isIn ⟨hW, hA, hok⟩ (by omega)) rfl rfl rfl rfl rfl rfl rfl ?_
      first | refine pk_eqb (tgt := 32) dX7_placesOf_16 (by decide) (fun c_16 => ?_) (fun c_16 => ?_) | refine pk_eq0N (tgt := 32) dX7_placesOf_16 (by decide) (by omega) (fun c_16 => ?_) (fun c_16 => ?_) | refine pk_if_eq (tgt := 32) dX7_placesOf_16 (by decide) (fun c_16 => ?_) (fun c_16 => ?_)
      · refine pk_iconst (v := nI 0) dX7_placesOf_32 (by decide) ?_
        first | refine pk_addN dX7_placesOf_33 ?_ | refine pk_iadd dX7_placesOf_33 ?_
        refine pk_istore_n dX7_placesOf_34 rfl rfl ?_
        first | refine pk_inc1 dX7_placesOf_35 rfl rfl ?_ | refine pk_iinc dX7_placesOf_35 rfl rfl rfl ?_
        refine pk_goto (tgt := 4) dX7_placesOf_38 (by decide) ?_
        refine pk_lsq ?_ K
        simp [sp_c_succ, c_16]
      · refine pk_aload_n dX7_placesOf_19 rfl ?_
        refine pk_iload_n dX7_placesOf_20 rfl ?_
        refine pk_Vi dX7_placesOf_21 ml_X7_92 yw_X7_setAt yv_X7_setAt (hW.s rfl) (e_X7_setAt ⟨hW, hA, hok⟩ (by omega)) rfl rfl rfl rfl rfl rfl rfl ?_
        refine pk_iload_n dX7_placesOf_24 rfl ?_
        first | refine pk_neN (tgt := 32) dX7_placesOf_25 (by decide) (by omega) (by omega) (fun c_25 => ?_) (fun c_25 => ?_) | refine pk_icmp_ne (tgt := 32) dX7_placesOf_25 (by decide) (fun c_25 => ?_) (fun c_25 => ?_)
        · refine pk_iconst (v := nI 0) dX7_placesOf_32 (by decide) ?_
          first | refine pk_addN dX7_placesOf_33 ?_ | refine pk_iadd dX7_placesOf_33 ?_
          refine pk_istore_n dX7_placesOf_34 rfl rfl ?_
          first | refine pk_inc1 dX7_placesOf_35 rfl rfl ?_ | refine pk_iinc dX7_placesOf_35 rfl rfl rfl ?_
          refine pk_goto (tgt := 4) dX7_placesOf_38 (by decide) ?_
          refine pk_lsq ?_ K
          simp [sp_c_succ, c_16, c_25]
        · refine pk_iconst (v := nI 1) dX7_placesOf_28 (by decide) ?_
          refine pk_goto (tgt := 33) dX7_placesOf_29 (by decide) ?_
          first | refine pk_addN dX7_placesOf_33 ?_ | refine pk_iadd dX7_placesOf_33 ?_
          refine pk_istore_n dX7_placesOf_34 rfl rfl ?_
          first | refine pk_inc1 dX7_placesOf_35 rfl rfl ?_ | refine pk_iinc dX7_placesOf_35 rfl rfl rfl ?_
          refine pk_goto (tgt := 4) dX7_placesOf_38 (by decide) ?_
          refine pk_lsq ?_ K
          simp [sp_c_succ, c_16, c_25]
  · refine pk_iload_n dX7_placesOf_4 rfl ?_
    refine pk_bipush (v := nI 48) dX7_placesOf_5 (by decide) ?_
    first | refine pk_geN (tgt := 41) dX7_placesOf_7 (by decide) (by omega) (by omega) (fun c_7 => ?_) (fun c_7 => ?_) | refine pk_icmp_ge (tgt := 41) dX7_placesOf_7 (by decide) (fun c_7 => ?_) (fun c_7 => ?_)
    · refine pk_iload_n dX7_placesOf_41 rfl ?_
      refine pk_reti dX7_placesOf_42 (by first | rfl | exact pk_nbi _) ?_
      exact ⟨rfl, rfl⟩
    · omega

theorem sp_with_eq {A : pk_St} (hA : pk_okS A) (i : Nat) : sp_c (fun q => sp_in A q && (sp_s A q).testBit i) 48 = sp_c (fun q => (sp_s A q).testBit i) 48 := by
  refine sp_c_congr (fun q hq => ?_)
  cases h : sp_in A q
  · rw [hA.2.2.2.2.2.2.2.2 q hq h, Nat.zero_testBit]
    rfl
  · rfl

set_option maxRecDepth 100000 in
set_option maxHeartbeats 4000000 in
theorem e_X7_placesWith {Γ : pk_T} {M : pk_M} {L : Nat} {A : pk_St} (hN : pm_now L M A) {i : Nat} (hi : i < 5) : pk_E Γ yX7_placesWith cX7_placesWith 4 (some .int) 3 0 0 M [.ref 103, .int (nI i)] (fun r M' => r = some (.int (nI (sp_c (fun q => (sp_s A q).testBit i) 48))) ∧ M' = M) := by
  obtain ⟨hW, hA, hok⟩ := hN
  have hw := hok.1
  have hh := hok.2.1
  have hs := hok.2.2.2.2.2.2.2.1
  refine pk_meth (own := RX7) (ini := false) [some (.ref 103), some (.int (nI i)), none, none] (by decide +kernel) rfl (by decide +kernel) rfl rfl ?_
  refine pk_iconst (v := nI 0) dX7_placesWith_0 (by decide) ?_
  refine pk_istore_n dX7_placesWith_1 rfl rfl ?_
  refine pk_iconst (v := nI 0) dX7_placesWith_2 (by decide) ?_
  refine pk_istore_n dX7_placesWith_3 rfl rfl ?_
  refine pk_for 48 (fun _ => M) (fun j => [some (.ref 103), some (.int (nI i)), some (.int (nI (sp_c (fun q => sp_in A q && (sp_s A q).testBit i) j))), some (.int (nI j))]) ?_ ?_ 0 (by omega)
  · intro j hj K
    have hsj := hs j (by omega)
    refine pk_iload_n dX7_placesWith_4 rfl ?_
    refine pk_bipush (v := nI 48) dX7_placesWith_5 (by decide) ?_
    first | refine pk_geN (tgt := 44) dX7_placesWith_7 (by decide) (by omega) (by omega) (fun c_7 => ?_) (fun c_7 => ?_) | refine pk_icmp_ge (tgt := 44) dX7_placesWith_7 (by decide) (fun c_7 => ?_) (fun c_7 => ?_)
    · omega
    · refine pk_iload_n dX7_placesWith_10 rfl ?_
      refine pk_aload_n dX7_placesWith_11 rfl ?_
      refine pk_iload_n dX7_placesWith_12 rfl ?_
      refine pk_Vi dX7_placesWith_13 ml_X7_88 yw_X7_isIn yv_X7_isIn (hW.s rfl) (e_X7_isIn ⟨hW, hA, hok⟩ (by omega)) rfl rfl rfl rfl rfl rfl rfl ?_
      first | refine pk_eqb (tgt := 35) dX7_placesWith_16 (by decide) (fun c_16 => ?_) (fun c_16 => ?_) | refine pk_eq0N (tgt := 35) dX7_placesWith_16 (by decide) (by omega) (fun c_16 => ?_) (fun c_16 => ?_) | refine pk_if_eq (tgt := 35) dX7_placesWith_16 (by decide) (fun c_16 => ?_) (fun c_16 => ?_)
      · refine pk_iconst (v := nI 0) dX7_placesWith_35 (by decide) ?_
        first | refine pk_addN dX7_placesWith_36 ?_ | refine pk_iadd dX7_placesWith_36 ?_
        refine pk_istore_n dX7_placesWith_37 rfl rfl ?_
        first | refine pk_inc1 dX7_placesWith_38 rfl rfl ?_ | refine pk_iinc dX7_placesWith_38 rfl rfl rfl ?_
        refine pk_goto (tgt := 4) dX7_placesWith_41 (by decide) ?_
        refine pk_lsq ?_ K
        simp [sp_c_succ, c_16]
      · refine pk_aload_n dX7_placesWith_19 rfl ?_
        refine pk_iload_n dX7_placesWith_20 rfl ?_
        refine pk_Vi dX7_placesWith_21 ml_X7_92 yw_X7_setAt yv_X7_setAt (hW.s rfl) (e_X7_setAt ⟨hW, hA, hok⟩ (by omega)) rfl rfl rfl rfl rfl rfl rfl ?_
        refine pk_iload_n dX7_placesWith_24 rfl ?_
        refine pk_Si dX7_placesWith_25 ml_X7_69 yw_X7_hasInk ys_X7_hasInk (e_X7_hasInk _ _ (by omega) (by omega)) rfl rfl rfl rfl rfl rfl rfl ?_
        first | refine pk_eqb (tgt := 35) dX7_placesWith_28 (by decide) (fun c_28 => ?_) (fun c_28 => ?_) | refine pk_eq0N (tgt := 35) dX7_placesWith_28 (by decide) (by omega) (fun c_28 => ?_) (fun c_28 => ?_) | refine pk_if_eq (tgt := 35) dX7_placesWith_28 (by decide) (fun c_28 => ?_) (fun c_28 => ?_)
        · refine pk_iconst (v := nI 0) dX7_placesWith_35 (by decide) ?_
          first | refine pk_addN dX7_placesWith_36 ?_ | refine pk_iadd dX7_placesWith_36 ?_
          refine pk_istore_n dX7_placesWith_37 rfl rfl ?_
          first | refine pk_inc1 dX7_placesWith_38 rfl rfl ?_ | refine pk_iinc dX7_placesWith_38 rfl rfl rfl ?_
          refine pk_goto (tgt := 4) dX7_placesWith_41 (by decide) ?_
          refine pk_lsq ?_ K
          simp [sp_c_succ, c_16, c_28]
        · refine pk_iconst (v := nI 1) dX7_placesWith_31 (by decide) ?_
          refine pk_goto (tgt := 36) dX7_placesWith_32 (by decide) ?_
          first | refine pk_addN dX7_placesWith_36 ?_ | refine pk_iadd dX7_placesWith_36 ?_
          refine pk_istore_n dX7_placesWith_37 rfl rfl ?_
          first | refine pk_inc1 dX7_placesWith_38 rfl rfl ?_ | refine pk_iinc dX7_placesWith_38 rfl rfl rfl ?_
          refine pk_goto (tgt := 4) dX7_placesWith_41 (by decide) ?_
          refine pk_lsq ?_ K
          simp [sp_c_succ, c_16, c_28]
  · refine pk_iload_n dX7_placesWith_4 rfl ?_
    refine pk_bipush (v := nI 48) dX7_placesWith_5 (by decide) ?_
    first | refine pk_geN (tgt := 44) dX7_placesWith_7 (by decide) (by omega) (by omega) (fun c_7 => ?_) (fun c_7 => ?_) | refine pk_icmp_ge (tgt := 44) dX7_placesWith_7 (by decide) (fun c_7 => ?_) (fun c_7 => ?_)
    · refine pk_iload_n dX7_placesWith_44 rfl ?_
      refine pk_reti dX7_placesWith_45 (by first | rfl | exact pk_nbi _) ?_
      exact ⟨by rw [sp_with_eq hok], rfl⟩
    · omega

set_option maxRecDepth 100000 in
set_option maxHeartbeats 4000000 in
theorem e_X7_drawn {Γ : pk_T} {M : pk_M} {L : Nat} {A : pk_St} (hN : pm_now L M A) : pk_E Γ yX7_drawn cX7_drawn 3 (some .int) 3 0 0 M [.ref 103] (fun r M' => r = some (.int (nI (sp_inks A))) ∧ M' = M) := by
  obtain ⟨hW, hA, hok⟩ := hN
  have hw := hok.1
  have hh := hok.2.1
  have hs := hok.2.2.2.2.2.2.2.1
  refine pk_meth (own := RX7) (ini := false) [some (.ref 103), none, none] (by decide +kernel) rfl (by decide +kernel) rfl rfl ?_
  refine pk_iconst (v := nI 0) dX7_drawn_0 (by decide) ?_
  refine pk_istore_n dX7_drawn_1 rfl rfl ?_
  refine pk_iconst (v := nI 0) dX7_drawn_2 (by decide) ?_
  refine pk_istore_n dX7_drawn_3 rfl rfl ?_
  refine pk_for 48 (fun _ => M) (fun j => [some (.ref 103), some (.int (nI (sp_fold (fun q x => x ||| sp_s A q) 0 j))), some (.int (nI j))]) ?_ ?_ 0 (by omega)
  · intro j hj K
    have e1 : sp_fold (fun q x => x ||| sp_s A q) 0 (j + 1) = sp_fold (fun q x => x ||| sp_s A q) 0 j ||| sp_s A j := rfl
    refine pk_iload_n dX7_drawn_4 rfl ?_
    refine pk_bipush (v := nI 48) dX7_drawn_5 (by decide) ?_
    first | refine pk_geN (tgt := 36) dX7_drawn_7 (by decide) (by omega) (by omega) (fun c_7 => ?_) (fun c_7 => ?_) | refine pk_icmp_ge (tgt := 36) dX7_drawn_7 (by decide) (fun c_7 => ?_) (fun c_7 => ?_)
    · omega
    · refine pk_iload_n dX7_drawn_10 rfl ?_
      refine pk_aload_n dX7_drawn_11 rfl ?_
      refine pk_iload_n dX7_drawn_12 rfl ?_
      refine pk_Vi dX7_drawn_13 ml_X7_88 yw_X7_isIn yv_X7_isIn (hW.s rfl) (e_X7_isIn ⟨hW, hA, hok⟩ (by omega)) rfl rfl rfl rfl rfl rfl rfl ?_
      first | refine pk_eqb (tgt := 27) dX7_drawn_16 (by decide) (fun c_16 => ?_) (fun c_16 => ?_) | refine pk_eq0N (tgt := 27) dX7_drawn_16 (by decide) (by omega) (fun c_16 => ?_) (fun c_16 => ?_) | refine pk_if_eq (tgt := 27) dX7_drawn_16 (by decide) (fun c_16 => ?_) (fun c_16 => ?_)
      · refine pk_iconst (v := nI 0) dX7_drawn_27 (by decide) ?_
        first | refine pk_orNN dX7_drawn_28 ?_ | refine pk_ior dX7_drawn_28 ?_
        rw [hok.2.2.2.2.2.2.2.2 j (by omega) c_16] at e1
        rw [e1] at K
        refine pk_istore_n dX7_drawn_29 rfl rfl ?_
        first | refine pk_inc1 dX7_drawn_30 rfl rfl ?_ | refine pk_iinc dX7_drawn_30 rfl rfl rfl ?_
        refine pk_goto (tgt := 4) dX7_drawn_33 (by decide) ?_
        exact K
      · refine pk_aload_n dX7_drawn_19 rfl ?_
        refine pk_iload_n dX7_drawn_20 rfl ?_
        refine pk_Vi dX7_drawn_21 ml_X7_92 yw_X7_setAt yv_X7_setAt (hW.s rfl) (e_X7_setAt ⟨hW, hA, hok⟩ (by omega)) rfl rfl rfl rfl rfl rfl rfl ?_
        refine pk_goto (tgt := 28) dX7_drawn_24 (by decide) ?_
        first | refine pk_orNN dX7_drawn_28 ?_ | refine pk_ior dX7_drawn_28 ?_
        refine pk_istore_n dX7_drawn_29 rfl rfl ?_
        first | refine pk_inc1 dX7_drawn_30 rfl rfl ?_ | refine pk_iinc dX7_drawn_30 rfl rfl rfl ?_
        refine pk_goto (tgt := 4) dX7_drawn_33 (by decide) ?_
        exact K
  · refine pk_iload_n dX7_drawn_4 rfl ?_
    refine pk_bipush (v := nI 48) dX7_drawn_5 (by decide) ?_
    first | refine pk_geN (tgt := 36) dX7_drawn_7 (by decide) (by omega) (by omega) (fun c_7 => ?_) (fun c_7 => ?_) | refine pk_icmp_ge (tgt := 36) dX7_drawn_7 (by decide) (fun c_7 => ?_) (fun c_7 => ?_)
    · refine pk_iload_n dX7_drawn_36 rfl ?_
      refine pk_reti dX7_drawn_37 (by first | rfl | exact pk_nbi _) ?_
      exact ⟨rfl, rfl⟩
    · omega

set_option maxRecDepth 100000 in
set_option maxHeartbeats 4000000 in
theorem e_X7_unlike {Γ : pk_T} {M : pk_M} {L : Nat} {A : pk_St} (hN : pm_now L M A) (hL : ∀ s, s < 32 → pk_I M 105 s = nI (sp_lookA A s)) : pk_E Γ yX7_unlike cX7_unlike 5 (some .int) 3 0 0 M [.ref 103] (fun r M' => r = some (.int (nI (sp_unlike A))) ∧ M' = M) := by
  obtain ⟨hW, hA, hok⟩ := hN
  have hw := hok.1
  have hh := hok.2.1
  have hs := hok.2.2.2.2.2.2.2.1
  refine pk_meth (own := RX7) (ini := false) [some (.ref 103), none, none, none, none] (by decide +kernel) rfl (by decide +kernel) rfl rfl ?_
  rw [← sp_unlike_eq hok]
  refine pk_iconst (v := nI 0) dX7_unlike_0 (by decide) ?_
  refine pk_istore_n dX7_unlike_1 rfl rfl ?_
  refine pk_iconst (v := nI 0) dX7_unlike_2 (by decide) ?_
  refine pk_istore_n dX7_unlike_3 rfl rfl ?_
  refine pk_for 48 (fun _ => M) (fun j => [some (.ref 103), some (.int (nI (sp_c (fun p => sp_in A p && !sp_any (fun q => sp_in A q && (sp_lookA A (sp_s A q) == sp_lookA A (sp_s A p))) p) j))), some (.int (nI j)), none, none]) ?_ ?_ 0 (by omega)
  · intro j hj K1
    have hsj := hs j (by omega)
    have hlj := sp_lookA_lt A (sp_s A j)
    refine pk_iload_n dX7_unlike_4 rfl ?_
    refine pk_bipush (v := nI 48) dX7_unlike_5 (by decide) ?_
    first | refine pk_geN (tgt := 92) dX7_unlike_7 (by decide) (by omega) (by omega) (fun c_7 => ?_) (fun c_7 => ?_) | refine pk_icmp_ge (tgt := 92) dX7_unlike_7 (by decide) (fun c_7 => ?_) (fun c_7 => ?_)
    · omega
    · refine pk_aload_n dX7_unlike_10 rfl ?_
      refine pk_iload_n dX7_unlike_11 rfl ?_
      refine pk_Vi dX7_unlike_12 ml_X7_88 yw_X7_isIn yv_X7_isIn (hW.s rfl) (e_X7_isIn ⟨hW, hA, hok⟩ (by omega)) rfl rfl rfl rfl rfl rfl rfl ?_
      refine pk_istore_n dX7_unlike_15 rfl rfl ?_
      refine pk_iconst (v := nI 0) dX7_unlike_16 (by decide) ?_
      refine pk_istore dX7_unlike_17 rfl rfl ?_
      refine pk_lsq (ls' := [some (.ref 103), some (.int (nI (sp_c (fun p => sp_in A p && !sp_any (fun q => sp_in A q && (sp_lookA A (sp_s A q) == sp_lookA A (sp_s A p))) p) j))), some (.int (nI j)), some (.int (pk_bi (sp_in A j && !sp_any (fun q => sp_in A q && (sp_lookA A (sp_s A q) == sp_lookA A (sp_s A j))) 0))), some (.int (nI 0))]) (by rw [show (sp_in A j && !sp_any (fun q => sp_in A q && (sp_lookA A (sp_s A q) == sp_lookA A (sp_s A j))) 0) = sp_in A j from Bool.and_true _]; rfl) ?_
      refine pk_for j (fun _ => M) (fun i => [some (.ref 103), some (.int (nI (sp_c (fun p => sp_in A p && !sp_any (fun q => sp_in A q && (sp_lookA A (sp_s A q) == sp_lookA A (sp_s A p))) p) j))), some (.int (nI j)), some (.int (pk_bi (sp_in A j && !sp_any (fun q => sp_in A q && (sp_lookA A (sp_s A q) == sp_lookA A (sp_s A j))) i))), some (.int (nI i))]) ?_ ?_ 0 (by omega)
      · intro i hi K
        have hsi := hs i (by omega)
        have hli := sp_lookA_lt A (sp_s A i)
        refine pk_iload dX7_unlike_19 rfl ?_
        refine pk_iload_n dX7_unlike_21 rfl ?_
        first | refine pk_geN (tgt := 74) dX7_unlike_22 (by decide) (by omega) (by omega) (fun c_22 => ?_) (fun c_22 => ?_) | refine pk_icmp_ge (tgt := 74) dX7_unlike_22 (by decide) (fun c_22 => ?_) (fun c_22 => ?_)
        · omega
        · refine pk_iload_n dX7_unlike_25 rfl ?_
          first | refine pk_eqb (tgt := 66) dX7_unlike_26 (by decide) (fun c_26 => ?_) (fun c_26 => ?_) | refine pk_eq0N (tgt := 66) dX7_unlike_26 (by decide) (by omega) (fun c_26 => ?_) (fun c_26 => ?_) | refine pk_if_eq (tgt := 66) dX7_unlike_26 (by decide) (fun c_26 => ?_) (fun c_26 => ?_)
          · refine pk_iconst (v := nI 0) dX7_unlike_66 (by decide) ?_
            refine pk_istore_n dX7_unlike_67 rfl rfl ?_
            first | refine pk_inc1 dX7_unlike_68 rfl rfl ?_ | refine pk_iinc dX7_unlike_68 rfl rfl rfl ?_
            refine pk_goto (tgt := 19) dX7_unlike_71 (by decide) ?_
            have e1 : (sp_in A j && !sp_any (fun q => sp_in A q && (sp_lookA A (sp_s A q) == sp_lookA A (sp_s A j))) (i + 1)) = false := by
              rw [sp_any_succ]
              cases h1 : sp_in A j
              · rfl
              · rw [h1, Bool.true_and] at c_26
                rw [show sp_any (fun q => sp_in A q && (sp_lookA A (sp_s A q) == sp_lookA A (sp_s A j))) i = true by simpa using c_26]
                rfl
            rw [e1] at K
            exact K
          · refine pk_aload_n dX7_unlike_29 rfl ?_
            refine pk_iload dX7_unlike_30 rfl ?_
            refine pk_Vi dX7_unlike_32 ml_X7_88 yw_X7_isIn yv_X7_isIn (hW.s rfl) (e_X7_isIn ⟨hW, hA, hok⟩ (by omega)) rfl rfl rfl rfl rfl rfl rfl ?_
            first | refine pk_eqb (tgt := 62) dX7_unlike_35 (by decide) (fun c_35 => ?_) (fun c_35 => ?_) | refine pk_eq0N (tgt := 62) dX7_unlike_35 (by decide) (by omega) (fun c_35 => ?_) (fun c_35 => ?_) | refine pk_if_eq (tgt := 62) dX7_unlike_35 (by decide) (fun c_35 => ?_) (fun c_35 => ?_)
            · refine pk_iconst (v := nI 1) dX7_unlike_62 (by decide) ?_
              refine pk_goto (tgt := 67) dX7_unlike_63 (by decide) ?_
              refine pk_istore_n dX7_unlike_67 rfl rfl ?_
              first | refine pk_inc1 dX7_unlike_68 rfl rfl ?_ | refine pk_iinc dX7_unlike_68 rfl rfl rfl ?_
              refine pk_goto (tgt := 19) dX7_unlike_71 (by decide) ?_
              have e1 : (sp_in A j && !sp_any (fun q => sp_in A q && (sp_lookA A (sp_s A q) == sp_lookA A (sp_s A j))) (i + 1)) = true := by
                rw [sp_any_succ, c_35, Bool.false_and, Bool.or_false]
                exact c_26
              rw [e1] at K
              exact K
            · refine pk_aload_n dX7_unlike_38 rfl ?_
              refine pk_getP dX7_unlike_39 fl_X7_13 rfl (hW.s rfl) (hW.p rfl) ?_
              refine pk_aload_n dX7_unlike_42 rfl ?_
              refine pk_iload dX7_unlike_43 rfl ?_
              refine pk_Vi dX7_unlike_45 ml_X7_92 yw_X7_setAt yv_X7_setAt (hW.s rfl) (e_X7_setAt ⟨hW, hA, hok⟩ (by omega)) rfl rfl rfl rfl rfl rfl rfl ?_
              refine pk_aldN dX7_unlike_48 (hW.s rfl) (by omega) (by omega) (hL _ (by omega)) ?_
              refine pk_aload_n dX7_unlike_49 rfl ?_
              refine pk_getP dX7_unlike_50 fl_X7_13 rfl (hW.s rfl) (hW.p rfl) ?_
              refine pk_aload_n dX7_unlike_53 rfl ?_
              refine pk_iload_n dX7_unlike_54 rfl ?_
              refine pk_Vi dX7_unlike_55 ml_X7_92 yw_X7_setAt yv_X7_setAt (hW.s rfl) (e_X7_setAt ⟨hW, hA, hok⟩ (by omega)) rfl rfl rfl rfl rfl rfl rfl ?_
              refine pk_aldN dX7_unlike_58 (hW.s rfl) (by omega) (by omega) (hL _ (by omega)) ?_
              first | refine pk_eqN (tgt := 66) dX7_unlike_59 (by decide) (by omega) (by omega) (fun c_59 => ?_) (fun c_59 => ?_) | refine pk_icmp_eq (tgt := 66) dX7_unlike_59 (by decide) (fun c_59 => ?_) (fun c_59 => ?_)
              · refine pk_iconst (v := nI 0) dX7_unlike_66 (by decide) ?_
                refine pk_istore_n dX7_unlike_67 rfl rfl ?_
                first | refine pk_inc1 dX7_unlike_68 rfl rfl ?_ | refine pk_iinc dX7_unlike_68 rfl rfl rfl ?_
                refine pk_goto (tgt := 19) dX7_unlike_71 (by decide) ?_
                have e1 : (sp_in A j && !sp_any (fun q => sp_in A q && (sp_lookA A (sp_s A q) == sp_lookA A (sp_s A j))) (i + 1)) = false := by
                  rw [sp_any_succ, c_35, beq_iff_eq.mpr c_59]
                  simp
                rw [e1] at K
                exact K
              · refine pk_iconst (v := nI 1) dX7_unlike_62 (by decide) ?_
                refine pk_goto (tgt := 67) dX7_unlike_63 (by decide) ?_
                refine pk_istore_n dX7_unlike_67 rfl rfl ?_
                first | refine pk_inc1 dX7_unlike_68 rfl rfl ?_ | refine pk_iinc dX7_unlike_68 rfl rfl rfl ?_
                refine pk_goto (tgt := 19) dX7_unlike_71 (by decide) ?_
                have e1 : (sp_in A j && !sp_any (fun q => sp_in A q && (sp_lookA A (sp_s A q) == sp_lookA A (sp_s A j))) (i + 1)) = true := by
                  rw [sp_any_succ, beq_eq_false_iff_ne.mpr c_59, Bool.and_false, Bool.or_false]
                  exact c_26
                rw [e1] at K
                exact K
      · have e2 := sp_c_succ (fun p => sp_in A p && !sp_any (fun q => sp_in A q && (sp_lookA A (sp_s A q) == sp_lookA A (sp_s A p))) p) j
        refine pk_iload dX7_unlike_19 rfl ?_
        refine pk_iload_n dX7_unlike_21 rfl ?_
        first | refine pk_geN (tgt := 74) dX7_unlike_22 (by decide) (by omega) (by omega) (fun c_22 => ?_) (fun c_22 => ?_) | refine pk_icmp_ge (tgt := 74) dX7_unlike_22 (by decide) (fun c_22 => ?_) (fun c_22 => ?_)
        · refine pk_iload_n dX7_unlike_74 rfl ?_
          refine pk_iload_n dX7_unlike_75 rfl ?_
          first | refine pk_eqb (tgt := 83) dX7_unlike_76 (by decide) (fun c_76 => ?_) (fun c_76 => ?_) | refine pk_eq0N (tgt := 83) dX7_unlike_76 (by decide) (by omega) (fun c_76 => ?_) (fun c_76 => ?_) | refine pk_if_eq (tgt := 83) dX7_unlike_76 (by decide) (fun c_76 => ?_) (fun c_76 => ?_)
          · refine pk_iconst (v := nI 0) dX7_unlike_83 (by decide) ?_
            rw [c_76, if_neg (by decide)] at e2
            rw [e2] at K1
            first | refine pk_addN dX7_unlike_84 ?_ | refine pk_iadd dX7_unlike_84 ?_
            refine pk_istore_n dX7_unlike_85 rfl rfl ?_
            first | refine pk_inc1 dX7_unlike_86 rfl rfl ?_ | refine pk_iinc dX7_unlike_86 rfl rfl rfl ?_
            refine pk_goto (tgt := 4) dX7_unlike_89 (by decide) ?_
            exact pk_fgt (by repeat first | exact trivial | refine ⟨rfl, ?_⟩) K1
          · refine pk_iconst (v := nI 1) dX7_unlike_79 (by decide) ?_
            refine pk_goto (tgt := 84) dX7_unlike_80 (by decide) ?_
            rw [c_76, if_pos rfl] at e2
            rw [e2] at K1
            first | refine pk_addN dX7_unlike_84 ?_ | refine pk_iadd dX7_unlike_84 ?_
            refine pk_istore_n dX7_unlike_85 rfl rfl ?_
            first | refine pk_inc1 dX7_unlike_86 rfl rfl ?_ | refine pk_iinc dX7_unlike_86 rfl rfl rfl ?_
            refine pk_goto (tgt := 4) dX7_unlike_89 (by decide) ?_
            exact pk_fgt (by repeat first | exact trivial | refine ⟨rfl, ?_⟩) K1
        · omega
  · refine pk_iload_n dX7_unlike_4 rfl ?_
    refine pk_bipush (v := nI 48) dX7_unlike_5 (by decide) ?_
    first | refine pk_geN (tgt := 92) dX7_unlike_7 (by decide) (by omega) (by omega) (fun c_7 => ?_) (fun c_7 => ?_) | refine pk_icmp_ge (tgt := 92) dX7_unlike_7 (by decide) (fun c_7 => ?_) (fun c_7 => ?_)
    · refine pk_iload_n dX7_unlike_92 rfl ?_
      refine pk_reti dX7_unlike_93 (by first | rfl | exact pk_nbi _) ?_
      exact ⟨rfl, rfl⟩
    · omega

set_option maxRecDepth 100000 in
set_option maxHeartbeats 4000000 in
theorem e_X7_canLook {Γ : pk_T} {M : pk_M} {L : Nat} {A : pk_St} (hN : pm_now L M A) (hL : ∀ s, s < 32 → pk_I M 105 s = nI (sp_lookA A s)) {a l : Nat} (ha : a < 32) (hl : l < 4096) : pk_E Γ yX7_canLook cX7_canLook 5 (some .boolean) 1 0 0 M [.ref 103, .int (nI a), .int (nI l)] (fun r M' => r = some (.int (pk_bi (sp_can (sp_lookA A) a l))) ∧ M' = M) := by
  obtain ⟨hW, hA, hok⟩ := hN
  have hw := hok.1
  have hh := hok.2.1
  have hs := hok.2.2.2.2.2.2.2.1
  refine pk_meth (own := RX7) (ini := false) [some (.ref 103), some (.int (nI a)), some (.int (nI l)), none, none] (by decide +kernel) rfl (by decide +kernel) rfl rfl ?_
  refine pk_iconst (v := nI 0) dX7_canLook_0 (by decide) ?_
  refine pk_istore_n dX7_canLook_1 rfl rfl ?_
  refine pk_iconst (v := nI 0) dX7_canLook_2 (by decide) ?_
  refine pk_istore dX7_canLook_3 rfl rfl ?_
  refine pk_for 32 (fun _ => M) (fun j => [some (.ref 103), some (.int (nI a)), some (.int (nI l)), some (.int (pk_bi (sp_any (fun s => (s &&& (31 - a) == 0) && (sp_lookA A s == l)) j))), some (.int (nI j))]) ?_ ?_ 0 (by omega)
  · intro j hj K
    have hlj := sp_lookA_lt A j
    have haj := pk_and_lt (a := j) (b := 31 - a) hj
    refine pk_iload dX7_canLook_5 rfl ?_
    refine pk_bipush (v := nI 32) dX7_canLook_7 (by decide) ?_
    first | refine pk_geN (tgt := 48) dX7_canLook_9 (by decide) (by omega) (by omega) (fun c_9 => ?_) (fun c_9 => ?_) | refine pk_icmp_ge (tgt := 48) dX7_canLook_9 (by decide) (fun c_9 => ?_) (fun c_9 => ?_)
    · omega
    · refine pk_iload_n dX7_canLook_12 rfl ?_
      first | refine pk_neb (tgt := 36) dX7_canLook_13 (by decide) (fun c_13 => ?_) (fun c_13 => ?_) | refine pk_ne0N (tgt := 36) dX7_canLook_13 (by decide) (by omega) (fun c_13 => ?_) (fun c_13 => ?_) | refine pk_if_ne (tgt := 36) dX7_canLook_13 (by decide) (fun c_13 => ?_) (fun c_13 => ?_)
      · refine pk_iconst (v := nI 1) dX7_canLook_36 (by decide) ?_
        refine pk_goto (tgt := 41) dX7_canLook_37 (by decide) ?_
        refine pk_istore_n dX7_canLook_41 rfl rfl ?_
        first | refine pk_inc1 dX7_canLook_42 rfl rfl ?_ | refine pk_iinc dX7_canLook_42 rfl rfl rfl ?_
        refine pk_goto (tgt := 5) dX7_canLook_45 (by decide) ?_
        have e1 : sp_any (fun s => (s &&& (31 - a) == 0) && (sp_lookA A s == l)) (j + 1) = true := by
          rw [sp_any_succ, c_13, Bool.true_or]
        rw [e1] at K
        exact K
      · refine pk_iload dX7_canLook_16 rfl ?_
        refine pk_iload_n dX7_canLook_18 rfl ?_
        refine pk_iconst (v := -1) dX7_canLook_19 (by decide) ?_
        refine pk_ixor dX7_canLook_20 ?_
        refine pk_iand dX7_canLook_21 ?_
        rw [pk_dif j (by omega) a ha]
        refine pk_ne0N (tgt := 40) dX7_canLook_22 (by decide) (by omega) (fun c_22 => ?_) (fun c_22 => ?_)
        · refine pk_iconst (v := nI 0) dX7_canLook_40 (by decide) ?_
          refine pk_istore_n dX7_canLook_41 rfl rfl ?_
          first | refine pk_inc1 dX7_canLook_42 rfl rfl ?_ | refine pk_iinc dX7_canLook_42 rfl rfl rfl ?_
          refine pk_goto (tgt := 5) dX7_canLook_45 (by decide) ?_
          have e1 : sp_any (fun s => (s &&& (31 - a) == 0) && (sp_lookA A s == l)) (j + 1) = false := by
            rw [sp_any_succ, c_13, Bool.false_or, beq_eq_false_iff_ne.mpr c_22, Bool.false_and]
          rw [e1] at K
          exact K
        · refine pk_aload_n dX7_canLook_25 rfl ?_
          refine pk_getP dX7_canLook_26 fl_X7_13 rfl (hW.s rfl) (hW.p rfl) ?_
          refine pk_iload dX7_canLook_29 rfl ?_
          refine pk_aldN dX7_canLook_31 (hW.s rfl) (by omega) (by omega) (hL _ (by omega)) ?_
          refine pk_iload_n dX7_canLook_32 rfl ?_
          first | refine pk_neN (tgt := 40) dX7_canLook_33 (by decide) (by omega) (by omega) (fun c_33 => ?_) (fun c_33 => ?_) | refine pk_icmp_ne (tgt := 40) dX7_canLook_33 (by decide) (fun c_33 => ?_) (fun c_33 => ?_)
          · refine pk_iconst (v := nI 0) dX7_canLook_40 (by decide) ?_
            refine pk_istore_n dX7_canLook_41 rfl rfl ?_
            first | refine pk_inc1 dX7_canLook_42 rfl rfl ?_ | refine pk_iinc dX7_canLook_42 rfl rfl rfl ?_
            refine pk_goto (tgt := 5) dX7_canLook_45 (by decide) ?_
            have e1 : sp_any (fun s => (s &&& (31 - a) == 0) && (sp_lookA A s == l)) (j + 1) = false := by
              rw [sp_any_succ, c_13, Bool.false_or, beq_eq_false_iff_ne.mpr c_33, Bool.and_false]
            rw [e1] at K
            exact K
          · refine pk_iconst (v := nI 1) dX7_canLook_36 (by decide) ?_
            refine pk_goto (tgt := 41) dX7_canLook_37 (by decide) ?_
            refine pk_istore_n dX7_canLook_41 rfl rfl ?_
            first | refine pk_inc1 dX7_canLook_42 rfl rfl ?_ | refine pk_iinc dX7_canLook_42 rfl rfl rfl ?_
            refine pk_goto (tgt := 5) dX7_canLook_45 (by decide) ?_
            have e1 : sp_any (fun s => (s &&& (31 - a) == 0) && (sp_lookA A s == l)) (j + 1) = true := by
              rw [sp_any_succ, c_13, Bool.false_or, beq_iff_eq.mpr c_22, beq_iff_eq.mpr c_33]
              rfl
            rw [e1] at K
            exact K
  · refine pk_iload dX7_canLook_5 rfl ?_
    refine pk_bipush (v := nI 32) dX7_canLook_7 (by decide) ?_
    first | refine pk_geN (tgt := 48) dX7_canLook_9 (by decide) (by omega) (by omega) (fun c_9 => ?_) (fun c_9 => ?_) | refine pk_icmp_ge (tgt := 48) dX7_canLook_9 (by decide) (fun c_9 => ?_) (fun c_9 => ?_)
    · refine pk_iload_n dX7_canLook_48 rfl ?_
      refine pk_reti dX7_canLook_49 (by first | rfl | exact pk_nbi _) ?_
      exact ⟨rfl, rfl⟩
    · omega

set_option maxRecDepth 100000 in
set_option maxHeartbeats 4000000 in
theorem e_X7_canAll {Γ : pk_T} {M : pk_M} {L : Nat} {A : pk_St} (hN : pm_now L M A) (hL : ∀ s, s < 32 → pk_I M 105 s = nI (sp_lookA A s)) {a : Nat} (ha : a < 32) : pk_E Γ yX7_canAll cX7_canAll 4 (some .boolean) 3 0 0 M [.ref 103, .int (nI a)] (fun r M' => r = some (.int (pk_bi (sp_canAll (sp_lookA A) a (sp_sets A)))) ∧ M' = M) := by
  obtain ⟨hW, hA, hok⟩ := hN
  have hw := hok.1
  have hh := hok.2.1
  have hs := hok.2.2.2.2.2.2.2.1
  refine pk_meth (own := RX7) (ini := false) [some (.ref 103), some (.int (nI a)), none, none] (by decide +kernel) rfl (by decide +kernel) rfl rfl ?_
  rw [← sp_canAll_eq hok]
  refine pk_iconst (v := nI 1) dX7_canAll_0 (by decide) ?_
  refine pk_istore_n dX7_canAll_1 rfl rfl ?_
  refine pk_iconst (v := nI 0) dX7_canAll_2 (by decide) ?_
  refine pk_istore_n dX7_canAll_3 rfl rfl ?_
  refine pk_for 48 (fun _ => M) (fun j => [some (.ref 103), some (.int (nI a)), some (.int (pk_bi (!sp_any (fun p => sp_in A p && !sp_can (sp_lookA A) a (sp_lookA A (sp_s A p))) j))), some (.int (nI j))]) ?_ ?_ 0 (by omega)
  · intro j hj K
    have hsj := hs j (by omega)
    have hlj := sp_lookA_lt A (sp_s A j)
    refine pk_iload_n dX7_canAll_4 rfl ?_
    refine pk_bipush (v := nI 48) dX7_canAll_5 (by decide) ?_
    first | refine pk_geN (tgt := 52) dX7_canAll_7 (by decide) (by omega) (by omega) (fun c_7 => ?_) (fun c_7 => ?_) | refine pk_icmp_ge (tgt := 52) dX7_canAll_7 (by decide) (fun c_7 => ?_) (fun c_7 => ?_)
    · omega
    · refine pk_iload_n dX7_canAll_10 rfl ?_
      first | refine pk_eqb (tgt := 52) dX7_canAll_11 (by decide) (fun c_11 => ?_) (fun c_11 => ?_) | refine pk_eq0N (tgt := 52) dX7_canAll_11 (by decide) (by omega) (fun c_11 => ?_) (fun c_11 => ?_) | refine pk_if_eq (tgt := 52) dX7_canAll_11 (by decide) (fun c_11 => ?_) (fun c_11 => ?_)
      · refine pk_iload_n dX7_canAll_52 rfl ?_
        refine pk_reti dX7_canAll_53 (by first | rfl | exact pk_nbi _) ?_
        refine ⟨?_, rfl⟩
        have h1 : sp_any (fun p => sp_in A p && !sp_can (sp_lookA A) a (sp_lookA A (sp_s A p))) j = true := by
          rw [Bool.not_eq_false'] at c_11
          exact c_11
        obtain ⟨q, hq, h2⟩ := sp_any_iff.mp h1
        rw [h1, sp_any_true (f := (fun p => sp_in A p && !sp_can (sp_lookA A) a (sp_lookA A (sp_s A p)))) (n := 48) (show q < 48 by omega) h2]
      · refine pk_aload_n dX7_canAll_14 rfl ?_
        refine pk_iload_n dX7_canAll_15 rfl ?_
        refine pk_Vi dX7_canAll_16 ml_X7_88 yw_X7_isIn yv_X7_isIn (hW.s rfl) (e_X7_isIn ⟨hW, hA, hok⟩ (by omega)) rfl rfl rfl rfl rfl rfl rfl ?_
        first | refine pk_eqb (tgt := 40) dX7_canAll_19 (by decide) (fun c_19 => ?_) (fun c_19 => ?_) | refine pk_eq0N (tgt := 40) dX7_canAll_19 (by decide) (by omega) (fun c_19 => ?_) (fun c_19 => ?_) | refine pk_if_eq (tgt := 40) dX7_canAll_19 (by decide) (fun c_19 => ?_) (fun c_19 => ?_)
        · refine pk_iconst (v := nI 1) dX7_canAll_40 (by decide) ?_
          refine pk_goto (tgt := 45) dX7_canAll_41 (by decide) ?_
          refine pk_istore_n dX7_canAll_45 rfl rfl ?_
          first | refine pk_inc1 dX7_canAll_46 rfl rfl ?_ | refine pk_iinc dX7_canAll_46 rfl rfl rfl ?_
          refine pk_goto (tgt := 4) dX7_canAll_49 (by decide) ?_
          have e1 : (!sp_any (fun p => sp_in A p && !sp_can (sp_lookA A) a (sp_lookA A (sp_s A p))) (j + 1)) = true := by
            rw [sp_any_succ, c_19, Bool.false_and, Bool.or_false]
            exact c_11
          rw [e1] at K
          exact K
        · refine pk_aload_n dX7_canAll_22 rfl ?_
          refine pk_iload_n dX7_canAll_23 rfl ?_
          refine pk_aload_n dX7_canAll_24 rfl ?_
          refine pk_getP dX7_canAll_25 fl_X7_13 rfl (hW.s rfl) (hW.p rfl) ?_
          refine pk_aload_n dX7_canAll_28 rfl ?_
          refine pk_iload_n dX7_canAll_29 rfl ?_
          refine pk_Vi dX7_canAll_30 ml_X7_92 yw_X7_setAt yv_X7_setAt (hW.s rfl) (e_X7_setAt ⟨hW, hA, hok⟩ (by omega)) rfl rfl rfl rfl rfl rfl rfl ?_
          refine pk_aldN dX7_canAll_33 (hW.s rfl) (by omega) (by omega) (hL _ (by omega)) ?_
          refine pk_Vi dX7_canAll_34 ml_X7_95 yw_X7_canLook yv_X7_canLook (hW.s rfl) (e_X7_canLook ⟨hW, hA, hok⟩ hL (by omega) (by omega)) rfl rfl rfl rfl rfl rfl rfl ?_
          first | refine pk_eqb (tgt := 44) dX7_canAll_37 (by decide) (fun c_37 => ?_) (fun c_37 => ?_) | refine pk_eq0N (tgt := 44) dX7_canAll_37 (by decide) (by omega) (fun c_37 => ?_) (fun c_37 => ?_) | refine pk_if_eq (tgt := 44) dX7_canAll_37 (by decide) (fun c_37 => ?_) (fun c_37 => ?_)
          · refine pk_iconst (v := nI 0) dX7_canAll_44 (by decide) ?_
            refine pk_istore_n dX7_canAll_45 rfl rfl ?_
            first | refine pk_inc1 dX7_canAll_46 rfl rfl ?_ | refine pk_iinc dX7_canAll_46 rfl rfl rfl ?_
            refine pk_goto (tgt := 4) dX7_canAll_49 (by decide) ?_
            have e1 : (!sp_any (fun p => sp_in A p && !sp_can (sp_lookA A) a (sp_lookA A (sp_s A p))) (j + 1)) = false := by
              rw [sp_any_succ, c_19, c_37, Bool.not_false, Bool.and_self, Bool.or_true]
              rfl
            rw [e1] at K
            exact K
          · refine pk_iconst (v := nI 1) dX7_canAll_40 (by decide) ?_
            refine pk_goto (tgt := 45) dX7_canAll_41 (by decide) ?_
            refine pk_istore_n dX7_canAll_45 rfl rfl ?_
            first | refine pk_inc1 dX7_canAll_46 rfl rfl ?_ | refine pk_iinc dX7_canAll_46 rfl rfl rfl ?_
            refine pk_goto (tgt := 4) dX7_canAll_49 (by decide) ?_
            have e1 : (!sp_any (fun p => sp_in A p && !sp_can (sp_lookA A) a (sp_lookA A (sp_s A p))) (j + 1)) = true := by
              rw [sp_any_succ, c_37, Bool.not_true, Bool.and_false, Bool.or_false]
              exact c_11
            rw [e1] at K
            exact K
  · refine pk_iload_n dX7_canAll_4 rfl ?_
    refine pk_bipush (v := nI 48) dX7_canAll_5 (by decide) ?_
    first | refine pk_geN (tgt := 52) dX7_canAll_7 (by decide) (by omega) (by omega) (fun c_7 => ?_) (fun c_7 => ?_) | refine pk_icmp_ge (tgt := 52) dX7_canAll_7 (by decide) (fun c_7 => ?_) (fun c_7 => ?_)
    · refine pk_iload_n dX7_canAll_52 rfl ?_
      refine pk_reti dX7_canAll_53 (by first | rfl | exact pk_nbi _) ?_
      exact ⟨rfl, rfl⟩
    · omega

set_option maxRecDepth 100000 in
set_option maxHeartbeats 4000000 in
theorem e_X7_few {Γ : pk_T} {M : pk_M} {L : Nat} {A : pk_St} (hN : pm_now L M A) (hL : ∀ s, s < 32 → pk_I M 105 s = nI (sp_lookA A s)) : pk_E Γ yX7_few cX7_few 3 (some .int) 4 0 0 M [.ref 103] (fun r M' => r = some (.int (nI (sp_few A))) ∧ M' = M) := by
  obtain ⟨hW, hA, hok⟩ := hN
  have hw := hok.1
  have hh := hok.2.1
  have hs := hok.2.2.2.2.2.2.2.1
  refine pk_meth (own := RX7) (ini := false) [some (.ref 103), none, none] (by decide +kernel) rfl (by decide +kernel) rfl rfl ?_
  refine pk_iconst (v := nI 0) dX7_few_0 (by decide) ?_
  refine pk_istore_n dX7_few_1 rfl rfl ?_
  refine pk_forJ 5 (fun n => ∀ i, i < 32 → sp_canAll (sp_lookA A) i (sp_sets A) = true → n ≤ sp_bits i) (fun _ => M) (fun n => [some (.ref 103), some (.int (nI n)), none]) ?_ ?_ 0 (by omega) (fun i _ _ => Nat.zero_le _)
  · intro n hn h0 K1
    refine pk_iload_n dX7_few_2 rfl ?_
    refine pk_iconst (v := nI 5) dX7_few_3 (by decide) ?_
    first | refine pk_geN (tgt := 45) dX7_few_4 (by decide) (by omega) (by omega) (fun c_4 => ?_) (fun c_4 => ?_) | refine pk_icmp_ge (tgt := 45) dX7_few_4 (by decide) (fun c_4 => ?_) (fun c_4 => ?_)
    · omega
    · refine pk_iconst (v := nI 0) dX7_few_7 (by decide) ?_
      refine pk_istore_n dX7_few_8 rfl rfl ?_
      refine pk_forJ 32 (fun j => ∀ i, i < j → sp_canAll (sp_lookA A) i (sp_sets A) = true → sp_bits i ≠ n) (fun _ => M) (fun j => [some (.ref 103), some (.int (nI n)), some (.int (nI j))]) ?_ ?_ 0 (by omega) (fun i hi => absurd hi (Nat.not_lt_zero i))
      · intro j hj h1 K
        have hb := sp_bits_le j
        refine pk_iload_n dX7_few_9 rfl ?_
        refine pk_bipush (v := nI 32) dX7_few_10 (by decide) ?_
        first | refine pk_geN (tgt := 39) dX7_few_12 (by decide) (by omega) (by omega) (fun c_12 => ?_) (fun c_12 => ?_) | refine pk_icmp_ge (tgt := 39) dX7_few_12 (by decide) (fun c_12 => ?_) (fun c_12 => ?_)
        · omega
        · refine pk_iload_n dX7_few_15 rfl ?_
          refine pk_Si dX7_few_16 ml_X7_98 yw_X7_bits ys_X7_bits (e_X7_bits _ (by omega)) rfl rfl rfl rfl rfl rfl rfl ?_
          refine pk_iload_n dX7_few_19 rfl ?_
          first | refine pk_neN (tgt := 33) dX7_few_20 (by decide) (by omega) (by omega) (fun c_20 => ?_) (fun c_20 => ?_) | refine pk_icmp_ne (tgt := 33) dX7_few_20 (by decide) (fun c_20 => ?_) (fun c_20 => ?_)
          · first | refine pk_inc1 dX7_few_33 rfl rfl ?_ | refine pk_iinc dX7_few_33 rfl rfl rfl ?_
            refine pk_goto (tgt := 9) dX7_few_36 (by decide) ?_
            exact K (fun i hi hg => by
              by_cases e : i = j
              · subst e
                first | exact c_20 | exact absurd (c_28.symm.trans hg) (by decide)
              · exact h1 i (by omega) hg)
          · refine pk_aload_n dX7_few_23 rfl ?_
            refine pk_iload_n dX7_few_24 rfl ?_
            refine pk_Vi dX7_few_25 ml_X7_101 yw_X7_canAll yv_X7_canAll (hW.s rfl) (e_X7_canAll ⟨hW, hA, hok⟩ hL (by omega)) rfl rfl rfl rfl rfl rfl rfl ?_
            first | refine pk_eqb (tgt := 33) dX7_few_28 (by decide) (fun c_28 => ?_) (fun c_28 => ?_) | refine pk_eq0N (tgt := 33) dX7_few_28 (by decide) (by omega) (fun c_28 => ?_) (fun c_28 => ?_) | refine pk_if_eq (tgt := 33) dX7_few_28 (by decide) (fun c_28 => ?_) (fun c_28 => ?_)
            · first | refine pk_inc1 dX7_few_33 rfl rfl ?_ | refine pk_iinc dX7_few_33 rfl rfl rfl ?_
              refine pk_goto (tgt := 9) dX7_few_36 (by decide) ?_
              exact K (fun i hi hg => by
                by_cases e : i = j
                · subst e
                  first | exact c_20 | exact absurd (c_28.symm.trans hg) (by decide)
                · exact h1 i (by omega) hg)
            · refine pk_iload_n dX7_few_31 rfl ?_
              refine pk_reti dX7_few_32 (by first | rfl | exact pk_nbi _) ?_
              exact ⟨by rw [sp_few_at hn hj h0 h1 c_20 c_28], rfl⟩
      · intro h1
        refine pk_iload_n dX7_few_9 rfl ?_
        refine pk_bipush (v := nI 32) dX7_few_10 (by decide) ?_
        first | refine pk_geN (tgt := 39) dX7_few_12 (by decide) (by omega) (by omega) (fun c_12 => ?_) (fun c_12 => ?_) | refine pk_icmp_ge (tgt := 39) dX7_few_12 (by decide) (fun c_12 => ?_) (fun c_12 => ?_)
        · first | refine pk_inc1 dX7_few_39 rfl rfl ?_ | refine pk_iinc dX7_few_39 rfl rfl rfl ?_
          refine pk_goto (tgt := 2) dX7_few_42 (by decide) ?_
          exact pk_fgt (by repeat first | exact trivial | refine ⟨rfl, ?_⟩) (K1 (fun i hi hg => by
            have := h0 i hi hg
            have := h1 i hi hg
            omega))
        · omega
  · intro h0
    refine pk_iload_n dX7_few_2 rfl ?_
    refine pk_iconst (v := nI 5) dX7_few_3 (by decide) ?_
    first | refine pk_geN (tgt := 45) dX7_few_4 (by decide) (by omega) (by omega) (fun c_4 => ?_) (fun c_4 => ?_) | refine pk_icmp_ge (tgt := 45) dX7_few_4 (by decide) (fun c_4 => ?_) (fun c_4 => ?_)
    · refine pk_bipush (v := nI 31) dX7_few_45 (by decide) ?_
      refine pk_reti dX7_few_47 (by first | rfl | exact pk_nbi _) ?_
      exact ⟨by rw [sp_few_no h0], rfl⟩
    · omega
