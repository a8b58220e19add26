/-! The model: reading its areas. -/
theorem pm_ar.ro {A : pk_St} {M : pk_M} (h : pm_ar A M) {a : Nat} (ha : a < sp_many A) : pk_I M 107 a = nI (sp_ro A a) := by
  obtain ⟨h1, h2⟩ := sp_ro_of ha
  have h3 := h.2.2 _ h1
  rw [h2] at h3
  exact h3
theorem sp_c_root_inj {A : pk_St} {q r : Nat} (hq : sp_root A q = true) (hr : sp_root A r = true) (h : sp_c (sp_root A) q = sp_c (sp_root A) r) : q = r := by
  rcases Nat.lt_trichotomy q r with z | z | z
  · have := sp_c_lt z hq
    omega
  · exact z
  · have := sp_c_lt z hr
    omega
theorem sp_num_ro {A : pk_St} (hA : pk_okS A) {q a : Nat} (hq : sp_in A q = true) (ha : a < sp_many A) : (sp_num2 A q == a) = (sp_lab A q == sp_ro A a) := by
  obtain ⟨h1, h2⟩ := sp_ro_of ha
  apply sp_bool_iff
  rw [beq_iff_eq, beq_iff_eq]
  constructor
  · intro h
    exact sp_c_root_inj (sp_root_lab hA hq) h1 (h.trans h2.symm)
  · intro h
    unfold sp_num2
    rw [h, h2]
noncomputable def sp_iof (A : pk_St) (p a : Nat) : Bool := sp_in A p && (sp_lab A p == sp_ro A a)
noncomputable def sp_bs (A : pk_St) (o p k : Nat) : Bool := match sp_nb A p k with
  | some q => sp_lab A q == sp_ro A o
  | none => false
noncomputable def sp_bes (A : pk_St) (a o p : Nat) : Bool := sp_iof A p a && sp_any (sp_bs A o p) 4
theorem sp_nbrs_eq {A : pk_St} (hA : pk_okS A) {a : Nat} (ha : a < sp_many A) : sp_c (fun o => !(o == a) && sp_any (sp_bes A a o) 48) (sp_many A) = sp_nbrs A a := by
  unfold sp_nbrs
  rw [sp_c_skip (f := fun c => sp_any (sp_ngf A a c) 48) (n := sp_many A) (m := 48) (sp_many_le A)]
  · refine sp_c_congr (fun c hc => ?_)
    apply sp_bool_iff
    rw [Bool.and_eq_true, sp_any_iff, sp_any_iff]
    constructor
    · rintro ⟨h0, p, hp, h⟩
      unfold sp_bes sp_iof at h
      rw [Bool.and_eq_true, Bool.and_eq_true, sp_any_iff] at h
      obtain ⟨⟨hi, hl⟩, k, hk, hb⟩ := h
      refine ⟨p, hp, ?_⟩
      unfold sp_ngf
      rw [Bool.and_eq_true, Bool.and_eq_true, sp_any_iff]
      refine ⟨⟨hi, by rw [sp_num_ro hA hi ha]; exact hl⟩, k, hk, ?_⟩
      unfold sp_bs at hb
      unfold sp_mb
      cases e : sp_nb A p k with
      | none => rw [e] at hb; cases hb
      | some z =>
        rw [e] at hb
        dsimp only at hb ⊢
        rw [sp_num_ro hA (sp_nb_in hA hi hk e).1 hc, hb, h0]
        rfl
    · rintro ⟨p, hp, h⟩
      unfold sp_ngf at h
      rw [Bool.and_eq_true, Bool.and_eq_true, sp_any_iff] at h
      obtain ⟨⟨hi, hl⟩, k, hk, hb⟩ := h
      unfold sp_mb at hb
      cases e : sp_nb A p k with
      | none => rw [e] at hb; cases hb
      | some z =>
        rw [e] at hb
        dsimp only at hb
        rw [Bool.and_eq_true, sp_num_ro hA (sp_nb_in hA hi hk e).1 hc] at hb
        refine ⟨hb.2, p, hp, ?_⟩
        unfold sp_bes sp_iof
        rw [Bool.and_eq_true, Bool.and_eq_true, sp_any_iff]
        refine ⟨⟨hi, by rw [← sp_num_ro hA hi ha]; exact hl⟩, k, hk, ?_⟩
        unfold sp_bs
        rw [e]
        exact hb.1
  · intro c hc hc48
    cases hn : sp_any (sp_ngf A a c) 48 with
    | false => rfl
    | true =>
      obtain ⟨p, hp, h⟩ := sp_any_iff.mp hn
      unfold sp_ngf at h
      rw [Bool.and_eq_true, Bool.and_eq_true, sp_any_iff] at h
      obtain ⟨⟨hi, hl⟩, k, hk, hb⟩ := h
      unfold sp_mb at hb
      cases e : sp_nb A p k with
      | none => rw [e] at hb; cases hb
      | some z =>
        rw [e] at hb
        dsimp only at hb
        rw [Bool.and_eq_true, beq_iff_eq] at hb
        have := sp_num2_lt hA (sp_nb_in hA hi hk e).1
        omega

set_option maxRecDepth 100000 in
set_option maxHeartbeats 4000000 in
theorem e_X7_areaOf {Γ : pk_T} {M : pk_M} {L : Nat} {A : pk_St} (hN : pm_now L M A) (har : pm_ar A M) {q : Nat} (hq : sp_in A q = true) : pk_E Γ yX7_areaOf cX7_areaOf 3 (some .int) 0 0 0 M [.ref 103, .int (nI q)] (fun r M' => r = some (.int (nI (sp_num2 A q))) ∧ M' = M) := by
  obtain ⟨hW, hA, hok⟩ := hN
  have hw := hok.1
  have hh := hok.2.1
  have hs := hok.2.2.2.2.2.2.2.1
  have hmn := sp_many_le A
  refine pk_meth (own := RX7) (ini := false) [some (.ref 103), some (.int (nI q)), none] (by decide +kernel) rfl (by decide +kernel) rfl rfl ?_
  have hq48 := (sp_in_lt hok hq).2.2
  have hnl := sp_num2_lt hok hq
  have hlb := (sp_lab_in hok hq).2.2.1
  have hrt := sp_root_lab hok hq
  refine pk_iconst (v := nI 0) dX7_areaOf_0 (by decide) ?_
  refine pk_istore_n dX7_areaOf_1 rfl rfl ?_
  refine pk_for (sp_num2 A q) (fun _ => M) (fun j => [some (.ref 103), some (.int (nI q)), some (.int (nI j))]) ?_ ?_ 0 (by omega)
  · intro j hj K
    have hro := sp_ro_of (A := A) (a := j) (by omega)
    have hrl := (sp_ro_lt hok (a := j) (by omega)).2
    have hne : sp_ro A j ≠ sp_lab A q := fun e => by
      have h2 := hro.2
      rw [e] at h2
      have : sp_num2 A q = j := h2
      omega
    refine pk_iload_n dX7_areaOf_2 rfl ?_
    refine pk_bipush (v := nI 47) dX7_areaOf_3 (by decide) ?_
    first | refine pk_geN (tgt := 29) dX7_areaOf_5 (by decide) (by omega) (by omega) (fun c_5 => ?_) (fun c_5 => ?_) | refine pk_icmp_ge (tgt := 29) dX7_areaOf_5 (by decide) (fun c_5 => ?_) (fun c_5 => ?_)
    · omega
    · refine pk_aload_n dX7_areaOf_8 rfl ?_
      refine pk_getP dX7_areaOf_9 fl_X7_19 rfl (hW.s rfl) (hW.p rfl) ?_
      refine pk_iload_n dX7_areaOf_12 rfl ?_
      refine pk_aldN dX7_areaOf_13 (hW.s rfl) (by omega) (by omega) (har.ro (by omega)) ?_
      refine pk_aload_n dX7_areaOf_14 rfl ?_
      refine pk_getP dX7_areaOf_15 fl_X7_16 rfl (hW.s rfl) (hW.p rfl) ?_
      refine pk_iload_n dX7_areaOf_18 rfl ?_
      refine pk_aldN dX7_areaOf_19 (hW.s rfl) (by omega) (by omega) (har.1 _ hq48 hq) ?_
      first | refine pk_eqN (tgt := 29) dX7_areaOf_20 (by decide) (by omega) (by omega) (fun c_20 => ?_) (fun c_20 => ?_) | refine pk_icmp_eq (tgt := 29) dX7_areaOf_20 (by decide) (fun c_20 => ?_) (fun c_20 => ?_)
      · exact absurd c_20 hne
      · first | refine pk_inc1 dX7_areaOf_23 rfl rfl ?_ | refine pk_iinc dX7_areaOf_23 rfl rfl rfl ?_
        refine pk_goto (tgt := 2) dX7_areaOf_26 (by decide) ?_
        exact K
  · refine pk_iload_n dX7_areaOf_2 rfl ?_
    refine pk_bipush (v := nI 47) dX7_areaOf_3 (by decide) ?_
    first | refine pk_geN (tgt := 29) dX7_areaOf_5 (by decide) (by omega) (by omega) (fun c_5 => ?_) (fun c_5 => ?_) | refine pk_icmp_ge (tgt := 29) dX7_areaOf_5 (by decide) (fun c_5 => ?_) (fun c_5 => ?_)
    · refine pk_iload_n dX7_areaOf_29 rfl ?_
      refine pk_reti dX7_areaOf_30 (by first | rfl | exact pk_nbi _) ?_
      exact ⟨rfl, rfl⟩
    · refine pk_aload_n dX7_areaOf_8 rfl ?_
      refine pk_getP dX7_areaOf_9 fl_X7_19 rfl (hW.s rfl) (hW.p rfl) ?_
      refine pk_iload_n dX7_areaOf_12 rfl ?_
      refine pk_aldN dX7_areaOf_13 (hW.s rfl) (by omega) (by omega) (har.2.2 _ hrt) ?_
      refine pk_aload_n dX7_areaOf_14 rfl ?_
      refine pk_getP dX7_areaOf_15 fl_X7_16 rfl (hW.s rfl) (hW.p rfl) ?_
      refine pk_iload_n dX7_areaOf_18 rfl ?_
      refine pk_aldN dX7_areaOf_19 (hW.s rfl) (by omega) (by omega) (har.1 _ hq48 hq) ?_
      first | refine pk_eqN (tgt := 29) dX7_areaOf_20 (by decide) (by omega) (by omega) (fun c_20 => ?_) (fun c_20 => ?_) | refine pk_icmp_eq (tgt := 29) dX7_areaOf_20 (by decide) (fun c_20 => ?_) (fun c_20 => ?_)
      · refine pk_iload_n dX7_areaOf_29 rfl ?_
        refine pk_reti dX7_areaOf_30 (by first | rfl | exact pk_nbi _) ?_
        exact ⟨rfl, rfl⟩
      · exact absurd rfl c_20

set_option maxRecDepth 100000 in
set_option maxHeartbeats 4000000 in
theorem e_X7_isOf {Γ : pk_T} {M : pk_M} {L : Nat} {A : pk_St} (hN : pm_now L M A) (har : pm_ar A M) {q a : Nat} (hq : q < 48) (ha : a < sp_many A) : pk_E Γ yX7_isOf cX7_isOf 3 (some .boolean) 3 0 0 M [.ref 103, .int (nI q), .int (nI a)] (fun r M' => r = some (.int (pk_bi (sp_iof A q a))) ∧ M' = M) := by
  obtain ⟨hW, hA, hok⟩ := hN
  have hw := hok.1
  have hh := hok.2.1
  have hs := hok.2.2.2.2.2.2.2.1
  have hmn := sp_many_le A
  refine pk_meth (own := RX7) (ini := false) [some (.ref 103), some (.int (nI q)), some (.int (nI a))] (by decide +kernel) rfl (by decide +kernel) rfl rfl ?_
  have hrl := (sp_ro_lt hok ha).2
  refine pk_aload_n dX7_isOf_0 rfl ?_
  refine pk_iload_n dX7_isOf_1 rfl ?_
  refine pk_Vi dX7_isOf_2 ml_X7_88 yw_X7_isIn yv_X7_isIn (hW.s rfl) (e_X7_isIn ⟨hW, hA, hok⟩ (by omega)) rfl rfl rfl rfl rfl rfl rfl ?_
  first | refine pk_eqb (tgt := 27) dX7_isOf_5 (by decide) (fun c_5 => ?_) (fun c_5 => ?_) | refine pk_eq0N (tgt := 27) dX7_isOf_5 (by decide) (by omega) (fun c_5 => ?_) (fun c_5 => ?_) | refine pk_if_eq (tgt := 27) dX7_isOf_5 (by decide) (fun c_5 => ?_) (fun c_5 => ?_)
  · refine pk_iconst (v := nI 0) dX7_isOf_27 (by decide) ?_
    refine pk_reti dX7_isOf_28 (by first | rfl | exact pk_nbi _) ?_
    unfold sp_iof
    rw [c_5, Bool.false_and]
    exact ⟨rfl, rfl⟩
  · have hlb := (sp_lab_in hok c_5).2.2.1
    refine pk_aload_n dX7_isOf_8 rfl ?_
    refine pk_getP dX7_isOf_9 fl_X7_16 rfl (hW.s rfl) (hW.p rfl) ?_
    refine pk_iload_n dX7_isOf_12 rfl ?_
    refine pk_aldN dX7_isOf_13 (hW.s rfl) (by omega) (by omega) (har.1 _ hq c_5) ?_
    refine pk_aload_n dX7_isOf_14 rfl ?_
    refine pk_getP dX7_isOf_15 fl_X7_19 rfl (hW.s rfl) (hW.p rfl) ?_
    refine pk_iload_n dX7_isOf_18 rfl ?_
    refine pk_aldN dX7_isOf_19 (hW.s rfl) (by omega) (by omega) (har.ro ha) ?_
    first | refine pk_neN (tgt := 27) dX7_isOf_20 (by decide) (by omega) (by omega) (fun c_20 => ?_) (fun c_20 => ?_) | refine pk_icmp_ne (tgt := 27) dX7_isOf_20 (by decide) (fun c_20 => ?_) (fun c_20 => ?_)
    · refine pk_iconst (v := nI 0) dX7_isOf_27 (by decide) ?_
      refine pk_reti dX7_isOf_28 (by first | rfl | exact pk_nbi _) ?_
      unfold sp_iof
      rw [beq_eq_false_iff_ne.mpr c_20, Bool.and_false]
      exact ⟨rfl, rfl⟩
    · refine pk_iconst (v := nI 1) dX7_isOf_23 (by decide) ?_
      refine pk_goto (tgt := 28) dX7_isOf_24 (by decide) ?_
      refine pk_reti dX7_isOf_28 (by first | rfl | exact pk_nbi _) ?_
      unfold sp_iof
      rw [c_5, beq_iff_eq.mpr c_20]
      exact ⟨rfl, rfl⟩

set_option maxRecDepth 100000 in
set_option maxHeartbeats 4000000 in
theorem e_X7_placesOfArea {Γ : pk_T} {M : pk_M} {L : Nat} {A : pk_St} (hN : pm_now L M A) (har : pm_ar A M) {a : Nat} (ha : a < sp_many A) : pk_E Γ yX7_placesOfArea cX7_placesOfArea 4 (some .int) 4 0 0 M [.ref 103, .int (nI a)] (fun r M' => r = some (.int (nI (sp_sz A (sp_ro A a)))) ∧ M' = M) := by
  obtain ⟨hW, hA, hok⟩ := hN
  have hw := hok.1
  have hh := hok.2.1
  have hs := hok.2.2.2.2.2.2.2.1
  have hmn := sp_many_le A
  refine pk_meth (own := RX7) (ini := false) [some (.ref 103), some (.int (nI a)), none, none] (by decide +kernel) rfl (by decide +kernel) rfl rfl ?_
  refine pk_iconst (v := nI 0) dX7_placesOfArea_0 (by decide) ?_
  refine pk_istore_n dX7_placesOfArea_1 rfl rfl ?_
  refine pk_iconst (v := nI 0) dX7_placesOfArea_2 (by decide) ?_
  refine pk_istore_n dX7_placesOfArea_3 rfl rfl ?_
  refine pk_for 48 (fun _ => M) (fun j => [some (.ref 103), some (.int (nI a)), some (.int (nI (sp_c (fun q => sp_in A q && (sp_lab A q == sp_ro A a)) j))), some (.int (nI j))]) ?_ ?_ 0 (by omega)
  · intro j hj K
    have e1 := sp_c_succ (fun q => sp_in A q && (sp_lab A q == sp_ro A a)) j
    refine pk_iload_n dX7_placesOfArea_4 rfl ?_
    refine pk_bipush (v := nI 48) dX7_placesOfArea_5 (by decide) ?_
    first | refine pk_geN (tgt := 33) dX7_placesOfArea_7 (by decide) (by omega) (by omega) (fun c_7 => ?_) (fun c_7 => ?_) | refine pk_icmp_ge (tgt := 33) dX7_placesOfArea_7 (by decide) (fun c_7 => ?_) (fun c_7 => ?_)
    · omega
    · refine pk_iload_n dX7_placesOfArea_10 rfl ?_
      refine pk_aload_n dX7_placesOfArea_11 rfl ?_
      refine pk_iload_n dX7_placesOfArea_12 rfl ?_
      refine pk_iload_n dX7_placesOfArea_13 rfl ?_
      refine pk_Vi dX7_placesOfArea_14 ml_X7_111 yw_X7_isOf yv_X7_isOf (hW.s rfl) (e_X7_isOf ⟨hW, hA, hok⟩ har (by omega) (by omega)) rfl rfl rfl rfl rfl rfl rfl ?_
      first | refine pk_eqb (tgt := 24) dX7_placesOfArea_17 (by decide) (fun c_17 => ?_) (fun c_17 => ?_) | refine pk_eq0N (tgt := 24) dX7_placesOfArea_17 (by decide) (by omega) (fun c_17 => ?_) (fun c_17 => ?_) | refine pk_if_eq (tgt := 24) dX7_placesOfArea_17 (by decide) (fun c_17 => ?_) (fun c_17 => ?_)
      · refine pk_iconst (v := nI 0) dX7_placesOfArea_24 (by decide) ?_
        unfold sp_iof at c_17
        rw [c_17, if_neg (by decide)] at e1
        rw [e1] at K
        first | refine pk_addN dX7_placesOfArea_25 ?_ | refine pk_iadd dX7_placesOfArea_25 ?_
        refine pk_istore_n dX7_placesOfArea_26 rfl rfl ?_
        first | refine pk_inc1 dX7_placesOfArea_27 rfl rfl ?_ | refine pk_iinc dX7_placesOfArea_27 rfl rfl rfl ?_
        refine pk_goto (tgt := 4) dX7_placesOfArea_30 (by decide) ?_
        exact K
      · refine pk_iconst (v := nI 1) dX7_placesOfArea_20 (by decide) ?_
        refine pk_goto (tgt := 25) dX7_placesOfArea_21 (by decide) ?_
        unfold sp_iof at c_17
        rw [c_17, if_pos rfl] at e1
        rw [e1] at K
        first | refine pk_addN dX7_placesOfArea_25 ?_ | refine pk_iadd dX7_placesOfArea_25 ?_
        refine pk_istore_n dX7_placesOfArea_26 rfl rfl ?_
        first | refine pk_inc1 dX7_placesOfArea_27 rfl rfl ?_ | refine pk_iinc dX7_placesOfArea_27 rfl rfl rfl ?_
        refine pk_goto (tgt := 4) dX7_placesOfArea_30 (by decide) ?_
        exact K
  · refine pk_iload_n dX7_placesOfArea_4 rfl ?_
    refine pk_bipush (v := nI 48) dX7_placesOfArea_5 (by decide) ?_
    first | refine pk_geN (tgt := 33) dX7_placesOfArea_7 (by decide) (by omega) (by omega) (fun c_7 => ?_) (fun c_7 => ?_) | refine pk_icmp_ge (tgt := 33) dX7_placesOfArea_7 (by decide) (fun c_7 => ?_) (fun c_7 => ?_)
    · refine pk_iload_n dX7_placesOfArea_33 rfl ?_
      refine pk_reti dX7_placesOfArea_34 (by first | rfl | exact pk_nbi _) ?_
      exact ⟨rfl, rfl⟩
    · omega

set_option maxRecDepth 100000 in
set_option maxHeartbeats 4000000 in
theorem e_X7_isBeside {Γ : pk_T} {M : pk_M} {L : Nat} {A : pk_St} (hN : pm_now L M A) (har : pm_ar A M) {a o : Nat} (ha : a < sp_many A) (ho : o < sp_many A) : pk_E Γ yX7_isBeside cX7_isBeside 7 (some .boolean) 4 0 0 M [.ref 103, .int (nI a), .int (nI o)] (fun r M' => r = some (.int (pk_bi (sp_any (sp_bes A a o) 48))) ∧ M' = M) := by
  obtain ⟨hW, hA, hok⟩ := hN
  have hw := hok.1
  have hh := hok.2.1
  have hs := hok.2.2.2.2.2.2.2.1
  have hmn := sp_many_le A
  refine pk_meth (own := RX7) (ini := false) [some (.ref 103), some (.int (nI a)), some (.int (nI o)), none, none, none, none] (by decide +kernel) rfl (by decide +kernel) rfl rfl ?_
  refine pk_iconst (v := nI 0) dX7_isBeside_0 (by decide) ?_
  refine pk_istore_n dX7_isBeside_1 rfl rfl ?_
  refine pk_iconst (v := nI 0) dX7_isBeside_2 (by decide) ?_
  refine pk_istore dX7_isBeside_3 rfl rfl ?_
  refine pk_for 48 (fun _ => M) (fun j => [some (.ref 103), some (.int (nI a)), some (.int (nI o)), some (.int (pk_bi (sp_any (sp_bes A a o) j))), some (.int (nI j)), none, none]) ?_ ?_ 0 (by omega)
  · intro j hj K1
    refine pk_iload dX7_isBeside_5 rfl ?_
    refine pk_bipush (v := nI 48) dX7_isBeside_7 (by decide) ?_
    first | refine pk_geN (tgt := 78) dX7_isBeside_9 (by decide) (by omega) (by omega) (fun c_9 => ?_) (fun c_9 => ?_) | refine pk_icmp_ge (tgt := 78) dX7_isBeside_9 (by decide) (fun c_9 => ?_) (fun c_9 => ?_)
    · omega
    · refine pk_iconst (v := nI 0) dX7_isBeside_12 (by decide) ?_
      refine pk_istore dX7_isBeside_13 rfl rfl ?_
      cases hof : sp_iof A j a with
      | false =>
        have e2 : sp_any (sp_bes A a o) (j + 1) = sp_any (sp_bes A a o) j := by
          rw [sp_any_succ]
          unfold sp_bes
          rw [hof, Bool.false_and, Bool.or_false]
        rw [e2] at K1
        refine pk_iload dX7_isBeside_15 rfl ?_
        refine pk_iconst (v := nI 4) dX7_isBeside_17 (by decide) ?_
        refine pk_geN (a := 0) (b := 4) (tgt := 72) dX7_isBeside_18 (by decide) (by decide) (by decide) (fun c_18 => ?_) (fun c_18 => ?_)
        · omega
        · refine pk_aload_n dX7_isBeside_21 rfl ?_
          refine pk_iload dX7_isBeside_22 rfl ?_
          refine pk_iload_n dX7_isBeside_24 rfl ?_
          refine pk_Vi dX7_isBeside_25 ml_X7_111 yw_X7_isOf yv_X7_isOf (hW.s rfl) (e_X7_isOf ⟨hW, hA, hok⟩ har (by omega) (by omega)) rfl rfl rfl rfl rfl rfl rfl ?_
          first | refine pk_eqb (tgt := 72) dX7_isBeside_28 (by decide) (fun c_28 => ?_) (fun c_28 => ?_) | refine pk_eq0N (tgt := 72) dX7_isBeside_28 (by decide) (by omega) (fun c_28 => ?_) (fun c_28 => ?_) | refine pk_if_eq (tgt := 72) dX7_isBeside_28 (by decide) (fun c_28 => ?_) (fun c_28 => ?_)
          · first | refine pk_inc1 dX7_isBeside_72 rfl rfl ?_ | refine pk_iinc dX7_isBeside_72 rfl rfl rfl ?_
            refine pk_goto (tgt := 5) dX7_isBeside_75 (by decide) ?_
            exact pk_fgt (by repeat first | exact trivial | refine ⟨rfl, ?_⟩) K1
          · exact absurd (hof.symm.trans c_28) (by decide)
      | true =>
        have hin : sp_in A j = true := by
          unfold sp_iof at hof
          rw [Bool.and_eq_true] at hof
          exact hof.1
        have e2 : sp_any (sp_bes A a o) (j + 1) = (sp_any (sp_bes A a o) j || sp_any (sp_bs A o j) 4) := by
          rw [sp_any_succ]
          unfold sp_bes
          rw [hof, Bool.true_and]
        rw [e2] at K1
        refine pk_fgt (ls' := [some (.ref 103), some (.int (nI a)), some (.int (nI o)), some (.int (pk_bi (sp_any (sp_bes A a o) j || sp_any (sp_bs A o j) 0))), some (.int (nI j)), some (.int (nI 0)), none]) (by rw [show (sp_any (sp_bes A a o) j || sp_any (sp_bs A o j) 0) = sp_any (sp_bes A a o) j from Bool.or_false _]; repeat first | exact trivial | refine ⟨rfl, ?_⟩) ?_
        refine pk_for 4 (fun _ => M) (fun k => [some (.ref 103), some (.int (nI a)), some (.int (nI o)), some (.int (pk_bi (sp_any (sp_bes A a o) j || sp_any (sp_bs A o j) k))), some (.int (nI j)), some (.int (nI k)), none]) ?_ ?_ 0 (by omega)
        · intro k hk K
          refine pk_iload dX7_isBeside_15 rfl ?_
          refine pk_iconst (v := nI 4) dX7_isBeside_17 (by decide) ?_
          first | refine pk_geN (tgt := 72) dX7_isBeside_18 (by decide) (by omega) (by omega) (fun c_18 => ?_) (fun c_18 => ?_) | refine pk_icmp_ge (tgt := 72) dX7_isBeside_18 (by decide) (fun c_18 => ?_) (fun c_18 => ?_)
          · omega
          · refine pk_aload_n dX7_isBeside_21 rfl ?_
            refine pk_iload dX7_isBeside_22 rfl ?_
            refine pk_iload_n dX7_isBeside_24 rfl ?_
            refine pk_Vi dX7_isBeside_25 ml_X7_111 yw_X7_isOf yv_X7_isOf (hW.s rfl) (e_X7_isOf ⟨hW, hA, hok⟩ har (by omega) (by omega)) rfl rfl rfl rfl rfl rfl rfl ?_
            first | refine pk_eqb (tgt := 72) dX7_isBeside_28 (by decide) (fun c_28 => ?_) (fun c_28 => ?_) | refine pk_eq0N (tgt := 72) dX7_isBeside_28 (by decide) (by omega) (fun c_28 => ?_) (fun c_28 => ?_) | refine pk_if_eq (tgt := 72) dX7_isBeside_28 (by decide) (fun c_28 => ?_) (fun c_28 => ?_)
            · exact absurd (hof.symm.trans c_28) (by decide)
            · refine pk_aload_n dX7_isBeside_31 rfl ?_
              refine pk_iload dX7_isBeside_32 rfl ?_
              refine pk_iload dX7_isBeside_34 rfl ?_
              refine pk_Vi dX7_isBeside_36 ml_X7_104 yw_X7_beside yv_X7_beside (hW.s rfl) (e_X7_beside ⟨hW, hA, hok⟩ hin hk) rfl rfl rfl rfl rfl rfl rfl ?_
              rcases hnb : sp_nb A j k with _ | z
              · refine pk_istore dX7_isBeside_39 rfl rfl ?_
                refine pk_iload_n dX7_isBeside_41 rfl ?_
                refine pk_neb (tgt := 60) dX7_isBeside_42 (by decide) (fun c_42 => ?_) (fun c_42 => ?_)
                · refine pk_iconst (v := nI 1) dX7_isBeside_60 (by decide) ?_
                  refine pk_goto (tgt := 65) dX7_isBeside_61 (by decide) ?_
                  refine pk_istore_n dX7_isBeside_65 rfl rfl ?_
                  first | refine pk_inc1 dX7_isBeside_66 rfl rfl ?_ | refine pk_iinc dX7_isBeside_66 rfl rfl rfl ?_
                  refine pk_goto (tgt := 15) dX7_isBeside_69 (by decide) ?_
                  have e1 : (sp_any (sp_bes A a o) j || sp_any (sp_bs A o j) (k + 1)) = true := by
                    rw [sp_any_succ, ← Bool.or_assoc, c_42, Bool.true_or]
                  rw [e1] at K
                  exact pk_fgt (by repeat first | exact trivial | refine ⟨rfl, ?_⟩) K
                · refine pk_iload dX7_isBeside_45 rfl ?_
                  refine pk_if_lt (tgt := 64) dX7_isBeside_47 (by decide) (fun c_47 => ?_) (fun c_47 => ?_)
                  · refine pk_iconst (v := nI 0) dX7_isBeside_64 (by decide) ?_
                    refine pk_istore_n dX7_isBeside_65 rfl rfl ?_
                    first | refine pk_inc1 dX7_isBeside_66 rfl rfl ?_ | refine pk_iinc dX7_isBeside_66 rfl rfl rfl ?_
                    refine pk_goto (tgt := 15) dX7_isBeside_69 (by decide) ?_
                    have e1 : (sp_any (sp_bes A a o) j || sp_any (sp_bs A o j) (k + 1)) = false := by
                      rw [sp_any_succ, ← Bool.or_assoc, c_42, Bool.false_or]
                      unfold sp_bs
                      rw [hnb]
                    rw [e1] at K
                    exact pk_fgt (by repeat first | exact trivial | refine ⟨rfl, ?_⟩) K
                  · exact absurd (show sp_on none < 0 by decide) c_47
              · have hz := (sp_nb_in hok hin hk hnb).1
                have hz48 := (sp_in_lt hok hz).2.2
                refine pk_stq (st' := [.int (nI z)]) rfl ?_
                refine pk_istore dX7_isBeside_39 rfl rfl ?_
                refine pk_iload_n dX7_isBeside_41 rfl ?_
                refine pk_neb (tgt := 60) dX7_isBeside_42 (by decide) (fun c_42 => ?_) (fun c_42 => ?_)
                · refine pk_iconst (v := nI 1) dX7_isBeside_60 (by decide) ?_
                  refine pk_goto (tgt := 65) dX7_isBeside_61 (by decide) ?_
                  refine pk_istore_n dX7_isBeside_65 rfl rfl ?_
                  first | refine pk_inc1 dX7_isBeside_66 rfl rfl ?_ | refine pk_iinc dX7_isBeside_66 rfl rfl rfl ?_
                  refine pk_goto (tgt := 15) dX7_isBeside_69 (by decide) ?_
                  have e1 : (sp_any (sp_bes A a o) j || sp_any (sp_bs A o j) (k + 1)) = true := by
                    rw [sp_any_succ, ← Bool.or_assoc, c_42, Bool.true_or]
                  rw [e1] at K
                  exact pk_fgt (by repeat first | exact trivial | refine ⟨rfl, ?_⟩) K
                · refine pk_iload dX7_isBeside_45 rfl ?_
                  refine pk_if_lt (tgt := 64) dX7_isBeside_47 (by decide) (fun c_47 => ?_) (fun c_47 => ?_)
                  · exact absurd c_47 (nI_pos (by omega))
                  · refine pk_aload_n dX7_isBeside_50 rfl ?_
                    refine pk_iload dX7_isBeside_51 rfl ?_
                    refine pk_iload_n dX7_isBeside_53 rfl ?_
                    refine pk_Vi dX7_isBeside_54 ml_X7_111 yw_X7_isOf yv_X7_isOf (hW.s rfl) (e_X7_isOf ⟨hW, hA, hok⟩ har (by omega) (by omega)) rfl rfl rfl rfl rfl rfl rfl ?_
                    first | refine pk_eqb (tgt := 64) dX7_isBeside_57 (by decide) (fun c_57 => ?_) (fun c_57 => ?_) | refine pk_eq0N (tgt := 64) dX7_isBeside_57 (by decide) (by omega) (fun c_57 => ?_) (fun c_57 => ?_) | refine pk_if_eq (tgt := 64) dX7_isBeside_57 (by decide) (fun c_57 => ?_) (fun c_57 => ?_)
                    · refine pk_iconst (v := nI 0) dX7_isBeside_64 (by decide) ?_
                      refine pk_istore_n dX7_isBeside_65 rfl rfl ?_
                      first | refine pk_inc1 dX7_isBeside_66 rfl rfl ?_ | refine pk_iinc dX7_isBeside_66 rfl rfl rfl ?_
                      refine pk_goto (tgt := 15) dX7_isBeside_69 (by decide) ?_
                      have e1 : (sp_any (sp_bes A a o) j || sp_any (sp_bs A o j) (k + 1)) = false := by
                        rw [sp_any_succ, ← Bool.or_assoc, c_42, Bool.false_or]
                        unfold sp_bs
                        rw [hnb]
                        unfold sp_iof at c_57
                        rw [hz, Bool.true_and] at c_57
                        exact c_57
                      rw [e1] at K
                      exact pk_fgt (by repeat first | exact trivial | refine ⟨rfl, ?_⟩) K
                    · refine pk_iconst (v := nI 1) dX7_isBeside_60 (by decide) ?_
                      refine pk_goto (tgt := 65) dX7_isBeside_61 (by decide) ?_
                      refine pk_istore_n dX7_isBeside_65 rfl rfl ?_
                      first | refine pk_inc1 dX7_isBeside_66 rfl rfl ?_ | refine pk_iinc dX7_isBeside_66 rfl rfl rfl ?_
                      refine pk_goto (tgt := 15) dX7_isBeside_69 (by decide) ?_
                      have e1 : (sp_any (sp_bes A a o) j || sp_any (sp_bs A o j) (k + 1)) = true := by
                        rw [sp_any_succ, ← Bool.or_assoc, c_42, Bool.false_or]
                        unfold sp_bs
                        rw [hnb]
                        unfold sp_iof at c_57
                        rw [hz, Bool.true_and] at c_57
                        exact c_57
                      rw [e1] at K
                      exact pk_fgt (by repeat first | exact trivial | refine ⟨rfl, ?_⟩) K
        · refine pk_iload dX7_isBeside_15 rfl ?_
          refine pk_iconst (v := nI 4) dX7_isBeside_17 (by decide) ?_
          first | refine pk_geN (tgt := 72) dX7_isBeside_18 (by decide) (by omega) (by omega) (fun c_18 => ?_) (fun c_18 => ?_) | refine pk_icmp_ge (tgt := 72) dX7_isBeside_18 (by decide) (fun c_18 => ?_) (fun c_18 => ?_)
          · first | refine pk_inc1 dX7_isBeside_72 rfl rfl ?_ | refine pk_iinc dX7_isBeside_72 rfl rfl rfl ?_
            refine pk_goto (tgt := 5) dX7_isBeside_75 (by decide) ?_
            exact pk_fgt (by repeat first | exact trivial | refine ⟨rfl, ?_⟩) K1
          · omega
  · refine pk_iload dX7_isBeside_5 rfl ?_
    refine pk_bipush (v := nI 48) dX7_isBeside_7 (by decide) ?_
    first | refine pk_geN (tgt := 78) dX7_isBeside_9 (by decide) (by omega) (by omega) (fun c_9 => ?_) (fun c_9 => ?_) | refine pk_icmp_ge (tgt := 78) dX7_isBeside_9 (by decide) (fun c_9 => ?_) (fun c_9 => ?_)
    · refine pk_iload_n dX7_isBeside_78 rfl ?_
      refine pk_reti dX7_isBeside_79 (by first | rfl | exact pk_nbi _) ?_
      exact ⟨rfl, rfl⟩
    · omega

set_option maxRecDepth 100000 in
set_option maxHeartbeats 4000000 in
theorem e_X7_neighbours {Γ : pk_T} {M : pk_M} {L : Nat} {A : pk_St} (hN : pm_now L M A) (har : pm_ar A M) {a : Nat} (ha : a < sp_many A) : pk_E Γ yX7_neighbours cX7_neighbours 5 (some .int) 5 0 0 M [.ref 103, .int (nI a), .int (nI (sp_many A))] (fun r M' => r = some (.int (nI (sp_nbrs A a))) ∧ M' = M) := by
  obtain ⟨hW, hA, hok⟩ := hN
  have hw := hok.1
  have hh := hok.2.1
  have hs := hok.2.2.2.2.2.2.2.1
  have hmn := sp_many_le A
  refine pk_meth (own := RX7) (ini := false) [some (.ref 103), some (.int (nI a)), some (.int (nI (sp_many A))), none, none] (by decide +kernel) rfl (by decide +kernel) rfl rfl ?_
  rw [← sp_nbrs_eq hok ha]
  refine pk_iconst (v := nI 0) dX7_neighbours_0 (by decide) ?_
  refine pk_istore_n dX7_neighbours_1 rfl rfl ?_
  refine pk_iconst (v := nI 0) dX7_neighbours_2 (by decide) ?_
  refine pk_istore dX7_neighbours_3 rfl rfl ?_
  refine pk_for (sp_many A) (fun _ => M) (fun j => [some (.ref 103), some (.int (nI a)), some (.int (nI (sp_many A))), some (.int (nI (sp_c (fun o => !(o == a) && sp_any (sp_bes A a o) 48) j))), some (.int (nI j))]) ?_ ?_ 0 (by omega)
  · intro j hj K
    have e1 := sp_c_succ (fun o => !(o == a) && sp_any (sp_bes A a o) 48) j
    refine pk_iload dX7_neighbours_5 rfl ?_
    refine pk_iload_n dX7_neighbours_7 rfl ?_
    first | refine pk_geN (tgt := 41) dX7_neighbours_8 (by decide) (by omega) (by omega) (fun c_8 => ?_) (fun c_8 => ?_) | refine pk_icmp_ge (tgt := 41) dX7_neighbours_8 (by decide) (fun c_8 => ?_) (fun c_8 => ?_)
    · omega
    · refine pk_iload_n dX7_neighbours_11 rfl ?_
      refine pk_iload dX7_neighbours_12 rfl ?_
      refine pk_iload_n dX7_neighbours_14 rfl ?_
      first | refine pk_eqN (tgt := 32) dX7_neighbours_15 (by decide) (by omega) (by omega) (fun c_15 => ?_) (fun c_15 => ?_) | refine pk_icmp_eq (tgt := 32) dX7_neighbours_15 (by decide) (fun c_15 => ?_) (fun c_15 => ?_)
      · refine pk_iconst (v := nI 0) dX7_neighbours_32 (by decide) ?_
        rw [beq_iff_eq.mpr c_15, Bool.not_true, Bool.false_and, if_neg (by decide)] at e1
        rw [e1] at K
        first | refine pk_addN dX7_neighbours_33 ?_ | refine pk_iadd dX7_neighbours_33 ?_
        refine pk_istore_n dX7_neighbours_34 rfl rfl ?_
        first | refine pk_inc1 dX7_neighbours_35 rfl rfl ?_ | refine pk_iinc dX7_neighbours_35 rfl rfl rfl ?_
        refine pk_goto (tgt := 5) dX7_neighbours_38 (by decide) ?_
        exact K
      · refine pk_aload_n dX7_neighbours_18 rfl ?_
        refine pk_iload_n dX7_neighbours_19 rfl ?_
        refine pk_iload dX7_neighbours_20 rfl ?_
        refine pk_Vi dX7_neighbours_22 ml_X7_114 yw_X7_isBeside yv_X7_isBeside (hW.s rfl) (e_X7_isBeside ⟨hW, hA, hok⟩ har (by omega) (by omega)) rfl rfl rfl rfl rfl rfl rfl ?_
        first | refine pk_eqb (tgt := 32) dX7_neighbours_25 (by decide) (fun c_25 => ?_) (fun c_25 => ?_) | refine pk_eq0N (tgt := 32) dX7_neighbours_25 (by decide) (by omega) (fun c_25 => ?_) (fun c_25 => ?_) | refine pk_if_eq (tgt := 32) dX7_neighbours_25 (by decide) (fun c_25 => ?_) (fun c_25 => ?_)
        · refine pk_iconst (v := nI 0) dX7_neighbours_32 (by decide) ?_
          rw [beq_eq_false_iff_ne.mpr c_15, Bool.not_false, Bool.true_and, c_25, if_neg (by decide)] at e1
          rw [e1] at K
          first | refine pk_addN dX7_neighbours_33 ?_ | refine pk_iadd dX7_neighbours_33 ?_
          refine pk_istore_n dX7_neighbours_34 rfl rfl ?_
          first | refine pk_inc1 dX7_neighbours_35 rfl rfl ?_ | refine pk_iinc dX7_neighbours_35 rfl rfl rfl ?_
          refine pk_goto (tgt := 5) dX7_neighbours_38 (by decide) ?_
          exact K
        · refine pk_iconst (v := nI 1) dX7_neighbours_28 (by decide) ?_
          refine pk_goto (tgt := 33) dX7_neighbours_29 (by decide) ?_
          rw [beq_eq_false_iff_ne.mpr c_15, Bool.not_false, Bool.true_and, c_25, if_pos rfl] at e1
          rw [e1] at K
          first | refine pk_addN dX7_neighbours_33 ?_ | refine pk_iadd dX7_neighbours_33 ?_
          refine pk_istore_n dX7_neighbours_34 rfl rfl ?_
          first | refine pk_inc1 dX7_neighbours_35 rfl rfl ?_ | refine pk_iinc dX7_neighbours_35 rfl rfl rfl ?_
          refine pk_goto (tgt := 5) dX7_neighbours_38 (by decide) ?_
          exact K
  · refine pk_iload dX7_neighbours_5 rfl ?_
    refine pk_iload_n dX7_neighbours_7 rfl ?_
    first | refine pk_geN (tgt := 41) dX7_neighbours_8 (by decide) (by omega) (by omega) (fun c_8 => ?_) (fun c_8 => ?_) | refine pk_icmp_ge (tgt := 41) dX7_neighbours_8 (by decide) (fun c_8 => ?_) (fun c_8 => ?_)
    · refine pk_iload_n dX7_neighbours_41 rfl ?_
      refine pk_reti dX7_neighbours_42 (by first | rfl | exact pk_nbi _) ?_
      exact ⟨rfl, rfl⟩
    · omega

set_option maxRecDepth 100000 in
set_option maxHeartbeats 4000000 in
theorem e_X7_greater {Γ : pk_T} {M : pk_M} {L : Nat} {A : pk_St} (hN : pm_now L M A) (har : pm_ar A M) {a : Nat} (ha : a < sp_many A) : pk_E Γ yX7_greater cX7_greater 7 (some .int) 5 0 0 M [.ref 103, .int (nI a), .int (nI (sp_many A))] (fun r M' => r = some (.int (nI (sp_gre A a))) ∧ M' = M) := by
  obtain ⟨hW, hA, hok⟩ := hN
  have hw := hok.1
  have hh := hok.2.1
  have hs := hok.2.2.2.2.2.2.2.1
  have hmn := sp_many_le A
  refine pk_meth (own := RX7) (ini := false) [some (.ref 103), some (.int (nI a)), some (.int (nI (sp_many A))), none, none, none, none] (by decide +kernel) rfl (by decide +kernel) rfl rfl ?_
  have hz1 := sp_sz_le A (sp_ro A a)
  refine pk_aload_n dX7_greater_0 rfl ?_
  refine pk_iload_n dX7_greater_1 rfl ?_
  refine pk_Vi dX7_greater_2 ml_X7_117 yw_X7_placesOfArea yv_X7_placesOfArea (hW.s rfl) (e_X7_placesOfArea ⟨hW, hA, hok⟩ har (by omega)) rfl rfl rfl rfl rfl rfl rfl ?_
  refine pk_istore_n dX7_greater_5 rfl rfl ?_
  refine pk_iconst (v := nI 0) dX7_greater_6 (by decide) ?_
  refine pk_istore dX7_greater_7 rfl rfl ?_
  refine pk_iconst (v := nI 0) dX7_greater_9 (by decide) ?_
  refine pk_istore dX7_greater_10 rfl rfl ?_
  refine pk_for (sp_many A) (fun _ => M) (fun j => [some (.ref 103), some (.int (nI a)), some (.int (nI (sp_many A))), some (.int (nI (sp_sz A (sp_ro A a)))), some (.int (nI (sp_c (fun o => decide (sp_sz A (sp_ro A a) < sp_sz A (sp_ro A o)) || (sp_sz A (sp_ro A o) == sp_sz A (sp_ro A a) && decide (o < a))) j))), some (.int (nI j)), none]) ?_ ?_ 0 (by omega)
  · intro j hj K
    have e1 := sp_c_succ (fun o => decide (sp_sz A (sp_ro A a) < sp_sz A (sp_ro A o)) || (sp_sz A (sp_ro A o) == sp_sz A (sp_ro A a) && decide (o < a))) j
    have hz2 := sp_sz_le A (sp_ro A j)
    refine pk_iload dX7_greater_12 rfl ?_
    refine pk_iload_n dX7_greater_14 rfl ?_
    first | refine pk_geN (tgt := 60) dX7_greater_15 (by decide) (by omega) (by omega) (fun c_15 => ?_) (fun c_15 => ?_) | refine pk_icmp_ge (tgt := 60) dX7_greater_15 (by decide) (fun c_15 => ?_) (fun c_15 => ?_)
    · omega
    · refine pk_aload_n dX7_greater_18 rfl ?_
      refine pk_iload dX7_greater_19 rfl ?_
      refine pk_Vi dX7_greater_21 ml_X7_117 yw_X7_placesOfArea yv_X7_placesOfArea (hW.s rfl) (e_X7_placesOfArea ⟨hW, hA, hok⟩ har (by omega)) rfl rfl rfl rfl rfl rfl rfl ?_
      refine pk_istore dX7_greater_24 rfl rfl ?_
      refine pk_iload dX7_greater_26 rfl ?_
      refine pk_iload dX7_greater_28 rfl ?_
      refine pk_iload_n dX7_greater_30 rfl ?_
      first | refine pk_gtN (tgt := 46) dX7_greater_31 (by decide) (by omega) (by omega) (fun c_31 => ?_) (fun c_31 => ?_) | refine pk_icmp_gt (tgt := 46) dX7_greater_31 (by decide) (fun c_31 => ?_) (fun c_31 => ?_)
      · refine pk_iconst (v := nI 1) dX7_greater_46 (by decide) ?_
        refine pk_goto (tgt := 51) dX7_greater_47 (by decide) ?_
        rw [decide_eq_true c_31, Bool.true_or, if_pos rfl] at e1
        rw [e1] at K
        first | refine pk_addN dX7_greater_51 ?_ | refine pk_iadd dX7_greater_51 ?_
        refine pk_istore dX7_greater_52 rfl rfl ?_
        first | refine pk_inc1 dX7_greater_54 rfl rfl ?_ | refine pk_iinc dX7_greater_54 rfl rfl rfl ?_
        refine pk_goto (tgt := 12) dX7_greater_57 (by decide) ?_
        exact pk_fgt (by repeat first | exact trivial | refine ⟨rfl, ?_⟩) K
      · refine pk_iload dX7_greater_34 rfl ?_
        refine pk_iload_n dX7_greater_36 rfl ?_
        first | refine pk_neN (tgt := 50) dX7_greater_37 (by decide) (by omega) (by omega) (fun c_37 => ?_) (fun c_37 => ?_) | refine pk_icmp_ne (tgt := 50) dX7_greater_37 (by decide) (fun c_37 => ?_) (fun c_37 => ?_)
        · refine pk_iconst (v := nI 0) dX7_greater_50 (by decide) ?_
          rw [decide_eq_false (Nat.not_lt.mpr c_31), beq_eq_false_iff_ne.mpr c_37, Bool.false_and, Bool.or_self, if_neg (by decide)] at e1
          rw [e1] at K
          first | refine pk_addN dX7_greater_51 ?_ | refine pk_iadd dX7_greater_51 ?_
          refine pk_istore dX7_greater_52 rfl rfl ?_
          first | refine pk_inc1 dX7_greater_54 rfl rfl ?_ | refine pk_iinc dX7_greater_54 rfl rfl rfl ?_
          refine pk_goto (tgt := 12) dX7_greater_57 (by decide) ?_
          exact pk_fgt (by repeat first | exact trivial | refine ⟨rfl, ?_⟩) K
        · refine pk_iload dX7_greater_40 rfl ?_
          refine pk_iload_n dX7_greater_42 rfl ?_
          first | refine pk_geN (tgt := 50) dX7_greater_43 (by decide) (by omega) (by omega) (fun c_43 => ?_) (fun c_43 => ?_) | refine pk_icmp_ge (tgt := 50) dX7_greater_43 (by decide) (fun c_43 => ?_) (fun c_43 => ?_)
          · refine pk_iconst (v := nI 0) dX7_greater_50 (by decide) ?_
            rw [decide_eq_false (Nat.not_lt.mpr c_31), decide_eq_false (Nat.not_lt.mpr c_43), Bool.and_false, Bool.or_self, if_neg (by decide)] at e1
            rw [e1] at K
            first | refine pk_addN dX7_greater_51 ?_ | refine pk_iadd dX7_greater_51 ?_
            refine pk_istore dX7_greater_52 rfl rfl ?_
            first | refine pk_inc1 dX7_greater_54 rfl rfl ?_ | refine pk_iinc dX7_greater_54 rfl rfl rfl ?_
            refine pk_goto (tgt := 12) dX7_greater_57 (by decide) ?_
            exact pk_fgt (by repeat first | exact trivial | refine ⟨rfl, ?_⟩) K
          · refine pk_iconst (v := nI 1) dX7_greater_46 (by decide) ?_
            refine pk_goto (tgt := 51) dX7_greater_47 (by decide) ?_
            rw [decide_eq_true c_43, beq_iff_eq.mpr c_37, Bool.and_self, Bool.or_true, if_pos rfl] at e1
            rw [e1] at K
            first | refine pk_addN dX7_greater_51 ?_ | refine pk_iadd dX7_greater_51 ?_
            refine pk_istore dX7_greater_52 rfl rfl ?_
            first | refine pk_inc1 dX7_greater_54 rfl rfl ?_ | refine pk_iinc dX7_greater_54 rfl rfl rfl ?_
            refine pk_goto (tgt := 12) dX7_greater_57 (by decide) ?_
            exact pk_fgt (by repeat first | exact trivial | refine ⟨rfl, ?_⟩) K
  · refine pk_iload dX7_greater_12 rfl ?_
    refine pk_iload_n dX7_greater_14 rfl ?_
    first | refine pk_geN (tgt := 60) dX7_greater_15 (by decide) (by omega) (by omega) (fun c_15 => ?_) (fun c_15 => ?_) | refine pk_icmp_ge (tgt := 60) dX7_greater_15 (by decide) (fun c_15 => ?_) (fun c_15 => ?_)
    · refine pk_iload dX7_greater_60 rfl ?_
      refine pk_reti dX7_greater_62 (by first | rfl | exact pk_nbi _) ?_
      exact ⟨rfl, rfl⟩
    · omega
