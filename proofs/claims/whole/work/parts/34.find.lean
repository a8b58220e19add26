/-! Areas: all of them found. -/
/-- the areas, found as far as the place t -/
def pk_ar (A : pk_St) (M0 M1 : pk_M) (t : Nat) : Prop :=
  pk_fr (fun q => 82 ≤ q ∧ q ≤ 87) M0 M1 ∧ pk_I M1 82 6 = nI (sp_c (sp_root A) t) ∧ (∀ q, sp_in A q = true → pk_I M1 83 q = if sp_lab A q < t then nI (sp_num2 A q) else -1) ∧ ∀ r, r < t → sp_root A r = true → pk_I M1 84 (sp_c (sp_root A) r) = nI r ∧ pk_I M1 85 (sp_c (sp_root A) r) = nI (sp_sz A r)
theorem pk_ar.up {A : pk_St} (hA : pk_okS A) {M0 M1 : pk_M} {a b : Nat} (hab : a ≤ b) (h : ∀ q, a ≤ q → q < b → sp_root A q = false) (k : pk_ar A M0 M1 a) : pk_ar A M0 M1 b := by
  obtain ⟨h1, h2, h3, h4⟩ := k
  refine ⟨h1, ?_, fun q hq => ?_, fun r hr h5 => ?_⟩
  · rw [sp_c_skip hab h]
    exact h2
  · rw [h3 q hq]
    by_cases e : sp_lab A q < a
    · rw [if_pos e, if_pos (by omega)]
    · rw [if_neg e, if_neg]
      intro e2
      have := h (sp_lab A q) (by omega) e2
      rw [sp_root_lab hA hq] at this
      cases this
  · refine h4 r ?_ h5
    rcases Nat.lt_or_ge r a with z | z
    · exact z
    · rw [h r z hr] at h5
      cases h5
theorem sp_root_out {A : pk_St} {q : Nat} (h : sp_in A q = false) : sp_root A q = false := by rw [sp_root, h]; rfl
theorem sp_in_no {A : pk_St} {q : Nat} (h : sp_w A ≤ q % 8 ∨ sp_h A ≤ q / 8) : sp_in A q = false := by
  simp only [sp_in, Bool.and_eq_false_iff, decide_eq_false_iff_not]
  omega
theorem pk_ar.line {A : pk_St} (hA : pk_okS A) {M0 M1 : pk_M} {j : Nat} (k : pk_ar A M0 M1 (8 * j + sp_w A)) : pk_ar A M0 M1 (8 * (j + 1)) := by
  have hw := hA.1
  exact k.up hA (by omega) (fun q h1 h2 => sp_root_out (sp_in_no (Or.inl (by omega))))
theorem pk_ar.end {A : pk_St} (hA : pk_okS A) {M0 M1 : pk_M} (k : pk_ar A M0 M1 (8 * sp_h A)) : pk_ar A M0 M1 48 := by
  have hh := hA.2.1
  exact k.up hA (by omega) (fun q h1 h2 => sp_root_out (sp_in_no (Or.inr (by omega))))
/-- the areas stand in the object -/
def pk_ara (A : pk_St) (M : pk_M) : Prop := pk_I M 82 6 = nI (sp_many A) ∧ (∀ q, sp_in A q = true → pk_I M 83 q = nI (sp_num2 A q)) ∧ ∀ r, sp_root A r = true → pk_I M 84 (sp_c (sp_root A) r) = nI r ∧ pk_I M 85 (sp_c (sp_root A) r) = nI (sp_sz A r)
theorem pk_ar.ara {A : pk_St} (hA : pk_okS A) {M0 M1 : pk_M} (k : pk_ar A M0 M1 48) : pk_ara A M1 := by
  obtain ⟨h1, h2, h3, h4⟩ := k
  refine ⟨h2, fun q hq => ?_, fun r hr => ?_⟩
  · rw [h3 q hq, if_pos (sp_lab_in hA hq).2.2.1]
  · refine h4 r ?_ hr
    have : sp_in A r = true := by
      rw [sp_root, Bool.and_eq_true] at hr
      exact hr.1
    exact (sp_in_lt hA this).2.2

set_option maxRecDepth 100000 in
set_option maxHeartbeats 4000000 in
theorem e_X0_find {Γ : pk_T} {M : pk_M} {L : Nat} {A : pk_St} (hW : pk_WF L M) (hA : pk_At M 6 A) (hok : pk_okS A) (hro : pk_ro M) : pk_E Γ yX0_find cX0_find 4 none 4 0 0 M [.ref 82, .ref 6] (fun r M' => r = none ∧ pk_fr (fun q => 82 ≤ q ∧ q ≤ 87) M M' ∧ pk_ara A M') := by
  refine pk_meth (own := RX0) (ini := false) [some (.ref 82), some (.ref 6), none, none] (by decide +kernel) rfl (by decide +kernel) rfl rfl ?_
  have hw := hok.1
  have hh := hok.2.1
  refine pk_aload_n dX0_find_0 rfl ?_
  refine pk_iconst (v := nI 0) dX0_find_1 (by decide) ?_
  refine pk_putI dX0_find_2 fl_X0_32 rfl rfl rfl rfl (hW.s rfl) ?_
  refine pk_iconst (v := nI 0) dX0_find_5 (by decide) ?_
  refine pk_istore_n dX0_find_6 rfl rfl ?_
  refine pk_Mq (M' := (pk_wI (pk_sI M 82 6 (nI 0)) 83 (fun q => if q < 0 then -1 else pk_I M 83 q))) ?_ ?_
  · refine Eq.trans (pk_wI_id (pk_sI M 82 6 (nI 0)) 83).symm ?_
    congr 1
  refine pk_for 48 (fun k => (pk_wI (pk_sI M 82 6 (nI 0)) 83 (fun q => if q < k then -1 else pk_I M 83 q))) (fun k => [some (.ref 82), some (.ref 6), some (.int (nI k)), none]) ?_ ?_ 0 (by omega)
  · intro k hk K
    refine pk_iload_n dX0_find_7 rfl ?_
    refine pk_bipush (v := nI 48) dX0_find_8 (by decide) ?_
    first | refine pk_geN (tgt := 26) dX0_find_10 (by decide) (by omega) (by omega) (fun c_10 => ?_) (fun c_10 => ?_) | refine pk_icmp_ge (tgt := 26) dX0_find_10 (by decide) (fun c_10 => ?_) (fun c_10 => ?_)
    · omega
    · refine pk_aload_n dX0_find_13 rfl ?_
      refine pk_getP dX0_find_14 fl_X0_9 rfl (hW.s rfl) (hW.p rfl) ?_
      refine pk_iload_n dX0_find_17 rfl ?_
      refine pk_iconst (v := -1) dX0_find_18 (by decide) ?_
      refine pk_astN dX0_find_19 (hW.s rfl) (by omega) (by omega) (by omega) ?_
      rw [pk_wI_sI]
      first | refine pk_inc1 dX0_find_20 rfl rfl ?_ | refine pk_iinc dX0_find_20 rfl rfl rfl ?_
      refine pk_goto (tgt := 7) dX0_find_23 (by decide) ?_
      refine pk_Mq ?_ K
      congr 1
      funext q
      by_cases e : q = k
      · rw [if_pos e, if_pos (by omega)]
      · rw [if_neg e]
        by_cases e2 : q < k
        · rw [if_pos e2, if_pos (by omega)]
        · rw [if_neg e2, if_neg (by omega)]
  · refine pk_iload_n dX0_find_7 rfl ?_
    refine pk_bipush (v := nI 48) dX0_find_8 (by decide) ?_
    first | refine pk_geN (tgt := 26) dX0_find_10 (by decide) (by omega) (by omega) (fun c_10 => ?_) (fun c_10 => ?_) | refine pk_icmp_ge (tgt := 26) dX0_find_10 (by decide) (fun c_10 => ?_) (fun c_10 => ?_)
    · refine pk_iconst (v := nI 0) dX0_find_26 (by decide) ?_
      refine pk_istore_n dX0_find_27 rfl rfl ?_
      refine pk_wf (fun z => 6 - z.2) (fun z : pk_M × Nat => pk_ar A M z.1 (8 * z.2) ∧ z.2 ≤ sp_h A) (fun z => z.1) (fun z => [some (.ref 82), some (.ref 6), some (.int (nI z.2)), none]) ?_ ((pk_wI (pk_sI M 82 6 (nI 0)) 83 (fun q => if q < 48 then -1 else pk_I M 83 q)), 0) ⟨⟨?_, ?_, fun q hq => ?_, fun r hr => absurd hr (Nat.not_lt_zero r)⟩, Nat.zero_le _⟩
      · rintro ⟨M1, j⟩ ⟨hb, hj2⟩ K
        dsimp only at hb hj2 K ⊢
        have hW1 := hb.1.wf hW
        have hA1 := hb.1.at (p := 6) (fun q h1 h2 h3 => by omega) hA
        have hro1 := hb.1.ro (fun q h1 h2 => by omega) hro
        refine pk_iload_n dX0_find_28 rfl ?_
        refine pk_aload_n dX0_find_29 rfl ?_
        refine pk_getN dX0_find_30 fl_X0_35 rfl (hW1.s rfl) hA1.2.1 ?_
        first | refine pk_geN (tgt := 74) dX0_find_33 (by decide) (by omega) (by omega) (fun c_33 => ?_) (fun c_33 => ?_) | refine pk_icmp_ge (tgt := 74) dX0_find_33 (by decide) (fun c_33 => ?_) (fun c_33 => ?_)
        · refine pk_retv dX0_find_74 ?_
          have hjj : j = sp_h A := by omega
          subst hjj
          exact ⟨rfl, hb.1, (hb.end hok).ara hok⟩
        · refine pk_iconst (v := nI 0) dX0_find_36 (by decide) ?_
          refine pk_istore_n dX0_find_37 rfl rfl ?_
          refine pk_wf (fun z => 8 - z.2) (fun z : pk_M × Nat => pk_ar A M z.1 (8 * j + z.2) ∧ z.2 ≤ sp_w A) (fun z => z.1) (fun z => [some (.ref 82), some (.ref 6), some (.int (nI j)), some (.int (nI z.2))]) ?_ (M1, 0) ⟨hb, Nat.zero_le _⟩
          rintro ⟨M2, i⟩ ⟨hb2, hi2⟩ K2
          dsimp only at hb2 hi2 K2 ⊢
          have hW2 := hb2.1.wf hW
          have hA2 := hb2.1.at (p := 6) (fun q h1 h2 h3 => by omega) hA
          have hro2 := hb2.1.ro (fun q h1 h2 => by omega) hro
          refine pk_iload_n dX0_find_38 rfl ?_
          refine pk_aload_n dX0_find_39 rfl ?_
          refine pk_getN dX0_find_40 fl_X0_40 rfl (hW2.s rfl) hA2.1 ?_
          first | refine pk_geN (tgt := 68) dX0_find_43 (by decide) (by omega) (by omega) (fun c_43 => ?_) (fun c_43 => ?_) | refine pk_icmp_ge (tgt := 68) dX0_find_43 (by decide) (fun c_43 => ?_) (fun c_43 => ?_)
          · first | refine pk_inc1 dX0_find_68 rfl rfl ?_ | refine pk_iinc dX0_find_68 rfl rfl rfl ?_
            refine pk_goto (tgt := 28) dX0_find_71 (by decide) ?_
            have hiw : i = sp_w A := by omega
            subst hiw
            have hb3 := hb2.line hok
            exact pk_fgt (by repeat first | exact trivial | refine ⟨rfl, ?_⟩) (K (M2, j + 1) ⟨hb3, by dsimp only; omega⟩ (by dsimp only; omega))
          · have c_43x : i < sp_w A := by omega
            have c_33x : j < sp_h A := by omega
            have hin : sp_in A (j * 8 + i) = true := sp_in_of (by omega) (by omega)
            have hval := hb2.2.2.1 _ hin
            have e8 : j * 8 + i = 8 * j + i := by omega
            refine pk_aload_n dX0_find_46 rfl ?_
            refine pk_iload_n dX0_find_47 rfl ?_
            refine pk_iload_n dX0_find_48 rfl ?_
            refine pk_Vi dX0_find_49 ml_X0_43 yw_X0_at yv_X0_at (hW2.s rfl) (e_X0_at hW2 (by omega)) rfl rfl rfl rfl rfl rfl rfl ?_
            refine pk_if_ge (tgt := 62) dX0_find_52 (by decide) (fun c_52 => ?_) (fun c_52 => ?_)
            · first | refine pk_inc1 dX0_find_62 rfl rfl ?_ | refine pk_iinc dX0_find_62 rfl rfl rfl ?_
              refine pk_goto (tgt := 38) dX0_find_65 (by decide) ?_
              first
                | (refine K2 (M3, i + 1) ⟨⟨hb2.1.tr g1, ?_, fun q hq => ?_, fun r hr hr2 => ?_⟩, by dsimp only; omega⟩ (by dsimp only; omega)
                   · have hrt : sp_root A (8 * j + i) = true := by
                       rw [← e8, sp_root, hin, hlt]
                       simp
                     dsimp only
                     rw [show 8 * j + (i + 1) = 8 * j + i + 1 by omega, sp_c_succ, hrt, if_pos rfl]
                     exact g2
                   · dsimp only
                     rw [g5 q hq]
                     by_cases e : sp_lab A q = j * 8 + i
                     · rw [if_pos e, if_pos (by omega), sp_num2, e, e8]
                     · rw [if_neg e, hb2.2.2.1 q hq]
                       by_cases e2 : sp_lab A q < 8 * j + i
                       · rw [if_pos e2, if_pos (by omega)]
                       · rw [if_neg e2, if_neg (by omega)]
                   · dsimp only at hr
                     by_cases e : r = 8 * j + i
                     · subst e
                       rw [g3 _ hcl, g4 _ hcl, if_pos rfl, if_pos rfl, e8]
                       exact ⟨rfl, rfl⟩
                     · have hr3 : r < 8 * j + i := by omega
                       have h5 := sp_c_lt hr3 hr2
                       rw [g3 _ (by omega), g4 _ (by omega), if_neg (by omega), if_neg (by omega)]
                       exact hb2.2.2.2 r hr3 hr2)
                | (refine K2 (M2, i + 1) ⟨?_, by dsimp only; omega⟩ (by dsimp only; omega)
                   dsimp only
                   refine hb2.up hok (by omega) (fun q h1 h2 => ?_)
                   have hq : q = j * 8 + i := by omega
                   subst hq
                   cases h3 : sp_root A (j * 8 + i)
                   · rfl
                   · exfalso
                     rw [sp_root, hin, Bool.true_and] at h3
                     have h4 := eq_of_beq h3
                     rw [if_neg (by omega)] at hval
                     rw [hval] at c_52
                     exact absurd c_52 (by decide))
            · have hlt : sp_lab A (j * 8 + i) = j * 8 + i := by
                have h1 := sp_lab_self (A := A) (q := j * 8 + i) (by omega)
                rcases Nat.lt_or_ge (sp_lab A (j * 8 + i)) (8 * j + i) with z | z
                · rw [if_pos z] at hval
                  exfalso
                  apply c_52
                  rw [hval]
                  have := sp_c_le (sp_root A) (sp_lab A (j * 8 + i))
                  exact nI_pos' (by unfold sp_num2; omega)
                · omega
              have hcl : sp_c (sp_root A) (8 * j + i) < 48 := by
                have := sp_c_le (sp_root A) (8 * j + i)
                omega
              have hun : ∀ q, sp_in A q = true → sp_lab A q = j * 8 + i → pk_I M2 83 q = -1 := by
                intro q hq hq2
                rw [hb2.2.2.1 q hq, if_neg (by omega)]
              refine pk_aload_n dX0_find_55 rfl ?_
              refine pk_iload_n dX0_find_56 rfl ?_
              refine pk_iload_n dX0_find_57 rfl ?_
              refine pk_aload_n dX0_find_58 rfl ?_
              refine pk_Vvr dX0_find_59 ml_X0_47 yw_X0_spreadFrom yv_X0_spreadFrom (hW2.s rfl) (e_X0_spreadFrom hW2 hA2 hok hro2 c_43x c_33x hb2.2.1 hcl hlt hun) rfl rfl rfl rfl rfl rfl rfl (fun M3 hM3 => ?_)
              obtain ⟨g1, g2, g3, g4, g5⟩ := hM3
              first | refine pk_inc1 dX0_find_62 rfl rfl ?_ | refine pk_iinc dX0_find_62 rfl rfl rfl ?_
              refine pk_goto (tgt := 38) dX0_find_65 (by decide) ?_
              first
                | (refine K2 (M3, i + 1) ⟨⟨hb2.1.tr g1, ?_, fun q hq => ?_, fun r hr hr2 => ?_⟩, by dsimp only; omega⟩ (by dsimp only; omega)
                   · have hrt : sp_root A (8 * j + i) = true := by
                       rw [← e8, sp_root, hin, hlt]
                       simp
                     dsimp only
                     rw [show 8 * j + (i + 1) = 8 * j + i + 1 by omega, sp_c_succ, hrt, if_pos rfl]
                     exact g2
                   · dsimp only
                     rw [g5 q hq]
                     by_cases e : sp_lab A q = j * 8 + i
                     · rw [if_pos e, if_pos (by omega), sp_num2, e, e8]
                     · rw [if_neg e, hb2.2.2.1 q hq]
                       by_cases e2 : sp_lab A q < 8 * j + i
                       · rw [if_pos e2, if_pos (by omega)]
                       · rw [if_neg e2, if_neg (by omega)]
                   · dsimp only at hr
                     by_cases e : r = 8 * j + i
                     · subst e
                       rw [g3 _ hcl, g4 _ hcl, if_pos rfl, if_pos rfl, e8]
                       exact ⟨rfl, rfl⟩
                     · have hr3 : r < 8 * j + i := by omega
                       have h5 := sp_c_lt hr3 hr2
                       rw [g3 _ (by omega), g4 _ (by omega), if_neg (by omega), if_neg (by omega)]
                       exact hb2.2.2.2 r hr3 hr2)
                | (refine K2 (M2, i + 1) ⟨?_, by dsimp only; omega⟩ (by dsimp only; omega)
                   dsimp only
                   refine hb2.up hok (by omega) (fun q h1 h2 => ?_)
                   have hq : q = j * 8 + i := by omega
                   subst hq
                   cases h3 : sp_root A (j * 8 + i)
                   · rfl
                   · exfalso
                     rw [sp_root, hin, Bool.true_and] at h3
                     have h4 := eq_of_beq h3
                     rw [if_neg (by omega)] at hval
                     rw [hval] at c_52
                     exact absurd c_52 (by decide))
      · exact (pk_fr.sI ⟨by omega, by omega⟩).tr (pk_fr.wI ⟨by omega, by omega⟩)
      · exact pk_gW0 (by omega) (pk_gS1 rfl rfl rfl)
      · refine pk_gW1 rfl ?_
        have := (sp_in_lt hok hq).2.2
        rw [if_pos this, if_neg (by omega)]
    · omega
