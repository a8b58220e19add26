/-! The model: sizes, drifting. -/
def sp_cl (w h : Nat) (f : Nat → Nat) (j q : Nat) : Nat := if q < j ∧ ¬ (q % 8 < w ∧ q / 8 < h) then 0 else f q
/-- while the places outside are cleared -/
def pm_cl (M1 N : pk_M) (A : pk_St) (w h j : Nat) : Prop := pk_fr (fun q => q = 104) M1 N ∧ pk_I N 104 0 = nI w ∧ pk_I N 104 1 = nI h ∧ (∀ z, 2 ≤ z → z < 14 → pk_I N 104 z = pk_I M1 104 z) ∧ ∀ q, q < 48 → pk_I N 104 (14 + q) = nI (sp_cl w h (sp_s A) j q)
theorem pm_cl.step {M1 N : pk_M} {A : pk_St} {w h j : Nat} (k : pm_cl M1 N A w h j) (hj : j < 48) (v : Nat) (hv : v = if j % 8 < w ∧ j / 8 < h then sp_s A j else 0) : pm_cl M1 (pk_sI N 104 (14 + j) (nI v)) A w h (j + 1) := by
  obtain ⟨h1, h2, h3, h4, h5⟩ := k
  refine ⟨h1.tr (pk_fr.sI rfl), pk_gS0 (by omega) h2, pk_gS0 (by omega) h3, fun z z1 z2 => pk_gS0 (by omega) (h4 z z1 z2), fun q hq => ?_⟩
  by_cases e : q = j
  · subst e
    refine pk_gS1 rfl rfl ?_
    rw [hv]
    unfold sp_cl
    by_cases c : q % 8 < w ∧ q / 8 < h
    · rw [if_pos c, if_neg (fun z => z.2 c)]
    · rw [if_neg c, if_pos ⟨by omega, c⟩]
  · refine pk_gS0 (by omega) ((h5 q hq).trans ?_)
    unfold sp_cl
    by_cases c : q < j ∧ ¬ (q % 8 < w ∧ q / 8 < h)
    · rw [if_pos c, if_pos ⟨by omega, c.2⟩]
    · rw [if_neg c, if_neg (fun z => c ⟨by omega, z.2⟩)]
theorem pm_cl.end {M1 N : pk_M} {A : pk_St} {w h : Nat} (k : pm_cl M1 N A w h 48) (hA : pm_At M1 104 0 A) : pm_At N 104 0 (s_wh A w h) := by
  obtain ⟨h1, h2, h3, h4, h5⟩ := k
  refine pm_At.mk0 h2 h3 ((h4 2 (by omega) (by omega)).trans hA.d) ((h4 3 (by omega) (by omega)).trans hA.o) (fun i hi => (h4 (4 + i) (by omega) (by omega)).trans (hA.k hi)) (fun i hi => (h4 (9 + i) (by omega) (by omega)).trans (hA.t hi)) (fun q hq => (h5 q hq).trans ?_)
  show nI (sp_cl w h (sp_s A) 48 q) = nI (if q % 8 < w ∧ q / 8 < h then sp_s A q else 0)
  unfold sp_cl
  by_cases c : q % 8 < w ∧ q / 8 < h
  · rw [if_pos c, if_neg (fun z => z.2 c)]
  · rw [if_neg c, if_pos ⟨hq, c⟩]
theorem pm_inw {q w h : Nat} (e : (decide (q % 8 < w) && decide (q / 8 < h)) = true) : q % 8 < w ∧ q / 8 < h := by
  rw [Bool.and_eq_true, decide_eq_true_eq, decide_eq_true_eq] at e
  exact e
theorem pm_ouw {q w h : Nat} (e : (decide (q % 8 < w) && decide (q / 8 < h)) = false) : ¬ (q % 8 < w ∧ q / 8 < h) := fun z => by
  rw [decide_eq_true z.1, decide_eq_true z.2] at e
  cases e

theorem op_size_0 (X : pk_X) (v : Int32) : op_size X (nI 0) v = if (decide (nI 1 ≤ v) && decide (v ≤ nI 8)) = false then (-1, X) else if nI (sp_w X.1) = v then (-2, X) else (nI (sp_w X.1), x_A (x_K X) (s_wh X.1 v.toNatClampNeg (sp_h X.1))) := by
  unfold op_size
  rw [if_pos (show nI 0 = 0 from rfl), if_pos (show nI 0 = 0 from rfl), sp_b_n (show 0 < 2 by decide) (by decide), Bool.true_and]
theorem op_size_1 (X : pk_X) (v : Int32) : op_size X (nI 1) v = if (decide (nI 1 ≤ v) && decide (v ≤ nI 6)) = false then (-1, X) else if nI (sp_h X.1) = v then (-2, X) else (nI (sp_h X.1), x_A (x_K X) (s_wh X.1 (sp_w X.1) v.toNatClampNeg)) := by
  unfold op_size
  rw [if_neg (show ¬ nI 1 = 0 by decide), if_neg (show ¬ nI 1 = 0 by decide), sp_b_n (show 1 < 2 by decide) (by decide), Bool.true_and]

set_option maxRecDepth 100000 in
set_option maxHeartbeats 4000000 in
theorem e_X7_size {Γ : pk_T} {M : pk_M} {L : Nat} {X : pk_X} (hR : pk_RM L M X) (hX : pk_okX X) (c v : Int32) : pk_E Γ yX7_size cX7_size 5 (some .int) 3 0 0 M [.ref 103, .int c, .int v] (fun r M' => r = some (.int (op_size X c v).1) ∧ pk_mf M M' ∧ pk_RM L M' (op_size X c v).2) := by
  have hR0 := hR
  obtain ⟨hW, hA, hU, hK, hTp, hSh⟩ := hR0
  have hok := hX.1
  have hw := hok.1
  have hh := hok.2.1
  have hs := hok.2.2.2.2.2.2.2.1
  have hn6 := hX.2.1.1
  refine pk_meth (own := RX7) (ini := false) [some (.ref 103), some (.int c), some (.int v), none, none] (by decide +kernel) rfl (by decide +kernel) rfl rfl ?_
  refine pk_iload_n dX7_size_0 rfl ?_
  refine pk_i2l dX7_size_1 ?_
  refine pk_lconst (v := 0) dX7_size_2 (by decide) ?_
  refine pk_lconst (v := 1) dX7_size_3 (by decide) ?_
  refine pk_Si dX7_size_4 ml_X7_59 yw_X7_in ys_X7_in (e_X7_inB _ (N := 1) (by omega) (by decide)) rfl rfl rfl rfl rfl rfl rfl ?_
  first | refine pk_eqb (tgt := 32) dX7_size_7 (by decide) (fun c_7 => ?_) (fun c_7 => ?_) | refine pk_eq0N (tgt := 32) dX7_size_7 (by decide) (by omega) (fun c_7 => ?_) (fun c_7 => ?_) | refine pk_if_eq (tgt := 32) dX7_size_7 (by decide) (fun c_7 => ?_) (fun c_7 => ?_)
  · refine pk_iconst (v := -1) dX7_size_32 (by decide) ?_
    refine pk_reti dX7_size_33 (by first | rfl | exact pk_nbi _) ?_
    have e : (sp_b c 2 && decide (nI 1 ≤ v) && decide (v ≤ if c = 0 then nI 8 else nI 6)) = false := by rw [c_7, Bool.false_and, Bool.false_and]
    unfold op_size
    rw [if_pos e]
    exact ⟨rfl, pk_ff.rf _ M, hR⟩
  · obtain ⟨c, hc, rfl⟩ := sp_b_of c_7 (by decide)
    obtain rfl | rfl : c = 0 ∨ c = 1 := by omega
    · refine pk_iload_n dX7_size_10 rfl ?_
      refine pk_i2l dX7_size_11 ?_
      refine pk_lconst (v := 1) dX7_size_12 (by decide) ?_
      refine pk_iload_n dX7_size_13 rfl ?_
      refine pk_ne0N (a := 0) (tgt := 23) dX7_size_14 (by decide) (by decide) (fun c_14 => ?_) (fun c_14 => ?_)
      · exact absurd rfl c_14
      · refine pk_ldc2 dX7_size_17 kc_X7_220 ?_
        refine pk_goto (tgt := 26) dX7_size_20 (by decide) ?_
        refine pk_Si dX7_size_26 ml_X7_59 yw_X7_in ys_X7_in (e_X7_inI _ (lo := nI 1) (hi := nI 8) (by decide) (by decide)) rfl rfl rfl rfl rfl rfl rfl ?_
        first | refine pk_neb (tgt := 34) dX7_size_29 (by decide) (fun c_29 => ?_) (fun c_29 => ?_) | refine pk_ne0N (tgt := 34) dX7_size_29 (by decide) (by omega) (fun c_29 => ?_) (fun c_29 => ?_) | refine pk_if_ne (tgt := 34) dX7_size_29 (by decide) (fun c_29 => ?_) (fun c_29 => ?_)
        · have c29 := c_29
          rw [Bool.and_eq_true, decide_eq_true_eq, decide_eq_true_eq] at c29
          obtain ⟨v, hv0, rfl, hv1⟩ := pm_1le c29.1
          have hv2 := (nI_leI hv0 (by decide)).mp c29.2
          rw [op_size_0, if_neg (by rw [c_29]; decide), nI_clamp hv0]
          refine pk_aload_n dX7_size_34 rfl ?_
          refine pk_getP dX7_size_35 fl_X7_7 rfl (hW.s rfl) (hW.p rfl) ?_
          refine pk_iload_n dX7_size_38 rfl ?_
          refine pk_aldN dX7_size_39 (hW.s rfl) (by omega) (by omega) hA.w ?_
          refine pk_istore_n dX7_size_40 rfl rfl ?_
          refine pk_iload_n dX7_size_41 rfl ?_
          refine pk_iload_n dX7_size_42 rfl ?_
          refine pk_icmp_ne (tgt := 49) dX7_size_43 (by decide) (fun c_43 => ?_) (fun c_43 => ?_)
          · refine pk_aload_n dX7_size_49 rfl ?_
            refine pk_Vvr dX7_size_50 ml_X7_214 yw_X7_notes yv_X7_notes (hW.s rfl) (e_X7_notes hW hA hU.1 hn6 hU.2) rfl rfl rfl rfl rfl rfl rfl (fun M1 h1 => ?_)
            obtain ⟨hmf, hRk⟩ := hR.kp h1
            replace hW := hRk.1
            have hA1 := hRk.2.1
            refine pk_aload_n dX7_size_53 rfl ?_
            refine pk_getP dX7_size_54 fl_X7_7 rfl (hW.s rfl) (hW.p rfl) ?_
            refine pk_iload_n dX7_size_57 rfl ?_
            refine pk_iload_n dX7_size_58 rfl ?_
            refine pk_astN dX7_size_59 (hW.s rfl) (by omega) (by omega) (by omega) ?_
            refine pk_iconst (v := nI 0) dX7_size_60 (by decide) ?_
            refine pk_istore dX7_size_61 rfl rfl ?_
            rw [if_neg c_43]
            have hcl0 : pm_cl M1 (pk_sI M1 104 0 (nI v)) X.1 (v) (sp_h X.1) 0 := ⟨pk_fr.sI rfl, (pk_gS1 rfl rfl rfl), (pk_gS0 (by omega) hA1.h), fun z z1 z2 => pk_gS0 (by omega) rfl, fun q hq => pk_gS0 (by omega) ((hA1.s hq).trans (by unfold sp_cl; rw [if_neg (by omega)]; rfl))⟩
            refine pk_wf (fun z => 48 - z.1) (fun z : Nat × pk_M => z.1 ≤ 48 ∧ pm_cl M1 z.2 X.1 (v) (sp_h X.1) z.1) (fun z => z.2) (fun z => [some (.ref 103), some (.int (nI 0)), some (.int (nI v)), some (.int (nI (sp_w X.1))), some (.int (nI z.1))]) ?_ (0, (pk_sI M1 104 0 (nI v))) ⟨Nat.zero_le _, hcl0⟩
            rintro ⟨j, N⟩ ⟨hj, hcl⟩ K
            dsimp only at hj hcl K ⊢
            have hWN := hcl.1.wf hW
            refine pk_iload dX7_size_63 rfl ?_
            refine pk_bipush (v := nI 48) dX7_size_65 (by decide) ?_
            first | refine pk_geN (tgt := 105) dX7_size_67 (by decide) (by omega) (by omega) (fun c_67 => ?_) (fun c_67 => ?_) | refine pk_icmp_ge (tgt := 105) dX7_size_67 (by decide) (fun c_67 => ?_) (fun c_67 => ?_)
            · refine pk_iload_n dX7_size_105 rfl ?_
              refine pk_reti dX7_size_106 (by first | rfl | exact pk_nbi _) ?_
              have e48 : j = 48 := by omega
              subst e48
              exact ⟨rfl, hmf.tr (hcl.1.ff.mono (fun q h => by omega)), hRk.st hcl.1.ff (hcl.end hA1)⟩
            · refine pk_aload_n dX7_size_70 rfl ?_
              refine pk_getP dX7_size_71 fl_X7_7 rfl (hWN.s rfl) (hWN.p rfl) ?_
              refine pk_bipush (v := nI 14) dX7_size_74 (by decide) ?_
              refine pk_iload dX7_size_76 rfl ?_
              first | refine pk_addN dX7_size_78 ?_ | refine pk_iadd dX7_size_78 ?_
              refine pk_aload_n dX7_size_79 rfl ?_
              refine pk_iload dX7_size_80 rfl ?_
              refine pk_Vi dX7_size_82 ml_X7_88 yw_X7_isIn yv_X7_isIn (hWN.s rfl) (e_X7_isIn2 hWN hcl.2.1 hcl.2.2.1 ⟨hv1, hv2⟩ hh (by omega)) rfl rfl rfl rfl rfl rfl rfl ?_
              first | refine pk_eqb (tgt := 97) dX7_size_85 (by decide) (fun c_85 => ?_) (fun c_85 => ?_) | refine pk_eq0N (tgt := 97) dX7_size_85 (by decide) (by omega) (fun c_85 => ?_) (fun c_85 => ?_) | refine pk_if_eq (tgt := 97) dX7_size_85 (by decide) (fun c_85 => ?_) (fun c_85 => ?_)
              · refine pk_iconst (v := nI 0) dX7_size_97 (by decide) ?_
                refine pk_astN dX7_size_98 (hWN.s rfl) (by omega) (by omega) (by omega) ?_
                first | refine pk_inc1 dX7_size_99 rfl rfl ?_ | refine pk_iinc dX7_size_99 rfl rfl rfl ?_
                refine pk_goto (tgt := 63) dX7_size_102 (by decide) ?_
                exact K (j + 1, _) ⟨by dsimp only; omega, hcl.step (by omega) _ (by rw [if_neg (pm_ouw c_85)])⟩ (by dsimp only; omega)
              · refine pk_aload_n dX7_size_88 rfl ?_
                refine pk_iload dX7_size_89 rfl ?_
                refine pk_Vi dX7_size_91 ml_X7_92 yw_X7_setAt yv_X7_setAt (hWN.s rfl) (e_X7_setAt2 hWN (hcl.2.2.2.2 j (by omega)) (by omega)) rfl rfl rfl rfl rfl rfl rfl ?_
                refine pk_goto (tgt := 98) dX7_size_94 (by decide) ?_
                refine pk_astN dX7_size_98 (hWN.s rfl) (by omega) (by omega) (by omega) ?_
                first | refine pk_inc1 dX7_size_99 rfl rfl ?_ | refine pk_iinc dX7_size_99 rfl rfl rfl ?_
                refine pk_goto (tgt := 63) dX7_size_102 (by decide) ?_
                exact K (j + 1, _) ⟨by dsimp only; omega, hcl.step (by omega) _ (by rw [if_pos (pm_inw c_85)]; unfold sp_cl; rw [if_neg (by omega)])⟩ (by dsimp only; omega)
          · refine pk_bipush (v := -2) dX7_size_46 (by decide) ?_
            refine pk_reti dX7_size_48 (by first | rfl | exact pk_nbi _) ?_
            rw [if_pos c_43]
            exact ⟨rfl, pk_ff.rf _ M, hR⟩
        · refine pk_iconst (v := -1) dX7_size_32 (by decide) ?_
          refine pk_reti dX7_size_33 (by first | rfl | exact pk_nbi _) ?_
          rw [op_size_0, if_pos c_29]
          exact ⟨rfl, pk_ff.rf _ M, hR⟩
    · refine pk_iload_n dX7_size_10 rfl ?_
      refine pk_i2l dX7_size_11 ?_
      refine pk_lconst (v := 1) dX7_size_12 (by decide) ?_
      refine pk_iload_n dX7_size_13 rfl ?_
      refine pk_ne0N (a := 1) (tgt := 23) dX7_size_14 (by decide) (by decide) (fun c_14 => ?_) (fun c_14 => ?_)
      · refine pk_ldc2 dX7_size_23 kc_X7_222 ?_
        refine pk_Si dX7_size_26 ml_X7_59 yw_X7_in ys_X7_in (e_X7_inI _ (lo := nI 1) (hi := nI 6) (by decide) (by decide)) rfl rfl rfl rfl rfl rfl rfl ?_
        first | refine pk_neb (tgt := 34) dX7_size_29 (by decide) (fun c_29 => ?_) (fun c_29 => ?_) | refine pk_ne0N (tgt := 34) dX7_size_29 (by decide) (by omega) (fun c_29 => ?_) (fun c_29 => ?_) | refine pk_if_ne (tgt := 34) dX7_size_29 (by decide) (fun c_29 => ?_) (fun c_29 => ?_)
        · have c29 := c_29
          rw [Bool.and_eq_true, decide_eq_true_eq, decide_eq_true_eq] at c29
          obtain ⟨v, hv0, rfl, hv1⟩ := pm_1le c29.1
          have hv2 := (nI_leI hv0 (by decide)).mp c29.2
          rw [op_size_1, if_neg (by rw [c_29]; decide), nI_clamp hv0]
          refine pk_aload_n dX7_size_34 rfl ?_
          refine pk_getP dX7_size_35 fl_X7_7 rfl (hW.s rfl) (hW.p rfl) ?_
          refine pk_iload_n dX7_size_38 rfl ?_
          refine pk_aldN dX7_size_39 (hW.s rfl) (by omega) (by omega) hA.h ?_
          refine pk_istore_n dX7_size_40 rfl rfl ?_
          refine pk_iload_n dX7_size_41 rfl ?_
          refine pk_iload_n dX7_size_42 rfl ?_
          refine pk_icmp_ne (tgt := 49) dX7_size_43 (by decide) (fun c_43 => ?_) (fun c_43 => ?_)
          · refine pk_aload_n dX7_size_49 rfl ?_
            refine pk_Vvr dX7_size_50 ml_X7_214 yw_X7_notes yv_X7_notes (hW.s rfl) (e_X7_notes hW hA hU.1 hn6 hU.2) rfl rfl rfl rfl rfl rfl rfl (fun M1 h1 => ?_)
            obtain ⟨hmf, hRk⟩ := hR.kp h1
            replace hW := hRk.1
            have hA1 := hRk.2.1
            refine pk_aload_n dX7_size_53 rfl ?_
            refine pk_getP dX7_size_54 fl_X7_7 rfl (hW.s rfl) (hW.p rfl) ?_
            refine pk_iload_n dX7_size_57 rfl ?_
            refine pk_iload_n dX7_size_58 rfl ?_
            refine pk_astN dX7_size_59 (hW.s rfl) (by omega) (by omega) (by omega) ?_
            refine pk_iconst (v := nI 0) dX7_size_60 (by decide) ?_
            refine pk_istore dX7_size_61 rfl rfl ?_
            rw [if_neg c_43]
            have hcl0 : pm_cl M1 (pk_sI M1 104 1 (nI v)) X.1 (sp_w X.1) (v) 0 := ⟨pk_fr.sI rfl, (pk_gS0 (by omega) hA1.w), (pk_gS1 rfl rfl rfl), fun z z1 z2 => pk_gS0 (by omega) rfl, fun q hq => pk_gS0 (by omega) ((hA1.s hq).trans (by unfold sp_cl; rw [if_neg (by omega)]; rfl))⟩
            refine pk_wf (fun z => 48 - z.1) (fun z : Nat × pk_M => z.1 ≤ 48 ∧ pm_cl M1 z.2 X.1 (sp_w X.1) (v) z.1) (fun z => z.2) (fun z => [some (.ref 103), some (.int (nI 1)), some (.int (nI v)), some (.int (nI (sp_h X.1))), some (.int (nI z.1))]) ?_ (0, (pk_sI M1 104 1 (nI v))) ⟨Nat.zero_le _, hcl0⟩
            rintro ⟨j, N⟩ ⟨hj, hcl⟩ K
            dsimp only at hj hcl K ⊢
            have hWN := hcl.1.wf hW
            refine pk_iload dX7_size_63 rfl ?_
            refine pk_bipush (v := nI 48) dX7_size_65 (by decide) ?_
            first | refine pk_geN (tgt := 105) dX7_size_67 (by decide) (by omega) (by omega) (fun c_67 => ?_) (fun c_67 => ?_) | refine pk_icmp_ge (tgt := 105) dX7_size_67 (by decide) (fun c_67 => ?_) (fun c_67 => ?_)
            · refine pk_iload_n dX7_size_105 rfl ?_
              refine pk_reti dX7_size_106 (by first | rfl | exact pk_nbi _) ?_
              have e48 : j = 48 := by omega
              subst e48
              exact ⟨rfl, hmf.tr (hcl.1.ff.mono (fun q h => by omega)), hRk.st hcl.1.ff (hcl.end hA1)⟩
            · refine pk_aload_n dX7_size_70 rfl ?_
              refine pk_getP dX7_size_71 fl_X7_7 rfl (hWN.s rfl) (hWN.p rfl) ?_
              refine pk_bipush (v := nI 14) dX7_size_74 (by decide) ?_
              refine pk_iload dX7_size_76 rfl ?_
              first | refine pk_addN dX7_size_78 ?_ | refine pk_iadd dX7_size_78 ?_
              refine pk_aload_n dX7_size_79 rfl ?_
              refine pk_iload dX7_size_80 rfl ?_
              refine pk_Vi dX7_size_82 ml_X7_88 yw_X7_isIn yv_X7_isIn (hWN.s rfl) (e_X7_isIn2 hWN hcl.2.1 hcl.2.2.1 hw ⟨hv1, hv2⟩ (by omega)) rfl rfl rfl rfl rfl rfl rfl ?_
              first | refine pk_eqb (tgt := 97) dX7_size_85 (by decide) (fun c_85 => ?_) (fun c_85 => ?_) | refine pk_eq0N (tgt := 97) dX7_size_85 (by decide) (by omega) (fun c_85 => ?_) (fun c_85 => ?_) | refine pk_if_eq (tgt := 97) dX7_size_85 (by decide) (fun c_85 => ?_) (fun c_85 => ?_)
              · refine pk_iconst (v := nI 0) dX7_size_97 (by decide) ?_
                refine pk_astN dX7_size_98 (hWN.s rfl) (by omega) (by omega) (by omega) ?_
                first | refine pk_inc1 dX7_size_99 rfl rfl ?_ | refine pk_iinc dX7_size_99 rfl rfl rfl ?_
                refine pk_goto (tgt := 63) dX7_size_102 (by decide) ?_
                exact K (j + 1, _) ⟨by dsimp only; omega, hcl.step (by omega) _ (by rw [if_neg (pm_ouw c_85)])⟩ (by dsimp only; omega)
              · refine pk_aload_n dX7_size_88 rfl ?_
                refine pk_iload dX7_size_89 rfl ?_
                refine pk_Vi dX7_size_91 ml_X7_92 yw_X7_setAt yv_X7_setAt (hWN.s rfl) (e_X7_setAt2 hWN (hcl.2.2.2.2 j (by omega)) (by omega)) rfl rfl rfl rfl rfl rfl rfl ?_
                refine pk_goto (tgt := 98) dX7_size_94 (by decide) ?_
                refine pk_astN dX7_size_98 (hWN.s rfl) (by omega) (by omega) (by omega) ?_
                first | refine pk_inc1 dX7_size_99 rfl rfl ?_ | refine pk_iinc dX7_size_99 rfl rfl rfl ?_
                refine pk_goto (tgt := 63) dX7_size_102 (by decide) ?_
                exact K (j + 1, _) ⟨by dsimp only; omega, hcl.step (by omega) _ (by rw [if_pos (pm_inw c_85)]; unfold sp_cl; rw [if_neg (by omega)])⟩ (by dsimp only; omega)
          · refine pk_bipush (v := -2) dX7_size_46 (by decide) ?_
            refine pk_reti dX7_size_48 (by first | rfl | exact pk_nbi _) ?_
            rw [if_pos c_43]
            exact ⟨rfl, pk_ff.rf _ M, hR⟩
        · refine pk_iconst (v := -1) dX7_size_32 (by decide) ?_
          refine pk_reti dX7_size_33 (by first | rfl | exact pk_nbi _) ?_
          rw [op_size_1, if_pos c_29]
          exact ⟨rfl, pk_ff.rf _ M, hR⟩
      · exact absurd c_14 (by decide)

theorem sp_lcgM {d : Nat} (hd : d < 2 ^ 31) : ((nI d).toInt64 * 1103515245 + 12345) - ((nI d).toInt64 * 1103515245 + 12345) / 2147483648 * 2147483648 = lN (sp_lcg d) := by
  rw [nI_l hd, show (1103515245 : Int64) = lN 1103515245 from rfl, show (12345 : Int64) = lN 12345 from rfl, show (2147483648 : Int64) = lN 2147483648 from rfl, lN_mul, lN_add, pk_lRem (by omega) (by decide) (by decide)]
  unfold sp_lcg
  rw [Nat.mul_comm, Nat.add_comm]
theorem sp_lcgD {a : Nat} (ha : a < 2 ^ 31) : lN a / 65536 = lN (a / 65536) := by
  rw [show (65536 : Int64) = lN 65536 from rfl, pk_lDiv (by omega) (by decide) (by decide)]

set_option maxRecDepth 100000 in
set_option maxHeartbeats 4000000 in
theorem e_X7_drift {Γ : pk_T} {M : pk_M} {L : Nat} {X : pk_X} (hR : pk_RM L M X) (hX : pk_okX X) (n : Int32) : pk_E Γ yX7_drift cX7_drift 6 (some .int) 5 0 0 M [.ref 103, .int n] (fun r M' => r = some (.int (op_drift X n).1) ∧ pk_mf M M' ∧ pk_RM L M' (op_drift X n).2) := by
  have hR0 := hR
  obtain ⟨hW, hA, hU, hK, hTp, hSh⟩ := hR0
  have hok := hX.1
  have hw := hok.1
  have hh := hok.2.1
  have hs := hok.2.2.2.2.2.2.2.1
  have hn6 := hX.2.1.1
  refine pk_meth (own := RX7) (ini := false) [some (.ref 103), some (.int n), none, none, none, none] (by decide +kernel) rfl (by decide +kernel) rfl rfl ?_
  refine pk_iload_n dX7_drift_0 rfl ?_
  refine pk_i2l dX7_drift_1 ?_
  refine pk_lconst (v := 1) dX7_drift_2 (by decide) ?_
  refine pk_ldc2 dX7_drift_3 kc_X7_224 ?_
  refine pk_Si dX7_drift_6 ml_X7_59 yw_X7_in ys_X7_in (e_X7_inI _ (lo := nI 1) (hi := nI 40) (by decide) (by decide)) rfl rfl rfl rfl rfl rfl rfl ?_
  first | refine pk_neb (tgt := 14) dX7_drift_9 (by decide) (fun c_9 => ?_) (fun c_9 => ?_) | refine pk_ne0N (tgt := 14) dX7_drift_9 (by decide) (by omega) (fun c_9 => ?_) (fun c_9 => ?_) | refine pk_if_ne (tgt := 14) dX7_drift_9 (by decide) (fun c_9 => ?_) (fun c_9 => ?_)
  · refine pk_iconst (v := nI 0) dX7_drift_14 (by decide) ?_
    refine pk_istore_n dX7_drift_15 rfl rfl ?_
    have c9 := c_9
    rw [Bool.and_eq_true, decide_eq_true_eq, decide_eq_true_eq] at c9
    have hnv : ¬ (n < 1 ∨ nI 40 < n) := fun h => h.elim (fun z => Int32.not_lt.mpr c9.1 z) (fun z => Int32.not_lt.mpr c9.2 z)
    obtain ⟨n, hn0, rfl, hn1⟩ := pm_1le c9.1
    have hn2 := (nI_leI hn0 (by decide)).mp c9.2
    rw [op_drift, if_neg hnv, nI_clamp hn0]
    refine pk_wf (fun z => n - z.1) (fun z : Nat × pk_M => z.1 ≤ n ∧ pk_mf M z.2 ∧ pk_RM L z.2 (sp_dr X z.1)) (fun z => z.2) (fun z => [some (.ref 103), some (.int (nI n)), some (.int (nI z.1)), none, none, none]) ?_ (0, M) ⟨Nat.zero_le _, pk_ff.rf _ M, hR⟩
    rintro ⟨k, N⟩ ⟨hk, hmf, hRN⟩ K
    dsimp only at hk hmf hRN K ⊢
    have hXk := ok_dr hX k
    have hWN := hRN.1
    have hAN := hRN.2.1
    have hUN := hRN.2.2.1
    have hwY := hXk.1.1
    have hhY := hXk.1.2.1
    have hdY := hXk.1.2.2.1
    have hlc := sp_lcg_lt (sp_d (sp_dr X k).1)
    refine pk_iload_n dX7_drift_16 rfl ?_
    refine pk_iload_n dX7_drift_17 rfl ?_
    first | refine pk_geN (tgt := 108) dX7_drift_18 (by decide) (by omega) (by omega) (fun c_18 => ?_) (fun c_18 => ?_) | refine pk_icmp_ge (tgt := 108) dX7_drift_18 (by decide) (fun c_18 => ?_) (fun c_18 => ?_)
    · refine pk_aload_n dX7_drift_108 rfl ?_
      refine pk_Vir dX7_drift_109 ml_X7_120 yw_X7_areas yv_X7_areas (hWN.s rfl) (e_X7_areas ⟨hWN, hAN, hXk.1⟩) rfl rfl rfl rfl rfl rfl rfl (fun M1 h1 => ?_)
      obtain ⟨hf1, har⟩ := h1
      obtain ⟨hmf1, hRM⟩ := hf1.ms (fun q h => by unfold pm_scr; omega) hRN
      refine pk_reti dX7_drift_112 (by first | rfl | exact pk_nbi _) ?_
      have ekn : k = n := by omega
      subst ekn
      exact ⟨rfl, hmf.tr hmf1, hRM⟩
    · refine pk_aload_n dX7_drift_21 rfl ?_
      refine pk_Vvr dX7_drift_22 ml_X7_214 yw_X7_notes yv_X7_notes (hWN.s rfl) (e_X7_notes hWN hAN hUN.1 hXk.2.1.1 hUN.2) rfl rfl rfl rfl rfl rfl rfl (fun M1 h1 => ?_)
      obtain ⟨hmf1, hRk⟩ := hRN.kp h1
      have hW1 := hRk.1
      have hA1 : pm_At M1 104 0 (sp_dr X k).1 := hRk.2.1
      have hm1 := Nat.mod_lt (((sp_lcg (sp_d (sp_dr X k).1)) / 65536) / 8) (show 0 < sp_h (sp_dr X k).1 by omega)
      have hm2 := Nat.mod_lt ((sp_lcg (sp_d (sp_dr X k).1)) / 65536) (show 0 < sp_w (sp_dr X k).1 by omega)
      refine pk_aload_n dX7_drift_25 rfl ?_
      refine pk_getP dX7_drift_26 fl_X7_7 rfl (hW1.s rfl) (hW1.p rfl) ?_
      refine pk_iconst (v := nI 2) dX7_drift_29 (by decide) ?_
      refine pk_aldN dX7_drift_30 (hW1.s rfl) (by omega) (by omega) hA1.d ?_
      refine pk_i2l dX7_drift_31 ?_
      refine pk_ldc2 dX7_drift_32 kc_X7_226 ?_
      refine pk_lmul dX7_drift_35 ?_
      refine pk_ldc2 dX7_drift_36 kc_X7_228 ?_
      refine pk_ladd dX7_drift_39 ?_
      refine pk_ldc2 dX7_drift_40 kc_X7_230 ?_
      refine pk_lrem dX7_drift_43 (by decide) ?_
      rw [show ((nI (sp_d (sp_dr X k).1)).toInt64 * 1103515245 + 12345) - ((nI (sp_d (sp_dr X k).1)).toInt64 * 1103515245 + 12345) / 2147483648 * 2147483648 = lN (sp_lcg (sp_d (sp_dr X k).1)) from sp_lcgM hdY]
      refine pk_lstore_n dX7_drift_44 rfl rfl ?_
      refine pk_lload_n dX7_drift_45 rfl ?_
      refine pk_ldc2 dX7_drift_46 kc_X7_232 ?_
      refine pk_ldiv dX7_drift_49 (by decide) ?_
      rw [sp_lcgD hlc]
      refine pk_l2i dX7_drift_50 ?_
      rw [lN_i]
      refine pk_istore dX7_drift_51 rfl rfl ?_
      refine pk_aload_n dX7_drift_53 rfl ?_
      refine pk_getP dX7_drift_54 fl_X7_7 rfl (hW1.s rfl) (hW1.p rfl) ?_
      refine pk_iconst (v := nI 2) dX7_drift_57 (by decide) ?_
      refine pk_lload_n dX7_drift_58 rfl ?_
      refine pk_l2i dX7_drift_59 ?_
      rw [lN_i]
      refine pk_astN dX7_drift_60 (hW1.s rfl) (by omega) (by omega) (by omega) ?_
      refine pk_aload_n dX7_drift_61 rfl ?_
      refine pk_getP dX7_drift_62 fl_X7_7 rfl (hW1.s rfl) (hW1.p rfl) ?_
      refine pk_bipush (v := nI 14) dX7_drift_65 (by decide) ?_
      refine pk_bipush (v := nI 8) dX7_drift_67 (by decide) ?_
      refine pk_iload dX7_drift_69 rfl ?_
      refine pk_bipush (v := nI 8) dX7_drift_71 (by decide) ?_
      first | refine pk_divN dX7_drift_73 (by omega) (by omega) (by omega) ?_ | refine pk_idiv dX7_drift_73 (by first | assumption | decide) ?_
      refine pk_aload_n dX7_drift_74 rfl ?_
      refine pk_getP dX7_drift_75 fl_X7_7 rfl (hW1.s rfl) (hW1.p rfl) ?_
      refine pk_iconst (v := nI 1) dX7_drift_78 (by decide) ?_
      have hWc : True := trivial
      refine pk_aldN dX7_drift_79 (hW1.s rfl) (by omega) (by omega) (pk_gS0 (by omega) hA1.h) ?_
      first | refine pk_remN dX7_drift_80 (by omega) (by omega) (by omega) ?_ | refine pk_irem dX7_drift_80 (by first | assumption | decide) ?_
      first | refine pk_mulN dX7_drift_81 ?_ | refine pk_imul dX7_drift_81 ?_
      first | refine pk_addN dX7_drift_82 ?_ | refine pk_iadd dX7_drift_82 ?_
      refine pk_iload dX7_drift_83 rfl ?_
      refine pk_aload_n dX7_drift_85 rfl ?_
      refine pk_getP dX7_drift_86 fl_X7_7 rfl (hW1.s rfl) (hW1.p rfl) ?_
      refine pk_iconst (v := nI 0) dX7_drift_89 (by decide) ?_
      refine pk_aldN dX7_drift_90 (hW1.s rfl) (by omega) (by omega) (pk_gS0 (by omega) hA1.w) ?_
      first | refine pk_remN dX7_drift_91 (by omega) (by omega) (by omega) ?_ | refine pk_irem dX7_drift_91 (by first | assumption | decide) ?_
      first | refine pk_addN dX7_drift_92 ?_ | refine pk_iadd dX7_drift_92 ?_
      refine pk_iload dX7_drift_93 rfl ?_
      refine pk_bipush (v := nI 64) dX7_drift_95 (by decide) ?_
      first | refine pk_divN dX7_drift_97 (by omega) (by omega) (by omega) ?_ | refine pk_idiv dX7_drift_97 (by first | assumption | decide) ?_
      refine pk_bipush (v := nI 32) dX7_drift_98 (by decide) ?_
      first | refine pk_remN dX7_drift_100 (by omega) (by omega) (by omega) ?_ | refine pk_irem dX7_drift_100 (by first | assumption | decide) ?_
      refine pk_astN dX7_drift_101 (hW1.s rfl) (by omega) (by omega) (by omega) ?_
      first | refine pk_inc1 dX7_drift_102 rfl rfl ?_ | refine pk_iinc dX7_drift_102 rfl rfl rfl ?_
      refine pk_goto (tgt := 16) dX7_drift_105 (by decide) ?_
      have hf : pk_fr (fun q => q = 104) M1 (pk_sI (pk_sI M1 104 2 (nI (sp_lcg (sp_d (sp_dr X k).1)))) 104 (14 + 8 * (((sp_lcg (sp_d (sp_dr X k).1)) / 65536) / 8 % sp_h (sp_dr X k).1) + ((sp_lcg (sp_d (sp_dr X k).1)) / 65536) % sp_w (sp_dr X k).1) (nI (((sp_lcg (sp_d (sp_dr X k).1)) / 65536) / 64 % 32))) := (pk_fr.sI (D := fun q => q = 104) rfl).tr (pk_fr.sI rfl)
      refine pk_fgt (by repeat first | exact trivial | refine ⟨rfl, ?_⟩) (K (k + 1, (pk_sI (pk_sI M1 104 2 (nI (sp_lcg (sp_d (sp_dr X k).1)))) 104 (14 + 8 * (((sp_lcg (sp_d (sp_dr X k).1)) / 65536) / 8 % sp_h (sp_dr X k).1) + ((sp_lcg (sp_d (sp_dr X k).1)) / 65536) % sp_w (sp_dr X k).1) (nI (((sp_lcg (sp_d (sp_dr X k).1)) / 65536) / 64 % 32)))) ⟨by dsimp only; omega, (hmf.tr hmf1).tr (hf.ff.mono (fun q h => by omega)), hRk.st hf.ff ?_⟩ (by dsimp only; omega))
      have h5 := (hA1.s_d (sp_lcg (sp_d (sp_dr X k).1))).s_set (((sp_lcg (sp_d (sp_dr X k).1)) / 65536) / 64 % 32) (q := 8 * (((sp_lcg (sp_d (sp_dr X k).1)) / 65536) / 8 % sp_h (sp_dr X k).1) + ((sp_lcg (sp_d (sp_dr X k).1)) / 65536) % sp_w (sp_dr X k).1) (by omega)
      rw [← Nat.add_assoc] at h5
      unfold sp_drift
      rw [Nat.mul_comm (((sp_lcg (sp_d (sp_dr X k).1)) / 65536) / 8 % sp_h (sp_dr X k).1) 8]
      exact h5
  · refine pk_iconst (v := -1) dX7_drift_12 (by decide) ?_
    refine pk_reti dX7_drift_13 (by first | rfl | exact pk_nbi _) ?_
    have hnv : n < 1 ∨ nI 40 < n := by
      rw [Bool.and_eq_false_iff, decide_eq_false_iff_not, decide_eq_false_iff_not] at c_9
      exact c_9.imp Int32.not_le.mp Int32.not_le.mp
    rw [op_drift, if_pos hnv]
    exact ⟨rfl, pk_ff.rf _ M, hR⟩
