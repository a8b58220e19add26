/-! place, area, count. -/
noncomputable def op_place (X : pk_X) (x y c : Int32) : Int32 := if sp_inb X.1 x y = false then -1 else match sp_sw c 3 with
  | some 0 => nI (sp_s X.1 (y.toNatClampNeg * 8 + x.toNatClampNeg))
  | some 1 => nI (sp_lookA X.1 (sp_s X.1 (y.toNatClampNeg * 8 + x.toNatClampNeg)))
  | some 2 => nI (sp_num2 X.1 (y.toNatClampNeg * 8 + x.toNatClampNeg))
  | _ => -1
noncomputable def op_area (X : pk_X) (a c : Int32) : Int32 := if sp_b a (sp_many X.1) = false then -1 else match sp_sw c 6 with
  | some 0 => nI (sp_s X.1 (sp_ro X.1 a.toNatClampNeg))
  | some 1 => nI (sp_sz X.1 (sp_ro X.1 a.toNatClampNeg))
  | some 2 => nI (sp_nbrs X.1 a.toNatClampNeg)
  | some 3 => nI (sp_ro X.1 a.toNatClampNeg % 8)
  | some 4 => nI (sp_ro X.1 a.toNatClampNeg / 8)
  | some 5 => nI (sp_gre X.1 a.toNatClampNeg)
  | _ => -1
noncomputable def op_count (X : pk_X) (c : Int32) : Int32 := match sp_sw c 13 with
  | some 0 => nI (sp_w X.1)
  | some 1 => nI (sp_h X.1)
  | some 2 => nI (sp_fig (sp_o X.1))
  | some 3 => nI (sp_many X.1)
  | some 4 => nI (sp_unlike X.1)
  | some 5 => nI (sp_few X.1)
  | some 6 => sp_code (sp_bst (sp_g X.1) 45)
  | some 7 => nI (sp_most (sp_g X.1) (sp_bst (sp_g X.1) 45))
  | some 8 => nI (sp_c (sp_ao X.1 (sp_sets X.1)) 120)
  | some 9 => nI (sp_fO X.1)
  | some 10 => nI (sp_byDark X.1)
  | some 11 => nI (sp_inks X.1)
  | some 12 => nI X.2.1.1
  | _ => -1

set_option maxRecDepth 100000 in
set_option maxHeartbeats 4000000 in
theorem e_X6_place {Γ : pk_T} {M : pk_M} {L : Nat} {X : pk_X} (hR : pk_RC L M X) (hX : pk_okX X) (x y c : Int32) : pk_E Γ yX6_place cX6_place 4 (some .int) 5 0 0 M [.ref 5, .int x, .int y, .int c] (fun r M' => r = some (.int (op_place X x y c)) ∧ pk_cf M M' ∧ pk_RC L M' X) := by
  have hR0 := hR
  obtain ⟨hW, hro, hA, ⟨pl, hP⟩, hkb, ⟨pl2, kn, KH, hKP, hKq⟩, hKA, hTp, hSh⟩ := hR0
  have hok := hX.1
  have hw := hok.1
  have hh := hok.2.1
  have hn6 := hX.2.1.1
  refine pk_meth (own := RX6) (ini := false) [some (.ref 5), some (.int x), some (.int y), some (.int c)] (by decide +kernel) rfl (by decide +kernel) rfl rfl ?_
  refine pk_aload_n dX6_place_0 rfl ?_
  refine pk_getP dX6_place_1 fl_X6_10 rfl (hW.s rfl) (hW.p rfl) ?_
  refine pk_iload_n dX6_place_4 rfl ?_
  refine pk_iload_n dX6_place_5 rfl ?_
  refine pk_Vi dX6_place_6 ml_X6_100 yw_X4_isInside yv_X4_isInside (hW.s rfl) (e_X4_isInside (p := 6) hW rfl hA hok _ _) rfl rfl rfl rfl rfl rfl rfl ?_
  first | refine pk_neb (tgt := 14) dX6_place_9 (by decide) (fun c_9 => ?_) (fun c_9 => ?_) | refine pk_ne0N (tgt := 14) dX6_place_9 (by decide) (by omega) (fun c_9 => ?_) (fun c_9 => ?_) | refine pk_if_ne (tgt := 14) dX6_place_9 (by decide) (fun c_9 => ?_) (fun c_9 => ?_)
  · obtain ⟨i, j, hi, hj, rfl, rfl⟩ := sp_inb_of hok c_9
    have hin : sp_in X.1 (j * 8 + i) = true := sp_in_of (by omega) (by omega)
    have hs32 := hok.2.2.2.2.2.2.2.1 (j * 8 + i) (by omega)
    rw [op_place, if_neg (by rw [c_9]; decide), nI_clamp (show i < 2 ^ 31 by omega), nI_clamp (show j < 2 ^ 31 by omega)]
    refine pk_iload_n dX6_place_14 rfl ?_
    rcases pk_ix c (n := 3) (by decide) with c_15 | c_15 | ⟨j_15, hj_15, e_15⟩
    · refine pk_swOut (tgt := 85) dX6_place_15 (Or.inl (pk_sw1 c_15)) (by decide) ?_
      refine pk_iconst (v := -1) dX6_place_85 (by decide) ?_
      refine pk_reti dX6_place_86 (by first | rfl | exact pk_nbi _) ?_
      first | (rw [sp_sw_lo c_15]; exact ⟨rfl, pk_ff.rf _ M, hR⟩) | (rw [sp_sw_hi c_15]; exact ⟨rfl, pk_ff.rf _ M, hR⟩) | (rw [sp_sw_n (by decide) (by decide)]; exact ⟨rfl, pk_ff.rf _ M, hR⟩)
    · refine pk_swOut (tgt := 85) dX6_place_15 (Or.inr (pk_sw2 (by decide) c_15)) (by decide) ?_
      refine pk_iconst (v := -1) dX6_place_85 (by decide) ?_
      refine pk_reti dX6_place_86 (by first | rfl | exact pk_nbi _) ?_
      first | (rw [sp_sw_lo c_15]; exact ⟨rfl, pk_ff.rf _ M, hR⟩) | (rw [sp_sw_hi c_15]; exact ⟨rfl, pk_ff.rf _ M, hR⟩) | (rw [sp_sw_n (by decide) (by decide)]; exact ⟨rfl, pk_ff.rf _ M, hR⟩)
    · subst e_15
      obtain rfl | rfl | rfl : j_15 = 0 ∨ j_15 = 1 ∨ j_15 = 2 := by omega
      · refine pk_swIn (off := 25) (tgt := 40) dX6_place_15 (by decide) (by decide) rfl (by decide) ?_
        refine pk_aload_n dX6_place_40 rfl ?_
        refine pk_getP dX6_place_41 fl_X6_10 rfl (hW.s rfl) (hW.p rfl) ?_
        refine pk_iload_n dX6_place_44 rfl ?_
        refine pk_iload_n dX6_place_45 rfl ?_
        refine pk_Vi dX6_place_46 ml_X6_103 yw_X4_at yv_X4_at (hW.s rfl) (e_X4_at (p := 6) hW rfl hA hok _ _ (sp_at_n hok hi hj)) rfl rfl rfl rfl rfl rfl rfl ?_
        refine pk_reti dX6_place_49 (by first | rfl | exact pk_nbi _) ?_
        first | (rw [sp_sw_lo c_15]; exact ⟨rfl, pk_ff.rf _ M, hR⟩) | (rw [sp_sw_hi c_15]; exact ⟨rfl, pk_ff.rf _ M, hR⟩) | (rw [sp_sw_n (by decide) (by decide)]; exact ⟨rfl, pk_ff.rf _ M, hR⟩)
      · refine pk_swIn (off := 35) (tgt := 50) dX6_place_15 (by decide) (by decide) rfl (by decide) ?_
        refine pk_aload_n dX6_place_50 rfl ?_
        refine pk_aload_n dX6_place_51 rfl ?_
        refine pk_getP dX6_place_52 fl_X6_10 rfl (hW.s rfl) (hW.p rfl) ?_
        refine pk_iload_n dX6_place_55 rfl ?_
        refine pk_iload_n dX6_place_56 rfl ?_
        refine pk_Vi dX6_place_57 ml_X6_103 yw_X4_at yv_X4_at (hW.s rfl) (e_X4_at (p := 6) hW rfl hA hok _ _ (sp_at_n hok hi hj)) rfl rfl rfl rfl rfl rfl rfl ?_
        refine pk_Vi dX6_place_60 ml_X6_85 yw_X6_lookNow yv_X6_lookNow (hW.s rfl) (e_X6_lookNow ⟨hW, hA, hok⟩ hs32) rfl rfl rfl rfl rfl rfl rfl ?_
        refine pk_reti dX6_place_63 (by first | rfl | exact pk_nbi _) ?_
        first | (rw [sp_sw_lo c_15]; exact ⟨rfl, pk_ff.rf _ M, hR⟩) | (rw [sp_sw_hi c_15]; exact ⟨rfl, pk_ff.rf _ M, hR⟩) | (rw [sp_sw_n (by decide) (by decide)]; exact ⟨rfl, pk_ff.rf _ M, hR⟩)
      · refine pk_swIn (off := 49) (tgt := 64) dX6_place_15 (by decide) (by decide) rfl (by decide) ?_
        refine pk_aload_n dX6_place_64 rfl ?_
        refine pk_getP dX6_place_65 fl_X6_43 rfl (hW.s rfl) (hW.p rfl) ?_
        refine pk_aload_n dX6_place_68 rfl ?_
        refine pk_getP dX6_place_69 fl_X6_10 rfl (hW.s rfl) (hW.p rfl) ?_
        refine pk_Vvr dX6_place_72 ml_X6_107 yw_X0_find yv_X0_find (hW.s rfl) (e_X0_find hW hA hok hro) rfl rfl rfl rfl rfl rfl rfl (fun M1 h1 => ?_)
        have hRM := hR.scr (h1.1.ff.mono (fun q h => by unfold pk_scr; omega))
        replace hW := h1.1.wf hW
        replace hA := h1.1.at (p := 6) (fun q g1 g2 g3 => by omega) hA
        replace hro := h1.1.ro (fun q g1 g2 => by omega) hro
        refine pk_aload_n dX6_place_75 rfl ?_
        refine pk_getP dX6_place_76 fl_X6_43 rfl (hW.s rfl) (hW.p rfl) ?_
        refine pk_iload_n dX6_place_79 rfl ?_
        refine pk_iload_n dX6_place_80 rfl ?_
        refine pk_Vi dX6_place_81 ml_X6_111 yw_X0_at yv_X0_at (hW.s rfl) (e_X0_at hW (by omega)) rfl rfl rfl rfl rfl rfl rfl ?_
        rw [h1.2.2.1 _ hin]
        refine pk_reti dX6_place_84 (by first | rfl | exact pk_nbi _) ?_
        rw [sp_sw_n (by decide) (by decide)]
        exact ⟨rfl, h1.1.ff.mono (fun q h => by omega), hRM⟩
  · refine pk_iconst (v := -1) dX6_place_12 (by decide) ?_
    refine pk_reti dX6_place_13 (by first | rfl | exact pk_nbi _) ?_
    rw [op_place, if_pos c_9]
    exact ⟨rfl, pk_ff.rf _ M, hR⟩

set_option maxRecDepth 100000 in
set_option maxHeartbeats 4000000 in
theorem e_X6_area {Γ : pk_T} {M : pk_M} {L : Nat} {X : pk_X} (hR : pk_RC L M X) (hX : pk_okX X) (a c : Int32) : pk_E Γ yX6_area cX6_area 5 (some .int) 5 0 0 M [.ref 5, .int a, .int c] (fun r M' => r = some (.int (op_area X a c)) ∧ pk_cf M M' ∧ pk_RC L M' X) := by
  have hR0 := hR
  obtain ⟨hW, hro, hA, ⟨pl, hP⟩, hkb, ⟨pl2, kn, KH, hKP, hKq⟩, hKA, hTp, hSh⟩ := hR0
  have hok := hX.1
  have hw := hok.1
  have hh := hok.2.1
  have hn6 := hX.2.1.1
  refine pk_meth (own := RX6) (ini := false) [some (.ref 5), some (.int a), some (.int c), none, none] (by decide +kernel) rfl (by decide +kernel) rfl rfl ?_
  refine pk_aload_n dX6_area_0 rfl ?_
  refine pk_getP dX6_area_1 fl_X6_43 rfl (hW.s rfl) (hW.p rfl) ?_
  refine pk_aload_n dX6_area_4 rfl ?_
  refine pk_getP dX6_area_5 fl_X6_10 rfl (hW.s rfl) (hW.p rfl) ?_
  refine pk_Vvr dX6_area_8 ml_X6_107 yw_X0_find yv_X0_find (hW.s rfl) (e_X0_find hW hA hok hro) rfl rfl rfl rfl rfl rfl rfl (fun M1 h1 => ?_)
  have hRM := hR.scr (h1.1.ff.mono (fun q h => by unfold pk_scr; omega))
  replace hW := h1.1.wf hW
  replace hA := h1.1.at (p := 6) (fun q g1 g2 g3 => by omega) hA
  replace hro := h1.1.ro (fun q g1 g2 => by omega) hro
  refine pk_iload_n dX6_area_11 rfl ?_
  refine pk_aload_n dX6_area_12 rfl ?_
  refine pk_getP dX6_area_13 fl_X6_43 rfl (hW.s rfl) (hW.p rfl) ?_
  refine pk_getN dX6_area_16 fl_X6_112 rfl (hW.s rfl) h1.2.1 ?_
  refine pk_Si dX6_area_19 ml_X6_71 yw_X6_isBelow ys_X6_isBelow (e_X6_isBelow _ _) rfl rfl rfl rfl rfl rfl rfl ?_
  first | refine pk_neb (tgt := 27) dX6_area_22 (by decide) (fun c_22 => ?_) (fun c_22 => ?_) | refine pk_ne0N (tgt := 27) dX6_area_22 (by decide) (by omega) (fun c_22 => ?_) (fun c_22 => ?_) | refine pk_if_ne (tgt := 27) dX6_area_22 (by decide) (fun c_22 => ?_) (fun c_22 => ?_)
  · have hml := sp_many_le X.1
    obtain ⟨a, ha, rfl⟩ := sp_b_of c_22 (by omega)
    have hrl := sp_ro_lt hok ha
    have hri := sp_in_lt hok hrl.1
    have hat : sp_at X.1 (nI (sp_ro X.1 a % 8)) (nI (sp_ro X.1 a / 8)) = sp_s X.1 (sp_ro X.1 a) := by
      rw [sp_at_n hok hri.1 hri.2.1]
      congr 1
      omega
    rw [op_area, if_neg (by rw [sp_b_n ha (by omega)]; decide), nI_clamp (show a < 2 ^ 31 by omega)]
    refine pk_aload_n dX6_area_27 rfl ?_
    refine pk_getP dX6_area_28 fl_X6_43 rfl (hW.s rfl) (hW.p rfl) ?_
    refine pk_iload_n dX6_area_31 rfl ?_
    refine pk_Vi dX6_area_32 ml_X6_116 yw_X0_firstX yv_X0_firstX (hW.s rfl) (e_X0_firstX hW hok h1.2 ha) rfl rfl rfl rfl rfl rfl rfl ?_
    refine pk_istore_n dX6_area_35 rfl rfl ?_
    refine pk_aload_n dX6_area_36 rfl ?_
    refine pk_getP dX6_area_37 fl_X6_43 rfl (hW.s rfl) (hW.p rfl) ?_
    refine pk_iload_n dX6_area_40 rfl ?_
    refine pk_Vi dX6_area_41 ml_X6_119 yw_X0_firstY yv_X0_firstY (hW.s rfl) (e_X0_firstY hW hok h1.2 ha) rfl rfl rfl rfl rfl rfl rfl ?_
    refine pk_istore dX6_area_44 rfl rfl ?_
    refine pk_iload_n dX6_area_46 rfl ?_
    rcases pk_ix c (n := 6) (by decide) with c_47 | c_47 | ⟨j_47, hj_47, e_47⟩
    · refine pk_swOut (tgt := 131) dX6_area_47 (Or.inl (pk_sw1 c_47)) (by decide) ?_
      refine pk_iconst (v := -1) dX6_area_131 (by decide) ?_
      refine pk_reti dX6_area_132 (by first | rfl | exact pk_nbi _) ?_
      first | (rw [sp_sw_lo c_47]; exact ⟨rfl, h1.1.ff.mono (fun q h => by omega), hRM⟩) | (rw [sp_sw_hi c_47]; exact ⟨rfl, h1.1.ff.mono (fun q h => by omega), hRM⟩) | (rw [sp_sw_n (by decide) (by decide)]; exact ⟨rfl, h1.1.ff.mono (fun q h => by omega), hRM⟩)
    · refine pk_swOut (tgt := 131) dX6_area_47 (Or.inr (pk_sw2 (by decide) c_47)) (by decide) ?_
      refine pk_iconst (v := -1) dX6_area_131 (by decide) ?_
      refine pk_reti dX6_area_132 (by first | rfl | exact pk_nbi _) ?_
      first | (rw [sp_sw_lo c_47]; exact ⟨rfl, h1.1.ff.mono (fun q h => by omega), hRM⟩) | (rw [sp_sw_hi c_47]; exact ⟨rfl, h1.1.ff.mono (fun q h => by omega), hRM⟩) | (rw [sp_sw_n (by decide) (by decide)]; exact ⟨rfl, h1.1.ff.mono (fun q h => by omega), hRM⟩)
    · subst e_47
      obtain rfl | rfl | rfl | rfl | rfl | rfl : j_47 = 0 ∨ j_47 = 1 ∨ j_47 = 2 ∨ j_47 = 3 ∨ j_47 = 4 ∨ j_47 = 5 := by omega
      · refine pk_swIn (off := 37) (tgt := 84) dX6_area_47 (by decide) (by decide) rfl (by decide) ?_
        refine pk_aload_n dX6_area_84 rfl ?_
        refine pk_getP dX6_area_85 fl_X6_10 rfl (hW.s rfl) (hW.p rfl) ?_
        refine pk_iload_n dX6_area_88 rfl ?_
        refine pk_iload dX6_area_89 rfl ?_
        refine pk_Vi dX6_area_91 ml_X6_103 yw_X4_at yv_X4_at (hW.s rfl) (e_X4_at (p := 6) hW rfl hA hok _ _ hat) rfl rfl rfl rfl rfl rfl rfl ?_
        refine pk_reti dX6_area_94 (by first | rfl | exact pk_nbi _) ?_
        first | (rw [sp_sw_lo c_47]; exact ⟨rfl, h1.1.ff.mono (fun q h => by omega), hRM⟩) | (rw [sp_sw_hi c_47]; exact ⟨rfl, h1.1.ff.mono (fun q h => by omega), hRM⟩) | (rw [sp_sw_n (by decide) (by decide)]; exact ⟨rfl, h1.1.ff.mono (fun q h => by omega), hRM⟩)
      · refine pk_swIn (off := 48) (tgt := 95) dX6_area_47 (by decide) (by decide) rfl (by decide) ?_
        refine pk_aload_n dX6_area_95 rfl ?_
        refine pk_getP dX6_area_96 fl_X6_43 rfl (hW.s rfl) (hW.p rfl) ?_
        refine pk_iload_n dX6_area_99 rfl ?_
        refine pk_Vi dX6_area_100 ml_X6_122 yw_X0_placesOf yv_X0_placesOf (hW.s rfl) (e_X0_placesOf hW hok h1.2 ha) rfl rfl rfl rfl rfl rfl rfl ?_
        refine pk_reti dX6_area_103 (by first | rfl | exact pk_nbi _) ?_
        first | (rw [sp_sw_lo c_47]; exact ⟨rfl, h1.1.ff.mono (fun q h => by omega), hRM⟩) | (rw [sp_sw_hi c_47]; exact ⟨rfl, h1.1.ff.mono (fun q h => by omega), hRM⟩) | (rw [sp_sw_n (by decide) (by decide)]; exact ⟨rfl, h1.1.ff.mono (fun q h => by omega), hRM⟩)
      · refine pk_swIn (off := 57) (tgt := 104) dX6_area_47 (by decide) (by decide) rfl (by decide) ?_
        refine pk_aload_n dX6_area_104 rfl ?_
        refine pk_getP dX6_area_105 fl_X6_43 rfl (hW.s rfl) (hW.p rfl) ?_
        refine pk_iload_n dX6_area_108 rfl ?_
        refine pk_aload_n dX6_area_109 rfl ?_
        refine pk_getP dX6_area_110 fl_X6_10 rfl (hW.s rfl) (hW.p rfl) ?_
        refine pk_Vir dX6_area_113 ml_X6_125 yw_X0_neighboursOf yv_X0_neighboursOf (hW.s rfl) (e_X0_neighboursOf hW hA hok hro h1.2 (by omega)) rfl rfl rfl rfl rfl rfl rfl (fun M2 h2 => ?_)
        skip
        refine pk_reti dX6_area_116 (by first | rfl | exact pk_nbi _) ?_
        rw [sp_sw_n (by decide) (by decide)]
        exact ⟨rfl, (h1.1.tr h2).ff.mono (fun q h => by omega), hRM.scr (h2.ff.mono (fun q h => by unfold pk_scr; omega))⟩
      · refine pk_swIn (off := 70) (tgt := 117) dX6_area_47 (by decide) (by decide) rfl (by decide) ?_
        refine pk_iload_n dX6_area_117 rfl ?_
        refine pk_reti dX6_area_118 (by first | rfl | exact pk_nbi _) ?_
        first | (rw [sp_sw_lo c_47]; exact ⟨rfl, h1.1.ff.mono (fun q h => by omega), hRM⟩) | (rw [sp_sw_hi c_47]; exact ⟨rfl, h1.1.ff.mono (fun q h => by omega), hRM⟩) | (rw [sp_sw_n (by decide) (by decide)]; exact ⟨rfl, h1.1.ff.mono (fun q h => by omega), hRM⟩)
      · refine pk_swIn (off := 72) (tgt := 119) dX6_area_47 (by decide) (by decide) rfl (by decide) ?_
        refine pk_iload dX6_area_119 rfl ?_
        refine pk_reti dX6_area_121 (by first | rfl | exact pk_nbi _) ?_
        first | (rw [sp_sw_lo c_47]; exact ⟨rfl, h1.1.ff.mono (fun q h => by omega), hRM⟩) | (rw [sp_sw_hi c_47]; exact ⟨rfl, h1.1.ff.mono (fun q h => by omega), hRM⟩) | (rw [sp_sw_n (by decide) (by decide)]; exact ⟨rfl, h1.1.ff.mono (fun q h => by omega), hRM⟩)
      · refine pk_swIn (off := 75) (tgt := 122) dX6_area_47 (by decide) (by decide) rfl (by decide) ?_
        refine pk_aload_n dX6_area_122 rfl ?_
        refine pk_getP dX6_area_123 fl_X6_43 rfl (hW.s rfl) (hW.p rfl) ?_
        refine pk_iload_n dX6_area_126 rfl ?_
        refine pk_Vi dX6_area_127 ml_X6_129 yw_X0_greaterThan yv_X0_greaterThan (hW.s rfl) (e_X0_greaterThan hW hok h1.2 ha) rfl rfl rfl rfl rfl rfl rfl ?_
        refine pk_reti dX6_area_130 (by first | rfl | exact pk_nbi _) ?_
        first | (rw [sp_sw_lo c_47]; exact ⟨rfl, h1.1.ff.mono (fun q h => by omega), hRM⟩) | (rw [sp_sw_hi c_47]; exact ⟨rfl, h1.1.ff.mono (fun q h => by omega), hRM⟩) | (rw [sp_sw_n (by decide) (by decide)]; exact ⟨rfl, h1.1.ff.mono (fun q h => by omega), hRM⟩)
  · refine pk_iconst (v := -1) dX6_area_25 (by decide) ?_
    refine pk_reti dX6_area_26 (by first | rfl | exact pk_nbi _) ?_
    rw [op_area, if_pos (show sp_b a (sp_many X.1) = false from c_22)]
    exact ⟨rfl, h1.1.ff.mono (fun q h => by omega), hRM⟩

set_option maxRecDepth 100000 in
set_option maxHeartbeats 4000000 in
theorem e_X6_count {Γ : pk_T} {M : pk_M} {L : Nat} {X : pk_X} (hR : pk_RC L M X) (hX : pk_okX X) (c : Int32) : pk_E Γ yX6_count cX6_count 2 (some .int) 7 0 0 M [.ref 5, .int c] (fun r M' => r = some (.int (op_count X c)) ∧ pk_cf M M' ∧ pk_RC L M' X) := by
  have hR0 := hR
  obtain ⟨hW, hro, hA, ⟨pl, hP⟩, hkb, ⟨pl2, kn, KH, hKP, hKq⟩, hKA, hTp, hSh⟩ := hR0
  have hok := hX.1
  have hw := hok.1
  have hh := hok.2.1
  have hn6 := hX.2.1.1
  refine pk_meth (own := RX6) (ini := false) [some (.ref 5), some (.int c)] (by decide +kernel) rfl (by decide +kernel) rfl rfl ?_
  refine pk_iload_n dX6_count_0 rfl ?_
  rcases pk_ix c (n := 13) (by decide) with c_1 | c_1 | ⟨j_1, hj_1, e_1⟩
  · refine pk_swOut (tgt := 165) dX6_count_1 (Or.inl (pk_sw1 c_1)) (by decide) ?_
    refine pk_iconst (v := -1) dX6_count_165 (by decide) ?_
    refine pk_reti dX6_count_166 (by first | rfl | exact pk_nbi _) ?_
    first | (rw [op_count, sp_sw_lo c_1]; exact ⟨rfl, pk_ff.rf _ M, hR⟩) | (rw [op_count, sp_sw_hi c_1]; exact ⟨rfl, pk_ff.rf _ M, hR⟩) | (rw [op_count, sp_sw_n (by decide) (by decide)]; exact ⟨rfl, pk_ff.rf _ M, hR⟩)
  · refine pk_swOut (tgt := 165) dX6_count_1 (Or.inr (pk_sw2 (by decide) c_1)) (by decide) ?_
    refine pk_iconst (v := -1) dX6_count_165 (by decide) ?_
    refine pk_reti dX6_count_166 (by first | rfl | exact pk_nbi _) ?_
    first | (rw [op_count, sp_sw_lo c_1]; exact ⟨rfl, pk_ff.rf _ M, hR⟩) | (rw [op_count, sp_sw_hi c_1]; exact ⟨rfl, pk_ff.rf _ M, hR⟩) | (rw [op_count, sp_sw_n (by decide) (by decide)]; exact ⟨rfl, pk_ff.rf _ M, hR⟩)
  · subst e_1
    obtain rfl | rfl | rfl | rfl | rfl | rfl | rfl | rfl | rfl | rfl | rfl | rfl | rfl : j_1 = 0 ∨ j_1 = 1 ∨ j_1 = 2 ∨ j_1 = 3 ∨ j_1 = 4 ∨ j_1 = 5 ∨ j_1 = 6 ∨ j_1 = 7 ∨ j_1 = 8 ∨ j_1 = 9 ∨ j_1 = 10 ∨ j_1 = 11 ∨ j_1 = 12 := by omega
    · refine pk_swIn (off := 67) (tgt := 68) dX6_count_1 (by decide) (by decide) rfl (by decide) ?_
      refine pk_aload_n dX6_count_68 rfl ?_
      refine pk_getP dX6_count_69 fl_X6_10 rfl (hW.s rfl) (hW.p rfl) ?_
      refine pk_getN dX6_count_72 fl_X6_160 rfl (hW.s rfl) hA.1 ?_
      refine pk_reti dX6_count_75 (by first | rfl | exact pk_nbi _) ?_
      first | (rw [op_count, sp_sw_lo c_1]; exact ⟨rfl, pk_ff.rf _ M, hR⟩) | (rw [op_count, sp_sw_hi c_1]; exact ⟨rfl, pk_ff.rf _ M, hR⟩) | (rw [op_count, sp_sw_n (by decide) (by decide)]; exact ⟨rfl, pk_ff.rf _ M, hR⟩)
    · refine pk_swIn (off := 75) (tgt := 76) dX6_count_1 (by decide) (by decide) rfl (by decide) ?_
      refine pk_aload_n dX6_count_76 rfl ?_
      refine pk_getP dX6_count_77 fl_X6_10 rfl (hW.s rfl) (hW.p rfl) ?_
      refine pk_getN dX6_count_80 fl_X6_161 rfl (hW.s rfl) hA.2.1 ?_
      refine pk_reti dX6_count_83 (by first | rfl | exact pk_nbi _) ?_
      first | (rw [op_count, sp_sw_lo c_1]; exact ⟨rfl, pk_ff.rf _ M, hR⟩) | (rw [op_count, sp_sw_hi c_1]; exact ⟨rfl, pk_ff.rf _ M, hR⟩) | (rw [op_count, sp_sw_n (by decide) (by decide)]; exact ⟨rfl, pk_ff.rf _ M, hR⟩)
    · refine pk_swIn (off := 83) (tgt := 84) dX6_count_1 (by decide) (by decide) rfl (by decide) ?_
      refine pk_aload_n dX6_count_84 rfl ?_
      refine pk_getP dX6_count_85 fl_X6_10 rfl (hW.s rfl) (hW.p rfl) ?_
      refine pk_getP dX6_count_88 fl_X6_164 rfl (hW.s rfl) (hW.p rfl) ?_
      refine pk_Si dX6_count_91 ml_X6_167 yw_X6_figuresOf ys_X6_figuresOf (e_X6_figuresOf (c := 9) (hW.s rfl) (fun i hi => hA.2.2.2.2.2.1 i hi)) rfl rfl rfl rfl rfl rfl rfl ?_
      refine pk_reti dX6_count_94 (by first | rfl | exact pk_nbi _) ?_
      first | (rw [op_count, sp_sw_lo c_1]; exact ⟨rfl, pk_ff.rf _ M, hR⟩) | (rw [op_count, sp_sw_hi c_1]; exact ⟨rfl, pk_ff.rf _ M, hR⟩) | (rw [op_count, sp_sw_n (by decide) (by decide)]; exact ⟨rfl, pk_ff.rf _ M, hR⟩)
    · refine pk_swIn (off := 94) (tgt := 95) dX6_count_1 (by decide) (by decide) rfl (by decide) ?_
      refine pk_aload_n dX6_count_95 rfl ?_
      refine pk_getP dX6_count_96 fl_X6_43 rfl (hW.s rfl) (hW.p rfl) ?_
      refine pk_aload_n dX6_count_99 rfl ?_
      refine pk_getP dX6_count_100 fl_X6_10 rfl (hW.s rfl) (hW.p rfl) ?_
      refine pk_Vvr dX6_count_103 ml_X6_107 yw_X0_find yv_X0_find (hW.s rfl) (e_X0_find hW hA hok hro) rfl rfl rfl rfl rfl rfl rfl (fun M1 h1 => ?_)
      have hRM := hR.scr (h1.1.ff.mono (fun q h => by unfold pk_scr; omega))
      replace hW := h1.1.wf hW
      replace hA := h1.1.at (p := 6) (fun q g1 g2 g3 => by omega) hA
      replace hro := h1.1.ro (fun q g1 g2 => by omega) hro
      refine pk_aload_n dX6_count_106 rfl ?_
      refine pk_getP dX6_count_107 fl_X6_43 rfl (hW.s rfl) (hW.p rfl) ?_
      refine pk_getN dX6_count_110 fl_X6_112 rfl (hW.s rfl) h1.2.1 ?_
      refine pk_reti dX6_count_113 (by first | rfl | exact pk_nbi _) ?_
      rw [op_count, sp_sw_n (by decide) (by decide)]
      exact ⟨rfl, h1.1.ff.mono (fun q h => by omega), hRM⟩
    · refine pk_swIn (off := 113) (tgt := 114) dX6_count_1 (by decide) (by decide) rfl (by decide) ?_
      refine pk_aload_n dX6_count_114 rfl ?_
      refine pk_Vir dX6_count_115 ml_X6_171 yw_X6_unlikeLooks yv_X6_unlikeLooks (hW.s rfl) (e_X6_unlikeLooks ⟨hW, hA, hok⟩) rfl rfl rfl rfl rfl rfl rfl (fun M1 h1 => ?_)
      skip
      refine pk_reti dX6_count_118 (by first | rfl | exact pk_nbi _) ?_
      rw [op_count, sp_sw_n (by decide) (by decide)]
      exact ⟨rfl, h1.ff.mono (fun q h => by omega), hR.scr (h1.ff.mono (fun q h => by unfold pk_scr; omega))⟩
    · refine pk_swIn (off := 118) (tgt := 119) dX6_count_1 (by decide) (by decide) rfl (by decide) ?_
      refine pk_aload_n dX6_count_119 rfl ?_
      refine pk_Vir dX6_count_120 ml_X6_175 yw_X6_fewestInks yv_X6_fewestInks (hW.s rfl) (e_X6_fewestInks ⟨hW, hA, hok⟩) rfl rfl rfl rfl rfl rfl rfl (fun M1 h1 => ?_)
      skip
      refine pk_reti dX6_count_123 (by first | rfl | exact pk_nbi _) ?_
      rw [op_count, sp_sw_n (by decide) (by decide)]
      exact ⟨rfl, h1.ff.mono (fun q h => by omega), hR.scr (h1.ff.mono (fun q h => by unfold pk_scr; omega))⟩
    · refine pk_swIn (off := 123) (tgt := 124) dX6_count_1 (by decide) (by decide) rfl (by decide) ?_
      refine pk_aload_n dX6_count_124 rfl ?_
      refine pk_Vi dX6_count_125 ml_X6_178 yw_X6_worstAside yv_X6_worstAside (hW.s rfl) (e_X6_worstAside ⟨hW, hA, hok⟩) rfl rfl rfl rfl rfl rfl rfl ?_
      refine pk_reti dX6_count_128 (by first | rfl | exact pk_nbi _) ?_
      first | (rw [op_count, sp_sw_lo c_1]; exact ⟨rfl, pk_ff.rf _ M, hR⟩) | (rw [op_count, sp_sw_hi c_1]; exact ⟨rfl, pk_ff.rf _ M, hR⟩) | (rw [op_count, sp_sw_n (by decide) (by decide)]; exact ⟨rfl, pk_ff.rf _ M, hR⟩)
    · refine pk_swIn (off := 128) (tgt := 129) dX6_count_1 (by decide) (by decide) rfl (by decide) ?_
      refine pk_aload_n dX6_count_129 rfl ?_
      refine pk_Vi dX6_count_130 ml_X6_181 yw_X6_worstGaps yv_X6_worstGaps (hW.s rfl) (e_X6_worstGaps ⟨hW, hA, hok⟩) rfl rfl rfl rfl rfl rfl rfl ?_
      refine pk_reti dX6_count_133 (by first | rfl | exact pk_nbi _) ?_
      first | (rw [op_count, sp_sw_lo c_1]; exact ⟨rfl, pk_ff.rf _ M, hR⟩) | (rw [op_count, sp_sw_hi c_1]; exact ⟨rfl, pk_ff.rf _ M, hR⟩) | (rw [op_count, sp_sw_n (by decide) (by decide)]; exact ⟨rfl, pk_ff.rf _ M, hR⟩)
    · refine pk_swIn (off := 133) (tgt := 134) dX6_count_1 (by decide) (by decide) rfl (by decide) ?_
      refine pk_aload_n dX6_count_134 rfl ?_
      refine pk_Vir dX6_count_135 ml_X6_184 yw_X6_ordersAlike yv_X6_ordersAlike (hW.s rfl) (e_X6_ordersAlike ⟨hW, hA, hok⟩ hro) rfl rfl rfl rfl rfl rfl rfl (fun M1 h1 => ?_)
      skip
      refine pk_reti dX6_count_138 (by first | rfl | exact pk_nbi _) ?_
      rw [op_count, sp_sw_n (by decide) (by decide)]
      exact ⟨rfl, h1.ff.mono (fun q h => by omega), hR.scr (h1.ff.mono (fun q h => by unfold pk_scr; omega))⟩
    · refine pk_swIn (off := 138) (tgt := 139) dX6_count_1 (by decide) (by decide) rfl (by decide) ?_
      refine pk_aload_n dX6_count_139 rfl ?_
      refine pk_Vir dX6_count_140 ml_X6_187 yw_X6_firstOrderAlike yv_X6_firstOrderAlike (hW.s rfl) (e_X6_firstOrderAlike ⟨hW, hA, hok⟩ hro) rfl rfl rfl rfl rfl rfl rfl (fun M1 h1 => ?_)
      skip
      refine pk_reti dX6_count_143 (by first | rfl | exact pk_nbi _) ?_
      rw [op_count, sp_sw_n (by decide) (by decide)]
      exact ⟨rfl, h1.ff.mono (fun q h => by omega), hR.scr (h1.ff.mono (fun q h => by unfold pk_scr; omega))⟩
    · refine pk_swIn (off := 143) (tgt := 144) dX6_count_1 (by decide) (by decide) rfl (by decide) ?_
      refine pk_aload_n dX6_count_144 rfl ?_
      refine pk_Vi dX6_count_145 ml_X6_190 yw_X6_orderByDark yv_X6_orderByDark (hW.s rfl) (e_X6_orderByDark ⟨hW, hA, hok⟩) rfl rfl rfl rfl rfl rfl rfl ?_
      refine pk_reti dX6_count_148 (by first | rfl | exact pk_nbi _) ?_
      first | (rw [op_count, sp_sw_lo c_1]; exact ⟨rfl, pk_ff.rf _ M, hR⟩) | (rw [op_count, sp_sw_hi c_1]; exact ⟨rfl, pk_ff.rf _ M, hR⟩) | (rw [op_count, sp_sw_n (by decide) (by decide)]; exact ⟨rfl, pk_ff.rf _ M, hR⟩)
    · refine pk_swIn (off := 148) (tgt := 149) dX6_count_1 (by decide) (by decide) rfl (by decide) ?_
      refine pk_aload_n dX6_count_149 rfl ?_
      refine pk_getP dX6_count_150 fl_X6_10 rfl (hW.s rfl) (hW.p rfl) ?_
      refine pk_Vi dX6_count_153 ml_X6_193 yw_X4_inksDrawn yv_X4_inksDrawn (hW.s rfl) (e_X4_inksDrawn (p := 6) hW rfl hA hok) rfl rfl rfl rfl rfl rfl rfl ?_
      refine pk_reti dX6_count_156 (by first | rfl | exact pk_nbi _) ?_
      first | (rw [op_count, sp_sw_lo c_1]; exact ⟨rfl, pk_ff.rf _ M, hR⟩) | (rw [op_count, sp_sw_hi c_1]; exact ⟨rfl, pk_ff.rf _ M, hR⟩) | (rw [op_count, sp_sw_n (by decide) (by decide)]; exact ⟨rfl, pk_ff.rf _ M, hR⟩)
    · refine pk_swIn (off := 156) (tgt := 157) dX6_count_1 (by decide) (by decide) rfl (by decide) ?_
      refine pk_aload_n dX6_count_157 rfl ?_
      refine pk_getP dX6_count_158 fl_X6_19 rfl (hW.s rfl) (hW.p rfl) ?_
      refine pk_getN dX6_count_161 fl_X6_157 rfl (hW.s rfl) hP.2.1 ?_
      refine pk_reti dX6_count_164 (by first | rfl | exact pk_nbi _) ?_
      first | (rw [op_count, sp_sw_lo c_1]; exact ⟨rfl, pk_ff.rf _ M, hR⟩) | (rw [op_count, sp_sw_hi c_1]; exact ⟨rfl, pk_ff.rf _ M, hR⟩) | (rw [op_count, sp_sw_n (by decide) (by decide)]; exact ⟨rfl, pk_ff.rf _ M, hR⟩)
