/-! The model: copying, seeing, filming. -/
theorem pm_now.ff {D : Nat → Prop} {L : Nat} {M M1 : pk_M} {A : pk_St} (h : pk_ff D M M1) (hD : ¬ D 104) (hN : pm_now L M A) : pm_now L M1 A := ⟨h.wf hN.1, fun j hj => (h.I hD _).trans (hN.2.1 j hj), hN.2.2⟩
theorem pm_ll {a b m : Nat} (ha : a < 2 ^ 31) (hb : b < 2 ^ 31) (hm : m < 2 ^ 31) : (nI m).toInt64 < (nI a).toInt64 + (nI b).toInt64 ↔ m < a + b := by
  rw [nI_l ha, nI_l hb, nI_l hm, lN_add, pk_lLT (by omega) (by omega)]

set_option maxRecDepth 100000 in
set_option maxHeartbeats 4000000 in
theorem e_X7_copy {Γ : pk_T} {M : pk_M} {L : Nat} {X : pk_X} (hR : pk_RM L M X) (hX : pk_okX X) (f i t j n : Int32) : pk_E Γ yX7_copy cX7_copy 7 (some .int) 2 0 0 M [.ref 103, .int f, .int i, .int t, .int j, .int n] (fun r M' => r = some (.int (op_copy X f i t j n).1) ∧ pk_mf M M' ∧ pk_RM L M' (op_copy X f i t j n).2) := by
  have hR0 := hR
  obtain ⟨hW, hA, hU, hK, hTp, hSh⟩ := hR0
  have hok := hX.1
  have hw := hok.1
  have hh := hok.2.1
  have hs := hok.2.2.2.2.2.2.2.1
  have hn6 := hX.2.1.1
  refine pk_meth (own := RX7) (ini := false) [some (.ref 103), some (.int f), some (.int i), some (.int t), some (.int j), some (.int n), none] (by decide +kernel) rfl (by decide +kernel) rfl rfl ?_
  refine pk_iload_n dX7_copy_0 rfl ?_
  refine pk_Si dX7_copy_1 ml_X7_280 yw_X7_isSheet ys_X7_isSheet (e_X7_isSheet _) rfl rfl rfl rfl rfl rfl rfl ?_
  first | refine pk_eqb (tgt := 14) dX7_copy_4 (by decide) (fun c_4 => ?_) (fun c_4 => ?_) | refine pk_eq0N (tgt := 14) dX7_copy_4 (by decide) (by omega) (fun c_4 => ?_) (fun c_4 => ?_) | refine pk_if_eq (tgt := 14) dX7_copy_4 (by decide) (fun c_4 => ?_) (fun c_4 => ?_)
  · refine pk_iconst (v := -1) dX7_copy_14 (by decide) ?_
    refine pk_reti dX7_copy_15 (by first | rfl | exact pk_nbi _) ?_
    rw [op_copy, if_pos]
    · exact ⟨rfl, pk_ff.rf _ M, hR⟩
    · rw [c_4, Bool.false_and]
  · refine pk_iload_n dX7_copy_7 rfl ?_
    refine pk_Si dX7_copy_8 ml_X7_280 yw_X7_isSheet ys_X7_isSheet (e_X7_isSheet _) rfl rfl rfl rfl rfl rfl rfl ?_
    first | refine pk_neb (tgt := 16) dX7_copy_11 (by decide) (fun c_11 => ?_) (fun c_11 => ?_) | refine pk_ne0N (tgt := 16) dX7_copy_11 (by decide) (by omega) (fun c_11 => ?_) (fun c_11 => ?_) | refine pk_if_ne (tgt := 16) dX7_copy_11 (by decide) (fun c_11 => ?_) (fun c_11 => ?_)
    · have c4 := c_4
      have c11 := c_11
      obtain ⟨f, hf4, rfl⟩ := sp_b_of c_4 (by decide)
      obtain ⟨t, ht4, rfl⟩ := sp_b_of c_11 (by decide)
      rw [op_copy, if_neg (by rw [c4, c11]; decide), nI_clamp (show f < 2 ^ 31 by omega), nI_clamp (show t < 2 ^ 31 by omega)]
      have hXf := hX.2.2.2.2 f hf4
      have hXt := hX.2.2.2.2 t ht4
      have hPf := hSh f hf4
      have hPt := hSh t ht4
      have hlf := hPf.1
      have hlt := hPt.1
      cases hbf : (X.2.2.2.2 f).1 with
      | false =>
        rw [hbf, if_neg (by decide)] at hlf
        rw [if_pos (Or.inl rfl)]
        refine pk_aload_n dX7_copy_16 rfl ?_
        refine pk_getP dX7_copy_17 fl_X7_44 rfl (hW.s rfl) (hW.p rfl) ?_
        refine pk_iload_n dX7_copy_20 rfl ?_
        refine pk_aldV dX7_copy_21 (hW.s rfl) (by omega) (by omega) hlf ?_
        refine pk_if_lt (tgt := 34) dX7_copy_22 (by decide) (fun c_22 => ?_) (fun c_22 => ?_)
        · refine pk_bipush (v := -11) dX7_copy_34 (by decide) ?_
          refine pk_reti dX7_copy_36 (by first | rfl | exact pk_nbi _) ?_
          exact ⟨rfl, pk_ff.rf _ M, hR⟩
        · exact absurd (by decide) c_22
      | true =>
        rw [hbf, if_pos rfl] at hlf
        cases hbt : (X.2.2.2.2 t).1 with
        | false =>
          rw [hbt, if_neg (by decide)] at hlt
          rw [if_pos (Or.inr rfl)]
          refine pk_aload_n dX7_copy_16 rfl ?_
          refine pk_getP dX7_copy_17 fl_X7_44 rfl (hW.s rfl) (hW.p rfl) ?_
          refine pk_iload_n dX7_copy_20 rfl ?_
          refine pk_aldV dX7_copy_21 (hW.s rfl) (by omega) (by omega) hlf ?_
          refine pk_if_lt (tgt := 34) dX7_copy_22 (by decide) (fun c_22 => ?_) (fun c_22 => ?_)
          · exact absurd c_22 (nI_pos (by omega))
          · refine pk_aload_n dX7_copy_25 rfl ?_
            refine pk_getP dX7_copy_26 fl_X7_44 rfl (hW.s rfl) (hW.p rfl) ?_
            refine pk_iload_n dX7_copy_29 rfl ?_
            refine pk_aldV dX7_copy_30 (hW.s rfl) (by omega) (by omega) hlt ?_
            refine pk_if_ge (tgt := 37) dX7_copy_31 (by decide) (fun c_31 => ?_) (fun c_31 => ?_)
            · exact absurd c_31 (by decide)
            · refine pk_bipush (v := -11) dX7_copy_34 (by decide) ?_
              refine pk_reti dX7_copy_36 (by first | rfl | exact pk_nbi _) ?_
              exact ⟨rfl, pk_ff.rf _ M, hR⟩
        | true =>
          rw [hbt, if_pos rfl] at hlt
          rw [if_neg (fun h => h.elim (fun z => by cases z) (fun z => by cases z))]
          refine pk_aload_n dX7_copy_16 rfl ?_
          refine pk_getP dX7_copy_17 fl_X7_44 rfl (hW.s rfl) (hW.p rfl) ?_
          refine pk_iload_n dX7_copy_20 rfl ?_
          refine pk_aldV dX7_copy_21 (hW.s rfl) (by omega) (by omega) hlf ?_
          refine pk_if_lt (tgt := 34) dX7_copy_22 (by decide) (fun c_22 => ?_) (fun c_22 => ?_)
          · exact absurd c_22 (nI_pos (by omega))
          · refine pk_aload_n dX7_copy_25 rfl ?_
            refine pk_getP dX7_copy_26 fl_X7_44 rfl (hW.s rfl) (hW.p rfl) ?_
            refine pk_iload_n dX7_copy_29 rfl ?_
            refine pk_aldV dX7_copy_30 (hW.s rfl) (by omega) (by omega) hlt ?_
            refine pk_if_ge (tgt := 37) dX7_copy_31 (by decide) (fun c_31 => ?_) (fun c_31 => ?_)
            · refine pk_aload_n dX7_copy_37 rfl ?_
              refine pk_getP dX7_copy_38 fl_X7_44 rfl (hW.s rfl) (hW.p rfl) ?_
              refine pk_iload_n dX7_copy_41 rfl ?_
              refine pk_aldV dX7_copy_42 (hW.s rfl) (by omega) (by omega) hlf ?_
              refine pk_aload_n dX7_copy_43 rfl ?_
              refine pk_getP dX7_copy_44 fl_X7_44 rfl (hW.s rfl) (hW.p rfl) ?_
              refine pk_iload_n dX7_copy_47 rfl ?_
              refine pk_aldV dX7_copy_48 (hW.s rfl) (by omega) (by omega) hlt ?_
              refine pk_eqN (tgt := 55) dX7_copy_49 (by decide) (by omega) (by omega) (fun c_49 => ?_) (fun c_49 => ?_)
              · rw [if_neg (fun h => h c_49)]
                refine pk_iload dX7_copy_55 rfl ?_
                refine pk_if_lt (tgt := 104) dX7_copy_57 (by decide) (fun c_57 => ?_) (fun c_57 => ?_)
                · refine pk_bipush (v := -13) dX7_copy_104 (by decide) ?_
                  refine pk_reti dX7_copy_106 (by first | rfl | exact pk_nbi _) ?_
                  rw [if_pos (by rw [sp_has_m c_57, Bool.false_and])]
                  exact ⟨rfl, pk_ff.rf _ M, hR⟩
                · obtain ⟨b, hb, rfl⟩ := nI_of c_57
                  refine pk_iload_n dX7_copy_60 rfl ?_
                  refine pk_if_lt (tgt := 104) dX7_copy_61 (by decide) (fun c_61 => ?_) (fun c_61 => ?_)
                  · refine pk_bipush (v := -13) dX7_copy_104 (by decide) ?_
                    refine pk_reti dX7_copy_106 (by first | rfl | exact pk_nbi _) ?_
                    rw [if_pos (by rw [sp_has_i c_61, Bool.false_and])]
                    exact ⟨rfl, pk_ff.rf _ M, hR⟩
                  · obtain ⟨a, ha, rfl⟩ := nI_of c_61
                    refine pk_iload dX7_copy_64 rfl ?_
                    refine pk_if_lt (tgt := 104) dX7_copy_66 (by decide) (fun c_66 => ?_) (fun c_66 => ?_)
                    · refine pk_bipush (v := -13) dX7_copy_104 (by decide) ?_
                      refine pk_reti dX7_copy_106 (by first | rfl | exact pk_nbi _) ?_
                      rw [if_pos (by rw [sp_has_i c_66, Bool.and_false])]
                      exact ⟨rfl, pk_ff.rf _ M, hR⟩
                    · obtain ⟨c, hc, rfl⟩ := nI_of c_66
                      refine pk_iload_n dX7_copy_69 rfl ?_
                      refine pk_i2l dX7_copy_70 ?_
                      refine pk_iload dX7_copy_71 rfl ?_
                      refine pk_i2l dX7_copy_73 ?_
                      refine pk_ladd dX7_copy_74 ?_
                      refine pk_aload_n dX7_copy_75 rfl ?_
                      refine pk_getP dX7_copy_76 fl_X7_47 rfl (hW.s rfl) (hW.p rfl) ?_
                      refine pk_iload_n dX7_copy_79 rfl ?_
                      refine pk_aldN dX7_copy_80 (hW.s rfl) (by omega) (by omega) hPf.2.1 ?_
                      refine pk_i2l dX7_copy_81 ?_
                      refine pk_lcmp dX7_copy_82 ?_
                      refine pk_if_gt (tgt := 104) dX7_copy_83 (by decide) (fun c_83 => ?_) (fun c_83 => ?_)
                      · refine pk_bipush (v := -13) dX7_copy_104 (by decide) ?_
                        refine pk_reti dX7_copy_106 (by first | rfl | exact pk_nbi _) ?_
                        have h83 := (pm_ll ha hb (show _ < 2 ^ 31 by omega)).mp ((pk_lcmp2 _ _).mp c_83)
                        rw [if_pos (by rw [sp_has_n hXf.2 ha hb, decide_eq_false (by omega), Bool.false_and])]
                        exact ⟨rfl, pk_ff.rf _ M, hR⟩
                      · refine pk_iload dX7_copy_86 rfl ?_
                        refine pk_i2l dX7_copy_88 ?_
                        refine pk_iload dX7_copy_89 rfl ?_
                        refine pk_i2l dX7_copy_91 ?_
                        refine pk_ladd dX7_copy_92 ?_
                        refine pk_aload_n dX7_copy_93 rfl ?_
                        refine pk_getP dX7_copy_94 fl_X7_47 rfl (hW.s rfl) (hW.p rfl) ?_
                        refine pk_iload_n dX7_copy_97 rfl ?_
                        refine pk_aldN dX7_copy_98 (hW.s rfl) (by omega) (by omega) hPt.2.1 ?_
                        refine pk_i2l dX7_copy_99 ?_
                        refine pk_lcmp dX7_copy_100 ?_
                        refine pk_if_le (tgt := 107) dX7_copy_101 (by decide) (fun c_101 => ?_) (fun c_101 => ?_)
                        · have h83 : ¬ _ < a + b := fun h => c_83 ((pk_lcmp2 _ _).mpr ((pm_ll ha hb (show _ < 2 ^ 31 by omega)).mpr h))
                          have h101 : ¬ _ < c + b := fun h => Int32.not_lt.mpr c_101 ((pk_lcmp2 _ _).mpr ((pm_ll hc hb (show _ < 2 ^ 31 by omega)).mpr h))
                          rw [if_neg (by rw [sp_has_n hXf.2 ha hb, sp_has_n hXt.2 hc hb, decide_eq_true (by omega), decide_eq_true (by omega)]; decide), nI_clamp ha, nI_clamp hc, nI_clamp hb]
                          refine pk_iconst (v := nI 0) dX7_copy_107 (by decide) ?_
                          refine pk_istore dX7_copy_108 rfl rfl ?_
                          have hb24 : a + b ≤ 24 ∧ c + b ≤ 24 := by
                            have := hXf.2
                            have := hXt.2
                            omega
                          refine pk_wf (fun z => b - z.1) (fun z : Nat × pk_M => z.1 ≤ b ∧ pk_ff (fun q => q = 117) M z.2 ∧ ∀ q, q < z.1 → pk_J z.2 117 q = pk_J M 116 (24 * f + a + q)) (fun z => z.2) (fun z => [some (.ref 103), some (.int (nI f)), some (.int (nI a)), some (.int (nI t)), some (.int (nI c)), some (.int (nI b)), some (.int (nI z.1))]) ?_ (0, M) ⟨Nat.zero_le _, pk_ff.rf _ _, fun q hq => absurd hq (Nat.not_lt_zero q)⟩
                          rintro ⟨k, N1⟩ ⟨hk, hF1, hm⟩ K
                          dsimp only at hk hF1 hm K ⊢
                          have hW1 := hF1.wf hW
                          refine pk_iload dX7_copy_110 rfl ?_
                          refine pk_iload dX7_copy_112 rfl ?_
                          first | refine pk_geN (tgt := 144) dX7_copy_114 (by decide) (by omega) (by omega) (fun c_114 => ?_) (fun c_114 => ?_) | refine pk_icmp_ge (tgt := 144) dX7_copy_114 (by decide) (fun c_114 => ?_) (fun c_114 => ?_)
                          · refine pk_iconst (v := nI 0) dX7_copy_144 (by decide) ?_
                            refine pk_istore dX7_copy_145 rfl rfl ?_
                            have hkb : k = b := by omega
                            subst hkb
                            refine pk_lsq (ls' := [some (.ref 103), some (.int (nI f)), some (.int (nI a)), some (.int (nI t)), some (.int (nI c)), some (.int (nI k)), some (.int (nI 0))]) rfl ?_
                            refine pk_wf (fun z => k - z.1) (fun z : Nat × pk_M => z.1 ≤ k ∧ pk_ff (fun q => q = 116) N1 z.2 ∧ ∀ p, pk_J z.2 116 p = (if 24 * t + c ≤ p ∧ p < 24 * t + c + z.1 then pk_J M 116 (24 * f + a + (p - (24 * t + c))) else pk_J M 116 p)) (fun z => z.2) (fun z => [some (.ref 103), some (.int (nI f)), some (.int (nI a)), some (.int (nI t)), some (.int (nI c)), some (.int (nI k)), some (.int (nI z.1))]) ?_ (0, N1) ⟨Nat.zero_le _, pk_ff.rf _ _, fun p => by rw [if_neg (by dsimp only; omega)]; exact hF1.J (by omega) p⟩
                            rintro ⟨i, N2⟩ ⟨hi, hF2, hv⟩ K
                            dsimp only at hi hF2 hv K ⊢
                            have hW2 := hF2.wf hW1
                            refine pk_iload dX7_copy_147 rfl ?_
                            refine pk_iload dX7_copy_149 rfl ?_
                            first | refine pk_geN (tgt := 182) dX7_copy_151 (by decide) (by omega) (by omega) (fun c_151 => ?_) (fun c_151 => ?_) | refine pk_icmp_ge (tgt := 182) dX7_copy_151 (by decide) (fun c_151 => ?_) (fun c_151 => ?_)
                            · refine pk_iload dX7_copy_182 rfl ?_
                              refine pk_reti dX7_copy_184 (by first | rfl | exact pk_nbi _) ?_
                              have hik : i = k := by omega
                              subst hik
                              have hit : pm_it M N2 t := ⟨(hF1.mono (fun q h => by omega)).tr (hF2.mono (fun q h => by omega)), fun p hp => (hv p).trans (if_neg (by omega))⟩
                              have hRM := hR.it hit ht4 (f := fun x => if c ≤ x ∧ x < c + i then (X.2.2.2.2 f).2.2.2 (a + (x - c)) else (X.2.2.2.2 t).2.2.2 x) (fun x hx => by
                                rw [hv]
                                by_cases h : c ≤ x ∧ x < c + i
                                · rw [if_pos (by omega), if_pos h, show 24 * f + a + (24 * t + x - (24 * t + c)) = 24 * f + (a + (x - c)) by omega]
                                  exact hPf.2.2 _ (by omega)
                                · rw [if_neg (by omega), if_neg h]
                                  exact hPt.2.2 x hx)
                              rw [hbt] at hRM
                              exact ⟨rfl, hit.1.mono (fun q h => by omega), hRM⟩
                            · refine pk_aload_n dX7_copy_154 rfl ?_
                              refine pk_getP dX7_copy_155 fl_X7_50 rfl (hW2.s rfl) (hW2.p rfl) ?_
                              refine pk_bipush (v := nI 24) dX7_copy_158 (by decide) ?_
                              refine pk_iload_n dX7_copy_160 rfl ?_
                              first | refine pk_mulN dX7_copy_161 ?_ | refine pk_imul dX7_copy_161 ?_
                              refine pk_iload dX7_copy_162 rfl ?_
                              first | refine pk_addN dX7_copy_164 ?_ | refine pk_iadd dX7_copy_164 ?_
                              refine pk_iload dX7_copy_165 rfl ?_
                              first | refine pk_addN dX7_copy_167 ?_ | refine pk_iadd dX7_copy_167 ?_
                              refine pk_aload_n dX7_copy_168 rfl ?_
                              refine pk_getP dX7_copy_169 fl_X7_54 rfl (hW2.s rfl) (hW2.p rfl) ?_
                              refine pk_iload dX7_copy_172 rfl ?_
                              refine pk_laV dX7_copy_174 (hW2.s rfl) (by omega) (by omega) (by omega) ((hF2.J (by omega) i).trans (hm i (by omega))) ?_
                              refine pk_lasN dX7_copy_175 (hW2.s rfl) (by omega) (by omega) (by omega) ?_
                              first | refine pk_inc1 dX7_copy_176 rfl rfl ?_ | refine pk_iinc dX7_copy_176 rfl rfl rfl ?_
                              refine pk_goto (tgt := 147) dX7_copy_179 (by decide) ?_
                              exact K (i + 1, _) ⟨by dsimp only; omega, hF2.tr (pk_ff.sJ rfl), fun p => by
                                dsimp only
                                by_cases e : p = 24 * t + c + i
                                · rw [if_pos (by omega), e, show 24 * t + c + i - (24 * t + c) = i by omega]
                                  exact pk_gJ1 rfl rfl rfl
                                · refine pk_gJ0 (by omega) ((hv p).trans ?_)
                                  by_cases h : 24 * t + c ≤ p ∧ p < 24 * t + c + i
                                  · rw [if_pos h, if_pos (by omega)]
                                  · rw [if_neg h, if_neg (by omega)]⟩ (by dsimp only; omega)
                          · refine pk_aload_n dX7_copy_117 rfl ?_
                            refine pk_getP dX7_copy_118 fl_X7_54 rfl (hW1.s rfl) (hW1.p rfl) ?_
                            refine pk_iload dX7_copy_121 rfl ?_
                            refine pk_aload_n dX7_copy_123 rfl ?_
                            refine pk_getP dX7_copy_124 fl_X7_50 rfl (hW1.s rfl) (hW1.p rfl) ?_
                            refine pk_bipush (v := nI 24) dX7_copy_127 (by decide) ?_
                            refine pk_iload_n dX7_copy_129 rfl ?_
                            first | refine pk_mulN dX7_copy_130 ?_ | refine pk_imul dX7_copy_130 ?_
                            refine pk_iload_n dX7_copy_131 rfl ?_
                            first | refine pk_addN dX7_copy_132 ?_ | refine pk_iadd dX7_copy_132 ?_
                            refine pk_iload dX7_copy_133 rfl ?_
                            first | refine pk_addN dX7_copy_135 ?_ | refine pk_iadd dX7_copy_135 ?_
                            refine pk_laV dX7_copy_136 (hW1.s rfl) (by omega) (by omega) (by omega) (hF1.J (by omega) _) ?_
                            refine pk_lasN dX7_copy_137 (hW1.s rfl) (by omega) (by omega) (by omega) ?_
                            first | refine pk_inc1 dX7_copy_138 rfl rfl ?_ | refine pk_iinc dX7_copy_138 rfl rfl rfl ?_
                            refine pk_goto (tgt := 110) dX7_copy_141 (by decide) ?_
                            exact K (k + 1, _) ⟨by dsimp only; omega, hF1.tr (pk_ff.sJ rfl), fun q hq => by
                              dsimp only at hq
                              by_cases e : q = k
                              · subst e
                                exact pk_gJ1 rfl rfl rfl
                              · exact pk_gJ0 (by omega) (hm q (by omega))⟩ (by dsimp only; omega)
                        · refine pk_bipush (v := -13) dX7_copy_104 (by decide) ?_
                          refine pk_reti dX7_copy_106 (by first | rfl | exact pk_nbi _) ?_
                          have h101 := (pm_ll hc hb (show _ < 2 ^ 31 by omega)).mp ((pk_lcmp2 _ _).mp (Int32.not_le.mp c_101))
                          rw [if_pos (by rw [sp_has_n hXt.2 hc hb, decide_eq_false (by omega), Bool.and_false])]
                          exact ⟨rfl, pk_ff.rf _ M, hR⟩
              · refine pk_bipush (v := -12) dX7_copy_52 (by decide) ?_
                refine pk_reti dX7_copy_54 (by first | rfl | exact pk_nbi _) ?_
                rw [if_pos c_49]
                exact ⟨rfl, pk_ff.rf _ M, hR⟩
            · exact absurd (nI_pos' (by omega)) c_31
    · refine pk_iconst (v := -1) dX7_copy_14 (by decide) ?_
      refine pk_reti dX7_copy_15 (by first | rfl | exact pk_nbi _) ?_
      rw [op_copy, if_pos]
      · exact ⟨rfl, pk_ff.rf _ M, hR⟩
      · rw [c_11, Bool.and_false]

theorem pm_kk2 {A : pk_St} (hA : pk_okS A) {i kd : Nat} (hi : i < 5) (hk : kd < 4) : ∀ j, j < 5 → sp_kk A i kd j < 4 ∧ (if nI j = nI i then nI kd else nI (sp_k A j)) = nI (sp_kk A i kd j) := by
  intro j hj
  unfold sp_kk
  by_cases e : j = i
  · rw [if_pos e, if_pos (by rw [e])]
    exact ⟨hk, rfl⟩
  · rw [if_neg e, if_neg (fun z => e ((nI_eq (by omega) (by omega)).mp z))]
    exact ⟨hA.2.2.2.1 j hj, rfl⟩

set_option maxRecDepth 100000 in
set_option maxHeartbeats 4000000 in
theorem e_X7_isSo {Γ : pk_T} {M : pk_M} {L : Nat} {A : pk_St} (hN : pm_now L M A) {f : Nat → Int64} {B a n i kd : Nat} (hi : i < 5) (hkd : kd < 4) (hB : B + 2 * n ≤ 96) (hI : ∀ q, q < n → pk_J M 116 (B + 2 * q) = f (a + 2 * q) ∧ pk_J M 116 (B + 2 * q + 1) = f (a + 2 * q + 1)) (hts : ∀ q, q < n → sp_iss (f (a + 2 * q)) = true) : pk_E Γ yX7_isSo cX7_isSo 7 (some .boolean) 3 0 0 M [.ref 103, .int (nI i), .int (nI kd), .int (nI B), .int (nI n)] (fun r M' => r = some (.int (pk_bi (sp_lt2 (sp_kk A i kd) A f a n))) ∧ M' = M) := by
  obtain ⟨hW, hA, hok⟩ := hN
  have hw := hok.1
  have hh := hok.2.1
  have hs := hok.2.2.2.2.2.2.2.1
  refine pk_meth (own := RX7) (ini := false) [some (.ref 103), some (.int (nI i)), some (.int (nI kd)), some (.int (nI B)), some (.int (nI n)), none, none] (by decide +kernel) rfl (by decide +kernel) rfl rfl ?_
  have hfl := sp_fig_lt hok.2.2.2.2.2.1
  refine pk_iconst (v := nI 1) dX7_isSo_0 (by decide) ?_
  refine pk_istore dX7_isSo_1 rfl rfl ?_
  refine pk_iconst (v := nI 0) dX7_isSo_3 (by decide) ?_
  refine pk_istore dX7_isSo_4 rfl rfl ?_
  refine pk_for n (fun _ => M) (fun j => [some (.ref 103), some (.int (nI i)), some (.int (nI kd)), some (.int (nI B)), some (.int (nI n)), some (.int (pk_bi (!sp_any (fun q => !((nI (sp_look (sp_kk A i kd) (sp_t A) (sp_o A) ((f (a + 2 * q)).toInt32.toNatClampNeg))).toInt64 == f (a + 2 * q + 1))) j))), some (.int (nI j))]) ?_ ?_ 0 (by omega)
  · intro j hj K
    obtain ⟨s, hs32, hse⟩ := sp_iss_of (hts j hj)
    refine pk_iload dX7_isSo_6 rfl ?_
    refine pk_iload dX7_isSo_8 rfl ?_
    first | refine pk_geN (tgt := 73) dX7_isSo_10 (by decide) (by omega) (by omega) (fun c_10 => ?_) (fun c_10 => ?_) | refine pk_icmp_ge (tgt := 73) dX7_isSo_10 (by decide) (fun c_10 => ?_) (fun c_10 => ?_)
    · omega
    · refine pk_iload dX7_isSo_13 rfl ?_
      refine pk_eqb (tgt := 73) dX7_isSo_15 (by decide) (fun c_15 => ?_) (fun c_15 => ?_)
      · refine pk_iload dX7_isSo_73 rfl ?_
        refine pk_reti dX7_isSo_75 (by first | rfl | exact pk_nbi _) ?_
        refine ⟨?_, rfl⟩
        have h1 : sp_any (fun q => !((nI (sp_look (sp_kk A i kd) (sp_t A) (sp_o A) ((f (a + 2 * q)).toInt32.toNatClampNeg))).toInt64 == f (a + 2 * q + 1))) j = true := by simpa using c_15
        obtain ⟨q, hq, h2⟩ := sp_any_iff.mp h1
        unfold sp_lt2
        rw [h1, sp_any_true (f := (fun q => !((nI (sp_look (sp_kk A i kd) (sp_t A) (sp_o A) ((f (a + 2 * q)).toInt32.toNatClampNeg))).toInt64 == f (a + 2 * q + 1)))) (n := n) (show q < n by omega) h2]
      · refine pk_aload_n dX7_isSo_18 rfl ?_
        refine pk_aload_n dX7_isSo_19 rfl ?_
        refine pk_getP dX7_isSo_20 fl_X7_50 rfl (hW.s rfl) (hW.p rfl) ?_
        refine pk_iload_n dX7_isSo_23 rfl ?_
        refine pk_iconst (v := nI 2) dX7_isSo_24 (by decide) ?_
        refine pk_iload dX7_isSo_25 rfl ?_
        first | refine pk_mulN dX7_isSo_27 ?_ | refine pk_imul dX7_isSo_27 ?_
        first | refine pk_addN dX7_isSo_28 ?_ | refine pk_iadd dX7_isSo_28 ?_
        refine pk_laV dX7_isSo_29 (hW.s rfl) (by omega) (by omega) (by omega) (hI j hj).1 ?_
        refine pk_l2i dX7_isSo_30 ?_
        rw [hse]
        refine pk_aload_n dX7_isSo_31 rfl ?_
        refine pk_getP dX7_isSo_32 fl_X7_7 rfl (hW.s rfl) (hW.p rfl) ?_
        refine pk_iconst (v := nI 3) dX7_isSo_35 (by decide) ?_
        refine pk_aldN dX7_isSo_36 (hW.s rfl) (by omega) (by omega) hA.o ?_
        refine pk_iload_n dX7_isSo_37 rfl ?_
        refine pk_iload_n dX7_isSo_38 rfl ?_
        refine pk_Vi dX7_isSo_39 ml_X7_80 yw_X7_lookBy yv_X7_lookBy (hW.s rfl) (e_X7_lookBy ⟨hW, hA, hok⟩ hs32 (by omega) (sp_fig_d5 hok) (pm_kk2 hok hi hkd)) rfl rfl rfl rfl rfl rfl rfl ?_
        rw [sp_look_fig hok]
        refine pk_i2l dX7_isSo_42 ?_
        refine pk_aload_n dX7_isSo_43 rfl ?_
        refine pk_getP dX7_isSo_44 fl_X7_50 rfl (hW.s rfl) (hW.p rfl) ?_
        refine pk_iload_n dX7_isSo_47 rfl ?_
        refine pk_iconst (v := nI 2) dX7_isSo_48 (by decide) ?_
        refine pk_iload dX7_isSo_49 rfl ?_
        first | refine pk_mulN dX7_isSo_51 ?_ | refine pk_imul dX7_isSo_51 ?_
        first | refine pk_addN dX7_isSo_52 ?_ | refine pk_iadd dX7_isSo_52 ?_
        refine pk_iconst (v := nI 1) dX7_isSo_53 (by decide) ?_
        first | refine pk_addN dX7_isSo_54 ?_ | refine pk_iadd dX7_isSo_54 ?_
        refine pk_laV dX7_isSo_55 (hW.s rfl) (by omega) (by omega) (by omega) (hI j hj).2 ?_
        refine pk_lcmp dX7_isSo_56 ?_
        refine pk_if_ne (tgt := 64) dX7_isSo_57 (by decide) (fun c_57 => ?_) (fun c_57 => ?_)
        · refine pk_iconst (v := nI 0) dX7_isSo_64 (by decide) ?_
          refine pk_istore dX7_isSo_65 rfl rfl ?_
          first | refine pk_inc1 dX7_isSo_67 rfl rfl ?_ | refine pk_iinc dX7_isSo_67 rfl rfl rfl ?_
          refine pk_goto (tgt := 6) dX7_isSo_70 (by decide) ?_
          have e1 : (!sp_any (fun q => !((nI (sp_look (sp_kk A i kd) (sp_t A) (sp_o A) ((f (a + 2 * q)).toInt32.toNatClampNeg))).toInt64 == f (a + 2 * q + 1))) (j + 1)) = false := by
            rw [sp_any_succ, hse, nI_clamp (by omega), beq_eq_false_iff_ne.mpr (fun h => c_57 ((pk_lcmp1 _ _).mpr h))]
            simp
          rw [e1] at K
          exact K
        · refine pk_iconst (v := nI 1) dX7_isSo_60 (by decide) ?_
          refine pk_goto (tgt := 65) dX7_isSo_61 (by decide) ?_
          refine pk_istore dX7_isSo_65 rfl rfl ?_
          first | refine pk_inc1 dX7_isSo_67 rfl rfl ?_ | refine pk_iinc dX7_isSo_67 rfl rfl rfl ?_
          refine pk_goto (tgt := 6) dX7_isSo_70 (by decide) ?_
          have e1 : (!sp_any (fun q => !((nI (sp_look (sp_kk A i kd) (sp_t A) (sp_o A) ((f (a + 2 * q)).toInt32.toNatClampNeg))).toInt64 == f (a + 2 * q + 1))) (j + 1)) = true := by
            rw [sp_any_succ, hse, nI_clamp (by omega), beq_iff_eq.mpr ((pk_lcmp1 _ _).mp c_57), Bool.not_true, Bool.or_false]
            exact c_15
          rw [e1] at K
          exact K
  · refine pk_iload dX7_isSo_6 rfl ?_
    refine pk_iload dX7_isSo_8 rfl ?_
    first | refine pk_geN (tgt := 73) dX7_isSo_10 (by decide) (by omega) (by omega) (fun c_10 => ?_) (fun c_10 => ?_) | refine pk_icmp_ge (tgt := 73) dX7_isSo_10 (by decide) (fun c_10 => ?_) (fun c_10 => ?_)
    · refine pk_iload dX7_isSo_73 rfl ?_
      refine pk_reti dX7_isSo_75 (by first | rfl | exact pk_nbi _) ?_
      exact ⟨rfl, rfl⟩
    · omega

set_option maxRecDepth 100000 in
set_option maxHeartbeats 4000000 in
theorem e_X7_seen {Γ : pk_T} {M : pk_M} {L : Nat} {X : pk_X} (hR : pk_RM L M X) (hX : pk_okX X) (k s l i n : Int32) : pk_E Γ yX7_seen cX7_seen 10 (some .int) 4 0 0 M [.ref 103, .int k, .int s, .int l, .int i, .int n] (fun r M' => r = some (.int (op_seen X k s l i n)) ∧ pk_mf M M' ∧ pk_RM L M' X) := by
  have hR0 := hR
  obtain ⟨hW, hA, hU, hK, hTp, hSh⟩ := hR0
  have hok := hX.1
  have hw := hok.1
  have hh := hok.2.1
  have hs := hok.2.2.2.2.2.2.2.1
  have hn6 := hX.2.1.1
  refine pk_meth (own := RX7) (ini := false) [some (.ref 103), some (.int k), some (.int s), some (.int l), some (.int i), some (.int n), none, none, none, none] (by decide +kernel) rfl (by decide +kernel) rfl rfl ?_
  refine pk_iload_n dX7_seen_0 rfl ?_
  refine pk_Si dX7_seen_1 ml_X7_130 yw_X7_isInk ys_X7_isInk (e_X7_isInk _) rfl rfl rfl rfl rfl rfl rfl ?_
  first | refine pk_eqb (tgt := 39) dX7_seen_4 (by decide) (fun c_4 => ?_) (fun c_4 => ?_) | refine pk_eq0N (tgt := 39) dX7_seen_4 (by decide) (by omega) (fun c_4 => ?_) (fun c_4 => ?_) | refine pk_if_eq (tgt := 39) dX7_seen_4 (by decide) (fun c_4 => ?_) (fun c_4 => ?_)
  · refine pk_iconst (v := -1) dX7_seen_39 (by decide) ?_
    refine pk_reti dX7_seen_40 (by first | rfl | exact pk_nbi _) ?_
    rw [op_seen, if_pos (by rw [c_4, Bool.false_and, Bool.false_and, Bool.false_and])]
    exact ⟨rfl, pk_ff.rf _ M, hR⟩
  · refine pk_iload_n dX7_seen_7 rfl ?_
    refine pk_Si dX7_seen_8 ml_X7_280 yw_X7_isSheet ys_X7_isSheet (e_X7_isSheet _) rfl rfl rfl rfl rfl rfl rfl ?_
    first | refine pk_eqb (tgt := 39) dX7_seen_11 (by decide) (fun c_11 => ?_) (fun c_11 => ?_) | refine pk_eq0N (tgt := 39) dX7_seen_11 (by decide) (by omega) (fun c_11 => ?_) (fun c_11 => ?_) | refine pk_if_eq (tgt := 39) dX7_seen_11 (by decide) (fun c_11 => ?_) (fun c_11 => ?_)
    · refine pk_iconst (v := -1) dX7_seen_39 (by decide) ?_
      refine pk_reti dX7_seen_40 (by first | rfl | exact pk_nbi _) ?_
      rw [op_seen, if_pos (by rw [c_11, Bool.false_and, Bool.and_false, Bool.false_and, Bool.false_and])]
      exact ⟨rfl, pk_ff.rf _ M, hR⟩
    · refine pk_iload_n dX7_seen_14 rfl ?_
      refine pk_i2l dX7_seen_15 ?_
      refine pk_lconst (v := 0) dX7_seen_16 (by decide) ?_
      refine pk_ldc2 dX7_seen_17 kc_X7_210 ?_
      refine pk_Si dX7_seen_20 ml_X7_59 yw_X7_in ys_X7_in (e_X7_inB _ (N := 3) (by omega) (by decide)) rfl rfl rfl rfl rfl rfl rfl ?_
      first | refine pk_eqb (tgt := 39) dX7_seen_23 (by decide) (fun c_23 => ?_) (fun c_23 => ?_) | refine pk_eq0N (tgt := 39) dX7_seen_23 (by decide) (by omega) (fun c_23 => ?_) (fun c_23 => ?_) | refine pk_if_eq (tgt := 39) dX7_seen_23 (by decide) (fun c_23 => ?_) (fun c_23 => ?_)
      · refine pk_iconst (v := -1) dX7_seen_39 (by decide) ?_
        refine pk_reti dX7_seen_40 (by first | rfl | exact pk_nbi _) ?_
        rw [op_seen, if_pos (by rw [show sp_b l 4 = false from c_23, Bool.and_false, Bool.and_false, Bool.false_and, Bool.false_and])]
        exact ⟨rfl, pk_ff.rf _ M, hR⟩
      · refine pk_iload dX7_seen_26 rfl ?_
        refine pk_i2l dX7_seen_28 ?_
        refine pk_lconst (v := 1) dX7_seen_29 (by decide) ?_
        refine pk_ldc2 dX7_seen_30 kc_X7_222 ?_
        refine pk_Si dX7_seen_33 ml_X7_59 yw_X7_in ys_X7_in (e_X7_inI _ (lo := nI 1) (hi := nI 6) (by decide) (by decide)) rfl rfl rfl rfl rfl rfl rfl ?_
        first | refine pk_neb (tgt := 41) dX7_seen_36 (by decide) (fun c_36 => ?_) (fun c_36 => ?_) | refine pk_ne0N (tgt := 41) dX7_seen_36 (by decide) (by omega) (fun c_36 => ?_) (fun c_36 => ?_) | refine pk_if_ne (tgt := 41) dX7_seen_36 (by decide) (fun c_36 => ?_) (fun c_36 => ?_)
        · have c4 := c_4
          have c11 := c_11
          have c23 := c_23
          have c36 := c_36
          rw [Bool.and_eq_true, decide_eq_true_eq, decide_eq_true_eq] at c36
          obtain ⟨n, hn0, rfl, hn1⟩ := pm_1le c36.1
          have hn6' := (nI_leI hn0 (by decide)).mp c36.2
          obtain ⟨k, hk5, rfl⟩ := sp_b_of c_4 (by decide)
          obtain ⟨s, hs4, rfl⟩ := sp_b_of c_11 (by decide)
          obtain ⟨l, hl4, rfl⟩ := sp_b_of c_23 (by decide)
          rw [op_seen, if_neg (by rw [Bool.and_assoc, c4, c11, show sp_b (nI l) 4 = true from c23, c_36]; decide), nI_clamp (show s < 2 ^ 31 by omega), nI_clamp (show k < 2 ^ 31 by omega), nI_clamp hn0, pk_nmul]
          have hSs := hX.2.2.2.2 s hs4
          have hPs := hSh s hs4
          refine pk_aload_n dX7_seen_41 rfl ?_
          refine pk_iload_n dX7_seen_42 rfl ?_
          refine pk_iload_n dX7_seen_43 rfl ?_
          refine pk_iload dX7_seen_44 rfl ?_
          refine pk_iconst (v := nI 2) dX7_seen_46 (by decide) ?_
          refine pk_iload dX7_seen_47 rfl ?_
          first | refine pk_mulN dX7_seen_49 ?_ | refine pk_imul dX7_seen_49 ?_
          refine pk_Vi dX7_seen_50 ml_X7_283 yw_X7_why yv_X7_why (hW.s rfl) (e_X7_why (b := 2 * n) hW hPs hs4 hSs.1 hSs.2 (by omega) (by omega) _ _) rfl rfl rfl rfl rfl rfl rfl ?_
          refine pk_istore dX7_seen_53 rfl rfl ?_
          refine pk_iload dX7_seen_55 rfl ?_
          refine pk_if_ge (tgt := 63) dX7_seen_57 (by decide) (fun c_57 => ?_) (fun c_57 => ?_)
          · have hw0 : sp_why (X.2.2.2.2 s) (nI l) i (nI (2 * n)) = 0 := by
              apply Classical.byContradiction
              intro h
              exact Int32.not_lt.mpr c_57 ((sp_why_neg _ _ _ _).mpr h)
            rw [if_neg (fun h => h hw0)]
            obtain ⟨g1, g2, g3⟩ := sp_why_0 hw0
            obtain ⟨a, b, rfl, eb, hab⟩ := sp_has_of hSs.2 g3
            have hm24 := hSs.2
            have hb1 : b = 2 * n := ((nI_eq (by omega) (by omega)).mp eb).symm
            subst hb1
            rw [nI_clamp (show a < 2 ^ 31 by omega)]
            have hIt : ∀ x, x < 24 → pk_J M 116 (24 * s + x) = (X.2.2.2.2 s).2.2.2 x := hPs.2.2
            refine pk_bipush (v := nI 24) dX7_seen_63 (by decide) ?_
            refine pk_iload_n dX7_seen_65 rfl ?_
            first | refine pk_mulN dX7_seen_66 ?_ | refine pk_imul dX7_seen_66 ?_
            refine pk_iload dX7_seen_67 rfl ?_
            first | refine pk_addN dX7_seen_69 ?_ | refine pk_iadd dX7_seen_69 ?_
            refine pk_istore dX7_seen_70 rfl rfl ?_
            refine pk_iconst (v := nI 0) dX7_seen_72 (by decide) ?_
            refine pk_istore dX7_seen_73 rfl rfl ?_
            refine pk_fgt (ls' := [some (.ref 103), some (.int (nI k)), some (.int (nI s)), some (.int (nI l)), some (.int (nI a)), some (.int (nI n)), none, some (.int (nI (24 * s + a))), some (.int (nI 0)), none]) (by repeat first | exact trivial | refine ⟨rfl, ?_⟩) ?_
            refine pk_forJ n (fun j => ∀ q, q < j → sp_iss ((X.2.2.2.2 s).2.2.2 (a + 2 * q)) = true) (fun _ => M) (fun j => [some (.ref 103), some (.int (nI k)), some (.int (nI s)), some (.int (nI l)), some (.int (nI a)), some (.int (nI n)), none, some (.int (nI (24 * s + a))), some (.int (nI j)), none]) ?_ ?_ 0 (by omega) (fun q hq => absurd hq (Nat.not_lt_zero q))
            · intro j hj hts K
              refine pk_iload dX7_seen_75 rfl ?_
              refine pk_iload dX7_seen_77 rfl ?_
              first | refine pk_geN (tgt := 109) dX7_seen_79 (by decide) (by omega) (by omega) (fun c_79 => ?_) (fun c_79 => ?_) | refine pk_icmp_ge (tgt := 109) dX7_seen_79 (by decide) (fun c_79 => ?_) (fun c_79 => ?_)
              · omega
              · refine pk_aload_n dX7_seen_82 rfl ?_
                refine pk_getP dX7_seen_83 fl_X7_50 rfl (hW.s rfl) (hW.p rfl) ?_
                refine pk_iload dX7_seen_86 rfl ?_
                refine pk_iconst (v := nI 2) dX7_seen_88 (by decide) ?_
                refine pk_iload dX7_seen_89 rfl ?_
                first | refine pk_mulN dX7_seen_91 ?_ | refine pk_imul dX7_seen_91 ?_
                first | refine pk_addN dX7_seen_92 ?_ | refine pk_iadd dX7_seen_92 ?_
                refine pk_laV dX7_seen_93 (hW.s rfl) (by omega) (by omega) (by omega) (show pk_J M 116 (24 * s + a + 2 * j) = (X.2.2.2.2 s).2.2.2 (a + 2 * j) by rw [Nat.add_assoc]; exact hIt _ (by omega)) ?_
                refine pk_Si dX7_seen_94 ml_X7_142 yw_X7_isSet ys_X7_isSet (e_X7_isSet _) rfl rfl rfl rfl rfl rfl rfl ?_
                first | refine pk_neb (tgt := 103) dX7_seen_97 (by decide) (fun c_97 => ?_) (fun c_97 => ?_) | refine pk_ne0N (tgt := 103) dX7_seen_97 (by decide) (by omega) (fun c_97 => ?_) (fun c_97 => ?_) | refine pk_if_ne (tgt := 103) dX7_seen_97 (by decide) (fun c_97 => ?_) (fun c_97 => ?_)
                · first | refine pk_inc1 dX7_seen_103 rfl rfl ?_ | refine pk_iinc dX7_seen_103 rfl rfl rfl ?_
                  refine pk_goto (tgt := 75) dX7_seen_106 (by decide) ?_
                  exact K (fun q hq => by
                    by_cases e : q = j
                    · rw [e]; exact c_97
                    · exact hts q (by omega))
                · refine pk_bipush (v := -2) dX7_seen_100 (by decide) ?_
                  refine pk_reti dX7_seen_102 (by first | rfl | exact pk_nbi _) ?_
                  have hno : sp_ts (X.2.2.2.2 s).2.2.2 a n = false := by
                    unfold sp_ts
                    rw [sp_any_true (j := j) hj (by rw [c_97]; rfl)]
                    rfl
                  rw [hno, if_neg (by decide)]
                  exact ⟨rfl, pk_ff.rf _ M, hR⟩
            · intro hts
              have hyes : sp_ts (X.2.2.2.2 s).2.2.2 a n = true := by
                unfold sp_ts
                cases hn : sp_any (fun q => !sp_iss ((X.2.2.2.2 s).2.2.2 (a + 2 * q))) n with
                | false => rfl
                | true =>
                  obtain ⟨q, hq, h2⟩ := sp_any_iff.mp hn
                  rw [hts q hq] at h2
                  cases h2
              rw [hyes, if_pos rfl]
              refine pk_iload dX7_seen_75 rfl ?_
              refine pk_iload dX7_seen_77 rfl ?_
              first | refine pk_geN (tgt := 109) dX7_seen_79 (by decide) (by omega) (by omega) (fun c_79 => ?_) (fun c_79 => ?_) | refine pk_icmp_ge (tgt := 109) dX7_seen_79 (by decide) (fun c_79 => ?_) (fun c_79 => ?_)
              · refine pk_iconst (v := nI 0) dX7_seen_109 (by decide) ?_
                refine pk_istore dX7_seen_110 rfl rfl ?_
                refine pk_iconst (v := nI 0) dX7_seen_112 (by decide) ?_
                refine pk_istore dX7_seen_113 rfl rfl ?_
                refine pk_fgt (ls' := [some (.ref 103), some (.int (nI k)), some (.int (nI s)), some (.int (nI l)), some (.int (nI a)), some (.int (nI n)), none, some (.int (nI (24 * s + a))), some (.int (nI (sp_ksF X.1 k (X.2.2.2.2 s).2.2.2 a n 0))), some (.int (nI 0))]) (by repeat first | exact trivial | refine ⟨rfl, ?_⟩) ?_
                refine pk_for 4 (fun _ => M) (fun j => [some (.ref 103), some (.int (nI k)), some (.int (nI s)), some (.int (nI l)), some (.int (nI a)), some (.int (nI n)), none, some (.int (nI (24 * s + a))), some (.int (nI (sp_ksF X.1 k (X.2.2.2.2 s).2.2.2 a n j))), some (.int (nI j))]) ?_ ?_ 0 (by omega)
                · intro j hj K
                  have e1 : (sp_ksF X.1 k (X.2.2.2.2 s).2.2.2 a n (j + 1)) = if sp_lt2 (sp_kk X.1 k j) X.1 (X.2.2.2.2 s).2.2.2 a n then (sp_ksF X.1 k (X.2.2.2.2 s).2.2.2 a n j) ||| 2 ^ j else (sp_ksF X.1 k (X.2.2.2.2 s).2.2.2 a n j) := rfl
                  have hp2 := pk_p2 (show j < 5 by omega)
                  refine pk_iload dX7_seen_115 rfl ?_
                  refine pk_iconst (v := nI 4) dX7_seen_117 (by decide) ?_
                  first | refine pk_geN (tgt := 154) dX7_seen_118 (by decide) (by omega) (by omega) (fun c_118 => ?_) (fun c_118 => ?_) | refine pk_icmp_ge (tgt := 154) dX7_seen_118 (by decide) (fun c_118 => ?_) (fun c_118 => ?_)
                  · omega
                  · refine pk_iload dX7_seen_121 rfl ?_
                    refine pk_aload_n dX7_seen_123 rfl ?_
                    refine pk_iload_n dX7_seen_124 rfl ?_
                    refine pk_iload dX7_seen_125 rfl ?_
                    refine pk_iload dX7_seen_127 rfl ?_
                    refine pk_iload dX7_seen_129 rfl ?_
                    refine pk_Vi dX7_seen_131 ml_X7_290 yw_X7_isSo yv_X7_isSo (hW.s rfl) (e_X7_isSo (f := (X.2.2.2.2 s).2.2.2) (a := a) ⟨hW, hA, hok⟩ hk5 hj (by omega) (fun q hq => ⟨by rw [Nat.add_assoc]; exact hIt _ (by omega), by rw [Nat.add_assoc, Nat.add_assoc]; exact hIt _ (by omega)⟩) hts) rfl rfl rfl rfl rfl rfl rfl ?_
                    first | refine pk_eqb (tgt := 144) dX7_seen_134 (by decide) (fun c_134 => ?_) (fun c_134 => ?_) | refine pk_eq0N (tgt := 144) dX7_seen_134 (by decide) (by omega) (fun c_134 => ?_) (fun c_134 => ?_) | refine pk_if_eq (tgt := 144) dX7_seen_134 (by decide) (fun c_134 => ?_) (fun c_134 => ?_)
                    · refine pk_iconst (v := nI 0) dX7_seen_144 (by decide) ?_
                      rw [c_134, if_neg (by decide)] at e1
                      first | refine pk_orNN dX7_seen_145 ?_ | refine pk_ior dX7_seen_145 ?_
                      rw [Nat.or_zero]
                      refine pk_istore dX7_seen_146 rfl rfl ?_
                      first | refine pk_inc1 dX7_seen_148 rfl rfl ?_ | refine pk_iinc dX7_seen_148 rfl rfl rfl ?_
                      refine pk_goto (tgt := 115) dX7_seen_151 (by decide) ?_
                      rw [e1] at K
                      exact K
                    · refine pk_iconst (v := nI 1) dX7_seen_137 (by decide) ?_
                      refine pk_iload dX7_seen_138 rfl ?_
                      first | refine pk_shlNN dX7_seen_140 (by omega) ?_ | refine pk_ishl dX7_seen_140 ?_
                      refine pk_goto (tgt := 145) dX7_seen_141 (by decide) ?_
                      rw [c_134, if_pos rfl] at e1
                      first | refine pk_orNN dX7_seen_145 ?_ | refine pk_ior dX7_seen_145 ?_
                      refine pk_istore dX7_seen_146 rfl rfl ?_
                      first | refine pk_inc1 dX7_seen_148 rfl rfl ?_ | refine pk_iinc dX7_seen_148 rfl rfl rfl ?_
                      refine pk_goto (tgt := 115) dX7_seen_151 (by decide) ?_
                      rw [e1] at K
                      exact K
                · refine pk_iload dX7_seen_115 rfl ?_
                  refine pk_iconst (v := nI 4) dX7_seen_117 (by decide) ?_
                  first | refine pk_geN (tgt := 154) dX7_seen_118 (by decide) (by omega) (by omega) (fun c_118 => ?_) (fun c_118 => ?_) | refine pk_icmp_ge (tgt := 154) dX7_seen_118 (by decide) (fun c_118 => ?_) (fun c_118 => ?_)
                  · refine pk_iload dX7_seen_154 rfl ?_
                    refine pk_reti dX7_seen_156 (by first | rfl | exact pk_nbi _) ?_
                    exact ⟨rfl, pk_ff.rf _ M, hR⟩
                  · omega
              · omega
          · refine pk_iload dX7_seen_60 rfl ?_
            refine pk_reti dX7_seen_62 (by first | rfl | exact pk_nbi _) ?_
            rw [if_pos ((sp_why_neg _ _ _ _).mp (Int32.not_le.mp c_57))]
            exact ⟨rfl, pk_ff.rf _ M, hR⟩
        · refine pk_iconst (v := -1) dX7_seen_39 (by decide) ?_
          refine pk_reti dX7_seen_40 (by first | rfl | exact pk_nbi _) ?_
          rw [op_seen, if_pos (by rw [Bool.and_assoc, c_36, Bool.and_false])]
          exact ⟨rfl, pk_ff.rf _ M, hR⟩

set_option maxRecDepth 100000 in
set_option maxHeartbeats 4000000 in
theorem e_X7_film {Γ : pk_T} {M : pk_M} {L : Nat} {X : pk_X} (hR : pk_RM L M X) (hX : pk_okX X) (y s l i : Int32) : pk_E Γ yX7_film cX7_film 7 (some .int) 4 0 0 M [.ref 103, .int y, .int s, .int l, .int i] (fun r M' => r = some (.int (op_film X y s l i).1) ∧ pk_mf M M' ∧ pk_RM L M' (op_film X y s l i).2) := by
  have hR0 := hR
  obtain ⟨hW, hA, hU, hK, hTp, hSh⟩ := hR0
  have hok := hX.1
  have hw := hok.1
  have hh := hok.2.1
  have hs := hok.2.2.2.2.2.2.2.1
  have hn6 := hX.2.1.1
  refine pk_meth (own := RX7) (ini := false) [some (.ref 103), some (.int y), some (.int s), some (.int l), some (.int i), none, none] (by decide +kernel) rfl (by decide +kernel) rfl rfl ?_
  refine pk_iload_n dX7_film_0 rfl ?_
  refine pk_i2l dX7_film_1 ?_
  refine pk_lconst (v := 0) dX7_film_2 (by decide) ?_
  refine pk_aload_n dX7_film_3 rfl ?_
  refine pk_getP dX7_film_4 fl_X7_7 rfl (hW.s rfl) (hW.p rfl) ?_
  refine pk_iconst (v := nI 1) dX7_film_7 (by decide) ?_
  refine pk_aldN dX7_film_8 (hW.s rfl) (by omega) (by omega) hA.h ?_
  refine pk_iconst (v := nI 1) dX7_film_9 (by decide) ?_
  first | refine pk_subN dX7_film_10 (by omega) ?_ | refine pk_isub dX7_film_10 ?_
  refine pk_i2l dX7_film_11 ?_
  refine pk_Si dX7_film_12 ml_X7_59 yw_X7_in ys_X7_in (e_X7_inB _ (N := sp_h X.1 - 1) (by omega) rfl) rfl rfl rfl rfl rfl rfl rfl ?_
  rw [show sp_h X.1 - 1 + 1 = sp_h X.1 by omega]
  first | refine pk_eqb (tgt := 37) dX7_film_15 (by decide) (fun c_15 => ?_) (fun c_15 => ?_) | refine pk_eq0N (tgt := 37) dX7_film_15 (by decide) (by omega) (fun c_15 => ?_) (fun c_15 => ?_) | refine pk_if_eq (tgt := 37) dX7_film_15 (by decide) (fun c_15 => ?_) (fun c_15 => ?_)
  · refine pk_iconst (v := -1) dX7_film_37 (by decide) ?_
    refine pk_reti dX7_film_38 (by first | rfl | exact pk_nbi _) ?_
    rw [op_film, if_pos (by rw [show sp_b y (sp_h X.1) = false from c_15, Bool.false_and])]
    exact ⟨rfl, pk_ff.rf _ M, hR⟩
  · refine pk_iload_n dX7_film_18 rfl ?_
    refine pk_Si dX7_film_19 ml_X7_280 yw_X7_isSheet ys_X7_isSheet (e_X7_isSheet _) rfl rfl rfl rfl rfl rfl rfl ?_
    first | refine pk_eqb (tgt := 37) dX7_film_22 (by decide) (fun c_22 => ?_) (fun c_22 => ?_) | refine pk_eq0N (tgt := 37) dX7_film_22 (by decide) (by omega) (fun c_22 => ?_) (fun c_22 => ?_) | refine pk_if_eq (tgt := 37) dX7_film_22 (by decide) (fun c_22 => ?_) (fun c_22 => ?_)
    · refine pk_iconst (v := -1) dX7_film_37 (by decide) ?_
      refine pk_reti dX7_film_38 (by first | rfl | exact pk_nbi _) ?_
      rw [op_film, if_pos (by rw [c_22, Bool.false_and, Bool.and_false])]
      exact ⟨rfl, pk_ff.rf _ M, hR⟩
    · refine pk_iload_n dX7_film_25 rfl ?_
      refine pk_i2l dX7_film_26 ?_
      refine pk_lconst (v := 0) dX7_film_27 (by decide) ?_
      refine pk_ldc2 dX7_film_28 kc_X7_210 ?_
      refine pk_Si dX7_film_31 ml_X7_59 yw_X7_in ys_X7_in (e_X7_inB _ (N := 3) (by omega) (by decide)) rfl rfl rfl rfl rfl rfl rfl ?_
      first | refine pk_neb (tgt := 39) dX7_film_34 (by decide) (fun c_34 => ?_) (fun c_34 => ?_) | refine pk_ne0N (tgt := 39) dX7_film_34 (by decide) (by omega) (fun c_34 => ?_) (fun c_34 => ?_) | refine pk_if_ne (tgt := 39) dX7_film_34 (by decide) (fun c_34 => ?_) (fun c_34 => ?_)
      · have c15 := c_15
        have c22 := c_22
        have c34 := c_34
        obtain ⟨y, hy, rfl⟩ := sp_b_of c_15 (by omega)
        obtain ⟨s, hs4, rfl⟩ := sp_b_of c_22 (by decide)
        obtain ⟨l, hl4, rfl⟩ := sp_b_of c_34 (by decide)
        rw [op_film, if_neg (by rw [c15, c22, show sp_b (nI l) 4 = true from c34]; decide), nI_clamp (show s < 2 ^ 31 by omega), nI_clamp (show y < 2 ^ 31 by omega)]
        have hSs := hX.2.2.2.2 s hs4
        have hPs := hSh s hs4
        refine pk_aload_n dX7_film_39 rfl ?_
        refine pk_iload_n dX7_film_40 rfl ?_
        refine pk_iload_n dX7_film_41 rfl ?_
        refine pk_iload dX7_film_42 rfl ?_
        refine pk_aload_n dX7_film_44 rfl ?_
        refine pk_getP dX7_film_45 fl_X7_7 rfl (hW.s rfl) (hW.p rfl) ?_
        refine pk_iconst (v := nI 0) dX7_film_48 (by decide) ?_
        refine pk_aldN dX7_film_49 (hW.s rfl) (by omega) (by omega) hA.w ?_
        refine pk_Vi dX7_film_50 ml_X7_283 yw_X7_why yv_X7_why (hW.s rfl) (e_X7_why (b := sp_w X.1) hW hPs hs4 hSs.1 hSs.2 (by omega) (by omega) _ _) rfl rfl rfl rfl rfl rfl rfl ?_
        refine pk_istore dX7_film_53 rfl rfl ?_
        refine pk_iload dX7_film_55 rfl ?_
        refine pk_if_ge (tgt := 63) dX7_film_57 (by decide) (fun c_57 => ?_) (fun c_57 => ?_)
        · have hw0 : sp_why (X.2.2.2.2 s) (nI l) i (nI (sp_w X.1)) = 0 := by
            apply Classical.byContradiction
            intro h
            exact Int32.not_lt.mpr c_57 ((sp_why_neg _ _ _ _).mpr h)
          rw [if_neg (fun h => h hw0)]
          obtain ⟨g1, g2, g3⟩ := sp_why_0 hw0
          obtain ⟨a, b, rfl, eb, hab⟩ := sp_has_of hSs.2 g3
          have hm24 := hSs.2
          have hb1 : b = sp_w X.1 := ((nI_eq (by omega) (by omega)).mp eb).symm
          rw [hb1] at hab
          have hlS : (X.2.2.2.2 s).2.1 = l := (nI_eq (by omega) (by omega)).mp g2
          rw [nI_clamp (show a < 2 ^ 31 by omega), hlS]
          refine pk_iconst (v := nI 0) dX7_film_63 (by decide) ?_
          refine pk_istore dX7_film_64 rfl rfl ?_
          refine pk_fgt (ls' := [some (.ref 103), some (.int (nI y)), some (.int (nI s)), some (.int (nI l)), some (.int (nI a)), none, some (.int (nI 0))]) (by repeat first | exact trivial | refine ⟨rfl, ?_⟩) ?_
          refine pk_wf (fun z => sp_w X.1 - z.1) (fun z : Nat × pk_M => z.1 ≤ sp_w X.1 ∧ pk_ff (fun q => q = 116) M z.2 ∧ ∀ p, pk_J z.2 116 p = (if 24 * s + a ≤ p ∧ p < 24 * s + a + z.1 then sp_cut l (nI (sp_lookA X.1 (sp_s X.1 (8 * y + (p - (24 * s + a)))))).toInt64 else pk_J M 116 p)) (fun z => z.2) (fun z => [some (.ref 103), some (.int (nI y)), some (.int (nI s)), some (.int (nI l)), some (.int (nI a)), none, some (.int (nI z.1))]) ?_ (0, M) ⟨Nat.zero_le _, pk_ff.rf _ _, fun p => by rw [if_neg (by dsimp only; omega)]⟩
          rintro ⟨x, N⟩ ⟨hx, hF, hv⟩ K
          dsimp only at hx hF hv K ⊢
          have hNN := pm_now.ff hF (by omega) ⟨hW, hA, hok⟩
          have hWN := hNN.1
          have hAN := hNN.2.1
          refine pk_iload dX7_film_66 rfl ?_
          refine pk_aload_n dX7_film_68 rfl ?_
          refine pk_getP dX7_film_69 fl_X7_7 rfl (hWN.s rfl) (hWN.p rfl) ?_
          refine pk_iconst (v := nI 0) dX7_film_72 (by decide) ?_
          refine pk_aldN dX7_film_73 (hWN.s rfl) (by omega) (by omega) hAN.w ?_
          first | refine pk_geN (tgt := 118) dX7_film_74 (by decide) (by omega) (by omega) (fun c_74 => ?_) (fun c_74 => ?_) | refine pk_icmp_ge (tgt := 118) dX7_film_74 (by decide) (fun c_74 => ?_) (fun c_74 => ?_)
          · refine pk_aload_n dX7_film_118 rfl ?_
            refine pk_getP dX7_film_119 fl_X7_7 rfl (hWN.s rfl) (hWN.p rfl) ?_
            refine pk_iconst (v := nI 0) dX7_film_122 (by decide) ?_
            refine pk_aldN dX7_film_123 (hWN.s rfl) (by omega) (by omega) hAN.w ?_
            refine pk_reti dX7_film_124 (by first | rfl | exact pk_nbi _) ?_
            have hxw : x = sp_w X.1 := by omega
            have hit : pm_it M N s := ⟨hF.mono (fun q h => by omega), fun p hp => (hv p).trans (if_neg (by omega))⟩
            have hRM := hR.it hit hs4 (f := sp_flI X.1 y a l (X.2.2.2.2 s).2.2.2 (sp_w X.1)) (fun j hj => by
              rw [hv, hxw]
              unfold sp_flI
              by_cases h : a ≤ j ∧ j < a + sp_w X.1
              · rw [if_pos (by omega), if_pos h, show 8 * y + (24 * s + j - (24 * s + a)) = y * 8 + (j - a) by omega]
              · rw [if_neg (by omega), if_neg h]
                exact hPs.2.2 j hj)
            rw [hlS] at hRM
            exact ⟨rfl, hit.1.mono (fun q h => by omega), hRM⟩
          · have hsx := hs (8 * y + x) (by omega)
            refine pk_aload_n dX7_film_77 rfl ?_
            refine pk_getP dX7_film_78 fl_X7_50 rfl (hWN.s rfl) (hWN.p rfl) ?_
            refine pk_bipush (v := nI 24) dX7_film_81 (by decide) ?_
            refine pk_iload_n dX7_film_83 rfl ?_
            first | refine pk_mulN dX7_film_84 ?_ | refine pk_imul dX7_film_84 ?_
            refine pk_iload dX7_film_85 rfl ?_
            first | refine pk_addN dX7_film_87 ?_ | refine pk_iadd dX7_film_87 ?_
            refine pk_iload dX7_film_88 rfl ?_
            first | refine pk_addN dX7_film_90 ?_ | refine pk_iadd dX7_film_90 ?_
            refine pk_aload_n dX7_film_91 rfl ?_
            refine pk_aload_n dX7_film_92 rfl ?_
            refine pk_bipush (v := nI 8) dX7_film_93 (by decide) ?_
            refine pk_iload_n dX7_film_95 rfl ?_
            first | refine pk_mulN dX7_film_96 ?_ | refine pk_imul dX7_film_96 ?_
            refine pk_iload dX7_film_97 rfl ?_
            first | refine pk_addN dX7_film_99 ?_ | refine pk_iadd dX7_film_99 ?_
            refine pk_Vi dX7_film_100 ml_X7_92 yw_X7_setAt yv_X7_setAt (hWN.s rfl) (e_X7_setAt hNN (by omega)) rfl rfl rfl rfl rfl rfl rfl ?_
            refine pk_Vi dX7_film_103 ml_X7_84 yw_X7_lookOf yv_X7_lookOf (hWN.s rfl) (e_X7_lookOf hNN (by omega)) rfl rfl rfl rfl rfl rfl rfl ?_
            refine pk_i2l dX7_film_106 ?_
            refine pk_iload_n dX7_film_107 rfl ?_
            refine pk_Sl dX7_film_108 ml_X7_286 yw_X7_cut ys_X7_cut (e_X7_cut (by omega)) rfl rfl rfl rfl rfl rfl rfl ?_
            refine pk_lasN dX7_film_111 (hWN.s rfl) (by omega) (by omega) (by omega) ?_
            first | refine pk_inc1 dX7_film_112 rfl rfl ?_ | refine pk_iinc dX7_film_112 rfl rfl rfl ?_
            refine pk_goto (tgt := 66) dX7_film_115 (by decide) ?_
            exact K (x + 1, _) ⟨by dsimp only; omega, hF.tr (pk_ff.sJ rfl), fun p => by
              dsimp only
              by_cases e : p = 24 * s + a + x
              · rw [if_pos (by omega), e, show 24 * s + a + x - (24 * s + a) = x by omega]
                exact pk_gJ1 rfl rfl rfl
              · refine pk_gJ0 (by omega) ((hv p).trans ?_)
                by_cases h : 24 * s + a ≤ p ∧ p < 24 * s + a + x
                · rw [if_pos h, if_pos (by omega)]
                · rw [if_neg h, if_neg (by omega)]⟩ (by dsimp only; omega)
        · refine pk_iload dX7_film_60 rfl ?_
          refine pk_reti dX7_film_62 (by first | rfl | exact pk_nbi _) ?_
          rw [if_pos ((sp_why_neg _ _ _ _).mp (Int32.not_le.mp c_57))]
          exact ⟨rfl, pk_ff.rf _ M, hR⟩
      · refine pk_iconst (v := -1) dX7_film_37 (by decide) ?_
        refine pk_reti dX7_film_38 (by first | rfl | exact pk_nbi _) ?_
        rw [op_film, if_pos (by rw [show sp_b l 4 = false from c_34, Bool.and_false, Bool.and_false])]
        exact ⟨rfl, pk_ff.rf _ M, hR⟩
