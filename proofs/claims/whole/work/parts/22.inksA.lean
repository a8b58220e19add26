/-! PartedInks: looks, gaps, orders, odds. -/
set_option maxRecDepth 100000 in
set_option maxHeartbeats 4000000 in
theorem e_X6_alikeTo {Γ : pk_T} {M : pk_M} {L : Nat} {A : pk_St} (hN : pk_now L M A) {t : Nat} (ht : t < 32) : pk_E Γ yX6_alikeTo cX6_alikeTo 2 (some .int) 4 0 0 M [.ref 5, .int (nI t)] (fun r M' => r = some (.int (nI (sp_c (fun o => sp_lookA A o == sp_lookA A t) 32))) ∧ pk_fr (fun q => q = 81) M M') := by
  obtain ⟨hW, hA, hok⟩ := hN
  refine pk_meth (own := RX6) (ini := false) [some (.ref 5), some (.int (nI t))] (by decide +kernel) rfl (by decide +kernel) rfl rfl ?_
  refine pk_aload_n dX6_alikeTo_0 rfl ?_
  refine pk_getP dX6_alikeTo_1 fl_X6_36 rfl (hW.s rfl) (hW.p rfl) ?_
  refine pk_aload_n dX6_alikeTo_4 rfl ?_
  refine pk_getP dX6_alikeTo_5 fl_X6_10 rfl (hW.s rfl) (hW.p rfl) ?_
  refine pk_Vvr dX6_alikeTo_8 ml_X6_311 yw_X1_find yv_X1_find (hW.s rfl) (e_X1_find ⟨hW, hA, hok⟩) rfl rfl rfl rfl rfl rfl rfl (fun M1 h1 => ?_)
  obtain ⟨hfr, hl⟩ := h1
  have hN1 := hfr.now (fun q h1 h2 => by omega) ⟨hW, hA, hok⟩
  replace hW := hN1.1
  replace hA := hN1.2.1
  refine pk_aload_n dX6_alikeTo_11 rfl ?_
  refine pk_getP dX6_alikeTo_12 fl_X6_36 rfl (hW.s rfl) (hW.p rfl) ?_
  refine pk_iload_n dX6_alikeTo_15 rfl ?_
  refine pk_Vi dX6_alikeTo_16 ml_X6_312 yw_X1_alikeTo yv_X1_alikeTo (hW.s rfl) (e_X1_alikeTo hW hl (sp_lookA_lt A) (by omega)) rfl rfl rfl rfl rfl rfl rfl ?_
  refine pk_reti dX6_alikeTo_19 (by first | rfl | exact pk_nbi _) ?_
  exact ⟨rfl, hfr⟩

def sp_unlike (A : pk_St) : Nat := sp_c (fun s => (sp_sets A).testBit s && !sp_any (fun o => (sp_sets A).testBit o && (sp_lookA A o == sp_lookA A s)) s) 32
def sp_few (A : pk_St) : Nat := sp_fewF (sp_lookA A) (sp_sets A) 32

set_option maxRecDepth 100000 in
set_option maxHeartbeats 4000000 in
theorem e_X6_unlikeLooks {Γ : pk_T} {M : pk_M} {L : Nat} {A : pk_St} (hN : pk_now L M A) : pk_E Γ yX6_unlikeLooks cX6_unlikeLooks 1 (some .int) 4 0 0 M [.ref 5] (fun r M' => r = some (.int (nI (sp_unlike A))) ∧ pk_fr (fun q => q = 81) M M') := by
  obtain ⟨hW, hA, hok⟩ := hN
  have hw := hok.1
  have hh := hok.2.1
  have hs := hok.2.2.2.2.2.2.2.1
  have hsl := sp_sets_lt hok 48 (by omega)
  change sp_sets A < 2 ^ 32 at hsl
  refine pk_meth (own := RX6) (ini := false) [some (.ref 5)] (by decide +kernel) rfl (by decide +kernel) rfl rfl ?_
  refine pk_aload_n dX6_unlikeLooks_0 rfl ?_
  refine pk_getP dX6_unlikeLooks_1 fl_X6_36 rfl (hW.s rfl) (hW.p rfl) ?_
  refine pk_aload_n dX6_unlikeLooks_4 rfl ?_
  refine pk_getP dX6_unlikeLooks_5 fl_X6_10 rfl (hW.s rfl) (hW.p rfl) ?_
  refine pk_Vvr dX6_unlikeLooks_8 ml_X6_311 yw_X1_find yv_X1_find (hW.s rfl) (e_X1_find ⟨hW, hA, hok⟩) rfl rfl rfl rfl rfl rfl rfl (fun M1 h1 => ?_)
  obtain ⟨hfr, hl⟩ := h1
  have hN1 := hfr.now (fun q h1 h2 => by omega) ⟨hW, hA, hok⟩
  replace hW := hN1.1
  replace hA := hN1.2.1
  refine pk_aload_n dX6_unlikeLooks_11 rfl ?_
  refine pk_getP dX6_unlikeLooks_12 fl_X6_36 rfl (hW.s rfl) (hW.p rfl) ?_
  refine pk_aload_n dX6_unlikeLooks_15 rfl ?_
  refine pk_getP dX6_unlikeLooks_16 fl_X6_10 rfl (hW.s rfl) (hW.p rfl) ?_
  refine pk_Vi dX6_unlikeLooks_19 ml_X6_313 yw_X4_setsDrawn yv_X4_setsDrawn (hW.s rfl) (e_X4_setsDrawn (p := 6) hW rfl hA hok) rfl rfl rfl rfl rfl rfl rfl ?_
  refine pk_Vi dX6_unlikeLooks_22 ml_X6_316 yw_X1_unlikeOf yv_X1_unlikeOf (hW.s rfl) (e_X1_unlikeOf hW hl (sp_lookA_lt A) (by omega)) rfl rfl rfl rfl rfl rfl rfl ?_
  refine pk_reti dX6_unlikeLooks_25 (by first | rfl | exact pk_nbi _) ?_
  exact ⟨rfl, hfr⟩

set_option maxRecDepth 100000 in
set_option maxHeartbeats 4000000 in
theorem e_X6_fewestInks {Γ : pk_T} {M : pk_M} {L : Nat} {A : pk_St} (hN : pk_now L M A) : pk_E Γ yX6_fewestInks cX6_fewestInks 1 (some .int) 4 0 0 M [.ref 5] (fun r M' => r = some (.int (nI (sp_few A))) ∧ pk_fr (fun q => q = 81) M M') := by
  obtain ⟨hW, hA, hok⟩ := hN
  have hw := hok.1
  have hh := hok.2.1
  have hs := hok.2.2.2.2.2.2.2.1
  have hsl := sp_sets_lt hok 48 (by omega)
  change sp_sets A < 2 ^ 32 at hsl
  refine pk_meth (own := RX6) (ini := false) [some (.ref 5)] (by decide +kernel) rfl (by decide +kernel) rfl rfl ?_
  refine pk_aload_n dX6_fewestInks_0 rfl ?_
  refine pk_getP dX6_fewestInks_1 fl_X6_36 rfl (hW.s rfl) (hW.p rfl) ?_
  refine pk_aload_n dX6_fewestInks_4 rfl ?_
  refine pk_getP dX6_fewestInks_5 fl_X6_10 rfl (hW.s rfl) (hW.p rfl) ?_
  refine pk_Vvr dX6_fewestInks_8 ml_X6_311 yw_X1_find yv_X1_find (hW.s rfl) (e_X1_find ⟨hW, hA, hok⟩) rfl rfl rfl rfl rfl rfl rfl (fun M1 h1 => ?_)
  obtain ⟨hfr, hl⟩ := h1
  have hN1 := hfr.now (fun q h1 h2 => by omega) ⟨hW, hA, hok⟩
  replace hW := hN1.1
  replace hA := hN1.2.1
  refine pk_aload_n dX6_fewestInks_11 rfl ?_
  refine pk_getP dX6_fewestInks_12 fl_X6_36 rfl (hW.s rfl) (hW.p rfl) ?_
  refine pk_aload_n dX6_fewestInks_15 rfl ?_
  refine pk_getP dX6_fewestInks_16 fl_X6_10 rfl (hW.s rfl) (hW.p rfl) ?_
  refine pk_Vi dX6_fewestInks_19 ml_X6_313 yw_X4_setsDrawn yv_X4_setsDrawn (hW.s rfl) (e_X4_setsDrawn (p := 6) hW rfl hA hok) rfl rfl rfl rfl rfl rfl rfl ?_
  refine pk_Vi dX6_fewestInks_22 ml_X6_319 yw_X1_fewestFor yv_X1_fewestFor (hW.s rfl) (e_X1_fewestFor hW hl (sp_lookA_lt A) (by omega)) rfl rfl rfl rfl rfl rfl rfl ?_
  refine pk_reti dX6_fewestInks_25 (by first | rfl | exact pk_nbi _) ?_
  exact ⟨rfl, hfr⟩

def sp_pr (A : pk_St) (k : Nat) (dx dy x y : Int32) : Nat := (sp_at A x y &&& (31 - 2 ^ k)) ||| (sp_at A (x - dx) (y - dy) &&& 2 ^ k)
theorem pk_p2 {k : Nat} (h : k < 5) : 2 ^ k < 32 := by
  have := Nat.pow_lt_pow_right (show 1 < 2 by decide) h
  exact this
theorem sp_pr_lt {A : pk_St} (hA : pk_okS A) (k : Nat) (dx dy x y : Int32) : sp_pr A k dx dy x y < 32 := pk_or_lt (n := 5) (pk_and_lt (sp_at_lt hA x y)) (pk_and_lt (sp_at_lt hA _ _))

set_option maxRecDepth 100000 in
set_option maxHeartbeats 4000000 in
theorem e_X6_printedBy {Γ : pk_T} {M : pk_M} {L : Nat} {A : pk_St} (hN : pk_now L M A) {k : Nat} (hk : k < 5) (dx dy x y : Int32) : pk_E Γ yX6_printedBy cX6_printedBy 7 (some .int) 3 0 0 M [.ref 5, .int (nI k), .int dx, .int dy, .int x, .int y] (fun r M' => r = some (.int (nI (sp_pr A k dx dy x y))) ∧ M' = M) := by
  obtain ⟨hW, hA, hok⟩ := hN
  refine pk_meth (own := RX6) (ini := false) [some (.ref 5), some (.int (nI k)), some (.int dx), some (.int dy), some (.int x), some (.int y), none] (by decide +kernel) rfl (by decide +kernel) rfl rfl ?_
  have h2 := pk_p2 hk
  have h3 := sp_at_lt hok x y
  refine pk_iconst (v := nI 1) dX6_printedBy_0 (by decide) ?_
  refine pk_iload_n dX6_printedBy_1 rfl ?_
  first | refine pk_shlNN dX6_printedBy_2 (by omega) ?_ | refine pk_ishl dX6_printedBy_2 ?_
  refine pk_istore dX6_printedBy_3 rfl rfl ?_
  refine pk_aload_n dX6_printedBy_5 rfl ?_
  refine pk_getP dX6_printedBy_6 fl_X6_10 rfl (hW.s rfl) (hW.p rfl) ?_
  refine pk_iload dX6_printedBy_9 rfl ?_
  refine pk_iload dX6_printedBy_11 rfl ?_
  refine pk_Vi dX6_printedBy_13 ml_X6_103 yw_X4_at yv_X4_at (hW.s rfl) (e_X4_at (p := 6) hW rfl hA hok _ _ rfl) rfl rfl rfl rfl rfl rfl rfl ?_
  refine pk_iload dX6_printedBy_16 rfl ?_
  refine pk_iconst (v := -1) dX6_printedBy_18 (by decide) ?_
  refine pk_ixor dX6_printedBy_19 ?_
  refine pk_iand dX6_printedBy_20 ?_
  rw [pk_dif _ h3 _ h2]
  refine pk_aload_n dX6_printedBy_21 rfl ?_
  refine pk_getP dX6_printedBy_22 fl_X6_10 rfl (hW.s rfl) (hW.p rfl) ?_
  refine pk_iload dX6_printedBy_25 rfl ?_
  refine pk_iload_n dX6_printedBy_27 rfl ?_
  first | refine pk_subN dX6_printedBy_28 (by omega) ?_ | refine pk_isub dX6_printedBy_28 ?_
  refine pk_iload dX6_printedBy_29 rfl ?_
  refine pk_iload_n dX6_printedBy_31 rfl ?_
  first | refine pk_subN dX6_printedBy_32 (by omega) ?_ | refine pk_isub dX6_printedBy_32 ?_
  refine pk_Vi dX6_printedBy_33 ml_X6_103 yw_X4_at yv_X4_at (hW.s rfl) (e_X4_at (p := 6) hW rfl hA hok _ _ rfl) rfl rfl rfl rfl rfl rfl rfl ?_
  refine pk_iload dX6_printedBy_36 rfl ?_
  first | refine pk_andNN dX6_printedBy_38 ?_ | refine pk_iand dX6_printedBy_38 ?_
  first | refine pk_orNN dX6_printedBy_39 ?_ | refine pk_ior dX6_printedBy_39 ?_
  refine pk_reti dX6_printedBy_40 (by first | rfl | exact pk_nbi _) ?_
  exact ⟨rfl, rfl⟩

def sp_gaps (A : pk_St) (k : Nat) (dx dy : Int32) : Nat := sp_c (fun q => sp_in A q && (!(sp_s A q == 0) && (sp_pr A k dx dy (nI (q % 8)) (nI (q / 8)) == 0))) 48
theorem sp_gaps_le (A : pk_St) (k : Nat) (dx dy : Int32) : sp_gaps A k dx dy ≤ 48 := sp_c_le _ 48

set_option maxRecDepth 100000 in
set_option maxHeartbeats 4000000 in
theorem e_X6_gapsBy {Γ : pk_T} {M : pk_M} {L : Nat} {A : pk_St} (hN : pk_now L M A) {k : Nat} (hk : k < 5) (dx dy : Int32) : pk_E Γ yX6_gapsBy cX6_gapsBy 7 (some .int) 4 0 0 M [.ref 5, .int (nI k), .int dx, .int dy] (fun r M' => r = some (.int (nI (sp_gaps A k dx dy))) ∧ M' = M) := by
  obtain ⟨hW, hA, hok⟩ := hN
  have hw := hok.1
  have hh := hok.2.1
  have hs := hok.2.2.2.2.2.2.2.1
  have hsl := sp_sets_lt hok 48 (by omega)
  change sp_sets A < 2 ^ 32 at hsl
  refine pk_meth (own := RX6) (ini := false) [some (.ref 5), some (.int (nI k)), some (.int dx), some (.int dy), none, none, none] (by decide +kernel) rfl (by decide +kernel) rfl rfl ?_
  rw [sp_gaps, sp_c_end hok]
  refine pk_iconst (v := nI 0) dX6_gapsBy_0 (by decide) ?_
  refine pk_istore dX6_gapsBy_1 rfl rfl ?_
  refine pk_iconst (v := nI 0) dX6_gapsBy_3 (by decide) ?_
  refine pk_istore dX6_gapsBy_4 rfl rfl ?_
  refine pk_fgt (ls' := [some (.ref 5), some (.int (nI k)), some (.int dx), some (.int dy), some (.int (nI (sp_c (fun q => sp_in A q && (!(sp_s A q == 0) && (sp_pr A k dx dy (nI (q % 8)) (nI (q / 8)) == 0))) (8 * 0)))), some (.int (nI 0)), none]) (by repeat first | exact trivial | refine ⟨rfl, ?_⟩) ?_
  refine pk_for (sp_h A) (fun _ => M) (fun j => [some (.ref 5), some (.int (nI k)), some (.int dx), some (.int dy), some (.int (nI (sp_c (fun q => sp_in A q && (!(sp_s A q == 0) && (sp_pr A k dx dy (nI (q % 8)) (nI (q / 8)) == 0))) (8 * j)))), some (.int (nI j)), none]) ?_ ?_ 0 (by omega)
  · intro j hj K1
    refine pk_iload dX6_gapsBy_6 rfl ?_
    refine pk_aload_n dX6_gapsBy_8 rfl ?_
    refine pk_getP dX6_gapsBy_9 fl_X6_10 rfl (hW.s rfl) (hW.p rfl) ?_
    refine pk_getN dX6_gapsBy_12 fl_X6_161 rfl (hW.s rfl) hA.2.1 ?_
    first | refine pk_geN (tgt := 76) dX6_gapsBy_15 (by decide) (by omega) (by omega) (fun c_15 => ?_) (fun c_15 => ?_) | refine pk_icmp_ge (tgt := 76) dX6_gapsBy_15 (by decide) (fun c_15 => ?_) (fun c_15 => ?_)
    · omega
    · refine pk_iconst (v := nI 0) dX6_gapsBy_18 (by decide) ?_
      refine pk_istore dX6_gapsBy_19 rfl rfl ?_
      refine pk_for (sp_w A) (fun _ => M) (fun i => [some (.ref 5), some (.int (nI k)), some (.int dx), some (.int dy), some (.int (nI (sp_c (fun q => sp_in A q && (!(sp_s A q == 0) && (sp_pr A k dx dy (nI (q % 8)) (nI (q / 8)) == 0))) (8 * j + i)))), some (.int (nI j)), some (.int (nI i))]) ?_ ?_ 0 (by omega)
      · intro i hi K
        have hsj := hs (j * 8 + i) (by omega)
        have hpl := sp_pr_lt hok k dx dy (nI i) (nI j)
        refine pk_iload dX6_gapsBy_21 rfl ?_
        refine pk_aload_n dX6_gapsBy_23 rfl ?_
        refine pk_getP dX6_gapsBy_24 fl_X6_10 rfl (hW.s rfl) (hW.p rfl) ?_
        refine pk_getN dX6_gapsBy_27 fl_X6_160 rfl (hW.s rfl) hA.1 ?_
        first | refine pk_geN (tgt := 70) dX6_gapsBy_30 (by decide) (by omega) (by omega) (fun c_30 => ?_) (fun c_30 => ?_) | refine pk_icmp_ge (tgt := 70) dX6_gapsBy_30 (by decide) (fun c_30 => ?_) (fun c_30 => ?_)
        · omega
        · refine pk_aload_n dX6_gapsBy_33 rfl ?_
          refine pk_getP dX6_gapsBy_34 fl_X6_10 rfl (hW.s rfl) (hW.p rfl) ?_
          refine pk_iload dX6_gapsBy_37 rfl ?_
          refine pk_iload dX6_gapsBy_39 rfl ?_
          refine pk_Vi dX6_gapsBy_41 ml_X6_103 yw_X4_at yv_X4_at (hW.s rfl) (e_X4_at (p := 6) hW rfl hA hok _ _ (sp_at_n hok hi hj)) rfl rfl rfl rfl rfl rfl rfl ?_
          first | refine pk_eqb (tgt := 64) dX6_gapsBy_44 (by decide) (fun c_44 => ?_) (fun c_44 => ?_) | refine pk_eq0N (tgt := 64) dX6_gapsBy_44 (by decide) (by omega) (fun c_44 => ?_) (fun c_44 => ?_) | refine pk_if_eq (tgt := 64) dX6_gapsBy_44 (by decide) (fun c_44 => ?_) (fun c_44 => ?_)
          · first | refine pk_inc1 dX6_gapsBy_64 rfl rfl ?_ | refine pk_iinc dX6_gapsBy_64 rfl rfl rfl ?_
            refine pk_goto (tgt := 21) dX6_gapsBy_67 (by decide) ?_
            refine pk_lsq ?_ K
            have e1 := sp_in_ij hok hi hj
            have e2 : sp_c (fun q => sp_in A q && (!(sp_s A q == 0) && (sp_pr A k dx dy (nI (q % 8)) (nI (q / 8)) == 0))) (8 * j + (i + 1)) = if (!(sp_s A (j * 8 + i) == 0) && (sp_pr A k dx dy (nI i) (nI j) == 0)) then sp_c (fun q => sp_in A q && (!(sp_s A q == 0) && (sp_pr A k dx dy (nI (q % 8)) (nI (q / 8)) == 0))) (8 * j + i) + 1 else sp_c (fun q => sp_in A q && (!(sp_s A q == 0) && (sp_pr A k dx dy (nI (q % 8)) (nI (q / 8)) == 0))) (8 * j + i) := by
              rw [show 8 * j + (i + 1) = (8 * j + i) + 1 by omega, sp_c_succ, e1, Bool.true_and, show (8 * j + i) % 8 = i by omega, show (8 * j + i) / 8 = j by omega, show 8 * j + i = j * 8 + i by omega]
            rw [e2]
            by_cases h : (!(sp_s A (j * 8 + i) == 0) && (sp_pr A k dx dy (nI i) (nI j) == 0)) = true
            · rw [if_pos h]
              all_goals first | rfl | (exfalso; simp [c_44, c_58] at h; done) | (exfalso; simp [c_44] at h; done)
            · rw [if_neg h]
              all_goals first | rfl | (exfalso; simp [c_44, c_58] at h; done)
          · refine pk_aload_n dX6_gapsBy_47 rfl ?_
            refine pk_iload_n dX6_gapsBy_48 rfl ?_
            refine pk_iload_n dX6_gapsBy_49 rfl ?_
            refine pk_iload_n dX6_gapsBy_50 rfl ?_
            refine pk_iload dX6_gapsBy_51 rfl ?_
            refine pk_iload dX6_gapsBy_53 rfl ?_
            refine pk_Vi dX6_gapsBy_55 ml_X6_237 yw_X6_printedBy yv_X6_printedBy (hW.s rfl) (e_X6_printedBy ⟨hW, hA, hok⟩ (by omega) _ _ _ _) rfl rfl rfl rfl rfl rfl rfl ?_
            first | refine pk_neb (tgt := 64) dX6_gapsBy_58 (by decide) (fun c_58 => ?_) (fun c_58 => ?_) | refine pk_ne0N (tgt := 64) dX6_gapsBy_58 (by decide) (by omega) (fun c_58 => ?_) (fun c_58 => ?_) | refine pk_if_ne (tgt := 64) dX6_gapsBy_58 (by decide) (fun c_58 => ?_) (fun c_58 => ?_)
            · first | refine pk_inc1 dX6_gapsBy_64 rfl rfl ?_ | refine pk_iinc dX6_gapsBy_64 rfl rfl rfl ?_
              refine pk_goto (tgt := 21) dX6_gapsBy_67 (by decide) ?_
              refine pk_lsq ?_ K
              have e1 := sp_in_ij hok hi hj
              have e2 : sp_c (fun q => sp_in A q && (!(sp_s A q == 0) && (sp_pr A k dx dy (nI (q % 8)) (nI (q / 8)) == 0))) (8 * j + (i + 1)) = if (!(sp_s A (j * 8 + i) == 0) && (sp_pr A k dx dy (nI i) (nI j) == 0)) then sp_c (fun q => sp_in A q && (!(sp_s A q == 0) && (sp_pr A k dx dy (nI (q % 8)) (nI (q / 8)) == 0))) (8 * j + i) + 1 else sp_c (fun q => sp_in A q && (!(sp_s A q == 0) && (sp_pr A k dx dy (nI (q % 8)) (nI (q / 8)) == 0))) (8 * j + i) := by
                rw [show 8 * j + (i + 1) = (8 * j + i) + 1 by omega, sp_c_succ, e1, Bool.true_and, show (8 * j + i) % 8 = i by omega, show (8 * j + i) / 8 = j by omega, show 8 * j + i = j * 8 + i by omega]
              rw [e2]
              by_cases h : (!(sp_s A (j * 8 + i) == 0) && (sp_pr A k dx dy (nI i) (nI j) == 0)) = true
              · rw [if_pos h]
                all_goals first | rfl | (exfalso; simp [c_44, c_58] at h; done) | (exfalso; simp [c_44] at h; done)
              · rw [if_neg h]
                all_goals first | rfl | (exfalso; simp [c_44, c_58] at h; done)
            · first | refine pk_inc1 dX6_gapsBy_61 rfl rfl ?_ | refine pk_iinc dX6_gapsBy_61 rfl rfl rfl ?_
              first | refine pk_inc1 dX6_gapsBy_64 rfl rfl ?_ | refine pk_iinc dX6_gapsBy_64 rfl rfl rfl ?_
              refine pk_goto (tgt := 21) dX6_gapsBy_67 (by decide) ?_
              refine pk_lsq ?_ K
              have e1 := sp_in_ij hok hi hj
              have e2 : sp_c (fun q => sp_in A q && (!(sp_s A q == 0) && (sp_pr A k dx dy (nI (q % 8)) (nI (q / 8)) == 0))) (8 * j + (i + 1)) = if (!(sp_s A (j * 8 + i) == 0) && (sp_pr A k dx dy (nI i) (nI j) == 0)) then sp_c (fun q => sp_in A q && (!(sp_s A q == 0) && (sp_pr A k dx dy (nI (q % 8)) (nI (q / 8)) == 0))) (8 * j + i) + 1 else sp_c (fun q => sp_in A q && (!(sp_s A q == 0) && (sp_pr A k dx dy (nI (q % 8)) (nI (q / 8)) == 0))) (8 * j + i) := by
                rw [show 8 * j + (i + 1) = (8 * j + i) + 1 by omega, sp_c_succ, e1, Bool.true_and, show (8 * j + i) % 8 = i by omega, show (8 * j + i) / 8 = j by omega, show 8 * j + i = j * 8 + i by omega]
              rw [e2]
              by_cases h : (!(sp_s A (j * 8 + i) == 0) && (sp_pr A k dx dy (nI i) (nI j) == 0)) = true
              · rw [if_pos h]
                all_goals first | rfl | (exfalso; simp [c_44, c_58] at h; done) | (exfalso; simp [c_44] at h; done)
              · rw [if_neg h]
                all_goals first | rfl | (exfalso; simp [c_44, c_58] at h; done)
      · rw [sp_c_line hok] at K1
        refine pk_iload dX6_gapsBy_21 rfl ?_
        refine pk_aload_n dX6_gapsBy_23 rfl ?_
        refine pk_getP dX6_gapsBy_24 fl_X6_10 rfl (hW.s rfl) (hW.p rfl) ?_
        refine pk_getN dX6_gapsBy_27 fl_X6_160 rfl (hW.s rfl) hA.1 ?_
        first | refine pk_geN (tgt := 70) dX6_gapsBy_30 (by decide) (by omega) (by omega) (fun c_30 => ?_) (fun c_30 => ?_) | refine pk_icmp_ge (tgt := 70) dX6_gapsBy_30 (by decide) (fun c_30 => ?_) (fun c_30 => ?_)
        · first | refine pk_inc1 dX6_gapsBy_70 rfl rfl ?_ | refine pk_iinc dX6_gapsBy_70 rfl rfl rfl ?_
          refine pk_goto (tgt := 6) dX6_gapsBy_73 (by decide) ?_
          exact pk_fgt (by repeat first | exact trivial | refine ⟨rfl, ?_⟩) K1
        · omega
  · refine pk_iload dX6_gapsBy_6 rfl ?_
    refine pk_aload_n dX6_gapsBy_8 rfl ?_
    refine pk_getP dX6_gapsBy_9 fl_X6_10 rfl (hW.s rfl) (hW.p rfl) ?_
    refine pk_getN dX6_gapsBy_12 fl_X6_161 rfl (hW.s rfl) hA.2.1 ?_
    first | refine pk_geN (tgt := 76) dX6_gapsBy_15 (by decide) (by omega) (by omega) (fun c_15 => ?_) (fun c_15 => ?_) | refine pk_icmp_ge (tgt := 76) dX6_gapsBy_15 (by decide) (fun c_15 => ?_) (fun c_15 => ?_)
    · refine pk_iload dX6_gapsBy_76 rfl ?_
      refine pk_reti dX6_gapsBy_78 (by first | rfl | exact pk_nbi _) ?_
      exact ⟨rfl, rfl⟩
    · omega

def sp_dk (A : pk_St) (i : Nat) : Nat := sp_dark (sp_lookA A (2 ^ i))
theorem sp_dk_le (A : pk_St) (i : Nat) : sp_dk A i ≤ 45 := by unfold sp_dk sp_dark; omega
def sp_lt (A : pk_St) (i : Nat) (o : Nat) : Bool := decide (sp_dk A o < sp_dk A i) || (sp_dk A o == sp_dk A i) && decide (o < i)
def sp_light (A : pk_St) (i : Nat) : Nat := sp_c (sp_lt A i) 5
def sp_byF (A : pk_St) : Nat → Nat → Nat := fun n x => if sp_light A (n % 5) == n / 5 then x * 10 + n % 5 else x
def sp_byDark (A : pk_St) : Nat := sp_fold (sp_byF A) 0 25

set_option maxRecDepth 100000 in
set_option maxHeartbeats 4000000 in
theorem e_X6_lighterInks {Γ : pk_T} {M : pk_M} {L : Nat} {A : pk_St} (hN : pk_now L M A) {i : Nat} (hi : i < 5) : pk_E Γ yX6_lighterInks cX6_lighterInks 6 (some .int) 4 0 0 M [.ref 5, .int (nI i)] (fun r M' => r = some (.int (nI (sp_light A i))) ∧ M' = M) := by
  obtain ⟨hW, hA, hok⟩ := hN
  refine pk_meth (own := RX6) (ini := false) [some (.ref 5), some (.int (nI i)), none, none, none, none] (by decide +kernel) rfl (by decide +kernel) rfl rfl ?_
  have hp2 := pk_p2 hi
  have hl1 := sp_lookA_lt A (2 ^ i)
  have hdi := sp_dk_le A i
  refine pk_aload_n dX6_lighterInks_0 rfl ?_
  refine pk_iconst (v := nI 1) dX6_lighterInks_1 (by decide) ?_
  refine pk_iload_n dX6_lighterInks_2 rfl ?_
  first | refine pk_shlNN dX6_lighterInks_3 (by omega) ?_ | refine pk_ishl dX6_lighterInks_3 ?_
  refine pk_Vi dX6_lighterInks_4 ml_X6_85 yw_X6_lookNow yv_X6_lookNow (hW.s rfl) (e_X6_lookNow ⟨hW, hA, hok⟩ (by omega)) rfl rfl rfl rfl rfl rfl rfl ?_
  refine pk_Si dX6_lighterInks_7 ml_X6_88 yw_X6_darkOf ys_X6_darkOf (e_X6_darkOf _ (by omega)) rfl rfl rfl rfl rfl rfl rfl ?_
  refine pk_istore_n dX6_lighterInks_10 rfl rfl ?_
  refine pk_iconst (v := nI 0) dX6_lighterInks_11 (by decide) ?_
  refine pk_istore_n dX6_lighterInks_12 rfl rfl ?_
  refine pk_iconst (v := nI 0) dX6_lighterInks_13 (by decide) ?_
  refine pk_istore dX6_lighterInks_14 rfl rfl ?_
  refine pk_fgt (ls' := [some (.ref 5), some (.int (nI i)), some (.int (nI (sp_dk A i))), some (.int (nI (sp_c (sp_lt A i) 0))), some (.int (nI 0)), none]) (by repeat first | exact trivial | refine ⟨rfl, ?_⟩) ?_
  refine pk_for 5 (fun _ => M) (fun o => [some (.ref 5), some (.int (nI i)), some (.int (nI (sp_dk A i))), some (.int (nI (sp_c (sp_lt A i) o))), some (.int (nI o)), none]) ?_ ?_ 0 (by omega)
  · intro o ho K
    have hp3 := pk_p2 ho
    have hl2 := sp_lookA_lt A (2 ^ o)
    have hdo := sp_dk_le A o
    have hdo2 : sp_dark (sp_lookA A (2 ^ o)) ≤ 45 := hdo
    refine pk_iload dX6_lighterInks_16 rfl ?_
    refine pk_iconst (v := nI 5) dX6_lighterInks_18 (by decide) ?_
    first | refine pk_geN (tgt := 62) dX6_lighterInks_19 (by decide) (by omega) (by omega) (fun c_19 => ?_) (fun c_19 => ?_) | refine pk_icmp_ge (tgt := 62) dX6_lighterInks_19 (by decide) (fun c_19 => ?_) (fun c_19 => ?_)
    · omega
    · refine pk_aload_n dX6_lighterInks_22 rfl ?_
      refine pk_iconst (v := nI 1) dX6_lighterInks_23 (by decide) ?_
      refine pk_iload dX6_lighterInks_24 rfl ?_
      first | refine pk_shlNN dX6_lighterInks_26 (by omega) ?_ | refine pk_ishl dX6_lighterInks_26 ?_
      refine pk_Vi dX6_lighterInks_27 ml_X6_85 yw_X6_lookNow yv_X6_lookNow (hW.s rfl) (e_X6_lookNow ⟨hW, hA, hok⟩ (by omega)) rfl rfl rfl rfl rfl rfl rfl ?_
      refine pk_Si dX6_lighterInks_30 ml_X6_88 yw_X6_darkOf ys_X6_darkOf (e_X6_darkOf _ (by omega)) rfl rfl rfl rfl rfl rfl rfl ?_
      refine pk_istore dX6_lighterInks_33 rfl rfl ?_
      refine pk_iload dX6_lighterInks_35 rfl ?_
      refine pk_iload_n dX6_lighterInks_37 rfl ?_
      first | refine pk_ltN (tgt := 53) dX6_lighterInks_38 (by decide) (by omega) (by omega) (fun c_38 => ?_) (fun c_38 => ?_) | refine pk_icmp_lt (tgt := 53) dX6_lighterInks_38 (by decide) (fun c_38 => ?_) (fun c_38 => ?_)
      · first | refine pk_inc1 dX6_lighterInks_53 rfl rfl ?_ | refine pk_iinc dX6_lighterInks_53 rfl rfl rfl ?_
        first | refine pk_inc1 dX6_lighterInks_56 rfl rfl ?_ | refine pk_iinc dX6_lighterInks_56 rfl rfl rfl ?_
        refine pk_goto (tgt := 16) dX6_lighterInks_59 (by decide) ?_
        refine pk_fgt (ls' := _) ?_ K
        have e1 : sp_c (sp_lt A i) (o + 1) = if sp_lt A i o then sp_c (sp_lt A i) o + 1 else sp_c (sp_lt A i) o := rfl
        have e2 : sp_dark (sp_lookA A (2 ^ o)) = sp_dk A o := rfl
        rw [e2] at c_38
        try rw [e2] at c_44
        refine ⟨rfl, rfl, rfl, ?_, rfl, trivial⟩
        rw [e1]
        by_cases h : sp_lt A i o = true
        · rw [if_pos h]
          all_goals first | rfl | (exfalso; simp [sp_lt] at h <;> omega)
        · rw [if_neg h]
          all_goals first | rfl | (exfalso; simp [sp_lt] at h <;> omega)
      · refine pk_iload dX6_lighterInks_41 rfl ?_
        refine pk_iload_n dX6_lighterInks_43 rfl ?_
        first | refine pk_neN (tgt := 56) dX6_lighterInks_44 (by decide) (by omega) (by omega) (fun c_44 => ?_) (fun c_44 => ?_) | refine pk_icmp_ne (tgt := 56) dX6_lighterInks_44 (by decide) (fun c_44 => ?_) (fun c_44 => ?_)
        · first | refine pk_inc1 dX6_lighterInks_56 rfl rfl ?_ | refine pk_iinc dX6_lighterInks_56 rfl rfl rfl ?_
          refine pk_goto (tgt := 16) dX6_lighterInks_59 (by decide) ?_
          refine pk_fgt (ls' := _) ?_ K
          have e1 : sp_c (sp_lt A i) (o + 1) = if sp_lt A i o then sp_c (sp_lt A i) o + 1 else sp_c (sp_lt A i) o := rfl
          have e2 : sp_dark (sp_lookA A (2 ^ o)) = sp_dk A o := rfl
          rw [e2] at c_38
          try rw [e2] at c_44
          refine ⟨rfl, rfl, rfl, ?_, rfl, trivial⟩
          rw [e1]
          by_cases h : sp_lt A i o = true
          · rw [if_pos h]
            all_goals first | rfl | (exfalso; simp [sp_lt] at h <;> omega)
          · rw [if_neg h]
            all_goals first | rfl | (exfalso; simp [sp_lt] at h <;> omega)
        · refine pk_iload dX6_lighterInks_47 rfl ?_
          refine pk_iload_n dX6_lighterInks_49 rfl ?_
          first | refine pk_geN (tgt := 56) dX6_lighterInks_50 (by decide) (by omega) (by omega) (fun c_50 => ?_) (fun c_50 => ?_) | refine pk_icmp_ge (tgt := 56) dX6_lighterInks_50 (by decide) (fun c_50 => ?_) (fun c_50 => ?_)
          · first | refine pk_inc1 dX6_lighterInks_56 rfl rfl ?_ | refine pk_iinc dX6_lighterInks_56 rfl rfl rfl ?_
            refine pk_goto (tgt := 16) dX6_lighterInks_59 (by decide) ?_
            refine pk_fgt (ls' := _) ?_ K
            have e1 : sp_c (sp_lt A i) (o + 1) = if sp_lt A i o then sp_c (sp_lt A i) o + 1 else sp_c (sp_lt A i) o := rfl
            have e2 : sp_dark (sp_lookA A (2 ^ o)) = sp_dk A o := rfl
            rw [e2] at c_38
            try rw [e2] at c_44
            refine ⟨rfl, rfl, rfl, ?_, rfl, trivial⟩
            rw [e1]
            by_cases h : sp_lt A i o = true
            · rw [if_pos h]
              all_goals first | rfl | (exfalso; simp [sp_lt] at h <;> omega)
            · rw [if_neg h]
              all_goals first | rfl | (exfalso; simp [sp_lt] at h <;> omega)
          · first | refine pk_inc1 dX6_lighterInks_53 rfl rfl ?_ | refine pk_iinc dX6_lighterInks_53 rfl rfl rfl ?_
            first | refine pk_inc1 dX6_lighterInks_56 rfl rfl ?_ | refine pk_iinc dX6_lighterInks_56 rfl rfl rfl ?_
            refine pk_goto (tgt := 16) dX6_lighterInks_59 (by decide) ?_
            refine pk_fgt (ls' := _) ?_ K
            have e1 : sp_c (sp_lt A i) (o + 1) = if sp_lt A i o then sp_c (sp_lt A i) o + 1 else sp_c (sp_lt A i) o := rfl
            have e2 : sp_dark (sp_lookA A (2 ^ o)) = sp_dk A o := rfl
            rw [e2] at c_38
            try rw [e2] at c_44
            refine ⟨rfl, rfl, rfl, ?_, rfl, trivial⟩
            rw [e1]
            by_cases h : sp_lt A i o = true
            · rw [if_pos h]
              all_goals first | rfl | (exfalso; simp [sp_lt] at h <;> omega)
            · rw [if_neg h]
              all_goals first | rfl | (exfalso; simp [sp_lt] at h <;> omega)
  · refine pk_iload dX6_lighterInks_16 rfl ?_
    refine pk_iconst (v := nI 5) dX6_lighterInks_18 (by decide) ?_
    first | refine pk_geN (tgt := 62) dX6_lighterInks_19 (by decide) (by omega) (by omega) (fun c_19 => ?_) (fun c_19 => ?_) | refine pk_icmp_ge (tgt := 62) dX6_lighterInks_19 (by decide) (fun c_19 => ?_) (fun c_19 => ?_)
    · refine pk_iload_n dX6_lighterInks_62 rfl ?_
      refine pk_reti dX6_lighterInks_63 (by first | rfl | exact pk_nbi _) ?_
      exact ⟨rfl, rfl⟩
    · omega

set_option maxRecDepth 100000 in
set_option maxHeartbeats 4000000 in
theorem e_X6_orderByDark {Γ : pk_T} {M : pk_M} {L : Nat} {A : pk_St} (hN : pk_now L M A) : pk_E Γ yX6_orderByDark cX6_orderByDark 4 (some .int) 5 0 0 M [.ref 5] (fun r M' => r = some (.int (nI (sp_byDark A))) ∧ M' = M) := by
  obtain ⟨hW, hA, hok⟩ := hN
  refine pk_meth (own := RX6) (ini := false) [some (.ref 5), none, none, none] (by decide +kernel) rfl (by decide +kernel) rfl rfl ?_
  refine pk_iconst (v := nI 0) dX6_orderByDark_0 (by decide) ?_
  refine pk_istore_n dX6_orderByDark_1 rfl rfl ?_
  refine pk_iconst (v := nI 0) dX6_orderByDark_2 (by decide) ?_
  refine pk_istore_n dX6_orderByDark_3 rfl rfl ?_
  refine pk_fgt (ls' := [some (.ref 5), some (.int (nI (sp_fold (sp_byF A) 0 (5 * 0)))), some (.int (nI 0)), none]) (by repeat first | exact trivial | refine ⟨rfl, ?_⟩) ?_
  refine pk_for 5 (fun _ => M) (fun j => [some (.ref 5), some (.int (nI (sp_fold (sp_byF A) 0 (5 * j)))), some (.int (nI j)), none]) ?_ ?_ 0 (by omega)
  · intro j hj K1
    refine pk_iload_n dX6_orderByDark_4 rfl ?_
    refine pk_iconst (v := nI 5) dX6_orderByDark_5 (by decide) ?_
    first | refine pk_geN (tgt := 44) dX6_orderByDark_6 (by decide) (by omega) (by omega) (fun c_6 => ?_) (fun c_6 => ?_) | refine pk_icmp_ge (tgt := 44) dX6_orderByDark_6 (by decide) (fun c_6 => ?_) (fun c_6 => ?_)
    · omega
    · refine pk_iconst (v := nI 0) dX6_orderByDark_9 (by decide) ?_
      refine pk_istore_n dX6_orderByDark_10 rfl rfl ?_
      refine pk_for 5 (fun _ => M) (fun i => [some (.ref 5), some (.int (nI (sp_fold (sp_byF A) 0 (5 * j + i)))), some (.int (nI j)), some (.int (nI i))]) ?_ ?_ 0 (by omega)
      · intro i hi K
        have hll : sp_light A i ≤ 5 := sp_c_le _ 5
        refine pk_iload_n dX6_orderByDark_11 rfl ?_
        refine pk_iconst (v := nI 5) dX6_orderByDark_12 (by decide) ?_
        first | refine pk_geN (tgt := 38) dX6_orderByDark_13 (by decide) (by omega) (by omega) (fun c_13 => ?_) (fun c_13 => ?_) | refine pk_icmp_ge (tgt := 38) dX6_orderByDark_13 (by decide) (fun c_13 => ?_) (fun c_13 => ?_)
        · omega
        · refine pk_aload_n dX6_orderByDark_16 rfl ?_
          refine pk_iload_n dX6_orderByDark_17 rfl ?_
          refine pk_Vi dX6_orderByDark_18 ml_X6_341 yw_X6_lighterInks yv_X6_lighterInks (hW.s rfl) (e_X6_lighterInks ⟨hW, hA, hok⟩ (by omega)) rfl rfl rfl rfl rfl rfl rfl ?_
          refine pk_iload_n dX6_orderByDark_21 rfl ?_
          first | refine pk_neN (tgt := 32) dX6_orderByDark_22 (by decide) (by omega) (by omega) (fun c_22 => ?_) (fun c_22 => ?_) | refine pk_icmp_ne (tgt := 32) dX6_orderByDark_22 (by decide) (fun c_22 => ?_) (fun c_22 => ?_)
          · first | refine pk_inc1 dX6_orderByDark_32 rfl rfl ?_ | refine pk_iinc dX6_orderByDark_32 rfl rfl rfl ?_
            refine pk_goto (tgt := 11) dX6_orderByDark_35 (by decide) ?_
            refine pk_lsq ?_ K
            rw [show 5 * j + (i + 1) = 5 * j + i + 1 by omega, sp_fold_succ]
            generalize sp_fold (sp_byF A) 0 (5 * j + i) = z
            simp only [sp_byF, show (5 * j + i) % 5 = i by omega, show (5 * j + i) / 5 = j by omega]
            by_cases h : (sp_light A i == j) = true
            · rw [if_pos h]
              all_goals first | rfl | (exfalso; simp [c_22] at h; done)
            · rw [if_neg h]
              all_goals first | rfl | (exfalso; simp [c_22] at h; done)
          · refine pk_iload_n dX6_orderByDark_25 rfl ?_
            refine pk_bipush (v := nI 10) dX6_orderByDark_26 (by decide) ?_
            first | refine pk_mulN dX6_orderByDark_28 ?_ | refine pk_imul dX6_orderByDark_28 ?_
            refine pk_iload_n dX6_orderByDark_29 rfl ?_
            first | refine pk_addN dX6_orderByDark_30 ?_ | refine pk_iadd dX6_orderByDark_30 ?_
            refine pk_istore_n dX6_orderByDark_31 rfl rfl ?_
            first | refine pk_inc1 dX6_orderByDark_32 rfl rfl ?_ | refine pk_iinc dX6_orderByDark_32 rfl rfl rfl ?_
            refine pk_goto (tgt := 11) dX6_orderByDark_35 (by decide) ?_
            refine pk_lsq ?_ K
            rw [show 5 * j + (i + 1) = 5 * j + i + 1 by omega, sp_fold_succ]
            generalize sp_fold (sp_byF A) 0 (5 * j + i) = z
            simp only [sp_byF, show (5 * j + i) % 5 = i by omega, show (5 * j + i) / 5 = j by omega]
            by_cases h : (sp_light A i == j) = true
            · rw [if_pos h]
              all_goals first | rfl | (exfalso; simp [c_22] at h; done)
            · rw [if_neg h]
              all_goals first | rfl | (exfalso; simp [c_22] at h; done)
      · refine pk_iload_n dX6_orderByDark_11 rfl ?_
        refine pk_iconst (v := nI 5) dX6_orderByDark_12 (by decide) ?_
        first | refine pk_geN (tgt := 38) dX6_orderByDark_13 (by decide) (by omega) (by omega) (fun c_13 => ?_) (fun c_13 => ?_) | refine pk_icmp_ge (tgt := 38) dX6_orderByDark_13 (by decide) (fun c_13 => ?_) (fun c_13 => ?_)
        · first | refine pk_inc1 dX6_orderByDark_38 rfl rfl ?_ | refine pk_iinc dX6_orderByDark_38 rfl rfl rfl ?_
          refine pk_goto (tgt := 4) dX6_orderByDark_41 (by decide) ?_
          exact pk_fgt (by repeat first | exact trivial | refine ⟨rfl, ?_⟩) K1
        · omega
  · refine pk_iload_n dX6_orderByDark_4 rfl ?_
    refine pk_iconst (v := nI 5) dX6_orderByDark_5 (by decide) ?_
    first | refine pk_geN (tgt := 44) dX6_orderByDark_6 (by decide) (by omega) (by omega) (fun c_6 => ?_) (fun c_6 => ?_) | refine pk_icmp_ge (tgt := 44) dX6_orderByDark_6 (by decide) (fun c_6 => ?_) (fun c_6 => ?_)
    · refine pk_iload_n dX6_orderByDark_44 rfl ?_
      refine pk_reti dX6_orderByDark_45 (by first | rfl | exact pk_nbi _) ?_
      exact ⟨rfl, rfl⟩
    · omega

def sp_lg (f D : Nat) : Bool := sp_any (fun s => !(s == 0) && (D.testBit s && (s &&& (31 - f) == 0))) 32

set_option maxRecDepth 100000 in
set_option maxHeartbeats 4000000 in
theorem e_X6_leavesGap {Γ : pk_T} {M : pk_M} {f D : Nat} (hf : f < 32) (hD : D < 2 ^ 32) : pk_E Γ yX6_leavesGap cX6_leavesGap 3 (some .boolean) 1 0 0 M [.int (nI f), .int (nI D)] (fun r M' => r = some (.int (pk_bi (sp_lg f D))) ∧ M' = M) := by
  refine pk_meth (own := RX6) (ini := false) [some (.int (nI f)), some (.int (nI D)), none] (by decide +kernel) rfl (by decide +kernel) rfl rfl ?_
  refine pk_iconst (v := nI 1) dX6_leavesGap_0 (by decide) ?_
  refine pk_istore_n dX6_leavesGap_1 rfl rfl ?_
  refine pk_forJ 32 (fun j => 0 < j ∧ sp_any (fun s => !(s == 0) && (D.testBit s && (s &&& (31 - f) == 0))) j = false) (fun _ => M) (fun j => [some (.int (nI f)), some (.int (nI D)), some (.int (nI j))]) ?_ ?_ 1 (by omega) ⟨by decide, rfl⟩
  · intro j hj hJ K
    have h3 := pk_and_lt (b := 31 - f) hj
    have h0 : (j == 0) = false := by simp; omega
    refine pk_iload_n dX6_leavesGap_2 rfl ?_
    refine pk_bipush (v := nI 32) dX6_leavesGap_3 (by decide) ?_
    first | refine pk_geN (tgt := 32) dX6_leavesGap_5 (by decide) (by omega) (by omega) (fun c_5 => ?_) (fun c_5 => ?_) | refine pk_icmp_ge (tgt := 32) dX6_leavesGap_5 (by decide) (fun c_5 => ?_) (fun c_5 => ?_)
    · omega
    · refine pk_iload_n dX6_leavesGap_8 rfl ?_
      refine pk_iload_n dX6_leavesGap_9 rfl ?_
      refine pk_Si dX6_leavesGap_10 ml_X6_301 yw_X6_hasBit ys_X6_hasBit (e_X6_hasBit _ _ (by omega) (by omega)) rfl rfl rfl rfl rfl rfl rfl ?_
      first | refine pk_eqb (tgt := 26) dX6_leavesGap_13 (by decide) (fun c_13 => ?_) (fun c_13 => ?_) | refine pk_eq0N (tgt := 26) dX6_leavesGap_13 (by decide) (by omega) (fun c_13 => ?_) (fun c_13 => ?_) | refine pk_if_eq (tgt := 26) dX6_leavesGap_13 (by decide) (fun c_13 => ?_) (fun c_13 => ?_)
      · first | refine pk_inc1 dX6_leavesGap_26 rfl rfl ?_ | refine pk_iinc dX6_leavesGap_26 rfl rfl rfl ?_
        refine pk_goto (tgt := 2) dX6_leavesGap_29 (by decide) ?_
        exact K ⟨by omega, by rw [sp_any_succ, hJ.2]; first | simp [c_13, c_21] | simp [c_13]⟩
      · refine pk_iload_n dX6_leavesGap_16 rfl ?_
        refine pk_iload_n dX6_leavesGap_17 rfl ?_
        refine pk_iconst (v := -1) dX6_leavesGap_18 (by decide) ?_
        refine pk_ixor dX6_leavesGap_19 ?_
        refine pk_iand dX6_leavesGap_20 ?_
        rw [pk_dif j hj f hf]
        first | refine pk_neb (tgt := 26) dX6_leavesGap_21 (by decide) (fun c_21 => ?_) (fun c_21 => ?_) | refine pk_ne0N (tgt := 26) dX6_leavesGap_21 (by decide) (by omega) (fun c_21 => ?_) (fun c_21 => ?_) | refine pk_if_ne (tgt := 26) dX6_leavesGap_21 (by decide) (fun c_21 => ?_) (fun c_21 => ?_)
        · first | refine pk_inc1 dX6_leavesGap_26 rfl rfl ?_ | refine pk_iinc dX6_leavesGap_26 rfl rfl rfl ?_
          refine pk_goto (tgt := 2) dX6_leavesGap_29 (by decide) ?_
          exact K ⟨by omega, by rw [sp_any_succ, hJ.2]; first | simp [c_13, c_21] | simp [c_13]⟩
        · refine pk_iconst (v := nI 1) dX6_leavesGap_24 (by decide) ?_
          refine pk_reti dX6_leavesGap_25 (by first | rfl | exact pk_nbi _) ?_
          refine ⟨?_, rfl⟩
          rw [sp_lg, sp_any_true hj (by simp only [h0, c_13, c_21]; rfl)]
          rfl
  · intro hJ
    refine pk_iload_n dX6_leavesGap_2 rfl ?_
    refine pk_bipush (v := nI 32) dX6_leavesGap_3 (by decide) ?_
    first | refine pk_geN (tgt := 32) dX6_leavesGap_5 (by decide) (by omega) (by omega) (fun c_5 => ?_) (fun c_5 => ?_) | refine pk_icmp_ge (tgt := 32) dX6_leavesGap_5 (by decide) (fun c_5 => ?_) (fun c_5 => ?_)
    · refine pk_iconst (v := nI 0) dX6_leavesGap_32 (by decide) ?_
      refine pk_reti dX6_leavesGap_33 (by first | rfl | exact pk_nbi _) ?_
      refine ⟨?_, rfl⟩
      rw [sp_lg, hJ.2]
      rfl
    · omega

theorem pk_mod_half {a b : Nat} (hb : 0 < b) (hab : b ≤ a) : 2 * (b * (a % b)) ≤ a * b := by
  have h1 := Nat.div_add_mod a b
  have h2 : 1 ≤ a / b := (Nat.one_le_div_iff hb).mpr hab
  have h3 : a % b < b := Nat.mod_lt a hb
  have h4 : 2 * (a % b) ≤ a := by
    have : b * 1 ≤ b * (a / b) := Nat.mul_le_mul_left b h2
    omega
  have h5 := Nat.mul_le_mul_right b h4
  rw [Nat.mul_assoc, Nat.mul_comm (a % b) b] at h5
  exact h5

set_option maxRecDepth 100000 in
set_option maxHeartbeats 4000000 in
theorem e_X6_commonDivisor {Γ : pk_T} {M : pk_M} {a b : Nat} (ha : a < 2 ^ 17) (hb : b < 2 ^ 17) (hb0 : 0 < b) (hab : a ≤ b) : pk_E Γ yX6_commonDivisor cX6_commonDivisor 6 (some .int) 0 0 0 M [.int (nI a), .int (nI b)] (fun r M' => r = some (.int (nI (Nat.gcd a b))) ∧ M' = M) := by
  refine pk_meth (own := RX6) (ini := false) [some (.int (nI a)), some (.int (nI b)), none, none, none, none] (by decide +kernel) rfl (by decide +kernel) rfl rfl ?_
  have L : ∀ z : Nat × Nat × Nat × Nat, (fun z : Nat × Nat × Nat × Nat => Nat.gcd z.2.1 z.2.2.1 = Nat.gcd a b ∧ z.2.1 < 2 ^ 31 ∧ z.2.2.1 < 2 ^ 31 ∧ z.2.1 * z.2.2.1 < 2 ^ z.2.2.2 ∧ z.2.2.1 ≤ z.2.1 ∧ z.1 + z.2.2.2 ≤ 60) z → pk_G Γ (pk_kq Γ RX6 6 (some .int) false 0 0 0 (List.map (pk_gv Γ) [Value.int (nI a), Value.int (nI b)]).toArray (fun r M' => r = some (.int (nI (Nat.gcd a b))) ∧ M' = M)) cX6_commonDivisor M [some (.int (nI a)), some (.int (nI b)), some (.int (nI z.2.1)), some (.int (nI z.2.2.1)), some (.int (nI z.1)), none] [] 7 0 0 := by
    refine pk_wf (fun z => z.2.2.1) (fun z : Nat × Nat × Nat × Nat => Nat.gcd z.2.1 z.2.2.1 = Nat.gcd a b ∧ z.2.1 < 2 ^ 31 ∧ z.2.2.1 < 2 ^ 31 ∧ z.2.1 * z.2.2.1 < 2 ^ z.2.2.2 ∧ z.2.2.1 ≤ z.2.1 ∧ z.1 + z.2.2.2 ≤ 60) (fun _ => M) (fun z => [some (.int (nI a)), some (.int (nI b)), some (.int (nI z.2.1)), some (.int (nI z.2.2.1)), some (.int (nI z.1)), none]) ?_
    rintro ⟨t, g, l, m⟩ ⟨j1, j2, j3, j4, j5, j6⟩ K
    dsimp only at j1 j2 j3 j4 j5 j6 K ⊢
    refine pk_iload dX6_commonDivisor_7 rfl ?_
    refine pk_bipush (v := nI 64) dX6_commonDivisor_9 (by decide) ?_
    first | refine pk_geN (tgt := 34) dX6_commonDivisor_11 (by decide) (by omega) (by omega) (fun c_11 => ?_) (fun c_11 => ?_) | refine pk_icmp_ge (tgt := 34) dX6_commonDivisor_11 (by decide) (fun c_11 => ?_) (fun c_11 => ?_)
    · omega
    · refine pk_iload_n dX6_commonDivisor_14 rfl ?_
      first | refine pk_eqb (tgt := 34) dX6_commonDivisor_15 (by decide) (fun c_15 => ?_) (fun c_15 => ?_) | refine pk_eq0N (tgt := 34) dX6_commonDivisor_15 (by decide) (by omega) (fun c_15 => ?_) (fun c_15 => ?_) | refine pk_if_eq (tgt := 34) dX6_commonDivisor_15 (by decide) (fun c_15 => ?_) (fun c_15 => ?_)
      · refine pk_iload_n dX6_commonDivisor_34 rfl ?_
        refine pk_reti dX6_commonDivisor_35 (by first | rfl | exact pk_nbi _) ?_
        refine ⟨?_, rfl⟩
        rw [← j1, c_15, Nat.gcd_zero_right]
      · refine pk_iload_n dX6_commonDivisor_18 rfl ?_
        refine pk_iload_n dX6_commonDivisor_19 rfl ?_
        first | refine pk_remN dX6_commonDivisor_20 (by omega) (by omega) (by omega) ?_ | refine pk_irem dX6_commonDivisor_20 (by first | assumption | decide) ?_
        refine pk_istore dX6_commonDivisor_21 rfl rfl ?_
        refine pk_iload_n dX6_commonDivisor_23 rfl ?_
        refine pk_istore_n dX6_commonDivisor_24 rfl rfl ?_
        refine pk_iload dX6_commonDivisor_25 rfl ?_
        refine pk_istore_n dX6_commonDivisor_27 rfl rfl ?_
        first | refine pk_inc1 dX6_commonDivisor_28 rfl rfl ?_ | refine pk_iinc dX6_commonDivisor_28 rfl rfl rfl ?_
        refine pk_goto (tgt := 7) dX6_commonDivisor_31 (by decide) ?_
        refine pk_fgt (ls' := _) ?_ (K (t + 1, l, g % l, m - 1) ⟨?_, j3, ?_, ?_, ?_, ?_⟩ ?_)
        · exact ⟨rfl, rfl, rfl, rfl, rfl, trivial⟩
        · dsimp only
          rw [← j1, Nat.gcd_comm g l, Nat.gcd_rec l g, Nat.gcd_comm (g % l) l]
        · have := Nat.mod_lt g (show 0 < l by omega)
          dsimp only
          omega
        · have h1 := pk_mod_half (show 0 < l by omega) j5
          have h2 : 0 < m := by
            rcases Nat.eq_zero_or_pos m with h | h
            · subst h
              have := Nat.mul_pos (show 0 < g by omega) (show 0 < l by omega)
              omega
            · exact h
          obtain ⟨m', rfl⟩ : ∃ m', m = m' + 1 := ⟨m - 1, by omega⟩
          dsimp only
          rw [Nat.pow_succ] at j4
          rw [Nat.add_sub_cancel]
          omega
        · have := Nat.mod_lt g (show 0 < l by omega)
          dsimp only
          omega
        · dsimp only
          have h2 : 0 < m := by
            rcases Nat.eq_zero_or_pos m with h | h
            · subst h
              have := Nat.mul_pos (show 0 < g by omega) (show 0 < l by omega)
              omega
            · exact h
          omega
        · exact Nat.mod_lt g (by omega)
  refine pk_iload_n dX6_commonDivisor_0 rfl ?_
  refine pk_istore_n dX6_commonDivisor_1 rfl rfl ?_
  refine pk_iload_n dX6_commonDivisor_2 rfl ?_
  refine pk_istore_n dX6_commonDivisor_3 rfl rfl ?_
  refine pk_iconst (v := nI 0) dX6_commonDivisor_4 (by decide) ?_
  refine pk_istore dX6_commonDivisor_5 rfl rfl ?_
  skip
  refine pk_iload dX6_commonDivisor_7 rfl ?_
  refine pk_bipush (v := nI 64) dX6_commonDivisor_9 (by decide) ?_
  first | refine pk_geN (tgt := 34) dX6_commonDivisor_11 (by decide) (by omega) (by omega) (fun c_11 => ?_) (fun c_11 => ?_) | refine pk_icmp_ge (tgt := 34) dX6_commonDivisor_11 (by decide) (fun c_11 => ?_) (fun c_11 => ?_)
  · exact absurd c_11 (by decide)
  · refine pk_iload_n dX6_commonDivisor_14 rfl ?_
    refine pk_eq0N (tgt := 34) dX6_commonDivisor_15 (by decide) (by omega) (fun c_15 => ?_) (fun c_15 => ?_)
    · omega
    · refine pk_iload_n dX6_commonDivisor_18 rfl ?_
      refine pk_iload_n dX6_commonDivisor_19 rfl ?_
      first | refine pk_remN dX6_commonDivisor_20 (by omega) (by omega) (by omega) ?_ | refine pk_irem dX6_commonDivisor_20 (by first | assumption | decide) ?_
      refine pk_istore dX6_commonDivisor_21 rfl rfl ?_
      refine pk_iload_n dX6_commonDivisor_23 rfl ?_
      refine pk_istore_n dX6_commonDivisor_24 rfl rfl ?_
      refine pk_iload dX6_commonDivisor_25 rfl ?_
      refine pk_istore_n dX6_commonDivisor_27 rfl rfl ?_
      first | refine pk_inc1 dX6_commonDivisor_28 rfl rfl ?_ | refine pk_iinc dX6_commonDivisor_28 rfl rfl rfl ?_
      refine pk_goto (tgt := 7) dX6_commonDivisor_31 (by decide) ?_
      refine pk_fgt (ls' := _) ?_ (L (1, b, a % b, 35) ⟨?_, by dsimp only; omega, ?_, ?_, ?_, by show 1 + 35 ≤ 60; decide⟩)
      · exact ⟨rfl, rfl, rfl, rfl, rfl, trivial⟩
      · dsimp only
        rw [Nat.gcd_comm a b, Nat.gcd_rec b a, Nat.gcd_comm (a % b) b]
      · have := Nat.mod_lt a hb0
        dsimp only
        omega
      · have h1 := Nat.mod_le a b
        have h2 : b * (a % b) ≤ b * a := Nat.mul_le_mul_left b h1
        have h3 : b * a ≤ 2 ^ 17 * 2 ^ 17 := Nat.mul_le_mul (by omega) (by omega)
        dsimp only
        omega
      · have := Nat.mod_lt a hb0
        dsimp only
        omega
