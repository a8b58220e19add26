/-! The model: sheets. -/
theorem pk_gJ0 {M : pk_M} {p k q j : Nat} {x z : Int64} (h : q ≠ p ∨ j ≠ k) (e : pk_J M q j = z) : pk_J (pk_sJ M p k x) q j = z := by
  rw [pk_J_sJ, if_neg (by omega)]
  exact e
theorem pk_gJ1 {M : pk_M} {p k q j : Nat} {x z : Int64} (h1 : q = p) (h2 : j = k) (e : x = z) : pk_J (pk_sJ M p k x) q j = z := by
  rw [pk_J_sJ, if_pos ⟨h1, h2⟩]
  exact e
theorem pk_RM.sh {L k : Nat} {M M1 : pk_M} {X : pk_X} {R : pk_Ro} (h : pk_ff (fun q => q = 114 ∨ q = 115 ∨ q = 116 ∨ q = 117) M M1) (hR : pk_RM L M X) (ho : ∀ j, j < 4 → j ≠ k → pm_sh M1 j (X.2.2.2.2 j)) (hw : pm_sh M1 k R) : pk_RM L M1 (x_S X k R) := by
  obtain ⟨h1, h2, h3, h4, h5, h6⟩ := hR
  refine ⟨h.wf h1, h2.ff h (by omega), ⟨(h.I (by omega) 5).trans h3.1, fun k hk => (h3.2 k hk).ff h (by omega)⟩, ⟨(h.I (by omega) 16).trans h4.1, fun e => ⟨(h4.2 e).1.ff h (by omega), fun k hk => ((h4.2 e).2 k hk).ff h (by omega)⟩⟩, ⟨(h.I (by omega) 8).trans h5.1, fun i hi => (h.I (by omega) i).trans (h5.2 i hi)⟩, fun j hj => ?_⟩
  show pm_sh M1 j (if j = k then R else X.2.2.2.2 j)
  by_cases e : j = k
  · rw [if_pos e, e]
    exact hw
  · rw [if_neg e]
    exact ho j hj e
/-- only items of the sheet k have changed -/
def pm_it (M M1 : pk_M) (k : Nat) : Prop := pk_ff (fun q => q = 116 ∨ q = 117) M M1 ∧ ∀ p, ¬ (24 * k ≤ p ∧ p < 24 * k + 24) → pk_J M1 116 p = pk_J M 116 p
theorem pk_RM.it {L k : Nat} {M M1 : pk_M} {X : pk_X} {f : Nat → Int64} (h : pm_it M M1 k) (hk : k < 4) (hR : pk_RM L M X) (hf : ∀ j, j < 24 → pk_J M1 116 (24 * k + j) = f j) : pk_RM L M1 (x_S X k ((X.2.2.2.2 k).1, (X.2.2.2.2 k).2.1, (X.2.2.2.2 k).2.2.1, f)) := by
  have h6 := hR.2.2.2.2.2
  exact hR.sh (h.1.mono (fun q h => by omega)) (fun j hj e => ⟨(h.1.I (by omega) j).trans (h6 j hj).1, (h.1.I (by omega) j).trans (h6 j hj).2.1, fun i hi => (h.2 _ (by omega)).trans ((h6 j hj).2.2 i hi)⟩) ⟨(h.1.I (by omega) k).trans (h6 k hk).1, (h.1.I (by omega) k).trans (h6 k hk).2.1, hf⟩
theorem sp_has_n {m a b : Nat} (hm : m ≤ 24) (ha : a < 2 ^ 31) (hb : b < 2 ^ 31) : sp_has m (nI a) (nI b) = decide (a + b ≤ m) := by
  unfold sp_has
  rw [decide_eq_true (nI_pos' ha), decide_eq_true (nI_pos' hb), Bool.true_and, Bool.and_true]
  by_cases c : a ≤ m
  · rw [decide_eq_true (nI_le c (by omega)), Bool.true_and, pk_nsub c]
    apply decide_eq_decide.mpr
    rw [nI_leI hb (by omega)]
    omega
  · rw [decide_eq_false (fun h => c ((nI_leI ha (by omega)).mp h)), Bool.false_and, decide_eq_false (by omega)]
theorem sp_has_i {m : Nat} {i n : Int32} (h : i < 0) : sp_has m i n = false := by
  unfold sp_has
  rw [decide_eq_false (Int32.not_le.mpr h)]
  rfl
theorem sp_has_m {m : Nat} {i n : Int32} (h : n < 0) : sp_has m i n = false := by
  unfold sp_has
  rw [decide_eq_false (Int32.not_le.mpr h), Bool.and_false, Bool.false_and]
theorem pm_sle {m a b : Nat} (hm : m ≤ 24) (ha : a < 2 ^ 31) (hb : b < 2 ^ 31) (hb1 : 1 ≤ b) : nI b ≤ nI m - nI a ↔ a + b ≤ m := by
  by_cases c : a ≤ m
  · rw [pk_nsub c, nI_leI hb (by omega)]
    omega
  · have e : nI m - nI a = -nI (a - m) := by
      obtain ⟨d, rfl⟩ : ∃ d, a = m + d := ⟨a - m, by omega⟩
      rw [Nat.add_sub_cancel_left]
      apply Int32.toInt_inj.mp
      rw [Int32.toInt_sub, Int32.toInt_neg, nI_toInt (by omega), nI_toInt (by omega), nI_toInt (by omega)]
      congr 1
      omega
    constructor
    · intro h
      exfalso
      rw [e, Int32.le_iff_toInt_le, Int32.toInt_neg, nI_toInt hb, nI_toInt (by omega)] at h
      rw [Int.bmod_eq_of_le (by omega) (by omega)] at h
      omega
    · intro h
      omega

set_option maxRecDepth 100000 in
set_option maxHeartbeats 4000000 in
theorem e_X7_cut {Γ : pk_T} {M : pk_M} {v : Int64} {l : Nat} (hl : l < 4) : pk_E Γ yX7_cut cX7_cut 3 (some .long) 0 0 0 M [.long v, .int (nI l)] (fun r M' => r = some (.long (sp_cut l v)) ∧ M' = M) := by
  refine pk_meth (own := RX7) (ini := false) [some (.long v), none, some (.int (nI l))] (by decide +kernel) rfl (by decide +kernel) rfl rfl ?_
  obtain rfl | rfl | rfl | rfl : l = 0 ∨ l = 1 ∨ l = 2 ∨ l = 3 := by omega
  · refine pk_iload_n dX7_cut_0 rfl ?_
    refine pk_ne0N (a := 0) (tgt := 11) dX7_cut_1 (by decide) (by decide) (fun c_1 => ?_) (fun c_1 => ?_)
    · omega
    · refine pk_lload_n dX7_cut_4 rfl ?_
      refine pk_l2i dX7_cut_5 ?_
      refine pk_i2b dX7_cut_6 ?_
      refine pk_i2l dX7_cut_7 ?_
      refine pk_goto (tgt := 35) dX7_cut_8 (by decide) ?_
      refine pk_retl dX7_cut_35 ?_
      exact ⟨rfl, rfl⟩
  · refine pk_iload_n dX7_cut_0 rfl ?_
    refine pk_ne0N (a := 1) (tgt := 11) dX7_cut_1 (by decide) (by decide) (fun c_1 => ?_) (fun c_1 => ?_)
    · refine pk_iload_n dX7_cut_11 rfl ?_
      refine pk_iconst (v := nI 1) dX7_cut_12 (by decide) ?_
      refine pk_neN (a := 1) (b := 1) (tgt := 23) dX7_cut_13 (by decide) (by decide) (by decide) (fun c_13 => ?_) (fun c_13 => ?_)
      · omega
      · refine pk_lload_n dX7_cut_16 rfl ?_
        refine pk_l2i dX7_cut_17 ?_
        refine pk_i2s dX7_cut_18 ?_
        refine pk_i2l dX7_cut_19 ?_
        refine pk_goto (tgt := 35) dX7_cut_20 (by decide) ?_
        refine pk_retl dX7_cut_35 ?_
        exact ⟨rfl, rfl⟩
    · omega
  · refine pk_iload_n dX7_cut_0 rfl ?_
    refine pk_ne0N (a := 2) (tgt := 11) dX7_cut_1 (by decide) (by decide) (fun c_1 => ?_) (fun c_1 => ?_)
    · refine pk_iload_n dX7_cut_11 rfl ?_
      refine pk_iconst (v := nI 1) dX7_cut_12 (by decide) ?_
      refine pk_neN (a := 2) (b := 1) (tgt := 23) dX7_cut_13 (by decide) (by decide) (by decide) (fun c_13 => ?_) (fun c_13 => ?_)
      · refine pk_iload_n dX7_cut_23 rfl ?_
        refine pk_iconst (v := nI 2) dX7_cut_24 (by decide) ?_
        refine pk_neN (a := 2) (b := 2) (tgt := 34) dX7_cut_25 (by decide) (by decide) (by decide) (fun c_25 => ?_) (fun c_25 => ?_)
        · omega
        · refine pk_lload_n dX7_cut_28 rfl ?_
          refine pk_l2i dX7_cut_29 ?_
          refine pk_i2l dX7_cut_30 ?_
          refine pk_goto (tgt := 35) dX7_cut_31 (by decide) ?_
          refine pk_retl dX7_cut_35 ?_
          exact ⟨rfl, rfl⟩
      · omega
    · omega
  · refine pk_iload_n dX7_cut_0 rfl ?_
    refine pk_ne0N (a := 3) (tgt := 11) dX7_cut_1 (by decide) (by decide) (fun c_1 => ?_) (fun c_1 => ?_)
    · refine pk_iload_n dX7_cut_11 rfl ?_
      refine pk_iconst (v := nI 1) dX7_cut_12 (by decide) ?_
      refine pk_neN (a := 3) (b := 1) (tgt := 23) dX7_cut_13 (by decide) (by decide) (by decide) (fun c_13 => ?_) (fun c_13 => ?_)
      · refine pk_iload_n dX7_cut_23 rfl ?_
        refine pk_iconst (v := nI 2) dX7_cut_24 (by decide) ?_
        refine pk_neN (a := 3) (b := 2) (tgt := 34) dX7_cut_25 (by decide) (by decide) (by decide) (fun c_25 => ?_) (fun c_25 => ?_)
        · refine pk_lload_n dX7_cut_34 rfl ?_
          refine pk_retl dX7_cut_35 ?_
          exact ⟨rfl, rfl⟩
        · omega
      · omega
    · omega

set_option maxRecDepth 100000 in
set_option maxHeartbeats 4000000 in
theorem e_X7_why {Γ : pk_T} {M : pk_M} {L s b : Nat} {S : pk_Ro} (hW : pk_WF L M) (hS : pm_sh M s S) (hs : s < 4) (hS1 : S.2.1 < 4) (hS2 : S.2.2.1 ≤ 24) (hb : 1 ≤ b) (hb2 : b < 2 ^ 31) (l i : Int32) : pk_E Γ yX7_why cX7_why 5 (some .int) 0 0 0 M [.ref 103, .int (nI s), .int l, .int i, .int (nI b)] (fun r M' => r = some (.int (sp_why S l i (nI b))) ∧ M' = M) := by
  refine pk_meth (own := RX7) (ini := false) [some (.ref 103), some (.int (nI s)), some (.int l), some (.int i), some (.int (nI b))] (by decide +kernel) rfl (by decide +kernel) rfl rfl ?_
  have hl := hS.1
  cases hb0 : S.1 with
  | false =>
    rw [hb0, if_neg (by decide)] at hl
    refine pk_aload_n dX7_why_0 rfl ?_
    refine pk_getP dX7_why_1 fl_X7_44 rfl (hW.s rfl) (hW.p rfl) ?_
    refine pk_iload_n dX7_why_4 rfl ?_
    refine pk_aldV dX7_why_5 (hW.s rfl) (by omega) (by omega) hl ?_
    refine pk_if_ge (tgt := 12) dX7_why_6 (by decide) (fun c_6 => ?_) (fun c_6 => ?_)
    · exact absurd c_6 (by decide)
    · refine pk_bipush (v := -11) dX7_why_9 (by decide) ?_
      refine pk_reti dX7_why_11 (by first | rfl | exact pk_nbi _) ?_
      unfold sp_why
      rw [if_pos hb0]
      exact ⟨rfl, rfl⟩
  | true =>
    rw [hb0, if_pos rfl] at hl
    refine pk_aload_n dX7_why_0 rfl ?_
    refine pk_getP dX7_why_1 fl_X7_44 rfl (hW.s rfl) (hW.p rfl) ?_
    refine pk_iload_n dX7_why_4 rfl ?_
    refine pk_aldV dX7_why_5 (hW.s rfl) (by omega) (by omega) hl ?_
    refine pk_if_ge (tgt := 12) dX7_why_6 (by decide) (fun c_6 => ?_) (fun c_6 => ?_)
    · refine pk_aload_n dX7_why_12 rfl ?_
      refine pk_getP dX7_why_13 fl_X7_44 rfl (hW.s rfl) (hW.p rfl) ?_
      refine pk_iload_n dX7_why_16 rfl ?_
      refine pk_aldV dX7_why_17 (hW.s rfl) (by omega) (by omega) hl ?_
      refine pk_iload_n dX7_why_18 rfl ?_
      refine pk_icmp_eq (tgt := 25) dX7_why_19 (by decide) (fun c_19 => ?_) (fun c_19 => ?_)
      · unfold sp_why
        rw [if_neg (by rw [hb0]; decide), if_neg (fun h => h c_19)]
        refine pk_iload_n dX7_why_25 rfl ?_
        refine pk_if_lt (tgt := 42) dX7_why_26 (by decide) (fun c_26 => ?_) (fun c_26 => ?_)
        · refine pk_bipush (v := -13) dX7_why_42 (by decide) ?_
          refine pk_goto (tgt := 48) dX7_why_44 (by decide) ?_
          refine pk_reti dX7_why_48 (by first | rfl | exact pk_nbi _) ?_
          rw [sp_has_i c_26, if_neg (by decide)]
          exact ⟨rfl, rfl⟩
        · obtain ⟨a, ha, rfl⟩ := nI_of c_26
          refine pk_iload dX7_why_29 rfl ?_
          refine pk_aload_n dX7_why_31 rfl ?_
          refine pk_getP dX7_why_32 fl_X7_47 rfl (hW.s rfl) (hW.p rfl) ?_
          refine pk_iload_n dX7_why_35 rfl ?_
          refine pk_aldN dX7_why_36 (hW.s rfl) (by omega) (by omega) hS.2.1 ?_
          refine pk_iload_n dX7_why_37 rfl ?_
          refine pk_isub dX7_why_38 ?_
          refine pk_icmp_le (tgt := 47) dX7_why_39 (by decide) (fun c_39 => ?_) (fun c_39 => ?_)
          · refine pk_iconst (v := nI 0) dX7_why_47 (by decide) ?_
            refine pk_reti dX7_why_48 (by first | rfl | exact pk_nbi _) ?_
            rw [sp_has_n hS2 ha hb2, if_pos (decide_eq_true ((pm_sle hS2 ha hb2 hb).mp c_39))]
            exact ⟨rfl, rfl⟩
          · refine pk_bipush (v := -13) dX7_why_42 (by decide) ?_
            refine pk_goto (tgt := 48) dX7_why_44 (by decide) ?_
            refine pk_reti dX7_why_48 (by first | rfl | exact pk_nbi _) ?_
            rw [sp_has_n hS2 ha hb2, if_neg (fun h => c_39 ((pm_sle hS2 ha hb2 hb).mpr (of_decide_eq_true h)))]
            exact ⟨rfl, rfl⟩
      · refine pk_bipush (v := -12) dX7_why_22 (by decide) ?_
        refine pk_reti dX7_why_24 (by first | rfl | exact pk_nbi _) ?_
        unfold sp_why
        rw [if_neg (by rw [hb0]; decide), if_pos c_19]
        exact ⟨rfl, rfl⟩
    · exact absurd (nI_pos' (by omega)) c_6

theorem sp_why_neg (S : pk_Ro) (l i n : Int32) : (sp_why S l i n < 0 ↔ ¬ sp_why S l i n = 0) := by
  unfold sp_why
  repeat' split
  all_goals decide

set_option maxRecDepth 100000 in
set_option maxHeartbeats 4000000 in
theorem e_X7_sheet {Γ : pk_T} {M : pk_M} {L : Nat} {X : pk_X} (hR : pk_RM L M X) (hX : pk_okX X) (s l n : Int32) : pk_E Γ yX7_sheet cX7_sheet 5 (some .int) 2 0 0 M [.ref 103, .int s, .int l, .int n] (fun r M' => r = some (.int (op_sheet X s l n).1) ∧ pk_mf M M' ∧ pk_RM L M' (op_sheet X s l n).2) := by
  have hR0 := hR
  obtain ⟨hW, hA, hU, hK, hTp, hSh⟩ := hR0
  have hok := hX.1
  have hw := hok.1
  have hh := hok.2.1
  have hs := hok.2.2.2.2.2.2.2.1
  have hn6 := hX.2.1.1
  refine pk_meth (own := RX7) (ini := false) [some (.ref 103), some (.int s), some (.int l), some (.int n), none] (by decide +kernel) rfl (by decide +kernel) rfl rfl ?_
  refine pk_iload_n dX7_sheet_0 rfl ?_
  refine pk_Si dX7_sheet_1 ml_X7_280 yw_X7_isSheet ys_X7_isSheet (e_X7_isSheet _) rfl rfl rfl rfl rfl rfl rfl ?_
  first | refine pk_eqb (tgt := 25) dX7_sheet_4 (by decide) (fun c_4 => ?_) (fun c_4 => ?_) | refine pk_eq0N (tgt := 25) dX7_sheet_4 (by decide) (by omega) (fun c_4 => ?_) (fun c_4 => ?_) | refine pk_if_eq (tgt := 25) dX7_sheet_4 (by decide) (fun c_4 => ?_) (fun c_4 => ?_)
  · refine pk_iconst (v := -1) dX7_sheet_25 (by decide) ?_
    refine pk_reti dX7_sheet_26 (by first | rfl | exact pk_nbi _) ?_
    rw [op_sheet, if_pos]
    · exact ⟨rfl, pk_ff.rf _ M, hR⟩
    · exact Or.inl (by rw [c_4, Bool.false_and])
  · refine pk_iload_n dX7_sheet_7 rfl ?_
    refine pk_i2l dX7_sheet_8 ?_
    refine pk_lconst (v := 0) dX7_sheet_9 (by decide) ?_
    refine pk_ldc2 dX7_sheet_10 kc_X7_210 ?_
    refine pk_Si dX7_sheet_13 ml_X7_59 yw_X7_in ys_X7_in (e_X7_inB _ (N := 3) (by omega) (by decide)) rfl rfl rfl rfl rfl rfl rfl ?_
    first | refine pk_eqb (tgt := 25) dX7_sheet_16 (by decide) (fun c_16 => ?_) (fun c_16 => ?_) | refine pk_eq0N (tgt := 25) dX7_sheet_16 (by decide) (by omega) (fun c_16 => ?_) (fun c_16 => ?_) | refine pk_if_eq (tgt := 25) dX7_sheet_16 (by decide) (fun c_16 => ?_) (fun c_16 => ?_)
    · refine pk_iconst (v := -1) dX7_sheet_25 (by decide) ?_
      refine pk_reti dX7_sheet_26 (by first | rfl | exact pk_nbi _) ?_
      rw [op_sheet, if_pos]
      · exact ⟨rfl, pk_ff.rf _ M, hR⟩
      · exact Or.inl (by rw [show sp_b l 4 = false from c_16, Bool.and_false])
    · refine pk_iload_n dX7_sheet_19 rfl ?_
      refine pk_bipush (v := nI 24) dX7_sheet_20 (by decide) ?_
      refine pk_icmp_le (tgt := 27) dX7_sheet_22 (by decide) (fun c_22 => ?_) (fun c_22 => ?_)
      · rw [op_sheet, if_neg (fun h => h.elim (fun z => by rw [c_4, show sp_b l 4 = true from c_16] at z; cases z) (fun z => Int32.not_lt.mpr c_22 z))]
        obtain ⟨s, hs4, rfl⟩ := sp_b_of c_4 (by decide)
        obtain ⟨l, hl4, rfl⟩ := sp_b_of c_16 (by decide)
        refine pk_iload_n dX7_sheet_27 rfl ?_
        refine pk_if_ge (tgt := 34) dX7_sheet_28 (by decide) (fun c_28 => ?_) (fun c_28 => ?_)
        · obtain ⟨n, hn, rfl⟩ := nI_of (x := n) (Int32.not_lt.mpr c_28)
          have hn24 := (nI_leI hn (by decide)).mp c_22
          rw [if_neg (Int32.not_lt.mpr c_28), nI_clamp (show s < 2 ^ 31 by omega), nI_clamp (show l < 2 ^ 31 by omega), nI_clamp hn]
          refine pk_aload_n dX7_sheet_34 rfl ?_
          refine pk_getP dX7_sheet_35 fl_X7_44 rfl (hW.s rfl) (hW.p rfl) ?_
          refine pk_iload_n dX7_sheet_38 rfl ?_
          refine pk_iload_n dX7_sheet_39 rfl ?_
          refine pk_astN dX7_sheet_40 (hW.s rfl) (by omega) (by omega) (by omega) ?_
          refine pk_aload_n dX7_sheet_41 rfl ?_
          refine pk_getP dX7_sheet_42 fl_X7_47 rfl (hW.s rfl) (hW.p rfl) ?_
          refine pk_iload_n dX7_sheet_45 rfl ?_
          refine pk_iload_n dX7_sheet_46 rfl ?_
          refine pk_astN dX7_sheet_47 (hW.s rfl) (by omega) (by omega) (by omega) ?_
          refine pk_iconst (v := nI 0) dX7_sheet_48 (by decide) ?_
          refine pk_istore dX7_sheet_49 rfl rfl ?_
          refine pk_wf (fun z => 24 - z.1) (fun z : Nat × pk_M => z.1 ≤ 24 ∧ pk_ff (fun q => q = 116) (pk_sI (pk_sI M 114 s (nI l)) 115 s (nI n)) z.2 ∧ (∀ j, j < z.1 → pk_J z.2 116 (24 * s + j) = 0) ∧ ∀ p, ¬ (24 * s ≤ p ∧ p < 24 * s + 24) → pk_J z.2 116 p = pk_J M 116 p) (fun z => z.2) (fun z => [some (.ref 103), some (.int (nI s)), some (.int (nI l)), some (.int (nI n)), some (.int (nI z.1))]) ?_ (0, (pk_sI (pk_sI M 114 s (nI l)) 115 s (nI n))) ⟨Nat.zero_le _, pk_ff.rf _ _, fun j hj => absurd hj (Nat.not_lt_zero j), fun p _ => rfl⟩
          rintro ⟨j, N⟩ ⟨hj, hF, h0, ho⟩ K
          dsimp only at hj hF h0 ho K ⊢
          have hWN : pk_WF L N := hF.wf (hW.to rfl rfl)
          refine pk_iload dX7_sheet_51 rfl ?_
          refine pk_bipush (v := nI 24) dX7_sheet_53 (by decide) ?_
          first | refine pk_geN (tgt := 77) dX7_sheet_55 (by decide) (by omega) (by omega) (fun c_55 => ?_) (fun c_55 => ?_) | refine pk_icmp_ge (tgt := 77) dX7_sheet_55 (by decide) (fun c_55 => ?_) (fun c_55 => ?_)
          · refine pk_iload_n dX7_sheet_77 rfl ?_
            refine pk_reti dX7_sheet_78 (by first | rfl | exact pk_nbi _) ?_
            have e24 : j = 24 := by omega
            subst e24
            have hff : pk_ff (fun q => q = 114 ∨ q = 115 ∨ q = 116 ∨ q = 117) M N := (((pk_fr.sI (Or.inl rfl)).tr (pk_fr.sI (Or.inr (Or.inl rfl)))).ff).tr (hF.mono (fun q h => by omega))
            refine ⟨rfl, hff.mono (fun q h => by omega), hR.sh hff (fun i hi e => ⟨(hF.I (by omega) i).trans (pk_gS0 (by omega) (pk_gS0 (by omega) (hSh i hi).1)), (hF.I (by omega) i).trans (pk_gS0 (by omega) (pk_gS0 (by omega) (hSh i hi).2.1)), fun q hq => (ho _ (by omega)).trans ((hSh i hi).2.2 q hq)⟩) ⟨(hF.I (by omega) s).trans (pk_gS0 (by omega) (pk_gS1 rfl rfl rfl)), (hF.I (by omega) s).trans (pk_gS1 rfl rfl rfl), fun q hq => h0 q hq⟩⟩
          · refine pk_aload_n dX7_sheet_58 rfl ?_
            refine pk_getP dX7_sheet_59 fl_X7_50 rfl (hWN.s rfl) (hWN.p rfl) ?_
            refine pk_bipush (v := nI 24) dX7_sheet_62 (by decide) ?_
            refine pk_iload_n dX7_sheet_64 rfl ?_
            first | refine pk_mulN dX7_sheet_65 ?_ | refine pk_imul dX7_sheet_65 ?_
            refine pk_iload dX7_sheet_66 rfl ?_
            first | refine pk_addN dX7_sheet_68 ?_ | refine pk_iadd dX7_sheet_68 ?_
            refine pk_lconst (v := 0) dX7_sheet_69 (by decide) ?_
            refine pk_lasN dX7_sheet_70 (hWN.s rfl) (by omega) (by omega) (by omega) ?_
            first | refine pk_inc1 dX7_sheet_71 rfl rfl ?_ | refine pk_iinc dX7_sheet_71 rfl rfl rfl ?_
            refine pk_goto (tgt := 51) dX7_sheet_74 (by decide) ?_
            exact K (j + 1, _) ⟨by dsimp only; omega, hF.tr (pk_ff.sJ rfl), fun i hi => by
              dsimp only at hi
              by_cases e : i = j
              · subst e
                exact pk_gJ1 rfl rfl rfl
              · exact pk_gJ0 (by omega) (h0 i (by omega)), fun p hp => pk_gJ0 (by omega) (ho p hp)⟩ (by dsimp only; omega)
        · refine pk_bipush (v := -14) dX7_sheet_31 (by decide) ?_
          refine pk_reti dX7_sheet_33 (by first | rfl | exact pk_nbi _) ?_
          rw [if_pos (Int32.not_le.mp c_28)]
          exact ⟨rfl, pk_ff.rf _ M, hR⟩
      · refine pk_iconst (v := -1) dX7_sheet_25 (by decide) ?_
        refine pk_reti dX7_sheet_26 (by first | rfl | exact pk_nbi _) ?_
        rw [op_sheet, if_pos]
        · exact ⟨rfl, pk_ff.rf _ M, hR⟩
        · exact Or.inr (Int32.not_le.mp c_22)

set_option maxRecDepth 100000 in
set_option maxHeartbeats 4000000 in
theorem e_X7_drop {Γ : pk_T} {M : pk_M} {L : Nat} {X : pk_X} (hR : pk_RM L M X) (hX : pk_okX X) (s : Int32) : pk_E Γ yX7_drop cX7_drop 2 (some .int) 2 0 0 M [.ref 103, .int s] (fun r M' => r = some (.int (op_drop X s).1) ∧ pk_mf M M' ∧ pk_RM L M' (op_drop X s).2) := by
  have hR0 := hR
  obtain ⟨hW, hA, hU, hK, hTp, hSh⟩ := hR0
  have hok := hX.1
  have hw := hok.1
  have hh := hok.2.1
  have hs := hok.2.2.2.2.2.2.2.1
  have hn6 := hX.2.1.1
  refine pk_meth (own := RX7) (ini := false) [some (.ref 103), some (.int s)] (by decide +kernel) rfl (by decide +kernel) rfl rfl ?_
  refine pk_iload_n dX7_drop_0 rfl ?_
  refine pk_Si dX7_drop_1 ml_X7_280 yw_X7_isSheet ys_X7_isSheet (e_X7_isSheet _) rfl rfl rfl rfl rfl rfl rfl ?_
  first | refine pk_neb (tgt := 9) dX7_drop_4 (by decide) (fun c_4 => ?_) (fun c_4 => ?_) | refine pk_ne0N (tgt := 9) dX7_drop_4 (by decide) (by omega) (fun c_4 => ?_) (fun c_4 => ?_) | refine pk_if_ne (tgt := 9) dX7_drop_4 (by decide) (fun c_4 => ?_) (fun c_4 => ?_)
  · have c4 := c_4
    obtain ⟨s, hs4, rfl⟩ := sp_b_of c_4 (by decide)
    rw [op_drop, if_neg (by rw [c4]; decide), nI_clamp (show s < 2 ^ 31 by omega)]
    have hSs := hX.2.2.2.2 s hs4
    have hPs := hSh s hs4
    have hl := hPs.1
    cases hb0 : (X.2.2.2.2 s).1 with
    | false =>
      rw [hb0, if_neg (by decide)] at hl
      rw [if_pos rfl]
      refine pk_aload_n dX7_drop_9 rfl ?_
      refine pk_getP dX7_drop_10 fl_X7_44 rfl (hW.s rfl) (hW.p rfl) ?_
      refine pk_iload_n dX7_drop_13 rfl ?_
      refine pk_aldV dX7_drop_14 (hW.s rfl) (by omega) (by omega) hl ?_
      refine pk_if_ge (tgt := 21) dX7_drop_15 (by decide) (fun c_15 => ?_) (fun c_15 => ?_)
      · exact absurd c_15 (by decide)
      · refine pk_bipush (v := -11) dX7_drop_18 (by decide) ?_
        refine pk_reti dX7_drop_20 (by first | rfl | exact pk_nbi _) ?_
        exact ⟨rfl, pk_ff.rf _ M, hR⟩
    | true =>
      rw [hb0, if_pos rfl] at hl
      rw [if_neg (by decide)]
      refine pk_aload_n dX7_drop_9 rfl ?_
      refine pk_getP dX7_drop_10 fl_X7_44 rfl (hW.s rfl) (hW.p rfl) ?_
      refine pk_iload_n dX7_drop_13 rfl ?_
      refine pk_aldV dX7_drop_14 (hW.s rfl) (by omega) (by omega) hl ?_
      refine pk_if_ge (tgt := 21) dX7_drop_15 (by decide) (fun c_15 => ?_) (fun c_15 => ?_)
      · refine pk_aload_n dX7_drop_21 rfl ?_
        refine pk_getP dX7_drop_22 fl_X7_44 rfl (hW.s rfl) (hW.p rfl) ?_
        refine pk_iload_n dX7_drop_25 rfl ?_
        refine pk_iconst (v := -1) dX7_drop_26 (by decide) ?_
        refine pk_astN dX7_drop_27 (hW.s rfl) (by omega) (by omega) (by omega) ?_
        refine pk_aload_n dX7_drop_28 rfl ?_
        refine pk_getP dX7_drop_29 fl_X7_47 rfl (hW.s rfl) (hW.p rfl) ?_
        refine pk_iload_n dX7_drop_32 rfl ?_
        refine pk_aldN dX7_drop_33 (hW.s rfl) (by omega) (by omega) (pk_gS0 (by omega) hPs.2.1) ?_
        refine pk_reti dX7_drop_34 (by first | rfl | exact pk_nbi _) ?_
        have hff : pk_ff (fun q => q = 114 ∨ q = 115 ∨ q = 116 ∨ q = 117) M (pk_sI M 114 s (-1)) := (pk_fr.sI (Or.inl rfl)).ff
        exact ⟨rfl, hff.mono (fun q h => by omega), hR.sh hff (fun i hi e => ⟨pk_gS0 (by omega) (hSh i hi).1, pk_gS0 (by omega) (hSh i hi).2.1, fun q hq => (hSh i hi).2.2 q hq⟩) ⟨pk_gS1 rfl rfl rfl, pk_gS0 (by omega) hPs.2.1, fun q hq => hPs.2.2 q hq⟩⟩
      · exact absurd (nI_pos' (by omega)) c_15
  · refine pk_iconst (v := -1) dX7_drop_7 (by decide) ?_
    refine pk_reti dX7_drop_8 (by first | rfl | exact pk_nbi _) ?_
    rw [op_drop, if_pos c_4]
    exact ⟨rfl, pk_ff.rf _ M, hR⟩

set_option maxRecDepth 100000 in
set_option maxHeartbeats 4000000 in
theorem e_X7_item {Γ : pk_T} {M : pk_M} {L : Nat} {X : pk_X} (hR : pk_RM L M X) (hX : pk_okX X) (s l i : Int32) (v : Int64) : pk_E Γ yX7_item cX7_item 7 (some .int) 2 0 0 M [.ref 103, .int s, .int l, .int i, .long v] (fun r M' => r = some (.int (op_item X s l i v).1) ∧ pk_mf M M' ∧ pk_RM L M' (op_item X s l i v).2) := by
  have hR0 := hR
  obtain ⟨hW, hA, hU, hK, hTp, hSh⟩ := hR0
  have hok := hX.1
  have hw := hok.1
  have hh := hok.2.1
  have hs := hok.2.2.2.2.2.2.2.1
  have hn6 := hX.2.1.1
  refine pk_meth (own := RX7) (ini := false) [some (.ref 103), some (.int s), some (.int l), some (.int i), some (.long v), none, none] (by decide +kernel) rfl (by decide +kernel) rfl rfl ?_
  refine pk_iload_n dX7_item_0 rfl ?_
  refine pk_Si dX7_item_1 ml_X7_280 yw_X7_isSheet ys_X7_isSheet (e_X7_isSheet _) rfl rfl rfl rfl rfl rfl rfl ?_
  first | refine pk_eqb (tgt := 19) dX7_item_4 (by decide) (fun c_4 => ?_) (fun c_4 => ?_) | refine pk_eq0N (tgt := 19) dX7_item_4 (by decide) (by omega) (fun c_4 => ?_) (fun c_4 => ?_) | refine pk_if_eq (tgt := 19) dX7_item_4 (by decide) (fun c_4 => ?_) (fun c_4 => ?_)
  · refine pk_iconst (v := -1) dX7_item_19 (by decide) ?_
    refine pk_reti dX7_item_20 (by first | rfl | exact pk_nbi _) ?_
    rw [op_item, if_pos]
    · exact ⟨rfl, pk_ff.rf _ M, hR⟩
    · rw [c_4, Bool.false_and]
  · refine pk_iload_n dX7_item_7 rfl ?_
    refine pk_i2l dX7_item_8 ?_
    refine pk_lconst (v := 0) dX7_item_9 (by decide) ?_
    refine pk_ldc2 dX7_item_10 kc_X7_210 ?_
    refine pk_Si dX7_item_13 ml_X7_59 yw_X7_in ys_X7_in (e_X7_inB _ (N := 3) (by omega) (by decide)) rfl rfl rfl rfl rfl rfl rfl ?_
    first | refine pk_neb (tgt := 21) dX7_item_16 (by decide) (fun c_16 => ?_) (fun c_16 => ?_) | refine pk_ne0N (tgt := 21) dX7_item_16 (by decide) (by omega) (fun c_16 => ?_) (fun c_16 => ?_) | refine pk_if_ne (tgt := 21) dX7_item_16 (by decide) (fun c_16 => ?_) (fun c_16 => ?_)
    · have c4 := c_4
      have c16 := c_16
      obtain ⟨s, hs4, rfl⟩ := sp_b_of c_4 (by decide)
      obtain ⟨l, hl4, rfl⟩ := sp_b_of c_16 (by decide)
      rw [op_item, if_neg (by rw [c4, show sp_b (nI l) 4 = true from c16]; decide), nI_clamp (show s < 2 ^ 31 by omega)]
      have hSs := hX.2.2.2.2 s hs4
      have hPs := hSh s hs4
      refine pk_aload_n dX7_item_21 rfl ?_
      refine pk_iload_n dX7_item_22 rfl ?_
      refine pk_iload_n dX7_item_23 rfl ?_
      refine pk_iload_n dX7_item_24 rfl ?_
      refine pk_iconst (v := nI 1) dX7_item_25 (by decide) ?_
      refine pk_Vi dX7_item_26 ml_X7_283 yw_X7_why yv_X7_why (hW.s rfl) (e_X7_why (b := 1) hW hPs hs4 hSs.1 hSs.2 (by omega) (by omega) _ _) rfl rfl rfl rfl rfl rfl rfl ?_
      refine pk_istore dX7_item_29 rfl rfl ?_
      refine pk_iload dX7_item_31 rfl ?_
      refine pk_if_ge (tgt := 39) dX7_item_33 (by decide) (fun c_33 => ?_) (fun c_33 => ?_)
      · have hw0 : sp_why (X.2.2.2.2 s) (nI l) i (nI 1) = 0 := by
          apply Classical.byContradiction
          intro h
          exact Int32.not_lt.mpr c_33 ((sp_why_neg _ _ _ _).mpr h)
        rw [if_neg (fun h => h hw0)]
        obtain ⟨g1, g2, g3⟩ := sp_why_0 hw0
        obtain ⟨a, b, rfl, eb, hab⟩ := sp_has_of hSs.2 g3
        have hb1 : b = 1 := by
          have : b < 2 ^ 31 := by have := hSs.2; omega
          exact ((nI_eq (by decide) this).mp eb).symm
        subst hb1
        have hlS : (X.2.2.2.2 s).2.1 = l := (nI_eq (by omega) (by omega)).mp g2
        rw [hlS, nI_clamp (show a < 2 ^ 31 by omega)]
        refine pk_aload_n dX7_item_39 rfl ?_
        refine pk_getP dX7_item_40 fl_X7_50 rfl (hW.s rfl) (hW.p rfl) ?_
        refine pk_bipush (v := nI 24) dX7_item_43 (by decide) ?_
        refine pk_iload_n dX7_item_45 rfl ?_
        first | refine pk_mulN dX7_item_46 ?_ | refine pk_imul dX7_item_46 ?_
        refine pk_iload_n dX7_item_47 rfl ?_
        first | refine pk_addN dX7_item_48 ?_ | refine pk_iadd dX7_item_48 ?_
        refine pk_lload dX7_item_49 rfl ?_
        refine pk_iload_n dX7_item_51 rfl ?_
        refine pk_Sl dX7_item_52 ml_X7_286 yw_X7_cut ys_X7_cut (e_X7_cut (by omega)) rfl rfl rfl rfl rfl rfl rfl ?_
        refine pk_lasN dX7_item_55 (hW.s rfl) (by omega) (by omega) (by omega) ?_
        refine pk_iconst (v := nI 1) dX7_item_56 (by decide) ?_
        refine pk_reti dX7_item_57 (by first | rfl | exact pk_nbi _) ?_
        have hit : pm_it M (pk_sJ M 116 (24 * s + a) (sp_cut l v)) s := ⟨pk_ff.sJ (Or.inl rfl), fun p hp => pk_gJ0 (by omega) rfl⟩
        have hRM := hR.it hit hs4 (f := fun j => if j = a then sp_cut l v else (X.2.2.2.2 s).2.2.2 j) (fun j hj => by
          by_cases e : j = a
          · rw [if_pos e, e]
            exact pk_gJ1 rfl rfl rfl
          · rw [if_neg e]
            exact pk_gJ0 (by omega) (hPs.2.2 j hj))
        rw [hlS] at hRM
        exact ⟨rfl, hit.1.mono (fun q h => by omega), hRM⟩
      · refine pk_iload dX7_item_36 rfl ?_
        refine pk_reti dX7_item_38 (by first | rfl | exact pk_nbi _) ?_
        rw [if_pos ((sp_why_neg _ _ _ _).mp (Int32.not_le.mp c_33))]
        exact ⟨rfl, pk_ff.rf _ M, hR⟩
    · refine pk_iconst (v := -1) dX7_item_19 (by decide) ?_
      refine pk_reti dX7_item_20 (by first | rfl | exact pk_nbi _) ?_
      rw [op_item, if_pos]
      · exact ⟨rfl, pk_ff.rf _ M, hR⟩
      · rw [show sp_b l 4 = false from c_16, Bool.and_false]
