/-! gaps, aside, fail, ink, set. -/
def sp_sw (c : Int32) (n : Nat) : Option Nat := if sp_b c n then some c.toNatClampNeg else none
theorem sp_sw_n {j n : Nat} (h : j < n) (hn : n < 2 ^ 31) : sp_sw (nI j) n = some j := by rw [sp_sw, sp_b_n h hn, if_pos rfl, nI_clamp (by omega)]
theorem sp_sw_lo {c : Int32} {n : Nat} (h : c < 0) : sp_sw c n = none := by
  rw [sp_sw, sp_b, decide_eq_false (Int32.not_le.mpr h)]
  rfl
theorem sp_sw_hi {c : Int32} {n : Nat} (h : nI n ≤ c) : sp_sw c n = none := by
  rw [sp_sw, sp_b, show decide (c < nI n) = false from decide_eq_false (Int32.not_lt.mpr h), Bool.and_false]
  rfl
def op_gaps (X : pk_X) (k dx dy : Int32) : Int32 := if (sp_b k 5 && (sp_d3 dx && sp_d3 dy)) = false then -1 else nI (sp_gaps X.1 k.toNatClampNeg dx dy)
def op_aside (X : pk_X) (k dx dy x y : Int32) : Int32 := if (sp_b k 5 && (sp_d3 dx && sp_d3 dy) && sp_inb X.1 x y) = false then -1 else nI (sp_pr X.1 k.toNatClampNeg dx dy x y)
theorem sp_tot : ∀ I, I < 32 → ∀ c, c < 11 → sp_fold (fun f x => if f &&& (31 - I) == 0 then x + sp_pow c (sp_bits f) * sp_pow (10 - c) (sp_bits I - sp_bits f) else x) 0 32 = sp_pow 10 (sp_bits I) := by decide +kernel
theorem sp_p10 : ∀ n, n < 6 → 0 < sp_pow 10 n ∧ sp_pow 10 n < 2 ^ 17 := by decide
theorem sp_fold_mono {f g : Nat → Nat → Nat} (h : ∀ q x y, x ≤ y → f q x ≤ g q y) (a n : Nat) : sp_fold f a n ≤ sp_fold g a n := by
  induction n with
  | zero => exact Nat.le_refl _
  | succ n ih => exact h n _ _ ih
theorem sp_odds_le {A : pk_St} (hA : pk_okS A) {c : Nat} (hc : c ≤ 10) : sp_oddsF A c 32 ≤ sp_pow 10 (sp_bits (sp_inks A)) := by
  rw [← sp_tot (sp_inks A) (sp_inks_lt hA 48 (by omega)) c (by omega)]
  refine sp_fold_mono (fun f x y hxy => ?_) 0 32
  by_cases h1 : (f &&& (31 - sp_inks A) == 0) = true
  · by_cases h2 : sp_lg f (sp_sets A) = true
    · rw [if_neg (by simp [h2]), if_pos h1]
      omega
    · rw [if_pos (by simp [h1, h2]), if_pos h1]
      omega
  · rw [if_neg (by simp [h1]), if_neg h1]
    exact hxy
def op_fail (X : pk_X) (c w : Int32) : Int32 := if (decide (0 ≤ c) && decide (c ≤ nI 10) && sp_b w 2) = false then -1 else nI ((if w = 0 then sp_oddsF X.1 c.toNatClampNeg 32 else sp_pow 10 (sp_bits (sp_inks X.1))) / Nat.gcd (sp_oddsF X.1 c.toNatClampNeg 32) (sp_pow 10 (sp_bits (sp_inks X.1))))
theorem pk_pig : ∀ a, a < 5 → ∀ b, b < 5 → ∀ c, c < 5 → ∀ d, d < 5 → ∀ e, e < 5 → ∀ i, i < 5 → (a == b || a == c || a == d || a == e || b == c || b == d || b == e || c == d || c == e || d == e || a == i || b == i || c == i || d == i || e == i) = true := by decide +kernel
theorem sp_ordX {A : pk_St} (hA : pk_okS A) {i : Nat} (hi : i < 5) : ∃ k, k < 5 ∧ sp_o A k = i := by
  have h5 := hA.2.2.2.2.2.1
  have inj := hA.2.2.2.2.2.2.1
  have h := pk_pig _ (h5 0 (by decide)) _ (h5 1 (by decide)) _ (h5 2 (by decide)) _ (h5 3 (by decide)) _ (h5 4 (by decide)) i hi
  simp only [Bool.or_eq_true, beq_iff_eq] at h
  rcases h with (((((((((((((h | h) | h) | h) | h) | h) | h) | h) | h) | h) | h) | h) | h) | h) | h
  all_goals first | exact ⟨0, by decide, h⟩ | exact ⟨1, by decide, h⟩ | exact ⟨2, by decide, h⟩ | exact ⟨3, by decide, h⟩ | exact ⟨4, by decide, h⟩ | (exfalso; have := inj _ (by decide) _ (by decide) h; omega)
def sp_rank (A : pk_St) (i : Nat) : Nat := sp_fst (fun k => sp_o A k == i) 5
theorem sp_rank_of {A : pk_St} (hA : pk_okS A) {i : Nat} (hi : i < 5) : sp_rank A i < 5 ∧ sp_o A (sp_rank A i) = i := by
  obtain ⟨k, hk, e⟩ := sp_ordX hA hi
  have h1 : sp_any (fun k => sp_o A k == i) k = false := by
    cases h : sp_any (fun k => sp_o A k == i) k
    · rfl
    · obtain ⟨j, hj, h2⟩ := sp_any_iff.mp h
      have := hA.2.2.2.2.2.2.1 j (by omega) k hk ((by simpa using h2 : sp_o A j = i).trans e.symm)
      omega
  have h2 : sp_rank A i = k := sp_fst_eq hk h1 (by simp [e])
  rw [h2]
  exact ⟨hk, e⟩
def op_ink (X : pk_X) (i c : Int32) : Int32 := if sp_b i 5 = false then -1 else match sp_sw c 5 with
  | some 0 => nI (sp_k X.1 i.toNatClampNeg)
  | some 1 => nI (sp_t X.1 i.toNatClampNeg)
  | some 2 => nI (sp_rank X.1 i.toNatClampNeg)
  | some 3 => nI (sp_dk X.1 i.toNatClampNeg)
  | some 4 => nI (sp_c (fun q => (sp_s X.1 q).testBit i.toNatClampNeg) 48)
  | _ => -1
def op_set (X : pk_X) (t c : Int32) : Int32 := if sp_b t 32 = false then -1 else match sp_sw c 4 with
  | some 0 => nI (sp_lookA X.1 t.toNatClampNeg)
  | some 1 => nI (sp_dark (sp_lookA X.1 t.toNatClampNeg))
  | some 2 => nI (sp_c (fun o => sp_lookA X.1 o == sp_lookA X.1 t.toNatClampNeg) 32)
  | some 3 => nI (sp_c (fun q => sp_in X.1 q && (sp_s X.1 q == t.toNatClampNeg)) 48)
  | _ => -1

set_option maxRecDepth 100000 in
set_option maxHeartbeats 4000000 in
theorem e_X6_gaps {Γ : pk_T} {M : pk_M} {L : Nat} {X : pk_X} (hR : pk_RC L M X) (hX : pk_okX X) (k dx dy : Int32) : pk_E Γ yX6_gaps cX6_gaps 4 (some .int) 5 0 0 M [.ref 5, .int k, .int dx, .int dy] (fun r M' => r = some (.int (op_gaps X k dx dy)) ∧ pk_cf M M' ∧ pk_RC L M' X) := by
  have hR0 := hR
  obtain ⟨hW, hro, hA, ⟨pl, hP⟩, hkb, ⟨pl2, kn, KH, hKP, hKq⟩, hKA, hTp, hSh⟩ := hR0
  have hok := hX.1
  have hw := hok.1
  have hh := hok.2.1
  have hn6 := hX.2.1.1
  refine pk_meth (own := RX6) (ini := false) [some (.ref 5), some (.int k), some (.int dx), some (.int dy)] (by decide +kernel) rfl (by decide +kernel) rfl rfl ?_
  refine pk_iload_n dX6_gaps_0 rfl ?_
  refine pk_iload_n dX6_gaps_1 rfl ?_
  refine pk_iload_n dX6_gaps_2 rfl ?_
  refine pk_Si dX6_gaps_3 ml_X6_229 yw_X6_isPlateAside ys_X6_isPlateAside (e_X6_isPlateAside _ _ _) rfl rfl rfl rfl rfl rfl rfl ?_
  first | refine pk_eqb (tgt := 19) dX6_gaps_6 (by decide) (fun c_6 => ?_) (fun c_6 => ?_) | refine pk_eq0N (tgt := 19) dX6_gaps_6 (by decide) (by omega) (fun c_6 => ?_) (fun c_6 => ?_) | refine pk_if_eq (tgt := 19) dX6_gaps_6 (by decide) (fun c_6 => ?_) (fun c_6 => ?_)
  · refine pk_iconst (v := -1) dX6_gaps_19 (by decide) ?_
    refine pk_reti dX6_gaps_20 (by first | rfl | exact pk_nbi _) ?_
    first | exact ⟨rfl, pk_ff.rf _ M, hR⟩ | (rw [op_gaps, if_pos (show (sp_b k 5 && (sp_d3 dx && sp_d3 dy)) = false from c_6)]; exact ⟨rfl, pk_ff.rf _ M, hR⟩)
  · have c6 := c_6
    rw [Bool.and_eq_true] at c6
    obtain ⟨k, hk, rfl⟩ := sp_b_of c6.1 (by decide)
    rw [op_gaps, if_neg (by rw [show (sp_b (nI k) 5 && (sp_d3 dx && sp_d3 dy)) = true from c_6]; decide), nI_clamp (by omega)]
    refine pk_aload_n dX6_gaps_9 rfl ?_
    refine pk_iload_n dX6_gaps_10 rfl ?_
    refine pk_iload_n dX6_gaps_11 rfl ?_
    refine pk_iload_n dX6_gaps_12 rfl ?_
    refine pk_Vi dX6_gaps_13 ml_X6_233 yw_X6_gapsBy yv_X6_gapsBy (hW.s rfl) (e_X6_gapsBy ⟨hW, hA, hok⟩ hk _ _) rfl rfl rfl rfl rfl rfl rfl ?_
    refine pk_goto (tgt := 20) dX6_gaps_16 (by decide) ?_
    refine pk_reti dX6_gaps_20 (by first | rfl | exact pk_nbi _) ?_
    first | exact ⟨rfl, pk_ff.rf _ M, hR⟩ | (rw [op_gaps, if_pos (show (sp_b k 5 && (sp_d3 dx && sp_d3 dy)) = false from c_6)]; exact ⟨rfl, pk_ff.rf _ M, hR⟩)

set_option maxRecDepth 100000 in
set_option maxHeartbeats 4000000 in
theorem e_X6_aside {Γ : pk_T} {M : pk_M} {L : Nat} {X : pk_X} (hR : pk_RC L M X) (hX : pk_okX X) (k dx dy x y : Int32) : pk_E Γ yX6_aside cX6_aside 6 (some .int) 4 0 0 M [.ref 5, .int k, .int dx, .int dy, .int x, .int y] (fun r M' => r = some (.int (op_aside X k dx dy x y)) ∧ pk_cf M M' ∧ pk_RC L M' X) := by
  have hR0 := hR
  obtain ⟨hW, hro, hA, ⟨pl, hP⟩, hkb, ⟨pl2, kn, KH, hKP, hKq⟩, hKA, hTp, hSh⟩ := hR0
  have hok := hX.1
  have hw := hok.1
  have hh := hok.2.1
  have hn6 := hX.2.1.1
  refine pk_meth (own := RX6) (ini := false) [some (.ref 5), some (.int k), some (.int dx), some (.int dy), some (.int x), some (.int y)] (by decide +kernel) rfl (by decide +kernel) rfl rfl ?_
  refine pk_iload_n dX6_aside_0 rfl ?_
  refine pk_iload_n dX6_aside_1 rfl ?_
  refine pk_iload_n dX6_aside_2 rfl ?_
  refine pk_Si dX6_aside_3 ml_X6_229 yw_X6_isPlateAside ys_X6_isPlateAside (e_X6_isPlateAside _ _ _) rfl rfl rfl rfl rfl rfl rfl ?_
  first | refine pk_eqb (tgt := 23) dX6_aside_6 (by decide) (fun c_6 => ?_) (fun c_6 => ?_) | refine pk_eq0N (tgt := 23) dX6_aside_6 (by decide) (by omega) (fun c_6 => ?_) (fun c_6 => ?_) | refine pk_if_eq (tgt := 23) dX6_aside_6 (by decide) (fun c_6 => ?_) (fun c_6 => ?_)
  · refine pk_iconst (v := -1) dX6_aside_23 (by decide) ?_
    refine pk_reti dX6_aside_24 (by first | rfl | exact pk_nbi _) ?_
    rw [op_aside, if_pos]
    · exact ⟨rfl, pk_ff.rf _ M, hR⟩
    · first | (rw [show (sp_b k 5 && (sp_d3 dx && sp_d3 dy)) = false from c_6]; rfl) | (rw [c_20, Bool.and_false])
  · refine pk_aload_n dX6_aside_9 rfl ?_
    refine pk_getP dX6_aside_10 fl_X6_10 rfl (hW.s rfl) (hW.p rfl) ?_
    refine pk_iload dX6_aside_13 rfl ?_
    refine pk_iload dX6_aside_15 rfl ?_
    refine pk_Vi dX6_aside_17 ml_X6_100 yw_X4_isInside yv_X4_isInside (hW.s rfl) (e_X4_isInside (p := 6) hW rfl hA hok _ _) rfl rfl rfl rfl rfl rfl rfl ?_
    first | refine pk_neb (tgt := 25) dX6_aside_20 (by decide) (fun c_20 => ?_) (fun c_20 => ?_) | refine pk_ne0N (tgt := 25) dX6_aside_20 (by decide) (by omega) (fun c_20 => ?_) (fun c_20 => ?_) | refine pk_if_ne (tgt := 25) dX6_aside_20 (by decide) (fun c_20 => ?_) (fun c_20 => ?_)
    · have c6 := c_6
      rw [Bool.and_eq_true] at c6
      obtain ⟨k, hk, rfl⟩ := sp_b_of c6.1 (by decide)
      rw [op_aside, if_neg (by rw [show (sp_b (nI k) 5 && (sp_d3 dx && sp_d3 dy)) = true from c_6, c_20]; decide), nI_clamp (by omega)]
      refine pk_aload_n dX6_aside_25 rfl ?_
      refine pk_iload_n dX6_aside_26 rfl ?_
      refine pk_iload_n dX6_aside_27 rfl ?_
      refine pk_iload_n dX6_aside_28 rfl ?_
      refine pk_iload dX6_aside_29 rfl ?_
      refine pk_iload dX6_aside_31 rfl ?_
      refine pk_Vi dX6_aside_33 ml_X6_237 yw_X6_printedBy yv_X6_printedBy (hW.s rfl) (e_X6_printedBy ⟨hW, hA, hok⟩ hk _ _ _ _) rfl rfl rfl rfl rfl rfl rfl ?_
      refine pk_reti dX6_aside_36 (by first | rfl | exact pk_nbi _) ?_
      exact ⟨rfl, pk_ff.rf _ M, hR⟩
    · refine pk_iconst (v := -1) dX6_aside_23 (by decide) ?_
      refine pk_reti dX6_aside_24 (by first | rfl | exact pk_nbi _) ?_
      rw [op_aside, if_pos]
      · exact ⟨rfl, pk_ff.rf _ M, hR⟩
      · first | (rw [show (sp_b k 5 && (sp_d3 dx && sp_d3 dy)) = false from c_6]; rfl) | (rw [c_20, Bool.and_false])

set_option maxRecDepth 100000 in
set_option maxHeartbeats 4000000 in
theorem e_X6_fail {Γ : pk_T} {M : pk_M} {L : Nat} {X : pk_X} (hR : pk_RC L M X) (hX : pk_okX X) (c w : Int32) : pk_E Γ yX6_fail cX6_fail 6 (some .int) 5 0 0 M [.ref 5, .int c, .int w] (fun r M' => r = some (.int (op_fail X c w)) ∧ pk_cf M M' ∧ pk_RC L M' X) := by
  have hR0 := hR
  obtain ⟨hW, hro, hA, ⟨pl, hP⟩, hkb, ⟨pl2, kn, KH, hKP, hKq⟩, hKA, hTp, hSh⟩ := hR0
  have hok := hX.1
  have hw := hok.1
  have hh := hok.2.1
  have hn6 := hX.2.1.1
  refine pk_meth (own := RX6) (ini := false) [some (.ref 5), some (.int c), some (.int w), none, none, none] (by decide +kernel) rfl (by decide +kernel) rfl rfl ?_
  refine pk_iload_n dX6_fail_0 rfl ?_
  refine pk_if_lt (tgt := 18) dX6_fail_1 (by decide) (fun c_1 => ?_) (fun c_1 => ?_)
  · refine pk_iconst (v := -1) dX6_fail_18 (by decide) ?_
    refine pk_reti dX6_fail_19 (by first | rfl | exact pk_nbi _) ?_
    rw [op_fail, if_pos]
    · exact ⟨rfl, pk_ff.rf _ M, hR⟩
    · first | (rw [show decide ((0 : Int32) ≤ c) = false from decide_eq_false (Int32.not_le.mpr c_1)]; rfl) | (rw [show decide (c ≤ nI 10) = false from decide_eq_false (Int32.not_le.mpr c_7), Bool.and_false]; rfl) | (rw [show sp_b w 2 = false from c_15, Bool.and_false])
  · refine pk_iload_n dX6_fail_4 rfl ?_
    refine pk_bipush (v := nI 10) dX6_fail_5 (by decide) ?_
    refine pk_icmp_gt (tgt := 18) dX6_fail_7 (by decide) (fun c_7 => ?_) (fun c_7 => ?_)
    · refine pk_iconst (v := -1) dX6_fail_18 (by decide) ?_
      refine pk_reti dX6_fail_19 (by first | rfl | exact pk_nbi _) ?_
      rw [op_fail, if_pos]
      · exact ⟨rfl, pk_ff.rf _ M, hR⟩
      · first | (rw [show decide ((0 : Int32) ≤ c) = false from decide_eq_false (Int32.not_le.mpr c_1)]; rfl) | (rw [show decide (c ≤ nI 10) = false from decide_eq_false (Int32.not_le.mpr c_7), Bool.and_false]; rfl) | (rw [show sp_b w 2 = false from c_15, Bool.and_false])
    · refine pk_iload_n dX6_fail_10 rfl ?_
      refine pk_iconst (v := nI 2) dX6_fail_11 (by decide) ?_
      refine pk_Si dX6_fail_12 ml_X6_71 yw_X6_isBelow ys_X6_isBelow (e_X6_isBelow _ _) rfl rfl rfl rfl rfl rfl rfl ?_
      first | refine pk_neb (tgt := 20) dX6_fail_15 (by decide) (fun c_15 => ?_) (fun c_15 => ?_) | refine pk_ne0N (tgt := 20) dX6_fail_15 (by decide) (by omega) (fun c_15 => ?_) (fun c_15 => ?_) | refine pk_if_ne (tgt := 20) dX6_fail_15 (by decide) (fun c_15 => ?_) (fun c_15 => ?_)
      · obtain ⟨c, hc, rfl⟩ := nI_of c_1
        have hc10 : c ≤ 10 := (nI_leI hc (by decide)).mp (Int32.not_lt.mp c_7)
        obtain ⟨w, hw2, rfl⟩ := sp_b_of c_15 (by decide)
        have e0 : (decide (0 ≤ nI c) && decide (nI c ≤ nI 10) && sp_b (nI w) 2) = true := by rw [decide_eq_true (nI_pos' hc), decide_eq_true (Int32.not_lt.mp c_7), sp_b_n hw2 (by decide)]; rfl
        rw [op_fail, if_neg (by rw [e0]; decide), nI_clamp hc]
        have hI := sp_inks_lt hok 48 (by omega)
        change sp_inks X.1 < 32 at hI
        have hb5 := sp_bits_le (sp_inks X.1)
        have hp := sp_p10 (sp_bits (sp_inks X.1)) (by omega)
        have hle := sp_odds_le hok hc10
        have hgp : 0 < Nat.gcd (sp_oddsF X.1 c 32) (sp_pow 10 (sp_bits (sp_inks X.1))) := Nat.gcd_pos_of_pos_right _ hp.1
        have hgl : Nat.gcd (sp_oddsF X.1 c 32) (sp_pow 10 (sp_bits (sp_inks X.1))) ≤ sp_pow 10 (sp_bits (sp_inks X.1)) := Nat.gcd_le_right _ hp.1
        refine pk_aload_n dX6_fail_20 rfl ?_
        refine pk_iload_n dX6_fail_21 rfl ?_
        refine pk_Vi dX6_fail_22 ml_X6_241 yw_X6_gaplessOdds yv_X6_gaplessOdds (hW.s rfl) (e_X6_gaplessOdds ⟨hW, hA, hok⟩ (by omega)) rfl rfl rfl rfl rfl rfl rfl ?_
        refine pk_istore_n dX6_fail_25 rfl rfl ?_
        refine pk_bipush (v := nI 10) dX6_fail_26 (by decide) ?_
        refine pk_aload_n dX6_fail_28 rfl ?_
        refine pk_getP dX6_fail_29 fl_X6_10 rfl (hW.s rfl) (hW.p rfl) ?_
        refine pk_Vi dX6_fail_32 ml_X6_193 yw_X4_inksDrawn yv_X4_inksDrawn (hW.s rfl) (e_X4_inksDrawn (p := 6) hW rfl hA hok) rfl rfl rfl rfl rfl rfl rfl ?_
        refine pk_Si dX6_fail_35 ml_X6_244 yw_J6_bitCount_0f7a4 ys_J6_bitCount_0f7a4 (e_J6_bitCount_0f7a4 (by omega)) rfl rfl rfl rfl rfl rfl rfl ?_
        refine pk_Si dX6_fail_38 ml_X6_249 yw_X6_power ys_X6_power (e_X6_power _ _ (by omega)) rfl rfl rfl rfl rfl rfl rfl ?_
        refine pk_istore dX6_fail_41 rfl rfl ?_
        refine pk_iload_n dX6_fail_43 rfl ?_
        refine pk_iload dX6_fail_44 rfl ?_
        refine pk_Si dX6_fail_46 ml_X6_252 yw_X6_commonDivisor ys_X6_commonDivisor (e_X6_commonDivisor (by omega) (by omega) (by omega) (by omega)) rfl rfl rfl rfl rfl rfl rfl ?_
        refine pk_istore dX6_fail_49 rfl rfl ?_
        refine pk_iload dX6_fail_51 rfl ?_
        refine pk_iconst (v := nI 1) dX6_fail_53 (by decide) ?_
        first | refine pk_geN (tgt := 59) dX6_fail_54 (by decide) (by omega) (by omega) (fun c_54 => ?_) (fun c_54 => ?_) | refine pk_icmp_ge (tgt := 59) dX6_fail_54 (by decide) (fun c_54 => ?_) (fun c_54 => ?_)
        · refine pk_iload_n dX6_fail_59 rfl ?_
          first | refine pk_neb (tgt := 67) dX6_fail_60 (by decide) (fun c_60 => ?_) (fun c_60 => ?_) | refine pk_ne0N (tgt := 67) dX6_fail_60 (by decide) (by omega) (fun c_60 => ?_) (fun c_60 => ?_) | refine pk_if_ne (tgt := 67) dX6_fail_60 (by decide) (fun c_60 => ?_) (fun c_60 => ?_)
          · refine pk_iload dX6_fail_67 rfl ?_
            refine pk_iload dX6_fail_69 rfl ?_
            first | refine pk_divN dX6_fail_71 (by omega) (by omega) (by omega) ?_ | refine pk_idiv dX6_fail_71 (by first | assumption | decide) ?_
            refine pk_reti dX6_fail_72 (by first | rfl | exact pk_nbi _) ?_
            first | (rw [if_pos ((pk_n0 (by omega)).mpr c_60)]; exact ⟨rfl, pk_ff.rf _ M, hR⟩) | (rw [if_neg (fun h => c_60 ((pk_n0 (by omega)).mp h))]; exact ⟨rfl, pk_ff.rf _ M, hR⟩)
          · refine pk_iload_n dX6_fail_63 rfl ?_
            refine pk_goto (tgt := 69) dX6_fail_64 (by decide) ?_
            refine pk_iload dX6_fail_69 rfl ?_
            first | refine pk_divN dX6_fail_71 (by omega) (by omega) (by omega) ?_ | refine pk_idiv dX6_fail_71 (by first | assumption | decide) ?_
            refine pk_reti dX6_fail_72 (by first | rfl | exact pk_nbi _) ?_
            first | (rw [if_pos ((pk_n0 (by omega)).mpr c_60)]; exact ⟨rfl, pk_ff.rf _ M, hR⟩) | (rw [if_neg (fun h => c_60 ((pk_n0 (by omega)).mp h))]; exact ⟨rfl, pk_ff.rf _ M, hR⟩)
        · omega
      · refine pk_iconst (v := -1) dX6_fail_18 (by decide) ?_
        refine pk_reti dX6_fail_19 (by first | rfl | exact pk_nbi _) ?_
        rw [op_fail, if_pos]
        · exact ⟨rfl, pk_ff.rf _ M, hR⟩
        · first | (rw [show decide ((0 : Int32) ≤ c) = false from decide_eq_false (Int32.not_le.mpr c_1)]; rfl) | (rw [show decide (c ≤ nI 10) = false from decide_eq_false (Int32.not_le.mpr c_7), Bool.and_false]; rfl) | (rw [show sp_b w 2 = false from c_15, Bool.and_false])

set_option maxRecDepth 100000 in
set_option maxHeartbeats 4000000 in
theorem e_X6_ink {Γ : pk_T} {M : pk_M} {L : Nat} {X : pk_X} (hR : pk_RC L M X) (hX : pk_okX X) (i c : Int32) : pk_E Γ yX6_ink cX6_ink 3 (some .int) 4 0 0 M [.ref 5, .int i, .int c] (fun r M' => r = some (.int (op_ink X i c)) ∧ pk_cf M M' ∧ pk_RC L M' X) := by
  have hR0 := hR
  obtain ⟨hW, hro, hA, ⟨pl, hP⟩, hkb, ⟨pl2, kn, KH, hKP, hKq⟩, hKA, hTp, hSh⟩ := hR0
  have hok := hX.1
  have hw := hok.1
  have hh := hok.2.1
  have hn6 := hX.2.1.1
  refine pk_meth (own := RX6) (ini := false) [some (.ref 5), some (.int i), some (.int c)] (by decide +kernel) rfl (by decide +kernel) rfl rfl ?_
  refine pk_iload_n dX6_ink_0 rfl ?_
  refine pk_iconst (v := nI 5) dX6_ink_1 (by decide) ?_
  refine pk_Si dX6_ink_2 ml_X6_71 yw_X6_isBelow ys_X6_isBelow (e_X6_isBelow _ _) rfl rfl rfl rfl rfl rfl rfl ?_
  first | refine pk_neb (tgt := 10) dX6_ink_5 (by decide) (fun c_5 => ?_) (fun c_5 => ?_) | refine pk_ne0N (tgt := 10) dX6_ink_5 (by decide) (by omega) (fun c_5 => ?_) (fun c_5 => ?_) | refine pk_if_ne (tgt := 10) dX6_ink_5 (by decide) (fun c_5 => ?_) (fun c_5 => ?_)
  · obtain ⟨i, hi, rfl⟩ := sp_b_of c_5 (by decide)
    have hrk := sp_rank_of hok hi
    have hp2 := pk_p2 hi
    have hll := sp_lookA_lt X.1 (2 ^ i)
    rw [op_ink, if_neg (by rw [sp_b_n hi (by decide)]; decide), nI_clamp (by omega)]
    refine pk_iload_n dX6_ink_10 rfl ?_
    rcases pk_ix c (n := 5) (by decide) with c_11 | c_11 | ⟨j_11, hj_11, e_11⟩
    · refine pk_swOut (tgt := 93) dX6_ink_11 (Or.inl (pk_sw1 c_11)) (by decide) ?_
      refine pk_iconst (v := -1) dX6_ink_93 (by decide) ?_
      refine pk_reti dX6_ink_94 (by first | rfl | exact pk_nbi _) ?_
      first | (rw [sp_sw_lo c_11]; exact ⟨rfl, pk_ff.rf _ M, hR⟩) | (rw [sp_sw_hi c_11]; exact ⟨rfl, pk_ff.rf _ M, hR⟩) | (rw [sp_sw_n (by decide) (by decide)]; exact ⟨rfl, pk_ff.rf _ M, hR⟩)
    · refine pk_swOut (tgt := 93) dX6_ink_11 (Or.inr (pk_sw2 (by decide) c_11)) (by decide) ?_
      refine pk_iconst (v := -1) dX6_ink_93 (by decide) ?_
      refine pk_reti dX6_ink_94 (by first | rfl | exact pk_nbi _) ?_
      first | (rw [sp_sw_lo c_11]; exact ⟨rfl, pk_ff.rf _ M, hR⟩) | (rw [sp_sw_hi c_11]; exact ⟨rfl, pk_ff.rf _ M, hR⟩) | (rw [sp_sw_n (by decide) (by decide)]; exact ⟨rfl, pk_ff.rf _ M, hR⟩)
    · subst e_11
      obtain rfl | rfl | rfl | rfl | rfl : j_11 = 0 ∨ j_11 = 1 ∨ j_11 = 2 ∨ j_11 = 3 ∨ j_11 = 4 := by omega
      · refine pk_swIn (off := 33) (tgt := 44) dX6_ink_11 (by decide) (by decide) rfl (by decide) ?_
        refine pk_aload_n dX6_ink_44 rfl ?_
        refine pk_getP dX6_ink_45 fl_X6_10 rfl (hW.s rfl) (hW.p rfl) ?_
        refine pk_getP dX6_ink_48 fl_X6_75 rfl (hW.s rfl) (hW.p rfl) ?_
        refine pk_iload_n dX6_ink_51 rfl ?_
        refine pk_aldN dX6_ink_52 (hW.s rfl) (by omega) (by omega) (hA.2.2.2.1 i hi) ?_
        refine pk_reti dX6_ink_53 (by first | rfl | exact pk_nbi _) ?_
        first | (rw [sp_sw_lo c_11]; exact ⟨rfl, pk_ff.rf _ M, hR⟩) | (rw [sp_sw_hi c_11]; exact ⟨rfl, pk_ff.rf _ M, hR⟩) | (rw [sp_sw_n (by decide) (by decide)]; exact ⟨rfl, pk_ff.rf _ M, hR⟩)
      · refine pk_swIn (off := 43) (tgt := 54) dX6_ink_11 (by decide) (by decide) rfl (by decide) ?_
        refine pk_aload_n dX6_ink_54 rfl ?_
        refine pk_getP dX6_ink_55 fl_X6_10 rfl (hW.s rfl) (hW.p rfl) ?_
        refine pk_getP dX6_ink_58 fl_X6_78 rfl (hW.s rfl) (hW.p rfl) ?_
        refine pk_iload_n dX6_ink_61 rfl ?_
        refine pk_aldN dX6_ink_62 (hW.s rfl) (by omega) (by omega) (hA.2.2.2.2.1 i hi) ?_
        refine pk_reti dX6_ink_63 (by first | rfl | exact pk_nbi _) ?_
        first | (rw [sp_sw_lo c_11]; exact ⟨rfl, pk_ff.rf _ M, hR⟩) | (rw [sp_sw_hi c_11]; exact ⟨rfl, pk_ff.rf _ M, hR⟩) | (rw [sp_sw_n (by decide) (by decide)]; exact ⟨rfl, pk_ff.rf _ M, hR⟩)
      · refine pk_swIn (off := 53) (tgt := 64) dX6_ink_11 (by decide) (by decide) rfl (by decide) ?_
        refine pk_aload_n dX6_ink_64 rfl ?_
        refine pk_getP dX6_ink_65 fl_X6_10 rfl (hW.s rfl) (hW.p rfl) ?_
        refine pk_iload_n dX6_ink_68 rfl ?_
        refine pk_Vi dX6_ink_69 ml_X6_81 yw_X4_placeInOrder yv_X4_placeInOrder (hW.s rfl) (e_X4_placeInOrder (p := 6) hW rfl hA hok hrk.1 hrk.2) rfl rfl rfl rfl rfl rfl rfl ?_
        refine pk_reti dX6_ink_72 (by first | rfl | exact pk_nbi _) ?_
        first | (rw [sp_sw_lo c_11]; exact ⟨rfl, pk_ff.rf _ M, hR⟩) | (rw [sp_sw_hi c_11]; exact ⟨rfl, pk_ff.rf _ M, hR⟩) | (rw [sp_sw_n (by decide) (by decide)]; exact ⟨rfl, pk_ff.rf _ M, hR⟩)
      · refine pk_swIn (off := 62) (tgt := 73) dX6_ink_11 (by decide) (by decide) rfl (by decide) ?_
        refine pk_aload_n dX6_ink_73 rfl ?_
        refine pk_iconst (v := nI 1) dX6_ink_74 (by decide) ?_
        refine pk_iload_n dX6_ink_75 rfl ?_
        first | refine pk_shlNN dX6_ink_76 (by omega) ?_ | refine pk_ishl dX6_ink_76 ?_
        refine pk_Vi dX6_ink_77 ml_X6_85 yw_X6_lookNow yv_X6_lookNow (hW.s rfl) (e_X6_lookNow ⟨hW, hA, hok⟩ hp2) rfl rfl rfl rfl rfl rfl rfl ?_
        refine pk_Si dX6_ink_80 ml_X6_88 yw_X6_darkOf ys_X6_darkOf (e_X6_darkOf _ (by omega)) rfl rfl rfl rfl rfl rfl rfl ?_
        refine pk_reti dX6_ink_83 (by first | rfl | exact pk_nbi _) ?_
        first | (rw [sp_sw_lo c_11]; exact ⟨rfl, pk_ff.rf _ M, hR⟩) | (rw [sp_sw_hi c_11]; exact ⟨rfl, pk_ff.rf _ M, hR⟩) | (rw [sp_sw_n (by decide) (by decide)]; exact ⟨rfl, pk_ff.rf _ M, hR⟩)
      · refine pk_swIn (off := 73) (tgt := 84) dX6_ink_11 (by decide) (by decide) rfl (by decide) ?_
        refine pk_aload_n dX6_ink_84 rfl ?_
        refine pk_getP dX6_ink_85 fl_X6_10 rfl (hW.s rfl) (hW.p rfl) ?_
        refine pk_iload_n dX6_ink_88 rfl ?_
        refine pk_Vi dX6_ink_89 ml_X6_91 yw_X4_placesWithInk yv_X4_placesWithInk (hW.s rfl) (e_X4_placesWithInk (p := 6) hW rfl hA hok hi) rfl rfl rfl rfl rfl rfl rfl ?_
        refine pk_reti dX6_ink_92 (by first | rfl | exact pk_nbi _) ?_
        first | (rw [sp_sw_lo c_11]; exact ⟨rfl, pk_ff.rf _ M, hR⟩) | (rw [sp_sw_hi c_11]; exact ⟨rfl, pk_ff.rf _ M, hR⟩) | (rw [sp_sw_n (by decide) (by decide)]; exact ⟨rfl, pk_ff.rf _ M, hR⟩)
  · refine pk_iconst (v := -1) dX6_ink_8 (by decide) ?_
    refine pk_reti dX6_ink_9 (by first | rfl | exact pk_nbi _) ?_
    rw [op_ink, if_pos (show sp_b i 5 = false from c_5)]
    exact ⟨rfl, pk_ff.rf _ M, hR⟩

set_option maxRecDepth 100000 in
set_option maxHeartbeats 4000000 in
theorem e_X6_set {Γ : pk_T} {M : pk_M} {L : Nat} {X : pk_X} (hR : pk_RC L M X) (hX : pk_okX X) (t c : Int32) : pk_E Γ yX6_set cX6_set 3 (some .int) 5 0 0 M [.ref 5, .int t, .int c] (fun r M' => r = some (.int (op_set X t c)) ∧ pk_cf M M' ∧ pk_RC L M' X) := by
  have hR0 := hR
  obtain ⟨hW, hro, hA, ⟨pl, hP⟩, hkb, ⟨pl2, kn, KH, hKP, hKq⟩, hKA, hTp, hSh⟩ := hR0
  have hok := hX.1
  have hw := hok.1
  have hh := hok.2.1
  have hn6 := hX.2.1.1
  refine pk_meth (own := RX6) (ini := false) [some (.ref 5), some (.int t), some (.int c)] (by decide +kernel) rfl (by decide +kernel) rfl rfl ?_
  refine pk_iload_n dX6_set_0 rfl ?_
  refine pk_bipush (v := nI 32) dX6_set_1 (by decide) ?_
  refine pk_Si dX6_set_3 ml_X6_71 yw_X6_isBelow ys_X6_isBelow (e_X6_isBelow _ _) rfl rfl rfl rfl rfl rfl rfl ?_
  first | refine pk_neb (tgt := 11) dX6_set_6 (by decide) (fun c_6 => ?_) (fun c_6 => ?_) | refine pk_ne0N (tgt := 11) dX6_set_6 (by decide) (by omega) (fun c_6 => ?_) (fun c_6 => ?_) | refine pk_if_ne (tgt := 11) dX6_set_6 (by decide) (fun c_6 => ?_) (fun c_6 => ?_)
  · obtain ⟨t, ht, rfl⟩ := sp_b_of c_6 (by decide)
    have hll := sp_lookA_lt X.1 t
    rw [op_set, if_neg (by rw [sp_b_n ht (by decide)]; decide), nI_clamp (by omega)]
    refine pk_iload_n dX6_set_11 rfl ?_
    rcases pk_ix c (n := 4) (by decide) with c_12 | c_12 | ⟨j_12, hj_12, e_12⟩
    · refine pk_swOut (tgt := 74) dX6_set_12 (Or.inl (pk_sw1 c_12)) (by decide) ?_
      refine pk_iconst (v := -1) dX6_set_74 (by decide) ?_
      refine pk_reti dX6_set_75 (by first | rfl | exact pk_nbi _) ?_
      first | (rw [sp_sw_lo c_12]; exact ⟨rfl, pk_ff.rf _ M, hR⟩) | (rw [sp_sw_hi c_12]; exact ⟨rfl, pk_ff.rf _ M, hR⟩) | (rw [sp_sw_n (by decide) (by decide)]; exact ⟨rfl, pk_ff.rf _ M, hR⟩)
    · refine pk_swOut (tgt := 74) dX6_set_12 (Or.inr (pk_sw2 (by decide) c_12)) (by decide) ?_
      refine pk_iconst (v := -1) dX6_set_74 (by decide) ?_
      refine pk_reti dX6_set_75 (by first | rfl | exact pk_nbi _) ?_
      first | (rw [sp_sw_lo c_12]; exact ⟨rfl, pk_ff.rf _ M, hR⟩) | (rw [sp_sw_hi c_12]; exact ⟨rfl, pk_ff.rf _ M, hR⟩) | (rw [sp_sw_n (by decide) (by decide)]; exact ⟨rfl, pk_ff.rf _ M, hR⟩)
    · subst e_12
      obtain rfl | rfl | rfl | rfl : j_12 = 0 ∨ j_12 = 1 ∨ j_12 = 2 ∨ j_12 = 3 := by omega
      · refine pk_swIn (off := 32) (tgt := 44) dX6_set_12 (by decide) (by decide) rfl (by decide) ?_
        refine pk_aload_n dX6_set_44 rfl ?_
        refine pk_iload_n dX6_set_45 rfl ?_
        refine pk_Vi dX6_set_46 ml_X6_85 yw_X6_lookNow yv_X6_lookNow (hW.s rfl) (e_X6_lookNow ⟨hW, hA, hok⟩ ht) rfl rfl rfl rfl rfl rfl rfl ?_
        refine pk_reti dX6_set_49 (by first | rfl | exact pk_nbi _) ?_
        first | (rw [sp_sw_lo c_12]; exact ⟨rfl, pk_ff.rf _ M, hR⟩) | (rw [sp_sw_hi c_12]; exact ⟨rfl, pk_ff.rf _ M, hR⟩) | (rw [sp_sw_n (by decide) (by decide)]; exact ⟨rfl, pk_ff.rf _ M, hR⟩)
      · refine pk_swIn (off := 38) (tgt := 50) dX6_set_12 (by decide) (by decide) rfl (by decide) ?_
        refine pk_aload_n dX6_set_50 rfl ?_
        refine pk_iload_n dX6_set_51 rfl ?_
        refine pk_Vi dX6_set_52 ml_X6_85 yw_X6_lookNow yv_X6_lookNow (hW.s rfl) (e_X6_lookNow ⟨hW, hA, hok⟩ ht) rfl rfl rfl rfl rfl rfl rfl ?_
        refine pk_Si dX6_set_55 ml_X6_88 yw_X6_darkOf ys_X6_darkOf (e_X6_darkOf _ (by omega)) rfl rfl rfl rfl rfl rfl rfl ?_
        refine pk_reti dX6_set_58 (by first | rfl | exact pk_nbi _) ?_
        first | (rw [sp_sw_lo c_12]; exact ⟨rfl, pk_ff.rf _ M, hR⟩) | (rw [sp_sw_hi c_12]; exact ⟨rfl, pk_ff.rf _ M, hR⟩) | (rw [sp_sw_n (by decide) (by decide)]; exact ⟨rfl, pk_ff.rf _ M, hR⟩)
      · refine pk_swIn (off := 47) (tgt := 59) dX6_set_12 (by decide) (by decide) rfl (by decide) ?_
        refine pk_aload_n dX6_set_59 rfl ?_
        refine pk_iload_n dX6_set_60 rfl ?_
        refine pk_Vir dX6_set_61 ml_X6_94 yw_X6_alikeTo yv_X6_alikeTo (hW.s rfl) (e_X6_alikeTo ⟨hW, hA, hok⟩ ht) rfl rfl rfl rfl rfl rfl rfl (fun M1 hf1 => ?_)
        skip
        refine pk_reti dX6_set_64 (by first | rfl | exact pk_nbi _) ?_
        rw [sp_sw_n (by decide) (by decide)]
        exact ⟨rfl, hf1.ff.mono (fun q h => by omega), hR.scr (hf1.ff.mono (fun q h => by unfold pk_scr; omega))⟩
      · refine pk_swIn (off := 53) (tgt := 65) dX6_set_12 (by decide) (by decide) rfl (by decide) ?_
        refine pk_aload_n dX6_set_65 rfl ?_
        refine pk_getP dX6_set_66 fl_X6_10 rfl (hW.s rfl) (hW.p rfl) ?_
        refine pk_iload_n dX6_set_69 rfl ?_
        refine pk_Vi dX6_set_70 ml_X6_97 yw_X4_placesOfSet yv_X4_placesOfSet (hW.s rfl) (e_X4_placesOfSet (p := 6) hW rfl hA hok ht) rfl rfl rfl rfl rfl rfl rfl ?_
        refine pk_reti dX6_set_73 (by first | rfl | exact pk_nbi _) ?_
        first | (rw [sp_sw_lo c_12]; exact ⟨rfl, pk_ff.rf _ M, hR⟩) | (rw [sp_sw_hi c_12]; exact ⟨rfl, pk_ff.rf _ M, hR⟩) | (rw [sp_sw_n (by decide) (by decide)]; exact ⟨rfl, pk_ff.rf _ M, hR⟩)
  · refine pk_iconst (v := -1) dX6_set_9 (by decide) ?_
    refine pk_reti dX6_set_10 (by first | rfl | exact pk_nbi _) ?_
    rw [op_set, if_pos (show sp_b t 32 = false from c_6)]
    exact ⟨rfl, pk_ff.rf _ M, hR⟩
