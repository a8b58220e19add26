/-! Past: bring, become; Row. -/
set_option maxRecDepth 100000 in
set_option maxHeartbeats 4000000 in
theorem e_X2_bring {Γ : pk_T} {M : pk_M} {L n : Nat} {pl : Nat → Nat} {Hs : Nat → pk_St} (hW : pk_WF L M) (hP : pk_past M 11 12 13 43 pl n Hs) : pk_E Γ yX2_bring cX2_bring 2 (some .boolean) 2 0 0 M [.ref 11, .ref 6] (fun r M' => (n = 0 ∧ r = some (.int 0) ∧ M' = M) ∨ (0 < n ∧ r = some (.int 1) ∧ pk_ff (fun q => q = 11 ∨ (6 ≤ q ∧ q ≤ 10)) M M' ∧ pk_past M' 11 12 13 43 pl (n - 1) Hs ∧ pk_At M' 6 (Hs (n - 1)))) := by
  refine pk_meth (own := RX2) (ini := false) [some (.ref 11), some (.ref 6)] (by decide +kernel) rfl (by decide +kernel) rfl rfl ?_
  have hn6 := hP.2.2.1
  refine pk_aload_n dX2_bring_0 rfl ?_
  refine pk_getN dX2_bring_1 fl_X2_17 rfl (hW.s rfl) hP.2.1 ?_
  refine pk_iconst (v := nI 1) dX2_bring_4 (by decide) ?_
  first | refine pk_ltN (tgt := 17) dX2_bring_5 (by decide) (by omega) (by omega) (fun c_5 => ?_) (fun c_5 => ?_) | refine pk_icmp_lt (tgt := 17) dX2_bring_5 (by decide) (fun c_5 => ?_) (fun c_5 => ?_)
  · refine pk_iconst (v := nI 0) dX2_bring_17 (by decide) ?_
    refine pk_reti dX2_bring_18 (by first | rfl | exact pk_nbi _) ?_
    exact Or.inl ⟨by omega, rfl, rfl⟩
  · refine pk_aload_n dX2_bring_8 rfl ?_
    refine pk_getN dX2_bring_9 fl_X2_17 rfl (hW.s rfl) hP.2.1 ?_
    refine pk_bipush (v := nI 6) dX2_bring_12 (by decide) ?_
    first | refine pk_leN (tgt := 19) dX2_bring_14 (by decide) (by omega) (by omega) (fun c_14 => ?_) (fun c_14 => ?_) | refine pk_icmp_le (tgt := 19) dX2_bring_14 (by decide) (fun c_14 => ?_) (fun c_14 => ?_)
    · refine pk_aload_n dX2_bring_19 rfl ?_
      refine pk_dup dX2_bring_20 rfl ?_
      refine pk_getN dX2_bring_21 fl_X2_17 rfl (hW.s rfl) hP.2.1 ?_
      refine pk_iconst (v := nI 1) dX2_bring_24 (by decide) ?_
      first | refine pk_subN dX2_bring_25 (by omega) ?_ | refine pk_isub dX2_bring_25 ?_
      refine pk_putI dX2_bring_26 fl_X2_17 rfl rfl rfl rfl (hW.s rfl) ?_
      refine pk_aload_n dX2_bring_29 rfl ?_
      refine pk_aload_n dX2_bring_30 rfl ?_
      refine pk_getP dX2_bring_31 fl_X2_11 rfl (hW.s rfl) (hW.p rfl) ?_
      refine pk_aload_n dX2_bring_34 rfl ?_
      refine pk_getN dX2_bring_35 fl_X2_17 rfl (hW.s rfl) (pk_gS1 (z := nI (n - 1)) rfl rfl rfl) ?_
      refine pk_aaN dX2_bring_38 (Or.inl ⟨rfl, rfl⟩) (hW.s rfl) (by omega) (by omega) (by omega) (hP.2.2.2.1 (n - 1) (by omega)) ?_
      refine pk_Vvr dX2_bring_39 ml_X2_29 yw_X4_become yv_X4_become (hW.s rfl) (e_X4_become (A := Hs (n - 1)) (M := pk_sI M 11 1 (nI (n - 1))) hW rfl (hP.2.2.2.2.1 (n - 1) (by omega)).1 (by have := hP.2.2.2.2.1 (n - 1) (by omega); omega) ((pk_fr.sI (D := fun q => q = 11) rfl).at (fun q h1 h2 => by have := hP.2.2.2.2.1 (n - 1) (by omega); omega) (hP.2.2.2.2.2.2 (n - 1) (by omega)))) rfl rfl rfl rfl rfl rfl rfl (fun M2 h2 => ?_)
      obtain ⟨hf2, hA2⟩ := h2
      refine pk_iconst (v := nI 1) dX2_bring_42 (by decide) ?_
      refine pk_reti dX2_bring_43 (by first | rfl | exact pk_nbi _) ?_
      have hff : pk_ff (fun q => q = 11 ∨ (6 ≤ q ∧ q ≤ 10)) M M2 := (pk_fr.ff (pk_fr.sI (Or.inl rfl))).tr (hf2.ff.mono (fun q h => Or.inr (by omega)))
      refine Or.inr ⟨by omega, rfl, hff, ⟨hP.1, ?_, by omega, fun k hk => (hff.P (by omega) k).trans (hP.2.2.2.1 k hk), hP.2.2.2.2.1, hP.2.2.2.2.2.1, fun k hk => ?_⟩, hA2⟩
      · rw [hf2.I (by omega)]
        exact pk_gS1 rfl rfl rfl
      · exact hff.at (fun q h1 h2 => by have := hP.2.2.2.2.1 k (by omega); omega) (hP.2.2.2.2.2.2 k (by omega))
    · omega

theorem pk_pa_s {L p a lo hi : Nat} {M : pk_M} (hW : pk_WF L M) (h : pk_pa p a lo hi) : pk_S M p = some (.inr 2) ∧ pk_P M p 0 = some a ∧ pk_S M a = some (.inl (.object RX4, 6)) ∧ 5 ≤ a ∧ a < lo ∧ p < lo ∧ p ≠ a ∧ hi ≤ 80 ∧ lo < hi := by
  rcases h with ⟨rfl, rfl, rfl, rfl⟩ | ⟨rfl, rfl, rfl, rfl⟩
  · exact ⟨hW.s rfl, hW.p rfl, hW.s rfl, by decide, by decide, by decide, by decide, by decide, by decide⟩
  · exact ⟨hW.s rfl, hW.p rfl, hW.s rfl, by decide, by decide, by decide, by decide, by decide, by decide⟩
theorem pk_pa_apart {p a lo hi p2 a2 lo2 hi2 : Nat} (h : pk_pa p a lo hi) (h2 : pk_pa p2 a2 lo2 hi2) (hne : p ≠ p2) : a ≠ a2 ∧ (hi ≤ p2 ∨ hi2 ≤ p) ∧ (hi ≤ a2 ∨ hi2 ≤ a) ∧ (hi ≤ lo2 ∨ hi2 ≤ lo) ∧ p ≠ a2 ∧ (p < lo2 ∨ hi2 ≤ p) ∧ (p2 < lo ∨ hi ≤ p2) := by
  rcases h with ⟨rfl, rfl, rfl, rfl⟩ | ⟨rfl, rfl, rfl, rfl⟩ <;> rcases h2 with ⟨rfl, rfl, rfl, rfl⟩ | ⟨rfl, rfl, rfl, rfl⟩ <;> first | exact absurd rfl hne | decide

set_option maxRecDepth 100000 in
set_option maxHeartbeats 4000000 in
theorem e_X2_become {Γ : pk_T} {M : pk_M} {L p a lo hi n p2 a2 lo2 hi2 n2 : Nat} {pl pl2 : Nat → Nat} {Hs Hs2 : Nat → pk_St} (hW : pk_WF L M) (hP : pk_past M p a lo hi pl n Hs) (hP2 : pk_past M p2 a2 lo2 hi2 pl2 n2 Hs2) (hne : p ≠ p2) : pk_E Γ yX2_become cX2_become 3 none 2 0 0 M [.ref p, .ref p2] (fun r M' => r = none ∧ pk_ff (fun q => q = p ∨ (lo ≤ q ∧ q < hi)) M M' ∧ pk_past M' p a lo hi pl n2 Hs2) := by
  refine pk_meth (own := RX2) (ini := false) [some (.ref p), some (.ref p2), none] (by decide +kernel) rfl (by decide +kernel) rfl rfl ?_
  have hs := pk_pa_s hW hP.1
  have hs2 := pk_pa_s hW hP2.1
  have hap := pk_pa_apart hP.1 hP2.1 hne
  have hn6 := hP2.2.2.1
  have hL : ∀ z : pk_M × Nat, (fun z : pk_M × Nat => z.2 ≤ n2 ∧ pk_ff (fun q => q = p ∨ (lo ≤ q ∧ q < hi)) M z.1 ∧ pk_I z.1 p 1 = nI n2 ∧ ∀ k, k < z.2 → pk_At z.1 (pl k) (Hs2 k)) z → pk_G Γ (pk_kq Γ RX2 3 none false 2 0 0 (List.map (pk_gv Γ) [Value.ref p, Value.ref p2]).toArray (fun r M' => r = none ∧ pk_ff (fun q => q = p ∨ (lo ≤ q ∧ q < hi)) M M' ∧ pk_past M' p a lo hi pl n2 Hs2)) cX2_become z.1 [some (.ref p), some (.ref p2), some (.int (nI z.2))] [] 10 0 0 := by
    refine pk_wf (fun z => n2 - z.2) (fun z : pk_M × Nat => z.2 ≤ n2 ∧ pk_ff (fun q => q = p ∨ (lo ≤ q ∧ q < hi)) M z.1 ∧ pk_I z.1 p 1 = nI n2 ∧ ∀ k, k < z.2 → pk_At z.1 (pl k) (Hs2 k)) (fun z => z.1) (fun z => [some (.ref p), some (.ref p2), some (.int (nI z.2))]) ?_
    rintro ⟨M1, i⟩ ⟨j1, j2, j3, j4⟩ K
    dsimp only at j1 j2 j3 j4 K ⊢
    have hW1 := j2.wf hW
    have hs' := pk_pa_s hW1 hP.1
    have hs2' := pk_pa_s hW1 hP2.1
    refine pk_iload_n dX2_become_10 rfl ?_
    refine pk_aload_n dX2_become_11 rfl ?_
    refine pk_getN dX2_become_12 fl_X2_17 rfl hs'.1 j3 ?_
    first | refine pk_geN (tgt := 45) dX2_become_15 (by decide) (by omega) (by omega) (fun c_15 => ?_) (fun c_15 => ?_) | refine pk_icmp_ge (tgt := 45) dX2_become_15 (by decide) (fun c_15 => ?_) (fun c_15 => ?_)
    · refine pk_retv dX2_become_45 ?_
      have hi2 : i = n2 := by omega
      subst hi2
      exact ⟨rfl, j2, hP.1, j3, hP2.2.2.1, fun k hk => (j2.P (by omega) k).trans (hP.2.2.2.1 k hk), hP.2.2.2.2.1, hP.2.2.2.2.2.1, j4⟩
    · refine pk_iload_n dX2_become_18 rfl ?_
      refine pk_bipush (v := nI 6) dX2_become_19 (by decide) ?_
      first | refine pk_geN (tgt := 45) dX2_become_21 (by decide) (by omega) (by omega) (fun c_21 => ?_) (fun c_21 => ?_) | refine pk_icmp_ge (tgt := 45) dX2_become_21 (by decide) (fun c_21 => ?_) (fun c_21 => ?_)
      · omega
      · refine pk_aload_n dX2_become_24 rfl ?_
        refine pk_getP dX2_become_25 fl_X2_11 rfl hs'.1 hs'.2.1 ?_
        refine pk_iload_n dX2_become_28 rfl ?_
        refine pk_aaN dX2_become_29 (Or.inl ⟨rfl, rfl⟩) hs'.2.2.1 (by omega) (by omega) (by omega) ((j2.P (by omega) i).trans (hP.2.2.2.1 i (by omega))) ?_
        refine pk_aload_n dX2_become_30 rfl ?_
        refine pk_getP dX2_become_31 fl_X2_11 rfl hs2'.1 hs2'.2.1 ?_
        refine pk_iload_n dX2_become_34 rfl ?_
        refine pk_aaN dX2_become_35 (Or.inl ⟨rfl, rfl⟩) hs2'.2.2.1 (by omega) (by omega) (by omega) ((j2.P (by omega) i).trans (hP2.2.2.2.1 i (by omega))) ?_
        refine pk_Vvr dX2_become_36 ml_X2_29 yw_X4_become yv_X4_become (hW1.ss (hP.2.2.2.2.1 i (by omega)).1) (e_X4_become (A := Hs2 i) hW1 (hP.2.2.2.2.1 i (by omega)).1 (hP2.2.2.2.2.1 i (by omega)).1 (by have := hP.2.2.2.2.1 i (by omega); have := hP2.2.2.2.2.1 i (by omega); omega) (j2.at (fun q h1 h2 => by have := hP2.2.2.2.2.1 i (by omega); omega) (hP2.2.2.2.2.2.2 i (by omega)))) rfl rfl rfl rfl rfl rfl rfl (fun M2 h2 => ?_)
        obtain ⟨hf2, hA2⟩ := h2
        first | refine pk_inc1 dX2_become_39 rfl rfl ?_ | refine pk_iinc dX2_become_39 rfl rfl rfl ?_
        refine pk_goto (tgt := 10) dX2_become_42 (by decide) ?_
        have hbi := hP.2.2.2.2.1 i (by omega)
        refine K (M2, i + 1) ⟨by omega, j2.tr (hf2.ff.mono (fun q h => Or.inr (by omega))), (hf2.I (by omega) 1).trans j3, fun k hk => ?_⟩ (by dsimp only; omega)
        dsimp only at hk
        by_cases h : k = i
        · subst h
          exact hA2
        · have hbk := hP.2.2.2.2.1 k (by omega)
          have hne2 : pl k ≠ pl i := fun z => h (hP.2.2.2.2.2.1 k (by omega) i (by omega) z)
          have hap2 := pk_isS_apart hbk.1 hbi.1 hne2
          exact hf2.at (fun q h1 h2 => by omega) (j4 k (by omega))
  refine pk_aload_n dX2_become_0 rfl ?_
  refine pk_aload_n dX2_become_1 rfl ?_
  refine pk_getN dX2_become_2 fl_X2_17 rfl hs2.1 hP2.2.1 ?_
  refine pk_putI dX2_become_5 fl_X2_17 rfl rfl rfl rfl hs.1 ?_
  refine pk_iconst (v := nI 0) dX2_become_8 (by decide) ?_
  refine pk_istore_n dX2_become_9 rfl rfl ?_
  exact hL (pk_sI M p 1 (nI n2), 0) ⟨Nat.zero_le _, pk_fr.ff (pk_fr.sI (D := fun q => q = p ∨ (lo ≤ q ∧ q < hi)) (Or.inl rfl)), pk_gS1 rfl rfl rfl, fun k hk => absurd hk (Nat.not_lt_zero k)⟩

/-- a sheet: is it there, its lane, how many items, the items -/
abbrev pk_Ro : Type := Bool × Nat × Nat × (Nat → Int64)
def pk_isR (p : Nat) : Bool := p == 95 || p == 97 || p == 99 || p == 101
def pk_Rw (M : pk_M) (p : Nat) (S : pk_Ro) : Prop := pk_I M p 1 = pk_bi S.1 ∧ pk_I M p 2 = nI S.2.1 ∧ pk_I M p 3 = nI S.2.2.1 ∧ S.2.1 < 4 ∧ S.2.2.1 ≤ 24 ∧ ∀ j, j < 24 → pk_J M (p + 1) j = S.2.2.2 j
theorem pk_isR_s {L p : Nat} {M : pk_M} (hW : pk_WF L M) (h : pk_isR p = true) : pk_S M p = some (.inr 3) ∧ pk_P M p 0 = some (p + 1) ∧ pk_S M (p + 1) = some (.inl (.long, 24)) ∧ 95 ≤ p ∧ p ≤ 101 := by
  simp only [pk_isR, Bool.or_eq_true, beq_iff_eq] at h
  rcases h with ((rfl | rfl) | rfl) | rfl <;> exact ⟨hW.s rfl, hW.p rfl, hW.s rfl, by decide, by decide⟩
def sp_has (m : Nat) (i n : Int32) : Bool := decide (0 ≤ i) && decide (i ≤ nI m) && decide (0 ≤ n) && decide (n ≤ nI m - i)
def sp_why (S : pk_Ro) (l i n : Int32) : Int32 := if S.1 = false then -11 else if ¬ nI S.2.1 = l then -12 else if sp_has S.2.2.1 i n then 0 else -13
def sp_cut (l : Nat) (v : Int64) : Int64 := match l with
  | 0 => v.toInt32.toInt8.toInt32.toInt64
  | 1 => v.toInt32.toInt16.toInt32.toInt64
  | 2 => v.toInt32.toInt64
  | _ => v

set_option maxRecDepth 100000 in
set_option maxHeartbeats 4000000 in
theorem e_X3_hasItems {Γ : pk_T} {M : pk_M} {L p : Nat} {S : pk_Ro} (hW : pk_WF L M) (hp : pk_isR p = true) (hR : pk_Rw M p S) (i n : Int32) : pk_E Γ yX3_hasItems cX3_hasItems 3 (some .boolean) 1 0 0 M [.ref p, .int i, .int n] (fun r M' => r = some (.int (pk_bi (sp_has S.2.2.1 i n))) ∧ M' = M) := by
  have hs := pk_isR_s hW hp
  have hl4 := hR.2.2.2.1
  have hm := hR.2.2.2.2.1
  refine pk_meth (own := RX3) (ini := false) [some (.ref p), some (.int i), some (.int n)] (by decide +kernel) rfl (by decide +kernel) rfl rfl ?_
  refine pk_iload_n dX3_hasItems_0 rfl ?_
  refine pk_if_lt (tgt := 30) dX3_hasItems_1 (by decide) (fun c_1 => ?_) (fun c_1 => ?_)
  · refine pk_iconst (v := nI 0) dX3_hasItems_30 (by decide) ?_
    refine pk_reti dX3_hasItems_31 (by first | rfl | exact pk_nbi _) ?_
    refine ⟨?_, rfl⟩
    rw [sp_has]
    first | (rw [show decide ((0 : Int32) ≤ i) = false from decide_eq_false (Int32.not_le.mpr c_1)]; rfl) | (rw [show decide (i ≤ nI S.2.2.1) = false from decide_eq_false (Int32.not_le.mpr c_9), Bool.and_false]; rfl) | (rw [show decide ((0 : Int32) ≤ n) = false from decide_eq_false (Int32.not_le.mpr c_13), Bool.and_false]; rfl) | (rw [show decide (n ≤ nI S.2.2.1 - i) = false from decide_eq_false (Int32.not_le.mpr c_23), Bool.and_false]; rfl) | (rw [show decide ((0 : Int32) ≤ i) = true from decide_eq_true (Int32.not_lt.mp c_1), show decide (i ≤ nI S.2.2.1) = true from decide_eq_true (Int32.not_lt.mp c_9), show decide ((0 : Int32) ≤ n) = true from decide_eq_true (Int32.not_lt.mp c_13), show decide (n ≤ nI S.2.2.1 - i) = true from decide_eq_true (Int32.not_lt.mp c_23)]; rfl)
  · refine pk_iload_n dX3_hasItems_4 rfl ?_
    refine pk_aload_n dX3_hasItems_5 rfl ?_
    refine pk_getN dX3_hasItems_6 fl_X3_23 rfl hs.1 hR.2.2.1 ?_
    refine pk_icmp_gt (tgt := 30) dX3_hasItems_9 (by decide) (fun c_9 => ?_) (fun c_9 => ?_)
    · refine pk_iconst (v := nI 0) dX3_hasItems_30 (by decide) ?_
      refine pk_reti dX3_hasItems_31 (by first | rfl | exact pk_nbi _) ?_
      refine ⟨?_, rfl⟩
      rw [sp_has]
      first | (rw [show decide ((0 : Int32) ≤ i) = false from decide_eq_false (Int32.not_le.mpr c_1)]; rfl) | (rw [show decide (i ≤ nI S.2.2.1) = false from decide_eq_false (Int32.not_le.mpr c_9), Bool.and_false]; rfl) | (rw [show decide ((0 : Int32) ≤ n) = false from decide_eq_false (Int32.not_le.mpr c_13), Bool.and_false]; rfl) | (rw [show decide (n ≤ nI S.2.2.1 - i) = false from decide_eq_false (Int32.not_le.mpr c_23), Bool.and_false]; rfl) | (rw [show decide ((0 : Int32) ≤ i) = true from decide_eq_true (Int32.not_lt.mp c_1), show decide (i ≤ nI S.2.2.1) = true from decide_eq_true (Int32.not_lt.mp c_9), show decide ((0 : Int32) ≤ n) = true from decide_eq_true (Int32.not_lt.mp c_13), show decide (n ≤ nI S.2.2.1 - i) = true from decide_eq_true (Int32.not_lt.mp c_23)]; rfl)
    · refine pk_iload_n dX3_hasItems_12 rfl ?_
      refine pk_if_lt (tgt := 30) dX3_hasItems_13 (by decide) (fun c_13 => ?_) (fun c_13 => ?_)
      · refine pk_iconst (v := nI 0) dX3_hasItems_30 (by decide) ?_
        refine pk_reti dX3_hasItems_31 (by first | rfl | exact pk_nbi _) ?_
        refine ⟨?_, rfl⟩
        rw [sp_has]
        first | (rw [show decide ((0 : Int32) ≤ i) = false from decide_eq_false (Int32.not_le.mpr c_1)]; rfl) | (rw [show decide (i ≤ nI S.2.2.1) = false from decide_eq_false (Int32.not_le.mpr c_9), Bool.and_false]; rfl) | (rw [show decide ((0 : Int32) ≤ n) = false from decide_eq_false (Int32.not_le.mpr c_13), Bool.and_false]; rfl) | (rw [show decide (n ≤ nI S.2.2.1 - i) = false from decide_eq_false (Int32.not_le.mpr c_23), Bool.and_false]; rfl) | (rw [show decide ((0 : Int32) ≤ i) = true from decide_eq_true (Int32.not_lt.mp c_1), show decide (i ≤ nI S.2.2.1) = true from decide_eq_true (Int32.not_lt.mp c_9), show decide ((0 : Int32) ≤ n) = true from decide_eq_true (Int32.not_lt.mp c_13), show decide (n ≤ nI S.2.2.1 - i) = true from decide_eq_true (Int32.not_lt.mp c_23)]; rfl)
      · refine pk_iload_n dX3_hasItems_16 rfl ?_
        refine pk_aload_n dX3_hasItems_17 rfl ?_
        refine pk_getN dX3_hasItems_18 fl_X3_23 rfl hs.1 hR.2.2.1 ?_
        refine pk_iload_n dX3_hasItems_21 rfl ?_
        refine pk_isub dX3_hasItems_22 ?_
        refine pk_icmp_gt (tgt := 30) dX3_hasItems_23 (by decide) (fun c_23 => ?_) (fun c_23 => ?_)
        · refine pk_iconst (v := nI 0) dX3_hasItems_30 (by decide) ?_
          refine pk_reti dX3_hasItems_31 (by first | rfl | exact pk_nbi _) ?_
          refine ⟨?_, rfl⟩
          rw [sp_has]
          first | (rw [show decide ((0 : Int32) ≤ i) = false from decide_eq_false (Int32.not_le.mpr c_1)]; rfl) | (rw [show decide (i ≤ nI S.2.2.1) = false from decide_eq_false (Int32.not_le.mpr c_9), Bool.and_false]; rfl) | (rw [show decide ((0 : Int32) ≤ n) = false from decide_eq_false (Int32.not_le.mpr c_13), Bool.and_false]; rfl) | (rw [show decide (n ≤ nI S.2.2.1 - i) = false from decide_eq_false (Int32.not_le.mpr c_23), Bool.and_false]; rfl) | (rw [show decide ((0 : Int32) ≤ i) = true from decide_eq_true (Int32.not_lt.mp c_1), show decide (i ≤ nI S.2.2.1) = true from decide_eq_true (Int32.not_lt.mp c_9), show decide ((0 : Int32) ≤ n) = true from decide_eq_true (Int32.not_lt.mp c_13), show decide (n ≤ nI S.2.2.1 - i) = true from decide_eq_true (Int32.not_lt.mp c_23)]; rfl)
        · refine pk_iconst (v := nI 1) dX3_hasItems_26 (by decide) ?_
          refine pk_goto (tgt := 31) dX3_hasItems_27 (by decide) ?_
          refine pk_reti dX3_hasItems_31 (by first | rfl | exact pk_nbi _) ?_
          refine ⟨?_, rfl⟩
          rw [sp_has]
          first | (rw [show decide ((0 : Int32) ≤ i) = false from decide_eq_false (Int32.not_le.mpr c_1)]; rfl) | (rw [show decide (i ≤ nI S.2.2.1) = false from decide_eq_false (Int32.not_le.mpr c_9), Bool.and_false]; rfl) | (rw [show decide ((0 : Int32) ≤ n) = false from decide_eq_false (Int32.not_le.mpr c_13), Bool.and_false]; rfl) | (rw [show decide (n ≤ nI S.2.2.1 - i) = false from decide_eq_false (Int32.not_le.mpr c_23), Bool.and_false]; rfl) | (rw [show decide ((0 : Int32) ≤ i) = true from decide_eq_true (Int32.not_lt.mp c_1), show decide (i ≤ nI S.2.2.1) = true from decide_eq_true (Int32.not_lt.mp c_9), show decide ((0 : Int32) ≤ n) = true from decide_eq_true (Int32.not_lt.mp c_13), show decide (n ≤ nI S.2.2.1 - i) = true from decide_eq_true (Int32.not_lt.mp c_23)]; rfl)

set_option maxRecDepth 100000 in
set_option maxHeartbeats 4000000 in
theorem e_X3_whyNot {Γ : pk_T} {M : pk_M} {L p : Nat} {S : pk_Ro} (hW : pk_WF L M) (hp : pk_isR p = true) (hR : pk_Rw M p S) (l i n : Int32) : pk_E Γ yX3_whyNot cX3_whyNot 4 (some .int) 2 0 0 M [.ref p, .int l, .int i, .int n] (fun r M' => r = some (.int (sp_why S l i n)) ∧ M' = M) := by
  have hs := pk_isR_s hW hp
  have hl4 := hR.2.2.2.1
  have hm := hR.2.2.2.2.1
  refine pk_meth (own := RX3) (ini := false) [some (.ref p), some (.int l), some (.int i), some (.int n)] (by decide +kernel) rfl (by decide +kernel) rfl rfl ?_
  refine pk_aload_n dX3_whyNot_0 rfl ?_
  refine pk_getI dX3_whyNot_1 fl_X3_15 rfl hs.1 ?_
  rw [hR.1]
  first | refine pk_neb (tgt := 10) dX3_whyNot_4 (by decide) (fun c_4 => ?_) (fun c_4 => ?_) | refine pk_ne0N (tgt := 10) dX3_whyNot_4 (by decide) (by omega) (fun c_4 => ?_) (fun c_4 => ?_) | refine pk_if_ne (tgt := 10) dX3_whyNot_4 (by decide) (fun c_4 => ?_) (fun c_4 => ?_)
  · refine pk_aload_n dX3_whyNot_10 rfl ?_
    refine pk_getN dX3_whyNot_11 fl_X3_19 rfl hs.1 hR.2.1 ?_
    refine pk_iload_n dX3_whyNot_14 rfl ?_
    refine pk_icmp_eq (tgt := 21) dX3_whyNot_15 (by decide) (fun c_15 => ?_) (fun c_15 => ?_)
    · refine pk_aload_n dX3_whyNot_21 rfl ?_
      refine pk_iload_n dX3_whyNot_22 rfl ?_
      refine pk_iload_n dX3_whyNot_23 rfl ?_
      refine pk_Vi dX3_whyNot_24 ml_X3_26 yw_X3_hasItems yv_X3_hasItems hs.1 (e_X3_hasItems hW hp hR _ _) rfl rfl rfl rfl rfl rfl rfl ?_
      first | refine pk_eqb (tgt := 34) dX3_whyNot_27 (by decide) (fun c_27 => ?_) (fun c_27 => ?_) | refine pk_eq0N (tgt := 34) dX3_whyNot_27 (by decide) (by omega) (fun c_27 => ?_) (fun c_27 => ?_) | refine pk_if_eq (tgt := 34) dX3_whyNot_27 (by decide) (fun c_27 => ?_) (fun c_27 => ?_)
      · refine pk_bipush (v := -13) dX3_whyNot_34 (by decide) ?_
        refine pk_reti dX3_whyNot_36 (by first | rfl | exact pk_nbi _) ?_
        refine ⟨?_, rfl⟩
        rw [sp_why, if_neg (by rw [c_4]; decide), if_neg (by rw [c_15]; exact fun h => h rfl), c_27]
        rfl
      · refine pk_iconst (v := nI 0) dX3_whyNot_30 (by decide) ?_
        refine pk_goto (tgt := 36) dX3_whyNot_31 (by decide) ?_
        refine pk_reti dX3_whyNot_36 (by first | rfl | exact pk_nbi _) ?_
        refine ⟨?_, rfl⟩
        rw [sp_why, if_neg (by rw [c_4]; decide), if_neg (by rw [c_15]; exact fun h => h rfl), c_27]
        rfl
    · refine pk_bipush (v := -12) dX3_whyNot_18 (by decide) ?_
      refine pk_reti dX3_whyNot_20 (by first | rfl | exact pk_nbi _) ?_
      refine ⟨?_, rfl⟩
      rw [sp_why, if_neg (by rw [c_4]; decide), if_pos c_15]
  · refine pk_bipush (v := -11) dX3_whyNot_7 (by decide) ?_
    refine pk_reti dX3_whyNot_9 (by first | rfl | exact pk_nbi _) ?_
    refine ⟨?_, rfl⟩
    rw [sp_why, if_pos c_4]

set_option maxRecDepth 100000 in
set_option maxHeartbeats 4000000 in
theorem e_X3_lowestBits {Γ : pk_T} {M : pk_M} {L p : Nat} {S : pk_Ro} (hW : pk_WF L M) (hp : pk_isR p = true) (hR : pk_Rw M p S) (v : Int64) : pk_E Γ yX3_lowestBits cX3_lowestBits 3 (some .long) 1 0 0 M [.ref p, .long v] (fun r M' => r = some (.long (sp_cut S.2.1 v)) ∧ M' = M) := by
  have hs := pk_isR_s hW hp
  have hl4 := hR.2.2.2.1
  have hm := hR.2.2.2.2.1
  refine pk_meth (own := RX3) (ini := false) [some (.ref p), some (.long v), none] (by decide +kernel) rfl (by decide +kernel) rfl rfl ?_
  obtain ⟨b, l, m, f⟩ := S
  dsimp only at hl4 hm
  have hRl : pk_I M p 2 = nI l := hR.2.1
  refine pk_aload_n dX3_lowestBits_0 rfl ?_
  refine pk_getN dX3_lowestBits_1 fl_X3_19 rfl hs.1 hRl ?_
  obtain rfl | rfl | rfl | rfl : l = 0 ∨ l = 1 ∨ l = 2 ∨ l = 3 := by omega
  · refine pk_swIn (off := 28) (tgt := 32) dX3_lowestBits_4 (by decide) (by decide) rfl (by decide) ?_
    refine pk_lload_n dX3_lowestBits_32 rfl ?_
    refine pk_l2i dX3_lowestBits_33 ?_
    refine pk_i2b dX3_lowestBits_34 ?_
    refine pk_i2l dX3_lowestBits_35 ?_
    refine pk_retl dX3_lowestBits_36 ?_
    exact ⟨rfl, rfl⟩
  · refine pk_swIn (off := 33) (tgt := 37) dX3_lowestBits_4 (by decide) (by decide) rfl (by decide) ?_
    refine pk_lload_n dX3_lowestBits_37 rfl ?_
    refine pk_l2i dX3_lowestBits_38 ?_
    refine pk_i2s dX3_lowestBits_39 ?_
    refine pk_i2l dX3_lowestBits_40 ?_
    refine pk_retl dX3_lowestBits_41 ?_
    exact ⟨rfl, rfl⟩
  · refine pk_swIn (off := 38) (tgt := 42) dX3_lowestBits_4 (by decide) (by decide) rfl (by decide) ?_
    refine pk_lload_n dX3_lowestBits_42 rfl ?_
    refine pk_l2i dX3_lowestBits_43 ?_
    refine pk_i2l dX3_lowestBits_44 ?_
    refine pk_retl dX3_lowestBits_45 ?_
    exact ⟨rfl, rfl⟩
  · refine pk_swOut (tgt := 46) dX3_lowestBits_4 (by decide) (by decide) ?_
    refine pk_lload_n dX3_lowestBits_46 rfl ?_
    refine pk_retl dX3_lowestBits_47 ?_
    exact ⟨rfl, rfl⟩

set_option maxRecDepth 100000 in
set_option maxHeartbeats 4000000 in
theorem e_X3_at {Γ : pk_T} {M : pk_M} {L p : Nat} {S : pk_Ro} (hW : pk_WF L M) (hp : pk_isR p = true) (hR : pk_Rw M p S) {i : Nat} (hi : i < 24) : pk_E Γ yX3_at cX3_at 2 (some .long) 1 0 0 M [.ref p, .int (nI i)] (fun r M' => r = some (.long (S.2.2.2 i)) ∧ M' = M) := by
  have hs := pk_isR_s hW hp
  have hl4 := hR.2.2.2.1
  have hm := hR.2.2.2.2.1
  refine pk_meth (own := RX3) (ini := false) [some (.ref p), some (.int (nI i))] (by decide +kernel) rfl (by decide +kernel) rfl rfl ?_
  refine pk_iload_n dX3_at_0 rfl ?_
  refine pk_bipush (v := nI 24) dX3_at_1 (by decide) ?_
  refine pk_Si dX3_at_3 ml_X3_30 yw_X6_isBelow ys_X6_isBelow (e_X6_isBelow _ _) rfl rfl rfl rfl rfl rfl rfl ?_
  first | refine pk_eqb (tgt := 18) dX3_at_6 (by decide) (fun c_6 => ?_) (fun c_6 => ?_) | refine pk_eq0N (tgt := 18) dX3_at_6 (by decide) (by omega) (fun c_6 => ?_) (fun c_6 => ?_) | refine pk_if_eq (tgt := 18) dX3_at_6 (by decide) (fun c_6 => ?_) (fun c_6 => ?_)
  · exfalso; simp [nI_pos' (show i < 2 ^ 31 by omega), nI_ltI (show i < 2 ^ 31 by omega) (show 24 < 2 ^ 31 by decide)] at c_6; omega
  · refine pk_aload_n dX3_at_9 rfl ?_
    refine pk_getP dX3_at_10 fl_X3_9 rfl hs.1 hs.2.1 ?_
    refine pk_iload_n dX3_at_13 rfl ?_
    refine pk_laV dX3_at_14 hs.2.2.1 (by omega) (by omega) (by omega) (hR.2.2.2.2.2 i hi) ?_
    refine pk_goto (tgt := 19) dX3_at_15 (by decide) ?_
    refine pk_retl dX3_at_19 ?_
    exact ⟨rfl, rfl⟩

set_option maxRecDepth 100000 in
set_option maxHeartbeats 4000000 in
theorem e_X3_write {Γ : pk_T} {M : pk_M} {L p : Nat} {S : pk_Ro} (hW : pk_WF L M) (hp : pk_isR p = true) (hR : pk_Rw M p S) {i : Nat} (hi : i < 24) (v : Int64) : pk_E Γ yX3_write cX3_write 4 none 2 0 0 M [.ref p, .int (nI i), .long v] (fun r M' => r = none ∧ M' = pk_sJ M (p + 1) i (sp_cut S.2.1 v)) := by
  have hs := pk_isR_s hW hp
  have hl4 := hR.2.2.2.1
  have hm := hR.2.2.2.2.1
  refine pk_meth (own := RX3) (ini := false) [some (.ref p), some (.int (nI i)), some (.long v), none] (by decide +kernel) rfl (by decide +kernel) rfl rfl ?_
  refine pk_iload_n dX3_write_0 rfl ?_
  refine pk_bipush (v := nI 24) dX3_write_1 (by decide) ?_
  refine pk_Si dX3_write_3 ml_X3_30 yw_X6_isBelow ys_X6_isBelow (e_X6_isBelow _ _) rfl rfl rfl rfl rfl rfl rfl ?_
  first | refine pk_eqb (tgt := 20) dX3_write_6 (by decide) (fun c_6 => ?_) (fun c_6 => ?_) | refine pk_eq0N (tgt := 20) dX3_write_6 (by decide) (by omega) (fun c_6 => ?_) (fun c_6 => ?_) | refine pk_if_eq (tgt := 20) dX3_write_6 (by decide) (fun c_6 => ?_) (fun c_6 => ?_)
  · exfalso; simp [nI_pos' (show i < 2 ^ 31 by omega), nI_ltI (show i < 2 ^ 31 by omega) (show 24 < 2 ^ 31 by decide)] at c_6; omega
  · refine pk_aload_n dX3_write_9 rfl ?_
    refine pk_getP dX3_write_10 fl_X3_9 rfl hs.1 hs.2.1 ?_
    refine pk_iload_n dX3_write_13 rfl ?_
    refine pk_aload_n dX3_write_14 rfl ?_
    refine pk_lload_n dX3_write_15 rfl ?_
    refine pk_Vl dX3_write_16 ml_X3_33 yw_X3_lowestBits yv_X3_lowestBits hs.1 (e_X3_lowestBits hW hp hR _) rfl rfl rfl rfl rfl rfl rfl ?_
    refine pk_lasN dX3_write_19 hs.2.2.1 (by omega) (by omega) (by omega) ?_
    refine pk_retv dX3_write_20 ?_
    exact ⟨rfl, rfl⟩

def pk_wJ (M : pk_M) (p : Nat) (f : Nat → Int64) : pk_M := (M.1, M.2.1, fun q j => if q = p then f j else M.2.2.1 q j, M.2.2.2)
theorem pk_wJ_id (M : pk_M) (p : Nat) : pk_wJ M p (pk_J M p) = M := by
  have : (fun q j => if q = p then pk_J M p j else M.2.2.1 q j) = M.2.2.1 := by
    funext q j
    by_cases h : q = p
    · subst h; simp [pk_J]
    · simp [h]
  simp only [pk_wJ, this]
theorem pk_wJ_sJ (M : pk_M) (p k : Nat) (f : Nat → Int64) (x : Int64) : pk_sJ (pk_wJ M p f) p k x = pk_wJ M p (fun j => if j = k then x else f j) := by
  have : (fun q j => if q = p ∧ j = k then x else if q = p then f j else M.2.2.1 q j) = (fun q j => if q = p then (if j = k then x else f j) else M.2.2.1 q j) := by
    funext q j
    by_cases h : q = p <;> by_cases h2 : j = k <;> simp [h, h2]
  simp only [pk_wJ, pk_sJ, this]

set_option maxRecDepth 100000 in
set_option maxHeartbeats 4000000 in
theorem e_X3_begin {Γ : pk_T} {M : pk_M} {L p l n : Nat} (hW : pk_WF L M) (hp : pk_isR p = true) : pk_E Γ yX3_begin cX3_begin 4 none 1 0 0 M [.ref p, .int (nI l), .int (nI n)] (fun r M' => r = none ∧ M' = pk_wJ (pk_sI (pk_sI (pk_sI M p 1 (nI 1)) p 2 (nI l)) p 3 (nI n)) (p + 1) (fun i => if i < 24 then 0 else pk_J M (p + 1) i)) := by
  have hs := pk_isR_s hW hp
  refine pk_meth (own := RX3) (ini := false) [some (.ref p), some (.int (nI l)), some (.int (nI n)), none] (by decide +kernel) rfl (by decide +kernel) rfl rfl ?_
  refine pk_aload_n dX3_begin_0 rfl ?_
  refine pk_iconst (v := nI 1) dX3_begin_1 (by decide) ?_
  refine pk_putI dX3_begin_2 fl_X3_15 rfl rfl rfl rfl hs.1 ?_
  refine pk_aload_n dX3_begin_5 rfl ?_
  refine pk_iload_n dX3_begin_6 rfl ?_
  refine pk_putI dX3_begin_7 fl_X3_19 rfl rfl rfl rfl hs.1 ?_
  refine pk_aload_n dX3_begin_10 rfl ?_
  refine pk_iload_n dX3_begin_11 rfl ?_
  refine pk_putI dX3_begin_12 fl_X3_23 rfl rfl rfl rfl hs.1 ?_
  refine pk_iconst (v := nI 0) dX3_begin_15 (by decide) ?_
  refine pk_istore_n dX3_begin_16 rfl rfl ?_
  refine pk_Mq (M' := pk_wJ (pk_sI (pk_sI (pk_sI M p 1 (nI 1)) p 2 (nI l)) p 3 (nI n)) (p + 1) (fun i => if i < 0 then 0 else pk_J M (p + 1) i)) ((pk_wJ_id _ (p + 1)).symm.trans (by congr 1 <;> (funext j; simp; rfl))) ?_
  refine pk_for 24 (fun j => pk_wJ (pk_sI (pk_sI (pk_sI M p 1 (nI 1)) p 2 (nI l)) p 3 (nI n)) (p + 1) (fun i => if i < j then 0 else pk_J M (p + 1) i)) (fun j => [some (.ref p), some (.int (nI l)), some (.int (nI n)), some (.int (nI j))]) ?_ ?_ 0 (by omega)
  · intro j hj K
    refine pk_iload_n dX3_begin_17 rfl ?_
    refine pk_bipush (v := nI 24) dX3_begin_18 (by decide) ?_
    first | refine pk_geN (tgt := 36) dX3_begin_20 (by decide) (by omega) (by omega) (fun c_20 => ?_) (fun c_20 => ?_) | refine pk_icmp_ge (tgt := 36) dX3_begin_20 (by decide) (fun c_20 => ?_) (fun c_20 => ?_)
    · omega
    · refine pk_aload_n dX3_begin_23 rfl ?_
      refine pk_getP dX3_begin_24 fl_X3_9 rfl hs.1 hs.2.1 ?_
      refine pk_iload_n dX3_begin_27 rfl ?_
      refine pk_lconst (v := 0) dX3_begin_28 (by decide) ?_
      refine pk_lasN dX3_begin_29 hs.2.2.1 (by omega) (by omega) (by omega) ?_
      first | refine pk_inc1 dX3_begin_30 rfl rfl ?_ | refine pk_iinc dX3_begin_30 rfl rfl rfl ?_
      refine pk_goto (tgt := 17) dX3_begin_33 (by decide) ?_
      refine pk_Mq ?_ K
      rw [pk_wJ_sJ]
      congr 1
      funext i
      by_cases h : i = j
      · subst h
        rw [if_pos rfl, if_pos (by omega)]
      · rw [if_neg h]
        by_cases h2 : i < j
        · rw [if_pos h2, if_pos (by omega)]
        · rw [if_neg h2, if_neg (by omega)]
  · refine pk_iload_n dX3_begin_17 rfl ?_
    refine pk_bipush (v := nI 24) dX3_begin_18 (by decide) ?_
    first | refine pk_geN (tgt := 36) dX3_begin_20 (by decide) (by omega) (by omega) (fun c_20 => ?_) (fun c_20 => ?_) | refine pk_icmp_ge (tgt := 36) dX3_begin_20 (by decide) (fun c_20 => ?_) (fun c_20 => ?_)
    · refine pk_retv dX3_begin_36 ?_
      exact ⟨rfl, rfl⟩
    · omega
