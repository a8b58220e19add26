/-! Tape: adding; type. -/
theorem pk_RC.tp {L : Nat} {M M1 : pk_M} {X : pk_X} {n : Nat} {f : Nat → Nat} (h : pk_ff (fun q => q = 88 ∨ q = 89) M M1) (hR : pk_RC L M X) (e1 : pk_I M1 88 2 = nI n) (e2 : ∀ i, i < n → pk_I M1 89 i = nI (f i)) : pk_RC L M1 (X.1, X.2.1, X.2.2.1, (n, f), X.2.2.2.2) := by
  obtain ⟨h1, h2, h3, ⟨pl, h4⟩, h5, ⟨pl2, kn, KH, h6, h6b⟩, h7, h8, h9⟩ := hR
  exact ⟨h.wf h1, h.ro (fun q hq z => by omega) h2, h.at (fun q g1 g2 z => by omega) h3, ⟨pl, h4.ff h ⟨by omega, by omega, fun q g1 g2 z => by omega⟩⟩, (h.I (by omega) 4).trans h5, ⟨pl2, kn, KH, h6.ff h ⟨by omega, by omega, fun q g1 g2 z => by omega⟩, h6b⟩, fun hk => h.at (fun q g1 g2 z => by omega) (h7 hk), ⟨e1, e2⟩, fun k hk => (h9 k hk).ff h (by omega) (by omega)⟩
def op_type (X : pk_X) (v : Int32) : Int32 × pk_X := if v < nI 32 ∨ nI 126 < v then (-1, X) else if X.2.2.2.1.1 < 100 then (nI (X.2.2.2.1.1 + 1), (X.1, X.2.1, X.2.2.1, (X.2.2.2.1.1 + 1, fun i => if i = X.2.2.2.1.1 then v.toNatClampNeg else X.2.2.2.1.2 i), X.2.2.2.2)) else (-3, X)

set_option maxRecDepth 100000 in
set_option maxHeartbeats 4000000 in
theorem e_X5_add {Γ : pk_T} {M : pk_M} {L m : Nat} (hW : pk_WF L M) (hm : pk_I M 88 2 = nI m) (hm2 : m ≤ 100) (v : Int32) : pk_E Γ yX5_add cX5_add 2 (some .boolean) 1 0 0 M [.ref 88, .int v] (fun r M' => r = some (.int (pk_bi (decide (m < 100)))) ∧ M' = if m < 100 then pk_sI (pk_sI M 89 m v) 88 2 (nI (m + 1)) else M) := by
  refine pk_meth (own := RX5) (ini := false) [some (.ref 88), some (.int v)] (by decide +kernel) rfl (by decide +kernel) rfl rfl ?_
  refine pk_aload_n dX5_add_0 rfl ?_
  refine pk_getN dX5_add_1 fl_X5_18 rfl (hW.s rfl) hm ?_
  refine pk_bipush (v := nI 100) dX5_add_4 (by decide) ?_
  refine pk_Si dX5_add_6 ml_X5_34 yw_X6_isBelow ys_X6_isBelow (e_X6_isBelow _ _) rfl rfl rfl rfl rfl rfl rfl ?_
  first | refine pk_neb (tgt := 14) dX5_add_9 (by decide) (fun c_9 => ?_) (fun c_9 => ?_) | refine pk_ne0N (tgt := 14) dX5_add_9 (by decide) (by omega) (fun c_9 => ?_) (fun c_9 => ?_) | refine pk_if_ne (tgt := 14) dX5_add_9 (by decide) (fun c_9 => ?_) (fun c_9 => ?_)
  · have hlt : m < 100 := by
      rw [Bool.and_eq_true, decide_eq_true_eq, decide_eq_true_eq] at c_9
      exact (nI_ltI (by omega) (by decide)).mp c_9.2
    refine pk_aload_n dX5_add_14 rfl ?_
    refine pk_getP dX5_add_15 fl_X5_9 rfl (hW.s rfl) (hW.p rfl) ?_
    refine pk_aload_n dX5_add_18 rfl ?_
    refine pk_getN dX5_add_19 fl_X5_18 rfl (hW.s rfl) hm ?_
    refine pk_iload_n dX5_add_22 rfl ?_
    refine pk_astN dX5_add_23 (hW.s rfl) (by omega) (by omega) (by omega) ?_
    refine pk_aload_n dX5_add_24 rfl ?_
    refine pk_dup dX5_add_25 rfl ?_
    refine pk_getN dX5_add_26 fl_X5_18 rfl (hW.s rfl) (pk_gS0 (by omega) hm) ?_
    refine pk_iconst (v := nI 1) dX5_add_29 (by decide) ?_
    first | refine pk_addN dX5_add_30 ?_ | refine pk_iadd dX5_add_30 ?_
    refine pk_putI dX5_add_31 fl_X5_18 rfl rfl rfl rfl (hW.s rfl) ?_
    refine pk_iconst (v := nI 1) dX5_add_34 (by decide) ?_
    refine pk_reti dX5_add_35 (by first | rfl | exact pk_nbi _) ?_
    rw [if_pos hlt, decide_eq_true hlt]
    exact ⟨rfl, rfl⟩
  · refine pk_iconst (v := nI 0) dX5_add_12 (by decide) ?_
    refine pk_reti dX5_add_13 (by first | rfl | exact pk_nbi _) ?_
    have hge : ¬ m < 100 := by
      intro h
      rw [decide_eq_true (nI_pos' (show m < 2 ^ 31 by omega)), decide_eq_true (nI_lt h (by decide))] at c_9
      cases c_9
    rw [if_neg hge, decide_eq_false hge]
    exact ⟨rfl, rfl⟩

set_option maxRecDepth 100000 in
set_option maxHeartbeats 4000000 in
theorem e_X6_type {Γ : pk_T} {M : pk_M} {L : Nat} {X : pk_X} (hR : pk_RC L M X) (hX : pk_okX X) (v : Int32) : pk_E Γ yX6_type cX6_type 2 (some .int) 2 0 0 M [.ref 5, .int v] (fun r M' => r = some (.int (op_type X v).1) ∧ pk_cf M M' ∧ pk_RC L M' (op_type X v).2) := by
  have hR0 := hR
  obtain ⟨hW, hro, hA, ⟨pl, hP⟩, hkb, ⟨pl2, kn, KH, hKP, hKq⟩, hKA, hTp, hSh⟩ := hR0
  have hok := hX.1
  have hw := hok.1
  have hh := hok.2.1
  have hn6 := hX.2.1.1
  refine pk_meth (own := RX6) (ini := false) [some (.ref 5), some (.int v)] (by decide +kernel) rfl (by decide +kernel) rfl rfl ?_
  refine pk_iload_n dX6_type_0 rfl ?_
  refine pk_bipush (v := nI 32) dX6_type_1 (by decide) ?_
  refine pk_icmp_lt (tgt := 12) dX6_type_3 (by decide) (fun c_3 => ?_) (fun c_3 => ?_)
  · refine pk_iconst (v := -1) dX6_type_12 (by decide) ?_
    refine pk_reti dX6_type_13 (by first | rfl | exact pk_nbi _) ?_
    rw [op_type, if_pos (by first | exact Or.inl c_3 | exact Or.inr (Int32.not_le.mp c_9))]
    exact ⟨rfl, pk_ff.rf _ M, hR⟩
  · refine pk_iload_n dX6_type_6 rfl ?_
    refine pk_bipush (v := nI 126) dX6_type_7 (by decide) ?_
    refine pk_icmp_le (tgt := 14) dX6_type_9 (by decide) (fun c_9 => ?_) (fun c_9 => ?_)
    · obtain ⟨v, hv, rfl⟩ := nI_of (x := v) (fun h => c_3 (Int32.lt_trans h (by decide)))
      rw [op_type, if_neg (fun h => h.elim c_3 (fun h => Int32.not_lt.mpr c_9 h)), nI_clamp hv]
      refine pk_aload_n dX6_type_14 rfl ?_
      refine pk_getP dX6_type_15 fl_X6_50 rfl (hW.s rfl) (hW.p rfl) ?_
      refine pk_iload_n dX6_type_18 rfl ?_
      refine pk_Vir dX6_type_19 ml_X6_132 yw_X5_add yv_X5_add (hW.s rfl) (e_X5_add hW hTp.1 hX.2.2.2.1.1 _) rfl rfl rfl rfl rfl rfl rfl (fun M1 h1 => ?_)
      have hW1 : pk_WF L M1 := by
        rw [h1]
        split
        · exact hW.to rfl rfl
        · exact hW
      first | refine pk_eqb (tgt := 35) dX6_type_22 (by decide) (fun c_22 => ?_) (fun c_22 => ?_) | refine pk_eq0N (tgt := 35) dX6_type_22 (by decide) (by omega) (fun c_22 => ?_) (fun c_22 => ?_) | refine pk_if_eq (tgt := 35) dX6_type_22 (by decide) (fun c_22 => ?_) (fun c_22 => ?_)
      · refine pk_bipush (v := -3) dX6_type_35 (by decide) ?_
        refine pk_reti dX6_type_37 (by first | rfl | exact pk_nbi _) ?_
        first
          | (have c22 := of_decide_eq_false c_22
             rw [if_neg c22] at h1 ⊢
             subst h1
             exact ⟨rfl, pk_ff.rf _ M1, hR⟩)
          | (have hf : pk_fr (fun q => q = 88 ∨ q = 89) M M1 := by
               rw [h1]
               exact (pk_fr.sI (Or.inr rfl)).tr (pk_fr.sI (Or.inl rfl))
             refine ⟨rfl, hf.ff.mono (fun q h => by omega), hR.tp hf.ff (by rw [h1]; exact pk_gS1 rfl rfl rfl) (fun i hi => ?_)⟩
             rw [h1]
             refine pk_gS0 (by omega) ?_
             by_cases e : i = X.2.2.2.1.1
             · rw [if_pos e]
               exact pk_gS1 rfl e rfl
             · rw [if_neg e]
               exact pk_gS0 (Or.inr e) (hTp.2 i (by omega)))
      · have c22 := of_decide_eq_true c_22
        rw [if_pos c22] at h1 ⊢
        refine pk_aload_n dX6_type_25 rfl ?_
        refine pk_getP dX6_type_26 fl_X6_50 rfl (hW1.s rfl) (hW1.p rfl) ?_
        refine pk_getN dX6_type_29 fl_X6_136 rfl (hW1.s rfl) (show pk_I M1 88 2 = nI (X.2.2.2.1.1 + 1) by rw [h1]; exact pk_gS1 rfl rfl rfl) ?_
        refine pk_goto (tgt := 37) dX6_type_32 (by decide) ?_
        refine pk_reti dX6_type_37 (by first | rfl | exact pk_nbi _) ?_
        first
          | (have c22 := of_decide_eq_false c_22
             rw [if_neg c22] at h1 ⊢
             subst h1
             exact ⟨rfl, pk_ff.rf _ M1, hR⟩)
          | (have hf : pk_fr (fun q => q = 88 ∨ q = 89) M M1 := by
               rw [h1]
               exact (pk_fr.sI (Or.inr rfl)).tr (pk_fr.sI (Or.inl rfl))
             refine ⟨rfl, hf.ff.mono (fun q h => by omega), hR.tp hf.ff (by rw [h1]; exact pk_gS1 rfl rfl rfl) (fun i hi => ?_)⟩
             rw [h1]
             refine pk_gS0 (by omega) ?_
             by_cases e : i = X.2.2.2.1.1
             · rw [if_pos e]
               exact pk_gS1 rfl e rfl
             · rw [if_neg e]
               exact pk_gS0 (Or.inr e) (hTp.2 i (by omega)))
    · refine pk_iconst (v := -1) dX6_type_12 (by decide) ?_
      refine pk_reti dX6_type_13 (by first | rfl | exact pk_nbi _) ?_
      rw [op_type, if_pos (by first | exact Or.inl c_3 | exact Or.inr (Int32.not_le.mp c_9))]
      exact ⟨rfl, pk_ff.rf _ M, hR⟩
