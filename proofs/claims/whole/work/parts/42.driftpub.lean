/-! drift, public. -/
set_option maxRecDepth 100000 in
set_option maxHeartbeats 4000000 in
theorem e_X6_drift {Γ : pk_T} {M : pk_M} {L : Nat} {X : pk_X} (hR : pk_RC L M X) (hX : pk_okX X) (n : Int32) : pk_E Γ yX6_drift cX6_drift 3 (some .int) 5 0 0 M [.ref 5, .int n] (fun r M' => r = some (.int (op_drift X n).1) ∧ pk_cf M M' ∧ pk_RC L M' (op_drift X n).2) := by
  have hR0 := hR
  obtain ⟨hW, hro, hA, ⟨pl, hP⟩, hkb, ⟨pl2, kn, KH, hKP, hKq⟩, hKA, hTp, hSh⟩ := hR0
  have hok := hX.1
  have hw := hok.1
  have hh := hok.2.1
  have hn6 := hX.2.1.1
  refine pk_meth (own := RX6) (ini := false) [some (.ref 5), some (.int n), none] (by decide +kernel) rfl (by decide +kernel) rfl rfl ?_
  refine pk_iload_n dX6_drift_0 rfl ?_
  refine pk_iconst (v := nI 1) dX6_drift_1 (by decide) ?_
  refine pk_icmp_lt (tgt := 11) dX6_drift_2 (by decide) (fun c_2 => ?_) (fun c_2 => ?_)
  · refine pk_iconst (v := -1) dX6_drift_11 (by decide) ?_
    refine pk_reti dX6_drift_12 (by first | rfl | exact pk_nbi _) ?_
    rw [op_drift, if_pos (by first | exact Or.inl c_2 | exact Or.inr (Int32.not_le.mp c_8))]
    exact ⟨rfl, pk_ff.rf _ M, hR⟩
  · refine pk_iload_n dX6_drift_5 rfl ?_
    refine pk_bipush (v := nI 40) dX6_drift_6 (by decide) ?_
    refine pk_icmp_le (tgt := 13) dX6_drift_8 (by decide) (fun c_8 => ?_) (fun c_8 => ?_)
    · obtain ⟨n, hn, rfl⟩ := nI_of (x := n) (fun h => c_2 (Int32.lt_trans h (by decide)))
      have hn40 : n ≤ 40 := (nI_leI hn (by decide)).mp c_8
      rw [op_drift, if_neg (fun h => h.elim c_2 (fun h => Int32.not_lt.mpr c_8 h)), nI_clamp hn]
      refine pk_iconst (v := nI 0) dX6_drift_13 (by decide) ?_
      refine pk_istore_n dX6_drift_14 rfl rfl ?_
      refine pk_wf (fun z => 40 - z.2) (fun z : pk_M × Nat => pk_RC L z.1 (sp_dr X z.2) ∧ pk_cf M z.1 ∧ z.2 ≤ n) (fun z => z.1) (fun z => [some (.ref 5), some (.int (nI n)), some (.int (nI z.2))]) ?_ (M, 0) ⟨hR, pk_ff.rf _ M, Nat.zero_le _⟩
      rintro ⟨M1, t⟩ ⟨hR1, hc1, ht⟩ K
      dsimp only at hR1 hc1 ht K ⊢
      replace hW := hR1.1
      have hA1 : pk_At M1 6 (sp_dr X t).1 := hR1.2.2.1
      have hro1 := hR1.2.1
      have hok1 := sp_dr_ok hok t
      have hR10 := hR1
      obtain ⟨-, -, -, ⟨pl1, hP1⟩, -⟩ := hR10
      refine pk_iload_n dX6_drift_15 rfl ?_
      refine pk_iload_n dX6_drift_16 rfl ?_
      first | refine pk_geN (tgt := 41) dX6_drift_17 (by decide) (by omega) (by omega) (fun c_17 => ?_) (fun c_17 => ?_) | refine pk_icmp_ge (tgt := 41) dX6_drift_17 (by decide) (fun c_17 => ?_) (fun c_17 => ?_)
      · refine pk_aload_n dX6_drift_41 rfl ?_
        refine pk_getP dX6_drift_42 fl_X6_43 rfl (hW.s rfl) (hW.p rfl) ?_
        refine pk_aload_n dX6_drift_45 rfl ?_
        refine pk_getP dX6_drift_46 fl_X6_10 rfl (hW.s rfl) (hW.p rfl) ?_
        refine pk_Vvr dX6_drift_49 ml_X6_107 yw_X0_find yv_X0_find (hW.s rfl) (e_X0_find hW hA1 hok1 hro1) rfl rfl rfl rfl rfl rfl rfl (fun M2 h1 => ?_)
        replace hW := h1.1.wf hW
        refine pk_aload_n dX6_drift_52 rfl ?_
        refine pk_getP dX6_drift_53 fl_X6_43 rfl (hW.s rfl) (hW.p rfl) ?_
        refine pk_getN dX6_drift_56 fl_X6_112 rfl (hW.s rfl) h1.2.1 ?_
        refine pk_reti dX6_drift_59 (by first | rfl | exact pk_nbi _) ?_
        have htn : t = n := by omega
        subst htn
        exact ⟨rfl, hc1.tr (h1.1.ff.mono (fun q h => by omega)), hR1.scr (h1.1.ff.mono (fun q h => by unfold pk_scr; omega))⟩
      · refine pk_aload_n dX6_drift_20 rfl ?_
        refine pk_getP dX6_drift_21 fl_X6_19 rfl (hW.s rfl) (hW.p rfl) ?_
        refine pk_aload_n dX6_drift_24 rfl ?_
        refine pk_getP dX6_drift_25 fl_X6_10 rfl (hW.s rfl) (hW.p rfl) ?_
        refine pk_Vvr dX6_drift_28 ml_X6_196 yw_X2_keep yv_X2_keep (hW.s rfl) (e_X2_keep hW hA1 hP1) rfl rfl rfl rfl rfl rfl rfl (fun M2 h2 => ?_)
        have hRk := hR1.kp h2
        have hfk := h2.1
        replace hW := hRk.1
        have hA2 : pk_At M2 6 (sp_dr X t).1 := hRk.2.2.1
        refine pk_aload_n dX6_drift_31 rfl ?_
        refine pk_Vvr dX6_drift_32 ml_X6_219 yw_X6_driftOnce yv_X6_driftOnce (hW.s rfl) (e_X6_driftOnce ⟨hW, hA2, hok1⟩) rfl rfl rfl rfl rfl rfl rfl (fun M3 h3 => ?_)
        skip
        first | refine pk_inc1 dX6_drift_35 rfl rfl ?_ | refine pk_iinc dX6_drift_35 rfl rfl rfl ?_
        refine pk_goto (tgt := 15) dX6_drift_38 (by decide) ?_
        exact K (M3, t + 1) ⟨hRk.st h3.1.ff h3.2, (hc1.tr (hfk.mono (fun q h => by omega))).tr (h3.1.ff.mono (fun q h => by omega)), by dsimp only; omega⟩ (by dsimp only; omega)
    · refine pk_iconst (v := -1) dX6_drift_11 (by decide) ?_
      refine pk_reti dX6_drift_12 (by first | rfl | exact pk_nbi _) ?_
      rw [op_drift, if_pos (by first | exact Or.inl c_2 | exact Or.inr (Int32.not_le.mp c_8))]
      exact ⟨rfl, pk_ff.rf _ M, hR⟩
