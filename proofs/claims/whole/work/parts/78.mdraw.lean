/-! The model: draw. -/
set_option maxRecDepth 100000 in
set_option maxHeartbeats 4000000 in
theorem e_X7_draw {Γ : pk_T} {M : pk_M} {L : Nat} {X : pk_X} (hR : pk_RM L M X) (hX : pk_okX X) : pk_E Γ yX7_draw cX7_draw 4 (some .int) 5 0 0 M [.ref 103] (fun r M' => r = some (.int (op_draw X).1) ∧ pk_mf M M' ∧ pk_RM L M' (op_draw X).2) := by
  have hR0 := hR
  obtain ⟨hW, hA, hU, hK, hTp, hSh⟩ := hR0
  have hok := hX.1
  have hw := hok.1
  have hh := hok.2.1
  have hs := hok.2.2.2.2.2.2.2.1
  have hn6 := hX.2.1.1
  refine pk_meth (own := RX7) (ini := false) [some (.ref 103), none, none, none] (by decide +kernel) rfl (by decide +kernel) rfl rfl ?_
  have hn100 := hX.2.2.2.1.1
  have hf126 : ∀ i, i < X.2.2.2.1.1 → X.2.2.2.1.2 i ≤ 126 := fun i hi => (hX.2.2.2.1.2 i hi).2
  refine pk_aload_n dX7_draw_0 rfl ?_
  refine pk_Vg dX7_draw_1 ml_X7_277 yw_X7_isText yv_X7_isText (hW.s rfl) (e_X7_isText hW hTp.1 hn100 hTp.2 hf126) rfl rfl rfl rfl rfl rfl rfl (fun v M1 hv => ?_)
  obtain ⟨hv1, hF, ho, ⟨p, h9, hpf, hpn, hbad⟩, hgood⟩ := hv
  cases hv1
  replace hW := hF.wf hW
  have h8 := (ho 8 (by decide) (by decide) (by decide) (by decide)).trans hTp.1
  have h110 : ∀ i, i < X.2.2.2.1.1 → pk_I M1 110 i = nI (X.2.2.2.1.2 i) := fun i hi => (hF.I (by omega) i).trans (hTp.2 i hi)
  have hcl := sp_ltr_le hf126 p
  refine pk_istore_n dX7_draw_4 rfl rfl ?_
  refine pk_aload_n dX7_draw_5 rfl ?_
  refine pk_Vi dX7_draw_6 ml_X7_244 yw_X7_here yv_X7_here (hW.s rfl) (e_X7_hereY hW h8 hn100 h110 hf126 h9 hpn hpf) rfl rfl rfl rfl rfl rfl rfl ?_
  refine pk_ne0N (tgt := 19) dX7_draw_9 (by decide) (by omega) (fun c_9 => ?_) (fun c_9 => ?_)
  · refine pk_aload_n dX7_draw_19 rfl ?_
    refine pk_getN dX7_draw_20 fl_X7_241 rfl (hW.s rfl) h9 ?_
    refine pk_istore_n dX7_draw_23 rfl rfl ?_
    refine pk_aload_n dX7_draw_24 rfl ?_
    refine pk_iconst (v := nI 0) dX7_draw_25 (by decide) ?_
    refine pk_putI dX7_draw_26 fl_X7_238 rfl rfl rfl rfl (hW.s rfl) ?_
    refine pk_iload_n dX7_draw_29 rfl ?_
    refine pk_neb (tgt := 38) dX7_draw_30 (by decide) (fun c_30 => ?_) (fun c_30 => ?_)
    · have hg := hgood c_30
      obtain ⟨g1, g2, g3, g4⟩ := sp_text_ok c_30
      refine pk_aload_n dX7_draw_38 rfl ?_
      refine pk_getP dX7_draw_39 fl_X7_7 rfl (hW.s rfl) (hW.p rfl) ?_
      refine pk_iconst (v := nI 0) dX7_draw_42 (by decide) ?_
      refine pk_aload_n dX7_draw_43 rfl ?_
      refine pk_getN dX7_draw_44 fl_X7_264 rfl (hW.s rfl) (pk_gS0 (by omega) hg.1) ?_
      refine pk_astN dX7_draw_47 (hW.s rfl) (by omega) (by omega) (by omega) ?_
      refine pk_aload_n dX7_draw_48 rfl ?_
      refine pk_getP dX7_draw_49 fl_X7_7 rfl (hW.s rfl) (hW.p rfl) ?_
      refine pk_iconst (v := nI 1) dX7_draw_52 (by decide) ?_
      refine pk_aload_n dX7_draw_53 rfl ?_
      refine pk_getN dX7_draw_54 fl_X7_258 rfl (hW.s rfl) (pk_gS0 (by omega) (pk_gS0 (by omega) hg.2.1)) ?_
      refine pk_astN dX7_draw_57 (hW.s rfl) (by omega) (by omega) (by omega) ?_
      refine pk_aload_n dX7_draw_58 rfl ?_
      refine pk_iconst (v := nI 0) dX7_draw_59 (by decide) ?_
      refine pk_putI dX7_draw_60 fl_X7_199 rfl rfl rfl rfl (hW.s rfl) ?_
      refine pk_iconst (v := nI 0) dX7_draw_63 (by decide) ?_
      refine pk_istore_n dX7_draw_64 rfl rfl ?_
      rw [op_draw, if_neg (by rw [c_30]; decide)]
      refine pk_fgt (ls' := [some (.ref 103), none, none, some (.int (nI 0))]) (by repeat first | exact trivial | refine ⟨rfl, ?_⟩) ?_
      refine pk_wf (fun z => 48 - z.1) (fun z : Nat × pk_M => z.1 ≤ 48 ∧ pk_fr (fun q => q = 104) (pk_sI (pk_sI (pk_sI (pk_sI M1 103 8 (nI 0)) 104 0 (nI (sp_text X.2.2.2.1.2 X.2.2.2.1.1).2.2.1)) 104 1 (nI (sp_text X.2.2.2.1.2 X.2.2.2.1.1).2.2.2.1)) 103 5 (nI 0)) z.2 ∧ pk_I z.2 104 0 = nI (sp_text X.2.2.2.1.2 X.2.2.2.1.1).2.2.1 ∧ pk_I z.2 104 1 = nI (sp_text X.2.2.2.1.2 X.2.2.2.1.1).2.2.2.1 ∧ (∀ i, 2 ≤ i → i < 14 → pk_I z.2 104 i = pk_I M 104 i) ∧ ∀ q, q < z.1 → pk_I z.2 104 (14 + q) = nI ((sp_text X.2.2.2.1.2 X.2.2.2.1.1).2.2.2.2.2 q)) (fun z => z.2) (fun z => [some (.ref 103), none, none, some (.int (nI z.1))]) ?_ (0, (pk_sI (pk_sI (pk_sI (pk_sI M1 103 8 (nI 0)) 104 0 (nI (sp_text X.2.2.2.1.2 X.2.2.2.1.1).2.2.1)) 104 1 (nI (sp_text X.2.2.2.1.2 X.2.2.2.1.1).2.2.2.1)) 103 5 (nI 0))) ⟨Nat.zero_le _, pk_fr.rf _ _, pk_gS0 (by omega) (pk_gS0 (by omega) (pk_gS1 rfl rfl rfl)), pk_gS0 (by omega) (pk_gS1 rfl rfl rfl), fun i a b => pk_gS0 (by omega) (pk_gS0 (by omega) (pk_gS0 (by omega) (pk_gS0 (by omega) (hF.I (by omega) i)))), fun q hq => absurd hq (Nat.not_lt_zero q)⟩
      rintro ⟨j, N⟩ ⟨hj, hFN, hN0, hN1, hNi, hNq⟩ K
      dsimp only at hj hFN hN0 hN1 hNi hNq K ⊢
      have hWN : pk_WF L N := hFN.wf (hW.to rfl rfl)
      refine pk_iload_n dX7_draw_65 rfl ?_
      refine pk_bipush (v := nI 48) dX7_draw_66 (by decide) ?_
      first | refine pk_geN (tgt := 104) dX7_draw_68 (by decide) (by omega) (by omega) (fun c_68 => ?_) (fun c_68 => ?_) | refine pk_icmp_ge (tgt := 104) dX7_draw_68 (by decide) (fun c_68 => ?_) (fun c_68 => ?_)
      · refine pk_aload_n dX7_draw_104 rfl ?_
        refine pk_getN dX7_draw_105 fl_X7_264 rfl (hWN.s rfl) ((hFN.I (by omega) 11).trans (pk_gS0 (by omega) (pk_gS0 (by omega) (pk_gS0 (by omega) (pk_gS0 (by omega) hg.1))))) ?_
        refine pk_aload_n dX7_draw_108 rfl ?_
        refine pk_getN dX7_draw_109 fl_X7_258 rfl (hWN.s rfl) ((hFN.I (by omega) 12).trans (pk_gS0 (by omega) (pk_gS0 (by omega) (pk_gS0 (by omega) (pk_gS0 (by omega) hg.2.1))))) ?_
        first | refine pk_mulN dX7_draw_112 ?_ | refine pk_imul dX7_draw_112 ?_
        refine pk_reti dX7_draw_113 (by first | rfl | exact pk_nbi _) ?_
        have e48 : j = 48 := by omega
        subst e48
        have hff : pk_ff (fun q => q = 103 ∨ q = 111 ∨ q = 104) M N := ((hF.mono (fun q h => by omega)).tr ((pk_fr.sI (Or.inl rfl)).tr ((pk_fr.sI (by omega)).tr ((pk_fr.sI (by omega)).tr ((pk_fr.sI (Or.inl rfl)).tr (hFN.mono (fun q h => by omega))))))).ff
        have h103 : ∀ j, j = 8 ∨ j = 16 ∨ j = 5 → pk_I N 103 j = pk_I (pk_sI (pk_sI (pk_sI (pk_sI M1 103 8 (nI 0)) 104 0 (nI (sp_text X.2.2.2.1.2 X.2.2.2.1.1).2.2.1)) 104 1 (nI (sp_text X.2.2.2.1.2 X.2.2.2.1.1).2.2.2.1)) 103 5 (nI 0)) 103 j := fun j _ => hFN.I (by omega) j
        exact ⟨rfl, hff.mono (fun q h => by omega), hWN, pm_At.mk0 hN0 hN1 ((hNi 2 (by omega) (by omega)).trans hA.d) ((hNi 3 (by omega) (by omega)).trans hA.o) (fun i hi => (hNi (4 + i) (by omega) (by omega)).trans (hA.k hi)) (fun i hi => (hNi (9 + i) (by omega) (by omega)).trans (hA.t hi)) (fun q hq => hNq q hq), ⟨(h103 5 (by omega)).trans (pk_gS1 rfl rfl rfl), fun k hk => absurd hk (Nat.not_lt_zero k)⟩, ⟨(h103 16 (by omega)).trans (pk_gS0 (by omega) (pk_gS0 (by omega) (pk_gS0 (by omega) (pk_gS0 (by omega) ((ho 16 (by decide) (by decide) (by decide) (by decide)).trans hK.1))))), fun e => ⟨(hK.2 e).1.ff hff (by omega), fun k hk => ((hK.2 e).2 k hk).ff hff (by omega)⟩⟩, ⟨(h103 8 (by omega)).trans (pk_gS0 (by omega) (pk_gS0 (by omega) (pk_gS0 (by omega) (pk_gS1 rfl rfl rfl)))), fun i hi => absurd hi (Nat.not_lt_zero i)⟩, fun k hk => (hSh k hk).ff hff (by omega) (by omega) (by omega)⟩
      · refine pk_aload_n dX7_draw_71 rfl ?_
        refine pk_getP dX7_draw_72 fl_X7_7 rfl (hWN.s rfl) (hWN.p rfl) ?_
        refine pk_bipush (v := nI 14) dX7_draw_75 (by decide) ?_
        refine pk_iload_n dX7_draw_77 rfl ?_
        first | refine pk_addN dX7_draw_78 ?_ | refine pk_iadd dX7_draw_78 ?_
        refine pk_aload_n dX7_draw_79 rfl ?_
        refine pk_iload_n dX7_draw_80 rfl ?_
        refine pk_Vi dX7_draw_81 ml_X7_88 yw_X7_isIn yv_X7_isIn (hWN.s rfl) (e_X7_isIn2 hWN hN0 hN1 g1 g2 (by omega)) rfl rfl rfl rfl rfl rfl rfl ?_
        first | refine pk_eqb (tgt := 96) dX7_draw_84 (by decide) (fun c_84 => ?_) (fun c_84 => ?_) | refine pk_eq0N (tgt := 96) dX7_draw_84 (by decide) (by omega) (fun c_84 => ?_) (fun c_84 => ?_) | refine pk_if_eq (tgt := 96) dX7_draw_84 (by decide) (fun c_84 => ?_) (fun c_84 => ?_)
        · refine pk_iconst (v := nI 0) dX7_draw_96 (by decide) ?_
          refine pk_astN dX7_draw_97 (hWN.s rfl) (by omega) (by omega) (by omega) ?_
          first | refine pk_inc1 dX7_draw_98 rfl rfl ?_ | refine pk_iinc dX7_draw_98 rfl rfl rfl ?_
          refine pk_goto (tgt := 65) dX7_draw_101 (by decide) ?_
          exact K (j + 1, _) ⟨by dsimp only; omega, hFN.tr (pk_fr.sI rfl), pk_gS0 (by omega) hN0, pk_gS0 (by omega) hN1, fun i a b => pk_gS0 (by omega) (hNi i a b), fun q hq => by
            dsimp only at hq
            by_cases e : q = j
            · subst e
              exact pk_gS1 rfl rfl (by rw [g4 q (pm_ouw c_84)])
            · exact pk_gS0 (by omega) (hNq q (by omega))⟩ (by dsimp only; omega)
        · refine pk_aload_n dX7_draw_87 rfl ?_
          refine pk_getP dX7_draw_88 fl_X7_31 rfl (hWN.s rfl) (hWN.p rfl) ?_
          refine pk_iload_n dX7_draw_91 rfl ?_
          refine pk_aldN dX7_draw_92 (hWN.s rfl) (by omega) (by omega) ((hFN.I (by omega) j).trans (pk_gS0 (by omega) (pk_gS0 (by omega) (pk_gS0 (by omega) (pk_gS0 (by omega) (hg.2.2 j (pm_inw c_84).2 (pm_inw c_84).1)))))) ?_
          refine pk_goto (tgt := 97) dX7_draw_93 (by decide) ?_
          refine pk_astN dX7_draw_97 (hWN.s rfl) (by omega) (by omega) (by omega) ?_
          first | refine pk_inc1 dX7_draw_98 rfl rfl ?_ | refine pk_iinc dX7_draw_98 rfl rfl rfl ?_
          refine pk_goto (tgt := 65) dX7_draw_101 (by decide) ?_
          exact K (j + 1, _) ⟨by dsimp only; omega, hFN.tr (pk_fr.sI rfl), pk_gS0 (by omega) hN0, pk_gS0 (by omega) hN1, fun i a b => pk_gS0 (by omega) (hNi i a b), fun q hq => by
            dsimp only at hq
            by_cases e : q = j
            · subst e
              exact pk_gS1 rfl rfl rfl
            · exact pk_gS0 (by omega) (hNq q (by omega))⟩ (by dsimp only; omega)
    · refine pk_bipush (v := -20) dX7_draw_33 (by decide) ?_
      refine pk_iload_n dX7_draw_35 rfl ?_
      first | refine pk_subN dX7_draw_36 (by omega) ?_ | refine pk_isub dX7_draw_36 ?_
      refine pk_reti dX7_draw_37 (by first | rfl | exact pk_nbi _) ?_
      have hp := hbad c_30
      rw [op_draw, if_pos c_30, hp]
      have hff : pk_ff (fun q => q = 103 ∨ q = 111) M (pk_sI M1 103 8 (nI 0)) := (hF.tr (pk_fr.sI (Or.inl rfl))).ff
      have ho2 : ∀ j, j = 5 ∨ j = 16 → pk_I (pk_sI M1 103 8 (nI 0)) 103 j = pk_I M 103 j := fun j hj => pk_gS0 (by omega) (ho j (by omega) (by omega) (by omega) (by omega))
      exact ⟨rfl, hff.mono (fun q h => by omega), hff.wf hR.1, hA.ff hff (by omega), ⟨(ho2 5 (Or.inl rfl)).trans hU.1, fun k hk => (hU.2 k hk).ff hff (by omega)⟩, ⟨(ho2 16 (Or.inr rfl)).trans hK.1, fun e => ⟨(hK.2 e).1.ff hff (by omega), fun k hk => ((hK.2 e).2 k hk).ff hff (by omega)⟩⟩, ⟨pk_gS1 rfl rfl rfl, fun i hi => absurd hi (Nat.not_lt_zero i)⟩, fun k hk => (hSh k hk).ff hff (by omega) (by omega) (by omega)⟩
  · have hpn2 : X.2.2.2.1.1 = p := by
      have : ¬ p < X.2.2.2.1.1 := fun h => by
        have h1 := (hX.2.2.2.1.2 p h).1
        unfold sp_ltr at c_9
        rw [if_pos h] at c_9
        omega
      omega
    refine pk_aload_n dX7_draw_12 rfl ?_
    refine pk_getN dX7_draw_13 fl_X7_238 rfl (hW.s rfl) h8 ?_
    refine pk_stq (st' := [.int (nI p)]) (by rw [hpn2]; rfl) ?_
    refine pk_goto (tgt := 23) dX7_draw_16 (by decide) ?_
    refine pk_istore_n dX7_draw_23 rfl rfl ?_
    refine pk_aload_n dX7_draw_24 rfl ?_
    refine pk_iconst (v := nI 0) dX7_draw_25 (by decide) ?_
    refine pk_putI dX7_draw_26 fl_X7_238 rfl rfl rfl rfl (hW.s rfl) ?_
    refine pk_iload_n dX7_draw_29 rfl ?_
    refine pk_neb (tgt := 38) dX7_draw_30 (by decide) (fun c_30 => ?_) (fun c_30 => ?_)
    · have hg := hgood c_30
      obtain ⟨g1, g2, g3, g4⟩ := sp_text_ok c_30
      refine pk_aload_n dX7_draw_38 rfl ?_
      refine pk_getP dX7_draw_39 fl_X7_7 rfl (hW.s rfl) (hW.p rfl) ?_
      refine pk_iconst (v := nI 0) dX7_draw_42 (by decide) ?_
      refine pk_aload_n dX7_draw_43 rfl ?_
      refine pk_getN dX7_draw_44 fl_X7_264 rfl (hW.s rfl) (pk_gS0 (by omega) hg.1) ?_
      refine pk_astN dX7_draw_47 (hW.s rfl) (by omega) (by omega) (by omega) ?_
      refine pk_aload_n dX7_draw_48 rfl ?_
      refine pk_getP dX7_draw_49 fl_X7_7 rfl (hW.s rfl) (hW.p rfl) ?_
      refine pk_iconst (v := nI 1) dX7_draw_52 (by decide) ?_
      refine pk_aload_n dX7_draw_53 rfl ?_
      refine pk_getN dX7_draw_54 fl_X7_258 rfl (hW.s rfl) (pk_gS0 (by omega) (pk_gS0 (by omega) hg.2.1)) ?_
      refine pk_astN dX7_draw_57 (hW.s rfl) (by omega) (by omega) (by omega) ?_
      refine pk_aload_n dX7_draw_58 rfl ?_
      refine pk_iconst (v := nI 0) dX7_draw_59 (by decide) ?_
      refine pk_putI dX7_draw_60 fl_X7_199 rfl rfl rfl rfl (hW.s rfl) ?_
      refine pk_iconst (v := nI 0) dX7_draw_63 (by decide) ?_
      refine pk_istore_n dX7_draw_64 rfl rfl ?_
      rw [op_draw, if_neg (by rw [c_30]; decide)]
      refine pk_fgt (ls' := [some (.ref 103), none, none, some (.int (nI 0))]) (by repeat first | exact trivial | refine ⟨rfl, ?_⟩) ?_
      refine pk_wf (fun z => 48 - z.1) (fun z : Nat × pk_M => z.1 ≤ 48 ∧ pk_fr (fun q => q = 104) (pk_sI (pk_sI (pk_sI (pk_sI M1 103 8 (nI 0)) 104 0 (nI (sp_text X.2.2.2.1.2 X.2.2.2.1.1).2.2.1)) 104 1 (nI (sp_text X.2.2.2.1.2 X.2.2.2.1.1).2.2.2.1)) 103 5 (nI 0)) z.2 ∧ pk_I z.2 104 0 = nI (sp_text X.2.2.2.1.2 X.2.2.2.1.1).2.2.1 ∧ pk_I z.2 104 1 = nI (sp_text X.2.2.2.1.2 X.2.2.2.1.1).2.2.2.1 ∧ (∀ i, 2 ≤ i → i < 14 → pk_I z.2 104 i = pk_I M 104 i) ∧ ∀ q, q < z.1 → pk_I z.2 104 (14 + q) = nI ((sp_text X.2.2.2.1.2 X.2.2.2.1.1).2.2.2.2.2 q)) (fun z => z.2) (fun z => [some (.ref 103), none, none, some (.int (nI z.1))]) ?_ (0, (pk_sI (pk_sI (pk_sI (pk_sI M1 103 8 (nI 0)) 104 0 (nI (sp_text X.2.2.2.1.2 X.2.2.2.1.1).2.2.1)) 104 1 (nI (sp_text X.2.2.2.1.2 X.2.2.2.1.1).2.2.2.1)) 103 5 (nI 0))) ⟨Nat.zero_le _, pk_fr.rf _ _, pk_gS0 (by omega) (pk_gS0 (by omega) (pk_gS1 rfl rfl rfl)), pk_gS0 (by omega) (pk_gS1 rfl rfl rfl), fun i a b => pk_gS0 (by omega) (pk_gS0 (by omega) (pk_gS0 (by omega) (pk_gS0 (by omega) (hF.I (by omega) i)))), fun q hq => absurd hq (Nat.not_lt_zero q)⟩
      rintro ⟨j, N⟩ ⟨hj, hFN, hN0, hN1, hNi, hNq⟩ K
      dsimp only at hj hFN hN0 hN1 hNi hNq K ⊢
      have hWN : pk_WF L N := hFN.wf (hW.to rfl rfl)
      refine pk_iload_n dX7_draw_65 rfl ?_
      refine pk_bipush (v := nI 48) dX7_draw_66 (by decide) ?_
      first | refine pk_geN (tgt := 104) dX7_draw_68 (by decide) (by omega) (by omega) (fun c_68 => ?_) (fun c_68 => ?_) | refine pk_icmp_ge (tgt := 104) dX7_draw_68 (by decide) (fun c_68 => ?_) (fun c_68 => ?_)
      · refine pk_aload_n dX7_draw_104 rfl ?_
        refine pk_getN dX7_draw_105 fl_X7_264 rfl (hWN.s rfl) ((hFN.I (by omega) 11).trans (pk_gS0 (by omega) (pk_gS0 (by omega) (pk_gS0 (by omega) (pk_gS0 (by omega) hg.1))))) ?_
        refine pk_aload_n dX7_draw_108 rfl ?_
        refine pk_getN dX7_draw_109 fl_X7_258 rfl (hWN.s rfl) ((hFN.I (by omega) 12).trans (pk_gS0 (by omega) (pk_gS0 (by omega) (pk_gS0 (by omega) (pk_gS0 (by omega) hg.2.1))))) ?_
        first | refine pk_mulN dX7_draw_112 ?_ | refine pk_imul dX7_draw_112 ?_
        refine pk_reti dX7_draw_113 (by first | rfl | exact pk_nbi _) ?_
        have e48 : j = 48 := by omega
        subst e48
        have hff : pk_ff (fun q => q = 103 ∨ q = 111 ∨ q = 104) M N := ((hF.mono (fun q h => by omega)).tr ((pk_fr.sI (Or.inl rfl)).tr ((pk_fr.sI (by omega)).tr ((pk_fr.sI (by omega)).tr ((pk_fr.sI (Or.inl rfl)).tr (hFN.mono (fun q h => by omega))))))).ff
        have h103 : ∀ j, j = 8 ∨ j = 16 ∨ j = 5 → pk_I N 103 j = pk_I (pk_sI (pk_sI (pk_sI (pk_sI M1 103 8 (nI 0)) 104 0 (nI (sp_text X.2.2.2.1.2 X.2.2.2.1.1).2.2.1)) 104 1 (nI (sp_text X.2.2.2.1.2 X.2.2.2.1.1).2.2.2.1)) 103 5 (nI 0)) 103 j := fun j _ => hFN.I (by omega) j
        exact ⟨rfl, hff.mono (fun q h => by omega), hWN, pm_At.mk0 hN0 hN1 ((hNi 2 (by omega) (by omega)).trans hA.d) ((hNi 3 (by omega) (by omega)).trans hA.o) (fun i hi => (hNi (4 + i) (by omega) (by omega)).trans (hA.k hi)) (fun i hi => (hNi (9 + i) (by omega) (by omega)).trans (hA.t hi)) (fun q hq => hNq q hq), ⟨(h103 5 (by omega)).trans (pk_gS1 rfl rfl rfl), fun k hk => absurd hk (Nat.not_lt_zero k)⟩, ⟨(h103 16 (by omega)).trans (pk_gS0 (by omega) (pk_gS0 (by omega) (pk_gS0 (by omega) (pk_gS0 (by omega) ((ho 16 (by decide) (by decide) (by decide) (by decide)).trans hK.1))))), fun e => ⟨(hK.2 e).1.ff hff (by omega), fun k hk => ((hK.2 e).2 k hk).ff hff (by omega)⟩⟩, ⟨(h103 8 (by omega)).trans (pk_gS0 (by omega) (pk_gS0 (by omega) (pk_gS0 (by omega) (pk_gS1 rfl rfl rfl)))), fun i hi => absurd hi (Nat.not_lt_zero i)⟩, fun k hk => (hSh k hk).ff hff (by omega) (by omega) (by omega)⟩
      · refine pk_aload_n dX7_draw_71 rfl ?_
        refine pk_getP dX7_draw_72 fl_X7_7 rfl (hWN.s rfl) (hWN.p rfl) ?_
        refine pk_bipush (v := nI 14) dX7_draw_75 (by decide) ?_
        refine pk_iload_n dX7_draw_77 rfl ?_
        first | refine pk_addN dX7_draw_78 ?_ | refine pk_iadd dX7_draw_78 ?_
        refine pk_aload_n dX7_draw_79 rfl ?_
        refine pk_iload_n dX7_draw_80 rfl ?_
        refine pk_Vi dX7_draw_81 ml_X7_88 yw_X7_isIn yv_X7_isIn (hWN.s rfl) (e_X7_isIn2 hWN hN0 hN1 g1 g2 (by omega)) rfl rfl rfl rfl rfl rfl rfl ?_
        first | refine pk_eqb (tgt := 96) dX7_draw_84 (by decide) (fun c_84 => ?_) (fun c_84 => ?_) | refine pk_eq0N (tgt := 96) dX7_draw_84 (by decide) (by omega) (fun c_84 => ?_) (fun c_84 => ?_) | refine pk_if_eq (tgt := 96) dX7_draw_84 (by decide) (fun c_84 => ?_) (fun c_84 => ?_)
        · refine pk_iconst (v := nI 0) dX7_draw_96 (by decide) ?_
          refine pk_astN dX7_draw_97 (hWN.s rfl) (by omega) (by omega) (by omega) ?_
          first | refine pk_inc1 dX7_draw_98 rfl rfl ?_ | refine pk_iinc dX7_draw_98 rfl rfl rfl ?_
          refine pk_goto (tgt := 65) dX7_draw_101 (by decide) ?_
          exact K (j + 1, _) ⟨by dsimp only; omega, hFN.tr (pk_fr.sI rfl), pk_gS0 (by omega) hN0, pk_gS0 (by omega) hN1, fun i a b => pk_gS0 (by omega) (hNi i a b), fun q hq => by
            dsimp only at hq
            by_cases e : q = j
            · subst e
              exact pk_gS1 rfl rfl (by rw [g4 q (pm_ouw c_84)])
            · exact pk_gS0 (by omega) (hNq q (by omega))⟩ (by dsimp only; omega)
        · refine pk_aload_n dX7_draw_87 rfl ?_
          refine pk_getP dX7_draw_88 fl_X7_31 rfl (hWN.s rfl) (hWN.p rfl) ?_
          refine pk_iload_n dX7_draw_91 rfl ?_
          refine pk_aldN dX7_draw_92 (hWN.s rfl) (by omega) (by omega) ((hFN.I (by omega) j).trans (pk_gS0 (by omega) (pk_gS0 (by omega) (pk_gS0 (by omega) (pk_gS0 (by omega) (hg.2.2 j (pm_inw c_84).2 (pm_inw c_84).1)))))) ?_
          refine pk_goto (tgt := 97) dX7_draw_93 (by decide) ?_
          refine pk_astN dX7_draw_97 (hWN.s rfl) (by omega) (by omega) (by omega) ?_
          first | refine pk_inc1 dX7_draw_98 rfl rfl ?_ | refine pk_iinc dX7_draw_98 rfl rfl rfl ?_
          refine pk_goto (tgt := 65) dX7_draw_101 (by decide) ?_
          exact K (j + 1, _) ⟨by dsimp only; omega, hFN.tr (pk_fr.sI rfl), pk_gS0 (by omega) hN0, pk_gS0 (by omega) hN1, fun i a b => pk_gS0 (by omega) (hNi i a b), fun q hq => by
            dsimp only at hq
            by_cases e : q = j
            · subst e
              exact pk_gS1 rfl rfl rfl
            · exact pk_gS0 (by omega) (hNq q (by omega))⟩ (by dsimp only; omega)
    · refine pk_bipush (v := -20) dX7_draw_33 (by decide) ?_
      refine pk_iload_n dX7_draw_35 rfl ?_
      first | refine pk_subN dX7_draw_36 (by omega) ?_ | refine pk_isub dX7_draw_36 ?_
      refine pk_reti dX7_draw_37 (by first | rfl | exact pk_nbi _) ?_
      have hp := hbad c_30
      rw [op_draw, if_pos c_30, hp]
      have hff : pk_ff (fun q => q = 103 ∨ q = 111) M (pk_sI M1 103 8 (nI 0)) := (hF.tr (pk_fr.sI (Or.inl rfl))).ff
      have ho2 : ∀ j, j = 5 ∨ j = 16 → pk_I (pk_sI M1 103 8 (nI 0)) 103 j = pk_I M 103 j := fun j hj => pk_gS0 (by omega) (ho j (by omega) (by omega) (by omega) (by omega))
      exact ⟨rfl, hff.mono (fun q h => by omega), hff.wf hR.1, hA.ff hff (by omega), ⟨(ho2 5 (Or.inl rfl)).trans hU.1, fun k hk => (hU.2 k hk).ff hff (by omega)⟩, ⟨(ho2 16 (Or.inr rfl)).trans hK.1, fun e => ⟨(hK.2 e).1.ff hff (by omega), fun k hk => ((hK.2 e).2 k hk).ff hff (by omega)⟩⟩, ⟨pk_gS1 rfl rfl rfl, fun i hi => absurd hi (Nat.not_lt_zero i)⟩, fun k hk => (hSh k hk).ff hff (by omega) (by omega) (by omega)⟩
