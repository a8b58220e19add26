/-! The model: lines, texts, draw. -/
set_option maxRecDepth 100000 in
set_option maxHeartbeats 4000000 in
theorem e_X7_readsLine {Γ : pk_T} {M : pk_M} {L n x : Nat} {f : Nat → Nat} (hW : pk_WF L M) (hn : pk_I M 103 8 = nI n) (hn2 : n ≤ 100) (hf : ∀ i, i < n → pk_I M 110 i = nI (f i)) (hf2 : ∀ i, i < n → f i ≤ 126) (hx : pk_I M 103 9 = nI x) (hx2 : x ≤ n) {w l t : Nat} {g : Nat → Nat} {R : Bool × sp_Z} (h12 : pk_I M 103 12 = nI l) (h11 : l ≠ 0 → pk_I M 103 11 = nI w) (hl6 : l < 6) (hw8 : l ≠ 0 → w ≤ 8) (hg : ∀ q, q / 8 < l → q % 8 < w → pk_I M 111 q = nI (g q)) (hR : sp_rd f n t (x, w, l, 0, g) = R) (ht : n - x < t) : pk_E Γ yX7_readsLine cX7_readsLine 3 (some .boolean) 3 0 0 M [.ref 103] (fun r M' => ∃ ok : Bool, r = some (.int (pk_bi ok)) ∧ pk_fr (fun q => q = 103 ∨ q = 111) M M' ∧ (∀ j, j ≠ 9 → j ≠ 11 → j ≠ 12 → j ≠ 13 → pk_I M' 103 j = pk_I M 103 j) ∧ (ok = false → ∃ p, pm_bad R f n p ∧ pk_I M' 103 9 = nI p) ∧ (ok = true → ∃ y k g' u, pm_ln R f n y k (l + 1) g' u ∧ x ≤ y ∧ pk_I M' 103 9 = nI y ∧ pk_I M' 103 11 = nI k ∧ pk_I M' 103 12 = nI (l + 1) ∧ ∀ q, q / 8 < l + 1 → q % 8 < k → pk_I M' 111 q = nI (g' q))) := by
  refine pk_meth (own := RX7) (ini := false) [some (.ref 103), none, none] (by decide +kernel) rfl (by decide +kernel) rfl rfl ?_
  have hlim : sp_lim w l ≤ 8 := by
    unfold sp_lim
    split
    · omega
    · exact hw8 (by assumption)
  refine pk_aload_n dX7_readsLine_0 rfl ?_
  refine pk_getN dX7_readsLine_1 fl_X7_258 rfl (hW.s rfl) h12 ?_
  refine pk_ne0N (tgt := 12) dX7_readsLine_4 (by decide) (by omega) (fun c_4 => ?_) (fun c_4 => ?_)
  · refine pk_aload_n dX7_readsLine_12 rfl ?_
    refine pk_getN dX7_readsLine_13 fl_X7_264 rfl (hW.s rfl) (h11 c_4) ?_
    refine pk_stq (st' := [.int (nI (sp_lim w l))]) (by unfold sp_lim; rw [if_neg c_4]) ?_
    refine pk_istore_n dX7_readsLine_16 rfl rfl ?_
    refine pk_iconst (v := nI 1) dX7_readsLine_17 (by decide) ?_
    refine pk_istore_n dX7_readsLine_18 rfl rfl ?_
    refine pk_aload_n dX7_readsLine_19 rfl ?_
    refine pk_iconst (v := nI 0) dX7_readsLine_20 (by decide) ?_
    refine pk_putI dX7_readsLine_21 fl_X7_261 rfl rfl rfl rfl (hW.s rfl) ?_
    refine pk_wf (fun z : Bool × (Nat × Nat × (Nat → Nat) × Nat) × pk_M => if z.1 = true then n - z.2.1.1 + 1 else 0) (fun z : Bool × (Nat × Nat × (Nat → Nat) × Nat) × pk_M => pk_fr (fun q => q = 103 ∨ q = 111) M z.2.2 ∧ (∀ j, j ≠ 9 → j ≠ 13 → pk_I z.2.2 103 j = pk_I M 103 j) ∧ (z.1 = false → ∃ p, pm_bad R f n p ∧ pk_I z.2.2 103 9 = nI p) ∧ (z.1 = true → sp_rd f n z.2.1.2.2.2 (z.2.1.1, w, l, z.2.1.2.1, z.2.1.2.2.1) = R ∧ n - z.2.1.1 < z.2.1.2.2.2 ∧ x ≤ z.2.1.1 ∧ z.2.1.1 ≤ n ∧ z.2.1.2.1 ≤ sp_lim w l ∧ pk_I z.2.2 103 9 = nI z.2.1.1 ∧ pk_I z.2.2 103 13 = nI z.2.1.2.1 ∧ ∀ q, (q / 8 < l ∧ q % 8 < w) ∨ (q / 8 = l ∧ q % 8 < z.2.1.2.1) → pk_I z.2.2 111 q = nI (z.2.1.2.2.1 q))) (fun z => z.2.2) (fun z => [some (.ref 103), some (.int (nI (sp_lim w l))), some (.int (pk_bi z.1))]) ?_ (true, (x, 0, g, t), pk_sI M 103 13 (nI 0)) ⟨pk_fr.sI (Or.inl rfl), fun j _ h => pk_gS0 (Or.inr h) rfl, fun h => (by cases h), fun _ => ⟨hR, ht, Nat.le_refl _, hx2, Nat.zero_le _, pk_gS0 (by omega) hx, pk_gS1 rfl rfl rfl, fun q hq => pk_gS0 (by omega) (hg q (by dsimp only at hq; omega) (by dsimp only at hq; omega))⟩⟩
    rintro ⟨b, ⟨x1, k, g1, u⟩, N⟩ ⟨hF, ho, hbad, hgood⟩ K
    dsimp only at hF ho hbad hgood K ⊢
    have hWN := hF.wf hW
    have hN12 : pk_I N 103 12 = nI l := (ho 12 (by decide) (by decide)).trans h12
    cases b with
    | false =>
      refine pk_iload_n dX7_readsLine_24 rfl ?_
      refine pk_eqb (tgt := 49) dX7_readsLine_25 (by decide) (fun c_25 => ?_) (fun c_25 => ?_)
      · refine pk_iload_n dX7_readsLine_49 rfl ?_
        refine pk_eqb (tgt := 82) dX7_readsLine_50 (by decide) (fun c_50 => ?_) (fun c_50 => ?_)
        · refine pk_iconst (v := nI 0) dX7_readsLine_82 (by decide) ?_
          refine pk_istore_n dX7_readsLine_83 rfl rfl ?_
          refine pk_aload_n dX7_readsLine_84 rfl ?_
          refine pk_aload_n dX7_readsLine_85 rfl ?_
          refine pk_getI dX7_readsLine_86 fl_X7_261 rfl (hWN.s rfl) ?_
          refine pk_putI dX7_readsLine_89 fl_X7_264 rfl rfl rfl rfl (hWN.s rfl) ?_
          refine pk_aload_n dX7_readsLine_92 rfl ?_
          refine pk_dup dX7_readsLine_93 rfl ?_
          refine pk_getN dX7_readsLine_94 fl_X7_258 rfl (hWN.s rfl) (pk_gS0 (by omega) hN12) ?_
          refine pk_iconst (v := nI 1) dX7_readsLine_97 (by decide) ?_
          first | refine pk_addN dX7_readsLine_98 ?_ | refine pk_iadd dX7_readsLine_98 ?_
          refine pk_putI dX7_readsLine_99 fl_X7_258 rfl rfl rfl rfl (hWN.s rfl) ?_
          refine pk_iload_n dX7_readsLine_102 rfl ?_
          refine pk_reti dX7_readsLine_103 (by first | rfl | exact pk_nbi _) ?_
          obtain ⟨p, hp1, hp2⟩ := hbad rfl
          exact ⟨false, rfl, hF.tr ((pk_fr.sI (Or.inl rfl)).tr (pk_fr.sI (Or.inl rfl))), fun j a b c d => pk_gS0 (by omega) (pk_gS0 (by omega) (ho j a d)), fun _ => ⟨p, hp1, pk_gS0 (by omega) (pk_gS0 (by omega) hp2)⟩, fun h => (by cases h)⟩
        · exact absurd c_50 (by decide)
      · exact absurd c_25 (by decide)
    | true =>
      obtain ⟨hrd, hu1, hxx, hx3, hkl, h9, hk13, hl⟩ := hgood rfl
      obtain ⟨v, hv0⟩ : ∃ v, u = v + 1 := ⟨u - 1, by omega⟩
      subst hv0
      have hyl := sp_bk_le (f := f) hx3
      have hyg := sp_bk_ge f n x1
      have hyf := sp_bk_fix f n x1
      have hNn : pk_I N 103 8 = nI n := (ho 8 (by decide) (by decide)).trans hn
      have hNf : ∀ i, i < n → pk_I N 110 i = nI (f i) := fun i hi => (hF.I (by omega) i).trans (hf i hi)
      have hN11 : l ≠ 0 → pk_I N 103 11 = nI w := fun h => (ho 11 (by decide) (by decide)).trans (h11 h)
      refine pk_iload_n dX7_readsLine_24 rfl ?_
      refine pk_eqb (tgt := 49) dX7_readsLine_25 (by decide) (fun c_25 => ?_) (fun c_25 => ?_)
      · exact absurd c_25 (by decide)
      · refine pk_aload_n dX7_readsLine_28 rfl ?_
        refine pk_Vg dX7_readsLine_29 ml_X7_267 yw_X7_isRun yv_X7_isRun (hWN.s rfl) (e_X7_isRun hWN hNn hn2 hNf hf2 h9 hx3) rfl rfl rfl rfl rfl rfl rfl (fun v0 M0 hv => ?_)
        obtain ⟨hv1, hv2⟩ := hv
        cases hv1
        subst hv2
        refine pk_eqb (tgt := 49) dX7_readsLine_32 (by decide) (fun c_32 => ?_) (fun c_32 => ?_)
        · refine pk_iload_n dX7_readsLine_49 rfl ?_
          refine pk_eqb (tgt := 82) dX7_readsLine_50 (by decide) (fun c_50 => ?_) (fun c_50 => ?_)
          · exact absurd c_50 (by decide)
          · refine pk_aload_n dX7_readsLine_53 rfl ?_
            refine pk_getN dX7_readsLine_54 fl_X7_261 rfl (hWN.s rfl) (pk_gS0 (by omega) hk13) ?_
            refine pk_if_le (tgt := 82) dX7_readsLine_57 (by decide) (fun c_57 => ?_) (fun c_57 => ?_)
            · refine pk_iconst (v := nI 0) dX7_readsLine_82 (by decide) ?_
              refine pk_istore_n dX7_readsLine_83 rfl rfl ?_
              refine pk_aload_n dX7_readsLine_84 rfl ?_
              refine pk_aload_n dX7_readsLine_85 rfl ?_
              refine pk_getN dX7_readsLine_86 fl_X7_261 rfl (hWN.s rfl) (pk_gS0 (by omega) hk13) ?_
              refine pk_putI dX7_readsLine_89 fl_X7_264 rfl rfl rfl rfl (hWN.s rfl) ?_
              refine pk_aload_n dX7_readsLine_92 rfl ?_
              refine pk_dup dX7_readsLine_93 rfl ?_
              refine pk_getN dX7_readsLine_94 fl_X7_258 rfl (hWN.s rfl) (pk_gS0 (by omega) (pk_gS0 (by omega) hN12)) ?_
              refine pk_iconst (v := nI 1) dX7_readsLine_97 (by decide) ?_
              first | refine pk_addN dX7_readsLine_98 ?_ | refine pk_iadd dX7_readsLine_98 ?_
              refine pk_putI dX7_readsLine_99 fl_X7_258 rfl rfl rfl rfl (hWN.s rfl) ?_
              refine pk_iload_n dX7_readsLine_102 rfl ?_
              refine pk_reti dX7_readsLine_103 (by first | rfl | exact pk_nbi _) ?_
              have hF3 : pk_fr (fun q => q = 103 ∨ q = 111) M (pk_sI (pk_sI (pk_sI N 103 9 (nI (sp_bk f n x1))) 103 11 (nI k)) 103 12 (nI (l + 1))) := hF.tr ((pk_fr.sI (Or.inl rfl)).tr ((pk_fr.sI (Or.inl rfl)).tr (pk_fr.sI (Or.inl rfl))))
              have ho3 : ∀ j, j ≠ 9 → j ≠ 11 → j ≠ 12 → j ≠ 13 → pk_I (pk_sI (pk_sI (pk_sI N 103 9 (nI (sp_bk f n x1))) 103 11 (nI k)) 103 12 (nI (l + 1))) 103 j = pk_I M 103 j := fun j a b c d => pk_gS0 (by omega) (pk_gS0 (by omega) (pk_gS0 (by omega) (ho j a d)))
              have hp9 : pk_I (pk_sI (pk_sI (pk_sI N 103 9 (nI (sp_bk f n x1))) 103 11 (nI k)) 103 12 (nI (l + 1))) 103 9 = nI (sp_bk f n x1) := pk_gS0 (by omega) (pk_gS0 (by omega) (pk_gS1 rfl rfl rfl))
              have he : sp_el w l k = false := by
                have : k = 0 := by
                  have := (nI_leI (by omega) (by decide)).mp (show nI k ≤ nI 0 from c_57)
                  omega
                unfold sp_el
                rw [this]
                rfl
              exact ⟨false, rfl, hF3, ho3, fun _ => ⟨_, sp_rd_el0 hx3 hrd c_32 he, hp9⟩, fun h => (by cases h)⟩
            · refine pk_aload_n dX7_readsLine_60 rfl ?_
              refine pk_getN dX7_readsLine_61 fl_X7_258 rfl (hWN.s rfl) (pk_gS0 (by omega) hN12) ?_
              refine pk_eq0N (tgt := 78) dX7_readsLine_64 (by decide) (by omega) (fun c_64 => ?_) (fun c_64 => ?_)
              · refine pk_iconst (v := nI 1) dX7_readsLine_78 (by decide) ?_
                refine pk_goto (tgt := 83) dX7_readsLine_79 (by decide) ?_
                refine pk_istore_n dX7_readsLine_83 rfl rfl ?_
                refine pk_aload_n dX7_readsLine_84 rfl ?_
                refine pk_aload_n dX7_readsLine_85 rfl ?_
                refine pk_getN dX7_readsLine_86 fl_X7_261 rfl (hWN.s rfl) (pk_gS0 (by omega) hk13) ?_
                refine pk_putI dX7_readsLine_89 fl_X7_264 rfl rfl rfl rfl (hWN.s rfl) ?_
                refine pk_aload_n dX7_readsLine_92 rfl ?_
                refine pk_dup dX7_readsLine_93 rfl ?_
                refine pk_getN dX7_readsLine_94 fl_X7_258 rfl (hWN.s rfl) (pk_gS0 (by omega) (pk_gS0 (by omega) hN12)) ?_
                refine pk_iconst (v := nI 1) dX7_readsLine_97 (by decide) ?_
                first | refine pk_addN dX7_readsLine_98 ?_ | refine pk_iadd dX7_readsLine_98 ?_
                refine pk_putI dX7_readsLine_99 fl_X7_258 rfl rfl rfl rfl (hWN.s rfl) ?_
                refine pk_iload_n dX7_readsLine_102 rfl ?_
                refine pk_reti dX7_readsLine_103 (by first | rfl | exact pk_nbi _) ?_
                have hF3 : pk_fr (fun q => q = 103 ∨ q = 111) M (pk_sI (pk_sI (pk_sI N 103 9 (nI (sp_bk f n x1))) 103 11 (nI k)) 103 12 (nI (l + 1))) := hF.tr ((pk_fr.sI (Or.inl rfl)).tr ((pk_fr.sI (Or.inl rfl)).tr (pk_fr.sI (Or.inl rfl))))
                have ho3 : ∀ j, j ≠ 9 → j ≠ 11 → j ≠ 12 → j ≠ 13 → pk_I (pk_sI (pk_sI (pk_sI N 103 9 (nI (sp_bk f n x1))) 103 11 (nI k)) 103 12 (nI (l + 1))) 103 j = pk_I M 103 j := fun j a b c d => pk_gS0 (by omega) (pk_gS0 (by omega) (pk_gS0 (by omega) (ho j a d)))
                have hp9 : pk_I (pk_sI (pk_sI (pk_sI N 103 9 (nI (sp_bk f n x1))) 103 11 (nI k)) 103 12 (nI (l + 1))) 103 9 = nI (sp_bk f n x1) := pk_gS0 (by omega) (pk_gS0 (by omega) (pk_gS1 rfl rfl rfl))
                have hk0 : k ≠ 0 := fun e => c_57 (by rw [e]; decide)
                have he : sp_el w l k = true := by
                  unfold sp_el
                  rw [beq_eq_false_iff_ne.mpr hk0, beq_iff_eq.mpr c_64]
                  rfl
                refine ⟨true, rfl, hF3, ho3, fun h => (by cases h), fun _ => ⟨(sp_bk f n x1), k, g1, v, sp_rd_el1 hx3 hu1 (by omega) hl6 hrd c_32 he, by omega, hp9, pk_gS0 (by omega) (pk_gS1 rfl rfl rfl), pk_gS1 rfl rfl rfl, fun q q1 q2 => pk_gS0 (by omega) (pk_gS0 (by omega) (pk_gS0 (by omega) (hl q ?_)))⟩⟩
                have hel := sp_el_of he
                omega
              · have hw9 := hw8 c_64
                refine pk_aload_n dX7_readsLine_67 rfl ?_
                refine pk_getN dX7_readsLine_68 fl_X7_261 rfl (hWN.s rfl) (pk_gS0 (by omega) hk13) ?_
                refine pk_aload_n dX7_readsLine_71 rfl ?_
                refine pk_getN dX7_readsLine_72 fl_X7_264 rfl (hWN.s rfl) (pk_gS0 (by omega) (hN11 c_64)) ?_
                first | refine pk_neN (tgt := 82) dX7_readsLine_75 (by decide) (by omega) (by omega) (fun c_75 => ?_) (fun c_75 => ?_) | refine pk_icmp_ne (tgt := 82) dX7_readsLine_75 (by decide) (fun c_75 => ?_) (fun c_75 => ?_)
                · refine pk_iconst (v := nI 0) dX7_readsLine_82 (by decide) ?_
                  refine pk_istore_n dX7_readsLine_83 rfl rfl ?_
                  refine pk_aload_n dX7_readsLine_84 rfl ?_
                  refine pk_aload_n dX7_readsLine_85 rfl ?_
                  refine pk_getN dX7_readsLine_86 fl_X7_261 rfl (hWN.s rfl) (pk_gS0 (by omega) hk13) ?_
                  refine pk_putI dX7_readsLine_89 fl_X7_264 rfl rfl rfl rfl (hWN.s rfl) ?_
                  refine pk_aload_n dX7_readsLine_92 rfl ?_
                  refine pk_dup dX7_readsLine_93 rfl ?_
                  refine pk_getN dX7_readsLine_94 fl_X7_258 rfl (hWN.s rfl) (pk_gS0 (by omega) (pk_gS0 (by omega) hN12)) ?_
                  refine pk_iconst (v := nI 1) dX7_readsLine_97 (by decide) ?_
                  first | refine pk_addN dX7_readsLine_98 ?_ | refine pk_iadd dX7_readsLine_98 ?_
                  refine pk_putI dX7_readsLine_99 fl_X7_258 rfl rfl rfl rfl (hWN.s rfl) ?_
                  refine pk_iload_n dX7_readsLine_102 rfl ?_
                  refine pk_reti dX7_readsLine_103 (by first | rfl | exact pk_nbi _) ?_
                  have hF3 : pk_fr (fun q => q = 103 ∨ q = 111) M (pk_sI (pk_sI (pk_sI N 103 9 (nI (sp_bk f n x1))) 103 11 (nI k)) 103 12 (nI (l + 1))) := hF.tr ((pk_fr.sI (Or.inl rfl)).tr ((pk_fr.sI (Or.inl rfl)).tr (pk_fr.sI (Or.inl rfl))))
                  have ho3 : ∀ j, j ≠ 9 → j ≠ 11 → j ≠ 12 → j ≠ 13 → pk_I (pk_sI (pk_sI (pk_sI N 103 9 (nI (sp_bk f n x1))) 103 11 (nI k)) 103 12 (nI (l + 1))) 103 j = pk_I M 103 j := fun j a b c d => pk_gS0 (by omega) (pk_gS0 (by omega) (pk_gS0 (by omega) (ho j a d)))
                  have hp9 : pk_I (pk_sI (pk_sI (pk_sI N 103 9 (nI (sp_bk f n x1))) 103 11 (nI k)) 103 12 (nI (l + 1))) 103 9 = nI (sp_bk f n x1) := pk_gS0 (by omega) (pk_gS0 (by omega) (pk_gS1 rfl rfl rfl))
                  have hk0 : k ≠ 0 := fun e => c_57 (by rw [e]; decide)
                  have he : sp_el w l k = false := by
                    unfold sp_el
                    rw [beq_eq_false_iff_ne.mpr c_64, beq_eq_false_iff_ne.mpr c_75]
                    simp
                  exact ⟨false, rfl, hF3, ho3, fun _ => ⟨_, sp_rd_el0 hx3 hrd c_32 he, hp9⟩, fun h => (by cases h)⟩
                · refine pk_iconst (v := nI 1) dX7_readsLine_78 (by decide) ?_
                  refine pk_goto (tgt := 83) dX7_readsLine_79 (by decide) ?_
                  refine pk_istore_n dX7_readsLine_83 rfl rfl ?_
                  refine pk_aload_n dX7_readsLine_84 rfl ?_
                  refine pk_aload_n dX7_readsLine_85 rfl ?_
                  refine pk_getN dX7_readsLine_86 fl_X7_261 rfl (hWN.s rfl) (pk_gS0 (by omega) hk13) ?_
                  refine pk_putI dX7_readsLine_89 fl_X7_264 rfl rfl rfl rfl (hWN.s rfl) ?_
                  refine pk_aload_n dX7_readsLine_92 rfl ?_
                  refine pk_dup dX7_readsLine_93 rfl ?_
                  refine pk_getN dX7_readsLine_94 fl_X7_258 rfl (hWN.s rfl) (pk_gS0 (by omega) (pk_gS0 (by omega) hN12)) ?_
                  refine pk_iconst (v := nI 1) dX7_readsLine_97 (by decide) ?_
                  first | refine pk_addN dX7_readsLine_98 ?_ | refine pk_iadd dX7_readsLine_98 ?_
                  refine pk_putI dX7_readsLine_99 fl_X7_258 rfl rfl rfl rfl (hWN.s rfl) ?_
                  refine pk_iload_n dX7_readsLine_102 rfl ?_
                  refine pk_reti dX7_readsLine_103 (by first | rfl | exact pk_nbi _) ?_
                  have hF3 : pk_fr (fun q => q = 103 ∨ q = 111) M (pk_sI (pk_sI (pk_sI N 103 9 (nI (sp_bk f n x1))) 103 11 (nI k)) 103 12 (nI (l + 1))) := hF.tr ((pk_fr.sI (Or.inl rfl)).tr ((pk_fr.sI (Or.inl rfl)).tr (pk_fr.sI (Or.inl rfl))))
                  have ho3 : ∀ j, j ≠ 9 → j ≠ 11 → j ≠ 12 → j ≠ 13 → pk_I (pk_sI (pk_sI (pk_sI N 103 9 (nI (sp_bk f n x1))) 103 11 (nI k)) 103 12 (nI (l + 1))) 103 j = pk_I M 103 j := fun j a b c d => pk_gS0 (by omega) (pk_gS0 (by omega) (pk_gS0 (by omega) (ho j a d)))
                  have hp9 : pk_I (pk_sI (pk_sI (pk_sI N 103 9 (nI (sp_bk f n x1))) 103 11 (nI k)) 103 12 (nI (l + 1))) 103 9 = nI (sp_bk f n x1) := pk_gS0 (by omega) (pk_gS0 (by omega) (pk_gS1 rfl rfl rfl))
                  have hk0 : k ≠ 0 := fun e => c_57 (by rw [e]; decide)
                  have he : sp_el w l k = true := by
                    unfold sp_el
                    rw [beq_eq_false_iff_ne.mpr hk0, beq_iff_eq.mpr c_75, Bool.or_true]
                    rfl
                  refine ⟨true, rfl, hF3, ho3, fun h => (by cases h), fun _ => ⟨(sp_bk f n x1), k, g1, v, sp_rd_el1 hx3 hu1 (by omega) hl6 hrd c_32 he, by omega, hp9, pk_gS0 (by omega) (pk_gS1 rfl rfl rfl), pk_gS1 rfl rfl rfl, fun q q1 q2 => pk_gS0 (by omega) (pk_gS0 (by omega) (pk_gS0 (by omega) (hl q ?_)))⟩⟩
                  have hel := sp_el_of he
                  omega
        · have hR0 := sp_isR_of c_32
          refine pk_aload_n dX7_readsLine_35 rfl ?_
          refine pk_iload_n dX7_readsLine_36 rfl ?_
          refine pk_aload_n dX7_readsLine_37 rfl ?_
          refine pk_getN dX7_readsLine_38 fl_X7_261 rfl (hWN.s rfl) (pk_gS0 (by omega) hk13) ?_
          first | refine pk_subN dX7_readsLine_41 (by omega) ?_ | refine pk_isub dX7_readsLine_41 ?_
          refine pk_Vg dX7_readsLine_42 ml_X7_271 yw_X7_readsRun yv_X7_readsRun (hWN.s rfl) (e_X7_readsRun (M := (pk_sI N 103 9 (nI (sp_bk f n x1)))) (y := (sp_bk f n x1)) (w := w) (l := l) (k := k) hWN (pk_gS0 (by omega) hNn) hn2 (fun i hi => pk_gS0 (by omega) (hNf i hi)) hf2 (pk_gS1 rfl rfl rfl) hyf (sp_ltr_lt hR0.1) (pk_gS0 (by omega) hN12) (pk_gS0 (by omega) hk13) hl6 hlim hkl) rfl rfl rfl rfl rfl rfl rfl (fun v0 M1 hv => ?_)
          obtain ⟨hv1, hF1, ho1, h91, hso1⟩ := hv
          cases hv1
          refine pk_istore_n dX7_readsLine_45 rfl rfl ?_
          refine pk_goto (tgt := 24) dX7_readsLine_46 (by decide) ?_
          cases hso : (sp_rr f n (sp_ltr f n (sp_bk f n x1)) (sp_bk f n x1) w l k).1 with
          | none =>
            exact K (false, (0, 0, g1, 0), M1) ⟨hF.tr ((pk_fr.sI (Or.inl rfl)).tr hF1), fun j a b => (ho1 j a b).trans (pk_gS0 (by omega) (ho j a b)), fun _ => ⟨_, sp_rd_none hn2 hrd c_32 hso, h91⟩, fun h => (by cases h)⟩ (by dsimp only; rw [if_neg (by decide), if_pos rfl]; omega)
          | some so =>
            have q5 := (sp_rr_ok (f := f) (c := (sp_ltr f n (sp_bk f n x1))) (w := w) (l := l) (k := k) (sp_ltr_lt hR0.1)).1
            have hk2 := (sp_rr_ok (f := f) (c := (sp_ltr f n (sp_bk f n x1))) (w := w) (l := l) (k := k) (sp_ltr_lt hR0.1)).2 so.1 so.2 hso
            obtain ⟨g13, g111⟩ := hso1 so.1 so.2 hso
            exact K (true, ((sp_rr f n (sp_ltr f n (sp_bk f n x1)) (sp_bk f n x1) w l k).2, k + so.2, sp_wr g1 (l * 8 + k) so.1 so.2, v), M1) ⟨hF.tr ((pk_fr.sI (Or.inl rfl)).tr hF1), fun j a b => (ho1 j a b).trans (pk_gS0 (by omega) (ho j a b)), fun h => (by cases h), fun _ => ⟨sp_rd_some hrd c_32 hso, by dsimp only; omega, by dsimp only; omega, q5, hk2.2.2.2.1, h91, g13, fun q hq => by
              rw [g111 q]
              dsimp only at hq ⊢
              unfold sp_wr
              by_cases e : l * 8 + k ≤ q ∧ q < l * 8 + k + so.2
              · rw [if_pos e, if_pos e]
              · rw [if_neg e, if_neg e]
                exact pk_gS0 (by omega) (hl q (by omega))⟩⟩ (by dsimp only; rw [if_pos rfl, if_pos rfl]; omega)
  · refine pk_bipush (v := nI 8) dX7_readsLine_7 (by decide) ?_
    refine pk_goto (tgt := 16) dX7_readsLine_9 (by decide) ?_
    refine pk_stq (st' := [.int (nI (sp_lim w l))]) (by unfold sp_lim; rw [if_pos c_4]) ?_
    refine pk_istore_n dX7_readsLine_16 rfl rfl ?_
    refine pk_iconst (v := nI 1) dX7_readsLine_17 (by decide) ?_
    refine pk_istore_n dX7_readsLine_18 rfl rfl ?_
    refine pk_aload_n dX7_readsLine_19 rfl ?_
    refine pk_iconst (v := nI 0) dX7_readsLine_20 (by decide) ?_
    refine pk_putI dX7_readsLine_21 fl_X7_261 rfl rfl rfl rfl (hW.s rfl) ?_
    refine pk_wf (fun z : Bool × (Nat × Nat × (Nat → Nat) × Nat) × pk_M => if z.1 = true then n - z.2.1.1 + 1 else 0) (fun z : Bool × (Nat × Nat × (Nat → Nat) × Nat) × pk_M => pk_fr (fun q => q = 103 ∨ q = 111) M z.2.2 ∧ (∀ j, j ≠ 9 → j ≠ 13 → pk_I z.2.2 103 j = pk_I M 103 j) ∧ (z.1 = false → ∃ p, pm_bad R f n p ∧ pk_I z.2.2 103 9 = nI p) ∧ (z.1 = true → sp_rd f n z.2.1.2.2.2 (z.2.1.1, w, l, z.2.1.2.1, z.2.1.2.2.1) = R ∧ n - z.2.1.1 < z.2.1.2.2.2 ∧ x ≤ z.2.1.1 ∧ z.2.1.1 ≤ n ∧ z.2.1.2.1 ≤ sp_lim w l ∧ pk_I z.2.2 103 9 = nI z.2.1.1 ∧ pk_I z.2.2 103 13 = nI z.2.1.2.1 ∧ ∀ q, (q / 8 < l ∧ q % 8 < w) ∨ (q / 8 = l ∧ q % 8 < z.2.1.2.1) → pk_I z.2.2 111 q = nI (z.2.1.2.2.1 q))) (fun z => z.2.2) (fun z => [some (.ref 103), some (.int (nI (sp_lim w l))), some (.int (pk_bi z.1))]) ?_ (true, (x, 0, g, t), pk_sI M 103 13 (nI 0)) ⟨pk_fr.sI (Or.inl rfl), fun j _ h => pk_gS0 (Or.inr h) rfl, fun h => (by cases h), fun _ => ⟨hR, ht, Nat.le_refl _, hx2, Nat.zero_le _, pk_gS0 (by omega) hx, pk_gS1 rfl rfl rfl, fun q hq => pk_gS0 (by omega) (hg q (by dsimp only at hq; omega) (by dsimp only at hq; omega))⟩⟩
    rintro ⟨b, ⟨x1, k, g1, u⟩, N⟩ ⟨hF, ho, hbad, hgood⟩ K
    dsimp only at hF ho hbad hgood K ⊢
    have hWN := hF.wf hW
    have hN12 : pk_I N 103 12 = nI l := (ho 12 (by decide) (by decide)).trans h12
    cases b with
    | false =>
      refine pk_iload_n dX7_readsLine_24 rfl ?_
      refine pk_eqb (tgt := 49) dX7_readsLine_25 (by decide) (fun c_25 => ?_) (fun c_25 => ?_)
      · refine pk_iload_n dX7_readsLine_49 rfl ?_
        refine pk_eqb (tgt := 82) dX7_readsLine_50 (by decide) (fun c_50 => ?_) (fun c_50 => ?_)
        · refine pk_iconst (v := nI 0) dX7_readsLine_82 (by decide) ?_
          refine pk_istore_n dX7_readsLine_83 rfl rfl ?_
          refine pk_aload_n dX7_readsLine_84 rfl ?_
          refine pk_aload_n dX7_readsLine_85 rfl ?_
          refine pk_getI dX7_readsLine_86 fl_X7_261 rfl (hWN.s rfl) ?_
          refine pk_putI dX7_readsLine_89 fl_X7_264 rfl rfl rfl rfl (hWN.s rfl) ?_
          refine pk_aload_n dX7_readsLine_92 rfl ?_
          refine pk_dup dX7_readsLine_93 rfl ?_
          refine pk_getN dX7_readsLine_94 fl_X7_258 rfl (hWN.s rfl) (pk_gS0 (by omega) hN12) ?_
          refine pk_iconst (v := nI 1) dX7_readsLine_97 (by decide) ?_
          first | refine pk_addN dX7_readsLine_98 ?_ | refine pk_iadd dX7_readsLine_98 ?_
          refine pk_putI dX7_readsLine_99 fl_X7_258 rfl rfl rfl rfl (hWN.s rfl) ?_
          refine pk_iload_n dX7_readsLine_102 rfl ?_
          refine pk_reti dX7_readsLine_103 (by first | rfl | exact pk_nbi _) ?_
          obtain ⟨p, hp1, hp2⟩ := hbad rfl
          exact ⟨false, rfl, hF.tr ((pk_fr.sI (Or.inl rfl)).tr (pk_fr.sI (Or.inl rfl))), fun j a b c d => pk_gS0 (by omega) (pk_gS0 (by omega) (ho j a d)), fun _ => ⟨p, hp1, pk_gS0 (by omega) (pk_gS0 (by omega) hp2)⟩, fun h => (by cases h)⟩
        · exact absurd c_50 (by decide)
      · exact absurd c_25 (by decide)
    | true =>
      obtain ⟨hrd, hu1, hxx, hx3, hkl, h9, hk13, hl⟩ := hgood rfl
      obtain ⟨v, hv0⟩ : ∃ v, u = v + 1 := ⟨u - 1, by omega⟩
      subst hv0
      have hyl := sp_bk_le (f := f) hx3
      have hyg := sp_bk_ge f n x1
      have hyf := sp_bk_fix f n x1
      have hNn : pk_I N 103 8 = nI n := (ho 8 (by decide) (by decide)).trans hn
      have hNf : ∀ i, i < n → pk_I N 110 i = nI (f i) := fun i hi => (hF.I (by omega) i).trans (hf i hi)
      have hN11 : l ≠ 0 → pk_I N 103 11 = nI w := fun h => (ho 11 (by decide) (by decide)).trans (h11 h)
      refine pk_iload_n dX7_readsLine_24 rfl ?_
      refine pk_eqb (tgt := 49) dX7_readsLine_25 (by decide) (fun c_25 => ?_) (fun c_25 => ?_)
      · exact absurd c_25 (by decide)
      · refine pk_aload_n dX7_readsLine_28 rfl ?_
        refine pk_Vg dX7_readsLine_29 ml_X7_267 yw_X7_isRun yv_X7_isRun (hWN.s rfl) (e_X7_isRun hWN hNn hn2 hNf hf2 h9 hx3) rfl rfl rfl rfl rfl rfl rfl (fun v0 M0 hv => ?_)
        obtain ⟨hv1, hv2⟩ := hv
        cases hv1
        subst hv2
        refine pk_eqb (tgt := 49) dX7_readsLine_32 (by decide) (fun c_32 => ?_) (fun c_32 => ?_)
        · refine pk_iload_n dX7_readsLine_49 rfl ?_
          refine pk_eqb (tgt := 82) dX7_readsLine_50 (by decide) (fun c_50 => ?_) (fun c_50 => ?_)
          · exact absurd c_50 (by decide)
          · refine pk_aload_n dX7_readsLine_53 rfl ?_
            refine pk_getN dX7_readsLine_54 fl_X7_261 rfl (hWN.s rfl) (pk_gS0 (by omega) hk13) ?_
            refine pk_if_le (tgt := 82) dX7_readsLine_57 (by decide) (fun c_57 => ?_) (fun c_57 => ?_)
            · refine pk_iconst (v := nI 0) dX7_readsLine_82 (by decide) ?_
              refine pk_istore_n dX7_readsLine_83 rfl rfl ?_
              refine pk_aload_n dX7_readsLine_84 rfl ?_
              refine pk_aload_n dX7_readsLine_85 rfl ?_
              refine pk_getN dX7_readsLine_86 fl_X7_261 rfl (hWN.s rfl) (pk_gS0 (by omega) hk13) ?_
              refine pk_putI dX7_readsLine_89 fl_X7_264 rfl rfl rfl rfl (hWN.s rfl) ?_
              refine pk_aload_n dX7_readsLine_92 rfl ?_
              refine pk_dup dX7_readsLine_93 rfl ?_
              refine pk_getN dX7_readsLine_94 fl_X7_258 rfl (hWN.s rfl) (pk_gS0 (by omega) (pk_gS0 (by omega) hN12)) ?_
              refine pk_iconst (v := nI 1) dX7_readsLine_97 (by decide) ?_
              first | refine pk_addN dX7_readsLine_98 ?_ | refine pk_iadd dX7_readsLine_98 ?_
              refine pk_putI dX7_readsLine_99 fl_X7_258 rfl rfl rfl rfl (hWN.s rfl) ?_
              refine pk_iload_n dX7_readsLine_102 rfl ?_
              refine pk_reti dX7_readsLine_103 (by first | rfl | exact pk_nbi _) ?_
              have hF3 : pk_fr (fun q => q = 103 ∨ q = 111) M (pk_sI (pk_sI (pk_sI N 103 9 (nI (sp_bk f n x1))) 103 11 (nI k)) 103 12 (nI (l + 1))) := hF.tr ((pk_fr.sI (Or.inl rfl)).tr ((pk_fr.sI (Or.inl rfl)).tr (pk_fr.sI (Or.inl rfl))))
              have ho3 : ∀ j, j ≠ 9 → j ≠ 11 → j ≠ 12 → j ≠ 13 → pk_I (pk_sI (pk_sI (pk_sI N 103 9 (nI (sp_bk f n x1))) 103 11 (nI k)) 103 12 (nI (l + 1))) 103 j = pk_I M 103 j := fun j a b c d => pk_gS0 (by omega) (pk_gS0 (by omega) (pk_gS0 (by omega) (ho j a d)))
              have hp9 : pk_I (pk_sI (pk_sI (pk_sI N 103 9 (nI (sp_bk f n x1))) 103 11 (nI k)) 103 12 (nI (l + 1))) 103 9 = nI (sp_bk f n x1) := pk_gS0 (by omega) (pk_gS0 (by omega) (pk_gS1 rfl rfl rfl))
              have he : sp_el w l k = false := by
                have : k = 0 := by
                  have := (nI_leI (by omega) (by decide)).mp (show nI k ≤ nI 0 from c_57)
                  omega
                unfold sp_el
                rw [this]
                rfl
              exact ⟨false, rfl, hF3, ho3, fun _ => ⟨_, sp_rd_el0 hx3 hrd c_32 he, hp9⟩, fun h => (by cases h)⟩
            · refine pk_aload_n dX7_readsLine_60 rfl ?_
              refine pk_getN dX7_readsLine_61 fl_X7_258 rfl (hWN.s rfl) (pk_gS0 (by omega) hN12) ?_
              refine pk_eq0N (tgt := 78) dX7_readsLine_64 (by decide) (by omega) (fun c_64 => ?_) (fun c_64 => ?_)
              · refine pk_iconst (v := nI 1) dX7_readsLine_78 (by decide) ?_
                refine pk_goto (tgt := 83) dX7_readsLine_79 (by decide) ?_
                refine pk_istore_n dX7_readsLine_83 rfl rfl ?_
                refine pk_aload_n dX7_readsLine_84 rfl ?_
                refine pk_aload_n dX7_readsLine_85 rfl ?_
                refine pk_getN dX7_readsLine_86 fl_X7_261 rfl (hWN.s rfl) (pk_gS0 (by omega) hk13) ?_
                refine pk_putI dX7_readsLine_89 fl_X7_264 rfl rfl rfl rfl (hWN.s rfl) ?_
                refine pk_aload_n dX7_readsLine_92 rfl ?_
                refine pk_dup dX7_readsLine_93 rfl ?_
                refine pk_getN dX7_readsLine_94 fl_X7_258 rfl (hWN.s rfl) (pk_gS0 (by omega) (pk_gS0 (by omega) hN12)) ?_
                refine pk_iconst (v := nI 1) dX7_readsLine_97 (by decide) ?_
                first | refine pk_addN dX7_readsLine_98 ?_ | refine pk_iadd dX7_readsLine_98 ?_
                refine pk_putI dX7_readsLine_99 fl_X7_258 rfl rfl rfl rfl (hWN.s rfl) ?_
                refine pk_iload_n dX7_readsLine_102 rfl ?_
                refine pk_reti dX7_readsLine_103 (by first | rfl | exact pk_nbi _) ?_
                have hF3 : pk_fr (fun q => q = 103 ∨ q = 111) M (pk_sI (pk_sI (pk_sI N 103 9 (nI (sp_bk f n x1))) 103 11 (nI k)) 103 12 (nI (l + 1))) := hF.tr ((pk_fr.sI (Or.inl rfl)).tr ((pk_fr.sI (Or.inl rfl)).tr (pk_fr.sI (Or.inl rfl))))
                have ho3 : ∀ j, j ≠ 9 → j ≠ 11 → j ≠ 12 → j ≠ 13 → pk_I (pk_sI (pk_sI (pk_sI N 103 9 (nI (sp_bk f n x1))) 103 11 (nI k)) 103 12 (nI (l + 1))) 103 j = pk_I M 103 j := fun j a b c d => pk_gS0 (by omega) (pk_gS0 (by omega) (pk_gS0 (by omega) (ho j a d)))
                have hp9 : pk_I (pk_sI (pk_sI (pk_sI N 103 9 (nI (sp_bk f n x1))) 103 11 (nI k)) 103 12 (nI (l + 1))) 103 9 = nI (sp_bk f n x1) := pk_gS0 (by omega) (pk_gS0 (by omega) (pk_gS1 rfl rfl rfl))
                have hk0 : k ≠ 0 := fun e => c_57 (by rw [e]; decide)
                have he : sp_el w l k = true := by
                  unfold sp_el
                  rw [beq_eq_false_iff_ne.mpr hk0, beq_iff_eq.mpr c_64]
                  rfl
                refine ⟨true, rfl, hF3, ho3, fun h => (by cases h), fun _ => ⟨(sp_bk f n x1), k, g1, v, sp_rd_el1 hx3 hu1 (by omega) hl6 hrd c_32 he, by omega, hp9, pk_gS0 (by omega) (pk_gS1 rfl rfl rfl), pk_gS1 rfl rfl rfl, fun q q1 q2 => pk_gS0 (by omega) (pk_gS0 (by omega) (pk_gS0 (by omega) (hl q ?_)))⟩⟩
                have hel := sp_el_of he
                omega
              · have hw9 := hw8 c_64
                refine pk_aload_n dX7_readsLine_67 rfl ?_
                refine pk_getN dX7_readsLine_68 fl_X7_261 rfl (hWN.s rfl) (pk_gS0 (by omega) hk13) ?_
                refine pk_aload_n dX7_readsLine_71 rfl ?_
                refine pk_getN dX7_readsLine_72 fl_X7_264 rfl (hWN.s rfl) (pk_gS0 (by omega) (hN11 c_64)) ?_
                first | refine pk_neN (tgt := 82) dX7_readsLine_75 (by decide) (by omega) (by omega) (fun c_75 => ?_) (fun c_75 => ?_) | refine pk_icmp_ne (tgt := 82) dX7_readsLine_75 (by decide) (fun c_75 => ?_) (fun c_75 => ?_)
                · refine pk_iconst (v := nI 0) dX7_readsLine_82 (by decide) ?_
                  refine pk_istore_n dX7_readsLine_83 rfl rfl ?_
                  refine pk_aload_n dX7_readsLine_84 rfl ?_
                  refine pk_aload_n dX7_readsLine_85 rfl ?_
                  refine pk_getN dX7_readsLine_86 fl_X7_261 rfl (hWN.s rfl) (pk_gS0 (by omega) hk13) ?_
                  refine pk_putI dX7_readsLine_89 fl_X7_264 rfl rfl rfl rfl (hWN.s rfl) ?_
                  refine pk_aload_n dX7_readsLine_92 rfl ?_
                  refine pk_dup dX7_readsLine_93 rfl ?_
                  refine pk_getN dX7_readsLine_94 fl_X7_258 rfl (hWN.s rfl) (pk_gS0 (by omega) (pk_gS0 (by omega) hN12)) ?_
                  refine pk_iconst (v := nI 1) dX7_readsLine_97 (by decide) ?_
                  first | refine pk_addN dX7_readsLine_98 ?_ | refine pk_iadd dX7_readsLine_98 ?_
                  refine pk_putI dX7_readsLine_99 fl_X7_258 rfl rfl rfl rfl (hWN.s rfl) ?_
                  refine pk_iload_n dX7_readsLine_102 rfl ?_
                  refine pk_reti dX7_readsLine_103 (by first | rfl | exact pk_nbi _) ?_
                  have hF3 : pk_fr (fun q => q = 103 ∨ q = 111) M (pk_sI (pk_sI (pk_sI N 103 9 (nI (sp_bk f n x1))) 103 11 (nI k)) 103 12 (nI (l + 1))) := hF.tr ((pk_fr.sI (Or.inl rfl)).tr ((pk_fr.sI (Or.inl rfl)).tr (pk_fr.sI (Or.inl rfl))))
                  have ho3 : ∀ j, j ≠ 9 → j ≠ 11 → j ≠ 12 → j ≠ 13 → pk_I (pk_sI (pk_sI (pk_sI N 103 9 (nI (sp_bk f n x1))) 103 11 (nI k)) 103 12 (nI (l + 1))) 103 j = pk_I M 103 j := fun j a b c d => pk_gS0 (by omega) (pk_gS0 (by omega) (pk_gS0 (by omega) (ho j a d)))
                  have hp9 : pk_I (pk_sI (pk_sI (pk_sI N 103 9 (nI (sp_bk f n x1))) 103 11 (nI k)) 103 12 (nI (l + 1))) 103 9 = nI (sp_bk f n x1) := pk_gS0 (by omega) (pk_gS0 (by omega) (pk_gS1 rfl rfl rfl))
                  have hk0 : k ≠ 0 := fun e => c_57 (by rw [e]; decide)
                  have he : sp_el w l k = false := by
                    unfold sp_el
                    rw [beq_eq_false_iff_ne.mpr c_64, beq_eq_false_iff_ne.mpr c_75]
                    simp
                  exact ⟨false, rfl, hF3, ho3, fun _ => ⟨_, sp_rd_el0 hx3 hrd c_32 he, hp9⟩, fun h => (by cases h)⟩
                · refine pk_iconst (v := nI 1) dX7_readsLine_78 (by decide) ?_
                  refine pk_goto (tgt := 83) dX7_readsLine_79 (by decide) ?_
                  refine pk_istore_n dX7_readsLine_83 rfl rfl ?_
                  refine pk_aload_n dX7_readsLine_84 rfl ?_
                  refine pk_aload_n dX7_readsLine_85 rfl ?_
                  refine pk_getN dX7_readsLine_86 fl_X7_261 rfl (hWN.s rfl) (pk_gS0 (by omega) hk13) ?_
                  refine pk_putI dX7_readsLine_89 fl_X7_264 rfl rfl rfl rfl (hWN.s rfl) ?_
                  refine pk_aload_n dX7_readsLine_92 rfl ?_
                  refine pk_dup dX7_readsLine_93 rfl ?_
                  refine pk_getN dX7_readsLine_94 fl_X7_258 rfl (hWN.s rfl) (pk_gS0 (by omega) (pk_gS0 (by omega) hN12)) ?_
                  refine pk_iconst (v := nI 1) dX7_readsLine_97 (by decide) ?_
                  first | refine pk_addN dX7_readsLine_98 ?_ | refine pk_iadd dX7_readsLine_98 ?_
                  refine pk_putI dX7_readsLine_99 fl_X7_258 rfl rfl rfl rfl (hWN.s rfl) ?_
                  refine pk_iload_n dX7_readsLine_102 rfl ?_
                  refine pk_reti dX7_readsLine_103 (by first | rfl | exact pk_nbi _) ?_
                  have hF3 : pk_fr (fun q => q = 103 ∨ q = 111) M (pk_sI (pk_sI (pk_sI N 103 9 (nI (sp_bk f n x1))) 103 11 (nI k)) 103 12 (nI (l + 1))) := hF.tr ((pk_fr.sI (Or.inl rfl)).tr ((pk_fr.sI (Or.inl rfl)).tr (pk_fr.sI (Or.inl rfl))))
                  have ho3 : ∀ j, j ≠ 9 → j ≠ 11 → j ≠ 12 → j ≠ 13 → pk_I (pk_sI (pk_sI (pk_sI N 103 9 (nI (sp_bk f n x1))) 103 11 (nI k)) 103 12 (nI (l + 1))) 103 j = pk_I M 103 j := fun j a b c d => pk_gS0 (by omega) (pk_gS0 (by omega) (pk_gS0 (by omega) (ho j a d)))
                  have hp9 : pk_I (pk_sI (pk_sI (pk_sI N 103 9 (nI (sp_bk f n x1))) 103 11 (nI k)) 103 12 (nI (l + 1))) 103 9 = nI (sp_bk f n x1) := pk_gS0 (by omega) (pk_gS0 (by omega) (pk_gS1 rfl rfl rfl))
                  have hk0 : k ≠ 0 := fun e => c_57 (by rw [e]; decide)
                  have he : sp_el w l k = true := by
                    unfold sp_el
                    rw [beq_eq_false_iff_ne.mpr hk0, beq_iff_eq.mpr c_75, Bool.or_true]
                    rfl
                  refine ⟨true, rfl, hF3, ho3, fun h => (by cases h), fun _ => ⟨(sp_bk f n x1), k, g1, v, sp_rd_el1 hx3 hu1 (by omega) hl6 hrd c_32 he, by omega, hp9, pk_gS0 (by omega) (pk_gS1 rfl rfl rfl), pk_gS1 rfl rfl rfl, fun q q1 q2 => pk_gS0 (by omega) (pk_gS0 (by omega) (pk_gS0 (by omega) (hl q ?_)))⟩⟩
                  have hel := sp_el_of he
                  omega
        · have hR0 := sp_isR_of c_32
          refine pk_aload_n dX7_readsLine_35 rfl ?_
          refine pk_iload_n dX7_readsLine_36 rfl ?_
          refine pk_aload_n dX7_readsLine_37 rfl ?_
          refine pk_getN dX7_readsLine_38 fl_X7_261 rfl (hWN.s rfl) (pk_gS0 (by omega) hk13) ?_
          first | refine pk_subN dX7_readsLine_41 (by omega) ?_ | refine pk_isub dX7_readsLine_41 ?_
          refine pk_Vg dX7_readsLine_42 ml_X7_271 yw_X7_readsRun yv_X7_readsRun (hWN.s rfl) (e_X7_readsRun (M := (pk_sI N 103 9 (nI (sp_bk f n x1)))) (y := (sp_bk f n x1)) (w := w) (l := l) (k := k) hWN (pk_gS0 (by omega) hNn) hn2 (fun i hi => pk_gS0 (by omega) (hNf i hi)) hf2 (pk_gS1 rfl rfl rfl) hyf (sp_ltr_lt hR0.1) (pk_gS0 (by omega) hN12) (pk_gS0 (by omega) hk13) hl6 hlim hkl) rfl rfl rfl rfl rfl rfl rfl (fun v0 M1 hv => ?_)
          obtain ⟨hv1, hF1, ho1, h91, hso1⟩ := hv
          cases hv1
          refine pk_istore_n dX7_readsLine_45 rfl rfl ?_
          refine pk_goto (tgt := 24) dX7_readsLine_46 (by decide) ?_
          cases hso : (sp_rr f n (sp_ltr f n (sp_bk f n x1)) (sp_bk f n x1) w l k).1 with
          | none =>
            exact K (false, (0, 0, g1, 0), M1) ⟨hF.tr ((pk_fr.sI (Or.inl rfl)).tr hF1), fun j a b => (ho1 j a b).trans (pk_gS0 (by omega) (ho j a b)), fun _ => ⟨_, sp_rd_none hn2 hrd c_32 hso, h91⟩, fun h => (by cases h)⟩ (by dsimp only; rw [if_neg (by decide), if_pos rfl]; omega)
          | some so =>
            have q5 := (sp_rr_ok (f := f) (c := (sp_ltr f n (sp_bk f n x1))) (w := w) (l := l) (k := k) (sp_ltr_lt hR0.1)).1
            have hk2 := (sp_rr_ok (f := f) (c := (sp_ltr f n (sp_bk f n x1))) (w := w) (l := l) (k := k) (sp_ltr_lt hR0.1)).2 so.1 so.2 hso
            obtain ⟨g13, g111⟩ := hso1 so.1 so.2 hso
            exact K (true, ((sp_rr f n (sp_ltr f n (sp_bk f n x1)) (sp_bk f n x1) w l k).2, k + so.2, sp_wr g1 (l * 8 + k) so.1 so.2, v), M1) ⟨hF.tr ((pk_fr.sI (Or.inl rfl)).tr hF1), fun j a b => (ho1 j a b).trans (pk_gS0 (by omega) (ho j a b)), fun h => (by cases h), fun _ => ⟨sp_rd_some hrd c_32 hso, by dsimp only; omega, by dsimp only; omega, q5, hk2.2.2.2.1, h91, g13, fun q hq => by
              rw [g111 q]
              dsimp only at hq ⊢
              unfold sp_wr
              by_cases e : l * 8 + k ≤ q ∧ q < l * 8 + k + so.2
              · rw [if_pos e, if_pos e]
              · rw [if_neg e, if_neg e]
                exact pk_gS0 (by omega) (hl q (by omega))⟩⟩ (by dsimp only; rw [if_pos rfl, if_pos rfl]; omega)
