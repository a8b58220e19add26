/-! The model: texts. -/
theorem sp_text_0 (f : Nat → Nat) (n : Nat) : sp_rd f n 101 (0, 0, 0, 0, fun _ => 0) = sp_text f n := by
  unfold sp_text sp_z0
  rfl

set_option maxRecDepth 100000 in
set_option maxHeartbeats 4000000 in
theorem e_X7_isText {Γ : pk_T} {M : pk_M} {L n : Nat} {f : Nat → Nat} (hW : pk_WF L M) (hn : pk_I M 103 8 = nI n) (hn2 : n ≤ 100) (hf : ∀ i, i < n → pk_I M 110 i = nI (f i)) (hf2 : ∀ i, i < n → f i ≤ 126) : pk_E Γ yX7_isText cX7_isText 2 (some .boolean) 4 0 0 M [.ref 103] (fun r M' => r = some (.int (pk_bi (sp_text f n).1)) ∧ pk_fr (fun q => q = 103 ∨ q = 111) M M' ∧ (∀ j, j ≠ 9 → j ≠ 11 → j ≠ 12 → j ≠ 13 → pk_I M' 103 j = pk_I M 103 j) ∧ (∃ p, pk_I M' 103 9 = nI p ∧ sp_bk f n p = p ∧ p ≤ n ∧ ((sp_text f n).1 = false → (sp_text f n).2.1 = p)) ∧ ((sp_text f n).1 = true → pk_I M' 103 11 = nI (sp_text f n).2.2.1 ∧ pk_I M' 103 12 = nI (sp_text f n).2.2.2.1 ∧ ∀ q, q / 8 < (sp_text f n).2.2.2.1 → q % 8 < (sp_text f n).2.2.1 → pk_I M' 111 q = nI ((sp_text f n).2.2.2.2.2 q))) := by
  refine pk_meth (own := RX7) (ini := false) [some (.ref 103), none] (by decide +kernel) rfl (by decide +kernel) rfl rfl ?_
  refine pk_aload_n dX7_isText_0 rfl ?_
  refine pk_iconst (v := nI 0) dX7_isText_1 (by decide) ?_
  refine pk_putI dX7_isText_2 fl_X7_241 rfl rfl rfl rfl (hW.s rfl) ?_
  refine pk_aload_n dX7_isText_5 rfl ?_
  refine pk_iconst (v := nI 0) dX7_isText_6 (by decide) ?_
  refine pk_putI dX7_isText_7 fl_X7_258 rfl rfl rfl rfl (hW.s rfl) ?_
  refine pk_aload_n dX7_isText_10 rfl ?_
  refine pk_Vg dX7_isText_11 ml_X7_274 yw_X7_readsLine yv_X7_readsLine (hW.s rfl) (e_X7_readsLine (M := (pk_sI (pk_sI M 103 9 (nI 0)) 103 12 (nI 0))) (x := 0) (w := 0) (l := 0) (t := 101) (g := fun _ => 0) (R := (sp_text f n)) hW (pk_gS0 (by omega) (pk_gS0 (by omega) hn)) hn2 (fun i hi => pk_gS0 (by omega) (pk_gS0 (by omega) (hf i hi))) hf2 (pk_gS0 (by omega) (pk_gS1 rfl rfl rfl)) (Nat.zero_le n) (pk_gS1 rfl rfl rfl) (fun h => absurd rfl h) (by decide) (fun h => absurd rfl h) (fun q h => absurd h (Nat.not_lt_zero _)) (sp_text_0 f n) (by omega)) rfl rfl rfl rfl rfl rfl rfl (fun v0 M1 hv => ?_)
  obtain ⟨ok, hv1, hF1, ho1, hb1, hg1⟩ := hv
  cases hv1
  refine pk_istore_n dX7_isText_14 rfl rfl ?_
  have hstart : ∃ Z : Nat × Nat × Nat × (Nat → Nat) × Nat, (fun z : Bool × (Nat × Nat × Nat × (Nat → Nat) × Nat) × pk_M => pk_fr (fun q => q = 103 ∨ q = 111) M z.2.2 ∧ (∀ j, j ≠ 9 → j ≠ 11 → j ≠ 12 → j ≠ 13 → pk_I z.2.2 103 j = pk_I M 103 j) ∧ (z.1 = false → ∃ p, pm_bad (sp_text f n) f n p ∧ pk_I z.2.2 103 9 = nI p) ∧ (z.1 = true → pm_ln (sp_text f n) f n z.2.1.1 z.2.1.2.1 z.2.1.2.2.1 z.2.1.2.2.2.1 z.2.1.2.2.2.2 ∧ pk_I z.2.2 103 9 = nI z.2.1.1 ∧ pk_I z.2.2 103 11 = nI z.2.1.2.1 ∧ pk_I z.2.2 103 12 = nI z.2.1.2.2.1 ∧ ∀ q, q / 8 < z.2.1.2.2.1 → q % 8 < z.2.1.2.1 → pk_I z.2.2 111 q = nI (z.2.1.2.2.2.1 q))) (ok, Z, M1) := by
    have hFx : pk_fr (fun q => q = 103 ∨ q = 111) M M1 := ((pk_fr.sI (Or.inl rfl)).tr (pk_fr.sI (Or.inl rfl))).tr hF1
    have hox : (∀ j, j ≠ 9 → j ≠ 11 → j ≠ 12 → j ≠ 13 → pk_I M1 103 j = pk_I M 103 j) := fun j a b c d => (ho1 j a b c d).trans (pk_gS0 (by omega) (pk_gS0 (by omega) rfl))
    cases ok with
    | false => exact ⟨(0, 0, 0, fun _ => 0, 0), hFx, hox, fun _ => hb1 rfl, fun h => (by cases h)⟩
    | true =>
      obtain ⟨y', k', g', u', q1, q2, q3, q4, q5, q6⟩ := hg1 rfl
      exact ⟨(y', k', 0 + 1, g', u'), hFx, hox, fun h => (by cases h), fun _ => ⟨q1, q3, q4, q5, q6⟩⟩
  obtain ⟨Z, hZ⟩ := hstart
  clear hF1 ho1 hb1 hg1
  refine pk_wf (fun z : Bool × (Nat × Nat × Nat × (Nat → Nat) × Nat) × pk_M => if z.1 = true then n - z.2.1.1 + 1 else 0) (fun z : Bool × (Nat × Nat × Nat × (Nat → Nat) × Nat) × pk_M => pk_fr (fun q => q = 103 ∨ q = 111) M z.2.2 ∧ (∀ j, j ≠ 9 → j ≠ 11 → j ≠ 12 → j ≠ 13 → pk_I z.2.2 103 j = pk_I M 103 j) ∧ (z.1 = false → ∃ p, pm_bad (sp_text f n) f n p ∧ pk_I z.2.2 103 9 = nI p) ∧ (z.1 = true → pm_ln (sp_text f n) f n z.2.1.1 z.2.1.2.1 z.2.1.2.2.1 z.2.1.2.2.2.1 z.2.1.2.2.2.2 ∧ pk_I z.2.2 103 9 = nI z.2.1.1 ∧ pk_I z.2.2 103 11 = nI z.2.1.2.1 ∧ pk_I z.2.2 103 12 = nI z.2.1.2.2.1 ∧ ∀ q, q / 8 < z.2.1.2.2.1 → q % 8 < z.2.1.2.1 → pk_I z.2.2 111 q = nI (z.2.1.2.2.2.1 q))) (fun z => z.2.2) (fun z => [some (.ref 103), some (.int (pk_bi z.1))]) ?_ (ok, Z, M1) hZ
  rintro ⟨b, ⟨y, k, l, g, u⟩, N⟩ ⟨hF, ho, hbad, hgood⟩ K
  dsimp only at hF ho hbad hgood K ⊢
  have hWN := hF.wf hW
  cases b with
  | false =>
    refine pk_iload_n dX7_isText_15 rfl ?_
    refine pk_eqb (tgt := 55) dX7_isText_16 (by decide) (fun c_16 => ?_) (fun c_16 => ?_)
    · refine pk_iload_n dX7_isText_55 rfl ?_
      refine pk_eqb (tgt := 70) dX7_isText_56 (by decide) (fun c_56 => ?_) (fun c_56 => ?_)
      · refine pk_iconst (v := nI 0) dX7_isText_70 (by decide) ?_
        refine pk_reti dX7_isText_71 (by first | rfl | exact pk_nbi _) ?_
        obtain ⟨p, hp1, hp2⟩ := hbad rfl
        rw [hp1.1]
        exact ⟨rfl, hF, ho, ⟨p, hp2, hp1.2.2.1, hp1.2.2.2, fun _ => hp1.2.1⟩, fun h => (by cases h)⟩
      · exact absurd c_56 (by decide)
    · exact absurd c_16 (by decide)
  | true =>
    obtain ⟨hln, h9, h11, h12, hl⟩ := hgood rfl
    have hyf := hln.1
    have hyn := hln.2.1
    have hk8 := hln.2.2.1
    have hl6 := hln.2.2.2.1
    have hcl := sp_ltr_le hf2 y
    have hNn : pk_I N 103 8 = nI n := (ho 8 (by decide) (by decide) (by decide) (by decide)).trans hn
    have hNf : ∀ i, i < n → pk_I N 110 i = nI (f i) := fun i hi => (hF.I (by omega) i).trans (hf i hi)
    refine pk_iload_n dX7_isText_15 rfl ?_
    refine pk_eqb (tgt := 55) dX7_isText_16 (by decide) (fun c_16 => ?_) (fun c_16 => ?_)
    · exact absurd c_16 (by decide)
    · refine pk_aload_n dX7_isText_19 rfl ?_
      refine pk_getN dX7_isText_20 fl_X7_258 rfl (hWN.s rfl) h12 ?_
      refine pk_bipush (v := nI 6) dX7_isText_23 (by decide) ?_
      first | refine pk_geN (tgt := 55) dX7_isText_25 (by decide) (by omega) (by omega) (fun c_25 => ?_) (fun c_25 => ?_) | refine pk_icmp_ge (tgt := 55) dX7_isText_25 (by decide) (fun c_25 => ?_) (fun c_25 => ?_)
      · refine pk_iload_n dX7_isText_55 rfl ?_
        refine pk_eqb (tgt := 70) dX7_isText_56 (by decide) (fun c_56 => ?_) (fun c_56 => ?_)
        · exact absurd c_56 (by decide)
        · refine pk_aload_n dX7_isText_59 rfl ?_
          refine pk_Vi dX7_isText_60 ml_X7_244 yw_X7_here yv_X7_here (hWN.s rfl) (e_X7_hereY hWN hNn hn2 hNf hf2 h9 hyn hyf) rfl rfl rfl rfl rfl rfl rfl ?_
          refine pk_ne0N (tgt := 70) dX7_isText_63 (by decide) (by omega) (fun c_63 => ?_) (fun c_63 => ?_)
          · refine pk_iconst (v := nI 0) dX7_isText_70 (by decide) ?_
            refine pk_reti dX7_isText_71 (by first | rfl | exact pk_nbi _) ?_
            obtain ⟨e1, e2⟩ := hln.2.2.2.2.2.2.2 c_63 (fun z => by omega)
            rw [e1]
            exact ⟨rfl, hF, ho, ⟨y, h9, hyf, hyn, fun _ => e2⟩, fun h => (by cases h)⟩
          · refine pk_iconst (v := nI 1) dX7_isText_66 (by decide) ?_
            refine pk_goto (tgt := 71) dX7_isText_67 (by decide) ?_
            refine pk_reti dX7_isText_71 (by first | rfl | exact pk_nbi _) ?_
            have eR := hln.2.2.2.2.2.1 c_63
            rw [eR]
            exact ⟨rfl, hF, ho, ⟨y, h9, hyf, hyn, fun h => (by cases h)⟩, fun _ => ⟨h11, h12, hl⟩⟩
      · refine pk_aload_n dX7_isText_28 rfl ?_
        refine pk_Vi dX7_isText_29 ml_X7_244 yw_X7_here yv_X7_here (hWN.s rfl) (e_X7_hereY hWN hNn hn2 hNf hf2 h9 hyn hyf) rfl rfl rfl rfl rfl rfl rfl ?_
        refine pk_bipush (v := nI 47) dX7_isText_32 (by decide) ?_
        first | refine pk_neN (tgt := 55) dX7_isText_34 (by decide) (by omega) (by omega) (fun c_34 => ?_) (fun c_34 => ?_) | refine pk_icmp_ne (tgt := 55) dX7_isText_34 (by decide) (fun c_34 => ?_) (fun c_34 => ?_)
        · refine pk_iload_n dX7_isText_55 rfl ?_
          refine pk_eqb (tgt := 70) dX7_isText_56 (by decide) (fun c_56 => ?_) (fun c_56 => ?_)
          · exact absurd c_56 (by decide)
          · refine pk_aload_n dX7_isText_59 rfl ?_
            refine pk_Vi dX7_isText_60 ml_X7_244 yw_X7_here yv_X7_here (hWN.s rfl) (e_X7_hereY hWN hNn hn2 hNf hf2 h9 hyn hyf) rfl rfl rfl rfl rfl rfl rfl ?_
            refine pk_ne0N (tgt := 70) dX7_isText_63 (by decide) (by omega) (fun c_63 => ?_) (fun c_63 => ?_)
            · refine pk_iconst (v := nI 0) dX7_isText_70 (by decide) ?_
              refine pk_reti dX7_isText_71 (by first | rfl | exact pk_nbi _) ?_
              obtain ⟨e1, e2⟩ := hln.2.2.2.2.2.2.2 c_63 (fun z => c_34 z.1)
              rw [e1]
              exact ⟨rfl, hF, ho, ⟨y, h9, hyf, hyn, fun _ => e2⟩, fun h => (by cases h)⟩
            · refine pk_iconst (v := nI 1) dX7_isText_66 (by decide) ?_
              refine pk_goto (tgt := 71) dX7_isText_67 (by decide) ?_
              refine pk_reti dX7_isText_71 (by first | rfl | exact pk_nbi _) ?_
              have eR := hln.2.2.2.2.2.1 c_63
              rw [eR]
              exact ⟨rfl, hF, ho, ⟨y, h9, hyf, hyn, fun h => (by cases h)⟩, fun _ => ⟨h11, h12, hl⟩⟩
        · have hyl := sp_ltr_lt (f := f) (n := n) (y := y) (by omega)
          refine pk_aload_n dX7_isText_37 rfl ?_
          refine pk_dup dX7_isText_38 rfl ?_
          refine pk_getN dX7_isText_39 fl_X7_241 rfl (hWN.s rfl) h9 ?_
          refine pk_iconst (v := nI 1) dX7_isText_42 (by decide) ?_
          first | refine pk_addN dX7_isText_43 ?_ | refine pk_iadd dX7_isText_43 ?_
          refine pk_putI dX7_isText_44 fl_X7_241 rfl rfl rfl rfl (hWN.s rfl) ?_
          refine pk_aload_n dX7_isText_47 rfl ?_
          refine pk_Vg dX7_isText_48 ml_X7_274 yw_X7_readsLine yv_X7_readsLine (hWN.s rfl) (e_X7_readsLine (M := (pk_sI N 103 9 (nI (y + 1)))) (x := y + 1) (w := k) (l := l) (t := u) (g := g) (R := (sp_text f n)) hWN (pk_gS0 (by omega) hNn) hn2 (fun i hi => pk_gS0 (by omega) (hNf i hi)) hf2 (pk_gS1 rfl rfl rfl) hyl (pk_gS0 (by omega) h12) (fun _ => pk_gS0 (by omega) h11) (by omega) (fun _ => hk8.2) (fun q a b => pk_gS0 (by omega) (hl q a b)) (hln.2.2.2.2.2.2.1 c_34 (by omega)).symm (hln.2.2.2.2.1 hyl)) rfl rfl rfl rfl rfl rfl rfl (fun v0 M1 hv => ?_)
          obtain ⟨ok, hv1, hF1, ho1, hb1, hg1⟩ := hv
          cases hv1
          refine pk_istore_n dX7_isText_51 rfl rfl ?_
          refine pk_goto (tgt := 15) dX7_isText_52 (by decide) ?_
          cases ok with
          | false =>
            exact K (false, (0, 0, 0, g, 0), M1) ⟨hF.tr ((pk_fr.sI (Or.inl rfl)).tr hF1), fun j a b c d => (ho1 j a b c d).trans (pk_gS0 (by omega) (ho j a b c d)), fun _ => hb1 rfl, fun h => (by cases h)⟩ (by dsimp only; rw [if_neg (by decide), if_pos rfl]; omega)
          | true =>
            obtain ⟨y', k', g', u', q1, q2, q3, q4, q5, q6⟩ := hg1 rfl
            exact K (true, (y', k', l + 1, g', u'), M1) ⟨hF.tr ((pk_fr.sI (Or.inl rfl)).tr hF1), fun j a b c d => (ho1 j a b c d).trans (pk_gS0 (by omega) (ho j a b c d)), fun h => (by cases h), fun _ => ⟨q1, q3, q4, q5, q6⟩⟩ (by dsimp only; rw [if_pos rfl, if_pos rfl]; omega)
