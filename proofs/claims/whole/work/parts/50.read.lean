/-! Tape: reading it whole. -/
abbrev sp_Z : Type := Nat × Nat × Nat × Nat × (Nat → Nat)
def sp_rd (f : Nat → Nat) (n : Nat) : Nat → sp_Z → Bool × sp_Z
  | 0, z => (false, z)
  | t + 1, z =>
    if sp_ltr f n (sp_bk f n z.1) = 0 then (sp_el z.2.1 z.2.2.1 z.2.2.2.1, (sp_bk f n z.1, z.2.2.2.1, z.2.2.1 + 1, 0, z.2.2.2.2))
    else if sp_ltr f n (sp_bk f n z.1) = 47 then (if sp_el z.2.1 z.2.2.1 z.2.2.2.1 = true ∧ z.2.2.1 + 1 < 6 then sp_rd f n t (sp_bk f n z.1 + 1, z.2.2.2.1, z.2.2.1 + 1, 0, z.2.2.2.2) else (false, (sp_bk f n z.1, z.2)))
    else match (sp_rr f n (sp_ltr f n (sp_bk f n z.1)) (sp_bk f n z.1) z.2.1 z.2.2.1 z.2.2.2.1).1 with
      | some so => sp_rd f n t ((sp_rr f n (sp_ltr f n (sp_bk f n z.1)) (sp_bk f n z.1) z.2.1 z.2.2.1 z.2.2.2.1).2, z.2.1, z.2.2.1, z.2.2.2.1 + so.2, sp_wr z.2.2.2.2 (z.2.2.1 * 8 + z.2.2.2.1) so.1 so.2)
      | none => (false, ((sp_rr f n (sp_ltr f n (sp_bk f n z.1)) (sp_bk f n z.1) z.2.1 z.2.2.1 z.2.2.2.1).2, z.2))
def sp_z0 : sp_Z := (0, 0, 0, 0, fun _ => 0)
def sp_text (f : Nat → Nat) (n : Nat) : Bool × sp_Z := sp_rd f n 101 sp_z0
theorem sp_rr_op {f : Nat → Nat} {n c x w l k : Nat} (hx : x < n) (hw : w ≤ 8) {so : Nat × Nat} (h : (sp_rr f n c x w l k).1 = some so) : so.1 < 32 ∧ 1 ≤ so.2 ∧ k + so.2 ≤ 8 ∧ x < (sp_rr f n c x w l k).2 ∧ (sp_rr f n c x w l k).2 ≤ n := by
  obtain ⟨h1, h2⟩ := sp_rr_ok (f := f) (c := c) (w := w) (l := l) (k := k) hx
  obtain ⟨s, o⟩ := so
  obtain ⟨g1, g2, g3, g4, g5⟩ := h2 s o h
  refine ⟨g1, g2, ?_, g5, h1⟩
  unfold sp_lim at g4
  dsimp only
  split at g4 <;> omega

set_option maxRecDepth 100000 in
set_option maxHeartbeats 4000000 in
theorem e_X5_read {Γ : pk_T} {M : pk_M} {L n : Nat} {f : Nat → Nat} (hW : pk_WF L M) (hn : pk_I M 88 2 = nI n) (hn2 : n ≤ 100) (hf : ∀ i, i < n → pk_I M 89 i = nI (f i)) (hf2 : ∀ i, i < n → f i ≤ 126) : pk_E Γ yX5_read cX5_read 4 (some .boolean) 5 0 0 M [.ref 88] (fun r M' => r = some (.int (pk_bi (sp_text f n).1)) ∧ pk_fr pk_tD M M' ∧ pk_I M' 88 3 = nI (sp_text f n).2.1 ∧ ((sp_text f n).1 = true → pk_I M' 88 4 = nI (sp_text f n).2.2.1 ∧ pk_I M' 88 5 = nI (sp_text f n).2.2.2.1 ∧ ∀ q, q < 48 → pk_I M' 90 q = nI ((sp_text f n).2.2.2.2.2 q))) := by
  refine pk_meth (own := RX5) (ini := false) [some (.ref 88), none, none, none] (by decide +kernel) rfl (by decide +kernel) rfl rfl ?_
  refine pk_aload_n dX5_read_0 rfl ?_
  refine pk_Vg dX5_read_1 ml_X5_38 yw_X5_begin yv_X5_begin (hW.s rfl) (e_X5_begin hW) rfl rfl rfl rfl rfl rfl rfl (fun v M1 hv => ?_)
  obtain ⟨hv1, hv2⟩ := hv
  cases hv1
  have hF0 : pk_fr pk_tD M M1 := by
    rw [hv2]
    exact ((pk_fr.sI (Or.inl rfl)).tr ((pk_fr.sI (Or.inl rfl)).tr ((pk_fr.sI (Or.inl rfl)).tr (pk_fr.sI (Or.inl rfl))))).tr (pk_fr.wI (Or.inr rfl))
  have hT0 : pk_tp M1 f n 0 0 0 0 (fun _ => 0) := by
    rw [hv2]
    exact ⟨pk_gW0 (by omega) (pk_gS0 (by omega) (pk_gS0 (by omega) (pk_gS0 (by omega) (pk_gS0 (by omega) hn)))), fun i hi => pk_gW0 (by omega) (pk_gS0 (by omega) (pk_gS0 (by omega) (pk_gS0 (by omega) (pk_gS0 (by omega) (hf i hi))))), pk_gW0 (by omega) (pk_gS0 (by omega) (pk_gS0 (by omega) (pk_gS0 (by omega) (pk_gS1 rfl rfl rfl)))), pk_gW0 (by omega) (pk_gS0 (by omega) (pk_gS0 (by omega) (pk_gS1 rfl rfl rfl))), pk_gW0 (by omega) (pk_gS0 (by omega) (pk_gS1 rfl rfl rfl)), pk_gW0 (by omega) (pk_gS1 rfl rfl rfl), fun q hq => pk_gW1 rfl (if_pos hq)⟩
  clear hv2
  refine pk_iconst (v := nI 0) dX5_read_4 (by decide) ?_
  refine pk_istore_n dX5_read_5 rfl rfl ?_
  refine pk_wf (fun z => 101 - z.1) (fun z : Nat × sp_Z × pk_M => sp_rd f n (101 - z.1) z.2.1 = sp_text f n ∧ pk_fr pk_tD M z.2.2 ∧ pk_tp z.2.2 f n z.2.1.1 z.2.1.2.1 z.2.1.2.2.1 z.2.1.2.2.2.1 z.2.1.2.2.2.2 ∧ z.2.1.1 ≤ n ∧ n - z.2.1.1 < 101 - z.1 ∧ z.2.1.2.1 ≤ 8 ∧ z.2.1.2.2.1 < 6 ∧ z.2.1.2.2.2.1 ≤ 8) (fun z => z.2.2) (fun z => [some (.ref 88), some (.int (nI z.1)), none, none]) ?_ (0, sp_z0, M1) ⟨rfl, hF0, hT0, Nat.zero_le n, by dsimp only [sp_z0]; omega, by dsimp only [sp_z0]; omega, by dsimp only [sp_z0]; omega, by dsimp only [sp_z0]; omega⟩
  rintro ⟨t, ⟨x, w, l, k, g⟩, N⟩ ⟨h1, hF, hT, hxn, hnt, hw8, hl6, hk8⟩ K
  dsimp only at h1 hF hT hxn hnt hw8 hl6 hk8 K ⊢
  have hWN := hF.wf hW
  obtain ⟨u, hu⟩ : ∃ u, 101 - t = u + 1 := ⟨100 - t, by omega⟩
  rw [hu, sp_rd] at h1
  dsimp only at h1
  have hyl := sp_bk_le (f := f) hxn
  have hyg := sp_bk_ge f n x
  have hcl := sp_ltr_le hf2 (sp_bk f n x)
  refine pk_iload_n dX5_read_6 rfl ?_
  refine pk_bipush (v := nI 100) dX5_read_7 (by decide) ?_
  first | refine pk_gtN (tgt := 90) dX5_read_9 (by decide) (by omega) (by omega) (fun c_9 => ?_) (fun c_9 => ?_) | refine pk_icmp_gt (tgt := 90) dX5_read_9 (by decide) (fun c_9 => ?_) (fun c_9 => ?_)
  · omega
  · refine pk_aload_n dX5_read_12 rfl ?_
    refine pk_Vg dX5_read_13 ml_X5_41 yw_X5_letterBehindBlanks yv_X5_letterBehindBlanks (hWN.s rfl) (e_X5_letterBehindBlanks (M := N) (x := x) hWN hT.1 hn2 hT.2.1 hf2 hT.2.2.1 (by omega)) rfl rfl rfl rfl rfl rfl rfl (fun v M1 hv => ?_)
    obtain ⟨hv1, hv2⟩ := hv
    cases hv1
    subst hv2
    have hF1 : pk_fr pk_tD M (pk_sI N 88 3 (nI (sp_bk f n x))) := hF.tr (pk_fr.sI (Or.inl rfl))
    have hT1 := hT.x (sp_bk f n x)
    have hW1 := hF1.wf hW
    refine pk_istore_n dX5_read_16 rfl rfl ?_
    refine pk_iload_n dX5_read_17 rfl ?_
    refine pk_ne0N (tgt := 26) dX5_read_18 (by decide) (by omega) (fun c_18 => ?_) (fun c_18 => ?_)
    · have hyn := sp_ltr_lt c_18
      refine pk_iload_n dX5_read_26 rfl ?_
      refine pk_bipush (v := nI 47) dX5_read_27 (by decide) ?_
      first | refine pk_neN (tgt := 56) dX5_read_29 (by decide) (by omega) (by omega) (fun c_29 => ?_) (fun c_29 => ?_) | refine pk_icmp_ne (tgt := 56) dX5_read_29 (by decide) (fun c_29 => ?_) (fun c_29 => ?_)
      · refine pk_aload_n dX5_read_56 rfl ?_
        refine pk_iload_n dX5_read_57 rfl ?_
        refine pk_Vg dX5_read_58 ml_X5_49 yw_X5_readRun yv_X5_readRun (hW1.s rfl) (e_X5_readRun hW1 hT1 hn2 hf2 (sp_ltr_le hf2 _) (sp_ltr_lt c_18) (by omega) (by omega) (by omega)) rfl rfl rfl rfl rfl rfl rfl (fun v M1 hv => ?_)
        obtain ⟨hv1, hFr, hSo, hNo⟩ := hv
        cases hv1
        have hF2 := hF1.tr hFr
        have hW2 := hF2.wf hW
        refine pk_istore_n dX5_read_61 rfl rfl ?_
        refine pk_iload_n dX5_read_62 rfl ?_
        refine pk_neb (tgt := 68) dX5_read_63 (by decide) (fun c_63 => ?_) (fun c_63 => ?_)
        · refine pk_iload_n dX5_read_68 rfl ?_
          refine pk_bipush (v := nI 47) dX5_read_69 (by decide) ?_
          first | refine pk_neN (tgt := 84) dX5_read_71 (by decide) (by omega) (by omega) (fun c_71 => ?_) (fun c_71 => ?_) | refine pk_icmp_ne (tgt := 84) dX5_read_71 (by decide) (fun c_71 => ?_) (fun c_71 => ?_)
          · first | refine pk_inc1 dX5_read_84 rfl rfl ?_ | refine pk_iinc dX5_read_84 rfl rfl rfl ?_
            refine pk_goto (tgt := 6) dX5_read_87 (by decide) ?_
            obtain ⟨so, hso⟩ := Option.isSome_iff_exists.mp c_63
            have hro := sp_rr_op (sp_ltr_lt c_18) (by omega) hso
            rw [if_neg c_18, if_neg c_29, hso] at h1
            dsimp only at h1
            exact pk_fgt (by repeat first | exact trivial | refine ⟨rfl, ?_⟩) (K (t + 1, ((sp_rr f n (sp_ltr f n (sp_bk f n x)) (sp_bk f n x) w l k).2, w, l, k + so.2, sp_wr g (l * 8 + k) so.1 so.2), M1) ⟨by dsimp only; rw [show 101 - (t + 1) = u by omega]; exact h1, hF2, hSo so.1 so.2 hso, by dsimp only; omega, by dsimp only; omega, by dsimp only; omega, by dsimp only; omega, by dsimp only; omega⟩ (by dsimp only; omega))
          · exact absurd c_71 c_29
        · refine pk_iconst (v := nI 0) dX5_read_66 (by decide) ?_
          refine pk_reti dX5_read_67 (by first | rfl | exact pk_nbi _) ?_
          have hno : (sp_rr f n (sp_ltr f n (sp_bk f n x)) (sp_bk f n x) w l k).1 = none := by
            cases h : (sp_rr f n (sp_ltr f n (sp_bk f n x)) (sp_bk f n x) w l k).1 with
            | none => rfl
            | some so => rw [h] at c_63; cases c_63
          rw [if_neg c_18, if_neg c_29, hno] at h1
          dsimp only at h1
          rw [← h1]
          exact ⟨rfl, hF2, hNo hno, fun h => (by cases h)⟩
      · refine pk_aload_n dX5_read_32 rfl ?_
        refine pk_Vg dX5_read_33 ml_X5_45 yw_X5_endLine yv_X5_endLine (hW1.s rfl) (e_X5_endLine hW1 hT1.2.2.2.1 hT1.2.2.2.2.1 hT1.2.2.2.2.2.1 (by omega) (by omega) (by omega)) rfl rfl rfl rfl rfl rfl rfl (fun v M1 hv => ?_)
        obtain ⟨hv1, hv2⟩ := hv
        cases hv1
        first | refine pk_eqb (tgt := 52) dX5_read_36 (by decide) (fun c_36 => ?_) (fun c_36 => ?_) | refine pk_eq0N (tgt := 52) dX5_read_36 (by decide) (by omega) (fun c_36 => ?_) (fun c_36 => ?_) | refine pk_if_eq (tgt := 52) dX5_read_36 (by decide) (fun c_36 => ?_) (fun c_36 => ?_)
        · rw [if_neg (by rw [c_36]; decide)] at hv2
          subst hv2
          refine pk_iconst (v := nI 0) dX5_read_52 (by decide) ?_
          refine pk_goto (tgt := 61) dX5_read_53 (by decide) ?_
          refine pk_istore_n dX5_read_61 rfl rfl ?_
          refine pk_iload_n dX5_read_62 rfl ?_
          refine pk_ne0N (a := 0) (tgt := 68) dX5_read_63 (by decide) (by decide) (fun c_63 => ?_) (fun c_63 => ?_)
          · exact absurd rfl c_63
          · refine pk_iconst (v := nI 0) dX5_read_66 (by decide) ?_
            refine pk_reti dX5_read_67 (by first | rfl | exact pk_nbi _) ?_
            rw [if_neg c_18, if_pos c_29, if_neg (fun h => by rw [h.1] at c_36; cases c_36)] at h1
            rw [← h1]
            exact ⟨rfl, hF1, hT1.2.2.1, fun h => (by cases h)⟩
        · rw [if_pos c_36] at hv2
          subst hv2
          have hW3 : pk_WF L (pk_sI (pk_sI (pk_sI (pk_sI N 88 3 (nI (sp_bk f n x))) 88 4 (nI k)) 88 6 (nI 0)) 88 5 (nI (l + 1))) := hW1.to rfl rfl
          refine pk_aload_n dX5_read_39 rfl ?_
          refine pk_getN dX5_read_40 fl_X5_28 rfl (hW3.s rfl) (pk_gS1 rfl rfl rfl) ?_
          refine pk_bipush (v := nI 6) dX5_read_43 (by decide) ?_
          first | refine pk_geN (tgt := 52) dX5_read_45 (by decide) (by omega) (by omega) (fun c_45 => ?_) (fun c_45 => ?_) | refine pk_icmp_ge (tgt := 52) dX5_read_45 (by decide) (fun c_45 => ?_) (fun c_45 => ?_)
          · refine pk_iconst (v := nI 0) dX5_read_52 (by decide) ?_
            refine pk_goto (tgt := 61) dX5_read_53 (by decide) ?_
            refine pk_istore_n dX5_read_61 rfl rfl ?_
            refine pk_iload_n dX5_read_62 rfl ?_
            refine pk_ne0N (a := 0) (tgt := 68) dX5_read_63 (by decide) (by decide) (fun c_63 => ?_) (fun c_63 => ?_)
            · exact absurd rfl c_63
            · refine pk_iconst (v := nI 0) dX5_read_66 (by decide) ?_
              refine pk_reti dX5_read_67 (by first | rfl | exact pk_nbi _) ?_
              rw [if_neg c_18, if_pos c_29, if_neg (fun h => by have := h.2; omega)] at h1
              rw [← h1]
              exact ⟨rfl, hF1.tr ((pk_fr.sI (Or.inl rfl)).tr ((pk_fr.sI (Or.inl rfl)).tr (pk_fr.sI (Or.inl rfl)))), pk_gS0 (by omega) (pk_gS0 (by omega) (pk_gS0 (by omega) hT1.2.2.1)), fun h => (by cases h)⟩
          · refine pk_iconst (v := nI 1) dX5_read_48 (by decide) ?_
            refine pk_goto (tgt := 61) dX5_read_49 (by decide) ?_
            refine pk_istore_n dX5_read_61 rfl rfl ?_
            refine pk_iload_n dX5_read_62 rfl ?_
            refine pk_ne0N (a := 1) (tgt := 68) dX5_read_63 (by decide) (by decide) (fun c_63 => ?_) (fun c_63 => ?_)
            · refine pk_iload_n dX5_read_68 rfl ?_
              refine pk_bipush (v := nI 47) dX5_read_69 (by decide) ?_
              first | refine pk_neN (tgt := 84) dX5_read_71 (by decide) (by omega) (by omega) (fun c_71 => ?_) (fun c_71 => ?_) | refine pk_icmp_ne (tgt := 84) dX5_read_71 (by decide) (fun c_71 => ?_) (fun c_71 => ?_)
              · exact absurd c_29 c_71
              · refine pk_aload_n dX5_read_74 rfl ?_
                refine pk_dup dX5_read_75 rfl ?_
                refine pk_getN dX5_read_76 fl_X5_22 rfl (hW3.s rfl) (pk_gS0 (by omega) (pk_gS0 (by omega) (pk_gS0 (by omega) hT1.2.2.1))) ?_
                refine pk_iconst (v := nI 1) dX5_read_79 (by decide) ?_
                first | refine pk_addN dX5_read_80 ?_ | refine pk_iadd dX5_read_80 ?_
                refine pk_putI dX5_read_81 fl_X5_22 rfl rfl rfl rfl (hW3.s rfl) ?_
                first | refine pk_inc1 dX5_read_84 rfl rfl ?_ | refine pk_iinc dX5_read_84 rfl rfl rfl ?_
                refine pk_goto (tgt := 6) dX5_read_87 (by decide) ?_
                rw [if_neg c_18, if_pos c_29, if_pos ⟨c_36, c_45⟩] at h1
                exact pk_fgt (by repeat first | exact trivial | refine ⟨rfl, ?_⟩) (K (t + 1, (sp_bk f n x + 1, k, l + 1, 0, g), _) ⟨by dsimp only; rw [show 101 - (t + 1) = u by omega]; exact h1, hF1.tr (((pk_fr.sI (Or.inl rfl)).tr (pk_fr.sI (Or.inl rfl))).tr ((pk_fr.sI (Or.inl rfl)).tr (pk_fr.sI (Or.inl rfl)))), ⟨pk_gS0 (by omega) (pk_gS0 (by omega) (pk_gS0 (by omega) (pk_gS0 (by omega) hT1.1))), fun i hi => pk_gS0 (by omega) (pk_gS0 (by omega) (pk_gS0 (by omega) (pk_gS0 (by omega) (hT1.2.1 i hi)))), pk_gS1 rfl rfl rfl, pk_gS0 (by omega) (pk_gS0 (by omega) (pk_gS0 (by omega) (pk_gS1 rfl rfl rfl))), pk_gS0 (by omega) (pk_gS1 rfl rfl rfl), pk_gS0 (by omega) (pk_gS0 (by omega) (pk_gS1 rfl rfl rfl)), fun q hq => pk_gS0 (by omega) (pk_gS0 (by omega) (pk_gS0 (by omega) (pk_gS0 (by omega) (hT1.2.2.2.2.2.2 q hq))))⟩, by dsimp only; omega, by dsimp only; omega, by dsimp only; omega, by dsimp only; omega, by dsimp only; omega⟩ (by dsimp only; omega))
            · exact absurd c_63 (by decide)
    · refine pk_aload_n dX5_read_21 rfl ?_
      refine pk_Vg dX5_read_22 ml_X5_45 yw_X5_endLine yv_X5_endLine (hW1.s rfl) (e_X5_endLine hW1 hT1.2.2.2.1 hT1.2.2.2.2.1 hT1.2.2.2.2.2.1 (by omega) (by omega) (by omega)) rfl rfl rfl rfl rfl rfl rfl (fun v M1 hv => ?_)
      obtain ⟨hv1, hv2⟩ := hv
      cases hv1
      refine pk_reti dX5_read_25 (by first | rfl | exact pk_nbi _) ?_
      rw [if_pos c_18] at h1
      rw [← h1]
      cases he : sp_el w l k with
      | false =>
        rw [he, if_neg (by decide)] at hv2
        subst hv2
        exact ⟨rfl, hF1, hT1.2.2.1, fun h => (by cases h)⟩
      | true =>
        rw [he, if_pos rfl] at hv2
        subst hv2
        exact ⟨rfl, hF1.tr ((pk_fr.sI (Or.inl rfl)).tr ((pk_fr.sI (Or.inl rfl)).tr (pk_fr.sI (Or.inl rfl)))), pk_gS0 (by omega) (pk_gS0 (by omega) (pk_gS0 (by omega) hT1.2.2.1)), fun _ => ⟨pk_gS0 (by omega) (pk_gS0 (by omega) (pk_gS1 rfl rfl rfl)), pk_gS1 rfl rfl rfl, fun q hq => pk_gS0 (by omega) (pk_gS0 (by omega) (pk_gS0 (by omega) (hT1.2.2.2.2.2.2 q hq)))⟩⟩
