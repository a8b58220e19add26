/-! Tape: many inks. -/
theorem sp_bl_le {f : Nat → Nat} {n : Nat} (k : Nat) : ∀ x, x ≤ n → sp_bl f n k x ≤ n := by
  induction k with
  | zero => exact fun x h => h
  | succ k ih =>
    intro x h
    rw [sp_bl]
    split
    · exact ih (x + 1) (by omega)
    · exact h
theorem sp_bk_le {f : Nat → Nat} {n x : Nat} (h : x ≤ n) : sp_bk f n x ≤ n := sp_bl_le _ x h
def sp_mi (f : Nat → Nat) (n : Nat) : Nat → Nat → Nat → Option Nat × Nat
  | 0, _, x => (none, x)
  | k + 1, s, x => if sp_ltr f n (sp_bk f n x) = 41 ∧ s ≠ 0 then (some s, sp_bk f n x + 1) else if sp_il (sp_ltr f n (sp_bk f n x)) = false then (none, sp_bk f n x) else sp_mi f n k (s ||| 2 ^ (sp_ltr f n (sp_bk f n x) - 97)) (sp_bk f n x + 1)
def sp_on (o : Option Nat) : Int32 := match o with
  | some s => nI s
  | none => -1

set_option maxRecDepth 100000 in
set_option maxHeartbeats 4000000 in
theorem e_X5_readManyInks {Γ : pk_T} {M : pk_M} {L n x : Nat} {f : Nat → Nat} (hW : pk_WF L M) (hn : pk_I M 88 2 = nI n) (hn2 : n ≤ 100) (hf : ∀ i, i < n → pk_I M 89 i = nI (f i)) (hf2 : ∀ i, i < n → f i ≤ 126) (hx : pk_I M 88 3 = nI x) (hx2 : x ≤ n) : pk_E Γ yX5_readManyInks cX5_readManyInks 4 (some .int) 2 0 0 M [.ref 88] (fun r M' => r = some (.int (sp_on (sp_mi f n 101 0 x).1)) ∧ M' = pk_sI M 88 3 (nI (sp_mi f n 101 0 x).2)) := by
  refine pk_meth (own := RX5) (ini := false) [some (.ref 88), none, none, none] (by decide +kernel) rfl (by decide +kernel) rfl rfl ?_
  refine pk_iconst (v := nI 0) dX5_readManyInks_0 (by decide) ?_
  refine pk_istore_n dX5_readManyInks_1 rfl rfl ?_
  refine pk_iconst (v := nI 0) dX5_readManyInks_2 (by decide) ?_
  refine pk_istore_n dX5_readManyInks_3 rfl rfl ?_
  refine pk_Mq (M' := (pk_sI M 88 3 (nI x))) (pk_sI_id hx).symm ?_
  refine pk_wf (fun z => 101 - z.1) (fun z : Nat × Nat × Nat => sp_mi f n (101 - z.1) z.2.1 z.2.2 = sp_mi f n 101 0 x ∧ z.2.2 ≤ n ∧ z.2.1 < 32 ∧ z.1 ≤ 101) (fun z => (pk_sI M 88 3 (nI z.2.2))) (fun z => [some (.ref 88), some (.int (nI z.2.1)), some (.int (nI z.1)), none]) ?_ (0, 0, x) ⟨rfl, hx2, by dsimp only; omega, by dsimp only; omega⟩
  rintro ⟨t, s, y⟩ ⟨h1, h2, h3, h4⟩ K
  dsimp only at h1 h2 h3 h4 K ⊢
  refine pk_iload_n dX5_readManyInks_4 rfl ?_
  refine pk_bipush (v := nI 100) dX5_readManyInks_5 (by decide) ?_
  first | refine pk_gtN (tgt := 71) dX5_readManyInks_7 (by decide) (by omega) (by omega) (fun c_7 => ?_) (fun c_7 => ?_) | refine pk_icmp_gt (tgt := 71) dX5_readManyInks_7 (by decide) (fun c_7 => ?_) (fun c_7 => ?_)
  · refine pk_iconst (v := -1) dX5_readManyInks_71 (by decide) ?_
    refine pk_reti dX5_readManyInks_72 (by first | rfl | exact pk_nbi _) ?_
    have : 101 - t = 0 := by omega
    rw [this, sp_mi] at h1
    rw [← h1]
    exact ⟨rfl, rfl⟩
  · obtain ⟨k, hk⟩ : ∃ k, 101 - t = k + 1 := ⟨100 - t, by omega⟩
    rw [hk, sp_mi] at h1
    have hyl := sp_bk_le (f := f) h2
    have hcl : sp_ltr f n (sp_bk f n y) ≤ 126 := by
      unfold sp_ltr
      split
      · exact hf2 _ (by assumption)
      · omega
    refine pk_aload_n dX5_readManyInks_10 rfl ?_
    refine pk_Vg dX5_readManyInks_11 ml_X5_41 yw_X5_letterBehindBlanks yv_X5_letterBehindBlanks (hW.s rfl) (e_X5_letterBehindBlanks (M := (pk_sI M 88 3 (nI y))) (x := y) hW (pk_gS0 (by omega) hn) hn2 (fun i hi => pk_gS0 (by omega) (hf i hi)) hf2 (pk_gS1 rfl rfl rfl) (by omega)) rfl rfl rfl rfl rfl rfl rfl (fun v M1 hv => ?_)
    obtain ⟨hv1, hv2⟩ := hv
    rw [pk_sI_sI] at hv2
    cases hv1
    subst hv2
    refine pk_istore_n dX5_readManyInks_14 rfl rfl ?_
    refine pk_iload_n dX5_readManyInks_15 rfl ?_
    refine pk_bipush (v := nI 41) dX5_readManyInks_16 (by decide) ?_
    first | refine pk_neN (tgt := 37) dX5_readManyInks_18 (by decide) (by omega) (by omega) (fun c_18 => ?_) (fun c_18 => ?_) | refine pk_icmp_ne (tgt := 37) dX5_readManyInks_18 (by decide) (fun c_18 => ?_) (fun c_18 => ?_)
    · refine pk_iload_n dX5_readManyInks_37 rfl ?_
      refine pk_Si dX5_readManyInks_38 ml_X5_70 yw_X5_isInkLetter ys_X5_isInkLetter (e_X5_isInkLetter hcl) rfl rfl rfl rfl rfl rfl rfl ?_
      first | refine pk_neb (tgt := 46) dX5_readManyInks_41 (by decide) (fun c_41 => ?_) (fun c_41 => ?_) | refine pk_ne0N (tgt := 46) dX5_readManyInks_41 (by decide) (by omega) (fun c_41 => ?_) (fun c_41 => ?_) | refine pk_if_ne (tgt := 46) dX5_readManyInks_41 (by decide) (fun c_41 => ?_) (fun c_41 => ?_)
      · have hil := c_41
        unfold sp_il at hil
        rw [Bool.and_eq_true, decide_eq_true_eq, decide_eq_true_eq] at hil
        have hyn : sp_bk f n y < n := by
          rcases Nat.lt_or_ge (sp_bk f n y) n with z | z
          · exact z
          · have : sp_ltr f n (sp_bk f n y) = 0 := if_neg (by omega)
            omega
        have hne : ¬ (sp_ltr f n (sp_bk f n y) = 41 ∧ s ≠ 0) := by omega
        rw [if_neg hne, if_neg (by rw [c_41]; decide)] at h1
        have hp2 := pk_p2 (show sp_ltr f n (sp_bk f n y) - 97 < 5 by omega)
        refine pk_iload_n dX5_readManyInks_46 rfl ?_
        refine pk_iconst (v := nI 1) dX5_readManyInks_47 (by decide) ?_
        refine pk_iload_n dX5_readManyInks_48 rfl ?_
        refine pk_bipush (v := nI 97) dX5_readManyInks_49 (by decide) ?_
        first | refine pk_subN dX5_readManyInks_51 (by omega) ?_ | refine pk_isub dX5_readManyInks_51 ?_
        first | refine pk_shlNN dX5_readManyInks_52 (by omega) ?_ | refine pk_ishl dX5_readManyInks_52 ?_
        first | refine pk_orNN dX5_readManyInks_53 ?_ | refine pk_ior dX5_readManyInks_53 ?_
        refine pk_istore_n dX5_readManyInks_54 rfl rfl ?_
        refine pk_aload_n dX5_readManyInks_55 rfl ?_
        refine pk_dup dX5_readManyInks_56 rfl ?_
        refine pk_getN dX5_readManyInks_57 fl_X5_22 rfl (hW.s rfl) (pk_gS1 rfl rfl rfl) ?_
        refine pk_iconst (v := nI 1) dX5_readManyInks_60 (by decide) ?_
        first | refine pk_addN dX5_readManyInks_61 ?_ | refine pk_iadd dX5_readManyInks_61 ?_
        refine pk_putI dX5_readManyInks_62 fl_X5_22 rfl rfl rfl rfl (hW.s rfl) ?_
        rw [pk_sI_sI]
        first | refine pk_inc1 dX5_readManyInks_65 rfl rfl ?_ | refine pk_iinc dX5_readManyInks_65 rfl rfl rfl ?_
        refine pk_goto (tgt := 4) dX5_readManyInks_68 (by decide) ?_
        exact pk_fgt (by repeat first | exact trivial | refine ⟨rfl, ?_⟩) (K (t + 1, s ||| 2 ^ (sp_ltr f n (sp_bk f n y) - 97), sp_bk f n y + 1) ⟨by dsimp only; rw [← h1, show 101 - (t + 1) = k by omega], by dsimp only; omega, Nat.or_lt_two_pow (n := 5) h3 hp2, by dsimp only; omega⟩ (by dsimp only; omega))
      · refine pk_iconst (v := -1) dX5_readManyInks_44 (by decide) ?_
        refine pk_reti dX5_readManyInks_45 (by first | rfl | exact pk_nbi _) ?_
        rw [if_neg (fun h => by first | exact c_18 h.1 | exact h.2 c_22), if_pos c_41] at h1
        rw [← h1]
        exact ⟨rfl, rfl⟩
    · refine pk_iload_n dX5_readManyInks_21 rfl ?_
      first | refine pk_eqb (tgt := 37) dX5_readManyInks_22 (by decide) (fun c_22 => ?_) (fun c_22 => ?_) | refine pk_eq0N (tgt := 37) dX5_readManyInks_22 (by decide) (by omega) (fun c_22 => ?_) (fun c_22 => ?_) | refine pk_if_eq (tgt := 37) dX5_readManyInks_22 (by decide) (fun c_22 => ?_) (fun c_22 => ?_)
      · refine pk_iload_n dX5_readManyInks_37 rfl ?_
        refine pk_Si dX5_readManyInks_38 ml_X5_70 yw_X5_isInkLetter ys_X5_isInkLetter (e_X5_isInkLetter hcl) rfl rfl rfl rfl rfl rfl rfl ?_
        first | refine pk_neb (tgt := 46) dX5_readManyInks_41 (by decide) (fun c_41 => ?_) (fun c_41 => ?_) | refine pk_ne0N (tgt := 46) dX5_readManyInks_41 (by decide) (by omega) (fun c_41 => ?_) (fun c_41 => ?_) | refine pk_if_ne (tgt := 46) dX5_readManyInks_41 (by decide) (fun c_41 => ?_) (fun c_41 => ?_)
        · have hil := c_41
          unfold sp_il at hil
          rw [Bool.and_eq_true, decide_eq_true_eq, decide_eq_true_eq] at hil
          have hyn : sp_bk f n y < n := by
            rcases Nat.lt_or_ge (sp_bk f n y) n with z | z
            · exact z
            · have : sp_ltr f n (sp_bk f n y) = 0 := if_neg (by omega)
              omega
          have hne : ¬ (sp_ltr f n (sp_bk f n y) = 41 ∧ s ≠ 0) := by omega
          rw [if_neg hne, if_neg (by rw [c_41]; decide)] at h1
          have hp2 := pk_p2 (show sp_ltr f n (sp_bk f n y) - 97 < 5 by omega)
          refine pk_iload_n dX5_readManyInks_46 rfl ?_
          refine pk_iconst (v := nI 1) dX5_readManyInks_47 (by decide) ?_
          refine pk_iload_n dX5_readManyInks_48 rfl ?_
          refine pk_bipush (v := nI 97) dX5_readManyInks_49 (by decide) ?_
          first | refine pk_subN dX5_readManyInks_51 (by omega) ?_ | refine pk_isub dX5_readManyInks_51 ?_
          first | refine pk_shlNN dX5_readManyInks_52 (by omega) ?_ | refine pk_ishl dX5_readManyInks_52 ?_
          first | refine pk_orNN dX5_readManyInks_53 ?_ | refine pk_ior dX5_readManyInks_53 ?_
          refine pk_istore_n dX5_readManyInks_54 rfl rfl ?_
          refine pk_aload_n dX5_readManyInks_55 rfl ?_
          refine pk_dup dX5_readManyInks_56 rfl ?_
          refine pk_getN dX5_readManyInks_57 fl_X5_22 rfl (hW.s rfl) (pk_gS1 rfl rfl rfl) ?_
          refine pk_iconst (v := nI 1) dX5_readManyInks_60 (by decide) ?_
          first | refine pk_addN dX5_readManyInks_61 ?_ | refine pk_iadd dX5_readManyInks_61 ?_
          refine pk_putI dX5_readManyInks_62 fl_X5_22 rfl rfl rfl rfl (hW.s rfl) ?_
          rw [pk_sI_sI]
          first | refine pk_inc1 dX5_readManyInks_65 rfl rfl ?_ | refine pk_iinc dX5_readManyInks_65 rfl rfl rfl ?_
          refine pk_goto (tgt := 4) dX5_readManyInks_68 (by decide) ?_
          exact pk_fgt (by repeat first | exact trivial | refine ⟨rfl, ?_⟩) (K (t + 1, s ||| 2 ^ (sp_ltr f n (sp_bk f n y) - 97), sp_bk f n y + 1) ⟨by dsimp only; rw [← h1, show 101 - (t + 1) = k by omega], by dsimp only; omega, Nat.or_lt_two_pow (n := 5) h3 hp2, by dsimp only; omega⟩ (by dsimp only; omega))
        · refine pk_iconst (v := -1) dX5_readManyInks_44 (by decide) ?_
          refine pk_reti dX5_readManyInks_45 (by first | rfl | exact pk_nbi _) ?_
          rw [if_neg (fun h => by first | exact c_18 h.1 | exact h.2 c_22), if_pos c_41] at h1
          rw [← h1]
          exact ⟨rfl, rfl⟩
      · refine pk_aload_n dX5_readManyInks_25 rfl ?_
        refine pk_dup dX5_readManyInks_26 rfl ?_
        refine pk_getN dX5_readManyInks_27 fl_X5_22 rfl (hW.s rfl) (pk_gS1 rfl rfl rfl) ?_
        refine pk_iconst (v := nI 1) dX5_readManyInks_30 (by decide) ?_
        first | refine pk_addN dX5_readManyInks_31 ?_ | refine pk_iadd dX5_readManyInks_31 ?_
        refine pk_putI dX5_readManyInks_32 fl_X5_22 rfl rfl rfl rfl (hW.s rfl) ?_
        rw [pk_sI_sI]
        refine pk_iload_n dX5_readManyInks_35 rfl ?_
        refine pk_reti dX5_readManyInks_36 (by first | rfl | exact pk_nbi _) ?_
        rw [if_pos ⟨c_18, c_22⟩] at h1
        rw [← h1]
        exact ⟨rfl, rfl⟩
