/-! Tape: letters behind blanks. -/
theorem pk_sI_id {M : pk_M} {p k : Nat} {x : Int32} (h : pk_I M p k = x) : pk_sI M p k x = M := by
  have : (fun q j => if q = p ∧ j = k then x else M.2.1 q j) = M.2.1 := by
    funext q j
    by_cases e : q = p ∧ j = k
    · rw [if_pos e, e.1, e.2]
      exact h.symm
    · rw [if_neg e]
  simp only [pk_sI, this]
theorem pk_sI_sI (M : pk_M) (p k : Nat) (x y : Int32) : pk_sI (pk_sI M p k x) p k y = pk_sI M p k y := by
  have : (fun q j => if q = p ∧ j = k then y else if q = p ∧ j = k then x else M.2.1 q j) = (fun q j => if q = p ∧ j = k then y else M.2.1 q j) := by
    funext q j
    by_cases e : q = p ∧ j = k <;> simp [e]
  simp only [pk_sI, this]
def sp_bl (f : Nat → Nat) (n : Nat) : Nat → Nat → Nat
  | 0, x => x
  | k + 1, x => if x < n ∧ f x = 32 then sp_bl f n k (x + 1) else x
def sp_bk (f : Nat → Nat) (n x : Nat) : Nat := sp_bl f n (n - x) x
theorem sp_bk_step {f : Nat → Nat} {n x : Nat} (h : x < n) (h2 : f x = 32) : sp_bk f n x = sp_bk f n (x + 1) := by
  unfold sp_bk
  rw [show n - x = n - (x + 1) + 1 by omega, sp_bl, if_pos ⟨h, h2⟩]
theorem sp_bk_stop {f : Nat → Nat} {n x : Nat} (h : ¬ (x < n ∧ f x = 32)) : sp_bk f n x = x := by
  unfold sp_bk
  cases n - x with
  | zero => rfl
  | succ k => rw [sp_bl, if_neg h]
def sp_ltr (f : Nat → Nat) (n y : Nat) : Nat := if y < n then f y else 0

set_option maxRecDepth 100000 in
set_option maxHeartbeats 4000000 in
theorem e_X5_letterBehindBlanks {Γ : pk_T} {M : pk_M} {L n x : Nat} {f : Nat → Nat} (hW : pk_WF L M) (hn : pk_I M 88 2 = nI n) (hn2 : n ≤ 100) (hf : ∀ i, i < n → pk_I M 89 i = nI (f i)) (hf2 : ∀ i, i < n → f i ≤ 126) (hx : pk_I M 88 3 = nI x) (hx2 : x ≤ 100) : pk_E Γ yX5_letterBehindBlanks cX5_letterBehindBlanks 1 (some .int) 1 0 0 M [.ref 88] (fun r M' => r = some (.int (nI (sp_ltr f n (sp_bk f n x)))) ∧ M' = pk_sI M 88 3 (nI (sp_bk f n x))) := by
  refine pk_meth (own := RX5) (ini := false) [some (.ref 88)] (by decide +kernel) rfl (by decide +kernel) rfl rfl ?_
  refine pk_Mq (M' := (pk_sI M 88 3 (nI x))) (pk_sI_id hx).symm ?_
  refine pk_wf (fun t => 100 - t) (fun t : Nat => t ≤ 100 ∧ sp_bk f n t = sp_bk f n x) (fun t => (pk_sI M 88 3 (nI t))) (fun _ => [some (.ref 88)]) ?_ x ⟨hx2, rfl⟩
  rintro t ⟨ht, ht2⟩ K
  refine pk_aload_n dX5_letterBehindBlanks_0 rfl ?_
  refine pk_getN dX5_letterBehindBlanks_1 fl_X5_22 rfl (hW.s rfl) (pk_gS1 rfl rfl rfl) ?_
  refine pk_aload_n dX5_letterBehindBlanks_4 rfl ?_
  refine pk_getN dX5_letterBehindBlanks_5 fl_X5_18 rfl (hW.s rfl) (pk_gS0 (by omega) hn) ?_
  first | refine pk_geN (tgt := 47) dX5_letterBehindBlanks_8 (by decide) (by omega) (by omega) (fun c_8 => ?_) (fun c_8 => ?_) | refine pk_icmp_ge (tgt := 47) dX5_letterBehindBlanks_8 (by decide) (fun c_8 => ?_) (fun c_8 => ?_)
  · have hst := sp_bk_stop (f := f) (n := n) (x := t) (by first | omega | (rintro ⟨-, h⟩; exact c_31 h))
    rw [hst] at ht2
    rw [← ht2]
    refine pk_aload_n dX5_letterBehindBlanks_47 rfl ?_
    refine pk_getN dX5_letterBehindBlanks_48 fl_X5_22 rfl (hW.s rfl) (pk_gS1 rfl rfl rfl) ?_
    refine pk_aload_n dX5_letterBehindBlanks_51 rfl ?_
    refine pk_getN dX5_letterBehindBlanks_52 fl_X5_18 rfl (hW.s rfl) (pk_gS0 (by omega) hn) ?_
    first | refine pk_geN (tgt := 82) dX5_letterBehindBlanks_55 (by decide) (by omega) (by omega) (fun c_55 => ?_) (fun c_55 => ?_) | refine pk_icmp_ge (tgt := 82) dX5_letterBehindBlanks_55 (by decide) (fun c_55 => ?_) (fun c_55 => ?_)
    · refine pk_iconst (v := nI 0) dX5_letterBehindBlanks_82 (by decide) ?_
      refine pk_reti dX5_letterBehindBlanks_83 (by first | rfl | exact pk_nbi _) ?_
      unfold sp_ltr
      first
        | (rw [if_pos (show t < n by assumption)]; exact ⟨rfl, rfl⟩)
        | (rw [if_neg (show ¬ t < n from Nat.not_lt.mpr (by assumption))]; exact ⟨rfl, rfl⟩)
    · refine pk_aload_n dX5_letterBehindBlanks_58 rfl ?_
      refine pk_getN dX5_letterBehindBlanks_59 fl_X5_22 rfl (hW.s rfl) (pk_gS1 rfl rfl rfl) ?_
      refine pk_bipush (v := nI 100) dX5_letterBehindBlanks_62 (by decide) ?_
      refine pk_Si dX5_letterBehindBlanks_64 ml_X5_34 yw_X6_isBelow ys_X6_isBelow (e_X6_isBelow _ _) rfl rfl rfl rfl rfl rfl rfl ?_
      first | refine pk_eqb (tgt := 82) dX5_letterBehindBlanks_67 (by decide) (fun c_67 => ?_) (fun c_67 => ?_) | refine pk_eq0N (tgt := 82) dX5_letterBehindBlanks_67 (by decide) (by omega) (fun c_67 => ?_) (fun c_67 => ?_) | refine pk_if_eq (tgt := 82) dX5_letterBehindBlanks_67 (by decide) (fun c_67 => ?_) (fun c_67 => ?_)
      · exfalso; simp [nI_pos' (show t < 2 ^ 31 by omega), nI_ltI (show t < 2 ^ 31 by omega) (show 100 < 2 ^ 31 by decide)] at c_67; omega
      · refine pk_aload_n dX5_letterBehindBlanks_70 rfl ?_
        refine pk_getP dX5_letterBehindBlanks_71 fl_X5_9 rfl (hW.s rfl) (hW.p rfl) ?_
        refine pk_aload_n dX5_letterBehindBlanks_74 rfl ?_
        refine pk_getN dX5_letterBehindBlanks_75 fl_X5_22 rfl (hW.s rfl) (pk_gS1 rfl rfl rfl) ?_
        refine pk_aldN dX5_letterBehindBlanks_78 (hW.s rfl) (by omega) (by omega) (pk_gS0 (by omega) (hf t (by omega))) ?_
        refine pk_goto (tgt := 83) dX5_letterBehindBlanks_79 (by decide) ?_
        refine pk_reti dX5_letterBehindBlanks_83 (by first | rfl | exact pk_nbi _) ?_
        unfold sp_ltr
        first
          | (rw [if_pos (show t < n by assumption)]; exact ⟨rfl, rfl⟩)
          | (rw [if_neg (show ¬ t < n from Nat.not_lt.mpr (by assumption))]; exact ⟨rfl, rfl⟩)
  · refine pk_aload_n dX5_letterBehindBlanks_11 rfl ?_
    refine pk_getN dX5_letterBehindBlanks_12 fl_X5_22 rfl (hW.s rfl) (pk_gS1 rfl rfl rfl) ?_
    refine pk_bipush (v := nI 100) dX5_letterBehindBlanks_15 (by decide) ?_
    first | refine pk_geN (tgt := 47) dX5_letterBehindBlanks_17 (by decide) (by omega) (by omega) (fun c_17 => ?_) (fun c_17 => ?_) | refine pk_icmp_ge (tgt := 47) dX5_letterBehindBlanks_17 (by decide) (fun c_17 => ?_) (fun c_17 => ?_)
    · omega
    · have hft := hf2 t (by omega)
      refine pk_aload_n dX5_letterBehindBlanks_20 rfl ?_
      refine pk_getP dX5_letterBehindBlanks_21 fl_X5_9 rfl (hW.s rfl) (hW.p rfl) ?_
      refine pk_aload_n dX5_letterBehindBlanks_24 rfl ?_
      refine pk_getN dX5_letterBehindBlanks_25 fl_X5_22 rfl (hW.s rfl) (pk_gS1 rfl rfl rfl) ?_
      refine pk_aldN dX5_letterBehindBlanks_28 (hW.s rfl) (by omega) (by omega) (pk_gS0 (by omega) (hf t (by omega))) ?_
      refine pk_bipush (v := nI 32) dX5_letterBehindBlanks_29 (by decide) ?_
      first | refine pk_neN (tgt := 47) dX5_letterBehindBlanks_31 (by decide) (by omega) (by omega) (fun c_31 => ?_) (fun c_31 => ?_) | refine pk_icmp_ne (tgt := 47) dX5_letterBehindBlanks_31 (by decide) (fun c_31 => ?_) (fun c_31 => ?_)
      · have hst := sp_bk_stop (f := f) (n := n) (x := t) (by first | omega | (rintro ⟨-, h⟩; exact c_31 h))
        rw [hst] at ht2
        rw [← ht2]
        refine pk_aload_n dX5_letterBehindBlanks_47 rfl ?_
        refine pk_getN dX5_letterBehindBlanks_48 fl_X5_22 rfl (hW.s rfl) (pk_gS1 rfl rfl rfl) ?_
        refine pk_aload_n dX5_letterBehindBlanks_51 rfl ?_
        refine pk_getN dX5_letterBehindBlanks_52 fl_X5_18 rfl (hW.s rfl) (pk_gS0 (by omega) hn) ?_
        first | refine pk_geN (tgt := 82) dX5_letterBehindBlanks_55 (by decide) (by omega) (by omega) (fun c_55 => ?_) (fun c_55 => ?_) | refine pk_icmp_ge (tgt := 82) dX5_letterBehindBlanks_55 (by decide) (fun c_55 => ?_) (fun c_55 => ?_)
        · refine pk_iconst (v := nI 0) dX5_letterBehindBlanks_82 (by decide) ?_
          refine pk_reti dX5_letterBehindBlanks_83 (by first | rfl | exact pk_nbi _) ?_
          unfold sp_ltr
          first
            | (rw [if_pos (show t < n by assumption)]; exact ⟨rfl, rfl⟩)
            | (rw [if_neg (show ¬ t < n from Nat.not_lt.mpr (by assumption))]; exact ⟨rfl, rfl⟩)
        · refine pk_aload_n dX5_letterBehindBlanks_58 rfl ?_
          refine pk_getN dX5_letterBehindBlanks_59 fl_X5_22 rfl (hW.s rfl) (pk_gS1 rfl rfl rfl) ?_
          refine pk_bipush (v := nI 100) dX5_letterBehindBlanks_62 (by decide) ?_
          refine pk_Si dX5_letterBehindBlanks_64 ml_X5_34 yw_X6_isBelow ys_X6_isBelow (e_X6_isBelow _ _) rfl rfl rfl rfl rfl rfl rfl ?_
          first | refine pk_eqb (tgt := 82) dX5_letterBehindBlanks_67 (by decide) (fun c_67 => ?_) (fun c_67 => ?_) | refine pk_eq0N (tgt := 82) dX5_letterBehindBlanks_67 (by decide) (by omega) (fun c_67 => ?_) (fun c_67 => ?_) | refine pk_if_eq (tgt := 82) dX5_letterBehindBlanks_67 (by decide) (fun c_67 => ?_) (fun c_67 => ?_)
          · exfalso; simp [nI_pos' (show t < 2 ^ 31 by omega), nI_ltI (show t < 2 ^ 31 by omega) (show 100 < 2 ^ 31 by decide)] at c_67; omega
          · refine pk_aload_n dX5_letterBehindBlanks_70 rfl ?_
            refine pk_getP dX5_letterBehindBlanks_71 fl_X5_9 rfl (hW.s rfl) (hW.p rfl) ?_
            refine pk_aload_n dX5_letterBehindBlanks_74 rfl ?_
            refine pk_getN dX5_letterBehindBlanks_75 fl_X5_22 rfl (hW.s rfl) (pk_gS1 rfl rfl rfl) ?_
            refine pk_aldN dX5_letterBehindBlanks_78 (hW.s rfl) (by omega) (by omega) (pk_gS0 (by omega) (hf t (by omega))) ?_
            refine pk_goto (tgt := 83) dX5_letterBehindBlanks_79 (by decide) ?_
            refine pk_reti dX5_letterBehindBlanks_83 (by first | rfl | exact pk_nbi _) ?_
            unfold sp_ltr
            first
              | (rw [if_pos (show t < n by assumption)]; exact ⟨rfl, rfl⟩)
              | (rw [if_neg (show ¬ t < n from Nat.not_lt.mpr (by assumption))]; exact ⟨rfl, rfl⟩)
      · refine pk_aload_n dX5_letterBehindBlanks_34 rfl ?_
        refine pk_dup dX5_letterBehindBlanks_35 rfl ?_
        refine pk_getN dX5_letterBehindBlanks_36 fl_X5_22 rfl (hW.s rfl) (pk_gS1 rfl rfl rfl) ?_
        refine pk_iconst (v := nI 1) dX5_letterBehindBlanks_39 (by decide) ?_
        first | refine pk_addN dX5_letterBehindBlanks_40 ?_ | refine pk_iadd dX5_letterBehindBlanks_40 ?_
        refine pk_putI dX5_letterBehindBlanks_41 fl_X5_22 rfl rfl rfl rfl (hW.s rfl) ?_
        rw [pk_sI_sI]
        refine pk_goto (tgt := 0) dX5_letterBehindBlanks_44 (by decide) ?_
        exact K (t + 1) ⟨by omega, by rw [← ht2]; exact (sp_bk_step (by omega) c_31).symm⟩ (by omega)
