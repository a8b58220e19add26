/-! Tape: a run. -/
theorem sp_bl_ge {f : Nat → Nat} {n : Nat} (k : Nat) : ∀ x, x ≤ sp_bl f n k x := by
  induction k with
  | zero => exact fun x => Nat.le_refl x
  | succ k ih =>
    intro x
    rw [sp_bl]
    split
    · have := ih (x + 1)
      omega
    · exact Nat.le_refl x
theorem sp_bk_ge (f : Nat → Nat) (n x : Nat) : x ≤ sp_bk f n x := sp_bl_ge _ x
theorem sp_ltr_lt {f : Nat → Nat} {n y : Nat} (h : sp_ltr f n y ≠ 0) : y < n := by
  unfold sp_ltr at h
  split at h
  · assumption
  · exact absurd rfl h
theorem sp_ltr_le {f : Nat → Nat} {n : Nat} (hf : ∀ i, i < n → f i ≤ 126) (y : Nat) : sp_ltr f n y ≤ 126 := by
  unfold sp_ltr
  split
  · exact hf _ (by assumption)
  · omega
theorem sp_il_of {c : Nat} (h : sp_il c = true) : 97 ≤ c ∧ c ≤ 101 := by
  unfold sp_il at h
  rw [Bool.and_eq_true, decide_eq_true_eq, decide_eq_true_eq] at h
  exact h
theorem sp_mi_ok {f : Nat → Nat} {n : Nat} (k : Nat) : ∀ s x, x ≤ n → s < 32 → (sp_mi f n k s x).2 ≤ n ∧ ∀ v, (sp_mi f n k s x).1 = some v → v < 32 ∧ x < (sp_mi f n k s x).2 := by
  induction k with
  | zero =>
    intro s x hx hs
    exact ⟨hx, fun v h => by cases h⟩
  | succ k ih =>
    intro s x hx hs
    have hy := sp_bk_le (f := f) hx
    have hy2 := sp_bk_ge f n x
    rw [sp_mi]
    split
    · rename_i h
      have hl := sp_ltr_lt (f := f) (n := n) (y := sp_bk f n x) (by omega)
      refine ⟨hl, fun v h => ?_⟩
      cases h
      exact ⟨hs, by dsimp only; omega⟩
    · split
      · exact ⟨hy, fun v h => by cases h⟩
      · rename_i h
        have hil := sp_il_of (Bool.not_eq_false _ ▸ h)
        have hl := sp_ltr_lt (f := f) (n := n) (y := sp_bk f n x) (by omega)
        have hp := pk_p2 (show sp_ltr f n (sp_bk f n x) - 97 < 5 by omega)
        obtain ⟨i1, i2⟩ := ih (s ||| 2 ^ (sp_ltr f n (sp_bk f n x) - 97)) (sp_bk f n x + 1) hl (Nat.or_lt_two_pow (n := 5) hs hp)
        refine ⟨i1, fun v h => ?_⟩
        obtain ⟨j1, j2⟩ := i2 v h
        exact ⟨j1, by omega⟩
theorem sp_rs_ok {f : Nat → Nat} {n c x : Nat} (hx : x ≤ n) (hcx : c ≠ 0 → x < n) : (sp_rs f n c x).2 ≤ n ∧ ∀ v, (sp_rs f n c x).1 = some v → v < 32 ∧ x < (sp_rs f n c x).2 := by
  unfold sp_rs
  split
  · obtain ⟨h1, h2⟩ := sp_mi_ok (f := f) (n := n) 101 0 (x + 1) (hcx (by omega)) (by decide)
    exact ⟨h1, fun v h => ⟨(h2 v h).1, by have := (h2 v h).2; omega⟩⟩
  · split
    · exact ⟨hcx (by omega), fun v h => by cases h; exact ⟨by decide, Nat.lt_succ_self x⟩⟩
    · split
      · rename_i h
        have hil := sp_il_of h
        exact ⟨hcx (by omega), fun v h => by cases h; exact ⟨pk_p2 (by omega), Nat.lt_succ_self x⟩⟩
      · exact ⟨hx, fun v h => by cases h⟩
def sp_of (c : Nat) : Nat := if 49 ≤ c ∧ c ≤ 56 then c - 48 else 1
def sp_x1 (c x : Nat) : Nat := if 49 ≤ c ∧ c ≤ 56 then x + 1 else x
def sp_lim (w l : Nat) : Nat := if l = 0 then 8 else w
def sp_rq (f : Nat → Nat) (n x : Nat) : Option Nat × Nat := sp_rs f n (sp_ltr f n (sp_bk f n x)) (sp_bk f n x)
def sp_rr (f : Nat → Nat) (n c x w l k : Nat) : Option (Nat × Nat) × Nat := if sp_lim w l < k + sp_of c then (none, x) else ((sp_rq f n (sp_x1 c x)).1.map (fun s => (s, sp_of c)), (sp_rq f n (sp_x1 c x)).2)
theorem sp_rq_ok {f : Nat → Nat} {n x : Nat} (hx : x ≤ n) : (sp_rq f n x).2 ≤ n ∧ ∀ v, (sp_rq f n x).1 = some v → v < 32 ∧ x < (sp_rq f n x).2 := by
  obtain ⟨h1, h2⟩ := sp_rs_ok (f := f) (n := n) (c := sp_ltr f n (sp_bk f n x)) (sp_bk_le hx) sp_ltr_lt
  exact ⟨h1, fun v h => ⟨(h2 v h).1, Nat.lt_of_le_of_lt (sp_bk_ge f n x) (h2 v h).2⟩⟩
theorem sp_rr_ok {f : Nat → Nat} {n c x w l k : Nat} (hx : x < n) : (sp_rr f n c x w l k).2 ≤ n ∧ ∀ s o, (sp_rr f n c x w l k).1 = some (s, o) → s < 32 ∧ 1 ≤ o ∧ o ≤ 8 ∧ k + o ≤ sp_lim w l ∧ x < (sp_rr f n c x w l k).2 := by
  have hx1 : x ≤ sp_x1 c x ∧ sp_x1 c x ≤ n := by
    unfold sp_x1
    split <;> omega
  have ho : 1 ≤ sp_of c ∧ sp_of c ≤ 8 := by
    unfold sp_of
    split <;> omega
  obtain ⟨h1, h2⟩ := sp_rq_ok (f := f) hx1.2
  unfold sp_rr
  split
  · exact ⟨by dsimp only; omega, fun s o h => by cases h⟩
  · refine ⟨h1, fun s o h => ?_⟩
    dsimp only at h ⊢
    obtain ⟨v, h3, h4⟩ := Option.map_eq_some_iff.mp h
    cases h4
    obtain ⟨h5, h6⟩ := h2 s h3
    exact ⟨h5, ho.1, ho.2, by omega, by omega⟩
/-- what the tape's cells tell while a drawing is read -/
def pk_tp (M : pk_M) (f : Nat → Nat) (n x w l k : Nat) (g : Nat → Nat) : Prop := pk_I M 88 2 = nI n ∧ (∀ i, i < n → pk_I M 89 i = nI (f i)) ∧ pk_I M 88 3 = nI x ∧ pk_I M 88 4 = nI w ∧ pk_I M 88 5 = nI l ∧ pk_I M 88 6 = nI k ∧ ∀ q, q < 48 → pk_I M 90 q = nI (g q)
def pk_tD (q : Nat) : Prop := q = 88 ∨ q = 90
theorem pk_tp.x {M : pk_M} {f g : Nat → Nat} {n x w l k : Nat} (h : pk_tp M f n x w l k g) (y : Nat) : pk_tp (pk_sI M 88 3 (nI y)) f n y w l k g := ⟨pk_gS0 (by omega) h.1, fun i hi => pk_gS0 (by omega) (h.2.1 i hi), pk_gS1 rfl rfl rfl, pk_gS0 (by omega) h.2.2.2.1, pk_gS0 (by omega) h.2.2.2.2.1, pk_gS0 (by omega) h.2.2.2.2.2.1, fun q hq => pk_gS0 (by omega) (h.2.2.2.2.2.2 q hq)⟩
def sp_wr (g : Nat → Nat) (a s j : Nat) : Nat → Nat := fun q => if a ≤ q ∧ q < a + j then s else g q
theorem pk_tp.wr {M : pk_M} {f g : Nat → Nat} {n x w l k s j : Nat} (h : pk_tp M f n x w l (k + j) (sp_wr g (l * 8 + k) s j)) : pk_tp (pk_sI (pk_sI M 90 (l * 8 + (k + j)) (nI s)) 88 6 (nI (k + j + 1))) f n x w l (k + (j + 1)) (sp_wr g (l * 8 + k) s (j + 1)) := by
  refine ⟨pk_gS0 (by omega) (pk_gS0 (by omega) h.1), fun i hi => pk_gS0 (by omega) (pk_gS0 (by omega) (h.2.1 i hi)), pk_gS0 (by omega) (pk_gS0 (by omega) h.2.2.1), pk_gS0 (by omega) (pk_gS0 (by omega) h.2.2.2.1), pk_gS0 (by omega) (pk_gS0 (by omega) h.2.2.2.2.1), pk_gS1 rfl rfl rfl, fun q hq => pk_gS0 (by omega) ?_⟩
  by_cases e : q = l * 8 + (k + j)
  · refine pk_gS1 rfl e ?_
    unfold sp_wr
    rw [if_pos (by omega)]
  · refine pk_gS0 (Or.inr e) ((h.2.2.2.2.2.2 q hq).trans ?_)
    unfold sp_wr
    by_cases e2 : l * 8 + k ≤ q ∧ q < l * 8 + k + j
    · rw [if_pos e2, if_pos (by omega)]
    · rw [if_neg e2, if_neg (by omega)]
theorem sp_wr0 (g : Nat → Nat) (a s : Nat) : sp_wr g a s 0 = g := by
  funext q
  unfold sp_wr
  rw [if_neg (by omega)]

set_option maxRecDepth 100000 in
set_option maxHeartbeats 4000000 in
theorem e_X5_readRun {Γ : pk_T} {M : pk_M} {L n x w l k : Nat} {f g : Nat → Nat} (hW : pk_WF L M) (hT : pk_tp M f n x w l k g) (hn2 : n ≤ 100) (hf2 : ∀ i, i < n → f i ≤ 126) {c : Nat} (hc : c ≤ 126) (hx2 : x < n) (hk2 : k ≤ 8) (hl2 : l < 6) (hw2 : w ≤ 8) : pk_E Γ yX5_readRun cX5_readRun 6 (some .boolean) 4 0 0 M [.ref 88, .int (nI c)] (fun r M' => r = some (.int (pk_bi (sp_rr f n c x w l k).1.isSome)) ∧ pk_fr pk_tD M M' ∧ (∀ s o, (sp_rr f n c x w l k).1 = some (s, o) → pk_tp M' f n (sp_rr f n c x w l k).2 w l (k + o) (sp_wr g (l * 8 + k) s o)) ∧ ((sp_rr f n c x w l k).1 = none → pk_I M' 88 3 = nI (sp_rr f n c x w l k).2)) := by
  refine pk_meth (own := RX5) (ini := false) [some (.ref 88), some (.int (nI c)), none, none, none, none] (by decide +kernel) rfl (by decide +kernel) rfl rfl ?_
  by_cases hfig : 49 ≤ c ∧ c ≤ 56
  · have ho : sp_of c = c - 48 := by unfold sp_of; rw [if_pos hfig]
    have hx1 : sp_x1 c x = x + 1 := by unfold sp_x1; rw [if_pos hfig]
    have hlim : sp_lim w l = (if l = 0 then 8 else w) := rfl
    refine pk_iload_n dX5_readRun_0 rfl ?_
    refine pk_bipush (v := nI 49) dX5_readRun_1 (by decide) ?_
    first | refine pk_ltN (tgt := 16) dX5_readRun_3 (by decide) (by omega) (by omega) (fun c_3 => ?_) (fun c_3 => ?_) | refine pk_icmp_lt (tgt := 16) dX5_readRun_3 (by decide) (fun c_3 => ?_) (fun c_3 => ?_)
    · omega
    · refine pk_iload_n dX5_readRun_6 rfl ?_
      refine pk_bipush (v := nI 56) dX5_readRun_7 (by decide) ?_
      first | refine pk_gtN (tgt := 16) dX5_readRun_9 (by decide) (by omega) (by omega) (fun c_9 => ?_) (fun c_9 => ?_) | refine pk_icmp_gt (tgt := 16) dX5_readRun_9 (by decide) (fun c_9 => ?_) (fun c_9 => ?_)
      · omega
      · refine pk_iconst (v := nI 1) dX5_readRun_12 (by decide) ?_
        refine pk_goto (tgt := 17) dX5_readRun_13 (by decide) ?_
        refine pk_istore_n dX5_readRun_17 rfl rfl ?_
        refine pk_iload_n dX5_readRun_18 rfl ?_
        refine pk_eq0N (a := 1) (tgt := 29) dX5_readRun_19 (by decide) (by decide) (fun c_19 => ?_) (fun c_19 => ?_)
        · exact absurd c_19 (by decide)
        · refine pk_iload_n dX5_readRun_22 rfl ?_
          refine pk_bipush (v := nI 48) dX5_readRun_23 (by decide) ?_
          first | refine pk_subN dX5_readRun_25 (by omega) ?_ | refine pk_isub dX5_readRun_25 ?_
          refine pk_goto (tgt := 30) dX5_readRun_26 (by decide) ?_
          refine pk_istore_n dX5_readRun_30 rfl rfl ?_
          refine pk_aload_n dX5_readRun_31 rfl ?_
          refine pk_getN dX5_readRun_32 fl_X5_31 rfl (hW.s rfl) hT.2.2.2.2.2.1 ?_
          refine pk_iload_n dX5_readRun_35 rfl ?_
          first | refine pk_addN dX5_readRun_36 ?_ | refine pk_iadd dX5_readRun_36 ?_
          refine pk_aload_n dX5_readRun_37 rfl ?_
          refine pk_getN dX5_readRun_38 fl_X5_28 rfl (hW.s rfl) hT.2.2.2.2.1 ?_
          first | refine pk_neb (tgt := 49) dX5_readRun_41 (by decide) (fun c_41 => ?_) (fun c_41 => ?_) | refine pk_ne0N (tgt := 49) dX5_readRun_41 (by decide) (by omega) (fun c_41 => ?_) (fun c_41 => ?_) | refine pk_if_ne (tgt := 49) dX5_readRun_41 (by decide) (fun c_41 => ?_) (fun c_41 => ?_)
          · refine pk_aload_n dX5_readRun_49 rfl ?_
            refine pk_getN dX5_readRun_50 fl_X5_25 rfl (hW.s rfl) hT.2.2.2.1 ?_
            first | refine pk_leN (tgt := 58) dX5_readRun_53 (by decide) (by omega) (by omega) (fun c_53 => ?_) (fun c_53 => ?_) | refine pk_icmp_le (tgt := 58) dX5_readRun_53 (by decide) (fun c_53 => ?_) (fun c_53 => ?_)
            · refine pk_iload_n dX5_readRun_58 rfl ?_
              refine pk_eq0N (a := 1) (tgt := 72) dX5_readRun_59 (by decide) (by decide) (fun c_59 => ?_) (fun c_59 => ?_)
              · exact absurd c_59 (by decide)
              · refine pk_aload_n dX5_readRun_62 rfl ?_
                refine pk_dup dX5_readRun_63 rfl ?_
                refine pk_getN dX5_readRun_64 fl_X5_22 rfl (hW.s rfl) hT.2.2.1 ?_
                refine pk_iconst (v := nI 1) dX5_readRun_67 (by decide) ?_
                first | refine pk_addN dX5_readRun_68 ?_ | refine pk_iadd dX5_readRun_68 ?_
                refine pk_putI dX5_readRun_69 fl_X5_22 rfl rfl rfl rfl (hW.s rfl) ?_
                refine pk_aload_n dX5_readRun_72 rfl ?_
                refine pk_aload_n dX5_readRun_73 rfl ?_
                refine pk_Vg dX5_readRun_74 ml_X5_41 yw_X5_letterBehindBlanks yv_X5_letterBehindBlanks (hW.s rfl) (e_X5_letterBehindBlanks (M := (pk_sI M 88 3 (nI (x + 1)))) (x := x + 1) hW (pk_gS0 (by omega) hT.1) hn2 (fun i hi => pk_gS0 (by omega) (hT.2.1 i hi)) hf2 (pk_gS1 rfl rfl rfl) (by omega)) rfl rfl rfl rfl rfl rfl rfl (fun v M1 hv => ?_)
                obtain ⟨hv1, hv2⟩ := hv
                rw [pk_sI_sI] at hv2
                cases hv1
                subst hv2
                refine pk_Vg dX5_readRun_77 ml_X5_53 yw_X5_readSet yv_X5_readSet (hW.s rfl) (e_X5_readSet (M := (pk_sI M 88 3 (nI (sp_bk f n (x + 1))))) (x := sp_bk f n (x + 1)) (c := sp_ltr f n (sp_bk f n (x + 1))) hW (pk_gS0 (by omega) hT.1) hn2 (fun i hi => pk_gS0 (by omega) (hT.2.1 i hi)) hf2 (pk_gS1 rfl rfl rfl) (sp_bk_le (by omega)) (sp_ltr_le hf2 _) sp_ltr_lt) rfl rfl rfl rfl rfl rfl rfl (fun v M1 hv => ?_)
                obtain ⟨hv1, hv2⟩ := hv
                rw [pk_sI_sI] at hv2
                cases hv1
                subst hv2
                have hrr : sp_rr f n c x w l k = ((sp_rs f n (sp_ltr f n (sp_bk f n (x + 1))) (sp_bk f n (x + 1))).1.map (fun s => (s, c - 48)), (sp_rs f n (sp_ltr f n (sp_bk f n (x + 1))) (sp_bk f n (x + 1))).2) := by
                  unfold sp_rr
                  rw [ho, hx1, if_neg (by rw [hlim]; first | (rw [if_pos c_41]; omega) | (rw [if_neg c_41]; omega))]
                  rfl
                have hqk := (sp_rs_ok (f := f) (n := n) (c := sp_ltr f n (sp_bk f n (x + 1))) (sp_bk_le (f := f) (show x + 1 ≤ n by omega)) sp_ltr_lt).2
                rcases hrs : (sp_rs f n (sp_ltr f n (sp_bk f n (x + 1))) (sp_bk f n (x + 1))).1 with _ | s
                · refine pk_istore dX5_readRun_80 rfl rfl ?_
                  refine pk_iload dX5_readRun_82 rfl ?_
                  refine pk_if_ge (tgt := 89) dX5_readRun_84 (by decide) (fun c_84 => ?_) (fun c_84 => ?_)
                  · exact absurd c_84 (by decide)
                  · refine pk_iconst (v := nI 0) dX5_readRun_87 (by decide) ?_
                    refine pk_reti dX5_readRun_88 (by first | rfl | exact pk_nbi _) ?_
                    rw [hrr, hrs]
                    exact ⟨rfl, pk_fr.sI (Or.inl rfl), fun s o h => (by cases h), fun _ => pk_gS1 rfl rfl rfl⟩
                · have hs := (hqk s hrs).1
                  have hko : k + (c - 48) ≤ 8 := by first | omega | (have := hw2; omega)
                  refine pk_istore dX5_readRun_80 rfl rfl ?_
                  refine pk_iload dX5_readRun_82 rfl ?_
                  refine pk_if_ge (tgt := 89) dX5_readRun_84 (by decide) (fun c_84 => ?_) (fun c_84 => ?_)
                  · refine pk_iconst (v := nI 0) dX5_readRun_89 (by decide) ?_
                    refine pk_istore dX5_readRun_90 rfl rfl ?_
                    refine pk_fgt (ls' := [some (.ref 88), some (.int (nI c)), none, some (.int (nI (c - 48))), some (.int (nI s)), some (.int (nI 0))]) (by repeat first | exact trivial | refine ⟨rfl, ?_⟩) ?_
                    refine pk_wf (α := Nat × pk_M) (fun z => 8 - z.1) (fun z => z.1 ≤ c - 48 ∧ pk_fr pk_tD M z.2 ∧ pk_tp z.2 f n (sp_rs f n (sp_ltr f n (sp_bk f n (x + 1))) (sp_bk f n (x + 1))).2 w l (k + z.1) (sp_wr g (l * 8 + k) s z.1)) (fun z => z.2) (fun z => [some (.ref 88), some (.int (nI c)), none, some (.int (nI (c - 48))), some (.int (nI s)), some (.int (nI z.1))]) ?_ (0, (pk_sI M 88 3 (nI ((sp_rs f n (sp_ltr f n (sp_bk f n (x + 1))) (sp_bk f n (x + 1))).2)))) ⟨Nat.zero_le _, pk_fr.sI (Or.inl rfl), by rw [sp_wr0]; exact hT.x _⟩
                    rintro ⟨j, N⟩ ⟨hj, hF, hN⟩ K
                    dsimp only at hj hF hN K ⊢
                    have hWN := hF.wf hW
                    refine pk_iload dX5_readRun_92 rfl ?_
                    refine pk_iload_n dX5_readRun_94 rfl ?_
                    first | refine pk_geN (tgt := 110) dX5_readRun_95 (by decide) (by omega) (by omega) (fun c_95 => ?_) (fun c_95 => ?_) | refine pk_icmp_ge (tgt := 110) dX5_readRun_95 (by decide) (fun c_95 => ?_) (fun c_95 => ?_)
                    · refine pk_iconst (v := nI 1) dX5_readRun_110 (by decide) ?_
                      refine pk_reti dX5_readRun_111 (by first | rfl | exact pk_nbi _) ?_
                      have hj2 : j = c - 48 := by omega
                      subst hj2
                      rw [hrr, hrs]
                      refine ⟨rfl, hF, fun s' o' h => ?_, fun h => (by cases h)⟩
                      cases h
                      exact hN
                    · refine pk_aload_n dX5_readRun_98 rfl ?_
                      refine pk_iload dX5_readRun_99 rfl ?_
                      refine pk_Vv dX5_readRun_101 ml_X5_57 yw_X5_writeNext yv_X5_writeNext (hWN.s rfl) (e_X5_writeNext hWN hN.2.2.2.2.1 hN.2.2.2.2.2.1 (by omega) _) rfl rfl rfl rfl rfl rfl rfl ?_
                      first | refine pk_inc1 dX5_readRun_104 rfl rfl ?_ | refine pk_iinc dX5_readRun_104 rfl rfl rfl ?_
                      refine pk_goto (tgt := 92) dX5_readRun_107 (by decide) ?_
                      exact K (j + 1, _) ⟨by dsimp only; omega, hF.tr ((pk_fr.sI (Or.inr rfl)).tr (pk_fr.sI (Or.inl rfl))), hN.wr⟩ (by dsimp only; omega)
                  · exact absurd (nI_pos' (show s < 2 ^ 31 by omega)) c_84
            · refine pk_iconst (v := nI 0) dX5_readRun_56 (by decide) ?_
              refine pk_reti dX5_readRun_57 (by first | rfl | exact pk_nbi _) ?_
              have hrr : sp_rr f n c x w l k = (none, x) := by
                unfold sp_rr
                rw [ho, if_pos (by rw [hlim]; first | (rw [if_pos c_41]; omega) | (rw [if_neg c_41]; omega))]
              rw [hrr]
              exact ⟨rfl, pk_fr.rf _ _, fun s o h => (by cases h), fun _ => hT.2.2.1⟩
          · refine pk_bipush (v := nI 8) dX5_readRun_44 (by decide) ?_
            refine pk_goto (tgt := 53) dX5_readRun_46 (by decide) ?_
            first | refine pk_leN (tgt := 58) dX5_readRun_53 (by decide) (by omega) (by omega) (fun c_53 => ?_) (fun c_53 => ?_) | refine pk_icmp_le (tgt := 58) dX5_readRun_53 (by decide) (fun c_53 => ?_) (fun c_53 => ?_)
            · refine pk_iload_n dX5_readRun_58 rfl ?_
              refine pk_eq0N (a := 1) (tgt := 72) dX5_readRun_59 (by decide) (by decide) (fun c_59 => ?_) (fun c_59 => ?_)
              · exact absurd c_59 (by decide)
              · refine pk_aload_n dX5_readRun_62 rfl ?_
                refine pk_dup dX5_readRun_63 rfl ?_
                refine pk_getN dX5_readRun_64 fl_X5_22 rfl (hW.s rfl) hT.2.2.1 ?_
                refine pk_iconst (v := nI 1) dX5_readRun_67 (by decide) ?_
                first | refine pk_addN dX5_readRun_68 ?_ | refine pk_iadd dX5_readRun_68 ?_
                refine pk_putI dX5_readRun_69 fl_X5_22 rfl rfl rfl rfl (hW.s rfl) ?_
                refine pk_aload_n dX5_readRun_72 rfl ?_
                refine pk_aload_n dX5_readRun_73 rfl ?_
                refine pk_Vg dX5_readRun_74 ml_X5_41 yw_X5_letterBehindBlanks yv_X5_letterBehindBlanks (hW.s rfl) (e_X5_letterBehindBlanks (M := (pk_sI M 88 3 (nI (x + 1)))) (x := x + 1) hW (pk_gS0 (by omega) hT.1) hn2 (fun i hi => pk_gS0 (by omega) (hT.2.1 i hi)) hf2 (pk_gS1 rfl rfl rfl) (by omega)) rfl rfl rfl rfl rfl rfl rfl (fun v M1 hv => ?_)
                obtain ⟨hv1, hv2⟩ := hv
                rw [pk_sI_sI] at hv2
                cases hv1
                subst hv2
                refine pk_Vg dX5_readRun_77 ml_X5_53 yw_X5_readSet yv_X5_readSet (hW.s rfl) (e_X5_readSet (M := (pk_sI M 88 3 (nI (sp_bk f n (x + 1))))) (x := sp_bk f n (x + 1)) (c := sp_ltr f n (sp_bk f n (x + 1))) hW (pk_gS0 (by omega) hT.1) hn2 (fun i hi => pk_gS0 (by omega) (hT.2.1 i hi)) hf2 (pk_gS1 rfl rfl rfl) (sp_bk_le (by omega)) (sp_ltr_le hf2 _) sp_ltr_lt) rfl rfl rfl rfl rfl rfl rfl (fun v M1 hv => ?_)
                obtain ⟨hv1, hv2⟩ := hv
                rw [pk_sI_sI] at hv2
                cases hv1
                subst hv2
                have hrr : sp_rr f n c x w l k = ((sp_rs f n (sp_ltr f n (sp_bk f n (x + 1))) (sp_bk f n (x + 1))).1.map (fun s => (s, c - 48)), (sp_rs f n (sp_ltr f n (sp_bk f n (x + 1))) (sp_bk f n (x + 1))).2) := by
                  unfold sp_rr
                  rw [ho, hx1, if_neg (by rw [hlim]; first | (rw [if_pos c_41]; omega) | (rw [if_neg c_41]; omega))]
                  rfl
                have hqk := (sp_rs_ok (f := f) (n := n) (c := sp_ltr f n (sp_bk f n (x + 1))) (sp_bk_le (f := f) (show x + 1 ≤ n by omega)) sp_ltr_lt).2
                rcases hrs : (sp_rs f n (sp_ltr f n (sp_bk f n (x + 1))) (sp_bk f n (x + 1))).1 with _ | s
                · refine pk_istore dX5_readRun_80 rfl rfl ?_
                  refine pk_iload dX5_readRun_82 rfl ?_
                  refine pk_if_ge (tgt := 89) dX5_readRun_84 (by decide) (fun c_84 => ?_) (fun c_84 => ?_)
                  · exact absurd c_84 (by decide)
                  · refine pk_iconst (v := nI 0) dX5_readRun_87 (by decide) ?_
                    refine pk_reti dX5_readRun_88 (by first | rfl | exact pk_nbi _) ?_
                    rw [hrr, hrs]
                    exact ⟨rfl, pk_fr.sI (Or.inl rfl), fun s o h => (by cases h), fun _ => pk_gS1 rfl rfl rfl⟩
                · have hs := (hqk s hrs).1
                  have hko : k + (c - 48) ≤ 8 := by first | omega | (have := hw2; omega)
                  refine pk_istore dX5_readRun_80 rfl rfl ?_
                  refine pk_iload dX5_readRun_82 rfl ?_
                  refine pk_if_ge (tgt := 89) dX5_readRun_84 (by decide) (fun c_84 => ?_) (fun c_84 => ?_)
                  · refine pk_iconst (v := nI 0) dX5_readRun_89 (by decide) ?_
                    refine pk_istore dX5_readRun_90 rfl rfl ?_
                    refine pk_fgt (ls' := [some (.ref 88), some (.int (nI c)), none, some (.int (nI (c - 48))), some (.int (nI s)), some (.int (nI 0))]) (by repeat first | exact trivial | refine ⟨rfl, ?_⟩) ?_
                    refine pk_wf (α := Nat × pk_M) (fun z => 8 - z.1) (fun z => z.1 ≤ c - 48 ∧ pk_fr pk_tD M z.2 ∧ pk_tp z.2 f n (sp_rs f n (sp_ltr f n (sp_bk f n (x + 1))) (sp_bk f n (x + 1))).2 w l (k + z.1) (sp_wr g (l * 8 + k) s z.1)) (fun z => z.2) (fun z => [some (.ref 88), some (.int (nI c)), none, some (.int (nI (c - 48))), some (.int (nI s)), some (.int (nI z.1))]) ?_ (0, (pk_sI M 88 3 (nI ((sp_rs f n (sp_ltr f n (sp_bk f n (x + 1))) (sp_bk f n (x + 1))).2)))) ⟨Nat.zero_le _, pk_fr.sI (Or.inl rfl), by rw [sp_wr0]; exact hT.x _⟩
                    rintro ⟨j, N⟩ ⟨hj, hF, hN⟩ K
                    dsimp only at hj hF hN K ⊢
                    have hWN := hF.wf hW
                    refine pk_iload dX5_readRun_92 rfl ?_
                    refine pk_iload_n dX5_readRun_94 rfl ?_
                    first | refine pk_geN (tgt := 110) dX5_readRun_95 (by decide) (by omega) (by omega) (fun c_95 => ?_) (fun c_95 => ?_) | refine pk_icmp_ge (tgt := 110) dX5_readRun_95 (by decide) (fun c_95 => ?_) (fun c_95 => ?_)
                    · refine pk_iconst (v := nI 1) dX5_readRun_110 (by decide) ?_
                      refine pk_reti dX5_readRun_111 (by first | rfl | exact pk_nbi _) ?_
                      have hj2 : j = c - 48 := by omega
                      subst hj2
                      rw [hrr, hrs]
                      refine ⟨rfl, hF, fun s' o' h => ?_, fun h => (by cases h)⟩
                      cases h
                      exact hN
                    · refine pk_aload_n dX5_readRun_98 rfl ?_
                      refine pk_iload dX5_readRun_99 rfl ?_
                      refine pk_Vv dX5_readRun_101 ml_X5_57 yw_X5_writeNext yv_X5_writeNext (hWN.s rfl) (e_X5_writeNext hWN hN.2.2.2.2.1 hN.2.2.2.2.2.1 (by omega) _) rfl rfl rfl rfl rfl rfl rfl ?_
                      first | refine pk_inc1 dX5_readRun_104 rfl rfl ?_ | refine pk_iinc dX5_readRun_104 rfl rfl rfl ?_
                      refine pk_goto (tgt := 92) dX5_readRun_107 (by decide) ?_
                      exact K (j + 1, _) ⟨by dsimp only; omega, hF.tr ((pk_fr.sI (Or.inr rfl)).tr (pk_fr.sI (Or.inl rfl))), hN.wr⟩ (by dsimp only; omega)
                  · exact absurd (nI_pos' (show s < 2 ^ 31 by omega)) c_84
            · refine pk_iconst (v := nI 0) dX5_readRun_56 (by decide) ?_
              refine pk_reti dX5_readRun_57 (by first | rfl | exact pk_nbi _) ?_
              have hrr : sp_rr f n c x w l k = (none, x) := by
                unfold sp_rr
                rw [ho, if_pos (by rw [hlim]; first | (rw [if_pos c_41]; omega) | (rw [if_neg c_41]; omega))]
              rw [hrr]
              exact ⟨rfl, pk_fr.rf _ _, fun s o h => (by cases h), fun _ => hT.2.2.1⟩
  · have ho : sp_of c = 1 := by unfold sp_of; rw [if_neg hfig]
    have hx1 : sp_x1 c x = x := by unfold sp_x1; rw [if_neg hfig]
    have hlim : sp_lim w l = (if l = 0 then 8 else w) := rfl
    refine pk_iload_n dX5_readRun_0 rfl ?_
    refine pk_bipush (v := nI 49) dX5_readRun_1 (by decide) ?_
    first | refine pk_ltN (tgt := 16) dX5_readRun_3 (by decide) (by omega) (by omega) (fun c_3 => ?_) (fun c_3 => ?_) | refine pk_icmp_lt (tgt := 16) dX5_readRun_3 (by decide) (fun c_3 => ?_) (fun c_3 => ?_)
    · refine pk_iconst (v := nI 0) dX5_readRun_16 (by decide) ?_
      refine pk_istore_n dX5_readRun_17 rfl rfl ?_
      refine pk_iload_n dX5_readRun_18 rfl ?_
      refine pk_eq0N (a := 0) (tgt := 29) dX5_readRun_19 (by decide) (by decide) (fun c_19 => ?_) (fun c_19 => ?_)
      · refine pk_iconst (v := nI 1) dX5_readRun_29 (by decide) ?_
        refine pk_istore_n dX5_readRun_30 rfl rfl ?_
        refine pk_aload_n dX5_readRun_31 rfl ?_
        refine pk_getN dX5_readRun_32 fl_X5_31 rfl (hW.s rfl) hT.2.2.2.2.2.1 ?_
        refine pk_iload_n dX5_readRun_35 rfl ?_
        first | refine pk_addN dX5_readRun_36 ?_ | refine pk_iadd dX5_readRun_36 ?_
        refine pk_aload_n dX5_readRun_37 rfl ?_
        refine pk_getN dX5_readRun_38 fl_X5_28 rfl (hW.s rfl) hT.2.2.2.2.1 ?_
        first | refine pk_neb (tgt := 49) dX5_readRun_41 (by decide) (fun c_41 => ?_) (fun c_41 => ?_) | refine pk_ne0N (tgt := 49) dX5_readRun_41 (by decide) (by omega) (fun c_41 => ?_) (fun c_41 => ?_) | refine pk_if_ne (tgt := 49) dX5_readRun_41 (by decide) (fun c_41 => ?_) (fun c_41 => ?_)
        · refine pk_aload_n dX5_readRun_49 rfl ?_
          refine pk_getN dX5_readRun_50 fl_X5_25 rfl (hW.s rfl) hT.2.2.2.1 ?_
          first | refine pk_leN (tgt := 58) dX5_readRun_53 (by decide) (by omega) (by omega) (fun c_53 => ?_) (fun c_53 => ?_) | refine pk_icmp_le (tgt := 58) dX5_readRun_53 (by decide) (fun c_53 => ?_) (fun c_53 => ?_)
          · refine pk_iload_n dX5_readRun_58 rfl ?_
            refine pk_eq0N (a := 0) (tgt := 72) dX5_readRun_59 (by decide) (by decide) (fun c_59 => ?_) (fun c_59 => ?_)
            · refine pk_Mq (pk_sI_id hT.2.2.1).symm ?_
              refine pk_aload_n dX5_readRun_72 rfl ?_
              refine pk_aload_n dX5_readRun_73 rfl ?_
              refine pk_Vg dX5_readRun_74 ml_X5_41 yw_X5_letterBehindBlanks yv_X5_letterBehindBlanks (hW.s rfl) (e_X5_letterBehindBlanks (M := (pk_sI M 88 3 (nI (x)))) (x := x) hW (pk_gS0 (by omega) hT.1) hn2 (fun i hi => pk_gS0 (by omega) (hT.2.1 i hi)) hf2 (pk_gS1 rfl rfl rfl) (by omega)) rfl rfl rfl rfl rfl rfl rfl (fun v M1 hv => ?_)
              obtain ⟨hv1, hv2⟩ := hv
              rw [pk_sI_sI] at hv2
              cases hv1
              subst hv2
              refine pk_Vg dX5_readRun_77 ml_X5_53 yw_X5_readSet yv_X5_readSet (hW.s rfl) (e_X5_readSet (M := (pk_sI M 88 3 (nI (sp_bk f n (x))))) (x := sp_bk f n (x)) (c := sp_ltr f n (sp_bk f n (x))) hW (pk_gS0 (by omega) hT.1) hn2 (fun i hi => pk_gS0 (by omega) (hT.2.1 i hi)) hf2 (pk_gS1 rfl rfl rfl) (sp_bk_le (by omega)) (sp_ltr_le hf2 _) sp_ltr_lt) rfl rfl rfl rfl rfl rfl rfl (fun v M1 hv => ?_)
              obtain ⟨hv1, hv2⟩ := hv
              rw [pk_sI_sI] at hv2
              cases hv1
              subst hv2
              have hrr : sp_rr f n c x w l k = ((sp_rs f n (sp_ltr f n (sp_bk f n (x))) (sp_bk f n (x))).1.map (fun s => (s, 1)), (sp_rs f n (sp_ltr f n (sp_bk f n (x))) (sp_bk f n (x))).2) := by
                unfold sp_rr
                rw [ho, hx1, if_neg (by rw [hlim]; first | (rw [if_pos c_41]; omega) | (rw [if_neg c_41]; omega))]
                rfl
              have hqk := (sp_rs_ok (f := f) (n := n) (c := sp_ltr f n (sp_bk f n (x))) (sp_bk_le (f := f) (show x ≤ n by omega)) sp_ltr_lt).2
              rcases hrs : (sp_rs f n (sp_ltr f n (sp_bk f n (x))) (sp_bk f n (x))).1 with _ | s
              · refine pk_istore dX5_readRun_80 rfl rfl ?_
                refine pk_iload dX5_readRun_82 rfl ?_
                refine pk_if_ge (tgt := 89) dX5_readRun_84 (by decide) (fun c_84 => ?_) (fun c_84 => ?_)
                · exact absurd c_84 (by decide)
                · refine pk_iconst (v := nI 0) dX5_readRun_87 (by decide) ?_
                  refine pk_reti dX5_readRun_88 (by first | rfl | exact pk_nbi _) ?_
                  rw [hrr, hrs]
                  exact ⟨rfl, pk_fr.sI (Or.inl rfl), fun s o h => (by cases h), fun _ => pk_gS1 rfl rfl rfl⟩
              · have hs := (hqk s hrs).1
                have hko : k + (1) ≤ 8 := by first | omega | (have := hw2; omega)
                refine pk_istore dX5_readRun_80 rfl rfl ?_
                refine pk_iload dX5_readRun_82 rfl ?_
                refine pk_if_ge (tgt := 89) dX5_readRun_84 (by decide) (fun c_84 => ?_) (fun c_84 => ?_)
                · refine pk_iconst (v := nI 0) dX5_readRun_89 (by decide) ?_
                  refine pk_istore dX5_readRun_90 rfl rfl ?_
                  refine pk_fgt (ls' := [some (.ref 88), some (.int (nI c)), none, some (.int (nI (1))), some (.int (nI s)), some (.int (nI 0))]) (by repeat first | exact trivial | refine ⟨rfl, ?_⟩) ?_
                  refine pk_wf (α := Nat × pk_M) (fun z => 8 - z.1) (fun z => z.1 ≤ 1 ∧ pk_fr pk_tD M z.2 ∧ pk_tp z.2 f n (sp_rs f n (sp_ltr f n (sp_bk f n (x))) (sp_bk f n (x))).2 w l (k + z.1) (sp_wr g (l * 8 + k) s z.1)) (fun z => z.2) (fun z => [some (.ref 88), some (.int (nI c)), none, some (.int (nI (1))), some (.int (nI s)), some (.int (nI z.1))]) ?_ (0, (pk_sI M 88 3 (nI ((sp_rs f n (sp_ltr f n (sp_bk f n (x))) (sp_bk f n (x))).2)))) ⟨Nat.zero_le _, pk_fr.sI (Or.inl rfl), by rw [sp_wr0]; exact hT.x _⟩
                  rintro ⟨j, N⟩ ⟨hj, hF, hN⟩ K
                  dsimp only at hj hF hN K ⊢
                  have hWN := hF.wf hW
                  refine pk_iload dX5_readRun_92 rfl ?_
                  refine pk_iload_n dX5_readRun_94 rfl ?_
                  first | refine pk_geN (tgt := 110) dX5_readRun_95 (by decide) (by omega) (by omega) (fun c_95 => ?_) (fun c_95 => ?_) | refine pk_icmp_ge (tgt := 110) dX5_readRun_95 (by decide) (fun c_95 => ?_) (fun c_95 => ?_)
                  · refine pk_iconst (v := nI 1) dX5_readRun_110 (by decide) ?_
                    refine pk_reti dX5_readRun_111 (by first | rfl | exact pk_nbi _) ?_
                    have hj2 : j = 1 := by omega
                    subst hj2
                    rw [hrr, hrs]
                    refine ⟨rfl, hF, fun s' o' h => ?_, fun h => (by cases h)⟩
                    cases h
                    exact hN
                  · refine pk_aload_n dX5_readRun_98 rfl ?_
                    refine pk_iload dX5_readRun_99 rfl ?_
                    refine pk_Vv dX5_readRun_101 ml_X5_57 yw_X5_writeNext yv_X5_writeNext (hWN.s rfl) (e_X5_writeNext hWN hN.2.2.2.2.1 hN.2.2.2.2.2.1 (by omega) _) rfl rfl rfl rfl rfl rfl rfl ?_
                    first | refine pk_inc1 dX5_readRun_104 rfl rfl ?_ | refine pk_iinc dX5_readRun_104 rfl rfl rfl ?_
                    refine pk_goto (tgt := 92) dX5_readRun_107 (by decide) ?_
                    exact K (j + 1, _) ⟨by dsimp only; omega, hF.tr ((pk_fr.sI (Or.inr rfl)).tr (pk_fr.sI (Or.inl rfl))), hN.wr⟩ (by dsimp only; omega)
                · exact absurd (nI_pos' (show s < 2 ^ 31 by omega)) c_84
            · exact absurd rfl c_59
          · refine pk_iconst (v := nI 0) dX5_readRun_56 (by decide) ?_
            refine pk_reti dX5_readRun_57 (by first | rfl | exact pk_nbi _) ?_
            have hrr : sp_rr f n c x w l k = (none, x) := by
              unfold sp_rr
              rw [ho, if_pos (by rw [hlim]; first | (rw [if_pos c_41]; omega) | (rw [if_neg c_41]; omega))]
            rw [hrr]
            exact ⟨rfl, pk_fr.rf _ _, fun s o h => (by cases h), fun _ => hT.2.2.1⟩
        · refine pk_bipush (v := nI 8) dX5_readRun_44 (by decide) ?_
          refine pk_goto (tgt := 53) dX5_readRun_46 (by decide) ?_
          first | refine pk_leN (tgt := 58) dX5_readRun_53 (by decide) (by omega) (by omega) (fun c_53 => ?_) (fun c_53 => ?_) | refine pk_icmp_le (tgt := 58) dX5_readRun_53 (by decide) (fun c_53 => ?_) (fun c_53 => ?_)
          · refine pk_iload_n dX5_readRun_58 rfl ?_
            refine pk_eq0N (a := 0) (tgt := 72) dX5_readRun_59 (by decide) (by decide) (fun c_59 => ?_) (fun c_59 => ?_)
            · refine pk_Mq (pk_sI_id hT.2.2.1).symm ?_
              refine pk_aload_n dX5_readRun_72 rfl ?_
              refine pk_aload_n dX5_readRun_73 rfl ?_
              refine pk_Vg dX5_readRun_74 ml_X5_41 yw_X5_letterBehindBlanks yv_X5_letterBehindBlanks (hW.s rfl) (e_X5_letterBehindBlanks (M := (pk_sI M 88 3 (nI (x)))) (x := x) hW (pk_gS0 (by omega) hT.1) hn2 (fun i hi => pk_gS0 (by omega) (hT.2.1 i hi)) hf2 (pk_gS1 rfl rfl rfl) (by omega)) rfl rfl rfl rfl rfl rfl rfl (fun v M1 hv => ?_)
              obtain ⟨hv1, hv2⟩ := hv
              rw [pk_sI_sI] at hv2
              cases hv1
              subst hv2
              refine pk_Vg dX5_readRun_77 ml_X5_53 yw_X5_readSet yv_X5_readSet (hW.s rfl) (e_X5_readSet (M := (pk_sI M 88 3 (nI (sp_bk f n (x))))) (x := sp_bk f n (x)) (c := sp_ltr f n (sp_bk f n (x))) hW (pk_gS0 (by omega) hT.1) hn2 (fun i hi => pk_gS0 (by omega) (hT.2.1 i hi)) hf2 (pk_gS1 rfl rfl rfl) (sp_bk_le (by omega)) (sp_ltr_le hf2 _) sp_ltr_lt) rfl rfl rfl rfl rfl rfl rfl (fun v M1 hv => ?_)
              obtain ⟨hv1, hv2⟩ := hv
              rw [pk_sI_sI] at hv2
              cases hv1
              subst hv2
              have hrr : sp_rr f n c x w l k = ((sp_rs f n (sp_ltr f n (sp_bk f n (x))) (sp_bk f n (x))).1.map (fun s => (s, 1)), (sp_rs f n (sp_ltr f n (sp_bk f n (x))) (sp_bk f n (x))).2) := by
                unfold sp_rr
                rw [ho, hx1, if_neg (by rw [hlim]; first | (rw [if_pos c_41]; omega) | (rw [if_neg c_41]; omega))]
                rfl
              have hqk := (sp_rs_ok (f := f) (n := n) (c := sp_ltr f n (sp_bk f n (x))) (sp_bk_le (f := f) (show x ≤ n by omega)) sp_ltr_lt).2
              rcases hrs : (sp_rs f n (sp_ltr f n (sp_bk f n (x))) (sp_bk f n (x))).1 with _ | s
              · refine pk_istore dX5_readRun_80 rfl rfl ?_
                refine pk_iload dX5_readRun_82 rfl ?_
                refine pk_if_ge (tgt := 89) dX5_readRun_84 (by decide) (fun c_84 => ?_) (fun c_84 => ?_)
                · exact absurd c_84 (by decide)
                · refine pk_iconst (v := nI 0) dX5_readRun_87 (by decide) ?_
                  refine pk_reti dX5_readRun_88 (by first | rfl | exact pk_nbi _) ?_
                  rw [hrr, hrs]
                  exact ⟨rfl, pk_fr.sI (Or.inl rfl), fun s o h => (by cases h), fun _ => pk_gS1 rfl rfl rfl⟩
              · have hs := (hqk s hrs).1
                have hko : k + (1) ≤ 8 := by first | omega | (have := hw2; omega)
                refine pk_istore dX5_readRun_80 rfl rfl ?_
                refine pk_iload dX5_readRun_82 rfl ?_
                refine pk_if_ge (tgt := 89) dX5_readRun_84 (by decide) (fun c_84 => ?_) (fun c_84 => ?_)
                · refine pk_iconst (v := nI 0) dX5_readRun_89 (by decide) ?_
                  refine pk_istore dX5_readRun_90 rfl rfl ?_
                  refine pk_fgt (ls' := [some (.ref 88), some (.int (nI c)), none, some (.int (nI (1))), some (.int (nI s)), some (.int (nI 0))]) (by repeat first | exact trivial | refine ⟨rfl, ?_⟩) ?_
                  refine pk_wf (α := Nat × pk_M) (fun z => 8 - z.1) (fun z => z.1 ≤ 1 ∧ pk_fr pk_tD M z.2 ∧ pk_tp z.2 f n (sp_rs f n (sp_ltr f n (sp_bk f n (x))) (sp_bk f n (x))).2 w l (k + z.1) (sp_wr g (l * 8 + k) s z.1)) (fun z => z.2) (fun z => [some (.ref 88), some (.int (nI c)), none, some (.int (nI (1))), some (.int (nI s)), some (.int (nI z.1))]) ?_ (0, (pk_sI M 88 3 (nI ((sp_rs f n (sp_ltr f n (sp_bk f n (x))) (sp_bk f n (x))).2)))) ⟨Nat.zero_le _, pk_fr.sI (Or.inl rfl), by rw [sp_wr0]; exact hT.x _⟩
                  rintro ⟨j, N⟩ ⟨hj, hF, hN⟩ K
                  dsimp only at hj hF hN K ⊢
                  have hWN := hF.wf hW
                  refine pk_iload dX5_readRun_92 rfl ?_
                  refine pk_iload_n dX5_readRun_94 rfl ?_
                  first | refine pk_geN (tgt := 110) dX5_readRun_95 (by decide) (by omega) (by omega) (fun c_95 => ?_) (fun c_95 => ?_) | refine pk_icmp_ge (tgt := 110) dX5_readRun_95 (by decide) (fun c_95 => ?_) (fun c_95 => ?_)
                  · refine pk_iconst (v := nI 1) dX5_readRun_110 (by decide) ?_
                    refine pk_reti dX5_readRun_111 (by first | rfl | exact pk_nbi _) ?_
                    have hj2 : j = 1 := by omega
                    subst hj2
                    rw [hrr, hrs]
                    refine ⟨rfl, hF, fun s' o' h => ?_, fun h => (by cases h)⟩
                    cases h
                    exact hN
                  · refine pk_aload_n dX5_readRun_98 rfl ?_
                    refine pk_iload dX5_readRun_99 rfl ?_
                    refine pk_Vv dX5_readRun_101 ml_X5_57 yw_X5_writeNext yv_X5_writeNext (hWN.s rfl) (e_X5_writeNext hWN hN.2.2.2.2.1 hN.2.2.2.2.2.1 (by omega) _) rfl rfl rfl rfl rfl rfl rfl ?_
                    first | refine pk_inc1 dX5_readRun_104 rfl rfl ?_ | refine pk_iinc dX5_readRun_104 rfl rfl rfl ?_
                    refine pk_goto (tgt := 92) dX5_readRun_107 (by decide) ?_
                    exact K (j + 1, _) ⟨by dsimp only; omega, hF.tr ((pk_fr.sI (Or.inr rfl)).tr (pk_fr.sI (Or.inl rfl))), hN.wr⟩ (by dsimp only; omega)
                · exact absurd (nI_pos' (show s < 2 ^ 31 by omega)) c_84
            · exact absurd rfl c_59
          · refine pk_iconst (v := nI 0) dX5_readRun_56 (by decide) ?_
            refine pk_reti dX5_readRun_57 (by first | rfl | exact pk_nbi _) ?_
            have hrr : sp_rr f n c x w l k = (none, x) := by
              unfold sp_rr
              rw [ho, if_pos (by rw [hlim]; first | (rw [if_pos c_41]; omega) | (rw [if_neg c_41]; omega))]
            rw [hrr]
            exact ⟨rfl, pk_fr.rf _ _, fun s o h => (by cases h), fun _ => hT.2.2.1⟩
      · exact absurd rfl c_19
    · refine pk_iload_n dX5_readRun_6 rfl ?_
      refine pk_bipush (v := nI 56) dX5_readRun_7 (by decide) ?_
      first | refine pk_gtN (tgt := 16) dX5_readRun_9 (by decide) (by omega) (by omega) (fun c_9 => ?_) (fun c_9 => ?_) | refine pk_icmp_gt (tgt := 16) dX5_readRun_9 (by decide) (fun c_9 => ?_) (fun c_9 => ?_)
      · refine pk_iconst (v := nI 0) dX5_readRun_16 (by decide) ?_
        refine pk_istore_n dX5_readRun_17 rfl rfl ?_
        refine pk_iload_n dX5_readRun_18 rfl ?_
        refine pk_eq0N (a := 0) (tgt := 29) dX5_readRun_19 (by decide) (by decide) (fun c_19 => ?_) (fun c_19 => ?_)
        · refine pk_iconst (v := nI 1) dX5_readRun_29 (by decide) ?_
          refine pk_istore_n dX5_readRun_30 rfl rfl ?_
          refine pk_aload_n dX5_readRun_31 rfl ?_
          refine pk_getN dX5_readRun_32 fl_X5_31 rfl (hW.s rfl) hT.2.2.2.2.2.1 ?_
          refine pk_iload_n dX5_readRun_35 rfl ?_
          first | refine pk_addN dX5_readRun_36 ?_ | refine pk_iadd dX5_readRun_36 ?_
          refine pk_aload_n dX5_readRun_37 rfl ?_
          refine pk_getN dX5_readRun_38 fl_X5_28 rfl (hW.s rfl) hT.2.2.2.2.1 ?_
          first | refine pk_neb (tgt := 49) dX5_readRun_41 (by decide) (fun c_41 => ?_) (fun c_41 => ?_) | refine pk_ne0N (tgt := 49) dX5_readRun_41 (by decide) (by omega) (fun c_41 => ?_) (fun c_41 => ?_) | refine pk_if_ne (tgt := 49) dX5_readRun_41 (by decide) (fun c_41 => ?_) (fun c_41 => ?_)
          · refine pk_aload_n dX5_readRun_49 rfl ?_
            refine pk_getN dX5_readRun_50 fl_X5_25 rfl (hW.s rfl) hT.2.2.2.1 ?_
            first | refine pk_leN (tgt := 58) dX5_readRun_53 (by decide) (by omega) (by omega) (fun c_53 => ?_) (fun c_53 => ?_) | refine pk_icmp_le (tgt := 58) dX5_readRun_53 (by decide) (fun c_53 => ?_) (fun c_53 => ?_)
            · refine pk_iload_n dX5_readRun_58 rfl ?_
              refine pk_eq0N (a := 0) (tgt := 72) dX5_readRun_59 (by decide) (by decide) (fun c_59 => ?_) (fun c_59 => ?_)
              · refine pk_Mq (pk_sI_id hT.2.2.1).symm ?_
                refine pk_aload_n dX5_readRun_72 rfl ?_
                refine pk_aload_n dX5_readRun_73 rfl ?_
                refine pk_Vg dX5_readRun_74 ml_X5_41 yw_X5_letterBehindBlanks yv_X5_letterBehindBlanks (hW.s rfl) (e_X5_letterBehindBlanks (M := (pk_sI M 88 3 (nI (x)))) (x := x) hW (pk_gS0 (by omega) hT.1) hn2 (fun i hi => pk_gS0 (by omega) (hT.2.1 i hi)) hf2 (pk_gS1 rfl rfl rfl) (by omega)) rfl rfl rfl rfl rfl rfl rfl (fun v M1 hv => ?_)
                obtain ⟨hv1, hv2⟩ := hv
                rw [pk_sI_sI] at hv2
                cases hv1
                subst hv2
                refine pk_Vg dX5_readRun_77 ml_X5_53 yw_X5_readSet yv_X5_readSet (hW.s rfl) (e_X5_readSet (M := (pk_sI M 88 3 (nI (sp_bk f n (x))))) (x := sp_bk f n (x)) (c := sp_ltr f n (sp_bk f n (x))) hW (pk_gS0 (by omega) hT.1) hn2 (fun i hi => pk_gS0 (by omega) (hT.2.1 i hi)) hf2 (pk_gS1 rfl rfl rfl) (sp_bk_le (by omega)) (sp_ltr_le hf2 _) sp_ltr_lt) rfl rfl rfl rfl rfl rfl rfl (fun v M1 hv => ?_)
                obtain ⟨hv1, hv2⟩ := hv
                rw [pk_sI_sI] at hv2
                cases hv1
                subst hv2
                have hrr : sp_rr f n c x w l k = ((sp_rs f n (sp_ltr f n (sp_bk f n (x))) (sp_bk f n (x))).1.map (fun s => (s, 1)), (sp_rs f n (sp_ltr f n (sp_bk f n (x))) (sp_bk f n (x))).2) := by
                  unfold sp_rr
                  rw [ho, hx1, if_neg (by rw [hlim]; first | (rw [if_pos c_41]; omega) | (rw [if_neg c_41]; omega))]
                  rfl
                have hqk := (sp_rs_ok (f := f) (n := n) (c := sp_ltr f n (sp_bk f n (x))) (sp_bk_le (f := f) (show x ≤ n by omega)) sp_ltr_lt).2
                rcases hrs : (sp_rs f n (sp_ltr f n (sp_bk f n (x))) (sp_bk f n (x))).1 with _ | s
                · refine pk_istore dX5_readRun_80 rfl rfl ?_
                  refine pk_iload dX5_readRun_82 rfl ?_
                  refine pk_if_ge (tgt := 89) dX5_readRun_84 (by decide) (fun c_84 => ?_) (fun c_84 => ?_)
                  · exact absurd c_84 (by decide)
                  · refine pk_iconst (v := nI 0) dX5_readRun_87 (by decide) ?_
                    refine pk_reti dX5_readRun_88 (by first | rfl | exact pk_nbi _) ?_
                    rw [hrr, hrs]
                    exact ⟨rfl, pk_fr.sI (Or.inl rfl), fun s o h => (by cases h), fun _ => pk_gS1 rfl rfl rfl⟩
                · have hs := (hqk s hrs).1
                  have hko : k + (1) ≤ 8 := by first | omega | (have := hw2; omega)
                  refine pk_istore dX5_readRun_80 rfl rfl ?_
                  refine pk_iload dX5_readRun_82 rfl ?_
                  refine pk_if_ge (tgt := 89) dX5_readRun_84 (by decide) (fun c_84 => ?_) (fun c_84 => ?_)
                  · refine pk_iconst (v := nI 0) dX5_readRun_89 (by decide) ?_
                    refine pk_istore dX5_readRun_90 rfl rfl ?_
                    refine pk_fgt (ls' := [some (.ref 88), some (.int (nI c)), none, some (.int (nI (1))), some (.int (nI s)), some (.int (nI 0))]) (by repeat first | exact trivial | refine ⟨rfl, ?_⟩) ?_
                    refine pk_wf (α := Nat × pk_M) (fun z => 8 - z.1) (fun z => z.1 ≤ 1 ∧ pk_fr pk_tD M z.2 ∧ pk_tp z.2 f n (sp_rs f n (sp_ltr f n (sp_bk f n (x))) (sp_bk f n (x))).2 w l (k + z.1) (sp_wr g (l * 8 + k) s z.1)) (fun z => z.2) (fun z => [some (.ref 88), some (.int (nI c)), none, some (.int (nI (1))), some (.int (nI s)), some (.int (nI z.1))]) ?_ (0, (pk_sI M 88 3 (nI ((sp_rs f n (sp_ltr f n (sp_bk f n (x))) (sp_bk f n (x))).2)))) ⟨Nat.zero_le _, pk_fr.sI (Or.inl rfl), by rw [sp_wr0]; exact hT.x _⟩
                    rintro ⟨j, N⟩ ⟨hj, hF, hN⟩ K
                    dsimp only at hj hF hN K ⊢
                    have hWN := hF.wf hW
                    refine pk_iload dX5_readRun_92 rfl ?_
                    refine pk_iload_n dX5_readRun_94 rfl ?_
                    first | refine pk_geN (tgt := 110) dX5_readRun_95 (by decide) (by omega) (by omega) (fun c_95 => ?_) (fun c_95 => ?_) | refine pk_icmp_ge (tgt := 110) dX5_readRun_95 (by decide) (fun c_95 => ?_) (fun c_95 => ?_)
                    · refine pk_iconst (v := nI 1) dX5_readRun_110 (by decide) ?_
                      refine pk_reti dX5_readRun_111 (by first | rfl | exact pk_nbi _) ?_
                      have hj2 : j = 1 := by omega
                      subst hj2
                      rw [hrr, hrs]
                      refine ⟨rfl, hF, fun s' o' h => ?_, fun h => (by cases h)⟩
                      cases h
                      exact hN
                    · refine pk_aload_n dX5_readRun_98 rfl ?_
                      refine pk_iload dX5_readRun_99 rfl ?_
                      refine pk_Vv dX5_readRun_101 ml_X5_57 yw_X5_writeNext yv_X5_writeNext (hWN.s rfl) (e_X5_writeNext hWN hN.2.2.2.2.1 hN.2.2.2.2.2.1 (by omega) _) rfl rfl rfl rfl rfl rfl rfl ?_
                      first | refine pk_inc1 dX5_readRun_104 rfl rfl ?_ | refine pk_iinc dX5_readRun_104 rfl rfl rfl ?_
                      refine pk_goto (tgt := 92) dX5_readRun_107 (by decide) ?_
                      exact K (j + 1, _) ⟨by dsimp only; omega, hF.tr ((pk_fr.sI (Or.inr rfl)).tr (pk_fr.sI (Or.inl rfl))), hN.wr⟩ (by dsimp only; omega)
                  · exact absurd (nI_pos' (show s < 2 ^ 31 by omega)) c_84
              · exact absurd rfl c_59
            · refine pk_iconst (v := nI 0) dX5_readRun_56 (by decide) ?_
              refine pk_reti dX5_readRun_57 (by first | rfl | exact pk_nbi _) ?_
              have hrr : sp_rr f n c x w l k = (none, x) := by
                unfold sp_rr
                rw [ho, if_pos (by rw [hlim]; first | (rw [if_pos c_41]; omega) | (rw [if_neg c_41]; omega))]
              rw [hrr]
              exact ⟨rfl, pk_fr.rf _ _, fun s o h => (by cases h), fun _ => hT.2.2.1⟩
          · refine pk_bipush (v := nI 8) dX5_readRun_44 (by decide) ?_
            refine pk_goto (tgt := 53) dX5_readRun_46 (by decide) ?_
            first | refine pk_leN (tgt := 58) dX5_readRun_53 (by decide) (by omega) (by omega) (fun c_53 => ?_) (fun c_53 => ?_) | refine pk_icmp_le (tgt := 58) dX5_readRun_53 (by decide) (fun c_53 => ?_) (fun c_53 => ?_)
            · refine pk_iload_n dX5_readRun_58 rfl ?_
              refine pk_eq0N (a := 0) (tgt := 72) dX5_readRun_59 (by decide) (by decide) (fun c_59 => ?_) (fun c_59 => ?_)
              · refine pk_Mq (pk_sI_id hT.2.2.1).symm ?_
                refine pk_aload_n dX5_readRun_72 rfl ?_
                refine pk_aload_n dX5_readRun_73 rfl ?_
                refine pk_Vg dX5_readRun_74 ml_X5_41 yw_X5_letterBehindBlanks yv_X5_letterBehindBlanks (hW.s rfl) (e_X5_letterBehindBlanks (M := (pk_sI M 88 3 (nI (x)))) (x := x) hW (pk_gS0 (by omega) hT.1) hn2 (fun i hi => pk_gS0 (by omega) (hT.2.1 i hi)) hf2 (pk_gS1 rfl rfl rfl) (by omega)) rfl rfl rfl rfl rfl rfl rfl (fun v M1 hv => ?_)
                obtain ⟨hv1, hv2⟩ := hv
                rw [pk_sI_sI] at hv2
                cases hv1
                subst hv2
                refine pk_Vg dX5_readRun_77 ml_X5_53 yw_X5_readSet yv_X5_readSet (hW.s rfl) (e_X5_readSet (M := (pk_sI M 88 3 (nI (sp_bk f n (x))))) (x := sp_bk f n (x)) (c := sp_ltr f n (sp_bk f n (x))) hW (pk_gS0 (by omega) hT.1) hn2 (fun i hi => pk_gS0 (by omega) (hT.2.1 i hi)) hf2 (pk_gS1 rfl rfl rfl) (sp_bk_le (by omega)) (sp_ltr_le hf2 _) sp_ltr_lt) rfl rfl rfl rfl rfl rfl rfl (fun v M1 hv => ?_)
                obtain ⟨hv1, hv2⟩ := hv
                rw [pk_sI_sI] at hv2
                cases hv1
                subst hv2
                have hrr : sp_rr f n c x w l k = ((sp_rs f n (sp_ltr f n (sp_bk f n (x))) (sp_bk f n (x))).1.map (fun s => (s, 1)), (sp_rs f n (sp_ltr f n (sp_bk f n (x))) (sp_bk f n (x))).2) := by
                  unfold sp_rr
                  rw [ho, hx1, if_neg (by rw [hlim]; first | (rw [if_pos c_41]; omega) | (rw [if_neg c_41]; omega))]
                  rfl
                have hqk := (sp_rs_ok (f := f) (n := n) (c := sp_ltr f n (sp_bk f n (x))) (sp_bk_le (f := f) (show x ≤ n by omega)) sp_ltr_lt).2
                rcases hrs : (sp_rs f n (sp_ltr f n (sp_bk f n (x))) (sp_bk f n (x))).1 with _ | s
                · refine pk_istore dX5_readRun_80 rfl rfl ?_
                  refine pk_iload dX5_readRun_82 rfl ?_
                  refine pk_if_ge (tgt := 89) dX5_readRun_84 (by decide) (fun c_84 => ?_) (fun c_84 => ?_)
                  · exact absurd c_84 (by decide)
                  · refine pk_iconst (v := nI 0) dX5_readRun_87 (by decide) ?_
                    refine pk_reti dX5_readRun_88 (by first | rfl | exact pk_nbi _) ?_
                    rw [hrr, hrs]
                    exact ⟨rfl, pk_fr.sI (Or.inl rfl), fun s o h => (by cases h), fun _ => pk_gS1 rfl rfl rfl⟩
                · have hs := (hqk s hrs).1
                  have hko : k + (1) ≤ 8 := by first | omega | (have := hw2; omega)
                  refine pk_istore dX5_readRun_80 rfl rfl ?_
                  refine pk_iload dX5_readRun_82 rfl ?_
                  refine pk_if_ge (tgt := 89) dX5_readRun_84 (by decide) (fun c_84 => ?_) (fun c_84 => ?_)
                  · refine pk_iconst (v := nI 0) dX5_readRun_89 (by decide) ?_
                    refine pk_istore dX5_readRun_90 rfl rfl ?_
                    refine pk_fgt (ls' := [some (.ref 88), some (.int (nI c)), none, some (.int (nI (1))), some (.int (nI s)), some (.int (nI 0))]) (by repeat first | exact trivial | refine ⟨rfl, ?_⟩) ?_
                    refine pk_wf (α := Nat × pk_M) (fun z => 8 - z.1) (fun z => z.1 ≤ 1 ∧ pk_fr pk_tD M z.2 ∧ pk_tp z.2 f n (sp_rs f n (sp_ltr f n (sp_bk f n (x))) (sp_bk f n (x))).2 w l (k + z.1) (sp_wr g (l * 8 + k) s z.1)) (fun z => z.2) (fun z => [some (.ref 88), some (.int (nI c)), none, some (.int (nI (1))), some (.int (nI s)), some (.int (nI z.1))]) ?_ (0, (pk_sI M 88 3 (nI ((sp_rs f n (sp_ltr f n (sp_bk f n (x))) (sp_bk f n (x))).2)))) ⟨Nat.zero_le _, pk_fr.sI (Or.inl rfl), by rw [sp_wr0]; exact hT.x _⟩
                    rintro ⟨j, N⟩ ⟨hj, hF, hN⟩ K
                    dsimp only at hj hF hN K ⊢
                    have hWN := hF.wf hW
                    refine pk_iload dX5_readRun_92 rfl ?_
                    refine pk_iload_n dX5_readRun_94 rfl ?_
                    first | refine pk_geN (tgt := 110) dX5_readRun_95 (by decide) (by omega) (by omega) (fun c_95 => ?_) (fun c_95 => ?_) | refine pk_icmp_ge (tgt := 110) dX5_readRun_95 (by decide) (fun c_95 => ?_) (fun c_95 => ?_)
                    · refine pk_iconst (v := nI 1) dX5_readRun_110 (by decide) ?_
                      refine pk_reti dX5_readRun_111 (by first | rfl | exact pk_nbi _) ?_
                      have hj2 : j = 1 := by omega
                      subst hj2
                      rw [hrr, hrs]
                      refine ⟨rfl, hF, fun s' o' h => ?_, fun h => (by cases h)⟩
                      cases h
                      exact hN
                    · refine pk_aload_n dX5_readRun_98 rfl ?_
                      refine pk_iload dX5_readRun_99 rfl ?_
                      refine pk_Vv dX5_readRun_101 ml_X5_57 yw_X5_writeNext yv_X5_writeNext (hWN.s rfl) (e_X5_writeNext hWN hN.2.2.2.2.1 hN.2.2.2.2.2.1 (by omega) _) rfl rfl rfl rfl rfl rfl rfl ?_
                      first | refine pk_inc1 dX5_readRun_104 rfl rfl ?_ | refine pk_iinc dX5_readRun_104 rfl rfl rfl ?_
                      refine pk_goto (tgt := 92) dX5_readRun_107 (by decide) ?_
                      exact K (j + 1, _) ⟨by dsimp only; omega, hF.tr ((pk_fr.sI (Or.inr rfl)).tr (pk_fr.sI (Or.inl rfl))), hN.wr⟩ (by dsimp only; omega)
                  · exact absurd (nI_pos' (show s < 2 ^ 31 by omega)) c_84
              · exact absurd rfl c_59
            · refine pk_iconst (v := nI 0) dX5_readRun_56 (by decide) ?_
              refine pk_reti dX5_readRun_57 (by first | rfl | exact pk_nbi _) ?_
              have hrr : sp_rr f n c x w l k = (none, x) := by
                unfold sp_rr
                rw [ho, if_pos (by rw [hlim]; first | (rw [if_pos c_41]; omega) | (rw [if_neg c_41]; omega))]
              rw [hrr]
              exact ⟨rfl, pk_fr.rf _ _, fun s o h => (by cases h), fun _ => hT.2.2.1⟩
        · exact absurd rfl c_19
      · omega
