/-! The model: runs, lines, texts. -/
theorem sp_mi_fix {f : Nat → Nat} {n : Nat} (k : Nat) : ∀ s x, n - x < k → (sp_mi f n k s x).1 = none → sp_bk f n (sp_mi f n k s x).2 = (sp_mi f n k s x).2 := by
  induction k with
  | zero => intro s x h; omega
  | succ k ih =>
    intro s x h
    have hg := sp_bk_ge f n x
    rw [sp_mi]
    split
    · intro h2; cases h2
    · split
      · exact fun _ => sp_bk_fix f n x
      · rename_i h2
        have hil := sp_il_of (Bool.not_eq_false _ ▸ h2)
        have hl := sp_ltr_lt (f := f) (n := n) (y := sp_bk f n x) (by omega)
        exact ih _ _ (by omega)
theorem sp_rq_fix {f : Nat → Nat} {n x : Nat} (hn : n ≤ 100) : (sp_rq f n x).1 = none → sp_bk f n (sp_rq f n x).2 = (sp_rq f n x).2 := by
  unfold sp_rq sp_rs
  split
  · exact sp_mi_fix 101 0 _ (by omega)
  · split
    · intro h; cases h
    · split
      · intro h; cases h
      · exact fun _ => sp_bk_fix f n x
theorem sp_rr_fix {f : Nat → Nat} {n c y w l k : Nat} (hn : n ≤ 100) (hy : sp_bk f n y = y) : (sp_rr f n c y w l k).1 = none → sp_bk f n (sp_rr f n c y w l k).2 = (sp_rr f n c y w l k).2 := by
  unfold sp_rr
  split
  · exact fun _ => hy
  · intro h
    exact sp_rq_fix hn (Option.map_eq_none_iff.mp h)
theorem sp_isR_of {c : Nat} (h : sp_isR c = true) : c ≠ 0 ∧ c ≠ 47 := by
  unfold sp_isR sp_il at h
  simp only [Bool.or_eq_true, Bool.and_eq_true, decide_eq_true_eq, beq_iff_eq] at h
  omega
theorem sp_isR_no {c : Nat} (h : sp_isR c = false) : ¬ (49 ≤ c ∧ c ≤ 56) ∧ c ≠ 46 ∧ c ≠ 40 ∧ sp_il c = false := by
  unfold sp_isR at h
  simp only [Bool.or_eq_false_iff, Bool.and_eq_false_iff, decide_eq_false_iff_not, beq_eq_false_iff_ne] at h
  refine ⟨?_, h.1.1.2, h.1.2, h.2⟩
  have := h.1.1.1
  omega
def pm_bad (R : Bool × sp_Z) (f : Nat → Nat) (n p : Nat) : Prop := R.1 = false ∧ R.2.1 = p ∧ sp_bk f n p = p ∧ p ≤ n
def pm_ln (R : Bool × sp_Z) (f : Nat → Nat) (n y k l : Nat) (g : Nat → Nat) (u : Nat) : Prop := sp_bk f n y = y ∧ y ≤ n ∧ (1 ≤ k ∧ k ≤ 8) ∧ l ≤ 6 ∧ (y < n → n - (y + 1) < u) ∧ (sp_ltr f n y = 0 → R = (true, (y, k, l, 0, g))) ∧ (sp_ltr f n y = 47 → l < 6 → R = sp_rd f n u (y + 1, k, l, 0, g)) ∧ (sp_ltr f n y ≠ 0 → ¬ (sp_ltr f n y = 47 ∧ l < 6) → R.1 = false ∧ R.2.1 = y)
theorem sp_rd_some {f g : Nat → Nat} {n u x w l k : Nat} {R : Bool × sp_Z} (h : sp_rd f n (u + 1) (x, w, l, k, g) = R) (hr : sp_isR (sp_ltr f n (sp_bk f n x)) = true) {so : Nat × Nat} (hso : (sp_rr f n (sp_ltr f n (sp_bk f n x)) (sp_bk f n x) w l k).1 = some so) : sp_rd f n u ((sp_rr f n (sp_ltr f n (sp_bk f n x)) (sp_bk f n x) w l k).2, w, l, k + so.2, sp_wr g (l * 8 + k) so.1 so.2) = R := by
  have h0 := sp_isR_of hr
  rw [sp_rd] at h
  dsimp only at h
  rw [if_neg h0.1, if_neg h0.2, hso] at h
  exact h
theorem sp_rd_none {f g : Nat → Nat} {n u x w l k : Nat} {R : Bool × sp_Z} (hn : n ≤ 100) (h : sp_rd f n (u + 1) (x, w, l, k, g) = R) (hr : sp_isR (sp_ltr f n (sp_bk f n x)) = true) (hno : (sp_rr f n (sp_ltr f n (sp_bk f n x)) (sp_bk f n x) w l k).1 = none) : pm_bad R f n (sp_rr f n (sp_ltr f n (sp_bk f n x)) (sp_bk f n x) w l k).2 := by
  have h0 := sp_isR_of hr
  have hyn := sp_ltr_lt h0.1
  rw [sp_rd] at h
  dsimp only at h
  rw [if_neg h0.1, if_neg h0.2, hno] at h
  dsimp only at h
  rw [← h]
  exact ⟨rfl, rfl, sp_rr_fix hn (sp_bk_fix f n x) hno, (sp_rr_ok hyn).1⟩
theorem sp_rr_no {f : Nat → Nat} {n y w l k : Nat} (hy : sp_bk f n y = y) (h : sp_isR (sp_ltr f n y) = false) : sp_rr f n (sp_ltr f n y) y w l k = (none, y) := by
  obtain ⟨h1, h2, h3, h4⟩ := sp_isR_no h
  unfold sp_rr sp_x1
  rw [if_neg h1]
  split
  · rfl
  · unfold sp_rq sp_rs
    rw [hy, if_neg h3, if_neg h2, if_neg (by rw [h4]; decide)]
    rfl
theorem sp_rd_el0 {f g : Nat → Nat} {n u x w l k : Nat} {R : Bool × sp_Z} (hx : x ≤ n) (h : sp_rd f n (u + 1) (x, w, l, k, g) = R) (hr : sp_isR (sp_ltr f n (sp_bk f n x)) = false) (he : sp_el w l k = false) : pm_bad R f n (sp_bk f n x) := by
  have hy := sp_bk_fix f n x
  rw [sp_rd] at h
  dsimp only at h
  rw [he, sp_rr_no hy hr] at h
  dsimp only at h
  refine ⟨?_, ?_, hy, sp_bk_le hx⟩
  · rw [← h]
    split
    · rfl
    · split
      · rw [if_neg (fun z => by cases z.1)]
      · rfl
  · rw [← h]
    split
    · rfl
    · split
      · rw [if_neg (fun z => by cases z.1)]
      · rfl
theorem sp_rd_el1 {f g : Nat → Nat} {n u x w l k : Nat} {R : Bool × sp_Z} (hx : x ≤ n) (hu : n - x < u + 1) (hk : k ≤ 8) (hl : l < 6) (h : sp_rd f n (u + 1) (x, w, l, k, g) = R) (hr : sp_isR (sp_ltr f n (sp_bk f n x)) = false) (he : sp_el w l k = true) : pm_ln R f n (sp_bk f n x) k (l + 1) g u := by
  have hy := sp_bk_fix f n x
  have hyg := sp_bk_ge f n x
  have hel := sp_el_of he
  rw [sp_rd] at h
  dsimp only at h
  rw [he, sp_rr_no hy hr] at h
  dsimp only at h
  refine ⟨hy, sp_bk_le hx, ⟨by omega, hk⟩, by omega, fun z => by omega, fun z => ?_, fun z z2 => ?_, fun z z2 => ?_⟩
  · rw [if_pos z] at h
    exact h.symm
  · rw [if_neg (by omega), if_pos z, if_pos ⟨rfl, z2⟩] at h
    exact h.symm
  · rw [if_neg z] at h
    rw [← h]
    split
    · rename_i z3
      rw [if_neg (fun z4 => z2 ⟨z3, z4.2⟩)]
      exact ⟨rfl, rfl⟩
    · exact ⟨rfl, rfl⟩

theorem pm_fig {c : Nat} (h : (decide (49 ≤ c) && decide (c ≤ 56)) = true) : 49 ≤ c ∧ c ≤ 56 := by
  rw [Bool.and_eq_true, decide_eq_true_eq, decide_eq_true_eq] at h
  exact h
theorem pm_nfig {c : Nat} (h : (decide (49 ≤ c) && decide (c ≤ 56)) = false) : ¬ (49 ≤ c ∧ c ≤ 56) := fun z => by
  rw [decide_eq_true z.1, decide_eq_true z.2] at h
  cases h

set_option maxRecDepth 100000 in
set_option maxHeartbeats 4000000 in
theorem e_X7_readsRun {Γ : pk_T} {M : pk_M} {L n y w l k : Nat} {f : Nat → Nat} (hW : pk_WF L M) (hn : pk_I M 103 8 = nI n) (hn2 : n ≤ 100) (hf : ∀ i, i < n → pk_I M 110 i = nI (f i)) (hf2 : ∀ i, i < n → f i ≤ 126) (hx : pk_I M 103 9 = nI y) (hyf : sp_bk f n y = y) (hyn : y < n) (h12 : pk_I M 103 12 = nI l) (h13 : pk_I M 103 13 = nI k) (hl6 : l < 6) (hlim : sp_lim w l ≤ 8) (hkl : k ≤ sp_lim w l) : pk_E Γ yX7_readsRun cX7_readsRun 6 (some .boolean) 2 0 0 M [.ref 103, .int (nI (sp_lim w l - k))] (fun r M' => r = some (.int (pk_bi (sp_rr f n (sp_ltr f n y) y w l k).1.isSome)) ∧ pk_fr (fun q => q = 103 ∨ q = 111) M M' ∧ (∀ j, j ≠ 9 → j ≠ 13 → pk_I M' 103 j = pk_I M 103 j) ∧ pk_I M' 103 9 = nI (sp_rr f n (sp_ltr f n y) y w l k).2 ∧ (∀ s o, (sp_rr f n (sp_ltr f n y) y w l k).1 = some (s, o) → pk_I M' 103 13 = nI (k + o) ∧ ∀ q, pk_I M' 111 q = if l * 8 + k ≤ q ∧ q < l * 8 + k + o then nI s else pk_I M 111 q)) := by
  refine pk_meth (own := RX7) (ini := false) [some (.ref 103), some (.int (nI (sp_lim w l - k))), none, none, none, none] (by decide +kernel) rfl (by decide +kernel) rfl rfl ?_
  have hcl := sp_ltr_le hf2 y
  refine pk_aload_n dX7_readsRun_0 rfl ?_
  refine pk_Vi dX7_readsRun_1 ml_X7_244 yw_X7_here yv_X7_here (hW.s rfl) (e_X7_hereY hW hn hn2 hf hf2 hx (by omega) hyf) rfl rfl rfl rfl rfl rfl rfl ?_
  refine pk_istore_n dX7_readsRun_4 rfl rfl ?_
  refine pk_iload_n dX7_readsRun_5 rfl ?_
  refine pk_i2l dX7_readsRun_6 ?_
  refine pk_ldc2 dX7_readsRun_7 kc_X7_247 ?_
  refine pk_ldc2 dX7_readsRun_10 kc_X7_249 ?_
  refine pk_Si dX7_readsRun_13 ml_X7_59 yw_X7_in ys_X7_in (e_X7_inN (lo := 49) (hi := 56) (by omega) (by decide) (by decide) (by decide) (by decide)) rfl rfl rfl rfl rfl rfl rfl ?_
  first | refine pk_eqb (tgt := 26) dX7_readsRun_16 (by decide) (fun c_16 => ?_) (fun c_16 => ?_) | refine pk_eq0N (tgt := 26) dX7_readsRun_16 (by decide) (by omega) (fun c_16 => ?_) (fun c_16 => ?_) | refine pk_if_eq (tgt := 26) dX7_readsRun_16 (by decide) (fun c_16 => ?_) (fun c_16 => ?_)
  · refine pk_iconst (v := nI 1) dX7_readsRun_26 (by decide) ?_
    have hfig := pm_nfig c_16
    have ho : sp_of (sp_ltr f n y) = 1 := by unfold sp_of; rw [if_neg hfig]
    have hx1 : sp_x1 (sp_ltr f n y) y = y + 0 := by unfold sp_x1; rw [if_neg hfig]; rfl
    refine pk_istore_n dX7_readsRun_27 rfl rfl ?_
    refine pk_iload_n dX7_readsRun_28 rfl ?_
    refine pk_iload_n dX7_readsRun_29 rfl ?_
    first | refine pk_leN (tgt := 35) dX7_readsRun_30 (by decide) (by omega) (by omega) (fun c_30 => ?_) (fun c_30 => ?_) | refine pk_icmp_le (tgt := 35) dX7_readsRun_30 (by decide) (fun c_30 => ?_) (fun c_30 => ?_)
    · refine pk_aload_n dX7_readsRun_35 rfl ?_
      refine pk_dup dX7_readsRun_36 rfl ?_
      refine pk_getN dX7_readsRun_37 fl_X7_241 rfl (hW.s rfl) hx ?_
      refine pk_iload_n dX7_readsRun_40 rfl ?_
      refine pk_i2l dX7_readsRun_41 ?_
      refine pk_ldc2 dX7_readsRun_42 kc_X7_247 ?_
      refine pk_ldc2 dX7_readsRun_45 kc_X7_249 ?_
      refine pk_Si dX7_readsRun_48 ml_X7_59 yw_X7_in ys_X7_in (e_X7_inN (lo := 49) (hi := 56) (by omega) (by decide) (by decide) (by decide) (by decide)) rfl rfl rfl rfl rfl rfl rfl ?_
      first | refine pk_eqb (tgt := 58) dX7_readsRun_51 (by decide) (fun c_51 => ?_) (fun c_51 => ?_) | refine pk_eq0N (tgt := 58) dX7_readsRun_51 (by decide) (by omega) (fun c_51 => ?_) (fun c_51 => ?_) | refine pk_if_eq (tgt := 58) dX7_readsRun_51 (by decide) (fun c_51 => ?_) (fun c_51 => ?_)
      · refine pk_iconst (v := nI 0) dX7_readsRun_58 (by decide) ?_
        first | refine pk_addN dX7_readsRun_59 ?_ | refine pk_iadd dX7_readsRun_59 ?_
        refine pk_putI dX7_readsRun_60 fl_X7_241 rfl rfl rfl rfl (hW.s rfl) ?_
        refine pk_aload_n dX7_readsRun_63 rfl ?_
        refine pk_Vg dX7_readsRun_64 ml_X7_255 yw_X7_readsSet yv_X7_readsSet (hW.s rfl) (e_X7_readsSet (M := (pk_sI M 103 9 (nI (y + 0)))) (x := y + 0) hW (pk_gS0 (by omega) hn) hn2 (fun i hi => pk_gS0 (by omega) (hf i hi)) hf2 (pk_gS1 rfl rfl rfl) (by omega)) rfl rfl rfl rfl rfl rfl rfl (fun v M1 hv => ?_)
        obtain ⟨hv1, hv2⟩ := hv
        rw [pk_sI_sI] at hv2
        cases hv1
        subst hv2
        have hrr : (sp_rr f n (sp_ltr f n y) y w l k) = ((sp_rq f n (y + 0)).1.map (fun s => (s, 1)), (sp_rq f n (y + 0)).2) := by
          unfold sp_rr
          rw [ho, hx1, if_neg (by omega)]
        have hqk := (sp_rq_ok (f := f) (n := n) (x := y + 0) (by omega)).2
        rcases hrs : (sp_rq f n (y + 0)).1 with _ | s
        · refine pk_istore dX7_readsRun_67 rfl rfl ?_
          refine pk_iconst (v := nI 0) dX7_readsRun_69 (by decide) ?_
          refine pk_istore dX7_readsRun_70 rfl rfl ?_
          refine pk_iload dX7_readsRun_72 rfl ?_
          refine pk_iload_n dX7_readsRun_74 rfl ?_
          refine pk_geN (a := 0) (b := 1) (tgt := 118) dX7_readsRun_75 (by decide) (by decide) (by omega) (fun c_75 => ?_) (fun c_75 => ?_)
          · omega
          · refine pk_iload dX7_readsRun_78 rfl ?_
            refine pk_if_lt (tgt := 118) dX7_readsRun_80 (by decide) (fun c_80 => ?_) (fun c_80 => ?_)
            · refine pk_iload dX7_readsRun_118 rfl ?_
              refine pk_if_lt (tgt := 127) dX7_readsRun_120 (by decide) (fun c_120 => ?_) (fun c_120 => ?_)
              · refine pk_iconst (v := nI 0) dX7_readsRun_127 (by decide) ?_
                refine pk_reti dX7_readsRun_128 (by first | rfl | exact pk_nbi _) ?_
                rw [hrr, hrs]
                exact ⟨rfl, pk_fr.sI (Or.inl rfl), fun j h9 _ => pk_gS0 (Or.inr h9) rfl, pk_gS1 rfl rfl rfl, fun s o h => (by cases h)⟩
              · exact absurd (show sp_on none < 0 by decide) c_120
            · exact absurd (show sp_on none < 0 by decide) c_80
        · have hs32 := (hqk s hrs).1
          refine pk_istore dX7_readsRun_67 rfl rfl ?_
          refine pk_iconst (v := nI 0) dX7_readsRun_69 (by decide) ?_
          refine pk_istore dX7_readsRun_70 rfl rfl ?_
          refine pk_lsq (ls' := [some (.ref 103), some (.int (nI (sp_lim w l - k))), some (.int (nI (sp_ltr f n y))), some (.int (nI (1))), some (.int (nI s)), some (.int (nI 0))]) rfl ?_
          refine pk_wf (fun z => 1 - z.1) (fun z : Nat × pk_M => z.1 ≤ 1 ∧ pk_fr (fun q => q = 103 ∨ q = 111) M z.2 ∧ (∀ j, j ≠ 9 → j ≠ 13 → pk_I z.2 103 j = pk_I M 103 j) ∧ pk_I z.2 103 9 = nI (sp_rq f n (y + 0)).2 ∧ pk_I z.2 103 13 = nI (k + z.1) ∧ ∀ q, pk_I z.2 111 q = if l * 8 + k ≤ q ∧ q < l * 8 + k + z.1 then nI s else pk_I M 111 q) (fun z => z.2) (fun z => [some (.ref 103), some (.int (nI (sp_lim w l - k))), some (.int (nI (sp_ltr f n y))), some (.int (nI (1))), some (.int (nI s)), some (.int (nI z.1))]) ?_ (0, (pk_sI M 103 9 (nI ((sp_rq f n (y + 0)).2)))) ⟨Nat.zero_le _, pk_fr.sI (Or.inl rfl), fun j h9 _ => pk_gS0 (Or.inr h9) rfl, pk_gS1 rfl rfl rfl, pk_gS0 (by omega) h13, fun q => by rw [if_neg (by dsimp only; omega)]; exact pk_gS0 (by omega) rfl⟩
          rintro ⟨j, N⟩ ⟨hj, hF, hoj, h9, hk13, hl⟩ K
          dsimp only at hj hF hoj h9 hk13 hl K ⊢
          have hWN := hF.wf hW
          have hN12 : pk_I N 103 12 = nI l := (hoj 12 (by decide) (by decide)).trans h12
          refine pk_iload dX7_readsRun_72 rfl ?_
          refine pk_iload_n dX7_readsRun_74 rfl ?_
          first | refine pk_geN (tgt := 118) dX7_readsRun_75 (by decide) (by omega) (by omega) (fun c_75 => ?_) (fun c_75 => ?_) | refine pk_icmp_ge (tgt := 118) dX7_readsRun_75 (by decide) (fun c_75 => ?_) (fun c_75 => ?_)
          · refine pk_iload dX7_readsRun_118 rfl ?_
            refine pk_if_lt (tgt := 127) dX7_readsRun_120 (by decide) (fun c_120 => ?_) (fun c_120 => ?_)
            · exact absurd c_120 (nI_pos (by omega))
            · refine pk_iconst (v := nI 1) dX7_readsRun_123 (by decide) ?_
              refine pk_goto (tgt := 128) dX7_readsRun_124 (by decide) ?_
              refine pk_reti dX7_readsRun_128 (by first | rfl | exact pk_nbi _) ?_
              have hj2 : j = 1 := by omega
              rw [hrr, hrs]
              refine ⟨rfl, hF, hoj, h9, fun s' o' h => ?_⟩
              cases h
              rw [← hj2]
              exact ⟨hk13, hl⟩
          · refine pk_iload dX7_readsRun_78 rfl ?_
            refine pk_if_lt (tgt := 118) dX7_readsRun_80 (by decide) (fun c_80 => ?_) (fun c_80 => ?_)
            · exact absurd c_80 (nI_pos (by omega))
            · refine pk_aload_n dX7_readsRun_83 rfl ?_
              refine pk_getP dX7_readsRun_84 fl_X7_31 rfl (hWN.s rfl) (hWN.p rfl) ?_
              refine pk_bipush (v := nI 8) dX7_readsRun_87 (by decide) ?_
              refine pk_aload_n dX7_readsRun_89 rfl ?_
              refine pk_getN dX7_readsRun_90 fl_X7_258 rfl (hWN.s rfl) hN12 ?_
              first | refine pk_mulN dX7_readsRun_93 ?_ | refine pk_imul dX7_readsRun_93 ?_
              refine pk_aload_n dX7_readsRun_94 rfl ?_
              refine pk_getN dX7_readsRun_95 fl_X7_261 rfl (hWN.s rfl) hk13 ?_
              first | refine pk_addN dX7_readsRun_98 ?_ | refine pk_iadd dX7_readsRun_98 ?_
              refine pk_iload dX7_readsRun_99 rfl ?_
              refine pk_astN dX7_readsRun_101 (hWN.s rfl) (by omega) (by omega) (by omega) ?_
              refine pk_aload_n dX7_readsRun_102 rfl ?_
              refine pk_dup dX7_readsRun_103 rfl ?_
              refine pk_getN dX7_readsRun_104 fl_X7_261 rfl (hWN.s rfl) (pk_gS0 (by omega) hk13) ?_
              refine pk_iconst (v := nI 1) dX7_readsRun_107 (by decide) ?_
              first | refine pk_addN dX7_readsRun_108 ?_ | refine pk_iadd dX7_readsRun_108 ?_
              refine pk_putI dX7_readsRun_109 fl_X7_261 rfl rfl rfl rfl (hWN.s rfl) ?_
              first | refine pk_inc1 dX7_readsRun_112 rfl rfl ?_ | refine pk_iinc dX7_readsRun_112 rfl rfl rfl ?_
              refine pk_goto (tgt := 72) dX7_readsRun_115 (by decide) ?_
              exact K (j + 1, _) ⟨by dsimp only; omega, hF.tr ((pk_fr.sI (Or.inr rfl)).tr (pk_fr.sI (Or.inl rfl))), fun i i9 i13 => pk_gS0 (Or.inr i13) (pk_gS0 (by omega) (hoj i i9 i13)), pk_gS0 (by omega) (pk_gS0 (by omega) h9), pk_gS1 rfl rfl rfl, fun q => pk_gS0 (by omega) (by
                dsimp only
                by_cases e : q = 8 * l + (k + j)
                · rw [if_pos (by omega)]
                  exact pk_gS1 rfl e rfl
                · refine pk_gS0 (Or.inr e) ((hl q).trans ?_)
                  by_cases e2 : l * 8 + k ≤ q ∧ q < l * 8 + k + j
                  · rw [if_pos e2, if_pos (by omega)]
                  · rw [if_neg e2, if_neg (by omega)])⟩ (by dsimp only; omega)
      · exact absurd (c_16.symm.trans c_51) (by decide)
    · refine pk_iconst (v := nI 0) dX7_readsRun_33 (by decide) ?_
      refine pk_reti dX7_readsRun_34 (by first | rfl | exact pk_nbi _) ?_
      have hrr : (sp_rr f n (sp_ltr f n y) y w l k) = (none, y) := by
        unfold sp_rr
        rw [ho, if_pos (by omega)]
      rw [hrr]
      exact ⟨rfl, pk_fr.rf _ _, fun _ _ _ => rfl, hx, fun s o h => (by cases h)⟩
  · have hfig0 := pm_fig c_16
    refine pk_iload_n dX7_readsRun_19 rfl ?_
    refine pk_bipush (v := nI 48) dX7_readsRun_20 (by decide) ?_
    first | refine pk_subN dX7_readsRun_22 (by omega) ?_ | refine pk_isub dX7_readsRun_22 ?_
    refine pk_goto (tgt := 27) dX7_readsRun_23 (by decide) ?_
    have hfig := pm_fig c_16
    have ho : sp_of (sp_ltr f n y) = (sp_ltr f n y) - 48 := by unfold sp_of; rw [if_pos hfig]
    have hx1 : sp_x1 (sp_ltr f n y) y = y + 1 := by unfold sp_x1; rw [if_pos hfig]
    refine pk_istore_n dX7_readsRun_27 rfl rfl ?_
    refine pk_iload_n dX7_readsRun_28 rfl ?_
    refine pk_iload_n dX7_readsRun_29 rfl ?_
    first | refine pk_leN (tgt := 35) dX7_readsRun_30 (by decide) (by omega) (by omega) (fun c_30 => ?_) (fun c_30 => ?_) | refine pk_icmp_le (tgt := 35) dX7_readsRun_30 (by decide) (fun c_30 => ?_) (fun c_30 => ?_)
    · refine pk_aload_n dX7_readsRun_35 rfl ?_
      refine pk_dup dX7_readsRun_36 rfl ?_
      refine pk_getN dX7_readsRun_37 fl_X7_241 rfl (hW.s rfl) hx ?_
      refine pk_iload_n dX7_readsRun_40 rfl ?_
      refine pk_i2l dX7_readsRun_41 ?_
      refine pk_ldc2 dX7_readsRun_42 kc_X7_247 ?_
      refine pk_ldc2 dX7_readsRun_45 kc_X7_249 ?_
      refine pk_Si dX7_readsRun_48 ml_X7_59 yw_X7_in ys_X7_in (e_X7_inN (lo := 49) (hi := 56) (by omega) (by decide) (by decide) (by decide) (by decide)) rfl rfl rfl rfl rfl rfl rfl ?_
      first | refine pk_eqb (tgt := 58) dX7_readsRun_51 (by decide) (fun c_51 => ?_) (fun c_51 => ?_) | refine pk_eq0N (tgt := 58) dX7_readsRun_51 (by decide) (by omega) (fun c_51 => ?_) (fun c_51 => ?_) | refine pk_if_eq (tgt := 58) dX7_readsRun_51 (by decide) (fun c_51 => ?_) (fun c_51 => ?_)
      · exact absurd (c_16.symm.trans c_51) (by decide)
      · refine pk_iconst (v := nI 1) dX7_readsRun_54 (by decide) ?_
        refine pk_goto (tgt := 59) dX7_readsRun_55 (by decide) ?_
        first | refine pk_addN dX7_readsRun_59 ?_ | refine pk_iadd dX7_readsRun_59 ?_
        refine pk_putI dX7_readsRun_60 fl_X7_241 rfl rfl rfl rfl (hW.s rfl) ?_
        refine pk_aload_n dX7_readsRun_63 rfl ?_
        refine pk_Vg dX7_readsRun_64 ml_X7_255 yw_X7_readsSet yv_X7_readsSet (hW.s rfl) (e_X7_readsSet (M := (pk_sI M 103 9 (nI (y + 1)))) (x := y + 1) hW (pk_gS0 (by omega) hn) hn2 (fun i hi => pk_gS0 (by omega) (hf i hi)) hf2 (pk_gS1 rfl rfl rfl) (by omega)) rfl rfl rfl rfl rfl rfl rfl (fun v M1 hv => ?_)
        obtain ⟨hv1, hv2⟩ := hv
        rw [pk_sI_sI] at hv2
        cases hv1
        subst hv2
        have hrr : (sp_rr f n (sp_ltr f n y) y w l k) = ((sp_rq f n (y + 1)).1.map (fun s => (s, (sp_ltr f n y) - 48)), (sp_rq f n (y + 1)).2) := by
          unfold sp_rr
          rw [ho, hx1, if_neg (by omega)]
        have hqk := (sp_rq_ok (f := f) (n := n) (x := y + 1) (by omega)).2
        rcases hrs : (sp_rq f n (y + 1)).1 with _ | s
        · refine pk_istore dX7_readsRun_67 rfl rfl ?_
          refine pk_iconst (v := nI 0) dX7_readsRun_69 (by decide) ?_
          refine pk_istore dX7_readsRun_70 rfl rfl ?_
          refine pk_iload dX7_readsRun_72 rfl ?_
          refine pk_iload_n dX7_readsRun_74 rfl ?_
          refine pk_geN (a := 0) (b := (sp_ltr f n y) - 48) (tgt := 118) dX7_readsRun_75 (by decide) (by decide) (by omega) (fun c_75 => ?_) (fun c_75 => ?_)
          · omega
          · refine pk_iload dX7_readsRun_78 rfl ?_
            refine pk_if_lt (tgt := 118) dX7_readsRun_80 (by decide) (fun c_80 => ?_) (fun c_80 => ?_)
            · refine pk_iload dX7_readsRun_118 rfl ?_
              refine pk_if_lt (tgt := 127) dX7_readsRun_120 (by decide) (fun c_120 => ?_) (fun c_120 => ?_)
              · refine pk_iconst (v := nI 0) dX7_readsRun_127 (by decide) ?_
                refine pk_reti dX7_readsRun_128 (by first | rfl | exact pk_nbi _) ?_
                rw [hrr, hrs]
                exact ⟨rfl, pk_fr.sI (Or.inl rfl), fun j h9 _ => pk_gS0 (Or.inr h9) rfl, pk_gS1 rfl rfl rfl, fun s o h => (by cases h)⟩
              · exact absurd (show sp_on none < 0 by decide) c_120
            · exact absurd (show sp_on none < 0 by decide) c_80
        · have hs32 := (hqk s hrs).1
          refine pk_istore dX7_readsRun_67 rfl rfl ?_
          refine pk_iconst (v := nI 0) dX7_readsRun_69 (by decide) ?_
          refine pk_istore dX7_readsRun_70 rfl rfl ?_
          refine pk_lsq (ls' := [some (.ref 103), some (.int (nI (sp_lim w l - k))), some (.int (nI (sp_ltr f n y))), some (.int (nI ((sp_ltr f n y) - 48))), some (.int (nI s)), some (.int (nI 0))]) rfl ?_
          refine pk_wf (fun z => (sp_ltr f n y) - 48 - z.1) (fun z : Nat × pk_M => z.1 ≤ (sp_ltr f n y) - 48 ∧ pk_fr (fun q => q = 103 ∨ q = 111) M z.2 ∧ (∀ j, j ≠ 9 → j ≠ 13 → pk_I z.2 103 j = pk_I M 103 j) ∧ pk_I z.2 103 9 = nI (sp_rq f n (y + 1)).2 ∧ pk_I z.2 103 13 = nI (k + z.1) ∧ ∀ q, pk_I z.2 111 q = if l * 8 + k ≤ q ∧ q < l * 8 + k + z.1 then nI s else pk_I M 111 q) (fun z => z.2) (fun z => [some (.ref 103), some (.int (nI (sp_lim w l - k))), some (.int (nI (sp_ltr f n y))), some (.int (nI ((sp_ltr f n y) - 48))), some (.int (nI s)), some (.int (nI z.1))]) ?_ (0, (pk_sI M 103 9 (nI ((sp_rq f n (y + 1)).2)))) ⟨Nat.zero_le _, pk_fr.sI (Or.inl rfl), fun j h9 _ => pk_gS0 (Or.inr h9) rfl, pk_gS1 rfl rfl rfl, pk_gS0 (by omega) h13, fun q => by rw [if_neg (by dsimp only; omega)]; exact pk_gS0 (by omega) rfl⟩
          rintro ⟨j, N⟩ ⟨hj, hF, hoj, h9, hk13, hl⟩ K
          dsimp only at hj hF hoj h9 hk13 hl K ⊢
          have hWN := hF.wf hW
          have hN12 : pk_I N 103 12 = nI l := (hoj 12 (by decide) (by decide)).trans h12
          refine pk_iload dX7_readsRun_72 rfl ?_
          refine pk_iload_n dX7_readsRun_74 rfl ?_
          first | refine pk_geN (tgt := 118) dX7_readsRun_75 (by decide) (by omega) (by omega) (fun c_75 => ?_) (fun c_75 => ?_) | refine pk_icmp_ge (tgt := 118) dX7_readsRun_75 (by decide) (fun c_75 => ?_) (fun c_75 => ?_)
          · refine pk_iload dX7_readsRun_118 rfl ?_
            refine pk_if_lt (tgt := 127) dX7_readsRun_120 (by decide) (fun c_120 => ?_) (fun c_120 => ?_)
            · exact absurd c_120 (nI_pos (by omega))
            · refine pk_iconst (v := nI 1) dX7_readsRun_123 (by decide) ?_
              refine pk_goto (tgt := 128) dX7_readsRun_124 (by decide) ?_
              refine pk_reti dX7_readsRun_128 (by first | rfl | exact pk_nbi _) ?_
              have hj2 : j = (sp_ltr f n y) - 48 := by omega
              rw [hrr, hrs]
              refine ⟨rfl, hF, hoj, h9, fun s' o' h => ?_⟩
              cases h
              rw [← hj2]
              exact ⟨hk13, hl⟩
          · refine pk_iload dX7_readsRun_78 rfl ?_
            refine pk_if_lt (tgt := 118) dX7_readsRun_80 (by decide) (fun c_80 => ?_) (fun c_80 => ?_)
            · exact absurd c_80 (nI_pos (by omega))
            · refine pk_aload_n dX7_readsRun_83 rfl ?_
              refine pk_getP dX7_readsRun_84 fl_X7_31 rfl (hWN.s rfl) (hWN.p rfl) ?_
              refine pk_bipush (v := nI 8) dX7_readsRun_87 (by decide) ?_
              refine pk_aload_n dX7_readsRun_89 rfl ?_
              refine pk_getN dX7_readsRun_90 fl_X7_258 rfl (hWN.s rfl) hN12 ?_
              first | refine pk_mulN dX7_readsRun_93 ?_ | refine pk_imul dX7_readsRun_93 ?_
              refine pk_aload_n dX7_readsRun_94 rfl ?_
              refine pk_getN dX7_readsRun_95 fl_X7_261 rfl (hWN.s rfl) hk13 ?_
              first | refine pk_addN dX7_readsRun_98 ?_ | refine pk_iadd dX7_readsRun_98 ?_
              refine pk_iload dX7_readsRun_99 rfl ?_
              refine pk_astN dX7_readsRun_101 (hWN.s rfl) (by omega) (by omega) (by omega) ?_
              refine pk_aload_n dX7_readsRun_102 rfl ?_
              refine pk_dup dX7_readsRun_103 rfl ?_
              refine pk_getN dX7_readsRun_104 fl_X7_261 rfl (hWN.s rfl) (pk_gS0 (by omega) hk13) ?_
              refine pk_iconst (v := nI 1) dX7_readsRun_107 (by decide) ?_
              first | refine pk_addN dX7_readsRun_108 ?_ | refine pk_iadd dX7_readsRun_108 ?_
              refine pk_putI dX7_readsRun_109 fl_X7_261 rfl rfl rfl rfl (hWN.s rfl) ?_
              first | refine pk_inc1 dX7_readsRun_112 rfl rfl ?_ | refine pk_iinc dX7_readsRun_112 rfl rfl rfl ?_
              refine pk_goto (tgt := 72) dX7_readsRun_115 (by decide) ?_
              exact K (j + 1, _) ⟨by dsimp only; omega, hF.tr ((pk_fr.sI (Or.inr rfl)).tr (pk_fr.sI (Or.inl rfl))), fun i i9 i13 => pk_gS0 (Or.inr i13) (pk_gS0 (by omega) (hoj i i9 i13)), pk_gS0 (by omega) (pk_gS0 (by omega) h9), pk_gS1 rfl rfl rfl, fun q => pk_gS0 (by omega) (by
                dsimp only
                by_cases e : q = 8 * l + (k + j)
                · rw [if_pos (by omega)]
                  exact pk_gS1 rfl e rfl
                · refine pk_gS0 (Or.inr e) ((hl q).trans ?_)
                  by_cases e2 : l * 8 + k ≤ q ∧ q < l * 8 + k + j
                  · rw [if_pos e2, if_pos (by omega)]
                  · rw [if_neg e2, if_neg (by omega)])⟩ (by dsimp only; omega)
    · refine pk_iconst (v := nI 0) dX7_readsRun_33 (by decide) ?_
      refine pk_reti dX7_readsRun_34 (by first | rfl | exact pk_nbi _) ?_
      have hrr : (sp_rr f n (sp_ltr f n y) y w l k) = (none, y) := by
        unfold sp_rr
        rw [ho, if_pos (by omega)]
      rw [hrr]
      exact ⟨rfl, pk_fr.rf _ _, fun _ _ _ => rfl, hx, fun s o h => (by cases h)⟩
