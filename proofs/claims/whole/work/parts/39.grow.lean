/-! grow. -/
def sp_gd (A : pk_St) (p r : Nat) : Bool := !(sp_s A p == 0) && !(sp_s A r == 0) && (sp_s A p &&& sp_s A r == 0)
def sp_gb (A : pk_St) (p r : Nat) (f : Nat → Nat) (q : Nat) : Nat := if sp_gd A p r = true then (if sp_dark (sp_lookA A (sp_s A p)) ≤ sp_dark (sp_lookA A (sp_s A r)) then (if q = r then f r ||| sp_s A p else f q) else (if q = p then f p ||| sp_s A r else f q)) else f q
def sp_gs (A : pk_St) (q : Nat) (f : Nat → Nat) : Nat → Nat :=
  let f1 := if q % 8 + 1 < sp_w A then sp_gb A q (q + 1) f else f
  if q / 8 + 1 < sp_h A then sp_gb A q (q + 8) f1 else f1
def sp_gro (A : pk_St) : Nat → Nat → Nat
  | 0 => sp_s A
  | t + 1 => if sp_in A t = true then sp_gs A t (sp_gro A t) else sp_gro A t
theorem sp_gro_skip {A : pk_St} {a b : Nat} (hab : a ≤ b) (h : ∀ q, a ≤ q → q < b → sp_in A q = false) : sp_gro A b = sp_gro A a := by
  obtain ⟨k, rfl⟩ : ∃ k, b = a + k := ⟨b - a, by omega⟩
  induction k with
  | zero => rfl
  | succ k ih =>
    rw [show a + (k + 1) = a + k + 1 by omega]
    show (if sp_in A (a + k) = true then _ else _) = _
    rw [h (a + k) (by omega) (by omega), if_neg (by decide)]
    exact ih (by omega) (fun q h1 h2 => h q h1 (by omega))

theorem sp_dark_le (x : Nat) : sp_dark x ≤ 45 := by unfold sp_dark; omega
theorem sp_gb_lt {A : pk_St} (h : pk_okS A) {p r : Nat} {f : Nat → Nat} (hp : p < 48) (hr : r < 48) (hf : ∀ q, q < 48 → f q < 32) : ∀ q, q < 48 → sp_gb A p r f q < 32 := by
  intro q hq
  have h1 := h.2.2.2.2.2.2.2.1 p hp
  have h2 := h.2.2.2.2.2.2.2.1 r hr
  unfold sp_gb
  repeat' split
  · exact Nat.or_lt_two_pow (n := 5) (hf r hr) h1
  · exact hf q hq
  · exact Nat.or_lt_two_pow (n := 5) (hf p hp) h2
  · exact hf q hq
  · exact hf q hq
theorem sp_gro_lt {A : pk_St} (h : pk_okS A) (t : Nat) : ∀ q, q < 48 → sp_gro A t q < 32 := by
  induction t with
  | zero => exact h.2.2.2.2.2.2.2.1
  | succ t ih =>
    show ∀ q, q < 48 → (if sp_in A t = true then sp_gs A t (sp_gro A t) else sp_gro A t) q < 32
    cases hi : sp_in A t
    · rw [if_neg (by decide)]
      exact ih
    · rw [if_pos rfl]
      have hw := h.1
      have hh := h.2.1
      obtain ⟨g1, g2, g3⟩ := sp_in_lt h hi
      have h1 : ∀ q, q < 48 → (if t % 8 + 1 < sp_w A then sp_gb A t (t + 1) (sp_gro A t) else sp_gro A t) q < 32 := by
        by_cases e : t % 8 + 1 < sp_w A
        · rw [if_pos e]
          exact sp_gb_lt h g3 (by omega) ih
        · rw [if_neg e]
          exact ih
      unfold sp_gs
      by_cases e : t / 8 + 1 < sp_h A
      · simp only [if_pos e]
        exact sp_gb_lt h g3 (by omega) h1
      · simp only [if_neg e]
        exact h1

set_option maxRecDepth 100000 in
set_option maxHeartbeats 4000000 in
theorem e_X6_growBetween {Γ : pk_T} {M : pk_M} {L p r : Nat} {A : pk_St} {f : Nat → Nat} (hN : pk_now L M A) (hlk : ∀ s, s < 32 → pk_I M 81 s = nI (sp_lookA A s)) (hg : ∀ q, q < 48 → pk_I M 92 q = nI (f q)) (hp : p < 48) (hr : r < 48) : pk_E Γ yX6_growBetween cX6_growBetween 5 none 2 0 0 M [.ref 5, .int (nI p), .int (nI r)] (fun r' M' => r' = none ∧ pk_fr (fun q => q = 92) M M' ∧ ∀ q, q < 48 → pk_I M' 92 q = nI (sp_gb A p r f q)) := by
  refine pk_meth (own := RX6) (ini := false) [some (.ref 5), some (.int (nI p)), some (.int (nI r)), none, none] (by decide +kernel) rfl (by decide +kernel) rfl rfl ?_
  obtain ⟨hW, hA, hok⟩ := hN
  have hsp := hok.2.2.2.2.2.2.2.1 p hp
  have hsr := hok.2.2.2.2.2.2.2.1 r hr
  have hand : sp_s A p &&& sp_s A r < 32 := Nat.lt_of_le_of_lt Nat.and_le_left hsp
  have hd1 := sp_dark_le (sp_lookA A (sp_s A p))
  have hd2 := sp_dark_le (sp_lookA A (sp_s A r))
  refine pk_iload_n dX6_growBetween_0 rfl ?_
  refine pk_bipush (v := nI 48) dX6_growBetween_1 (by decide) ?_
  refine pk_Si dX6_growBetween_3 ml_X6_71 yw_X6_isBelow ys_X6_isBelow (e_X6_isBelow _ _) rfl rfl rfl rfl rfl rfl rfl ?_
  first | refine pk_eqb (tgt := 18) dX6_growBetween_6 (by decide) (fun c_6 => ?_) (fun c_6 => ?_) | refine pk_eq0N (tgt := 18) dX6_growBetween_6 (by decide) (by omega) (fun c_6 => ?_) (fun c_6 => ?_) | refine pk_if_eq (tgt := 18) dX6_growBetween_6 (by decide) (fun c_6 => ?_) (fun c_6 => ?_)
  · exfalso; simp [nI_pos' (show p < 2 ^ 31 by omega), nI_ltI (show p < 2 ^ 31 by omega) (show 48 < 2 ^ 31 by decide)] at c_6; omega
  · refine pk_iload_n dX6_growBetween_9 rfl ?_
    refine pk_bipush (v := nI 48) dX6_growBetween_10 (by decide) ?_
    refine pk_Si dX6_growBetween_12 ml_X6_71 yw_X6_isBelow ys_X6_isBelow (e_X6_isBelow _ _) rfl rfl rfl rfl rfl rfl rfl ?_
    first | refine pk_neb (tgt := 19) dX6_growBetween_15 (by decide) (fun c_15 => ?_) (fun c_15 => ?_) | refine pk_ne0N (tgt := 19) dX6_growBetween_15 (by decide) (by omega) (fun c_15 => ?_) (fun c_15 => ?_) | refine pk_if_ne (tgt := 19) dX6_growBetween_15 (by decide) (fun c_15 => ?_) (fun c_15 => ?_)
    · refine pk_aload_n dX6_growBetween_19 rfl ?_
      refine pk_getP dX6_growBetween_20 fl_X6_10 rfl (hW.s rfl) (hW.p rfl) ?_
      refine pk_getP dX6_growBetween_23 fl_X6_209 rfl (hW.s rfl) (hW.p rfl) ?_
      refine pk_iload_n dX6_growBetween_26 rfl ?_
      refine pk_aldN dX6_growBetween_27 (hW.s rfl) (by omega) (by omega) (hA.2.2.2.2.2.2 p hp) ?_
      refine pk_istore_n dX6_growBetween_28 rfl rfl ?_
      refine pk_aload_n dX6_growBetween_29 rfl ?_
      refine pk_getP dX6_growBetween_30 fl_X6_10 rfl (hW.s rfl) (hW.p rfl) ?_
      refine pk_getP dX6_growBetween_33 fl_X6_209 rfl (hW.s rfl) (hW.p rfl) ?_
      refine pk_iload_n dX6_growBetween_36 rfl ?_
      refine pk_aldN dX6_growBetween_37 (hW.s rfl) (by omega) (by omega) (hA.2.2.2.2.2.2 r hr) ?_
      refine pk_istore dX6_growBetween_38 rfl rfl ?_
      refine pk_iload_n dX6_growBetween_40 rfl ?_
      first | refine pk_eqb (tgt := 56) dX6_growBetween_41 (by decide) (fun c_41 => ?_) (fun c_41 => ?_) | refine pk_eq0N (tgt := 56) dX6_growBetween_41 (by decide) (by omega) (fun c_41 => ?_) (fun c_41 => ?_) | refine pk_if_eq (tgt := 56) dX6_growBetween_41 (by decide) (fun c_41 => ?_) (fun c_41 => ?_)
      · refine pk_retv dX6_growBetween_56 ?_
        refine ⟨rfl, pk_fr.rf _ M, fun q hq => ?_⟩
        have hgd : ¬ sp_gd A p r = true := by
          unfold sp_gd
          first | (simp [c_41]; done) | (simp [c_46]; done) | (simp [c_53]; done)
        unfold sp_gb
        rw [if_neg hgd]
        exact hg q hq
      · refine pk_iload dX6_growBetween_44 rfl ?_
        first | refine pk_eqb (tgt := 56) dX6_growBetween_46 (by decide) (fun c_46 => ?_) (fun c_46 => ?_) | refine pk_eq0N (tgt := 56) dX6_growBetween_46 (by decide) (by omega) (fun c_46 => ?_) (fun c_46 => ?_) | refine pk_if_eq (tgt := 56) dX6_growBetween_46 (by decide) (fun c_46 => ?_) (fun c_46 => ?_)
        · refine pk_retv dX6_growBetween_56 ?_
          refine ⟨rfl, pk_fr.rf _ M, fun q hq => ?_⟩
          have hgd : ¬ sp_gd A p r = true := by
            unfold sp_gd
            first | (simp [c_41]; done) | (simp [c_46]; done) | (simp [c_53]; done)
          unfold sp_gb
          rw [if_neg hgd]
          exact hg q hq
        · refine pk_iload_n dX6_growBetween_49 rfl ?_
          refine pk_iload dX6_growBetween_50 rfl ?_
          first | refine pk_andNN dX6_growBetween_52 ?_ | refine pk_iand dX6_growBetween_52 ?_
          first | refine pk_eqb (tgt := 57) dX6_growBetween_53 (by decide) (fun c_53 => ?_) (fun c_53 => ?_) | refine pk_eq0N (tgt := 57) dX6_growBetween_53 (by decide) (by omega) (fun c_53 => ?_) (fun c_53 => ?_) | refine pk_if_eq (tgt := 57) dX6_growBetween_53 (by decide) (fun c_53 => ?_) (fun c_53 => ?_)
          · refine pk_aload_n dX6_growBetween_57 rfl ?_
            refine pk_getP dX6_growBetween_58 fl_X6_36 rfl (hW.s rfl) (hW.p rfl) ?_
            refine pk_iload_n dX6_growBetween_61 rfl ?_
            refine pk_Vi dX6_growBetween_62 ml_X6_350 yw_X1_darkOfSet yv_X1_darkOfSet (hW.s rfl) (e_X1_darkOfSet hW hlk (sp_lookA_lt A) hsp) rfl rfl rfl rfl rfl rfl rfl ?_
            refine pk_aload_n dX6_growBetween_65 rfl ?_
            refine pk_getP dX6_growBetween_66 fl_X6_36 rfl (hW.s rfl) (hW.p rfl) ?_
            refine pk_iload dX6_growBetween_69 rfl ?_
            refine pk_Vi dX6_growBetween_71 ml_X6_350 yw_X1_darkOfSet yv_X1_darkOfSet (hW.s rfl) (e_X1_darkOfSet hW hlk (sp_lookA_lt A) hsr) rfl rfl rfl rfl rfl rfl rfl ?_
            first | refine pk_gtN (tgt := 94) dX6_growBetween_74 (by decide) (by omega) (by omega) (fun c_74 => ?_) (fun c_74 => ?_) | refine pk_icmp_gt (tgt := 94) dX6_growBetween_74 (by decide) (fun c_74 => ?_) (fun c_74 => ?_)
            · refine pk_aload_n dX6_growBetween_94 rfl ?_
              refine pk_getP dX6_growBetween_95 fl_X6_60 rfl (hW.s rfl) (hW.p rfl) ?_
              refine pk_iload_n dX6_growBetween_98 rfl ?_
              refine pk_aload_n dX6_growBetween_99 rfl ?_
              refine pk_getP dX6_growBetween_100 fl_X6_60 rfl (hW.s rfl) (hW.p rfl) ?_
              refine pk_iload_n dX6_growBetween_103 rfl ?_
              refine pk_aldN dX6_growBetween_104 (hW.s rfl) (by omega) (by omega) (hg p hp) ?_
              refine pk_iload dX6_growBetween_105 rfl ?_
              first | refine pk_orNN dX6_growBetween_107 ?_ | refine pk_ior dX6_growBetween_107 ?_
              refine pk_astN dX6_growBetween_108 (hW.s rfl) (by omega) (by omega) (by omega) ?_
              refine pk_retv dX6_growBetween_109 ?_
              have hgd : sp_gd A p r = true := by simp [sp_gd, c_41, c_46, c_53]
              refine ⟨rfl, pk_fr.sI rfl, fun q hq => ?_⟩
              unfold sp_gb
              rw [if_pos hgd]
              by_cases hd : sp_dark (sp_lookA A (sp_s A p)) ≤ sp_dark (sp_lookA A (sp_s A r))
              · rw [if_pos hd]
                first
                  | (exfalso; omega)
                  | (by_cases e : q = r
                     · subst e
                       rw [if_pos rfl]
                       exact pk_gS1 rfl rfl rfl
                     · rw [if_neg e]
                       exact pk_gS0 (Or.inr e) (hg q hq))
              · rw [if_neg hd]
                first
                  | (exfalso; omega)
                  | (by_cases e : q = p
                     · subst e
                       rw [if_pos rfl]
                       exact pk_gS1 rfl rfl rfl
                     · rw [if_neg e]
                       exact pk_gS0 (Or.inr e) (hg q hq))
            · refine pk_aload_n dX6_growBetween_77 rfl ?_
              refine pk_getP dX6_growBetween_78 fl_X6_60 rfl (hW.s rfl) (hW.p rfl) ?_
              refine pk_iload_n dX6_growBetween_81 rfl ?_
              refine pk_aload_n dX6_growBetween_82 rfl ?_
              refine pk_getP dX6_growBetween_83 fl_X6_60 rfl (hW.s rfl) (hW.p rfl) ?_
              refine pk_iload_n dX6_growBetween_86 rfl ?_
              refine pk_aldN dX6_growBetween_87 (hW.s rfl) (by omega) (by omega) (hg r hr) ?_
              refine pk_iload_n dX6_growBetween_88 rfl ?_
              first | refine pk_orNN dX6_growBetween_89 ?_ | refine pk_ior dX6_growBetween_89 ?_
              refine pk_astN dX6_growBetween_90 (hW.s rfl) (by omega) (by omega) (by omega) ?_
              refine pk_goto (tgt := 109) dX6_growBetween_91 (by decide) ?_
              refine pk_retv dX6_growBetween_109 ?_
              have hgd : sp_gd A p r = true := by simp [sp_gd, c_41, c_46, c_53]
              refine ⟨rfl, pk_fr.sI rfl, fun q hq => ?_⟩
              unfold sp_gb
              rw [if_pos hgd]
              by_cases hd : sp_dark (sp_lookA A (sp_s A p)) ≤ sp_dark (sp_lookA A (sp_s A r))
              · rw [if_pos hd]
                first
                  | (exfalso; omega)
                  | (by_cases e : q = r
                     · subst e
                       rw [if_pos rfl]
                       exact pk_gS1 rfl rfl rfl
                     · rw [if_neg e]
                       exact pk_gS0 (Or.inr e) (hg q hq))
              · rw [if_neg hd]
                first
                  | (exfalso; omega)
                  | (by_cases e : q = p
                     · subst e
                       rw [if_pos rfl]
                       exact pk_gS1 rfl rfl rfl
                     · rw [if_neg e]
                       exact pk_gS0 (Or.inr e) (hg q hq))
          · refine pk_retv dX6_growBetween_56 ?_
            refine ⟨rfl, pk_fr.rf _ M, fun q hq => ?_⟩
            have hgd : ¬ sp_gd A p r = true := by
              unfold sp_gd
              first | (simp [c_41]; done) | (simp [c_46]; done) | (simp [c_53]; done)
            unfold sp_gb
            rw [if_neg hgd]
            exact hg q hq
    · exfalso; simp [nI_pos' (show r < 2 ^ 31 by omega), nI_ltI (show r < 2 ^ 31 by omega) (show 48 < 2 ^ 31 by decide)] at c_15; omega

set_option maxRecDepth 100000 in
set_option maxHeartbeats 4000000 in
theorem e_X6_growAside {Γ : pk_T} {M : pk_M} {L : Nat} {A : pk_St} (hN : pk_now L M A) : pk_E Γ yX6_growAside cX6_growAside 3 none 4 0 0 M [.ref 5] (fun r M' => r = none ∧ pk_fr (fun q => q = 81 ∨ q = 92) M M' ∧ ∀ q, q < 48 → pk_I M' 92 q = nI (sp_gro A 48 q)) := by
  refine pk_meth (own := RX6) (ini := false) [some (.ref 5), none, none] (by decide +kernel) rfl (by decide +kernel) rfl rfl ?_
  obtain ⟨hW, hA, hok⟩ := hN
  have hw := hok.1
  have hh := hok.2.1
  have hfc : pk_fr (fun q => q = 81 ∨ q = 92) M (pk_cI M 10 0 92 0 48) := pk_fr.cI (Or.inr rfl)
  have hAc := hfc.at (p := 6) (fun q h1 h2 h3 => by omega) hA
  refine pk_aload_n dX6_growAside_0 rfl ?_
  refine pk_getP dX6_growAside_1 fl_X6_10 rfl (hW.s rfl) (hW.p rfl) ?_
  refine pk_getP dX6_growAside_4 fl_X6_209 rfl (hW.s rfl) (hW.p rfl) ?_
  refine pk_iconst (v := nI 0) dX6_growAside_7 (by decide) ?_
  refine pk_aload_n dX6_growAside_8 rfl ?_
  refine pk_getP dX6_growAside_9 fl_X6_60 rfl (hW.s rfl) (hW.p rfl) ?_
  refine pk_iconst (v := nI 0) dX6_growAside_12 (by decide) ?_
  refine pk_bipush (v := nI 48) dX6_growAside_13 (by decide) ?_
  refine pk_copyIN dX6_growAside_15 mo_X6_210 nat_copy st_copy it_sys (hW.s rfl) (hW.s rfl) (by omega) (by omega) (by omega) (by omega) (by omega) (by omega) rfl rfl ?_
  refine pk_aload_n dX6_growAside_18 rfl ?_
  refine pk_getP dX6_growAside_19 fl_X6_36 rfl (hW.s rfl) (hW.p rfl) ?_
  refine pk_aload_n dX6_growAside_22 rfl ?_
  refine pk_getP dX6_growAside_23 fl_X6_10 rfl (hW.s rfl) (hW.p rfl) ?_
  refine pk_Vvr dX6_growAside_26 ml_X6_311 yw_X1_find yv_X1_find (hW.s rfl) (e_X1_find (M := pk_cI M 10 0 92 0 48) ⟨hfc.wf hW, hAc, hok⟩) rfl rfl rfl rfl rfl rfl rfl (fun M0 h0 => ?_)
  have hf0 := hfc.tr (h0.1.mono (fun q h => Or.inl h))
  refine pk_iconst (v := nI 0) dX6_growAside_29 (by decide) ?_
  refine pk_istore_n dX6_growAside_30 rfl rfl ?_
  refine pk_wf (fun z => 6 - z.2) (fun z : pk_M × Nat => (pk_fr (fun q => q = 81 ∨ q = 92) M z.1 ∧ (∀ s, s < 32 → pk_I z.1 81 s = nI (sp_lookA A s)) ∧ ∀ q, q < 48 → pk_I z.1 92 q = nI (sp_gro A (8 * z.2) q)) ∧ z.2 ≤ sp_h A) (fun z => z.1) (fun z => [some (.ref 5), some (.int (nI z.2)), none]) ?_ (M0, 0) ⟨⟨hf0, h0.2, fun q hq => (h0.1.I (by omega) q).trans (pk_gC1 (by omega) (by rw [show 0 + (q - 0) = q by omega]; exact hA.2.2.2.2.2.2 q hq))⟩, Nat.zero_le _⟩
  rintro ⟨M1, j⟩ ⟨hb, hj2⟩ K
  dsimp only at hb hj2 K ⊢
  have hW1 := hb.1.wf hW
  have hA1 := hb.1.at (p := 6) (fun q h1 h2 h3 => by omega) hA
  refine pk_iload_n dX6_growAside_31 rfl ?_
  refine pk_aload_n dX6_growAside_32 rfl ?_
  refine pk_getP dX6_growAside_33 fl_X6_10 rfl (hW1.s rfl) (hW1.p rfl) ?_
  refine pk_getN dX6_growAside_36 fl_X6_161 rfl (hW1.s rfl) hA1.2.1 ?_
  first | refine pk_geN (tgt := 125) dX6_growAside_39 (by decide) (by omega) (by omega) (fun c_39 => ?_) (fun c_39 => ?_) | refine pk_icmp_ge (tgt := 125) dX6_growAside_39 (by decide) (fun c_39 => ?_) (fun c_39 => ?_)
  · refine pk_retv dX6_growAside_125 ?_
    have hjj : j = sp_h A := by omega
    subst hjj
    have e9 : sp_gro A 48 = sp_gro A (8 * sp_h A) := sp_gro_skip (by omega) (fun q h1 h2 => sp_in_no (Or.inr (by omega)))
    exact ⟨rfl, hb.1, by rw [e9]; exact hb.2.2⟩
  · refine pk_iconst (v := nI 0) dX6_growAside_42 (by decide) ?_
    refine pk_istore_n dX6_growAside_43 rfl rfl ?_
    refine pk_wf (fun z => 8 - z.2) (fun z : pk_M × Nat => (pk_fr (fun q => q = 81 ∨ q = 92) M z.1 ∧ (∀ s, s < 32 → pk_I z.1 81 s = nI (sp_lookA A s)) ∧ ∀ q, q < 48 → pk_I z.1 92 q = nI (sp_gro A (8 * j + z.2) q)) ∧ z.2 ≤ sp_w A) (fun z => z.1) (fun z => [some (.ref 5), some (.int (nI j)), some (.int (nI z.2))]) ?_ (M1, 0) ⟨hb, Nat.zero_le _⟩
    rintro ⟨M2, i⟩ ⟨hb2, hi2⟩ K2
    dsimp only at hb2 hi2 K2 ⊢
    have hW2 := hb2.1.wf hW
    have hA2 := hb2.1.at (p := 6) (fun q h1 h2 h3 => by omega) hA
    have h84 : i < sp_w A → j < sp_h A → ∀ M3, (pk_fr (fun q => q = 81 ∨ q = 92) M M3 ∧ (∀ s, s < 32 → pk_I M3 81 s = nI (sp_lookA A s)) ∧ ∀ q, q < 48 → pk_I M3 92 q = nI ((if i + 1 < sp_w A then sp_gb A (8 * j + i) (8 * j + i + 1) (sp_gro A (8 * j + i)) else sp_gro A (8 * j + i)) q)) → pk_G Γ (pk_kq Γ RX6 3 none false 4 0 0 (List.map (pk_gv Γ) [Value.ref 5]).toArray (fun r M' => r = none ∧ pk_fr (fun q => q = 81 ∨ q = 92) M M' ∧ ∀ q, q < 48 → pk_I M' 92 q = nI (sp_gro A 48 q))) cX6_growAside M3 [some (.ref 5), some (.int (nI j)), some (.int (nI i))] [] 84 0 0 := by
      intro hi hj M3 hb3
      have hW3 := hb3.1.wf hW
      have hA3 := hb3.1.at (p := 6) (fun q h1 h2 h3 => by omega) hA
      have hin : sp_in A (8 * j + i) = true := sp_in_ij hok hi hj
      have hst : sp_gro A (8 * j + (i + 1)) = (if j + 1 < sp_h A then sp_gb A (8 * j + i) (8 * j + i + 8) (if i + 1 < sp_w A then sp_gb A (8 * j + i) (8 * j + i + 1) (sp_gro A (8 * j + i)) else sp_gro A (8 * j + i)) else (if i + 1 < sp_w A then sp_gb A (8 * j + i) (8 * j + i + 1) (sp_gro A (8 * j + i)) else sp_gro A (8 * j + i))) := by
        show (if sp_in A (8 * j + i) = true then sp_gs A (8 * j + i) (sp_gro A (8 * j + i)) else _) = _
        rw [if_pos hin]
        unfold sp_gs
        rw [show (8 * j + i) % 8 = i by omega, show (8 * j + i) / 8 = j by omega]
      refine pk_iload_n dX6_growAside_84 rfl ?_
      refine pk_iconst (v := nI 1) dX6_growAside_85 (by decide) ?_
      first | refine pk_addN dX6_growAside_86 ?_ | refine pk_iadd dX6_growAside_86 ?_
      refine pk_aload_n dX6_growAside_87 rfl ?_
      refine pk_getP dX6_growAside_88 fl_X6_10 rfl (hW3.s rfl) (hW3.p rfl) ?_
      refine pk_getN dX6_growAside_91 fl_X6_161 rfl (hW3.s rfl) hA3.2.1 ?_
      first | refine pk_geN (tgt := 113) dX6_growAside_94 (by decide) (by omega) (by omega) (fun c_94 => ?_) (fun c_94 => ?_) | refine pk_icmp_ge (tgt := 113) dX6_growAside_94 (by decide) (fun c_94 => ?_) (fun c_94 => ?_)
      · first | refine pk_inc1 dX6_growAside_113 rfl rfl ?_ | refine pk_iinc dX6_growAside_113 rfl rfl rfl ?_
        refine pk_goto (tgt := 44) dX6_growAside_116 (by decide) ?_
        first
          | exact K2 (M4, i + 1) ⟨hb4, by dsimp only; omega⟩ (by dsimp only; omega)
          | exact K2 (M3, i + 1) ⟨⟨hb3.1, hb3.2.1, by dsimp only; rw [hst, if_neg (by omega)]; exact hb3.2.2⟩, by dsimp only; omega⟩ (by dsimp only; omega)
      · replace c_94 : j + 1 < sp_h A := c_94
        refine pk_aload_n dX6_growAside_97 rfl ?_
        refine pk_iload_n dX6_growAside_98 rfl ?_
        refine pk_iload_n dX6_growAside_99 rfl ?_
        refine pk_Si dX6_growAside_100 ml_X6_344 yw_X4_indexOf ys_X4_indexOf (e_X4_indexOf _ _) rfl rfl rfl rfl rfl rfl rfl ?_
        refine pk_iload_n dX6_growAside_103 rfl ?_
        refine pk_iload_n dX6_growAside_104 rfl ?_
        refine pk_iconst (v := nI 1) dX6_growAside_105 (by decide) ?_
        first | refine pk_addN dX6_growAside_106 ?_ | refine pk_iadd dX6_growAside_106 ?_
        refine pk_Si dX6_growAside_107 ml_X6_344 yw_X4_indexOf ys_X4_indexOf (e_X4_indexOf _ _) rfl rfl rfl rfl rfl rfl rfl ?_
        rw [show j * 8 + i = 8 * j + i by omega, show (j + 1) * 8 + i = 8 * j + i + 8 by omega]
        refine pk_Vvr dX6_growAside_110 ml_X6_347 yw_X6_growBetween yv_X6_growBetween (hW3.s rfl) (e_X6_growBetween ⟨hW3, hA3, hok⟩ hb3.2.1 hb3.2.2 (by omega) (by omega)) rfl rfl rfl rfl rfl rfl rfl (fun M4 h4 => ?_)
        have hb4 : pk_fr (fun q => q = 81 ∨ q = 92) M M4 ∧ (∀ s, s < 32 → pk_I M4 81 s = nI (sp_lookA A s)) ∧ ∀ q, q < 48 → pk_I M4 92 q = nI (sp_gro A (8 * j + (i + 1)) q) := ⟨hb3.1.tr (h4.1.mono (fun q h => Or.inr h)), fun s hs => (h4.1.I (by omega) s).trans (hb3.2.1 s hs), by rw [hst, if_pos c_94]; exact h4.2⟩
        first | refine pk_inc1 dX6_growAside_113 rfl rfl ?_ | refine pk_iinc dX6_growAside_113 rfl rfl rfl ?_
        refine pk_goto (tgt := 44) dX6_growAside_116 (by decide) ?_
        first
          | exact K2 (M4, i + 1) ⟨hb4, by dsimp only; omega⟩ (by dsimp only; omega)
          | exact K2 (M3, i + 1) ⟨⟨hb3.1, hb3.2.1, by dsimp only; rw [hst, if_neg (by omega)]; exact hb3.2.2⟩, by dsimp only; omega⟩ (by dsimp only; omega)
    refine pk_iload_n dX6_growAside_44 rfl ?_
    refine pk_aload_n dX6_growAside_45 rfl ?_
    refine pk_getP dX6_growAside_46 fl_X6_10 rfl (hW2.s rfl) (hW2.p rfl) ?_
    refine pk_getN dX6_growAside_49 fl_X6_160 rfl (hW2.s rfl) hA2.1 ?_
    first | refine pk_geN (tgt := 119) dX6_growAside_52 (by decide) (by omega) (by omega) (fun c_52 => ?_) (fun c_52 => ?_) | refine pk_icmp_ge (tgt := 119) dX6_growAside_52 (by decide) (fun c_52 => ?_) (fun c_52 => ?_)
    · first | refine pk_inc1 dX6_growAside_119 rfl rfl ?_ | refine pk_iinc dX6_growAside_119 rfl rfl rfl ?_
      refine pk_goto (tgt := 31) dX6_growAside_122 (by decide) ?_
      have hiw : i = sp_w A := by omega
      subst hiw
      have e9 : sp_gro A (8 * (j + 1)) = sp_gro A (8 * j + sp_w A) := sp_gro_skip (by omega) (fun q h1 h2 => sp_in_no (Or.inl (by omega)))
      exact pk_fgt (by repeat first | exact trivial | refine ⟨rfl, ?_⟩) (K (M2, j + 1) ⟨⟨hb2.1, hb2.2.1, by dsimp only; rw [e9]; exact hb2.2.2⟩, by dsimp only; omega⟩ (by dsimp only; omega))
    · refine pk_iload_n dX6_growAside_55 rfl ?_
      refine pk_iconst (v := nI 1) dX6_growAside_56 (by decide) ?_
      first | refine pk_addN dX6_growAside_57 ?_ | refine pk_iadd dX6_growAside_57 ?_
      refine pk_aload_n dX6_growAside_58 rfl ?_
      refine pk_getP dX6_growAside_59 fl_X6_10 rfl (hW2.s rfl) (hW2.p rfl) ?_
      refine pk_getN dX6_growAside_62 fl_X6_160 rfl (hW2.s rfl) hA2.1 ?_
      first | refine pk_geN (tgt := 84) dX6_growAside_65 (by decide) (by omega) (by omega) (fun c_65 => ?_) (fun c_65 => ?_) | refine pk_icmp_ge (tgt := 84) dX6_growAside_65 (by decide) (fun c_65 => ?_) (fun c_65 => ?_)
      · first
          | exact h84 (by omega) (by omega) M4 hb4
          | exact h84 (by omega) (by omega) M2 ⟨hb2.1, hb2.2.1, by rw [if_neg (by omega)]; exact hb2.2.2⟩
      · replace c_65 : i + 1 < sp_w A := c_65
        refine pk_aload_n dX6_growAside_68 rfl ?_
        refine pk_iload_n dX6_growAside_69 rfl ?_
        refine pk_iload_n dX6_growAside_70 rfl ?_
        refine pk_Si dX6_growAside_71 ml_X6_344 yw_X4_indexOf ys_X4_indexOf (e_X4_indexOf _ _) rfl rfl rfl rfl rfl rfl rfl ?_
        refine pk_iload_n dX6_growAside_74 rfl ?_
        refine pk_iconst (v := nI 1) dX6_growAside_75 (by decide) ?_
        first | refine pk_addN dX6_growAside_76 ?_ | refine pk_iadd dX6_growAside_76 ?_
        refine pk_iload_n dX6_growAside_77 rfl ?_
        refine pk_Si dX6_growAside_78 ml_X6_344 yw_X4_indexOf ys_X4_indexOf (e_X4_indexOf _ _) rfl rfl rfl rfl rfl rfl rfl ?_
        rw [show j * 8 + i = 8 * j + i by omega, show j * 8 + (i + 1) = 8 * j + i + 1 by omega]
        refine pk_Vvr dX6_growAside_81 ml_X6_347 yw_X6_growBetween yv_X6_growBetween (hW2.s rfl) (e_X6_growBetween ⟨hW2, hA2, hok⟩ hb2.2.1 hb2.2.2 (by omega) (by omega)) rfl rfl rfl rfl rfl rfl rfl (fun M4 h4 => ?_)
        have hb4 : pk_fr (fun q => q = 81 ∨ q = 92) M M4 ∧ (∀ s, s < 32 → pk_I M4 81 s = nI (sp_lookA A s)) ∧ ∀ q, q < 48 → pk_I M4 92 q = nI ((if i + 1 < sp_w A then sp_gb A (8 * j + i) (8 * j + i + 1) (sp_gro A (8 * j + i)) else sp_gro A (8 * j + i)) q) := ⟨hb2.1.tr (h4.1.mono (fun q h => Or.inr h)), fun s hs => (h4.1.I (by omega) s).trans (hb2.2.1 s hs), by rw [if_pos c_65]; exact h4.2⟩
        first
          | exact h84 (by omega) (by omega) M4 hb4
          | exact h84 (by omega) (by omega) M2 ⟨hb2.1, hb2.2.1, by rw [if_neg (by omega)]; exact hb2.2.2⟩
