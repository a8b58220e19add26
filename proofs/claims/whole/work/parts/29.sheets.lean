/-! Sheets. -/
def x_S (X : pk_X) (k : Nat) (R : pk_Ro) : pk_X := (X.1, X.2.1, X.2.2.1, X.2.2.2.1, fun j => if j = k then R else X.2.2.2.2 j)
theorem pk_isR_k {k : Nat} (h : k < 4) : pk_isR (95 + 2 * k) = true := by
  obtain rfl | rfl | rfl | rfl : k = 0 ∨ k = 1 ∨ k = 2 ∨ k = 3 := by omega
  all_goals rfl
theorem pk_WF.rows {L k : Nat} {M : pk_M} (hW : pk_WF L M) (h : k < 4) : pk_P M 91 k = some (95 + 2 * k) := hW.p (by
  obtain rfl | rfl | rfl | rfl : k = 0 ∨ k = 1 ∨ k = 2 ∨ k = 3 := by omega
  all_goals rfl)
theorem pk_RC.sh {L k : Nat} {M M1 : pk_M} {X : pk_X} {R : pk_Ro} (hk : k < 4) (h : pk_ff (fun q => q = 95 + 2 * k ∨ q = 96 + 2 * k) M M1) (hR : pk_RC L M X) (hw : pk_Rw M1 (95 + 2 * k) R) : pk_RC L M1 (x_S X k R) := by
  obtain ⟨h1, h2, h3, ⟨pl, h4⟩, h5, ⟨pl2, kn, KH, h6, h6b⟩, h7, h8, h9⟩ := hR
  refine ⟨h.wf h1, h.ro (fun q hq z => by omega) h2, h.at (fun q g1 g2 z => by omega) h3, ⟨pl, h4.ff h ⟨by omega, by omega, fun q g1 g2 z => by omega⟩⟩, (h.I (by omega) 4).trans h5, ⟨pl2, kn, KH, h6.ff h ⟨by omega, by omega, fun q g1 g2 z => by omega⟩, h6b⟩, fun hk => h.at (fun q g1 g2 z => by omega) (h7 hk), ⟨(h.I (by omega) 2).trans h8.1, fun i hi => (h.I (by omega) i).trans (h8.2 i hi)⟩, fun j hj => ?_⟩
  by_cases e : j = k
  · subst e
    show pk_Rw M1 (95 + 2 * j) (if j = j then R else X.2.2.2.2 j)
    rw [if_pos rfl]
    exact hw
  · show pk_Rw M1 (95 + 2 * j) (if j = k then R else X.2.2.2.2 j)
    rw [if_neg e]
    exact (h9 j hj).ff h (by omega) (by omega)
theorem pk_ff.sJ {D : Nat → Prop} {M : pk_M} {p k : Nat} {x : Int64} (hp : D p) : pk_ff D M (pk_sJ M p k x) := ⟨rfl, fun _ _ => rfl, fun q hq => ⟨rfl, by
  have : q ≠ p := fun e => hq (e ▸ hp)
  funext j
  simp [pk_sJ, this], rfl⟩⟩
theorem pk_ff.cJ {D : Nat → Prop} {M : pk_M} {a i p k n : Nat} (hp : D p) : pk_ff D M (pk_cJ M a i p k n) := ⟨rfl, fun _ _ => rfl, fun q hq => ⟨rfl, by
  have : q ≠ p := fun e => hq (e ▸ hp)
  funext j
  simp [pk_cJ, this], rfl⟩⟩
theorem pk_ff.wJ {D : Nat → Prop} {M : pk_M} {p : Nat} {f : Nat → Int64} (hp : D p) : pk_ff D M (pk_wJ M p f) := ⟨rfl, fun _ _ => rfl, fun q hq => ⟨rfl, by
  have : q ≠ p := fun e => hq (e ▸ hp)
  funext j
  simp [pk_wJ, this], rfl⟩⟩
theorem pk_J_sJ (M : pk_M) (p k q j : Nat) (x : Int64) : pk_J (pk_sJ M p k x) q j = if q = p ∧ j = k then x else pk_J M q j := rfl
theorem pk_J_cJ (M : pk_M) (a i p k n q j : Nat) : pk_J (pk_cJ M a i p k n) q j = if q = p ∧ k ≤ j ∧ j < k + n then pk_J M a (i + (j - k)) else pk_J M q j := rfl
theorem pk_J_wJ (M : pk_M) (p : Nat) (f : Nat → Int64) (q j : Nat) : pk_J (pk_wJ M p f) q j = if q = p then f j else pk_J M q j := rfl
theorem sp_has_of {m : Nat} {i n : Int32} (hm : m ≤ 24) (h : sp_has m i n = true) : ∃ a b, i = nI a ∧ n = nI b ∧ a + b ≤ m := by
  simp only [sp_has, Bool.and_eq_true, decide_eq_true_eq] at h
  obtain ⟨⟨⟨h1, h2⟩, h3⟩, h4⟩ := h
  obtain ⟨a, ha, rfl⟩ := nI_of (Int32.not_lt.mpr h1)
  obtain ⟨b, hb, rfl⟩ := nI_of (Int32.not_lt.mpr h3)
  have ham := (nI_leI ha (by omega)).mp h2
  rw [pk_nsub ham] at h4
  have hbm := (nI_leI hb (by omega)).mp h4
  exact ⟨a, b, rfl, rfl, by omega⟩
theorem sp_why_0 {S : pk_Ro} {l i n : Int32} (h : sp_why S l i n = 0) : S.1 = true ∧ nI S.2.1 = l ∧ sp_has S.2.2.1 i n = true := by
  unfold sp_why at h
  split at h
  · exact absurd h (by decide)
  · split at h
    · exact absurd h (by decide)
    · split at h
      · rename_i h1 h2 h3
        exact ⟨by simpa using h1, Classical.not_not.mp h2, h3⟩
      · exact absurd h (by decide)
def op_sheet (X : pk_X) (s l n : Int32) : Int32 × pk_X := if (sp_b s 4 && sp_b l 4) = false ∨ nI 24 < n then (-1, X) else if n < 0 then (-14, X) else (n, x_S X s.toNatClampNeg (true, l.toNatClampNeg, n.toNatClampNeg, fun _ => 0))
def op_drop (X : pk_X) (s : Int32) : Int32 × pk_X := if sp_b s 4 = false then (-1, X) else if (X.2.2.2.2 s.toNatClampNeg).1 = false then (-11, X) else (nI (X.2.2.2.2 s.toNatClampNeg).2.2.1, x_S X s.toNatClampNeg (false, (X.2.2.2.2 s.toNatClampNeg).2))
def op_item (X : pk_X) (s l i : Int32) (v : Int64) : Int32 × pk_X := if (sp_b s 4 && sp_b l 4) = false then (-1, X) else if ¬ sp_why (X.2.2.2.2 s.toNatClampNeg) l i (nI 1) = 0 then (sp_why (X.2.2.2.2 s.toNatClampNeg) l i (nI 1), X) else
  (1, x_S X s.toNatClampNeg ((X.2.2.2.2 s.toNatClampNeg).1, (X.2.2.2.2 s.toNatClampNeg).2.1, (X.2.2.2.2 s.toNatClampNeg).2.2.1, fun j => if j = i.toNatClampNeg then sp_cut (X.2.2.2.2 s.toNatClampNeg).2.1 v else (X.2.2.2.2 s.toNatClampNeg).2.2.2 j))
def op_copy (X : pk_X) (f i t j n : Int32) : Int32 × pk_X := if (sp_b f 4 && sp_b t 4) = false then (-1, X) else if (X.2.2.2.2 f.toNatClampNeg).1 = false ∨ (X.2.2.2.2 t.toNatClampNeg).1 = false then (-11, X) else if ¬ (X.2.2.2.2 f.toNatClampNeg).2.1 = (X.2.2.2.2 t.toNatClampNeg).2.1 then (-12, X) else if (sp_has (X.2.2.2.2 f.toNatClampNeg).2.2.1 i n && sp_has (X.2.2.2.2 t.toNatClampNeg).2.2.1 j n) = false then (-13, X) else
  (n, x_S X t.toNatClampNeg ((X.2.2.2.2 t.toNatClampNeg).1, (X.2.2.2.2 t.toNatClampNeg).2.1, (X.2.2.2.2 t.toNatClampNeg).2.2.1, fun a => if j.toNatClampNeg ≤ a ∧ a < j.toNatClampNeg + n.toNatClampNeg then (X.2.2.2.2 f.toNatClampNeg).2.2.2 (i.toNatClampNeg + (a - j.toNatClampNeg)) else (X.2.2.2.2 t.toNatClampNeg).2.2.2 a))
theorem pk_bi_t {b : Bool} (h : b = true) : pk_bi b = nI 1 := by rw [h]; rfl

set_option maxRecDepth 100000 in
set_option maxHeartbeats 4000000 in
theorem e_X6_sheet {Γ : pk_T} {M : pk_M} {L : Nat} {X : pk_X} (hR : pk_RC L M X) (hX : pk_okX X) (s l n : Int32) : pk_E Γ yX6_sheet cX6_sheet 4 (some .int) 2 0 0 M [.ref 5, .int s, .int l, .int n] (fun r M' => r = some (.int (op_sheet X s l n).1) ∧ pk_cf M M' ∧ pk_RC L M' (op_sheet X s l n).2) := by
  have hR0 := hR
  obtain ⟨hW, hro, hA, ⟨pl, hP⟩, hkb, ⟨pl2, kn, KH, hKP, hKq⟩, hKA, hTp, hSh⟩ := hR0
  have hok := hX.1
  have hw := hok.1
  have hh := hok.2.1
  have hn6 := hX.2.1.1
  refine pk_meth (own := RX6) (ini := false) [some (.ref 5), some (.int s), some (.int l), some (.int n)] (by decide +kernel) rfl (by decide +kernel) rfl rfl ?_
  refine pk_iload_n dX6_sheet_0 rfl ?_
  refine pk_iload_n dX6_sheet_1 rfl ?_
  refine pk_Si dX6_sheet_2 ml_X6_260 yw_X6_isTaking ys_X6_isTaking (e_X6_isTaking _ _) rfl rfl rfl rfl rfl rfl rfl ?_
  first | refine pk_eqb (tgt := 14) dX6_sheet_5 (by decide) (fun c_5 => ?_) (fun c_5 => ?_) | refine pk_eq0N (tgt := 14) dX6_sheet_5 (by decide) (by omega) (fun c_5 => ?_) (fun c_5 => ?_) | refine pk_if_eq (tgt := 14) dX6_sheet_5 (by decide) (fun c_5 => ?_) (fun c_5 => ?_)
  · refine pk_iconst (v := -1) dX6_sheet_14 (by decide) ?_
    refine pk_reti dX6_sheet_15 (by first | rfl | exact pk_nbi _) ?_
    rw [op_sheet, if_pos]
    · exact ⟨rfl, pk_ff.rf _ M, hR⟩
    · first | exact Or.inl c_5 | exact Or.inr (Int32.not_le.mp c_11)
  · refine pk_iload_n dX6_sheet_8 rfl ?_
    refine pk_bipush (v := nI 24) dX6_sheet_9 (by decide) ?_
    refine pk_icmp_le (tgt := 16) dX6_sheet_11 (by decide) (fun c_11 => ?_) (fun c_11 => ?_)
    · have c5 := c_5
      rw [Bool.and_eq_true] at c5
      obtain ⟨k, hk, rfl⟩ := sp_b_of c5.1 (by decide)
      obtain ⟨l, hl, rfl⟩ := sp_b_of c5.2 (by decide)
      rw [op_sheet, if_neg (by rw [sp_b_n hk (by decide), sp_b_n hl (by decide)]; exact fun h => h.elim (by decide) (fun h => absurd c_11 (Int32.not_le.mpr h)))]
      refine pk_iload_n dX6_sheet_16 rfl ?_
      refine pk_if_ge (tgt := 23) dX6_sheet_17 (by decide) (fun c_17 => ?_) (fun c_17 => ?_)
      · obtain ⟨n, hn, rfl⟩ := nI_of (x := n) (Int32.not_lt.mpr c_17)
        have hn24 : n ≤ 24 := (nI_leI hn (by decide)).mp c_11
        rw [if_neg (nI_pos hn), nI_clamp hn, nI_clamp (show k < 2 ^ 31 by omega), nI_clamp (show l < 2 ^ 31 by omega)]
        have hs := pk_isR_s hW (pk_isR_k hk)
        refine pk_aload_n dX6_sheet_23 rfl ?_
        refine pk_getP dX6_sheet_24 fl_X6_56 rfl (hW.s rfl) (hW.p rfl) ?_
        refine pk_iload_n dX6_sheet_27 rfl ?_
        refine pk_aaN dX6_sheet_28 (Or.inr ⟨rfl, rfl⟩) (hW.s rfl) (by omega) (by omega) (by omega) (hW.rows hk) ?_
        refine pk_iload_n dX6_sheet_29 rfl ?_
        refine pk_iload_n dX6_sheet_30 rfl ?_
        refine pk_Vv dX6_sheet_31 ml_X6_277 yw_X3_begin yv_X3_begin hs.1 (e_X3_begin hW (pk_isR_k hk)) rfl rfl rfl rfl rfl rfl rfl ?_
        refine pk_iload_n dX6_sheet_34 rfl ?_
        refine pk_reti dX6_sheet_35 (by first | rfl | exact pk_nbi _) ?_
        have hff : pk_ff (fun q => q = 95 + 2 * k ∨ q = 96 + 2 * k) M _ := ((pk_fr.ff (pk_fr.sI (p := 95 + 2 * k) (k := 1) (x := nI 1) (Or.inl rfl))).tr (pk_fr.ff (pk_fr.sI (p := 95 + 2 * k) (k := 2) (x := nI l) (Or.inl rfl)))).tr ((pk_fr.ff (pk_fr.sI (p := 95 + 2 * k) (k := 3) (x := nI n) (Or.inl rfl))).tr (pk_ff.wJ (p := 95 + 2 * k + 1) (f := fun i => if i < 24 then 0 else pk_J M (95 + 2 * k + 1) i) (Or.inr (by omega))))
        refine ⟨rfl, hff.mono (fun q h => by omega), hR.sh hk hff ⟨?_, ?_, ?_, hl, hn24, fun j hj => ?_⟩⟩
        · exact pk_gS0 (Or.inr (by decide)) (pk_gS0 (Or.inr (by decide)) (pk_gS1 rfl rfl rfl))
        · exact pk_gS0 (Or.inr (by decide)) (pk_gS1 rfl rfl rfl)
        · exact pk_gS1 rfl rfl rfl
        · rw [pk_J_wJ, if_pos rfl, if_pos hj]
      · refine pk_bipush (v := -14) dX6_sheet_20 (by decide) ?_
        refine pk_reti dX6_sheet_22 (by first | rfl | exact pk_nbi _) ?_
        rw [if_pos (Int32.not_le.mp c_17)]
        exact ⟨rfl, pk_ff.rf _ M, hR⟩
    · refine pk_iconst (v := -1) dX6_sheet_14 (by decide) ?_
      refine pk_reti dX6_sheet_15 (by first | rfl | exact pk_nbi _) ?_
      rw [op_sheet, if_pos]
      · exact ⟨rfl, pk_ff.rf _ M, hR⟩
      · first | exact Or.inl c_5 | exact Or.inr (Int32.not_le.mp c_11)

set_option maxRecDepth 100000 in
set_option maxHeartbeats 4000000 in
theorem e_X6_drop {Γ : pk_T} {M : pk_M} {L : Nat} {X : pk_X} (hR : pk_RC L M X) (hX : pk_okX X) (s : Int32) : pk_E Γ yX6_drop cX6_drop 3 (some .int) 1 0 0 M [.ref 5, .int s] (fun r M' => r = some (.int (op_drop X s).1) ∧ pk_cf M M' ∧ pk_RC L M' (op_drop X s).2) := by
  have hR0 := hR
  obtain ⟨hW, hro, hA, ⟨pl, hP⟩, hkb, ⟨pl2, kn, KH, hKP, hKq⟩, hKA, hTp, hSh⟩ := hR0
  have hok := hX.1
  have hw := hok.1
  have hh := hok.2.1
  have hn6 := hX.2.1.1
  refine pk_meth (own := RX6) (ini := false) [some (.ref 5), some (.int s), none] (by decide +kernel) rfl (by decide +kernel) rfl rfl ?_
  refine pk_iload_n dX6_drop_0 rfl ?_
  refine pk_iconst (v := nI 4) dX6_drop_1 (by decide) ?_
  refine pk_Si dX6_drop_2 ml_X6_71 yw_X6_isBelow ys_X6_isBelow (e_X6_isBelow _ _) rfl rfl rfl rfl rfl rfl rfl ?_
  first | refine pk_neb (tgt := 10) dX6_drop_5 (by decide) (fun c_5 => ?_) (fun c_5 => ?_) | refine pk_ne0N (tgt := 10) dX6_drop_5 (by decide) (by omega) (fun c_5 => ?_) (fun c_5 => ?_) | refine pk_if_ne (tgt := 10) dX6_drop_5 (by decide) (fun c_5 => ?_) (fun c_5 => ?_)
  · obtain ⟨k, hk, rfl⟩ := sp_b_of c_5 (by decide)
    have hs := pk_isR_s hW (pk_isR_k hk)
    have hSk := hSh k hk
    rw [op_drop, if_neg (by rw [sp_b_n hk (by decide)]; decide), nI_clamp (show k < 2 ^ 31 by omega)]
    refine pk_aload_n dX6_drop_10 rfl ?_
    refine pk_getP dX6_drop_11 fl_X6_56 rfl (hW.s rfl) (hW.p rfl) ?_
    refine pk_iload_n dX6_drop_14 rfl ?_
    refine pk_aaN dX6_drop_15 (Or.inr ⟨rfl, rfl⟩) (hW.s rfl) (by omega) (by omega) (by omega) (hW.rows hk) ?_
    refine pk_astore_n dX6_drop_16 rfl rfl ?_
    refine pk_aload_n dX6_drop_17 rfl ?_
    refine pk_getI dX6_drop_18 fl_X6_281 rfl hs.1 ?_
    rw [hSk.1]
    first | refine pk_neb (tgt := 27) dX6_drop_21 (by decide) (fun c_21 => ?_) (fun c_21 => ?_) | refine pk_ne0N (tgt := 27) dX6_drop_21 (by decide) (by omega) (fun c_21 => ?_) (fun c_21 => ?_) | refine pk_if_ne (tgt := 27) dX6_drop_21 (by decide) (fun c_21 => ?_) (fun c_21 => ?_)
    · refine pk_aload_n dX6_drop_27 rfl ?_
      refine pk_iconst (v := nI 0) dX6_drop_28 (by decide) ?_
      refine pk_putI dX6_drop_29 fl_X6_281 rfl rfl rfl rfl hs.1 ?_
      refine pk_aload_n dX6_drop_32 rfl ?_
      refine pk_getN dX6_drop_33 fl_X6_284 rfl hs.1 (pk_gS0 (Or.inr (by decide)) hSk.2.2.1) ?_
      refine pk_reti dX6_drop_36 (by first | rfl | exact pk_nbi _) ?_
      rw [if_neg (by rw [c_21]; decide)]
      have hff : pk_ff (fun q => q = 95 + 2 * k ∨ q = 96 + 2 * k) M (pk_sI M (95 + 2 * k) 1 (nI 0)) := pk_fr.ff (pk_fr.sI (Or.inl rfl))
      exact ⟨rfl, hff.mono (fun q h => by omega), hR.sh hk hff ⟨pk_gS1 rfl rfl rfl, pk_gS0 (Or.inr (by decide)) hSk.2.1, pk_gS0 (Or.inr (by decide)) hSk.2.2.1, hSk.2.2.2.1, hSk.2.2.2.2.1, hSk.2.2.2.2.2⟩⟩
    · refine pk_bipush (v := -11) dX6_drop_24 (by decide) ?_
      refine pk_reti dX6_drop_26 (by first | rfl | exact pk_nbi _) ?_
      rw [if_pos c_21]
      exact ⟨rfl, pk_ff.rf _ M, hR⟩
  · refine pk_iconst (v := -1) dX6_drop_8 (by decide) ?_
    refine pk_reti dX6_drop_9 (by first | rfl | exact pk_nbi _) ?_
    rw [op_drop, if_pos]
    · exact ⟨rfl, pk_ff.rf _ M, hR⟩
    · exact c_5

set_option maxRecDepth 100000 in
set_option maxHeartbeats 4000000 in
theorem e_X6_item {Γ : pk_T} {M : pk_M} {L : Nat} {X : pk_X} (hR : pk_RC L M X) (hX : pk_okX X) (s l i : Int32) (v : Int64) : pk_E Γ yX6_item cX6_item 7 (some .int) 3 0 0 M [.ref 5, .int s, .int l, .int i, .long v] (fun r M' => r = some (.int (op_item X s l i v).1) ∧ pk_cf M M' ∧ pk_RC L M' (op_item X s l i v).2) := by
  have hR0 := hR
  obtain ⟨hW, hro, hA, ⟨pl, hP⟩, hkb, ⟨pl2, kn, KH, hKP, hKq⟩, hKA, hTp, hSh⟩ := hR0
  have hok := hX.1
  have hw := hok.1
  have hh := hok.2.1
  have hn6 := hX.2.1.1
  refine pk_meth (own := RX6) (ini := false) [some (.ref 5), some (.int s), some (.int l), some (.int i), some (.long v), none, none] (by decide +kernel) rfl (by decide +kernel) rfl rfl ?_
  refine pk_iload_n dX6_item_0 rfl ?_
  refine pk_iload_n dX6_item_1 rfl ?_
  refine pk_Si dX6_item_2 ml_X6_260 yw_X6_isTaking ys_X6_isTaking (e_X6_isTaking _ _) rfl rfl rfl rfl rfl rfl rfl ?_
  first | refine pk_neb (tgt := 10) dX6_item_5 (by decide) (fun c_5 => ?_) (fun c_5 => ?_) | refine pk_ne0N (tgt := 10) dX6_item_5 (by decide) (by omega) (fun c_5 => ?_) (fun c_5 => ?_) | refine pk_if_ne (tgt := 10) dX6_item_5 (by decide) (fun c_5 => ?_) (fun c_5 => ?_)
  · have c5 := c_5
    rw [Bool.and_eq_true] at c5
    obtain ⟨k, hk, rfl⟩ := sp_b_of c5.1 (by decide)
    have hs := pk_isR_s hW (pk_isR_k hk)
    have hSk := hSh k hk
    have e0 : (sp_b (nI k) 4 && sp_b l 4) = true := by rw [sp_b_n hk (by decide)]; exact c5.2
    rw [op_item, if_neg (by rw [e0]; decide), nI_clamp (show k < 2 ^ 31 by omega)]
    refine pk_aload_n dX6_item_10 rfl ?_
    refine pk_getP dX6_item_11 fl_X6_56 rfl (hW.s rfl) (hW.p rfl) ?_
    refine pk_iload_n dX6_item_14 rfl ?_
    refine pk_aaN dX6_item_15 (Or.inr ⟨rfl, rfl⟩) (hW.s rfl) (by omega) (by omega) (by omega) (hW.rows hk) ?_
    refine pk_iload_n dX6_item_16 rfl ?_
    refine pk_iload_n dX6_item_17 rfl ?_
    refine pk_iconst (v := nI 1) dX6_item_18 (by decide) ?_
    refine pk_Vi dX6_item_19 ml_X6_263 yw_X3_whyNot yv_X3_whyNot hs.1 (e_X3_whyNot hW (pk_isR_k hk) hSk _ _ _) rfl rfl rfl rfl rfl rfl rfl ?_
    refine pk_istore dX6_item_22 rfl rfl ?_
    refine pk_iload dX6_item_24 rfl ?_
    refine pk_if_eq (tgt := 32) dX6_item_26 (by decide) (fun c_26 => ?_) (fun c_26 => ?_)
    · obtain ⟨w1, w2, w3⟩ := sp_why_0 c_26
      obtain ⟨a, b, rfl, hb, hab⟩ := sp_has_of hSk.2.2.2.2.1 w3
      have hm24 := hSk.2.2.2.2.1
      have hb1 : b = 1 := by
        have h1 := nI_clamp (n := b) (by omega)
        rw [← hb] at h1
        exact h1.symm.trans (by decide)
      subst hb1
      rw [if_neg (fun h => h c_26), nI_clamp (show a < 2 ^ 31 by omega)]
      refine pk_aload_n dX6_item_32 rfl ?_
      refine pk_getP dX6_item_33 fl_X6_56 rfl (hW.s rfl) (hW.p rfl) ?_
      refine pk_iload_n dX6_item_36 rfl ?_
      refine pk_aaN dX6_item_37 (Or.inr ⟨rfl, rfl⟩) (hW.s rfl) (by omega) (by omega) (by omega) (hW.rows hk) ?_
      refine pk_iload_n dX6_item_38 rfl ?_
      refine pk_lload dX6_item_39 rfl ?_
      refine pk_Vv dX6_item_41 ml_X6_274 yw_X3_write yv_X3_write hs.1 (e_X3_write hW (pk_isR_k hk) hSk (by omega) _) rfl rfl rfl rfl rfl rfl rfl ?_
      refine pk_iconst (v := nI 1) dX6_item_44 (by decide) ?_
      refine pk_reti dX6_item_45 (by first | rfl | exact pk_nbi _) ?_
      have hff : pk_ff (fun q => q = 95 + 2 * k ∨ q = 96 + 2 * k) M (pk_sJ M (95 + 2 * k + 1) a (sp_cut (X.2.2.2.2 k).2.1 v)) := pk_ff.sJ (Or.inr (by omega))
      refine ⟨rfl, hff.mono (fun q h => by omega), hR.sh hk hff ⟨hSk.1, hSk.2.1, hSk.2.2.1, hSk.2.2.2.1, hSk.2.2.2.2.1, fun j hj => ?_⟩⟩
      rw [pk_J_sJ]
      by_cases h : j = a
      · rw [if_pos ⟨rfl, h⟩]
        exact (if_pos h).symm
      · rw [if_neg (fun z => h z.2), hSk.2.2.2.2.2 j hj]
        exact (if_neg h).symm
    · refine pk_iload dX6_item_29 rfl ?_
      refine pk_reti dX6_item_31 (by first | rfl | exact pk_nbi _) ?_
      rw [if_pos c_26]
      exact ⟨rfl, pk_ff.rf _ M, hR⟩
  · refine pk_iconst (v := -1) dX6_item_8 (by decide) ?_
    refine pk_reti dX6_item_9 (by first | rfl | exact pk_nbi _) ?_
    rw [op_item, if_pos]
    · exact ⟨rfl, pk_ff.rf _ M, hR⟩
    · exact c_5

set_option maxRecDepth 100000 in
set_option maxHeartbeats 4000000 in
theorem e_X6_copy {Γ : pk_T} {M : pk_M} {L : Nat} {X : pk_X} (hR : pk_RC L M X) (hX : pk_okX X) (f i t j n : Int32) : pk_E Γ yX6_copy cX6_copy 8 (some .int) 2 0 0 M [.ref 5, .int f, .int i, .int t, .int j, .int n] (fun r M' => r = some (.int (op_copy X f i t j n).1) ∧ pk_cf M M' ∧ pk_RC L M' (op_copy X f i t j n).2) := by
  have hR0 := hR
  obtain ⟨hW, hro, hA, ⟨pl, hP⟩, hkb, ⟨pl2, kn, KH, hKP, hKq⟩, hKA, hTp, hSh⟩ := hR0
  have hok := hX.1
  have hw := hok.1
  have hh := hok.2.1
  have hn6 := hX.2.1.1
  refine pk_meth (own := RX6) (ini := false) [some (.ref 5), some (.int f), some (.int i), some (.int t), some (.int j), some (.int n), none, none] (by decide +kernel) rfl (by decide +kernel) rfl rfl ?_
  refine pk_iload_n dX6_copy_0 rfl ?_
  refine pk_iconst (v := nI 4) dX6_copy_1 (by decide) ?_
  refine pk_Si dX6_copy_2 ml_X6_71 yw_X6_isBelow ys_X6_isBelow (e_X6_isBelow _ _) rfl rfl rfl rfl rfl rfl rfl ?_
  first | refine pk_eqb (tgt := 16) dX6_copy_5 (by decide) (fun c_5 => ?_) (fun c_5 => ?_) | refine pk_eq0N (tgt := 16) dX6_copy_5 (by decide) (by omega) (fun c_5 => ?_) (fun c_5 => ?_) | refine pk_if_eq (tgt := 16) dX6_copy_5 (by decide) (fun c_5 => ?_) (fun c_5 => ?_)
  · refine pk_iconst (v := -1) dX6_copy_16 (by decide) ?_
    refine pk_reti dX6_copy_17 (by first | rfl | exact pk_nbi _) ?_
    rw [op_copy, if_pos]
    · exact ⟨rfl, pk_ff.rf _ M, hR⟩
    · first | (simp only [sp_b, c_5, Bool.false_and]; done) | (simp only [sp_b, c_13, Bool.and_false]; done)
  · refine pk_iload_n dX6_copy_8 rfl ?_
    refine pk_iconst (v := nI 4) dX6_copy_9 (by decide) ?_
    refine pk_Si dX6_copy_10 ml_X6_71 yw_X6_isBelow ys_X6_isBelow (e_X6_isBelow _ _) rfl rfl rfl rfl rfl rfl rfl ?_
    first | refine pk_neb (tgt := 18) dX6_copy_13 (by decide) (fun c_13 => ?_) (fun c_13 => ?_) | refine pk_ne0N (tgt := 18) dX6_copy_13 (by decide) (by omega) (fun c_13 => ?_) (fun c_13 => ?_) | refine pk_if_ne (tgt := 18) dX6_copy_13 (by decide) (fun c_13 => ?_) (fun c_13 => ?_)
    · obtain ⟨f, hf, rfl⟩ := sp_b_of c_5 (by decide)
      obtain ⟨t, ht, rfl⟩ := sp_b_of c_13 (by decide)
      have hsf := pk_isR_s hW (pk_isR_k hf)
      have hst := pk_isR_s hW (pk_isR_k ht)
      have hSf := hSh f hf
      have hSt := hSh t ht
      have hl1 := hSf.2.2.2.1
      have hl2 := hSt.2.2.2.1
      have e0 : (sp_b (nI f) 4 && sp_b (nI t) 4) = true := by rw [sp_b_n hf (by decide), sp_b_n ht (by decide)]; rfl
      rw [op_copy, if_neg (by rw [e0]; decide), nI_clamp (show f < 2 ^ 31 by omega), nI_clamp (show t < 2 ^ 31 by omega)]
      refine pk_aload_n dX6_copy_18 rfl ?_
      refine pk_getP dX6_copy_19 fl_X6_56 rfl (hW.s rfl) (hW.p rfl) ?_
      refine pk_iload_n dX6_copy_22 rfl ?_
      refine pk_aaN dX6_copy_23 (Or.inr ⟨rfl, rfl⟩) (hW.s rfl) (by omega) (by omega) (by omega) (hW.rows hf) ?_
      refine pk_astore dX6_copy_24 rfl rfl ?_
      refine pk_aload_n dX6_copy_26 rfl ?_
      refine pk_getP dX6_copy_27 fl_X6_56 rfl (hW.s rfl) (hW.p rfl) ?_
      refine pk_iload_n dX6_copy_30 rfl ?_
      refine pk_aaN dX6_copy_31 (Or.inr ⟨rfl, rfl⟩) (hW.s rfl) (by omega) (by omega) (by omega) (hW.rows ht) ?_
      refine pk_astore dX6_copy_32 rfl rfl ?_
      refine pk_aload dX6_copy_34 rfl ?_
      refine pk_getI dX6_copy_36 fl_X6_281 rfl hsf.1 ?_
      rw [hSf.1]
      first | refine pk_eqb (tgt := 50) dX6_copy_39 (by decide) (fun c_39 => ?_) (fun c_39 => ?_) | refine pk_eq0N (tgt := 50) dX6_copy_39 (by decide) (by omega) (fun c_39 => ?_) (fun c_39 => ?_) | refine pk_if_eq (tgt := 50) dX6_copy_39 (by decide) (fun c_39 => ?_) (fun c_39 => ?_)
      · refine pk_bipush (v := -11) dX6_copy_50 (by decide) ?_
        refine pk_reti dX6_copy_52 (by first | rfl | exact pk_nbi _) ?_
        rw [if_pos (by first | exact Or.inl c_39 | exact Or.inr c_47)]
        exact ⟨rfl, pk_ff.rf _ M, hR⟩
      · refine pk_aload dX6_copy_42 rfl ?_
        refine pk_getI dX6_copy_44 fl_X6_281 rfl hst.1 ?_
        rw [hSt.1]
        first | refine pk_neb (tgt := 53) dX6_copy_47 (by decide) (fun c_47 => ?_) (fun c_47 => ?_) | refine pk_ne0N (tgt := 53) dX6_copy_47 (by decide) (by omega) (fun c_47 => ?_) (fun c_47 => ?_) | refine pk_if_ne (tgt := 53) dX6_copy_47 (by decide) (fun c_47 => ?_) (fun c_47 => ?_)
        · rw [if_neg (by rw [c_39, c_47]; decide)]
          refine pk_aload dX6_copy_53 rfl ?_
          refine pk_getN dX6_copy_55 fl_X6_285 rfl hsf.1 hSf.2.1 ?_
          refine pk_aload dX6_copy_58 rfl ?_
          refine pk_getN dX6_copy_60 fl_X6_285 rfl hst.1 hSt.2.1 ?_
          first | refine pk_eqN (tgt := 69) dX6_copy_63 (by decide) (by omega) (by omega) (fun c_63 => ?_) (fun c_63 => ?_) | refine pk_icmp_eq (tgt := 69) dX6_copy_63 (by decide) (fun c_63 => ?_) (fun c_63 => ?_)
          · rw [if_neg (fun h => h c_63)]
            refine pk_aload dX6_copy_69 rfl ?_
            refine pk_iload_n dX6_copy_71 rfl ?_
            refine pk_iload dX6_copy_72 rfl ?_
            refine pk_Vi dX6_copy_74 ml_X6_288 yw_X3_hasItems yv_X3_hasItems hsf.1 (e_X3_hasItems hW (pk_isR_k hf) hSf _ _) rfl rfl rfl rfl rfl rfl rfl ?_
            first | refine pk_eqb (tgt := 92) dX6_copy_77 (by decide) (fun c_77 => ?_) (fun c_77 => ?_) | refine pk_eq0N (tgt := 92) dX6_copy_77 (by decide) (by omega) (fun c_77 => ?_) (fun c_77 => ?_) | refine pk_if_eq (tgt := 92) dX6_copy_77 (by decide) (fun c_77 => ?_) (fun c_77 => ?_)
            · refine pk_bipush (v := -13) dX6_copy_92 (by decide) ?_
              refine pk_reti dX6_copy_94 (by first | rfl | exact pk_nbi _) ?_
              rw [if_pos (by first | (rw [c_77]; rfl) | (rw [c_89, Bool.and_false]))]
              exact ⟨rfl, pk_ff.rf _ M, hR⟩
            · refine pk_aload dX6_copy_80 rfl ?_
              refine pk_iload dX6_copy_82 rfl ?_
              refine pk_iload dX6_copy_84 rfl ?_
              refine pk_Vi dX6_copy_86 ml_X6_288 yw_X3_hasItems yv_X3_hasItems hst.1 (e_X3_hasItems hW (pk_isR_k ht) hSt _ _) rfl rfl rfl rfl rfl rfl rfl ?_
              first | refine pk_neb (tgt := 95) dX6_copy_89 (by decide) (fun c_89 => ?_) (fun c_89 => ?_) | refine pk_ne0N (tgt := 95) dX6_copy_89 (by decide) (by omega) (fun c_89 => ?_) (fun c_89 => ?_) | refine pk_if_ne (tgt := 95) dX6_copy_89 (by decide) (fun c_89 => ?_) (fun c_89 => ?_)
              · rw [if_neg (by rw [c_77, c_89]; decide)]
                obtain ⟨a, b, rfl, rfl, hab⟩ := sp_has_of hSf.2.2.2.2.1 c_77
                obtain ⟨a2, b2, rfl, hb2, hab2⟩ := sp_has_of hSt.2.2.2.2.1 c_89
                have hm1 := hSf.2.2.2.2.1
                have hm2 := hSt.2.2.2.2.1
                have hbb : b = b2 := (nI_eq (by omega) (by omega)).mp hb2
                subst hbb
                rw [nI_clamp (show a < 2 ^ 31 by omega), nI_clamp (show a2 < 2 ^ 31 by omega), nI_clamp (show b < 2 ^ 31 by omega)]
                refine pk_aload dX6_copy_95 rfl ?_
                refine pk_getP dX6_copy_97 fl_X6_291 rfl hsf.1 hsf.2.1 ?_
                refine pk_iload_n dX6_copy_100 rfl ?_
                refine pk_aload dX6_copy_101 rfl ?_
                refine pk_getP dX6_copy_103 fl_X6_291 rfl hst.1 hst.2.1 ?_
                refine pk_iload dX6_copy_106 rfl ?_
                refine pk_iload dX6_copy_108 rfl ?_
                refine pk_copyJN dX6_copy_110 mo_X6_210 nat_copy st_copy it_sys (pk_isR_s hW (pk_isR_k hf)).2.2.1 (pk_isR_s hW (pk_isR_k ht)).2.2.1 (by omega) (by omega) (by omega) (by omega) (by omega) (by omega) rfl rfl ?_
                refine pk_iload dX6_copy_113 rfl ?_
                refine pk_reti dX6_copy_115 (by first | rfl | exact pk_nbi _) ?_
                have hff : pk_ff (fun q => q = 95 + 2 * t ∨ q = 96 + 2 * t) M (pk_cJ M (95 + 2 * f + 1) a (95 + 2 * t + 1) a2 b) := pk_ff.cJ (Or.inr (by omega))
                refine ⟨rfl, hff.mono (fun q h => by omega), hR.sh ht hff ⟨hSt.1, hSt.2.1, hSt.2.2.1, hSt.2.2.2.1, hSt.2.2.2.2.1, fun c hc => ?_⟩⟩
                rw [pk_J_cJ]
                by_cases h : a2 ≤ c ∧ c < a2 + b
                · rw [if_pos ⟨rfl, h⟩, hSf.2.2.2.2.2 _ (by omega)]
                  exact (if_pos h).symm
                · rw [if_neg (fun z => h z.2), hSt.2.2.2.2.2 c hc]
                  exact (if_neg h).symm
              · refine pk_bipush (v := -13) dX6_copy_92 (by decide) ?_
                refine pk_reti dX6_copy_94 (by first | rfl | exact pk_nbi _) ?_
                rw [if_pos (by first | (rw [c_77]; rfl) | (rw [c_89, Bool.and_false]))]
                exact ⟨rfl, pk_ff.rf _ M, hR⟩
          · refine pk_bipush (v := -12) dX6_copy_66 (by decide) ?_
            refine pk_reti dX6_copy_68 (by first | rfl | exact pk_nbi _) ?_
            rw [if_pos c_63]
            exact ⟨rfl, pk_ff.rf _ M, hR⟩
        · refine pk_bipush (v := -11) dX6_copy_50 (by decide) ?_
          refine pk_reti dX6_copy_52 (by first | rfl | exact pk_nbi _) ?_
          rw [if_pos (by first | exact Or.inl c_39 | exact Or.inr c_47)]
          exact ⟨rfl, pk_ff.rf _ M, hR⟩
    · refine pk_iconst (v := -1) dX6_copy_16 (by decide) ?_
      refine pk_reti dX6_copy_17 (by first | rfl | exact pk_nbi _) ?_
      rw [op_copy, if_pos]
      · exact ⟨rfl, pk_ff.rf _ M, hR⟩
      · first | (simp only [sp_b, c_5, Bool.false_and]; done) | (simp only [sp_b, c_13, Bool.and_false]; done)
