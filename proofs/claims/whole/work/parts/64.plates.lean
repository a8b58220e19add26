/-! The model: ranks, plates aside, orders. -/
theorem sp_and_p2 (v k : Nat) : v &&& 2 ^ k = if v.testBit k then 2 ^ k else 0 := by
  apply Nat.eq_of_testBit_eq
  intro i
  rw [Nat.testBit_and, Nat.testBit_two_pow]
  by_cases e : k = i
  · subst e
    cases h : v.testBit k
    · rw [if_neg (by decide), Nat.zero_testBit]
      rfl
    · rw [if_pos rfl, Nat.testBit_two_pow]
      simp
  · rw [decide_eq_false e, Bool.and_false]
    cases v.testBit k
    · rw [if_neg (by decide), Nat.zero_testBit]
    · rw [if_pos rfl, Nat.testBit_two_pow, decide_eq_false e]
theorem sp_rank_uq {A : pk_St} (hA : pk_okS A) {i k : Nat} (hi : i < 5) (hk : k < 5) : sp_o A k = i ↔ k = sp_rank A i := by
  obtain ⟨h1, h2⟩ := sp_rank_of hA hi
  constructor
  · intro h
    exact hA.2.2.2.2.2.2.1 k hk _ h1 (h.trans h2.symm)
  · intro h
    rw [h]
    exact h2
def sp_rka (r t : Nat) : Nat := if 5 - t ≤ r then r else 0
/-- the worst, told backwards -/
def sp_rb (g : Nat → Nat) : Nat → Nat
  | 0 => 0
  | t + 1 => if (if sp_rb g t = 0 then 1 else g (sp_rb g t - 1)) ≤ g (44 - t) then 44 - t + 1 else sp_rb g t
def sp_m1 (g : Nat → Nat) (b : Nat) : Nat := if b = 0 then 1 else g (b - 1)
theorem sp_rb_succ (g : Nat → Nat) (t : Nat) : sp_rb g (t + 1) = if sp_m1 g (sp_rb g t) ≤ g (44 - t) then 44 - t + 1 else sp_rb g t := rfl
theorem sp_rb_spec (g : Nat → Nat) (t : Nat) (ht : t ≤ 45) : (sp_rb g t = 0 ∧ ∀ i, 45 - t ≤ i → i < 45 → g i = 0) ∨ (45 - t < sp_rb g t ∧ sp_rb g t ≤ 45 ∧ 1 ≤ g (sp_rb g t - 1) ∧ ∀ i, 45 - t ≤ i → i < 45 → g i < g (sp_rb g t - 1) ∨ (g i = g (sp_rb g t - 1) ∧ sp_rb g t - 1 ≤ i)) := by
  induction t with
  | zero => exact Or.inl ⟨rfl, fun i h1 h2 => by omega⟩
  | succ t ih =>
    rw [sp_rb_succ]
    rcases ih (by omega) with ⟨h1, h2⟩ | ⟨h1, h2, h3, h4⟩
    · rw [h1, show sp_m1 g 0 = 1 from rfl]
      by_cases c : 1 ≤ g (44 - t)
      · rw [if_pos c]
        refine Or.inr ⟨by omega, by omega, c, fun i g1 g2 => ?_⟩
        rw [show 44 - t + 1 - 1 = 44 - t by omega]
        by_cases e : i = 44 - t
        · rw [e]
          exact Or.inr ⟨rfl, Nat.le_refl _⟩
        · rw [h2 i (by omega) g2]
          exact Or.inl (by omega)
      · rw [if_neg c]
        refine Or.inl ⟨rfl, fun i g1 g2 => ?_⟩
        by_cases e : i = 44 - t
        · rw [e]
          omega
        · exact h2 i (by omega) g2
    · rw [show sp_m1 g (sp_rb g t) = g (sp_rb g t - 1) from if_neg (by omega)]
      by_cases c : g (sp_rb g t - 1) ≤ g (44 - t)
      · rw [if_pos c]
        refine Or.inr ⟨by omega, by omega, by rw [show 44 - t + 1 - 1 = 44 - t by omega]; omega, fun i g1 g2 => ?_⟩
        rw [show 44 - t + 1 - 1 = 44 - t by omega]
        by_cases e : i = 44 - t
        · rw [e]
          exact Or.inr ⟨rfl, Nat.le_refl _⟩
        · have := h4 i (by omega) g2
          omega
      · rw [if_neg c]
        refine Or.inr ⟨by omega, h2, h3, fun i g1 g2 => ?_⟩
        by_cases e : i = 44 - t
        · rw [e]
          exact Or.inl (by omega)
        · exact h4 i (by omega) g2
theorem sp_bst_spec (g : Nat → Nat) (n : Nat) : (sp_bst g n = 0 ∧ ∀ i, i < n → g i = 0) ∨ (1 ≤ sp_bst g n ∧ sp_bst g n ≤ n ∧ 1 ≤ g (sp_bst g n - 1) ∧ ∀ i, i < n → g i < g (sp_bst g n - 1) ∨ (g i = g (sp_bst g n - 1) ∧ sp_bst g n - 1 ≤ i)) := by
  induction n with
  | zero => exact Or.inl ⟨rfl, fun i h => by omega⟩
  | succ n ih =>
    rw [sp_bst_succ]
    rcases ih with ⟨h1, h2⟩ | ⟨h1, h2, h3, h4⟩
    · rw [h1, show sp_most g 0 = 0 from rfl]
      by_cases c : 0 < g n
      · rw [if_pos c]
        refine Or.inr ⟨by omega, by omega, c, fun i hi => ?_⟩
        rw [show n + 1 - 1 = n by omega]
        by_cases e : i = n
        · rw [e]
          exact Or.inr ⟨rfl, Nat.le_refl _⟩
        · rw [h2 i (by omega)]
          exact Or.inl c
      · rw [if_neg c]
        refine Or.inl ⟨rfl, fun i hi => ?_⟩
        by_cases e : i = n
        · rw [e]
          omega
        · exact h2 i (by omega)
    · rw [show sp_most g (sp_bst g n) = g (sp_bst g n - 1) from if_neg (by omega)]
      by_cases c : g (sp_bst g n - 1) < g n
      · rw [if_pos c]
        refine Or.inr ⟨by omega, by omega, by rw [show n + 1 - 1 = n by omega]; omega, fun i hi => ?_⟩
        rw [show n + 1 - 1 = n by omega]
        by_cases e : i = n
        · rw [e]
          exact Or.inr ⟨rfl, Nat.le_refl _⟩
        · have := h4 i (by omega)
          omega
      · rw [if_neg c]
        refine Or.inr ⟨h1, by omega, h3, fun i hi => ?_⟩
        by_cases e : i = n
        · rw [e]
          omega
        · exact h4 i (by omega)
theorem sp_rb_eq (g : Nat → Nat) : sp_rb g 45 = sp_bst g 45 := by
  rcases sp_rb_spec g 45 (Nat.le_refl _) with ⟨h1, h2⟩ | ⟨h1, h2, h3, h4⟩ <;> rcases sp_bst_spec g 45 with ⟨g1, g2⟩ | ⟨g1, g2, g3, g4⟩
  · rw [h1, g1]
  · have := h2 (sp_bst g 45 - 1) (by omega) (by omega)
    omega
  · have := g2 (sp_rb g 45 - 1) (by omega)
    omega
  · have e1 := h4 (sp_bst g 45 - 1) (by omega) (by omega)
    have e2 := g4 (sp_rb g 45 - 1) (by omega)
    omega
def sp_k44 (t : Nat) : Int32 := if t < 45 then nI (44 - t) else -1
theorem sp_k44_in {t : Nat} (h : t < 45) : sp_k44 t = nI (44 - t) := if_pos h
theorem sp_k44_next : ∀ t, t < 45 → nI (44 - t) + Int32.ofInt (-1) = sp_k44 (t + 1) := by decide
theorem sp_m1_le (A : pk_St) (b : Nat) : sp_m1 (sp_g A) b ≤ 48 := by
  unfold sp_m1
  split
  · decide
  · exact sp_gaps_le _ _ _ _

set_option maxRecDepth 100000 in
set_option maxHeartbeats 4000000 in
theorem e_X7_rankIn {Γ : pk_T} {M : pk_M} {A : pk_St} (hok : pk_okS A) {i : Nat} (hi : i < 5) : pk_E Γ yX7_rankIn cX7_rankIn 5 (some .int) 0 0 0 M [.int (nI (sp_fig (sp_o A))), .int (nI i)] (fun r M' => r = some (.int (nI (sp_rank A i))) ∧ M' = M) := by
  refine pk_meth (own := RX7) (ini := false) [some (.int (nI (sp_fig (sp_o A)))), some (.int (nI i)), none, none, none] (by decide +kernel) rfl (by decide +kernel) rfl rfl ?_
  have hfl := sp_fig_lt hok.2.2.2.2.2.1
  obtain ⟨hr1, hr2⟩ := sp_rank_of hok hi
  refine pk_iconst (v := nI 0) dX7_rankIn_0 (by decide) ?_
  refine pk_istore_n dX7_rankIn_1 rfl rfl ?_
  refine pk_iload_n dX7_rankIn_2 rfl ?_
  refine pk_istore_n dX7_rankIn_3 rfl rfl ?_
  refine pk_iconst (v := nI 4) dX7_rankIn_4 (by decide) ?_
  refine pk_istore dX7_rankIn_5 rfl rfl ?_
  refine pk_lsq (ls' := [some (.int (nI (sp_fig (sp_o A)))), some (.int (nI i)), some (.int (nI (sp_rka (sp_rank A i) (0)))), some (.int (nI ((sp_fig (sp_o A)) / 10 ^ (0)))), some (.int (sp_k4 (0)))]) (by rw [Nat.pow_zero, Nat.div_one, show sp_rka (sp_rank A i) 0 = 0 from if_neg (by omega)]; rfl) ?_
  refine pk_for 5 (fun _ => M) (fun t => [some (.int (nI (sp_fig (sp_o A)))), some (.int (nI i)), some (.int (nI (sp_rka (sp_rank A i) (t)))), some (.int (nI ((sp_fig (sp_o A)) / 10 ^ (t)))), some (.int (sp_k4 (t)))]) ?_ ?_ 0 (by omega)
  · intro t ht K
    have hdv : (sp_fig (sp_o A)) / 10 ^ t ≤ (sp_fig (sp_o A)) := Nat.div_le_self _ _
    have hdg : (sp_fig (sp_o A)) / 10 ^ t % 10 = sp_o A (4 - t) := by
      have h := sp_fig_dig hok.2.2.2.2.2.1 (k := 4 - t) (by omega)
      rw [show 4 - (4 - t) = t by omega] at h
      exact h
    have hd5 := hok.2.2.2.2.2.1 (4 - t) (by omega)
    have huq := sp_rank_uq hok hi (k := 4 - t) (by omega)
    rw [sp_k4_in ht]
    refine pk_iload dX7_rankIn_7 rfl ?_
    refine pk_if_lt (tgt := 38) dX7_rankIn_9 (by decide) (fun c_9 => ?_) (fun c_9 => ?_)
    · exact absurd c_9 (nI_pos (by omega))
    · refine pk_iload_n dX7_rankIn_12 rfl ?_
      refine pk_bipush (v := nI 10) dX7_rankIn_13 (by decide) ?_
      first | refine pk_remN dX7_rankIn_15 (by omega) (by omega) (by omega) ?_ | refine pk_irem dX7_rankIn_15 (by first | assumption | decide) ?_
      rw [hdg]
      refine pk_iload_n dX7_rankIn_16 rfl ?_
      first | refine pk_neN (tgt := 25) dX7_rankIn_17 (by decide) (by omega) (by omega) (fun c_17 => ?_) (fun c_17 => ?_) | refine pk_icmp_ne (tgt := 25) dX7_rankIn_17 (by decide) (fun c_17 => ?_) (fun c_17 => ?_)
      · refine pk_iload_n dX7_rankIn_25 rfl ?_
        have e1 : sp_rka (sp_rank A i) (t + 1) = sp_rka (sp_rank A i) t := by
          have hne : 4 - t ≠ sp_rank A i := fun e => c_17 (huq.mpr e)
          unfold sp_rka
          by_cases c : 5 - t ≤ sp_rank A i
          · rw [if_pos c, if_pos (by omega)]
          · rw [if_neg c, if_neg (by omega)]
        rw [e1, ← pk_div10] at K
        refine pk_istore_n dX7_rankIn_26 rfl rfl ?_
        refine pk_iload_n dX7_rankIn_27 rfl ?_
        refine pk_bipush (v := nI 10) dX7_rankIn_28 (by decide) ?_
        first | refine pk_divN dX7_rankIn_30 (by omega) (by omega) (by omega) ?_ | refine pk_idiv dX7_rankIn_30 (by first | assumption | decide) ?_
        refine pk_istore_n dX7_rankIn_31 rfl rfl ?_
        refine pk_iinc dX7_rankIn_32 rfl (sp_k4_next t ht) rfl ?_
        refine pk_goto (tgt := 7) dX7_rankIn_35 (by decide) ?_
        exact K
      · refine pk_iload dX7_rankIn_20 rfl ?_
        refine pk_goto (tgt := 26) dX7_rankIn_22 (by decide) ?_
        have e1 : sp_rka (sp_rank A i) (t + 1) = 4 - t := by
          have he := huq.mp c_17
          unfold sp_rka
          rw [if_pos (by omega)]
          exact he.symm
        rw [e1, ← pk_div10] at K
        refine pk_istore_n dX7_rankIn_26 rfl rfl ?_
        refine pk_iload_n dX7_rankIn_27 rfl ?_
        refine pk_bipush (v := nI 10) dX7_rankIn_28 (by decide) ?_
        first | refine pk_divN dX7_rankIn_30 (by omega) (by omega) (by omega) ?_ | refine pk_idiv dX7_rankIn_30 (by first | assumption | decide) ?_
        refine pk_istore_n dX7_rankIn_31 rfl rfl ?_
        refine pk_iinc dX7_rankIn_32 rfl (sp_k4_next t ht) rfl ?_
        refine pk_goto (tgt := 7) dX7_rankIn_35 (by decide) ?_
        exact K
  · refine pk_iload dX7_rankIn_7 rfl ?_
    refine pk_if_lt (tgt := 38) dX7_rankIn_9 (by decide) (fun c_9 => ?_) (fun c_9 => ?_)
    · refine pk_iload_n dX7_rankIn_38 rfl ?_
      refine pk_reti dX7_rankIn_39 (by first | rfl | exact pk_nbi _) ?_
      rw [show sp_rka (sp_rank A i) 5 = sp_rank A i from if_pos (by omega)]
      exact ⟨rfl, rfl⟩
    · exact absurd (show sp_k4 5 < 0 by decide) c_9

set_option maxRecDepth 100000 in
set_option maxHeartbeats 4000000 in
theorem e_X7_printed {Γ : pk_T} {M : pk_M} {L : Nat} {A : pk_St} (hN : pm_now L M A) {k q : Nat} (hk : k < 5) (hq : sp_in A q = true) (dx dy : Int32) : pk_E Γ yX7_printed cX7_printed 8 (some .int) 2 0 0 M [.ref 103, .int (nI k), .int dx, .int dy, .int (nI q)] (fun r M' => r = some (.int (nI (sp_pr A k dx dy (nI (q % 8)) (nI (q / 8))))) ∧ M' = M) := by
  obtain ⟨hW, hA, hok⟩ := hN
  have hw := hok.1
  have hh := hok.2.1
  have hs := hok.2.2.2.2.2.2.2.1
  refine pk_meth (own := RX7) (ini := false) [some (.ref 103), some (.int (nI k)), some (.int dx), some (.int dy), some (.int (nI q)), none, none, none] (by decide +kernel) rfl (by decide +kernel) rfl rfl ?_
  have hq48 := (sp_in_lt hok hq).2.2
  have hp2 := pk_p2 hk
  have hsq := hs q hq48
  have hat : sp_at A (nI (q % 8)) (nI (q / 8)) = sp_s A q := by
    have h1 := sp_in_lt hok hq
    rw [sp_at_n hok h1.1 h1.2.1, show q / 8 * 8 + q % 8 = q by omega]
  have hpr : sp_pr A k dx dy (nI (q % 8)) (nI (q / 8)) = (sp_s A q &&& (31 - 2 ^ k)) ||| (if (sp_at A (nI (q % 8) - dx) (nI (q / 8) - dy)).testBit k then 2 ^ k else 0) := by
    unfold sp_pr
    rw [hat, ← sp_and_p2]
  refine pk_aload_n dX7_printed_0 rfl ?_
  refine pk_iload dX7_printed_1 rfl ?_
  refine pk_Vi dX7_printed_3 ml_X7_92 yw_X7_setAt yv_X7_setAt (hW.s rfl) (e_X7_setAt ⟨hW, hA, hok⟩ (by omega)) rfl rfl rfl rfl rfl rfl rfl ?_
  refine pk_iconst (v := nI 1) dX7_printed_6 (by decide) ?_
  refine pk_iload_n dX7_printed_7 rfl ?_
  first | refine pk_shlNN dX7_printed_8 (by omega) ?_ | refine pk_ishl dX7_printed_8 ?_
  refine pk_iconst (v := -1) dX7_printed_9 (by decide) ?_
  refine pk_ixor dX7_printed_10 ?_
  refine pk_iand dX7_printed_11 ?_
  rw [pk_dif _ (by omega) _ (by omega)]
  refine pk_istore dX7_printed_12 rfl rfl ?_
  refine pk_iload dX7_printed_14 rfl ?_
  refine pk_bipush (v := nI 8) dX7_printed_16 (by decide) ?_
  first | refine pk_remN dX7_printed_18 (by omega) (by omega) (by omega) ?_ | refine pk_irem dX7_printed_18 (by first | assumption | decide) ?_
  refine pk_iload_n dX7_printed_19 rfl ?_
  refine pk_isub dX7_printed_20 ?_
  generalize nI (q % 8) - dx = x at hpr ⊢
  refine pk_istore dX7_printed_21 rfl rfl ?_
  refine pk_iload dX7_printed_23 rfl ?_
  refine pk_bipush (v := nI 8) dX7_printed_25 (by decide) ?_
  first | refine pk_divN dX7_printed_27 (by omega) (by omega) (by omega) ?_ | refine pk_idiv dX7_printed_27 (by first | assumption | decide) ?_
  refine pk_iload_n dX7_printed_28 rfl ?_
  refine pk_isub dX7_printed_29 ?_
  generalize nI (q / 8) - dy = y at hpr ⊢
  refine pk_istore dX7_printed_30 rfl rfl ?_
  refine pk_aload_n dX7_printed_32 rfl ?_
  refine pk_iload dX7_printed_33 rfl ?_
  refine pk_iload dX7_printed_35 rfl ?_
  refine pk_Vi dX7_printed_37 ml_X7_65 yw_X7_isPlace yv_X7_isPlace (hW.s rfl) (e_X7_isPlace ⟨hW, hA, hok⟩ _ _) rfl rfl rfl rfl rfl rfl rfl ?_
  first | refine pk_eqb (tgt := 71) dX7_printed_40 (by decide) (fun c_40 => ?_) (fun c_40 => ?_) | refine pk_eq0N (tgt := 71) dX7_printed_40 (by decide) (by omega) (fun c_40 => ?_) (fun c_40 => ?_) | refine pk_if_eq (tgt := 71) dX7_printed_40 (by decide) (fun c_40 => ?_) (fun c_40 => ?_)
  · refine pk_iload dX7_printed_71 rfl ?_
    refine pk_reti dX7_printed_73 (by first | rfl | exact pk_nbi _) ?_
    have hz : sp_at A x y = 0 := by
      unfold sp_at
      rw [c_40]
      rfl
    rw [hz, Nat.zero_testBit, if_neg (by decide), Nat.or_zero] at hpr
    rw [hpr]
    exact ⟨rfl, rfl⟩
  · obtain ⟨i, j, hi, hj, ex, ey⟩ := sp_inb_of hok c_40
    subst ex
    subst ey
    rw [sp_at_n hok hi hj, Nat.mul_comm j 8] at hpr
    have hsz := hs (8 * j + i) (by omega)
    refine pk_aload_n dX7_printed_43 rfl ?_
    refine pk_bipush (v := nI 8) dX7_printed_44 (by decide) ?_
    refine pk_iload dX7_printed_46 rfl ?_
    first | refine pk_mulN dX7_printed_48 ?_ | refine pk_imul dX7_printed_48 ?_
    refine pk_iload dX7_printed_49 rfl ?_
    first | refine pk_addN dX7_printed_51 ?_ | refine pk_iadd dX7_printed_51 ?_
    refine pk_Vi dX7_printed_52 ml_X7_92 yw_X7_setAt yv_X7_setAt (hW.s rfl) (e_X7_setAt ⟨hW, hA, hok⟩ (by omega)) rfl rfl rfl rfl rfl rfl rfl ?_
    refine pk_iload_n dX7_printed_55 rfl ?_
    refine pk_Si dX7_printed_56 ml_X7_69 yw_X7_hasInk ys_X7_hasInk (e_X7_hasInk _ _ (by omega) (by omega)) rfl rfl rfl rfl rfl rfl rfl ?_
    first | refine pk_eqb (tgt := 71) dX7_printed_59 (by decide) (fun c_59 => ?_) (fun c_59 => ?_) | refine pk_eq0N (tgt := 71) dX7_printed_59 (by decide) (by omega) (fun c_59 => ?_) (fun c_59 => ?_) | refine pk_if_eq (tgt := 71) dX7_printed_59 (by decide) (fun c_59 => ?_) (fun c_59 => ?_)
    · refine pk_iload dX7_printed_71 rfl ?_
      refine pk_reti dX7_printed_73 (by first | rfl | exact pk_nbi _) ?_
      rw [c_59, if_neg (by decide), Nat.or_zero] at hpr
      rw [hpr]
      exact ⟨rfl, rfl⟩
    · refine pk_iload dX7_printed_62 rfl ?_
      refine pk_iconst (v := nI 1) dX7_printed_64 (by decide) ?_
      refine pk_iload_n dX7_printed_65 rfl ?_
      first | refine pk_shlNN dX7_printed_66 (by omega) ?_ | refine pk_ishl dX7_printed_66 ?_
      first | refine pk_orNN dX7_printed_67 ?_ | refine pk_ior dX7_printed_67 ?_
      refine pk_goto (tgt := 73) dX7_printed_68 (by decide) ?_
      refine pk_reti dX7_printed_73 (by first | rfl | exact pk_nbi _) ?_
      rw [c_59, if_pos rfl] at hpr
      rw [hpr]
      exact ⟨rfl, rfl⟩

set_option maxRecDepth 100000 in
set_option maxHeartbeats 4000000 in
theorem e_X7_gapsBy {Γ : pk_T} {M : pk_M} {L : Nat} {A : pk_St} (hN : pm_now L M A) {k : Nat} (hk : k < 5) (dx dy : Int32) : pk_E Γ yX7_gapsBy cX7_gapsBy 6 (some .int) 3 0 0 M [.ref 103, .int (nI k), .int dx, .int dy] (fun r M' => r = some (.int (nI (sp_gaps A k dx dy))) ∧ M' = M) := by
  obtain ⟨hW, hA, hok⟩ := hN
  have hw := hok.1
  have hh := hok.2.1
  have hs := hok.2.2.2.2.2.2.2.1
  refine pk_meth (own := RX7) (ini := false) [some (.ref 103), some (.int (nI k)), some (.int dx), some (.int dy), none, none] (by decide +kernel) rfl (by decide +kernel) rfl rfl ?_
  refine pk_iconst (v := nI 0) dX7_gapsBy_0 (by decide) ?_
  refine pk_istore dX7_gapsBy_1 rfl rfl ?_
  refine pk_iconst (v := nI 0) dX7_gapsBy_3 (by decide) ?_
  refine pk_istore dX7_gapsBy_4 rfl rfl ?_
  refine pk_for 48 (fun _ => M) (fun j => [some (.ref 103), some (.int (nI k)), some (.int dx), some (.int dy), some (.int (nI (sp_c (fun q => sp_in A q && (!(sp_s A q == 0) && (sp_pr A k dx dy (nI (q % 8)) (nI (q / 8)) == 0))) j))), some (.int (nI j))]) ?_ ?_ 0 (by omega)
  · intro j hj K
    have e1 := sp_c_succ (fun q => sp_in A q && (!(sp_s A q == 0) && (sp_pr A k dx dy (nI (q % 8)) (nI (q / 8)) == 0))) j
    have hsj := hs j hj
    have hpl := sp_pr_lt hok k dx dy (nI (j % 8)) (nI (j / 8))
    refine pk_iload dX7_gapsBy_6 rfl ?_
    refine pk_bipush (v := nI 48) dX7_gapsBy_8 (by decide) ?_
    first | refine pk_geN (tgt := 59) dX7_gapsBy_10 (by decide) (by omega) (by omega) (fun c_10 => ?_) (fun c_10 => ?_) | refine pk_icmp_ge (tgt := 59) dX7_gapsBy_10 (by decide) (fun c_10 => ?_) (fun c_10 => ?_)
    · omega
    · refine pk_iload dX7_gapsBy_13 rfl ?_
      refine pk_aload_n dX7_gapsBy_15 rfl ?_
      refine pk_iload dX7_gapsBy_16 rfl ?_
      refine pk_Vi dX7_gapsBy_18 ml_X7_88 yw_X7_isIn yv_X7_isIn (hW.s rfl) (e_X7_isIn ⟨hW, hA, hok⟩ (by omega)) rfl rfl rfl rfl rfl rfl rfl ?_
      first | refine pk_eqb (tgt := 49) dX7_gapsBy_21 (by decide) (fun c_21 => ?_) (fun c_21 => ?_) | refine pk_eq0N (tgt := 49) dX7_gapsBy_21 (by decide) (by omega) (fun c_21 => ?_) (fun c_21 => ?_) | refine pk_if_eq (tgt := 49) dX7_gapsBy_21 (by decide) (fun c_21 => ?_) (fun c_21 => ?_)
      · refine pk_iconst (v := nI 0) dX7_gapsBy_49 (by decide) ?_
        rw [c_21, Bool.false_and, if_neg (by decide)] at e1
        rw [e1] at K
        first | refine pk_addN dX7_gapsBy_50 ?_ | refine pk_iadd dX7_gapsBy_50 ?_
        refine pk_istore dX7_gapsBy_51 rfl rfl ?_
        first | refine pk_inc1 dX7_gapsBy_53 rfl rfl ?_ | refine pk_iinc dX7_gapsBy_53 rfl rfl rfl ?_
        refine pk_goto (tgt := 6) dX7_gapsBy_56 (by decide) ?_
        exact K
      · refine pk_aload_n dX7_gapsBy_24 rfl ?_
        refine pk_iload dX7_gapsBy_25 rfl ?_
        refine pk_Vi dX7_gapsBy_27 ml_X7_92 yw_X7_setAt yv_X7_setAt (hW.s rfl) (e_X7_setAt ⟨hW, hA, hok⟩ (by omega)) rfl rfl rfl rfl rfl rfl rfl ?_
        refine pk_eq0N (tgt := 49) dX7_gapsBy_30 (by decide) (by omega) (fun c_30 => ?_) (fun c_30 => ?_)
        · refine pk_iconst (v := nI 0) dX7_gapsBy_49 (by decide) ?_
          rw [beq_iff_eq.mpr c_30, Bool.not_true, Bool.false_and, Bool.and_false, if_neg (by decide)] at e1
          rw [e1] at K
          first | refine pk_addN dX7_gapsBy_50 ?_ | refine pk_iadd dX7_gapsBy_50 ?_
          refine pk_istore dX7_gapsBy_51 rfl rfl ?_
          first | refine pk_inc1 dX7_gapsBy_53 rfl rfl ?_ | refine pk_iinc dX7_gapsBy_53 rfl rfl rfl ?_
          refine pk_goto (tgt := 6) dX7_gapsBy_56 (by decide) ?_
          exact K
        · refine pk_aload_n dX7_gapsBy_33 rfl ?_
          refine pk_iload_n dX7_gapsBy_34 rfl ?_
          refine pk_iload_n dX7_gapsBy_35 rfl ?_
          refine pk_iload_n dX7_gapsBy_36 rfl ?_
          refine pk_iload dX7_gapsBy_37 rfl ?_
          refine pk_Vi dX7_gapsBy_39 ml_X7_157 yw_X7_printed yv_X7_printed (hW.s rfl) (e_X7_printed ⟨hW, hA, hok⟩ hk c_21 _ _) rfl rfl rfl rfl rfl rfl rfl ?_
          refine pk_ne0N (tgt := 49) dX7_gapsBy_42 (by decide) (by omega) (fun c_42 => ?_) (fun c_42 => ?_)
          · refine pk_iconst (v := nI 0) dX7_gapsBy_49 (by decide) ?_
            rw [beq_eq_false_iff_ne.mpr c_42, Bool.and_false, Bool.and_false, if_neg (by decide)] at e1
            rw [e1] at K
            first | refine pk_addN dX7_gapsBy_50 ?_ | refine pk_iadd dX7_gapsBy_50 ?_
            refine pk_istore dX7_gapsBy_51 rfl rfl ?_
            first | refine pk_inc1 dX7_gapsBy_53 rfl rfl ?_ | refine pk_iinc dX7_gapsBy_53 rfl rfl rfl ?_
            refine pk_goto (tgt := 6) dX7_gapsBy_56 (by decide) ?_
            exact K
          · refine pk_iconst (v := nI 1) dX7_gapsBy_45 (by decide) ?_
            refine pk_goto (tgt := 50) dX7_gapsBy_46 (by decide) ?_
            rw [c_21, beq_eq_false_iff_ne.mpr c_30, beq_iff_eq.mpr c_42, if_pos (by rfl)] at e1
            rw [e1] at K
            first | refine pk_addN dX7_gapsBy_50 ?_ | refine pk_iadd dX7_gapsBy_50 ?_
            refine pk_istore dX7_gapsBy_51 rfl rfl ?_
            first | refine pk_inc1 dX7_gapsBy_53 rfl rfl ?_ | refine pk_iinc dX7_gapsBy_53 rfl rfl rfl ?_
            refine pk_goto (tgt := 6) dX7_gapsBy_56 (by decide) ?_
            exact K
  · refine pk_iload dX7_gapsBy_6 rfl ?_
    refine pk_bipush (v := nI 48) dX7_gapsBy_8 (by decide) ?_
    first | refine pk_geN (tgt := 59) dX7_gapsBy_10 (by decide) (by omega) (by omega) (fun c_10 => ?_) (fun c_10 => ?_) | refine pk_icmp_ge (tgt := 59) dX7_gapsBy_10 (by decide) (fun c_10 => ?_) (fun c_10 => ?_)
    · refine pk_iload dX7_gapsBy_59 rfl ?_
      refine pk_reti dX7_gapsBy_61 (by first | rfl | exact pk_nbi _) ?_
      exact ⟨rfl, rfl⟩
    · omega

set_option maxRecDepth 100000 in
set_option maxHeartbeats 4000000 in
theorem e_X7_isAside {Γ : pk_T} {M : pk_M} (k dx dy : Int32) : pk_E Γ yX7_isAside cX7_isAside 3 (some .boolean) 2 0 0 M [.int k, .int dx, .int dy] (fun r M' => r = some (.int (pk_bi (sp_b k 5 && (sp_d3 dx && sp_d3 dy)))) ∧ M' = M) := by
  refine pk_meth (own := RX7) (ini := false) [some (.int k), some (.int dx), some (.int dy)] (by decide +kernel) rfl (by decide +kernel) rfl rfl ?_
  refine pk_iload_n dX7_isAside_0 rfl ?_
  refine pk_Si dX7_isAside_1 ml_X7_130 yw_X7_isInk ys_X7_isInk (e_X7_isInk _) rfl rfl rfl rfl rfl rfl rfl ?_
  first | refine pk_eqb (tgt := 35) dX7_isAside_4 (by decide) (fun c_4 => ?_) (fun c_4 => ?_) | refine pk_eq0N (tgt := 35) dX7_isAside_4 (by decide) (by omega) (fun c_4 => ?_) (fun c_4 => ?_) | refine pk_if_eq (tgt := 35) dX7_isAside_4 (by decide) (fun c_4 => ?_) (fun c_4 => ?_)
  · refine pk_iconst (v := nI 0) dX7_isAside_35 (by decide) ?_
    refine pk_reti dX7_isAside_36 (by first | rfl | exact pk_nbi _) ?_
    refine ⟨?_, rfl⟩
    unfold sp_d3
    rw [c_4, Bool.false_and]
    rfl
  · refine pk_iload_n dX7_isAside_7 rfl ?_
    refine pk_i2l dX7_isAside_8 ?_
    refine pk_ldc2 dX7_isAside_9 kc_X7_160 ?_
    refine pk_lconst (v := 1) dX7_isAside_12 (by decide) ?_
    refine pk_Si dX7_isAside_13 ml_X7_59 yw_X7_in ys_X7_in (e_X7_inI _ (lo := -1) (hi := 1) (by decide) (by decide)) rfl rfl rfl rfl rfl rfl rfl ?_
    first | refine pk_eqb (tgt := 35) dX7_isAside_16 (by decide) (fun c_16 => ?_) (fun c_16 => ?_) | refine pk_eq0N (tgt := 35) dX7_isAside_16 (by decide) (by omega) (fun c_16 => ?_) (fun c_16 => ?_) | refine pk_if_eq (tgt := 35) dX7_isAside_16 (by decide) (fun c_16 => ?_) (fun c_16 => ?_)
    · refine pk_iconst (v := nI 0) dX7_isAside_35 (by decide) ?_
      refine pk_reti dX7_isAside_36 (by first | rfl | exact pk_nbi _) ?_
      refine ⟨?_, rfl⟩
      unfold sp_d3
      rw [c_16, Bool.false_and, Bool.and_false]
      rfl
    · refine pk_iload_n dX7_isAside_19 rfl ?_
      refine pk_i2l dX7_isAside_20 ?_
      refine pk_ldc2 dX7_isAside_21 kc_X7_160 ?_
      refine pk_lconst (v := 1) dX7_isAside_24 (by decide) ?_
      refine pk_Si dX7_isAside_25 ml_X7_59 yw_X7_in ys_X7_in (e_X7_inI _ (lo := -1) (hi := 1) (by decide) (by decide)) rfl rfl rfl rfl rfl rfl rfl ?_
      first | refine pk_eqb (tgt := 35) dX7_isAside_28 (by decide) (fun c_28 => ?_) (fun c_28 => ?_) | refine pk_eq0N (tgt := 35) dX7_isAside_28 (by decide) (by omega) (fun c_28 => ?_) (fun c_28 => ?_) | refine pk_if_eq (tgt := 35) dX7_isAside_28 (by decide) (fun c_28 => ?_) (fun c_28 => ?_)
      · refine pk_iconst (v := nI 0) dX7_isAside_35 (by decide) ?_
        refine pk_reti dX7_isAside_36 (by first | rfl | exact pk_nbi _) ?_
        refine ⟨?_, rfl⟩
        unfold sp_d3
        rw [c_28, Bool.and_false, Bool.and_false]
        rfl
      · refine pk_iconst (v := nI 1) dX7_isAside_31 (by decide) ?_
        refine pk_goto (tgt := 36) dX7_isAside_32 (by decide) ?_
        refine pk_reti dX7_isAside_36 (by first | rfl | exact pk_nbi _) ?_
        refine ⟨?_, rfl⟩
        unfold sp_d3
        rw [c_4, c_16, c_28]
        rfl

set_option maxRecDepth 100000 in
set_option maxHeartbeats 4000000 in
theorem e_X7_worst {Γ : pk_T} {M : pk_M} {L : Nat} {A : pk_St} (hN : pm_now L M A) {w : Nat} (hw2 : w < 2) : pk_E Γ yX7_worst cX7_worst 6 (some .int) 4 0 0 M [.ref 103, .int (nI w)] (fun r M' => r = some (.int (if w = 0 then sp_code (sp_bst (sp_g A) 45) else nI (sp_most (sp_g A) (sp_bst (sp_g A) 45)))) ∧ M' = M) := by
  obtain ⟨hW, hA, hok⟩ := hN
  have hw := hok.1
  have hh := hok.2.1
  have hs := hok.2.2.2.2.2.2.2.1
  refine pk_meth (own := RX7) (ini := false) [some (.ref 103), some (.int (nI w)), none, none, none, none] (by decide +kernel) rfl (by decide +kernel) rfl rfl ?_
  refine pk_iconst (v := nI 1) dX7_worst_0 (by decide) ?_
  refine pk_istore_n dX7_worst_1 rfl rfl ?_
  refine pk_bipush (v := -4) dX7_worst_2 (by decide) ?_
  refine pk_istore_n dX7_worst_4 rfl rfl ?_
  refine pk_bipush (v := nI 44) dX7_worst_5 (by decide) ?_
  refine pk_istore dX7_worst_7 rfl rfl ?_
  refine pk_for 45 (fun _ => M) (fun t => [some (.ref 103), some (.int (nI w)), some (.int (nI (sp_m1 (sp_g A) (sp_rb (sp_g A) (t))))), some (.int (sp_code (sp_rb (sp_g A) (t)))), some (.int (sp_k44 (t))), none]) ?_ ?_ 0 (by omega)
  · intro t ht K
    have hm1 := sp_m1_le A (sp_rb (sp_g A) (t))
    have hg := sp_gaps_le A ((44 - t) / 9) (nI ((44 - t) % 3) - 1) (nI ((44 - t) / 3 % 3) - 1)
    have hg2 : sp_g A (44 - t) ≤ 48 := hg
    have e1 := sp_rb_succ (sp_g A) t
    rw [sp_k44_in ht]
    refine pk_iload dX7_worst_9 rfl ?_
    refine pk_if_lt (tgt := 78) dX7_worst_11 (by decide) (fun c_11 => ?_) (fun c_11 => ?_)
    · exact absurd c_11 (nI_pos (by omega))
    · refine pk_aload_n dX7_worst_14 rfl ?_
      refine pk_iload dX7_worst_15 rfl ?_
      refine pk_bipush (v := nI 9) dX7_worst_17 (by decide) ?_
      first | refine pk_divN dX7_worst_19 (by omega) (by omega) (by omega) ?_ | refine pk_idiv dX7_worst_19 (by first | assumption | decide) ?_
      refine pk_iload dX7_worst_20 rfl ?_
      refine pk_iconst (v := nI 3) dX7_worst_22 (by decide) ?_
      first | refine pk_remN dX7_worst_23 (by omega) (by omega) (by omega) ?_ | refine pk_irem dX7_worst_23 (by first | assumption | decide) ?_
      refine pk_iconst (v := nI 1) dX7_worst_24 (by decide) ?_
      refine pk_isub dX7_worst_25 ?_
      refine pk_iload dX7_worst_26 rfl ?_
      refine pk_iconst (v := nI 3) dX7_worst_28 (by decide) ?_
      first | refine pk_divN dX7_worst_29 (by omega) (by omega) (by omega) ?_ | refine pk_idiv dX7_worst_29 (by first | assumption | decide) ?_
      refine pk_iconst (v := nI 3) dX7_worst_30 (by decide) ?_
      first | refine pk_remN dX7_worst_31 (by omega) (by omega) (by omega) ?_ | refine pk_irem dX7_worst_31 (by first | assumption | decide) ?_
      refine pk_iconst (v := nI 1) dX7_worst_32 (by decide) ?_
      refine pk_isub dX7_worst_33 ?_
      refine pk_Vi dX7_worst_34 ml_X7_166 yw_X7_gapsBy yv_X7_gapsBy (hW.s rfl) (e_X7_gapsBy ⟨hW, hA, hok⟩ (by omega) _ _) rfl rfl rfl rfl rfl rfl rfl ?_
      refine pk_stq (st' := [.int (nI (sp_g A (44 - t)))]) rfl ?_
      refine pk_istore dX7_worst_37 rfl rfl ?_
      refine pk_iload dX7_worst_39 rfl ?_
      refine pk_iload_n dX7_worst_41 rfl ?_
      first | refine pk_ltN (tgt := 72) dX7_worst_42 (by decide) (by omega) (by omega) (fun c_42 => ?_) (fun c_42 => ?_) | refine pk_icmp_lt (tgt := 72) dX7_worst_42 (by decide) (fun c_42 => ?_) (fun c_42 => ?_)
      · rw [if_neg (by omega)] at e1
        rw [e1] at K
        refine pk_iinc dX7_worst_72 rfl (sp_k44_next t ht) rfl ?_
        refine pk_goto (tgt := 9) dX7_worst_75 (by decide) ?_
        exact pk_fgt (by repeat first | exact trivial | refine ⟨rfl, ?_⟩) K
      · refine pk_iload dX7_worst_45 rfl ?_
        refine pk_istore_n dX7_worst_47 rfl rfl ?_
        refine pk_bipush (v := nI 100) dX7_worst_48 (by decide) ?_
        refine pk_iload dX7_worst_50 rfl ?_
        refine pk_bipush (v := nI 9) dX7_worst_52 (by decide) ?_
        first | refine pk_divN dX7_worst_54 (by omega) (by omega) (by omega) ?_ | refine pk_idiv dX7_worst_54 (by first | assumption | decide) ?_
        first | refine pk_mulN dX7_worst_55 ?_ | refine pk_imul dX7_worst_55 ?_
        refine pk_bipush (v := nI 10) dX7_worst_56 (by decide) ?_
        refine pk_iload dX7_worst_58 rfl ?_
        refine pk_iconst (v := nI 3) dX7_worst_60 (by decide) ?_
        first | refine pk_divN dX7_worst_61 (by omega) (by omega) (by omega) ?_ | refine pk_idiv dX7_worst_61 (by first | assumption | decide) ?_
        refine pk_iconst (v := nI 3) dX7_worst_62 (by decide) ?_
        first | refine pk_remN dX7_worst_63 (by omega) (by omega) (by omega) ?_ | refine pk_irem dX7_worst_63 (by first | assumption | decide) ?_
        first | refine pk_mulN dX7_worst_64 ?_ | refine pk_imul dX7_worst_64 ?_
        first | refine pk_addN dX7_worst_65 ?_ | refine pk_iadd dX7_worst_65 ?_
        refine pk_iload dX7_worst_66 rfl ?_
        refine pk_iconst (v := nI 3) dX7_worst_68 (by decide) ?_
        first | refine pk_remN dX7_worst_69 (by omega) (by omega) (by omega) ?_ | refine pk_irem dX7_worst_69 (by first | assumption | decide) ?_
        first | refine pk_addN dX7_worst_70 ?_ | refine pk_iadd dX7_worst_70 ?_
        refine pk_istore_n dX7_worst_71 rfl rfl ?_
        rw [if_pos c_42] at e1
        rw [e1] at K
        refine pk_iinc dX7_worst_72 rfl (sp_k44_next t ht) rfl ?_
        refine pk_goto (tgt := 9) dX7_worst_75 (by decide) ?_
        exact pk_fgt (by repeat first | exact trivial | refine ⟨rfl, ?_⟩) K
  · have hb := sp_rb_eq (sp_g A)
    have hm1 := sp_m1_le A (sp_rb (sp_g A) (45))
    refine pk_iload dX7_worst_9 rfl ?_
    refine pk_if_lt (tgt := 78) dX7_worst_11 (by decide) (fun c_11 => ?_) (fun c_11 => ?_)
    · refine pk_iload_n dX7_worst_78 rfl ?_
      refine pk_ne0N (tgt := 86) dX7_worst_79 (by decide) (by omega) (fun c_79 => ?_) (fun c_79 => ?_)
      · refine pk_iload_n dX7_worst_86 rfl ?_
        refine pk_bipush (v := -4) dX7_worst_87 (by decide) ?_
        refine pk_icmp_ne (tgt := 96) dX7_worst_89 (by decide) (fun c_89 => ?_) (fun c_89 => ?_)
        · refine pk_iload_n dX7_worst_96 rfl ?_
          refine pk_reti dX7_worst_97 (by first | rfl | exact pk_nbi _) ?_
          rw [if_neg c_79]
          rw [hb] at c_89 ⊢
          have hb0 : ¬ sp_bst (sp_g A) 45 = 0 := fun e => c_89 (by rw [e]; rfl)
          rw [show sp_m1 (sp_g A) (sp_bst (sp_g A) 45) = sp_most (sp_g A) (sp_bst (sp_g A) 45) by unfold sp_m1 sp_most; rw [if_neg hb0, if_neg hb0]]
          exact ⟨rfl, rfl⟩
        · refine pk_iconst (v := nI 0) dX7_worst_92 (by decide) ?_
          refine pk_goto (tgt := 97) dX7_worst_93 (by decide) ?_
          refine pk_reti dX7_worst_97 (by first | rfl | exact pk_nbi _) ?_
          rw [if_neg c_79]
          rw [hb] at c_89
          have hb0 : sp_bst (sp_g A) 45 = 0 := by
            have hbl := sp_bst_le (sp_g A) 45
            apply Classical.byContradiction
            intro hn
            unfold sp_code at c_89
            rw [if_neg hn] at c_89
            exact absurd (show ¬ nI (100 * ((sp_bst (sp_g A) 45 - 1) / 9) + 10 * ((sp_bst (sp_g A) 45 - 1) / 3 % 3) + (sp_bst (sp_g A) 45 - 1) % 3) < 0 from nI_pos (by omega)) (by rw [c_89]; decide)
          rw [hb0]
          exact ⟨rfl, rfl⟩
      · refine pk_iload_n dX7_worst_82 rfl ?_
        refine pk_goto (tgt := 97) dX7_worst_83 (by decide) ?_
        refine pk_reti dX7_worst_97 (by first | rfl | exact pk_nbi _) ?_
        rw [if_pos c_79, hb]
        exact ⟨rfl, rfl⟩
    · exact absurd (show sp_k44 45 < 0 by decide) c_11

set_option maxRecDepth 100000 in
set_option maxHeartbeats 4000000 in
theorem e_X7_isOrder {Γ : pk_T} {M : pk_M} (f : Int32) : pk_E Γ yX7_isOrder cX7_isOrder 4 (some .boolean) 1 0 0 M [.int f] (fun r M' => r = some (.int (pk_bi (sp_isOI f))) ∧ M' = M) := by
  refine pk_meth (own := RX7) (ini := false) [some (.int f), none, none, none] (by decide +kernel) rfl (by decide +kernel) rfl rfl ?_
  refine pk_iload_n dX7_isOrder_0 rfl ?_
  refine pk_i2l dX7_isOrder_1 ?_
  refine pk_lconst (v := 0) dX7_isOrder_2 (by decide) ?_
  refine pk_ldc2 dX7_isOrder_3 kc_X7_169 ?_
  refine pk_Si dX7_isOrder_6 ml_X7_59 yw_X7_in ys_X7_in (e_X7_inB _ (N := 43210) (by omega) (by decide)) rfl rfl rfl rfl rfl rfl rfl ?_
  first | refine pk_neb (tgt := 14) dX7_isOrder_9 (by decide) (fun c_9 => ?_) (fun c_9 => ?_) | refine pk_ne0N (tgt := 14) dX7_isOrder_9 (by decide) (by omega) (fun c_9 => ?_) (fun c_9 => ?_) | refine pk_if_ne (tgt := 14) dX7_isOrder_9 (by decide) (fun c_9 => ?_) (fun c_9 => ?_)
  · refine pk_iconst (v := nI 0) dX7_isOrder_14 (by decide) ?_
    refine pk_istore_n dX7_isOrder_15 rfl rfl ?_
    refine pk_iload_n dX7_isOrder_16 rfl ?_
    refine pk_istore_n dX7_isOrder_17 rfl rfl ?_
    refine pk_iconst (v := nI 0) dX7_isOrder_18 (by decide) ?_
    refine pk_istore_n dX7_isOrder_19 rfl rfl ?_
    obtain ⟨n, hn2, rfl⟩ := sp_b_of c_9 (by decide)
    have hn : n < 2 ^ 31 := by omega
    refine pk_lsq (ls' := [some (.int (nI n)), some (.int (nI (sp_mask n 0))), some (.int (nI (n / 10 ^ 0))), some (.int (nI 0))]) (by rw [Nat.pow_zero, Nat.div_one]; rfl) ?_
    refine pk_for 5 (fun _ => M) (fun k => [some (.int (nI n)), some (.int (nI (sp_mask n k))), some (.int (nI (n / 10 ^ k))), some (.int (nI k))]) ?_ ?_ 0 (by omega)
    · intro k hk K
      have h1 : n / 10 ^ k ≤ n := Nat.div_le_self _ _
      have h2 : n / 10 ^ k % 10 < 10 := Nat.mod_lt _ (by decide)
      refine pk_iload_n dX7_isOrder_20 rfl ?_
      refine pk_iconst (v := nI 5) dX7_isOrder_21 (by decide) ?_
      first | refine pk_geN (tgt := 45) dX7_isOrder_22 (by decide) (by omega) (by omega) (fun c_22 => ?_) (fun c_22 => ?_) | refine pk_icmp_ge (tgt := 45) dX7_isOrder_22 (by decide) (fun c_22 => ?_) (fun c_22 => ?_)
      · omega
      · refine pk_iload_n dX7_isOrder_25 rfl ?_
        refine pk_iconst (v := nI 1) dX7_isOrder_26 (by decide) ?_
        refine pk_iload_n dX7_isOrder_27 rfl ?_
        refine pk_bipush (v := nI 10) dX7_isOrder_28 (by decide) ?_
        first | refine pk_remN dX7_isOrder_30 (by omega) (by omega) (by omega) ?_ | refine pk_irem dX7_isOrder_30 (by first | assumption | decide) ?_
        first | refine pk_shlNN dX7_isOrder_31 (by omega) ?_ | refine pk_ishl dX7_isOrder_31 ?_
        first | refine pk_orNN dX7_isOrder_32 ?_ | refine pk_ior dX7_isOrder_32 ?_
        refine pk_istore_n dX7_isOrder_33 rfl rfl ?_
        refine pk_iload_n dX7_isOrder_34 rfl ?_
        refine pk_bipush (v := nI 10) dX7_isOrder_35 (by decide) ?_
        first | refine pk_divN dX7_isOrder_37 (by omega) (by omega) (by omega) ?_ | refine pk_idiv dX7_isOrder_37 (by first | assumption | decide) ?_
        refine pk_istore_n dX7_isOrder_38 rfl rfl ?_
        first | refine pk_inc1 dX7_isOrder_39 rfl rfl ?_ | refine pk_iinc dX7_isOrder_39 rfl rfl rfl ?_
        refine pk_goto (tgt := 20) dX7_isOrder_42 (by decide) ?_
        refine pk_lsq ?_ K
        rw [← pk_div10]
        rfl
    · have h3 := sp_mask_lt n 5
      have e1 : sp_isOI (nI n) = (sp_mask n 5 == 31) := by
        rw [sp_isOI, nI_clamp hn, sp_isO, decide_eq_true (show n ≤ 43210 by omega), decide_eq_true (nI_pos' hn)]
        simp
      refine pk_iload_n dX7_isOrder_20 rfl ?_
      refine pk_iconst (v := nI 5) dX7_isOrder_21 (by decide) ?_
      first | refine pk_geN (tgt := 45) dX7_isOrder_22 (by decide) (by omega) (by omega) (fun c_22 => ?_) (fun c_22 => ?_) | refine pk_icmp_ge (tgt := 45) dX7_isOrder_22 (by decide) (fun c_22 => ?_) (fun c_22 => ?_)
      · refine pk_iload_n dX7_isOrder_45 rfl ?_
        refine pk_bipush (v := nI 31) dX7_isOrder_46 (by decide) ?_
        first | refine pk_neN (tgt := 55) dX7_isOrder_48 (by decide) (by omega) (by omega) (fun c_48 => ?_) (fun c_48 => ?_) | refine pk_icmp_ne (tgt := 55) dX7_isOrder_48 (by decide) (fun c_48 => ?_) (fun c_48 => ?_)
        · refine pk_iconst (v := nI 0) dX7_isOrder_55 (by decide) ?_
          refine pk_reti dX7_isOrder_56 (by first | rfl | exact pk_nbi _) ?_
          refine ⟨?_, rfl⟩
          rw [e1]
          first | (rw [beq_eq_false_iff_ne.mpr c_48]; rfl) | (rw [c_48]; rfl)
        · refine pk_iconst (v := nI 1) dX7_isOrder_51 (by decide) ?_
          refine pk_goto (tgt := 56) dX7_isOrder_52 (by decide) ?_
          refine pk_reti dX7_isOrder_56 (by first | rfl | exact pk_nbi _) ?_
          refine ⟨?_, rfl⟩
          rw [e1]
          first | (rw [beq_eq_false_iff_ne.mpr c_48]; rfl) | (rw [c_48]; rfl)
      · omega
  · refine pk_iconst (v := nI 0) dX7_isOrder_12 (by decide) ?_
    refine pk_reti dX7_isOrder_13 (by first | rfl | exact pk_nbi _) ?_
    refine ⟨?_, rfl⟩
    have e : sp_isOI f = false := by
      cases hI : sp_isOI f with
      | false => rfl
      | true =>
        unfold sp_isOI sp_isO at hI
        rw [Bool.and_eq_true, Bool.and_eq_true, decide_eq_true_eq, decide_eq_true_eq] at hI
        obtain ⟨n, hn, rfl⟩ := nI_of (x := f) (Int32.not_lt.mpr hI.1)
        rw [nI_clamp hn] at hI
        rw [sp_b_n (by omega) (by decide)] at c_9
        cases c_9
    rw [e]
    rfl

def sp_lvF (A : pk_St) (n s : Nat) : Bool := (sp_sets A).testBit s && !(sp_look (sp_k A) (sp_t A) (fun k => sp_dig n (4 - k)) s == sp_lookA A s)
def sp_lv (A : pk_St) (n : Nat) : Bool := !sp_any (sp_lvF A n) 32
theorem sp_c_0 (F : Nat → Bool) (n : Nat) : sp_c F n = 0 ↔ sp_any F n = false := by
  induction n with
  | zero => exact ⟨fun _ => rfl, fun _ => rfl⟩
  | succ n ih =>
    rw [sp_c_succ, sp_any_succ]
    cases h : F n
    · rw [if_neg (by decide), Bool.or_false]
      exact ih
    · rw [if_pos rfl, Bool.or_true]
      exact ⟨fun h => by omega, fun h => by cases h⟩

set_option maxRecDepth 100000 in
set_option maxHeartbeats 4000000 in
theorem e_X7_leaves {Γ : pk_T} {M : pk_M} {L : Nat} {A : pk_St} (hN : pm_now L M A) (hL : ∀ s, s < 32 → pk_I M 105 s = nI (sp_lookA A s)) {n : Nat} (hn : n < 2 ^ 31) (hd : ∀ k, k < 5 → sp_dig n k < 5) : pk_E Γ yX7_leaves cX7_leaves 4 (some .boolean) 4 0 0 M [.ref 103, .int (nI n)] (fun r M' => r = some (.int (pk_bi (sp_lv A n))) ∧ M' = M) := by
  obtain ⟨hW, hA, hok⟩ := hN
  have hw := hok.1
  have hh := hok.2.1
  have hs := hok.2.2.2.2.2.2.2.1
  refine pk_meth (own := RX7) (ini := false) [some (.ref 103), some (.int (nI n)), none, none] (by decide +kernel) rfl (by decide +kernel) rfl rfl ?_
  refine pk_iconst (v := nI 1) dX7_leaves_0 (by decide) ?_
  refine pk_istore_n dX7_leaves_1 rfl rfl ?_
  refine pk_iconst (v := nI 0) dX7_leaves_2 (by decide) ?_
  refine pk_istore_n dX7_leaves_3 rfl rfl ?_
  refine pk_for 32 (fun _ => M) (fun j => [some (.ref 103), some (.int (nI n)), some (.int (pk_bi (!sp_any (sp_lvF A n) j))), some (.int (nI j))]) ?_ ?_ 0 (by omega)
  · intro j hj K
    have hl1 := sp_lookA_lt A j
    have hl2 := sp_look_lt (sp_k A) (sp_t A) (fun k => sp_dig n (4 - k)) j
    have hcl : sp_c (fun q => sp_in A q && (sp_s A q == j)) 48 ≤ 48 := sp_c_le _ 48
    have hb0 : sp_c (fun q => sp_in A q && (sp_s A q == j)) 48 = 0 → (sp_sets A).testBit j = false := fun h => by rw [sp_sets_bit]; exact (sp_c_0 _ 48).mp h
    have hb1 : sp_c (fun q => sp_in A q && (sp_s A q == j)) 48 ≠ 0 → (sp_sets A).testBit j = true := fun h => by
      rw [sp_sets_bit]
      cases h2 : sp_any (fun q => sp_in A q && (sp_s A q == j)) 48 with
      | false => exact absurd ((sp_c_0 _ 48).mpr h2) h
      | true => rfl
    refine pk_iload_n dX7_leaves_4 rfl ?_
    refine pk_bipush (v := nI 32) dX7_leaves_5 (by decide) ?_
    first | refine pk_geN (tgt := 51) dX7_leaves_7 (by decide) (by omega) (by omega) (fun c_7 => ?_) (fun c_7 => ?_) | refine pk_icmp_ge (tgt := 51) dX7_leaves_7 (by decide) (fun c_7 => ?_) (fun c_7 => ?_)
    · omega
    · refine pk_iload_n dX7_leaves_10 rfl ?_
      refine pk_eqb (tgt := 51) dX7_leaves_11 (by decide) (fun c_11 => ?_) (fun c_11 => ?_)
      · refine pk_iload_n dX7_leaves_51 rfl ?_
        refine pk_reti dX7_leaves_52 (by first | rfl | exact pk_nbi _) ?_
        refine ⟨?_, rfl⟩
        have h1 : sp_any (sp_lvF A n) j = true := by simpa using c_11
        obtain ⟨q, hq, h2⟩ := sp_any_iff.mp h1
        unfold sp_lv
        rw [h1, sp_any_true (f := (sp_lvF A n)) (n := 32) (show q < 32 by omega) h2]
      · refine pk_aload_n dX7_leaves_14 rfl ?_
        refine pk_iload_n dX7_leaves_15 rfl ?_
        refine pk_iload_n dX7_leaves_16 rfl ?_
        refine pk_iconst (v := -1) dX7_leaves_17 (by decide) ?_
        refine pk_iconst (v := nI 0) dX7_leaves_18 (by decide) ?_
        refine pk_Vi dX7_leaves_19 ml_X7_80 yw_X7_lookBy yv_X7_lookBy (hW.s rfl) (e_X7_lookBy ⟨hW, hA, hok⟩ (by omega) hn hd (pm_kk hok _)) rfl rfl rfl rfl rfl rfl rfl ?_
        refine pk_aload_n dX7_leaves_22 rfl ?_
        refine pk_getP dX7_leaves_23 fl_X7_13 rfl (hW.s rfl) (hW.p rfl) ?_
        refine pk_iload_n dX7_leaves_26 rfl ?_
        refine pk_aldN dX7_leaves_27 (hW.s rfl) (by omega) (by omega) (hL _ (by omega)) ?_
        first | refine pk_eqN (tgt := 39) dX7_leaves_28 (by decide) (by omega) (by omega) (fun c_28 => ?_) (fun c_28 => ?_) | refine pk_icmp_eq (tgt := 39) dX7_leaves_28 (by decide) (fun c_28 => ?_) (fun c_28 => ?_)
        · refine pk_iconst (v := nI 1) dX7_leaves_39 (by decide) ?_
          refine pk_goto (tgt := 44) dX7_leaves_40 (by decide) ?_
          refine pk_istore_n dX7_leaves_44 rfl rfl ?_
          first | refine pk_inc1 dX7_leaves_45 rfl rfl ?_ | refine pk_iinc dX7_leaves_45 rfl rfl rfl ?_
          refine pk_goto (tgt := 4) dX7_leaves_48 (by decide) ?_
          have e1 : (!sp_any (sp_lvF A n) (j + 1)) = true := by
            rw [sp_any_succ]
            unfold sp_lvF
            rw [beq_iff_eq.mpr c_28, Bool.not_true, Bool.and_false, Bool.or_false]
            exact c_11
          rw [e1] at K
          exact K
        · refine pk_aload_n dX7_leaves_31 rfl ?_
          refine pk_iload_n dX7_leaves_32 rfl ?_
          refine pk_Vi dX7_leaves_33 ml_X7_149 yw_X7_placesOf yv_X7_placesOf (hW.s rfl) (e_X7_placesOf ⟨hW, hA, hok⟩ (by omega)) rfl rfl rfl rfl rfl rfl rfl ?_
          refine pk_ne0N (tgt := 43) dX7_leaves_36 (by decide) (by omega) (fun c_36 => ?_) (fun c_36 => ?_)
          · refine pk_iconst (v := nI 0) dX7_leaves_43 (by decide) ?_
            refine pk_istore_n dX7_leaves_44 rfl rfl ?_
            first | refine pk_inc1 dX7_leaves_45 rfl rfl ?_ | refine pk_iinc dX7_leaves_45 rfl rfl rfl ?_
            refine pk_goto (tgt := 4) dX7_leaves_48 (by decide) ?_
            have e1 : (!sp_any (sp_lvF A n) (j + 1)) = false := by
              rw [sp_any_succ]
              unfold sp_lvF
              rw [beq_eq_false_iff_ne.mpr c_28, hb1 c_36]
              simp
            rw [e1] at K
            exact K
          · refine pk_iconst (v := nI 1) dX7_leaves_39 (by decide) ?_
            refine pk_goto (tgt := 44) dX7_leaves_40 (by decide) ?_
            refine pk_istore_n dX7_leaves_44 rfl rfl ?_
            first | refine pk_inc1 dX7_leaves_45 rfl rfl ?_ | refine pk_iinc dX7_leaves_45 rfl rfl rfl ?_
            refine pk_goto (tgt := 4) dX7_leaves_48 (by decide) ?_
            have e1 : (!sp_any (sp_lvF A n) (j + 1)) = true := by
              rw [sp_any_succ]
              unfold sp_lvF
              rw [hb0 c_36, Bool.false_and, Bool.or_false]
              exact c_11
            rw [e1] at K
            exact K
  · refine pk_iload_n dX7_leaves_4 rfl ?_
    refine pk_bipush (v := nI 32) dX7_leaves_5 (by decide) ?_
    first | refine pk_geN (tgt := 51) dX7_leaves_7 (by decide) (by omega) (by omega) (fun c_7 => ?_) (fun c_7 => ?_) | refine pk_icmp_ge (tgt := 51) dX7_leaves_7 (by decide) (fun c_7 => ?_) (fun c_7 => ?_)
    · refine pk_iload_n dX7_leaves_51 rfl ?_
      refine pk_reti dX7_leaves_52 (by first | rfl | exact pk_nbi _) ?_
      exact ⟨rfl, rfl⟩
    · omega

set_option maxRecDepth 100000 in
set_option maxHeartbeats 4000000 in
theorem e_X7_isWhole {Γ : pk_T} {M : pk_M} {L : Nat} {A : pk_St} (hN : pm_now L M A) {a : Nat} (ha : a < 32) : pk_E Γ yX7_isWhole cX7_isWhole 4 (some .boolean) 3 0 0 M [.ref 103, .int (nI a)] (fun r M' => r = some (.int (pk_bi (!sp_any (fun q => sp_in A q && (!(sp_s A q == 0) && (sp_s A q &&& a == 0))) 48))) ∧ M' = M) := by
  obtain ⟨hW, hA, hok⟩ := hN
  have hw := hok.1
  have hh := hok.2.1
  have hs := hok.2.2.2.2.2.2.2.1
  refine pk_meth (own := RX7) (ini := false) [some (.ref 103), some (.int (nI a)), none, none] (by decide +kernel) rfl (by decide +kernel) rfl rfl ?_
  refine pk_iconst (v := nI 1) dX7_isWhole_0 (by decide) ?_
  refine pk_istore_n dX7_isWhole_1 rfl rfl ?_
  refine pk_iconst (v := nI 0) dX7_isWhole_2 (by decide) ?_
  refine pk_istore_n dX7_isWhole_3 rfl rfl ?_
  refine pk_for 48 (fun _ => M) (fun j => [some (.ref 103), some (.int (nI a)), some (.int (pk_bi (!sp_any (fun q => sp_in A q && (!(sp_s A q == 0) && (sp_s A q &&& a == 0))) j))), some (.int (nI j))]) ?_ ?_ 0 (by omega)
  · intro j hj K
    have hsj := hs j hj
    have hal := pk_and_lt (a := sp_s A j) (b := a) hsj
    refine pk_iload_n dX7_isWhole_4 rfl ?_
    refine pk_bipush (v := nI 48) dX7_isWhole_5 (by decide) ?_
    first | refine pk_geN (tgt := 52) dX7_isWhole_7 (by decide) (by omega) (by omega) (fun c_7 => ?_) (fun c_7 => ?_) | refine pk_icmp_ge (tgt := 52) dX7_isWhole_7 (by decide) (fun c_7 => ?_) (fun c_7 => ?_)
    · omega
    · refine pk_iload_n dX7_isWhole_10 rfl ?_
      refine pk_eqb (tgt := 44) dX7_isWhole_11 (by decide) (fun c_11 => ?_) (fun c_11 => ?_)
      · refine pk_iconst (v := nI 0) dX7_isWhole_44 (by decide) ?_
        refine pk_istore_n dX7_isWhole_45 rfl rfl ?_
        first | refine pk_inc1 dX7_isWhole_46 rfl rfl ?_ | refine pk_iinc dX7_isWhole_46 rfl rfl rfl ?_
        refine pk_goto (tgt := 4) dX7_isWhole_49 (by decide) ?_
        have e1 : (!sp_any (fun q => sp_in A q && (!(sp_s A q == 0) && (sp_s A q &&& a == 0))) (j + 1)) = false := by
          rw [sp_any_succ, show sp_any (fun q => sp_in A q && (!(sp_s A q == 0) && (sp_s A q &&& a == 0))) j = true by simpa using c_11]
          rfl
        rw [e1] at K
        exact K
      · refine pk_aload_n dX7_isWhole_14 rfl ?_
        refine pk_iload_n dX7_isWhole_15 rfl ?_
        refine pk_Vi dX7_isWhole_16 ml_X7_88 yw_X7_isIn yv_X7_isIn (hW.s rfl) (e_X7_isIn ⟨hW, hA, hok⟩ (by omega)) rfl rfl rfl rfl rfl rfl rfl ?_
        first | refine pk_eqb (tgt := 40) dX7_isWhole_19 (by decide) (fun c_19 => ?_) (fun c_19 => ?_) | refine pk_eq0N (tgt := 40) dX7_isWhole_19 (by decide) (by omega) (fun c_19 => ?_) (fun c_19 => ?_) | refine pk_if_eq (tgt := 40) dX7_isWhole_19 (by decide) (fun c_19 => ?_) (fun c_19 => ?_)
        · refine pk_iconst (v := nI 1) dX7_isWhole_40 (by decide) ?_
          refine pk_goto (tgt := 45) dX7_isWhole_41 (by decide) ?_
          refine pk_istore_n dX7_isWhole_45 rfl rfl ?_
          first | refine pk_inc1 dX7_isWhole_46 rfl rfl ?_ | refine pk_iinc dX7_isWhole_46 rfl rfl rfl ?_
          refine pk_goto (tgt := 4) dX7_isWhole_49 (by decide) ?_
          have e1 : (!sp_any (fun q => sp_in A q && (!(sp_s A q == 0) && (sp_s A q &&& a == 0))) (j + 1)) = true := by
            rw [sp_any_succ, c_19, Bool.false_and, Bool.or_false]
            exact c_11
          rw [e1] at K
          exact K
        · refine pk_aload_n dX7_isWhole_22 rfl ?_
          refine pk_iload_n dX7_isWhole_23 rfl ?_
          refine pk_Vi dX7_isWhole_24 ml_X7_92 yw_X7_setAt yv_X7_setAt (hW.s rfl) (e_X7_setAt ⟨hW, hA, hok⟩ (by omega)) rfl rfl rfl rfl rfl rfl rfl ?_
          refine pk_eq0N (tgt := 40) dX7_isWhole_27 (by decide) (by omega) (fun c_27 => ?_) (fun c_27 => ?_)
          · refine pk_iconst (v := nI 1) dX7_isWhole_40 (by decide) ?_
            refine pk_goto (tgt := 45) dX7_isWhole_41 (by decide) ?_
            refine pk_istore_n dX7_isWhole_45 rfl rfl ?_
            first | refine pk_inc1 dX7_isWhole_46 rfl rfl ?_ | refine pk_iinc dX7_isWhole_46 rfl rfl rfl ?_
            refine pk_goto (tgt := 4) dX7_isWhole_49 (by decide) ?_
            have e1 : (!sp_any (fun q => sp_in A q && (!(sp_s A q == 0) && (sp_s A q &&& a == 0))) (j + 1)) = true := by
              rw [sp_any_succ, beq_iff_eq.mpr c_27, Bool.not_true, Bool.false_and, Bool.and_false, Bool.or_false]
              exact c_11
            rw [e1] at K
            exact K
          · refine pk_aload_n dX7_isWhole_30 rfl ?_
            refine pk_iload_n dX7_isWhole_31 rfl ?_
            refine pk_Vi dX7_isWhole_32 ml_X7_92 yw_X7_setAt yv_X7_setAt (hW.s rfl) (e_X7_setAt ⟨hW, hA, hok⟩ (by omega)) rfl rfl rfl rfl rfl rfl rfl ?_
            refine pk_iload_n dX7_isWhole_35 rfl ?_
            first | refine pk_andNN dX7_isWhole_36 ?_ | refine pk_iand dX7_isWhole_36 ?_
            refine pk_eq0N (tgt := 44) dX7_isWhole_37 (by decide) (by omega) (fun c_37 => ?_) (fun c_37 => ?_)
            · refine pk_iconst (v := nI 0) dX7_isWhole_44 (by decide) ?_
              refine pk_istore_n dX7_isWhole_45 rfl rfl ?_
              first | refine pk_inc1 dX7_isWhole_46 rfl rfl ?_ | refine pk_iinc dX7_isWhole_46 rfl rfl rfl ?_
              refine pk_goto (tgt := 4) dX7_isWhole_49 (by decide) ?_
              have e1 : (!sp_any (fun q => sp_in A q && (!(sp_s A q == 0) && (sp_s A q &&& a == 0))) (j + 1)) = false := by
                rw [sp_any_succ, c_19, beq_eq_false_iff_ne.mpr c_27, beq_iff_eq.mpr c_37]
                simp
              rw [e1] at K
              exact K
            · refine pk_iconst (v := nI 1) dX7_isWhole_40 (by decide) ?_
              refine pk_goto (tgt := 45) dX7_isWhole_41 (by decide) ?_
              refine pk_istore_n dX7_isWhole_45 rfl rfl ?_
              first | refine pk_inc1 dX7_isWhole_46 rfl rfl ?_ | refine pk_iinc dX7_isWhole_46 rfl rfl rfl ?_
              refine pk_goto (tgt := 4) dX7_isWhole_49 (by decide) ?_
              have e1 : (!sp_any (fun q => sp_in A q && (!(sp_s A q == 0) && (sp_s A q &&& a == 0))) (j + 1)) = true := by
                rw [sp_any_succ, beq_eq_false_iff_ne.mpr c_37, Bool.and_false, Bool.and_false, Bool.or_false]
                exact c_11
              rw [e1] at K
              exact K
  · refine pk_iload_n dX7_isWhole_4 rfl ?_
    refine pk_bipush (v := nI 48) dX7_isWhole_5 (by decide) ?_
    first | refine pk_geN (tgt := 52) dX7_isWhole_7 (by decide) (by omega) (by omega) (fun c_7 => ?_) (fun c_7 => ?_) | refine pk_icmp_ge (tgt := 52) dX7_isWhole_7 (by decide) (fun c_7 => ?_) (fun c_7 => ?_)
    · refine pk_iload_n dX7_isWhole_52 rfl ?_
      refine pk_reti dX7_isWhole_53 (by first | rfl | exact pk_nbi _) ?_
      exact ⟨rfl, rfl⟩
    · omega

def sp_pa (a I c : Nat) : Nat → Nat
  | 0 => 1
  | k + 1 => sp_pa a I c k * (if I.testBit k then (if a.testBit k then 10 - c else c) else 1)

set_option maxRecDepth 100000 in
set_option maxHeartbeats 4000000 in
theorem e_X7_parts {Γ : pk_T} {M : pk_M} {a I c : Nat} (ha : a < 32) (hI : I < 32) (hc : c ≤ 10) : pk_E Γ yX7_parts cX7_parts 5 (some .int) 1 0 0 M [.int (nI a), .int (nI I), .int (nI c)] (fun r M' => r = some (.int (nI (sp_pa a I c 5))) ∧ M' = M) := by
  refine pk_meth (own := RX7) (ini := false) [some (.int (nI a)), some (.int (nI I)), some (.int (nI c)), none, none] (by decide +kernel) rfl (by decide +kernel) rfl rfl ?_
  refine pk_iconst (v := nI 1) dX7_parts_0 (by decide) ?_
  refine pk_istore_n dX7_parts_1 rfl rfl ?_
  refine pk_iconst (v := nI 0) dX7_parts_2 (by decide) ?_
  refine pk_istore dX7_parts_3 rfl rfl ?_
  refine pk_for 5 (fun _ => M) (fun j => [some (.int (nI a)), some (.int (nI I)), some (.int (nI c)), some (.int (nI (sp_pa a I c j))), some (.int (nI j))]) ?_ ?_ 0 (by omega)
  · intro j hj K
    have e1 : sp_pa a I c (j + 1) = sp_pa a I c j * (if I.testBit j then (if a.testBit j then 10 - c else c) else 1) := rfl
    refine pk_iload dX7_parts_5 rfl ?_
    refine pk_iconst (v := nI 5) dX7_parts_7 (by decide) ?_
    first | refine pk_geN (tgt := 50) dX7_parts_8 (by decide) (by omega) (by omega) (fun c_8 => ?_) (fun c_8 => ?_) | refine pk_icmp_ge (tgt := 50) dX7_parts_8 (by decide) (fun c_8 => ?_) (fun c_8 => ?_)
    · omega
    · refine pk_iload_n dX7_parts_11 rfl ?_
      refine pk_iload_n dX7_parts_12 rfl ?_
      refine pk_iload dX7_parts_13 rfl ?_
      refine pk_Si dX7_parts_15 ml_X7_69 yw_X7_hasInk ys_X7_hasInk (e_X7_hasInk _ _ (by omega) (by omega)) rfl rfl rfl rfl rfl rfl rfl ?_
      first | refine pk_neb (tgt := 25) dX7_parts_18 (by decide) (fun c_18 => ?_) (fun c_18 => ?_) | refine pk_ne0N (tgt := 25) dX7_parts_18 (by decide) (by omega) (fun c_18 => ?_) (fun c_18 => ?_) | refine pk_if_ne (tgt := 25) dX7_parts_18 (by decide) (fun c_18 => ?_) (fun c_18 => ?_)
      · refine pk_iload_n dX7_parts_25 rfl ?_
        refine pk_iload dX7_parts_26 rfl ?_
        refine pk_Si dX7_parts_28 ml_X7_69 yw_X7_hasInk ys_X7_hasInk (e_X7_hasInk _ _ (by omega) (by omega)) rfl rfl rfl rfl rfl rfl rfl ?_
        first | refine pk_eqb (tgt := 41) dX7_parts_31 (by decide) (fun c_31 => ?_) (fun c_31 => ?_) | refine pk_eq0N (tgt := 41) dX7_parts_31 (by decide) (by omega) (fun c_31 => ?_) (fun c_31 => ?_) | refine pk_if_eq (tgt := 41) dX7_parts_31 (by decide) (fun c_31 => ?_) (fun c_31 => ?_)
        · refine pk_iload_n dX7_parts_41 rfl ?_
          rw [c_18, if_pos rfl, c_31, if_neg (by decide)] at e1
          rw [e1] at K
          first | refine pk_mulN dX7_parts_42 ?_ | refine pk_imul dX7_parts_42 ?_
          refine pk_istore_n dX7_parts_43 rfl rfl ?_
          first | refine pk_inc1 dX7_parts_44 rfl rfl ?_ | refine pk_iinc dX7_parts_44 rfl rfl rfl ?_
          refine pk_goto (tgt := 5) dX7_parts_47 (by decide) ?_
          exact K
        · refine pk_bipush (v := nI 10) dX7_parts_34 (by decide) ?_
          refine pk_iload_n dX7_parts_36 rfl ?_
          first | refine pk_subN dX7_parts_37 (by omega) ?_ | refine pk_isub dX7_parts_37 ?_
          refine pk_goto (tgt := 42) dX7_parts_38 (by decide) ?_
          rw [c_18, if_pos rfl, c_31, if_pos rfl] at e1
          rw [e1] at K
          first | refine pk_mulN dX7_parts_42 ?_ | refine pk_imul dX7_parts_42 ?_
          refine pk_istore_n dX7_parts_43 rfl rfl ?_
          first | refine pk_inc1 dX7_parts_44 rfl rfl ?_ | refine pk_iinc dX7_parts_44 rfl rfl rfl ?_
          refine pk_goto (tgt := 5) dX7_parts_47 (by decide) ?_
          exact K
      · refine pk_iconst (v := nI 1) dX7_parts_21 (by decide) ?_
        refine pk_goto (tgt := 42) dX7_parts_22 (by decide) ?_
        rw [c_18, if_neg (by decide)] at e1
        rw [e1] at K
        first | refine pk_mulN dX7_parts_42 ?_ | refine pk_imul dX7_parts_42 ?_
        refine pk_istore_n dX7_parts_43 rfl rfl ?_
        first | refine pk_inc1 dX7_parts_44 rfl rfl ?_ | refine pk_iinc dX7_parts_44 rfl rfl rfl ?_
        refine pk_goto (tgt := 5) dX7_parts_47 (by decide) ?_
        exact K
  · refine pk_iload dX7_parts_5 rfl ?_
    refine pk_iconst (v := nI 5) dX7_parts_7 (by decide) ?_
    first | refine pk_geN (tgt := 50) dX7_parts_8 (by decide) (by omega) (by omega) (fun c_8 => ?_) (fun c_8 => ?_) | refine pk_icmp_ge (tgt := 50) dX7_parts_8 (by decide) (fun c_8 => ?_) (fun c_8 => ?_)
    · refine pk_iload_n dX7_parts_50 rfl ?_
      refine pk_reti dX7_parts_51 (by first | rfl | exact pk_nbi _) ?_
      exact ⟨rfl, rfl⟩
    · omega
