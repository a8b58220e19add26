/-! The model: inks by their darkness. -/
def sp_nxc (le : Nat → Nat → Bool) (i : Nat) : Option Nat → Bool
  | none => true
  | some q => le i q
def sp_nx (le : Nat → Nat → Bool) (d : Nat) : Nat → Option Nat
  | 0 => none
  | t + 1 => cond (!d.testBit (4 - t) && sp_nxc le (4 - t) (sp_nx le d t)) (some (4 - t)) (sp_nx le d t)
theorem sp_nx_succ (le : Nat → Nat → Bool) (d t : Nat) : sp_nx le d (t + 1) = cond (!d.testBit (4 - t) && sp_nxc le (4 - t) (sp_nx le d t)) (some (4 - t)) (sp_nx le d t) := rfl
def sp_sel (le : Nat → Nat → Bool) : Nat → Nat × Nat
  | 0 => (0, 0)
  | k + 1 => match sp_nx le (sp_sel le k).1 5 with
    | some q => ((sp_sel le k).1 ||| 2 ^ q, 10 * (sp_sel le k).2 + q)
    | none => sp_sel le k
def sp_rkc (le : Nat → Nat → Bool) (i o : Nat) : Bool := if o < i then le o i else if i < o then !(le i o) else false
def sp_rk (le : Nat → Nat → Bool) : Nat := sp_fold (fun n x => if sp_c (sp_rkc le (n % 5)) 5 == n / 5 then x * 10 + n % 5 else x) 0 25
def sp_tri (le : Nat → Nat → Bool) : Bool := (!(le 0 1 && le 1 2 && !le 0 2) && !(!le 0 1 && !le 1 2 && le 0 2)) && (!(le 0 1 && le 1 3 && !le 0 3) && !(!le 0 1 && !le 1 3 && le 0 3)) && (!(le 0 1 && le 1 4 && !le 0 4) && !(!le 0 1 && !le 1 4 && le 0 4)) && (!(le 0 2 && le 2 3 && !le 0 3) && !(!le 0 2 && !le 2 3 && le 0 3)) && (!(le 0 2 && le 2 4 && !le 0 4) && !(!le 0 2 && !le 2 4 && le 0 4)) && (!(le 0 3 && le 3 4 && !le 0 4) && !(!le 0 3 && !le 3 4 && le 0 4)) && (!(le 1 2 && le 2 3 && !le 1 3) && !(!le 1 2 && !le 2 3 && le 1 3)) && (!(le 1 2 && le 2 4 && !le 1 4) && !(!le 1 2 && !le 2 4 && le 1 4)) && (!(le 1 3 && le 3 4 && !le 1 4) && !(!le 1 3 && !le 3 4 && le 1 4)) && (!(le 2 3 && le 3 4 && !le 2 4) && !(!le 2 3 && !le 3 4 && le 2 4))
def sp_lem (m i j : Nat) : Bool := m.testBit (i * (9 - i) / 2 + (j - i - 1))
set_option maxRecDepth 100000 in
theorem sp_sel_all : ∀ m, m < 1024 → (!sp_tri (sp_lem m) || ((sp_sel (sp_lem m) 5).2 == sp_rk (sp_lem m) && (sp_nx (sp_lem m) (sp_sel (sp_lem m) 0).1 5).isSome && (sp_nx (sp_lem m) (sp_sel (sp_lem m) 1).1 5).isSome && (sp_nx (sp_lem m) (sp_sel (sp_lem m) 2).1 5).isSome && (sp_nx (sp_lem m) (sp_sel (sp_lem m) 3).1 5).isSome && (sp_nx (sp_lem m) (sp_sel (sp_lem m) 4).1 5).isSome)) = true := by decide +kernel
def sp_pi (t : Nat) : Nat := [0, 0, 0, 0, 1, 1, 1, 2, 2, 3].getD t 0
def sp_pj (t : Nat) : Nat := [1, 2, 3, 4, 2, 3, 4, 3, 4, 4].getD t 0
def sp_encF (b : Nat → Bool) : Nat → Nat := sp_fold (fun t x => if b t then x ||| 2 ^ t else x) 0
theorem sp_encF_bit (b : Nat → Bool) (s n : Nat) : (sp_encF b n).testBit s = (decide (s < n) && b s) := by
  induction n with
  | zero => exact Nat.zero_testBit s
  | succ n ih =>
    show (if b n then sp_encF b n ||| 2 ^ n else sp_encF b n).testBit s = _
    by_cases e : s = n
    · subst e
      cases hb : b s
      · rw [if_neg (by decide), ih, hb, Bool.and_false, Bool.and_false]
      · rw [if_pos rfl, Nat.testBit_or, Nat.testBit_two_pow]
        simp
    · have e2 : (decide (s < n + 1)) = decide (s < n) := decide_eq_decide.mpr (by omega)
      rw [e2]
      cases hb : b n
      · rw [if_neg (by decide), ih]
      · rw [if_pos rfl, Nat.testBit_or, Nat.testBit_two_pow, ih, decide_eq_false (show ¬ n = s from fun z => e z.symm), Bool.or_false]
theorem sp_encF_lt (b : Nat → Bool) (n : Nat) : sp_encF b n < 2 ^ n := by
  induction n with
  | zero => show 0 < 1; decide
  | succ n ih =>
    have h1 : sp_encF b n < 2 ^ (n + 1) := Nat.lt_trans ih (Nat.pow_lt_pow_right (by decide) (Nat.lt_succ_self n))
    show (if b n then sp_encF b n ||| 2 ^ n else sp_encF b n) < 2 ^ (n + 1)
    split
    · exact Nat.or_lt_two_pow h1 (Nat.pow_lt_pow_right (by decide) (Nat.lt_succ_self n))
    · exact h1
def sp_em (A : pk_St) : Nat := sp_encF (fun t => decide (sp_dk A (sp_pi t) ≤ sp_dk A (sp_pj t))) 10
theorem sp_em_lt (A : pk_St) : sp_em A < 1024 := sp_encF_lt _ 10
theorem sp_lem_at (A : pk_St) {i j : Nat} (h : i < j) (hj : j < 5) : sp_lem (sp_em A) i j = decide (sp_dk A i ≤ sp_dk A j) := by
  unfold sp_lem sp_em
  rw [sp_encF_bit]
  have c : (i = 0 ∧ (j = 1 ∨ j = 2 ∨ j = 3 ∨ j = 4)) ∨ (i = 1 ∧ (j = 2 ∨ j = 3 ∨ j = 4)) ∨ (i = 2 ∧ (j = 3 ∨ j = 4)) ∨ (i = 3 ∧ j = 4) := by omega
  rcases c with ⟨rfl, rfl | rfl | rfl | rfl⟩ | ⟨rfl, rfl | rfl | rfl⟩ | ⟨rfl, rfl | rfl⟩ | ⟨rfl, rfl⟩ <;> rfl
theorem sp_tr3 (a b c : Nat) : (!(decide (a ≤ b) && decide (b ≤ c) && !decide (a ≤ c)) && !(!decide (a ≤ b) && !decide (b ≤ c) && decide (a ≤ c))) = true := by
  by_cases h1 : a ≤ b <;> by_cases h2 : b ≤ c <;> by_cases h3 : a ≤ c <;> simp [h1, h2, h3] <;> omega
theorem sp_tri_em (A : pk_St) : sp_tri (sp_lem (sp_em A)) = true := by
  unfold sp_tri
  rw [sp_lem_at A (show 0 < 1 by decide) (by decide), sp_lem_at A (show 0 < 2 by decide) (by decide), sp_lem_at A (show 0 < 3 by decide) (by decide), sp_lem_at A (show 0 < 4 by decide) (by decide), sp_lem_at A (show 1 < 2 by decide) (by decide), sp_lem_at A (show 1 < 3 by decide) (by decide), sp_lem_at A (show 1 < 4 by decide) (by decide), sp_lem_at A (show 2 < 3 by decide) (by decide), sp_lem_at A (show 2 < 4 by decide) (by decide), sp_lem_at A (show 3 < 4 by decide) (by decide)]
  rw [sp_tr3, sp_tr3, sp_tr3, sp_tr3, sp_tr3, sp_tr3, sp_tr3, sp_tr3, sp_tr3, sp_tr3]
  rfl
theorem sp_byDark_em (A : pk_St) : sp_rk (sp_lem (sp_em A)) = sp_byDark A := by
  unfold sp_rk sp_byDark
  refine sp_fold_congr (fun n hn x => ?_)
  have hc : sp_c (sp_rkc (sp_lem (sp_em A)) (n % 5)) 5 = sp_light A (n % 5) := by
    unfold sp_light
    refine sp_c_congr (fun o ho => ?_)
    have hi : n % 5 < 5 := Nat.mod_lt _ (by decide)
    unfold sp_rkc sp_lt
    by_cases h1 : o < n % 5
    · rw [if_pos h1, sp_lem_at A h1 hi, decide_eq_true h1, Bool.and_true]
      apply sp_bool_iff
      simp
      omega
    · rw [if_neg h1, decide_eq_false h1, Bool.and_false, Bool.or_false]
      by_cases h2 : n % 5 < o
      · rw [if_pos h2, sp_lem_at A h2 ho]
        apply sp_bool_iff
        simp
      · have e : o = n % 5 := by omega
        rw [if_neg h2, e]
        simp
  rw [hc]
  rfl
theorem sp_sel_em (A : pk_St) : (sp_sel (sp_lem (sp_em A)) 5).2 = sp_byDark A ∧ ∀ k, k < 5 → (sp_nx (sp_lem (sp_em A)) (sp_sel (sp_lem (sp_em A)) k).1 5).isSome = true := by
  have h := sp_sel_all (sp_em A) (sp_em_lt A)
  rw [sp_tri_em, Bool.not_true, Bool.false_or, Bool.and_eq_true, Bool.and_eq_true, Bool.and_eq_true, Bool.and_eq_true, Bool.and_eq_true, beq_iff_eq] at h
  refine ⟨h.1.1.1.1.1.trans (sp_byDark_em A), fun k hk => ?_⟩
  have c : k = 0 ∨ k = 1 ∨ k = 2 ∨ k = 3 ∨ k = 4 := by omega
  rcases c with rfl | rfl | rfl | rfl | rfl
  · exact h.1.1.1.1.2
  · exact h.1.1.1.2
  · exact h.1.1.2
  · exact h.1.2
  · exact h.2
theorem sp_nx_gt {le : Nat → Nat → Bool} {d : Nat} (t : Nat) (ht : t ≤ 5) : ∀ q, sp_nx le d t = some q → 4 < q + t ∧ q < 5 := by
  induction t with
  | zero => intro q h; cases h
  | succ t ih =>
    intro q h
    rw [sp_nx_succ] at h
    cases hc : (!d.testBit (4 - t) && sp_nxc le (4 - t) (sp_nx le d t)) with
    | true =>
      rw [hc] at h
      cases h
      omega
    | false =>
      rw [hc] at h
      have := ih (by omega) q h
      omega
theorem sp_sel_lt (le : Nat → Nat → Bool) (k : Nat) : (sp_sel le k).1 < 32 := by
  induction k with
  | zero => show 0 < 32; decide
  | succ k ih =>
    rw [sp_sel]
    split
    · rename_i q e
      have := sp_nx_gt 5 (Nat.le_refl _) q e
      exact Nat.or_lt_two_pow (n := 5) ih (pk_p2 this.2)
    · exact ih

set_option maxRecDepth 100000 in
set_option maxHeartbeats 4000000 in
theorem e_X7_byDark {Γ : pk_T} {M : pk_M} {L : Nat} {A : pk_St} (hN : pm_now L M A) : pk_E Γ yX7_byDark cX7_byDark 6 (some .int) 5 0 0 M [.ref 103] (fun r M' => r = some (.int (nI (sp_byDark A))) ∧ M' = M) := by
  obtain ⟨hW, hA, hok⟩ := hN
  have hw := hok.1
  have hh := hok.2.1
  have hs := hok.2.2.2.2.2.2.2.1
  refine pk_meth (own := RX7) (ini := false) [some (.ref 103), none, none, none, none, none] (by decide +kernel) rfl (by decide +kernel) rfl rfl ?_
  obtain ⟨hs1, hs2⟩ := sp_sel_em A
  rw [← hs1]
  refine pk_iconst (v := nI 0) dX7_byDark_0 (by decide) ?_
  refine pk_istore_n dX7_byDark_1 rfl rfl ?_
  refine pk_iconst (v := nI 0) dX7_byDark_2 (by decide) ?_
  refine pk_istore_n dX7_byDark_3 rfl rfl ?_
  refine pk_iconst (v := nI 0) dX7_byDark_4 (by decide) ?_
  refine pk_istore_n dX7_byDark_5 rfl rfl ?_
  refine pk_for 5 (fun _ => M) (fun k => [some (.ref 103), some (.int (nI (sp_sel (sp_lem (sp_em A)) k).2)), some (.int (nI (sp_sel (sp_lem (sp_em A)) k).1)), some (.int (nI k)), none, none]) ?_ ?_ 0 (by omega)
  · intro k hk K1
    have hD := sp_sel_lt (sp_lem (sp_em A)) k
    refine pk_iload_n dX7_byDark_6 rfl ?_
    refine pk_iconst (v := nI 5) dX7_byDark_7 (by decide) ?_
    first | refine pk_geN (tgt := 86) dX7_byDark_8 (by decide) (by omega) (by omega) (fun c_8 => ?_) (fun c_8 => ?_) | refine pk_icmp_ge (tgt := 86) dX7_byDark_8 (by decide) (fun c_8 => ?_) (fun c_8 => ?_)
    · omega
    · refine pk_iconst (v := -1) dX7_byDark_11 (by decide) ?_
      refine pk_istore dX7_byDark_12 rfl rfl ?_
      refine pk_iconst (v := nI 4) dX7_byDark_14 (by decide) ?_
      refine pk_istore dX7_byDark_15 rfl rfl ?_
      refine pk_lsq (ls' := [some (.ref 103), some (.int (nI (sp_sel (sp_lem (sp_em A)) k).2)), some (.int (nI (sp_sel (sp_lem (sp_em A)) k).1)), some (.int (nI k)), some (.int (sp_on (sp_nx (sp_lem (sp_em A)) (sp_sel (sp_lem (sp_em A)) k).1 0))), some (.int (sp_k4 0))]) rfl ?_
      refine pk_for 5 (fun _ => M) (fun t => [some (.ref 103), some (.int (nI (sp_sel (sp_lem (sp_em A)) k).2)), some (.int (nI (sp_sel (sp_lem (sp_em A)) k).1)), some (.int (nI k)), some (.int (sp_on (sp_nx (sp_lem (sp_em A)) (sp_sel (sp_lem (sp_em A)) k).1 t))), some (.int (sp_k4 t))]) ?_ ?_ 0 (by omega)
      · intro t ht K
        rw [sp_k4_in ht]
        have hp1 := pk_p2 (show 4 - t < 5 by omega)
        rcases hnx : (sp_nx (sp_lem (sp_em A)) (sp_sel (sp_lem (sp_em A)) k).1 t) with _ | q
        · refine pk_iload dX7_byDark_17 rfl ?_
          refine pk_if_lt (tgt := 65) dX7_byDark_19 (by decide) (fun c_19 => ?_) (fun c_19 => ?_)
          · exact absurd c_19 (nI_pos (by omega))
          · refine pk_iload_n dX7_byDark_22 rfl ?_
            refine pk_iload dX7_byDark_23 rfl ?_
            refine pk_Si dX7_byDark_25 ml_X7_69 yw_X7_hasInk ys_X7_hasInk (e_X7_hasInk _ _ (by omega) (by omega)) rfl rfl rfl rfl rfl rfl rfl ?_
            refine pk_neb (tgt := 59) dX7_byDark_28 (by decide) (fun c_28 => ?_) (fun c_28 => ?_)
            · refine pk_iinc dX7_byDark_59 rfl (sp_k4_next t ht) rfl ?_
              refine pk_goto (tgt := 17) dX7_byDark_62 (by decide) ?_
              have e1 : (sp_nx (sp_lem (sp_em A)) (sp_sel (sp_lem (sp_em A)) k).1 (t + 1)) = (sp_nx (sp_lem (sp_em A)) (sp_sel (sp_lem (sp_em A)) k).1 t) := by
                rw [sp_nx_succ, c_28]
                rfl
              rw [e1, hnx] at K
              exact K
            · refine pk_iload dX7_byDark_31 rfl ?_
              refine pk_if_lt (tgt := 55) dX7_byDark_33 (by decide) (fun c_33 => ?_) (fun c_33 => ?_)
              · refine pk_iload dX7_byDark_55 rfl ?_
                refine pk_istore dX7_byDark_57 rfl rfl ?_
                refine pk_iinc dX7_byDark_59 rfl (sp_k4_next t ht) rfl ?_
                refine pk_goto (tgt := 17) dX7_byDark_62 (by decide) ?_
                have e1 : (sp_nx (sp_lem (sp_em A)) (sp_sel (sp_lem (sp_em A)) k).1 (t + 1)) = some (4 - t) := by
                  rw [sp_nx_succ, hnx, c_28]
                  rfl
                rw [e1] at K
                exact K
              · exact absurd (show sp_on none < 0 by decide) c_33
        · have hq := sp_nx_gt t (by omega) q hnx
          have hp2 := pk_p2 hq.2
          have hd1 := sp_dk_le A (4 - t)
          have hd2 := sp_dk_le A q
          refine pk_lsq (ls' := [some (.ref 103), some (.int (nI (sp_sel (sp_lem (sp_em A)) k).2)), some (.int (nI (sp_sel (sp_lem (sp_em A)) k).1)), some (.int (nI k)), some (.int (nI q)), some (.int (nI (4 - t)))]) rfl ?_
          refine pk_iload dX7_byDark_17 rfl ?_
          refine pk_if_lt (tgt := 65) dX7_byDark_19 (by decide) (fun c_19 => ?_) (fun c_19 => ?_)
          · exact absurd c_19 (nI_pos (by omega))
          · refine pk_iload_n dX7_byDark_22 rfl ?_
            refine pk_iload dX7_byDark_23 rfl ?_
            refine pk_Si dX7_byDark_25 ml_X7_69 yw_X7_hasInk ys_X7_hasInk (e_X7_hasInk _ _ (by omega) (by omega)) rfl rfl rfl rfl rfl rfl rfl ?_
            refine pk_neb (tgt := 59) dX7_byDark_28 (by decide) (fun c_28 => ?_) (fun c_28 => ?_)
            · refine pk_iinc dX7_byDark_59 rfl (sp_k4_next t ht) rfl ?_
              refine pk_goto (tgt := 17) dX7_byDark_62 (by decide) ?_
              have e1 : (sp_nx (sp_lem (sp_em A)) (sp_sel (sp_lem (sp_em A)) k).1 (t + 1)) = (sp_nx (sp_lem (sp_em A)) (sp_sel (sp_lem (sp_em A)) k).1 t) := by
                rw [sp_nx_succ, c_28]
                rfl
              rw [e1, hnx] at K
              exact K
            · refine pk_iload dX7_byDark_31 rfl ?_
              refine pk_if_lt (tgt := 55) dX7_byDark_33 (by decide) (fun c_33 => ?_) (fun c_33 => ?_)
              · exact absurd c_33 (nI_pos (by omega))
              · refine pk_aload_n dX7_byDark_36 rfl ?_
                refine pk_iconst (v := nI 1) dX7_byDark_37 (by decide) ?_
                refine pk_iload dX7_byDark_38 rfl ?_
                first | refine pk_shlNN dX7_byDark_40 (by omega) ?_ | refine pk_ishl dX7_byDark_40 ?_
                refine pk_Vi dX7_byDark_41 ml_X7_136 yw_X7_dark yv_X7_dark (hW.s rfl) (e_X7_dark ⟨hW, hA, hok⟩ (by omega)) rfl rfl rfl rfl rfl rfl rfl ?_
                refine pk_aload_n dX7_byDark_44 rfl ?_
                refine pk_iconst (v := nI 1) dX7_byDark_45 (by decide) ?_
                refine pk_iload dX7_byDark_46 rfl ?_
                first | refine pk_shlNN dX7_byDark_48 (by omega) ?_ | refine pk_ishl dX7_byDark_48 ?_
                refine pk_Vi dX7_byDark_49 ml_X7_136 yw_X7_dark yv_X7_dark (hW.s rfl) (e_X7_dark ⟨hW, hA, hok⟩ (by omega)) rfl rfl rfl rfl rfl rfl rfl ?_
                refine pk_gtN (a := sp_dk A (4 - t)) (b := sp_dk A q) (tgt := 59) dX7_byDark_52 (by decide) (by omega) (by omega) (fun c_52 => ?_) (fun c_52 => ?_)
                · refine pk_iinc dX7_byDark_59 rfl (sp_k4_next t ht) rfl ?_
                  refine pk_goto (tgt := 17) dX7_byDark_62 (by decide) ?_
                  have e1 : (sp_nx (sp_lem (sp_em A)) (sp_sel (sp_lem (sp_em A)) k).1 (t + 1)) = (sp_nx (sp_lem (sp_em A)) (sp_sel (sp_lem (sp_em A)) k).1 t) := by
                    rw [sp_nx_succ, hnx, show sp_nxc (sp_lem (sp_em A)) (4 - t) (some q) = (sp_lem (sp_em A)) (4 - t) q from rfl, sp_lem_at A (show 4 - t < q by omega) hq.2, decide_eq_false (Nat.not_le.mpr c_52), Bool.and_false]
                    rfl
                  rw [e1, hnx] at K
                  exact K
                · refine pk_iload dX7_byDark_55 rfl ?_
                  refine pk_istore dX7_byDark_57 rfl rfl ?_
                  refine pk_iinc dX7_byDark_59 rfl (sp_k4_next t ht) rfl ?_
                  refine pk_goto (tgt := 17) dX7_byDark_62 (by decide) ?_
                  have e1 : (sp_nx (sp_lem (sp_em A)) (sp_sel (sp_lem (sp_em A)) k).1 (t + 1)) = some (4 - t) := by
                    rw [sp_nx_succ, hnx, show sp_nxc (sp_lem (sp_em A)) (4 - t) (some q) = (sp_lem (sp_em A)) (4 - t) q from rfl, sp_lem_at A (show 4 - t < q by omega) hq.2, decide_eq_true c_52, c_28]
                    rfl
                  rw [e1] at K
                  exact K
      · obtain ⟨q, hq⟩ := Option.isSome_iff_exists.mp (hs2 k hk)
        have hq5 := sp_nx_gt 5 (Nat.le_refl _) q hq
        have hp2 := pk_p2 hq5.2
        have e1 : (sp_sel (sp_lem (sp_em A)) (k + 1)) = ((sp_sel (sp_lem (sp_em A)) k).1 ||| 2 ^ q, 10 * (sp_sel (sp_lem (sp_em A)) k).2 + q) := by
          rw [sp_sel, hq]
        rw [e1] at K1
        refine pk_lsq (ls' := [some (.ref 103), some (.int (nI (sp_sel (sp_lem (sp_em A)) k).2)), some (.int (nI (sp_sel (sp_lem (sp_em A)) k).1)), some (.int (nI k)), some (.int (nI q)), some (.int (sp_k4 5))]) (by rw [hq]; rfl) ?_
        refine pk_iload dX7_byDark_17 rfl ?_
        refine pk_if_lt (tgt := 65) dX7_byDark_19 (by decide) (fun c_19 => ?_) (fun c_19 => ?_)
        · refine pk_iload_n dX7_byDark_65 rfl ?_
          refine pk_iconst (v := nI 1) dX7_byDark_66 (by decide) ?_
          refine pk_iload dX7_byDark_67 rfl ?_
          first | refine pk_shlNN dX7_byDark_69 (by omega) ?_ | refine pk_ishl dX7_byDark_69 ?_
          first | refine pk_orNN dX7_byDark_70 ?_ | refine pk_ior dX7_byDark_70 ?_
          refine pk_istore_n dX7_byDark_71 rfl rfl ?_
          refine pk_bipush (v := nI 10) dX7_byDark_72 (by decide) ?_
          refine pk_iload_n dX7_byDark_74 rfl ?_
          first | refine pk_mulN dX7_byDark_75 ?_ | refine pk_imul dX7_byDark_75 ?_
          refine pk_iload dX7_byDark_76 rfl ?_
          first | refine pk_addN dX7_byDark_78 ?_ | refine pk_iadd dX7_byDark_78 ?_
          refine pk_istore_n dX7_byDark_79 rfl rfl ?_
          first | refine pk_inc1 dX7_byDark_80 rfl rfl ?_ | refine pk_iinc dX7_byDark_80 rfl rfl rfl ?_
          refine pk_goto (tgt := 6) dX7_byDark_83 (by decide) ?_
          exact pk_fgt (by repeat first | exact trivial | refine ⟨rfl, ?_⟩) K1
        · exact absurd (show sp_k4 5 < 0 by decide) c_19
  · refine pk_iload_n dX7_byDark_6 rfl ?_
    refine pk_iconst (v := nI 5) dX7_byDark_7 (by decide) ?_
    first | refine pk_geN (tgt := 86) dX7_byDark_8 (by decide) (by omega) (by omega) (fun c_8 => ?_) (fun c_8 => ?_) | refine pk_icmp_ge (tgt := 86) dX7_byDark_8 (by decide) (fun c_8 => ?_) (fun c_8 => ?_)
    · refine pk_iload_n dX7_byDark_86 rfl ?_
      refine pk_reti dX7_byDark_87 (by first | rfl | exact pk_nbi _) ?_
      exact ⟨rfl, rfl⟩
    · omega
