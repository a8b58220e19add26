/-! The model: growing. -/
theorem sp_gd_comm (A : pk_St) (p r : Nat) : sp_gd A p r = sp_gd A r p := by
  unfold sp_gd
  rw [Nat.and_comm, Bool.and_comm (!(sp_s A p == 0))]
theorem sp_gb_fst {A : pk_St} {p r : Nat} {f : Nat → Nat} (h : p < r) : sp_gb A p r f p = f p ||| sp_cm A p r := by
  unfold sp_gb sp_cm
  show (if sp_gd A p r = true then (if sp_da A p ≤ sp_da A r then (if p = r then f r ||| sp_s A p else f p) else (if p = p then f p ||| sp_s A r else f p)) else f p) = _
  by_cases hg : sp_gd A p r = true
  · rw [if_pos hg]
    by_cases hd : sp_da A p ≤ sp_da A r
    · rw [if_pos hd, if_neg (by omega), if_neg (fun z => by omega), Nat.or_zero]
    · rw [if_neg hd, if_pos rfl, if_pos ⟨hg, Or.inl (by omega)⟩]
  · rw [if_neg hg, if_neg (fun z => hg z.1), Nat.or_zero]
theorem sp_gb_snd {A : pk_St} {p r : Nat} {f : Nat → Nat} (h : p < r) : sp_gb A p r f r = f r ||| sp_cm A r p := by
  unfold sp_gb sp_cm
  show (if sp_gd A p r = true then (if sp_da A p ≤ sp_da A r then (if r = r then f r ||| sp_s A p else f r) else (if r = p then f p ||| sp_s A r else f r)) else f r) = _
  rw [sp_gd_comm A r p]
  by_cases hg : sp_gd A p r = true
  · rw [if_pos hg]
    by_cases hd : sp_da A p ≤ sp_da A r
    · rw [if_pos hd, if_pos rfl, if_pos ⟨hg, by omega⟩]
    · rw [if_neg hd, if_neg (by omega), if_neg (fun z => by omega), Nat.or_zero]
  · rw [if_neg hg, if_neg (fun z => hg z.1), Nat.or_zero]
theorem sp_gs_eq (A : pk_St) (t : Nat) (f : Nat → Nat) (q : Nat) : sp_gs A t f q = if t / 8 + 1 < sp_h A then sp_gb A t (t + 8) (if t % 8 + 1 < sp_w A then sp_gb A t (t + 1) f else f) q else (if t % 8 + 1 < sp_w A then sp_gb A t (t + 1) f else f) q := by
  unfold sp_gs
  split <;> rfl
def sp_G (A : pk_St) (t q : Nat) : Nat := (sp_s A (q) ||| (if 8 ≤ q ∧ q - 8 < t then sp_cm A (q) (q - 8) else 0) ||| (if 0 < (q) % 8 ∧ q - 1 < t then sp_cm A (q) (q - 1) else 0) ||| (if (q) % 8 + 1 < sp_w A ∧ q < t then sp_cm A (q) (q + 1) else 0) ||| (if (q) / 8 + 1 < sp_h A ∧ q < t then sp_cm A (q) (q + 8) else 0))
theorem sp_gro_G {A : pk_St} (hA : pk_okS A) (t : Nat) : ∀ q, sp_in A q = true → sp_gro A t q = sp_G A t q := by
  have hw := hA.1
  induction t with
  | zero =>
    intro q hq
    unfold sp_G
    rw [if_neg (by omega), if_neg (by omega), if_neg (by omega), if_neg (by omega), Nat.or_zero, Nat.or_zero, Nat.or_zero, Nat.or_zero]
    rfl
  | succ t ih =>
    intro q hq
    have hql := sp_in_lt hA hq
    rw [sp_gro]
    by_cases ht : sp_in A t = true
    · rw [if_pos ht, sp_gs_eq]
      have htl := sp_in_lt hA ht
      by_cases cA : q = t
      · subst cA
        have e0 := ih q hq
        unfold sp_G at e0 ⊢
        rw [if_neg (show ¬ (q % 8 + 1 < sp_w A ∧ q < q) by omega), if_neg (show ¬ (q / 8 + 1 < sp_h A ∧ q < q) by omega), Nat.or_zero, Nat.or_zero] at e0
        have e1 : (if 8 ≤ q ∧ q - 8 < q + 1 then sp_cm A (q) (q - 8) else 0) = (if 8 ≤ q ∧ q - 8 < q then sp_cm A (q) (q - 8) else 0) := ite_congr (propext (by omega)) (fun _ => rfl) (fun _ => rfl)
        have e2 : (if 0 < (q) % 8 ∧ q - 1 < q + 1 then sp_cm A (q) (q - 1) else 0) = (if 0 < (q) % 8 ∧ q - 1 < q then sp_cm A (q) (q - 1) else 0) := ite_congr (propext (by omega)) (fun _ => rfl) (fun _ => rfl)
        rw [e1, e2]
        by_cases cR : q % 8 + 1 < sp_w A
        · rw [if_pos cR, if_pos (show q % 8 + 1 < sp_w A ∧ q < q + 1 from ⟨cR, by omega⟩)]
          by_cases cB : q / 8 + 1 < sp_h A
          · rw [if_pos cB, if_pos (show q / 8 + 1 < sp_h A ∧ q < q + 1 from ⟨cB, by omega⟩), sp_gb_fst (by omega), sp_gb_fst (by omega), e0]
          · rw [if_neg cB, if_neg (show ¬ (q / 8 + 1 < sp_h A ∧ q < q + 1) from fun z => cB z.1), sp_gb_fst (by omega), e0, Nat.or_zero]
        · rw [if_neg cR, if_neg (show ¬ (q % 8 + 1 < sp_w A ∧ q < q + 1) from fun z => cR z.1)]
          by_cases cB : q / 8 + 1 < sp_h A
          · rw [if_pos cB, if_pos (show q / 8 + 1 < sp_h A ∧ q < q + 1 from ⟨cB, by omega⟩), sp_gb_fst (by omega), e0, Nat.or_zero]
          · rw [if_neg cB, if_neg (show ¬ (q / 8 + 1 < sp_h A ∧ q < q + 1) from fun z => cB z.1), e0, Nat.or_zero, Nat.or_zero]
      · by_cases cB : q = t + 1 ∧ 0 < q % 8
        · obtain ⟨rfl, c8⟩ := cB
          have cR : t % 8 + 1 < sp_w A := by omega
          have e0 := ih (t + 1) hq
          unfold sp_G at e0 ⊢
          rw [if_neg (show ¬ (0 < (t + 1) % 8 ∧ t + 1 - 1 < t) by omega), if_neg (show ¬ ((t + 1) % 8 + 1 < sp_w A ∧ t + 1 < t) by omega), if_neg (show ¬ ((t + 1) / 8 + 1 < sp_h A ∧ t + 1 < t) by omega), Nat.or_zero, Nat.or_zero, Nat.or_zero] at e0
          have e1 : (if 8 ≤ t + 1 ∧ t + 1 - 8 < t + 1 then sp_cm A (t + 1) (t + 1 - 8) else 0) = (if 8 ≤ t + 1 ∧ t + 1 - 8 < t then sp_cm A (t + 1) (t + 1 - 8) else 0) := ite_congr (propext (by omega)) (fun _ => rfl) (fun _ => rfl)
          rw [e1, if_pos (show 0 < (t + 1) % 8 ∧ t + 1 - 1 < t + 1 by omega), if_neg (show ¬ ((t + 1) % 8 + 1 < sp_w A ∧ t + 1 < t + 1) by omega), if_neg (show ¬ ((t + 1) / 8 + 1 < sp_h A ∧ t + 1 < t + 1) by omega), Nat.or_zero, Nat.or_zero, if_pos cR, show t + 1 - 1 = t by omega, ← e0]
          by_cases cB : t / 8 + 1 < sp_h A
          · rw [if_pos cB, sp_gb_out (by omega) (by omega), sp_gb_snd (by omega)]
          · rw [if_neg cB, sp_gb_snd (by omega)]
        · by_cases cC : q = t + 8
          · subst cC
            have cB2 : t / 8 + 1 < sp_h A := by omega
            have e0 := ih (t + 8) hq
            unfold sp_G at e0 ⊢
            rw [if_neg (show ¬ (8 ≤ t + 8 ∧ t + 8 - 8 < t) by omega), if_neg (show ¬ (0 < (t + 8) % 8 ∧ t + 8 - 1 < t) by omega), if_neg (show ¬ ((t + 8) % 8 + 1 < sp_w A ∧ t + 8 < t) by omega), if_neg (show ¬ ((t + 8) / 8 + 1 < sp_h A ∧ t + 8 < t) by omega), Nat.or_zero, Nat.or_zero, Nat.or_zero, Nat.or_zero] at e0
            rw [if_pos (show 8 ≤ t + 8 ∧ t + 8 - 8 < t + 1 by omega), if_neg (show ¬ (0 < (t + 8) % 8 ∧ t + 8 - 1 < t + 1) by omega), if_neg (show ¬ ((t + 8) % 8 + 1 < sp_w A ∧ t + 8 < t + 1) by omega), if_neg (show ¬ ((t + 8) / 8 + 1 < sp_h A ∧ t + 8 < t + 1) by omega), Nat.or_zero, Nat.or_zero, Nat.or_zero, if_pos cB2, sp_gb_snd (by omega), show t + 8 - 8 = t by omega, ← e0]
            by_cases cR : t % 8 + 1 < sp_w A
            · rw [if_pos cR, sp_gb_out (by omega) (by omega)]
            · rw [if_neg cR]
          · have e0 := ih q hq
            have eG : sp_G A (t + 1) q = sp_G A t q := by
              unfold sp_G
              have e1 : (if 8 ≤ q ∧ q - 8 < t + 1 then sp_cm A (q) (q - 8) else 0) = (if 8 ≤ q ∧ q - 8 < t then sp_cm A (q) (q - 8) else 0) := ite_congr (propext (by omega)) (fun _ => rfl) (fun _ => rfl)
              have e2 : (if 0 < (q) % 8 ∧ q - 1 < t + 1 then sp_cm A (q) (q - 1) else 0) = (if 0 < (q) % 8 ∧ q - 1 < t then sp_cm A (q) (q - 1) else 0) := ite_congr (propext (by omega)) (fun _ => rfl) (fun _ => rfl)
              have e3 : (if (q) % 8 + 1 < sp_w A ∧ q < t + 1 then sp_cm A (q) (q + 1) else 0) = (if (q) % 8 + 1 < sp_w A ∧ q < t then sp_cm A (q) (q + 1) else 0) := ite_congr (propext (by omega)) (fun _ => rfl) (fun _ => rfl)
              have e4 : (if (q) / 8 + 1 < sp_h A ∧ q < t + 1 then sp_cm A (q) (q + 8) else 0) = (if (q) / 8 + 1 < sp_h A ∧ q < t then sp_cm A (q) (q + 8) else 0) := ite_congr (propext (by omega)) (fun _ => rfl) (fun _ => rfl)
              rw [e1, e2, e3, e4]
            have ef : (if t % 8 + 1 < sp_w A then sp_gb A t (t + 1) (sp_gro A t) else sp_gro A t) q = sp_gro A t q := by
              by_cases cR : t % 8 + 1 < sp_w A
              · rw [if_pos cR, sp_gb_out cA (by omega)]
              · rw [if_neg cR]
            rw [eG, ← e0]
            by_cases cB2 : t / 8 + 1 < sp_h A
            · rw [if_pos cB2, sp_gb_out cA cC, ef]
            · rw [if_neg cB2, ef]
    · rw [if_neg ht, ih q hq]
      have n1 : ¬ (8 ≤ q ∧ q - 8 = t) := fun z => ht (sp_in_of (by omega) (by omega))
      have n2 : ¬ (0 < q % 8 ∧ q - 1 = t) := fun z => ht (sp_in_of (by omega) (by omega))
      have n3 : q ≠ t := fun z => ht (z ▸ hq)
      unfold sp_G
      have e1 : (if 8 ≤ q ∧ q - 8 < t + 1 then sp_cm A (q) (q - 8) else 0) = (if 8 ≤ q ∧ q - 8 < t then sp_cm A (q) (q - 8) else 0) := ite_congr (propext (by omega)) (fun _ => rfl) (fun _ => rfl)
      have e2 : (if 0 < (q) % 8 ∧ q - 1 < t + 1 then sp_cm A (q) (q - 1) else 0) = (if 0 < (q) % 8 ∧ q - 1 < t then sp_cm A (q) (q - 1) else 0) := ite_congr (propext (by omega)) (fun _ => rfl) (fun _ => rfl)
      have e3 : (if (q) % 8 + 1 < sp_w A ∧ q < t + 1 then sp_cm A (q) (q + 1) else 0) = (if (q) % 8 + 1 < sp_w A ∧ q < t then sp_cm A (q) (q + 1) else 0) := ite_congr (propext (by omega)) (fun _ => rfl) (fun _ => rfl)
      have e4 : (if (q) / 8 + 1 < sp_h A ∧ q < t + 1 then sp_cm A (q) (q + 8) else 0) = (if (q) / 8 + 1 < sp_h A ∧ q < t then sp_cm A (q) (q + 8) else 0) := ite_congr (propext (by omega)) (fun _ => rfl) (fun _ => rfl)
      rw [e1, e2, e3, e4]
def sp_cmo (A : pk_St) (q : Nat) : Option Nat → Nat
  | some r => sp_cm A q r
  | none => 0
def sp_gmF (A : pk_St) (q : Nat) : Nat → Nat
  | 0 => sp_s A q
  | k + 1 => sp_gmF A q k ||| sp_cmo A q (sp_nb A q k)
theorem sp_gm_eq {A : pk_St} (hA : pk_okS A) {q : Nat} (h : sp_in A q = true) : sp_gmF A q 4 = sp_gro A 48 q := by
  have hl := sp_in_lt hA h
  rw [sp_gro_G hA 48 q h]
  have e0 : sp_cmo A q (sp_nb A q 0) = (if 8 ≤ q ∧ q - 8 < 48 then sp_cm A (q) (q - 8) else 0) := by
    rw [sp_nb0 hA h]
    by_cases c : 8 ≤ q
    · rw [if_pos c, if_pos (by omega)]; rfl
    · rw [if_neg c, if_neg (by omega)]; rfl
  have e1 : sp_cmo A q (sp_nb A q 1) = (if 0 < (q) % 8 ∧ q - 1 < 48 then sp_cm A (q) (q - 1) else 0) := by
    rw [sp_nb1 hA h]
    by_cases c : 0 < q % 8
    · rw [if_pos c, if_pos (by omega)]; rfl
    · rw [if_neg c, if_neg (by omega)]; rfl
  have e2 : sp_cmo A q (sp_nb A q 2) = (if (q) % 8 + 1 < sp_w A ∧ q < 48 then sp_cm A (q) (q + 1) else 0) := by
    rw [sp_nb2 hA h]
    by_cases c : q % 8 + 1 < sp_w A
    · rw [if_pos c, if_pos (by omega)]; rfl
    · rw [if_neg c, if_neg (by omega)]; rfl
  have e3 : sp_cmo A q (sp_nb A q 3) = (if (q) / 8 + 1 < sp_h A ∧ q < 48 then sp_cm A (q) (q + 8) else 0) := by
    rw [sp_nb3 hA h]
    by_cases c : q / 8 + 1 < sp_h A
    · rw [if_pos c, if_pos (by omega)]; rfl
    · rw [if_neg c, if_neg (by omega)]; rfl
  show sp_s A q ||| sp_cmo A q (sp_nb A q 0) ||| sp_cmo A q (sp_nb A q 1) ||| sp_cmo A q (sp_nb A q 2) ||| sp_cmo A q (sp_nb A q 3) = _
  rw [e0, e1, e2, e3]
  rfl
theorem pm_At.setsC {M : pk_M} {A : pk_St} {f g : Nat → Nat} (h : pm_At M 104 0 (s_sets A f)) (e : ∀ q, q < 48 → f q = g q) : pm_At M 104 0 (s_sets A g) := pm_At.mk0 h.w h.h h.d h.o (fun i hi => h.k hi) (fun i hi => h.t hi) (fun q hq => (h.s hq).trans (by show nI (f q) = nI (g q); rw [e q hq]))

theorem sp_gj_step (A : pk_St) (f : Nat → Nat) (j : Nat) : s_set (s_sets A (fun q => if q < j then f q else sp_s A q)) j (f j) = s_sets A (fun q => if q < j + 1 then f q else sp_s A q) := by
  unfold s_set s_sets
  have e : (fun q => if q = j then f j else sp_s (A.1, A.2.1, A.2.2.1, A.2.2.2.1, A.2.2.2.2.1, A.2.2.2.2.2.1, fun q => if q < j then f q else sp_s A q) q) = (fun q => if q < j + 1 then f q else sp_s A q) := by
    funext q
    show (if q = j then f j else if q < j then f q else sp_s A q) = _
    by_cases e : q = j
    · rw [if_pos e, if_pos (by omega), e]
    · rw [if_neg e]
      by_cases c : q < j
      · rw [if_pos c, if_pos (by omega)]
      · rw [if_neg c, if_neg (by omega)]
  rw [e]

set_option maxRecDepth 100000 in
set_option maxHeartbeats 4000000 in
theorem e_X7_grow {Γ : pk_T} {M : pk_M} {L : Nat} {X : pk_X} (hR : pk_RM L M X) (hX : pk_okX X) : pk_E Γ yX7_grow cX7_grow 5 (some .int) 6 0 0 M [.ref 103] (fun r M' => r = some (.int (op_grow X).1) ∧ pk_mf M M' ∧ pk_RM L M' (op_grow X).2) := by
  have hR0 := hR
  obtain ⟨hW, hA, hU, hK, hTp, hSh⟩ := hR0
  have hok := hX.1
  have hw := hok.1
  have hh := hok.2.1
  have hs := hok.2.2.2.2.2.2.2.1
  have hn6 := hX.2.1.1
  refine pk_meth (own := RX7) (ini := false) [some (.ref 103), none, none, none, none] (by decide +kernel) rfl (by decide +kernel) rfl rfl ?_
  refine pk_iconst (v := nI 0) dX7_grow_0 (by decide) ?_
  refine pk_istore_n dX7_grow_1 rfl rfl ?_
  refine pk_iconst (v := nI 0) dX7_grow_2 (by decide) ?_
  refine pk_istore_n dX7_grow_3 rfl rfl ?_
  refine pk_wf (fun z => 48 - z.1) (fun z : Nat × pk_M => z.1 ≤ 48 ∧ pk_fr (fun q => q = 109) M z.2 ∧ ∀ q, q < z.1 → pk_I z.2 109 q = nI (sp_gro X.1 48 q)) (fun z => z.2) (fun z => [some (.ref 103), some (.int (nI (sp_gn X.1 z.1))), some (.int (nI z.1)), none, none]) ?_ (0, M) ⟨Nat.zero_le _, pk_fr.rf _ _, fun q hq => absurd hq (Nat.not_lt_zero q)⟩
  rintro ⟨j, N⟩ ⟨hj, hF, hB⟩ K1
  dsimp only at hj hF hB K1 ⊢
  have hNN := pm_now.fr hF (by omega) ⟨hW, hA, hok⟩
  have hWN := hNN.1
  have hgn : sp_gn X.1 j ≤ j := sp_c_le _ j
  refine pk_iload_n dX7_grow_4 rfl ?_
  refine pk_bipush (v := nI 48) dX7_grow_5 (by decide) ?_
  first | refine pk_geN (tgt := 103) dX7_grow_7 (by decide) (by omega) (by omega) (fun c_7 => ?_) (fun c_7 => ?_) | refine pk_icmp_ge (tgt := 103) dX7_grow_7 (by decide) (fun c_7 => ?_) (fun c_7 => ?_)
  · have e48 : j = 48 := by omega
    subst e48
    obtain ⟨hmf1, hRM⟩ := hF.ms (fun q h => by unfold pm_scr; omega) hR
    have hAN := hRM.2.1
    have hUN := hRM.2.2.1
    refine pk_iload_n dX7_grow_103 rfl ?_
    refine pk_ne0N (tgt := 110) dX7_grow_104 (by decide) (by omega) (fun c_104 => ?_) (fun c_104 => ?_)
    · refine pk_aload_n dX7_grow_110 rfl ?_
      refine pk_Vvr dX7_grow_111 ml_X7_214 yw_X7_notes yv_X7_notes (hWN.s rfl) (e_X7_notes hWN hAN hUN.1 hn6 hUN.2) rfl rfl rfl rfl rfl rfl rfl (fun M2 h2 => ?_)
      obtain ⟨hmf2, hRk⟩ := hRM.kp h2
      have hWk := hRk.1
      have hA2 := hRk.2.1
      refine pk_iconst (v := nI 0) dX7_grow_114 (by decide) ?_
      refine pk_istore_n dX7_grow_115 rfl rfl ?_
      rw [op_grow, if_neg c_104]
      refine pk_fgt (ls' := [some (.ref 103), some (.int (nI (sp_gn X.1 48))), some (.int (nI 0)), none, none]) (by repeat first | exact trivial | refine ⟨rfl, ?_⟩) ?_
      refine pk_wf (fun z => 48 - z.1) (fun z : Nat × pk_M => z.1 ≤ 48 ∧ pk_fr (fun q => q = 104) M2 z.2 ∧ pm_At z.2 104 0 (s_sets X.1 (fun q => if q < z.1 then (sp_gro X.1 48 q) else sp_s X.1 q))) (fun z => z.2) (fun z => [some (.ref 103), some (.int (nI (sp_gn X.1 48))), some (.int (nI z.1)), none, none]) ?_ (0, M2) ⟨Nat.zero_le _, pk_fr.rf _ _, fun j hj => (hA2 j hj).trans rfl⟩
      rintro ⟨j, N3⟩ ⟨hj3, hF3, hN3⟩ K
      dsimp only at hj3 hF3 hN3 K ⊢
      have hW3 := hF3.wf hWk
      refine pk_iload_n dX7_grow_116 rfl ?_
      refine pk_bipush (v := nI 48) dX7_grow_117 (by decide) ?_
      first | refine pk_geN (tgt := 143) dX7_grow_119 (by decide) (by omega) (by omega) (fun c_119 => ?_) (fun c_119 => ?_) | refine pk_icmp_ge (tgt := 143) dX7_grow_119 (by decide) (fun c_119 => ?_) (fun c_119 => ?_)
      · refine pk_iload_n dX7_grow_143 rfl ?_
        refine pk_reti dX7_grow_144 (by first | rfl | exact pk_nbi _) ?_
        have e48 : j = 48 := by omega
        subst e48
        exact ⟨rfl, (hmf1.tr hmf2).tr (hF3.ff.mono (fun q h => by omega)), hRk.st hF3.ff (hN3.setsC (fun q hq => if_pos hq))⟩
      · refine pk_aload_n dX7_grow_122 rfl ?_
        refine pk_getP dX7_grow_123 fl_X7_7 rfl (hW3.s rfl) (hW3.p rfl) ?_
        refine pk_bipush (v := nI 14) dX7_grow_126 (by decide) ?_
        refine pk_iload_n dX7_grow_128 rfl ?_
        first | refine pk_addN dX7_grow_129 ?_ | refine pk_iadd dX7_grow_129 ?_
        refine pk_aload_n dX7_grow_130 rfl ?_
        refine pk_getP dX7_grow_131 fl_X7_25 rfl (hW3.s rfl) (hW3.p rfl) ?_
        refine pk_iload_n dX7_grow_134 rfl ?_
        refine pk_aldN dX7_grow_135 (hW3.s rfl) (by omega) (by omega) (((hF3.I (by omega) j).trans (h2.1.I (by omega) j)).trans (hB j (by omega))) ?_
        refine pk_astN dX7_grow_136 (hW3.s rfl) (by omega) (by omega) (by omega) ?_
        first | refine pk_inc1 dX7_grow_137 rfl rfl ?_ | refine pk_iinc dX7_grow_137 rfl rfl rfl ?_
        refine pk_goto (tgt := 116) dX7_grow_140 (by decide) ?_
        exact K (j + 1, _) ⟨by dsimp only; omega, hF3.tr (pk_fr.sI rfl), by dsimp only; rw [← sp_gj_step X.1 (sp_gro X.1 48) j]; exact hN3.s_set _ (by omega)⟩ (by dsimp only; omega)
    · refine pk_bipush (v := -2) dX7_grow_107 (by decide) ?_
      refine pk_reti dX7_grow_109 (by first | rfl | exact pk_nbi _) ?_
      rw [op_grow, if_pos c_104]
      exact ⟨rfl, hmf1, hRM⟩
  · refine pk_aload_n dX7_grow_10 rfl ?_
    refine pk_getP dX7_grow_11 fl_X7_25 rfl (hWN.s rfl) (hWN.p rfl) ?_
    refine pk_iload_n dX7_grow_14 rfl ?_
    refine pk_aload_n dX7_grow_15 rfl ?_
    refine pk_iload_n dX7_grow_16 rfl ?_
    refine pk_Vi dX7_grow_17 ml_X7_92 yw_X7_setAt yv_X7_setAt (hWN.s rfl) (e_X7_setAt hNN (by omega)) rfl rfl rfl rfl rfl rfl rfl ?_
    refine pk_astN dX7_grow_20 (hWN.s rfl) (by omega) (by omega) (by omega) ?_
    refine pk_iconst (v := nI 0) dX7_grow_21 (by decide) ?_
    refine pk_istore_n dX7_grow_22 rfl rfl ?_
    have hsj := hs j (by omega)
    have hgl := sp_gro_lt hok 48 j (by omega)
    cases hin : sp_in X.1 j with
    | false =>
      have hN2 : pm_now L (pk_sI N 109 j (nI (sp_s X.1 j))) X.1 := pm_now.fr (hF.tr (pk_fr.sI rfl)) (by omega) ⟨hW, hA, hok⟩
      have hW2 := hN2.1
      have hF2 : pk_fr (fun q => q = 109) M (pk_sI N 109 j (nI (sp_s X.1 j))) := hF.tr (pk_fr.sI rfl)
      have hB2 : ∀ q, q < j → pk_I (pk_sI N 109 j (nI (sp_s X.1 j))) 109 q = nI (sp_gro X.1 48 q) := fun q hq => pk_gS0 (by omega) (hB q hq)
      have hv2 : pk_I (pk_sI N 109 j (nI (sp_s X.1 j))) 109 j = nI (sp_gro X.1 48 j) := pk_gS1 rfl rfl (by rw [hok.2.2.2.2.2.2.2.2 j (by omega) hin, sp_gro_out hok 48 j (by omega) hin])
      refine pk_lsq (ls' := [some (.ref 103), some (.int (nI (sp_gn X.1 j))), some (.int (nI j)), some (.int (nI 0)), none]) rfl ?_
      refine pk_iload_n dX7_grow_23 rfl ?_
      refine pk_iconst (v := nI 4) dX7_grow_24 (by decide) ?_
      refine pk_geN (a := 0) (b := 4) (tgt := 75) dX7_grow_25 (by decide) (by decide) (by decide) (fun c_25 => ?_) (fun c_25 => ?_)
      · omega
      · refine pk_aload_n dX7_grow_28 rfl ?_
        refine pk_iload_n dX7_grow_29 rfl ?_
        refine pk_Vi dX7_grow_30 ml_X7_88 yw_X7_isIn yv_X7_isIn (hW2.s rfl) (e_X7_isIn hN2 (by omega)) rfl rfl rfl rfl rfl rfl rfl ?_
        first | refine pk_eqb (tgt := 75) dX7_grow_33 (by decide) (fun c_33 => ?_) (fun c_33 => ?_) | refine pk_eq0N (tgt := 75) dX7_grow_33 (by decide) (by omega) (fun c_33 => ?_) (fun c_33 => ?_) | refine pk_if_eq (tgt := 75) dX7_grow_33 (by decide) (fun c_33 => ?_) (fun c_33 => ?_)
        · refine pk_iload_n dX7_grow_75 rfl ?_
          refine pk_aload_n dX7_grow_76 rfl ?_
          refine pk_getP dX7_grow_77 fl_X7_25 rfl (hW2.s rfl) (hW2.p rfl) ?_
          refine pk_iload_n dX7_grow_80 rfl ?_
          refine pk_aldN dX7_grow_81 (hW2.s rfl) (by omega) (by omega) hv2 ?_
          refine pk_aload_n dX7_grow_82 rfl ?_
          refine pk_iload_n dX7_grow_83 rfl ?_
          refine pk_Vi dX7_grow_84 ml_X7_92 yw_X7_setAt yv_X7_setAt (hW2.s rfl) (e_X7_setAt hN2 (by omega)) rfl rfl rfl rfl rfl rfl rfl ?_
          first | refine pk_eqN (tgt := 94) dX7_grow_87 (by decide) (by omega) (by omega) (fun c_87 => ?_) (fun c_87 => ?_) | refine pk_icmp_eq (tgt := 94) dX7_grow_87 (by decide) (fun c_87 => ?_) (fun c_87 => ?_)
          · refine pk_iconst (v := nI 0) dX7_grow_94 (by decide) ?_
            first | refine pk_addN dX7_grow_95 ?_ | refine pk_iadd dX7_grow_95 ?_
            refine pk_istore_n dX7_grow_96 rfl rfl ?_
            first | refine pk_inc1 dX7_grow_97 rfl rfl ?_ | refine pk_iinc dX7_grow_97 rfl rfl rfl ?_
            refine pk_goto (tgt := 4) dX7_grow_100 (by decide) ?_
            have e1 : sp_gn X.1 (j + 1) = if !((sp_gro X.1 48 j) == sp_s X.1 j) then sp_gn X.1 j + 1 else sp_gn X.1 j := rfl
            rw [beq_iff_eq.mpr c_87, Bool.not_true, if_neg (by decide)] at e1
            have K2 := K1 (j + 1, (pk_sI N 109 j (nI (sp_s X.1 j)))) ⟨by dsimp only; omega, hF2, fun q hq => by
              dsimp only at hq
              by_cases e : q = j
              · rw [e]; exact hv2
              · exact hB2 q (by omega)⟩ (by dsimp only; omega)
            dsimp only at K2
            rw [e1] at K2
            exact pk_fgt (by repeat first | exact trivial | refine ⟨rfl, ?_⟩) K2
          · refine pk_iconst (v := nI 1) dX7_grow_90 (by decide) ?_
            refine pk_goto (tgt := 95) dX7_grow_91 (by decide) ?_
            first | refine pk_addN dX7_grow_95 ?_ | refine pk_iadd dX7_grow_95 ?_
            refine pk_istore_n dX7_grow_96 rfl rfl ?_
            first | refine pk_inc1 dX7_grow_97 rfl rfl ?_ | refine pk_iinc dX7_grow_97 rfl rfl rfl ?_
            refine pk_goto (tgt := 4) dX7_grow_100 (by decide) ?_
            have e1 : sp_gn X.1 (j + 1) = if !((sp_gro X.1 48 j) == sp_s X.1 j) then sp_gn X.1 j + 1 else sp_gn X.1 j := rfl
            rw [beq_eq_false_iff_ne.mpr c_87, Bool.not_false, if_pos rfl] at e1
            have K2 := K1 (j + 1, (pk_sI N 109 j (nI (sp_s X.1 j)))) ⟨by dsimp only; omega, hF2, fun q hq => by
              dsimp only at hq
              by_cases e : q = j
              · rw [e]; exact hv2
              · exact hB2 q (by omega)⟩ (by dsimp only; omega)
            dsimp only at K2
            rw [e1] at K2
            exact pk_fgt (by repeat first | exact trivial | refine ⟨rfl, ?_⟩) K2
        · exact absurd (hin.symm.trans c_33) (by decide)
    | true =>
      refine pk_wf (fun z => 4 - z.1) (fun z : Nat × pk_M => z.1 ≤ 4 ∧ pk_fr (fun q => q = 109) M z.2 ∧ (∀ q, q < j → pk_I z.2 109 q = nI (sp_gro X.1 48 q)) ∧ pk_I z.2 109 j = nI (sp_gmF X.1 j z.1)) (fun z => z.2) (fun z => [some (.ref 103), some (.int (nI (sp_gn X.1 j))), some (.int (nI j)), some (.int (nI z.1)), none]) ?_ (0, (pk_sI N 109 j (nI (sp_s X.1 j)))) ⟨Nat.zero_le _, hF.tr (pk_fr.sI rfl), fun q hq => pk_gS0 (by omega) (hB q hq), pk_gS1 rfl rfl rfl⟩
      rintro ⟨k, N2⟩ ⟨hk, hF2, hB2, hv2⟩ K
      dsimp only at hk hF2 hB2 hv2 K ⊢
      have hN2 := pm_now.fr hF2 (by omega) ⟨hW, hA, hok⟩
      have hW2 := hN2.1
      refine pk_iload_n dX7_grow_23 rfl ?_
      refine pk_iconst (v := nI 4) dX7_grow_24 (by decide) ?_
      first | refine pk_geN (tgt := 75) dX7_grow_25 (by decide) (by omega) (by omega) (fun c_25 => ?_) (fun c_25 => ?_) | refine pk_icmp_ge (tgt := 75) dX7_grow_25 (by decide) (fun c_25 => ?_) (fun c_25 => ?_)
      · have hk4 : k = 4 := by omega
        subst hk4
        rw [sp_gm_eq hok hin] at hv2
        refine pk_iload_n dX7_grow_75 rfl ?_
        refine pk_aload_n dX7_grow_76 rfl ?_
        refine pk_getP dX7_grow_77 fl_X7_25 rfl (hW2.s rfl) (hW2.p rfl) ?_
        refine pk_iload_n dX7_grow_80 rfl ?_
        refine pk_aldN dX7_grow_81 (hW2.s rfl) (by omega) (by omega) hv2 ?_
        refine pk_aload_n dX7_grow_82 rfl ?_
        refine pk_iload_n dX7_grow_83 rfl ?_
        refine pk_Vi dX7_grow_84 ml_X7_92 yw_X7_setAt yv_X7_setAt (hW2.s rfl) (e_X7_setAt hN2 (by omega)) rfl rfl rfl rfl rfl rfl rfl ?_
        first | refine pk_eqN (tgt := 94) dX7_grow_87 (by decide) (by omega) (by omega) (fun c_87 => ?_) (fun c_87 => ?_) | refine pk_icmp_eq (tgt := 94) dX7_grow_87 (by decide) (fun c_87 => ?_) (fun c_87 => ?_)
        · refine pk_iconst (v := nI 0) dX7_grow_94 (by decide) ?_
          first | refine pk_addN dX7_grow_95 ?_ | refine pk_iadd dX7_grow_95 ?_
          refine pk_istore_n dX7_grow_96 rfl rfl ?_
          first | refine pk_inc1 dX7_grow_97 rfl rfl ?_ | refine pk_iinc dX7_grow_97 rfl rfl rfl ?_
          refine pk_goto (tgt := 4) dX7_grow_100 (by decide) ?_
          have e1 : sp_gn X.1 (j + 1) = if !((sp_gro X.1 48 j) == sp_s X.1 j) then sp_gn X.1 j + 1 else sp_gn X.1 j := rfl
          rw [beq_iff_eq.mpr c_87, Bool.not_true, if_neg (by decide)] at e1
          have K2 := K1 (j + 1, N2) ⟨by dsimp only; omega, hF2, fun q hq => by
            dsimp only at hq
            by_cases e : q = j
            · rw [e]; exact hv2
            · exact hB2 q (by omega)⟩ (by dsimp only; omega)
          dsimp only at K2
          rw [e1] at K2
          exact pk_fgt (by repeat first | exact trivial | refine ⟨rfl, ?_⟩) K2
        · refine pk_iconst (v := nI 1) dX7_grow_90 (by decide) ?_
          refine pk_goto (tgt := 95) dX7_grow_91 (by decide) ?_
          first | refine pk_addN dX7_grow_95 ?_ | refine pk_iadd dX7_grow_95 ?_
          refine pk_istore_n dX7_grow_96 rfl rfl ?_
          first | refine pk_inc1 dX7_grow_97 rfl rfl ?_ | refine pk_iinc dX7_grow_97 rfl rfl rfl ?_
          refine pk_goto (tgt := 4) dX7_grow_100 (by decide) ?_
          have e1 : sp_gn X.1 (j + 1) = if !((sp_gro X.1 48 j) == sp_s X.1 j) then sp_gn X.1 j + 1 else sp_gn X.1 j := rfl
          rw [beq_eq_false_iff_ne.mpr c_87, Bool.not_false, if_pos rfl] at e1
          have K2 := K1 (j + 1, N2) ⟨by dsimp only; omega, hF2, fun q hq => by
            dsimp only at hq
            by_cases e : q = j
            · rw [e]; exact hv2
            · exact hB2 q (by omega)⟩ (by dsimp only; omega)
          dsimp only at K2
          rw [e1] at K2
          exact pk_fgt (by repeat first | exact trivial | refine ⟨rfl, ?_⟩) K2
      · refine pk_aload_n dX7_grow_28 rfl ?_
        refine pk_iload_n dX7_grow_29 rfl ?_
        refine pk_Vi dX7_grow_30 ml_X7_88 yw_X7_isIn yv_X7_isIn (hW2.s rfl) (e_X7_isIn hN2 (by omega)) rfl rfl rfl rfl rfl rfl rfl ?_
        first | refine pk_eqb (tgt := 75) dX7_grow_33 (by decide) (fun c_33 => ?_) (fun c_33 => ?_) | refine pk_eq0N (tgt := 75) dX7_grow_33 (by decide) (by omega) (fun c_33 => ?_) (fun c_33 => ?_) | refine pk_if_eq (tgt := 75) dX7_grow_33 (by decide) (fun c_33 => ?_) (fun c_33 => ?_)
        · exact absurd (hin.symm.trans c_33) (by decide)
        · refine pk_aload_n dX7_grow_36 rfl ?_
          refine pk_iload_n dX7_grow_37 rfl ?_
          refine pk_iload_n dX7_grow_38 rfl ?_
          refine pk_Vi dX7_grow_39 ml_X7_104 yw_X7_beside yv_X7_beside (hW2.s rfl) (e_X7_beside hN2 hin (by omega)) rfl rfl rfl rfl rfl rfl rfl ?_
          have e2 : sp_gmF X.1 j (k + 1) = sp_gmF X.1 j k ||| sp_cmo X.1 j (sp_nb X.1 j k) := rfl
          rcases hnb : sp_nb X.1 j k with _ | z
          · refine pk_istore dX7_grow_42 rfl rfl ?_
            refine pk_aload_n dX7_grow_44 rfl ?_
            refine pk_getP dX7_grow_45 fl_X7_25 rfl (hW2.s rfl) (hW2.p rfl) ?_
            refine pk_iload_n dX7_grow_48 rfl ?_
            refine pk_dup2 dX7_grow_49 rfl rfl ?_
            refine pk_aldN dX7_grow_50 (hW2.s rfl) (by omega) (by omega) hv2 ?_
            refine pk_iload dX7_grow_51 rfl ?_
            refine pk_if_lt (tgt := 66) dX7_grow_53 (by decide) (fun c_53 => ?_) (fun c_53 => ?_)
            · refine pk_iconst (v := nI 0) dX7_grow_66 (by decide) ?_
              first | refine pk_orNN dX7_grow_67 ?_ | refine pk_ior dX7_grow_67 ?_
              refine pk_astN dX7_grow_68 (hW2.s rfl) (by omega) (by omega) (by omega) ?_
              first | refine pk_inc1 dX7_grow_69 rfl rfl ?_ | refine pk_iinc dX7_grow_69 rfl rfl rfl ?_
              refine pk_goto (tgt := 23) dX7_grow_72 (by decide) ?_
              rw [hnb] at e2
              exact pk_fgt (by repeat first | exact trivial | refine ⟨rfl, ?_⟩) (K (k + 1, _) ⟨by dsimp only; omega, hF2.tr (pk_fr.sI rfl), fun q hq => pk_gS0 (by omega) (hB2 q hq), pk_gS1 rfl rfl (by rw [e2]; rfl)⟩ (by dsimp only; omega))
            · exact absurd (show sp_on none < 0 by decide) c_53
          · have hz := (sp_nb_in hok hin (by omega) hnb).1
            have hz48 := (sp_in_lt hok hz).2.2
            refine pk_stq (st' := [.int (nI z)]) rfl ?_
            refine pk_istore dX7_grow_42 rfl rfl ?_
            refine pk_aload_n dX7_grow_44 rfl ?_
            refine pk_getP dX7_grow_45 fl_X7_25 rfl (hW2.s rfl) (hW2.p rfl) ?_
            refine pk_iload_n dX7_grow_48 rfl ?_
            refine pk_dup2 dX7_grow_49 rfl rfl ?_
            refine pk_aldN dX7_grow_50 (hW2.s rfl) (by omega) (by omega) hv2 ?_
            refine pk_iload dX7_grow_51 rfl ?_
            refine pk_if_lt (tgt := 66) dX7_grow_53 (by decide) (fun c_53 => ?_) (fun c_53 => ?_)
            · exact absurd c_53 (nI_pos (by omega))
            · refine pk_aload_n dX7_grow_56 rfl ?_
              refine pk_iload_n dX7_grow_57 rfl ?_
              refine pk_iload dX7_grow_58 rfl ?_
              refine pk_Vi dX7_grow_60 ml_X7_217 yw_X7_comesTo yv_X7_comesTo (hW2.s rfl) (e_X7_comesTo hN2 (by omega) (by omega)) rfl rfl rfl rfl rfl rfl rfl ?_
              refine pk_goto (tgt := 67) dX7_grow_63 (by decide) ?_
              first | refine pk_orNN dX7_grow_67 ?_ | refine pk_ior dX7_grow_67 ?_
              refine pk_astN dX7_grow_68 (hW2.s rfl) (by omega) (by omega) (by omega) ?_
              first | refine pk_inc1 dX7_grow_69 rfl rfl ?_ | refine pk_iinc dX7_grow_69 rfl rfl rfl ?_
              refine pk_goto (tgt := 23) dX7_grow_72 (by decide) ?_
              rw [hnb] at e2
              exact pk_fgt (by repeat first | exact trivial | refine ⟨rfl, ?_⟩) (K (k + 1, _) ⟨by dsimp only; omega, hF2.tr (pk_fr.sI rfl), fun q hq => pk_gS0 (by omega) (hB2 q hq), pk_gS1 rfl rfl (by rw [e2]; rfl)⟩ (by dsimp only; omega))
