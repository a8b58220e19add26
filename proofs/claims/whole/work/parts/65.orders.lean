/-! The model: orders by their figures. -/
def sp_L120 : List Nat := [1234, 1243, 1324, 1342, 1423, 1432, 2134, 2143, 2314, 2341, 2413, 2431, 3124, 3142, 3214, 3241, 3412, 3421, 4123, 4132, 4213, 4231, 4312, 4321, 10234, 10243, 10324, 10342, 10423, 10432, 12034, 12043, 12304, 12340, 12403, 12430, 13024, 13042, 13204, 13240, 13402, 13420, 14023, 14032, 14203, 14230, 14302, 14320, 20134, 20143, 20314, 20341, 20413, 20431, 21034, 21043, 21304, 21340, 21403, 21430, 23014, 23041, 23104, 23140, 23401, 23410, 24013, 24031, 24103, 24130, 24301, 24310, 30124, 30142, 30214, 30241, 30412, 30421, 31024, 31042, 31204, 31240, 31402, 31420, 32014, 32041, 32104, 32140, 32401, 32410, 34012, 34021, 34102, 34120, 34201, 34210, 40123, 40132, 40213, 40231, 40312, 40321, 41023, 41032, 41203, 41230, 41302, 41320, 42013, 42031, 42103, 42130, 42301, 42310, 43012, 43021, 43102, 43120, 43201, 43210]
def sp_ord (j : Nat) : Nat := sp_L120.getD j 0
set_option maxRecDepth 100000 in
theorem sp_ord_wo : ∀ j, j < 120 → sp_fig (sp_wo j) = sp_ord j := by decide +kernel
set_option maxRecDepth 100000 in
theorem sp_ord_up : ∀ j, j < 119 → sp_ord j < sp_ord (j + 1) := by decide +kernel
set_option maxRecDepth 100000 in
theorem sp_ord_is : ∀ j, j < 120 → sp_isO (sp_ord j) = true ∧ 1234 ≤ sp_ord j ∧ sp_ord j ≤ 43210 := by decide +kernel
set_option maxRecDepth 100000 in
theorem sp_ord_all : ∀ a, a < 5 → ∀ b, b < 5 → ∀ c, c < 5 → ∀ d, d < 5 → ∀ e, e < 5 → (!(a != b && a != c && a != d && a != e && b != c && b != d && b != e && c != d && c != e && d != e) || (sp_L120.contains ((((a * 10 + b) * 10 + c) * 10 + d) * 10 + e) && ((2 ^ e ||| 2 ^ d ||| 2 ^ c ||| 2 ^ b ||| 2 ^ a) == 31) && decide (((((a * 10 + b) * 10 + c) * 10 + d) * 10 + e) ≤ 43210))) = true := by decide +kernel
theorem sp_ord_lt {i j : Nat} (h : i < j) (hj : j < 120) : sp_ord i < sp_ord j := by
  obtain ⟨k, rfl⟩ : ∃ k, j = i + 1 + k := ⟨j - i - 1, by omega⟩
  induction k with
  | zero => exact sp_ord_up i (by omega)
  | succ k ih => exact Nat.lt_trans (ih (by omega) (by omega)) (sp_ord_up (i + 1 + k) (by omega))
theorem sp_ord_inj {i j : Nat} (hi : i < 120) (hj : j < 120) (h : sp_ord i = sp_ord j) : i = j := by
  rcases Nat.lt_trichotomy i j with z | z | z
  · have := sp_ord_lt z hj
    omega
  · exact z
  · have := sp_ord_lt z hi
    omega
theorem sp_dis5 {o : Nat → Nat} (h : ∀ i, i < 5 → ∀ j, j < 5 → o i = o j → i = j) : (o 0 != o 1 && o 0 != o 2 && o 0 != o 3 && o 0 != o 4 && o 1 != o 2 && o 1 != o 3 && o 1 != o 4 && o 2 != o 3 && o 2 != o 4 && o 3 != o 4) = true := by
  have key : ∀ i, i < 5 → ∀ j, j < 5 → i ≠ j → (o i != o j) = true := fun i hi j hj hne => by
    rw [bne_iff_ne]
    exact fun e => hne (h i hi j hj e)
  rw [key 0 (by decide) 1 (by decide) (by decide), key 0 (by decide) 2 (by decide) (by decide), key 0 (by decide) 3 (by decide) (by decide), key 0 (by decide) 4 (by decide) (by decide), key 1 (by decide) 2 (by decide) (by decide), key 1 (by decide) 3 (by decide) (by decide), key 1 (by decide) 4 (by decide) (by decide), key 2 (by decide) 3 (by decide) (by decide), key 2 (by decide) 4 (by decide) (by decide), key 3 (by decide) 4 (by decide) (by decide)]
  rfl
theorem sp_ord_perm {o : Nat → Nat} (h5 : ∀ i, i < 5 → o i < 5) (h : ∀ i, i < 5 → ∀ j, j < 5 → o i = o j → i = j) : ∃ j, j < 120 ∧ sp_ord j = sp_fig o := by
  have h1 := sp_ord_all (o 0) (h5 0 (by decide)) (o 1) (h5 1 (by decide)) (o 2) (h5 2 (by decide)) (o 3) (h5 3 (by decide)) (o 4) (h5 4 (by decide))
  rw [sp_dis5 h, Bool.not_true, Bool.false_or, Bool.and_eq_true, Bool.and_eq_true] at h1
  have h2 := List.elem_iff.mp h1.1.1
  obtain ⟨j, hj⟩ := List.getElem?_of_mem h2
  obtain ⟨hj1, hj2⟩ := List.getElem?_eq_some_iff.mp hj
  refine ⟨j, hj1, ?_⟩
  unfold sp_ord
  rw [List.getD_eq_getElem?_getD, hj, sp_fig_eq]
  simp
theorem sp_isO_ord {n : Nat} (h : sp_isO n = true) : ∃ j, j < 120 ∧ sp_ord j = n := by
  obtain ⟨h1, h2⟩ := sp_isO_dig h
  obtain ⟨j, hj, e⟩ := sp_ord_perm (o := fun k => sp_dig n (4 - k)) (fun i hi => h1 _ (by omega)) (fun i hi j hj e => by have := h2 _ (by omega) _ (by omega) e; omega)
  refine ⟨j, hj, e.trans ?_⟩
  unfold sp_isO at h
  rw [Bool.and_eq_true, decide_eq_true_eq] at h
  rw [sp_fig_eq]
  show ((((0 * 10 + n / 10000 % 10) * 10 + n / 1000 % 10) * 10 + n / 100 % 10) * 10 + n / 10 % 10) * 10 + n / 1 % 10 = n
  have := h.1
  omega
/-- the orders above a number that leave all as it is -/
def sp_cO (A : pk_St) (v : Nat) : Nat := sp_c (fun j => decide (v < sp_ord j) && sp_ao A (sp_sets A) j) 120
theorem sp_lv_ao (A : pk_St) {j : Nat} (hj : j < 120) : sp_lv A (sp_ord j) = sp_ao A (sp_sets A) j := by
  unfold sp_lv sp_ao
  congr 1
  refine sp_any_congr (fun s _ => ?_)
  unfold sp_lvF
  rw [← sp_ord_wo j hj, sp_look_congr (fun k hk => sp_fig_dig (oo := sp_wo j) (fun i _ => sp_wo_lt j i) hk)]
theorem sp_cO_hit {A : pk_St} {v j : Nat} (hv : 0 < v) (hj : j < 120) (e : sp_ord j = v) (h : sp_ao A (sp_sets A) j = true) : sp_cO A (v - 1) = sp_cO A v + 1 := by
  unfold sp_cO
  rw [← sp_c_add hj (R := fun j => decide (v < sp_ord j) && sp_ao A (sp_sets A) j) (by rw [decide_eq_false (by omega), Bool.false_and])]
  refine sp_c_congr (fun i hi => ?_)
  by_cases ei : i = j
  · subst ei
    rw [decide_eq_true (by omega), h, beq_self_eq_true]
    rfl
  · have hne : sp_ord i ≠ v := fun z => ei (sp_ord_inj hi hj (z.trans e.symm))
    rw [beq_eq_false_iff_ne.mpr ei, Bool.false_or]
    congr 1
    exact decide_eq_decide.mpr (by omega)
theorem sp_cO_miss {A : pk_St} {v : Nat} (hv : 0 < v) (h : ∀ j, j < 120 → sp_ord j = v → sp_ao A (sp_sets A) j = false) : sp_cO A (v - 1) = sp_cO A v := by
  unfold sp_cO
  refine sp_c_congr (fun i hi => ?_)
  by_cases e : sp_ord i = v
  · rw [h i hi e, Bool.and_false, Bool.and_false]
  · congr 1
    exact decide_eq_decide.mpr (by omega)
def sp_fR (A : pk_St) (v : Nat) (x : Int32) : Prop := (x = -4 ∧ ∀ j, j < 120 → v < sp_ord j → sp_ao A (sp_sets A) j = false) ∨ ∃ j0, j0 < 120 ∧ v < sp_ord j0 ∧ sp_ao A (sp_sets A) j0 = true ∧ x = nI (sp_ord j0) ∧ ∀ j, j < j0 → v < sp_ord j → sp_ao A (sp_sets A) j = false
theorem sp_fR_hit {A : pk_St} {v j : Nat} (hv : 0 < v) (hj : j < 120) (e : sp_ord j = v) (h : sp_ao A (sp_sets A) j = true) : sp_fR A (v - 1) (nI v) := by
  refine Or.inr ⟨j, hj, by omega, h, by rw [e], fun i hi hlt => ?_⟩
  have := sp_ord_lt hi hj
  omega
theorem sp_fR_miss {A : pk_St} {v : Nat} {x : Int32} (hv : 0 < v) (h : ∀ j, j < 120 → sp_ord j = v → sp_ao A (sp_sets A) j = false) (hf : sp_fR A v x) : sp_fR A (v - 1) x := by
  rcases hf with ⟨h1, h2⟩ | ⟨j0, h1, h2, h3, h4, h5⟩
  · refine Or.inl ⟨h1, fun j hj hlt => ?_⟩
    by_cases e : sp_ord j = v
    · exact h j hj e
    · exact h2 j hj (by omega)
  · refine Or.inr ⟨j0, h1, by omega, h3, h4, fun j hj hlt => ?_⟩
    by_cases e : sp_ord j = v
    · exact h j (by omega) e
    · exact h5 j hj (by omega)
theorem sp_fR_end {A : pk_St} (hA : pk_okS A) {x : Int32} (h : sp_fR A 1233 x) : x = nI (sp_fO A) := by
  obtain ⟨j, hj, e⟩ := sp_ord_perm hA.2.2.2.2.2.1 hA.2.2.2.2.2.2.1
  have hao : sp_ao A (sp_sets A) j = true := by
    rw [← sp_lv_ao A hj, e]
    unfold sp_lv
    cases hn : sp_any (sp_lvF A (sp_fig (sp_o A))) 32 with
    | false => rfl
    | true =>
      obtain ⟨s, _, h2⟩ := sp_any_iff.mp hn
      unfold sp_lvF at h2
      rw [sp_look_fig hA] at h2
      rw [show (sp_look (sp_k A) (sp_t A) (sp_o A) s == sp_lookA A s) = true from beq_self_eq_true _, Bool.not_true, Bool.and_false] at h2
      cases h2
  rcases h with ⟨h1, h2⟩ | ⟨j0, h1, h2, h3, h4, h5⟩
  · have := h2 j hj (by have := (sp_ord_is j hj).2.1; omega)
    rw [hao] at this
    cases this
  · have hany : sp_any (sp_ao A (sp_sets A)) 120 = true := sp_any_true h1 h3
    obtain ⟨g1, g2⟩ := sp_fst_spec hany
    have e0 : sp_fst (sp_ao A (sp_sets A)) 120 = j0 := by
      rcases Nat.lt_trichotomy (sp_fst (sp_ao A (sp_sets A)) 120) j0 with z | z | z
      · have := h5 _ z (by have := (sp_ord_is _ (Nat.lt_trans z h1)).2.1; omega)
        rw [g1] at this
        cases this
      · exact z
      · rw [sp_any_true z h3] at g2
        cases g2
    unfold sp_fO
    rw [hany, if_pos rfl, e0, sp_ord_wo j0 h1]
    exact h4
theorem sp_cO_end (A : pk_St) : sp_cO A 1233 = sp_c (sp_ao A (sp_sets A)) 120 := by
  unfold sp_cO
  refine sp_c_congr (fun i hi => ?_)
  rw [decide_eq_true (by have := (sp_ord_is i hi).2.1; omega), Bool.true_and]
theorem sp_cO_0 (A : pk_St) : sp_cO A 43210 = 0 := by
  unfold sp_cO
  refine (sp_c_congr (g := fun _ => false) (fun i hi => ?_)).trans (sp_c_zero 120)
  rw [decide_eq_false (by have := (sp_ord_is i hi).2.2; omega), Bool.false_and]
theorem sp_fR_0 (A : pk_St) : sp_fR A 43210 (-4) := Or.inl ⟨rfl, fun j hj hlt => by have := (sp_ord_is j hj).2.2; omega⟩
theorem sp_isOI_n {v : Nat} (hv : v < 2 ^ 31) : sp_isOI (nI v) = sp_isO v := by
  unfold sp_isOI
  rw [nI_clamp hv, decide_eq_true (nI_pos' hv), Bool.true_and]
theorem pm_dec {n m : Nat} (h : m + 1 = n) : nI n + Int32.ofInt (-1) = nI m := by
  rw [← h]
  have e := pk_m1n (n := m + 1) (by omega)
  rw [Nat.add_sub_cancel] at e
  exact e
theorem sp_no_ord {A : pk_St} {v : Nat} (h : sp_isO v = false) : ∀ j, j < 120 → sp_ord j = v → sp_ao A (sp_sets A) j = false := fun j hj e => by
  have := (sp_ord_is j hj).1
  rw [e, h] at this
  cases this

set_option maxRecDepth 100000 in
set_option maxHeartbeats 4000000 in
theorem e_X7_orders {Γ : pk_T} {M : pk_M} {L : Nat} {A : pk_St} (hN : pm_now L M A) (hL : ∀ s, s < 32 → pk_I M 105 s = nI (sp_lookA A s)) {w : Nat} (hw2 : w < 2) : pk_E Γ yX7_orders cX7_orders 5 (some .int) 5 0 0 M [.ref 103, .int (nI w)] (fun r M' => r = some (.int (if w = 0 then nI (sp_c (sp_ao A (sp_sets A)) 120) else nI (sp_fO A))) ∧ M' = M) := by
  obtain ⟨hW, hA, hok⟩ := hN
  have hw := hok.1
  have hh := hok.2.1
  have hs := hok.2.2.2.2.2.2.2.1
  refine pk_meth (own := RX7) (ini := false) [some (.ref 103), some (.int (nI w)), none, none, none] (by decide +kernel) rfl (by decide +kernel) rfl rfl ?_
  refine pk_iconst (v := nI 0) dX7_orders_0 (by decide) ?_
  refine pk_istore_n dX7_orders_1 rfl rfl ?_
  refine pk_bipush (v := -4) dX7_orders_2 (by decide) ?_
  refine pk_istore_n dX7_orders_4 rfl rfl ?_
  refine pk_ldc dX7_orders_5 kc_X7_171 ?_
  refine pk_istore dX7_orders_7 rfl rfl ?_
  refine pk_lsq (ls' := [some (.ref 103), some (.int (nI w)), some (.int (nI (sp_cO A (43210 - 0)))), some (.int (-4)), some (.int (nI (43210 - 0)))]) (by rw [show 43210 - 0 = 43210 from rfl, sp_cO_0]; rfl) ?_
  refine pk_wf (α := Nat × Int32) (fun z => 41977 - z.1) (fun z => z.1 ≤ 41977 ∧ sp_fR A (43210 - z.1) z.2) (fun _ => M) (fun z => [some (.ref 103), some (.int (nI w)), some (.int (nI (sp_cO A (43210 - z.1)))), some (.int z.2), some (.int (nI (43210 - z.1)))]) ?_ (0, -4) ⟨Nat.zero_le _, sp_fR_0 A⟩
  rintro ⟨t, x⟩ ⟨ht, h2⟩ K
  dsimp only at ht h2 K ⊢
  have hv0 : 0 < 43210 - t := by omega
  have hc120 : sp_cO A (43210 - t) ≤ 120 := sp_c_le _ 120
  refine pk_iload dX7_orders_9 rfl ?_
  refine pk_sipush (v := nI 1234) dX7_orders_11 (by decide) ?_
  first | refine pk_ltN (tgt := 46) dX7_orders_14 (by decide) (by omega) (by omega) (fun c_14 => ?_) (fun c_14 => ?_) | refine pk_icmp_lt (tgt := 46) dX7_orders_14 (by decide) (fun c_14 => ?_) (fun c_14 => ?_)
  · have et : 43210 - t = 1233 := by omega
    rw [et] at h2 ⊢
    rw [sp_cO_end]
    have hx := sp_fR_end hok h2
    refine pk_iload_n dX7_orders_46 rfl ?_
    refine pk_ne0N (tgt := 54) dX7_orders_47 (by decide) (by omega) (fun c_47 => ?_) (fun c_47 => ?_)
    · refine pk_iload_n dX7_orders_54 rfl ?_
      refine pk_reti dX7_orders_55 (by first | rfl | exact pk_nbi _) ?_
      rw [if_neg c_47, hx]
      exact ⟨rfl, rfl⟩
    · refine pk_iload_n dX7_orders_50 rfl ?_
      refine pk_goto (tgt := 55) dX7_orders_51 (by decide) ?_
      refine pk_reti dX7_orders_55 (by first | rfl | exact pk_nbi _) ?_
      rw [if_pos c_47]
      exact ⟨rfl, rfl⟩
  · refine pk_iload dX7_orders_17 rfl ?_
    refine pk_Si dX7_orders_19 ml_X7_172 yw_X7_isOrder ys_X7_isOrder (e_X7_isOrder _) rfl rfl rfl rfl rfl rfl rfl ?_
    rw [sp_isOI_n (show 43210 - t < 2 ^ 31 by omega)]
    first | refine pk_eqb (tgt := 40) dX7_orders_22 (by decide) (fun c_22 => ?_) (fun c_22 => ?_) | refine pk_eq0N (tgt := 40) dX7_orders_22 (by decide) (by omega) (fun c_22 => ?_) (fun c_22 => ?_) | refine pk_if_eq (tgt := 40) dX7_orders_22 (by decide) (fun c_22 => ?_) (fun c_22 => ?_)
    · refine pk_iinc dX7_orders_40 rfl (pm_dec (m := 43210 - (t + 1)) (by omega)) rfl ?_
      refine pk_goto (tgt := 9) dX7_orders_43 (by decide) ?_
      have hno := sp_no_ord (A := A) c_22
      have e1 := sp_cO_miss hv0 hno
      have e2 := sp_fR_miss hv0 hno h2
      rw [show 43210 - t - 1 = 43210 - (t + 1) by omega] at e1 e2
      have K2 := K (t + 1, x) ⟨by dsimp only; omega, e2⟩ (by dsimp only; omega)
      dsimp only at K2
      rw [e1] at K2
      exact K2
    · have hdg := (sp_isO_dig c_22).1
      refine pk_aload_n dX7_orders_25 rfl ?_
      refine pk_iload dX7_orders_26 rfl ?_
      refine pk_Vi dX7_orders_28 ml_X7_175 yw_X7_leaves yv_X7_leaves (hW.s rfl) (e_X7_leaves ⟨hW, hA, hok⟩ hL (by omega) hdg) rfl rfl rfl rfl rfl rfl rfl ?_
      first | refine pk_eqb (tgt := 40) dX7_orders_31 (by decide) (fun c_31 => ?_) (fun c_31 => ?_) | refine pk_eq0N (tgt := 40) dX7_orders_31 (by decide) (by omega) (fun c_31 => ?_) (fun c_31 => ?_) | refine pk_if_eq (tgt := 40) dX7_orders_31 (by decide) (fun c_31 => ?_) (fun c_31 => ?_)
      · refine pk_iinc dX7_orders_40 rfl (pm_dec (m := 43210 - (t + 1)) (by omega)) rfl ?_
        refine pk_goto (tgt := 9) dX7_orders_43 (by decide) ?_
        obtain ⟨j, hj, ej⟩ := sp_isO_ord c_22
        have hno : ∀ i, i < 120 → sp_ord i = 43210 - t → sp_ao A (sp_sets A) i = false := fun i hi ei => by
          rw [← ei, sp_lv_ao A hi] at c_31
          exact c_31
        have e1 := sp_cO_miss hv0 hno
        have e2 := sp_fR_miss hv0 hno h2
        rw [show 43210 - t - 1 = 43210 - (t + 1) by omega] at e1 e2
        have K2 := K (t + 1, x) ⟨by dsimp only; omega, e2⟩ (by dsimp only; omega)
        dsimp only at K2
        rw [e1] at K2
        exact K2
      · first | refine pk_inc1 dX7_orders_34 rfl rfl ?_ | refine pk_iinc dX7_orders_34 rfl rfl rfl ?_
        refine pk_iload dX7_orders_37 rfl ?_
        refine pk_istore_n dX7_orders_39 rfl rfl ?_
        refine pk_iinc dX7_orders_40 rfl (pm_dec (m := 43210 - (t + 1)) (by omega)) rfl ?_
        refine pk_goto (tgt := 9) dX7_orders_43 (by decide) ?_
        obtain ⟨j, hj, ej⟩ := sp_isO_ord c_22
        have hao : sp_ao A (sp_sets A) j = true := by
          rw [← ej, sp_lv_ao A hj] at c_31
          exact c_31
        have e1 := sp_cO_hit hv0 hj ej hao
        have e2 := sp_fR_hit hv0 hj ej hao
        rw [show 43210 - t - 1 = 43210 - (t + 1) by omega] at e1 e2
        have K2 := K (t + 1, nI (43210 - t)) ⟨by dsimp only; omega, e2⟩ (by dsimp only; omega)
        dsimp only at K2
        rw [e1] at K2
        exact K2
