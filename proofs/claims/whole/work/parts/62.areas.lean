/-! The model: places come to know the first place of their area. -/
def sp_lbF (A : pk_St) (l : Nat → Nat) (p : Nat) : Nat → Nat
  | 0 => l p
  | k + 1 => match sp_nb A p k with
    | some q => if sp_s A q = sp_s A p ∧ l q < sp_lbF A l p k then l q else sp_lbF A l p k
    | none => sp_lbF A l p k
def sp_V (A : pk_St) (l : Nat → Nat) : Prop := ∀ q, q < 48 → (sp_in A q = true → l q ≤ q ∧ sp_con A (l q) q) ∧ (sp_in A q = false → l q = q)
theorem sp_V.le {A : pk_St} {l : Nat → Nat} (h : sp_V A l) {q : Nat} (hq : q < 48) : l q ≤ q := by
  cases hi : sp_in A q
  · exact Nat.le_of_eq ((h q hq).2 hi)
  · exact ((h q hq).1 hi).1
theorem sp_lbF_step (A : pk_St) (l : Nat → Nat) (p k : Nat) : sp_lbF A l p (k + 1) ≤ sp_lbF A l p k := by
  rw [sp_lbF]
  split
  · split <;> omega
  · exact Nat.le_refl _
theorem sp_lbF_le (A : pk_St) (l : Nat → Nat) (p k : Nat) : sp_lbF A l p k ≤ l p := by
  induction k with
  | zero => exact Nat.le_refl _
  | succ k ih => exact Nat.le_trans (sp_lbF_step A l p k) ih
theorem sp_lbF_con {A : pk_St} (hA : pk_okS A) {l : Nat → Nat} (hV : sp_V A l) {p : Nat} (hp : sp_in A p = true) (k : Nat) (hk : k ≤ 4) : sp_con A (sp_lbF A l p k) p := by
  have hp48 := (sp_in_lt hA hp).2.2
  induction k with
  | zero => exact ((hV p hp48).1 hp).2
  | succ k ih =>
    rw [sp_lbF]
    split
    · rename_i q e
      split
      · rename_i c
        have hq := (sp_nb_in hA hp (by omega) e).1
        have hadj : sp_adj A p q := ⟨hp, c.1.symm, k, by omega, e⟩
        exact ((hV q (sp_in_lt hA hq).2.2).1 hq).2.snoc (hadj.symm hA)
      · exact ih (by omega)
    · exact ih (by omega)
theorem sp_lbF_nb {A : pk_St} {l : Nat → Nat} {p j q : Nat} (e : sp_nb A p j = some q) (hs : sp_s A q = sp_s A p) (k : Nat) (hk : j < k) : sp_lbF A l p k ≤ l q := by
  induction k with
  | zero => omega
  | succ k ih =>
    by_cases h : j = k
    · subst h
      rw [sp_lbF, e]
      dsimp only
      split
      · exact Nat.le_refl _
      · rename_i c
        rcases Nat.lt_or_ge (l q) (sp_lbF A l p j) with z | z
        · exact absurd ⟨hs, z⟩ c
        · exact z
    · exact Nat.le_trans (sp_lbF_step A l p k) (ih (by omega))
def sp_swp (A : pk_St) (l : Nat → Nat) : Nat → Nat → Nat
  | 0 => l
  | p + 1 => fun q => if q = p then (if sp_in A p = true then sp_lbF A (sp_swp A l p) p 4 else p) else sp_swp A l p q
theorem sp_swp_at (A : pk_St) (l : Nat → Nat) (p : Nat) : sp_swp A l (p + 1) p = if sp_in A p = true then sp_lbF A (sp_swp A l p) p 4 else p := if_pos rfl
theorem sp_swp_ne (A : pk_St) (l : Nat → Nat) {p q : Nat} (h : q ≠ p) : sp_swp A l (p + 1) q = sp_swp A l p q := if_neg h
theorem sp_swp_ge (A : pk_St) (l : Nat → Nat) {p q : Nat} (h : p ≤ q) : sp_swp A l p q = l q := by
  induction p with
  | zero => rfl
  | succ p ih => rw [sp_swp_ne A l (by omega), ih (by omega)]
theorem sp_swp_fix (A : pk_St) (l : Nat → Nat) {p q : Nat} (h : q < p) : sp_swp A l p q = sp_swp A l (q + 1) q := by
  induction p with
  | zero => omega
  | succ p ih =>
    by_cases e : q = p
    · rw [e]
    · rw [sp_swp_ne A l e, ih (by omega)]
theorem sp_swp_V {A : pk_St} (hA : pk_okS A) {l : Nat → Nat} (hV : sp_V A l) (p : Nat) (hp : p ≤ 48) : sp_V A (sp_swp A l p) := by
  induction p with
  | zero => exact hV
  | succ p ih =>
    have ih := ih (by omega)
    intro q hq
    by_cases e : q = p
    · subst e
      rw [sp_swp_at]
      refine ⟨fun hi => ?_, fun hi => ?_⟩
      · rw [if_pos hi]
        exact ⟨Nat.le_trans (sp_lbF_le A _ q 4) (ih.le hq), sp_lbF_con hA ih hi 4 (by decide)⟩
      · rw [if_neg (by rw [hi]; decide)]
    · rw [sp_swp_ne A l e]
      exact ih q hq
theorem sp_swp_le {A : pk_St} {l : Nat → Nat} (hV : sp_V A l) (p : Nat) (hp : p ≤ 48) (q : Nat) : sp_swp A l p q ≤ l q := by
  induction p with
  | zero => exact Nat.le_refl _
  | succ p ih =>
    have ih := ih (by omega)
    by_cases e : q = p
    · subst e
      rw [sp_swp_at]
      split
      · exact Nat.le_trans (sp_lbF_le A _ q 4) ih
      · rename_i c
        rw [(hV q (by omega)).2 (by simpa using c)]
        exact Nat.le_refl _
    · rw [sp_swp_ne A l e]
      exact ih
theorem sp_V.lab {A : pk_St} {l : Nat → Nat} (h : sp_V A l) {q : Nat} (hq : q < 48) (hi : sp_in A q = true) : sp_lab A q ≤ l q := sp_lab_le hq ((h q hq).1 hi).2
theorem sp_swp_set {A : pk_St} (hA : pk_okS A) {l : Nat → Nat} (hV : sp_V A l) (p : Nat) (hp : p ≤ 48) {q : Nat} (hi : sp_in A q = true) (h : l q = sp_lab A q) : sp_swp A l p q = sp_lab A q := by
  have h1 := sp_swp_le hV p hp q
  have h2 := (sp_swp_V hA hV p hp).lab (sp_in_lt hA hi).2.2 hi
  omega
theorem sp_edge {A : pk_St} {l : Nat → Nat} (n : Nat) : ∀ q r, sp_rea A n q r → l q = sp_lab A q → l r ≠ sp_lab A r → ∃ a b, sp_adj A a b ∧ l a = sp_lab A a ∧ l b ≠ sp_lab A b := by
  induction n with
  | zero =>
    intro q r h h1 h2
    cases h
    exact absurd h1 h2
  | succ n ih =>
    intro q r h h1 h2
    obtain ⟨z, h3, h4⟩ := h
    by_cases e : l z = sp_lab A z
    · exact ⟨z, r, h4, e, h2⟩
    · exact ih q z h3 h1 e
theorem sp_swp_prog {A : pk_St} (hA : pk_okS A) {l : Nat → Nat} (hV : sp_V A l) {q : Nat} (hi : sp_in A q = true) (h : l q ≠ sp_lab A q) : ∃ b, sp_in A b = true ∧ b < 48 ∧ l b ≠ sp_lab A b ∧ sp_swp A l 48 b = sp_lab A b := by
  have hq := (sp_in_lt hA hi).2.2
  obtain ⟨g1, g2, g3, g4⟩ := sp_lab_in hA hi
  have hr : l (sp_lab A q) = sp_lab A (sp_lab A q) := by
    have e1 := hV.le g3
    have e2 := hV.lab g3 g1
    omega
  obtain ⟨n, hc⟩ := sp_lab_con (A := A) hq
  obtain ⟨a, b, hab, ha, hb⟩ := sp_edge n _ _ hc hr h
  obtain ⟨b1, b2, k, hk, b3⟩ := hab.symm hA
  have hb48 := (sp_in_lt hA b1).2.2
  have hain := hab.1
  have ha48 := (sp_in_lt hA hain).2.2
  refine ⟨b, b1, hb48, hb, ?_⟩
  have e1 : sp_swp A l 48 b = sp_lbF A (sp_swp A l b) b 4 := by rw [sp_swp_fix A l hb48, sp_swp_at, if_pos b1]
  have e2 := sp_lbF_nb (l := sp_swp A l b) b3 b2.symm 4 hk
  rw [sp_swp_set hA hV b (by omega) hain ha, sp_lab_eq hA ha48 hb48 ((sp_con.rf A a).snoc hab)] at e2
  have e3 := (sp_swp_V hA hV 48 (by decide)).lab hb48 b1
  omega
theorem sp_c_mono {f g : Nat → Bool} (n : Nat) (h : ∀ q, q < n → f q = true → g q = true) : sp_c f n ≤ sp_c g n := by
  induction n with
  | zero => exact Nat.le_refl _
  | succ n ih =>
    have := ih (fun q hq => h q (by omega))
    rw [sp_c_succ, sp_c_succ]
    split
    · rename_i c
      rw [if_pos (h n (by omega) c)]
      omega
    · split <;> omega
theorem sp_c_more {f g : Nat → Bool} {b : Nat} (n : Nat) (h : ∀ q, q < n → f q = true → g q = true) (hb : b < n) (h1 : f b = false) (h2 : g b = true) : sp_c f n < sp_c g n := by
  induction n with
  | zero => omega
  | succ n ih =>
    rw [sp_c_succ, sp_c_succ]
    by_cases e : b = n
    · subst e
      rw [h1, h2, if_neg (by decide), if_pos rfl]
      have := sp_c_mono (f := f) (g := g) b (fun q hq => h q (by omega))
      omega
    · have := ih (fun q hq => h q (by omega)) (by omega)
      split
      · rename_i c
        rw [if_pos (h n (by omega) c)]
        omega
      · split <;> omega
noncomputable def sp_cn (A : pk_St) (l : Nat → Nat) : Nat := sp_c (fun q => sp_in A q && (l q == sp_lab A q)) 48
def sp_mv (A : pk_St) (l : Nat → Nat) (p : Nat) : Bool := !(sp_swp A l (p + 1) p == l p)
def sp_all48 (A : pk_St) (l : Nat → Nat) : Prop := ∀ q, sp_in A q = true → l q = sp_lab A q
theorem sp_round {A : pk_St} (hA : pk_okS A) {l : Nat → Nat} (hV : sp_V A l) (h : ¬ sp_all48 A l) : sp_cn A l < sp_cn A (sp_swp A l 48) ∧ sp_any (sp_mv A l) 48 = true := by
  have h' : ∃ q, sp_in A q = true ∧ l q ≠ sp_lab A q := by
    apply Classical.byContradiction
    intro hn
    apply h
    intro q hi
    apply Classical.byContradiction
    intro e
    exact hn ⟨q, hi, e⟩
  obtain ⟨q, hi, hq⟩ := h'
  obtain ⟨b, b1, b2, b3, b4⟩ := sp_swp_prog hA hV hi hq
  constructor
  · refine sp_c_more 48 (fun q hq h => ?_) b2 ?_ ?_
    · rw [Bool.and_eq_true, beq_iff_eq] at h ⊢
      exact ⟨h.1, sp_swp_set hA hV 48 (by decide) h.1 h.2⟩
    · rw [beq_eq_false_iff_ne.mpr b3, Bool.and_false]
    · rw [b1, b4, beq_self_eq_true]
      rfl
  · refine sp_any_true b2 ?_
    unfold sp_mv
    rw [← sp_swp_fix A l b2, b4, beq_eq_false_iff_ne.mpr (fun e => b3 e.symm)]
    rfl
theorem sp_all48_swp {A : pk_St} (hA : pk_okS A) {l : Nat → Nat} (hV : sp_V A l) (h : sp_all48 A l) : sp_all48 A (sp_swp A l 48) := fun q hi => sp_swp_set hA hV 48 (by decide) hi (h q hi)
theorem sp_V_id (A : pk_St) : sp_V A (fun q => q) := fun q _ => ⟨fun _ => ⟨Nat.le_refl q, sp_con.rf A q⟩, fun _ => rfl⟩
theorem sp_cn_id {A : pk_St} (hA : pk_okS A) : 0 < sp_cn A (fun q => q) := by
  have hw := hA.1
  have hh := hA.2.1
  have h0 : sp_in A 0 = true := sp_in_of (by omega) (by omega)
  have h1 : sp_lab A 0 = 0 := Nat.le_zero.mp (sp_lab_self (by decide))
  have := sp_c_lt (f := fun q => sp_in A q && (q == sp_lab A q)) (a := 0) (b := 48) (by decide) (by rw [h0, h1]; rfl)
  exact Nat.lt_of_le_of_lt (Nat.zero_le _) this
noncomputable def sp_ff (A : pk_St) (old : Nat → Int32) : Nat → Nat → Int32
  | 0 => old
  | j + 1 => if sp_root A j = true then (fun k => if k = sp_c (sp_root A) j then nI j else sp_ff A old j k) else sp_ff A old j
theorem sp_ff_spec {A : pk_St} {old : Nat → Int32} (j : Nat) : ∀ r, r < j → sp_root A r = true → sp_ff A old j (sp_c (sp_root A) r) = nI r := by
  induction j with
  | zero => intro r h; omega
  | succ j ih =>
    intro r hr h
    rw [sp_ff]
    by_cases e : r = j
    · subst e
      rw [if_pos h]
      exact if_pos rfl
    · have hi := ih r (by omega) h
      split
      · have := sp_c_lt (f := sp_root A) (a := r) (b := j) (by omega) h
        show (if _ = _ then nI j else _) = nI r
        rw [if_neg (by omega)]
        exact hi
      · exact hi
/-- the areas stand in the model -/
def pm_ar (A : pk_St) (M : pk_M) : Prop := (∀ q, q < 48 → sp_in A q = true → pk_I M 106 q = nI (sp_lab A q)) ∧ (∀ q, q < 48 → sp_in A q = false → pk_I M 106 q = nI q) ∧ ∀ r, sp_root A r = true → pk_I M 107 (sp_c (sp_root A) r) = nI r

set_option maxRecDepth 100000 in
set_option maxHeartbeats 4000000 in
theorem e_X7_beside {Γ : pk_T} {M : pk_M} {L : Nat} {A : pk_St} (hN : pm_now L M A) {q k : Nat} (hin : sp_in A q = true) (hk : k < 4) : pk_E Γ yX7_beside cX7_beside 5 (some .int) 2 0 0 M [.ref 103, .int (nI q), .int (nI k)] (fun r M' => r = some (.int (sp_on (sp_nb A q k))) ∧ M' = M) := by
  obtain ⟨hW, hA, hok⟩ := hN
  have hw := hok.1
  have hh := hok.2.1
  have hs := hok.2.2.2.2.2.2.2.1
  refine pk_meth (own := RX7) (ini := false) [some (.ref 103), some (.int (nI q)), some (.int (nI k)), none, none] (by decide +kernel) rfl (by decide +kernel) rfl rfl ?_
  have hq48 := (sp_in_lt hok hin).2.2
  obtain rfl | rfl | rfl | rfl : k = 0 ∨ k = 1 ∨ k = 2 ∨ k = 3 := by omega
  · refine pk_iload_n dX7_beside_0 rfl ?_
    refine pk_bipush (v := nI 8) dX7_beside_1 (by decide) ?_
    first | refine pk_remN dX7_beside_3 (by omega) (by omega) (by omega) ?_ | refine pk_irem dX7_beside_3 (by first | assumption | decide) ?_
    refine pk_iload_n dX7_beside_4 rfl ?_
    refine pk_iconst (v := nI 1) dX7_beside_5 (by decide) ?_
    first | refine pk_neN (tgt := 13) dX7_beside_6 (by decide) (by omega) (by omega) (fun c_6 => ?_) (fun c_6 => ?_) | refine pk_icmp_ne (tgt := 13) dX7_beside_6 (by decide) (fun c_6 => ?_) (fun c_6 => ?_)
    · refine pk_iload_n dX7_beside_13 rfl ?_
      refine pk_iconst (v := nI 2) dX7_beside_14 (by decide) ?_
      first | refine pk_neN (tgt := 22) dX7_beside_15 (by decide) (by omega) (by omega) (fun c_15 => ?_) (fun c_15 => ?_) | refine pk_icmp_ne (tgt := 22) dX7_beside_15 (by decide) (fun c_15 => ?_) (fun c_15 => ?_)
      · refine pk_iconst (v := nI 0) dX7_beside_22 (by decide) ?_
        refine pk_iadd dX7_beside_23 ?_
        generalize hx : nI (q % 8) + nI 0 = x
        refine pk_istore_n dX7_beside_24 rfl rfl ?_
        refine pk_iload_n dX7_beside_25 rfl ?_
        refine pk_bipush (v := nI 8) dX7_beside_26 (by decide) ?_
        first | refine pk_divN dX7_beside_28 (by omega) (by omega) (by omega) ?_ | refine pk_idiv dX7_beside_28 (by first | assumption | decide) ?_
        refine pk_iload_n dX7_beside_29 rfl ?_
        refine pk_ne0N (a := 0) (tgt := 37) dX7_beside_30 (by decide) (by decide) (fun c_30 => ?_) (fun c_30 => ?_)
        · omega
        · refine pk_iconst (v := -1) dX7_beside_33 (by decide) ?_
          refine pk_goto (tgt := 47) dX7_beside_34 (by decide) ?_
          refine pk_iadd dX7_beside_47 ?_
          generalize hy : nI (q / 8) + -1 = y
          refine pk_istore dX7_beside_48 rfl rfl ?_
          have hnb : sp_nb A q 0 = if sp_inb A x y then some (y.toNatClampNeg * 8 + x.toNatClampNeg) else none := by
            rw [← hx, ← hy]
            rfl
          refine pk_aload_n dX7_beside_50 rfl ?_
          refine pk_iload_n dX7_beside_51 rfl ?_
          refine pk_iload dX7_beside_52 rfl ?_
          refine pk_Vi dX7_beside_54 ml_X7_65 yw_X7_isPlace yv_X7_isPlace (hW.s rfl) (e_X7_isPlace ⟨hW, hA, hok⟩ _ _) rfl rfl rfl rfl rfl rfl rfl ?_
          first | refine pk_eqb (tgt := 70) dX7_beside_57 (by decide) (fun c_57 => ?_) (fun c_57 => ?_) | refine pk_eq0N (tgt := 70) dX7_beside_57 (by decide) (by omega) (fun c_57 => ?_) (fun c_57 => ?_) | refine pk_if_eq (tgt := 70) dX7_beside_57 (by decide) (fun c_57 => ?_) (fun c_57 => ?_)
          · refine pk_iconst (v := -1) dX7_beside_70 (by decide) ?_
            refine pk_reti dX7_beside_71 (by first | rfl | exact pk_nbi _) ?_
            rw [c_57, if_neg (by decide)] at hnb
            rw [hnb]
            exact ⟨rfl, rfl⟩
          · rw [c_57, if_pos rfl] at hnb
            obtain ⟨i, j, hi, hj, ex, ey⟩ := sp_inb_of hok c_57
            subst ex
            subst ey
            rw [nI_clamp (by omega), nI_clamp (by omega)] at hnb
            refine pk_bipush (v := nI 8) dX7_beside_60 (by decide) ?_
            refine pk_iload dX7_beside_62 rfl ?_
            first | refine pk_mulN dX7_beside_64 ?_ | refine pk_imul dX7_beside_64 ?_
            refine pk_iload_n dX7_beside_65 rfl ?_
            first | refine pk_addN dX7_beside_66 ?_ | refine pk_iadd dX7_beside_66 ?_
            refine pk_goto (tgt := 71) dX7_beside_67 (by decide) ?_
            refine pk_reti dX7_beside_71 (by first | rfl | exact pk_nbi _) ?_
            rw [hnb, Nat.mul_comm j 8]
            exact ⟨rfl, rfl⟩
      · omega
    · omega
  · refine pk_iload_n dX7_beside_0 rfl ?_
    refine pk_bipush (v := nI 8) dX7_beside_1 (by decide) ?_
    first | refine pk_remN dX7_beside_3 (by omega) (by omega) (by omega) ?_ | refine pk_irem dX7_beside_3 (by first | assumption | decide) ?_
    refine pk_iload_n dX7_beside_4 rfl ?_
    refine pk_iconst (v := nI 1) dX7_beside_5 (by decide) ?_
    first | refine pk_neN (tgt := 13) dX7_beside_6 (by decide) (by omega) (by omega) (fun c_6 => ?_) (fun c_6 => ?_) | refine pk_icmp_ne (tgt := 13) dX7_beside_6 (by decide) (fun c_6 => ?_) (fun c_6 => ?_)
    · omega
    · refine pk_iconst (v := -1) dX7_beside_9 (by decide) ?_
      refine pk_goto (tgt := 23) dX7_beside_10 (by decide) ?_
      refine pk_iadd dX7_beside_23 ?_
      generalize hx : nI (q % 8) + -1 = x
      refine pk_istore_n dX7_beside_24 rfl rfl ?_
      refine pk_iload_n dX7_beside_25 rfl ?_
      refine pk_bipush (v := nI 8) dX7_beside_26 (by decide) ?_
      first | refine pk_divN dX7_beside_28 (by omega) (by omega) (by omega) ?_ | refine pk_idiv dX7_beside_28 (by first | assumption | decide) ?_
      refine pk_iload_n dX7_beside_29 rfl ?_
      refine pk_ne0N (a := 1) (tgt := 37) dX7_beside_30 (by decide) (by decide) (fun c_30 => ?_) (fun c_30 => ?_)
      · refine pk_iload_n dX7_beside_37 rfl ?_
        refine pk_iconst (v := nI 3) dX7_beside_38 (by decide) ?_
        first | refine pk_neN (tgt := 46) dX7_beside_39 (by decide) (by omega) (by omega) (fun c_39 => ?_) (fun c_39 => ?_) | refine pk_icmp_ne (tgt := 46) dX7_beside_39 (by decide) (fun c_39 => ?_) (fun c_39 => ?_)
        · refine pk_iconst (v := nI 0) dX7_beside_46 (by decide) ?_
          refine pk_iadd dX7_beside_47 ?_
          generalize hy : nI (q / 8) + nI 0 = y
          refine pk_istore dX7_beside_48 rfl rfl ?_
          have hnb : sp_nb A q 1 = if sp_inb A x y then some (y.toNatClampNeg * 8 + x.toNatClampNeg) else none := by
            rw [← hx, ← hy]
            rfl
          refine pk_aload_n dX7_beside_50 rfl ?_
          refine pk_iload_n dX7_beside_51 rfl ?_
          refine pk_iload dX7_beside_52 rfl ?_
          refine pk_Vi dX7_beside_54 ml_X7_65 yw_X7_isPlace yv_X7_isPlace (hW.s rfl) (e_X7_isPlace ⟨hW, hA, hok⟩ _ _) rfl rfl rfl rfl rfl rfl rfl ?_
          first | refine pk_eqb (tgt := 70) dX7_beside_57 (by decide) (fun c_57 => ?_) (fun c_57 => ?_) | refine pk_eq0N (tgt := 70) dX7_beside_57 (by decide) (by omega) (fun c_57 => ?_) (fun c_57 => ?_) | refine pk_if_eq (tgt := 70) dX7_beside_57 (by decide) (fun c_57 => ?_) (fun c_57 => ?_)
          · refine pk_iconst (v := -1) dX7_beside_70 (by decide) ?_
            refine pk_reti dX7_beside_71 (by first | rfl | exact pk_nbi _) ?_
            rw [c_57, if_neg (by decide)] at hnb
            rw [hnb]
            exact ⟨rfl, rfl⟩
          · rw [c_57, if_pos rfl] at hnb
            obtain ⟨i, j, hi, hj, ex, ey⟩ := sp_inb_of hok c_57
            subst ex
            subst ey
            rw [nI_clamp (by omega), nI_clamp (by omega)] at hnb
            refine pk_bipush (v := nI 8) dX7_beside_60 (by decide) ?_
            refine pk_iload dX7_beside_62 rfl ?_
            first | refine pk_mulN dX7_beside_64 ?_ | refine pk_imul dX7_beside_64 ?_
            refine pk_iload_n dX7_beside_65 rfl ?_
            first | refine pk_addN dX7_beside_66 ?_ | refine pk_iadd dX7_beside_66 ?_
            refine pk_goto (tgt := 71) dX7_beside_67 (by decide) ?_
            refine pk_reti dX7_beside_71 (by first | rfl | exact pk_nbi _) ?_
            rw [hnb, Nat.mul_comm j 8]
            exact ⟨rfl, rfl⟩
        · omega
      · omega
  · refine pk_iload_n dX7_beside_0 rfl ?_
    refine pk_bipush (v := nI 8) dX7_beside_1 (by decide) ?_
    first | refine pk_remN dX7_beside_3 (by omega) (by omega) (by omega) ?_ | refine pk_irem dX7_beside_3 (by first | assumption | decide) ?_
    refine pk_iload_n dX7_beside_4 rfl ?_
    refine pk_iconst (v := nI 1) dX7_beside_5 (by decide) ?_
    first | refine pk_neN (tgt := 13) dX7_beside_6 (by decide) (by omega) (by omega) (fun c_6 => ?_) (fun c_6 => ?_) | refine pk_icmp_ne (tgt := 13) dX7_beside_6 (by decide) (fun c_6 => ?_) (fun c_6 => ?_)
    · refine pk_iload_n dX7_beside_13 rfl ?_
      refine pk_iconst (v := nI 2) dX7_beside_14 (by decide) ?_
      first | refine pk_neN (tgt := 22) dX7_beside_15 (by decide) (by omega) (by omega) (fun c_15 => ?_) (fun c_15 => ?_) | refine pk_icmp_ne (tgt := 22) dX7_beside_15 (by decide) (fun c_15 => ?_) (fun c_15 => ?_)
      · omega
      · refine pk_iconst (v := nI 1) dX7_beside_18 (by decide) ?_
        refine pk_goto (tgt := 23) dX7_beside_19 (by decide) ?_
        refine pk_iadd dX7_beside_23 ?_
        generalize hx : nI (q % 8) + nI 1 = x
        refine pk_istore_n dX7_beside_24 rfl rfl ?_
        refine pk_iload_n dX7_beside_25 rfl ?_
        refine pk_bipush (v := nI 8) dX7_beside_26 (by decide) ?_
        first | refine pk_divN dX7_beside_28 (by omega) (by omega) (by omega) ?_ | refine pk_idiv dX7_beside_28 (by first | assumption | decide) ?_
        refine pk_iload_n dX7_beside_29 rfl ?_
        refine pk_ne0N (a := 2) (tgt := 37) dX7_beside_30 (by decide) (by decide) (fun c_30 => ?_) (fun c_30 => ?_)
        · refine pk_iload_n dX7_beside_37 rfl ?_
          refine pk_iconst (v := nI 3) dX7_beside_38 (by decide) ?_
          first | refine pk_neN (tgt := 46) dX7_beside_39 (by decide) (by omega) (by omega) (fun c_39 => ?_) (fun c_39 => ?_) | refine pk_icmp_ne (tgt := 46) dX7_beside_39 (by decide) (fun c_39 => ?_) (fun c_39 => ?_)
          · refine pk_iconst (v := nI 0) dX7_beside_46 (by decide) ?_
            refine pk_iadd dX7_beside_47 ?_
            generalize hy : nI (q / 8) + nI 0 = y
            refine pk_istore dX7_beside_48 rfl rfl ?_
            have hnb : sp_nb A q 2 = if sp_inb A x y then some (y.toNatClampNeg * 8 + x.toNatClampNeg) else none := by
              rw [← hx, ← hy]
              rfl
            refine pk_aload_n dX7_beside_50 rfl ?_
            refine pk_iload_n dX7_beside_51 rfl ?_
            refine pk_iload dX7_beside_52 rfl ?_
            refine pk_Vi dX7_beside_54 ml_X7_65 yw_X7_isPlace yv_X7_isPlace (hW.s rfl) (e_X7_isPlace ⟨hW, hA, hok⟩ _ _) rfl rfl rfl rfl rfl rfl rfl ?_
            first | refine pk_eqb (tgt := 70) dX7_beside_57 (by decide) (fun c_57 => ?_) (fun c_57 => ?_) | refine pk_eq0N (tgt := 70) dX7_beside_57 (by decide) (by omega) (fun c_57 => ?_) (fun c_57 => ?_) | refine pk_if_eq (tgt := 70) dX7_beside_57 (by decide) (fun c_57 => ?_) (fun c_57 => ?_)
            · refine pk_iconst (v := -1) dX7_beside_70 (by decide) ?_
              refine pk_reti dX7_beside_71 (by first | rfl | exact pk_nbi _) ?_
              rw [c_57, if_neg (by decide)] at hnb
              rw [hnb]
              exact ⟨rfl, rfl⟩
            · rw [c_57, if_pos rfl] at hnb
              obtain ⟨i, j, hi, hj, ex, ey⟩ := sp_inb_of hok c_57
              subst ex
              subst ey
              rw [nI_clamp (by omega), nI_clamp (by omega)] at hnb
              refine pk_bipush (v := nI 8) dX7_beside_60 (by decide) ?_
              refine pk_iload dX7_beside_62 rfl ?_
              first | refine pk_mulN dX7_beside_64 ?_ | refine pk_imul dX7_beside_64 ?_
              refine pk_iload_n dX7_beside_65 rfl ?_
              first | refine pk_addN dX7_beside_66 ?_ | refine pk_iadd dX7_beside_66 ?_
              refine pk_goto (tgt := 71) dX7_beside_67 (by decide) ?_
              refine pk_reti dX7_beside_71 (by first | rfl | exact pk_nbi _) ?_
              rw [hnb, Nat.mul_comm j 8]
              exact ⟨rfl, rfl⟩
          · omega
        · omega
    · omega
  · refine pk_iload_n dX7_beside_0 rfl ?_
    refine pk_bipush (v := nI 8) dX7_beside_1 (by decide) ?_
    first | refine pk_remN dX7_beside_3 (by omega) (by omega) (by omega) ?_ | refine pk_irem dX7_beside_3 (by first | assumption | decide) ?_
    refine pk_iload_n dX7_beside_4 rfl ?_
    refine pk_iconst (v := nI 1) dX7_beside_5 (by decide) ?_
    first | refine pk_neN (tgt := 13) dX7_beside_6 (by decide) (by omega) (by omega) (fun c_6 => ?_) (fun c_6 => ?_) | refine pk_icmp_ne (tgt := 13) dX7_beside_6 (by decide) (fun c_6 => ?_) (fun c_6 => ?_)
    · refine pk_iload_n dX7_beside_13 rfl ?_
      refine pk_iconst (v := nI 2) dX7_beside_14 (by decide) ?_
      first | refine pk_neN (tgt := 22) dX7_beside_15 (by decide) (by omega) (by omega) (fun c_15 => ?_) (fun c_15 => ?_) | refine pk_icmp_ne (tgt := 22) dX7_beside_15 (by decide) (fun c_15 => ?_) (fun c_15 => ?_)
      · refine pk_iconst (v := nI 0) dX7_beside_22 (by decide) ?_
        refine pk_iadd dX7_beside_23 ?_
        generalize hx : nI (q % 8) + nI 0 = x
        refine pk_istore_n dX7_beside_24 rfl rfl ?_
        refine pk_iload_n dX7_beside_25 rfl ?_
        refine pk_bipush (v := nI 8) dX7_beside_26 (by decide) ?_
        first | refine pk_divN dX7_beside_28 (by omega) (by omega) (by omega) ?_ | refine pk_idiv dX7_beside_28 (by first | assumption | decide) ?_
        refine pk_iload_n dX7_beside_29 rfl ?_
        refine pk_ne0N (a := 3) (tgt := 37) dX7_beside_30 (by decide) (by decide) (fun c_30 => ?_) (fun c_30 => ?_)
        · refine pk_iload_n dX7_beside_37 rfl ?_
          refine pk_iconst (v := nI 3) dX7_beside_38 (by decide) ?_
          first | refine pk_neN (tgt := 46) dX7_beside_39 (by decide) (by omega) (by omega) (fun c_39 => ?_) (fun c_39 => ?_) | refine pk_icmp_ne (tgt := 46) dX7_beside_39 (by decide) (fun c_39 => ?_) (fun c_39 => ?_)
          · omega
          · refine pk_iconst (v := nI 1) dX7_beside_42 (by decide) ?_
            refine pk_goto (tgt := 47) dX7_beside_43 (by decide) ?_
            refine pk_iadd dX7_beside_47 ?_
            generalize hy : nI (q / 8) + nI 1 = y
            refine pk_istore dX7_beside_48 rfl rfl ?_
            have hnb : sp_nb A q 3 = if sp_inb A x y then some (y.toNatClampNeg * 8 + x.toNatClampNeg) else none := by
              rw [← hx, ← hy]
              rfl
            refine pk_aload_n dX7_beside_50 rfl ?_
            refine pk_iload_n dX7_beside_51 rfl ?_
            refine pk_iload dX7_beside_52 rfl ?_
            refine pk_Vi dX7_beside_54 ml_X7_65 yw_X7_isPlace yv_X7_isPlace (hW.s rfl) (e_X7_isPlace ⟨hW, hA, hok⟩ _ _) rfl rfl rfl rfl rfl rfl rfl ?_
            first | refine pk_eqb (tgt := 70) dX7_beside_57 (by decide) (fun c_57 => ?_) (fun c_57 => ?_) | refine pk_eq0N (tgt := 70) dX7_beside_57 (by decide) (by omega) (fun c_57 => ?_) (fun c_57 => ?_) | refine pk_if_eq (tgt := 70) dX7_beside_57 (by decide) (fun c_57 => ?_) (fun c_57 => ?_)
            · refine pk_iconst (v := -1) dX7_beside_70 (by decide) ?_
              refine pk_reti dX7_beside_71 (by first | rfl | exact pk_nbi _) ?_
              rw [c_57, if_neg (by decide)] at hnb
              rw [hnb]
              exact ⟨rfl, rfl⟩
            · rw [c_57, if_pos rfl] at hnb
              obtain ⟨i, j, hi, hj, ex, ey⟩ := sp_inb_of hok c_57
              subst ex
              subst ey
              rw [nI_clamp (by omega), nI_clamp (by omega)] at hnb
              refine pk_bipush (v := nI 8) dX7_beside_60 (by decide) ?_
              refine pk_iload dX7_beside_62 rfl ?_
              first | refine pk_mulN dX7_beside_64 ?_ | refine pk_imul dX7_beside_64 ?_
              refine pk_iload_n dX7_beside_65 rfl ?_
              first | refine pk_addN dX7_beside_66 ?_ | refine pk_iadd dX7_beside_66 ?_
              refine pk_goto (tgt := 71) dX7_beside_67 (by decide) ?_
              refine pk_reti dX7_beside_71 (by first | rfl | exact pk_nbi _) ?_
              rw [hnb, Nat.mul_comm j 8]
              exact ⟨rfl, rfl⟩
        · omega
      · omega
    · omega

set_option maxRecDepth 100000 in
set_option maxHeartbeats 4000000 in
theorem e_X7_leastBeside {Γ : pk_T} {M : pk_M} {L : Nat} {A : pk_St} (hN : pm_now L M A) {l : Nat → Nat} (hB : ∀ q, q < 48 → pk_I M 106 q = nI (l q)) (hl : ∀ q, q < 48 → l q < 48) {q : Nat} (hin : sp_in A q = true) : pk_E Γ yX7_leastBeside cX7_leastBeside 5 (some .int) 3 0 0 M [.ref 103, .int (nI q)] (fun r M' => r = some (.int (nI (sp_lbF A l q 4))) ∧ M' = M) := by
  obtain ⟨hW, hA, hok⟩ := hN
  have hw := hok.1
  have hh := hok.2.1
  have hs := hok.2.2.2.2.2.2.2.1
  refine pk_meth (own := RX7) (ini := false) [some (.ref 103), some (.int (nI q)), none, none, none] (by decide +kernel) rfl (by decide +kernel) rfl rfl ?_
  have hq48 := (sp_in_lt hok hin).2.2
  refine pk_aload_n dX7_leastBeside_0 rfl ?_
  refine pk_getP dX7_leastBeside_1 fl_X7_16 rfl (hW.s rfl) (hW.p rfl) ?_
  refine pk_iload_n dX7_leastBeside_4 rfl ?_
  refine pk_aldN dX7_leastBeside_5 (hW.s rfl) (by omega) (by omega) (hB _ (by omega)) ?_
  refine pk_istore_n dX7_leastBeside_6 rfl rfl ?_
  refine pk_iconst (v := nI 0) dX7_leastBeside_7 (by decide) ?_
  refine pk_istore_n dX7_leastBeside_8 rfl rfl ?_
  refine pk_for 4 (fun _ => M) (fun k => [some (.ref 103), some (.int (nI q)), some (.int (nI (sp_lbF A l q k))), some (.int (nI k)), none]) ?_ ?_ 0 (by omega)
  · intro k hk K
    have hlk := sp_lbF_le A l q k
    have hlq := hl q hq48
    have hsq := hs q hq48
    refine pk_iload_n dX7_leastBeside_9 rfl ?_
    refine pk_iconst (v := nI 4) dX7_leastBeside_10 (by decide) ?_
    first | refine pk_geN (tgt := 70) dX7_leastBeside_11 (by decide) (by omega) (by omega) (fun c_11 => ?_) (fun c_11 => ?_) | refine pk_icmp_ge (tgt := 70) dX7_leastBeside_11 (by decide) (fun c_11 => ?_) (fun c_11 => ?_)
    · omega
    · refine pk_aload_n dX7_leastBeside_14 rfl ?_
      refine pk_iload_n dX7_leastBeside_15 rfl ?_
      refine pk_iload_n dX7_leastBeside_16 rfl ?_
      refine pk_Vi dX7_leastBeside_17 ml_X7_104 yw_X7_beside yv_X7_beside (hW.s rfl) (e_X7_beside ⟨hW, hA, hok⟩ hin hk) rfl rfl rfl rfl rfl rfl rfl ?_
      rcases hnb : sp_nb A q k with _ | z
      · refine pk_istore dX7_leastBeside_20 rfl rfl ?_
        refine pk_iload dX7_leastBeside_22 rfl ?_
        refine pk_if_lt (tgt := 62) dX7_leastBeside_24 (by decide) (fun c_24 => ?_) (fun c_24 => ?_)
        · refine pk_iload_n dX7_leastBeside_62 rfl ?_
          refine pk_istore_n dX7_leastBeside_63 rfl rfl ?_
          first | refine pk_inc1 dX7_leastBeside_64 rfl rfl ?_ | refine pk_iinc dX7_leastBeside_64 rfl rfl rfl ?_
          refine pk_goto (tgt := 9) dX7_leastBeside_67 (by decide) ?_
          have e1 : sp_lbF A l q (k + 1) = sp_lbF A l q k := by rw [sp_lbF, hnb]
          rw [e1] at K
          exact pk_fgt (by repeat first | exact trivial | refine ⟨rfl, ?_⟩) K
        · exact absurd (show sp_on none < 0 by decide) c_24
      · have hz := (sp_nb_in hok hin hk hnb).1
        have hz48 := (sp_in_lt hok hz).2.2
        have hlz := hl z hz48
        have hsz := hs z hz48
        refine pk_stq (st' := [.int (nI z)]) rfl ?_
        refine pk_istore dX7_leastBeside_20 rfl rfl ?_
        refine pk_iload dX7_leastBeside_22 rfl ?_
        refine pk_if_lt (tgt := 62) dX7_leastBeside_24 (by decide) (fun c_24 => ?_) (fun c_24 => ?_)
        · exact absurd c_24 (nI_pos (by omega))
        · refine pk_aload_n dX7_leastBeside_27 rfl ?_
          refine pk_iload dX7_leastBeside_28 rfl ?_
          refine pk_Vi dX7_leastBeside_30 ml_X7_92 yw_X7_setAt yv_X7_setAt (hW.s rfl) (e_X7_setAt ⟨hW, hA, hok⟩ (by omega)) rfl rfl rfl rfl rfl rfl rfl ?_
          refine pk_aload_n dX7_leastBeside_33 rfl ?_
          refine pk_iload_n dX7_leastBeside_34 rfl ?_
          refine pk_Vi dX7_leastBeside_35 ml_X7_92 yw_X7_setAt yv_X7_setAt (hW.s rfl) (e_X7_setAt ⟨hW, hA, hok⟩ (by omega)) rfl rfl rfl rfl rfl rfl rfl ?_
          first | refine pk_neN (tgt := 62) dX7_leastBeside_38 (by decide) (by omega) (by omega) (fun c_38 => ?_) (fun c_38 => ?_) | refine pk_icmp_ne (tgt := 62) dX7_leastBeside_38 (by decide) (fun c_38 => ?_) (fun c_38 => ?_)
          · refine pk_iload_n dX7_leastBeside_62 rfl ?_
            refine pk_istore_n dX7_leastBeside_63 rfl rfl ?_
            first | refine pk_inc1 dX7_leastBeside_64 rfl rfl ?_ | refine pk_iinc dX7_leastBeside_64 rfl rfl rfl ?_
            refine pk_goto (tgt := 9) dX7_leastBeside_67 (by decide) ?_
            have e1 : sp_lbF A l q (k + 1) = sp_lbF A l q k := by
              rw [sp_lbF, hnb]
              exact if_neg (fun h => c_38 h.1)
            rw [e1] at K
            exact pk_fgt (by repeat first | exact trivial | refine ⟨rfl, ?_⟩) K
          · refine pk_aload_n dX7_leastBeside_41 rfl ?_
            refine pk_getP dX7_leastBeside_42 fl_X7_16 rfl (hW.s rfl) (hW.p rfl) ?_
            refine pk_iload dX7_leastBeside_45 rfl ?_
            refine pk_aldN dX7_leastBeside_47 (hW.s rfl) (by omega) (by omega) (hB _ (by omega)) ?_
            refine pk_iload_n dX7_leastBeside_48 rfl ?_
            first | refine pk_geN (tgt := 62) dX7_leastBeside_49 (by decide) (by omega) (by omega) (fun c_49 => ?_) (fun c_49 => ?_) | refine pk_icmp_ge (tgt := 62) dX7_leastBeside_49 (by decide) (fun c_49 => ?_) (fun c_49 => ?_)
            · refine pk_iload_n dX7_leastBeside_62 rfl ?_
              refine pk_istore_n dX7_leastBeside_63 rfl rfl ?_
              first | refine pk_inc1 dX7_leastBeside_64 rfl rfl ?_ | refine pk_iinc dX7_leastBeside_64 rfl rfl rfl ?_
              refine pk_goto (tgt := 9) dX7_leastBeside_67 (by decide) ?_
              have e1 : sp_lbF A l q (k + 1) = sp_lbF A l q k := by
                rw [sp_lbF, hnb]
                exact if_neg (fun h => by have := h.2; omega)
              rw [e1] at K
              exact pk_fgt (by repeat first | exact trivial | refine ⟨rfl, ?_⟩) K
            · refine pk_aload_n dX7_leastBeside_52 rfl ?_
              refine pk_getP dX7_leastBeside_53 fl_X7_16 rfl (hW.s rfl) (hW.p rfl) ?_
              refine pk_iload dX7_leastBeside_56 rfl ?_
              refine pk_aldN dX7_leastBeside_58 (hW.s rfl) (by omega) (by omega) (hB _ (by omega)) ?_
              refine pk_goto (tgt := 63) dX7_leastBeside_59 (by decide) ?_
              refine pk_istore_n dX7_leastBeside_63 rfl rfl ?_
              first | refine pk_inc1 dX7_leastBeside_64 rfl rfl ?_ | refine pk_iinc dX7_leastBeside_64 rfl rfl rfl ?_
              refine pk_goto (tgt := 9) dX7_leastBeside_67 (by decide) ?_
              have e1 : sp_lbF A l q (k + 1) = l z := by
                rw [sp_lbF, hnb]
                exact if_pos ⟨c_38, c_49⟩
              rw [e1] at K
              exact pk_fgt (by repeat first | exact trivial | refine ⟨rfl, ?_⟩) K
  · refine pk_iload_n dX7_leastBeside_9 rfl ?_
    refine pk_iconst (v := nI 4) dX7_leastBeside_10 (by decide) ?_
    first | refine pk_geN (tgt := 70) dX7_leastBeside_11 (by decide) (by omega) (by omega) (fun c_11 => ?_) (fun c_11 => ?_) | refine pk_icmp_ge (tgt := 70) dX7_leastBeside_11 (by decide) (fun c_11 => ?_) (fun c_11 => ?_)
    · refine pk_iload_n dX7_leastBeside_70 rfl ?_
      refine pk_reti dX7_leastBeside_71 (by first | rfl | exact pk_nbi _) ?_
      exact ⟨rfl, rfl⟩
    · omega

set_option maxRecDepth 100000 in
set_option maxHeartbeats 4000000 in
theorem e_X7_areas {Γ : pk_T} {M : pk_M} {L : Nat} {A : pk_St} (hN : pm_now L M A) : pk_E Γ yX7_areas cX7_areas 5 (some .int) 4 0 0 M [.ref 103] (fun r M' => r = some (.int (nI (sp_many A))) ∧ pk_fr (fun q => q = 106 ∨ q = 107) M M' ∧ pm_ar A M') := by
  obtain ⟨hW, hA, hok⟩ := hN
  have hw := hok.1
  have hh := hok.2.1
  have hs := hok.2.2.2.2.2.2.2.1
  refine pk_meth (own := RX7) (ini := false) [some (.ref 103), none, none, none, none] (by decide +kernel) rfl (by decide +kernel) rfl rfl ?_
  refine pk_iconst (v := nI 0) dX7_areas_0 (by decide) ?_
  refine pk_istore_n dX7_areas_1 rfl rfl ?_
  refine pk_Mq (M' := (pk_wI M 106 (fun q => if q < 0 then nI q else pk_I M 106 q))) ((pk_wI_id M 106).symm.trans (by congr 1)) ?_
  refine pk_for 48 (fun j => (pk_wI M 106 (fun q => if q < j then nI q else pk_I M 106 q))) (fun j => [some (.ref 103), some (.int (nI j)), none, none, none]) ?_ ?_ 0 (by omega)
  · intro j hj K
    refine pk_iload_n dX7_areas_2 rfl ?_
    refine pk_bipush (v := nI 48) dX7_areas_3 (by decide) ?_
    first | refine pk_geN (tgt := 21) dX7_areas_5 (by decide) (by omega) (by omega) (fun c_5 => ?_) (fun c_5 => ?_) | refine pk_icmp_ge (tgt := 21) dX7_areas_5 (by decide) (fun c_5 => ?_) (fun c_5 => ?_)
    · omega
    · refine pk_aload_n dX7_areas_8 rfl ?_
      refine pk_getP dX7_areas_9 fl_X7_16 rfl (hW.s rfl) (hW.p rfl) ?_
      refine pk_iload_n dX7_areas_12 rfl ?_
      refine pk_iload_n dX7_areas_13 rfl ?_
      refine pk_astN dX7_areas_14 (hW.s rfl) (by omega) (by omega) (by omega) ?_
      rw [pk_wI_sI]
      first | refine pk_inc1 dX7_areas_15 rfl rfl ?_ | refine pk_iinc dX7_areas_15 rfl rfl rfl ?_
      refine pk_goto (tgt := 2) dX7_areas_18 (by decide) ?_
      refine pk_Mq ?_ K
      congr 1
      funext q
      by_cases e : q = j
      · rw [if_pos e, if_pos (by omega), e]
      · rw [if_neg e]
        by_cases e2 : q < j
        · rw [if_pos e2, if_pos (by omega)]
        · rw [if_neg e2, if_neg (by omega)]
  · refine pk_iload_n dX7_areas_2 rfl ?_
    refine pk_bipush (v := nI 48) dX7_areas_3 (by decide) ?_
    first | refine pk_geN (tgt := 21) dX7_areas_5 (by decide) (by omega) (by omega) (fun c_5 => ?_) (fun c_5 => ?_) | refine pk_icmp_ge (tgt := 21) dX7_areas_5 (by decide) (fun c_5 => ?_) (fun c_5 => ?_)
    · refine pk_iconst (v := nI 1) dX7_areas_21 (by decide) ?_
      refine pk_istore_n dX7_areas_22 rfl rfl ?_
      refine pk_iconst (v := nI 0) dX7_areas_23 (by decide) ?_
      refine pk_istore_n dX7_areas_24 rfl rfl ?_
      refine pk_fgt (ls' := [some (.ref 103), some (.int (pk_bi true)), some (.int (nI 0)), none, none]) (by repeat first | exact trivial | refine ⟨rfl, ?_⟩) ?_
      refine pk_wf (fun z : Nat × Bool × (Nat → Nat) => 50 - z.1) (fun z : Nat × Bool × (Nat → Nat) => sp_V A z.2.2 ∧ z.1 ≤ 50 ∧ (z.2.1 = false → sp_all48 A z.2.2) ∧ (sp_all48 A z.2.2 ∨ z.1 < sp_cn A z.2.2)) (fun z => (pk_wI M 106 (fun q => if q < 48 then nI ((z.2.2) q) else pk_I M 106 q))) (fun z => [some (.ref 103), some (.int (pk_bi z.2.1)), some (.int (nI z.1)), none, none]) ?_ (0, true, fun q => q) ⟨sp_V_id A, Nat.zero_le _, fun h => (by cases h), Or.inr (sp_cn_id hok)⟩
      rintro ⟨t, mv, l⟩ ⟨h1, h2, h3, h4⟩ K1
      dsimp only at h1 h2 h3 h4 K1 ⊢
      have hNl : pm_now L (pk_wI M 106 (fun q => if q < 48 then nI ((l) q) else pk_I M 106 q)) A := pm_now.wI ⟨hW, hA, hok⟩ (by decide) _
      have hWl := hNl.1
      refine pk_iload_n dX7_areas_25 rfl ?_
      refine pk_bipush (v := nI 50) dX7_areas_26 (by decide) ?_
      first | refine pk_geN (tgt := 105) dX7_areas_28 (by decide) (by omega) (by omega) (fun c_28 => ?_) (fun c_28 => ?_) | refine pk_icmp_ge (tgt := 105) dX7_areas_28 (by decide) (fun c_28 => ?_) (fun c_28 => ?_)
      · have hall : sp_all48 A l := by
          rcases h4 with z | z
          · exact z
          · have hcn : sp_cn A l ≤ 48 := sp_c_le _ 48
            omega
        refine pk_iconst (v := nI 0) dX7_areas_105 (by decide) ?_
        refine pk_istore_n dX7_areas_106 rfl rfl ?_
        refine pk_iconst (v := nI 0) dX7_areas_107 (by decide) ?_
        refine pk_istore_n dX7_areas_108 rfl rfl ?_
        refine pk_fgt (ls' := [some (.ref 103), none, some (.int (nI (sp_c (sp_root A) 0))), some (.int (nI 0)), none]) (by repeat first | exact trivial | refine ⟨rfl, ?_⟩) ?_
        refine pk_Mq (M' := (pk_wI (pk_wI M 106 (fun q => if q < 48 then nI ((l) q) else pk_I M 106 q)) 107 (sp_ff A (pk_I M 107) (0)))) (pk_wI_id (pk_wI M 106 (fun q => if q < 48 then nI ((l) q) else pk_I M 106 q)) 107).symm ?_
        refine pk_for 48 (fun j => (pk_wI (pk_wI M 106 (fun q => if q < 48 then nI ((l) q) else pk_I M 106 q)) 107 (sp_ff A (pk_I M 107) (j)))) (fun j => [some (.ref 103), none, some (.int (nI (sp_c (sp_root A) j))), some (.int (nI j)), none]) ?_ ?_ 0 (by omega)
        · intro j hj K
          have hN3 : pm_now L (pk_wI (pk_wI M 106 (fun q => if q < 48 then nI ((l) q) else pk_I M 106 q)) 107 (sp_ff A (pk_I M 107) (j))) A := pm_now.wI (pm_now.wI ⟨hW, hA, hok⟩ (by decide) _) (by decide) _
          have hW3 := hN3.1
          have hlj := h1.le hj
          have hlv : pk_I (pk_wI (pk_wI M 106 (fun q => if q < 48 then nI ((l) q) else pk_I M 106 q)) 107 (sp_ff A (pk_I M 107) (j))) 106 j = nI (l j) := pk_gW0 (by decide) (pk_gW1 rfl (if_pos hj))
          have hcj := sp_c_le (sp_root A) j
          have hcs := sp_c_succ (sp_root A) j
          have hfs : sp_ff A (pk_I M 107) (j + 1) = if sp_root A j = true then (fun k => if k = sp_c (sp_root A) j then nI j else sp_ff A (pk_I M 107) j k) else sp_ff A (pk_I M 107) j := rfl
          refine pk_iload_n dX7_areas_109 rfl ?_
          refine pk_bipush (v := nI 48) dX7_areas_110 (by decide) ?_
          first | refine pk_geN (tgt := 149) dX7_areas_112 (by decide) (by omega) (by omega) (fun c_112 => ?_) (fun c_112 => ?_) | refine pk_icmp_ge (tgt := 149) dX7_areas_112 (by decide) (fun c_112 => ?_) (fun c_112 => ?_)
          · omega
          · refine pk_aload_n dX7_areas_115 rfl ?_
            refine pk_iload_n dX7_areas_116 rfl ?_
            refine pk_Vi dX7_areas_117 ml_X7_88 yw_X7_isIn yv_X7_isIn (hW3.s rfl) (e_X7_isIn hN3 (by omega)) rfl rfl rfl rfl rfl rfl rfl ?_
            first | refine pk_eqb (tgt := 143) dX7_areas_120 (by decide) (fun c_120 => ?_) (fun c_120 => ?_) | refine pk_eq0N (tgt := 143) dX7_areas_120 (by decide) (by omega) (fun c_120 => ?_) (fun c_120 => ?_) | refine pk_if_eq (tgt := 143) dX7_areas_120 (by decide) (fun c_120 => ?_) (fun c_120 => ?_)
            · first | refine pk_inc1 dX7_areas_143 rfl rfl ?_ | refine pk_iinc dX7_areas_143 rfl rfl rfl ?_
              refine pk_goto (tgt := 109) dX7_areas_146 (by decide) ?_
              have hr : sp_root A j = false := sp_root_out c_120
              rw [hr, if_neg (by decide)] at hcs hfs
              rw [hcs, hfs] at K
              exact K
            · refine pk_aload_n dX7_areas_123 rfl ?_
              refine pk_getP dX7_areas_124 fl_X7_16 rfl (hW3.s rfl) (hW3.p rfl) ?_
              refine pk_iload_n dX7_areas_127 rfl ?_
              refine pk_aldN dX7_areas_128 (hW3.s rfl) (by omega) (by omega) hlv ?_
              refine pk_iload_n dX7_areas_129 rfl ?_
              first | refine pk_neN (tgt := 143) dX7_areas_130 (by decide) (by omega) (by omega) (fun c_130 => ?_) (fun c_130 => ?_) | refine pk_icmp_ne (tgt := 143) dX7_areas_130 (by decide) (fun c_130 => ?_) (fun c_130 => ?_)
              · first | refine pk_inc1 dX7_areas_143 rfl rfl ?_ | refine pk_iinc dX7_areas_143 rfl rfl rfl ?_
                refine pk_goto (tgt := 109) dX7_areas_146 (by decide) ?_
                have hr : sp_root A j = false := by
                  unfold sp_root
                  rw [← hall j c_120, beq_eq_false_iff_ne.mpr c_130, Bool.and_false]
                rw [hr, if_neg (by decide)] at hcs hfs
                rw [hcs, hfs] at K
                exact K
              · refine pk_aload_n dX7_areas_133 rfl ?_
                refine pk_getP dX7_areas_134 fl_X7_19 rfl (hW3.s rfl) (hW3.p rfl) ?_
                refine pk_iload_n dX7_areas_137 rfl ?_
                refine pk_iload_n dX7_areas_138 rfl ?_
                refine pk_astN dX7_areas_139 (hW3.s rfl) (by omega) (by omega) (by omega) ?_
                rw [pk_wI_sI]
                first | refine pk_inc1 dX7_areas_140 rfl rfl ?_ | refine pk_iinc dX7_areas_140 rfl rfl rfl ?_
                first | refine pk_inc1 dX7_areas_143 rfl rfl ?_ | refine pk_iinc dX7_areas_143 rfl rfl rfl ?_
                refine pk_goto (tgt := 109) dX7_areas_146 (by decide) ?_
                have hr : sp_root A j = true := by
                  unfold sp_root
                  rw [c_120, ← hall j c_120, beq_iff_eq.mpr c_130]
                  rfl
                rw [hr, if_pos rfl] at hcs hfs
                rw [hcs, hfs] at K
                exact K
        · have hW3 : pk_WF L (pk_wI (pk_wI M 106 (fun q => if q < 48 then nI ((l) q) else pk_I M 106 q)) 107 (sp_ff A (pk_I M 107) (48))) := (hW.to rfl rfl)
          refine pk_iload_n dX7_areas_109 rfl ?_
          refine pk_bipush (v := nI 48) dX7_areas_110 (by decide) ?_
          first | refine pk_geN (tgt := 149) dX7_areas_112 (by decide) (by omega) (by omega) (fun c_112 => ?_) (fun c_112 => ?_) | refine pk_icmp_ge (tgt := 149) dX7_areas_112 (by decide) (fun c_112 => ?_) (fun c_112 => ?_)
          · refine pk_iload_n dX7_areas_149 rfl ?_
            refine pk_reti dX7_areas_150 (by first | rfl | exact pk_nbi _) ?_
            refine ⟨rfl, (pk_fr.wI (Or.inl rfl)).tr (pk_fr.wI (Or.inr rfl)), fun q hq hi => pk_gW0 (by decide) (pk_gW1 rfl ?_), fun q hq hi => pk_gW0 (by decide) (pk_gW1 rfl ?_), fun r hr => pk_gW1 rfl (sp_ff_spec 48 r ?_ hr)⟩
            · rw [if_pos hq, hall q hi]
            · rw [if_pos hq, (h1 q hq).2 hi]
            · unfold sp_root at hr
              rw [Bool.and_eq_true] at hr
              exact (sp_in_lt hok hr.1).2.2
          · omega
      · refine pk_iload_n dX7_areas_31 rfl ?_
        refine pk_eqb (tgt := 105) dX7_areas_32 (by decide) (fun c_32 => ?_) (fun c_32 => ?_)
        · have hall := h3 c_32
          refine pk_iconst (v := nI 0) dX7_areas_105 (by decide) ?_
          refine pk_istore_n dX7_areas_106 rfl rfl ?_
          refine pk_iconst (v := nI 0) dX7_areas_107 (by decide) ?_
          refine pk_istore_n dX7_areas_108 rfl rfl ?_
          refine pk_fgt (ls' := [some (.ref 103), none, some (.int (nI (sp_c (sp_root A) 0))), some (.int (nI 0)), none]) (by repeat first | exact trivial | refine ⟨rfl, ?_⟩) ?_
          refine pk_Mq (M' := (pk_wI (pk_wI M 106 (fun q => if q < 48 then nI ((l) q) else pk_I M 106 q)) 107 (sp_ff A (pk_I M 107) (0)))) (pk_wI_id (pk_wI M 106 (fun q => if q < 48 then nI ((l) q) else pk_I M 106 q)) 107).symm ?_
          refine pk_for 48 (fun j => (pk_wI (pk_wI M 106 (fun q => if q < 48 then nI ((l) q) else pk_I M 106 q)) 107 (sp_ff A (pk_I M 107) (j)))) (fun j => [some (.ref 103), none, some (.int (nI (sp_c (sp_root A) j))), some (.int (nI j)), none]) ?_ ?_ 0 (by omega)
          · intro j hj K
            have hN3 : pm_now L (pk_wI (pk_wI M 106 (fun q => if q < 48 then nI ((l) q) else pk_I M 106 q)) 107 (sp_ff A (pk_I M 107) (j))) A := pm_now.wI (pm_now.wI ⟨hW, hA, hok⟩ (by decide) _) (by decide) _
            have hW3 := hN3.1
            have hlj := h1.le hj
            have hlv : pk_I (pk_wI (pk_wI M 106 (fun q => if q < 48 then nI ((l) q) else pk_I M 106 q)) 107 (sp_ff A (pk_I M 107) (j))) 106 j = nI (l j) := pk_gW0 (by decide) (pk_gW1 rfl (if_pos hj))
            have hcj := sp_c_le (sp_root A) j
            have hcs := sp_c_succ (sp_root A) j
            have hfs : sp_ff A (pk_I M 107) (j + 1) = if sp_root A j = true then (fun k => if k = sp_c (sp_root A) j then nI j else sp_ff A (pk_I M 107) j k) else sp_ff A (pk_I M 107) j := rfl
            refine pk_iload_n dX7_areas_109 rfl ?_
            refine pk_bipush (v := nI 48) dX7_areas_110 (by decide) ?_
            first | refine pk_geN (tgt := 149) dX7_areas_112 (by decide) (by omega) (by omega) (fun c_112 => ?_) (fun c_112 => ?_) | refine pk_icmp_ge (tgt := 149) dX7_areas_112 (by decide) (fun c_112 => ?_) (fun c_112 => ?_)
            · omega
            · refine pk_aload_n dX7_areas_115 rfl ?_
              refine pk_iload_n dX7_areas_116 rfl ?_
              refine pk_Vi dX7_areas_117 ml_X7_88 yw_X7_isIn yv_X7_isIn (hW3.s rfl) (e_X7_isIn hN3 (by omega)) rfl rfl rfl rfl rfl rfl rfl ?_
              first | refine pk_eqb (tgt := 143) dX7_areas_120 (by decide) (fun c_120 => ?_) (fun c_120 => ?_) | refine pk_eq0N (tgt := 143) dX7_areas_120 (by decide) (by omega) (fun c_120 => ?_) (fun c_120 => ?_) | refine pk_if_eq (tgt := 143) dX7_areas_120 (by decide) (fun c_120 => ?_) (fun c_120 => ?_)
              · first | refine pk_inc1 dX7_areas_143 rfl rfl ?_ | refine pk_iinc dX7_areas_143 rfl rfl rfl ?_
                refine pk_goto (tgt := 109) dX7_areas_146 (by decide) ?_
                have hr : sp_root A j = false := sp_root_out c_120
                rw [hr, if_neg (by decide)] at hcs hfs
                rw [hcs, hfs] at K
                exact K
              · refine pk_aload_n dX7_areas_123 rfl ?_
                refine pk_getP dX7_areas_124 fl_X7_16 rfl (hW3.s rfl) (hW3.p rfl) ?_
                refine pk_iload_n dX7_areas_127 rfl ?_
                refine pk_aldN dX7_areas_128 (hW3.s rfl) (by omega) (by omega) hlv ?_
                refine pk_iload_n dX7_areas_129 rfl ?_
                first | refine pk_neN (tgt := 143) dX7_areas_130 (by decide) (by omega) (by omega) (fun c_130 => ?_) (fun c_130 => ?_) | refine pk_icmp_ne (tgt := 143) dX7_areas_130 (by decide) (fun c_130 => ?_) (fun c_130 => ?_)
                · first | refine pk_inc1 dX7_areas_143 rfl rfl ?_ | refine pk_iinc dX7_areas_143 rfl rfl rfl ?_
                  refine pk_goto (tgt := 109) dX7_areas_146 (by decide) ?_
                  have hr : sp_root A j = false := by
                    unfold sp_root
                    rw [← hall j c_120, beq_eq_false_iff_ne.mpr c_130, Bool.and_false]
                  rw [hr, if_neg (by decide)] at hcs hfs
                  rw [hcs, hfs] at K
                  exact K
                · refine pk_aload_n dX7_areas_133 rfl ?_
                  refine pk_getP dX7_areas_134 fl_X7_19 rfl (hW3.s rfl) (hW3.p rfl) ?_
                  refine pk_iload_n dX7_areas_137 rfl ?_
                  refine pk_iload_n dX7_areas_138 rfl ?_
                  refine pk_astN dX7_areas_139 (hW3.s rfl) (by omega) (by omega) (by omega) ?_
                  rw [pk_wI_sI]
                  first | refine pk_inc1 dX7_areas_140 rfl rfl ?_ | refine pk_iinc dX7_areas_140 rfl rfl rfl ?_
                  first | refine pk_inc1 dX7_areas_143 rfl rfl ?_ | refine pk_iinc dX7_areas_143 rfl rfl rfl ?_
                  refine pk_goto (tgt := 109) dX7_areas_146 (by decide) ?_
                  have hr : sp_root A j = true := by
                    unfold sp_root
                    rw [c_120, ← hall j c_120, beq_iff_eq.mpr c_130]
                    rfl
                  rw [hr, if_pos rfl] at hcs hfs
                  rw [hcs, hfs] at K
                  exact K
          · have hW3 : pk_WF L (pk_wI (pk_wI M 106 (fun q => if q < 48 then nI ((l) q) else pk_I M 106 q)) 107 (sp_ff A (pk_I M 107) (48))) := (hW.to rfl rfl)
            refine pk_iload_n dX7_areas_109 rfl ?_
            refine pk_bipush (v := nI 48) dX7_areas_110 (by decide) ?_
            first | refine pk_geN (tgt := 149) dX7_areas_112 (by decide) (by omega) (by omega) (fun c_112 => ?_) (fun c_112 => ?_) | refine pk_icmp_ge (tgt := 149) dX7_areas_112 (by decide) (fun c_112 => ?_) (fun c_112 => ?_)
            · refine pk_iload_n dX7_areas_149 rfl ?_
              refine pk_reti dX7_areas_150 (by first | rfl | exact pk_nbi _) ?_
              refine ⟨rfl, (pk_fr.wI (Or.inl rfl)).tr (pk_fr.wI (Or.inr rfl)), fun q hq hi => pk_gW0 (by decide) (pk_gW1 rfl ?_), fun q hq hi => pk_gW0 (by decide) (pk_gW1 rfl ?_), fun r hr => pk_gW1 rfl (sp_ff_spec 48 r ?_ hr)⟩
              · rw [if_pos hq, hall q hi]
              · rw [if_pos hq, (h1 q hq).2 hi]
              · unfold sp_root at hr
                rw [Bool.and_eq_true] at hr
                exact (sp_in_lt hok hr.1).2.2
            · omega
        · refine pk_iconst (v := nI 0) dX7_areas_35 (by decide) ?_
          refine pk_istore_n dX7_areas_36 rfl rfl ?_
          refine pk_iconst (v := nI 0) dX7_areas_37 (by decide) ?_
          refine pk_istore_n dX7_areas_38 rfl rfl ?_
          refine pk_fgt (ls' := [some (.ref 103), some (.int (pk_bi (sp_any (sp_mv A l) 0))), some (.int (nI t)), some (.int (nI 0)), none]) (by repeat first | exact trivial | refine ⟨rfl, ?_⟩) ?_
          refine pk_for 48 (fun j => (pk_wI M 106 (fun q => if q < 48 then nI (sp_swp A l (j) q) else pk_I M 106 q))) (fun j => [some (.ref 103), some (.int (pk_bi (sp_any (sp_mv A l) j))), some (.int (nI t)), some (.int (nI j)), none]) ?_ ?_ 0 (by omega)
          · intro j hj K
            have hN3 : pm_now L (pk_wI M 106 (fun q => if q < 48 then nI (sp_swp A l (j) q) else pk_I M 106 q)) A := pm_now.wI ⟨hW, hA, hok⟩ (by decide) _
            have hW3 := hN3.1
            have hVj := sp_swp_V hok h1 j (by omega)
            have hB3 : ∀ q, q < 48 → pk_I (pk_wI M 106 (fun q => if q < 48 then nI (sp_swp A l (j) q) else pk_I M 106 q)) 106 q = nI (sp_swp A l j q) := fun q hq => pk_gW1 rfl (if_pos hq)
            have hl3 : ∀ q, q < 48 → sp_swp A l j q < 48 := fun q hq => by have := hVj.le hq; omega
            have hlj := h1.le hj
            have hfl := (sp_swp_V hok h1 (j + 1) (by omega)).le hj
            have hfd := sp_swp_at A l j
            have hlv : pk_I (pk_wI M 106 (fun q => if q < 48 then nI (sp_swp A l (j) q) else pk_I M 106 q)) 106 j = nI (l j) := by rw [hB3 j hj, sp_swp_ge A l (Nat.le_refl j)]
            refine pk_iload_n dX7_areas_39 rfl ?_
            refine pk_bipush (v := nI 48) dX7_areas_40 (by decide) ?_
            first | refine pk_geN (tgt := 99) dX7_areas_42 (by decide) (by omega) (by omega) (fun c_42 => ?_) (fun c_42 => ?_) | refine pk_icmp_ge (tgt := 99) dX7_areas_42 (by decide) (fun c_42 => ?_) (fun c_42 => ?_)
            · omega
            · refine pk_aload_n dX7_areas_45 rfl ?_
              refine pk_iload_n dX7_areas_46 rfl ?_
              refine pk_Vi dX7_areas_47 ml_X7_88 yw_X7_isIn yv_X7_isIn (hW3.s rfl) (e_X7_isIn hN3 (by omega)) rfl rfl rfl rfl rfl rfl rfl ?_
              first | refine pk_eqb (tgt := 61) dX7_areas_50 (by decide) (fun c_50 => ?_) (fun c_50 => ?_) | refine pk_eq0N (tgt := 61) dX7_areas_50 (by decide) (by omega) (fun c_50 => ?_) (fun c_50 => ?_) | refine pk_if_eq (tgt := 61) dX7_areas_50 (by decide) (fun c_50 => ?_) (fun c_50 => ?_)
              · refine pk_iload_n dX7_areas_61 rfl ?_
                rw [c_50, if_neg (by decide)] at hfd
                refine pk_stq (st' := [.int (nI (sp_swp A l (j + 1) j))]) (by rw [hfd]) ?_
                refine pk_istore dX7_areas_62 rfl rfl ?_
                refine pk_iload_n dX7_areas_64 rfl ?_
                refine pk_neb (tgt := 79) dX7_areas_65 (by decide) (fun c_65 => ?_) (fun c_65 => ?_)
                · refine pk_iconst (v := nI 1) dX7_areas_79 (by decide) ?_
                  refine pk_goto (tgt := 84) dX7_areas_80 (by decide) ?_
                  refine pk_istore_n dX7_areas_84 rfl rfl ?_
                  refine pk_aload_n dX7_areas_85 rfl ?_
                  refine pk_getP dX7_areas_86 fl_X7_16 rfl (hW3.s rfl) (hW3.p rfl) ?_
                  refine pk_iload_n dX7_areas_89 rfl ?_
                  refine pk_iload dX7_areas_90 rfl ?_
                  refine pk_astN dX7_areas_92 (hW3.s rfl) (by omega) (by omega) (by omega) ?_
                  first | refine pk_inc1 dX7_areas_93 rfl rfl ?_ | refine pk_iinc dX7_areas_93 rfl rfl rfl ?_
                  refine pk_goto (tgt := 39) dX7_areas_96 (by decide) ?_
                  have e1 : sp_any (sp_mv A l) (j + 1) = true := by
                    rw [sp_any_succ, c_65, Bool.true_or]
                  rw [e1] at K
                  rw [pk_wI_sI]
                  refine pk_Mq ?_ (pk_fgt (by repeat first | exact trivial | refine ⟨rfl, ?_⟩) K)
                  congr 1
                  funext q
                  by_cases e : q = j
                  · rw [if_pos e, if_pos (by omega), e]
                  · rw [if_neg e, sp_swp_ne A l e]
                · refine pk_iload dX7_areas_68 rfl ?_
                  refine pk_aload_n dX7_areas_70 rfl ?_
                  refine pk_getP dX7_areas_71 fl_X7_16 rfl (hW3.s rfl) (hW3.p rfl) ?_
                  refine pk_iload_n dX7_areas_74 rfl ?_
                  refine pk_aldN dX7_areas_75 (hW3.s rfl) (by omega) (by omega) hlv ?_
                  first | refine pk_eqN (tgt := 83) dX7_areas_76 (by decide) (by omega) (by omega) (fun c_76 => ?_) (fun c_76 => ?_) | refine pk_icmp_eq (tgt := 83) dX7_areas_76 (by decide) (fun c_76 => ?_) (fun c_76 => ?_)
                  · refine pk_iconst (v := nI 0) dX7_areas_83 (by decide) ?_
                    refine pk_istore_n dX7_areas_84 rfl rfl ?_
                    refine pk_aload_n dX7_areas_85 rfl ?_
                    refine pk_getP dX7_areas_86 fl_X7_16 rfl (hW3.s rfl) (hW3.p rfl) ?_
                    refine pk_iload_n dX7_areas_89 rfl ?_
                    refine pk_iload dX7_areas_90 rfl ?_
                    refine pk_astN dX7_areas_92 (hW3.s rfl) (by omega) (by omega) (by omega) ?_
                    first | refine pk_inc1 dX7_areas_93 rfl rfl ?_ | refine pk_iinc dX7_areas_93 rfl rfl rfl ?_
                    refine pk_goto (tgt := 39) dX7_areas_96 (by decide) ?_
                    have e1 : sp_any (sp_mv A l) (j + 1) = false := by
                      rw [sp_any_succ, c_65, Bool.false_or]
                      unfold sp_mv
                      rw [beq_iff_eq.mpr c_76]
                      rfl
                    rw [e1] at K
                    rw [pk_wI_sI]
                    refine pk_Mq ?_ (pk_fgt (by repeat first | exact trivial | refine ⟨rfl, ?_⟩) K)
                    congr 1
                    funext q
                    by_cases e : q = j
                    · rw [if_pos e, if_pos (by omega), e]
                    · rw [if_neg e, sp_swp_ne A l e]
                  · refine pk_iconst (v := nI 1) dX7_areas_79 (by decide) ?_
                    refine pk_goto (tgt := 84) dX7_areas_80 (by decide) ?_
                    refine pk_istore_n dX7_areas_84 rfl rfl ?_
                    refine pk_aload_n dX7_areas_85 rfl ?_
                    refine pk_getP dX7_areas_86 fl_X7_16 rfl (hW3.s rfl) (hW3.p rfl) ?_
                    refine pk_iload_n dX7_areas_89 rfl ?_
                    refine pk_iload dX7_areas_90 rfl ?_
                    refine pk_astN dX7_areas_92 (hW3.s rfl) (by omega) (by omega) (by omega) ?_
                    first | refine pk_inc1 dX7_areas_93 rfl rfl ?_ | refine pk_iinc dX7_areas_93 rfl rfl rfl ?_
                    refine pk_goto (tgt := 39) dX7_areas_96 (by decide) ?_
                    have e1 : sp_any (sp_mv A l) (j + 1) = true := by
                      rw [sp_any_succ, c_65, Bool.false_or]
                      unfold sp_mv
                      rw [beq_eq_false_iff_ne.mpr c_76]
                      rfl
                    rw [e1] at K
                    rw [pk_wI_sI]
                    refine pk_Mq ?_ (pk_fgt (by repeat first | exact trivial | refine ⟨rfl, ?_⟩) K)
                    congr 1
                    funext q
                    by_cases e : q = j
                    · rw [if_pos e, if_pos (by omega), e]
                    · rw [if_neg e, sp_swp_ne A l e]
              · refine pk_aload_n dX7_areas_53 rfl ?_
                refine pk_iload_n dX7_areas_54 rfl ?_
                refine pk_Vi dX7_areas_55 ml_X7_108 yw_X7_leastBeside yv_X7_leastBeside (hW3.s rfl) (e_X7_leastBeside hN3 hB3 hl3 c_50) rfl rfl rfl rfl rfl rfl rfl ?_
                refine pk_goto (tgt := 62) dX7_areas_58 (by decide) ?_
                rw [c_50, if_pos rfl] at hfd
                refine pk_stq (st' := [.int (nI (sp_swp A l (j + 1) j))]) (by rw [hfd]) ?_
                refine pk_istore dX7_areas_62 rfl rfl ?_
                refine pk_iload_n dX7_areas_64 rfl ?_
                refine pk_neb (tgt := 79) dX7_areas_65 (by decide) (fun c_65 => ?_) (fun c_65 => ?_)
                · refine pk_iconst (v := nI 1) dX7_areas_79 (by decide) ?_
                  refine pk_goto (tgt := 84) dX7_areas_80 (by decide) ?_
                  refine pk_istore_n dX7_areas_84 rfl rfl ?_
                  refine pk_aload_n dX7_areas_85 rfl ?_
                  refine pk_getP dX7_areas_86 fl_X7_16 rfl (hW3.s rfl) (hW3.p rfl) ?_
                  refine pk_iload_n dX7_areas_89 rfl ?_
                  refine pk_iload dX7_areas_90 rfl ?_
                  refine pk_astN dX7_areas_92 (hW3.s rfl) (by omega) (by omega) (by omega) ?_
                  first | refine pk_inc1 dX7_areas_93 rfl rfl ?_ | refine pk_iinc dX7_areas_93 rfl rfl rfl ?_
                  refine pk_goto (tgt := 39) dX7_areas_96 (by decide) ?_
                  have e1 : sp_any (sp_mv A l) (j + 1) = true := by
                    rw [sp_any_succ, c_65, Bool.true_or]
                  rw [e1] at K
                  rw [pk_wI_sI]
                  refine pk_Mq ?_ (pk_fgt (by repeat first | exact trivial | refine ⟨rfl, ?_⟩) K)
                  congr 1
                  funext q
                  by_cases e : q = j
                  · rw [if_pos e, if_pos (by omega), e]
                  · rw [if_neg e, sp_swp_ne A l e]
                · refine pk_iload dX7_areas_68 rfl ?_
                  refine pk_aload_n dX7_areas_70 rfl ?_
                  refine pk_getP dX7_areas_71 fl_X7_16 rfl (hW3.s rfl) (hW3.p rfl) ?_
                  refine pk_iload_n dX7_areas_74 rfl ?_
                  refine pk_aldN dX7_areas_75 (hW3.s rfl) (by omega) (by omega) hlv ?_
                  first | refine pk_eqN (tgt := 83) dX7_areas_76 (by decide) (by omega) (by omega) (fun c_76 => ?_) (fun c_76 => ?_) | refine pk_icmp_eq (tgt := 83) dX7_areas_76 (by decide) (fun c_76 => ?_) (fun c_76 => ?_)
                  · refine pk_iconst (v := nI 0) dX7_areas_83 (by decide) ?_
                    refine pk_istore_n dX7_areas_84 rfl rfl ?_
                    refine pk_aload_n dX7_areas_85 rfl ?_
                    refine pk_getP dX7_areas_86 fl_X7_16 rfl (hW3.s rfl) (hW3.p rfl) ?_
                    refine pk_iload_n dX7_areas_89 rfl ?_
                    refine pk_iload dX7_areas_90 rfl ?_
                    refine pk_astN dX7_areas_92 (hW3.s rfl) (by omega) (by omega) (by omega) ?_
                    first | refine pk_inc1 dX7_areas_93 rfl rfl ?_ | refine pk_iinc dX7_areas_93 rfl rfl rfl ?_
                    refine pk_goto (tgt := 39) dX7_areas_96 (by decide) ?_
                    have e1 : sp_any (sp_mv A l) (j + 1) = false := by
                      rw [sp_any_succ, c_65, Bool.false_or]
                      unfold sp_mv
                      rw [beq_iff_eq.mpr c_76]
                      rfl
                    rw [e1] at K
                    rw [pk_wI_sI]
                    refine pk_Mq ?_ (pk_fgt (by repeat first | exact trivial | refine ⟨rfl, ?_⟩) K)
                    congr 1
                    funext q
                    by_cases e : q = j
                    · rw [if_pos e, if_pos (by omega), e]
                    · rw [if_neg e, sp_swp_ne A l e]
                  · refine pk_iconst (v := nI 1) dX7_areas_79 (by decide) ?_
                    refine pk_goto (tgt := 84) dX7_areas_80 (by decide) ?_
                    refine pk_istore_n dX7_areas_84 rfl rfl ?_
                    refine pk_aload_n dX7_areas_85 rfl ?_
                    refine pk_getP dX7_areas_86 fl_X7_16 rfl (hW3.s rfl) (hW3.p rfl) ?_
                    refine pk_iload_n dX7_areas_89 rfl ?_
                    refine pk_iload dX7_areas_90 rfl ?_
                    refine pk_astN dX7_areas_92 (hW3.s rfl) (by omega) (by omega) (by omega) ?_
                    first | refine pk_inc1 dX7_areas_93 rfl rfl ?_ | refine pk_iinc dX7_areas_93 rfl rfl rfl ?_
                    refine pk_goto (tgt := 39) dX7_areas_96 (by decide) ?_
                    have e1 : sp_any (sp_mv A l) (j + 1) = true := by
                      rw [sp_any_succ, c_65, Bool.false_or]
                      unfold sp_mv
                      rw [beq_eq_false_iff_ne.mpr c_76]
                      rfl
                    rw [e1] at K
                    rw [pk_wI_sI]
                    refine pk_Mq ?_ (pk_fgt (by repeat first | exact trivial | refine ⟨rfl, ?_⟩) K)
                    congr 1
                    funext q
                    by_cases e : q = j
                    · rw [if_pos e, if_pos (by omega), e]
                    · rw [if_neg e, sp_swp_ne A l e]
          · have hW3 : pk_WF L (pk_wI M 106 (fun q => if q < 48 then nI (sp_swp A l (48) q) else pk_I M 106 q)) := hW.to rfl rfl
            refine pk_iload_n dX7_areas_39 rfl ?_
            refine pk_bipush (v := nI 48) dX7_areas_40 (by decide) ?_
            first | refine pk_geN (tgt := 99) dX7_areas_42 (by decide) (by omega) (by omega) (fun c_42 => ?_) (fun c_42 => ?_) | refine pk_icmp_ge (tgt := 99) dX7_areas_42 (by decide) (fun c_42 => ?_) (fun c_42 => ?_)
            · first | refine pk_inc1 dX7_areas_99 rfl rfl ?_ | refine pk_iinc dX7_areas_99 rfl rfl rfl ?_
              refine pk_goto (tgt := 25) dX7_areas_102 (by decide) ?_
              refine pk_fgt (by repeat first | exact trivial | refine ⟨rfl, ?_⟩) (K1 (t + 1, sp_any (sp_mv A l) 48, sp_swp A l 48) ⟨sp_swp_V hok h1 48 (by decide), by dsimp only; omega, fun hm => ?_, ?_⟩ (by dsimp only; omega))
              · apply sp_all48_swp hok h1
                apply Classical.byContradiction
                intro hn
                exact absurd ((sp_round hok h1 hn).2.symm.trans hm) (by decide)
              · by_cases hn : sp_all48 A l
                · exact Or.inl (sp_all48_swp hok h1 hn)
                · have hr := (sp_round hok h1 hn).1
                  refine Or.inr ?_
                  rcases h4 with z | z
                  · exact absurd z hn
                  · dsimp only
                    omega
            · omega
    · omega
