/-! Areas: finding them. -/
section PkV
variable {Γ : pk_T} {κ : pk_K} {cc : ByteArray} {M : pk_M} {ls : List (Option Value)} {st : List Value} {pc cu su : Nat}
theorem pk_aldV {q N i : Nat} {x : Int32} (hd : decode cc pc = .ok (.iaload, 1)) (hs : pk_S M q = some (.inl (.int, N))) (hi : i < N) (hN : N < 2 ^ 31) (hv : pk_I M q i = x) (k : pk_G Γ κ cc M ls (.int x :: st) (pc + 1) cu su) : pk_G Γ κ cc M ls (.int (nI i) :: .ref q :: st) pc cu su :=
  pk_aldR hd hs hi hN (by rw [hv]; exact k)
end PkV
theorem sp_c_add {R : Nat → Bool} {r n : Nat} (hr : r < n) (h : R r = false) : sp_c (fun q => (q == r) || R q) n = sp_c R n + 1 := by
  induction n with
  | zero => omega
  | succ n ih =>
    rw [sp_c_succ, sp_c_succ]
    by_cases e : r = n
    · subst e
      rw [h]
      simp only [beq_self_eq_true, Bool.true_or, if_true, Bool.false_eq_true, if_false]
      rw [sp_c_congr (g := R)]
      intro q hq
      have : (q == r) = false := by simp; omega
      rw [this, Bool.false_or]
    · have : (n == r) = false := by simp; omega
      rw [ih (by omega), this, Bool.false_or]
      split <;> omega
theorem pk_nneg {n : Nat} (h : n < 2 ^ 31) : ¬ nI n < 0 := nI_pos h

set_option maxRecDepth 100000 in
set_option maxHeartbeats 4000000 in
theorem e_X0_at {Γ : pk_T} {M : pk_M} {L i j : Nat} (hW : pk_WF L M) (hij : j * 8 + i < 48) : pk_E Γ yX0_at cX0_at 4 (some .int) 1 0 0 M [.ref 82, .int (nI i), .int (nI j)] (fun r M' => r = some (.int (pk_I M 83 (j * 8 + i))) ∧ M' = M) := by
  refine pk_meth (own := RX0) (ini := false) [some (.ref 82), some (.int (nI i)), some (.int (nI j)), none] (by decide +kernel) rfl (by decide +kernel) rfl rfl ?_
  refine pk_iload_n dX0_at_0 rfl ?_
  refine pk_iload_n dX0_at_1 rfl ?_
  refine pk_Si dX0_at_2 ml_X0_56 yw_X4_indexOf ys_X4_indexOf (e_X4_indexOf _ _) rfl rfl rfl rfl rfl rfl rfl ?_
  refine pk_istore_n dX0_at_5 rfl rfl ?_
  refine pk_iload_n dX0_at_6 rfl ?_
  refine pk_bipush (v := nI 48) dX0_at_7 (by decide) ?_
  refine pk_Si dX0_at_9 ml_X0_51 yw_X6_isBelow ys_X6_isBelow (e_X6_isBelow _ _) rfl rfl rfl rfl rfl rfl rfl ?_
  first | refine pk_eqb (tgt := 24) dX0_at_12 (by decide) (fun c_12 => ?_) (fun c_12 => ?_) | refine pk_eq0N (tgt := 24) dX0_at_12 (by decide) (by omega) (fun c_12 => ?_) (fun c_12 => ?_) | refine pk_if_eq (tgt := 24) dX0_at_12 (by decide) (fun c_12 => ?_) (fun c_12 => ?_)
  · exfalso; simp [nI_pos' (show j * 8 + i < 2 ^ 31 by omega), nI_ltI (show j * 8 + i < 2 ^ 31 by omega) (show 48 < 2 ^ 31 by decide)] at c_12; omega
  · refine pk_aload_n dX0_at_15 rfl ?_
    refine pk_getP dX0_at_16 fl_X0_9 rfl (hW.s rfl) (hW.p rfl) ?_
    refine pk_iload_n dX0_at_19 rfl ?_
    refine pk_aldR dX0_at_20 (hW.s rfl) (by omega) (by omega) ?_
    refine pk_goto (tgt := 25) dX0_at_21 (by decide) ?_
    refine pk_reti dX0_at_25 (by first | rfl | exact pk_nbi _) ?_
    exact ⟨rfl, rfl⟩

set_option maxRecDepth 100000 in
set_option maxHeartbeats 4000000 in
theorem e_X0_join {Γ : pk_T} {M : pk_M} {L i j : Nat} (hW : pk_WF L M) (hij : j * 8 + i < 48) {n a : Nat} (hn : pk_I M 82 5 = nI n) (hn48 : n < 2 ^ 31) : pk_E Γ yX0_join cX0_join 5 none 1 0 0 M [.ref 82, .int (nI i), .int (nI j), .int (nI a)] (fun r M' => r = none ∧ M' = if pk_I M 83 (j * 8 + i) < 0 ∧ n < 48 then pk_sI (pk_sI (pk_sI M 83 (j * 8 + i) (nI a)) 86 n (nI (j * 8 + i))) 82 5 (nI (n + 1)) else M) := by
  refine pk_meth (own := RX0) (ini := false) [some (.ref 82), some (.int (nI i)), some (.int (nI j)), some (.int (nI a)), none] (by decide +kernel) rfl (by decide +kernel) rfl rfl ?_
  refine pk_iload_n dX0_join_0 rfl ?_
  refine pk_iload_n dX0_join_1 rfl ?_
  refine pk_Si dX0_join_2 ml_X0_56 yw_X4_indexOf ys_X4_indexOf (e_X4_indexOf _ _) rfl rfl rfl rfl rfl rfl rfl ?_
  refine pk_istore dX0_join_5 rfl rfl ?_
  refine pk_iload dX0_join_7 rfl ?_
  refine pk_bipush (v := nI 48) dX0_join_9 (by decide) ?_
  refine pk_Si dX0_join_11 ml_X0_51 yw_X6_isBelow ys_X6_isBelow (e_X6_isBelow _ _) rfl rfl rfl rfl rfl rfl rfl ?_
  first | refine pk_eqb (tgt := 68) dX0_join_14 (by decide) (fun c_14 => ?_) (fun c_14 => ?_) | refine pk_eq0N (tgt := 68) dX0_join_14 (by decide) (by omega) (fun c_14 => ?_) (fun c_14 => ?_) | refine pk_if_eq (tgt := 68) dX0_join_14 (by decide) (fun c_14 => ?_) (fun c_14 => ?_)
  · exfalso; simp [nI_pos' (show j * 8 + i < 2 ^ 31 by omega), nI_ltI (show j * 8 + i < 2 ^ 31 by omega) (show 48 < 2 ^ 31 by decide)] at c_14; omega
  · refine pk_aload_n dX0_join_17 rfl ?_
    refine pk_getP dX0_join_18 fl_X0_9 rfl (hW.s rfl) (hW.p rfl) ?_
    refine pk_iload dX0_join_21 rfl ?_
    refine pk_aldR dX0_join_23 (hW.s rfl) (by omega) (by omega) ?_
    refine pk_if_ge (tgt := 68) dX0_join_24 (by decide) (fun c_24 => ?_) (fun c_24 => ?_)
    · refine pk_retv dX0_join_68 ?_
      refine ⟨rfl, ?_⟩
      first
        | rw [if_pos (And.intro (Int32.not_le.mp c_24) hnl)]
        | (rw [if_neg]
           rintro ⟨h1, h2⟩
           first
             | exact absurd c_24 (Int32.not_le.mpr h1)
             | (rw [decide_eq_true (nI_pos' hn48), decide_eq_true (nI_lt h2 (by decide))] at c_36
                cases c_36))
    · refine pk_aload_n dX0_join_27 rfl ?_
      refine pk_getN dX0_join_28 fl_X0_28 rfl (hW.s rfl) hn ?_
      refine pk_bipush (v := nI 48) dX0_join_31 (by decide) ?_
      refine pk_Si dX0_join_33 ml_X0_51 yw_X6_isBelow ys_X6_isBelow (e_X6_isBelow _ _) rfl rfl rfl rfl rfl rfl rfl ?_
      first | refine pk_eqb (tgt := 68) dX0_join_36 (by decide) (fun c_36 => ?_) (fun c_36 => ?_) | refine pk_eq0N (tgt := 68) dX0_join_36 (by decide) (by omega) (fun c_36 => ?_) (fun c_36 => ?_) | refine pk_if_eq (tgt := 68) dX0_join_36 (by decide) (fun c_36 => ?_) (fun c_36 => ?_)
      · refine pk_retv dX0_join_68 ?_
        refine ⟨rfl, ?_⟩
        first
          | rw [if_pos (And.intro (Int32.not_le.mp c_24) hnl)]
          | (rw [if_neg]
             rintro ⟨h1, h2⟩
             first
               | exact absurd c_24 (Int32.not_le.mpr h1)
               | (rw [decide_eq_true (nI_pos' hn48), decide_eq_true (nI_lt h2 (by decide))] at c_36
                  cases c_36))
      · have hnl : n < 48 := by
          rw [Bool.and_eq_true, decide_eq_true_eq, decide_eq_true_eq] at c_36
          exact (nI_ltI hn48 (by decide)).mp c_36.2
        refine pk_aload_n dX0_join_39 rfl ?_
        refine pk_getP dX0_join_40 fl_X0_9 rfl (hW.s rfl) (hW.p rfl) ?_
        refine pk_iload dX0_join_43 rfl ?_
        refine pk_iload_n dX0_join_45 rfl ?_
        refine pk_astN dX0_join_46 (hW.s rfl) (by omega) (by omega) (by omega) ?_
        refine pk_aload_n dX0_join_47 rfl ?_
        refine pk_getP dX0_join_48 fl_X0_21 rfl (hW.s rfl) (hW.p rfl) ?_
        refine pk_aload_n dX0_join_51 rfl ?_
        refine pk_getN dX0_join_52 fl_X0_28 rfl (hW.s rfl) (pk_gS0 (by omega) hn) ?_
        refine pk_iload dX0_join_55 rfl ?_
        refine pk_astN dX0_join_57 (hW.s rfl) (by omega) (by omega) (by omega) ?_
        refine pk_aload_n dX0_join_58 rfl ?_
        refine pk_dup dX0_join_59 rfl ?_
        refine pk_getN dX0_join_60 fl_X0_28 rfl (hW.s rfl) (pk_gS0 (by omega) (pk_gS0 (by omega) hn)) ?_
        refine pk_iconst (v := nI 1) dX0_join_63 (by decide) ?_
        first | refine pk_addN dX0_join_64 ?_ | refine pk_iadd dX0_join_64 ?_
        refine pk_putI dX0_join_65 fl_X0_28 rfl rfl rfl rfl (hW.s rfl) ?_
        refine pk_retv dX0_join_68 ?_
        refine ⟨rfl, ?_⟩
        first
          | rw [if_pos (And.intro (Int32.not_le.mp c_24) hnl)]
          | (rw [if_neg]
             rintro ⟨h1, h2⟩
             first
               | exact absurd c_24 (Int32.not_le.mpr h1)
               | (rw [decide_eq_true (nI_pos' hn48), decide_eq_true (nI_lt h2 (by decide))] at c_36
                  cases c_36))

/-- the search from the place q0, for the area a: n places are met (R, in the row Q) -/
def pk_bfs (A : pk_St) (M0 M1 : pk_M) (a q0 n : Nat) (R : Nat → Bool) (Q : Nat → Nat) : Prop :=
  pk_fr (fun q => 82 ≤ q ∧ q ≤ 87) M0 M1 ∧ pk_I M1 82 5 = nI n ∧ n = sp_c R 48 ∧ pk_I M1 82 6 = nI (a + 1) ∧ (∀ j, j < 48 → pk_I M1 84 j = if j = a then nI q0 else pk_I M0 84 j) ∧ (∀ j, pk_I M1 85 j = pk_I M0 85 j) ∧
  (∀ q, q < 48 → pk_I M1 83 q = if R q then nI a else pk_I M0 83 q) ∧ (∀ i, i < n → pk_I M1 86 i = nI (Q i) ∧ Q i < 48 ∧ R (Q i) = true) ∧ (∀ q, q < 48 → R q = true → ∃ i, i < n ∧ Q i = q) ∧ (∀ q, R q = true → sp_in A q = true ∧ sp_lab A q = q0)
theorem pk_bfs.join {A : pk_St} (hA : pk_okS A) {M0 M1 : pk_M} {a q0 n r : Nat} {R : Nat → Bool} {Q : Nat → Nat} (ha : a < 48) (h : pk_bfs A M0 M1 a q0 n R Q) (h0 : ∀ q, sp_in A q = true → sp_lab A q = q0 → pk_I M0 83 q = -1) (hr : sp_in A r = true) (hl : sp_lab A r = q0) (M2 : pk_M) (e : M2 = if pk_I M1 83 r < 0 ∧ n < 48 then pk_sI (pk_sI (pk_sI M1 83 r (nI a)) 86 n (nI r)) 82 5 (nI (n + 1)) else M1) :
    ∃ n2 R2 Q2, pk_bfs A M0 M2 a q0 n2 R2 Q2 ∧ n ≤ n2 ∧ R2 r = true ∧ (∀ q, R q = true → R2 q = true) ∧ ∀ i, i < n → Q2 i = Q i := by
  obtain ⟨h1, h2, h3, h4, h5, h6, h7, h8, h9, h10⟩ := h
  have hr48 := (sp_in_lt hA hr).2.2
  cases hR : R r with
  | true =>
    have hv := h7 r hr48
    rw [hR, if_pos rfl] at hv
    rw [if_neg (fun z => by rw [hv] at z; exact nI_pos (by omega) z.1)] at e
    subst e
    exact ⟨n, R, Q, ⟨h1, h2, h3, h4, h5, h6, h7, h8, h9, h10⟩, Nat.le_refl _, hR, fun _ z => z, fun _ _ => rfl⟩
  | false =>
    have hv := h7 r hr48
    rw [hR, if_neg (by decide), h0 r hr hl] at hv
    have hadd := sp_c_add hr48 hR
    have hle := sp_c_le (fun q => (q == r) || R q) 48
    have hn : n < 48 := by omega
    rw [if_pos ⟨by rw [hv]; decide, hn⟩] at e
    refine ⟨n + 1, fun q => (q == r) || R q, fun i => if i = n then r else Q i, ⟨?_, ?_, by omega, ?_, fun j hj => ?_, fun j => ?_, fun q hq => ?_, fun i hi => ?_, fun q hq hq2 => ?_, fun q hq => ?_⟩, by omega, by simp, fun q z => by simp [z], fun i hi => if_neg (by omega)⟩
    · rw [e]
      exact ((h1.tr (pk_fr.sI ⟨by omega, by omega⟩)).tr (pk_fr.sI ⟨by omega, by omega⟩)).tr (pk_fr.sI ⟨by omega, by omega⟩)
    · rw [e]
      exact pk_gS1 rfl rfl rfl
    · rw [e]
      exact pk_gS0 (by omega) (pk_gS0 (by omega) (pk_gS0 (by omega) h4))
    · rw [e]
      exact pk_gS0 (by omega) (pk_gS0 (by omega) (pk_gS0 (by omega) (h5 j hj)))
    · rw [e]
      exact pk_gS0 (by omega) (pk_gS0 (by omega) (pk_gS0 (by omega) (h6 j)))
    · rw [e]
      refine pk_gS0 (by omega) (pk_gS0 (by omega) ?_)
      by_cases z : q = r
      · subst z
        exact pk_gS1 rfl rfl (by simp)
      · refine pk_gS0 (Or.inr z) ?_
        rw [h7 q hq]
        have : (q == r) = false := by simp [z]
        simp only [this, Bool.false_or]
    · rw [e]
      dsimp only
      by_cases z : i = n
      · subst z
        rw [if_pos rfl]
        exact ⟨pk_gS0 (by omega) (pk_gS1 rfl rfl rfl), hr48, by simp⟩
      · rw [if_neg z]
        obtain ⟨b1, b2, b3⟩ := h8 i (by omega)
        exact ⟨pk_gS0 (by omega) (pk_gS0 (Or.inr z) (pk_gS0 (by omega) b1)), b2, by simp [b3]⟩
    · dsimp only at hq2 ⊢
      by_cases z : q = r
      · exact ⟨n, by omega, by rw [if_pos rfl]; exact z.symm⟩
      · have : (q == r) = false := by simp [z]
        rw [this, Bool.false_or] at hq2
        obtain ⟨i, b1, b2⟩ := h9 q hq hq2
        exact ⟨i, by omega, by rw [if_neg (by omega)]; exact b2⟩
    · dsimp only at hq
      by_cases z : q = r
      · subst z
        exact ⟨hr, hl⟩
      · have : (q == r) = false := by simp [z]
        rw [this, Bool.false_or] at hq
        exact h10 q hq

set_option maxRecDepth 100000 in
set_option maxHeartbeats 4000000 in
theorem e_X0_spreadFrom {Γ : pk_T} {M : pk_M} {L i j a : Nat} {A : pk_St} (hW : pk_WF L M) (hA : pk_At M 6 A) (hok : pk_okS A) (hro : pk_ro M) (hi : i < sp_w A) (hj : j < sp_h A) (hm : pk_I M 82 6 = nI a) (ha : a < 48) (hlab : sp_lab A (j * 8 + i) = j * 8 + i) (h0 : ∀ q, sp_in A q = true → sp_lab A q = j * 8 + i → pk_I M 83 q = -1) : pk_E Γ yX0_spreadFrom cX0_spreadFrom 10 none 3 0 0 M [.ref 82, .int (nI i), .int (nI j), .ref 6] (fun r M' => r = none ∧ pk_fr (fun q => 82 ≤ q ∧ q ≤ 87) M M' ∧ pk_I M' 82 6 = nI (a + 1) ∧ (∀ c, c < 48 → pk_I M' 84 c = if c = a then nI (j * 8 + i) else pk_I M 84 c) ∧ (∀ c, c < 48 → pk_I M' 85 c = if c = a then nI (sp_sz A (j * 8 + i)) else pk_I M 85 c) ∧ ∀ q, sp_in A q = true → pk_I M' 83 q = if sp_lab A q = j * 8 + i then nI a else pk_I M 83 q) := by
  refine pk_meth (own := RX0) (ini := false) [some (.ref 82), some (.int (nI i)), some (.int (nI j)), some (.ref 6), none, none, none, none, none, none] (by decide +kernel) rfl (by decide +kernel) rfl rfl ?_
  have hw := hok.1
  have hh := hok.2.1
  have hij : j * 8 + i < 48 := by omega
  have hin0 : sp_in A (j * 8 + i) = true := sp_in_of (by omega) (by omega)
  have hs0 := hok.2.2.2.2.2.2.2.1 (j * 8 + i) hij
  have hL : ∀ z : pk_M × Nat × Nat × (Nat → Bool) × (Nat → Nat), (fun z : pk_M × Nat × Nat × (Nat → Bool) × (Nat → Nat) => pk_bfs A M z.1 a (j * 8 + i) z.2.2.1 z.2.2.2.1 z.2.2.2.2 ∧ z.2.1 ≤ z.2.2.1 ∧ z.2.2.2.1 (j * 8 + i) = true ∧ ∀ c, c < z.2.1 → ∀ r, sp_adj A (z.2.2.2.2 c) r → z.2.2.2.1 r = true) z → pk_G Γ (pk_kq Γ RX0 10 none false 3 0 0 (List.map (pk_gv Γ) [Value.ref 82, Value.int (nI i), Value.int (nI j), Value.ref 6]).toArray (fun r M' => r = none ∧ pk_fr (fun q => 82 ≤ q ∧ q ≤ 87) M M' ∧ pk_I M' 82 6 = nI (a + 1) ∧ (∀ c, c < 48 → pk_I M' 84 c = if c = a then nI (j * 8 + i) else pk_I M 84 c) ∧ (∀ c, c < 48 → pk_I M' 85 c = if c = a then nI (sp_sz A (j * 8 + i)) else pk_I M 85 c) ∧ ∀ q, sp_in A q = true → pk_I M' 83 q = if sp_lab A q = j * 8 + i then nI a else pk_I M 83 q)) cX0_spreadFrom z.1 [some (.ref 82), some (.int (nI i)), some (.int (nI j)), some (.ref 6), some (.int (nI a)), some (.int (nI (sp_s A (j * 8 + i)))), some (.int (nI z.2.1)), none, none, none] [] 63 0 0 := by
    refine pk_wf (fun z => 48 - z.2.1) (fun z : pk_M × Nat × Nat × (Nat → Bool) × (Nat → Nat) => pk_bfs A M z.1 a (j * 8 + i) z.2.2.1 z.2.2.2.1 z.2.2.2.2 ∧ z.2.1 ≤ z.2.2.1 ∧ z.2.2.2.1 (j * 8 + i) = true ∧ ∀ c, c < z.2.1 → ∀ r, sp_adj A (z.2.2.2.2 c) r → z.2.2.2.1 r = true) (fun z => z.1) (fun z => [some (.ref 82), some (.int (nI i)), some (.int (nI j)), some (.ref 6), some (.int (nI a)), some (.int (nI (sp_s A (j * 8 + i)))), some (.int (nI z.2.1)), none, none, none]) ?_
    rintro ⟨M1, k, n, R, Q⟩ ⟨hb, j2, j3, j4⟩ K
    dsimp only at hb j2 j3 j4 K ⊢
    have hn48 : n ≤ 48 := by have := sp_c_le R 48; have := hb.2.2.1; omega
    have hW1 := hb.1.wf hW
    have hA1 := hb.1.at (p := 6) (fun q h1 h2 h3 => by omega) hA
    have hro1 := hb.1.ro (fun q h1 h2 => by omega) hro
    refine pk_iload dX0_spreadFrom_63 rfl ?_
    refine pk_aload_n dX0_spreadFrom_65 rfl ?_
    refine pk_getN dX0_spreadFrom_66 fl_X0_28 rfl (hW1.s rfl) hb.2.1 ?_
    first | refine pk_geN (tgt := 172) dX0_spreadFrom_69 (by decide) (by omega) (by omega) (fun c_69 => ?_) (fun c_69 => ?_) | refine pk_icmp_ge (tgt := 172) dX0_spreadFrom_69 (by decide) (fun c_69 => ?_) (fun c_69 => ?_)
    · refine pk_aload_n dX0_spreadFrom_172 rfl ?_
      refine pk_getP dX0_spreadFrom_173 fl_X0_18 rfl (hW1.s rfl) (hW1.p rfl) ?_
      refine pk_iload dX0_spreadFrom_176 rfl ?_
      refine pk_aload_n dX0_spreadFrom_178 rfl ?_
      refine pk_getN dX0_spreadFrom_179 fl_X0_28 rfl (hW1.s rfl) hb.2.1 ?_
      refine pk_astN dX0_spreadFrom_182 (hW1.s rfl) (by omega) (by omega) (by omega) ?_
      refine pk_retv dX0_spreadFrom_183 ?_
      have hk : k = n := by omega
      subst hk
      have hall : ∀ q, sp_con A (j * 8 + i) q → R q = true := by
        intro q hq
        obtain ⟨m, hq⟩ := hq
        induction m generalizing q with
        | zero => cases hq; exact j3
        | succ m ih =>
          obtain ⟨y, g1, g2⟩ := hq
          have hy := ih y g1
          obtain ⟨c, g3, g4⟩ := hb.2.2.2.2.2.2.2.2.1 y (sp_in_lt hok g2.1).2.2 hy
          rw [← g4] at g2
          exact j4 c g3 q g2
      have hiff : ∀ q, q < 48 → (sp_in A q && (sp_lab A q == j * 8 + i)) = R q := by
        intro q hq
        cases hR : R q with
        | true =>
          have := hb.2.2.2.2.2.2.2.2.2 q hR
          rw [this.1, this.2]
          simp
        | false =>
          cases h1 : sp_in A q
          · rfl
          · rw [Bool.true_and]
            cases h2 : (sp_lab A q == j * 8 + i)
            · rfl
            · have h3 := sp_lab_con (A := A) hq
              rw [eq_of_beq h2] at h3
              rw [hall q h3] at hR
              cases hR
      have hszn : sp_sz A (j * 8 + i) = k := by
        rw [hb.2.2.1]
        exact sp_c_congr hiff
      refine ⟨rfl, hb.1.tr (pk_fr.sI ⟨by omega, by omega⟩), pk_gS0 (by omega) hb.2.2.2.1, fun c hc => pk_gS0 (by omega) (hb.2.2.2.2.1 c hc), fun c hc => ?_, fun q hq => pk_gS0 (by omega) ?_⟩
      · by_cases e : c = a
        · subst e
          rw [if_pos rfl, hszn]
          exact pk_gS1 rfl rfl rfl
        · rw [if_neg e]
          exact pk_gS0 (Or.inr e) (hb.2.2.2.2.2.1 c)
      · have hq48 := (sp_in_lt hok hq).2.2
        rw [hb.2.2.2.2.2.2.1 q hq48, ← hiff q hq48, hq, Bool.true_and]
        by_cases e : sp_lab A q = j * 8 + i
        · rw [if_pos (by rw [e]; simp), if_pos e]
        · rw [if_neg (by simp [e]), if_neg e]
    · refine pk_iload dX0_spreadFrom_72 rfl ?_
      refine pk_bipush (v := nI 48) dX0_spreadFrom_74 (by decide) ?_
      first | refine pk_geN (tgt := 172) dX0_spreadFrom_76 (by decide) (by omega) (by omega) (fun c_76 => ?_) (fun c_76 => ?_) | refine pk_icmp_ge (tgt := 172) dX0_spreadFrom_76 (by decide) (fun c_76 => ?_) (fun c_76 => ?_)
      · omega
      · refine pk_iconst (v := nI 0) dX0_spreadFrom_79 (by decide) ?_
        refine pk_istore dX0_spreadFrom_80 rfl rfl ?_
        have hQ := hb.2.2.2.2.2.2.2.1 k c_69
        have hQin := hb.2.2.2.2.2.2.2.2.2 _ hQ.2.2
        have hQs : sp_s A (Q k) = sp_s A (j * 8 + i) := by
          have h1 := (sp_lab_in hok hQin.1).2.1
          rw [hQin.2] at h1
          exact h1.symm
        have hL2 : ∀ z : pk_M × Nat × Nat × (Nat → Bool) × (Nat → Nat), (fun z : pk_M × Nat × Nat × (Nat → Bool) × (Nat → Nat) => pk_bfs A M z.1 a (j * 8 + i) z.2.2.1 z.2.2.2.1 z.2.2.2.2 ∧ z.2.1 ≤ 4 ∧ n ≤ z.2.2.1 ∧ (∀ q, R q = true → z.2.2.2.1 q = true) ∧ (∀ c, c < n → z.2.2.2.2 c = Q c) ∧ ∀ s, s < z.2.1 → ∀ r, sp_nb A (Q k) s = some r → sp_s A (Q k) = sp_s A r → z.2.2.2.1 r = true) z → pk_G Γ (pk_kq Γ RX0 10 none false 3 0 0 (List.map (pk_gv Γ) [Value.ref 82, Value.int (nI i), Value.int (nI j), Value.ref 6]).toArray (fun r M' => r = none ∧ pk_fr (fun q => 82 ≤ q ∧ q ≤ 87) M M' ∧ pk_I M' 82 6 = nI (a + 1) ∧ (∀ c, c < 48 → pk_I M' 84 c = if c = a then nI (j * 8 + i) else pk_I M 84 c) ∧ (∀ c, c < 48 → pk_I M' 85 c = if c = a then nI (sp_sz A (j * 8 + i)) else pk_I M 85 c) ∧ ∀ q, sp_in A q = true → pk_I M' 83 q = if sp_lab A q = j * 8 + i then nI a else pk_I M 83 q)) cX0_spreadFrom z.1 [some (.ref 82), some (.int (nI i)), some (.int (nI j)), some (.ref 6), some (.int (nI a)), some (.int (nI (sp_s A (j * 8 + i)))), some (.int (nI k)), some (.int (nI z.2.1)), none, none] [] 82 0 0 := by
          refine pk_wf (fun z => 4 - z.2.1) (fun z : pk_M × Nat × Nat × (Nat → Bool) × (Nat → Nat) => pk_bfs A M z.1 a (j * 8 + i) z.2.2.1 z.2.2.2.1 z.2.2.2.2 ∧ z.2.1 ≤ 4 ∧ n ≤ z.2.2.1 ∧ (∀ q, R q = true → z.2.2.2.1 q = true) ∧ (∀ c, c < n → z.2.2.2.2 c = Q c) ∧ ∀ s, s < z.2.1 → ∀ r, sp_nb A (Q k) s = some r → sp_s A (Q k) = sp_s A r → z.2.2.2.1 r = true) (fun z => z.1) (fun z => [some (.ref 82), some (.int (nI i)), some (.int (nI j)), some (.ref 6), some (.int (nI a)), some (.int (nI (sp_s A (j * 8 + i)))), some (.int (nI k)), some (.int (nI z.2.1)), none, none]) ?_
          rintro ⟨M2, s, n2, R2, Q2⟩ ⟨hb2, i2, i3, i4, i5, i6⟩ K2
          dsimp only at hb2 i2 i3 i4 i5 i6 K2 ⊢
          have hW2 := hb2.1.wf hW
          have hA2 := hb2.1.at (p := 6) (fun q h1 h2 h3 => by omega) hA
          have hro2 := hb2.1.ro (fun q h1 h2 => by omega) hro
          have hQ2 := hb2.2.2.2.2.2.2.2.1 k (by omega)
          rw [i5 k c_69] at hQ2
          have hn2 : n2 ≤ 48 := by have := sp_c_le R2 48; have := hb2.2.2.1; omega
          refine pk_iload dX0_spreadFrom_82 rfl ?_
          refine pk_iconst (v := nI 4) dX0_spreadFrom_84 (by decide) ?_
          first | refine pk_geN (tgt := 166) dX0_spreadFrom_85 (by decide) (by omega) (by omega) (fun c_85 => ?_) (fun c_85 => ?_) | refine pk_icmp_ge (tgt := 166) dX0_spreadFrom_85 (by decide) (fun c_85 => ?_) (fun c_85 => ?_)
          · have hs4 : s = 4 := by omega
            subst hs4
            first | refine pk_inc1 dX0_spreadFrom_166 rfl rfl ?_ | refine pk_iinc dX0_spreadFrom_166 rfl rfl rfl ?_
            refine pk_goto (tgt := 63) dX0_spreadFrom_169 (by decide) ?_
            refine pk_fgt (ls' := _) ?_ (K (M2, k + 1, n2, R2, Q2) ⟨hb2, by dsimp only; omega, i4 _ j3, fun c hc r hr => ?_⟩ (by dsimp only; omega))
            · exact ⟨rfl, rfl, rfl, rfl, rfl, rfl, rfl, trivial⟩
            · dsimp only at hc hr ⊢
              rw [i5 c (by omega)] at hr
              by_cases e : c = k
              · subst e
                obtain ⟨a1, a2, t, ht, a3⟩ := hr
                exact i6 t ht r a3 a2
              · exact i4 r (j4 c (by omega) r hr)
          · refine pk_aload_n dX0_spreadFrom_88 rfl ?_
            refine pk_getP dX0_spreadFrom_89 fl_X0_21 rfl (hW2.s rfl) (hW2.p rfl) ?_
            refine pk_iload dX0_spreadFrom_92 rfl ?_
            refine pk_aldN dX0_spreadFrom_94 (hW2.s rfl) (by omega) (by omega) hQ2.1 ?_
            refine pk_bipush (v := nI 8) dX0_spreadFrom_95 (by decide) ?_
            first | refine pk_remN dX0_spreadFrom_97 (by omega) (by omega) (by omega) ?_ | refine pk_irem dX0_spreadFrom_97 (by first | assumption | decide) ?_
            refine pk_gets (q := 2) dX0_spreadFrom_98 (by decide) gs_X0_63 ?_
            refine pk_iload dX0_spreadFrom_101 rfl ?_
            refine pk_aldV dX0_spreadFrom_103 (hW2.s rfl) (by omega) (by omega) (hro2.2.1 s (by omega)) ?_
            refine pk_iadd dX0_spreadFrom_104 ?_
            refine pk_istore dX0_spreadFrom_105 rfl rfl ?_
            refine pk_aload_n dX0_spreadFrom_107 rfl ?_
            refine pk_getP dX0_spreadFrom_108 fl_X0_21 rfl (hW2.s rfl) (hW2.p rfl) ?_
            refine pk_iload dX0_spreadFrom_111 rfl ?_
            refine pk_aldN dX0_spreadFrom_113 (hW2.s rfl) (by omega) (by omega) hQ2.1 ?_
            refine pk_bipush (v := nI 8) dX0_spreadFrom_114 (by decide) ?_
            first | refine pk_divN dX0_spreadFrom_116 (by omega) (by omega) (by omega) ?_ | refine pk_idiv dX0_spreadFrom_116 (by first | assumption | decide) ?_
            refine pk_gets (q := 3) dX0_spreadFrom_117 (by decide) gs_X0_66 ?_
            refine pk_iload dX0_spreadFrom_120 rfl ?_
            refine pk_aldV dX0_spreadFrom_122 (hW2.s rfl) (by omega) (by omega) (hro2.2.2.1 s (by omega)) ?_
            refine pk_iadd dX0_spreadFrom_123 ?_
            refine pk_istore dX0_spreadFrom_124 rfl rfl ?_
            refine pk_aload_n dX0_spreadFrom_126 rfl ?_
            refine pk_iload dX0_spreadFrom_127 rfl ?_
            refine pk_iload dX0_spreadFrom_129 rfl ?_
            refine pk_Vi dX0_spreadFrom_131 ml_X0_69 yw_X4_isInside yv_X4_isInside (hW2.s rfl) (e_X4_isInside (p := 6) hW2 rfl hA2 hok _ _) rfl rfl rfl rfl rfl rfl rfl ?_
            first | refine pk_eqb (tgt := 160) dX0_spreadFrom_134 (by decide) (fun c_134 => ?_) (fun c_134 => ?_) | refine pk_eq0N (tgt := 160) dX0_spreadFrom_134 (by decide) (by omega) (fun c_134 => ?_) (fun c_134 => ?_) | refine pk_if_eq (tgt := 160) dX0_spreadFrom_134 (by decide) (fun c_134 => ?_) (fun c_134 => ?_)
            · first | refine pk_inc1 dX0_spreadFrom_160 rfl rfl ?_ | refine pk_iinc dX0_spreadFrom_160 rfl rfl rfl ?_
              refine pk_goto (tgt := 82) dX0_spreadFrom_163 (by decide) ?_
              first
                | (obtain ⟨n3, R3, Q3, g1, g2, g3, g4, g5⟩ := hb2.join hok ha h0 (sp_nb_in hok hQin.1 (by omega) hnb).1 (((sp_lab_eq hok (sp_in_lt hok (sp_nb_in hok hQin.1 (by omega) hnb).1).2.2 hQ.2.1 (((sp_con.rf A (Q k)).snoc ⟨hQin.1, hQs.trans c_147.symm, s, by omega, hnb⟩).symm hok)).trans hQin.2)) _ rfl
                   refine pk_fgt (ls' := _) ?_ (K2 (_, s + 1, n3, R3, Q3) ⟨g1, by dsimp only; omega, by dsimp only; omega, fun q hq => g4 q (i4 q hq), fun c hc => (g5 c (by omega)).trans (i5 c hc), fun t ht r hr hsr => ?_⟩ (by dsimp only; omega))
                   · exact ⟨rfl, rfl, rfl, rfl, rfl, rfl, rfl, rfl, trivial⟩
                   · dsimp only at ht
                     by_cases e : t = s
                     · subst e
                       rw [hnb] at hr
                       cases hr
                       exact g3
                     · exact g4 r (i6 t (by omega) r hr hsr))
                | (refine pk_fgt (ls' := _) ?_ (K2 (M2, s + 1, n2, R2, Q2) ⟨hb2, by dsimp only; omega, i3, i4, i5, fun t ht r hr hsr => ?_⟩ (by dsimp only; omega))
                   · exact ⟨rfl, rfl, rfl, rfl, rfl, rfl, rfl, rfl, trivial⟩
                   · dsimp only at ht
                     by_cases e : t = s
                     · subst e
                       exfalso
                       first
                         | (rw [hnb] at hr; cases hr; rw [sp_at_n hok hx hy] at c_147; exact c_147 (hsr.symm.trans hQs))
                         | (rw [sp_nb, c_134] at hr; cases hr)
                     · exact i6 t (by omega) r hr hsr)
            · obtain ⟨x, y, hx, hy, ex, ey⟩ := sp_inb_of hok c_134
              have hnb : sp_nb A (Q k) s = some (y * 8 + x) := by
                rw [sp_nb, c_134, if_pos rfl, ex, ey, nI_clamp (by omega), nI_clamp (by omega)]
              rw [ex, ey]
              have hat := sp_at_lt hok (nI x) (nI y)
              refine pk_aload_n dX0_spreadFrom_137 rfl ?_
              refine pk_iload dX0_spreadFrom_138 rfl ?_
              refine pk_iload dX0_spreadFrom_140 rfl ?_
              refine pk_Vi dX0_spreadFrom_142 ml_X0_55 yw_X4_at yv_X4_at (hW2.s rfl) (e_X4_at (p := 6) hW2 rfl hA2 hok _ _ rfl) rfl rfl rfl rfl rfl rfl rfl ?_
              refine pk_iload dX0_spreadFrom_145 rfl ?_
              first | refine pk_neN (tgt := 160) dX0_spreadFrom_147 (by decide) (by omega) (by omega) (fun c_147 => ?_) (fun c_147 => ?_) | refine pk_icmp_ne (tgt := 160) dX0_spreadFrom_147 (by decide) (fun c_147 => ?_) (fun c_147 => ?_)
              · first | refine pk_inc1 dX0_spreadFrom_160 rfl rfl ?_ | refine pk_iinc dX0_spreadFrom_160 rfl rfl rfl ?_
                refine pk_goto (tgt := 82) dX0_spreadFrom_163 (by decide) ?_
                first
                  | (obtain ⟨n3, R3, Q3, g1, g2, g3, g4, g5⟩ := hb2.join hok ha h0 (sp_nb_in hok hQin.1 (by omega) hnb).1 (((sp_lab_eq hok (sp_in_lt hok (sp_nb_in hok hQin.1 (by omega) hnb).1).2.2 hQ.2.1 (((sp_con.rf A (Q k)).snoc ⟨hQin.1, hQs.trans c_147.symm, s, by omega, hnb⟩).symm hok)).trans hQin.2)) _ rfl
                     refine pk_fgt (ls' := _) ?_ (K2 (_, s + 1, n3, R3, Q3) ⟨g1, by dsimp only; omega, by dsimp only; omega, fun q hq => g4 q (i4 q hq), fun c hc => (g5 c (by omega)).trans (i5 c hc), fun t ht r hr hsr => ?_⟩ (by dsimp only; omega))
                     · exact ⟨rfl, rfl, rfl, rfl, rfl, rfl, rfl, rfl, trivial⟩
                     · dsimp only at ht
                       by_cases e : t = s
                       · subst e
                         rw [hnb] at hr
                         cases hr
                         exact g3
                       · exact g4 r (i6 t (by omega) r hr hsr))
                  | (refine pk_fgt (ls' := _) ?_ (K2 (M2, s + 1, n2, R2, Q2) ⟨hb2, by dsimp only; omega, i3, i4, i5, fun t ht r hr hsr => ?_⟩ (by dsimp only; omega))
                     · exact ⟨rfl, rfl, rfl, rfl, rfl, rfl, rfl, rfl, trivial⟩
                     · dsimp only at ht
                       by_cases e : t = s
                       · subst e
                         exfalso
                         first
                           | (rw [hnb] at hr; cases hr; rw [sp_at_n hok hx hy] at c_147; exact c_147 (hsr.symm.trans hQs))
                           | (rw [sp_nb, c_134] at hr; cases hr)
                       · exact i6 t (by omega) r hr hsr)
              · rw [sp_at_n hok hx hy] at c_147
                refine pk_aload_n dX0_spreadFrom_150 rfl ?_
                refine pk_iload dX0_spreadFrom_151 rfl ?_
                refine pk_iload dX0_spreadFrom_153 rfl ?_
                refine pk_iload dX0_spreadFrom_155 rfl ?_
                refine pk_Vv dX0_spreadFrom_157 ml_X0_59 yw_X0_join yv_X0_join (hW2.s rfl) (e_X0_join (n := n2) hW2 (by omega) hb2.2.1 (by omega)) rfl rfl rfl rfl rfl rfl rfl ?_
                first | refine pk_inc1 dX0_spreadFrom_160 rfl rfl ?_ | refine pk_iinc dX0_spreadFrom_160 rfl rfl rfl ?_
                refine pk_goto (tgt := 82) dX0_spreadFrom_163 (by decide) ?_
                first
                  | (obtain ⟨n3, R3, Q3, g1, g2, g3, g4, g5⟩ := hb2.join hok ha h0 (sp_nb_in hok hQin.1 (by omega) hnb).1 (((sp_lab_eq hok (sp_in_lt hok (sp_nb_in hok hQin.1 (by omega) hnb).1).2.2 hQ.2.1 (((sp_con.rf A (Q k)).snoc ⟨hQin.1, hQs.trans c_147.symm, s, by omega, hnb⟩).symm hok)).trans hQin.2)) _ rfl
                     refine pk_fgt (ls' := _) ?_ (K2 (_, s + 1, n3, R3, Q3) ⟨g1, by dsimp only; omega, by dsimp only; omega, fun q hq => g4 q (i4 q hq), fun c hc => (g5 c (by omega)).trans (i5 c hc), fun t ht r hr hsr => ?_⟩ (by dsimp only; omega))
                     · exact ⟨rfl, rfl, rfl, rfl, rfl, rfl, rfl, rfl, trivial⟩
                     · dsimp only at ht
                       by_cases e : t = s
                       · subst e
                         rw [hnb] at hr
                         cases hr
                         exact g3
                       · exact g4 r (i6 t (by omega) r hr hsr))
                  | (refine pk_fgt (ls' := _) ?_ (K2 (M2, s + 1, n2, R2, Q2) ⟨hb2, by dsimp only; omega, i3, i4, i5, fun t ht r hr hsr => ?_⟩ (by dsimp only; omega))
                     · exact ⟨rfl, rfl, rfl, rfl, rfl, rfl, rfl, rfl, trivial⟩
                     · dsimp only at ht
                       by_cases e : t = s
                       · subst e
                         exfalso
                         first
                           | (rw [hnb] at hr; cases hr; rw [sp_at_n hok hx hy] at c_147; exact c_147 (hsr.symm.trans hQs))
                           | (rw [sp_nb, c_134] at hr; cases hr)
                       · exact i6 t (by omega) r hr hsr)
        exact pk_fgt (by repeat first | exact trivial | refine ⟨rfl, ?_⟩) (hL2 (M1, 0, n, R, Q) ⟨hb, by dsimp only; omega, Nat.le_refl _, fun q hq => hq, fun c hc => rfl, fun s hs => absurd hs (Nat.not_lt_zero s)⟩)
  refine pk_aload_n dX0_spreadFrom_0 rfl ?_
  refine pk_getN dX0_spreadFrom_1 fl_X0_32 rfl (hW.s rfl) hm ?_
  refine pk_istore dX0_spreadFrom_4 rfl rfl ?_
  refine pk_iload dX0_spreadFrom_6 rfl ?_
  refine pk_bipush (v := nI 48) dX0_spreadFrom_8 (by decide) ?_
  refine pk_Si dX0_spreadFrom_10 ml_X0_51 yw_X6_isBelow ys_X6_isBelow (e_X6_isBelow _ _) rfl rfl rfl rfl rfl rfl rfl ?_
  first | refine pk_neb (tgt := 17) dX0_spreadFrom_13 (by decide) (fun c_13 => ?_) (fun c_13 => ?_) | refine pk_ne0N (tgt := 17) dX0_spreadFrom_13 (by decide) (by omega) (fun c_13 => ?_) (fun c_13 => ?_) | refine pk_if_ne (tgt := 17) dX0_spreadFrom_13 (by decide) (fun c_13 => ?_) (fun c_13 => ?_)
  · refine pk_aload_n dX0_spreadFrom_17 rfl ?_
    refine pk_iload_n dX0_spreadFrom_18 rfl ?_
    refine pk_iload_n dX0_spreadFrom_19 rfl ?_
    refine pk_Vi dX0_spreadFrom_20 ml_X0_55 yw_X4_at yv_X4_at (hW.s rfl) (e_X4_at (p := 6) hW rfl hA hok _ _ (sp_at_n hok hi hj)) rfl rfl rfl rfl rfl rfl rfl ?_
    refine pk_istore dX0_spreadFrom_23 rfl rfl ?_
    refine pk_aload_n dX0_spreadFrom_25 rfl ?_
    refine pk_dup dX0_spreadFrom_26 rfl ?_
    refine pk_getN dX0_spreadFrom_27 fl_X0_32 rfl (hW.s rfl) hm ?_
    refine pk_iconst (v := nI 1) dX0_spreadFrom_30 (by decide) ?_
    first | refine pk_addN dX0_spreadFrom_31 ?_ | refine pk_iadd dX0_spreadFrom_31 ?_
    refine pk_putI dX0_spreadFrom_32 fl_X0_32 rfl rfl rfl rfl (hW.s rfl) ?_
    refine pk_aload_n dX0_spreadFrom_35 rfl ?_
    refine pk_getP dX0_spreadFrom_36 fl_X0_15 rfl (hW.s rfl) (hW.p rfl) ?_
    refine pk_iload dX0_spreadFrom_39 rfl ?_
    refine pk_iload_n dX0_spreadFrom_41 rfl ?_
    refine pk_iload_n dX0_spreadFrom_42 rfl ?_
    refine pk_Si dX0_spreadFrom_43 ml_X0_56 yw_X4_indexOf ys_X4_indexOf (e_X4_indexOf _ _) rfl rfl rfl rfl rfl rfl rfl ?_
    refine pk_astN dX0_spreadFrom_46 (hW.s rfl) (by omega) (by omega) (by omega) ?_
    refine pk_aload_n dX0_spreadFrom_47 rfl ?_
    refine pk_iconst (v := nI 0) dX0_spreadFrom_48 (by decide) ?_
    refine pk_putI dX0_spreadFrom_49 fl_X0_28 rfl rfl rfl rfl (hW.s rfl) ?_
    refine pk_aload_n dX0_spreadFrom_52 rfl ?_
    refine pk_iload_n dX0_spreadFrom_53 rfl ?_
    refine pk_iload_n dX0_spreadFrom_54 rfl ?_
    refine pk_iload dX0_spreadFrom_55 rfl ?_
    refine pk_Vv dX0_spreadFrom_57 ml_X0_59 yw_X0_join yv_X0_join (hW.s rfl) (e_X0_join (n := 0) (M := pk_sI (pk_sI (pk_sI M 82 6 (nI (a + 1))) 84 a (nI (j * 8 + i))) 82 5 (nI 0)) hW hij (pk_gS1 rfl rfl rfl) (by decide)) rfl rfl rfl rfl rfl rfl rfl ?_
    rw [if_pos ⟨by rw [show pk_I (pk_sI (pk_sI (pk_sI M 82 6 (nI (a + 1))) 84 a (nI (j * 8 + i))) 82 5 (nI 0)) 83 (j * 8 + i) = pk_I M 83 (j * 8 + i) from pk_gS0 (by omega) (pk_gS0 (by omega) (pk_gS0 (by omega) rfl)), h0 _ hin0 hlab]; decide, by decide⟩]
    refine pk_iconst (v := nI 0) dX0_spreadFrom_60 (by decide) ?_
    refine pk_istore dX0_spreadFrom_61 rfl rfl ?_
    have hroot := hlab
    refine pk_fgt (ls' := [some (.ref 82), some (.int (nI i)), some (.int (nI j)), some (.ref 6), some (.int (nI a)), some (.int (nI (sp_s A (j * 8 + i)))), some (.int (nI 0)), none, none, none]) (by repeat first | exact trivial | refine ⟨rfl, ?_⟩) ?_
    refine hL (_, 0, 1, fun q => q == j * 8 + i, fun _ => j * 8 + i) ⟨⟨?_, ?_, ?_, ?_, fun c hc => ?_, fun c => ?_, fun q hq => ?_, fun c hc => ?_, fun q hq hq2 => ?_, fun q hq => ?_⟩, by dsimp only; omega, by simp, fun c hc => absurd hc (Nat.not_lt_zero c)⟩
    · exact (((((pk_fr.sI ⟨by omega, by omega⟩).tr (pk_fr.sI ⟨by omega, by omega⟩)).tr (pk_fr.sI ⟨by omega, by omega⟩)).tr (pk_fr.sI ⟨by omega, by omega⟩)).tr (pk_fr.sI ⟨by omega, by omega⟩)).tr (pk_fr.sI ⟨by omega, by omega⟩)
    · exact pk_gS1 rfl rfl rfl
    · have h1 := sp_c_add (R := fun _ => false) hij rfl
      have h2 : sp_c (fun _ => false) 48 = 0 := sp_c_skip (n := 0) (by omega) (fun _ _ _ => rfl)
      rw [h2, Nat.zero_add] at h1
      dsimp only
      rw [← h1]
      exact sp_c_congr (fun q _ => by simp)
    · exact pk_gS0 (by omega) (pk_gS0 (by omega) (pk_gS0 (by omega) (pk_gS0 (by omega) (pk_gS0 (by omega) (pk_gS1 rfl rfl rfl)))))
    · refine pk_gS0 (by omega) (pk_gS0 (by omega) (pk_gS0 (by omega) (pk_gS0 (by omega) ?_)))
      by_cases e : c = a
      · subst e
        rw [if_pos rfl]
        exact pk_gS1 rfl rfl rfl
      · rw [if_neg e]
        exact pk_gS0 (Or.inr e) (pk_gS0 (by omega) rfl)
    · exact pk_gS0 (by omega) (pk_gS0 (by omega) (pk_gS0 (by omega) (pk_gS0 (by omega) (pk_gS0 (by omega) (pk_gS0 (by omega) rfl)))))
    · refine pk_gS0 (by omega) (pk_gS0 (by omega) ?_)
      dsimp only
      by_cases e : q = j * 8 + i
      · subst e
        rw [if_pos (by simp)]
        exact pk_gS1 rfl rfl rfl
      · rw [if_neg (by simp [e])]
        exact pk_gS0 (Or.inr e) (pk_gS0 (by omega) (pk_gS0 (by omega) (pk_gS0 (by omega) rfl)))
    · have hc0 : c = 0 := Nat.lt_one_iff.mp hc
      subst hc0
      exact ⟨pk_gS0 (by omega) (pk_gS1 rfl rfl rfl), hij, by simp⟩
    · exact ⟨0, Nat.zero_lt_one, by dsimp only at hq2 ⊢; exact (eq_of_beq hq2).symm⟩
    · dsimp only at hq
      rw [eq_of_beq hq]
      exact ⟨hin0, hlab⟩
  · exfalso; simp [nI_pos' (show a < 2 ^ 31 by omega), nI_ltI (show a < 2 ^ 31 by omega) (show 48 < 2 ^ 31 by decide)] at c_13; omega
