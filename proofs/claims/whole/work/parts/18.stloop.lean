/-! Frames; the loops of State. -/
/-- less is known of the locals -/
def pk_leq : List (Option Value) → List (Option Value) → Prop
  | [], [] => True
  | none :: l', _ :: l => pk_leq l' l
  | some v :: l', o :: l => o = some v ∧ pk_leq l' l
  | _, _ => False
theorem pk_leq_spec : ∀ (l' l : List (Option Value)), pk_leq l' l → l'.length = l.length ∧ ∀ (k : Nat) (v : Value), l'[k]? = some (some v) → l[k]? = some (some v)
  | [], [], _ => ⟨rfl, fun k v h => by simp at h⟩
  | [], _ :: _, h => h.elim
  | none :: l', [], h => h.elim
  | some v :: l', [], h => h.elim
  | none :: l', o :: l, h => by
    obtain ⟨h1, h2⟩ := pk_leq_spec l' l h
    refine ⟨by simp [h1], fun k v hk => ?_⟩
    cases k with
    | zero => cases hk
    | succ k => exact h2 k v hk
  | some w :: l', o :: l, h => by
    obtain ⟨h1, h2⟩ := pk_leq_spec l' l h.2
    refine ⟨by simp [h1], fun k v hk => ?_⟩
    cases k with
    | zero => cases hk; exact congrArg some h.1
    | succ k => exact h2 k v hk
theorem pk_fgt {Γ : pk_T} {κ : pk_K} {cc : ByteArray} {M : pk_M} {ls ls' : List (Option Value)} {st : List Value} {pc cu su : Nat} (h : pk_leq ls' ls) (k : pk_G Γ κ cc M ls' st pc cu su) : pk_G Γ κ cc M ls st pc cu su :=
  pk_less (pk_leq_spec ls' ls h).1 (pk_leq_spec ls' ls h).2 k
/-- only ints in places of D have changed -/
def pk_fr (D : Nat → Prop) (M M' : pk_M) : Prop := M'.1 = M.1 ∧ M'.2.2.2 = M.2.2.2 ∧ M'.2.2.1 = M.2.2.1 ∧ ∀ q, ¬ D q → M'.2.1 q = M.2.1 q
theorem pk_fr.rf (D : Nat → Prop) (M : pk_M) : pk_fr D M M := ⟨rfl, rfl, rfl, fun _ _ => rfl⟩
theorem pk_fr.tr {D : Nat → Prop} {M M1 M2 : pk_M} (h : pk_fr D M M1) (h2 : pk_fr D M1 M2) : pk_fr D M M2 := ⟨h2.1.trans h.1, h2.2.1.trans h.2.1, h2.2.2.1.trans h.2.2.1, fun q hq => (h2.2.2.2 q hq).trans (h.2.2.2 q hq)⟩
theorem pk_fr.mono {D D' : Nat → Prop} {M M1 : pk_M} (h : pk_fr D M M1) (hD : ∀ q, D q → D' q) : pk_fr D' M M1 := ⟨h.1, h.2.1, h.2.2.1, fun q hq => h.2.2.2 q (fun z => hq (hD q z))⟩
theorem pk_fr.sI {D : Nat → Prop} {M : pk_M} {p k : Nat} {x : Int32} (hp : D p) : pk_fr D M (pk_sI M p k x) := ⟨rfl, rfl, rfl, fun q hq => by
  have : q ≠ p := fun e => hq (e ▸ hp)
  funext j
  simp [pk_sI, this]⟩
theorem pk_fr.cI {D : Nat → Prop} {M : pk_M} {a i p k n : Nat} (hp : D p) : pk_fr D M (pk_cI M a i p k n) := ⟨rfl, rfl, rfl, fun q hq => by
  have : q ≠ p := fun e => hq (e ▸ hp)
  funext j
  simp [pk_cI, this]⟩
theorem pk_fr.wf {D : Nat → Prop} {L : Nat} {M M1 : pk_M} (h : pk_fr D M M1) (hW : pk_WF L M) : pk_WF L M1 := hW.to h.1 h.2.1
theorem pk_fr.I {D : Nat → Prop} {M M1 : pk_M} (h : pk_fr D M M1) {q : Nat} (hq : ¬ D q) (k : Nat) : pk_I M1 q k = pk_I M q k := congrFun (h.2.2.2 q hq) k
theorem pk_fr.at {D : Nat → Prop} {M M1 : pk_M} {p : Nat} {A : pk_St} (h : pk_fr D M M1) (hD : ∀ q, p ≤ q → q ≤ p + 4 → ¬ D q) (hA : pk_At M p A) : pk_At M1 p A := by
  obtain ⟨h1, h2, h3, h4, h5, h6, h7⟩ := hA
  exact ⟨(h.I (hD _ (by omega) (by omega)) _).trans h1, (h.I (hD _ (by omega) (by omega)) _).trans h2, (h.I (hD _ (by omega) (by omega)) _).trans h3, fun i hi => (h.I (hD _ (by omega) (by omega)) _).trans (h4 i hi), fun i hi => (h.I (hD _ (by omega) (by omega)) _).trans (h5 i hi), fun i hi => (h.I (hD _ (by omega) (by omega)) _).trans (h6 i hi), fun i hi => (h.I (hD _ (by omega) (by omega)) _).trans (h7 i hi)⟩
theorem pk_I_sI (M : pk_M) (p k q j : Nat) (x : Int32) : pk_I (pk_sI M p k x) q j = if q = p ∧ j = k then x else pk_I M q j := rfl
theorem pk_I_cI (M : pk_M) (a i p k n q j : Nat) : pk_I (pk_cI M a i p k n) q j = if q = p ∧ k ≤ j ∧ j < k + n then pk_I M a (i + (j - k)) else pk_I M q j := rfl
def sp_inks (A : pk_St) : Nat := sp_fold (fun q x => x ||| sp_s A q) 0 48
def sp_setsF (A : pk_St) : Nat → Nat → Nat := fun q x => if sp_in A q then x ||| 2 ^ sp_s A q else x
def sp_sets (A : pk_St) : Nat := sp_fold (sp_setsF A) 0 48
theorem pk_or_lt {a b n : Nat} (ha : a < 2 ^ n) (hb : b < 2 ^ n) : a ||| b < 2 ^ n := Nat.or_lt_two_pow ha hb
theorem sp_inks_lt {A : pk_St} (hA : pk_okS A) (n : Nat) (hn : n ≤ 48) : sp_fold (fun q x => x ||| sp_s A q) 0 n < 32 := by
  induction n with
  | zero => show 0 < 32; decide
  | succ n ih => exact pk_or_lt (n := 5) (ih (by omega)) (hA.2.2.2.2.2.2.2.1 n (by omega))
theorem sp_sets_lt {A : pk_St} (hA : pk_okS A) (n : Nat) (hn : n ≤ 48) : sp_fold (sp_setsF A) 0 n < 2 ^ 32 := by
  induction n with
  | zero => show 0 < 2 ^ 32; decide
  | succ n ih =>
    rw [sp_fold_succ, sp_setsF]
    split
    · exact pk_or_lt (ih (by omega)) (Nat.pow_lt_pow_right (by decide) (hA.2.2.2.2.2.2.2.1 n (by omega)))
    · exact ih (by omega)

set_option maxRecDepth 100000 in
set_option maxHeartbeats 4000000 in
theorem e_X4_placeInOrder {Γ : pk_T} {M : pk_M} {L p : Nat} {A : pk_St} (hW : pk_WF L M) (hp : pk_isS p = true) (hA : pk_At M p A) (hok : pk_okS A) {i k : Nat} (hk : k < 5) (ho : sp_o A k = i) : pk_E Γ yX4_placeInOrder cX4_placeInOrder 3 (some .int) 1 0 0 M [.ref p, .int (nI i)] (fun r M' => r = some (.int (nI k)) ∧ M' = M) := by
  have hw := hok.1
  have hh := hok.2.1
  have hs := hok.2.2.2.2.2.2.2.1
  have hp5 := pk_isS_lt hp
  refine pk_meth (own := RX4) (ini := false) [some (.ref p), some (.int (nI i)), none] (by decide +kernel) rfl (by decide +kernel) rfl rfl ?_
  refine pk_iconst (v := nI 0) dX4_placeInOrder_0 (by decide) ?_
  refine pk_istore_n dX4_placeInOrder_1 rfl rfl ?_
  refine pk_for k (fun _ => M) (fun j => [some (.ref p), some (.int (nI i)), some (.int (nI j))]) ?_ ?_ 0 (by omega)
  · intro j hj K
    have ho5 := hok.2.2.2.2.2.1
    have e1 := ho5 j (by omega)
    have e2 := ho5 k hk
    have hne : sp_o A j ≠ i := fun e => by have := hok.2.2.2.2.2.2.1 j (by omega) k hk (e.trans ho.symm); omega
    refine pk_iload_n dX4_placeInOrder_2 rfl ?_
    refine pk_iconst (v := nI 5) dX4_placeInOrder_3 (by decide) ?_
    first | refine pk_geN (tgt := 25) dX4_placeInOrder_4 (by decide) (by omega) (by omega) (fun c_4 => ?_) (fun c_4 => ?_) | refine pk_icmp_ge (tgt := 25) dX4_placeInOrder_4 (by decide) (fun c_4 => ?_) (fun c_4 => ?_)
    · omega
    · refine pk_aload_n dX4_placeInOrder_7 rfl ?_
      refine pk_getP dX4_placeInOrder_8 fl_X4_18 rfl (hW.ss hp) (hW.sp2 hp) ?_
      refine pk_iload_n dX4_placeInOrder_11 rfl ?_
      refine pk_aldN dX4_placeInOrder_12 (hW.sa2 hp) (by omega) (by omega) (hA.2.2.2.2.2.1 _ (by omega)) ?_
      refine pk_iload_n dX4_placeInOrder_13 rfl ?_
      first | refine pk_neN (tgt := 19) dX4_placeInOrder_14 (by decide) (by omega) (by omega) (fun c_14 => ?_) (fun c_14 => ?_) | refine pk_icmp_ne (tgt := 19) dX4_placeInOrder_14 (by decide) (fun c_14 => ?_) (fun c_14 => ?_)
      · first | refine pk_inc1 dX4_placeInOrder_19 rfl rfl ?_ | refine pk_iinc dX4_placeInOrder_19 rfl rfl rfl ?_
        refine pk_goto (tgt := 2) dX4_placeInOrder_22 (by decide) ?_
        exact K
      · exact absurd c_14 hne
  · have ho5 := hok.2.2.2.2.2.1
    have e2 := ho5 k hk
    refine pk_iload_n dX4_placeInOrder_2 rfl ?_
    refine pk_iconst (v := nI 5) dX4_placeInOrder_3 (by decide) ?_
    first | refine pk_geN (tgt := 25) dX4_placeInOrder_4 (by decide) (by omega) (by omega) (fun c_4 => ?_) (fun c_4 => ?_) | refine pk_icmp_ge (tgt := 25) dX4_placeInOrder_4 (by decide) (fun c_4 => ?_) (fun c_4 => ?_)
    · omega
    · refine pk_aload_n dX4_placeInOrder_7 rfl ?_
      refine pk_getP dX4_placeInOrder_8 fl_X4_18 rfl (hW.ss hp) (hW.sp2 hp) ?_
      refine pk_iload_n dX4_placeInOrder_11 rfl ?_
      refine pk_aldN dX4_placeInOrder_12 (hW.sa2 hp) (by omega) (by omega) (hA.2.2.2.2.2.1 _ (by omega)) ?_
      refine pk_iload_n dX4_placeInOrder_13 rfl ?_
      first | refine pk_neN (tgt := 19) dX4_placeInOrder_14 (by decide) (by omega) (by omega) (fun c_14 => ?_) (fun c_14 => ?_) | refine pk_icmp_ne (tgt := 19) dX4_placeInOrder_14 (by decide) (fun c_14 => ?_) (fun c_14 => ?_)
      · exact absurd ho c_14
      · refine pk_iload_n dX4_placeInOrder_17 rfl ?_
        refine pk_reti dX4_placeInOrder_18 (by first | rfl | exact pk_nbi _) ?_
        exact ⟨rfl, rfl⟩

set_option maxRecDepth 100000 in
set_option maxHeartbeats 4000000 in
theorem e_X4_placesWithInk {Γ : pk_T} {M : pk_M} {L p : Nat} {A : pk_St} (hW : pk_WF L M) (hp : pk_isS p = true) (hA : pk_At M p A) (hok : pk_okS A) {i : Nat} (hi : i < 5) : pk_E Γ yX4_placesWithInk cX4_placesWithInk 4 (some .int) 1 0 0 M [.ref p, .int (nI i)] (fun r M' => r = some (.int (nI (sp_c (fun q => (sp_s A q).testBit i) 48))) ∧ M' = M) := by
  have hw := hok.1
  have hh := hok.2.1
  have hs := hok.2.2.2.2.2.2.2.1
  have hp5 := pk_isS_lt hp
  refine pk_meth (own := RX4) (ini := false) [some (.ref p), some (.int (nI i)), none, none] (by decide +kernel) rfl (by decide +kernel) rfl rfl ?_
  refine pk_iconst (v := nI 0) dX4_placesWithInk_0 (by decide) ?_
  refine pk_istore_n dX4_placesWithInk_1 rfl rfl ?_
  refine pk_iconst (v := nI 0) dX4_placesWithInk_2 (by decide) ?_
  refine pk_istore_n dX4_placesWithInk_3 rfl rfl ?_
  refine pk_for 48 (fun _ => M) (fun j => [some (.ref p), some (.int (nI i)), some (.int (nI (sp_c (fun q => (sp_s A q).testBit i) j))), some (.int (nI j))]) ?_ ?_ 0 (by omega)
  · intro j hj K
    have hsj := hs j (by omega)
    refine pk_iload_n dX4_placesWithInk_4 rfl ?_
    refine pk_bipush (v := nI 48) dX4_placesWithInk_5 (by decide) ?_
    first | refine pk_geN (tgt := 32) dX4_placesWithInk_7 (by decide) (by omega) (by omega) (fun c_7 => ?_) (fun c_7 => ?_) | refine pk_icmp_ge (tgt := 32) dX4_placesWithInk_7 (by decide) (fun c_7 => ?_) (fun c_7 => ?_)
    · omega
    · refine pk_aload_n dX4_placesWithInk_10 rfl ?_
      refine pk_getP dX4_placesWithInk_11 fl_X4_21 rfl (hW.ss hp) (hW.sp3 hp) ?_
      refine pk_iload_n dX4_placesWithInk_14 rfl ?_
      refine pk_aldN dX4_placesWithInk_15 (hW.sa3 hp) (by omega) (by omega) (hA.2.2.2.2.2.2 _ (by omega)) ?_
      refine pk_iload_n dX4_placesWithInk_16 rfl ?_
      refine pk_Si dX4_placesWithInk_17 ml_X4_51 yw_X6_hasBit ys_X6_hasBit (e_X6_hasBit _ _ (by omega) (by omega)) rfl rfl rfl rfl rfl rfl rfl ?_
      first | refine pk_eqb (tgt := 26) dX4_placesWithInk_20 (by decide) (fun c_20 => ?_) (fun c_20 => ?_) | refine pk_eq0N (tgt := 26) dX4_placesWithInk_20 (by decide) (by omega) (fun c_20 => ?_) (fun c_20 => ?_) | refine pk_if_eq (tgt := 26) dX4_placesWithInk_20 (by decide) (fun c_20 => ?_) (fun c_20 => ?_)
      · first | refine pk_inc1 dX4_placesWithInk_26 rfl rfl ?_ | refine pk_iinc dX4_placesWithInk_26 rfl rfl rfl ?_
        refine pk_goto (tgt := 4) dX4_placesWithInk_29 (by decide) ?_
        refine pk_lsq ?_ K
        simp only [sp_c_succ, c_20]
        rfl
      · first | refine pk_inc1 dX4_placesWithInk_23 rfl rfl ?_ | refine pk_iinc dX4_placesWithInk_23 rfl rfl rfl ?_
        first | refine pk_inc1 dX4_placesWithInk_26 rfl rfl ?_ | refine pk_iinc dX4_placesWithInk_26 rfl rfl rfl ?_
        refine pk_goto (tgt := 4) dX4_placesWithInk_29 (by decide) ?_
        refine pk_lsq ?_ K
        simp only [sp_c_succ, c_20]
        rfl
  · refine pk_iload_n dX4_placesWithInk_4 rfl ?_
    refine pk_bipush (v := nI 48) dX4_placesWithInk_5 (by decide) ?_
    first | refine pk_geN (tgt := 32) dX4_placesWithInk_7 (by decide) (by omega) (by omega) (fun c_7 => ?_) (fun c_7 => ?_) | refine pk_icmp_ge (tgt := 32) dX4_placesWithInk_7 (by decide) (fun c_7 => ?_) (fun c_7 => ?_)
    · refine pk_iload_n dX4_placesWithInk_32 rfl ?_
      refine pk_reti dX4_placesWithInk_33 (by first | rfl | exact pk_nbi _) ?_
      exact ⟨rfl, rfl⟩
    · omega

set_option maxRecDepth 100000 in
set_option maxHeartbeats 4000000 in
theorem e_X4_inksDrawn {Γ : pk_T} {M : pk_M} {L p : Nat} {A : pk_St} (hW : pk_WF L M) (hp : pk_isS p = true) (hA : pk_At M p A) (hok : pk_okS A) : pk_E Γ yX4_inksDrawn cX4_inksDrawn 3 (some .int) 1 0 0 M [.ref p] (fun r M' => r = some (.int (nI (sp_inks A))) ∧ M' = M) := by
  have hw := hok.1
  have hh := hok.2.1
  have hs := hok.2.2.2.2.2.2.2.1
  have hp5 := pk_isS_lt hp
  refine pk_meth (own := RX4) (ini := false) [some (.ref p), none, none] (by decide +kernel) rfl (by decide +kernel) rfl rfl ?_
  refine pk_iconst (v := nI 0) dX4_inksDrawn_0 (by decide) ?_
  refine pk_istore_n dX4_inksDrawn_1 rfl rfl ?_
  refine pk_iconst (v := nI 0) dX4_inksDrawn_2 (by decide) ?_
  refine pk_istore_n dX4_inksDrawn_3 rfl rfl ?_
  refine pk_for 48 (fun _ => M) (fun j => [some (.ref p), some (.int (nI (sp_fold (fun q x => x ||| sp_s A q) 0 j))), some (.int (nI j))]) ?_ ?_ 0 (by omega)
  · intro j hj K
    have hsj := hs j (by omega)
    refine pk_iload_n dX4_inksDrawn_4 rfl ?_
    refine pk_bipush (v := nI 48) dX4_inksDrawn_5 (by decide) ?_
    first | refine pk_geN (tgt := 25) dX4_inksDrawn_7 (by decide) (by omega) (by omega) (fun c_7 => ?_) (fun c_7 => ?_) | refine pk_icmp_ge (tgt := 25) dX4_inksDrawn_7 (by decide) (fun c_7 => ?_) (fun c_7 => ?_)
    · omega
    · refine pk_iload_n dX4_inksDrawn_10 rfl ?_
      refine pk_aload_n dX4_inksDrawn_11 rfl ?_
      refine pk_getP dX4_inksDrawn_12 fl_X4_21 rfl (hW.ss hp) (hW.sp3 hp) ?_
      refine pk_iload_n dX4_inksDrawn_15 rfl ?_
      refine pk_aldN dX4_inksDrawn_16 (hW.sa3 hp) (by omega) (by omega) (hA.2.2.2.2.2.2 _ (by omega)) ?_
      first | refine pk_orNN dX4_inksDrawn_17 ?_ | refine pk_ior dX4_inksDrawn_17 ?_
      refine pk_istore_n dX4_inksDrawn_18 rfl rfl ?_
      first | refine pk_inc1 dX4_inksDrawn_19 rfl rfl ?_ | refine pk_iinc dX4_inksDrawn_19 rfl rfl rfl ?_
      refine pk_goto (tgt := 4) dX4_inksDrawn_22 (by decide) ?_
      exact K
  · refine pk_iload_n dX4_inksDrawn_4 rfl ?_
    refine pk_bipush (v := nI 48) dX4_inksDrawn_5 (by decide) ?_
    first | refine pk_geN (tgt := 25) dX4_inksDrawn_7 (by decide) (by omega) (by omega) (fun c_7 => ?_) (fun c_7 => ?_) | refine pk_icmp_ge (tgt := 25) dX4_inksDrawn_7 (by decide) (fun c_7 => ?_) (fun c_7 => ?_)
    · refine pk_iload_n dX4_inksDrawn_25 rfl ?_
      refine pk_reti dX4_inksDrawn_26 (by first | rfl | exact pk_nbi _) ?_
      exact ⟨rfl, rfl⟩
    · omega

theorem sp_c_line {A : pk_St} (hA : pk_okS A) {f : Nat → Bool} (j : Nat) : sp_c (fun q => sp_in A q && f q) (8 * (j + 1)) = sp_c (fun q => sp_in A q && f q) (8 * j + sp_w A) := sp_fold_line hA (fun q x h => by simp [h]) j
theorem sp_c_end {A : pk_St} (hA : pk_okS A) {f : Nat → Bool} : sp_c (fun q => sp_in A q && f q) 48 = sp_c (fun q => sp_in A q && f q) (8 * sp_h A) := sp_fold_end hA (fun q x h => by simp [h])
theorem sp_in_ij {A : pk_St} (hA : pk_okS A) {i j : Nat} (hi : i < sp_w A) (hj : j < sp_h A) : sp_in A (8 * j + i) = true := by
  have := hA.1
  rw [sp_in_row (by omega)]
  simp [hi, hj]

set_option maxRecDepth 100000 in
set_option maxHeartbeats 4000000 in
theorem e_X4_placesOfSet {Γ : pk_T} {M : pk_M} {L p : Nat} {A : pk_St} (hW : pk_WF L M) (hp : pk_isS p = true) (hA : pk_At M p A) (hok : pk_okS A) {t : Nat} (ht : t < 32) : pk_E Γ yX4_placesOfSet cX4_placesOfSet 5 (some .int) 3 0 0 M [.ref p, .int (nI t)] (fun r M' => r = some (.int (nI (sp_c (fun q => sp_in A q && (sp_s A q == t)) 48))) ∧ M' = M) := by
  have hw := hok.1
  have hh := hok.2.1
  have hs := hok.2.2.2.2.2.2.2.1
  have hp5 := pk_isS_lt hp
  refine pk_meth (own := RX4) (ini := false) [some (.ref p), some (.int (nI t)), none, none, none] (by decide +kernel) rfl (by decide +kernel) rfl rfl ?_
  rw [sp_c_end hok]
  refine pk_iconst (v := nI 0) dX4_placesOfSet_0 (by decide) ?_
  refine pk_istore_n dX4_placesOfSet_1 rfl rfl ?_
  refine pk_iconst (v := nI 0) dX4_placesOfSet_2 (by decide) ?_
  refine pk_istore_n dX4_placesOfSet_3 rfl rfl ?_
  refine pk_fgt (ls' := [some (.ref p), some (.int (nI t)), some (.int (nI (sp_c (fun q => sp_in A q && (sp_s A q == t)) (8 * 0)))), some (.int (nI 0)), none]) (by repeat first | exact trivial | refine ⟨rfl, ?_⟩) ?_
  refine pk_for (sp_h A) (fun _ => M) (fun j => [some (.ref p), some (.int (nI t)), some (.int (nI (sp_c (fun q => sp_in A q && (sp_s A q == t)) (8 * j)))), some (.int (nI j)), none]) ?_ ?_ 0 (by omega)
  · intro j hj K1
    refine pk_iload_n dX4_placesOfSet_4 rfl ?_
    refine pk_aload_n dX4_placesOfSet_5 rfl ?_
    refine pk_getN dX4_placesOfSet_6 fl_X4_28 rfl (hW.ss hp) hA.2.1 ?_
    first | refine pk_geN (tgt := 50) dX4_placesOfSet_9 (by decide) (by omega) (by omega) (fun c_9 => ?_) (fun c_9 => ?_) | refine pk_icmp_ge (tgt := 50) dX4_placesOfSet_9 (by decide) (fun c_9 => ?_) (fun c_9 => ?_)
    · omega
    · refine pk_iconst (v := nI 0) dX4_placesOfSet_12 (by decide) ?_
      refine pk_istore dX4_placesOfSet_13 rfl rfl ?_
      refine pk_for (sp_w A) (fun _ => M) (fun i => [some (.ref p), some (.int (nI t)), some (.int (nI (sp_c (fun q => sp_in A q && (sp_s A q == t)) (8 * j + i)))), some (.int (nI j)), some (.int (nI i))]) ?_ ?_ 0 (by omega)
      · intro i hi K
        have hsj := hs (8 * j + i) (by omega)
        rw [show 8 * j + i = j * 8 + i by omega] at hsj
        refine pk_iload dX4_placesOfSet_15 rfl ?_
        refine pk_aload_n dX4_placesOfSet_17 rfl ?_
        refine pk_getN dX4_placesOfSet_18 fl_X4_24 rfl (hW.ss hp) hA.1 ?_
        first | refine pk_geN (tgt := 44) dX4_placesOfSet_21 (by decide) (by omega) (by omega) (fun c_21 => ?_) (fun c_21 => ?_) | refine pk_icmp_ge (tgt := 44) dX4_placesOfSet_21 (by decide) (fun c_21 => ?_) (fun c_21 => ?_)
        · omega
        · refine pk_aload_n dX4_placesOfSet_24 rfl ?_
          refine pk_iload dX4_placesOfSet_25 rfl ?_
          refine pk_iload_n dX4_placesOfSet_27 rfl ?_
          refine pk_Vi dX4_placesOfSet_28 ml_X4_54 yw_X4_at yv_X4_at (hW.ss hp) (e_X4_at hW hp hA hok _ _ (sp_at_n hok hi hj)) rfl rfl rfl rfl rfl rfl rfl ?_
          refine pk_iload_n dX4_placesOfSet_31 rfl ?_
          first | refine pk_neN (tgt := 38) dX4_placesOfSet_32 (by decide) (by omega) (by omega) (fun c_32 => ?_) (fun c_32 => ?_) | refine pk_icmp_ne (tgt := 38) dX4_placesOfSet_32 (by decide) (fun c_32 => ?_) (fun c_32 => ?_)
          · first | refine pk_inc1 dX4_placesOfSet_38 rfl rfl ?_ | refine pk_iinc dX4_placesOfSet_38 rfl rfl rfl ?_
            refine pk_goto (tgt := 15) dX4_placesOfSet_41 (by decide) ?_
            refine pk_lsq ?_ K
            have e1 := sp_in_ij hok hi hj
            have e2 : sp_c (fun q => sp_in A q && (sp_s A q == t)) (8 * j + i + 1) = if sp_s A (j * 8 + i) == t then sp_c (fun q => sp_in A q && (sp_s A q == t)) (8 * j + i) + 1 else sp_c (fun q => sp_in A q && (sp_s A q == t)) (8 * j + i) := by
              rw [sp_c_succ, e1, Bool.true_and, Nat.mul_comm 8 j]
            rw [show 8 * j + (i + 1) = 8 * j + i + 1 by omega, e2]
            first | (rw [if_pos (by simp [c_32])]; rfl) | (rw [if_neg (by simp [c_32])]; rfl)
          · first | refine pk_inc1 dX4_placesOfSet_35 rfl rfl ?_ | refine pk_iinc dX4_placesOfSet_35 rfl rfl rfl ?_
            first | refine pk_inc1 dX4_placesOfSet_38 rfl rfl ?_ | refine pk_iinc dX4_placesOfSet_38 rfl rfl rfl ?_
            refine pk_goto (tgt := 15) dX4_placesOfSet_41 (by decide) ?_
            refine pk_lsq ?_ K
            have e1 := sp_in_ij hok hi hj
            have e2 : sp_c (fun q => sp_in A q && (sp_s A q == t)) (8 * j + i + 1) = if sp_s A (j * 8 + i) == t then sp_c (fun q => sp_in A q && (sp_s A q == t)) (8 * j + i) + 1 else sp_c (fun q => sp_in A q && (sp_s A q == t)) (8 * j + i) := by
              rw [sp_c_succ, e1, Bool.true_and, Nat.mul_comm 8 j]
            rw [show 8 * j + (i + 1) = 8 * j + i + 1 by omega, e2]
            first | (rw [if_pos (by simp [c_32])]; rfl) | (rw [if_neg (by simp [c_32])]; rfl)
      · rw [sp_c_line hok] at K1
        refine pk_iload dX4_placesOfSet_15 rfl ?_
        refine pk_aload_n dX4_placesOfSet_17 rfl ?_
        refine pk_getN dX4_placesOfSet_18 fl_X4_24 rfl (hW.ss hp) hA.1 ?_
        first | refine pk_geN (tgt := 44) dX4_placesOfSet_21 (by decide) (by omega) (by omega) (fun c_21 => ?_) (fun c_21 => ?_) | refine pk_icmp_ge (tgt := 44) dX4_placesOfSet_21 (by decide) (fun c_21 => ?_) (fun c_21 => ?_)
        · first | refine pk_inc1 dX4_placesOfSet_44 rfl rfl ?_ | refine pk_iinc dX4_placesOfSet_44 rfl rfl rfl ?_
          refine pk_goto (tgt := 4) dX4_placesOfSet_47 (by decide) ?_
          exact pk_fgt (by repeat first | exact trivial | refine ⟨rfl, ?_⟩) K1
        · omega
  · refine pk_iload_n dX4_placesOfSet_4 rfl ?_
    refine pk_aload_n dX4_placesOfSet_5 rfl ?_
    refine pk_getN dX4_placesOfSet_6 fl_X4_28 rfl (hW.ss hp) hA.2.1 ?_
    first | refine pk_geN (tgt := 50) dX4_placesOfSet_9 (by decide) (by omega) (by omega) (fun c_9 => ?_) (fun c_9 => ?_) | refine pk_icmp_ge (tgt := 50) dX4_placesOfSet_9 (by decide) (fun c_9 => ?_) (fun c_9 => ?_)
    · refine pk_iload_n dX4_placesOfSet_50 rfl ?_
      refine pk_reti dX4_placesOfSet_51 (by first | rfl | exact pk_nbi _) ?_
      exact ⟨rfl, rfl⟩
    · omega
