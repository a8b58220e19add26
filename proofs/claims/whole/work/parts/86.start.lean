/-! The law from its entry. -/
def lw_M0 (L : Nat) (xs : Nat → Int32) : pk_M := ([.inl (.int, L), .inl (.int, 5), .inl (.int, 4), .inl (.int, 4), .inl (.int, 5)], fun q j => match q with
  | 0 => xs j
  | 1 => nI (sp_ft j)
  | 2 => sp_sx j
  | 3 => sp_sy j
  | _ => nI (sp_blk j), fun _ _ => 0, fun _ _ => none)
theorem lw_ro {L : Nat} {xs : Nat → Int32} : pk_ro (lw_M0 L xs) := ⟨fun _ _ => rfl, fun _ _ => rfl, fun _ _ => rfl, fun _ _ => rfl⟩
theorem lw_end {Γ : pk_T} {b : Nat} : ∀ (N : pk_M) (ls : List (Option Value)), N.1.length = 118 → pk_G Γ (lw_k b) cL_law N ls [] 1103 113 2958 := by
  intro N ls hl
  refine pk_iconst (v := 1) dL_law_1103 (by decide) ?_
  intro p e s m below meth c H locs arr C hz hR hS _
  have h1 := hR.2.1
  refine va_forget (fun q hq => ?_) ?_
  · have h2 : Γ.2.2.2.1 ≤ q.base := hS.2.2 q hq
    omega
  · refine W.widen (k := 600000) (n := 7302250) (by omega) (by omega) ?_
    exact lw_ret C.1 C.2.1 C.2.2.2.1 C.2.2.2.2.1 dL_law_1104
set_option maxRecDepth 100000 in
set_option maxHeartbeats 4000000 in
theorem lw_ent {Γ : pk_T} {b L : Nat} {xs : Nat → Int32} (hL : L ≤ 3072) : pk_G Γ (lw_k b) cL_law (lw_M0 L xs) [some (.ref 0), none, none, none] [] 0 0 0 := by
  have hl0 : (lw_M0 L xs).1.length = 5 := rfl
  refine pk_new (ci := 6) dL_law_0 (by decide) cl_L_7 in_X6 it_X6 rfl rfl ?_
  rw [hl0]
  refine pk_dup dL_law_3 rfl ?_
  refine pk_callI dL_law_4 ml_L_9 yw_X6_init yi_X6_init rfl (e_X6_init (M := pk_nw (lw_M0 L xs) (.inr 6)) (pk_nwS0 rfl) (by rw [pk_nwl, hl0]) (pk_nwS rfl) (fun k _ => pk_gNI (by rw [hl0]; decide) rfl)) rfl rfl rfl rfl rfl rfl rfl (fun v V0 hv => ?_)
  obtain ⟨rfl, g1, i1⟩ := hv
  have hl1 : V0.1.length = 103 := by rw [g1.1]; rfl
  refine pk_astore_n dL_law_7 rfl rfl ?_
  refine pk_new (ci := 7) dL_law_8 (by decide) cl_L_10 in_X7 it_X7 rfl rfl ?_
  rw [hl1]
  refine pk_dup dL_law_11 rfl ?_
  refine pk_callI dL_law_12 ml_L_12 yw_X7_init yi_X7_init rfl (e_X7_init (M := pk_nw V0 (.inr 7)) (pk_nwS0 hl1.symm) (by rw [pk_nwl, hl1]) ⟨pk_gNI0 hl1.symm, pk_gNI0 hl1.symm⟩) rfl rfl rfl rfl rfl rfl rfl (fun v V1 hv => ?_)
  obtain ⟨rfl, g2, i2⟩ := hv
  refine pk_astore_n dL_law_15 rfl rfl ?_
  refine pk_iconst (v := nI 0) dL_law_16 (by decide) ?_
  refine pk_istore_n dL_law_17 rfl rfl ?_
  obtain ⟨-, hC, hM, h0⟩ := c_start (L := L) rfl lw_ro g1 i1 g2 i2
  exact lw_loop hL lw_end ⟨hC, hM, ok_X0, fun j => h0.I j⟩
def lw_cA (c1 c2 c3 c4 c5 : ClassId) : FieldType → ClassId
  | .int => c1
  | .boolean => c2
  | .long => c3
  | .object C => if C = RX4 then c4 else c5
  | _ => c1
def lw_ta (b t1 t2 t3 t4 : Nat) : Nat → Nat
  | 0 => b
  | 1 => t1
  | 2 => t2
  | 3 => t3
  | _ => t4
theorem lw_in {ci : Nat} (h : ci < 8) : Cond.instantiable (pk_cls ci) (pk_fn ci) ∈ pk_tbl := by
  match ci, h with
  | 0, _ => exact in_X0
  | 1, _ => exact in_X1
  | 2, _ => exact in_X2
  | 3, _ => exact in_X3
  | 4, _ => exact in_X4
  | 5, _ => exact in_X5
  | 6, _ => exact in_X6
  | 7, _ => exact in_X7
set_option maxRecDepth 100000 in
set_option maxHeartbeats 4000000 in
theorem whole_start {p : Program} {e : Env} {s : State} {m : MethodId} {below : List Frame} {meth : Method} {c : Code} (l : Launch) (hflags : l.flags = flags0) {b L : Nat} {xs : Nat → Int32} (hL : L ≤ 3072) (C0 : lw_At p s m meth c b L xs) : W p l e room_1 s m #[Value.ref b] below meth c s.heap [] 0 0 (lw_Z below #[Value.ref b] s) (entryFrame m ([Value.ref b] : List Value).toArray 4) := by
  obtain ⟨hx, hb, hr, hml, hown, hts, hX, hbl, hlocks, hgv⟩ := C0
  have hs := flat_of_before _ hgv
  have hA : ∀ a : Nat, a < s.heap.size → ¬ (fun q : Nat => s.heap.size ≤ q) a := fun a h => Nat.not_le.mpr h
  have hw : ∀ w ∈ pk_tbl, w.before #[Value.ref b] s = true := fun w h => hts w (List.mem_filter.mp h).1
  obtain ⟨t1, et1, T1⟩ := va_Tof (args := #[Value.ref b]) (s := s) (tm := .static "PartedInks" "FIRST_TONES" "[I") (ty := .int) (N := 5) (f := fun j => .int ((fun j => nI (sp_ft j)) j)) (A := fun q : Nat => s.heap.size ≤ q) (by decide) (hs (Cond.arrayOf (.static "PartedInks" "FIRST_TONES" "[I") .int) (by decide +kernel)) (va_eqt (hs (Cond.eq (.length (.static "PartedInks" "FIRST_TONES" "[I")) (.int 5)) (by decide +kernel))) (by
    intro j hj
    obtain rfl | rfl | rfl | rfl | rfl : j = 0 ∨ j = 1 ∨ j = 2 ∨ j = 3 ∨ j = 4 := by omega
    · exact va_eqt (hs (Cond.eq (.elem (.static "PartedInks" "FIRST_TONES" "[I") (.int 0)) (.int (4080))) (by decide +kernel))
    · exact va_eqt (hs (Cond.eq (.elem (.static "PartedInks" "FIRST_TONES" "[I") (.int 1)) (.int (3855))) (by decide +kernel))
    · exact va_eqt (hs (Cond.eq (.elem (.static "PartedInks" "FIRST_TONES" "[I") (.int 2)) (.int (255))) (by decide +kernel))
    · exact va_eqt (hs (Cond.eq (.elem (.static "PartedInks" "FIRST_TONES" "[I") (.int 3)) (.int (2184))) (by decide +kernel))
    · exact va_eqt (hs (Cond.eq (.elem (.static "PartedInks" "FIRST_TONES" "[I") (.int 4)) (.int (1092))) (by decide +kernel))) hA
  have Z1 : va_Z RX6 "FIRST_TONES" "[I" (.ref t1) (fun q : Nat => s.heap.size ≤ q) s s.heap := va_Zref (args := #[Value.ref b]) (hts (.laysStatic "PartedInks" "FIRST_TONES" "[I") (by decide +kernel)) (hw _ it_X6) et1 hA
  obtain ⟨t2, et2, T2⟩ := va_Tof (args := #[Value.ref b]) (s := s) (tm := .static "PartedInks" "SIDE_X" "[I") (ty := .int) (N := 4) (f := fun j => .int ((sp_sx) j)) (A := fun q : Nat => s.heap.size ≤ q) (by decide) (hs (Cond.arrayOf (.static "PartedInks" "SIDE_X" "[I") .int) (by decide +kernel)) (va_eqt (hs (Cond.eq (.length (.static "PartedInks" "SIDE_X" "[I")) (.int 4)) (by decide +kernel))) (by
    intro j hj
    obtain rfl | rfl | rfl | rfl : j = 0 ∨ j = 1 ∨ j = 2 ∨ j = 3 := by omega
    · exact va_eqt (hs (Cond.eq (.elem (.static "PartedInks" "SIDE_X" "[I") (.int 0)) (.int (0))) (by decide +kernel))
    · exact va_eqt (hs (Cond.eq (.elem (.static "PartedInks" "SIDE_X" "[I") (.int 1)) (.int (-1))) (by decide +kernel))
    · exact va_eqt (hs (Cond.eq (.elem (.static "PartedInks" "SIDE_X" "[I") (.int 2)) (.int (1))) (by decide +kernel))
    · exact va_eqt (hs (Cond.eq (.elem (.static "PartedInks" "SIDE_X" "[I") (.int 3)) (.int (0))) (by decide +kernel))) hA
  have Z2 : va_Z RX6 "SIDE_X" "[I" (.ref t2) (fun q : Nat => s.heap.size ≤ q) s s.heap := va_Zref (args := #[Value.ref b]) (hts (.laysStatic "PartedInks" "SIDE_X" "[I") (by decide +kernel)) (hw _ it_X6) et2 hA
  obtain ⟨t3, et3, T3⟩ := va_Tof (args := #[Value.ref b]) (s := s) (tm := .static "PartedInks" "SIDE_Y" "[I") (ty := .int) (N := 4) (f := fun j => .int ((sp_sy) j)) (A := fun q : Nat => s.heap.size ≤ q) (by decide) (hs (Cond.arrayOf (.static "PartedInks" "SIDE_Y" "[I") .int) (by decide +kernel)) (va_eqt (hs (Cond.eq (.length (.static "PartedInks" "SIDE_Y" "[I")) (.int 4)) (by decide +kernel))) (by
    intro j hj
    obtain rfl | rfl | rfl | rfl : j = 0 ∨ j = 1 ∨ j = 2 ∨ j = 3 := by omega
    · exact va_eqt (hs (Cond.eq (.elem (.static "PartedInks" "SIDE_Y" "[I") (.int 0)) (.int (-1))) (by decide +kernel))
    · exact va_eqt (hs (Cond.eq (.elem (.static "PartedInks" "SIDE_Y" "[I") (.int 1)) (.int (0))) (by decide +kernel))
    · exact va_eqt (hs (Cond.eq (.elem (.static "PartedInks" "SIDE_Y" "[I") (.int 2)) (.int (0))) (by decide +kernel))
    · exact va_eqt (hs (Cond.eq (.elem (.static "PartedInks" "SIDE_Y" "[I") (.int 3)) (.int (1))) (by decide +kernel))) hA
  have Z3 : va_Z RX6 "SIDE_Y" "[I" (.ref t3) (fun q : Nat => s.heap.size ≤ q) s s.heap := va_Zref (args := #[Value.ref b]) (hts (.laysStatic "PartedInks" "SIDE_Y" "[I") (by decide +kernel)) (hw _ it_X6) et3 hA
  obtain ⟨t4, et4, T4⟩ := va_Tof (args := #[Value.ref b]) (s := s) (tm := .static "PartedInks" "ORDERS_BEHIND" "[I") (ty := .int) (N := 5) (f := fun j => .int ((fun j => nI (sp_blk j)) j)) (A := fun q : Nat => s.heap.size ≤ q) (by decide) (hs (Cond.arrayOf (.static "PartedInks" "ORDERS_BEHIND" "[I") .int) (by decide +kernel)) (va_eqt (hs (Cond.eq (.length (.static "PartedInks" "ORDERS_BEHIND" "[I")) (.int 5)) (by decide +kernel))) (by
    intro j hj
    obtain rfl | rfl | rfl | rfl | rfl : j = 0 ∨ j = 1 ∨ j = 2 ∨ j = 3 ∨ j = 4 := by omega
    · exact va_eqt (hs (Cond.eq (.elem (.static "PartedInks" "ORDERS_BEHIND" "[I") (.int 0)) (.int (24))) (by decide +kernel))
    · exact va_eqt (hs (Cond.eq (.elem (.static "PartedInks" "ORDERS_BEHIND" "[I") (.int 1)) (.int (6))) (by decide +kernel))
    · exact va_eqt (hs (Cond.eq (.elem (.static "PartedInks" "ORDERS_BEHIND" "[I") (.int 2)) (.int (2))) (by decide +kernel))
    · exact va_eqt (hs (Cond.eq (.elem (.static "PartedInks" "ORDERS_BEHIND" "[I") (.int 3)) (.int (1))) (by decide +kernel))
    · exact va_eqt (hs (Cond.eq (.elem (.static "PartedInks" "ORDERS_BEHIND" "[I") (.int 4)) (.int (1))) (by decide +kernel))) hA
  have Z4 : va_Z RX6 "ORDERS_BEHIND" "[I" (.ref t4) (fun q : Nat => s.heap.size ≤ q) s s.heap := va_Zref (args := #[Value.ref b]) (hts (.laysStatic "PartedInks" "ORDERS_BEHIND" "[I") (by decide +kernel)) (hw _ it_X6) et4 hA
  obtain ⟨c1, k1, m1, f1, f2, f3⟩ := Cond.arrayClass_spec (hw _ ac_int)
  obtain ⟨c2, k2, m2, g1, g2, g3⟩ := Cond.arrayClass_spec (hw _ ac_boolean)
  obtain ⟨c3, k3, m3, i1, i2, i3⟩ := Cond.arrayClass_spec (hw _ ac_long)
  obtain ⟨m4, c4, k4, j1, j2, j3, j4, j5⟩ := Cond.arrayOver_spec (hw _ ao_X4)
  obtain ⟨m5, c5, k5, n1, n2, n3, n4, n5⟩ := Cond.arrayOver_spec (hw _ ao_X3)
  have hk : ∀ ci, ci < 8 → ∃ (cC : ClassId) (iS : Nat → Nat), u_Kn s (pk_cls ci) (pk_tab ci) (pk_fn ci) cC iS := fun ci h => u_known (ws := pk_tbl) hw (pk_lays h) (hw _ (lw_in h))
  have hk2 : ∀ ci, ∃ x : ClassId × (Nat → Nat), ci < 8 → u_Kn s (pk_cls ci) (pk_tab ci) (pk_fn ci) x.1 x.2 := by
    intro ci
    by_cases h : ci < 8
    · obtain ⟨cC, iS, hh⟩ := hk ci h
      exact ⟨(cC, iS), fun _ => hh⟩
    · exact ⟨(c1, fun _ => 0), fun h2 => absurd h2 h⟩
  obtain ⟨dC, dI, hKc⟩ : ∃ (dC : Nat → ClassId) (dI : Nat → Nat → Nat), ∀ ci, ci < 8 → u_Kn s (pk_cls ci) (pk_tab ci) (pk_fn ci) (dC ci) (dI ci) := ⟨fun ci => (Classical.choose (hk2 ci)).1, fun ci => (Classical.choose (hk2 ci)).2, fun ci h => Classical.choose_spec (hk2 ci) h⟩
  obtain ⟨Γ, hΓ⟩ : ∃ Γ : pk_T, Γ = (l, (dC, dI), lw_cA c1 c2 c3 c4 c5, s.heap.size, lw_ta b t1 t2 t3 t4) := ⟨_, rfl⟩
  have eT : pk_tys Γ = [(c1, .int), (c2, .boolean), (c3, .long), (c4, .object RX4), (c5, .object RX3)] := by
    rw [hΓ]
    have e4 : lw_cA c1 c2 c3 c4 c5 (.object RX4) = c4 := (by show (if RX4 = RX4 then c4 else c5) = c4; exact if_pos rfl)
    have e3 : lw_cA c1 c2 c3 c4 c5 (.object RX3) = c5 := (by show (if RX3 = RX4 then c4 else c5) = c5; exact if_neg (by decide))
    show [(c1, FieldType.int), (c2, .boolean), (c3, .long), (lw_cA c1 c2 c3 c4 c5 (.object RX4), .object RX4), (lw_cA c1 c2 c3 c4 c5 (.object RX3), .object RX3)] = _
    rw [e4, e3]
  have hK : va_K Γ.2.1 vwCl (pk_tys Γ) s := by
    refine ⟨fun ci q hq => ?_, fun k q hq => ?_⟩
    · have hc : ci < 8 := (List.getElem?_eq_some_iff.mp hq).1
      cases (pk_clq hc).symm.trans hq
      rw [hΓ]
      exact hKc ci hc
    · rw [eT] at hq
      match k, hq with
      | 0, hq => cases hq; exact ⟨fun n z => ⟨fun k h => (by cases h), k1, f2, m1, f3⟩, f1⟩
      | 1, hq => cases hq; exact ⟨fun n z => ⟨fun k h => (by cases h), k2, g2, m2, g3⟩, g1⟩
      | 2, hq => cases hq; exact ⟨fun n z => ⟨fun k h => (by cases h), k3, i2, m3, i3⟩, i1⟩
      | 3, hq => cases hq; exact ⟨fun n z => ⟨fun k h => (by cases h), k4, j3, m4, j4⟩, k4, m4, j3, j4, j1, j5⟩
      | 4, hq => cases hq; exact ⟨fun n z => ⟨fun k h => (by cases h), k5, n3, m5, n4⟩, k5, m5, n3, n4, n1, n5⟩
      | k + 5, hq => simp at hq
  have hP : va_P Γ.2.1 vwCl (pk_w Γ (lw_M0 L xs)) s.heap := fun k q h => by
    have e0 : pk_w Γ (lw_M0 L xs) = [] := rfl
    rw [e0] at h
    cases h
  have T0 : va_T .int b L (fun j => .int (xs j)) (fun q : Nat => s.heap.size ≤ q) s s.heap := by
    obtain ⟨scr, h1, h2, h3, h4, h5⟩ := hX
    exact ⟨scr, h1, h2, h3, Nat.le_of_eq h4.symm, by rw [h4] <;> rfl, h5, hA b hbl⟩
  have hR : pk_R Γ (lw_M0 L xs) s s.heap := by
    refine ⟨Nat.le_refl 5, by rw [hΓ] <;> rfl, hP, hK, fun k hk => ?_, fun q hq => ?_⟩
    · rw [hΓ]
      obtain rfl | rfl | rfl | rfl | rfl : k = 0 ∨ k = 1 ∨ k = 2 ∨ k = 3 ∨ k = 4 := by omega
      · exact ⟨L, rfl, T0⟩
      · exact ⟨5, rfl, T1⟩
      · exact ⟨4, rfl, T2⟩
      · exact ⟨4, rfl, T3⟩
      · exact ⟨5, rfl, T4⟩
    · rw [hΓ]
      simp only [pk_st, List.mem_cons, List.not_mem_nil, or_false] at hq
      rcases hq with rfl | rfl | rfl | rfl
      · exact Z1
      · exact Z2
      · exact Z3
      · exact Z4
  have hent := lv_entry ([.ref b]) (n := 4) (Nat.le_of_ble_eq_true rfl)
  rw [lg_entry_eq]
  generalize (lg_sl ([.ref b]) ++ List.replicate (4 - (lg_sl ([.ref b])).length) Slot.unset).toArray = arr at hent ⊢
  have hent : lv_has arr 4 [(0, .ref b)] := hent
  have hga : pk_ga Γ 0 = b := by rw [hΓ]; rfl
  have hLo : pk_L Γ 4 [some (.ref 0), none, none, none] arr := by
    refine ⟨rfl, hent.1, hent.2.1, fun k v hk => ?_⟩
    match k, hk with
    | 0, hk => cases hk; show arr[0]? = some (.val (.ref (pk_ga Γ 0))); rw [hga]; exact hent.2.2 (0, .ref b) List.mem_cons_self
    | 1, hk => cases hk
    | 2, hk => cases hk
    | 3, hk => cases hk
    | k + 4, hk => simp at hk
  have hl : Γ.1 = l := by rw [hΓ]
  have fin := lw_ent (Γ := Γ) (b := b) (L := L) (xs := xs) hL p e s m below meth c s.heap [] arr ⟨hx, hb, hml, hr, hlocks, hown, fun h => (by cases h), hw, by rw [hΓ] <;> exact Nat.le_refl _⟩ rfl hR va_S.rf hLo
  rw [hl] at fin
  exact fin
