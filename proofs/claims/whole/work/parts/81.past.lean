/-! Constructors: Past. -/
theorem pk_ShL {M N : pk_M} {ext : List pk_Sh} (h : N.1 = M.1 ++ ext) {q : Nat} {z : pk_Sh} (e : pk_S M q = some z) : pk_S N q = some z := by
  unfold pk_S
  rw [h, List.getElem?_append_left (List.getElem?_eq_some_iff.mp e).1]
  exact e
theorem pk_ShR {M N : pk_M} {ext : List pk_Sh} (h : N.1 = M.1 ++ ext) {q l i : Nat} {z : pk_Sh} (hl : M.1.length = l) (hq : q = l + i) (e : ext[i]? = some z) : pk_S N q = some z := by
  unfold pk_S
  rw [h, List.getElem?_append_right (by omega), show q - M.1.length = i by omega]
  exact e
def sp_rep : Nat → List pk_Sh
  | 0 => []
  | k + 1 => sp_rep k ++ [.inr 4, .inl (.int, 5), .inl (.int, 5), .inl (.int, 5), .inl (.int, 48)]
theorem sp_rep_len (k : Nat) : (sp_rep k).length = 5 * k := by
  induction k with
  | zero => rfl
  | succ k ih =>
    rw [sp_rep, List.length_append, ih]
    show 5 * k + 5 = _
    omega
def c_PaI (M N : pk_M) (b k : Nat) : Prop := N.1 = M.1 ++ (.inl (.object RX4, 6) :: sp_rep k) ∧ N.1.length = b + 2 + 5 * k ∧ (∀ q, q < b → pk_sm q M N) ∧ pk_P N b 0 = some (b + 1) ∧ pk_I N b 1 = nI 0 ∧ ∀ i, i < k → pk_P N (b + 1) i = some (b + 2 + 5 * i) ∧ c_St N (b + 2 + 5 * i)
theorem c_PaI.step {M N N2 : pk_M} {b k : Nat} (h : c_PaI M N b k) (hg : pk_gr (b + 2 + 5 * k) (pk_nw N (.inr 4)) N2 [.inl (.int, 5), .inl (.int, 5), .inl (.int, 5), .inl (.int, 48)]) (hs : c_St N2 (b + 2 + 5 * k)) : c_PaI M (pk_sP N2 (b + 1) k (some (b + 2 + 5 * k))) b (k + 1) := by
  obtain ⟨h1, h2, h3, h4, h5, h6⟩ := h
  have hsh : N2.1 = M.1 ++ (.inl (.object RX4, 6) :: sp_rep (k + 1)) := by
    rw [hg.1]
    show (N.1 ++ [_]) ++ _ = _
    rw [h1, sp_rep]
    simp
  have hf : ∀ q, q < b + 2 + 5 * k → pk_sm q N N2 := fun q hq => (pk_sm.nw (by omega)).tr (hg.2 q hq)
  refine ⟨hsh, ?_, fun q hq => ((h3 q hq).tr (hf q (by omega))).tr (pk_sm.sP (by omega)), pk_gP0 (by omega) (((hf b (by omega)).P 0).trans h4), ((hf b (by omega)).I 1).trans h5, fun i hi => ?_⟩
  · show N2.1.length = _
    rw [hg.1, List.length_append, pk_nwl, h2]
    show b + 2 + 5 * k + 1 + 4 = _
    omega
  · by_cases e : i = k
    · subst e
      exact ⟨pk_gP1 rfl rfl rfl, hs.sm (fun q q1 q2 => pk_sm.sP (by omega))⟩
    · obtain ⟨g1, g2⟩ := h6 i (by omega)
      exact ⟨pk_gP0 (by omega) (((hf (b + 1) (by omega)).P i).trans g1), (g2.sm (fun q q1 q2 => hf q (by omega))).sm (fun q q1 q2 => pk_sm.sP (by omega))⟩

set_option maxRecDepth 100000 in
set_option maxHeartbeats 4000000 in
theorem e_X2_init {Γ : pk_T} {M : pk_M} {b : Nat} (hb : pk_S M b = some (.inr 2)) (hlen : M.1.length = b + 1) (hb5 : 5 ≤ b) (h1 : pk_S M 1 = some (.inl (.int, 5))) (hft : ∀ k, k < 5 → pk_I M 1 k = nI (sp_ft k)) : pk_E Γ yX2_init cX2_init 2 none 2 31 426 M [.ref b] (fun r M' => r = none ∧ pk_gr b M M' (.inl (.object RX4, 6) :: sp_rep 6) ∧ c_Pa M' b) := by
  refine pk_meth (own := RX2) (ini := true) [some (.ref b), none] (by decide +kernel) rfl (by decide +kernel) rfl rfl ?_
  refine pk_aload_n dX2_init_0 rfl ?_
  refine pk_objInit dX2_init_1 mo_X2_3 oi_inst oi_code rfl rfl rfl ?_
  refine pk_aload_n dX2_init_4 rfl ?_
  refine pk_bipush (v := nI 6) dX2_init_5 (by decide) ?_
  refine pk_newq (N := 6) (t0 := 3) (C0 := RX4) dX2_init_7 (Or.inl ⟨rfl, rfl⟩) cl_X2_9 ao_X4 (by decide) (by decide) (by decide) rfl rfl ?_
  simp only [pk_nwl, pk_sPl, pk_sIl, hlen]
  refine pk_putF dX2_init_10 (by decide) (by decide) fw_X2_11 rfl rfl rfl rfl (pk_nwS hb) ?_
  refine pk_aload_n dX2_init_13 rfl ?_
  refine pk_iconst (v := nI 0) dX2_init_14 (by decide) ?_
  refine pk_putI dX2_init_15 fl_X2_17 rfl rfl rfl rfl (pk_nwS hb) ?_
  refine pk_iconst (v := nI 0) dX2_init_18 (by decide) ?_
  refine pk_istore_n dX2_init_19 rfl rfl ?_
  obtain ⟨N0, eN⟩ : ∃ X, X = (pk_sI (pk_sP (pk_nw M (.inl (.object RX4, 6))) b 0 (some (b + 1))) b 1 (nI 0)) := ⟨_, rfl⟩
  rw [← eN]
  have c0 : c_PaI M N0 b 0 := by
    rw [eN]
    exact ⟨rfl, by show (M.1 ++ [_]).length = _; simp [hlen], fun q hq => ((pk_sm.nw (by omega)).tr (pk_sm.sP (by omega))).tr (pk_sm.sI (by omega)), pk_gIP (pk_gP1 rfl rfl rfl), pk_gS1 rfl rfl rfl, fun i hi => absurd hi (Nat.not_lt_zero i)⟩
  clear eN
  have hL0 := c0.2.1
  have hb0 : pk_S N0 b = some (.inr 2) := pk_ShL c0.1 hb
  have ha0 : pk_S N0 (b + 1) = some (.inl (.object RX4, 6)) := pk_ShR c0.1 (i := 0) hlen rfl rfl
  refine pk_iload_n dX2_init_20 rfl ?_
  refine pk_bipush (v := nI 6) dX2_init_21 (by decide) ?_
  refine pk_geN (a := 0) (b := 6) (tgt := 45) dX2_init_23 (by decide) (by decide) (by decide) (fun c_23 => ?_) (fun c_23 => ?_)
  · omega
  refine pk_aload_n dX2_init_26 rfl ?_
  refine pk_getP dX2_init_27 fl_X2_11 rfl hb0 c0.2.2.2.1 ?_
  refine pk_iload_n dX2_init_30 rfl ?_
  refine pk_new (ci := 4) dX2_init_31 (by decide) cl_X2_9 in_X4 it_X4 rfl rfl ?_
  rw [hL0]
  refine pk_dup dX2_init_34 rfl ?_
  refine pk_callI dX2_init_35 ml_X2_21 yw_X4_init yi_X4_init rfl (e_X4_init (M := pk_nw N0 (.inr 4)) (b := (b + 2 + 5 * 0)) (pk_nwS0 (by omega)) (by rw [pk_nwl, hL0]) (by omega) (pk_nwS (pk_ShL c0.1 h1)) (fun j hj => pk_gNI (by omega) (((c0.2.2.1 1 (by omega)).I j).trans (hft j hj)))) rfl rfl rfl rfl rfl rfl rfl (fun v V0 hv => ?_)
  obtain ⟨rfl, hg0, hs0⟩ := hv
  have hst0 : pk_S V0 (b + 2 + 5 * 0) = some (.inr 4) := pk_ShL hg0.1 (pk_nwS0 (by omega))
  have hsa0 : pk_S V0 (b + 1) = some (.inl (.object RX4, 6)) := pk_ShL hg0.1 (pk_nwS ha0)
  refine pk_aasN (ci := 4) dX2_init_38 (Or.inl ⟨rfl, rfl⟩) hsa0 (by omega) (by omega) (by omega) (by decide) rfl hst0 ?_
  first | refine pk_inc1 dX2_init_39 rfl rfl ?_ | refine pk_iinc dX2_init_39 rfl rfl rfl ?_
  refine pk_goto (tgt := 20) dX2_init_42 (by decide) ?_
  have c1 := c0.step hg0 hs0
  obtain ⟨N1, eN⟩ : ∃ X, X = pk_sP V0 (b + 1) 0 (some (b + 2 + 5 * 0)) := ⟨_, rfl⟩
  rw [← eN] at c1
  refine pk_Mq eN.symm ?_
  clear eN
  refine pk_lsq (ls' := [some (.ref b), some (.int (nI 1))]) rfl ?_
  have hL1 := c1.2.1
  have hb1 : pk_S N1 b = some (.inr 2) := pk_ShL c1.1 hb
  have ha1 : pk_S N1 (b + 1) = some (.inl (.object RX4, 6)) := pk_ShR c1.1 (i := 0) hlen rfl rfl
  refine pk_iload_n dX2_init_20 rfl ?_
  refine pk_bipush (v := nI 6) dX2_init_21 (by decide) ?_
  refine pk_geN (a := 1) (b := 6) (tgt := 45) dX2_init_23 (by decide) (by decide) (by decide) (fun c_23 => ?_) (fun c_23 => ?_)
  · omega
  refine pk_aload_n dX2_init_26 rfl ?_
  refine pk_getP dX2_init_27 fl_X2_11 rfl hb1 c1.2.2.2.1 ?_
  refine pk_iload_n dX2_init_30 rfl ?_
  refine pk_new (ci := 4) dX2_init_31 (by decide) cl_X2_9 in_X4 it_X4 rfl rfl ?_
  rw [hL1]
  refine pk_dup dX2_init_34 rfl ?_
  refine pk_callI dX2_init_35 ml_X2_21 yw_X4_init yi_X4_init rfl (e_X4_init (M := pk_nw N1 (.inr 4)) (b := (b + 2 + 5 * 1)) (pk_nwS0 (by omega)) (by rw [pk_nwl, hL1]) (by omega) (pk_nwS (pk_ShL c1.1 h1)) (fun j hj => pk_gNI (by omega) (((c1.2.2.1 1 (by omega)).I j).trans (hft j hj)))) rfl rfl rfl rfl rfl rfl rfl (fun v V1 hv => ?_)
  obtain ⟨rfl, hg1, hs1⟩ := hv
  have hst1 : pk_S V1 (b + 2 + 5 * 1) = some (.inr 4) := pk_ShL hg1.1 (pk_nwS0 (by omega))
  have hsa1 : pk_S V1 (b + 1) = some (.inl (.object RX4, 6)) := pk_ShL hg1.1 (pk_nwS ha1)
  refine pk_aasN (ci := 4) dX2_init_38 (Or.inl ⟨rfl, rfl⟩) hsa1 (by omega) (by omega) (by omega) (by decide) rfl hst1 ?_
  first | refine pk_inc1 dX2_init_39 rfl rfl ?_ | refine pk_iinc dX2_init_39 rfl rfl rfl ?_
  refine pk_goto (tgt := 20) dX2_init_42 (by decide) ?_
  have c2 := c1.step hg1 hs1
  obtain ⟨N2, eN⟩ : ∃ X, X = pk_sP V1 (b + 1) 1 (some (b + 2 + 5 * 1)) := ⟨_, rfl⟩
  rw [← eN] at c2
  refine pk_Mq eN.symm ?_
  clear eN
  refine pk_lsq (ls' := [some (.ref b), some (.int (nI 2))]) rfl ?_
  have hL2 := c2.2.1
  have hb2 : pk_S N2 b = some (.inr 2) := pk_ShL c2.1 hb
  have ha2 : pk_S N2 (b + 1) = some (.inl (.object RX4, 6)) := pk_ShR c2.1 (i := 0) hlen rfl rfl
  refine pk_iload_n dX2_init_20 rfl ?_
  refine pk_bipush (v := nI 6) dX2_init_21 (by decide) ?_
  refine pk_geN (a := 2) (b := 6) (tgt := 45) dX2_init_23 (by decide) (by decide) (by decide) (fun c_23 => ?_) (fun c_23 => ?_)
  · omega
  refine pk_aload_n dX2_init_26 rfl ?_
  refine pk_getP dX2_init_27 fl_X2_11 rfl hb2 c2.2.2.2.1 ?_
  refine pk_iload_n dX2_init_30 rfl ?_
  refine pk_new (ci := 4) dX2_init_31 (by decide) cl_X2_9 in_X4 it_X4 rfl rfl ?_
  rw [hL2]
  refine pk_dup dX2_init_34 rfl ?_
  refine pk_callI dX2_init_35 ml_X2_21 yw_X4_init yi_X4_init rfl (e_X4_init (M := pk_nw N2 (.inr 4)) (b := (b + 2 + 5 * 2)) (pk_nwS0 (by omega)) (by rw [pk_nwl, hL2]) (by omega) (pk_nwS (pk_ShL c2.1 h1)) (fun j hj => pk_gNI (by omega) (((c2.2.2.1 1 (by omega)).I j).trans (hft j hj)))) rfl rfl rfl rfl rfl rfl rfl (fun v V2 hv => ?_)
  obtain ⟨rfl, hg2, hs2⟩ := hv
  have hst2 : pk_S V2 (b + 2 + 5 * 2) = some (.inr 4) := pk_ShL hg2.1 (pk_nwS0 (by omega))
  have hsa2 : pk_S V2 (b + 1) = some (.inl (.object RX4, 6)) := pk_ShL hg2.1 (pk_nwS ha2)
  refine pk_aasN (ci := 4) dX2_init_38 (Or.inl ⟨rfl, rfl⟩) hsa2 (by omega) (by omega) (by omega) (by decide) rfl hst2 ?_
  first | refine pk_inc1 dX2_init_39 rfl rfl ?_ | refine pk_iinc dX2_init_39 rfl rfl rfl ?_
  refine pk_goto (tgt := 20) dX2_init_42 (by decide) ?_
  have c3 := c2.step hg2 hs2
  obtain ⟨N3, eN⟩ : ∃ X, X = pk_sP V2 (b + 1) 2 (some (b + 2 + 5 * 2)) := ⟨_, rfl⟩
  rw [← eN] at c3
  refine pk_Mq eN.symm ?_
  clear eN
  refine pk_lsq (ls' := [some (.ref b), some (.int (nI 3))]) rfl ?_
  have hL3 := c3.2.1
  have hb3 : pk_S N3 b = some (.inr 2) := pk_ShL c3.1 hb
  have ha3 : pk_S N3 (b + 1) = some (.inl (.object RX4, 6)) := pk_ShR c3.1 (i := 0) hlen rfl rfl
  refine pk_iload_n dX2_init_20 rfl ?_
  refine pk_bipush (v := nI 6) dX2_init_21 (by decide) ?_
  refine pk_geN (a := 3) (b := 6) (tgt := 45) dX2_init_23 (by decide) (by decide) (by decide) (fun c_23 => ?_) (fun c_23 => ?_)
  · omega
  refine pk_aload_n dX2_init_26 rfl ?_
  refine pk_getP dX2_init_27 fl_X2_11 rfl hb3 c3.2.2.2.1 ?_
  refine pk_iload_n dX2_init_30 rfl ?_
  refine pk_new (ci := 4) dX2_init_31 (by decide) cl_X2_9 in_X4 it_X4 rfl rfl ?_
  rw [hL3]
  refine pk_dup dX2_init_34 rfl ?_
  refine pk_callI dX2_init_35 ml_X2_21 yw_X4_init yi_X4_init rfl (e_X4_init (M := pk_nw N3 (.inr 4)) (b := (b + 2 + 5 * 3)) (pk_nwS0 (by omega)) (by rw [pk_nwl, hL3]) (by omega) (pk_nwS (pk_ShL c3.1 h1)) (fun j hj => pk_gNI (by omega) (((c3.2.2.1 1 (by omega)).I j).trans (hft j hj)))) rfl rfl rfl rfl rfl rfl rfl (fun v V3 hv => ?_)
  obtain ⟨rfl, hg3, hs3⟩ := hv
  have hst3 : pk_S V3 (b + 2 + 5 * 3) = some (.inr 4) := pk_ShL hg3.1 (pk_nwS0 (by omega))
  have hsa3 : pk_S V3 (b + 1) = some (.inl (.object RX4, 6)) := pk_ShL hg3.1 (pk_nwS ha3)
  refine pk_aasN (ci := 4) dX2_init_38 (Or.inl ⟨rfl, rfl⟩) hsa3 (by omega) (by omega) (by omega) (by decide) rfl hst3 ?_
  first | refine pk_inc1 dX2_init_39 rfl rfl ?_ | refine pk_iinc dX2_init_39 rfl rfl rfl ?_
  refine pk_goto (tgt := 20) dX2_init_42 (by decide) ?_
  have c4 := c3.step hg3 hs3
  obtain ⟨N4, eN⟩ : ∃ X, X = pk_sP V3 (b + 1) 3 (some (b + 2 + 5 * 3)) := ⟨_, rfl⟩
  rw [← eN] at c4
  refine pk_Mq eN.symm ?_
  clear eN
  refine pk_lsq (ls' := [some (.ref b), some (.int (nI 4))]) rfl ?_
  have hL4 := c4.2.1
  have hb4 : pk_S N4 b = some (.inr 2) := pk_ShL c4.1 hb
  have ha4 : pk_S N4 (b + 1) = some (.inl (.object RX4, 6)) := pk_ShR c4.1 (i := 0) hlen rfl rfl
  refine pk_iload_n dX2_init_20 rfl ?_
  refine pk_bipush (v := nI 6) dX2_init_21 (by decide) ?_
  refine pk_geN (a := 4) (b := 6) (tgt := 45) dX2_init_23 (by decide) (by decide) (by decide) (fun c_23 => ?_) (fun c_23 => ?_)
  · omega
  refine pk_aload_n dX2_init_26 rfl ?_
  refine pk_getP dX2_init_27 fl_X2_11 rfl hb4 c4.2.2.2.1 ?_
  refine pk_iload_n dX2_init_30 rfl ?_
  refine pk_new (ci := 4) dX2_init_31 (by decide) cl_X2_9 in_X4 it_X4 rfl rfl ?_
  rw [hL4]
  refine pk_dup dX2_init_34 rfl ?_
  refine pk_callI dX2_init_35 ml_X2_21 yw_X4_init yi_X4_init rfl (e_X4_init (M := pk_nw N4 (.inr 4)) (b := (b + 2 + 5 * 4)) (pk_nwS0 (by omega)) (by rw [pk_nwl, hL4]) (by omega) (pk_nwS (pk_ShL c4.1 h1)) (fun j hj => pk_gNI (by omega) (((c4.2.2.1 1 (by omega)).I j).trans (hft j hj)))) rfl rfl rfl rfl rfl rfl rfl (fun v V4 hv => ?_)
  obtain ⟨rfl, hg4, hs4⟩ := hv
  have hst4 : pk_S V4 (b + 2 + 5 * 4) = some (.inr 4) := pk_ShL hg4.1 (pk_nwS0 (by omega))
  have hsa4 : pk_S V4 (b + 1) = some (.inl (.object RX4, 6)) := pk_ShL hg4.1 (pk_nwS ha4)
  refine pk_aasN (ci := 4) dX2_init_38 (Or.inl ⟨rfl, rfl⟩) hsa4 (by omega) (by omega) (by omega) (by decide) rfl hst4 ?_
  first | refine pk_inc1 dX2_init_39 rfl rfl ?_ | refine pk_iinc dX2_init_39 rfl rfl rfl ?_
  refine pk_goto (tgt := 20) dX2_init_42 (by decide) ?_
  have c5 := c4.step hg4 hs4
  obtain ⟨N5, eN⟩ : ∃ X, X = pk_sP V4 (b + 1) 4 (some (b + 2 + 5 * 4)) := ⟨_, rfl⟩
  rw [← eN] at c5
  refine pk_Mq eN.symm ?_
  clear eN
  refine pk_lsq (ls' := [some (.ref b), some (.int (nI 5))]) rfl ?_
  have hL5 := c5.2.1
  have hb5 : pk_S N5 b = some (.inr 2) := pk_ShL c5.1 hb
  have ha5 : pk_S N5 (b + 1) = some (.inl (.object RX4, 6)) := pk_ShR c5.1 (i := 0) hlen rfl rfl
  refine pk_iload_n dX2_init_20 rfl ?_
  refine pk_bipush (v := nI 6) dX2_init_21 (by decide) ?_
  refine pk_geN (a := 5) (b := 6) (tgt := 45) dX2_init_23 (by decide) (by decide) (by decide) (fun c_23 => ?_) (fun c_23 => ?_)
  · omega
  refine pk_aload_n dX2_init_26 rfl ?_
  refine pk_getP dX2_init_27 fl_X2_11 rfl hb5 c5.2.2.2.1 ?_
  refine pk_iload_n dX2_init_30 rfl ?_
  refine pk_new (ci := 4) dX2_init_31 (by decide) cl_X2_9 in_X4 it_X4 rfl rfl ?_
  rw [hL5]
  refine pk_dup dX2_init_34 rfl ?_
  refine pk_callI dX2_init_35 ml_X2_21 yw_X4_init yi_X4_init rfl (e_X4_init (M := pk_nw N5 (.inr 4)) (b := (b + 2 + 5 * 5)) (pk_nwS0 (by omega)) (by rw [pk_nwl, hL5]) (by omega) (pk_nwS (pk_ShL c5.1 h1)) (fun j hj => pk_gNI (by omega) (((c5.2.2.1 1 (by omega)).I j).trans (hft j hj)))) rfl rfl rfl rfl rfl rfl rfl (fun v V5 hv => ?_)
  obtain ⟨rfl, hg5, hs5⟩ := hv
  have hst5 : pk_S V5 (b + 2 + 5 * 5) = some (.inr 4) := pk_ShL hg5.1 (pk_nwS0 (by omega))
  have hsa5 : pk_S V5 (b + 1) = some (.inl (.object RX4, 6)) := pk_ShL hg5.1 (pk_nwS ha5)
  refine pk_aasN (ci := 4) dX2_init_38 (Or.inl ⟨rfl, rfl⟩) hsa5 (by omega) (by omega) (by omega) (by decide) rfl hst5 ?_
  first | refine pk_inc1 dX2_init_39 rfl rfl ?_ | refine pk_iinc dX2_init_39 rfl rfl rfl ?_
  refine pk_goto (tgt := 20) dX2_init_42 (by decide) ?_
  have c6 := c5.step hg5 hs5
  obtain ⟨N6, eN⟩ : ∃ X, X = pk_sP V5 (b + 1) 5 (some (b + 2 + 5 * 5)) := ⟨_, rfl⟩
  rw [← eN] at c6
  refine pk_Mq eN.symm ?_
  clear eN
  refine pk_lsq (ls' := [some (.ref b), some (.int (nI 6))]) rfl ?_
  refine pk_iload_n dX2_init_20 rfl ?_
  refine pk_bipush (v := nI 6) dX2_init_21 (by decide) ?_
  refine pk_geN (a := 6) (b := 6) (tgt := 45) dX2_init_23 (by decide) (by decide) (by decide) (fun c_23 => ?_) (fun c_23 => ?_)
  · refine pk_retv dX2_init_45 ?_
    exact ⟨rfl, ⟨c6.1, c6.2.2.1⟩, c6.2.2.2.1, c6.2.2.2.2.1, c6.2.2.2.2.2⟩
  · omega
