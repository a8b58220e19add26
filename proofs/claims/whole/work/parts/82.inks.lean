/-! The constructor of PartedInks. -/
def c_step (N N3 : pk_M) (B k : Nat) (ext : List pk_Sh) : Prop := N3.1 = N.1 ++ ext ∧ (∀ q, q < B → q ≠ 5 → pk_sm q N N3) ∧ pk_P N3 5 k = some B ∧ (∀ j, j ≠ k → pk_P N3 5 j = pk_P N 5 j) ∧ ∀ j, pk_I N3 5 j = pk_I N 5 j
theorem c_step.obj {N N2 : pk_M} {ci B k : Nat} {ext : List pk_Sh} (hl : N.1.length = B) (hB : 5 < B) (hg : pk_gr B (pk_nw N (.inr ci)) N2 ext) : c_step N (pk_sP N2 5 k (some B)) B k (.inr ci :: ext) := by
  have hf : ∀ q, q < B → pk_sm q N N2 := fun q hq => (pk_sm.nw (by omega)).tr (hg.2 q hq)
  refine ⟨?_, fun q q1 q2 => (hf q q1).tr (pk_sm.sP q2), pk_gP1 rfl rfl rfl, fun j hj => pk_gP0 (Or.inr hj) ((hf 5 hB).P j), fun j => (hf 5 hB).I j⟩
  show N2.1 = _
  rw [hg.1]
  show (N.1 ++ [_]) ++ _ = _
  simp
theorem c_step.arr {N : pk_M} {z : pk_Sh} {B k : Nat} (hl : N.1.length = B) (hB : 5 < B) : c_step N (pk_sP (pk_nw N z) 5 k (some B)) B k [z] := by
  have hf : ∀ q, q < B → pk_sm q N (pk_nw N z) := fun q hq => pk_sm.nw (by omega)
  exact ⟨rfl, fun q q1 q2 => (hf q q1).tr (pk_sm.sP q2), pk_gP1 rfl rfl rfl, fun j hj => pk_gP0 (Or.inr hj) ((hf 5 hB).P j), fun j => (hf 5 hB).I j⟩
def c_stepR (N N3 : pk_M) (B k : Nat) (ext : List pk_Sh) : Prop := N3.1 = N.1 ++ ext ∧ (∀ q, q < B → q ≠ 91 → pk_sm q N N3) ∧ pk_P N3 91 k = some B ∧ ∀ j, j ≠ k → pk_P N3 91 j = pk_P N 91 j
theorem c_stepR.obj {N N2 : pk_M} {ci B k : Nat} {ext : List pk_Sh} (hl : N.1.length = B) (hB : 91 < B) (hg : pk_gr B (pk_nw N (.inr ci)) N2 ext) : c_stepR N (pk_sP N2 91 k (some B)) B k (.inr ci :: ext) := by
  have hf : ∀ q, q < B → pk_sm q N N2 := fun q hq => (pk_sm.nw (by omega)).tr (hg.2 q hq)
  refine ⟨?_, fun q q1 q2 => (hf q q1).tr (pk_sm.sP q2), pk_gP1 rfl rfl rfl, fun j hj => pk_gP0 (Or.inr hj) ((hf 91 hB).P j)⟩
  show N2.1 = _
  rw [hg.1]
  show (N.1 ++ [_]) ++ _ = _
  simp
def c_In (M : pk_M) : Prop := (c_St M 6 ∧ c_Pa M 11 ∧ c_St M 43 ∧ c_Pa M 48 ∧ c_Lo M 80 ∧ c_Ar M 82 ∧ c_Ta M 88) ∧ pk_I M 5 4 = nI 0 ∧ (∀ k, k < 4 → pk_P M 91 k = some (95 + 2 * k) ∧ c_Ro M (95 + 2 * k)) ∧ (pk_P M 5 0 = some 6 ∧ pk_P M 5 1 = some 11 ∧ pk_P M 5 2 = some 43 ∧ pk_P M 5 3 = some 48 ∧ pk_P M 5 5 = some 80 ∧ pk_P M 5 6 = some 82 ∧ pk_P M 5 7 = some 88) ∧ pk_P M 5 8 = some 91 ∧ pk_P M 5 9 = some 92 ∧ pk_P M 5 10 = some 93 ∧ pk_P M 5 11 = some 94

def sp_E6 : List pk_Sh := ((((((((((((((([] ++ (.inr 4 :: [.inl (.int, 5), .inl (.int, 5), .inl (.int, 5), .inl (.int, 48)])) ++ (.inr 2 :: (.inl (.object RX4, 6) :: sp_rep 6))) ++ (.inr 4 :: [.inl (.int, 5), .inl (.int, 5), .inl (.int, 5), .inl (.int, 48)])) ++ (.inr 2 :: (.inl (.object RX4, 6) :: sp_rep 6))) ++ (.inr 1 :: [.inl (.int, 32)])) ++ (.inr 0 :: [.inl (.int, 48), .inl (.int, 48), .inl (.int, 48), .inl (.int, 48), .inl (.boolean, 48)])) ++ (.inr 5 :: [.inl (.int, 100), .inl (.int, 48)])) ++ [.inl (.object RX3, 4)]) ++ [.inl (.int, 48)]) ++ [.inl (.int, 5)]) ++ [.inl (.int, 5)]) ++ (.inr 3 :: [.inl (.long, 24)])) ++ (.inr 3 :: [.inl (.long, 24)])) ++ (.inr 3 :: [.inl (.long, 24)])) ++ (.inr 3 :: [.inl (.long, 24)]))

set_option maxRecDepth 100000 in
set_option maxHeartbeats 4000000 in
theorem e_X6_init {Γ : pk_T} {M : pk_M} (hb : pk_S M 5 = some (.inr 6)) (hlen : M.1.length = 6) (h1 : pk_S M 1 = some (.inl (.int, 5))) (hft : ∀ k, k < 5 → pk_I M 1 k = nI (sp_ft k)) : pk_E Γ yX6_init cX6_init 2 none 3 97 1605 M [.ref 5] (fun r M' => r = none ∧ pk_gr 5 M M' sp_E6 ∧ c_In M') := by
  refine pk_meth (own := RX6) (ini := true) [some (.ref 5), none] (by decide +kernel) rfl (by decide +kernel) rfl rfl ?_
  have hS0 : M.1 = M.1 ++ [] := (List.append_nil _).symm
  have fr0 : ∀ q, q < 5 → pk_sm q M M := fun q _ => pk_sm.rf q M
  refine pk_aload_n dX6_init_0 rfl ?_
  refine pk_objInit dX6_init_1 mo_X6_1 oi_inst oi_code rfl rfl rfl ?_
  refine pk_aload_n dX6_init_4 rfl ?_
  refine pk_new (ci := 4) dX6_init_5 (by decide) cl_X6_7 in_X4 it_X4 rfl rfl ?_
  rw [hlen]
  refine pk_dup dX6_init_8 rfl ?_
  refine pk_callI dX6_init_9 ml_X6_9 yw_X4_init yi_X4_init rfl (e_X4_init (M := pk_nw M (.inr 4)) (b := 6) (pk_nwS0 (by omega)) (by rw [pk_nwl, hlen]) (by decide) (pk_nwS h1) (fun j hj => pk_gNI (by omega) (hft j hj))) rfl rfl rfl rfl rfl rfl rfl (fun v V0 hv => ?_)
  obtain ⟨rfl, hg, hp⟩ := hv
  refine pk_putF dX6_init_12 (by decide) (by decide) fw_X6_10 rfl rfl rfl rfl (show pk_S V0 5 = some (.inr 6) from pk_ShL hg.1 (pk_nwS hb)) ?_
  obtain ⟨N1, eN⟩ : ∃ X, X = pk_sP V0 5 0 (some 6) := ⟨_, rfl⟩
  refine pk_Mq eN.symm ?_
  have st1 : c_step M N1 6 0 (.inr 4 :: [.inl (.int, 5), .inl (.int, 5), .inl (.int, 5), .inl (.int, 48)]) := by rw [eN]; exact c_step.obj hlen (by decide) hg
  have fs6_1 : c_St N1 6 := by rw [eN]; exact hp.sm (fun q q1 q2 => pk_sm.sP (by omega))
  clear eN
  have p0_1 := st1.2.2.1
  have hS1 : N1.1 = M.1 ++ ([] ++ (.inr 4 :: [.inl (.int, 5), .inl (.int, 5), .inl (.int, 5), .inl (.int, 48)])) := st1.1
  have hl1 : N1.1.length = 6 + ((.inr 4 :: [.inl (.int, 5), .inl (.int, 5), .inl (.int, 5), .inl (.int, 48)]) : List pk_Sh).length := by rw [st1.1, List.length_append, hlen]
  change N1.1.length = 11 at hl1
  have fr1 : ∀ q, q < 5 → pk_sm q M N1 := fun q hq => (fr0 q hq).tr (st1.2.1 q (by omega) (by omega))
  have hb1 : pk_S N1 5 = some (.inr 6) := pk_ShL hS1 hb
  have i4_1 : pk_I N1 5 4 = pk_I M 5 4 := st1.2.2.2.2 4
  clear hg hp
  refine pk_aload_n dX6_init_15 rfl ?_
  refine pk_new (ci := 2) dX6_init_16 (by decide) cl_X6_16 in_X2 it_X2 rfl rfl ?_
  rw [hl1]
  refine pk_dup dX6_init_19 rfl ?_
  refine pk_callI dX6_init_20 ml_X6_18 yw_X2_init yi_X2_init rfl (e_X2_init (M := pk_nw N1 (.inr 2)) (b := 11) (pk_nwS0 (by omega)) (by rw [pk_nwl, hl1]) (by decide) (pk_nwS (pk_ShL hS1 h1)) (fun j hj => pk_gNI (by omega) ((fun j hj => ((fr1 1 (by decide)).I j).trans (hft j hj)) j hj))) rfl rfl rfl rfl rfl rfl rfl (fun v V1 hv => ?_)
  obtain ⟨rfl, hg, hp⟩ := hv
  refine pk_putF dX6_init_23 (by decide) (by decide) fw_X6_19 rfl rfl rfl rfl (show pk_S V1 5 = some (.inr 6) from pk_ShL hg.1 (pk_nwS hb1)) ?_
  obtain ⟨N2, eN⟩ : ∃ X, X = pk_sP V1 5 1 (some 11) := ⟨_, rfl⟩
  refine pk_Mq eN.symm ?_
  have st2 : c_step N1 N2 11 1 (.inr 2 :: (.inl (.object RX4, 6) :: sp_rep 6)) := by rw [eN]; exact c_step.obj hl1 (by decide) hg
  have fp11_2 : c_Pa N2 11 := by rw [eN]; exact hp.sm (fun q q1 q2 => pk_sm.sP (by omega))
  clear eN
  have fs6_2 := fs6_1.sm (fun q q1 q2 => st2.2.1 q (by omega) (by omega))
  have p0_2 := (st2.2.2.2.1 0 (by decide)).trans p0_1
  have p1_2 := st2.2.2.1
  have hS2 : N2.1 = M.1 ++ (([] ++ (.inr 4 :: [.inl (.int, 5), .inl (.int, 5), .inl (.int, 5), .inl (.int, 48)])) ++ (.inr 2 :: (.inl (.object RX4, 6) :: sp_rep 6))) := by rw [st2.1, hS1, List.append_assoc]
  have hl2 : N2.1.length = 11 + ((.inr 2 :: (.inl (.object RX4, 6) :: sp_rep 6)) : List pk_Sh).length := by rw [st2.1, List.length_append, hl1]
  change N2.1.length = 43 at hl2
  have fr2 : ∀ q, q < 5 → pk_sm q M N2 := fun q hq => (fr1 q hq).tr (st2.2.1 q (by omega) (by omega))
  have hb2 : pk_S N2 5 = some (.inr 6) := pk_ShL hS2 hb
  have i4_2 : pk_I N2 5 4 = pk_I N1 5 4 := st2.2.2.2.2 4
  clear hg hp
  refine pk_aload_n dX6_init_26 rfl ?_
  refine pk_new (ci := 4) dX6_init_27 (by decide) cl_X6_7 in_X4 it_X4 rfl rfl ?_
  rw [hl2]
  refine pk_dup dX6_init_30 rfl ?_
  refine pk_callI dX6_init_31 ml_X6_9 yw_X4_init yi_X4_init rfl (e_X4_init (M := pk_nw N2 (.inr 4)) (b := 43) (pk_nwS0 (by omega)) (by rw [pk_nwl, hl2]) (by decide) (pk_nwS (pk_ShL hS2 h1)) (fun j hj => pk_gNI (by omega) ((fun j hj => ((fr2 1 (by decide)).I j).trans (hft j hj)) j hj))) rfl rfl rfl rfl rfl rfl rfl (fun v V2 hv => ?_)
  obtain ⟨rfl, hg, hp⟩ := hv
  refine pk_putF dX6_init_34 (by decide) (by decide) fw_X6_23 rfl rfl rfl rfl (show pk_S V2 5 = some (.inr 6) from pk_ShL hg.1 (pk_nwS hb2)) ?_
  obtain ⟨N3, eN⟩ : ∃ X, X = pk_sP V2 5 2 (some 43) := ⟨_, rfl⟩
  refine pk_Mq eN.symm ?_
  have st3 : c_step N2 N3 43 2 (.inr 4 :: [.inl (.int, 5), .inl (.int, 5), .inl (.int, 5), .inl (.int, 48)]) := by rw [eN]; exact c_step.obj hl2 (by decide) hg
  have fs43_3 : c_St N3 43 := by rw [eN]; exact hp.sm (fun q q1 q2 => pk_sm.sP (by omega))
  clear eN
  have fs6_3 := fs6_2.sm (fun q q1 q2 => st3.2.1 q (by omega) (by omega))
  have fp11_3 := fp11_2.sm (fun q q1 q2 => st3.2.1 q (by omega) (by omega))
  have p0_3 := (st3.2.2.2.1 0 (by decide)).trans p0_2
  have p1_3 := (st3.2.2.2.1 1 (by decide)).trans p1_2
  have p2_3 := st3.2.2.1
  have hS3 : N3.1 = M.1 ++ ((([] ++ (.inr 4 :: [.inl (.int, 5), .inl (.int, 5), .inl (.int, 5), .inl (.int, 48)])) ++ (.inr 2 :: (.inl (.object RX4, 6) :: sp_rep 6))) ++ (.inr 4 :: [.inl (.int, 5), .inl (.int, 5), .inl (.int, 5), .inl (.int, 48)])) := by rw [st3.1, hS2, List.append_assoc]
  have hl3 : N3.1.length = 43 + ((.inr 4 :: [.inl (.int, 5), .inl (.int, 5), .inl (.int, 5), .inl (.int, 48)]) : List pk_Sh).length := by rw [st3.1, List.length_append, hl2]
  change N3.1.length = 48 at hl3
  have fr3 : ∀ q, q < 5 → pk_sm q M N3 := fun q hq => (fr2 q hq).tr (st3.2.1 q (by omega) (by omega))
  have hb3 : pk_S N3 5 = some (.inr 6) := pk_ShL hS3 hb
  have i4_3 : pk_I N3 5 4 = pk_I N2 5 4 := st3.2.2.2.2 4
  clear hg hp
  refine pk_aload_n dX6_init_37 rfl ?_
  refine pk_new (ci := 2) dX6_init_38 (by decide) cl_X6_16 in_X2 it_X2 rfl rfl ?_
  rw [hl3]
  refine pk_dup dX6_init_41 rfl ?_
  refine pk_callI dX6_init_42 ml_X6_18 yw_X2_init yi_X2_init rfl (e_X2_init (M := pk_nw N3 (.inr 2)) (b := 48) (pk_nwS0 (by omega)) (by rw [pk_nwl, hl3]) (by decide) (pk_nwS (pk_ShL hS3 h1)) (fun j hj => pk_gNI (by omega) ((fun j hj => ((fr3 1 (by decide)).I j).trans (hft j hj)) j hj))) rfl rfl rfl rfl rfl rfl rfl (fun v V3 hv => ?_)
  obtain ⟨rfl, hg, hp⟩ := hv
  refine pk_putF dX6_init_45 (by decide) (by decide) fw_X6_26 rfl rfl rfl rfl (show pk_S V3 5 = some (.inr 6) from pk_ShL hg.1 (pk_nwS hb3)) ?_
  obtain ⟨N4, eN⟩ : ∃ X, X = pk_sP V3 5 3 (some 48) := ⟨_, rfl⟩
  refine pk_Mq eN.symm ?_
  have st4 : c_step N3 N4 48 3 (.inr 2 :: (.inl (.object RX4, 6) :: sp_rep 6)) := by rw [eN]; exact c_step.obj hl3 (by decide) hg
  have fp48_4 : c_Pa N4 48 := by rw [eN]; exact hp.sm (fun q q1 q2 => pk_sm.sP (by omega))
  clear eN
  have fs6_4 := fs6_3.sm (fun q q1 q2 => st4.2.1 q (by omega) (by omega))
  have fp11_4 := fp11_3.sm (fun q q1 q2 => st4.2.1 q (by omega) (by omega))
  have fs43_4 := fs43_3.sm (fun q q1 q2 => st4.2.1 q (by omega) (by omega))
  have p0_4 := (st4.2.2.2.1 0 (by decide)).trans p0_3
  have p1_4 := (st4.2.2.2.1 1 (by decide)).trans p1_3
  have p2_4 := (st4.2.2.2.1 2 (by decide)).trans p2_3
  have p3_4 := st4.2.2.1
  have hS4 : N4.1 = M.1 ++ (((([] ++ (.inr 4 :: [.inl (.int, 5), .inl (.int, 5), .inl (.int, 5), .inl (.int, 48)])) ++ (.inr 2 :: (.inl (.object RX4, 6) :: sp_rep 6))) ++ (.inr 4 :: [.inl (.int, 5), .inl (.int, 5), .inl (.int, 5), .inl (.int, 48)])) ++ (.inr 2 :: (.inl (.object RX4, 6) :: sp_rep 6))) := by rw [st4.1, hS3, List.append_assoc]
  have hl4 : N4.1.length = 48 + ((.inr 2 :: (.inl (.object RX4, 6) :: sp_rep 6)) : List pk_Sh).length := by rw [st4.1, List.length_append, hl3]
  change N4.1.length = 80 at hl4
  have fr4 : ∀ q, q < 5 → pk_sm q M N4 := fun q hq => (fr3 q hq).tr (st4.2.1 q (by omega) (by omega))
  have hb4 : pk_S N4 5 = some (.inr 6) := pk_ShL hS4 hb
  have i4_4 : pk_I N4 5 4 = pk_I N3 5 4 := st4.2.2.2.2 4
  clear hg hp
  refine pk_aload_n dX6_init_48 rfl ?_
  refine pk_iconst (v := nI 0) dX6_init_49 (by decide) ?_
  refine pk_putI dX6_init_50 fl_X6_29 rfl rfl rfl rfl hb4 ?_
  obtain ⟨N5, eN⟩ : ∃ X, X = pk_sI N4 5 4 (nI 0) := ⟨_, rfl⟩
  refine pk_Mq eN.symm ?_
  have sm5 : ∀ q, q ≠ 5 → pk_sm q N4 N5 := fun q hq => by rw [eN]; exact pk_sm.sI hq
  have i4_5 : pk_I N5 5 4 = nI 0 := by rw [eN]; exact pk_gS1 rfl rfl rfl
  have p0_5 : pk_P N5 5 0 = some 6 := by rw [eN]; exact p0_4
  have p1_5 : pk_P N5 5 1 = some 11 := by rw [eN]; exact p1_4
  have p2_5 : pk_P N5 5 2 = some 43 := by rw [eN]; exact p2_4
  have p3_5 : pk_P N5 5 3 = some 48 := by rw [eN]; exact p3_4
  have fs6_5 := fs6_4.sm (fun q q1 q2 => sm5 q (by omega))
  have fp11_5 := fp11_4.sm (fun q q1 q2 => sm5 q (by omega))
  have fs43_5 := fs43_4.sm (fun q q1 q2 => sm5 q (by omega))
  have fp48_5 := fp48_4.sm (fun q q1 q2 => sm5 q (by omega))
  have hS5 : N5.1 = M.1 ++ (((([] ++ (.inr 4 :: [.inl (.int, 5), .inl (.int, 5), .inl (.int, 5), .inl (.int, 48)])) ++ (.inr 2 :: (.inl (.object RX4, 6) :: sp_rep 6))) ++ (.inr 4 :: [.inl (.int, 5), .inl (.int, 5), .inl (.int, 5), .inl (.int, 48)])) ++ (.inr 2 :: (.inl (.object RX4, 6) :: sp_rep 6))) := by rw [eN]; exact hS4
  have hl5 : N5.1.length = 80 := by rw [eN]; exact hl4
  have fr5 : ∀ q, q < 5 → pk_sm q M N5 := fun q hq => (fr4 q hq).tr (sm5 q (by omega))
  have hb5 : pk_S N5 5 = some (.inr 6) := pk_ShL hS5 hb
  clear eN
  refine pk_aload_n dX6_init_53 rfl ?_
  refine pk_new (ci := 1) dX6_init_54 (by decide) cl_X6_33 in_X1 it_X1 rfl rfl ?_
  rw [hl5]
  refine pk_dup dX6_init_57 rfl ?_
  refine pk_callI dX6_init_58 ml_X6_35 yw_X1_init yi_X1_init rfl (e_X1_init (M := pk_nw N5 (.inr 1)) (b := 80) (pk_nwS0 (by omega)) (by rw [pk_nwl, hl5]) (by decide)) rfl rfl rfl rfl rfl rfl rfl (fun v V5 hv => ?_)
  obtain ⟨rfl, hg, hp⟩ := hv
  refine pk_putF dX6_init_61 (by decide) (by decide) fw_X6_36 rfl rfl rfl rfl (show pk_S V5 5 = some (.inr 6) from pk_ShL hg.1 (pk_nwS hb5)) ?_
  obtain ⟨N6, eN⟩ : ∃ X, X = pk_sP V5 5 5 (some 80) := ⟨_, rfl⟩
  refine pk_Mq eN.symm ?_
  have st6 : c_step N5 N6 80 5 (.inr 1 :: [.inl (.int, 32)]) := by rw [eN]; exact c_step.obj hl5 (by decide) hg
  have fl80_6 : c_Lo N6 80 := by rw [eN]; exact hp.sm (pk_sm.sP (by decide))
  clear eN
  have fs6_6 := fs6_5.sm (fun q q1 q2 => st6.2.1 q (by omega) (by omega))
  have fp11_6 := fp11_5.sm (fun q q1 q2 => st6.2.1 q (by omega) (by omega))
  have fs43_6 := fs43_5.sm (fun q q1 q2 => st6.2.1 q (by omega) (by omega))
  have fp48_6 := fp48_5.sm (fun q q1 q2 => st6.2.1 q (by omega) (by omega))
  have p0_6 := (st6.2.2.2.1 0 (by decide)).trans p0_5
  have p1_6 := (st6.2.2.2.1 1 (by decide)).trans p1_5
  have p2_6 := (st6.2.2.2.1 2 (by decide)).trans p2_5
  have p3_6 := (st6.2.2.2.1 3 (by decide)).trans p3_5
  have p5_6 := st6.2.2.1
  have hS6 : N6.1 = M.1 ++ ((((([] ++ (.inr 4 :: [.inl (.int, 5), .inl (.int, 5), .inl (.int, 5), .inl (.int, 48)])) ++ (.inr 2 :: (.inl (.object RX4, 6) :: sp_rep 6))) ++ (.inr 4 :: [.inl (.int, 5), .inl (.int, 5), .inl (.int, 5), .inl (.int, 48)])) ++ (.inr 2 :: (.inl (.object RX4, 6) :: sp_rep 6))) ++ (.inr 1 :: [.inl (.int, 32)])) := by rw [st6.1, hS5, List.append_assoc]
  have hl6 : N6.1.length = 80 + ((.inr 1 :: [.inl (.int, 32)]) : List pk_Sh).length := by rw [st6.1, List.length_append, hl5]
  change N6.1.length = 82 at hl6
  have fr6 : ∀ q, q < 5 → pk_sm q M N6 := fun q hq => (fr5 q hq).tr (st6.2.1 q (by omega) (by omega))
  have hb6 : pk_S N6 5 = some (.inr 6) := pk_ShL hS6 hb
  have i4_6 : pk_I N6 5 4 = pk_I N5 5 4 := st6.2.2.2.2 4
  clear hg hp
  refine pk_aload_n dX6_init_64 rfl ?_
  refine pk_new (ci := 0) dX6_init_65 (by decide) cl_X6_40 in_X0 it_X0 rfl rfl ?_
  rw [hl6]
  refine pk_dup dX6_init_68 rfl ?_
  refine pk_callI dX6_init_69 ml_X6_42 yw_X0_init yi_X0_init rfl (e_X0_init (M := pk_nw N6 (.inr 0)) (b := 82) (pk_nwS0 (by omega)) (by rw [pk_nwl, hl6]) (by decide)) rfl rfl rfl rfl rfl rfl rfl (fun v V6 hv => ?_)
  obtain ⟨rfl, hg, hp⟩ := hv
  refine pk_putF dX6_init_72 (by decide) (by decide) fw_X6_43 rfl rfl rfl rfl (show pk_S V6 5 = some (.inr 6) from pk_ShL hg.1 (pk_nwS hb6)) ?_
  obtain ⟨N7, eN⟩ : ∃ X, X = pk_sP V6 5 6 (some 82) := ⟨_, rfl⟩
  refine pk_Mq eN.symm ?_
  have st7 : c_step N6 N7 82 6 (.inr 0 :: [.inl (.int, 48), .inl (.int, 48), .inl (.int, 48), .inl (.int, 48), .inl (.boolean, 48)]) := by rw [eN]; exact c_step.obj hl6 (by decide) hg
  have fa82_7 : c_Ar N7 82 := by rw [eN]; exact hp.sm (pk_sm.sP (by decide))
  clear eN
  have fs6_7 := fs6_6.sm (fun q q1 q2 => st7.2.1 q (by omega) (by omega))
  have fp11_7 := fp11_6.sm (fun q q1 q2 => st7.2.1 q (by omega) (by omega))
  have fs43_7 := fs43_6.sm (fun q q1 q2 => st7.2.1 q (by omega) (by omega))
  have fp48_7 := fp48_6.sm (fun q q1 q2 => st7.2.1 q (by omega) (by omega))
  have fl80_7 := fl80_6.sm (st7.2.1 _ (by omega) (by omega))
  have p0_7 := (st7.2.2.2.1 0 (by decide)).trans p0_6
  have p1_7 := (st7.2.2.2.1 1 (by decide)).trans p1_6
  have p2_7 := (st7.2.2.2.1 2 (by decide)).trans p2_6
  have p3_7 := (st7.2.2.2.1 3 (by decide)).trans p3_6
  have p5_7 := (st7.2.2.2.1 5 (by decide)).trans p5_6
  have p6_7 := st7.2.2.1
  have hS7 : N7.1 = M.1 ++ (((((([] ++ (.inr 4 :: [.inl (.int, 5), .inl (.int, 5), .inl (.int, 5), .inl (.int, 48)])) ++ (.inr 2 :: (.inl (.object RX4, 6) :: sp_rep 6))) ++ (.inr 4 :: [.inl (.int, 5), .inl (.int, 5), .inl (.int, 5), .inl (.int, 48)])) ++ (.inr 2 :: (.inl (.object RX4, 6) :: sp_rep 6))) ++ (.inr 1 :: [.inl (.int, 32)])) ++ (.inr 0 :: [.inl (.int, 48), .inl (.int, 48), .inl (.int, 48), .inl (.int, 48), .inl (.boolean, 48)])) := by rw [st7.1, hS6, List.append_assoc]
  have hl7 : N7.1.length = 82 + ((.inr 0 :: [.inl (.int, 48), .inl (.int, 48), .inl (.int, 48), .inl (.int, 48), .inl (.boolean, 48)]) : List pk_Sh).length := by rw [st7.1, List.length_append, hl6]
  change N7.1.length = 88 at hl7
  have fr7 : ∀ q, q < 5 → pk_sm q M N7 := fun q hq => (fr6 q hq).tr (st7.2.1 q (by omega) (by omega))
  have hb7 : pk_S N7 5 = some (.inr 6) := pk_ShL hS7 hb
  have i4_7 : pk_I N7 5 4 = pk_I N6 5 4 := st7.2.2.2.2 4
  clear hg hp
  refine pk_aload_n dX6_init_75 rfl ?_
  refine pk_new (ci := 5) dX6_init_76 (by decide) cl_X6_47 in_X5 it_X5 rfl rfl ?_
  rw [hl7]
  refine pk_dup dX6_init_79 rfl ?_
  refine pk_callI dX6_init_80 ml_X6_49 yw_X5_init yi_X5_init rfl (e_X5_init (M := pk_nw N7 (.inr 5)) (b := 88) (pk_nwS0 (by omega)) (by rw [pk_nwl, hl7]) (by decide)) rfl rfl rfl rfl rfl rfl rfl (fun v V7 hv => ?_)
  obtain ⟨rfl, hg, hp⟩ := hv
  refine pk_putF dX6_init_83 (by decide) (by decide) fw_X6_50 rfl rfl rfl rfl (show pk_S V7 5 = some (.inr 6) from pk_ShL hg.1 (pk_nwS hb7)) ?_
  obtain ⟨N8, eN⟩ : ∃ X, X = pk_sP V7 5 7 (some 88) := ⟨_, rfl⟩
  refine pk_Mq eN.symm ?_
  have st8 : c_step N7 N8 88 7 (.inr 5 :: [.inl (.int, 100), .inl (.int, 48)]) := by rw [eN]; exact c_step.obj hl7 (by decide) hg
  have ft88_8 : c_Ta N8 88 := by rw [eN]; exact hp.sm (pk_sm.sP (by decide))
  clear eN
  have fs6_8 := fs6_7.sm (fun q q1 q2 => st8.2.1 q (by omega) (by omega))
  have fp11_8 := fp11_7.sm (fun q q1 q2 => st8.2.1 q (by omega) (by omega))
  have fs43_8 := fs43_7.sm (fun q q1 q2 => st8.2.1 q (by omega) (by omega))
  have fp48_8 := fp48_7.sm (fun q q1 q2 => st8.2.1 q (by omega) (by omega))
  have fl80_8 := fl80_7.sm (st8.2.1 _ (by omega) (by omega))
  have fa82_8 := fa82_7.sm (st8.2.1 _ (by omega) (by omega))
  have p0_8 := (st8.2.2.2.1 0 (by decide)).trans p0_7
  have p1_8 := (st8.2.2.2.1 1 (by decide)).trans p1_7
  have p2_8 := (st8.2.2.2.1 2 (by decide)).trans p2_7
  have p3_8 := (st8.2.2.2.1 3 (by decide)).trans p3_7
  have p5_8 := (st8.2.2.2.1 5 (by decide)).trans p5_7
  have p6_8 := (st8.2.2.2.1 6 (by decide)).trans p6_7
  have p7_8 := st8.2.2.1
  have hS8 : N8.1 = M.1 ++ ((((((([] ++ (.inr 4 :: [.inl (.int, 5), .inl (.int, 5), .inl (.int, 5), .inl (.int, 48)])) ++ (.inr 2 :: (.inl (.object RX4, 6) :: sp_rep 6))) ++ (.inr 4 :: [.inl (.int, 5), .inl (.int, 5), .inl (.int, 5), .inl (.int, 48)])) ++ (.inr 2 :: (.inl (.object RX4, 6) :: sp_rep 6))) ++ (.inr 1 :: [.inl (.int, 32)])) ++ (.inr 0 :: [.inl (.int, 48), .inl (.int, 48), .inl (.int, 48), .inl (.int, 48), .inl (.boolean, 48)])) ++ (.inr 5 :: [.inl (.int, 100), .inl (.int, 48)])) := by rw [st8.1, hS7, List.append_assoc]
  have hl8 : N8.1.length = 88 + ((.inr 5 :: [.inl (.int, 100), .inl (.int, 48)]) : List pk_Sh).length := by rw [st8.1, List.length_append, hl7]
  change N8.1.length = 91 at hl8
  have fr8 : ∀ q, q < 5 → pk_sm q M N8 := fun q hq => (fr7 q hq).tr (st8.2.1 q (by omega) (by omega))
  have hb8 : pk_S N8 5 = some (.inr 6) := pk_ShL hS8 hb
  have i4_8 : pk_I N8 5 4 = pk_I N7 5 4 := st8.2.2.2.2 4
  clear hg hp
  refine pk_aload_n dX6_init_86 rfl ?_
  refine pk_iconst (v := nI 4) dX6_init_87 (by decide) ?_
  refine pk_newq (N := 4) (t0 := 4) (C0 := RX3) dX6_init_88 (Or.inr ⟨rfl, rfl⟩) cl_X6_54 ao_X3 (by decide) (by decide) (by decide) rfl rfl ?_
  rw [hl8]
  refine pk_putF dX6_init_91 (by decide) (by decide) fw_X6_56 rfl rfl rfl rfl (pk_nwS hb8) ?_
  obtain ⟨N9, eN⟩ : ∃ X, X = pk_sP (pk_nw N8 (.inl (.object RX3, 4))) 5 8 (some 91) := ⟨_, rfl⟩
  refine pk_Mq eN.symm ?_
  have st9 : c_step N8 N9 91 8 [.inl (.object RX3, 4)] := by rw [eN]; exact c_step.arr hl8 (by decide)
  clear eN
  have fs6_9 := fs6_8.sm (fun q q1 q2 => st9.2.1 q (by omega) (by omega))
  have fp11_9 := fp11_8.sm (fun q q1 q2 => st9.2.1 q (by omega) (by omega))
  have fs43_9 := fs43_8.sm (fun q q1 q2 => st9.2.1 q (by omega) (by omega))
  have fp48_9 := fp48_8.sm (fun q q1 q2 => st9.2.1 q (by omega) (by omega))
  have fl80_9 := fl80_8.sm (st9.2.1 _ (by omega) (by omega))
  have fa82_9 := fa82_8.sm (st9.2.1 _ (by omega) (by omega))
  have ft88_9 := ft88_8.sm (st9.2.1 _ (by omega) (by omega))
  have p0_9 := (st9.2.2.2.1 0 (by decide)).trans p0_8
  have p1_9 := (st9.2.2.2.1 1 (by decide)).trans p1_8
  have p2_9 := (st9.2.2.2.1 2 (by decide)).trans p2_8
  have p3_9 := (st9.2.2.2.1 3 (by decide)).trans p3_8
  have p5_9 := (st9.2.2.2.1 5 (by decide)).trans p5_8
  have p6_9 := (st9.2.2.2.1 6 (by decide)).trans p6_8
  have p7_9 := (st9.2.2.2.1 7 (by decide)).trans p7_8
  have p8_9 := st9.2.2.1
  have hS9 : N9.1 = M.1 ++ (((((((([] ++ (.inr 4 :: [.inl (.int, 5), .inl (.int, 5), .inl (.int, 5), .inl (.int, 48)])) ++ (.inr 2 :: (.inl (.object RX4, 6) :: sp_rep 6))) ++ (.inr 4 :: [.inl (.int, 5), .inl (.int, 5), .inl (.int, 5), .inl (.int, 48)])) ++ (.inr 2 :: (.inl (.object RX4, 6) :: sp_rep 6))) ++ (.inr 1 :: [.inl (.int, 32)])) ++ (.inr 0 :: [.inl (.int, 48), .inl (.int, 48), .inl (.int, 48), .inl (.int, 48), .inl (.boolean, 48)])) ++ (.inr 5 :: [.inl (.int, 100), .inl (.int, 48)])) ++ [.inl (.object RX3, 4)]) := by rw [st9.1, hS8, List.append_assoc]
  have hl9 : N9.1.length = 91 + ([.inl (.object RX3, 4)] : List pk_Sh).length := by rw [st9.1, List.length_append, hl8]
  change N9.1.length = 92 at hl9
  have fr9 : ∀ q, q < 5 → pk_sm q M N9 := fun q hq => (fr8 q hq).tr (st9.2.1 q (by omega) (by omega))
  have hb9 : pk_S N9 5 = some (.inr 6) := pk_ShL hS9 hb
  have i4_9 : pk_I N9 5 4 = pk_I N8 5 4 := st9.2.2.2.2 4
  refine pk_aload_n dX6_init_94 rfl ?_
  refine pk_bipush (v := nI 48) dX6_init_95 (by decide) ?_
  refine pk_newa (atype := .int) (ty := .int) (N := 48) (t0 := 0) dX6_init_97 rfl (Or.inl ⟨rfl, rfl⟩) ac_int (by decide) (by decide) (by decide) rfl rfl ?_
  rw [hl9]
  refine pk_putF dX6_init_99 (by decide) (by decide) fw_X6_60 rfl rfl rfl rfl (pk_nwS hb9) ?_
  obtain ⟨N10, eN⟩ : ∃ X, X = pk_sP (pk_nw N9 (.inl (.int, 48))) 5 9 (some 92) := ⟨_, rfl⟩
  refine pk_Mq eN.symm ?_
  have st10 : c_step N9 N10 92 9 [.inl (.int, 48)] := by rw [eN]; exact c_step.arr hl9 (by decide)
  clear eN
  have fs6_10 := fs6_9.sm (fun q q1 q2 => st10.2.1 q (by omega) (by omega))
  have fp11_10 := fp11_9.sm (fun q q1 q2 => st10.2.1 q (by omega) (by omega))
  have fs43_10 := fs43_9.sm (fun q q1 q2 => st10.2.1 q (by omega) (by omega))
  have fp48_10 := fp48_9.sm (fun q q1 q2 => st10.2.1 q (by omega) (by omega))
  have fl80_10 := fl80_9.sm (st10.2.1 _ (by omega) (by omega))
  have fa82_10 := fa82_9.sm (st10.2.1 _ (by omega) (by omega))
  have ft88_10 := ft88_9.sm (st10.2.1 _ (by omega) (by omega))
  have p0_10 := (st10.2.2.2.1 0 (by decide)).trans p0_9
  have p1_10 := (st10.2.2.2.1 1 (by decide)).trans p1_9
  have p2_10 := (st10.2.2.2.1 2 (by decide)).trans p2_9
  have p3_10 := (st10.2.2.2.1 3 (by decide)).trans p3_9
  have p5_10 := (st10.2.2.2.1 5 (by decide)).trans p5_9
  have p6_10 := (st10.2.2.2.1 6 (by decide)).trans p6_9
  have p7_10 := (st10.2.2.2.1 7 (by decide)).trans p7_9
  have p8_10 := (st10.2.2.2.1 8 (by decide)).trans p8_9
  have p9_10 := st10.2.2.1
  have hS10 : N10.1 = M.1 ++ ((((((((([] ++ (.inr 4 :: [.inl (.int, 5), .inl (.int, 5), .inl (.int, 5), .inl (.int, 48)])) ++ (.inr 2 :: (.inl (.object RX4, 6) :: sp_rep 6))) ++ (.inr 4 :: [.inl (.int, 5), .inl (.int, 5), .inl (.int, 5), .inl (.int, 48)])) ++ (.inr 2 :: (.inl (.object RX4, 6) :: sp_rep 6))) ++ (.inr 1 :: [.inl (.int, 32)])) ++ (.inr 0 :: [.inl (.int, 48), .inl (.int, 48), .inl (.int, 48), .inl (.int, 48), .inl (.boolean, 48)])) ++ (.inr 5 :: [.inl (.int, 100), .inl (.int, 48)])) ++ [.inl (.object RX3, 4)]) ++ [.inl (.int, 48)]) := by rw [st10.1, hS9, List.append_assoc]
  have hl10 : N10.1.length = 92 + ([.inl (.int, 48)] : List pk_Sh).length := by rw [st10.1, List.length_append, hl9]
  change N10.1.length = 93 at hl10
  have fr10 : ∀ q, q < 5 → pk_sm q M N10 := fun q hq => (fr9 q hq).tr (st10.2.1 q (by omega) (by omega))
  have hb10 : pk_S N10 5 = some (.inr 6) := pk_ShL hS10 hb
  have i4_10 : pk_I N10 5 4 = pk_I N9 5 4 := st10.2.2.2.2 4
  refine pk_aload_n dX6_init_102 rfl ?_
  refine pk_iconst (v := nI 5) dX6_init_103 (by decide) ?_
  refine pk_newa (atype := .int) (ty := .int) (N := 5) (t0 := 0) dX6_init_104 rfl (Or.inl ⟨rfl, rfl⟩) ac_int (by decide) (by decide) (by decide) rfl rfl ?_
  rw [hl10]
  refine pk_putF dX6_init_106 (by decide) (by decide) fw_X6_64 rfl rfl rfl rfl (pk_nwS hb10) ?_
  obtain ⟨N11, eN⟩ : ∃ X, X = pk_sP (pk_nw N10 (.inl (.int, 5))) 5 10 (some 93) := ⟨_, rfl⟩
  refine pk_Mq eN.symm ?_
  have st11 : c_step N10 N11 93 10 [.inl (.int, 5)] := by rw [eN]; exact c_step.arr hl10 (by decide)
  clear eN
  have fs6_11 := fs6_10.sm (fun q q1 q2 => st11.2.1 q (by omega) (by omega))
  have fp11_11 := fp11_10.sm (fun q q1 q2 => st11.2.1 q (by omega) (by omega))
  have fs43_11 := fs43_10.sm (fun q q1 q2 => st11.2.1 q (by omega) (by omega))
  have fp48_11 := fp48_10.sm (fun q q1 q2 => st11.2.1 q (by omega) (by omega))
  have fl80_11 := fl80_10.sm (st11.2.1 _ (by omega) (by omega))
  have fa82_11 := fa82_10.sm (st11.2.1 _ (by omega) (by omega))
  have ft88_11 := ft88_10.sm (st11.2.1 _ (by omega) (by omega))
  have p0_11 := (st11.2.2.2.1 0 (by decide)).trans p0_10
  have p1_11 := (st11.2.2.2.1 1 (by decide)).trans p1_10
  have p2_11 := (st11.2.2.2.1 2 (by decide)).trans p2_10
  have p3_11 := (st11.2.2.2.1 3 (by decide)).trans p3_10
  have p5_11 := (st11.2.2.2.1 5 (by decide)).trans p5_10
  have p6_11 := (st11.2.2.2.1 6 (by decide)).trans p6_10
  have p7_11 := (st11.2.2.2.1 7 (by decide)).trans p7_10
  have p8_11 := (st11.2.2.2.1 8 (by decide)).trans p8_10
  have p9_11 := (st11.2.2.2.1 9 (by decide)).trans p9_10
  have p10_11 := st11.2.2.1
  have hS11 : N11.1 = M.1 ++ (((((((((([] ++ (.inr 4 :: [.inl (.int, 5), .inl (.int, 5), .inl (.int, 5), .inl (.int, 48)])) ++ (.inr 2 :: (.inl (.object RX4, 6) :: sp_rep 6))) ++ (.inr 4 :: [.inl (.int, 5), .inl (.int, 5), .inl (.int, 5), .inl (.int, 48)])) ++ (.inr 2 :: (.inl (.object RX4, 6) :: sp_rep 6))) ++ (.inr 1 :: [.inl (.int, 32)])) ++ (.inr 0 :: [.inl (.int, 48), .inl (.int, 48), .inl (.int, 48), .inl (.int, 48), .inl (.boolean, 48)])) ++ (.inr 5 :: [.inl (.int, 100), .inl (.int, 48)])) ++ [.inl (.object RX3, 4)]) ++ [.inl (.int, 48)]) ++ [.inl (.int, 5)]) := by rw [st11.1, hS10, List.append_assoc]
  have hl11 : N11.1.length = 93 + ([.inl (.int, 5)] : List pk_Sh).length := by rw [st11.1, List.length_append, hl10]
  change N11.1.length = 94 at hl11
  have fr11 : ∀ q, q < 5 → pk_sm q M N11 := fun q hq => (fr10 q hq).tr (st11.2.1 q (by omega) (by omega))
  have hb11 : pk_S N11 5 = some (.inr 6) := pk_ShL hS11 hb
  have i4_11 : pk_I N11 5 4 = pk_I N10 5 4 := st11.2.2.2.2 4
  refine pk_aload_n dX6_init_109 rfl ?_
  refine pk_iconst (v := nI 5) dX6_init_110 (by decide) ?_
  refine pk_newa (atype := .int) (ty := .int) (N := 5) (t0 := 0) dX6_init_111 rfl (Or.inl ⟨rfl, rfl⟩) ac_int (by decide) (by decide) (by decide) rfl rfl ?_
  rw [hl11]
  refine pk_putF dX6_init_113 (by decide) (by decide) fw_X6_67 rfl rfl rfl rfl (pk_nwS hb11) ?_
  obtain ⟨N12, eN⟩ : ∃ X, X = pk_sP (pk_nw N11 (.inl (.int, 5))) 5 11 (some 94) := ⟨_, rfl⟩
  refine pk_Mq eN.symm ?_
  have st12 : c_step N11 N12 94 11 [.inl (.int, 5)] := by rw [eN]; exact c_step.arr hl11 (by decide)
  clear eN
  have fs6_12 := fs6_11.sm (fun q q1 q2 => st12.2.1 q (by omega) (by omega))
  have fp11_12 := fp11_11.sm (fun q q1 q2 => st12.2.1 q (by omega) (by omega))
  have fs43_12 := fs43_11.sm (fun q q1 q2 => st12.2.1 q (by omega) (by omega))
  have fp48_12 := fp48_11.sm (fun q q1 q2 => st12.2.1 q (by omega) (by omega))
  have fl80_12 := fl80_11.sm (st12.2.1 _ (by omega) (by omega))
  have fa82_12 := fa82_11.sm (st12.2.1 _ (by omega) (by omega))
  have ft88_12 := ft88_11.sm (st12.2.1 _ (by omega) (by omega))
  have p0_12 := (st12.2.2.2.1 0 (by decide)).trans p0_11
  have p1_12 := (st12.2.2.2.1 1 (by decide)).trans p1_11
  have p2_12 := (st12.2.2.2.1 2 (by decide)).trans p2_11
  have p3_12 := (st12.2.2.2.1 3 (by decide)).trans p3_11
  have p5_12 := (st12.2.2.2.1 5 (by decide)).trans p5_11
  have p6_12 := (st12.2.2.2.1 6 (by decide)).trans p6_11
  have p7_12 := (st12.2.2.2.1 7 (by decide)).trans p7_11
  have p8_12 := (st12.2.2.2.1 8 (by decide)).trans p8_11
  have p9_12 := (st12.2.2.2.1 9 (by decide)).trans p9_11
  have p10_12 := (st12.2.2.2.1 10 (by decide)).trans p10_11
  have p11_12 := st12.2.2.1
  have hS12 : N12.1 = M.1 ++ ((((((((((([] ++ (.inr 4 :: [.inl (.int, 5), .inl (.int, 5), .inl (.int, 5), .inl (.int, 48)])) ++ (.inr 2 :: (.inl (.object RX4, 6) :: sp_rep 6))) ++ (.inr 4 :: [.inl (.int, 5), .inl (.int, 5), .inl (.int, 5), .inl (.int, 48)])) ++ (.inr 2 :: (.inl (.object RX4, 6) :: sp_rep 6))) ++ (.inr 1 :: [.inl (.int, 32)])) ++ (.inr 0 :: [.inl (.int, 48), .inl (.int, 48), .inl (.int, 48), .inl (.int, 48), .inl (.boolean, 48)])) ++ (.inr 5 :: [.inl (.int, 100), .inl (.int, 48)])) ++ [.inl (.object RX3, 4)]) ++ [.inl (.int, 48)]) ++ [.inl (.int, 5)]) ++ [.inl (.int, 5)]) := by rw [st12.1, hS11, List.append_assoc]
  have hl12 : N12.1.length = 94 + ([.inl (.int, 5)] : List pk_Sh).length := by rw [st12.1, List.length_append, hl11]
  change N12.1.length = 95 at hl12
  have fr12 : ∀ q, q < 5 → pk_sm q M N12 := fun q hq => (fr11 q hq).tr (st12.2.1 q (by omega) (by omega))
  have hb12 : pk_S N12 5 = some (.inr 6) := pk_ShL hS12 hb
  have i4_12 : pk_I N12 5 4 = pk_I N11 5 4 := st12.2.2.2.2 4
  refine pk_iconst (v := nI 0) dX6_init_116 (by decide) ?_
  refine pk_istore_n dX6_init_117 rfl rfl ?_
  have i4 : pk_I N12 5 4 = nI 0 := (((((((i4_12.trans i4_11).trans i4_10).trans i4_9).trans i4_8).trans i4_7).trans i4_6).trans i4_5)
  have h91_0 : pk_S N12 91 = some (.inl (.object RX3, 4)) := pk_ShR hS12 (i := 85) hlen rfl rfl
  refine pk_fgt (ls' := [some (.ref 5), some (.int (nI 0))]) (by repeat first | exact trivial | refine ⟨rfl, ?_⟩) ?_
  have i4_r0 := i4
  have q0_0 := p0_12
  have q1_0 := p1_12
  have q2_0 := p2_12
  have q3_0 := p3_12
  have q5_0 := p5_12
  have q6_0 := p6_12
  have q7_0 := p7_12
  have q8_0 := p8_12
  have q9_0 := p9_12
  have q10_0 := p10_12
  have q11_0 := p11_12
  have fs6r_0 := fs6_12
  have fp11r_0 := fp11_12
  have fs43r_0 := fs43_12
  have fp48r_0 := fp48_12
  have fl80r_0 := fl80_12
  have fa82r_0 := fa82_12
  have ft88r_0 := ft88_12
  have hSr0 := hS12
  have hlr0 := hl12
  have frr0 := fr12
  have hbr0 := hb12
  refine pk_iload_n dX6_init_118 rfl ?_
  refine pk_iconst (v := nI 4) dX6_init_119 (by decide) ?_
  refine pk_geN (a := 0) (b := 4) (tgt := 142) dX6_init_120 (by decide) (by decide) (by decide) (fun c_120 => ?_) (fun c_120 => ?_)
  · omega
  refine pk_aload_n dX6_init_123 rfl ?_
  refine pk_getP dX6_init_124 fl_X6_56 rfl hbr0 q8_0 ?_
  refine pk_iload_n dX6_init_127 rfl ?_
  refine pk_new (ci := 3) dX6_init_128 (by decide) cl_X6_54 in_X3 it_X3 rfl rfl ?_
  rw [hlr0]
  refine pk_dup dX6_init_131 rfl ?_
  refine pk_callI dX6_init_132 ml_X6_70 yw_X3_init yi_X3_init rfl (e_X3_init (M := pk_nw N12 (.inr 3)) (b := 95) (pk_nwS0 (by omega)) (by rw [pk_nwl, hlr0]) (by decide)) rfl rfl rfl rfl rfl rfl rfl (fun v V hv => ?_)
  obtain ⟨rfl, hg, hp⟩ := hv
  refine pk_aasN (ci := 3) dX6_init_135 (Or.inr ⟨rfl, rfl⟩) (pk_ShL hg.1 (pk_nwS h91_0)) (by omega) (by omega) (by omega) (by decide) rfl (pk_ShL hg.1 (pk_nwS0 (by omega))) ?_
  first | refine pk_inc1 dX6_init_136 rfl rfl ?_ | refine pk_iinc dX6_init_136 rfl rfl rfl ?_
  refine pk_goto (tgt := 118) dX6_init_139 (by decide) ?_
  obtain ⟨R1, eN⟩ : ∃ X, X = pk_sP V 91 0 (some 95) := ⟨_, rfl⟩
  refine pk_Mq eN.symm ?_
  have sr1 : c_stepR N12 R1 95 0 (.inr 3 :: [.inl (.long, 24)]) := by rw [eN]; exact c_stepR.obj hlr0 (by decide) hg
  have ro0_1 : c_Ro R1 95 := by rw [eN]; exact hp.sm (pk_sm.sP (by decide)) (pk_sm.sP (by decide))
  clear eN hg hp
  have fs6r_1 := fs6r_0.sm (fun q q1 q2 => sr1.2.1 q (by omega) (by omega))
  have fp11r_1 := fp11r_0.sm (fun q q1 q2 => sr1.2.1 q (by omega) (by omega))
  have fs43r_1 := fs43r_0.sm (fun q q1 q2 => sr1.2.1 q (by omega) (by omega))
  have fp48r_1 := fp48r_0.sm (fun q q1 q2 => sr1.2.1 q (by omega) (by omega))
  have fl80r_1 := fl80r_0.sm (sr1.2.1 _ (by omega) (by omega))
  have fa82r_1 := fa82r_0.sm (sr1.2.1 _ (by omega) (by omega))
  have ft88r_1 := ft88r_0.sm (sr1.2.1 _ (by omega) (by omega))
  have q0_1 := ((sr1.2.1 5 (by decide) (by decide)).P 0).trans q0_0
  have q1_1 := ((sr1.2.1 5 (by decide) (by decide)).P 1).trans q1_0
  have q2_1 := ((sr1.2.1 5 (by decide) (by decide)).P 2).trans q2_0
  have q3_1 := ((sr1.2.1 5 (by decide) (by decide)).P 3).trans q3_0
  have q5_1 := ((sr1.2.1 5 (by decide) (by decide)).P 5).trans q5_0
  have q6_1 := ((sr1.2.1 5 (by decide) (by decide)).P 6).trans q6_0
  have q7_1 := ((sr1.2.1 5 (by decide) (by decide)).P 7).trans q7_0
  have q8_1 := ((sr1.2.1 5 (by decide) (by decide)).P 8).trans q8_0
  have q9_1 := ((sr1.2.1 5 (by decide) (by decide)).P 9).trans q9_0
  have q10_1 := ((sr1.2.1 5 (by decide) (by decide)).P 10).trans q10_0
  have q11_1 := ((sr1.2.1 5 (by decide) (by decide)).P 11).trans q11_0
  have i4_r1 := ((sr1.2.1 5 (by decide) (by decide)).I 4).trans i4_r0
  have rp0_1 := sr1.2.2.1
  have hSr1 : R1.1 = M.1 ++ (((((((((((([] ++ (.inr 4 :: [.inl (.int, 5), .inl (.int, 5), .inl (.int, 5), .inl (.int, 48)])) ++ (.inr 2 :: (.inl (.object RX4, 6) :: sp_rep 6))) ++ (.inr 4 :: [.inl (.int, 5), .inl (.int, 5), .inl (.int, 5), .inl (.int, 48)])) ++ (.inr 2 :: (.inl (.object RX4, 6) :: sp_rep 6))) ++ (.inr 1 :: [.inl (.int, 32)])) ++ (.inr 0 :: [.inl (.int, 48), .inl (.int, 48), .inl (.int, 48), .inl (.int, 48), .inl (.boolean, 48)])) ++ (.inr 5 :: [.inl (.int, 100), .inl (.int, 48)])) ++ [.inl (.object RX3, 4)]) ++ [.inl (.int, 48)]) ++ [.inl (.int, 5)]) ++ [.inl (.int, 5)]) ++ (.inr 3 :: [.inl (.long, 24)])) := by rw [sr1.1, hSr0, List.append_assoc]
  have hlr1 : R1.1.length = 97 := by rw [sr1.1, List.length_append, hlr0]; rfl
  have frr1 : ∀ q, q < 5 → pk_sm q M R1 := fun q hq => (frr0 q hq).tr (sr1.2.1 q (by omega) (by omega))
  have hbr1 : pk_S R1 5 = some (.inr 6) := pk_ShL hSr1 hb
  have h91_1 : pk_S R1 91 = some (.inl (.object RX3, 4)) := pk_ShR hSr1 (i := 85) hlen rfl rfl
  refine pk_lsq (ls' := [some (.ref 5), some (.int (nI 1))]) rfl ?_
  refine pk_iload_n dX6_init_118 rfl ?_
  refine pk_iconst (v := nI 4) dX6_init_119 (by decide) ?_
  refine pk_geN (a := 1) (b := 4) (tgt := 142) dX6_init_120 (by decide) (by decide) (by decide) (fun c_120 => ?_) (fun c_120 => ?_)
  · omega
  refine pk_aload_n dX6_init_123 rfl ?_
  refine pk_getP dX6_init_124 fl_X6_56 rfl hbr1 q8_1 ?_
  refine pk_iload_n dX6_init_127 rfl ?_
  refine pk_new (ci := 3) dX6_init_128 (by decide) cl_X6_54 in_X3 it_X3 rfl rfl ?_
  rw [hlr1]
  refine pk_dup dX6_init_131 rfl ?_
  refine pk_callI dX6_init_132 ml_X6_70 yw_X3_init yi_X3_init rfl (e_X3_init (M := pk_nw R1 (.inr 3)) (b := 97) (pk_nwS0 (by omega)) (by rw [pk_nwl, hlr1]) (by decide)) rfl rfl rfl rfl rfl rfl rfl (fun v V hv => ?_)
  obtain ⟨rfl, hg, hp⟩ := hv
  refine pk_aasN (ci := 3) dX6_init_135 (Or.inr ⟨rfl, rfl⟩) (pk_ShL hg.1 (pk_nwS h91_1)) (by omega) (by omega) (by omega) (by decide) rfl (pk_ShL hg.1 (pk_nwS0 (by omega))) ?_
  first | refine pk_inc1 dX6_init_136 rfl rfl ?_ | refine pk_iinc dX6_init_136 rfl rfl rfl ?_
  refine pk_goto (tgt := 118) dX6_init_139 (by decide) ?_
  obtain ⟨R2, eN⟩ : ∃ X, X = pk_sP V 91 1 (some 97) := ⟨_, rfl⟩
  refine pk_Mq eN.symm ?_
  have sr2 : c_stepR R1 R2 97 1 (.inr 3 :: [.inl (.long, 24)]) := by rw [eN]; exact c_stepR.obj hlr1 (by decide) hg
  have ro1_2 : c_Ro R2 97 := by rw [eN]; exact hp.sm (pk_sm.sP (by decide)) (pk_sm.sP (by decide))
  clear eN hg hp
  have fs6r_2 := fs6r_1.sm (fun q q1 q2 => sr2.2.1 q (by omega) (by omega))
  have fp11r_2 := fp11r_1.sm (fun q q1 q2 => sr2.2.1 q (by omega) (by omega))
  have fs43r_2 := fs43r_1.sm (fun q q1 q2 => sr2.2.1 q (by omega) (by omega))
  have fp48r_2 := fp48r_1.sm (fun q q1 q2 => sr2.2.1 q (by omega) (by omega))
  have fl80r_2 := fl80r_1.sm (sr2.2.1 _ (by omega) (by omega))
  have fa82r_2 := fa82r_1.sm (sr2.2.1 _ (by omega) (by omega))
  have ft88r_2 := ft88r_1.sm (sr2.2.1 _ (by omega) (by omega))
  have q0_2 := ((sr2.2.1 5 (by decide) (by decide)).P 0).trans q0_1
  have q1_2 := ((sr2.2.1 5 (by decide) (by decide)).P 1).trans q1_1
  have q2_2 := ((sr2.2.1 5 (by decide) (by decide)).P 2).trans q2_1
  have q3_2 := ((sr2.2.1 5 (by decide) (by decide)).P 3).trans q3_1
  have q5_2 := ((sr2.2.1 5 (by decide) (by decide)).P 5).trans q5_1
  have q6_2 := ((sr2.2.1 5 (by decide) (by decide)).P 6).trans q6_1
  have q7_2 := ((sr2.2.1 5 (by decide) (by decide)).P 7).trans q7_1
  have q8_2 := ((sr2.2.1 5 (by decide) (by decide)).P 8).trans q8_1
  have q9_2 := ((sr2.2.1 5 (by decide) (by decide)).P 9).trans q9_1
  have q10_2 := ((sr2.2.1 5 (by decide) (by decide)).P 10).trans q10_1
  have q11_2 := ((sr2.2.1 5 (by decide) (by decide)).P 11).trans q11_1
  have i4_r2 := ((sr2.2.1 5 (by decide) (by decide)).I 4).trans i4_r1
  have ro0_2 := ro0_1.sm (sr2.2.1 _ (by decide) (by decide)) (sr2.2.1 _ (by decide) (by decide))
  have rp0_2 := (sr2.2.2.2 0 (by decide)).trans rp0_1
  have rp1_2 := sr2.2.2.1
  have hSr2 : R2.1 = M.1 ++ ((((((((((((([] ++ (.inr 4 :: [.inl (.int, 5), .inl (.int, 5), .inl (.int, 5), .inl (.int, 48)])) ++ (.inr 2 :: (.inl (.object RX4, 6) :: sp_rep 6))) ++ (.inr 4 :: [.inl (.int, 5), .inl (.int, 5), .inl (.int, 5), .inl (.int, 48)])) ++ (.inr 2 :: (.inl (.object RX4, 6) :: sp_rep 6))) ++ (.inr 1 :: [.inl (.int, 32)])) ++ (.inr 0 :: [.inl (.int, 48), .inl (.int, 48), .inl (.int, 48), .inl (.int, 48), .inl (.boolean, 48)])) ++ (.inr 5 :: [.inl (.int, 100), .inl (.int, 48)])) ++ [.inl (.object RX3, 4)]) ++ [.inl (.int, 48)]) ++ [.inl (.int, 5)]) ++ [.inl (.int, 5)]) ++ (.inr 3 :: [.inl (.long, 24)])) ++ (.inr 3 :: [.inl (.long, 24)])) := by rw [sr2.1, hSr1, List.append_assoc]
  have hlr2 : R2.1.length = 99 := by rw [sr2.1, List.length_append, hlr1]; rfl
  have frr2 : ∀ q, q < 5 → pk_sm q M R2 := fun q hq => (frr1 q hq).tr (sr2.2.1 q (by omega) (by omega))
  have hbr2 : pk_S R2 5 = some (.inr 6) := pk_ShL hSr2 hb
  have h91_2 : pk_S R2 91 = some (.inl (.object RX3, 4)) := pk_ShR hSr2 (i := 85) hlen rfl rfl
  refine pk_lsq (ls' := [some (.ref 5), some (.int (nI 2))]) rfl ?_
  refine pk_iload_n dX6_init_118 rfl ?_
  refine pk_iconst (v := nI 4) dX6_init_119 (by decide) ?_
  refine pk_geN (a := 2) (b := 4) (tgt := 142) dX6_init_120 (by decide) (by decide) (by decide) (fun c_120 => ?_) (fun c_120 => ?_)
  · omega
  refine pk_aload_n dX6_init_123 rfl ?_
  refine pk_getP dX6_init_124 fl_X6_56 rfl hbr2 q8_2 ?_
  refine pk_iload_n dX6_init_127 rfl ?_
  refine pk_new (ci := 3) dX6_init_128 (by decide) cl_X6_54 in_X3 it_X3 rfl rfl ?_
  rw [hlr2]
  refine pk_dup dX6_init_131 rfl ?_
  refine pk_callI dX6_init_132 ml_X6_70 yw_X3_init yi_X3_init rfl (e_X3_init (M := pk_nw R2 (.inr 3)) (b := 99) (pk_nwS0 (by omega)) (by rw [pk_nwl, hlr2]) (by decide)) rfl rfl rfl rfl rfl rfl rfl (fun v V hv => ?_)
  obtain ⟨rfl, hg, hp⟩ := hv
  refine pk_aasN (ci := 3) dX6_init_135 (Or.inr ⟨rfl, rfl⟩) (pk_ShL hg.1 (pk_nwS h91_2)) (by omega) (by omega) (by omega) (by decide) rfl (pk_ShL hg.1 (pk_nwS0 (by omega))) ?_
  first | refine pk_inc1 dX6_init_136 rfl rfl ?_ | refine pk_iinc dX6_init_136 rfl rfl rfl ?_
  refine pk_goto (tgt := 118) dX6_init_139 (by decide) ?_
  obtain ⟨R3, eN⟩ : ∃ X, X = pk_sP V 91 2 (some 99) := ⟨_, rfl⟩
  refine pk_Mq eN.symm ?_
  have sr3 : c_stepR R2 R3 99 2 (.inr 3 :: [.inl (.long, 24)]) := by rw [eN]; exact c_stepR.obj hlr2 (by decide) hg
  have ro2_3 : c_Ro R3 99 := by rw [eN]; exact hp.sm (pk_sm.sP (by decide)) (pk_sm.sP (by decide))
  clear eN hg hp
  have fs6r_3 := fs6r_2.sm (fun q q1 q2 => sr3.2.1 q (by omega) (by omega))
  have fp11r_3 := fp11r_2.sm (fun q q1 q2 => sr3.2.1 q (by omega) (by omega))
  have fs43r_3 := fs43r_2.sm (fun q q1 q2 => sr3.2.1 q (by omega) (by omega))
  have fp48r_3 := fp48r_2.sm (fun q q1 q2 => sr3.2.1 q (by omega) (by omega))
  have fl80r_3 := fl80r_2.sm (sr3.2.1 _ (by omega) (by omega))
  have fa82r_3 := fa82r_2.sm (sr3.2.1 _ (by omega) (by omega))
  have ft88r_3 := ft88r_2.sm (sr3.2.1 _ (by omega) (by omega))
  have q0_3 := ((sr3.2.1 5 (by decide) (by decide)).P 0).trans q0_2
  have q1_3 := ((sr3.2.1 5 (by decide) (by decide)).P 1).trans q1_2
  have q2_3 := ((sr3.2.1 5 (by decide) (by decide)).P 2).trans q2_2
  have q3_3 := ((sr3.2.1 5 (by decide) (by decide)).P 3).trans q3_2
  have q5_3 := ((sr3.2.1 5 (by decide) (by decide)).P 5).trans q5_2
  have q6_3 := ((sr3.2.1 5 (by decide) (by decide)).P 6).trans q6_2
  have q7_3 := ((sr3.2.1 5 (by decide) (by decide)).P 7).trans q7_2
  have q8_3 := ((sr3.2.1 5 (by decide) (by decide)).P 8).trans q8_2
  have q9_3 := ((sr3.2.1 5 (by decide) (by decide)).P 9).trans q9_2
  have q10_3 := ((sr3.2.1 5 (by decide) (by decide)).P 10).trans q10_2
  have q11_3 := ((sr3.2.1 5 (by decide) (by decide)).P 11).trans q11_2
  have i4_r3 := ((sr3.2.1 5 (by decide) (by decide)).I 4).trans i4_r2
  have ro0_3 := ro0_2.sm (sr3.2.1 _ (by decide) (by decide)) (sr3.2.1 _ (by decide) (by decide))
  have rp0_3 := (sr3.2.2.2 0 (by decide)).trans rp0_2
  have ro1_3 := ro1_2.sm (sr3.2.1 _ (by decide) (by decide)) (sr3.2.1 _ (by decide) (by decide))
  have rp1_3 := (sr3.2.2.2 1 (by decide)).trans rp1_2
  have rp2_3 := sr3.2.2.1
  have hSr3 : R3.1 = M.1 ++ (((((((((((((([] ++ (.inr 4 :: [.inl (.int, 5), .inl (.int, 5), .inl (.int, 5), .inl (.int, 48)])) ++ (.inr 2 :: (.inl (.object RX4, 6) :: sp_rep 6))) ++ (.inr 4 :: [.inl (.int, 5), .inl (.int, 5), .inl (.int, 5), .inl (.int, 48)])) ++ (.inr 2 :: (.inl (.object RX4, 6) :: sp_rep 6))) ++ (.inr 1 :: [.inl (.int, 32)])) ++ (.inr 0 :: [.inl (.int, 48), .inl (.int, 48), .inl (.int, 48), .inl (.int, 48), .inl (.boolean, 48)])) ++ (.inr 5 :: [.inl (.int, 100), .inl (.int, 48)])) ++ [.inl (.object RX3, 4)]) ++ [.inl (.int, 48)]) ++ [.inl (.int, 5)]) ++ [.inl (.int, 5)]) ++ (.inr 3 :: [.inl (.long, 24)])) ++ (.inr 3 :: [.inl (.long, 24)])) ++ (.inr 3 :: [.inl (.long, 24)])) := by rw [sr3.1, hSr2, List.append_assoc]
  have hlr3 : R3.1.length = 101 := by rw [sr3.1, List.length_append, hlr2]; rfl
  have frr3 : ∀ q, q < 5 → pk_sm q M R3 := fun q hq => (frr2 q hq).tr (sr3.2.1 q (by omega) (by omega))
  have hbr3 : pk_S R3 5 = some (.inr 6) := pk_ShL hSr3 hb
  have h91_3 : pk_S R3 91 = some (.inl (.object RX3, 4)) := pk_ShR hSr3 (i := 85) hlen rfl rfl
  refine pk_lsq (ls' := [some (.ref 5), some (.int (nI 3))]) rfl ?_
  refine pk_iload_n dX6_init_118 rfl ?_
  refine pk_iconst (v := nI 4) dX6_init_119 (by decide) ?_
  refine pk_geN (a := 3) (b := 4) (tgt := 142) dX6_init_120 (by decide) (by decide) (by decide) (fun c_120 => ?_) (fun c_120 => ?_)
  · omega
  refine pk_aload_n dX6_init_123 rfl ?_
  refine pk_getP dX6_init_124 fl_X6_56 rfl hbr3 q8_3 ?_
  refine pk_iload_n dX6_init_127 rfl ?_
  refine pk_new (ci := 3) dX6_init_128 (by decide) cl_X6_54 in_X3 it_X3 rfl rfl ?_
  rw [hlr3]
  refine pk_dup dX6_init_131 rfl ?_
  refine pk_callI dX6_init_132 ml_X6_70 yw_X3_init yi_X3_init rfl (e_X3_init (M := pk_nw R3 (.inr 3)) (b := 101) (pk_nwS0 (by omega)) (by rw [pk_nwl, hlr3]) (by decide)) rfl rfl rfl rfl rfl rfl rfl (fun v V hv => ?_)
  obtain ⟨rfl, hg, hp⟩ := hv
  refine pk_aasN (ci := 3) dX6_init_135 (Or.inr ⟨rfl, rfl⟩) (pk_ShL hg.1 (pk_nwS h91_3)) (by omega) (by omega) (by omega) (by decide) rfl (pk_ShL hg.1 (pk_nwS0 (by omega))) ?_
  first | refine pk_inc1 dX6_init_136 rfl rfl ?_ | refine pk_iinc dX6_init_136 rfl rfl rfl ?_
  refine pk_goto (tgt := 118) dX6_init_139 (by decide) ?_
  obtain ⟨R4, eN⟩ : ∃ X, X = pk_sP V 91 3 (some 101) := ⟨_, rfl⟩
  refine pk_Mq eN.symm ?_
  have sr4 : c_stepR R3 R4 101 3 (.inr 3 :: [.inl (.long, 24)]) := by rw [eN]; exact c_stepR.obj hlr3 (by decide) hg
  have ro3_4 : c_Ro R4 101 := by rw [eN]; exact hp.sm (pk_sm.sP (by decide)) (pk_sm.sP (by decide))
  clear eN hg hp
  have fs6r_4 := fs6r_3.sm (fun q q1 q2 => sr4.2.1 q (by omega) (by omega))
  have fp11r_4 := fp11r_3.sm (fun q q1 q2 => sr4.2.1 q (by omega) (by omega))
  have fs43r_4 := fs43r_3.sm (fun q q1 q2 => sr4.2.1 q (by omega) (by omega))
  have fp48r_4 := fp48r_3.sm (fun q q1 q2 => sr4.2.1 q (by omega) (by omega))
  have fl80r_4 := fl80r_3.sm (sr4.2.1 _ (by omega) (by omega))
  have fa82r_4 := fa82r_3.sm (sr4.2.1 _ (by omega) (by omega))
  have ft88r_4 := ft88r_3.sm (sr4.2.1 _ (by omega) (by omega))
  have q0_4 := ((sr4.2.1 5 (by decide) (by decide)).P 0).trans q0_3
  have q1_4 := ((sr4.2.1 5 (by decide) (by decide)).P 1).trans q1_3
  have q2_4 := ((sr4.2.1 5 (by decide) (by decide)).P 2).trans q2_3
  have q3_4 := ((sr4.2.1 5 (by decide) (by decide)).P 3).trans q3_3
  have q5_4 := ((sr4.2.1 5 (by decide) (by decide)).P 5).trans q5_3
  have q6_4 := ((sr4.2.1 5 (by decide) (by decide)).P 6).trans q6_3
  have q7_4 := ((sr4.2.1 5 (by decide) (by decide)).P 7).trans q7_3
  have q8_4 := ((sr4.2.1 5 (by decide) (by decide)).P 8).trans q8_3
  have q9_4 := ((sr4.2.1 5 (by decide) (by decide)).P 9).trans q9_3
  have q10_4 := ((sr4.2.1 5 (by decide) (by decide)).P 10).trans q10_3
  have q11_4 := ((sr4.2.1 5 (by decide) (by decide)).P 11).trans q11_3
  have i4_r4 := ((sr4.2.1 5 (by decide) (by decide)).I 4).trans i4_r3
  have ro0_4 := ro0_3.sm (sr4.2.1 _ (by decide) (by decide)) (sr4.2.1 _ (by decide) (by decide))
  have rp0_4 := (sr4.2.2.2 0 (by decide)).trans rp0_3
  have ro1_4 := ro1_3.sm (sr4.2.1 _ (by decide) (by decide)) (sr4.2.1 _ (by decide) (by decide))
  have rp1_4 := (sr4.2.2.2 1 (by decide)).trans rp1_3
  have ro2_4 := ro2_3.sm (sr4.2.1 _ (by decide) (by decide)) (sr4.2.1 _ (by decide) (by decide))
  have rp2_4 := (sr4.2.2.2 2 (by decide)).trans rp2_3
  have rp3_4 := sr4.2.2.1
  have hSr4 : R4.1 = M.1 ++ ((((((((((((((([] ++ (.inr 4 :: [.inl (.int, 5), .inl (.int, 5), .inl (.int, 5), .inl (.int, 48)])) ++ (.inr 2 :: (.inl (.object RX4, 6) :: sp_rep 6))) ++ (.inr 4 :: [.inl (.int, 5), .inl (.int, 5), .inl (.int, 5), .inl (.int, 48)])) ++ (.inr 2 :: (.inl (.object RX4, 6) :: sp_rep 6))) ++ (.inr 1 :: [.inl (.int, 32)])) ++ (.inr 0 :: [.inl (.int, 48), .inl (.int, 48), .inl (.int, 48), .inl (.int, 48), .inl (.boolean, 48)])) ++ (.inr 5 :: [.inl (.int, 100), .inl (.int, 48)])) ++ [.inl (.object RX3, 4)]) ++ [.inl (.int, 48)]) ++ [.inl (.int, 5)]) ++ [.inl (.int, 5)]) ++ (.inr 3 :: [.inl (.long, 24)])) ++ (.inr 3 :: [.inl (.long, 24)])) ++ (.inr 3 :: [.inl (.long, 24)])) ++ (.inr 3 :: [.inl (.long, 24)])) := by rw [sr4.1, hSr3, List.append_assoc]
  have hlr4 : R4.1.length = 103 := by rw [sr4.1, List.length_append, hlr3]; rfl
  have frr4 : ∀ q, q < 5 → pk_sm q M R4 := fun q hq => (frr3 q hq).tr (sr4.2.1 q (by omega) (by omega))
  have hbr4 : pk_S R4 5 = some (.inr 6) := pk_ShL hSr4 hb
  have h91_4 : pk_S R4 91 = some (.inl (.object RX3, 4)) := pk_ShR hSr4 (i := 85) hlen rfl rfl
  refine pk_lsq (ls' := [some (.ref 5), some (.int (nI 4))]) rfl ?_
  refine pk_iload_n dX6_init_118 rfl ?_
  refine pk_iconst (v := nI 4) dX6_init_119 (by decide) ?_
  refine pk_geN (a := 4) (b := 4) (tgt := 142) dX6_init_120 (by decide) (by decide) (by decide) (fun c_120 => ?_) (fun c_120 => ?_)
  · refine pk_retv dX6_init_142 ?_
    refine ⟨rfl, ⟨hSr4, frr4⟩, ⟨fs6r_4, fp11r_4, fs43r_4, fp48r_4, fl80r_4, fa82r_4, ft88r_4⟩, i4_r4, fun k hk => ?_, ⟨q0_4, q1_4, q2_4, q3_4, q5_4, q6_4, q7_4⟩, q8_4, q9_4, q10_4, q11_4⟩
    obtain rfl | rfl | rfl | rfl : k = 0 ∨ k = 1 ∨ k = 2 ∨ k = 3 := by omega
    · exact ⟨rp0_4, ro0_4⟩
    · exact ⟨rp1_4, ro1_4⟩
    · exact ⟨rp2_4, ro2_4⟩
    · exact ⟨rp3_4, ro3_4⟩
  · omega
