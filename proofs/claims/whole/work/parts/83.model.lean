/-! The constructor of the model. -/
def sp_E7 : List pk_Sh := [.inl (.int, 62), .inl (.int, 32), .inl (.int, 48), .inl (.int, 48), .inl (.int, 372), .inl (.int, 48), .inl (.int, 100), .inl (.int, 48), .inl (.int, 62), .inl (.int, 372), .inl (.int, 4), .inl (.int, 4), .inl (.long, 96), .inl (.long, 24)]
def c_Mo (M : pk_M) : Prop := ((pk_P M 103 0 = some 104 ∧ pk_P M 103 1 = some 105 ∧ pk_P M 103 2 = some 106 ∧ pk_P M 103 3 = some 107 ∧ pk_P M 103 4 = some 108 ∧ pk_P M 103 6 = some 109 ∧ pk_P M 103 7 = some 110) ∧ pk_P M 103 10 = some 111 ∧ pk_P M 103 14 = some 112 ∧ pk_P M 103 15 = some 113 ∧ pk_P M 103 17 = some 114 ∧ pk_P M 103 18 = some 115 ∧ pk_P M 103 19 = some 116 ∧ pk_P M 103 20 = some 117) ∧ pm_At M 104 0 sp_A0 ∧ pk_I M 103 5 = nI 0 ∧ pk_I M 103 8 = nI 0 ∧ pk_I M 103 16 = -1 ∧ (∀ k, k < 4 → pk_I M 114 k = -1 ∧ pk_I M 115 k = nI 0) ∧ ∀ j, pk_J M 116 j = 0
def c_mst (N N3 : pk_M) (B k : Nat) (z : pk_Sh) : Prop := N3.1 = N.1 ++ [z] ∧ (∀ q, q < B → q ≠ 103 → pk_sm q N N3) ∧ pk_P N3 103 k = some B ∧ (∀ j, j ≠ k → pk_P N3 103 j = pk_P N 103 j) ∧ (∀ j, pk_I N3 103 j = pk_I N 103 j) ∧ (∀ j, pk_I N3 B j = 0) ∧ ∀ j, pk_J N3 B j = 0
theorem c_mst.mk {N : pk_M} {z : pk_Sh} {B k : Nat} (hl : N.1.length = B) (hB : 103 < B) : c_mst N (pk_sP (pk_nw N z) 103 k (some B)) B k z := by
  have hf : ∀ q, q < B → pk_sm q N (pk_nw N z) := fun q hq => pk_sm.nw (by omega)
  exact ⟨rfl, fun q q1 q2 => (hf q q1).tr (pk_sm.sP q2), pk_gP1 rfl rfl rfl, fun j hj => pk_gP0 (Or.inr hj) ((hf 103 hB).P j), fun j => (hf 103 hB).I j, fun j => pk_gPI (pk_gNI0 hl.symm), fun j => pk_gPJ (pk_gNJ0 hl.symm)⟩

set_option maxRecDepth 100000 in
set_option maxHeartbeats 4000000 in
theorem e_X7_init {Γ : pk_T} {M : pk_M} (hb : pk_S M 103 = some (.inr 7)) (hlen : M.1.length = 104) (hz : pk_I M 103 5 = 0 ∧ pk_I M 103 8 = 0) : pk_E Γ yX7_init cX7_init 2 none 1 14 1320 M [.ref 103] (fun r M' => r = none ∧ pk_gr 103 M M' sp_E7 ∧ c_Mo M') := by
  refine pk_meth (own := RX7) (ini := true) [some (.ref 103), none] (by decide +kernel) rfl (by decide +kernel) rfl rfl ?_
  have hS0 : M.1 = M.1 ++ [] := (List.append_nil _).symm
  have fr0 : ∀ q, q < 103 → pk_sm q M M := fun q _ => pk_sm.rf q M
  have i5_0 := hz.1
  have i8_0 := hz.2
  refine pk_aload_n dX7_init_0 rfl ?_
  refine pk_objInit dX7_init_1 mo_X7_1 oi_inst oi_code rfl rfl rfl ?_
  refine pk_aload_n dX7_init_4 rfl ?_
  refine pk_bipush (v := nI 62) dX7_init_5 (by decide) ?_
  refine pk_newa (atype := .int) (ty := .int) (N := 62) (t0 := 0) dX7_init_7 rfl (Or.inl ⟨rfl, rfl⟩) ac_int (by decide) (by decide) (by decide) rfl rfl ?_
  rw [hlen]
  refine pk_putF dX7_init_9 (by decide) (by decide) fw_X7_7 rfl rfl rfl rfl (pk_nwS hb) ?_
  obtain ⟨N1, eN⟩ : ∃ X, X = pk_sP (pk_nw M (.inl (.int, 62))) 103 0 (some 104) := ⟨_, rfl⟩
  refine pk_Mq eN.symm ?_
  have st1 : c_mst M N1 104 0 (.inl (.int, 62)) := by rw [eN]; exact c_mst.mk hlen (by decide)
  clear eN
  have p0_1 := st1.2.2.1
  have z104_1 := st1.2.2.2.2.2.1
  have i5_1 := (st1.2.2.2.2.1 5).trans i5_0
  have i8_1 := (st1.2.2.2.2.1 8).trans i8_0
  have hS1 : N1.1 = M.1 ++ ([] ++ [.inl (.int, 62)]) := st1.1
  have hl1 : N1.1.length = 105 := by rw [st1.1, List.length_append, hlen]; rfl
  have fr1 : ∀ q, q < 103 → pk_sm q M N1 := fun q hq => (fr0 q hq).tr (st1.2.1 q (by omega) (by omega))
  have hb1 : pk_S N1 103 = some (.inr 7) := pk_ShL hS1 hb
  refine pk_aload_n dX7_init_12 rfl ?_
  refine pk_bipush (v := nI 32) dX7_init_13 (by decide) ?_
  refine pk_newa (atype := .int) (ty := .int) (N := 32) (t0 := 0) dX7_init_15 rfl (Or.inl ⟨rfl, rfl⟩) ac_int (by decide) (by decide) (by decide) rfl rfl ?_
  rw [hl1]
  refine pk_putF dX7_init_17 (by decide) (by decide) fw_X7_13 rfl rfl rfl rfl (pk_nwS hb1) ?_
  obtain ⟨N2, eN⟩ : ∃ X, X = pk_sP (pk_nw N1 (.inl (.int, 32))) 103 1 (some 105) := ⟨_, rfl⟩
  refine pk_Mq eN.symm ?_
  have st2 : c_mst N1 N2 105 1 (.inl (.int, 32)) := by rw [eN]; exact c_mst.mk hl1 (by decide)
  clear eN
  have p0_2 := (st2.2.2.2.1 0 (by decide)).trans p0_1
  have p1_2 := st2.2.2.1
  have z104_2 := fun j => ((st2.2.1 104 (by decide) (by decide)).I j).trans (z104_1 j)
  have i5_2 := (st2.2.2.2.2.1 5).trans i5_1
  have i8_2 := (st2.2.2.2.2.1 8).trans i8_1
  have hS2 : N2.1 = M.1 ++ (([] ++ [.inl (.int, 62)]) ++ [.inl (.int, 32)]) := by rw [st2.1, hS1, List.append_assoc]
  have hl2 : N2.1.length = 106 := by rw [st2.1, List.length_append, hl1]; rfl
  have fr2 : ∀ q, q < 103 → pk_sm q M N2 := fun q hq => (fr1 q hq).tr (st2.2.1 q (by omega) (by omega))
  have hb2 : pk_S N2 103 = some (.inr 7) := pk_ShL hS2 hb
  clear st1 p0_1 z104_1 i5_1 i8_1 hb1
  refine pk_aload_n dX7_init_20 rfl ?_
  refine pk_bipush (v := nI 48) dX7_init_21 (by decide) ?_
  refine pk_newa (atype := .int) (ty := .int) (N := 48) (t0 := 0) dX7_init_23 rfl (Or.inl ⟨rfl, rfl⟩) ac_int (by decide) (by decide) (by decide) rfl rfl ?_
  rw [hl2]
  refine pk_putF dX7_init_25 (by decide) (by decide) fw_X7_16 rfl rfl rfl rfl (pk_nwS hb2) ?_
  obtain ⟨N3, eN⟩ : ∃ X, X = pk_sP (pk_nw N2 (.inl (.int, 48))) 103 2 (some 106) := ⟨_, rfl⟩
  refine pk_Mq eN.symm ?_
  have st3 : c_mst N2 N3 106 2 (.inl (.int, 48)) := by rw [eN]; exact c_mst.mk hl2 (by decide)
  clear eN
  have p0_3 := (st3.2.2.2.1 0 (by decide)).trans p0_2
  have p1_3 := (st3.2.2.2.1 1 (by decide)).trans p1_2
  have p2_3 := st3.2.2.1
  have z104_3 := fun j => ((st3.2.1 104 (by decide) (by decide)).I j).trans (z104_2 j)
  have i5_3 := (st3.2.2.2.2.1 5).trans i5_2
  have i8_3 := (st3.2.2.2.2.1 8).trans i8_2
  have hS3 : N3.1 = M.1 ++ ((([] ++ [.inl (.int, 62)]) ++ [.inl (.int, 32)]) ++ [.inl (.int, 48)]) := by rw [st3.1, hS2, List.append_assoc]
  have hl3 : N3.1.length = 107 := by rw [st3.1, List.length_append, hl2]; rfl
  have fr3 : ∀ q, q < 103 → pk_sm q M N3 := fun q hq => (fr2 q hq).tr (st3.2.1 q (by omega) (by omega))
  have hb3 : pk_S N3 103 = some (.inr 7) := pk_ShL hS3 hb
  clear st2 p0_2 p1_2 z104_2 i5_2 i8_2 hb2
  refine pk_aload_n dX7_init_28 rfl ?_
  refine pk_bipush (v := nI 48) dX7_init_29 (by decide) ?_
  refine pk_newa (atype := .int) (ty := .int) (N := 48) (t0 := 0) dX7_init_31 rfl (Or.inl ⟨rfl, rfl⟩) ac_int (by decide) (by decide) (by decide) rfl rfl ?_
  rw [hl3]
  refine pk_putF dX7_init_33 (by decide) (by decide) fw_X7_19 rfl rfl rfl rfl (pk_nwS hb3) ?_
  obtain ⟨N4, eN⟩ : ∃ X, X = pk_sP (pk_nw N3 (.inl (.int, 48))) 103 3 (some 107) := ⟨_, rfl⟩
  refine pk_Mq eN.symm ?_
  have st4 : c_mst N3 N4 107 3 (.inl (.int, 48)) := by rw [eN]; exact c_mst.mk hl3 (by decide)
  clear eN
  have p0_4 := (st4.2.2.2.1 0 (by decide)).trans p0_3
  have p1_4 := (st4.2.2.2.1 1 (by decide)).trans p1_3
  have p2_4 := (st4.2.2.2.1 2 (by decide)).trans p2_3
  have p3_4 := st4.2.2.1
  have z104_4 := fun j => ((st4.2.1 104 (by decide) (by decide)).I j).trans (z104_3 j)
  have i5_4 := (st4.2.2.2.2.1 5).trans i5_3
  have i8_4 := (st4.2.2.2.2.1 8).trans i8_3
  have hS4 : N4.1 = M.1 ++ (((([] ++ [.inl (.int, 62)]) ++ [.inl (.int, 32)]) ++ [.inl (.int, 48)]) ++ [.inl (.int, 48)]) := by rw [st4.1, hS3, List.append_assoc]
  have hl4 : N4.1.length = 108 := by rw [st4.1, List.length_append, hl3]; rfl
  have fr4 : ∀ q, q < 103 → pk_sm q M N4 := fun q hq => (fr3 q hq).tr (st4.2.1 q (by omega) (by omega))
  have hb4 : pk_S N4 103 = some (.inr 7) := pk_ShL hS4 hb
  clear st3 p0_3 p1_3 p2_3 z104_3 i5_3 i8_3 hb3
  refine pk_aload_n dX7_init_36 rfl ?_
  refine pk_sipush (v := nI 372) dX7_init_37 (by decide) ?_
  refine pk_newa (atype := .int) (ty := .int) (N := 372) (t0 := 0) dX7_init_40 rfl (Or.inl ⟨rfl, rfl⟩) ac_int (by decide) (by decide) (by decide) rfl rfl ?_
  rw [hl4]
  refine pk_putF dX7_init_42 (by decide) (by decide) fw_X7_22 rfl rfl rfl rfl (pk_nwS hb4) ?_
  obtain ⟨N5, eN⟩ : ∃ X, X = pk_sP (pk_nw N4 (.inl (.int, 372))) 103 4 (some 108) := ⟨_, rfl⟩
  refine pk_Mq eN.symm ?_
  have st5 : c_mst N4 N5 108 4 (.inl (.int, 372)) := by rw [eN]; exact c_mst.mk hl4 (by decide)
  clear eN
  have p0_5 := (st5.2.2.2.1 0 (by decide)).trans p0_4
  have p1_5 := (st5.2.2.2.1 1 (by decide)).trans p1_4
  have p2_5 := (st5.2.2.2.1 2 (by decide)).trans p2_4
  have p3_5 := (st5.2.2.2.1 3 (by decide)).trans p3_4
  have p4_5 := st5.2.2.1
  have z104_5 := fun j => ((st5.2.1 104 (by decide) (by decide)).I j).trans (z104_4 j)
  have i5_5 := (st5.2.2.2.2.1 5).trans i5_4
  have i8_5 := (st5.2.2.2.2.1 8).trans i8_4
  have hS5 : N5.1 = M.1 ++ ((((([] ++ [.inl (.int, 62)]) ++ [.inl (.int, 32)]) ++ [.inl (.int, 48)]) ++ [.inl (.int, 48)]) ++ [.inl (.int, 372)]) := by rw [st5.1, hS4, List.append_assoc]
  have hl5 : N5.1.length = 109 := by rw [st5.1, List.length_append, hl4]; rfl
  have fr5 : ∀ q, q < 103 → pk_sm q M N5 := fun q hq => (fr4 q hq).tr (st5.2.1 q (by omega) (by omega))
  have hb5 : pk_S N5 103 = some (.inr 7) := pk_ShL hS5 hb
  clear st4 p0_4 p1_4 p2_4 p3_4 z104_4 i5_4 i8_4 hb4
  refine pk_aload_n dX7_init_45 rfl ?_
  refine pk_bipush (v := nI 48) dX7_init_46 (by decide) ?_
  refine pk_newa (atype := .int) (ty := .int) (N := 48) (t0 := 0) dX7_init_48 rfl (Or.inl ⟨rfl, rfl⟩) ac_int (by decide) (by decide) (by decide) rfl rfl ?_
  rw [hl5]
  refine pk_putF dX7_init_50 (by decide) (by decide) fw_X7_25 rfl rfl rfl rfl (pk_nwS hb5) ?_
  obtain ⟨N6, eN⟩ : ∃ X, X = pk_sP (pk_nw N5 (.inl (.int, 48))) 103 6 (some 109) := ⟨_, rfl⟩
  refine pk_Mq eN.symm ?_
  have st6 : c_mst N5 N6 109 6 (.inl (.int, 48)) := by rw [eN]; exact c_mst.mk hl5 (by decide)
  clear eN
  have p0_6 := (st6.2.2.2.1 0 (by decide)).trans p0_5
  have p1_6 := (st6.2.2.2.1 1 (by decide)).trans p1_5
  have p2_6 := (st6.2.2.2.1 2 (by decide)).trans p2_5
  have p3_6 := (st6.2.2.2.1 3 (by decide)).trans p3_5
  have p4_6 := (st6.2.2.2.1 4 (by decide)).trans p4_5
  have p6_6 := st6.2.2.1
  have z104_6 := fun j => ((st6.2.1 104 (by decide) (by decide)).I j).trans (z104_5 j)
  have i5_6 := (st6.2.2.2.2.1 5).trans i5_5
  have i8_6 := (st6.2.2.2.2.1 8).trans i8_5
  have hS6 : N6.1 = M.1 ++ (((((([] ++ [.inl (.int, 62)]) ++ [.inl (.int, 32)]) ++ [.inl (.int, 48)]) ++ [.inl (.int, 48)]) ++ [.inl (.int, 372)]) ++ [.inl (.int, 48)]) := by rw [st6.1, hS5, List.append_assoc]
  have hl6 : N6.1.length = 110 := by rw [st6.1, List.length_append, hl5]; rfl
  have fr6 : ∀ q, q < 103 → pk_sm q M N6 := fun q hq => (fr5 q hq).tr (st6.2.1 q (by omega) (by omega))
  have hb6 : pk_S N6 103 = some (.inr 7) := pk_ShL hS6 hb
  clear st5 p0_5 p1_5 p2_5 p3_5 p4_5 z104_5 i5_5 i8_5 hb5
  refine pk_aload_n dX7_init_53 rfl ?_
  refine pk_bipush (v := nI 100) dX7_init_54 (by decide) ?_
  refine pk_newa (atype := .int) (ty := .int) (N := 100) (t0 := 0) dX7_init_56 rfl (Or.inl ⟨rfl, rfl⟩) ac_int (by decide) (by decide) (by decide) rfl rfl ?_
  rw [hl6]
  refine pk_putF dX7_init_58 (by decide) (by decide) fw_X7_28 rfl rfl rfl rfl (pk_nwS hb6) ?_
  obtain ⟨N7, eN⟩ : ∃ X, X = pk_sP (pk_nw N6 (.inl (.int, 100))) 103 7 (some 110) := ⟨_, rfl⟩
  refine pk_Mq eN.symm ?_
  have st7 : c_mst N6 N7 110 7 (.inl (.int, 100)) := by rw [eN]; exact c_mst.mk hl6 (by decide)
  clear eN
  have p0_7 := (st7.2.2.2.1 0 (by decide)).trans p0_6
  have p1_7 := (st7.2.2.2.1 1 (by decide)).trans p1_6
  have p2_7 := (st7.2.2.2.1 2 (by decide)).trans p2_6
  have p3_7 := (st7.2.2.2.1 3 (by decide)).trans p3_6
  have p4_7 := (st7.2.2.2.1 4 (by decide)).trans p4_6
  have p6_7 := (st7.2.2.2.1 6 (by decide)).trans p6_6
  have p7_7 := st7.2.2.1
  have z104_7 := fun j => ((st7.2.1 104 (by decide) (by decide)).I j).trans (z104_6 j)
  have i5_7 := (st7.2.2.2.2.1 5).trans i5_6
  have i8_7 := (st7.2.2.2.2.1 8).trans i8_6
  have hS7 : N7.1 = M.1 ++ ((((((([] ++ [.inl (.int, 62)]) ++ [.inl (.int, 32)]) ++ [.inl (.int, 48)]) ++ [.inl (.int, 48)]) ++ [.inl (.int, 372)]) ++ [.inl (.int, 48)]) ++ [.inl (.int, 100)]) := by rw [st7.1, hS6, List.append_assoc]
  have hl7 : N7.1.length = 111 := by rw [st7.1, List.length_append, hl6]; rfl
  have fr7 : ∀ q, q < 103 → pk_sm q M N7 := fun q hq => (fr6 q hq).tr (st7.2.1 q (by omega) (by omega))
  have hb7 : pk_S N7 103 = some (.inr 7) := pk_ShL hS7 hb
  clear st6 p0_6 p1_6 p2_6 p3_6 p4_6 p6_6 z104_6 i5_6 i8_6 hb6
  refine pk_aload_n dX7_init_61 rfl ?_
  refine pk_bipush (v := nI 48) dX7_init_62 (by decide) ?_
  refine pk_newa (atype := .int) (ty := .int) (N := 48) (t0 := 0) dX7_init_64 rfl (Or.inl ⟨rfl, rfl⟩) ac_int (by decide) (by decide) (by decide) rfl rfl ?_
  rw [hl7]
  refine pk_putF dX7_init_66 (by decide) (by decide) fw_X7_31 rfl rfl rfl rfl (pk_nwS hb7) ?_
  obtain ⟨N8, eN⟩ : ∃ X, X = pk_sP (pk_nw N7 (.inl (.int, 48))) 103 10 (some 111) := ⟨_, rfl⟩
  refine pk_Mq eN.symm ?_
  have st8 : c_mst N7 N8 111 10 (.inl (.int, 48)) := by rw [eN]; exact c_mst.mk hl7 (by decide)
  clear eN
  have p0_8 := (st8.2.2.2.1 0 (by decide)).trans p0_7
  have p1_8 := (st8.2.2.2.1 1 (by decide)).trans p1_7
  have p2_8 := (st8.2.2.2.1 2 (by decide)).trans p2_7
  have p3_8 := (st8.2.2.2.1 3 (by decide)).trans p3_7
  have p4_8 := (st8.2.2.2.1 4 (by decide)).trans p4_7
  have p6_8 := (st8.2.2.2.1 6 (by decide)).trans p6_7
  have p7_8 := (st8.2.2.2.1 7 (by decide)).trans p7_7
  have p10_8 := st8.2.2.1
  have z104_8 := fun j => ((st8.2.1 104 (by decide) (by decide)).I j).trans (z104_7 j)
  have i5_8 := (st8.2.2.2.2.1 5).trans i5_7
  have i8_8 := (st8.2.2.2.2.1 8).trans i8_7
  have hS8 : N8.1 = M.1 ++ (((((((([] ++ [.inl (.int, 62)]) ++ [.inl (.int, 32)]) ++ [.inl (.int, 48)]) ++ [.inl (.int, 48)]) ++ [.inl (.int, 372)]) ++ [.inl (.int, 48)]) ++ [.inl (.int, 100)]) ++ [.inl (.int, 48)]) := by rw [st8.1, hS7, List.append_assoc]
  have hl8 : N8.1.length = 112 := by rw [st8.1, List.length_append, hl7]; rfl
  have fr8 : ∀ q, q < 103 → pk_sm q M N8 := fun q hq => (fr7 q hq).tr (st8.2.1 q (by omega) (by omega))
  have hb8 : pk_S N8 103 = some (.inr 7) := pk_ShL hS8 hb
  clear st7 p0_7 p1_7 p2_7 p3_7 p4_7 p6_7 p7_7 z104_7 i5_7 i8_7 hb7
  refine pk_aload_n dX7_init_69 rfl ?_
  refine pk_bipush (v := nI 62) dX7_init_70 (by decide) ?_
  refine pk_newa (atype := .int) (ty := .int) (N := 62) (t0 := 0) dX7_init_72 rfl (Or.inl ⟨rfl, rfl⟩) ac_int (by decide) (by decide) (by decide) rfl rfl ?_
  rw [hl8]
  refine pk_putF dX7_init_74 (by decide) (by decide) fw_X7_34 rfl rfl rfl rfl (pk_nwS hb8) ?_
  obtain ⟨N9, eN⟩ : ∃ X, X = pk_sP (pk_nw N8 (.inl (.int, 62))) 103 14 (some 112) := ⟨_, rfl⟩
  refine pk_Mq eN.symm ?_
  have st9 : c_mst N8 N9 112 14 (.inl (.int, 62)) := by rw [eN]; exact c_mst.mk hl8 (by decide)
  clear eN
  have p0_9 := (st9.2.2.2.1 0 (by decide)).trans p0_8
  have p1_9 := (st9.2.2.2.1 1 (by decide)).trans p1_8
  have p2_9 := (st9.2.2.2.1 2 (by decide)).trans p2_8
  have p3_9 := (st9.2.2.2.1 3 (by decide)).trans p3_8
  have p4_9 := (st9.2.2.2.1 4 (by decide)).trans p4_8
  have p6_9 := (st9.2.2.2.1 6 (by decide)).trans p6_8
  have p7_9 := (st9.2.2.2.1 7 (by decide)).trans p7_8
  have p10_9 := (st9.2.2.2.1 10 (by decide)).trans p10_8
  have p14_9 := st9.2.2.1
  have z104_9 := fun j => ((st9.2.1 104 (by decide) (by decide)).I j).trans (z104_8 j)
  have i5_9 := (st9.2.2.2.2.1 5).trans i5_8
  have i8_9 := (st9.2.2.2.2.1 8).trans i8_8
  have hS9 : N9.1 = M.1 ++ ((((((((([] ++ [.inl (.int, 62)]) ++ [.inl (.int, 32)]) ++ [.inl (.int, 48)]) ++ [.inl (.int, 48)]) ++ [.inl (.int, 372)]) ++ [.inl (.int, 48)]) ++ [.inl (.int, 100)]) ++ [.inl (.int, 48)]) ++ [.inl (.int, 62)]) := by rw [st9.1, hS8, List.append_assoc]
  have hl9 : N9.1.length = 113 := by rw [st9.1, List.length_append, hl8]; rfl
  have fr9 : ∀ q, q < 103 → pk_sm q M N9 := fun q hq => (fr8 q hq).tr (st9.2.1 q (by omega) (by omega))
  have hb9 : pk_S N9 103 = some (.inr 7) := pk_ShL hS9 hb
  clear st8 p0_8 p1_8 p2_8 p3_8 p4_8 p6_8 p7_8 p10_8 z104_8 i5_8 i8_8 hb8
  refine pk_aload_n dX7_init_77 rfl ?_
  refine pk_sipush (v := nI 372) dX7_init_78 (by decide) ?_
  refine pk_newa (atype := .int) (ty := .int) (N := 372) (t0 := 0) dX7_init_81 rfl (Or.inl ⟨rfl, rfl⟩) ac_int (by decide) (by decide) (by decide) rfl rfl ?_
  rw [hl9]
  refine pk_putF dX7_init_83 (by decide) (by decide) fw_X7_37 rfl rfl rfl rfl (pk_nwS hb9) ?_
  obtain ⟨N10, eN⟩ : ∃ X, X = pk_sP (pk_nw N9 (.inl (.int, 372))) 103 15 (some 113) := ⟨_, rfl⟩
  refine pk_Mq eN.symm ?_
  have st10 : c_mst N9 N10 113 15 (.inl (.int, 372)) := by rw [eN]; exact c_mst.mk hl9 (by decide)
  clear eN
  have p0_10 := (st10.2.2.2.1 0 (by decide)).trans p0_9
  have p1_10 := (st10.2.2.2.1 1 (by decide)).trans p1_9
  have p2_10 := (st10.2.2.2.1 2 (by decide)).trans p2_9
  have p3_10 := (st10.2.2.2.1 3 (by decide)).trans p3_9
  have p4_10 := (st10.2.2.2.1 4 (by decide)).trans p4_9
  have p6_10 := (st10.2.2.2.1 6 (by decide)).trans p6_9
  have p7_10 := (st10.2.2.2.1 7 (by decide)).trans p7_9
  have p10_10 := (st10.2.2.2.1 10 (by decide)).trans p10_9
  have p14_10 := (st10.2.2.2.1 14 (by decide)).trans p14_9
  have p15_10 := st10.2.2.1
  have z104_10 := fun j => ((st10.2.1 104 (by decide) (by decide)).I j).trans (z104_9 j)
  have i5_10 := (st10.2.2.2.2.1 5).trans i5_9
  have i8_10 := (st10.2.2.2.2.1 8).trans i8_9
  have hS10 : N10.1 = M.1 ++ (((((((((([] ++ [.inl (.int, 62)]) ++ [.inl (.int, 32)]) ++ [.inl (.int, 48)]) ++ [.inl (.int, 48)]) ++ [.inl (.int, 372)]) ++ [.inl (.int, 48)]) ++ [.inl (.int, 100)]) ++ [.inl (.int, 48)]) ++ [.inl (.int, 62)]) ++ [.inl (.int, 372)]) := by rw [st10.1, hS9, List.append_assoc]
  have hl10 : N10.1.length = 114 := by rw [st10.1, List.length_append, hl9]; rfl
  have fr10 : ∀ q, q < 103 → pk_sm q M N10 := fun q hq => (fr9 q hq).tr (st10.2.1 q (by omega) (by omega))
  have hb10 : pk_S N10 103 = some (.inr 7) := pk_ShL hS10 hb
  clear st9 p0_9 p1_9 p2_9 p3_9 p4_9 p6_9 p7_9 p10_9 p14_9 z104_9 i5_9 i8_9 hb9
  refine pk_aload_n dX7_init_86 rfl ?_
  refine pk_iconst (v := -1) dX7_init_87 (by decide) ?_
  refine pk_putI dX7_init_88 fl_X7_40 rfl rfl rfl rfl hb10 ?_
  obtain ⟨N11, eN⟩ : ∃ X, X = pk_sI N10 103 16 (-1) := ⟨_, rfl⟩
  refine pk_Mq eN.symm ?_
  have sm11 : ∀ q, q ≠ 103 → pk_sm q N10 N11 := fun q hq => by rw [eN]; exact pk_sm.sI hq
  have i16_11 : pk_I N11 103 16 = -1 := by rw [eN]; exact pk_gS1 rfl rfl rfl
  have i5_11 : pk_I N11 103 5 = 0 := by rw [eN]; exact pk_gS0 (by decide) i5_10
  have i8_11 : pk_I N11 103 8 = 0 := by rw [eN]; exact pk_gS0 (by decide) i8_10
  have p0_11 : pk_P N11 103 0 = some 104 := by rw [eN]; exact p0_10
  have p1_11 : pk_P N11 103 1 = some 105 := by rw [eN]; exact p1_10
  have p2_11 : pk_P N11 103 2 = some 106 := by rw [eN]; exact p2_10
  have p3_11 : pk_P N11 103 3 = some 107 := by rw [eN]; exact p3_10
  have p4_11 : pk_P N11 103 4 = some 108 := by rw [eN]; exact p4_10
  have p6_11 : pk_P N11 103 6 = some 109 := by rw [eN]; exact p6_10
  have p7_11 : pk_P N11 103 7 = some 110 := by rw [eN]; exact p7_10
  have p10_11 : pk_P N11 103 10 = some 111 := by rw [eN]; exact p10_10
  have p14_11 : pk_P N11 103 14 = some 112 := by rw [eN]; exact p14_10
  have p15_11 : pk_P N11 103 15 = some 113 := by rw [eN]; exact p15_10
  have z104_11 := fun j => ((sm11 104 (by decide)).I j).trans (z104_10 j)
  have hS11 : N11.1 = M.1 ++ (((((((((([] ++ [.inl (.int, 62)]) ++ [.inl (.int, 32)]) ++ [.inl (.int, 48)]) ++ [.inl (.int, 48)]) ++ [.inl (.int, 372)]) ++ [.inl (.int, 48)]) ++ [.inl (.int, 100)]) ++ [.inl (.int, 48)]) ++ [.inl (.int, 62)]) ++ [.inl (.int, 372)]) := by rw [eN]; exact hS10
  have hl11 : N11.1.length = 114 := by rw [eN]; exact hl10
  have fr11 : ∀ q, q < 103 → pk_sm q M N11 := fun q hq => (fr10 q hq).tr (sm11 q (by omega))
  have hb11 : pk_S N11 103 = some (.inr 7) := pk_ShL hS11 hb
  clear eN
  refine pk_aload_n dX7_init_91 rfl ?_
  refine pk_iconst (v := nI 4) dX7_init_92 (by decide) ?_
  refine pk_newa (atype := .int) (ty := .int) (N := 4) (t0 := 0) dX7_init_93 rfl (Or.inl ⟨rfl, rfl⟩) ac_int (by decide) (by decide) (by decide) rfl rfl ?_
  rw [hl11]
  refine pk_putF dX7_init_95 (by decide) (by decide) fw_X7_44 rfl rfl rfl rfl (pk_nwS hb11) ?_
  obtain ⟨N12, eN⟩ : ∃ X, X = pk_sP (pk_nw N11 (.inl (.int, 4))) 103 17 (some 114) := ⟨_, rfl⟩
  refine pk_Mq eN.symm ?_
  have st12 : c_mst N11 N12 114 17 (.inl (.int, 4)) := by rw [eN]; exact c_mst.mk hl11 (by decide)
  clear eN
  have p0_12 := (st12.2.2.2.1 0 (by decide)).trans p0_11
  have p1_12 := (st12.2.2.2.1 1 (by decide)).trans p1_11
  have p2_12 := (st12.2.2.2.1 2 (by decide)).trans p2_11
  have p3_12 := (st12.2.2.2.1 3 (by decide)).trans p3_11
  have p4_12 := (st12.2.2.2.1 4 (by decide)).trans p4_11
  have p6_12 := (st12.2.2.2.1 6 (by decide)).trans p6_11
  have p7_12 := (st12.2.2.2.1 7 (by decide)).trans p7_11
  have p10_12 := (st12.2.2.2.1 10 (by decide)).trans p10_11
  have p14_12 := (st12.2.2.2.1 14 (by decide)).trans p14_11
  have p15_12 := (st12.2.2.2.1 15 (by decide)).trans p15_11
  have p17_12 := st12.2.2.1
  have z104_12 := fun j => ((st12.2.1 104 (by decide) (by decide)).I j).trans (z104_11 j)
  have i5_12 := (st12.2.2.2.2.1 5).trans i5_11
  have i8_12 := (st12.2.2.2.2.1 8).trans i8_11
  have i16_12 := (st12.2.2.2.2.1 16).trans i16_11
  have hS12 : N12.1 = M.1 ++ ((((((((((([] ++ [.inl (.int, 62)]) ++ [.inl (.int, 32)]) ++ [.inl (.int, 48)]) ++ [.inl (.int, 48)]) ++ [.inl (.int, 372)]) ++ [.inl (.int, 48)]) ++ [.inl (.int, 100)]) ++ [.inl (.int, 48)]) ++ [.inl (.int, 62)]) ++ [.inl (.int, 372)]) ++ [.inl (.int, 4)]) := by rw [st12.1, hS11, List.append_assoc]
  have hl12 : N12.1.length = 115 := by rw [st12.1, List.length_append, hl11]; rfl
  have fr12 : ∀ q, q < 103 → pk_sm q M N12 := fun q hq => (fr11 q hq).tr (st12.2.1 q (by omega) (by omega))
  have hb12 : pk_S N12 103 = some (.inr 7) := pk_ShL hS12 hb
  clear sm11 p0_11 p1_11 p2_11 p3_11 p4_11 p6_11 p7_11 p10_11 p14_11 p15_11 z104_11 i5_11 i8_11 hb11 i16_11
  refine pk_aload_n dX7_init_98 rfl ?_
  refine pk_iconst (v := nI 4) dX7_init_99 (by decide) ?_
  refine pk_newa (atype := .int) (ty := .int) (N := 4) (t0 := 0) dX7_init_100 rfl (Or.inl ⟨rfl, rfl⟩) ac_int (by decide) (by decide) (by decide) rfl rfl ?_
  rw [hl12]
  refine pk_putF dX7_init_102 (by decide) (by decide) fw_X7_47 rfl rfl rfl rfl (pk_nwS hb12) ?_
  obtain ⟨N13, eN⟩ : ∃ X, X = pk_sP (pk_nw N12 (.inl (.int, 4))) 103 18 (some 115) := ⟨_, rfl⟩
  refine pk_Mq eN.symm ?_
  have st13 : c_mst N12 N13 115 18 (.inl (.int, 4)) := by rw [eN]; exact c_mst.mk hl12 (by decide)
  clear eN
  have p0_13 := (st13.2.2.2.1 0 (by decide)).trans p0_12
  have p1_13 := (st13.2.2.2.1 1 (by decide)).trans p1_12
  have p2_13 := (st13.2.2.2.1 2 (by decide)).trans p2_12
  have p3_13 := (st13.2.2.2.1 3 (by decide)).trans p3_12
  have p4_13 := (st13.2.2.2.1 4 (by decide)).trans p4_12
  have p6_13 := (st13.2.2.2.1 6 (by decide)).trans p6_12
  have p7_13 := (st13.2.2.2.1 7 (by decide)).trans p7_12
  have p10_13 := (st13.2.2.2.1 10 (by decide)).trans p10_12
  have p14_13 := (st13.2.2.2.1 14 (by decide)).trans p14_12
  have p15_13 := (st13.2.2.2.1 15 (by decide)).trans p15_12
  have p17_13 := (st13.2.2.2.1 17 (by decide)).trans p17_12
  have p18_13 := st13.2.2.1
  have z104_13 := fun j => ((st13.2.1 104 (by decide) (by decide)).I j).trans (z104_12 j)
  have z115_13 := st13.2.2.2.2.2.1
  have i5_13 := (st13.2.2.2.2.1 5).trans i5_12
  have i8_13 := (st13.2.2.2.2.1 8).trans i8_12
  have i16_13 := (st13.2.2.2.2.1 16).trans i16_12
  have hS13 : N13.1 = M.1 ++ (((((((((((([] ++ [.inl (.int, 62)]) ++ [.inl (.int, 32)]) ++ [.inl (.int, 48)]) ++ [.inl (.int, 48)]) ++ [.inl (.int, 372)]) ++ [.inl (.int, 48)]) ++ [.inl (.int, 100)]) ++ [.inl (.int, 48)]) ++ [.inl (.int, 62)]) ++ [.inl (.int, 372)]) ++ [.inl (.int, 4)]) ++ [.inl (.int, 4)]) := by rw [st13.1, hS12, List.append_assoc]
  have hl13 : N13.1.length = 116 := by rw [st13.1, List.length_append, hl12]; rfl
  have fr13 : ∀ q, q < 103 → pk_sm q M N13 := fun q hq => (fr12 q hq).tr (st13.2.1 q (by omega) (by omega))
  have hb13 : pk_S N13 103 = some (.inr 7) := pk_ShL hS13 hb
  clear st12 p0_12 p1_12 p2_12 p3_12 p4_12 p6_12 p7_12 p10_12 p14_12 p15_12 p17_12 z104_12 i5_12 i8_12 hb12 i16_12
  refine pk_aload_n dX7_init_105 rfl ?_
  refine pk_bipush (v := nI 96) dX7_init_106 (by decide) ?_
  refine pk_newa (atype := .long) (ty := .long) (N := 96) (t0 := 2) dX7_init_108 rfl (Or.inr (Or.inr ⟨rfl, rfl⟩)) ac_long (by decide) (by decide) (by decide) rfl rfl ?_
  rw [hl13]
  refine pk_putF dX7_init_110 (by decide) (by decide) fw_X7_50 rfl rfl rfl rfl (pk_nwS hb13) ?_
  obtain ⟨N14, eN⟩ : ∃ X, X = pk_sP (pk_nw N13 (.inl (.long, 96))) 103 19 (some 116) := ⟨_, rfl⟩
  refine pk_Mq eN.symm ?_
  have st14 : c_mst N13 N14 116 19 (.inl (.long, 96)) := by rw [eN]; exact c_mst.mk hl13 (by decide)
  clear eN
  have p0_14 := (st14.2.2.2.1 0 (by decide)).trans p0_13
  have p1_14 := (st14.2.2.2.1 1 (by decide)).trans p1_13
  have p2_14 := (st14.2.2.2.1 2 (by decide)).trans p2_13
  have p3_14 := (st14.2.2.2.1 3 (by decide)).trans p3_13
  have p4_14 := (st14.2.2.2.1 4 (by decide)).trans p4_13
  have p6_14 := (st14.2.2.2.1 6 (by decide)).trans p6_13
  have p7_14 := (st14.2.2.2.1 7 (by decide)).trans p7_13
  have p10_14 := (st14.2.2.2.1 10 (by decide)).trans p10_13
  have p14_14 := (st14.2.2.2.1 14 (by decide)).trans p14_13
  have p15_14 := (st14.2.2.2.1 15 (by decide)).trans p15_13
  have p17_14 := (st14.2.2.2.1 17 (by decide)).trans p17_13
  have p18_14 := (st14.2.2.2.1 18 (by decide)).trans p18_13
  have p19_14 := st14.2.2.1
  have z104_14 := fun j => ((st14.2.1 104 (by decide) (by decide)).I j).trans (z104_13 j)
  have z115_14 := fun j => ((st14.2.1 115 (by decide) (by decide)).I j).trans (z115_13 j)
  have z116_14 := st14.2.2.2.2.2.2
  have i5_14 := (st14.2.2.2.2.1 5).trans i5_13
  have i8_14 := (st14.2.2.2.2.1 8).trans i8_13
  have i16_14 := (st14.2.2.2.2.1 16).trans i16_13
  have hS14 : N14.1 = M.1 ++ ((((((((((((([] ++ [.inl (.int, 62)]) ++ [.inl (.int, 32)]) ++ [.inl (.int, 48)]) ++ [.inl (.int, 48)]) ++ [.inl (.int, 372)]) ++ [.inl (.int, 48)]) ++ [.inl (.int, 100)]) ++ [.inl (.int, 48)]) ++ [.inl (.int, 62)]) ++ [.inl (.int, 372)]) ++ [.inl (.int, 4)]) ++ [.inl (.int, 4)]) ++ [.inl (.long, 96)]) := by rw [st14.1, hS13, List.append_assoc]
  have hl14 : N14.1.length = 117 := by rw [st14.1, List.length_append, hl13]; rfl
  have fr14 : ∀ q, q < 103 → pk_sm q M N14 := fun q hq => (fr13 q hq).tr (st14.2.1 q (by omega) (by omega))
  have hb14 : pk_S N14 103 = some (.inr 7) := pk_ShL hS14 hb
  clear st13 p0_13 p1_13 p2_13 p3_13 p4_13 p6_13 p7_13 p10_13 p14_13 p15_13 p17_13 p18_13 z104_13 z115_13 i5_13 i8_13 hb13 i16_13
  refine pk_aload_n dX7_init_113 rfl ?_
  refine pk_bipush (v := nI 24) dX7_init_114 (by decide) ?_
  refine pk_newa (atype := .long) (ty := .long) (N := 24) (t0 := 2) dX7_init_116 rfl (Or.inr (Or.inr ⟨rfl, rfl⟩)) ac_long (by decide) (by decide) (by decide) rfl rfl ?_
  rw [hl14]
  refine pk_putF dX7_init_118 (by decide) (by decide) fw_X7_54 rfl rfl rfl rfl (pk_nwS hb14) ?_
  obtain ⟨N15, eN⟩ : ∃ X, X = pk_sP (pk_nw N14 (.inl (.long, 24))) 103 20 (some 117) := ⟨_, rfl⟩
  refine pk_Mq eN.symm ?_
  have st15 : c_mst N14 N15 117 20 (.inl (.long, 24)) := by rw [eN]; exact c_mst.mk hl14 (by decide)
  clear eN
  have p0_15 := (st15.2.2.2.1 0 (by decide)).trans p0_14
  have p1_15 := (st15.2.2.2.1 1 (by decide)).trans p1_14
  have p2_15 := (st15.2.2.2.1 2 (by decide)).trans p2_14
  have p3_15 := (st15.2.2.2.1 3 (by decide)).trans p3_14
  have p4_15 := (st15.2.2.2.1 4 (by decide)).trans p4_14
  have p6_15 := (st15.2.2.2.1 6 (by decide)).trans p6_14
  have p7_15 := (st15.2.2.2.1 7 (by decide)).trans p7_14
  have p10_15 := (st15.2.2.2.1 10 (by decide)).trans p10_14
  have p14_15 := (st15.2.2.2.1 14 (by decide)).trans p14_14
  have p15_15 := (st15.2.2.2.1 15 (by decide)).trans p15_14
  have p17_15 := (st15.2.2.2.1 17 (by decide)).trans p17_14
  have p18_15 := (st15.2.2.2.1 18 (by decide)).trans p18_14
  have p19_15 := (st15.2.2.2.1 19 (by decide)).trans p19_14
  have p20_15 := st15.2.2.1
  have z104_15 := fun j => ((st15.2.1 104 (by decide) (by decide)).I j).trans (z104_14 j)
  have z115_15 := fun j => ((st15.2.1 115 (by decide) (by decide)).I j).trans (z115_14 j)
  have z116_15 := fun j => ((st15.2.1 116 (by decide) (by decide)).J j).trans (z116_14 j)
  have i5_15 := (st15.2.2.2.2.1 5).trans i5_14
  have i8_15 := (st15.2.2.2.2.1 8).trans i8_14
  have i16_15 := (st15.2.2.2.2.1 16).trans i16_14
  have hS15 : N15.1 = M.1 ++ (((((((((((((([] ++ [.inl (.int, 62)]) ++ [.inl (.int, 32)]) ++ [.inl (.int, 48)]) ++ [.inl (.int, 48)]) ++ [.inl (.int, 372)]) ++ [.inl (.int, 48)]) ++ [.inl (.int, 100)]) ++ [.inl (.int, 48)]) ++ [.inl (.int, 62)]) ++ [.inl (.int, 372)]) ++ [.inl (.int, 4)]) ++ [.inl (.int, 4)]) ++ [.inl (.long, 96)]) ++ [.inl (.long, 24)]) := by rw [st15.1, hS14, List.append_assoc]
  have hl15 : N15.1.length = 118 := by rw [st15.1, List.length_append, hl14]; rfl
  have fr15 : ∀ q, q < 103 → pk_sm q M N15 := fun q hq => (fr14 q hq).tr (st15.2.1 q (by omega) (by omega))
  have hb15 : pk_S N15 103 = some (.inr 7) := pk_ShL hS15 hb
  clear st14 p0_14 p1_14 p2_14 p3_14 p4_14 p6_14 p7_14 p10_14 p14_14 p15_14 p17_14 p18_14 p19_14 z104_14 z115_14 z116_14 i5_14 i8_14 hb14 i16_14
  have h104 : pk_S N15 104 = some (.inl (.int, 62)) := pk_ShR hS15 (i := 0) hlen rfl rfl
  have h114 : pk_S N15 114 = some (.inl (.int, 4)) := pk_ShR hS15 (i := 10) hlen rfl rfl
  refine pk_aload_n dX7_init_121 rfl ?_
  refine pk_getP dX7_init_122 fl_X7_7 rfl hb15 p0_15 ?_
  refine pk_iconst (v := nI 0) dX7_init_125 (by decide) ?_
  refine pk_iconst (v := nI 4) dX7_init_126 (by decide) ?_
  refine pk_astN dX7_init_127 h104 (by omega) (by omega) (by omega) ?_
  refine pk_aload_n dX7_init_128 rfl ?_
  refine pk_getP dX7_init_129 fl_X7_7 rfl hb15 p0_15 ?_
  refine pk_iconst (v := nI 1) dX7_init_132 (by decide) ?_
  refine pk_iconst (v := nI 3) dX7_init_133 (by decide) ?_
  refine pk_astN dX7_init_134 h104 (by omega) (by omega) (by omega) ?_
  refine pk_aload_n dX7_init_135 rfl ?_
  refine pk_getP dX7_init_136 fl_X7_7 rfl hb15 p0_15 ?_
  refine pk_iconst (v := nI 2) dX7_init_139 (by decide) ?_
  refine pk_iconst (v := nI 1) dX7_init_140 (by decide) ?_
  refine pk_astN dX7_init_141 h104 (by omega) (by omega) (by omega) ?_
  refine pk_aload_n dX7_init_142 rfl ?_
  refine pk_getP dX7_init_143 fl_X7_7 rfl hb15 p0_15 ?_
  refine pk_iconst (v := nI 3) dX7_init_146 (by decide) ?_
  refine pk_sipush (v := nI 1234) dX7_init_147 (by decide) ?_
  refine pk_astN dX7_init_150 h104 (by omega) (by omega) (by omega) ?_
  refine pk_aload_n dX7_init_151 rfl ?_
  refine pk_getP dX7_init_152 fl_X7_7 rfl hb15 p0_15 ?_
  refine pk_bipush (v := nI 9) dX7_init_155 (by decide) ?_
  refine pk_sipush (v := nI 4080) dX7_init_157 (by decide) ?_
  refine pk_astN dX7_init_160 h104 (by omega) (by omega) (by omega) ?_
  refine pk_aload_n dX7_init_161 rfl ?_
  refine pk_getP dX7_init_162 fl_X7_7 rfl hb15 p0_15 ?_
  refine pk_bipush (v := nI 10) dX7_init_165 (by decide) ?_
  refine pk_sipush (v := nI 3855) dX7_init_167 (by decide) ?_
  refine pk_astN dX7_init_170 h104 (by omega) (by omega) (by omega) ?_
  refine pk_aload_n dX7_init_171 rfl ?_
  refine pk_getP dX7_init_172 fl_X7_7 rfl hb15 p0_15 ?_
  refine pk_bipush (v := nI 11) dX7_init_175 (by decide) ?_
  refine pk_sipush (v := nI 255) dX7_init_177 (by decide) ?_
  refine pk_astN dX7_init_180 h104 (by omega) (by omega) (by omega) ?_
  refine pk_aload_n dX7_init_181 rfl ?_
  refine pk_getP dX7_init_182 fl_X7_7 rfl hb15 p0_15 ?_
  refine pk_bipush (v := nI 12) dX7_init_185 (by decide) ?_
  refine pk_sipush (v := nI 2184) dX7_init_187 (by decide) ?_
  refine pk_astN dX7_init_190 h104 (by omega) (by omega) (by omega) ?_
  refine pk_aload_n dX7_init_191 rfl ?_
  refine pk_getP dX7_init_192 fl_X7_7 rfl hb15 p0_15 ?_
  refine pk_bipush (v := nI 13) dX7_init_195 (by decide) ?_
  refine pk_sipush (v := nI 1092) dX7_init_197 (by decide) ?_
  refine pk_astN dX7_init_200 h104 (by omega) (by omega) (by omega) ?_
  refine pk_iconst (v := nI 0) dX7_init_201 (by decide) ?_
  refine pk_istore_n dX7_init_202 rfl rfl ?_
  obtain ⟨Q0, eQ⟩ : ∃ X, X = (pk_sI (pk_sI (pk_sI (pk_sI (pk_sI (pk_sI (pk_sI (pk_sI (pk_sI N15 104 0 (nI 4)) 104 1 (nI 3)) 104 2 (nI 1)) 104 3 (nI 1234)) 104 9 (nI 4080)) 104 10 (nI 3855)) 104 11 (nI 255)) 104 12 (nI 2184)) 104 13 (nI 1092)) := ⟨_, rfl⟩
  refine pk_Mq eQ.symm ?_
  have hat : pm_At Q0 104 0 sp_A0 := by
    rw [eQ]
    refine pm_At.mk0 (pk_gS0 (by omega) (pk_gS0 (by omega) (pk_gS0 (by omega) (pk_gS0 (by omega) (pk_gS0 (by omega) (pk_gS0 (by omega) (pk_gS0 (by omega) (pk_gS0 (by omega) (pk_gS1 rfl rfl rfl))))))))) (pk_gS0 (by omega) (pk_gS0 (by omega) (pk_gS0 (by omega) (pk_gS0 (by omega) (pk_gS0 (by omega) (pk_gS0 (by omega) (pk_gS0 (by omega) (pk_gS1 rfl rfl rfl)))))))) (pk_gS0 (by omega) (pk_gS0 (by omega) (pk_gS0 (by omega) (pk_gS0 (by omega) (pk_gS0 (by omega) (pk_gS0 (by omega) (pk_gS1 rfl rfl rfl))))))) (pk_gS0 (by omega) (pk_gS0 (by omega) (pk_gS0 (by omega) (pk_gS0 (by omega) (pk_gS0 (by omega) (pk_gS1 rfl rfl rfl)))))) (fun i hi => (pk_gS0 (by omega) (pk_gS0 (by omega) (pk_gS0 (by omega) (pk_gS0 (by omega) (pk_gS0 (by omega) (pk_gS0 (by omega) (pk_gS0 (by omega) (pk_gS0 (by omega) (pk_gS0 (by omega) (z104_15 _))))))))))) (fun i hi => ?_) (fun q hq => (pk_gS0 (by omega) (pk_gS0 (by omega) (pk_gS0 (by omega) (pk_gS0 (by omega) (pk_gS0 (by omega) (pk_gS0 (by omega) (pk_gS0 (by omega) (pk_gS0 (by omega) (pk_gS0 (by omega) (z104_15 _)))))))))))
    obtain rfl | rfl | rfl | rfl | rfl : i = 0 ∨ i = 1 ∨ i = 2 ∨ i = 3 ∨ i = 4 := by omega
    · exact (pk_gS0 (by omega) (pk_gS0 (by omega) (pk_gS0 (by omega) (pk_gS0 (by omega) (pk_gS1 rfl rfl rfl)))))
    · exact (pk_gS0 (by omega) (pk_gS0 (by omega) (pk_gS0 (by omega) (pk_gS1 rfl rfl rfl))))
    · exact (pk_gS0 (by omega) (pk_gS0 (by omega) (pk_gS1 rfl rfl rfl)))
    · exact (pk_gS0 (by omega) (pk_gS1 rfl rfl rfl))
    · exact (pk_gS1 rfl rfl rfl)
  have hQ1 : Q0.1 = N15.1 := by rw [eQ]; rfl
  have hQs : ∀ q, q ≠ 104 → pk_sm q N15 Q0 := fun q hq => by rw [eQ]; exact (((((((((pk_sm.rf q N15).tr (pk_sm.sI hq)).tr (pk_sm.sI hq)).tr (pk_sm.sI hq)).tr (pk_sm.sI hq)).tr (pk_sm.sI hq)).tr (pk_sm.sI hq)).tr (pk_sm.sI hq)).tr (pk_sm.sI hq)).tr (pk_sm.sI hq)
  clear eQ
  refine pk_fgt (ls' := [some (.ref 103), some (.int (nI 0))]) (by repeat first | exact trivial | refine ⟨rfl, ?_⟩) ?_
  refine pk_wf (fun z : Nat × pk_M => 4 - z.1) (fun z : Nat × pk_M => z.1 ≤ 4 ∧ z.2.1 = N15.1 ∧ (∀ q, q ≠ 114 → pk_sm q Q0 z.2) ∧ ∀ j, j < z.1 → pk_I z.2 114 j = -1) (fun z => z.2) (fun z => [some (.ref 103), some (.int (nI z.1))]) ?_ (0, Q0) ⟨Nat.zero_le _, hQ1, fun q _ => pk_sm.rf q Q0, fun j hj => absurd hj (Nat.not_lt_zero j)⟩
  rintro ⟨j, N⟩ ⟨hj, hN1, hNs, hNv⟩ K
  dsimp only at hj hN1 hNs hNv K ⊢
  have hSe : ∀ q, pk_S N q = pk_S N15 q := fun q => by unfold pk_S; rw [hN1]
  have hall : ∀ q, q ≠ 104 → q ≠ 114 → pk_sm q N15 N := fun q q1 q2 => (hQs q q1).tr (hNs q q2)
  have h3 := hall 103 (by decide) (by decide)
  refine pk_iload_n dX7_init_203 rfl ?_
  refine pk_iconst (v := nI 4) dX7_init_204 (by decide) ?_
  first | refine pk_geN (tgt := 221) dX7_init_205 (by decide) (by omega) (by omega) (fun c_205 => ?_) (fun c_205 => ?_) | refine pk_icmp_ge (tgt := 221) dX7_init_205 (by decide) (fun c_205 => ?_) (fun c_205 => ?_)
  · refine pk_retv dX7_init_221 ?_
    have e4 : j = 4 := by omega
    subst e4
    exact ⟨rfl, ⟨hN1.trans hS15, fun q hq => (fr15 q hq).tr (hall q (by omega) (by omega))⟩, ⟨⟨(h3.P 0).trans p0_15, (h3.P 1).trans p1_15, (h3.P 2).trans p2_15, (h3.P 3).trans p3_15, (h3.P 4).trans p4_15, (h3.P 6).trans p6_15, (h3.P 7).trans p7_15⟩, (h3.P 10).trans p10_15, (h3.P 14).trans p14_15, (h3.P 15).trans p15_15, (h3.P 17).trans p17_15, (h3.P 18).trans p18_15, (h3.P 19).trans p19_15, (h3.P 20).trans p20_15⟩, fun q hq => ((hNs 104 (by decide)).I _).trans (hat q hq), (h3.I 5).trans i5_15, (h3.I 8).trans i8_15, (h3.I 16).trans i16_15, fun k hk => ⟨hNv k hk, ((hall 115 (by decide) (by decide)).I k).trans (z115_15 k)⟩, fun q => ((hall 116 (by decide) (by decide)).J q).trans (z116_15 q)⟩
  · refine pk_aload_n dX7_init_208 rfl ?_
    refine pk_getP dX7_init_209 fl_X7_44 rfl ((hSe 103).trans hb15) ((h3.P 17).trans p17_15) ?_
    refine pk_iload_n dX7_init_212 rfl ?_
    refine pk_iconst (v := -1) dX7_init_213 (by decide) ?_
    refine pk_astN dX7_init_214 ((hSe 114).trans h114) (by omega) (by omega) (by omega) ?_
    first | refine pk_inc1 dX7_init_215 rfl rfl ?_ | refine pk_iinc dX7_init_215 rfl rfl rfl ?_
    refine pk_goto (tgt := 203) dX7_init_218 (by decide) ?_
    exact K (j + 1, _) ⟨by dsimp only; omega, hN1, fun q hq => (hNs q hq).tr (pk_sm.sI hq), fun q hq => by
      dsimp only at hq
      by_cases e : q = j
      · subst e
        exact pk_gS1 rfl rfl rfl
      · exact pk_gS0 (by omega) (hNv q (by omega))⟩ (by dsimp only; omega)
