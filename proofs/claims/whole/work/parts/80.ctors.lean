/-! Constructors of the small classes. -/
theorem pk_sPl (M : pk_M) (p k : Nat) (x : Option Nat) : (pk_sP M p k x).1.length = M.1.length := rfl
theorem pk_sIl (M : pk_M) (p k : Nat) (x : Int32) : (pk_sI M p k x).1.length = M.1.length := rfl
theorem pk_gPI {M : pk_M} {p k q j : Nat} {v : Option Nat} {x : Int32} (e : pk_I M q j = x) : pk_I (pk_sP M p k v) q j = x := e
theorem pk_gPJ {M : pk_M} {p k q j : Nat} {v : Option Nat} {x : Int64} (e : pk_J M q j = x) : pk_J (pk_sP M p k v) q j = x := e
theorem pk_gIJ {M : pk_M} {p k q j : Nat} {v : Int32} {x : Int64} (e : pk_J M q j = x) : pk_J (pk_sI M p k v) q j = x := e
theorem pk_gIP {M : pk_M} {p k q j : Nat} {v : Int32} {x : Option Nat} (e : pk_P M q j = x) : pk_P (pk_sI M p k v) q j = x := e

set_option maxRecDepth 100000 in
set_option maxHeartbeats 4000000 in
theorem e_X1_init {Γ : pk_T} {M : pk_M} {b : Nat} (hb : pk_S M b = some (.inr 1)) (hlen : M.1.length = b + 1) (hb5 : 5 ≤ b) : pk_E Γ yX1_init cX1_init 1 none 1 1 32 M [.ref b] (fun r M' => r = none ∧ pk_gr b M M' [.inl (.int, 32)] ∧ c_Lo M' b) := by
  refine pk_meth (own := RX1) (ini := true) [some (.ref b)] (by decide +kernel) rfl (by decide +kernel) rfl rfl ?_
  refine pk_aload_n dX1_init_0 rfl ?_
  refine pk_objInit dX1_init_1 mo_X1_3 oi_inst oi_code rfl rfl rfl ?_
  refine pk_aload_n dX1_init_4 rfl ?_
  refine pk_bipush (v := nI 32) dX1_init_5 (by decide) ?_
  refine pk_newa (atype := .int) (ty := .int) (N := 32) (t0 := 0) dX1_init_7 rfl (Or.inl ⟨rfl, rfl⟩) ac_int (by decide) (by decide) (by decide) rfl rfl ?_
  simp only [pk_nwl, pk_sPl, pk_sIl, hlen]
  refine pk_putF dX1_init_9 (by decide) (by decide) fw_X1_9 rfl rfl rfl rfl (pk_nwS hb) ?_
  refine pk_retv dX1_init_12 ?_
  exact ⟨rfl, ⟨(by simp [pk_nw, pk_sP, pk_sI]), fun q hq => (((pk_sm.rf q M).tr (pk_sm.nw (by simp only [pk_nwl, pk_sPl, pk_sIl, hlen] <;> omega))).tr (pk_sm.sP (by omega)))⟩, (pk_gP1 rfl rfl rfl)⟩

set_option maxRecDepth 100000 in
set_option maxHeartbeats 4000000 in
theorem e_X0_init {Γ : pk_T} {M : pk_M} {b : Nat} (hb : pk_S M b = some (.inr 0)) (hlen : M.1.length = b + 1) (hb5 : 5 ≤ b) : pk_E Γ yX0_init cX0_init 1 none 1 5 240 M [.ref b] (fun r M' => r = none ∧ pk_gr b M M' [.inl (.int, 48), .inl (.int, 48), .inl (.int, 48), .inl (.int, 48), .inl (.boolean, 48)] ∧ c_Ar M' b) := by
  refine pk_meth (own := RX0) (ini := true) [some (.ref b)] (by decide +kernel) rfl (by decide +kernel) rfl rfl ?_
  refine pk_aload_n dX0_init_0 rfl ?_
  refine pk_objInit dX0_init_1 mo_X0_3 oi_inst oi_code rfl rfl rfl ?_
  refine pk_aload_n dX0_init_4 rfl ?_
  refine pk_bipush (v := nI 48) dX0_init_5 (by decide) ?_
  refine pk_newa (atype := .int) (ty := .int) (N := 48) (t0 := 0) dX0_init_7 rfl (Or.inl ⟨rfl, rfl⟩) ac_int (by decide) (by decide) (by decide) rfl rfl ?_
  simp only [pk_nwl, pk_sPl, pk_sIl, hlen]
  refine pk_putF dX0_init_9 (by decide) (by decide) fw_X0_9 rfl rfl rfl rfl (pk_nwS hb) ?_
  refine pk_aload_n dX0_init_12 rfl ?_
  refine pk_bipush (v := nI 48) dX0_init_13 (by decide) ?_
  refine pk_newa (atype := .int) (ty := .int) (N := 48) (t0 := 0) dX0_init_15 rfl (Or.inl ⟨rfl, rfl⟩) ac_int (by decide) (by decide) (by decide) rfl rfl ?_
  simp only [pk_nwl, pk_sPl, pk_sIl, hlen]
  refine pk_putF dX0_init_17 (by decide) (by decide) fw_X0_15 rfl rfl rfl rfl (pk_nwS (pk_nwS hb)) ?_
  refine pk_aload_n dX0_init_20 rfl ?_
  refine pk_bipush (v := nI 48) dX0_init_21 (by decide) ?_
  refine pk_newa (atype := .int) (ty := .int) (N := 48) (t0 := 0) dX0_init_23 rfl (Or.inl ⟨rfl, rfl⟩) ac_int (by decide) (by decide) (by decide) rfl rfl ?_
  simp only [pk_nwl, pk_sPl, pk_sIl, hlen]
  refine pk_putF dX0_init_25 (by decide) (by decide) fw_X0_18 rfl rfl rfl rfl (pk_nwS (pk_nwS (pk_nwS hb))) ?_
  refine pk_aload_n dX0_init_28 rfl ?_
  refine pk_bipush (v := nI 48) dX0_init_29 (by decide) ?_
  refine pk_newa (atype := .int) (ty := .int) (N := 48) (t0 := 0) dX0_init_31 rfl (Or.inl ⟨rfl, rfl⟩) ac_int (by decide) (by decide) (by decide) rfl rfl ?_
  simp only [pk_nwl, pk_sPl, pk_sIl, hlen]
  refine pk_putF dX0_init_33 (by decide) (by decide) fw_X0_21 rfl rfl rfl rfl (pk_nwS (pk_nwS (pk_nwS (pk_nwS hb)))) ?_
  refine pk_aload_n dX0_init_36 rfl ?_
  refine pk_bipush (v := nI 48) dX0_init_37 (by decide) ?_
  refine pk_newa (atype := .boolean) (ty := .boolean) (N := 48) (t0 := 1) dX0_init_39 rfl (Or.inr (Or.inl ⟨rfl, rfl⟩)) ac_boolean (by decide) (by decide) (by decide) rfl rfl ?_
  simp only [pk_nwl, pk_sPl, pk_sIl, hlen]
  refine pk_putF dX0_init_41 (by decide) (by decide) fw_X0_24 rfl rfl rfl rfl (pk_nwS (pk_nwS (pk_nwS (pk_nwS (pk_nwS hb))))) ?_
  refine pk_aload_n dX0_init_44 rfl ?_
  refine pk_iconst (v := nI 0) dX0_init_45 (by decide) ?_
  refine pk_putI dX0_init_46 fl_X0_28 rfl rfl rfl rfl (pk_nwS (pk_nwS (pk_nwS (pk_nwS (pk_nwS hb))))) ?_
  refine pk_aload_n dX0_init_49 rfl ?_
  refine pk_iconst (v := nI 0) dX0_init_50 (by decide) ?_
  refine pk_putI dX0_init_51 fl_X0_32 rfl rfl rfl rfl (pk_nwS (pk_nwS (pk_nwS (pk_nwS (pk_nwS hb))))) ?_
  refine pk_retv dX0_init_54 ?_
  exact ⟨rfl, ⟨(by simp [pk_nw, pk_sP, pk_sI]), fun q hq => (((((((((((((pk_sm.rf q M).tr (pk_sm.nw (by simp only [pk_nwl, pk_sPl, pk_sIl, hlen] <;> omega))).tr (pk_sm.sP (by omega))).tr (pk_sm.nw (by simp only [pk_nwl, pk_sPl, pk_sIl, hlen] <;> omega))).tr (pk_sm.sP (by omega))).tr (pk_sm.nw (by simp only [pk_nwl, pk_sPl, pk_sIl, hlen] <;> omega))).tr (pk_sm.sP (by omega))).tr (pk_sm.nw (by simp only [pk_nwl, pk_sPl, pk_sIl, hlen] <;> omega))).tr (pk_sm.sP (by omega))).tr (pk_sm.nw (by simp only [pk_nwl, pk_sPl, pk_sIl, hlen] <;> omega))).tr (pk_sm.sP (by omega))).tr (pk_sm.sI (by omega))).tr (pk_sm.sI (by omega)))⟩, fun k hk => by
    obtain rfl | rfl | rfl | rfl | rfl : k = 0 ∨ k = 1 ∨ k = 2 ∨ k = 3 ∨ k = 4 := by omega
    · exact (pk_gIP (pk_gIP (pk_gP0 (by omega) (pk_gNP (by simp only [pk_nwl, pk_sPl, pk_sIl, hlen] <;> omega) (pk_gP0 (by omega) (pk_gNP (by simp only [pk_nwl, pk_sPl, pk_sIl, hlen] <;> omega) (pk_gP0 (by omega) (pk_gNP (by simp only [pk_nwl, pk_sPl, pk_sIl, hlen] <;> omega) (pk_gP0 (by omega) (pk_gNP (by simp only [pk_nwl, pk_sPl, pk_sIl, hlen] <;> omega) (pk_gP1 rfl rfl rfl)))))))))))
    · exact (pk_gIP (pk_gIP (pk_gP0 (by omega) (pk_gNP (by simp only [pk_nwl, pk_sPl, pk_sIl, hlen] <;> omega) (pk_gP0 (by omega) (pk_gNP (by simp only [pk_nwl, pk_sPl, pk_sIl, hlen] <;> omega) (pk_gP0 (by omega) (pk_gNP (by simp only [pk_nwl, pk_sPl, pk_sIl, hlen] <;> omega) (pk_gP1 rfl rfl rfl)))))))))
    · exact (pk_gIP (pk_gIP (pk_gP0 (by omega) (pk_gNP (by simp only [pk_nwl, pk_sPl, pk_sIl, hlen] <;> omega) (pk_gP0 (by omega) (pk_gNP (by simp only [pk_nwl, pk_sPl, pk_sIl, hlen] <;> omega) (pk_gP1 rfl rfl rfl)))))))
    · exact (pk_gIP (pk_gIP (pk_gP0 (by omega) (pk_gNP (by simp only [pk_nwl, pk_sPl, pk_sIl, hlen] <;> omega) (pk_gP1 rfl rfl rfl)))))
    · exact (pk_gIP (pk_gIP (pk_gP1 rfl rfl rfl)))⟩

set_option maxRecDepth 100000 in
set_option maxHeartbeats 4000000 in
theorem e_X5_init {Γ : pk_T} {M : pk_M} {b : Nat} (hb : pk_S M b = some (.inr 5)) (hlen : M.1.length = b + 1) (hb5 : 5 ≤ b) : pk_E Γ yX5_init cX5_init 1 none 1 2 148 M [.ref b] (fun r M' => r = none ∧ pk_gr b M M' [.inl (.int, 100), .inl (.int, 48)] ∧ c_Ta M' b) := by
  refine pk_meth (own := RX5) (ini := true) [some (.ref b)] (by decide +kernel) rfl (by decide +kernel) rfl rfl ?_
  refine pk_aload_n dX5_init_0 rfl ?_
  refine pk_objInit dX5_init_1 mo_X5_3 oi_inst oi_code rfl rfl rfl ?_
  refine pk_aload_n dX5_init_4 rfl ?_
  refine pk_bipush (v := nI 100) dX5_init_5 (by decide) ?_
  refine pk_newa (atype := .int) (ty := .int) (N := 100) (t0 := 0) dX5_init_7 rfl (Or.inl ⟨rfl, rfl⟩) ac_int (by decide) (by decide) (by decide) rfl rfl ?_
  simp only [pk_nwl, pk_sPl, pk_sIl, hlen]
  refine pk_putF dX5_init_9 (by decide) (by decide) fw_X5_9 rfl rfl rfl rfl (pk_nwS hb) ?_
  refine pk_aload_n dX5_init_12 rfl ?_
  refine pk_bipush (v := nI 48) dX5_init_13 (by decide) ?_
  refine pk_newa (atype := .int) (ty := .int) (N := 48) (t0 := 0) dX5_init_15 rfl (Or.inl ⟨rfl, rfl⟩) ac_int (by decide) (by decide) (by decide) rfl rfl ?_
  simp only [pk_nwl, pk_sPl, pk_sIl, hlen]
  refine pk_putF dX5_init_17 (by decide) (by decide) fw_X5_15 rfl rfl rfl rfl (pk_nwS (pk_nwS hb)) ?_
  refine pk_aload_n dX5_init_20 rfl ?_
  refine pk_iconst (v := nI 0) dX5_init_21 (by decide) ?_
  refine pk_putI dX5_init_22 fl_X5_18 rfl rfl rfl rfl (pk_nwS (pk_nwS hb)) ?_
  refine pk_aload_n dX5_init_25 rfl ?_
  refine pk_iconst (v := nI 0) dX5_init_26 (by decide) ?_
  refine pk_putI dX5_init_27 fl_X5_22 rfl rfl rfl rfl (pk_nwS (pk_nwS hb)) ?_
  refine pk_aload_n dX5_init_30 rfl ?_
  refine pk_iconst (v := nI 0) dX5_init_31 (by decide) ?_
  refine pk_putI dX5_init_32 fl_X5_25 rfl rfl rfl rfl (pk_nwS (pk_nwS hb)) ?_
  refine pk_aload_n dX5_init_35 rfl ?_
  refine pk_iconst (v := nI 0) dX5_init_36 (by decide) ?_
  refine pk_putI dX5_init_37 fl_X5_28 rfl rfl rfl rfl (pk_nwS (pk_nwS hb)) ?_
  refine pk_aload_n dX5_init_40 rfl ?_
  refine pk_iconst (v := nI 0) dX5_init_41 (by decide) ?_
  refine pk_putI dX5_init_42 fl_X5_31 rfl rfl rfl rfl (pk_nwS (pk_nwS hb)) ?_
  refine pk_retv dX5_init_45 ?_
  exact ⟨rfl, ⟨(by simp [pk_nw, pk_sP, pk_sI]), fun q hq => ((((((((((pk_sm.rf q M).tr (pk_sm.nw (by simp only [pk_nwl, pk_sPl, pk_sIl, hlen] <;> omega))).tr (pk_sm.sP (by omega))).tr (pk_sm.nw (by simp only [pk_nwl, pk_sPl, pk_sIl, hlen] <;> omega))).tr (pk_sm.sP (by omega))).tr (pk_sm.sI (by omega))).tr (pk_sm.sI (by omega))).tr (pk_sm.sI (by omega))).tr (pk_sm.sI (by omega))).tr (pk_sm.sI (by omega)))⟩, ⟨fun k hk => by
    obtain rfl | rfl : k = 0 ∨ k = 1 := by omega
    · exact (pk_gIP (pk_gIP (pk_gIP (pk_gIP (pk_gIP (pk_gP0 (by omega) (pk_gNP (by simp only [pk_nwl, pk_sPl, pk_sIl, hlen] <;> omega) (pk_gP1 rfl rfl rfl))))))))
    · exact (pk_gIP (pk_gIP (pk_gIP (pk_gIP (pk_gIP (pk_gP1 rfl rfl rfl)))))), (pk_gS0 (by omega) (pk_gS0 (by omega) (pk_gS0 (by omega) (pk_gS0 (by omega) (pk_gS1 rfl rfl rfl)))))⟩⟩

set_option maxRecDepth 100000 in
set_option maxHeartbeats 4000000 in
theorem e_X3_init {Γ : pk_T} {M : pk_M} {b : Nat} (hb : pk_S M b = some (.inr 3)) (hlen : M.1.length = b + 1) (hb5 : 5 ≤ b) : pk_E Γ yX3_init cX3_init 1 none 1 1 24 M [.ref b] (fun r M' => r = none ∧ pk_gr b M M' [.inl (.long, 24)] ∧ c_Ro M' b) := by
  refine pk_meth (own := RX3) (ini := true) [some (.ref b)] (by decide +kernel) rfl (by decide +kernel) rfl rfl ?_
  refine pk_aload_n dX3_init_0 rfl ?_
  refine pk_objInit dX3_init_1 mo_X3_3 oi_inst oi_code rfl rfl rfl ?_
  refine pk_aload_n dX3_init_4 rfl ?_
  refine pk_bipush (v := nI 24) dX3_init_5 (by decide) ?_
  refine pk_newa (atype := .long) (ty := .long) (N := 24) (t0 := 2) dX3_init_7 rfl (Or.inr (Or.inr ⟨rfl, rfl⟩)) ac_long (by decide) (by decide) (by decide) rfl rfl ?_
  simp only [pk_nwl, pk_sPl, pk_sIl, hlen]
  refine pk_putF dX3_init_9 (by decide) (by decide) fw_X3_9 rfl rfl rfl rfl (pk_nwS hb) ?_
  refine pk_aload_n dX3_init_12 rfl ?_
  refine pk_iconst (v := nI 0) dX3_init_13 (by decide) ?_
  refine pk_putI dX3_init_14 fl_X3_15 rfl rfl rfl rfl (pk_nwS hb) ?_
  refine pk_aload_n dX3_init_17 rfl ?_
  refine pk_iconst (v := nI 0) dX3_init_18 (by decide) ?_
  refine pk_putI dX3_init_19 fl_X3_19 rfl rfl rfl rfl (pk_nwS hb) ?_
  refine pk_aload_n dX3_init_22 rfl ?_
  refine pk_iconst (v := nI 0) dX3_init_23 (by decide) ?_
  refine pk_putI dX3_init_24 fl_X3_23 rfl rfl rfl rfl (pk_nwS hb) ?_
  refine pk_retv dX3_init_27 ?_
  exact ⟨rfl, ⟨(by simp [pk_nw, pk_sP, pk_sI]), fun q hq => ((((((pk_sm.rf q M).tr (pk_sm.nw (by simp only [pk_nwl, pk_sPl, pk_sIl, hlen] <;> omega))).tr (pk_sm.sP (by omega))).tr (pk_sm.sI (by omega))).tr (pk_sm.sI (by omega))).tr (pk_sm.sI (by omega)))⟩, ⟨(pk_gIP (pk_gIP (pk_gIP (pk_gP1 rfl rfl rfl)))), (pk_gS0 (by omega) (pk_gS0 (by omega) (pk_gS1 rfl rfl rfl))), (pk_gS0 (by omega) (pk_gS1 rfl rfl rfl)), (pk_gS1 rfl rfl rfl), (by decide), (by decide), fun j hj => (pk_gIJ (pk_gIJ (pk_gIJ (pk_gPJ (pk_gNJ0 (by simp only [pk_nwl, pk_sPl, pk_sIl, hlen] <;> omega))))))⟩⟩

set_option maxRecDepth 100000 in
set_option maxHeartbeats 4000000 in
theorem e_X4_init {Γ : pk_T} {M : pk_M} {b : Nat} (hb : pk_S M b = some (.inr 4)) (hlen : M.1.length = b + 1) (hb5 : 5 ≤ b) (h1 : pk_S M 1 = some (.inl (.int, 5))) (hft : ∀ k, k < 5 → pk_I M 1 k = nI (sp_ft k)) : pk_E Γ yX4_init cX4_init 2 none 1 4 63 M [.ref b] (fun r M' => r = none ∧ pk_gr b M M' [.inl (.int, 5), .inl (.int, 5), .inl (.int, 5), .inl (.int, 48)] ∧ c_St M' b) := by
  refine pk_meth (own := RX4) (ini := true) [some (.ref b), none] (by decide +kernel) rfl (by decide +kernel) rfl rfl ?_
  refine pk_aload_n dX4_init_0 rfl ?_
  refine pk_objInit dX4_init_1 mo_X4_3 oi_inst oi_code rfl rfl rfl ?_
  refine pk_aload_n dX4_init_4 rfl ?_
  refine pk_iconst (v := nI 5) dX4_init_5 (by decide) ?_
  refine pk_newa (atype := .int) (ty := .int) (N := 5) (t0 := 0) dX4_init_6 rfl (Or.inl ⟨rfl, rfl⟩) ac_int (by decide) (by decide) (by decide) rfl rfl ?_
  simp only [pk_nwl, pk_sPl, pk_sIl, hlen]
  refine pk_putF dX4_init_8 (by decide) (by decide) fw_X4_9 rfl rfl rfl rfl (pk_nwS hb) ?_
  refine pk_aload_n dX4_init_11 rfl ?_
  refine pk_iconst (v := nI 5) dX4_init_12 (by decide) ?_
  refine pk_newa (atype := .int) (ty := .int) (N := 5) (t0 := 0) dX4_init_13 rfl (Or.inl ⟨rfl, rfl⟩) ac_int (by decide) (by decide) (by decide) rfl rfl ?_
  simp only [pk_nwl, pk_sPl, pk_sIl, hlen]
  refine pk_putF dX4_init_15 (by decide) (by decide) fw_X4_15 rfl rfl rfl rfl (pk_nwS (pk_nwS hb)) ?_
  refine pk_aload_n dX4_init_18 rfl ?_
  refine pk_iconst (v := nI 5) dX4_init_19 (by decide) ?_
  refine pk_newa (atype := .int) (ty := .int) (N := 5) (t0 := 0) dX4_init_20 rfl (Or.inl ⟨rfl, rfl⟩) ac_int (by decide) (by decide) (by decide) rfl rfl ?_
  simp only [pk_nwl, pk_sPl, pk_sIl, hlen]
  refine pk_putF dX4_init_22 (by decide) (by decide) fw_X4_18 rfl rfl rfl rfl (pk_nwS (pk_nwS (pk_nwS hb))) ?_
  refine pk_aload_n dX4_init_25 rfl ?_
  refine pk_bipush (v := nI 48) dX4_init_26 (by decide) ?_
  refine pk_newa (atype := .int) (ty := .int) (N := 48) (t0 := 0) dX4_init_28 rfl (Or.inl ⟨rfl, rfl⟩) ac_int (by decide) (by decide) (by decide) rfl rfl ?_
  simp only [pk_nwl, pk_sPl, pk_sIl, hlen]
  refine pk_putF dX4_init_30 (by decide) (by decide) fw_X4_21 rfl rfl rfl rfl (pk_nwS (pk_nwS (pk_nwS (pk_nwS hb)))) ?_
  refine pk_aload_n dX4_init_33 rfl ?_
  refine pk_iconst (v := nI 4) dX4_init_34 (by decide) ?_
  refine pk_putI dX4_init_35 fl_X4_24 rfl rfl rfl rfl (pk_nwS (pk_nwS (pk_nwS (pk_nwS hb)))) ?_
  refine pk_aload_n dX4_init_38 rfl ?_
  refine pk_iconst (v := nI 3) dX4_init_39 (by decide) ?_
  refine pk_putI dX4_init_40 fl_X4_28 rfl rfl rfl rfl (pk_nwS (pk_nwS (pk_nwS (pk_nwS hb)))) ?_
  refine pk_aload_n dX4_init_43 rfl ?_
  refine pk_iconst (v := nI 1) dX4_init_44 (by decide) ?_
  refine pk_putI dX4_init_45 fl_X4_31 rfl rfl rfl rfl (pk_nwS (pk_nwS (pk_nwS (pk_nwS hb)))) ?_
  refine pk_iconst (v := nI 0) dX4_init_48 (by decide) ?_
  refine pk_istore_n dX4_init_49 rfl rfl ?_
  obtain ⟨B7, eB⟩ : ∃ X, X = (pk_sI (pk_sI (pk_sI (pk_sP (pk_nw (pk_sP (pk_nw (pk_sP (pk_nw (pk_sP (pk_nw M (.inl (.int, 5))) b 0 (some (b + 1))) (.inl (.int, 5))) b 1 (some (b + 1 + 1))) (.inl (.int, 5))) b 2 (some (b + 1 + 1 + 1))) (.inl (.int, 48))) b 3 (some (b + 1 + 1 + 1 + 1))) b 4 (nI 4)) b 5 (nI 3)) b 6 (nI 1)) := ⟨_, rfl⟩
  rw [← eB]
  have hS0 : B7.1 = M.1 ++ [.inl (.int, 5), .inl (.int, 5), .inl (.int, 5), .inl (.int, 48)] := by rw [eB]; simp [pk_nw, pk_sP, pk_sI]
  have hSb : pk_S B7 b = some (.inr 4) := by rw [eB]; exact (pk_nwS (pk_nwS (pk_nwS (pk_nwS hb))))
  have hS1 : pk_S B7 1 = some (.inl (.int, 5)) := by rw [eB]; exact (pk_nwS (pk_nwS (pk_nwS (pk_nwS h1))))
  have hS2 : pk_S B7 (b + 2) = some (.inl (.int, 5)) := by rw [eB]; exact pk_nwS (pk_nwS (pk_nwS0 (by simp only [pk_nwl, pk_sPl, pk_sIl, hlen] <;> omega)))
  have hS3 : pk_S B7 (b + 3) = some (.inl (.int, 5)) := by rw [eB]; exact pk_nwS (pk_nwS0 (by simp only [pk_nwl, pk_sPl, pk_sIl, hlen] <;> omega))
  have hfr : ∀ q, q < b → pk_sm q M B7 := fun q hq => by rw [eB]; exact ((((((((((((pk_sm.rf q M).tr (pk_sm.nw (by simp only [pk_nwl, pk_sPl, pk_sIl, hlen] <;> omega))).tr (pk_sm.sP (by omega))).tr (pk_sm.nw (by simp only [pk_nwl, pk_sPl, pk_sIl, hlen] <;> omega))).tr (pk_sm.sP (by omega))).tr (pk_sm.nw (by simp only [pk_nwl, pk_sPl, pk_sIl, hlen] <;> omega))).tr (pk_sm.sP (by omega))).tr (pk_sm.nw (by simp only [pk_nwl, pk_sPl, pk_sIl, hlen] <;> omega))).tr (pk_sm.sP (by omega))).tr (pk_sm.sI (by omega))).tr (pk_sm.sI (by omega))).tr (pk_sm.sI (by omega)))
  have hP0 : pk_P B7 b 0 = some (b + 1) := by rw [eB]; exact (pk_gIP (pk_gIP (pk_gIP (pk_gP0 (by omega) (pk_gNP (by simp only [pk_nwl, pk_sPl, pk_sIl, hlen] <;> omega) (pk_gP0 (by omega) (pk_gNP (by simp only [pk_nwl, pk_sPl, pk_sIl, hlen] <;> omega) (pk_gP0 (by omega) (pk_gNP (by simp only [pk_nwl, pk_sPl, pk_sIl, hlen] <;> omega) (pk_gP1 rfl rfl rfl))))))))))
  have hP1 : pk_P B7 b 1 = some (b + 2) := by rw [eB]; exact (pk_gIP (pk_gIP (pk_gIP (pk_gP0 (by omega) (pk_gNP (by simp only [pk_nwl, pk_sPl, pk_sIl, hlen] <;> omega) (pk_gP0 (by omega) (pk_gNP (by simp only [pk_nwl, pk_sPl, pk_sIl, hlen] <;> omega) (pk_gP1 rfl rfl rfl))))))))
  have hP2 : pk_P B7 b 2 = some (b + 3) := by rw [eB]; exact (pk_gIP (pk_gIP (pk_gIP (pk_gP0 (by omega) (pk_gNP (by simp only [pk_nwl, pk_sPl, pk_sIl, hlen] <;> omega) (pk_gP1 rfl rfl rfl))))))
  have hP3 : pk_P B7 b 3 = some (b + 4) := by rw [eB]; exact (pk_gIP (pk_gIP (pk_gIP (pk_gP1 rfl rfl rfl))))
  have hI4 : pk_I B7 b 4 = nI 4 := by rw [eB]; exact (pk_gS0 (by omega) (pk_gS0 (by omega) (pk_gS1 rfl rfl rfl)))
  have hI5 : pk_I B7 b 5 = nI 3 := by rw [eB]; exact (pk_gS0 (by omega) (pk_gS1 rfl rfl rfl))
  have hI6 : pk_I B7 b 6 = nI 1 := by rw [eB]; exact (pk_gS1 rfl rfl rfl)
  have hZ1 : ∀ i, pk_I B7 (b + 1) i = nI 0 := fun i => by rw [eB]; exact (pk_gS0 (by omega) (pk_gS0 (by omega) (pk_gS0 (by omega) (pk_gPI (pk_gNI (by simp only [pk_nwl, pk_sPl, pk_sIl, hlen] <;> omega) (pk_gPI (pk_gNI (by simp only [pk_nwl, pk_sPl, pk_sIl, hlen] <;> omega) (pk_gPI (pk_gNI (by simp only [pk_nwl, pk_sPl, pk_sIl, hlen] <;> omega) (pk_gPI (pk_gNI0 (by simp only [pk_nwl, pk_sPl, pk_sIl, hlen] <;> omega))))))))))))
  have hZ4 : ∀ i, pk_I B7 (b + 4) i = nI 0 := fun i => by rw [eB]; exact (pk_gS0 (by omega) (pk_gS0 (by omega) (pk_gS0 (by omega) (pk_gPI (pk_gNI0 (by simp only [pk_nwl, pk_sPl, pk_sIl, hlen] <;> omega))))))
  clear eB
  refine pk_wf (fun z => 5 - z.1) (fun z : Nat × pk_M => z.1 ≤ 5 ∧ z.2.1 = B7.1 ∧ (∀ q, q ≠ b + 2 → q ≠ b + 3 → pk_sm q B7 z.2) ∧ ∀ i, i < z.1 → pk_I z.2 (b + 2) i = nI (sp_ft i) ∧ pk_I z.2 (b + 3) i = nI i) (fun z => z.2) (fun z => [some (.ref b), some (.int (nI z.1))]) ?_ (0, B7) ⟨Nat.zero_le _, rfl, fun q _ _ => pk_sm.rf q B7, fun i hi => absurd hi (Nat.not_lt_zero i)⟩
  rintro ⟨j, N⟩ ⟨hj, hN1, hNs, hNv⟩ K
  dsimp only at hj hN1 hNs hNv K ⊢
  have hSe : ∀ q, pk_S N q = pk_S B7 q := fun q => by unfold pk_S; rw [hN1]
  refine pk_iload_n dX4_init_50 rfl ?_
  refine pk_iconst (v := nI 5) dX4_init_51 (by decide) ?_
  first | refine pk_geN (tgt := 79) dX4_init_52 (by decide) (by omega) (by omega) (fun c_52 => ?_) (fun c_52 => ?_) | refine pk_icmp_ge (tgt := 79) dX4_init_52 (by decide) (fun c_52 => ?_) (fun c_52 => ?_)
  · refine pk_retv dX4_init_79 ?_
    have e5 : j = 5 := by omega
    subst e5
    have hb0 := hNs b (by omega) (by omega)
    refine ⟨rfl, ⟨hN1.trans hS0, fun q hq => (hfr q hq).tr (hNs q (by omega) (by omega))⟩, ⟨(hb0.I 4).trans hI4, (hb0.I 5).trans hI5, (hb0.I 6).trans hI6, fun i hi => ((hNs (b + 1) (by omega) (by omega)).I i).trans (hZ1 i), fun i hi => (hNv i hi).1, fun i hi => (hNv i hi).2, fun i hi => ((hNs (b + 4) (by omega) (by omega)).I i).trans (hZ4 i)⟩, fun k hk => (hb0.P k).trans ?_⟩
    obtain rfl | rfl | rfl | rfl : k = 0 ∨ k = 1 ∨ k = 2 ∨ k = 3 := by omega
    · exact hP0
    · exact hP1
    · exact hP2
    · exact hP3
  · refine pk_aload_n dX4_init_55 rfl ?_
    refine pk_getP dX4_init_56 fl_X4_15 rfl ((hSe b).trans hSb) (((hNs b (by omega) (by omega)).P 1).trans hP1) ?_
    refine pk_iload_n dX4_init_59 rfl ?_
    refine pk_gets (q := 1) dX4_init_60 (by decide) gs_X4_34 ?_
    refine pk_iload_n dX4_init_63 rfl ?_
    refine pk_aldN dX4_init_64 ((hSe 1).trans hS1) (by omega) (by omega) (((hNs 1 (by omega) (by omega)).I j).trans (((hfr 1 (by omega)).I j).trans (hft j (by omega)))) ?_
    refine pk_astN dX4_init_65 ((hSe (b + 2)).trans hS2) (by omega) (by omega) (by omega) ?_
    refine pk_aload_n dX4_init_66 rfl ?_
    refine pk_getP dX4_init_67 fl_X4_18 rfl ((hSe b).trans hSb) (((hNs b (by omega) (by omega)).P 2).trans hP2) ?_
    refine pk_iload_n dX4_init_70 rfl ?_
    refine pk_iload_n dX4_init_71 rfl ?_
    refine pk_astN dX4_init_72 ((hSe (b + 3)).trans hS3) (by omega) (by omega) (by omega) ?_
    first | refine pk_inc1 dX4_init_73 rfl rfl ?_ | refine pk_iinc dX4_init_73 rfl rfl rfl ?_
    refine pk_goto (tgt := 50) dX4_init_76 (by decide) ?_
    exact K (j + 1, _) ⟨by dsimp only; omega, hN1, fun q q1 q2 => (hNs q q1 q2).tr ((pk_sm.sI q1).tr (pk_sm.sI q2)), fun i hi => by
      dsimp only at hi
      by_cases e : i = j
      · subst e
        exact ⟨pk_gS0 (by omega) (pk_gS1 rfl rfl rfl), pk_gS1 rfl rfl rfl⟩
      · exact ⟨pk_gS0 (by omega) (pk_gS0 (by omega) (hNv i (by omega)).1), pk_gS0 (by omega) (pk_gS0 (by omega) (hNv i (by omega)).2)⟩⟩ (by dsimp only; omega)
