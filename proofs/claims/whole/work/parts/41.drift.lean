/-! drift. -/
def sp_lcg (d : Nat) : Nat := (12345 + 1103515245 * d) % 2 ^ 31
theorem sp_lcgL {d : Nat} (hd : d < 2 ^ 31) : (((nI d).toInt64 * 1103515245 + 12345) &&& 2147483647).toInt32 = nI (sp_lcg d) := by
  have e1 : (nI d).toInt64 = Int64.ofNat d := Int32.toInt64_ofNat' (by rw [Int32.toInt_maxValue]; omega)
  rw [e1, show (1103515245 : Int64) = Int64.ofNat 1103515245 from rfl, show (12345 : Int64) = Int64.ofNat 12345 from rfl, show (2147483647 : Int64) = Int64.ofNat 2147483647 from rfl, ← Int64.ofNat_mul, ← Int64.ofNat_add, Int64.toInt32_and, Int64.toInt32_ofNat', Int64.toInt32_ofNat']
  show nI _ &&& nI _ = _
  rw [pk_nand, sp_lcg, Nat.mul_comm, Nat.add_comm (1103515245 * d)]
  exact congrArg nI (Nat.and_two_pow_sub_one_eq_mod _ 31)
theorem sp_lcg_lt (d : Nat) : sp_lcg d < 2 ^ 31 := Nat.mod_lt _ (by decide)
def sp_drift (A : pk_St) : pk_St := s_set (s_d A (sp_lcg (sp_d A))) ((sp_lcg (sp_d A) / 65536 / 8 % sp_h A) * 8 + sp_lcg (sp_d A) / 65536 % sp_w A) (sp_lcg (sp_d A) / 65536 / 64 % 32)
theorem sp_drift_ok {A : pk_St} (h : pk_okS A) : pk_okS (sp_drift A) := by
  have hw := h.1
  have hh := h.2.1
  have h1 := Nat.mod_lt (sp_lcg (sp_d A) / 65536) (show 0 < sp_w A by omega)
  have h2 := Nat.mod_lt (sp_lcg (sp_d A) / 65536 / 8) (show 0 < sp_h A by omega)
  have hin : sp_in A ((sp_lcg (sp_d A) / 65536 / 8 % sp_h A) * 8 + sp_lcg (sp_d A) / 65536 % sp_w A) = true := sp_in_of (by omega) (by omega)
  refine ⟨h.1, h.2.1, sp_lcg_lt _, h.2.2.2.1, h.2.2.2.2.1, h.2.2.2.2.2.1, h.2.2.2.2.2.2.1, fun q hq => ?_, fun q hq hi => ?_⟩
  · show (if q = _ then _ else sp_s A q) < 32
    split
    · exact Nat.mod_lt _ (by decide)
    · exact h.2.2.2.2.2.2.2.1 q hq
  · show (if q = _ then _ else sp_s A q) = 0
    rw [if_neg]
    · exact h.2.2.2.2.2.2.2.2 q hq hi
    · intro e
      rw [e] at hi
      exact absurd (hin.symm.trans hi) (by decide)
def sp_dr (X : pk_X) : Nat → pk_X
  | 0 => X
  | k + 1 => x_A (x_K (sp_dr X k)) (sp_drift (sp_dr X k).1)
theorem sp_dr_ok {X : pk_X} (h : pk_okS X.1) (k : Nat) : pk_okS (sp_dr X k).1 := by
  induction k with
  | zero => exact h
  | succ k ih => exact sp_drift_ok ih
noncomputable def op_drift (X : pk_X) (n : Int32) : Int32 × pk_X := if n < 1 ∨ nI 40 < n then (-1, X) else (nI (sp_many (sp_dr X n.toNatClampNeg).1), sp_dr X n.toNatClampNeg)

set_option maxRecDepth 100000 in
set_option maxHeartbeats 4000000 in
theorem e_X6_driftOnce {Γ : pk_T} {M : pk_M} {L : Nat} {A : pk_St} (hN : pk_now L M A) : pk_E Γ yX6_driftOnce cX6_driftOnce 2 none 3 0 0 M [.ref 5] (fun r M' => r = none ∧ pk_fr (fun q => 6 ≤ q ∧ q ≤ 10) M M' ∧ pk_At M' 6 (sp_drift A)) := by
  refine pk_meth (own := RX6) (ini := false) [some (.ref 5), none] (by decide +kernel) rfl (by decide +kernel) rfl rfl ?_
  obtain ⟨hW, hA, hok⟩ := hN
  have hw := hok.1
  have hh := hok.2.1
  have hdl := hok.2.2.1
  have hll : sp_lcg (sp_d A) < 2 ^ 31 := sp_lcg_lt _
  have h1 := Nat.mod_lt (sp_lcg (sp_d A) / 65536) (show 0 < sp_w A by omega)
  have h2 := Nat.mod_lt (sp_lcg (sp_d A) / 65536 / 8) (show 0 < sp_h A by omega)
  have hfd : pk_fr (fun q => 6 ≤ q ∧ q ≤ 10) M (pk_sI M 6 6 (nI (sp_lcg (sp_d A)))) := pk_fr.sI ⟨by decide, by decide⟩
  have hWd := hfd.wf hW
  have hokd : pk_okS (s_d A (sp_lcg (sp_d A))) := ⟨hok.1, hok.2.1, hll, hok.2.2.2⟩
  have hAd : pk_At (pk_sI M 6 6 (nI (sp_lcg (sp_d A)))) 6 (s_d A (sp_lcg (sp_d A))) := ⟨pk_gS0 (by omega) hA.1, pk_gS0 (by omega) hA.2.1, pk_gS1 rfl rfl rfl, fun i hi => pk_gS0 (by omega) (hA.2.2.2.1 i hi), fun i hi => pk_gS0 (by omega) (hA.2.2.2.2.1 i hi), fun i hi => pk_gS0 (by omega) (hA.2.2.2.2.2.1 i hi), fun i hi => pk_gS0 (by omega) (hA.2.2.2.2.2.2 i hi)⟩
  have hd1 : pk_I (pk_sI M 6 6 (nI (sp_lcg (sp_d A)))) 6 4 = nI (sp_w A) := hAd.1
  have hd2 : pk_I (pk_sI M 6 6 (nI (sp_lcg (sp_d A)))) 6 5 = nI (sp_h A) := hAd.2.1
  have hd3 : pk_I (pk_sI M 6 6 (nI (sp_lcg (sp_d A)))) 6 6 = nI (sp_lcg (sp_d A)) := hAd.2.2.1
  refine pk_aload_n dX6_driftOnce_0 rfl ?_
  refine pk_getP dX6_driftOnce_1 fl_X6_10 rfl (hW.s rfl) (hW.p rfl) ?_
  refine pk_aload_n dX6_driftOnce_4 rfl ?_
  refine pk_getP dX6_driftOnce_5 fl_X6_10 rfl (hW.s rfl) (hW.p rfl) ?_
  refine pk_getN dX6_driftOnce_8 fl_X6_226 rfl (hW.s rfl) hA.2.2.1 ?_
  refine pk_i2l dX6_driftOnce_11 ?_
  refine pk_ldc2 dX6_driftOnce_12 kc_X6_353 ?_
  refine pk_lmul dX6_driftOnce_15 ?_
  refine pk_ldc2 dX6_driftOnce_16 kc_X6_355 ?_
  refine pk_ladd dX6_driftOnce_19 ?_
  refine pk_ldc2 dX6_driftOnce_20 kc_X6_357 ?_
  refine pk_land dX6_driftOnce_23 ?_
  refine pk_l2i dX6_driftOnce_24 ?_
  rw [sp_lcgL hdl]
  refine pk_putI dX6_driftOnce_25 fl_X6_226 rfl rfl rfl rfl (hW.s rfl) ?_
  refine pk_aload_n dX6_driftOnce_28 rfl ?_
  refine pk_getP dX6_driftOnce_29 fl_X6_10 rfl (hW.s rfl) (hW.p rfl) ?_
  refine pk_getN dX6_driftOnce_32 fl_X6_226 rfl (hW.s rfl) hd3 ?_
  refine pk_ldcw dX6_driftOnce_35 kc_X6_359 ?_
  rw [show (65536 : Int32) = nI 65536 from rfl]
  first | refine pk_divN dX6_driftOnce_38 (by omega) (by omega) (by omega) ?_ | refine pk_idiv dX6_driftOnce_38 (by first | assumption | decide) ?_
  refine pk_istore_n dX6_driftOnce_39 rfl rfl ?_
  refine pk_aload_n dX6_driftOnce_40 rfl ?_
  refine pk_getP dX6_driftOnce_41 fl_X6_10 rfl (hW.s rfl) (hW.p rfl) ?_
  refine pk_getN dX6_driftOnce_44 fl_X6_160 rfl (hW.s rfl) hd1 ?_
  refine pk_if_le (tgt := 95) dX6_driftOnce_47 (by decide) (fun c_47 => ?_) (fun c_47 => ?_)
  · have h0 : sp_w A ≤ 0 := (nI_leI (by omega) (by decide)).mp (show nI (sp_w A) ≤ nI 0 from c_47); omega
  · refine pk_aload_n dX6_driftOnce_50 rfl ?_
    refine pk_getP dX6_driftOnce_51 fl_X6_10 rfl (hW.s rfl) (hW.p rfl) ?_
    refine pk_getN dX6_driftOnce_54 fl_X6_161 rfl (hW.s rfl) hd2 ?_
    refine pk_if_le (tgt := 95) dX6_driftOnce_57 (by decide) (fun c_57 => ?_) (fun c_57 => ?_)
    · have h0 : sp_h A ≤ 0 := (nI_leI (by omega) (by decide)).mp (show nI (sp_h A) ≤ nI 0 from c_57); omega
    · refine pk_aload_n dX6_driftOnce_60 rfl ?_
      refine pk_getP dX6_driftOnce_61 fl_X6_10 rfl (hW.s rfl) (hW.p rfl) ?_
      refine pk_iload_n dX6_driftOnce_64 rfl ?_
      refine pk_aload_n dX6_driftOnce_65 rfl ?_
      refine pk_getP dX6_driftOnce_66 fl_X6_10 rfl (hW.s rfl) (hW.p rfl) ?_
      refine pk_getN dX6_driftOnce_69 fl_X6_160 rfl (hW.s rfl) hd1 ?_
      refine pk_remN (b := sp_w A) dX6_driftOnce_72 (by omega) (by omega) (by omega) ?_
      refine pk_iload_n dX6_driftOnce_73 rfl ?_
      refine pk_bipush (v := nI 8) dX6_driftOnce_74 (by decide) ?_
      first | refine pk_divN dX6_driftOnce_76 (by omega) (by omega) (by omega) ?_ | refine pk_idiv dX6_driftOnce_76 (by first | assumption | decide) ?_
      refine pk_aload_n dX6_driftOnce_77 rfl ?_
      refine pk_getP dX6_driftOnce_78 fl_X6_10 rfl (hW.s rfl) (hW.p rfl) ?_
      refine pk_getN dX6_driftOnce_81 fl_X6_161 rfl (hW.s rfl) hd2 ?_
      refine pk_remN (b := sp_h A) dX6_driftOnce_84 (by omega) (by omega) (by omega) ?_
      refine pk_iload_n dX6_driftOnce_85 rfl ?_
      refine pk_bipush (v := nI 64) dX6_driftOnce_86 (by decide) ?_
      first | refine pk_divN dX6_driftOnce_88 (by omega) (by omega) (by omega) ?_ | refine pk_idiv dX6_driftOnce_88 (by first | assumption | decide) ?_
      refine pk_bipush (v := nI 32) dX6_driftOnce_89 (by decide) ?_
      first | refine pk_remN dX6_driftOnce_91 (by omega) (by omega) (by omega) ?_ | refine pk_irem dX6_driftOnce_91 (by first | assumption | decide) ?_
      refine pk_Vv dX6_driftOnce_92 ml_X6_202 yw_X4_write yv_X4_write (hW.s rfl) (e_X4_writeN (p := 6) (A := s_d A (sp_lcg (sp_d A))) hWd rfl hAd hokd h1 h2 _) rfl rfl rfl rfl rfl rfl rfl ?_
      refine pk_retv dX6_driftOnce_95 ?_
      refine ⟨rfl, hfd.tr (pk_fr.sI ⟨by decide, by decide⟩), pk_gS0 (by omega) hAd.1, pk_gS0 (by omega) hAd.2.1, pk_gS0 (by omega) hAd.2.2.1, fun i hi => pk_gS0 (by omega) (hAd.2.2.2.1 i hi), fun i hi => pk_gS0 (by omega) (hAd.2.2.2.2.1 i hi), fun i hi => pk_gS0 (by omega) (hAd.2.2.2.2.2.1 i hi), fun q hq => ?_⟩
      show _ = nI (if q = _ then _ else sp_s A q)
      split
      · rename_i e
        exact pk_gS1 rfl e rfl
      · rename_i e
        exact pk_gS0 (Or.inr e) (hAd.2.2.2.2.2.2 q hq)
