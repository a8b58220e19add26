/-! The model: filling, growing, sizes, drifting. -/
theorem nI_sub_lt {a b : Nat} (ha : a < 2 ^ 30) (hb : b < 2 ^ 30) : nI a - nI b < 0 ↔ a < b := by
  have h1 := nI_sub_gt ha hb
  constructor
  · intro h
    rcases Nat.lt_trichotomy a b with z | z | z
    · exact z
    · rw [h1.2.mpr z] at h
      exact absurd h (by decide)
    · exact absurd (Int32.lt_trans h (h1.1.mpr z)) Int32.lt_irrefl
  · intro h
    rcases Int32.lt_or_le (nI a - nI b) 0 with z | z
    · exact z
    · rcases Int32.lt_or_eq_of_le z with y | y
      · have := h1.1.mp y
        omega
      · have := h1.2.mp y.symm
        omega

set_option maxRecDepth 100000 in
set_option maxHeartbeats 4000000 in
theorem e_X7_isPlace2 {Γ : pk_T} {M : pk_M} {L w h : Nat} (hW : pk_WF L M) (h0 : pk_I M 104 0 = nI w) (h1 : pk_I M 104 1 = nI h) (hw : 1 ≤ w ∧ w ≤ 8) (hh : 1 ≤ h ∧ h ≤ 6) (x y : Int32) : pk_E Γ yX7_isPlace cX7_isPlace 3 (some .boolean) 1 0 0 M [.ref 103, .int x, .int y] (fun r M' => r = some (.int (pk_bi (sp_inb2 w h x y))) ∧ M' = M) := by
  refine pk_meth (own := RX7) (ini := false) [some (.ref 103), some (.int x), some (.int y)] (by decide +kernel) rfl (by decide +kernel) rfl rfl ?_
  have e1 : sp_inb2 w h x y = (sp_b x (w - 1 + 1) && sp_b y (h - 1 + 1)) := by
    rw [show w - 1 + 1 = w by omega, show h - 1 + 1 = h by omega]
    rfl
  rw [e1]
  refine pk_iload_n dX7_isPlace_0 rfl ?_
  refine pk_i2l dX7_isPlace_1 ?_
  refine pk_lconst (v := 0) dX7_isPlace_2 (by decide) ?_
  refine pk_aload_n dX7_isPlace_3 rfl ?_
  refine pk_getP dX7_isPlace_4 fl_X7_7 rfl (hW.s rfl) (hW.p rfl) ?_
  refine pk_iconst (v := nI 0) dX7_isPlace_7 (by decide) ?_
  refine pk_aldN dX7_isPlace_8 (hW.s rfl) (by omega) (by omega) h0 ?_
  refine pk_iconst (v := nI 1) dX7_isPlace_9 (by decide) ?_
  first | refine pk_subN dX7_isPlace_10 (by omega) ?_ | refine pk_isub dX7_isPlace_10 ?_
  refine pk_i2l dX7_isPlace_11 ?_
  refine pk_Si dX7_isPlace_12 ml_X7_59 yw_X7_in ys_X7_in (e_X7_inB _ (N := w - 1) (by omega) rfl) rfl rfl rfl rfl rfl rfl rfl ?_
  first | refine pk_eqb (tgt := 40) dX7_isPlace_15 (by decide) (fun c_15 => ?_) (fun c_15 => ?_) | refine pk_eq0N (tgt := 40) dX7_isPlace_15 (by decide) (by omega) (fun c_15 => ?_) (fun c_15 => ?_) | refine pk_if_eq (tgt := 40) dX7_isPlace_15 (by decide) (fun c_15 => ?_) (fun c_15 => ?_)
  · refine pk_iconst (v := nI 0) dX7_isPlace_40 (by decide) ?_
    refine pk_reti dX7_isPlace_41 (by first | rfl | exact pk_nbi _) ?_
    exact ⟨by rw [c_15, Bool.false_and]; rfl, rfl⟩
  · refine pk_iload_n dX7_isPlace_18 rfl ?_
    refine pk_i2l dX7_isPlace_19 ?_
    refine pk_lconst (v := 0) dX7_isPlace_20 (by decide) ?_
    refine pk_aload_n dX7_isPlace_21 rfl ?_
    refine pk_getP dX7_isPlace_22 fl_X7_7 rfl (hW.s rfl) (hW.p rfl) ?_
    refine pk_iconst (v := nI 1) dX7_isPlace_25 (by decide) ?_
    refine pk_aldN dX7_isPlace_26 (hW.s rfl) (by omega) (by omega) h1 ?_
    refine pk_iconst (v := nI 1) dX7_isPlace_27 (by decide) ?_
    first | refine pk_subN dX7_isPlace_28 (by omega) ?_ | refine pk_isub dX7_isPlace_28 ?_
    refine pk_i2l dX7_isPlace_29 ?_
    refine pk_Si dX7_isPlace_30 ml_X7_59 yw_X7_in ys_X7_in (e_X7_inB _ (N := h - 1) (by omega) rfl) rfl rfl rfl rfl rfl rfl rfl ?_
    first | refine pk_eqb (tgt := 40) dX7_isPlace_33 (by decide) (fun c_33 => ?_) (fun c_33 => ?_) | refine pk_eq0N (tgt := 40) dX7_isPlace_33 (by decide) (by omega) (fun c_33 => ?_) (fun c_33 => ?_) | refine pk_if_eq (tgt := 40) dX7_isPlace_33 (by decide) (fun c_33 => ?_) (fun c_33 => ?_)
    · refine pk_iconst (v := nI 0) dX7_isPlace_40 (by decide) ?_
      refine pk_reti dX7_isPlace_41 (by first | rfl | exact pk_nbi _) ?_
      exact ⟨by rw [c_33, Bool.and_false]; rfl, rfl⟩
    · refine pk_iconst (v := nI 1) dX7_isPlace_36 (by decide) ?_
      refine pk_goto (tgt := 41) dX7_isPlace_37 (by decide) ?_
      refine pk_reti dX7_isPlace_41 (by first | rfl | exact pk_nbi _) ?_
      exact ⟨by rw [c_15, c_33]; rfl, rfl⟩

set_option maxRecDepth 100000 in
set_option maxHeartbeats 4000000 in
theorem e_X7_isIn2 {Γ : pk_T} {M : pk_M} {L w h : Nat} (hW : pk_WF L M) (h0 : pk_I M 104 0 = nI w) (h1 : pk_I M 104 1 = nI h) (hw : 1 ≤ w ∧ w ≤ 8) (hh : 1 ≤ h ∧ h ≤ 6) {q : Nat} (hq : q < 48) : pk_E Γ yX7_isIn cX7_isIn 2 (some .boolean) 2 0 0 M [.ref 103, .int (nI q)] (fun r M' => r = some (.int (pk_bi (decide (q % 8 < w) && decide (q / 8 < h)))) ∧ M' = M) := by
  refine pk_meth (own := RX7) (ini := false) [some (.ref 103), some (.int (nI q))] (by decide +kernel) rfl (by decide +kernel) rfl rfl ?_
  refine pk_aload_n dX7_isIn_0 rfl ?_
  refine pk_iload_n dX7_isIn_1 rfl ?_
  refine pk_bipush (v := nI 8) dX7_isIn_2 (by decide) ?_
  first | refine pk_remN dX7_isIn_4 (by omega) (by omega) (by omega) ?_ | refine pk_irem dX7_isIn_4 (by first | assumption | decide) ?_
  refine pk_iload_n dX7_isIn_5 rfl ?_
  refine pk_bipush (v := nI 8) dX7_isIn_6 (by decide) ?_
  first | refine pk_divN dX7_isIn_8 (by omega) (by omega) (by omega) ?_ | refine pk_idiv dX7_isIn_8 (by first | assumption | decide) ?_
  refine pk_Vi dX7_isIn_9 ml_X7_65 yw_X7_isPlace yv_X7_isPlace (hW.s rfl) (e_X7_isPlace2 hW h0 h1 hw hh _ _) rfl rfl rfl rfl rfl rfl rfl ?_
  refine pk_reti dX7_isIn_12 (by first | rfl | exact pk_nbi _) ?_
  exact ⟨by rw [sp_inb2_n hw.2 hh.2 (by omega) (by omega)], rfl⟩

set_option maxRecDepth 100000 in
set_option maxHeartbeats 4000000 in
theorem e_X7_setAt2 {Γ : pk_T} {M : pk_M} {L q v : Nat} (hW : pk_WF L M) (hv : pk_I M 104 (14 + q) = nI v) (hq : q < 48) : pk_E Γ yX7_setAt cX7_setAt 2 (some .int) 0 0 0 M [.ref 103, .int (nI q)] (fun r M' => r = some (.int (nI (v))) ∧ M' = M) := by
  refine pk_meth (own := RX7) (ini := false) [some (.ref 103), some (.int (nI q))] (by decide +kernel) rfl (by decide +kernel) rfl rfl ?_
  refine pk_aload_n dX7_setAt_0 rfl ?_
  refine pk_getP dX7_setAt_1 fl_X7_7 rfl (hW.s rfl) (hW.p rfl) ?_
  refine pk_bipush (v := nI 14) dX7_setAt_4 (by decide) ?_
  refine pk_iload_n dX7_setAt_6 rfl ?_
  first | refine pk_addN dX7_setAt_7 ?_ | refine pk_iadd dX7_setAt_7 ?_
  refine pk_aldN dX7_setAt_8 (hW.s rfl) (by omega) (by omega) hv ?_
  refine pk_reti dX7_setAt_9 (by first | rfl | exact pk_nbi _) ?_
  exact ⟨rfl, rfl⟩

theorem e_X7_isOf2 {Γ : pk_T} {M : pk_M} {L q a : Nat} {A B : pk_St} (hN : pm_now L M B) (e1 : sp_w B = sp_w A) (e2 : sp_h B = sp_h A) (hok : pk_okS A) (har : pm_ar A M) (hq : q < 48) (ha : a < sp_many A) : pk_E Γ yX7_isOf cX7_isOf 3 (some .boolean) 3 0 0 M [.ref 103, .int (nI q), .int (nI a)] (fun r M' => r = some (.int (pk_bi (sp_iof A q a))) ∧ M' = M) := by
  obtain ⟨hW, hA, hokB⟩ := hN
  have hrl := (sp_ro_lt hok ha).2
  have hin : sp_in B q = sp_in A q := by unfold sp_in; rw [e1, e2]
  have hml := sp_many_le A
  refine pk_meth (own := RX7) (ini := false) [some (.ref 103), some (.int (nI q)), some (.int (nI a))] (by decide +kernel) rfl (by decide +kernel) rfl rfl ?_
  refine pk_aload_n dX7_isOf_0 rfl ?_
  refine pk_iload_n dX7_isOf_1 rfl ?_
  refine pk_Vi dX7_isOf_2 ml_X7_88 yw_X7_isIn yv_X7_isIn (hW.s rfl) (e_X7_isIn ⟨hW, hA, hokB⟩ hq) rfl rfl rfl rfl rfl rfl rfl ?_
  rw [hin]
  first | refine pk_eqb (tgt := 27) dX7_isOf_5 (by decide) (fun c_5 => ?_) (fun c_5 => ?_) | refine pk_eq0N (tgt := 27) dX7_isOf_5 (by decide) (by omega) (fun c_5 => ?_) (fun c_5 => ?_) | refine pk_if_eq (tgt := 27) dX7_isOf_5 (by decide) (fun c_5 => ?_) (fun c_5 => ?_)
  · refine pk_iconst (v := nI 0) dX7_isOf_27 (by decide) ?_
    refine pk_reti dX7_isOf_28 (by first | rfl | exact pk_nbi _) ?_
    unfold sp_iof
    rw [c_5, Bool.false_and]
    exact ⟨rfl, rfl⟩
  · have hlb := (sp_lab_in hok c_5).2.2.1
    refine pk_aload_n dX7_isOf_8 rfl ?_
    refine pk_getP dX7_isOf_9 fl_X7_16 rfl (hW.s rfl) (hW.p rfl) ?_
    refine pk_iload_n dX7_isOf_12 rfl ?_
    refine pk_aldN dX7_isOf_13 (hW.s rfl) (by omega) (by omega) (har.1 _ hq c_5) ?_
    refine pk_aload_n dX7_isOf_14 rfl ?_
    refine pk_getP dX7_isOf_15 fl_X7_19 rfl (hW.s rfl) (hW.p rfl) ?_
    refine pk_iload_n dX7_isOf_18 rfl ?_
    refine pk_aldN dX7_isOf_19 (hW.s rfl) (by omega) (by omega) (har.ro ha) ?_
    first | refine pk_neN (tgt := 27) dX7_isOf_20 (by decide) (by omega) (by omega) (fun c_20 => ?_) (fun c_20 => ?_) | refine pk_icmp_ne (tgt := 27) dX7_isOf_20 (by decide) (fun c_20 => ?_) (fun c_20 => ?_)
    · refine pk_iconst (v := nI 0) dX7_isOf_27 (by decide) ?_
      refine pk_reti dX7_isOf_28 (by first | rfl | exact pk_nbi _) ?_
      unfold sp_iof
      rw [beq_eq_false_iff_ne.mpr c_20, Bool.and_false]
      exact ⟨rfl, rfl⟩
    · refine pk_iconst (v := nI 1) dX7_isOf_23 (by decide) ?_
      refine pk_goto (tgt := 28) dX7_isOf_24 (by decide) ?_
      refine pk_reti dX7_isOf_28 (by first | rfl | exact pk_nbi _) ?_
      unfold sp_iof
      rw [c_5, beq_iff_eq.mpr c_20]
      exact ⟨rfl, rfl⟩

theorem sp_fl_hit {A : pk_St} (hA : pk_okS A) {a v j : Nat} (ha : a < sp_many A) (h : sp_iof A j a = true) : s_set (s_sets A (sp_fl A a v j)) j v = s_sets A (sp_fl A a v (j + 1)) := by
  unfold s_set s_sets
  have e : (fun q => if q = j then v else sp_s (A.1, A.2.1, A.2.2.1, A.2.2.2.1, A.2.2.2.2.1, A.2.2.2.2.2.1, sp_fl A a v j) q) = sp_fl A a v (j + 1) := by
    funext q
    show (if q = j then v else sp_fl A a v j q) = sp_fl A a v (j + 1) q
    unfold sp_fl
    unfold sp_iof at h
    by_cases e : q = j
    · subst e
      have h2 := h
      rw [Bool.and_eq_true] at h2
      rw [if_pos rfl, if_pos ⟨by omega, by rw [sp_num_ro hA h2.1 ha]; exact h⟩]
    · rw [if_neg e]
      by_cases c : q < j ∧ (sp_in A q && sp_num2 A q == a) = true
      · rw [if_pos c, if_pos ⟨by omega, c.2⟩]
      · rw [if_neg c, if_neg (fun z => c ⟨by omega, z.2⟩)]
  rw [e]
theorem sp_fl_miss {A : pk_St} (hA : pk_okS A) {a v j : Nat} (ha : a < sp_many A) (h : sp_iof A j a = false) : s_sets A (sp_fl A a v (j + 1)) = s_sets A (sp_fl A a v j) := by
  have e : sp_fl A a v (j + 1) = sp_fl A a v j := by
    funext q
    unfold sp_fl
    unfold sp_iof at h
    by_cases e : q = j
    · subst e
      have hn : (sp_in A q && sp_num2 A q == a) = false := by
        cases hi : sp_in A q
        · rfl
        · rw [sp_num_ro hA hi ha, ← hi]
          exact h
      rw [if_neg (fun z => by rw [hn] at z; exact absurd z.2 (by decide)), if_neg (fun z => by omega)]
    · by_cases c : q < j ∧ (sp_in A q && sp_num2 A q == a) = true
      · rw [if_pos c, if_pos ⟨by omega, c.2⟩]
      · rw [if_neg c, if_neg (fun z => c ⟨by omega, z.2⟩)]
  rw [e]

set_option maxRecDepth 100000 in
set_option maxHeartbeats 4000000 in
theorem e_X7_fill {Γ : pk_T} {M : pk_M} {L : Nat} {X : pk_X} (hR : pk_RM L M X) (hX : pk_okX X) (a v : Int32) : pk_E Γ yX7_fill cX7_fill 6 (some .int) 5 0 0 M [.ref 103, .int a, .int v] (fun r M' => r = some (.int (op_fill X a v).1) ∧ pk_mf M M' ∧ pk_RM L M' (op_fill X a v).2) := by
  have hR0 := hR
  obtain ⟨hW, hA, hU, hK, hTp, hSh⟩ := hR0
  have hok := hX.1
  have hw := hok.1
  have hh := hok.2.1
  have hs := hok.2.2.2.2.2.2.2.1
  have hn6 := hX.2.1.1
  refine pk_meth (own := RX7) (ini := false) [some (.ref 103), some (.int a), some (.int v), none, none, none] (by decide +kernel) rfl (by decide +kernel) rfl rfl ?_
  refine pk_aload_n dX7_fill_0 rfl ?_
  refine pk_Vir dX7_fill_1 ml_X7_120 yw_X7_areas yv_X7_areas (hW.s rfl) (e_X7_areas ⟨hW, hA, hok⟩) rfl rfl rfl rfl rfl rfl rfl (fun M1 h1 => ?_)
  obtain ⟨hf1, har⟩ := h1
  obtain ⟨hmf1, hRM⟩ := hf1.ms (fun q h => by unfold pm_scr; omega) hR
  replace hW := hRM.1
  replace hA := hRM.2.1
  replace hU := hRM.2.2.1
  have hml := sp_many_le X.1
  have hm0 : 0 < sp_many X.1 := by
    have h0 : sp_in X.1 0 = true := sp_in_of (by omega) (by omega)
    have := sp_num2_lt hok h0
    omega
  refine pk_istore_n dX7_fill_4 rfl rfl ?_
  refine pk_iload_n dX7_fill_5 rfl ?_
  refine pk_i2l dX7_fill_6 ?_
  refine pk_lconst (v := 0) dX7_fill_7 (by decide) ?_
  refine pk_iload_n dX7_fill_8 rfl ?_
  refine pk_iconst (v := nI 1) dX7_fill_9 (by decide) ?_
  first | refine pk_subN dX7_fill_10 (by omega) ?_ | refine pk_isub dX7_fill_10 ?_
  refine pk_i2l dX7_fill_11 ?_
  refine pk_Si dX7_fill_12 ml_X7_59 yw_X7_in ys_X7_in (e_X7_inB _ (N := sp_many X.1 - 1) (by omega) rfl) rfl rfl rfl rfl rfl rfl rfl ?_
  rw [show sp_many X.1 - 1 + 1 = sp_many X.1 by omega]
  first | refine pk_eqb (tgt := 26) dX7_fill_15 (by decide) (fun c_15 => ?_) (fun c_15 => ?_) | refine pk_eq0N (tgt := 26) dX7_fill_15 (by decide) (by omega) (fun c_15 => ?_) (fun c_15 => ?_) | refine pk_if_eq (tgt := 26) dX7_fill_15 (by decide) (fun c_15 => ?_) (fun c_15 => ?_)
  · refine pk_iconst (v := -1) dX7_fill_26 (by decide) ?_
    refine pk_reti dX7_fill_27 (by first | rfl | exact pk_nbi _) ?_
    rw [op_fill, if_pos]
    · exact ⟨rfl, hmf1, hRM⟩
    · rw [c_15, Bool.false_and]
  · refine pk_iload_n dX7_fill_18 rfl ?_
    refine pk_i2l dX7_fill_19 ?_
    refine pk_Si dX7_fill_20 ml_X7_142 yw_X7_isSet ys_X7_isSet (e_X7_isSet _) rfl rfl rfl rfl rfl rfl rfl ?_
    rw [pm_iss32]
    first | refine pk_neb (tgt := 28) dX7_fill_23 (by decide) (fun c_23 => ?_) (fun c_23 => ?_) | refine pk_ne0N (tgt := 28) dX7_fill_23 (by decide) (by omega) (fun c_23 => ?_) (fun c_23 => ?_) | refine pk_if_ne (tgt := 28) dX7_fill_23 (by decide) (fun c_23 => ?_) (fun c_23 => ?_)
    · obtain ⟨a, ha, rfl⟩ := sp_b_of c_15 (by omega)
      obtain ⟨v, hv, rfl⟩ := sp_b_of c_23 (by decide)
      rw [op_fill, if_neg (by rw [c_15, c_23]; decide), nI_clamp (show a < 2 ^ 31 by omega), nI_clamp (show v < 2 ^ 31 by omega)]
      have hrl := (sp_ro_lt hok ha).2
      have hsr := hs _ hrl
      refine pk_aload_n dX7_fill_28 rfl ?_
      refine pk_aload_n dX7_fill_29 rfl ?_
      refine pk_getP dX7_fill_30 fl_X7_19 rfl (hW.s rfl) (hW.p rfl) ?_
      refine pk_iload_n dX7_fill_33 rfl ?_
      refine pk_aldN dX7_fill_34 (hW.s rfl) (by omega) (by omega) (har.ro ha) ?_
      refine pk_Vi dX7_fill_35 ml_X7_92 yw_X7_setAt yv_X7_setAt (hW.s rfl) (e_X7_setAt ⟨hW, hA, hok⟩ (by omega)) rfl rfl rfl rfl rfl rfl rfl ?_
      refine pk_iload_n dX7_fill_38 rfl ?_
      first | refine pk_neN (tgt := 45) dX7_fill_39 (by decide) (by omega) (by omega) (fun c_39 => ?_) (fun c_39 => ?_) | refine pk_icmp_ne (tgt := 45) dX7_fill_39 (by decide) (fun c_39 => ?_) (fun c_39 => ?_)
      · refine pk_aload_n dX7_fill_45 rfl ?_
        refine pk_Vvr dX7_fill_46 ml_X7_214 yw_X7_notes yv_X7_notes (hW.s rfl) (e_X7_notes hW hA hU.1 hn6 hU.2) rfl rfl rfl rfl rfl rfl rfl (fun M2 h2 => ?_)
        obtain ⟨hmf2, hRk⟩ := hRM.kp h2
        replace hW := hRk.1
        have hA2 := hRk.2.1
        have har2 : pm_ar X.1 M2 := ⟨fun q hq hi => (h2.1.I (by omega) q).trans (har.1 q hq hi), fun q hq hi => (h2.1.I (by omega) q).trans (har.2.1 q hq hi), fun r hr => (h2.1.I (by omega) _).trans (har.2.2 r hr)⟩
        refine pk_iconst (v := nI 0) dX7_fill_49 (by decide) ?_
        refine pk_istore dX7_fill_50 rfl rfl ?_
        refine pk_iconst (v := nI 0) dX7_fill_52 (by decide) ?_
        refine pk_istore dX7_fill_53 rfl rfl ?_
        rw [if_neg c_39]
        refine pk_wf (fun z => 48 - z.1) (fun z : Nat × pk_M => z.1 ≤ 48 ∧ pk_fr (fun q => q = 104) M2 z.2 ∧ pm_At z.2 104 0 (s_sets X.1 (sp_fl X.1 a v z.1))) (fun z => z.2) (fun z => [some (.ref 103), some (.int (nI a)), some (.int (nI v)), some (.int (nI (sp_many X.1))), some (.int (nI (sp_c (fun q => sp_in X.1 q && (sp_lab X.1 q == sp_ro X.1 a)) z.1))), some (.int (nI z.1))]) ?_ (0, M2) ⟨Nat.zero_le _, pk_fr.rf _ _, fun j hj => (hA2 j hj).trans rfl⟩
        rintro ⟨j, N⟩ ⟨hj, hF, hN⟩ K
        dsimp only at hj hF hN K ⊢
        have hWN := hF.wf hW
        have harN : pm_ar X.1 N := ⟨fun q hq hi => (hF.I (by omega) q).trans (har2.1 q hq hi), fun q hq hi => (hF.I (by omega) q).trans (har2.2.1 q hq hi), fun r hr => (hF.I (by omega) _).trans (har2.2.2 r hr)⟩
        have hokN := sp_fl_ok hok (a := a) hv j
        refine pk_iload dX7_fill_55 rfl ?_
        refine pk_bipush (v := nI 48) dX7_fill_57 (by decide) ?_
        first | refine pk_geN (tgt := 92) dX7_fill_59 (by decide) (by omega) (by omega) (fun c_59 => ?_) (fun c_59 => ?_) | refine pk_icmp_ge (tgt := 92) dX7_fill_59 (by decide) (fun c_59 => ?_) (fun c_59 => ?_)
        · refine pk_iload dX7_fill_92 rfl ?_
          refine pk_reti dX7_fill_94 (by first | rfl | exact pk_nbi _) ?_
          have e48 : j = 48 := by omega
          subst e48
          exact ⟨rfl, (hmf1.tr hmf2).tr (hF.ff.mono (fun q h => by omega)), hRk.st hF.ff hN⟩
        · refine pk_aload_n dX7_fill_62 rfl ?_
          refine pk_iload dX7_fill_63 rfl ?_
          refine pk_iload_n dX7_fill_65 rfl ?_
          refine pk_Vi dX7_fill_66 ml_X7_111 yw_X7_isOf yv_X7_isOf (hWN.s rfl) (e_X7_isOf2 (A := X.1) (B := (s_sets X.1 (sp_fl X.1 a v j))) ⟨hWN, hN, hokN⟩ rfl rfl hok harN (by omega) ha) rfl rfl rfl rfl rfl rfl rfl ?_
          first | refine pk_eqb (tgt := 86) dX7_fill_69 (by decide) (fun c_69 => ?_) (fun c_69 => ?_) | refine pk_eq0N (tgt := 86) dX7_fill_69 (by decide) (by omega) (fun c_69 => ?_) (fun c_69 => ?_) | refine pk_if_eq (tgt := 86) dX7_fill_69 (by decide) (fun c_69 => ?_) (fun c_69 => ?_)
          · first | refine pk_inc1 dX7_fill_86 rfl rfl ?_ | refine pk_iinc dX7_fill_86 rfl rfl rfl ?_
            refine pk_goto (tgt := 55) dX7_fill_89 (by decide) ?_
            have e1 := sp_c_succ (fun q => sp_in X.1 q && (sp_lab X.1 q == sp_ro X.1 a)) j
            rw [show (sp_in X.1 j && (sp_lab X.1 j == sp_ro X.1 a)) = false from c_69, if_neg (by decide)] at e1
            have K2 := K (j + 1, N) ⟨by dsimp only; omega, hF, by dsimp only; rw [sp_fl_miss hok ha c_69]; exact hN⟩ (by dsimp only; omega)
            dsimp only at K2
            rw [e1] at K2
            exact K2
          · refine pk_aload_n dX7_fill_72 rfl ?_
            refine pk_getP dX7_fill_73 fl_X7_7 rfl (hWN.s rfl) (hWN.p rfl) ?_
            refine pk_bipush (v := nI 14) dX7_fill_76 (by decide) ?_
            refine pk_iload dX7_fill_78 rfl ?_
            first | refine pk_addN dX7_fill_80 ?_ | refine pk_iadd dX7_fill_80 ?_
            refine pk_iload_n dX7_fill_81 rfl ?_
            refine pk_astN dX7_fill_82 (hWN.s rfl) (by omega) (by omega) (by omega) ?_
            first | refine pk_inc1 dX7_fill_83 rfl rfl ?_ | refine pk_iinc dX7_fill_83 rfl rfl rfl ?_
            first | refine pk_inc1 dX7_fill_86 rfl rfl ?_ | refine pk_iinc dX7_fill_86 rfl rfl rfl ?_
            refine pk_goto (tgt := 55) dX7_fill_89 (by decide) ?_
            have e1 := sp_c_succ (fun q => sp_in X.1 q && (sp_lab X.1 q == sp_ro X.1 a)) j
            rw [show (sp_in X.1 j && (sp_lab X.1 j == sp_ro X.1 a)) = true from c_69, if_pos rfl] at e1
            have K2 := K (j + 1, _) ⟨by dsimp only; omega, hF.tr (pk_fr.sI rfl), by dsimp only; rw [← sp_fl_hit hok ha c_69]; exact hN.s_set v (by omega)⟩ (by dsimp only; omega)
            dsimp only at K2
            rw [e1] at K2
            exact K2
      · refine pk_bipush (v := -2) dX7_fill_42 (by decide) ?_
        refine pk_reti dX7_fill_44 (by first | rfl | exact pk_nbi _) ?_
        rw [if_pos c_39]
        exact ⟨rfl, hmf1, hRM⟩
    · refine pk_iconst (v := -1) dX7_fill_26 (by decide) ?_
      refine pk_reti dX7_fill_27 (by first | rfl | exact pk_nbi _) ?_
      rw [op_fill, if_pos]
      · exact ⟨rfl, hmf1, hRM⟩
      · rw [c_23, Bool.and_false]

def sp_da (A : pk_St) (q : Nat) : Nat := sp_dark (sp_lookA A (sp_s A q))
def sp_cm (A : pk_St) (p r : Nat) : Nat := if sp_gd A p r = true ∧ (sp_da A r < sp_da A p ∨ (sp_da A r = sp_da A p ∧ r < p)) then sp_s A r else 0
theorem sp_gd_of {A : pk_St} {p r : Nat} (h1 : sp_s A p ≠ 0) (h2 : sp_s A r ≠ 0) (h3 : sp_s A p &&& sp_s A r = 0) : sp_gd A p r = true := by
  unfold sp_gd
  rw [beq_eq_false_iff_ne.mpr h1, beq_eq_false_iff_ne.mpr h2, beq_iff_eq.mpr h3]
  rfl
theorem sp_gd_no {A : pk_St} {p r : Nat} (h : sp_s A p = 0 ∨ sp_s A r = 0 ∨ sp_s A p &&& sp_s A r ≠ 0) : sp_gd A p r = false := by
  unfold sp_gd
  rcases h with h | h | h
  · rw [beq_iff_eq.mpr h]
    rfl
  · rw [beq_iff_eq.mpr h, Bool.not_true, Bool.and_false, Bool.false_and]
  · rw [beq_eq_false_iff_ne.mpr h, Bool.and_false]

set_option maxRecDepth 100000 in
set_option maxHeartbeats 4000000 in
theorem e_X7_comesTo {Γ : pk_T} {M : pk_M} {L : Nat} {A : pk_St} (hN : pm_now L M A) {p q : Nat} (hp : p < 48) (hq : q < 48) : pk_E Γ yX7_comesTo cX7_comesTo 6 (some .int) 5 0 0 M [.ref 103, .int (nI p), .int (nI q)] (fun r M' => r = some (.int (nI (sp_cm A p q))) ∧ M' = M) := by
  obtain ⟨hW, hA, hok⟩ := hN
  have hw := hok.1
  have hh := hok.2.1
  have hs := hok.2.2.2.2.2.2.2.1
  refine pk_meth (own := RX7) (ini := false) [some (.ref 103), some (.int (nI p)), some (.int (nI q)), none, none, none] (by decide +kernel) rfl (by decide +kernel) rfl rfl ?_
  have h1 := hs p hp
  have h2 := hs q hq
  have h3 := pk_and_lt (a := sp_s A p) (b := sp_s A q) h1
  have hd1 : sp_da A p ≤ 45 := sp_dark_le _
  have hd2 : sp_da A q ≤ 45 := sp_dark_le _
  refine pk_aload_n dX7_comesTo_0 rfl ?_
  refine pk_iload_n dX7_comesTo_1 rfl ?_
  refine pk_Vi dX7_comesTo_2 ml_X7_92 yw_X7_setAt yv_X7_setAt (hW.s rfl) (e_X7_setAt ⟨hW, hA, hok⟩ (by omega)) rfl rfl rfl rfl rfl rfl rfl ?_
  refine pk_istore_n dX7_comesTo_5 rfl rfl ?_
  refine pk_aload_n dX7_comesTo_6 rfl ?_
  refine pk_iload_n dX7_comesTo_7 rfl ?_
  refine pk_Vi dX7_comesTo_8 ml_X7_92 yw_X7_setAt yv_X7_setAt (hW.s rfl) (e_X7_setAt ⟨hW, hA, hok⟩ (by omega)) rfl rfl rfl rfl rfl rfl rfl ?_
  refine pk_istore dX7_comesTo_11 rfl rfl ?_
  refine pk_iload_n dX7_comesTo_13 rfl ?_
  refine pk_eq0N (tgt := 29) dX7_comesTo_14 (by decide) (by omega) (fun c_14 => ?_) (fun c_14 => ?_)
  · refine pk_iconst (v := nI 0) dX7_comesTo_29 (by decide) ?_
    refine pk_reti dX7_comesTo_30 (by first | rfl | exact pk_nbi _) ?_
    unfold sp_cm
    rw [if_neg (fun h => by rw [sp_gd_no (Or.inl c_14)] at h; exact absurd h.1 (by decide))]
    exact ⟨rfl, rfl⟩
  · refine pk_iload dX7_comesTo_17 rfl ?_
    refine pk_eq0N (tgt := 29) dX7_comesTo_19 (by decide) (by omega) (fun c_19 => ?_) (fun c_19 => ?_)
    · refine pk_iconst (v := nI 0) dX7_comesTo_29 (by decide) ?_
      refine pk_reti dX7_comesTo_30 (by first | rfl | exact pk_nbi _) ?_
      unfold sp_cm
      rw [if_neg (fun h => by rw [sp_gd_no (Or.inr (Or.inl c_19))] at h; exact absurd h.1 (by decide))]
      exact ⟨rfl, rfl⟩
    · refine pk_iload_n dX7_comesTo_22 rfl ?_
      refine pk_iload dX7_comesTo_23 rfl ?_
      first | refine pk_andNN dX7_comesTo_25 ?_ | refine pk_iand dX7_comesTo_25 ?_
      refine pk_eq0N (tgt := 31) dX7_comesTo_26 (by decide) (by omega) (fun c_26 => ?_) (fun c_26 => ?_)
      · refine pk_aload_n dX7_comesTo_31 rfl ?_
        refine pk_iload dX7_comesTo_32 rfl ?_
        refine pk_Vi dX7_comesTo_34 ml_X7_136 yw_X7_dark yv_X7_dark (hW.s rfl) (e_X7_dark ⟨hW, hA, hok⟩ (by omega)) rfl rfl rfl rfl rfl rfl rfl ?_
        refine pk_aload_n dX7_comesTo_37 rfl ?_
        refine pk_iload_n dX7_comesTo_38 rfl ?_
        refine pk_Vi dX7_comesTo_39 ml_X7_136 yw_X7_dark yv_X7_dark (hW.s rfl) (e_X7_dark ⟨hW, hA, hok⟩ (by omega)) rfl rfl rfl rfl rfl rfl rfl ?_
        refine pk_isub dX7_comesTo_42 ?_
        refine pk_stq (st' := [.int (nI (sp_da A q) - nI (sp_da A p))]) rfl ?_
        refine pk_istore dX7_comesTo_43 rfl rfl ?_
        refine pk_iload dX7_comesTo_45 rfl ?_
        refine pk_if_lt (tgt := 60) dX7_comesTo_47 (by decide) (fun c_47 => ?_) (fun c_47 => ?_)
        · refine pk_iload dX7_comesTo_60 rfl ?_
          refine pk_goto (tgt := 66) dX7_comesTo_62 (by decide) ?_
          refine pk_reti dX7_comesTo_66 (by first | rfl | exact pk_nbi _) ?_
          have hgd := sp_gd_of c_14 c_19 c_26
          unfold sp_cm
          rw [if_pos ⟨hgd, Or.inl ((nI_sub_lt (by omega) (by omega)).mp c_47)⟩]
          exact ⟨rfl, rfl⟩
        · refine pk_iload dX7_comesTo_50 rfl ?_
          refine pk_if_ne (tgt := 65) dX7_comesTo_52 (by decide) (fun c_52 => ?_) (fun c_52 => ?_)
          · refine pk_iconst (v := nI 0) dX7_comesTo_65 (by decide) ?_
            refine pk_reti dX7_comesTo_66 (by first | rfl | exact pk_nbi _) ?_
            have hgd := sp_gd_of c_14 c_19 c_26
            unfold sp_cm
            have hl : ¬ sp_da A q < sp_da A p := fun h => c_47 ((nI_sub_lt (by omega) (by omega)).mpr h)
            have he : ¬ sp_da A q = sp_da A p := fun h => c_52 ((nI_sub_gt (by omega) (by omega)).2.mpr h)
            rw [if_neg (fun h => h.2.elim hl (fun z => he z.1))]
            exact ⟨rfl, rfl⟩
          · refine pk_iload_n dX7_comesTo_55 rfl ?_
            refine pk_iload_n dX7_comesTo_56 rfl ?_
            first | refine pk_geN (tgt := 65) dX7_comesTo_57 (by decide) (by omega) (by omega) (fun c_57 => ?_) (fun c_57 => ?_) | refine pk_icmp_ge (tgt := 65) dX7_comesTo_57 (by decide) (fun c_57 => ?_) (fun c_57 => ?_)
            · refine pk_iconst (v := nI 0) dX7_comesTo_65 (by decide) ?_
              refine pk_reti dX7_comesTo_66 (by first | rfl | exact pk_nbi _) ?_
              have hgd := sp_gd_of c_14 c_19 c_26
              unfold sp_cm
              have hl : ¬ sp_da A q < sp_da A p := fun h => c_47 ((nI_sub_lt (by omega) (by omega)).mpr h)
              rw [if_neg (fun h => h.2.elim hl (fun z => by have := z.2; omega))]
              exact ⟨rfl, rfl⟩
            · refine pk_iload dX7_comesTo_60 rfl ?_
              refine pk_goto (tgt := 66) dX7_comesTo_62 (by decide) ?_
              refine pk_reti dX7_comesTo_66 (by first | rfl | exact pk_nbi _) ?_
              have hgd := sp_gd_of c_14 c_19 c_26
              unfold sp_cm
              have hl : ¬ sp_da A q < sp_da A p := fun h => c_47 ((nI_sub_lt (by omega) (by omega)).mpr h)
              rw [if_pos ⟨hgd, Or.inr ⟨(nI_sub_gt (by omega) (by omega)).2.mp c_52, c_57⟩⟩]
              exact ⟨rfl, rfl⟩
      · refine pk_iconst (v := nI 0) dX7_comesTo_29 (by decide) ?_
        refine pk_reti dX7_comesTo_30 (by first | rfl | exact pk_nbi _) ?_
        unfold sp_cm
        rw [if_neg (fun h => by rw [sp_gd_no (Or.inr (Or.inr c_26))] at h; exact absurd h.1 (by decide))]
        exact ⟨rfl, rfl⟩
