/-! fill. -/
theorem pk_ara.ff {D : Nat → Prop} {A : pk_St} {M M1 : pk_M} (h : pk_ff D M M1) (hD : ∀ q, 82 ≤ q → q ≤ 87 → ¬ D q) (k : pk_ara A M) : pk_ara A M1 := ⟨(h.I (hD 82 (by omega) (by omega)) 6).trans k.1, fun q hq => (h.I (hD 83 (by omega) (by omega)) q).trans (k.2.1 q hq), fun r hr => ⟨(h.I (hD 84 (by omega) (by omega)) _).trans (k.2.2 r hr).1, (h.I (hD 85 (by omega) (by omega)) _).trans (k.2.2 r hr).2⟩⟩
theorem e_X4_writeN {Γ : pk_T} {M : pk_M} {L p : Nat} {A : pk_St} (hW : pk_WF L M) (hp : pk_isS p = true) (hA : pk_At M p A) (hok : pk_okS A) {i j : Nat} (hi : i < sp_w A) (hj : j < sp_h A) (v : Int32) : pk_E Γ yX4_write cX4_write 4 none 2 0 0 M [.ref p, .int (nI i), .int (nI j), .int v] (fun r M' => r = none ∧ M' = pk_sI M (p + 4) (j * 8 + i) v) := by
  have h := e_X4_write (Γ := Γ) hW hp hA hok (nI i) (nI j) v
  have h1 := hok.1
  have h2 := hok.2.1
  rw [sp_inb_n hok (by omega) (by omega), decide_eq_true hi, decide_eq_true hj, nI_clamp (by omega), nI_clamp (by omega)] at h
  exact h
theorem pk_okS.sets {A : pk_St} (h : pk_okS A) {f : Nat → Nat} (h1 : ∀ q, q < 48 → f q < 32) (h2 : ∀ q, q < 48 → sp_in A q = false → f q = 0) : pk_okS (s_sets A f) := ⟨h.1, h.2.1, h.2.2.1, h.2.2.2.1, h.2.2.2.2.1, h.2.2.2.2.2.1, h.2.2.2.2.2.2.1, h1, h2⟩
theorem pk_At.sets {M : pk_M} {A : pk_St} (h : pk_At M 6 A) {g : Nat → Int32} {f : Nat → Nat} (e : ∀ q, q < 48 → g q = nI (f q)) : pk_At (pk_wI M 10 g) 6 (s_sets A f) := ⟨pk_gW0 (by omega) h.1, pk_gW0 (by omega) h.2.1, pk_gW0 (by omega) h.2.2.1, fun i hi => pk_gW0 (by omega) (h.2.2.2.1 i hi), fun i hi => pk_gW0 (by omega) (h.2.2.2.2.1 i hi), fun i hi => pk_gW0 (by omega) (h.2.2.2.2.2.1 i hi), fun q hq => pk_gW1 rfl (e q hq)⟩
noncomputable def sp_fl (A : pk_St) (a v t q : Nat) : Nat := if q < t ∧ (sp_in A q && (sp_num2 A q == a)) = true then v else sp_s A q
theorem sp_fl_ok {A : pk_St} (h : pk_okS A) {a v : Nat} (hv : v < 32) (t : Nat) : pk_okS (s_sets A (sp_fl A a v t)) := by
  refine h.sets (fun q hq => ?_) (fun q hq hi => ?_)
  · unfold sp_fl
    split
    · exact hv
    · exact h.2.2.2.2.2.2.2.1 q hq
  · unfold sp_fl
    rw [if_neg (by rw [hi]; simp)]
    exact h.2.2.2.2.2.2.2.2 q hq hi
noncomputable def op_fill (X : pk_X) (a v : Int32) : Int32 × pk_X := if (sp_b a (sp_many X.1) && sp_b v 32) = false then (-1, X) else if sp_s X.1 (sp_ro X.1 a.toNatClampNeg) = v.toNatClampNeg then (-2, X) else (nI (sp_sz X.1 (sp_ro X.1 a.toNatClampNeg)), x_A (x_K X) (s_sets X.1 (sp_fl X.1 a.toNatClampNeg v.toNatClampNeg 48)))

set_option maxRecDepth 100000 in
set_option maxHeartbeats 4000000 in
theorem e_X6_fill {Γ : pk_T} {M : pk_M} {L : Nat} {X : pk_X} (hR : pk_RC L M X) (hX : pk_okX X) (a v : Int32) : pk_E Γ yX6_fill cX6_fill 5 (some .int) 5 0 0 M [.ref 5, .int a, .int v] (fun r M' => r = some (.int (op_fill X a v).1) ∧ pk_cf M M' ∧ pk_RC L M' (op_fill X a v).2) := by
  have hR0 := hR
  obtain ⟨hW, hro, hA, ⟨pl, hP⟩, hkb, ⟨pl2, kn, KH, hKP, hKq⟩, hKA, hTp, hSh⟩ := hR0
  have hok := hX.1
  have hw := hok.1
  have hh := hok.2.1
  have hn6 := hX.2.1.1
  refine pk_meth (own := RX6) (ini := false) [some (.ref 5), some (.int a), some (.int v), none, none] (by decide +kernel) rfl (by decide +kernel) rfl rfl ?_
  refine pk_aload_n dX6_fill_0 rfl ?_
  refine pk_getP dX6_fill_1 fl_X6_43 rfl (hW.s rfl) (hW.p rfl) ?_
  refine pk_aload_n dX6_fill_4 rfl ?_
  refine pk_getP dX6_fill_5 fl_X6_10 rfl (hW.s rfl) (hW.p rfl) ?_
  refine pk_Vvr dX6_fill_8 ml_X6_107 yw_X0_find yv_X0_find (hW.s rfl) (e_X0_find hW hA hok hro) rfl rfl rfl rfl rfl rfl rfl (fun M1 h1 => ?_)
  have hRM := hR.scr (h1.1.ff.mono (fun q h => by unfold pk_scr; omega))
  replace hW := h1.1.wf hW
  replace hA := h1.1.at (p := 6) (fun q g1 g2 g3 => by omega) hA
  replace hro := h1.1.ro (fun q g1 g2 => by omega) hro
  have hml := sp_many_le X.1
  refine pk_iload_n dX6_fill_11 rfl ?_
  refine pk_aload_n dX6_fill_12 rfl ?_
  refine pk_getP dX6_fill_13 fl_X6_43 rfl (hW.s rfl) (hW.p rfl) ?_
  refine pk_getN dX6_fill_16 fl_X6_112 rfl (hW.s rfl) h1.2.1 ?_
  refine pk_Si dX6_fill_19 ml_X6_71 yw_X6_isBelow ys_X6_isBelow (e_X6_isBelow _ _) rfl rfl rfl rfl rfl rfl rfl ?_
  first | refine pk_eqb (tgt := 34) dX6_fill_22 (by decide) (fun c_22 => ?_) (fun c_22 => ?_) | refine pk_eq0N (tgt := 34) dX6_fill_22 (by decide) (by omega) (fun c_22 => ?_) (fun c_22 => ?_) | refine pk_if_eq (tgt := 34) dX6_fill_22 (by decide) (fun c_22 => ?_) (fun c_22 => ?_)
  · refine pk_iconst (v := -1) dX6_fill_34 (by decide) ?_
    refine pk_reti dX6_fill_35 (by first | rfl | exact pk_nbi _) ?_
    rw [op_fill, if_pos]
    · exact ⟨rfl, h1.1.ff.mono (fun q h => by omega), hRM⟩
    · first | (rw [show sp_b a (sp_many X.1) = false from c_22]; rfl) | (rw [show sp_b v 32 = false from c_31, Bool.and_false])
  · obtain ⟨a, ha, rfl⟩ := sp_b_of c_22 (by omega)
    have hrl := sp_ro_lt hok ha
    have hri := sp_in_lt hok hrl.1
    have hs32 := hok.2.2.2.2.2.2.2.1 _ hrl.2
    have hat : sp_at X.1 (nI (sp_ro X.1 a % 8)) (nI (sp_ro X.1 a / 8)) = sp_s X.1 (sp_ro X.1 a) := by
      rw [sp_at_n hok hri.1 hri.2.1]
      congr 1
      omega
    refine pk_iload_n dX6_fill_25 rfl ?_
    refine pk_bipush (v := nI 32) dX6_fill_26 (by decide) ?_
    refine pk_Si dX6_fill_28 ml_X6_71 yw_X6_isBelow ys_X6_isBelow (e_X6_isBelow _ _) rfl rfl rfl rfl rfl rfl rfl ?_
    first | refine pk_neb (tgt := 36) dX6_fill_31 (by decide) (fun c_31 => ?_) (fun c_31 => ?_) | refine pk_ne0N (tgt := 36) dX6_fill_31 (by decide) (by omega) (fun c_31 => ?_) (fun c_31 => ?_) | refine pk_if_ne (tgt := 36) dX6_fill_31 (by decide) (fun c_31 => ?_) (fun c_31 => ?_)
    · obtain ⟨v, hv, rfl⟩ := sp_b_of c_31 (by decide)
      rw [op_fill, if_neg (by rw [sp_b_n ha (by omega), sp_b_n hv (by decide)]; decide), nI_clamp (show a < 2 ^ 31 by omega), nI_clamp (show v < 2 ^ 31 by omega)]
      refine pk_aload_n dX6_fill_36 rfl ?_
      refine pk_getP dX6_fill_37 fl_X6_10 rfl (hW.s rfl) (hW.p rfl) ?_
      refine pk_aload_n dX6_fill_40 rfl ?_
      refine pk_getP dX6_fill_41 fl_X6_43 rfl (hW.s rfl) (hW.p rfl) ?_
      refine pk_iload_n dX6_fill_44 rfl ?_
      refine pk_Vi dX6_fill_45 ml_X6_116 yw_X0_firstX yv_X0_firstX (hW.s rfl) (e_X0_firstX hW hok h1.2 ha) rfl rfl rfl rfl rfl rfl rfl ?_
      refine pk_aload_n dX6_fill_48 rfl ?_
      refine pk_getP dX6_fill_49 fl_X6_43 rfl (hW.s rfl) (hW.p rfl) ?_
      refine pk_iload_n dX6_fill_52 rfl ?_
      refine pk_Vi dX6_fill_53 ml_X6_119 yw_X0_firstY yv_X0_firstY (hW.s rfl) (e_X0_firstY hW hok h1.2 ha) rfl rfl rfl rfl rfl rfl rfl ?_
      refine pk_Vi dX6_fill_56 ml_X6_103 yw_X4_at yv_X4_at (hW.s rfl) (e_X4_at (p := 6) hW rfl hA hok _ _ hat) rfl rfl rfl rfl rfl rfl rfl ?_
      refine pk_iload_n dX6_fill_59 rfl ?_
      first | refine pk_neN (tgt := 66) dX6_fill_60 (by decide) (by omega) (by omega) (fun c_60 => ?_) (fun c_60 => ?_) | refine pk_icmp_ne (tgt := 66) dX6_fill_60 (by decide) (fun c_60 => ?_) (fun c_60 => ?_)
      · have hRM0 := hRM
        obtain ⟨-, -, -, ⟨pl1, hP1⟩, -⟩ := hRM0
        rw [if_neg c_60]
        refine pk_aload_n dX6_fill_66 rfl ?_
        refine pk_getP dX6_fill_67 fl_X6_19 rfl (hW.s rfl) (hW.p rfl) ?_
        refine pk_aload_n dX6_fill_70 rfl ?_
        refine pk_getP dX6_fill_71 fl_X6_10 rfl (hW.s rfl) (hW.p rfl) ?_
        refine pk_Vvr dX6_fill_74 ml_X6_196 yw_X2_keep yv_X2_keep (hW.s rfl) (e_X2_keep hW hA hP1) rfl rfl rfl rfl rfl rfl rfl (fun M2 h2 => ?_)
        have hRk := hRM.kp h2
        have hfk := h2.1
        replace hW := hRk.1
        have hA2 : pk_At M2 6 X.1 := hRk.2.2.1
        have har2 : pk_ara X.1 M2 := h1.2.ff hfk (fun q g1 g2 g3 => by omega)
        have hAt : ∀ t, pk_At (pk_wI M2 10 (fun q => if q < t ∧ (sp_in X.1 q && (sp_num2 X.1 q == a)) = true then nI v else pk_I M2 10 q)) 6 (s_sets X.1 (sp_fl X.1 a v t)) := fun t => hA2.sets (fun q hq => by
          unfold sp_fl
          split
          · rfl
          · exact hA2.2.2.2.2.2.2 q hq)
        have hWt : ∀ t, pk_WF L (pk_wI M2 10 (fun q => if q < t ∧ (sp_in X.1 q && (sp_num2 X.1 q == a)) = true then nI v else pk_I M2 10 q)) := fun t => hW.to rfl rfl
        have hart : ∀ t, pk_ara X.1 (pk_wI M2 10 (fun q => if q < t ∧ (sp_in X.1 q && (sp_num2 X.1 q == a)) = true then nI v else pk_I M2 10 q)) := fun t => har2.ff (pk_fr.wI (D := fun q => q = 10) rfl).ff (fun q g1 g2 g3 => by omega)
        refine pk_iconst (v := nI 0) dX6_fill_77 (by decide) ?_
        refine pk_istore_n dX6_fill_78 rfl rfl ?_
        refine pk_Mq (M' := (pk_wI M2 10 (fun q => if q < 8 * 0 ∧ (sp_in X.1 q && (sp_num2 X.1 q == a)) = true then nI v else pk_I M2 10 q))) ?_ ?_
        · refine Eq.trans (pk_wI_id M2 10).symm ?_
          congr 1
        refine pk_fgt (ls' := [some (.ref 5), some (.int (nI a)), some (.int (nI v)), some (.int (nI 0)), none]) (by repeat first | exact trivial | refine ⟨rfl, ?_⟩) ?_
        refine pk_for (sp_h X.1) (fun j => (pk_wI M2 10 (fun q => if q < 8 * j ∧ (sp_in X.1 q && (sp_num2 X.1 q == a)) = true then nI v else pk_I M2 10 q))) (fun j => [some (.ref 5), some (.int (nI a)), some (.int (nI v)), some (.int (nI j)), none]) ?_ ?_ 0 (by omega)
        · intro j hj K1
          have hWj := hWt (8 * j)
          have hAj := hAt (8 * j)
          refine pk_iload_n dX6_fill_79 rfl ?_
          refine pk_aload_n dX6_fill_80 rfl ?_
          refine pk_getP dX6_fill_81 fl_X6_10 rfl (hWj.s rfl) (hWj.p rfl) ?_
          refine pk_getN dX6_fill_84 fl_X6_161 rfl (hWj.s rfl) hAj.2.1 ?_
          refine pk_geN (a := j) (b := sp_h X.1) (tgt := 142) dX6_fill_87 (by decide) (by omega) (by omega) (fun c_87 => ?_) (fun c_87 => ?_)
          · omega
          · refine pk_iconst (v := nI 0) dX6_fill_90 (by decide) ?_
            refine pk_istore dX6_fill_91 rfl rfl ?_
            refine pk_for (sp_w X.1) (fun i => (pk_wI M2 10 (fun q => if q < 8 * j + i ∧ (sp_in X.1 q && (sp_num2 X.1 q == a)) = true then nI v else pk_I M2 10 q))) (fun i => [some (.ref 5), some (.int (nI a)), some (.int (nI v)), some (.int (nI j)), some (.int (nI i))]) ?_ ?_ 0 (by omega)
            · intro i hi K
              have hWi := hWt (8 * j + i)
              have hAi := hAt (8 * j + i)
              have hari := hart (8 * j + i)
              have hin : sp_in X.1 (j * 8 + i) = true := sp_in_of (by omega) (by omega)
              have hzl := sp_num2_lt hok hin
              refine pk_iload dX6_fill_93 rfl ?_
              refine pk_aload_n dX6_fill_95 rfl ?_
              refine pk_getP dX6_fill_96 fl_X6_10 rfl (hWi.s rfl) (hWi.p rfl) ?_
              refine pk_getN dX6_fill_99 fl_X6_160 rfl (hWi.s rfl) hAi.1 ?_
              refine pk_geN (a := i) (b := sp_w X.1) (tgt := 136) dX6_fill_102 (by decide) (by omega) (by omega) (fun c_102 => ?_) (fun c_102 => ?_)
              · omega
              · refine pk_aload_n dX6_fill_105 rfl ?_
                refine pk_getP dX6_fill_106 fl_X6_43 rfl (hWi.s rfl) (hWi.p rfl) ?_
                refine pk_iload dX6_fill_109 rfl ?_
                refine pk_iload_n dX6_fill_111 rfl ?_
                refine pk_Vi dX6_fill_112 ml_X6_111 yw_X0_at yv_X0_at (hWi.s rfl) (e_X0_at hWi (by omega)) rfl rfl rfl rfl rfl rfl rfl ?_
                rw [hari.2.1 _ hin]
                refine pk_iload_n dX6_fill_115 rfl ?_
                first | refine pk_neN (tgt := 130) dX6_fill_116 (by decide) (by omega) (by omega) (fun c_116 => ?_) (fun c_116 => ?_) | refine pk_icmp_ne (tgt := 130) dX6_fill_116 (by decide) (fun c_116 => ?_) (fun c_116 => ?_)
                · first | refine pk_inc1 dX6_fill_130 rfl rfl ?_ | refine pk_iinc dX6_fill_130 rfl rfl rfl ?_
                  refine pk_goto (tgt := 93) dX6_fill_133 (by decide) ?_
                  refine pk_fgt (by repeat first | exact trivial | refine ⟨rfl, ?_⟩) (pk_Mq ?_ K)
                  try rw [pk_wI_sI]
                  congr 1
                  funext q
                  by_cases e : q = j * 8 + i
                  · subst e
                    by_cases hk : sp_num2 X.1 (j * 8 + i) = a
                    · first
                        | exact absurd hk c_116
                        | rw [if_pos rfl, if_pos ⟨by omega, by rw [hin, hk]; simp⟩]
                    · first
                        | exact absurd c_116 hk
                        | rw [if_neg (fun h => by have := h.2; simp [hk] at this), if_neg (fun h => by have := h.2; simp [hk] at this)]
                  · try rw [if_neg e]
                    by_cases hc : (sp_in X.1 q && (sp_num2 X.1 q == a)) = true
                    · by_cases h3 : q < 8 * j + i
                      · rw [if_pos ⟨h3, hc⟩, if_pos ⟨by omega, hc⟩]
                      · rw [if_neg (fun h => h3 h.1), if_neg (fun h => by have := h.1; omega)]
                    · rw [if_neg (fun h => hc h.2), if_neg (fun h => hc h.2)]
                · refine pk_aload_n dX6_fill_119 rfl ?_
                  refine pk_getP dX6_fill_120 fl_X6_10 rfl (hWi.s rfl) (hWi.p rfl) ?_
                  refine pk_iload dX6_fill_123 rfl ?_
                  refine pk_iload_n dX6_fill_125 rfl ?_
                  refine pk_iload_n dX6_fill_126 rfl ?_
                  refine pk_Vv dX6_fill_127 ml_X6_202 yw_X4_write yv_X4_write (hWi.s rfl) (e_X4_writeN (p := 6) hWi rfl hAi (sp_fl_ok hok hv _) hi hj _) rfl rfl rfl rfl rfl rfl rfl ?_
                  first | refine pk_inc1 dX6_fill_130 rfl rfl ?_ | refine pk_iinc dX6_fill_130 rfl rfl rfl ?_
                  refine pk_goto (tgt := 93) dX6_fill_133 (by decide) ?_
                  refine pk_fgt (by repeat first | exact trivial | refine ⟨rfl, ?_⟩) (pk_Mq ?_ K)
                  try rw [pk_wI_sI]
                  congr 1
                  funext q
                  by_cases e : q = j * 8 + i
                  · subst e
                    by_cases hk : sp_num2 X.1 (j * 8 + i) = a
                    · first
                        | exact absurd hk c_116
                        | rw [if_pos rfl, if_pos ⟨by omega, by rw [hin, hk]; simp⟩]
                    · first
                        | exact absurd c_116 hk
                        | rw [if_neg (fun h => by have := h.2; simp [hk] at this), if_neg (fun h => by have := h.2; simp [hk] at this)]
                  · try rw [if_neg e]
                    by_cases hc : (sp_in X.1 q && (sp_num2 X.1 q == a)) = true
                    · by_cases h3 : q < 8 * j + i
                      · rw [if_pos ⟨h3, hc⟩, if_pos ⟨by omega, hc⟩]
                      · rw [if_neg (fun h => h3 h.1), if_neg (fun h => by have := h.1; omega)]
                    · rw [if_neg (fun h => hc h.2), if_neg (fun h => hc h.2)]
            · have hWi := hWt (8 * j + sp_w X.1)
              have hAi := hAt (8 * j + sp_w X.1)
              refine pk_iload dX6_fill_93 rfl ?_
              refine pk_aload_n dX6_fill_95 rfl ?_
              refine pk_getP dX6_fill_96 fl_X6_10 rfl (hWi.s rfl) (hWi.p rfl) ?_
              refine pk_getN dX6_fill_99 fl_X6_160 rfl (hWi.s rfl) hAi.1 ?_
              refine pk_geN (a := sp_w X.1) (b := sp_w X.1) (tgt := 136) dX6_fill_102 (by decide) (by omega) (by omega) (fun c_102 => ?_) (fun c_102 => ?_)
              · first | refine pk_inc1 dX6_fill_136 rfl rfl ?_ | refine pk_iinc dX6_fill_136 rfl rfl rfl ?_
                refine pk_goto (tgt := 79) dX6_fill_139 (by decide) ?_
                refine pk_fgt (by repeat first | exact trivial | refine ⟨rfl, ?_⟩) (pk_Mq ?_ K1)
                congr 1
                funext q
                by_cases hc : (sp_in X.1 q && (sp_num2 X.1 q == a)) = true
                · have hq := sp_in_lt hok (Bool.and_eq_true_iff.mp hc).1
                  by_cases h3 : q < 8 * j + sp_w X.1
                  · rw [if_pos ⟨h3, hc⟩, if_pos ⟨by omega, hc⟩]
                  · rw [if_neg (fun h => h3 h.1), if_neg (fun h => by have := h.1; omega)]
                · rw [if_neg (fun h => hc h.2), if_neg (fun h => hc h.2)]
              · omega
        · have hWj := hWt (8 * sp_h X.1)
          have hAj := hAt (8 * sp_h X.1)
          have harj := hart (8 * sp_h X.1)
          refine pk_iload_n dX6_fill_79 rfl ?_
          refine pk_aload_n dX6_fill_80 rfl ?_
          refine pk_getP dX6_fill_81 fl_X6_10 rfl (hWj.s rfl) (hWj.p rfl) ?_
          refine pk_getN dX6_fill_84 fl_X6_161 rfl (hWj.s rfl) hAj.2.1 ?_
          refine pk_geN (a := sp_h X.1) (b := sp_h X.1) (tgt := 142) dX6_fill_87 (by decide) (by omega) (by omega) (fun c_87 => ?_) (fun c_87 => ?_)
          · refine pk_aload_n dX6_fill_142 rfl ?_
            refine pk_getP dX6_fill_143 fl_X6_43 rfl (hWj.s rfl) (hWj.p rfl) ?_
            refine pk_iload_n dX6_fill_146 rfl ?_
            refine pk_Vi dX6_fill_147 ml_X6_122 yw_X0_placesOf yv_X0_placesOf (hWj.s rfl) (e_X0_placesOf hWj hok harj ha) rfl rfl rfl rfl rfl rfl rfl ?_
            refine pk_reti dX6_fill_150 (by first | rfl | exact pk_nbi _) ?_
            have hf : pk_fr (fun q => 6 ≤ q ∧ q ≤ 10) M2 _ := pk_fr.wI (M := M2) (p := 10) (f := fun q => if q < 8 * sp_h X.1 ∧ (sp_in X.1 q && (sp_num2 X.1 q == a)) = true then nI v else pk_I M2 10 q) ⟨by decide, by decide⟩
            refine ⟨rfl, ((h1.1.ff.mono (fun q h => by omega)).tr (hfk.mono (fun q h => by omega))).tr (hf.ff.mono (fun q h => by omega)), hRk.st hf.ff (hA2.sets (fun q hq => ?_))⟩
            unfold sp_fl
            by_cases hc : (sp_in X.1 q && (sp_num2 X.1 q == a)) = true
            · have hq := sp_in_lt hok (Bool.and_eq_true_iff.mp hc).1
              rw [if_pos ⟨by omega, hc⟩, if_pos ⟨by omega, hc⟩]
            · rw [if_neg (fun h => hc h.2), if_neg (fun h => hc h.2)]
              exact hA2.2.2.2.2.2.2 q hq
          · omega
      · refine pk_bipush (v := -2) dX6_fill_63 (by decide) ?_
        refine pk_reti dX6_fill_65 (by first | rfl | exact pk_nbi _) ?_
        rw [if_pos c_60]
        exact ⟨rfl, h1.1.ff.mono (fun q h => by omega), hRM⟩
    · refine pk_iconst (v := -1) dX6_fill_34 (by decide) ?_
      refine pk_reti dX6_fill_35 (by first | rfl | exact pk_nbi _) ?_
      rw [op_fill, if_pos]
      · exact ⟨rfl, h1.1.ff.mono (fun q h => by omega), hRM⟩
      · first | (rw [show sp_b a (sp_many X.1) = false from c_22]; rfl) | (rw [show sp_b v 32 = false from c_31, Bool.and_false])
