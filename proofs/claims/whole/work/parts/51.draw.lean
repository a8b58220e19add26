/-! The public draw. -/
def s_new (A : pk_St) (w h : Nat) (g : Nat → Nat) : pk_St := (w, h, A.2.2.1, A.2.2.2.1, A.2.2.2.2.1, A.2.2.2.2.2.1, g)
def op_draw (X : pk_X) : Int32 × pk_X := if (sp_text X.2.2.2.1.2 X.2.2.2.1.1).1 = false then (-20 - nI (sp_text X.2.2.2.1.2 X.2.2.2.1.1).2.1, (X.1, X.2.1, X.2.2.1, (0, X.2.2.2.1.2), X.2.2.2.2)) else (nI ((sp_text X.2.2.2.1.2 X.2.2.2.1.1).2.2.1 * (sp_text X.2.2.2.1.2 X.2.2.2.1.1).2.2.2.1), (s_new X.1 (sp_text X.2.2.2.1.2 X.2.2.2.1.1).2.2.1 (sp_text X.2.2.2.1.2 X.2.2.2.1.1).2.2.2.1 (sp_text X.2.2.2.1.2 X.2.2.2.1.1).2.2.2.2.2, (0, X.2.1.2), X.2.2.1, (0, X.2.2.2.1.2), X.2.2.2.2))
theorem pk_RC.dr {L w h : Nat} {M M1 : pk_M} {X : pk_X} {g f : Nat → Nat} (h0 : pk_ff (fun q => q = 88 ∨ q = 90 ∨ q = 6 ∨ q = 10 ∨ q = 11) M M1) (hR : pk_RC L M X) (e0 : pk_I M1 88 2 = nI 0) (e1 : pk_I M1 6 4 = nI w) (e2 : pk_I M1 6 5 = nI h) (e3 : pk_I M1 6 6 = nI (sp_d X.1)) (e4 : ∀ q, q < 48 → pk_I M1 10 q = nI (g q)) (e5 : pk_I M1 11 1 = nI 0) : pk_RC L M1 (s_new X.1 w h g, (0, X.2.1.2), X.2.2.1, (0, f), X.2.2.2.2) := by
  obtain ⟨h1, h2, h3, ⟨pl, h4⟩, h5, ⟨pl2, kn, KH, h6, h6b⟩, h7, h8, h9⟩ := hR
  exact ⟨h0.wf h1, h0.ro (fun q hq z => by omega) h2, ⟨e1, e2, e3, fun i hi => (h0.I (by omega) i).trans (h3.2.2.2.1 i hi), fun i hi => (h0.I (by omega) i).trans (h3.2.2.2.2.1 i hi), fun i hi => (h0.I (by omega) i).trans (h3.2.2.2.2.2.1 i hi), e4⟩, ⟨pl, h4.1, e5, Nat.zero_le 6, fun k hk => (h0.P (by omega) k).trans (h4.2.2.2.1 k hk), h4.2.2.2.2.1, h4.2.2.2.2.2.1, fun k hk => absurd hk (Nat.not_lt_zero k)⟩, (h0.I (by omega) 4).trans h5, ⟨pl2, kn, KH, h6.ff h0 ⟨by omega, by omega, fun q g1 g2 z => by omega⟩, h6b⟩, fun hk => h0.at (fun q g1 g2 z => by omega) (h7 hk), ⟨e0, fun i hi => absurd hi (Nat.not_lt_zero i)⟩, fun k hk => (h9 k hk).ff h0 (by omega) (by omega)⟩
theorem pk_RC.tp0 {L : Nat} {M M1 : pk_M} {X : pk_X} {f : Nat → Nat} (h : pk_ff (fun q => q = 88 ∨ q = 90) M M1) (hR : pk_RC L M X) (e1 : pk_I M1 88 2 = nI 0) : pk_RC L M1 (X.1, X.2.1, X.2.2.1, (0, f), X.2.2.2.2) := by
  obtain ⟨h1, h2, h3, ⟨pl, h4⟩, h5, ⟨pl2, kn, KH, h6, h6b⟩, h7, h8, h9⟩ := hR
  exact ⟨h.wf h1, h.ro (fun q hq z => by omega) h2, h.at (fun q g1 g2 z => by omega) h3, ⟨pl, h4.ff h ⟨by omega, by omega, fun q g1 g2 z => by omega⟩⟩, (h.I (by omega) 4).trans h5, ⟨pl2, kn, KH, h6.ff h ⟨by omega, by omega, fun q g1 g2 z => by omega⟩, h6b⟩, fun hk => h.at (fun q g1 g2 z => by omega) (h7 hk), ⟨e1, fun i hi => absurd hi (Nat.not_lt_zero i)⟩, fun k hk => (h9 k hk).ff h (by omega) (by omega)⟩

set_option maxRecDepth 100000 in
set_option maxHeartbeats 4000000 in
theorem e_X6_draw {Γ : pk_T} {M : pk_M} {L : Nat} {X : pk_X} (hR : pk_RC L M X) (hX : pk_okX X) : pk_E Γ yX6_draw cX6_draw 2 (some .int) 6 0 0 M [.ref 5] (fun r M' => r = some (.int (op_draw X).1) ∧ pk_cf M M' ∧ pk_RC L M' (op_draw X).2) := by
  have hR0 := hR
  obtain ⟨hW, hro, hA, ⟨pl, hP⟩, hkb, ⟨pl2, kn, KH, hKP, hKq⟩, hKA, hTp, hSh⟩ := hR0
  have hok := hX.1
  have hw := hok.1
  have hh := hok.2.1
  have hn6 := hX.2.1.1
  refine pk_meth (own := RX6) (ini := false) [some (.ref 5), none] (by decide +kernel) rfl (by decide +kernel) rfl rfl ?_
  refine pk_aload_n dX6_draw_0 rfl ?_
  refine pk_getP dX6_draw_1 fl_X6_50 rfl (hW.s rfl) (hW.p rfl) ?_
  refine pk_Vg dX6_draw_4 ml_X6_137 yw_X5_read yv_X5_read (hW.s rfl) (e_X5_read hW hTp.1 hX.2.2.2.1.1 hTp.2 (fun i hi => (hX.2.2.2.1.2 i hi).2)) rfl rfl rfl rfl rfl rfl rfl (fun v M1 hv => ?_)
  obtain ⟨hv1, hF, hx, hall⟩ := hv
  cases hv1
  replace hW := hF.wf hW
  refine pk_istore_n dX6_draw_7 rfl rfl ?_
  refine pk_aload_n dX6_draw_8 rfl ?_
  refine pk_getP dX6_draw_9 fl_X6_50 rfl (hW.s rfl) (hW.p rfl) ?_
  refine pk_iconst (v := nI 0) dX6_draw_12 (by decide) ?_
  refine pk_putI dX6_draw_13 fl_X6_136 rfl rfl rfl rfl (hW.s rfl) ?_
  refine pk_iload_n dX6_draw_16 rfl ?_
  refine pk_neb (tgt := 31) dX6_draw_17 (by decide) (fun c_17 => ?_) (fun c_17 => ?_)
  · obtain ⟨g1, g2, g3⟩ := hall c_17
    refine pk_aload_n dX6_draw_31 rfl ?_
    refine pk_getP dX6_draw_32 fl_X6_10 rfl (hW.s rfl) (hW.p rfl) ?_
    refine pk_aload_n dX6_draw_35 rfl ?_
    refine pk_getP dX6_draw_36 fl_X6_50 rfl (hW.s rfl) (hW.p rfl) ?_
    refine pk_getP dX6_draw_39 fl_X6_144 rfl (hW.s rfl) (hW.p rfl) ?_
    refine pk_aload_n dX6_draw_42 rfl ?_
    refine pk_getP dX6_draw_43 fl_X6_50 rfl (hW.s rfl) (hW.p rfl) ?_
    refine pk_getN dX6_draw_46 fl_X6_147 rfl (hW.s rfl) (pk_gS0 (by omega) g1) ?_
    refine pk_aload_n dX6_draw_49 rfl ?_
    refine pk_getP dX6_draw_50 fl_X6_50 rfl (hW.s rfl) (hW.p rfl) ?_
    refine pk_getN dX6_draw_53 fl_X6_150 rfl (hW.s rfl) (pk_gS0 (by omega) g2) ?_
    refine pk_Vv dX6_draw_56 ml_X6_153 yw_X4_become_ yv_X4_become_ (hW.s rfl) (e_X4_become_ hW rfl (hW.s rfl) (by decide)) rfl rfl rfl rfl rfl rfl rfl ?_
    have hW3 : pk_WF L (pk_sI (pk_sI (pk_cI (pk_sI M1 88 2 (nI 0)) 90 0 (6 + 4) 0 48) 6 4 (nI (sp_text X.2.2.2.1.2 X.2.2.2.1.1).2.2.1)) 6 5 (nI (sp_text X.2.2.2.1.2 X.2.2.2.1.1).2.2.2.1)) := hW.to rfl rfl
    refine pk_aload_n dX6_draw_59 rfl ?_
    refine pk_getP dX6_draw_60 fl_X6_19 rfl (hW.s rfl) (hW.p rfl) ?_
    refine pk_iconst (v := nI 0) dX6_draw_63 (by decide) ?_
    refine pk_putI dX6_draw_64 fl_X6_157 rfl rfl rfl rfl (hW.s rfl) ?_
    have hW4 : pk_WF L (pk_sI (pk_sI (pk_sI (pk_cI (pk_sI M1 88 2 (nI 0)) 90 0 (6 + 4) 0 48) 6 4 (nI (sp_text X.2.2.2.1.2 X.2.2.2.1.1).2.2.1)) 6 5 (nI (sp_text X.2.2.2.1.2 X.2.2.2.1.1).2.2.2.1)) 11 1 (nI 0)) := hW.to rfl rfl
    refine pk_aload_n dX6_draw_67 rfl ?_
    refine pk_getP dX6_draw_68 fl_X6_10 rfl (hW.s rfl) (hW.p rfl) ?_
    refine pk_getN dX6_draw_71 fl_X6_160 rfl (hW.s rfl) (pk_gS0 (by omega) (pk_gS0 (by omega) (pk_gS1 rfl rfl rfl))) ?_
    refine pk_aload_n dX6_draw_74 rfl ?_
    refine pk_getP dX6_draw_75 fl_X6_10 rfl (hW.s rfl) (hW.p rfl) ?_
    refine pk_getN dX6_draw_78 fl_X6_161 rfl (hW.s rfl) (pk_gS0 (by omega) (pk_gS1 rfl rfl rfl)) ?_
    first | refine pk_mulN dX6_draw_81 ?_ | refine pk_imul dX6_draw_81 ?_
    refine pk_reti dX6_draw_82 (by first | rfl | exact pk_nbi _) ?_
    have hfr : pk_fr (fun q => q = 88 ∨ q = 90 ∨ q = 6 ∨ q = 10 ∨ q = 11) M (pk_sI (pk_sI (pk_sI (pk_cI (pk_sI M1 88 2 (nI 0)) 90 0 (6 + 4) 0 48) 6 4 (nI (sp_text X.2.2.2.1.2 X.2.2.2.1.1).2.2.1)) 6 5 (nI (sp_text X.2.2.2.1.2 X.2.2.2.1.1).2.2.2.1)) 11 1 (nI 0)) := (hF.mono (fun q h => by unfold pk_tD at h; omega)).tr ((pk_fr.sI (by omega)).tr ((pk_fr.cI (by omega)).tr ((pk_fr.sI (by omega)).tr ((pk_fr.sI (by omega)).tr (pk_fr.sI (by omega))))))
    rw [op_draw, if_neg (by rw [c_17]; decide)]
    refine ⟨rfl, hfr.ff.mono (fun q h => by omega), hR.dr hfr.ff ?_ ?_ ?_ ?_ ?_ ?_⟩
    · exact pk_gS0 (by omega) (pk_gS0 (by omega) (pk_gS0 (by omega) (pk_gC0 (by omega) (pk_gS1 rfl rfl rfl))))
    · exact pk_gS0 (by omega) (pk_gS0 (by omega) (pk_gS1 rfl rfl rfl))
    · exact pk_gS0 (by omega) (pk_gS1 rfl rfl rfl)
    · exact pk_gS0 (by omega) (pk_gS0 (by omega) (pk_gS0 (by omega) (pk_gC0 (by omega) (pk_gS0 (by omega) ((hF.I (by unfold pk_tD; omega) 6).trans hA.2.2.1)))))
    · intro q hq
      refine pk_gS0 (by omega) (pk_gS0 (by omega) (pk_gS0 (by omega) (pk_gC1 ⟨rfl, by omega, by omega⟩ ?_)))
      rw [show 0 + (q - 0) = q by omega]
      exact pk_gS0 (by omega) (g3 q hq)
    · exact pk_gS1 rfl rfl rfl
  · refine pk_bipush (v := -20) dX6_draw_20 (by decide) ?_
    refine pk_aload_n dX6_draw_22 rfl ?_
    refine pk_getP dX6_draw_23 fl_X6_50 rfl (hW.s rfl) (hW.p rfl) ?_
    refine pk_getN dX6_draw_26 fl_X6_141 rfl (hW.s rfl) (pk_gS0 (by omega) hx) ?_
    first | refine pk_subN dX6_draw_29 (by omega) ?_ | refine pk_isub dX6_draw_29 ?_
    refine pk_reti dX6_draw_30 (by first | rfl | exact pk_nbi _) ?_
    have hff : pk_ff (fun q => q = 88 ∨ q = 90) M (pk_sI M1 88 2 (nI 0)) := (hF.tr (pk_fr.sI (Or.inl rfl))).ff
    rw [op_draw, if_pos c_17]
    exact ⟨rfl, hff.mono (fun q h => by omega), hR.tp0 hff (pk_gS1 rfl rfl rfl)⟩
