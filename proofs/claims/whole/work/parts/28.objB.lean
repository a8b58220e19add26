/-! image, restore, size, order, sheets. -/
set_option maxRecDepth 100000 in
set_option maxHeartbeats 4000000 in
theorem e_X6_image {Γ : pk_T} {M : pk_M} {L : Nat} {X : pk_X} (hR : pk_RC L M X) (hX : pk_okX X) : pk_E Γ yX6_image cX6_image 1 (some .int) 3 0 0 M [.ref 5] (fun r M' => r = some (.int (op_image X).1) ∧ pk_cf M M' ∧ pk_RC L M' (op_image X).2) := by
  have hR0 := hR
  obtain ⟨hW, hro, hA, ⟨pl, hP⟩, hkb, ⟨pl2, kn, KH, hKP, hKq⟩, hKA, hTp, hSh⟩ := hR0
  have hok := hX.1
  have hw := hok.1
  have hh := hok.2.1
  have hn6 := hX.2.1.1
  refine pk_meth (own := RX6) (ini := false) [some (.ref 5)] (by decide +kernel) rfl (by decide +kernel) rfl rfl ?_
  refine pk_aload_n dX6_image_0 rfl ?_
  refine pk_getP dX6_image_1 fl_X6_23 rfl (hW.s rfl) (hW.p rfl) ?_
  refine pk_aload_n dX6_image_4 rfl ?_
  refine pk_getP dX6_image_5 fl_X6_10 rfl (hW.s rfl) (hW.p rfl) ?_
  refine pk_Vvr dX6_image_8 ml_X6_255 yw_X4_become yv_X4_become (hW.s rfl) (e_X4_become (p := 43) (o := 6) hW rfl rfl (by decide) hA) rfl rfl rfl rfl rfl rfl rfl (fun M1 h1 => ?_)
  obtain ⟨hf1, hA1⟩ := h1
  have hW1 := hf1.wf hW
  refine pk_aload_n dX6_image_11 rfl ?_
  refine pk_getP dX6_image_12 fl_X6_26 rfl (hW1.s rfl) (hW1.p rfl) ?_
  refine pk_aload_n dX6_image_15 rfl ?_
  refine pk_getP dX6_image_16 fl_X6_19 rfl (hW1.s rfl) (hW1.p rfl) ?_
  refine pk_Vvr dX6_image_19 ml_X6_257 yw_X2_become yv_X2_become (hW1.s rfl) (e_X2_become (p := 48) (M := M1) (hf1.wf hW) (hKP.ff hf1.ff ⟨by omega, by omega, fun q g1 g2 z => by omega⟩) (hP.ff hf1.ff ⟨by omega, by omega, fun q g1 g2 z => by omega⟩) (by decide)) rfl rfl rfl rfl rfl rfl rfl (fun M2 h2 => ?_)
  obtain ⟨hf2, hP2⟩ := h2
  have hW2 := hf2.wf hW1
  refine pk_aload_n dX6_image_22 rfl ?_
  refine pk_iconst (v := nI 1) dX6_image_23 (by decide) ?_
  refine pk_putI dX6_image_24 fl_X6_29 rfl rfl rfl rfl (hW2.s rfl) ?_
  refine pk_iconst (v := nI 1) dX6_image_27 (by decide) ?_
  refine pk_reti dX6_image_28 (by first | rfl | exact pk_nbi _) ?_
  have hff : pk_ff (fun q => q = 5 ∨ (43 ≤ q ∧ q < 80)) M (pk_sI M2 5 4 (nI 1)) := ((hf1.ff.mono (fun q h => by omega)).tr (hf2.mono (fun q h => by omega))).tr (pk_fr.ff (pk_fr.sI (Or.inl rfl)))
  have hf3 : pk_ff (fun q => q = 5) M2 (pk_sI M2 5 4 (nI 1)) := pk_fr.ff (pk_fr.sI rfl)
  exact ⟨rfl, hff.mono (fun q h => by omega), hff.wf hW, hff.ro (fun q h => by omega) hro, hff.at (fun q g1 g2 z => by omega) hA, ⟨pl, hP.ff hff ⟨by omega, by omega, fun q g1 g2 z => by omega⟩⟩, pk_gS1 rfl rfl rfl, ⟨pl2, _, _, hP2.ff hf3 ⟨by omega, by omega, fun q g1 g2 z => by omega⟩, fun _ => ⟨rfl, rfl⟩⟩, fun _ => hf3.at (fun q g1 g2 z => by omega) (hf2.at (fun q g1 g2 z => by omega) hA1), ⟨(hff.I (by omega) 2).trans hTp.1, fun i hi => (hff.I (by omega) i).trans (hTp.2 i hi)⟩, fun k hk => (hSh k hk).ff hff (by omega) (by omega)⟩

set_option maxRecDepth 100000 in
set_option maxHeartbeats 4000000 in
theorem e_X6_restore {Γ : pk_T} {M : pk_M} {L : Nat} {X : pk_X} (hR : pk_RC L M X) (hX : pk_okX X) : pk_E Γ yX6_restore cX6_restore 1 (some .int) 3 0 0 M [.ref 5] (fun r M' => r = some (.int (op_restore X).1) ∧ pk_cf M M' ∧ pk_RC L M' (op_restore X).2) := by
  have hR0 := hR
  obtain ⟨hW, hro, hA, ⟨pl, hP⟩, hkb, ⟨pl2, kn, KH, hKP, hKq⟩, hKA, hTp, hSh⟩ := hR0
  have hok := hX.1
  have hw := hok.1
  have hh := hok.2.1
  have hn6 := hX.2.1.1
  refine pk_meth (own := RX6) (ini := false) [some (.ref 5)] (by decide +kernel) rfl (by decide +kernel) rfl rfl ?_
  refine pk_aload_n dX6_restore_0 rfl ?_
  refine pk_getI dX6_restore_1 fl_X6_29 rfl (hW.s rfl) ?_
  rw [hkb]
  first | refine pk_neb (tgt := 10) dX6_restore_4 (by decide) (fun c_4 => ?_) (fun c_4 => ?_) | refine pk_ne0N (tgt := 10) dX6_restore_4 (by decide) (by omega) (fun c_4 => ?_) (fun c_4 => ?_) | refine pk_if_ne (tgt := 10) dX6_restore_4 (by decide) (fun c_4 => ?_) (fun c_4 => ?_)
  · obtain ⟨rfl, rfl⟩ := hKq c_4
    refine pk_aload_n dX6_restore_10 rfl ?_
    refine pk_getP dX6_restore_11 fl_X6_10 rfl (hW.s rfl) (hW.p rfl) ?_
    refine pk_aload_n dX6_restore_14 rfl ?_
    refine pk_getP dX6_restore_15 fl_X6_23 rfl (hW.s rfl) (hW.p rfl) ?_
    refine pk_Vvr dX6_restore_18 ml_X6_255 yw_X4_become yv_X4_become (hW.s rfl) (e_X4_become (p := 6) (o := 43) hW rfl rfl (by decide) (hKA c_4)) rfl rfl rfl rfl rfl rfl rfl (fun M1 h1 => ?_)
    obtain ⟨hf1, hA1⟩ := h1
    have hW1 := hf1.wf hW
    refine pk_aload_n dX6_restore_21 rfl ?_
    refine pk_getP dX6_restore_22 fl_X6_19 rfl (hW1.s rfl) (hW1.p rfl) ?_
    refine pk_aload_n dX6_restore_25 rfl ?_
    refine pk_getP dX6_restore_26 fl_X6_26 rfl (hW1.s rfl) (hW1.p rfl) ?_
    refine pk_Vvr dX6_restore_29 ml_X6_257 yw_X2_become yv_X2_become (hW1.s rfl) (e_X2_become (p := 11) (M := M1) (hf1.wf hW) (hP.ff hf1.ff ⟨by omega, by omega, fun q g1 g2 z => by omega⟩) (hKP.ff hf1.ff ⟨by omega, by omega, fun q g1 g2 z => by omega⟩) (by decide)) rfl rfl rfl rfl rfl rfl rfl (fun M2 h2 => ?_)
    obtain ⟨hf2, hP2⟩ := h2
    have hW2 := hf2.wf hW1
    refine pk_iconst (v := nI 1) dX6_restore_32 (by decide) ?_
    refine pk_reti dX6_restore_33 (by first | rfl | exact pk_nbi _) ?_
    have hff : pk_ff (fun q => 6 ≤ q ∧ q < 43) M M2 := (hf1.ff.mono (fun q h => by omega)).tr (hf2.mono (fun q h => by omega))
    rw [op_restore, if_neg (by rw [c_4]; decide)]
    exact ⟨rfl, hff.mono (fun q h => by omega), hff.wf hW, hff.ro (fun q h => by omega) hro, hf2.at (fun q g1 g2 z => by omega) hA1, ⟨pl, hP2⟩, (hff.I (by omega) 4).trans hkb, ⟨pl2, _, _, hKP.ff hff ⟨by omega, by omega, fun q g1 g2 z => by omega⟩, fun _ => ⟨rfl, rfl⟩⟩, fun hk => hff.at (fun q g1 g2 z => by omega) (hKA hk), ⟨(hff.I (by omega) 2).trans hTp.1, fun i hi => (hff.I (by omega) i).trans (hTp.2 i hi)⟩, fun k hk => (hSh k hk).ff hff (by omega) (by omega)⟩
  · refine pk_bipush (v := -4) dX6_restore_7 (by decide) ?_
    refine pk_reti dX6_restore_9 (by first | rfl | exact pk_nbi _) ?_
    rw [op_restore, if_pos c_4]
    exact ⟨rfl, pk_ff.rf _ M, hR⟩

def op_order (X : pk_X) (f : Int32) : Int32 × pk_X := if sp_isOI f = false then (-1, X) else if nI (sp_fig (sp_o X.1)) = f then (-2, X) else (nI (sp_fig (sp_o X.1)), x_A (x_K X) (s_ord X.1 (fun j => sp_dig f.toNatClampNeg (4 - j))))
def sp_k4 (t : Nat) : Int32 := if t < 5 then nI (4 - t) else -1
theorem sp_k4_in {t : Nat} (h : t < 5) : sp_k4 t = nI (4 - t) := if_pos h
theorem sp_k4_next : ∀ t, t < 5 → nI (4 - t) + Int32.ofInt (-1) = sp_k4 (t + 1) := by decide

set_option maxRecDepth 100000 in
set_option maxHeartbeats 4000000 in
theorem e_X6_order {Γ : pk_T} {M : pk_M} {L : Nat} {X : pk_X} (hR : pk_RC L M X) (hX : pk_okX X) (f : Int32) : pk_E Γ yX6_order cX6_order 5 (some .int) 3 0 0 M [.ref 5, .int f] (fun r M' => r = some (.int (op_order X f).1) ∧ pk_cf M M' ∧ pk_RC L M' (op_order X f).2) := by
  have hR0 := hR
  obtain ⟨hW, hro, hA, ⟨pl, hP⟩, hkb, ⟨pl2, kn, KH, hKP, hKq⟩, hKA, hTp, hSh⟩ := hR0
  have hok := hX.1
  have hw := hok.1
  have hh := hok.2.1
  have hn6 := hX.2.1.1
  refine pk_meth (own := RX6) (ini := false) [some (.ref 5), some (.int f), none, none, none] (by decide +kernel) rfl (by decide +kernel) rfl rfl ?_
  refine pk_iload_n dX6_order_0 rfl ?_
  refine pk_Si dX6_order_1 ml_X6_199 yw_X6_isOrder ys_X6_isOrder (e_X6_isOrder _) rfl rfl rfl rfl rfl rfl rfl ?_
  first | refine pk_neb (tgt := 9) dX6_order_4 (by decide) (fun c_4 => ?_) (fun c_4 => ?_) | refine pk_ne0N (tgt := 9) dX6_order_4 (by decide) (by omega) (fun c_4 => ?_) (fun c_4 => ?_) | refine pk_if_ne (tgt := 9) dX6_order_4 (by decide) (fun c_4 => ?_) (fun c_4 => ?_)
  · have hf0 : 0 ≤ f := by
      simp only [sp_isOI, Bool.and_eq_true, decide_eq_true_eq] at c_4
      exact c_4.1
    obtain ⟨n, hn, rfl⟩ := nI_of (x := f) (Int32.not_lt.mpr hf0)
    rw [op_order, if_neg (by rw [c_4]; decide), nI_clamp hn]
    refine pk_aload_n dX6_order_9 rfl ?_
    refine pk_getP dX6_order_10 fl_X6_10 rfl (hW.s rfl) (hW.p rfl) ?_
    refine pk_getP dX6_order_13 fl_X6_164 rfl (hW.s rfl) (hW.p rfl) ?_
    refine pk_Si dX6_order_16 ml_X6_167 yw_X6_figuresOf ys_X6_figuresOf (e_X6_figuresOf (hW.s rfl) hA.2.2.2.2.2.1) rfl rfl rfl rfl rfl rfl rfl ?_
    refine pk_istore_n dX6_order_19 rfl rfl ?_
    refine pk_iload_n dX6_order_20 rfl ?_
    refine pk_iload_n dX6_order_21 rfl ?_
    refine pk_icmp_ne (tgt := 28) dX6_order_22 (by decide) (fun c_22 => ?_) (fun c_22 => ?_)
    · refine pk_aload_n dX6_order_28 rfl ?_
      refine pk_getP dX6_order_29 fl_X6_19 rfl (hW.s rfl) (hW.p rfl) ?_
      refine pk_aload_n dX6_order_32 rfl ?_
      refine pk_getP dX6_order_33 fl_X6_10 rfl (hW.s rfl) (hW.p rfl) ?_
      refine pk_Vvr dX6_order_36 ml_X6_196 yw_X2_keep yv_X2_keep (hW.s rfl) (e_X2_keep hW hA hP) rfl rfl rfl rfl rfl rfl rfl (fun M1 h1 => ?_)
      have hRk := hR.kp h1
      have hfk := h1.1
      replace hW := hRk.1
      have hA1 := hRk.2.2.1
      refine pk_iload_n dX6_order_39 rfl ?_
      refine pk_istore_n dX6_order_40 rfl rfl ?_
      refine pk_iconst (v := nI 4) dX6_order_41 (by decide) ?_
      refine pk_istore dX6_order_42 rfl rfl ?_
      rw [if_neg c_22]
      refine pk_Mq (M' := pk_wI M1 9 (fun j => if 4 < j + 0 ∧ j < 5 then nI (sp_dig n (4 - j)) else pk_I M1 9 j)) ((pk_wI_id M1 9).symm.trans (by congr 1; funext j; rw [if_neg (by omega)])) ?_
      refine pk_lsq (ls' := [some (.ref 5), some (.int (nI n)), some (.int (nI (sp_fig (sp_o X.1)))), some (.int (nI (n / 10 ^ 0))), some (.int (sp_k4 0))]) (by rw [Nat.pow_zero, Nat.div_one]; rfl) ?_
      refine pk_for 5 (fun t => pk_wI M1 9 (fun j => if 4 < j + t ∧ j < 5 then nI (sp_dig n (4 - j)) else pk_I M1 9 j)) (fun t => [some (.ref 5), some (.int (nI n)), some (.int (nI (sp_fig (sp_o X.1)))), some (.int (nI (n / 10 ^ t))), some (.int (sp_k4 t))]) ?_ ?_ 0 (by omega)
      · intro t ht K
        have hdv : n / 10 ^ t ≤ n := Nat.div_le_self _ _
        rw [sp_k4_in ht]
        refine pk_iload dX6_order_44 rfl ?_
        refine pk_if_lt (tgt := 74) dX6_order_46 (by decide) (fun c_46 => ?_) (fun c_46 => ?_)
        · exact absurd c_46 (nI_pos (by omega))
        · refine pk_aload_n dX6_order_49 rfl ?_
          refine pk_getP dX6_order_50 fl_X6_10 rfl (hW.s rfl) (hW.p rfl) ?_
          refine pk_getP dX6_order_53 fl_X6_164 rfl (hW.s rfl) (hW.p rfl) ?_
          refine pk_iload dX6_order_56 rfl ?_
          refine pk_iload_n dX6_order_58 rfl ?_
          refine pk_bipush (v := nI 10) dX6_order_59 (by decide) ?_
          first | refine pk_remN dX6_order_61 (by omega) (by omega) (by omega) ?_ | refine pk_irem dX6_order_61 (by first | assumption | decide) ?_
          refine pk_astN dX6_order_62 (hW.s rfl) (by omega) (by omega) (by omega) ?_
          refine pk_iload_n dX6_order_63 rfl ?_
          refine pk_bipush (v := nI 10) dX6_order_64 (by decide) ?_
          first | refine pk_divN dX6_order_66 (by omega) (by omega) (by omega) ?_ | refine pk_idiv dX6_order_66 (by first | assumption | decide) ?_
          refine pk_istore_n dX6_order_67 rfl rfl ?_
          refine pk_iinc dX6_order_68 rfl (sp_k4_next t ht) rfl ?_
          refine pk_goto (tgt := 44) dX6_order_71 (by decide) ?_
          refine pk_Mq ?_ (pk_lsq ?_ K)
          · rw [pk_wI_sI]
            congr 1
            funext j
            by_cases h : j = 4 - t
            · subst h
              rw [if_pos rfl, if_pos (by omega), show 4 - (4 - t) = t by omega]
              rfl
            · rw [if_neg h]
              by_cases h2 : 4 < j + t ∧ j < 5
              · rw [if_pos h2, if_pos (by omega)]
              · rw [if_neg h2, if_neg (by omega)]
          · rw [← pk_div10]
            rfl
      · have hf : pk_fr (fun q => 6 ≤ q ∧ q ≤ 10) M1 (pk_wI M1 9 (fun j => if 4 < j + 5 ∧ j < 5 then nI (sp_dig n (4 - j)) else pk_I M1 9 j)) := pk_fr.wI ⟨by decide, by decide⟩
        refine pk_iload dX6_order_44 rfl ?_
        refine pk_if_lt (tgt := 74) dX6_order_46 (by decide) (fun c_46 => ?_) (fun c_46 => ?_)
        · refine pk_iload_n dX6_order_74 rfl ?_
          refine pk_reti dX6_order_75 (by first | rfl | exact pk_nbi _) ?_
          refine ⟨rfl, (hfk.mono (fun q h => by omega)).tr (hf.ff.mono (fun q h => by omega)), hRk.st hf.ff ?_⟩
          refine ⟨pk_gW0 (by omega) hA1.1, pk_gW0 (by omega) hA1.2.1, pk_gW0 (by omega) hA1.2.2.1, fun a ha => pk_gW0 (by omega) (hA1.2.2.2.1 a ha), fun a ha => pk_gW0 (by omega) (hA1.2.2.2.2.1 a ha), fun a ha => pk_gW1 rfl ?_, fun a ha => pk_gW0 (by omega) (hA1.2.2.2.2.2.2 a ha)⟩
          rw [if_pos (by omega)]
          rfl
        · exact absurd (by decide) c_46
    · refine pk_bipush (v := -2) dX6_order_25 (by decide) ?_
      refine pk_reti dX6_order_27 (by first | rfl | exact pk_nbi _) ?_
      rw [if_pos c_22]
      exact ⟨rfl, pk_ff.rf _ M, hR⟩
  · refine pk_iconst (v := -1) dX6_order_7 (by decide) ?_
    refine pk_reti dX6_order_8 (by first | rfl | exact pk_nbi _) ?_
    rw [op_order, if_pos c_4]
    exact ⟨rfl, pk_ff.rf _ M, hR⟩

def s_wh (A : pk_St) (w h : Nat) : pk_St := (w, h, A.2.2.1, A.2.2.2.1, A.2.2.2.2.1, A.2.2.2.2.2.1, fun q => if q % 8 < w ∧ q / 8 < h then sp_s A q else 0)
def op_size (X : pk_X) (c v : Int32) : Int32 × pk_X := if (sp_b c 2 && decide (nI 1 ≤ v) && decide (v ≤ if c = 0 then nI 8 else nI 6)) = false then (-1, X) else
  if c = 0 then (if nI (sp_w X.1) = v then (-2, X) else (nI (sp_w X.1), x_A (x_K X) (s_wh X.1 v.toNatClampNeg (sp_h X.1)))) else (if nI (sp_h X.1) = v then (-2, X) else (nI (sp_h X.1), x_A (x_K X) (s_wh X.1 (sp_w X.1) v.toNatClampNeg)))

set_option maxRecDepth 100000 in
set_option maxHeartbeats 4000000 in
theorem e_X6_size {Γ : pk_T} {M : pk_M} {L : Nat} {X : pk_X} (hR : pk_RC L M X) (hX : pk_okX X) (c v : Int32) : pk_E Γ yX6_size cX6_size 4 (some .int) 3 0 0 M [.ref 5, .int c, .int v] (fun r M' => r = some (.int (op_size X c v).1) ∧ pk_cf M M' ∧ pk_RC L M' (op_size X c v).2) := by
  have hR0 := hR
  obtain ⟨hW, hro, hA, ⟨pl, hP⟩, hkb, ⟨pl2, kn, KH, hKP, hKq⟩, hKA, hTp, hSh⟩ := hR0
  have hok := hX.1
  have hw := hok.1
  have hh := hok.2.1
  have hn6 := hX.2.1.1
  refine pk_meth (own := RX6) (ini := false) [some (.ref 5), some (.int c), some (.int v), none] (by decide +kernel) rfl (by decide +kernel) rfl rfl ?_
  refine pk_iload_n dX6_size_0 rfl ?_
  refine pk_iconst (v := nI 2) dX6_size_1 (by decide) ?_
  refine pk_Si dX6_size_2 ml_X6_71 yw_X6_isBelow ys_X6_isBelow (e_X6_isBelow _ _) rfl rfl rfl rfl rfl rfl rfl ?_
  first | refine pk_eqb (tgt := 28) dX6_size_5 (by decide) (fun c_5 => ?_) (fun c_5 => ?_) | refine pk_eq0N (tgt := 28) dX6_size_5 (by decide) (by omega) (fun c_5 => ?_) (fun c_5 => ?_) | refine pk_if_eq (tgt := 28) dX6_size_5 (by decide) (fun c_5 => ?_) (fun c_5 => ?_)
  · refine pk_iconst (v := -1) dX6_size_28 (by decide) ?_
    refine pk_reti dX6_size_29 (by first | rfl | exact pk_nbi _) ?_
    rw [op_size, if_pos]
    · exact ⟨rfl, pk_ff.rf _ M, hR⟩
    · simp only [sp_b, c_5, Bool.false_and]
  · obtain ⟨c, hc, rfl⟩ := sp_b_of c_5 (by decide)
    obtain rfl | rfl : c = 0 ∨ c = 1 := by omega
    · refine pk_iload_n dX6_size_8 rfl ?_
      refine pk_iconst (v := nI 1) dX6_size_9 (by decide) ?_
      refine pk_icmp_lt (tgt := 28) dX6_size_10 (by decide) (fun c_10 => ?_) (fun c_10 => ?_)
      · refine pk_iconst (v := -1) dX6_size_28 (by decide) ?_
        refine pk_reti dX6_size_29 (by first | rfl | exact pk_nbi _) ?_
        rw [op_size, if_pos]
        · exact ⟨rfl, pk_ff.rf _ M, hR⟩
        · first | (rw [show decide (nI 1 ≤ v) = false from decide_eq_false (Int32.not_le.mpr c_10), Bool.and_false]; rfl) | (rw [if_pos nI_0, show decide (v ≤ nI 8) = false from decide_eq_false c_25, Bool.and_false])
      · refine pk_iload_n dX6_size_13 rfl ?_
        refine pk_iload_n dX6_size_14 rfl ?_
        first | refine pk_neb (tgt := 23) dX6_size_15 (by decide) (fun c_15 => ?_) (fun c_15 => ?_) | refine pk_ne0N (tgt := 23) dX6_size_15 (by decide) (by omega) (fun c_15 => ?_) (fun c_15 => ?_) | refine pk_if_ne (tgt := 23) dX6_size_15 (by decide) (fun c_15 => ?_) (fun c_15 => ?_)
        · exact absurd rfl c_15
        · refine pk_bipush (v := nI 8) dX6_size_18 (by decide) ?_
          refine pk_goto (tgt := 25) dX6_size_20 (by decide) ?_
          refine pk_icmp_le (tgt := 30) dX6_size_25 (by decide) (fun c_25 => ?_) (fun c_25 => ?_)
          · obtain ⟨v, hv, rfl⟩ := nI_of (x := v) (fun h => c_10 (by rw [Int32.lt_iff_toInt_lt] at h ⊢; rw [Int32.toInt_zero] at h; rw [nI_toInt (by decide)]; omega))
            have hv1 : 1 ≤ v := Nat.not_lt.mp fun z => c_10 ((nI_ltI hv (by decide)).mpr z)
            have hv8 : v ≤ 8 := (nI_leI hv (by decide)).mp c_25
            have e0 : (sp_b (nI 0) 2 && decide (nI 1 ≤ nI v) && decide (nI v ≤ if nI 0 = 0 then nI 8 else nI 6)) = true := by
              rw [sp_b_n (by decide) (by decide), decide_eq_true (nI_le hv1 hv), if_pos nI_0, decide_eq_true c_25]
              rfl
            rw [op_size, if_neg (by rw [e0]; decide), if_pos nI_0, nI_clamp hv]
            refine pk_iload_n dX6_size_30 rfl ?_
            first | refine pk_neb (tgt := 44) dX6_size_31 (by decide) (fun c_31 => ?_) (fun c_31 => ?_) | refine pk_ne0N (tgt := 44) dX6_size_31 (by decide) (by omega) (fun c_31 => ?_) (fun c_31 => ?_) | refine pk_if_ne (tgt := 44) dX6_size_31 (by decide) (fun c_31 => ?_) (fun c_31 => ?_)
            · exact absurd rfl c_31
            · refine pk_aload_n dX6_size_34 rfl ?_
              refine pk_getP dX6_size_35 fl_X6_10 rfl (hW.s rfl) (hW.p rfl) ?_
              refine pk_getN dX6_size_38 fl_X6_160 rfl (hW.s rfl) hA.1 ?_
              refine pk_goto (tgt := 51) dX6_size_41 (by decide) ?_
              refine pk_istore_n dX6_size_51 rfl rfl ?_
              refine pk_iload_n dX6_size_52 rfl ?_
              refine pk_iload_n dX6_size_53 rfl ?_
              refine pk_icmp_ne (tgt := 60) dX6_size_54 (by decide) (fun c_54 => ?_) (fun c_54 => ?_)
              · refine pk_aload_n dX6_size_60 rfl ?_
                refine pk_getP dX6_size_61 fl_X6_19 rfl (hW.s rfl) (hW.p rfl) ?_
                refine pk_aload_n dX6_size_64 rfl ?_
                refine pk_getP dX6_size_65 fl_X6_10 rfl (hW.s rfl) (hW.p rfl) ?_
                refine pk_Vvr dX6_size_68 ml_X6_196 yw_X2_keep yv_X2_keep (hW.s rfl) (e_X2_keep hW hA hP) rfl rfl rfl rfl rfl rfl rfl (fun M1 h1 => ?_)
                have hRk := hR.kp h1
                have hfk := h1.1
                replace hW := hRk.1
                have hA1 := hRk.2.2.1
                refine pk_iload_n dX6_size_71 rfl ?_
                first | refine pk_neb (tgt := 86) dX6_size_72 (by decide) (fun c_72 => ?_) (fun c_72 => ?_) | refine pk_ne0N (tgt := 86) dX6_size_72 (by decide) (by omega) (fun c_72 => ?_) (fun c_72 => ?_) | refine pk_if_ne (tgt := 86) dX6_size_72 (by decide) (fun c_72 => ?_) (fun c_72 => ?_)
                · exact absurd rfl c_72
                · refine pk_aload_n dX6_size_75 rfl ?_
                  refine pk_getP dX6_size_76 fl_X6_10 rfl (hW.s rfl) (hW.p rfl) ?_
                  refine pk_iload_n dX6_size_79 rfl ?_
                  refine pk_putI dX6_size_80 fl_X6_160 rfl rfl rfl rfl (hW.s rfl) ?_
                  refine pk_goto (tgt := 94) dX6_size_83 (by decide) ?_
                  refine pk_aload_n dX6_size_94 rfl ?_
                  refine pk_getP dX6_size_95 fl_X6_10 rfl (hW.s rfl) (hW.p rfl) ?_
                  refine pk_Vv dX6_size_98 ml_X6_216 yw_X4_clearOutside yv_X4_clearOutside (hW.s rfl) (e_X4_clearOutside (p := 6) (w := v) (h := sp_h X.1) (M := (pk_sI M1 6 4 (nI v))) hW rfl (pk_gS1 rfl rfl rfl) (pk_gS0 (by omega) hA1.2.1) (by omega) (by omega)) rfl rfl rfl rfl rfl rfl rfl ?_
                  refine pk_iload_n dX6_size_101 rfl ?_
                  refine pk_reti dX6_size_102 (by first | rfl | exact pk_nbi _) ?_
                  rw [if_neg c_54]
                  have hf : pk_fr (fun q => 6 ≤ q ∧ q ≤ 10) M1 (pk_wI (pk_sI M1 6 4 (nI v)) (6 + 4) (sp_clr (v) (sp_h X.1) (pk_I (pk_sI M1 6 4 (nI v)) (6 + 4)) 48)) := (pk_fr.sI ⟨by decide, by decide⟩).tr (pk_fr.wI ⟨by decide, by decide⟩)
                  refine ⟨rfl, (hfk.mono (fun q h => by omega)).tr (hf.ff.mono (fun q h => by omega)), hRk.st hf.ff ?_⟩
                  refine ⟨pk_gW0 (by omega) (pk_gS1 rfl rfl rfl), pk_gW0 (by omega) (pk_gS0 (by omega) hA1.2.1), pk_gW0 (by omega) (pk_gS0 (by omega) hA1.2.2.1), fun a ha => pk_gW0 (by omega) (pk_gS0 (by omega) (hA1.2.2.2.1 a ha)), fun a ha => pk_gW0 (by omega) (pk_gS0 (by omega) (hA1.2.2.2.2.1 a ha)), fun a ha => pk_gW0 (by omega) (pk_gS0 (by omega) (hA1.2.2.2.2.2.1 a ha)), fun a ha => pk_gW1 rfl ?_⟩
                  show sp_clr _ _ _ _ a = nI (if a % 8 < v ∧ a / 8 < sp_h X.1 then sp_s X.1 a else 0)
                  unfold sp_clr
                  by_cases h : a % 8 < v ∧ a / 8 < sp_h X.1
                  · rw [if_neg (by omega), if_pos h]
                    exact pk_gS0 (by omega) (hA1.2.2.2.2.2.2 a ha)
                  · rw [if_pos ⟨ha, h⟩, if_neg h]
                    rfl
              · refine pk_bipush (v := -2) dX6_size_57 (by decide) ?_
                refine pk_reti dX6_size_59 (by first | rfl | exact pk_nbi _) ?_
                rw [if_pos c_54]
                exact ⟨rfl, pk_ff.rf _ M, hR⟩
          · refine pk_iconst (v := -1) dX6_size_28 (by decide) ?_
            refine pk_reti dX6_size_29 (by first | rfl | exact pk_nbi _) ?_
            rw [op_size, if_pos]
            · exact ⟨rfl, pk_ff.rf _ M, hR⟩
            · first | (rw [show decide (nI 1 ≤ v) = false from decide_eq_false (Int32.not_le.mpr c_10), Bool.and_false]; rfl) | (rw [if_pos nI_0, show decide (v ≤ nI 8) = false from decide_eq_false c_25, Bool.and_false])
    · refine pk_iload_n dX6_size_8 rfl ?_
      refine pk_iconst (v := nI 1) dX6_size_9 (by decide) ?_
      refine pk_icmp_lt (tgt := 28) dX6_size_10 (by decide) (fun c_10 => ?_) (fun c_10 => ?_)
      · refine pk_iconst (v := -1) dX6_size_28 (by decide) ?_
        refine pk_reti dX6_size_29 (by first | rfl | exact pk_nbi _) ?_
        rw [op_size, if_pos]
        · exact ⟨rfl, pk_ff.rf _ M, hR⟩
        · first | (rw [show decide (nI 1 ≤ v) = false from decide_eq_false (Int32.not_le.mpr c_10), Bool.and_false]; rfl) | (rw [if_neg (by decide), show decide (v ≤ nI 6) = false from decide_eq_false c_25, Bool.and_false])
      · refine pk_iload_n dX6_size_13 rfl ?_
        refine pk_iload_n dX6_size_14 rfl ?_
        first | refine pk_neb (tgt := 23) dX6_size_15 (by decide) (fun c_15 => ?_) (fun c_15 => ?_) | refine pk_ne0N (tgt := 23) dX6_size_15 (by decide) (by omega) (fun c_15 => ?_) (fun c_15 => ?_) | refine pk_if_ne (tgt := 23) dX6_size_15 (by decide) (fun c_15 => ?_) (fun c_15 => ?_)
        · refine pk_bipush (v := nI 6) dX6_size_23 (by decide) ?_
          refine pk_icmp_le (tgt := 30) dX6_size_25 (by decide) (fun c_25 => ?_) (fun c_25 => ?_)
          · obtain ⟨v, hv, rfl⟩ := nI_of (x := v) (fun h => c_10 (by rw [Int32.lt_iff_toInt_lt] at h ⊢; rw [Int32.toInt_zero] at h; rw [nI_toInt (by decide)]; omega))
            have hv1 : 1 ≤ v := Nat.not_lt.mp fun z => c_10 ((nI_ltI hv (by decide)).mpr z)
            have hv8 : v ≤ 6 := (nI_leI hv (by decide)).mp c_25
            have e0 : (sp_b (nI 1) 2 && decide (nI 1 ≤ nI v) && decide (nI v ≤ if nI 1 = 0 then nI 8 else nI 6)) = true := by
              rw [sp_b_n (by decide) (by decide), decide_eq_true (nI_le hv1 hv), if_neg (by decide), decide_eq_true c_25]
              rfl
            rw [op_size, if_neg (by rw [e0]; decide), if_neg (by decide), nI_clamp hv]
            refine pk_iload_n dX6_size_30 rfl ?_
            first | refine pk_neb (tgt := 44) dX6_size_31 (by decide) (fun c_31 => ?_) (fun c_31 => ?_) | refine pk_ne0N (tgt := 44) dX6_size_31 (by decide) (by omega) (fun c_31 => ?_) (fun c_31 => ?_) | refine pk_if_ne (tgt := 44) dX6_size_31 (by decide) (fun c_31 => ?_) (fun c_31 => ?_)
            · refine pk_aload_n dX6_size_44 rfl ?_
              refine pk_getP dX6_size_45 fl_X6_10 rfl (hW.s rfl) (hW.p rfl) ?_
              refine pk_getN dX6_size_48 fl_X6_161 rfl (hW.s rfl) hA.2.1 ?_
              refine pk_istore_n dX6_size_51 rfl rfl ?_
              refine pk_iload_n dX6_size_52 rfl ?_
              refine pk_iload_n dX6_size_53 rfl ?_
              refine pk_icmp_ne (tgt := 60) dX6_size_54 (by decide) (fun c_54 => ?_) (fun c_54 => ?_)
              · refine pk_aload_n dX6_size_60 rfl ?_
                refine pk_getP dX6_size_61 fl_X6_19 rfl (hW.s rfl) (hW.p rfl) ?_
                refine pk_aload_n dX6_size_64 rfl ?_
                refine pk_getP dX6_size_65 fl_X6_10 rfl (hW.s rfl) (hW.p rfl) ?_
                refine pk_Vvr dX6_size_68 ml_X6_196 yw_X2_keep yv_X2_keep (hW.s rfl) (e_X2_keep hW hA hP) rfl rfl rfl rfl rfl rfl rfl (fun M1 h1 => ?_)
                have hRk := hR.kp h1
                have hfk := h1.1
                replace hW := hRk.1
                have hA1 := hRk.2.2.1
                refine pk_iload_n dX6_size_71 rfl ?_
                first | refine pk_neb (tgt := 86) dX6_size_72 (by decide) (fun c_72 => ?_) (fun c_72 => ?_) | refine pk_ne0N (tgt := 86) dX6_size_72 (by decide) (by omega) (fun c_72 => ?_) (fun c_72 => ?_) | refine pk_if_ne (tgt := 86) dX6_size_72 (by decide) (fun c_72 => ?_) (fun c_72 => ?_)
                · refine pk_aload_n dX6_size_86 rfl ?_
                  refine pk_getP dX6_size_87 fl_X6_10 rfl (hW.s rfl) (hW.p rfl) ?_
                  refine pk_iload_n dX6_size_90 rfl ?_
                  refine pk_putI dX6_size_91 fl_X6_161 rfl rfl rfl rfl (hW.s rfl) ?_
                  refine pk_aload_n dX6_size_94 rfl ?_
                  refine pk_getP dX6_size_95 fl_X6_10 rfl (hW.s rfl) (hW.p rfl) ?_
                  refine pk_Vv dX6_size_98 ml_X6_216 yw_X4_clearOutside yv_X4_clearOutside (hW.s rfl) (e_X4_clearOutside (p := 6) (w := sp_w X.1) (h := v) (M := (pk_sI M1 6 5 (nI v))) hW rfl (pk_gS0 (by omega) hA1.1) (pk_gS1 rfl rfl rfl) (by omega) (by omega)) rfl rfl rfl rfl rfl rfl rfl ?_
                  refine pk_iload_n dX6_size_101 rfl ?_
                  refine pk_reti dX6_size_102 (by first | rfl | exact pk_nbi _) ?_
                  rw [if_neg c_54]
                  have hf : pk_fr (fun q => 6 ≤ q ∧ q ≤ 10) M1 (pk_wI (pk_sI M1 6 5 (nI v)) (6 + 4) (sp_clr (sp_w X.1) (v) (pk_I (pk_sI M1 6 5 (nI v)) (6 + 4)) 48)) := (pk_fr.sI ⟨by decide, by decide⟩).tr (pk_fr.wI ⟨by decide, by decide⟩)
                  refine ⟨rfl, (hfk.mono (fun q h => by omega)).tr (hf.ff.mono (fun q h => by omega)), hRk.st hf.ff ?_⟩
                  refine ⟨pk_gW0 (by omega) (pk_gS0 (by omega) hA1.1), pk_gW0 (by omega) (pk_gS1 rfl rfl rfl), pk_gW0 (by omega) (pk_gS0 (by omega) hA1.2.2.1), fun a ha => pk_gW0 (by omega) (pk_gS0 (by omega) (hA1.2.2.2.1 a ha)), fun a ha => pk_gW0 (by omega) (pk_gS0 (by omega) (hA1.2.2.2.2.1 a ha)), fun a ha => pk_gW0 (by omega) (pk_gS0 (by omega) (hA1.2.2.2.2.2.1 a ha)), fun a ha => pk_gW1 rfl ?_⟩
                  show sp_clr _ _ _ _ a = nI (if a % 8 < sp_w X.1 ∧ a / 8 < v then sp_s X.1 a else 0)
                  unfold sp_clr
                  by_cases h : a % 8 < sp_w X.1 ∧ a / 8 < v
                  · rw [if_neg (by omega), if_pos h]
                    exact pk_gS0 (by omega) (hA1.2.2.2.2.2.2 a ha)
                  · rw [if_pos ⟨ha, h⟩, if_neg h]
                    rfl
                · exact absurd c_72 (by decide)
              · refine pk_bipush (v := -2) dX6_size_57 (by decide) ?_
                refine pk_reti dX6_size_59 (by first | rfl | exact pk_nbi _) ?_
                rw [if_pos c_54]
                exact ⟨rfl, pk_ff.rf _ M, hR⟩
            · exact absurd c_31 (by decide)
          · refine pk_iconst (v := -1) dX6_size_28 (by decide) ?_
            refine pk_reti dX6_size_29 (by first | rfl | exact pk_nbi _) ?_
            rw [op_size, if_pos]
            · exact ⟨rfl, pk_ff.rf _ M, hR⟩
            · first | (rw [show decide (nI 1 ≤ v) = false from decide_eq_false (Int32.not_le.mpr c_10), Bool.and_false]; rfl) | (rw [if_neg (by decide), show decide (v ≤ nI 6) = false from decide_eq_false c_25, Bool.and_false])
        · exact absurd c_15 (by decide)
