/-! What an object is, as numbers; what the program's object holds; calls that change it. -/
/-- state; what may be undone; image; tape; sheets -/
abbrev pk_X : Type := pk_St × (Nat × (Nat → pk_St)) × (Bool × pk_St × Nat × (Nat → pk_St)) × (Nat × (Nat → Nat)) × (Nat → pk_Ro)
def pk_okX (X : pk_X) : Prop := pk_okS X.1 ∧ (X.2.1.1 ≤ 6 ∧ ∀ k, k < X.2.1.1 → pk_okS (X.2.1.2 k)) ∧ (X.2.2.1.1 = true → pk_okS X.2.2.1.2.1 ∧ X.2.2.1.2.2.1 ≤ 6 ∧ ∀ k, k < X.2.2.1.2.2.1 → pk_okS (X.2.2.1.2.2.2 k)) ∧ (X.2.2.2.1.1 ≤ 100 ∧ ∀ i, i < X.2.2.2.1.1 → 32 ≤ X.2.2.2.1.2 i ∧ X.2.2.2.1.2 i ≤ 126) ∧ ∀ k, k < 4 → (X.2.2.2.2 k).2.1 < 4 ∧ (X.2.2.2.2 k).2.2.1 ≤ 24
/-- the program's object, places 5 .. 102 -/
def pk_RC (L : Nat) (M : pk_M) (X : pk_X) : Prop := pk_WF L M ∧ pk_ro M ∧ pk_At M 6 X.1 ∧ (∃ pl, pk_past M 11 12 13 43 pl X.2.1.1 X.2.1.2) ∧ pk_I M 5 4 = pk_bi X.2.2.1.1 ∧ (∃ pl kn KH, pk_past M 48 49 50 80 pl kn KH ∧ (X.2.2.1.1 = true → kn = X.2.2.1.2.2.1 ∧ KH = X.2.2.1.2.2.2)) ∧ (X.2.2.1.1 = true → pk_At M 43 X.2.2.1.2.1) ∧ (pk_I M 88 2 = nI X.2.2.2.1.1 ∧ ∀ i, i < X.2.2.2.1.1 → pk_I M 89 i = nI (X.2.2.2.1.2 i)) ∧ ∀ k, k < 4 → pk_Rw M (95 + 2 * k) (X.2.2.2.2 k)
def pk_cf (M M' : pk_M) : Prop := pk_ff (fun q => 5 ≤ q ∧ q < 103) M M'
def x_A (X : pk_X) (A : pk_St) : pk_X := (A, X.2)
/-- a step is kept -/
def x_K (X : pk_X) : pk_X := (X.1, (sp_pn X.2.1.1, sp_ph X.2.1.1 X.2.1.2 X.1), X.2.2)
theorem pk_Rw.ff {D : Nat → Prop} {M M1 : pk_M} {p : Nat} {S : pk_Ro} (h : pk_ff D M M1) (h1 : ¬ D p) (h2 : ¬ D (p + 1)) (hR : pk_Rw M p S) : pk_Rw M1 p S := ⟨(h.I h1 1).trans hR.1, (h.I h1 2).trans hR.2.1, (h.I h1 3).trans hR.2.2.1, hR.2.2.2.1, hR.2.2.2.2.1, fun j hj => (h.J h2 j).trans (hR.2.2.2.2.2 j hj)⟩
/-- scratch: nothing that counts has changed -/
def pk_scr (q : Nat) : Prop := (80 ≤ q ∧ q ≤ 87) ∨ q = 90 ∨ (92 ≤ q ∧ q ≤ 94) ∨ 103 ≤ q
theorem pk_RC.scr {L : Nat} {M M1 : pk_M} {X : pk_X} (h : pk_ff pk_scr M M1) (hR : pk_RC L M X) : pk_RC L M1 X := by
  obtain ⟨h1, h2, h3, ⟨pl, h4⟩, h5, ⟨pl2, kn, KH, h6, h6b⟩, h7, h8, h9⟩ := hR
  refine ⟨h.wf h1, h.ro (fun q hq z => by unfold pk_scr at z; omega) h2, h.at (fun q g1 g2 z => by unfold pk_scr at z; omega) h3, ⟨pl, h4.ff h ⟨by unfold pk_scr; omega, by unfold pk_scr; omega, fun q g1 g2 z => by unfold pk_scr at z; omega⟩⟩, (h.I (by unfold pk_scr; omega) 4).trans h5, ⟨pl2, kn, KH, h6.ff h ⟨by unfold pk_scr; omega, by unfold pk_scr; omega, fun q g1 g2 z => by unfold pk_scr at z; omega⟩, h6b⟩, fun hk => h.at (fun q g1 g2 z => by unfold pk_scr at z; omega) (h7 hk), ⟨(h.I (by unfold pk_scr; omega) 2).trans h8.1, fun i hi => (h.I (by unfold pk_scr; omega) i).trans (h8.2 i hi)⟩, fun k hk => (h9 k hk).ff h (by unfold pk_scr; omega) (by unfold pk_scr; omega)⟩
/-- the state is another -/
theorem pk_RC.st {L : Nat} {M M1 : pk_M} {X : pk_X} {A : pk_St} (h : pk_ff (fun q => 6 ≤ q ∧ q ≤ 10) M M1) (hR : pk_RC L M X) (hA : pk_At M1 6 A) : pk_RC L M1 (x_A X A) := by
  obtain ⟨h1, h2, h3, ⟨pl, h4⟩, h5, ⟨pl2, kn, KH, h6, h6b⟩, h7, h8, h9⟩ := hR
  exact ⟨h.wf h1, h.ro (fun q hq z => by omega) h2, hA, ⟨pl, h4.ff h ⟨by omega, by omega, fun q g1 g2 z => by omega⟩⟩, (h.I (by omega) 4).trans h5, ⟨pl2, kn, KH, h6.ff h ⟨by omega, by omega, fun q g1 g2 z => by omega⟩, h6b⟩, fun hk => h.at (fun q g1 g2 z => by omega) (h7 hk), ⟨(h.I (by omega) 2).trans h8.1, fun i hi => (h.I (by omega) i).trans (h8.2 i hi)⟩, fun k hk => (h9 k hk).ff h (by omega) (by omega)⟩
/-- a step was kept -/
theorem pk_RC.kp {L : Nat} {M M1 : pk_M} {X : pk_X} (hR : pk_RC L M X) (h : pk_kp M M1 (sp_pn X.2.1.1) (sp_ph X.2.1.1 X.2.1.2 X.1)) : pk_RC L M1 (x_K X) := by
  obtain ⟨h, pl', hp'⟩ := h
  obtain ⟨h1, h2, h3, -, h5, ⟨pl2, kn, KH, h6, h6b⟩, h7, h8, h9⟩ := hR
  exact ⟨h.wf h1, h.ro (fun q hq z => by omega) h2, h.at (fun q g1 g2 z => by omega) h3, ⟨pl', hp'⟩, (h.I (by omega) 4).trans h5, ⟨pl2, kn, KH, h6.ff h ⟨by omega, by omega, fun q g1 g2 z => by omega⟩, h6b⟩, fun hk => h.at (fun q g1 g2 z => by omega) (h7 hk), ⟨(h.I (by omega) 2).trans h8.1, fun i hi => (h.I (by omega) i).trans (h8.2 i hi)⟩, fun k hk => (h9 k hk).ff h (by omega) (by omega)⟩
def sp_b (v : Int32) (N : Nat) : Bool := decide (0 ≤ v) && decide (v < nI N)
theorem sp_b_of {v : Int32} {N : Nat} (h : (decide (0 ≤ v) && decide (v < nI N)) = true) (hN : N < 2 ^ 31) : ∃ k, k < N ∧ v = nI k := by
  simp only [Bool.and_eq_true, decide_eq_true_eq] at h
  exact pk_nof h.1 h.2 hN
theorem sp_b_n {k N : Nat} (hk : k < N) (hN : N < 2 ^ 31) : sp_b (nI k) N = true := by
  simp [sp_b, nI_pos' (show k < 2 ^ 31 by omega), nI_ltI (show k < 2 ^ 31 by omega) hN, hk]
/-- setters of a state -/
def s_d (A : pk_St) (d : Nat) : pk_St := (A.1, A.2.1, d, A.2.2.2)
def s_ink (A : pk_St) (i k t : Nat) : pk_St := (A.1, A.2.1, A.2.2.1, (fun j => if j = i then k else sp_k A j), (fun j => if j = i then t else sp_t A j), A.2.2.2.2.2)
def s_ord (A : pk_St) (o : Nat → Nat) : pk_St := (A.1, A.2.1, A.2.2.1, A.2.2.2.1, A.2.2.2.2.1, o, A.2.2.2.2.2.2)
def s_set (A : pk_St) (q v : Nat) : pk_St := (A.1, A.2.1, A.2.2.1, A.2.2.2.1, A.2.2.2.2.1, A.2.2.2.2.2.1, fun j => if j = q then v else sp_s A j)
def s_sets (A : pk_St) (f : Nat → Nat) : pk_St := (A.1, A.2.1, A.2.2.1, A.2.2.2.1, A.2.2.2.2.1, A.2.2.2.2.2.1, f)
/-- seed -/
def op_seed (X : pk_X) (v : Int32) : Int32 × pk_X := if v < 0 then (-1, X) else (nI (sp_d X.1), x_A X (s_d X.1 v.toNatClampNeg))
/-- tell -/
def op_tell (X : pk_X) (i k t : Int32) : Int32 × pk_X := if (sp_b i 5 && sp_b k 4 && sp_b t 4096) = false then (-1, X) else if sp_k X.1 i.toNatClampNeg = k.toNatClampNeg ∧ sp_t X.1 i.toNatClampNeg = t.toNatClampNeg then (-2, X) else (1, x_A (x_K X) (s_ink X.1 i.toNatClampNeg k.toNatClampNeg t.toNatClampNeg))
/-- put -/
def op_put (X : pk_X) (x y v : Int32) : Int32 × pk_X := if (sp_inb X.1 x y && sp_b v 32) = false then (-1, X) else if sp_at X.1 x y = v.toNatClampNeg then (-2, X) else (nI (sp_at X.1 x y), x_A (x_K X) (s_set X.1 (y.toNatClampNeg * 8 + x.toNatClampNeg) v.toNatClampNeg))
/-- undo -/
def op_undo (X : pk_X) : Int32 × pk_X := if X.2.1.1 = 0 then (-4, X) else (nI (X.2.1.1 - 1), (X.2.1.2 (X.2.1.1 - 1), (X.2.1.1 - 1, X.2.1.2), X.2.2))
def op_image (X : pk_X) : Int32 × pk_X := (1, (X.1, X.2.1, (true, X.1, X.2.1.1, X.2.1.2), X.2.2.2))
def op_restore (X : pk_X) : Int32 × pk_X := if X.2.2.1.1 = false then (-4, X) else (1, (X.2.2.1.2.1, (X.2.2.1.2.2.1, X.2.2.1.2.2.2), X.2.2))

set_option maxRecDepth 100000 in
set_option maxHeartbeats 4000000 in
theorem e_X6_seed {Γ : pk_T} {M : pk_M} {L : Nat} {X : pk_X} (hR : pk_RC L M X) (hX : pk_okX X) (v : Int32) : pk_E Γ yX6_seed cX6_seed 3 (some .int) 1 0 0 M [.ref 5, .int v] (fun r M' => r = some (.int (op_seed X v).1) ∧ pk_cf M M' ∧ pk_RC L M' (op_seed X v).2) := by
  have hR0 := hR
  obtain ⟨hW, hro, hA, ⟨pl, hP⟩, hkb, ⟨pl2, kn, KH, hKP, hKq⟩, hKA, hTp, hSh⟩ := hR0
  have hok := hX.1
  have hw := hok.1
  have hh := hok.2.1
  have hn6 := hX.2.1.1
  refine pk_meth (own := RX6) (ini := false) [some (.ref 5), some (.int v), none] (by decide +kernel) rfl (by decide +kernel) rfl rfl ?_
  refine pk_iload_n dX6_seed_0 rfl ?_
  refine pk_if_ge (tgt := 6) dX6_seed_1 (by decide) (fun c_1 => ?_) (fun c_1 => ?_)
  · obtain ⟨n, hn, rfl⟩ := nI_of (x := v) (Int32.not_lt.mpr c_1)
    refine pk_aload_n dX6_seed_6 rfl ?_
    refine pk_getP dX6_seed_7 fl_X6_10 rfl (hW.s rfl) (hW.p rfl) ?_
    refine pk_getN dX6_seed_10 fl_X6_226 rfl (hW.s rfl) hA.2.2.1 ?_
    refine pk_istore_n dX6_seed_13 rfl rfl ?_
    refine pk_aload_n dX6_seed_14 rfl ?_
    refine pk_getP dX6_seed_15 fl_X6_10 rfl (hW.s rfl) (hW.p rfl) ?_
    refine pk_iload_n dX6_seed_18 rfl ?_
    refine pk_putI dX6_seed_19 fl_X6_226 rfl rfl rfl rfl (hW.s rfl) ?_
    refine pk_iload_n dX6_seed_22 rfl ?_
    refine pk_reti dX6_seed_23 (by first | rfl | exact pk_nbi _) ?_
    rw [op_seed, if_neg (nI_pos hn), nI_clamp hn]
    have hf : pk_fr (fun q => 6 ≤ q ∧ q ≤ 10) M (pk_sI M 6 6 (nI n)) := pk_fr.sI ⟨by decide, by decide⟩
    refine ⟨rfl, hf.ff.mono (fun q h => by omega), hR.st hf.ff ?_⟩
    refine ⟨pk_gS0 (by omega) hA.1, pk_gS0 (by omega) hA.2.1, pk_gS1 rfl rfl rfl, fun i hi => pk_gS0 (by omega) (hA.2.2.2.1 i hi), fun i hi => pk_gS0 (by omega) (hA.2.2.2.2.1 i hi), fun i hi => pk_gS0 (by omega) (hA.2.2.2.2.2.1 i hi), fun i hi => pk_gS0 (by omega) (hA.2.2.2.2.2.2 i hi)⟩
  · refine pk_iconst (v := -1) dX6_seed_4 (by decide) ?_
    refine pk_reti dX6_seed_5 (by first | rfl | exact pk_nbi _) ?_
    rw [op_seed, if_pos (Int32.not_le.mp c_1)]
    exact ⟨rfl, pk_ff.rf _ M, hR⟩

set_option maxRecDepth 100000 in
set_option maxHeartbeats 4000000 in
theorem e_X6_tell {Γ : pk_T} {M : pk_M} {L : Nat} {X : pk_X} (hR : pk_RC L M X) (hX : pk_okX X) (i k t : Int32) : pk_E Γ yX6_tell cX6_tell 4 (some .int) 3 0 0 M [.ref 5, .int i, .int k, .int t] (fun r M' => r = some (.int (op_tell X i k t).1) ∧ pk_cf M M' ∧ pk_RC L M' (op_tell X i k t).2) := by
  have hR0 := hR
  obtain ⟨hW, hro, hA, ⟨pl, hP⟩, hkb, ⟨pl2, kn, KH, hKP, hKq⟩, hKA, hTp, hSh⟩ := hR0
  have hok := hX.1
  have hw := hok.1
  have hh := hok.2.1
  have hn6 := hX.2.1.1
  refine pk_meth (own := RX6) (ini := false) [some (.ref 5), some (.int i), some (.int k), some (.int t)] (by decide +kernel) rfl (by decide +kernel) rfl rfl ?_
  refine pk_iload_n dX6_tell_0 rfl ?_
  refine pk_iconst (v := nI 5) dX6_tell_1 (by decide) ?_
  refine pk_Si dX6_tell_2 ml_X6_71 yw_X6_isBelow ys_X6_isBelow (e_X6_isBelow _ _) rfl rfl rfl rfl rfl rfl rfl ?_
  first | refine pk_eqb (tgt := 26) dX6_tell_5 (by decide) (fun c_5 => ?_) (fun c_5 => ?_) | refine pk_eq0N (tgt := 26) dX6_tell_5 (by decide) (by omega) (fun c_5 => ?_) (fun c_5 => ?_) | refine pk_if_eq (tgt := 26) dX6_tell_5 (by decide) (fun c_5 => ?_) (fun c_5 => ?_)
  · refine pk_iconst (v := -1) dX6_tell_26 (by decide) ?_
    refine pk_reti dX6_tell_27 (by first | rfl | exact pk_nbi _) ?_
    rw [op_tell, if_pos]
    · exact ⟨rfl, pk_ff.rf _ M, hR⟩
    · first | (simp only [sp_b, c_5, Bool.false_and]; done) | (simp only [sp_b, c_13, Bool.false_and, Bool.and_false]; done) | (simp only [sp_b, c_23, Bool.and_false]; done)
  · obtain ⟨i, hi, rfl⟩ := sp_b_of c_5 (by decide)
    refine pk_iload_n dX6_tell_8 rfl ?_
    refine pk_iconst (v := nI 4) dX6_tell_9 (by decide) ?_
    refine pk_Si dX6_tell_10 ml_X6_71 yw_X6_isBelow ys_X6_isBelow (e_X6_isBelow _ _) rfl rfl rfl rfl rfl rfl rfl ?_
    first | refine pk_eqb (tgt := 26) dX6_tell_13 (by decide) (fun c_13 => ?_) (fun c_13 => ?_) | refine pk_eq0N (tgt := 26) dX6_tell_13 (by decide) (by omega) (fun c_13 => ?_) (fun c_13 => ?_) | refine pk_if_eq (tgt := 26) dX6_tell_13 (by decide) (fun c_13 => ?_) (fun c_13 => ?_)
    · refine pk_iconst (v := -1) dX6_tell_26 (by decide) ?_
      refine pk_reti dX6_tell_27 (by first | rfl | exact pk_nbi _) ?_
      rw [op_tell, if_pos]
      · exact ⟨rfl, pk_ff.rf _ M, hR⟩
      · first | (simp only [sp_b, c_5, Bool.false_and]; done) | (simp only [sp_b, c_13, Bool.false_and, Bool.and_false]; done) | (simp only [sp_b, c_23, Bool.and_false]; done)
    · obtain ⟨k, hk, rfl⟩ := sp_b_of c_13 (by decide)
      refine pk_iload_n dX6_tell_16 rfl ?_
      refine pk_sipush (v := nI 4096) dX6_tell_17 (by decide) ?_
      refine pk_Si dX6_tell_20 ml_X6_71 yw_X6_isBelow ys_X6_isBelow (e_X6_isBelow _ _) rfl rfl rfl rfl rfl rfl rfl ?_
      first | refine pk_neb (tgt := 28) dX6_tell_23 (by decide) (fun c_23 => ?_) (fun c_23 => ?_) | refine pk_ne0N (tgt := 28) dX6_tell_23 (by decide) (by omega) (fun c_23 => ?_) (fun c_23 => ?_) | refine pk_if_ne (tgt := 28) dX6_tell_23 (by decide) (fun c_23 => ?_) (fun c_23 => ?_)
      · obtain ⟨t, ht, rfl⟩ := sp_b_of c_23 (by decide)
        have hk4 := hok.2.2.2.1 i hi
        have ht4 := hok.2.2.2.2.1 i hi
        have e0 : (sp_b (nI i) 5 && sp_b (nI k) 4 && sp_b (nI t) 4096) = true := by rw [sp_b_n hi (by decide), sp_b_n hk (by decide), sp_b_n ht (by decide)]; rfl
        rw [op_tell, if_neg (by rw [e0]; decide), nI_clamp (by omega), nI_clamp (by omega), nI_clamp (by omega)]
        refine pk_aload_n dX6_tell_28 rfl ?_
        refine pk_getP dX6_tell_29 fl_X6_10 rfl (hW.s rfl) (hW.p rfl) ?_
        refine pk_getP dX6_tell_32 fl_X6_75 rfl (hW.s rfl) (hW.p rfl) ?_
        refine pk_iload_n dX6_tell_35 rfl ?_
        refine pk_aldN dX6_tell_36 (hW.s rfl) (by omega) (by omega) (hA.2.2.2.1 _ (by omega)) ?_
        refine pk_iload_n dX6_tell_37 rfl ?_
        first | refine pk_neN (tgt := 57) dX6_tell_38 (by decide) (by omega) (by omega) (fun c_38 => ?_) (fun c_38 => ?_) | refine pk_icmp_ne (tgt := 57) dX6_tell_38 (by decide) (fun c_38 => ?_) (fun c_38 => ?_)
        · refine pk_aload_n dX6_tell_57 rfl ?_
          refine pk_getP dX6_tell_58 fl_X6_19 rfl (hW.s rfl) (hW.p rfl) ?_
          refine pk_aload_n dX6_tell_61 rfl ?_
          refine pk_getP dX6_tell_62 fl_X6_10 rfl (hW.s rfl) (hW.p rfl) ?_
          refine pk_Vvr dX6_tell_65 ml_X6_196 yw_X2_keep yv_X2_keep (hW.s rfl) (e_X2_keep hW hA hP) rfl rfl rfl rfl rfl rfl rfl (fun M1 h1 => ?_)
          have hRk := hR.kp h1
          have hfk := h1.1
          replace hW := hRk.1
          have hA1 := hRk.2.2.1
          refine pk_aload_n dX6_tell_68 rfl ?_
          refine pk_getP dX6_tell_69 fl_X6_10 rfl (hW.s rfl) (hW.p rfl) ?_
          refine pk_getP dX6_tell_72 fl_X6_75 rfl (hW.s rfl) (hW.p rfl) ?_
          refine pk_iload_n dX6_tell_75 rfl ?_
          refine pk_iload_n dX6_tell_76 rfl ?_
          refine pk_astN dX6_tell_77 (hW.s rfl) (by omega) (by omega) (by omega) ?_
          refine pk_aload_n dX6_tell_78 rfl ?_
          refine pk_getP dX6_tell_79 fl_X6_10 rfl (hW.s rfl) (hW.p rfl) ?_
          refine pk_getP dX6_tell_82 fl_X6_78 rfl (hW.s rfl) (hW.p rfl) ?_
          refine pk_iload_n dX6_tell_85 rfl ?_
          refine pk_iload_n dX6_tell_86 rfl ?_
          refine pk_astN dX6_tell_87 (hW.s rfl) (by omega) (by omega) (by omega) ?_
          refine pk_iconst (v := nI 1) dX6_tell_88 (by decide) ?_
          refine pk_reti dX6_tell_89 (by first | rfl | exact pk_nbi _) ?_
          rw [if_neg (fun h => by first | exact c_38 h.1 | exact c_51 h.2)]
          have hf : pk_fr (fun q => 6 ≤ q ∧ q ≤ 10) M1 (pk_sI (pk_sI M1 7 i (nI k)) 8 i (nI t)) := (pk_fr.sI ⟨by decide, by decide⟩).tr (pk_fr.sI ⟨by decide, by decide⟩)
          refine ⟨rfl, (hfk.mono (fun q h => by omega)).tr (hf.ff.mono (fun q h => by omega)), hRk.st hf.ff ?_⟩
          refine ⟨pk_gS0 (by omega) (pk_gS0 (by omega) hA1.1), pk_gS0 (by omega) (pk_gS0 (by omega) hA1.2.1), pk_gS0 (by omega) (pk_gS0 (by omega) hA1.2.2.1), fun j hj => pk_gS0 (by omega) ?_, fun j hj => ?_, fun j hj => pk_gS0 (by omega) (pk_gS0 (by omega) (hA1.2.2.2.2.2.1 j hj)), fun j hj => pk_gS0 (by omega) (pk_gS0 (by omega) (hA1.2.2.2.2.2.2 j hj))⟩
          · by_cases h : j = i
            · subst h
              exact pk_gS1 rfl rfl (by simp [sp_k, s_ink])
            · refine pk_gS0 (Or.inr h) ((hA1.2.2.2.1 j hj).trans ?_)
              simp [sp_k, s_ink, h, x_K]
          · by_cases h : j = i
            · subst h
              exact pk_gS1 rfl rfl (by simp [sp_t, s_ink])
            · refine pk_gS0 (Or.inr h) (pk_gS0 (by omega) ((hA1.2.2.2.2.1 j hj).trans ?_))
              simp [sp_t, s_ink, h, x_K]
        · refine pk_aload_n dX6_tell_41 rfl ?_
          refine pk_getP dX6_tell_42 fl_X6_10 rfl (hW.s rfl) (hW.p rfl) ?_
          refine pk_getP dX6_tell_45 fl_X6_78 rfl (hW.s rfl) (hW.p rfl) ?_
          refine pk_iload_n dX6_tell_48 rfl ?_
          refine pk_aldN dX6_tell_49 (hW.s rfl) (by omega) (by omega) (hA.2.2.2.2.1 _ (by omega)) ?_
          refine pk_iload_n dX6_tell_50 rfl ?_
          first | refine pk_neN (tgt := 57) dX6_tell_51 (by decide) (by omega) (by omega) (fun c_51 => ?_) (fun c_51 => ?_) | refine pk_icmp_ne (tgt := 57) dX6_tell_51 (by decide) (fun c_51 => ?_) (fun c_51 => ?_)
          · refine pk_aload_n dX6_tell_57 rfl ?_
            refine pk_getP dX6_tell_58 fl_X6_19 rfl (hW.s rfl) (hW.p rfl) ?_
            refine pk_aload_n dX6_tell_61 rfl ?_
            refine pk_getP dX6_tell_62 fl_X6_10 rfl (hW.s rfl) (hW.p rfl) ?_
            refine pk_Vvr dX6_tell_65 ml_X6_196 yw_X2_keep yv_X2_keep (hW.s rfl) (e_X2_keep hW hA hP) rfl rfl rfl rfl rfl rfl rfl (fun M1 h1 => ?_)
            have hRk := hR.kp h1
            have hfk := h1.1
            replace hW := hRk.1
            have hA1 := hRk.2.2.1
            refine pk_aload_n dX6_tell_68 rfl ?_
            refine pk_getP dX6_tell_69 fl_X6_10 rfl (hW.s rfl) (hW.p rfl) ?_
            refine pk_getP dX6_tell_72 fl_X6_75 rfl (hW.s rfl) (hW.p rfl) ?_
            refine pk_iload_n dX6_tell_75 rfl ?_
            refine pk_iload_n dX6_tell_76 rfl ?_
            refine pk_astN dX6_tell_77 (hW.s rfl) (by omega) (by omega) (by omega) ?_
            refine pk_aload_n dX6_tell_78 rfl ?_
            refine pk_getP dX6_tell_79 fl_X6_10 rfl (hW.s rfl) (hW.p rfl) ?_
            refine pk_getP dX6_tell_82 fl_X6_78 rfl (hW.s rfl) (hW.p rfl) ?_
            refine pk_iload_n dX6_tell_85 rfl ?_
            refine pk_iload_n dX6_tell_86 rfl ?_
            refine pk_astN dX6_tell_87 (hW.s rfl) (by omega) (by omega) (by omega) ?_
            refine pk_iconst (v := nI 1) dX6_tell_88 (by decide) ?_
            refine pk_reti dX6_tell_89 (by first | rfl | exact pk_nbi _) ?_
            rw [if_neg (fun h => by first | exact c_38 h.1 | exact c_51 h.2)]
            have hf : pk_fr (fun q => 6 ≤ q ∧ q ≤ 10) M1 (pk_sI (pk_sI M1 7 i (nI k)) 8 i (nI t)) := (pk_fr.sI ⟨by decide, by decide⟩).tr (pk_fr.sI ⟨by decide, by decide⟩)
            refine ⟨rfl, (hfk.mono (fun q h => by omega)).tr (hf.ff.mono (fun q h => by omega)), hRk.st hf.ff ?_⟩
            refine ⟨pk_gS0 (by omega) (pk_gS0 (by omega) hA1.1), pk_gS0 (by omega) (pk_gS0 (by omega) hA1.2.1), pk_gS0 (by omega) (pk_gS0 (by omega) hA1.2.2.1), fun j hj => pk_gS0 (by omega) ?_, fun j hj => ?_, fun j hj => pk_gS0 (by omega) (pk_gS0 (by omega) (hA1.2.2.2.2.2.1 j hj)), fun j hj => pk_gS0 (by omega) (pk_gS0 (by omega) (hA1.2.2.2.2.2.2 j hj))⟩
            · by_cases h : j = i
              · subst h
                exact pk_gS1 rfl rfl (by simp [sp_k, s_ink])
              · refine pk_gS0 (Or.inr h) ((hA1.2.2.2.1 j hj).trans ?_)
                simp [sp_k, s_ink, h, x_K]
            · by_cases h : j = i
              · subst h
                exact pk_gS1 rfl rfl (by simp [sp_t, s_ink])
              · refine pk_gS0 (Or.inr h) (pk_gS0 (by omega) ((hA1.2.2.2.2.1 j hj).trans ?_))
                simp [sp_t, s_ink, h, x_K]
          · refine pk_bipush (v := -2) dX6_tell_54 (by decide) ?_
            refine pk_reti dX6_tell_56 (by first | rfl | exact pk_nbi _) ?_
            rw [if_pos ⟨c_38, c_51⟩]
            exact ⟨rfl, pk_ff.rf _ M, hR⟩
      · refine pk_iconst (v := -1) dX6_tell_26 (by decide) ?_
        refine pk_reti dX6_tell_27 (by first | rfl | exact pk_nbi _) ?_
        rw [op_tell, if_pos]
        · exact ⟨rfl, pk_ff.rf _ M, hR⟩
        · first | (simp only [sp_b, c_5, Bool.false_and]; done) | (simp only [sp_b, c_13, Bool.false_and, Bool.and_false]; done) | (simp only [sp_b, c_23, Bool.and_false]; done)

set_option maxRecDepth 100000 in
set_option maxHeartbeats 4000000 in
theorem e_X6_put {Γ : pk_T} {M : pk_M} {L : Nat} {X : pk_X} (hR : pk_RC L M X) (hX : pk_okX X) (x y v : Int32) : pk_E Γ yX6_put cX6_put 5 (some .int) 3 0 0 M [.ref 5, .int x, .int y, .int v] (fun r M' => r = some (.int (op_put X x y v).1) ∧ pk_cf M M' ∧ pk_RC L M' (op_put X x y v).2) := by
  have hR0 := hR
  obtain ⟨hW, hro, hA, ⟨pl, hP⟩, hkb, ⟨pl2, kn, KH, hKP, hKq⟩, hKA, hTp, hSh⟩ := hR0
  have hok := hX.1
  have hw := hok.1
  have hh := hok.2.1
  have hn6 := hX.2.1.1
  refine pk_meth (own := RX6) (ini := false) [some (.ref 5), some (.int x), some (.int y), some (.int v), none] (by decide +kernel) rfl (by decide +kernel) rfl rfl ?_
  refine pk_aload_n dX6_put_0 rfl ?_
  refine pk_getP dX6_put_1 fl_X6_10 rfl (hW.s rfl) (hW.p rfl) ?_
  refine pk_iload_n dX6_put_4 rfl ?_
  refine pk_iload_n dX6_put_5 rfl ?_
  refine pk_Vi dX6_put_6 ml_X6_100 yw_X4_isInside yv_X4_isInside (hW.s rfl) (e_X4_isInside (p := 6) hW rfl hA hok _ _) rfl rfl rfl rfl rfl rfl rfl ?_
  first | refine pk_eqb (tgt := 21) dX6_put_9 (by decide) (fun c_9 => ?_) (fun c_9 => ?_) | refine pk_eq0N (tgt := 21) dX6_put_9 (by decide) (by omega) (fun c_9 => ?_) (fun c_9 => ?_) | refine pk_if_eq (tgt := 21) dX6_put_9 (by decide) (fun c_9 => ?_) (fun c_9 => ?_)
  · refine pk_iconst (v := -1) dX6_put_21 (by decide) ?_
    refine pk_reti dX6_put_22 (by first | rfl | exact pk_nbi _) ?_
    rw [op_put, if_pos]
    · exact ⟨rfl, pk_ff.rf _ M, hR⟩
    · first | (simp only [c_9, Bool.false_and]; done) | (simp only [sp_b, c_18, Bool.and_false]; done)
  · refine pk_iload_n dX6_put_12 rfl ?_
    refine pk_bipush (v := nI 32) dX6_put_13 (by decide) ?_
    refine pk_Si dX6_put_15 ml_X6_71 yw_X6_isBelow ys_X6_isBelow (e_X6_isBelow _ _) rfl rfl rfl rfl rfl rfl rfl ?_
    first | refine pk_neb (tgt := 23) dX6_put_18 (by decide) (fun c_18 => ?_) (fun c_18 => ?_) | refine pk_ne0N (tgt := 23) dX6_put_18 (by decide) (by omega) (fun c_18 => ?_) (fun c_18 => ?_) | refine pk_if_ne (tgt := 23) dX6_put_18 (by decide) (fun c_18 => ?_) (fun c_18 => ?_)
    · obtain ⟨v, hv, rfl⟩ := sp_b_of c_18 (by decide)
      have hat := sp_at_lt hok x y
      have e0 : (sp_inb X.1 x y && sp_b (nI v) 32) = true := by rw [c_9, sp_b_n hv (by decide)]; rfl
      rw [op_put, if_neg (by rw [e0]; decide), nI_clamp (show v < 2 ^ 31 by omega)]
      refine pk_aload_n dX6_put_23 rfl ?_
      refine pk_getP dX6_put_24 fl_X6_10 rfl (hW.s rfl) (hW.p rfl) ?_
      refine pk_iload_n dX6_put_27 rfl ?_
      refine pk_iload_n dX6_put_28 rfl ?_
      refine pk_Vi dX6_put_29 ml_X6_103 yw_X4_at yv_X4_at (hW.s rfl) (e_X4_at (p := 6) hW rfl hA hok _ _ rfl) rfl rfl rfl rfl rfl rfl rfl ?_
      refine pk_istore dX6_put_32 rfl rfl ?_
      refine pk_iload dX6_put_34 rfl ?_
      refine pk_iload_n dX6_put_36 rfl ?_
      first | refine pk_neN (tgt := 43) dX6_put_37 (by decide) (by omega) (by omega) (fun c_37 => ?_) (fun c_37 => ?_) | refine pk_icmp_ne (tgt := 43) dX6_put_37 (by decide) (fun c_37 => ?_) (fun c_37 => ?_)
      · refine pk_aload_n dX6_put_43 rfl ?_
        refine pk_getP dX6_put_44 fl_X6_19 rfl (hW.s rfl) (hW.p rfl) ?_
        refine pk_aload_n dX6_put_47 rfl ?_
        refine pk_getP dX6_put_48 fl_X6_10 rfl (hW.s rfl) (hW.p rfl) ?_
        refine pk_Vvr dX6_put_51 ml_X6_196 yw_X2_keep yv_X2_keep (hW.s rfl) (e_X2_keep hW hA hP) rfl rfl rfl rfl rfl rfl rfl (fun M1 h1 => ?_)
        have hRk := hR.kp h1
        have hfk := h1.1
        replace hW := hRk.1
        have hA1 := hRk.2.2.1
        refine pk_aload_n dX6_put_54 rfl ?_
        refine pk_getP dX6_put_55 fl_X6_10 rfl (hW.s rfl) (hW.p rfl) ?_
        refine pk_iload_n dX6_put_58 rfl ?_
        refine pk_iload_n dX6_put_59 rfl ?_
        refine pk_iload_n dX6_put_60 rfl ?_
        refine pk_Vv dX6_put_61 ml_X6_202 yw_X4_write yv_X4_write (hW.s rfl) (e_X4_write (p := 6) (A := X.1) hW rfl hA1 hok _ _ _) rfl rfl rfl rfl rfl rfl rfl ?_
        refine pk_iload dX6_put_64 rfl ?_
        refine pk_reti dX6_put_66 (by first | rfl | exact pk_nbi _) ?_
        rw [if_neg c_37, c_9, if_pos rfl]
        obtain ⟨i, j, hi, hj, rfl, rfl⟩ := sp_inb_of hok c_9
        rw [nI_clamp (show i < 2 ^ 31 by omega), nI_clamp (show j < 2 ^ 31 by omega)]
        have hf : pk_fr (fun q => 6 ≤ q ∧ q ≤ 10) M1 (pk_sI M1 (6 + 4) (j * 8 + i) (nI v)) := pk_fr.sI ⟨by decide, by decide⟩
        refine ⟨rfl, (hfk.mono (fun q h => by omega)).tr (hf.ff.mono (fun q h => by omega)), hRk.st hf.ff ?_⟩
        refine ⟨pk_gS0 (by omega) hA1.1, pk_gS0 (by omega) hA1.2.1, pk_gS0 (by omega) hA1.2.2.1, fun a ha => pk_gS0 (by omega) (hA1.2.2.2.1 a ha), fun a ha => pk_gS0 (by omega) (hA1.2.2.2.2.1 a ha), fun a ha => pk_gS0 (by omega) (hA1.2.2.2.2.2.1 a ha), fun a ha => ?_⟩
        by_cases h : a = j * 8 + i
        · subst h
          exact pk_gS1 rfl rfl (by simp [sp_s, s_set])
        · refine pk_gS0 (Or.inr h) ((hA1.2.2.2.2.2.2 a ha).trans ?_)
          simp [sp_s, s_set, h, x_K]
      · refine pk_bipush (v := -2) dX6_put_40 (by decide) ?_
        refine pk_reti dX6_put_42 (by first | rfl | exact pk_nbi _) ?_
        rw [if_pos c_37]
        exact ⟨rfl, pk_ff.rf _ M, hR⟩
    · refine pk_iconst (v := -1) dX6_put_21 (by decide) ?_
      refine pk_reti dX6_put_22 (by first | rfl | exact pk_nbi _) ?_
      rw [op_put, if_pos]
      · exact ⟨rfl, pk_ff.rf _ M, hR⟩
      · first | (simp only [c_9, Bool.false_and]; done) | (simp only [sp_b, c_18, Bool.and_false]; done)

set_option maxRecDepth 100000 in
set_option maxHeartbeats 4000000 in
theorem e_X6_undo {Γ : pk_T} {M : pk_M} {L : Nat} {X : pk_X} (hR : pk_RC L M X) (hX : pk_okX X) : pk_E Γ yX6_undo cX6_undo 1 (some .int) 3 0 0 M [.ref 5] (fun r M' => r = some (.int (op_undo X).1) ∧ pk_cf M M' ∧ pk_RC L M' (op_undo X).2) := by
  have hR0 := hR
  obtain ⟨hW, hro, hA, ⟨pl, hP⟩, hkb, ⟨pl2, kn, KH, hKP, hKq⟩, hKA, hTp, hSh⟩ := hR0
  have hok := hX.1
  have hw := hok.1
  have hh := hok.2.1
  have hn6 := hX.2.1.1
  refine pk_meth (own := RX6) (ini := false) [some (.ref 5)] (by decide +kernel) rfl (by decide +kernel) rfl rfl ?_
  refine pk_aload_n dX6_undo_0 rfl ?_
  refine pk_getP dX6_undo_1 fl_X6_19 rfl (hW.s rfl) (hW.p rfl) ?_
  refine pk_aload_n dX6_undo_4 rfl ?_
  refine pk_getP dX6_undo_5 fl_X6_10 rfl (hW.s rfl) (hW.p rfl) ?_
  refine pk_Vg dX6_undo_8 ml_X6_222 yw_X2_bring yv_X2_bring (hW.s rfl) (e_X2_bring hW hP) rfl rfl rfl rfl rfl rfl rfl (fun v M1 h1 => ?_)
  rcases h1 with ⟨hn, rfl, rfl⟩ | ⟨hn, rfl, hff, hP1, hA1⟩
  · rw [op_undo, if_pos hn]
    refine pk_eq0N (a := 0) (tgt := 24) dX6_undo_11 (by decide) (by decide) (fun c_11 => ?_) (fun c_11 => ?_)
    · refine pk_bipush (v := -4) dX6_undo_24 (by decide) ?_
      refine pk_reti dX6_undo_26 (by first | rfl | exact pk_nbi _) ?_
      exact ⟨rfl, pk_ff.rf _ M1, hR⟩
    · exact absurd rfl c_11
  · rw [op_undo, if_neg (by omega)]
    replace hW := hff.wf hW
    refine pk_eq0N (a := 1) (tgt := 24) dX6_undo_11 (by decide) (by decide) (fun c_11 => ?_) (fun c_11 => ?_)
    · exact absurd c_11 (by decide)
    · refine pk_aload_n dX6_undo_14 rfl ?_
      refine pk_getP dX6_undo_15 fl_X6_19 rfl (hW.s rfl) (hW.p rfl) ?_
      refine pk_getN dX6_undo_18 fl_X6_157 rfl (hW.s rfl) hP1.2.1 ?_
      refine pk_goto (tgt := 26) dX6_undo_21 (by decide) ?_
      refine pk_reti dX6_undo_26 (by first | rfl | exact pk_nbi _) ?_
      refine ⟨rfl, hff.mono (fun q h => by omega), hW, hff.ro (fun q h => by omega) hro, hA1, ⟨pl, hP1⟩, (hff.I (by omega) 4).trans hkb, ⟨pl2, kn, KH, hKP.ff hff ⟨by omega, by omega, fun q g1 g2 z => by omega⟩, hKq⟩, fun hk => hff.at (fun q g1 g2 z => by omega) (hKA hk), ⟨(hff.I (by omega) 2).trans hTp.1, fun i hi => (hff.I (by omega) i).trans (hTp.2 i hi)⟩, fun k hk => (hSh k hk).ff hff (by omega) (by omega)⟩
