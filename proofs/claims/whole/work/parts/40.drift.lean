/-! grow. -/
def sp_gn (A : pk_St) (t : Nat) : Nat := sp_c (fun q => !(sp_gro A 48 q == sp_s A q)) t
def op_grow (X : pk_X) : Int32 × pk_X := if sp_gn X.1 48 = 0 then (-2, X) else (nI (sp_gn X.1 48), x_A (x_K X) (s_sets X.1 (sp_gro X.1 48)))
theorem pk_At.setsC {M M1 : pk_M} {A : pk_St} {f : Nat → Nat} (h : pk_At M 6 A) (hf : pk_fr (fun q => q = 10) M M1) (e : ∀ q, q < 48 → pk_I M1 10 q = nI (f q)) : pk_At M1 6 (s_sets A f) := ⟨(hf.I (by omega) 4).trans h.1, (hf.I (by omega) 5).trans h.2.1, (hf.I (by omega) 6).trans h.2.2.1, fun i hi => (hf.I (by omega) i).trans (h.2.2.2.1 i hi), fun i hi => (hf.I (by omega) i).trans (h.2.2.2.2.1 i hi), fun i hi => (hf.I (by omega) i).trans (h.2.2.2.2.2.1 i hi), e⟩

set_option maxRecDepth 100000 in
set_option maxHeartbeats 4000000 in
theorem e_X6_grow {Γ : pk_T} {M : pk_M} {L : Nat} {X : pk_X} (hR : pk_RC L M X) (hX : pk_okX X) : pk_E Γ yX6_grow cX6_grow 3 (some .int) 5 0 0 M [.ref 5] (fun r M' => r = some (.int (op_grow X).1) ∧ pk_cf M M' ∧ pk_RC L M' (op_grow X).2) := by
  have hR0 := hR
  obtain ⟨hW, hro, hA, ⟨pl, hP⟩, hkb, ⟨pl2, kn, KH, hKP, hKq⟩, hKA, hTp, hSh⟩ := hR0
  have hok := hX.1
  have hw := hok.1
  have hh := hok.2.1
  have hn6 := hX.2.1.1
  refine pk_meth (own := RX6) (ini := false) [some (.ref 5), none, none] (by decide +kernel) rfl (by decide +kernel) rfl rfl ?_
  refine pk_aload_n dX6_grow_0 rfl ?_
  refine pk_Vvr dX6_grow_1 ml_X6_206 yw_X6_growAside yv_X6_growAside (hW.s rfl) (e_X6_growAside ⟨hW, hA, hok⟩) rfl rfl rfl rfl rfl rfl rfl (fun M1 h1 => ?_)
  have hRM := hR.scr (h1.1.ff.mono (fun q h => by unfold pk_scr; omega))
  replace hW := h1.1.wf hW
  replace hA := h1.1.at (p := 6) (fun q g1 g2 g3 => by omega) hA
  have hRM0 := hRM
  obtain ⟨-, -, -, ⟨pl1, hP1⟩, -⟩ := hRM0
  refine pk_iconst (v := nI 0) dX6_grow_4 (by decide) ?_
  refine pk_istore_n dX6_grow_5 rfl rfl ?_
  refine pk_iconst (v := nI 0) dX6_grow_6 (by decide) ?_
  refine pk_istore_n dX6_grow_7 rfl rfl ?_
  refine pk_for 48 (fun _ => M1) (fun t => [some (.ref 5), some (.int (nI (sp_gn X.1 t))), some (.int (nI (t)))]) ?_ ?_ 0 (by omega)
  · intro t ht K
    have hgl := sp_gro_lt hok 48 t ht
    have hsl := hok.2.2.2.2.2.2.2.1 t ht
    refine pk_iload_n dX6_grow_8 rfl ?_
    refine pk_bipush (v := nI 48) dX6_grow_9 (by decide) ?_
    first | refine pk_geN (tgt := 41) dX6_grow_11 (by decide) (by omega) (by omega) (fun c_11 => ?_) (fun c_11 => ?_) | refine pk_icmp_ge (tgt := 41) dX6_grow_11 (by decide) (fun c_11 => ?_) (fun c_11 => ?_)
    · omega
    · refine pk_aload_n dX6_grow_14 rfl ?_
      refine pk_getP dX6_grow_15 fl_X6_60 rfl (hW.s rfl) (hW.p rfl) ?_
      refine pk_iload_n dX6_grow_18 rfl ?_
      refine pk_aldN dX6_grow_19 (hW.s rfl) (by omega) (by omega) (h1.2 t ht) ?_
      refine pk_aload_n dX6_grow_20 rfl ?_
      refine pk_getP dX6_grow_21 fl_X6_10 rfl (hW.s rfl) (hW.p rfl) ?_
      refine pk_getP dX6_grow_24 fl_X6_209 rfl (hW.s rfl) (hW.p rfl) ?_
      refine pk_iload_n dX6_grow_27 rfl ?_
      refine pk_aldN dX6_grow_28 (hW.s rfl) (by omega) (by omega) (hA.2.2.2.2.2.2 t ht) ?_
      first | refine pk_eqN (tgt := 35) dX6_grow_29 (by decide) (by omega) (by omega) (fun c_29 => ?_) (fun c_29 => ?_) | refine pk_icmp_eq (tgt := 35) dX6_grow_29 (by decide) (fun c_29 => ?_) (fun c_29 => ?_)
      · first | refine pk_inc1 dX6_grow_35 rfl rfl ?_ | refine pk_iinc dX6_grow_35 rfl rfl rfl ?_
        refine pk_goto (tgt := 8) dX6_grow_38 (by decide) ?_
        refine pk_lsq ?_ K
        unfold sp_gn
        rw [sp_c_succ]
        by_cases e : sp_gro X.1 48 t = sp_s X.1 t
        · rw [if_neg (by simp [e])]
          first | exact absurd e c_29 | rfl
        · rw [if_pos (by simp [e])]
          first | exact absurd c_29 e | rfl
      · first | refine pk_inc1 dX6_grow_32 rfl rfl ?_ | refine pk_iinc dX6_grow_32 rfl rfl rfl ?_
        first | refine pk_inc1 dX6_grow_35 rfl rfl ?_ | refine pk_iinc dX6_grow_35 rfl rfl rfl ?_
        refine pk_goto (tgt := 8) dX6_grow_38 (by decide) ?_
        refine pk_lsq ?_ K
        unfold sp_gn
        rw [sp_c_succ]
        by_cases e : sp_gro X.1 48 t = sp_s X.1 t
        · rw [if_neg (by simp [e])]
          first | exact absurd e c_29 | rfl
        · rw [if_pos (by simp [e])]
          first | exact absurd c_29 e | rfl
  · have hgn : sp_gn X.1 48 ≤ 48 := sp_c_le _ 48
    refine pk_iload_n dX6_grow_8 rfl ?_
    refine pk_bipush (v := nI 48) dX6_grow_9 (by decide) ?_
    first | refine pk_geN (tgt := 41) dX6_grow_11 (by decide) (by omega) (by omega) (fun c_11 => ?_) (fun c_11 => ?_) | refine pk_icmp_ge (tgt := 41) dX6_grow_11 (by decide) (fun c_11 => ?_) (fun c_11 => ?_)
    · refine pk_iload_n dX6_grow_41 rfl ?_
      first | refine pk_neb (tgt := 48) dX6_grow_42 (by decide) (fun c_42 => ?_) (fun c_42 => ?_) | refine pk_ne0N (tgt := 48) dX6_grow_42 (by decide) (by omega) (fun c_42 => ?_) (fun c_42 => ?_) | refine pk_if_ne (tgt := 48) dX6_grow_42 (by decide) (fun c_42 => ?_) (fun c_42 => ?_)
      · refine pk_aload_n dX6_grow_48 rfl ?_
        refine pk_getP dX6_grow_49 fl_X6_19 rfl (hW.s rfl) (hW.p rfl) ?_
        refine pk_aload_n dX6_grow_52 rfl ?_
        refine pk_getP dX6_grow_53 fl_X6_10 rfl (hW.s rfl) (hW.p rfl) ?_
        refine pk_Vvr dX6_grow_56 ml_X6_196 yw_X2_keep yv_X2_keep (hW.s rfl) (e_X2_keep hW hA hP1) rfl rfl rfl rfl rfl rfl rfl (fun M2 h2 => ?_)
        have hRk := hRM.kp h2
        have hfk := h2.1
        replace hW := hRk.1
        have hA2 : pk_At M2 6 X.1 := hRk.2.2.1
        have hg2 : ∀ q, q < 48 → pk_I M2 92 q = nI (sp_gro X.1 48 q) := fun q hq => (hfk.I (by omega) q).trans (h1.2 q hq)
        refine pk_aload_n dX6_grow_59 rfl ?_
        refine pk_getP dX6_grow_60 fl_X6_60 rfl (hW.s rfl) (hW.p rfl) ?_
        refine pk_iconst (v := nI 0) dX6_grow_63 (by decide) ?_
        refine pk_aload_n dX6_grow_64 rfl ?_
        refine pk_getP dX6_grow_65 fl_X6_10 rfl (hW.s rfl) (hW.p rfl) ?_
        refine pk_getP dX6_grow_68 fl_X6_209 rfl (hW.s rfl) (hW.p rfl) ?_
        refine pk_iconst (v := nI 0) dX6_grow_71 (by decide) ?_
        refine pk_bipush (v := nI 48) dX6_grow_72 (by decide) ?_
        refine pk_copyIN dX6_grow_74 mo_X6_210 nat_copy st_copy it_sys (hW.s rfl) (hW.s rfl) (by omega) (by omega) (by omega) (by omega) (by omega) (by omega) rfl rfl ?_
        refine pk_iload_n dX6_grow_77 rfl ?_
        refine pk_reti dX6_grow_78 (by first | rfl | exact pk_nbi _) ?_
        rw [op_grow, if_neg c_42]
        have hf : pk_fr (fun q => q = 10) M2 (pk_cI M2 92 0 10 0 48) := pk_fr.cI rfl
        exact ⟨rfl, ((h1.1.ff.mono (fun q h => by omega)).tr (hfk.mono (fun q h => by omega))).tr (hf.ff.mono (fun q h => by omega)), hRk.st (hf.ff.mono (fun q h => by omega)) (hA2.setsC hf (fun q hq => pk_gC1 (by omega) (by rw [show 0 + (q - 0) = q by omega]; exact hg2 q hq)))⟩
      · refine pk_bipush (v := -2) dX6_grow_45 (by decide) ?_
        refine pk_reti dX6_grow_47 (by first | rfl | exact pk_nbi _) ?_
        rw [op_grow, if_pos c_42]
        exact ⟨rfl, h1.1.ff.mono (fun q h => by omega), hRM⟩
    · omega
