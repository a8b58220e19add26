/-! film, seen. -/
def sp_flI (A : pk_St) (y a l : Nat) (f : Nat → Int64) (n : Nat) : Nat → Int64 := fun j => if a ≤ j ∧ j < a + n then sp_cut l (nI (sp_lookA A (sp_s A (y * 8 + (j - a))))).toInt64 else f j
def op_film (X : pk_X) (y s l i : Int32) : Int32 × pk_X := if (sp_b y (sp_h X.1) && (sp_b s 4 && sp_b l 4)) = false then (-1, X) else if ¬ sp_why (X.2.2.2.2 s.toNatClampNeg) l i (nI (sp_w X.1)) = 0 then (sp_why (X.2.2.2.2 s.toNatClampNeg) l i (nI (sp_w X.1)), X) else
  (nI (sp_w X.1), x_S X s.toNatClampNeg ((X.2.2.2.2 s.toNatClampNeg).1, (X.2.2.2.2 s.toNatClampNeg).2.1, (X.2.2.2.2 s.toNatClampNeg).2.2.1, sp_flI X.1 y.toNatClampNeg i.toNatClampNeg (X.2.2.2.2 s.toNatClampNeg).2.1 (X.2.2.2.2 s.toNatClampNeg).2.2.2 (sp_w X.1)))

set_option maxRecDepth 100000 in
set_option maxHeartbeats 4000000 in
theorem e_X6_film {Γ : pk_T} {M : pk_M} {L : Nat} {X : pk_X} (hR : pk_RC L M X) (hX : pk_okX X) (y s l i : Int32) : pk_E Γ yX6_film cX6_film 8 (some .int) 4 0 0 M [.ref 5, .int y, .int s, .int l, .int i] (fun r M' => r = some (.int (op_film X y s l i).1) ∧ pk_cf M M' ∧ pk_RC L M' (op_film X y s l i).2) := by
  have hR0 := hR
  obtain ⟨hW, hro, hA, ⟨pl, hP⟩, hkb, ⟨pl2, kn, KH, hKP, hKq⟩, hKA, hTp, hSh⟩ := hR0
  have hok := hX.1
  have hw := hok.1
  have hh := hok.2.1
  have hn6 := hX.2.1.1
  refine pk_meth (own := RX6) (ini := false) [some (.ref 5), some (.int y), some (.int s), some (.int l), some (.int i), none, none, none] (by decide +kernel) rfl (by decide +kernel) rfl rfl ?_
  refine pk_iload_n dX6_film_0 rfl ?_
  refine pk_aload_n dX6_film_1 rfl ?_
  refine pk_getP dX6_film_2 fl_X6_10 rfl (hW.s rfl) (hW.p rfl) ?_
  refine pk_getN dX6_film_5 fl_X6_161 rfl (hW.s rfl) hA.2.1 ?_
  refine pk_Si dX6_film_8 ml_X6_71 yw_X6_isBelow ys_X6_isBelow (e_X6_isBelow _ _) rfl rfl rfl rfl rfl rfl rfl ?_
  first | refine pk_eqb (tgt := 22) dX6_film_11 (by decide) (fun c_11 => ?_) (fun c_11 => ?_) | refine pk_eq0N (tgt := 22) dX6_film_11 (by decide) (by omega) (fun c_11 => ?_) (fun c_11 => ?_) | refine pk_if_eq (tgt := 22) dX6_film_11 (by decide) (fun c_11 => ?_) (fun c_11 => ?_)
  · refine pk_iconst (v := -1) dX6_film_22 (by decide) ?_
    refine pk_reti dX6_film_23 (by first | rfl | exact pk_nbi _) ?_
    rw [op_film, if_pos]
    · exact ⟨rfl, pk_ff.rf _ M, hR⟩
    · first | (simp only [sp_b, c_11, Bool.false_and]; done) | (rw [show (sp_b s 4 && sp_b l 4) = false from c_19, Bool.and_false])
  · refine pk_iload_n dX6_film_14 rfl ?_
    refine pk_iload_n dX6_film_15 rfl ?_
    refine pk_Si dX6_film_16 ml_X6_260 yw_X6_isTaking ys_X6_isTaking (e_X6_isTaking _ _) rfl rfl rfl rfl rfl rfl rfl ?_
    first | refine pk_neb (tgt := 24) dX6_film_19 (by decide) (fun c_19 => ?_) (fun c_19 => ?_) | refine pk_ne0N (tgt := 24) dX6_film_19 (by decide) (by omega) (fun c_19 => ?_) (fun c_19 => ?_) | refine pk_if_ne (tgt := 24) dX6_film_19 (by decide) (fun c_19 => ?_) (fun c_19 => ?_)
    · obtain ⟨y, hy, rfl⟩ := sp_b_of c_11 (by omega)
      have c19 := c_19
      rw [Bool.and_eq_true] at c19
      obtain ⟨k, hk, rfl⟩ := sp_b_of c19.1 (by decide)
      have hs := pk_isR_s hW (pk_isR_k hk)
      have hSk := hSh k hk
      have e0 : (sp_b (nI y) (sp_h X.1) && (sp_b (nI k) 4 && sp_b l 4)) = true := by rw [sp_b_n hy (by omega), sp_b_n hk (by decide)]; exact c19.2
      rw [op_film, if_neg (by rw [e0]; decide), nI_clamp (show k < 2 ^ 31 by omega), nI_clamp (show y < 2 ^ 31 by omega)]
      refine pk_aload_n dX6_film_24 rfl ?_
      refine pk_getP dX6_film_25 fl_X6_56 rfl (hW.s rfl) (hW.p rfl) ?_
      refine pk_iload_n dX6_film_28 rfl ?_
      refine pk_aaN dX6_film_29 (Or.inr ⟨rfl, rfl⟩) (hW.s rfl) (by omega) (by omega) (by omega) (hW.rows hk) ?_
      refine pk_astore dX6_film_30 rfl rfl ?_
      refine pk_aload dX6_film_32 rfl ?_
      refine pk_iload_n dX6_film_34 rfl ?_
      refine pk_iload dX6_film_35 rfl ?_
      refine pk_aload_n dX6_film_37 rfl ?_
      refine pk_getP dX6_film_38 fl_X6_10 rfl (hW.s rfl) (hW.p rfl) ?_
      refine pk_getN dX6_film_41 fl_X6_160 rfl (hW.s rfl) hA.1 ?_
      refine pk_Vi dX6_film_44 ml_X6_263 yw_X3_whyNot yv_X3_whyNot hs.1 (e_X3_whyNot hW (pk_isR_k hk) hSk _ _ _) rfl rfl rfl rfl rfl rfl rfl ?_
      refine pk_istore dX6_film_47 rfl rfl ?_
      refine pk_iload dX6_film_49 rfl ?_
      refine pk_if_eq (tgt := 57) dX6_film_51 (by decide) (fun c_51 => ?_) (fun c_51 => ?_)
      · obtain ⟨w1, w2, w3⟩ := sp_why_0 c_51
        obtain ⟨a, b, rfl, hb, hab⟩ := sp_has_of hSk.2.2.2.2.1 w3
        have hm24 := hSk.2.2.2.2.1
        have hbw : sp_w X.1 = b := (nI_eq (by omega) (by omega)).mp hb
        subst hbw
        rw [if_neg (fun h => h c_51), nI_clamp (show a < 2 ^ 31 by omega)]
        refine pk_iconst (v := nI 0) dX6_film_57 (by decide) ?_
        refine pk_istore dX6_film_58 rfl rfl ?_
        refine pk_Mq (M' := pk_wJ M (95 + 2 * k + 1) (sp_flI X.1 y a (X.2.2.2.2 k).2.1 (pk_J M (95 + 2 * k + 1)) 0)) ((pk_wJ_id M _).symm.trans (by congr 1; funext j; rw [sp_flI, if_neg (by omega)])) ?_
        refine pk_fgt (ls' := [some (.ref 5), some (.int (nI y)), some (.int (nI k)), some (.int l), some (.int (nI a)), some (.ref (95 + 2 * k)), none, some (.int (nI 0))]) (by repeat first | exact trivial | refine ⟨rfl, ?_⟩) ?_
        refine pk_for (sp_w X.1) (fun x => pk_wJ M (95 + 2 * k + 1) (sp_flI X.1 y a (X.2.2.2.2 k).2.1 (pk_J M (95 + 2 * k + 1)) x)) (fun x => [some (.ref 5), some (.int (nI y)), some (.int (nI k)), some (.int l), some (.int (nI a)), some (.ref (95 + 2 * k)), none, some (.int (nI x))]) ?_ ?_ 0 (by omega)
        · intro x hx K
          have hsq := hok.2.2.2.2.2.2.2.1 (y * 8 + x) (by omega)
          refine pk_iload dX6_film_60 rfl ?_
          refine pk_aload_n dX6_film_62 rfl ?_
          refine pk_getP dX6_film_63 fl_X6_10 rfl (hW.s rfl) (hW.p rfl) ?_
          refine pk_getN dX6_film_66 fl_X6_160 rfl (hW.s rfl) hA.1 ?_
          first | refine pk_geN (tgt := 103) dX6_film_69 (by decide) (by omega) (by omega) (fun c_69 => ?_) (fun c_69 => ?_) | refine pk_icmp_ge (tgt := 103) dX6_film_69 (by decide) (fun c_69 => ?_) (fun c_69 => ?_)
          · omega
          · refine pk_aload dX6_film_72 rfl ?_
            refine pk_iload dX6_film_74 rfl ?_
            refine pk_iload dX6_film_76 rfl ?_
            first | refine pk_addN dX6_film_78 ?_ | refine pk_iadd dX6_film_78 ?_
            refine pk_aload_n dX6_film_79 rfl ?_
            refine pk_aload_n dX6_film_80 rfl ?_
            refine pk_getP dX6_film_81 fl_X6_10 rfl (hW.s rfl) (hW.p rfl) ?_
            refine pk_iload dX6_film_84 rfl ?_
            refine pk_iload_n dX6_film_86 rfl ?_
            refine pk_Vi dX6_film_87 ml_X6_103 yw_X4_at yv_X4_at (hW.s rfl) (e_X4_at (p := 6) (M := pk_wJ M (95 + 2 * k + 1) (sp_flI X.1 y a (X.2.2.2.2 k).2.1 (pk_J M (95 + 2 * k + 1)) x)) hW rfl hA hok _ _ (sp_at_n hok hx hy)) rfl rfl rfl rfl rfl rfl rfl ?_
            refine pk_Vi dX6_film_90 ml_X6_85 yw_X6_lookNow yv_X6_lookNow (hW.s rfl) (e_X6_lookNow (M := pk_wJ M (95 + 2 * k + 1) (sp_flI X.1 y a (X.2.2.2.2 k).2.1 (pk_J M (95 + 2 * k + 1)) x)) ⟨hW, hA, hok⟩ hsq) rfl rfl rfl rfl rfl rfl rfl ?_
            refine pk_i2l dX6_film_93 ?_
            refine pk_Vv dX6_film_94 ml_X6_274 yw_X3_write yv_X3_write hs.1 (e_X3_write (M := pk_wJ M (95 + 2 * k + 1) (sp_flI X.1 y a (X.2.2.2.2 k).2.1 (pk_J M (95 + 2 * k + 1)) x)) (i := a + x) (S := ((X.2.2.2.2 k).1, (X.2.2.2.2 k).2.1, (X.2.2.2.2 k).2.2.1, pk_J (pk_wJ M (95 + 2 * k + 1) (sp_flI X.1 y a (X.2.2.2.2 k).2.1 (pk_J M (95 + 2 * k + 1)) x)) (95 + 2 * k + 1))) hW (pk_isR_k hk) ⟨hSk.1, hSk.2.1, hSk.2.2.1, hSk.2.2.2.1, hSk.2.2.2.2.1, fun _ _ => rfl⟩ (by omega) _) rfl rfl rfl rfl rfl rfl rfl ?_
            first | refine pk_inc1 dX6_film_97 rfl rfl ?_ | refine pk_iinc dX6_film_97 rfl rfl rfl ?_
            refine pk_goto (tgt := 60) dX6_film_100 (by decide) ?_
            refine pk_Mq ?_ K
            rw [pk_wJ_sJ]
            congr 1
            funext j
            by_cases h : j = a + x
            · subst h
              rw [if_pos rfl, sp_flI, if_pos (by omega), show a + x - a = x by omega]
            · rw [if_neg h, sp_flI, sp_flI]
              by_cases h2 : a ≤ j ∧ j < a + x
              · rw [if_pos h2, if_pos (by omega)]
              · rw [if_neg h2, if_neg (by omega)]
        · have hff : pk_ff (fun q => q = 95 + 2 * k ∨ q = 96 + 2 * k) M (pk_wJ M (95 + 2 * k + 1) (sp_flI X.1 y a (X.2.2.2.2 k).2.1 (pk_J M (95 + 2 * k + 1)) (sp_w X.1))) := pk_ff.wJ (Or.inr (by omega))
          refine pk_iload dX6_film_60 rfl ?_
          refine pk_aload_n dX6_film_62 rfl ?_
          refine pk_getP dX6_film_63 fl_X6_10 rfl (hW.s rfl) (hW.p rfl) ?_
          refine pk_getN dX6_film_66 fl_X6_160 rfl (hW.s rfl) hA.1 ?_
          first | refine pk_geN (tgt := 103) dX6_film_69 (by decide) (by omega) (by omega) (fun c_69 => ?_) (fun c_69 => ?_) | refine pk_icmp_ge (tgt := 103) dX6_film_69 (by decide) (fun c_69 => ?_) (fun c_69 => ?_)
          · refine pk_aload_n dX6_film_103 rfl ?_
            refine pk_getP dX6_film_104 fl_X6_10 rfl (hW.s rfl) (hW.p rfl) ?_
            refine pk_getN dX6_film_107 fl_X6_160 rfl (hW.s rfl) hA.1 ?_
            refine pk_reti dX6_film_110 (by first | rfl | exact pk_nbi _) ?_
            refine ⟨rfl, hff.mono (fun q h => by omega), hR.sh hk hff ⟨hSk.1, hSk.2.1, hSk.2.2.1, hSk.2.2.2.1, hSk.2.2.2.2.1, fun j hj => ?_⟩⟩
            rw [pk_J_wJ, if_pos rfl]
            show sp_flI _ _ _ _ _ _ j = sp_flI _ _ _ _ _ _ j
            unfold sp_flI
            by_cases h : a ≤ j ∧ j < a + sp_w X.1
            · rw [if_pos h, if_pos h]
            · rw [if_neg h, if_neg h]
              exact hSk.2.2.2.2.2 j hj
          · omega
      · refine pk_iload dX6_film_54 rfl ?_
        refine pk_reti dX6_film_56 (by first | rfl | exact pk_nbi _) ?_
        rw [if_pos c_51]
        exact ⟨rfl, pk_ff.rf _ M, hR⟩
    · refine pk_iconst (v := -1) dX6_film_22 (by decide) ?_
      refine pk_reti dX6_film_23 (by first | rfl | exact pk_nbi _) ?_
      rw [op_film, if_pos]
      · exact ⟨rfl, pk_ff.rf _ M, hR⟩
      · first | (simp only [sp_b, c_11, Bool.false_and]; done) | (rw [show (sp_b s 4 && sp_b l 4) = false from c_19, Bool.and_false])

theorem pk_lcmp0 (x y : Int64) : lg_cmp x y < 0 ↔ x < y := by
  unfold lg_cmp
  constructor
  · intro h
    split at h
    · exact absurd h (by decide)
    · split at h
      · exact absurd h (by decide)
      · rename_i h1 h2
        rcases Int64.lt_or_eq_of_le (Int64.not_lt.mp h1) with z | z
        · exact z
        · exact absurd z h2
  · intro h
    rw [if_neg (fun z => Int64.lt_irrefl (Int64.lt_trans h z)), if_neg (fun z => by subst z; exact Int64.lt_irrefl h)]
    decide
def sp_iss (x : Int64) : Bool := decide (0 ≤ x) && decide (x < 32)
def sp_ts (f : Nat → Int64) (a n : Nat) : Bool := !sp_any (fun q => !sp_iss (f (a + 2 * q))) n
theorem pk_lcmp1 (x y : Int64) : lg_cmp x y = 0 ↔ x = y := by
  unfold lg_cmp
  constructor
  · intro h
    split at h
    · exact absurd h (by decide)
    · split at h
      · assumption
      · exact absurd h (by decide)
  · rintro rfl
    rw [if_neg Int64.lt_irrefl, if_pos rfl]
theorem sp_iss_of {x : Int64} (h : sp_iss x = true) : ∃ s, s < 32 ∧ x.toInt32 = nI s := by
  simp only [sp_iss, Bool.and_eq_true, decide_eq_true_eq, Int64.le_iff_toInt_le, Int64.lt_iff_toInt_lt] at h
  have h0 : (0 : Int64).toInt = 0 := by decide
  have h32 : (32 : Int64).toInt = 32 := by decide
  rw [h0, h32] at h
  refine ⟨x.toInt.toNat, by omega, Int32.toInt_inj.mp ?_⟩
  rw [Int64.toInt_toInt32, nI_toInt (by omega), Int.bmod_eq_of_le (by omega) (by omega)]
  omega

set_option maxRecDepth 100000 in
set_option maxHeartbeats 4000000 in
theorem e_X6_tellsSets {Γ : pk_T} {M : pk_M} {L p a b : Nat} {S : pk_Ro} (hW : pk_WF L M) (hp : pk_isR p = true) (hR : pk_Rw M p S) (hab : a + 2 * b ≤ S.2.2.1) : pk_E Γ yX6_tellsSets cX6_tellsSets 6 (some .boolean) 2 0 0 M [.ref p, .int (nI a), .int (nI b)] (fun r M' => r = some (.int (pk_bi (sp_ts S.2.2.2 a b))) ∧ M' = M) := by
  have hs := pk_isR_s hW hp
  have hm := hR.2.2.2.2.1
  refine pk_meth (own := RX6) (ini := false) [some (.ref p), some (.int (nI a)), some (.int (nI b)), none, none, none] (by decide +kernel) rfl (by decide +kernel) rfl rfl ?_
  refine pk_iconst (v := nI 0) dX6_tellsSets_0 (by decide) ?_
  refine pk_istore_n dX6_tellsSets_1 rfl rfl ?_
  refine pk_fgt (ls' := [some (.ref p), some (.int (nI a)), some (.int (nI b)), some (.int (nI 0)), none, none]) (by repeat first | exact trivial | refine ⟨rfl, ?_⟩) ?_
  refine pk_forJ b (fun q => sp_any (fun q => !sp_iss (S.2.2.2 (a + 2 * q))) q = false) (fun _ => M) (fun q => [some (.ref p), some (.int (nI a)), some (.int (nI b)), some (.int (nI q)), none, none]) ?_ ?_ 0 (by omega) rfl
  · intro q hq hJ K
    refine pk_iload_n dX6_tellsSets_2 rfl ?_
    refine pk_iload_n dX6_tellsSets_3 rfl ?_
    first | refine pk_geN (tgt := 42) dX6_tellsSets_4 (by decide) (by omega) (by omega) (fun c_4 => ?_) (fun c_4 => ?_) | refine pk_icmp_ge (tgt := 42) dX6_tellsSets_4 (by decide) (fun c_4 => ?_) (fun c_4 => ?_)
    · omega
    · refine pk_aload_n dX6_tellsSets_7 rfl ?_
      refine pk_iload_n dX6_tellsSets_8 rfl ?_
      refine pk_iconst (v := nI 2) dX6_tellsSets_9 (by decide) ?_
      refine pk_iload_n dX6_tellsSets_10 rfl ?_
      first | refine pk_mulN dX6_tellsSets_11 ?_ | refine pk_imul dX6_tellsSets_11 ?_
      first | refine pk_addN dX6_tellsSets_12 ?_ | refine pk_iadd dX6_tellsSets_12 ?_
      refine pk_Vl dX6_tellsSets_13 ml_X6_363 yw_X3_at yv_X3_at hs.1 (e_X3_at hW hp hR (by omega)) rfl rfl rfl rfl rfl rfl rfl ?_
      refine pk_lstore dX6_tellsSets_16 rfl rfl ?_
      refine pk_lload dX6_tellsSets_18 rfl ?_
      refine pk_lconst (v := 0) dX6_tellsSets_20 (by decide) ?_
      refine pk_lcmp dX6_tellsSets_21 ?_
      refine pk_if_lt (tgt := 34) dX6_tellsSets_22 (by decide) (fun c_22 => ?_) (fun c_22 => ?_)
      · refine pk_iconst (v := nI 0) dX6_tellsSets_34 (by decide) ?_
        refine pk_reti dX6_tellsSets_35 (by first | rfl | exact pk_nbi _) ?_
        refine ⟨?_, rfl⟩
        have e1 : sp_iss (S.2.2.2 (a + 2 * q)) = false := by
          rw [sp_iss]
          first | (rw [pk_lcmp0] at c_22; rw [decide_eq_false (Int64.not_le.mpr c_22)]; rfl) | (rw [pk_lcmp0] at c_31; rw [show decide (S.2.2.2 (a + 2 * q) < 32) = false from decide_eq_false c_31, Bool.and_false])
        rw [sp_ts, sp_any_true hq (by rw [e1]; rfl)]
        rfl
      · refine pk_lload dX6_tellsSets_25 rfl ?_
        refine pk_ldc2 dX6_tellsSets_27 kc_X6_366 ?_
        refine pk_lcmp dX6_tellsSets_30 ?_
        refine pk_if_lt (tgt := 36) dX6_tellsSets_31 (by decide) (fun c_31 => ?_) (fun c_31 => ?_)
        · first | refine pk_inc1 dX6_tellsSets_36 rfl rfl ?_ | refine pk_iinc dX6_tellsSets_36 rfl rfl rfl ?_
          refine pk_goto (tgt := 2) dX6_tellsSets_39 (by decide) ?_
          have e1 : sp_iss (S.2.2.2 (a + 2 * q)) = true := by
            rw [pk_lcmp0] at c_22 c_31
            rw [sp_iss, decide_eq_true (Int64.not_lt.mp c_22), show decide (S.2.2.2 (a + 2 * q) < 32) = true from decide_eq_true c_31]
            rfl
          exact pk_fgt (by repeat first | exact trivial | refine ⟨rfl, ?_⟩) (K (by rw [sp_any_succ, hJ, e1]; rfl))
        · refine pk_iconst (v := nI 0) dX6_tellsSets_34 (by decide) ?_
          refine pk_reti dX6_tellsSets_35 (by first | rfl | exact pk_nbi _) ?_
          refine ⟨?_, rfl⟩
          have e1 : sp_iss (S.2.2.2 (a + 2 * q)) = false := by
            rw [sp_iss]
            first | (rw [pk_lcmp0] at c_22; rw [decide_eq_false (Int64.not_le.mpr c_22)]; rfl) | (rw [pk_lcmp0] at c_31; rw [show decide (S.2.2.2 (a + 2 * q) < 32) = false from decide_eq_false c_31, Bool.and_false])
          rw [sp_ts, sp_any_true hq (by rw [e1]; rfl)]
          rfl
  · intro hJ
    refine pk_iload_n dX6_tellsSets_2 rfl ?_
    refine pk_iload_n dX6_tellsSets_3 rfl ?_
    first | refine pk_geN (tgt := 42) dX6_tellsSets_4 (by decide) (by omega) (by omega) (fun c_4 => ?_) (fun c_4 => ?_) | refine pk_icmp_ge (tgt := 42) dX6_tellsSets_4 (by decide) (fun c_4 => ?_) (fun c_4 => ?_)
    · refine pk_iconst (v := nI 1) dX6_tellsSets_42 (by decide) ?_
      refine pk_reti dX6_tellsSets_43 (by first | rfl | exact pk_nbi _) ?_
      refine ⟨?_, rfl⟩
      rw [sp_ts, hJ]
      rfl
    · omega

def sp_lt2 (kk : Nat → Nat) (A : pk_St) (f : Nat → Int64) (a n : Nat) : Bool := !sp_any (fun q => !((nI (sp_look kk (sp_t A) (sp_o A) ((f (a + 2 * q)).toInt32.toNatClampNeg))).toInt64 == f (a + 2 * q + 1))) n

set_option maxRecDepth 100000 in
set_option maxHeartbeats 4000000 in
theorem e_X6_looksAsTold {Γ : pk_T} {M : pk_M} {L p a b : Nat} {S : pk_Ro} (hW : pk_WF L M) (hp : pk_isR p = true) (hR : pk_Rw M p S) (hab : a + 2 * b ≤ S.2.2.1) {A : pk_St} {kk : Nat → Nat} (hA : pk_At M 6 A) (hok : pk_okS A) (hkk : ∀ i, i < 5 → pk_I M 94 i = nI (kk i)) (hk4 : ∀ i, i < 5 → kk i < 4) (hts : sp_ts S.2.2.2 a b = true) : pk_E Γ yX6_looksAsTold cX6_looksAsTold 6 (some .boolean) 3 0 0 M [.ref 5, .ref p, .int (nI a), .int (nI b)] (fun r M' => r = some (.int (pk_bi (sp_lt2 kk A S.2.2.2 a b))) ∧ M' = M) := by
  have hs := pk_isR_s hW hp
  have hm := hR.2.2.2.2.1
  refine pk_meth (own := RX6) (ini := false) [some (.ref 5), some (.ref p), some (.int (nI a)), some (.int (nI b)), none, none] (by decide +kernel) rfl (by decide +kernel) rfl rfl ?_
  refine pk_iconst (v := nI 0) dX6_looksAsTold_0 (by decide) ?_
  refine pk_istore dX6_looksAsTold_1 rfl rfl ?_
  refine pk_fgt (ls' := [some (.ref 5), some (.ref p), some (.int (nI a)), some (.int (nI b)), some (.int (nI 0)), none]) (by repeat first | exact trivial | refine ⟨rfl, ?_⟩) ?_
  refine pk_forJ b (fun q => sp_any (fun q => !((nI (sp_look kk (sp_t A) (sp_o A) ((S.2.2.2 (a + 2 * q)).toInt32.toNatClampNeg))).toInt64 == S.2.2.2 (a + 2 * q + 1))) q = false) (fun _ => M) (fun q => [some (.ref 5), some (.ref p), some (.int (nI a)), some (.int (nI b)), some (.int (nI q)), none]) ?_ ?_ 0 (by omega) rfl
  · intro q hq hJ K
    have hq1 : sp_iss (S.2.2.2 (a + 2 * q)) = true := by
      have h1 : sp_any (fun q => !sp_iss (S.2.2.2 (a + 2 * q))) b = false := by simpa [sp_ts] using hts
      cases h2 : sp_iss (S.2.2.2 (a + 2 * q))
      · rw [sp_any_true hq (by rw [h2]; rfl)] at h1
        cases h1
      · rfl
    obtain ⟨s, hs32, es⟩ := sp_iss_of hq1
    refine pk_iload dX6_looksAsTold_3 rfl ?_
    refine pk_iload_n dX6_looksAsTold_5 rfl ?_
    first | refine pk_geN (tgt := 70) dX6_looksAsTold_6 (by decide) (by omega) (by omega) (fun c_6 => ?_) (fun c_6 => ?_) | refine pk_icmp_ge (tgt := 70) dX6_looksAsTold_6 (by decide) (fun c_6 => ?_) (fun c_6 => ?_)
    · omega
    · refine pk_aload_n dX6_looksAsTold_9 rfl ?_
      refine pk_iload_n dX6_looksAsTold_10 rfl ?_
      refine pk_iconst (v := nI 2) dX6_looksAsTold_11 (by decide) ?_
      refine pk_iload dX6_looksAsTold_12 rfl ?_
      first | refine pk_mulN dX6_looksAsTold_14 ?_ | refine pk_imul dX6_looksAsTold_14 ?_
      first | refine pk_addN dX6_looksAsTold_15 ?_ | refine pk_iadd dX6_looksAsTold_15 ?_
      refine pk_Vl dX6_looksAsTold_16 ml_X6_363 yw_X3_at yv_X3_at hs.1 (e_X3_at hW hp hR (by omega)) rfl rfl rfl rfl rfl rfl rfl ?_
      refine pk_l2i dX6_looksAsTold_19 ?_
      rw [es]
      refine pk_istore dX6_looksAsTold_20 rfl rfl ?_
      refine pk_aload_n dX6_looksAsTold_22 rfl ?_
      refine pk_getP dX6_looksAsTold_23 fl_X6_67 rfl (hW.s rfl) (hW.p rfl) ?_
      refine pk_aload_n dX6_looksAsTold_26 rfl ?_
      refine pk_getP dX6_looksAsTold_27 fl_X6_10 rfl (hW.s rfl) (hW.p rfl) ?_
      refine pk_getP dX6_looksAsTold_30 fl_X6_78 rfl (hW.s rfl) (hW.p rfl) ?_
      refine pk_aload_n dX6_looksAsTold_33 rfl ?_
      refine pk_getP dX6_looksAsTold_34 fl_X6_10 rfl (hW.s rfl) (hW.p rfl) ?_
      refine pk_getP dX6_looksAsTold_37 fl_X6_164 rfl (hW.s rfl) (hW.p rfl) ?_
      refine pk_iload dX6_looksAsTold_40 rfl ?_
      refine pk_Si dX6_looksAsTold_42 ml_X6_307 yw_X6_lookBy ys_X6_lookBy (e_X6_lookBy (hW.s rfl) (hW.s rfl) (hW.s rfl) hkk hA.2.2.2.2.1 hA.2.2.2.2.2.1 hk4 hok.2.2.2.2.1 hok.2.2.2.2.2.1 hs32) rfl rfl rfl rfl rfl rfl rfl ?_
      refine pk_i2l dX6_looksAsTold_45 ?_
      refine pk_aload_n dX6_looksAsTold_46 rfl ?_
      refine pk_iload_n dX6_looksAsTold_47 rfl ?_
      refine pk_iconst (v := nI 2) dX6_looksAsTold_48 (by decide) ?_
      refine pk_iload dX6_looksAsTold_49 rfl ?_
      first | refine pk_mulN dX6_looksAsTold_51 ?_ | refine pk_imul dX6_looksAsTold_51 ?_
      first | refine pk_addN dX6_looksAsTold_52 ?_ | refine pk_iadd dX6_looksAsTold_52 ?_
      refine pk_iconst (v := nI 1) dX6_looksAsTold_53 (by decide) ?_
      first | refine pk_addN dX6_looksAsTold_54 ?_ | refine pk_iadd dX6_looksAsTold_54 ?_
      refine pk_Vl dX6_looksAsTold_55 ml_X6_363 yw_X3_at yv_X3_at hs.1 (e_X3_at hW hp hR (by omega)) rfl rfl rfl rfl rfl rfl rfl ?_
      refine pk_lcmp dX6_looksAsTold_58 ?_
      refine pk_if_eq (tgt := 64) dX6_looksAsTold_59 (by decide) (fun c_59 => ?_) (fun c_59 => ?_)
      · first | refine pk_inc1 dX6_looksAsTold_64 rfl rfl ?_ | refine pk_iinc dX6_looksAsTold_64 rfl rfl rfl ?_
        refine pk_goto (tgt := 3) dX6_looksAsTold_67 (by decide) ?_
        rw [pk_lcmp1] at c_59
        exact pk_fgt (by repeat first | exact trivial | refine ⟨rfl, ?_⟩) (K (by rw [sp_any_succ, hJ, es, nI_clamp (by omega)]; simpa using c_59))
      · refine pk_iconst (v := nI 0) dX6_looksAsTold_62 (by decide) ?_
        refine pk_reti dX6_looksAsTold_63 (by first | rfl | exact pk_nbi _) ?_
        refine ⟨?_, rfl⟩
        rw [pk_lcmp1] at c_59
        rw [sp_lt2, sp_any_true hq (by rw [es, nI_clamp (by omega)]; simpa using c_59)]
        rfl
  · intro hJ
    refine pk_iload dX6_looksAsTold_3 rfl ?_
    refine pk_iload_n dX6_looksAsTold_5 rfl ?_
    first | refine pk_geN (tgt := 70) dX6_looksAsTold_6 (by decide) (by omega) (by omega) (fun c_6 => ?_) (fun c_6 => ?_) | refine pk_icmp_ge (tgt := 70) dX6_looksAsTold_6 (by decide) (fun c_6 => ?_) (fun c_6 => ?_)
    · refine pk_iconst (v := nI 1) dX6_looksAsTold_70 (by decide) ?_
      refine pk_reti dX6_looksAsTold_71 (by first | rfl | exact pk_nbi _) ?_
      refine ⟨?_, rfl⟩
      rw [sp_lt2, hJ]
      rfl
    · omega

theorem pk_wI_cI (M : pk_M) (a i p k n : Nat) (f : Nat → Int32) : pk_wI (pk_cI M a i p k n) p f = pk_wI M p f := by
  have : (fun q j => if q = p then f j else (pk_cI M a i p k n).2.1 q j) = (fun q j => if q = p then f j else M.2.1 q j) := by
    funext q j
    by_cases h : q = p
    · rw [if_pos h, if_pos h]
    · rw [if_neg h, if_neg h]
      simp [pk_cI, h]
  show (M.1, _, M.2.2.1, M.2.2.2) = _
  rw [this]
  rfl
def sp_kk (A : pk_St) (i k : Nat) : Nat → Nat := fun j => if j = i then k else sp_k A j
def sp_ksF (A : pk_St) (i : Nat) (f : Nat → Int64) (a n : Nat) : Nat → Nat := sp_fold (fun k x => if sp_lt2 (sp_kk A i k) A f a n then x ||| 2 ^ k else x) 0
theorem sp_ksF_lt (A : pk_St) (i : Nat) (f : Nat → Int64) (a n m : Nat) (hm : m ≤ 4) : sp_ksF A i f a n m < 16 := by
  induction m with
  | zero => show 0 < 16; decide
  | succ m ih =>
    show (if sp_lt2 (sp_kk A i m) A f a n then sp_ksF A i f a n m ||| 2 ^ m else sp_ksF A i f a n m) < 16
    split
    · exact pk_or_lt (n := 4) (ih (by omega)) (Nat.pow_lt_pow_right (by decide) (by omega))
    · exact ih (by omega)

set_option maxRecDepth 100000 in
set_option maxHeartbeats 4000000 in
theorem e_X6_kindsSeen {Γ : pk_T} {M : pk_M} {L p a b : Nat} {S : pk_Ro} (hW : pk_WF L M) (hp : pk_isR p = true) (hR : pk_Rw M p S) (hab : a + 2 * b ≤ S.2.2.1) {A : pk_St} {i : Nat} (hA : pk_At M 6 A) (hok : pk_okS A) (hi : i < 5) (hts : sp_ts S.2.2.2 a b = true) : pk_E Γ yX6_kindsSeen cX6_kindsSeen 7 (some .int) 4 0 0 M [.ref 5, .int (nI i), .ref p, .int (nI a), .int (nI b)] (fun r M' => r = some (.int (nI (sp_ksF A i S.2.2.2 a b 4))) ∧ pk_fr (fun q => q = 94) M M') := by
  have hs := pk_isR_s hW hp
  have hm := hR.2.2.2.2.1
  refine pk_meth (own := RX6) (ini := false) [some (.ref 5), some (.int (nI i)), some (.ref p), some (.int (nI a)), some (.int (nI b)), none, none] (by decide +kernel) rfl (by decide +kernel) rfl rfl ?_
  refine pk_aload_n dX6_kindsSeen_0 rfl ?_
  refine pk_getP dX6_kindsSeen_1 fl_X6_10 rfl (hW.s rfl) (hW.p rfl) ?_
  refine pk_getP dX6_kindsSeen_4 fl_X6_75 rfl (hW.s rfl) (hW.p rfl) ?_
  refine pk_iconst (v := nI 0) dX6_kindsSeen_7 (by decide) ?_
  refine pk_aload_n dX6_kindsSeen_8 rfl ?_
  refine pk_getP dX6_kindsSeen_9 fl_X6_67 rfl (hW.s rfl) (hW.p rfl) ?_
  refine pk_iconst (v := nI 0) dX6_kindsSeen_12 (by decide) ?_
  refine pk_iconst (v := nI 5) dX6_kindsSeen_13 (by decide) ?_
  refine pk_copyIN dX6_kindsSeen_14 mo_X6_210 nat_copy st_copy it_sys (hW.s rfl) (hW.s rfl) (by omega) (by omega) (by omega) (by omega) (by omega) (by omega) rfl rfl ?_
  refine pk_iconst (v := nI 0) dX6_kindsSeen_17 (by decide) ?_
  refine pk_istore dX6_kindsSeen_18 rfl rfl ?_
  refine pk_iconst (v := nI 0) dX6_kindsSeen_20 (by decide) ?_
  refine pk_istore dX6_kindsSeen_21 rfl rfl ?_
  refine pk_Mq (M' := pk_wI M 94 (fun j => if j < 5 then (if j = i ∧ 0 < 0 then nI (0 - 1) else nI (sp_k A j)) else pk_I M 94 j)) ?_ ?_
  · rw [← pk_wI_id (pk_cI M 7 0 94 0 5) 94]
    rw [pk_wI_cI]
    congr 1
    funext j
    rw [pk_I_cI]
    by_cases h : j < 5
    · rw [if_pos (by omega), if_pos h, if_neg (by omega), show 0 + (j - 0) = j by omega]
      exact hA.2.2.2.1 j h
    · rw [if_neg (by omega), if_neg h]
  · refine pk_for 4 (fun k => pk_wI M 94 (fun j => if j < 5 then (if j = i ∧ 0 < k then nI (k - 1) else nI (sp_k A j)) else pk_I M 94 j)) (fun k => [some (.ref 5), some (.int (nI i)), some (.ref p), some (.int (nI a)), some (.int (nI b)), some (.int (nI (sp_ksF A i S.2.2.2 a b k))), some (.int (nI k))]) ?_ ?_ 0 (by omega)
    · intro k hk K
      have hx16 := sp_ksF_lt A i S.2.2.2 a b k (by omega)
      have hA1 : pk_At (pk_sI (pk_wI M 94 (fun j => if j < 5 then (if j = i ∧ 0 < k then nI (k - 1) else nI (sp_k A j)) else pk_I M 94 j)) 94 i (nI k)) 6 A := ((pk_fr.wI (D := fun q => q = 94) rfl).tr (pk_fr.sI rfl)).at (fun q h1 h2 h3 => by omega) hA
      have hR1 : pk_Rw (pk_sI (pk_wI M 94 (fun j => if j < 5 then (if j = i ∧ 0 < k then nI (k - 1) else nI (sp_k A j)) else pk_I M 94 j)) 94 i (nI k)) p S := hR.ff (((pk_fr.wI (D := fun q => q = 94) rfl).tr (pk_fr.sI rfl)).ff) (by omega) (by omega)
      have hkk : ∀ j, j < 5 → pk_I (pk_sI (pk_wI M 94 (fun j => if j < 5 then (if j = i ∧ 0 < k then nI (k - 1) else nI (sp_k A j)) else pk_I M 94 j)) 94 i (nI k)) 94 j = nI (sp_kk A i k j) := fun j hj => by
        unfold sp_kk
        by_cases h : j = i
        · rw [if_pos h]
          exact pk_gS1 rfl h rfl
        · rw [if_neg h]
          exact pk_gS0 (Or.inr h) (pk_gW1 rfl (by rw [if_pos hj, if_neg (fun z => h z.1)]))
      have hk4 : ∀ j, j < 5 → sp_kk A i k j < 4 := fun j hj => by
        unfold sp_kk
        split
        · omega
        · exact hok.2.2.2.1 j hj
      have e9 : sp_ksF A i S.2.2.2 a b (k + 1) = if sp_lt2 (sp_kk A i k) A S.2.2.2 a b then sp_ksF A i S.2.2.2 a b k ||| 2 ^ k else sp_ksF A i S.2.2.2 a b k := rfl
      refine pk_iload dX6_kindsSeen_23 rfl ?_
      refine pk_iconst (v := nI 4) dX6_kindsSeen_25 (by decide) ?_
      first | refine pk_geN (tgt := 71) dX6_kindsSeen_26 (by decide) (by omega) (by omega) (fun c_26 => ?_) (fun c_26 => ?_) | refine pk_icmp_ge (tgt := 71) dX6_kindsSeen_26 (by decide) (fun c_26 => ?_) (fun c_26 => ?_)
      · omega
      · refine pk_iload_n dX6_kindsSeen_29 rfl ?_
        refine pk_iconst (v := nI 5) dX6_kindsSeen_30 (by decide) ?_
        refine pk_Si dX6_kindsSeen_31 ml_X6_71 yw_X6_isBelow ys_X6_isBelow (e_X6_isBelow _ _) rfl rfl rfl rfl rfl rfl rfl ?_
        first | refine pk_eqb (tgt := 45) dX6_kindsSeen_34 (by decide) (fun c_34 => ?_) (fun c_34 => ?_) | refine pk_eq0N (tgt := 45) dX6_kindsSeen_34 (by decide) (by omega) (fun c_34 => ?_) (fun c_34 => ?_) | refine pk_if_eq (tgt := 45) dX6_kindsSeen_34 (by decide) (fun c_34 => ?_) (fun c_34 => ?_)
        · exfalso; simp [nI_pos' (show i < 2 ^ 31 by omega), nI_ltI (show i < 2 ^ 31 by omega) (show 5 < 2 ^ 31 by decide)] at c_34; omega
        · refine pk_aload_n dX6_kindsSeen_37 rfl ?_
          refine pk_getP dX6_kindsSeen_38 fl_X6_67 rfl (hW.s rfl) (hW.p rfl) ?_
          refine pk_iload_n dX6_kindsSeen_41 rfl ?_
          refine pk_iload dX6_kindsSeen_42 rfl ?_
          refine pk_astN dX6_kindsSeen_44 (hW.s rfl) (by omega) (by omega) (by omega) ?_
          refine pk_aload_n dX6_kindsSeen_45 rfl ?_
          refine pk_aload_n dX6_kindsSeen_46 rfl ?_
          refine pk_iload_n dX6_kindsSeen_47 rfl ?_
          refine pk_iload dX6_kindsSeen_48 rfl ?_
          refine pk_Vi dX6_kindsSeen_50 ml_X6_368 yw_X6_looksAsTold yv_X6_looksAsTold (hW.s rfl) (e_X6_looksAsTold (M := pk_sI (pk_wI M 94 (fun j => if j < 5 then (if j = i ∧ 0 < k then nI (k - 1) else nI (sp_k A j)) else pk_I M 94 j)) 94 i (nI k)) (kk := sp_kk A i k) hW hp hR1 hab hA1 hok hkk hk4 hts) rfl rfl rfl rfl rfl rfl rfl ?_
          first | refine pk_eqb (tgt := 65) dX6_kindsSeen_53 (by decide) (fun c_53 => ?_) (fun c_53 => ?_) | refine pk_eq0N (tgt := 65) dX6_kindsSeen_53 (by decide) (by omega) (fun c_53 => ?_) (fun c_53 => ?_) | refine pk_if_eq (tgt := 65) dX6_kindsSeen_53 (by decide) (fun c_53 => ?_) (fun c_53 => ?_)
          · first | refine pk_inc1 dX6_kindsSeen_65 rfl rfl ?_ | refine pk_iinc dX6_kindsSeen_65 rfl rfl rfl ?_
            refine pk_goto (tgt := 23) dX6_kindsSeen_68 (by decide) ?_
            refine pk_Mq ?_ (pk_lsq ?_ K)
            · rw [pk_wI_sI]
              congr 1
              funext j
              by_cases h : j = i
              · subst h
                rw [if_pos rfl, if_pos (by omega), if_pos (by omega), Nat.add_sub_cancel]
              · rw [if_neg h]
                by_cases h2 : j < 5
                · rw [if_pos h2, if_pos h2, if_neg (fun z => h z.1), if_neg (fun z => h z.1)]
                · rw [if_neg h2, if_neg h2]
            · rw [e9, c_53]
              rfl
          · refine pk_iload dX6_kindsSeen_56 rfl ?_
            refine pk_iconst (v := nI 1) dX6_kindsSeen_58 (by decide) ?_
            refine pk_iload dX6_kindsSeen_59 rfl ?_
            first | refine pk_shlNN dX6_kindsSeen_61 (by omega) ?_ | refine pk_ishl dX6_kindsSeen_61 ?_
            first | refine pk_orNN dX6_kindsSeen_62 ?_ | refine pk_ior dX6_kindsSeen_62 ?_
            refine pk_istore dX6_kindsSeen_63 rfl rfl ?_
            first | refine pk_inc1 dX6_kindsSeen_65 rfl rfl ?_ | refine pk_iinc dX6_kindsSeen_65 rfl rfl rfl ?_
            refine pk_goto (tgt := 23) dX6_kindsSeen_68 (by decide) ?_
            refine pk_Mq ?_ (pk_lsq ?_ K)
            · rw [pk_wI_sI]
              congr 1
              funext j
              by_cases h : j = i
              · subst h
                rw [if_pos rfl, if_pos (by omega), if_pos (by omega), Nat.add_sub_cancel]
              · rw [if_neg h]
                by_cases h2 : j < 5
                · rw [if_pos h2, if_pos h2, if_neg (fun z => h z.1), if_neg (fun z => h z.1)]
                · rw [if_neg h2, if_neg h2]
            · rw [e9, c_53]
              rfl
    · refine pk_iload dX6_kindsSeen_23 rfl ?_
      refine pk_iconst (v := nI 4) dX6_kindsSeen_25 (by decide) ?_
      first | refine pk_geN (tgt := 71) dX6_kindsSeen_26 (by decide) (by omega) (by omega) (fun c_26 => ?_) (fun c_26 => ?_) | refine pk_icmp_ge (tgt := 71) dX6_kindsSeen_26 (by decide) (fun c_26 => ?_) (fun c_26 => ?_)
      · refine pk_iload dX6_kindsSeen_71 rfl ?_
        refine pk_reti dX6_kindsSeen_73 (by first | rfl | exact pk_nbi _) ?_
        exact ⟨rfl, pk_fr.wI rfl⟩
      · omega

def op_seen (X : pk_X) (k s l i n : Int32) : Int32 := if (sp_b k 5 && (sp_b s 4 && sp_b l 4) && decide (nI 1 ≤ n) && decide (n ≤ nI 6)) = false then -1 else if ¬ sp_why (X.2.2.2.2 s.toNatClampNeg) l i (nI 2 * n) = 0 then sp_why (X.2.2.2.2 s.toNatClampNeg) l i (nI 2 * n) else if sp_ts (X.2.2.2.2 s.toNatClampNeg).2.2.2 i.toNatClampNeg n.toNatClampNeg then nI (sp_ksF X.1 k.toNatClampNeg (X.2.2.2.2 s.toNatClampNeg).2.2.2 i.toNatClampNeg n.toNatClampNeg 4) else -2

set_option maxRecDepth 100000 in
set_option maxHeartbeats 4000000 in
theorem e_X6_seen {Γ : pk_T} {M : pk_M} {L : Nat} {X : pk_X} (hR : pk_RC L M X) (hX : pk_okX X) (i s l j n : Int32) : pk_E Γ yX6_seen cX6_seen 8 (some .int) 5 0 0 M [.ref 5, .int i, .int s, .int l, .int j, .int n] (fun r M' => r = some (.int (op_seen X i s l j n)) ∧ pk_cf M M' ∧ pk_RC L M' X) := by
  have hR0 := hR
  obtain ⟨hW, hro, hA, ⟨pl, hP⟩, hkb, ⟨pl2, kn, KH, hKP, hKq⟩, hKA, hTp, hSh⟩ := hR0
  have hok := hX.1
  have hw := hok.1
  have hh := hok.2.1
  have hn6 := hX.2.1.1
  refine pk_meth (own := RX6) (ini := false) [some (.ref 5), some (.int i), some (.int s), some (.int l), some (.int j), some (.int n), none, none] (by decide +kernel) rfl (by decide +kernel) rfl rfl ?_
  refine pk_iload_n dX6_seen_0 rfl ?_
  refine pk_iconst (v := nI 5) dX6_seen_1 (by decide) ?_
  refine pk_Si dX6_seen_2 ml_X6_71 yw_X6_isBelow ys_X6_isBelow (e_X6_isBelow _ _) rfl rfl rfl rfl rfl rfl rfl ?_
  first | refine pk_eqb (tgt := 29) dX6_seen_5 (by decide) (fun c_5 => ?_) (fun c_5 => ?_) | refine pk_eq0N (tgt := 29) dX6_seen_5 (by decide) (by omega) (fun c_5 => ?_) (fun c_5 => ?_) | refine pk_if_eq (tgt := 29) dX6_seen_5 (by decide) (fun c_5 => ?_) (fun c_5 => ?_)
  · refine pk_iconst (v := -1) dX6_seen_29 (by decide) ?_
    refine pk_reti dX6_seen_30 (by first | rfl | exact pk_nbi _) ?_
    rw [op_seen, if_pos]
    · exact ⟨rfl, pk_ff.rf _ M, hR⟩
    · first | (simp only [sp_b, c_5, Bool.false_and]; done) | (rw [show (sp_b s 4 && sp_b l 4) = false from c_13, Bool.and_false]; rfl) | (rw [show decide (nI 1 ≤ n) = false from decide_eq_false (Int32.not_le.mpr c_19), Bool.and_false]; rfl) | (rw [show decide (n ≤ nI 6) = false from decide_eq_false c_26, Bool.and_false])
  · refine pk_iload_n dX6_seen_8 rfl ?_
    refine pk_iload_n dX6_seen_9 rfl ?_
    refine pk_Si dX6_seen_10 ml_X6_260 yw_X6_isTaking ys_X6_isTaking (e_X6_isTaking _ _) rfl rfl rfl rfl rfl rfl rfl ?_
    first | refine pk_eqb (tgt := 29) dX6_seen_13 (by decide) (fun c_13 => ?_) (fun c_13 => ?_) | refine pk_eq0N (tgt := 29) dX6_seen_13 (by decide) (by omega) (fun c_13 => ?_) (fun c_13 => ?_) | refine pk_if_eq (tgt := 29) dX6_seen_13 (by decide) (fun c_13 => ?_) (fun c_13 => ?_)
    · refine pk_iconst (v := -1) dX6_seen_29 (by decide) ?_
      refine pk_reti dX6_seen_30 (by first | rfl | exact pk_nbi _) ?_
      rw [op_seen, if_pos]
      · exact ⟨rfl, pk_ff.rf _ M, hR⟩
      · first | (simp only [sp_b, c_5, Bool.false_and]; done) | (rw [show (sp_b s 4 && sp_b l 4) = false from c_13, Bool.and_false]; rfl) | (rw [show decide (nI 1 ≤ n) = false from decide_eq_false (Int32.not_le.mpr c_19), Bool.and_false]; rfl) | (rw [show decide (n ≤ nI 6) = false from decide_eq_false c_26, Bool.and_false])
    · refine pk_iload dX6_seen_16 rfl ?_
      refine pk_iconst (v := nI 1) dX6_seen_18 (by decide) ?_
      refine pk_icmp_lt (tgt := 29) dX6_seen_19 (by decide) (fun c_19 => ?_) (fun c_19 => ?_)
      · refine pk_iconst (v := -1) dX6_seen_29 (by decide) ?_
        refine pk_reti dX6_seen_30 (by first | rfl | exact pk_nbi _) ?_
        rw [op_seen, if_pos]
        · exact ⟨rfl, pk_ff.rf _ M, hR⟩
        · first | (simp only [sp_b, c_5, Bool.false_and]; done) | (rw [show (sp_b s 4 && sp_b l 4) = false from c_13, Bool.and_false]; rfl) | (rw [show decide (nI 1 ≤ n) = false from decide_eq_false (Int32.not_le.mpr c_19), Bool.and_false]; rfl) | (rw [show decide (n ≤ nI 6) = false from decide_eq_false c_26, Bool.and_false])
      · refine pk_iload dX6_seen_22 rfl ?_
        refine pk_bipush (v := nI 6) dX6_seen_24 (by decide) ?_
        refine pk_icmp_le (tgt := 31) dX6_seen_26 (by decide) (fun c_26 => ?_) (fun c_26 => ?_)
        · obtain ⟨i, hi, rfl⟩ := sp_b_of c_5 (by decide)
          have c13 := c_13
          rw [Bool.and_eq_true] at c13
          obtain ⟨k, hk, rfl⟩ := sp_b_of c13.1 (by decide)
          obtain ⟨n, hn, rfl⟩ := nI_of (x := n) (fun h => c_19 (by rw [Int32.lt_iff_toInt_lt] at h ⊢; rw [Int32.toInt_zero] at h; rw [nI_toInt (by decide)]; omega))
          have hn1 : 1 ≤ n := Nat.not_lt.mp fun z => c_19 ((nI_ltI hn (by decide)).mpr z)
          have hn6 : n ≤ 6 := (nI_leI hn (by decide)).mp c_26
          have hs := pk_isR_s hW (pk_isR_k hk)
          have hSk := hSh k hk
          have e0 : (sp_b (nI i) 5 && (sp_b (nI k) 4 && sp_b l 4) && decide (nI 1 ≤ nI n) && decide (nI n ≤ nI 6)) = true := by
            rw [sp_b_n hi (by decide), sp_b_n hk (by decide), show sp_b l 4 = true from c13.2, decide_eq_true (nI_le hn1 hn), decide_eq_true c_26]
            rfl
          rw [op_seen, if_neg (by rw [e0]; decide), nI_clamp (show k < 2 ^ 31 by omega), nI_clamp (show i < 2 ^ 31 by omega), nI_clamp hn, pk_nmul]
          refine pk_aload_n dX6_seen_31 rfl ?_
          refine pk_getP dX6_seen_32 fl_X6_56 rfl (hW.s rfl) (hW.p rfl) ?_
          refine pk_iload_n dX6_seen_35 rfl ?_
          refine pk_aaN dX6_seen_36 (Or.inr ⟨rfl, rfl⟩) (hW.s rfl) (by omega) (by omega) (by omega) (hW.rows hk) ?_
          refine pk_astore dX6_seen_37 rfl rfl ?_
          refine pk_aload dX6_seen_39 rfl ?_
          refine pk_iload_n dX6_seen_41 rfl ?_
          refine pk_iload dX6_seen_42 rfl ?_
          refine pk_iconst (v := nI 2) dX6_seen_44 (by decide) ?_
          refine pk_iload dX6_seen_45 rfl ?_
          first | refine pk_mulN dX6_seen_47 ?_ | refine pk_imul dX6_seen_47 ?_
          refine pk_Vi dX6_seen_48 ml_X6_263 yw_X3_whyNot yv_X3_whyNot hs.1 (e_X3_whyNot hW (pk_isR_k hk) hSk _ _ _) rfl rfl rfl rfl rfl rfl rfl ?_
          refine pk_istore dX6_seen_51 rfl rfl ?_
          refine pk_iload dX6_seen_53 rfl ?_
          refine pk_if_eq (tgt := 61) dX6_seen_55 (by decide) (fun c_55 => ?_) (fun c_55 => ?_)
          · obtain ⟨w1, w2, w3⟩ := sp_why_0 c_55
            obtain ⟨a, b, rfl, hb, hab0⟩ := sp_has_of hSk.2.2.2.2.1 w3
            have hm24 := hSk.2.2.2.2.1
            have hbw : 2 * n = b := (nI_eq (by omega) (by omega)).mp hb
            have hab : a + 2 * n ≤ (X.2.2.2.2 k).2.2.1 := by omega
            rw [if_neg (fun h => h c_55), nI_clamp (show a < 2 ^ 31 by omega)]
            refine pk_aload dX6_seen_61 rfl ?_
            refine pk_iload dX6_seen_63 rfl ?_
            refine pk_iload dX6_seen_65 rfl ?_
            refine pk_Si dX6_seen_67 ml_X6_266 yw_X6_tellsSets ys_X6_tellsSets (e_X6_tellsSets hW (pk_isR_k hk) hSk hab) rfl rfl rfl rfl rfl rfl rfl ?_
            first | refine pk_eqb (tgt := 87) dX6_seen_70 (by decide) (fun c_70 => ?_) (fun c_70 => ?_) | refine pk_eq0N (tgt := 87) dX6_seen_70 (by decide) (by omega) (fun c_70 => ?_) (fun c_70 => ?_) | refine pk_if_eq (tgt := 87) dX6_seen_70 (by decide) (fun c_70 => ?_) (fun c_70 => ?_)
            · refine pk_bipush (v := -2) dX6_seen_87 (by decide) ?_
              refine pk_reti dX6_seen_89 (by first | rfl | exact pk_nbi _) ?_
              first | (rw [if_pos c_70]; exact ⟨rfl, hf1.ff.mono (fun q h => by omega), hR.scr (hf1.ff.mono (fun q h => by unfold pk_scr; omega))⟩) | (rw [if_neg (by rw [c_70]; decide)]; exact ⟨rfl, pk_ff.rf _ M, hR⟩)
            · refine pk_aload_n dX6_seen_73 rfl ?_
              refine pk_iload_n dX6_seen_74 rfl ?_
              refine pk_aload dX6_seen_75 rfl ?_
              refine pk_iload dX6_seen_77 rfl ?_
              refine pk_iload dX6_seen_79 rfl ?_
              refine pk_Vir dX6_seen_81 ml_X6_270 yw_X6_kindsSeen yv_X6_kindsSeen (hW.s rfl) (e_X6_kindsSeen hW (pk_isR_k hk) hSk hab hA hok hi c_70) rfl rfl rfl rfl rfl rfl rfl (fun M1 hf1 => ?_)
              skip
              refine pk_goto (tgt := 89) dX6_seen_84 (by decide) ?_
              refine pk_reti dX6_seen_89 (by first | rfl | exact pk_nbi _) ?_
              first | (rw [if_pos c_70]; exact ⟨rfl, hf1.ff.mono (fun q h => by omega), hR.scr (hf1.ff.mono (fun q h => by unfold pk_scr; omega))⟩) | (rw [if_neg (by rw [c_70]; decide)]; exact ⟨rfl, pk_ff.rf _ M, hR⟩)
          · refine pk_iload dX6_seen_58 rfl ?_
            refine pk_reti dX6_seen_60 (by first | rfl | exact pk_nbi _) ?_
            rw [if_pos c_55]
            exact ⟨rfl, pk_ff.rf _ M, hR⟩
        · refine pk_iconst (v := -1) dX6_seen_29 (by decide) ?_
          refine pk_reti dX6_seen_30 (by first | rfl | exact pk_nbi _) ?_
          rw [op_seen, if_pos]
          · exact ⟨rfl, pk_ff.rf _ M, hR⟩
          · first | (simp only [sp_b, c_5, Bool.false_and]; done) | (rw [show (sp_b s 4 && sp_b l 4) = false from c_13, Bool.and_false]; rfl) | (rw [show decide (nI 1 ≤ n) = false from decide_eq_false (Int32.not_le.mpr c_19), Bool.and_false]; rfl) | (rw [show decide (n ≤ nI 6) = false from decide_eq_false c_26, Bool.and_false])
