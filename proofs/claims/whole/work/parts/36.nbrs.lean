/-! Areas: neighbours. -/
theorem pk_wI_wI (M : pk_M) (p : Nat) (f g : Nat → Int32) : pk_wI (pk_wI M p f) p g = pk_wI M p g := by
  have : (fun q j => if q = p then g j else if q = p then f j else M.2.1 q j) = (fun q j => if q = p then g j else M.2.1 q j) := by
    funext q j
    by_cases h : q = p <;> simp [h]
  simp only [pk_wI, this]
theorem pk_ara.w87 {A : pk_St} {M : pk_M} (h : pk_ara A M) (f : Nat → Int32) : pk_ara A (pk_wI M 87 f) := ⟨pk_gW0 (by omega) h.1, fun q hq => pk_gW0 (by omega) (h.2.1 q hq), fun r hr => ⟨pk_gW0 (by omega) (h.2.2 r hr).1, pk_gW0 (by omega) (h.2.2 r hr).2⟩⟩
theorem sp_any_skip {f : Nat → Bool} {a b : Nat} (hab : a ≤ b) (h : ∀ q, a ≤ q → q < b → f q = false) : sp_any f b = sp_any f a := by
  obtain ⟨k, rfl⟩ : ∃ k, b = a + k := ⟨b - a, by omega⟩
  induction k with
  | zero => rfl
  | succ k ih =>
    rw [show a + (k + 1) = a + k + 1 by omega, sp_any_succ, h (a + k) (by omega) (by omega), Bool.or_false]
    exact ih (by omega) (fun q h1 h2 => h q h1 (by omega))
noncomputable def sp_ngf (A : pk_St) (a c p : Nat) : Bool := sp_in A p && (sp_num2 A p == a) && sp_any (sp_mb A p a c) 4
noncomputable def sp_nbrs (A : pk_St) (a : Nat) : Nat := sp_c (fun c => sp_any (sp_ngf A a c) 48) 48
theorem sp_ngf_out {A : pk_St} {a c p : Nat} (h : sp_in A p = false) : sp_ngf A a c p = false := by rw [sp_ngf, h]; rfl
theorem sp_ng_line {A : pk_St} (hA : pk_okS A) (a c j : Nat) : sp_any (sp_ngf A a c) (8 * (j + 1)) = sp_any (sp_ngf A a c) (8 * j + sp_w A) := by
  have hw := hA.1
  exact sp_any_skip (by omega) (fun q h1 h2 => sp_ngf_out (sp_in_no (Or.inl (by omega))))
theorem sp_ng_end {A : pk_St} (hA : pk_okS A) (a c : Nat) : sp_any (sp_ngf A a c) 48 = sp_any (sp_ngf A a c) (8 * sp_h A) := by
  have hh := hA.2.1
  exact sp_any_skip (by omega) (fun q h1 h2 => sp_ngf_out (sp_in_no (Or.inr (by omega))))

set_option maxRecDepth 100000 in
set_option maxHeartbeats 4000000 in
theorem e_X0_neighboursOf {Γ : pk_T} {M : pk_M} {L a : Nat} {A : pk_St} (hW : pk_WF L M) (hA : pk_At M 6 A) (hok : pk_okS A) (hro : pk_ro M) (har : pk_ara A M) (ha : a < 48) : pk_E Γ yX0_neighboursOf cX0_neighboursOf 6 (some .int) 3 0 0 M [.ref 82, .int (nI a), .ref 6] (fun r M' => r = some (.int (nI (sp_nbrs A a))) ∧ pk_fr (fun q => 82 ≤ q ∧ q ≤ 87) M M') := by
  refine pk_meth (own := RX0) (ini := false) [some (.ref 82), some (.int (nI a)), some (.ref 6), none, none, none] (by decide +kernel) rfl (by decide +kernel) rfl rfl ?_
  have hw := hok.1
  have hh := hok.2.1
  have hend : sp_nbrs A a = sp_c (fun c => sp_any (sp_ngf A a c) (8 * sp_h A)) 48 := sp_c_congr (fun c _ => sp_ng_end hok a c)
  rw [hend]
  refine pk_iconst (v := nI 0) dX0_neighboursOf_0 (by decide) ?_
  refine pk_istore_n dX0_neighboursOf_1 rfl rfl ?_
  refine pk_Mq (M' := (pk_wI M 87 (fun c => if c < 0 then 0 else pk_I M 87 c))) (pk_wI_id M 87).symm ?_
  refine pk_for 48 (fun k => (pk_wI M 87 (fun c => if c < k then 0 else pk_I M 87 c))) (fun k => [some (.ref 82), some (.int (nI (a))), some (.ref 6), some (.int (nI (k))), none, none]) ?_ ?_ 0 (by omega)
  · intro k hk K
    refine pk_iload_n dX0_neighboursOf_2 rfl ?_
    refine pk_bipush (v := nI 48) dX0_neighboursOf_3 (by decide) ?_
    first | refine pk_geN (tgt := 21) dX0_neighboursOf_5 (by decide) (by omega) (by omega) (fun c_5 => ?_) (fun c_5 => ?_) | refine pk_icmp_ge (tgt := 21) dX0_neighboursOf_5 (by decide) (fun c_5 => ?_) (fun c_5 => ?_)
    · omega
    · refine pk_aload_n dX0_neighboursOf_8 rfl ?_
      refine pk_getP dX0_neighboursOf_9 fl_X0_24 rfl (hW.s rfl) (hW.p rfl) ?_
      refine pk_iload_n dX0_neighboursOf_12 rfl ?_
      refine pk_iconst (v := nI 0) dX0_neighboursOf_13 (by decide) ?_
      refine pk_zasN dX0_neighboursOf_14 (hW.s rfl) (by omega) (by omega) (by omega) rfl ?_
      rw [pk_wI_sI]
      first | refine pk_inc1 dX0_neighboursOf_15 rfl rfl ?_ | refine pk_iinc dX0_neighboursOf_15 rfl rfl rfl ?_
      refine pk_goto (tgt := 2) dX0_neighboursOf_18 (by decide) ?_
      refine pk_Mq ?_ K
      congr 1
      funext q
      by_cases e : q = k
      · rw [if_pos e, if_pos (by omega)]
        rfl
      · rw [if_neg e]
        by_cases e2 : q < k
        · rw [if_pos e2, if_pos (by omega)]
        · rw [if_neg e2, if_neg (by omega)]
  · refine pk_iload_n dX0_neighboursOf_2 rfl ?_
    refine pk_bipush (v := nI 48) dX0_neighboursOf_3 (by decide) ?_
    first | refine pk_geN (tgt := 21) dX0_neighboursOf_5 (by decide) (by omega) (by omega) (fun c_5 => ?_) (fun c_5 => ?_) | refine pk_icmp_ge (tgt := 21) dX0_neighboursOf_5 (by decide) (fun c_5 => ?_) (fun c_5 => ?_)
    · refine pk_iconst (v := nI 0) dX0_neighboursOf_21 (by decide) ?_
      refine pk_istore_n dX0_neighboursOf_22 rfl rfl ?_
      refine pk_iconst (v := nI 0) dX0_neighboursOf_23 (by decide) ?_
      refine pk_istore dX0_neighboursOf_24 rfl rfl ?_
      refine pk_Mq (M' := (pk_wI M 87 (fun c => if sp_any (sp_ngf A a c) (8 * 0) then 1 else if c < 48 then 0 else pk_I M 87 c))) rfl ?_
      refine pk_fgt (ls' := [some (.ref 82), some (.int (nI (a))), some (.ref 6), some (.int (nI (sp_c (fun c => sp_any (sp_ngf A a c) (8 * 0)) 48))), some (.int (nI (0))), none]) ?_ ?_
      · have e0 : sp_c (fun c => sp_any (sp_ngf A a c) (8 * 0)) 48 = 0 := sp_c_skip (n := 0) (by omega) (fun _ _ _ => rfl)
        rw [e0]
        repeat first | exact trivial | refine ⟨rfl, ?_⟩
      refine pk_for (sp_h A) (fun j => (pk_wI M 87 (fun c => if sp_any (sp_ngf A a c) (8 * j) then 1 else if c < 48 then 0 else pk_I M 87 c))) (fun j => [some (.ref 82), some (.int (nI (a))), some (.ref 6), some (.int (nI (sp_c (fun c => sp_any (sp_ngf A a c) (8 * j)) 48))), some (.int (nI (j))), none]) ?_ ?_ 0 (by omega)
      · intro j hj K1
        have hA1 : pk_At (pk_wI M 87 (fun c => if sp_any (sp_ngf A a c) (8 * j) then 1 else if c < 48 then 0 else pk_I M 87 c)) 6 A := (pk_fr.wI (D := fun q => q = 87) rfl).at (p := 6) (fun q h1 h2 h3 => by omega) hA
        refine pk_iload dX0_neighboursOf_26 rfl ?_
        refine pk_aload_n dX0_neighboursOf_28 rfl ?_
        refine pk_getN dX0_neighboursOf_29 fl_X0_35 rfl (hW.s rfl) hA1.2.1 ?_
        first | refine pk_geN (tgt := 84) dX0_neighboursOf_32 (by decide) (by omega) (by omega) (fun c_32 => ?_) (fun c_32 => ?_) | refine pk_icmp_ge (tgt := 84) dX0_neighboursOf_32 (by decide) (fun c_32 => ?_) (fun c_32 => ?_)
        · omega
        · refine pk_iconst (v := nI 0) dX0_neighboursOf_35 (by decide) ?_
          refine pk_istore dX0_neighboursOf_36 rfl rfl ?_
          refine pk_for (sp_w A) (fun i => (pk_wI M 87 (fun c => if sp_any (sp_ngf A a c) (8 * j + i) then 1 else if c < 48 then 0 else pk_I M 87 c))) (fun i => [some (.ref 82), some (.int (nI (a))), some (.ref 6), some (.int (nI (sp_c (fun c => sp_any (sp_ngf A a c) (8 * j + i)) 48))), some (.int (nI (j))), some (.int (nI (i)))]) ?_ ?_ 0 (by omega)
          · intro i hi K
            have hf : pk_fr (fun q => q = 87) M (pk_wI M 87 (fun c => if sp_any (sp_ngf A a c) (8 * j + i) then 1 else if c < 48 then 0 else pk_I M 87 c)) := pk_fr.wI rfl
            have hW2 := hf.wf hW
            have hA2 := hf.at (p := 6) (fun q h1 h2 h3 => by omega) hA
            have hro2 := hf.ro (fun q h1 h2 => by omega) hro
            have har2 : pk_ara A (pk_wI M 87 (fun c => if sp_any (sp_ngf A a c) (8 * j + i) then 1 else if c < 48 then 0 else pk_I M 87 c)) := har.w87 _
            have hcl := sp_c_le (fun c => sp_any (sp_ngf A a c) (8 * j + i)) 48
            have hm87 : ∀ c, c < 48 → pk_I (pk_wI M 87 (fun c => if sp_any (sp_ngf A a c) (8 * j + i) then 1 else if c < 48 then 0 else pk_I M 87 c)) 87 c = pk_bi (sp_any (sp_ngf A a c) (8 * j + i)) := by
              intro c hc
              refine pk_gW1 rfl ?_
              rw [if_pos hc]
              cases sp_any (sp_ngf A a c) (8 * j + i) <;> rfl
            refine pk_iload dX0_neighboursOf_38 rfl ?_
            refine pk_aload_n dX0_neighboursOf_40 rfl ?_
            refine pk_getN dX0_neighboursOf_41 fl_X0_40 rfl (hW2.s rfl) hA2.1 ?_
            first | refine pk_geN (tgt := 78) dX0_neighboursOf_44 (by decide) (by omega) (by omega) (fun c_44 => ?_) (fun c_44 => ?_) | refine pk_icmp_ge (tgt := 78) dX0_neighboursOf_44 (by decide) (fun c_44 => ?_) (fun c_44 => ?_)
            · omega
            · have hin : sp_in A (j * 8 + i) = true := sp_in_of (by omega) (by omega)
              have hzl := sp_num2_lt hok hin
              have hml := sp_many_le A
              refine pk_aload_n dX0_neighboursOf_47 rfl ?_
              refine pk_iload dX0_neighboursOf_48 rfl ?_
              refine pk_iload dX0_neighboursOf_50 rfl ?_
              refine pk_Vi dX0_neighboursOf_52 ml_X0_43 yw_X0_at yv_X0_at (hW2.s rfl) (e_X0_at hW2 (by omega)) rfl rfl rfl rfl rfl rfl rfl ?_
              rw [har2.2.1 _ hin]
              refine pk_iload_n dX0_neighboursOf_55 rfl ?_
              first | refine pk_neN (tgt := 72) dX0_neighboursOf_56 (by decide) (by omega) (by omega) (fun c_56 => ?_) (fun c_56 => ?_) | refine pk_icmp_ne (tgt := 72) dX0_neighboursOf_56 (by decide) (fun c_56 => ?_) (fun c_56 => ?_)
              · first | refine pk_inc1 dX0_neighboursOf_72 rfl rfl ?_ | refine pk_iinc dX0_neighboursOf_72 rfl rfl rfl ?_
                refine pk_goto (tgt := 38) dX0_neighboursOf_75 (by decide) ?_
                have hT : ∀ c, sp_any (sp_ngf A a c) (8 * j + (i + 1)) = (sp_any (sp_ngf A a c) (8 * j + i) || ((sp_num2 A (j * 8 + i) == a) && sp_any (sp_mb A (j * 8 + i) a c) 4)) := fun c => by
                  rw [show 8 * j + (i + 1) = 8 * j + i + 1 by omega, sp_any_succ]
                  congr 1
                  rw [show 8 * j + i = j * 8 + i by omega, sp_ngf, hin, Bool.true_and]
                by_cases hk : sp_num2 A (j * 8 + i) = a
                · first
                    | exact absurd hk c_56
                    | (have e1 : (sp_num2 A (j * 8 + i) == a) = true := by simp [hk]
                       have e2 : sp_c (fun c => sp_any (sp_ngf A a c) (8 * j + (i + 1))) 48 = sp_c (fun c => sp_any (sp_ngf A a c) (8 * j + i)) 48 + sp_c (fun c => sp_any (sp_mb A (j * 8 + i) a c) 4 && !sp_any (sp_ngf A a c) (8 * j + i)) 48 := by
                         rw [← sp_c_or]
                         apply sp_c_congr
                         intro c _
                         rw [hT c, e1, Bool.true_and]
                       rw [e2] at K
                       refine pk_Mq ?_ (pk_fgt (by repeat first | exact trivial | refine ⟨rfl, ?_⟩) K)
                       rw [pk_wI_wI]
                       congr 1
                       funext c
                       rw [hT c, e1, Bool.true_and, pk_I_wI, if_pos rfl]
                       cases sp_any (sp_ngf A a c) (8 * j + i) <;> cases sp_any (sp_mb A (j * 8 + i) a c) 4 <;> rfl)
                · first
                    | exact absurd c_56 hk
                    | (have e1 : (sp_num2 A (j * 8 + i) == a) = false := by simp [hk]
                       have e : ∀ c, sp_any (sp_ngf A a c) (8 * j + (i + 1)) = sp_any (sp_ngf A a c) (8 * j + i) := fun c => by
                         rw [hT c, e1, Bool.false_and, Bool.or_false]
                       simp only [e] at K
                       exact pk_fgt (by repeat first | exact trivial | refine ⟨rfl, ?_⟩) K)
              · refine pk_iload_n dX0_neighboursOf_59 rfl ?_
                refine pk_aload_n dX0_neighboursOf_60 rfl ?_
                refine pk_iload dX0_neighboursOf_61 rfl ?_
                refine pk_iload dX0_neighboursOf_63 rfl ?_
                refine pk_iload_n dX0_neighboursOf_65 rfl ?_
                refine pk_aload_n dX0_neighboursOf_66 rfl ?_
                refine pk_Vi dX0_neighboursOf_67 ml_X0_76 yw_X0_meetBeside yv_X0_meetBeside (hW2.s rfl) (e_X0_meetBeside hW2 hA2 hok hro2 har2 hi hj ha hm87) rfl rfl rfl rfl rfl rfl rfl ?_
                first | refine pk_addN dX0_neighboursOf_70 ?_ | refine pk_iadd dX0_neighboursOf_70 ?_
                refine pk_istore_n dX0_neighboursOf_71 rfl rfl ?_
                first | refine pk_inc1 dX0_neighboursOf_72 rfl rfl ?_ | refine pk_iinc dX0_neighboursOf_72 rfl rfl rfl ?_
                refine pk_goto (tgt := 38) dX0_neighboursOf_75 (by decide) ?_
                have hT : ∀ c, sp_any (sp_ngf A a c) (8 * j + (i + 1)) = (sp_any (sp_ngf A a c) (8 * j + i) || ((sp_num2 A (j * 8 + i) == a) && sp_any (sp_mb A (j * 8 + i) a c) 4)) := fun c => by
                  rw [show 8 * j + (i + 1) = 8 * j + i + 1 by omega, sp_any_succ]
                  congr 1
                  rw [show 8 * j + i = j * 8 + i by omega, sp_ngf, hin, Bool.true_and]
                by_cases hk : sp_num2 A (j * 8 + i) = a
                · first
                    | exact absurd hk c_56
                    | (have e1 : (sp_num2 A (j * 8 + i) == a) = true := by simp [hk]
                       have e2 : sp_c (fun c => sp_any (sp_ngf A a c) (8 * j + (i + 1))) 48 = sp_c (fun c => sp_any (sp_ngf A a c) (8 * j + i)) 48 + sp_c (fun c => sp_any (sp_mb A (j * 8 + i) a c) 4 && !sp_any (sp_ngf A a c) (8 * j + i)) 48 := by
                         rw [← sp_c_or]
                         apply sp_c_congr
                         intro c _
                         rw [hT c, e1, Bool.true_and]
                       rw [e2] at K
                       refine pk_Mq ?_ (pk_fgt (by repeat first | exact trivial | refine ⟨rfl, ?_⟩) K)
                       rw [pk_wI_wI]
                       congr 1
                       funext c
                       rw [hT c, e1, Bool.true_and, pk_I_wI, if_pos rfl]
                       cases sp_any (sp_ngf A a c) (8 * j + i) <;> cases sp_any (sp_mb A (j * 8 + i) a c) 4 <;> rfl)
                · first
                    | exact absurd c_56 hk
                    | (have e1 : (sp_num2 A (j * 8 + i) == a) = false := by simp [hk]
                       have e : ∀ c, sp_any (sp_ngf A a c) (8 * j + (i + 1)) = sp_any (sp_ngf A a c) (8 * j + i) := fun c => by
                         rw [hT c, e1, Bool.false_and, Bool.or_false]
                       simp only [e] at K
                       exact pk_fgt (by repeat first | exact trivial | refine ⟨rfl, ?_⟩) K)
          · have hA2 : pk_At (pk_wI M 87 (fun c => if sp_any (sp_ngf A a c) (8 * j + sp_w A) then 1 else if c < 48 then 0 else pk_I M 87 c)) 6 A := (pk_fr.wI (D := fun q => q = 87) rfl).at (p := 6) (fun q h1 h2 h3 => by omega) hA
            simp only [sp_ng_line hok] at K1
            refine pk_iload dX0_neighboursOf_38 rfl ?_
            refine pk_aload_n dX0_neighboursOf_40 rfl ?_
            refine pk_getN dX0_neighboursOf_41 fl_X0_40 rfl (hW.s rfl) hA2.1 ?_
            first | refine pk_geN (tgt := 78) dX0_neighboursOf_44 (by decide) (by omega) (by omega) (fun c_44 => ?_) (fun c_44 => ?_) | refine pk_icmp_ge (tgt := 78) dX0_neighboursOf_44 (by decide) (fun c_44 => ?_) (fun c_44 => ?_)
            · first | refine pk_inc1 dX0_neighboursOf_78 rfl rfl ?_ | refine pk_iinc dX0_neighboursOf_78 rfl rfl rfl ?_
              refine pk_goto (tgt := 26) dX0_neighboursOf_81 (by decide) ?_
              exact pk_fgt (by repeat first | exact trivial | refine ⟨rfl, ?_⟩) K1
            · omega
      · have hA1 : pk_At (pk_wI M 87 (fun c => if sp_any (sp_ngf A a c) (8 * sp_h A) then 1 else if c < 48 then 0 else pk_I M 87 c)) 6 A := (pk_fr.wI (D := fun q => q = 87) rfl).at (p := 6) (fun q h1 h2 h3 => by omega) hA
        refine pk_iload dX0_neighboursOf_26 rfl ?_
        refine pk_aload_n dX0_neighboursOf_28 rfl ?_
        refine pk_getN dX0_neighboursOf_29 fl_X0_35 rfl (hW.s rfl) hA1.2.1 ?_
        first | refine pk_geN (tgt := 84) dX0_neighboursOf_32 (by decide) (by omega) (by omega) (fun c_32 => ?_) (fun c_32 => ?_) | refine pk_icmp_ge (tgt := 84) dX0_neighboursOf_32 (by decide) (fun c_32 => ?_) (fun c_32 => ?_)
        · refine pk_iload_n dX0_neighboursOf_84 rfl ?_
          refine pk_reti dX0_neighboursOf_85 (by first | rfl | exact pk_nbi _) ?_
          exact ⟨rfl, pk_fr.wI ⟨by omega, by omega⟩⟩
        · omega
    · omega
