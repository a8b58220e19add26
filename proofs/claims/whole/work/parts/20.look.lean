/-! Looks: what a set looks like. -/
/-- a counted loop with something that is known at its head -/
theorem pk_forJ {Γ : pk_T} {κ : pk_K} {cc : ByteArray} {st : List Value} {pc cu su : Nat} (B : Nat) (J : Nat → Prop) (Mm : Nat → pk_M) (lm : Nat → List (Option Value)) (hs : ∀ i, i < B → J i → (J (i + 1) → pk_G Γ κ cc (Mm (i + 1)) (lm (i + 1)) st pc cu su) → pk_G Γ κ cc (Mm i) (lm i) st pc cu su) (he : J B → pk_G Γ κ cc (Mm B) (lm B) st pc cu su) : ∀ i, i ≤ B → J i → pk_G Γ κ cc (Mm i) (lm i) st pc cu su := by
  have key : ∀ n i, i + n = B → J i → pk_G Γ κ cc (Mm i) (lm i) st pc cu su := by
    intro n
    induction n with
    | zero => intro i h hJ; have : i = B := by omega
              subst this; exact he hJ
    | succ n ih => intro i h hJ; exact hs i (by omega) hJ (ih (i + 1) (by omega))
  exact fun i hi hJ => key (B - i) i (by omega) hJ
def sp_num (kk tt oo : Nat → Nat) (set sh : Nat) : Nat → Nat := sp_fold (fun k v => if set.testBit (oo k) then sp_over (kk (oo k)) v (tt (oo k) / 2 ^ sh % 16) else v) 15
theorem sp_num_le (kk tt oo : Nat → Nat) (set sh n : Nat) : sp_num kk tt oo set sh n ≤ 15 := by
  induction n with
  | zero => exact Nat.le_refl _
  | succ n ih =>
    show (if set.testBit (oo n) then sp_over (kk (oo n)) (sp_num kk tt oo set sh n) (tt (oo n) / 2 ^ sh % 16) else sp_num kk tt oo set sh n) ≤ 15
    split
    · exact sp_over_le ih (by have := Nat.mod_lt (tt (oo n) / 2 ^ sh) (show 0 < 16 by decide); omega)
    · exact ih
def sp_lk (kk tt oo : Nat → Nat) (set : Nat) : Nat → Nat
  | 0 => 0
  | j + 1 => sp_lk kk tt oo set j * 16 + sp_num kk tt oo set (8 - 4 * j) 5
def sp_look (kk tt oo : Nat → Nat) (set : Nat) : Nat := sp_lk kk tt oo set 3
theorem sp_look_lt (kk tt oo : Nat → Nat) (set : Nat) : sp_look kk tt oo set < 4096 := by
  have h1 := sp_num_le kk tt oo set 8 5
  have h2 := sp_num_le kk tt oo set 4 5
  have h3 := sp_num_le kk tt oo set 0 5
  show ((0 * 16 + sp_num kk tt oo set 8 5) * 16 + sp_num kk tt oo set 4 5) * 16 + sp_num kk tt oo set 0 5 < 4096
  omega
def sp_shf (j : Nat) : Int32 := if j < 3 then nI (8 - 4 * j) else -4
theorem sp_shf_in {j : Nat} (h : j < 3) : sp_shf j = nI (8 - 4 * j) := if_pos h
theorem sp_shf_next : ∀ j, j < 3 → nI (8 - 4 * j) + Int32.ofInt (-4) = sp_shf (j + 1) := by decide
def sp_bits (x : Nat) : Nat := sp_c (fun i => x.testBit i) 5

set_option maxRecDepth 100000 in
set_option maxHeartbeats 4000000 in
theorem e_X6_lookBy {Γ : pk_T} {M : pk_M} {a b c set : Nat} {kk tt oo : Nat → Nat} (ha : pk_S M a = some (.inl (.int, 5))) (hb : pk_S M b = some (.inl (.int, 5))) (hc : pk_S M c = some (.inl (.int, 5))) (hk : ∀ i, i < 5 → pk_I M a i = nI (kk i)) (ht : ∀ i, i < 5 → pk_I M b i = nI (tt i)) (ho : ∀ i, i < 5 → pk_I M c i = nI (oo i)) (hk4 : ∀ i, i < 5 → kk i < 4) (ht4 : ∀ i, i < 5 → tt i < 4096) (ho5 : ∀ i, i < 5 → oo i < 5) (hset : set < 32) : pk_E Γ yX6_lookBy cX6_lookBy 9 (some .int) 2 0 0 M [.ref a, .ref b, .ref c, .int (nI set)] (fun r M' => r = some (.int (nI (sp_look kk tt oo set))) ∧ M' = M) := by
  refine pk_meth (own := RX6) (ini := false) [some (.ref a), some (.ref b), some (.ref c), some (.int (nI set)), none, none, none, none, none] (by decide +kernel) rfl (by decide +kernel) rfl rfl ?_
  refine pk_iconst (v := nI 0) dX6_lookBy_0 (by decide) ?_
  refine pk_istore dX6_lookBy_1 rfl rfl ?_
  refine pk_bipush (v := nI 8) dX6_lookBy_3 (by decide) ?_
  refine pk_istore dX6_lookBy_5 rfl rfl ?_
  refine pk_for 3 (fun _ => M) (fun j => [some (.ref a), some (.ref b), some (.ref c), some (.int (nI set)), some (.int (nI (sp_lk kk tt oo set j))), some (.int (sp_shf j)), none, none, none]) ?_ ?_ 0 (by omega)
  · intro j hj K1
    rw [sp_shf_in hj]
    refine pk_iload dX6_lookBy_7 rfl ?_
    refine pk_if_lt (tgt := 92) dX6_lookBy_9 (by decide) (fun c_9 => ?_) (fun c_9 => ?_)
    · exact absurd c_9 (nI_pos (by omega))
    · refine pk_bipush (v := nI 15) dX6_lookBy_12 (by decide) ?_
      refine pk_istore dX6_lookBy_14 rfl rfl ?_
      refine pk_iconst (v := nI 0) dX6_lookBy_16 (by decide) ?_
      refine pk_istore dX6_lookBy_17 rfl rfl ?_
      refine pk_for 5 (fun _ => M) (fun k => [some (.ref a), some (.ref b), some (.ref c), some (.int (nI set)), some (.int (nI (sp_lk kk tt oo set j))), some (.int (nI (8 - 4 * j))), some (.int (nI (sp_num kk tt oo set (8 - 4 * j) k))), some (.int (nI k)), none]) ?_ ?_ 0 (by omega)
      · intro k hk5 K
        have h1 := ho5 k hk5
        have h2 := hk4 _ h1
        have h3 := ht4 _ h1
        have h4 := sp_num_le kk tt oo set (8 - 4 * j) k
        have h5 := Nat.mod_lt (tt (oo k) / 2 ^ (8 - 4 * j)) (show 0 < 16 by decide)
        refine pk_iload dX6_lookBy_19 rfl ?_
        refine pk_iconst (v := nI 5) dX6_lookBy_21 (by decide) ?_
        first | refine pk_geN (tgt := 76) dX6_lookBy_22 (by decide) (by omega) (by omega) (fun c_22 => ?_) (fun c_22 => ?_) | refine pk_icmp_ge (tgt := 76) dX6_lookBy_22 (by decide) (fun c_22 => ?_) (fun c_22 => ?_)
        · omega
        · refine pk_aload_n dX6_lookBy_25 rfl ?_
          refine pk_iload dX6_lookBy_26 rfl ?_
          refine pk_aldN dX6_lookBy_28 hc (by omega) (by omega) (ho _ (by omega)) ?_
          refine pk_istore dX6_lookBy_29 rfl rfl ?_
          refine pk_iload dX6_lookBy_31 rfl ?_
          refine pk_iconst (v := nI 5) dX6_lookBy_33 (by decide) ?_
          refine pk_Si dX6_lookBy_34 ml_X6_71 yw_X6_isBelow ys_X6_isBelow (e_X6_isBelow _ _) rfl rfl rfl rfl rfl rfl rfl ?_
          first | refine pk_eqb (tgt := 70) dX6_lookBy_37 (by decide) (fun c_37 => ?_) (fun c_37 => ?_) | refine pk_eq0N (tgt := 70) dX6_lookBy_37 (by decide) (by omega) (fun c_37 => ?_) (fun c_37 => ?_) | refine pk_if_eq (tgt := 70) dX6_lookBy_37 (by decide) (fun c_37 => ?_) (fun c_37 => ?_)
          · exfalso; simp [nI_pos' (show oo k < 2 ^ 31 by omega), nI_ltI (show oo k < 2 ^ 31 by omega) (show 5 < 2 ^ 31 by decide)] at c_37; omega
          · refine pk_iload_n dX6_lookBy_40 rfl ?_
            refine pk_iload dX6_lookBy_41 rfl ?_
            refine pk_Si dX6_lookBy_43 ml_X6_301 yw_X6_hasBit ys_X6_hasBit (e_X6_hasBit _ _ (by omega) (by omega)) rfl rfl rfl rfl rfl rfl rfl ?_
            first | refine pk_eqb (tgt := 70) dX6_lookBy_46 (by decide) (fun c_46 => ?_) (fun c_46 => ?_) | refine pk_eq0N (tgt := 70) dX6_lookBy_46 (by decide) (by omega) (fun c_46 => ?_) (fun c_46 => ?_) | refine pk_if_eq (tgt := 70) dX6_lookBy_46 (by decide) (fun c_46 => ?_) (fun c_46 => ?_)
            · first | refine pk_inc1 dX6_lookBy_70 rfl rfl ?_ | refine pk_iinc dX6_lookBy_70 rfl rfl rfl ?_
              refine pk_goto (tgt := 19) dX6_lookBy_73 (by decide) ?_
              refine pk_fgt (ls' := _) ?_ K
              have e1 : sp_num kk tt oo set (8 - 4 * j) (k + 1) = if set.testBit (oo k) then sp_over (kk (oo k)) (sp_num kk tt oo set (8 - 4 * j) k) (tt (oo k) / 2 ^ (8 - 4 * j) % 16) else sp_num kk tt oo set (8 - 4 * j) k := rfl
              rw [c_46] at e1
              refine ⟨rfl, rfl, rfl, rfl, rfl, rfl, ?_, rfl, trivial⟩
              rw [e1]
              rfl
            · refine pk_aload_n dX6_lookBy_49 rfl ?_
              refine pk_iload dX6_lookBy_50 rfl ?_
              refine pk_aldN dX6_lookBy_52 ha (by omega) (by omega) (hk _ (by omega)) ?_
              refine pk_iload dX6_lookBy_53 rfl ?_
              refine pk_aload_n dX6_lookBy_55 rfl ?_
              refine pk_iload dX6_lookBy_56 rfl ?_
              refine pk_aldN dX6_lookBy_58 hb (by omega) (by omega) (ht _ (by omega)) ?_
              refine pk_iload dX6_lookBy_59 rfl ?_
              first | refine pk_shrNN dX6_lookBy_61 (by omega) (by omega) ?_ | refine pk_ishr dX6_lookBy_61 ?_
              refine pk_bipush (v := nI 15) dX6_lookBy_62 (by decide) ?_
              first | refine pk_andNN dX6_lookBy_64 ?_ | refine pk_iand dX6_lookBy_64 ?_
              rw [pk_m15]
              refine pk_Si dX6_lookBy_65 ml_X6_304 yw_X6_printedOver ys_X6_printedOver (e_X6_printedOver _ _ _ (by omega) (by omega) (by omega)) rfl rfl rfl rfl rfl rfl rfl ?_
              refine pk_istore dX6_lookBy_68 rfl rfl ?_
              first | refine pk_inc1 dX6_lookBy_70 rfl rfl ?_ | refine pk_iinc dX6_lookBy_70 rfl rfl rfl ?_
              refine pk_goto (tgt := 19) dX6_lookBy_73 (by decide) ?_
              refine pk_fgt (ls' := _) ?_ K
              have e1 : sp_num kk tt oo set (8 - 4 * j) (k + 1) = if set.testBit (oo k) then sp_over (kk (oo k)) (sp_num kk tt oo set (8 - 4 * j) k) (tt (oo k) / 2 ^ (8 - 4 * j) % 16) else sp_num kk tt oo set (8 - 4 * j) k := rfl
              rw [c_46] at e1
              refine ⟨rfl, rfl, rfl, rfl, rfl, rfl, ?_, rfl, trivial⟩
              rw [e1]
              rfl
      · refine pk_iload dX6_lookBy_19 rfl ?_
        refine pk_iconst (v := nI 5) dX6_lookBy_21 (by decide) ?_
        first | refine pk_geN (tgt := 76) dX6_lookBy_22 (by decide) (by omega) (by omega) (fun c_22 => ?_) (fun c_22 => ?_) | refine pk_icmp_ge (tgt := 76) dX6_lookBy_22 (by decide) (fun c_22 => ?_) (fun c_22 => ?_)
        · refine pk_iload dX6_lookBy_76 rfl ?_
          refine pk_bipush (v := nI 16) dX6_lookBy_78 (by decide) ?_
          first | refine pk_mulN dX6_lookBy_80 ?_ | refine pk_imul dX6_lookBy_80 ?_
          refine pk_iload dX6_lookBy_81 rfl ?_
          first | refine pk_addN dX6_lookBy_83 ?_ | refine pk_iadd dX6_lookBy_83 ?_
          refine pk_istore dX6_lookBy_84 rfl rfl ?_
          refine pk_iinc dX6_lookBy_86 rfl (sp_shf_next j hj) rfl ?_
          refine pk_goto (tgt := 7) dX6_lookBy_89 (by decide) ?_
          exact pk_fgt (by repeat first | exact trivial | refine ⟨rfl, ?_⟩) K1
        · omega
  · refine pk_iload dX6_lookBy_7 rfl ?_
    refine pk_if_lt (tgt := 92) dX6_lookBy_9 (by decide) (fun c_9 => ?_) (fun c_9 => ?_)
    · refine pk_iload dX6_lookBy_92 rfl ?_
      refine pk_reti dX6_lookBy_94 (by first | rfl | exact pk_nbi _) ?_
      exact ⟨rfl, rfl⟩
    · exact absurd (by decide) c_9

set_option maxRecDepth 100000 in
set_option maxHeartbeats 4000000 in
theorem e_J6_bitCount_0f7a4 {Γ : pk_T} {M : pk_M} {x : Nat} (hx : x < 32) : pk_E Γ yJ6_bitCount_0f7a4 cJ6_bitCount_0f7a4 1 (some .int) 0 0 0 M [.int (nI x)] (fun r M' => r = some (.int (nI (sp_bits x))) ∧ M' = M) := by
  refine pk_meth (own := RJ6) (ini := false) [some (.int (nI x))] (by decide +kernel) rfl (by decide +kernel) rfl rfl ?_
  refine pk_iload_n dJ6_bitCount_0f7a4_0 rfl ?_
  refine pk_iload_n dJ6_bitCount_0f7a4_1 rfl ?_
  refine pk_iconst (v := nI 1) dJ6_bitCount_0f7a4_2 (by decide) ?_
  refine pk_iushr dJ6_bitCount_0f7a4_3 rfl ?_
  refine pk_ldcw dJ6_bitCount_0f7a4_4 kc_J6_265 ?_
  first | refine pk_andNN dJ6_bitCount_0f7a4_7 ?_ | refine pk_iand dJ6_bitCount_0f7a4_7 ?_
  first | refine pk_subN dJ6_bitCount_0f7a4_8 (by omega) ?_ | refine pk_isub dJ6_bitCount_0f7a4_8 ?_
  refine pk_istore_n dJ6_bitCount_0f7a4_9 rfl rfl ?_
  refine pk_iload_n dJ6_bitCount_0f7a4_10 rfl ?_
  refine pk_ldcw dJ6_bitCount_0f7a4_11 kc_J6_266 ?_
  first | refine pk_andNN dJ6_bitCount_0f7a4_14 ?_ | refine pk_iand dJ6_bitCount_0f7a4_14 ?_
  refine pk_iload_n dJ6_bitCount_0f7a4_15 rfl ?_
  refine pk_iconst (v := nI 2) dJ6_bitCount_0f7a4_16 (by decide) ?_
  refine pk_iushr dJ6_bitCount_0f7a4_17 rfl ?_
  refine pk_ldcw dJ6_bitCount_0f7a4_18 kc_J6_266 ?_
  first | refine pk_andNN dJ6_bitCount_0f7a4_21 ?_ | refine pk_iand dJ6_bitCount_0f7a4_21 ?_
  first | refine pk_addN dJ6_bitCount_0f7a4_22 ?_ | refine pk_iadd dJ6_bitCount_0f7a4_22 ?_
  refine pk_istore_n dJ6_bitCount_0f7a4_23 rfl rfl ?_
  refine pk_iload_n dJ6_bitCount_0f7a4_24 rfl ?_
  refine pk_iload_n dJ6_bitCount_0f7a4_25 rfl ?_
  refine pk_iconst (v := nI 4) dJ6_bitCount_0f7a4_26 (by decide) ?_
  refine pk_iushr dJ6_bitCount_0f7a4_27 rfl ?_
  first | refine pk_addN dJ6_bitCount_0f7a4_28 ?_ | refine pk_iadd dJ6_bitCount_0f7a4_28 ?_
  refine pk_ldcw dJ6_bitCount_0f7a4_29 kc_J6_267 ?_
  first | refine pk_andNN dJ6_bitCount_0f7a4_32 ?_ | refine pk_iand dJ6_bitCount_0f7a4_32 ?_
  refine pk_istore_n dJ6_bitCount_0f7a4_33 rfl rfl ?_
  refine pk_iload_n dJ6_bitCount_0f7a4_34 rfl ?_
  refine pk_iload_n dJ6_bitCount_0f7a4_35 rfl ?_
  refine pk_bipush (v := nI 8) dJ6_bitCount_0f7a4_36 (by decide) ?_
  refine pk_iushr dJ6_bitCount_0f7a4_38 rfl ?_
  first | refine pk_addN dJ6_bitCount_0f7a4_39 ?_ | refine pk_iadd dJ6_bitCount_0f7a4_39 ?_
  refine pk_istore_n dJ6_bitCount_0f7a4_40 rfl rfl ?_
  refine pk_iload_n dJ6_bitCount_0f7a4_41 rfl ?_
  refine pk_iload_n dJ6_bitCount_0f7a4_42 rfl ?_
  refine pk_bipush (v := nI 16) dJ6_bitCount_0f7a4_43 (by decide) ?_
  refine pk_iushr dJ6_bitCount_0f7a4_45 rfl ?_
  first | refine pk_addN dJ6_bitCount_0f7a4_46 ?_ | refine pk_iadd dJ6_bitCount_0f7a4_46 ?_
  refine pk_istore_n dJ6_bitCount_0f7a4_47 rfl rfl ?_
  refine pk_iload_n dJ6_bitCount_0f7a4_48 rfl ?_
  refine pk_bipush (v := nI 63) dJ6_bitCount_0f7a4_49 (by decide) ?_
  first | refine pk_andNN dJ6_bitCount_0f7a4_51 ?_ | refine pk_iand dJ6_bitCount_0f7a4_51 ?_
  refine pk_reti dJ6_bitCount_0f7a4_52 (by first | rfl | exact pk_nbi _) ?_
  refine ⟨?_, rfl⟩
  revert hx
  revert x
  decide +kernel
