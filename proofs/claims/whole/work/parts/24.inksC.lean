/-! PartedInks: orders by their numbers, odds. -/
def sp_blk (k : Nat) : Nat := match k with
  | 0 => 24
  | 1 => 6
  | 2 => 2
  | _ => 1
def sp_ft (k : Nat) : Nat := match k with
  | 0 => 4080
  | 1 => 3855
  | 2 => 255
  | 3 => 2184
  | _ => 1092
def sp_sx (k : Nat) : Int32 := match k with
  | 0 => 0
  | 1 => -1
  | 2 => 1
  | _ => 0
def sp_sy (k : Nat) : Int32 := match k with
  | 0 => -1
  | 1 => 0
  | 2 => 0
  | _ => 1
/-- the four tables -/
def pk_ro (M : pk_M) : Prop := (∀ k, k < 5 → pk_I M 1 k = nI (sp_ft k)) ∧ (∀ k, k < 4 → pk_I M 2 k = sp_sx k) ∧ (∀ k, k < 4 → pk_I M 3 k = sp_sy k) ∧ (∀ k, k < 5 → pk_I M 4 k = nI (sp_blk k))
theorem pk_fr.ro {D : Nat → Prop} {M M1 : pk_M} (h : pk_fr D M M1) (hD : ∀ q, q < 5 → ¬ D q) (hr : pk_ro M) : pk_ro M1 := ⟨fun k hk => (h.I (hD 1 (by decide)) k).trans (hr.1 k hk), fun k hk => (h.I (hD 2 (by decide)) k).trans (hr.2.1 k hk), fun k hk => (h.I (hD 3 (by decide)) k).trans (hr.2.2.1 k hk), fun k hk => (h.I (hD 4 (by decide)) k).trans (hr.2.2.2 k hk)⟩
theorem sp_blk_b (k : Nat) : 0 < sp_blk k ∧ sp_blk k ≤ 24 := by
  unfold sp_blk
  split <;> decide
theorem sp_blk_max (k : Nat) : max 1 (sp_blk k) = sp_blk k := by
  have := sp_blk_b k
  omega
def sp_fst (f : Nat → Bool) : Nat → Nat
  | 0 => 0
  | n + 1 => if sp_any f n then sp_fst f n else n
theorem sp_fst_eq {f : Nat → Bool} {n j : Nat} (hj : j < n) (h1 : sp_any f j = false) (h2 : f j = true) : sp_fst f n = j := by
  induction n with
  | zero => omega
  | succ n ih =>
    show (if sp_any f n then sp_fst f n else n) = j
    by_cases e : j = n
    · subst e
      rw [h1]
      rfl
    · rw [sp_any_true (show j < n by omega) h2, if_pos rfl]
      exact ih (by omega)
def sp_nthF (set nth : Nat) (j : Nat) : Bool := set.testBit j && (sp_c (fun i => set.testBit i) j == nth)
def sp_nth (set nth : Nat) : Nat := if sp_any (sp_nthF set nth) 5 then sp_fst (sp_nthF set nth) 5 else 0
theorem sp_fst_le (f : Nat → Bool) (n : Nat) (h : sp_any f n = true) : sp_fst f n < n := by
  induction n with
  | zero => cases h
  | succ n ih =>
    show (if sp_any f n then sp_fst f n else n) < n + 1
    split
    · rename_i h2
      have := ih h2
      omega
    · omega
theorem sp_nth_lt (set nth : Nat) : sp_nth set nth < 5 := by
  unfold sp_nth
  split
  · rename_i h
    exact sp_fst_le _ 5 h
  · decide

set_option maxRecDepth 100000 in
set_option maxHeartbeats 4000000 in
theorem e_X6_nthInk {Γ : pk_T} {M : pk_M} {set nth : Nat} (hs : set < 32) (hn : nth < 2 ^ 31) : pk_E Γ yX6_nthInk cX6_nthInk 4 (some .int) 1 0 0 M [.int (nI set), .int (nI nth)] (fun r M' => r = some (.int (nI (sp_nth set nth))) ∧ M' = M) := by
  refine pk_meth (own := RX6) (ini := false) [some (.int (nI set)), some (.int (nI nth)), none, none] (by decide +kernel) rfl (by decide +kernel) rfl rfl ?_
  refine pk_iconst (v := nI 0) dX6_nthInk_0 (by decide) ?_
  refine pk_istore_n dX6_nthInk_1 rfl rfl ?_
  refine pk_iconst (v := nI 0) dX6_nthInk_2 (by decide) ?_
  refine pk_istore_n dX6_nthInk_3 rfl rfl ?_
  refine pk_forJ 5 (fun j => sp_any (sp_nthF set nth) j = false) (fun _ => M) (fun j => [some (.int (nI set)), some (.int (nI nth)), some (.int (nI (sp_c (fun i => set.testBit i) j))), some (.int (nI j))]) ?_ ?_ 0 (by omega) rfl
  · intro j hj hJ K
    have h1 := sp_c_le (fun i => set.testBit i) j
    have e1 : sp_c (fun i => set.testBit i) (j + 1) = if set.testBit j then sp_c (fun i => set.testBit i) j + 1 else sp_c (fun i => set.testBit i) j := rfl
    refine pk_iload_n dX6_nthInk_4 rfl ?_
    refine pk_iconst (v := nI 5) dX6_nthInk_5 (by decide) ?_
    first | refine pk_geN (tgt := 33) dX6_nthInk_6 (by decide) (by omega) (by omega) (fun c_6 => ?_) (fun c_6 => ?_) | refine pk_icmp_ge (tgt := 33) dX6_nthInk_6 (by decide) (fun c_6 => ?_) (fun c_6 => ?_)
    · omega
    · refine pk_iload_n dX6_nthInk_9 rfl ?_
      refine pk_iload_n dX6_nthInk_10 rfl ?_
      refine pk_Si dX6_nthInk_11 ml_X6_301 yw_X6_hasBit ys_X6_hasBit (e_X6_hasBit _ _ (by omega) (by omega)) rfl rfl rfl rfl rfl rfl rfl ?_
      first | refine pk_eqb (tgt := 27) dX6_nthInk_14 (by decide) (fun c_14 => ?_) (fun c_14 => ?_) | refine pk_eq0N (tgt := 27) dX6_nthInk_14 (by decide) (by omega) (fun c_14 => ?_) (fun c_14 => ?_) | refine pk_if_eq (tgt := 27) dX6_nthInk_14 (by decide) (fun c_14 => ?_) (fun c_14 => ?_)
      · first | refine pk_inc1 dX6_nthInk_27 rfl rfl ?_ | refine pk_iinc dX6_nthInk_27 rfl rfl rfl ?_
        refine pk_goto (tgt := 4) dX6_nthInk_30 (by decide) ?_
        refine pk_lsq ?_ (K ?_)
        · rw [e1, c_14]
          rfl
        · rw [sp_any_succ, hJ, sp_nthF, c_14]
          first | rfl | simp [c_19]
      · refine pk_iload_n dX6_nthInk_17 rfl ?_
        refine pk_iload_n dX6_nthInk_18 rfl ?_
        first | refine pk_neN (tgt := 24) dX6_nthInk_19 (by decide) (by omega) (by omega) (fun c_19 => ?_) (fun c_19 => ?_) | refine pk_icmp_ne (tgt := 24) dX6_nthInk_19 (by decide) (fun c_19 => ?_) (fun c_19 => ?_)
        · first | refine pk_inc1 dX6_nthInk_24 rfl rfl ?_ | refine pk_iinc dX6_nthInk_24 rfl rfl rfl ?_
          first | refine pk_inc1 dX6_nthInk_27 rfl rfl ?_ | refine pk_iinc dX6_nthInk_27 rfl rfl rfl ?_
          refine pk_goto (tgt := 4) dX6_nthInk_30 (by decide) ?_
          refine pk_lsq ?_ (K ?_)
          · rw [e1, c_14]
            rfl
          · rw [sp_any_succ, hJ, sp_nthF, c_14]
            first | rfl | simp [c_19]
        · refine pk_iload_n dX6_nthInk_22 rfl ?_
          refine pk_reti dX6_nthInk_23 (by first | rfl | exact pk_nbi _) ?_
          refine ⟨?_, rfl⟩
          have e2 : sp_nthF set nth j = true := by rw [sp_nthF, c_14, c_19]; simp
          rw [sp_nth, sp_any_true hj e2, if_pos rfl, sp_fst_eq hj hJ e2]
  · intro hJ
    refine pk_iload_n dX6_nthInk_4 rfl ?_
    refine pk_iconst (v := nI 5) dX6_nthInk_5 (by decide) ?_
    first | refine pk_geN (tgt := 33) dX6_nthInk_6 (by decide) (by omega) (by omega) (fun c_6 => ?_) (fun c_6 => ?_) | refine pk_icmp_ge (tgt := 33) dX6_nthInk_6 (by decide) (fun c_6 => ?_) (fun c_6 => ?_)
    · refine pk_iconst (v := nI 0) dX6_nthInk_33 (by decide) ?_
      refine pk_reti dX6_nthInk_34 (by first | rfl | exact pk_nbi _) ?_
      refine ⟨?_, rfl⟩
      rw [sp_nth, hJ]
      rfl
    · omega

def sp_ws (n : Nat) : Nat → Nat × Nat
  | 0 => (31, n)
  | k + 1 => ((sp_ws n k).1 &&& (31 - 2 ^ sp_nth (sp_ws n k).1 ((sp_ws n k).2 / sp_blk k)), (sp_ws n k).2 % sp_blk k)
def sp_wo (n k : Nat) : Nat := sp_nth (sp_ws n k).1 ((sp_ws n k).2 / sp_blk k)
theorem sp_wo_lt (n k : Nat) : sp_wo n k < 5 := sp_nth_lt _ _
theorem sp_ws_lt (n k : Nat) (hn : n < 2 ^ 31) : (sp_ws n k).1 < 32 ∧ (sp_ws n k).2 < 2 ^ 31 := by
  induction k with
  | zero => exact ⟨by show 31 < 32; decide, hn⟩
  | succ k ih => exact ⟨pk_and_lt ih.1, Nat.lt_of_le_of_lt (Nat.mod_le _ _) ih.2⟩
/-- the row of the order that is tried -/
def sp_tr (M : pk_M) (n m : Nat) : pk_M := pk_wI M 93 (fun j => if j < m then nI (sp_wo n j) else pk_I M 93 j)
theorem sp_tr_0 (M : pk_M) (n : Nat) : sp_tr M n 0 = M := (by congr 1 : sp_tr M n 0 = pk_wI M 93 (pk_I M 93)).trans (pk_wI_id M 93)
theorem sp_tr_I (M : pk_M) (n m q j : Nat) (h : q ≠ 93) : pk_I (sp_tr M n m) q j = pk_I M q j := pk_gW0 h rfl
theorem sp_tr_in (M : pk_M) (n j : Nat) (h : j < 5) : pk_I (sp_tr M n 5) 93 j = nI (sp_wo n j) := pk_gW1 rfl (if_pos h)
theorem sp_tr_tr (M : pk_M) (a b : Nat) : sp_tr (sp_tr M a 5) b 5 = sp_tr M b 5 := by
  have e : (fun q j => if q = 93 then (if j < 5 then nI (sp_wo b j) else pk_I (sp_tr M a 5) 93 j) else (sp_tr M a 5).2.1 q j) = (fun q j => if q = 93 then (if j < 5 then nI (sp_wo b j) else pk_I M 93 j) else M.2.1 q j) := by
    funext q j
    by_cases h : q = 93
    · subst h
      by_cases h2 : j < 5 <;> simp [h2, sp_tr, pk_wI, pk_I]
    · simp [h, sp_tr, pk_wI]
  show (M.1, _, M.2.2.1, M.2.2.2) = _
  rw [e]
  rfl
def sp_trn (M : pk_M) (i : Nat) : pk_M := match i with
  | 0 => M
  | i + 1 => sp_tr M i 5
theorem sp_trn_tr (M : pk_M) (i : Nat) : sp_tr (sp_trn M i) i 5 = sp_trn M (i + 1) := by
  cases i with
  | zero => rfl
  | succ i => exact sp_tr_tr M i (i + 1)
theorem sp_trn_fr (M : pk_M) (i : Nat) : pk_fr (fun q => q = 93) M (sp_trn M i) := by
  cases i with
  | zero => exact pk_fr.rf _ M
  | succ i => exact pk_fr.wI rfl

set_option maxRecDepth 100000 in
set_option maxHeartbeats 4000000 in
theorem e_X6_writeOrder {Γ : pk_T} {M : pk_M} {L n : Nat} (hW : pk_WF L M) (hro : pk_ro M) (hn : n < 2 ^ 31) : pk_E Γ yX6_writeOrder cX6_writeOrder 7 none 2 0 0 M [.int (nI n), .ref 93] (fun r M' => r = none ∧ M' = sp_tr M n 5) := by
  refine pk_meth (own := RX6) (ini := false) [some (.int (nI n)), some (.ref 93), none, none, none, none, none] (by decide +kernel) rfl (by decide +kernel) rfl rfl ?_
  refine pk_bipush (v := nI 31) dX6_writeOrder_0 (by decide) ?_
  refine pk_istore_n dX6_writeOrder_2 rfl rfl ?_
  refine pk_iload_n dX6_writeOrder_3 rfl ?_
  refine pk_istore_n dX6_writeOrder_4 rfl rfl ?_
  refine pk_iconst (v := nI 0) dX6_writeOrder_5 (by decide) ?_
  refine pk_istore dX6_writeOrder_6 rfl rfl ?_
  refine pk_Mq (sp_tr_0 M n).symm ?_
  refine pk_for 5 (fun k => sp_tr M n k) (fun k => [some (.int (nI n)), some (.ref 93), some (.int (nI (sp_ws n k).1)), some (.int (nI (sp_ws n k).2)), some (.int (nI k)), none, none]) ?_ ?_ 0 (by omega)
  · intro k hk K
    have h1 := sp_ws_lt n k hn
    have h2 := sp_blk_b k
    have h3 := sp_wo_lt n k
    have h4 : (sp_ws n k).2 / sp_blk k ≤ (sp_ws n k).2 := Nat.div_le_self _ _
    have h5 := pk_p2 h3
    have hwo : sp_nth (sp_ws n k).1 ((sp_ws n k).2 / sp_blk k) = sp_wo n k := rfl
    refine pk_iload dX6_writeOrder_8 rfl ?_
    refine pk_iconst (v := nI 5) dX6_writeOrder_10 (by decide) ?_
    first | refine pk_geN (tgt := 62) dX6_writeOrder_11 (by decide) (by omega) (by omega) (fun c_11 => ?_) (fun c_11 => ?_) | refine pk_icmp_ge (tgt := 62) dX6_writeOrder_11 (by decide) (fun c_11 => ?_) (fun c_11 => ?_)
    · omega
    · refine pk_iconst (v := nI 1) dX6_writeOrder_14 (by decide) ?_
      refine pk_gets (q := 4) dX6_writeOrder_15 (by decide) gs_X6_332 ?_
      refine pk_iload dX6_writeOrder_18 rfl ?_
      refine pk_aldN dX6_writeOrder_20 (hW.s rfl) (by omega) (by omega) ((sp_tr_I M n k 4 k (by decide)).trans (hro.2.2.2 k hk)) ?_
      refine pk_mathmax dX6_writeOrder_21 mi_X6_335 (by omega) (by omega) rfl rfl rfl rfl ?_
      rw [sp_blk_max]
      refine pk_istore dX6_writeOrder_24 rfl rfl ?_
      refine pk_iload_n dX6_writeOrder_26 rfl ?_
      refine pk_iload_n dX6_writeOrder_27 rfl ?_
      refine pk_iload dX6_writeOrder_28 rfl ?_
      first | refine pk_divN dX6_writeOrder_30 (by omega) (by omega) (by omega) ?_ | refine pk_idiv dX6_writeOrder_30 (by first | assumption | decide) ?_
      refine pk_Si dX6_writeOrder_31 ml_X6_338 yw_X6_nthInk ys_X6_nthInk (e_X6_nthInk (by omega) (by omega)) rfl rfl rfl rfl rfl rfl rfl ?_
      rw [hwo]
      refine pk_istore dX6_writeOrder_34 rfl rfl ?_
      refine pk_aload_n dX6_writeOrder_36 rfl ?_
      refine pk_iload dX6_writeOrder_37 rfl ?_
      refine pk_iload dX6_writeOrder_39 rfl ?_
      refine pk_astN dX6_writeOrder_41 (hW.s rfl) (by omega) (by omega) (by omega) ?_
      refine pk_iload_n dX6_writeOrder_42 rfl ?_
      refine pk_iconst (v := nI 1) dX6_writeOrder_43 (by decide) ?_
      refine pk_iload dX6_writeOrder_44 rfl ?_
      first | refine pk_shlNN dX6_writeOrder_46 (by omega) ?_ | refine pk_ishl dX6_writeOrder_46 ?_
      refine pk_iconst (v := -1) dX6_writeOrder_47 (by decide) ?_
      refine pk_ixor dX6_writeOrder_48 ?_
      refine pk_iand dX6_writeOrder_49 ?_
      rw [pk_dif _ h1.1 _ h5]
      refine pk_istore_n dX6_writeOrder_50 rfl rfl ?_
      refine pk_iload_n dX6_writeOrder_51 rfl ?_
      refine pk_iload dX6_writeOrder_52 rfl ?_
      first | refine pk_remN dX6_writeOrder_54 (by omega) (by omega) (by omega) ?_ | refine pk_irem dX6_writeOrder_54 (by first | assumption | decide) ?_
      refine pk_istore_n dX6_writeOrder_55 rfl rfl ?_
      first | refine pk_inc1 dX6_writeOrder_56 rfl rfl ?_ | refine pk_iinc dX6_writeOrder_56 rfl rfl rfl ?_
      refine pk_goto (tgt := 8) dX6_writeOrder_59 (by decide) ?_
      refine pk_Mq (M' := sp_tr M n (k + 1)) ?_ (pk_fgt (ls' := _) ?_ K)
      · rw [sp_tr, pk_wI_sI]
        congr 1
        funext j
        by_cases h : j = k
        · subst h
          rw [if_pos rfl, if_pos (by omega)]
        · rw [if_neg h]
          by_cases h2 : j < k
          · rw [if_pos h2, if_pos (by omega)]
          · rw [if_neg h2, if_neg (by omega)]
      · exact ⟨rfl, rfl, rfl, rfl, rfl, trivial⟩
  · refine pk_iload dX6_writeOrder_8 rfl ?_
    refine pk_iconst (v := nI 5) dX6_writeOrder_10 (by decide) ?_
    first | refine pk_geN (tgt := 62) dX6_writeOrder_11 (by decide) (by omega) (by omega) (fun c_11 => ?_) (fun c_11 => ?_) | refine pk_icmp_ge (tgt := 62) dX6_writeOrder_11 (by decide) (fun c_11 => ?_) (fun c_11 => ?_)
    · refine pk_retv dX6_writeOrder_62 ?_
      exact ⟨rfl, rfl⟩
    · omega

def sp_ao (A : pk_St) (D n : Nat) : Bool := !sp_any (fun s => D.testBit s && !(sp_look (sp_k A) (sp_t A) (sp_wo n) s == sp_lookA A s)) 32

set_option maxRecDepth 100000 in
set_option maxHeartbeats 4000000 in
theorem e_X6_isAlikeByOrder {Γ : pk_T} {M : pk_M} {L : Nat} {A : pk_St} (hN : pk_now L M A) {n D : Nat} (hro : pk_ro M) (hl : ∀ s, s < 32 → pk_I M 81 s = nI (sp_lookA A s)) (hn : n < 2 ^ 31) (hD : D < 2 ^ 32) : pk_E Γ yX6_isAlikeByOrder cX6_isAlikeByOrder 4 (some .boolean) 3 0 0 M [.ref 5, .int (nI n), .int (nI D)] (fun r M' => r = some (.int (pk_bi (sp_ao A D n))) ∧ M' = sp_tr M n 5) := by
  obtain ⟨hW, hA, hok⟩ := hN
  refine pk_meth (own := RX6) (ini := false) [some (.ref 5), some (.int (nI n)), some (.int (nI D)), none] (by decide +kernel) rfl (by decide +kernel) rfl rfl ?_
  refine pk_iload_n dX6_isAlikeByOrder_0 rfl ?_
  refine pk_aload_n dX6_isAlikeByOrder_1 rfl ?_
  refine pk_getP dX6_isAlikeByOrder_2 fl_X6_64 rfl (hW.s rfl) (hW.p rfl) ?_
  refine pk_Sv dX6_isAlikeByOrder_5 ml_X6_325 yw_X6_writeOrder ys_X6_writeOrder (e_X6_writeOrder hW hro (by omega)) rfl rfl rfl rfl rfl rfl rfl ?_
  refine pk_iconst (v := nI 0) dX6_isAlikeByOrder_8 (by decide) ?_
  refine pk_istore_n dX6_isAlikeByOrder_9 rfl rfl ?_
  refine pk_forJ 32 (fun j => sp_any (fun s => D.testBit s && !(sp_look (sp_k A) (sp_t A) (sp_wo n) s == sp_lookA A s)) j = false) (fun _ => sp_tr M n 5) (fun j => [some (.ref 5), some (.int (nI n)), some (.int (nI D)), some (.int (nI j))]) ?_ ?_ 0 (by omega) rfl
  · intro j hj hJ K
    have h1 := sp_look_lt (sp_k A) (sp_t A) (sp_wo n) j
    have h2 := sp_lookA_lt A j
    refine pk_iload_n dX6_isAlikeByOrder_10 rfl ?_
    refine pk_bipush (v := nI 32) dX6_isAlikeByOrder_11 (by decide) ?_
    first | refine pk_geN (tgt := 66) dX6_isAlikeByOrder_13 (by decide) (by omega) (by omega) (fun c_13 => ?_) (fun c_13 => ?_) | refine pk_icmp_ge (tgt := 66) dX6_isAlikeByOrder_13 (by decide) (fun c_13 => ?_) (fun c_13 => ?_)
    · omega
    · refine pk_iload_n dX6_isAlikeByOrder_16 rfl ?_
      refine pk_iload_n dX6_isAlikeByOrder_17 rfl ?_
      refine pk_Si dX6_isAlikeByOrder_18 ml_X6_301 yw_X6_hasBit ys_X6_hasBit (e_X6_hasBit _ _ (by omega) (by omega)) rfl rfl rfl rfl rfl rfl rfl ?_
      first | refine pk_eqb (tgt := 60) dX6_isAlikeByOrder_21 (by decide) (fun c_21 => ?_) (fun c_21 => ?_) | refine pk_eq0N (tgt := 60) dX6_isAlikeByOrder_21 (by decide) (by omega) (fun c_21 => ?_) (fun c_21 => ?_) | refine pk_if_eq (tgt := 60) dX6_isAlikeByOrder_21 (by decide) (fun c_21 => ?_) (fun c_21 => ?_)
      · first | refine pk_inc1 dX6_isAlikeByOrder_60 rfl rfl ?_ | refine pk_iinc dX6_isAlikeByOrder_60 rfl rfl rfl ?_
        refine pk_goto (tgt := 10) dX6_isAlikeByOrder_63 (by decide) ?_
        exact K (by rw [sp_any_succ, hJ]; first | simp [c_21, c_55] | simp [c_21])
      · refine pk_aload_n dX6_isAlikeByOrder_24 rfl ?_
        refine pk_getP dX6_isAlikeByOrder_25 fl_X6_10 rfl (hW.s rfl) (hW.p rfl) ?_
        refine pk_getP dX6_isAlikeByOrder_28 fl_X6_75 rfl (hW.s rfl) (hW.p rfl) ?_
        refine pk_aload_n dX6_isAlikeByOrder_31 rfl ?_
        refine pk_getP dX6_isAlikeByOrder_32 fl_X6_10 rfl (hW.s rfl) (hW.p rfl) ?_
        refine pk_getP dX6_isAlikeByOrder_35 fl_X6_78 rfl (hW.s rfl) (hW.p rfl) ?_
        refine pk_aload_n dX6_isAlikeByOrder_38 rfl ?_
        refine pk_getP dX6_isAlikeByOrder_39 fl_X6_64 rfl (hW.s rfl) (hW.p rfl) ?_
        refine pk_iload_n dX6_isAlikeByOrder_42 rfl ?_
        refine pk_Si dX6_isAlikeByOrder_43 ml_X6_307 yw_X6_lookBy ys_X6_lookBy (e_X6_lookBy (M := sp_tr M n 5) (hW.s rfl) (hW.s rfl) (hW.s rfl) (fun i hi => (sp_tr_I M n 5 _ i (by decide)).trans (hA.2.2.2.1 i hi)) (fun i hi => (sp_tr_I M n 5 _ i (by decide)).trans (hA.2.2.2.2.1 i hi)) (fun i hi => sp_tr_in M n i hi) hok.2.2.2.1 hok.2.2.2.2.1 (fun i _ => sp_wo_lt n i) (by omega)) rfl rfl rfl rfl rfl rfl rfl ?_
        refine pk_aload_n dX6_isAlikeByOrder_46 rfl ?_
        refine pk_getP dX6_isAlikeByOrder_47 fl_X6_36 rfl (hW.s rfl) (hW.p rfl) ?_
        refine pk_getP dX6_isAlikeByOrder_50 fl_X6_329 rfl (hW.s rfl) (hW.p rfl) ?_
        refine pk_iload_n dX6_isAlikeByOrder_53 rfl ?_
        refine pk_aldN dX6_isAlikeByOrder_54 (hW.s rfl) (by omega) (by omega) ((sp_tr_I M n 5 81 j (by decide)).trans (hl j hj)) ?_
        first | refine pk_eqN (tgt := 60) dX6_isAlikeByOrder_55 (by decide) (by omega) (by omega) (fun c_55 => ?_) (fun c_55 => ?_) | refine pk_icmp_eq (tgt := 60) dX6_isAlikeByOrder_55 (by decide) (fun c_55 => ?_) (fun c_55 => ?_)
        · first | refine pk_inc1 dX6_isAlikeByOrder_60 rfl rfl ?_ | refine pk_iinc dX6_isAlikeByOrder_60 rfl rfl rfl ?_
          refine pk_goto (tgt := 10) dX6_isAlikeByOrder_63 (by decide) ?_
          exact K (by rw [sp_any_succ, hJ]; first | simp [c_21, c_55] | simp [c_21])
        · refine pk_iconst (v := nI 0) dX6_isAlikeByOrder_58 (by decide) ?_
          refine pk_reti dX6_isAlikeByOrder_59 (by first | rfl | exact pk_nbi _) ?_
          refine ⟨?_, rfl⟩
          rw [sp_ao, sp_any_true hj (by simp [c_21, c_55])]
          rfl
  · intro hJ
    refine pk_iload_n dX6_isAlikeByOrder_10 rfl ?_
    refine pk_bipush (v := nI 32) dX6_isAlikeByOrder_11 (by decide) ?_
    first | refine pk_geN (tgt := 66) dX6_isAlikeByOrder_13 (by decide) (by omega) (by omega) (fun c_13 => ?_) (fun c_13 => ?_) | refine pk_icmp_ge (tgt := 66) dX6_isAlikeByOrder_13 (by decide) (fun c_13 => ?_) (fun c_13 => ?_)
    · refine pk_iconst (v := nI 1) dX6_isAlikeByOrder_66 (by decide) ?_
      refine pk_reti dX6_isAlikeByOrder_67 (by first | rfl | exact pk_nbi _) ?_
      refine ⟨?_, rfl⟩
      rw [sp_ao, hJ]
      rfl
    · omega

set_option maxRecDepth 100000 in
set_option maxHeartbeats 4000000 in
theorem e_X6_ordersAlike {Γ : pk_T} {M : pk_M} {L : Nat} {A : pk_St} (hN : pk_now L M A) (hro : pk_ro M) : pk_E Γ yX6_ordersAlike cX6_ordersAlike 4 (some .int) 4 0 0 M [.ref 5] (fun r M' => r = some (.int (nI (sp_c (sp_ao A (sp_sets A)) 120))) ∧ pk_fr (fun q => q = 81 ∨ q = 93) M M') := by
  obtain ⟨hW, hA, hok⟩ := hN
  have hD := sp_sets_lt hok 48 (by omega)
  change sp_sets A < 2 ^ 32 at hD
  refine pk_meth (own := RX6) (ini := false) [some (.ref 5), none, none, none] (by decide +kernel) rfl (by decide +kernel) rfl rfl ?_
  refine pk_aload_n dX6_ordersAlike_0 rfl ?_
  refine pk_getP dX6_ordersAlike_1 fl_X6_10 rfl (hW.s rfl) (hW.p rfl) ?_
  refine pk_Vi dX6_ordersAlike_4 ml_X6_313 yw_X4_setsDrawn yv_X4_setsDrawn (hW.s rfl) (e_X4_setsDrawn (p := 6) hW rfl hA hok) rfl rfl rfl rfl rfl rfl rfl ?_
  refine pk_istore_n dX6_ordersAlike_7 rfl rfl ?_
  refine pk_aload_n dX6_ordersAlike_8 rfl ?_
  refine pk_getP dX6_ordersAlike_9 fl_X6_36 rfl (hW.s rfl) (hW.p rfl) ?_
  refine pk_aload_n dX6_ordersAlike_12 rfl ?_
  refine pk_getP dX6_ordersAlike_13 fl_X6_10 rfl (hW.s rfl) (hW.p rfl) ?_
  refine pk_Vvr dX6_ordersAlike_16 ml_X6_311 yw_X1_find yv_X1_find (hW.s rfl) (e_X1_find ⟨hW, hA, hok⟩) rfl rfl rfl rfl rfl rfl rfl (fun M1 h1 => ?_)
  obtain ⟨hfr, hl⟩ := h1
  have hN1 := hfr.now (fun q h1 h2 => by omega) ⟨hW, hA, hok⟩
  replace hW := hN1.1
  replace hA := hN1.2.1
  replace hro := hfr.ro (fun q h1 => by omega) hro
  refine pk_iconst (v := nI 0) dX6_ordersAlike_19 (by decide) ?_
  refine pk_istore_n dX6_ordersAlike_20 rfl rfl ?_
  refine pk_iconst (v := nI 0) dX6_ordersAlike_21 (by decide) ?_
  refine pk_istore_n dX6_ordersAlike_22 rfl rfl ?_
  refine pk_for 120 (fun i => sp_trn M1 i) (fun i => [some (.ref 5), some (.int (nI (sp_sets A))), some (.int (nI (sp_c (sp_ao A (sp_sets A)) i))), some (.int (nI i))]) ?_ ?_ 0 (by omega)
  · intro i hi K
    have e1 : sp_c (sp_ao A (sp_sets A)) (i + 1) = if sp_ao A (sp_sets A) i then sp_c (sp_ao A (sp_sets A)) i + 1 else sp_c (sp_ao A (sp_sets A)) i := rfl
    refine pk_iload_n dX6_ordersAlike_23 rfl ?_
    refine pk_bipush (v := nI 120) dX6_ordersAlike_24 (by decide) ?_
    first | refine pk_geN (tgt := 47) dX6_ordersAlike_26 (by decide) (by omega) (by omega) (fun c_26 => ?_) (fun c_26 => ?_) | refine pk_icmp_ge (tgt := 47) dX6_ordersAlike_26 (by decide) (fun c_26 => ?_) (fun c_26 => ?_)
    · omega
    · refine pk_aload_n dX6_ordersAlike_29 rfl ?_
      refine pk_iload_n dX6_ordersAlike_30 rfl ?_
      refine pk_iload_n dX6_ordersAlike_31 rfl ?_
      refine pk_Vi dX6_ordersAlike_32 ml_X6_322 yw_X6_isAlikeByOrder yv_X6_isAlikeByOrder ((sp_trn_fr M1 i).wf hW |>.s rfl) (e_X6_isAlikeByOrder ⟨(sp_trn_fr M1 i).wf hW, (sp_trn_fr M1 i).at (fun q h1 h2 => by omega) hA, hok⟩ ((sp_trn_fr M1 i).ro (fun q h1 => by omega) hro) (fun s hs => ((sp_trn_fr M1 i).I (by decide) s).trans (hl s hs)) (by omega) (by omega)) rfl rfl rfl rfl rfl rfl rfl ?_
      first | refine pk_eqb (tgt := 41) dX6_ordersAlike_35 (by decide) (fun c_35 => ?_) (fun c_35 => ?_) | refine pk_eq0N (tgt := 41) dX6_ordersAlike_35 (by decide) (by omega) (fun c_35 => ?_) (fun c_35 => ?_) | refine pk_if_eq (tgt := 41) dX6_ordersAlike_35 (by decide) (fun c_35 => ?_) (fun c_35 => ?_)
      · first | refine pk_inc1 dX6_ordersAlike_41 rfl rfl ?_ | refine pk_iinc dX6_ordersAlike_41 rfl rfl rfl ?_
        refine pk_goto (tgt := 23) dX6_ordersAlike_44 (by decide) ?_
        refine pk_Mq (sp_trn_tr M1 i) (pk_lsq ?_ K)
        rw [e1, c_35]
        rfl
      · first | refine pk_inc1 dX6_ordersAlike_38 rfl rfl ?_ | refine pk_iinc dX6_ordersAlike_38 rfl rfl rfl ?_
        first | refine pk_inc1 dX6_ordersAlike_41 rfl rfl ?_ | refine pk_iinc dX6_ordersAlike_41 rfl rfl rfl ?_
        refine pk_goto (tgt := 23) dX6_ordersAlike_44 (by decide) ?_
        refine pk_Mq (sp_trn_tr M1 i) (pk_lsq ?_ K)
        rw [e1, c_35]
        rfl
  · refine pk_iload_n dX6_ordersAlike_23 rfl ?_
    refine pk_bipush (v := nI 120) dX6_ordersAlike_24 (by decide) ?_
    first | refine pk_geN (tgt := 47) dX6_ordersAlike_26 (by decide) (by omega) (by omega) (fun c_26 => ?_) (fun c_26 => ?_) | refine pk_icmp_ge (tgt := 47) dX6_ordersAlike_26 (by decide) (fun c_26 => ?_) (fun c_26 => ?_)
    · refine pk_iload_n dX6_ordersAlike_47 rfl ?_
      refine pk_reti dX6_ordersAlike_48 (by first | rfl | exact pk_nbi _) ?_
      exact ⟨rfl, (hfr.mono (fun q h => Or.inl h)).tr ((sp_trn_fr M1 120).mono (fun q h => Or.inr h))⟩
    · omega

def sp_fO (A : pk_St) : Nat := if sp_any (sp_ao A (sp_sets A)) 120 then sp_fig (sp_wo (sp_fst (sp_ao A (sp_sets A)) 120)) else sp_fig (sp_o A)

set_option maxRecDepth 100000 in
set_option maxHeartbeats 4000000 in
theorem e_X6_firstOrderAlike {Γ : pk_T} {M : pk_M} {L : Nat} {A : pk_St} (hN : pk_now L M A) (hro : pk_ro M) : pk_E Γ yX6_firstOrderAlike cX6_firstOrderAlike 3 (some .int) 4 0 0 M [.ref 5] (fun r M' => r = some (.int (nI (sp_fO A))) ∧ pk_fr (fun q => q = 81 ∨ q = 93) M M') := by
  obtain ⟨hW, hA, hok⟩ := hN
  have hD := sp_sets_lt hok 48 (by omega)
  change sp_sets A < 2 ^ 32 at hD
  refine pk_meth (own := RX6) (ini := false) [some (.ref 5), none, none] (by decide +kernel) rfl (by decide +kernel) rfl rfl ?_
  refine pk_aload_n dX6_firstOrderAlike_0 rfl ?_
  refine pk_getP dX6_firstOrderAlike_1 fl_X6_10 rfl (hW.s rfl) (hW.p rfl) ?_
  refine pk_Vi dX6_firstOrderAlike_4 ml_X6_313 yw_X4_setsDrawn yv_X4_setsDrawn (hW.s rfl) (e_X4_setsDrawn (p := 6) hW rfl hA hok) rfl rfl rfl rfl rfl rfl rfl ?_
  refine pk_istore_n dX6_firstOrderAlike_7 rfl rfl ?_
  refine pk_aload_n dX6_firstOrderAlike_8 rfl ?_
  refine pk_getP dX6_firstOrderAlike_9 fl_X6_36 rfl (hW.s rfl) (hW.p rfl) ?_
  refine pk_aload_n dX6_firstOrderAlike_12 rfl ?_
  refine pk_getP dX6_firstOrderAlike_13 fl_X6_10 rfl (hW.s rfl) (hW.p rfl) ?_
  refine pk_Vvr dX6_firstOrderAlike_16 ml_X6_311 yw_X1_find yv_X1_find (hW.s rfl) (e_X1_find ⟨hW, hA, hok⟩) rfl rfl rfl rfl rfl rfl rfl (fun M1 h1 => ?_)
  obtain ⟨hfr, hl⟩ := h1
  have hN1 := hfr.now (fun q h1 h2 => by omega) ⟨hW, hA, hok⟩
  replace hW := hN1.1
  replace hA := hN1.2.1
  replace hro := hfr.ro (fun q h1 => by omega) hro
  refine pk_iconst (v := nI 0) dX6_firstOrderAlike_19 (by decide) ?_
  refine pk_istore_n dX6_firstOrderAlike_20 rfl rfl ?_
  refine pk_forJ 120 (fun j => sp_any (sp_ao A (sp_sets A)) j = false) (fun i => sp_trn M1 i) (fun i => [some (.ref 5), some (.int (nI (sp_sets A))), some (.int (nI i))]) ?_ ?_ 0 (by omega) rfl
  · intro i hi hJ K
    have hWi := (sp_trn_fr M1 i).wf hW
    refine pk_iload_n dX6_firstOrderAlike_21 rfl ?_
    refine pk_bipush (v := nI 120) dX6_firstOrderAlike_22 (by decide) ?_
    first | refine pk_geN (tgt := 50) dX6_firstOrderAlike_24 (by decide) (by omega) (by omega) (fun c_24 => ?_) (fun c_24 => ?_) | refine pk_icmp_ge (tgt := 50) dX6_firstOrderAlike_24 (by decide) (fun c_24 => ?_) (fun c_24 => ?_)
    · omega
    · refine pk_aload_n dX6_firstOrderAlike_27 rfl ?_
      refine pk_iload_n dX6_firstOrderAlike_28 rfl ?_
      refine pk_iload_n dX6_firstOrderAlike_29 rfl ?_
      refine pk_Vi dX6_firstOrderAlike_30 ml_X6_322 yw_X6_isAlikeByOrder yv_X6_isAlikeByOrder (hWi.s rfl) (e_X6_isAlikeByOrder ⟨(sp_trn_fr M1 i).wf hW, (sp_trn_fr M1 i).at (fun q h1 h2 => by omega) hA, hok⟩ ((sp_trn_fr M1 i).ro (fun q h1 => by omega) hro) (fun s hs => ((sp_trn_fr M1 i).I (by decide) s).trans (hl s hs)) (by omega) (by omega)) rfl rfl rfl rfl rfl rfl rfl ?_
      first | refine pk_eqb (tgt := 44) dX6_firstOrderAlike_33 (by decide) (fun c_33 => ?_) (fun c_33 => ?_) | refine pk_eq0N (tgt := 44) dX6_firstOrderAlike_33 (by decide) (by omega) (fun c_33 => ?_) (fun c_33 => ?_) | refine pk_if_eq (tgt := 44) dX6_firstOrderAlike_33 (by decide) (fun c_33 => ?_) (fun c_33 => ?_)
      · first | refine pk_inc1 dX6_firstOrderAlike_44 rfl rfl ?_ | refine pk_iinc dX6_firstOrderAlike_44 rfl rfl rfl ?_
        refine pk_goto (tgt := 21) dX6_firstOrderAlike_47 (by decide) ?_
        exact pk_Mq (sp_trn_tr M1 i) (K (by rw [sp_any_succ, hJ, c_33]; rfl))
      · refine pk_aload_n dX6_firstOrderAlike_36 rfl ?_
        refine pk_getP dX6_firstOrderAlike_37 fl_X6_64 rfl (hWi.s rfl) (hWi.p rfl) ?_
        refine pk_Si dX6_firstOrderAlike_40 ml_X6_167 yw_X6_figuresOf ys_X6_figuresOf (e_X6_figuresOf (oo := sp_wo i) (hWi.s rfl) (fun j hj => sp_tr_in _ i j hj)) rfl rfl rfl rfl rfl rfl rfl ?_
        refine pk_reti dX6_firstOrderAlike_43 (by first | rfl | exact pk_nbi _) ?_
        refine ⟨?_, (hfr.mono (fun q h => Or.inl h)).tr (((sp_trn_fr M1 i).tr (pk_fr.wI rfl)).mono (fun q h => Or.inr h))⟩
        rw [sp_fO, sp_any_true hi c_33, if_pos rfl, sp_fst_eq hi hJ c_33]
  · intro hJ
    have hWi := (sp_trn_fr M1 120).wf hW
    have hAi := (sp_trn_fr M1 120).at (p := 6) (fun q h1 h2 => by omega) hA
    refine pk_iload_n dX6_firstOrderAlike_21 rfl ?_
    refine pk_bipush (v := nI 120) dX6_firstOrderAlike_22 (by decide) ?_
    first | refine pk_geN (tgt := 50) dX6_firstOrderAlike_24 (by decide) (by omega) (by omega) (fun c_24 => ?_) (fun c_24 => ?_) | refine pk_icmp_ge (tgt := 50) dX6_firstOrderAlike_24 (by decide) (fun c_24 => ?_) (fun c_24 => ?_)
    · refine pk_aload_n dX6_firstOrderAlike_50 rfl ?_
      refine pk_getP dX6_firstOrderAlike_51 fl_X6_10 rfl (hWi.s rfl) (hWi.p rfl) ?_
      refine pk_getP dX6_firstOrderAlike_54 fl_X6_164 rfl (hWi.s rfl) (hWi.p rfl) ?_
      refine pk_Si dX6_firstOrderAlike_57 ml_X6_167 yw_X6_figuresOf ys_X6_figuresOf (e_X6_figuresOf (hWi.s rfl) hAi.2.2.2.2.2.1) rfl rfl rfl rfl rfl rfl rfl ?_
      refine pk_reti dX6_firstOrderAlike_60 (by first | rfl | exact pk_nbi _) ?_
      refine ⟨?_, (hfr.mono (fun q h => Or.inl h)).tr ((sp_trn_fr M1 120).mono (fun q h => Or.inr h))⟩
      rw [sp_fO, hJ]
      rfl
    · omega

def sp_oddsF (A : pk_St) (c : Nat) : Nat → Nat := sp_fold (fun f x => if (f &&& (31 - sp_inks A) == 0) && !sp_lg f (sp_sets A) then x + sp_pow c (sp_bits f) * sp_pow (10 - c) (sp_bits (sp_inks A) - sp_bits f) else x) 0
theorem sp_sub_bits : ∀ a, a < 32 → ∀ b, b < 32 → a &&& (31 - b) = 0 → sp_bits a ≤ sp_bits b := by decide +kernel

set_option maxRecDepth 100000 in
set_option maxHeartbeats 4000000 in
theorem e_X6_gaplessOdds {Γ : pk_T} {M : pk_M} {L : Nat} {A : pk_St} (hN : pk_now L M A) {c : Nat} (hc : c ≤ 10) : pk_E Γ yX6_gaplessOdds cX6_gaplessOdds 7 (some .int) 4 0 0 M [.ref 5, .int (nI c)] (fun r M' => r = some (.int (nI (sp_oddsF A c 32))) ∧ M' = M) := by
  obtain ⟨hW, hA, hok⟩ := hN
  refine pk_meth (own := RX6) (ini := false) [some (.ref 5), some (.int (nI c)), none, none, none, none, none] (by decide +kernel) rfl (by decide +kernel) rfl rfl ?_
  have hI := sp_inks_lt hok 48 (by omega)
  change sp_inks A < 32 at hI
  have hD := sp_sets_lt hok 48 (by omega)
  change sp_sets A < 2 ^ 32 at hD
  have hb5 := sp_bits_le (sp_inks A)
  refine pk_aload_n dX6_gaplessOdds_0 rfl ?_
  refine pk_getP dX6_gaplessOdds_1 fl_X6_10 rfl (hW.s rfl) (hW.p rfl) ?_
  refine pk_Vi dX6_gaplessOdds_4 ml_X6_193 yw_X4_inksDrawn yv_X4_inksDrawn (hW.s rfl) (e_X4_inksDrawn (p := 6) hW rfl hA hok) rfl rfl rfl rfl rfl rfl rfl ?_
  refine pk_istore_n dX6_gaplessOdds_7 rfl rfl ?_
  refine pk_aload_n dX6_gaplessOdds_8 rfl ?_
  refine pk_getP dX6_gaplessOdds_9 fl_X6_10 rfl (hW.s rfl) (hW.p rfl) ?_
  refine pk_Vi dX6_gaplessOdds_12 ml_X6_313 yw_X4_setsDrawn yv_X4_setsDrawn (hW.s rfl) (e_X4_setsDrawn (p := 6) hW rfl hA hok) rfl rfl rfl rfl rfl rfl rfl ?_
  refine pk_istore_n dX6_gaplessOdds_15 rfl rfl ?_
  refine pk_iconst (v := nI 0) dX6_gaplessOdds_16 (by decide) ?_
  refine pk_istore dX6_gaplessOdds_17 rfl rfl ?_
  refine pk_iconst (v := nI 0) dX6_gaplessOdds_19 (by decide) ?_
  refine pk_istore dX6_gaplessOdds_20 rfl rfl ?_
  refine pk_fgt (ls' := [some (.ref 5), some (.int (nI c)), some (.int (nI (sp_inks A))), some (.int (nI (sp_sets A))), some (.int (nI (sp_oddsF A c 0))), some (.int (nI 0)), none]) (by repeat first | exact trivial | refine ⟨rfl, ?_⟩) ?_
  refine pk_for 32 (fun _ => M) (fun f => [some (.ref 5), some (.int (nI c)), some (.int (nI (sp_inks A))), some (.int (nI (sp_sets A))), some (.int (nI (sp_oddsF A c f))), some (.int (nI f)), none]) ?_ ?_ 0 (by omega)
  · intro f hf K
    have h3 := pk_and_lt (b := 31 - sp_inks A) hf
    have h4 := sp_bits_le f
    have e1 : sp_oddsF A c (f + 1) = if (f &&& (31 - sp_inks A) == 0) && !sp_lg f (sp_sets A) then sp_oddsF A c f + sp_pow c (sp_bits f) * sp_pow (10 - c) (sp_bits (sp_inks A) - sp_bits f) else sp_oddsF A c f := rfl
    refine pk_iload dX6_gaplessOdds_22 rfl ?_
    refine pk_bipush (v := nI 32) dX6_gaplessOdds_24 (by decide) ?_
    first | refine pk_geN (tgt := 86) dX6_gaplessOdds_26 (by decide) (by omega) (by omega) (fun c_26 => ?_) (fun c_26 => ?_) | refine pk_icmp_ge (tgt := 86) dX6_gaplessOdds_26 (by decide) (fun c_26 => ?_) (fun c_26 => ?_)
    · omega
    · refine pk_iload dX6_gaplessOdds_29 rfl ?_
      refine pk_iload_n dX6_gaplessOdds_31 rfl ?_
      refine pk_iconst (v := -1) dX6_gaplessOdds_32 (by decide) ?_
      refine pk_ixor dX6_gaplessOdds_33 ?_
      refine pk_iand dX6_gaplessOdds_34 ?_
      rw [pk_dif f hf _ hI]
      first | refine pk_neb (tgt := 80) dX6_gaplessOdds_35 (by decide) (fun c_35 => ?_) (fun c_35 => ?_) | refine pk_ne0N (tgt := 80) dX6_gaplessOdds_35 (by decide) (by omega) (fun c_35 => ?_) (fun c_35 => ?_) | refine pk_if_ne (tgt := 80) dX6_gaplessOdds_35 (by decide) (fun c_35 => ?_) (fun c_35 => ?_)
      · first | refine pk_inc1 dX6_gaplessOdds_80 rfl rfl ?_ | refine pk_iinc dX6_gaplessOdds_80 rfl rfl rfl ?_
        refine pk_goto (tgt := 22) dX6_gaplessOdds_83 (by decide) ?_
        refine pk_fgt (ls' := _) ?_ K
        rw [e1]
        by_cases h : ((f &&& (31 - sp_inks A) == 0) && !sp_lg f (sp_sets A)) = true
        · rw [if_pos h]
          first | exact ⟨rfl, rfl, rfl, rfl, rfl, rfl, trivial⟩ | (exfalso; simp [c_35, c_44] at h; done) | (exfalso; simp [c_35] at h; done)
        · rw [if_neg h]
          first | exact ⟨rfl, rfl, rfl, rfl, rfl, rfl, trivial⟩ | (exfalso; simp [c_35, c_44] at h; done)
      · refine pk_iload dX6_gaplessOdds_38 rfl ?_
        refine pk_iload_n dX6_gaplessOdds_40 rfl ?_
        refine pk_Si dX6_gaplessOdds_41 ml_X6_360 yw_X6_leavesGap ys_X6_leavesGap (e_X6_leavesGap (by omega) (by omega)) rfl rfl rfl rfl rfl rfl rfl ?_
        first | refine pk_neb (tgt := 80) dX6_gaplessOdds_44 (by decide) (fun c_44 => ?_) (fun c_44 => ?_) | refine pk_ne0N (tgt := 80) dX6_gaplessOdds_44 (by decide) (by omega) (fun c_44 => ?_) (fun c_44 => ?_) | refine pk_if_ne (tgt := 80) dX6_gaplessOdds_44 (by decide) (fun c_44 => ?_) (fun c_44 => ?_)
        · first | refine pk_inc1 dX6_gaplessOdds_80 rfl rfl ?_ | refine pk_iinc dX6_gaplessOdds_80 rfl rfl rfl ?_
          refine pk_goto (tgt := 22) dX6_gaplessOdds_83 (by decide) ?_
          refine pk_fgt (ls' := _) ?_ K
          rw [e1]
          by_cases h : ((f &&& (31 - sp_inks A) == 0) && !sp_lg f (sp_sets A)) = true
          · rw [if_pos h]
            first | exact ⟨rfl, rfl, rfl, rfl, rfl, rfl, trivial⟩ | (exfalso; simp [c_35, c_44] at h; done) | (exfalso; simp [c_35] at h; done)
          · rw [if_neg h]
            first | exact ⟨rfl, rfl, rfl, rfl, rfl, rfl, trivial⟩ | (exfalso; simp [c_35, c_44] at h; done)
        · have h5 := sp_sub_bits f hf _ hI c_35
          refine pk_iload dX6_gaplessOdds_47 rfl ?_
          refine pk_Si dX6_gaplessOdds_49 ml_X6_244 yw_J6_bitCount_0f7a4 ys_J6_bitCount_0f7a4 (e_J6_bitCount_0f7a4 (by omega)) rfl rfl rfl rfl rfl rfl rfl ?_
          refine pk_istore dX6_gaplessOdds_52 rfl rfl ?_
          refine pk_iload dX6_gaplessOdds_54 rfl ?_
          refine pk_iload_n dX6_gaplessOdds_56 rfl ?_
          refine pk_iload dX6_gaplessOdds_57 rfl ?_
          refine pk_Si dX6_gaplessOdds_59 ml_X6_249 yw_X6_power ys_X6_power (e_X6_power _ _ (by omega)) rfl rfl rfl rfl rfl rfl rfl ?_
          refine pk_bipush (v := nI 10) dX6_gaplessOdds_62 (by decide) ?_
          refine pk_iload_n dX6_gaplessOdds_64 rfl ?_
          first | refine pk_subN dX6_gaplessOdds_65 (by omega) ?_ | refine pk_isub dX6_gaplessOdds_65 ?_
          refine pk_iload_n dX6_gaplessOdds_66 rfl ?_
          refine pk_Si dX6_gaplessOdds_67 ml_X6_244 yw_J6_bitCount_0f7a4 ys_J6_bitCount_0f7a4 (e_J6_bitCount_0f7a4 (by omega)) rfl rfl rfl rfl rfl rfl rfl ?_
          refine pk_iload dX6_gaplessOdds_70 rfl ?_
          first | refine pk_subN dX6_gaplessOdds_72 (by omega) ?_ | refine pk_isub dX6_gaplessOdds_72 ?_
          refine pk_Si dX6_gaplessOdds_73 ml_X6_249 yw_X6_power ys_X6_power (e_X6_power _ _ (by omega)) rfl rfl rfl rfl rfl rfl rfl ?_
          first | refine pk_mulN dX6_gaplessOdds_76 ?_ | refine pk_imul dX6_gaplessOdds_76 ?_
          first | refine pk_addN dX6_gaplessOdds_77 ?_ | refine pk_iadd dX6_gaplessOdds_77 ?_
          refine pk_istore dX6_gaplessOdds_78 rfl rfl ?_
          first | refine pk_inc1 dX6_gaplessOdds_80 rfl rfl ?_ | refine pk_iinc dX6_gaplessOdds_80 rfl rfl rfl ?_
          refine pk_goto (tgt := 22) dX6_gaplessOdds_83 (by decide) ?_
          refine pk_fgt (ls' := _) ?_ K
          rw [e1]
          by_cases h : ((f &&& (31 - sp_inks A) == 0) && !sp_lg f (sp_sets A)) = true
          · rw [if_pos h]
            first | exact ⟨rfl, rfl, rfl, rfl, rfl, rfl, trivial⟩ | (exfalso; simp [c_35, c_44] at h; done) | (exfalso; simp [c_35] at h; done)
          · rw [if_neg h]
            first | exact ⟨rfl, rfl, rfl, rfl, rfl, rfl, trivial⟩ | (exfalso; simp [c_35, c_44] at h; done)
  · refine pk_iload dX6_gaplessOdds_22 rfl ?_
    refine pk_bipush (v := nI 32) dX6_gaplessOdds_24 (by decide) ?_
    first | refine pk_geN (tgt := 86) dX6_gaplessOdds_26 (by decide) (by omega) (by omega) (fun c_26 => ?_) (fun c_26 => ?_) | refine pk_icmp_ge (tgt := 86) dX6_gaplessOdds_26 (by decide) (fun c_26 => ?_) (fun c_26 => ?_)
    · refine pk_iload dX6_gaplessOdds_86 rfl ?_
      refine pk_reti dX6_gaplessOdds_88 (by first | rfl | exact pk_nbi _) ?_
      exact ⟨rfl, rfl⟩
    · omega
