/-! Calls that change the memory by what a relation tells; the methods of Looks. -/
section PkR
variable {Γ : pk_T} {κ : pk_K} {cc : ByteArray} {M : pk_M} {ls : List (Option Value)} {st : List Value} {pc cu su : Nat}

theorem pk_Vvr {y : MethodName} {cc' : ByteArray} {nL' : Nat} {ret' : Option FieldType} {n d' idx b ci : Nat} {As rest : List Value} {Ψ : pk_M → Prop} (hd : decode cc pc = .ok (.invokevirtual idx, 3)) (hM : pk_ML κ.1 idx y) (hY : pk_YW y cc' nL' ret' n) (hs : Cond.instanceMethod y ∈ pk_tbl ∧ Cond.selects (pk_cls ci) y y ∈ pk_tbl ∧ ci < 8) (hb : pk_S M b = some (.inr ci)) (hE : pk_E Γ y cc' nL' ret' d' 0 0 M (.ref b :: As) (fun r M' => r = none ∧ Ψ M')) (hst : st = As.reverse ++ .ref b :: rest) (hn : As.length = n)
    (h1 : Nat.ble (d' + 1) κ.2.2.2.2.1.frames = true) (h2 : Nat.ble (40 * (d' + 1)) κ.2.2.2.2.1.locals = true) (h3 : Nat.ble cu κ.2.2.2.2.1.cells = true) (h4 : Nat.ble su κ.2.2.2.2.1.slots = true) (h5 : Nat.ble ((rest.map fun v => v.category).sum) 8 = true)
    (k : ∀ M', Ψ M' → pk_G Γ κ cc M' ls rest (pc + 3) cu su) : pk_G Γ κ cc M ls st pc cu su :=
  pk_callV hd hM hY hs hb hE hst hn h1 h2 h3 h4 h5 (fun v M' h => by obtain ⟨rfl, h⟩ := h; exact k M' h)
theorem pk_Svr {y : MethodName} {cc' : ByteArray} {nL' : Nat} {ret' : Option FieldType} {n d' idx : Nat} {As rest : List Value} {Ψ : pk_M → Prop} (hd : decode cc pc = .ok (.invokestatic idx, 3)) (hM : pk_ML κ.1 idx y) (hY : pk_YW y cc' nL' ret' n) (hs : Cond.static y ∈ pk_tbl) (hE : pk_E Γ y cc' nL' ret' d' 0 0 M As (fun r M' => r = none ∧ Ψ M')) (hst : st = As.reverse ++ rest) (hn : As.length = n)
    (h1 : Nat.ble (d' + 1) κ.2.2.2.2.1.frames = true) (h2 : Nat.ble (40 * (d' + 1)) κ.2.2.2.2.1.locals = true) (h3 : Nat.ble cu κ.2.2.2.2.1.cells = true) (h4 : Nat.ble su κ.2.2.2.2.1.slots = true) (h5 : Nat.ble ((rest.map fun v => v.category).sum) 8 = true)
    (k : ∀ M', Ψ M' → pk_G Γ κ cc M' ls rest (pc + 3) cu su) : pk_G Γ κ cc M ls st pc cu su :=
  pk_callS hd hM hY hs hE hst hn h1 h2 h3 h4 h5 (fun v M' h => by obtain ⟨rfl, h⟩ := h; exact k M' h)
theorem pk_Vir {y : MethodName} {cc' : ByteArray} {nL' : Nat} {ret' : Option FieldType} {n d' idx b ci : Nat} {As rest : List Value} {x : Int32} {Ψ : pk_M → Prop} (hd : decode cc pc = .ok (.invokevirtual idx, 3)) (hM : pk_ML κ.1 idx y) (hY : pk_YW y cc' nL' ret' n) (hs : Cond.instanceMethod y ∈ pk_tbl ∧ Cond.selects (pk_cls ci) y y ∈ pk_tbl ∧ ci < 8) (hb : pk_S M b = some (.inr ci)) (hE : pk_E Γ y cc' nL' ret' d' 0 0 M (.ref b :: As) (fun r M' => r = some (.int x) ∧ Ψ M')) (hst : st = As.reverse ++ .ref b :: rest) (hn : As.length = n)
    (h1 : Nat.ble (d' + 1) κ.2.2.2.2.1.frames = true) (h2 : Nat.ble (40 * (d' + 1)) κ.2.2.2.2.1.locals = true) (h3 : Nat.ble cu κ.2.2.2.2.1.cells = true) (h4 : Nat.ble su κ.2.2.2.2.1.slots = true) (h5 : Nat.ble ((rest.map fun v => v.category).sum) 8 = true)
    (k : ∀ M', Ψ M' → pk_G Γ κ cc M' ls (.int x :: rest) (pc + 3) cu su) : pk_G Γ κ cc M ls st pc cu su :=
  pk_callV hd hM hY hs hb hE hst hn h1 h2 h3 h4 h5 (fun v M' h => by obtain ⟨rfl, h⟩ := h; exact k M' h)
theorem pk_Sir {y : MethodName} {cc' : ByteArray} {nL' : Nat} {ret' : Option FieldType} {n d' idx : Nat} {As rest : List Value} {x : Int32} {Ψ : pk_M → Prop} (hd : decode cc pc = .ok (.invokestatic idx, 3)) (hM : pk_ML κ.1 idx y) (hY : pk_YW y cc' nL' ret' n) (hs : Cond.static y ∈ pk_tbl) (hE : pk_E Γ y cc' nL' ret' d' 0 0 M As (fun r M' => r = some (.int x) ∧ Ψ M')) (hst : st = As.reverse ++ rest) (hn : As.length = n)
    (h1 : Nat.ble (d' + 1) κ.2.2.2.2.1.frames = true) (h2 : Nat.ble (40 * (d' + 1)) κ.2.2.2.2.1.locals = true) (h3 : Nat.ble cu κ.2.2.2.2.1.cells = true) (h4 : Nat.ble su κ.2.2.2.2.1.slots = true) (h5 : Nat.ble ((rest.map fun v => v.category).sum) 8 = true)
    (k : ∀ M', Ψ M' → pk_G Γ κ cc M' ls (.int x :: rest) (pc + 3) cu su) : pk_G Γ κ cc M ls st pc cu su :=
  pk_callS hd hM hY hs hE hst hn h1 h2 h3 h4 h5 (fun v M' h => by obtain ⟨rfl, h⟩ := h; exact k M' h)
end PkR
def sp_lookA (A : pk_St) (t : Nat) : Nat := sp_look (sp_k A) (sp_t A) (sp_o A) t
theorem sp_lookA_lt (A : pk_St) (t : Nat) : sp_lookA A t < 4096 := sp_look_lt _ _ _ t
def sp_fig (oo : Nat → Nat) : Nat := sp_fold (fun k x => x * 10 + oo k) 0 5
/-- what holds in the object of the program: its state is A -/
def pk_now (L : Nat) (M : pk_M) (A : pk_St) : Prop := pk_WF L M ∧ pk_At M 6 A ∧ pk_okS A
theorem pk_fr.now {D : Nat → Prop} {L : Nat} {M M1 : pk_M} {A : pk_St} (h : pk_fr D M M1) (hD : ∀ q, 6 ≤ q → q ≤ 10 → ¬ D q) (hN : pk_now L M A) : pk_now L M1 A := ⟨h.wf hN.1, h.at (fun q h1 h2 => hD q h1 h2) hN.2.1, hN.2.2⟩
def sp_any (f : Nat → Bool) : Nat → Bool
  | 0 => false
  | n + 1 => sp_any f n || f n
theorem sp_any_succ (f : Nat → Bool) (n : Nat) : sp_any f (n + 1) = (sp_any f n || f n) := rfl
theorem sp_any_true {f : Nat → Bool} {n j : Nat} (hj : j < n) (h : f j = true) : sp_any f n = true := by
  induction n with
  | zero => omega
  | succ n ih =>
    rw [sp_any_succ]
    by_cases e : j = n
    · subst e; rw [h, Bool.or_true]
    · rw [ih (by omega), Bool.true_or]
theorem sp_any_iff {f : Nat → Bool} {n : Nat} : sp_any f n = true ↔ ∃ j, j < n ∧ f j = true := by
  constructor
  · induction n with
    | zero => intro h; cases h
    | succ n ih =>
      intro h
      rw [sp_any_succ, Bool.or_eq_true] at h
      rcases h with h | h
      · obtain ⟨j, h1, h2⟩ := ih h
        exact ⟨j, by omega, h2⟩
      · exact ⟨n, by omega, h⟩
  · rintro ⟨j, h1, h2⟩
    exact sp_any_true h1 h2
def sp_all (f : Nat → Bool) (n : Nat) : Bool := !sp_any (fun j => !f j) n
theorem pk_dif : ∀ a, a < 32 → ∀ b, b < 32 → nI a &&& (nI b ^^^ -1) = nI (a &&& (31 - b)) := by decide +kernel
theorem pk_and_lt {a b n : Nat} (h : a < n) : a &&& b < n := Nat.lt_of_le_of_lt Nat.and_le_left h

set_option maxRecDepth 100000 in
set_option maxHeartbeats 4000000 in
theorem e_X6_lookNow {Γ : pk_T} {M : pk_M} {L : Nat} {A : pk_St} (hN : pk_now L M A) {t : Nat} (ht : t < 32) : pk_E Γ yX6_lookNow cX6_lookNow 2 (some .int) 3 0 0 M [.ref 5, .int (nI t)] (fun r M' => r = some (.int (nI (sp_lookA A t))) ∧ M' = M) := by
  obtain ⟨hW, hA, hok⟩ := hN
  refine pk_meth (own := RX6) (ini := false) [some (.ref 5), some (.int (nI t))] (by decide +kernel) rfl (by decide +kernel) rfl rfl ?_
  refine pk_aload_n dX6_lookNow_0 rfl ?_
  refine pk_getP dX6_lookNow_1 fl_X6_10 rfl (hW.s rfl) (hW.p rfl) ?_
  refine pk_getP dX6_lookNow_4 fl_X6_75 rfl (hW.s rfl) (hW.p rfl) ?_
  refine pk_aload_n dX6_lookNow_7 rfl ?_
  refine pk_getP dX6_lookNow_8 fl_X6_10 rfl (hW.s rfl) (hW.p rfl) ?_
  refine pk_getP dX6_lookNow_11 fl_X6_78 rfl (hW.s rfl) (hW.p rfl) ?_
  refine pk_aload_n dX6_lookNow_14 rfl ?_
  refine pk_getP dX6_lookNow_15 fl_X6_10 rfl (hW.s rfl) (hW.p rfl) ?_
  refine pk_getP dX6_lookNow_18 fl_X6_164 rfl (hW.s rfl) (hW.p rfl) ?_
  refine pk_iload_n dX6_lookNow_21 rfl ?_
  refine pk_Si dX6_lookNow_22 ml_X6_307 yw_X6_lookBy ys_X6_lookBy (e_X6_lookBy (hW.s rfl) (hW.s rfl) (hW.s rfl) hA.2.2.2.1 hA.2.2.2.2.1 hA.2.2.2.2.2.1 hok.2.2.2.1 hok.2.2.2.2.1 hok.2.2.2.2.2.1 (by omega)) rfl rfl rfl rfl rfl rfl rfl ?_
  refine pk_reti dX6_lookNow_25 (by first | rfl | exact pk_nbi _) ?_
  exact ⟨rfl, rfl⟩

set_option maxRecDepth 100000 in
set_option maxHeartbeats 4000000 in
theorem e_X6_figuresOf {Γ : pk_T} {M : pk_M} {c : Nat} {oo : Nat → Nat} (hc : pk_S M c = some (.inl (.int, 5))) (ho : ∀ i, i < 5 → pk_I M c i = nI (oo i)) : pk_E Γ yX6_figuresOf cX6_figuresOf 3 (some .int) 0 0 0 M [.ref c] (fun r M' => r = some (.int (nI (sp_fig oo))) ∧ M' = M) := by
  refine pk_meth (own := RX6) (ini := false) [some (.ref c), none, none] (by decide +kernel) rfl (by decide +kernel) rfl rfl ?_
  refine pk_iconst (v := nI 0) dX6_figuresOf_0 (by decide) ?_
  refine pk_istore_n dX6_figuresOf_1 rfl rfl ?_
  refine pk_iconst (v := nI 0) dX6_figuresOf_2 (by decide) ?_
  refine pk_istore_n dX6_figuresOf_3 rfl rfl ?_
  refine pk_for 5 (fun _ => M) (fun j => [some (.ref c), some (.int (nI (sp_fold (fun k x => x * 10 + oo k) 0 j))), some (.int (nI j))]) ?_ ?_ 0 (by omega)
  · intro j hj K
    refine pk_iload_n dX6_figuresOf_4 rfl ?_
    refine pk_iconst (v := nI 5) dX6_figuresOf_5 (by decide) ?_
    first | refine pk_geN (tgt := 24) dX6_figuresOf_6 (by decide) (by omega) (by omega) (fun c_6 => ?_) (fun c_6 => ?_) | refine pk_icmp_ge (tgt := 24) dX6_figuresOf_6 (by decide) (fun c_6 => ?_) (fun c_6 => ?_)
    · omega
    · refine pk_iload_n dX6_figuresOf_9 rfl ?_
      refine pk_bipush (v := nI 10) dX6_figuresOf_10 (by decide) ?_
      first | refine pk_mulN dX6_figuresOf_12 ?_ | refine pk_imul dX6_figuresOf_12 ?_
      refine pk_aload_n dX6_figuresOf_13 rfl ?_
      refine pk_iload_n dX6_figuresOf_14 rfl ?_
      refine pk_aldN dX6_figuresOf_15 hc (by omega) (by omega) (ho _ (by omega)) ?_
      first | refine pk_addN dX6_figuresOf_16 ?_ | refine pk_iadd dX6_figuresOf_16 ?_
      refine pk_istore_n dX6_figuresOf_17 rfl rfl ?_
      first | refine pk_inc1 dX6_figuresOf_18 rfl rfl ?_ | refine pk_iinc dX6_figuresOf_18 rfl rfl rfl ?_
      refine pk_goto (tgt := 4) dX6_figuresOf_21 (by decide) ?_
      exact K
  · refine pk_iload_n dX6_figuresOf_4 rfl ?_
    refine pk_iconst (v := nI 5) dX6_figuresOf_5 (by decide) ?_
    first | refine pk_geN (tgt := 24) dX6_figuresOf_6 (by decide) (by omega) (by omega) (fun c_6 => ?_) (fun c_6 => ?_) | refine pk_icmp_ge (tgt := 24) dX6_figuresOf_6 (by decide) (fun c_6 => ?_) (fun c_6 => ?_)
    · refine pk_iload_n dX6_figuresOf_24 rfl ?_
      refine pk_reti dX6_figuresOf_25 (by first | rfl | exact pk_nbi _) ?_
      exact ⟨rfl, rfl⟩
    · omega

set_option maxRecDepth 100000 in
set_option maxHeartbeats 4000000 in
theorem e_X1_find {Γ : pk_T} {M : pk_M} {L : Nat} {A : pk_St} (hN : pk_now L M A) : pk_E Γ yX1_find cX1_find 3 none 3 0 0 M [.ref 80, .ref 6] (fun r M' => r = none ∧ pk_fr (fun q => q = 81) M M' ∧ ∀ s, s < 32 → pk_I M' 81 s = nI (sp_lookA A s)) := by
  obtain ⟨hW, hA, hok⟩ := hN
  refine pk_meth (own := RX1) (ini := false) [some (.ref 80), some (.ref 6), none] (by decide +kernel) rfl (by decide +kernel) rfl rfl ?_
  refine pk_iconst (v := nI 0) dX1_find_0 (by decide) ?_
  refine pk_istore_n dX1_find_1 rfl rfl ?_
  have e0 : M = pk_wI M 81 (fun s => if s < 0 then nI (sp_lookA A s) else pk_I M 81 s) := (pk_wI_id M 81).symm.trans (by congr 1)
  refine pk_Mq e0 ?_
  refine pk_for 32 (fun j => pk_wI M 81 (fun s => if s < j then nI (sp_lookA A s) else pk_I M 81 s)) (fun j => [some (.ref 80), some (.ref 6), some (.int (nI j))]) ?_ ?_ 0 (by omega)
  · intro j hj K
    refine pk_iload_n dX1_find_2 rfl ?_
    refine pk_bipush (v := nI 32) dX1_find_3 (by decide) ?_
    first | refine pk_geN (tgt := 36) dX1_find_5 (by decide) (by omega) (by omega) (fun c_5 => ?_) (fun c_5 => ?_) | refine pk_icmp_ge (tgt := 36) dX1_find_5 (by decide) (fun c_5 => ?_) (fun c_5 => ?_)
    · omega
    · refine pk_aload_n dX1_find_8 rfl ?_
      refine pk_getP dX1_find_9 fl_X1_9 rfl (hW.s rfl) (hW.p rfl) ?_
      refine pk_iload_n dX1_find_12 rfl ?_
      refine pk_aload_n dX1_find_13 rfl ?_
      refine pk_getP dX1_find_14 fl_X1_15 rfl (hW.s rfl) (hW.p rfl) ?_
      refine pk_aload_n dX1_find_17 rfl ?_
      refine pk_getP dX1_find_18 fl_X1_20 rfl (hW.s rfl) (hW.p rfl) ?_
      refine pk_aload_n dX1_find_21 rfl ?_
      refine pk_getP dX1_find_22 fl_X1_23 rfl (hW.s rfl) (hW.p rfl) ?_
      refine pk_iload_n dX1_find_25 rfl ?_
      refine pk_Si dX1_find_26 ml_X1_26 yw_X6_lookBy ys_X6_lookBy (e_X6_lookBy (M := pk_wI M 81 (fun s => if s < j then nI (sp_lookA A s) else pk_I M 81 s)) (hW.s rfl) (hW.s rfl) (hW.s rfl) (fun i hi => pk_gW0 (by omega) (hA.2.2.2.1 i hi)) (fun i hi => pk_gW0 (by omega) (hA.2.2.2.2.1 i hi)) (fun i hi => pk_gW0 (by omega) (hA.2.2.2.2.2.1 i hi)) hok.2.2.2.1 hok.2.2.2.2.1 hok.2.2.2.2.2.1 (by omega)) rfl rfl rfl rfl rfl rfl rfl ?_
      refine pk_astN dX1_find_29 (hW.s rfl) (by omega) (by omega) (by omega) ?_
      first | refine pk_inc1 dX1_find_30 rfl rfl ?_ | refine pk_iinc dX1_find_30 rfl rfl rfl ?_
      refine pk_goto (tgt := 2) dX1_find_33 (by decide) ?_
      rw [pk_wI_sI]
      refine pk_Mq ?_ K
      congr 1
      funext s
      by_cases h : s = j
      · subst h
        rw [if_pos rfl, if_pos (by omega)]
        rfl
      · rw [if_neg h]
        by_cases h2 : s < j
        · rw [if_pos h2, if_pos (by omega)]
        · rw [if_neg h2, if_neg (by omega)]
  · refine pk_iload_n dX1_find_2 rfl ?_
    refine pk_bipush (v := nI 32) dX1_find_3 (by decide) ?_
    first | refine pk_geN (tgt := 36) dX1_find_5 (by decide) (by omega) (by omega) (fun c_5 => ?_) (fun c_5 => ?_) | refine pk_icmp_ge (tgt := 36) dX1_find_5 (by decide) (fun c_5 => ?_) (fun c_5 => ?_)
    · refine pk_retv dX1_find_36 ?_
      exact ⟨rfl, pk_fr.wI rfl, fun s hs => pk_gW1 rfl (by rw [if_pos hs])⟩
    · omega

set_option maxRecDepth 100000 in
set_option maxHeartbeats 4000000 in
theorem e_X1_darkOfSet {Γ : pk_T} {M : pk_M} {L : Nat} {lk : Nat → Nat} (hW : pk_WF L M) (hl : ∀ s, s < 32 → pk_I M 81 s = nI (lk s)) (hlt : ∀ s, lk s < 4096) {t : Nat} (ht : t < 32) : pk_E Γ yX1_darkOfSet cX1_darkOfSet 2 (some .int) 1 0 0 M [.ref 80, .int (nI t)] (fun r M' => r = some (.int (nI (sp_dark (lk t)))) ∧ M' = M) := by
  refine pk_meth (own := RX1) (ini := false) [some (.ref 80), some (.int (nI t))] (by decide +kernel) rfl (by decide +kernel) rfl rfl ?_
  have h1 := hlt t
  refine pk_iload_n dX1_darkOfSet_0 rfl ?_
  refine pk_bipush (v := nI 32) dX1_darkOfSet_1 (by decide) ?_
  refine pk_Si dX1_darkOfSet_3 ml_X1_30 yw_X6_isBelow ys_X6_isBelow (e_X6_isBelow _ _) rfl rfl rfl rfl rfl rfl rfl ?_
  first | refine pk_eqb (tgt := 21) dX1_darkOfSet_6 (by decide) (fun c_6 => ?_) (fun c_6 => ?_) | refine pk_eq0N (tgt := 21) dX1_darkOfSet_6 (by decide) (by omega) (fun c_6 => ?_) (fun c_6 => ?_) | refine pk_if_eq (tgt := 21) dX1_darkOfSet_6 (by decide) (fun c_6 => ?_) (fun c_6 => ?_)
  · exfalso; simp [nI_pos' (show t < 2 ^ 31 by omega), nI_ltI (show t < 2 ^ 31 by omega) (show 32 < 2 ^ 31 by decide)] at c_6; omega
  · refine pk_aload_n dX1_darkOfSet_9 rfl ?_
    refine pk_getP dX1_darkOfSet_10 fl_X1_9 rfl (hW.s rfl) (hW.p rfl) ?_
    refine pk_iload_n dX1_darkOfSet_13 rfl ?_
    refine pk_aldN dX1_darkOfSet_14 (hW.s rfl) (by omega) (by omega) (hl _ (by omega)) ?_
    refine pk_Si dX1_darkOfSet_15 ml_X1_34 yw_X6_darkOf ys_X6_darkOf (e_X6_darkOf _ (by omega)) rfl rfl rfl rfl rfl rfl rfl ?_
    refine pk_goto (tgt := 22) dX1_darkOfSet_18 (by decide) ?_
    refine pk_reti dX1_darkOfSet_22 (by first | rfl | exact pk_nbi _) ?_
    exact ⟨rfl, rfl⟩

set_option maxRecDepth 100000 in
set_option maxHeartbeats 4000000 in
theorem e_X1_alikeTo {Γ : pk_T} {M : pk_M} {L : Nat} {lk : Nat → Nat} (hW : pk_WF L M) (hl : ∀ s, s < 32 → pk_I M 81 s = nI (lk s)) (hlt : ∀ s, lk s < 4096) {t : Nat} (ht : t < 32) : pk_E Γ yX1_alikeTo cX1_alikeTo 4 (some .int) 1 0 0 M [.ref 80, .int (nI t)] (fun r M' => r = some (.int (nI (sp_c (fun o => lk o == lk t) 32))) ∧ M' = M) := by
  refine pk_meth (own := RX1) (ini := false) [some (.ref 80), some (.int (nI t)), none, none] (by decide +kernel) rfl (by decide +kernel) rfl rfl ?_
  refine pk_iconst (v := nI 0) dX1_alikeTo_0 (by decide) ?_
  refine pk_istore_n dX1_alikeTo_1 rfl rfl ?_
  refine pk_iconst (v := nI 0) dX1_alikeTo_2 (by decide) ?_
  refine pk_istore_n dX1_alikeTo_3 rfl rfl ?_
  refine pk_for 32 (fun _ => M) (fun j => [some (.ref 80), some (.int (nI t)), some (.int (nI (sp_c (fun o => lk o == lk t) j))), some (.int (nI j))]) ?_ ?_ 0 (by omega)
  · intro j hj K
    have h1 := hlt t
    have h2 := hlt j
    refine pk_iload_n dX1_alikeTo_4 rfl ?_
    refine pk_bipush (v := nI 32) dX1_alikeTo_5 (by decide) ?_
    first | refine pk_geN (tgt := 43) dX1_alikeTo_7 (by decide) (by omega) (by omega) (fun c_7 => ?_) (fun c_7 => ?_) | refine pk_icmp_ge (tgt := 43) dX1_alikeTo_7 (by decide) (fun c_7 => ?_) (fun c_7 => ?_)
    · omega
    · refine pk_iload_n dX1_alikeTo_10 rfl ?_
      refine pk_bipush (v := nI 32) dX1_alikeTo_11 (by decide) ?_
      refine pk_Si dX1_alikeTo_13 ml_X1_30 yw_X6_isBelow ys_X6_isBelow (e_X6_isBelow _ _) rfl rfl rfl rfl rfl rfl rfl ?_
      first | refine pk_eqb (tgt := 37) dX1_alikeTo_16 (by decide) (fun c_16 => ?_) (fun c_16 => ?_) | refine pk_eq0N (tgt := 37) dX1_alikeTo_16 (by decide) (by omega) (fun c_16 => ?_) (fun c_16 => ?_) | refine pk_if_eq (tgt := 37) dX1_alikeTo_16 (by decide) (fun c_16 => ?_) (fun c_16 => ?_)
      · exfalso; simp [nI_pos' (show t < 2 ^ 31 by omega), nI_ltI (show t < 2 ^ 31 by omega) (show 32 < 2 ^ 31 by decide)] at c_16; omega
      · refine pk_aload_n dX1_alikeTo_19 rfl ?_
        refine pk_getP dX1_alikeTo_20 fl_X1_9 rfl (hW.s rfl) (hW.p rfl) ?_
        refine pk_iload_n dX1_alikeTo_23 rfl ?_
        refine pk_aldN dX1_alikeTo_24 (hW.s rfl) (by omega) (by omega) (hl _ (by omega)) ?_
        refine pk_aload_n dX1_alikeTo_25 rfl ?_
        refine pk_getP dX1_alikeTo_26 fl_X1_9 rfl (hW.s rfl) (hW.p rfl) ?_
        refine pk_iload_n dX1_alikeTo_29 rfl ?_
        refine pk_aldN dX1_alikeTo_30 (hW.s rfl) (by omega) (by omega) (hl _ (by omega)) ?_
        first | refine pk_neN (tgt := 37) dX1_alikeTo_31 (by decide) (by omega) (by omega) (fun c_31 => ?_) (fun c_31 => ?_) | refine pk_icmp_ne (tgt := 37) dX1_alikeTo_31 (by decide) (fun c_31 => ?_) (fun c_31 => ?_)
        · first | refine pk_inc1 dX1_alikeTo_37 rfl rfl ?_ | refine pk_iinc dX1_alikeTo_37 rfl rfl rfl ?_
          refine pk_goto (tgt := 4) dX1_alikeTo_40 (by decide) ?_
          refine pk_lsq ?_ K
          simp only [sp_c_succ, beq_iff_eq, c_31]
          rfl
        · first | refine pk_inc1 dX1_alikeTo_34 rfl rfl ?_ | refine pk_iinc dX1_alikeTo_34 rfl rfl rfl ?_
          first | refine pk_inc1 dX1_alikeTo_37 rfl rfl ?_ | refine pk_iinc dX1_alikeTo_37 rfl rfl rfl ?_
          refine pk_goto (tgt := 4) dX1_alikeTo_40 (by decide) ?_
          refine pk_lsq ?_ K
          simp only [sp_c_succ, beq_iff_eq, c_31]
          rfl
  · refine pk_iload_n dX1_alikeTo_4 rfl ?_
    refine pk_bipush (v := nI 32) dX1_alikeTo_5 (by decide) ?_
    first | refine pk_geN (tgt := 43) dX1_alikeTo_7 (by decide) (by omega) (by omega) (fun c_7 => ?_) (fun c_7 => ?_) | refine pk_icmp_ge (tgt := 43) dX1_alikeTo_7 (by decide) (fun c_7 => ?_) (fun c_7 => ?_)
    · refine pk_iload_n dX1_alikeTo_43 rfl ?_
      refine pk_reti dX1_alikeTo_44 (by first | rfl | exact pk_nbi _) ?_
      exact ⟨rfl, rfl⟩
    · omega

set_option maxRecDepth 100000 in
set_option maxHeartbeats 4000000 in
theorem e_X1_isDrawnBelow {Γ : pk_T} {M : pk_M} {L : Nat} {lk : Nat → Nat} (hW : pk_WF L M) (hl : ∀ s, s < 32 → pk_I M 81 s = nI (lk s)) (hlt : ∀ s, lk s < 4096) {t D : Nat} (ht : t < 32) (hD : D < 2 ^ 32) : pk_E Γ yX1_isDrawnBelow cX1_isDrawnBelow 4 (some .boolean) 1 0 0 M [.ref 80, .int (nI t), .int (nI D)] (fun r M' => r = some (.int (pk_bi (sp_any (fun o => D.testBit o && (lk o == lk t)) t))) ∧ M' = M) := by
  refine pk_meth (own := RX1) (ini := false) [some (.ref 80), some (.int (nI t)), some (.int (nI D)), none] (by decide +kernel) rfl (by decide +kernel) rfl rfl ?_
  refine pk_iconst (v := nI 0) dX1_isDrawnBelow_0 (by decide) ?_
  refine pk_istore_n dX1_isDrawnBelow_1 rfl rfl ?_
  refine pk_forJ t (fun j => sp_any (fun o => D.testBit o && (lk o == lk t)) j = false) (fun _ => M) (fun j => [some (.ref 80), some (.int (nI t)), some (.int (nI D)), some (.int (nI j))]) ?_ ?_ 0 (by omega) rfl
  · intro j hj hJ K
    have h1 := hlt t
    have h2 := hlt j
    refine pk_iload_n dX1_isDrawnBelow_2 rfl ?_
    refine pk_iload_n dX1_isDrawnBelow_3 rfl ?_
    first | refine pk_geN (tgt := 44) dX1_isDrawnBelow_4 (by decide) (by omega) (by omega) (fun c_4 => ?_) (fun c_4 => ?_) | refine pk_icmp_ge (tgt := 44) dX1_isDrawnBelow_4 (by decide) (fun c_4 => ?_) (fun c_4 => ?_)
    · omega
    · refine pk_iload_n dX1_isDrawnBelow_7 rfl ?_
      refine pk_bipush (v := nI 32) dX1_isDrawnBelow_8 (by decide) ?_
      first | refine pk_geN (tgt := 44) dX1_isDrawnBelow_10 (by decide) (by omega) (by omega) (fun c_10 => ?_) (fun c_10 => ?_) | refine pk_icmp_ge (tgt := 44) dX1_isDrawnBelow_10 (by decide) (fun c_10 => ?_) (fun c_10 => ?_)
      · omega
      · refine pk_iload_n dX1_isDrawnBelow_13 rfl ?_
        refine pk_iload_n dX1_isDrawnBelow_14 rfl ?_
        refine pk_Si dX1_isDrawnBelow_15 ml_X1_38 yw_X6_hasBit ys_X6_hasBit (e_X6_hasBit _ _ (by omega) (by omega)) rfl rfl rfl rfl rfl rfl rfl ?_
        first | refine pk_eqb (tgt := 38) dX1_isDrawnBelow_18 (by decide) (fun c_18 => ?_) (fun c_18 => ?_) | refine pk_eq0N (tgt := 38) dX1_isDrawnBelow_18 (by decide) (by omega) (fun c_18 => ?_) (fun c_18 => ?_) | refine pk_if_eq (tgt := 38) dX1_isDrawnBelow_18 (by decide) (fun c_18 => ?_) (fun c_18 => ?_)
        · first | refine pk_inc1 dX1_isDrawnBelow_38 rfl rfl ?_ | refine pk_iinc dX1_isDrawnBelow_38 rfl rfl rfl ?_
          refine pk_goto (tgt := 2) dX1_isDrawnBelow_41 (by decide) ?_
          exact K (by rw [sp_any_succ, hJ]; first | simp [c_18, c_33] | simp [c_18])
        · refine pk_aload_n dX1_isDrawnBelow_21 rfl ?_
          refine pk_getP dX1_isDrawnBelow_22 fl_X1_9 rfl (hW.s rfl) (hW.p rfl) ?_
          refine pk_iload_n dX1_isDrawnBelow_25 rfl ?_
          refine pk_aldN dX1_isDrawnBelow_26 (hW.s rfl) (by omega) (by omega) (hl _ (by omega)) ?_
          refine pk_aload_n dX1_isDrawnBelow_27 rfl ?_
          refine pk_getP dX1_isDrawnBelow_28 fl_X1_9 rfl (hW.s rfl) (hW.p rfl) ?_
          refine pk_iload_n dX1_isDrawnBelow_31 rfl ?_
          refine pk_aldN dX1_isDrawnBelow_32 (hW.s rfl) (by omega) (by omega) (hl _ (by omega)) ?_
          first | refine pk_neN (tgt := 38) dX1_isDrawnBelow_33 (by decide) (by omega) (by omega) (fun c_33 => ?_) (fun c_33 => ?_) | refine pk_icmp_ne (tgt := 38) dX1_isDrawnBelow_33 (by decide) (fun c_33 => ?_) (fun c_33 => ?_)
          · first | refine pk_inc1 dX1_isDrawnBelow_38 rfl rfl ?_ | refine pk_iinc dX1_isDrawnBelow_38 rfl rfl rfl ?_
            refine pk_goto (tgt := 2) dX1_isDrawnBelow_41 (by decide) ?_
            exact K (by rw [sp_any_succ, hJ]; first | simp [c_18, c_33] | simp [c_18])
          · refine pk_iconst (v := nI 1) dX1_isDrawnBelow_36 (by decide) ?_
            refine pk_reti dX1_isDrawnBelow_37 (by first | rfl | exact pk_nbi _) ?_
            refine ⟨?_, rfl⟩
            rw [sp_any_true hj (by simp [c_18, c_33])]
            rfl
  · intro hJ
    refine pk_iload_n dX1_isDrawnBelow_2 rfl ?_
    refine pk_iload_n dX1_isDrawnBelow_3 rfl ?_
    first | refine pk_geN (tgt := 44) dX1_isDrawnBelow_4 (by decide) (by omega) (by omega) (fun c_4 => ?_) (fun c_4 => ?_) | refine pk_icmp_ge (tgt := 44) dX1_isDrawnBelow_4 (by decide) (fun c_4 => ?_) (fun c_4 => ?_)
    · refine pk_iconst (v := nI 0) dX1_isDrawnBelow_44 (by decide) ?_
      refine pk_reti dX1_isDrawnBelow_45 (by first | rfl | exact pk_nbi _) ?_
      refine ⟨?_, rfl⟩
      rw [hJ]
      rfl
    · omega

set_option maxRecDepth 100000 in
set_option maxHeartbeats 4000000 in
theorem e_X1_unlikeOf {Γ : pk_T} {M : pk_M} {L : Nat} {lk : Nat → Nat} (hW : pk_WF L M) (hl : ∀ s, s < 32 → pk_I M 81 s = nI (lk s)) (hlt : ∀ s, lk s < 4096) {D : Nat} (hD : D < 2 ^ 32) : pk_E Γ yX1_unlikeOf cX1_unlikeOf 4 (some .int) 2 0 0 M [.ref 80, .int (nI D)] (fun r M' => r = some (.int (nI (sp_c (fun s => D.testBit s && !sp_any (fun o => D.testBit o && (lk o == lk s)) s) 32))) ∧ M' = M) := by
  refine pk_meth (own := RX1) (ini := false) [some (.ref 80), some (.int (nI D)), none, none] (by decide +kernel) rfl (by decide +kernel) rfl rfl ?_
  refine pk_iconst (v := nI 0) dX1_unlikeOf_0 (by decide) ?_
  refine pk_istore_n dX1_unlikeOf_1 rfl rfl ?_
  refine pk_iconst (v := nI 0) dX1_unlikeOf_2 (by decide) ?_
  refine pk_istore_n dX1_unlikeOf_3 rfl rfl ?_
  refine pk_for 32 (fun _ => M) (fun j => [some (.ref 80), some (.int (nI D)), some (.int (nI (sp_c (fun s => D.testBit s && !sp_any (fun o => D.testBit o && (lk o == lk s)) s) j))), some (.int (nI j))]) ?_ ?_ 0 (by omega)
  · intro j hj K
    refine pk_iload_n dX1_unlikeOf_4 rfl ?_
    refine pk_bipush (v := nI 32) dX1_unlikeOf_5 (by decide) ?_
    first | refine pk_geN (tgt := 36) dX1_unlikeOf_7 (by decide) (by omega) (by omega) (fun c_7 => ?_) (fun c_7 => ?_) | refine pk_icmp_ge (tgt := 36) dX1_unlikeOf_7 (by decide) (fun c_7 => ?_) (fun c_7 => ?_)
    · omega
    · refine pk_iload_n dX1_unlikeOf_10 rfl ?_
      refine pk_iload_n dX1_unlikeOf_11 rfl ?_
      refine pk_Si dX1_unlikeOf_12 ml_X1_38 yw_X6_hasBit ys_X6_hasBit (e_X6_hasBit _ _ (by omega) (by omega)) rfl rfl rfl rfl rfl rfl rfl ?_
      first | refine pk_eqb (tgt := 30) dX1_unlikeOf_15 (by decide) (fun c_15 => ?_) (fun c_15 => ?_) | refine pk_eq0N (tgt := 30) dX1_unlikeOf_15 (by decide) (by omega) (fun c_15 => ?_) (fun c_15 => ?_) | refine pk_if_eq (tgt := 30) dX1_unlikeOf_15 (by decide) (fun c_15 => ?_) (fun c_15 => ?_)
      · first | refine pk_inc1 dX1_unlikeOf_30 rfl rfl ?_ | refine pk_iinc dX1_unlikeOf_30 rfl rfl rfl ?_
        refine pk_goto (tgt := 4) dX1_unlikeOf_33 (by decide) ?_
        refine pk_lsq ?_ K
        first | (simp only [sp_c_succ, c_15, c_24, Bool.not_true, Bool.not_false, Bool.true_and, Bool.false_and]; rfl) | (simp only [sp_c_succ, c_15, Bool.false_and]; rfl)
      · refine pk_aload_n dX1_unlikeOf_18 rfl ?_
        refine pk_iload_n dX1_unlikeOf_19 rfl ?_
        refine pk_iload_n dX1_unlikeOf_20 rfl ?_
        refine pk_Vi dX1_unlikeOf_21 ml_X1_41 yw_X1_isDrawnBelow yv_X1_isDrawnBelow (hW.s rfl) (e_X1_isDrawnBelow hW hl hlt (by omega) (by omega)) rfl rfl rfl rfl rfl rfl rfl ?_
        first | refine pk_neb (tgt := 30) dX1_unlikeOf_24 (by decide) (fun c_24 => ?_) (fun c_24 => ?_) | refine pk_ne0N (tgt := 30) dX1_unlikeOf_24 (by decide) (by omega) (fun c_24 => ?_) (fun c_24 => ?_) | refine pk_if_ne (tgt := 30) dX1_unlikeOf_24 (by decide) (fun c_24 => ?_) (fun c_24 => ?_)
        · first | refine pk_inc1 dX1_unlikeOf_30 rfl rfl ?_ | refine pk_iinc dX1_unlikeOf_30 rfl rfl rfl ?_
          refine pk_goto (tgt := 4) dX1_unlikeOf_33 (by decide) ?_
          refine pk_lsq ?_ K
          first | (simp only [sp_c_succ, c_15, c_24, Bool.not_true, Bool.not_false, Bool.true_and, Bool.false_and]; rfl) | (simp only [sp_c_succ, c_15, Bool.false_and]; rfl)
        · first | refine pk_inc1 dX1_unlikeOf_27 rfl rfl ?_ | refine pk_iinc dX1_unlikeOf_27 rfl rfl rfl ?_
          first | refine pk_inc1 dX1_unlikeOf_30 rfl rfl ?_ | refine pk_iinc dX1_unlikeOf_30 rfl rfl rfl ?_
          refine pk_goto (tgt := 4) dX1_unlikeOf_33 (by decide) ?_
          refine pk_lsq ?_ K
          first | (simp only [sp_c_succ, c_15, c_24, Bool.not_true, Bool.not_false, Bool.true_and, Bool.false_and]; rfl) | (simp only [sp_c_succ, c_15, Bool.false_and]; rfl)
  · refine pk_iload_n dX1_unlikeOf_4 rfl ?_
    refine pk_bipush (v := nI 32) dX1_unlikeOf_5 (by decide) ?_
    first | refine pk_geN (tgt := 36) dX1_unlikeOf_7 (by decide) (by omega) (by omega) (fun c_7 => ?_) (fun c_7 => ?_) | refine pk_icmp_ge (tgt := 36) dX1_unlikeOf_7 (by decide) (fun c_7 => ?_) (fun c_7 => ?_)
    · refine pk_iload_n dX1_unlikeOf_36 rfl ?_
      refine pk_reti dX1_unlikeOf_37 (by first | rfl | exact pk_nbi _) ?_
      exact ⟨rfl, rfl⟩
    · omega

def sp_can (lk : Nat → Nat) (a l : Nat) : Bool := sp_any (fun s => (s &&& (31 - a) == 0) && (lk s == l)) 32

set_option maxRecDepth 100000 in
set_option maxHeartbeats 4000000 in
theorem e_X1_canPrint {Γ : pk_T} {M : pk_M} {L : Nat} {lk : Nat → Nat} (hW : pk_WF L M) (hl : ∀ s, s < 32 → pk_I M 81 s = nI (lk s)) (hlt : ∀ s, lk s < 4096) {a l : Nat} (ha : a < 32) (hl2 : l < 4096) : pk_E Γ yX1_canPrint cX1_canPrint 4 (some .boolean) 1 0 0 M [.ref 80, .int (nI a), .int (nI l)] (fun r M' => r = some (.int (pk_bi (sp_can lk a l))) ∧ M' = M) := by
  refine pk_meth (own := RX1) (ini := false) [some (.ref 80), some (.int (nI a)), some (.int (nI l)), none] (by decide +kernel) rfl (by decide +kernel) rfl rfl ?_
  refine pk_iconst (v := nI 0) dX1_canPrint_0 (by decide) ?_
  refine pk_istore_n dX1_canPrint_1 rfl rfl ?_
  refine pk_forJ 32 (fun j => sp_any (fun s => (s &&& (31 - a) == 0) && (lk s == l)) j = false) (fun _ => M) (fun j => [some (.ref 80), some (.int (nI a)), some (.int (nI l)), some (.int (nI j))]) ?_ ?_ 0 (by omega) rfl
  · intro j hj hJ K
    have h2 := hlt j
    have h3 := pk_and_lt (b := 31 - a) hj
    refine pk_iload_n dX1_canPrint_2 rfl ?_
    refine pk_bipush (v := nI 32) dX1_canPrint_3 (by decide) ?_
    first | refine pk_geN (tgt := 34) dX1_canPrint_5 (by decide) (by omega) (by omega) (fun c_5 => ?_) (fun c_5 => ?_) | refine pk_icmp_ge (tgt := 34) dX1_canPrint_5 (by decide) (fun c_5 => ?_) (fun c_5 => ?_)
    · omega
    · refine pk_iload_n dX1_canPrint_8 rfl ?_
      refine pk_iload_n dX1_canPrint_9 rfl ?_
      refine pk_iconst (v := -1) dX1_canPrint_10 (by decide) ?_
      refine pk_ixor dX1_canPrint_11 ?_
      refine pk_iand dX1_canPrint_12 ?_
      rw [pk_dif j hj a ha]
      first | refine pk_neb (tgt := 28) dX1_canPrint_13 (by decide) (fun c_13 => ?_) (fun c_13 => ?_) | refine pk_ne0N (tgt := 28) dX1_canPrint_13 (by decide) (by omega) (fun c_13 => ?_) (fun c_13 => ?_) | refine pk_if_ne (tgt := 28) dX1_canPrint_13 (by decide) (fun c_13 => ?_) (fun c_13 => ?_)
      · first | refine pk_inc1 dX1_canPrint_28 rfl rfl ?_ | refine pk_iinc dX1_canPrint_28 rfl rfl rfl ?_
        refine pk_goto (tgt := 2) dX1_canPrint_31 (by decide) ?_
        exact K (by rw [sp_any_succ, hJ]; first | simp [c_13, c_23] | simp [c_13])
      · refine pk_aload_n dX1_canPrint_16 rfl ?_
        refine pk_getP dX1_canPrint_17 fl_X1_9 rfl (hW.s rfl) (hW.p rfl) ?_
        refine pk_iload_n dX1_canPrint_20 rfl ?_
        refine pk_aldN dX1_canPrint_21 (hW.s rfl) (by omega) (by omega) (hl _ (by omega)) ?_
        refine pk_iload_n dX1_canPrint_22 rfl ?_
        first | refine pk_neN (tgt := 28) dX1_canPrint_23 (by decide) (by omega) (by omega) (fun c_23 => ?_) (fun c_23 => ?_) | refine pk_icmp_ne (tgt := 28) dX1_canPrint_23 (by decide) (fun c_23 => ?_) (fun c_23 => ?_)
        · first | refine pk_inc1 dX1_canPrint_28 rfl rfl ?_ | refine pk_iinc dX1_canPrint_28 rfl rfl rfl ?_
          refine pk_goto (tgt := 2) dX1_canPrint_31 (by decide) ?_
          exact K (by rw [sp_any_succ, hJ]; first | simp [c_13, c_23] | simp [c_13])
        · refine pk_iconst (v := nI 1) dX1_canPrint_26 (by decide) ?_
          refine pk_reti dX1_canPrint_27 (by first | rfl | exact pk_nbi _) ?_
          refine ⟨?_, rfl⟩
          rw [sp_can, sp_any_true hj (by simp [c_13, c_23])]
          rfl
  · intro hJ
    refine pk_iload_n dX1_canPrint_2 rfl ?_
    refine pk_bipush (v := nI 32) dX1_canPrint_3 (by decide) ?_
    first | refine pk_geN (tgt := 34) dX1_canPrint_5 (by decide) (by omega) (by omega) (fun c_5 => ?_) (fun c_5 => ?_) | refine pk_icmp_ge (tgt := 34) dX1_canPrint_5 (by decide) (fun c_5 => ?_) (fun c_5 => ?_)
    · refine pk_iconst (v := nI 0) dX1_canPrint_34 (by decide) ?_
      refine pk_reti dX1_canPrint_35 (by first | rfl | exact pk_nbi _) ?_
      refine ⟨?_, rfl⟩
      rw [sp_can, hJ]
      rfl
    · omega

def sp_canAll (lk : Nat → Nat) (a D : Nat) : Bool := !sp_any (fun s => D.testBit s && !sp_can lk a (lk s)) 32

set_option maxRecDepth 100000 in
set_option maxHeartbeats 4000000 in
theorem e_X1_canPrintAll {Γ : pk_T} {M : pk_M} {L : Nat} {lk : Nat → Nat} (hW : pk_WF L M) (hl : ∀ s, s < 32 → pk_I M 81 s = nI (lk s)) (hlt : ∀ s, lk s < 4096) {a D : Nat} (ha : a < 32) (hD : D < 2 ^ 32) : pk_E Γ yX1_canPrintAll cX1_canPrintAll 4 (some .boolean) 2 0 0 M [.ref 80, .int (nI a), .int (nI D)] (fun r M' => r = some (.int (pk_bi (sp_canAll lk a D))) ∧ M' = M) := by
  refine pk_meth (own := RX1) (ini := false) [some (.ref 80), some (.int (nI a)), some (.int (nI D)), none] (by decide +kernel) rfl (by decide +kernel) rfl rfl ?_
  refine pk_iconst (v := nI 0) dX1_canPrintAll_0 (by decide) ?_
  refine pk_istore_n dX1_canPrintAll_1 rfl rfl ?_
  refine pk_forJ 32 (fun j => sp_any (fun s => D.testBit s && !sp_can lk a (lk s)) j = false) (fun _ => M) (fun j => [some (.ref 80), some (.int (nI a)), some (.int (nI D)), some (.int (nI j))]) ?_ ?_ 0 (by omega) rfl
  · intro j hj hJ K
    have h2 := hlt j
    refine pk_iload_n dX1_canPrintAll_2 rfl ?_
    refine pk_bipush (v := nI 32) dX1_canPrintAll_3 (by decide) ?_
    first | refine pk_geN (tgt := 38) dX1_canPrintAll_5 (by decide) (by omega) (by omega) (fun c_5 => ?_) (fun c_5 => ?_) | refine pk_icmp_ge (tgt := 38) dX1_canPrintAll_5 (by decide) (fun c_5 => ?_) (fun c_5 => ?_)
    · omega
    · refine pk_iload_n dX1_canPrintAll_8 rfl ?_
      refine pk_iload_n dX1_canPrintAll_9 rfl ?_
      refine pk_Si dX1_canPrintAll_10 ml_X1_38 yw_X6_hasBit ys_X6_hasBit (e_X6_hasBit _ _ (by omega) (by omega)) rfl rfl rfl rfl rfl rfl rfl ?_
      first | refine pk_eqb (tgt := 32) dX1_canPrintAll_13 (by decide) (fun c_13 => ?_) (fun c_13 => ?_) | refine pk_eq0N (tgt := 32) dX1_canPrintAll_13 (by decide) (by omega) (fun c_13 => ?_) (fun c_13 => ?_) | refine pk_if_eq (tgt := 32) dX1_canPrintAll_13 (by decide) (fun c_13 => ?_) (fun c_13 => ?_)
      · first | refine pk_inc1 dX1_canPrintAll_32 rfl rfl ?_ | refine pk_iinc dX1_canPrintAll_32 rfl rfl rfl ?_
        refine pk_goto (tgt := 2) dX1_canPrintAll_35 (by decide) ?_
        exact K (by rw [sp_any_succ, hJ]; first | simp [c_13, c_27] | simp [c_13])
      · refine pk_aload_n dX1_canPrintAll_16 rfl ?_
        refine pk_iload_n dX1_canPrintAll_17 rfl ?_
        refine pk_aload_n dX1_canPrintAll_18 rfl ?_
        refine pk_getP dX1_canPrintAll_19 fl_X1_9 rfl (hW.s rfl) (hW.p rfl) ?_
        refine pk_iload_n dX1_canPrintAll_22 rfl ?_
        refine pk_aldN dX1_canPrintAll_23 (hW.s rfl) (by omega) (by omega) (hl _ (by omega)) ?_
        refine pk_Vi dX1_canPrintAll_24 ml_X1_52 yw_X1_canPrint yv_X1_canPrint (hW.s rfl) (e_X1_canPrint hW hl hlt (by omega) (by omega)) rfl rfl rfl rfl rfl rfl rfl ?_
        first | refine pk_neb (tgt := 32) dX1_canPrintAll_27 (by decide) (fun c_27 => ?_) (fun c_27 => ?_) | refine pk_ne0N (tgt := 32) dX1_canPrintAll_27 (by decide) (by omega) (fun c_27 => ?_) (fun c_27 => ?_) | refine pk_if_ne (tgt := 32) dX1_canPrintAll_27 (by decide) (fun c_27 => ?_) (fun c_27 => ?_)
        · first | refine pk_inc1 dX1_canPrintAll_32 rfl rfl ?_ | refine pk_iinc dX1_canPrintAll_32 rfl rfl rfl ?_
          refine pk_goto (tgt := 2) dX1_canPrintAll_35 (by decide) ?_
          exact K (by rw [sp_any_succ, hJ]; first | simp [c_13, c_27] | simp [c_13])
        · refine pk_iconst (v := nI 0) dX1_canPrintAll_30 (by decide) ?_
          refine pk_reti dX1_canPrintAll_31 (by first | rfl | exact pk_nbi _) ?_
          refine ⟨?_, rfl⟩
          rw [sp_canAll, sp_any_true hj (by simp [c_13, c_27])]
          rfl
  · intro hJ
    refine pk_iload_n dX1_canPrintAll_2 rfl ?_
    refine pk_bipush (v := nI 32) dX1_canPrintAll_3 (by decide) ?_
    first | refine pk_geN (tgt := 38) dX1_canPrintAll_5 (by decide) (by omega) (by omega) (fun c_5 => ?_) (fun c_5 => ?_) | refine pk_icmp_ge (tgt := 38) dX1_canPrintAll_5 (by decide) (fun c_5 => ?_) (fun c_5 => ?_)
    · refine pk_iconst (v := nI 1) dX1_canPrintAll_38 (by decide) ?_
      refine pk_reti dX1_canPrintAll_39 (by first | rfl | exact pk_nbi _) ?_
      refine ⟨?_, rfl⟩
      rw [sp_canAll, hJ]
      rfl
    · omega

def sp_fewF (lk : Nat → Nat) (D : Nat) : Nat → Nat := sp_fold (fun i x => if decide (sp_bits i < sp_bits x) && sp_canAll lk i D then i else x) 31
theorem sp_fewF_lt (lk : Nat → Nat) (D n : Nat) (hn : n ≤ 32) : sp_fewF lk D n < 32 := by
  induction n with
  | zero => show 31 < 32; decide
  | succ n ih =>
    show (if decide (sp_bits n < sp_bits (sp_fewF lk D n)) && sp_canAll lk n D then n else sp_fewF lk D n) < 32
    split
    · omega
    · exact ih (by omega)
theorem sp_bits_le (x : Nat) : sp_bits x ≤ 5 := sp_c_le _ 5

set_option maxRecDepth 100000 in
set_option maxHeartbeats 4000000 in
theorem e_X1_fewestFor {Γ : pk_T} {M : pk_M} {L : Nat} {lk : Nat → Nat} (hW : pk_WF L M) (hl : ∀ s, s < 32 → pk_I M 81 s = nI (lk s)) (hlt : ∀ s, lk s < 4096) {D : Nat} (hD : D < 2 ^ 32) : pk_E Γ yX1_fewestFor cX1_fewestFor 4 (some .int) 3 0 0 M [.ref 80, .int (nI D)] (fun r M' => r = some (.int (nI (sp_fewF lk D 32))) ∧ M' = M) := by
  refine pk_meth (own := RX1) (ini := false) [some (.ref 80), some (.int (nI D)), none, none] (by decide +kernel) rfl (by decide +kernel) rfl rfl ?_
  refine pk_bipush (v := nI 31) dX1_fewestFor_0 (by decide) ?_
  refine pk_istore_n dX1_fewestFor_2 rfl rfl ?_
  refine pk_iconst (v := nI 0) dX1_fewestFor_3 (by decide) ?_
  refine pk_istore_n dX1_fewestFor_4 rfl rfl ?_
  refine pk_for 32 (fun _ => M) (fun j => [some (.ref 80), some (.int (nI D)), some (.int (nI (sp_fewF lk D j))), some (.int (nI j))]) ?_ ?_ 0 (by omega)
  · intro j hj K
    have h1 := sp_fewF_lt lk D j (by omega)
    have h2 := sp_bits_le j
    have h3 := sp_bits_le (sp_fewF lk D j)
    have e1 : sp_fewF lk D (j + 1) = if decide (sp_bits j < sp_bits (sp_fewF lk D j)) && sp_canAll lk j D then j else sp_fewF lk D j := rfl
    refine pk_iload_n dX1_fewestFor_5 rfl ?_
    refine pk_bipush (v := nI 32) dX1_fewestFor_6 (by decide) ?_
    first | refine pk_geN (tgt := 39) dX1_fewestFor_8 (by decide) (by omega) (by omega) (fun c_8 => ?_) (fun c_8 => ?_) | refine pk_icmp_ge (tgt := 39) dX1_fewestFor_8 (by decide) (fun c_8 => ?_) (fun c_8 => ?_)
    · omega
    · refine pk_iload_n dX1_fewestFor_11 rfl ?_
      refine pk_Si dX1_fewestFor_12 ml_X1_44 yw_J6_bitCount_0f7a4 ys_J6_bitCount_0f7a4 (e_J6_bitCount_0f7a4 (by omega)) rfl rfl rfl rfl rfl rfl rfl ?_
      refine pk_iload_n dX1_fewestFor_15 rfl ?_
      refine pk_Si dX1_fewestFor_16 ml_X1_44 yw_J6_bitCount_0f7a4 ys_J6_bitCount_0f7a4 (e_J6_bitCount_0f7a4 (by omega)) rfl rfl rfl rfl rfl rfl rfl ?_
      first | refine pk_geN (tgt := 33) dX1_fewestFor_19 (by decide) (by omega) (by omega) (fun c_19 => ?_) (fun c_19 => ?_) | refine pk_icmp_ge (tgt := 33) dX1_fewestFor_19 (by decide) (fun c_19 => ?_) (fun c_19 => ?_)
      · first | refine pk_inc1 dX1_fewestFor_33 rfl rfl ?_ | refine pk_iinc dX1_fewestFor_33 rfl rfl rfl ?_
        refine pk_goto (tgt := 5) dX1_fewestFor_36 (by decide) ?_
        refine pk_lsq ?_ K
        rw [e1]
        first | (rw [c_28, decide_eq_true c_19]; rfl) | (rw [decide_eq_false (Nat.not_lt.mpr c_19)]; rfl)
      · refine pk_aload_n dX1_fewestFor_22 rfl ?_
        refine pk_iload_n dX1_fewestFor_23 rfl ?_
        refine pk_iload_n dX1_fewestFor_24 rfl ?_
        refine pk_Vi dX1_fewestFor_25 ml_X1_49 yw_X1_canPrintAll yv_X1_canPrintAll (hW.s rfl) (e_X1_canPrintAll hW hl hlt (by omega) (by omega)) rfl rfl rfl rfl rfl rfl rfl ?_
        first | refine pk_eqb (tgt := 33) dX1_fewestFor_28 (by decide) (fun c_28 => ?_) (fun c_28 => ?_) | refine pk_eq0N (tgt := 33) dX1_fewestFor_28 (by decide) (by omega) (fun c_28 => ?_) (fun c_28 => ?_) | refine pk_if_eq (tgt := 33) dX1_fewestFor_28 (by decide) (fun c_28 => ?_) (fun c_28 => ?_)
        · first | refine pk_inc1 dX1_fewestFor_33 rfl rfl ?_ | refine pk_iinc dX1_fewestFor_33 rfl rfl rfl ?_
          refine pk_goto (tgt := 5) dX1_fewestFor_36 (by decide) ?_
          refine pk_lsq ?_ K
          rw [e1]
          first | (rw [c_28, decide_eq_true c_19]; rfl) | (rw [decide_eq_false (Nat.not_lt.mpr c_19)]; rfl)
        · refine pk_iload_n dX1_fewestFor_31 rfl ?_
          refine pk_istore_n dX1_fewestFor_32 rfl rfl ?_
          first | refine pk_inc1 dX1_fewestFor_33 rfl rfl ?_ | refine pk_iinc dX1_fewestFor_33 rfl rfl rfl ?_
          refine pk_goto (tgt := 5) dX1_fewestFor_36 (by decide) ?_
          refine pk_lsq ?_ K
          rw [e1]
          first | (rw [c_28, decide_eq_true c_19]; rfl) | (rw [decide_eq_false (Nat.not_lt.mpr c_19)]; rfl)
  · refine pk_iload_n dX1_fewestFor_5 rfl ?_
    refine pk_bipush (v := nI 32) dX1_fewestFor_6 (by decide) ?_
    first | refine pk_geN (tgt := 39) dX1_fewestFor_8 (by decide) (by omega) (by omega) (fun c_8 => ?_) (fun c_8 => ?_) | refine pk_icmp_ge (tgt := 39) dX1_fewestFor_8 (by decide) (fun c_8 => ?_) (fun c_8 => ?_)
    · refine pk_iload_n dX1_fewestFor_39 rfl ?_
      refine pk_reti dX1_fewestFor_40 (by first | rfl | exact pk_nbi _) ?_
      exact ⟨rfl, rfl⟩
    · omega
