/-! Numbers; the static methods that need no memory. -/
theorem pk_nand (a b : Nat) : nI a &&& nI b = nI (a &&& b) := by
  apply Int32.toBitVec_inj.1
  show BitVec.ofNat 32 a &&& BitVec.ofNat 32 b = BitVec.ofNat 32 (a &&& b)
  apply BitVec.eq_of_getLsbD_eq
  intro i hi
  simp [hi]
theorem pk_nor (a b : Nat) : nI a ||| nI b = nI (a ||| b) := by
  apply Int32.toBitVec_inj.1
  show BitVec.ofNat 32 a ||| BitVec.ofNat 32 b = BitVec.ofNat 32 (a ||| b)
  apply BitVec.eq_of_getLsbD_eq
  intro i hi
  simp [hi]
theorem pk_sh31 : ∀ i, i < 32 → ((nI i &&& 31).toBitVec.smod 32).toNat = i := by decide +kernel
theorem pk_nshr {a i : Nat} (ha : a < 2 ^ 31) (hi : i < 32) : nI a >>> (nI i &&& 31) = nI (a / 2 ^ i) := pk_shrN ha _ i (pk_sh31 i hi)
theorem pk_nshl1 {i : Nat} (hi : i < 32) : nI 1 <<< (nI i &&& 31) = nI (2 ^ i) := by
  have h : (2 : Nat) ^ i < 2 ^ 32 := Nat.pow_lt_pow_right (by decide) hi
  rw [pk_shlN (nI i &&& 31) i (pk_sh31 i (by omega)) (by omega), Nat.one_mul]
theorem pk_sw1 {x : Int32} (h : x < 0) : x.toInt < 0 := by
  have := Int32.lt_iff_toInt_lt.mp h
  simpa using this
theorem pk_sw2 {x : Int32} {n : Nat} (hn : n + 1 < 2 ^ 31) (h : nI (n + 1) ≤ x) : (n : Int) < x.toInt := by
  have := Int32.le_iff_toInt_le.mp h
  rw [nI_toInt hn] at this
  omega
section PkX
variable {Γ : pk_T} {κ : pk_K} {cc : ByteArray} {M : pk_M} {ls : List (Option Value)} {st : List Value} {pc cu su : Nat}
theorem pk_andNN {a b : Nat} (hd : decode cc pc = .ok (.iand, 1)) (k : pk_G Γ κ cc M ls (.int (nI (a &&& b)) :: st) (pc + 1) cu su) : pk_G Γ κ cc M ls (.int (nI b) :: .int (nI a) :: st) pc cu su :=
  pk_iand hd (by rw [pk_nand]; exact k)
theorem pk_orNN {a b : Nat} (hd : decode cc pc = .ok (.ior, 1)) (k : pk_G Γ κ cc M ls (.int (nI (a ||| b)) :: st) (pc + 1) cu su) : pk_G Γ κ cc M ls (.int (nI b) :: .int (nI a) :: st) pc cu su :=
  pk_ior hd (by rw [pk_nor]; exact k)
theorem pk_shrNN {a i : Nat} (hd : decode cc pc = .ok (.ishr, 1)) (ha : a < 2 ^ 31) (hi : i < 32) (k : pk_G Γ κ cc M ls (.int (nI (a / 2 ^ i)) :: st) (pc + 1) cu su) : pk_G Γ κ cc M ls (.int (nI i) :: .int (nI a) :: st) pc cu su :=
  pk_ishr hd (by rw [pk_nshr ha hi]; exact k)
theorem pk_shlNN {i : Nat} (hd : decode cc pc = .ok (.ishl, 1)) (hi : i < 32) (k : pk_G Γ κ cc M ls (.int (nI (2 ^ i)) :: st) (pc + 1) cu su) : pk_G Γ κ cc M ls (.int (nI i) :: .int (nI 1) :: st) pc cu su :=
  pk_ishl hd (by rw [pk_nshl1 hi]; exact k)
theorem pk_ldcw {idx : Nat} {v : Int32} (hd : decode cc pc = .ok (.ldc_w idx, 3)) (hw : Cond.constant κ.1 idx v ∈ pk_tbl) (k : pk_G Γ κ cc M ls (.int v :: st) (pc + 3) cu su) : pk_G Γ κ cc M ls st pc cu su := by
  intro p e s m below meth c H locs arr C hz hR hS hL
  exact lv_ldcw C.1 C.2.1 C.2.2.2.2.2.1 (C.2.2.2.2.2.2.2.1 _ hw) hd (k p e s m below meth c H locs arr C hz hR hS hL)
end PkX

set_option maxRecDepth 100000 in
set_option maxHeartbeats 4000000 in
theorem e_X6_isBelow {Γ : pk_T} {M : pk_M} (v b : Int32) : pk_E Γ yX6_isBelow cX6_isBelow 2 (some .boolean) 0 0 0 M [.int v, .int b] (fun r M' => r = some (.int (pk_bi (decide (0 ≤ v) && decide (v < b)))) ∧ M' = M) := by
  refine pk_meth (own := RX6) (ini := false) [some (.int v), some (.int b)] (by decide +kernel) rfl (by decide +kernel) rfl rfl ?_
  refine pk_iload_n dX6_isBelow_0 rfl ?_
  refine pk_if_lt (tgt := 13) dX6_isBelow_1 (by decide) (fun c_1 => ?_) (fun c_1 => ?_)
  · refine pk_iconst (v := nI 0) dX6_isBelow_13 (by decide) ?_
    refine pk_reti dX6_isBelow_14 (by first | rfl | exact pk_nbi _) ?_
    refine ⟨?_, rfl⟩
    first | (simp [pk_bi, Int32.not_le.mpr c_1]; rfl) | (simp [pk_bi, Int32.not_lt.mpr c_6]; rfl) | (simp [pk_bi, Int32.not_lt.mp c_1, Int32.not_le.mp c_6]; rfl)
  · refine pk_iload_n dX6_isBelow_4 rfl ?_
    refine pk_iload_n dX6_isBelow_5 rfl ?_
    first | refine pk_geN (tgt := 13) dX6_isBelow_6 (by decide) (by omega) (by omega) (fun c_6 => ?_) (fun c_6 => ?_) | refine pk_icmp_ge (tgt := 13) dX6_isBelow_6 (by decide) (fun c_6 => ?_) (fun c_6 => ?_)
    · refine pk_iconst (v := nI 0) dX6_isBelow_13 (by decide) ?_
      refine pk_reti dX6_isBelow_14 (by first | rfl | exact pk_nbi _) ?_
      refine ⟨?_, rfl⟩
      first | (simp [pk_bi, Int32.not_le.mpr c_1]; rfl) | (simp [pk_bi, Int32.not_lt.mpr c_6]; rfl) | (simp [pk_bi, Int32.not_lt.mp c_1, Int32.not_le.mp c_6]; rfl)
    · refine pk_iconst (v := nI 1) dX6_isBelow_9 (by decide) ?_
      refine pk_goto (tgt := 14) dX6_isBelow_10 (by decide) ?_
      refine pk_reti dX6_isBelow_14 (by first | rfl | exact pk_nbi _) ?_
      refine ⟨?_, rfl⟩
      first | (simp [pk_bi, Int32.not_le.mpr c_1]; rfl) | (simp [pk_bi, Int32.not_lt.mpr c_6]; rfl) | (simp [pk_bi, Int32.not_lt.mp c_1, Int32.not_le.mp c_6]; rfl)

theorem pk_tb1 (b i : Nat) : decide (b / 2 ^ i % 2 = 1) = b.testBit i := by
  simp only [Nat.testBit, Nat.shiftRight_eq_div_pow, Nat.one_and_eq_mod_two]
  rcases Nat.mod_two_eq_zero_or_one (b / 2 ^ i) with h | h <;> rw [h] <;> rfl

theorem pk_hb {b i : Nat} (hb : b < 2 ^ 32) (hi : i < 32) : (nI b >>> (nI i &&& 31)) &&& nI 1 = pk_bi (b.testBit i) := by
  apply Int32.toBitVec_inj.1
  have e : (nI b >>> (nI i &&& 31)).toBitVec = (BitVec.ofNat 32 b).sshiftRight i := by
    rw [Int32.toBitVec_shiftRight]
    show (nI b).toBitVec.sshiftRight' _ = _
    rw [BitVec.sshiftRight', pk_sh31 i hi]
    rfl
  rw [Int32.toBitVec_and, e]
  apply BitVec.eq_of_getLsbD_eq
  intro j hj
  by_cases h0 : j = 0
  · subst h0
    have e3 : (BitVec.ofNat 32 b).getLsbD i = b.testBit i := by rw [BitVec.getLsbD_ofNat]; simp only [hi, decide_true, Bool.true_and]
    have e4 : (nI 1).toBitVec.getLsbD 0 = true := by decide
    rw [BitVec.getLsbD_and, BitVec.getLsbD_sshiftRight, e4, Nat.add_zero, if_pos hi, e3]
    cases b.testBit i <;> decide
  · have e1 : (nI 1).toBitVec.getLsbD j = false := by
      show (BitVec.ofNat 32 1).getLsbD j = false
      rw [BitVec.getLsbD_ofNat]
      cases j with
      | zero => exact absurd rfl h0
      | succ k => simp [Nat.testBit_succ]
    have e2 : (pk_bi (b.testBit i)).toBitVec.getLsbD j = false := by
      cases b.testBit i
      · simp [pk_bi]
      · exact e1
    rw [BitVec.getLsbD_and, e1, e2, Bool.and_false]

set_option maxRecDepth 100000 in
set_option maxHeartbeats 4000000 in
theorem e_X6_hasBit {Γ : pk_T} {M : pk_M} (b i : Nat) (hb : b < 2 ^ 32) (hi : i < 32) : pk_E Γ yX6_hasBit cX6_hasBit 2 (some .boolean) 0 0 0 M [.int (nI b), .int (nI i)] (fun r M' => r = some (.int (pk_bi (b.testBit i))) ∧ M' = M) := by
  refine pk_meth (own := RX6) (ini := false) [some (.int (nI b)), some (.int (nI i))] (by decide +kernel) rfl (by decide +kernel) rfl rfl ?_
  refine pk_iload_n dX6_hasBit_0 rfl ?_
  refine pk_iload_n dX6_hasBit_1 rfl ?_
  refine pk_ishr dX6_hasBit_2 ?_
  refine pk_iconst (v := nI 1) dX6_hasBit_3 (by decide) ?_
  refine pk_iand dX6_hasBit_4 ?_
  rw [pk_hb hb hi]
  refine pk_iconst (v := nI 1) dX6_hasBit_5 (by decide) ?_
  first | refine pk_neN (tgt := 13) dX6_hasBit_6 (by decide) (by omega) (by omega) (fun c_6 => ?_) (fun c_6 => ?_) | refine pk_icmp_ne (tgt := 13) dX6_hasBit_6 (by decide) (fun c_6 => ?_) (fun c_6 => ?_)
  · refine pk_iconst (v := nI 0) dX6_hasBit_13 (by decide) ?_
    refine pk_reti dX6_hasBit_14 (by first | rfl | exact pk_nbi _) ?_
    refine ⟨?_, rfl⟩
    cases hbi : b.testBit i <;> first | (exfalso; rw [hbi] at c_6; revert c_6; decide) | rfl
  · refine pk_iconst (v := nI 1) dX6_hasBit_9 (by decide) ?_
    refine pk_goto (tgt := 14) dX6_hasBit_10 (by decide) ?_
    refine pk_reti dX6_hasBit_14 (by first | rfl | exact pk_nbi _) ?_
    refine ⟨?_, rfl⟩
    cases hbi : b.testBit i <;> first | (exfalso; rw [hbi] at c_6; revert c_6; decide) | rfl

theorem mi_X6_296 : Cond.methodLink RX6 296 yJ9_min_7cf53 ∈ pk_tbl := pk_tb (List.mem_of_getElem? (i := 316) (by decide +kernel)) (by decide +kernel)
theorem mi_X6_335 : Cond.methodLink RX6 335 yJ9_max_7cf53 ∈ pk_tbl := pk_tb (List.mem_of_getElem? (i := 551) (by decide +kernel)) (by decide +kernel)

section PkMath
variable {Γ : pk_T} {κ : pk_K} {cc : ByteArray} {M : pk_M} {ls : List (Option Value)} {st : List Value} {pc cu su : Nat}
theorem pk_mathmin {idx a b : Nat} (hd : decode cc pc = .ok (.invokestatic idx, 3)) (hw : Cond.methodLink κ.1 idx yJ9_min_7cf53 ∈ pk_tbl) (ha : a < 2 ^ 31) (hb : b < 2 ^ 31) (h1 : Nat.ble 1 κ.2.2.2.2.1.frames = true) (h2 : Nat.ble ((st.map fun v => v.category).sum + 13) κ.2.2.2.2.1.locals = true) (h3 : Nat.ble cu κ.2.2.2.2.1.cells = true) (h4 : Nat.ble su κ.2.2.2.2.1.slots = true) (k : pk_G Γ κ cc M ls (.int (nI (min a b)) :: st) (pc + 3) cu su) : pk_G Γ κ cc M ls (.int (nI b) :: .int (nI a) :: st) pc cu su := by
  intro p e s m below meth c H locs arr C hz hR hS hL
  refine va_mmin C.1 C.2.1 (by rw [C.2.2.1, hL.2.1]) C.2.2.2.2.2.1 (C.2.2.2.2.2.2.2.1 _ hw) (C.2.2.2.2.2.2.2.1 _ ys_J9_min_7cf53) (C.2.2.2.2.2.2.2.1 _ yw_J9_min_7cf53.2.1) (C.2.2.2.2.2.2.2.1 _ yw_J9_min_7cf53.1) (Nat.le_of_ble_eq_true h1) ?_ (Nat.le_of_ble_eq_true h3) (Nat.le_of_ble_eq_true h4) hd ?_
  · rw [List.map_map, show ((fun v : Value => v.category) ∘ pk_gv Γ) = (fun v : Value => v.category) from funext (pk_gv_cat Γ)]
    exact Nat.le_of_ble_eq_true h2
  · have e1 : (if nI b < nI a then nI b else nI a) = nI (min a b) := by
      by_cases h : b < a
      · rw [if_pos ((nI_ltI hb ha).mpr h), Nat.min_eq_right (by omega)]
      · rw [if_neg (fun z => h ((nI_ltI hb ha).mp z)), Nat.min_eq_left (by omega)]
    rw [e1]
    exact k p e s m below meth c H locs arr C hz hR hS hL
theorem pk_mathmax {idx a b : Nat} (hd : decode cc pc = .ok (.invokestatic idx, 3)) (hw : Cond.methodLink κ.1 idx yJ9_max_7cf53 ∈ pk_tbl) (ha : a < 2 ^ 31) (hb : b < 2 ^ 31) (h1 : Nat.ble 1 κ.2.2.2.2.1.frames = true) (h2 : Nat.ble ((st.map fun v => v.category).sum + 13) κ.2.2.2.2.1.locals = true) (h3 : Nat.ble cu κ.2.2.2.2.1.cells = true) (h4 : Nat.ble su κ.2.2.2.2.1.slots = true) (k : pk_G Γ κ cc M ls (.int (nI (max a b)) :: st) (pc + 3) cu su) : pk_G Γ κ cc M ls (.int (nI b) :: .int (nI a) :: st) pc cu su := by
  intro p e s m below meth c H locs arr C hz hR hS hL
  refine va_mmax C.1 C.2.1 (by rw [C.2.2.1, hL.2.1]) C.2.2.2.2.2.1 (C.2.2.2.2.2.2.2.1 _ hw) (C.2.2.2.2.2.2.2.1 _ ys_J9_max_7cf53) (C.2.2.2.2.2.2.2.1 _ yw_J9_max_7cf53.2.1) (C.2.2.2.2.2.2.2.1 _ yw_J9_max_7cf53.1) (Nat.le_of_ble_eq_true h1) ?_ (Nat.le_of_ble_eq_true h3) (Nat.le_of_ble_eq_true h4) hd ?_
  · rw [List.map_map, show ((fun v : Value => v.category) ∘ pk_gv Γ) = (fun v : Value => v.category) from funext (pk_gv_cat Γ)]
    exact Nat.le_of_ble_eq_true h2
  · have e1 : (if nI a < nI b then nI b else nI a) = nI (max a b) := by
      by_cases h : a < b
      · rw [if_pos ((nI_ltI ha hb).mpr h), Nat.max_eq_right (by omega)]
      · rw [if_neg (fun z => h ((nI_ltI ha hb).mp z)), Nat.max_eq_left (by omega)]
    rw [e1]
    exact k p e s m below meth c H locs arr C hz hR hS hL
end PkMath

/-- what an ink of a kind, by one number f of its tone, makes of the number v beneath it -/
def sp_over (k v f : Nat) : Nat := if k = 1 then f else if k = 2 then (v * f / 15 + f) / 2 else if k = 3 then min (f + 1) 15 else v * f / 15
theorem sp_over_le {k v f : Nat} (hv : v ≤ 15) (hf : f ≤ 15) : sp_over k v f ≤ 15 := by
  have h : v * f ≤ 15 * 15 := Nat.mul_le_mul hv hf
  unfold sp_over
  repeat' split
  all_goals omega

set_option maxRecDepth 100000 in
set_option maxHeartbeats 4000000 in
theorem e_X6_printedOver {Γ : pk_T} {M : pk_M} (k v f : Nat) (hk : k < 4) (hv : v ≤ 15) (hf : f ≤ 15) : pk_E Γ yX6_printedOver cX6_printedOver 4 (some .int) 1 0 0 M [.int (nI k), .int (nI v), .int (nI f)] (fun r M' => r = some (.int (nI (sp_over k v f))) ∧ M' = M) := by
  refine pk_meth (own := RX6) (ini := false) [some (.int (nI k)), some (.int (nI v)), some (.int (nI f)), none] (by decide +kernel) rfl (by decide +kernel) rfl rfl ?_
  have hvf : v * f ≤ 15 * 15 := Nat.mul_le_mul hv hf
  refine pk_iload_n dX6_printedOver_0 rfl ?_
  refine pk_iload_n dX6_printedOver_1 rfl ?_
  first | refine pk_mulN dX6_printedOver_2 ?_ | refine pk_imul dX6_printedOver_2 ?_
  refine pk_bipush (v := nI 15) dX6_printedOver_3 (by decide) ?_
  first | refine pk_divN dX6_printedOver_5 (by omega) (by omega) (by omega) ?_ | refine pk_idiv dX6_printedOver_5 (by first | assumption | decide) ?_
  refine pk_istore_n dX6_printedOver_6 rfl rfl ?_
  refine pk_iload_n dX6_printedOver_7 rfl ?_
  obtain rfl | rfl | rfl | rfl : k = 0 ∨ k = 1 ∨ k = 2 ∨ k = 3 := by omega
  · refine pk_swOut (tgt := 53) dX6_printedOver_8 (by decide) (by decide) ?_
    refine pk_iload_n dX6_printedOver_53 rfl ?_
    refine pk_reti dX6_printedOver_54 (by first | rfl | exact pk_nbi _) ?_
    exact ⟨rfl, rfl⟩
  · refine pk_swIn (off := 28) (tgt := 36) dX6_printedOver_8 (by decide) (by decide) rfl (by decide) ?_
    refine pk_iload_n dX6_printedOver_36 rfl ?_
    refine pk_reti dX6_printedOver_37 (by first | rfl | exact pk_nbi _) ?_
    exact ⟨rfl, rfl⟩
  · refine pk_swIn (off := 30) (tgt := 38) dX6_printedOver_8 (by decide) (by decide) rfl (by decide) ?_
    refine pk_iload_n dX6_printedOver_38 rfl ?_
    refine pk_iload_n dX6_printedOver_39 rfl ?_
    first | refine pk_addN dX6_printedOver_40 ?_ | refine pk_iadd dX6_printedOver_40 ?_
    refine pk_iconst (v := nI 2) dX6_printedOver_41 (by decide) ?_
    first | refine pk_divN dX6_printedOver_42 (by omega) (by omega) (by omega) ?_ | refine pk_idiv dX6_printedOver_42 (by first | assumption | decide) ?_
    refine pk_reti dX6_printedOver_43 (by first | rfl | exact pk_nbi _) ?_
    exact ⟨rfl, rfl⟩
  · refine pk_swIn (off := 36) (tgt := 44) dX6_printedOver_8 (by decide) (by decide) rfl (by decide) ?_
    refine pk_iload_n dX6_printedOver_44 rfl ?_
    refine pk_iconst (v := nI 1) dX6_printedOver_45 (by decide) ?_
    first | refine pk_addN dX6_printedOver_46 ?_ | refine pk_iadd dX6_printedOver_46 ?_
    refine pk_bipush (v := nI 15) dX6_printedOver_47 (by decide) ?_
    refine pk_mathmin dX6_printedOver_49 mi_X6_296 (by omega) (by omega) rfl rfl rfl rfl ?_
    refine pk_reti dX6_printedOver_52 (by first | rfl | exact pk_nbi _) ?_
    exact ⟨rfl, rfl⟩

/-- 45 less the three numbers of a look -/
def sp_dark (l : Nat) : Nat := 45 - l / 256 - l / 16 % 16 - l % 16
theorem pk_m15 (a : Nat) : a &&& 15 = a % 16 := by
  have := Nat.and_two_pow_sub_one_eq_mod a 4
  simpa using this

set_option maxRecDepth 100000 in
set_option maxHeartbeats 4000000 in
theorem e_X6_darkOf {Γ : pk_T} {M : pk_M} (l : Nat) (hl : l < 4096) : pk_E Γ yX6_darkOf cX6_darkOf 1 (some .int) 0 0 0 M [.int (nI l)] (fun r M' => r = some (.int (nI (sp_dark l))) ∧ M' = M) := by
  refine pk_meth (own := RX6) (ini := false) [some (.int (nI l))] (by decide +kernel) rfl (by decide +kernel) rfl rfl ?_
  refine pk_bipush (v := nI 45) dX6_darkOf_0 (by decide) ?_
  refine pk_iload_n dX6_darkOf_2 rfl ?_
  refine pk_bipush (v := nI 8) dX6_darkOf_3 (by decide) ?_
  first | refine pk_shrNN dX6_darkOf_5 (by omega) (by omega) ?_ | refine pk_ishr dX6_darkOf_5 ?_
  first | refine pk_subN dX6_darkOf_6 (by omega) ?_ | refine pk_isub dX6_darkOf_6 ?_
  refine pk_iload_n dX6_darkOf_7 rfl ?_
  refine pk_iconst (v := nI 4) dX6_darkOf_8 (by decide) ?_
  first | refine pk_shrNN dX6_darkOf_9 (by omega) (by omega) ?_ | refine pk_ishr dX6_darkOf_9 ?_
  refine pk_bipush (v := nI 15) dX6_darkOf_10 (by decide) ?_
  first | refine pk_andNN dX6_darkOf_12 ?_ | refine pk_iand dX6_darkOf_12 ?_
  rw [pk_m15]
  first | refine pk_subN dX6_darkOf_13 (by omega) ?_ | refine pk_isub dX6_darkOf_13 ?_
  refine pk_iload_n dX6_darkOf_14 rfl ?_
  refine pk_bipush (v := nI 15) dX6_darkOf_15 (by decide) ?_
  first | refine pk_andNN dX6_darkOf_17 ?_ | refine pk_iand dX6_darkOf_17 ?_
  rw [pk_m15]
  first | refine pk_subN dX6_darkOf_18 (by omega) ?_ | refine pk_isub dX6_darkOf_18 ?_
  refine pk_reti dX6_darkOf_19 (by first | rfl | exact pk_nbi _) ?_
  exact ⟨rfl, rfl⟩

def sp_pow (b : Nat) : Nat → Nat
  | 0 => 1
  | n + 1 => sp_pow b n * b

set_option maxRecDepth 100000 in
set_option maxHeartbeats 4000000 in
theorem e_X6_power {Γ : pk_T} {M : pk_M} (b n : Nat) (hn : n ≤ 5) : pk_E Γ yX6_power cX6_power 4 (some .int) 0 0 0 M [.int (nI b), .int (nI n)] (fun r M' => r = some (.int (nI (sp_pow b n))) ∧ M' = M) := by
  refine pk_meth (own := RX6) (ini := false) [some (.int (nI b)), some (.int (nI n)), none, none] (by decide +kernel) rfl (by decide +kernel) rfl rfl ?_
  refine pk_iconst (v := nI 1) dX6_power_0 (by decide) ?_
  refine pk_istore_n dX6_power_1 rfl rfl ?_
  refine pk_iconst (v := nI 0) dX6_power_2 (by decide) ?_
  refine pk_istore_n dX6_power_3 rfl rfl ?_
  refine pk_lsq (ls' := [some (.int (nI b)), some (.int (nI n)), some (.int (nI (sp_pow b 0))), some (.int (nI 0))]) rfl ?_
  refine pk_for n (fun _ => M) (fun i => [some (.int (nI b)), some (.int (nI n)), some (.int (nI (sp_pow b i))), some (.int (nI i))]) ?_ ?_ 0 (by omega)
  · intro i hi K
    refine pk_iload_n dX6_power_4 rfl ?_
    refine pk_iload_n dX6_power_5 rfl ?_
    first | refine pk_geN (tgt := 24) dX6_power_6 (by decide) (by omega) (by omega) (fun c_6 => ?_) (fun c_6 => ?_) | refine pk_icmp_ge (tgt := 24) dX6_power_6 (by decide) (fun c_6 => ?_) (fun c_6 => ?_)
    · omega
    · refine pk_iload_n dX6_power_9 rfl ?_
      refine pk_iconst (v := nI 5) dX6_power_10 (by decide) ?_
      first | refine pk_geN (tgt := 24) dX6_power_11 (by decide) (by omega) (by omega) (fun c_11 => ?_) (fun c_11 => ?_) | refine pk_icmp_ge (tgt := 24) dX6_power_11 (by decide) (fun c_11 => ?_) (fun c_11 => ?_)
      · omega
      · refine pk_iload_n dX6_power_14 rfl ?_
        refine pk_iload_n dX6_power_15 rfl ?_
        first | refine pk_mulN dX6_power_16 ?_ | refine pk_imul dX6_power_16 ?_
        refine pk_istore_n dX6_power_17 rfl rfl ?_
        first | refine pk_inc1 dX6_power_18 rfl rfl ?_ | refine pk_iinc dX6_power_18 rfl rfl rfl ?_
        refine pk_goto (tgt := 4) dX6_power_21 (by decide) ?_
        exact K
  · refine pk_iload_n dX6_power_4 rfl ?_
    refine pk_iload_n dX6_power_5 rfl ?_
    first | refine pk_geN (tgt := 24) dX6_power_6 (by decide) (by omega) (by omega) (fun c_6 => ?_) (fun c_6 => ?_) | refine pk_icmp_ge (tgt := 24) dX6_power_6 (by decide) (fun c_6 => ?_) (fun c_6 => ?_)
    · refine pk_iload_n dX6_power_24 rfl ?_
      refine pk_reti dX6_power_25 (by first | rfl | exact pk_nbi _) ?_
      exact ⟨rfl, rfl⟩
    · omega
