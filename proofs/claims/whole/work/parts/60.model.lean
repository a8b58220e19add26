/-! The model: what its cells hold; its smallest methods. -/
def sp_row (A : pk_St) (j : Nat) : Nat := if j = 0 then sp_w A else if j = 1 then sp_h A else if j = 2 then sp_d A else if j = 3 then sp_fig (sp_o A) else if j < 9 then sp_k A (j - 4) else if j < 14 then sp_t A (j - 9) else sp_s A (j - 14)
def pm_At (M : pk_M) (p b : Nat) (A : pk_St) : Prop := ∀ j, j < 62 → pk_I M p (b + j) = nI (sp_row A j)
def pm_now (L : Nat) (M : pk_M) (A : pk_St) : Prop := pk_WF L M ∧ pm_At M 104 0 A ∧ pk_okS A
theorem sp_row_k (A : pk_St) {i : Nat} (hi : i < 5) : sp_row A (4 + i) = sp_k A i := by
  unfold sp_row
  rw [if_neg (by omega), if_neg (by omega), if_neg (by omega), if_neg (by omega), if_pos (by omega), show 4 + i - 4 = i by omega]
theorem sp_row_t (A : pk_St) {i : Nat} (hi : i < 5) : sp_row A (9 + i) = sp_t A i := by
  unfold sp_row
  rw [if_neg (by omega), if_neg (by omega), if_neg (by omega), if_neg (by omega), if_neg (by omega), if_pos (by omega), show 9 + i - 9 = i by omega]
theorem sp_row_s (A : pk_St) (q : Nat) : sp_row A (14 + q) = sp_s A q := by
  unfold sp_row
  rw [if_neg (by omega), if_neg (by omega), if_neg (by omega), if_neg (by omega), if_neg (by omega), if_neg (by omega), show 14 + q - 14 = q by omega]
theorem pm_At.w {M : pk_M} {A : pk_St} (h : pm_At M 104 0 A) : pk_I M 104 0 = nI (sp_w A) := h 0 (by decide)
theorem pm_At.h {M : pk_M} {A : pk_St} (h : pm_At M 104 0 A) : pk_I M 104 1 = nI (sp_h A) := h 1 (by decide)
theorem pm_At.d {M : pk_M} {A : pk_St} (h : pm_At M 104 0 A) : pk_I M 104 2 = nI (sp_d A) := h 2 (by decide)
theorem pm_At.o {M : pk_M} {A : pk_St} (h : pm_At M 104 0 A) : pk_I M 104 3 = nI (sp_fig (sp_o A)) := h 3 (by decide)
theorem pm_At.k {M : pk_M} {A : pk_St} (h : pm_At M 104 0 A) {i : Nat} (hi : i < 5) : pk_I M 104 (4 + i) = nI (sp_k A i) := by
  have e := h (4 + i) (by omega)
  rw [sp_row_k A hi, Nat.zero_add] at e
  exact e
theorem pm_At.t {M : pk_M} {A : pk_St} (h : pm_At M 104 0 A) {i : Nat} (hi : i < 5) : pk_I M 104 (9 + i) = nI (sp_t A i) := by
  have e := h (9 + i) (by omega)
  rw [sp_row_t A hi, Nat.zero_add] at e
  exact e
theorem pm_At.s {M : pk_M} {A : pk_St} (h : pm_At M 104 0 A) {q : Nat} (hq : q < 48) : pk_I M 104 (14 + q) = nI (sp_s A q) := by
  have e := h (14 + q) (by omega)
  rw [sp_row_s A, Nat.zero_add] at e
  exact e
theorem pk_lcmp2 (x y : Int64) : 0 < lg_cmp x y ↔ y < x := by
  unfold lg_cmp
  constructor
  · intro h
    split at h
    · assumption
    · split at h <;> exact absurd h (by decide)
  · intro h
    rw [if_pos h]
    decide
theorem pm_le64 (a b : Int32) : a.toInt64 ≤ b.toInt64 ↔ a ≤ b := by
  rw [Int64.le_iff_toInt_le, Int32.le_iff_toInt_le, Int32.toInt_toInt64, Int32.toInt_toInt64]
theorem pm_leb {x : Int32} {N : Nat} (hN : N + 1 < 2 ^ 31) : decide (x ≤ nI N) = decide (x < nI (N + 1)) := by
  congr 1
  rw [Int32.le_iff_toInt_le, Int32.lt_iff_toInt_lt, nI_toInt (by omega), nI_toInt hN]
  apply propext
  omega
theorem pm_nbi (n : Nat) (b : Bool) : nI n + pk_bi b = nI (if b then n + 1 else n) := by
  cases b
  · show nI n + nI 0 = _
    rw [nI_add]
    rfl
  · show nI n + nI 1 = _
    rw [nI_add]
    rfl
theorem sp_fig_eq (oo : Nat → Nat) : sp_fig oo = ((((0 * 10 + oo 0) * 10 + oo 1) * 10 + oo 2) * 10 + oo 3) * 10 + oo 4 := rfl
theorem sp_fig_lt {oo : Nat → Nat} (h : ∀ i, i < 5 → oo i < 5) : sp_fig oo < 44445 := by
  have h0 := h 0 (by decide)
  have h1 := h 1 (by decide)
  have h2 := h 2 (by decide)
  have h3 := h 3 (by decide)
  have h4 := h 4 (by decide)
  rw [sp_fig_eq]
  omega
theorem sp_fig_dig {oo : Nat → Nat} (h : ∀ i, i < 5 → oo i < 5) {k : Nat} (hk : k < 5) : sp_dig (sp_fig oo) (4 - k) = oo k := by
  have h0 := h 0 (by decide)
  have h1 := h 1 (by decide)
  have h2 := h 2 (by decide)
  have h3 := h 3 (by decide)
  have h4 := h 4 (by decide)
  rw [sp_fig_eq]
  unfold sp_dig
  obtain rfl | rfl | rfl | rfl | rfl : k = 0 ∨ k = 1 ∨ k = 2 ∨ k = 3 ∨ k = 4 := by omega
  · show _ / 10000 % 10 = _
    omega
  · show _ / 1000 % 10 = _
    omega
  · show _ / 100 % 10 = _
    omega
  · show _ / 10 % 10 = _
    omega
  · show _ / 1 % 10 = _
    omega
theorem sp_num_congr {kk tt oo oo' : Nat → Nat} (h : ∀ k, k < 5 → oo k = oo' k) (set sh : Nat) : sp_num kk tt oo set sh 5 = sp_num kk tt oo' set sh 5 := sp_fold_congr (fun q hq x => by rw [h q hq])
theorem sp_look_congr {kk tt oo oo' : Nat → Nat} (h : ∀ k, k < 5 → oo k = oo' k) (set : Nat) : sp_look kk tt oo set = sp_look kk tt oo' set := by
  show ((0 * 16 + sp_num kk tt oo set 8 5) * 16 + sp_num kk tt oo set 4 5) * 16 + sp_num kk tt oo set 0 5 = ((0 * 16 + sp_num kk tt oo' set 8 5) * 16 + sp_num kk tt oo' set 4 5) * 16 + sp_num kk tt oo' set 0 5
  rw [sp_num_congr h, sp_num_congr h, sp_num_congr h]
def sp_pt (j : Nat) : Nat := if j < 5 then 10 ^ (4 - j) else 0
theorem sp_pt_ok : ∀ j, j < 5 → 0 < sp_pt j ∧ sp_pt j < 10001 ∧ sp_pt j / 10 = sp_pt (j + 1) := by decide

set_option maxRecDepth 100000 in
set_option maxHeartbeats 4000000 in
theorem e_X7_in {Γ : pk_T} {M : pk_M} (v a b : Int64) : pk_E Γ yX7_in cX7_in 6 (some .boolean) 0 0 0 M [.long v, .long a, .long b] (fun r M' => r = some (.int (pk_bi (decide (a ≤ v) && decide (v ≤ b)))) ∧ M' = M) := by
  refine pk_meth (own := RX7) (ini := false) [some (.long v), none, some (.long a), none, some (.long b), none] (by decide +kernel) rfl (by decide +kernel) rfl rfl ?_
  refine pk_lload_n dX7_in_0 rfl ?_
  refine pk_lload_n dX7_in_1 rfl ?_
  refine pk_lcmp dX7_in_2 ?_
  refine pk_if_lt (tgt := 17) dX7_in_3 (by decide) (fun c_3 => ?_) (fun c_3 => ?_)
  · refine pk_iconst (v := nI 0) dX7_in_17 (by decide) ?_
    refine pk_reti dX7_in_18 (by first | rfl | exact pk_nbi _) ?_
    refine ⟨?_, rfl⟩
    simp only [pk_lcmp0, pk_lcmp2, Int64.not_lt] at c_3
    rw [decide_eq_false (Int64.not_le.mpr c_3)]; rfl
  · refine pk_lload_n dX7_in_6 rfl ?_
    refine pk_lload dX7_in_7 rfl ?_
    refine pk_lcmp dX7_in_9 ?_
    refine pk_if_gt (tgt := 17) dX7_in_10 (by decide) (fun c_10 => ?_) (fun c_10 => ?_)
    · refine pk_iconst (v := nI 0) dX7_in_17 (by decide) ?_
      refine pk_reti dX7_in_18 (by first | rfl | exact pk_nbi _) ?_
      refine ⟨?_, rfl⟩
      simp only [pk_lcmp0, pk_lcmp2, Int64.not_lt] at c_3 c_10
      rw [decide_eq_false (Int64.not_le.mpr c_10), Bool.and_false]; rfl
    · refine pk_iconst (v := nI 1) dX7_in_13 (by decide) ?_
      refine pk_goto (tgt := 18) dX7_in_14 (by decide) ?_
      refine pk_reti dX7_in_18 (by first | rfl | exact pk_nbi _) ?_
      refine ⟨?_, rfl⟩
      simp only [pk_lcmp0, pk_lcmp2, Int64.not_lt] at c_3 c_10
      rw [decide_eq_true c_3, decide_eq_true c_10]; rfl

theorem e_X7_inI {Γ : pk_T} {M : pk_M} (x : Int32) {a b : Int64} {lo hi : Int32} (ha : lo.toInt64 = a) (hb : hi.toInt64 = b) : pk_E Γ yX7_in cX7_in 6 (some .boolean) 0 0 0 M [.long x.toInt64, .long a, .long b] (fun r M' => r = some (.int (pk_bi (decide (lo ≤ x) && decide (x ≤ hi)))) ∧ M' = M) := by
  have h := e_X7_in (Γ := Γ) (M := M) x.toInt64 a b
  rw [← ha, ← hb] at h ⊢
  simp only [pm_le64] at h
  exact h
theorem e_X7_inB {Γ : pk_T} {M : pk_M} (x : Int32) {b : Int64} {N : Nat} (hN : N + 1 < 2 ^ 31) (hb : (nI N).toInt64 = b) : pk_E Γ yX7_in cX7_in 6 (some .boolean) 0 0 0 M [.long x.toInt64, .long 0, .long b] (fun r M' => r = some (.int (pk_bi (sp_b x (N + 1)))) ∧ M' = M) := by
  have h := e_X7_inI (Γ := Γ) (M := M) x (lo := 0) (hi := nI N) (a := 0) (by decide) hb
  rw [pm_leb hN] at h
  exact h

set_option maxRecDepth 100000 in
set_option maxHeartbeats 4000000 in
theorem e_X7_isInk {Γ : pk_T} {M : pk_M} (x : Int32) : pk_E Γ yX7_isInk cX7_isInk 1 (some .boolean) 1 0 0 M [.int x] (fun r M' => r = some (.int (pk_bi (sp_b x 5))) ∧ M' = M) := by
  refine pk_meth (own := RX7) (ini := false) [some (.int x)] (by decide +kernel) rfl (by decide +kernel) rfl rfl ?_
  refine pk_iload_n dX7_isInk_0 rfl ?_
  refine pk_i2l dX7_isInk_1 ?_
  refine pk_lconst (v := 0) dX7_isInk_2 (by decide) ?_
  refine pk_ldc2 dX7_isInk_3 kc_X7_57 ?_
  refine pk_Si dX7_isInk_6 ml_X7_59 yw_X7_in ys_X7_in (e_X7_inB _ (N := 4) (by omega) (by decide)) rfl rfl rfl rfl rfl rfl rfl ?_
  refine pk_reti dX7_isInk_9 (by first | rfl | exact pk_nbi _) ?_
  exact ⟨rfl, rfl⟩

set_option maxRecDepth 100000 in
set_option maxHeartbeats 4000000 in
theorem e_X7_isSheet {Γ : pk_T} {M : pk_M} (x : Int32) : pk_E Γ yX7_isSheet cX7_isSheet 1 (some .boolean) 1 0 0 M [.int x] (fun r M' => r = some (.int (pk_bi (sp_b x 4))) ∧ M' = M) := by
  refine pk_meth (own := RX7) (ini := false) [some (.int x)] (by decide +kernel) rfl (by decide +kernel) rfl rfl ?_
  refine pk_iload_n dX7_isSheet_0 rfl ?_
  refine pk_i2l dX7_isSheet_1 ?_
  refine pk_lconst (v := 0) dX7_isSheet_2 (by decide) ?_
  refine pk_ldc2 dX7_isSheet_3 kc_X7_210 ?_
  refine pk_Si dX7_isSheet_6 ml_X7_59 yw_X7_in ys_X7_in (e_X7_inB _ (N := 3) (by omega) (by decide)) rfl rfl rfl rfl rfl rfl rfl ?_
  refine pk_reti dX7_isSheet_9 (by first | rfl | exact pk_nbi _) ?_
  exact ⟨rfl, rfl⟩

theorem pm_iss (x : Int64) : (decide (0 ≤ x) && decide (x ≤ 31)) = sp_iss x := by
  unfold sp_iss
  congr 2
  apply propext
  rw [Int64.le_iff_toInt_le, Int64.lt_iff_toInt_lt]
  show x.toInt ≤ 31 ↔ x.toInt < 32
  omega
theorem pm_iss32 (x : Int32) : sp_iss x.toInt64 = sp_b x 32 := by
  unfold sp_iss sp_b
  congr 1
  · congr 1
    apply propext
    exact pm_le64 0 x
  · congr 1
    apply propext
    rw [Int64.lt_iff_toInt_lt, Int32.lt_iff_toInt_lt, Int32.toInt_toInt64]
    exact Iff.rfl

set_option maxRecDepth 100000 in
set_option maxHeartbeats 4000000 in
theorem e_X7_isSet {Γ : pk_T} {M : pk_M} (x : Int64) : pk_E Γ yX7_isSet cX7_isSet 2 (some .boolean) 1 0 0 M [.long x] (fun r M' => r = some (.int (pk_bi (sp_iss x))) ∧ M' = M) := by
  refine pk_meth (own := RX7) (ini := false) [some (.long x), none] (by decide +kernel) rfl (by decide +kernel) rfl rfl ?_
  refine pk_lload_n dX7_isSet_0 rfl ?_
  refine pk_lconst (v := 0) dX7_isSet_1 (by decide) ?_
  refine pk_ldc2 dX7_isSet_2 kc_X7_63 ?_
  refine pk_Si dX7_isSet_5 ml_X7_59 yw_X7_in ys_X7_in (e_X7_in _ _ _) rfl rfl rfl rfl rfl rfl rfl ?_
  refine pk_reti dX7_isSet_8 (by first | rfl | exact pk_nbi _) ?_
  exact ⟨by rw [pm_iss], rfl⟩

set_option maxRecDepth 100000 in
set_option maxHeartbeats 4000000 in
theorem e_X7_hasInk {Γ : pk_T} {M : pk_M} (b i : Nat) (hb : b < 2 ^ 32) (hi : i < 32) : pk_E Γ yX7_hasInk cX7_hasInk 2 (some .boolean) 0 0 0 M [.int (nI b), .int (nI i)] (fun r M' => r = some (.int (pk_bi (b.testBit i))) ∧ M' = M) := by
  refine pk_meth (own := RX7) (ini := false) [some (.int (nI b)), some (.int (nI i))] (by decide +kernel) rfl (by decide +kernel) rfl rfl ?_
  refine pk_iload_n dX7_hasInk_0 rfl ?_
  refine pk_iload_n dX7_hasInk_1 rfl ?_
  refine pk_ishr dX7_hasInk_2 ?_
  refine pk_iconst (v := nI 1) dX7_hasInk_3 (by decide) ?_
  refine pk_iand dX7_hasInk_4 ?_
  rw [pk_hb hb hi]
  refine pk_iconst (v := nI 1) dX7_hasInk_5 (by decide) ?_
  first | refine pk_neN (tgt := 13) dX7_hasInk_6 (by decide) (by omega) (by omega) (fun c_6 => ?_) (fun c_6 => ?_) | refine pk_icmp_ne (tgt := 13) dX7_hasInk_6 (by decide) (fun c_6 => ?_) (fun c_6 => ?_)
  · refine pk_iconst (v := nI 0) dX7_hasInk_13 (by decide) ?_
    refine pk_reti dX7_hasInk_14 (by first | rfl | exact pk_nbi _) ?_
    refine ⟨?_, rfl⟩
    cases hbi : b.testBit i <;> first | (exfalso; rw [hbi] at c_6; revert c_6; decide) | rfl
  · refine pk_iconst (v := nI 1) dX7_hasInk_9 (by decide) ?_
    refine pk_goto (tgt := 14) dX7_hasInk_10 (by decide) ?_
    refine pk_reti dX7_hasInk_14 (by first | rfl | exact pk_nbi _) ?_
    refine ⟨?_, rfl⟩
    cases hbi : b.testBit i <;> first | (exfalso; rw [hbi] at c_6; revert c_6; decide) | rfl

set_option maxRecDepth 100000 in
set_option maxHeartbeats 4000000 in
theorem e_X7_bits {Γ : pk_T} {M : pk_M} (b : Nat) (hb : b < 2 ^ 31) : pk_E Γ yX7_bits cX7_bits 3 (some .int) 0 0 0 M [.int (nI b)] (fun r M' => r = some (.int (nI (sp_bits b))) ∧ M' = M) := by
  refine pk_meth (own := RX7) (ini := false) [some (.int (nI b)), none, none] (by decide +kernel) rfl (by decide +kernel) rfl rfl ?_
  refine pk_iconst (v := nI 0) dX7_bits_0 (by decide) ?_
  refine pk_istore_n dX7_bits_1 rfl rfl ?_
  refine pk_iconst (v := nI 0) dX7_bits_2 (by decide) ?_
  refine pk_istore_n dX7_bits_3 rfl rfl ?_
  refine pk_for 5 (fun _ => M) (fun j => [some (.int (nI b)), some (.int (nI (sp_c (fun i => b.testBit i) j))), some (.int (nI j))]) ?_ ?_ 0 (by omega)
  · intro j hj K
    refine pk_iload_n dX7_bits_4 rfl ?_
    refine pk_iconst (v := nI 5) dX7_bits_5 (by decide) ?_
    first | refine pk_geN (tgt := 23) dX7_bits_6 (by decide) (by omega) (by omega) (fun c_6 => ?_) (fun c_6 => ?_) | refine pk_icmp_ge (tgt := 23) dX7_bits_6 (by decide) (fun c_6 => ?_) (fun c_6 => ?_)
    · omega
    · refine pk_iload_n dX7_bits_9 rfl ?_
      refine pk_iload_n dX7_bits_10 rfl ?_
      refine pk_iload_n dX7_bits_11 rfl ?_
      refine pk_ishr dX7_bits_12 ?_
      refine pk_iconst (v := nI 1) dX7_bits_13 (by decide) ?_
      refine pk_iand dX7_bits_14 ?_
      rw [pk_hb (by omega) (by omega)]
      refine pk_iadd dX7_bits_15 ?_
      rw [pm_nbi]
      refine pk_istore_n dX7_bits_16 rfl rfl ?_
      first | refine pk_inc1 dX7_bits_17 rfl rfl ?_ | refine pk_iinc dX7_bits_17 rfl rfl rfl ?_
      refine pk_goto (tgt := 4) dX7_bits_20 (by decide) ?_
      exact K
  · refine pk_iload_n dX7_bits_4 rfl ?_
    refine pk_iconst (v := nI 5) dX7_bits_5 (by decide) ?_
    first | refine pk_geN (tgt := 23) dX7_bits_6 (by decide) (by omega) (by omega) (fun c_6 => ?_) (fun c_6 => ?_) | refine pk_icmp_ge (tgt := 23) dX7_bits_6 (by decide) (fun c_6 => ?_) (fun c_6 => ?_)
    · refine pk_iload_n dX7_bits_23 rfl ?_
      refine pk_reti dX7_bits_24 (by first | rfl | exact pk_nbi _) ?_
      exact ⟨rfl, rfl⟩
    · omega

set_option maxRecDepth 100000 in
set_option maxHeartbeats 4000000 in
theorem e_X7_isPlace {Γ : pk_T} {M : pk_M} {L : Nat} {A : pk_St} (hN : pm_now L M A) (x y : Int32) : pk_E Γ yX7_isPlace cX7_isPlace 3 (some .boolean) 1 0 0 M [.ref 103, .int x, .int y] (fun r M' => r = some (.int (pk_bi (sp_inb A x y))) ∧ M' = M) := by
  obtain ⟨hW, hA, hok⟩ := hN
  have hw := hok.1
  have hh := hok.2.1
  have hs := hok.2.2.2.2.2.2.2.1
  refine pk_meth (own := RX7) (ini := false) [some (.ref 103), some (.int x), some (.int y)] (by decide +kernel) rfl (by decide +kernel) rfl rfl ?_
  have e1 : sp_inb A x y = (sp_b x (sp_w A - 1 + 1) && sp_b y (sp_h A - 1 + 1)) := by
    rw [show sp_w A - 1 + 1 = sp_w A by omega, show sp_h A - 1 + 1 = sp_h A by omega]
    rfl
  rw [e1]
  refine pk_iload_n dX7_isPlace_0 rfl ?_
  refine pk_i2l dX7_isPlace_1 ?_
  refine pk_lconst (v := 0) dX7_isPlace_2 (by decide) ?_
  refine pk_aload_n dX7_isPlace_3 rfl ?_
  refine pk_getP dX7_isPlace_4 fl_X7_7 rfl (hW.s rfl) (hW.p rfl) ?_
  refine pk_iconst (v := nI 0) dX7_isPlace_7 (by decide) ?_
  refine pk_aldN dX7_isPlace_8 (hW.s rfl) (by omega) (by omega) hA.w ?_
  refine pk_iconst (v := nI 1) dX7_isPlace_9 (by decide) ?_
  first | refine pk_subN dX7_isPlace_10 (by omega) ?_ | refine pk_isub dX7_isPlace_10 ?_
  refine pk_i2l dX7_isPlace_11 ?_
  refine pk_Si dX7_isPlace_12 ml_X7_59 yw_X7_in ys_X7_in (e_X7_inB _ (N := sp_w A - 1) (by omega) rfl) rfl rfl rfl rfl rfl rfl rfl ?_
  first | refine pk_eqb (tgt := 40) dX7_isPlace_15 (by decide) (fun c_15 => ?_) (fun c_15 => ?_) | refine pk_eq0N (tgt := 40) dX7_isPlace_15 (by decide) (by omega) (fun c_15 => ?_) (fun c_15 => ?_) | refine pk_if_eq (tgt := 40) dX7_isPlace_15 (by decide) (fun c_15 => ?_) (fun c_15 => ?_)
  · refine pk_iconst (v := nI 0) dX7_isPlace_40 (by decide) ?_
    refine pk_reti dX7_isPlace_41 (by first | rfl | exact pk_nbi _) ?_
    exact ⟨by rw [c_15, Bool.false_and]; rfl, rfl⟩
  · refine pk_iload_n dX7_isPlace_18 rfl ?_
    refine pk_i2l dX7_isPlace_19 ?_
    refine pk_lconst (v := 0) dX7_isPlace_20 (by decide) ?_
    refine pk_aload_n dX7_isPlace_21 rfl ?_
    refine pk_getP dX7_isPlace_22 fl_X7_7 rfl (hW.s rfl) (hW.p rfl) ?_
    refine pk_iconst (v := nI 1) dX7_isPlace_25 (by decide) ?_
    refine pk_aldN dX7_isPlace_26 (hW.s rfl) (by omega) (by omega) hA.h ?_
    refine pk_iconst (v := nI 1) dX7_isPlace_27 (by decide) ?_
    first | refine pk_subN dX7_isPlace_28 (by omega) ?_ | refine pk_isub dX7_isPlace_28 ?_
    refine pk_i2l dX7_isPlace_29 ?_
    refine pk_Si dX7_isPlace_30 ml_X7_59 yw_X7_in ys_X7_in (e_X7_inB _ (N := sp_h A - 1) (by omega) rfl) rfl rfl rfl rfl rfl rfl rfl ?_
    first | refine pk_eqb (tgt := 40) dX7_isPlace_33 (by decide) (fun c_33 => ?_) (fun c_33 => ?_) | refine pk_eq0N (tgt := 40) dX7_isPlace_33 (by decide) (by omega) (fun c_33 => ?_) (fun c_33 => ?_) | refine pk_if_eq (tgt := 40) dX7_isPlace_33 (by decide) (fun c_33 => ?_) (fun c_33 => ?_)
    · refine pk_iconst (v := nI 0) dX7_isPlace_40 (by decide) ?_
      refine pk_reti dX7_isPlace_41 (by first | rfl | exact pk_nbi _) ?_
      exact ⟨by rw [c_15, c_33, Bool.and_false]; rfl, rfl⟩
    · refine pk_iconst (v := nI 1) dX7_isPlace_36 (by decide) ?_
      refine pk_goto (tgt := 41) dX7_isPlace_37 (by decide) ?_
      refine pk_reti dX7_isPlace_41 (by first | rfl | exact pk_nbi _) ?_
      exact ⟨by rw [c_15, c_33]; rfl, rfl⟩

set_option maxRecDepth 100000 in
set_option maxHeartbeats 4000000 in
theorem e_X7_setAt {Γ : pk_T} {M : pk_M} {L : Nat} {A : pk_St} (hN : pm_now L M A) {q : Nat} (hq : q < 48) : pk_E Γ yX7_setAt cX7_setAt 2 (some .int) 0 0 0 M [.ref 103, .int (nI q)] (fun r M' => r = some (.int (nI (sp_s A q))) ∧ M' = M) := by
  obtain ⟨hW, hA, hok⟩ := hN
  have hw := hok.1
  have hh := hok.2.1
  have hs := hok.2.2.2.2.2.2.2.1
  refine pk_meth (own := RX7) (ini := false) [some (.ref 103), some (.int (nI q))] (by decide +kernel) rfl (by decide +kernel) rfl rfl ?_
  refine pk_aload_n dX7_setAt_0 rfl ?_
  refine pk_getP dX7_setAt_1 fl_X7_7 rfl (hW.s rfl) (hW.p rfl) ?_
  refine pk_bipush (v := nI 14) dX7_setAt_4 (by decide) ?_
  refine pk_iload_n dX7_setAt_6 rfl ?_
  first | refine pk_addN dX7_setAt_7 ?_ | refine pk_iadd dX7_setAt_7 ?_
  refine pk_aldN dX7_setAt_8 (hW.s rfl) (by omega) (by omega) (hA.s hq) ?_
  refine pk_reti dX7_setAt_9 (by first | rfl | exact pk_nbi _) ?_
  exact ⟨rfl, rfl⟩

set_option maxRecDepth 100000 in
set_option maxHeartbeats 4000000 in
theorem e_X7_isIn {Γ : pk_T} {M : pk_M} {L : Nat} {A : pk_St} (hN : pm_now L M A) {q : Nat} (hq : q < 48) : pk_E Γ yX7_isIn cX7_isIn 2 (some .boolean) 2 0 0 M [.ref 103, .int (nI q)] (fun r M' => r = some (.int (pk_bi (sp_in A q))) ∧ M' = M) := by
  obtain ⟨hW, hA, hok⟩ := hN
  have hw := hok.1
  have hh := hok.2.1
  have hs := hok.2.2.2.2.2.2.2.1
  refine pk_meth (own := RX7) (ini := false) [some (.ref 103), some (.int (nI q))] (by decide +kernel) rfl (by decide +kernel) rfl rfl ?_
  refine pk_aload_n dX7_isIn_0 rfl ?_
  refine pk_iload_n dX7_isIn_1 rfl ?_
  refine pk_bipush (v := nI 8) dX7_isIn_2 (by decide) ?_
  first | refine pk_remN dX7_isIn_4 (by omega) (by omega) (by omega) ?_ | refine pk_irem dX7_isIn_4 (by first | assumption | decide) ?_
  refine pk_iload_n dX7_isIn_5 rfl ?_
  refine pk_bipush (v := nI 8) dX7_isIn_6 (by decide) ?_
  first | refine pk_divN dX7_isIn_8 (by omega) (by omega) (by omega) ?_ | refine pk_idiv dX7_isIn_8 (by first | assumption | decide) ?_
  refine pk_Vi dX7_isIn_9 ml_X7_65 yw_X7_isPlace yv_X7_isPlace (hW.s rfl) (e_X7_isPlace ⟨hW, hA, hok⟩ _ _) rfl rfl rfl rfl rfl rfl rfl ?_
  refine pk_reti dX7_isIn_12 (by first | rfl | exact pk_nbi _) ?_
  exact ⟨by rw [sp_inb_n hok (by omega) (by omega)]; rfl, rfl⟩

set_option maxRecDepth 100000 in
set_option maxHeartbeats 4000000 in
theorem e_X7_over {Γ : pk_T} {M : pk_M} {v f k : Nat} {kx : Int32} (hkx : kx = nI k) (hk : k < 4) (hv : v ≤ 15) (hf : f ≤ 15) : pk_E Γ yX7_over cX7_over 4 (some .int) 0 0 0 M [.int (nI v), .int (nI f), .int kx] (fun r M' => r = some (.int (nI (sp_over k v f))) ∧ M' = M) := by
  refine pk_meth (own := RX7) (ini := false) [some (.int (nI v)), some (.int (nI f)), some (.int kx), none] (by decide +kernel) rfl (by decide +kernel) rfl rfl ?_
  subst hkx
  have hvf : v * f ≤ 15 * 15 := Nat.mul_le_mul hv hf
  refine pk_iload_n dX7_over_0 rfl ?_
  refine pk_iload_n dX7_over_1 rfl ?_
  first | refine pk_mulN dX7_over_2 ?_ | refine pk_imul dX7_over_2 ?_
  refine pk_bipush (v := nI 15) dX7_over_3 (by decide) ?_
  first | refine pk_divN dX7_over_5 (by omega) (by omega) (by omega) ?_ | refine pk_idiv dX7_over_5 (by first | assumption | decide) ?_
  refine pk_istore_n dX7_over_6 rfl rfl ?_
  refine pk_iload_n dX7_over_7 rfl ?_
  obtain rfl | rfl | rfl | rfl : k = 0 ∨ k = 1 ∨ k = 2 ∨ k = 3 := by omega
  · refine pk_swIn (off := 28) (tgt := 36) dX7_over_8 (by decide) (by decide) rfl (by decide) ?_
    refine pk_iload_n dX7_over_36 rfl ?_
    refine pk_reti dX7_over_37 (by first | rfl | exact pk_nbi _) ?_
    exact ⟨rfl, rfl⟩
  · refine pk_swIn (off := 30) (tgt := 38) dX7_over_8 (by decide) (by decide) rfl (by decide) ?_
    refine pk_iload_n dX7_over_38 rfl ?_
    refine pk_reti dX7_over_39 (by first | rfl | exact pk_nbi _) ?_
    exact ⟨rfl, rfl⟩
  · refine pk_swIn (off := 32) (tgt := 40) dX7_over_8 (by decide) (by decide) rfl (by decide) ?_
    refine pk_iload_n dX7_over_40 rfl ?_
    refine pk_iload_n dX7_over_41 rfl ?_
    first | refine pk_addN dX7_over_42 ?_ | refine pk_iadd dX7_over_42 ?_
    refine pk_iconst (v := nI 2) dX7_over_43 (by decide) ?_
    first | refine pk_divN dX7_over_44 (by omega) (by omega) (by omega) ?_ | refine pk_idiv dX7_over_44 (by first | assumption | decide) ?_
    refine pk_reti dX7_over_45 (by first | rfl | exact pk_nbi _) ?_
    exact ⟨rfl, rfl⟩
  · refine pk_swOut (tgt := 46) dX7_over_8 (by decide) (by decide) ?_
    refine pk_iload_n dX7_over_46 rfl ?_
    refine pk_bipush (v := nI 15) dX7_over_47 (by decide) ?_
    first | refine pk_geN (tgt := 58) dX7_over_49 (by decide) (by omega) (by omega) (fun c_49 => ?_) (fun c_49 => ?_) | refine pk_icmp_ge (tgt := 58) dX7_over_49 (by decide) (fun c_49 => ?_) (fun c_49 => ?_)
    · refine pk_bipush (v := nI 15) dX7_over_58 (by decide) ?_
      refine pk_reti dX7_over_60 (by first | rfl | exact pk_nbi _) ?_
      rw [show sp_over 3 v f = 15 from Nat.min_eq_right (by omega)]
      exact ⟨rfl, rfl⟩
    · refine pk_iload_n dX7_over_52 rfl ?_
      refine pk_iconst (v := nI 1) dX7_over_53 (by decide) ?_
      first | refine pk_addN dX7_over_54 ?_ | refine pk_iadd dX7_over_54 ?_
      refine pk_goto (tgt := 60) dX7_over_55 (by decide) ?_
      refine pk_reti dX7_over_60 (by first | rfl | exact pk_nbi _) ?_
      rw [show sp_over 3 v f = f + 1 from Nat.min_eq_left (by omega)]
      exact ⟨rfl, rfl⟩

set_option maxRecDepth 100000 in
set_option maxHeartbeats 4000000 in
theorem e_X7_number {Γ : pk_T} {M : pk_M} {L : Nat} {A : pk_St} (hN : pm_now L M A) {set sh : Nat} (hset : set < 32) (hsh : sh ≤ 8) {n : Nat} {ik kd : Int32} {kk : Nat → Nat} (hn : n < 2 ^ 31) (hd : ∀ k, k < 5 → sp_dig n k < 5) (hkk : ∀ j, j < 5 → kk j < 4 ∧ (if nI j = ik then kd else nI (sp_k A j)) = nI (kk j)) : pk_E Γ yX7_number cX7_number 9 (some .int) 1 0 0 M [.ref 103, .int (nI set), .int (nI sh), .int (nI n), .int ik, .int kd] (fun r M' => r = some (.int (nI ((sp_num kk (sp_t A) (fun k => sp_dig n (4 - k)) set sh 5)))) ∧ M' = M) := by
  obtain ⟨hW, hA, hok⟩ := hN
  have hw := hok.1
  have hh := hok.2.1
  have hs := hok.2.2.2.2.2.2.2.1
  refine pk_meth (own := RX7) (ini := false) [some (.ref 103), some (.int (nI set)), some (.int (nI sh)), some (.int (nI n)), some (.int ik), some (.int kd), none, none, none] (by decide +kernel) rfl (by decide +kernel) rfl rfl ?_
  refine pk_bipush (v := nI 15) dX7_number_0 (by decide) ?_
  refine pk_istore dX7_number_2 rfl rfl ?_
  refine pk_sipush (v := nI 10000) dX7_number_4 (by decide) ?_
  refine pk_istore dX7_number_7 rfl rfl ?_
  refine pk_for 5 (fun _ => M) (fun j => [some (.ref 103), some (.int (nI set)), some (.int (nI sh)), some (.int (nI n)), some (.int ik), some (.int kd), some (.int (nI (sp_num kk (sp_t A) (fun k => sp_dig n (4 - k)) set sh j))), some (.int (nI (sp_pt (j)))), none]) ?_ ?_ 0 (by omega)
  · intro j hj K
    have hp := sp_pt_ok j hj
    have hdj : n / sp_pt j % 10 = sp_dig n (4 - j) := by unfold sp_pt sp_dig; rw [if_pos hj]
    have hnd : n / sp_pt j ≤ n := Nat.div_le_self _ _
    have hd5 := hd (4 - j) (by omega)
    have ht4 := hok.2.2.2.2.1 _ hd5
    have hle := sp_num_le kk (sp_t A) (fun k => sp_dig n (4 - k)) set sh j
    have hf15 : sp_t A (sp_dig n (4 - j)) / 2 ^ sh % 16 ≤ 15 := by omega
    have e1 : (sp_num kk (sp_t A) (fun k => sp_dig n (4 - k)) set sh (j + 1)) = if set.testBit (sp_dig n (4 - j)) then sp_over (kk (sp_dig n (4 - j))) (sp_num kk (sp_t A) (fun k => sp_dig n (4 - k)) set sh j) (sp_t A (sp_dig n (4 - j)) / 2 ^ sh % 16) else (sp_num kk (sp_t A) (fun k => sp_dig n (4 - k)) set sh j) := rfl
    refine pk_iload dX7_number_9 rfl ?_
    refine pk_if_le (tgt := 85) dX7_number_11 (by decide) (fun c_11 => ?_) (fun c_11 => ?_)
    · exact absurd ((nI_leI (by omega) (by decide)).mp (show nI (sp_pt j) ≤ nI 0 from c_11)) (by omega)
    · refine pk_iload_n dX7_number_14 rfl ?_
      refine pk_iload dX7_number_15 rfl ?_
      first | refine pk_divN dX7_number_17 (by omega) (by omega) (by omega) ?_ | refine pk_idiv dX7_number_17 (by first | assumption | decide) ?_
      refine pk_bipush (v := nI 10) dX7_number_18 (by decide) ?_
      first | refine pk_remN dX7_number_20 (by omega) (by omega) (by omega) ?_ | refine pk_irem dX7_number_20 (by first | assumption | decide) ?_
      rw [hdj]
      refine pk_istore dX7_number_21 rfl rfl ?_
      refine pk_iload_n dX7_number_23 rfl ?_
      refine pk_iload dX7_number_24 rfl ?_
      refine pk_Si dX7_number_26 ml_X7_69 yw_X7_hasInk ys_X7_hasInk (e_X7_hasInk _ _ (by omega) (by omega)) rfl rfl rfl rfl rfl rfl rfl ?_
      first | refine pk_eqb (tgt := 75) dX7_number_29 (by decide) (fun c_29 => ?_) (fun c_29 => ?_) | refine pk_eq0N (tgt := 75) dX7_number_29 (by decide) (by omega) (fun c_29 => ?_) (fun c_29 => ?_) | refine pk_if_eq (tgt := 75) dX7_number_29 (by decide) (fun c_29 => ?_) (fun c_29 => ?_)
      · rw [c_29, if_neg (by decide)] at e1
        rw [e1, ← hp.2.2] at K
        refine pk_iload dX7_number_75 rfl ?_
        refine pk_bipush (v := nI 10) dX7_number_77 (by decide) ?_
        first | refine pk_divN dX7_number_79 (by omega) (by omega) (by omega) ?_ | refine pk_idiv dX7_number_79 (by first | assumption | decide) ?_
        refine pk_istore dX7_number_80 rfl rfl ?_
        refine pk_goto (tgt := 9) dX7_number_82 (by decide) ?_
        exact pk_fgt (by repeat first | exact trivial | refine ⟨rfl, ?_⟩) K
      · refine pk_iload dX7_number_32 rfl ?_
        refine pk_aload_n dX7_number_34 rfl ?_
        refine pk_getP dX7_number_35 fl_X7_7 rfl (hW.s rfl) (hW.p rfl) ?_
        refine pk_bipush (v := nI 9) dX7_number_38 (by decide) ?_
        refine pk_iload dX7_number_40 rfl ?_
        first | refine pk_addN dX7_number_42 ?_ | refine pk_iadd dX7_number_42 ?_
        refine pk_aldN dX7_number_43 (hW.s rfl) (by omega) (by omega) (hA.t (by omega)) ?_
        refine pk_iload_n dX7_number_44 rfl ?_
        first | refine pk_shrNN dX7_number_45 (by omega) (by omega) ?_ | refine pk_ishr dX7_number_45 ?_
        refine pk_bipush (v := nI 15) dX7_number_46 (by decide) ?_
        first | refine pk_andNN dX7_number_48 ?_ | refine pk_iand dX7_number_48 ?_
        rw [pk_m15]
        refine pk_iload dX7_number_49 rfl ?_
        refine pk_iload dX7_number_51 rfl ?_
        first | refine pk_neN (tgt := 61) dX7_number_53 (by decide) (by omega) (by omega) (fun c_53 => ?_) (fun c_53 => ?_) | refine pk_icmp_ne (tgt := 61) dX7_number_53 (by decide) (fun c_53 => ?_) (fun c_53 => ?_)
        · refine pk_aload_n dX7_number_61 rfl ?_
          refine pk_getP dX7_number_62 fl_X7_7 rfl (hW.s rfl) (hW.p rfl) ?_
          refine pk_iconst (v := nI 4) dX7_number_65 (by decide) ?_
          refine pk_iload dX7_number_66 rfl ?_
          first | refine pk_addN dX7_number_68 ?_ | refine pk_iadd dX7_number_68 ?_
          refine pk_aldN dX7_number_69 (hW.s rfl) (by omega) (by omega) (hA.k (by omega)) ?_
          have hkx := (hkk _ hd5).2
          rw [if_neg c_53] at hkx
          refine pk_Si dX7_number_70 ml_X7_72 yw_X7_over ys_X7_over (e_X7_over hkx (hkk _ hd5).1 hle hf15) rfl rfl rfl rfl rfl rfl rfl ?_
          refine pk_istore dX7_number_73 rfl rfl ?_
          rw [c_29, if_pos rfl] at e1
          rw [e1, ← hp.2.2] at K
          refine pk_iload dX7_number_75 rfl ?_
          refine pk_bipush (v := nI 10) dX7_number_77 (by decide) ?_
          first | refine pk_divN dX7_number_79 (by omega) (by omega) (by omega) ?_ | refine pk_idiv dX7_number_79 (by first | assumption | decide) ?_
          refine pk_istore dX7_number_80 rfl rfl ?_
          refine pk_goto (tgt := 9) dX7_number_82 (by decide) ?_
          exact pk_fgt (by repeat first | exact trivial | refine ⟨rfl, ?_⟩) K
        · refine pk_iload dX7_number_56 rfl ?_
          refine pk_goto (tgt := 70) dX7_number_58 (by decide) ?_
          have hkx := (hkk _ hd5).2
          rw [if_pos c_53] at hkx
          refine pk_Si dX7_number_70 ml_X7_72 yw_X7_over ys_X7_over (e_X7_over hkx (hkk _ hd5).1 hle hf15) rfl rfl rfl rfl rfl rfl rfl ?_
          refine pk_istore dX7_number_73 rfl rfl ?_
          rw [c_29, if_pos rfl] at e1
          rw [e1, ← hp.2.2] at K
          refine pk_iload dX7_number_75 rfl ?_
          refine pk_bipush (v := nI 10) dX7_number_77 (by decide) ?_
          first | refine pk_divN dX7_number_79 (by omega) (by omega) (by omega) ?_ | refine pk_idiv dX7_number_79 (by first | assumption | decide) ?_
          refine pk_istore dX7_number_80 rfl rfl ?_
          refine pk_goto (tgt := 9) dX7_number_82 (by decide) ?_
          exact pk_fgt (by repeat first | exact trivial | refine ⟨rfl, ?_⟩) K
  · refine pk_iload dX7_number_9 rfl ?_
    refine pk_if_le (tgt := 85) dX7_number_11 (by decide) (fun c_11 => ?_) (fun c_11 => ?_)
    · refine pk_iload dX7_number_85 rfl ?_
      refine pk_reti dX7_number_87 (by first | rfl | exact pk_nbi _) ?_
      exact ⟨rfl, rfl⟩
    · exact absurd (show nI (sp_pt 5) ≤ 0 by decide) c_11

theorem sp_look_3 (kk tt oo : Nat → Nat) (set : Nat) : 256 * sp_num kk tt oo set 8 5 + 16 * sp_num kk tt oo set 4 5 + sp_num kk tt oo set 0 5 = sp_look kk tt oo set := by
  show _ = ((0 * 16 + sp_num kk tt oo set 8 5) * 16 + sp_num kk tt oo set 4 5) * 16 + sp_num kk tt oo set 0 5
  omega

set_option maxRecDepth 100000 in
set_option maxHeartbeats 4000000 in
theorem e_X7_lookBy {Γ : pk_T} {M : pk_M} {L : Nat} {A : pk_St} (hN : pm_now L M A) {set : Nat} (hset : set < 32) {n : Nat} {ik kd : Int32} {kk : Nat → Nat} (hn : n < 2 ^ 31) (hd : ∀ k, k < 5 → sp_dig n k < 5) (hkk : ∀ j, j < 5 → kk j < 4 ∧ (if nI j = ik then kd else nI (sp_k A j)) = nI (kk j)) : pk_E Γ yX7_lookBy cX7_lookBy 5 (some .int) 2 0 0 M [.ref 103, .int (nI set), .int (nI n), .int ik, .int kd] (fun r M' => r = some (.int (nI (sp_look kk (sp_t A) (fun k => sp_dig n (4 - k)) set))) ∧ M' = M) := by
  obtain ⟨hW, hA, hok⟩ := hN
  have hw := hok.1
  have hh := hok.2.1
  have hs := hok.2.2.2.2.2.2.2.1
  refine pk_meth (own := RX7) (ini := false) [some (.ref 103), some (.int (nI set)), some (.int (nI n)), some (.int ik), some (.int kd)] (by decide +kernel) rfl (by decide +kernel) rfl rfl ?_
  refine pk_sipush (v := nI 256) dX7_lookBy_0 (by decide) ?_
  refine pk_aload_n dX7_lookBy_3 rfl ?_
  refine pk_iload_n dX7_lookBy_4 rfl ?_
  refine pk_bipush (v := nI 8) dX7_lookBy_5 (by decide) ?_
  refine pk_iload_n dX7_lookBy_7 rfl ?_
  refine pk_iload_n dX7_lookBy_8 rfl ?_
  refine pk_iload dX7_lookBy_9 rfl ?_
  refine pk_Vi dX7_lookBy_11 ml_X7_76 yw_X7_number yv_X7_number (hW.s rfl) (e_X7_number ⟨hW, hA, hok⟩ hset (by omega) hn hd hkk) rfl rfl rfl rfl rfl rfl rfl ?_
  first | refine pk_mulN dX7_lookBy_14 ?_ | refine pk_imul dX7_lookBy_14 ?_
  refine pk_bipush (v := nI 16) dX7_lookBy_15 (by decide) ?_
  refine pk_aload_n dX7_lookBy_17 rfl ?_
  refine pk_iload_n dX7_lookBy_18 rfl ?_
  refine pk_iconst (v := nI 4) dX7_lookBy_19 (by decide) ?_
  refine pk_iload_n dX7_lookBy_20 rfl ?_
  refine pk_iload_n dX7_lookBy_21 rfl ?_
  refine pk_iload dX7_lookBy_22 rfl ?_
  refine pk_Vi dX7_lookBy_24 ml_X7_76 yw_X7_number yv_X7_number (hW.s rfl) (e_X7_number ⟨hW, hA, hok⟩ hset (by omega) hn hd hkk) rfl rfl rfl rfl rfl rfl rfl ?_
  first | refine pk_mulN dX7_lookBy_27 ?_ | refine pk_imul dX7_lookBy_27 ?_
  first | refine pk_addN dX7_lookBy_28 ?_ | refine pk_iadd dX7_lookBy_28 ?_
  refine pk_aload_n dX7_lookBy_29 rfl ?_
  refine pk_iload_n dX7_lookBy_30 rfl ?_
  refine pk_iconst (v := nI 0) dX7_lookBy_31 (by decide) ?_
  refine pk_iload_n dX7_lookBy_32 rfl ?_
  refine pk_iload_n dX7_lookBy_33 rfl ?_
  refine pk_iload dX7_lookBy_34 rfl ?_
  refine pk_Vi dX7_lookBy_36 ml_X7_76 yw_X7_number yv_X7_number (hW.s rfl) (e_X7_number ⟨hW, hA, hok⟩ hset (by omega) hn hd hkk) rfl rfl rfl rfl rfl rfl rfl ?_
  first | refine pk_addN dX7_lookBy_39 ?_ | refine pk_iadd dX7_lookBy_39 ?_
  refine pk_reti dX7_lookBy_40 (by first | rfl | exact pk_nbi _) ?_
  exact ⟨by rw [sp_look_3], rfl⟩

theorem sp_look_fig {A : pk_St} (hA : pk_okS A) (kk : Nat → Nat) (set : Nat) : sp_look kk (sp_t A) (fun k => sp_dig (sp_fig (sp_o A)) (4 - k)) set = sp_look kk (sp_t A) (sp_o A) set := sp_look_congr (fun k hk => sp_fig_dig hA.2.2.2.2.2.1 hk) set
theorem sp_fig_d5 {A : pk_St} (hA : pk_okS A) : ∀ k, k < 5 → sp_dig (sp_fig (sp_o A)) k < 5 := by
  intro k hk
  have h := sp_fig_dig hA.2.2.2.2.2.1 (k := 4 - k) (by omega)
  rw [show 4 - (4 - k) = k by omega] at h
  rw [h]
  exact hA.2.2.2.2.2.1 _ (by omega)
theorem pm_kk {A : pk_St} (hA : pk_okS A) (kd : Int32) : ∀ j, j < 5 → sp_k A j < 4 ∧ (if nI j = -1 then kd else nI (sp_k A j)) = nI (sp_k A j) := by
  intro j hj
  refine ⟨hA.2.2.2.1 j hj, if_neg ?_⟩
  have : ∀ j, j < 5 → nI j ≠ -1 := by decide
  exact this j hj

set_option maxRecDepth 100000 in
set_option maxHeartbeats 4000000 in
theorem e_X7_lookOf {Γ : pk_T} {M : pk_M} {L : Nat} {A : pk_St} (hN : pm_now L M A) {t : Nat} (ht : t < 32) : pk_E Γ yX7_lookOf cX7_lookOf 2 (some .int) 3 0 0 M [.ref 103, .int (nI t)] (fun r M' => r = some (.int (nI (sp_lookA A t))) ∧ M' = M) := by
  obtain ⟨hW, hA, hok⟩ := hN
  have hw := hok.1
  have hh := hok.2.1
  have hs := hok.2.2.2.2.2.2.2.1
  refine pk_meth (own := RX7) (ini := false) [some (.ref 103), some (.int (nI t))] (by decide +kernel) rfl (by decide +kernel) rfl rfl ?_
  have hfl := sp_fig_lt hok.2.2.2.2.2.1
  refine pk_aload_n dX7_lookOf_0 rfl ?_
  refine pk_iload_n dX7_lookOf_1 rfl ?_
  refine pk_aload_n dX7_lookOf_2 rfl ?_
  refine pk_getP dX7_lookOf_3 fl_X7_7 rfl (hW.s rfl) (hW.p rfl) ?_
  refine pk_iconst (v := nI 3) dX7_lookOf_6 (by decide) ?_
  refine pk_aldN dX7_lookOf_7 (hW.s rfl) (by omega) (by omega) hA.o ?_
  refine pk_iconst (v := -1) dX7_lookOf_8 (by decide) ?_
  refine pk_iconst (v := nI 0) dX7_lookOf_9 (by decide) ?_
  refine pk_Vi dX7_lookOf_10 ml_X7_80 yw_X7_lookBy yv_X7_lookBy (hW.s rfl) (e_X7_lookBy ⟨hW, hA, hok⟩ ht (by omega) (sp_fig_d5 hok) (pm_kk hok _)) rfl rfl rfl rfl rfl rfl rfl ?_
  refine pk_reti dX7_lookOf_13 (by first | rfl | exact pk_nbi _) ?_
  exact ⟨by rw [sp_look_fig hok]; rfl, rfl⟩

set_option maxRecDepth 100000 in
set_option maxHeartbeats 4000000 in
theorem e_X7_dark {Γ : pk_T} {M : pk_M} {L : Nat} {A : pk_St} (hN : pm_now L M A) {t : Nat} (ht : t < 32) : pk_E Γ yX7_dark cX7_dark 3 (some .int) 4 0 0 M [.ref 103, .int (nI t)] (fun r M' => r = some (.int (nI (sp_dark (sp_lookA A t)))) ∧ M' = M) := by
  obtain ⟨hW, hA, hok⟩ := hN
  have hw := hok.1
  have hh := hok.2.1
  have hs := hok.2.2.2.2.2.2.2.1
  refine pk_meth (own := RX7) (ini := false) [some (.ref 103), some (.int (nI t)), none] (by decide +kernel) rfl (by decide +kernel) rfl rfl ?_
  have hl := sp_lookA_lt A t
  refine pk_aload_n dX7_dark_0 rfl ?_
  refine pk_iload_n dX7_dark_1 rfl ?_
  refine pk_Vi dX7_dark_2 ml_X7_84 yw_X7_lookOf yv_X7_lookOf (hW.s rfl) (e_X7_lookOf ⟨hW, hA, hok⟩ (by omega)) rfl rfl rfl rfl rfl rfl rfl ?_
  refine pk_istore_n dX7_dark_5 rfl rfl ?_
  refine pk_bipush (v := nI 45) dX7_dark_6 (by decide) ?_
  refine pk_iload_n dX7_dark_8 rfl ?_
  refine pk_bipush (v := nI 8) dX7_dark_9 (by decide) ?_
  first | refine pk_shrNN dX7_dark_11 (by omega) (by omega) ?_ | refine pk_ishr dX7_dark_11 ?_
  first | refine pk_subN dX7_dark_12 (by omega) ?_ | refine pk_isub dX7_dark_12 ?_
  refine pk_iload_n dX7_dark_13 rfl ?_
  refine pk_iconst (v := nI 4) dX7_dark_14 (by decide) ?_
  first | refine pk_shrNN dX7_dark_15 (by omega) (by omega) ?_ | refine pk_ishr dX7_dark_15 ?_
  refine pk_bipush (v := nI 15) dX7_dark_16 (by decide) ?_
  first | refine pk_andNN dX7_dark_18 ?_ | refine pk_iand dX7_dark_18 ?_
  rw [pk_m15]
  first | refine pk_subN dX7_dark_19 (by omega) ?_ | refine pk_isub dX7_dark_19 ?_
  refine pk_iload_n dX7_dark_20 rfl ?_
  refine pk_bipush (v := nI 15) dX7_dark_21 (by decide) ?_
  first | refine pk_andNN dX7_dark_23 ?_ | refine pk_iand dX7_dark_23 ?_
  rw [pk_m15]
  first | refine pk_subN dX7_dark_24 (by omega) ?_ | refine pk_isub dX7_dark_24 ?_
  refine pk_reti dX7_dark_25 (by first | rfl | exact pk_nbi _) ?_
  exact ⟨rfl, rfl⟩
