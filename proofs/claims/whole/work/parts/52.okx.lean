/-! What the calls leave is an object again. -/
theorem sp_b_c {v : Int32} {N : Nat} (h : sp_b v N = true) (hN : N < 2 ^ 31) : v.toNatClampNeg < N := by
  obtain ⟨k, hk, rfl⟩ := sp_b_of h hN
  rw [nI_clamp (by omega)]
  exact hk
theorem ok_K {X : pk_X} (h : pk_okX X) : pk_okX (x_K X) := by
  refine ⟨h.1, ⟨?_, fun k hk => ?_⟩, h.2.2⟩
  · show sp_pn X.2.1.1 ≤ 6
    unfold sp_pn
    split <;> omega
  · have hk' : k < sp_pn X.2.1.1 := hk
    show pk_okS (sp_ph X.2.1.1 X.2.1.2 X.1 k)
    have h6 := h.2.1.1
    unfold sp_pn at hk'
    unfold sp_ph
    split
    · rename_i hn
      rw [if_pos hn] at hk'
      split
      · exact h.1
      · exact h.2.1.2 k (by omega)
    · rename_i hn
      rw [if_neg hn] at hk'
      split
      · exact h.1
      · exact h.2.1.2 (k + 1) (by omega)
theorem ok_A {X : pk_X} {A : pk_St} (h : pk_okX X) (hA : pk_okS A) : pk_okX (x_A X A) := ⟨hA, h.2⟩
theorem ok_s_d {A : pk_St} (h : pk_okS A) {d : Nat} (hd : d < 2 ^ 31) : pk_okS (s_d A d) := ⟨h.1, h.2.1, hd, h.2.2.2⟩
theorem ok_s_ink {A : pk_St} (h : pk_okS A) {i k t : Nat} (hk : k < 4) (ht : t < 4096) : pk_okS (s_ink A i k t) := by
  refine ⟨h.1, h.2.1, h.2.2.1, fun j hj => ?_, fun j hj => ?_, h.2.2.2.2.2⟩
  · show (if j = i then k else sp_k A j) < 4
    split
    · exact hk
    · exact h.2.2.2.1 j hj
  · show (if j = i then t else sp_t A j) < 4096
    split
    · exact ht
    · exact h.2.2.2.2.1 j hj
theorem ok_s_set {A : pk_St} (h : pk_okS A) {q v : Nat} (hq : sp_in A q = true) (hv : v < 32) : pk_okS (s_set A q v) := by
  refine ⟨h.1, h.2.1, h.2.2.1, h.2.2.2.1, h.2.2.2.2.1, h.2.2.2.2.2.1, h.2.2.2.2.2.2.1, fun j hj => ?_, fun j hj hi => ?_⟩
  · show (if j = q then v else sp_s A j) < 32
    split
    · exact hv
    · exact h.2.2.2.2.2.2.2.1 j hj
  · show (if j = q then v else sp_s A j) = 0
    rw [if_neg]
    · exact h.2.2.2.2.2.2.2.2 j hj hi
    · intro e
      rw [e] at hi
      exact absurd (hq.symm.trans hi) (by decide)
theorem ok_s_wh {A : pk_St} (h : pk_okS A) {w v : Nat} (hw : 1 ≤ w ∧ w ≤ 8) (hv : 1 ≤ v ∧ v ≤ 6) : pk_okS (s_wh A w v) := by
  refine ⟨hw, hv, h.2.2.1, h.2.2.2.1, h.2.2.2.2.1, h.2.2.2.2.2.1, h.2.2.2.2.2.2.1, fun j hj => ?_, fun j hj hi => ?_⟩
  · show (if j % 8 < w ∧ j / 8 < v then sp_s A j else 0) < 32
    split
    · exact h.2.2.2.2.2.2.2.1 j hj
    · decide
  · show (if j % 8 < w ∧ j / 8 < v then sp_s A j else 0) = 0
    rw [if_neg]
    intro e
    have : sp_in (s_wh A w v) j = true := sp_in_of e.1 e.2
    exact absurd (this.symm.trans hi) (by decide)
theorem sp_isO_d5 : ∀ a, a < 5 → ∀ b, b < 5 → ∀ c, c < 5 → ∀ d, d < 5 → ∀ e, e < 5 → (!((2 ^ a ||| 2 ^ b ||| 2 ^ c ||| 2 ^ d ||| 2 ^ e) == 31) || (a != b && a != c && a != d && a != e && b != c && b != d && b != e && c != d && c != e && d != e)) = true := by decide +kernel
theorem sp_mask_5 (n : Nat) : sp_mask n 5 = 2 ^ sp_dig n 0 ||| 2 ^ sp_dig n 1 ||| 2 ^ sp_dig n 2 ||| 2 ^ sp_dig n 3 ||| 2 ^ sp_dig n 4 := by
  show (((((0 ||| 2 ^ sp_dig n 0) ||| 2 ^ sp_dig n 1) ||| 2 ^ sp_dig n 2) ||| 2 ^ sp_dig n 3) ||| 2 ^ sp_dig n 4) = _
  rw [Nat.zero_or]
theorem sp_p31 {d : Nat} (h : 2 ^ d ≤ 31) : d < 5 := by
  rcases Nat.lt_or_ge d 5 with z | z
  · exact z
  · have : 2 ^ 5 ≤ 2 ^ d := Nat.pow_le_pow_right (by decide) z
    omega
theorem sp_isO_dig {n : Nat} (h : sp_isO n = true) : (∀ k, k < 5 → sp_dig n k < 5) ∧ ∀ i, i < 5 → ∀ j, j < 5 → sp_dig n i = sp_dig n j → i = j := by
  unfold sp_isO at h
  rw [Bool.and_eq_true, beq_iff_eq] at h
  have hm := h.2
  rw [sp_mask_5] at hm
  have o1 := Nat.left_le_or (n := 2 ^ sp_dig n 0 ||| 2 ^ sp_dig n 1 ||| 2 ^ sp_dig n 2 ||| 2 ^ sp_dig n 3) (m := 2 ^ sp_dig n 4)
  have r1 := Nat.right_le_or (n := 2 ^ sp_dig n 0 ||| 2 ^ sp_dig n 1 ||| 2 ^ sp_dig n 2 ||| 2 ^ sp_dig n 3) (m := 2 ^ sp_dig n 4)
  have o2 := Nat.left_le_or (n := 2 ^ sp_dig n 0 ||| 2 ^ sp_dig n 1 ||| 2 ^ sp_dig n 2) (m := 2 ^ sp_dig n 3)
  have r2 := Nat.right_le_or (n := 2 ^ sp_dig n 0 ||| 2 ^ sp_dig n 1 ||| 2 ^ sp_dig n 2) (m := 2 ^ sp_dig n 3)
  have o3 := Nat.left_le_or (n := 2 ^ sp_dig n 0 ||| 2 ^ sp_dig n 1) (m := 2 ^ sp_dig n 2)
  have r3 := Nat.right_le_or (n := 2 ^ sp_dig n 0 ||| 2 ^ sp_dig n 1) (m := 2 ^ sp_dig n 2)
  have o4 := Nat.left_le_or (n := 2 ^ sp_dig n 0) (m := 2 ^ sp_dig n 1)
  have r4 := Nat.right_le_or (n := 2 ^ sp_dig n 0) (m := 2 ^ sp_dig n 1)
  rw [hm] at o1 r1
  have d0 := sp_p31 (d := sp_dig n 0) (by omega)
  have d1 := sp_p31 (d := sp_dig n 1) (by omega)
  have d2 := sp_p31 (d := sp_dig n 2) (by omega)
  have d3 := sp_p31 (d := sp_dig n 3) (by omega)
  have d4 := sp_p31 (d := sp_dig n 4) (by omega)
  have hall := sp_isO_d5 _ d0 _ d1 _ d2 _ d3 _ d4
  rw [hm, show (!(31 == 31)) = false from rfl, Bool.false_or] at hall
  simp only [Bool.and_eq_true, bne_iff_ne, ne_eq] at hall
  obtain ⟨⟨⟨⟨⟨⟨⟨⟨⟨h01, h02⟩, h03⟩, h04⟩, h12⟩, h13⟩, h14⟩, h23⟩, h24⟩, h34⟩ := hall
  have c5 : ∀ k, k < 5 → k = 0 ∨ k = 1 ∨ k = 2 ∨ k = 3 ∨ k = 4 := by omega
  refine ⟨fun k hk => ?_, fun i hi j hj e => ?_⟩
  · rcases c5 k hk with rfl | rfl | rfl | rfl | rfl <;> assumption
  · rcases c5 i hi with rfl | rfl | rfl | rfl | rfl <;> rcases c5 j hj with rfl | rfl | rfl | rfl | rfl <;> first | rfl | exact absurd e (by assumption) | exact absurd e.symm (by assumption)
theorem ok_s_ord {A : pk_St} (h : pk_okS A) {n : Nat} (hn : sp_isO n = true) : pk_okS (s_ord A (fun j => sp_dig n (4 - j))) := by
  obtain ⟨h1, h2⟩ := sp_isO_dig hn
  refine ⟨h.1, h.2.1, h.2.2.1, h.2.2.2.1, h.2.2.2.2.1, fun j hj => h1 (4 - j) (by omega), fun i hi j hj e => ?_, h.2.2.2.2.2.2.2⟩
  have := h2 (4 - i) (by omega) (4 - j) (by omega) e
  omega
theorem sp_gb_out {A : pk_St} {p r q : Nat} {f : Nat → Nat} (h1 : q ≠ p) (h2 : q ≠ r) : sp_gb A p r f q = f q := by
  unfold sp_gb
  repeat' split
  all_goals first | rfl | (exfalso; omega)
theorem sp_gro_out {A : pk_St} (h : pk_okS A) (t : Nat) : ∀ q, q < 48 → sp_in A q = false → sp_gro A t q = 0 := by
  induction t with
  | zero => exact h.2.2.2.2.2.2.2.2
  | succ t ih =>
    intro q hq hi
    rw [sp_gro]
    split
    · rename_i ht
      have h0 := sp_in_lt h ht
      have hw := h.1
      have e0 : q ≠ t := fun e => by rw [e, ht] at hi; cases hi
      have key1 : t % 8 + 1 < sp_w A → q ≠ t + 1 := fun z e => by
        rw [e, sp_in_of (show (t + 1) % 8 < sp_w A by omega) (show (t + 1) / 8 < sp_h A by omega)] at hi
        cases hi
      have key2 : t / 8 + 1 < sp_h A → q ≠ t + 8 := fun z e => by
        rw [e, sp_in_of (show (t + 8) % 8 < sp_w A by omega) (show (t + 8) / 8 < sp_h A by omega)] at hi
        cases hi
      unfold sp_gs
      split
      · rename_i z2
        rw [sp_gb_out e0 (key2 z2)]
        split
        · rename_i z1
          rw [sp_gb_out e0 (key1 z1)]
          exact ih q hq hi
        · exact ih q hq hi
      · split
        · rename_i z1
          rw [sp_gb_out e0 (key1 z1)]
          exact ih q hq hi
        · exact ih q hq hi
    · exact ih q hq hi
theorem ok_S {X : pk_X} {k : Nat} {R : pk_Ro} (h : pk_okX X) (h1 : R.2.1 < 4) (h2 : R.2.2.1 ≤ 24) : pk_okX (x_S X k R) := by
  refine ⟨h.1, h.2.1, h.2.2.1, h.2.2.2.1, fun j hj => ?_⟩
  show (if j = k then R else X.2.2.2.2 j).2.1 < 4 ∧ (if j = k then R else X.2.2.2.2 j).2.2.1 ≤ 24
  split
  · exact ⟨h1, h2⟩
  · exact h.2.2.2.2 j hj
/-- what is read -/
def sp_zok (n : Nat) (z : sp_Z) : Prop := z.1 ≤ n ∧ z.2.1 ≤ 8 ∧ z.2.2.1 < 6 ∧ z.2.2.2.1 ≤ 8 ∧ (∀ q, z.2.2.2.2 q < 32) ∧ ∀ q, ¬ (q / 8 < z.2.2.1 ∧ q % 8 < z.2.1) → ¬ (q / 8 = z.2.2.1 ∧ q % 8 < z.2.2.2.1) → z.2.2.2.2 q = 0
theorem sp_el_of {w l k : Nat} (h : sp_el w l k = true) : k ≠ 0 ∧ (l = 0 ∨ k = w) := by
  unfold sp_el at h
  simpa using h
theorem sp_rd_ok {f : Nat → Nat} {n : Nat} (t : Nat) : ∀ z, sp_zok n z → (sp_rd f n t z).1 = true → (1 ≤ (sp_rd f n t z).2.2.1 ∧ (sp_rd f n t z).2.2.1 ≤ 8) ∧ (1 ≤ (sp_rd f n t z).2.2.2.1 ∧ (sp_rd f n t z).2.2.2.1 ≤ 6) ∧ (∀ q, (sp_rd f n t z).2.2.2.2.2 q < 32) ∧ ∀ q, ¬ (q % 8 < (sp_rd f n t z).2.2.1 ∧ q / 8 < (sp_rd f n t z).2.2.2.1) → (sp_rd f n t z).2.2.2.2.2 q = 0 := by
  induction t with
  | zero => intro z hz h; cases h
  | succ t ih =>
    intro z hz
    obtain ⟨x, w, l, k, g⟩ := z
    obtain ⟨z1, z2, z3, z4, z5, z6⟩ := hz
    dsimp only at z1 z2 z3 z4 z5 z6
    have hyl := sp_bk_le (f := f) z1
    rw [sp_rd]
    dsimp only
    split
    · intro h
      have he := sp_el_of h
      dsimp only
      refine ⟨⟨by omega, z4⟩, ⟨by omega, by omega⟩, z5, fun q hq => z6 q (fun e => hq ?_) (fun e => hq ?_)⟩
      · exact ⟨by omega, by omega⟩
      · exact ⟨by omega, by omega⟩
    · rename_i c0
      split
      · split
        · rename_i c47 c
          have he := sp_el_of c.1
          refine ih _ ⟨?_, z4, c.2, Nat.zero_le 8, z5, fun q h1 h2 => z6 q (fun e => h1 ?_) (fun e => h1 ?_)⟩
          · exact sp_ltr_lt c0
          · exact ⟨by dsimp only; omega, by dsimp only; omega⟩
          · exact ⟨by dsimp only; omega, by dsimp only; omega⟩
        · intro h; cases h
      · split
        · rename_i so hso
          obtain ⟨g1, g2, g3, g4, g5⟩ := sp_rr_op (sp_ltr_lt c0) z2 hso
          refine ih _ ⟨g5, z2, z3, by dsimp only; omega, fun q => ?_, fun q h1 h2 => ?_⟩
          · show sp_wr g (l * 8 + k) so.1 so.2 q < 32
            unfold sp_wr
            split
            · exact g1
            · exact z5 q
          · show sp_wr g (l * 8 + k) so.1 so.2 q = 0
            dsimp only at h1 h2
            unfold sp_wr
            rw [if_neg (by omega)]
            exact z6 q h1 (by omega)
        · intro h; cases h
theorem sp_text_ok {f : Nat → Nat} {n : Nat} (h : (sp_text f n).1 = true) : (1 ≤ (sp_text f n).2.2.1 ∧ (sp_text f n).2.2.1 ≤ 8) ∧ (1 ≤ (sp_text f n).2.2.2.1 ∧ (sp_text f n).2.2.2.1 ≤ 6) ∧ (∀ q, (sp_text f n).2.2.2.2.2 q < 32) ∧ ∀ q, ¬ (q % 8 < (sp_text f n).2.2.1 ∧ q / 8 < (sp_text f n).2.2.2.1) → (sp_text f n).2.2.2.2.2 q = 0 :=
  sp_rd_ok 101 sp_z0 ⟨Nat.zero_le n, by decide, by decide, by decide, fun _ => by show 0 < 32; decide, fun _ _ _ => rfl⟩ h
theorem ok_seed {X : pk_X} (h : pk_okX X) (v : Int32) : pk_okX (op_seed X v).2 := by
  unfold op_seed
  split
  · exact h
  · rename_i hv
    obtain ⟨n, hn, rfl⟩ := nI_of hv
    exact ok_A h (ok_s_d h.1 (by rw [nI_clamp hn]; exact hn))
theorem ok_tell {X : pk_X} (h : pk_okX X) (i k t : Int32) : pk_okX (op_tell X i k t).2 := by
  unfold op_tell
  split
  · exact h
  · split
    · exact h
    · rename_i h1 h2
      rw [Bool.not_eq_false, Bool.and_eq_true, Bool.and_eq_true] at h1
      exact ok_A (ok_K h) (ok_s_ink h.1 (sp_b_c h1.1.2 (by decide)) (sp_b_c h1.2 (by decide)))
theorem ok_put {X : pk_X} (h : pk_okX X) (x y v : Int32) : pk_okX (op_put X x y v).2 := by
  unfold op_put
  split
  · exact h
  · split
    · exact h
    · rename_i h1 h2
      rw [Bool.not_eq_false, Bool.and_eq_true] at h1
      obtain ⟨i, j, hi, hj, rfl, rfl⟩ := sp_inb_of h.1 h1.1
      have hw := h.1.1
      have hh := h.1.2.1
      rw [nI_clamp (by omega), nI_clamp (by omega)]
      exact ok_A (ok_K h) (ok_s_set h.1 (sp_in_of (by omega) (by omega)) (sp_b_c h1.2 (by decide)))
theorem ok_undo {X : pk_X} (h : pk_okX X) : pk_okX (op_undo X).2 := by
  unfold op_undo
  split
  · exact h
  · have h6 := h.2.1.1
    exact ⟨h.2.1.2 _ (by omega), ⟨by dsimp only; omega, fun k hk => h.2.1.2 k (by dsimp only at hk; omega)⟩, h.2.2⟩
theorem ok_image {X : pk_X} (h : pk_okX X) : pk_okX (op_image X).2 := ⟨h.1, h.2.1, fun _ => ⟨h.1, h.2.1⟩, h.2.2.2⟩
theorem ok_restore {X : pk_X} (h : pk_okX X) : pk_okX (op_restore X).2 := by
  unfold op_restore
  split
  · exact h
  · rename_i h1
    rw [Bool.not_eq_false] at h1
    obtain ⟨a, b⟩ := h.2.2.1 h1
    exact ⟨a, b, h.2.2⟩
theorem ok_order {X : pk_X} (h : pk_okX X) (f : Int32) : pk_okX (op_order X f).2 := by
  unfold op_order
  split
  · exact h
  · split
    · exact h
    · rename_i h1 h2
      rw [Bool.not_eq_false] at h1
      unfold sp_isOI at h1
      rw [Bool.and_eq_true] at h1
      exact ok_A (ok_K h) (ok_s_ord h.1 h1.2)
theorem pm_1le {v : Int32} (h : nI 1 ≤ v) : ∃ n, n < 2 ^ 31 ∧ v = nI n ∧ 1 ≤ n := by
  have hpos : ¬ v < 0 := fun z => absurd (Int32.lt_of_le_of_lt h z) (by decide)
  obtain ⟨n, hn, rfl⟩ := nI_of hpos
  exact ⟨n, hn, rfl, (nI_leI (by decide) hn).mp h⟩
theorem ok_size {X : pk_X} (h : pk_okX X) (c v : Int32) : pk_okX (op_size X c v).2 := by
  unfold op_size
  by_cases hc : c = 0
  · rw [if_pos hc, if_pos hc]
    split
    · exact h
    · rename_i h1
      rw [Bool.not_eq_false, Bool.and_eq_true, Bool.and_eq_true, decide_eq_true_eq, decide_eq_true_eq] at h1
      obtain ⟨n, hn, rfl, g1⟩ := pm_1le h1.1.2
      have g3 := (nI_leI hn (by decide)).mp h1.2
      split
      · exact h
      · rw [nI_clamp hn]
        exact ok_A (ok_K h) (ok_s_wh h.1 ⟨g1, g3⟩ h.1.2.1)
  · rw [if_neg hc, if_neg hc]
    split
    · exact h
    · rename_i h1
      rw [Bool.not_eq_false, Bool.and_eq_true, Bool.and_eq_true, decide_eq_true_eq, decide_eq_true_eq] at h1
      obtain ⟨n, hn, rfl, g1⟩ := pm_1le h1.1.2
      have g3 := (nI_leI hn (by decide)).mp h1.2
      split
      · exact h
      · rw [nI_clamp hn]
        exact ok_A (ok_K h) (ok_s_wh h.1 h.1.1 ⟨g1, g3⟩)
theorem ok_sheet {X : pk_X} (h : pk_okX X) (s l n : Int32) : pk_okX (op_sheet X s l n).2 := by
  unfold op_sheet
  split
  · exact h
  · split
    · exact h
    · rename_i h1 h2
      rw [not_or, Bool.not_eq_false, Bool.and_eq_true] at h1
      obtain ⟨m, hm, rfl⟩ := nI_of h2
      refine ok_S h (sp_b_c h1.1.2 (by decide)) ?_
      dsimp only
      rw [nI_clamp hm]
      exact (nI_leI hm (by decide)).mp (Int32.not_lt.mp h1.2)
theorem ok_drop {X : pk_X} (h : pk_okX X) (s : Int32) : pk_okX (op_drop X s).2 := by
  unfold op_drop
  split
  · exact h
  · split
    · exact h
    · rename_i h1 h2
      rw [Bool.not_eq_false] at h1
      have := h.2.2.2.2 _ (sp_b_c h1 (by decide))
      exact ok_S h this.1 this.2
theorem ok_item {X : pk_X} (h : pk_okX X) (s l i : Int32) (v : Int64) : pk_okX (op_item X s l i v).2 := by
  unfold op_item
  split
  · exact h
  · split
    · exact h
    · rename_i h1 h2
      rw [Bool.not_eq_false, Bool.and_eq_true] at h1
      have := h.2.2.2.2 _ (sp_b_c h1.1 (by decide))
      exact ok_S h this.1 this.2
theorem ok_copy {X : pk_X} (h : pk_okX X) (f i t j n : Int32) : pk_okX (op_copy X f i t j n).2 := by
  unfold op_copy
  split
  · exact h
  · split
    · exact h
    · split
      · exact h
      · split
        · exact h
        · rename_i h1 h2 h3 h4
          rw [Bool.not_eq_false, Bool.and_eq_true] at h1
          have := h.2.2.2.2 _ (sp_b_c h1.2 (by decide))
          exact ok_S h this.1 this.2
theorem ok_film {X : pk_X} (h : pk_okX X) (y s l i : Int32) : pk_okX (op_film X y s l i).2 := by
  unfold op_film
  split
  · exact h
  · split
    · exact h
    · rename_i h1 h2
      rw [Bool.not_eq_false, Bool.and_eq_true, Bool.and_eq_true] at h1
      have := h.2.2.2.2 _ (sp_b_c h1.2.1 (by decide))
      exact ok_S h this.1 this.2
theorem ok_fill {X : pk_X} (h : pk_okX X) (a v : Int32) : pk_okX (op_fill X a v).2 := by
  unfold op_fill
  split
  · exact h
  · split
    · exact h
    · rename_i h1 h2
      rw [Bool.not_eq_false, Bool.and_eq_true] at h1
      exact ok_A (ok_K h) (sp_fl_ok h.1 (sp_b_c h1.2 (by decide)) 48)
theorem ok_grow {X : pk_X} (h : pk_okX X) : pk_okX (op_grow X).2 := by
  unfold op_grow
  split
  · exact h
  · exact ok_A (ok_K h) (h.1.sets (sp_gro_lt h.1 48) (sp_gro_out h.1 48))
theorem ok_dr {X : pk_X} (h : pk_okX X) (k : Nat) : pk_okX (sp_dr X k) := by
  induction k with
  | zero => exact h
  | succ k ih => exact ok_A (ok_K ih) (sp_drift_ok ih.1)
theorem ok_drift {X : pk_X} (h : pk_okX X) (n : Int32) : pk_okX (op_drift X n).2 := by
  unfold op_drift
  split
  · exact h
  · exact ok_dr h _
theorem ok_type {X : pk_X} (h : pk_okX X) (v : Int32) : pk_okX (op_type X v).2 := by
  unfold op_type
  split
  · exact h
  · rename_i h1
    rw [not_or] at h1
    have hpos : ¬ v < 0 := fun z => h1.1 (Int32.lt_trans z (by decide))
    obtain ⟨n, hn, rfl⟩ := nI_of hpos
    have g1 := (nI_leI (by decide) hn).mp (Int32.not_lt.mp h1.1)
    have g2 := (nI_leI hn (by decide)).mp (Int32.not_lt.mp h1.2)
    split
    · rename_i h2
      refine ⟨h.1, h.2.1, h.2.2.1, ⟨h2, fun i hi => ?_⟩, h.2.2.2.2⟩
      show 32 ≤ (if i = X.2.2.2.1.1 then (nI n).toNatClampNeg else X.2.2.2.1.2 i) ∧ (if i = X.2.2.2.1.1 then (nI n).toNatClampNeg else X.2.2.2.1.2 i) ≤ 126
      dsimp only at hi
      split
      · rw [nI_clamp hn]
        exact ⟨g1, g2⟩
      · exact h.2.2.2.1.2 i (by omega)
    · exact h
theorem ok_draw {X : pk_X} (h : pk_okX X) : pk_okX (op_draw X).2 := by
  unfold op_draw
  split
  · exact ⟨h.1, h.2.1, h.2.2.1, ⟨Nat.zero_le _, fun i hi => absurd hi (Nat.not_lt_zero i)⟩, h.2.2.2.2⟩
  · rename_i h1
    rw [Bool.not_eq_false] at h1
    obtain ⟨g1, g2, g3, g4⟩ := sp_text_ok h1
    refine ⟨⟨g1, g2, h.1.2.2.1, h.1.2.2.2.1, h.1.2.2.2.2.1, h.1.2.2.2.2.2.1, h.1.2.2.2.2.2.2.1, fun q _ => g3 q, fun q _ hi => g4 q (fun e => ?_)⟩, ⟨Nat.zero_le _, fun i hi => absurd hi (Nat.not_lt_zero i)⟩, h.2.2.1, ⟨Nat.zero_le _, fun i hi => absurd hi (Nat.not_lt_zero i)⟩, h.2.2.2.2⟩
    have : sp_in (s_new X.1 (sp_text X.2.2.2.1.2 X.2.2.2.1.1).2.2.1 (sp_text X.2.2.2.1.2 X.2.2.2.1.1).2.2.2.1 (sp_text X.2.2.2.1.2 X.2.2.2.1.1).2.2.2.2.2) q = true := sp_in_of e.1 e.2
    exact absurd (this.symm.trans hi) (by decide)
