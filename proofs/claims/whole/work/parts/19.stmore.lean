/-! State: sets drawn, clearing, becoming another. -/
section PkCp
variable {Γ : pk_T} {κ : pk_K} {cc : ByteArray} {M : pk_M} {ls : List (Option Value)} {st : List Value} {pc cu su : Nat}
theorem pk_copyIN {idx a0 a n0 n1 sp dp n : Nat} (hd : decode cc pc = .ok (.invokestatic idx, 3)) (hw1 : Cond.methodLink κ.1 idx arraycopyName ∈ pk_tbl) (hw2 : Cond.native arraycopyName ∈ pk_tbl) (hw3 : Cond.static arraycopyName ∈ pk_tbl) (hw4 : Cond.initialized "java/lang/System" ∈ pk_tbl) (hs0 : pk_S M a0 = some (.inl (.int, n0))) (hs1 : pk_S M a = some (.inl (.int, n1))) (hq0 : 5 ≤ a0) (hq1 : 5 ≤ a) (g4 : sp + n ≤ n0) (g5 : dp + n ≤ n1) (g6 : n0 < 2 ^ 31) (g7 : n1 < 2 ^ 31)
    (h1 : Nat.ble 1 κ.2.2.2.2.1.frames = true) (h2 : Nat.ble ((st.map fun v => v.category).sum + (nativeFrameWords "java/lang/System" "arraycopy" 5 + 11)) κ.2.2.2.2.1.locals = true)
    (k : pk_G Γ κ cc (pk_cI M a0 sp a dp n) ls st (pc + 3) cu su) : pk_G Γ κ cc M ls (.int (nI n) :: .int (nI dp) :: .ref a :: .int (nI sp) :: .ref a0 :: st) pc cu su := by
  have e1 := nI_clamp (n := sp) (by omega)
  have e2 := nI_clamp (n := dp) (by omega)
  have e3 := nI_clamp (n := n) (by omega)
  exact pk_copyI hd hw1 hw2 hw3 hw4 hs0 hs1 hq0 hq1 (nI_pos (by omega)) (nI_pos (by omega)) (nI_pos (by omega)) (by rw [e1, e3]; exact g4) (by rw [e2, e3]; exact g5) h1 h2 (by rw [e1, e2, e3]; exact k)
theorem pk_copyJN {idx a0 a n0 n1 sp dp n : Nat} (hd : decode cc pc = .ok (.invokestatic idx, 3)) (hw1 : Cond.methodLink κ.1 idx arraycopyName ∈ pk_tbl) (hw2 : Cond.native arraycopyName ∈ pk_tbl) (hw3 : Cond.static arraycopyName ∈ pk_tbl) (hw4 : Cond.initialized "java/lang/System" ∈ pk_tbl) (hs0 : pk_S M a0 = some (.inl (.long, n0))) (hs1 : pk_S M a = some (.inl (.long, n1))) (hq0 : 5 ≤ a0) (hq1 : 5 ≤ a) (g4 : sp + n ≤ n0) (g5 : dp + n ≤ n1) (g6 : n0 < 2 ^ 31) (g7 : n1 < 2 ^ 31)
    (h1 : Nat.ble 1 κ.2.2.2.2.1.frames = true) (h2 : Nat.ble ((st.map fun v => v.category).sum + (nativeFrameWords "java/lang/System" "arraycopy" 5 + 11)) κ.2.2.2.2.1.locals = true)
    (k : pk_G Γ κ cc (pk_cJ M a0 sp a dp n) ls st (pc + 3) cu su) : pk_G Γ κ cc M ls (.int (nI n) :: .int (nI dp) :: .ref a :: .int (nI sp) :: .ref a0 :: st) pc cu su := by
  have e1 := nI_clamp (n := sp) (by omega)
  have e2 := nI_clamp (n := dp) (by omega)
  have e3 := nI_clamp (n := n) (by omega)
  exact pk_copyJ hd hw1 hw2 hw3 hw4 hs0 hs1 hq0 hq1 (nI_pos (by omega)) (nI_pos (by omega)) (nI_pos (by omega)) (by rw [e1, e3]; exact g4) (by rw [e2, e3]; exact g5) h1 h2 (by rw [e1, e2, e3]; exact k)
end PkCp
/-- a whole array of ints at once -/
def pk_wI (M : pk_M) (p : Nat) (f : Nat → Int32) : pk_M := (M.1, fun q j => if q = p then f j else M.2.1 q j, M.2.2.1, M.2.2.2)
theorem pk_I_wI (M : pk_M) (p : Nat) (f : Nat → Int32) (q j : Nat) : pk_I (pk_wI M p f) q j = if q = p then f j else pk_I M q j := rfl
theorem pk_wI_id (M : pk_M) (p : Nat) : pk_wI M p (pk_I M p) = M := by
  have : (fun q j => if q = p then pk_I M p j else M.2.1 q j) = M.2.1 := by
    funext q j
    by_cases h : q = p
    · subst h; simp [pk_I]
    · simp [h]
  simp only [pk_wI, this]
theorem pk_wI_sI (M : pk_M) (p k : Nat) (f : Nat → Int32) (x : Int32) : pk_sI (pk_wI M p f) p k x = pk_wI M p (fun j => if j = k then x else f j) := by
  have : (fun q j => if q = p ∧ j = k then x else if q = p then f j else M.2.1 q j) = (fun q j => if q = p then (if j = k then x else f j) else M.2.1 q j) := by
    funext q j
    by_cases h : q = p <;> by_cases h2 : j = k <;> simp [h, h2]
  simp only [pk_wI, pk_sI, this]
theorem pk_sI_w (M : pk_M) (p k : Nat) (x : Int32) : pk_sI M p k x = pk_wI M p (fun j => if j = k then x else pk_I M p j) := by
  rw [← pk_wI_sI, pk_wI_id]
theorem pk_fr.wI {D : Nat → Prop} {M : pk_M} {p : Nat} {f : Nat → Int32} (hp : D p) : pk_fr D M (pk_wI M p f) := ⟨rfl, rfl, rfl, fun q hq => by
  have : q ≠ p := fun e => hq (e ▸ hp)
  funext j
  simp [pk_wI, this]⟩

theorem pk_gS0 {M : pk_M} {p k q j : Nat} {x z : Int32} (h : q ≠ p ∨ j ≠ k) (e : pk_I M q j = z) : pk_I (pk_sI M p k x) q j = z := by
  rw [pk_I_sI, if_neg (by omega)]; exact e
theorem pk_gS1 {M : pk_M} {p k q j : Nat} {x z : Int32} (h1 : q = p) (h2 : j = k) (e : x = z) : pk_I (pk_sI M p k x) q j = z := by
  rw [pk_I_sI, if_pos ⟨h1, h2⟩]; exact e
theorem pk_gC0 {M : pk_M} {a i p k n q j : Nat} {z : Int32} (h : q ≠ p ∨ j < k ∨ k + n ≤ j) (e : pk_I M q j = z) : pk_I (pk_cI M a i p k n) q j = z := by
  rw [pk_I_cI, if_neg (by omega)]; exact e
theorem pk_gC1 {M : pk_M} {a i p k n q j : Nat} {z : Int32} (h : q = p ∧ k ≤ j ∧ j < k + n) (e : pk_I M a (i + (j - k)) = z) : pk_I (pk_cI M a i p k n) q j = z := by
  rw [pk_I_cI, if_pos h]; exact e
theorem pk_gW0 {M : pk_M} {p q j : Nat} {f : Nat → Int32} {z : Int32} (h : q ≠ p) (e : pk_I M q j = z) : pk_I (pk_wI M p f) q j = z := by
  rw [pk_I_wI, if_neg h]; exact e
theorem pk_gW1 {M : pk_M} {p q j : Nat} {f : Nat → Int32} {z : Int32} (h : q = p) (e : f j = z) : pk_I (pk_wI M p f) q j = z := by
  rw [pk_I_wI, if_pos h]; exact e

set_option maxRecDepth 100000 in
set_option maxHeartbeats 4000000 in
theorem e_X4_setsDrawn {Γ : pk_T} {M : pk_M} {L p : Nat} {A : pk_St} (hW : pk_WF L M) (hp : pk_isS p = true) (hA : pk_At M p A) (hok : pk_okS A) : pk_E Γ yX4_setsDrawn cX4_setsDrawn 4 (some .int) 3 0 0 M [.ref p] (fun r M' => r = some (.int (nI (sp_sets A))) ∧ M' = M) := by
  have hw := hok.1
  have hh := hok.2.1
  have hs := hok.2.2.2.2.2.2.2.1
  have hp5 := pk_isS_lt hp
  refine pk_meth (own := RX4) (ini := false) [some (.ref p), none, none, none] (by decide +kernel) rfl (by decide +kernel) rfl rfl ?_
  have hend : sp_sets A = sp_fold (sp_setsF A) 0 (8 * sp_h A) := sp_fold_end hok (fun q x h => by simp [sp_setsF, h])
  rw [hend]
  refine pk_iconst (v := nI 0) dX4_setsDrawn_0 (by decide) ?_
  refine pk_istore_n dX4_setsDrawn_1 rfl rfl ?_
  refine pk_iconst (v := nI 0) dX4_setsDrawn_2 (by decide) ?_
  refine pk_istore_n dX4_setsDrawn_3 rfl rfl ?_
  refine pk_fgt (ls' := [some (.ref p), some (.int (nI (sp_fold (sp_setsF A) 0 (8 * 0)))), some (.int (nI 0)), none]) (by repeat first | exact trivial | refine ⟨rfl, ?_⟩) ?_
  refine pk_for (sp_h A) (fun _ => M) (fun j => [some (.ref p), some (.int (nI (sp_fold (sp_setsF A) 0 (8 * j)))), some (.int (nI j)), none]) ?_ ?_ 0 (by omega)
  · intro j hj K1
    refine pk_iload_n dX4_setsDrawn_4 rfl ?_
    refine pk_aload_n dX4_setsDrawn_5 rfl ?_
    refine pk_getN dX4_setsDrawn_6 fl_X4_28 rfl (hW.ss hp) hA.2.1 ?_
    first | refine pk_geN (tgt := 45) dX4_setsDrawn_9 (by decide) (by omega) (by omega) (fun c_9 => ?_) (fun c_9 => ?_) | refine pk_icmp_ge (tgt := 45) dX4_setsDrawn_9 (by decide) (fun c_9 => ?_) (fun c_9 => ?_)
    · omega
    · refine pk_iconst (v := nI 0) dX4_setsDrawn_12 (by decide) ?_
      refine pk_istore_n dX4_setsDrawn_13 rfl rfl ?_
      refine pk_for (sp_w A) (fun _ => M) (fun i => [some (.ref p), some (.int (nI (sp_fold (sp_setsF A) 0 (8 * j + i)))), some (.int (nI j)), some (.int (nI i))]) ?_ ?_ 0 (by omega)
      · intro i hi K
        have hsj := hs (j * 8 + i) (by omega)
        refine pk_iload_n dX4_setsDrawn_14 rfl ?_
        refine pk_aload_n dX4_setsDrawn_15 rfl ?_
        refine pk_getN dX4_setsDrawn_16 fl_X4_24 rfl (hW.ss hp) hA.1 ?_
        first | refine pk_geN (tgt := 39) dX4_setsDrawn_19 (by decide) (by omega) (by omega) (fun c_19 => ?_) (fun c_19 => ?_) | refine pk_icmp_ge (tgt := 39) dX4_setsDrawn_19 (by decide) (fun c_19 => ?_) (fun c_19 => ?_)
        · omega
        · refine pk_iload_n dX4_setsDrawn_22 rfl ?_
          refine pk_iconst (v := nI 1) dX4_setsDrawn_23 (by decide) ?_
          refine pk_aload_n dX4_setsDrawn_24 rfl ?_
          refine pk_iload_n dX4_setsDrawn_25 rfl ?_
          refine pk_iload_n dX4_setsDrawn_26 rfl ?_
          refine pk_Vi dX4_setsDrawn_27 ml_X4_54 yw_X4_at yv_X4_at (hW.ss hp) (e_X4_at hW hp hA hok _ _ (sp_at_n hok hi hj)) rfl rfl rfl rfl rfl rfl rfl ?_
          first | refine pk_shlNN dX4_setsDrawn_30 (by omega) ?_ | refine pk_ishl dX4_setsDrawn_30 ?_
          first | refine pk_orNN dX4_setsDrawn_31 ?_ | refine pk_ior dX4_setsDrawn_31 ?_
          refine pk_istore_n dX4_setsDrawn_32 rfl rfl ?_
          first | refine pk_inc1 dX4_setsDrawn_33 rfl rfl ?_ | refine pk_iinc dX4_setsDrawn_33 rfl rfl rfl ?_
          refine pk_goto (tgt := 14) dX4_setsDrawn_36 (by decide) ?_
          refine pk_lsq ?_ K
          have e1 := sp_in_ij hok hi hj
          have e2 : sp_fold (sp_setsF A) 0 (8 * j + (i + 1)) = sp_fold (sp_setsF A) 0 (8 * j + i) ||| 2 ^ sp_s A (j * 8 + i) := by
            rw [show 8 * j + i = j * 8 + i by omega] at e1 ⊢
            rw [show 8 * j + (i + 1) = j * 8 + i + 1 by omega, sp_fold_succ]
            generalize sp_fold (sp_setsF A) 0 (j * 8 + i) = y
            simp only [sp_setsF, e1, if_true]
          rw [e2]
          rfl
      · rw [sp_fold_line hok (fun q x h => by simp [sp_setsF, h])] at K1
        refine pk_iload_n dX4_setsDrawn_14 rfl ?_
        refine pk_aload_n dX4_setsDrawn_15 rfl ?_
        refine pk_getN dX4_setsDrawn_16 fl_X4_24 rfl (hW.ss hp) hA.1 ?_
        first | refine pk_geN (tgt := 39) dX4_setsDrawn_19 (by decide) (by omega) (by omega) (fun c_19 => ?_) (fun c_19 => ?_) | refine pk_icmp_ge (tgt := 39) dX4_setsDrawn_19 (by decide) (fun c_19 => ?_) (fun c_19 => ?_)
        · first | refine pk_inc1 dX4_setsDrawn_39 rfl rfl ?_ | refine pk_iinc dX4_setsDrawn_39 rfl rfl rfl ?_
          refine pk_goto (tgt := 4) dX4_setsDrawn_42 (by decide) ?_
          exact pk_fgt (by repeat first | exact trivial | refine ⟨rfl, ?_⟩) K1
        · omega
  · refine pk_iload_n dX4_setsDrawn_4 rfl ?_
    refine pk_aload_n dX4_setsDrawn_5 rfl ?_
    refine pk_getN dX4_setsDrawn_6 fl_X4_28 rfl (hW.ss hp) hA.2.1 ?_
    first | refine pk_geN (tgt := 45) dX4_setsDrawn_9 (by decide) (by omega) (by omega) (fun c_9 => ?_) (fun c_9 => ?_) | refine pk_icmp_ge (tgt := 45) dX4_setsDrawn_9 (by decide) (fun c_9 => ?_) (fun c_9 => ?_)
    · refine pk_iload_n dX4_setsDrawn_45 rfl ?_
      refine pk_reti dX4_setsDrawn_46 (by first | rfl | exact pk_nbi _) ?_
      exact ⟨rfl, rfl⟩
    · omega

def sp_inb2 (w h : Nat) (x y : Int32) : Bool := (decide (0 ≤ x) && decide (x < nI w)) && (decide (0 ≤ y) && decide (y < nI h))
theorem sp_inb2_n {w h i j : Nat} (hw : w ≤ 8) (hh : h ≤ 6) (hi : i < 2 ^ 31) (hj : j < 2 ^ 31) : sp_inb2 w h (nI i) (nI j) = (decide (i < w) && decide (j < h)) := by
  simp only [sp_inb2, nI_pos' hi, nI_pos' hj, nI_ltI hi (show w < 2 ^ 31 by omega), nI_ltI hj (show h < 2 ^ 31 by omega), decide_true, Bool.true_and]

set_option maxRecDepth 100000 in
set_option maxHeartbeats 4000000 in
theorem e_X4_isInside2 {Γ : pk_T} {M : pk_M} {L p w h : Nat} (hW : pk_WF L M) (hp : pk_isS p = true) (hw : pk_I M p 4 = nI w) (hh : pk_I M p 5 = nI h) (hw8 : w ≤ 8) (hh6 : h ≤ 6) (x y : Int32) : pk_E Γ yX4_isInside cX4_isInside 3 (some .boolean) 1 0 0 M [.ref p, .int x, .int y] (fun r M' => r = some (.int (pk_bi (sp_inb2 w h x y))) ∧ M' = M) := by
  refine pk_meth (own := RX4) (ini := false) [some (.ref p), some (.int x), some (.int y)] (by decide +kernel) rfl (by decide +kernel) rfl rfl ?_
  refine pk_iload_n dX4_isInside_0 rfl ?_
  refine pk_if_lt (tgt := 28) dX4_isInside_1 (by decide) (fun c_1 => ?_) (fun c_1 => ?_)
  · refine pk_iconst (v := nI 0) dX4_isInside_28 (by decide) ?_
    refine pk_reti dX4_isInside_29 (by first | rfl | exact pk_nbi _) ?_
    refine ⟨?_, rfl⟩
    first | (simp [sp_inb2, pk_bi, Int32.not_le.mpr c_1]; rfl) | (simp [sp_inb2, pk_bi, Int32.not_lt.mpr c_9]; rfl) | (simp [sp_inb2, pk_bi, Int32.not_le.mpr c_13]; rfl) | (simp [sp_inb2, pk_bi, Int32.not_lt.mpr c_21]; rfl) | (simp [sp_inb2, pk_bi, Int32.not_lt.mp c_1, Int32.not_le.mp c_9, Int32.not_lt.mp c_13, Int32.not_le.mp c_21]; rfl)
  · refine pk_iload_n dX4_isInside_4 rfl ?_
    refine pk_aload_n dX4_isInside_5 rfl ?_
    refine pk_getN dX4_isInside_6 fl_X4_24 rfl (hW.ss hp) hw ?_
    first | refine pk_geN (tgt := 28) dX4_isInside_9 (by decide) (by omega) (by omega) (fun c_9 => ?_) (fun c_9 => ?_) | refine pk_icmp_ge (tgt := 28) dX4_isInside_9 (by decide) (fun c_9 => ?_) (fun c_9 => ?_)
    · refine pk_iconst (v := nI 0) dX4_isInside_28 (by decide) ?_
      refine pk_reti dX4_isInside_29 (by first | rfl | exact pk_nbi _) ?_
      refine ⟨?_, rfl⟩
      first | (simp [sp_inb2, pk_bi, Int32.not_le.mpr c_1]; rfl) | (simp [sp_inb2, pk_bi, Int32.not_lt.mpr c_9]; rfl) | (simp [sp_inb2, pk_bi, Int32.not_le.mpr c_13]; rfl) | (simp [sp_inb2, pk_bi, Int32.not_lt.mpr c_21]; rfl) | (simp [sp_inb2, pk_bi, Int32.not_lt.mp c_1, Int32.not_le.mp c_9, Int32.not_lt.mp c_13, Int32.not_le.mp c_21]; rfl)
    · refine pk_iload_n dX4_isInside_12 rfl ?_
      refine pk_if_lt (tgt := 28) dX4_isInside_13 (by decide) (fun c_13 => ?_) (fun c_13 => ?_)
      · refine pk_iconst (v := nI 0) dX4_isInside_28 (by decide) ?_
        refine pk_reti dX4_isInside_29 (by first | rfl | exact pk_nbi _) ?_
        refine ⟨?_, rfl⟩
        first | (simp [sp_inb2, pk_bi, Int32.not_le.mpr c_1]; rfl) | (simp [sp_inb2, pk_bi, Int32.not_lt.mpr c_9]; rfl) | (simp [sp_inb2, pk_bi, Int32.not_le.mpr c_13]; rfl) | (simp [sp_inb2, pk_bi, Int32.not_lt.mpr c_21]; rfl) | (simp [sp_inb2, pk_bi, Int32.not_lt.mp c_1, Int32.not_le.mp c_9, Int32.not_lt.mp c_13, Int32.not_le.mp c_21]; rfl)
      · refine pk_iload_n dX4_isInside_16 rfl ?_
        refine pk_aload_n dX4_isInside_17 rfl ?_
        refine pk_getN dX4_isInside_18 fl_X4_28 rfl (hW.ss hp) hh ?_
        first | refine pk_geN (tgt := 28) dX4_isInside_21 (by decide) (by omega) (by omega) (fun c_21 => ?_) (fun c_21 => ?_) | refine pk_icmp_ge (tgt := 28) dX4_isInside_21 (by decide) (fun c_21 => ?_) (fun c_21 => ?_)
        · refine pk_iconst (v := nI 0) dX4_isInside_28 (by decide) ?_
          refine pk_reti dX4_isInside_29 (by first | rfl | exact pk_nbi _) ?_
          refine ⟨?_, rfl⟩
          first | (simp [sp_inb2, pk_bi, Int32.not_le.mpr c_1]; rfl) | (simp [sp_inb2, pk_bi, Int32.not_lt.mpr c_9]; rfl) | (simp [sp_inb2, pk_bi, Int32.not_le.mpr c_13]; rfl) | (simp [sp_inb2, pk_bi, Int32.not_lt.mpr c_21]; rfl) | (simp [sp_inb2, pk_bi, Int32.not_lt.mp c_1, Int32.not_le.mp c_9, Int32.not_lt.mp c_13, Int32.not_le.mp c_21]; rfl)
        · refine pk_iconst (v := nI 1) dX4_isInside_24 (by decide) ?_
          refine pk_goto (tgt := 29) dX4_isInside_25 (by decide) ?_
          refine pk_reti dX4_isInside_29 (by first | rfl | exact pk_nbi _) ?_
          refine ⟨?_, rfl⟩
          first | (simp [sp_inb2, pk_bi, Int32.not_le.mpr c_1]; rfl) | (simp [sp_inb2, pk_bi, Int32.not_lt.mpr c_9]; rfl) | (simp [sp_inb2, pk_bi, Int32.not_le.mpr c_13]; rfl) | (simp [sp_inb2, pk_bi, Int32.not_lt.mpr c_21]; rfl) | (simp [sp_inb2, pk_bi, Int32.not_lt.mp c_1, Int32.not_le.mp c_9, Int32.not_lt.mp c_13, Int32.not_le.mp c_21]; rfl)

def sp_clr (w h : Nat) (f : Nat → Int32) (n : Nat) : Nat → Int32 := fun q => if q < n ∧ ¬ (q % 8 < w ∧ q / 8 < h) then 0 else f q

set_option maxRecDepth 100000 in
set_option maxHeartbeats 4000000 in
theorem e_X4_clearOutside {Γ : pk_T} {M : pk_M} {L p w h : Nat} (hW : pk_WF L M) (hp : pk_isS p = true) (hw : pk_I M p 4 = nI w) (hh : pk_I M p 5 = nI h) (hw8 : w ≤ 8) (hh6 : h ≤ 6) : pk_E Γ yX4_clearOutside cX4_clearOutside 3 none 2 0 0 M [.ref p] (fun r M' => r = none ∧ M' = pk_wI M (p + 4) (sp_clr w h (pk_I M (p + 4)) (48))) := by
  refine pk_meth (own := RX4) (ini := false) [some (.ref p), none, none] (by decide +kernel) rfl (by decide +kernel) rfl rfl ?_
  have hp5 := pk_isS_lt hp
  refine pk_iconst (v := nI 0) dX4_clearOutside_0 (by decide) ?_
  refine pk_istore_n dX4_clearOutside_1 rfl rfl ?_
  have e0 : M = pk_wI M (p + 4) (sp_clr w h (pk_I M (p + 4)) (8 * 0)) := (pk_wI_id M (p + 4)).symm.trans (by
    congr 1 <;> (funext q; simp [sp_clr]))
  refine pk_Mq e0 ?_
  refine pk_for 6 (fun j => pk_wI M (p + 4) (sp_clr w h (pk_I M (p + 4)) (8 * j))) (fun j => [some (.ref p), some (.int (nI j)), none]) ?_ ?_ 0 (by omega)
  · intro j hj K1
    refine pk_iload_n dX4_clearOutside_2 rfl ?_
    refine pk_bipush (v := nI 6) dX4_clearOutside_3 (by decide) ?_
    first | refine pk_geN (tgt := 48) dX4_clearOutside_5 (by decide) (by omega) (by omega) (fun c_5 => ?_) (fun c_5 => ?_) | refine pk_icmp_ge (tgt := 48) dX4_clearOutside_5 (by decide) (fun c_5 => ?_) (fun c_5 => ?_)
    · omega
    · refine pk_iconst (v := nI 0) dX4_clearOutside_8 (by decide) ?_
      refine pk_istore_n dX4_clearOutside_9 rfl rfl ?_
      refine pk_for 8 (fun i => pk_wI M (p + 4) (sp_clr w h (pk_I M (p + 4)) (8 * j + i))) (fun i => [some (.ref p), some (.int (nI j)), some (.int (nI i))]) ?_ ?_ 0 (by omega)
      · intro i hi K
        have hW1 : pk_WF L (pk_wI M (p + 4) (sp_clr w h (pk_I M (p + 4)) (8 * j + i))) := hW
        have hw1 : pk_I (pk_wI M (p + 4) (sp_clr w h (pk_I M (p + 4)) (8 * j + i))) p 4 = nI w := by rw [pk_I_wI, if_neg (by omega)]; exact hw
        have hh1 : pk_I (pk_wI M (p + 4) (sp_clr w h (pk_I M (p + 4)) (8 * j + i))) p 5 = nI h := by rw [pk_I_wI, if_neg (by omega)]; exact hh
        refine pk_iload_n dX4_clearOutside_10 rfl ?_
        refine pk_bipush (v := nI 8) dX4_clearOutside_11 (by decide) ?_
        first | refine pk_geN (tgt := 42) dX4_clearOutside_13 (by decide) (by omega) (by omega) (fun c_13 => ?_) (fun c_13 => ?_) | refine pk_icmp_ge (tgt := 42) dX4_clearOutside_13 (by decide) (fun c_13 => ?_) (fun c_13 => ?_)
        · omega
        · refine pk_aload_n dX4_clearOutside_16 rfl ?_
          refine pk_iload_n dX4_clearOutside_17 rfl ?_
          refine pk_iload_n dX4_clearOutside_18 rfl ?_
          refine pk_Vi dX4_clearOutside_19 ml_X4_43 yw_X4_isInside yv_X4_isInside (hW.ss hp) (e_X4_isInside2 hW1 hp hw1 hh1 hw8 hh6 _ _) rfl rfl rfl rfl rfl rfl rfl ?_
          first | refine pk_neb (tgt := 36) dX4_clearOutside_22 (by decide) (fun c_22 => ?_) (fun c_22 => ?_) | refine pk_ne0N (tgt := 36) dX4_clearOutside_22 (by decide) (by omega) (fun c_22 => ?_) (fun c_22 => ?_) | refine pk_if_ne (tgt := 36) dX4_clearOutside_22 (by decide) (fun c_22 => ?_) (fun c_22 => ?_)
          · try simp only [pk_wI_sI]
            first | refine pk_inc1 dX4_clearOutside_36 rfl rfl ?_ | refine pk_iinc dX4_clearOutside_36 rfl rfl rfl ?_
            refine pk_goto (tgt := 10) dX4_clearOutside_39 (by decide) ?_
            refine pk_Mq ?_ K
            congr 1
            funext q
            try (rw [sp_inb2_n hw8 hh6 (by omega) (by omega)] at c_22; simp only [Bool.and_eq_true, decide_eq_true_eq] at c_22)
            have d1 : (8 * j + i) % 8 = i := by omega
            have d2 : (8 * j + i) / 8 = j := by omega
            by_cases hq : q = 8 * j + i
            · subst hq
              simp only [sp_clr, d1, d2]
              repeat' split
              all_goals first | rfl | omega
            · simp only [sp_clr]
              repeat' split
              all_goals first | rfl | omega
          · rw [sp_inb2_n hw8 hh6 (by omega) (by omega)] at c_22
            simp only [Bool.and_eq_false_iff, decide_eq_false_iff_not] at c_22
            refine pk_aload_n dX4_clearOutside_25 rfl ?_
            refine pk_getP dX4_clearOutside_26 fl_X4_21 rfl (hW.ss hp) (hW.sp3 hp) ?_
            refine pk_iload_n dX4_clearOutside_29 rfl ?_
            refine pk_iload_n dX4_clearOutside_30 rfl ?_
            refine pk_Si dX4_clearOutside_31 ml_X4_47 yw_X4_indexOf ys_X4_indexOf (e_X4_indexOf _ _) rfl rfl rfl rfl rfl rfl rfl ?_
            refine pk_iconst (v := nI 0) dX4_clearOutside_34 (by decide) ?_
            refine pk_astN dX4_clearOutside_35 (hW.sa3 hp) (by omega) (by omega) (by omega) ?_
            try simp only [pk_wI_sI]
            first | refine pk_inc1 dX4_clearOutside_36 rfl rfl ?_ | refine pk_iinc dX4_clearOutside_36 rfl rfl rfl ?_
            refine pk_goto (tgt := 10) dX4_clearOutside_39 (by decide) ?_
            refine pk_Mq ?_ K
            congr 1
            funext q
            try (rw [sp_inb2_n hw8 hh6 (by omega) (by omega)] at c_22; simp only [Bool.and_eq_true, decide_eq_true_eq] at c_22)
            have d1 : (8 * j + i) % 8 = i := by omega
            have d2 : (8 * j + i) / 8 = j := by omega
            by_cases hq : q = 8 * j + i
            · subst hq
              simp only [sp_clr, d1, d2]
              repeat' split
              all_goals first | rfl | omega
            · simp only [sp_clr]
              repeat' split
              all_goals first | rfl | omega
      · refine pk_iload_n dX4_clearOutside_10 rfl ?_
        refine pk_bipush (v := nI 8) dX4_clearOutside_11 (by decide) ?_
        first | refine pk_geN (tgt := 42) dX4_clearOutside_13 (by decide) (by omega) (by omega) (fun c_13 => ?_) (fun c_13 => ?_) | refine pk_icmp_ge (tgt := 42) dX4_clearOutside_13 (by decide) (fun c_13 => ?_) (fun c_13 => ?_)
        · first | refine pk_inc1 dX4_clearOutside_42 rfl rfl ?_ | refine pk_iinc dX4_clearOutside_42 rfl rfl rfl ?_
          refine pk_goto (tgt := 2) dX4_clearOutside_45 (by decide) ?_
          exact pk_fgt (by repeat first | exact trivial | refine ⟨rfl, ?_⟩) K1
        · omega
  · refine pk_iload_n dX4_clearOutside_2 rfl ?_
    refine pk_bipush (v := nI 6) dX4_clearOutside_3 (by decide) ?_
    first | refine pk_geN (tgt := 48) dX4_clearOutside_5 (by decide) (by omega) (by omega) (fun c_5 => ?_) (fun c_5 => ?_) | refine pk_icmp_ge (tgt := 48) dX4_clearOutside_5 (by decide) (fun c_5 => ?_) (fun c_5 => ?_)
    · refine pk_retv dX4_clearOutside_48 ?_
      exact ⟨rfl, rfl⟩
    · omega

theorem pk_isS_apart0 : ∀ a ∈ [6, 43, 13, 18, 23, 28, 33, 38, 50, 55, 60, 65, 70, 75], ∀ b ∈ [6, 43, 13, 18, 23, 28, 33, 38, 50, 55, 60, 65, 70, 75], a ≠ b → a + 5 ≤ b ∨ b + 5 ≤ a := by decide
theorem pk_isS_apart {a b : Nat} (ha : pk_isS a = true) (hb : pk_isS b = true) (h : a ≠ b) : a + 5 ≤ b ∨ b + 5 ≤ a := pk_isS_apart0 a (pk_isS_cases ha) b (pk_isS_cases hb) h

set_option maxRecDepth 100000 in
set_option maxHeartbeats 4000000 in
theorem e_X4_become {Γ : pk_T} {M : pk_M} {L p o : Nat} {A : pk_St} (hW : pk_WF L M) (hp : pk_isS p = true) (ho : pk_isS o = true) (hpo : p ≠ o) (hA : pk_At M o A) : pk_E Γ yX4_become cX4_become 2 none 1 0 0 M [.ref p, .ref o] (fun r M' => r = none ∧ pk_fr (fun q => p ≤ q ∧ q ≤ p + 4) M M' ∧ pk_At M' p A) := by
  refine pk_meth (own := RX4) (ini := false) [some (.ref p), some (.ref o)] (by decide +kernel) rfl (by decide +kernel) rfl rfl ?_
  have hp5 := pk_isS_lt hp
  have ho5 := pk_isS_lt ho
  have hap := pk_isS_apart hp ho hpo
  refine pk_aload_n dX4_become_0 rfl ?_
  refine pk_getP dX4_become_1 fl_X4_9 rfl (hW.ss ho) (hW.sp0 ho) ?_
  refine pk_iconst (v := nI 0) dX4_become_4 (by decide) ?_
  refine pk_aload_n dX4_become_5 rfl ?_
  refine pk_getP dX4_become_6 fl_X4_9 rfl (hW.ss hp) (hW.sp0 hp) ?_
  refine pk_iconst (v := nI 0) dX4_become_9 (by decide) ?_
  refine pk_iconst (v := nI 5) dX4_become_10 (by decide) ?_
  refine pk_copyIN dX4_become_11 mo_X4_37 nat_copy st_copy it_sys (hW.sa0 ho) (hW.sa0 hp) (by omega) (by omega) (by omega) (by omega) (by omega) (by omega) rfl rfl ?_
  refine pk_aload_n dX4_become_14 rfl ?_
  refine pk_getP dX4_become_15 fl_X4_15 rfl (hW.ss ho) (hW.sp1 ho) ?_
  refine pk_iconst (v := nI 0) dX4_become_18 (by decide) ?_
  refine pk_aload_n dX4_become_19 rfl ?_
  refine pk_getP dX4_become_20 fl_X4_15 rfl (hW.ss hp) (hW.sp1 hp) ?_
  refine pk_iconst (v := nI 0) dX4_become_23 (by decide) ?_
  refine pk_iconst (v := nI 5) dX4_become_24 (by decide) ?_
  refine pk_copyIN dX4_become_25 mo_X4_37 nat_copy st_copy it_sys (hW.sa1 ho) (hW.sa1 hp) (by omega) (by omega) (by omega) (by omega) (by omega) (by omega) rfl rfl ?_
  refine pk_aload_n dX4_become_28 rfl ?_
  refine pk_getP dX4_become_29 fl_X4_18 rfl (hW.ss ho) (hW.sp2 ho) ?_
  refine pk_iconst (v := nI 0) dX4_become_32 (by decide) ?_
  refine pk_aload_n dX4_become_33 rfl ?_
  refine pk_getP dX4_become_34 fl_X4_18 rfl (hW.ss hp) (hW.sp2 hp) ?_
  refine pk_iconst (v := nI 0) dX4_become_37 (by decide) ?_
  refine pk_iconst (v := nI 5) dX4_become_38 (by decide) ?_
  refine pk_copyIN dX4_become_39 mo_X4_37 nat_copy st_copy it_sys (hW.sa2 ho) (hW.sa2 hp) (by omega) (by omega) (by omega) (by omega) (by omega) (by omega) rfl rfl ?_
  refine pk_aload_n dX4_become_42 rfl ?_
  refine pk_getP dX4_become_43 fl_X4_21 rfl (hW.ss ho) (hW.sp3 ho) ?_
  refine pk_iconst (v := nI 0) dX4_become_46 (by decide) ?_
  refine pk_aload_n dX4_become_47 rfl ?_
  refine pk_getP dX4_become_48 fl_X4_21 rfl (hW.ss hp) (hW.sp3 hp) ?_
  refine pk_iconst (v := nI 0) dX4_become_51 (by decide) ?_
  refine pk_bipush (v := nI 48) dX4_become_52 (by decide) ?_
  refine pk_copyIN dX4_become_54 mo_X4_37 nat_copy st_copy it_sys (hW.sa3 ho) (hW.sa3 hp) (by omega) (by omega) (by omega) (by omega) (by omega) (by omega) rfl rfl ?_
  refine pk_aload_n dX4_become_57 rfl ?_
  refine pk_aload_n dX4_become_58 rfl ?_
  refine pk_getI dX4_become_59 fl_X4_24 rfl (hW.ss ho) ?_
  refine pk_putI dX4_become_62 fl_X4_24 rfl rfl rfl rfl (hW.ss hp) ?_
  refine pk_aload_n dX4_become_65 rfl ?_
  refine pk_aload_n dX4_become_66 rfl ?_
  refine pk_getI dX4_become_67 fl_X4_28 rfl (hW.ss ho) ?_
  refine pk_putI dX4_become_70 fl_X4_28 rfl rfl rfl rfl (hW.ss hp) ?_
  refine pk_aload_n dX4_become_73 rfl ?_
  refine pk_aload_n dX4_become_74 rfl ?_
  refine pk_getI dX4_become_75 fl_X4_31 rfl (hW.ss ho) ?_
  refine pk_putI dX4_become_78 fl_X4_31 rfl rfl rfl rfl (hW.ss hp) ?_
  refine pk_retv dX4_become_81 ?_
  refine ⟨rfl, ?_, ?_, ?_, ?_, fun i hi => ?_, fun i hi => ?_, fun i hi => ?_, fun i hi => ?_⟩
  · exact ((((((pk_fr.cI ⟨by omega, by omega⟩).tr (pk_fr.cI ⟨by omega, by omega⟩)).tr (pk_fr.cI ⟨by omega, by omega⟩)).tr (pk_fr.cI ⟨by omega, by omega⟩)).tr (pk_fr.sI ⟨by omega, by omega⟩)).tr (pk_fr.sI ⟨by omega, by omega⟩)).tr (pk_fr.sI ⟨by omega, by omega⟩)
  · repeat first | refine pk_gS0 (by omega) ?_ | refine pk_gS1 (by omega) (by omega) ?_ | refine pk_gC0 (by omega) ?_ | refine pk_gC1 (by omega) ?_ | refine pk_gW0 (by omega) ?_ | refine pk_gW1 (by omega) ?_
    exact hA.1
  · repeat first | refine pk_gS0 (by omega) ?_ | refine pk_gS1 (by omega) (by omega) ?_ | refine pk_gC0 (by omega) ?_ | refine pk_gC1 (by omega) ?_ | refine pk_gW0 (by omega) ?_ | refine pk_gW1 (by omega) ?_
    exact hA.2.1
  · repeat first | refine pk_gS0 (by omega) ?_ | refine pk_gS1 (by omega) (by omega) ?_ | refine pk_gC0 (by omega) ?_ | refine pk_gC1 (by omega) ?_ | refine pk_gW0 (by omega) ?_ | refine pk_gW1 (by omega) ?_
    exact hA.2.2.1
  · repeat first | refine pk_gS0 (by omega) ?_ | refine pk_gS1 (by omega) (by omega) ?_ | refine pk_gC0 (by omega) ?_ | refine pk_gC1 (by omega) ?_ | refine pk_gW0 (by omega) ?_ | refine pk_gW1 (by omega) ?_
    rw [show 0 + (i - 0) = i by omega]
    exact hA.2.2.2.1 i hi
  · repeat first | refine pk_gS0 (by omega) ?_ | refine pk_gS1 (by omega) (by omega) ?_ | refine pk_gC0 (by omega) ?_ | refine pk_gC1 (by omega) ?_ | refine pk_gW0 (by omega) ?_ | refine pk_gW1 (by omega) ?_
    rw [show 0 + (i - 0) = i by omega]
    exact hA.2.2.2.2.1 i hi
  · repeat first | refine pk_gS0 (by omega) ?_ | refine pk_gS1 (by omega) (by omega) ?_ | refine pk_gC0 (by omega) ?_ | refine pk_gC1 (by omega) ?_ | refine pk_gW0 (by omega) ?_ | refine pk_gW1 (by omega) ?_
    rw [show 0 + (i - 0) = i by omega]
    exact hA.2.2.2.2.2.1 i hi
  · repeat first | refine pk_gS0 (by omega) ?_ | refine pk_gS1 (by omega) (by omega) ?_ | refine pk_gC0 (by omega) ?_ | refine pk_gC1 (by omega) ?_ | refine pk_gW0 (by omega) ?_ | refine pk_gW1 (by omega) ?_
    rw [show 0 + (i - 0) = i by omega]
    exact hA.2.2.2.2.2.2 i hi

set_option maxRecDepth 100000 in
set_option maxHeartbeats 4000000 in
theorem e_X4_become_ {Γ : pk_T} {M : pk_M} {L p a w h : Nat} (hW : pk_WF L M) (hp : pk_isS p = true) (ha : pk_S M a = some (.inl (.int, 48))) (ha5 : 5 ≤ a) : pk_E Γ yX4_become_ cX4_become_ 4 none 1 0 0 M [.ref p, .ref a, .int (nI w), .int (nI h)] (fun r M' => r = none ∧ M' = pk_sI (pk_sI (pk_cI M a 0 (p + 4) 0 48) p 4 (nI w)) p 5 (nI h)) := by
  refine pk_meth (own := RX4) (ini := false) [some (.ref p), some (.ref a), some (.int (nI w)), some (.int (nI h))] (by decide +kernel) rfl (by decide +kernel) rfl rfl ?_
  have hp5 := pk_isS_lt hp
  refine pk_aload_n dX4_become__0 rfl ?_
  refine pk_iconst (v := nI 0) dX4_become__1 (by decide) ?_
  refine pk_aload_n dX4_become__2 rfl ?_
  refine pk_getP dX4_become__3 fl_X4_21 rfl (hW.ss hp) (hW.sp3 hp) ?_
  refine pk_iconst (v := nI 0) dX4_become__6 (by decide) ?_
  refine pk_bipush (v := nI 48) dX4_become__7 (by decide) ?_
  refine pk_copyIN dX4_become__9 mo_X4_37 nat_copy st_copy it_sys ha (hW.sa3 hp) (by omega) (by omega) (by omega) (by omega) (by omega) (by omega) rfl rfl ?_
  refine pk_aload_n dX4_become__12 rfl ?_
  refine pk_iload_n dX4_become__13 rfl ?_
  refine pk_putI dX4_become__14 fl_X4_24 rfl rfl rfl rfl (hW.ss hp) ?_
  refine pk_aload_n dX4_become__17 rfl ?_
  refine pk_iload_n dX4_become__18 rfl ?_
  refine pk_putI dX4_become__19 fl_X4_28 rfl rfl rfl rfl (hW.ss hp) ?_
  refine pk_retv dX4_become__22 ?_
  exact ⟨rfl, rfl⟩
