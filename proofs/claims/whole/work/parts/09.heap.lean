/-! Steps that read and write the memory. -/
def pk_cls (ci : Nat) : String := match ci with
  | 0 => RX0
  | 1 => RX1
  | 2 => RX2
  | 3 => RX3
  | 4 => RX4
  | 5 => RX5
  | 6 => RX6
  | _ => RX7
def pk_tab (ci : Nat) : u_T := match ci with
  | 0 => TX0
  | 1 => TX1
  | 2 => TX2
  | 3 => TX3
  | 4 => TX4
  | 5 => TX5
  | 6 => TX6
  | _ => TX7
theorem pk_clq {ci : Nat} (h : ci < 8) : vwCl[ci]? = some (pk_cls ci, pk_tab ci, pk_fn ci) := by
  match ci, h with
  | 0, _ => rfl
  | 1, _ => rfl
  | 2, _ => rfl
  | 3, _ => rfl
  | 4, _ => rfl
  | 5, _ => rfl
  | 6, _ => rfl
  | 7, _ => rfl
theorem pk_lq (ws : List Cond) (h1 : ws.filter k2_isCode = []) (h2 : (ws.filter (fun w => !k2_isCode w)).all (fun w => decide (w ∈ lw_tbl) && goodWord w) = true) : ∀ w ∈ ws, w ∈ pk_tbl := by
  intro w hw
  have hc : ¬ k2_isCode w = true := by
    intro h
    have h3 : w ∈ ws.filter k2_isCode := List.mem_filter.mpr ⟨hw, h⟩
    rw [h1] at h3
    cases h3
  have h3 := List.all_eq_true.mp h2 w (List.mem_filter.mpr ⟨hw, by simpa using hc⟩)
  simp only [Bool.and_eq_true, decide_eq_true_eq] at h3
  exact pk_tb h3.1 (by rw [h3.2]; rfl)
theorem pk_lays0 : ∀ w ∈ u_ws RX0 TX0 7, w ∈ pk_tbl := pk_lq (u_ws RX0 TX0 7) (by decide +kernel) (by decide +kernel)
theorem pk_lays1 : ∀ w ∈ u_ws RX1 TX1 1, w ∈ pk_tbl := pk_lq (u_ws RX1 TX1 1) (by decide +kernel) (by decide +kernel)
theorem pk_lays2 : ∀ w ∈ u_ws RX2 TX2 2, w ∈ pk_tbl := pk_lq (u_ws RX2 TX2 2) (by decide +kernel) (by decide +kernel)
theorem pk_lays3 : ∀ w ∈ u_ws RX3 TX3 4, w ∈ pk_tbl := pk_lq (u_ws RX3 TX3 4) (by decide +kernel) (by decide +kernel)
theorem pk_lays4 : ∀ w ∈ u_ws RX4 TX4 7, w ∈ pk_tbl := pk_lq (u_ws RX4 TX4 7) (by decide +kernel) (by decide +kernel)
theorem pk_lays5 : ∀ w ∈ u_ws RX5 TX5 7, w ∈ pk_tbl := pk_lq (u_ws RX5 TX5 7) (by decide +kernel) (by decide +kernel)
theorem pk_lays6 : ∀ w ∈ u_ws RX6 TX6 12, w ∈ pk_tbl := pk_lq (u_ws RX6 TX6 12) (by decide +kernel) (by decide +kernel)
theorem pk_lays7 : ∀ w ∈ u_ws RX7 TX7 21, w ∈ pk_tbl := pk_lq (u_ws RX7 TX7 21) (by decide +kernel) (by decide +kernel)
theorem pk_lays {ci : Nat} (h : ci < 8) : ∀ w ∈ u_ws (pk_cls ci) (pk_tab ci) (pk_fn ci), w ∈ pk_tbl := by
  match ci, h with
  | 0, _ => exact pk_lays0
  | 1, _ => exact pk_lays1
  | 2, _ => exact pk_lays2
  | 3, _ => exact pk_lays3
  | 4, _ => exact pk_lays4
  | 5, _ => exact pk_lays5
  | 6, _ => exact pk_lays6
  | 7, _ => exact pk_lays7
theorem pk_tyok {ci : Nat} (h : ci < 8) : ∀ k, k < pk_fn ci → parseFieldDescriptor (pk_tab ci k).2.2.1 = some (pk_fty ci k) := by
  match ci, h with
  | 0, _ => exact tyX0_ok
  | 1, _ => exact tyX1_ok
  | 2, _ => exact tyX2_ok
  | 3, _ => exact tyX3_ok
  | 4, _ => exact tyX4_ok
  | 5, _ => exact tyX5_ok
  | 6, _ => exact tyX6_ok
  | 7, _ => exact tyX7_ok
theorem pk_nm {ci : Nat} (h : ci < 8) : ∀ a, a < pk_fn ci → ∀ b, b < pk_fn ci → a ≠ b → (pk_tab ci a).2.1 ≠ (pk_tab ci b).2.1 := by
  match ci, h with
  | 0, _ => exact nmX0
  | 1, _ => exact nmX1
  | 2, _ => exact nmX2
  | 3, _ => exact nmX3
  | 4, _ => exact nmX4
  | 5, _ => exact nmX5
  | 6, _ => exact nmX6
  | 7, _ => exact nmX7
theorem pk_dv {ci : Nat} (h : ci < 8) : ∀ j, j < pk_fn ci → defaultValue (pk_fty ci j) = if pk_isRef (pk_fty ci j) then .null else .int 0 := by
  match ci, h with
  | 0, _ => decide +kernel
  | 1, _ => decide +kernel
  | 2, _ => decide +kernel
  | 3, _ => decide +kernel
  | 4, _ => decide +kernel
  | 5, _ => decide +kernel
  | 6, _ => decide +kernel
  | 7, _ => decide +kernel
/-- the word by which an own method names a field -/
def pk_FL (own : String) (idx ci kf : Nat) : Prop := ci < 8 ∧ kf < pk_fn ci ∧
  (Cond.fieldLink own idx (pk_tab ci kf).1 (pk_tab ci kf).2.1 (pk_tab ci kf).2.2.1 ∈ pk_tbl ∨ ∃ host, Cond.fieldLinkNest own idx (pk_tab ci kf).1 (pk_tab ci kf).2.1 (pk_tab ci kf).2.2.1 host ∈ pk_tbl)
theorem pk_R.obj {Γ : pk_T} {M : pk_M} {U : State} {H : Heap} {q ci : Nat} (h : pk_R Γ M U H) (hs : pk_S M q = some (.inr ci)) : 5 ≤ q := by
  rcases Nat.lt_or_ge q 5 with h5 | h5
  · obtain ⟨N, e, -⟩ := h.2.2.2.2.1 q h5
    rw [hs] at e
    cases e
  · exact h5
theorem pk_fs_get (f : Nat → Value) {n k : Nat} (hk : k < n) : ((List.range n).map f)[k]? = some (f k) := by
  simp [List.getElem?_map, List.getElem?_range hk]
theorem pk_fs_set {f g : Nat → Value} {n k : Nat} {v : Value} (ho : ∀ j, j ≠ k → g j = f j) (hv : g k = v) : ((List.range n).map f).set k v = (List.range n).map g := by
  apply List.ext_getElem?
  intro i
  by_cases hi : i = k
  · subst hi
    by_cases hl : i < n
    · rw [List.getElem?_set_self (by simpa using hl), pk_fs_get g hl, hv]
    · rw [List.getElem?_eq_none (by simpa using hl), List.getElem?_eq_none (by simpa using hl)]
  · rw [List.getElem?_set_ne (fun e => hi e.symm)]
    by_cases hl : i < n
    · rw [pk_fs_get f hl, pk_fs_get g hl, ho i hi]
    · rw [List.getElem?_eq_none (by simpa using hl), List.getElem?_eq_none (by simpa using hl)]
theorem pk_Wsz {p : Program} {l : Launch} {e : Env} {R : Room} {s : State} {m : MethodId} {args : Array Value} {below : List Frame} {meth : Method} {c : Code} {H : Heap} {locs : List Loc} {cells slots : Nat} {Q : State → Prop} {g : JFrame}
    (k : H.size ≤ s.heap.size + cells → W p l e R s m args below meth c H locs cells slots Q g) : W p l e R s m args below meth c H locs cells slots Q g := by
  intro T hT X
  have h := X.same.2.2.1
  have h2 : T.heap.size ≤ s.heap.size + cells := h
  rw [hT] at h2
  exact k h2 T hT X
theorem pk_Stay {A : Nat → Prop} {H0 H H1 : Heap} {locs locs1 : List Loc} (h : va_S A H0 H locs) (h1 : va_S A H H1 locs1) : va_S A H0 H1 locs1 :=
  ⟨Nat.le_trans h.1 h1.1, fun q hq hA => (h1.2.1 q (Nat.lt_of_lt_of_le hq h.1) hA).trans (h.2.1 q hq hA), h1.2.2⟩
theorem pk_S0 {A : Nat → Prop} {H0 H : Heap} {locs : List Loc} (h : va_S A H0 H locs) : va_S A H H locs := ⟨Nat.le_refl _, fun _ _ _ => rfl, h.2.2⟩
section PkH
variable {Γ : pk_T} {κ : pk_K} {cc : ByteArray} {M : pk_M} {ls : List (Option Value)} {st : List Value} {pc cu su : Nat}
/-- behind a write into place q -/
theorem pk_fin {M1 : pk_M} {q : Nat} {z : pk_Sh} {ev : va_E} {p : Program} {e : Env} {s : State} {m : MethodId} {below : List Frame} {meth : Method} {c : Code} {H H1 : Heap} {locs locs1 : List Loc} {arr : Array Slot}
    (C : pk_C Γ κ cc p s m meth c) (hz : H.size = s.heap.size + cu) (hR : pk_R Γ M s H) (hS : va_S (pk_A Γ) s.heap H locs) (hL : pk_L Γ κ.2.1 ls arr)
    (hoff : pk_off q M M1) (hq : 5 ≤ q) (hs : pk_S M q = some z) (hP1 : va_P Γ.2.1 vwCl ((pk_w Γ M).set (q - 5) (pk_ga Γ q, ev)) H1) (he : ev = pk_cell Γ M1 q z) (hS1 : va_S (pk_A Γ) H H1 locs1)
    (k : pk_G Γ κ cc M1 ls st pc cu su) : W p Γ.1 e κ.2.2.2.2.1 s m κ.2.2.2.2.2.1 below meth c H1 locs1 cu su (κ.2.2.2.2.2.2 below s) (F0 m pc arr (st.map (pk_gv Γ))) := by
  refine pk_Wsz (fun hle => ?_)
  have hsz : H1.size = H.size := by have := hS1.1; omega
  have hlen : M1.1.length = M.1.length := by rw [hoff.1]
  refine k p e s m below meth c H1 locs1 arr C (by omega) (hR.to (by rw [hlen]; exact hR.1) (by rw [hsz, hlen]; exact hR.2.1) (by rw [pk_w_set hoff hq hs, ← he]; exact hP1) (fun j hj => ⟨by show M1.1[j]? = M.1[j]?; rw [hoff.1], (hoff.2 j (by omega)).1⟩) (fun j hj hA => hS1.2.1 j hj hA)) (pk_Stay hS hS1) hL
theorem pk_get0 {idx ci kf q : Nat} {v : Value} (hd : decode cc pc = .ok (.getfield idx, 3)) (hw : pk_FL κ.1 idx ci kf) (hs : pk_S M q = some (.inr ci)) (hv : pk_fld Γ M q ci kf = pk_gv Γ v) (k : pk_G Γ κ cc M ls (v :: st) (pc + 3) cu su) : pk_G Γ κ cc M ls (.ref q :: st) pc cu su := by
  intro p e s m below meth c H locs arr C hz hR hS hL
  obtain ⟨h8, hk, hw⟩ := hw
  have hq := hR.obj hs
  have hat := pk_w_at (Γ := Γ) hq hs
  have hfs := pk_fs_get (pk_fld Γ M q ci) hk
  rw [hv] at hfs
  rcases hw with hw | ⟨host, hw⟩
  · exact va_get C.1 C.2.1 C.2.2.2.2.2.2.2.1 (pk_lays h8) C.2.2.2.2.2.1 hR.2.2.2.1 hR.2.2.1 (q - 5) hat (pk_clq h8) kf hk (C.2.2.2.2.2.2.2.1 _ hw) (fun _ h => h) hfs hd (k p e s m below meth c H locs arr C hz hR hS hL)
  · exact va_getN C.1 C.2.1 C.2.2.2.2.2.2.2.1 (pk_lays h8) C.2.2.2.2.2.1 hR.2.2.2.1 hR.2.2.1 (q - 5) hat (pk_clq h8) kf hk (C.2.2.2.2.2.2.2.1 _ hw) (fun _ h => h) hfs hd (k p e s m below meth c H locs arr C hz hR hS hL)
theorem pk_getI {idx ci kf q : Nat} (hd : decode cc pc = .ok (.getfield idx, 3)) (hw : pk_FL κ.1 idx ci kf) (hr : pk_isRef (pk_fty ci kf) = false) (hs : pk_S M q = some (.inr ci)) (k : pk_G Γ κ cc M ls (.int (pk_I M q kf) :: st) (pc + 3) cu su) : pk_G Γ κ cc M ls (.ref q :: st) pc cu su :=
  pk_get0 hd hw hs (by simp only [pk_fld, hr]; rfl) k
theorem pk_getP {idx ci kf q r : Nat} (hd : decode cc pc = .ok (.getfield idx, 3)) (hw : pk_FL κ.1 idx ci kf) (hr : pk_isRef (pk_fty ci kf) = true) (hs : pk_S M q = some (.inr ci)) (hp : pk_P M q kf = some r) (k : pk_G Γ κ cc M ls (.ref r :: st) (pc + 3) cu su) : pk_G Γ κ cc M ls (.ref q :: st) pc cu su :=
  pk_get0 (v := .ref r) hd hw hs (by simp only [pk_fld, hr, show M.2.2.2 q kf = some r from hp]; rfl) k
theorem pk_putI {idx ci kf q : Nat} {x : Int32} (hd : decode cc pc = .ok (.putfield idx, 3)) (hw : pk_FL κ.1 idx ci kf) (hr : pk_isRef (pk_fty ci kf) = false) (hfin : (pk_tab ci kf).2.2.2 = false) (hn : narrow (pk_fty ci kf) (.int x) = .int x) (hf : fits (pk_fty ci kf) (.int x) = true) (hs : pk_S M q = some (.inr ci)) (k : pk_G Γ κ cc (pk_sI M q kf x) ls st (pc + 3) cu su) : pk_G Γ κ cc M ls (.int x :: .ref q :: st) pc cu su := by
  intro p e s m below meth c H locs arr C hz hR hS hL
  obtain ⟨h8, hk, hw⟩ := hw
  have hq := hR.obj hs
  have hat := pk_w_at (Γ := Γ) hq hs
  have he : (.inr (ci, ((List.range (pk_fn ci)).map (pk_fld Γ M q ci)).set kf (.int x)) : va_E) = pk_cell Γ (pk_sI M q kf x) q (.inr ci) := by
    rw [pk_fs_set (g := pk_fld Γ (pk_sI M q kf x) q ci)]
    · rfl
    · intro j hj
      simp [pk_fld, pk_sI, hj]
    · simp [pk_fld, pk_sI, hr]
  rcases hw with hw | ⟨host, hw⟩
  · exact va_put (H0 := H) C.1 C.2.1 C.2.2.2.2.2.2.2.1 (pk_lays h8) (pk_fty ci) (pk_tyok h8) (pk_nm h8) C.2.2.2.2.2.1 hR.2.2.2.1 hR.2.2.1 (pk_w_D Γ M) (pk_S0 hS) (q - 5) hat (pk_clq h8) kf hk (C.2.2.2.2.2.2.2.1 _ hw) (fun _ h => h) hfin (pk_tyok h8 kf hk) hn hf (by simpa using hk) hd (fun H1 locs1 hP1 _ hS1 => pk_fin C hz hR hS hL (pk_off_sI M q kf x) hq hs hP1 he hS1 k)
  · exact va_putN (H0 := H) C.1 C.2.1 C.2.2.2.2.2.2.2.1 (pk_lays h8) (pk_fty ci) (pk_tyok h8) (pk_nm h8) C.2.2.2.2.2.1 hR.2.2.2.1 hR.2.2.1 (pk_w_D Γ M) (pk_S0 hS) (q - 5) hat (pk_clq h8) kf hk (C.2.2.2.2.2.2.2.1 _ hw) (fun _ h => h) hfin (pk_tyok h8 kf hk) hn hf (by simpa using hk) hd (fun H1 locs1 hP1 _ hS1 => pk_fin C hz hR hS hL (pk_off_sI M q kf x) hq hs hP1 he hS1 k)
theorem pk_putF {idx ci kf q r : Nat} (hd : decode cc pc = .ok (.putfield idx, 3)) (h8 : ci < 8) (hk : kf < pk_fn ci) (hw : Cond.fieldLink κ.1 idx (pk_tab ci kf).1 (pk_tab ci kf).2.1 (pk_tab ci kf).2.2.1 ∈ pk_tbl) (hr : pk_isRef (pk_fty ci kf) = true) (hfin : (pk_tab ci kf).2.2.2 = true) (hini : κ.2.2.2.1 = true) (hdecl : (pk_tab ci kf).1 = κ.1) (hs : pk_S M q = some (.inr ci)) (k : pk_G Γ κ cc (pk_sP M q kf (some r)) ls st (pc + 3) cu su) : pk_G Γ κ cc M ls (.ref r :: .ref q :: st) pc cu su := by
  intro p e s m below meth c H locs arr C hz hR hS hL
  have hq := hR.obj hs
  have hat := pk_w_at (Γ := Γ) hq hs
  have he : (.inr (ci, ((List.range (pk_fn ci)).map (pk_fld Γ M q ci)).set kf (.ref (pk_ga Γ r))) : va_E) = pk_cell Γ (pk_sP M q kf (some r)) q (.inr ci) := by
    rw [pk_fs_set (g := pk_fld Γ (pk_sP M q kf (some r)) q ci)]
    · rfl
    · intro j hj
      simp [pk_fld, pk_sP, hj]
    · simp [pk_fld, pk_sP, hr, va_rf]
  have hnf : narrow (pk_fty ci kf) (.ref (pk_ga Γ r)) = .ref (pk_ga Γ r) ∧ fits (pk_fty ci kf) (.ref (pk_ga Γ r)) = true := by
    cases ht : pk_fty ci kf <;> first | (rw [ht] at hr; cases hr; done) | exact ⟨rfl, rfl⟩
  exact va_putF (H0 := H) C.1 C.2.1 C.2.2.2.2.2.2.2.1 (pk_lays h8) (pk_fty ci) (pk_tyok h8) (pk_nm h8) C.2.2.2.2.2.1 hR.2.2.2.1 hR.2.2.1 (pk_w_D Γ M) (pk_S0 hS) (q - 5) hat (pk_clq h8) kf hk (C.2.2.2.2.2.2.2.1 _ hw) (fun _ h => h) hfin (C.2.2.2.2.2.2.1 hini) hdecl (pk_tyok h8 kf hk) hnf.1 hnf.2 (by simpa using hk) hd (fun H1 locs1 hP1 _ hS1 => pk_fin C hz hR hS hL (pk_off_sP M q kf (some r)) hq hs hP1 he hS1 k)
theorem pk_iald {q N : Nat} {i : Int32} (hd : decode cc pc = .ok (.iaload, 1)) (hs : pk_S M q = some (.inl (.int, N))) (hin : vp_in i N) (k : pk_G Γ κ cc M ls (.int (pk_I M q i.toNatClampNeg) :: st) (pc + 1) cu su) : pk_G Γ κ cc M ls (.int i :: .ref q :: st) pc cu su := by
  intro p e s m below meth c H locs arr C hz hR hS hL
  rcases Nat.lt_or_ge q 5 with h5 | h5
  · obtain ⟨N', e1, cell, g1, g2, g3, g4, g5, g6, g7⟩ := hR.2.2.2.2.1 q h5
    rw [hs] at e1
    cases e1
    have hlt : i.toNatClampNeg < N := Nat.not_le.mp fun z => hin (Or.inr z)
    exact W.iald C.1 C.2.1 g1 g2 g3 (fun z => hin (z.imp id (fun z => Nat.le_trans g4 z))) (g6 _ hlt) rfl rfl hd (k p e s m below meth c H locs arr C hz hR hS hL)
  · exact va_iald C.1 C.2.1 hR.2.2.2.1 hR.2.2.1 (q - 5) 0 (pk_w_at (Γ := Γ) h5 hs) rfl hin hd (k p e s m below meth c H locs arr C hz hR hS hL)
theorem pk_iast {q N : Nat} {i x : Int32} (hd : decode cc pc = .ok (.iastore, 1)) (hs : pk_S M q = some (.inl (.int, N))) (hq : 5 ≤ q) (hin : vp_in i N) (k : pk_G Γ κ cc (pk_sI M q i.toNatClampNeg x) ls st (pc + 1) cu su) : pk_G Γ κ cc M ls (.int x :: .int i :: .ref q :: st) pc cu su := by
  intro p e s m below meth c H locs arr C hz hR hS hL
  refine va_iast (H0 := H) C.1 C.2.1 hR.2.2.2.1 hR.2.2.1 (pk_w_D Γ M) (pk_S0 hS) (q - 5) 0 (pk_w_at (Γ := Γ) hq hs) rfl hin hd (fun H1 locs1 hP1 _ hS1 => pk_fin C hz hR hS hL (pk_off_sI M q i.toNatClampNeg x) hq hs hP1 ?_ hS1 k)
  have hf : upd (M.2.1 q) i.toNatClampNeg x = (pk_sI M q i.toNatClampNeg x).2.1 q := by
    funext j
    by_cases hj : j = i.toNatClampNeg <;> simp [upd, pk_sI, hj]
  simp only [pk_cell, pk_arr, hf]
theorem pk_zald {q N : Nat} {i : Int32} (hd : decode cc pc = .ok (.baload, 1)) (hs : pk_S M q = some (.inl (.boolean, N))) (hq : 5 ≤ q) (hin : vp_in i N) (k : pk_G Γ κ cc M ls (.int (pk_I M q i.toNatClampNeg) :: st) (pc + 1) cu su) : pk_G Γ κ cc M ls (.int i :: .ref q :: st) pc cu su := by
  intro p e s m below meth c H locs arr C hz hR hS hL
  exact va_zald C.1 C.2.1 hR.2.2.2.1 hR.2.2.1 (q - 5) 1 (pk_w_at (Γ := Γ) hq hs) rfl hin hd (k p e s m below meth c H locs arr C hz hR hS hL)
theorem pk_zast {q N : Nat} {i x : Int32} (hd : decode cc pc = .ok (.bastore, 1)) (hs : pk_S M q = some (.inl (.boolean, N))) (hq : 5 ≤ q) (hin : vp_in i N) (hx : vp_nar .boolean x = x) (k : pk_G Γ κ cc (pk_sI M q i.toNatClampNeg x) ls st (pc + 1) cu su) : pk_G Γ κ cc M ls (.int x :: .int i :: .ref q :: st) pc cu su := by
  intro p e s m below meth c H locs arr C hz hR hS hL
  refine va_zast (H0 := H) C.1 C.2.1 hR.2.2.2.1 hR.2.2.1 (pk_w_D Γ M) (pk_S0 hS) (q - 5) 1 (pk_w_at (Γ := Γ) hq hs) rfl hin hd (fun H1 locs1 hP1 _ hS1 => pk_fin C hz hR hS hL (pk_off_sI M q i.toNatClampNeg x) hq hs hP1 ?_ hS1 k)
  have hf : upd (M.2.1 q) i.toNatClampNeg (vp_nar .boolean x) = (pk_sI M q i.toNatClampNeg x).2.1 q := by
    rw [hx]
    funext j
    by_cases hj : j = i.toNatClampNeg <;> simp [upd, pk_sI, hj]
  simp only [pk_cell, pk_arr, hf]
theorem pk_lald {q N : Nat} {i : Int32} (hd : decode cc pc = .ok (.laload, 1)) (hs : pk_S M q = some (.inl (.long, N))) (hq : 5 ≤ q) (hin : vp_in i N) (k : pk_G Γ κ cc M ls (.long (pk_J M q i.toNatClampNeg) :: st) (pc + 1) cu su) : pk_G Γ κ cc M ls (.int i :: .ref q :: st) pc cu su := by
  intro p e s m below meth c H locs arr C hz hR hS hL
  exact va_lald C.1 C.2.1 hR.2.2.2.1 hR.2.2.1 (q - 5) 2 (pk_w_at (Γ := Γ) hq hs) rfl hin hd (k p e s m below meth c H locs arr C hz hR hS hL)
theorem pk_last {q N : Nat} {i : Int32} {x : Int64} (hd : decode cc pc = .ok (.lastore, 1)) (hs : pk_S M q = some (.inl (.long, N))) (hq : 5 ≤ q) (hin : vp_in i N) (k : pk_G Γ κ cc (pk_sJ M q i.toNatClampNeg x) ls st (pc + 1) cu su) : pk_G Γ κ cc M ls (.long x :: .int i :: .ref q :: st) pc cu su := by
  intro p e s m below meth c H locs arr C hz hR hS hL
  refine va_last (H0 := H) C.1 C.2.1 hR.2.2.2.1 hR.2.2.1 (pk_w_D Γ M) (pk_S0 hS) (q - 5) 2 (pk_w_at (Γ := Γ) hq hs) rfl hin hd (fun H1 locs1 hP1 _ hS1 => pk_fin C hz hR hS hL (pk_off_sJ M q i.toNatClampNeg x) hq hs hP1 ?_ hS1 k)
  have hf : vp_updL (M.2.2.1 q) i.toNatClampNeg x = (pk_sJ M q i.toNatClampNeg x).2.2.1 q := by
    funext j
    by_cases hj : j = i.toNatClampNeg <;> simp [vp_updL, pk_sJ, hj]
  simp only [pk_cell, pk_arr, hf]
/-- the two kinds of arrays of places -/
def pk_tq (t0 : Nat) (C : String) : Prop := (t0 = 3 ∧ C = RX4) ∨ (t0 = 4 ∧ C = RX3)
theorem pk_aald {q N r t0 : Nat} {C0 : String} {i : Int32} (hd : decode cc pc = .ok (.aaload, 1)) (ht : pk_tq t0 C0) (hs : pk_S M q = some (.inl (.object C0, N))) (hq : 5 ≤ q) (hin : vp_in i N) (hp : pk_P M q i.toNatClampNeg = some r) (k : pk_G Γ κ cc M ls (.ref r :: st) (pc + 1) cu su) : pk_G Γ κ cc M ls (.int i :: .ref q :: st) pc cu su := by
  intro p e s m below meth c H locs arr C hz hR hS hL
  have ht' : (pk_tys Γ)[t0]? = some (Γ.2.2.1 (.object C0), .object C0) := by
    rcases ht with ⟨rfl, rfl⟩ | ⟨rfl, rfl⟩ <;> rfl
  refine va_aldq C.1 C.2.1 hR.2.2.2.1 hR.2.2.1 (q - 5) t0 (pk_w_at (Γ := Γ) hq hs) ht' hin hd ?_
  have e1 : va_rf ((M.2.2.2 q i.toNatClampNeg).map (pk_ga Γ)) = .ref (pk_ga Γ r) := by
    rw [show M.2.2.2 q i.toNatClampNeg = some r from hp]
    rfl
  rw [e1]
  exact k p e s m below meth c H locs arr C hz hR hS hL
theorem pk_aast {q N r t0 ci : Nat} {C0 : String} {i : Int32} (hd : decode cc pc = .ok (.aastore, 1)) (ht : pk_tq t0 C0) (hs : pk_S M q = some (.inl (.object C0, N))) (hq : 5 ≤ q) (hin : vp_in i N) (h8 : ci < 8) (hc : pk_cls ci = C0) (hr : pk_S M r = some (.inr ci)) (k : pk_G Γ κ cc (pk_sP M q i.toNatClampNeg (some r)) ls st (pc + 1) cu su) : pk_G Γ κ cc M ls (.ref r :: .int i :: .ref q :: st) pc cu su := by
  intro p e s m below meth c H locs arr C hz hR hS hL
  have ht' : (pk_tys Γ)[t0]? = some (Γ.2.2.1 (.object C0), .object C0) := by
    rcases ht with ⟨rfl, rfl⟩ | ⟨rfl, rfl⟩ <;> rfl
  subst hc
  refine va_astq (H0 := H) (r := (pk_cls ci, pk_tab ci, pk_fn ci)) C.1 C.2.1 hR.2.2.2.1 hR.2.2.1 (pk_w_D Γ M) (pk_S0 hS) (q - 5) t0 (r - 5) ci (pk_w_at (Γ := Γ) hq hs) ht' (pk_w_at (Γ := Γ) (hR.obj hr) hr) (pk_clq h8) hin hd (fun H1 locs1 hP1 _ hS1 => pk_fin C hz hR hS hL (pk_off_sP M q i.toNatClampNeg (some r)) hq hs hP1 ?_ hS1 k)
  have hf : va_up (fun j => (M.2.2.2 q j).map (pk_ga Γ)) i.toNatClampNeg (some (pk_ga Γ r)) = fun j => ((pk_sP M q i.toNatClampNeg (some r)).2.2.2 q j).map (pk_ga Γ) := by
    funext j
    by_cases hj : j = i.toNatClampNeg <;> simp [va_up, pk_sP, hj]
  simp only [pk_cell, pk_arr, hf]
theorem pk_alen {q N : Nat} (hd : decode cc pc = .ok (.arraylength, 1)) (hq : q < 5) (hs : pk_S M q = some (.inl (.int, N))) (k : pk_G Γ κ cc M ls (.int (Int32.ofNat N) :: st) (pc + 1) cu su) : pk_G Γ κ cc M ls (.ref q :: st) pc cu su := by
  intro p e s m below meth c H locs arr C hz hR hS hL
  obtain ⟨N', e1, cell, g1, g2, g3, g4, g5, g6, g7⟩ := hR.2.2.2.2.1 q hq
  rw [hs] at e1
  cases e1
  exact W.alen C.1 C.2.1 g1 g2 g5 rfl rfl hd (k p e s m below meth c H locs arr C hz hR hS hL)
theorem pk_gets {idx q : Nat} {nm : String} (hd : decode cc pc = .ok (.getstatic idx, 3)) (hm : (nm, q) ∈ pk_st) (hw : Cond.fieldLink κ.1 idx RX6 nm "[I" ∈ pk_tbl ∨ ∃ host, Cond.fieldLinkNest κ.1 idx RX6 nm "[I" host ∈ pk_tbl) (k : pk_G Γ κ cc M ls (.ref q :: st) (pc + 3) cu su) : pk_G Γ κ cc M ls st pc cu su := by
  intro p e s m below meth c H locs arr C hz hR hS hL
  have hZ := hR.2.2.2.2.2 (nm, q) hm
  have hZ0 : va_Z RX6 nm "[I" (.ref (pk_ga Γ q)) (pk_A Γ) s s.heap := hZ.kept (fun a _ hA => (hS.2.1 a (Nat.lt_of_lt_of_le (Nat.not_le.mp hA) C.2.2.2.2.2.2.2.2) hA).symm)
  rcases hw with hw | ⟨host, hw⟩
  · exact va_gets C.1 C.2.1 hZ0 hS C.2.2.2.2.2.1 (C.2.2.2.2.2.2.2.1 _ hw) (fun _ h => h) hd (k p e s m below meth c H locs arr C hz hR hS hL)
  · exact va_getsN C.1 C.2.1 hZ0 hS C.2.2.2.2.2.1 (C.2.2.2.2.2.2.2.1 _ hw) (fun _ h => h) hd (k p e s m below meth c H locs arr C hz hR hS hL)
end PkH
