section PkB
variable {Γ : pk_T} {κ : pk_K} {cc : ByteArray} {M : pk_M} {ls : List (Option Value)} {st : List Value} {pc cu su : Nat}
theorem pk_ladd {x y : Int64} (hd : decode cc pc = .ok (.ladd, 1)) (k : pk_G Γ κ cc M ls (.long (x + y) :: st) (pc + 1) cu su) : pk_G Γ κ cc M ls (.long y :: .long x :: st) pc cu su := by
  intro p e s m below meth c H locs arr C hz hR hS hL
  exact lv_ladd C.1 C.2.1 hd (k p e s m below meth c H locs arr C hz hR hS hL)
theorem pk_lmul {x y : Int64} (hd : decode cc pc = .ok (.lmul, 1)) (k : pk_G Γ κ cc M ls (.long (x * y) :: st) (pc + 1) cu su) : pk_G Γ κ cc M ls (.long y :: .long x :: st) pc cu su := by
  intro p e s m below meth c H locs arr C hz hR hS hL
  exact lv_lmul C.1 C.2.1 hd (k p e s m below meth c H locs arr C hz hR hS hL)
theorem pk_land {x y : Int64} (hd : decode cc pc = .ok (.land, 1)) (k : pk_G Γ κ cc M ls (.long (x &&& y) :: st) (pc + 1) cu su) : pk_G Γ κ cc M ls (.long y :: .long x :: st) pc cu su := by
  intro p e s m below meth c H locs arr C hz hR hS hL
  exact lv_land C.1 C.2.1 hd (k p e s m below meth c H locs arr C hz hR hS hL)
theorem pk_lor {x y : Int64} (hd : decode cc pc = .ok (.lor, 1)) (k : pk_G Γ κ cc M ls (.long (x ||| y) :: st) (pc + 1) cu su) : pk_G Γ κ cc M ls (.long y :: .long x :: st) pc cu su := by
  intro p e s m below meth c H locs arr C hz hR hS hL
  exact lv_lor C.1 C.2.1 hd (k p e s m below meth c H locs arr C hz hR hS hL)
theorem pk_idiv {x y : Int32} (hd : decode cc pc = .ok (.idiv, 1)) (hne : ¬ y = 0) (k : pk_G Γ κ cc M ls (.int (x / y) :: st) (pc + 1) cu su) : pk_G Γ κ cc M ls (.int y :: .int x :: st) pc cu su := by
  intro p e s m below meth c H locs arr C hz hR hS hL
  exact lv_idiv C.1 C.2.1 hd hne (k p e s m below meth c H locs arr C hz hR hS hL)
theorem pk_ldiv {x y : Int64} (hd : decode cc pc = .ok (.ldiv, 1)) (hne : ¬ y = 0) (k : pk_G Γ κ cc M ls (.long (x / y) :: st) (pc + 1) cu su) : pk_G Γ κ cc M ls (.long y :: .long x :: st) pc cu su := by
  intro p e s m below meth c H locs arr C hz hR hS hL
  exact lv_ldiv C.1 C.2.1 hd hne (k p e s m below meth c H locs arr C hz hR hS hL)
theorem pk_lrem {x y : Int64} (hd : decode cc pc = .ok (.lrem, 1)) (hne : ¬ y = 0) (k : pk_G Γ κ cc M ls (.long (x - x / y * y) :: st) (pc + 1) cu su) : pk_G Γ κ cc M ls (.long y :: .long x :: st) pc cu su := by
  intro p e s m below meth c H locs arr C hz hR hS hL
  exact lv_lrem C.1 C.2.1 hd hne (k p e s m below meth c H locs arr C hz hR hS hL)
theorem pk_irem {x y : Int32} (hd : decode cc pc = .ok (.irem, 1)) (hne : ¬ y = 0) (k : pk_G Γ κ cc M ls (.int (x % y) :: st) (pc + 1) cu su) : pk_G Γ κ cc M ls (.int y :: .int x :: st) pc cu su := by
  intro p e s m below meth c H locs arr C hz hR hS hL
  exact lv_irem C.1 C.2.1 hd hne (by rw [irem_eq_mod]; exact k p e s m below meth c H locs arr C hz hR hS hL)
theorem pk_ishl {x y : Int32} (hd : decode cc pc = .ok (.ishl, 1)) (k : pk_G Γ κ cc M ls (.int (x <<< (y &&& 31)) :: st) (pc + 1) cu su) : pk_G Γ κ cc M ls (.int y :: .int x :: st) pc cu su := by
  intro p e s m below meth c H locs arr C hz hR hS hL
  exact lv_ishl C.1 C.2.1 hd (k p e s m below meth c H locs arr C hz hR hS hL)
theorem pk_ishr {x y : Int32} (hd : decode cc pc = .ok (.ishr, 1)) (k : pk_G Γ κ cc M ls (.int (x >>> (y &&& 31)) :: st) (pc + 1) cu su) : pk_G Γ κ cc M ls (.int y :: .int x :: st) pc cu su := by
  intro p e s m below meth c H locs arr C hz hR hS hL
  exact lv_ishr C.1 C.2.1 hd (k p e s m below meth c H locs arr C hz hR hS hL)
theorem pk_iushr {x y v : Int32} (hd : decode cc pc = .ok (.iushr, 1)) (hv : (x.toUInt32 >>> (y.toUInt32 &&& Int32.toUInt32 31)).toInt32 = v) (k : pk_G Γ κ cc M ls (.int v :: st) (pc + 1) cu su) : pk_G Γ κ cc M ls (.int y :: .int x :: st) pc cu su := by
  intro p e s m below meth c H locs arr C hz hR hS hL
  exact lv_iushr C.1 C.2.1 hd hv (k p e s m below meth c H locs arr C hz hR hS hL)
theorem pk_lshl {x v : Int64} {y : Int32} (hd : decode cc pc = .ok (.lshl, 1)) (hv : x <<< (y.toInt64 &&& 63) = v) (k : pk_G Γ κ cc M ls (.long v :: st) (pc + 1) cu su) : pk_G Γ κ cc M ls (.int y :: .long x :: st) pc cu su := by
  intro p e s m below meth c H locs arr C hz hR hS hL
  exact lv_lshl C.1 C.2.1 hd hv (k p e s m below meth c H locs arr C hz hR hS hL)
theorem pk_i2l {x : Int32} (hd : decode cc pc = .ok (.i2l, 1)) (k : pk_G Γ κ cc M ls (.long x.toInt64 :: st) (pc + 1) cu su) : pk_G Γ κ cc M ls (.int x :: st) pc cu su := by
  intro p e s m below meth c H locs arr C hz hR hS hL
  exact lv_i2l C.1 C.2.1 hd rfl (k p e s m below meth c H locs arr C hz hR hS hL)
theorem pk_l2i {x : Int64} (hd : decode cc pc = .ok (.l2i, 1)) (k : pk_G Γ κ cc M ls (.int x.toInt32 :: st) (pc + 1) cu su) : pk_G Γ κ cc M ls (.long x :: st) pc cu su := by
  intro p e s m below meth c H locs arr C hz hR hS hL
  exact lv_l2i C.1 C.2.1 hd rfl (k p e s m below meth c H locs arr C hz hR hS hL)
theorem pk_i2b {x : Int32} (hd : decode cc pc = .ok (.i2b, 1)) (k : pk_G Γ κ cc M ls (.int x.toInt8.toInt32 :: st) (pc + 1) cu su) : pk_G Γ κ cc M ls (.int x :: st) pc cu su := by
  intro p e s m below meth c H locs arr C hz hR hS hL
  exact lv_i2b C.1 C.2.1 hd rfl (k p e s m below meth c H locs arr C hz hR hS hL)
theorem pk_i2s {x : Int32} (hd : decode cc pc = .ok (.i2s, 1)) (k : pk_G Γ κ cc M ls (.int x.toInt16.toInt32 :: st) (pc + 1) cu su) : pk_G Γ κ cc M ls (.int x :: st) pc cu su := by
  intro p e s m below meth c H locs arr C hz hR hS hL
  exact lv_i2s C.1 C.2.1 hd rfl (k p e s m below meth c H locs arr C hz hR hS hL)
theorem pk_lcmp {x y : Int64} (hd : decode cc pc = .ok (.lcmp, 1)) (k : pk_G Γ κ cc M ls (.int (lg_cmp x y) :: st) (pc + 1) cu su) : pk_G Γ κ cc M ls (.long y :: .long x :: st) pc cu su := by
  intro p e s m below meth c H locs arr C hz hR hS hL
  exact W.lcmp C.1 C.2.1 hd (k p e s m below meth c H locs arr C hz hR hS hL)
theorem pk_dup {va : Value} (hd : decode cc pc = .ok (.dup, 1)) (hc : va.category = 1) (k : pk_G Γ κ cc M ls (va :: va :: st) (pc + 1) cu su) : pk_G Γ κ cc M ls (va :: st) pc cu su := by
  intro p e s m below meth c H locs arr C hz hR hS hL
  exact lv_dup C.1 C.2.1 hd ((pk_gv_cat Γ va).trans hc) (k p e s m below meth c H locs arr C hz hR hS hL)
theorem pk_pop {va : Value} (hd : decode cc pc = .ok (.pop, 1)) (hc : va.category = 1) (k : pk_G Γ κ cc M ls (st) (pc + 1) cu su) : pk_G Γ κ cc M ls (va :: st) pc cu su := by
  intro p e s m below meth c H locs arr C hz hR hS hL
  exact lv_pop C.1 C.2.1 hd ((pk_gv_cat Γ va).trans hc) (k p e s m below meth c H locs arr C hz hR hS hL)
theorem pk_dup2 {va vb : Value} (hd : decode cc pc = .ok (.dup2, 1)) (hc : va.category = 1) (hc2 : vb.category = 1) (k : pk_G Γ κ cc M ls (va :: vb :: va :: vb :: st) (pc + 1) cu su) : pk_G Γ κ cc M ls (va :: vb :: st) pc cu su := by
  intro p e s m below meth c H locs arr C hz hR hS hL
  exact lv_dup2_11 C.1 C.2.1 hd ((pk_gv_cat Γ va).trans hc) ((pk_gv_cat Γ vb).trans hc2) (k p e s m below meth c H locs arr C hz hR hS hL)
theorem pk_if_eq {x : Int32} {off : Int} {tgt : Nat} (hd : decode cc pc = .ok (.ifCond .eq off, 3)) (ht : (pc : Int) + off = (tgt : Int)) (kt : x = 0 → pk_G Γ κ cc M ls st tgt cu su) (kf : ¬ x = 0 → pk_G Γ κ cc M ls st (pc + 3) cu su) : pk_G Γ κ cc M ls (.int x :: st) pc cu su := by
  intro p e s m below meth c H locs arr C hz hR hS hL
  exact lv_if_eq C.1 C.2.1 hd ht (fun h => kt h p e s m below meth c H locs arr C hz hR hS hL) (fun h => kf h p e s m below meth c H locs arr C hz hR hS hL)
theorem pk_icmp_eq {x y : Int32} {off : Int} {tgt : Nat} (hd : decode cc pc = .ok (.if_icmp .eq off, 3)) (ht : (pc : Int) + off = (tgt : Int)) (kt : x = y → pk_G Γ κ cc M ls st tgt cu su) (kf : ¬ x = y → pk_G Γ κ cc M ls st (pc + 3) cu su) : pk_G Γ κ cc M ls (.int y :: .int x :: st) pc cu su := by
  intro p e s m below meth c H locs arr C hz hR hS hL
  exact lv_icmp_eq C.1 C.2.1 hd ht (fun h => kt h p e s m below meth c H locs arr C hz hR hS hL) (fun h => kf h p e s m below meth c H locs arr C hz hR hS hL)
theorem pk_if_ne {x : Int32} {off : Int} {tgt : Nat} (hd : decode cc pc = .ok (.ifCond .ne off, 3)) (ht : (pc : Int) + off = (tgt : Int)) (kt : ¬ x = 0 → pk_G Γ κ cc M ls st tgt cu su) (kf : x = 0 → pk_G Γ κ cc M ls st (pc + 3) cu su) : pk_G Γ κ cc M ls (.int x :: st) pc cu su := by
  intro p e s m below meth c H locs arr C hz hR hS hL
  exact lv_if_ne C.1 C.2.1 hd ht (fun h => kt h p e s m below meth c H locs arr C hz hR hS hL) (fun h => kf h p e s m below meth c H locs arr C hz hR hS hL)
theorem pk_icmp_ne {x y : Int32} {off : Int} {tgt : Nat} (hd : decode cc pc = .ok (.if_icmp .ne off, 3)) (ht : (pc : Int) + off = (tgt : Int)) (kt : ¬ x = y → pk_G Γ κ cc M ls st tgt cu su) (kf : x = y → pk_G Γ κ cc M ls st (pc + 3) cu su) : pk_G Γ κ cc M ls (.int y :: .int x :: st) pc cu su := by
  intro p e s m below meth c H locs arr C hz hR hS hL
  exact lv_icmp_ne C.1 C.2.1 hd ht (fun h => kt h p e s m below meth c H locs arr C hz hR hS hL) (fun h => kf h p e s m below meth c H locs arr C hz hR hS hL)
theorem pk_if_lt {x : Int32} {off : Int} {tgt : Nat} (hd : decode cc pc = .ok (.ifCond .lt off, 3)) (ht : (pc : Int) + off = (tgt : Int)) (kt : x < 0 → pk_G Γ κ cc M ls st tgt cu su) (kf : ¬ x < 0 → pk_G Γ κ cc M ls st (pc + 3) cu su) : pk_G Γ κ cc M ls (.int x :: st) pc cu su := by
  intro p e s m below meth c H locs arr C hz hR hS hL
  exact lv_if_lt C.1 C.2.1 hd ht (fun h => kt h p e s m below meth c H locs arr C hz hR hS hL) (fun h => kf h p e s m below meth c H locs arr C hz hR hS hL)
theorem pk_icmp_lt {x y : Int32} {off : Int} {tgt : Nat} (hd : decode cc pc = .ok (.if_icmp .lt off, 3)) (ht : (pc : Int) + off = (tgt : Int)) (kt : x < y → pk_G Γ κ cc M ls st tgt cu su) (kf : ¬ x < y → pk_G Γ κ cc M ls st (pc + 3) cu su) : pk_G Γ κ cc M ls (.int y :: .int x :: st) pc cu su := by
  intro p e s m below meth c H locs arr C hz hR hS hL
  exact lv_icmp_lt C.1 C.2.1 hd ht (fun h => kt h p e s m below meth c H locs arr C hz hR hS hL) (fun h => kf h p e s m below meth c H locs arr C hz hR hS hL)
theorem pk_if_ge {x : Int32} {off : Int} {tgt : Nat} (hd : decode cc pc = .ok (.ifCond .ge off, 3)) (ht : (pc : Int) + off = (tgt : Int)) (kt : 0 ≤ x → pk_G Γ κ cc M ls st tgt cu su) (kf : ¬ 0 ≤ x → pk_G Γ κ cc M ls st (pc + 3) cu su) : pk_G Γ κ cc M ls (.int x :: st) pc cu su := by
  intro p e s m below meth c H locs arr C hz hR hS hL
  exact lv_if_ge C.1 C.2.1 hd ht (fun h => kt h p e s m below meth c H locs arr C hz hR hS hL) (fun h => kf h p e s m below meth c H locs arr C hz hR hS hL)
theorem pk_icmp_ge {x y : Int32} {off : Int} {tgt : Nat} (hd : decode cc pc = .ok (.if_icmp .ge off, 3)) (ht : (pc : Int) + off = (tgt : Int)) (kt : y ≤ x → pk_G Γ κ cc M ls st tgt cu su) (kf : ¬ y ≤ x → pk_G Γ κ cc M ls st (pc + 3) cu su) : pk_G Γ κ cc M ls (.int y :: .int x :: st) pc cu su := by
  intro p e s m below meth c H locs arr C hz hR hS hL
  exact lv_icmp_ge C.1 C.2.1 hd ht (fun h => kt h p e s m below meth c H locs arr C hz hR hS hL) (fun h => kf h p e s m below meth c H locs arr C hz hR hS hL)
theorem pk_if_gt {x : Int32} {off : Int} {tgt : Nat} (hd : decode cc pc = .ok (.ifCond .gt off, 3)) (ht : (pc : Int) + off = (tgt : Int)) (kt : 0 < x → pk_G Γ κ cc M ls st tgt cu su) (kf : ¬ 0 < x → pk_G Γ κ cc M ls st (pc + 3) cu su) : pk_G Γ κ cc M ls (.int x :: st) pc cu su := by
  intro p e s m below meth c H locs arr C hz hR hS hL
  exact lv_if_gt C.1 C.2.1 hd ht (fun h => kt h p e s m below meth c H locs arr C hz hR hS hL) (fun h => kf h p e s m below meth c H locs arr C hz hR hS hL)
theorem pk_icmp_gt {x y : Int32} {off : Int} {tgt : Nat} (hd : decode cc pc = .ok (.if_icmp .gt off, 3)) (ht : (pc : Int) + off = (tgt : Int)) (kt : y < x → pk_G Γ κ cc M ls st tgt cu su) (kf : ¬ y < x → pk_G Γ κ cc M ls st (pc + 3) cu su) : pk_G Γ κ cc M ls (.int y :: .int x :: st) pc cu su := by
  intro p e s m below meth c H locs arr C hz hR hS hL
  exact lv_icmp_gt C.1 C.2.1 hd ht (fun h => kt h p e s m below meth c H locs arr C hz hR hS hL) (fun h => kf h p e s m below meth c H locs arr C hz hR hS hL)
theorem pk_if_le {x : Int32} {off : Int} {tgt : Nat} (hd : decode cc pc = .ok (.ifCond .le off, 3)) (ht : (pc : Int) + off = (tgt : Int)) (kt : x ≤ 0 → pk_G Γ κ cc M ls st tgt cu su) (kf : ¬ x ≤ 0 → pk_G Γ κ cc M ls st (pc + 3) cu su) : pk_G Γ κ cc M ls (.int x :: st) pc cu su := by
  intro p e s m below meth c H locs arr C hz hR hS hL
  exact lv_if_le C.1 C.2.1 hd ht (fun h => kt h p e s m below meth c H locs arr C hz hR hS hL) (fun h => kf h p e s m below meth c H locs arr C hz hR hS hL)
theorem pk_icmp_le {x y : Int32} {off : Int} {tgt : Nat} (hd : decode cc pc = .ok (.if_icmp .le off, 3)) (ht : (pc : Int) + off = (tgt : Int)) (kt : x ≤ y → pk_G Γ κ cc M ls st tgt cu su) (kf : ¬ x ≤ y → pk_G Γ κ cc M ls st (pc + 3) cu su) : pk_G Γ κ cc M ls (.int y :: .int x :: st) pc cu su := by
  intro p e s m below meth c H locs arr C hz hR hS hL
  exact lv_icmp_le C.1 C.2.1 hd ht (fun h => kt h p e s m below meth c H locs arr C hz hR hS hL) (fun h => kf h p e s m below meth c H locs arr C hz hR hS hL)
theorem pk_goto {off : Int} {tgt : Nat} (hd : decode cc pc = .ok (.goto off, 3)) (ht : (pc : Int) + off = (tgt : Int)) (k : pk_G Γ κ cc M ls st tgt cu su) : pk_G Γ κ cc M ls st pc cu su := by
  intro p e s m below meth c H locs arr C hz hR hS hL
  exact lv_goto C.1 C.2.1 hd ht (k p e s m below meth c H locs arr C hz hR hS hL)
theorem pk_swOut {dflt lo hi : Int} {offs : Array Int} {len : Nat} {x : Int32} {tgt : Nat} (hd : decode cc pc = .ok (.tableswitch dflt lo hi offs, len)) (h : x.toInt < lo ∨ hi < x.toInt) (ht : (pc : Int) + dflt = (tgt : Int)) (k : pk_G Γ κ cc M ls st tgt cu su) : pk_G Γ κ cc M ls (.int x :: st) pc cu su := by
  intro p e s m below meth c H locs arr C hz hR hS hL
  exact lv_tableOut C.1 C.2.1 hd h ht (k p e s m below meth c H locs arr C hz hR hS hL)
theorem pk_swIn {dflt lo hi : Int} {offs : Array Int} {len : Nat} {x : Int32} {off : Int} {tgt : Nat} (hd : decode cc pc = .ok (.tableswitch dflt lo hi offs, len)) (h1 : ¬ x.toInt < lo) (h2 : ¬ hi < x.toInt) (ho : offs[(x.toInt - lo).toNat]? = some off) (ht : (pc : Int) + off = (tgt : Int)) (k : pk_G Γ κ cc M ls st tgt cu su) : pk_G Γ κ cc M ls (.int x :: st) pc cu su := by
  intro p e s m below meth c H locs arr C hz hR hS hL
  exact lv_tableIn C.1 C.2.1 hd h1 h2 ho ht (k p e s m below meth c H locs arr C hz hR hS hL)
theorem pk_ldc {idx : Nat} {v : Int32} (hd : decode cc pc = .ok (.ldc idx, 2)) (hw : Cond.constant κ.1 idx v ∈ pk_tbl) (k : pk_G Γ κ cc M ls (.int v :: st) (pc + 2) cu su) : pk_G Γ κ cc M ls st pc cu su := by
  intro p e s m below meth c H locs arr C hz hR hS hL
  exact lv_ldc C.1 C.2.1 C.2.2.2.2.2.1 (C.2.2.2.2.2.2.2.1 _ hw) hd (k p e s m below meth c H locs arr C hz hR hS hL)
theorem pk_ldc2 {idx : Nat} {v : Int64} (hd : decode cc pc = .ok (.ldc2_w idx, 3)) (hw : Cond.constantLong κ.1 idx v ∈ pk_tbl) (k : pk_G Γ κ cc M ls (.long v :: st) (pc + 3) cu su) : pk_G Γ κ cc M ls st pc cu su := by
  intro p e s m below meth c H locs arr C hz hR hS hL
  exact lv_ldc2 C.1 C.2.1 C.2.2.2.2.2.1 (C.2.2.2.2.2.2.2.1 _ hw) hd (k p e s m below meth c H locs arr C hz hR hS hL)
theorem pk_L.set2 {n i : Nat} {arr arr' : Array Slot} {v : Value} (h : pk_L Γ n ls arr) (hok : pk_ok ls i = true) (hi : i + 1 < ls.length)
    (h' : lv_has arr' n ((i, pk_gv Γ v) :: (pk_prs Γ ls).filter (fun q => !(q.1 == i) && (!(q.1 == i + 1) && !(q.1 + 1 == i && q.2.category == 2))))) : pk_L Γ n ((ls.set i (some v)).set (i + 1) none) arr' := by
  refine ⟨by rw [List.length_set, List.length_set]; exact h.1, h'.1, h'.2.1, fun k w hk => ?_⟩
  by_cases hk1 : k = i + 1
  · subst hk1
    rw [List.getElem?_set_self (by rw [List.length_set]; exact hi)] at hk
    cases hk
  · rw [List.getElem?_set_ne (fun e => hk1 e.symm)] at hk
    by_cases hki : k = i
    · subst hki
      rw [List.getElem?_set_self (by omega)] at hk
      cases hk
      exact h'.2.2 _ List.mem_cons_self
    · rw [List.getElem?_set_ne (fun e => hki e.symm)] at hk
      refine h'.2.2 (k, pk_gv Γ w) (List.mem_cons_of_mem _ (List.mem_filter.mpr ⟨pk_prs_mem.mpr ⟨w, hk, rfl⟩, ?_⟩))
      have hk2 : (k == i) = false := by simp [hki]
      have hk3 : (k == i + 1) = false := by simp [hk1]
      show (!(k == i) && (!(k == i + 1) && !(k + 1 == i && (pk_gv Γ w).category == 2))) = true
      rw [hk2, hk3, pk_gv_cat]
      by_cases hks : k + 1 = i
      · subst hks
        simp only [pk_ok, hk] at hok
        cases w <;> first | exact absurd hok Bool.false_ne_true | simp [Value.category]
      · simp [hks]
theorem pk_lstore_n {i : Fin 4} {x : Int64} (hd : decode cc pc = .ok (.lstore_n i, 1)) (hok : pk_ok ls (i : Nat) = true) (hi : Nat.blt ((i : Nat) + 1) ls.length = true) (k : pk_G Γ κ cc M ((ls.set (i : Nat) (some (.long x))).set ((i : Nat) + 1) none) st (pc + 1) cu su) : pk_G Γ κ cc M ls (.long x :: st) pc cu su := by
  intro p e s m below meth c H locs arr C hz hR hS hL
  have hi' : (i : Nat) + 1 < ls.length := Nat.le_of_ble_eq_true hi
  exact lv_lstore_n C.1 C.2.1 hd rfl hL.has (by rw [← hL.1]; exact hi') rfl (fun arr' h => k p e s m below meth c H locs arr' C hz hR hS (hL.set2 hok hi' h))
theorem pk_lstore {i : Nat} {x : Int64} (hd : decode cc pc = .ok (.lstore i, 2)) (hok : pk_ok ls i = true) (hi : Nat.blt (i + 1) ls.length = true) (k : pk_G Γ κ cc M ((ls.set i (some (.long x))).set (i + 1) none) st (pc + 2) cu su) : pk_G Γ κ cc M ls (.long x :: st) pc cu su := by
  intro p e s m below meth c H locs arr C hz hR hS hL
  have hi' : i + 1 < ls.length := Nat.le_of_ble_eq_true hi
  exact lv_lstore C.1 C.2.1 hd hL.has (by rw [← hL.1]; exact hi') rfl (fun arr' h => k p e s m below meth c H locs arr' C hz hR hS (hL.set2 hok hi' h))
/-- fewer is known of the locals -/
theorem pk_less {ls' : List (Option Value)} (hl : ls'.length = ls.length) (h : ∀ (k : Nat) (v : Value), ls'[k]? = some (some v) → ls[k]? = some (some v)) (k : pk_G Γ κ cc M ls' st pc cu su) : pk_G Γ κ cc M ls st pc cu su := by
  intro p e s m below meth c H locs arr C hz hR hS hL
  exact k p e s m below meth c H locs arr C hz hR hS ⟨hl.trans hL.1, hL.2.1, hL.2.2.1, fun j v hj => hL.2.2.2 j v (h j v hj)⟩
end PkB
