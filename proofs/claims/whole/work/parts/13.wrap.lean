/-! Steps over numbers that are natural; calls whose answer is a function; loops. -/
def pk_bi (b : Bool) : Int32 := if b then 1 else 0
theorem pk_nmul (a b : Nat) : nI a * nI b = nI (a * b) := (Int32.ofNat_mul a b).symm
theorem pk_nsub {a b : Nat} (h : b ≤ a) : nI a - nI b = nI (a - b) := by
  have e : nI a = nI (a - b) + nI b := by rw [nI_add]; congr 1; omega
  rw [e]
  simp
theorem pk_nmod {a b : Nat} (ha : a < 2 ^ 31) (hb : b < 2 ^ 31) : nI a % nI b = nI (a % b) := by
  apply Int32.toInt_inj.mp
  have hd : a % b ≤ a := Nat.mod_le a b
  rw [Int32.toInt_mod, nI_toInt ha, nI_toInt hb, nI_toInt (by omega)]
  rfl
theorem pk_n0 {a : Nat} (ha : a < 2 ^ 31) : nI a = 0 ↔ a = 0 := by
  rw [← nI_0, nI_eq ha (by decide)]
theorem pk_nof {x : Int32} {N : Nat} (h0 : 0 ≤ x) (h1 : x < nI N) (hN : N < 2 ^ 31) : ∃ k, k < N ∧ x = nI k := by
  obtain ⟨k, hk, rfl⟩ := nI_of (x := x) (fun h => by rw [Int32.lt_iff_toInt_lt] at h; rw [Int32.le_iff_toInt_le] at h0; omega)
  exact ⟨k, (nI_ltI hk hN).mp h1, rfl⟩
section PkW
variable {Γ : pk_T} {κ : pk_K} {cc : ByteArray} {M : pk_M} {ls : List (Option Value)} {st : List Value} {pc cu su : Nat}
theorem pk_lsq {ls' : List (Option Value)} (h : ls = ls') (k : pk_G Γ κ cc M ls' st pc cu su) : pk_G Γ κ cc M ls st pc cu su := h ▸ k
theorem pk_stq {st' : List Value} (h : st = st') (k : pk_G Γ κ cc M ls st' pc cu su) : pk_G Γ κ cc M ls st pc cu su := h ▸ k
theorem pk_Mq {M' : pk_M} (h : M = M') (k : pk_G Γ κ cc M' ls st pc cu su) : pk_G Γ κ cc M ls st pc cu su := h ▸ k
/-- a counted loop: what is known at its head at each turn -/
theorem pk_for (B : Nat) (Mm : Nat → pk_M) (lm : Nat → List (Option Value)) (hs : ∀ i, i < B → pk_G Γ κ cc (Mm (i + 1)) (lm (i + 1)) st pc cu su → pk_G Γ κ cc (Mm i) (lm i) st pc cu su) (he : pk_G Γ κ cc (Mm B) (lm B) st pc cu su) : ∀ i, i ≤ B → pk_G Γ κ cc (Mm i) (lm i) st pc cu su := by
  have key : ∀ n i, i + n = B → pk_G Γ κ cc (Mm i) (lm i) st pc cu su := by
    intro n
    induction n with
    | zero => intro i h; have : i = B := by omega
              subst this; exact he
    | succ n ih => intro i h; exact hs i (by omega) (ih (i + 1) (by omega))
  exact fun i hi => key (B - i) i (by omega)
/-- any loop: by a number that falls -/
theorem pk_wf {α : Type} (μ : α → Nat) (J : α → Prop) (Mm : α → pk_M) (lm : α → List (Option Value)) (hs : ∀ a, J a → (∀ b, J b → μ b < μ a → pk_G Γ κ cc (Mm b) (lm b) st pc cu su) → pk_G Γ κ cc (Mm a) (lm a) st pc cu su) : ∀ a, J a → pk_G Γ κ cc (Mm a) (lm a) st pc cu su := by
  have key : ∀ n a, μ a < n → J a → pk_G Γ κ cc (Mm a) (lm a) st pc cu su := by
    intro n
    induction n with
    | zero => intro a h; exact absurd h (Nat.not_lt_zero _)
    | succ n ih => intro a h ha; exact hs a ha (fun b hb hl => ih b (by omega) hb)
  exact fun a ha => key (μ a + 1) a (Nat.lt_succ_self _) ha
theorem pk_inc1 {i x : Nat} (hd : decode cc pc = .ok (.iinc i 1, 3)) (hl : ls[i]? = some (some (.int (nI x)))) (hok : pk_ok ls i = true) (k : pk_G Γ κ cc M (ls.set i (some (.int (nI (x + 1))))) st (pc + 3) cu su) : pk_G Γ κ cc M ls st pc cu su :=
  pk_iinc hd hl (nI_1 x) hok k
theorem pk_addN {a b : Nat} (hd : decode cc pc = .ok (.iadd, 1)) (k : pk_G Γ κ cc M ls (.int (nI (a + b)) :: st) (pc + 1) cu su) : pk_G Γ κ cc M ls (.int (nI b) :: .int (nI a) :: st) pc cu su :=
  pk_iadd hd (by rw [nI_add]; exact k)
theorem pk_mulN {a b : Nat} (hd : decode cc pc = .ok (.imul, 1)) (k : pk_G Γ κ cc M ls (.int (nI (a * b)) :: st) (pc + 1) cu su) : pk_G Γ κ cc M ls (.int (nI b) :: .int (nI a) :: st) pc cu su :=
  pk_imul hd (by rw [pk_nmul]; exact k)
theorem pk_subN {a b : Nat} (hd : decode cc pc = .ok (.isub, 1)) (h : b ≤ a) (k : pk_G Γ κ cc M ls (.int (nI (a - b)) :: st) (pc + 1) cu su) : pk_G Γ κ cc M ls (.int (nI b) :: .int (nI a) :: st) pc cu su :=
  pk_isub hd (by rw [pk_nsub h]; exact k)
theorem pk_divN {a b : Nat} (hd : decode cc pc = .ok (.idiv, 1)) (h0 : 0 < b) (ha : a < 2 ^ 31) (hb : b < 2 ^ 31) (k : pk_G Γ κ cc M ls (.int (nI (a / b)) :: st) (pc + 1) cu su) : pk_G Γ κ cc M ls (.int (nI b) :: .int (nI a) :: st) pc cu su :=
  pk_idiv hd (nI_ne0 h0 hb) (by rw [pk_div ha h0 hb]; exact k)
theorem pk_remN {a b : Nat} (hd : decode cc pc = .ok (.irem, 1)) (h0 : 0 < b) (ha : a < 2 ^ 31) (hb : b < 2 ^ 31) (k : pk_G Γ κ cc M ls (.int (nI (a % b)) :: st) (pc + 1) cu su) : pk_G Γ κ cc M ls (.int (nI b) :: .int (nI a) :: st) pc cu su :=
  pk_irem hd (nI_ne0 h0 hb) (by rw [pk_nmod ha hb]; exact k)
theorem pk_geN {a b : Nat} {off : Int} {tgt : Nat} (hd : decode cc pc = .ok (.if_icmp .ge off, 3)) (ht : (pc : Int) + off = (tgt : Int)) (ha : a < 2 ^ 31) (hb : b < 2 ^ 31) (kt : b ≤ a → pk_G Γ κ cc M ls st tgt cu su) (kf : a < b → pk_G Γ κ cc M ls st (pc + 3) cu su) : pk_G Γ κ cc M ls (.int (nI b) :: .int (nI a) :: st) pc cu su :=
  pk_icmp_ge hd ht (fun h => kt ((nI_leI hb ha).mp h)) (fun h => kf (Nat.not_le.mp fun z => h ((nI_leI hb ha).mpr z)))
theorem pk_ltN {a b : Nat} {off : Int} {tgt : Nat} (hd : decode cc pc = .ok (.if_icmp .lt off, 3)) (ht : (pc : Int) + off = (tgt : Int)) (ha : a < 2 ^ 31) (hb : b < 2 ^ 31) (kt : a < b → pk_G Γ κ cc M ls st tgt cu su) (kf : b ≤ a → pk_G Γ κ cc M ls st (pc + 3) cu su) : pk_G Γ κ cc M ls (.int (nI b) :: .int (nI a) :: st) pc cu su :=
  pk_icmp_lt hd ht (fun h => kt ((nI_ltI ha hb).mp h)) (fun h => kf (Nat.not_lt.mp fun z => h ((nI_ltI ha hb).mpr z)))
theorem pk_gtN {a b : Nat} {off : Int} {tgt : Nat} (hd : decode cc pc = .ok (.if_icmp .gt off, 3)) (ht : (pc : Int) + off = (tgt : Int)) (ha : a < 2 ^ 31) (hb : b < 2 ^ 31) (kt : b < a → pk_G Γ κ cc M ls st tgt cu su) (kf : a ≤ b → pk_G Γ κ cc M ls st (pc + 3) cu su) : pk_G Γ κ cc M ls (.int (nI b) :: .int (nI a) :: st) pc cu su :=
  pk_icmp_gt hd ht (fun h => kt ((nI_ltI hb ha).mp h)) (fun h => kf (Nat.not_lt.mp fun z => h ((nI_ltI hb ha).mpr z)))
theorem pk_leN {a b : Nat} {off : Int} {tgt : Nat} (hd : decode cc pc = .ok (.if_icmp .le off, 3)) (ht : (pc : Int) + off = (tgt : Int)) (ha : a < 2 ^ 31) (hb : b < 2 ^ 31) (kt : a ≤ b → pk_G Γ κ cc M ls st tgt cu su) (kf : b < a → pk_G Γ κ cc M ls st (pc + 3) cu su) : pk_G Γ κ cc M ls (.int (nI b) :: .int (nI a) :: st) pc cu su :=
  pk_icmp_le hd ht (fun h => kt ((nI_leI ha hb).mp h)) (fun h => kf (Nat.not_le.mp fun z => h ((nI_leI ha hb).mpr z)))
theorem pk_eqN {a b : Nat} {off : Int} {tgt : Nat} (hd : decode cc pc = .ok (.if_icmp .eq off, 3)) (ht : (pc : Int) + off = (tgt : Int)) (ha : a < 2 ^ 31) (hb : b < 2 ^ 31) (kt : a = b → pk_G Γ κ cc M ls st tgt cu su) (kf : a ≠ b → pk_G Γ κ cc M ls st (pc + 3) cu su) : pk_G Γ κ cc M ls (.int (nI b) :: .int (nI a) :: st) pc cu su :=
  pk_icmp_eq hd ht (fun h => kt ((nI_eq ha hb).mp h)) (fun h => kf (fun z => h ((nI_eq ha hb).mpr z)))
theorem pk_neN {a b : Nat} {off : Int} {tgt : Nat} (hd : decode cc pc = .ok (.if_icmp .ne off, 3)) (ht : (pc : Int) + off = (tgt : Int)) (ha : a < 2 ^ 31) (hb : b < 2 ^ 31) (kt : a ≠ b → pk_G Γ κ cc M ls st tgt cu su) (kf : a = b → pk_G Γ κ cc M ls st (pc + 3) cu su) : pk_G Γ κ cc M ls (.int (nI b) :: .int (nI a) :: st) pc cu su :=
  pk_icmp_ne hd ht (fun h => kt (fun z => h ((nI_eq ha hb).mpr z))) (fun h => kf ((nI_eq ha hb).mp h))
theorem pk_eq0N {a : Nat} {off : Int} {tgt : Nat} (hd : decode cc pc = .ok (.ifCond .eq off, 3)) (ht : (pc : Int) + off = (tgt : Int)) (ha : a < 2 ^ 31) (kt : a = 0 → pk_G Γ κ cc M ls st tgt cu su) (kf : a ≠ 0 → pk_G Γ κ cc M ls st (pc + 3) cu su) : pk_G Γ κ cc M ls (.int (nI a) :: st) pc cu su :=
  pk_if_eq hd ht (fun h => kt ((pk_n0 ha).mp h)) (fun h => kf (fun z => h ((pk_n0 ha).mpr z)))
theorem pk_ne0N {a : Nat} {off : Int} {tgt : Nat} (hd : decode cc pc = .ok (.ifCond .ne off, 3)) (ht : (pc : Int) + off = (tgt : Int)) (ha : a < 2 ^ 31) (kt : a ≠ 0 → pk_G Γ κ cc M ls st tgt cu su) (kf : a = 0 → pk_G Γ κ cc M ls st (pc + 3) cu su) : pk_G Γ κ cc M ls (.int (nI a) :: st) pc cu su :=
  pk_if_ne hd ht (fun h => kt (fun z => h ((pk_n0 ha).mpr z))) (fun h => kf ((pk_n0 ha).mp h))
theorem pk_eqb {b : Bool} {off : Int} {tgt : Nat} (hd : decode cc pc = .ok (.ifCond .eq off, 3)) (ht : (pc : Int) + off = (tgt : Int)) (kt : b = false → pk_G Γ κ cc M ls st tgt cu su) (kf : b = true → pk_G Γ κ cc M ls st (pc + 3) cu su) : pk_G Γ κ cc M ls (.int (pk_bi b) :: st) pc cu su :=
  pk_if_eq hd ht (fun h => kt (by cases b; rfl; exact absurd h (by decide))) (fun h => kf (by cases b; exact absurd rfl h; rfl))
theorem pk_neb {b : Bool} {off : Int} {tgt : Nat} (hd : decode cc pc = .ok (.ifCond .ne off, 3)) (ht : (pc : Int) + off = (tgt : Int)) (kt : b = true → pk_G Γ κ cc M ls st tgt cu su) (kf : b = false → pk_G Γ κ cc M ls st (pc + 3) cu su) : pk_G Γ κ cc M ls (.int (pk_bi b) :: st) pc cu su :=
  pk_if_ne hd ht (fun h => kt (by cases b; exact absurd rfl h; rfl)) (fun h => kf (by cases b; rfl; exact absurd h (by decide)))
theorem pk_getN {idx ci kf q x : Nat} (hd : decode cc pc = .ok (.getfield idx, 3)) (hw : pk_FL κ.1 idx ci kf) (hr : pk_isRef (pk_fty ci kf) = false) (hs : pk_S M q = some (.inr ci)) (hv : pk_I M q kf = nI x) (k : pk_G Γ κ cc M ls (.int (nI x) :: st) (pc + 3) cu su) : pk_G Γ κ cc M ls (.ref q :: st) pc cu su :=
  pk_getI hd hw hr hs (by rw [hv]; exact k)
theorem pk_aldR {q N i : Nat} (hd : decode cc pc = .ok (.iaload, 1)) (hs : pk_S M q = some (.inl (.int, N))) (hi : i < N) (hN : N < 2 ^ 31) (k : pk_G Γ κ cc M ls (.int (pk_I M q i) :: st) (pc + 1) cu su) : pk_G Γ κ cc M ls (.int (nI i) :: .ref q :: st) pc cu su :=
  pk_iald hd hs (vp_in_nI hi hN) (by rw [nI_clamp (by omega)]; exact k)
theorem pk_aldN {q N i x : Nat} (hd : decode cc pc = .ok (.iaload, 1)) (hs : pk_S M q = some (.inl (.int, N))) (hi : i < N) (hN : N < 2 ^ 31) (hv : pk_I M q i = nI x) (k : pk_G Γ κ cc M ls (.int (nI x) :: st) (pc + 1) cu su) : pk_G Γ κ cc M ls (.int (nI i) :: .ref q :: st) pc cu su :=
  pk_aldR hd hs hi hN (by rw [hv]; exact k)
theorem pk_astN {q N i : Nat} {x : Int32} (hd : decode cc pc = .ok (.iastore, 1)) (hs : pk_S M q = some (.inl (.int, N))) (hq : 5 ≤ q) (hi : i < N) (hN : N < 2 ^ 31) (k : pk_G Γ κ cc (pk_sI M q i x) ls st (pc + 1) cu su) : pk_G Γ κ cc M ls (.int x :: .int (nI i) :: .ref q :: st) pc cu su :=
  pk_iast hd hs hq (vp_in_nI hi hN) (by rw [nI_clamp (by omega)]; exact k)
theorem pk_Si {y : MethodName} {cc' : ByteArray} {nL' : Nat} {ret' : Option FieldType} {n d' idx : Nat} {As rest : List Value} {x : Int32} {N : pk_M} (hd : decode cc pc = .ok (.invokestatic idx, 3)) (hM : pk_ML κ.1 idx y) (hY : pk_YW y cc' nL' ret' n) (hs : Cond.static y ∈ pk_tbl) (hE : pk_E Γ y cc' nL' ret' d' 0 0 M As (fun r M' => r = some (.int x) ∧ M' = N)) (hst : st = As.reverse ++ rest) (hn : As.length = n)
    (h1 : Nat.ble (d' + 1) κ.2.2.2.2.1.frames = true) (h2 : Nat.ble (40 * (d' + 1)) κ.2.2.2.2.1.locals = true) (h3 : Nat.ble cu κ.2.2.2.2.1.cells = true) (h4 : Nat.ble su κ.2.2.2.2.1.slots = true) (h5 : Nat.ble ((rest.map fun v => v.category).sum) 8 = true)
    (k : pk_G Γ κ cc N ls (.int x :: rest) (pc + 3) cu su) : pk_G Γ κ cc M ls st pc cu su :=
  pk_callS hd hM hY hs hE hst hn h1 h2 h3 h4 h5 (fun v M' h => by obtain ⟨rfl, rfl⟩ := h; exact k)
theorem pk_Sv {y : MethodName} {cc' : ByteArray} {nL' : Nat} {ret' : Option FieldType} {n d' idx : Nat} {As rest : List Value} {N : pk_M} (hd : decode cc pc = .ok (.invokestatic idx, 3)) (hM : pk_ML κ.1 idx y) (hY : pk_YW y cc' nL' ret' n) (hs : Cond.static y ∈ pk_tbl) (hE : pk_E Γ y cc' nL' ret' d' 0 0 M As (fun r M' => r = none ∧ M' = N)) (hst : st = As.reverse ++ rest) (hn : As.length = n)
    (h1 : Nat.ble (d' + 1) κ.2.2.2.2.1.frames = true) (h2 : Nat.ble (40 * (d' + 1)) κ.2.2.2.2.1.locals = true) (h3 : Nat.ble cu κ.2.2.2.2.1.cells = true) (h4 : Nat.ble su κ.2.2.2.2.1.slots = true) (h5 : Nat.ble ((rest.map fun v => v.category).sum) 8 = true)
    (k : pk_G Γ κ cc N ls rest (pc + 3) cu su) : pk_G Γ κ cc M ls st pc cu su :=
  pk_callS hd hM hY hs hE hst hn h1 h2 h3 h4 h5 (fun v M' h => by obtain ⟨rfl, rfl⟩ := h; exact k)
theorem pk_Sl {y : MethodName} {cc' : ByteArray} {nL' : Nat} {ret' : Option FieldType} {n d' idx : Nat} {As rest : List Value} {x : Int64} {N : pk_M} (hd : decode cc pc = .ok (.invokestatic idx, 3)) (hM : pk_ML κ.1 idx y) (hY : pk_YW y cc' nL' ret' n) (hs : Cond.static y ∈ pk_tbl) (hE : pk_E Γ y cc' nL' ret' d' 0 0 M As (fun r M' => r = some (.long x) ∧ M' = N)) (hst : st = As.reverse ++ rest) (hn : As.length = n)
    (h1 : Nat.ble (d' + 1) κ.2.2.2.2.1.frames = true) (h2 : Nat.ble (40 * (d' + 1)) κ.2.2.2.2.1.locals = true) (h3 : Nat.ble cu κ.2.2.2.2.1.cells = true) (h4 : Nat.ble su κ.2.2.2.2.1.slots = true) (h5 : Nat.ble ((rest.map fun v => v.category).sum) 8 = true)
    (k : pk_G Γ κ cc N ls (.long x :: rest) (pc + 3) cu su) : pk_G Γ κ cc M ls st pc cu su :=
  pk_callS hd hM hY hs hE hst hn h1 h2 h3 h4 h5 (fun v M' h => by obtain ⟨rfl, rfl⟩ := h; exact k)
theorem pk_Vi {y : MethodName} {cc' : ByteArray} {nL' : Nat} {ret' : Option FieldType} {n d' idx b ci : Nat} {As rest : List Value} {x : Int32} {N : pk_M} (hd : decode cc pc = .ok (.invokevirtual idx, 3)) (hM : pk_ML κ.1 idx y) (hY : pk_YW y cc' nL' ret' n) (hs : Cond.instanceMethod y ∈ pk_tbl ∧ Cond.selects (pk_cls ci) y y ∈ pk_tbl ∧ ci < 8) (hb : pk_S M b = some (.inr ci)) (hE : pk_E Γ y cc' nL' ret' d' 0 0 M (.ref b :: As) (fun r M' => r = some (.int x) ∧ M' = N)) (hst : st = As.reverse ++ .ref b :: rest) (hn : As.length = n)
    (h1 : Nat.ble (d' + 1) κ.2.2.2.2.1.frames = true) (h2 : Nat.ble (40 * (d' + 1)) κ.2.2.2.2.1.locals = true) (h3 : Nat.ble cu κ.2.2.2.2.1.cells = true) (h4 : Nat.ble su κ.2.2.2.2.1.slots = true) (h5 : Nat.ble ((rest.map fun v => v.category).sum) 8 = true)
    (k : pk_G Γ κ cc N ls (.int x :: rest) (pc + 3) cu su) : pk_G Γ κ cc M ls st pc cu su :=
  pk_callV hd hM hY hs hb hE hst hn h1 h2 h3 h4 h5 (fun v M' h => by obtain ⟨rfl, rfl⟩ := h; exact k)
theorem pk_Vv {y : MethodName} {cc' : ByteArray} {nL' : Nat} {ret' : Option FieldType} {n d' idx b ci : Nat} {As rest : List Value} {N : pk_M} (hd : decode cc pc = .ok (.invokevirtual idx, 3)) (hM : pk_ML κ.1 idx y) (hY : pk_YW y cc' nL' ret' n) (hs : Cond.instanceMethod y ∈ pk_tbl ∧ Cond.selects (pk_cls ci) y y ∈ pk_tbl ∧ ci < 8) (hb : pk_S M b = some (.inr ci)) (hE : pk_E Γ y cc' nL' ret' d' 0 0 M (.ref b :: As) (fun r M' => r = none ∧ M' = N)) (hst : st = As.reverse ++ .ref b :: rest) (hn : As.length = n)
    (h1 : Nat.ble (d' + 1) κ.2.2.2.2.1.frames = true) (h2 : Nat.ble (40 * (d' + 1)) κ.2.2.2.2.1.locals = true) (h3 : Nat.ble cu κ.2.2.2.2.1.cells = true) (h4 : Nat.ble su κ.2.2.2.2.1.slots = true) (h5 : Nat.ble ((rest.map fun v => v.category).sum) 8 = true)
    (k : pk_G Γ κ cc N ls rest (pc + 3) cu su) : pk_G Γ κ cc M ls st pc cu su :=
  pk_callV hd hM hY hs hb hE hst hn h1 h2 h3 h4 h5 (fun v M' h => by obtain ⟨rfl, rfl⟩ := h; exact k)
theorem pk_Vl {y : MethodName} {cc' : ByteArray} {nL' : Nat} {ret' : Option FieldType} {n d' idx b ci : Nat} {As rest : List Value} {x : Int64} {N : pk_M} (hd : decode cc pc = .ok (.invokevirtual idx, 3)) (hM : pk_ML κ.1 idx y) (hY : pk_YW y cc' nL' ret' n) (hs : Cond.instanceMethod y ∈ pk_tbl ∧ Cond.selects (pk_cls ci) y y ∈ pk_tbl ∧ ci < 8) (hb : pk_S M b = some (.inr ci)) (hE : pk_E Γ y cc' nL' ret' d' 0 0 M (.ref b :: As) (fun r M' => r = some (.long x) ∧ M' = N)) (hst : st = As.reverse ++ .ref b :: rest) (hn : As.length = n)
    (h1 : Nat.ble (d' + 1) κ.2.2.2.2.1.frames = true) (h2 : Nat.ble (40 * (d' + 1)) κ.2.2.2.2.1.locals = true) (h3 : Nat.ble cu κ.2.2.2.2.1.cells = true) (h4 : Nat.ble su κ.2.2.2.2.1.slots = true) (h5 : Nat.ble ((rest.map fun v => v.category).sum) 8 = true)
    (k : pk_G Γ κ cc N ls (.long x :: rest) (pc + 3) cu su) : pk_G Γ κ cc M ls st pc cu su :=
  pk_callV hd hM hY hs hb hE hst hn h1 h2 h3 h4 h5 (fun v M' h => by obtain ⟨rfl, rfl⟩ := h; exact k)
/-- a call whose end is any that Φ tells -/
theorem pk_Vg {y : MethodName} {cc' : ByteArray} {nL' : Nat} {ret' : Option FieldType} {n d' idx b ci : Nat} {As rest : List Value} {Φ : Option Value → pk_M → Prop} (hd : decode cc pc = .ok (.invokevirtual idx, 3)) (hM : pk_ML κ.1 idx y) (hY : pk_YW y cc' nL' ret' n) (hs : Cond.instanceMethod y ∈ pk_tbl ∧ Cond.selects (pk_cls ci) y y ∈ pk_tbl ∧ ci < 8) (hb : pk_S M b = some (.inr ci)) (hE : pk_E Γ y cc' nL' ret' d' 0 0 M (.ref b :: As) Φ) (hst : st = As.reverse ++ .ref b :: rest) (hn : As.length = n)
    (h1 : Nat.ble (d' + 1) κ.2.2.2.2.1.frames = true) (h2 : Nat.ble (40 * (d' + 1)) κ.2.2.2.2.1.locals = true) (h3 : Nat.ble cu κ.2.2.2.2.1.cells = true) (h4 : Nat.ble su κ.2.2.2.2.1.slots = true) (h5 : Nat.ble ((rest.map fun v => v.category).sum) 8 = true)
    (k : ∀ v M', Φ v M' → pk_G Γ κ cc M' ls (v.toList ++ rest) (pc + 3) cu su) : pk_G Γ κ cc M ls st pc cu su :=
  pk_callV hd hM hY hs hb hE hst hn h1 h2 h3 h4 h5 k
theorem pk_Sg {y : MethodName} {cc' : ByteArray} {nL' : Nat} {ret' : Option FieldType} {n d' idx : Nat} {As rest : List Value} {Φ : Option Value → pk_M → Prop} (hd : decode cc pc = .ok (.invokestatic idx, 3)) (hM : pk_ML κ.1 idx y) (hY : pk_YW y cc' nL' ret' n) (hs : Cond.static y ∈ pk_tbl) (hE : pk_E Γ y cc' nL' ret' d' 0 0 M As Φ) (hst : st = As.reverse ++ rest) (hn : As.length = n)
    (h1 : Nat.ble (d' + 1) κ.2.2.2.2.1.frames = true) (h2 : Nat.ble (40 * (d' + 1)) κ.2.2.2.2.1.locals = true) (h3 : Nat.ble cu κ.2.2.2.2.1.cells = true) (h4 : Nat.ble su κ.2.2.2.2.1.slots = true) (h5 : Nat.ble ((rest.map fun v => v.category).sum) 8 = true)
    (k : ∀ v M', Φ v M' → pk_G Γ κ cc M' ls (v.toList ++ rest) (pc + 3) cu su) : pk_G Γ κ cc M ls st pc cu su :=
  pk_callS hd hM hY hs hE hst hn h1 h2 h3 h4 h5 k
end PkW
