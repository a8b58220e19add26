/-! Contracts over the flat memory; entry, return, calls. -/
theorem pk_isN_use {w : Cond} (h : pk_isN w = true) {A : Array Value} {U : State} (hZ : va_Nw w U) : w.before A U = true := by
  unfold pk_isN at h
  split at h
  · exact va_Nw.use rfl hZ
  · exact va_Nw.use rfl hZ
  · exact hZ
  · cases h
theorem pk_isN_of {w : Cond} (h : pk_isN w = true) {A : Array Value} {U : State} (hZ : w.before A U = true) : va_Nw w U := by
  unfold pk_isN at h
  split at h
  · exact va_Nw.of rfl hZ
  · exact va_Nw.of rfl hZ
  · exact hZ
  · cases h
def pk_gws : List Cond := lw_tbl.filter goodWord
def pk_U (Γ : pk_T) (M : pk_M) (U : State) : Prop := pk_R Γ M U U.heap ∧ ∀ w ∈ pk_tbl, pk_isN w = true → va_Nw w U
theorem pk_isN_warm {w : Cond} (h : pk_isN w = true) {s U : State} (hW : s.WarmedH U.vm) (hZ : va_Nw w s) : va_Nw w U := by
  unfold pk_isN at h
  split at h
  · exact hZ.warmF hW
  · exact hZ.warmM hW
  · exact va_AO.moved hW.alike hZ
  · cases h
theorem pk_isN_same {w : Cond} (h : pk_isN w = true) {s U : State} (hW : s.vm = U.vm) (hZ : va_Nw w s) : va_Nw w U := by
  unfold pk_isN at h
  split at h
  · exact hZ.same rfl hW
  · exact hZ.same rfl hW
  · exact va_AO.moved (by rw [hW]; exact Vm.Alike.refl _) hZ
  · cases h
def pk_rm (d mc ms : Nat) : Room := { frames := d, cells := mc, slots := ms, locals := 40 * d }
def pk_Q (Γ : pk_T) (mc : Nat) (Φ : Option Value → pk_M → Prop) : Array Value → State → Outcome → State → Prop := fun _ st o t =>
  ∃ (v : Option Value) (M' : pk_M), o = .returned (v.map (pk_gv Γ)) ∧ Φ v M' ∧ pk_R Γ M' t t.heap ∧ t.heap.size = st.heap.size + mc ∧ va_F (pk_A Γ) st t
abbrev pk_kq (Γ : pk_T) (own : String) (nL : Nat) (ret : Option FieldType) (ini : Bool) (d mc ms : Nat) (ar : Array Value) (Φ : Option Value → pk_M → Prop) : pk_K :=
  (own, nL, ret, ini, pk_rm d mc ms, ar, fun below s => MQ below (pk_Q Γ mc Φ) ar s mc ms (pk_A Γ))
def pk_E (Γ : pk_T) (y : MethodName) (cc : ByteArray) (nL : Nat) (ret : Option FieldType) (d mc ms : Nat) (M : pk_M) (av : List Value) (Φ : Option Value → pk_M → Prop) : Prop :=
  Met Γ.1 y (.code y cc nL ret :: pk_gws) (pk_rm d mc ms) (va_Pc (av.map (pk_gv Γ)) (fun U => pk_U Γ M U)) (pk_Q Γ mc Φ) mc ms (pk_A Γ)
def pk_sl : List Value → List (Option Value)
  | [] => []
  | v :: vs => if v.category = 2 then some v :: none :: pk_sl vs else some v :: pk_sl vs
def pk_ent (nL : Nat) (av : List Value) : List (Option Value) := pk_sl av ++ List.replicate (nL - (pk_sl av).length) none
theorem pk_sl_len (Γ : pk_T) (av : List Value) : (lg_sl (av.map (pk_gv Γ))).length = (pk_sl av).length := by
  induction av with
  | nil => rfl
  | cons v vs ih =>
    simp only [lg_sl, List.map_cons, List.flatMap_cons, pk_gv_cat, pk_sl] at ih ⊢
    by_cases h : v.category = 2
    · simp only [h, if_true, List.length_append, List.length_cons, List.length_nil, ih]
      omega
    · simp only [h, if_false, List.length_append, List.length_cons, List.length_nil, ih]
      omega
theorem pk_sl_at (Γ : pk_T) (av : List Value) : ∀ (k : Nat) (v : Value), (pk_sl av)[k]? = some (some v) → (lg_sl (av.map (pk_gv Γ)))[k]? = some (.val (pk_gv Γ v)) := by
  induction av with
  | nil => intro k v h; simp [pk_sl] at h
  | cons u vs ih =>
    intro k v h
    have e : lg_sl ((u :: vs).map (pk_gv Γ)) = (if u.category = 2 then [.val (pk_gv Γ u), .second] else [.val (pk_gv Γ u)]) ++ lg_sl (vs.map (pk_gv Γ)) := by
      simp only [lg_sl, List.map_cons, List.flatMap_cons, pk_gv_cat]
    rw [e]
    by_cases hc : u.category = 2
    · simp only [pk_sl, hc, if_true] at h ⊢
      match k, h with
      | 0, h => cases h; rfl
      | 1, h => cases h
      | k + 2, h => exact ih k v h
    · simp only [pk_sl, hc, if_false] at h ⊢
      match k, h with
      | 0, h => cases h; rfl
      | k + 1, h => exact ih k v h
section PkE
variable {Γ : pk_T} {κ : pk_K} {cc : ByteArray} {M : pk_M} {ls : List (Option Value)} {st : List Value} {pc cu su : Nat}
theorem pk_meth {y : MethodName} {own : String} {nL : Nat} {ret : Option FieldType} {ini : Bool} {d mc ms : Nat} {av : List Value} {Φ : Option Value → pk_M → Prop} (ls0 : List (Option Value)) (hy : plainName y.cls = true) (ho : y.cls = own) (hi : (y.name == "<init>") = ini) (hl : Nat.ble (pk_sl av).length nL = true) (he : pk_ent nL av = ls0)
    (body : pk_G Γ (pk_kq Γ own nL ret ini d mc ms (av.map (pk_gv Γ)).toArray Φ) cc M ls0 [] 0 0 0) : pk_E Γ y cc nL ret d mc ms M av Φ := by
  refine Met.ofW (cc := cc) (maxL := nL) (ret := ret) hy rfl ?_
  intro p e s m args below meth c s₁ B hml hv
  obtain ⟨rfl, hR, hN⟩ := hv
  have hts := atoms_spec (ws := .code y cc nL ret :: pk_gws) B.pre
  subst ho; subst he
  have hwords : ∀ w ∈ pk_tbl, w.before (av.map (pk_gv Γ)).toArray s = true := by
    intro w hw
    obtain ⟨hw1, hw2⟩ := List.mem_filter.mp hw
    by_cases hg : goodWord w = true
    · exact hts w (List.mem_cons_of_mem _ (List.mem_filter.mpr ⟨hw1, hg⟩))
    · rw [Bool.or_eq_true] at hw2
      have hn := hw2.resolve_left hg
      exact pk_isN_use hn (hN w hw hn)
  have hl' : (pk_sl av).length ≤ nL := Nat.le_of_ble_eq_true hl
  rw [lg_entry_eq]
  refine body p e s m below meth c s.heap [] _ ⟨B.exec, B.bytes, hml, B.returns, B.notSynchronized, findClass_of_methodNamed B.named, fun h => ?_, hwords, ?_⟩ (by omega) hR va_S.rf ⟨?_, ?_, ?_, ?_⟩
  · rw [(name_of_methodNamed B.named B.method).1]
    have h2 : (y.name == "<init>") = true := hi.trans h
    exact eq_of_beq h2
  · rw [hR.2.1]
    exact Nat.le_add_right _ _
  · show (pk_ent nL av).length = nL
    simp only [pk_ent, List.length_append, List.length_replicate]
    omega
  · exact (lv_entry (av.map (pk_gv Γ)) (n := nL) (by rw [pk_sl_len]; exact hl')).1
  · exact (lv_entry (av.map (pk_gv Γ)) (n := nL) (by rw [pk_sl_len]; exact hl')).2.1
  · intro k v hk
    show ((lg_sl (av.map (pk_gv Γ)) ++ _).toArray)[k]? = _
    rw [List.getElem?_toArray]
    by_cases hk2 : k < (pk_sl av).length
    · rw [List.getElem?_append_left (by rw [pk_sl_len]; exact hk2)]
      simp only [pk_ent] at hk
      rw [List.getElem?_append_left hk2] at hk
      exact pk_sl_at Γ av k v hk
    · simp only [pk_ent] at hk
      rw [List.getElem?_append_right (by omega)] at hk
      obtain ⟨h1, h2⟩ := List.getElem?_eq_some_iff.mp hk
      rw [List.getElem_replicate] at h2
      cases h2
theorem pk_reti {own : String} {nL : Nat} {ty : FieldType} {ini : Bool} {d mc ms : Nat} {ar : Array Value} {Φ : Option Value → pk_M → Prop} {v : Int32} (hd : decode cc pc = .ok (.ireturn, 1)) (hn : narrow ty (.int v) = .int v) (hΦ : Φ (some (.int v)) M) : pk_G Γ (pk_kq Γ own nL (some ty) ini d mc ms ar Φ) cc M ls [.int v] pc mc ms := by
  intro p e s m below meth c H locs arr C hz hR hS hL
  exact W.zret C.1 C.2.1 C.2.2.2.1 hn (fun t ht hW => ⟨some (.int v), M, rfl, hΦ, by rw [ht]; exact hR.moved hW.alike, by rw [ht]; exact hz, hS.F ht⟩) hS.2.2 hd C.2.2.2.2.1
theorem pk_retl {own : String} {nL : Nat} {ini : Bool} {d mc ms : Nat} {ar : Array Value} {Φ : Option Value → pk_M → Prop} {v : Int64} (hd : decode cc pc = .ok (.lreturn, 1)) (hΦ : Φ (some (.long v)) M) : pk_G Γ (pk_kq Γ own nL (some .long) ini d mc ms ar Φ) cc M ls [.long v] pc mc ms := by
  intro p e s m below meth c H locs arr C hz hR hS hL
  exact W.lret C.1 C.2.1 C.2.2.2.1 (fun t ht hW => ⟨some (.long v), M, rfl, hΦ, by rw [ht]; exact hR.moved hW.alike, by rw [ht]; exact hz, hS.F ht⟩) hS.2.2 hd C.2.2.2.2.1
theorem pk_retv {own : String} {nL : Nat} {ini : Bool} {d mc ms : Nat} {ar : Array Value} {Φ : Option Value → pk_M → Prop} (hd : decode cc pc = .ok (.return_, 1)) (hΦ : Φ none M) : pk_G Γ (pk_kq Γ own nL none ini d mc ms ar Φ) cc M ls [] pc mc ms := by
  intro p e s m below meth c H locs arr C hz hR hS hL
  exact W.vret C.1 C.2.1 C.2.2.2.1 (fun t ht hW => ⟨none, M, rfl, hΦ, by rw [ht]; exact hR.moved hW.alike, by rw [ht]; exact hz, hS.F ht⟩) hS.2.2 hd C.2.2.2.2.1
/-- behind a call -/
theorem pk_back {mc ms : Nat} {rest : List Value} {Φ : Option Value → pk_M → Prop} {a : Array Value} {st0 : List Value} {p : Program} {e : Env} {s : State} {m : MethodId} {below : List Frame} {meth : Method} {c : Code} {H : Heap} {locs : List Loc} {arr : Array Slot}
    (C : pk_C Γ κ cc p s m meth c) (hz : H.size = s.heap.size + cu) (hS : va_S (pk_A Γ) s.heap H locs) (hL : pk_L Γ κ.2.1 ls arr)
    (hr : va_Run p Γ.1 e κ.2.2.2.2.1 s m κ.2.2.2.2.2.1 below meth c H locs cu su mc ms (F0 m pc arr st0) (rest.map (pk_gv Γ)) (pk_Q Γ mc Φ a) (pk_A Γ))
    (k : ∀ (v : Option Value) (M' : pk_M), Φ v M' → pk_G Γ κ cc M' ls (v.toList ++ rest) (pc + 3) (cu + mc) (su + ms)) : W p Γ.1 e κ.2.2.2.2.1 s m κ.2.2.2.2.2.1 below meth c H locs cu su (κ.2.2.2.2.2.2 below s) (F0 m pc arr st0) := by
  intro T hT X
  obtain ⟨v, st₀, t, T', L, h0, X', hL', e1, e2, ⟨v', M', hv, hΦ, hR', hsz, hF⟩, go⟩ := hr T hT X
  have hv' : v = v'.map (pk_gv Γ) := Outcome.returned.inj hv
  subst hv'
  rw [h0] at hsz
  have halike : t.vm.Alike s.vm := by rw [← e2]; exact X'.warmed.alike.symm
  have hS1 : va_S (pk_A Γ) s.heap t.heap (locs ++ L) := by
    obtain ⟨f1, f2⟩ := hF
    rw [h0] at f1 f2
    refine ⟨Nat.le_trans hS.1 f1, fun q hq hA => (f2 q (Nat.lt_of_lt_of_le hq hS.1) hA).trans (hS.2.1 q hq hA), fun q hq => ?_⟩
    rcases List.mem_append.mp hq with h | h
    · exact hS.2.2 q h
    · exact hL' q h
  obtain ⟨t2, a1, b1⟩ := k v' M' hΦ p e s m below meth c t.heap (locs ++ L) arr C (by omega) (hR'.moved halike) hS1 hL T' e1 X'
  refine ⟨t2, go t2 ?_, b1⟩
  have e3 : (v'.map (pk_gv Γ)).toList ++ rest.map (pk_gv Γ) = (v'.toList ++ rest).map (pk_gv Γ) := by cases v' <;> rfl
  rw [e3]
  exact a1
/-- what the tables say of a method that is called -/
def pk_YW (y : MethodName) (cc' : ByteArray) (nL' : Nat) (ret' : Option FieldType) (n : Nat) : Prop :=
  Cond.code y cc' nL' ret' ∈ pk_tbl ∧ Cond.initialized y.cls ∈ pk_tbl ∧ (y.cls ≠ "java/lang/invoke/MethodHandle" ∧ y.cls ≠ "java/lang/invoke/VarHandle") ∧ (parseMethodDescriptor y.desc).map (fun d => d.parameters.length) = some n ∧ nL' ≤ 21
def pk_ML (own : String) (idx : Nat) (y : MethodName) : Prop := Cond.methodLink own idx y ∈ pk_tbl ∨ ∃ host, Cond.methodLinkNest own idx y host ∈ pk_tbl
theorem pk_arity {y : MethodName} {n : Nat} (h : (parseMethodDescriptor y.desc).map (fun d => d.parameters.length) = some n) : ∀ sig, parseMethodDescriptor y.desc = some sig → n = sig.parameters.length := by
  intro sig hs
  rw [hs] at h
  exact (Option.some.inj h).symm
theorem pk_cw {y : MethodName} {cc' : ByteArray} {nL' : Nat} {ret' : Option FieldType} {n d' mc ms : Nat} {p : Program} {s : State} {m : MethodId} {meth : Method} {c : Code} (C : pk_C Γ κ cc p s m meth c) (hY : pk_YW y cc' nL' ret' n) (h1 : Nat.ble (d' + 1) κ.2.2.2.2.1.frames = true) (h2 : Nat.ble (40 * (d' + 1)) κ.2.2.2.2.1.locals = true) :
    (∀ w ∈ (Cond.code y cc' nL' ret' :: pk_gws), ∀ (a' : Array Value) (U : State), s.WarmedH U.vm → w.before a' U = true) ∧ (pk_rm d' mc ms).frames + 1 ≤ κ.2.2.2.2.1.frames ∧ 8 + (nL' + 11) + (pk_rm d' mc ms).locals ≤ κ.2.2.2.2.1.locals := by
  refine ⟨fun w hw a' U hW => ?_, Nat.le_of_ble_eq_true h1, ?_⟩
  · rcases List.mem_cons.mp hw with rfl | hw
    · exact word_at hW (Or.inl (by rfl)) (C.2.2.2.2.2.2.2.1 _ hY.1)
    · obtain ⟨h3, h4⟩ := List.mem_filter.mp hw
      exact word_at hW (good_of_word h4) (C.2.2.2.2.2.2.2.1 _ (pk_tb h3 (by rw [h4]; rfl)))
  · have h3 := Nat.le_of_ble_eq_true h2
    have h4 := hY.2.2.2.2
    show 8 + (nL' + 11) + 40 * d' ≤ _
    omega
theorem pk_pc {av : List Value} {p : Program} {s : State} {m : MethodId} {meth : Method} {c : Code} {H : Heap} (C : pk_C Γ κ cc p s m meth c) (hR : pk_R Γ M s H) : FrameBlind (va_Pc (av.map (pk_gv Γ)) (fun U => pk_U Γ M U)) ∧ ∀ U : State, U.heap = H → s.WarmedH U.vm → va_Pc (av.map (pk_gv Γ)) (fun U => pk_U Γ M U) (av.map (pk_gv Γ)).toArray U := by
  refine ⟨fun a U g mk q => ?_, fun U hU hW => ⟨rfl, by rw [hU]; exact hR.moved hW.alike, fun w hw hn => ?_⟩⟩
  · obtain ⟨q1, q2, q3⟩ := q
    exact ⟨q1, pk_R.moved (u := U) (U := U.calling g mk a) (Vm.Alike.refl U.vm) q2, fun w hw hn => pk_isN_same (s := U) hn rfl (q3 w hw hn)⟩
  · exact pk_isN_warm hn hW (pk_isN_of hn (C.2.2.2.2.2.2.2.1 w hw))
theorem pk_callS {y : MethodName} {cc' : ByteArray} {nL' : Nat} {ret' : Option FieldType} {n d' mc ms idx : Nat} {As rest : List Value} {Φ : Option Value → pk_M → Prop} (hd : decode cc pc = .ok (.invokestatic idx, 3)) (hM : pk_ML κ.1 idx y) (hY : pk_YW y cc' nL' ret' n) (hs : Cond.static y ∈ pk_tbl) (hE : pk_E Γ y cc' nL' ret' d' mc ms M As Φ) (hst : st = As.reverse ++ rest) (hn : As.length = n)
    (h1 : Nat.ble (d' + 1) κ.2.2.2.2.1.frames = true) (h2 : Nat.ble (40 * (d' + 1)) κ.2.2.2.2.1.locals = true) (h3 : Nat.ble (cu + mc) κ.2.2.2.2.1.cells = true) (h4 : Nat.ble (su + ms) κ.2.2.2.2.1.slots = true) (h5 : Nat.ble ((rest.map fun v => v.category).sum) 8 = true)
    (k : ∀ (v : Option Value) (M' : pk_M), Φ v M' → pk_G Γ κ cc M' ls (v.toList ++ rest) (pc + 3) (cu + mc) (su + ms)) : pk_G Γ κ cc M ls st pc cu su := by
  intro p e s m below meth c H locs arr C hz hR hS hL
  obtain ⟨w1, w2, w3⟩ := pk_cw (d' := d') (mc := mc) (ms := ms) C hY h1 h2
  obtain ⟨b1, b2⟩ := pk_pc (av := As) C hR
  have hcat : ((rest.map (pk_gv Γ)).map fun v => v.category).sum ≤ 8 := by
    rw [List.map_map, show ((fun v : Value => v.category) ∘ pk_gv Γ) = (fun v : Value => v.category) from funext (pk_gv_cat Γ)]
    exact Nat.le_of_ble_eq_true h5
  have hst' : (st.map (pk_gv Γ)) = (As.map (pk_gv Γ)).reverse ++ rest.map (pk_gv Γ) := by rw [hst, List.map_append, List.map_reverse]
  refine pk_back (a := (As.map (pk_gv Γ)).toArray) C hz hS hL ?_ k
  rcases hM with hM | ⟨host, hM⟩
  · exact va_runS (As := As.map (pk_gv Γ)) (rest := rest.map (pk_gv Γ)) ⟨C.1, C.2.1, C.2.2.1, C.2.2.2.2.2.1, C.2.2.2.2.2.2.2.1⟩ hE ⟨⟨rfl, rfl, w2, w3, w1, List.mem_cons_self, C.2.2.2.2.2.2.2.1 _ hY.1, C.2.2.2.2.2.2.2.1 _ hY.2.1, hY.2.2.1, pk_arity hY.2.2.2.1, C.2.2.2.2.2.2.2.1 _ hM⟩, C.2.2.2.2.2.2.2.1 _ hs⟩ ⟨b1, b2⟩ rfl (by rw [List.length_map]; exact hn) (by show arr.size = _; rw [hL.2.1]) hst' (lv_room hcat) hd ⟨Nat.le_of_ble_eq_true h3, Nat.le_of_ble_eq_true h4⟩
  · exact va_runSN (As := As.map (pk_gv Γ)) (rest := rest.map (pk_gv Γ)) ⟨C.1, C.2.1, C.2.2.1, C.2.2.2.2.2.1, C.2.2.2.2.2.2.2.1⟩ hE ⟨⟨⟨rfl, rfl, w2, w3, w1, List.mem_cons_self⟩, C.2.2.2.2.2.2.2.1 _ hY.1, C.2.2.2.2.2.2.2.1 _ hY.2.1, hY.2.2.1, pk_arity hY.2.2.2.1, C.2.2.2.2.2.2.2.1 _ hM⟩, C.2.2.2.2.2.2.2.1 _ hs, trivial⟩ ⟨b1, b2⟩ rfl (by rw [List.length_map]; exact hn) (by show arr.size = _; rw [hL.2.1]) hst' (lv_room hcat) hd ⟨Nat.le_of_ble_eq_true h3, Nat.le_of_ble_eq_true h4⟩
theorem pk_callI {y : MethodName} {cc' : ByteArray} {nL' n d' mc ms idx b : Nat} {As rest : List Value} {Φ : Option Value → pk_M → Prop} (hd : decode cc pc = .ok (.invokespecial idx, 3)) (hM : pk_ML κ.1 idx y) (hY : pk_YW y cc' nL' none n) (hs : Cond.instanceMethod y ∈ pk_tbl) (hi : y.name = "<init>") (hE : pk_E Γ y cc' nL' none d' mc ms M (.ref b :: As) Φ) (hst : st = As.reverse ++ .ref b :: rest) (hn : As.length = n)
    (h1 : Nat.ble (d' + 1) κ.2.2.2.2.1.frames = true) (h2 : Nat.ble (40 * (d' + 1)) κ.2.2.2.2.1.locals = true) (h3 : Nat.ble (cu + mc) κ.2.2.2.2.1.cells = true) (h4 : Nat.ble (su + ms) κ.2.2.2.2.1.slots = true) (h5 : Nat.ble ((rest.map fun v => v.category).sum) 8 = true)
    (k : ∀ (v : Option Value) (M' : pk_M), Φ v M' → pk_G Γ κ cc M' ls (v.toList ++ rest) (pc + 3) (cu + mc) (su + ms)) : pk_G Γ κ cc M ls st pc cu su := by
  intro p e s m below meth c H locs arr C hz hR hS hL
  obtain ⟨w1, w2, w3⟩ := pk_cw (d' := d') (mc := mc) (ms := ms) C hY h1 h2
  obtain ⟨b1, b2⟩ := pk_pc (av := .ref b :: As) C hR
  have hcat : ((rest.map (pk_gv Γ)).map fun v => v.category).sum ≤ 8 := by
    rw [List.map_map, show ((fun v : Value => v.category) ∘ pk_gv Γ) = (fun v : Value => v.category) from funext (pk_gv_cat Γ)]
    exact Nat.le_of_ble_eq_true h5
  have hst' : (st.map (pk_gv Γ)) = (As.map (pk_gv Γ)).reverse ++ .ref (pk_ga Γ b) :: rest.map (pk_gv Γ) := by rw [hst, List.map_append, List.map_reverse]; rfl
  refine pk_back (a := (Value.ref (pk_ga Γ b) :: As.map (pk_gv Γ)).toArray) C hz hS hL ?_ k
  rcases hM with hM | ⟨host, hM⟩
  · exact va_runI (As := As.map (pk_gv Γ)) (rest := rest.map (pk_gv Γ)) ⟨C.1, C.2.1, C.2.2.1, C.2.2.2.2.2.1, C.2.2.2.2.2.2.2.1⟩ hE ⟨⟨rfl, rfl, w2, w3, w1, List.mem_cons_self, C.2.2.2.2.2.2.2.1 _ hY.1, C.2.2.2.2.2.2.2.1 _ hY.2.1, hY.2.2.1, pk_arity hY.2.2.2.1, C.2.2.2.2.2.2.2.1 _ hM⟩, hi, C.2.2.2.2.2.2.2.1 _ hs⟩ ⟨b1, b2⟩ rfl (by rw [List.length_map]; exact hn) (by show arr.size = _; rw [hL.2.1]) hst' (lv_room hcat) hd ⟨Nat.le_of_ble_eq_true h3, Nat.le_of_ble_eq_true h4⟩
  · exact va_runIN (As := As.map (pk_gv Γ)) (rest := rest.map (pk_gv Γ)) ⟨C.1, C.2.1, C.2.2.1, C.2.2.2.2.2.1, C.2.2.2.2.2.2.2.1⟩ hE ⟨⟨⟨rfl, rfl, w2, w3, w1, List.mem_cons_self⟩, C.2.2.2.2.2.2.2.1 _ hY.1, C.2.2.2.2.2.2.2.1 _ hY.2.1, hY.2.2.1, pk_arity hY.2.2.2.1, C.2.2.2.2.2.2.2.1 _ hM⟩, hi, C.2.2.2.2.2.2.2.1 _ hs⟩ ⟨b1, b2⟩ rfl (by rw [List.length_map]; exact hn) (by show arr.size = _; rw [hL.2.1]) hst' (lv_room hcat) hd ⟨Nat.le_of_ble_eq_true h3, Nat.le_of_ble_eq_true h4⟩
theorem pk_callV {y : MethodName} {cc' : ByteArray} {nL' : Nat} {ret' : Option FieldType} {n d' mc ms idx b ci : Nat} {As rest : List Value} {Φ : Option Value → pk_M → Prop} (hd : decode cc pc = .ok (.invokevirtual idx, 3)) (hM : pk_ML κ.1 idx y) (hY : pk_YW y cc' nL' ret' n) (hs : Cond.instanceMethod y ∈ pk_tbl ∧ Cond.selects (pk_cls ci) y y ∈ pk_tbl ∧ ci < 8) (hb : pk_S M b = some (.inr ci)) (hE : pk_E Γ y cc' nL' ret' d' mc ms M (.ref b :: As) Φ) (hst : st = As.reverse ++ .ref b :: rest) (hn : As.length = n)
    (h1 : Nat.ble (d' + 1) κ.2.2.2.2.1.frames = true) (h2 : Nat.ble (40 * (d' + 1)) κ.2.2.2.2.1.locals = true) (h3 : Nat.ble (cu + mc) κ.2.2.2.2.1.cells = true) (h4 : Nat.ble (su + ms) κ.2.2.2.2.1.slots = true) (h5 : Nat.ble ((rest.map fun v => v.category).sum) 8 = true)
    (k : ∀ (v : Option Value) (M' : pk_M), Φ v M' → pk_G Γ κ cc M' ls (v.toList ++ rest) (pc + 3) (cu + mc) (su + ms)) : pk_G Γ κ cc M ls st pc cu su := by
  intro p e s m below meth c H locs arr C hz hR hS hL
  obtain ⟨w1, w2, w3⟩ := pk_cw (d' := d') (mc := mc) (ms := ms) C hY h1 h2
  obtain ⟨b1, b2⟩ := pk_pc (av := .ref b :: As) C hR
  have hcat : ((rest.map (pk_gv Γ)).map fun v => v.category).sum ≤ 8 := by
    rw [List.map_map, show ((fun v : Value => v.category) ∘ pk_gv Γ) = (fun v : Value => v.category) from funext (pk_gv_cat Γ)]
    exact Nat.le_of_ble_eq_true h5
  have hst' : (st.map (pk_gv Γ)) = (As.map (pk_gv Γ)).reverse ++ .ref (pk_ga Γ b) :: rest.map (pk_gv Γ) := by rw [hst, List.map_append, List.map_reverse]; rfl
  have hrecv := va_recv hR.2.2.2.1 hR.2.2.1 (pk_clq hs.2.2) (pk_w_at (Γ := Γ) (hR.obj hb) hb)
  refine pk_back (a := (Value.ref (pk_ga Γ b) :: As.map (pk_gv Γ)).toArray) C hz hS hL ?_ k
  rcases hM with hM | ⟨host, hM⟩
  · exact va_runV (As := As.map (pk_gv Γ)) (rest := rest.map (pk_gv Γ)) (C := pk_cls ci) ⟨C.1, C.2.1, C.2.2.1, C.2.2.2.2.2.1, C.2.2.2.2.2.2.2.1⟩ hE ⟨⟨rfl, rfl, w2, w3, w1, List.mem_cons_self, C.2.2.2.2.2.2.2.1 _ hY.1, C.2.2.2.2.2.2.2.1 _ hY.2.1, hY.2.2.1, pk_arity hY.2.2.2.1, C.2.2.2.2.2.2.2.1 _ hM⟩, C.2.2.2.2.2.2.2.1 _ hs.1, C.2.2.2.2.2.2.2.1 _ hs.2.1⟩ ⟨b1, hrecv, b2⟩ rfl (by rw [List.length_map]; exact hn) (by show arr.size = _; rw [hL.2.1]) hst' (lv_room hcat) hd ⟨Nat.le_of_ble_eq_true h3, Nat.le_of_ble_eq_true h4⟩
  · exact va_runVN (As := As.map (pk_gv Γ)) (rest := rest.map (pk_gv Γ)) (C := pk_cls ci) ⟨C.1, C.2.1, C.2.2.1, C.2.2.2.2.2.1, C.2.2.2.2.2.2.2.1⟩ hE ⟨⟨⟨rfl, rfl, w2, w3, w1, List.mem_cons_self⟩, C.2.2.2.2.2.2.2.1 _ hY.1, C.2.2.2.2.2.2.2.1 _ hY.2.1, hY.2.2.1, pk_arity hY.2.2.2.1, C.2.2.2.2.2.2.2.1 _ hM⟩, C.2.2.2.2.2.2.2.1 _ hs.1, C.2.2.2.2.2.2.2.1 _ hs.2.1⟩ ⟨b1, hrecv, b2⟩ rfl (by rw [List.length_map]; exact hn) (by show arr.size = _; rw [hL.2.1]) hst' (lv_room hcat) hd ⟨Nat.le_of_ble_eq_true h3, Nat.le_of_ble_eq_true h4⟩
end PkE
