/-! Arrays of places, longs, booleans by natural indices; frames; Past. -/
section PkQ
variable {Γ : pk_T} {κ : pk_K} {cc : ByteArray} {M : pk_M} {ls : List (Option Value)} {st : List Value} {pc cu su : Nat}
theorem pk_aaN {q N i r t0 : Nat} {C0 : String} (hd : decode cc pc = .ok (.aaload, 1)) (ht : pk_tq t0 C0) (hs : pk_S M q = some (.inl (.object C0, N))) (hq : 5 ≤ q) (hi : i < N) (hN : N < 2 ^ 31) (hp : pk_P M q i = some r) (k : pk_G Γ κ cc M ls (.ref r :: st) (pc + 1) cu su) : pk_G Γ κ cc M ls (.int (nI i) :: .ref q :: st) pc cu su :=
  pk_aald hd ht hs hq (vp_in_nI hi hN) (by rw [nI_clamp (by omega)]; exact hp) k
theorem pk_aasN {q N i r t0 ci : Nat} {C0 : String} (hd : decode cc pc = .ok (.aastore, 1)) (ht : pk_tq t0 C0) (hs : pk_S M q = some (.inl (.object C0, N))) (hq : 5 ≤ q) (hi : i < N) (hN : N < 2 ^ 31) (h8 : ci < 8) (hc : pk_cls ci = C0) (hr : pk_S M r = some (.inr ci)) (k : pk_G Γ κ cc (pk_sP M q i (some r)) ls st (pc + 1) cu su) : pk_G Γ κ cc M ls (.ref r :: .int (nI i) :: .ref q :: st) pc cu su :=
  pk_aast hd ht hs hq (vp_in_nI hi hN) h8 hc hr (by rw [nI_clamp (by omega)]; exact k)
theorem pk_laN {q N i : Nat} (hd : decode cc pc = .ok (.laload, 1)) (hs : pk_S M q = some (.inl (.long, N))) (hq : 5 ≤ q) (hi : i < N) (hN : N < 2 ^ 31) (k : pk_G Γ κ cc M ls (.long (pk_J M q i) :: st) (pc + 1) cu su) : pk_G Γ κ cc M ls (.int (nI i) :: .ref q :: st) pc cu su :=
  pk_lald hd hs hq (vp_in_nI hi hN) (by rw [nI_clamp (by omega)]; exact k)
theorem pk_laV {q N i : Nat} {x : Int64} (hd : decode cc pc = .ok (.laload, 1)) (hs : pk_S M q = some (.inl (.long, N))) (hq : 5 ≤ q) (hi : i < N) (hN : N < 2 ^ 31) (hv : pk_J M q i = x) (k : pk_G Γ κ cc M ls (.long x :: st) (pc + 1) cu su) : pk_G Γ κ cc M ls (.int (nI i) :: .ref q :: st) pc cu su :=
  pk_laN hd hs hq hi hN (by rw [hv]; exact k)
theorem pk_lasN {q N i : Nat} {x : Int64} (hd : decode cc pc = .ok (.lastore, 1)) (hs : pk_S M q = some (.inl (.long, N))) (hq : 5 ≤ q) (hi : i < N) (hN : N < 2 ^ 31) (k : pk_G Γ κ cc (pk_sJ M q i x) ls st (pc + 1) cu su) : pk_G Γ κ cc M ls (.long x :: .int (nI i) :: .ref q :: st) pc cu su :=
  pk_last hd hs hq (vp_in_nI hi hN) (by rw [nI_clamp (by omega)]; exact k)
theorem pk_zaN {q N i : Nat} {b : Bool} (hd : decode cc pc = .ok (.baload, 1)) (hs : pk_S M q = some (.inl (.boolean, N))) (hq : 5 ≤ q) (hi : i < N) (hN : N < 2 ^ 31) (hv : pk_I M q i = pk_bi b) (k : pk_G Γ κ cc M ls (.int (pk_bi b) :: st) (pc + 1) cu su) : pk_G Γ κ cc M ls (.int (nI i) :: .ref q :: st) pc cu su :=
  pk_zald hd hs hq (vp_in_nI hi hN) (by rw [nI_clamp (by omega), hv]; exact k)
theorem pk_zasN {q N i : Nat} {x : Int32} (hd : decode cc pc = .ok (.bastore, 1)) (hs : pk_S M q = some (.inl (.boolean, N))) (hq : 5 ≤ q) (hi : i < N) (hN : N < 2 ^ 31) (hx : vp_nar .boolean x = x) (k : pk_G Γ κ cc (pk_sI M q i x) ls st (pc + 1) cu su) : pk_G Γ κ cc M ls (.int x :: .int (nI i) :: .ref q :: st) pc cu su :=
  pk_zast hd hs hq (vp_in_nI hi hN) hx (by rw [nI_clamp (by omega)]; exact k)
end PkQ
/-- only what lies in places of D has changed; references only in place 12 -/
def pk_ff (D : Nat → Prop) (M M' : pk_M) : Prop := M'.1 = M.1 ∧ (∀ q, q ≠ 12 → M'.2.2.2 q = M.2.2.2 q) ∧ ∀ q, ¬ D q → M'.2.1 q = M.2.1 q ∧ M'.2.2.1 q = M.2.2.1 q ∧ M'.2.2.2 q = M.2.2.2 q
theorem pk_fr.ff {D : Nat → Prop} {M M1 : pk_M} (h : pk_fr D M M1) : pk_ff D M M1 := ⟨h.1, fun q _ => by rw [h.2.1], fun q hq => ⟨h.2.2.2 q hq, by rw [h.2.2.1], by rw [h.2.1]⟩⟩
theorem pk_ff.rf (D : Nat → Prop) (M : pk_M) : pk_ff D M M := ⟨rfl, fun _ _ => rfl, fun _ _ => ⟨rfl, rfl, rfl⟩⟩
theorem pk_ff.tr {D : Nat → Prop} {M M1 M2 : pk_M} (h : pk_ff D M M1) (h2 : pk_ff D M1 M2) : pk_ff D M M2 := ⟨h2.1.trans h.1, fun q hq => (h2.2.1 q hq).trans (h.2.1 q hq), fun q hq => ⟨(h2.2.2 q hq).1.trans (h.2.2 q hq).1, (h2.2.2 q hq).2.1.trans (h.2.2 q hq).2.1, (h2.2.2 q hq).2.2.trans (h.2.2 q hq).2.2⟩⟩
theorem pk_ff.mono {D D' : Nat → Prop} {M M1 : pk_M} (h : pk_ff D M M1) (hD : ∀ q, D q → D' q) : pk_ff D' M M1 := ⟨h.1, h.2.1, fun q hq => h.2.2 q (fun z => hq (hD q z))⟩
theorem pk_rt12 (k : Nat) : pk_rt 12 k = none := by simp [pk_rt, pk_isS]
theorem pk_ff.wf {D : Nat → Prop} {L : Nat} {M M1 : pk_M} (h : pk_ff D M M1) (hW : pk_WF L M) : pk_WF L M1 := by
  refine ⟨h.1.trans hW.1, fun p k r e => ?_⟩
  have hp : p ≠ 12 := fun z => by rw [z, pk_rt12] at e; cases e
  show M1.2.2.2 p k = some r
  rw [h.2.1 p hp]
  exact hW.2 p k r e
theorem pk_ff.I {D : Nat → Prop} {M M1 : pk_M} (h : pk_ff D M M1) {q : Nat} (hq : ¬ D q) (k : Nat) : pk_I M1 q k = pk_I M q k := congrFun (h.2.2 q hq).1 k
theorem pk_ff.J {D : Nat → Prop} {M M1 : pk_M} (h : pk_ff D M M1) {q : Nat} (hq : ¬ D q) (k : Nat) : pk_J M1 q k = pk_J M q k := congrFun (h.2.2 q hq).2.1 k
theorem pk_ff.P {D : Nat → Prop} {M M1 : pk_M} (h : pk_ff D M M1) {q : Nat} (hq : ¬ D q) (k : Nat) : pk_P M1 q k = pk_P M q k := congrFun (h.2.2 q hq).2.2 k
theorem pk_ff.at {D : Nat → Prop} {M M1 : pk_M} {p : Nat} {A : pk_St} (h : pk_ff D M M1) (hD : ∀ q, p ≤ q → q ≤ p + 4 → ¬ D q) (hA : pk_At M p A) : pk_At M1 p A := by
  obtain ⟨h1, h2, h3, h4, h5, h6, h7⟩ := hA
  exact ⟨(h.I (hD _ (by omega) (by omega)) _).trans h1, (h.I (hD _ (by omega) (by omega)) _).trans h2, (h.I (hD _ (by omega) (by omega)) _).trans h3, fun i hi => (h.I (hD _ (by omega) (by omega)) _).trans (h4 i hi), fun i hi => (h.I (hD _ (by omega) (by omega)) _).trans (h5 i hi), fun i hi => (h.I (hD _ (by omega) (by omega)) _).trans (h6 i hi), fun i hi => (h.I (hD _ (by omega) (by omega)) _).trans (h7 i hi)⟩
theorem pk_ff.ro {D : Nat → Prop} {M M1 : pk_M} (h : pk_ff D M M1) (hD : ∀ q, q < 5 → ¬ D q) (hr : pk_ro M) : pk_ro M1 := ⟨fun k hk => (h.I (hD 1 (by decide)) k).trans (hr.1 k hk), fun k hk => (h.I (hD 2 (by decide)) k).trans (hr.2.1 k hk), fun k hk => (h.I (hD 3 (by decide)) k).trans (hr.2.2.1 k hk), fun k hk => (h.I (hD 4 (by decide)) k).trans (hr.2.2.2 k hk)⟩
/-- a whole row of places at once -/
def pk_wP (M : pk_M) (p : Nat) (f : Nat → Option Nat) : pk_M := (M.1, M.2.1, M.2.2.1, fun q j => if q = p then f j else M.2.2.2 q j)
theorem pk_wP_id (M : pk_M) (p : Nat) : pk_wP M p (pk_P M p) = M := by
  have : (fun q j => if q = p then pk_P M p j else M.2.2.2 q j) = M.2.2.2 := by
    funext q j
    by_cases h : q = p
    · subst h; simp [pk_P]
    · simp [h]
  simp only [pk_wP, this]
theorem pk_wP_sP (M : pk_M) (p k : Nat) (f : Nat → Option Nat) (x : Option Nat) : pk_sP (pk_wP M p f) p k x = pk_wP M p (fun j => if j = k then x else f j) := by
  have : (fun q j => if q = p ∧ j = k then x else if q = p then f j else M.2.2.2 q j) = (fun q j => if q = p then (if j = k then x else f j) else M.2.2.2 q j) := by
    funext q j
    by_cases h : q = p <;> by_cases h2 : j = k <;> simp [h, h2]
  simp only [pk_wP, pk_sP, this]
theorem pk_P_wP (M : pk_M) (p : Nat) (f : Nat → Option Nat) (j : Nat) : pk_P (pk_wP M p f) p j = f j := by simp [pk_P, pk_wP]
/-- the two rows of States: (Past, its row, first place, last place) -/
def pk_pa (p a lo hi : Nat) : Prop := (p = 11 ∧ a = 12 ∧ lo = 13 ∧ hi = 43) ∨ (p = 48 ∧ a = 49 ∧ lo = 50 ∧ hi = 80)
/-- the Past at p, with its row at a: n states are known, the k-th lies at pl k and holds Hs k -/
def pk_past (M : pk_M) (p a lo hi : Nat) (pl : Nat → Nat) (n : Nat) (Hs : Nat → pk_St) : Prop := pk_pa p a lo hi ∧ pk_I M p 1 = nI n ∧ n ≤ 6 ∧ (∀ k, k < 6 → pk_P M a k = some (pl k)) ∧ (∀ k, k < 6 → pk_isS (pl k) = true ∧ lo ≤ pl k ∧ pl k + 4 < hi) ∧ (∀ k, k < 6 → ∀ j, j < 6 → pl k = pl j → k = j) ∧ ∀ k, k < n → pk_At M (pl k) (Hs k)
theorem pk_past.ff {D : Nat → Prop} {M M1 : pk_M} {p a lo hi n : Nat} {pl : Nat → Nat} {Hs : Nat → pk_St} (h : pk_ff D M M1) (hD : ¬ D p ∧ ¬ D a ∧ ∀ q, lo ≤ q → q < hi → ¬ D q) (hp : pk_past M p a lo hi pl n Hs) : pk_past M1 p a lo hi pl n Hs := by
  obtain ⟨h0, h1, h2, h3, h4, h5, h6⟩ := hp
  exact ⟨h0, (h.I hD.1 1).trans h1, h2, fun k hk => (h.P hD.2.1 k).trans (h3 k hk), h4, h5, fun k hk => h.at (fun q g1 g2 => hD.2.2 q (by have := h4 k (by omega); omega) (by have := h4 k (by omega); omega)) (h6 k hk)⟩

set_option maxRecDepth 100000 in
set_option maxHeartbeats 4000000 in
theorem e_X2_loseOldest {Γ : pk_T} {M : pk_M} {L : Nat} {pl : Nat → Nat} (hW : pk_WF L M) (hpl : ∀ k, k < 6 → pk_P M 12 k = some (pl k)) (hS : ∀ k, k < 6 → pk_isS (pl k) = true) : pk_E Γ yX2_loseOldest cX2_loseOldest 3 none 1 0 0 M [.ref 11] (fun r M' => r = none ∧ M' = pk_sI (pk_sP (pk_wP M 12 (fun j => if j + 1 < 6 then pk_P M 12 (j + 1) else pk_P M 12 j)) 12 5 (some (pl 0))) 11 1 (nI 5)) := by
  refine pk_meth (own := RX2) (ini := false) [some (.ref 11), none, none] (by decide +kernel) rfl (by decide +kernel) rfl rfl ?_
  refine pk_aload_n dX2_loseOldest_0 rfl ?_
  refine pk_getP dX2_loseOldest_1 fl_X2_11 rfl (hW.s rfl) (hW.p rfl) ?_
  refine pk_iconst (v := nI 0) dX2_loseOldest_4 (by decide) ?_
  refine pk_aaN dX2_loseOldest_5 (Or.inl ⟨rfl, rfl⟩) (hW.s rfl) (by omega) (by omega) (by omega) (hpl 0 (by decide)) ?_
  refine pk_astore_n dX2_loseOldest_6 rfl rfl ?_
  refine pk_iconst (v := nI 1) dX2_loseOldest_7 (by decide) ?_
  refine pk_istore_n dX2_loseOldest_8 rfl rfl ?_
  refine pk_Mq (M' := pk_wP M 12 (fun j => if j + 1 < 0 + 1 then pk_P M 12 (j + 1) else pk_P M 12 j)) ((pk_wP_id M 12).symm.trans (by congr 1 <;> (funext j; simp))) ?_
  refine pk_for 5 (fun i => pk_wP M 12 (fun j => if j + 1 < i + 1 then pk_P M 12 (j + 1) else pk_P M 12 j)) (fun i => [some (.ref 11), some (.ref (pl 0)), some (.int (nI (i + 1)))]) ?_ ?_ 0 (by omega)
  · intro i hi K
    refine pk_iload_n dX2_loseOldest_9 rfl ?_
    refine pk_bipush (v := nI 6) dX2_loseOldest_10 (by decide) ?_
    first | refine pk_geN (tgt := 35) dX2_loseOldest_12 (by decide) (by omega) (by omega) (fun c_12 => ?_) (fun c_12 => ?_) | refine pk_icmp_ge (tgt := 35) dX2_loseOldest_12 (by decide) (fun c_12 => ?_) (fun c_12 => ?_)
    · omega
    · refine pk_aload_n dX2_loseOldest_15 rfl ?_
      refine pk_getP dX2_loseOldest_16 fl_X2_11 rfl (hW.s rfl) (hW.p rfl) ?_
      refine pk_iload_n dX2_loseOldest_19 rfl ?_
      refine pk_iconst (v := nI 1) dX2_loseOldest_20 (by decide) ?_
      first | refine pk_subN dX2_loseOldest_21 (by omega) ?_ | refine pk_isub dX2_loseOldest_21 ?_
      refine pk_aload_n dX2_loseOldest_22 rfl ?_
      refine pk_getP dX2_loseOldest_23 fl_X2_11 rfl (hW.s rfl) (hW.p rfl) ?_
      refine pk_iload_n dX2_loseOldest_26 rfl ?_
      refine pk_aaN dX2_loseOldest_27 (Or.inl ⟨rfl, rfl⟩) (hW.s rfl) (by omega) (by omega) (by omega) (by rw [pk_P_wP, if_neg (by omega)]; exact hpl (i + 1) (by omega)) ?_
      refine pk_aasN (ci := 4) dX2_loseOldest_28 (Or.inl ⟨rfl, rfl⟩) (hW.s rfl) (by omega) (by omega) (by omega) (by decide) rfl (hW.ss (hS (i + 1) (by omega))) ?_
      first | refine pk_inc1 dX2_loseOldest_29 rfl rfl ?_ | refine pk_iinc dX2_loseOldest_29 rfl rfl rfl ?_
      refine pk_goto (tgt := 9) dX2_loseOldest_32 (by decide) ?_
      refine pk_Mq ?_ K
      rw [pk_wP_sP]
      congr 1
      funext j
      by_cases h : j = i
      · subst h
        rw [Nat.add_sub_cancel, if_pos rfl, if_pos (by omega), hpl (j + 1) (by omega)]
      · rw [Nat.add_sub_cancel, if_neg h]
        by_cases h2 : j + 1 < i + 1
        · rw [if_pos h2, if_pos (by omega)]
        · rw [if_neg h2, if_neg (by omega)]
  · refine pk_iload_n dX2_loseOldest_9 rfl ?_
    refine pk_bipush (v := nI 6) dX2_loseOldest_10 (by decide) ?_
    first | refine pk_geN (tgt := 35) dX2_loseOldest_12 (by decide) (by omega) (by omega) (fun c_12 => ?_) (fun c_12 => ?_) | refine pk_icmp_ge (tgt := 35) dX2_loseOldest_12 (by decide) (fun c_12 => ?_) (fun c_12 => ?_)
    · refine pk_aload_n dX2_loseOldest_35 rfl ?_
      refine pk_getP dX2_loseOldest_36 fl_X2_11 rfl (hW.s rfl) (hW.p rfl) ?_
      refine pk_iconst (v := nI 5) dX2_loseOldest_39 (by decide) ?_
      refine pk_aload_n dX2_loseOldest_40 rfl ?_
      refine pk_aasN (ci := 4) dX2_loseOldest_41 (Or.inl ⟨rfl, rfl⟩) (hW.s rfl) (by omega) (by omega) (by omega) (by decide) rfl (hW.ss (hS 0 (by decide))) ?_
      refine pk_aload_n dX2_loseOldest_42 rfl ?_
      refine pk_iconst (v := nI 5) dX2_loseOldest_43 (by decide) ?_
      refine pk_putI dX2_loseOldest_44 fl_X2_17 rfl rfl rfl rfl (hW.s rfl) ?_
      refine pk_retv dX2_loseOldest_47 ?_
      exact ⟨rfl, rfl⟩
    · omega

def sp_pn (n : Nat) : Nat := if n < 6 then n + 1 else 6
def sp_ph (n : Nat) (Hs : Nat → pk_St) (A : pk_St) : Nat → pk_St := fun k => if n < 6 then (if k = n then A else Hs k) else (if k = 5 then A else Hs (k + 1))
theorem pk_P_sP (M : pk_M) (p k q j : Nat) (x : Option Nat) : pk_P (pk_sP M p k x) q j = if q = p ∧ j = k then x else pk_P M q j := rfl
theorem pk_past_lost {L n : Nat} {M : pk_M} {pl : Nat → Nat} {Hs : Nat → pk_St} (hP : pk_past M 11 12 13 43 pl n Hs) (hn : n = 6) (M' : pk_M) (e : M' = pk_sI (pk_sP (pk_wP M 12 (fun j => if j + 1 < 6 then pk_P M 12 (j + 1) else pk_P M 12 j)) 12 5 (some (pl 0))) 11 1 (nI 5)) : pk_past M' 11 12 13 43 (fun k => if k = 5 then pl 0 else pl (k + 1)) 5 (fun k => Hs (k + 1)) ∧ pk_ff (fun q => q = 11 ∨ q = 12) M M' := by
  obtain ⟨h0, h1, h2, h3, h4, h5, h6⟩ := hP
  have hff : pk_ff (fun q => q = 11 ∨ q = 12) M M' := by
    rw [e]
    refine ⟨rfl, fun q hq => ?_, fun q hq => ⟨?_, rfl, ?_⟩⟩
    · funext j
      simp [pk_sI, pk_sP, pk_wP, hq]
    · have h11 : q ≠ 11 := fun z => hq (Or.inl z)
      funext j
      simp [pk_sI, pk_sP, pk_wP, h11]
    · have h12 : q ≠ 12 := fun z => hq (Or.inr z)
      funext j
      simp [pk_sI, pk_sP, pk_wP, h12]
  refine ⟨⟨h0, ?_, by decide, fun k hk => ?_, fun k hk => ?_, fun k hk j hj hkj => ?_, fun k hk => ?_⟩, hff⟩
  · rw [e]
    exact pk_gS1 rfl rfl rfl
  · rw [e]
    show pk_P (pk_sP _ 12 5 _) 12 k = _
    rw [pk_P_sP, pk_P_wP]
    dsimp only
    by_cases h : k = 5
    · rw [if_pos ⟨rfl, h⟩, if_pos h]
    · rw [if_neg (by omega), if_neg h, if_pos (by omega)]
      exact h3 (k + 1) (by omega)
  · dsimp only
    split
    · exact h4 0 (by decide)
    · exact h4 (k + 1) (by omega)
  · dsimp only at hkj
    split at hkj <;> split at hkj
    · omega
    · have := h5 0 (by decide) (j + 1) (by omega) hkj
      omega
    · have := h5 (k + 1) (by omega) 0 (by decide) hkj
      omega
    · have := h5 (k + 1) (by omega) (j + 1) (by omega) hkj
      omega
  · dsimp only
    rw [if_neg (by omega)]
    refine hff.at (fun q g1 g2 => ?_) (h6 (k + 1) (by omega))
    have := h4 (k + 1) (by omega)
    omega

/-- what the second half of keep leaves -/
def pk_kp (M0 M' : pk_M) (N : Nat) (H' : Nat → pk_St) : Prop := pk_ff (fun q => q = 11 ∨ q = 12 ∨ (13 ≤ q ∧ q < 43)) M0 M' ∧ ∃ pl', pk_past M' 11 12 13 43 pl' N H'

set_option maxRecDepth 100000 in
set_option maxHeartbeats 4000000 in
theorem e_X2_keep {Γ : pk_T} {M : pk_M} {L n0 : Nat} {A : pk_St} {pl : Nat → Nat} {Hs : Nat → pk_St} (hW : pk_WF L M) (hA : pk_At M 6 A) (hP : pk_past M 11 12 13 43 pl n0 Hs) : pk_E Γ yX2_keep cX2_keep 2 none 2 0 0 M [.ref 11, .ref 6] (fun r M' => r = none ∧ pk_kp M M' (sp_pn n0) (sp_ph n0 Hs A)) := by
  refine pk_meth (own := RX2) (ini := false) [some (.ref 11), some (.ref 6)] (by decide +kernel) rfl (by decide +kernel) rfl rfl ?_
  have hn6 := hP.2.2.1
  have hk2 : ∀ (M1 : pk_M) (pl : Nat → Nat) (n : Nat) (Hq : Nat → pk_St), n < 6 → pk_WF L M1 → pk_At M1 6 A → pk_past M1 11 12 13 43 pl n Hq → pk_ff (fun q => q = 11 ∨ q = 12) M M1 → n + 1 = sp_pn n0 → (∀ k, k < n + 1 → sp_ph n0 Hs A k = if k = n then A else Hq k) → pk_G Γ (pk_kq Γ RX2 2 none false 2 0 0 (List.map (pk_gv Γ) [Value.ref 11, Value.ref 6]).toArray (fun r M' => r = none ∧ pk_kp M M' (sp_pn n0) (sp_ph n0 Hs A))) cX2_keep M1 [some (.ref 11), some (.ref 6)] [] 13 0 0 := by
    intro M1 pl n Hq hn hW hA hPp hff hfin hph
    have hn2 := hPp.2.2.1
    refine pk_aload_n dX2_keep_13 rfl ?_
    refine pk_getN dX2_keep_14 fl_X2_17 rfl (hW.s rfl) hPp.2.1 ?_
    refine pk_bipush (v := nI 6) dX2_keep_17 (by decide) ?_
    refine pk_Si dX2_keep_19 ml_X2_25 yw_X6_isBelow ys_X6_isBelow (e_X6_isBelow _ _) rfl rfl rfl rfl rfl rfl rfl ?_
    first | refine pk_eqb (tgt := 48) dX2_keep_22 (by decide) (fun c_22 => ?_) (fun c_22 => ?_) | refine pk_eq0N (tgt := 48) dX2_keep_22 (by decide) (by omega) (fun c_22 => ?_) (fun c_22 => ?_) | refine pk_if_eq (tgt := 48) dX2_keep_22 (by decide) (fun c_22 => ?_) (fun c_22 => ?_)
    · exfalso; simp [nI_pos' (show n < 2 ^ 31 by omega), nI_ltI (show n < 2 ^ 31 by omega) (show 6 < 2 ^ 31 by decide)] at c_22; omega
    · refine pk_aload_n dX2_keep_25 rfl ?_
      refine pk_getP dX2_keep_26 fl_X2_11 rfl (hW.s rfl) (hW.p rfl) ?_
      refine pk_aload_n dX2_keep_29 rfl ?_
      refine pk_getN dX2_keep_30 fl_X2_17 rfl (hW.s rfl) hPp.2.1 ?_
      refine pk_aaN dX2_keep_33 (Or.inl ⟨rfl, rfl⟩) (hW.s rfl) (by omega) (by omega) (by omega) (hPp.2.2.2.1 n (by omega)) ?_
      refine pk_aload_n dX2_keep_34 rfl ?_
      refine pk_Vvr dX2_keep_35 ml_X2_29 yw_X4_become yv_X4_become (hW.ss (hPp.2.2.2.2.1 n (by omega)).1) (e_X4_become hW (hPp.2.2.2.2.1 n (by omega)).1 rfl (by have := hPp.2.2.2.2.1 n (by omega); omega) hA) rfl rfl rfl rfl rfl rfl rfl (fun M2 h2 => ?_)
      obtain ⟨hf2, hA2⟩ := h2
      replace hW := hf2.wf hW
      refine pk_aload_n dX2_keep_38 rfl ?_
      refine pk_dup dX2_keep_39 rfl ?_
      refine pk_getN dX2_keep_40 fl_X2_17 rfl (hW.s rfl) (by rw [hf2.I (by have := hPp.2.2.2.2.1 n (by omega); omega)]; exact hPp.2.1) ?_
      refine pk_iconst (v := nI 1) dX2_keep_43 (by decide) ?_
      first | refine pk_addN dX2_keep_44 ?_ | refine pk_iadd dX2_keep_44 ?_
      refine pk_putI dX2_keep_45 fl_X2_17 rfl rfl rfl rfl (hW.s rfl) ?_
      refine pk_retv dX2_keep_48 ?_
      refine ⟨rfl, (hff.mono (fun q h => by omega)).tr ((hf2.ff.mono (fun q h => by have := hPp.2.2.2.2.1 n (by omega); omega)).tr (pk_fr.ff (pk_fr.sI (Or.inl rfl)))), pl, hPp.1, ?_, by omega, fun k hk => ?_, hPp.2.2.2.2.1, hPp.2.2.2.2.2.1, fun k hk => ?_⟩
      · exact pk_gS1 rfl rfl (by rw [hfin])
      · show pk_P M2 12 k = _
        rw [show pk_P M2 12 k = pk_P M1 12 k from congrFun (congrFun hf2.2.1 12) k]
        exact hPp.2.2.2.1 k hk
      · refine (pk_fr.sI (D := fun q => q = 11) rfl).at (fun q h1 h2 => by have := hPp.2.2.2.2.1 k (by omega); omega) ?_
        rw [hph k (by omega)]
        by_cases h : k = n
        · subst h
          rw [if_pos rfl]
          exact hA2
        · rw [if_neg h]
          refine hf2.at (fun q h1 h2 h3 => h ?_) (hPp.2.2.2.2.2.2 k (by omega))
          have a1 := (hPp.2.2.2.2.1 k (by omega)).1
          have a2 := (hPp.2.2.2.2.1 n (by omega)).1
          have a3 : pl k = pl n := by
            rcases Nat.lt_trichotomy (pl k) (pl n) with z | z | z
            · have := pk_isS_apart a1 a2 (by omega)
              omega
            · exact z
            · have := pk_isS_apart a1 a2 (by omega)
              omega
          exact hPp.2.2.2.2.2.1 k (by omega) n (by omega) a3
  refine pk_aload_n dX2_keep_0 rfl ?_
  refine pk_getN dX2_keep_1 fl_X2_17 rfl (hW.s rfl) hP.2.1 ?_
  refine pk_bipush (v := nI 6) dX2_keep_4 (by decide) ?_
  first | refine pk_ltN (tgt := 13) dX2_keep_6 (by decide) (by omega) (by omega) (fun c_6 => ?_) (fun c_6 => ?_) | refine pk_icmp_lt (tgt := 13) dX2_keep_6 (by decide) (fun c_6 => ?_) (fun c_6 => ?_)
  · first
      | exact hk2 M pl n0 Hs c_6 hW hA hP (pk_ff.rf _ M) (by rw [sp_pn, if_pos c_6]) (fun k hk => by rw [sp_ph, if_pos c_6])
      | (obtain ⟨g1, g2⟩ := pk_past_lost (L := L) hP (by omega) _ rfl
         exact hk2 _ _ 5 _ (by decide) (g2.wf hW) (g2.at (fun q h1 h2 => by omega) hA) g1 g2 (by rw [sp_pn, if_neg (by omega)]) (fun k hk => by rw [sp_ph, if_neg (by omega)]))
  · refine pk_aload_n dX2_keep_9 rfl ?_
    refine pk_Vv dX2_keep_10 ml_X2_22 yw_X2_loseOldest yv_X2_loseOldest (hW.s rfl) (e_X2_loseOldest hW hP.2.2.2.1 (fun k hk => (hP.2.2.2.2.1 k hk).1)) rfl rfl rfl rfl rfl rfl rfl ?_
    first
      | exact hk2 M pl n0 Hs c_6 hW hA hP (pk_ff.rf _ M) (by rw [sp_pn, if_pos c_6]) (fun k hk => by rw [sp_ph, if_pos c_6])
      | (obtain ⟨g1, g2⟩ := pk_past_lost (L := L) hP (by omega) _ rfl
         exact hk2 _ _ 5 _ (by decide) (g2.wf hW) (g2.at (fun q h1 h2 => by omega) hA) g1 g2 (by rw [sp_pn, if_neg (by omega)]) (fun k hk => by rw [sp_ph, if_neg (by omega)]))
