/-! The world behind both constructors holds the first object. -/
def sp_X0 : pk_X := (sp_A0, (0, fun _ => sp_A0), (false, sp_A0, 0, fun _ => sp_A0), (0, fun _ => 0), fun _ => (false, 0, 0, fun _ => 0))
theorem ok_A0 : pk_okS sp_A0 := by
  refine ⟨⟨by decide, by decide⟩, ⟨by decide, by decide⟩, by decide, fun i _ => (by decide : 0 < 4), fun i hi => ?_, fun i hi => hi, fun i _ j _ h => h, fun q _ => (by decide : 0 < 32), fun q _ _ => rfl⟩
  show sp_ft i < 4096
  obtain rfl | rfl | rfl | rfl | rfl : i = 0 ∨ i = 1 ∨ i = 2 ∨ i = 3 ∨ i = 4 := by omega
  all_goals decide
theorem ok_X0 : pk_okX sp_X0 := ⟨ok_A0, ⟨by decide, fun k h => absurd h (Nat.not_lt_zero k)⟩, fun h => (by cases h), ⟨by decide, fun k h => absurd h (Nat.not_lt_zero k)⟩, fun k _ => ⟨(by decide : 0 < 4), (by decide : 0 ≤ 24)⟩⟩
theorem c_rt {M : pk_M} (h : c_In M) (hm : c_Mo M) : ∀ p k r, pk_rt p k = some r → pk_P M p k = some r := by
  obtain ⟨⟨hs6, hp11, hs43, hp48, hlo, har, hta⟩, -, hro, ⟨a0, a1, a2, a3, a5, a6, a7⟩, a8, a9, a10, a11⟩ := h
  obtain ⟨⟨⟨b0, b1, b2, b3, b4, b6, b7⟩, b10, b14, b15, b17, b18, b19, b20⟩, -⟩ := hm
  have hS : ∀ p, pk_isS p = true → c_St M p := by
    intro p hp
    have h2 := pk_isS_cases hp
    simp only [List.mem_cons, List.not_mem_nil, or_false] at h2
    rcases h2 with rfl | rfl | rfl | rfl | rfl | rfl | rfl | rfl | rfl | rfl | rfl | rfl | rfl | rfl
    · exact hs6
    · exact hs43
    · exact (hp11.2.2 0 (by decide)).2
    · exact (hp11.2.2 1 (by decide)).2
    · exact (hp11.2.2 2 (by decide)).2
    · exact (hp11.2.2 3 (by decide)).2
    · exact (hp11.2.2 4 (by decide)).2
    · exact (hp11.2.2 5 (by decide)).2
    · exact (hp48.2.2 0 (by decide)).2
    · exact (hp48.2.2 1 (by decide)).2
    · exact (hp48.2.2 2 (by decide)).2
    · exact (hp48.2.2 3 (by decide)).2
    · exact (hp48.2.2 4 (by decide)).2
    · exact (hp48.2.2 5 (by decide)).2
  intro p k r hr
  by_cases hp : pk_isS p = true
  · unfold pk_rt at hr
    rw [if_pos hp] at hr
    by_cases hk : k < 4
    · rw [if_pos hk] at hr
      cases hr
      exact (hS p hp).2 k hk
    · rw [if_neg hk] at hr
      cases hr
  · unfold pk_rt at hr
    rw [if_neg hp] at hr
    split at hr
    · split at hr <;> first | (cases hr; assumption) | (cases hr; done)
    · by_cases hk : k = 0
      · subst hk; cases hr; exact hp11.1
      · rw [if_neg hk] at hr; cases hr
    · by_cases hk : k = 0
      · subst hk; cases hr; exact hp48.1
      · rw [if_neg hk] at hr; cases hr
    · by_cases hk : k < 6
      · rw [if_pos hk] at hr; cases hr; exact (hp48.2.2 k hk).1
      · rw [if_neg hk] at hr; cases hr
    · by_cases hk : k = 0
      · subst hk; cases hr; exact hlo
      · rw [if_neg hk] at hr; cases hr
    · by_cases hk : k < 5
      · rw [if_pos hk] at hr; cases hr; exact har k hk
      · rw [if_neg hk] at hr; cases hr
    · by_cases hk : k < 2
      · rw [if_pos hk] at hr; cases hr; exact hta.1 k hk
      · rw [if_neg hk] at hr; cases hr
    · by_cases hk : k < 4
      · rw [if_pos hk] at hr; cases hr; exact (hro k hk).1
      · rw [if_neg hk] at hr; cases hr
    · by_cases hk : k = 0
      · subst hk; cases hr; exact (hro 0 (by decide)).2.1
      · rw [if_neg hk] at hr; cases hr
    · by_cases hk : k = 0
      · subst hk; cases hr; exact (hro 1 (by decide)).2.1
      · rw [if_neg hk] at hr; cases hr
    · by_cases hk : k = 0
      · subst hk; cases hr; exact (hro 2 (by decide)).2.1
      · rw [if_neg hk] at hr; cases hr
    · by_cases hk : k = 0
      · subst hk; cases hr; exact (hro 3 (by decide)).2.1
      · rw [if_neg hk] at hr; cases hr
    · split at hr <;> first | (cases hr; assumption) | (cases hr; done)
    · cases hr
theorem c_In.sm {M M' : pk_M} (h : c_In M) (k : ∀ q, 5 ≤ q → q < 103 → pk_sm q M M') : c_In M' := by
  obtain ⟨⟨hs6, hp11, hs43, hp48, hlo, har, hta⟩, hk, hro, ⟨a0, a1, a2, a3, a5, a6, a7⟩, a8, a9, a10, a11⟩ := h
  have k5 := k 5 (by decide) (by decide)
  refine ⟨⟨hs6.sm (fun q _ _ => k q (by omega) (by omega)), hp11.sm (fun q _ _ => k q (by omega) (by omega)), hs43.sm (fun q _ _ => k q (by omega) (by omega)), hp48.sm (fun q _ _ => k q (by omega) (by omega)), hlo.sm (k 80 (by decide) (by decide)), har.sm (k 82 (by decide) (by decide)), hta.sm (k 88 (by decide) (by decide))⟩, (k5.I 4).trans hk, fun j hj => ⟨((k 91 (by decide) (by decide)).P j).trans (hro j hj).1, (hro j hj).2.sm (k _ (by omega) (by omega)) (k _ (by omega) (by omega))⟩, ⟨(k5.P 0).trans a0, (k5.P 1).trans a1, (k5.P 2).trans a2, (k5.P 3).trans a3, (k5.P 5).trans a5, (k5.P 6).trans a6, (k5.P 7).trans a7⟩, (k5.P 8).trans a8, (k5.P 9).trans a9, (k5.P 10).trans a10, (k5.P 11).trans a11⟩
theorem c_past {M : pk_M} {b a lo hi : Nat} (hp : c_Pa M b) (ha : a = b + 1) (hlo : lo = b + 2) (hhi : hi = b + 32) (hS : ∀ k, k < 6 → pk_isS (lo + 5 * k) = true) (hpa : pk_pa b a lo hi) : pk_past M b a lo hi (fun k => lo + 5 * k) 0 (fun _ => sp_A0) := by
  subst ha hlo hhi
  exact ⟨hpa, hp.2.1, by decide, fun k hk => (hp.2.2 k hk).1, fun k hk => ⟨hS k hk, (by show b + 2 ≤ b + 2 + 5 * k; omega), (by show b + 2 + 5 * k + 4 < b + 32; omega)⟩, fun k _ j _ h => (by have h' : b + 2 + 5 * k = b + 2 + 5 * j := h; omega), fun k hk => absurd hk (Nat.not_lt_zero k)⟩
theorem c_isS1 : ∀ k, k < 6 → pk_isS (13 + 5 * k) = true := by decide
theorem c_isS2 : ∀ k, k < 6 → pk_isS (50 + 5 * k) = true := by decide
theorem c_RC {L : Nat} {M : pk_M} (hW : pk_WF L M) (hr : pk_ro M) (h : c_In M) : pk_RC L M sp_X0 := by
  obtain ⟨⟨hs6, hp11, hs43, hp48, hlo, har, hta⟩, hk, hro, -⟩ := h
  exact ⟨hW, hr, hs6.1, ⟨_, c_past hp11 rfl rfl rfl c_isS1 (Or.inl ⟨rfl, rfl, rfl, rfl⟩)⟩, hk, ⟨_, 0, _, c_past hp48 rfl rfl rfl c_isS2 (Or.inr ⟨rfl, rfl, rfl, rfl⟩), fun e => (by cases e)⟩, fun e => (by cases e), ⟨hta.2, fun k hk => absurd hk (Nat.not_lt_zero k)⟩, fun k hk => (hro k hk).2.2⟩
theorem c_RM {L : Nat} {M : pk_M} (hW : pk_WF L M) (h : c_Mo M) : pk_RM L M sp_X0 := by
  obtain ⟨-, h1, h2, h3, h4, h5, h6⟩ := h
  exact ⟨hW, h1, ⟨h2, fun k hk => absurd hk (Nat.not_lt_zero k)⟩, ⟨h4, fun e => (by cases e)⟩, ⟨h3, fun k hk => absurd hk (Nat.not_lt_zero k)⟩, fun k hk => ⟨(h5 k hk).1, (h5 k hk).2, fun j _ => h6 _⟩⟩
theorem c_E6 (L : Nat) : ([.inl (.int, L), .inl (.int, 5), .inl (.int, 4), .inl (.int, 4), .inl (.int, 5)] ++ [.inr 6]) ++ sp_E6 ++ [.inr 7] ++ sp_E7 = pk_SH L := rfl
theorem c_start {L : Nat} {M0 M1 M2 : pk_M} (h0 : M0.1 = [.inl (.int, L), .inl (.int, 5), .inl (.int, 4), .inl (.int, 4), .inl (.int, 5)]) (hr : pk_ro M0) (g1 : pk_gr 5 (pk_nw M0 (.inr 6)) M1 sp_E6) (i1 : c_In M1) (g2 : pk_gr 103 (pk_nw M1 (.inr 7)) M2 sp_E7) (i2 : c_Mo M2) : pk_WF L M2 ∧ pk_RC L M2 sp_X0 ∧ pk_RM L M2 sp_X0 ∧ pk_sm 0 M0 M2 := by
  have hl0 : M0.1.length = 5 := by rw [h0]; rfl
  have hs1 : M1.1 = M0.1 ++ [.inr 6] ++ sp_E6 := g1.1
  have hl1 : M1.1.length = 103 := by rw [hs1, h0]; rfl
  have hs2 : M2.1 = pk_SH L := by
    have : M2.1 = M1.1 ++ [.inr 7] ++ sp_E7 := g2.1
    rw [this, hs1, h0]
    exact c_E6 L
  have k2 : ∀ q, q < 103 → pk_sm q M1 M2 := fun q hq => (pk_sm.nw (by omega)).tr (g2.2 q hq)
  have k1 : ∀ q, q < 5 → pk_sm q M0 M1 := fun q hq => (pk_sm.nw (by omega)).tr (g1.2 q hq)
  have k0 : ∀ q, q < 5 → pk_sm q M0 M2 := fun q hq => (k1 q hq).tr (k2 q (by omega))
  have i3 : c_In M2 := i1.sm (fun q _ hq => k2 q hq)
  have hW : pk_WF L M2 := ⟨hs2, c_rt i3 i2⟩
  have hr2 : pk_ro M2 := ⟨fun k hk => ((k0 1 (by decide)).I k).trans (hr.1 k hk), fun k hk => ((k0 2 (by decide)).I k).trans (hr.2.1 k hk), fun k hk => ((k0 3 (by decide)).I k).trans (hr.2.2.1 k hk), fun k hk => ((k0 4 (by decide)).I k).trans (hr.2.2.2 k hk)⟩
  exact ⟨hW, c_RC hW hr2 i3, c_RM hW i2, k0 0 (by decide)⟩
