/-! The model: calls that change it. -/
theorem pm_At.mk0 {M : pk_M} {B : pk_St} (h0 : pk_I M 104 0 = nI (sp_w B)) (h1 : pk_I M 104 1 = nI (sp_h B)) (h2 : pk_I M 104 2 = nI (sp_d B)) (h3 : pk_I M 104 3 = nI (sp_fig (sp_o B))) (hk : ∀ i, i < 5 → pk_I M 104 (4 + i) = nI (sp_k B i)) (ht : ∀ i, i < 5 → pk_I M 104 (9 + i) = nI (sp_t B i)) (hs : ∀ q, q < 48 → pk_I M 104 (14 + q) = nI (sp_s B q)) : pm_At M 104 0 B := by
  intro j hj
  rw [Nat.zero_add]
  by_cases c0 : j = 0
  · subst c0; exact h0
  by_cases c1 : j = 1
  · subst c1; exact h1
  by_cases c2 : j = 2
  · subst c2; exact h2
  by_cases c3 : j = 3
  · subst c3; exact h3
  by_cases c4 : j < 9
  · obtain ⟨i, rfl⟩ : ∃ i, j = 4 + i := ⟨j - 4, by omega⟩
    rw [sp_row_k B (by omega)]
    exact hk i (by omega)
  by_cases c5 : j < 14
  · obtain ⟨i, rfl⟩ : ∃ i, j = 9 + i := ⟨j - 9, by omega⟩
    rw [sp_row_t B (by omega)]
    exact ht i (by omega)
  · obtain ⟨i, rfl⟩ : ∃ i, j = 14 + i := ⟨j - 14, by omega⟩
    rw [sp_row_s B]
    exact hs i (by omega)
theorem pm_At.s_set {M : pk_M} {B : pk_St} (h : pm_At M 104 0 B) {q : Nat} (v : Nat) (hq : q < 48) : pm_At (pk_sI M 104 (14 + q) (nI v)) 104 0 (s_set B q v) := by
  refine pm_At.mk0 (pk_gS0 (by omega) h.w) (pk_gS0 (by omega) h.h) (pk_gS0 (by omega) h.d) (pk_gS0 (by omega) h.o) (fun i hi => pk_gS0 (by omega) (h.k hi)) (fun i hi => pk_gS0 (by omega) (h.t hi)) (fun j hj => ?_)
  by_cases e : j = q
  · subst e
    refine pk_gS1 rfl rfl ?_
    show nI v = nI (if j = j then v else sp_s B j)
    rw [if_pos rfl]
  · refine pk_gS0 (by omega) ((h.s hj).trans ?_)
    show nI (sp_s B j) = nI (if j = q then v else sp_s B j)
    rw [if_neg e]
theorem pm_At.s_d {M : pk_M} {B : pk_St} (h : pm_At M 104 0 B) (d : Nat) : pm_At (pk_sI M 104 2 (nI d)) 104 0 (s_d B d) :=
  pm_At.mk0 (pk_gS0 (by omega) h.w) (pk_gS0 (by omega) h.h) (pk_gS1 rfl rfl rfl) (pk_gS0 (by omega) h.o) (fun i hi => pk_gS0 (by omega) (h.k hi)) (fun i hi => pk_gS0 (by omega) (h.t hi)) (fun j hj => pk_gS0 (by omega) (h.s hj))
theorem pk_RM.st {L : Nat} {M M1 : pk_M} {X : pk_X} {A : pk_St} (h : pk_ff (fun q => q = 104) M M1) (hR : pk_RM L M X) (hA : pm_At M1 104 0 A) : pk_RM L M1 (x_A X A) := by
  obtain ⟨h1, h2, h3, h4, h5, h6⟩ := hR
  exact ⟨h.wf h1, hA, ⟨(h.I (by omega) 5).trans h3.1, fun k hk => (h3.2 k hk).ff h (by omega)⟩, ⟨(h.I (by omega) 16).trans h4.1, fun e => ⟨(h4.2 e).1.ff h (by omega), fun k hk => ((h4.2 e).2 k hk).ff h (by omega)⟩⟩, ⟨(h.I (by omega) 8).trans h5.1, fun i hi => (h.I (by omega) i).trans (h5.2 i hi)⟩, fun k hk => (h6 k hk).ff h (by omega) (by omega) (by omega)⟩
/-- a step was noted -/
def pm_kp (M M1 : pk_M) (N : Nat) (H : Nat → pk_St) : Prop := pk_fr (fun q => q = 103 ∨ q = 108) M M1 ∧ (∀ j, j ≠ 5 → pk_I M1 103 j = pk_I M 103 j) ∧ pk_I M1 103 5 = nI N ∧ ∀ k, k < N → pm_At M1 108 (62 * k) (H k)
theorem pk_RM.kp {L : Nat} {M M1 : pk_M} {X : pk_X} (hR : pk_RM L M X) (h : pm_kp M M1 (sp_pn X.2.1.1) (sp_ph X.2.1.1 X.2.1.2 X.1)) : pk_mf M M1 ∧ pk_RM L M1 (x_K X) := by
  obtain ⟨h, g1, g2, g3⟩ := h
  have hf := h.ff
  obtain ⟨h1, h2, h3, h4, h5, h6⟩ := hR
  exact ⟨hf.mono (fun q h => by omega), hf.wf h1, h2.ff hf (by omega), ⟨g2, g3⟩, ⟨(g1 16 (by decide)).trans h4.1, fun e => ⟨(h4.2 e).1.ff hf (by omega), fun k hk => ((h4.2 e).2 k hk).ff hf (by omega)⟩⟩, ⟨(g1 8 (by decide)).trans h5.1, fun i hi => (hf.I (by omega) i).trans (h5.2 i hi)⟩, fun k hk => (h6 k hk).ff hf (by omega) (by omega) (by omega)⟩
theorem sp_fig_of {n : Nat} (h : n < 100000) : sp_fig (fun k => sp_dig n (4 - k)) = n := by
  rw [sp_fig_eq]
  show ((((0 * 10 + n / 10000 % 10) * 10 + n / 1000 % 10) * 10 + n / 100 % 10) * 10 + n / 10 % 10) * 10 + n / 1 % 10 = n
  omega

set_option maxRecDepth 100000 in
set_option maxHeartbeats 4000000 in
theorem e_X7_notes {Γ : pk_T} {M : pk_M} {L n : Nat} {A : pk_St} {H : Nat → pk_St} (hW : pk_WF L M) (hA : pm_At M 104 0 A) (hu : pk_I M 103 5 = nI n) (hn : n ≤ 6) (hH : ∀ k, k < n → pm_At M 108 (62 * k) (H k)) : pk_E Γ yX7_notes cX7_notes 2 none 0 0 0 M [.ref 103] (fun r M' => r = none ∧ pm_kp M M' (sp_pn n) (sp_ph n H A)) := by
  refine pk_meth (own := RX7) (ini := false) [some (.ref 103), none] (by decide +kernel) rfl (by decide +kernel) rfl rfl ?_
  refine pk_aload_n dX7_notes_0 rfl ?_
  refine pk_getN dX7_notes_1 fl_X7_199 rfl (hW.s rfl) hu ?_
  refine pk_bipush (v := nI 6) dX7_notes_4 (by decide) ?_
  first | refine pk_neN (tgt := 45) dX7_notes_6 (by decide) (by omega) (by omega) (fun c_6 => ?_) (fun c_6 => ?_) | refine pk_icmp_ne (tgt := 45) dX7_notes_6 (by decide) (fun c_6 => ?_) (fun c_6 => ?_)
  · refine pk_iconst (v := nI 0) dX7_notes_45 (by decide) ?_
    refine pk_istore_n dX7_notes_46 rfl rfl ?_
    have hpn : sp_pn n = n + 1 := by unfold sp_pn; rw [if_pos (by omega)]
    have hph : ∀ k, k < n + 1 → sp_ph n H A k = if k = n then A else H k := fun k hk => by unfold sp_ph; rw [if_pos (by omega)]
    have hF0 := pk_fr.rf (fun q => q = 103 ∨ q = 108) M
    have ho0 : ∀ j, j ≠ 5 → pk_I M 103 j = pk_I M 103 j := fun _ _ => rfl
    have hu0 := hu
    have hH0 := hH
    have hn5 : n < 6 := by omega
    refine pk_fgt (ls' := [some (.ref 103), some (.int (nI 0))]) (by repeat first | exact trivial | refine ⟨rfl, ?_⟩) ?_
    refine pk_wf (fun z => 62 - z.1) (fun z : Nat × pk_M => z.1 ≤ 62 ∧ pk_fr (fun q => q = 103 ∨ q = 108) M z.2 ∧ (∀ j, j ≠ 5 → pk_I z.2 103 j = pk_I M 103 j) ∧ pk_I z.2 103 5 = nI n ∧ (∀ k, k < n → pm_At z.2 108 (62 * k) (H k)) ∧ ∀ j, j < z.1 → pk_I z.2 108 (62 * n + j) = nI (sp_row A j)) (fun z => z.2) (fun z => [some (.ref 103), some (.int (nI z.1))]) ?_ (0, M) ⟨Nat.zero_le _, hF0, ho0, hu0, hH0, fun j hj => absurd hj (Nat.not_lt_zero j)⟩
    rintro ⟨i, N⟩ ⟨hi, hF, ho, hu5, hHk, hr⟩ K
    dsimp only at hi hF ho hu5 hHk hr K ⊢
    have hWN := hF.wf hW
    refine pk_iload_n dX7_notes_47 rfl ?_
    refine pk_bipush (v := nI 62) dX7_notes_48 (by decide) ?_
    first | refine pk_geN (tgt := 79) dX7_notes_50 (by decide) (by omega) (by omega) (fun c_50 => ?_) (fun c_50 => ?_) | refine pk_icmp_ge (tgt := 79) dX7_notes_50 (by decide) (fun c_50 => ?_) (fun c_50 => ?_)
    · refine pk_aload_n dX7_notes_79 rfl ?_
      refine pk_dup dX7_notes_80 rfl ?_
      refine pk_getN dX7_notes_81 fl_X7_199 rfl (hWN.s rfl) hu5 ?_
      refine pk_iconst (v := nI 1) dX7_notes_84 (by decide) ?_
      first | refine pk_addN dX7_notes_85 ?_ | refine pk_iadd dX7_notes_85 ?_
      refine pk_putI dX7_notes_86 fl_X7_199 rfl rfl rfl rfl (hWN.s rfl) ?_
      refine pk_retv dX7_notes_89 ?_
      have hi2 : i = 62 := by omega
      subst hi2
      refine ⟨rfl, hF.tr (pk_fr.sI (Or.inl rfl)), fun j hj => pk_gS0 (Or.inr hj) (ho j hj), pk_gS1 rfl rfl (by rw [hpn]), fun k hk => ?_⟩
      rw [hpn] at hk
      rw [hph k hk]
      by_cases e : k = n
      · rw [if_pos e, e]
        exact fun j hj => pk_gS0 (by omega) (hr j hj)
      · rw [if_neg e]
        exact fun j hj => pk_gS0 (by omega) (hHk k (by omega) j hj)
    · refine pk_aload_n dX7_notes_53 rfl ?_
      refine pk_getP dX7_notes_54 fl_X7_22 rfl (hWN.s rfl) (hWN.p rfl) ?_
      refine pk_bipush (v := nI 62) dX7_notes_57 (by decide) ?_
      refine pk_aload_n dX7_notes_59 rfl ?_
      refine pk_getN dX7_notes_60 fl_X7_199 rfl (hWN.s rfl) hu5 ?_
      first | refine pk_mulN dX7_notes_63 ?_ | refine pk_imul dX7_notes_63 ?_
      refine pk_iload_n dX7_notes_64 rfl ?_
      first | refine pk_addN dX7_notes_65 ?_ | refine pk_iadd dX7_notes_65 ?_
      refine pk_aload_n dX7_notes_66 rfl ?_
      refine pk_getP dX7_notes_67 fl_X7_7 rfl (hWN.s rfl) (hWN.p rfl) ?_
      refine pk_iload_n dX7_notes_70 rfl ?_
      refine pk_aldN dX7_notes_71 (hWN.s rfl) (by omega) (by omega) (show pk_I N 104 i = nI (sp_row A i) by rw [hF.I (by omega) i]; have := hA i (by omega); rw [Nat.zero_add] at this; exact this) ?_
      refine pk_astN dX7_notes_72 (hWN.s rfl) (by omega) (by omega) (by omega) ?_
      first | refine pk_inc1 dX7_notes_73 rfl rfl ?_ | refine pk_iinc dX7_notes_73 rfl rfl rfl ?_
      refine pk_goto (tgt := 47) dX7_notes_76 (by decide) ?_
      exact K (i + 1, _) ⟨by dsimp only; omega, hF.tr (pk_fr.sI (Or.inr rfl)), fun j hj => pk_gS0 (by omega) (ho j hj), pk_gS0 (by omega) hu5, fun k hk j hj => pk_gS0 (by omega) (hHk k hk j hj), fun j hj => by
        by_cases e : j = i
        · subst e
          exact pk_gS1 rfl rfl rfl
        · exact pk_gS0 (by omega) (hr j (by dsimp only at hj; omega))⟩ (by dsimp only; omega)
  · refine pk_bipush (v := nI 62) dX7_notes_9 (by decide) ?_
    refine pk_istore_n dX7_notes_11 rfl rfl ?_
    subst c_6
    refine pk_Mq (M' := (pk_wI M 108 (fun q => if q < 0 then pk_I M 108 (q + 62) else pk_I M 108 q))) ((pk_wI_id M 108).symm.trans (by congr 1)) ?_
    refine pk_lsq (ls' := [some (.ref 103), some (.int (nI (62 + 0)))]) rfl ?_
    refine pk_for 310 (fun i => (pk_wI M 108 (fun q => if q < i then pk_I M 108 (q + 62) else pk_I M 108 q))) (fun i => [some (.ref 103), some (.int (nI (62 + i)))]) ?_ ?_ 0 (by omega)
    · intro i hi K
      have hW2 : pk_WF L (pk_wI M 108 (fun q => if q < i then pk_I M 108 (q + 62) else pk_I M 108 q)) := hW.to rfl rfl
      refine pk_iload_n dX7_notes_12 rfl ?_
      refine pk_sipush (v := nI 372) dX7_notes_13 (by decide) ?_
      first | refine pk_geN (tgt := 40) dX7_notes_16 (by decide) (by omega) (by omega) (fun c_16 => ?_) (fun c_16 => ?_) | refine pk_icmp_ge (tgt := 40) dX7_notes_16 (by decide) (fun c_16 => ?_) (fun c_16 => ?_)
      · omega
      · refine pk_aload_n dX7_notes_19 rfl ?_
        refine pk_getP dX7_notes_20 fl_X7_22 rfl (hW.s rfl) (hW.p rfl) ?_
        refine pk_iload_n dX7_notes_23 rfl ?_
        refine pk_bipush (v := nI 62) dX7_notes_24 (by decide) ?_
        first | refine pk_subN dX7_notes_26 (by omega) ?_ | refine pk_isub dX7_notes_26 ?_
        refine pk_aload_n dX7_notes_27 rfl ?_
        refine pk_getP dX7_notes_28 fl_X7_22 rfl (hW.s rfl) (hW.p rfl) ?_
        refine pk_iload_n dX7_notes_31 rfl ?_
        refine pk_aldR dX7_notes_32 (hW.s rfl) (by omega) (by omega) ?_
        refine pk_astN dX7_notes_33 (hW.s rfl) (by omega) (by omega) (by omega) ?_
        rw [pk_wI_sI]
        first | refine pk_inc1 dX7_notes_34 rfl rfl ?_ | refine pk_iinc dX7_notes_34 rfl rfl rfl ?_
        refine pk_goto (tgt := 12) dX7_notes_37 (by decide) ?_
        refine pk_Mq ?_ K
        congr 1
        funext q
        by_cases e : q = i
        · rw [if_pos (by omega), if_pos (by omega), e]
          exact pk_gW1 rfl ((if_neg (by omega)).trans (by rw [Nat.add_comm 62 i]))
        · rw [if_neg (by omega)]
          by_cases e2 : q < i
          · rw [if_pos e2, if_pos (by omega)]
          · rw [if_neg e2, if_neg (by omega)]
    · have hpn : sp_pn 6 = 5 + 1 := rfl
      have hph : ∀ k, k < 5 + 1 → sp_ph 6 H A k = if k = 5 then A else H (k + 1) := fun k hk => rfl
      refine pk_iload_n dX7_notes_12 rfl ?_
      refine pk_sipush (v := nI 372) dX7_notes_13 (by decide) ?_
      first | refine pk_geN (tgt := 40) dX7_notes_16 (by decide) (by omega) (by omega) (fun c_16 => ?_) (fun c_16 => ?_) | refine pk_icmp_ge (tgt := 40) dX7_notes_16 (by decide) (fun c_16 => ?_) (fun c_16 => ?_)
      · refine pk_aload_n dX7_notes_40 rfl ?_
        refine pk_iconst (v := nI 5) dX7_notes_41 (by decide) ?_
        refine pk_putI dX7_notes_42 fl_X7_199 rfl rfl rfl rfl (hW.s rfl) ?_
        refine pk_iconst (v := nI 0) dX7_notes_45 (by decide) ?_
        refine pk_istore_n dX7_notes_46 rfl rfl ?_
        have hF0 : pk_fr (fun q => q = 103 ∨ q = 108) M (pk_sI (pk_wI M 108 (fun q => if q < 310 then pk_I M 108 (q + 62) else pk_I M 108 q)) 103 5 (nI 5)) := (pk_fr.wI (Or.inr rfl)).tr (pk_fr.sI (Or.inl rfl))
        have ho0 : ∀ j, j ≠ 5 → pk_I (pk_sI (pk_wI M 108 (fun q => if q < 310 then pk_I M 108 (q + 62) else pk_I M 108 q)) 103 5 (nI 5)) 103 j = pk_I M 103 j := fun j hj => pk_gS0 (Or.inr hj) (pk_gW0 (by omega) rfl)
        have hu0 : pk_I (pk_sI (pk_wI M 108 (fun q => if q < 310 then pk_I M 108 (q + 62) else pk_I M 108 q)) 103 5 (nI 5)) 103 5 = nI 5 := pk_gS1 rfl rfl rfl
        have hH0 : ∀ k, k < 5 → pm_At (pk_sI (pk_wI M 108 (fun q => if q < 310 then pk_I M 108 (q + 62) else pk_I M 108 q)) 103 5 (nI 5)) 108 (62 * k) ((fun k => H (k + 1)) k) := fun k hk j hj => pk_gS0 (by omega) (pk_gW1 rfl (by rw [if_pos (by omega), show 62 * k + j + 62 = 62 * (k + 1) + j by omega]; exact hH (k + 1) (by omega) j hj))
        have hn5 : 5 < 6 := by decide
        refine pk_fgt (ls' := [some (.ref 103), some (.int (nI 0))]) (by repeat first | exact trivial | refine ⟨rfl, ?_⟩) ?_
        refine pk_wf (fun z => 62 - z.1) (fun z : Nat × pk_M => z.1 ≤ 62 ∧ pk_fr (fun q => q = 103 ∨ q = 108) M z.2 ∧ (∀ j, j ≠ 5 → pk_I z.2 103 j = pk_I M 103 j) ∧ pk_I z.2 103 5 = nI 5 ∧ (∀ k, k < 5 → pm_At z.2 108 (62 * k) ((fun k => H (k + 1)) k)) ∧ ∀ j, j < z.1 → pk_I z.2 108 (62 * 5 + j) = nI (sp_row A j)) (fun z => z.2) (fun z => [some (.ref 103), some (.int (nI z.1))]) ?_ (0, pk_sI (pk_wI M 108 (fun q => if q < 310 then pk_I M 108 (q + 62) else pk_I M 108 q)) 103 5 (nI 5)) ⟨Nat.zero_le _, hF0, ho0, hu0, hH0, fun j hj => absurd hj (Nat.not_lt_zero j)⟩
        rintro ⟨i, N⟩ ⟨hi, hF, ho, hu5, hHk, hr⟩ K
        dsimp only at hi hF ho hu5 hHk hr K ⊢
        have hWN := hF.wf hW
        refine pk_iload_n dX7_notes_47 rfl ?_
        refine pk_bipush (v := nI 62) dX7_notes_48 (by decide) ?_
        first | refine pk_geN (tgt := 79) dX7_notes_50 (by decide) (by omega) (by omega) (fun c_50 => ?_) (fun c_50 => ?_) | refine pk_icmp_ge (tgt := 79) dX7_notes_50 (by decide) (fun c_50 => ?_) (fun c_50 => ?_)
        · refine pk_aload_n dX7_notes_79 rfl ?_
          refine pk_dup dX7_notes_80 rfl ?_
          refine pk_getN dX7_notes_81 fl_X7_199 rfl (hWN.s rfl) hu5 ?_
          refine pk_iconst (v := nI 1) dX7_notes_84 (by decide) ?_
          first | refine pk_addN dX7_notes_85 ?_ | refine pk_iadd dX7_notes_85 ?_
          refine pk_putI dX7_notes_86 fl_X7_199 rfl rfl rfl rfl (hWN.s rfl) ?_
          refine pk_retv dX7_notes_89 ?_
          have hi2 : i = 62 := by omega
          subst hi2
          refine ⟨rfl, hF.tr (pk_fr.sI (Or.inl rfl)), fun j hj => pk_gS0 (Or.inr hj) (ho j hj), pk_gS1 rfl rfl (by rw [hpn]), fun k hk => ?_⟩
          rw [hpn] at hk
          rw [hph k hk]
          by_cases e : k = 5
          · rw [if_pos e, e]
            exact fun j hj => pk_gS0 (by omega) (hr j hj)
          · rw [if_neg e]
            exact fun j hj => pk_gS0 (by omega) (hHk k (by omega) j hj)
        · refine pk_aload_n dX7_notes_53 rfl ?_
          refine pk_getP dX7_notes_54 fl_X7_22 rfl (hWN.s rfl) (hWN.p rfl) ?_
          refine pk_bipush (v := nI 62) dX7_notes_57 (by decide) ?_
          refine pk_aload_n dX7_notes_59 rfl ?_
          refine pk_getN dX7_notes_60 fl_X7_199 rfl (hWN.s rfl) hu5 ?_
          first | refine pk_mulN dX7_notes_63 ?_ | refine pk_imul dX7_notes_63 ?_
          refine pk_iload_n dX7_notes_64 rfl ?_
          first | refine pk_addN dX7_notes_65 ?_ | refine pk_iadd dX7_notes_65 ?_
          refine pk_aload_n dX7_notes_66 rfl ?_
          refine pk_getP dX7_notes_67 fl_X7_7 rfl (hWN.s rfl) (hWN.p rfl) ?_
          refine pk_iload_n dX7_notes_70 rfl ?_
          refine pk_aldN dX7_notes_71 (hWN.s rfl) (by omega) (by omega) (show pk_I N 104 i = nI (sp_row A i) by rw [hF.I (by omega) i]; have := hA i (by omega); rw [Nat.zero_add] at this; exact this) ?_
          refine pk_astN dX7_notes_72 (hWN.s rfl) (by omega) (by omega) (by omega) ?_
          first | refine pk_inc1 dX7_notes_73 rfl rfl ?_ | refine pk_iinc dX7_notes_73 rfl rfl rfl ?_
          refine pk_goto (tgt := 47) dX7_notes_76 (by decide) ?_
          exact K (i + 1, _) ⟨by dsimp only; omega, hF.tr (pk_fr.sI (Or.inr rfl)), fun j hj => pk_gS0 (by omega) (ho j hj), pk_gS0 (by omega) hu5, fun k hk j hj => pk_gS0 (by omega) (hHk k hk j hj), fun j hj => by
            by_cases e : j = i
            · subst e
              exact pk_gS1 rfl rfl rfl
            · exact pk_gS0 (by omega) (hr j (by dsimp only at hj; omega))⟩ (by dsimp only; omega)
      · omega

set_option maxRecDepth 100000 in
set_option maxHeartbeats 4000000 in
theorem e_X7_undo {Γ : pk_T} {M : pk_M} {L : Nat} {X : pk_X} (hR : pk_RM L M X) (hX : pk_okX X) : pk_E Γ yX7_undo cX7_undo 2 (some .int) 0 0 0 M [.ref 103] (fun r M' => r = some (.int (op_undo X).1) ∧ pk_mf M M' ∧ pk_RM L M' (op_undo X).2) := by
  have hR0 := hR
  obtain ⟨hW, hA, hU, hK, hTp, hSh⟩ := hR0
  have hok := hX.1
  have hw := hok.1
  have hh := hok.2.1
  have hs := hok.2.2.2.2.2.2.2.1
  have hn6 := hX.2.1.1
  refine pk_meth (own := RX7) (ini := false) [some (.ref 103), none] (by decide +kernel) rfl (by decide +kernel) rfl rfl ?_
  refine pk_aload_n dX7_undo_0 rfl ?_
  refine pk_getN dX7_undo_1 fl_X7_199 rfl (hW.s rfl) hU.1 ?_
  refine pk_ne0N (tgt := 10) dX7_undo_4 (by decide) (by omega) (fun c_4 => ?_) (fun c_4 => ?_)
  · refine pk_aload_n dX7_undo_10 rfl ?_
    refine pk_dup dX7_undo_11 rfl ?_
    refine pk_getN dX7_undo_12 fl_X7_199 rfl (hW.s rfl) hU.1 ?_
    refine pk_iconst (v := nI 1) dX7_undo_15 (by decide) ?_
    first | refine pk_subN dX7_undo_16 (by omega) ?_ | refine pk_isub dX7_undo_16 ?_
    refine pk_putI dX7_undo_17 fl_X7_199 rfl rfl rfl rfl (hW.s rfl) ?_
    refine pk_iconst (v := nI 0) dX7_undo_20 (by decide) ?_
    refine pk_istore_n dX7_undo_21 rfl rfl ?_
    rw [op_undo, if_neg c_4]
    refine pk_Mq (M' := (pk_wI (pk_sI M 103 5 (nI (X.2.1.1 - 1))) 104 (fun q => if q < 0 then pk_I M 108 (62 * (X.2.1.1 - 1) + q) else pk_I M 104 q))) ((pk_wI_id _ 104).symm.trans (by congr 1)) ?_
    refine pk_for 62 (fun i => (pk_wI (pk_sI M 103 5 (nI (X.2.1.1 - 1))) 104 (fun q => if q < i then pk_I M 108 (62 * (X.2.1.1 - 1) + q) else pk_I M 104 q))) (fun i => [some (.ref 103), some (.int (nI i))]) ?_ ?_ 0 (by omega)
    · intro i hi K
      have hu : pk_I (pk_wI (pk_sI M 103 5 (nI (X.2.1.1 - 1))) 104 (fun q => if q < i then pk_I M 108 (62 * (X.2.1.1 - 1) + q) else pk_I M 104 q)) 103 5 = nI (X.2.1.1 - 1) := pk_gW0 (by decide) (pk_gS1 rfl rfl rfl)
      refine pk_iload_n dX7_undo_22 rfl ?_
      refine pk_bipush (v := nI 62) dX7_undo_23 (by decide) ?_
      first | refine pk_geN (tgt := 54) dX7_undo_25 (by decide) (by omega) (by omega) (fun c_25 => ?_) (fun c_25 => ?_) | refine pk_icmp_ge (tgt := 54) dX7_undo_25 (by decide) (fun c_25 => ?_) (fun c_25 => ?_)
      · omega
      · refine pk_aload_n dX7_undo_28 rfl ?_
        refine pk_getP dX7_undo_29 fl_X7_7 rfl (hW.s rfl) (hW.p rfl) ?_
        refine pk_iload_n dX7_undo_32 rfl ?_
        refine pk_aload_n dX7_undo_33 rfl ?_
        refine pk_getP dX7_undo_34 fl_X7_22 rfl (hW.s rfl) (hW.p rfl) ?_
        refine pk_bipush (v := nI 62) dX7_undo_37 (by decide) ?_
        refine pk_aload_n dX7_undo_39 rfl ?_
        refine pk_getN dX7_undo_40 fl_X7_199 rfl (hW.s rfl) hu ?_
        first | refine pk_mulN dX7_undo_43 ?_ | refine pk_imul dX7_undo_43 ?_
        refine pk_iload_n dX7_undo_44 rfl ?_
        first | refine pk_addN dX7_undo_45 ?_ | refine pk_iadd dX7_undo_45 ?_
        refine pk_aldR dX7_undo_46 (hW.s rfl) (by omega) (by omega) ?_
        refine pk_astN dX7_undo_47 (hW.s rfl) (by omega) (by omega) (by omega) ?_
        rw [pk_wI_sI]
        first | refine pk_inc1 dX7_undo_48 rfl rfl ?_ | refine pk_iinc dX7_undo_48 rfl rfl rfl ?_
        refine pk_goto (tgt := 22) dX7_undo_51 (by decide) ?_
        refine pk_Mq ?_ K
        congr 1
        funext q
        by_cases e : q = i
        · rw [if_pos e, if_pos (by omega), e]
          exact pk_gW0 (by decide) (pk_gS0 (by omega) rfl)
        · rw [if_neg e]
          by_cases e2 : q < i
          · rw [if_pos e2, if_pos (by omega)]
          · rw [if_neg e2, if_neg (by omega)]
    · refine pk_iload_n dX7_undo_22 rfl ?_
      refine pk_bipush (v := nI 62) dX7_undo_23 (by decide) ?_
      first | refine pk_geN (tgt := 54) dX7_undo_25 (by decide) (by omega) (by omega) (fun c_25 => ?_) (fun c_25 => ?_) | refine pk_icmp_ge (tgt := 54) dX7_undo_25 (by decide) (fun c_25 => ?_) (fun c_25 => ?_)
      · refine pk_aload_n dX7_undo_54 rfl ?_
        refine pk_getN dX7_undo_55 fl_X7_199 rfl (hW.s rfl) (show pk_I (pk_wI (pk_sI M 103 5 (nI (X.2.1.1 - 1))) 104 (fun q => if q < 62 then pk_I M 108 (62 * (X.2.1.1 - 1) + q) else pk_I M 104 q)) 103 5 = nI (X.2.1.1 - 1) from pk_gW0 (by decide) (pk_gS1 rfl rfl rfl)) ?_
        refine pk_reti dX7_undo_58 (by first | rfl | exact pk_nbi _) ?_
        have hf : pk_ff (fun q => q = 103 ∨ q = 104) M (pk_wI (pk_sI M 103 5 (nI (X.2.1.1 - 1))) 104 (fun q => if q < 62 then pk_I M 108 (62 * (X.2.1.1 - 1) + q) else pk_I M 104 q)) := ((pk_fr.sI (Or.inl rfl)).tr (pk_fr.wI (Or.inr rfl))).ff
        have ho : ∀ j, j ≠ 5 → pk_I (pk_wI (pk_sI M 103 5 (nI (X.2.1.1 - 1))) 104 (fun q => if q < 62 then pk_I M 108 (62 * (X.2.1.1 - 1) + q) else pk_I M 104 q)) 103 j = pk_I M 103 j := fun j hj => pk_gW0 (by decide) (pk_gS0 (Or.inr hj) rfl)
        exact ⟨rfl, hf.mono (fun q h => by omega), hf.wf hW, fun j hj => pk_gW1 rfl (by rw [Nat.zero_add, if_pos hj]; exact hU.2 _ (by omega) j hj), ⟨pk_gW0 (by decide) (pk_gS1 rfl rfl rfl), fun k hk => (hU.2 k (by dsimp only at hk; omega)).ff hf (by omega)⟩, ⟨(ho 16 (by decide)).trans hK.1, fun e => ⟨(hK.2 e).1.ff hf (by omega), fun k hk => ((hK.2 e).2 k hk).ff hf (by omega)⟩⟩, ⟨(ho 8 (by decide)).trans hTp.1, fun i hi => (hf.I (by omega) i).trans (hTp.2 i hi)⟩, fun k hk => (hSh k hk).ff hf (by omega) (by omega) (by omega)⟩
      · omega
  · refine pk_bipush (v := -4) dX7_undo_7 (by decide) ?_
    refine pk_reti dX7_undo_9 (by first | rfl | exact pk_nbi _) ?_
    rw [op_undo, if_pos c_4]
    exact ⟨rfl, pk_ff.rf _ M, hR⟩

set_option maxRecDepth 100000 in
set_option maxHeartbeats 4000000 in
theorem e_X7_seed {Γ : pk_T} {M : pk_M} {L : Nat} {X : pk_X} (hR : pk_RM L M X) (hX : pk_okX X) (v : Int32) : pk_E Γ yX7_seed cX7_seed 3 (some .int) 0 0 0 M [.ref 103, .int v] (fun r M' => r = some (.int (op_seed X v).1) ∧ pk_mf M M' ∧ pk_RM L M' (op_seed X v).2) := by
  have hR0 := hR
  obtain ⟨hW, hA, hU, hK, hTp, hSh⟩ := hR0
  have hok := hX.1
  have hw := hok.1
  have hh := hok.2.1
  have hs := hok.2.2.2.2.2.2.2.1
  have hn6 := hX.2.1.1
  refine pk_meth (own := RX7) (ini := false) [some (.ref 103), some (.int v), none] (by decide +kernel) rfl (by decide +kernel) rfl rfl ?_
  refine pk_iload_n dX7_seed_0 rfl ?_
  refine pk_if_ge (tgt := 6) dX7_seed_1 (by decide) (fun c_1 => ?_) (fun c_1 => ?_)
  · obtain ⟨n, hn, rfl⟩ := nI_of (x := v) (Int32.not_lt.mpr c_1)
    refine pk_aload_n dX7_seed_6 rfl ?_
    refine pk_getP dX7_seed_7 fl_X7_7 rfl (hW.s rfl) (hW.p rfl) ?_
    refine pk_iconst (v := nI 2) dX7_seed_10 (by decide) ?_
    refine pk_aldN dX7_seed_11 (hW.s rfl) (by omega) (by omega) hA.d ?_
    refine pk_istore_n dX7_seed_12 rfl rfl ?_
    refine pk_aload_n dX7_seed_13 rfl ?_
    refine pk_getP dX7_seed_14 fl_X7_7 rfl (hW.s rfl) (hW.p rfl) ?_
    refine pk_iconst (v := nI 2) dX7_seed_17 (by decide) ?_
    refine pk_iload_n dX7_seed_18 rfl ?_
    refine pk_astN dX7_seed_19 (hW.s rfl) (by omega) (by omega) (by omega) ?_
    refine pk_iload_n dX7_seed_20 rfl ?_
    refine pk_reti dX7_seed_21 (by first | rfl | exact pk_nbi _) ?_
    rw [op_seed, if_neg (nI_pos hn), nI_clamp hn]
    have hf : pk_fr (fun q => q = 104) M (pk_sI M 104 2 (nI n)) := pk_fr.sI rfl
    exact ⟨rfl, hf.ff.mono (fun q h => by omega), hR.st hf.ff (hA.s_d n)⟩
  · refine pk_iconst (v := -1) dX7_seed_4 (by decide) ?_
    refine pk_reti dX7_seed_5 (by first | rfl | exact pk_nbi _) ?_
    rw [op_seed, if_pos (Int32.not_le.mp c_1)]
    exact ⟨rfl, pk_ff.rf _ M, hR⟩

set_option maxRecDepth 100000 in
set_option maxHeartbeats 4000000 in
theorem e_X7_type {Γ : pk_T} {M : pk_M} {L : Nat} {X : pk_X} (hR : pk_RM L M X) (hX : pk_okX X) (v : Int32) : pk_E Γ yX7_type cX7_type 2 (some .int) 1 0 0 M [.ref 103, .int v] (fun r M' => r = some (.int (op_type X v).1) ∧ pk_mf M M' ∧ pk_RM L M' (op_type X v).2) := by
  have hR0 := hR
  obtain ⟨hW, hA, hU, hK, hTp, hSh⟩ := hR0
  have hok := hX.1
  have hw := hok.1
  have hh := hok.2.1
  have hs := hok.2.2.2.2.2.2.2.1
  have hn6 := hX.2.1.1
  refine pk_meth (own := RX7) (ini := false) [some (.ref 103), some (.int v)] (by decide +kernel) rfl (by decide +kernel) rfl rfl ?_
  have hn100 := hX.2.2.2.1.1
  refine pk_iload_n dX7_type_0 rfl ?_
  refine pk_i2l dX7_type_1 ?_
  refine pk_ldc2 dX7_type_2 kc_X7_234 ?_
  refine pk_ldc2 dX7_type_5 kc_X7_236 ?_
  refine pk_Si dX7_type_8 ml_X7_59 yw_X7_in ys_X7_in (e_X7_inI _ (lo := nI 32) (hi := nI 126) (by decide) (by decide)) rfl rfl rfl rfl rfl rfl rfl ?_
  first | refine pk_neb (tgt := 16) dX7_type_11 (by decide) (fun c_11 => ?_) (fun c_11 => ?_) | refine pk_ne0N (tgt := 16) dX7_type_11 (by decide) (by omega) (fun c_11 => ?_) (fun c_11 => ?_) | refine pk_if_ne (tgt := 16) dX7_type_11 (by decide) (fun c_11 => ?_) (fun c_11 => ?_)
  · have c11 := c_11
    rw [Bool.and_eq_true, decide_eq_true_eq, decide_eq_true_eq] at c11
    have hnv : ¬ (v < nI 32 ∨ nI 126 < v) := fun h => h.elim (fun z => Int32.not_lt.mpr c11.1 z) (fun z => Int32.not_lt.mpr c11.2 z)
    obtain ⟨v, hv, rfl⟩ := nI_of (x := v) (fun h => Int32.not_lt.mpr c11.1 (Int32.lt_trans h (by decide)))
    rw [op_type, if_neg hnv, nI_clamp hv]
    refine pk_aload_n dX7_type_16 rfl ?_
    refine pk_getN dX7_type_17 fl_X7_238 rfl (hW.s rfl) hTp.1 ?_
    refine pk_bipush (v := nI 100) dX7_type_20 (by decide) ?_
    first | refine pk_neN (tgt := 28) dX7_type_22 (by decide) (by omega) (by omega) (fun c_22 => ?_) (fun c_22 => ?_) | refine pk_icmp_ne (tgt := 28) dX7_type_22 (by decide) (fun c_22 => ?_) (fun c_22 => ?_)
    · refine pk_aload_n dX7_type_28 rfl ?_
      refine pk_getP dX7_type_29 fl_X7_28 rfl (hW.s rfl) (hW.p rfl) ?_
      refine pk_aload_n dX7_type_32 rfl ?_
      refine pk_getN dX7_type_33 fl_X7_238 rfl (hW.s rfl) hTp.1 ?_
      refine pk_iload_n dX7_type_36 rfl ?_
      refine pk_astN dX7_type_37 (hW.s rfl) (by omega) (by omega) (by omega) ?_
      refine pk_aload_n dX7_type_38 rfl ?_
      refine pk_dup dX7_type_39 rfl ?_
      refine pk_getN dX7_type_40 fl_X7_238 rfl (hW.s rfl) (pk_gS0 (by omega) hTp.1) ?_
      refine pk_iconst (v := nI 1) dX7_type_43 (by decide) ?_
      first | refine pk_addN dX7_type_44 ?_ | refine pk_iadd dX7_type_44 ?_
      refine pk_putI dX7_type_45 fl_X7_238 rfl rfl rfl rfl (hW.s rfl) ?_
      refine pk_aload_n dX7_type_48 rfl ?_
      refine pk_getN dX7_type_49 fl_X7_238 rfl (hW.s rfl) (pk_gS1 rfl rfl rfl) ?_
      refine pk_reti dX7_type_52 (by first | rfl | exact pk_nbi _) ?_
      rw [if_pos (by omega)]
      have hf : pk_ff (fun q => q = 103 ∨ q = 110) M (pk_sI (pk_sI M 110 X.2.2.2.1.1 (nI v)) 103 8 (nI (X.2.2.2.1.1 + 1))) := ((pk_fr.sI (Or.inr rfl)).tr (pk_fr.sI (Or.inl rfl))).ff
      have ho : ∀ j, j ≠ 8 → pk_I (pk_sI (pk_sI M 110 X.2.2.2.1.1 (nI v)) 103 8 (nI (X.2.2.2.1.1 + 1))) 103 j = pk_I M 103 j := fun j hj => pk_gS0 (Or.inr hj) (pk_gS0 (by omega) rfl)
      refine ⟨rfl, hf.mono (fun q h => by omega), hf.wf hW, hA.ff hf (by omega), ⟨(ho 5 (by decide)).trans hU.1, fun k hk => (hU.2 k hk).ff hf (by omega)⟩, ⟨(ho 16 (by decide)).trans hK.1, fun e => ⟨(hK.2 e).1.ff hf (by omega), fun k hk => ((hK.2 e).2 k hk).ff hf (by omega)⟩⟩, ⟨pk_gS1 rfl rfl rfl, fun i hi => pk_gS0 (by omega) ?_⟩, fun k hk => (hSh k hk).ff hf (by omega) (by omega) (by omega)⟩
      dsimp only at hi ⊢
      by_cases e : i = X.2.2.2.1.1
      · rw [if_pos e]
        exact pk_gS1 rfl e rfl
      · rw [if_neg e]
        exact pk_gS0 (Or.inr e) (hTp.2 i (by omega))
    · refine pk_bipush (v := -3) dX7_type_25 (by decide) ?_
      refine pk_reti dX7_type_27 (by first | rfl | exact pk_nbi _) ?_
      rw [if_neg (by omega)]
      exact ⟨rfl, pk_ff.rf _ M, hR⟩
  · refine pk_iconst (v := -1) dX7_type_14 (by decide) ?_
    refine pk_reti dX7_type_15 (by first | rfl | exact pk_nbi _) ?_
    have hnv : v < nI 32 ∨ nI 126 < v := by
      rw [Bool.and_eq_false_iff, decide_eq_false_iff_not, decide_eq_false_iff_not] at c_11
      exact c_11.imp Int32.not_le.mp Int32.not_le.mp
    rw [op_type, if_pos hnv]
    exact ⟨rfl, pk_ff.rf _ M, hR⟩

set_option maxRecDepth 100000 in
set_option maxHeartbeats 4000000 in
theorem e_X7_tell {Γ : pk_T} {M : pk_M} {L : Nat} {X : pk_X} (hR : pk_RM L M X) (hX : pk_okX X) (i k t : Int32) : pk_E Γ yX7_tell cX7_tell 4 (some .int) 2 0 0 M [.ref 103, .int i, .int k, .int t] (fun r M' => r = some (.int (op_tell X i k t).1) ∧ pk_mf M M' ∧ pk_RM L M' (op_tell X i k t).2) := by
  have hR0 := hR
  obtain ⟨hW, hA, hU, hK, hTp, hSh⟩ := hR0
  have hok := hX.1
  have hw := hok.1
  have hh := hok.2.1
  have hs := hok.2.2.2.2.2.2.2.1
  have hn6 := hX.2.1.1
  refine pk_meth (own := RX7) (ini := false) [some (.ref 103), some (.int i), some (.int k), some (.int t)] (by decide +kernel) rfl (by decide +kernel) rfl rfl ?_
  refine pk_iload_n dX7_tell_0 rfl ?_
  refine pk_Si dX7_tell_1 ml_X7_130 yw_X7_isInk ys_X7_isInk (e_X7_isInk _) rfl rfl rfl rfl rfl rfl rfl ?_
  first | refine pk_eqb (tgt := 31) dX7_tell_4 (by decide) (fun c_4 => ?_) (fun c_4 => ?_) | refine pk_eq0N (tgt := 31) dX7_tell_4 (by decide) (by omega) (fun c_4 => ?_) (fun c_4 => ?_) | refine pk_if_eq (tgt := 31) dX7_tell_4 (by decide) (fun c_4 => ?_) (fun c_4 => ?_)
  · refine pk_iconst (v := -1) dX7_tell_31 (by decide) ?_
    refine pk_reti dX7_tell_32 (by first | rfl | exact pk_nbi _) ?_
    rw [op_tell, if_pos]
    · exact ⟨rfl, pk_ff.rf _ M, hR⟩
    · rw [c_4, Bool.false_and, Bool.false_and]
  · obtain ⟨i, hi, rfl⟩ := sp_b_of c_4 (by decide)
    refine pk_iload_n dX7_tell_7 rfl ?_
    refine pk_i2l dX7_tell_8 ?_
    refine pk_lconst (v := 0) dX7_tell_9 (by decide) ?_
    refine pk_ldc2 dX7_tell_10 kc_X7_210 ?_
    refine pk_Si dX7_tell_13 ml_X7_59 yw_X7_in ys_X7_in (e_X7_inB _ (N := 3) (by omega) (by decide)) rfl rfl rfl rfl rfl rfl rfl ?_
    first | refine pk_eqb (tgt := 31) dX7_tell_16 (by decide) (fun c_16 => ?_) (fun c_16 => ?_) | refine pk_eq0N (tgt := 31) dX7_tell_16 (by decide) (by omega) (fun c_16 => ?_) (fun c_16 => ?_) | refine pk_if_eq (tgt := 31) dX7_tell_16 (by decide) (fun c_16 => ?_) (fun c_16 => ?_)
    · refine pk_iconst (v := -1) dX7_tell_31 (by decide) ?_
      refine pk_reti dX7_tell_32 (by first | rfl | exact pk_nbi _) ?_
      rw [op_tell, if_pos]
      · exact ⟨rfl, pk_ff.rf _ M, hR⟩
      · rw [show sp_b k 4 = false from c_16, Bool.and_false, Bool.false_and]
    · obtain ⟨k, hk, rfl⟩ := sp_b_of c_16 (by decide)
      refine pk_iload_n dX7_tell_19 rfl ?_
      refine pk_i2l dX7_tell_20 ?_
      refine pk_lconst (v := 0) dX7_tell_21 (by decide) ?_
      refine pk_ldc2 dX7_tell_22 kc_X7_212 ?_
      refine pk_Si dX7_tell_25 ml_X7_59 yw_X7_in ys_X7_in (e_X7_inB _ (N := 4095) (by omega) (by decide)) rfl rfl rfl rfl rfl rfl rfl ?_
      first | refine pk_neb (tgt := 33) dX7_tell_28 (by decide) (fun c_28 => ?_) (fun c_28 => ?_) | refine pk_ne0N (tgt := 33) dX7_tell_28 (by decide) (by omega) (fun c_28 => ?_) (fun c_28 => ?_) | refine pk_if_ne (tgt := 33) dX7_tell_28 (by decide) (fun c_28 => ?_) (fun c_28 => ?_)
      · obtain ⟨t, ht, rfl⟩ := sp_b_of c_28 (by decide)
        have hk4 := hok.2.2.2.1 i hi
        have ht4 := hok.2.2.2.2.1 i hi
        rw [op_tell, if_neg (by rw [c_4, show sp_b (nI k) 4 = true from c_16, show sp_b (nI t) 4096 = true from c_28]; decide), nI_clamp (by omega), nI_clamp (by omega), nI_clamp (by omega)]
        refine pk_aload_n dX7_tell_33 rfl ?_
        refine pk_getP dX7_tell_34 fl_X7_7 rfl (hW.s rfl) (hW.p rfl) ?_
        refine pk_iconst (v := nI 4) dX7_tell_37 (by decide) ?_
        refine pk_iload_n dX7_tell_38 rfl ?_
        first | refine pk_addN dX7_tell_39 ?_ | refine pk_iadd dX7_tell_39 ?_
        refine pk_aldN dX7_tell_40 (hW.s rfl) (by omega) (by omega) (hA.k hi) ?_
        refine pk_iload_n dX7_tell_41 rfl ?_
        first | refine pk_neN (tgt := 61) dX7_tell_42 (by decide) (by omega) (by omega) (fun c_42 => ?_) (fun c_42 => ?_) | refine pk_icmp_ne (tgt := 61) dX7_tell_42 (by decide) (fun c_42 => ?_) (fun c_42 => ?_)
        · refine pk_aload_n dX7_tell_61 rfl ?_
          refine pk_Vvr dX7_tell_62 ml_X7_214 yw_X7_notes yv_X7_notes (hW.s rfl) (e_X7_notes hW hA hU.1 hn6 hU.2) rfl rfl rfl rfl rfl rfl rfl (fun M1 h1 => ?_)
          obtain ⟨hmf, hRk⟩ := hR.kp h1
          replace hW := hRk.1
          have hA1 := hRk.2.1
          refine pk_aload_n dX7_tell_65 rfl ?_
          refine pk_getP dX7_tell_66 fl_X7_7 rfl (hW.s rfl) (hW.p rfl) ?_
          refine pk_iconst (v := nI 4) dX7_tell_69 (by decide) ?_
          refine pk_iload_n dX7_tell_70 rfl ?_
          first | refine pk_addN dX7_tell_71 ?_ | refine pk_iadd dX7_tell_71 ?_
          refine pk_iload_n dX7_tell_72 rfl ?_
          refine pk_astN dX7_tell_73 (hW.s rfl) (by omega) (by omega) (by omega) ?_
          refine pk_aload_n dX7_tell_74 rfl ?_
          refine pk_getP dX7_tell_75 fl_X7_7 rfl (hW.s rfl) (hW.p rfl) ?_
          refine pk_bipush (v := nI 9) dX7_tell_78 (by decide) ?_
          refine pk_iload_n dX7_tell_80 rfl ?_
          first | refine pk_addN dX7_tell_81 ?_ | refine pk_iadd dX7_tell_81 ?_
          refine pk_iload_n dX7_tell_82 rfl ?_
          refine pk_astN dX7_tell_83 (hW.s rfl) (by omega) (by omega) (by omega) ?_
          refine pk_iconst (v := nI 1) dX7_tell_84 (by decide) ?_
          refine pk_reti dX7_tell_85 (by first | rfl | exact pk_nbi _) ?_
          rw [if_neg (fun h => c_42 h.1)]
          have hf : pk_fr (fun q => q = 104) M1 (pk_sI (pk_sI M1 104 (4 + i) (nI k)) 104 (9 + i) (nI t)) := (pk_fr.sI (D := fun q => q = 104) rfl).tr (pk_fr.sI rfl)
          refine ⟨rfl, hmf.tr (hf.ff.mono (fun q h => by omega)), hRk.st hf.ff (pm_At.mk0 (pk_gS0 (by omega) (pk_gS0 (by omega) hA1.w)) (pk_gS0 (by omega) (pk_gS0 (by omega) hA1.h)) (pk_gS0 (by omega) (pk_gS0 (by omega) hA1.d)) (pk_gS0 (by omega) (pk_gS0 (by omega) hA1.o)) (fun j hj => pk_gS0 (by omega) ?_) (fun j hj => ?_) (fun j hj => pk_gS0 (by omega) (pk_gS0 (by omega) (hA1.s hj))))⟩
          · show _ = nI (if j = i then k else sp_k X.1 j)
            by_cases h : j = i
            · rw [if_pos h, h]
              exact pk_gS1 rfl rfl rfl
            · rw [if_neg h]
              exact pk_gS0 (by omega) (hA1.k hj)
          · show _ = nI (if j = i then t else sp_t X.1 j)
            by_cases h : j = i
            · rw [if_pos h, h]
              exact pk_gS1 rfl rfl rfl
            · rw [if_neg h]
              exact pk_gS0 (by omega) (pk_gS0 (by omega) (hA1.t hj))
        · refine pk_aload_n dX7_tell_45 rfl ?_
          refine pk_getP dX7_tell_46 fl_X7_7 rfl (hW.s rfl) (hW.p rfl) ?_
          refine pk_bipush (v := nI 9) dX7_tell_49 (by decide) ?_
          refine pk_iload_n dX7_tell_51 rfl ?_
          first | refine pk_addN dX7_tell_52 ?_ | refine pk_iadd dX7_tell_52 ?_
          refine pk_aldN dX7_tell_53 (hW.s rfl) (by omega) (by omega) (hA.t hi) ?_
          refine pk_iload_n dX7_tell_54 rfl ?_
          first | refine pk_neN (tgt := 61) dX7_tell_55 (by decide) (by omega) (by omega) (fun c_55 => ?_) (fun c_55 => ?_) | refine pk_icmp_ne (tgt := 61) dX7_tell_55 (by decide) (fun c_55 => ?_) (fun c_55 => ?_)
          · refine pk_aload_n dX7_tell_61 rfl ?_
            refine pk_Vvr dX7_tell_62 ml_X7_214 yw_X7_notes yv_X7_notes (hW.s rfl) (e_X7_notes hW hA hU.1 hn6 hU.2) rfl rfl rfl rfl rfl rfl rfl (fun M1 h1 => ?_)
            obtain ⟨hmf, hRk⟩ := hR.kp h1
            replace hW := hRk.1
            have hA1 := hRk.2.1
            refine pk_aload_n dX7_tell_65 rfl ?_
            refine pk_getP dX7_tell_66 fl_X7_7 rfl (hW.s rfl) (hW.p rfl) ?_
            refine pk_iconst (v := nI 4) dX7_tell_69 (by decide) ?_
            refine pk_iload_n dX7_tell_70 rfl ?_
            first | refine pk_addN dX7_tell_71 ?_ | refine pk_iadd dX7_tell_71 ?_
            refine pk_iload_n dX7_tell_72 rfl ?_
            refine pk_astN dX7_tell_73 (hW.s rfl) (by omega) (by omega) (by omega) ?_
            refine pk_aload_n dX7_tell_74 rfl ?_
            refine pk_getP dX7_tell_75 fl_X7_7 rfl (hW.s rfl) (hW.p rfl) ?_
            refine pk_bipush (v := nI 9) dX7_tell_78 (by decide) ?_
            refine pk_iload_n dX7_tell_80 rfl ?_
            first | refine pk_addN dX7_tell_81 ?_ | refine pk_iadd dX7_tell_81 ?_
            refine pk_iload_n dX7_tell_82 rfl ?_
            refine pk_astN dX7_tell_83 (hW.s rfl) (by omega) (by omega) (by omega) ?_
            refine pk_iconst (v := nI 1) dX7_tell_84 (by decide) ?_
            refine pk_reti dX7_tell_85 (by first | rfl | exact pk_nbi _) ?_
            rw [if_neg (fun h => c_55 h.2)]
            have hf : pk_fr (fun q => q = 104) M1 (pk_sI (pk_sI M1 104 (4 + i) (nI k)) 104 (9 + i) (nI t)) := (pk_fr.sI (D := fun q => q = 104) rfl).tr (pk_fr.sI rfl)
            refine ⟨rfl, hmf.tr (hf.ff.mono (fun q h => by omega)), hRk.st hf.ff (pm_At.mk0 (pk_gS0 (by omega) (pk_gS0 (by omega) hA1.w)) (pk_gS0 (by omega) (pk_gS0 (by omega) hA1.h)) (pk_gS0 (by omega) (pk_gS0 (by omega) hA1.d)) (pk_gS0 (by omega) (pk_gS0 (by omega) hA1.o)) (fun j hj => pk_gS0 (by omega) ?_) (fun j hj => ?_) (fun j hj => pk_gS0 (by omega) (pk_gS0 (by omega) (hA1.s hj))))⟩
            · show _ = nI (if j = i then k else sp_k X.1 j)
              by_cases h : j = i
              · rw [if_pos h, h]
                exact pk_gS1 rfl rfl rfl
              · rw [if_neg h]
                exact pk_gS0 (by omega) (hA1.k hj)
            · show _ = nI (if j = i then t else sp_t X.1 j)
              by_cases h : j = i
              · rw [if_pos h, h]
                exact pk_gS1 rfl rfl rfl
              · rw [if_neg h]
                exact pk_gS0 (by omega) (pk_gS0 (by omega) (hA1.t hj))
          · refine pk_bipush (v := -2) dX7_tell_58 (by decide) ?_
            refine pk_reti dX7_tell_60 (by first | rfl | exact pk_nbi _) ?_
            rw [if_pos ⟨c_42, c_55⟩]
            exact ⟨rfl, pk_ff.rf _ M, hR⟩
      · refine pk_iconst (v := -1) dX7_tell_31 (by decide) ?_
        refine pk_reti dX7_tell_32 (by first | rfl | exact pk_nbi _) ?_
        rw [op_tell, if_pos]
        · exact ⟨rfl, pk_ff.rf _ M, hR⟩
        · rw [show sp_b t 4096 = false from c_28, Bool.and_false]

set_option maxRecDepth 100000 in
set_option maxHeartbeats 4000000 in
theorem e_X7_order {Γ : pk_T} {M : pk_M} {L : Nat} {X : pk_X} (hR : pk_RM L M X) (hX : pk_okX X) (f : Int32) : pk_E Γ yX7_order cX7_order 3 (some .int) 2 0 0 M [.ref 103, .int f] (fun r M' => r = some (.int (op_order X f).1) ∧ pk_mf M M' ∧ pk_RM L M' (op_order X f).2) := by
  have hR0 := hR
  obtain ⟨hW, hA, hU, hK, hTp, hSh⟩ := hR0
  have hok := hX.1
  have hw := hok.1
  have hh := hok.2.1
  have hs := hok.2.2.2.2.2.2.2.1
  have hn6 := hX.2.1.1
  refine pk_meth (own := RX7) (ini := false) [some (.ref 103), some (.int f), none] (by decide +kernel) rfl (by decide +kernel) rfl rfl ?_
  have hfl := sp_fig_lt hok.2.2.2.2.2.1
  refine pk_iload_n dX7_order_0 rfl ?_
  refine pk_Si dX7_order_1 ml_X7_172 yw_X7_isOrder ys_X7_isOrder (e_X7_isOrder _) rfl rfl rfl rfl rfl rfl rfl ?_
  first | refine pk_neb (tgt := 9) dX7_order_4 (by decide) (fun c_4 => ?_) (fun c_4 => ?_) | refine pk_ne0N (tgt := 9) dX7_order_4 (by decide) (by omega) (fun c_4 => ?_) (fun c_4 => ?_) | refine pk_if_ne (tgt := 9) dX7_order_4 (by decide) (fun c_4 => ?_) (fun c_4 => ?_)
  · have c4 := c_4
    unfold sp_isOI sp_isO at c4
    rw [Bool.and_eq_true, decide_eq_true_eq, Bool.and_eq_true, decide_eq_true_eq] at c4
    obtain ⟨n, hn, rfl⟩ := nI_of (x := f) (Int32.not_lt.mpr c4.1)
    rw [nI_clamp hn] at c4
    rw [op_order, if_neg (by rw [c_4]; decide), nI_clamp hn]
    refine pk_aload_n dX7_order_9 rfl ?_
    refine pk_getP dX7_order_10 fl_X7_7 rfl (hW.s rfl) (hW.p rfl) ?_
    refine pk_iconst (v := nI 3) dX7_order_13 (by decide) ?_
    refine pk_aldN dX7_order_14 (hW.s rfl) (by omega) (by omega) hA.o ?_
    refine pk_istore_n dX7_order_15 rfl rfl ?_
    refine pk_iload_n dX7_order_16 rfl ?_
    refine pk_iload_n dX7_order_17 rfl ?_
    refine pk_icmp_ne (tgt := 24) dX7_order_18 (by decide) (fun c_18 => ?_) (fun c_18 => ?_)
    · refine pk_aload_n dX7_order_24 rfl ?_
      refine pk_Vvr dX7_order_25 ml_X7_214 yw_X7_notes yv_X7_notes (hW.s rfl) (e_X7_notes hW hA hU.1 hn6 hU.2) rfl rfl rfl rfl rfl rfl rfl (fun M1 h1 => ?_)
      obtain ⟨hmf, hRk⟩ := hR.kp h1
      replace hW := hRk.1
      have hA1 := hRk.2.1
      refine pk_aload_n dX7_order_28 rfl ?_
      refine pk_getP dX7_order_29 fl_X7_7 rfl (hW.s rfl) (hW.p rfl) ?_
      refine pk_iconst (v := nI 3) dX7_order_32 (by decide) ?_
      refine pk_iload_n dX7_order_33 rfl ?_
      refine pk_astN dX7_order_34 (hW.s rfl) (by omega) (by omega) (by omega) ?_
      refine pk_iload_n dX7_order_35 rfl ?_
      refine pk_reti dX7_order_36 (by first | rfl | exact pk_nbi _) ?_
      rw [if_neg c_18]
      have hf : pk_fr (fun q => q = 104) M1 (pk_sI M1 104 3 (nI n)) := pk_fr.sI rfl
      refine ⟨rfl, hmf.tr (hf.ff.mono (fun q h => by omega)), hRk.st hf.ff (pm_At.mk0 (pk_gS0 (by omega) hA1.w) (pk_gS0 (by omega) hA1.h) (pk_gS0 (by omega) hA1.d) (pk_gS1 rfl rfl ?_) (fun j hj => pk_gS0 (by omega) (hA1.k hj)) (fun j hj => pk_gS0 (by omega) (hA1.t hj)) (fun j hj => pk_gS0 (by omega) (hA1.s hj)))⟩
      show nI n = nI (sp_fig (fun j => sp_dig n (4 - j)))
      rw [sp_fig_of (by omega)]
    · refine pk_bipush (v := -2) dX7_order_21 (by decide) ?_
      refine pk_reti dX7_order_23 (by first | rfl | exact pk_nbi _) ?_
      rw [if_pos c_18]
      exact ⟨rfl, pk_ff.rf _ M, hR⟩
  · refine pk_iconst (v := -1) dX7_order_7 (by decide) ?_
    refine pk_reti dX7_order_8 (by first | rfl | exact pk_nbi _) ?_
    rw [op_order, if_pos c_4]
    exact ⟨rfl, pk_ff.rf _ M, hR⟩

set_option maxRecDepth 100000 in
set_option maxHeartbeats 4000000 in
theorem e_X7_put {Γ : pk_T} {M : pk_M} {L : Nat} {X : pk_X} (hR : pk_RM L M X) (hX : pk_okX X) (x y v : Int32) : pk_E Γ yX7_put cX7_put 5 (some .int) 3 0 0 M [.ref 103, .int x, .int y, .int v] (fun r M' => r = some (.int (op_put X x y v).1) ∧ pk_mf M M' ∧ pk_RM L M' (op_put X x y v).2) := by
  have hR0 := hR
  obtain ⟨hW, hA, hU, hK, hTp, hSh⟩ := hR0
  have hok := hX.1
  have hw := hok.1
  have hh := hok.2.1
  have hs := hok.2.2.2.2.2.2.2.1
  have hn6 := hX.2.1.1
  refine pk_meth (own := RX7) (ini := false) [some (.ref 103), some (.int x), some (.int y), some (.int v), none] (by decide +kernel) rfl (by decide +kernel) rfl rfl ?_
  refine pk_aload_n dX7_put_0 rfl ?_
  refine pk_iload_n dX7_put_1 rfl ?_
  refine pk_iload_n dX7_put_2 rfl ?_
  refine pk_Vi dX7_put_3 ml_X7_65 yw_X7_isPlace yv_X7_isPlace (hW.s rfl) (e_X7_isPlace ⟨hW, hA, hok⟩ _ _) rfl rfl rfl rfl rfl rfl rfl ?_
  first | refine pk_eqb (tgt := 17) dX7_put_6 (by decide) (fun c_6 => ?_) (fun c_6 => ?_) | refine pk_eq0N (tgt := 17) dX7_put_6 (by decide) (by omega) (fun c_6 => ?_) (fun c_6 => ?_) | refine pk_if_eq (tgt := 17) dX7_put_6 (by decide) (fun c_6 => ?_) (fun c_6 => ?_)
  · refine pk_iconst (v := -1) dX7_put_17 (by decide) ?_
    refine pk_reti dX7_put_18 (by first | rfl | exact pk_nbi _) ?_
    rw [op_put, if_pos]
    · exact ⟨rfl, pk_ff.rf _ M, hR⟩
    · rw [c_6, Bool.false_and]
  · refine pk_iload_n dX7_put_9 rfl ?_
    refine pk_i2l dX7_put_10 ?_
    refine pk_Si dX7_put_11 ml_X7_142 yw_X7_isSet ys_X7_isSet (e_X7_isSet _) rfl rfl rfl rfl rfl rfl rfl ?_
    rw [pm_iss32]
    first | refine pk_neb (tgt := 19) dX7_put_14 (by decide) (fun c_14 => ?_) (fun c_14 => ?_) | refine pk_ne0N (tgt := 19) dX7_put_14 (by decide) (by omega) (fun c_14 => ?_) (fun c_14 => ?_) | refine pk_if_ne (tgt := 19) dX7_put_14 (by decide) (fun c_14 => ?_) (fun c_14 => ?_)
    · obtain ⟨v, hv, rfl⟩ := sp_b_of c_14 (by decide)
      have e0 : (sp_inb X.1 x y && sp_b (nI v) 32) = true := by rw [c_6, c_14]; rfl
      rw [op_put, if_neg (by rw [e0]; decide), nI_clamp (show v < 2 ^ 31 by omega)]
      obtain ⟨i, j, hi, hj, rfl, rfl⟩ := sp_inb_of hok c_6
      rw [nI_clamp (show i < 2 ^ 31 by omega), nI_clamp (show j < 2 ^ 31 by omega), sp_at_n hok hi hj, Nat.mul_comm j 8]
      have hsz := hs (8 * j + i) (by omega)
      refine pk_aload_n dX7_put_19 rfl ?_
      refine pk_bipush (v := nI 8) dX7_put_20 (by decide) ?_
      refine pk_iload_n dX7_put_22 rfl ?_
      first | refine pk_mulN dX7_put_23 ?_ | refine pk_imul dX7_put_23 ?_
      refine pk_iload_n dX7_put_24 rfl ?_
      first | refine pk_addN dX7_put_25 ?_ | refine pk_iadd dX7_put_25 ?_
      refine pk_Vi dX7_put_26 ml_X7_92 yw_X7_setAt yv_X7_setAt (hW.s rfl) (e_X7_setAt ⟨hW, hA, hok⟩ (by omega)) rfl rfl rfl rfl rfl rfl rfl ?_
      refine pk_istore dX7_put_29 rfl rfl ?_
      refine pk_iload dX7_put_31 rfl ?_
      refine pk_iload_n dX7_put_33 rfl ?_
      first | refine pk_neN (tgt := 40) dX7_put_34 (by decide) (by omega) (by omega) (fun c_34 => ?_) (fun c_34 => ?_) | refine pk_icmp_ne (tgt := 40) dX7_put_34 (by decide) (fun c_34 => ?_) (fun c_34 => ?_)
      · refine pk_aload_n dX7_put_40 rfl ?_
        refine pk_Vvr dX7_put_41 ml_X7_214 yw_X7_notes yv_X7_notes (hW.s rfl) (e_X7_notes hW hA hU.1 hn6 hU.2) rfl rfl rfl rfl rfl rfl rfl (fun M1 h1 => ?_)
        obtain ⟨hmf, hRk⟩ := hR.kp h1
        replace hW := hRk.1
        have hA1 := hRk.2.1
        refine pk_aload_n dX7_put_44 rfl ?_
        refine pk_getP dX7_put_45 fl_X7_7 rfl (hW.s rfl) (hW.p rfl) ?_
        refine pk_bipush (v := nI 14) dX7_put_48 (by decide) ?_
        refine pk_bipush (v := nI 8) dX7_put_50 (by decide) ?_
        refine pk_iload_n dX7_put_52 rfl ?_
        first | refine pk_mulN dX7_put_53 ?_ | refine pk_imul dX7_put_53 ?_
        first | refine pk_addN dX7_put_54 ?_ | refine pk_iadd dX7_put_54 ?_
        refine pk_iload_n dX7_put_55 rfl ?_
        first | refine pk_addN dX7_put_56 ?_ | refine pk_iadd dX7_put_56 ?_
        refine pk_iload_n dX7_put_57 rfl ?_
        refine pk_astN dX7_put_58 (hW.s rfl) (by omega) (by omega) (by omega) ?_
        refine pk_iload dX7_put_59 rfl ?_
        refine pk_reti dX7_put_61 (by first | rfl | exact pk_nbi _) ?_
        rw [if_neg c_34]
        have hf : pk_fr (fun q => q = 104) M1 (pk_sI M1 104 (14 + 8 * j + i) (nI v)) := pk_fr.sI rfl
        refine ⟨rfl, hmf.tr (hf.ff.mono (fun q h => by omega)), hRk.st hf.ff ?_⟩
        rw [show 14 + 8 * j + i = 14 + (8 * j + i) by omega]
        exact hA1.s_set v (by omega)
      · refine pk_bipush (v := -2) dX7_put_37 (by decide) ?_
        refine pk_reti dX7_put_39 (by first | rfl | exact pk_nbi _) ?_
        rw [if_pos c_34]
        exact ⟨rfl, pk_ff.rf _ M, hR⟩
    · refine pk_iconst (v := -1) dX7_put_17 (by decide) ?_
      refine pk_reti dX7_put_18 (by first | rfl | exact pk_nbi _) ?_
      rw [op_put, if_pos]
      · exact ⟨rfl, pk_ff.rf _ M, hR⟩
      · rw [c_14, Bool.and_false]

set_option maxRecDepth 100000 in
set_option maxHeartbeats 4000000 in
theorem e_X7_image {Γ : pk_T} {M : pk_M} {L : Nat} {X : pk_X} (hR : pk_RM L M X) (hX : pk_okX X) : pk_E Γ yX7_image cX7_image 2 (some .int) 0 0 0 M [.ref 103] (fun r M' => r = some (.int (op_image X).1) ∧ pk_mf M M' ∧ pk_RM L M' (op_image X).2) := by
  have hR0 := hR
  obtain ⟨hW, hA, hU, hK, hTp, hSh⟩ := hR0
  have hok := hX.1
  have hw := hok.1
  have hh := hok.2.1
  have hs := hok.2.2.2.2.2.2.2.1
  have hn6 := hX.2.1.1
  refine pk_meth (own := RX7) (ini := false) [some (.ref 103), none] (by decide +kernel) rfl (by decide +kernel) rfl rfl ?_
  refine pk_iconst (v := nI 0) dX7_image_0 (by decide) ?_
  refine pk_istore_n dX7_image_1 rfl rfl ?_
  refine pk_Mq (M' := (pk_wI M 112 (fun q => if q < 0 then pk_I M 104 q else pk_I M 112 q))) ((pk_wI_id M 112).symm.trans (by congr 1)) ?_
  refine pk_for 62 (fun i => (pk_wI M 112 (fun q => if q < i then pk_I M 104 q else pk_I M 112 q))) (fun i => [some (.ref 103), some (.int (nI i))]) ?_ ?_ 0 (by omega)
  · intro i hi K
    refine pk_iload_n dX7_image_2 rfl ?_
    refine pk_bipush (v := nI 62) dX7_image_3 (by decide) ?_
    first | refine pk_geN (tgt := 26) dX7_image_5 (by decide) (by omega) (by omega) (fun c_5 => ?_) (fun c_5 => ?_) | refine pk_icmp_ge (tgt := 26) dX7_image_5 (by decide) (fun c_5 => ?_) (fun c_5 => ?_)
    · omega
    · refine pk_aload_n dX7_image_8 rfl ?_
      refine pk_getP dX7_image_9 fl_X7_34 rfl (hW.s rfl) (hW.p rfl) ?_
      refine pk_iload_n dX7_image_12 rfl ?_
      refine pk_aload_n dX7_image_13 rfl ?_
      refine pk_getP dX7_image_14 fl_X7_7 rfl (hW.s rfl) (hW.p rfl) ?_
      refine pk_iload_n dX7_image_17 rfl ?_
      refine pk_aldR dX7_image_18 (hW.s rfl) (by omega) (by omega) ?_
      refine pk_astN dX7_image_19 (hW.s rfl) (by omega) (by omega) (by omega) ?_
      rw [pk_wI_sI]
      first | refine pk_inc1 dX7_image_20 rfl rfl ?_ | refine pk_iinc dX7_image_20 rfl rfl rfl ?_
      refine pk_goto (tgt := 2) dX7_image_23 (by decide) ?_
      refine pk_Mq ?_ K
      congr 1
      funext q
      by_cases e : q = i
      · rw [if_pos e, if_pos (by omega), e]
        exact pk_gW0 (by decide) rfl
      · rw [if_neg e]
        by_cases e2 : q < i
        · rw [if_pos e2, if_pos (by omega)]
        · rw [if_neg e2, if_neg (by omega)]
  · refine pk_iload_n dX7_image_2 rfl ?_
    refine pk_bipush (v := nI 62) dX7_image_3 (by decide) ?_
    first | refine pk_geN (tgt := 26) dX7_image_5 (by decide) (by omega) (by omega) (fun c_5 => ?_) (fun c_5 => ?_) | refine pk_icmp_ge (tgt := 26) dX7_image_5 (by decide) (fun c_5 => ?_) (fun c_5 => ?_)
    · refine pk_iconst (v := nI 0) dX7_image_26 (by decide) ?_
      refine pk_istore_n dX7_image_27 rfl rfl ?_
      refine pk_Mq (M' := (pk_wI (pk_wI M 112 (fun q => if q < 62 then pk_I M 104 q else pk_I M 112 q)) 113 (fun q => if q < 0 then pk_I M 108 q else pk_I M 113 q))) ((pk_wI_id _ 113).symm.trans (by congr 1)) ?_
      refine pk_lsq (ls' := [some (.ref 103), some (.int (nI 0))]) rfl ?_
      refine pk_for 372 (fun i => (pk_wI (pk_wI M 112 (fun q => if q < 62 then pk_I M 104 q else pk_I M 112 q)) 113 (fun q => if q < i then pk_I M 108 q else pk_I M 113 q))) (fun i => [some (.ref 103), some (.int (nI i))]) ?_ ?_ 0 (by omega)
      · intro i hi K
        refine pk_iload_n dX7_image_28 rfl ?_
        refine pk_sipush (v := nI 372) dX7_image_29 (by decide) ?_
        first | refine pk_geN (tgt := 53) dX7_image_32 (by decide) (by omega) (by omega) (fun c_32 => ?_) (fun c_32 => ?_) | refine pk_icmp_ge (tgt := 53) dX7_image_32 (by decide) (fun c_32 => ?_) (fun c_32 => ?_)
        · omega
        · refine pk_aload_n dX7_image_35 rfl ?_
          refine pk_getP dX7_image_36 fl_X7_37 rfl (hW.s rfl) (hW.p rfl) ?_
          refine pk_iload_n dX7_image_39 rfl ?_
          refine pk_aload_n dX7_image_40 rfl ?_
          refine pk_getP dX7_image_41 fl_X7_22 rfl (hW.s rfl) (hW.p rfl) ?_
          refine pk_iload_n dX7_image_44 rfl ?_
          refine pk_aldR dX7_image_45 (hW.s rfl) (by omega) (by omega) ?_
          refine pk_astN dX7_image_46 (hW.s rfl) (by omega) (by omega) (by omega) ?_
          rw [pk_wI_sI]
          first | refine pk_inc1 dX7_image_47 rfl rfl ?_ | refine pk_iinc dX7_image_47 rfl rfl rfl ?_
          refine pk_goto (tgt := 28) dX7_image_50 (by decide) ?_
          refine pk_Mq ?_ K
          congr 1
          funext q
          by_cases e : q = i
          · rw [if_pos e, if_pos (by omega), e]
            exact pk_gW0 (by decide) (pk_gW0 (by decide) rfl)
          · rw [if_neg e]
            by_cases e2 : q < i
            · rw [if_pos e2, if_pos (by omega)]
            · rw [if_neg e2, if_neg (by omega)]
      · refine pk_iload_n dX7_image_28 rfl ?_
        refine pk_sipush (v := nI 372) dX7_image_29 (by decide) ?_
        first | refine pk_geN (tgt := 53) dX7_image_32 (by decide) (by omega) (by omega) (fun c_32 => ?_) (fun c_32 => ?_) | refine pk_icmp_ge (tgt := 53) dX7_image_32 (by decide) (fun c_32 => ?_) (fun c_32 => ?_)
        · refine pk_aload_n dX7_image_53 rfl ?_
          refine pk_aload_n dX7_image_54 rfl ?_
          refine pk_getN dX7_image_55 fl_X7_199 rfl (hW.s rfl) (pk_gW0 (by decide) (pk_gW0 (by decide) hU.1)) ?_
          refine pk_putI dX7_image_58 fl_X7_40 rfl rfl rfl rfl (hW.s rfl) ?_
          refine pk_iconst (v := nI 1) dX7_image_61 (by decide) ?_
          refine pk_reti dX7_image_62 (by first | rfl | exact pk_nbi _) ?_
          have hf : pk_ff (fun q => q = 103 ∨ q = 112 ∨ q = 113) M (pk_sI (pk_wI (pk_wI M 112 (fun q => if q < 62 then pk_I M 104 q else pk_I M 112 q)) 113 (fun q => if q < 372 then pk_I M 108 q else pk_I M 113 q)) 103 16 (nI X.2.1.1)) := ((pk_fr.wI (by omega)).tr ((pk_fr.wI (by omega)).tr (pk_fr.sI (by omega)))).ff
          have ho : ∀ j, j ≠ 16 → pk_I (pk_sI (pk_wI (pk_wI M 112 (fun q => if q < 62 then pk_I M 104 q else pk_I M 112 q)) 113 (fun q => if q < 372 then pk_I M 108 q else pk_I M 113 q)) 103 16 (nI X.2.1.1)) 103 j = pk_I M 103 j := fun j hj => pk_gS0 (Or.inr hj) (pk_gW0 (by decide) (pk_gW0 (by decide) rfl))
          exact ⟨rfl, hf.mono (fun q h => by omega), hf.wf hW, hA.ff hf (by omega), ⟨(ho 5 (by decide)).trans hU.1, fun k hk => (hU.2 k hk).ff hf (by omega)⟩, ⟨pk_gS1 rfl rfl rfl, fun _ => ⟨fun j hj => pk_gS0 (by omega) (pk_gW0 (by decide) (pk_gW1 rfl (by rw [Nat.zero_add, if_pos hj]; have := hA j hj; rw [Nat.zero_add] at this; exact this))), fun k hk j hj => pk_gS0 (by omega) (pk_gW1 rfl (by rw [if_pos (by dsimp only [op_image] at hk; omega)]; exact hU.2 k hk j hj))⟩⟩, ⟨(ho 8 (by decide)).trans hTp.1, fun i hi => (hf.I (by omega) i).trans (hTp.2 i hi)⟩, fun k hk => (hSh k hk).ff hf (by omega) (by omega) (by omega)⟩
        · omega
    · omega

set_option maxRecDepth 100000 in
set_option maxHeartbeats 4000000 in
theorem e_X7_restore {Γ : pk_T} {M : pk_M} {L : Nat} {X : pk_X} (hR : pk_RM L M X) (hX : pk_okX X) : pk_E Γ yX7_restore cX7_restore 2 (some .int) 0 0 0 M [.ref 103] (fun r M' => r = some (.int (op_restore X).1) ∧ pk_mf M M' ∧ pk_RM L M' (op_restore X).2) := by
  have hR0 := hR
  obtain ⟨hW, hA, hU, hK, hTp, hSh⟩ := hR0
  have hok := hX.1
  have hw := hok.1
  have hh := hok.2.1
  have hs := hok.2.2.2.2.2.2.2.1
  have hn6 := hX.2.1.1
  refine pk_meth (own := RX7) (ini := false) [some (.ref 103), none] (by decide +kernel) rfl (by decide +kernel) rfl rfl ?_
  have hk1 := hK.1
  cases hb : X.2.2.1.1 with
  | false =>
    rw [hb, if_neg (by decide)] at hk1
    rw [op_restore, if_pos hb]
    refine pk_aload_n dX7_restore_0 rfl ?_
    refine pk_getI dX7_restore_1 fl_X7_40 rfl (hW.s rfl) ?_
    rw [hk1]
    refine pk_if_ge (tgt := 10) dX7_restore_4 (by decide) (fun c_4 => ?_) (fun c_4 => ?_)
    · exact absurd c_4 (by decide)
    · refine pk_bipush (v := -4) dX7_restore_7 (by decide) ?_
      refine pk_reti dX7_restore_9 (by first | rfl | exact pk_nbi _) ?_
      exact ⟨rfl, pk_ff.rf _ M, hR⟩
  | true =>
    rw [hb, if_pos rfl] at hk1
    rw [op_restore, if_neg (by rw [hb]; decide)]
    obtain ⟨hk2, hk3⟩ := hK.2 hb
    have hkn := (hX.2.2.1 hb).2.1
    refine pk_aload_n dX7_restore_0 rfl ?_
    refine pk_getN dX7_restore_1 fl_X7_40 rfl (hW.s rfl) hk1 ?_
    refine pk_if_ge (tgt := 10) dX7_restore_4 (by decide) (fun c_4 => ?_) (fun c_4 => ?_)
    · refine pk_iconst (v := nI 0) dX7_restore_10 (by decide) ?_
      refine pk_istore_n dX7_restore_11 rfl rfl ?_
      refine pk_Mq (M' := (pk_wI M 104 (fun q => if q < 0 then pk_I M 112 q else pk_I M 104 q))) ((pk_wI_id M 104).symm.trans (by congr 1)) ?_
      refine pk_for 62 (fun i => (pk_wI M 104 (fun q => if q < i then pk_I M 112 q else pk_I M 104 q))) (fun i => [some (.ref 103), some (.int (nI i))]) ?_ ?_ 0 (by omega)
      · intro i hi K
        refine pk_iload_n dX7_restore_12 rfl ?_
        refine pk_bipush (v := nI 62) dX7_restore_13 (by decide) ?_
        first | refine pk_geN (tgt := 36) dX7_restore_15 (by decide) (by omega) (by omega) (fun c_15 => ?_) (fun c_15 => ?_) | refine pk_icmp_ge (tgt := 36) dX7_restore_15 (by decide) (fun c_15 => ?_) (fun c_15 => ?_)
        · omega
        · refine pk_aload_n dX7_restore_18 rfl ?_
          refine pk_getP dX7_restore_19 fl_X7_7 rfl (hW.s rfl) (hW.p rfl) ?_
          refine pk_iload_n dX7_restore_22 rfl ?_
          refine pk_aload_n dX7_restore_23 rfl ?_
          refine pk_getP dX7_restore_24 fl_X7_34 rfl (hW.s rfl) (hW.p rfl) ?_
          refine pk_iload_n dX7_restore_27 rfl ?_
          refine pk_aldR dX7_restore_28 (hW.s rfl) (by omega) (by omega) ?_
          refine pk_astN dX7_restore_29 (hW.s rfl) (by omega) (by omega) (by omega) ?_
          rw [pk_wI_sI]
          first | refine pk_inc1 dX7_restore_30 rfl rfl ?_ | refine pk_iinc dX7_restore_30 rfl rfl rfl ?_
          refine pk_goto (tgt := 12) dX7_restore_33 (by decide) ?_
          refine pk_Mq ?_ K
          congr 1
          funext q
          by_cases e : q = i
          · rw [if_pos e, if_pos (by omega), e]
            exact pk_gW0 (by decide) rfl
          · rw [if_neg e]
            by_cases e2 : q < i
            · rw [if_pos e2, if_pos (by omega)]
            · rw [if_neg e2, if_neg (by omega)]
      · refine pk_iload_n dX7_restore_12 rfl ?_
        refine pk_bipush (v := nI 62) dX7_restore_13 (by decide) ?_
        first | refine pk_geN (tgt := 36) dX7_restore_15 (by decide) (by omega) (by omega) (fun c_15 => ?_) (fun c_15 => ?_) | refine pk_icmp_ge (tgt := 36) dX7_restore_15 (by decide) (fun c_15 => ?_) (fun c_15 => ?_)
        · refine pk_iconst (v := nI 0) dX7_restore_36 (by decide) ?_
          refine pk_istore_n dX7_restore_37 rfl rfl ?_
          refine pk_Mq (M' := (pk_wI (pk_wI M 104 (fun q => if q < 62 then pk_I M 112 q else pk_I M 104 q)) 108 (fun q => if q < 0 then pk_I M 113 q else pk_I M 108 q))) ((pk_wI_id _ 108).symm.trans (by congr 1)) ?_
          refine pk_lsq (ls' := [some (.ref 103), some (.int (nI 0))]) rfl ?_
          refine pk_for 372 (fun i => (pk_wI (pk_wI M 104 (fun q => if q < 62 then pk_I M 112 q else pk_I M 104 q)) 108 (fun q => if q < i then pk_I M 113 q else pk_I M 108 q))) (fun i => [some (.ref 103), some (.int (nI i))]) ?_ ?_ 0 (by omega)
          · intro i hi K
            refine pk_iload_n dX7_restore_38 rfl ?_
            refine pk_sipush (v := nI 372) dX7_restore_39 (by decide) ?_
            first | refine pk_geN (tgt := 63) dX7_restore_42 (by decide) (by omega) (by omega) (fun c_42 => ?_) (fun c_42 => ?_) | refine pk_icmp_ge (tgt := 63) dX7_restore_42 (by decide) (fun c_42 => ?_) (fun c_42 => ?_)
            · omega
            · refine pk_aload_n dX7_restore_45 rfl ?_
              refine pk_getP dX7_restore_46 fl_X7_22 rfl (hW.s rfl) (hW.p rfl) ?_
              refine pk_iload_n dX7_restore_49 rfl ?_
              refine pk_aload_n dX7_restore_50 rfl ?_
              refine pk_getP dX7_restore_51 fl_X7_37 rfl (hW.s rfl) (hW.p rfl) ?_
              refine pk_iload_n dX7_restore_54 rfl ?_
              refine pk_aldR dX7_restore_55 (hW.s rfl) (by omega) (by omega) ?_
              refine pk_astN dX7_restore_56 (hW.s rfl) (by omega) (by omega) (by omega) ?_
              rw [pk_wI_sI]
              first | refine pk_inc1 dX7_restore_57 rfl rfl ?_ | refine pk_iinc dX7_restore_57 rfl rfl rfl ?_
              refine pk_goto (tgt := 38) dX7_restore_60 (by decide) ?_
              refine pk_Mq ?_ K
              congr 1
              funext q
              by_cases e : q = i
              · rw [if_pos e, if_pos (by omega), e]
                exact pk_gW0 (by decide) (pk_gW0 (by decide) rfl)
              · rw [if_neg e]
                by_cases e2 : q < i
                · rw [if_pos e2, if_pos (by omega)]
                · rw [if_neg e2, if_neg (by omega)]
          · refine pk_iload_n dX7_restore_38 rfl ?_
            refine pk_sipush (v := nI 372) dX7_restore_39 (by decide) ?_
            first | refine pk_geN (tgt := 63) dX7_restore_42 (by decide) (by omega) (by omega) (fun c_42 => ?_) (fun c_42 => ?_) | refine pk_icmp_ge (tgt := 63) dX7_restore_42 (by decide) (fun c_42 => ?_) (fun c_42 => ?_)
            · refine pk_aload_n dX7_restore_63 rfl ?_
              refine pk_aload_n dX7_restore_64 rfl ?_
              refine pk_getN dX7_restore_65 fl_X7_40 rfl (hW.s rfl) (pk_gW0 (by decide) (pk_gW0 (by decide) hk1)) ?_
              refine pk_putI dX7_restore_68 fl_X7_199 rfl rfl rfl rfl (hW.s rfl) ?_
              refine pk_iconst (v := nI 1) dX7_restore_71 (by decide) ?_
              refine pk_reti dX7_restore_72 (by first | rfl | exact pk_nbi _) ?_
              have hf : pk_ff (fun q => q = 103 ∨ q = 104 ∨ q = 108) M (pk_sI (pk_wI (pk_wI M 104 (fun q => if q < 62 then pk_I M 112 q else pk_I M 104 q)) 108 (fun q => if q < 372 then pk_I M 113 q else pk_I M 108 q)) 103 5 (nI X.2.2.1.2.2.1)) := ((pk_fr.wI (by omega)).tr ((pk_fr.wI (by omega)).tr (pk_fr.sI (by omega)))).ff
              have ho : ∀ j, j ≠ 5 → pk_I (pk_sI (pk_wI (pk_wI M 104 (fun q => if q < 62 then pk_I M 112 q else pk_I M 104 q)) 108 (fun q => if q < 372 then pk_I M 113 q else pk_I M 108 q)) 103 5 (nI X.2.2.1.2.2.1)) 103 j = pk_I M 103 j := fun j hj => pk_gS0 (Or.inr hj) (pk_gW0 (by decide) (pk_gW0 (by decide) rfl))
              exact ⟨rfl, hf.mono (fun q h => by omega), hf.wf hW, fun j hj => pk_gS0 (by omega) (pk_gW0 (by decide) (pk_gW1 rfl (by rw [Nat.zero_add, if_pos hj]; have := hk2 j hj; rw [Nat.zero_add] at this; exact this))), ⟨pk_gS1 rfl rfl rfl, fun k hk j hj => pk_gS0 (by omega) (pk_gW1 rfl (by rw [if_pos (by dsimp only at hk; omega)]; exact hk3 k hk j hj))⟩, ⟨(ho 16 (by decide)).trans hK.1, fun e => ⟨(hK.2 e).1.ff hf (by omega), fun k hk => ((hK.2 e).2 k hk).ff hf (by omega)⟩⟩, ⟨(ho 8 (by decide)).trans hTp.1, fun i hi => (hf.I (by omega) i).trans (hTp.2 i hi)⟩, fun k hk => (hSh k hk).ff hf (by omega) (by omega) (by omega)⟩
            · omega
        · omega
    · exact absurd (nI_pos' (by omega)) c_4
