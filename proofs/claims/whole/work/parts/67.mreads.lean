/-! The model's object; calls that only read. -/
def pm_sh (M : pk_M) (k : Nat) (S : pk_Ro) : Prop := pk_I M 114 k = (if S.1 then nI S.2.1 else -1) ∧ pk_I M 115 k = nI S.2.2.1 ∧ ∀ j, j < 24 → pk_J M 116 (24 * k + j) = S.2.2.2 j
def pk_RM (L : Nat) (M : pk_M) (X : pk_X) : Prop := pk_WF L M ∧ pm_At M 104 0 X.1 ∧ (pk_I M 103 5 = nI X.2.1.1 ∧ ∀ k, k < X.2.1.1 → pm_At M 108 (62 * k) (X.2.1.2 k)) ∧ (pk_I M 103 16 = (if X.2.2.1.1 then nI X.2.2.1.2.2.1 else -1) ∧ (X.2.2.1.1 = true → pm_At M 112 0 X.2.2.1.2.1 ∧ ∀ k, k < X.2.2.1.2.2.1 → pm_At M 113 (62 * k) (X.2.2.1.2.2.2 k))) ∧ (pk_I M 103 8 = nI X.2.2.2.1.1 ∧ ∀ i, i < X.2.2.2.1.1 → pk_I M 110 i = nI (X.2.2.2.1.2 i)) ∧ ∀ k, k < 4 → pm_sh M k (X.2.2.2.2 k)
def pk_mf (M M' : pk_M) : Prop := pk_ff (fun q => 103 ≤ q) M M'
def pm_scr (q : Nat) : Prop := q = 105 ∨ q = 106 ∨ q = 107 ∨ q = 109 ∨ q = 111 ∨ q = 117 ∨ q < 103
theorem pm_At.ff {D : Nat → Prop} {M M1 : pk_M} {p b : Nat} {A : pk_St} (h : pk_ff D M M1) (hp : ¬ D p) (hA : pm_At M p b A) : pm_At M1 p b A := fun j hj => (h.I hp _).trans (hA j hj)
theorem pm_sh.ff {D : Nat → Prop} {M M1 : pk_M} {k : Nat} {S : pk_Ro} (h : pk_ff D M M1) (h1 : ¬ D 114) (h2 : ¬ D 115) (h3 : ¬ D 116) (hS : pm_sh M k S) : pm_sh M1 k S := ⟨(h.I h1 _).trans hS.1, (h.I h2 _).trans hS.2.1, fun j hj => (h.J h3 _).trans (hS.2.2 j hj)⟩
theorem pk_RM.scr {L : Nat} {M M1 : pk_M} {X : pk_X} (h : pk_ff pm_scr M M1) (hR : pk_RM L M X) : pk_RM L M1 X := by
  obtain ⟨h1, h2, h3, h4, h5, h6⟩ := hR
  have n3 : ¬ pm_scr 103 := by unfold pm_scr; omega
  have n4 : ¬ pm_scr 104 := by unfold pm_scr; omega
  have n8 : ¬ pm_scr 108 := by unfold pm_scr; omega
  have n10 : ¬ pm_scr 110 := by unfold pm_scr; omega
  have n12 : ¬ pm_scr 112 := by unfold pm_scr; omega
  have n13 : ¬ pm_scr 113 := by unfold pm_scr; omega
  have n14 : ¬ pm_scr 114 := by unfold pm_scr; omega
  have n15 : ¬ pm_scr 115 := by unfold pm_scr; omega
  have n16 : ¬ pm_scr 116 := by unfold pm_scr; omega
  exact ⟨h.wf h1, h2.ff h n4, ⟨(h.I n3 5).trans h3.1, fun k hk => (h3.2 k hk).ff h n8⟩, ⟨(h.I n3 16).trans h4.1, fun e => ⟨(h4.2 e).1.ff h n12, fun k hk => ((h4.2 e).2 k hk).ff h n13⟩⟩, ⟨(h.I n3 8).trans h5.1, fun i hi => (h.I n10 i).trans (h5.2 i hi)⟩, fun k hk => (h6 k hk).ff h n14 n15 n16⟩
theorem pk_RM.cf {L : Nat} {M M1 : pk_M} {X : pk_X} (h : pk_cf M M1) (hR : pk_RM L M X) : pk_RM L M1 X := hR.scr (h.mono (fun q hq => by unfold pm_scr; omega))
theorem pk_RC.mf {L : Nat} {M M1 : pk_M} {X : pk_X} (h : pk_mf M M1) (hR : pk_RC L M X) : pk_RC L M1 X := hR.scr (h.mono (fun q hq => by unfold pk_scr; omega))
theorem pk_fr.ms {D : Nat → Prop} {L : Nat} {M M1 : pk_M} {X : pk_X} (h : pk_fr D M M1) (hD : ∀ q, D q → pm_scr q ∧ 103 ≤ q) (hR : pk_RM L M X) : pk_mf M M1 ∧ pk_RM L M1 X := ⟨h.ff.mono (fun q hq => (hD q hq).2), hR.scr (h.ff.mono (fun q hq => (hD q hq).1))⟩
def sp_sm (f : Nat → Nat) (n : Nat) : Nat := sp_fold (fun i x => x + f i) 0 n
theorem sp_sm_succ (f : Nat → Nat) (n : Nat) : sp_sm f (n + 1) = sp_sm f n + f n := rfl

theorem sp_sm_32 (F : Nat → Nat) : sp_sm F 32 = 0 + F 0 + F 1 + F 2 + F 3 + F 4 + F 5 + F 6 + F 7 + F 8 + F 9 + F 10 + F 11 + F 12 + F 13 + F 14 + F 15 + F 16 + F 17 + F 18 + F 19 + F 20 + F 21 + F 22 + F 23 + F 24 + F 25 + F 26 + F 27 + F 28 + F 29 + F 30 + F 31 := rfl

set_option maxHeartbeats 4000000 in
theorem sp_sm_xor (F : Nat → Nat) {a : Nat} (ha : a < 32) : sp_sm (fun i => F (a ^^^ i)) 32 = sp_sm F 32 := by
  rw [sp_sm_32, sp_sm_32]
  obtain rfl | rfl | rfl | rfl | rfl | rfl | rfl | rfl | rfl | rfl | rfl | rfl | rfl | rfl | rfl | rfl | rfl | rfl | rfl | rfl | rfl | rfl | rfl | rfl | rfl | rfl | rfl | rfl | rfl | rfl | rfl | rfl : a = 0 ∨ a = 1 ∨ a = 2 ∨ a = 3 ∨ a = 4 ∨ a = 5 ∨ a = 6 ∨ a = 7 ∨ a = 8 ∨ a = 9 ∨ a = 10 ∨ a = 11 ∨ a = 12 ∨ a = 13 ∨ a = 14 ∨ a = 15 ∨ a = 16 ∨ a = 17 ∨ a = 18 ∨ a = 19 ∨ a = 20 ∨ a = 21 ∨ a = 22 ∨ a = 23 ∨ a = 24 ∨ a = 25 ∨ a = 26 ∨ a = 27 ∨ a = 28 ∨ a = 29 ∨ a = 30 ∨ a = 31 := by omega
  · show 0 + F 0 + F 1 + F 2 + F 3 + F 4 + F 5 + F 6 + F 7 + F 8 + F 9 + F 10 + F 11 + F 12 + F 13 + F 14 + F 15 + F 16 + F 17 + F 18 + F 19 + F 20 + F 21 + F 22 + F 23 + F 24 + F 25 + F 26 + F 27 + F 28 + F 29 + F 30 + F 31 = _
    omega
  · show 0 + F 1 + F 0 + F 3 + F 2 + F 5 + F 4 + F 7 + F 6 + F 9 + F 8 + F 11 + F 10 + F 13 + F 12 + F 15 + F 14 + F 17 + F 16 + F 19 + F 18 + F 21 + F 20 + F 23 + F 22 + F 25 + F 24 + F 27 + F 26 + F 29 + F 28 + F 31 + F 30 = _
    omega
  · show 0 + F 2 + F 3 + F 0 + F 1 + F 6 + F 7 + F 4 + F 5 + F 10 + F 11 + F 8 + F 9 + F 14 + F 15 + F 12 + F 13 + F 18 + F 19 + F 16 + F 17 + F 22 + F 23 + F 20 + F 21 + F 26 + F 27 + F 24 + F 25 + F 30 + F 31 + F 28 + F 29 = _
    omega
  · show 0 + F 3 + F 2 + F 1 + F 0 + F 7 + F 6 + F 5 + F 4 + F 11 + F 10 + F 9 + F 8 + F 15 + F 14 + F 13 + F 12 + F 19 + F 18 + F 17 + F 16 + F 23 + F 22 + F 21 + F 20 + F 27 + F 26 + F 25 + F 24 + F 31 + F 30 + F 29 + F 28 = _
    omega
  · show 0 + F 4 + F 5 + F 6 + F 7 + F 0 + F 1 + F 2 + F 3 + F 12 + F 13 + F 14 + F 15 + F 8 + F 9 + F 10 + F 11 + F 20 + F 21 + F 22 + F 23 + F 16 + F 17 + F 18 + F 19 + F 28 + F 29 + F 30 + F 31 + F 24 + F 25 + F 26 + F 27 = _
    omega
  · show 0 + F 5 + F 4 + F 7 + F 6 + F 1 + F 0 + F 3 + F 2 + F 13 + F 12 + F 15 + F 14 + F 9 + F 8 + F 11 + F 10 + F 21 + F 20 + F 23 + F 22 + F 17 + F 16 + F 19 + F 18 + F 29 + F 28 + F 31 + F 30 + F 25 + F 24 + F 27 + F 26 = _
    omega
  · show 0 + F 6 + F 7 + F 4 + F 5 + F 2 + F 3 + F 0 + F 1 + F 14 + F 15 + F 12 + F 13 + F 10 + F 11 + F 8 + F 9 + F 22 + F 23 + F 20 + F 21 + F 18 + F 19 + F 16 + F 17 + F 30 + F 31 + F 28 + F 29 + F 26 + F 27 + F 24 + F 25 = _
    omega
  · show 0 + F 7 + F 6 + F 5 + F 4 + F 3 + F 2 + F 1 + F 0 + F 15 + F 14 + F 13 + F 12 + F 11 + F 10 + F 9 + F 8 + F 23 + F 22 + F 21 + F 20 + F 19 + F 18 + F 17 + F 16 + F 31 + F 30 + F 29 + F 28 + F 27 + F 26 + F 25 + F 24 = _
    omega
  · show 0 + F 8 + F 9 + F 10 + F 11 + F 12 + F 13 + F 14 + F 15 + F 0 + F 1 + F 2 + F 3 + F 4 + F 5 + F 6 + F 7 + F 24 + F 25 + F 26 + F 27 + F 28 + F 29 + F 30 + F 31 + F 16 + F 17 + F 18 + F 19 + F 20 + F 21 + F 22 + F 23 = _
    omega
  · show 0 + F 9 + F 8 + F 11 + F 10 + F 13 + F 12 + F 15 + F 14 + F 1 + F 0 + F 3 + F 2 + F 5 + F 4 + F 7 + F 6 + F 25 + F 24 + F 27 + F 26 + F 29 + F 28 + F 31 + F 30 + F 17 + F 16 + F 19 + F 18 + F 21 + F 20 + F 23 + F 22 = _
    omega
  · show 0 + F 10 + F 11 + F 8 + F 9 + F 14 + F 15 + F 12 + F 13 + F 2 + F 3 + F 0 + F 1 + F 6 + F 7 + F 4 + F 5 + F 26 + F 27 + F 24 + F 25 + F 30 + F 31 + F 28 + F 29 + F 18 + F 19 + F 16 + F 17 + F 22 + F 23 + F 20 + F 21 = _
    omega
  · show 0 + F 11 + F 10 + F 9 + F 8 + F 15 + F 14 + F 13 + F 12 + F 3 + F 2 + F 1 + F 0 + F 7 + F 6 + F 5 + F 4 + F 27 + F 26 + F 25 + F 24 + F 31 + F 30 + F 29 + F 28 + F 19 + F 18 + F 17 + F 16 + F 23 + F 22 + F 21 + F 20 = _
    omega
  · show 0 + F 12 + F 13 + F 14 + F 15 + F 8 + F 9 + F 10 + F 11 + F 4 + F 5 + F 6 + F 7 + F 0 + F 1 + F 2 + F 3 + F 28 + F 29 + F 30 + F 31 + F 24 + F 25 + F 26 + F 27 + F 20 + F 21 + F 22 + F 23 + F 16 + F 17 + F 18 + F 19 = _
    omega
  · show 0 + F 13 + F 12 + F 15 + F 14 + F 9 + F 8 + F 11 + F 10 + F 5 + F 4 + F 7 + F 6 + F 1 + F 0 + F 3 + F 2 + F 29 + F 28 + F 31 + F 30 + F 25 + F 24 + F 27 + F 26 + F 21 + F 20 + F 23 + F 22 + F 17 + F 16 + F 19 + F 18 = _
    omega
  · show 0 + F 14 + F 15 + F 12 + F 13 + F 10 + F 11 + F 8 + F 9 + F 6 + F 7 + F 4 + F 5 + F 2 + F 3 + F 0 + F 1 + F 30 + F 31 + F 28 + F 29 + F 26 + F 27 + F 24 + F 25 + F 22 + F 23 + F 20 + F 21 + F 18 + F 19 + F 16 + F 17 = _
    omega
  · show 0 + F 15 + F 14 + F 13 + F 12 + F 11 + F 10 + F 9 + F 8 + F 7 + F 6 + F 5 + F 4 + F 3 + F 2 + F 1 + F 0 + F 31 + F 30 + F 29 + F 28 + F 27 + F 26 + F 25 + F 24 + F 23 + F 22 + F 21 + F 20 + F 19 + F 18 + F 17 + F 16 = _
    omega
  · show 0 + F 16 + F 17 + F 18 + F 19 + F 20 + F 21 + F 22 + F 23 + F 24 + F 25 + F 26 + F 27 + F 28 + F 29 + F 30 + F 31 + F 0 + F 1 + F 2 + F 3 + F 4 + F 5 + F 6 + F 7 + F 8 + F 9 + F 10 + F 11 + F 12 + F 13 + F 14 + F 15 = _
    omega
  · show 0 + F 17 + F 16 + F 19 + F 18 + F 21 + F 20 + F 23 + F 22 + F 25 + F 24 + F 27 + F 26 + F 29 + F 28 + F 31 + F 30 + F 1 + F 0 + F 3 + F 2 + F 5 + F 4 + F 7 + F 6 + F 9 + F 8 + F 11 + F 10 + F 13 + F 12 + F 15 + F 14 = _
    omega
  · show 0 + F 18 + F 19 + F 16 + F 17 + F 22 + F 23 + F 20 + F 21 + F 26 + F 27 + F 24 + F 25 + F 30 + F 31 + F 28 + F 29 + F 2 + F 3 + F 0 + F 1 + F 6 + F 7 + F 4 + F 5 + F 10 + F 11 + F 8 + F 9 + F 14 + F 15 + F 12 + F 13 = _
    omega
  · show 0 + F 19 + F 18 + F 17 + F 16 + F 23 + F 22 + F 21 + F 20 + F 27 + F 26 + F 25 + F 24 + F 31 + F 30 + F 29 + F 28 + F 3 + F 2 + F 1 + F 0 + F 7 + F 6 + F 5 + F 4 + F 11 + F 10 + F 9 + F 8 + F 15 + F 14 + F 13 + F 12 = _
    omega
  · show 0 + F 20 + F 21 + F 22 + F 23 + F 16 + F 17 + F 18 + F 19 + F 28 + F 29 + F 30 + F 31 + F 24 + F 25 + F 26 + F 27 + F 4 + F 5 + F 6 + F 7 + F 0 + F 1 + F 2 + F 3 + F 12 + F 13 + F 14 + F 15 + F 8 + F 9 + F 10 + F 11 = _
    omega
  · show 0 + F 21 + F 20 + F 23 + F 22 + F 17 + F 16 + F 19 + F 18 + F 29 + F 28 + F 31 + F 30 + F 25 + F 24 + F 27 + F 26 + F 5 + F 4 + F 7 + F 6 + F 1 + F 0 + F 3 + F 2 + F 13 + F 12 + F 15 + F 14 + F 9 + F 8 + F 11 + F 10 = _
    omega
  · show 0 + F 22 + F 23 + F 20 + F 21 + F 18 + F 19 + F 16 + F 17 + F 30 + F 31 + F 28 + F 29 + F 26 + F 27 + F 24 + F 25 + F 6 + F 7 + F 4 + F 5 + F 2 + F 3 + F 0 + F 1 + F 14 + F 15 + F 12 + F 13 + F 10 + F 11 + F 8 + F 9 = _
    omega
  · show 0 + F 23 + F 22 + F 21 + F 20 + F 19 + F 18 + F 17 + F 16 + F 31 + F 30 + F 29 + F 28 + F 27 + F 26 + F 25 + F 24 + F 7 + F 6 + F 5 + F 4 + F 3 + F 2 + F 1 + F 0 + F 15 + F 14 + F 13 + F 12 + F 11 + F 10 + F 9 + F 8 = _
    omega
  · show 0 + F 24 + F 25 + F 26 + F 27 + F 28 + F 29 + F 30 + F 31 + F 16 + F 17 + F 18 + F 19 + F 20 + F 21 + F 22 + F 23 + F 8 + F 9 + F 10 + F 11 + F 12 + F 13 + F 14 + F 15 + F 0 + F 1 + F 2 + F 3 + F 4 + F 5 + F 6 + F 7 = _
    omega
  · show 0 + F 25 + F 24 + F 27 + F 26 + F 29 + F 28 + F 31 + F 30 + F 17 + F 16 + F 19 + F 18 + F 21 + F 20 + F 23 + F 22 + F 9 + F 8 + F 11 + F 10 + F 13 + F 12 + F 15 + F 14 + F 1 + F 0 + F 3 + F 2 + F 5 + F 4 + F 7 + F 6 = _
    omega
  · show 0 + F 26 + F 27 + F 24 + F 25 + F 30 + F 31 + F 28 + F 29 + F 18 + F 19 + F 16 + F 17 + F 22 + F 23 + F 20 + F 21 + F 10 + F 11 + F 8 + F 9 + F 14 + F 15 + F 12 + F 13 + F 2 + F 3 + F 0 + F 1 + F 6 + F 7 + F 4 + F 5 = _
    omega
  · show 0 + F 27 + F 26 + F 25 + F 24 + F 31 + F 30 + F 29 + F 28 + F 19 + F 18 + F 17 + F 16 + F 23 + F 22 + F 21 + F 20 + F 11 + F 10 + F 9 + F 8 + F 15 + F 14 + F 13 + F 12 + F 3 + F 2 + F 1 + F 0 + F 7 + F 6 + F 5 + F 4 = _
    omega
  · show 0 + F 28 + F 29 + F 30 + F 31 + F 24 + F 25 + F 26 + F 27 + F 20 + F 21 + F 22 + F 23 + F 16 + F 17 + F 18 + F 19 + F 12 + F 13 + F 14 + F 15 + F 8 + F 9 + F 10 + F 11 + F 4 + F 5 + F 6 + F 7 + F 0 + F 1 + F 2 + F 3 = _
    omega
  · show 0 + F 29 + F 28 + F 31 + F 30 + F 25 + F 24 + F 27 + F 26 + F 21 + F 20 + F 23 + F 22 + F 17 + F 16 + F 19 + F 18 + F 13 + F 12 + F 15 + F 14 + F 9 + F 8 + F 11 + F 10 + F 5 + F 4 + F 7 + F 6 + F 1 + F 0 + F 3 + F 2 = _
    omega
  · show 0 + F 30 + F 31 + F 28 + F 29 + F 26 + F 27 + F 24 + F 25 + F 22 + F 23 + F 20 + F 21 + F 18 + F 19 + F 16 + F 17 + F 14 + F 15 + F 12 + F 13 + F 10 + F 11 + F 8 + F 9 + F 6 + F 7 + F 4 + F 5 + F 2 + F 3 + F 0 + F 1 = _
    omega
  · show 0 + F 31 + F 30 + F 29 + F 28 + F 27 + F 26 + F 25 + F 24 + F 23 + F 22 + F 21 + F 20 + F 19 + F 18 + F 17 + F 16 + F 15 + F 14 + F 13 + F 12 + F 11 + F 10 + F 9 + F 8 + F 7 + F 6 + F 5 + F 4 + F 3 + F 2 + F 1 + F 0 = _
    omega

def sp_wh (A : pk_St) (a : Nat) : Bool := !sp_any (fun q => sp_in A q && (!(sp_s A q == 0) && (sp_s A q &&& a == 0))) 48
def sp_tm (A : pk_St) (c f : Nat) : Nat := if (f &&& (31 - sp_inks A) == 0) && !sp_lg f (sp_sets A) then sp_pow c (sp_bits f) * sp_pow (10 - c) (sp_bits (sp_inks A) - sp_bits f) else 0
def sp_ti (A : pk_St) (c i : Nat) : Nat := if (i &&& (31 - sp_inks A) == 0) && sp_wh A i then sp_pa i (sp_inks A) c 5 else 0
theorem sp_odds_sm (A : pk_St) (c : Nat) : sp_oddsF A c 32 = sp_sm (sp_tm A c) 32 := by
  refine sp_fold_congr (fun f _ x => ?_)
  unfold sp_tm
  split
  · rfl
  · rfl
set_option maxRecDepth 100000 in
theorem sp_xo1 : ∀ I, I < 32 → ∀ i, i < 32 → (((I ^^^ i) &&& (31 - I) == 0) == (i &&& (31 - I) == 0)) = true := by decide +kernel
set_option maxRecDepth 100000 in
theorem sp_xo2 : ∀ I, I < 32 → ∀ i, i < 32 → (!(i &&& (31 - I) == 0) || sp_any (fun c => !(sp_pa i I c 5 == sp_pow c (sp_bits (I ^^^ i)) * sp_pow (10 - c) (sp_bits I - sp_bits (I ^^^ i)))) 11 == false) = true := by decide +kernel
set_option maxRecDepth 100000 in
theorem sp_xo3 : ∀ I, I < 32 → ∀ i, i < 32 → (!(i &&& (31 - I) == 0) || sp_any (fun s => !(!(s ||| I == I) || ((s &&& i == 0) == (s &&& (31 - (I ^^^ i)) == 0)))) 32 == false) = true := by decide +kernel
theorem sp_inks_or {A : pk_St} {q : Nat} (n : Nat) (h : q < n) : sp_s A q ||| sp_fold (fun q x => x ||| sp_s A q) 0 n = sp_fold (fun q x => x ||| sp_s A q) 0 n := by
  induction n with
  | zero => omega
  | succ n ih =>
    rw [sp_fold_succ]
    by_cases e : q = n
    · subst e
      rw [Nat.or_comm, Nat.or_assoc, Nat.or_self]
    · rw [← Nat.or_assoc, ih (by omega)]
theorem sp_any_f {f : Nat → Bool} {n j : Nat} (h : sp_any f n = false) (hj : j < n) : f j = false := by
  cases e : f j with
  | false => rfl
  | true => rw [sp_any_true hj e] at h; cases h
theorem sp_wh_lg {A : pk_St} (hA : pk_okS A) {i : Nat} (hi : i < 32) (hsub : (i &&& (31 - sp_inks A) == 0) = true) : sp_wh A i = !sp_lg (sp_inks A ^^^ i) (sp_sets A) := by
  have hI := sp_inks_lt hA 48 (by decide)
  change sp_inks A < 32 at hI
  have h3 := sp_xo3 _ hI i hi
  rw [hsub, Bool.not_true, Bool.false_or, beq_iff_eq] at h3
  unfold sp_wh sp_lg
  congr 1
  rw [← sp_any_drawn hA (fun s => !(s == 0) && (s &&& i == 0))]
  refine sp_any_congr (fun s hs => ?_)
  cases hd : (sp_sets A).testBit s with
  | false => rw [Bool.false_and, Bool.false_and, Bool.and_false]
  | true =>
    rw [sp_sets_bit, sp_any_iff] at hd
    obtain ⟨q, hq, h4⟩ := hd
    rw [Bool.and_eq_true, beq_iff_eq] at h4
    have h5 := sp_inks_or (A := A) 48 hq
    rw [h4.2] at h5
    have h6 := sp_any_f h3 hs
    rw [show (s ||| sp_inks A == sp_inks A) = true from beq_iff_eq.mpr h5, Bool.not_true, Bool.false_or] at h6
    have h7 : (s &&& i == 0) = (s &&& (31 - (sp_inks A ^^^ i)) == 0) := by simpa using h6
    rw [h7, Bool.true_and, Bool.true_and]
theorem sp_ti_eq {A : pk_St} (hA : pk_okS A) {c i : Nat} (hc : c ≤ 10) (hi : i < 32) : sp_ti A c i = sp_tm A c (sp_inks A ^^^ i) := by
  have hI := sp_inks_lt hA 48 (by decide)
  change sp_inks A < 32 at hI
  have h1 := beq_iff_eq.mp (sp_xo1 _ hI i hi)
  have h2 := sp_xo2 _ hI i hi
  unfold sp_ti sp_tm
  rw [h1]
  cases hs : (i &&& (31 - sp_inks A) == 0) with
  | false => rfl
  | true =>
    rw [hs, Bool.not_true, Bool.false_or, beq_iff_eq] at h2
    have h3 := sp_any_f h2 (j := c) (by omega)
    rw [sp_wh_lg hA hi hs, show sp_pa i (sp_inks A) c 5 = sp_pow c (sp_bits (sp_inks A ^^^ i)) * sp_pow (10 - c) (sp_bits (sp_inks A) - sp_bits (sp_inks A ^^^ i)) by simpa using h3]
theorem sp_odds_ti {A : pk_St} (hA : pk_okS A) {c : Nat} (hc : c ≤ 10) : sp_sm (sp_ti A c) 32 = sp_oddsF A c 32 := by
  have hI := sp_inks_lt hA 48 (by decide)
  change sp_inks A < 32 at hI
  rw [sp_odds_sm, ← sp_sm_xor (sp_tm A c) hI]
  exact sp_fold_congr (fun i hi x => by rw [sp_ti_eq hA hc hi])

set_option maxRecDepth 100000 in
set_option maxHeartbeats 4000000 in
theorem e_X7_ink {Γ : pk_T} {M : pk_M} {L : Nat} {X : pk_X} (hR : pk_RM L M X) (hX : pk_okX X) (i c : Int32) : pk_E Γ yX7_ink cX7_ink 3 (some .int) 5 0 0 M [.ref 103, .int i, .int c] (fun r M' => r = some (.int (op_ink X i c)) ∧ pk_mf M M' ∧ pk_RM L M' X) := by
  have hR0 := hR
  obtain ⟨hW, hA, hU, hK, hTp, hSh⟩ := hR0
  have hok := hX.1
  have hw := hok.1
  have hh := hok.2.1
  have hs := hok.2.2.2.2.2.2.2.1
  have hn6 := hX.2.1.1
  refine pk_meth (own := RX7) (ini := false) [some (.ref 103), some (.int i), some (.int c)] (by decide +kernel) rfl (by decide +kernel) rfl rfl ?_
  refine pk_iload_n dX7_ink_0 rfl ?_
  refine pk_Si dX7_ink_1 ml_X7_130 yw_X7_isInk ys_X7_isInk (e_X7_isInk _) rfl rfl rfl rfl rfl rfl rfl ?_
  first | refine pk_neb (tgt := 9) dX7_ink_4 (by decide) (fun c_4 => ?_) (fun c_4 => ?_) | refine pk_ne0N (tgt := 9) dX7_ink_4 (by decide) (by omega) (fun c_4 => ?_) (fun c_4 => ?_) | refine pk_if_ne (tgt := 9) dX7_ink_4 (by decide) (fun c_4 => ?_) (fun c_4 => ?_)
  · obtain ⟨i, hi, rfl⟩ := sp_b_of c_4 (by decide)
    have hp2 := pk_p2 hi
    rw [op_ink, if_neg (by rw [sp_b_n hi (by decide)]; decide), nI_clamp (by omega)]
    refine pk_iload_n dX7_ink_9 rfl ?_
    rcases pk_ix c (n := 5) (by decide) with c_10 | c_10 | ⟨j_10, hj_10, e_10⟩
    · refine pk_swOut (tgt := 88) dX7_ink_10 (Or.inl (pk_sw1 c_10)) (by decide) ?_
      refine pk_iconst (v := -1) dX7_ink_88 (by decide) ?_
      refine pk_reti dX7_ink_89 (by first | rfl | exact pk_nbi _) ?_
      rw [sp_sw_lo c_10]
      exact ⟨rfl, pk_ff.rf _ M, hR⟩
    · refine pk_swOut (tgt := 88) dX7_ink_10 (Or.inr (pk_sw2 (by decide) c_10)) (by decide) ?_
      refine pk_iconst (v := -1) dX7_ink_88 (by decide) ?_
      refine pk_reti dX7_ink_89 (by first | rfl | exact pk_nbi _) ?_
      rw [sp_sw_hi c_10]
      exact ⟨rfl, pk_ff.rf _ M, hR⟩
    · subst e_10
      obtain rfl | rfl | rfl | rfl | rfl : j_10 = 0 ∨ j_10 = 1 ∨ j_10 = 2 ∨ j_10 = 3 ∨ j_10 = 4 := by omega
      · refine pk_swIn (off := 34) (tgt := 44) dX7_ink_10 (by decide) (by decide) rfl (by decide) ?_
        refine pk_aload_n dX7_ink_44 rfl ?_
        refine pk_getP dX7_ink_45 fl_X7_7 rfl (hW.s rfl) (hW.p rfl) ?_
        refine pk_iconst (v := nI 4) dX7_ink_48 (by decide) ?_
        refine pk_iload_n dX7_ink_49 rfl ?_
        first | refine pk_addN dX7_ink_50 ?_ | refine pk_iadd dX7_ink_50 ?_
        refine pk_aldN dX7_ink_51 (hW.s rfl) (by omega) (by omega) (hA.k hi) ?_
        refine pk_reti dX7_ink_52 (by first | rfl | exact pk_nbi _) ?_
        rw [sp_sw_n (by decide) (by decide)]
        exact ⟨rfl, pk_ff.rf _ M, hR⟩
      · refine pk_swIn (off := 43) (tgt := 53) dX7_ink_10 (by decide) (by decide) rfl (by decide) ?_
        refine pk_aload_n dX7_ink_53 rfl ?_
        refine pk_getP dX7_ink_54 fl_X7_7 rfl (hW.s rfl) (hW.p rfl) ?_
        refine pk_bipush (v := nI 9) dX7_ink_57 (by decide) ?_
        refine pk_iload_n dX7_ink_59 rfl ?_
        first | refine pk_addN dX7_ink_60 ?_ | refine pk_iadd dX7_ink_60 ?_
        refine pk_aldN dX7_ink_61 (hW.s rfl) (by omega) (by omega) (hA.t hi) ?_
        refine pk_reti dX7_ink_62 (by first | rfl | exact pk_nbi _) ?_
        rw [sp_sw_n (by decide) (by decide)]
        exact ⟨rfl, pk_ff.rf _ M, hR⟩
      · refine pk_swIn (off := 53) (tgt := 63) dX7_ink_10 (by decide) (by decide) rfl (by decide) ?_
        refine pk_aload_n dX7_ink_63 rfl ?_
        refine pk_getP dX7_ink_64 fl_X7_7 rfl (hW.s rfl) (hW.p rfl) ?_
        refine pk_iconst (v := nI 3) dX7_ink_67 (by decide) ?_
        refine pk_aldN dX7_ink_68 (hW.s rfl) (by omega) (by omega) hA.o ?_
        refine pk_iload_n dX7_ink_69 rfl ?_
        refine pk_Si dX7_ink_70 ml_X7_133 yw_X7_rankIn ys_X7_rankIn (e_X7_rankIn hok hi) rfl rfl rfl rfl rfl rfl rfl ?_
        refine pk_reti dX7_ink_73 (by first | rfl | exact pk_nbi _) ?_
        rw [sp_sw_n (by decide) (by decide)]
        exact ⟨rfl, pk_ff.rf _ M, hR⟩
      · refine pk_swIn (off := 64) (tgt := 74) dX7_ink_10 (by decide) (by decide) rfl (by decide) ?_
        refine pk_aload_n dX7_ink_74 rfl ?_
        refine pk_iconst (v := nI 1) dX7_ink_75 (by decide) ?_
        refine pk_iload_n dX7_ink_76 rfl ?_
        first | refine pk_shlNN dX7_ink_77 (by omega) ?_ | refine pk_ishl dX7_ink_77 ?_
        refine pk_Vi dX7_ink_78 ml_X7_136 yw_X7_dark yv_X7_dark (hW.s rfl) (e_X7_dark ⟨hW, hA, hok⟩ (by omega)) rfl rfl rfl rfl rfl rfl rfl ?_
        refine pk_reti dX7_ink_81 (by first | rfl | exact pk_nbi _) ?_
        rw [sp_sw_n (by decide) (by decide)]
        exact ⟨rfl, pk_ff.rf _ M, hR⟩
      · refine pk_swIn (off := 72) (tgt := 82) dX7_ink_10 (by decide) (by decide) rfl (by decide) ?_
        refine pk_aload_n dX7_ink_82 rfl ?_
        refine pk_iload_n dX7_ink_83 rfl ?_
        refine pk_Vi dX7_ink_84 ml_X7_139 yw_X7_placesWith yv_X7_placesWith (hW.s rfl) (e_X7_placesWith ⟨hW, hA, hok⟩ (by omega)) rfl rfl rfl rfl rfl rfl rfl ?_
        refine pk_reti dX7_ink_87 (by first | rfl | exact pk_nbi _) ?_
        rw [sp_sw_n (by decide) (by decide)]
        exact ⟨rfl, pk_ff.rf _ M, hR⟩
  · refine pk_iconst (v := -1) dX7_ink_7 (by decide) ?_
    refine pk_reti dX7_ink_8 (by first | rfl | exact pk_nbi _) ?_
    rw [op_ink, if_pos c_4]
    exact ⟨rfl, pk_ff.rf _ M, hR⟩

set_option maxRecDepth 100000 in
set_option maxHeartbeats 4000000 in
theorem e_X7_set {Γ : pk_T} {M : pk_M} {L : Nat} {X : pk_X} (hR : pk_RM L M X) (hX : pk_okX X) (t c : Int32) : pk_E Γ yX7_set cX7_set 3 (some .int) 5 0 0 M [.ref 103, .int t, .int c] (fun r M' => r = some (.int (op_set X t c)) ∧ pk_mf M M' ∧ pk_RM L M' X) := by
  have hR0 := hR
  obtain ⟨hW, hA, hU, hK, hTp, hSh⟩ := hR0
  have hok := hX.1
  have hw := hok.1
  have hh := hok.2.1
  have hs := hok.2.2.2.2.2.2.2.1
  have hn6 := hX.2.1.1
  refine pk_meth (own := RX7) (ini := false) [some (.ref 103), some (.int t), some (.int c)] (by decide +kernel) rfl (by decide +kernel) rfl rfl ?_
  refine pk_iload_n dX7_set_0 rfl ?_
  refine pk_i2l dX7_set_1 ?_
  refine pk_Si dX7_set_2 ml_X7_142 yw_X7_isSet ys_X7_isSet (e_X7_isSet _) rfl rfl rfl rfl rfl rfl rfl ?_
  rw [pm_iss32]
  first | refine pk_neb (tgt := 10) dX7_set_5 (by decide) (fun c_5 => ?_) (fun c_5 => ?_) | refine pk_ne0N (tgt := 10) dX7_set_5 (by decide) (by omega) (fun c_5 => ?_) (fun c_5 => ?_) | refine pk_if_ne (tgt := 10) dX7_set_5 (by decide) (fun c_5 => ?_) (fun c_5 => ?_)
  · obtain ⟨t, ht, rfl⟩ := sp_b_of c_5 (by decide)
    rw [op_set, if_neg (by rw [sp_b_n ht (by decide)]; decide), nI_clamp (by omega)]
    refine pk_iload_n dX7_set_10 rfl ?_
    rcases pk_ix c (n := 4) (by decide) with c_11 | c_11 | ⟨j_11, hj_11, e_11⟩
    · refine pk_swOut (tgt := 64) dX7_set_11 (Or.inl (pk_sw1 c_11)) (by decide) ?_
      refine pk_iconst (v := -1) dX7_set_64 (by decide) ?_
      refine pk_reti dX7_set_65 (by first | rfl | exact pk_nbi _) ?_
      rw [sp_sw_lo c_11]
      exact ⟨rfl, pk_ff.rf _ M, hR⟩
    · refine pk_swOut (tgt := 64) dX7_set_11 (Or.inr (pk_sw2 (by decide) c_11)) (by decide) ?_
      refine pk_iconst (v := -1) dX7_set_64 (by decide) ?_
      refine pk_reti dX7_set_65 (by first | rfl | exact pk_nbi _) ?_
      rw [sp_sw_hi c_11]
      exact ⟨rfl, pk_ff.rf _ M, hR⟩
    · subst e_11
      obtain rfl | rfl | rfl | rfl : j_11 = 0 ∨ j_11 = 1 ∨ j_11 = 2 ∨ j_11 = 3 := by omega
      · refine pk_swIn (off := 29) (tgt := 40) dX7_set_11 (by decide) (by decide) rfl (by decide) ?_
        refine pk_aload_n dX7_set_40 rfl ?_
        refine pk_iload_n dX7_set_41 rfl ?_
        refine pk_Vi dX7_set_42 ml_X7_84 yw_X7_lookOf yv_X7_lookOf (hW.s rfl) (e_X7_lookOf ⟨hW, hA, hok⟩ (by omega)) rfl rfl rfl rfl rfl rfl rfl ?_
        refine pk_reti dX7_set_45 (by first | rfl | exact pk_nbi _) ?_
        rw [sp_sw_n (by decide) (by decide)]
        exact ⟨rfl, pk_ff.rf _ M, hR⟩
      · refine pk_swIn (off := 35) (tgt := 46) dX7_set_11 (by decide) (by decide) rfl (by decide) ?_
        refine pk_aload_n dX7_set_46 rfl ?_
        refine pk_iload_n dX7_set_47 rfl ?_
        refine pk_Vi dX7_set_48 ml_X7_136 yw_X7_dark yv_X7_dark (hW.s rfl) (e_X7_dark ⟨hW, hA, hok⟩ (by omega)) rfl rfl rfl rfl rfl rfl rfl ?_
        refine pk_reti dX7_set_51 (by first | rfl | exact pk_nbi _) ?_
        rw [sp_sw_n (by decide) (by decide)]
        exact ⟨rfl, pk_ff.rf _ M, hR⟩
      · refine pk_swIn (off := 41) (tgt := 52) dX7_set_11 (by decide) (by decide) rfl (by decide) ?_
        refine pk_aload_n dX7_set_52 rfl ?_
        refine pk_iload_n dX7_set_53 rfl ?_
        refine pk_Vi dX7_set_54 ml_X7_146 yw_X7_alike yv_X7_alike (hW.s rfl) (e_X7_alike ⟨hW, hA, hok⟩ (by omega)) rfl rfl rfl rfl rfl rfl rfl ?_
        refine pk_reti dX7_set_57 (by first | rfl | exact pk_nbi _) ?_
        rw [sp_sw_n (by decide) (by decide)]
        exact ⟨rfl, pk_ff.rf _ M, hR⟩
      · refine pk_swIn (off := 47) (tgt := 58) dX7_set_11 (by decide) (by decide) rfl (by decide) ?_
        refine pk_aload_n dX7_set_58 rfl ?_
        refine pk_iload_n dX7_set_59 rfl ?_
        refine pk_Vi dX7_set_60 ml_X7_149 yw_X7_placesOf yv_X7_placesOf (hW.s rfl) (e_X7_placesOf ⟨hW, hA, hok⟩ (by omega)) rfl rfl rfl rfl rfl rfl rfl ?_
        refine pk_reti dX7_set_63 (by first | rfl | exact pk_nbi _) ?_
        rw [sp_sw_n (by decide) (by decide)]
        exact ⟨rfl, pk_ff.rf _ M, hR⟩
  · refine pk_iconst (v := -1) dX7_set_8 (by decide) ?_
    refine pk_reti dX7_set_9 (by first | rfl | exact pk_nbi _) ?_
    rw [op_set, if_pos c_5]
    exact ⟨rfl, pk_ff.rf _ M, hR⟩

set_option maxRecDepth 100000 in
set_option maxHeartbeats 4000000 in
theorem e_X7_place {Γ : pk_T} {M : pk_M} {L : Nat} {X : pk_X} (hR : pk_RM L M X) (hX : pk_okX X) (x y c : Int32) : pk_E Γ yX7_place cX7_place 5 (some .int) 5 0 0 M [.ref 103, .int x, .int y, .int c] (fun r M' => r = some (.int (op_place X x y c)) ∧ pk_mf M M' ∧ pk_RM L M' X) := by
  have hR0 := hR
  obtain ⟨hW, hA, hU, hK, hTp, hSh⟩ := hR0
  have hok := hX.1
  have hw := hok.1
  have hh := hok.2.1
  have hs := hok.2.2.2.2.2.2.2.1
  have hn6 := hX.2.1.1
  refine pk_meth (own := RX7) (ini := false) [some (.ref 103), some (.int x), some (.int y), some (.int c), none] (by decide +kernel) rfl (by decide +kernel) rfl rfl ?_
  refine pk_aload_n dX7_place_0 rfl ?_
  refine pk_iload_n dX7_place_1 rfl ?_
  refine pk_iload_n dX7_place_2 rfl ?_
  refine pk_Vi dX7_place_3 ml_X7_65 yw_X7_isPlace yv_X7_isPlace (hW.s rfl) (e_X7_isPlace ⟨hW, hA, hok⟩ _ _) rfl rfl rfl rfl rfl rfl rfl ?_
  first | refine pk_eqb (tgt := 21) dX7_place_6 (by decide) (fun c_6 => ?_) (fun c_6 => ?_) | refine pk_eq0N (tgt := 21) dX7_place_6 (by decide) (by omega) (fun c_6 => ?_) (fun c_6 => ?_) | refine pk_if_eq (tgt := 21) dX7_place_6 (by decide) (fun c_6 => ?_) (fun c_6 => ?_)
  · refine pk_iconst (v := -1) dX7_place_21 (by decide) ?_
    refine pk_reti dX7_place_22 (by first | rfl | exact pk_nbi _) ?_
    rw [op_place, if_pos c_6]
    exact ⟨rfl, pk_ff.rf _ M, hR⟩
  · refine pk_iload_n dX7_place_9 rfl ?_
    refine pk_i2l dX7_place_10 ?_
    refine pk_lconst (v := 0) dX7_place_11 (by decide) ?_
    refine pk_ldc2 dX7_place_12 kc_X7_152 ?_
    refine pk_Si dX7_place_15 ml_X7_59 yw_X7_in ys_X7_in (e_X7_inB _ (N := 2) (by omega) (by decide)) rfl rfl rfl rfl rfl rfl rfl ?_
    first | refine pk_neb (tgt := 23) dX7_place_18 (by decide) (fun c_18 => ?_) (fun c_18 => ?_) | refine pk_ne0N (tgt := 23) dX7_place_18 (by decide) (by omega) (fun c_18 => ?_) (fun c_18 => ?_) | refine pk_if_ne (tgt := 23) dX7_place_18 (by decide) (fun c_18 => ?_) (fun c_18 => ?_)
    · obtain ⟨i, j, hi, hj, rfl, rfl⟩ := sp_inb_of hok c_6
      obtain ⟨c, hc, rfl⟩ := sp_b_of c_18 (by decide)
      have hin : sp_in X.1 (8 * j + i) = true := sp_in_of (by omega) (by omega)
      have hs32 := hs (8 * j + i) (by omega)
      rw [op_place, if_neg (by rw [c_6]; decide), nI_clamp (show i < 2 ^ 31 by omega), nI_clamp (show j < 2 ^ 31 by omega), sp_sw_n hc (by decide), Nat.mul_comm j 8]
      refine pk_bipush (v := nI 8) dX7_place_23 (by decide) ?_
      refine pk_iload_n dX7_place_25 rfl ?_
      first | refine pk_mulN dX7_place_26 ?_ | refine pk_imul dX7_place_26 ?_
      refine pk_iload_n dX7_place_27 rfl ?_
      first | refine pk_addN dX7_place_28 ?_ | refine pk_iadd dX7_place_28 ?_
      refine pk_istore dX7_place_29 rfl rfl ?_
      refine pk_iload_n dX7_place_31 rfl ?_
      refine pk_iconst (v := nI 2) dX7_place_32 (by decide) ?_
      first | refine pk_geN (tgt := 60) dX7_place_33 (by decide) (by omega) (by omega) (fun c_33 => ?_) (fun c_33 => ?_) | refine pk_icmp_ge (tgt := 60) dX7_place_33 (by decide) (fun c_33 => ?_) (fun c_33 => ?_)
      · refine pk_aload_n dX7_place_60 rfl ?_
        refine pk_Vir dX7_place_61 ml_X7_120 yw_X7_areas yv_X7_areas (hW.s rfl) (e_X7_areas ⟨hW, hA, hok⟩) rfl rfl rfl rfl rfl rfl rfl (fun M1 h1 => ?_)
        obtain ⟨hf1, har⟩ := h1
        obtain ⟨hmf, hRM⟩ := hf1.ms (fun q h => by unfold pm_scr; omega) hR
        replace hW := hRM.1
        replace hA := hRM.2.1
        have hml := sp_many_le X.1
        have hm0 : 0 < sp_many X.1 := by
          have h0 : sp_in X.1 0 = true := sp_in_of (by omega) (by omega)
          have := sp_num2_lt hok h0
          omega
        refine pk_pop dX7_place_64 rfl ?_
        refine pk_aload_n dX7_place_65 rfl ?_
        refine pk_iload dX7_place_66 rfl ?_
        refine pk_Vi dX7_place_68 ml_X7_154 yw_X7_areaOf yv_X7_areaOf (hW.s rfl) (e_X7_areaOf ⟨hW, hA, hok⟩ har hin) rfl rfl rfl rfl rfl rfl rfl ?_
        refine pk_reti dX7_place_71 (by first | rfl | exact pk_nbi _) ?_
        have e : c = 2 := by omega
        subst e
        exact ⟨rfl, hmf, hRM⟩
      · refine pk_iload_n dX7_place_36 rfl ?_
        refine pk_ne0N (tgt := 49) dX7_place_37 (by decide) (by omega) (fun c_37 => ?_) (fun c_37 => ?_)
        · refine pk_aload_n dX7_place_49 rfl ?_
          refine pk_aload_n dX7_place_50 rfl ?_
          refine pk_iload dX7_place_51 rfl ?_
          refine pk_Vi dX7_place_53 ml_X7_92 yw_X7_setAt yv_X7_setAt (hW.s rfl) (e_X7_setAt ⟨hW, hA, hok⟩ (by omega)) rfl rfl rfl rfl rfl rfl rfl ?_
          refine pk_Vi dX7_place_56 ml_X7_84 yw_X7_lookOf yv_X7_lookOf (hW.s rfl) (e_X7_lookOf ⟨hW, hA, hok⟩ (by omega)) rfl rfl rfl rfl rfl rfl rfl ?_
          refine pk_reti dX7_place_59 (by first | rfl | exact pk_nbi _) ?_
          have e : c = 1 := by omega
          subst e
          exact ⟨rfl, pk_ff.rf _ M, hR⟩
        · refine pk_aload_n dX7_place_40 rfl ?_
          refine pk_iload dX7_place_41 rfl ?_
          refine pk_Vi dX7_place_43 ml_X7_92 yw_X7_setAt yv_X7_setAt (hW.s rfl) (e_X7_setAt ⟨hW, hA, hok⟩ (by omega)) rfl rfl rfl rfl rfl rfl rfl ?_
          refine pk_goto (tgt := 59) dX7_place_46 (by decide) ?_
          refine pk_reti dX7_place_59 (by first | rfl | exact pk_nbi _) ?_
          have e : c = 0 := c_37
          subst e
          exact ⟨rfl, pk_ff.rf _ M, hR⟩
    · refine pk_iconst (v := -1) dX7_place_21 (by decide) ?_
      refine pk_reti dX7_place_22 (by first | rfl | exact pk_nbi _) ?_
      rw [op_place, if_neg (by rw [c_6]; decide), show sp_sw c 3 = none by unfold sp_sw; rw [c_18]; rfl]
      exact ⟨rfl, pk_ff.rf _ M, hR⟩

set_option maxRecDepth 100000 in
set_option maxHeartbeats 4000000 in
theorem e_X7_area {Γ : pk_T} {M : pk_M} {L : Nat} {X : pk_X} (hR : pk_RM L M X) (hX : pk_okX X) (a c : Int32) : pk_E Γ yX7_area cX7_area 4 (some .int) 6 0 0 M [.ref 103, .int a, .int c] (fun r M' => r = some (.int (op_area X a c)) ∧ pk_mf M M' ∧ pk_RM L M' X) := by
  have hR0 := hR
  obtain ⟨hW, hA, hU, hK, hTp, hSh⟩ := hR0
  have hok := hX.1
  have hw := hok.1
  have hh := hok.2.1
  have hs := hok.2.2.2.2.2.2.2.1
  have hn6 := hX.2.1.1
  refine pk_meth (own := RX7) (ini := false) [some (.ref 103), some (.int a), some (.int c), none] (by decide +kernel) rfl (by decide +kernel) rfl rfl ?_
  refine pk_aload_n dX7_area_0 rfl ?_
  refine pk_Vir dX7_area_1 ml_X7_120 yw_X7_areas yv_X7_areas (hW.s rfl) (e_X7_areas ⟨hW, hA, hok⟩) rfl rfl rfl rfl rfl rfl rfl (fun M1 h1 => ?_)
  obtain ⟨hf1, har⟩ := h1
  obtain ⟨hmf, hRM⟩ := hf1.ms (fun q h => by unfold pm_scr; omega) hR
  replace hW := hRM.1
  replace hA := hRM.2.1
  have hml := sp_many_le X.1
  have hm0 : 0 < sp_many X.1 := by
    have h0 : sp_in X.1 0 = true := sp_in_of (by omega) (by omega)
    have := sp_num2_lt hok h0
    omega
  refine pk_istore_n dX7_area_4 rfl rfl ?_
  refine pk_iload_n dX7_area_5 rfl ?_
  refine pk_i2l dX7_area_6 ?_
  refine pk_lconst (v := 0) dX7_area_7 (by decide) ?_
  refine pk_iload_n dX7_area_8 rfl ?_
  refine pk_iconst (v := nI 1) dX7_area_9 (by decide) ?_
  first | refine pk_subN dX7_area_10 (by omega) ?_ | refine pk_isub dX7_area_10 ?_
  refine pk_i2l dX7_area_11 ?_
  refine pk_Si dX7_area_12 ml_X7_59 yw_X7_in ys_X7_in (e_X7_inB _ (N := sp_many X.1 - 1) (by omega) rfl) rfl rfl rfl rfl rfl rfl rfl ?_
  rw [show sp_many X.1 - 1 + 1 = sp_many X.1 by omega]
  first | refine pk_neb (tgt := 20) dX7_area_15 (by decide) (fun c_15 => ?_) (fun c_15 => ?_) | refine pk_ne0N (tgt := 20) dX7_area_15 (by decide) (by omega) (fun c_15 => ?_) (fun c_15 => ?_) | refine pk_if_ne (tgt := 20) dX7_area_15 (by decide) (fun c_15 => ?_) (fun c_15 => ?_)
  · obtain ⟨a, ha, rfl⟩ := sp_b_of c_15 (by omega)
    have hrl := (sp_ro_lt hok ha).2
    rw [op_area, if_neg (by rw [sp_b_n ha (by omega)]; decide), nI_clamp (show a < 2 ^ 31 by omega)]
    refine pk_iload_n dX7_area_20 rfl ?_
    rcases pk_ix c (n := 6) (by decide) with c_21 | c_21 | ⟨j_21, hj_21, e_21⟩
    · refine pk_swOut (tgt := 111) dX7_area_21 (Or.inl (pk_sw1 c_21)) (by decide) ?_
      refine pk_iconst (v := -1) dX7_area_111 (by decide) ?_
      refine pk_reti dX7_area_112 (by first | rfl | exact pk_nbi _) ?_
      rw [sp_sw_lo c_21]
      exact ⟨rfl, hmf, hRM⟩
    · refine pk_swOut (tgt := 111) dX7_area_21 (Or.inr (pk_sw2 (by decide) c_21)) (by decide) ?_
      refine pk_iconst (v := -1) dX7_area_111 (by decide) ?_
      refine pk_reti dX7_area_112 (by first | rfl | exact pk_nbi _) ?_
      rw [sp_sw_hi c_21]
      exact ⟨rfl, hmf, hRM⟩
    · subst e_21
      obtain rfl | rfl | rfl | rfl | rfl | rfl : j_21 = 0 ∨ j_21 = 1 ∨ j_21 = 2 ∨ j_21 = 3 ∨ j_21 = 4 ∨ j_21 = 5 := by omega
      · refine pk_swIn (off := 39) (tgt := 60) dX7_area_21 (by decide) (by decide) rfl (by decide) ?_
        refine pk_aload_n dX7_area_60 rfl ?_
        refine pk_aload_n dX7_area_61 rfl ?_
        refine pk_getP dX7_area_62 fl_X7_19 rfl (hW.s rfl) (hW.p rfl) ?_
        refine pk_iload_n dX7_area_65 rfl ?_
        refine pk_aldN dX7_area_66 (hW.s rfl) (by omega) (by omega) (har.ro ha) ?_
        refine pk_Vi dX7_area_67 ml_X7_92 yw_X7_setAt yv_X7_setAt (hW.s rfl) (e_X7_setAt ⟨hW, hA, hok⟩ (by omega)) rfl rfl rfl rfl rfl rfl rfl ?_
        refine pk_reti dX7_area_70 (by first | rfl | exact pk_nbi _) ?_
        rw [sp_sw_n (by decide) (by decide)]
        exact ⟨rfl, hmf, hRM⟩
      · refine pk_swIn (off := 50) (tgt := 71) dX7_area_21 (by decide) (by decide) rfl (by decide) ?_
        refine pk_aload_n dX7_area_71 rfl ?_
        refine pk_iload_n dX7_area_72 rfl ?_
        refine pk_Vi dX7_area_73 ml_X7_117 yw_X7_placesOfArea yv_X7_placesOfArea (hW.s rfl) (e_X7_placesOfArea ⟨hW, hA, hok⟩ har (by omega)) rfl rfl rfl rfl rfl rfl rfl ?_
        refine pk_reti dX7_area_76 (by first | rfl | exact pk_nbi _) ?_
        rw [sp_sw_n (by decide) (by decide)]
        exact ⟨rfl, hmf, hRM⟩
      · refine pk_swIn (off := 56) (tgt := 77) dX7_area_21 (by decide) (by decide) rfl (by decide) ?_
        refine pk_aload_n dX7_area_77 rfl ?_
        refine pk_iload_n dX7_area_78 rfl ?_
        refine pk_iload_n dX7_area_79 rfl ?_
        refine pk_Vi dX7_area_80 ml_X7_124 yw_X7_neighbours yv_X7_neighbours (hW.s rfl) (e_X7_neighbours ⟨hW, hA, hok⟩ har ha) rfl rfl rfl rfl rfl rfl rfl ?_
        refine pk_reti dX7_area_83 (by first | rfl | exact pk_nbi _) ?_
        rw [sp_sw_n (by decide) (by decide)]
        exact ⟨rfl, hmf, hRM⟩
      · refine pk_swIn (off := 63) (tgt := 84) dX7_area_21 (by decide) (by decide) rfl (by decide) ?_
        refine pk_aload_n dX7_area_84 rfl ?_
        refine pk_getP dX7_area_85 fl_X7_19 rfl (hW.s rfl) (hW.p rfl) ?_
        refine pk_iload_n dX7_area_88 rfl ?_
        refine pk_aldN dX7_area_89 (hW.s rfl) (by omega) (by omega) (har.ro ha) ?_
        refine pk_bipush (v := nI 8) dX7_area_90 (by decide) ?_
        first | refine pk_remN dX7_area_92 (by omega) (by omega) (by omega) ?_ | refine pk_irem dX7_area_92 (by first | assumption | decide) ?_
        refine pk_reti dX7_area_93 (by first | rfl | exact pk_nbi _) ?_
        rw [sp_sw_n (by decide) (by decide)]
        exact ⟨rfl, hmf, hRM⟩
      · refine pk_swIn (off := 73) (tgt := 94) dX7_area_21 (by decide) (by decide) rfl (by decide) ?_
        refine pk_aload_n dX7_area_94 rfl ?_
        refine pk_getP dX7_area_95 fl_X7_19 rfl (hW.s rfl) (hW.p rfl) ?_
        refine pk_iload_n dX7_area_98 rfl ?_
        refine pk_aldN dX7_area_99 (hW.s rfl) (by omega) (by omega) (har.ro ha) ?_
        refine pk_bipush (v := nI 8) dX7_area_100 (by decide) ?_
        first | refine pk_divN dX7_area_102 (by omega) (by omega) (by omega) ?_ | refine pk_idiv dX7_area_102 (by first | assumption | decide) ?_
        refine pk_reti dX7_area_103 (by first | rfl | exact pk_nbi _) ?_
        rw [sp_sw_n (by decide) (by decide)]
        exact ⟨rfl, hmf, hRM⟩
      · refine pk_swIn (off := 83) (tgt := 104) dX7_area_21 (by decide) (by decide) rfl (by decide) ?_
        refine pk_aload_n dX7_area_104 rfl ?_
        refine pk_iload_n dX7_area_105 rfl ?_
        refine pk_iload_n dX7_area_106 rfl ?_
        refine pk_Vi dX7_area_107 ml_X7_127 yw_X7_greater yv_X7_greater (hW.s rfl) (e_X7_greater ⟨hW, hA, hok⟩ har ha) rfl rfl rfl rfl rfl rfl rfl ?_
        refine pk_reti dX7_area_110 (by first | rfl | exact pk_nbi _) ?_
        rw [sp_sw_n (by decide) (by decide)]
        exact ⟨rfl, hmf, hRM⟩
  · refine pk_iconst (v := -1) dX7_area_18 (by decide) ?_
    refine pk_reti dX7_area_19 (by first | rfl | exact pk_nbi _) ?_
    rw [op_area, if_pos c_15]
    exact ⟨rfl, hmf, hRM⟩

set_option maxRecDepth 100000 in
set_option maxHeartbeats 4000000 in
theorem e_X7_gaps {Γ : pk_T} {M : pk_M} {L : Nat} {X : pk_X} (hR : pk_RM L M X) (hX : pk_okX X) (k dx dy : Int32) : pk_E Γ yX7_gaps cX7_gaps 4 (some .int) 4 0 0 M [.ref 103, .int k, .int dx, .int dy] (fun r M' => r = some (.int (op_gaps X k dx dy)) ∧ pk_mf M M' ∧ pk_RM L M' X) := by
  have hR0 := hR
  obtain ⟨hW, hA, hU, hK, hTp, hSh⟩ := hR0
  have hok := hX.1
  have hw := hok.1
  have hh := hok.2.1
  have hs := hok.2.2.2.2.2.2.2.1
  have hn6 := hX.2.1.1
  refine pk_meth (own := RX7) (ini := false) [some (.ref 103), some (.int k), some (.int dx), some (.int dy)] (by decide +kernel) rfl (by decide +kernel) rfl rfl ?_
  refine pk_iload_n dX7_gaps_0 rfl ?_
  refine pk_iload_n dX7_gaps_1 rfl ?_
  refine pk_iload_n dX7_gaps_2 rfl ?_
  refine pk_Si dX7_gaps_3 ml_X7_162 yw_X7_isAside ys_X7_isAside (e_X7_isAside _ _ _) rfl rfl rfl rfl rfl rfl rfl ?_
  first | refine pk_eqb (tgt := 19) dX7_gaps_6 (by decide) (fun c_6 => ?_) (fun c_6 => ?_) | refine pk_eq0N (tgt := 19) dX7_gaps_6 (by decide) (by omega) (fun c_6 => ?_) (fun c_6 => ?_) | refine pk_if_eq (tgt := 19) dX7_gaps_6 (by decide) (fun c_6 => ?_) (fun c_6 => ?_)
  · refine pk_iconst (v := -1) dX7_gaps_19 (by decide) ?_
    refine pk_reti dX7_gaps_20 (by first | rfl | exact pk_nbi _) ?_
    rw [op_gaps, if_pos c_6]
    exact ⟨rfl, pk_ff.rf _ M, hR⟩
  · have c6 := c_6
    rw [Bool.and_eq_true] at c6
    obtain ⟨k, hk, rfl⟩ := sp_b_of c6.1 (by decide)
    rw [op_gaps, if_neg (by rw [c_6]; decide), nI_clamp (by omega)]
    refine pk_aload_n dX7_gaps_9 rfl ?_
    refine pk_iload_n dX7_gaps_10 rfl ?_
    refine pk_iload_n dX7_gaps_11 rfl ?_
    refine pk_iload_n dX7_gaps_12 rfl ?_
    refine pk_Vi dX7_gaps_13 ml_X7_166 yw_X7_gapsBy yv_X7_gapsBy (hW.s rfl) (e_X7_gapsBy ⟨hW, hA, hok⟩ hk _ _) rfl rfl rfl rfl rfl rfl rfl ?_
    refine pk_goto (tgt := 20) dX7_gaps_16 (by decide) ?_
    refine pk_reti dX7_gaps_20 (by first | rfl | exact pk_nbi _) ?_
    exact ⟨rfl, pk_ff.rf _ M, hR⟩

set_option maxRecDepth 100000 in
set_option maxHeartbeats 4000000 in
theorem e_X7_aside {Γ : pk_T} {M : pk_M} {L : Nat} {X : pk_X} (hR : pk_RM L M X) (hX : pk_okX X) (k dx dy x y : Int32) : pk_E Γ yX7_aside cX7_aside 6 (some .int) 4 0 0 M [.ref 103, .int k, .int dx, .int dy, .int x, .int y] (fun r M' => r = some (.int (op_aside X k dx dy x y)) ∧ pk_mf M M' ∧ pk_RM L M' X) := by
  have hR0 := hR
  obtain ⟨hW, hA, hU, hK, hTp, hSh⟩ := hR0
  have hok := hX.1
  have hw := hok.1
  have hh := hok.2.1
  have hs := hok.2.2.2.2.2.2.2.1
  have hn6 := hX.2.1.1
  refine pk_meth (own := RX7) (ini := false) [some (.ref 103), some (.int k), some (.int dx), some (.int dy), some (.int x), some (.int y)] (by decide +kernel) rfl (by decide +kernel) rfl rfl ?_
  refine pk_iload_n dX7_aside_0 rfl ?_
  refine pk_iload_n dX7_aside_1 rfl ?_
  refine pk_iload_n dX7_aside_2 rfl ?_
  refine pk_Si dX7_aside_3 ml_X7_162 yw_X7_isAside ys_X7_isAside (e_X7_isAside _ _ _) rfl rfl rfl rfl rfl rfl rfl ?_
  first | refine pk_eqb (tgt := 38) dX7_aside_6 (by decide) (fun c_6 => ?_) (fun c_6 => ?_) | refine pk_eq0N (tgt := 38) dX7_aside_6 (by decide) (by omega) (fun c_6 => ?_) (fun c_6 => ?_) | refine pk_if_eq (tgt := 38) dX7_aside_6 (by decide) (fun c_6 => ?_) (fun c_6 => ?_)
  · refine pk_iconst (v := -1) dX7_aside_38 (by decide) ?_
    refine pk_reti dX7_aside_39 (by first | rfl | exact pk_nbi _) ?_
    rw [op_aside, if_pos (by rw [c_6, Bool.false_and])]
    exact ⟨rfl, pk_ff.rf _ M, hR⟩
  · refine pk_aload_n dX7_aside_9 rfl ?_
    refine pk_iload dX7_aside_10 rfl ?_
    refine pk_iload dX7_aside_12 rfl ?_
    refine pk_Vi dX7_aside_14 ml_X7_65 yw_X7_isPlace yv_X7_isPlace (hW.s rfl) (e_X7_isPlace ⟨hW, hA, hok⟩ _ _) rfl rfl rfl rfl rfl rfl rfl ?_
    first | refine pk_eqb (tgt := 38) dX7_aside_17 (by decide) (fun c_17 => ?_) (fun c_17 => ?_) | refine pk_eq0N (tgt := 38) dX7_aside_17 (by decide) (by omega) (fun c_17 => ?_) (fun c_17 => ?_) | refine pk_if_eq (tgt := 38) dX7_aside_17 (by decide) (fun c_17 => ?_) (fun c_17 => ?_)
    · refine pk_iconst (v := -1) dX7_aside_38 (by decide) ?_
      refine pk_reti dX7_aside_39 (by first | rfl | exact pk_nbi _) ?_
      rw [op_aside, if_pos (by rw [c_17, Bool.and_false])]
      exact ⟨rfl, pk_ff.rf _ M, hR⟩
    · have c6 := c_6
      rw [Bool.and_eq_true] at c6
      obtain ⟨k, hk, rfl⟩ := sp_b_of c6.1 (by decide)
      rw [op_aside, if_neg (by rw [c_6, c_17]; decide), nI_clamp (by omega)]
      obtain ⟨i, j, hi, hj, ex, ey⟩ := sp_inb_of hok c_17
      subst ex
      subst ey
      have hin : sp_in X.1 (8 * j + i) = true := sp_in_of (by omega) (by omega)
      refine pk_aload_n dX7_aside_20 rfl ?_
      refine pk_iload_n dX7_aside_21 rfl ?_
      refine pk_iload_n dX7_aside_22 rfl ?_
      refine pk_iload_n dX7_aside_23 rfl ?_
      refine pk_bipush (v := nI 8) dX7_aside_24 (by decide) ?_
      refine pk_iload dX7_aside_26 rfl ?_
      first | refine pk_mulN dX7_aside_28 ?_ | refine pk_imul dX7_aside_28 ?_
      refine pk_iload dX7_aside_29 rfl ?_
      first | refine pk_addN dX7_aside_31 ?_ | refine pk_iadd dX7_aside_31 ?_
      refine pk_Vi dX7_aside_32 ml_X7_157 yw_X7_printed yv_X7_printed (hW.s rfl) (e_X7_printed ⟨hW, hA, hok⟩ hk hin _ _) rfl rfl rfl rfl rfl rfl rfl ?_
      refine pk_goto (tgt := 39) dX7_aside_35 (by decide) ?_
      refine pk_reti dX7_aside_39 (by first | rfl | exact pk_nbi _) ?_
      rw [show (8 * j + i) % 8 = i by omega, show (8 * j + i) / 8 = j by omega]
      exact ⟨rfl, pk_ff.rf _ M, hR⟩

set_option maxRecDepth 100000 in
set_option maxHeartbeats 4000000 in
theorem e_X7_count {Γ : pk_T} {M : pk_M} {L : Nat} {X : pk_X} (hR : pk_RM L M X) (hX : pk_okX X) (c : Int32) : pk_E Γ yX7_count cX7_count 2 (some .int) 6 0 0 M [.ref 103, .int c] (fun r M' => r = some (.int (op_count X c)) ∧ pk_mf M M' ∧ pk_RM L M' X) := by
  have hR0 := hR
  obtain ⟨hW, hA, hU, hK, hTp, hSh⟩ := hR0
  have hok := hX.1
  have hw := hok.1
  have hh := hok.2.1
  have hs := hok.2.2.2.2.2.2.2.1
  have hn6 := hX.2.1.1
  refine pk_meth (own := RX7) (ini := false) [some (.ref 103), some (.int c)] (by decide +kernel) rfl (by decide +kernel) rfl rfl ?_
  refine pk_aload_n dX7_count_0 rfl ?_
  refine pk_Vvr dX7_count_1 ml_X7_178 yw_X7_looksOfAll yv_X7_looksOfAll (hW.s rfl) (e_X7_looksOfAll ⟨hW, hA, hok⟩) rfl rfl rfl rfl rfl rfl rfl (fun M1 h1 => ?_)
  obtain ⟨hf1, hL⟩ := h1
  obtain ⟨hmf, hRM⟩ := hf1.ms (fun q h => by unfold pm_scr; omega) hR
  replace hW := hRM.1
  replace hA := hRM.2.1
  replace hU := hRM.2.2.1
  refine pk_iload_n dX7_count_4 rfl ?_
  rcases pk_ix c (n := 13) (by decide) with c_5 | c_5 | ⟨j_5, hj_5, e_5⟩
  · refine pk_swOut (tgt := 141) dX7_count_5 (Or.inl (pk_sw1 c_5)) (by decide) ?_
    refine pk_iconst (v := -1) dX7_count_141 (by decide) ?_
    refine pk_reti dX7_count_142 (by first | rfl | exact pk_nbi _) ?_
    unfold op_count
    rw [sp_sw_lo c_5]
    exact ⟨rfl, hmf, hRM⟩
  · refine pk_swOut (tgt := 141) dX7_count_5 (Or.inr (pk_sw2 (by decide) c_5)) (by decide) ?_
    refine pk_iconst (v := -1) dX7_count_141 (by decide) ?_
    refine pk_reti dX7_count_142 (by first | rfl | exact pk_nbi _) ?_
    unfold op_count
    rw [sp_sw_hi c_5]
    exact ⟨rfl, hmf, hRM⟩
  · subst e_5
    obtain rfl | rfl | rfl | rfl | rfl | rfl | rfl | rfl | rfl | rfl | rfl | rfl | rfl : j_5 = 0 ∨ j_5 = 1 ∨ j_5 = 2 ∨ j_5 = 3 ∨ j_5 = 4 ∨ j_5 = 5 ∨ j_5 = 6 ∨ j_5 = 7 ∨ j_5 = 8 ∨ j_5 = 9 ∨ j_5 = 10 ∨ j_5 = 11 ∨ j_5 = 12 := by omega
    · refine pk_swIn (off := 67) (tgt := 72) dX7_count_5 (by decide) (by decide) rfl (by decide) ?_
      refine pk_aload_n dX7_count_72 rfl ?_
      refine pk_getP dX7_count_73 fl_X7_7 rfl (hW.s rfl) (hW.p rfl) ?_
      refine pk_iconst (v := nI 0) dX7_count_76 (by decide) ?_
      refine pk_aldN dX7_count_77 (hW.s rfl) (by omega) (by omega) hA.w ?_
      refine pk_reti dX7_count_78 (by first | rfl | exact pk_nbi _) ?_
      unfold op_count
      rw [sp_sw_n (by decide) (by decide)]
      exact ⟨rfl, hmf, hRM⟩
    · refine pk_swIn (off := 74) (tgt := 79) dX7_count_5 (by decide) (by decide) rfl (by decide) ?_
      refine pk_aload_n dX7_count_79 rfl ?_
      refine pk_getP dX7_count_80 fl_X7_7 rfl (hW.s rfl) (hW.p rfl) ?_
      refine pk_iconst (v := nI 1) dX7_count_83 (by decide) ?_
      refine pk_aldN dX7_count_84 (hW.s rfl) (by omega) (by omega) hA.h ?_
      refine pk_reti dX7_count_85 (by first | rfl | exact pk_nbi _) ?_
      unfold op_count
      rw [sp_sw_n (by decide) (by decide)]
      exact ⟨rfl, hmf, hRM⟩
    · refine pk_swIn (off := 81) (tgt := 86) dX7_count_5 (by decide) (by decide) rfl (by decide) ?_
      refine pk_aload_n dX7_count_86 rfl ?_
      refine pk_getP dX7_count_87 fl_X7_7 rfl (hW.s rfl) (hW.p rfl) ?_
      refine pk_iconst (v := nI 3) dX7_count_90 (by decide) ?_
      refine pk_aldN dX7_count_91 (hW.s rfl) (by omega) (by omega) hA.o ?_
      refine pk_reti dX7_count_92 (by first | rfl | exact pk_nbi _) ?_
      unfold op_count
      rw [sp_sw_n (by decide) (by decide)]
      exact ⟨rfl, hmf, hRM⟩
    · refine pk_swIn (off := 88) (tgt := 93) dX7_count_5 (by decide) (by decide) rfl (by decide) ?_
      refine pk_aload_n dX7_count_93 rfl ?_
      refine pk_Vir dX7_count_94 ml_X7_120 yw_X7_areas yv_X7_areas (hW.s rfl) (e_X7_areas ⟨hW, hA, hok⟩) rfl rfl rfl rfl rfl rfl rfl (fun M2 h2 => ?_)
      obtain ⟨hf2, har⟩ := h2
      obtain ⟨hmf2, hRM2⟩ := hf2.ms (fun q h => by unfold pm_scr; omega) hRM
      refine pk_reti dX7_count_97 (by first | rfl | exact pk_nbi _) ?_
      rw [op_count, sp_sw_n (by decide) (by decide)]
      exact ⟨rfl, hmf.tr hmf2, hRM2⟩
    · refine pk_swIn (off := 93) (tgt := 98) dX7_count_5 (by decide) (by decide) rfl (by decide) ?_
      refine pk_aload_n dX7_count_98 rfl ?_
      refine pk_Vi dX7_count_99 ml_X7_181 yw_X7_unlike yv_X7_unlike (hW.s rfl) (e_X7_unlike ⟨hW, hA, hok⟩ hL) rfl rfl rfl rfl rfl rfl rfl ?_
      refine pk_reti dX7_count_102 (by first | rfl | exact pk_nbi _) ?_
      unfold op_count
      rw [sp_sw_n (by decide) (by decide)]
      exact ⟨rfl, hmf, hRM⟩
    · refine pk_swIn (off := 98) (tgt := 103) dX7_count_5 (by decide) (by decide) rfl (by decide) ?_
      refine pk_aload_n dX7_count_103 rfl ?_
      refine pk_Vi dX7_count_104 ml_X7_184 yw_X7_few yv_X7_few (hW.s rfl) (e_X7_few ⟨hW, hA, hok⟩ hL) rfl rfl rfl rfl rfl rfl rfl ?_
      refine pk_reti dX7_count_107 (by first | rfl | exact pk_nbi _) ?_
      unfold op_count
      rw [sp_sw_n (by decide) (by decide)]
      exact ⟨rfl, hmf, hRM⟩
    · refine pk_swIn (off := 103) (tgt := 108) dX7_count_5 (by decide) (by decide) rfl (by decide) ?_
      refine pk_aload_n dX7_count_108 rfl ?_
      refine pk_iload_n dX7_count_109 rfl ?_
      refine pk_bipush (v := nI 6) dX7_count_110 (by decide) ?_
      first | refine pk_subN dX7_count_112 (by omega) ?_ | refine pk_isub dX7_count_112 ?_
      refine pk_Vi dX7_count_113 ml_X7_187 yw_X7_worst yv_X7_worst (hW.s rfl) (e_X7_worst ⟨hW, hA, hok⟩ (by omega)) rfl rfl rfl rfl rfl rfl rfl ?_
      refine pk_reti dX7_count_116 (by first | rfl | exact pk_nbi _) ?_
      unfold op_count
      rw [sp_sw_n (by decide) (by decide)]
      exact ⟨rfl, hmf, hRM⟩
    · refine pk_swIn (off := 103) (tgt := 108) dX7_count_5 (by decide) (by decide) rfl (by decide) ?_
      refine pk_aload_n dX7_count_108 rfl ?_
      refine pk_iload_n dX7_count_109 rfl ?_
      refine pk_bipush (v := nI 6) dX7_count_110 (by decide) ?_
      first | refine pk_subN dX7_count_112 (by omega) ?_ | refine pk_isub dX7_count_112 ?_
      refine pk_Vi dX7_count_113 ml_X7_187 yw_X7_worst yv_X7_worst (hW.s rfl) (e_X7_worst ⟨hW, hA, hok⟩ (by omega)) rfl rfl rfl rfl rfl rfl rfl ?_
      refine pk_reti dX7_count_116 (by first | rfl | exact pk_nbi _) ?_
      unfold op_count
      rw [sp_sw_n (by decide) (by decide)]
      exact ⟨rfl, hmf, hRM⟩
    · refine pk_swIn (off := 112) (tgt := 117) dX7_count_5 (by decide) (by decide) rfl (by decide) ?_
      refine pk_aload_n dX7_count_117 rfl ?_
      refine pk_iload_n dX7_count_118 rfl ?_
      refine pk_bipush (v := nI 8) dX7_count_119 (by decide) ?_
      first | refine pk_subN dX7_count_121 (by omega) ?_ | refine pk_isub dX7_count_121 ?_
      refine pk_Vi dX7_count_122 ml_X7_190 yw_X7_orders yv_X7_orders (hW.s rfl) (e_X7_orders ⟨hW, hA, hok⟩ hL (by omega)) rfl rfl rfl rfl rfl rfl rfl ?_
      refine pk_reti dX7_count_125 (by first | rfl | exact pk_nbi _) ?_
      unfold op_count
      rw [sp_sw_n (by decide) (by decide)]
      exact ⟨rfl, hmf, hRM⟩
    · refine pk_swIn (off := 112) (tgt := 117) dX7_count_5 (by decide) (by decide) rfl (by decide) ?_
      refine pk_aload_n dX7_count_117 rfl ?_
      refine pk_iload_n dX7_count_118 rfl ?_
      refine pk_bipush (v := nI 8) dX7_count_119 (by decide) ?_
      first | refine pk_subN dX7_count_121 (by omega) ?_ | refine pk_isub dX7_count_121 ?_
      refine pk_Vi dX7_count_122 ml_X7_190 yw_X7_orders yv_X7_orders (hW.s rfl) (e_X7_orders ⟨hW, hA, hok⟩ hL (by omega)) rfl rfl rfl rfl rfl rfl rfl ?_
      refine pk_reti dX7_count_125 (by first | rfl | exact pk_nbi _) ?_
      unfold op_count
      rw [sp_sw_n (by decide) (by decide)]
      exact ⟨rfl, hmf, hRM⟩
    · refine pk_swIn (off := 121) (tgt := 126) dX7_count_5 (by decide) (by decide) rfl (by decide) ?_
      refine pk_aload_n dX7_count_126 rfl ?_
      refine pk_Vi dX7_count_127 ml_X7_193 yw_X7_byDark yv_X7_byDark (hW.s rfl) (e_X7_byDark ⟨hW, hA, hok⟩) rfl rfl rfl rfl rfl rfl rfl ?_
      refine pk_reti dX7_count_130 (by first | rfl | exact pk_nbi _) ?_
      unfold op_count
      rw [sp_sw_n (by decide) (by decide)]
      exact ⟨rfl, hmf, hRM⟩
    · refine pk_swIn (off := 126) (tgt := 131) dX7_count_5 (by decide) (by decide) rfl (by decide) ?_
      refine pk_aload_n dX7_count_131 rfl ?_
      refine pk_Vi dX7_count_132 ml_X7_196 yw_X7_drawn yv_X7_drawn (hW.s rfl) (e_X7_drawn ⟨hW, hA, hok⟩) rfl rfl rfl rfl rfl rfl rfl ?_
      refine pk_reti dX7_count_135 (by first | rfl | exact pk_nbi _) ?_
      unfold op_count
      rw [sp_sw_n (by decide) (by decide)]
      exact ⟨rfl, hmf, hRM⟩
    · refine pk_swIn (off := 131) (tgt := 136) dX7_count_5 (by decide) (by decide) rfl (by decide) ?_
      refine pk_aload_n dX7_count_136 rfl ?_
      refine pk_getN dX7_count_137 fl_X7_199 rfl (hW.s rfl) hU.1 ?_
      refine pk_reti dX7_count_140 (by first | rfl | exact pk_nbi _) ?_
      unfold op_count
      rw [sp_sw_n (by decide) (by decide)]
      exact ⟨rfl, hmf, hRM⟩

set_option maxRecDepth 100000 in
set_option maxHeartbeats 4000000 in
theorem e_X7_fail {Γ : pk_T} {M : pk_M} {L : Nat} {X : pk_X} (hR : pk_RM L M X) (hX : pk_okX X) (c w : Int32) : pk_E Γ yX7_fail cX7_fail 9 (some .int) 4 0 0 M [.ref 103, .int c, .int w] (fun r M' => r = some (.int (op_fail X c w)) ∧ pk_mf M M' ∧ pk_RM L M' X) := by
  have hR0 := hR
  obtain ⟨hW, hA, hU, hK, hTp, hSh⟩ := hR0
  have hok := hX.1
  have hw := hok.1
  have hh := hok.2.1
  have hs := hok.2.2.2.2.2.2.2.1
  have hn6 := hX.2.1.1
  refine pk_meth (own := RX7) (ini := false) [some (.ref 103), some (.int c), some (.int w), none, none, none, none, none, none] (by decide +kernel) rfl (by decide +kernel) rfl rfl ?_
  have hI := sp_inks_lt hok 48 (by decide)
  change (sp_inks X.1) < 32 at hI
  have hb5 := sp_bits_le (sp_inks X.1)
  refine pk_iload_n dX7_fail_0 rfl ?_
  refine pk_i2l dX7_fail_1 ?_
  refine pk_lconst (v := 0) dX7_fail_2 (by decide) ?_
  refine pk_ldc2 dX7_fail_3 kc_X7_202 ?_
  refine pk_Si dX7_fail_6 ml_X7_59 yw_X7_in ys_X7_in (e_X7_inB _ (N := 10) (by omega) (by decide)) rfl rfl rfl rfl rfl rfl rfl ?_
  first | refine pk_eqb (tgt := 22) dX7_fail_9 (by decide) (fun c_9 => ?_) (fun c_9 => ?_) | refine pk_eq0N (tgt := 22) dX7_fail_9 (by decide) (by omega) (fun c_9 => ?_) (fun c_9 => ?_) | refine pk_if_eq (tgt := 22) dX7_fail_9 (by decide) (fun c_9 => ?_) (fun c_9 => ?_)
  · refine pk_iconst (v := -1) dX7_fail_22 (by decide) ?_
    refine pk_reti dX7_fail_23 (by first | rfl | exact pk_nbi _) ?_
    rw [op_fail, if_pos (by rw [pm_leb (by decide), show (decide (0 ≤ c) && decide (c < nI (10 + 1))) = false from c_9, Bool.false_and])]
    exact ⟨rfl, pk_ff.rf _ M, hR⟩
  · refine pk_iload_n dX7_fail_12 rfl ?_
    refine pk_i2l dX7_fail_13 ?_
    refine pk_lconst (v := 0) dX7_fail_14 (by decide) ?_
    refine pk_lconst (v := 1) dX7_fail_15 (by decide) ?_
    refine pk_Si dX7_fail_16 ml_X7_59 yw_X7_in ys_X7_in (e_X7_inB _ (N := 1) (by omega) (by decide)) rfl rfl rfl rfl rfl rfl rfl ?_
    first | refine pk_neb (tgt := 24) dX7_fail_19 (by decide) (fun c_19 => ?_) (fun c_19 => ?_) | refine pk_ne0N (tgt := 24) dX7_fail_19 (by decide) (by omega) (fun c_19 => ?_) (fun c_19 => ?_) | refine pk_if_ne (tgt := 24) dX7_fail_19 (by decide) (fun c_19 => ?_) (fun c_19 => ?_)
    · have hcb : (decide (0 ≤ c) && decide (c ≤ nI 10)) = true := by
        rw [pm_leb (by decide)]
        exact c_9
      obtain ⟨c, hc, rfl⟩ := sp_b_of c_9 (by decide)
      rw [op_fail, if_neg (by rw [hcb, c_19]; decide), nI_clamp (by omega)]
      obtain ⟨w, hw2, rfl⟩ := sp_b_of c_19 (by decide)
      have hup := sp_odds_le hok (c := c) (by omega)
      have hp10 := sp_p10 (sp_bits (sp_inks X.1)) (by omega)
      refine pk_aload_n dX7_fail_24 rfl ?_
      refine pk_Vi dX7_fail_25 ml_X7_196 yw_X7_drawn yv_X7_drawn (hW.s rfl) (e_X7_drawn ⟨hW, hA, hok⟩) rfl rfl rfl rfl rfl rfl rfl ?_
      refine pk_istore_n dX7_fail_28 rfl rfl ?_
      refine pk_iconst (v := nI 0) dX7_fail_29 (by decide) ?_
      refine pk_istore dX7_fail_30 rfl rfl ?_
      refine pk_iconst (v := nI 1) dX7_fail_32 (by decide) ?_
      refine pk_istore dX7_fail_33 rfl rfl ?_
      refine pk_iconst (v := nI 0) dX7_fail_35 (by decide) ?_
      refine pk_istore dX7_fail_36 rfl rfl ?_
      refine pk_for (sp_bits (sp_inks X.1)) (fun _ => M) (fun j => [some (.ref 103), some (.int (nI c)), some (.int (nI w)), some (.int (nI (sp_inks X.1))), some (.int (nI 0)), some (.int (nI (sp_pow 10 j))), some (.int (nI j)), none, none]) ?_ ?_ 0 (by omega)
      · intro j hj K
        refine pk_iload dX7_fail_38 rfl ?_
        refine pk_iload_n dX7_fail_40 rfl ?_
        refine pk_Si dX7_fail_41 ml_X7_98 yw_X7_bits ys_X7_bits (e_X7_bits _ (by omega)) rfl rfl rfl rfl rfl rfl rfl ?_
        first | refine pk_geN (tgt := 60) dX7_fail_44 (by decide) (by omega) (by omega) (fun c_44 => ?_) (fun c_44 => ?_) | refine pk_icmp_ge (tgt := 60) dX7_fail_44 (by decide) (fun c_44 => ?_) (fun c_44 => ?_)
        · omega
        · refine pk_iload dX7_fail_47 rfl ?_
          refine pk_bipush (v := nI 10) dX7_fail_49 (by decide) ?_
          first | refine pk_mulN dX7_fail_51 ?_ | refine pk_imul dX7_fail_51 ?_
          refine pk_istore dX7_fail_52 rfl rfl ?_
          first | refine pk_inc1 dX7_fail_54 rfl rfl ?_ | refine pk_iinc dX7_fail_54 rfl rfl rfl ?_
          refine pk_goto (tgt := 38) dX7_fail_57 (by decide) ?_
          exact K
      · refine pk_iload dX7_fail_38 rfl ?_
        refine pk_iload_n dX7_fail_40 rfl ?_
        refine pk_Si dX7_fail_41 ml_X7_98 yw_X7_bits ys_X7_bits (e_X7_bits _ (by omega)) rfl rfl rfl rfl rfl rfl rfl ?_
        first | refine pk_geN (tgt := 60) dX7_fail_44 (by decide) (by omega) (by omega) (fun c_44 => ?_) (fun c_44 => ?_) | refine pk_icmp_ge (tgt := 60) dX7_fail_44 (by decide) (fun c_44 => ?_) (fun c_44 => ?_)
        · refine pk_iconst (v := nI 0) dX7_fail_60 (by decide) ?_
          refine pk_istore dX7_fail_61 rfl rfl ?_
          refine pk_lsq (ls' := [some (.ref 103), some (.int (nI c)), some (.int (nI w)), some (.int (nI (sp_inks X.1))), some (.int (nI (sp_sm (sp_ti X.1 c) 0))), some (.int (nI (sp_pow 10 (sp_bits (sp_inks X.1))))), some (.int (nI 0)), none, none]) rfl ?_
          refine pk_for 32 (fun _ => M) (fun j => [some (.ref 103), some (.int (nI c)), some (.int (nI w)), some (.int (nI (sp_inks X.1))), some (.int (nI (sp_sm (sp_ti X.1 c) j))), some (.int (nI (sp_pow 10 (sp_bits (sp_inks X.1))))), some (.int (nI j)), none, none]) ?_ ?_ 0 (by omega)
          · intro j hj K
            have haj := pk_and_lt (a := j) (b := 31 - (sp_inks X.1)) hj
            have e1 : (sp_ti X.1 c) j = if (j &&& (31 - (sp_inks X.1)) == 0) && sp_wh X.1 j then sp_pa j (sp_inks X.1) c 5 else 0 := rfl
            refine pk_iload dX7_fail_63 rfl ?_
            refine pk_bipush (v := nI 32) dX7_fail_65 (by decide) ?_
            first | refine pk_geN (tgt := 110) dX7_fail_67 (by decide) (by omega) (by omega) (fun c_67 => ?_) (fun c_67 => ?_) | refine pk_icmp_ge (tgt := 110) dX7_fail_67 (by decide) (fun c_67 => ?_) (fun c_67 => ?_)
            · omega
            · refine pk_iload dX7_fail_70 rfl ?_
              refine pk_iload dX7_fail_72 rfl ?_
              refine pk_iload_n dX7_fail_74 rfl ?_
              refine pk_iconst (v := -1) dX7_fail_75 (by decide) ?_
              refine pk_ixor dX7_fail_76 ?_
              refine pk_iand dX7_fail_77 ?_
              rw [pk_dif j (by omega) (sp_inks X.1) hI]
              refine pk_ne0N (tgt := 100) dX7_fail_78 (by decide) (by omega) (fun c_78 => ?_) (fun c_78 => ?_)
              · refine pk_iconst (v := nI 0) dX7_fail_100 (by decide) ?_
                rw [beq_eq_false_iff_ne.mpr c_78, Bool.false_and, if_neg (by decide)] at e1
                have e2 := sp_sm_succ (sp_ti X.1 c) j
                rw [e1] at e2
                rw [e2] at K
                first | refine pk_addN dX7_fail_101 ?_ | refine pk_iadd dX7_fail_101 ?_
                refine pk_istore dX7_fail_102 rfl rfl ?_
                first | refine pk_inc1 dX7_fail_104 rfl rfl ?_ | refine pk_iinc dX7_fail_104 rfl rfl rfl ?_
                refine pk_goto (tgt := 63) dX7_fail_107 (by decide) ?_
                exact K
              · refine pk_aload_n dX7_fail_81 rfl ?_
                refine pk_iload dX7_fail_82 rfl ?_
                refine pk_Vi dX7_fail_84 ml_X7_204 yw_X7_isWhole yv_X7_isWhole (hW.s rfl) (e_X7_isWhole ⟨hW, hA, hok⟩ (by omega)) rfl rfl rfl rfl rfl rfl rfl ?_
                first | refine pk_eqb (tgt := 100) dX7_fail_87 (by decide) (fun c_87 => ?_) (fun c_87 => ?_) | refine pk_eq0N (tgt := 100) dX7_fail_87 (by decide) (by omega) (fun c_87 => ?_) (fun c_87 => ?_) | refine pk_if_eq (tgt := 100) dX7_fail_87 (by decide) (fun c_87 => ?_) (fun c_87 => ?_)
                · refine pk_iconst (v := nI 0) dX7_fail_100 (by decide) ?_
                  rw [show sp_wh X.1 j = false from c_87, Bool.and_false, if_neg (by decide)] at e1
                  have e2 := sp_sm_succ (sp_ti X.1 c) j
                  rw [e1] at e2
                  rw [e2] at K
                  first | refine pk_addN dX7_fail_101 ?_ | refine pk_iadd dX7_fail_101 ?_
                  refine pk_istore dX7_fail_102 rfl rfl ?_
                  first | refine pk_inc1 dX7_fail_104 rfl rfl ?_ | refine pk_iinc dX7_fail_104 rfl rfl rfl ?_
                  refine pk_goto (tgt := 63) dX7_fail_107 (by decide) ?_
                  exact K
                · refine pk_iload dX7_fail_90 rfl ?_
                  refine pk_iload_n dX7_fail_92 rfl ?_
                  refine pk_iload_n dX7_fail_93 rfl ?_
                  refine pk_Si dX7_fail_94 ml_X7_207 yw_X7_parts ys_X7_parts (e_X7_parts (by omega) (by omega) (by omega)) rfl rfl rfl rfl rfl rfl rfl ?_
                  refine pk_goto (tgt := 101) dX7_fail_97 (by decide) ?_
                  rw [show sp_wh X.1 j = true from c_87, beq_iff_eq.mpr c_78, if_pos (by rfl)] at e1
                  have e2 := sp_sm_succ (sp_ti X.1 c) j
                  rw [e1] at e2
                  rw [e2] at K
                  first | refine pk_addN dX7_fail_101 ?_ | refine pk_iadd dX7_fail_101 ?_
                  refine pk_istore dX7_fail_102 rfl rfl ?_
                  first | refine pk_inc1 dX7_fail_104 rfl rfl ?_ | refine pk_iinc dX7_fail_104 rfl rfl rfl ?_
                  refine pk_goto (tgt := 63) dX7_fail_107 (by decide) ?_
                  exact K
          · rw [sp_odds_ti hok (by omega)]
            refine pk_iload dX7_fail_63 rfl ?_
            refine pk_bipush (v := nI 32) dX7_fail_65 (by decide) ?_
            first | refine pk_geN (tgt := 110) dX7_fail_67 (by decide) (by omega) (by omega) (fun c_67 => ?_) (fun c_67 => ?_) | refine pk_icmp_ge (tgt := 110) dX7_fail_67 (by decide) (fun c_67 => ?_) (fun c_67 => ?_)
            · refine pk_iload dX7_fail_110 rfl ?_
              refine pk_istore dX7_fail_112 rfl rfl ?_
              refine pk_iload dX7_fail_114 rfl ?_
              refine pk_istore dX7_fail_116 rfl rfl ?_
              refine pk_fgt (ls' := [some (.ref 103), some (.int (nI c)), some (.int (nI w)), some (.int (nI (sp_inks X.1))), some (.int (nI (sp_oddsF X.1 c 32))), some (.int (nI (sp_pow 10 (sp_bits (sp_inks X.1))))), some (.int (nI (sp_oddsF X.1 c 32))), some (.int (nI (sp_pow 10 (sp_bits (sp_inks X.1))))), none]) (by repeat first | exact trivial | refine ⟨rfl, ?_⟩) ?_
              refine pk_wf (α := Nat × Nat) (fun z => z.2) (fun z => Nat.gcd z.1 z.2 = Nat.gcd (sp_oddsF X.1 c 32) (sp_pow 10 (sp_bits (sp_inks X.1))) ∧ z.1 < 2 ^ 31 ∧ z.2 < 2 ^ 31 ∧ (0 < z.1 ∨ 0 < z.2)) (fun _ => M) (fun z => [some (.ref 103), some (.int (nI c)), some (.int (nI w)), some (.int (nI (sp_inks X.1))), some (.int (nI (sp_oddsF X.1 c 32))), some (.int (nI (sp_pow 10 (sp_bits (sp_inks X.1))))), some (.int (nI z.1)), some (.int (nI z.2)), none]) ?_ ((sp_oddsF X.1 c 32), (sp_pow 10 (sp_bits (sp_inks X.1)))) ⟨rfl, by dsimp only; omega, by dsimp only; omega, Or.inr hp10.1⟩
              rintro ⟨a, b⟩ ⟨h1, h2, h3, h4⟩ K
              dsimp only at h1 h2 h3 h4 K ⊢
              refine pk_iload dX7_fail_118 rfl ?_
              refine pk_eq0N (tgt := 141) dX7_fail_120 (by decide) (by omega) (fun c_120 => ?_) (fun c_120 => ?_)
              · subst c_120
                rw [Nat.gcd_zero_right] at h1
                refine pk_iload_n dX7_fail_141 rfl ?_
                refine pk_ne0N (tgt := 150) dX7_fail_142 (by decide) (by omega) (fun c_142 => ?_) (fun c_142 => ?_)
                · refine pk_iload dX7_fail_150 rfl ?_
                  refine pk_iload dX7_fail_152 rfl ?_
                  first | refine pk_divN dX7_fail_154 (by omega) (by omega) (by omega) ?_ | refine pk_idiv dX7_fail_154 (by first | assumption | decide) ?_
                  refine pk_reti dX7_fail_155 (by first | rfl | exact pk_nbi _) ?_
                  rw [if_neg (fun e => c_142 ((pk_n0 (by omega)).mp e)), ← h1]
                  exact ⟨rfl, pk_ff.rf _ M, hR⟩
                · refine pk_iload dX7_fail_145 rfl ?_
                  refine pk_goto (tgt := 152) dX7_fail_147 (by decide) ?_
                  refine pk_iload dX7_fail_152 rfl ?_
                  first | refine pk_divN dX7_fail_154 (by omega) (by omega) (by omega) ?_ | refine pk_idiv dX7_fail_154 (by first | assumption | decide) ?_
                  refine pk_reti dX7_fail_155 (by first | rfl | exact pk_nbi _) ?_
                  rw [if_pos (show nI w = 0 by rw [c_142]; rfl), ← h1]
                  exact ⟨rfl, pk_ff.rf _ M, hR⟩
              · have hmb := Nat.mod_lt a (show 0 < b by omega)
                refine pk_iload dX7_fail_123 rfl ?_
                refine pk_iload dX7_fail_125 rfl ?_
                first | refine pk_remN dX7_fail_127 (by omega) (by omega) (by omega) ?_ | refine pk_irem dX7_fail_127 (by first | assumption | decide) ?_
                refine pk_istore dX7_fail_128 rfl rfl ?_
                refine pk_iload dX7_fail_130 rfl ?_
                refine pk_istore dX7_fail_132 rfl rfl ?_
                refine pk_iload dX7_fail_134 rfl ?_
                refine pk_istore dX7_fail_136 rfl rfl ?_
                refine pk_goto (tgt := 118) dX7_fail_138 (by decide) ?_
                exact pk_fgt (by repeat first | exact trivial | refine ⟨rfl, ?_⟩) (K (b, a % b) ⟨by dsimp only; rw [← h1, Nat.gcd_comm a b, Nat.gcd_rec b a, Nat.gcd_comm], by dsimp only; omega, by dsimp only; omega, Or.inl (by dsimp only; omega)⟩ (by dsimp only; omega))
            · omega
        · omega
    · refine pk_iconst (v := -1) dX7_fail_22 (by decide) ?_
      refine pk_reti dX7_fail_23 (by first | rfl | exact pk_nbi _) ?_
      rw [op_fail, if_pos (by rw [show sp_b w 2 = false from c_19, Bool.and_false])]
      exact ⟨rfl, pk_ff.rf _ M, hR⟩
