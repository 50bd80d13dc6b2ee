theorem isHd_out {np : Nat} {P : Nat → Nat → Int32} {p : Int32} (h : inR np p = false) : isHd np P p = false := by simp [isHd, h]
theorem isHd_yes {np : Nat} {P : Nat → Nat → Int32} {j : Nat} (hn : np ≤ 24) (h : j < np) (e : P 4 j = -1) : isHd np P (nI j) = true := by
  unfold isHd
  rw [show tat np 6 P (nI j) 4 = P 4 j from tat_nI (c := 4) (by omega) (by omega) h (by omega), inR_lt h (by omega), e]
  decide
theorem isHd_no {np : Nat} {P : Nat → Nat → Int32} {j : Nat} (hn : np ≤ 24) (h : j < np) (e : ¬ P 4 j = -1) : isHd np P (nI j) = false := by
  unfold isHd
  rw [show tat np 6 P (nI j) 4 = P 4 j from tat_nI (c := 4) (by omega) (by omega) h (by omega)]
  simp [e]
theorem isSt_up4 (np : Nat) (P : Nat → Nat → Int32) (j : Nat) (v x : Int32) : isSt np (up2 P 4 j v) x = isSt np P x := by
  unfold isSt tat
  rfl
theorem okBr_iff {nh nb : Nat} {h g a b : Int32} : okBr nh nb h g a b = true ↔ (twoH nh h g = true ∧ 0 ≤ a.toInt ∧ a.toInt ≤ b.toInt ∧ b.toInt ≤ 3000 ∧ nb < 20) := by
  have h0 : (0 : Int32).toInt = 0 := by decide
  have h3 : (3000 : Int32).toInt = 3000 := by decide
  unfold okBr inB
  simp only [Bool.and_eq_true, Bool.not_eq_true', decide_eq_false_iff_not, decide_eq_true_eq, fa_lt, fa_le, h0, h3]
  constructor
  · rintro ⟨⟨⟨⟨h1, h2⟩, h3⟩, h4⟩, h5⟩
    exact ⟨h1, by omega, by omega, by omega, by omega⟩
  · rintro ⟨h1, h2, h3, h4, h5⟩
    exact ⟨⟨⟨⟨h1, by omega⟩, by omega⟩, by omega⟩, by omega⟩
theorem inB_inR {v : Int32} {hi : Nat} {H : Int32} (e : H = nI hi) (hb : hi < 2 ^ 31 - 1) : inB v 0 H = inR (hi + 1) v := by
  unfold inB inR
  congr 1
  rw [e]
  have h1 : (nI hi < v) ↔ (nI (hi + 1) ≤ v) := by
    rw [fa_lt, fa_le, nI_toInt (by omega), nI_toInt (by omega)]
    omega
  simp [h1]
theorem tat_noc {n w hi : Nat} {C : Nat → Nat → Int32} {r c H : Int32} (h : inB c 0 H = false) (e : H = nI hi) (hw : w = hi + 1) (hb : hi < 2 ^ 31 - 1 := by omega) : tat n w C r c = -1 := by
  rw [inB_inR e hb] at h
  unfold tat
  rw [hw, h]
  simp
theorem inR_nlt {n : Nat} {r : Int32} (h : ¬ r < nI n) : inR n r = false := by
  have h1 : nI n ≤ r := by rw [fa_lt] at h; rw [fa_le]; omega
  simp [inR, h1]
theorem inR_ylt {n : Nat} {r : Int32} (h0 : ¬ r < 0) (h : r < nI n) : inR n r = true := by
  have h1 : ¬ nI n ≤ r := by rw [fa_lt] at h; rw [fa_le]; omega
  simp [inR, h0, h1]
theorem tat_nocs {nn : Nat} {C : Nat → Nat → Int32} {r : Int32} {w : Int32} (h0 : ¬ w = 0) (h1 : ¬ w = 1) (h2 : ¬ w = 2) (h3 : ¬ w = 3) (h4 : ¬ w = 4) : tat nn 5 C r w = -1 := by
  by_cases c : inR 5 w = true
  · obtain ⟨j, hj, rfl⟩ := inR_ex c (by omega)
    exfalso
    rcases (show j = 0 ∨ j = 1 ∨ j = 2 ∨ j = 3 ∨ j = 4 by omega) with e | e | e | e | e <;> subst e
    · exact h0 rfl
    · exact h1 rfl
    · exact h2 rfl
    · exact h3 rfl
    · exact h4 rfl
  · unfold tat
    rw [show inR 5 w = false by simpa using c]
    simp
