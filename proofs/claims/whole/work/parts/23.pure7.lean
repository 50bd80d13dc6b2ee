/-! plain rows: naming, leading, crossing, turning back, as the reference has them -/
theorem fd_out {nh nn : Nat} {N : Nat → Nat → Int32} {h nm : Int32} (hn : nh ≤ 5) (hN0 : ∀ i, i < nn → ∃ h, h < nh ∧ N 0 i = nI h) (c : inR nh h = false) : fsI (fdB N h nm) nn = -1 := by
  apply fsI_none
  intro i hi
  obtain ⟨h', hh, e⟩ := hN0 i hi
  have h1 : ¬ N 0 i = h := by
    intro q
    rw [e] at q
    rw [← q, inR_lt hh (by omega)] at c
    cases c
  simp [fdB, h1]
theorem ldR_out {nh nn : Nat} {P N : Nat → Nat → Int32} {h nm : Int32} (hn : nh ≤ 5) (hN0 : ∀ i, i < nn → ∃ h, h < nh ∧ N 0 i = nI h) (c : inR nh h = false) : ldR nn P N h nm = -1 := by
  unfold ldR
  rw [if_pos (fd_out hn hN0 c)]
theorem fd_0 {N : Nat → Nat → Int32} {h nm : Int32} {i : Nat} (hf : fdB N h nm i = true) : N 0 i = h ∧ N 1 i = nm := by
  simp only [fdB, Bool.and_eq_true, decide_eq_true_eq] at hf
  exact hf
theorem ff_self {nn : Nat} {N : Nat → Nat → Int32} {w : Nat → Int32} {i : Nat} {h : Int32} (hi : i < nn) (hnn : nn ≤ 200) (e : N 0 i = h) : ¬ fsI (ffB N w h (N 4 i) (nI (hd w (ow N i)))) nn = -1 := by
  intro q
  have h1 : ffB N w h (N 4 i) (nI (hd w (ow N i))) i = true := by simp [ffB, e]
  rcases fsI_cases (ffB N w h (N 4 i) (nI (hd w (ow N i)))) nn (by omega) with ⟨_, h3⟩ | ⟨j, h3, h4, _⟩
  · rw [h3 i hi] at h1; cases h1
  · rw [h4] at q; exact m1_nI (by omega) q
theorem ldR_at {nn : Nat} {P N : Nat → Nat → Int32} {h nm : Int32} {i i2 : Nat} (hnn : nn ≤ 200) (hi : i < nn) (e : fsI (fdB N h nm) nn = nI i) (e0 : N 0 i = h) (hi2 : i2 < nn) (e2 : fsI (ffB N (P 4) h (N 4 i) (nI (hd (P 4) (ow N i)))) nn = nI i2) : ldR nn P N h nm = N 1 i2 := by
  unfold ldR
  rw [e, if_neg (m1_nI (by omega)), nI_clamp (by omega), e0, e2]
  exact tat_nI (c := 1) (by omega) (by omega) hi2 (by omega)
theorem ct_inj {f : Nat → Bool} {i j : Nat} (hi : f i = true) (hj : f j = true) (e : ct f (i + 1) = ct f (j + 1)) : i = j := by
  have hi1 : ct f (i + 1) = ct f i + 1 := by simp [ct, hi]
  have hj1 : ct f (j + 1) = ct f j + 1 := by simp [ct, hj]
  rcases Nat.lt_trichotomy i j with q | q | q
  · have := ct_mono (f := f) (show i + 1 ≤ j by omega)
    omega
  · exact q
  · have := ct_mono (f := f) (show j + 1 ≤ i by omega)
    omega
theorem ldR_once {nh nn : Nat} {P G N : Nat → Nat → Int32} {h : Nat} {nm : Int32} {i : Nat} (hnn : nn ≤ 200) (hi : i < nn) (hh : h < nh) (hon : ∀ i h, i < nn → h < nh → N 0 i = nI h → G 0 h = 2 → N 4 i = nI (ct (fun j => decide (N 0 j = nI h)) (i + 1))) (c : G 0 h = 2) (e : fsI (fdB N (nI h) nm) nn = nI i) (hf : fdB N (nI h) nm i = true) : ldR nn P N (nI h) nm = nm := by
  obtain ⟨e0, e1⟩ := fd_0 hf
  have hne := ff_self (w := P 4) hi hnn e0
  obtain ⟨i2, h1, h2, h3, _⟩ := fsI_ex (by omega) hne
  rw [ldR_at hnn hi e e0 h1 h2]
  simp only [ffB, Bool.and_eq_true, decide_eq_true_eq] at h3
  have k1 := hon i h hi hh e0 c
  have k2 := hon i2 h h1 hh h3.1.1 c
  rw [h3.1.2] at k2
  rw [k1] at k2
  have k3 := nI_inj (by have := ct_le (fun j => decide (N 0 j = nI h)) (i + 1); omega) (by have := ct_le (fun j => decide (N 0 j = nI h)) (i2 + 1); omega) k2
  have k4 : i = i2 := ct_inj (f := fun j => decide (N 0 j = nI h)) (by simp [e0]) (by simp [h3.1.1]) k3
  rw [← k4]; exact e1
theorem rem_ne {a : Nat} (ha : a < 2 ^ 31) : ¬ remI (nI a) 9973 = -1 := by
  have h1 : remI (nI a) 9973 = nI (a % 9973) := pk_rem (d := 9973) ha (by omega) (by omega)
  rw [h1]
  exact m1_nI (by have := Nat.mod_lt a (show 0 < 9973 by omega); omega)
theorem nmR_ne {nh nn : Nat} {P G N : Nat → Nat → Int32} {td : Int32} {h p : Nat} (hnh : nh ≤ 5) (hnn : nn ≤ 200) (hh : h < nh) (g : GH G h) (hN1 : ∀ i, i < nn → ¬ N 1 i = -1) (c : ¬ nmI nh nn P G N td (nI h) p = -1) : ¬ nmR nh nn P G N td (nI h) p = -1 := by
  obtain ⟨i, hi, e⟩ := nmI_ex hnn c
  rw [nmR_at hnn hi e]
  unfold nmT nmNn nmI at *
  by_cases r : nrow nh nn P G N td (nI h) p = -1
  · simp only [if_pos r] at *
    have hlt : nn < 200 := by
      rcases Nat.lt_or_ge nn 200 with q | q
      · exact q
      · exact absurd ((arow_m1 (by omega)).mpr q) c
    rw [arow_more hlt] at e
    have e2 : nn = i := nI_inj (by omega) (by rw [adn_more hlt] at hi; omega) e
    subst e2
    rw [nadd_more hlt]
    obtain ⟨d, hdd, ed⟩ := g.2.1
    have h1 : tat nh 6 G (nI h) 2 = G 2 h := tatG (c := 2) hnh hh (by omega)
    have h2 : up2 (up2 (up2 (up2 (up2 N 0 nn (nI h)) 1 nn (remI (tat nh 6 G (nI h) 2 * nkI nn N (nI h)) 9973)) 2 nn (nI (hd (P 4) p))) 3 nn td) 4 nn (nspI nh nn G N td (nI h)) 1 nn = remI (tat nh 6 G (nI h) 2 * nkI nn N (nI h)) 9973 := by
      simp [up2, upd]
    rw [h2, h1, ed]
    unfold nkI
    rw [nI_1, pk_mul]
    apply rem_ne
    have h3 := ct_le (fun i => decide (N 0 i = nI h)) nn
    have h4 : d * (ct (fun i => decide (N 0 i = nI h)) nn + 1) ≤ 9972 * 201 := Nat.mul_le_mul hdd (by omega)
    omega
  · simp only [if_neg r] at *
    exact hN1 i hi
theorem crR_no {np nh nn nb : Nat} {P G N B : Nat → Nat → Int32} {td h g nm : Int32} (c : crI np nh nn nb P G N B td h g nm = -1) : crR np nh nn nb P G N B td h g nm = -1 := by
  unfold crI at c
  unfold crR
  by_cases k : crB np nh nn nb P G N B td h g nm = true
  · rw [if_pos k] at c ⊢
    exact nmR_no c
  · rw [if_neg k]
theorem crI_ex {np nh nn nb : Nat} {P G N B : Nat → Nat → Int32} {td h nm : Int32} {g : Nat} (hnh : nh ≤ 5) (hnn : nn ≤ 200) (hh : g < nh) (hg : GH G g) (hN1 : ∀ i, i < nn → ¬ N 1 i = -1) (c : ¬ crI np nh nn nb P G N B td h (nI g) nm = -1) : ∃ i, i < 200 ∧ crI np nh nn nb P G N B td h (nI g) nm = nI i ∧ crR np nh nn nb P G N B td h (nI g) nm = crT np nh nn nb P G N B td h (nI g) nm 1 i ∧ ¬ crR np nh nn nb P G N B td h (nI g) nm = -1 := by
  unfold crI at c ⊢
  unfold crR crT
  by_cases k : crB np nh nn nb P G N B td h (nI g) nm = true
  · simp only [if_pos k] at c ⊢
    obtain ⟨i, h1, h2⟩ := nmI_ex hnn c
    exact ⟨i, Nat.lt_of_lt_of_le h1 (nmNn_le hnn), h2, nmR_at hnn h1 h2, nmR_ne hnh hnn hh hg hN1 c⟩
  · rw [if_neg k] at c
    exact absurd rfl c
theorem ix4 (j k : Nat) : nI 4 * nI j + nI (k + 4) - nI 4 = nI (j * 4 + k) := by
  rw [ixI, pk_sub (by omega)]
  congr 1
theorem lt_le {a b : Int32} (h : a < b) : ¬ b ≤ a := by rw [fa_lt] at h; rw [fa_le]; omega
theorem nlt_le {a b : Int32} (h : ¬ a < b) : b ≤ a := by rw [fa_lt] at h; rw [fa_le]; omega
theorem addI0 (x : Int32) : x + 0 = x := by simp
theorem ct_no0 {f : Nat → Bool} {i : Nat} (h : f i = false) : nI (ct f i) + 0 = nI (ct f (i + 1)) := by rw [addI0]; exact ct_no h
