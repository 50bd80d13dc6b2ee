/-! plain rows: what is told of houses by numbers -/
theorem rng_ex {w A : Int32} {a nh : Nat} (e : A = nI a) (ha : a < 1000) (hn : nh ≤ 5) (c1 : ¬ w < A) (c2 : ¬ A + nI nh ≤ w) : ∃ j, j < nh ∧ w = nI (a + j) := by
  rw [e] at c1 c2
  rw [nI_add] at c2
  have h0 : ¬ w < 0 := by
    intro q
    apply c1
    have h1 : (0 : Int32).toInt = 0 := by decide
    rw [fa_lt] at q ⊢
    rw [nI_toInt (by omega)]
    omega
  obtain ⟨k, hk, rfl⟩ := nI_of h0
  rw [nI_ltI hk (by omega)] at c1
  rw [nI_leI (by omega) hk] at c2
  exact ⟨k - a, by omega, by congr 1; omega⟩
theorem rng_lo {w A : Int32} {a nh : Nat} (e : A = nI a) (ha : a < 1000) (hn : nh ≤ 5) (c1 : w < A) : ∀ j, j < nh → ¬ w = nI (a + j) := by
  intro j hj q
  rw [q, e, nI_ltI (by omega) (by omega)] at c1
  omega
theorem rng_hi {w A : Int32} {a nh : Nat} (e : A = nI a) (ha : a < 1000) (hn : nh ≤ 5) (c2 : A + nI nh ≤ w) : ∀ j, j < nh → ¬ w = nI (a + j) := by
  intro j hj q
  rw [q, e, nI_add, nI_leI (by omega) (by omega)] at c2
  omega
theorem tl_none {np nh nn nb ne : Nat} {td : Int32} {P G N : Nat → Nat → Int32} {w : Int32} (hn : nh ≤ 5) (h0 : ¬ w = 0) (h1 : ¬ w = 1) (h2 : ¬ w = 2) (h3 : ¬ w = 3) (h4 : ¬ w = 4) (h5 : ¬ w = 5) (r1 : ∀ j, j < nh → ¬ w = nI (10 + j)) (r2 : ∀ j, j < nh → ¬ w = nI (20 + j)) (r3 : ∀ j, j < nh → ¬ w = nI (30 + j)) : tlR np nh nn nb ne td P G N w = -1 := by
  unfold tlR
  rw [if_neg h0, if_neg h1, if_neg h2, if_neg h3, if_neg h4, if_neg h5]
  unfold tlH
  by_cases c : inR nh (remI w 10) = true
  · obtain ⟨j, hj, e⟩ := inR_ex c (by omega)
    have key : ∀ k : Nat, w / 10 = nI k → w = nI (k * 10 + j) := by
      intro k hk
      have h : w = w / 10 * 10 + remI w 10 := by
        unfold remI
        rw [Int32.add_comm, Int32.sub_add_cancel]
      rw [h, hk, e, show (10 : Int32) = nI 10 from rfl, pk_mul, nI_add]
    rw [if_pos c, if_neg (show ¬ w / 10 = 1 from fun q => r1 j hj (key 1 q)), if_neg (show ¬ w / 10 = 2 from fun q => r2 j hj (key 2 q)), if_neg (show ¬ w / 10 = 3 from fun q => r3 j hj (key 3 q))]
  · rw [if_neg c]
theorem subI {a j : Nat} : nI (a + j) - nI a = nI j := by
  rw [pk_sub (by omega)]
  congr 1
  omega
