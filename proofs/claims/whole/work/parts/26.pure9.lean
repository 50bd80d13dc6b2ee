/-! plain rows: groups, joins, the least group, counts: the keeper's bits against the reference's loops -/
theorem kn_am {np nn : Nat} {P N : Nat → Nat → Int32} {h : Int32} (hnp : np ≤ 24) (hw : HP np (P 4)) (ho : HO nn np N) (hs : ∀ p, P 5 p = 0 ∨ P 5 p = 1) {p : Nat} (hp : p < 24) : isAm (knw np P N h nn) (nI p) = (decide (p < np) && knB nn P N h p) := by
  obtain ⟨n, h1, h2, h3⟩ := knw_nat (h := h) hnp hw ho nn (Nat.le_refl nn)
  rw [h2, isAm_nI (by omega) (by omega), h3, kn_eq hnp hw ho hs]
theorem ct_cut {f : Nat → Bool} {np : Nat} : ∀ {n : Nat}, np ≤ n → ct (fun p => decide (p < np) && f p) n = ct f np := by
  intro n h
  have h1 := ct_split (fun p => decide (p < np) && f p) np (n - np)
  rw [show np + (n - np) = n by omega] at h1
  have h2 : ct (fun p => decide (p < np) && f p) np = ct f np := ct_cong (fun k hk => by simp [hk])
  have h3 : ∀ m, ct (fun k => decide (np + k < np) && f (np + k)) m = 0 := by
    intro m
    induction m with
    | zero => rfl
    | succ m ih =>
      have : ct (fun k => decide (np + k < np) && f (np + k)) (m + 1) = ct (fun k => decide (np + k < np) && f (np + k)) m + (if (decide (np + m < np) && f (np + m)) = true then 1 else 0) := rfl
      have z : ¬ (np + m < np) := by omega
      rw [this, ih]
      simp [z]
  rw [h1, h2, h3]
  omega
theorem bc_kn {np nn : Nat} {P N : Nat → Nat → Int32} {h : Int32} (hnp : np ≤ 24) (hw : HP np (P 4)) (ho : HO nn np N) (hs : ∀ p, P 5 p = 0 ∨ P 5 p = 1) : bc (knw np P N h nn) = nI (ct (knB nn P N h) np) := by
  obtain ⟨n, h1, h2, h3⟩ := knw_nat (h := h) hnp hw ho nn (Nat.le_refl nn)
  rw [h2, bc_nat h1, ← ct_cut (f := knB nn P N h) hnp]
  congr 1
  exact ct_cong (fun k hk => by rw [h3, kn_eq hnp hw ho hs])
theorem and1 (z : Int32) : z &&& 1 = 0 ∨ z &&& 1 = 1 := by
  obtain ⟨j, hj, e⟩ := pk_andE z (m := 1) 1 (by decide)
  rcases (show j = 0 ∨ j = 1 by omega) with q | q
  · left; rw [e, q]; rfl
  · right; rw [e, q]; rfl
theorem isAm_not (x b : Int32) : (!isAm x b) = decide (((x >>> (b &&& 31)) &&& 1) = 0) := by
  unfold isAm
  rcases and1 (x >>> (b &&& 31)) with e | e
  · rw [e]; decide
  · rw [e]; decide
theorem mkOf_nI {np : Nat} {P : Nat → Nat → Int32} {p m : Nat} (hnp : np ≤ 24) (hp : p < np) (hm : m < 4) : mkOf np P (nI p) (nI m) = P m p := by
  unfold mkOf
  rw [show inB (nI m) 0 3 = true from (inB_inR (v := nI m) (H := 3) (hi := 3) rfl (by omega)).trans (inR_lt (by omega) (by omega)), if_pos rfl]
  exact tat_nI (by omega) (by omega) hp (by omega)
theorem alls_cong {f g : Nat → Bool} : ∀ {n : Nat}, (∀ k, k < n → f k = g k) → alls f n = alls g n
  | 0, _ => rfl
  | n + 1, h => by rw [alls, alls, alls_cong (fun k hk => h k (by omega)), h n (by omega)]
theorem al_eq {np : Nat} {P : Nat → Nat → Int32} {p q : Nat} {set : Int32} (hnp : np ≤ 24) (hp : p < np) (hq : q < np) : alls (alB np P (nI p) (nI q) set) 4 = alls (alM P p q set) 4 := by
  apply alls_cong
  intro m hm
  unfold alB alM
  rw [isAm_not, mkOf_nI hnp hp hm, mkOf_nI hnp hq hm]
theorem gsz_eq {np nn : Nat} {P N : Nat → Nat → Int32} {h set : Int32} (hnp : np ≤ 24) (hw : HP np (P 4)) (ho : HO nn np N) (hs : ∀ p, P 5 p = 0 ∨ P 5 p = 1) {p : Nat} (hp : p < 24) : gsz np P (knw np P N h nn) (nI p) set = if (decide (p < np) && knB nn P N h p) = true then nI (grM np nn P N h p set) else 0 := by
  unfold gsz
  rw [kn_am hnp hw ho hs hp]
  by_cases c : (decide (p < np) && knB nn P N h p) = true
  · rw [if_pos c, if_pos c]
    rw [Bool.and_eq_true, decide_eq_true_eq] at c
    congr 1
    unfold grM
    rw [← ct_cut (f := fun q => knB nn P N h q && alls (alM P p q set) 4) hnp]
    apply ct_cong
    intro q hq
    rw [kn_am hnp hw ho hs hq]
    by_cases hqn : q < np
    · rw [al_eq hnp c.1 hqn]
      simp [hqn]
    · simp [hqn]
  · rw [if_neg c, if_neg c]
def jnM (np nn : Nat) (P N : Nat → Nat → Int32) (h g set : Int32) (p : Nat) : Bool := knB nn P N h p && knB nn P N g p && decide (nI (grM np nn P N h p set) = 1) && decide (nI (grM np nn P N g p set) = 1)
theorem joins_eq {np nn : Nat} {P N : Nat → Nat → Int32} {h g set : Int32} (hnp : np ≤ 24) (hw : HP np (P 4)) (ho : HO nn np N) (hs : ∀ p, P 5 p = 0 ∨ P 5 p = 1) : ct (jnB np P (knw np P N h nn) (knw np P N g nn) set) 24 = ct (jnM np nn P N h g set) np := by
  rw [← ct_cut (f := jnM np nn P N h g set) hnp]
  apply ct_cong
  intro p hp
  unfold jnB jnM
  rw [gsz_eq hnp hw ho hs hp, gsz_eq hnp hw ho hs hp]
  by_cases hpn : p < np
  · cases e1 : knB nn P N h p <;> cases e2 : knB nn P N g p <;> simp [hpn]
  · simp [hpn]
theorem ct_pos {f : Nat → Bool} {i : Nat} (h : f i = true) : ∀ {n : Nat}, i < n → 1 ≤ ct f n := by
  intro n hn
  have h1 := ct_mono (f := f) (show i + 1 ≤ n by omega)
  have h2 : ct f (i + 1) = ct f i + 1 := by simp [ct, h]
  omega
theorem ct_sub {f g : Nat → Bool} : ∀ {n : Nat}, (∀ k, k < n → f k = true → g k = true) → ct f n ≤ ct g n
  | 0, _ => Nat.le_refl _
  | n + 1, h => by
    have h1 := ct_sub (f := f) (g := g) (n := n) (fun k hk => h k (by omega))
    have h2 := h n (by omega)
    simp only [ct]
    by_cases c : f n = true
    · rw [if_pos c, if_pos (h2 c)]; omega
    · rw [if_neg c]; omega
theorem alM_self (P : Nat → Nat → Int32) (p : Nat) (set : Int32) : alls (alM P p p set) 4 = true := by simp [alls, alM]
theorem grM_pos {np nn : Nat} {P N : Nat → Nat → Int32} {h set : Int32} {p : Nat} (hp : p < np) (k : knB nn P N h p = true) : 1 ≤ grM np nn P N h p set := ct_pos (i := p) (by simp [k, alM_self]) hp
theorem grM_le {np nn : Nat} {P N : Nat → Nat → Int32} {h set : Int32} {p : Nat} : grM np nn P N h p set ≤ ct (knB nn P N h) np := ct_sub (fun k _ e => by rw [Bool.and_eq_true] at e; exact e.1)
def lsN (np nn : Nat) (P N : Nat → Nat → Int32) (h set : Int32) : Nat → Nat
  | 0 => 0
  | p + 1 => if knB nn P N h p = true then (if lsN np nn P N h set p = 0 ∨ grM np nn P N h p set < lsN np nn P N h set p then grM np nn P N h p set else lsN np nn P N h set p) else lsN np nn P N h set p
theorem lsM_N {np nn : Nat} {P N : Nat → Nat → Int32} {h set : Int32} (hnp : np ≤ 24) : ∀ i, i ≤ np → lsM np nn P N h set i = nI (lsN np nn P N h set i) ∧ lsN np nn P N h set i ≤ ct (knB nn P N h) np ∧ (lsN np nn P N h set i = 0 → ∀ p, p < i → knB nn P N h p = false) := by
  intro i
  induction i with
  | zero => intro _; exact ⟨rfl, Nat.zero_le _, fun _ p hp => absurd hp (Nat.not_lt_zero p)⟩
  | succ i ih =>
    intro hi
    obtain ⟨h1, h2, h3⟩ := ih (by omega)
    have hK := ct_le (knB nn P N h) np
    have hg := grM_le (np := np) (nn := nn) (P := P) (N := N) (h := h) (set := set) (p := i)
    by_cases k : knB nn P N h i = true
    · have hg1 := grM_pos (set := set) (show i < np by omega) k
      rw [lsM, lsN, if_pos k, if_pos k, h1]
      have e0 : (nI (lsN np nn P N h set i) = 0) ↔ (lsN np nn P N h set i = 0) := nI_eq (b := 0) (by omega) (by omega)
      have e1 : (nI (lsN np nn P N h set i) ≤ nI (grM np nn P N h i set)) ↔ (lsN np nn P N h set i ≤ grM np nn P N h i set) := nI_leI (by omega) (by omega)
      simp only [e0, e1, Nat.not_le]
      split
      · exact ⟨rfl, hg, fun q => by omega⟩
      · rename_i c
        exact ⟨rfl, h2, fun q => absurd (Or.inl q) c⟩
    · have k' : knB nn P N h i = false := by simpa using k
      rw [lsM, lsN, if_neg k, if_neg k]
      refine ⟨h1, h2, fun q p hp => ?_⟩
      rcases Nat.lt_or_ge p i with z | z
      · exact h3 q p z
      · have e : p = i := by omega
        rw [e]; exact k'
theorem ct_none {f : Nat → Bool} : ∀ {n : Nat}, (∀ p, p < n → f p = false) → ct f n = 0
  | 0, _ => rfl
  | n + 1, h => by
    have h1 := ct_none (f := f) (n := n) (fun p hp => h p (by omega))
    simp [ct, h1, h n (by omega)]
theorem least_eq {np nn : Nat} {P N : Nat → Nat → Int32} {h set : Int32} (hnp : np ≤ 24) (hw : HP np (P 4)) (ho : HO nn np N) (hs : ∀ p, P 5 p = 0 ∨ P 5 p = 1) : lsF np P (knw np P N h nn) set 24 = lsM np nn P N h set np := by
  have hK := ct_le (knB nn P N h) np
  have key : ∀ i, i ≤ np → lsF np P (knw np P N h nn) set i = nI (if lsN np nn P N h set i = 0 then ct (knB nn P N h) np else lsN np nn P N h set i) := by
    intro i
    induction i with
    | zero => intro _; rw [lsF, bc_kn hnp hw ho hs]; rfl
    | succ i ih =>
      intro hi
      have hih := ih (by omega)
      obtain ⟨-, h2, -⟩ := lsM_N (nn := nn) (P := P) (N := N) (h := h) (set := set) hnp i (by omega)
      have hg := grM_le (np := np) (nn := nn) (P := P) (N := N) (h := h) (set := set) (p := i)
      rw [lsF, gsz_eq hnp hw ho hs (by omega), hih]
      by_cases k : knB nn P N h i = true
      · have hg1 := grM_pos (set := set) (show i < np by omega) k
        rw [if_pos (show (decide (i < np) && knB nn P N h i) = true by simp [k]; omega), lsN, if_pos k]
        have e0 : ¬ nI (grM np nn P N h i set) = 0 := nI_ne0 (by omega) (by omega)
        have e1 : (nI (if lsN np nn P N h set i = 0 then ct (knB nn P N h) np else lsN np nn P N h set i) ≤ nI (grM np nn P N h i set)) ↔ ((if lsN np nn P N h set i = 0 then ct (knB nn P N h) np else lsN np nn P N h set i) ≤ grM np nn P N h i set) := nI_leI (by split <;> omega) (by omega)
        simp only [e0, e1, not_false_eq_true, true_and]
        by_cases z : lsN np nn P N h set i = 0
        · simp only [z, if_true, true_or]
          by_cases y : ct (knB nn P N h) np ≤ grM np nn P N h i set
          · rw [if_neg (by omega), if_neg (by omega)]
            congr 1; omega
          · rw [if_pos y, if_neg (by omega)]
        · simp only [z, if_false, false_or]
          by_cases y : grM np nn P N h i set < lsN np nn P N h set i
          · rw [if_pos (by omega), if_pos y, if_neg (by omega)]
          · rw [if_neg (by omega), if_neg y, if_neg z]
      · rw [if_neg (show ¬ (decide (i < np) && knB nn P N h i) = true by simp [k]), lsN, if_neg k]
        simp
  have key2 : ∀ d, np + d ≤ 24 → lsF np P (knw np P N h nn) set (np + d) = lsF np P (knw np P N h nn) set np := by
    intro d
    induction d with
    | zero => intro _; rfl
    | succ d ih =>
      intro hd
      have e : lsF np P (knw np P N h nn) set (np + (d + 1)) = lsF np P (knw np P N h nn) set (np + d) := by
        show lsF np P (knw np P N h nn) set ((np + d) + 1) = _
        have z : ¬ (np + d < np) := by omega
        rw [lsF, gsz_eq hnp hw ho hs (by omega), if_neg (show ¬ (decide (np + d < np) && knB nn P N h (np + d)) = true by simp [z])]
        simp
      rw [e]; exact ih (by omega)
  have k2 := key2 (24 - np) (by omega)
  rw [show np + (24 - np) = 24 by omega] at k2
  obtain ⟨h1, -, h3⟩ := lsM_N (nn := nn) (P := P) (N := N) (h := h) (set := set) hnp np (Nat.le_refl np)
  rw [k2, key np (Nat.le_refl np), h1]
  by_cases z : lsN np nn P N h set np = 0
  · rw [if_pos z, z, ct_none (h3 z)]
  · rw [if_neg z]
theorem having_eq {np nn : Nat} {P N : Nat → Nat → Int32} {h n : Int32} {m : Nat} (hnp : np ≤ 24) (hw : HP np (P 4)) (ho : HO nn np N) (hs : ∀ p, P 5 p = 0 ∨ P 5 p = 1) (hm : m < 4) : hvI np P (knw np P N h nn) (nI m) n = nI (ct (fun p => knB nn P N h p && decide (P m p = n)) np) := by
  unfold hvI
  rw [← ct_cut (f := fun p => knB nn P N h p && decide (P m p = n)) hnp]
  congr 1
  apply ct_cong
  intro p hp
  rw [kn_am hnp hw ho hs hp]
  by_cases hpn : p < np
  · rw [mkOf_nI hnp hpn hm]; simp [hpn]
  · simp [hpn]
theorem ct_two {f g : Nat → Bool} : ∀ n, ct (fun p => f p && g p) n + ct (fun p => f p && !g p) n = ct f n
  | 0 => rfl
  | n + 1 => by
    have h := ct_two (f := f) (g := g) n
    simp only [ct]
    by_cases c : f n = true <;> by_cases c2 : g n = true <;> simp [c, c2] <;> omega
theorem others_eq {np nn : Nat} {P N : Nat → Nat → Int32} {h n : Int32} {m : Nat} (hnp : np ≤ 24) (hw : HP np (P 4)) (ho : HO nn np N) (hs : ∀ p, P 5 p = 0 ∨ P 5 p = 1) (hm : m < 4) : bc (knw np P N h nn) - hvI np P (knw np P N h nn) (nI m) n = nI (ct (fun p => knB nn P N h p && !decide (P m p = n)) np) := by
  have h1 := ct_two (f := knB nn P N h) (g := fun p => decide (P m p = n)) np
  have h1' : ct (fun p => knB nn P N h p && decide (P m p = n)) np + ct (fun p => knB nn P N h p && !decide (P m p = n)) np = ct (knB nn P N h) np := h1
  rw [bc_kn hnp hw ho hs, having_eq hnp hw ho hs hm, pk_sub (by omega)]
  congr 1
  omega
theorem lk_k {np nn : Nat} {P N : Nat → Nat → Int32} {j k : Nat} {w : Int32} (hnp : np ≤ 24) (hj : j < np) (hk : k < 4) (e : w = nI (k + 4)) : lkR np nn P N (nI j) w = P k j := by
  have e4 : w - 4 = nI k := by rw [e, show (4 : Int32) = nI 4 from rfl, pk_sub (by omega)]; congr 1
  have n0 : ∀ c, c < 4 → ¬ w = nI c := fun c hc q => by rw [e] at q; have := nI_inj (by omega) (by omega) q; omega
  unfold lkR
  rw [inR_lt hj (by omega), if_pos rfl, if_neg (show ¬ w = 0 from n0 0 (by omega)), if_neg (show ¬ w = 1 from n0 1 (by omega)), if_neg (show ¬ w = 2 from n0 2 (by omega)), if_neg (show ¬ w = 3 from n0 3 (by omega)), e4]
  exact mkOf_nI hnp hj hk
theorem lk_no {np nn : Nat} {P N : Nat → Nat → Int32} {j : Nat} {w : Int32} (hj : j < np) (hnp : np ≤ 24) (h0 : ¬ w = 0) (h1 : ¬ w = 1) (h2 : ¬ w = 2) (h3 : ¬ w = 3) (h4 : ¬ w = 4) (h5 : ¬ w = 5) (h6 : ¬ w = 6) (h7 : ¬ w = 7) : lkR np nn P N (nI j) w = -1 := by
  unfold lkR
  rw [inR_lt hj (by omega), if_pos rfl, if_neg h0, if_neg h1, if_neg h2, if_neg h3]
  unfold mkOf
  rw [if_neg]
  intro q
  obtain ⟨k, hk, e⟩ := inB_ex (hi := 3) q rfl (by omega)
  have e2 : w = nI (k + 4) := by
    have : w = (w - 4) + 4 := by simp
    rw [this, e, show (4 : Int32) = nI 4 from rfl, nI_add]
  rcases (show k = 0 ∨ k = 1 ∨ k = 2 ∨ k = 3 by omega) with z | z | z | z <;> subst z
  · exact h4 e2
  · exact h5 e2
  · exact h6 e2
  · exact h7 e2
theorem tl_w {np nh nn nb ne : Nat} {td : Int32} {P G N : Nat → Nat → Int32} {w : Int32} {k j : Nat} (hk : 1 ≤ k) (hk9 : k ≤ 9) (hj : j < 10) (e : w = nI (k * 10 + j)) : tlR np nh nn nb ne td P G N w = tlH np nh nn P G N (nI k) (nI j) := by
  have n0 : ∀ c, c < 10 → ¬ w = nI c := fun c hc q => by rw [e] at q; have := nI_inj (by omega) (by omega) q; omega
  unfold tlR
  rw [if_neg (show ¬ w = 0 from n0 0 (by omega)), if_neg (show ¬ w = 1 from n0 1 (by omega)), if_neg (show ¬ w = 2 from n0 2 (by omega)), if_neg (show ¬ w = 3 from n0 3 (by omega)), if_neg (show ¬ w = 4 from n0 4 (by omega)), if_neg (show ¬ w = 5 from n0 5 (by omega)), e]
  have h1 : nI (k * 10 + j) / 10 = nI k := by
    rw [show (10 : Int32) = nI 10 from rfl, pk_div (by omega) (by omega) (by omega)]; congr 1; omega
  have h2 : remI (nI (k * 10 + j)) 10 = nI j := by
    rw [remI, show (10 : Int32) = nI 10 from rfl, pk_rem (by omega) (by omega) (by omega)]; congr 1; omega
  rw [h1, h2]
