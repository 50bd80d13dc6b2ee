/-! plain rows: bits, how many are known, groups -/
theorem fa_and (a b : Nat) : nI a &&& nI b = nI (a &&& b) := by
  apply Int32.toBitVec_inj.1
  show BitVec.ofNat 32 a &&& BitVec.ofNat 32 b = BitVec.ofNat 32 (a &&& b)
  apply BitVec.eq_of_getLsbD_eq
  intro i hi
  simp [hi]
theorem fa_or (a b : Nat) : nI a ||| nI b = nI (a ||| b) := by
  apply Int32.toBitVec_inj.1
  show BitVec.ofNat 32 a ||| BitVec.ofNat 32 b = BitVec.ofNat 32 (a ||| b)
  apply BitVec.eq_of_getLsbD_eq
  intro i hi
  simp [hi]
theorem s_l : ∀ n, n < 32 → ((nI n &&& 31).toBitVec.smod 32).toNat = n := by decide +kernel
theorem s_u : ∀ n, n < 32 → (((nI n).toUInt32 &&& Int32.toUInt32 31).toBitVec % 32).toNat = n := by decide +kernel
theorem ush_nI {n k : Nat} (hn : n < 2 ^ 31) (hk : k < 32) : ush (nI n) (nI k) = nI (n / 2 ^ k) := pk_ushrN (by omega) (nI k) k (s_u k hk)
theorem isAm_nI {n p : Nat} (hn : n < 2 ^ 31) (hp : p < 31) : isAm (nI n) (nI p) = n.testBit p := by
  unfold isAm
  rw [pk_shrN hn (nI p &&& 31) p (s_l p (by omega)), Nat.testBit_eq_decide_div_mod_eq]
  have h1 : nI (n / 2 ^ p) &&& 1 = nI (n / 2 ^ p % 2) := by
    rw [show (1 : Int32) = nI 1 from rfl, fa_and, Nat.and_one_is_mod]
  rw [h1]
  have h2 : (nI (n / 2 ^ p % 2) = 1) ↔ (n / 2 ^ p % 2 = 1) := nI_eq (b := 1) (by omega) (by omega)
  simp [h2]
theorem shl_nI {p : Nat} (hp : p < 31) : (1 : Int32) <<< (nI p &&& 31) = nI (2 ^ p) := by
  have h := pk_shlN (n := 1) (nI p &&& 31) p (s_l p (by omega)) (by
    have : 2 ^ p < 2 ^ 32 := Nat.pow_lt_pow_right (by omega) (by omega)
    omega)
  rw [show (1 : Int32) = nI 1 from rfl, h, Nat.one_mul]
def kwS (np : Nat) (P N : Nat → Nat → Int32) (h : Int32) (p j : Nat) : Bool := decide (N 0 j = h) && !isSt np P (nI (hd (P 4) (ow N j))) && decide (hd (P 4) (ow N j) = p)
theorem knw_nat {np nn : Nat} {P N : Nat → Nat → Int32} {h : Int32} (hnp : np ≤ 24) (hw : HP np (P 4)) (ho : HO nn np N) : ∀ i, i ≤ nn → ∃ n, n < 2 ^ 24 ∧ knw np P N h i = nI n ∧ ∀ p, n.testBit p = anys (kwS np P N h p) i := by
  intro i
  induction i with
  | zero => intro _; exact ⟨0, by omega, rfl, fun p => by simp [anys]⟩
  | succ i ih =>
    intro hi
    obtain ⟨n, h1, h2, h3⟩ := ih (by omega)
    have hq : hd (P 4) (ow N i) < np := hd_lt hw hnp (ho i (by omega)).2
    by_cases c : N 0 i = h ∧ isSt np P (nI (hd (P 4) (ow N i))) = false
    · refine ⟨n ||| 2 ^ hd (P 4) (ow N i), ?_, ?_, ?_⟩
      · exact Nat.or_lt_two_pow h1 (Nat.pow_lt_pow_right (by omega) (by omega))
      · rw [knw, if_pos c, h2, shl_nI (by omega), fa_or]
      · intro p
        rw [Nat.testBit_or, h3, Nat.testBit_two_pow, anys]
        congr 1
        simp [kwS, c.1, c.2]
    · refine ⟨n, h1, ?_, ?_⟩
      · rw [knw, if_neg c, h2]
      · intro p
        rw [h3, anys]
        have : kwS np P N h p i = false := by
          unfold kwS
          by_cases c1 : N 0 i = h
          · have c2 : isSt np P (nI (hd (P 4) (ow N i))) = true := by
              cases e : isSt np P (nI (hd (P 4) (ow N i))) with
              | true => rfl
              | false => exact absurd ⟨c1, e⟩ c
            simp [c2]
          · simp [c1]
        simp [this]
theorem anys_cong {f g : Nat → Bool} : ∀ {n : Nat}, (∀ i, i < n → f i = g i) → anys f n = anys g n
  | 0, _ => rfl
  | n + 1, h => by rw [anys, anys, anys_cong (fun i hi => h i (by omega)), h n (by omega)]
theorem kn_eq {np nn : Nat} {P N : Nat → Nat → Int32} {h : Int32} (hnp : np ≤ 24) (hw : HP np (P 4)) (ho : HO nn np N) (hs : ∀ p, P 5 p = 0 ∨ P 5 p = 1) (p : Nat) : anys (kwS np P N h p) nn = (decide (p < np) && knB nn P N h p) := by
  by_cases hp : p < np
  · by_cases e5 : P 5 p = 0
    · by_cases er : hd (P 4) p = p
      · simp only [hp, decide_true, Bool.true_and, knB, er, e5]
        apply anys_cong
        intro i hi
        unfold kwS kwB
        by_cases c : hd (P 4) (ow N i) = p
        · rw [c, isSt_0 hnp hp e5]; simp
        · simp [c]
      · simp only [hp, decide_true, Bool.true_and, knB, er, decide_false, Bool.false_and]
        apply anys_no
        intro i hi
        unfold kwS
        have : ¬ hd (P 4) (ow N i) = p := by
          intro q
          apply er
          rw [← q]
          exact hdF_root (hw.root hnp (ho i hi).2) 24
        simp [this]
    · simp only [hp, decide_true, Bool.true_and, knB, e5, decide_false, Bool.and_false, Bool.false_and]
      apply anys_no
      intro i hi
      unfold kwS
      by_cases c : hd (P 4) (ow N i) = p
      · rw [c, isSt_1 hnp hp hs e5]; simp
      · simp [c]
  · simp only [hp, decide_false, Bool.false_and]
    apply anys_no
    intro i hi
    unfold kwS
    have : ¬ hd (P 4) (ow N i) = p := by
      have := hd_lt hw hnp (ho i hi).2
      omega
    simp [this]
theorem andP (k a d M r : Nat) (hd : d < 2 ^ k) (hr : r < 2 ^ k) : (2 ^ k * a + d) &&& (2 ^ k * M + r) = 2 ^ k * (a &&& M) + (d &&& r) := by
  apply Nat.eq_of_testBit_eq
  intro i
  have h3 : d &&& r < 2 ^ k := Nat.lt_of_le_of_lt Nat.and_le_left hd
  rw [Nat.testBit_and, Nat.testBit_two_pow_mul_add a hd, Nat.testBit_two_pow_mul_add M hr, Nat.testBit_two_pow_mul_add (a &&& M) h3]
  split
  · rw [Nat.testBit_and]
  · rw [Nat.testBit_and]
theorem and8 {a d M r : Nat} (h : d < 256) (hr : r < 256) : (d + 256 * a) &&& (r + 256 * M) = (d &&& r) + 256 * (a &&& M) := by
  have h1 := andP 8 a d M r h hr
  rw [show d + 256 * a = 2 ^ 8 * a + d by omega, show r + 256 * M = 2 ^ 8 * M + r by omega, h1]
  omega
def by1 (x : Nat) : Nat := x - ((x / 2) &&& 85)
def by2 (x : Nat) : Nat := (x &&& 51) + ((x / 4) &&& 51)
def by3 (x : Nat) : Nat := (x + x / 16) % 16
theorem by_1 : ∀ x, x < 256 → ∀ t, t < 2 → ((x / 2 + 128 * t) &&& 85) = ((x / 2) &&& 85) ∧ ((x / 2) &&& 85) ≤ x ∧ by1 x < 256 := by decide +kernel
theorem by_1b : ∀ x, x < 256 → ((x / 2) &&& 21845) = ((x / 2) &&& 85) := by decide +kernel
theorem by_2 : ∀ x, x < 256 → ∀ t, t < 4 → ((x / 4 + 64 * t) &&& 51) = ((x / 4) &&& 51) ∧ by2 x < 256 := by decide +kernel
theorem by_2b : ∀ x, x < 256 → ((x / 4) &&& 13107) = ((x / 4) &&& 51) ∧ (x &&& 13107) = (x &&& 51) := by decide +kernel
theorem by_3 : ∀ x, x < 256 → by2 (by1 x) ≤ 68 ∧ by2 (by1 x) % 16 ≤ 4 ∧ by2 (by1 x) / 16 ≤ 4 := by decide +kernel
theorem by_ct : ∀ x, x < 256 → by3 (by2 (by1 x)) = ct (fun p => x.testBit p) 8 ∧ ct (fun p => x.testBit p) 8 ≤ 8 := by decide +kernel
theorem bc1_by {a b c : Nat} (ha : a < 256) (hb : b < 256) (hc : c < 256) : bc1 (nI (c + 256 * (b + 256 * a))) = nI (by1 c + 256 * (by1 b + 256 * by1 a)) := by
  unfold bc1
  rw [show (1 : Int32) = nI 1 from rfl, ush_nI (by omega) (by omega), show (1431655765 : Int32) = nI 1431655765 from rfl, fa_and]
  have h1 := by_1 c hc (b % 2) (by omega)
  have h2 := by_1 b hb (a % 2) (by omega)
  have h3 := by_1b a ha
  have h4 := by_1 a ha 0 (by omega)
  rw [show (c + 256 * (b + 256 * a)) / 2 ^ 1 = (c / 2 + 128 * (b % 2)) + 256 * ((b / 2 + 128 * (a % 2)) + 256 * (a / 2)) by omega, show 1431655765 = 85 + 256 * (85 + 256 * 21845) by rfl, and8 (by omega) (by omega), and8 (by omega) (by omega), h1.1, h2.1, h3]
  have h1' := h1.2.1; have h2' := h2.2.1; have h4' := h4.2.1
  unfold by1
  generalize (c / 2) &&& 85 = x at *
  generalize (b / 2) &&& 85 = y at *
  generalize (a / 2) &&& 85 = z at *
  rw [pk_sub (by omega)]
  congr 1
  omega
theorem bc2_by {a b c : Nat} (ha : a < 256) (hb : b < 256) (hc : c < 256) : bc2 (nI (c + 256 * (b + 256 * a))) = nI (by2 c + 256 * (by2 b + 256 * by2 a)) := by
  unfold bc2
  rw [show (2 : Int32) = nI 2 from rfl, ush_nI (by omega) (by omega), show (858993459 : Int32) = nI 858993459 from rfl, fa_and, fa_and]
  have h1 := by_2 c hc (b % 4) (by omega)
  have h2 := by_2 b hb (a % 4) (by omega)
  have h3 := by_2b a ha
  rw [show (c + 256 * (b + 256 * a)) / 2 ^ 2 = (c / 4 + 64 * (b % 4)) + 256 * ((b / 4 + 64 * (a % 4)) + 256 * (a / 4)) by omega, show 858993459 = 51 + 256 * (51 + 256 * 13107) by rfl, and8 (by omega) (by omega), and8 (by omega) (by omega), and8 (by omega) (by omega), and8 (by omega) (by omega), h1.1, h2.1, h3.1, h3.2, nI_add]
  unfold by2
  generalize (c / 4) &&& 51 = x
  generalize (b / 4) &&& 51 = y
  generalize (a / 4) &&& 51 = z
  generalize c &&& 51 = x'
  generalize b &&& 51 = y'
  generalize a &&& 51 = z'
  congr 1
  omega
theorem and15 (x : Nat) : x &&& 15 = x % 16 := Nat.and_two_pow_sub_one_eq_mod x 4
theorem and63 (x : Nat) : x &&& 63 = x % 64 := Nat.and_two_pow_sub_one_eq_mod x 6
theorem bc3_by {a b c : Nat} (ha : a ≤ 68) (hb : b ≤ 68) (hc : c ≤ 68) (ha4 : a % 16 ≤ 4) (hb4 : b % 16 ≤ 4) (hc4 : c % 16 ≤ 4) : bc3 (nI (c + 256 * (b + 256 * a))) = nI (by3 c + 256 * (by3 b + 256 * by3 a)) := by
  unfold bc3
  rw [show (4 : Int32) = nI 4 from rfl, ush_nI (by omega) (by omega), nI_add, show (252645135 : Int32) = nI 252645135 from rfl, fa_and]
  rw [show (c + 256 * (b + 256 * a)) + (c + 256 * (b + 256 * a)) / 2 ^ 4 = (c + c / 16 + 16 * (b % 16)) + 256 * ((b + b / 16 + 16 * (a % 16)) + 256 * (a + a / 16)) by omega, show 252645135 = 15 + 256 * (15 + 256 * (15 + 256 * 15)) by rfl, and8 (by omega) (by omega), and8 (by omega) (by omega)]
  rw [show a + a / 16 = (a + a / 16) + 256 * 0 by omega, and8 (by omega) (by omega), Nat.zero_and, and15, and15, and15]
  unfold by3
  congr 1
  omega
theorem bc45_by {a b c : Nat} (ha : a ≤ 8) (hb : b ≤ 8) (hc : c ≤ 8) : bc5 (bc4 (nI (c + 256 * (b + 256 * a)))) &&& 63 = nI (c + b + a) := by
  unfold bc5 bc4
  rw [show (8 : Int32) = nI 8 from rfl, ush_nI (by omega) (by omega), nI_add, show (16 : Int32) = nI 16 from rfl]
  rw [show (c + 256 * (b + 256 * a)) + (c + 256 * (b + 256 * a)) / 2 ^ 8 = (c + b) + 256 * ((b + a) + 256 * a) by omega, ush_nI (by omega) (by omega), nI_add]
  rw [show (c + b) + 256 * ((b + a) + 256 * a) + ((c + b) + 256 * ((b + a) + 256 * a)) / 2 ^ 16 = (c + b + a) + 64 * (4 * ((b + a) + 256 * a)) by omega, show (63 : Int32) = nI 63 from rfl, fa_and, and63]
  congr 1
  omega
theorem ct_split (f : Nat → Bool) (m : Nat) : ∀ n, ct f (m + n) = ct f m + ct (fun k => f (m + k)) n
  | 0 => rfl
  | n + 1 => by
    have h := ct_split f m n
    have h1 : ct f (m + (n + 1)) = ct f (m + n) + (if f (m + n) = true then 1 else 0) := rfl
    have h2 : ct (fun k => f (m + k)) (n + 1) = ct (fun k => f (m + k)) n + (if f (m + n) = true then 1 else 0) := rfl
    omega
theorem bc_nat {n : Nat} (hn : n < 2 ^ 24) : bc (nI n) = nI (ct (fun p => n.testBit p) 24) := by
  obtain ⟨a, b, c, ha, hb, hc, rfl⟩ : ∃ a b c, a < 256 ∧ b < 256 ∧ c < 256 ∧ n = c + 256 * (b + 256 * a) := ⟨n / 65536, n / 256 % 256, n % 256, by omega, by omega, by omega, by omega⟩
  have a3 := by_3 a ha; have b3 := by_3 b hb; have c3 := by_3 c hc
  have ac := by_ct a ha; have bc' := by_ct b hb; have cc := by_ct c hc
  unfold bc
  rw [bc1_by ha hb hc, bc2_by (by_1 a ha 0 (by omega)).2.2 (by_1 b hb 0 (by omega)).2.2 (by_1 c hc 0 (by omega)).2.2, bc3_by a3.1 b3.1 c3.1 a3.2.1 b3.2.1 c3.2.1, ac.1, bc'.1, cc.1, bc45_by ac.2 bc'.2 cc.2]
  congr 1
  have t : ∀ p, (c + 256 * (b + 256 * a)).testBit p = if p < 8 then c.testBit p else (b + 256 * a).testBit (p - 8) := by
    intro p
    rw [show c + 256 * (b + 256 * a) = 2 ^ 8 * (b + 256 * a) + c by omega]
    exact Nat.testBit_two_pow_mul_add _ hc p
  have t2 : ∀ p, (b + 256 * a).testBit p = if p < 8 then b.testBit p else a.testBit (p - 8) := by
    intro p
    rw [show b + 256 * a = 2 ^ 8 * a + b by omega]
    exact Nat.testBit_two_pow_mul_add _ hb p
  have s1 := ct_split (fun p => (c + 256 * (b + 256 * a)).testBit p) 8 16
  have s2 := ct_split (fun k => (c + 256 * (b + 256 * a)).testBit (8 + k)) 8 8
  have e1 : ct (fun p => (c + 256 * (b + 256 * a)).testBit p) 8 = ct (fun p => c.testBit p) 8 := ct_cong (fun k hk => by rw [t, if_pos hk])
  have e2 : ct (fun k => (c + 256 * (b + 256 * a)).testBit (8 + k)) 8 = ct (fun p => b.testBit p) 8 := ct_cong (fun k hk => by rw [t, if_neg (by omega), t2, if_pos (by omega)]; congr 1; omega)
  have e3 : ct (fun k => (c + 256 * (b + 256 * a)).testBit (8 + (8 + k))) 8 = ct (fun p => a.testBit p) 8 := ct_cong (fun k hk => by rw [t, if_neg (by omega), t2, if_neg (by omega)]; congr 1; omega)
  have s1' : ct (fun p => (c + 256 * (b + 256 * a)).testBit p) 24 = _ := s1
  have s2' : ct (fun k => (c + 256 * (b + 256 * a)).testBit (8 + k)) 16 = _ := s2
  omega
