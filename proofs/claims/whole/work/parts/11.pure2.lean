/-! plain rows of the people: bounds, bits, heads, groups -/
def inB (v lo hi : Int32) : Bool := !decide (v < lo) && !decide (hi < v)
def isAm (x b : Int32) : Bool := decide (((x >>> (b &&& 31)) &&& 1) = 1)
def mkOf (np : Nat) (P : Nat → Nat → Int32) (p m : Int32) : Int32 := if inB m 0 3 = true then tat np 6 P p m else -1
def okM (a b c d : Int32) : Bool := inB a 0 7 && inB b 0 7 && inB c 0 7 && inB d 0 7
def paddT (np : Nat) (P : Nat → Nat → Int32) (a b c d : Int32) : Nat → Nat → Int32 := tput (adn 24 np) 6 (tput (adn 24 np) 6 (tput (adn 24 np) 6 (tput (adn 24 np) 6 (tput (adn 24 np) 6 (tput (adn 24 np) 6 P (arow 24 np) 0 a) (arow 24 np) 1 b) (arow 24 np) 2 c) (arow 24 np) 3 d) (arow 24 np) 4 (-1)) (arow 24 np) 5 0
def isHd (np : Nat) (P : Nat → Nat → Int32) (p : Int32) : Bool := inR np p && decide (tat np 6 P p 4 = -1)
def isSt (np : Nat) (P : Nat → Nat → Int32) (p : Int32) : Bool := decide (tat np 6 P p 5 = 1)
def alls (f : Nat → Bool) : Nat → Bool
  | 0 => true
  | n + 1 => alls f n && f n
def ct (f : Nat → Bool) : Nat → Nat
  | 0 => 0
  | n + 1 => ct f n + (if f n = true then 1 else 0)
theorem alls_no {f : Nat → Bool} {i : Nat} (h : f i = false) : ∀ {n : Nat}, i < n → alls f n = false
  | 0, h2 => absurd h2 (Nat.not_lt_zero _)
  | n + 1, h2 => by
    rcases Nat.lt_or_ge i n with q | q
    · simp [alls, alls_no h q]
    · have e : i = n := by omega
      subst e
      simp [alls, h]
theorem ct_le (f : Nat → Bool) : ∀ n, ct f n ≤ n
  | 0 => Nat.le_refl 0
  | n + 1 => by have ih := ct_le f n; unfold ct; split <;> omega
theorem ct_yes {f : Nat → Bool} {i : Nat} (h : f i = true) : nI (ct f i) + 1 = nI (ct f (i + 1)) := by
  rw [nI_1]; congr 1; simp [ct, h]
theorem ct_no {f : Nat → Bool} {i : Nat} (h : f i = false) : nI (ct f i) = nI (ct f (i + 1)) := by
  congr 1; simp [ct, h]
def alB (np : Nat) (P : Nat → Nat → Int32) (p q set : Int32) (m : Nat) : Bool := !isAm set (nI m) || decide (mkOf np P p (nI m) = mkOf np P q (nI m))
def gsz (np : Nat) (P : Nat → Nat → Int32) (kn p set : Int32) : Int32 := if isAm kn p = true then nI (ct (fun q => isAm kn (nI q) && alls (alB np P p (nI q) set) 4) 24) else 0
def hdF : Nat → (Nat → Int32) → Nat → Nat
  | 0, _, p => p
  | k + 1, w, p => if w p = -1 then p else hdF k w (w p).toNatClampNeg
def hd (w : Nat → Int32) (p : Nat) : Nat := hdF 24 w p
def HP (np : Nat) (w : Nat → Int32) : Prop := (∀ p, p < np → (w p = -1 ∨ ∃ q, q < np ∧ w p = nI q)) ∧ ∃ rk : Nat → Nat, ∀ p q, p < np → q < np → w p = nI q → rk q < rk p
theorem hdF_root {w : Nat → Int32} {p : Nat} (h : w p = -1) : ∀ k, hdF k w p = p
  | 0 => rfl
  | k + 1 => by simp [hdF, h]
theorem hdF_step {w : Nat → Int32} {p q : Nat} (h : w p = nI q) (hn : ¬ w p = -1) (hq : q < 2 ^ 31) (k : Nat) : hdF (k + 1) w p = hdF k w q := by
  rw [hdF, if_neg hn, h, nI_clamp hq]
theorem hdF_lt {np : Nat} {w : Nat → Int32} (h : ∀ p, p < np → (w p = -1 ∨ ∃ q, q < np ∧ w p = nI q)) (hn : np < 2 ^ 31) : ∀ (k p : Nat), p < np → hdF k w p < np
  | 0, p, hp => hp
  | k + 1, p, hp => by
    by_cases e : w p = -1
    · rw [hdF_root e]; exact hp
    · obtain ⟨q, hq, e2⟩ := (h p hp).resolve_left e
      rw [hdF_step e2 e (by omega)]
      exact hdF_lt h hn k q hq
theorem hd_lt {np : Nat} {w : Nat → Int32} (h : HP np w) (hn : np ≤ 24) {p : Nat} (hp : p < np) : hd w p < np := hdF_lt h.1 (by omega) 24 p hp
/-- all under a head struck out, up to i -/
def strk (np : Nat) (P : Nat → Nat → Int32) (h : Nat) (i : Nat) : Nat → Nat → Int32 := fun c r => if c = 5 ∧ r < np ∧ r < i ∧ hd (P 4) r = h then 1 else P c r
theorem strk_0 (np : Nat) (P : Nat → Nat → Int32) (h : Nat) : strk np P h 0 = P := by
  funext c r; simp [strk]
theorem strk_4 (np : Nat) (P : Nat → Nat → Int32) (h i : Nat) : strk np P h i 4 = P 4 := by
  funext r; simp [strk]
theorem strk_yes {np : Nat} {P : Nat → Nat → Int32} {h i : Nat} (hi : i < np) (hh : hd (P 4) i = h) : up2 (strk np P h i) 5 i 1 = strk np P h (i + 1) := by
  funext c r
  unfold up2 strk upd
  by_cases hc : c = 5
  · subst hc
    by_cases hr : r = i
    · subst hr; simp [hi, hh]
    · have : (r < i + 1) ↔ (r < i) := by omega
      simp [hr, this]
  · simp [hc]
theorem strk_no {np : Nat} {P : Nat → Nat → Int32} {h i : Nat} (hh : ¬ (i < np ∧ hd (P 4) i = h)) : strk np P h i = strk np P h (i + 1) := by
  funext c r
  unfold strk
  by_cases hr : r = i
  · subst hr
    rw [if_neg (by omega), if_neg]
    rintro ⟨h1, h2, h3, h4⟩
    exact hh ⟨h2, h4⟩
  · have : (r < i + 1) ↔ (r < i) := by omega
    simp only [this]
theorem lit_le {n : Int32} {N : Nat} (e : n = nI N) {i : Nat} (hN : N < 2 ^ 31) (hi : i < 2 ^ 31) : n ≤ nI i ↔ N ≤ i := by rw [e]; exact nI_leI hN hi
theorem le4 (m : Int32) : (4 ≤ m) = (3 < m) := by
  rw [fa_le, fa_lt]
  have h4 : (4 : Int32).toInt = 4 := by decide
  have h3 : (3 : Int32).toInt = 3 := by decide
  rw [h4, h3]
  exact propext (by omega)
theorem lit_T {n : Int32} {i : Nat} (h : n ≤ nI i) (N : Nat) (e : n = nI N) (hN : N < 2 ^ 31) (hi : i < 2 ^ 31) : N ≤ i := (lit_le e hN hi).mp h
theorem lit_F {n : Int32} {i : Nat} (h : ¬ n ≤ nI i) (N : Nat) (e : n = nI N) (hN : N < 2 ^ 31) (hi : i < 2 ^ 31) : i < N := Nat.lt_of_not_le (fun q => h ((lit_le e hN hi).mpr q))
theorem adn_le {mo n : Nat} (h : n ≤ mo) : adn mo n ≤ mo := by unfold adn; split <;> omega
theorem hdF_back (w : Nat → Int32) : ∀ (k p : Nat), hdF (k + 1) w p = if w (hdF k w p) = -1 then hdF k w p else (w (hdF k w p)).toNatClampNeg
  | 0, p => rfl
  | k + 1, p => by
    by_cases e : w p = -1
    · rw [hdF_root e, hdF_root e, if_pos e]
    · have h1 : hdF (k + 1 + 1) w p = hdF (k + 1) w (w p).toNatClampNeg := by rw [hdF, if_neg e]
      have h2 : hdF (k + 1) w p = hdF k w (w p).toNatClampNeg := by rw [hdF, if_neg e]
      rw [h1, h2]
      exact hdF_back w k _
theorem fb_holes : ∀ (m n : Nat) (f : Nat → Nat), (∀ i, i < n → f i < m) → (∀ i j, i < j → j < n → f i ≠ f j) → n ≤ m
  | 0, n, f, h, _ => by
    rcases Nat.eq_zero_or_pos n with e | e
    · omega
    · exact absurd (h 0 e) (Nat.not_lt_zero _)
  | m + 1, n, f, h, hd => by
    by_cases hx : ∃ k, k < n ∧ f k = m
    · obtain ⟨k, hk, ek⟩ := hx
      have h1 := fb_holes m (n - 1) (fun i => if i < k then f i else f (i + 1)) (by
        intro i hi
        by_cases c : i < k
        · have a := h i (by omega)
          have b : f i ≠ f k := hd i k c hk
          simp only [c, if_true]
          omega
        · have a := h (i + 1) (by omega)
          have b : f k ≠ f (i + 1) := hd k (i + 1) (by omega) (by omega)
          simp only [c, if_false]
          omega) (by
        intro i j hij hj
        by_cases c : i < k <;> by_cases d : j < k <;> simp only [c, d, if_true, if_false]
        · exact hd i j hij (by omega)
        · exact hd i (j + 1) (by omega) (by omega)
        · omega
        · exact hd (i + 1) (j + 1) (by omega) (by omega))
      omega
    · have h1 := fb_holes m n f (fun i hi => by
        have a := h i hi
        have b : f i ≠ m := fun e => hx ⟨i, hi, e⟩
        omega) hd
      omega
theorem m1_nI {q : Nat} (h : q < 2 ^ 31) : ¬ nI q = -1 := by
  rw [fa_eq, nI_toInt h]
  have : (-1 : Int32).toInt = -1 := by decide
  omega
theorem HP.root {np : Nat} {w : Nat → Int32} (h : HP np w) (hn : np ≤ 24) {p : Nat} (hp : p < np) : w (hd w p) = -1 := by
  obtain ⟨hv, rk, hrk⟩ := h
  have hlt : ∀ k, hdF k w p < np := fun k => hdF_lt hv (by omega) k p hp
  by_cases hall : ∃ k, k ≤ 24 ∧ w (hdF k w p) = -1
  · obtain ⟨k, hk, e⟩ := hall
    have key : ∀ d, hdF (k + d) w p = hdF k w p := by
      intro d
      induction d with
      | zero => rfl
      | succ d ih =>
        rw [← Nat.add_assoc, hdF_back, ih, if_pos e]
    have := key (24 - k)
    rw [show k + (24 - k) = 24 by omega] at this
    unfold hd
    rw [this]; exact e
  · have hne : ∀ k, k ≤ 24 → ¬ w (hdF k w p) = -1 := fun k hk e => hall ⟨k, hk, e⟩
    have hst : ∀ k, k ≤ 24 → rk (hdF (k + 1) w p) < rk (hdF k w p) := by
      intro k hk
      obtain ⟨q, hq, e⟩ := (hv _ (hlt k)).resolve_left (hne k hk)
      rw [hdF_back, if_neg (hne k hk), e, nI_clamp (by omega)]
      exact hrk _ q (hlt k) hq e
    have hdec : ∀ d i, i + d ≤ 24 → rk (hdF (i + d) w p) + d ≤ rk (hdF i w p) := by
      intro d
      induction d with
      | zero => intro i _; exact Nat.le_refl _
      | succ d ih =>
        intro i hi
        have h1 := ih i (by omega)
        have h2 := hst (i + d) (by omega)
        show rk (hdF (i + d + 1) w p) + (d + 1) ≤ _
        omega
    have := fb_holes np 25 (fun i => hdF i w p) (fun i _ => hlt i) (fun i j hij hj => by
      intro e
      have h1 := hdec (j - i) i (by omega)
      rw [show i + (j - i) = j by omega] at h1
      have e' : hdF i w p = hdF j w p := e
      rw [← e'] at h1
      omega)
    omega
/-- who is in whom has the same head -/
theorem HP.hd_step {np : Nat} {w : Nat → Int32} (h : HP np w) (hn : np ≤ 24) {p q : Nat} (hp : p < np) (hq : q < np) (e : w p = nI q) : hd w p = hd w q := by
  have h1 : hd w p = hdF 23 w q := by
    unfold hd
    exact hdF_step e (by rw [e]; exact m1_nI (by omega)) (by omega) 23
  have h2 : w (hdF 23 w q) = -1 := by rw [← h1]; exact h.root hn hp
  have h3 : hd w q = hdF 23 w q := by
    unfold hd
    rw [hdF_back, if_pos h2]
  rw [h1, h3]
theorem nI_inj {a b : Nat} (ha : a < 2 ^ 31) (hb : b < 2 ^ 31) (e : nI a = nI b) : a = b := (nI_eq ha hb).mp e
theorem HP.join {np : Nat} {w : Nat → Int32} (h : HP np w) (hn : np ≤ 24) {a b : Nat} (ha : a < np) (hb : b < np) (hab : a ≠ b) (ea : w a = -1) (eb : w b = -1) : HP np (upd w b (nI a)) := by
  have h' := h
  obtain ⟨hv, rk, hrk⟩ := h
  refine ⟨fun p hp => ?_, fun x => if hd w x = b then rk x + rk a + 1 else rk x, fun p q hp hq e => ?_⟩
  · unfold upd
    by_cases c : p = b
    · rw [if_pos c]; exact Or.inr ⟨a, ha, rfl⟩
    · rw [if_neg c]; exact hv p hp
  · unfold upd at e
    by_cases c : p = b
    · rw [if_pos c] at e
      have e2 : a = q := nI_inj (by omega) (by omega) e
      subst e2
      subst c
      have h1 : hd w p = p := hdF_root eb 24
      have h2 : hd w a = a := hdF_root ea 24
      show (if hd w a = p then _ else _) < (if hd w p = p then _ else _)
      rw [h1, h2, if_neg hab, if_pos rfl]
      omega
    · rw [if_neg c] at e
      have h1 := h'.hd_step hn hp hq e
      have h2 := hrk p q hp hq e
      show (if hd w q = b then _ else _) < (if hd w p = b then _ else _)
      rw [h1]
      split <;> omega
theorem HP.part {np : Nat} {w : Nat → Int32} (h : HP np w) (hn : np ≤ 24) (b : Nat) : HP np (upd w b (-1)) := by
  obtain ⟨hv, rk, hrk⟩ := h
  refine ⟨fun p hp => ?_, rk, fun p q hp hq e => ?_⟩
  · unfold upd
    by_cases c : p = b
    · rw [if_pos c]; exact Or.inl rfl
    · rw [if_neg c]; exact hv p hp
  · unfold upd at e
    by_cases c : p = b
    · rw [if_pos c] at e; exact absurd e.symm (m1_nI (by omega))
    · rw [if_neg c] at e; exact hrk p q hp hq e
theorem HP.add {np : Nat} {w : Nat → Int32} (h : HP np w) (hn : np ≤ 24) : HP (np + 1) (upd w np (-1)) := by
  obtain ⟨hv, rk, hrk⟩ := h
  refine ⟨fun p hp => ?_, rk, fun p q hp hq e => ?_⟩
  · unfold upd
    by_cases c : p = np
    · rw [if_pos c]; exact Or.inl rfl
    · rw [if_neg c]
      rcases hv p (by omega) with g | ⟨q, hq, g⟩
      · exact Or.inl g
      · exact Or.inr ⟨q, by omega, g⟩
  · unfold upd at e
    by_cases c : p = np
    · rw [if_pos c] at e; exact absurd e.symm (m1_nI (by omega))
    · rw [if_neg c] at e
      rcases hv p (by omega) with g | ⟨q2, hq2, g⟩
      · rw [g] at e; exact absurd e.symm (m1_nI (by omega))
      · rw [g] at e
        have e2 := nI_inj (by omega) (by omega) e
        subst e2
        exact hrk p q2 (by omega) hq2 g
def okJ (np : Nat) (P : Nat → Nat → Int32) (a b : Int32) : Bool := !decide (a = b) && isHd np P a && isHd np P b
def joinT (np : Nat) (P : Nat → Nat → Int32) (a b : Int32) : Nat → Nat → Int32 := if okJ np P a b = true then (if (isSt np (tput np 6 P b 4 a) a || isSt np (tput np 6 P b 4 a) b) = true then strk np (tput np 6 P b 4 a) a.toNatClampNeg 24 else tput np 6 P b 4 a) else P
theorem isHd_ex {np : Nat} {P : Nat → Nat → Int32} {p : Int32} (h : isHd np P p = true) (hn : np ≤ 24) : ∃ j, j < np ∧ p = nI j ∧ P 4 j = -1 := by
  unfold isHd at h
  rw [Bool.and_eq_true] at h
  obtain ⟨j, hj, rfl⟩ := inR_ex h.1 (by omega)
  have h2 := of_decide_eq_true h.2
  rw [show tat np 6 P (nI j) 4 = P 4 j from tat_nI (c := 4) (by omega) (by omega) hj (by omega)] at h2
  exact ⟨j, hj, rfl, h2⟩
theorem HP.joinT {np : Nat} {P : Nat → Nat → Int32} (h : HP np (P 4)) (hn : np ≤ 24) {a b : Nat} (ha : a < np) (hb : b < np) (hab : ¬ nI a = nI b) (ea : P 4 a = -1) (eb : P 4 b = -1) : HP np ((tput np 6 P (nI b) 4 (nI a)) 4) := by
  rw [show tput np 6 P (nI b) 4 (nI a) = up2 P 4 b (nI a) from tput_nI (c := 4) (by omega) (by omega) hb (by omega)]
  exact h.join hn ha hb (fun e => hab (by rw [e])) ea eb
