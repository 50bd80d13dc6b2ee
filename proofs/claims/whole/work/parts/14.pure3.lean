/-! plain rows of the houses and the names -/
def okH (kind span seed reasons least : Int32) : Bool := inB kind 0 2 && inB span 1 365 && inB seed 1 9972 && inB reasons 0 255 && inB least 0 24
theorem lt9973 (m : Int32) : (m < 9973) = ¬ (9972 < m) := by
  rw [fa_lt, fa_lt]
  have h4 : (9973 : Int32).toInt = 9973 := by decide
  have h3 : (9972 : Int32).toInt = 9972 := by decide
  rw [h4, h3]
  exact propext (by omega)
theorem le24 (m : Int32) : (m ≤ 24) = ¬ (24 < m) := by
  rw [fa_lt, fa_le]
  exact propext (by omega)
def haddT (nh : Nat) (G : Nat → Nat → Int32) (a b c d e : Int32) : Nat → Nat → Int32 := tput (adn 5 nh) 6 (tput (adn 5 nh) 6 (tput (adn 5 nh) 6 (tput (adn 5 nh) 6 (tput (adn 5 nh) 6 (tput (adn 5 nh) 6 G (arow 5 nh) 0 a) (arow 5 nh) 1 b) (arow 5 nh) 2 c) (arow 5 nh) 3 d) (arow 5 nh) 4 e) (arow 5 nh) 5 0
def naddT (nn : Nat) (N : Nat → Nat → Int32) (a b c d e : Int32) : Nat → Nat → Int32 := tput (adn 200 nn) 5 (tput (adn 200 nn) 5 (tput (adn 200 nn) 5 (tput (adn 200 nn) 5 (tput (adn 200 nn) 5 N (arow 200 nn) 0 a) (arow 200 nn) 1 b) (arow 200 nn) 2 c) (arow 200 nn) 3 d) (arow 200 nn) 4 e
def remI (x y : Int32) : Int32 := x - x / y * y
def spN (nh : Nat) (G : Nat → Nat → Int32) (h day k : Int32) : Int32 := if tat nh 6 G h 0 = 2 then k else if tat nh 6 G h 0 = 1 ∧ ¬ tat nh 6 G h 1 ≤ 0 then day / tat nh 6 G h 1 else 0
def fsI (f : Nat → Bool) : Nat → Int32
  | 0 => -1
  | n + 1 => if fsI f n = -1 then (if f n = true then nI n else -1) else fsI f n
theorem fsI_none {f : Nat → Bool} : ∀ {n : Nat}, (∀ j, j < n → f j = false) → fsI f n = -1
  | 0, _ => rfl
  | n + 1, h => by simp [fsI, fsI_none (fun j hj => h j (Nat.lt_succ_of_lt hj)), h n (Nat.lt_succ_self n)]
theorem fsI_some {f : Nat → Bool} {i : Nat} (h : ∀ j, j < i → f j = false) (hi : f i = true) (hb : i < 2 ^ 31) : ∀ {n : Nat}, i < n → fsI f n = nI i
  | 0, h2 => absurd h2 (Nat.not_lt_zero _)
  | n + 1, h2 => by
    rcases Nat.lt_or_ge i n with q | q
    · have e := fsI_some h hi hb q
      rw [fsI, e, if_neg (m1_nI hb)]
    · have e : i = n := by omega
      subst e
      rw [fsI, fsI_none h, if_pos rfl, if_pos hi]
/-- the owner of a name -/
def ow (N : Nat → Nat → Int32) (i : Nat) : Nat := (N 2 i).toNatClampNeg
def HO (nn np : Nat) (N : Nat → Nat → Int32) : Prop := ∀ i, i < nn → N 2 i = nI (ow N i) ∧ ow N i < np
def fdB (N : Nat → Nat → Int32) (h nm : Int32) (i : Nat) : Bool := decide (N 0 i = h) && decide (N 1 i = nm)
def ffB (N : Nat → Nat → Int32) (w : Nat → Int32) (h sp hh : Int32) (i : Nat) : Bool := decide (N 0 i = h) && decide (N 4 i = sp) && decide (nI (hd w (ow N i)) = hh)
def knw (np : Nat) (P N : Nat → Nat → Int32) (h : Int32) : Nat → Int32
  | 0 => 0
  | i + 1 => if N 0 i = h ∧ isSt np P (nI (hd (P 4) (ow N i))) = false then knw np P N h i ||| (1 <<< (nI (hd (P 4) (ow N i)) &&& 31)) else knw np P N h i
theorem noS {f : Nat → Bool} {i : Nat} (h : ∀ j, j < i → f j = false) (hi : f i = false) : ∀ j, j < i + 1 → f j = false := fun j hj => by
  rcases Nat.lt_or_ge j i with q | q
  · exact h j q
  · have e : j = i := by omega
    rw [e]; exact hi
