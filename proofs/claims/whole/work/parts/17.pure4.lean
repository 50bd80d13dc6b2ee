/-! plain rows of the keeper: bridges, the record, naming, crossing, turning back, counts -/
def anys (f : Nat → Bool) : Nat → Bool
  | 0 => false
  | n + 1 => anys f n || f n
theorem anys_no {f : Nat → Bool} : ∀ {n : Nat}, (∀ j, j < n → f j = false) → anys f n = false
  | 0, _ => rfl
  | n + 1, h => by simp [anys, anys_no (fun j hj => h j (Nat.lt_succ_of_lt hj)), h n (Nat.lt_succ_self n)]
theorem anys_yes {f : Nat → Bool} {i : Nat} (hi : f i = true) : ∀ {n : Nat}, i < n → anys f n = true
  | 0, h2 => absurd h2 (Nat.not_lt_zero _)
  | n + 1, h2 => by
    rcases Nat.lt_or_ge i n with q | q
    · simp [anys, anys_yes hi q]
    · have e : i = n := by omega
      subst e
      simp [anys, hi]
theorem anys_ex {f : Nat → Bool} : ∀ {n : Nat}, anys f n = true → ∃ i, i < n ∧ f i = true
  | 0, h => by cases h
  | n + 1, h => by
    simp only [anys, Bool.or_eq_true] at h
    rcases h with h | h
    · obtain ⟨i, hi, e⟩ := anys_ex h
      exact ⟨i, by omega, e⟩
    · exact ⟨n, by omega, h⟩
theorem fsI_cases (f : Nat → Bool) : ∀ n, n < 2 ^ 31 → (fsI f n = -1 ∧ ∀ j, j < n → f j = false) ∨ ∃ i, i < n ∧ fsI f n = nI i ∧ f i = true ∧ ∀ j, j < i → f j = false
  | 0, _ => Or.inl ⟨rfl, fun j hj => absurd hj (Nat.not_lt_zero j)⟩
  | n + 1, hn => by
    rcases fsI_cases f n (by omega) with ⟨h1, h2⟩ | ⟨i, h1, h2, h3, h4⟩
    · by_cases c : f n = true
      · exact Or.inr ⟨n, by omega, fsI_some h2 c (by omega) (by omega), c, h2⟩
      · have c' : f n = false := by simpa using c
        exact Or.inl ⟨fsI_none (noS h2 c'), noS h2 c'⟩
    · exact Or.inr ⟨i, by omega, fsI_some h4 h3 (by omega) (by omega), h3, h4⟩
theorem fsI_ex {f : Nat → Bool} {n : Nat} (hn : n < 2 ^ 31) (h : ¬ fsI f n = -1) : ∃ i, i < n ∧ fsI f n = nI i ∧ f i = true ∧ ∀ j, j < i → f j = false := by
  rcases fsI_cases f n hn with h1 | h1
  · exact absurd h1.1 h
  · exact h1
theorem arow_m1 {mo n : Nat} (h : n < 2 ^ 31) : arow mo n = -1 ↔ mo ≤ n := by
  unfold arow
  split
  · simp [*]
  · simp [*, m1_nI h]
def brB (B : Nat → Nat → Int32) (h g day : Int32) (i : Nat) : Bool := decide (B 0 i = h) && decide (B 1 i = g) && !decide (day < B 2 i) && !decide (B 3 i < day)
def twoH (nh : Nat) (h g : Int32) : Bool := inR nh h && inR nh g && !decide (h = g)
def smlB (nh : Nat) (G : Nat → Nat → Int32) (h n : Int32) : Bool := !decide (n = 0) && !decide (tat nh 6 G h 4 ≤ n)
def baddT (nb : Nat) (B : Nat → Nat → Int32) (a b c d : Int32) : Nat → Nat → Int32 := tput (adn 20 nb) 4 (tput (adn 20 nb) 4 (tput (adn 20 nb) 4 (tput (adn 20 nb) 4 B (arow 20 nb) 0 a) (arow 20 nb) 1 b) (arow 20 nb) 2 c) (arow 20 nb) 3 d
def eaddT (ne : Nat) (E : Nat → Nat → Int32) (a b c d e f : Int32) : Nat → Nat → Int32 := tput (adn 200 ne) 6 (tput (adn 200 ne) 6 (tput (adn 200 ne) 6 (tput (adn 200 ne) 6 (tput (adn 200 ne) 6 (tput (adn 200 ne) 6 E (arow 200 ne) 0 a) (arow 200 ne) 1 b) (arow 200 ne) 2 c) (arow 200 ne) 3 d) (arow 200 ne) 4 e) (arow 200 ne) 5 f
def hbR (np nn : Nat) (P N : Nat → Nat → Int32) (h nm : Int32) : Int32 := if fsI (fdB N h nm) nn = -1 then -1 else if isSt np P (nI (ow N (fsI (fdB N h nm) nn).toNatClampNeg)) = true then -1 else nI (hd (P 4) (ow N (fsI (fdB N h nm) nn).toNatClampNeg))
def ldR (nn : Nat) (P N : Nat → Nat → Int32) (h nm : Int32) : Int32 := if fsI (fdB N h nm) nn = -1 then -1 else tat nn 5 N (fsI (ffB N (P 4) (N 0 (fsI (fdB N h nm) nn).toNatClampNeg) (N 4 (fsI (fdB N h nm) nn).toNatClampNeg) (nI (hd (P 4) (ow N (fsI (fdB N h nm) nn).toNatClampNeg)))) nn) 1
def nkI (nn : Nat) (N : Nat → Nat → Int32) (h : Int32) : Int32 := nI (ct (fun i => decide (N 0 i = h)) nn) + 1
def nspI (nh nn : Nat) (G N : Nat → Nat → Int32) (td h : Int32) : Int32 := spN nh G h td (nkI nn N h)
def nrow (nh nn : Nat) (P G N : Nat → Nat → Int32) (td h : Int32) (p : Nat) : Int32 := fsI (ffB N (P 4) h (nspI nh nn G N td h) (nI (hd (P 4) p))) nn
def nmNn (nh nn : Nat) (P G N : Nat → Nat → Int32) (td h : Int32) (p : Nat) : Nat := if nrow nh nn P G N td h p = -1 then adn 200 nn else nn
def nmT (nh nn : Nat) (P G N : Nat → Nat → Int32) (td h : Int32) (p : Nat) : Nat → Nat → Int32 := if nrow nh nn P G N td h p = -1 then naddT nn N h (remI (tat nh 6 G h 2 * nkI nn N h) 9973) (nI (hd (P 4) p)) td (nspI nh nn G N td h) else N
def nmI (nh nn : Nat) (P G N : Nat → Nat → Int32) (td h : Int32) (p : Nat) : Int32 := if nrow nh nn P G N td h p = -1 then arow 200 nn else nrow nh nn P G N td h p
def nmR (nh nn : Nat) (P G N : Nat → Nat → Int32) (td h : Int32) (p : Nat) : Int32 := tat (nmNn nh nn P G N td h p) 5 (nmT nh nn P G N td h p) (nmI nh nn P G N td h p) 1
def crB (np nh nn nb : Nat) (P G N B : Nat → Nat → Int32) (td h g nm : Int32) : Bool := !decide (fsI (fdB N h nm) nn = -1) && !decide (tat nh 6 G h 5 = 1) && anys (brB B h g td) nb && !(decide (tat nh 6 G h 0 = 1) && !decide (tat nn 5 N (fsI (fdB N h nm) nn) 4 = spN nh G h td 0)) && !isSt np P (nI (ow N (fsI (fdB N h nm) nn).toNatClampNeg))
def crR (np nh nn nb : Nat) (P G N B : Nat → Nat → Int32) (td h g nm : Int32) : Int32 := if crB np nh nn nb P G N B td h g nm = true then nmR nh nn P G N td g (ow N (fsI (fdB N h nm) nn).toNatClampNeg) else -1
def crNn (np nh nn nb : Nat) (P G N B : Nat → Nat → Int32) (td h g nm : Int32) : Nat := if crB np nh nn nb P G N B td h g nm = true then nmNn nh nn P G N td g (ow N (fsI (fdB N h nm) nn).toNatClampNeg) else nn
def crT (np nh nn nb : Nat) (P G N B : Nat → Nat → Int32) (td h g nm : Int32) : Nat → Nat → Int32 := if crB np nh nn nb P G N B td h g nm = true then nmT nh nn P G N td g (ow N (fsI (fdB N h nm) nn).toNatClampNeg) else N
def okC (nh ne : Nat) (h g hand : Int32) : Bool := inR nh h && inR nh g && inB hand 0 9 && !decide (200 ≤ ne)
def okB (nh ne : Nat) (h reason a b : Int32) : Bool := inR nh h && inB reason 0 7 && inB a 0 9 && inB b 0 9 && !decide (200 ≤ ne)
def alw (nh : Nat) (G : Nat → Nat → Int32) (h reason a b : Int32) : Bool := !decide (a = b) && isAm (tat nh 6 G h 3) reason && !decide (tat nh 6 G h 5 = 1)
def bkR (np nh nn : Nat) (P G N : Nat → Nat → Int32) (h nm reason a b : Int32) : Int32 := if alw nh G h reason a b = true then hbR np nn P N h nm else -1
def okBr (nh nb : Nat) (h g a b : Int32) : Bool := twoH nh h g && inB a 0 3000 && inB b 0 3000 && decide (a ≤ b) && !decide (20 ≤ nb)
def ush (x y : Int32) : Int32 := (x.toUInt32 >>> (y.toUInt32 &&& Int32.toUInt32 31)).toInt32
def bc1 (x : Int32) : Int32 := x - (ush x 1 &&& 1431655765)
def bc2 (x : Int32) : Int32 := (x &&& 858993459) + (ush x 2 &&& 858993459)
def bc3 (x : Int32) : Int32 := (x + ush x 4) &&& 252645135
def bc4 (x : Int32) : Int32 := x + ush x 8
def bc5 (x : Int32) : Int32 := x + ush x 16
def bc (x : Int32) : Int32 := bc5 (bc4 (bc3 (bc2 (bc1 x)))) &&& 63
def lsF (np : Nat) (P : Nat → Nat → Int32) (kn set : Int32) : Nat → Int32
  | 0 => bc kn
  | p + 1 => if ¬ gsz np P kn (nI p) set = 0 ∧ ¬ lsF np P kn set p ≤ gsz np P kn (nI p) set then gsz np P kn (nI p) set else lsF np P kn set p
def jnB (np : Nat) (P : Nat → Nat → Int32) (kh kg set : Int32) (p : Nat) : Bool := decide (gsz np P kh (nI p) set = 1) && decide (gsz np P kg (nI p) set = 1)
def hvI (np : Nat) (P : Nat → Nat → Int32) (kn m n : Int32) : Int32 := nI (ct (fun p => isAm kn (nI p) && decide (mkOf np P (nI p) m = n)) 24)
def tlH (np nh nn : Nat) (P G N : Nat → Nat → Int32) (w h : Int32) : Int32 := if inR nh h = true then (if w = 1 then nI (ct (fun i => decide (N 0 i = h)) nn) else if w = 2 then bc (knw np P N h nn) else if w = 3 then bI (decide (tat nh 6 G h 5 = 1)) else -1) else -1
def tlR (np nh nn nb ne : Nat) (td : Int32) (P G N : Nat → Nat → Int32) (w : Int32) : Int32 := if w = 0 then nI np else if w = 1 then nI nh else if w = 2 then td else if w = 3 then nI nn else if w = 4 then nI ne else if w = 5 then nI nb else tlH np nh nn P G N (w / 10) (remI w 10)
def lkR (np nn : Nat) (P N : Nat → Nat → Int32) (p w : Int32) : Int32 := if inR np p = true then (if w = 0 then nI (hd (P 4) p.toNatClampNeg) else if w = 1 then tat np 6 P p 4 else if w = 2 then bI (isSt np P p) else if w = 3 then nI (ct (fun i => decide (N 2 i = p)) nn) else mkOf np P p (w - 4)) else -1
