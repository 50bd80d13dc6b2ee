/-! plain rows for the reference: its own columns against the tables -/
theorem adn_full {mo n : Nat} (h : n = mo) : adn mo n = n := by simp [adn, h]
theorem arow_full {mo n : Nat} (h : n = mo) : arow mo n = -1 := by simp [arow, h]
theorem adn_more {mo n : Nat} (h : n < mo) : adn mo n = n + 1 := by rw [adn, if_neg (by omega)]
theorem arow_more {mo n : Nat} (h : n < mo) : arow mo n = nI n := by rw [arow, if_neg (by omega)]
theorem padd_full {np : Nat} {P : Nat → Nat → Int32} {a b c d : Int32} (h : np = 24) : paddT np P a b c d = P := by
  unfold paddT
  rw [arow_full h]
  simp only [tput_no (inR_m1 _)]
theorem padd_more {np : Nat} {P : Nat → Nat → Int32} {a b c d : Int32} (h : np < 24) : paddT np P a b c d = up2 (up2 (up2 (up2 (up2 (up2 P 0 np a) 1 np b) 2 np c) 3 np d) 4 np (-1)) 5 np 0 := by
  unfold paddT
  rw [arow_more h, adn_more h]
  have k : ∀ (C : Nat → Nat → Int32) (c : Nat) (v : Int32), c < 6 → tput (np + 1) 6 C (nI np) (nI c) v = up2 C c np v := fun C c v hc => tput_nI (by omega) (by omega) (by omega) hc
  show tput (np + 1) 6 (tput (np + 1) 6 (tput (np + 1) 6 (tput (np + 1) 6 (tput (np + 1) 6 (tput (np + 1) 6 P (nI np) (nI 0) a) (nI np) (nI 1) b) (nI np) (nI 2) c) (nI np) (nI 3) d) (nI np) (nI 4) (-1)) (nI np) (nI 5) 0 = _
  rw [k _ 0 _ (by omega), k _ 1 _ (by omega), k _ 2 _ (by omega), k _ 3 _ (by omega), k _ 4 _ (by omega), k _ 5 _ (by omega)]
theorem padd_fl {np : Nat} {P : Nat → Nat → Int32} {a b c d : Int32} (h : np < 24) : fl 4 (paddT np P a b c d) = upd (upd (upd (upd (fl 4 P) (np * 4 + 0) a) (np * 4 + 1) b) (np * 4 + 2) c) (np * 4 + 3) d := by
  rw [padd_more h, fl_up_out (by omega) (by omega), fl_up_out (by omega) (by omega), fl_up (by omega), fl_up (by omega), fl_up (by omega), fl_up (by omega)]
theorem padd_4 {np : Nat} {P : Nat → Nat → Int32} {a b c d : Int32} (h : np < 24) : paddT np P a b c d 4 = upd (P 4) np (-1) := by
  rw [padd_more h]; rfl
theorem upd_same {f : Nat → Int32} {k : Nat} {v : Int32} (h : f k = v) : upd f k v = f := by
  funext j
  unfold upd
  split
  · rw [← h]; congr 1; omega
  · rfl
theorem padd_5 {np : Nat} {P : Nat → Nat → Int32} {a b c d : Int32} (h : np < 24) (h5 : P 5 np = 0) : paddT np P a b c d 5 = P 5 := by
  rw [padd_more h]
  exact upd_same h5
theorem hadd_full {nh : Nat} {G : Nat → Nat → Int32} {a b c d e : Int32} (h : nh = 5) : haddT nh G a b c d e = G := by
  unfold haddT
  rw [arow_full h]
  simp only [tput_no (inR_m1 _)]
theorem hadd_more {np : Nat} {P : Nat → Nat → Int32} {a b c d e : Int32} (h : np < 5) : haddT np P a b c d e = up2 (up2 (up2 (up2 (up2 (up2 P 0 np a) 1 np b) 2 np c) 3 np d) 4 np e) 5 np 0 := by
  unfold haddT
  rw [arow_more h, adn_more h]
  have k : ∀ (C : Nat → Nat → Int32) (c : Nat) (v : Int32), c < 6 → tput (np + 1) 6 C (nI np) (nI c) v = up2 C c np v := fun C c v hc => tput_nI (by omega) (by omega) (by omega) hc
  show tput (np + 1) 6 (tput (np + 1) 6 (tput (np + 1) 6 (tput (np + 1) 6 (tput (np + 1) 6 (tput (np + 1) 6 P (nI np) (nI 0) a) (nI np) (nI 1) b) (nI np) (nI 2) c) (nI np) (nI 3) d) (nI np) (nI 4) e) (nI np) (nI 5) 0 = _
  rw [k _ 0 _ (by omega), k _ 1 _ (by omega), k _ 2 _ (by omega), k _ 3 _ (by omega), k _ 4 _ (by omega), k _ 5 _ (by omega)]
theorem hadd_5 {nh : Nat} {G : Nat → Nat → Int32} {a b c d e : Int32} (h : nh < 5) (h5 : G 5 nh = 0) : haddT nh G a b c d e 5 = G 5 := by
  rw [hadd_more h]
  exact upd_same h5
theorem nadd_full {nn : Nat} {N : Nat → Nat → Int32} {a b c d e : Int32} (h : nn = 200) : naddT nn N a b c d e = N := by
  unfold naddT
  rw [arow_full h]
  simp only [tput_no (inR_m1 _)]
theorem nadd_more {np : Nat} {P : Nat → Nat → Int32} {a b c d e : Int32} (h : np < 200) : naddT np P a b c d e = up2 (up2 (up2 (up2 (up2 P 0 np a) 1 np b) 2 np c) 3 np d) 4 np e := by
  unfold naddT
  rw [arow_more h, adn_more h]
  have k : ∀ (C : Nat → Nat → Int32) (c : Nat) (v : Int32), c < 5 → tput (np + 1) 5 C (nI np) (nI c) v = up2 C c np v := fun C c v hc => tput_nI (by omega) (by omega) (by omega) hc
  show tput (np + 1) 5 (tput (np + 1) 5 (tput (np + 1) 5 (tput (np + 1) 5 (tput (np + 1) 5 P (nI np) (nI 0) a) (nI np) (nI 1) b) (nI np) (nI 2) c) (nI np) (nI 3) d) (nI np) (nI 4) e = _
  rw [k _ 0 _ (by omega), k _ 1 _ (by omega), k _ 2 _ (by omega), k _ 3 _ (by omega), k _ 4 _ (by omega)]
theorem badd_full {nb : Nat} {B : Nat → Nat → Int32} {a b c d : Int32} (h : nb = 20) : baddT nb B a b c d = B := by
  unfold baddT
  rw [arow_full h]
  simp only [tput_no (inR_m1 _)]
theorem badd_more {np : Nat} {P : Nat → Nat → Int32} {a b c d : Int32} (h : np < 20) : baddT np P a b c d = up2 (up2 (up2 (up2 P 0 np a) 1 np b) 2 np c) 3 np d := by
  unfold baddT
  rw [arow_more h, adn_more h]
  have k : ∀ (C : Nat → Nat → Int32) (c : Nat) (v : Int32), c < 4 → tput (np + 1) 4 C (nI np) (nI c) v = up2 C c np v := fun C c v hc => tput_nI (by omega) (by omega) (by omega) hc
  show tput (np + 1) 4 (tput (np + 1) 4 (tput (np + 1) 4 (tput (np + 1) 4 P (nI np) (nI 0) a) (nI np) (nI 1) b) (nI np) (nI 2) c) (nI np) (nI 3) d = _
  rw [k _ 0 _ (by omega), k _ 1 _ (by omega), k _ 2 _ (by omega), k _ 3 _ (by omega)]
theorem eadd_more {np : Nat} {P : Nat → Nat → Int32} {a b c d e f : Int32} (h : np < 200) : eaddT np P a b c d e f = up2 (up2 (up2 (up2 (up2 (up2 P 0 np a) 1 np b) 2 np c) 3 np d) 4 np e) 5 np f := by
  unfold eaddT
  rw [arow_more h, adn_more h]
  have k : ∀ (C : Nat → Nat → Int32) (c : Nat) (v : Int32), c < 6 → tput (np + 1) 6 C (nI np) (nI c) v = up2 C c np v := fun C c v hc => tput_nI (by omega) (by omega) (by omega) hc
  show tput (np + 1) 6 (tput (np + 1) 6 (tput (np + 1) 6 (tput (np + 1) 6 (tput (np + 1) 6 (tput (np + 1) 6 P (nI np) (nI 0) a) (nI np) (nI 1) b) (nI np) (nI 2) c) (nI np) (nI 3) d) (nI np) (nI 4) e) (nI np) (nI 5) f = _
  rw [k _ 0 _ (by omega), k _ 1 _ (by omega), k _ 2 _ (by omega), k _ 3 _ (by omega), k _ 4 _ (by omega), k _ 5 _ (by omega)]
theorem eadd_fl {np : Nat} {P : Nat → Nat → Int32} {a b c d e f : Int32} (h : np < 200) : fl 6 (eaddT np P a b c d e f) = upd (upd (upd (upd (upd (upd (fl 6 P) (np * 6 + 0) a) (np * 6 + 1) b) (np * 6 + 2) c) (np * 6 + 3) d) (np * 6 + 4) e) (np * 6 + 5) f := by
  rw [eadd_more h, fl_up (by omega), fl_up (by omega), fl_up (by omega), fl_up (by omega), fl_up (by omega), fl_up (by omega)]
theorem mulI (a b : Nat) : nI a * nI b = nI (b * a) := by rw [pk_mul, Nat.mul_comm]
theorem ixI (k a c : Nat) : nI k * nI a + nI c = nI (a * k + c) := by rw [mulI, nI_add]
theorem inB_ex {v : Int32} {hi : Nat} {H : Int32} (h : inB v 0 H = true) (e : H = nI hi) (hb : hi < 2 ^ 31 - 1) : ∃ j, j ≤ hi ∧ v = nI j := by
  unfold inB at h
  simp only [Bool.and_eq_true, Bool.not_eq_true', decide_eq_false_iff_not] at h
  obtain ⟨j, hj, rfl⟩ := nI_of h.1
  refine ⟨j, ?_, rfl⟩
  rw [e, nI_ltI (by omega) hj] at h
  omega
theorem isSt_nI {np : Nat} {P : Nat → Nat → Int32} {j : Nat} (hn : np ≤ 24) (h : j < np) : isSt np P (nI j) = decide (P 5 j = 1) := by
  unfold isSt
  rw [show tat np 6 P (nI j) 5 = P 5 j from tat_nI (c := 5) (by omega) (by omega) h (by omega)]
theorem isSt_0 {np : Nat} {P : Nat → Nat → Int32} {j : Nat} (hn : np ≤ 24) (h : j < np) (e : P 5 j = 0) : isSt np P (nI j) = false := by
  rw [isSt_nI hn h, e]; decide
theorem isSt_1 {np : Nat} {P : Nat → Nat → Int32} {j : Nat} (hn : np ≤ 24) (h : j < np) (hs : ∀ p, P 5 p = 0 ∨ P 5 p = 1) (e : ¬ P 5 j = 0) : isSt np P (nI j) = true := by
  rw [isSt_nI hn h, (hs j).resolve_left e]; decide
/-- what struck out does to the reference's columns -/
theorem strk_fl (np : Nat) (P : Nat → Nat → Int32) (h i : Nat) : fl 4 (strk np P h i) = fl 4 P := by
  funext k
  unfold fl strk
  rw [if_neg]
  rintro ⟨h1, -⟩
  have := Nat.mod_lt k (show 0 < 4 by omega)
  omega
theorem strk_big {np : Nat} {P : Nat → Nat → Int32} {h i : Nat} (hi : np ≤ i) (h24 : np ≤ 24) : strk np P h 24 = strk np P h i := by
  funext c r
  unfold strk
  by_cases hr : r < np
  · have h1 : r < 24 := by omega
    have h2 : r < i := by omega
    simp [hr, h1, h2]
  · simp [hr]
theorem tatG {nh : Nat} {G : Nat → Nat → Int32} {h c : Nat} (hn : nh ≤ 5) (hh : h < nh) (hc : c < 6) : tat nh 6 G (nI h) (nI c) = G c h := tat_nI (by omega) (by omega) hh hc
def GH (G : Nat → Nat → Int32) (h : Nat) : Prop := (∃ s : Nat, 1 ≤ s ∧ s ≤ 365 ∧ G 1 h = nI s) ∧ (∃ d : Nat, d ≤ 9972 ∧ G 2 h = nI d) ∧ (G 5 h = 0 ∨ G 5 h = 1)
def spW (G : Nat → Nat → Int32) (td : Int32) (h : Nat) : Int32 := if G 0 h = 1 then td / G 1 h else 0
theorem GH.span {G : Nat → Nat → Int32} {h : Nat} (g : GH G h) : ¬ G 1 h ≤ 0 := by
  obtain ⟨s, h1, h2, e⟩ := g.1
  rw [e]
  exact nI_nle (by omega) (by omega)
theorem GH.span0 {G : Nat → Nat → Int32} {h : Nat} (g : GH G h) : ¬ G 1 h = 0 := fun e => g.span (by rw [e]; decide)
theorem spN_else {nh : Nat} {G : Nat → Nat → Int32} {td k : Int32} {h : Nat} (hn : nh ≤ 5) (hh : h < nh) (g : GH G h) (e : ¬ G 0 h = 2) : spN nh G (nI h) td k = spW G td h := by
  have h0 : tat nh 6 G (nI h) 0 = G 0 h := tatG (c := 0) hn hh (by omega)
  have h1 : tat nh 6 G (nI h) 1 = G 1 h := tatG (c := 1) hn hh (by omega)
  unfold spN spW
  rw [h0, h1, if_neg e]
  by_cases c : G 0 h = 1
  · rw [if_pos ⟨c, g.span⟩, if_pos c]
  · rw [if_neg (fun q => c q.1), if_neg c]
theorem spN_once {nh : Nat} {G : Nat → Nat → Int32} {td k : Int32} {h : Nat} (hn : nh ≤ 5) (hh : h < nh) (e : G 0 h = 2) : spN nh G (nI h) td k = k := by
  have h0 : tat nh 6 G (nI h) 0 = G 0 h := tatG (c := 0) hn hh (by omega)
  unfold spN
  rw [h0, if_pos e]
theorem ct_mono {f : Nat → Bool} : ∀ {m n : Nat}, m ≤ n → ct f m ≤ ct f n := by
  intro m n h
  induction n with
  | zero => have e : m = 0 := by omega
            rw [e]; exact Nat.le_refl _
  | succ n ih =>
    rcases Nat.lt_or_ge m (n + 1) with q | q
    · have h1 := ih (by omega)
      have h2 : ct f (n + 1) = ct f n + (if f n = true then 1 else 0) := rfl
      omega
    · have e : m = n + 1 := by omega
      rw [e]; exact Nat.le_refl _
theorem ct_cong {f g : Nat → Bool} : ∀ {n : Nat}, (∀ k, k < n → f k = g k) → ct f n = ct g n
  | 0, _ => rfl
  | n + 1, h => by rw [ct, ct, ct_cong (fun k hk => h k (by omega)), h n (by omega)]
/-- ONCE: no name has the number that the next one would have -/
theorem nrow_once {nh nn : Nat} {P G N : Nat → Nat → Int32} {td : Int32} {h p : Nat} (hn : nh ≤ 5) (hnn : nn ≤ 200) (hh : h < nh) (hon : ∀ i h, i < nn → h < nh → N 0 i = nI h → G 0 h = 2 → N 4 i = nI (ct (fun j => decide (N 0 j = nI h)) (i + 1))) (e : G 0 h = 2) : nrow nh nn P G N td (nI h) p = -1 := by
  unfold nrow
  apply fsI_none
  intro i hi
  unfold ffB
  by_cases c : N 0 i = nI h
  · have h1 := hon i h hi hh c e
    have h2 : ¬ N 4 i = nspI nh nn G N td (nI h) := by
      unfold nspI
      rw [spN_once hn hh e, h1]
      unfold nkI
      rw [nI_1]
      intro q
      have h3 := nI_inj (by have := ct_le (fun j => decide (N 0 j = nI h)) (i + 1); omega) (by have := ct_le (fun j => decide (N 0 j = nI h)) nn; omega) q
      have h4 := ct_mono (f := fun j => decide (N 0 j = nI h)) (show i + 1 ≤ nn by omega)
      omega
    simp [h2]
  · simp [c]
theorem nrow_else {nh nn : Nat} {P G N : Nat → Nat → Int32} {td : Int32} {h p : Nat} (hn : nh ≤ 5) (hh : h < nh) (g : GH G h) (e : ¬ G 0 h = 2) : nrow nh nn P G N td (nI h) p = fsI (ffB N (P 4) (nI h) (spW G td h) (nI (hd (P 4) p))) nn := by
  unfold nrow nspI
  rw [spN_else hn hh g e]
def nmMc (nh nn : Nat) (P G N : Nat → Nat → Int32) (td : Int32) (mc : Nat → Int32) (h p : Nat) : Nat → Int32 := if nrow nh nn P G N td (nI h) p = -1 ∧ nn < 200 then upd mc h (mc h + 1) else mc
theorem nmI_ex {nh nn : Nat} {P G N : Nat → Nat → Int32} {td : Int32} {h : Int32} {p : Nat} (hnn : nn ≤ 200) (c : ¬ nmI nh nn P G N td h p = -1) : ∃ i, i < nmNn nh nn P G N td h p ∧ nmI nh nn P G N td h p = nI i := by
  unfold nmI at c ⊢
  unfold nmNn
  by_cases e : nrow nh nn P G N td h p = -1
  · simp only [if_pos e] at c ⊢
    have h1 : ¬ 200 ≤ nn := fun q => c ((arow_m1 (by omega)).mpr q)
    exact ⟨nn, by rw [adn_more (by omega)]; omega, arow_more (by omega)⟩
  · simp only [if_neg e] at c ⊢
    unfold nrow at e ⊢
    obtain ⟨i, h1, h2, -⟩ := fsI_ex (by omega) e
    exact ⟨i, h1, h2⟩
theorem nmNn_le {nh nn : Nat} {P G N : Nat → Nat → Int32} {td h : Int32} {p : Nat} (hnn : nn ≤ 200) : nmNn nh nn P G N td h p ≤ 200 := by
  unfold nmNn
  split
  · exact adn_le hnn
  · exact hnn
theorem nmR_no {nh nn : Nat} {P G N : Nat → Nat → Int32} {td h : Int32} {p : Nat} (c : nmI nh nn P G N td h p = -1) : nmR nh nn P G N td h p = -1 := by
  unfold nmR
  rw [c]
  exact tat_no (inR_m1 _)
theorem nmR_at {nh nn : Nat} {P G N : Nat → Nat → Int32} {td h : Int32} {p i : Nat} (hnn : nn ≤ 200) (hi : i < nmNn nh nn P G N td h p) (e : nmI nh nn P G N td h p = nI i) : nmR nh nn P G N td h p = nmT nh nn P G N td h p 1 i := by
  unfold nmR
  rw [e]
  have := nmNn_le (nh := nh) (P := P) (G := G) (N := N) (td := td) (h := h) (p := p) hnn
  exact tat_nI (c := 1) (by omega) (by omega) hi (by omega)
def kwB (N : Nat → Nat → Int32) (w : Nat → Int32) (h : Int32) (p i : Nat) : Bool := decide (N 0 i = h) && decide (hd w (ow N i) = p)
def knB (nn : Nat) (P N : Nat → Nat → Int32) (h : Int32) (p : Nat) : Bool := decide (hd (P 4) p = p) && decide (P 5 p = 0) && anys (kwB N (P 4) h p) nn
def alM (P : Nat → Nat → Int32) (p q : Nat) (set : Int32) (m : Nat) : Bool := decide (((set >>> (nI m &&& 31)) &&& 1) = 0) || decide (P m p = P m q)
def grM (np nn : Nat) (P N : Nat → Nat → Int32) (h : Int32) (p : Nat) (set : Int32) : Nat := ct (fun q => knB nn P N h q && alls (alM P p q set) 4) np
def lsM (np nn : Nat) (P N : Nat → Nat → Int32) (h set : Int32) : Nat → Int32
  | 0 => 0
  | p + 1 => if knB nn P N h p = true then (if lsM np nn P N h set p = 0 ∨ ¬ lsM np nn P N h set p ≤ nI (grM np nn P N h p set) then nI (grM np nn P N h p set) else lsM np nn P N h set p) else lsM np nn P N h set p
def crMc (np nh nn nb : Nat) (P G N B : Nat → Nat → Int32) (td : Int32) (mc : Nat → Int32) (h g : Nat) (nm : Int32) : Nat → Int32 := if crB np nh nn nb P G N B td (nI h) (nI g) nm = true then nmMc nh nn P G N td mc g (ow N (fsI (fdB N (nI h) nm) nn).toNatClampNeg) else mc
def crI (np nh nn nb : Nat) (P G N B : Nat → Nat → Int32) (td h g nm : Int32) : Int32 := if crB np nh nn nb P G N B td h g nm = true then nmI nh nn P G N td g (ow N (fsI (fdB N h nm) nn).toNatClampNeg) else -1
theorem nI_neq {n N : Nat} {x : Int32} (h : ¬ nI n = x) (e : x = nI N) : n ≠ N := fun q => h (by rw [q, e])
