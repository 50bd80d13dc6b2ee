/-! what every run keeps -/
def IvP (np : Nat) (P : Nat → Nat → Int32) : Prop := HP np (P 4) ∧ (∀ p, P 5 p = 0 ∨ P 5 p = 1) ∧ ∀ p, np ≤ p → P 5 p = 0
def IvG (nh : Nat) (G : Nat → Nat → Int32) : Prop := (∀ h, h < nh → GH G h) ∧ ∀ h, nh ≤ h → G 5 h = 0
def IvN (np nh nn : Nat) (k0 : Nat → Int32) (N : Nat → Nat → Int32) (mc : Nat → Int32) : Prop := HO nn np N ∧ (∀ i, i < nn → ∃ h, h < nh ∧ N 0 i = nI h) ∧ (∀ i, i < nn → ¬ N 1 i = -1) ∧ (∀ h, h < 5 → mc h = nI (ct (fun i => decide (N 0 i = nI h)) nn)) ∧ ∀ i h, i < nn → h < nh → N 0 i = nI h → k0 h = 2 → N 4 i = nI (ct (fun j => decide (N 0 j = nI h)) (i + 1))
def IvT (td : Int32) : Prop := ∃ d : Nat, d ≤ 3000 ∧ td = nI d
def Iv (np nh nn nb ne : Nat) (td : Int32) (P G N : Nat → Nat → Int32) (mc : Nat → Int32) : Prop := (np ≤ 24 ∧ nh ≤ 5 ∧ nn ≤ 200 ∧ nb ≤ 20 ∧ ne ≤ 200) ∧ IvP np P ∧ IvG nh G ∧ IvN np nh nn (G 0) N mc ∧ IvT td
theorem IvP.cong {np : Nat} {P Q : Nat → Nat → Int32} (h : IvP np P) (e4 : Q 4 = P 4) (e5 : Q 5 = P 5) : IvP np Q := by
  unfold IvP
  rw [e4, e5]
  exact h
theorem IvP.add {np : Nat} {P : Nat → Nat → Int32} {a b c d : Int32} (h : IvP np P) (hnp : np ≤ 24) : IvP (adn 24 np) (paddT np P a b c d) := by
  rcases Nat.lt_or_ge np 24 with hlt | hge
  · rw [adn_more hlt]
    refine ⟨?_, ?_, ?_⟩
    · rw [padd_4 hlt]; exact h.1.add hnp
    · rw [padd_5 hlt (h.2.2 np (Nat.le_refl np))]; exact h.2.1
    · rw [padd_5 hlt (h.2.2 np (Nat.le_refl np))]; exact fun p hp => h.2.2 p (by omega)
  · have e : np = 24 := by omega
    rw [adn_full e, padd_full e]; exact h
theorem IvP.mark {np : Nat} {P : Nat → Nat → Int32} {p m n : Int32} (h : IvP np P) (hnp : np ≤ 24) : IvP np (if (inR np p && inB m 0 3 && inB n 0 7) = true then tput np 6 P p m n else P) := by
  by_cases c : (inR np p && inB m 0 3 && inB n 0 7) = true
  · rw [if_pos c]
    simp only [Bool.and_eq_true] at c
    obtain ⟨j, hj, rfl⟩ := inR_ex c.1.1 (by omega)
    obtain ⟨k, hk, rfl⟩ := inB_ex (hi := 3) c.1.2 rfl (by omega)
    rw [tput_nI (by omega) (by omega) hj (by omega)]
    exact h.cong (if_neg (by omega)) (if_neg (by omega))
  · rw [if_neg c]; exact h
theorem strk_5 {np : Nat} {P : Nat → Nat → Int32} {h i : Nat} (hs : ∀ p, P 5 p = 0 ∨ P 5 p = 1) (p : Nat) : strk np P h i 5 p = 0 ∨ strk np P h i 5 p = 1 := by
  unfold strk
  split
  · exact Or.inr rfl
  · exact hs p
theorem IvP.str1 {np : Nat} {P : Nat → Nat → Int32} (g : IvP np P) (h i : Nat) : IvP np (strk np P h i) := by
  refine ⟨?_, fun p => strk_5 g.2.1 p, fun p hp => ?_⟩
  · rw [strk_4]; exact g.1
  · have : strk np P h i 5 p = P 5 p := by unfold strk; rw [if_neg (fun q => by omega)]
    rw [this]; exact g.2.2 p hp
theorem IvP.strike {np : Nat} {P : Nat → Nat → Int32} {p : Int32} (h : IvP np P) : IvP np (if (inR np p && !isSt np P p) = true then strk np P (hd (P 4) p.toNatClampNeg) 24 else P) := by
  split
  · exact h.str1 _ _
  · exact h
theorem IvP.part {np : Nat} {P : Nat → Nat → Int32} {p : Int32} (h : IvP np P) (hnp : np ≤ 24) : IvP np (if tat np 6 P p 4 = -1 then P else tput np 6 P p 4 (-1)) := by
  by_cases c : tat np 6 P p 4 = -1
  · rw [if_pos c]; exact h
  · rw [if_neg c]
    cases e : inR np p with
    | false => exact absurd (tat_no e) c
    | true =>
      obtain ⟨j, hj, rfl⟩ := inR_ex e (by omega)
      rw [show tput np 6 P (nI j) 4 (-1) = up2 P 4 j (-1) from tput_nI (c := 4) (by omega) (by omega) hj (by omega)]
      exact ⟨h.1.part hnp j, h.2.1, h.2.2⟩
theorem IvP.jn {np : Nat} {P : Nat → Nat → Int32} {a b : Int32} (h : IvP np P) (hnp : np ≤ 24) : IvP np (joinT np P a b) := by
  unfold joinT
  by_cases c : okJ np P a b = true
  · rw [if_pos c]
    simp only [okJ, Bool.and_eq_true, Bool.not_eq_true', decide_eq_false_iff_not] at c
    obtain ⟨ja, hja, rfl, ea⟩ := isHd_ex c.1.2 hnp
    obtain ⟨jb, hjb, rfl, eb⟩ := isHd_ex c.2 hnp
    have hu : tput np 6 P (nI jb) 4 (nI ja) = up2 P 4 jb (nI ja) := tput_nI (c := 4) (by omega) (by omega) hjb (by omega)
    have h1 : IvP np (tput np 6 P (nI jb) 4 (nI ja)) := by
      rw [hu]
      exact ⟨h.1.join hnp hja hjb (fun q => c.1.1 (by rw [q])) ea eb, h.2.1, h.2.2⟩
    split
    · exact h1.str1 _ _
    · exact h1
  · rw [if_neg c]; exact h
theorem IvG.add {nh : Nat} {G : Nat → Nat → Int32} {kd sn sd rs lt : Int32} (h : IvG nh G) (hnh : nh ≤ 5) (ok : okH kd sn sd rs lt = true) : IvG (adn 5 nh) (haddT nh G kd sn sd rs lt) := by
  rcases Nat.lt_or_ge nh 5 with hlt | hge
  · rw [adn_more hlt, hadd_more hlt]
    simp only [okH, Bool.and_eq_true] at ok
    have hsn : ∃ s : Nat, 1 ≤ s ∧ s ≤ 365 ∧ sn = nI s := by
      have h1 := ok.1.1.1.2
      unfold inB at h1
      simp only [Bool.and_eq_true, Bool.not_eq_true', decide_eq_false_iff_not, fa_lt] at h1
      have e1 : (1 : Int32).toInt = 1 := by decide
      have e3 : (365 : Int32).toInt = 365 := by decide
      rw [e1, e3] at h1
      have h0 : ¬ sn < 0 := by
        have e0 : (0 : Int32).toInt = 0 := by decide
        rw [fa_lt, e0]; omega
      obtain ⟨s, hs, rfl⟩ := nI_of h0
      rw [nI_toInt hs] at h1
      exact ⟨s, by omega, by omega, rfl⟩
    have hsd : ∃ s : Nat, s ≤ 9972 ∧ sd = nI s := by
      have h1 := ok.1.1.2
      unfold inB at h1
      simp only [Bool.and_eq_true, Bool.not_eq_true', decide_eq_false_iff_not, fa_lt] at h1
      have e1 : (1 : Int32).toInt = 1 := by decide
      have e3 : (9972 : Int32).toInt = 9972 := by decide
      rw [e1, e3] at h1
      have h0 : ¬ sd < 0 := by
        have e0 : (0 : Int32).toInt = 0 := by decide
        rw [fa_lt, e0]; omega
      obtain ⟨s, hs, rfl⟩ := nI_of h0
      rw [nI_toInt hs] at h1
      exact ⟨s, by omega, rfl⟩
    refine ⟨fun k hk => ?_, fun k hk => ?_⟩
    · by_cases e : k = nh
      · subst e
        refine ⟨?_, ?_, ?_⟩
        · simpa [up2, upd] using hsn
        · simpa [up2, upd] using hsd
        · left; simp [up2, upd]
      · have g := h.1 k (by omega)
        unfold GH at g ⊢
        simpa [up2, upd, e] using g
    · have e : ¬ k = nh := by omega
      have g := h.2 k (by omega)
      simpa [up2, upd, e] using g
  · have e : nh = 5 := by omega
    rw [adn_full e, hadd_full e]; exact h
theorem IvG.lost {nh : Nat} {G : Nat → Nat → Int32} {j : Nat} {v : Int32} (h : IvG nh G) (hj : j < nh) (hv : v = 0 ∨ v = 1) : IvG nh (up2 G 5 j v) := by
  refine ⟨fun k hk => ?_, fun k hk => ?_⟩
  · have g := h.1 k hk
    refine ⟨g.1, g.2.1, ?_⟩
    show upd (G 5) j v k = 0 ∨ upd (G 5) j v k = 1
    unfold upd
    split
    · exact hv
    · exact g.2.2
  · show upd (G 5) j v k = 0
    unfold upd
    rw [if_neg (by omega)]
    exact h.2 k hk
theorem IvN.people {np np' nh nn : Nat} {k0 : Nat → Int32} {N : Nat → Nat → Int32} {mc : Nat → Int32} (h : IvN np nh nn k0 N mc) (hp : np ≤ np') : IvN np' nh nn k0 N mc := ⟨fun i hi => ⟨(h.1 i hi).1, Nat.lt_of_lt_of_le (h.1 i hi).2 hp⟩, h.2⟩
theorem IvN.house {np nh nn : Nat} {k0 : Nat → Int32} {N : Nat → Nat → Int32} {mc : Nat → Int32} {v : Int32} (h : IvN np nh nn k0 N mc) (hnh : nh ≤ 5) : IvN np (nh + 1) nn (upd k0 nh v) N mc := by
  refine ⟨h.1, fun i hi => ?_, h.2.2.1, h.2.2.2.1, fun i k hi hk e e2 => ?_⟩
  · obtain ⟨k, hk, e⟩ := h.2.1 i hi
    exact ⟨k, by omega, e⟩
  · obtain ⟨k', hk', e'⟩ := h.2.1 i hi
    have : k = k' := nI_inj (by omega) (by omega) (by rw [← e, e'])
    subst this
    have e3 : upd k0 nh v k = k0 k := pk_un (by omega)
    rw [e3] at e2
    exact h.2.2.2.2 i k hi hk' e e2
theorem nm_ne {nh nn : Nat} {G N : Nat → Nat → Int32} {h : Nat} (hnh : nh ≤ 5) (hnn : nn ≤ 200) (hh : h < nh) (g : GH G h) : ¬ remI (tat nh 6 G (nI h) 2 * nkI nn N (nI h)) 9973 = -1 := by
  obtain ⟨d, hdd, ed⟩ := g.2.1
  rw [show tat nh 6 G (nI h) 2 = G 2 h from tatG (c := 2) hnh hh (by omega), ed]
  unfold nkI
  rw [nI_1, pk_mul]
  apply rem_ne
  have h3 := ct_le (fun i => decide (N 0 i = nI h)) nn
  have h4 : d * (ct (fun i => decide (N 0 i = nI h)) nn + 1) ≤ 9972 * 201 := Nat.mul_le_mul hdd (by omega)
  omega
theorem IvN.row {np nh nn : Nat} {k0 : Nat → Int32} {N : Nat → Nat → Int32} {mc : Nat → Int32} {h q : Nat} {nm td sp : Int32} (g : IvN np nh nn k0 N mc) (hnp : np ≤ 24) (hnh : nh ≤ 5) (hlt : nn < 200) (hh : h < nh) (hq : q < np) (h1 : ¬ nm = -1) (hsp : k0 h = 2 → sp = nI (ct (fun i => decide (N 0 i = nI h)) nn + 1)) : IvN np nh (nn + 1) k0 (up2 (up2 (up2 (up2 (up2 N 0 nn (nI h)) 1 nn nm) 2 nn (nI q)) 3 nn td) 4 nn sp) (upd mc h (mc h + 1)) := by
  obtain ⟨g1, g2, g3, g4, g5⟩ := g
  obtain ⟨M, hM⟩ : ∃ M, M = up2 (up2 (up2 (up2 (up2 N 0 nn (nI h)) 1 nn nm) 2 nn (nI q)) 3 nn td) 4 nn sp := ⟨_, rfl⟩
  rw [← hM]
  have m0 : M 0 = upd (N 0) nn (nI h) := by rw [hM]; rfl
  have m1 : M 1 = upd (N 1) nn nm := by rw [hM]; rfl
  have m2 : M 2 = upd (N 2) nn (nI q) := by rw [hM]; rfl
  have m4 : M 4 = upd (N 4) nn sp := by rw [hM]; rfl
  have cn : ∀ (k i : Nat), i ≤ nn → ct (fun j => decide (M 0 j = nI k)) i = ct (fun j => decide (N 0 j = nI k)) i := by
    intro k i hi
    apply ct_cong
    intro j hj
    rw [m0, pk_un (by omega)]
  have cS : ∀ k : Nat, k < 5 → ct (fun j => decide (M 0 j = nI k)) (nn + 1) = ct (fun j => decide (N 0 j = nI k)) nn + (if h = k then 1 else 0) := by
    intro k hk
    have e : ct (fun j => decide (M 0 j = nI k)) (nn + 1) = ct (fun j => decide (M 0 j = nI k)) nn + (if decide (M 0 nn = nI k) = true then 1 else 0) := rfl
    rw [e, cn k nn (Nat.le_refl nn), m0, pk_us]
    congr 1
    by_cases c : h = k
    · simp [c]
    · have : ¬ nI h = nI k := fun z => c (nI_inj (by omega) (by omega) z)
      simp [c, this]
  refine ⟨fun i hi => ?_, fun i hi => ?_, fun i hi => ?_, fun k hk => ?_, fun i k hi hk e e2 => ?_⟩
  · unfold ow
    rw [m2]
    by_cases c : i = nn
    · rw [c, pk_us, nI_clamp (by omega)]; exact ⟨rfl, hq⟩
    · rw [pk_un c]; exact g1 i (by omega)
  · rw [m0]
    by_cases c : i = nn
    · rw [c, pk_us]; exact ⟨h, hh, rfl⟩
    · rw [pk_un c]; exact g2 i (by omega)
  · rw [m1]
    by_cases c : i = nn
    · rw [c, pk_us]; exact h1
    · rw [pk_un c]; exact g3 i (by omega)
  · rw [cS k hk]
    by_cases c : h = k
    · subst c
      rw [pk_us, g4 h hk, nI_1, if_pos rfl]
    · rw [pk_un (fun z => c z.symm), g4 k hk, if_neg c, Nat.add_zero]
  · by_cases c : i = nn
    · subst c
      rw [m0, pk_us] at e
      have e3 : h = k := nI_inj (by omega) (by omega) e
      subst e3
      rw [m4, pk_us, hsp e2, cS h (by omega), if_pos rfl]
    · rw [m0, pk_un c] at e
      rw [m4, pk_un c, cn k (i + 1) (by omega)]
      exact g5 i k (by omega) hk e e2
theorem IvN.name {np nh nn : Nat} {P G N : Nat → Nat → Int32} {td : Int32} {mc : Nat → Int32} {h p : Nat} (g : IvN np nh nn (G 0) N mc) (gG : IvG nh G) (hw : HP np (P 4)) (hnp : np ≤ 24) (hnh : nh ≤ 5) (hnn : nn ≤ 200) (hh : h < nh) (hp : p < np) : IvN np nh (nmNn nh nn P G N td (nI h) p) (G 0) (nmT nh nn P G N td (nI h) p) (nmMc nh nn P G N td mc h p) := by
  unfold nmNn nmT nmMc
  by_cases r : nrow nh nn P G N td (nI h) p = -1
  · rw [if_pos r, if_pos r]
    rcases Nat.lt_or_ge nn 200 with hlt | hge
    · rw [if_pos ⟨r, hlt⟩, adn_more hlt, nadd_more hlt]
      refine g.row hnp hnh hlt hh (hd_lt hw hnp hp) (nm_ne hnh hnn hh (gG.1 h hh)) (fun e => ?_)
      unfold nspI
      rw [spN_once hnh hh e]
      unfold nkI
      exact nI_1 _
    · have e : nn = 200 := by omega
      rw [if_neg (fun q => by omega), adn_full e, nadd_full e]
      exact g
  · rw [if_neg r, if_neg r, if_neg (fun q => r q.1)]
    exact g
theorem IvN.cross {np nh nn nb : Nat} {P G N B : Nat → Nat → Int32} {td nm : Int32} {mc : Nat → Int32} {h b : Nat} (g : IvN np nh nn (G 0) N mc) (gG : IvG nh G) (hw : HP np (P 4)) (hnp : np ≤ 24) (hnh : nh ≤ 5) (hnn : nn ≤ 200) (hb : b < nh) : IvN np nh (crNn np nh nn nb P G N B td (nI h) (nI b) nm) (G 0) (crT np nh nn nb P G N B td (nI h) (nI b) nm) (crMc np nh nn nb P G N B td mc h b nm) := by
  unfold crNn crT crMc
  by_cases c : crB np nh nn nb P G N B td (nI h) (nI b) nm = true
  · rw [if_pos c, if_pos c, if_pos c]
    have k : ¬ fsI (fdB N (nI h) nm) nn = -1 := by
      intro q
      simp [crB, q] at c
    obtain ⟨i, hi, e, -⟩ := fsI_ex (by omega) k
    rw [e, nI_clamp (by omega)]
    exact g.name gG hw hnp hnh hnn hb (g.1 i hi).2
  · rw [if_neg c, if_neg c, if_neg c]
    exact g
theorem crNn_le {np nh nn nb : Nat} {P G N B : Nat → Nat → Int32} {td h g nm : Int32} (hnn : nn ≤ 200) : crNn np nh nn nb P G N B td h g nm ≤ 200 := by
  unfold crNn
  split
  · exact nmNn_le hnn
  · exact hnn
theorem adn_ge {mo n : Nat} : n ≤ adn mo n := by unfold adn; split <;> omega
