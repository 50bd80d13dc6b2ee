/-! each call keeps it -/
section STEP
variable {np nh nn nb ne : Nat} {td : Int32} {P G N B E : Nat → Nat → Int32} {mc : Nat → Int32}
theorem Iv.person (g : Iv np nh nn nb ne td P G N mc) (a b c d : Int32) : Iv (if okM a b c d = true then adn 24 np else np) nh nn nb ne td (if okM a b c d = true then paddT np P a b c d else P) G N mc := by
  obtain ⟨⟨h1, h2, h3, h4, h5⟩, hP, hG, hN, hT⟩ := id g
  by_cases k : okM a b c d = true
  · rw [if_pos k, if_pos k]; exact ⟨⟨adn_le h1, h2, h3, h4, h5⟩, hP.add h1, hG, hN.people adn_ge, hT⟩
  · rw [if_neg k, if_neg k]; exact g
theorem Iv.mark (g : Iv np nh nn nb ne td P G N mc) (p m n : Int32) : Iv np nh nn nb ne td (if (inR np p && inB m 0 3 && inB n 0 7) = true then tput np 6 P p m n else P) G N mc := by
  obtain ⟨h, hP, hG, hN, hT⟩ := id g
  exact ⟨h, hP.mark h.1, hG, hN, hT⟩
theorem Iv.house (g : Iv np nh nn nb ne td P G N mc) (kd sn sd rs lt : Int32) : Iv np (if okH kd sn sd rs lt = true then adn 5 nh else nh) nn nb ne td P (if okH kd sn sd rs lt = true then haddT nh G kd sn sd rs lt else G) N mc := by
  obtain ⟨⟨h1, h2, h3, h4, h5⟩, hP, hG, hN, hT⟩ := id g
  by_cases k : okH kd sn sd rs lt = true
  · rw [if_pos k, if_pos k]
    refine ⟨⟨h1, adn_le h2, h3, h4, h5⟩, hP, hG.add h2 k, ?_, hT⟩
    rcases Nat.lt_or_ge nh 5 with hlt | hge
    · rw [adn_more hlt, hadd_more hlt]
      exact hN.house h2
    · have e : nh = 5 := by omega
      rw [adn_full e, hadd_full e]; exact hN
  · rw [if_neg k, if_neg k]; exact g
theorem Iv.day (g : Iv np nh nn nb ne td P G N mc) (n : Int32) : Iv np nh nn nb ne (if (inB n 0 3000 && decide (td ≤ n)) = true then n else td) P G N mc := by
  obtain ⟨h, hP, hG, hN, hT⟩ := id g
  by_cases k : (inB n 0 3000 && decide (td ≤ n)) = true
  · rw [if_pos k]
    rw [Bool.and_eq_true] at k
    obtain ⟨j, hj, e⟩ := inB_ex (hi := 3000) k.1 rfl (by omega)
    exact ⟨h, hP, hG, hN, j, hj, e⟩
  · rw [if_neg k]; exact g
theorem Iv.one (g : Iv np nh nn nb ne td P G N mc) (a b : Int32) : Iv np nh nn nb ne td (joinT np P a b) G N mc := by
  obtain ⟨h, hP, hG, hN, hT⟩ := id g
  exact ⟨h, hP.jn h.1, hG, hN, hT⟩
theorem Iv.part (g : Iv np nh nn nb ne td P G N mc) (p : Int32) : Iv np nh nn nb ne td (if tat np 6 P p 4 = -1 then P else tput np 6 P p 4 (-1)) G N mc := by
  obtain ⟨h, hP, hG, hN, hT⟩ := id g
  exact ⟨h, hP.part h.1, hG, hN, hT⟩
theorem Iv.strike (g : Iv np nh nn nb ne td P G N mc) (p : Int32) : Iv np nh nn nb ne td (if (inR np p && !isSt np P p) = true then strk np P (hd (P 4) p.toNatClampNeg) 24 else P) G N mc := by
  obtain ⟨h, hP, hG, hN, hT⟩ := id g
  exact ⟨h, hP.strike, hG, hN, hT⟩
theorem Iv.name (g : Iv np nh nn nb ne td P G N mc) (h p : Int32) : Iv np nh (if (inR nh h && inR np p && !isSt np P p) = true then nmNn nh nn P G N td h p.toNatClampNeg else nn) nb ne td P G (if (inR nh h && inR np p && !isSt np P p) = true then nmT nh nn P G N td h p.toNatClampNeg else N) (if (inR nh h && inR np p && !isSt np P p) = true then nmMc nh nn P G N td mc h.toNatClampNeg p.toNatClampNeg else mc) := by
  obtain ⟨⟨h1, h2, h3, h4, h5⟩, hP, hG, hN, hT⟩ := id g
  by_cases k : (inR nh h && inR np p && !isSt np P p) = true
  · rw [if_pos k, if_pos k, if_pos k]
    simp only [Bool.and_eq_true] at k
    obtain ⟨a, ha, rfl⟩ := inR_ex k.1.1 (by omega)
    obtain ⟨j, hj, rfl⟩ := inR_ex k.1.2 (by omega)
    rw [nI_clamp (by omega), nI_clamp (by omega)]
    exact ⟨⟨h1, h2, nmNn_le h3, h4, h5⟩, hP, hG, hN.name hG hP.1 h1 h2 h3 ha hj, hT⟩
  · rw [if_neg k, if_neg k, if_neg k]; exact g
theorem Iv.bridge (g : Iv np nh nn nb ne td P G N mc) (h b x y : Int32) : Iv np nh nn (if okBr nh nb h b x y = true then adn 20 nb else nb) ne td P G N mc := by
  obtain ⟨⟨h1, h2, h3, h4, h5⟩, hP, hG, hN, hT⟩ := id g
  refine ⟨⟨h1, h2, h3, ?_, h5⟩, hP, hG, hN, hT⟩
  split
  · exact adn_le h4
  · exact h4
theorem Iv.cross (g : Iv np nh nn nb ne td P G N mc) (h b nm hand : Int32) : Iv np nh (if okC nh ne h b hand = true then crNn np nh nn nb P G N B td h b nm else nn) nb (if okC nh ne h b hand = true then adn 200 ne else ne) td P G (if okC nh ne h b hand = true then crT np nh nn nb P G N B td h b nm else N) (if okC nh ne h b hand = true then crMc np nh nn nb P G N B td mc h.toNatClampNeg b.toNatClampNeg nm else mc) := by
  obtain ⟨⟨h1, h2, h3, h4, h5⟩, hP, hG, hN, hT⟩ := id g
  by_cases k : okC nh ne h b hand = true
  · rw [if_pos k, if_pos k, if_pos k, if_pos k]
    simp only [okC, Bool.and_eq_true] at k
    obtain ⟨a, ha, rfl⟩ := inR_ex k.1.1.1 (by omega)
    obtain ⟨j, hj, rfl⟩ := inR_ex k.1.1.2 (by omega)
    rw [nI_clamp (by omega), nI_clamp (by omega)]
    exact ⟨⟨h1, h2, crNn_le h3, h4, adn_le h5⟩, hP, hG, hN.cross hG hP.1 h1 h2 h3 hj, hT⟩
  · rw [if_neg k, if_neg k, if_neg k, if_neg k]; exact g
theorem Iv.back (g : Iv np nh nn nb ne td P G N mc) (h r a b : Int32) : Iv np nh nn nb (if okB nh ne h r a b = true then adn 200 ne else ne) td P G N mc := by
  obtain ⟨⟨h1, h2, h3, h4, h5⟩, hP, hG, hN, hT⟩ := id g
  refine ⟨⟨h1, h2, h3, h4, ?_⟩, hP, hG, hN, hT⟩
  split
  · exact adn_le h5
  · exact h5
theorem Iv.lose (g : Iv np nh nn nb ne td P G N mc) (h : Int32) : Iv np nh nn nb ne td P (if (inR nh h && !decide (tat nh 6 G h 5 = 1)) = true then tput nh 6 G h 5 1 else G) N mc := by
  obtain ⟨hz, hP, hG, hN, hT⟩ := id g
  by_cases k : (inR nh h && !decide (tat nh 6 G h 5 = 1)) = true
  · rw [if_pos k]
    rw [Bool.and_eq_true] at k
    obtain ⟨j, hj, rfl⟩ := inR_ex k.1 (by omega)
    rw [show tput nh 6 G (nI j) 5 1 = up2 G 5 j 1 from tput_nI (c := 5) (by omega) (by omega) hj (by omega)]
    exact ⟨hz, hP, hG.lost hj (Or.inr rfl), hN, hT⟩
  · rw [if_neg k]; exact g
theorem Iv.anew (g : Iv np nh nn nb ne td P G N mc) (h sd : Int32) : Iv np nh nn nb ne td P (if (inR nh h && decide (tat nh 6 G h 5 = 1) && decide (tat nh 6 G h 2 = sd)) = true then tput nh 6 G h 5 0 else G) N mc := by
  obtain ⟨hz, hP, hG, hN, hT⟩ := id g
  by_cases k : (inR nh h && decide (tat nh 6 G h 5 = 1) && decide (tat nh 6 G h 2 = sd)) = true
  · rw [if_pos k]
    simp only [Bool.and_eq_true] at k
    obtain ⟨j, hj, rfl⟩ := inR_ex k.1.1 (by omega)
    rw [show tput nh 6 G (nI j) 5 0 = up2 G 5 j 0 from tput_nI (c := 5) (by omega) (by omega) hj (by omega)]
    exact ⟨hz, hP, hG.lost hj (Or.inl rfl), hN, hT⟩
  · rw [if_neg k]; exact g
theorem Iv.start : Iv 0 0 0 0 0 0 (fun _ _ => 0) (fun _ _ => 0) (fun _ _ => 0) (fun _ => 0) := by
  refine ⟨⟨by omega, by omega, by omega, by omega, by omega⟩, ⟨⟨fun p hp => absurd hp (Nat.not_lt_zero p), fun _ => 0, fun p q hp => absurd hp (Nat.not_lt_zero p)⟩, fun _ => Or.inl rfl, fun _ _ => rfl⟩, ⟨fun h hh => absurd hh (Nat.not_lt_zero h), fun _ _ => rfl⟩, ⟨fun i hi => absurd hi (Nat.not_lt_zero i), fun i hi => absurd hi (Nat.not_lt_zero i), fun i hi => absurd hi (Nat.not_lt_zero i), fun h hh => rfl, fun i h hi => absurd hi (Nat.not_lt_zero i)⟩, 0, by omega, rfl⟩
end STEP
