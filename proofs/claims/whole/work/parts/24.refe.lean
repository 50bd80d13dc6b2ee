set_option maxHeartbeats 4000000 in
set_option maxRecDepth 100000 in
theorem kX5_cross (l : Launch) (D : va_G) (cI cZ : ClassId) (o5 k6 k7 k8 k9 k10 k11 k12 k13 k14 k15 k16 k17 k18 k19 k20 k21 k22 k23 k24 k25 np nh nn nb ne : Nat) (td : Int32) (P G N B E : Nat → Nat → Int32) (mc : Nat → Int32) (h : Int32) (g : Int32) (nm : Int32) (hand : Int32) (hnp : np ≤ 24) (hnh : nh ≤ 5) (hnn : nn ≤ 200) (hnb : nb ≤ 20) (hne : ne ≤ 200) (hw : HP np (P 4)) (ho : HO nn np N) (hs : ∀ p, P 5 p = 0 ∨ P 5 p = 1) (hg : ∀ h, h < nh → GH G h) (hN1 : ∀ i, i < nn → ¬ N 1 i = -1) (hmc : ∀ h, h < 5 → mc h = nI (ct (fun i => decide (N 0 i = nI h)) nn)) (hon : ∀ i h, i < nn → h < nh → N 0 i = nI h → G 0 h = 2 → N 4 i = nI (ct (fun j => decide (N 0 j = nI h)) (i + 1))) : Met l yX5_cross wsX5_cross ({ frames := 4, cells := 0, slots := 0, locals := 94 } : Room) (MuP D [(cI, .int), (cZ, .boolean)] [.ref o5, .int h, .int g, .int nm, .int hand] [(o5, .inr (5, [.int (nI np), .int (nI nh), .int td, .int (nI nn), .int (nI nb), .int (nI ne), .ref k6, .ref k7, .ref k8, .ref k9, .ref k10, .ref k11, .ref k12, .ref k13, .ref k14, .ref k15, .ref k16, .ref k17, .ref k18, .ref k19, .ref k20, .ref k21, .ref k22, .ref k23, .ref k24, .ref k25])), (k6, .inl (cI, 96, .inl (fl 4 P))), (k7, .inl (cI, 24, .inl (P 4))), (k8, .inl (cZ, 24, .inl (P 5))), (k9, .inl (cI, 5, .inl (G 0))), (k10, .inl (cI, 5, .inl (G 1))), (k11, .inl (cI, 5, .inl (G 2))), (k12, .inl (cI, 5, .inl (G 3))), (k13, .inl (cI, 5, .inl (G 4))), (k14, .inl (cI, 5, .inl (mc))), (k15, .inl (cZ, 5, .inl (G 5))), (k16, .inl (cI, 200, .inl (N 0))), (k17, .inl (cI, 200, .inl (N 1))), (k18, .inl (cI, 200, .inl (N 2))), (k19, .inl (cI, 200, .inl (N 3))), (k20, .inl (cI, 200, .inl (N 4))), (k21, .inl (cI, 20, .inl (B 0))), (k22, .inl (cI, 20, .inl (B 1))), (k23, .inl (cI, 20, .inl (B 2))), (k24, .inl (cI, 20, .inl (B 3))), (k25, .inl (cI, 1200, .inl (fl 6 E)))]) (QM D (some (.int (if okC nh ne h g hand = true then crR np nh nn nb P G N B td h g nm else -1))) [(o5, .inr (5, [.int (nI np), .int (nI nh), .int td, .int (nI nn), .int (nI nb), .int (nI ne), .ref k6, .ref k7, .ref k8, .ref k9, .ref k10, .ref k11, .ref k12, .ref k13, .ref k14, .ref k15, .ref k16, .ref k17, .ref k18, .ref k19, .ref k20, .ref k21, .ref k22, .ref k23, .ref k24, .ref k25])), (k6, .inl (cI, 96, .inl (fl 4 P))), (k7, .inl (cI, 24, .inl (P 4))), (k8, .inl (cZ, 24, .inl (P 5))), (k9, .inl (cI, 5, .inl (G 0))), (k10, .inl (cI, 5, .inl (G 1))), (k11, .inl (cI, 5, .inl (G 2))), (k12, .inl (cI, 5, .inl (G 3))), (k13, .inl (cI, 5, .inl (G 4))), (k14, .inl (cI, 5, .inl (mc))), (k15, .inl (cZ, 5, .inl (G 5))), (k16, .inl (cI, 200, .inl (N 0))), (k17, .inl (cI, 200, .inl (N 1))), (k18, .inl (cI, 200, .inl (N 2))), (k19, .inl (cI, 200, .inl (N 3))), (k20, .inl (cI, 200, .inl (N 4))), (k21, .inl (cI, 20, .inl (B 0))), (k22, .inl (cI, 20, .inl (B 1))), (k23, .inl (cI, 20, .inl (B 2))), (k24, .inl (cI, 20, .inl (B 3))), (k25, .inl (cI, 1200, .inl (fl 6 E)))] [(o5, .inr (5, [.int (nI np), .int (nI nh), .int td, .int (nI (if okC nh ne h g hand = true then crNn np nh nn nb P G N B td h g nm else nn)), .int (nI nb), .int (nI (if okC nh ne h g hand = true then adn 200 ne else ne)), .ref k6, .ref k7, .ref k8, .ref k9, .ref k10, .ref k11, .ref k12, .ref k13, .ref k14, .ref k15, .ref k16, .ref k17, .ref k18, .ref k19, .ref k20, .ref k21, .ref k22, .ref k23, .ref k24, .ref k25])), (k6, .inl (cI, 96, .inl (fl 4 P))), (k7, .inl (cI, 24, .inl (P 4))), (k8, .inl (cZ, 24, .inl (P 5))), (k9, .inl (cI, 5, .inl (G 0))), (k10, .inl (cI, 5, .inl (G 1))), (k11, .inl (cI, 5, .inl (G 2))), (k12, .inl (cI, 5, .inl (G 3))), (k13, .inl (cI, 5, .inl (G 4))), (k14, .inl (cI, 5, .inl ((if okC nh ne h g hand = true then crMc np nh nn nb P G N B td mc h.toNatClampNeg g.toNatClampNeg nm else mc)))), (k15, .inl (cZ, 5, .inl (G 5))), (k16, .inl (cI, 200, .inl ((if okC nh ne h g hand = true then crT np nh nn nb P G N B td h g nm else N) 0))), (k17, .inl (cI, 200, .inl ((if okC nh ne h g hand = true then crT np nh nn nb P G N B td h g nm else N) 1))), (k18, .inl (cI, 200, .inl ((if okC nh ne h g hand = true then crT np nh nn nb P G N B td h g nm else N) 2))), (k19, .inl (cI, 200, .inl ((if okC nh ne h g hand = true then crT np nh nn nb P G N B td h g nm else N) 3))), (k20, .inl (cI, 200, .inl ((if okC nh ne h g hand = true then crT np nh nn nb P G N B td h g nm else N) 4))), (k21, .inl (cI, 20, .inl (B 0))), (k22, .inl (cI, 20, .inl (B 1))), (k23, .inl (cI, 20, .inl (B 2))), (k24, .inl (cI, 20, .inl (B 3))), (k25, .inl (cI, 1200, .inl (fl 6 (if okC nh ne h g hand = true then eaddT ne E (if crR np nh nn nb P G N B td h g nm = -1 then 2 else 0) h nm hand (-1) td else E))))]) 0 0 (adr [(o5, .inr (5, [.int (nI np), .int (nI nh), .int td, .int (nI nn), .int (nI nb), .int (nI ne), .ref k6, .ref k7, .ref k8, .ref k9, .ref k10, .ref k11, .ref k12, .ref k13, .ref k14, .ref k15, .ref k16, .ref k17, .ref k18, .ref k19, .ref k20, .ref k21, .ref k22, .ref k23, .ref k24, .ref k25])), (k6, .inl (cI, 96, .inl (fl 4 P))), (k7, .inl (cI, 24, .inl (P 4))), (k8, .inl (cZ, 24, .inl (P 5))), (k9, .inl (cI, 5, .inl (G 0))), (k10, .inl (cI, 5, .inl (G 1))), (k11, .inl (cI, 5, .inl (G 2))), (k12, .inl (cI, 5, .inl (G 3))), (k13, .inl (cI, 5, .inl (G 4))), (k14, .inl (cI, 5, .inl (mc))), (k15, .inl (cZ, 5, .inl (G 5))), (k16, .inl (cI, 200, .inl (N 0))), (k17, .inl (cI, 200, .inl (N 1))), (k18, .inl (cI, 200, .inl (N 2))), (k19, .inl (cI, 200, .inl (N 3))), (k20, .inl (cI, 200, .inl (N 4))), (k21, .inl (cI, 20, .inl (B 0))), (k22, .inl (cI, 20, .inl (B 1))), (k23, .inl (cI, 20, .inl (B 2))), (k24, .inl (cI, 20, .inl (B 3))), (k25, .inl (cI, 1200, .inl (fl 6 E)))]) := by
  refine mu_of (cc := cX5_cross) (maxL := 6) (ret := (some .int)) (by decide) rfl (Nat.le_of_ble_eq_true rfl) ?_
  intro pp ee ss mm bw me cd ls hx hb hr hts hown hlocks hml hK hl H locs hP hD hS
  have hl : lv_has ls 6 [(0, .ref o5), (1, .int h), (2, .int g), (3, .int nm), (4, .int hand)] := hl
  have hf126 := hts (.fieldLink RX5 126 "OtherNamesModel" "entries" "I") (by decide +kernel)
  have hin5 := (show ∀ w ∈ wsX50, w ∈ wsX5_cross by decide +kernel)
  have hf44 := hts (.fieldLink RX5 44 "OtherNamesModel" "nameOf" "[I") (by decide +kernel)
  refine lv_aload_n hx hb dX5_cross_0 rfl (lv_at hl 0 rfl) ?_
  refine lv_iload_n hx hb dX5_cross_1 rfl (lv_at hl 1 rfl) ?_
  refine rcVw (As := [.int h]) (rest := []) (ci := 5) ⟨hx, hb, hml, hown, hts⟩ (kX5_isHouse l D cI cZ o5 k6 k7 k8 k9 k10 k11 k12 k13 k14 k15 k16 k17 k18 k19 k20 k21 k22 k23 k24 k25 np nh nn nb ne td P G N B E mc h) (cwV 1 hts gX5_cross_X5_isHouse rfl rfl rfl (by decide +kernel) ⟨Nat.le_of_ble_eq_true rfl, Nat.le_of_ble_eq_true rfl⟩) hK hP rfl rfl rfl rfl hl.1 rfl (Nat.le_of_ble_eq_true rfl) ⟨Nat.zero_le _, Nat.zero_le _⟩ dX5_cross_2 ?_
  refine lb_eq (tgt := 37) hx hb dX5_cross_5 (by decide) (fun c_5 => ?_) (fun c_5 => ?_)
  · skip
    refine lv_iconst (v := (-1)) hx hb dX5_cross_37 (by decide) ?_
    refine mu_iret hx hb hr hlocks hS dX5_cross_38 ?_ ?_
    · rw [if_neg (by simp [okC, c_5])]
    have q0 : (nI (if okC nh ne h g hand = true then crNn np nh nn nb P G N B td h g nm else nn)) = (nI nn) := by rw [if_neg (by simp [okC, c_5])]
    have q1 : (nI (if okC nh ne h g hand = true then adn 200 ne else ne)) = (nI ne) := by rw [if_neg (by simp [okC, c_5])]
    have q2 : ((if okC nh ne h g hand = true then crMc np nh nn nb P G N B td mc h.toNatClampNeg g.toNatClampNeg nm else mc)) = (mc) := by rw [if_neg (by simp [okC, c_5])]
    have q3 : ((if okC nh ne h g hand = true then crT np nh nn nb P G N B td h g nm else N) 0) = (N 0) := by rw [if_neg (by simp [okC, c_5])]
    have q4 : ((if okC nh ne h g hand = true then crT np nh nn nb P G N B td h g nm else N) 1) = (N 1) := by rw [if_neg (by simp [okC, c_5])]
    have q5 : ((if okC nh ne h g hand = true then crT np nh nn nb P G N B td h g nm else N) 2) = (N 2) := by rw [if_neg (by simp [okC, c_5])]
    have q6 : ((if okC nh ne h g hand = true then crT np nh nn nb P G N B td h g nm else N) 3) = (N 3) := by rw [if_neg (by simp [okC, c_5])]
    have q7 : ((if okC nh ne h g hand = true then crT np nh nn nb P G N B td h g nm else N) 4) = (N 4) := by rw [if_neg (by simp [okC, c_5])]
    have q8 : (fl 6 (if okC nh ne h g hand = true then eaddT ne E (if crR np nh nn nb P G N B td h g nm = -1 then 2 else 0) h nm hand (-1) td else E)) = (fl 6 E) := by rw [if_neg (by simp [okC, c_5])]
    rw [q0, q1, q2, q3, q4, q5, q6, q7, q8]
    exact hP
  · skip
    obtain ⟨a_, ha_, rfl⟩ := inR_ex c_5 (by omega)
    refine lv_aload_n hx hb dX5_cross_8 rfl (lv_at hl 0 rfl) ?_
    refine lv_iload_n hx hb dX5_cross_9 rfl (lv_at hl 2 rfl) ?_
    refine rcVw (As := [.int g]) (rest := []) (ci := 5) ⟨hx, hb, hml, hown, hts⟩ (kX5_isHouse l D cI cZ o5 k6 k7 k8 k9 k10 k11 k12 k13 k14 k15 k16 k17 k18 k19 k20 k21 k22 k23 k24 k25 np nh nn nb ne td P G N B E mc g) (cwV 1 hts gX5_cross_X5_isHouse rfl rfl rfl (by decide +kernel) ⟨Nat.le_of_ble_eq_true rfl, Nat.le_of_ble_eq_true rfl⟩) hK hP rfl rfl rfl rfl hl.1 rfl (Nat.le_of_ble_eq_true rfl) ⟨Nat.zero_le _, Nat.zero_le _⟩ dX5_cross_10 ?_
    refine lb_eq (tgt := 37) hx hb dX5_cross_13 (by decide) (fun c_13 => ?_) (fun c_13 => ?_)
    · skip
      refine lv_iconst (v := (-1)) hx hb dX5_cross_37 (by decide) ?_
      refine mu_iret hx hb hr hlocks hS dX5_cross_38 ?_ ?_
      · rw [if_neg (by simp [okC, c_13])]
      have q0 : (nI (if okC nh ne (nI a_) g hand = true then crNn np nh nn nb P G N B td (nI a_) g nm else nn)) = (nI nn) := by rw [if_neg (by simp [okC, c_13])]
      have q1 : (nI (if okC nh ne (nI a_) g hand = true then adn 200 ne else ne)) = (nI ne) := by rw [if_neg (by simp [okC, c_13])]
      have q2 : ((if okC nh ne (nI a_) g hand = true then crMc np nh nn nb P G N B td mc (nI a_).toNatClampNeg g.toNatClampNeg nm else mc)) = (mc) := by rw [if_neg (by simp [okC, c_13])]
      have q3 : ((if okC nh ne (nI a_) g hand = true then crT np nh nn nb P G N B td (nI a_) g nm else N) 0) = (N 0) := by rw [if_neg (by simp [okC, c_13])]
      have q4 : ((if okC nh ne (nI a_) g hand = true then crT np nh nn nb P G N B td (nI a_) g nm else N) 1) = (N 1) := by rw [if_neg (by simp [okC, c_13])]
      have q5 : ((if okC nh ne (nI a_) g hand = true then crT np nh nn nb P G N B td (nI a_) g nm else N) 2) = (N 2) := by rw [if_neg (by simp [okC, c_13])]
      have q6 : ((if okC nh ne (nI a_) g hand = true then crT np nh nn nb P G N B td (nI a_) g nm else N) 3) = (N 3) := by rw [if_neg (by simp [okC, c_13])]
      have q7 : ((if okC nh ne (nI a_) g hand = true then crT np nh nn nb P G N B td (nI a_) g nm else N) 4) = (N 4) := by rw [if_neg (by simp [okC, c_13])]
      have q8 : (fl 6 (if okC nh ne (nI a_) g hand = true then eaddT ne E (if crR np nh nn nb P G N B td (nI a_) g nm = -1 then 2 else 0) (nI a_) nm hand (-1) td else E)) = (fl 6 E) := by rw [if_neg (by simp [okC, c_13])]
      rw [q0, q1, q2, q3, q4, q5, q6, q7, q8]
      exact hP
    · skip
      obtain ⟨b_, hb_, rfl⟩ := inR_ex c_13 (by omega)
      refine lv_iload hx hb dX5_cross_16 (lv_at hl 4 rfl) ?_
      refine lv_iconst (v := 0) hx hb dX5_cross_18 (by decide) ?_
      refine lv_bipush (v := 9) hx hb dX5_cross_19 (by decide) ?_
      refine rcS (As := [.int hand, .int 0, .int 9]) (rest := []) ⟨hx, hb, hml, hown, hts⟩ (kX5_in l D cI cZ hand 0 9) (va_cwS 3 hts gX5_cross_X5_in rfl rfl rfl (by decide +kernel) ⟨Nat.le_of_ble_eq_true rfl, Nat.le_of_ble_eq_true rfl⟩) hK hP [] rfl rfl hl.1 rfl (Nat.le_of_ble_eq_true rfl) ⟨Nat.zero_le _, Nat.zero_le _⟩ dX5_cross_21 ?_
      refine lb_eq (tgt := 37) hx hb dX5_cross_24 (by decide) (fun c_24 => ?_) (fun c_24 => ?_)
      · skip
        refine lv_iconst (v := (-1)) hx hb dX5_cross_37 (by decide) ?_
        refine mu_iret hx hb hr hlocks hS dX5_cross_38 ?_ ?_
        · rw [if_neg (by simp [okC, c_24])]
        have q0 : (nI (if okC nh ne (nI a_) (nI b_) hand = true then crNn np nh nn nb P G N B td (nI a_) (nI b_) nm else nn)) = (nI nn) := by rw [if_neg (by simp [okC, c_24])]
        have q1 : (nI (if okC nh ne (nI a_) (nI b_) hand = true then adn 200 ne else ne)) = (nI ne) := by rw [if_neg (by simp [okC, c_24])]
        have q2 : ((if okC nh ne (nI a_) (nI b_) hand = true then crMc np nh nn nb P G N B td mc (nI a_).toNatClampNeg (nI b_).toNatClampNeg nm else mc)) = (mc) := by rw [if_neg (by simp [okC, c_24])]
        have q3 : ((if okC nh ne (nI a_) (nI b_) hand = true then crT np nh nn nb P G N B td (nI a_) (nI b_) nm else N) 0) = (N 0) := by rw [if_neg (by simp [okC, c_24])]
        have q4 : ((if okC nh ne (nI a_) (nI b_) hand = true then crT np nh nn nb P G N B td (nI a_) (nI b_) nm else N) 1) = (N 1) := by rw [if_neg (by simp [okC, c_24])]
        have q5 : ((if okC nh ne (nI a_) (nI b_) hand = true then crT np nh nn nb P G N B td (nI a_) (nI b_) nm else N) 2) = (N 2) := by rw [if_neg (by simp [okC, c_24])]
        have q6 : ((if okC nh ne (nI a_) (nI b_) hand = true then crT np nh nn nb P G N B td (nI a_) (nI b_) nm else N) 3) = (N 3) := by rw [if_neg (by simp [okC, c_24])]
        have q7 : ((if okC nh ne (nI a_) (nI b_) hand = true then crT np nh nn nb P G N B td (nI a_) (nI b_) nm else N) 4) = (N 4) := by rw [if_neg (by simp [okC, c_24])]
        have q8 : (fl 6 (if okC nh ne (nI a_) (nI b_) hand = true then eaddT ne E (if crR np nh nn nb P G N B td (nI a_) (nI b_) nm = -1 then 2 else 0) (nI a_) nm hand (-1) td else E)) = (fl 6 E) := by rw [if_neg (by simp [okC, c_24])]
        rw [q0, q1, q2, q3, q4, q5, q6, q7, q8]
        exact hP
      · skip
        refine lv_aload_n hx hb dX5_cross_27 rfl (lv_at hl 0 rfl) ?_
        refine va_get (D := D) (ci := 5) (v := .int (nI ne)) (C := RX5) (T := TX5) (N := 26) hx hb hts hin5 hown hK hP 0 rfl rfl 5 (by decide) hf126 (fun _ h9 => h9) rfl dX5_cross_28 ?_
        refine lv_sipush (v := 200) hx hb dX5_cross_31 (by decide) ?_
        refine lv_icmp_ne (tgt := 39) hx hb dX5_cross_34 (by decide) (fun c_34 => ?_) (fun c_34 => ?_)
        · skip
          have hlt : ne < 200 := Nat.lt_of_le_of_ne hne (nI_neq (N := 200) c_34 rfl)
          refine lv_aload_n hx hb dX5_cross_39 rfl (lv_at hl 0 rfl) ?_
          refine lv_iload_n hx hb dX5_cross_40 rfl (lv_at hl 1 rfl) ?_
          refine lv_iload_n hx hb dX5_cross_41 rfl (lv_at hl 2 rfl) ?_
          refine lv_iload_n hx hb dX5_cross_42 rfl (lv_at hl 3 rfl) ?_
          refine mcVw (As := [.int ((nI a_)), .int ((nI b_)), .int nm]) (rest := []) (ci := 5) (wn := [(o5, .inr (5, [.int (nI np), .int (nI nh), .int td, .int (nI (crNn np nh nn nb P G N B td (nI a_) (nI b_) nm)), .int (nI nb), .int (nI ne), .ref k6, .ref k7, .ref k8, .ref k9, .ref k10, .ref k11, .ref k12, .ref k13, .ref k14, .ref k15, .ref k16, .ref k17, .ref k18, .ref k19, .ref k20, .ref k21, .ref k22, .ref k23, .ref k24, .ref k25])), (k6, .inl (cI, 96, .inl (fl 4 P))), (k7, .inl (cI, 24, .inl (P 4))), (k8, .inl (cZ, 24, .inl (P 5))), (k9, .inl (cI, 5, .inl (G 0))), (k10, .inl (cI, 5, .inl (G 1))), (k11, .inl (cI, 5, .inl (G 2))), (k12, .inl (cI, 5, .inl (G 3))), (k13, .inl (cI, 5, .inl (G 4))), (k14, .inl (cI, 5, .inl ((crMc np nh nn nb P G N B td mc a_ b_ nm)))), (k15, .inl (cZ, 5, .inl (G 5))), (k16, .inl (cI, 200, .inl ((crT np nh nn nb P G N B td (nI a_) (nI b_) nm) 0))), (k17, .inl (cI, 200, .inl ((crT np nh nn nb P G N B td (nI a_) (nI b_) nm) 1))), (k18, .inl (cI, 200, .inl ((crT np nh nn nb P G N B td (nI a_) (nI b_) nm) 2))), (k19, .inl (cI, 200, .inl ((crT np nh nn nb P G N B td (nI a_) (nI b_) nm) 3))), (k20, .inl (cI, 200, .inl ((crT np nh nn nb P G N B td (nI a_) (nI b_) nm) 4))), (k21, .inl (cI, 20, .inl (B 0))), (k22, .inl (cI, 20, .inl (B 1))), (k23, .inl (cI, 20, .inl (B 2))), (k24, .inl (cI, 20, .inl (B 3))), (k25, .inl (cI, 1200, .inl (fl 6 E)))]) ⟨hx, hb, hml, hown, hts⟩ (kX5_crossed l D cI cZ o5 k6 k7 k8 k9 k10 k11 k12 k13 k14 k15 k16 k17 k18 k19 k20 k21 k22 k23 k24 k25 np nh nn nb ne td P G N B E mc a_ b_ nm (by first | assumption | omega) (by first | assumption | omega) (by first | assumption | omega) (by first | assumption | omega) (by first | assumption | omega) (by first | assumption | omega) (by first | assumption | omega) (by first | assumption | omega) (by first | assumption | omega) (by first | assumption | omega) (ha_) (hb_)) (cwV 3 hts gX5_cross_X5_crossed rfl rfl rfl (by decide +kernel) ⟨Nat.le_of_ble_eq_true rfl, Nat.le_of_ble_eq_true rfl⟩) hK hP hD hS rfl rfl rfl rfl rfl hl.1 rfl (Nat.le_of_ble_eq_true rfl) ⟨Nat.zero_le _, Nat.zero_le _⟩ dX5_cross_43 (fun H locs hP hD hS => ?_)
          refine W.eq (g2 := F0 mm 46 ls (.int (crI np nh nn nb P G N B td (nI a_) (nI b_) nm) :: [])) rfl ?_
          refine lv_istore (lv' := [(5, .int (crI np nh nn nb P G N B td (nI a_) (nI b_) nm)), (0, .ref o5), (1, .int ((nI a_))), (2, .int ((nI b_))), (3, .int nm), (4, .int hand)]) hx hb dX5_cross_46 hl (by decide) rfl (fun ls hl => ?_)
          refine lv_aload_n hx hb dX5_cross_48 rfl (lv_at hl 1 rfl) ?_
          refine lv_iload hx hb dX5_cross_49 (lv_at hl 0 rfl) ?_
          refine lv_iconst (v := (-1)) hx hb dX5_cross_51 (by decide) ?_
          refine lv_icmp_ne (tgt := 59) hx hb dX5_cross_52 (by decide) (fun c_52 => ?_) (fun c_52 => ?_)
          · skip
            obtain ⟨i, hi2, e, e2, hne2⟩ := crI_ex hnh hnn hb_ (hg b_ hb_) hN1 c_52
            refine lv_iconst (v := 0) hx hb dX5_cross_59 (by decide) ?_
            refine lv_iload_n hx hb dX5_cross_60 rfl (lv_at hl 2 rfl) ?_
            refine lv_iload_n hx hb dX5_cross_61 rfl (lv_at hl 4 rfl) ?_
            refine lv_iload hx hb dX5_cross_62 (lv_at hl 5 rfl) ?_
            refine lv_iconst (v := (-1)) hx hb dX5_cross_64 (by decide) ?_
            refine mcVw (As := [.int 0, .int ((nI a_)), .int nm, .int hand, .int ((-1))]) (rest := []) (ci := 5) (wn := [(o5, .inr (5, [.int (nI np), .int (nI nh), .int td, .int (nI (crNn np nh nn nb P G N B td (nI a_) (nI b_) nm)), .int (nI nb), .int (nI (adn 200 ne)), .ref k6, .ref k7, .ref k8, .ref k9, .ref k10, .ref k11, .ref k12, .ref k13, .ref k14, .ref k15, .ref k16, .ref k17, .ref k18, .ref k19, .ref k20, .ref k21, .ref k22, .ref k23, .ref k24, .ref k25])), (k6, .inl (cI, 96, .inl (fl 4 P))), (k7, .inl (cI, 24, .inl (P 4))), (k8, .inl (cZ, 24, .inl (P 5))), (k9, .inl (cI, 5, .inl (G 0))), (k10, .inl (cI, 5, .inl (G 1))), (k11, .inl (cI, 5, .inl (G 2))), (k12, .inl (cI, 5, .inl (G 3))), (k13, .inl (cI, 5, .inl (G 4))), (k14, .inl (cI, 5, .inl ((crMc np nh nn nb P G N B td mc a_ b_ nm)))), (k15, .inl (cZ, 5, .inl (G 5))), (k16, .inl (cI, 200, .inl ((crT np nh nn nb P G N B td (nI a_) (nI b_) nm) 0))), (k17, .inl (cI, 200, .inl ((crT np nh nn nb P G N B td (nI a_) (nI b_) nm) 1))), (k18, .inl (cI, 200, .inl ((crT np nh nn nb P G N B td (nI a_) (nI b_) nm) 2))), (k19, .inl (cI, 200, .inl ((crT np nh nn nb P G N B td (nI a_) (nI b_) nm) 3))), (k20, .inl (cI, 200, .inl ((crT np nh nn nb P G N B td (nI a_) (nI b_) nm) 4))), (k21, .inl (cI, 20, .inl (B 0))), (k22, .inl (cI, 20, .inl (B 1))), (k23, .inl (cI, 20, .inl (B 2))), (k24, .inl (cI, 20, .inl (B 3))), (k25, .inl (cI, 1200, .inl (fl 6 (eaddT ne E 0 (nI a_) nm hand (-1) td))))]) ⟨hx, hb, hml, hown, hts⟩ (kX5_writes l D cI cZ o5 k6 k7 k8 k9 k10 k11 k12 k13 k14 k15 k16 k17 k18 k19 k20 k21 k22 k23 k24 k25 np nh (crNn np nh nn nb P G N B td (nI a_) (nI b_) nm) nb ne td P G (crT np nh nn nb P G N B td (nI a_) (nI b_) nm) B E (crMc np nh nn nb P G N B td mc a_ b_ nm) 0 (nI a_) nm hand (-1) (hlt)) (cwV 5 hts gX5_cross_X5_writes rfl rfl rfl (by decide +kernel) ⟨Nat.le_of_ble_eq_true rfl, Nat.le_of_ble_eq_true rfl⟩) hK hP hD hS rfl rfl rfl rfl rfl hl.1 rfl (Nat.le_of_ble_eq_true rfl) ⟨Nat.zero_le _, Nat.zero_le _⟩ dX5_cross_65 (fun H locs hP hD hS => ?_)
            refine W.eq (g2 := F0 mm 68 ls []) rfl ?_
            refine lv_iload hx hb dX5_cross_68 (lv_at hl 0 rfl) ?_
            refine lv_iconst (v := (-1)) hx hb dX5_cross_70 (by decide) ?_
            refine lv_icmp_ne (tgt := 78) hx hb dX5_cross_71 (by decide) (fun c_71 => ?_) (fun c_71 => ?_)
            · skip
              rw [e] at hl
              refine lv_aload_n hx hb dX5_cross_78 rfl (lv_at hl 1 rfl) ?_
              refine va_get (D := D) (ci := 5) (v := .ref k17) (C := RX5) (T := TX5) (N := 26) hx hb hts hin5 hown hK hP 0 rfl rfl 17 (by decide) hf44 (fun _ h9 => h9) rfl dX5_cross_79 ?_
              refine lv_iload hx hb dX5_cross_82 (lv_at hl 0 rfl) ?_
              refine va_ialdN (D := D) (cl := vwCl) (cA := cI) (f := (crT np nh nn nb P G N B td (nI a_) (nI b_) nm) 1) hx hb hK hP 12 0 rfl rfl i (rfl) (hi2) (by first | decide | assumption) dX5_cross_84 ?_
              refine mu_iret hx hb hr hlocks hS dX5_cross_85 ?_ ?_
              · rw [if_pos (by simp [okC, c_5, c_13, c_24, hlt]), e2]
              have q0 : (nI (if okC nh ne (nI a_) (nI b_) hand = true then crNn np nh nn nb P G N B td (nI a_) (nI b_) nm else nn)) = (nI (crNn np nh nn nb P G N B td (nI a_) (nI b_) nm)) := by rw [if_pos (by simp [okC, c_5, c_13, c_24, hlt])]
              have q1 : (nI (if okC nh ne (nI a_) (nI b_) hand = true then adn 200 ne else ne)) = (nI (adn 200 ne)) := by rw [if_pos (by simp [okC, c_5, c_13, c_24, hlt])]
              have q2 : ((if okC nh ne (nI a_) (nI b_) hand = true then crMc np nh nn nb P G N B td mc (nI a_).toNatClampNeg (nI b_).toNatClampNeg nm else mc)) = ((crMc np nh nn nb P G N B td mc a_ b_ nm)) := by rw [if_pos (by simp [okC, c_5, c_13, c_24, hlt]), nI_clamp (show a_ < 2 ^ 31 by omega), nI_clamp (show b_ < 2 ^ 31 by omega)]
              have q3 : ((if okC nh ne (nI a_) (nI b_) hand = true then crT np nh nn nb P G N B td (nI a_) (nI b_) nm else N) 0) = ((crT np nh nn nb P G N B td (nI a_) (nI b_) nm) 0) := by rw [if_pos (by simp [okC, c_5, c_13, c_24, hlt])]
              have q4 : ((if okC nh ne (nI a_) (nI b_) hand = true then crT np nh nn nb P G N B td (nI a_) (nI b_) nm else N) 1) = ((crT np nh nn nb P G N B td (nI a_) (nI b_) nm) 1) := by rw [if_pos (by simp [okC, c_5, c_13, c_24, hlt])]
              have q5 : ((if okC nh ne (nI a_) (nI b_) hand = true then crT np nh nn nb P G N B td (nI a_) (nI b_) nm else N) 2) = ((crT np nh nn nb P G N B td (nI a_) (nI b_) nm) 2) := by rw [if_pos (by simp [okC, c_5, c_13, c_24, hlt])]
              have q6 : ((if okC nh ne (nI a_) (nI b_) hand = true then crT np nh nn nb P G N B td (nI a_) (nI b_) nm else N) 3) = ((crT np nh nn nb P G N B td (nI a_) (nI b_) nm) 3) := by rw [if_pos (by simp [okC, c_5, c_13, c_24, hlt])]
              have q7 : ((if okC nh ne (nI a_) (nI b_) hand = true then crT np nh nn nb P G N B td (nI a_) (nI b_) nm else N) 4) = ((crT np nh nn nb P G N B td (nI a_) (nI b_) nm) 4) := by rw [if_pos (by simp [okC, c_5, c_13, c_24, hlt])]
              have q8 : (fl 6 (if okC nh ne (nI a_) (nI b_) hand = true then eaddT ne E (if crR np nh nn nb P G N B td (nI a_) (nI b_) nm = -1 then 2 else 0) (nI a_) nm hand (-1) td else E)) = (fl 6 (eaddT ne E 0 (nI a_) nm hand (-1) td)) := by rw [if_pos (by simp [okC, c_5, c_13, c_24, hlt]), if_neg hne2]
              rw [q0, q1, q2, q3, q4, q5, q6, q7, q8]
              exact hP
            · skip
              exact absurd c_71 c_52
          · skip
            refine lv_iconst (v := 2) hx hb dX5_cross_55 (by decide) ?_
            refine lv_goto (tgt := 60) hx hb dX5_cross_56 (by decide) ?_
            refine lv_iload_n hx hb dX5_cross_60 rfl (lv_at hl 2 rfl) ?_
            refine lv_iload_n hx hb dX5_cross_61 rfl (lv_at hl 4 rfl) ?_
            refine lv_iload hx hb dX5_cross_62 (lv_at hl 5 rfl) ?_
            refine lv_iconst (v := (-1)) hx hb dX5_cross_64 (by decide) ?_
            refine mcVw (As := [.int 2, .int ((nI a_)), .int nm, .int hand, .int ((-1))]) (rest := []) (ci := 5) (wn := [(o5, .inr (5, [.int (nI np), .int (nI nh), .int td, .int (nI (crNn np nh nn nb P G N B td (nI a_) (nI b_) nm)), .int (nI nb), .int (nI (adn 200 ne)), .ref k6, .ref k7, .ref k8, .ref k9, .ref k10, .ref k11, .ref k12, .ref k13, .ref k14, .ref k15, .ref k16, .ref k17, .ref k18, .ref k19, .ref k20, .ref k21, .ref k22, .ref k23, .ref k24, .ref k25])), (k6, .inl (cI, 96, .inl (fl 4 P))), (k7, .inl (cI, 24, .inl (P 4))), (k8, .inl (cZ, 24, .inl (P 5))), (k9, .inl (cI, 5, .inl (G 0))), (k10, .inl (cI, 5, .inl (G 1))), (k11, .inl (cI, 5, .inl (G 2))), (k12, .inl (cI, 5, .inl (G 3))), (k13, .inl (cI, 5, .inl (G 4))), (k14, .inl (cI, 5, .inl ((crMc np nh nn nb P G N B td mc a_ b_ nm)))), (k15, .inl (cZ, 5, .inl (G 5))), (k16, .inl (cI, 200, .inl ((crT np nh nn nb P G N B td (nI a_) (nI b_) nm) 0))), (k17, .inl (cI, 200, .inl ((crT np nh nn nb P G N B td (nI a_) (nI b_) nm) 1))), (k18, .inl (cI, 200, .inl ((crT np nh nn nb P G N B td (nI a_) (nI b_) nm) 2))), (k19, .inl (cI, 200, .inl ((crT np nh nn nb P G N B td (nI a_) (nI b_) nm) 3))), (k20, .inl (cI, 200, .inl ((crT np nh nn nb P G N B td (nI a_) (nI b_) nm) 4))), (k21, .inl (cI, 20, .inl (B 0))), (k22, .inl (cI, 20, .inl (B 1))), (k23, .inl (cI, 20, .inl (B 2))), (k24, .inl (cI, 20, .inl (B 3))), (k25, .inl (cI, 1200, .inl (fl 6 (eaddT ne E 2 (nI a_) nm hand (-1) td))))]) ⟨hx, hb, hml, hown, hts⟩ (kX5_writes l D cI cZ o5 k6 k7 k8 k9 k10 k11 k12 k13 k14 k15 k16 k17 k18 k19 k20 k21 k22 k23 k24 k25 np nh (crNn np nh nn nb P G N B td (nI a_) (nI b_) nm) nb ne td P G (crT np nh nn nb P G N B td (nI a_) (nI b_) nm) B E (crMc np nh nn nb P G N B td mc a_ b_ nm) 2 (nI a_) nm hand (-1) (hlt)) (cwV 5 hts gX5_cross_X5_writes rfl rfl rfl (by decide +kernel) ⟨Nat.le_of_ble_eq_true rfl, Nat.le_of_ble_eq_true rfl⟩) hK hP hD hS rfl rfl rfl rfl rfl hl.1 rfl (Nat.le_of_ble_eq_true rfl) ⟨Nat.zero_le _, Nat.zero_le _⟩ dX5_cross_65 (fun H locs hP hD hS => ?_)
            refine W.eq (g2 := F0 mm 68 ls []) rfl ?_
            refine lv_iload hx hb dX5_cross_68 (lv_at hl 0 rfl) ?_
            refine lv_iconst (v := (-1)) hx hb dX5_cross_70 (by decide) ?_
            refine lv_icmp_ne (tgt := 78) hx hb dX5_cross_71 (by decide) (fun c_71 => ?_) (fun c_71 => ?_)
            · skip
              exact absurd c_52 c_71
            · skip
              refine lv_iconst (v := (-1)) hx hb dX5_cross_74 (by decide) ?_
              refine lv_goto (tgt := 85) hx hb dX5_cross_75 (by decide) ?_
              refine mu_iret hx hb hr hlocks hS dX5_cross_85 ?_ ?_
              · rw [if_pos (by simp [okC, c_5, c_13, c_24, hlt]), crR_no c_52]
              have q0 : (nI (if okC nh ne (nI a_) (nI b_) hand = true then crNn np nh nn nb P G N B td (nI a_) (nI b_) nm else nn)) = (nI (crNn np nh nn nb P G N B td (nI a_) (nI b_) nm)) := by rw [if_pos (by simp [okC, c_5, c_13, c_24, hlt])]
              have q1 : (nI (if okC nh ne (nI a_) (nI b_) hand = true then adn 200 ne else ne)) = (nI (adn 200 ne)) := by rw [if_pos (by simp [okC, c_5, c_13, c_24, hlt])]
              have q2 : ((if okC nh ne (nI a_) (nI b_) hand = true then crMc np nh nn nb P G N B td mc (nI a_).toNatClampNeg (nI b_).toNatClampNeg nm else mc)) = ((crMc np nh nn nb P G N B td mc a_ b_ nm)) := by rw [if_pos (by simp [okC, c_5, c_13, c_24, hlt]), nI_clamp (show a_ < 2 ^ 31 by omega), nI_clamp (show b_ < 2 ^ 31 by omega)]
              have q3 : ((if okC nh ne (nI a_) (nI b_) hand = true then crT np nh nn nb P G N B td (nI a_) (nI b_) nm else N) 0) = ((crT np nh nn nb P G N B td (nI a_) (nI b_) nm) 0) := by rw [if_pos (by simp [okC, c_5, c_13, c_24, hlt])]
              have q4 : ((if okC nh ne (nI a_) (nI b_) hand = true then crT np nh nn nb P G N B td (nI a_) (nI b_) nm else N) 1) = ((crT np nh nn nb P G N B td (nI a_) (nI b_) nm) 1) := by rw [if_pos (by simp [okC, c_5, c_13, c_24, hlt])]
              have q5 : ((if okC nh ne (nI a_) (nI b_) hand = true then crT np nh nn nb P G N B td (nI a_) (nI b_) nm else N) 2) = ((crT np nh nn nb P G N B td (nI a_) (nI b_) nm) 2) := by rw [if_pos (by simp [okC, c_5, c_13, c_24, hlt])]
              have q6 : ((if okC nh ne (nI a_) (nI b_) hand = true then crT np nh nn nb P G N B td (nI a_) (nI b_) nm else N) 3) = ((crT np nh nn nb P G N B td (nI a_) (nI b_) nm) 3) := by rw [if_pos (by simp [okC, c_5, c_13, c_24, hlt])]
              have q7 : ((if okC nh ne (nI a_) (nI b_) hand = true then crT np nh nn nb P G N B td (nI a_) (nI b_) nm else N) 4) = ((crT np nh nn nb P G N B td (nI a_) (nI b_) nm) 4) := by rw [if_pos (by simp [okC, c_5, c_13, c_24, hlt])]
              have q8 : (fl 6 (if okC nh ne (nI a_) (nI b_) hand = true then eaddT ne E (if crR np nh nn nb P G N B td (nI a_) (nI b_) nm = -1 then 2 else 0) (nI a_) nm hand (-1) td else E)) = (fl 6 (eaddT ne E 2 (nI a_) nm hand (-1) td)) := by rw [if_pos (by simp [okC, c_5, c_13, c_24, hlt]), if_pos (crR_no c_52)]
              rw [q0, q1, q2, q3, q4, q5, q6, q7, q8]
              exact hP
        · skip
          have hlt : ne = 200 := nI_inj (b := 200) (by omega) (by omega) c_34
          refine lv_iconst (v := (-1)) hx hb dX5_cross_37 (by decide) ?_
          refine mu_iret hx hb hr hlocks hS dX5_cross_38 ?_ ?_
          · rw [if_neg (by simp [okC, hlt])]
          have q0 : (nI (if okC nh ne (nI a_) (nI b_) hand = true then crNn np nh nn nb P G N B td (nI a_) (nI b_) nm else nn)) = (nI nn) := by rw [if_neg (by simp [okC, hlt])]
          have q1 : (nI (if okC nh ne (nI a_) (nI b_) hand = true then adn 200 ne else ne)) = (nI ne) := by rw [if_neg (by simp [okC, hlt])]
          have q2 : ((if okC nh ne (nI a_) (nI b_) hand = true then crMc np nh nn nb P G N B td mc (nI a_).toNatClampNeg (nI b_).toNatClampNeg nm else mc)) = (mc) := by rw [if_neg (by simp [okC, hlt])]
          have q3 : ((if okC nh ne (nI a_) (nI b_) hand = true then crT np nh nn nb P G N B td (nI a_) (nI b_) nm else N) 0) = (N 0) := by rw [if_neg (by simp [okC, hlt])]
          have q4 : ((if okC nh ne (nI a_) (nI b_) hand = true then crT np nh nn nb P G N B td (nI a_) (nI b_) nm else N) 1) = (N 1) := by rw [if_neg (by simp [okC, hlt])]
          have q5 : ((if okC nh ne (nI a_) (nI b_) hand = true then crT np nh nn nb P G N B td (nI a_) (nI b_) nm else N) 2) = (N 2) := by rw [if_neg (by simp [okC, hlt])]
          have q6 : ((if okC nh ne (nI a_) (nI b_) hand = true then crT np nh nn nb P G N B td (nI a_) (nI b_) nm else N) 3) = (N 3) := by rw [if_neg (by simp [okC, hlt])]
          have q7 : ((if okC nh ne (nI a_) (nI b_) hand = true then crT np nh nn nb P G N B td (nI a_) (nI b_) nm else N) 4) = (N 4) := by rw [if_neg (by simp [okC, hlt])]
          have q8 : (fl 6 (if okC nh ne (nI a_) (nI b_) hand = true then eaddT ne E (if crR np nh nn nb P G N B td (nI a_) (nI b_) nm = -1 then 2 else 0) (nI a_) nm hand (-1) td else E)) = (fl 6 E) := by rw [if_neg (by simp [okC, hlt])]
          rw [q0, q1, q2, q3, q4, q5, q6, q7, q8]
          exact hP
