set_option maxHeartbeats 4000000 in
set_option maxRecDepth 100000 in
theorem kX5_crossed (l : Launch) (D : va_G) (cI cZ : ClassId) (o5 k6 k7 k8 k9 k10 k11 k12 k13 k14 k15 k16 k17 k18 k19 k20 k21 k22 k23 k24 k25 np nh nn nb ne : Nat) (td : Int32) (P G N B E : Nat → Nat → Int32) (mc : Nat → Int32) (h : Nat) (g : Nat) (nm : Int32) (hnp : np ≤ 24) (hnh : nh ≤ 5) (hnn : nn ≤ 200) (hnb : nb ≤ 20) (hw : HP np (P 4)) (ho : HO nn np N) (hs : ∀ p, P 5 p = 0 ∨ P 5 p = 1) (hg : ∀ h, h < nh → GH G h) (hmc : ∀ h, h < 5 → mc h = nI (ct (fun i => decide (N 0 i = nI h)) nn)) (hon : ∀ i h, i < nn → h < nh → N 0 i = nI h → G 0 h = 2 → N 4 i = nI (ct (fun j => decide (N 0 j = nI h)) (i + 1))) (hh : h < nh) (hgg : g < nh) : Met l yX5_crossed wsX5_crossed ({ frames := 3, cells := 0, slots := 0, locals := 70 } : Room) (MuP D [(cI, .int), (cZ, .boolean)] [.ref o5, .int (nI h), .int (nI g), .int nm] [(o5, .inr (5, [.int (nI np), .int (nI nh), .int td, .int (nI nn), .int (nI nb), .int (nI ne), .ref k6, .ref k7, .ref k8, .ref k9, .ref k10, .ref k11, .ref k12, .ref k13, .ref k14, .ref k15, .ref k16, .ref k17, .ref k18, .ref k19, .ref k20, .ref k21, .ref k22, .ref k23, .ref k24, .ref k25])), (k6, .inl (cI, 96, .inl (fl 4 P))), (k7, .inl (cI, 24, .inl (P 4))), (k8, .inl (cZ, 24, .inl (P 5))), (k9, .inl (cI, 5, .inl (G 0))), (k10, .inl (cI, 5, .inl (G 1))), (k11, .inl (cI, 5, .inl (G 2))), (k12, .inl (cI, 5, .inl (G 3))), (k13, .inl (cI, 5, .inl (G 4))), (k14, .inl (cI, 5, .inl (mc))), (k15, .inl (cZ, 5, .inl (G 5))), (k16, .inl (cI, 200, .inl (N 0))), (k17, .inl (cI, 200, .inl (N 1))), (k18, .inl (cI, 200, .inl (N 2))), (k19, .inl (cI, 200, .inl (N 3))), (k20, .inl (cI, 200, .inl (N 4))), (k21, .inl (cI, 20, .inl (B 0))), (k22, .inl (cI, 20, .inl (B 1))), (k23, .inl (cI, 20, .inl (B 2))), (k24, .inl (cI, 20, .inl (B 3))), (k25, .inl (cI, 1200, .inl (fl 6 E)))]) (QM D (some (.int (crI np nh nn nb P G N B td (nI h) (nI g) nm))) [(o5, .inr (5, [.int (nI np), .int (nI nh), .int td, .int (nI nn), .int (nI nb), .int (nI ne), .ref k6, .ref k7, .ref k8, .ref k9, .ref k10, .ref k11, .ref k12, .ref k13, .ref k14, .ref k15, .ref k16, .ref k17, .ref k18, .ref k19, .ref k20, .ref k21, .ref k22, .ref k23, .ref k24, .ref k25])), (k6, .inl (cI, 96, .inl (fl 4 P))), (k7, .inl (cI, 24, .inl (P 4))), (k8, .inl (cZ, 24, .inl (P 5))), (k9, .inl (cI, 5, .inl (G 0))), (k10, .inl (cI, 5, .inl (G 1))), (k11, .inl (cI, 5, .inl (G 2))), (k12, .inl (cI, 5, .inl (G 3))), (k13, .inl (cI, 5, .inl (G 4))), (k14, .inl (cI, 5, .inl (mc))), (k15, .inl (cZ, 5, .inl (G 5))), (k16, .inl (cI, 200, .inl (N 0))), (k17, .inl (cI, 200, .inl (N 1))), (k18, .inl (cI, 200, .inl (N 2))), (k19, .inl (cI, 200, .inl (N 3))), (k20, .inl (cI, 200, .inl (N 4))), (k21, .inl (cI, 20, .inl (B 0))), (k22, .inl (cI, 20, .inl (B 1))), (k23, .inl (cI, 20, .inl (B 2))), (k24, .inl (cI, 20, .inl (B 3))), (k25, .inl (cI, 1200, .inl (fl 6 E)))] [(o5, .inr (5, [.int (nI np), .int (nI nh), .int td, .int (nI (crNn np nh nn nb P G N B td (nI h) (nI g) nm)), .int (nI nb), .int (nI ne), .ref k6, .ref k7, .ref k8, .ref k9, .ref k10, .ref k11, .ref k12, .ref k13, .ref k14, .ref k15, .ref k16, .ref k17, .ref k18, .ref k19, .ref k20, .ref k21, .ref k22, .ref k23, .ref k24, .ref k25])), (k6, .inl (cI, 96, .inl (fl 4 P))), (k7, .inl (cI, 24, .inl (P 4))), (k8, .inl (cZ, 24, .inl (P 5))), (k9, .inl (cI, 5, .inl (G 0))), (k10, .inl (cI, 5, .inl (G 1))), (k11, .inl (cI, 5, .inl (G 2))), (k12, .inl (cI, 5, .inl (G 3))), (k13, .inl (cI, 5, .inl (G 4))), (k14, .inl (cI, 5, .inl ((crMc np nh nn nb P G N B td mc h g nm)))), (k15, .inl (cZ, 5, .inl (G 5))), (k16, .inl (cI, 200, .inl ((crT np nh nn nb P G N B td (nI h) (nI g) nm) 0))), (k17, .inl (cI, 200, .inl ((crT np nh nn nb P G N B td (nI h) (nI g) nm) 1))), (k18, .inl (cI, 200, .inl ((crT np nh nn nb P G N B td (nI h) (nI g) nm) 2))), (k19, .inl (cI, 200, .inl ((crT np nh nn nb P G N B td (nI h) (nI g) nm) 3))), (k20, .inl (cI, 200, .inl ((crT np nh nn nb P G N B td (nI h) (nI g) nm) 4))), (k21, .inl (cI, 20, .inl (B 0))), (k22, .inl (cI, 20, .inl (B 1))), (k23, .inl (cI, 20, .inl (B 2))), (k24, .inl (cI, 20, .inl (B 3))), (k25, .inl (cI, 1200, .inl (fl 6 E)))]) 0 0 (adr [(o5, .inr (5, [.int (nI np), .int (nI nh), .int td, .int (nI nn), .int (nI nb), .int (nI ne), .ref k6, .ref k7, .ref k8, .ref k9, .ref k10, .ref k11, .ref k12, .ref k13, .ref k14, .ref k15, .ref k16, .ref k17, .ref k18, .ref k19, .ref k20, .ref k21, .ref k22, .ref k23, .ref k24, .ref k25])), (k6, .inl (cI, 96, .inl (fl 4 P))), (k7, .inl (cI, 24, .inl (P 4))), (k8, .inl (cZ, 24, .inl (P 5))), (k9, .inl (cI, 5, .inl (G 0))), (k10, .inl (cI, 5, .inl (G 1))), (k11, .inl (cI, 5, .inl (G 2))), (k12, .inl (cI, 5, .inl (G 3))), (k13, .inl (cI, 5, .inl (G 4))), (k14, .inl (cI, 5, .inl (mc))), (k15, .inl (cZ, 5, .inl (G 5))), (k16, .inl (cI, 200, .inl (N 0))), (k17, .inl (cI, 200, .inl (N 1))), (k18, .inl (cI, 200, .inl (N 2))), (k19, .inl (cI, 200, .inl (N 3))), (k20, .inl (cI, 200, .inl (N 4))), (k21, .inl (cI, 20, .inl (B 0))), (k22, .inl (cI, 20, .inl (B 1))), (k23, .inl (cI, 20, .inl (B 2))), (k24, .inl (cI, 20, .inl (B 3))), (k25, .inl (cI, 1200, .inl (fl 6 E)))]) := by
  refine mu_of (cc := cX5_crossed) (maxL := 5) (ret := (some .int)) (by decide) rfl (Nat.le_of_ble_eq_true rfl) ?_
  intro pp ee ss mm bw me cd ls hx hb hr hts hown hlocks hml hK hl H locs hP hD hS
  have hl : lv_has ls 5 [(0, .ref o5), (1, .int ((nI h))), (2, .int ((nI g))), (3, .int nm)] := hl
  have hf94 := hts (.fieldLink RX5 94 "OtherNamesModel" "now" "I") (by decide +kernel)
  have hin5 := (show ∀ w ∈ wsX50, w ∈ wsX5_crossed by decide +kernel)
  have hf38 := hts (.fieldLink RX5 38 "OtherNamesModel" "isLost" "[Z") (by decide +kernel)
  have hf16 := hts (.fieldLink RX5 16 "OtherNamesModel" "isStruck" "[Z") (by decide +kernel)
  have hf47 := hts (.fieldLink RX5 47 "OtherNamesModel" "owner" "[I") (by decide +kernel)
  have hf20 := hts (.fieldLink RX5 20 "OtherNamesModel" "kind" "[I") (by decide +kernel)
  have hf53 := hts (.fieldLink RX5 53 "OtherNamesModel" "nameSpan" "[I") (by decide +kernel)
  have t5 : tat nh 6 G (nI h) 5 = G 5 h := tatG (c := 5) hnh hh (by omega)
  have t0 : tat nh 6 G (nI h) 0 = G 0 h := tatG (c := 0) hnh hh (by omega)
  refine lv_aload_n hx hb dX5_crossed_0 rfl (lv_at hl 0 rfl) ?_
  refine lv_iload_n hx hb dX5_crossed_1 rfl (lv_at hl 1 rfl) ?_
  refine lv_iload_n hx hb dX5_crossed_2 rfl (lv_at hl 3 rfl) ?_
  refine rcVw (As := [.int ((nI h)), .int nm]) (rest := []) (ci := 5) ⟨hx, hb, hml, hown, hts⟩ (kX5_find l D cI cZ o5 k6 k7 k8 k9 k10 k11 k12 k13 k14 k15 k16 k17 k18 k19 k20 k21 k22 k23 k24 k25 np nh nn nb ne td P G N B E mc (nI h) nm (by first | assumption | omega)) (cwV 2 hts gX5_crossed_X5_find rfl rfl rfl (by decide +kernel) ⟨Nat.le_of_ble_eq_true rfl, Nat.le_of_ble_eq_true rfl⟩) hK hP rfl rfl rfl rfl hl.1 rfl (Nat.le_of_ble_eq_true rfl) ⟨Nat.zero_le _, Nat.zero_le _⟩ dX5_crossed_3 ?_
  refine lv_istore (lv' := [(4, .int (fsI (fdB N (nI h) nm) nn)), (0, .ref o5), (1, .int ((nI h))), (2, .int ((nI g))), (3, .int nm)]) hx hb dX5_crossed_6 hl (by decide) rfl (fun ls hl => ?_)
  refine lv_iload hx hb dX5_crossed_8 (lv_at hl 0 rfl) ?_
  refine lv_iconst (v := (-1)) hx hb dX5_crossed_10 (by decide) ?_
  refine lv_icmp_eq (tgt := 76) hx hb dX5_crossed_11 (by decide) (fun c_11 => ?_) (fun c_11 => ?_)
  · skip
    refine lv_iconst (v := (-1)) hx hb dX5_crossed_76 (by decide) ?_
    refine mu_iret hx hb hr hlocks hS dX5_crossed_77 ?_ ?_
    · rw [crI, if_neg (by simp [crB, c_11])]
    have q0 : (nI (crNn np nh nn nb P G N B td (nI h) (nI g) nm)) = (nI nn) := by rw [crNn, if_neg (by simp [crB, c_11])]
    have q1 : ((crMc np nh nn nb P G N B td mc h g nm)) = (mc) := by rw [crMc, if_neg (by simp [crB, c_11])]
    have q2 : ((crT np nh nn nb P G N B td (nI h) (nI g) nm) 0) = (N 0) := by rw [crT, if_neg (by simp [crB, c_11])]
    have q3 : ((crT np nh nn nb P G N B td (nI h) (nI g) nm) 1) = (N 1) := by rw [crT, if_neg (by simp [crB, c_11])]
    have q4 : ((crT np nh nn nb P G N B td (nI h) (nI g) nm) 2) = (N 2) := by rw [crT, if_neg (by simp [crB, c_11])]
    have q5 : ((crT np nh nn nb P G N B td (nI h) (nI g) nm) 3) = (N 3) := by rw [crT, if_neg (by simp [crB, c_11])]
    have q6 : ((crT np nh nn nb P G N B td (nI h) (nI g) nm) 4) = (N 4) := by rw [crT, if_neg (by simp [crB, c_11])]
    rw [q0, q1, q2, q3, q4, q5, q6]
    exact hP
  · skip
    obtain ⟨i, hi2, e, hf, hmin⟩ := fsI_ex (by omega) c_11
    rw [e] at hl
    have hoi := (ho i hi2).2
    have tN4 : tat nn 5 N (nI i) 4 = N 4 i := tat_nI (c := 4) (by omega) (by omega) hi2 (by omega)
    refine lv_aload_n hx hb dX5_crossed_14 rfl (lv_at hl 1 rfl) ?_
    refine lv_iload_n hx hb dX5_crossed_15 rfl (lv_at hl 2 rfl) ?_
    refine lv_iload_n hx hb dX5_crossed_16 rfl (lv_at hl 3 rfl) ?_
    refine lv_aload_n hx hb dX5_crossed_17 rfl (lv_at hl 1 rfl) ?_
    refine va_get (D := D) (ci := 5) (v := .int td) (C := RX5) (T := TX5) (N := 26) hx hb hts hin5 hown hK hP 0 rfl rfl 2 (by decide) hf94 (fun _ h9 => h9) rfl dX5_crossed_18 ?_
    refine rcVw (As := [.int ((nI h)), .int ((nI g)), .int td]) (rest := []) (ci := 5) ⟨hx, hb, hml, hown, hts⟩ (kX5_isHeld l D cI cZ o5 k6 k7 k8 k9 k10 k11 k12 k13 k14 k15 k16 k17 k18 k19 k20 k21 k22 k23 k24 k25 np nh nn nb ne td P G N B E mc (nI h) (nI g) td (by first | assumption | omega)) (cwV 3 hts gX5_crossed_X5_isHeld rfl rfl rfl (by decide +kernel) ⟨Nat.le_of_ble_eq_true rfl, Nat.le_of_ble_eq_true rfl⟩) hK hP rfl rfl rfl rfl hl.1 rfl (Nat.le_of_ble_eq_true rfl) ⟨Nat.zero_le _, Nat.zero_le _⟩ dX5_crossed_21 ?_
    refine lb_eq (tgt := 76) hx hb dX5_crossed_24 (by decide) (fun c_24 => ?_) (fun c_24 => ?_)
    · skip
      refine lv_iconst (v := (-1)) hx hb dX5_crossed_76 (by decide) ?_
      refine mu_iret hx hb hr hlocks hS dX5_crossed_77 ?_ ?_
      · rw [crI, if_neg (by simp [crB, e, nI_clamp (show i < 2 ^ 31 by omega), m1_nI (show i < 2 ^ 31 by omega), t5, t0, tN4, c_24])]
      have q0 : (nI (crNn np nh nn nb P G N B td (nI h) (nI g) nm)) = (nI nn) := by rw [crNn, if_neg (by simp [crB, e, nI_clamp (show i < 2 ^ 31 by omega), m1_nI (show i < 2 ^ 31 by omega), t5, t0, tN4, c_24])]
      have q1 : ((crMc np nh nn nb P G N B td mc h g nm)) = (mc) := by rw [crMc, if_neg (by simp [crB, e, nI_clamp (show i < 2 ^ 31 by omega), m1_nI (show i < 2 ^ 31 by omega), t5, t0, tN4, c_24])]
      have q2 : ((crT np nh nn nb P G N B td (nI h) (nI g) nm) 0) = (N 0) := by rw [crT, if_neg (by simp [crB, e, nI_clamp (show i < 2 ^ 31 by omega), m1_nI (show i < 2 ^ 31 by omega), t5, t0, tN4, c_24])]
      have q3 : ((crT np nh nn nb P G N B td (nI h) (nI g) nm) 1) = (N 1) := by rw [crT, if_neg (by simp [crB, e, nI_clamp (show i < 2 ^ 31 by omega), m1_nI (show i < 2 ^ 31 by omega), t5, t0, tN4, c_24])]
      have q4 : ((crT np nh nn nb P G N B td (nI h) (nI g) nm) 2) = (N 2) := by rw [crT, if_neg (by simp [crB, e, nI_clamp (show i < 2 ^ 31 by omega), m1_nI (show i < 2 ^ 31 by omega), t5, t0, tN4, c_24])]
      have q5 : ((crT np nh nn nb P G N B td (nI h) (nI g) nm) 3) = (N 3) := by rw [crT, if_neg (by simp [crB, e, nI_clamp (show i < 2 ^ 31 by omega), m1_nI (show i < 2 ^ 31 by omega), t5, t0, tN4, c_24])]
      have q6 : ((crT np nh nn nb P G N B td (nI h) (nI g) nm) 4) = (N 4) := by rw [crT, if_neg (by simp [crB, e, nI_clamp (show i < 2 ^ 31 by omega), m1_nI (show i < 2 ^ 31 by omega), t5, t0, tN4, c_24])]
      rw [q0, q1, q2, q3, q4, q5, q6]
      exact hP
    · skip
      refine lv_aload_n hx hb dX5_crossed_27 rfl (lv_at hl 1 rfl) ?_
      refine va_get (D := D) (ci := 5) (v := .ref k15) (C := RX5) (T := TX5) (N := 26) hx hb hts hin5 hown hK hP 0 rfl rfl 15 (by decide) hf38 (fun _ h9 => h9) rfl dX5_crossed_28 ?_
      refine lv_iload_n hx hb dX5_crossed_31 rfl (lv_at hl 2 rfl) ?_
      refine va_zaldN (D := D) (cl := vwCl) (cA := cZ) (f := G 5) hx hb hK hP 10 1 rfl rfl h (rfl) (by omega) (by first | decide | assumption) dX5_crossed_32 ?_
      refine lv_if_ne (tgt := 76) hx hb dX5_crossed_33 (by decide) (fun c_33 => ?_) (fun c_33 => ?_)
      · skip
        have c_33 : G 5 h = 1 := (hg h hh).2.2.resolve_left c_33
        refine lv_iconst (v := (-1)) hx hb dX5_crossed_76 (by decide) ?_
        refine mu_iret hx hb hr hlocks hS dX5_crossed_77 ?_ ?_
        · rw [crI, if_neg (by simp [crB, e, nI_clamp (show i < 2 ^ 31 by omega), m1_nI (show i < 2 ^ 31 by omega), t5, t0, tN4, c_24, c_33])]
        have q0 : (nI (crNn np nh nn nb P G N B td (nI h) (nI g) nm)) = (nI nn) := by rw [crNn, if_neg (by simp [crB, e, nI_clamp (show i < 2 ^ 31 by omega), m1_nI (show i < 2 ^ 31 by omega), t5, t0, tN4, c_24, c_33])]
        have q1 : ((crMc np nh nn nb P G N B td mc h g nm)) = (mc) := by rw [crMc, if_neg (by simp [crB, e, nI_clamp (show i < 2 ^ 31 by omega), m1_nI (show i < 2 ^ 31 by omega), t5, t0, tN4, c_24, c_33])]
        have q2 : ((crT np nh nn nb P G N B td (nI h) (nI g) nm) 0) = (N 0) := by rw [crT, if_neg (by simp [crB, e, nI_clamp (show i < 2 ^ 31 by omega), m1_nI (show i < 2 ^ 31 by omega), t5, t0, tN4, c_24, c_33])]
        have q3 : ((crT np nh nn nb P G N B td (nI h) (nI g) nm) 1) = (N 1) := by rw [crT, if_neg (by simp [crB, e, nI_clamp (show i < 2 ^ 31 by omega), m1_nI (show i < 2 ^ 31 by omega), t5, t0, tN4, c_24, c_33])]
        have q4 : ((crT np nh nn nb P G N B td (nI h) (nI g) nm) 2) = (N 2) := by rw [crT, if_neg (by simp [crB, e, nI_clamp (show i < 2 ^ 31 by omega), m1_nI (show i < 2 ^ 31 by omega), t5, t0, tN4, c_24, c_33])]
        have q5 : ((crT np nh nn nb P G N B td (nI h) (nI g) nm) 3) = (N 3) := by rw [crT, if_neg (by simp [crB, e, nI_clamp (show i < 2 ^ 31 by omega), m1_nI (show i < 2 ^ 31 by omega), t5, t0, tN4, c_24, c_33])]
        have q6 : ((crT np nh nn nb P G N B td (nI h) (nI g) nm) 4) = (N 4) := by rw [crT, if_neg (by simp [crB, e, nI_clamp (show i < 2 ^ 31 by omega), m1_nI (show i < 2 ^ 31 by omega), t5, t0, tN4, c_24, c_33])]
        rw [q0, q1, q2, q3, q4, q5, q6]
        exact hP
      · skip
        refine lv_aload_n hx hb dX5_crossed_36 rfl (lv_at hl 1 rfl) ?_
        refine va_get (D := D) (ci := 5) (v := .ref k8) (C := RX5) (T := TX5) (N := 26) hx hb hts hin5 hown hK hP 0 rfl rfl 8 (by decide) hf16 (fun _ h9 => h9) rfl dX5_crossed_37 ?_
        refine lv_aload_n hx hb dX5_crossed_40 rfl (lv_at hl 1 rfl) ?_
        refine va_get (D := D) (ci := 5) (v := .ref k18) (C := RX5) (T := TX5) (N := 26) hx hb hts hin5 hown hK hP 0 rfl rfl 18 (by decide) hf47 (fun _ h9 => h9) rfl dX5_crossed_41 ?_
        refine lv_iload hx hb dX5_crossed_44 (lv_at hl 0 rfl) ?_
        refine va_ialdN (D := D) (cl := vwCl) (cA := cI) (f := N 2) hx hb hK hP 13 0 rfl rfl i (rfl) (by omega) (by first | decide | assumption) dX5_crossed_46 ?_
        rw [show ((N 2) i) = nI (ow N i) from (ho i hi2).1]
        refine va_zaldN (D := D) (cl := vwCl) (cA := cZ) (f := P 5) hx hb hK hP 3 1 rfl rfl (ow N i) (rfl) (by omega) (by first | decide | assumption) dX5_crossed_47 ?_
        refine lv_if_ne (tgt := 76) hx hb dX5_crossed_48 (by decide) (fun c_48 => ?_) (fun c_48 => ?_)
        · skip
          have hst := isSt_1 hnp hoi hs c_48
          refine lv_iconst (v := (-1)) hx hb dX5_crossed_76 (by decide) ?_
          refine mu_iret hx hb hr hlocks hS dX5_crossed_77 ?_ ?_
          · rw [crI, if_neg (by simp [crB, e, nI_clamp (show i < 2 ^ 31 by omega), m1_nI (show i < 2 ^ 31 by omega), t5, t0, tN4, c_24, c_33, hst])]
          have q0 : (nI (crNn np nh nn nb P G N B td (nI h) (nI g) nm)) = (nI nn) := by rw [crNn, if_neg (by simp [crB, e, nI_clamp (show i < 2 ^ 31 by omega), m1_nI (show i < 2 ^ 31 by omega), t5, t0, tN4, c_24, c_33, hst])]
          have q1 : ((crMc np nh nn nb P G N B td mc h g nm)) = (mc) := by rw [crMc, if_neg (by simp [crB, e, nI_clamp (show i < 2 ^ 31 by omega), m1_nI (show i < 2 ^ 31 by omega), t5, t0, tN4, c_24, c_33, hst])]
          have q2 : ((crT np nh nn nb P G N B td (nI h) (nI g) nm) 0) = (N 0) := by rw [crT, if_neg (by simp [crB, e, nI_clamp (show i < 2 ^ 31 by omega), m1_nI (show i < 2 ^ 31 by omega), t5, t0, tN4, c_24, c_33, hst])]
          have q3 : ((crT np nh nn nb P G N B td (nI h) (nI g) nm) 1) = (N 1) := by rw [crT, if_neg (by simp [crB, e, nI_clamp (show i < 2 ^ 31 by omega), m1_nI (show i < 2 ^ 31 by omega), t5, t0, tN4, c_24, c_33, hst])]
          have q4 : ((crT np nh nn nb P G N B td (nI h) (nI g) nm) 2) = (N 2) := by rw [crT, if_neg (by simp [crB, e, nI_clamp (show i < 2 ^ 31 by omega), m1_nI (show i < 2 ^ 31 by omega), t5, t0, tN4, c_24, c_33, hst])]
          have q5 : ((crT np nh nn nb P G N B td (nI h) (nI g) nm) 3) = (N 3) := by rw [crT, if_neg (by simp [crB, e, nI_clamp (show i < 2 ^ 31 by omega), m1_nI (show i < 2 ^ 31 by omega), t5, t0, tN4, c_24, c_33, hst])]
          have q6 : ((crT np nh nn nb P G N B td (nI h) (nI g) nm) 4) = (N 4) := by rw [crT, if_neg (by simp [crB, e, nI_clamp (show i < 2 ^ 31 by omega), m1_nI (show i < 2 ^ 31 by omega), t5, t0, tN4, c_24, c_33, hst])]
          rw [q0, q1, q2, q3, q4, q5, q6]
          exact hP
        · skip
          have hst := isSt_0 hnp hoi c_48
          refine lv_aload_n hx hb dX5_crossed_51 rfl (lv_at hl 1 rfl) ?_
          refine va_get (D := D) (ci := 5) (v := .ref k9) (C := RX5) (T := TX5) (N := 26) hx hb hts hin5 hown hK hP 0 rfl rfl 9 (by decide) hf20 (fun _ h9 => h9) rfl dX5_crossed_52 ?_
          refine lv_iload_n hx hb dX5_crossed_55 rfl (lv_at hl 2 rfl) ?_
          refine va_ialdN (D := D) (cl := vwCl) (cA := cI) (f := G 0) hx hb hK hP 4 0 rfl rfl h (rfl) (by omega) (by first | decide | assumption) dX5_crossed_56 ?_
          refine lv_iconst (v := 1) hx hb dX5_crossed_57 (by decide) ?_
          refine lv_icmp_ne (tgt := 78) hx hb dX5_crossed_58 (by decide) (fun c_58 => ?_) (fun c_58 => ?_)
          · skip
            refine lv_aload_n hx hb dX5_crossed_78 rfl (lv_at hl 1 rfl) ?_
            refine lv_iload_n hx hb dX5_crossed_79 rfl (lv_at hl 3 rfl) ?_
            refine lv_aload_n hx hb dX5_crossed_80 rfl (lv_at hl 1 rfl) ?_
            refine va_get (D := D) (ci := 5) (v := .ref k18) (C := RX5) (T := TX5) (N := 26) hx hb hts hin5 hown hK hP 0 rfl rfl 18 (by decide) hf47 (fun _ h9 => h9) rfl dX5_crossed_81 ?_
            refine lv_iload hx hb dX5_crossed_84 (lv_at hl 0 rfl) ?_
            refine va_ialdN (D := D) (cl := vwCl) (cA := cI) (f := N 2) hx hb hK hP 13 0 rfl rfl i (rfl) (by omega) (by first | decide | assumption) dX5_crossed_86 ?_
            rw [show ((N 2) i) = nI (ow N i) from (ho i hi2).1]
            refine mcVw (As := [.int ((nI g)), .int (nI (ow N i))]) (rest := []) (ci := 5) (wn := [(o5, .inr (5, [.int (nI np), .int (nI nh), .int td, .int (nI (nmNn nh nn P G N td (nI g) (ow N i))), .int (nI nb), .int (nI ne), .ref k6, .ref k7, .ref k8, .ref k9, .ref k10, .ref k11, .ref k12, .ref k13, .ref k14, .ref k15, .ref k16, .ref k17, .ref k18, .ref k19, .ref k20, .ref k21, .ref k22, .ref k23, .ref k24, .ref k25])), (k6, .inl (cI, 96, .inl (fl 4 P))), (k7, .inl (cI, 24, .inl (P 4))), (k8, .inl (cZ, 24, .inl (P 5))), (k9, .inl (cI, 5, .inl (G 0))), (k10, .inl (cI, 5, .inl (G 1))), (k11, .inl (cI, 5, .inl (G 2))), (k12, .inl (cI, 5, .inl (G 3))), (k13, .inl (cI, 5, .inl (G 4))), (k14, .inl (cI, 5, .inl ((nmMc nh nn P G N td mc g (ow N i))))), (k15, .inl (cZ, 5, .inl (G 5))), (k16, .inl (cI, 200, .inl ((nmT nh nn P G N td (nI g) (ow N i)) 0))), (k17, .inl (cI, 200, .inl ((nmT nh nn P G N td (nI g) (ow N i)) 1))), (k18, .inl (cI, 200, .inl ((nmT nh nn P G N td (nI g) (ow N i)) 2))), (k19, .inl (cI, 200, .inl ((nmT nh nn P G N td (nI g) (ow N i)) 3))), (k20, .inl (cI, 200, .inl ((nmT nh nn P G N td (nI g) (ow N i)) 4))), (k21, .inl (cI, 20, .inl (B 0))), (k22, .inl (cI, 20, .inl (B 1))), (k23, .inl (cI, 20, .inl (B 2))), (k24, .inl (cI, 20, .inl (B 3))), (k25, .inl (cI, 1200, .inl (fl 6 E)))]) ⟨hx, hb, hml, hown, hts⟩ (kX5_namesOf l D cI cZ o5 k6 k7 k8 k9 k10 k11 k12 k13 k14 k15 k16 k17 k18 k19 k20 k21 k22 k23 k24 k25 np nh nn nb ne td P G N B E mc g (ow N i) (by first | assumption | omega) (by first | assumption | omega) (by first | assumption | omega) (by first | assumption | omega) (by first | assumption | omega) (by first | assumption | omega) (by first | assumption | omega) (by first | assumption | omega) (hgg) (hoi)) (cwV 2 hts gX5_crossed_X5_namesOf rfl rfl rfl (by decide +kernel) ⟨Nat.le_of_ble_eq_true rfl, Nat.le_of_ble_eq_true rfl⟩) hK hP hD hS rfl rfl rfl rfl rfl hl.1 rfl (Nat.le_of_ble_eq_true rfl) ⟨Nat.zero_le _, Nat.zero_le _⟩ dX5_crossed_87 (fun H locs hP hD hS => ?_)
            refine W.eq (g2 := F0 mm 90 ls (.int (nmI nh nn P G N td (nI g) (ow N i)) :: [])) rfl ?_
            refine mu_iret hx hb hr hlocks hS dX5_crossed_90 ?_ ?_
            · rw [crI, if_pos (by simp [crB, e, nI_clamp (show i < 2 ^ 31 by omega), m1_nI (show i < 2 ^ 31 by omega), t5, t0, tN4, c_24, c_33, hst, c_58]), e, nI_clamp (show i < 2 ^ 31 by omega)]
            have q0 : (nI (crNn np nh nn nb P G N B td (nI h) (nI g) nm)) = (nI (nmNn nh nn P G N td (nI g) (ow N i))) := by rw [crNn, if_pos (by simp [crB, e, nI_clamp (show i < 2 ^ 31 by omega), m1_nI (show i < 2 ^ 31 by omega), t5, t0, tN4, c_24, c_33, hst, c_58]), e, nI_clamp (show i < 2 ^ 31 by omega)]
            have q1 : ((crMc np nh nn nb P G N B td mc h g nm)) = ((nmMc nh nn P G N td mc g (ow N i))) := by rw [crMc, if_pos (by simp [crB, e, nI_clamp (show i < 2 ^ 31 by omega), m1_nI (show i < 2 ^ 31 by omega), t5, t0, tN4, c_24, c_33, hst, c_58]), e, nI_clamp (show i < 2 ^ 31 by omega)]
            have q2 : ((crT np nh nn nb P G N B td (nI h) (nI g) nm) 0) = ((nmT nh nn P G N td (nI g) (ow N i)) 0) := by rw [crT, if_pos (by simp [crB, e, nI_clamp (show i < 2 ^ 31 by omega), m1_nI (show i < 2 ^ 31 by omega), t5, t0, tN4, c_24, c_33, hst, c_58]), e, nI_clamp (show i < 2 ^ 31 by omega)]
            have q3 : ((crT np nh nn nb P G N B td (nI h) (nI g) nm) 1) = ((nmT nh nn P G N td (nI g) (ow N i)) 1) := by rw [crT, if_pos (by simp [crB, e, nI_clamp (show i < 2 ^ 31 by omega), m1_nI (show i < 2 ^ 31 by omega), t5, t0, tN4, c_24, c_33, hst, c_58]), e, nI_clamp (show i < 2 ^ 31 by omega)]
            have q4 : ((crT np nh nn nb P G N B td (nI h) (nI g) nm) 2) = ((nmT nh nn P G N td (nI g) (ow N i)) 2) := by rw [crT, if_pos (by simp [crB, e, nI_clamp (show i < 2 ^ 31 by omega), m1_nI (show i < 2 ^ 31 by omega), t5, t0, tN4, c_24, c_33, hst, c_58]), e, nI_clamp (show i < 2 ^ 31 by omega)]
            have q5 : ((crT np nh nn nb P G N B td (nI h) (nI g) nm) 3) = ((nmT nh nn P G N td (nI g) (ow N i)) 3) := by rw [crT, if_pos (by simp [crB, e, nI_clamp (show i < 2 ^ 31 by omega), m1_nI (show i < 2 ^ 31 by omega), t5, t0, tN4, c_24, c_33, hst, c_58]), e, nI_clamp (show i < 2 ^ 31 by omega)]
            have q6 : ((crT np nh nn nb P G N B td (nI h) (nI g) nm) 4) = ((nmT nh nn P G N td (nI g) (ow N i)) 4) := by rw [crT, if_pos (by simp [crB, e, nI_clamp (show i < 2 ^ 31 by omega), m1_nI (show i < 2 ^ 31 by omega), t5, t0, tN4, c_24, c_33, hst, c_58]), e, nI_clamp (show i < 2 ^ 31 by omega)]
            rw [q0, q1, q2, q3, q4, q5, q6]
            exact hP
          · skip
            have hsp := spN_else (td := td) (k := 0) hnh hh (hg h hh) (by rw [c_58]; decide)
            refine lv_aload_n hx hb dX5_crossed_61 rfl (lv_at hl 1 rfl) ?_
            refine va_get (D := D) (ci := 5) (v := .ref k20) (C := RX5) (T := TX5) (N := 26) hx hb hts hin5 hown hK hP 0 rfl rfl 20 (by decide) hf53 (fun _ h9 => h9) rfl dX5_crossed_62 ?_
            refine lv_iload hx hb dX5_crossed_65 (lv_at hl 0 rfl) ?_
            refine va_ialdN (D := D) (cl := vwCl) (cA := cI) (f := N 4) hx hb hK hP 15 0 rfl rfl i (rfl) (by omega) (by first | decide | assumption) dX5_crossed_67 ?_
            refine lv_aload_n hx hb dX5_crossed_68 rfl (lv_at hl 1 rfl) ?_
            refine lv_iload_n hx hb dX5_crossed_69 rfl (lv_at hl 2 rfl) ?_
            refine rcVw (As := [.int ((nI h))]) (rest := [.int (((N 4) i))]) (ci := 5) ⟨hx, hb, hml, hown, hts⟩ (kX5_spanNow l D cI cZ o5 k6 k7 k8 k9 k10 k11 k12 k13 k14 k15 k16 k17 k18 k19 k20 k21 k22 k23 k24 k25 np nh nn nb ne td P G N B E mc h (by first | assumption | omega) (by first | assumption | omega) (hh)) (cwV 1 hts gX5_crossed_X5_spanNow rfl rfl rfl (by decide +kernel) ⟨Nat.le_of_ble_eq_true rfl, Nat.le_of_ble_eq_true rfl⟩) hK hP rfl rfl rfl rfl hl.1 rfl (Nat.le_of_ble_eq_true rfl) ⟨Nat.zero_le _, Nat.zero_le _⟩ dX5_crossed_70 ?_
            refine lv_icmp_eq (tgt := 78) hx hb dX5_crossed_73 (by decide) (fun c_73 => ?_) (fun c_73 => ?_)
            · skip
              refine lv_aload_n hx hb dX5_crossed_78 rfl (lv_at hl 1 rfl) ?_
              refine lv_iload_n hx hb dX5_crossed_79 rfl (lv_at hl 3 rfl) ?_
              refine lv_aload_n hx hb dX5_crossed_80 rfl (lv_at hl 1 rfl) ?_
              refine va_get (D := D) (ci := 5) (v := .ref k18) (C := RX5) (T := TX5) (N := 26) hx hb hts hin5 hown hK hP 0 rfl rfl 18 (by decide) hf47 (fun _ h9 => h9) rfl dX5_crossed_81 ?_
              refine lv_iload hx hb dX5_crossed_84 (lv_at hl 0 rfl) ?_
              refine va_ialdN (D := D) (cl := vwCl) (cA := cI) (f := N 2) hx hb hK hP 13 0 rfl rfl i (rfl) (by omega) (by first | decide | assumption) dX5_crossed_86 ?_
              rw [show ((N 2) i) = nI (ow N i) from (ho i hi2).1]
              refine mcVw (As := [.int ((nI g)), .int (nI (ow N i))]) (rest := []) (ci := 5) (wn := [(o5, .inr (5, [.int (nI np), .int (nI nh), .int td, .int (nI (nmNn nh nn P G N td (nI g) (ow N i))), .int (nI nb), .int (nI ne), .ref k6, .ref k7, .ref k8, .ref k9, .ref k10, .ref k11, .ref k12, .ref k13, .ref k14, .ref k15, .ref k16, .ref k17, .ref k18, .ref k19, .ref k20, .ref k21, .ref k22, .ref k23, .ref k24, .ref k25])), (k6, .inl (cI, 96, .inl (fl 4 P))), (k7, .inl (cI, 24, .inl (P 4))), (k8, .inl (cZ, 24, .inl (P 5))), (k9, .inl (cI, 5, .inl (G 0))), (k10, .inl (cI, 5, .inl (G 1))), (k11, .inl (cI, 5, .inl (G 2))), (k12, .inl (cI, 5, .inl (G 3))), (k13, .inl (cI, 5, .inl (G 4))), (k14, .inl (cI, 5, .inl ((nmMc nh nn P G N td mc g (ow N i))))), (k15, .inl (cZ, 5, .inl (G 5))), (k16, .inl (cI, 200, .inl ((nmT nh nn P G N td (nI g) (ow N i)) 0))), (k17, .inl (cI, 200, .inl ((nmT nh nn P G N td (nI g) (ow N i)) 1))), (k18, .inl (cI, 200, .inl ((nmT nh nn P G N td (nI g) (ow N i)) 2))), (k19, .inl (cI, 200, .inl ((nmT nh nn P G N td (nI g) (ow N i)) 3))), (k20, .inl (cI, 200, .inl ((nmT nh nn P G N td (nI g) (ow N i)) 4))), (k21, .inl (cI, 20, .inl (B 0))), (k22, .inl (cI, 20, .inl (B 1))), (k23, .inl (cI, 20, .inl (B 2))), (k24, .inl (cI, 20, .inl (B 3))), (k25, .inl (cI, 1200, .inl (fl 6 E)))]) ⟨hx, hb, hml, hown, hts⟩ (kX5_namesOf l D cI cZ o5 k6 k7 k8 k9 k10 k11 k12 k13 k14 k15 k16 k17 k18 k19 k20 k21 k22 k23 k24 k25 np nh nn nb ne td P G N B E mc g (ow N i) (by first | assumption | omega) (by first | assumption | omega) (by first | assumption | omega) (by first | assumption | omega) (by first | assumption | omega) (by first | assumption | omega) (by first | assumption | omega) (by first | assumption | omega) (hgg) (hoi)) (cwV 2 hts gX5_crossed_X5_namesOf rfl rfl rfl (by decide +kernel) ⟨Nat.le_of_ble_eq_true rfl, Nat.le_of_ble_eq_true rfl⟩) hK hP hD hS rfl rfl rfl rfl rfl hl.1 rfl (Nat.le_of_ble_eq_true rfl) ⟨Nat.zero_le _, Nat.zero_le _⟩ dX5_crossed_87 (fun H locs hP hD hS => ?_)
              refine W.eq (g2 := F0 mm 90 ls (.int (nmI nh nn P G N td (nI g) (ow N i)) :: [])) rfl ?_
              refine mu_iret hx hb hr hlocks hS dX5_crossed_90 ?_ ?_
              · rw [crI, if_pos (by simp [crB, e, nI_clamp (show i < 2 ^ 31 by omega), m1_nI (show i < 2 ^ 31 by omega), t5, t0, tN4, c_24, c_33, hst, c_58, c_73, hsp]), e, nI_clamp (show i < 2 ^ 31 by omega)]
              have q0 : (nI (crNn np nh nn nb P G N B td (nI h) (nI g) nm)) = (nI (nmNn nh nn P G N td (nI g) (ow N i))) := by rw [crNn, if_pos (by simp [crB, e, nI_clamp (show i < 2 ^ 31 by omega), m1_nI (show i < 2 ^ 31 by omega), t5, t0, tN4, c_24, c_33, hst, c_58, c_73, hsp]), e, nI_clamp (show i < 2 ^ 31 by omega)]
              have q1 : ((crMc np nh nn nb P G N B td mc h g nm)) = ((nmMc nh nn P G N td mc g (ow N i))) := by rw [crMc, if_pos (by simp [crB, e, nI_clamp (show i < 2 ^ 31 by omega), m1_nI (show i < 2 ^ 31 by omega), t5, t0, tN4, c_24, c_33, hst, c_58, c_73, hsp]), e, nI_clamp (show i < 2 ^ 31 by omega)]
              have q2 : ((crT np nh nn nb P G N B td (nI h) (nI g) nm) 0) = ((nmT nh nn P G N td (nI g) (ow N i)) 0) := by rw [crT, if_pos (by simp [crB, e, nI_clamp (show i < 2 ^ 31 by omega), m1_nI (show i < 2 ^ 31 by omega), t5, t0, tN4, c_24, c_33, hst, c_58, c_73, hsp]), e, nI_clamp (show i < 2 ^ 31 by omega)]
              have q3 : ((crT np nh nn nb P G N B td (nI h) (nI g) nm) 1) = ((nmT nh nn P G N td (nI g) (ow N i)) 1) := by rw [crT, if_pos (by simp [crB, e, nI_clamp (show i < 2 ^ 31 by omega), m1_nI (show i < 2 ^ 31 by omega), t5, t0, tN4, c_24, c_33, hst, c_58, c_73, hsp]), e, nI_clamp (show i < 2 ^ 31 by omega)]
              have q4 : ((crT np nh nn nb P G N B td (nI h) (nI g) nm) 2) = ((nmT nh nn P G N td (nI g) (ow N i)) 2) := by rw [crT, if_pos (by simp [crB, e, nI_clamp (show i < 2 ^ 31 by omega), m1_nI (show i < 2 ^ 31 by omega), t5, t0, tN4, c_24, c_33, hst, c_58, c_73, hsp]), e, nI_clamp (show i < 2 ^ 31 by omega)]
              have q5 : ((crT np nh nn nb P G N B td (nI h) (nI g) nm) 3) = ((nmT nh nn P G N td (nI g) (ow N i)) 3) := by rw [crT, if_pos (by simp [crB, e, nI_clamp (show i < 2 ^ 31 by omega), m1_nI (show i < 2 ^ 31 by omega), t5, t0, tN4, c_24, c_33, hst, c_58, c_73, hsp]), e, nI_clamp (show i < 2 ^ 31 by omega)]
              have q6 : ((crT np nh nn nb P G N B td (nI h) (nI g) nm) 4) = ((nmT nh nn P G N td (nI g) (ow N i)) 4) := by rw [crT, if_pos (by simp [crB, e, nI_clamp (show i < 2 ^ 31 by omega), m1_nI (show i < 2 ^ 31 by omega), t5, t0, tN4, c_24, c_33, hst, c_58, c_73, hsp]), e, nI_clamp (show i < 2 ^ 31 by omega)]
              rw [q0, q1, q2, q3, q4, q5, q6]
              exact hP
            · skip
              refine lv_iconst (v := (-1)) hx hb dX5_crossed_76 (by decide) ?_
              refine mu_iret hx hb hr hlocks hS dX5_crossed_77 ?_ ?_
              · rw [crI, if_neg (by simp [crB, e, nI_clamp (show i < 2 ^ 31 by omega), m1_nI (show i < 2 ^ 31 by omega), t5, t0, tN4, c_24, c_33, hst, c_58, c_73, hsp])]
              have q0 : (nI (crNn np nh nn nb P G N B td (nI h) (nI g) nm)) = (nI nn) := by rw [crNn, if_neg (by simp [crB, e, nI_clamp (show i < 2 ^ 31 by omega), m1_nI (show i < 2 ^ 31 by omega), t5, t0, tN4, c_24, c_33, hst, c_58, c_73, hsp])]
              have q1 : ((crMc np nh nn nb P G N B td mc h g nm)) = (mc) := by rw [crMc, if_neg (by simp [crB, e, nI_clamp (show i < 2 ^ 31 by omega), m1_nI (show i < 2 ^ 31 by omega), t5, t0, tN4, c_24, c_33, hst, c_58, c_73, hsp])]
              have q2 : ((crT np nh nn nb P G N B td (nI h) (nI g) nm) 0) = (N 0) := by rw [crT, if_neg (by simp [crB, e, nI_clamp (show i < 2 ^ 31 by omega), m1_nI (show i < 2 ^ 31 by omega), t5, t0, tN4, c_24, c_33, hst, c_58, c_73, hsp])]
              have q3 : ((crT np nh nn nb P G N B td (nI h) (nI g) nm) 1) = (N 1) := by rw [crT, if_neg (by simp [crB, e, nI_clamp (show i < 2 ^ 31 by omega), m1_nI (show i < 2 ^ 31 by omega), t5, t0, tN4, c_24, c_33, hst, c_58, c_73, hsp])]
              have q4 : ((crT np nh nn nb P G N B td (nI h) (nI g) nm) 2) = (N 2) := by rw [crT, if_neg (by simp [crB, e, nI_clamp (show i < 2 ^ 31 by omega), m1_nI (show i < 2 ^ 31 by omega), t5, t0, tN4, c_24, c_33, hst, c_58, c_73, hsp])]
              have q5 : ((crT np nh nn nb P G N B td (nI h) (nI g) nm) 3) = (N 3) := by rw [crT, if_neg (by simp [crB, e, nI_clamp (show i < 2 ^ 31 by omega), m1_nI (show i < 2 ^ 31 by omega), t5, t0, tN4, c_24, c_33, hst, c_58, c_73, hsp])]
              have q6 : ((crT np nh nn nb P G N B td (nI h) (nI g) nm) 4) = (N 4) := by rw [crT, if_neg (by simp [crB, e, nI_clamp (show i < 2 ^ 31 by omega), m1_nI (show i < 2 ^ 31 by omega), t5, t0, tN4, c_24, c_33, hst, c_58, c_73, hsp])]
              rw [q0, q1, q2, q3, q4, q5, q6]
              exact hP
