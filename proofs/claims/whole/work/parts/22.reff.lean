set_option maxHeartbeats 4000000 in
set_option maxRecDepth 100000 in
theorem kX5_house (l : Launch) (D : va_G) (cI cZ : ClassId) (o5 k6 k7 k8 k9 k10 k11 k12 k13 k14 k15 k16 k17 k18 k19 k20 k21 k22 k23 k24 k25 np nh nn nb ne : Nat) (td : Int32) (P G N B E : Nat → Nat → Int32) (mc : Nat → Int32) (kd : Int32) (sn : Int32) (sd : Int32) (rs : Int32) (lt : Int32) (hnh : nh ≤ 5) (hg0 : ∀ h, nh ≤ h → G 5 h = 0) : Met l yX5_house wsX5_house ({ frames := 1, cells := 0, slots := 0, locals := 22 } : Room) (MuP D [(cI, .int), (cZ, .boolean)] [.ref o5, .int kd, .int sn, .int sd, .int rs, .int lt] [(o5, .inr (5, [.int (nI np), .int (nI nh), .int td, .int (nI nn), .int (nI nb), .int (nI ne), .ref k6, .ref k7, .ref k8, .ref k9, .ref k10, .ref k11, .ref k12, .ref k13, .ref k14, .ref k15, .ref k16, .ref k17, .ref k18, .ref k19, .ref k20, .ref k21, .ref k22, .ref k23, .ref k24, .ref k25])), (k6, .inl (cI, 96, .inl (fl 4 P))), (k7, .inl (cI, 24, .inl (P 4))), (k8, .inl (cZ, 24, .inl (P 5))), (k9, .inl (cI, 5, .inl (G 0))), (k10, .inl (cI, 5, .inl (G 1))), (k11, .inl (cI, 5, .inl (G 2))), (k12, .inl (cI, 5, .inl (G 3))), (k13, .inl (cI, 5, .inl (G 4))), (k14, .inl (cI, 5, .inl (mc))), (k15, .inl (cZ, 5, .inl (G 5))), (k16, .inl (cI, 200, .inl (N 0))), (k17, .inl (cI, 200, .inl (N 1))), (k18, .inl (cI, 200, .inl (N 2))), (k19, .inl (cI, 200, .inl (N 3))), (k20, .inl (cI, 200, .inl (N 4))), (k21, .inl (cI, 20, .inl (B 0))), (k22, .inl (cI, 20, .inl (B 1))), (k23, .inl (cI, 20, .inl (B 2))), (k24, .inl (cI, 20, .inl (B 3))), (k25, .inl (cI, 1200, .inl (fl 6 E)))]) (QM D (some (.int (if okH kd sn sd rs lt = true then arow 5 nh else -1))) [(o5, .inr (5, [.int (nI np), .int (nI nh), .int td, .int (nI nn), .int (nI nb), .int (nI ne), .ref k6, .ref k7, .ref k8, .ref k9, .ref k10, .ref k11, .ref k12, .ref k13, .ref k14, .ref k15, .ref k16, .ref k17, .ref k18, .ref k19, .ref k20, .ref k21, .ref k22, .ref k23, .ref k24, .ref k25])), (k6, .inl (cI, 96, .inl (fl 4 P))), (k7, .inl (cI, 24, .inl (P 4))), (k8, .inl (cZ, 24, .inl (P 5))), (k9, .inl (cI, 5, .inl (G 0))), (k10, .inl (cI, 5, .inl (G 1))), (k11, .inl (cI, 5, .inl (G 2))), (k12, .inl (cI, 5, .inl (G 3))), (k13, .inl (cI, 5, .inl (G 4))), (k14, .inl (cI, 5, .inl (mc))), (k15, .inl (cZ, 5, .inl (G 5))), (k16, .inl (cI, 200, .inl (N 0))), (k17, .inl (cI, 200, .inl (N 1))), (k18, .inl (cI, 200, .inl (N 2))), (k19, .inl (cI, 200, .inl (N 3))), (k20, .inl (cI, 200, .inl (N 4))), (k21, .inl (cI, 20, .inl (B 0))), (k22, .inl (cI, 20, .inl (B 1))), (k23, .inl (cI, 20, .inl (B 2))), (k24, .inl (cI, 20, .inl (B 3))), (k25, .inl (cI, 1200, .inl (fl 6 E)))] [(o5, .inr (5, [.int (nI np), .int (nI (if okH kd sn sd rs lt = true then adn 5 nh else nh)), .int td, .int (nI nn), .int (nI nb), .int (nI ne), .ref k6, .ref k7, .ref k8, .ref k9, .ref k10, .ref k11, .ref k12, .ref k13, .ref k14, .ref k15, .ref k16, .ref k17, .ref k18, .ref k19, .ref k20, .ref k21, .ref k22, .ref k23, .ref k24, .ref k25])), (k6, .inl (cI, 96, .inl (fl 4 P))), (k7, .inl (cI, 24, .inl (P 4))), (k8, .inl (cZ, 24, .inl (P 5))), (k9, .inl (cI, 5, .inl ((if okH kd sn sd rs lt = true then haddT nh G kd sn sd rs lt else G) 0))), (k10, .inl (cI, 5, .inl ((if okH kd sn sd rs lt = true then haddT nh G kd sn sd rs lt else G) 1))), (k11, .inl (cI, 5, .inl ((if okH kd sn sd rs lt = true then haddT nh G kd sn sd rs lt else G) 2))), (k12, .inl (cI, 5, .inl ((if okH kd sn sd rs lt = true then haddT nh G kd sn sd rs lt else G) 3))), (k13, .inl (cI, 5, .inl ((if okH kd sn sd rs lt = true then haddT nh G kd sn sd rs lt else G) 4))), (k14, .inl (cI, 5, .inl (mc))), (k15, .inl (cZ, 5, .inl ((if okH kd sn sd rs lt = true then haddT nh G kd sn sd rs lt else G) 5))), (k16, .inl (cI, 200, .inl (N 0))), (k17, .inl (cI, 200, .inl (N 1))), (k18, .inl (cI, 200, .inl (N 2))), (k19, .inl (cI, 200, .inl (N 3))), (k20, .inl (cI, 200, .inl (N 4))), (k21, .inl (cI, 20, .inl (B 0))), (k22, .inl (cI, 20, .inl (B 1))), (k23, .inl (cI, 20, .inl (B 2))), (k24, .inl (cI, 20, .inl (B 3))), (k25, .inl (cI, 1200, .inl (fl 6 E)))]) 0 0 (adr [(o5, .inr (5, [.int (nI np), .int (nI nh), .int td, .int (nI nn), .int (nI nb), .int (nI ne), .ref k6, .ref k7, .ref k8, .ref k9, .ref k10, .ref k11, .ref k12, .ref k13, .ref k14, .ref k15, .ref k16, .ref k17, .ref k18, .ref k19, .ref k20, .ref k21, .ref k22, .ref k23, .ref k24, .ref k25])), (k6, .inl (cI, 96, .inl (fl 4 P))), (k7, .inl (cI, 24, .inl (P 4))), (k8, .inl (cZ, 24, .inl (P 5))), (k9, .inl (cI, 5, .inl (G 0))), (k10, .inl (cI, 5, .inl (G 1))), (k11, .inl (cI, 5, .inl (G 2))), (k12, .inl (cI, 5, .inl (G 3))), (k13, .inl (cI, 5, .inl (G 4))), (k14, .inl (cI, 5, .inl (mc))), (k15, .inl (cZ, 5, .inl (G 5))), (k16, .inl (cI, 200, .inl (N 0))), (k17, .inl (cI, 200, .inl (N 1))), (k18, .inl (cI, 200, .inl (N 2))), (k19, .inl (cI, 200, .inl (N 3))), (k20, .inl (cI, 200, .inl (N 4))), (k21, .inl (cI, 20, .inl (B 0))), (k22, .inl (cI, 20, .inl (B 1))), (k23, .inl (cI, 20, .inl (B 2))), (k24, .inl (cI, 20, .inl (B 3))), (k25, .inl (cI, 1200, .inl (fl 6 E)))]) := by
  refine mu_of (cc := cX5_house) (maxL := 6) (ret := (some .int)) (by decide) rfl (Nat.le_of_ble_eq_true rfl) ?_
  intro pp ee ss mm bw me cd ls hx hb hr hts hown hlocks hml hK hl H locs hP hD hS
  have hl : lv_has ls 6 [(0, .ref o5), (1, .int kd), (2, .int sn), (3, .int sd), (4, .int rs), (5, .int lt)] := hl
  have hf97 := hts (.fieldLink RX5 97 "OtherNamesModel" "houses" "I") (by decide +kernel)
  have hin5 := (show ∀ w ∈ wsX50, w ∈ wsX5_house by decide +kernel)
  have hf20 := hts (.fieldLink RX5 20 "OtherNamesModel" "kind" "[I") (by decide +kernel)
  have hf23 := hts (.fieldLink RX5 23 "OtherNamesModel" "span" "[I") (by decide +kernel)
  have hf26 := hts (.fieldLink RX5 26 "OtherNamesModel" "seed" "[I") (by decide +kernel)
  have hf29 := hts (.fieldLink RX5 29 "OtherNamesModel" "reasons" "[I") (by decide +kernel)
  have hf32 := hts (.fieldLink RX5 32 "OtherNamesModel" "leastOf" "[I") (by decide +kernel)
  refine lv_iload_n hx hb dX5_house_0 rfl (lv_at hl 1 rfl) ?_
  refine lv_iconst (v := 0) hx hb dX5_house_1 (by decide) ?_
  refine lv_iconst (v := 2) hx hb dX5_house_2 (by decide) ?_
  refine rcS (As := [.int kd, .int 0, .int 2]) (rest := []) ⟨hx, hb, hml, hown, hts⟩ (kX5_in l D cI cZ kd 0 2) (va_cwS 3 hts gX5_house_X5_in rfl rfl rfl (by decide +kernel) ⟨Nat.le_of_ble_eq_true rfl, Nat.le_of_ble_eq_true rfl⟩) hK hP [] rfl rfl hl.1 rfl (Nat.le_of_ble_eq_true rfl) ⟨Nat.zero_le _, Nat.zero_le _⟩ dX5_house_3 ?_
  refine lb_eq (tgt := 62) hx hb dX5_house_6 (by decide) (fun c_6 => ?_) (fun c_6 => ?_)
  · skip
    refine lv_iconst (v := (-1)) hx hb dX5_house_62 (by decide) ?_
    refine mu_iret hx hb hr hlocks hS dX5_house_63 ?_ ?_
    · rw [if_neg (by simp [okH, c_6])]
    have q0 : (nI (if okH kd sn sd rs lt = true then adn 5 nh else nh)) = (nI nh) := by rw [if_neg (by simp [okH, c_6])]
    have q1 : ((if okH kd sn sd rs lt = true then haddT nh G kd sn sd rs lt else G) 0) = (G 0) := by rw [if_neg (by simp [okH, c_6])]
    have q2 : ((if okH kd sn sd rs lt = true then haddT nh G kd sn sd rs lt else G) 1) = (G 1) := by rw [if_neg (by simp [okH, c_6])]
    have q3 : ((if okH kd sn sd rs lt = true then haddT nh G kd sn sd rs lt else G) 2) = (G 2) := by rw [if_neg (by simp [okH, c_6])]
    have q4 : ((if okH kd sn sd rs lt = true then haddT nh G kd sn sd rs lt else G) 3) = (G 3) := by rw [if_neg (by simp [okH, c_6])]
    have q5 : ((if okH kd sn sd rs lt = true then haddT nh G kd sn sd rs lt else G) 4) = (G 4) := by rw [if_neg (by simp [okH, c_6])]
    have q6 : ((if okH kd sn sd rs lt = true then haddT nh G kd sn sd rs lt else G) 5) = (G 5) := by rw [if_neg (by simp [okH, c_6])]
    rw [q0, q1, q2, q3, q4, q5, q6]
    exact hP
  · skip
    refine lv_iload_n hx hb dX5_house_9 rfl (lv_at hl 2 rfl) ?_
    refine lv_iconst (v := 1) hx hb dX5_house_10 (by decide) ?_
    refine lv_sipush (v := 365) hx hb dX5_house_11 (by decide) ?_
    refine rcS (As := [.int sn, .int 1, .int 365]) (rest := []) ⟨hx, hb, hml, hown, hts⟩ (kX5_in l D cI cZ sn 1 365) (va_cwS 3 hts gX5_house_X5_in rfl rfl rfl (by decide +kernel) ⟨Nat.le_of_ble_eq_true rfl, Nat.le_of_ble_eq_true rfl⟩) hK hP [] rfl rfl hl.1 rfl (Nat.le_of_ble_eq_true rfl) ⟨Nat.zero_le _, Nat.zero_le _⟩ dX5_house_14 ?_
    refine lb_eq (tgt := 62) hx hb dX5_house_17 (by decide) (fun c_17 => ?_) (fun c_17 => ?_)
    · skip
      refine lv_iconst (v := (-1)) hx hb dX5_house_62 (by decide) ?_
      refine mu_iret hx hb hr hlocks hS dX5_house_63 ?_ ?_
      · rw [if_neg (by simp [okH, c_6, c_17])]
      have q0 : (nI (if okH kd sn sd rs lt = true then adn 5 nh else nh)) = (nI nh) := by rw [if_neg (by simp [okH, c_6, c_17])]
      have q1 : ((if okH kd sn sd rs lt = true then haddT nh G kd sn sd rs lt else G) 0) = (G 0) := by rw [if_neg (by simp [okH, c_6, c_17])]
      have q2 : ((if okH kd sn sd rs lt = true then haddT nh G kd sn sd rs lt else G) 1) = (G 1) := by rw [if_neg (by simp [okH, c_6, c_17])]
      have q3 : ((if okH kd sn sd rs lt = true then haddT nh G kd sn sd rs lt else G) 2) = (G 2) := by rw [if_neg (by simp [okH, c_6, c_17])]
      have q4 : ((if okH kd sn sd rs lt = true then haddT nh G kd sn sd rs lt else G) 3) = (G 3) := by rw [if_neg (by simp [okH, c_6, c_17])]
      have q5 : ((if okH kd sn sd rs lt = true then haddT nh G kd sn sd rs lt else G) 4) = (G 4) := by rw [if_neg (by simp [okH, c_6, c_17])]
      have q6 : ((if okH kd sn sd rs lt = true then haddT nh G kd sn sd rs lt else G) 5) = (G 5) := by rw [if_neg (by simp [okH, c_6, c_17])]
      rw [q0, q1, q2, q3, q4, q5, q6]
      exact hP
    · skip
      refine lv_iload_n hx hb dX5_house_20 rfl (lv_at hl 3 rfl) ?_
      refine lv_iconst (v := 1) hx hb dX5_house_21 (by decide) ?_
      refine lv_sipush (v := 9972) hx hb dX5_house_22 (by decide) ?_
      refine rcS (As := [.int sd, .int 1, .int 9972]) (rest := []) ⟨hx, hb, hml, hown, hts⟩ (kX5_in l D cI cZ sd 1 9972) (va_cwS 3 hts gX5_house_X5_in rfl rfl rfl (by decide +kernel) ⟨Nat.le_of_ble_eq_true rfl, Nat.le_of_ble_eq_true rfl⟩) hK hP [] rfl rfl hl.1 rfl (Nat.le_of_ble_eq_true rfl) ⟨Nat.zero_le _, Nat.zero_le _⟩ dX5_house_25 ?_
      refine lb_eq (tgt := 62) hx hb dX5_house_28 (by decide) (fun c_28 => ?_) (fun c_28 => ?_)
      · skip
        refine lv_iconst (v := (-1)) hx hb dX5_house_62 (by decide) ?_
        refine mu_iret hx hb hr hlocks hS dX5_house_63 ?_ ?_
        · rw [if_neg (by simp [okH, c_6, c_17, c_28])]
        have q0 : (nI (if okH kd sn sd rs lt = true then adn 5 nh else nh)) = (nI nh) := by rw [if_neg (by simp [okH, c_6, c_17, c_28])]
        have q1 : ((if okH kd sn sd rs lt = true then haddT nh G kd sn sd rs lt else G) 0) = (G 0) := by rw [if_neg (by simp [okH, c_6, c_17, c_28])]
        have q2 : ((if okH kd sn sd rs lt = true then haddT nh G kd sn sd rs lt else G) 1) = (G 1) := by rw [if_neg (by simp [okH, c_6, c_17, c_28])]
        have q3 : ((if okH kd sn sd rs lt = true then haddT nh G kd sn sd rs lt else G) 2) = (G 2) := by rw [if_neg (by simp [okH, c_6, c_17, c_28])]
        have q4 : ((if okH kd sn sd rs lt = true then haddT nh G kd sn sd rs lt else G) 3) = (G 3) := by rw [if_neg (by simp [okH, c_6, c_17, c_28])]
        have q5 : ((if okH kd sn sd rs lt = true then haddT nh G kd sn sd rs lt else G) 4) = (G 4) := by rw [if_neg (by simp [okH, c_6, c_17, c_28])]
        have q6 : ((if okH kd sn sd rs lt = true then haddT nh G kd sn sd rs lt else G) 5) = (G 5) := by rw [if_neg (by simp [okH, c_6, c_17, c_28])]
        rw [q0, q1, q2, q3, q4, q5, q6]
        exact hP
      · skip
        refine lv_iload hx hb dX5_house_31 (lv_at hl 4 rfl) ?_
        refine lv_iconst (v := 0) hx hb dX5_house_33 (by decide) ?_
        refine lv_sipush (v := 255) hx hb dX5_house_34 (by decide) ?_
        refine rcS (As := [.int rs, .int 0, .int 255]) (rest := []) ⟨hx, hb, hml, hown, hts⟩ (kX5_in l D cI cZ rs 0 255) (va_cwS 3 hts gX5_house_X5_in rfl rfl rfl (by decide +kernel) ⟨Nat.le_of_ble_eq_true rfl, Nat.le_of_ble_eq_true rfl⟩) hK hP [] rfl rfl hl.1 rfl (Nat.le_of_ble_eq_true rfl) ⟨Nat.zero_le _, Nat.zero_le _⟩ dX5_house_37 ?_
        refine lb_eq (tgt := 62) hx hb dX5_house_40 (by decide) (fun c_40 => ?_) (fun c_40 => ?_)
        · skip
          refine lv_iconst (v := (-1)) hx hb dX5_house_62 (by decide) ?_
          refine mu_iret hx hb hr hlocks hS dX5_house_63 ?_ ?_
          · rw [if_neg (by simp [okH, c_6, c_17, c_28, c_40])]
          have q0 : (nI (if okH kd sn sd rs lt = true then adn 5 nh else nh)) = (nI nh) := by rw [if_neg (by simp [okH, c_6, c_17, c_28, c_40])]
          have q1 : ((if okH kd sn sd rs lt = true then haddT nh G kd sn sd rs lt else G) 0) = (G 0) := by rw [if_neg (by simp [okH, c_6, c_17, c_28, c_40])]
          have q2 : ((if okH kd sn sd rs lt = true then haddT nh G kd sn sd rs lt else G) 1) = (G 1) := by rw [if_neg (by simp [okH, c_6, c_17, c_28, c_40])]
          have q3 : ((if okH kd sn sd rs lt = true then haddT nh G kd sn sd rs lt else G) 2) = (G 2) := by rw [if_neg (by simp [okH, c_6, c_17, c_28, c_40])]
          have q4 : ((if okH kd sn sd rs lt = true then haddT nh G kd sn sd rs lt else G) 3) = (G 3) := by rw [if_neg (by simp [okH, c_6, c_17, c_28, c_40])]
          have q5 : ((if okH kd sn sd rs lt = true then haddT nh G kd sn sd rs lt else G) 4) = (G 4) := by rw [if_neg (by simp [okH, c_6, c_17, c_28, c_40])]
          have q6 : ((if okH kd sn sd rs lt = true then haddT nh G kd sn sd rs lt else G) 5) = (G 5) := by rw [if_neg (by simp [okH, c_6, c_17, c_28, c_40])]
          rw [q0, q1, q2, q3, q4, q5, q6]
          exact hP
        · skip
          refine lv_iload hx hb dX5_house_43 (lv_at hl 5 rfl) ?_
          refine lv_iconst (v := 0) hx hb dX5_house_45 (by decide) ?_
          refine lv_bipush (v := 24) hx hb dX5_house_46 (by decide) ?_
          refine rcS (As := [.int lt, .int 0, .int 24]) (rest := []) ⟨hx, hb, hml, hown, hts⟩ (kX5_in l D cI cZ lt 0 24) (va_cwS 3 hts gX5_house_X5_in rfl rfl rfl (by decide +kernel) ⟨Nat.le_of_ble_eq_true rfl, Nat.le_of_ble_eq_true rfl⟩) hK hP [] rfl rfl hl.1 rfl (Nat.le_of_ble_eq_true rfl) ⟨Nat.zero_le _, Nat.zero_le _⟩ dX5_house_48 ?_
          refine lb_eq (tgt := 62) hx hb dX5_house_51 (by decide) (fun c_51 => ?_) (fun c_51 => ?_)
          · skip
            refine lv_iconst (v := (-1)) hx hb dX5_house_62 (by decide) ?_
            refine mu_iret hx hb hr hlocks hS dX5_house_63 ?_ ?_
            · rw [if_neg (by simp [okH, c_6, c_17, c_28, c_40, c_51])]
            have q0 : (nI (if okH kd sn sd rs lt = true then adn 5 nh else nh)) = (nI nh) := by rw [if_neg (by simp [okH, c_6, c_17, c_28, c_40, c_51])]
            have q1 : ((if okH kd sn sd rs lt = true then haddT nh G kd sn sd rs lt else G) 0) = (G 0) := by rw [if_neg (by simp [okH, c_6, c_17, c_28, c_40, c_51])]
            have q2 : ((if okH kd sn sd rs lt = true then haddT nh G kd sn sd rs lt else G) 1) = (G 1) := by rw [if_neg (by simp [okH, c_6, c_17, c_28, c_40, c_51])]
            have q3 : ((if okH kd sn sd rs lt = true then haddT nh G kd sn sd rs lt else G) 2) = (G 2) := by rw [if_neg (by simp [okH, c_6, c_17, c_28, c_40, c_51])]
            have q4 : ((if okH kd sn sd rs lt = true then haddT nh G kd sn sd rs lt else G) 3) = (G 3) := by rw [if_neg (by simp [okH, c_6, c_17, c_28, c_40, c_51])]
            have q5 : ((if okH kd sn sd rs lt = true then haddT nh G kd sn sd rs lt else G) 4) = (G 4) := by rw [if_neg (by simp [okH, c_6, c_17, c_28, c_40, c_51])]
            have q6 : ((if okH kd sn sd rs lt = true then haddT nh G kd sn sd rs lt else G) 5) = (G 5) := by rw [if_neg (by simp [okH, c_6, c_17, c_28, c_40, c_51])]
            rw [q0, q1, q2, q3, q4, q5, q6]
            exact hP
          · skip
            refine lv_aload_n hx hb dX5_house_54 rfl (lv_at hl 0 rfl) ?_
            refine va_get (D := D) (ci := 5) (v := .int (nI nh)) (C := RX5) (T := TX5) (N := 26) hx hb hts hin5 hown hK hP 0 rfl rfl 1 (by decide) hf97 (fun _ h9 => h9) rfl dX5_house_55 ?_
            refine lv_iconst (v := 5) hx hb dX5_house_58 (by decide) ?_
            refine lv_icmp_ne (tgt := 64) hx hb dX5_house_59 (by decide) (fun c_59 => ?_) (fun c_59 => ?_)
            · skip
              have hlt : nh < 5 := Nat.lt_of_le_of_ne hnh (nI_neq (N := 5) c_59 rfl)
              refine lv_aload_n hx hb dX5_house_64 rfl (lv_at hl 0 rfl) ?_
              refine va_get (D := D) (ci := 5) (v := .ref k9) (C := RX5) (T := TX5) (N := 26) hx hb hts hin5 hown hK hP 0 rfl rfl 9 (by decide) hf20 (fun _ h9 => h9) rfl dX5_house_65 ?_
              refine lv_aload_n hx hb dX5_house_68 rfl (lv_at hl 0 rfl) ?_
              refine va_get (D := D) (ci := 5) (v := .int (nI nh)) (C := RX5) (T := TX5) (N := 26) hx hb hts hin5 hown hK hP 0 rfl rfl 1 (by decide) hf97 (fun _ h9 => h9) rfl dX5_house_69 ?_
              refine lv_iload_n hx hb dX5_house_72 rfl (lv_at hl 1 rfl) ?_
              refine va_iastN (D := D) (cl := vwCl) (cA := cI) (f := G 0) (x := kd) hx hb hK hP hD hS 4 0 rfl rfl nh (rfl) (by omega) (by first | decide | assumption) dX5_house_73 (fun H locs hP hD hS => ?_)
              have hP : va_P D vwCl [(o5, .inr (5, [.int (nI np), .int (nI nh), .int td, .int (nI nn), .int (nI nb), .int (nI ne), .ref k6, .ref k7, .ref k8, .ref k9, .ref k10, .ref k11, .ref k12, .ref k13, .ref k14, .ref k15, .ref k16, .ref k17, .ref k18, .ref k19, .ref k20, .ref k21, .ref k22, .ref k23, .ref k24, .ref k25])), (k6, .inl (cI, 96, .inl (fl 4 P))), (k7, .inl (cI, 24, .inl (P 4))), (k8, .inl (cZ, 24, .inl (P 5))), (k9, .inl (cI, 5, .inl (upd (G 0) nh kd))), (k10, .inl (cI, 5, .inl (G 1))), (k11, .inl (cI, 5, .inl (G 2))), (k12, .inl (cI, 5, .inl (G 3))), (k13, .inl (cI, 5, .inl (G 4))), (k14, .inl (cI, 5, .inl (mc))), (k15, .inl (cZ, 5, .inl (G 5))), (k16, .inl (cI, 200, .inl (N 0))), (k17, .inl (cI, 200, .inl (N 1))), (k18, .inl (cI, 200, .inl (N 2))), (k19, .inl (cI, 200, .inl (N 3))), (k20, .inl (cI, 200, .inl (N 4))), (k21, .inl (cI, 20, .inl (B 0))), (k22, .inl (cI, 20, .inl (B 1))), (k23, .inl (cI, 20, .inl (B 2))), (k24, .inl (cI, 20, .inl (B 3))), (k25, .inl (cI, 1200, .inl (fl 6 E)))] H := hP
              have hD : va_D (adr _) [(o5, .inr (5, [.int (nI np), .int (nI nh), .int td, .int (nI nn), .int (nI nb), .int (nI ne), .ref k6, .ref k7, .ref k8, .ref k9, .ref k10, .ref k11, .ref k12, .ref k13, .ref k14, .ref k15, .ref k16, .ref k17, .ref k18, .ref k19, .ref k20, .ref k21, .ref k22, .ref k23, .ref k24, .ref k25])), (k6, .inl (cI, 96, .inl (fl 4 P))), (k7, .inl (cI, 24, .inl (P 4))), (k8, .inl (cZ, 24, .inl (P 5))), (k9, .inl (cI, 5, .inl (upd (G 0) nh kd))), (k10, .inl (cI, 5, .inl (G 1))), (k11, .inl (cI, 5, .inl (G 2))), (k12, .inl (cI, 5, .inl (G 3))), (k13, .inl (cI, 5, .inl (G 4))), (k14, .inl (cI, 5, .inl (mc))), (k15, .inl (cZ, 5, .inl (G 5))), (k16, .inl (cI, 200, .inl (N 0))), (k17, .inl (cI, 200, .inl (N 1))), (k18, .inl (cI, 200, .inl (N 2))), (k19, .inl (cI, 200, .inl (N 3))), (k20, .inl (cI, 200, .inl (N 4))), (k21, .inl (cI, 20, .inl (B 0))), (k22, .inl (cI, 20, .inl (B 1))), (k23, .inl (cI, 20, .inl (B 2))), (k24, .inl (cI, 20, .inl (B 3))), (k25, .inl (cI, 1200, .inl (fl 6 E)))] := hD
              refine lv_aload_n hx hb dX5_house_74 rfl (lv_at hl 0 rfl) ?_
              refine va_get (D := D) (ci := 5) (v := .ref k10) (C := RX5) (T := TX5) (N := 26) hx hb hts hin5 hown hK hP 0 rfl rfl 10 (by decide) hf23 (fun _ h9 => h9) rfl dX5_house_75 ?_
              refine lv_aload_n hx hb dX5_house_78 rfl (lv_at hl 0 rfl) ?_
              refine va_get (D := D) (ci := 5) (v := .int (nI nh)) (C := RX5) (T := TX5) (N := 26) hx hb hts hin5 hown hK hP 0 rfl rfl 1 (by decide) hf97 (fun _ h9 => h9) rfl dX5_house_79 ?_
              refine lv_iload_n hx hb dX5_house_82 rfl (lv_at hl 2 rfl) ?_
              refine va_iastN (D := D) (cl := vwCl) (cA := cI) (f := G 1) (x := sn) hx hb hK hP hD hS 5 0 rfl rfl nh (rfl) (by omega) (by first | decide | assumption) dX5_house_83 (fun H locs hP hD hS => ?_)
              have hP : va_P D vwCl [(o5, .inr (5, [.int (nI np), .int (nI nh), .int td, .int (nI nn), .int (nI nb), .int (nI ne), .ref k6, .ref k7, .ref k8, .ref k9, .ref k10, .ref k11, .ref k12, .ref k13, .ref k14, .ref k15, .ref k16, .ref k17, .ref k18, .ref k19, .ref k20, .ref k21, .ref k22, .ref k23, .ref k24, .ref k25])), (k6, .inl (cI, 96, .inl (fl 4 P))), (k7, .inl (cI, 24, .inl (P 4))), (k8, .inl (cZ, 24, .inl (P 5))), (k9, .inl (cI, 5, .inl (upd (G 0) nh kd))), (k10, .inl (cI, 5, .inl (upd (G 1) nh sn))), (k11, .inl (cI, 5, .inl (G 2))), (k12, .inl (cI, 5, .inl (G 3))), (k13, .inl (cI, 5, .inl (G 4))), (k14, .inl (cI, 5, .inl (mc))), (k15, .inl (cZ, 5, .inl (G 5))), (k16, .inl (cI, 200, .inl (N 0))), (k17, .inl (cI, 200, .inl (N 1))), (k18, .inl (cI, 200, .inl (N 2))), (k19, .inl (cI, 200, .inl (N 3))), (k20, .inl (cI, 200, .inl (N 4))), (k21, .inl (cI, 20, .inl (B 0))), (k22, .inl (cI, 20, .inl (B 1))), (k23, .inl (cI, 20, .inl (B 2))), (k24, .inl (cI, 20, .inl (B 3))), (k25, .inl (cI, 1200, .inl (fl 6 E)))] H := hP
              have hD : va_D (adr _) [(o5, .inr (5, [.int (nI np), .int (nI nh), .int td, .int (nI nn), .int (nI nb), .int (nI ne), .ref k6, .ref k7, .ref k8, .ref k9, .ref k10, .ref k11, .ref k12, .ref k13, .ref k14, .ref k15, .ref k16, .ref k17, .ref k18, .ref k19, .ref k20, .ref k21, .ref k22, .ref k23, .ref k24, .ref k25])), (k6, .inl (cI, 96, .inl (fl 4 P))), (k7, .inl (cI, 24, .inl (P 4))), (k8, .inl (cZ, 24, .inl (P 5))), (k9, .inl (cI, 5, .inl (upd (G 0) nh kd))), (k10, .inl (cI, 5, .inl (upd (G 1) nh sn))), (k11, .inl (cI, 5, .inl (G 2))), (k12, .inl (cI, 5, .inl (G 3))), (k13, .inl (cI, 5, .inl (G 4))), (k14, .inl (cI, 5, .inl (mc))), (k15, .inl (cZ, 5, .inl (G 5))), (k16, .inl (cI, 200, .inl (N 0))), (k17, .inl (cI, 200, .inl (N 1))), (k18, .inl (cI, 200, .inl (N 2))), (k19, .inl (cI, 200, .inl (N 3))), (k20, .inl (cI, 200, .inl (N 4))), (k21, .inl (cI, 20, .inl (B 0))), (k22, .inl (cI, 20, .inl (B 1))), (k23, .inl (cI, 20, .inl (B 2))), (k24, .inl (cI, 20, .inl (B 3))), (k25, .inl (cI, 1200, .inl (fl 6 E)))] := hD
              refine lv_aload_n hx hb dX5_house_84 rfl (lv_at hl 0 rfl) ?_
              refine va_get (D := D) (ci := 5) (v := .ref k11) (C := RX5) (T := TX5) (N := 26) hx hb hts hin5 hown hK hP 0 rfl rfl 11 (by decide) hf26 (fun _ h9 => h9) rfl dX5_house_85 ?_
              refine lv_aload_n hx hb dX5_house_88 rfl (lv_at hl 0 rfl) ?_
              refine va_get (D := D) (ci := 5) (v := .int (nI nh)) (C := RX5) (T := TX5) (N := 26) hx hb hts hin5 hown hK hP 0 rfl rfl 1 (by decide) hf97 (fun _ h9 => h9) rfl dX5_house_89 ?_
              refine lv_iload_n hx hb dX5_house_92 rfl (lv_at hl 3 rfl) ?_
              refine va_iastN (D := D) (cl := vwCl) (cA := cI) (f := G 2) (x := sd) hx hb hK hP hD hS 6 0 rfl rfl nh (rfl) (by omega) (by first | decide | assumption) dX5_house_93 (fun H locs hP hD hS => ?_)
              have hP : va_P D vwCl [(o5, .inr (5, [.int (nI np), .int (nI nh), .int td, .int (nI nn), .int (nI nb), .int (nI ne), .ref k6, .ref k7, .ref k8, .ref k9, .ref k10, .ref k11, .ref k12, .ref k13, .ref k14, .ref k15, .ref k16, .ref k17, .ref k18, .ref k19, .ref k20, .ref k21, .ref k22, .ref k23, .ref k24, .ref k25])), (k6, .inl (cI, 96, .inl (fl 4 P))), (k7, .inl (cI, 24, .inl (P 4))), (k8, .inl (cZ, 24, .inl (P 5))), (k9, .inl (cI, 5, .inl (upd (G 0) nh kd))), (k10, .inl (cI, 5, .inl (upd (G 1) nh sn))), (k11, .inl (cI, 5, .inl (upd (G 2) nh sd))), (k12, .inl (cI, 5, .inl (G 3))), (k13, .inl (cI, 5, .inl (G 4))), (k14, .inl (cI, 5, .inl (mc))), (k15, .inl (cZ, 5, .inl (G 5))), (k16, .inl (cI, 200, .inl (N 0))), (k17, .inl (cI, 200, .inl (N 1))), (k18, .inl (cI, 200, .inl (N 2))), (k19, .inl (cI, 200, .inl (N 3))), (k20, .inl (cI, 200, .inl (N 4))), (k21, .inl (cI, 20, .inl (B 0))), (k22, .inl (cI, 20, .inl (B 1))), (k23, .inl (cI, 20, .inl (B 2))), (k24, .inl (cI, 20, .inl (B 3))), (k25, .inl (cI, 1200, .inl (fl 6 E)))] H := hP
              have hD : va_D (adr _) [(o5, .inr (5, [.int (nI np), .int (nI nh), .int td, .int (nI nn), .int (nI nb), .int (nI ne), .ref k6, .ref k7, .ref k8, .ref k9, .ref k10, .ref k11, .ref k12, .ref k13, .ref k14, .ref k15, .ref k16, .ref k17, .ref k18, .ref k19, .ref k20, .ref k21, .ref k22, .ref k23, .ref k24, .ref k25])), (k6, .inl (cI, 96, .inl (fl 4 P))), (k7, .inl (cI, 24, .inl (P 4))), (k8, .inl (cZ, 24, .inl (P 5))), (k9, .inl (cI, 5, .inl (upd (G 0) nh kd))), (k10, .inl (cI, 5, .inl (upd (G 1) nh sn))), (k11, .inl (cI, 5, .inl (upd (G 2) nh sd))), (k12, .inl (cI, 5, .inl (G 3))), (k13, .inl (cI, 5, .inl (G 4))), (k14, .inl (cI, 5, .inl (mc))), (k15, .inl (cZ, 5, .inl (G 5))), (k16, .inl (cI, 200, .inl (N 0))), (k17, .inl (cI, 200, .inl (N 1))), (k18, .inl (cI, 200, .inl (N 2))), (k19, .inl (cI, 200, .inl (N 3))), (k20, .inl (cI, 200, .inl (N 4))), (k21, .inl (cI, 20, .inl (B 0))), (k22, .inl (cI, 20, .inl (B 1))), (k23, .inl (cI, 20, .inl (B 2))), (k24, .inl (cI, 20, .inl (B 3))), (k25, .inl (cI, 1200, .inl (fl 6 E)))] := hD
              refine lv_aload_n hx hb dX5_house_94 rfl (lv_at hl 0 rfl) ?_
              refine va_get (D := D) (ci := 5) (v := .ref k12) (C := RX5) (T := TX5) (N := 26) hx hb hts hin5 hown hK hP 0 rfl rfl 12 (by decide) hf29 (fun _ h9 => h9) rfl dX5_house_95 ?_
              refine lv_aload_n hx hb dX5_house_98 rfl (lv_at hl 0 rfl) ?_
              refine va_get (D := D) (ci := 5) (v := .int (nI nh)) (C := RX5) (T := TX5) (N := 26) hx hb hts hin5 hown hK hP 0 rfl rfl 1 (by decide) hf97 (fun _ h9 => h9) rfl dX5_house_99 ?_
              refine lv_iload hx hb dX5_house_102 (lv_at hl 4 rfl) ?_
              refine va_iastN (D := D) (cl := vwCl) (cA := cI) (f := G 3) (x := rs) hx hb hK hP hD hS 7 0 rfl rfl nh (rfl) (by omega) (by first | decide | assumption) dX5_house_104 (fun H locs hP hD hS => ?_)
              have hP : va_P D vwCl [(o5, .inr (5, [.int (nI np), .int (nI nh), .int td, .int (nI nn), .int (nI nb), .int (nI ne), .ref k6, .ref k7, .ref k8, .ref k9, .ref k10, .ref k11, .ref k12, .ref k13, .ref k14, .ref k15, .ref k16, .ref k17, .ref k18, .ref k19, .ref k20, .ref k21, .ref k22, .ref k23, .ref k24, .ref k25])), (k6, .inl (cI, 96, .inl (fl 4 P))), (k7, .inl (cI, 24, .inl (P 4))), (k8, .inl (cZ, 24, .inl (P 5))), (k9, .inl (cI, 5, .inl (upd (G 0) nh kd))), (k10, .inl (cI, 5, .inl (upd (G 1) nh sn))), (k11, .inl (cI, 5, .inl (upd (G 2) nh sd))), (k12, .inl (cI, 5, .inl (upd (G 3) nh rs))), (k13, .inl (cI, 5, .inl (G 4))), (k14, .inl (cI, 5, .inl (mc))), (k15, .inl (cZ, 5, .inl (G 5))), (k16, .inl (cI, 200, .inl (N 0))), (k17, .inl (cI, 200, .inl (N 1))), (k18, .inl (cI, 200, .inl (N 2))), (k19, .inl (cI, 200, .inl (N 3))), (k20, .inl (cI, 200, .inl (N 4))), (k21, .inl (cI, 20, .inl (B 0))), (k22, .inl (cI, 20, .inl (B 1))), (k23, .inl (cI, 20, .inl (B 2))), (k24, .inl (cI, 20, .inl (B 3))), (k25, .inl (cI, 1200, .inl (fl 6 E)))] H := hP
              have hD : va_D (adr _) [(o5, .inr (5, [.int (nI np), .int (nI nh), .int td, .int (nI nn), .int (nI nb), .int (nI ne), .ref k6, .ref k7, .ref k8, .ref k9, .ref k10, .ref k11, .ref k12, .ref k13, .ref k14, .ref k15, .ref k16, .ref k17, .ref k18, .ref k19, .ref k20, .ref k21, .ref k22, .ref k23, .ref k24, .ref k25])), (k6, .inl (cI, 96, .inl (fl 4 P))), (k7, .inl (cI, 24, .inl (P 4))), (k8, .inl (cZ, 24, .inl (P 5))), (k9, .inl (cI, 5, .inl (upd (G 0) nh kd))), (k10, .inl (cI, 5, .inl (upd (G 1) nh sn))), (k11, .inl (cI, 5, .inl (upd (G 2) nh sd))), (k12, .inl (cI, 5, .inl (upd (G 3) nh rs))), (k13, .inl (cI, 5, .inl (G 4))), (k14, .inl (cI, 5, .inl (mc))), (k15, .inl (cZ, 5, .inl (G 5))), (k16, .inl (cI, 200, .inl (N 0))), (k17, .inl (cI, 200, .inl (N 1))), (k18, .inl (cI, 200, .inl (N 2))), (k19, .inl (cI, 200, .inl (N 3))), (k20, .inl (cI, 200, .inl (N 4))), (k21, .inl (cI, 20, .inl (B 0))), (k22, .inl (cI, 20, .inl (B 1))), (k23, .inl (cI, 20, .inl (B 2))), (k24, .inl (cI, 20, .inl (B 3))), (k25, .inl (cI, 1200, .inl (fl 6 E)))] := hD
              refine lv_aload_n hx hb dX5_house_105 rfl (lv_at hl 0 rfl) ?_
              refine va_get (D := D) (ci := 5) (v := .ref k13) (C := RX5) (T := TX5) (N := 26) hx hb hts hin5 hown hK hP 0 rfl rfl 13 (by decide) hf32 (fun _ h9 => h9) rfl dX5_house_106 ?_
              refine lv_aload_n hx hb dX5_house_109 rfl (lv_at hl 0 rfl) ?_
              refine va_get (D := D) (ci := 5) (v := .int (nI nh)) (C := RX5) (T := TX5) (N := 26) hx hb hts hin5 hown hK hP 0 rfl rfl 1 (by decide) hf97 (fun _ h9 => h9) rfl dX5_house_110 ?_
              refine lv_iload hx hb dX5_house_113 (lv_at hl 5 rfl) ?_
              refine va_iastN (D := D) (cl := vwCl) (cA := cI) (f := G 4) (x := lt) hx hb hK hP hD hS 8 0 rfl rfl nh (rfl) (by omega) (by first | decide | assumption) dX5_house_115 (fun H locs hP hD hS => ?_)
              have hP : va_P D vwCl [(o5, .inr (5, [.int (nI np), .int (nI nh), .int td, .int (nI nn), .int (nI nb), .int (nI ne), .ref k6, .ref k7, .ref k8, .ref k9, .ref k10, .ref k11, .ref k12, .ref k13, .ref k14, .ref k15, .ref k16, .ref k17, .ref k18, .ref k19, .ref k20, .ref k21, .ref k22, .ref k23, .ref k24, .ref k25])), (k6, .inl (cI, 96, .inl (fl 4 P))), (k7, .inl (cI, 24, .inl (P 4))), (k8, .inl (cZ, 24, .inl (P 5))), (k9, .inl (cI, 5, .inl (upd (G 0) nh kd))), (k10, .inl (cI, 5, .inl (upd (G 1) nh sn))), (k11, .inl (cI, 5, .inl (upd (G 2) nh sd))), (k12, .inl (cI, 5, .inl (upd (G 3) nh rs))), (k13, .inl (cI, 5, .inl (upd (G 4) nh lt))), (k14, .inl (cI, 5, .inl (mc))), (k15, .inl (cZ, 5, .inl (G 5))), (k16, .inl (cI, 200, .inl (N 0))), (k17, .inl (cI, 200, .inl (N 1))), (k18, .inl (cI, 200, .inl (N 2))), (k19, .inl (cI, 200, .inl (N 3))), (k20, .inl (cI, 200, .inl (N 4))), (k21, .inl (cI, 20, .inl (B 0))), (k22, .inl (cI, 20, .inl (B 1))), (k23, .inl (cI, 20, .inl (B 2))), (k24, .inl (cI, 20, .inl (B 3))), (k25, .inl (cI, 1200, .inl (fl 6 E)))] H := hP
              have hD : va_D (adr _) [(o5, .inr (5, [.int (nI np), .int (nI nh), .int td, .int (nI nn), .int (nI nb), .int (nI ne), .ref k6, .ref k7, .ref k8, .ref k9, .ref k10, .ref k11, .ref k12, .ref k13, .ref k14, .ref k15, .ref k16, .ref k17, .ref k18, .ref k19, .ref k20, .ref k21, .ref k22, .ref k23, .ref k24, .ref k25])), (k6, .inl (cI, 96, .inl (fl 4 P))), (k7, .inl (cI, 24, .inl (P 4))), (k8, .inl (cZ, 24, .inl (P 5))), (k9, .inl (cI, 5, .inl (upd (G 0) nh kd))), (k10, .inl (cI, 5, .inl (upd (G 1) nh sn))), (k11, .inl (cI, 5, .inl (upd (G 2) nh sd))), (k12, .inl (cI, 5, .inl (upd (G 3) nh rs))), (k13, .inl (cI, 5, .inl (upd (G 4) nh lt))), (k14, .inl (cI, 5, .inl (mc))), (k15, .inl (cZ, 5, .inl (G 5))), (k16, .inl (cI, 200, .inl (N 0))), (k17, .inl (cI, 200, .inl (N 1))), (k18, .inl (cI, 200, .inl (N 2))), (k19, .inl (cI, 200, .inl (N 3))), (k20, .inl (cI, 200, .inl (N 4))), (k21, .inl (cI, 20, .inl (B 0))), (k22, .inl (cI, 20, .inl (B 1))), (k23, .inl (cI, 20, .inl (B 2))), (k24, .inl (cI, 20, .inl (B 3))), (k25, .inl (cI, 1200, .inl (fl 6 E)))] := hD
              refine lv_aload_n hx hb dX5_house_116 rfl (lv_at hl 0 rfl) ?_
              refine lv_aload_n hx hb dX5_house_117 rfl (lv_at hl 0 rfl) ?_
              refine va_get (D := D) (ci := 5) (v := .int (nI nh)) (C := RX5) (T := TX5) (N := 26) hx hb hts hin5 hown hK hP 0 rfl rfl 1 (by decide) hf97 (fun _ h9 => h9) rfl dX5_house_118 ?_
              refine lv_iconst (v := 1) hx hb dX5_house_121 (by decide) ?_
              refine lv_iadd hx hb dX5_house_122 ?_
              refine va_put (D := D) (ci := 5) (v := .int (((nI nh) + 1))) (ty := .int) (C := RX5) (T := TX5) (N := 26) hx hb hts hin5 tyX5 tyX5_ok nmX5 hown hK hP hD hS 0 rfl rfl 1 (by decide) hf97 (fun _ h9 => h9) rfl (by decide +kernel) rfl rfl (Nat.le_of_ble_eq_true rfl) dX5_house_123 (fun H locs hP hD hS => ?_)
              have hP : va_P D vwCl [(o5, .inr (5, [.int (nI np), .int (((nI nh) + 1)), .int td, .int (nI nn), .int (nI nb), .int (nI ne), .ref k6, .ref k7, .ref k8, .ref k9, .ref k10, .ref k11, .ref k12, .ref k13, .ref k14, .ref k15, .ref k16, .ref k17, .ref k18, .ref k19, .ref k20, .ref k21, .ref k22, .ref k23, .ref k24, .ref k25])), (k6, .inl (cI, 96, .inl (fl 4 P))), (k7, .inl (cI, 24, .inl (P 4))), (k8, .inl (cZ, 24, .inl (P 5))), (k9, .inl (cI, 5, .inl (upd (G 0) nh kd))), (k10, .inl (cI, 5, .inl (upd (G 1) nh sn))), (k11, .inl (cI, 5, .inl (upd (G 2) nh sd))), (k12, .inl (cI, 5, .inl (upd (G 3) nh rs))), (k13, .inl (cI, 5, .inl (upd (G 4) nh lt))), (k14, .inl (cI, 5, .inl (mc))), (k15, .inl (cZ, 5, .inl (G 5))), (k16, .inl (cI, 200, .inl (N 0))), (k17, .inl (cI, 200, .inl (N 1))), (k18, .inl (cI, 200, .inl (N 2))), (k19, .inl (cI, 200, .inl (N 3))), (k20, .inl (cI, 200, .inl (N 4))), (k21, .inl (cI, 20, .inl (B 0))), (k22, .inl (cI, 20, .inl (B 1))), (k23, .inl (cI, 20, .inl (B 2))), (k24, .inl (cI, 20, .inl (B 3))), (k25, .inl (cI, 1200, .inl (fl 6 E)))] H := hP
              have hD : va_D (adr _) [(o5, .inr (5, [.int (nI np), .int (((nI nh) + 1)), .int td, .int (nI nn), .int (nI nb), .int (nI ne), .ref k6, .ref k7, .ref k8, .ref k9, .ref k10, .ref k11, .ref k12, .ref k13, .ref k14, .ref k15, .ref k16, .ref k17, .ref k18, .ref k19, .ref k20, .ref k21, .ref k22, .ref k23, .ref k24, .ref k25])), (k6, .inl (cI, 96, .inl (fl 4 P))), (k7, .inl (cI, 24, .inl (P 4))), (k8, .inl (cZ, 24, .inl (P 5))), (k9, .inl (cI, 5, .inl (upd (G 0) nh kd))), (k10, .inl (cI, 5, .inl (upd (G 1) nh sn))), (k11, .inl (cI, 5, .inl (upd (G 2) nh sd))), (k12, .inl (cI, 5, .inl (upd (G 3) nh rs))), (k13, .inl (cI, 5, .inl (upd (G 4) nh lt))), (k14, .inl (cI, 5, .inl (mc))), (k15, .inl (cZ, 5, .inl (G 5))), (k16, .inl (cI, 200, .inl (N 0))), (k17, .inl (cI, 200, .inl (N 1))), (k18, .inl (cI, 200, .inl (N 2))), (k19, .inl (cI, 200, .inl (N 3))), (k20, .inl (cI, 200, .inl (N 4))), (k21, .inl (cI, 20, .inl (B 0))), (k22, .inl (cI, 20, .inl (B 1))), (k23, .inl (cI, 20, .inl (B 2))), (k24, .inl (cI, 20, .inl (B 3))), (k25, .inl (cI, 1200, .inl (fl 6 E)))] := hD
              refine lv_aload_n hx hb dX5_house_126 rfl (lv_at hl 0 rfl) ?_
              refine va_get (D := D) (ci := 5) (v := .int (((nI nh) + 1))) (C := RX5) (T := TX5) (N := 26) hx hb hts hin5 hown hK hP 0 rfl rfl 1 (by decide) hf97 (fun _ h9 => h9) rfl dX5_house_127 ?_
              refine lv_iconst (v := 1) hx hb dX5_house_130 (by decide) ?_
              refine lv_isub hx hb dX5_house_131 ?_
              refine mu_iret hx hb hr hlocks hS dX5_house_132 ?_ ?_
              · rw [if_pos (by simp [okH, c_6, c_17, c_28, c_40, c_51, c_59]), arow_more hlt, ← nI_succ, nI_pred]
              have q0 : (nI (if okH kd sn sd rs lt = true then adn 5 nh else nh)) = (((nI nh) + 1)) := by rw [if_pos (by simp [okH, c_6, c_17, c_28, c_40, c_51, c_59]), adn_more hlt, nI_succ]
              have q1 : ((if okH kd sn sd rs lt = true then haddT nh G kd sn sd rs lt else G) 0) = (upd (G 0) nh kd) := by rw [if_pos (by simp [okH, c_6, c_17, c_28, c_40, c_51, c_59]), hadd_more hlt]; rfl
              have q2 : ((if okH kd sn sd rs lt = true then haddT nh G kd sn sd rs lt else G) 1) = (upd (G 1) nh sn) := by rw [if_pos (by simp [okH, c_6, c_17, c_28, c_40, c_51, c_59]), hadd_more hlt]; rfl
              have q3 : ((if okH kd sn sd rs lt = true then haddT nh G kd sn sd rs lt else G) 2) = (upd (G 2) nh sd) := by rw [if_pos (by simp [okH, c_6, c_17, c_28, c_40, c_51, c_59]), hadd_more hlt]; rfl
              have q4 : ((if okH kd sn sd rs lt = true then haddT nh G kd sn sd rs lt else G) 3) = (upd (G 3) nh rs) := by rw [if_pos (by simp [okH, c_6, c_17, c_28, c_40, c_51, c_59]), hadd_more hlt]; rfl
              have q5 : ((if okH kd sn sd rs lt = true then haddT nh G kd sn sd rs lt else G) 4) = (upd (G 4) nh lt) := by rw [if_pos (by simp [okH, c_6, c_17, c_28, c_40, c_51, c_59]), hadd_more hlt]; rfl
              have q6 : ((if okH kd sn sd rs lt = true then haddT nh G kd sn sd rs lt else G) 5) = (G 5) := by rw [if_pos (by simp [okH, c_6, c_17, c_28, c_40, c_51, c_59]), hadd_5 hlt (hg0 nh (Nat.le_refl nh))]
              rw [q0, q1, q2, q3, q4, q5, q6]
              exact hP
            · skip
              have hlt : nh = 5 := nI_inj (b := 5) (by omega) (by omega) c_59
              refine lv_iconst (v := (-1)) hx hb dX5_house_62 (by decide) ?_
              refine mu_iret hx hb hr hlocks hS dX5_house_63 ?_ ?_
              · rw [if_pos (by simp [okH, c_6, c_17, c_28, c_40, c_51, c_59]), arow_full hlt]
              have q0 : (nI (if okH kd sn sd rs lt = true then adn 5 nh else nh)) = (nI nh) := by rw [if_pos (by simp [okH, c_6, c_17, c_28, c_40, c_51, c_59]), adn_full hlt]
              have q1 : ((if okH kd sn sd rs lt = true then haddT nh G kd sn sd rs lt else G) 0) = (G 0) := by rw [if_pos (by simp [okH, c_6, c_17, c_28, c_40, c_51, c_59]), hadd_full hlt]
              have q2 : ((if okH kd sn sd rs lt = true then haddT nh G kd sn sd rs lt else G) 1) = (G 1) := by rw [if_pos (by simp [okH, c_6, c_17, c_28, c_40, c_51, c_59]), hadd_full hlt]
              have q3 : ((if okH kd sn sd rs lt = true then haddT nh G kd sn sd rs lt else G) 2) = (G 2) := by rw [if_pos (by simp [okH, c_6, c_17, c_28, c_40, c_51, c_59]), hadd_full hlt]
              have q4 : ((if okH kd sn sd rs lt = true then haddT nh G kd sn sd rs lt else G) 3) = (G 3) := by rw [if_pos (by simp [okH, c_6, c_17, c_28, c_40, c_51, c_59]), hadd_full hlt]
              have q5 : ((if okH kd sn sd rs lt = true then haddT nh G kd sn sd rs lt else G) 4) = (G 4) := by rw [if_pos (by simp [okH, c_6, c_17, c_28, c_40, c_51, c_59]), hadd_full hlt]
              have q6 : ((if okH kd sn sd rs lt = true then haddT nh G kd sn sd rs lt else G) 5) = (G 5) := by rw [if_pos (by simp [okH, c_6, c_17, c_28, c_40, c_51, c_59]), hadd_full hlt]
              rw [q0, q1, q2, q3, q4, q5, q6]
              exact hP
set_option maxHeartbeats 4000000 in
set_option maxRecDepth 100000 in
theorem kX5_spanNow (l : Launch) (D : va_G) (cI cZ : ClassId) (o5 k6 k7 k8 k9 k10 k11 k12 k13 k14 k15 k16 k17 k18 k19 k20 k21 k22 k23 k24 k25 np nh nn nb ne : Nat) (td : Int32) (P G N B E : Nat → Nat → Int32) (mc : Nat → Int32) (h : Nat) (hnh : nh ≤ 5) (hg : ∀ h, h < nh → GH G h) (hh : h < nh) : Met l yX5_spanNow wsX5_spanNow ({ frames := 0, cells := 0, slots := 0, locals := 0 } : Room) (RdP D [(cI, .int), (cZ, .boolean)] [.ref o5, .int (nI h)] [(o5, .inr (5, [.int (nI np), .int (nI nh), .int td, .int (nI nn), .int (nI nb), .int (nI ne), .ref k6, .ref k7, .ref k8, .ref k9, .ref k10, .ref k11, .ref k12, .ref k13, .ref k14, .ref k15, .ref k16, .ref k17, .ref k18, .ref k19, .ref k20, .ref k21, .ref k22, .ref k23, .ref k24, .ref k25])), (k6, .inl (cI, 96, .inl (fl 4 P))), (k7, .inl (cI, 24, .inl (P 4))), (k8, .inl (cZ, 24, .inl (P 5))), (k9, .inl (cI, 5, .inl (G 0))), (k10, .inl (cI, 5, .inl (G 1))), (k11, .inl (cI, 5, .inl (G 2))), (k12, .inl (cI, 5, .inl (G 3))), (k13, .inl (cI, 5, .inl (G 4))), (k14, .inl (cI, 5, .inl (mc))), (k15, .inl (cZ, 5, .inl (G 5))), (k16, .inl (cI, 200, .inl (N 0))), (k17, .inl (cI, 200, .inl (N 1))), (k18, .inl (cI, 200, .inl (N 2))), (k19, .inl (cI, 200, .inl (N 3))), (k20, .inl (cI, 200, .inl (N 4))), (k21, .inl (cI, 20, .inl (B 0))), (k22, .inl (cI, 20, .inl (B 1))), (k23, .inl (cI, 20, .inl (B 2))), (k24, .inl (cI, 20, .inl (B 3))), (k25, .inl (cI, 1200, .inl (fl 6 E)))]) (QcRead (spW G td h)) 0 0 (fun _ => False) := by
  refine rd_of (cc := cX5_spanNow) (maxL := 2) (ret := (some .int)) (by decide) rfl (Nat.le_of_ble_eq_true rfl) ?_
  intro pp ee ss mm bw me cd ls hx hb hr hts hown hlocks hml hP hK hl
  have hl : lv_has ls 2 [(0, .ref o5), (1, .int ((nI h)))] := hl
  have hf20 := hts (.fieldLink RX5 20 "OtherNamesModel" "kind" "[I") (by decide +kernel)
  have hin5 := (show ∀ w ∈ wsX50, w ∈ wsX5_spanNow by decide +kernel)
  have hf94 := hts (.fieldLink RX5 94 "OtherNamesModel" "now" "I") (by decide +kernel)
  have hf23 := hts (.fieldLink RX5 23 "OtherNamesModel" "span" "[I") (by decide +kernel)
  refine lv_aload_n hx hb dX5_spanNow_0 rfl (lv_at hl 0 rfl) ?_
  refine va_get (D := D) (ci := 5) (v := .ref k9) (C := RX5) (T := TX5) (N := 26) hx hb hts hin5 hown hK hP 0 rfl rfl 9 (by decide) hf20 (fun _ h9 => h9) rfl dX5_spanNow_1 ?_
  refine lv_iload_n hx hb dX5_spanNow_4 rfl (lv_at hl 1 rfl) ?_
  refine va_ialdN (D := D) (cl := vwCl) (cA := cI) (f := G 0) hx hb hK hP 4 0 rfl rfl h (rfl) (by omega) (by first | decide | assumption) dX5_spanNow_5 ?_
  refine lv_iconst (v := 1) hx hb dX5_spanNow_6 (by decide) ?_
  refine lv_icmp_ne (tgt := 24) hx hb dX5_spanNow_7 (by decide) (fun c_7 => ?_) (fun c_7 => ?_)
  · skip
    refine lv_iconst (v := 0) hx hb dX5_spanNow_24 (by decide) ?_
    exact rd_iret hx hb hr hlocks dX5_spanNow_25 (by simp [spW, c_7])
  · skip
    refine lv_aload_n hx hb dX5_spanNow_10 rfl (lv_at hl 0 rfl) ?_
    refine va_get (D := D) (ci := 5) (v := .int td) (C := RX5) (T := TX5) (N := 26) hx hb hts hin5 hown hK hP 0 rfl rfl 2 (by decide) hf94 (fun _ h9 => h9) rfl dX5_spanNow_11 ?_
    refine lv_aload_n hx hb dX5_spanNow_14 rfl (lv_at hl 0 rfl) ?_
    refine va_get (D := D) (ci := 5) (v := .ref k10) (C := RX5) (T := TX5) (N := 26) hx hb hts hin5 hown hK hP 0 rfl rfl 10 (by decide) hf23 (fun _ h9 => h9) rfl dX5_spanNow_15 ?_
    refine lv_iload_n hx hb dX5_spanNow_18 rfl (lv_at hl 1 rfl) ?_
    refine va_ialdN (D := D) (cl := vwCl) (cA := cI) (f := G 1) hx hb hK hP 5 0 rfl rfl h (rfl) (by omega) (by first | decide | assumption) dX5_spanNow_19 ?_
    refine lv_idiv hx hb dX5_spanNow_20 ((hg h hh).span0) ?_
    refine lv_goto (tgt := 25) hx hb dX5_spanNow_21 (by decide) ?_
    exact rd_iret hx hb hr hlocks dX5_spanNow_25 (by simp [spW, c_7])
