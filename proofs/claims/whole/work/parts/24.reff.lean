set_option maxHeartbeats 4000000 in
set_option maxRecDepth 100000 in
theorem kX5_back (l : Launch) (D : va_G) (cI cZ : ClassId) (o5 k6 k7 k8 k9 k10 k11 k12 k13 k14 k15 k16 k17 k18 k19 k20 k21 k22 k23 k24 k25 np nh nn nb ne : Nat) (td : Int32) (P G N B E : Nat → Nat → Int32) (mc : Nat → Int32) (h : Int32) (nm : Int32) (rs : Int32) (a : Int32) (b : Int32) (hnp : np ≤ 24) (hnh : nh ≤ 5) (hnn : nn ≤ 200) (hne : ne ≤ 200) (hw : HP np (P 4)) (ho : HO nn np N) (hs : ∀ p, P 5 p = 0 ∨ P 5 p = 1) (hg : ∀ h, h < nh → GH G h) : Met l yX5_back wsX5_back ({ frames := 1, cells := 0, slots := 0, locals := 26 } : Room) (MuP D [(cI, .int), (cZ, .boolean)] [.ref o5, .int h, .int nm, .int rs, .int a, .int b] [(o5, .inr (5, [.int (nI np), .int (nI nh), .int td, .int (nI nn), .int (nI nb), .int (nI ne), .ref k6, .ref k7, .ref k8, .ref k9, .ref k10, .ref k11, .ref k12, .ref k13, .ref k14, .ref k15, .ref k16, .ref k17, .ref k18, .ref k19, .ref k20, .ref k21, .ref k22, .ref k23, .ref k24, .ref k25])), (k6, .inl (cI, 96, .inl (fl 4 P))), (k7, .inl (cI, 24, .inl (P 4))), (k8, .inl (cZ, 24, .inl (P 5))), (k9, .inl (cI, 5, .inl (G 0))), (k10, .inl (cI, 5, .inl (G 1))), (k11, .inl (cI, 5, .inl (G 2))), (k12, .inl (cI, 5, .inl (G 3))), (k13, .inl (cI, 5, .inl (G 4))), (k14, .inl (cI, 5, .inl (mc))), (k15, .inl (cZ, 5, .inl (G 5))), (k16, .inl (cI, 200, .inl (N 0))), (k17, .inl (cI, 200, .inl (N 1))), (k18, .inl (cI, 200, .inl (N 2))), (k19, .inl (cI, 200, .inl (N 3))), (k20, .inl (cI, 200, .inl (N 4))), (k21, .inl (cI, 20, .inl (B 0))), (k22, .inl (cI, 20, .inl (B 1))), (k23, .inl (cI, 20, .inl (B 2))), (k24, .inl (cI, 20, .inl (B 3))), (k25, .inl (cI, 1200, .inl (fl 6 E)))]) (QM D (some (.int (if okB nh ne h rs a b = true then bkR np nh nn P G N h nm rs a b else -1))) [(o5, .inr (5, [.int (nI np), .int (nI nh), .int td, .int (nI nn), .int (nI nb), .int (nI ne), .ref k6, .ref k7, .ref k8, .ref k9, .ref k10, .ref k11, .ref k12, .ref k13, .ref k14, .ref k15, .ref k16, .ref k17, .ref k18, .ref k19, .ref k20, .ref k21, .ref k22, .ref k23, .ref k24, .ref k25])), (k6, .inl (cI, 96, .inl (fl 4 P))), (k7, .inl (cI, 24, .inl (P 4))), (k8, .inl (cZ, 24, .inl (P 5))), (k9, .inl (cI, 5, .inl (G 0))), (k10, .inl (cI, 5, .inl (G 1))), (k11, .inl (cI, 5, .inl (G 2))), (k12, .inl (cI, 5, .inl (G 3))), (k13, .inl (cI, 5, .inl (G 4))), (k14, .inl (cI, 5, .inl (mc))), (k15, .inl (cZ, 5, .inl (G 5))), (k16, .inl (cI, 200, .inl (N 0))), (k17, .inl (cI, 200, .inl (N 1))), (k18, .inl (cI, 200, .inl (N 2))), (k19, .inl (cI, 200, .inl (N 3))), (k20, .inl (cI, 200, .inl (N 4))), (k21, .inl (cI, 20, .inl (B 0))), (k22, .inl (cI, 20, .inl (B 1))), (k23, .inl (cI, 20, .inl (B 2))), (k24, .inl (cI, 20, .inl (B 3))), (k25, .inl (cI, 1200, .inl (fl 6 E)))] [(o5, .inr (5, [.int (nI np), .int (nI nh), .int td, .int (nI nn), .int (nI nb), .int (nI (if okB nh ne h rs a b = true then adn 200 ne else ne)), .ref k6, .ref k7, .ref k8, .ref k9, .ref k10, .ref k11, .ref k12, .ref k13, .ref k14, .ref k15, .ref k16, .ref k17, .ref k18, .ref k19, .ref k20, .ref k21, .ref k22, .ref k23, .ref k24, .ref k25])), (k6, .inl (cI, 96, .inl (fl 4 P))), (k7, .inl (cI, 24, .inl (P 4))), (k8, .inl (cZ, 24, .inl (P 5))), (k9, .inl (cI, 5, .inl (G 0))), (k10, .inl (cI, 5, .inl (G 1))), (k11, .inl (cI, 5, .inl (G 2))), (k12, .inl (cI, 5, .inl (G 3))), (k13, .inl (cI, 5, .inl (G 4))), (k14, .inl (cI, 5, .inl (mc))), (k15, .inl (cZ, 5, .inl (G 5))), (k16, .inl (cI, 200, .inl (N 0))), (k17, .inl (cI, 200, .inl (N 1))), (k18, .inl (cI, 200, .inl (N 2))), (k19, .inl (cI, 200, .inl (N 3))), (k20, .inl (cI, 200, .inl (N 4))), (k21, .inl (cI, 20, .inl (B 0))), (k22, .inl (cI, 20, .inl (B 1))), (k23, .inl (cI, 20, .inl (B 2))), (k24, .inl (cI, 20, .inl (B 3))), (k25, .inl (cI, 1200, .inl (fl 6 (if okB nh ne h rs a b = true then eaddT ne E (if bkR np nh nn P G N h nm rs a b = -1 then 3 else 1) h nm a b td else E))))]) 0 0 (adr [(o5, .inr (5, [.int (nI np), .int (nI nh), .int td, .int (nI nn), .int (nI nb), .int (nI ne), .ref k6, .ref k7, .ref k8, .ref k9, .ref k10, .ref k11, .ref k12, .ref k13, .ref k14, .ref k15, .ref k16, .ref k17, .ref k18, .ref k19, .ref k20, .ref k21, .ref k22, .ref k23, .ref k24, .ref k25])), (k6, .inl (cI, 96, .inl (fl 4 P))), (k7, .inl (cI, 24, .inl (P 4))), (k8, .inl (cZ, 24, .inl (P 5))), (k9, .inl (cI, 5, .inl (G 0))), (k10, .inl (cI, 5, .inl (G 1))), (k11, .inl (cI, 5, .inl (G 2))), (k12, .inl (cI, 5, .inl (G 3))), (k13, .inl (cI, 5, .inl (G 4))), (k14, .inl (cI, 5, .inl (mc))), (k15, .inl (cZ, 5, .inl (G 5))), (k16, .inl (cI, 200, .inl (N 0))), (k17, .inl (cI, 200, .inl (N 1))), (k18, .inl (cI, 200, .inl (N 2))), (k19, .inl (cI, 200, .inl (N 3))), (k20, .inl (cI, 200, .inl (N 4))), (k21, .inl (cI, 20, .inl (B 0))), (k22, .inl (cI, 20, .inl (B 1))), (k23, .inl (cI, 20, .inl (B 2))), (k24, .inl (cI, 20, .inl (B 3))), (k25, .inl (cI, 1200, .inl (fl 6 E)))]) := by
  refine mu_of (cc := cX5_back) (maxL := 8) (ret := (some .int)) (by decide) rfl (Nat.le_of_ble_eq_true rfl) ?_
  intro pp ee ss mm bw me cd ls hx hb hr hts hown hlocks hml hK hl H locs hP hD hS
  have hl : lv_has ls 8 [(0, .ref o5), (1, .int h), (2, .int nm), (3, .int rs), (4, .int a), (5, .int b)] := hl
  have hf126 := hts (.fieldLink RX5 126 "OtherNamesModel" "entries" "I") (by decide +kernel)
  have hin5 := (show ∀ w ∈ wsX50, w ∈ wsX5_back by decide +kernel)
  have hf29 := hts (.fieldLink RX5 29 "OtherNamesModel" "reasons" "[I") (by decide +kernel)
  have hf38 := hts (.fieldLink RX5 38 "OtherNamesModel" "isLost" "[Z") (by decide +kernel)
  have hf16 := hts (.fieldLink RX5 16 "OtherNamesModel" "isStruck" "[Z") (by decide +kernel)
  have hf47 := hts (.fieldLink RX5 47 "OtherNamesModel" "owner" "[I") (by decide +kernel)
  refine lv_aload_n hx hb dX5_back_0 rfl (lv_at hl 0 rfl) ?_
  refine lv_iload_n hx hb dX5_back_1 rfl (lv_at hl 1 rfl) ?_
  refine rcVw (As := [.int h]) (rest := []) (ci := 5) ⟨hx, hb, hml, hown, hts⟩ (kX5_isHouse l D cI cZ o5 k6 k7 k8 k9 k10 k11 k12 k13 k14 k15 k16 k17 k18 k19 k20 k21 k22 k23 k24 k25 np nh nn nb ne td P G N B E mc h) (cwV 1 hts gX5_back_X5_isHouse rfl rfl rfl (by decide +kernel) ⟨Nat.le_of_ble_eq_true rfl, Nat.le_of_ble_eq_true rfl⟩) hK hP rfl rfl rfl rfl hl.1 rfl (Nat.le_of_ble_eq_true rfl) ⟨Nat.zero_le _, Nat.zero_le _⟩ dX5_back_2 ?_
  refine lb_eq (tgt := 50) hx hb dX5_back_5 (by decide) (fun c_5 => ?_) (fun c_5 => ?_)
  · skip
    refine lv_iconst (v := (-1)) hx hb dX5_back_50 (by decide) ?_
    refine mu_iret hx hb hr hlocks hS dX5_back_51 ?_ ?_
    · rw [if_neg (by simp [okB, c_5])]
    have q0 : (nI (if okB nh ne h rs a b = true then adn 200 ne else ne)) = (nI ne) := by rw [if_neg (by simp [okB, c_5])]
    have q1 : (fl 6 (if okB nh ne h rs a b = true then eaddT ne E (if bkR np nh nn P G N h nm rs a b = -1 then 3 else 1) h nm a b td else E)) = (fl 6 E) := by rw [if_neg (by simp [okB, c_5])]
    rw [q0, q1]
    exact hP
  · skip
    obtain ⟨a_, ha_, rfl⟩ := inR_ex c_5 (by omega)
    have t5 : tat nh 6 G (nI a_) 5 = G 5 a_ := tatG (c := 5) hnh ha_ (by omega)
    have t3 : tat nh 6 G (nI a_) 3 = G 3 a_ := tatG (c := 3) hnh ha_ (by omega)
    refine lv_iload_n hx hb dX5_back_8 rfl (lv_at hl 3 rfl) ?_
    refine lv_iconst (v := 0) hx hb dX5_back_9 (by decide) ?_
    refine lv_bipush (v := 7) hx hb dX5_back_10 (by decide) ?_
    refine rcS (As := [.int rs, .int 0, .int 7]) (rest := []) ⟨hx, hb, hml, hown, hts⟩ (kX5_in l D cI cZ rs 0 7) (va_cwS 3 hts gX5_back_X5_in rfl rfl rfl (by decide +kernel) ⟨Nat.le_of_ble_eq_true rfl, Nat.le_of_ble_eq_true rfl⟩) hK hP [] rfl rfl hl.1 rfl (Nat.le_of_ble_eq_true rfl) ⟨Nat.zero_le _, Nat.zero_le _⟩ dX5_back_12 ?_
    refine lb_eq (tgt := 50) hx hb dX5_back_15 (by decide) (fun c_15 => ?_) (fun c_15 => ?_)
    · skip
      refine lv_iconst (v := (-1)) hx hb dX5_back_50 (by decide) ?_
      refine mu_iret hx hb hr hlocks hS dX5_back_51 ?_ ?_
      · rw [if_neg (by simp [okB, c_15])]
      have q0 : (nI (if okB nh ne (nI a_) rs a b = true then adn 200 ne else ne)) = (nI ne) := by rw [if_neg (by simp [okB, c_15])]
      have q1 : (fl 6 (if okB nh ne (nI a_) rs a b = true then eaddT ne E (if bkR np nh nn P G N (nI a_) nm rs a b = -1 then 3 else 1) (nI a_) nm a b td else E)) = (fl 6 E) := by rw [if_neg (by simp [okB, c_15])]
      rw [q0, q1]
      exact hP
    · skip
      refine lv_iload hx hb dX5_back_18 (lv_at hl 4 rfl) ?_
      refine lv_iconst (v := 0) hx hb dX5_back_20 (by decide) ?_
      refine lv_bipush (v := 9) hx hb dX5_back_21 (by decide) ?_
      refine rcS (As := [.int a, .int 0, .int 9]) (rest := []) ⟨hx, hb, hml, hown, hts⟩ (kX5_in l D cI cZ a 0 9) (va_cwS 3 hts gX5_back_X5_in rfl rfl rfl (by decide +kernel) ⟨Nat.le_of_ble_eq_true rfl, Nat.le_of_ble_eq_true rfl⟩) hK hP [] rfl rfl hl.1 rfl (Nat.le_of_ble_eq_true rfl) ⟨Nat.zero_le _, Nat.zero_le _⟩ dX5_back_23 ?_
      refine lb_eq (tgt := 50) hx hb dX5_back_26 (by decide) (fun c_26 => ?_) (fun c_26 => ?_)
      · skip
        refine lv_iconst (v := (-1)) hx hb dX5_back_50 (by decide) ?_
        refine mu_iret hx hb hr hlocks hS dX5_back_51 ?_ ?_
        · rw [if_neg (by simp [okB, c_26])]
        have q0 : (nI (if okB nh ne (nI a_) rs a b = true then adn 200 ne else ne)) = (nI ne) := by rw [if_neg (by simp [okB, c_26])]
        have q1 : (fl 6 (if okB nh ne (nI a_) rs a b = true then eaddT ne E (if bkR np nh nn P G N (nI a_) nm rs a b = -1 then 3 else 1) (nI a_) nm a b td else E)) = (fl 6 E) := by rw [if_neg (by simp [okB, c_26])]
        rw [q0, q1]
        exact hP
      · skip
        refine lv_iload hx hb dX5_back_29 (lv_at hl 5 rfl) ?_
        refine lv_iconst (v := 0) hx hb dX5_back_31 (by decide) ?_
        refine lv_bipush (v := 9) hx hb dX5_back_32 (by decide) ?_
        refine rcS (As := [.int b, .int 0, .int 9]) (rest := []) ⟨hx, hb, hml, hown, hts⟩ (kX5_in l D cI cZ b 0 9) (va_cwS 3 hts gX5_back_X5_in rfl rfl rfl (by decide +kernel) ⟨Nat.le_of_ble_eq_true rfl, Nat.le_of_ble_eq_true rfl⟩) hK hP [] rfl rfl hl.1 rfl (Nat.le_of_ble_eq_true rfl) ⟨Nat.zero_le _, Nat.zero_le _⟩ dX5_back_34 ?_
        refine lb_eq (tgt := 50) hx hb dX5_back_37 (by decide) (fun c_37 => ?_) (fun c_37 => ?_)
        · skip
          refine lv_iconst (v := (-1)) hx hb dX5_back_50 (by decide) ?_
          refine mu_iret hx hb hr hlocks hS dX5_back_51 ?_ ?_
          · rw [if_neg (by simp [okB, c_37])]
          have q0 : (nI (if okB nh ne (nI a_) rs a b = true then adn 200 ne else ne)) = (nI ne) := by rw [if_neg (by simp [okB, c_37])]
          have q1 : (fl 6 (if okB nh ne (nI a_) rs a b = true then eaddT ne E (if bkR np nh nn P G N (nI a_) nm rs a b = -1 then 3 else 1) (nI a_) nm a b td else E)) = (fl 6 E) := by rw [if_neg (by simp [okB, c_37])]
          rw [q0, q1]
          exact hP
        · skip
          refine lv_aload_n hx hb dX5_back_40 rfl (lv_at hl 0 rfl) ?_
          refine va_get (D := D) (ci := 5) (v := .int (nI ne)) (C := RX5) (T := TX5) (N := 26) hx hb hts hin5 hown hK hP 0 rfl rfl 5 (by decide) hf126 (fun _ h9 => h9) rfl dX5_back_41 ?_
          refine lv_sipush (v := 200) hx hb dX5_back_44 (by decide) ?_
          refine lv_icmp_ne (tgt := 52) hx hb dX5_back_47 (by decide) (fun c_47 => ?_) (fun c_47 => ?_)
          · skip
            have hlt : ne < 200 := Nat.lt_of_le_of_ne hne (nI_neq (N := 200) c_47 rfl)
            refine lv_aload_n hx hb dX5_back_52 rfl (lv_at hl 0 rfl) ?_
            refine lv_iload_n hx hb dX5_back_53 rfl (lv_at hl 1 rfl) ?_
            refine lv_iload_n hx hb dX5_back_54 rfl (lv_at hl 2 rfl) ?_
            refine rcVw (As := [.int ((nI a_)), .int nm]) (rest := []) (ci := 5) ⟨hx, hb, hml, hown, hts⟩ (kX5_find l D cI cZ o5 k6 k7 k8 k9 k10 k11 k12 k13 k14 k15 k16 k17 k18 k19 k20 k21 k22 k23 k24 k25 np nh nn nb ne td P G N B E mc (nI a_) nm (by first | assumption | omega)) (cwV 2 hts gX5_back_X5_find rfl rfl rfl (by decide +kernel) ⟨Nat.le_of_ble_eq_true rfl, Nat.le_of_ble_eq_true rfl⟩) hK hP rfl rfl rfl rfl hl.1 rfl (Nat.le_of_ble_eq_true rfl) ⟨Nat.zero_le _, Nat.zero_le _⟩ dX5_back_55 ?_
            refine lv_istore (lv' := [(6, .int (fsI (fdB N (nI a_) nm) nn)), (0, .ref o5), (1, .int ((nI a_))), (2, .int nm), (3, .int rs), (4, .int a), (5, .int b)]) hx hb dX5_back_58 hl (by decide) rfl (fun ls hl => ?_)
            refine lv_iload hx hb dX5_back_60 (lv_at hl 0 rfl) ?_
            refine lv_iconst (v := (-1)) hx hb dX5_back_62 (by decide) ?_
            refine lv_icmp_eq (tgt := 115) hx hb dX5_back_63 (by decide) (fun c_63 => ?_) (fun c_63 => ?_)
            · skip
              refine lv_iconst (v := 0) hx hb dX5_back_115 (by decide) ?_
              refine lv_istore (lv' := [(7, .int 0), (6, .int (fsI (fdB N (nI a_) nm) nn)), (0, .ref o5), (1, .int ((nI a_))), (2, .int nm), (3, .int rs), (4, .int a), (5, .int b)]) hx hb dX5_back_116 hl (by decide) rfl (fun ls hl => ?_)
              refine lv_aload_n hx hb dX5_back_118 rfl (lv_at hl 2 rfl) ?_
              refine lv_iload hx hb dX5_back_119 (lv_at hl 0 rfl) ?_
              refine lv_if_eq (tgt := 128) hx hb dX5_back_121 (by decide) (fun _ => ?_) (fun c9 => absurd c9 (by decide))
              refine lv_iconst (v := 3) hx hb dX5_back_128 (by decide) ?_
              refine lv_iload_n hx hb dX5_back_129 rfl (lv_at hl 3 rfl) ?_
              refine lv_iload_n hx hb dX5_back_130 rfl (lv_at hl 4 rfl) ?_
              refine lv_iload hx hb dX5_back_131 (lv_at hl 6 rfl) ?_
              refine lv_iload hx hb dX5_back_133 (lv_at hl 7 rfl) ?_
              refine mcVw (As := [.int 3, .int ((nI a_)), .int nm, .int a, .int b]) (rest := []) (ci := 5) (wn := [(o5, .inr (5, [.int (nI np), .int (nI nh), .int td, .int (nI nn), .int (nI nb), .int (nI (adn 200 ne)), .ref k6, .ref k7, .ref k8, .ref k9, .ref k10, .ref k11, .ref k12, .ref k13, .ref k14, .ref k15, .ref k16, .ref k17, .ref k18, .ref k19, .ref k20, .ref k21, .ref k22, .ref k23, .ref k24, .ref k25])), (k6, .inl (cI, 96, .inl (fl 4 P))), (k7, .inl (cI, 24, .inl (P 4))), (k8, .inl (cZ, 24, .inl (P 5))), (k9, .inl (cI, 5, .inl (G 0))), (k10, .inl (cI, 5, .inl (G 1))), (k11, .inl (cI, 5, .inl (G 2))), (k12, .inl (cI, 5, .inl (G 3))), (k13, .inl (cI, 5, .inl (G 4))), (k14, .inl (cI, 5, .inl (mc))), (k15, .inl (cZ, 5, .inl (G 5))), (k16, .inl (cI, 200, .inl (N 0))), (k17, .inl (cI, 200, .inl (N 1))), (k18, .inl (cI, 200, .inl (N 2))), (k19, .inl (cI, 200, .inl (N 3))), (k20, .inl (cI, 200, .inl (N 4))), (k21, .inl (cI, 20, .inl (B 0))), (k22, .inl (cI, 20, .inl (B 1))), (k23, .inl (cI, 20, .inl (B 2))), (k24, .inl (cI, 20, .inl (B 3))), (k25, .inl (cI, 1200, .inl (fl 6 (eaddT ne E 3 (nI a_) nm a b td))))]) ⟨hx, hb, hml, hown, hts⟩ (kX5_writes l D cI cZ o5 k6 k7 k8 k9 k10 k11 k12 k13 k14 k15 k16 k17 k18 k19 k20 k21 k22 k23 k24 k25 np nh nn nb ne td P G N B E mc 3 (nI a_) nm a b (hlt)) (cwV 5 hts gX5_back_X5_writes rfl rfl rfl (by decide +kernel) ⟨Nat.le_of_ble_eq_true rfl, Nat.le_of_ble_eq_true rfl⟩) hK hP hD hS rfl rfl rfl rfl rfl hl.1 rfl (Nat.le_of_ble_eq_true rfl) ⟨Nat.zero_le _, Nat.zero_le _⟩ dX5_back_135 (fun H locs hP hD hS => ?_)
              refine W.eq (g2 := F0 mm 138 ls []) rfl ?_
              refine lv_iload hx hb dX5_back_138 (lv_at hl 0 rfl) ?_
              refine lv_if_eq (tgt := 157) hx hb dX5_back_140 (by decide) (fun _ => ?_) (fun c9 => absurd c9 (by decide))
              refine lv_iconst (v := (-1)) hx hb dX5_back_157 (by decide) ?_
              refine mu_iret hx hb hr hlocks hS dX5_back_158 ?_ ?_
              · rw [if_pos (by simp [okB, c_5, c_15, c_26, c_37, hlt]), show bkR np nh nn P G N (nI a_) nm rs a b = -1 by rw [bkR, hbR, if_pos c_63]; simp]
              have q0 : (nI (if okB nh ne (nI a_) rs a b = true then adn 200 ne else ne)) = (nI (adn 200 ne)) := by rw [if_pos (by simp [okB, c_5, c_15, c_26, c_37, hlt])]
              have q1 : (fl 6 (if okB nh ne (nI a_) rs a b = true then eaddT ne E (if bkR np nh nn P G N (nI a_) nm rs a b = -1 then 3 else 1) (nI a_) nm a b td else E)) = (fl 6 (eaddT ne E 3 (nI a_) nm a b td)) := by rw [if_pos (by simp [okB, c_5, c_15, c_26, c_37, hlt]), show bkR np nh nn P G N (nI a_) nm rs a b = -1 by rw [bkR, hbR, if_pos c_63]; simp, if_pos rfl]
              rw [q0, q1]
              exact hP
            · skip
              obtain ⟨i, hi2, e, hf, hmin⟩ := fsI_ex (by omega) c_63
              rw [e] at hl
              have hoi := (ho i hi2).2
              refine lv_iload hx hb dX5_back_66 (lv_at hl 5 rfl) ?_
              refine lv_iload hx hb dX5_back_68 (lv_at hl 6 rfl) ?_
              refine lv_icmp_eq (tgt := 115) hx hb dX5_back_70 (by decide) (fun c_70 => ?_) (fun c_70 => ?_)
              · skip
                refine lv_iconst (v := 0) hx hb dX5_back_115 (by decide) ?_
                refine lv_istore (lv' := [(7, .int 0), (6, .int ((nI i))), (0, .ref o5), (1, .int ((nI a_))), (2, .int nm), (3, .int rs), (4, .int a), (5, .int b)]) hx hb dX5_back_116 hl (by decide) rfl (fun ls hl => ?_)
                refine lv_aload_n hx hb dX5_back_118 rfl (lv_at hl 2 rfl) ?_
                refine lv_iload hx hb dX5_back_119 (lv_at hl 0 rfl) ?_
                refine lv_if_eq (tgt := 128) hx hb dX5_back_121 (by decide) (fun _ => ?_) (fun c9 => absurd c9 (by decide))
                refine lv_iconst (v := 3) hx hb dX5_back_128 (by decide) ?_
                refine lv_iload_n hx hb dX5_back_129 rfl (lv_at hl 3 rfl) ?_
                refine lv_iload_n hx hb dX5_back_130 rfl (lv_at hl 4 rfl) ?_
                refine lv_iload hx hb dX5_back_131 (lv_at hl 6 rfl) ?_
                refine lv_iload hx hb dX5_back_133 (lv_at hl 7 rfl) ?_
                refine mcVw (As := [.int 3, .int ((nI a_)), .int nm, .int a, .int b]) (rest := []) (ci := 5) (wn := [(o5, .inr (5, [.int (nI np), .int (nI nh), .int td, .int (nI nn), .int (nI nb), .int (nI (adn 200 ne)), .ref k6, .ref k7, .ref k8, .ref k9, .ref k10, .ref k11, .ref k12, .ref k13, .ref k14, .ref k15, .ref k16, .ref k17, .ref k18, .ref k19, .ref k20, .ref k21, .ref k22, .ref k23, .ref k24, .ref k25])), (k6, .inl (cI, 96, .inl (fl 4 P))), (k7, .inl (cI, 24, .inl (P 4))), (k8, .inl (cZ, 24, .inl (P 5))), (k9, .inl (cI, 5, .inl (G 0))), (k10, .inl (cI, 5, .inl (G 1))), (k11, .inl (cI, 5, .inl (G 2))), (k12, .inl (cI, 5, .inl (G 3))), (k13, .inl (cI, 5, .inl (G 4))), (k14, .inl (cI, 5, .inl (mc))), (k15, .inl (cZ, 5, .inl (G 5))), (k16, .inl (cI, 200, .inl (N 0))), (k17, .inl (cI, 200, .inl (N 1))), (k18, .inl (cI, 200, .inl (N 2))), (k19, .inl (cI, 200, .inl (N 3))), (k20, .inl (cI, 200, .inl (N 4))), (k21, .inl (cI, 20, .inl (B 0))), (k22, .inl (cI, 20, .inl (B 1))), (k23, .inl (cI, 20, .inl (B 2))), (k24, .inl (cI, 20, .inl (B 3))), (k25, .inl (cI, 1200, .inl (fl 6 (eaddT ne E 3 (nI a_) nm a b td))))]) ⟨hx, hb, hml, hown, hts⟩ (kX5_writes l D cI cZ o5 k6 k7 k8 k9 k10 k11 k12 k13 k14 k15 k16 k17 k18 k19 k20 k21 k22 k23 k24 k25 np nh nn nb ne td P G N B E mc 3 (nI a_) nm a b (hlt)) (cwV 5 hts gX5_back_X5_writes rfl rfl rfl (by decide +kernel) ⟨Nat.le_of_ble_eq_true rfl, Nat.le_of_ble_eq_true rfl⟩) hK hP hD hS rfl rfl rfl rfl rfl hl.1 rfl (Nat.le_of_ble_eq_true rfl) ⟨Nat.zero_le _, Nat.zero_le _⟩ dX5_back_135 (fun H locs hP hD hS => ?_)
                refine W.eq (g2 := F0 mm 138 ls []) rfl ?_
                refine lv_iload hx hb dX5_back_138 (lv_at hl 0 rfl) ?_
                refine lv_if_eq (tgt := 157) hx hb dX5_back_140 (by decide) (fun _ => ?_) (fun c9 => absurd c9 (by decide))
                refine lv_iconst (v := (-1)) hx hb dX5_back_157 (by decide) ?_
                refine mu_iret hx hb hr hlocks hS dX5_back_158 ?_ ?_
                · rw [if_pos (by simp [okB, c_5, c_15, c_26, c_37, hlt]), show bkR np nh nn P G N (nI a_) nm rs a b = -1 by rw [bkR, if_neg (by simp [alw, c_70])]]
                have q0 : (nI (if okB nh ne (nI a_) rs a b = true then adn 200 ne else ne)) = (nI (adn 200 ne)) := by rw [if_pos (by simp [okB, c_5, c_15, c_26, c_37, hlt])]
                have q1 : (fl 6 (if okB nh ne (nI a_) rs a b = true then eaddT ne E (if bkR np nh nn P G N (nI a_) nm rs a b = -1 then 3 else 1) (nI a_) nm a b td else E)) = (fl 6 (eaddT ne E 3 (nI a_) nm a b td)) := by rw [if_pos (by simp [okB, c_5, c_15, c_26, c_37, hlt]), show bkR np nh nn P G N (nI a_) nm rs a b = -1 by rw [bkR, if_neg (by simp [alw, c_70])], if_pos rfl]
                rw [q0, q1]
                exact hP
              · skip
                refine lv_aload_n hx hb dX5_back_73 rfl (lv_at hl 1 rfl) ?_
                refine va_get (D := D) (ci := 5) (v := .ref k12) (C := RX5) (T := TX5) (N := 26) hx hb hts hin5 hown hK hP 0 rfl rfl 12 (by decide) hf29 (fun _ h9 => h9) rfl dX5_back_74 ?_
                refine lv_iload_n hx hb dX5_back_77 rfl (lv_at hl 2 rfl) ?_
                refine va_ialdN (D := D) (cl := vwCl) (cA := cI) (f := G 3) hx hb hK hP 7 0 rfl rfl a_ (rfl) (by omega) (by first | decide | assumption) dX5_back_78 ?_
                refine lv_iload_n hx hb dX5_back_79 rfl (lv_at hl 4 rfl) ?_
                refine lv_ishr hx hb dX5_back_80 ?_
                refine lv_iconst (v := 1) hx hb dX5_back_81 (by decide) ?_
                refine lv_iand hx hb dX5_back_82 ?_
                refine lv_iconst (v := 1) hx hb dX5_back_83 (by decide) ?_
                refine lv_icmp_ne (tgt := 115) hx hb dX5_back_84 (by decide) (fun c_84 => ?_) (fun c_84 => ?_)
                · skip
                  refine lv_iconst (v := 0) hx hb dX5_back_115 (by decide) ?_
                  refine lv_istore (lv' := [(7, .int 0), (6, .int ((nI i))), (0, .ref o5), (1, .int ((nI a_))), (2, .int nm), (3, .int rs), (4, .int a), (5, .int b)]) hx hb dX5_back_116 hl (by decide) rfl (fun ls hl => ?_)
                  refine lv_aload_n hx hb dX5_back_118 rfl (lv_at hl 2 rfl) ?_
                  refine lv_iload hx hb dX5_back_119 (lv_at hl 0 rfl) ?_
                  refine lv_if_eq (tgt := 128) hx hb dX5_back_121 (by decide) (fun _ => ?_) (fun c9 => absurd c9 (by decide))
                  refine lv_iconst (v := 3) hx hb dX5_back_128 (by decide) ?_
                  refine lv_iload_n hx hb dX5_back_129 rfl (lv_at hl 3 rfl) ?_
                  refine lv_iload_n hx hb dX5_back_130 rfl (lv_at hl 4 rfl) ?_
                  refine lv_iload hx hb dX5_back_131 (lv_at hl 6 rfl) ?_
                  refine lv_iload hx hb dX5_back_133 (lv_at hl 7 rfl) ?_
                  refine mcVw (As := [.int 3, .int ((nI a_)), .int nm, .int a, .int b]) (rest := []) (ci := 5) (wn := [(o5, .inr (5, [.int (nI np), .int (nI nh), .int td, .int (nI nn), .int (nI nb), .int (nI (adn 200 ne)), .ref k6, .ref k7, .ref k8, .ref k9, .ref k10, .ref k11, .ref k12, .ref k13, .ref k14, .ref k15, .ref k16, .ref k17, .ref k18, .ref k19, .ref k20, .ref k21, .ref k22, .ref k23, .ref k24, .ref k25])), (k6, .inl (cI, 96, .inl (fl 4 P))), (k7, .inl (cI, 24, .inl (P 4))), (k8, .inl (cZ, 24, .inl (P 5))), (k9, .inl (cI, 5, .inl (G 0))), (k10, .inl (cI, 5, .inl (G 1))), (k11, .inl (cI, 5, .inl (G 2))), (k12, .inl (cI, 5, .inl (G 3))), (k13, .inl (cI, 5, .inl (G 4))), (k14, .inl (cI, 5, .inl (mc))), (k15, .inl (cZ, 5, .inl (G 5))), (k16, .inl (cI, 200, .inl (N 0))), (k17, .inl (cI, 200, .inl (N 1))), (k18, .inl (cI, 200, .inl (N 2))), (k19, .inl (cI, 200, .inl (N 3))), (k20, .inl (cI, 200, .inl (N 4))), (k21, .inl (cI, 20, .inl (B 0))), (k22, .inl (cI, 20, .inl (B 1))), (k23, .inl (cI, 20, .inl (B 2))), (k24, .inl (cI, 20, .inl (B 3))), (k25, .inl (cI, 1200, .inl (fl 6 (eaddT ne E 3 (nI a_) nm a b td))))]) ⟨hx, hb, hml, hown, hts⟩ (kX5_writes l D cI cZ o5 k6 k7 k8 k9 k10 k11 k12 k13 k14 k15 k16 k17 k18 k19 k20 k21 k22 k23 k24 k25 np nh nn nb ne td P G N B E mc 3 (nI a_) nm a b (hlt)) (cwV 5 hts gX5_back_X5_writes rfl rfl rfl (by decide +kernel) ⟨Nat.le_of_ble_eq_true rfl, Nat.le_of_ble_eq_true rfl⟩) hK hP hD hS rfl rfl rfl rfl rfl hl.1 rfl (Nat.le_of_ble_eq_true rfl) ⟨Nat.zero_le _, Nat.zero_le _⟩ dX5_back_135 (fun H locs hP hD hS => ?_)
                  refine W.eq (g2 := F0 mm 138 ls []) rfl ?_
                  refine lv_iload hx hb dX5_back_138 (lv_at hl 0 rfl) ?_
                  refine lv_if_eq (tgt := 157) hx hb dX5_back_140 (by decide) (fun _ => ?_) (fun c9 => absurd c9 (by decide))
                  refine lv_iconst (v := (-1)) hx hb dX5_back_157 (by decide) ?_
                  refine mu_iret hx hb hr hlocks hS dX5_back_158 ?_ ?_
                  · rw [if_pos (by simp [okB, c_5, c_15, c_26, c_37, hlt]), show bkR np nh nn P G N (nI a_) nm rs a b = -1 by rw [bkR, if_neg (by simp [alw, isAm, t3, c_84])]]
                  have q0 : (nI (if okB nh ne (nI a_) rs a b = true then adn 200 ne else ne)) = (nI (adn 200 ne)) := by rw [if_pos (by simp [okB, c_5, c_15, c_26, c_37, hlt])]
                  have q1 : (fl 6 (if okB nh ne (nI a_) rs a b = true then eaddT ne E (if bkR np nh nn P G N (nI a_) nm rs a b = -1 then 3 else 1) (nI a_) nm a b td else E)) = (fl 6 (eaddT ne E 3 (nI a_) nm a b td)) := by rw [if_pos (by simp [okB, c_5, c_15, c_26, c_37, hlt]), show bkR np nh nn P G N (nI a_) nm rs a b = -1 by rw [bkR, if_neg (by simp [alw, isAm, t3, c_84])], if_pos rfl]
                  rw [q0, q1]
                  exact hP
                · skip
                  refine lv_aload_n hx hb dX5_back_87 rfl (lv_at hl 1 rfl) ?_
                  refine va_get (D := D) (ci := 5) (v := .ref k15) (C := RX5) (T := TX5) (N := 26) hx hb hts hin5 hown hK hP 0 rfl rfl 15 (by decide) hf38 (fun _ h9 => h9) rfl dX5_back_88 ?_
                  refine lv_iload_n hx hb dX5_back_91 rfl (lv_at hl 2 rfl) ?_
                  refine va_zaldN (D := D) (cl := vwCl) (cA := cZ) (f := G 5) hx hb hK hP 10 1 rfl rfl a_ (rfl) (by omega) (by first | decide | assumption) dX5_back_92 ?_
                  refine lv_if_ne (tgt := 115) hx hb dX5_back_93 (by decide) (fun c_93 => ?_) (fun c_93 => ?_)
                  · skip
                    have c_93 : G 5 a_ = 1 := (hg a_ ha_).2.2.resolve_left c_93
                    refine lv_iconst (v := 0) hx hb dX5_back_115 (by decide) ?_
                    refine lv_istore (lv' := [(7, .int 0), (6, .int ((nI i))), (0, .ref o5), (1, .int ((nI a_))), (2, .int nm), (3, .int rs), (4, .int a), (5, .int b)]) hx hb dX5_back_116 hl (by decide) rfl (fun ls hl => ?_)
                    refine lv_aload_n hx hb dX5_back_118 rfl (lv_at hl 2 rfl) ?_
                    refine lv_iload hx hb dX5_back_119 (lv_at hl 0 rfl) ?_
                    refine lv_if_eq (tgt := 128) hx hb dX5_back_121 (by decide) (fun _ => ?_) (fun c9 => absurd c9 (by decide))
                    refine lv_iconst (v := 3) hx hb dX5_back_128 (by decide) ?_
                    refine lv_iload_n hx hb dX5_back_129 rfl (lv_at hl 3 rfl) ?_
                    refine lv_iload_n hx hb dX5_back_130 rfl (lv_at hl 4 rfl) ?_
                    refine lv_iload hx hb dX5_back_131 (lv_at hl 6 rfl) ?_
                    refine lv_iload hx hb dX5_back_133 (lv_at hl 7 rfl) ?_
                    refine mcVw (As := [.int 3, .int ((nI a_)), .int nm, .int a, .int b]) (rest := []) (ci := 5) (wn := [(o5, .inr (5, [.int (nI np), .int (nI nh), .int td, .int (nI nn), .int (nI nb), .int (nI (adn 200 ne)), .ref k6, .ref k7, .ref k8, .ref k9, .ref k10, .ref k11, .ref k12, .ref k13, .ref k14, .ref k15, .ref k16, .ref k17, .ref k18, .ref k19, .ref k20, .ref k21, .ref k22, .ref k23, .ref k24, .ref k25])), (k6, .inl (cI, 96, .inl (fl 4 P))), (k7, .inl (cI, 24, .inl (P 4))), (k8, .inl (cZ, 24, .inl (P 5))), (k9, .inl (cI, 5, .inl (G 0))), (k10, .inl (cI, 5, .inl (G 1))), (k11, .inl (cI, 5, .inl (G 2))), (k12, .inl (cI, 5, .inl (G 3))), (k13, .inl (cI, 5, .inl (G 4))), (k14, .inl (cI, 5, .inl (mc))), (k15, .inl (cZ, 5, .inl (G 5))), (k16, .inl (cI, 200, .inl (N 0))), (k17, .inl (cI, 200, .inl (N 1))), (k18, .inl (cI, 200, .inl (N 2))), (k19, .inl (cI, 200, .inl (N 3))), (k20, .inl (cI, 200, .inl (N 4))), (k21, .inl (cI, 20, .inl (B 0))), (k22, .inl (cI, 20, .inl (B 1))), (k23, .inl (cI, 20, .inl (B 2))), (k24, .inl (cI, 20, .inl (B 3))), (k25, .inl (cI, 1200, .inl (fl 6 (eaddT ne E 3 (nI a_) nm a b td))))]) ⟨hx, hb, hml, hown, hts⟩ (kX5_writes l D cI cZ o5 k6 k7 k8 k9 k10 k11 k12 k13 k14 k15 k16 k17 k18 k19 k20 k21 k22 k23 k24 k25 np nh nn nb ne td P G N B E mc 3 (nI a_) nm a b (hlt)) (cwV 5 hts gX5_back_X5_writes rfl rfl rfl (by decide +kernel) ⟨Nat.le_of_ble_eq_true rfl, Nat.le_of_ble_eq_true rfl⟩) hK hP hD hS rfl rfl rfl rfl rfl hl.1 rfl (Nat.le_of_ble_eq_true rfl) ⟨Nat.zero_le _, Nat.zero_le _⟩ dX5_back_135 (fun H locs hP hD hS => ?_)
                    refine W.eq (g2 := F0 mm 138 ls []) rfl ?_
                    refine lv_iload hx hb dX5_back_138 (lv_at hl 0 rfl) ?_
                    refine lv_if_eq (tgt := 157) hx hb dX5_back_140 (by decide) (fun _ => ?_) (fun c9 => absurd c9 (by decide))
                    refine lv_iconst (v := (-1)) hx hb dX5_back_157 (by decide) ?_
                    refine mu_iret hx hb hr hlocks hS dX5_back_158 ?_ ?_
                    · rw [if_pos (by simp [okB, c_5, c_15, c_26, c_37, hlt]), show bkR np nh nn P G N (nI a_) nm rs a b = -1 by rw [bkR, if_neg (by simp [alw, t5, c_93])]]
                    have q0 : (nI (if okB nh ne (nI a_) rs a b = true then adn 200 ne else ne)) = (nI (adn 200 ne)) := by rw [if_pos (by simp [okB, c_5, c_15, c_26, c_37, hlt])]
                    have q1 : (fl 6 (if okB nh ne (nI a_) rs a b = true then eaddT ne E (if bkR np nh nn P G N (nI a_) nm rs a b = -1 then 3 else 1) (nI a_) nm a b td else E)) = (fl 6 (eaddT ne E 3 (nI a_) nm a b td)) := by rw [if_pos (by simp [okB, c_5, c_15, c_26, c_37, hlt]), show bkR np nh nn P G N (nI a_) nm rs a b = -1 by rw [bkR, if_neg (by simp [alw, t5, c_93])], if_pos rfl]
                    rw [q0, q1]
                    exact hP
                  · skip
                    refine lv_aload_n hx hb dX5_back_96 rfl (lv_at hl 1 rfl) ?_
                    refine va_get (D := D) (ci := 5) (v := .ref k8) (C := RX5) (T := TX5) (N := 26) hx hb hts hin5 hown hK hP 0 rfl rfl 8 (by decide) hf16 (fun _ h9 => h9) rfl dX5_back_97 ?_
                    refine lv_aload_n hx hb dX5_back_100 rfl (lv_at hl 1 rfl) ?_
                    refine va_get (D := D) (ci := 5) (v := .ref k18) (C := RX5) (T := TX5) (N := 26) hx hb hts hin5 hown hK hP 0 rfl rfl 18 (by decide) hf47 (fun _ h9 => h9) rfl dX5_back_101 ?_
                    refine lv_iload hx hb dX5_back_104 (lv_at hl 0 rfl) ?_
                    refine va_ialdN (D := D) (cl := vwCl) (cA := cI) (f := N 2) hx hb hK hP 13 0 rfl rfl i (rfl) (by omega) (by first | decide | assumption) dX5_back_106 ?_
                    rw [show ((N 2) i) = nI (ow N i) from (ho i hi2).1]
                    refine va_zaldN (D := D) (cl := vwCl) (cA := cZ) (f := P 5) hx hb hK hP 3 1 rfl rfl (ow N i) (rfl) (by omega) (by first | decide | assumption) dX5_back_107 ?_
                    refine lv_if_ne (tgt := 115) hx hb dX5_back_108 (by decide) (fun c_108 => ?_) (fun c_108 => ?_)
                    · skip
                      have hst := isSt_1 hnp hoi hs c_108
                      refine lv_iconst (v := 0) hx hb dX5_back_115 (by decide) ?_
                      refine lv_istore (lv' := [(7, .int 0), (6, .int ((nI i))), (0, .ref o5), (1, .int ((nI a_))), (2, .int nm), (3, .int rs), (4, .int a), (5, .int b)]) hx hb dX5_back_116 hl (by decide) rfl (fun ls hl => ?_)
                      refine lv_aload_n hx hb dX5_back_118 rfl (lv_at hl 2 rfl) ?_
                      refine lv_iload hx hb dX5_back_119 (lv_at hl 0 rfl) ?_
                      refine lv_if_eq (tgt := 128) hx hb dX5_back_121 (by decide) (fun _ => ?_) (fun c9 => absurd c9 (by decide))
                      refine lv_iconst (v := 3) hx hb dX5_back_128 (by decide) ?_
                      refine lv_iload_n hx hb dX5_back_129 rfl (lv_at hl 3 rfl) ?_
                      refine lv_iload_n hx hb dX5_back_130 rfl (lv_at hl 4 rfl) ?_
                      refine lv_iload hx hb dX5_back_131 (lv_at hl 6 rfl) ?_
                      refine lv_iload hx hb dX5_back_133 (lv_at hl 7 rfl) ?_
                      refine mcVw (As := [.int 3, .int ((nI a_)), .int nm, .int a, .int b]) (rest := []) (ci := 5) (wn := [(o5, .inr (5, [.int (nI np), .int (nI nh), .int td, .int (nI nn), .int (nI nb), .int (nI (adn 200 ne)), .ref k6, .ref k7, .ref k8, .ref k9, .ref k10, .ref k11, .ref k12, .ref k13, .ref k14, .ref k15, .ref k16, .ref k17, .ref k18, .ref k19, .ref k20, .ref k21, .ref k22, .ref k23, .ref k24, .ref k25])), (k6, .inl (cI, 96, .inl (fl 4 P))), (k7, .inl (cI, 24, .inl (P 4))), (k8, .inl (cZ, 24, .inl (P 5))), (k9, .inl (cI, 5, .inl (G 0))), (k10, .inl (cI, 5, .inl (G 1))), (k11, .inl (cI, 5, .inl (G 2))), (k12, .inl (cI, 5, .inl (G 3))), (k13, .inl (cI, 5, .inl (G 4))), (k14, .inl (cI, 5, .inl (mc))), (k15, .inl (cZ, 5, .inl (G 5))), (k16, .inl (cI, 200, .inl (N 0))), (k17, .inl (cI, 200, .inl (N 1))), (k18, .inl (cI, 200, .inl (N 2))), (k19, .inl (cI, 200, .inl (N 3))), (k20, .inl (cI, 200, .inl (N 4))), (k21, .inl (cI, 20, .inl (B 0))), (k22, .inl (cI, 20, .inl (B 1))), (k23, .inl (cI, 20, .inl (B 2))), (k24, .inl (cI, 20, .inl (B 3))), (k25, .inl (cI, 1200, .inl (fl 6 (eaddT ne E 3 (nI a_) nm a b td))))]) ⟨hx, hb, hml, hown, hts⟩ (kX5_writes l D cI cZ o5 k6 k7 k8 k9 k10 k11 k12 k13 k14 k15 k16 k17 k18 k19 k20 k21 k22 k23 k24 k25 np nh nn nb ne td P G N B E mc 3 (nI a_) nm a b (hlt)) (cwV 5 hts gX5_back_X5_writes rfl rfl rfl (by decide +kernel) ⟨Nat.le_of_ble_eq_true rfl, Nat.le_of_ble_eq_true rfl⟩) hK hP hD hS rfl rfl rfl rfl rfl hl.1 rfl (Nat.le_of_ble_eq_true rfl) ⟨Nat.zero_le _, Nat.zero_le _⟩ dX5_back_135 (fun H locs hP hD hS => ?_)
                      refine W.eq (g2 := F0 mm 138 ls []) rfl ?_
                      refine lv_iload hx hb dX5_back_138 (lv_at hl 0 rfl) ?_
                      refine lv_if_eq (tgt := 157) hx hb dX5_back_140 (by decide) (fun _ => ?_) (fun c9 => absurd c9 (by decide))
                      refine lv_iconst (v := (-1)) hx hb dX5_back_157 (by decide) ?_
                      refine mu_iret hx hb hr hlocks hS dX5_back_158 ?_ ?_
                      · rw [if_pos (by simp [okB, c_5, c_15, c_26, c_37, hlt]), show bkR np nh nn P G N (nI a_) nm rs a b = -1 by rw [bkR, show hbR np nn P N (nI a_) nm = -1 by rw [hbR, e, if_neg (m1_nI (by omega)), nI_clamp (by omega), if_pos (by simp [hst])]]; simp]
                      have q0 : (nI (if okB nh ne (nI a_) rs a b = true then adn 200 ne else ne)) = (nI (adn 200 ne)) := by rw [if_pos (by simp [okB, c_5, c_15, c_26, c_37, hlt])]
                      have q1 : (fl 6 (if okB nh ne (nI a_) rs a b = true then eaddT ne E (if bkR np nh nn P G N (nI a_) nm rs a b = -1 then 3 else 1) (nI a_) nm a b td else E)) = (fl 6 (eaddT ne E 3 (nI a_) nm a b td)) := by rw [if_pos (by simp [okB, c_5, c_15, c_26, c_37, hlt]), show bkR np nh nn P G N (nI a_) nm rs a b = -1 by rw [bkR, show hbR np nn P N (nI a_) nm = -1 by rw [hbR, e, if_neg (m1_nI (by omega)), nI_clamp (by omega), if_pos (by simp [hst])]]; simp, if_pos rfl]
                      rw [q0, q1]
                      exact hP
                    · skip
                      have hst := isSt_0 hnp hoi c_108
                      refine lv_iconst (v := 1) hx hb dX5_back_111 (by decide) ?_
                      refine lv_goto (tgt := 116) hx hb dX5_back_112 (by decide) ?_
                      refine lv_istore (lv' := [(7, .int 1), (6, .int ((nI i))), (0, .ref o5), (1, .int ((nI a_))), (2, .int nm), (3, .int rs), (4, .int a), (5, .int b)]) hx hb dX5_back_116 hl (by decide) rfl (fun ls hl => ?_)
                      refine lv_aload_n hx hb dX5_back_118 rfl (lv_at hl 2 rfl) ?_
                      refine lv_iload hx hb dX5_back_119 (lv_at hl 0 rfl) ?_
                      refine lv_if_eq (tgt := 128) hx hb dX5_back_121 (by decide) (fun c9 => absurd c9 (by decide)) (fun _ => ?_)
                      refine lv_iconst (v := 1) hx hb dX5_back_124 (by decide) ?_
                      refine lv_goto (tgt := 129) hx hb dX5_back_125 (by decide) ?_
                      refine lv_iload_n hx hb dX5_back_129 rfl (lv_at hl 3 rfl) ?_
                      refine lv_iload_n hx hb dX5_back_130 rfl (lv_at hl 4 rfl) ?_
                      refine lv_iload hx hb dX5_back_131 (lv_at hl 6 rfl) ?_
                      refine lv_iload hx hb dX5_back_133 (lv_at hl 7 rfl) ?_
                      refine mcVw (As := [.int 1, .int ((nI a_)), .int nm, .int a, .int b]) (rest := []) (ci := 5) (wn := [(o5, .inr (5, [.int (nI np), .int (nI nh), .int td, .int (nI nn), .int (nI nb), .int (nI (adn 200 ne)), .ref k6, .ref k7, .ref k8, .ref k9, .ref k10, .ref k11, .ref k12, .ref k13, .ref k14, .ref k15, .ref k16, .ref k17, .ref k18, .ref k19, .ref k20, .ref k21, .ref k22, .ref k23, .ref k24, .ref k25])), (k6, .inl (cI, 96, .inl (fl 4 P))), (k7, .inl (cI, 24, .inl (P 4))), (k8, .inl (cZ, 24, .inl (P 5))), (k9, .inl (cI, 5, .inl (G 0))), (k10, .inl (cI, 5, .inl (G 1))), (k11, .inl (cI, 5, .inl (G 2))), (k12, .inl (cI, 5, .inl (G 3))), (k13, .inl (cI, 5, .inl (G 4))), (k14, .inl (cI, 5, .inl (mc))), (k15, .inl (cZ, 5, .inl (G 5))), (k16, .inl (cI, 200, .inl (N 0))), (k17, .inl (cI, 200, .inl (N 1))), (k18, .inl (cI, 200, .inl (N 2))), (k19, .inl (cI, 200, .inl (N 3))), (k20, .inl (cI, 200, .inl (N 4))), (k21, .inl (cI, 20, .inl (B 0))), (k22, .inl (cI, 20, .inl (B 1))), (k23, .inl (cI, 20, .inl (B 2))), (k24, .inl (cI, 20, .inl (B 3))), (k25, .inl (cI, 1200, .inl (fl 6 (eaddT ne E 1 (nI a_) nm a b td))))]) ⟨hx, hb, hml, hown, hts⟩ (kX5_writes l D cI cZ o5 k6 k7 k8 k9 k10 k11 k12 k13 k14 k15 k16 k17 k18 k19 k20 k21 k22 k23 k24 k25 np nh nn nb ne td P G N B E mc 1 (nI a_) nm a b (hlt)) (cwV 5 hts gX5_back_X5_writes rfl rfl rfl (by decide +kernel) ⟨Nat.le_of_ble_eq_true rfl, Nat.le_of_ble_eq_true rfl⟩) hK hP hD hS rfl rfl rfl rfl rfl hl.1 rfl (Nat.le_of_ble_eq_true rfl) ⟨Nat.zero_le _, Nat.zero_le _⟩ dX5_back_135 (fun H locs hP hD hS => ?_)
                      refine W.eq (g2 := F0 mm 138 ls []) rfl ?_
                      refine lv_iload hx hb dX5_back_138 (lv_at hl 0 rfl) ?_
                      refine lv_if_eq (tgt := 157) hx hb dX5_back_140 (by decide) (fun c9 => absurd c9 (by decide)) (fun _ => ?_)
                      refine lv_aload_n hx hb dX5_back_143 rfl (lv_at hl 2 rfl) ?_
                      refine lv_aload_n hx hb dX5_back_144 rfl (lv_at hl 2 rfl) ?_
                      refine va_get (D := D) (ci := 5) (v := .ref k18) (C := RX5) (T := TX5) (N := 26) hx hb hts hin5 hown hK hP 0 rfl rfl 18 (by decide) hf47 (fun _ h9 => h9) rfl dX5_back_145 ?_
                      refine lv_iload hx hb dX5_back_148 (lv_at hl 1 rfl) ?_
                      refine va_ialdN (D := D) (cl := vwCl) (cA := cI) (f := N 2) hx hb hK hP 13 0 rfl rfl i (rfl) (by omega) (by first | decide | assumption) dX5_back_150 ?_
                      rw [show ((N 2) i) = nI (ow N i) from (ho i hi2).1]
                      refine rcVw (As := [.int (nI (ow N i))]) (rest := []) (ci := 5) ⟨hx, hb, hml, hown, hts⟩ (kX5_head l D cI cZ o5 k6 k7 k8 k9 k10 k11 k12 k13 k14 k15 k16 k17 k18 k19 k20 k21 k22 k23 k24 k25 np nh nn nb (adn 200 ne) td P G N B (eaddT ne E 1 (nI a_) nm a b td) mc (ow N i) (by first | assumption | omega) (by first | assumption | omega) (hoi)) (cwV 1 hts gX5_back_X5_head rfl rfl rfl (by decide +kernel) ⟨Nat.le_of_ble_eq_true rfl, Nat.le_of_ble_eq_true rfl⟩) hK hP rfl rfl rfl rfl hl.1 rfl (Nat.le_of_ble_eq_true rfl) ⟨Nat.zero_le _, Nat.zero_le _⟩ dX5_back_151 ?_
                      refine lv_goto (tgt := 158) hx hb dX5_back_154 (by decide) ?_
                      refine mu_iret hx hb hr hlocks hS dX5_back_158 ?_ ?_
                      · rw [if_pos (by simp [okB, c_5, c_15, c_26, c_37, hlt]), show bkR np nh nn P G N (nI a_) nm rs a b = nI (hd (P 4) (ow N i)) by rw [bkR, if_pos (by simp [alw, isAm, t3, t5, c_70, c_84, c_93]), hbR, e, if_neg (m1_nI (by omega)), nI_clamp (by omega), if_neg (by simp [hst])]]
                      have q0 : (nI (if okB nh ne (nI a_) rs a b = true then adn 200 ne else ne)) = (nI (adn 200 ne)) := by rw [if_pos (by simp [okB, c_5, c_15, c_26, c_37, hlt])]
                      have q1 : (fl 6 (if okB nh ne (nI a_) rs a b = true then eaddT ne E (if bkR np nh nn P G N (nI a_) nm rs a b = -1 then 3 else 1) (nI a_) nm a b td else E)) = (fl 6 (eaddT ne E 1 (nI a_) nm a b td)) := by rw [if_pos (by simp [okB, c_5, c_15, c_26, c_37, hlt]), show bkR np nh nn P G N (nI a_) nm rs a b = nI (hd (P 4) (ow N i)) by rw [bkR, if_pos (by simp [alw, isAm, t3, t5, c_70, c_84, c_93]), hbR, e, if_neg (m1_nI (by omega)), nI_clamp (by omega), if_neg (by simp [hst])], if_neg (m1_nI (by have := hd_lt hw hnp hoi; omega))]
                      rw [q0, q1]
                      exact hP
          · skip
            have hlt : ne = 200 := nI_inj (b := 200) (by omega) (by omega) c_47
            refine lv_iconst (v := (-1)) hx hb dX5_back_50 (by decide) ?_
            refine mu_iret hx hb hr hlocks hS dX5_back_51 ?_ ?_
            · rw [if_neg (by simp [okB, hlt])]
            have q0 : (nI (if okB nh ne (nI a_) rs a b = true then adn 200 ne else ne)) = (nI ne) := by rw [if_neg (by simp [okB, hlt])]
            have q1 : (fl 6 (if okB nh ne (nI a_) rs a b = true then eaddT ne E (if bkR np nh nn P G N (nI a_) nm rs a b = -1 then 3 else 1) (nI a_) nm a b td else E)) = (fl 6 E) := by rw [if_neg (by simp [okB, hlt])]
            rw [q0, q1]
            exact hP
