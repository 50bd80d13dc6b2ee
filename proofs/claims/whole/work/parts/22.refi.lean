set_option maxHeartbeats 4000000 in
set_option maxRecDepth 100000 in
theorem kX5_lose (l : Launch) (D : va_G) (cI cZ : ClassId) (o5 k6 k7 k8 k9 k10 k11 k12 k13 k14 k15 k16 k17 k18 k19 k20 k21 k22 k23 k24 k25 np nh nn nb ne : Nat) (td : Int32) (P G N B E : Nat → Nat → Int32) (mc : Nat → Int32) (h : Int32) (hnh : nh ≤ 5) (hg : ∀ h, h < nh → GH G h) : Met l yX5_lose wsX5_lose ({ frames := 1, cells := 0, slots := 0, locals := 21 } : Room) (MuP D [(cI, .int), (cZ, .boolean)] [.ref o5, .int h] [(o5, .inr (5, [.int (nI np), .int (nI nh), .int td, .int (nI nn), .int (nI nb), .int (nI ne), .ref k6, .ref k7, .ref k8, .ref k9, .ref k10, .ref k11, .ref k12, .ref k13, .ref k14, .ref k15, .ref k16, .ref k17, .ref k18, .ref k19, .ref k20, .ref k21, .ref k22, .ref k23, .ref k24, .ref k25])), (k6, .inl (cI, 96, .inl (fl 4 P))), (k7, .inl (cI, 24, .inl (P 4))), (k8, .inl (cZ, 24, .inl (P 5))), (k9, .inl (cI, 5, .inl (G 0))), (k10, .inl (cI, 5, .inl (G 1))), (k11, .inl (cI, 5, .inl (G 2))), (k12, .inl (cI, 5, .inl (G 3))), (k13, .inl (cI, 5, .inl (G 4))), (k14, .inl (cI, 5, .inl (mc))), (k15, .inl (cZ, 5, .inl (G 5))), (k16, .inl (cI, 200, .inl (N 0))), (k17, .inl (cI, 200, .inl (N 1))), (k18, .inl (cI, 200, .inl (N 2))), (k19, .inl (cI, 200, .inl (N 3))), (k20, .inl (cI, 200, .inl (N 4))), (k21, .inl (cI, 20, .inl (B 0))), (k22, .inl (cI, 20, .inl (B 1))), (k23, .inl (cI, 20, .inl (B 2))), (k24, .inl (cI, 20, .inl (B 3))), (k25, .inl (cI, 1200, .inl (fl 6 E)))]) (QM D (some (.int (bI (inR nh h && !decide (tat nh 6 G h 5 = 1))))) [(o5, .inr (5, [.int (nI np), .int (nI nh), .int td, .int (nI nn), .int (nI nb), .int (nI ne), .ref k6, .ref k7, .ref k8, .ref k9, .ref k10, .ref k11, .ref k12, .ref k13, .ref k14, .ref k15, .ref k16, .ref k17, .ref k18, .ref k19, .ref k20, .ref k21, .ref k22, .ref k23, .ref k24, .ref k25])), (k6, .inl (cI, 96, .inl (fl 4 P))), (k7, .inl (cI, 24, .inl (P 4))), (k8, .inl (cZ, 24, .inl (P 5))), (k9, .inl (cI, 5, .inl (G 0))), (k10, .inl (cI, 5, .inl (G 1))), (k11, .inl (cI, 5, .inl (G 2))), (k12, .inl (cI, 5, .inl (G 3))), (k13, .inl (cI, 5, .inl (G 4))), (k14, .inl (cI, 5, .inl (mc))), (k15, .inl (cZ, 5, .inl (G 5))), (k16, .inl (cI, 200, .inl (N 0))), (k17, .inl (cI, 200, .inl (N 1))), (k18, .inl (cI, 200, .inl (N 2))), (k19, .inl (cI, 200, .inl (N 3))), (k20, .inl (cI, 200, .inl (N 4))), (k21, .inl (cI, 20, .inl (B 0))), (k22, .inl (cI, 20, .inl (B 1))), (k23, .inl (cI, 20, .inl (B 2))), (k24, .inl (cI, 20, .inl (B 3))), (k25, .inl (cI, 1200, .inl (fl 6 E)))] [(o5, .inr (5, [.int (nI np), .int (nI nh), .int td, .int (nI nn), .int (nI nb), .int (nI ne), .ref k6, .ref k7, .ref k8, .ref k9, .ref k10, .ref k11, .ref k12, .ref k13, .ref k14, .ref k15, .ref k16, .ref k17, .ref k18, .ref k19, .ref k20, .ref k21, .ref k22, .ref k23, .ref k24, .ref k25])), (k6, .inl (cI, 96, .inl (fl 4 P))), (k7, .inl (cI, 24, .inl (P 4))), (k8, .inl (cZ, 24, .inl (P 5))), (k9, .inl (cI, 5, .inl ((if (inR nh h && !decide (tat nh 6 G h 5 = 1)) = true then tput nh 6 G h 5 1 else G) 0))), (k10, .inl (cI, 5, .inl ((if (inR nh h && !decide (tat nh 6 G h 5 = 1)) = true then tput nh 6 G h 5 1 else G) 1))), (k11, .inl (cI, 5, .inl ((if (inR nh h && !decide (tat nh 6 G h 5 = 1)) = true then tput nh 6 G h 5 1 else G) 2))), (k12, .inl (cI, 5, .inl ((if (inR nh h && !decide (tat nh 6 G h 5 = 1)) = true then tput nh 6 G h 5 1 else G) 3))), (k13, .inl (cI, 5, .inl ((if (inR nh h && !decide (tat nh 6 G h 5 = 1)) = true then tput nh 6 G h 5 1 else G) 4))), (k14, .inl (cI, 5, .inl (mc))), (k15, .inl (cZ, 5, .inl ((if (inR nh h && !decide (tat nh 6 G h 5 = 1)) = true then tput nh 6 G h 5 1 else G) 5))), (k16, .inl (cI, 200, .inl (N 0))), (k17, .inl (cI, 200, .inl (N 1))), (k18, .inl (cI, 200, .inl (N 2))), (k19, .inl (cI, 200, .inl (N 3))), (k20, .inl (cI, 200, .inl (N 4))), (k21, .inl (cI, 20, .inl (B 0))), (k22, .inl (cI, 20, .inl (B 1))), (k23, .inl (cI, 20, .inl (B 2))), (k24, .inl (cI, 20, .inl (B 3))), (k25, .inl (cI, 1200, .inl (fl 6 E)))]) 0 0 (adr [(o5, .inr (5, [.int (nI np), .int (nI nh), .int td, .int (nI nn), .int (nI nb), .int (nI ne), .ref k6, .ref k7, .ref k8, .ref k9, .ref k10, .ref k11, .ref k12, .ref k13, .ref k14, .ref k15, .ref k16, .ref k17, .ref k18, .ref k19, .ref k20, .ref k21, .ref k22, .ref k23, .ref k24, .ref k25])), (k6, .inl (cI, 96, .inl (fl 4 P))), (k7, .inl (cI, 24, .inl (P 4))), (k8, .inl (cZ, 24, .inl (P 5))), (k9, .inl (cI, 5, .inl (G 0))), (k10, .inl (cI, 5, .inl (G 1))), (k11, .inl (cI, 5, .inl (G 2))), (k12, .inl (cI, 5, .inl (G 3))), (k13, .inl (cI, 5, .inl (G 4))), (k14, .inl (cI, 5, .inl (mc))), (k15, .inl (cZ, 5, .inl (G 5))), (k16, .inl (cI, 200, .inl (N 0))), (k17, .inl (cI, 200, .inl (N 1))), (k18, .inl (cI, 200, .inl (N 2))), (k19, .inl (cI, 200, .inl (N 3))), (k20, .inl (cI, 200, .inl (N 4))), (k21, .inl (cI, 20, .inl (B 0))), (k22, .inl (cI, 20, .inl (B 1))), (k23, .inl (cI, 20, .inl (B 2))), (k24, .inl (cI, 20, .inl (B 3))), (k25, .inl (cI, 1200, .inl (fl 6 E)))]) := by
  refine mu_of (cc := cX5_lose) (maxL := 2) (ret := (some .boolean)) (by decide) rfl (Nat.le_of_ble_eq_true rfl) ?_
  intro pp ee ss mm bw me cd ls hx hb hr hts hown hlocks hml hK hl H locs hP hD hS
  have hl : lv_has ls 2 [(0, .ref o5), (1, .int h)] := hl
  have hf38 := hts (.fieldLink RX5 38 "OtherNamesModel" "isLost" "[Z") (by decide +kernel)
  have hin5 := (show ∀ w ∈ wsX50, w ∈ wsX5_lose by decide +kernel)
  refine lv_aload_n hx hb dX5_lose_0 rfl (lv_at hl 0 rfl) ?_
  refine lv_iload_n hx hb dX5_lose_1 rfl (lv_at hl 1 rfl) ?_
  refine rcVw (As := [.int h]) (rest := []) (ci := 5) ⟨hx, hb, hml, hown, hts⟩ (kX5_isHouse l D cI cZ o5 k6 k7 k8 k9 k10 k11 k12 k13 k14 k15 k16 k17 k18 k19 k20 k21 k22 k23 k24 k25 np nh nn nb ne td P G N B E mc h) (cwV 1 hts gX5_lose_X5_isHouse rfl rfl rfl (by decide +kernel) ⟨Nat.le_of_ble_eq_true rfl, Nat.le_of_ble_eq_true rfl⟩) hK hP rfl rfl rfl rfl hl.1 rfl (Nat.le_of_ble_eq_true rfl) ⟨Nat.zero_le _, Nat.zero_le _⟩ dX5_lose_2 ?_
  refine lb_eq (tgt := 17) hx hb dX5_lose_5 (by decide) (fun c_5 => ?_) (fun c_5 => ?_)
  · skip
    refine lv_iconst (v := 0) hx hb dX5_lose_17 (by decide) ?_
    refine mu_zret hx hb hr hlocks hS dX5_lose_18 ?_ ?_
    · simp [bI, c_5]
    have q0 : ((if (inR nh h && !decide (tat nh 6 G h 5 = 1)) = true then tput nh 6 G h 5 1 else G) 0) = (G 0) := by rw [if_neg (by simp [c_5])]
    have q1 : ((if (inR nh h && !decide (tat nh 6 G h 5 = 1)) = true then tput nh 6 G h 5 1 else G) 1) = (G 1) := by rw [if_neg (by simp [c_5])]
    have q2 : ((if (inR nh h && !decide (tat nh 6 G h 5 = 1)) = true then tput nh 6 G h 5 1 else G) 2) = (G 2) := by rw [if_neg (by simp [c_5])]
    have q3 : ((if (inR nh h && !decide (tat nh 6 G h 5 = 1)) = true then tput nh 6 G h 5 1 else G) 3) = (G 3) := by rw [if_neg (by simp [c_5])]
    have q4 : ((if (inR nh h && !decide (tat nh 6 G h 5 = 1)) = true then tput nh 6 G h 5 1 else G) 4) = (G 4) := by rw [if_neg (by simp [c_5])]
    have q5 : ((if (inR nh h && !decide (tat nh 6 G h 5 = 1)) = true then tput nh 6 G h 5 1 else G) 5) = (G 5) := by rw [if_neg (by simp [c_5])]
    rw [q0, q1, q2, q3, q4, q5]
    exact hP
  · skip
    obtain ⟨j, hj, rfl⟩ := inR_ex c_5 (by omega)
    have t5 : tat nh 6 G (nI j) 5 = G 5 j := tatG (c := 5) hnh hj (by omega)
    have u5 : ∀ v, tput nh 6 G (nI j) 5 v = up2 G 5 j v := fun v => tput_nI (c := 5) (by omega) (by omega) hj (by omega)
    refine lv_aload_n hx hb dX5_lose_8 rfl (lv_at hl 0 rfl) ?_
    refine va_get (D := D) (ci := 5) (v := .ref k15) (C := RX5) (T := TX5) (N := 26) hx hb hts hin5 hown hK hP 0 rfl rfl 15 (by decide) hf38 (fun _ h9 => h9) rfl dX5_lose_9 ?_
    refine lv_iload_n hx hb dX5_lose_12 rfl (lv_at hl 1 rfl) ?_
    refine va_zaldN (D := D) (cl := vwCl) (cA := cZ) (f := G 5) hx hb hK hP 10 1 rfl rfl j (rfl) (by omega) (by first | decide | assumption) dX5_lose_13 ?_
    refine lv_if_eq (tgt := 19) hx hb dX5_lose_14 (by decide) (fun c_14 => ?_) (fun c_14 => ?_)
    · skip
      refine lv_aload_n hx hb dX5_lose_19 rfl (lv_at hl 0 rfl) ?_
      refine va_get (D := D) (ci := 5) (v := .ref k15) (C := RX5) (T := TX5) (N := 26) hx hb hts hin5 hown hK hP 0 rfl rfl 15 (by decide) hf38 (fun _ h9 => h9) rfl dX5_lose_20 ?_
      refine lv_iload_n hx hb dX5_lose_23 rfl (lv_at hl 1 rfl) ?_
      refine lv_iconst (v := 1) hx hb dX5_lose_24 (by decide) ?_
      refine va_zastN (D := D) (cl := vwCl) (cA := cZ) (f := G 5) (x := 1) hx hb hK hP hD hS 10 1 rfl rfl j (rfl) (by omega) (by first | decide | assumption) (by decide) dX5_lose_25 (fun H locs hP hD hS => ?_)
      have hP : va_P D vwCl [(o5, .inr (5, [.int (nI np), .int (nI nh), .int td, .int (nI nn), .int (nI nb), .int (nI ne), .ref k6, .ref k7, .ref k8, .ref k9, .ref k10, .ref k11, .ref k12, .ref k13, .ref k14, .ref k15, .ref k16, .ref k17, .ref k18, .ref k19, .ref k20, .ref k21, .ref k22, .ref k23, .ref k24, .ref k25])), (k6, .inl (cI, 96, .inl (fl 4 P))), (k7, .inl (cI, 24, .inl (P 4))), (k8, .inl (cZ, 24, .inl (P 5))), (k9, .inl (cI, 5, .inl (G 0))), (k10, .inl (cI, 5, .inl (G 1))), (k11, .inl (cI, 5, .inl (G 2))), (k12, .inl (cI, 5, .inl (G 3))), (k13, .inl (cI, 5, .inl (G 4))), (k14, .inl (cI, 5, .inl (mc))), (k15, .inl (cZ, 5, .inl (upd (G 5) j 1))), (k16, .inl (cI, 200, .inl (N 0))), (k17, .inl (cI, 200, .inl (N 1))), (k18, .inl (cI, 200, .inl (N 2))), (k19, .inl (cI, 200, .inl (N 3))), (k20, .inl (cI, 200, .inl (N 4))), (k21, .inl (cI, 20, .inl (B 0))), (k22, .inl (cI, 20, .inl (B 1))), (k23, .inl (cI, 20, .inl (B 2))), (k24, .inl (cI, 20, .inl (B 3))), (k25, .inl (cI, 1200, .inl (fl 6 E)))] H := hP
      have hD : va_D (adr _) [(o5, .inr (5, [.int (nI np), .int (nI nh), .int td, .int (nI nn), .int (nI nb), .int (nI ne), .ref k6, .ref k7, .ref k8, .ref k9, .ref k10, .ref k11, .ref k12, .ref k13, .ref k14, .ref k15, .ref k16, .ref k17, .ref k18, .ref k19, .ref k20, .ref k21, .ref k22, .ref k23, .ref k24, .ref k25])), (k6, .inl (cI, 96, .inl (fl 4 P))), (k7, .inl (cI, 24, .inl (P 4))), (k8, .inl (cZ, 24, .inl (P 5))), (k9, .inl (cI, 5, .inl (G 0))), (k10, .inl (cI, 5, .inl (G 1))), (k11, .inl (cI, 5, .inl (G 2))), (k12, .inl (cI, 5, .inl (G 3))), (k13, .inl (cI, 5, .inl (G 4))), (k14, .inl (cI, 5, .inl (mc))), (k15, .inl (cZ, 5, .inl (upd (G 5) j 1))), (k16, .inl (cI, 200, .inl (N 0))), (k17, .inl (cI, 200, .inl (N 1))), (k18, .inl (cI, 200, .inl (N 2))), (k19, .inl (cI, 200, .inl (N 3))), (k20, .inl (cI, 200, .inl (N 4))), (k21, .inl (cI, 20, .inl (B 0))), (k22, .inl (cI, 20, .inl (B 1))), (k23, .inl (cI, 20, .inl (B 2))), (k24, .inl (cI, 20, .inl (B 3))), (k25, .inl (cI, 1200, .inl (fl 6 E)))] := hD
      refine lv_iconst (v := 1) hx hb dX5_lose_26 (by decide) ?_
      refine mu_zret hx hb hr hlocks hS dX5_lose_27 ?_ ?_
      · simp [bI, c_5, t5, c_14]
      have q0 : ((if (inR nh (nI j) && !decide (tat nh 6 G (nI j) 5 = 1)) = true then tput nh 6 G (nI j) 5 1 else G) 0) = (G 0) := by rw [if_pos (by simp [c_5, t5, c_14]), u5]; rfl
      have q1 : ((if (inR nh (nI j) && !decide (tat nh 6 G (nI j) 5 = 1)) = true then tput nh 6 G (nI j) 5 1 else G) 1) = (G 1) := by rw [if_pos (by simp [c_5, t5, c_14]), u5]; rfl
      have q2 : ((if (inR nh (nI j) && !decide (tat nh 6 G (nI j) 5 = 1)) = true then tput nh 6 G (nI j) 5 1 else G) 2) = (G 2) := by rw [if_pos (by simp [c_5, t5, c_14]), u5]; rfl
      have q3 : ((if (inR nh (nI j) && !decide (tat nh 6 G (nI j) 5 = 1)) = true then tput nh 6 G (nI j) 5 1 else G) 3) = (G 3) := by rw [if_pos (by simp [c_5, t5, c_14]), u5]; rfl
      have q4 : ((if (inR nh (nI j) && !decide (tat nh 6 G (nI j) 5 = 1)) = true then tput nh 6 G (nI j) 5 1 else G) 4) = (G 4) := by rw [if_pos (by simp [c_5, t5, c_14]), u5]; rfl
      have q5 : ((if (inR nh (nI j) && !decide (tat nh 6 G (nI j) 5 = 1)) = true then tput nh 6 G (nI j) 5 1 else G) 5) = (upd (G 5) j 1) := by rw [if_pos (by simp [c_5, t5, c_14]), u5]; rfl
      rw [q0, q1, q2, q3, q4, q5]
      exact hP
    · skip
      have c_14 : G 5 j = 1 := (hg j hj).2.2.resolve_left c_14
      refine lv_iconst (v := 0) hx hb dX5_lose_17 (by decide) ?_
      refine mu_zret hx hb hr hlocks hS dX5_lose_18 ?_ ?_
      · simp [bI, c_5, t5, c_14]
      have q0 : ((if (inR nh (nI j) && !decide (tat nh 6 G (nI j) 5 = 1)) = true then tput nh 6 G (nI j) 5 1 else G) 0) = (G 0) := by rw [if_neg (by simp [c_5, t5, c_14])]
      have q1 : ((if (inR nh (nI j) && !decide (tat nh 6 G (nI j) 5 = 1)) = true then tput nh 6 G (nI j) 5 1 else G) 1) = (G 1) := by rw [if_neg (by simp [c_5, t5, c_14])]
      have q2 : ((if (inR nh (nI j) && !decide (tat nh 6 G (nI j) 5 = 1)) = true then tput nh 6 G (nI j) 5 1 else G) 2) = (G 2) := by rw [if_neg (by simp [c_5, t5, c_14])]
      have q3 : ((if (inR nh (nI j) && !decide (tat nh 6 G (nI j) 5 = 1)) = true then tput nh 6 G (nI j) 5 1 else G) 3) = (G 3) := by rw [if_neg (by simp [c_5, t5, c_14])]
      have q4 : ((if (inR nh (nI j) && !decide (tat nh 6 G (nI j) 5 = 1)) = true then tput nh 6 G (nI j) 5 1 else G) 4) = (G 4) := by rw [if_neg (by simp [c_5, t5, c_14])]
      have q5 : ((if (inR nh (nI j) && !decide (tat nh 6 G (nI j) 5 = 1)) = true then tput nh 6 G (nI j) 5 1 else G) 5) = (G 5) := by rw [if_neg (by simp [c_5, t5, c_14])]
      rw [q0, q1, q2, q3, q4, q5]
      exact hP
set_option maxHeartbeats 4000000 in
set_option maxRecDepth 100000 in
theorem kX5_anew (l : Launch) (D : va_G) (cI cZ : ClassId) (o5 k6 k7 k8 k9 k10 k11 k12 k13 k14 k15 k16 k17 k18 k19 k20 k21 k22 k23 k24 k25 np nh nn nb ne : Nat) (td : Int32) (P G N B E : Nat → Nat → Int32) (mc : Nat → Int32) (h : Int32) (sd : Int32) (hnh : nh ≤ 5) (hg : ∀ h, h < nh → GH G h) : Met l yX5_anew wsX5_anew ({ frames := 1, cells := 0, slots := 0, locals := 21 } : Room) (MuP D [(cI, .int), (cZ, .boolean)] [.ref o5, .int h, .int sd] [(o5, .inr (5, [.int (nI np), .int (nI nh), .int td, .int (nI nn), .int (nI nb), .int (nI ne), .ref k6, .ref k7, .ref k8, .ref k9, .ref k10, .ref k11, .ref k12, .ref k13, .ref k14, .ref k15, .ref k16, .ref k17, .ref k18, .ref k19, .ref k20, .ref k21, .ref k22, .ref k23, .ref k24, .ref k25])), (k6, .inl (cI, 96, .inl (fl 4 P))), (k7, .inl (cI, 24, .inl (P 4))), (k8, .inl (cZ, 24, .inl (P 5))), (k9, .inl (cI, 5, .inl (G 0))), (k10, .inl (cI, 5, .inl (G 1))), (k11, .inl (cI, 5, .inl (G 2))), (k12, .inl (cI, 5, .inl (G 3))), (k13, .inl (cI, 5, .inl (G 4))), (k14, .inl (cI, 5, .inl (mc))), (k15, .inl (cZ, 5, .inl (G 5))), (k16, .inl (cI, 200, .inl (N 0))), (k17, .inl (cI, 200, .inl (N 1))), (k18, .inl (cI, 200, .inl (N 2))), (k19, .inl (cI, 200, .inl (N 3))), (k20, .inl (cI, 200, .inl (N 4))), (k21, .inl (cI, 20, .inl (B 0))), (k22, .inl (cI, 20, .inl (B 1))), (k23, .inl (cI, 20, .inl (B 2))), (k24, .inl (cI, 20, .inl (B 3))), (k25, .inl (cI, 1200, .inl (fl 6 E)))]) (QM D (some (.int (bI (inR nh h && decide (tat nh 6 G h 5 = 1) && decide (tat nh 6 G h 2 = sd))))) [(o5, .inr (5, [.int (nI np), .int (nI nh), .int td, .int (nI nn), .int (nI nb), .int (nI ne), .ref k6, .ref k7, .ref k8, .ref k9, .ref k10, .ref k11, .ref k12, .ref k13, .ref k14, .ref k15, .ref k16, .ref k17, .ref k18, .ref k19, .ref k20, .ref k21, .ref k22, .ref k23, .ref k24, .ref k25])), (k6, .inl (cI, 96, .inl (fl 4 P))), (k7, .inl (cI, 24, .inl (P 4))), (k8, .inl (cZ, 24, .inl (P 5))), (k9, .inl (cI, 5, .inl (G 0))), (k10, .inl (cI, 5, .inl (G 1))), (k11, .inl (cI, 5, .inl (G 2))), (k12, .inl (cI, 5, .inl (G 3))), (k13, .inl (cI, 5, .inl (G 4))), (k14, .inl (cI, 5, .inl (mc))), (k15, .inl (cZ, 5, .inl (G 5))), (k16, .inl (cI, 200, .inl (N 0))), (k17, .inl (cI, 200, .inl (N 1))), (k18, .inl (cI, 200, .inl (N 2))), (k19, .inl (cI, 200, .inl (N 3))), (k20, .inl (cI, 200, .inl (N 4))), (k21, .inl (cI, 20, .inl (B 0))), (k22, .inl (cI, 20, .inl (B 1))), (k23, .inl (cI, 20, .inl (B 2))), (k24, .inl (cI, 20, .inl (B 3))), (k25, .inl (cI, 1200, .inl (fl 6 E)))] [(o5, .inr (5, [.int (nI np), .int (nI nh), .int td, .int (nI nn), .int (nI nb), .int (nI ne), .ref k6, .ref k7, .ref k8, .ref k9, .ref k10, .ref k11, .ref k12, .ref k13, .ref k14, .ref k15, .ref k16, .ref k17, .ref k18, .ref k19, .ref k20, .ref k21, .ref k22, .ref k23, .ref k24, .ref k25])), (k6, .inl (cI, 96, .inl (fl 4 P))), (k7, .inl (cI, 24, .inl (P 4))), (k8, .inl (cZ, 24, .inl (P 5))), (k9, .inl (cI, 5, .inl ((if (inR nh h && decide (tat nh 6 G h 5 = 1) && decide (tat nh 6 G h 2 = sd)) = true then tput nh 6 G h 5 0 else G) 0))), (k10, .inl (cI, 5, .inl ((if (inR nh h && decide (tat nh 6 G h 5 = 1) && decide (tat nh 6 G h 2 = sd)) = true then tput nh 6 G h 5 0 else G) 1))), (k11, .inl (cI, 5, .inl ((if (inR nh h && decide (tat nh 6 G h 5 = 1) && decide (tat nh 6 G h 2 = sd)) = true then tput nh 6 G h 5 0 else G) 2))), (k12, .inl (cI, 5, .inl ((if (inR nh h && decide (tat nh 6 G h 5 = 1) && decide (tat nh 6 G h 2 = sd)) = true then tput nh 6 G h 5 0 else G) 3))), (k13, .inl (cI, 5, .inl ((if (inR nh h && decide (tat nh 6 G h 5 = 1) && decide (tat nh 6 G h 2 = sd)) = true then tput nh 6 G h 5 0 else G) 4))), (k14, .inl (cI, 5, .inl (mc))), (k15, .inl (cZ, 5, .inl ((if (inR nh h && decide (tat nh 6 G h 5 = 1) && decide (tat nh 6 G h 2 = sd)) = true then tput nh 6 G h 5 0 else G) 5))), (k16, .inl (cI, 200, .inl (N 0))), (k17, .inl (cI, 200, .inl (N 1))), (k18, .inl (cI, 200, .inl (N 2))), (k19, .inl (cI, 200, .inl (N 3))), (k20, .inl (cI, 200, .inl (N 4))), (k21, .inl (cI, 20, .inl (B 0))), (k22, .inl (cI, 20, .inl (B 1))), (k23, .inl (cI, 20, .inl (B 2))), (k24, .inl (cI, 20, .inl (B 3))), (k25, .inl (cI, 1200, .inl (fl 6 E)))]) 0 0 (adr [(o5, .inr (5, [.int (nI np), .int (nI nh), .int td, .int (nI nn), .int (nI nb), .int (nI ne), .ref k6, .ref k7, .ref k8, .ref k9, .ref k10, .ref k11, .ref k12, .ref k13, .ref k14, .ref k15, .ref k16, .ref k17, .ref k18, .ref k19, .ref k20, .ref k21, .ref k22, .ref k23, .ref k24, .ref k25])), (k6, .inl (cI, 96, .inl (fl 4 P))), (k7, .inl (cI, 24, .inl (P 4))), (k8, .inl (cZ, 24, .inl (P 5))), (k9, .inl (cI, 5, .inl (G 0))), (k10, .inl (cI, 5, .inl (G 1))), (k11, .inl (cI, 5, .inl (G 2))), (k12, .inl (cI, 5, .inl (G 3))), (k13, .inl (cI, 5, .inl (G 4))), (k14, .inl (cI, 5, .inl (mc))), (k15, .inl (cZ, 5, .inl (G 5))), (k16, .inl (cI, 200, .inl (N 0))), (k17, .inl (cI, 200, .inl (N 1))), (k18, .inl (cI, 200, .inl (N 2))), (k19, .inl (cI, 200, .inl (N 3))), (k20, .inl (cI, 200, .inl (N 4))), (k21, .inl (cI, 20, .inl (B 0))), (k22, .inl (cI, 20, .inl (B 1))), (k23, .inl (cI, 20, .inl (B 2))), (k24, .inl (cI, 20, .inl (B 3))), (k25, .inl (cI, 1200, .inl (fl 6 E)))]) := by
  refine mu_of (cc := cX5_anew) (maxL := 3) (ret := (some .boolean)) (by decide) rfl (Nat.le_of_ble_eq_true rfl) ?_
  intro pp ee ss mm bw me cd ls hx hb hr hts hown hlocks hml hK hl H locs hP hD hS
  have hl : lv_has ls 3 [(0, .ref o5), (1, .int h), (2, .int sd)] := hl
  have hf38 := hts (.fieldLink RX5 38 "OtherNamesModel" "isLost" "[Z") (by decide +kernel)
  have hin5 := (show ∀ w ∈ wsX50, w ∈ wsX5_anew by decide +kernel)
  have hf26 := hts (.fieldLink RX5 26 "OtherNamesModel" "seed" "[I") (by decide +kernel)
  refine lv_aload_n hx hb dX5_anew_0 rfl (lv_at hl 0 rfl) ?_
  refine lv_iload_n hx hb dX5_anew_1 rfl (lv_at hl 1 rfl) ?_
  refine rcVw (As := [.int h]) (rest := []) (ci := 5) ⟨hx, hb, hml, hown, hts⟩ (kX5_isHouse l D cI cZ o5 k6 k7 k8 k9 k10 k11 k12 k13 k14 k15 k16 k17 k18 k19 k20 k21 k22 k23 k24 k25 np nh nn nb ne td P G N B E mc h) (cwV 1 hts gX5_anew_X5_isHouse rfl rfl rfl (by decide +kernel) ⟨Nat.le_of_ble_eq_true rfl, Nat.le_of_ble_eq_true rfl⟩) hK hP rfl rfl rfl rfl hl.1 rfl (Nat.le_of_ble_eq_true rfl) ⟨Nat.zero_le _, Nat.zero_le _⟩ dX5_anew_2 ?_
  refine lb_eq (tgt := 27) hx hb dX5_anew_5 (by decide) (fun c_5 => ?_) (fun c_5 => ?_)
  · skip
    refine lv_iconst (v := 0) hx hb dX5_anew_27 (by decide) ?_
    refine mu_zret hx hb hr hlocks hS dX5_anew_28 ?_ ?_
    · simp [bI, c_5]
    have q0 : ((if (inR nh h && decide (tat nh 6 G h 5 = 1) && decide (tat nh 6 G h 2 = sd)) = true then tput nh 6 G h 5 0 else G) 0) = (G 0) := by rw [if_neg (by simp [c_5])]
    have q1 : ((if (inR nh h && decide (tat nh 6 G h 5 = 1) && decide (tat nh 6 G h 2 = sd)) = true then tput nh 6 G h 5 0 else G) 1) = (G 1) := by rw [if_neg (by simp [c_5])]
    have q2 : ((if (inR nh h && decide (tat nh 6 G h 5 = 1) && decide (tat nh 6 G h 2 = sd)) = true then tput nh 6 G h 5 0 else G) 2) = (G 2) := by rw [if_neg (by simp [c_5])]
    have q3 : ((if (inR nh h && decide (tat nh 6 G h 5 = 1) && decide (tat nh 6 G h 2 = sd)) = true then tput nh 6 G h 5 0 else G) 3) = (G 3) := by rw [if_neg (by simp [c_5])]
    have q4 : ((if (inR nh h && decide (tat nh 6 G h 5 = 1) && decide (tat nh 6 G h 2 = sd)) = true then tput nh 6 G h 5 0 else G) 4) = (G 4) := by rw [if_neg (by simp [c_5])]
    have q5 : ((if (inR nh h && decide (tat nh 6 G h 5 = 1) && decide (tat nh 6 G h 2 = sd)) = true then tput nh 6 G h 5 0 else G) 5) = (G 5) := by rw [if_neg (by simp [c_5])]
    rw [q0, q1, q2, q3, q4, q5]
    exact hP
  · skip
    obtain ⟨j, hj, rfl⟩ := inR_ex c_5 (by omega)
    have t5 : tat nh 6 G (nI j) 5 = G 5 j := tatG (c := 5) hnh hj (by omega)
    have t2 : tat nh 6 G (nI j) 2 = G 2 j := tatG (c := 2) hnh hj (by omega)
    have u5 : ∀ v, tput nh 6 G (nI j) 5 v = up2 G 5 j v := fun v => tput_nI (c := 5) (by omega) (by omega) hj (by omega)
    refine lv_aload_n hx hb dX5_anew_8 rfl (lv_at hl 0 rfl) ?_
    refine va_get (D := D) (ci := 5) (v := .ref k15) (C := RX5) (T := TX5) (N := 26) hx hb hts hin5 hown hK hP 0 rfl rfl 15 (by decide) hf38 (fun _ h9 => h9) rfl dX5_anew_9 ?_
    refine lv_iload_n hx hb dX5_anew_12 rfl (lv_at hl 1 rfl) ?_
    refine va_zaldN (D := D) (cl := vwCl) (cA := cZ) (f := G 5) hx hb hK hP 10 1 rfl rfl j (rfl) (by omega) (by first | decide | assumption) dX5_anew_13 ?_
    refine lv_if_eq (tgt := 27) hx hb dX5_anew_14 (by decide) (fun c_14 => ?_) (fun c_14 => ?_)
    · skip
      refine lv_iconst (v := 0) hx hb dX5_anew_27 (by decide) ?_
      refine mu_zret hx hb hr hlocks hS dX5_anew_28 ?_ ?_
      · simp [bI, t5, t2, c_5, c_14]
      have q0 : ((if (inR nh (nI j) && decide (tat nh 6 G (nI j) 5 = 1) && decide (tat nh 6 G (nI j) 2 = sd)) = true then tput nh 6 G (nI j) 5 0 else G) 0) = (G 0) := by rw [if_neg (by simp [t5, t2, c_5, c_14])]
      have q1 : ((if (inR nh (nI j) && decide (tat nh 6 G (nI j) 5 = 1) && decide (tat nh 6 G (nI j) 2 = sd)) = true then tput nh 6 G (nI j) 5 0 else G) 1) = (G 1) := by rw [if_neg (by simp [t5, t2, c_5, c_14])]
      have q2 : ((if (inR nh (nI j) && decide (tat nh 6 G (nI j) 5 = 1) && decide (tat nh 6 G (nI j) 2 = sd)) = true then tput nh 6 G (nI j) 5 0 else G) 2) = (G 2) := by rw [if_neg (by simp [t5, t2, c_5, c_14])]
      have q3 : ((if (inR nh (nI j) && decide (tat nh 6 G (nI j) 5 = 1) && decide (tat nh 6 G (nI j) 2 = sd)) = true then tput nh 6 G (nI j) 5 0 else G) 3) = (G 3) := by rw [if_neg (by simp [t5, t2, c_5, c_14])]
      have q4 : ((if (inR nh (nI j) && decide (tat nh 6 G (nI j) 5 = 1) && decide (tat nh 6 G (nI j) 2 = sd)) = true then tput nh 6 G (nI j) 5 0 else G) 4) = (G 4) := by rw [if_neg (by simp [t5, t2, c_5, c_14])]
      have q5 : ((if (inR nh (nI j) && decide (tat nh 6 G (nI j) 5 = 1) && decide (tat nh 6 G (nI j) 2 = sd)) = true then tput nh 6 G (nI j) 5 0 else G) 5) = (G 5) := by rw [if_neg (by simp [t5, t2, c_5, c_14])]
      rw [q0, q1, q2, q3, q4, q5]
      exact hP
    · skip
      have c_14 : G 5 j = 1 := (hg j hj).2.2.resolve_left c_14
      refine lv_aload_n hx hb dX5_anew_17 rfl (lv_at hl 0 rfl) ?_
      refine va_get (D := D) (ci := 5) (v := .ref k11) (C := RX5) (T := TX5) (N := 26) hx hb hts hin5 hown hK hP 0 rfl rfl 11 (by decide) hf26 (fun _ h9 => h9) rfl dX5_anew_18 ?_
      refine lv_iload_n hx hb dX5_anew_21 rfl (lv_at hl 1 rfl) ?_
      refine va_ialdN (D := D) (cl := vwCl) (cA := cI) (f := G 2) hx hb hK hP 6 0 rfl rfl j (rfl) (by omega) (by first | decide | assumption) dX5_anew_22 ?_
      refine lv_iload_n hx hb dX5_anew_23 rfl (lv_at hl 2 rfl) ?_
      refine lv_icmp_eq (tgt := 29) hx hb dX5_anew_24 (by decide) (fun c_24 => ?_) (fun c_24 => ?_)
      · skip
        refine lv_aload_n hx hb dX5_anew_29 rfl (lv_at hl 0 rfl) ?_
        refine va_get (D := D) (ci := 5) (v := .ref k15) (C := RX5) (T := TX5) (N := 26) hx hb hts hin5 hown hK hP 0 rfl rfl 15 (by decide) hf38 (fun _ h9 => h9) rfl dX5_anew_30 ?_
        refine lv_iload_n hx hb dX5_anew_33 rfl (lv_at hl 1 rfl) ?_
        refine lv_iconst (v := 0) hx hb dX5_anew_34 (by decide) ?_
        refine va_zastN (D := D) (cl := vwCl) (cA := cZ) (f := G 5) (x := 0) hx hb hK hP hD hS 10 1 rfl rfl j (rfl) (by omega) (by first | decide | assumption) (by decide) dX5_anew_35 (fun H locs hP hD hS => ?_)
        have hP : va_P D vwCl [(o5, .inr (5, [.int (nI np), .int (nI nh), .int td, .int (nI nn), .int (nI nb), .int (nI ne), .ref k6, .ref k7, .ref k8, .ref k9, .ref k10, .ref k11, .ref k12, .ref k13, .ref k14, .ref k15, .ref k16, .ref k17, .ref k18, .ref k19, .ref k20, .ref k21, .ref k22, .ref k23, .ref k24, .ref k25])), (k6, .inl (cI, 96, .inl (fl 4 P))), (k7, .inl (cI, 24, .inl (P 4))), (k8, .inl (cZ, 24, .inl (P 5))), (k9, .inl (cI, 5, .inl (G 0))), (k10, .inl (cI, 5, .inl (G 1))), (k11, .inl (cI, 5, .inl (G 2))), (k12, .inl (cI, 5, .inl (G 3))), (k13, .inl (cI, 5, .inl (G 4))), (k14, .inl (cI, 5, .inl (mc))), (k15, .inl (cZ, 5, .inl (upd (G 5) j 0))), (k16, .inl (cI, 200, .inl (N 0))), (k17, .inl (cI, 200, .inl (N 1))), (k18, .inl (cI, 200, .inl (N 2))), (k19, .inl (cI, 200, .inl (N 3))), (k20, .inl (cI, 200, .inl (N 4))), (k21, .inl (cI, 20, .inl (B 0))), (k22, .inl (cI, 20, .inl (B 1))), (k23, .inl (cI, 20, .inl (B 2))), (k24, .inl (cI, 20, .inl (B 3))), (k25, .inl (cI, 1200, .inl (fl 6 E)))] H := hP
        have hD : va_D (adr _) [(o5, .inr (5, [.int (nI np), .int (nI nh), .int td, .int (nI nn), .int (nI nb), .int (nI ne), .ref k6, .ref k7, .ref k8, .ref k9, .ref k10, .ref k11, .ref k12, .ref k13, .ref k14, .ref k15, .ref k16, .ref k17, .ref k18, .ref k19, .ref k20, .ref k21, .ref k22, .ref k23, .ref k24, .ref k25])), (k6, .inl (cI, 96, .inl (fl 4 P))), (k7, .inl (cI, 24, .inl (P 4))), (k8, .inl (cZ, 24, .inl (P 5))), (k9, .inl (cI, 5, .inl (G 0))), (k10, .inl (cI, 5, .inl (G 1))), (k11, .inl (cI, 5, .inl (G 2))), (k12, .inl (cI, 5, .inl (G 3))), (k13, .inl (cI, 5, .inl (G 4))), (k14, .inl (cI, 5, .inl (mc))), (k15, .inl (cZ, 5, .inl (upd (G 5) j 0))), (k16, .inl (cI, 200, .inl (N 0))), (k17, .inl (cI, 200, .inl (N 1))), (k18, .inl (cI, 200, .inl (N 2))), (k19, .inl (cI, 200, .inl (N 3))), (k20, .inl (cI, 200, .inl (N 4))), (k21, .inl (cI, 20, .inl (B 0))), (k22, .inl (cI, 20, .inl (B 1))), (k23, .inl (cI, 20, .inl (B 2))), (k24, .inl (cI, 20, .inl (B 3))), (k25, .inl (cI, 1200, .inl (fl 6 E)))] := hD
        refine lv_iconst (v := 1) hx hb dX5_anew_36 (by decide) ?_
        refine mu_zret hx hb hr hlocks hS dX5_anew_37 ?_ ?_
        · simp [bI, t5, t2, c_5, c_14, c_24]
        have q0 : ((if (inR nh (nI j) && decide (tat nh 6 G (nI j) 5 = 1) && decide (tat nh 6 G (nI j) 2 = sd)) = true then tput nh 6 G (nI j) 5 0 else G) 0) = (G 0) := by rw [if_pos (by simp [t5, t2, c_5, c_14, c_24]), u5]; rfl
        have q1 : ((if (inR nh (nI j) && decide (tat nh 6 G (nI j) 5 = 1) && decide (tat nh 6 G (nI j) 2 = sd)) = true then tput nh 6 G (nI j) 5 0 else G) 1) = (G 1) := by rw [if_pos (by simp [t5, t2, c_5, c_14, c_24]), u5]; rfl
        have q2 : ((if (inR nh (nI j) && decide (tat nh 6 G (nI j) 5 = 1) && decide (tat nh 6 G (nI j) 2 = sd)) = true then tput nh 6 G (nI j) 5 0 else G) 2) = (G 2) := by rw [if_pos (by simp [t5, t2, c_5, c_14, c_24]), u5]; rfl
        have q3 : ((if (inR nh (nI j) && decide (tat nh 6 G (nI j) 5 = 1) && decide (tat nh 6 G (nI j) 2 = sd)) = true then tput nh 6 G (nI j) 5 0 else G) 3) = (G 3) := by rw [if_pos (by simp [t5, t2, c_5, c_14, c_24]), u5]; rfl
        have q4 : ((if (inR nh (nI j) && decide (tat nh 6 G (nI j) 5 = 1) && decide (tat nh 6 G (nI j) 2 = sd)) = true then tput nh 6 G (nI j) 5 0 else G) 4) = (G 4) := by rw [if_pos (by simp [t5, t2, c_5, c_14, c_24]), u5]; rfl
        have q5 : ((if (inR nh (nI j) && decide (tat nh 6 G (nI j) 5 = 1) && decide (tat nh 6 G (nI j) 2 = sd)) = true then tput nh 6 G (nI j) 5 0 else G) 5) = (upd (G 5) j 0) := by rw [if_pos (by simp [t5, t2, c_5, c_14, c_24]), u5]; rfl
        rw [q0, q1, q2, q3, q4, q5]
        exact hP
      · skip
        refine lv_iconst (v := 0) hx hb dX5_anew_27 (by decide) ?_
        refine mu_zret hx hb hr hlocks hS dX5_anew_28 ?_ ?_
        · simp [bI, t5, t2, c_5, c_14, c_24]
        have q0 : ((if (inR nh (nI j) && decide (tat nh 6 G (nI j) 5 = 1) && decide (tat nh 6 G (nI j) 2 = sd)) = true then tput nh 6 G (nI j) 5 0 else G) 0) = (G 0) := by rw [if_neg (by simp [t5, t2, c_5, c_14, c_24])]
        have q1 : ((if (inR nh (nI j) && decide (tat nh 6 G (nI j) 5 = 1) && decide (tat nh 6 G (nI j) 2 = sd)) = true then tput nh 6 G (nI j) 5 0 else G) 1) = (G 1) := by rw [if_neg (by simp [t5, t2, c_5, c_14, c_24])]
        have q2 : ((if (inR nh (nI j) && decide (tat nh 6 G (nI j) 5 = 1) && decide (tat nh 6 G (nI j) 2 = sd)) = true then tput nh 6 G (nI j) 5 0 else G) 2) = (G 2) := by rw [if_neg (by simp [t5, t2, c_5, c_14, c_24])]
        have q3 : ((if (inR nh (nI j) && decide (tat nh 6 G (nI j) 5 = 1) && decide (tat nh 6 G (nI j) 2 = sd)) = true then tput nh 6 G (nI j) 5 0 else G) 3) = (G 3) := by rw [if_neg (by simp [t5, t2, c_5, c_14, c_24])]
        have q4 : ((if (inR nh (nI j) && decide (tat nh 6 G (nI j) 5 = 1) && decide (tat nh 6 G (nI j) 2 = sd)) = true then tput nh 6 G (nI j) 5 0 else G) 4) = (G 4) := by rw [if_neg (by simp [t5, t2, c_5, c_14, c_24])]
        have q5 : ((if (inR nh (nI j) && decide (tat nh 6 G (nI j) 5 = 1) && decide (tat nh 6 G (nI j) 2 = sd)) = true then tput nh 6 G (nI j) 5 0 else G) 5) = (G 5) := by rw [if_neg (by simp [t5, t2, c_5, c_14, c_24])]
        rw [q0, q1, q2, q3, q4, q5]
        exact hP
set_option maxHeartbeats 4000000 in
set_option maxRecDepth 100000 in
theorem kX5_record (l : Launch) (D : va_G) (cI cZ : ClassId) (o5 k6 k7 k8 k9 k10 k11 k12 k13 k14 k15 k16 k17 k18 k19 k20 k21 k22 k23 k24 k25 np nh nn nb ne : Nat) (td : Int32) (P G N B E : Nat → Nat → Int32) (mc : Nat → Int32) (i : Int32) (w : Int32) (hne : ne ≤ 200) : Met l yX5_record wsX5_record ({ frames := 1, cells := 0, slots := 0, locals := 22 } : Room) (RdP D [(cI, .int), (cZ, .boolean)] [.ref o5, .int i, .int w] [(o5, .inr (5, [.int (nI np), .int (nI nh), .int td, .int (nI nn), .int (nI nb), .int (nI ne), .ref k6, .ref k7, .ref k8, .ref k9, .ref k10, .ref k11, .ref k12, .ref k13, .ref k14, .ref k15, .ref k16, .ref k17, .ref k18, .ref k19, .ref k20, .ref k21, .ref k22, .ref k23, .ref k24, .ref k25])), (k6, .inl (cI, 96, .inl (fl 4 P))), (k7, .inl (cI, 24, .inl (P 4))), (k8, .inl (cZ, 24, .inl (P 5))), (k9, .inl (cI, 5, .inl (G 0))), (k10, .inl (cI, 5, .inl (G 1))), (k11, .inl (cI, 5, .inl (G 2))), (k12, .inl (cI, 5, .inl (G 3))), (k13, .inl (cI, 5, .inl (G 4))), (k14, .inl (cI, 5, .inl (mc))), (k15, .inl (cZ, 5, .inl (G 5))), (k16, .inl (cI, 200, .inl (N 0))), (k17, .inl (cI, 200, .inl (N 1))), (k18, .inl (cI, 200, .inl (N 2))), (k19, .inl (cI, 200, .inl (N 3))), (k20, .inl (cI, 200, .inl (N 4))), (k21, .inl (cI, 20, .inl (B 0))), (k22, .inl (cI, 20, .inl (B 1))), (k23, .inl (cI, 20, .inl (B 2))), (k24, .inl (cI, 20, .inl (B 3))), (k25, .inl (cI, 1200, .inl (fl 6 E)))]) (QcRead (tat ne 6 E i w)) 0 0 (fun _ => False) := by
  refine rd_of (cc := cX5_record) (maxL := 3) (ret := (some .int)) (by decide) rfl (Nat.le_of_ble_eq_true rfl) ?_
  intro pp ee ss mm bw me cd ls hx hb hr hts hown hlocks hml hP hK hl
  have hl : lv_has ls 3 [(0, .ref o5), (1, .int i), (2, .int w)] := hl
  have hf126 := hts (.fieldLink RX5 126 "OtherNamesModel" "entries" "I") (by decide +kernel)
  have hin5 := (show ∀ w ∈ wsX50, w ∈ wsX5_record by decide +kernel)
  have hf68 := hts (.fieldLink RX5 68 "OtherNamesModel" "entry" "[I") (by decide +kernel)
  refine lv_iload_n hx hb dX5_record_0 rfl (lv_at hl 1 rfl) ?_
  refine lv_if_lt (tgt := 35) hx hb dX5_record_1 (by decide) (fun c_1 => ?_) (fun c_1 => ?_)
  · skip
    refine lv_iconst (v := (-1)) hx hb dX5_record_35 (by decide) ?_
    exact rd_iret hx hb hr hlocks dX5_record_36 (by rw [tat_no (by simp [inR, c_1])])
  · skip
    refine lv_iload_n hx hb dX5_record_4 rfl (lv_at hl 1 rfl) ?_
    refine lv_aload_n hx hb dX5_record_5 rfl (lv_at hl 0 rfl) ?_
    refine va_get (D := D) (ci := 5) (v := .int (nI ne)) (C := RX5) (T := TX5) (N := 26) hx hb hts hin5 hown hK hP 0 rfl rfl 5 (by decide) hf126 (fun _ h9 => h9) rfl dX5_record_6 ?_
    refine lv_icmp_ge (tgt := 35) hx hb dX5_record_9 (by decide) (fun c_9 => ?_) (fun c_9 => ?_)
    · skip
      refine lv_iconst (v := (-1)) hx hb dX5_record_35 (by decide) ?_
      exact rd_iret hx hb hr hlocks dX5_record_36 (by rw [tat_no (by simp [inR, c_1, c_9])])
    · skip
      obtain ⟨j, hj, rfl⟩ : ∃ j, j < ne ∧ i = nI j := inR_ex (by simp [inR, c_1, c_9]) (by omega)
      refine lv_iload_n hx hb dX5_record_12 rfl (lv_at hl 2 rfl) ?_
      refine lv_iconst (v := 0) hx hb dX5_record_13 (by decide) ?_
      refine lv_iconst (v := 5) hx hb dX5_record_14 (by decide) ?_
      refine rcS (As := [.int w, .int 0, .int 5]) (rest := []) ⟨hx, hb, hml, hown, hts⟩ (kX5_in l D cI cZ w 0 5) (va_cwS 3 hts gX5_record_X5_in rfl rfl rfl (by decide +kernel) ⟨Nat.le_of_ble_eq_true rfl, Nat.le_of_ble_eq_true rfl⟩) hK hP [] rfl rfl hl.1 rfl (Nat.le_of_ble_eq_true rfl) ⟨Nat.zero_le _, Nat.zero_le _⟩ dX5_record_15 ?_
      refine lb_eq (tgt := 35) hx hb dX5_record_18 (by decide) (fun c_18 => ?_) (fun c_18 => ?_)
      · skip
        refine lv_iconst (v := (-1)) hx hb dX5_record_35 (by decide) ?_
        exact rd_iret hx hb hr hlocks dX5_record_36 (by rw [tat_noc (hi := 5) c_18 rfl (by omega)])
      · skip
        obtain ⟨k_, hk_, rfl⟩ := inB_ex (hi := 5) c_18 rfl (by omega)
        refine lv_aload_n hx hb dX5_record_21 rfl (lv_at hl 0 rfl) ?_
        refine va_get (D := D) (ci := 5) (v := .ref k25) (C := RX5) (T := TX5) (N := 26) hx hb hts hin5 hown hK hP 0 rfl rfl 25 (by decide) hf68 (fun _ h9 => h9) rfl dX5_record_22 ?_
        refine lv_bipush (v := 6) hx hb dX5_record_25 (by decide) ?_
        refine lv_iload_n hx hb dX5_record_27 rfl (lv_at hl 1 rfl) ?_
        refine lv_imul hx hb dX5_record_28 ?_
        refine lv_iload_n hx hb dX5_record_29 rfl (lv_at hl 2 rfl) ?_
        refine lv_iadd hx hb dX5_record_30 ?_
        refine va_ialdN (D := D) (cl := vwCl) (cA := cI) (f := fl 6 E) hx hb hK hP 20 0 rfl rfl (j * 6 + k_) (ixI 6 j k_) (by omega) (by first | decide | assumption) dX5_record_31 ?_
        refine lv_goto (tgt := 36) hx hb dX5_record_32 (by decide) ?_
        exact rd_iret hx hb hr hlocks dX5_record_36 (by rw [fl_at (by omega), tat_nI (by omega) (by omega) hj (by omega)])
set_option maxHeartbeats 4000000 in
set_option maxRecDepth 100000 in
theorem kX5_given (l : Launch) (D : va_G) (cI cZ : ClassId) (o5 k6 k7 k8 k9 k10 k11 k12 k13 k14 k15 k16 k17 k18 k19 k20 k21 k22 k23 k24 k25 np nh nn nb ne : Nat) (td : Int32) (P G N B E : Nat → Nat → Int32) (mc : Nat → Int32) (i : Int32) (w : Int32) (hnn : nn ≤ 200) : Met l yX5_given wsX5_given ({ frames := 0, cells := 0, slots := 0, locals := 0 } : Room) (RdP D [(cI, .int), (cZ, .boolean)] [.ref o5, .int i, .int w] [(o5, .inr (5, [.int (nI np), .int (nI nh), .int td, .int (nI nn), .int (nI nb), .int (nI ne), .ref k6, .ref k7, .ref k8, .ref k9, .ref k10, .ref k11, .ref k12, .ref k13, .ref k14, .ref k15, .ref k16, .ref k17, .ref k18, .ref k19, .ref k20, .ref k21, .ref k22, .ref k23, .ref k24, .ref k25])), (k6, .inl (cI, 96, .inl (fl 4 P))), (k7, .inl (cI, 24, .inl (P 4))), (k8, .inl (cZ, 24, .inl (P 5))), (k9, .inl (cI, 5, .inl (G 0))), (k10, .inl (cI, 5, .inl (G 1))), (k11, .inl (cI, 5, .inl (G 2))), (k12, .inl (cI, 5, .inl (G 3))), (k13, .inl (cI, 5, .inl (G 4))), (k14, .inl (cI, 5, .inl (mc))), (k15, .inl (cZ, 5, .inl (G 5))), (k16, .inl (cI, 200, .inl (N 0))), (k17, .inl (cI, 200, .inl (N 1))), (k18, .inl (cI, 200, .inl (N 2))), (k19, .inl (cI, 200, .inl (N 3))), (k20, .inl (cI, 200, .inl (N 4))), (k21, .inl (cI, 20, .inl (B 0))), (k22, .inl (cI, 20, .inl (B 1))), (k23, .inl (cI, 20, .inl (B 2))), (k24, .inl (cI, 20, .inl (B 3))), (k25, .inl (cI, 1200, .inl (fl 6 E)))]) (QcRead (tat nn 5 N i w)) 0 0 (fun _ => False) := by
  refine rd_of (cc := cX5_given) (maxL := 3) (ret := (some .int)) (by decide) rfl (Nat.le_of_ble_eq_true rfl) ?_
  intro pp ee ss mm bw me cd ls hx hb hr hts hown hlocks hml hP hK hl
  have hl : lv_has ls 3 [(0, .ref o5), (1, .int i), (2, .int w)] := hl
  have hf100 := hts (.fieldLink RX5 100 "OtherNamesModel" "names" "I") (by decide +kernel)
  have hin5 := (show ∀ w ∈ wsX50, w ∈ wsX5_given by decide +kernel)
  have hf41 := hts (.fieldLink RX5 41 "OtherNamesModel" "nameHouse" "[I") (by decide +kernel)
  have hf44 := hts (.fieldLink RX5 44 "OtherNamesModel" "nameOf" "[I") (by decide +kernel)
  have hf47 := hts (.fieldLink RX5 47 "OtherNamesModel" "owner" "[I") (by decide +kernel)
  have hf50 := hts (.fieldLink RX5 50 "OtherNamesModel" "nameDay" "[I") (by decide +kernel)
  have hf53 := hts (.fieldLink RX5 53 "OtherNamesModel" "nameSpan" "[I") (by decide +kernel)
  refine lv_iload_n hx hb dX5_given_0 rfl (lv_at hl 1 rfl) ?_
  refine lv_if_lt (tgt := 12) hx hb dX5_given_1 (by decide) (fun c_1 => ?_) (fun c_1 => ?_)
  · skip
    refine lv_iconst (v := (-1)) hx hb dX5_given_12 (by decide) ?_
    exact rd_iret hx hb hr hlocks dX5_given_13 (by rw [tat_no (by simp [inR, c_1])])
  · skip
    refine lv_iload_n hx hb dX5_given_4 rfl (lv_at hl 1 rfl) ?_
    refine lv_aload_n hx hb dX5_given_5 rfl (lv_at hl 0 rfl) ?_
    refine va_get (D := D) (ci := 5) (v := .int (nI nn)) (C := RX5) (T := TX5) (N := 26) hx hb hts hin5 hown hK hP 0 rfl rfl 3 (by decide) hf100 (fun _ h9 => h9) rfl dX5_given_6 ?_
    refine lv_icmp_lt (tgt := 14) hx hb dX5_given_9 (by decide) (fun c_9 => ?_) (fun c_9 => ?_)
    · skip
      obtain ⟨j, hj, rfl⟩ : ∃ j, j < nn ∧ i = nI j := inR_ex (inR_ylt c_1 c_9) (by omega)
      refine lv_iload_n hx hb dX5_given_14 rfl (lv_at hl 2 rfl) ?_
      rcases Classical.em (w = 0) with c_15 | c_15_0
      · skip
        refine lv_tableIn (tgt := 48) hx hb dX5_given_15 (by rw [c_15]; decide) (by rw [c_15]; decide) (by rw [c_15]; rfl) (by decide) ?_
        refine lv_aload_n hx hb dX5_given_48 rfl (lv_at hl 0 rfl) ?_
        refine va_get (D := D) (ci := 5) (v := .ref k16) (C := RX5) (T := TX5) (N := 26) hx hb hts hin5 hown hK hP 0 rfl rfl 16 (by decide) hf41 (fun _ h9 => h9) rfl dX5_given_49 ?_
        refine lv_iload_n hx hb dX5_given_52 rfl (lv_at hl 1 rfl) ?_
        refine va_ialdN (D := D) (cl := vwCl) (cA := cI) (f := N 0) hx hb hK hP 11 0 rfl rfl j (rfl) (by omega) (by first | decide | assumption) dX5_given_53 ?_
        exact rd_iret hx hb hr hlocks dX5_given_54 (by rw [c_15]; exact (tat_nI (c := 0) (by omega) (by omega) hj (by omega)).symm)
      rcases Classical.em (w = 1) with c_15 | c_15_1
      · skip
        refine lv_tableIn (tgt := 55) hx hb dX5_given_15 (by rw [c_15]; decide) (by rw [c_15]; decide) (by rw [c_15]; rfl) (by decide) ?_
        refine lv_aload_n hx hb dX5_given_55 rfl (lv_at hl 0 rfl) ?_
        refine va_get (D := D) (ci := 5) (v := .ref k17) (C := RX5) (T := TX5) (N := 26) hx hb hts hin5 hown hK hP 0 rfl rfl 17 (by decide) hf44 (fun _ h9 => h9) rfl dX5_given_56 ?_
        refine lv_iload_n hx hb dX5_given_59 rfl (lv_at hl 1 rfl) ?_
        refine va_ialdN (D := D) (cl := vwCl) (cA := cI) (f := N 1) hx hb hK hP 12 0 rfl rfl j (rfl) (by omega) (by first | decide | assumption) dX5_given_60 ?_
        exact rd_iret hx hb hr hlocks dX5_given_61 (by rw [c_15]; exact (tat_nI (c := 1) (by omega) (by omega) hj (by omega)).symm)
      rcases Classical.em (w = 2) with c_15 | c_15_2
      · skip
        refine lv_tableIn (tgt := 62) hx hb dX5_given_15 (by rw [c_15]; decide) (by rw [c_15]; decide) (by rw [c_15]; rfl) (by decide) ?_
        refine lv_aload_n hx hb dX5_given_62 rfl (lv_at hl 0 rfl) ?_
        refine va_get (D := D) (ci := 5) (v := .ref k18) (C := RX5) (T := TX5) (N := 26) hx hb hts hin5 hown hK hP 0 rfl rfl 18 (by decide) hf47 (fun _ h9 => h9) rfl dX5_given_63 ?_
        refine lv_iload_n hx hb dX5_given_66 rfl (lv_at hl 1 rfl) ?_
        refine va_ialdN (D := D) (cl := vwCl) (cA := cI) (f := N 2) hx hb hK hP 13 0 rfl rfl j (rfl) (by omega) (by first | decide | assumption) dX5_given_67 ?_
        exact rd_iret hx hb hr hlocks dX5_given_68 (by rw [c_15]; exact (tat_nI (c := 2) (by omega) (by omega) hj (by omega)).symm)
      rcases Classical.em (w = 3) with c_15 | c_15_3
      · skip
        refine lv_tableIn (tgt := 69) hx hb dX5_given_15 (by rw [c_15]; decide) (by rw [c_15]; decide) (by rw [c_15]; rfl) (by decide) ?_
        refine lv_aload_n hx hb dX5_given_69 rfl (lv_at hl 0 rfl) ?_
        refine va_get (D := D) (ci := 5) (v := .ref k19) (C := RX5) (T := TX5) (N := 26) hx hb hts hin5 hown hK hP 0 rfl rfl 19 (by decide) hf50 (fun _ h9 => h9) rfl dX5_given_70 ?_
        refine lv_iload_n hx hb dX5_given_73 rfl (lv_at hl 1 rfl) ?_
        refine va_ialdN (D := D) (cl := vwCl) (cA := cI) (f := N 3) hx hb hK hP 14 0 rfl rfl j (rfl) (by omega) (by first | decide | assumption) dX5_given_74 ?_
        exact rd_iret hx hb hr hlocks dX5_given_75 (by rw [c_15]; exact (tat_nI (c := 3) (by omega) (by omega) hj (by omega)).symm)
      rcases Classical.em (w = 4) with c_15 | c_15_4
      · skip
        refine lv_tableIn (tgt := 76) hx hb dX5_given_15 (by rw [c_15]; decide) (by rw [c_15]; decide) (by rw [c_15]; rfl) (by decide) ?_
        refine lv_aload_n hx hb dX5_given_76 rfl (lv_at hl 0 rfl) ?_
        refine va_get (D := D) (ci := 5) (v := .ref k20) (C := RX5) (T := TX5) (N := 26) hx hb hts hin5 hown hK hP 0 rfl rfl 20 (by decide) hf53 (fun _ h9 => h9) rfl dX5_given_77 ?_
        refine lv_iload_n hx hb dX5_given_80 rfl (lv_at hl 1 rfl) ?_
        refine va_ialdN (D := D) (cl := vwCl) (cA := cI) (f := N 4) hx hb hK hP 15 0 rfl rfl j (rfl) (by omega) (by first | decide | assumption) dX5_given_81 ?_
        exact rd_iret hx hb hr hlocks dX5_given_82 (by rw [c_15]; exact (tat_nI (c := 4) (by omega) (by omega) hj (by omega)).symm)
      refine lv_tableOut (tgt := 83) hx hb dX5_given_15 (by have g0 := lv_neT (a := 0) c_15_0 (by decide); have g1 := lv_neT (a := 1) c_15_1 (by decide); have g2 := lv_neT (a := 2) c_15_2 (by decide); have g3 := lv_neT (a := 3) c_15_3 (by decide); have g4 := lv_neT (a := 4) c_15_4 (by decide); omega) (by decide) ?_
      refine lv_iconst (v := (-1)) hx hb dX5_given_83 (by decide) ?_
      exact rd_iret hx hb hr hlocks dX5_given_84 (by rw [tat_nocs c_15_0 c_15_1 c_15_2 c_15_3 c_15_4])
    · skip
      refine lv_iconst (v := (-1)) hx hb dX5_given_12 (by decide) ?_
      exact rd_iret hx hb hr hlocks dX5_given_13 (by rw [tat_no (inR_nlt c_9)])
