set_option maxHeartbeats 4000000 in
set_option maxRecDepth 100000 in
theorem kX2_add (l : Launch) (D : va_G) (cI cZ : ClassId) (pe hP_ aP np : Nat) (P : Nat → Nat → Int32) (a : Int32) (b : Int32) (c : Int32) (d : Int32) (hnp : np ≤ 24) : Met l yX2_add wsX2_add ({ frames := 2, cells := 0, slots := 0, locals := 45 } : Room) (MuP D [(cI, .int), (cZ, .boolean)] [.ref pe, .int a, .int b, .int c, .int d] [(pe, .inr (2, [.ref hP_])), (hP_, .inr (3, [.int (nI 24), .int (nI 6), .ref aP, .int (nI np)])), (aP, .inl (cI, 24 * 6, .inl (fl 6 P)))]) (QM D (some (.int (if okM a b c d = true then arow 24 np else -1))) [(pe, .inr (2, [.ref hP_])), (hP_, .inr (3, [.int (nI 24), .int (nI 6), .ref aP, .int (nI np)])), (aP, .inl (cI, 24 * 6, .inl (fl 6 P)))] [(pe, .inr (2, [.ref hP_])), (hP_, .inr (3, [.int (nI 24), .int (nI 6), .ref aP, .int (nI (if okM a b c d = true then adn 24 np else np))])), (aP, .inl (cI, 24 * 6, .inl (fl 6 (if okM a b c d = true then paddT np P a b c d else P))))]) 0 0 (adr [(pe, .inr (2, [.ref hP_])), (hP_, .inr (3, [.int (nI 24), .int (nI 6), .ref aP, .int (nI np)])), (aP, .inl (cI, 24 * 6, .inl (fl 6 P)))]) := by
  refine mu_of (cc := cX2_add) (maxL := 6) (ret := (some .int)) (by decide) rfl (Nat.le_of_ble_eq_true rfl) ?_
  intro pp ee ss mm bw me cd ls hx hb hr hts hown hlocks hml hK hl H locs hP hD hS
  have hl : lv_has ls 6 [(0, .ref pe), (1, .int a), (2, .int b), (3, .int c), (4, .int d)] := hl
  have hf16 := hts (.fieldLink RX2 16 "OtherNames$People" "rows" "LOtherNames$Rows;") (by decide +kernel)
  have hin2 := (show ∀ w ∈ wsX20, w ∈ wsX2_add by decide +kernel)
  refine lv_iload_n hx hb dX2_add_0 rfl (lv_at hl 1 rfl) ?_
  refine rcS (As := [.int a]) (rest := []) ⟨hx, hb, hml, hown, hts⟩ (kX2_isMarkNumber l D cI cZ a) (va_cwS 1 hts gX2_add_X2_isMarkNumber rfl rfl rfl (by decide +kernel) ⟨Nat.le_of_ble_eq_true rfl, Nat.le_of_ble_eq_true rfl⟩) hK hP [] rfl rfl hl.1 rfl (Nat.le_of_ble_eq_true rfl) ⟨Nat.zero_le _, Nat.zero_le _⟩ dX2_add_1 ?_
  refine lb_eq (tgt := 29) hx hb dX2_add_4 (by decide) (fun c_4 => ?_) (fun c_4 => ?_)
  · skip
    refine lv_iconst (v := (-1)) hx hb dX2_add_29 (by decide) ?_
    refine mu_iret hx hb hr hlocks hS dX2_add_30 ?_ ?_
    · first | (rw [if_pos (by simp [okM, c_4])] <;> rfl) | (rw [if_neg (by simp [okM, c_4])])
    have q0 : (nI (if okM a b c d = true then adn 24 np else np)) = (nI np) := by first | (rw [if_pos (by simp [okM, c_4])] <;> rfl) | (rw [if_neg (by simp [okM, c_4])])
    have q1 : (fl 6 (if okM a b c d = true then paddT np P a b c d else P)) = (fl 6 P) := by first | (rw [if_pos (by simp [okM, c_4])] <;> rfl) | (rw [if_neg (by simp [okM, c_4])])
    rw [q0, q1]
    exact hP
  · skip
    refine lv_iload_n hx hb dX2_add_7 rfl (lv_at hl 2 rfl) ?_
    refine rcS (As := [.int b]) (rest := []) ⟨hx, hb, hml, hown, hts⟩ (kX2_isMarkNumber l D cI cZ b) (va_cwS 1 hts gX2_add_X2_isMarkNumber rfl rfl rfl (by decide +kernel) ⟨Nat.le_of_ble_eq_true rfl, Nat.le_of_ble_eq_true rfl⟩) hK hP [] rfl rfl hl.1 rfl (Nat.le_of_ble_eq_true rfl) ⟨Nat.zero_le _, Nat.zero_le _⟩ dX2_add_8 ?_
    refine lb_eq (tgt := 29) hx hb dX2_add_11 (by decide) (fun c_11 => ?_) (fun c_11 => ?_)
    · skip
      refine lv_iconst (v := (-1)) hx hb dX2_add_29 (by decide) ?_
      refine mu_iret hx hb hr hlocks hS dX2_add_30 ?_ ?_
      · first | (rw [if_pos (by simp [okM, c_4, c_11])] <;> rfl) | (rw [if_neg (by simp [okM, c_4, c_11])])
      have q0 : (nI (if okM a b c d = true then adn 24 np else np)) = (nI np) := by first | (rw [if_pos (by simp [okM, c_4, c_11])] <;> rfl) | (rw [if_neg (by simp [okM, c_4, c_11])])
      have q1 : (fl 6 (if okM a b c d = true then paddT np P a b c d else P)) = (fl 6 P) := by first | (rw [if_pos (by simp [okM, c_4, c_11])] <;> rfl) | (rw [if_neg (by simp [okM, c_4, c_11])])
      rw [q0, q1]
      exact hP
    · skip
      refine lv_iload_n hx hb dX2_add_14 rfl (lv_at hl 3 rfl) ?_
      refine rcS (As := [.int c]) (rest := []) ⟨hx, hb, hml, hown, hts⟩ (kX2_isMarkNumber l D cI cZ c) (va_cwS 1 hts gX2_add_X2_isMarkNumber rfl rfl rfl (by decide +kernel) ⟨Nat.le_of_ble_eq_true rfl, Nat.le_of_ble_eq_true rfl⟩) hK hP [] rfl rfl hl.1 rfl (Nat.le_of_ble_eq_true rfl) ⟨Nat.zero_le _, Nat.zero_le _⟩ dX2_add_15 ?_
      refine lb_eq (tgt := 29) hx hb dX2_add_18 (by decide) (fun c_18 => ?_) (fun c_18 => ?_)
      · skip
        refine lv_iconst (v := (-1)) hx hb dX2_add_29 (by decide) ?_
        refine mu_iret hx hb hr hlocks hS dX2_add_30 ?_ ?_
        · first | (rw [if_pos (by simp [okM, c_4, c_11, c_18])] <;> rfl) | (rw [if_neg (by simp [okM, c_4, c_11, c_18])])
        have q0 : (nI (if okM a b c d = true then adn 24 np else np)) = (nI np) := by first | (rw [if_pos (by simp [okM, c_4, c_11, c_18])] <;> rfl) | (rw [if_neg (by simp [okM, c_4, c_11, c_18])])
        have q1 : (fl 6 (if okM a b c d = true then paddT np P a b c d else P)) = (fl 6 P) := by first | (rw [if_pos (by simp [okM, c_4, c_11, c_18])] <;> rfl) | (rw [if_neg (by simp [okM, c_4, c_11, c_18])])
        rw [q0, q1]
        exact hP
      · skip
        refine lv_iload hx hb dX2_add_21 (lv_at hl 4 rfl) ?_
        refine rcS (As := [.int d]) (rest := []) ⟨hx, hb, hml, hown, hts⟩ (kX2_isMarkNumber l D cI cZ d) (va_cwS 1 hts gX2_add_X2_isMarkNumber rfl rfl rfl (by decide +kernel) ⟨Nat.le_of_ble_eq_true rfl, Nat.le_of_ble_eq_true rfl⟩) hK hP [] rfl rfl hl.1 rfl (Nat.le_of_ble_eq_true rfl) ⟨Nat.zero_le _, Nat.zero_le _⟩ dX2_add_23 ?_
        refine lb_ne (tgt := 31) hx hb dX2_add_26 (by decide) (fun c_26 => ?_) (fun c_26 => ?_)
        · skip
          refine lv_aload_n hx hb dX2_add_31 rfl (lv_at hl 0 rfl) ?_
          refine va_get (D := D) (ci := 2) (v := .ref hP_) (C := RX2) (T := TX2) (N := 1) hx hb hts hin2 hown hK hP 0 rfl rfl 0 (by decide) hf16 (fun _ h9 => h9) rfl dX2_add_32 ?_
          refine mcV (As := []) (rest := []) (ci := 3) (wn := [(pe, .inr (2, [.ref hP_])), (hP_, .inr (3, [.int (nI 24), .int (nI 6), .ref aP, .int (nI (adn 24 np))])), (aP, .inl (cI, 24 * 6, .inl (fl 6 P)))]) ⟨hx, hb, hml, hown, hts⟩ (kX3_addRow l D cI cZ hP_ aP 24 6 np P (by first | assumption | omega)) (cwV 0 hts gX2_add_X3_addRow rfl rfl rfl (by decide +kernel) ⟨Nat.le_of_ble_eq_true rfl, Nat.le_of_ble_eq_true rfl⟩) hK hP hD hS [1, 2] rfl rfl rfl rfl rfl rfl rfl rfl rfl hl.1 rfl (Nat.le_of_ble_eq_true rfl) ⟨Nat.zero_le _, Nat.zero_le _⟩ dX2_add_35 (fun H locs hP hD hS => ?_)
          refine W.eq (g2 := F0 mm 38 ls (.int (arow 24 np) :: [])) rfl ?_
          refine lv_istore (lv' := [(5, .int (arow 24 np)), (0, .ref pe), (1, .int a), (2, .int b), (3, .int c), (4, .int d)]) hx hb dX2_add_38 hl (by decide) rfl (fun ls hl => ?_)
          refine lv_aload_n hx hb dX2_add_40 rfl (lv_at hl 1 rfl) ?_
          refine va_get (D := D) (ci := 2) (v := .ref hP_) (C := RX2) (T := TX2) (N := 1) hx hb hts hin2 hown hK hP 0 rfl rfl 0 (by decide) hf16 (fun _ h9 => h9) rfl dX2_add_41 ?_
          refine lv_iload hx hb dX2_add_44 (lv_at hl 0 rfl) ?_
          refine lv_iconst (v := 0) hx hb dX2_add_46 (by decide) ?_
          refine lv_iload_n hx hb dX2_add_47 rfl (lv_at hl 2 rfl) ?_
          refine mcV (As := [.int (arow 24 np), .int 0, .int a]) (rest := []) (ci := 3) (wn := [(pe, .inr (2, [.ref hP_])), (hP_, .inr (3, [.int (nI 24), .int (nI 6), .ref aP, .int (nI (adn 24 np))])), (aP, .inl (cI, 24 * 6, .inl (fl 6 (tput (adn 24 np) 6 P (arow 24 np) 0 a))))]) ⟨hx, hb, hml, hown, hts⟩ (kX3_put l D cI cZ hP_ aP 24 6 (adn 24 np) P (arow 24 np) 0 a (by have := adn_le hnp; omega)) (cwV 3 hts gX2_add_X3_put rfl rfl rfl (by decide +kernel) ⟨Nat.le_of_ble_eq_true rfl, Nat.le_of_ble_eq_true rfl⟩) hK hP hD hS [1, 2] rfl rfl rfl rfl rfl rfl rfl rfl rfl hl.1 rfl (Nat.le_of_ble_eq_true rfl) ⟨Nat.zero_le _, Nat.zero_le _⟩ dX2_add_48 (fun H locs hP hD hS => ?_)
          refine W.eq (g2 := F0 mm 51 ls []) rfl ?_
          refine lv_aload_n hx hb dX2_add_51 rfl (lv_at hl 1 rfl) ?_
          refine va_get (D := D) (ci := 2) (v := .ref hP_) (C := RX2) (T := TX2) (N := 1) hx hb hts hin2 hown hK hP 0 rfl rfl 0 (by decide) hf16 (fun _ h9 => h9) rfl dX2_add_52 ?_
          refine lv_iload hx hb dX2_add_55 (lv_at hl 0 rfl) ?_
          refine lv_iconst (v := 1) hx hb dX2_add_57 (by decide) ?_
          refine lv_iload_n hx hb dX2_add_58 rfl (lv_at hl 3 rfl) ?_
          refine mcV (As := [.int (arow 24 np), .int 1, .int b]) (rest := []) (ci := 3) (wn := [(pe, .inr (2, [.ref hP_])), (hP_, .inr (3, [.int (nI 24), .int (nI 6), .ref aP, .int (nI (adn 24 np))])), (aP, .inl (cI, 24 * 6, .inl (fl 6 (tput (adn 24 np) 6 (tput (adn 24 np) 6 P (arow 24 np) 0 a) (arow 24 np) 1 b))))]) ⟨hx, hb, hml, hown, hts⟩ (kX3_put l D cI cZ hP_ aP 24 6 (adn 24 np) (tput (adn 24 np) 6 P (arow 24 np) 0 a) (arow 24 np) 1 b (by have := adn_le hnp; omega)) (cwV 3 hts gX2_add_X3_put rfl rfl rfl (by decide +kernel) ⟨Nat.le_of_ble_eq_true rfl, Nat.le_of_ble_eq_true rfl⟩) hK hP hD hS [1, 2] rfl rfl rfl rfl rfl rfl rfl rfl rfl hl.1 rfl (Nat.le_of_ble_eq_true rfl) ⟨Nat.zero_le _, Nat.zero_le _⟩ dX2_add_59 (fun H locs hP hD hS => ?_)
          refine W.eq (g2 := F0 mm 62 ls []) rfl ?_
          refine lv_aload_n hx hb dX2_add_62 rfl (lv_at hl 1 rfl) ?_
          refine va_get (D := D) (ci := 2) (v := .ref hP_) (C := RX2) (T := TX2) (N := 1) hx hb hts hin2 hown hK hP 0 rfl rfl 0 (by decide) hf16 (fun _ h9 => h9) rfl dX2_add_63 ?_
          refine lv_iload hx hb dX2_add_66 (lv_at hl 0 rfl) ?_
          refine lv_iconst (v := 2) hx hb dX2_add_68 (by decide) ?_
          refine lv_iload_n hx hb dX2_add_69 rfl (lv_at hl 4 rfl) ?_
          refine mcV (As := [.int (arow 24 np), .int 2, .int c]) (rest := []) (ci := 3) (wn := [(pe, .inr (2, [.ref hP_])), (hP_, .inr (3, [.int (nI 24), .int (nI 6), .ref aP, .int (nI (adn 24 np))])), (aP, .inl (cI, 24 * 6, .inl (fl 6 (tput (adn 24 np) 6 (tput (adn 24 np) 6 (tput (adn 24 np) 6 P (arow 24 np) 0 a) (arow 24 np) 1 b) (arow 24 np) 2 c))))]) ⟨hx, hb, hml, hown, hts⟩ (kX3_put l D cI cZ hP_ aP 24 6 (adn 24 np) (tput (adn 24 np) 6 (tput (adn 24 np) 6 P (arow 24 np) 0 a) (arow 24 np) 1 b) (arow 24 np) 2 c (by have := adn_le hnp; omega)) (cwV 3 hts gX2_add_X3_put rfl rfl rfl (by decide +kernel) ⟨Nat.le_of_ble_eq_true rfl, Nat.le_of_ble_eq_true rfl⟩) hK hP hD hS [1, 2] rfl rfl rfl rfl rfl rfl rfl rfl rfl hl.1 rfl (Nat.le_of_ble_eq_true rfl) ⟨Nat.zero_le _, Nat.zero_le _⟩ dX2_add_70 (fun H locs hP hD hS => ?_)
          refine W.eq (g2 := F0 mm 73 ls []) rfl ?_
          refine lv_aload_n hx hb dX2_add_73 rfl (lv_at hl 1 rfl) ?_
          refine va_get (D := D) (ci := 2) (v := .ref hP_) (C := RX2) (T := TX2) (N := 1) hx hb hts hin2 hown hK hP 0 rfl rfl 0 (by decide) hf16 (fun _ h9 => h9) rfl dX2_add_74 ?_
          refine lv_iload hx hb dX2_add_77 (lv_at hl 0 rfl) ?_
          refine lv_iconst (v := 3) hx hb dX2_add_79 (by decide) ?_
          refine lv_iload hx hb dX2_add_80 (lv_at hl 5 rfl) ?_
          refine mcV (As := [.int (arow 24 np), .int 3, .int d]) (rest := []) (ci := 3) (wn := [(pe, .inr (2, [.ref hP_])), (hP_, .inr (3, [.int (nI 24), .int (nI 6), .ref aP, .int (nI (adn 24 np))])), (aP, .inl (cI, 24 * 6, .inl (fl 6 (tput (adn 24 np) 6 (tput (adn 24 np) 6 (tput (adn 24 np) 6 (tput (adn 24 np) 6 P (arow 24 np) 0 a) (arow 24 np) 1 b) (arow 24 np) 2 c) (arow 24 np) 3 d))))]) ⟨hx, hb, hml, hown, hts⟩ (kX3_put l D cI cZ hP_ aP 24 6 (adn 24 np) (tput (adn 24 np) 6 (tput (adn 24 np) 6 (tput (adn 24 np) 6 P (arow 24 np) 0 a) (arow 24 np) 1 b) (arow 24 np) 2 c) (arow 24 np) 3 d (by have := adn_le hnp; omega)) (cwV 3 hts gX2_add_X3_put rfl rfl rfl (by decide +kernel) ⟨Nat.le_of_ble_eq_true rfl, Nat.le_of_ble_eq_true rfl⟩) hK hP hD hS [1, 2] rfl rfl rfl rfl rfl rfl rfl rfl rfl hl.1 rfl (Nat.le_of_ble_eq_true rfl) ⟨Nat.zero_le _, Nat.zero_le _⟩ dX2_add_82 (fun H locs hP hD hS => ?_)
          refine W.eq (g2 := F0 mm 85 ls []) rfl ?_
          refine lv_aload_n hx hb dX2_add_85 rfl (lv_at hl 1 rfl) ?_
          refine va_get (D := D) (ci := 2) (v := .ref hP_) (C := RX2) (T := TX2) (N := 1) hx hb hts hin2 hown hK hP 0 rfl rfl 0 (by decide) hf16 (fun _ h9 => h9) rfl dX2_add_86 ?_
          refine lv_iload hx hb dX2_add_89 (lv_at hl 0 rfl) ?_
          refine lv_iconst (v := 4) hx hb dX2_add_91 (by decide) ?_
          refine lv_iconst (v := (-1)) hx hb dX2_add_92 (by decide) ?_
          refine mcV (As := [.int (arow 24 np), .int 4, .int ((-1))]) (rest := []) (ci := 3) (wn := [(pe, .inr (2, [.ref hP_])), (hP_, .inr (3, [.int (nI 24), .int (nI 6), .ref aP, .int (nI (adn 24 np))])), (aP, .inl (cI, 24 * 6, .inl (fl 6 (tput (adn 24 np) 6 (tput (adn 24 np) 6 (tput (adn 24 np) 6 (tput (adn 24 np) 6 (tput (adn 24 np) 6 P (arow 24 np) 0 a) (arow 24 np) 1 b) (arow 24 np) 2 c) (arow 24 np) 3 d) (arow 24 np) 4 (-1)))))]) ⟨hx, hb, hml, hown, hts⟩ (kX3_put l D cI cZ hP_ aP 24 6 (adn 24 np) (tput (adn 24 np) 6 (tput (adn 24 np) 6 (tput (adn 24 np) 6 (tput (adn 24 np) 6 P (arow 24 np) 0 a) (arow 24 np) 1 b) (arow 24 np) 2 c) (arow 24 np) 3 d) (arow 24 np) 4 (-1) (by have := adn_le hnp; omega)) (cwV 3 hts gX2_add_X3_put rfl rfl rfl (by decide +kernel) ⟨Nat.le_of_ble_eq_true rfl, Nat.le_of_ble_eq_true rfl⟩) hK hP hD hS [1, 2] rfl rfl rfl rfl rfl rfl rfl rfl rfl hl.1 rfl (Nat.le_of_ble_eq_true rfl) ⟨Nat.zero_le _, Nat.zero_le _⟩ dX2_add_93 (fun H locs hP hD hS => ?_)
          refine W.eq (g2 := F0 mm 96 ls []) rfl ?_
          refine lv_aload_n hx hb dX2_add_96 rfl (lv_at hl 1 rfl) ?_
          refine va_get (D := D) (ci := 2) (v := .ref hP_) (C := RX2) (T := TX2) (N := 1) hx hb hts hin2 hown hK hP 0 rfl rfl 0 (by decide) hf16 (fun _ h9 => h9) rfl dX2_add_97 ?_
          refine lv_iload hx hb dX2_add_100 (lv_at hl 0 rfl) ?_
          refine lv_iconst (v := 5) hx hb dX2_add_102 (by decide) ?_
          refine lv_iconst (v := 0) hx hb dX2_add_103 (by decide) ?_
          refine mcV (As := [.int (arow 24 np), .int 5, .int 0]) (rest := []) (ci := 3) (wn := [(pe, .inr (2, [.ref hP_])), (hP_, .inr (3, [.int (nI 24), .int (nI 6), .ref aP, .int (nI (adn 24 np))])), (aP, .inl (cI, 24 * 6, .inl (fl 6 (tput (adn 24 np) 6 (tput (adn 24 np) 6 (tput (adn 24 np) 6 (tput (adn 24 np) 6 (tput (adn 24 np) 6 (tput (adn 24 np) 6 P (arow 24 np) 0 a) (arow 24 np) 1 b) (arow 24 np) 2 c) (arow 24 np) 3 d) (arow 24 np) 4 (-1)) (arow 24 np) 5 0))))]) ⟨hx, hb, hml, hown, hts⟩ (kX3_put l D cI cZ hP_ aP 24 6 (adn 24 np) (tput (adn 24 np) 6 (tput (adn 24 np) 6 (tput (adn 24 np) 6 (tput (adn 24 np) 6 (tput (adn 24 np) 6 P (arow 24 np) 0 a) (arow 24 np) 1 b) (arow 24 np) 2 c) (arow 24 np) 3 d) (arow 24 np) 4 (-1)) (arow 24 np) 5 0 (by have := adn_le hnp; omega)) (cwV 3 hts gX2_add_X3_put rfl rfl rfl (by decide +kernel) ⟨Nat.le_of_ble_eq_true rfl, Nat.le_of_ble_eq_true rfl⟩) hK hP hD hS [1, 2] rfl rfl rfl rfl rfl rfl rfl rfl rfl hl.1 rfl (Nat.le_of_ble_eq_true rfl) ⟨Nat.zero_le _, Nat.zero_le _⟩ dX2_add_104 (fun H locs hP hD hS => ?_)
          refine W.eq (g2 := F0 mm 107 ls []) rfl ?_
          refine lv_iload hx hb dX2_add_107 (lv_at hl 0 rfl) ?_
          refine mu_iret hx hb hr hlocks hS dX2_add_109 ?_ ?_
          · first | (rw [if_pos (by simp [okM, c_4, c_11, c_18, c_26])] <;> rfl) | (rw [if_neg (by simp [okM, c_4, c_11, c_18, c_26])])
          have q0 : (nI (if okM a b c d = true then adn 24 np else np)) = (nI (adn 24 np)) := by first | (rw [if_pos (by simp [okM, c_4, c_11, c_18, c_26])] <;> rfl) | (rw [if_neg (by simp [okM, c_4, c_11, c_18, c_26])])
          have q1 : (fl 6 (if okM a b c d = true then paddT np P a b c d else P)) = (fl 6 (tput (adn 24 np) 6 (tput (adn 24 np) 6 (tput (adn 24 np) 6 (tput (adn 24 np) 6 (tput (adn 24 np) 6 (tput (adn 24 np) 6 P (arow 24 np) 0 a) (arow 24 np) 1 b) (arow 24 np) 2 c) (arow 24 np) 3 d) (arow 24 np) 4 (-1)) (arow 24 np) 5 0)) := by first | (rw [if_pos (by simp [okM, c_4, c_11, c_18, c_26])] <;> rfl) | (rw [if_neg (by simp [okM, c_4, c_11, c_18, c_26])])
          rw [q0, q1]
          exact hP
        · skip
          refine lv_iconst (v := (-1)) hx hb dX2_add_29 (by decide) ?_
          refine mu_iret hx hb hr hlocks hS dX2_add_30 ?_ ?_
          · first | (rw [if_pos (by simp [okM, c_4, c_11, c_18, c_26])] <;> rfl) | (rw [if_neg (by simp [okM, c_4, c_11, c_18, c_26])])
          have q0 : (nI (if okM a b c d = true then adn 24 np else np)) = (nI np) := by first | (rw [if_pos (by simp [okM, c_4, c_11, c_18, c_26])] <;> rfl) | (rw [if_neg (by simp [okM, c_4, c_11, c_18, c_26])])
          have q1 : (fl 6 (if okM a b c d = true then paddT np P a b c d else P)) = (fl 6 P) := by first | (rw [if_pos (by simp [okM, c_4, c_11, c_18, c_26])] <;> rfl) | (rw [if_neg (by simp [okM, c_4, c_11, c_18, c_26])])
          rw [q0, q1]
          exact hP
set_option maxHeartbeats 4000000 in
set_option maxRecDepth 100000 in
theorem kX2_setMark (l : Launch) (D : va_G) (cI cZ : ClassId) (pe hP_ aP np : Nat) (P : Nat → Nat → Int32) (p : Int32) (m : Int32) (n : Int32) (hnp : np ≤ 24) : Met l yX2_setMark wsX2_setMark ({ frames := 2, cells := 0, slots := 0, locals := 45 } : Room) (MuP D [(cI, .int), (cZ, .boolean)] [.ref pe, .int p, .int m, .int n] [(pe, .inr (2, [.ref hP_])), (hP_, .inr (3, [.int (nI 24), .int (nI 6), .ref aP, .int (nI np)])), (aP, .inl (cI, 24 * 6, .inl (fl 6 P)))]) (QM D (some (.int (bI (inR np p && inB m 0 3 && inB n 0 7)))) [(pe, .inr (2, [.ref hP_])), (hP_, .inr (3, [.int (nI 24), .int (nI 6), .ref aP, .int (nI np)])), (aP, .inl (cI, 24 * 6, .inl (fl 6 P)))] [(pe, .inr (2, [.ref hP_])), (hP_, .inr (3, [.int (nI 24), .int (nI 6), .ref aP, .int (nI np)])), (aP, .inl (cI, 24 * 6, .inl (fl 6 (if (inR np p && inB m 0 3 && inB n 0 7) = true then tput np 6 P p m n else P))))]) 0 0 (adr [(pe, .inr (2, [.ref hP_])), (hP_, .inr (3, [.int (nI 24), .int (nI 6), .ref aP, .int (nI np)])), (aP, .inl (cI, 24 * 6, .inl (fl 6 P)))]) := by
  refine mu_of (cc := cX2_setMark) (maxL := 4) (ret := (some .boolean)) (by decide) rfl (Nat.le_of_ble_eq_true rfl) ?_
  intro pp ee ss mm bw me cd ls hx hb hr hts hown hlocks hml hK hl H locs hP hD hS
  have hl : lv_has ls 4 [(0, .ref pe), (1, .int p), (2, .int m), (3, .int n)] := hl
  have hf16 := hts (.fieldLink RX2 16 "OtherNames$People" "rows" "LOtherNames$Rows;") (by decide +kernel)
  have hin2 := (show ∀ w ∈ wsX20, w ∈ wsX2_setMark by decide +kernel)
  refine lv_aload_n hx hb dX2_setMark_0 rfl (lv_at hl 0 rfl) ?_
  refine lv_iload_n hx hb dX2_setMark_1 rfl (lv_at hl 1 rfl) ?_
  refine rcV (As := [.int p]) (rest := []) (ci := 2) ⟨hx, hb, hml, hown, hts⟩ (kX2_isThere l D cI cZ pe hP_ aP np P p (by first | assumption | omega)) (cwV 1 hts gX2_setMark_X2_isThere rfl rfl rfl (by decide +kernel) ⟨Nat.le_of_ble_eq_true rfl, Nat.le_of_ble_eq_true rfl⟩) hK hP [0, 1, 2] rfl rfl rfl rfl rfl hl.1 rfl (Nat.le_of_ble_eq_true rfl) ⟨Nat.zero_le _, Nat.zero_le _⟩ dX2_setMark_2 ?_
  refine lb_eq (tgt := 22) hx hb dX2_setMark_5 (by decide) (fun c_5 => ?_) (fun c_5 => ?_)
  · skip
    refine lv_iconst (v := 0) hx hb dX2_setMark_22 (by decide) ?_
    refine mu_zret hx hb hr hlocks hS dX2_setMark_23 ?_ ?_
    · simp [bI, c_5]
    have q0 : (fl 6 (if (inR np p && inB m 0 3 && inB n 0 7) = true then tput np 6 P p m n else P)) = (fl 6 P) := by simp [c_5]
    rw [q0]
    exact hP
  · skip
    refine lv_iload_n hx hb dX2_setMark_8 rfl (lv_at hl 2 rfl) ?_
    refine rcS (As := [.int m]) (rest := []) ⟨hx, hb, hml, hown, hts⟩ (kX2_isMark l D cI cZ m) (va_cwS 1 hts gX2_setMark_X2_isMark rfl rfl rfl (by decide +kernel) ⟨Nat.le_of_ble_eq_true rfl, Nat.le_of_ble_eq_true rfl⟩) hK hP [] rfl rfl hl.1 rfl (Nat.le_of_ble_eq_true rfl) ⟨Nat.zero_le _, Nat.zero_le _⟩ dX2_setMark_9 ?_
    refine lb_eq (tgt := 22) hx hb dX2_setMark_12 (by decide) (fun c_12 => ?_) (fun c_12 => ?_)
    · skip
      refine lv_iconst (v := 0) hx hb dX2_setMark_22 (by decide) ?_
      refine mu_zret hx hb hr hlocks hS dX2_setMark_23 ?_ ?_
      · simp [bI, c_5, c_12]
      have q0 : (fl 6 (if (inR np p && inB m 0 3 && inB n 0 7) = true then tput np 6 P p m n else P)) = (fl 6 P) := by simp [c_5, c_12]
      rw [q0]
      exact hP
    · skip
      refine lv_iload_n hx hb dX2_setMark_15 rfl (lv_at hl 3 rfl) ?_
      refine rcS (As := [.int n]) (rest := []) ⟨hx, hb, hml, hown, hts⟩ (kX2_isMarkNumber l D cI cZ n) (va_cwS 1 hts gX2_setMark_X2_isMarkNumber rfl rfl rfl (by decide +kernel) ⟨Nat.le_of_ble_eq_true rfl, Nat.le_of_ble_eq_true rfl⟩) hK hP [] rfl rfl hl.1 rfl (Nat.le_of_ble_eq_true rfl) ⟨Nat.zero_le _, Nat.zero_le _⟩ dX2_setMark_16 ?_
      refine lb_ne (tgt := 24) hx hb dX2_setMark_19 (by decide) (fun c_19 => ?_) (fun c_19 => ?_)
      · skip
        refine lv_aload_n hx hb dX2_setMark_24 rfl (lv_at hl 0 rfl) ?_
        refine va_get (D := D) (ci := 2) (v := .ref hP_) (C := RX2) (T := TX2) (N := 1) hx hb hts hin2 hown hK hP 0 rfl rfl 0 (by decide) hf16 (fun _ h9 => h9) rfl dX2_setMark_25 ?_
        refine lv_iload_n hx hb dX2_setMark_28 rfl (lv_at hl 1 rfl) ?_
        refine lv_iload_n hx hb dX2_setMark_29 rfl (lv_at hl 2 rfl) ?_
        refine lv_iload_n hx hb dX2_setMark_30 rfl (lv_at hl 3 rfl) ?_
        refine mcV (As := [.int p, .int m, .int n]) (rest := []) (ci := 3) (wn := [(pe, .inr (2, [.ref hP_])), (hP_, .inr (3, [.int (nI 24), .int (nI 6), .ref aP, .int (nI np)])), (aP, .inl (cI, 24 * 6, .inl (fl 6 (tput np 6 P p m n))))]) ⟨hx, hb, hml, hown, hts⟩ (kX3_put l D cI cZ hP_ aP 24 6 np P p m n (by first | assumption | omega)) (cwV 3 hts gX2_setMark_X3_put rfl rfl rfl (by decide +kernel) ⟨Nat.le_of_ble_eq_true rfl, Nat.le_of_ble_eq_true rfl⟩) hK hP hD hS [1, 2] rfl rfl rfl rfl rfl rfl rfl rfl rfl hl.1 rfl (Nat.le_of_ble_eq_true rfl) ⟨Nat.zero_le _, Nat.zero_le _⟩ dX2_setMark_31 (fun H locs hP hD hS => ?_)
        refine W.eq (g2 := F0 mm 34 ls []) rfl ?_
        refine lv_iconst (v := 1) hx hb dX2_setMark_34 (by decide) ?_
        refine mu_zret hx hb hr hlocks hS dX2_setMark_35 ?_ ?_
        · simp [bI, c_5, c_12, c_19]
        have q0 : (fl 6 (if (inR np p && inB m 0 3 && inB n 0 7) = true then tput np 6 P p m n else P)) = (fl 6 (tput np 6 P p m n)) := by simp [c_5, c_12, c_19]
        rw [q0]
        exact hP
      · skip
        refine lv_iconst (v := 0) hx hb dX2_setMark_22 (by decide) ?_
        refine mu_zret hx hb hr hlocks hS dX2_setMark_23 ?_ ?_
        · simp [bI, c_5, c_12, c_19]
        have q0 : (fl 6 (if (inR np p && inB m 0 3 && inB n 0 7) = true then tput np 6 P p m n else P)) = (fl 6 P) := by simp [c_5, c_12, c_19]
        rw [q0]
        exact hP
set_option maxHeartbeats 4000000 in
set_option maxRecDepth 100000 in
theorem kX2_leave (l : Launch) (D : va_G) (cI cZ : ClassId) (pe hP_ aP np : Nat) (P : Nat → Nat → Int32) (p : Int32) (hnp : np ≤ 24) : Met l yX2_leave wsX2_leave ({ frames := 3, cells := 0, slots := 0, locals := 65 } : Room) (MuP D [(cI, .int), (cZ, .boolean)] [.ref pe, .int p] [(pe, .inr (2, [.ref hP_])), (hP_, .inr (3, [.int (nI 24), .int (nI 6), .ref aP, .int (nI np)])), (aP, .inl (cI, 24 * 6, .inl (fl 6 P)))]) (QM D (some (.int (bI (!decide (tat np 6 P p 4 = -1))))) [(pe, .inr (2, [.ref hP_])), (hP_, .inr (3, [.int (nI 24), .int (nI 6), .ref aP, .int (nI np)])), (aP, .inl (cI, 24 * 6, .inl (fl 6 P)))] [(pe, .inr (2, [.ref hP_])), (hP_, .inr (3, [.int (nI 24), .int (nI 6), .ref aP, .int (nI np)])), (aP, .inl (cI, 24 * 6, .inl (fl 6 (if tat np 6 P p 4 = -1 then P else tput np 6 P p 4 (-1)))))]) 0 0 (adr [(pe, .inr (2, [.ref hP_])), (hP_, .inr (3, [.int (nI 24), .int (nI 6), .ref aP, .int (nI np)])), (aP, .inl (cI, 24 * 6, .inl (fl 6 P)))]) := by
  refine mu_of (cc := cX2_leave) (maxL := 2) (ret := (some .boolean)) (by decide) rfl (Nat.le_of_ble_eq_true rfl) ?_
  intro pp ee ss mm bw me cd ls hx hb hr hts hown hlocks hml hK hl H locs hP hD hS
  have hl : lv_has ls 2 [(0, .ref pe), (1, .int p)] := hl
  have hf16 := hts (.fieldLink RX2 16 "OtherNames$People" "rows" "LOtherNames$Rows;") (by decide +kernel)
  have hin2 := (show ∀ w ∈ wsX20, w ∈ wsX2_leave by decide +kernel)
  refine lv_aload_n hx hb dX2_leave_0 rfl (lv_at hl 0 rfl) ?_
  refine lv_iload_n hx hb dX2_leave_1 rfl (lv_at hl 1 rfl) ?_
  refine rcV (As := [.int p]) (rest := []) (ci := 2) ⟨hx, hb, hml, hown, hts⟩ (kX2_holderOf l D cI cZ pe hP_ aP np P p (by first | assumption | omega)) (cwV 1 hts gX2_leave_X2_holderOf rfl rfl rfl (by decide +kernel) ⟨Nat.le_of_ble_eq_true rfl, Nat.le_of_ble_eq_true rfl⟩) hK hP [0, 1, 2] rfl rfl rfl rfl rfl hl.1 rfl (Nat.le_of_ble_eq_true rfl) ⟨Nat.zero_le _, Nat.zero_le _⟩ dX2_leave_2 ?_
  refine lv_iconst (v := (-1)) hx hb dX2_leave_5 (by decide) ?_
  refine lv_icmp_ne (tgt := 11) hx hb dX2_leave_6 (by decide) (fun c_6 => ?_) (fun c_6 => ?_)
  · skip
    refine lv_aload_n hx hb dX2_leave_11 rfl (lv_at hl 0 rfl) ?_
    refine va_get (D := D) (ci := 2) (v := .ref hP_) (C := RX2) (T := TX2) (N := 1) hx hb hts hin2 hown hK hP 0 rfl rfl 0 (by decide) hf16 (fun _ h9 => h9) rfl dX2_leave_12 ?_
    refine lv_iload_n hx hb dX2_leave_15 rfl (lv_at hl 1 rfl) ?_
    refine lv_iconst (v := 4) hx hb dX2_leave_16 (by decide) ?_
    refine lv_iconst (v := (-1)) hx hb dX2_leave_17 (by decide) ?_
    refine mcV (As := [.int p, .int 4, .int ((-1))]) (rest := []) (ci := 3) (wn := [(pe, .inr (2, [.ref hP_])), (hP_, .inr (3, [.int (nI 24), .int (nI 6), .ref aP, .int (nI np)])), (aP, .inl (cI, 24 * 6, .inl (fl 6 (tput np 6 P p 4 (-1)))))]) ⟨hx, hb, hml, hown, hts⟩ (kX3_put l D cI cZ hP_ aP 24 6 np P p 4 (-1) (by first | assumption | omega)) (cwV 3 hts gX2_leave_X3_put rfl rfl rfl (by decide +kernel) ⟨Nat.le_of_ble_eq_true rfl, Nat.le_of_ble_eq_true rfl⟩) hK hP hD hS [1, 2] rfl rfl rfl rfl rfl rfl rfl rfl rfl hl.1 rfl (Nat.le_of_ble_eq_true rfl) ⟨Nat.zero_le _, Nat.zero_le _⟩ dX2_leave_18 (fun H locs hP hD hS => ?_)
    refine W.eq (g2 := F0 mm 21 ls []) rfl ?_
    refine lv_iconst (v := 1) hx hb dX2_leave_21 (by decide) ?_
    refine mu_zret hx hb hr hlocks hS dX2_leave_22 ?_ ?_
    · simp [bI, c_6]
    have q0 : (fl 6 (if tat np 6 P p 4 = -1 then P else tput np 6 P p 4 (-1))) = (fl 6 (tput np 6 P p 4 (-1))) := by simp [c_6]
    rw [q0]
    exact hP
  · skip
    refine lv_iconst (v := 0) hx hb dX2_leave_9 (by decide) ?_
    refine mu_zret hx hb hr hlocks hS dX2_leave_10 ?_ ?_
    · simp [bI, c_6]
    have q0 : (fl 6 (if tat np 6 P p 4 = -1 then P else tput np 6 P p 4 (-1))) = (fl 6 P) := by simp [c_6]
    rw [q0]
    exact hP
set_option maxHeartbeats 4000000 in
set_option maxRecDepth 100000 in
theorem kX2_strikeOutAllUnder (l : Launch) (D : va_G) (cI cZ : ClassId) (pe hP_ aP np : Nat) (P : Nat → Nat → Int32) (h : Nat) (hnp : np ≤ 24) (hw : HP np (P 4)) (hh : h < 2 ^ 31) : Met l yX2_strikeOutAllUnder wsX2_strikeOutAllUnder ({ frames := 3, cells := 0, slots := 0, locals := 67 } : Room) (MuP D [(cI, .int), (cZ, .boolean)] [.ref pe, .int (nI h)] [(pe, .inr (2, [.ref hP_])), (hP_, .inr (3, [.int (nI 24), .int (nI 6), .ref aP, .int (nI np)])), (aP, .inl (cI, 24 * 6, .inl (fl 6 P)))]) (QM D none [(pe, .inr (2, [.ref hP_])), (hP_, .inr (3, [.int (nI 24), .int (nI 6), .ref aP, .int (nI np)])), (aP, .inl (cI, 24 * 6, .inl (fl 6 P)))] [(pe, .inr (2, [.ref hP_])), (hP_, .inr (3, [.int (nI 24), .int (nI 6), .ref aP, .int (nI np)])), (aP, .inl (cI, 24 * 6, .inl (fl 6 (strk np P h 24))))]) 0 0 (adr [(pe, .inr (2, [.ref hP_])), (hP_, .inr (3, [.int (nI 24), .int (nI 6), .ref aP, .int (nI np)])), (aP, .inl (cI, 24 * 6, .inl (fl 6 P)))]) := by
  refine mu_of (cc := cX2_strikeOutAllUnder) (maxL := 3) (ret := none) (by decide) rfl (Nat.le_of_ble_eq_true rfl) ?_
  intro pp ee ss mm bw me cd ls hx hb hr hts hown hlocks hml hK hl H locs hP hD hS
  have hl : lv_has ls 3 [(0, .ref pe), (1, .int ((nI h)))] := hl
  have hf16 := hts (.fieldLink RX2 16 "OtherNames$People" "rows" "LOtherNames$Rows;") (by decide +kernel)
  have hin2 := (show ∀ w ∈ wsX20, w ∈ wsX2_strikeOutAllUnder by decide +kernel)
  refine lv_iconst (v := 0) hx hb dX2_strikeOutAllUnder_0 (by decide) ?_
  refine lv_istore_n (lv' := [(2, .int 0), (0, .ref pe), (1, .int ((nI h)))]) hx hb dX2_strikeOutAllUnder_1 rfl hl (by decide) rfl (fun ls hl => ?_)
  have loop : ∀ (k : Nat) (i : Nat) (H : Heap) (locs : List Loc) (ls : Array Slot), i ≤ 24 → 24 < i + k → lv_has ls 3 [(0, .ref pe), (1, .int ((nI h))), (2, .int (nI i))] → va_P D vwCl [(pe, .inr (2, [.ref hP_])), (hP_, .inr (3, [.int (nI 24), .int (nI 6), .ref aP, .int (nI np)])), (aP, .inl (cI, 24 * 6, .inl (fl 6 (strk np P h i))))] H → va_D (adr [(pe, .inr (2, [.ref hP_])), (hP_, .inr (3, [.int (nI 24), .int (nI 6), .ref aP, .int (nI np)])), (aP, .inl (cI, 24 * 6, .inl (fl 6 P)))]) [(pe, .inr (2, [.ref hP_])), (hP_, .inr (3, [.int (nI 24), .int (nI 6), .ref aP, .int (nI np)])), (aP, .inl (cI, 24 * 6, .inl (fl 6 (strk np P h i))))] → va_S (adr [(pe, .inr (2, [.ref hP_])), (hP_, .inr (3, [.int (nI 24), .int (nI 6), .ref aP, .int (nI np)])), (aP, .inl (cI, 24 * 6, .inl (fl 6 P)))]) ss.heap H locs → W pp l ee ({ frames := 3, cells := 0, slots := 0, locals := 67 } : Room) ss mm ([.ref pe, .int (nI h)] : List Value).toArray bw me cd H locs 0 0 (MQ bw (QM D none [(pe, .inr (2, [.ref hP_])), (hP_, .inr (3, [.int (nI 24), .int (nI 6), .ref aP, .int (nI np)])), (aP, .inl (cI, 24 * 6, .inl (fl 6 P)))] [(pe, .inr (2, [.ref hP_])), (hP_, .inr (3, [.int (nI 24), .int (nI 6), .ref aP, .int (nI np)])), (aP, .inl (cI, 24 * 6, .inl (fl 6 (strk np P h 24))))]) ([.ref pe, .int (nI h)] : List Value).toArray ss 0 0 (adr [(pe, .inr (2, [.ref hP_])), (hP_, .inr (3, [.int (nI 24), .int (nI 6), .ref aP, .int (nI np)])), (aP, .inl (cI, 24 * 6, .inl (fl 6 P)))])) (F0 mm 2 ls []) := by
    intro k
    induction k with
    | zero => intro i H locs ls hi hk; exact absurd hk (by omega)
    | succ k ih =>
      intro i H locs ls hi hk hl hP hD hS
      refine lv_iload_n hx hb dX2_strikeOutAllUnder_2 rfl (lv_at hl 2 rfl) ?_
      refine lv_bipush (v := 24) hx hb dX2_strikeOutAllUnder_3 (by decide) ?_
      refine lv_icmp_ge (tgt := 41) hx hb dX2_strikeOutAllUnder_5 (by decide) (fun c_5 => ?_) (fun c_5 => ?_)
      · skip
        have hi2 : i = 24 := Nat.le_antisymm hi (lit_T c_5 24 rfl (by omega) (by omega))
        refine mu_vret hx hb hr hlocks hS dX2_strikeOutAllUnder_41 ?_
        have q0 : (fl 6 (strk np P h 24)) = (fl 6 (strk np P h i)) := by rw [hi2]
        rw [q0]
        exact hP
      · skip
        have hi2 : i < 24 := lit_F c_5 24 rfl (by omega) (by omega)
        refine lv_aload_n hx hb dX2_strikeOutAllUnder_8 rfl (lv_at hl 0 rfl) ?_
        refine lv_iload_n hx hb dX2_strikeOutAllUnder_9 rfl (lv_at hl 2 rfl) ?_
        refine rcV (As := [.int (nI i)]) (rest := []) (ci := 2) ⟨hx, hb, hml, hown, hts⟩ (kX2_isThere l D cI cZ pe hP_ aP np (strk np P h i) (nI i) (by first | assumption | omega)) (cwV 1 hts gX2_strikeOutAllUnder_X2_isThere rfl rfl rfl (by decide +kernel) ⟨Nat.le_of_ble_eq_true rfl, Nat.le_of_ble_eq_true rfl⟩) hK hP [0, 1, 2] rfl rfl rfl rfl rfl hl.1 rfl (Nat.le_of_ble_eq_true rfl) ⟨Nat.zero_le _, Nat.zero_le _⟩ dX2_strikeOutAllUnder_10 ?_
        refine lb_eq (tgt := 35) hx hb dX2_strikeOutAllUnder_13 (by decide) (fun c_13 => ?_) (fun c_13 => ?_)
        · skip
          have hno : ¬ (i < np ∧ hd (P 4) i = h) := fun q => of_decide_eq_false ((inR_nI (n := np) (j := i) (by omega) (by omega)).symm.trans c_13) q.1
          refine lv_iinc (v := (nI i) + 1) (lv' := [(2, .int (((nI i) + 1))), (0, .ref pe), (1, .int ((nI h)))]) hx hb dX2_strikeOutAllUnder_35 hl (k := 2) rfl rfl (by decide) rfl (fun ls hl => ?_)
          refine lv_goto (tgt := 2) hx hb dX2_strikeOutAllUnder_38 (by decide) ?_
          rw [nI_1 i] at hl
          have q0 : (fl 6 (strk np P h (i + 1))) = (fl 6 (strk np P h i)) := by exact congrArg (fl 6) (strk_no hno).symm
          have hP : va_P D vwCl [(pe, .inr (2, [.ref hP_])), (hP_, .inr (3, [.int (nI 24), .int (nI 6), .ref aP, .int (nI np)])), (aP, .inl (cI, 24 * 6, .inl (fl 6 (strk np P h (i + 1)))))] H := by rw [q0]; exact hP
          have hD : va_D (adr [(pe, .inr (2, [.ref hP_])), (hP_, .inr (3, [.int (nI 24), .int (nI 6), .ref aP, .int (nI np)])), (aP, .inl (cI, 24 * 6, .inl (fl 6 P)))]) [(pe, .inr (2, [.ref hP_])), (hP_, .inr (3, [.int (nI 24), .int (nI 6), .ref aP, .int (nI np)])), (aP, .inl (cI, 24 * 6, .inl (fl 6 (strk np P h (i + 1)))))] := hD.fst rfl
          exact ih (i + 1) H locs ls (by omega) (by omega) (lv_sub hl [1, 2, 0] rfl) hP hD hS
        · skip
          have hin : i < np := of_decide_eq_true ((inR_nI (n := np) (j := i) (by omega) (by omega)).symm.trans c_13)
          refine lv_aload_n hx hb dX2_strikeOutAllUnder_16 rfl (lv_at hl 0 rfl) ?_
          refine lv_iload_n hx hb dX2_strikeOutAllUnder_17 rfl (lv_at hl 2 rfl) ?_
          refine rcV (As := [.int (nI i)]) (rest := []) (ci := 2) ⟨hx, hb, hml, hown, hts⟩ (kX2_headOf l D cI cZ pe hP_ aP np (strk np P h i) i (by first | assumption | omega) (by rw [strk_4]; exact hw) (by first | assumption | omega)) (cwV 1 hts gX2_strikeOutAllUnder_X2_headOf rfl rfl rfl (by decide +kernel) ⟨Nat.le_of_ble_eq_true rfl, Nat.le_of_ble_eq_true rfl⟩) hK hP [0, 1, 2] rfl rfl rfl rfl rfl hl.1 rfl (Nat.le_of_ble_eq_true rfl) ⟨Nat.zero_le _, Nat.zero_le _⟩ dX2_strikeOutAllUnder_18 ?_
          rw [show nI (hd ((strk np P h i) 4) i) = nI (hd (P 4) i) from by rw [strk_4]]
          refine lv_iload_n hx hb dX2_strikeOutAllUnder_21 rfl (lv_at hl 1 rfl) ?_
          refine lv_icmp_ne (tgt := 35) hx hb dX2_strikeOutAllUnder_22 (by decide) (fun c_22 => ?_) (fun c_22 => ?_)
          · skip
            have hno : ¬ (i < np ∧ hd (P 4) i = h) := fun q => c_22 (by rw [q.2])
            refine lv_iinc (v := (nI i) + 1) (lv' := [(2, .int (((nI i) + 1))), (0, .ref pe), (1, .int ((nI h)))]) hx hb dX2_strikeOutAllUnder_35 hl (k := 2) rfl rfl (by decide) rfl (fun ls hl => ?_)
            refine lv_goto (tgt := 2) hx hb dX2_strikeOutAllUnder_38 (by decide) ?_
            rw [nI_1 i] at hl
            have q0 : (fl 6 (strk np P h (i + 1))) = (fl 6 (strk np P h i)) := by exact congrArg (fl 6) (strk_no hno).symm
            have hP : va_P D vwCl [(pe, .inr (2, [.ref hP_])), (hP_, .inr (3, [.int (nI 24), .int (nI 6), .ref aP, .int (nI np)])), (aP, .inl (cI, 24 * 6, .inl (fl 6 (strk np P h (i + 1)))))] H := by rw [q0]; exact hP
            have hD : va_D (adr [(pe, .inr (2, [.ref hP_])), (hP_, .inr (3, [.int (nI 24), .int (nI 6), .ref aP, .int (nI np)])), (aP, .inl (cI, 24 * 6, .inl (fl 6 P)))]) [(pe, .inr (2, [.ref hP_])), (hP_, .inr (3, [.int (nI 24), .int (nI 6), .ref aP, .int (nI np)])), (aP, .inl (cI, 24 * 6, .inl (fl 6 (strk np P h (i + 1)))))] := hD.fst rfl
            exact ih (i + 1) H locs ls (by omega) (by omega) (lv_sub hl [1, 2, 0] rfl) hP hD hS
          · skip
            have he : hd (P 4) i = h := nI_inj (by have := hd_lt hw hnp hin; omega) hh c_22
            refine lv_aload_n hx hb dX2_strikeOutAllUnder_25 rfl (lv_at hl 0 rfl) ?_
            refine va_get (D := D) (ci := 2) (v := .ref hP_) (C := RX2) (T := TX2) (N := 1) hx hb hts hin2 hown hK hP 0 rfl rfl 0 (by decide) hf16 (fun _ h9 => h9) rfl dX2_strikeOutAllUnder_26 ?_
            refine lv_iload_n hx hb dX2_strikeOutAllUnder_29 rfl (lv_at hl 2 rfl) ?_
            refine lv_iconst (v := 5) hx hb dX2_strikeOutAllUnder_30 (by decide) ?_
            refine lv_iconst (v := 1) hx hb dX2_strikeOutAllUnder_31 (by decide) ?_
            refine mcV (As := [.int (nI i), .int 5, .int 1]) (rest := []) (ci := 3) (wn := [(pe, .inr (2, [.ref hP_])), (hP_, .inr (3, [.int (nI 24), .int (nI 6), .ref aP, .int (nI np)])), (aP, .inl (cI, 24 * 6, .inl (fl 6 (tput np 6 (strk np P h i) (nI i) 5 1))))]) ⟨hx, hb, hml, hown, hts⟩ (kX3_put l D cI cZ hP_ aP 24 6 np (strk np P h i) (nI i) 5 1 (by first | assumption | omega)) (cwV 3 hts gX2_strikeOutAllUnder_X3_put rfl rfl rfl (by decide +kernel) ⟨Nat.le_of_ble_eq_true rfl, Nat.le_of_ble_eq_true rfl⟩) hK hP hD hS [1, 2] rfl rfl rfl rfl rfl rfl rfl rfl rfl hl.1 rfl (Nat.le_of_ble_eq_true rfl) ⟨Nat.zero_le _, Nat.zero_le _⟩ dX2_strikeOutAllUnder_32 (fun H locs hP hD hS => ?_)
            refine W.eq (g2 := F0 mm 35 ls []) rfl ?_
            refine lv_iinc (v := (nI i) + 1) (lv' := [(2, .int (((nI i) + 1))), (0, .ref pe), (1, .int ((nI h)))]) hx hb dX2_strikeOutAllUnder_35 hl (k := 2) rfl rfl (by decide) rfl (fun ls hl => ?_)
            refine lv_goto (tgt := 2) hx hb dX2_strikeOutAllUnder_38 (by decide) ?_
            rw [nI_1 i] at hl
            have q0 : (fl 6 (strk np P h (i + 1))) = (fl 6 (tput np 6 (strk np P h i) (nI i) 5 1)) := by exact congrArg (fl 6) ((tput_nI (c := 5) (by omega) (by omega) hin (by omega)).trans (strk_yes hin he)).symm
            have hP : va_P D vwCl [(pe, .inr (2, [.ref hP_])), (hP_, .inr (3, [.int (nI 24), .int (nI 6), .ref aP, .int (nI np)])), (aP, .inl (cI, 24 * 6, .inl (fl 6 (strk np P h (i + 1)))))] H := by rw [q0]; exact hP
            have hD : va_D (adr [(pe, .inr (2, [.ref hP_])), (hP_, .inr (3, [.int (nI 24), .int (nI 6), .ref aP, .int (nI np)])), (aP, .inl (cI, 24 * 6, .inl (fl 6 P)))]) [(pe, .inr (2, [.ref hP_])), (hP_, .inr (3, [.int (nI 24), .int (nI 6), .ref aP, .int (nI np)])), (aP, .inl (cI, 24 * 6, .inl (fl 6 (strk np P h (i + 1)))))] := hD.fst rfl
            exact ih (i + 1) H locs ls (by omega) (by omega) (lv_sub hl [1, 2, 0] rfl) hP hD hS
  have q0 : (fl 6 (strk np P h 0)) = (fl 6 P) := by rw [strk_0]
  have hP : va_P D vwCl [(pe, .inr (2, [.ref hP_])), (hP_, .inr (3, [.int (nI 24), .int (nI 6), .ref aP, .int (nI np)])), (aP, .inl (cI, 24 * 6, .inl (fl 6 (strk np P h 0))))] H := by rw [q0]; exact hP
  have hD : va_D (adr [(pe, .inr (2, [.ref hP_])), (hP_, .inr (3, [.int (nI 24), .int (nI 6), .ref aP, .int (nI np)])), (aP, .inl (cI, 24 * 6, .inl (fl 6 P)))]) [(pe, .inr (2, [.ref hP_])), (hP_, .inr (3, [.int (nI 24), .int (nI 6), .ref aP, .int (nI np)])), (aP, .inl (cI, 24 * 6, .inl (fl 6 (strk np P h 0))))] := hD.fst rfl
  exact loop 25 0 H locs ls (by omega) (by omega) (lv_sub hl [1, 2, 0] rfl) hP hD hS
set_option maxHeartbeats 4000000 in
set_option maxRecDepth 100000 in
theorem kX2_strikeOut (l : Launch) (D : va_G) (cI cZ : ClassId) (pe hP_ aP np : Nat) (P : Nat → Nat → Int32) (p : Int32) (hnp : np ≤ 24) (hw : HP np (P 4)) : Met l yX2_strikeOut wsX2_strikeOut ({ frames := 4, cells := 0, slots := 0, locals := 89 } : Room) (MuP D [(cI, .int), (cZ, .boolean)] [.ref pe, .int p] [(pe, .inr (2, [.ref hP_])), (hP_, .inr (3, [.int (nI 24), .int (nI 6), .ref aP, .int (nI np)])), (aP, .inl (cI, 24 * 6, .inl (fl 6 P)))]) (QM D (some (.int (bI (inR np p && !isSt np P p)))) [(pe, .inr (2, [.ref hP_])), (hP_, .inr (3, [.int (nI 24), .int (nI 6), .ref aP, .int (nI np)])), (aP, .inl (cI, 24 * 6, .inl (fl 6 P)))] [(pe, .inr (2, [.ref hP_])), (hP_, .inr (3, [.int (nI 24), .int (nI 6), .ref aP, .int (nI np)])), (aP, .inl (cI, 24 * 6, .inl (fl 6 (if (inR np p && !isSt np P p) = true then strk np P (hd (P 4) p.toNatClampNeg) 24 else P))))]) 0 0 (adr [(pe, .inr (2, [.ref hP_])), (hP_, .inr (3, [.int (nI 24), .int (nI 6), .ref aP, .int (nI np)])), (aP, .inl (cI, 24 * 6, .inl (fl 6 P)))]) := by
  refine mu_of (cc := cX2_strikeOut) (maxL := 2) (ret := (some .boolean)) (by decide) rfl (Nat.le_of_ble_eq_true rfl) ?_
  intro pp ee ss mm bw me cd ls hx hb hr hts hown hlocks hml hK hl H locs hP hD hS
  have hl : lv_has ls 2 [(0, .ref pe), (1, .int p)] := hl
  refine lv_aload_n hx hb dX2_strikeOut_0 rfl (lv_at hl 0 rfl) ?_
  refine lv_iload_n hx hb dX2_strikeOut_1 rfl (lv_at hl 1 rfl) ?_
  refine rcV (As := [.int p]) (rest := []) (ci := 2) ⟨hx, hb, hml, hown, hts⟩ (kX2_isThere l D cI cZ pe hP_ aP np P p (by first | assumption | omega)) (cwV 1 hts gX2_strikeOut_X2_isThere rfl rfl rfl (by decide +kernel) ⟨Nat.le_of_ble_eq_true rfl, Nat.le_of_ble_eq_true rfl⟩) hK hP [0, 1, 2] rfl rfl rfl rfl rfl hl.1 rfl (Nat.le_of_ble_eq_true rfl) ⟨Nat.zero_le _, Nat.zero_le _⟩ dX2_strikeOut_2 ?_
  refine lb_eq (tgt := 16) hx hb dX2_strikeOut_5 (by decide) (fun c_5 => ?_) (fun c_5 => ?_)
  · skip
    refine lv_iconst (v := 0) hx hb dX2_strikeOut_16 (by decide) ?_
    refine mu_zret hx hb hr hlocks hS dX2_strikeOut_17 ?_ ?_
    · simp [bI, c_5]
    have q0 : (fl 6 (if (inR np p && !isSt np P p) = true then strk np P (hd (P 4) p.toNatClampNeg) 24 else P)) = (fl 6 P) := by simp [c_5]
    rw [q0]
    exact hP
  · skip
    obtain ⟨j, hj, rfl⟩ := inR_ex c_5 (by omega)
    refine lv_aload_n hx hb dX2_strikeOut_8 rfl (lv_at hl 0 rfl) ?_
    refine lv_iload_n hx hb dX2_strikeOut_9 rfl (lv_at hl 1 rfl) ?_
    refine rcV (As := [.int ((nI j))]) (rest := []) (ci := 2) ⟨hx, hb, hml, hown, hts⟩ (kX2_isStruckOut l D cI cZ pe hP_ aP np P (nI j) (by first | assumption | omega)) (cwV 1 hts gX2_strikeOut_X2_isStruckOut rfl rfl rfl (by decide +kernel) ⟨Nat.le_of_ble_eq_true rfl, Nat.le_of_ble_eq_true rfl⟩) hK hP [0, 1, 2] rfl rfl rfl rfl rfl hl.1 rfl (Nat.le_of_ble_eq_true rfl) ⟨Nat.zero_le _, Nat.zero_le _⟩ dX2_strikeOut_10 ?_
    refine lb_eq (tgt := 18) hx hb dX2_strikeOut_13 (by decide) (fun c_13 => ?_) (fun c_13 => ?_)
    · skip
      refine lv_aload_n hx hb dX2_strikeOut_18 rfl (lv_at hl 0 rfl) ?_
      refine lv_aload_n hx hb dX2_strikeOut_19 rfl (lv_at hl 0 rfl) ?_
      refine lv_iload_n hx hb dX2_strikeOut_20 rfl (lv_at hl 1 rfl) ?_
      refine rcV (As := [.int ((nI j))]) (rest := [.ref pe]) (ci := 2) ⟨hx, hb, hml, hown, hts⟩ (kX2_headOf l D cI cZ pe hP_ aP np P j (by first | assumption | omega) (by first | assumption | omega) (by first | assumption | omega)) (cwV 1 hts gX2_strikeOut_X2_headOf rfl rfl rfl (by decide +kernel) ⟨Nat.le_of_ble_eq_true rfl, Nat.le_of_ble_eq_true rfl⟩) hK hP [0, 1, 2] rfl rfl rfl rfl rfl hl.1 rfl (Nat.le_of_ble_eq_true rfl) ⟨Nat.zero_le _, Nat.zero_le _⟩ dX2_strikeOut_21 ?_
      refine mcV (As := [.int (nI (hd (P 4) j))]) (rest := []) (ci := 2) (wn := [(pe, .inr (2, [.ref hP_])), (hP_, .inr (3, [.int (nI 24), .int (nI 6), .ref aP, .int (nI np)])), (aP, .inl (cI, 24 * 6, .inl (fl 6 (strk np P (hd (P 4) j) 24))))]) ⟨hx, hb, hml, hown, hts⟩ (kX2_strikeOutAllUnder l D cI cZ pe hP_ aP np P (hd (P 4) j) (by first | assumption | omega) (by first | assumption | omega) (by have := hd_lt hw hnp hj; omega)) (cwV 1 hts gX2_strikeOut_X2_strikeOutAllUnder rfl rfl rfl (by decide +kernel) ⟨Nat.le_of_ble_eq_true rfl, Nat.le_of_ble_eq_true rfl⟩) hK hP hD hS [0, 1, 2] rfl rfl rfl rfl rfl rfl rfl rfl rfl hl.1 rfl (Nat.le_of_ble_eq_true rfl) ⟨Nat.zero_le _, Nat.zero_le _⟩ dX2_strikeOut_24 (fun H locs hP hD hS => ?_)
      refine W.eq (g2 := F0 mm 27 ls []) rfl ?_
      refine lv_iconst (v := 1) hx hb dX2_strikeOut_27 (by decide) ?_
      refine mu_zret hx hb hr hlocks hS dX2_strikeOut_28 ?_ ?_
      · simp [bI, c_5, c_13]
      have q0 : (fl 6 (if (inR np (nI j) && !isSt np P (nI j)) = true then strk np P (hd (P 4) (nI j).toNatClampNeg) 24 else P)) = (fl 6 (strk np P (hd (P 4) j) 24)) := by rw [if_pos (by simp [c_5, c_13]), nI_clamp (by omega)]
      rw [q0]
      exact hP
    · skip
      refine lv_iconst (v := 0) hx hb dX2_strikeOut_16 (by decide) ?_
      refine mu_zret hx hb hr hlocks hS dX2_strikeOut_17 ?_ ?_
      · simp [bI, c_5, c_13]
      have q0 : (fl 6 (if (inR np (nI j) && !isSt np P (nI j)) = true then strk np P (hd (P 4) (nI j).toNatClampNeg) 24 else P)) = (fl 6 P) := by simp [c_5, c_13]
      rw [q0]
      exact hP
set_option maxHeartbeats 4000000 in
set_option maxRecDepth 100000 in
theorem kX2_join (l : Launch) (D : va_G) (cI cZ : ClassId) (pe hP_ aP np : Nat) (P : Nat → Nat → Int32) (a : Int32) (b : Int32) (hnp : np ≤ 24) (hw : HP np (P 4)) : Met l yX2_join wsX2_join ({ frames := 4, cells := 0, slots := 0, locals := 89 } : Room) (MuP D [(cI, .int), (cZ, .boolean)] [.ref pe, .int a, .int b] [(pe, .inr (2, [.ref hP_])), (hP_, .inr (3, [.int (nI 24), .int (nI 6), .ref aP, .int (nI np)])), (aP, .inl (cI, 24 * 6, .inl (fl 6 P)))]) (QM D (some (.int (bI (okJ np P a b)))) [(pe, .inr (2, [.ref hP_])), (hP_, .inr (3, [.int (nI 24), .int (nI 6), .ref aP, .int (nI np)])), (aP, .inl (cI, 24 * 6, .inl (fl 6 P)))] [(pe, .inr (2, [.ref hP_])), (hP_, .inr (3, [.int (nI 24), .int (nI 6), .ref aP, .int (nI np)])), (aP, .inl (cI, 24 * 6, .inl (fl 6 (joinT np P a b))))]) 0 0 (adr [(pe, .inr (2, [.ref hP_])), (hP_, .inr (3, [.int (nI 24), .int (nI 6), .ref aP, .int (nI np)])), (aP, .inl (cI, 24 * 6, .inl (fl 6 P)))]) := by
  refine mu_of (cc := cX2_join) (maxL := 3) (ret := (some .boolean)) (by decide) rfl (Nat.le_of_ble_eq_true rfl) ?_
  intro pp ee ss mm bw me cd ls hx hb hr hts hown hlocks hml hK hl H locs hP hD hS
  have hl : lv_has ls 3 [(0, .ref pe), (1, .int a), (2, .int b)] := hl
  have hf16 := hts (.fieldLink RX2 16 "OtherNames$People" "rows" "LOtherNames$Rows;") (by decide +kernel)
  have hin2 := (show ∀ w ∈ wsX20, w ∈ wsX2_join by decide +kernel)
  refine lv_iload_n hx hb dX2_join_0 rfl (lv_at hl 1 rfl) ?_
  refine lv_iload_n hx hb dX2_join_1 rfl (lv_at hl 2 rfl) ?_
  refine lv_icmp_eq (tgt := 21) hx hb dX2_join_2 (by decide) (fun c_2 => ?_) (fun c_2 => ?_)
  · skip
    refine lv_iconst (v := 0) hx hb dX2_join_21 (by decide) ?_
    refine mu_zret hx hb hr hlocks hS dX2_join_22 ?_ ?_
    · simp [bI, okJ, c_2]
    have q0 : (fl 6 (joinT np P a b)) = (fl 6 P) := by unfold joinT; rw [if_neg (by simp [okJ, c_2])]
    rw [q0]
    exact hP
  · skip
    refine lv_aload_n hx hb dX2_join_5 rfl (lv_at hl 0 rfl) ?_
    refine lv_iload_n hx hb dX2_join_6 rfl (lv_at hl 1 rfl) ?_
    refine rcV (As := [.int a]) (rest := []) (ci := 2) ⟨hx, hb, hml, hown, hts⟩ (kX2_isHead l D cI cZ pe hP_ aP np P a (by first | assumption | omega)) (cwV 1 hts gX2_join_X2_isHead rfl rfl rfl (by decide +kernel) ⟨Nat.le_of_ble_eq_true rfl, Nat.le_of_ble_eq_true rfl⟩) hK hP [0, 1, 2] rfl rfl rfl rfl rfl hl.1 rfl (Nat.le_of_ble_eq_true rfl) ⟨Nat.zero_le _, Nat.zero_le _⟩ dX2_join_7 ?_
    refine lb_eq (tgt := 21) hx hb dX2_join_10 (by decide) (fun c_10 => ?_) (fun c_10 => ?_)
    · skip
      refine lv_iconst (v := 0) hx hb dX2_join_21 (by decide) ?_
      refine mu_zret hx hb hr hlocks hS dX2_join_22 ?_ ?_
      · simp [bI, okJ, c_2, c_10]
      have q0 : (fl 6 (joinT np P a b)) = (fl 6 P) := by unfold joinT; rw [if_neg (by simp [okJ, c_2, c_10])]
      rw [q0]
      exact hP
    · skip
      have c10 := c_10
      obtain ⟨ja, hja, rfl, ea⟩ := isHd_ex c10 hnp
      refine lv_aload_n hx hb dX2_join_13 rfl (lv_at hl 0 rfl) ?_
      refine lv_iload_n hx hb dX2_join_14 rfl (lv_at hl 2 rfl) ?_
      refine rcV (As := [.int b]) (rest := []) (ci := 2) ⟨hx, hb, hml, hown, hts⟩ (kX2_isHead l D cI cZ pe hP_ aP np P b (by first | assumption | omega)) (cwV 1 hts gX2_join_X2_isHead rfl rfl rfl (by decide +kernel) ⟨Nat.le_of_ble_eq_true rfl, Nat.le_of_ble_eq_true rfl⟩) hK hP [0, 1, 2] rfl rfl rfl rfl rfl hl.1 rfl (Nat.le_of_ble_eq_true rfl) ⟨Nat.zero_le _, Nat.zero_le _⟩ dX2_join_15 ?_
      refine lb_ne (tgt := 23) hx hb dX2_join_18 (by decide) (fun c_18 => ?_) (fun c_18 => ?_)
      · skip
        have c18 := c_18
        obtain ⟨jb, hjb, rfl, eb⟩ := isHd_ex c18 hnp
        refine lv_aload_n hx hb dX2_join_23 rfl (lv_at hl 0 rfl) ?_
        refine va_get (D := D) (ci := 2) (v := .ref hP_) (C := RX2) (T := TX2) (N := 1) hx hb hts hin2 hown hK hP 0 rfl rfl 0 (by decide) hf16 (fun _ h9 => h9) rfl dX2_join_24 ?_
        refine lv_iload_n hx hb dX2_join_27 rfl (lv_at hl 2 rfl) ?_
        refine lv_iconst (v := 4) hx hb dX2_join_28 (by decide) ?_
        refine lv_iload_n hx hb dX2_join_29 rfl (lv_at hl 1 rfl) ?_
        refine mcV (As := [.int ((nI jb)), .int 4, .int ((nI ja))]) (rest := []) (ci := 3) (wn := [(pe, .inr (2, [.ref hP_])), (hP_, .inr (3, [.int (nI 24), .int (nI 6), .ref aP, .int (nI np)])), (aP, .inl (cI, 24 * 6, .inl (fl 6 (tput np 6 P (nI jb) 4 (nI ja)))))]) ⟨hx, hb, hml, hown, hts⟩ (kX3_put l D cI cZ hP_ aP 24 6 np P (nI jb) 4 (nI ja) (by first | assumption | omega)) (cwV 3 hts gX2_join_X3_put rfl rfl rfl (by decide +kernel) ⟨Nat.le_of_ble_eq_true rfl, Nat.le_of_ble_eq_true rfl⟩) hK hP hD hS [1, 2] rfl rfl rfl rfl rfl rfl rfl rfl rfl hl.1 rfl (Nat.le_of_ble_eq_true rfl) ⟨Nat.zero_le _, Nat.zero_le _⟩ dX2_join_30 (fun H locs hP hD hS => ?_)
        refine W.eq (g2 := F0 mm 33 ls []) rfl ?_
        refine lv_aload_n hx hb dX2_join_33 rfl (lv_at hl 0 rfl) ?_
        refine lv_iload_n hx hb dX2_join_34 rfl (lv_at hl 1 rfl) ?_
        refine rcV (As := [.int ((nI ja))]) (rest := []) (ci := 2) ⟨hx, hb, hml, hown, hts⟩ (kX2_isStruckOut l D cI cZ pe hP_ aP np (tput np 6 P (nI jb) 4 (nI ja)) (nI ja) (by first | assumption | omega)) (cwV 1 hts gX2_join_X2_isStruckOut rfl rfl rfl (by decide +kernel) ⟨Nat.le_of_ble_eq_true rfl, Nat.le_of_ble_eq_true rfl⟩) hK hP [0, 1, 2] rfl rfl rfl rfl rfl hl.1 rfl (Nat.le_of_ble_eq_true rfl) ⟨Nat.zero_le _, Nat.zero_le _⟩ dX2_join_35 ?_
        refine lb_ne (tgt := 49) hx hb dX2_join_38 (by decide) (fun c_38 => ?_) (fun c_38 => ?_)
        · skip
          refine lv_aload_n hx hb dX2_join_49 rfl (lv_at hl 0 rfl) ?_
          refine lv_iload_n hx hb dX2_join_50 rfl (lv_at hl 1 rfl) ?_
          refine mcV (As := [.int ((nI ja))]) (rest := []) (ci := 2) (wn := [(pe, .inr (2, [.ref hP_])), (hP_, .inr (3, [.int (nI 24), .int (nI 6), .ref aP, .int (nI np)])), (aP, .inl (cI, 24 * 6, .inl (fl 6 (strk np (tput np 6 P (nI jb) 4 (nI ja)) ja 24))))]) ⟨hx, hb, hml, hown, hts⟩ (kX2_strikeOutAllUnder l D cI cZ pe hP_ aP np (tput np 6 P (nI jb) 4 (nI ja)) ja (by first | assumption | omega) (hw.joinT hnp hja hjb c_2 ea eb) (by omega)) (cwV 1 hts gX2_join_X2_strikeOutAllUnder rfl rfl rfl (by decide +kernel) ⟨Nat.le_of_ble_eq_true rfl, Nat.le_of_ble_eq_true rfl⟩) hK hP hD hS [0, 1, 2] rfl rfl rfl rfl rfl rfl rfl rfl rfl hl.1 rfl (Nat.le_of_ble_eq_true rfl) ⟨Nat.zero_le _, Nat.zero_le _⟩ dX2_join_51 (fun H locs hP hD hS => ?_)
          refine W.eq (g2 := F0 mm 54 ls []) rfl ?_
          refine lv_iconst (v := 1) hx hb dX2_join_54 (by decide) ?_
          refine mu_zret hx hb hr hlocks hS dX2_join_55 ?_ ?_
          · simp [bI, okJ, c_2, c_10, c_18, c_38]
          have q0 : (fl 6 (joinT np P (nI ja) (nI jb))) = (fl 6 (strk np (tput np 6 P (nI jb) 4 (nI ja)) ja 24)) := by unfold joinT; rw [if_pos (by simp [okJ, c_2, c_10, c_18, c_38]), if_pos (by simp [c_2, c_10, c_18, c_38]), nI_clamp (by omega)]
          rw [q0]
          exact hP
        · skip
          refine lv_aload_n hx hb dX2_join_41 rfl (lv_at hl 0 rfl) ?_
          refine lv_iload_n hx hb dX2_join_42 rfl (lv_at hl 2 rfl) ?_
          refine rcV (As := [.int ((nI jb))]) (rest := []) (ci := 2) ⟨hx, hb, hml, hown, hts⟩ (kX2_isStruckOut l D cI cZ pe hP_ aP np (tput np 6 P (nI jb) 4 (nI ja)) (nI jb) (by first | assumption | omega)) (cwV 1 hts gX2_join_X2_isStruckOut rfl rfl rfl (by decide +kernel) ⟨Nat.le_of_ble_eq_true rfl, Nat.le_of_ble_eq_true rfl⟩) hK hP [0, 1, 2] rfl rfl rfl rfl rfl hl.1 rfl (Nat.le_of_ble_eq_true rfl) ⟨Nat.zero_le _, Nat.zero_le _⟩ dX2_join_43 ?_
          refine lb_eq (tgt := 54) hx hb dX2_join_46 (by decide) (fun c_46 => ?_) (fun c_46 => ?_)
          · skip
            refine lv_iconst (v := 1) hx hb dX2_join_54 (by decide) ?_
            refine mu_zret hx hb hr hlocks hS dX2_join_55 ?_ ?_
            · simp [bI, okJ, c_2, c_10, c_18, c_38, c_46]
            have q0 : (fl 6 (joinT np P (nI ja) (nI jb))) = (fl 6 (tput np 6 P (nI jb) 4 (nI ja))) := by unfold joinT; rw [if_pos (by simp [okJ, c_2, c_10, c_18, c_38, c_46]), if_neg (by simp [c_2, c_10, c_18, c_38, c_46])]
            rw [q0]
            exact hP
          · skip
            refine lv_aload_n hx hb dX2_join_49 rfl (lv_at hl 0 rfl) ?_
            refine lv_iload_n hx hb dX2_join_50 rfl (lv_at hl 1 rfl) ?_
            refine mcV (As := [.int ((nI ja))]) (rest := []) (ci := 2) (wn := [(pe, .inr (2, [.ref hP_])), (hP_, .inr (3, [.int (nI 24), .int (nI 6), .ref aP, .int (nI np)])), (aP, .inl (cI, 24 * 6, .inl (fl 6 (strk np (tput np 6 P (nI jb) 4 (nI ja)) ja 24))))]) ⟨hx, hb, hml, hown, hts⟩ (kX2_strikeOutAllUnder l D cI cZ pe hP_ aP np (tput np 6 P (nI jb) 4 (nI ja)) ja (by first | assumption | omega) (hw.joinT hnp hja hjb c_2 ea eb) (by omega)) (cwV 1 hts gX2_join_X2_strikeOutAllUnder rfl rfl rfl (by decide +kernel) ⟨Nat.le_of_ble_eq_true rfl, Nat.le_of_ble_eq_true rfl⟩) hK hP hD hS [0, 1, 2] rfl rfl rfl rfl rfl rfl rfl rfl rfl hl.1 rfl (Nat.le_of_ble_eq_true rfl) ⟨Nat.zero_le _, Nat.zero_le _⟩ dX2_join_51 (fun H locs hP hD hS => ?_)
            refine W.eq (g2 := F0 mm 54 ls []) rfl ?_
            refine lv_iconst (v := 1) hx hb dX2_join_54 (by decide) ?_
            refine mu_zret hx hb hr hlocks hS dX2_join_55 ?_ ?_
            · simp [bI, okJ, c_2, c_10, c_18, c_38, c_46]
            have q0 : (fl 6 (joinT np P (nI ja) (nI jb))) = (fl 6 (strk np (tput np 6 P (nI jb) 4 (nI ja)) ja 24)) := by unfold joinT; rw [if_pos (by simp [okJ, c_2, c_10, c_18, c_38, c_46]), if_pos (by simp [c_2, c_10, c_18, c_38, c_46]), nI_clamp (by omega)]
            rw [q0]
            exact hP
      · skip
        refine lv_iconst (v := 0) hx hb dX2_join_21 (by decide) ?_
        refine mu_zret hx hb hr hlocks hS dX2_join_22 ?_ ?_
        · simp [bI, okJ, c_2, c_10, c_18]
        have q0 : (fl 6 (joinT np P (nI ja) b)) = (fl 6 P) := by unfold joinT; rw [if_neg (by simp [okJ, c_2, c_10, c_18])]
        rw [q0]
        exact hP
