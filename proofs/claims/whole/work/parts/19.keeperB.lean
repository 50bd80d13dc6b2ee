set_option maxHeartbeats 4000000 in
set_option maxRecDepth 100000 in
theorem kX4_nameIn (l : Launch) (D : va_G) (cI cZ : ClassId) (o pe hP_ aP hu hH aH na hN aN hB aB hE aE np nh nn nb ne : Nat) (td : Int32) (P G N B E : Nat → Nat → Int32) (h : Int32) (p : Nat) (hnp : np ≤ 24) (hnh : nh ≤ 5) (hnn : nn ≤ 200) (hnb : nb ≤ 20) (hne : ne ≤ 200) (hw : HP np (P 4)) (ho : HO nn np N) (hp : p < np) : Met l yX4_nameIn wsX4_nameIn ({ frames := 4, cells := 0, slots := 0, locals := 92 } : Room) (MuP D [(cI, .int), (cZ, .boolean)] [.ref o, .int h, .int (nI p)] [(o, .inr (4, [.ref pe, .ref hu, .ref na, .ref hB, .ref hE, .int td])), (pe, .inr (2, [.ref hP_])), (hP_, .inr (3, [.int (nI 24), .int (nI 6), .ref aP, .int (nI np)])), (aP, .inl (cI, 24 * 6, .inl (fl 6 P))), (hu, .inr (0, [.ref hH])), (hH, .inr (3, [.int (nI 5), .int (nI 6), .ref aH, .int (nI nh)])), (aH, .inl (cI, 5 * 6, .inl (fl 6 G))), (na, .inr (1, [.ref hN, .ref pe])), (hN, .inr (3, [.int (nI 200), .int (nI 5), .ref aN, .int (nI nn)])), (aN, .inl (cI, 200 * 5, .inl (fl 5 N))), (hB, .inr (3, [.int (nI 20), .int (nI 4), .ref aB, .int (nI nb)])), (aB, .inl (cI, 20 * 4, .inl (fl 4 B))), (hE, .inr (3, [.int (nI 200), .int (nI 6), .ref aE, .int (nI ne)])), (aE, .inl (cI, 200 * 6, .inl (fl 6 E)))]) (QM D (some (.int (nmR nh nn P G N td h p))) [(o, .inr (4, [.ref pe, .ref hu, .ref na, .ref hB, .ref hE, .int td])), (pe, .inr (2, [.ref hP_])), (hP_, .inr (3, [.int (nI 24), .int (nI 6), .ref aP, .int (nI np)])), (aP, .inl (cI, 24 * 6, .inl (fl 6 P))), (hu, .inr (0, [.ref hH])), (hH, .inr (3, [.int (nI 5), .int (nI 6), .ref aH, .int (nI nh)])), (aH, .inl (cI, 5 * 6, .inl (fl 6 G))), (na, .inr (1, [.ref hN, .ref pe])), (hN, .inr (3, [.int (nI 200), .int (nI 5), .ref aN, .int (nI nn)])), (aN, .inl (cI, 200 * 5, .inl (fl 5 N))), (hB, .inr (3, [.int (nI 20), .int (nI 4), .ref aB, .int (nI nb)])), (aB, .inl (cI, 20 * 4, .inl (fl 4 B))), (hE, .inr (3, [.int (nI 200), .int (nI 6), .ref aE, .int (nI ne)])), (aE, .inl (cI, 200 * 6, .inl (fl 6 E)))] [(o, .inr (4, [.ref pe, .ref hu, .ref na, .ref hB, .ref hE, .int td])), (pe, .inr (2, [.ref hP_])), (hP_, .inr (3, [.int (nI 24), .int (nI 6), .ref aP, .int (nI np)])), (aP, .inl (cI, 24 * 6, .inl (fl 6 P))), (hu, .inr (0, [.ref hH])), (hH, .inr (3, [.int (nI 5), .int (nI 6), .ref aH, .int (nI nh)])), (aH, .inl (cI, 5 * 6, .inl (fl 6 G))), (na, .inr (1, [.ref hN, .ref pe])), (hN, .inr (3, [.int (nI 200), .int (nI 5), .ref aN, .int (nI (nmNn nh nn P G N td h p))])), (aN, .inl (cI, 200 * 5, .inl (fl 5 (nmT nh nn P G N td h p)))), (hB, .inr (3, [.int (nI 20), .int (nI 4), .ref aB, .int (nI nb)])), (aB, .inl (cI, 20 * 4, .inl (fl 4 B))), (hE, .inr (3, [.int (nI 200), .int (nI 6), .ref aE, .int (nI ne)])), (aE, .inl (cI, 200 * 6, .inl (fl 6 E)))]) 0 0 (adr [(o, .inr (4, [.ref pe, .ref hu, .ref na, .ref hB, .ref hE, .int td])), (pe, .inr (2, [.ref hP_])), (hP_, .inr (3, [.int (nI 24), .int (nI 6), .ref aP, .int (nI np)])), (aP, .inl (cI, 24 * 6, .inl (fl 6 P))), (hu, .inr (0, [.ref hH])), (hH, .inr (3, [.int (nI 5), .int (nI 6), .ref aH, .int (nI nh)])), (aH, .inl (cI, 5 * 6, .inl (fl 6 G))), (na, .inr (1, [.ref hN, .ref pe])), (hN, .inr (3, [.int (nI 200), .int (nI 5), .ref aN, .int (nI nn)])), (aN, .inl (cI, 200 * 5, .inl (fl 5 N))), (hB, .inr (3, [.int (nI 20), .int (nI 4), .ref aB, .int (nI nb)])), (aB, .inl (cI, 20 * 4, .inl (fl 4 B))), (hE, .inr (3, [.int (nI 200), .int (nI 6), .ref aE, .int (nI ne)])), (aE, .inl (cI, 200 * 6, .inl (fl 6 E)))]) := by
  refine mu_of (cc := cX4_nameIn) (maxL := 7) (ret := (some .int)) (by decide) rfl (Nat.le_of_ble_eq_true rfl) ?_
  intro pp ee ss mm bw me cd ls hx hb hr hts hown hlocks hml hK hl H locs hP hD hS
  have hl : lv_has ls 7 [(0, .ref o), (1, .int h), (2, .int ((nI p)))] := hl
  have hf28 := hts (.fieldLink RX4 28 "OtherNames" "names" "LOtherNames$Names;") (by decide +kernel)
  have hin4 := (show ∀ w ∈ wsX40, w ∈ wsX4_nameIn by decide +kernel)
  have hf19 := hts (.fieldLink RX4 19 "OtherNames" "houses" "LOtherNames$Houses;") (by decide +kernel)
  have hf44 := hts (.fieldLink RX4 44 "OtherNames" "today" "I") (by decide +kernel)
  have hf10 := hts (.fieldLink RX4 10 "OtherNames" "people" "LOtherNames$People;") (by decide +kernel)
  refine lv_aload_n hx hb dX4_nameIn_0 rfl (lv_at hl 0 rfl) ?_
  refine va_get (D := D) (ci := 4) (v := .ref na) (C := RX4) (T := TX4) (N := 6) hx hb hts hin4 hown hK hP 0 rfl rfl 2 (by decide) hf28 (fun _ h9 => h9) rfl dX4_nameIn_1 ?_
  refine lv_iload_n hx hb dX4_nameIn_4 rfl (lv_at hl 1 rfl) ?_
  refine rcV (As := [.int h]) (rest := []) (ci := 1) ⟨hx, hb, hml, hown, hts⟩ (kX1_countGivenBy l D cI cZ na hN aN nn N pe hP_ aP np P h (by first | assumption | omega) (by first | assumption | omega)) (cwV 1 hts gX4_nameIn_X1_countGivenBy rfl rfl rfl (by decide +kernel) ⟨Nat.le_of_ble_eq_true rfl, Nat.le_of_ble_eq_true rfl⟩) hK hP [7, 8, 9, 1, 2, 3] rfl rfl rfl rfl rfl hl.1 rfl (Nat.le_of_ble_eq_true rfl) ⟨Nat.zero_le _, Nat.zero_le _⟩ dX4_nameIn_5 ?_
  refine lv_iconst (v := 1) hx hb dX4_nameIn_8 (by decide) ?_
  refine lv_iadd hx hb dX4_nameIn_9 ?_
  refine lv_istore_n (lv' := [(3, .int (((nI (ct (fun i => decide (N 0 i = h)) nn)) + 1))), (0, .ref o), (1, .int h), (2, .int ((nI p)))]) hx hb dX4_nameIn_10 rfl hl (by decide) rfl (fun ls hl => ?_)
  refine lv_aload_n hx hb dX4_nameIn_11 rfl (lv_at hl 1 rfl) ?_
  refine va_get (D := D) (ci := 4) (v := .ref hu) (C := RX4) (T := TX4) (N := 6) hx hb hts hin4 hown hK hP 0 rfl rfl 1 (by decide) hf19 (fun _ h9 => h9) rfl dX4_nameIn_12 ?_
  refine lv_iload_n hx hb dX4_nameIn_15 rfl (lv_at hl 2 rfl) ?_
  refine lv_aload_n hx hb dX4_nameIn_16 rfl (lv_at hl 1 rfl) ?_
  refine va_get (D := D) (ci := 4) (v := .int td) (C := RX4) (T := TX4) (N := 6) hx hb hts hin4 hown hK hP 0 rfl rfl 5 (by decide) hf44 (fun _ h9 => h9) rfl dX4_nameIn_17 ?_
  refine lv_iload_n hx hb dX4_nameIn_20 rfl (lv_at hl 0 rfl) ?_
  refine rcV (As := [.int h, .int td, .int (((nI (ct (fun i => decide (N 0 i = h)) nn)) + 1))]) (rest := []) (ci := 0) ⟨hx, hb, hml, hown, hts⟩ (kX0_spanNumber l D cI cZ hu hH aH nh G h td ((nI (ct (fun i => decide (N 0 i = h)) nn)) + 1) (by first | assumption | omega)) (cwV 3 hts gX4_nameIn_X0_spanNumber rfl rfl rfl (by decide +kernel) ⟨Nat.le_of_ble_eq_true rfl, Nat.le_of_ble_eq_true rfl⟩) hK hP [4, 5, 6] rfl rfl rfl rfl rfl hl.1 rfl (Nat.le_of_ble_eq_true rfl) ⟨Nat.zero_le _, Nat.zero_le _⟩ dX4_nameIn_21 ?_
  refine lv_istore (lv' := [(4, .int (spN nh G h td ((nI (ct (fun i => decide (N 0 i = h)) nn)) + 1))), (3, .int (((nI (ct (fun i => decide (N 0 i = h)) nn)) + 1))), (0, .ref o), (1, .int h), (2, .int ((nI p)))]) hx hb dX4_nameIn_24 hl (by decide) rfl (fun ls hl => ?_)
  refine lv_aload_n hx hb dX4_nameIn_26 rfl (lv_at hl 2 rfl) ?_
  refine va_get (D := D) (ci := 4) (v := .ref pe) (C := RX4) (T := TX4) (N := 6) hx hb hts hin4 hown hK hP 0 rfl rfl 0 (by decide) hf10 (fun _ h9 => h9) rfl dX4_nameIn_27 ?_
  refine lv_iload_n hx hb dX4_nameIn_30 rfl (lv_at hl 4 rfl) ?_
  refine rcV (As := [.int ((nI p))]) (rest := []) (ci := 2) ⟨hx, hb, hml, hown, hts⟩ (kX2_headOf l D cI cZ pe hP_ aP np P p (by first | assumption | omega) (by first | assumption | omega) (by first | assumption | omega)) (cwV 1 hts gX4_nameIn_X2_headOf rfl rfl rfl (by decide +kernel) ⟨Nat.le_of_ble_eq_true rfl, Nat.le_of_ble_eq_true rfl⟩) hK hP [1, 2, 3] rfl rfl rfl rfl rfl hl.1 rfl (Nat.le_of_ble_eq_true rfl) ⟨Nat.zero_le _, Nat.zero_le _⟩ dX4_nameIn_31 ?_
  refine lv_istore (lv' := [(5, .int (nI (hd (P 4) p))), (4, .int (spN nh G h td ((nI (ct (fun i => decide (N 0 i = h)) nn)) + 1))), (3, .int (((nI (ct (fun i => decide (N 0 i = h)) nn)) + 1))), (0, .ref o), (1, .int h), (2, .int ((nI p)))]) hx hb dX4_nameIn_34 hl (by decide) rfl (fun ls hl => ?_)
  refine lv_aload_n hx hb dX4_nameIn_36 rfl (lv_at hl 3 rfl) ?_
  refine va_get (D := D) (ci := 4) (v := .ref na) (C := RX4) (T := TX4) (N := 6) hx hb hts hin4 hown hK hP 0 rfl rfl 2 (by decide) hf28 (fun _ h9 => h9) rfl dX4_nameIn_37 ?_
  refine lv_iload_n hx hb dX4_nameIn_40 rfl (lv_at hl 4 rfl) ?_
  refine lv_iload hx hb dX4_nameIn_41 (lv_at hl 1 rfl) ?_
  refine lv_iload hx hb dX4_nameIn_43 (lv_at hl 0 rfl) ?_
  refine rcV (As := [.int h, .int (spN nh G h td ((nI (ct (fun i => decide (N 0 i = h)) nn)) + 1)), .int (nI (hd (P 4) p))]) (rest := []) (ci := 1) ⟨hx, hb, hml, hown, hts⟩ (kX1_firstFor l D cI cZ na hN aN nn N pe hP_ aP np P h (spN nh G h td ((nI (ct (fun i => decide (N 0 i = h)) nn)) + 1)) (nI (hd (P 4) p)) (by first | assumption | omega) (by first | assumption | omega) (by first | assumption | omega) (by first | assumption | omega)) (cwV 3 hts gX4_nameIn_X1_firstFor rfl rfl rfl (by decide +kernel) ⟨Nat.le_of_ble_eq_true rfl, Nat.le_of_ble_eq_true rfl⟩) hK hP [7, 8, 9, 1, 2, 3] rfl rfl rfl rfl rfl hl.1 rfl (Nat.le_of_ble_eq_true rfl) ⟨Nat.zero_le _, Nat.zero_le _⟩ dX4_nameIn_45 ?_
  refine lv_istore (lv' := [(6, .int (fsI (ffB N (P 4) h (spN nh G h td ((nI (ct (fun i => decide (N 0 i = h)) nn)) + 1)) (nI (hd (P 4) p))) nn)), (5, .int (nI (hd (P 4) p))), (4, .int (spN nh G h td ((nI (ct (fun i => decide (N 0 i = h)) nn)) + 1))), (3, .int (((nI (ct (fun i => decide (N 0 i = h)) nn)) + 1))), (0, .ref o), (1, .int h), (2, .int ((nI p)))]) hx hb dX4_nameIn_48 hl (by decide) rfl (fun ls hl => ?_)
  refine lv_iload hx hb dX4_nameIn_50 (lv_at hl 0 rfl) ?_
  refine lv_iconst (v := (-1)) hx hb dX4_nameIn_52 (by decide) ?_
  refine lv_icmp_ne (tgt := 83) hx hb dX4_nameIn_53 (by decide) (fun c_53 => ?_) (fun c_53 => ?_)
  · skip
    refine lv_aload_n hx hb dX4_nameIn_83 rfl (lv_at hl 4 rfl) ?_
    refine va_get (D := D) (ci := 4) (v := .ref na) (C := RX4) (T := TX4) (N := 6) hx hb hts hin4 hown hK hP 0 rfl rfl 2 (by decide) hf28 (fun _ h9 => h9) rfl dX4_nameIn_84 ?_
    refine lv_iload hx hb dX4_nameIn_87 (lv_at hl 0 rfl) ?_
    refine rcV (As := [.int (fsI (ffB N (P 4) h (spN nh G h td ((nI (ct (fun i => decide (N 0 i = h)) nn)) + 1)) (nI (hd (P 4) p))) nn)]) (rest := []) (ci := 1) ⟨hx, hb, hml, hown, hts⟩ (kX1_nameAt l D cI cZ na hN aN nn N pe hP_ aP np P (fsI (ffB N (P 4) h (spN nh G h td ((nI (ct (fun i => decide (N 0 i = h)) nn)) + 1)) (nI (hd (P 4) p))) nn) (by first | assumption | exact adn_le hnn) (by first | assumption | omega)) (cwV 1 hts gX4_nameIn_X1_nameAt rfl rfl rfl (by decide +kernel) ⟨Nat.le_of_ble_eq_true rfl, Nat.le_of_ble_eq_true rfl⟩) hK hP [7, 8, 9, 1, 2, 3] rfl rfl rfl rfl rfl hl.1 rfl (Nat.le_of_ble_eq_true rfl) ⟨Nat.zero_le _, Nat.zero_le _⟩ dX4_nameIn_89 ?_
    refine mu_iret hx hb hr hlocks hS dX4_nameIn_92 ?_ ?_
    · have c : ¬ nrow nh nn P G N td h p = -1 := c_53; simp only [nmR, nmNn, nmT, nmI, if_neg c]; rfl
    have q0 : (nI (nmNn nh nn P G N td h p)) = (nI nn) := by have c : ¬ nrow nh nn P G N td h p = -1 := c_53; simp only [nmNn, nmT, if_neg c] <;> rfl
    have q1 : (fl 5 (nmT nh nn P G N td h p)) = (fl 5 N) := by have c : ¬ nrow nh nn P G N td h p = -1 := c_53; simp only [nmNn, nmT, if_neg c] <;> rfl
    rw [q0, q1]
    exact hP
  · skip
    refine lv_aload_n hx hb dX4_nameIn_56 rfl (lv_at hl 4 rfl) ?_
    refine va_get (D := D) (ci := 4) (v := .ref na) (C := RX4) (T := TX4) (N := 6) hx hb hts hin4 hown hK hP 0 rfl rfl 2 (by decide) hf28 (fun _ h9 => h9) rfl dX4_nameIn_57 ?_
    refine lv_iload_n hx hb dX4_nameIn_60 rfl (lv_at hl 5 rfl) ?_
    refine lv_aload_n hx hb dX4_nameIn_61 rfl (lv_at hl 4 rfl) ?_
    refine va_get (D := D) (ci := 4) (v := .ref hu) (C := RX4) (T := TX4) (N := 6) hx hb hts hin4 hown hK hP 0 rfl rfl 1 (by decide) hf19 (fun _ h9 => h9) rfl dX4_nameIn_62 ?_
    refine lv_iload_n hx hb dX4_nameIn_65 rfl (lv_at hl 5 rfl) ?_
    refine lv_iload_n hx hb dX4_nameIn_66 rfl (lv_at hl 3 rfl) ?_
    refine rcV (As := [.int h, .int (((nI (ct (fun i => decide (N 0 i = h)) nn)) + 1))]) (rest := [.int h, .ref na]) (ci := 0) ⟨hx, hb, hml, hown, hts⟩ (kX0_nameNumber l D cI cZ hu hH aH nh G h ((nI (ct (fun i => decide (N 0 i = h)) nn)) + 1) (by first | assumption | omega)) (cwV 2 hts gX4_nameIn_X0_nameNumber rfl rfl rfl (by decide +kernel) ⟨Nat.le_of_ble_eq_true rfl, Nat.le_of_ble_eq_true rfl⟩) hK hP [4, 5, 6] rfl rfl rfl rfl rfl hl.1 rfl (Nat.le_of_ble_eq_true rfl) ⟨Nat.zero_le _, Nat.zero_le _⟩ dX4_nameIn_67 ?_
    refine lv_iload hx hb dX4_nameIn_70 (lv_at hl 1 rfl) ?_
    refine lv_aload_n hx hb dX4_nameIn_72 rfl (lv_at hl 4 rfl) ?_
    refine va_get (D := D) (ci := 4) (v := .int td) (C := RX4) (T := TX4) (N := 6) hx hb hts hin4 hown hK hP 0 rfl rfl 5 (by decide) hf44 (fun _ h9 => h9) rfl dX4_nameIn_73 ?_
    refine lv_iload hx hb dX4_nameIn_76 (lv_at hl 2 rfl) ?_
    refine mcV (As := [.int h, .int (remI (tat nh 6 G h 2 * ((nI (ct (fun i => decide (N 0 i = h)) nn)) + 1)) 9973), .int (nI (hd (P 4) p)), .int td, .int (spN nh G h td ((nI (ct (fun i => decide (N 0 i = h)) nn)) + 1))]) (rest := []) (ci := 1) (wn := [(o, .inr (4, [.ref pe, .ref hu, .ref na, .ref hB, .ref hE, .int td])), (pe, .inr (2, [.ref hP_])), (hP_, .inr (3, [.int (nI 24), .int (nI 6), .ref aP, .int (nI np)])), (aP, .inl (cI, 24 * 6, .inl (fl 6 P))), (hu, .inr (0, [.ref hH])), (hH, .inr (3, [.int (nI 5), .int (nI 6), .ref aH, .int (nI nh)])), (aH, .inl (cI, 5 * 6, .inl (fl 6 G))), (na, .inr (1, [.ref hN, .ref pe])), (hN, .inr (3, [.int (nI 200), .int (nI 5), .ref aN, .int (nI (adn 200 nn))])), (aN, .inl (cI, 200 * 5, .inl (fl 5 (naddT nn N h (remI (tat nh 6 G h 2 * ((nI (ct (fun i => decide (N 0 i = h)) nn)) + 1)) 9973) (nI (hd (P 4) p)) td (spN nh G h td ((nI (ct (fun i => decide (N 0 i = h)) nn)) + 1)))))), (hB, .inr (3, [.int (nI 20), .int (nI 4), .ref aB, .int (nI nb)])), (aB, .inl (cI, 20 * 4, .inl (fl 4 B))), (hE, .inr (3, [.int (nI 200), .int (nI 6), .ref aE, .int (nI ne)])), (aE, .inl (cI, 200 * 6, .inl (fl 6 E)))]) ⟨hx, hb, hml, hown, hts⟩ (kX1_add l D cI cZ na hN aN nn N pe hP_ aP np P h (remI (tat nh 6 G h 2 * ((nI (ct (fun i => decide (N 0 i = h)) nn)) + 1)) 9973) (nI (hd (P 4) p)) td (spN nh G h td ((nI (ct (fun i => decide (N 0 i = h)) nn)) + 1)) (by first | assumption | omega) (by first | assumption | omega)) (cwV 5 hts gX4_nameIn_X1_add rfl rfl rfl (by decide +kernel) ⟨Nat.le_of_ble_eq_true rfl, Nat.le_of_ble_eq_true rfl⟩) hK hP hD hS [7, 8, 9, 1, 2, 3] rfl rfl rfl rfl rfl rfl rfl rfl rfl hl.1 rfl (Nat.le_of_ble_eq_true rfl) ⟨Nat.zero_le _, Nat.zero_le _⟩ dX4_nameIn_78 (fun H locs hP hD hS => ?_)
    refine W.eq (g2 := F0 mm 81 ls (.int (arow 200 nn) :: [])) rfl ?_
    refine lv_istore (lv' := [(6, .int (arow 200 nn)), (5, .int (nI (hd (P 4) p))), (4, .int (spN nh G h td ((nI (ct (fun i => decide (N 0 i = h)) nn)) + 1))), (3, .int (((nI (ct (fun i => decide (N 0 i = h)) nn)) + 1))), (0, .ref o), (1, .int h), (2, .int ((nI p)))]) hx hb dX4_nameIn_81 hl (by decide) rfl (fun ls hl => ?_)
    refine lv_aload_n hx hb dX4_nameIn_83 rfl (lv_at hl 4 rfl) ?_
    refine va_get (D := D) (ci := 4) (v := .ref na) (C := RX4) (T := TX4) (N := 6) hx hb hts hin4 hown hK hP 0 rfl rfl 2 (by decide) hf28 (fun _ h9 => h9) rfl dX4_nameIn_84 ?_
    refine lv_iload hx hb dX4_nameIn_87 (lv_at hl 0 rfl) ?_
    refine rcV (As := [.int (arow 200 nn)]) (rest := []) (ci := 1) ⟨hx, hb, hml, hown, hts⟩ (kX1_nameAt l D cI cZ na hN aN (adn 200 nn) (naddT nn N h (remI (tat nh 6 G h 2 * ((nI (ct (fun i => decide (N 0 i = h)) nn)) + 1)) 9973) (nI (hd (P 4) p)) td (spN nh G h td ((nI (ct (fun i => decide (N 0 i = h)) nn)) + 1))) pe hP_ aP np P (arow 200 nn) (by first | assumption | exact adn_le hnn) (by first | assumption | omega)) (cwV 1 hts gX4_nameIn_X1_nameAt rfl rfl rfl (by decide +kernel) ⟨Nat.le_of_ble_eq_true rfl, Nat.le_of_ble_eq_true rfl⟩) hK hP [7, 8, 9, 1, 2, 3] rfl rfl rfl rfl rfl hl.1 rfl (Nat.le_of_ble_eq_true rfl) ⟨Nat.zero_le _, Nat.zero_le _⟩ dX4_nameIn_89 ?_
    refine mu_iret hx hb hr hlocks hS dX4_nameIn_92 ?_ ?_
    · have c :  nrow nh nn P G N td h p = -1 := c_53; simp only [nmR, nmNn, nmT, nmI, if_pos c]; rfl
    have q0 : (nI (nmNn nh nn P G N td h p)) = (nI (adn 200 nn)) := by have c :  nrow nh nn P G N td h p = -1 := c_53; simp only [nmNn, nmT, if_pos c] <;> rfl
    have q1 : (fl 5 (nmT nh nn P G N td h p)) = (fl 5 (naddT nn N h (remI (tat nh 6 G h 2 * ((nI (ct (fun i => decide (N 0 i = h)) nn)) + 1)) 9973) (nI (hd (P 4) p)) td (spN nh G h td ((nI (ct (fun i => decide (N 0 i = h)) nn)) + 1)))) := by have c :  nrow nh nn P G N td h p = -1 := c_53; simp only [nmNn, nmT, if_pos c] <;> rfl
    rw [q0, q1]
    exact hP
set_option maxHeartbeats 4000000 in
set_option maxRecDepth 100000 in
theorem kX4_crossWith (l : Launch) (D : va_G) (cI cZ : ClassId) (o pe hP_ aP hu hH aH na hN aN hB aB hE aE np nh nn nb ne : Nat) (td : Int32) (P G N B E : Nat → Nat → Int32) (h : Int32) (g : Int32) (nm : Int32) (hnp : np ≤ 24) (hnh : nh ≤ 5) (hnn : nn ≤ 200) (hnb : nb ≤ 20) (hne : ne ≤ 200) (hw : HP np (P 4)) (ho : HO nn np N) : Met l yX4_crossWith wsX4_crossWith ({ frames := 5, cells := 0, slots := 0, locals := 118 } : Room) (MuP D [(cI, .int), (cZ, .boolean)] [.ref o, .int h, .int g, .int nm] [(o, .inr (4, [.ref pe, .ref hu, .ref na, .ref hB, .ref hE, .int td])), (pe, .inr (2, [.ref hP_])), (hP_, .inr (3, [.int (nI 24), .int (nI 6), .ref aP, .int (nI np)])), (aP, .inl (cI, 24 * 6, .inl (fl 6 P))), (hu, .inr (0, [.ref hH])), (hH, .inr (3, [.int (nI 5), .int (nI 6), .ref aH, .int (nI nh)])), (aH, .inl (cI, 5 * 6, .inl (fl 6 G))), (na, .inr (1, [.ref hN, .ref pe])), (hN, .inr (3, [.int (nI 200), .int (nI 5), .ref aN, .int (nI nn)])), (aN, .inl (cI, 200 * 5, .inl (fl 5 N))), (hB, .inr (3, [.int (nI 20), .int (nI 4), .ref aB, .int (nI nb)])), (aB, .inl (cI, 20 * 4, .inl (fl 4 B))), (hE, .inr (3, [.int (nI 200), .int (nI 6), .ref aE, .int (nI ne)])), (aE, .inl (cI, 200 * 6, .inl (fl 6 E)))]) (QM D (some (.int (crR np nh nn nb P G N B td h g nm))) [(o, .inr (4, [.ref pe, .ref hu, .ref na, .ref hB, .ref hE, .int td])), (pe, .inr (2, [.ref hP_])), (hP_, .inr (3, [.int (nI 24), .int (nI 6), .ref aP, .int (nI np)])), (aP, .inl (cI, 24 * 6, .inl (fl 6 P))), (hu, .inr (0, [.ref hH])), (hH, .inr (3, [.int (nI 5), .int (nI 6), .ref aH, .int (nI nh)])), (aH, .inl (cI, 5 * 6, .inl (fl 6 G))), (na, .inr (1, [.ref hN, .ref pe])), (hN, .inr (3, [.int (nI 200), .int (nI 5), .ref aN, .int (nI nn)])), (aN, .inl (cI, 200 * 5, .inl (fl 5 N))), (hB, .inr (3, [.int (nI 20), .int (nI 4), .ref aB, .int (nI nb)])), (aB, .inl (cI, 20 * 4, .inl (fl 4 B))), (hE, .inr (3, [.int (nI 200), .int (nI 6), .ref aE, .int (nI ne)])), (aE, .inl (cI, 200 * 6, .inl (fl 6 E)))] [(o, .inr (4, [.ref pe, .ref hu, .ref na, .ref hB, .ref hE, .int td])), (pe, .inr (2, [.ref hP_])), (hP_, .inr (3, [.int (nI 24), .int (nI 6), .ref aP, .int (nI np)])), (aP, .inl (cI, 24 * 6, .inl (fl 6 P))), (hu, .inr (0, [.ref hH])), (hH, .inr (3, [.int (nI 5), .int (nI 6), .ref aH, .int (nI nh)])), (aH, .inl (cI, 5 * 6, .inl (fl 6 G))), (na, .inr (1, [.ref hN, .ref pe])), (hN, .inr (3, [.int (nI 200), .int (nI 5), .ref aN, .int (nI (crNn np nh nn nb P G N B td h g nm))])), (aN, .inl (cI, 200 * 5, .inl (fl 5 (crT np nh nn nb P G N B td h g nm)))), (hB, .inr (3, [.int (nI 20), .int (nI 4), .ref aB, .int (nI nb)])), (aB, .inl (cI, 20 * 4, .inl (fl 4 B))), (hE, .inr (3, [.int (nI 200), .int (nI 6), .ref aE, .int (nI ne)])), (aE, .inl (cI, 200 * 6, .inl (fl 6 E)))]) 0 0 (adr [(o, .inr (4, [.ref pe, .ref hu, .ref na, .ref hB, .ref hE, .int td])), (pe, .inr (2, [.ref hP_])), (hP_, .inr (3, [.int (nI 24), .int (nI 6), .ref aP, .int (nI np)])), (aP, .inl (cI, 24 * 6, .inl (fl 6 P))), (hu, .inr (0, [.ref hH])), (hH, .inr (3, [.int (nI 5), .int (nI 6), .ref aH, .int (nI nh)])), (aH, .inl (cI, 5 * 6, .inl (fl 6 G))), (na, .inr (1, [.ref hN, .ref pe])), (hN, .inr (3, [.int (nI 200), .int (nI 5), .ref aN, .int (nI nn)])), (aN, .inl (cI, 200 * 5, .inl (fl 5 N))), (hB, .inr (3, [.int (nI 20), .int (nI 4), .ref aB, .int (nI nb)])), (aB, .inl (cI, 20 * 4, .inl (fl 4 B))), (hE, .inr (3, [.int (nI 200), .int (nI 6), .ref aE, .int (nI ne)])), (aE, .inl (cI, 200 * 6, .inl (fl 6 E)))]) := by
  refine mu_of (cc := cX4_crossWith) (maxL := 7) (ret := (some .int)) (by decide) rfl (Nat.le_of_ble_eq_true rfl) ?_
  intro pp ee ss mm bw me cd ls hx hb hr hts hown hlocks hml hK hl H locs hP hD hS
  have hl : lv_has ls 7 [(0, .ref o), (1, .int h), (2, .int g), (3, .int nm)] := hl
  have hf28 := hts (.fieldLink RX4 28 "OtherNames" "names" "LOtherNames$Names;") (by decide +kernel)
  have hin4 := (show ∀ w ∈ wsX40, w ∈ wsX4_crossWith by decide +kernel)
  have hf19 := hts (.fieldLink RX4 19 "OtherNames" "houses" "LOtherNames$Houses;") (by decide +kernel)
  have hf44 := hts (.fieldLink RX4 44 "OtherNames" "today" "I") (by decide +kernel)
  have hf10 := hts (.fieldLink RX4 10 "OtherNames" "people" "LOtherNames$People;") (by decide +kernel)
  refine lv_aload_n hx hb dX4_crossWith_0 rfl (lv_at hl 0 rfl) ?_
  refine va_get (D := D) (ci := 4) (v := .ref na) (C := RX4) (T := TX4) (N := 6) hx hb hts hin4 hown hK hP 0 rfl rfl 2 (by decide) hf28 (fun _ h9 => h9) rfl dX4_crossWith_1 ?_
  refine lv_iload_n hx hb dX4_crossWith_4 rfl (lv_at hl 1 rfl) ?_
  refine lv_iload_n hx hb dX4_crossWith_5 rfl (lv_at hl 3 rfl) ?_
  refine rcV (As := [.int h, .int nm]) (rest := []) (ci := 1) ⟨hx, hb, hml, hown, hts⟩ (kX1_find l D cI cZ na hN aN nn N pe hP_ aP np P h nm (by first | assumption | omega) (by first | assumption | omega)) (cwV 2 hts gX4_crossWith_X1_find rfl rfl rfl (by decide +kernel) ⟨Nat.le_of_ble_eq_true rfl, Nat.le_of_ble_eq_true rfl⟩) hK hP [7, 8, 9, 1, 2, 3] rfl rfl rfl rfl rfl hl.1 rfl (Nat.le_of_ble_eq_true rfl) ⟨Nat.zero_le _, Nat.zero_le _⟩ dX4_crossWith_6 ?_
  refine lv_istore (lv' := [(4, .int (fsI (fdB N h nm) nn)), (0, .ref o), (1, .int h), (2, .int g), (3, .int nm)]) hx hb dX4_crossWith_9 hl (by decide) rfl (fun ls hl => ?_)
  refine lv_iload hx hb dX4_crossWith_11 (lv_at hl 0 rfl) ?_
  refine lv_iconst (v := (-1)) hx hb dX4_crossWith_13 (by decide) ?_
  refine lv_icmp_eq (tgt := 41) hx hb dX4_crossWith_14 (by decide) (fun c_14 => ?_) (fun c_14 => ?_)
  · skip
    refine lv_iconst (v := (-1)) hx hb dX4_crossWith_41 (by decide) ?_
    refine mu_iret hx hb hr hlocks hS dX4_crossWith_42 ?_ ?_
    · rw [crR, if_neg (by simp [crB, c_14])]
    have q0 : (nI (crNn np nh nn nb P G N B td h g nm)) = (nI nn) := by rw [crNn, if_neg (by simp [crB, c_14])]
    have q1 : (fl 5 (crT np nh nn nb P G N B td h g nm)) = (fl 5 N) := by rw [crT, if_neg (by simp [crB, c_14])]
    rw [q0, q1]
    exact hP
  · skip
    refine lv_aload_n hx hb dX4_crossWith_17 rfl (lv_at hl 1 rfl) ?_
    refine va_get (D := D) (ci := 4) (v := .ref hu) (C := RX4) (T := TX4) (N := 6) hx hb hts hin4 hown hK hP 0 rfl rfl 1 (by decide) hf19 (fun _ h9 => h9) rfl dX4_crossWith_18 ?_
    refine lv_iload_n hx hb dX4_crossWith_21 rfl (lv_at hl 2 rfl) ?_
    refine rcV (As := [.int h]) (rest := []) (ci := 0) ⟨hx, hb, hml, hown, hts⟩ (kX0_isLost l D cI cZ hu hH aH nh G h (by first | assumption | omega)) (cwV 1 hts gX4_crossWith_X0_isLost rfl rfl rfl (by decide +kernel) ⟨Nat.le_of_ble_eq_true rfl, Nat.le_of_ble_eq_true rfl⟩) hK hP [4, 5, 6] rfl rfl rfl rfl rfl hl.1 rfl (Nat.le_of_ble_eq_true rfl) ⟨Nat.zero_le _, Nat.zero_le _⟩ dX4_crossWith_22 ?_
    refine lb_ne (tgt := 41) hx hb dX4_crossWith_25 (by decide) (fun c_25 => ?_) (fun c_25 => ?_)
    · skip
      have c_25 := of_decide_eq_true c_25
      refine lv_iconst (v := (-1)) hx hb dX4_crossWith_41 (by decide) ?_
      refine mu_iret hx hb hr hlocks hS dX4_crossWith_42 ?_ ?_
      · rw [crR, if_neg (by simp [crB, c_14, c_25])]
      have q0 : (nI (crNn np nh nn nb P G N B td h g nm)) = (nI nn) := by rw [crNn, if_neg (by simp [crB, c_14, c_25])]
      have q1 : (fl 5 (crT np nh nn nb P G N B td h g nm)) = (fl 5 N) := by rw [crT, if_neg (by simp [crB, c_14, c_25])]
      rw [q0, q1]
      exact hP
    · skip
      have c_25 := of_decide_eq_false c_25
      refine lv_aload_n hx hb dX4_crossWith_28 rfl (lv_at hl 1 rfl) ?_
      refine lv_iload_n hx hb dX4_crossWith_29 rfl (lv_at hl 2 rfl) ?_
      refine lv_iload_n hx hb dX4_crossWith_30 rfl (lv_at hl 3 rfl) ?_
      refine lv_aload_n hx hb dX4_crossWith_31 rfl (lv_at hl 1 rfl) ?_
      refine va_get (D := D) (ci := 4) (v := .int td) (C := RX4) (T := TX4) (N := 6) hx hb hts hin4 hown hK hP 0 rfl rfl 5 (by decide) hf44 (fun _ h9 => h9) rfl dX4_crossWith_32 ?_
      refine rcV (As := [.int h, .int g, .int td]) (rest := []) (ci := 4) ⟨hx, hb, hml, hown, hts⟩ (kX4_isBridged l D cI cZ o pe hP_ aP hu hH aH na hN aN hB aB hE aE np nh nn nb ne td P G N B E h g td (by first | assumption | omega) (by first | assumption | omega) (by first | assumption | omega) (by first | assumption | omega) (by first | assumption | omega) (by first | assumption | omega) (by first | assumption | omega)) (cwV 3 hts gX4_crossWith_X4_isBridged rfl rfl rfl (by decide +kernel) ⟨Nat.le_of_ble_eq_true rfl, Nat.le_of_ble_eq_true rfl⟩) hK hP [0, 1, 2, 3, 4, 5, 6, 7, 8, 9, 10, 11, 12, 13] rfl rfl rfl rfl rfl hl.1 rfl (Nat.le_of_ble_eq_true rfl) ⟨Nat.zero_le _, Nat.zero_le _⟩ dX4_crossWith_35 ?_
      refine lb_ne (tgt := 43) hx hb dX4_crossWith_38 (by decide) (fun c_38 => ?_) (fun c_38 => ?_)
      · skip
        obtain ⟨i, hi2, e, hf, hmin⟩ := fsI_ex (by omega) c_14
        rw [e] at hl
        refine lv_aload_n hx hb dX4_crossWith_43 rfl (lv_at hl 1 rfl) ?_
        refine va_get (D := D) (ci := 4) (v := .ref na) (C := RX4) (T := TX4) (N := 6) hx hb hts hin4 hown hK hP 0 rfl rfl 2 (by decide) hf28 (fun _ h9 => h9) rfl dX4_crossWith_44 ?_
        refine lv_iload hx hb dX4_crossWith_47 (lv_at hl 0 rfl) ?_
        refine rcV (As := [.int ((nI i))]) (rest := []) (ci := 1) ⟨hx, hb, hml, hown, hts⟩ (kX1_ownerAt l D cI cZ na hN aN nn N pe hP_ aP np P (nI i) (by first | assumption | omega) (by first | assumption | omega)) (cwV 1 hts gX4_crossWith_X1_ownerAt rfl rfl rfl (by decide +kernel) ⟨Nat.le_of_ble_eq_true rfl, Nat.le_of_ble_eq_true rfl⟩) hK hP [7, 8, 9, 1, 2, 3] rfl rfl rfl rfl rfl hl.1 rfl (Nat.le_of_ble_eq_true rfl) ⟨Nat.zero_le _, Nat.zero_le _⟩ dX4_crossWith_49 ?_
        rw [show tat nn 5 N (nI i) 2 = nI (ow N i) from (tat_nI (c := 2) (by omega) (by omega) hi2 (by omega)).trans (ho i hi2).1]
        refine lv_istore (lv' := [(5, .int (nI (ow N i))), (4, .int ((nI i))), (0, .ref o), (1, .int h), (2, .int g), (3, .int nm)]) hx hb dX4_crossWith_52 hl (by decide) rfl (fun ls hl => ?_)
        refine lv_aload_n hx hb dX4_crossWith_54 rfl (lv_at hl 2 rfl) ?_
        refine va_get (D := D) (ci := 4) (v := .ref hu) (C := RX4) (T := TX4) (N := 6) hx hb hts hin4 hown hK hP 0 rfl rfl 1 (by decide) hf19 (fun _ h9 => h9) rfl dX4_crossWith_55 ?_
        refine lv_iload_n hx hb dX4_crossWith_58 rfl (lv_at hl 3 rfl) ?_
        refine rcV (As := [.int h]) (rest := []) (ci := 0) ⟨hx, hb, hml, hown, hts⟩ (kX0_isSpanned l D cI cZ hu hH aH nh G h (by first | assumption | omega)) (cwV 1 hts gX4_crossWith_X0_isSpanned rfl rfl rfl (by decide +kernel) ⟨Nat.le_of_ble_eq_true rfl, Nat.le_of_ble_eq_true rfl⟩) hK hP [4, 5, 6] rfl rfl rfl rfl rfl hl.1 rfl (Nat.le_of_ble_eq_true rfl) ⟨Nat.zero_le _, Nat.zero_le _⟩ dX4_crossWith_59 ?_
        refine lb_eq (tgt := 94) hx hb dX4_crossWith_62 (by decide) (fun c_62 => ?_) (fun c_62 => ?_)
        · skip
          have c_62 := of_decide_eq_false c_62
          refine lv_iconst (v := 0) hx hb dX4_crossWith_94 (by decide) ?_
          refine lv_istore (lv' := [(6, .int 0), (5, .int (nI (ow N i))), (4, .int ((nI i))), (0, .ref o), (1, .int h), (2, .int g), (3, .int nm)]) hx hb dX4_crossWith_95 hl (by decide) rfl (fun ls hl => ?_)
          refine lv_iload hx hb dX4_crossWith_97 (lv_at hl 0 rfl) ?_
          refine lv_if_ne (tgt := 114) hx hb dX4_crossWith_99 (by decide) (fun c9 => absurd c9 (by decide)) (fun _ => ?_)
          refine lv_aload_n hx hb dX4_crossWith_102 rfl (lv_at hl 3 rfl) ?_
          refine va_get (D := D) (ci := 4) (v := .ref pe) (C := RX4) (T := TX4) (N := 6) hx hb hts hin4 hown hK hP 0 rfl rfl 0 (by decide) hf10 (fun _ h9 => h9) rfl dX4_crossWith_103 ?_
          refine lv_iload hx hb dX4_crossWith_106 (lv_at hl 1 rfl) ?_
          refine rcV (As := [.int (nI (ow N i))]) (rest := []) (ci := 2) ⟨hx, hb, hml, hown, hts⟩ (kX2_isStruckOut l D cI cZ pe hP_ aP np P (nI (ow N i)) (by first | assumption | omega)) (cwV 1 hts gX4_crossWith_X2_isStruckOut rfl rfl rfl (by decide +kernel) ⟨Nat.le_of_ble_eq_true rfl, Nat.le_of_ble_eq_true rfl⟩) hK hP [1, 2, 3] rfl rfl rfl rfl rfl hl.1 rfl (Nat.le_of_ble_eq_true rfl) ⟨Nat.zero_le _, Nat.zero_le _⟩ dX4_crossWith_108 ?_
          refine lb_eq (tgt := 118) hx hb dX4_crossWith_111 (by decide) (fun c_111 => ?_) (fun c_111 => ?_)
          · skip
            refine lv_aload_n hx hb dX4_crossWith_118 rfl (lv_at hl 3 rfl) ?_
            refine lv_iload_n hx hb dX4_crossWith_119 rfl (lv_at hl 5 rfl) ?_
            refine lv_iload hx hb dX4_crossWith_120 (lv_at hl 1 rfl) ?_
            refine mcV (As := [.int g, .int (nI (ow N i))]) (rest := []) (ci := 4) (wn := [(o, .inr (4, [.ref pe, .ref hu, .ref na, .ref hB, .ref hE, .int td])), (pe, .inr (2, [.ref hP_])), (hP_, .inr (3, [.int (nI 24), .int (nI 6), .ref aP, .int (nI np)])), (aP, .inl (cI, 24 * 6, .inl (fl 6 P))), (hu, .inr (0, [.ref hH])), (hH, .inr (3, [.int (nI 5), .int (nI 6), .ref aH, .int (nI nh)])), (aH, .inl (cI, 5 * 6, .inl (fl 6 G))), (na, .inr (1, [.ref hN, .ref pe])), (hN, .inr (3, [.int (nI 200), .int (nI 5), .ref aN, .int (nI (nmNn nh nn P G N td g (ow N i)))])), (aN, .inl (cI, 200 * 5, .inl (fl 5 (nmT nh nn P G N td g (ow N i))))), (hB, .inr (3, [.int (nI 20), .int (nI 4), .ref aB, .int (nI nb)])), (aB, .inl (cI, 20 * 4, .inl (fl 4 B))), (hE, .inr (3, [.int (nI 200), .int (nI 6), .ref aE, .int (nI ne)])), (aE, .inl (cI, 200 * 6, .inl (fl 6 E)))]) ⟨hx, hb, hml, hown, hts⟩ (kX4_nameIn l D cI cZ o pe hP_ aP hu hH aH na hN aN hB aB hE aE np nh nn nb ne td P G N B E g (ow N i) (by first | assumption | omega) (by first | assumption | omega) (by first | assumption | omega) (by first | assumption | omega) (by first | assumption | omega) (by first | assumption | omega) (by first | assumption | omega) (ho i hi2).2) (cwV 2 hts gX4_crossWith_X4_nameIn rfl rfl rfl (by decide +kernel) ⟨Nat.le_of_ble_eq_true rfl, Nat.le_of_ble_eq_true rfl⟩) hK hP hD hS [0, 1, 2, 3, 4, 5, 6, 7, 8, 9, 10, 11, 12, 13] rfl rfl rfl rfl rfl rfl rfl rfl rfl hl.1 rfl (Nat.le_of_ble_eq_true rfl) ⟨Nat.zero_le _, Nat.zero_le _⟩ dX4_crossWith_122 (fun H locs hP hD hS => ?_)
            refine W.eq (g2 := F0 mm 125 ls (.int (nmR nh nn P G N td g (ow N i)) :: [])) rfl ?_
            refine mu_iret hx hb hr hlocks hS dX4_crossWith_125 ?_ ?_
            · rw [crR, if_pos (by simp [crB, e, nI_clamp (show i < 2 ^ 31 by omega), m1_nI (show i < 2 ^ 31 by omega), c_14, c_25, c_38, c_62, c_111]), e, nI_clamp (show i < 2 ^ 31 by omega)]
            have q0 : (nI (crNn np nh nn nb P G N B td h g nm)) = (nI (nmNn nh nn P G N td g (ow N i))) := by rw [crNn, if_pos (by simp [crB, e, nI_clamp (show i < 2 ^ 31 by omega), m1_nI (show i < 2 ^ 31 by omega), c_14, c_25, c_38, c_62, c_111]), e, nI_clamp (show i < 2 ^ 31 by omega)]
            have q1 : (fl 5 (crT np nh nn nb P G N B td h g nm)) = (fl 5 (nmT nh nn P G N td g (ow N i))) := by rw [crT, if_pos (by simp [crB, e, nI_clamp (show i < 2 ^ 31 by omega), m1_nI (show i < 2 ^ 31 by omega), c_14, c_25, c_38, c_62, c_111]), e, nI_clamp (show i < 2 ^ 31 by omega)]
            rw [q0, q1]
            exact hP
          · skip
            refine lv_iconst (v := (-1)) hx hb dX4_crossWith_114 (by decide) ?_
            refine lv_goto (tgt := 125) hx hb dX4_crossWith_115 (by decide) ?_
            refine mu_iret hx hb hr hlocks hS dX4_crossWith_125 ?_ ?_
            · rw [crR, if_neg (by simp [crB, e, nI_clamp (show i < 2 ^ 31 by omega), c_14, c_25, c_38, c_62, c_111])]
            have q0 : (nI (crNn np nh nn nb P G N B td h g nm)) = (nI nn) := by rw [crNn, if_neg (by simp [crB, e, nI_clamp (show i < 2 ^ 31 by omega), c_14, c_25, c_38, c_62, c_111])]
            have q1 : (fl 5 (crT np nh nn nb P G N B td h g nm)) = (fl 5 N) := by rw [crT, if_neg (by simp [crB, e, nI_clamp (show i < 2 ^ 31 by omega), c_14, c_25, c_38, c_62, c_111])]
            rw [q0, q1]
            exact hP
        · skip
          have c_62 := of_decide_eq_true c_62
          refine lv_aload_n hx hb dX4_crossWith_65 rfl (lv_at hl 2 rfl) ?_
          refine va_get (D := D) (ci := 4) (v := .ref na) (C := RX4) (T := TX4) (N := 6) hx hb hts hin4 hown hK hP 0 rfl rfl 2 (by decide) hf28 (fun _ h9 => h9) rfl dX4_crossWith_66 ?_
          refine lv_iload hx hb dX4_crossWith_69 (lv_at hl 1 rfl) ?_
          refine rcV (As := [.int ((nI i))]) (rest := []) (ci := 1) ⟨hx, hb, hml, hown, hts⟩ (kX1_spanNumberAt l D cI cZ na hN aN nn N pe hP_ aP np P (nI i) (by first | assumption | omega) (by first | assumption | omega)) (cwV 1 hts gX4_crossWith_X1_spanNumberAt rfl rfl rfl (by decide +kernel) ⟨Nat.le_of_ble_eq_true rfl, Nat.le_of_ble_eq_true rfl⟩) hK hP [7, 8, 9, 1, 2, 3] rfl rfl rfl rfl rfl hl.1 rfl (Nat.le_of_ble_eq_true rfl) ⟨Nat.zero_le _, Nat.zero_le _⟩ dX4_crossWith_71 ?_
          refine lv_aload_n hx hb dX4_crossWith_74 rfl (lv_at hl 2 rfl) ?_
          refine va_get (D := D) (ci := 4) (v := .ref hu) (C := RX4) (T := TX4) (N := 6) hx hb hts hin4 hown hK hP 0 rfl rfl 1 (by decide) hf19 (fun _ h9 => h9) rfl dX4_crossWith_75 ?_
          refine lv_iload_n hx hb dX4_crossWith_78 rfl (lv_at hl 3 rfl) ?_
          refine lv_aload_n hx hb dX4_crossWith_79 rfl (lv_at hl 2 rfl) ?_
          refine va_get (D := D) (ci := 4) (v := .int td) (C := RX4) (T := TX4) (N := 6) hx hb hts hin4 hown hK hP 0 rfl rfl 5 (by decide) hf44 (fun _ h9 => h9) rfl dX4_crossWith_80 ?_
          refine lv_iconst (v := 0) hx hb dX4_crossWith_83 (by decide) ?_
          refine rcV (As := [.int h, .int td, .int 0]) (rest := [.int (tat nn 5 N (nI i) 4)]) (ci := 0) ⟨hx, hb, hml, hown, hts⟩ (kX0_spanNumber l D cI cZ hu hH aH nh G h td 0 (by first | assumption | omega)) (cwV 3 hts gX4_crossWith_X0_spanNumber rfl rfl rfl (by decide +kernel) ⟨Nat.le_of_ble_eq_true rfl, Nat.le_of_ble_eq_true rfl⟩) hK hP [4, 5, 6] rfl rfl rfl rfl rfl hl.1 rfl (Nat.le_of_ble_eq_true rfl) ⟨Nat.zero_le _, Nat.zero_le _⟩ dX4_crossWith_84 ?_
          refine lv_icmp_eq (tgt := 94) hx hb dX4_crossWith_87 (by decide) (fun c_87 => ?_) (fun c_87 => ?_)
          · skip
            refine lv_iconst (v := 0) hx hb dX4_crossWith_94 (by decide) ?_
            refine lv_istore (lv' := [(6, .int 0), (5, .int (nI (ow N i))), (4, .int ((nI i))), (0, .ref o), (1, .int h), (2, .int g), (3, .int nm)]) hx hb dX4_crossWith_95 hl (by decide) rfl (fun ls hl => ?_)
            refine lv_iload hx hb dX4_crossWith_97 (lv_at hl 0 rfl) ?_
            refine lv_if_ne (tgt := 114) hx hb dX4_crossWith_99 (by decide) (fun c9 => absurd c9 (by decide)) (fun _ => ?_)
            refine lv_aload_n hx hb dX4_crossWith_102 rfl (lv_at hl 3 rfl) ?_
            refine va_get (D := D) (ci := 4) (v := .ref pe) (C := RX4) (T := TX4) (N := 6) hx hb hts hin4 hown hK hP 0 rfl rfl 0 (by decide) hf10 (fun _ h9 => h9) rfl dX4_crossWith_103 ?_
            refine lv_iload hx hb dX4_crossWith_106 (lv_at hl 1 rfl) ?_
            refine rcV (As := [.int (nI (ow N i))]) (rest := []) (ci := 2) ⟨hx, hb, hml, hown, hts⟩ (kX2_isStruckOut l D cI cZ pe hP_ aP np P (nI (ow N i)) (by first | assumption | omega)) (cwV 1 hts gX4_crossWith_X2_isStruckOut rfl rfl rfl (by decide +kernel) ⟨Nat.le_of_ble_eq_true rfl, Nat.le_of_ble_eq_true rfl⟩) hK hP [1, 2, 3] rfl rfl rfl rfl rfl hl.1 rfl (Nat.le_of_ble_eq_true rfl) ⟨Nat.zero_le _, Nat.zero_le _⟩ dX4_crossWith_108 ?_
            refine lb_eq (tgt := 118) hx hb dX4_crossWith_111 (by decide) (fun c_111 => ?_) (fun c_111 => ?_)
            · skip
              refine lv_aload_n hx hb dX4_crossWith_118 rfl (lv_at hl 3 rfl) ?_
              refine lv_iload_n hx hb dX4_crossWith_119 rfl (lv_at hl 5 rfl) ?_
              refine lv_iload hx hb dX4_crossWith_120 (lv_at hl 1 rfl) ?_
              refine mcV (As := [.int g, .int (nI (ow N i))]) (rest := []) (ci := 4) (wn := [(o, .inr (4, [.ref pe, .ref hu, .ref na, .ref hB, .ref hE, .int td])), (pe, .inr (2, [.ref hP_])), (hP_, .inr (3, [.int (nI 24), .int (nI 6), .ref aP, .int (nI np)])), (aP, .inl (cI, 24 * 6, .inl (fl 6 P))), (hu, .inr (0, [.ref hH])), (hH, .inr (3, [.int (nI 5), .int (nI 6), .ref aH, .int (nI nh)])), (aH, .inl (cI, 5 * 6, .inl (fl 6 G))), (na, .inr (1, [.ref hN, .ref pe])), (hN, .inr (3, [.int (nI 200), .int (nI 5), .ref aN, .int (nI (nmNn nh nn P G N td g (ow N i)))])), (aN, .inl (cI, 200 * 5, .inl (fl 5 (nmT nh nn P G N td g (ow N i))))), (hB, .inr (3, [.int (nI 20), .int (nI 4), .ref aB, .int (nI nb)])), (aB, .inl (cI, 20 * 4, .inl (fl 4 B))), (hE, .inr (3, [.int (nI 200), .int (nI 6), .ref aE, .int (nI ne)])), (aE, .inl (cI, 200 * 6, .inl (fl 6 E)))]) ⟨hx, hb, hml, hown, hts⟩ (kX4_nameIn l D cI cZ o pe hP_ aP hu hH aH na hN aN hB aB hE aE np nh nn nb ne td P G N B E g (ow N i) (by first | assumption | omega) (by first | assumption | omega) (by first | assumption | omega) (by first | assumption | omega) (by first | assumption | omega) (by first | assumption | omega) (by first | assumption | omega) (ho i hi2).2) (cwV 2 hts gX4_crossWith_X4_nameIn rfl rfl rfl (by decide +kernel) ⟨Nat.le_of_ble_eq_true rfl, Nat.le_of_ble_eq_true rfl⟩) hK hP hD hS [0, 1, 2, 3, 4, 5, 6, 7, 8, 9, 10, 11, 12, 13] rfl rfl rfl rfl rfl rfl rfl rfl rfl hl.1 rfl (Nat.le_of_ble_eq_true rfl) ⟨Nat.zero_le _, Nat.zero_le _⟩ dX4_crossWith_122 (fun H locs hP hD hS => ?_)
              refine W.eq (g2 := F0 mm 125 ls (.int (nmR nh nn P G N td g (ow N i)) :: [])) rfl ?_
              refine mu_iret hx hb hr hlocks hS dX4_crossWith_125 ?_ ?_
              · rw [crR, if_pos (by simp [crB, e, nI_clamp (show i < 2 ^ 31 by omega), m1_nI (show i < 2 ^ 31 by omega), c_14, c_25, c_38, c_62, c_87, c_111]), e, nI_clamp (show i < 2 ^ 31 by omega)]
              have q0 : (nI (crNn np nh nn nb P G N B td h g nm)) = (nI (nmNn nh nn P G N td g (ow N i))) := by rw [crNn, if_pos (by simp [crB, e, nI_clamp (show i < 2 ^ 31 by omega), m1_nI (show i < 2 ^ 31 by omega), c_14, c_25, c_38, c_62, c_87, c_111]), e, nI_clamp (show i < 2 ^ 31 by omega)]
              have q1 : (fl 5 (crT np nh nn nb P G N B td h g nm)) = (fl 5 (nmT nh nn P G N td g (ow N i))) := by rw [crT, if_pos (by simp [crB, e, nI_clamp (show i < 2 ^ 31 by omega), m1_nI (show i < 2 ^ 31 by omega), c_14, c_25, c_38, c_62, c_87, c_111]), e, nI_clamp (show i < 2 ^ 31 by omega)]
              rw [q0, q1]
              exact hP
            · skip
              refine lv_iconst (v := (-1)) hx hb dX4_crossWith_114 (by decide) ?_
              refine lv_goto (tgt := 125) hx hb dX4_crossWith_115 (by decide) ?_
              refine mu_iret hx hb hr hlocks hS dX4_crossWith_125 ?_ ?_
              · rw [crR, if_neg (by simp [crB, e, nI_clamp (show i < 2 ^ 31 by omega), c_14, c_25, c_38, c_62, c_87, c_111])]
              have q0 : (nI (crNn np nh nn nb P G N B td h g nm)) = (nI nn) := by rw [crNn, if_neg (by simp [crB, e, nI_clamp (show i < 2 ^ 31 by omega), c_14, c_25, c_38, c_62, c_87, c_111])]
              have q1 : (fl 5 (crT np nh nn nb P G N B td h g nm)) = (fl 5 N) := by rw [crT, if_neg (by simp [crB, e, nI_clamp (show i < 2 ^ 31 by omega), c_14, c_25, c_38, c_62, c_87, c_111])]
              rw [q0, q1]
              exact hP
          · skip
            refine lv_iconst (v := 1) hx hb dX4_crossWith_90 (by decide) ?_
            refine lv_goto (tgt := 95) hx hb dX4_crossWith_91 (by decide) ?_
            refine lv_istore (lv' := [(6, .int 1), (5, .int (nI (ow N i))), (4, .int ((nI i))), (0, .ref o), (1, .int h), (2, .int g), (3, .int nm)]) hx hb dX4_crossWith_95 hl (by decide) rfl (fun ls hl => ?_)
            refine lv_iload hx hb dX4_crossWith_97 (lv_at hl 0 rfl) ?_
            refine lv_if_ne (tgt := 114) hx hb dX4_crossWith_99 (by decide) (fun _ => ?_) (fun c9 => absurd c9 (by decide))
            refine lv_iconst (v := (-1)) hx hb dX4_crossWith_114 (by decide) ?_
            refine lv_goto (tgt := 125) hx hb dX4_crossWith_115 (by decide) ?_
            refine mu_iret hx hb hr hlocks hS dX4_crossWith_125 ?_ ?_
            · rw [crR, if_neg (by simp [crB, e, nI_clamp (show i < 2 ^ 31 by omega), c_14, c_25, c_38, c_62, c_87])]
            have q0 : (nI (crNn np nh nn nb P G N B td h g nm)) = (nI nn) := by rw [crNn, if_neg (by simp [crB, e, nI_clamp (show i < 2 ^ 31 by omega), c_14, c_25, c_38, c_62, c_87])]
            have q1 : (fl 5 (crT np nh nn nb P G N B td h g nm)) = (fl 5 N) := by rw [crT, if_neg (by simp [crB, e, nI_clamp (show i < 2 ^ 31 by omega), c_14, c_25, c_38, c_62, c_87])]
            rw [q0, q1]
            exact hP
      · skip
        refine lv_iconst (v := (-1)) hx hb dX4_crossWith_41 (by decide) ?_
        refine mu_iret hx hb hr hlocks hS dX4_crossWith_42 ?_ ?_
        · rw [crR, if_neg (by simp [crB, c_14, c_25, c_38])]
        have q0 : (nI (crNn np nh nn nb P G N B td h g nm)) = (nI nn) := by rw [crNn, if_neg (by simp [crB, c_14, c_25, c_38])]
        have q1 : (fl 5 (crT np nh nn nb P G N B td h g nm)) = (fl 5 N) := by rw [crT, if_neg (by simp [crB, c_14, c_25, c_38])]
        rw [q0, q1]
        exact hP
set_option maxHeartbeats 4000000 in
set_option maxRecDepth 100000 in
theorem kX4_cross (l : Launch) (D : va_G) (cI cZ : ClassId) (o pe hP_ aP hu hH aH na hN aN hB aB hE aE np nh nn nb ne : Nat) (td : Int32) (P G N B E : Nat → Nat → Int32) (h : Int32) (g : Int32) (nm : Int32) (hand : Int32) (hnp : np ≤ 24) (hnh : nh ≤ 5) (hnn : nn ≤ 200) (hnb : nb ≤ 20) (hne : ne ≤ 200) (hw : HP np (P 4)) (ho : HO nn np N) : Met l yX4_cross wsX4_cross ({ frames := 6, cells := 0, slots := 0, locals := 144 } : Room) (MuP D [(cI, .int), (cZ, .boolean)] [.ref o, .int h, .int g, .int nm, .int hand] [(o, .inr (4, [.ref pe, .ref hu, .ref na, .ref hB, .ref hE, .int td])), (pe, .inr (2, [.ref hP_])), (hP_, .inr (3, [.int (nI 24), .int (nI 6), .ref aP, .int (nI np)])), (aP, .inl (cI, 24 * 6, .inl (fl 6 P))), (hu, .inr (0, [.ref hH])), (hH, .inr (3, [.int (nI 5), .int (nI 6), .ref aH, .int (nI nh)])), (aH, .inl (cI, 5 * 6, .inl (fl 6 G))), (na, .inr (1, [.ref hN, .ref pe])), (hN, .inr (3, [.int (nI 200), .int (nI 5), .ref aN, .int (nI nn)])), (aN, .inl (cI, 200 * 5, .inl (fl 5 N))), (hB, .inr (3, [.int (nI 20), .int (nI 4), .ref aB, .int (nI nb)])), (aB, .inl (cI, 20 * 4, .inl (fl 4 B))), (hE, .inr (3, [.int (nI 200), .int (nI 6), .ref aE, .int (nI ne)])), (aE, .inl (cI, 200 * 6, .inl (fl 6 E)))]) (QM D (some (.int (if okC nh ne h g hand = true then crR np nh nn nb P G N B td h g nm else -1))) [(o, .inr (4, [.ref pe, .ref hu, .ref na, .ref hB, .ref hE, .int td])), (pe, .inr (2, [.ref hP_])), (hP_, .inr (3, [.int (nI 24), .int (nI 6), .ref aP, .int (nI np)])), (aP, .inl (cI, 24 * 6, .inl (fl 6 P))), (hu, .inr (0, [.ref hH])), (hH, .inr (3, [.int (nI 5), .int (nI 6), .ref aH, .int (nI nh)])), (aH, .inl (cI, 5 * 6, .inl (fl 6 G))), (na, .inr (1, [.ref hN, .ref pe])), (hN, .inr (3, [.int (nI 200), .int (nI 5), .ref aN, .int (nI nn)])), (aN, .inl (cI, 200 * 5, .inl (fl 5 N))), (hB, .inr (3, [.int (nI 20), .int (nI 4), .ref aB, .int (nI nb)])), (aB, .inl (cI, 20 * 4, .inl (fl 4 B))), (hE, .inr (3, [.int (nI 200), .int (nI 6), .ref aE, .int (nI ne)])), (aE, .inl (cI, 200 * 6, .inl (fl 6 E)))] [(o, .inr (4, [.ref pe, .ref hu, .ref na, .ref hB, .ref hE, .int td])), (pe, .inr (2, [.ref hP_])), (hP_, .inr (3, [.int (nI 24), .int (nI 6), .ref aP, .int (nI np)])), (aP, .inl (cI, 24 * 6, .inl (fl 6 P))), (hu, .inr (0, [.ref hH])), (hH, .inr (3, [.int (nI 5), .int (nI 6), .ref aH, .int (nI nh)])), (aH, .inl (cI, 5 * 6, .inl (fl 6 G))), (na, .inr (1, [.ref hN, .ref pe])), (hN, .inr (3, [.int (nI 200), .int (nI 5), .ref aN, .int (nI (if okC nh ne h g hand = true then crNn np nh nn nb P G N B td h g nm else nn))])), (aN, .inl (cI, 200 * 5, .inl (fl 5 (if okC nh ne h g hand = true then crT np nh nn nb P G N B td h g nm else N)))), (hB, .inr (3, [.int (nI 20), .int (nI 4), .ref aB, .int (nI nb)])), (aB, .inl (cI, 20 * 4, .inl (fl 4 B))), (hE, .inr (3, [.int (nI 200), .int (nI 6), .ref aE, .int (nI (if okC nh ne h g hand = true then adn 200 ne else ne))])), (aE, .inl (cI, 200 * 6, .inl (fl 6 (if okC nh ne h g hand = true then eaddT ne E (if crR np nh nn nb P G N B td h g nm = -1 then 2 else 0) h nm hand (-1) td else E))))]) 0 0 (adr [(o, .inr (4, [.ref pe, .ref hu, .ref na, .ref hB, .ref hE, .int td])), (pe, .inr (2, [.ref hP_])), (hP_, .inr (3, [.int (nI 24), .int (nI 6), .ref aP, .int (nI np)])), (aP, .inl (cI, 24 * 6, .inl (fl 6 P))), (hu, .inr (0, [.ref hH])), (hH, .inr (3, [.int (nI 5), .int (nI 6), .ref aH, .int (nI nh)])), (aH, .inl (cI, 5 * 6, .inl (fl 6 G))), (na, .inr (1, [.ref hN, .ref pe])), (hN, .inr (3, [.int (nI 200), .int (nI 5), .ref aN, .int (nI nn)])), (aN, .inl (cI, 200 * 5, .inl (fl 5 N))), (hB, .inr (3, [.int (nI 20), .int (nI 4), .ref aB, .int (nI nb)])), (aB, .inl (cI, 20 * 4, .inl (fl 4 B))), (hE, .inr (3, [.int (nI 200), .int (nI 6), .ref aE, .int (nI ne)])), (aE, .inl (cI, 200 * 6, .inl (fl 6 E)))]) := by
  refine mu_of (cc := cX4_cross) (maxL := 6) (ret := (some .int)) (by decide) rfl (Nat.le_of_ble_eq_true rfl) ?_
  intro pp ee ss mm bw me cd ls hx hb hr hts hown hlocks hml hK hl H locs hP hD hS
  have hl : lv_has ls 6 [(0, .ref o), (1, .int h), (2, .int g), (3, .int nm), (4, .int hand)] := hl
  have hf19 := hts (.fieldLink RX4 19 "OtherNames" "houses" "LOtherNames$Houses;") (by decide +kernel)
  have hin4 := (show ∀ w ∈ wsX40, w ∈ wsX4_cross by decide +kernel)
  have hf41 := hts (.fieldLink RX4 41 "OtherNames" "entries" "LOtherNames$Rows;") (by decide +kernel)
  refine lv_aload_n hx hb dX4_cross_0 rfl (lv_at hl 0 rfl) ?_
  refine va_get (D := D) (ci := 4) (v := .ref hu) (C := RX4) (T := TX4) (N := 6) hx hb hts hin4 hown hK hP 0 rfl rfl 1 (by decide) hf19 (fun _ h9 => h9) rfl dX4_cross_1 ?_
  refine lv_iload_n hx hb dX4_cross_4 rfl (lv_at hl 1 rfl) ?_
  refine rcV (As := [.int h]) (rest := []) (ci := 0) ⟨hx, hb, hml, hown, hts⟩ (kX0_isThere l D cI cZ hu hH aH nh G h (by first | assumption | omega)) (cwV 1 hts gX4_cross_X0_isThere rfl rfl rfl (by decide +kernel) ⟨Nat.le_of_ble_eq_true rfl, Nat.le_of_ble_eq_true rfl⟩) hK hP [4, 5, 6] rfl rfl rfl rfl rfl hl.1 rfl (Nat.le_of_ble_eq_true rfl) ⟨Nat.zero_le _, Nat.zero_le _⟩ dX4_cross_5 ?_
  refine lb_eq (tgt := 40) hx hb dX4_cross_8 (by decide) (fun c_8 => ?_) (fun c_8 => ?_)
  · skip
    refine lv_iconst (v := (-1)) hx hb dX4_cross_40 (by decide) ?_
    refine mu_iret hx hb hr hlocks hS dX4_cross_41 ?_ ?_
    · rw [if_neg (by simp [okC, c_8])]
    have q0 : (nI (if okC nh ne h g hand = true then crNn np nh nn nb P G N B td h g nm else nn)) = (nI nn) := by rw [if_neg (by simp [okC, c_8])]
    have q1 : (fl 5 (if okC nh ne h g hand = true then crT np nh nn nb P G N B td h g nm else N)) = (fl 5 N) := by rw [if_neg (by simp [okC, c_8])]
    have q2 : (nI (if okC nh ne h g hand = true then adn 200 ne else ne)) = (nI ne) := by rw [if_neg (by simp [okC, c_8])]
    have q3 : (fl 6 (if okC nh ne h g hand = true then eaddT ne E (if crR np nh nn nb P G N B td h g nm = -1 then 2 else 0) h nm hand (-1) td else E)) = (fl 6 E) := by rw [if_neg (by simp [okC, c_8])]
    rw [q0, q1, q2, q3]
    exact hP
  · skip
    refine lv_aload_n hx hb dX4_cross_11 rfl (lv_at hl 0 rfl) ?_
    refine va_get (D := D) (ci := 4) (v := .ref hu) (C := RX4) (T := TX4) (N := 6) hx hb hts hin4 hown hK hP 0 rfl rfl 1 (by decide) hf19 (fun _ h9 => h9) rfl dX4_cross_12 ?_
    refine lv_iload_n hx hb dX4_cross_15 rfl (lv_at hl 2 rfl) ?_
    refine rcV (As := [.int g]) (rest := []) (ci := 0) ⟨hx, hb, hml, hown, hts⟩ (kX0_isThere l D cI cZ hu hH aH nh G g (by first | assumption | omega)) (cwV 1 hts gX4_cross_X0_isThere rfl rfl rfl (by decide +kernel) ⟨Nat.le_of_ble_eq_true rfl, Nat.le_of_ble_eq_true rfl⟩) hK hP [4, 5, 6] rfl rfl rfl rfl rfl hl.1 rfl (Nat.le_of_ble_eq_true rfl) ⟨Nat.zero_le _, Nat.zero_le _⟩ dX4_cross_16 ?_
    refine lb_eq (tgt := 40) hx hb dX4_cross_19 (by decide) (fun c_19 => ?_) (fun c_19 => ?_)
    · skip
      refine lv_iconst (v := (-1)) hx hb dX4_cross_40 (by decide) ?_
      refine mu_iret hx hb hr hlocks hS dX4_cross_41 ?_ ?_
      · rw [if_neg (by simp [okC, c_8, c_19])]
      have q0 : (nI (if okC nh ne h g hand = true then crNn np nh nn nb P G N B td h g nm else nn)) = (nI nn) := by rw [if_neg (by simp [okC, c_8, c_19])]
      have q1 : (fl 5 (if okC nh ne h g hand = true then crT np nh nn nb P G N B td h g nm else N)) = (fl 5 N) := by rw [if_neg (by simp [okC, c_8, c_19])]
      have q2 : (nI (if okC nh ne h g hand = true then adn 200 ne else ne)) = (nI ne) := by rw [if_neg (by simp [okC, c_8, c_19])]
      have q3 : (fl 6 (if okC nh ne h g hand = true then eaddT ne E (if crR np nh nn nb P G N B td h g nm = -1 then 2 else 0) h nm hand (-1) td else E)) = (fl 6 E) := by rw [if_neg (by simp [okC, c_8, c_19])]
      rw [q0, q1, q2, q3]
      exact hP
    · skip
      refine lv_iload hx hb dX4_cross_22 (lv_at hl 4 rfl) ?_
      refine rcS (As := [.int hand]) (rest := []) ⟨hx, hb, hml, hown, hts⟩ (kX4_isHand l D cI cZ hand) (va_cwS 1 hts gX4_cross_X4_isHand rfl rfl rfl (by decide +kernel) ⟨Nat.le_of_ble_eq_true rfl, Nat.le_of_ble_eq_true rfl⟩) hK hP [] rfl rfl hl.1 rfl (Nat.le_of_ble_eq_true rfl) ⟨Nat.zero_le _, Nat.zero_le _⟩ dX4_cross_24 ?_
      refine lb_eq (tgt := 40) hx hb dX4_cross_27 (by decide) (fun c_27 => ?_) (fun c_27 => ?_)
      · skip
        refine lv_iconst (v := (-1)) hx hb dX4_cross_40 (by decide) ?_
        refine mu_iret hx hb hr hlocks hS dX4_cross_41 ?_ ?_
        · rw [if_neg (by simp [okC, c_8, c_19, c_27])]
        have q0 : (nI (if okC nh ne h g hand = true then crNn np nh nn nb P G N B td h g nm else nn)) = (nI nn) := by rw [if_neg (by simp [okC, c_8, c_19, c_27])]
        have q1 : (fl 5 (if okC nh ne h g hand = true then crT np nh nn nb P G N B td h g nm else N)) = (fl 5 N) := by rw [if_neg (by simp [okC, c_8, c_19, c_27])]
        have q2 : (nI (if okC nh ne h g hand = true then adn 200 ne else ne)) = (nI ne) := by rw [if_neg (by simp [okC, c_8, c_19, c_27])]
        have q3 : (fl 6 (if okC nh ne h g hand = true then eaddT ne E (if crR np nh nn nb P G N B td h g nm = -1 then 2 else 0) h nm hand (-1) td else E)) = (fl 6 E) := by rw [if_neg (by simp [okC, c_8, c_19, c_27])]
        rw [q0, q1, q2, q3]
        exact hP
      · skip
        refine lv_aload_n hx hb dX4_cross_30 rfl (lv_at hl 0 rfl) ?_
        refine va_get (D := D) (ci := 4) (v := .ref hE) (C := RX4) (T := TX4) (N := 6) hx hb hts hin4 hown hK hP 0 rfl rfl 4 (by decide) hf41 (fun _ h9 => h9) rfl dX4_cross_31 ?_
        refine rcV (As := []) (rest := []) (ci := 3) ⟨hx, hb, hml, hown, hts⟩ (kX3_isFull l D cI cZ hE aE 200 6 ne E (by first | assumption | omega)) (cwV 0 hts gX4_cross_X3_isFull rfl rfl rfl (by decide +kernel) ⟨Nat.le_of_ble_eq_true rfl, Nat.le_of_ble_eq_true rfl⟩) hK hP [12, 13] rfl rfl rfl rfl rfl hl.1 rfl (Nat.le_of_ble_eq_true rfl) ⟨Nat.zero_le _, Nat.zero_le _⟩ dX4_cross_34 ?_
        refine lb_eq (tgt := 42) hx hb dX4_cross_37 (by decide) (fun c_37 => ?_) (fun c_37 => ?_)
        · skip
          have c_37 := of_decide_eq_false c_37
          refine lv_aload_n hx hb dX4_cross_42 rfl (lv_at hl 0 rfl) ?_
          refine lv_iload_n hx hb dX4_cross_43 rfl (lv_at hl 1 rfl) ?_
          refine lv_iload_n hx hb dX4_cross_44 rfl (lv_at hl 2 rfl) ?_
          refine lv_iload_n hx hb dX4_cross_45 rfl (lv_at hl 3 rfl) ?_
          refine mcV (As := [.int h, .int g, .int nm]) (rest := []) (ci := 4) (wn := [(o, .inr (4, [.ref pe, .ref hu, .ref na, .ref hB, .ref hE, .int td])), (pe, .inr (2, [.ref hP_])), (hP_, .inr (3, [.int (nI 24), .int (nI 6), .ref aP, .int (nI np)])), (aP, .inl (cI, 24 * 6, .inl (fl 6 P))), (hu, .inr (0, [.ref hH])), (hH, .inr (3, [.int (nI 5), .int (nI 6), .ref aH, .int (nI nh)])), (aH, .inl (cI, 5 * 6, .inl (fl 6 G))), (na, .inr (1, [.ref hN, .ref pe])), (hN, .inr (3, [.int (nI 200), .int (nI 5), .ref aN, .int (nI (crNn np nh nn nb P G N B td h g nm))])), (aN, .inl (cI, 200 * 5, .inl (fl 5 (crT np nh nn nb P G N B td h g nm)))), (hB, .inr (3, [.int (nI 20), .int (nI 4), .ref aB, .int (nI nb)])), (aB, .inl (cI, 20 * 4, .inl (fl 4 B))), (hE, .inr (3, [.int (nI 200), .int (nI 6), .ref aE, .int (nI ne)])), (aE, .inl (cI, 200 * 6, .inl (fl 6 E)))]) ⟨hx, hb, hml, hown, hts⟩ (kX4_crossWith l D cI cZ o pe hP_ aP hu hH aH na hN aN hB aB hE aE np nh nn nb ne td P G N B E h g nm (by first | assumption | omega) (by first | assumption | omega) (by first | assumption | omega) (by first | assumption | omega) (by first | assumption | omega) (by first | assumption | omega) (by first | assumption | omega)) (cwV 3 hts gX4_cross_X4_crossWith rfl rfl rfl (by decide +kernel) ⟨Nat.le_of_ble_eq_true rfl, Nat.le_of_ble_eq_true rfl⟩) hK hP hD hS [0, 1, 2, 3, 4, 5, 6, 7, 8, 9, 10, 11, 12, 13] rfl rfl rfl rfl rfl rfl rfl rfl rfl hl.1 rfl (Nat.le_of_ble_eq_true rfl) ⟨Nat.zero_le _, Nat.zero_le _⟩ dX4_cross_46 (fun H locs hP hD hS => ?_)
          refine W.eq (g2 := F0 mm 49 ls (.int (crR np nh nn nb P G N B td h g nm) :: [])) rfl ?_
          refine lv_istore (lv' := [(5, .int (crR np nh nn nb P G N B td h g nm)), (0, .ref o), (1, .int h), (2, .int g), (3, .int nm), (4, .int hand)]) hx hb dX4_cross_49 hl (by decide) rfl (fun ls hl => ?_)
          refine lv_aload_n hx hb dX4_cross_51 rfl (lv_at hl 1 rfl) ?_
          refine lv_iload hx hb dX4_cross_52 (lv_at hl 0 rfl) ?_
          refine lv_iconst (v := (-1)) hx hb dX4_cross_54 (by decide) ?_
          refine lv_icmp_ne (tgt := 62) hx hb dX4_cross_55 (by decide) (fun c_55 => ?_) (fun c_55 => ?_)
          · skip
            refine lv_iconst (v := 0) hx hb dX4_cross_62 (by decide) ?_
            refine lv_iload_n hx hb dX4_cross_63 rfl (lv_at hl 2 rfl) ?_
            refine lv_iload_n hx hb dX4_cross_64 rfl (lv_at hl 4 rfl) ?_
            refine lv_iload hx hb dX4_cross_65 (lv_at hl 5 rfl) ?_
            refine lv_iconst (v := (-1)) hx hb dX4_cross_67 (by decide) ?_
            refine mcV (As := [.int 0, .int h, .int nm, .int hand, .int ((-1))]) (rest := []) (ci := 4) (wn := [(o, .inr (4, [.ref pe, .ref hu, .ref na, .ref hB, .ref hE, .int td])), (pe, .inr (2, [.ref hP_])), (hP_, .inr (3, [.int (nI 24), .int (nI 6), .ref aP, .int (nI np)])), (aP, .inl (cI, 24 * 6, .inl (fl 6 P))), (hu, .inr (0, [.ref hH])), (hH, .inr (3, [.int (nI 5), .int (nI 6), .ref aH, .int (nI nh)])), (aH, .inl (cI, 5 * 6, .inl (fl 6 G))), (na, .inr (1, [.ref hN, .ref pe])), (hN, .inr (3, [.int (nI 200), .int (nI 5), .ref aN, .int (nI (crNn np nh nn nb P G N B td h g nm))])), (aN, .inl (cI, 200 * 5, .inl (fl 5 (crT np nh nn nb P G N B td h g nm)))), (hB, .inr (3, [.int (nI 20), .int (nI 4), .ref aB, .int (nI nb)])), (aB, .inl (cI, 20 * 4, .inl (fl 4 B))), (hE, .inr (3, [.int (nI 200), .int (nI 6), .ref aE, .int (nI (adn 200 ne))])), (aE, .inl (cI, 200 * 6, .inl (fl 6 (eaddT ne E 0 h nm hand (-1) td))))]) ⟨hx, hb, hml, hown, hts⟩ (kX4_enter l D cI cZ o pe hP_ aP hu hH aH na hN aN hB aB hE aE np nh (crNn np nh nn nb P G N B td h g nm) nb ne td P G (crT np nh nn nb P G N B td h g nm) B E 0 h nm hand (-1) (by first | assumption | omega)) (cwV 5 hts gX4_cross_X4_enter rfl rfl rfl (by decide +kernel) ⟨Nat.le_of_ble_eq_true rfl, Nat.le_of_ble_eq_true rfl⟩) hK hP hD hS [0, 1, 2, 3, 4, 5, 6, 7, 8, 9, 10, 11, 12, 13] rfl rfl rfl rfl rfl rfl rfl rfl rfl hl.1 rfl (Nat.le_of_ble_eq_true rfl) ⟨Nat.zero_le _, Nat.zero_le _⟩ dX4_cross_68 (fun H locs hP hD hS => ?_)
            refine W.eq (g2 := F0 mm 71 ls []) rfl ?_
            refine lv_iload hx hb dX4_cross_71 (lv_at hl 0 rfl) ?_
            refine mu_iret hx hb hr hlocks hS dX4_cross_73 ?_ ?_
            · rw [if_pos (by simp [okC, c_8, c_19, c_27, c_37, c_55])]
            have q0 : (nI (if okC nh ne h g hand = true then crNn np nh nn nb P G N B td h g nm else nn)) = (nI (crNn np nh nn nb P G N B td h g nm)) := by rw [if_pos (by simp [okC, c_8, c_19, c_27, c_37, c_55])] <;> simp [c_55]
            have q1 : (fl 5 (if okC nh ne h g hand = true then crT np nh nn nb P G N B td h g nm else N)) = (fl 5 (crT np nh nn nb P G N B td h g nm)) := by rw [if_pos (by simp [okC, c_8, c_19, c_27, c_37, c_55])] <;> simp [c_55]
            have q2 : (nI (if okC nh ne h g hand = true then adn 200 ne else ne)) = (nI (adn 200 ne)) := by rw [if_pos (by simp [okC, c_8, c_19, c_27, c_37, c_55])] <;> simp [c_55]
            have q3 : (fl 6 (if okC nh ne h g hand = true then eaddT ne E (if crR np nh nn nb P G N B td h g nm = -1 then 2 else 0) h nm hand (-1) td else E)) = (fl 6 (eaddT ne E 0 h nm hand (-1) td)) := by rw [if_pos (by simp [okC, c_8, c_19, c_27, c_37, c_55])] <;> simp [c_55]
            rw [q0, q1, q2, q3]
            exact hP
          · skip
            refine lv_iconst (v := 2) hx hb dX4_cross_58 (by decide) ?_
            refine lv_goto (tgt := 63) hx hb dX4_cross_59 (by decide) ?_
            refine lv_iload_n hx hb dX4_cross_63 rfl (lv_at hl 2 rfl) ?_
            refine lv_iload_n hx hb dX4_cross_64 rfl (lv_at hl 4 rfl) ?_
            refine lv_iload hx hb dX4_cross_65 (lv_at hl 5 rfl) ?_
            refine lv_iconst (v := (-1)) hx hb dX4_cross_67 (by decide) ?_
            refine mcV (As := [.int 2, .int h, .int nm, .int hand, .int ((-1))]) (rest := []) (ci := 4) (wn := [(o, .inr (4, [.ref pe, .ref hu, .ref na, .ref hB, .ref hE, .int td])), (pe, .inr (2, [.ref hP_])), (hP_, .inr (3, [.int (nI 24), .int (nI 6), .ref aP, .int (nI np)])), (aP, .inl (cI, 24 * 6, .inl (fl 6 P))), (hu, .inr (0, [.ref hH])), (hH, .inr (3, [.int (nI 5), .int (nI 6), .ref aH, .int (nI nh)])), (aH, .inl (cI, 5 * 6, .inl (fl 6 G))), (na, .inr (1, [.ref hN, .ref pe])), (hN, .inr (3, [.int (nI 200), .int (nI 5), .ref aN, .int (nI (crNn np nh nn nb P G N B td h g nm))])), (aN, .inl (cI, 200 * 5, .inl (fl 5 (crT np nh nn nb P G N B td h g nm)))), (hB, .inr (3, [.int (nI 20), .int (nI 4), .ref aB, .int (nI nb)])), (aB, .inl (cI, 20 * 4, .inl (fl 4 B))), (hE, .inr (3, [.int (nI 200), .int (nI 6), .ref aE, .int (nI (adn 200 ne))])), (aE, .inl (cI, 200 * 6, .inl (fl 6 (eaddT ne E 2 h nm hand (-1) td))))]) ⟨hx, hb, hml, hown, hts⟩ (kX4_enter l D cI cZ o pe hP_ aP hu hH aH na hN aN hB aB hE aE np nh (crNn np nh nn nb P G N B td h g nm) nb ne td P G (crT np nh nn nb P G N B td h g nm) B E 2 h nm hand (-1) (by first | assumption | omega)) (cwV 5 hts gX4_cross_X4_enter rfl rfl rfl (by decide +kernel) ⟨Nat.le_of_ble_eq_true rfl, Nat.le_of_ble_eq_true rfl⟩) hK hP hD hS [0, 1, 2, 3, 4, 5, 6, 7, 8, 9, 10, 11, 12, 13] rfl rfl rfl rfl rfl rfl rfl rfl rfl hl.1 rfl (Nat.le_of_ble_eq_true rfl) ⟨Nat.zero_le _, Nat.zero_le _⟩ dX4_cross_68 (fun H locs hP hD hS => ?_)
            refine W.eq (g2 := F0 mm 71 ls []) rfl ?_
            refine lv_iload hx hb dX4_cross_71 (lv_at hl 0 rfl) ?_
            refine mu_iret hx hb hr hlocks hS dX4_cross_73 ?_ ?_
            · rw [if_pos (by simp [okC, c_8, c_19, c_27, c_37, c_55])]
            have q0 : (nI (if okC nh ne h g hand = true then crNn np nh nn nb P G N B td h g nm else nn)) = (nI (crNn np nh nn nb P G N B td h g nm)) := by rw [if_pos (by simp [okC, c_8, c_19, c_27, c_37, c_55])] <;> simp [c_55]
            have q1 : (fl 5 (if okC nh ne h g hand = true then crT np nh nn nb P G N B td h g nm else N)) = (fl 5 (crT np nh nn nb P G N B td h g nm)) := by rw [if_pos (by simp [okC, c_8, c_19, c_27, c_37, c_55])] <;> simp [c_55]
            have q2 : (nI (if okC nh ne h g hand = true then adn 200 ne else ne)) = (nI (adn 200 ne)) := by rw [if_pos (by simp [okC, c_8, c_19, c_27, c_37, c_55])] <;> simp [c_55]
            have q3 : (fl 6 (if okC nh ne h g hand = true then eaddT ne E (if crR np nh nn nb P G N B td h g nm = -1 then 2 else 0) h nm hand (-1) td else E)) = (fl 6 (eaddT ne E 2 h nm hand (-1) td)) := by rw [if_pos (by simp [okC, c_8, c_19, c_27, c_37, c_55])] <;> simp [c_55]
            rw [q0, q1, q2, q3]
            exact hP
        · skip
          have c_37 := of_decide_eq_true c_37
          refine lv_iconst (v := (-1)) hx hb dX4_cross_40 (by decide) ?_
          refine mu_iret hx hb hr hlocks hS dX4_cross_41 ?_ ?_
          · rw [if_neg (by simp [okC, c_8, c_19, c_27, c_37])]
          have q0 : (nI (if okC nh ne h g hand = true then crNn np nh nn nb P G N B td h g nm else nn)) = (nI nn) := by rw [if_neg (by simp [okC, c_8, c_19, c_27, c_37])]
          have q1 : (fl 5 (if okC nh ne h g hand = true then crT np nh nn nb P G N B td h g nm else N)) = (fl 5 N) := by rw [if_neg (by simp [okC, c_8, c_19, c_27, c_37])]
          have q2 : (nI (if okC nh ne h g hand = true then adn 200 ne else ne)) = (nI ne) := by rw [if_neg (by simp [okC, c_8, c_19, c_27, c_37])]
          have q3 : (fl 6 (if okC nh ne h g hand = true then eaddT ne E (if crR np nh nn nb P G N B td h g nm = -1 then 2 else 0) h nm hand (-1) td else E)) = (fl 6 E) := by rw [if_neg (by simp [okC, c_8, c_19, c_27, c_37])]
          rw [q0, q1, q2, q3]
          exact hP
set_option maxHeartbeats 4000000 in
set_option maxRecDepth 100000 in
theorem kX4_back (l : Launch) (D : va_G) (cI cZ : ClassId) (o pe hP_ aP hu hH aH na hN aN hB aB hE aE np nh nn nb ne : Nat) (td : Int32) (P G N B E : Nat → Nat → Int32) (h : Int32) (nm : Int32) (rs : Int32) (a : Int32) (b : Int32) (hnp : np ≤ 24) (hnh : nh ≤ 5) (hnn : nn ≤ 200) (hnb : nb ≤ 20) (hne : ne ≤ 200) (hw : HP np (P 4)) (ho : HO nn np N) : Met l yX4_back wsX4_back ({ frames := 5, cells := 0, slots := 0, locals := 111 } : Room) (MuP D [(cI, .int), (cZ, .boolean)] [.ref o, .int h, .int nm, .int rs, .int a, .int b] [(o, .inr (4, [.ref pe, .ref hu, .ref na, .ref hB, .ref hE, .int td])), (pe, .inr (2, [.ref hP_])), (hP_, .inr (3, [.int (nI 24), .int (nI 6), .ref aP, .int (nI np)])), (aP, .inl (cI, 24 * 6, .inl (fl 6 P))), (hu, .inr (0, [.ref hH])), (hH, .inr (3, [.int (nI 5), .int (nI 6), .ref aH, .int (nI nh)])), (aH, .inl (cI, 5 * 6, .inl (fl 6 G))), (na, .inr (1, [.ref hN, .ref pe])), (hN, .inr (3, [.int (nI 200), .int (nI 5), .ref aN, .int (nI nn)])), (aN, .inl (cI, 200 * 5, .inl (fl 5 N))), (hB, .inr (3, [.int (nI 20), .int (nI 4), .ref aB, .int (nI nb)])), (aB, .inl (cI, 20 * 4, .inl (fl 4 B))), (hE, .inr (3, [.int (nI 200), .int (nI 6), .ref aE, .int (nI ne)])), (aE, .inl (cI, 200 * 6, .inl (fl 6 E)))]) (QM D (some (.int (if okB nh ne h rs a b = true then bkR np nh nn P G N h nm rs a b else -1))) [(o, .inr (4, [.ref pe, .ref hu, .ref na, .ref hB, .ref hE, .int td])), (pe, .inr (2, [.ref hP_])), (hP_, .inr (3, [.int (nI 24), .int (nI 6), .ref aP, .int (nI np)])), (aP, .inl (cI, 24 * 6, .inl (fl 6 P))), (hu, .inr (0, [.ref hH])), (hH, .inr (3, [.int (nI 5), .int (nI 6), .ref aH, .int (nI nh)])), (aH, .inl (cI, 5 * 6, .inl (fl 6 G))), (na, .inr (1, [.ref hN, .ref pe])), (hN, .inr (3, [.int (nI 200), .int (nI 5), .ref aN, .int (nI nn)])), (aN, .inl (cI, 200 * 5, .inl (fl 5 N))), (hB, .inr (3, [.int (nI 20), .int (nI 4), .ref aB, .int (nI nb)])), (aB, .inl (cI, 20 * 4, .inl (fl 4 B))), (hE, .inr (3, [.int (nI 200), .int (nI 6), .ref aE, .int (nI ne)])), (aE, .inl (cI, 200 * 6, .inl (fl 6 E)))] [(o, .inr (4, [.ref pe, .ref hu, .ref na, .ref hB, .ref hE, .int td])), (pe, .inr (2, [.ref hP_])), (hP_, .inr (3, [.int (nI 24), .int (nI 6), .ref aP, .int (nI np)])), (aP, .inl (cI, 24 * 6, .inl (fl 6 P))), (hu, .inr (0, [.ref hH])), (hH, .inr (3, [.int (nI 5), .int (nI 6), .ref aH, .int (nI nh)])), (aH, .inl (cI, 5 * 6, .inl (fl 6 G))), (na, .inr (1, [.ref hN, .ref pe])), (hN, .inr (3, [.int (nI 200), .int (nI 5), .ref aN, .int (nI nn)])), (aN, .inl (cI, 200 * 5, .inl (fl 5 N))), (hB, .inr (3, [.int (nI 20), .int (nI 4), .ref aB, .int (nI nb)])), (aB, .inl (cI, 20 * 4, .inl (fl 4 B))), (hE, .inr (3, [.int (nI 200), .int (nI 6), .ref aE, .int (nI (if okB nh ne h rs a b = true then adn 200 ne else ne))])), (aE, .inl (cI, 200 * 6, .inl (fl 6 (if okB nh ne h rs a b = true then eaddT ne E (if bkR np nh nn P G N h nm rs a b = -1 then 3 else 1) h nm a b td else E))))]) 0 0 (adr [(o, .inr (4, [.ref pe, .ref hu, .ref na, .ref hB, .ref hE, .int td])), (pe, .inr (2, [.ref hP_])), (hP_, .inr (3, [.int (nI 24), .int (nI 6), .ref aP, .int (nI np)])), (aP, .inl (cI, 24 * 6, .inl (fl 6 P))), (hu, .inr (0, [.ref hH])), (hH, .inr (3, [.int (nI 5), .int (nI 6), .ref aH, .int (nI nh)])), (aH, .inl (cI, 5 * 6, .inl (fl 6 G))), (na, .inr (1, [.ref hN, .ref pe])), (hN, .inr (3, [.int (nI 200), .int (nI 5), .ref aN, .int (nI nn)])), (aN, .inl (cI, 200 * 5, .inl (fl 5 N))), (hB, .inr (3, [.int (nI 20), .int (nI 4), .ref aB, .int (nI nb)])), (aB, .inl (cI, 20 * 4, .inl (fl 4 B))), (hE, .inr (3, [.int (nI 200), .int (nI 6), .ref aE, .int (nI ne)])), (aE, .inl (cI, 200 * 6, .inl (fl 6 E)))]) := by
  refine mu_of (cc := cX4_back) (maxL := 8) (ret := (some .int)) (by decide) rfl (Nat.le_of_ble_eq_true rfl) ?_
  intro pp ee ss mm bw me cd ls hx hb hr hts hown hlocks hml hK hl H locs hP hD hS
  have hl : lv_has ls 8 [(0, .ref o), (1, .int h), (2, .int nm), (3, .int rs), (4, .int a), (5, .int b)] := hl
  have hf19 := hts (.fieldLink RX4 19 "OtherNames" "houses" "LOtherNames$Houses;") (by decide +kernel)
  have hin4 := (show ∀ w ∈ wsX40, w ∈ wsX4_back by decide +kernel)
  have hf41 := hts (.fieldLink RX4 41 "OtherNames" "entries" "LOtherNames$Rows;") (by decide +kernel)
  refine lv_aload_n hx hb dX4_back_0 rfl (lv_at hl 0 rfl) ?_
  refine va_get (D := D) (ci := 4) (v := .ref hu) (C := RX4) (T := TX4) (N := 6) hx hb hts hin4 hown hK hP 0 rfl rfl 1 (by decide) hf19 (fun _ h9 => h9) rfl dX4_back_1 ?_
  refine lv_iload_n hx hb dX4_back_4 rfl (lv_at hl 1 rfl) ?_
  refine rcV (As := [.int h]) (rest := []) (ci := 0) ⟨hx, hb, hml, hown, hts⟩ (kX0_isThere l D cI cZ hu hH aH nh G h (by first | assumption | omega)) (cwV 1 hts gX4_back_X0_isThere rfl rfl rfl (by decide +kernel) ⟨Nat.le_of_ble_eq_true rfl, Nat.le_of_ble_eq_true rfl⟩) hK hP [4, 5, 6] rfl rfl rfl rfl rfl hl.1 rfl (Nat.le_of_ble_eq_true rfl) ⟨Nat.zero_le _, Nat.zero_le _⟩ dX4_back_5 ?_
  refine lb_eq (tgt := 44) hx hb dX4_back_8 (by decide) (fun c_8 => ?_) (fun c_8 => ?_)
  · skip
    refine lv_iconst (v := (-1)) hx hb dX4_back_44 (by decide) ?_
    refine mu_iret hx hb hr hlocks hS dX4_back_45 ?_ ?_
    · rw [if_neg (by simp [okB, c_8])]
    have q0 : (nI (if okB nh ne h rs a b = true then adn 200 ne else ne)) = (nI ne) := by rw [if_neg (by simp [okB, c_8])]
    have q1 : (fl 6 (if okB nh ne h rs a b = true then eaddT ne E (if bkR np nh nn P G N h nm rs a b = -1 then 3 else 1) h nm a b td else E)) = (fl 6 E) := by rw [if_neg (by simp [okB, c_8])]
    rw [q0, q1]
    exact hP
  · skip
    refine lv_iload_n hx hb dX4_back_11 rfl (lv_at hl 3 rfl) ?_
    refine rcS (As := [.int rs]) (rest := []) ⟨hx, hb, hml, hown, hts⟩ (kX4_isReason l D cI cZ rs) (va_cwS 1 hts gX4_back_X4_isReason rfl rfl rfl (by decide +kernel) ⟨Nat.le_of_ble_eq_true rfl, Nat.le_of_ble_eq_true rfl⟩) hK hP [] rfl rfl hl.1 rfl (Nat.le_of_ble_eq_true rfl) ⟨Nat.zero_le _, Nat.zero_le _⟩ dX4_back_12 ?_
    refine lb_eq (tgt := 44) hx hb dX4_back_15 (by decide) (fun c_15 => ?_) (fun c_15 => ?_)
    · skip
      refine lv_iconst (v := (-1)) hx hb dX4_back_44 (by decide) ?_
      refine mu_iret hx hb hr hlocks hS dX4_back_45 ?_ ?_
      · rw [if_neg (by simp [okB, c_8, c_15])]
      have q0 : (nI (if okB nh ne h rs a b = true then adn 200 ne else ne)) = (nI ne) := by rw [if_neg (by simp [okB, c_8, c_15])]
      have q1 : (fl 6 (if okB nh ne h rs a b = true then eaddT ne E (if bkR np nh nn P G N h nm rs a b = -1 then 3 else 1) h nm a b td else E)) = (fl 6 E) := by rw [if_neg (by simp [okB, c_8, c_15])]
      rw [q0, q1]
      exact hP
    · skip
      refine lv_iload hx hb dX4_back_18 (lv_at hl 4 rfl) ?_
      refine rcS (As := [.int a]) (rest := []) ⟨hx, hb, hml, hown, hts⟩ (kX4_isHand l D cI cZ a) (va_cwS 1 hts gX4_back_X4_isHand rfl rfl rfl (by decide +kernel) ⟨Nat.le_of_ble_eq_true rfl, Nat.le_of_ble_eq_true rfl⟩) hK hP [] rfl rfl hl.1 rfl (Nat.le_of_ble_eq_true rfl) ⟨Nat.zero_le _, Nat.zero_le _⟩ dX4_back_20 ?_
      refine lb_eq (tgt := 44) hx hb dX4_back_23 (by decide) (fun c_23 => ?_) (fun c_23 => ?_)
      · skip
        refine lv_iconst (v := (-1)) hx hb dX4_back_44 (by decide) ?_
        refine mu_iret hx hb hr hlocks hS dX4_back_45 ?_ ?_
        · rw [if_neg (by simp [okB, c_8, c_15, c_23])]
        have q0 : (nI (if okB nh ne h rs a b = true then adn 200 ne else ne)) = (nI ne) := by rw [if_neg (by simp [okB, c_8, c_15, c_23])]
        have q1 : (fl 6 (if okB nh ne h rs a b = true then eaddT ne E (if bkR np nh nn P G N h nm rs a b = -1 then 3 else 1) h nm a b td else E)) = (fl 6 E) := by rw [if_neg (by simp [okB, c_8, c_15, c_23])]
        rw [q0, q1]
        exact hP
      · skip
        refine lv_iload hx hb dX4_back_26 (lv_at hl 5 rfl) ?_
        refine rcS (As := [.int b]) (rest := []) ⟨hx, hb, hml, hown, hts⟩ (kX4_isHand l D cI cZ b) (va_cwS 1 hts gX4_back_X4_isHand rfl rfl rfl (by decide +kernel) ⟨Nat.le_of_ble_eq_true rfl, Nat.le_of_ble_eq_true rfl⟩) hK hP [] rfl rfl hl.1 rfl (Nat.le_of_ble_eq_true rfl) ⟨Nat.zero_le _, Nat.zero_le _⟩ dX4_back_28 ?_
        refine lb_eq (tgt := 44) hx hb dX4_back_31 (by decide) (fun c_31 => ?_) (fun c_31 => ?_)
        · skip
          refine lv_iconst (v := (-1)) hx hb dX4_back_44 (by decide) ?_
          refine mu_iret hx hb hr hlocks hS dX4_back_45 ?_ ?_
          · rw [if_neg (by simp [okB, c_8, c_15, c_23, c_31])]
          have q0 : (nI (if okB nh ne h rs a b = true then adn 200 ne else ne)) = (nI ne) := by rw [if_neg (by simp [okB, c_8, c_15, c_23, c_31])]
          have q1 : (fl 6 (if okB nh ne h rs a b = true then eaddT ne E (if bkR np nh nn P G N h nm rs a b = -1 then 3 else 1) h nm a b td else E)) = (fl 6 E) := by rw [if_neg (by simp [okB, c_8, c_15, c_23, c_31])]
          rw [q0, q1]
          exact hP
        · skip
          refine lv_aload_n hx hb dX4_back_34 rfl (lv_at hl 0 rfl) ?_
          refine va_get (D := D) (ci := 4) (v := .ref hE) (C := RX4) (T := TX4) (N := 6) hx hb hts hin4 hown hK hP 0 rfl rfl 4 (by decide) hf41 (fun _ h9 => h9) rfl dX4_back_35 ?_
          refine rcV (As := []) (rest := []) (ci := 3) ⟨hx, hb, hml, hown, hts⟩ (kX3_isFull l D cI cZ hE aE 200 6 ne E (by first | assumption | omega)) (cwV 0 hts gX4_back_X3_isFull rfl rfl rfl (by decide +kernel) ⟨Nat.le_of_ble_eq_true rfl, Nat.le_of_ble_eq_true rfl⟩) hK hP [12, 13] rfl rfl rfl rfl rfl hl.1 rfl (Nat.le_of_ble_eq_true rfl) ⟨Nat.zero_le _, Nat.zero_le _⟩ dX4_back_38 ?_
          refine lb_eq (tgt := 46) hx hb dX4_back_41 (by decide) (fun c_41 => ?_) (fun c_41 => ?_)
          · skip
            have c_41 := of_decide_eq_false c_41
            refine lv_iload hx hb dX4_back_46 (lv_at hl 4 rfl) ?_
            refine lv_iload hx hb dX4_back_48 (lv_at hl 5 rfl) ?_
            refine lv_icmp_eq (tgt := 80) hx hb dX4_back_50 (by decide) (fun c_50 => ?_) (fun c_50 => ?_)
            · skip
              refine lv_iconst (v := 0) hx hb dX4_back_80 (by decide) ?_
              refine lv_istore (lv' := [(6, .int 0), (0, .ref o), (1, .int h), (2, .int nm), (3, .int rs), (4, .int a), (5, .int b)]) hx hb dX4_back_81 hl (by decide) rfl (fun ls hl => ?_)
              refine lv_iload hx hb dX4_back_83 (lv_at hl 0 rfl) ?_
              refine lv_if_eq (tgt := 97) hx hb dX4_back_85 (by decide) (fun _ => ?_) (fun c9 => absurd c9 (by decide))
              refine lv_iconst (v := (-1)) hx hb dX4_back_97 (by decide) ?_
              refine lv_istore (lv' := [(7, .int ((-1))), (6, .int 0), (0, .ref o), (1, .int h), (2, .int nm), (3, .int rs), (4, .int a), (5, .int b)]) hx hb dX4_back_98 hl (by decide) rfl (fun ls hl => ?_)
              refine lv_aload_n hx hb dX4_back_100 rfl (lv_at hl 2 rfl) ?_
              refine lv_iload hx hb dX4_back_101 (lv_at hl 0 rfl) ?_
              refine lv_iconst (v := (-1)) hx hb dX4_back_103 (by decide) ?_
              refine lv_icmp_ne (tgt := 111) hx hb dX4_back_104 (by decide) (fun c9 => absurd c9 (by decide)) (fun _ => ?_)
              refine lv_iconst (v := 3) hx hb dX4_back_107 (by decide) ?_
              refine lv_goto (tgt := 112) hx hb dX4_back_108 (by decide) ?_
              refine lv_iload_n hx hb dX4_back_112 rfl (lv_at hl 3 rfl) ?_
              refine lv_iload_n hx hb dX4_back_113 rfl (lv_at hl 4 rfl) ?_
              refine lv_iload hx hb dX4_back_114 (lv_at hl 6 rfl) ?_
              refine lv_iload hx hb dX4_back_116 (lv_at hl 7 rfl) ?_
              refine mcV (As := [.int 3, .int h, .int nm, .int a, .int b]) (rest := []) (ci := 4) (wn := [(o, .inr (4, [.ref pe, .ref hu, .ref na, .ref hB, .ref hE, .int td])), (pe, .inr (2, [.ref hP_])), (hP_, .inr (3, [.int (nI 24), .int (nI 6), .ref aP, .int (nI np)])), (aP, .inl (cI, 24 * 6, .inl (fl 6 P))), (hu, .inr (0, [.ref hH])), (hH, .inr (3, [.int (nI 5), .int (nI 6), .ref aH, .int (nI nh)])), (aH, .inl (cI, 5 * 6, .inl (fl 6 G))), (na, .inr (1, [.ref hN, .ref pe])), (hN, .inr (3, [.int (nI 200), .int (nI 5), .ref aN, .int (nI nn)])), (aN, .inl (cI, 200 * 5, .inl (fl 5 N))), (hB, .inr (3, [.int (nI 20), .int (nI 4), .ref aB, .int (nI nb)])), (aB, .inl (cI, 20 * 4, .inl (fl 4 B))), (hE, .inr (3, [.int (nI 200), .int (nI 6), .ref aE, .int (nI (adn 200 ne))])), (aE, .inl (cI, 200 * 6, .inl (fl 6 (eaddT ne E 3 h nm a b td))))]) ⟨hx, hb, hml, hown, hts⟩ (kX4_enter l D cI cZ o pe hP_ aP hu hH aH na hN aN hB aB hE aE np nh nn nb ne td P G N B E 3 h nm a b (by first | assumption | omega)) (cwV 5 hts gX4_back_X4_enter rfl rfl rfl (by decide +kernel) ⟨Nat.le_of_ble_eq_true rfl, Nat.le_of_ble_eq_true rfl⟩) hK hP hD hS [0, 1, 2, 3, 4, 5, 6, 7, 8, 9, 10, 11, 12, 13] rfl rfl rfl rfl rfl rfl rfl rfl rfl hl.1 rfl (Nat.le_of_ble_eq_true rfl) ⟨Nat.zero_le _, Nat.zero_le _⟩ dX4_back_118 (fun H locs hP hD hS => ?_)
              refine W.eq (g2 := F0 mm 121 ls []) rfl ?_
              refine lv_iload hx hb dX4_back_121 (lv_at hl 0 rfl) ?_
              refine mu_iret hx hb hr hlocks hS dX4_back_123 ?_ ?_
              · rw [if_pos (by simp [okB, c_8, c_15, c_23, c_31, c_41, c_50]), bkR, if_neg (by simp [alw, c_8, c_15, c_23, c_31, c_41, c_50])]
              have q0 : (nI (if okB nh ne h rs a b = true then adn 200 ne else ne)) = (nI (adn 200 ne)) := by rw [if_pos (by simp [okB, c_8, c_15, c_23, c_31, c_41, c_50])]
              have q1 : (fl 6 (if okB nh ne h rs a b = true then eaddT ne E (if bkR np nh nn P G N h nm rs a b = -1 then 3 else 1) h nm a b td else E)) = (fl 6 (eaddT ne E 3 h nm a b td)) := by rw [if_pos (by simp [okB, c_8, c_15, c_23, c_31, c_41, c_50]), show bkR np nh nn P G N h nm rs a b = -1 by rw [bkR, if_neg (by simp [alw, c_8, c_15, c_23, c_31, c_41, c_50])]] <;> rfl
              rw [q0, q1]
              exact hP
            · skip
              refine lv_aload_n hx hb dX4_back_53 rfl (lv_at hl 0 rfl) ?_
              refine va_get (D := D) (ci := 4) (v := .ref hu) (C := RX4) (T := TX4) (N := 6) hx hb hts hin4 hown hK hP 0 rfl rfl 1 (by decide) hf19 (fun _ h9 => h9) rfl dX4_back_54 ?_
              refine lv_iload_n hx hb dX4_back_57 rfl (lv_at hl 1 rfl) ?_
              refine lv_iload_n hx hb dX4_back_58 rfl (lv_at hl 3 rfl) ?_
              refine rcV (As := [.int h, .int rs]) (rest := []) (ci := 0) ⟨hx, hb, hml, hown, hts⟩ (kX0_reasonCounts l D cI cZ hu hH aH nh G h rs (by first | assumption | omega)) (cwV 2 hts gX4_back_X0_reasonCounts rfl rfl rfl (by decide +kernel) ⟨Nat.le_of_ble_eq_true rfl, Nat.le_of_ble_eq_true rfl⟩) hK hP [4, 5, 6] rfl rfl rfl rfl rfl hl.1 rfl (Nat.le_of_ble_eq_true rfl) ⟨Nat.zero_le _, Nat.zero_le _⟩ dX4_back_59 ?_
              refine lb_eq (tgt := 80) hx hb dX4_back_62 (by decide) (fun c_62 => ?_) (fun c_62 => ?_)
              · skip
                refine lv_iconst (v := 0) hx hb dX4_back_80 (by decide) ?_
                refine lv_istore (lv' := [(6, .int 0), (0, .ref o), (1, .int h), (2, .int nm), (3, .int rs), (4, .int a), (5, .int b)]) hx hb dX4_back_81 hl (by decide) rfl (fun ls hl => ?_)
                refine lv_iload hx hb dX4_back_83 (lv_at hl 0 rfl) ?_
                refine lv_if_eq (tgt := 97) hx hb dX4_back_85 (by decide) (fun _ => ?_) (fun c9 => absurd c9 (by decide))
                refine lv_iconst (v := (-1)) hx hb dX4_back_97 (by decide) ?_
                refine lv_istore (lv' := [(7, .int ((-1))), (6, .int 0), (0, .ref o), (1, .int h), (2, .int nm), (3, .int rs), (4, .int a), (5, .int b)]) hx hb dX4_back_98 hl (by decide) rfl (fun ls hl => ?_)
                refine lv_aload_n hx hb dX4_back_100 rfl (lv_at hl 2 rfl) ?_
                refine lv_iload hx hb dX4_back_101 (lv_at hl 0 rfl) ?_
                refine lv_iconst (v := (-1)) hx hb dX4_back_103 (by decide) ?_
                refine lv_icmp_ne (tgt := 111) hx hb dX4_back_104 (by decide) (fun c9 => absurd c9 (by decide)) (fun _ => ?_)
                refine lv_iconst (v := 3) hx hb dX4_back_107 (by decide) ?_
                refine lv_goto (tgt := 112) hx hb dX4_back_108 (by decide) ?_
                refine lv_iload_n hx hb dX4_back_112 rfl (lv_at hl 3 rfl) ?_
                refine lv_iload_n hx hb dX4_back_113 rfl (lv_at hl 4 rfl) ?_
                refine lv_iload hx hb dX4_back_114 (lv_at hl 6 rfl) ?_
                refine lv_iload hx hb dX4_back_116 (lv_at hl 7 rfl) ?_
                refine mcV (As := [.int 3, .int h, .int nm, .int a, .int b]) (rest := []) (ci := 4) (wn := [(o, .inr (4, [.ref pe, .ref hu, .ref na, .ref hB, .ref hE, .int td])), (pe, .inr (2, [.ref hP_])), (hP_, .inr (3, [.int (nI 24), .int (nI 6), .ref aP, .int (nI np)])), (aP, .inl (cI, 24 * 6, .inl (fl 6 P))), (hu, .inr (0, [.ref hH])), (hH, .inr (3, [.int (nI 5), .int (nI 6), .ref aH, .int (nI nh)])), (aH, .inl (cI, 5 * 6, .inl (fl 6 G))), (na, .inr (1, [.ref hN, .ref pe])), (hN, .inr (3, [.int (nI 200), .int (nI 5), .ref aN, .int (nI nn)])), (aN, .inl (cI, 200 * 5, .inl (fl 5 N))), (hB, .inr (3, [.int (nI 20), .int (nI 4), .ref aB, .int (nI nb)])), (aB, .inl (cI, 20 * 4, .inl (fl 4 B))), (hE, .inr (3, [.int (nI 200), .int (nI 6), .ref aE, .int (nI (adn 200 ne))])), (aE, .inl (cI, 200 * 6, .inl (fl 6 (eaddT ne E 3 h nm a b td))))]) ⟨hx, hb, hml, hown, hts⟩ (kX4_enter l D cI cZ o pe hP_ aP hu hH aH na hN aN hB aB hE aE np nh nn nb ne td P G N B E 3 h nm a b (by first | assumption | omega)) (cwV 5 hts gX4_back_X4_enter rfl rfl rfl (by decide +kernel) ⟨Nat.le_of_ble_eq_true rfl, Nat.le_of_ble_eq_true rfl⟩) hK hP hD hS [0, 1, 2, 3, 4, 5, 6, 7, 8, 9, 10, 11, 12, 13] rfl rfl rfl rfl rfl rfl rfl rfl rfl hl.1 rfl (Nat.le_of_ble_eq_true rfl) ⟨Nat.zero_le _, Nat.zero_le _⟩ dX4_back_118 (fun H locs hP hD hS => ?_)
                refine W.eq (g2 := F0 mm 121 ls []) rfl ?_
                refine lv_iload hx hb dX4_back_121 (lv_at hl 0 rfl) ?_
                refine mu_iret hx hb hr hlocks hS dX4_back_123 ?_ ?_
                · rw [if_pos (by simp [okB, c_8, c_15, c_23, c_31, c_41, c_50, c_62]), bkR, if_neg (by simp [alw, c_8, c_15, c_23, c_31, c_41, c_50, c_62])]
                have q0 : (nI (if okB nh ne h rs a b = true then adn 200 ne else ne)) = (nI (adn 200 ne)) := by rw [if_pos (by simp [okB, c_8, c_15, c_23, c_31, c_41, c_50, c_62])]
                have q1 : (fl 6 (if okB nh ne h rs a b = true then eaddT ne E (if bkR np nh nn P G N h nm rs a b = -1 then 3 else 1) h nm a b td else E)) = (fl 6 (eaddT ne E 3 h nm a b td)) := by rw [if_pos (by simp [okB, c_8, c_15, c_23, c_31, c_41, c_50, c_62]), show bkR np nh nn P G N h nm rs a b = -1 by rw [bkR, if_neg (by simp [alw, c_8, c_15, c_23, c_31, c_41, c_50, c_62])]] <;> rfl
                rw [q0, q1]
                exact hP
              · skip
                refine lv_aload_n hx hb dX4_back_65 rfl (lv_at hl 0 rfl) ?_
                refine va_get (D := D) (ci := 4) (v := .ref hu) (C := RX4) (T := TX4) (N := 6) hx hb hts hin4 hown hK hP 0 rfl rfl 1 (by decide) hf19 (fun _ h9 => h9) rfl dX4_back_66 ?_
                refine lv_iload_n hx hb dX4_back_69 rfl (lv_at hl 1 rfl) ?_
                refine rcV (As := [.int h]) (rest := []) (ci := 0) ⟨hx, hb, hml, hown, hts⟩ (kX0_isLost l D cI cZ hu hH aH nh G h (by first | assumption | omega)) (cwV 1 hts gX4_back_X0_isLost rfl rfl rfl (by decide +kernel) ⟨Nat.le_of_ble_eq_true rfl, Nat.le_of_ble_eq_true rfl⟩) hK hP [4, 5, 6] rfl rfl rfl rfl rfl hl.1 rfl (Nat.le_of_ble_eq_true rfl) ⟨Nat.zero_le _, Nat.zero_le _⟩ dX4_back_70 ?_
                refine lb_ne (tgt := 80) hx hb dX4_back_73 (by decide) (fun c_73 => ?_) (fun c_73 => ?_)
                · skip
                  have c_73 := of_decide_eq_true c_73
                  refine lv_iconst (v := 0) hx hb dX4_back_80 (by decide) ?_
                  refine lv_istore (lv' := [(6, .int 0), (0, .ref o), (1, .int h), (2, .int nm), (3, .int rs), (4, .int a), (5, .int b)]) hx hb dX4_back_81 hl (by decide) rfl (fun ls hl => ?_)
                  refine lv_iload hx hb dX4_back_83 (lv_at hl 0 rfl) ?_
                  refine lv_if_eq (tgt := 97) hx hb dX4_back_85 (by decide) (fun _ => ?_) (fun c9 => absurd c9 (by decide))
                  refine lv_iconst (v := (-1)) hx hb dX4_back_97 (by decide) ?_
                  refine lv_istore (lv' := [(7, .int ((-1))), (6, .int 0), (0, .ref o), (1, .int h), (2, .int nm), (3, .int rs), (4, .int a), (5, .int b)]) hx hb dX4_back_98 hl (by decide) rfl (fun ls hl => ?_)
                  refine lv_aload_n hx hb dX4_back_100 rfl (lv_at hl 2 rfl) ?_
                  refine lv_iload hx hb dX4_back_101 (lv_at hl 0 rfl) ?_
                  refine lv_iconst (v := (-1)) hx hb dX4_back_103 (by decide) ?_
                  refine lv_icmp_ne (tgt := 111) hx hb dX4_back_104 (by decide) (fun c9 => absurd c9 (by decide)) (fun _ => ?_)
                  refine lv_iconst (v := 3) hx hb dX4_back_107 (by decide) ?_
                  refine lv_goto (tgt := 112) hx hb dX4_back_108 (by decide) ?_
                  refine lv_iload_n hx hb dX4_back_112 rfl (lv_at hl 3 rfl) ?_
                  refine lv_iload_n hx hb dX4_back_113 rfl (lv_at hl 4 rfl) ?_
                  refine lv_iload hx hb dX4_back_114 (lv_at hl 6 rfl) ?_
                  refine lv_iload hx hb dX4_back_116 (lv_at hl 7 rfl) ?_
                  refine mcV (As := [.int 3, .int h, .int nm, .int a, .int b]) (rest := []) (ci := 4) (wn := [(o, .inr (4, [.ref pe, .ref hu, .ref na, .ref hB, .ref hE, .int td])), (pe, .inr (2, [.ref hP_])), (hP_, .inr (3, [.int (nI 24), .int (nI 6), .ref aP, .int (nI np)])), (aP, .inl (cI, 24 * 6, .inl (fl 6 P))), (hu, .inr (0, [.ref hH])), (hH, .inr (3, [.int (nI 5), .int (nI 6), .ref aH, .int (nI nh)])), (aH, .inl (cI, 5 * 6, .inl (fl 6 G))), (na, .inr (1, [.ref hN, .ref pe])), (hN, .inr (3, [.int (nI 200), .int (nI 5), .ref aN, .int (nI nn)])), (aN, .inl (cI, 200 * 5, .inl (fl 5 N))), (hB, .inr (3, [.int (nI 20), .int (nI 4), .ref aB, .int (nI nb)])), (aB, .inl (cI, 20 * 4, .inl (fl 4 B))), (hE, .inr (3, [.int (nI 200), .int (nI 6), .ref aE, .int (nI (adn 200 ne))])), (aE, .inl (cI, 200 * 6, .inl (fl 6 (eaddT ne E 3 h nm a b td))))]) ⟨hx, hb, hml, hown, hts⟩ (kX4_enter l D cI cZ o pe hP_ aP hu hH aH na hN aN hB aB hE aE np nh nn nb ne td P G N B E 3 h nm a b (by first | assumption | omega)) (cwV 5 hts gX4_back_X4_enter rfl rfl rfl (by decide +kernel) ⟨Nat.le_of_ble_eq_true rfl, Nat.le_of_ble_eq_true rfl⟩) hK hP hD hS [0, 1, 2, 3, 4, 5, 6, 7, 8, 9, 10, 11, 12, 13] rfl rfl rfl rfl rfl rfl rfl rfl rfl hl.1 rfl (Nat.le_of_ble_eq_true rfl) ⟨Nat.zero_le _, Nat.zero_le _⟩ dX4_back_118 (fun H locs hP hD hS => ?_)
                  refine W.eq (g2 := F0 mm 121 ls []) rfl ?_
                  refine lv_iload hx hb dX4_back_121 (lv_at hl 0 rfl) ?_
                  refine mu_iret hx hb hr hlocks hS dX4_back_123 ?_ ?_
                  · rw [if_pos (by simp [okB, c_8, c_15, c_23, c_31, c_41, c_50, c_62, c_73]), bkR, if_neg (by simp [alw, c_8, c_15, c_23, c_31, c_41, c_50, c_62, c_73])]
                  have q0 : (nI (if okB nh ne h rs a b = true then adn 200 ne else ne)) = (nI (adn 200 ne)) := by rw [if_pos (by simp [okB, c_8, c_15, c_23, c_31, c_41, c_50, c_62, c_73])]
                  have q1 : (fl 6 (if okB nh ne h rs a b = true then eaddT ne E (if bkR np nh nn P G N h nm rs a b = -1 then 3 else 1) h nm a b td else E)) = (fl 6 (eaddT ne E 3 h nm a b td)) := by rw [if_pos (by simp [okB, c_8, c_15, c_23, c_31, c_41, c_50, c_62, c_73]), show bkR np nh nn P G N h nm rs a b = -1 by rw [bkR, if_neg (by simp [alw, c_8, c_15, c_23, c_31, c_41, c_50, c_62, c_73])]] <;> rfl
                  rw [q0, q1]
                  exact hP
                · skip
                  have c_73 := of_decide_eq_false c_73
                  refine lv_iconst (v := 1) hx hb dX4_back_76 (by decide) ?_
                  refine lv_goto (tgt := 81) hx hb dX4_back_77 (by decide) ?_
                  refine lv_istore (lv' := [(6, .int 1), (0, .ref o), (1, .int h), (2, .int nm), (3, .int rs), (4, .int a), (5, .int b)]) hx hb dX4_back_81 hl (by decide) rfl (fun ls hl => ?_)
                  refine lv_iload hx hb dX4_back_83 (lv_at hl 0 rfl) ?_
                  refine lv_if_eq (tgt := 97) hx hb dX4_back_85 (by decide) (fun c9 => absurd c9 (by decide)) (fun _ => ?_)
                  refine lv_aload_n hx hb dX4_back_88 rfl (lv_at hl 1 rfl) ?_
                  refine lv_iload_n hx hb dX4_back_89 rfl (lv_at hl 2 rfl) ?_
                  refine lv_iload_n hx hb dX4_back_90 rfl (lv_at hl 3 rfl) ?_
                  refine rcV (As := [.int h, .int nm]) (rest := []) (ci := 4) ⟨hx, hb, hml, hown, hts⟩ (kX4_headBehind l D cI cZ o pe hP_ aP hu hH aH na hN aN hB aB hE aE np nh nn nb ne td P G N B E h nm (by first | assumption | omega) (by first | assumption | omega) (by first | assumption | omega) (by first | assumption | omega) (by first | assumption | omega) (by first | assumption | omega) (by first | assumption | omega)) (cwV 2 hts gX4_back_X4_headBehind rfl rfl rfl (by decide +kernel) ⟨Nat.le_of_ble_eq_true rfl, Nat.le_of_ble_eq_true rfl⟩) hK hP [0, 1, 2, 3, 4, 5, 6, 7, 8, 9, 10, 11, 12, 13] rfl rfl rfl rfl rfl hl.1 rfl (Nat.le_of_ble_eq_true rfl) ⟨Nat.zero_le _, Nat.zero_le _⟩ dX4_back_91 ?_
                  refine lv_goto (tgt := 98) hx hb dX4_back_94 (by decide) ?_
                  refine lv_istore (lv' := [(7, .int (hbR np nn P N h nm)), (6, .int 1), (0, .ref o), (1, .int h), (2, .int nm), (3, .int rs), (4, .int a), (5, .int b)]) hx hb dX4_back_98 hl (by decide) rfl (fun ls hl => ?_)
                  refine lv_aload_n hx hb dX4_back_100 rfl (lv_at hl 2 rfl) ?_
                  refine lv_iload hx hb dX4_back_101 (lv_at hl 0 rfl) ?_
                  refine lv_iconst (v := (-1)) hx hb dX4_back_103 (by decide) ?_
                  refine lv_icmp_ne (tgt := 111) hx hb dX4_back_104 (by decide) (fun c_104 => ?_) (fun c_104 => ?_)
                  · skip
                    refine lv_iconst (v := 1) hx hb dX4_back_111 (by decide) ?_
                    refine lv_iload_n hx hb dX4_back_112 rfl (lv_at hl 3 rfl) ?_
                    refine lv_iload_n hx hb dX4_back_113 rfl (lv_at hl 4 rfl) ?_
                    refine lv_iload hx hb dX4_back_114 (lv_at hl 6 rfl) ?_
                    refine lv_iload hx hb dX4_back_116 (lv_at hl 7 rfl) ?_
                    refine mcV (As := [.int 1, .int h, .int nm, .int a, .int b]) (rest := []) (ci := 4) (wn := [(o, .inr (4, [.ref pe, .ref hu, .ref na, .ref hB, .ref hE, .int td])), (pe, .inr (2, [.ref hP_])), (hP_, .inr (3, [.int (nI 24), .int (nI 6), .ref aP, .int (nI np)])), (aP, .inl (cI, 24 * 6, .inl (fl 6 P))), (hu, .inr (0, [.ref hH])), (hH, .inr (3, [.int (nI 5), .int (nI 6), .ref aH, .int (nI nh)])), (aH, .inl (cI, 5 * 6, .inl (fl 6 G))), (na, .inr (1, [.ref hN, .ref pe])), (hN, .inr (3, [.int (nI 200), .int (nI 5), .ref aN, .int (nI nn)])), (aN, .inl (cI, 200 * 5, .inl (fl 5 N))), (hB, .inr (3, [.int (nI 20), .int (nI 4), .ref aB, .int (nI nb)])), (aB, .inl (cI, 20 * 4, .inl (fl 4 B))), (hE, .inr (3, [.int (nI 200), .int (nI 6), .ref aE, .int (nI (adn 200 ne))])), (aE, .inl (cI, 200 * 6, .inl (fl 6 (eaddT ne E 1 h nm a b td))))]) ⟨hx, hb, hml, hown, hts⟩ (kX4_enter l D cI cZ o pe hP_ aP hu hH aH na hN aN hB aB hE aE np nh nn nb ne td P G N B E 1 h nm a b (by first | assumption | omega)) (cwV 5 hts gX4_back_X4_enter rfl rfl rfl (by decide +kernel) ⟨Nat.le_of_ble_eq_true rfl, Nat.le_of_ble_eq_true rfl⟩) hK hP hD hS [0, 1, 2, 3, 4, 5, 6, 7, 8, 9, 10, 11, 12, 13] rfl rfl rfl rfl rfl rfl rfl rfl rfl hl.1 rfl (Nat.le_of_ble_eq_true rfl) ⟨Nat.zero_le _, Nat.zero_le _⟩ dX4_back_118 (fun H locs hP hD hS => ?_)
                    refine W.eq (g2 := F0 mm 121 ls []) rfl ?_
                    refine lv_iload hx hb dX4_back_121 (lv_at hl 0 rfl) ?_
                    refine mu_iret hx hb hr hlocks hS dX4_back_123 ?_ ?_
                    · rw [if_pos (by simp [okB, c_8, c_15, c_23, c_31, c_41, c_50, c_62, c_73, c_104]), bkR, if_pos (by simp [alw, c_8, c_15, c_23, c_31, c_41, c_50, c_62, c_73, c_104])]
                    have q0 : (nI (if okB nh ne h rs a b = true then adn 200 ne else ne)) = (nI (adn 200 ne)) := by rw [if_pos (by simp [okB, c_8, c_15, c_23, c_31, c_41, c_50, c_62, c_73, c_104])]
                    have q1 : (fl 6 (if okB nh ne h rs a b = true then eaddT ne E (if bkR np nh nn P G N h nm rs a b = -1 then 3 else 1) h nm a b td else E)) = (fl 6 (eaddT ne E 1 h nm a b td)) := by rw [if_pos (by simp [okB, c_8, c_15, c_23, c_31, c_41, c_50, c_62, c_73, c_104]), show bkR np nh nn P G N h nm rs a b = hbR np nn P N h nm by rw [bkR, if_pos (by simp [alw, c_8, c_15, c_23, c_31, c_41, c_50, c_62, c_73, c_104])]] <;> simp [c_104]
                    rw [q0, q1]
                    exact hP
                  · skip
                    refine lv_iconst (v := 3) hx hb dX4_back_107 (by decide) ?_
                    refine lv_goto (tgt := 112) hx hb dX4_back_108 (by decide) ?_
                    refine lv_iload_n hx hb dX4_back_112 rfl (lv_at hl 3 rfl) ?_
                    refine lv_iload_n hx hb dX4_back_113 rfl (lv_at hl 4 rfl) ?_
                    refine lv_iload hx hb dX4_back_114 (lv_at hl 6 rfl) ?_
                    refine lv_iload hx hb dX4_back_116 (lv_at hl 7 rfl) ?_
                    refine mcV (As := [.int 3, .int h, .int nm, .int a, .int b]) (rest := []) (ci := 4) (wn := [(o, .inr (4, [.ref pe, .ref hu, .ref na, .ref hB, .ref hE, .int td])), (pe, .inr (2, [.ref hP_])), (hP_, .inr (3, [.int (nI 24), .int (nI 6), .ref aP, .int (nI np)])), (aP, .inl (cI, 24 * 6, .inl (fl 6 P))), (hu, .inr (0, [.ref hH])), (hH, .inr (3, [.int (nI 5), .int (nI 6), .ref aH, .int (nI nh)])), (aH, .inl (cI, 5 * 6, .inl (fl 6 G))), (na, .inr (1, [.ref hN, .ref pe])), (hN, .inr (3, [.int (nI 200), .int (nI 5), .ref aN, .int (nI nn)])), (aN, .inl (cI, 200 * 5, .inl (fl 5 N))), (hB, .inr (3, [.int (nI 20), .int (nI 4), .ref aB, .int (nI nb)])), (aB, .inl (cI, 20 * 4, .inl (fl 4 B))), (hE, .inr (3, [.int (nI 200), .int (nI 6), .ref aE, .int (nI (adn 200 ne))])), (aE, .inl (cI, 200 * 6, .inl (fl 6 (eaddT ne E 3 h nm a b td))))]) ⟨hx, hb, hml, hown, hts⟩ (kX4_enter l D cI cZ o pe hP_ aP hu hH aH na hN aN hB aB hE aE np nh nn nb ne td P G N B E 3 h nm a b (by first | assumption | omega)) (cwV 5 hts gX4_back_X4_enter rfl rfl rfl (by decide +kernel) ⟨Nat.le_of_ble_eq_true rfl, Nat.le_of_ble_eq_true rfl⟩) hK hP hD hS [0, 1, 2, 3, 4, 5, 6, 7, 8, 9, 10, 11, 12, 13] rfl rfl rfl rfl rfl rfl rfl rfl rfl hl.1 rfl (Nat.le_of_ble_eq_true rfl) ⟨Nat.zero_le _, Nat.zero_le _⟩ dX4_back_118 (fun H locs hP hD hS => ?_)
                    refine W.eq (g2 := F0 mm 121 ls []) rfl ?_
                    refine lv_iload hx hb dX4_back_121 (lv_at hl 0 rfl) ?_
                    refine mu_iret hx hb hr hlocks hS dX4_back_123 ?_ ?_
                    · rw [if_pos (by simp [okB, c_8, c_15, c_23, c_31, c_41, c_50, c_62, c_73, c_104]), bkR, if_pos (by simp [alw, c_8, c_15, c_23, c_31, c_41, c_50, c_62, c_73, c_104])]
                    have q0 : (nI (if okB nh ne h rs a b = true then adn 200 ne else ne)) = (nI (adn 200 ne)) := by rw [if_pos (by simp [okB, c_8, c_15, c_23, c_31, c_41, c_50, c_62, c_73, c_104])]
                    have q1 : (fl 6 (if okB nh ne h rs a b = true then eaddT ne E (if bkR np nh nn P G N h nm rs a b = -1 then 3 else 1) h nm a b td else E)) = (fl 6 (eaddT ne E 3 h nm a b td)) := by rw [if_pos (by simp [okB, c_8, c_15, c_23, c_31, c_41, c_50, c_62, c_73, c_104]), show bkR np nh nn P G N h nm rs a b = hbR np nn P N h nm by rw [bkR, if_pos (by simp [alw, c_8, c_15, c_23, c_31, c_41, c_50, c_62, c_73, c_104])]] <;> simp [c_104]
                    rw [q0, q1]
                    exact hP
          · skip
            have c_41 := of_decide_eq_true c_41
            refine lv_iconst (v := (-1)) hx hb dX4_back_44 (by decide) ?_
            refine mu_iret hx hb hr hlocks hS dX4_back_45 ?_ ?_
            · rw [if_neg (by simp [okB, c_8, c_15, c_23, c_31, c_41])]
            have q0 : (nI (if okB nh ne h rs a b = true then adn 200 ne else ne)) = (nI ne) := by rw [if_neg (by simp [okB, c_8, c_15, c_23, c_31, c_41])]
            have q1 : (fl 6 (if okB nh ne h rs a b = true then eaddT ne E (if bkR np nh nn P G N h nm rs a b = -1 then 3 else 1) h nm a b td else E)) = (fl 6 E) := by rw [if_neg (by simp [okB, c_8, c_15, c_23, c_31, c_41])]
            rw [q0, q1]
            exact hP
set_option maxHeartbeats 4000000 in
set_option maxRecDepth 100000 in
theorem kX4_lose (l : Launch) (D : va_G) (cI cZ : ClassId) (o pe hP_ aP hu hH aH na hN aN hB aB hE aE np nh nn nb ne : Nat) (td : Int32) (P G N B E : Nat → Nat → Int32) (h : Int32) (hnp : np ≤ 24) (hnh : nh ≤ 5) (hnn : nn ≤ 200) (hnb : nb ≤ 20) (hne : ne ≤ 200) (hw : HP np (P 4)) (ho : HO nn np N) : Met l yX4_lose wsX4_lose ({ frames := 3, cells := 0, slots := 0, locals := 67 } : Room) (MuP D [(cI, .int), (cZ, .boolean)] [.ref o, .int h] [(o, .inr (4, [.ref pe, .ref hu, .ref na, .ref hB, .ref hE, .int td])), (pe, .inr (2, [.ref hP_])), (hP_, .inr (3, [.int (nI 24), .int (nI 6), .ref aP, .int (nI np)])), (aP, .inl (cI, 24 * 6, .inl (fl 6 P))), (hu, .inr (0, [.ref hH])), (hH, .inr (3, [.int (nI 5), .int (nI 6), .ref aH, .int (nI nh)])), (aH, .inl (cI, 5 * 6, .inl (fl 6 G))), (na, .inr (1, [.ref hN, .ref pe])), (hN, .inr (3, [.int (nI 200), .int (nI 5), .ref aN, .int (nI nn)])), (aN, .inl (cI, 200 * 5, .inl (fl 5 N))), (hB, .inr (3, [.int (nI 20), .int (nI 4), .ref aB, .int (nI nb)])), (aB, .inl (cI, 20 * 4, .inl (fl 4 B))), (hE, .inr (3, [.int (nI 200), .int (nI 6), .ref aE, .int (nI ne)])), (aE, .inl (cI, 200 * 6, .inl (fl 6 E)))]) (QM D (some (.int (bI (inR nh h && !decide (tat nh 6 G h 5 = 1))))) [(o, .inr (4, [.ref pe, .ref hu, .ref na, .ref hB, .ref hE, .int td])), (pe, .inr (2, [.ref hP_])), (hP_, .inr (3, [.int (nI 24), .int (nI 6), .ref aP, .int (nI np)])), (aP, .inl (cI, 24 * 6, .inl (fl 6 P))), (hu, .inr (0, [.ref hH])), (hH, .inr (3, [.int (nI 5), .int (nI 6), .ref aH, .int (nI nh)])), (aH, .inl (cI, 5 * 6, .inl (fl 6 G))), (na, .inr (1, [.ref hN, .ref pe])), (hN, .inr (3, [.int (nI 200), .int (nI 5), .ref aN, .int (nI nn)])), (aN, .inl (cI, 200 * 5, .inl (fl 5 N))), (hB, .inr (3, [.int (nI 20), .int (nI 4), .ref aB, .int (nI nb)])), (aB, .inl (cI, 20 * 4, .inl (fl 4 B))), (hE, .inr (3, [.int (nI 200), .int (nI 6), .ref aE, .int (nI ne)])), (aE, .inl (cI, 200 * 6, .inl (fl 6 E)))] [(o, .inr (4, [.ref pe, .ref hu, .ref na, .ref hB, .ref hE, .int td])), (pe, .inr (2, [.ref hP_])), (hP_, .inr (3, [.int (nI 24), .int (nI 6), .ref aP, .int (nI np)])), (aP, .inl (cI, 24 * 6, .inl (fl 6 P))), (hu, .inr (0, [.ref hH])), (hH, .inr (3, [.int (nI 5), .int (nI 6), .ref aH, .int (nI nh)])), (aH, .inl (cI, 5 * 6, .inl (fl 6 (if (inR nh h && !decide (tat nh 6 G h 5 = 1)) = true then tput nh 6 G h 5 1 else G)))), (na, .inr (1, [.ref hN, .ref pe])), (hN, .inr (3, [.int (nI 200), .int (nI 5), .ref aN, .int (nI nn)])), (aN, .inl (cI, 200 * 5, .inl (fl 5 N))), (hB, .inr (3, [.int (nI 20), .int (nI 4), .ref aB, .int (nI nb)])), (aB, .inl (cI, 20 * 4, .inl (fl 4 B))), (hE, .inr (3, [.int (nI 200), .int (nI 6), .ref aE, .int (nI ne)])), (aE, .inl (cI, 200 * 6, .inl (fl 6 E)))]) 0 0 (adr [(o, .inr (4, [.ref pe, .ref hu, .ref na, .ref hB, .ref hE, .int td])), (pe, .inr (2, [.ref hP_])), (hP_, .inr (3, [.int (nI 24), .int (nI 6), .ref aP, .int (nI np)])), (aP, .inl (cI, 24 * 6, .inl (fl 6 P))), (hu, .inr (0, [.ref hH])), (hH, .inr (3, [.int (nI 5), .int (nI 6), .ref aH, .int (nI nh)])), (aH, .inl (cI, 5 * 6, .inl (fl 6 G))), (na, .inr (1, [.ref hN, .ref pe])), (hN, .inr (3, [.int (nI 200), .int (nI 5), .ref aN, .int (nI nn)])), (aN, .inl (cI, 200 * 5, .inl (fl 5 N))), (hB, .inr (3, [.int (nI 20), .int (nI 4), .ref aB, .int (nI nb)])), (aB, .inl (cI, 20 * 4, .inl (fl 4 B))), (hE, .inr (3, [.int (nI 200), .int (nI 6), .ref aE, .int (nI ne)])), (aE, .inl (cI, 200 * 6, .inl (fl 6 E)))]) := by
  refine mu_of (cc := cX4_lose) (maxL := 2) (ret := (some .boolean)) (by decide) rfl (Nat.le_of_ble_eq_true rfl) ?_
  intro pp ee ss mm bw me cd ls hx hb hr hts hown hlocks hml hK hl H locs hP hD hS
  have hl : lv_has ls 2 [(0, .ref o), (1, .int h)] := hl
  have hf19 := hts (.fieldLink RX4 19 "OtherNames" "houses" "LOtherNames$Houses;") (by decide +kernel)
  have hin4 := (show ∀ w ∈ wsX40, w ∈ wsX4_lose by decide +kernel)
  refine lv_aload_n hx hb dX4_lose_0 rfl (lv_at hl 0 rfl) ?_
  refine va_get (D := D) (ci := 4) (v := .ref hu) (C := RX4) (T := TX4) (N := 6) hx hb hts hin4 hown hK hP 0 rfl rfl 1 (by decide) hf19 (fun _ h9 => h9) rfl dX4_lose_1 ?_
  refine lv_iload_n hx hb dX4_lose_4 rfl (lv_at hl 1 rfl) ?_
  refine rcV (As := [.int h]) (rest := []) (ci := 0) ⟨hx, hb, hml, hown, hts⟩ (kX0_isThere l D cI cZ hu hH aH nh G h (by first | assumption | omega)) (cwV 1 hts gX4_lose_X0_isThere rfl rfl rfl (by decide +kernel) ⟨Nat.le_of_ble_eq_true rfl, Nat.le_of_ble_eq_true rfl⟩) hK hP [4, 5, 6] rfl rfl rfl rfl rfl hl.1 rfl (Nat.le_of_ble_eq_true rfl) ⟨Nat.zero_le _, Nat.zero_le _⟩ dX4_lose_5 ?_
  refine lb_eq (tgt := 22) hx hb dX4_lose_8 (by decide) (fun c_8 => ?_) (fun c_8 => ?_)
  · skip
    refine lv_iconst (v := 0) hx hb dX4_lose_22 (by decide) ?_
    refine mu_zret hx hb hr hlocks hS dX4_lose_23 ?_ ?_
    · simp [bI, c_8]
    have q0 : (fl 6 (if (inR nh h && !decide (tat nh 6 G h 5 = 1)) = true then tput nh 6 G h 5 1 else G)) = (fl 6 G) := by rw [if_neg (by simp [c_8])]
    rw [q0]
    exact hP
  · skip
    refine lv_aload_n hx hb dX4_lose_11 rfl (lv_at hl 0 rfl) ?_
    refine va_get (D := D) (ci := 4) (v := .ref hu) (C := RX4) (T := TX4) (N := 6) hx hb hts hin4 hown hK hP 0 rfl rfl 1 (by decide) hf19 (fun _ h9 => h9) rfl dX4_lose_12 ?_
    refine lv_iload_n hx hb dX4_lose_15 rfl (lv_at hl 1 rfl) ?_
    refine rcV (As := [.int h]) (rest := []) (ci := 0) ⟨hx, hb, hml, hown, hts⟩ (kX0_isLost l D cI cZ hu hH aH nh G h (by first | assumption | omega)) (cwV 1 hts gX4_lose_X0_isLost rfl rfl rfl (by decide +kernel) ⟨Nat.le_of_ble_eq_true rfl, Nat.le_of_ble_eq_true rfl⟩) hK hP [4, 5, 6] rfl rfl rfl rfl rfl hl.1 rfl (Nat.le_of_ble_eq_true rfl) ⟨Nat.zero_le _, Nat.zero_le _⟩ dX4_lose_16 ?_
    refine lb_eq (tgt := 24) hx hb dX4_lose_19 (by decide) (fun c_19 => ?_) (fun c_19 => ?_)
    · skip
      have c_19 := of_decide_eq_false c_19
      refine lv_aload_n hx hb dX4_lose_24 rfl (lv_at hl 0 rfl) ?_
      refine va_get (D := D) (ci := 4) (v := .ref hu) (C := RX4) (T := TX4) (N := 6) hx hb hts hin4 hown hK hP 0 rfl rfl 1 (by decide) hf19 (fun _ h9 => h9) rfl dX4_lose_25 ?_
      refine lv_iload_n hx hb dX4_lose_28 rfl (lv_at hl 1 rfl) ?_
      refine lv_iconst (v := 1) hx hb dX4_lose_29 (by decide) ?_
      refine mcV (As := [.int h, .int 1]) (rest := []) (ci := 0) (wn := [(o, .inr (4, [.ref pe, .ref hu, .ref na, .ref hB, .ref hE, .int td])), (pe, .inr (2, [.ref hP_])), (hP_, .inr (3, [.int (nI 24), .int (nI 6), .ref aP, .int (nI np)])), (aP, .inl (cI, 24 * 6, .inl (fl 6 P))), (hu, .inr (0, [.ref hH])), (hH, .inr (3, [.int (nI 5), .int (nI 6), .ref aH, .int (nI nh)])), (aH, .inl (cI, 5 * 6, .inl (fl 6 (tput nh 6 G h 5 (if 1 = 0 then 0 else 1))))), (na, .inr (1, [.ref hN, .ref pe])), (hN, .inr (3, [.int (nI 200), .int (nI 5), .ref aN, .int (nI nn)])), (aN, .inl (cI, 200 * 5, .inl (fl 5 N))), (hB, .inr (3, [.int (nI 20), .int (nI 4), .ref aB, .int (nI nb)])), (aB, .inl (cI, 20 * 4, .inl (fl 4 B))), (hE, .inr (3, [.int (nI 200), .int (nI 6), .ref aE, .int (nI ne)])), (aE, .inl (cI, 200 * 6, .inl (fl 6 E)))]) ⟨hx, hb, hml, hown, hts⟩ (kX0_setLost l D cI cZ hu hH aH nh G h 1 (by first | assumption | omega)) (cwV 2 hts gX4_lose_X0_setLost rfl rfl rfl (by decide +kernel) ⟨Nat.le_of_ble_eq_true rfl, Nat.le_of_ble_eq_true rfl⟩) hK hP hD hS [4, 5, 6] rfl rfl rfl rfl rfl rfl rfl rfl rfl hl.1 rfl (Nat.le_of_ble_eq_true rfl) ⟨Nat.zero_le _, Nat.zero_le _⟩ dX4_lose_30 (fun H locs hP hD hS => ?_)
      refine W.eq (g2 := F0 mm 33 ls []) rfl ?_
      refine lv_iconst (v := 1) hx hb dX4_lose_33 (by decide) ?_
      refine mu_zret hx hb hr hlocks hS dX4_lose_34 ?_ ?_
      · simp [bI, c_8, c_19]
      have q0 : (fl 6 (if (inR nh h && !decide (tat nh 6 G h 5 = 1)) = true then tput nh 6 G h 5 1 else G)) = (fl 6 (tput nh 6 G h 5 (if 1 = 0 then 0 else 1))) := by rw [if_pos (by simp [c_8, c_19])] <;> rfl
      rw [q0]
      exact hP
    · skip
      have c_19 := of_decide_eq_true c_19
      refine lv_iconst (v := 0) hx hb dX4_lose_22 (by decide) ?_
      refine mu_zret hx hb hr hlocks hS dX4_lose_23 ?_ ?_
      · simp [bI, c_8, c_19]
      have q0 : (fl 6 (if (inR nh h && !decide (tat nh 6 G h 5 = 1)) = true then tput nh 6 G h 5 1 else G)) = (fl 6 G) := by rw [if_neg (by simp [c_8, c_19])]
      rw [q0]
      exact hP
set_option maxHeartbeats 4000000 in
set_option maxRecDepth 100000 in
theorem kX4_anew (l : Launch) (D : va_G) (cI cZ : ClassId) (o pe hP_ aP hu hH aH na hN aN hB aB hE aE np nh nn nb ne : Nat) (td : Int32) (P G N B E : Nat → Nat → Int32) (h : Int32) (sd : Int32) (hnp : np ≤ 24) (hnh : nh ≤ 5) (hnn : nn ≤ 200) (hnb : nb ≤ 20) (hne : ne ≤ 200) (hw : HP np (P 4)) (ho : HO nn np N) : Met l yX4_anew wsX4_anew ({ frames := 3, cells := 0, slots := 0, locals := 67 } : Room) (MuP D [(cI, .int), (cZ, .boolean)] [.ref o, .int h, .int sd] [(o, .inr (4, [.ref pe, .ref hu, .ref na, .ref hB, .ref hE, .int td])), (pe, .inr (2, [.ref hP_])), (hP_, .inr (3, [.int (nI 24), .int (nI 6), .ref aP, .int (nI np)])), (aP, .inl (cI, 24 * 6, .inl (fl 6 P))), (hu, .inr (0, [.ref hH])), (hH, .inr (3, [.int (nI 5), .int (nI 6), .ref aH, .int (nI nh)])), (aH, .inl (cI, 5 * 6, .inl (fl 6 G))), (na, .inr (1, [.ref hN, .ref pe])), (hN, .inr (3, [.int (nI 200), .int (nI 5), .ref aN, .int (nI nn)])), (aN, .inl (cI, 200 * 5, .inl (fl 5 N))), (hB, .inr (3, [.int (nI 20), .int (nI 4), .ref aB, .int (nI nb)])), (aB, .inl (cI, 20 * 4, .inl (fl 4 B))), (hE, .inr (3, [.int (nI 200), .int (nI 6), .ref aE, .int (nI ne)])), (aE, .inl (cI, 200 * 6, .inl (fl 6 E)))]) (QM D (some (.int (bI (inR nh h && decide (tat nh 6 G h 5 = 1) && decide (tat nh 6 G h 2 = sd))))) [(o, .inr (4, [.ref pe, .ref hu, .ref na, .ref hB, .ref hE, .int td])), (pe, .inr (2, [.ref hP_])), (hP_, .inr (3, [.int (nI 24), .int (nI 6), .ref aP, .int (nI np)])), (aP, .inl (cI, 24 * 6, .inl (fl 6 P))), (hu, .inr (0, [.ref hH])), (hH, .inr (3, [.int (nI 5), .int (nI 6), .ref aH, .int (nI nh)])), (aH, .inl (cI, 5 * 6, .inl (fl 6 G))), (na, .inr (1, [.ref hN, .ref pe])), (hN, .inr (3, [.int (nI 200), .int (nI 5), .ref aN, .int (nI nn)])), (aN, .inl (cI, 200 * 5, .inl (fl 5 N))), (hB, .inr (3, [.int (nI 20), .int (nI 4), .ref aB, .int (nI nb)])), (aB, .inl (cI, 20 * 4, .inl (fl 4 B))), (hE, .inr (3, [.int (nI 200), .int (nI 6), .ref aE, .int (nI ne)])), (aE, .inl (cI, 200 * 6, .inl (fl 6 E)))] [(o, .inr (4, [.ref pe, .ref hu, .ref na, .ref hB, .ref hE, .int td])), (pe, .inr (2, [.ref hP_])), (hP_, .inr (3, [.int (nI 24), .int (nI 6), .ref aP, .int (nI np)])), (aP, .inl (cI, 24 * 6, .inl (fl 6 P))), (hu, .inr (0, [.ref hH])), (hH, .inr (3, [.int (nI 5), .int (nI 6), .ref aH, .int (nI nh)])), (aH, .inl (cI, 5 * 6, .inl (fl 6 (if (inR nh h && decide (tat nh 6 G h 5 = 1) && decide (tat nh 6 G h 2 = sd)) = true then tput nh 6 G h 5 0 else G)))), (na, .inr (1, [.ref hN, .ref pe])), (hN, .inr (3, [.int (nI 200), .int (nI 5), .ref aN, .int (nI nn)])), (aN, .inl (cI, 200 * 5, .inl (fl 5 N))), (hB, .inr (3, [.int (nI 20), .int (nI 4), .ref aB, .int (nI nb)])), (aB, .inl (cI, 20 * 4, .inl (fl 4 B))), (hE, .inr (3, [.int (nI 200), .int (nI 6), .ref aE, .int (nI ne)])), (aE, .inl (cI, 200 * 6, .inl (fl 6 E)))]) 0 0 (adr [(o, .inr (4, [.ref pe, .ref hu, .ref na, .ref hB, .ref hE, .int td])), (pe, .inr (2, [.ref hP_])), (hP_, .inr (3, [.int (nI 24), .int (nI 6), .ref aP, .int (nI np)])), (aP, .inl (cI, 24 * 6, .inl (fl 6 P))), (hu, .inr (0, [.ref hH])), (hH, .inr (3, [.int (nI 5), .int (nI 6), .ref aH, .int (nI nh)])), (aH, .inl (cI, 5 * 6, .inl (fl 6 G))), (na, .inr (1, [.ref hN, .ref pe])), (hN, .inr (3, [.int (nI 200), .int (nI 5), .ref aN, .int (nI nn)])), (aN, .inl (cI, 200 * 5, .inl (fl 5 N))), (hB, .inr (3, [.int (nI 20), .int (nI 4), .ref aB, .int (nI nb)])), (aB, .inl (cI, 20 * 4, .inl (fl 4 B))), (hE, .inr (3, [.int (nI 200), .int (nI 6), .ref aE, .int (nI ne)])), (aE, .inl (cI, 200 * 6, .inl (fl 6 E)))]) := by
  refine mu_of (cc := cX4_anew) (maxL := 3) (ret := (some .boolean)) (by decide) rfl (Nat.le_of_ble_eq_true rfl) ?_
  intro pp ee ss mm bw me cd ls hx hb hr hts hown hlocks hml hK hl H locs hP hD hS
  have hl : lv_has ls 3 [(0, .ref o), (1, .int h), (2, .int sd)] := hl
  have hf19 := hts (.fieldLink RX4 19 "OtherNames" "houses" "LOtherNames$Houses;") (by decide +kernel)
  have hin4 := (show ∀ w ∈ wsX40, w ∈ wsX4_anew by decide +kernel)
  refine lv_aload_n hx hb dX4_anew_0 rfl (lv_at hl 0 rfl) ?_
  refine va_get (D := D) (ci := 4) (v := .ref hu) (C := RX4) (T := TX4) (N := 6) hx hb hts hin4 hown hK hP 0 rfl rfl 1 (by decide) hf19 (fun _ h9 => h9) rfl dX4_anew_1 ?_
  refine lv_iload_n hx hb dX4_anew_4 rfl (lv_at hl 1 rfl) ?_
  refine rcV (As := [.int h]) (rest := []) (ci := 0) ⟨hx, hb, hml, hown, hts⟩ (kX0_isThere l D cI cZ hu hH aH nh G h (by first | assumption | omega)) (cwV 1 hts gX4_anew_X0_isThere rfl rfl rfl (by decide +kernel) ⟨Nat.le_of_ble_eq_true rfl, Nat.le_of_ble_eq_true rfl⟩) hK hP [4, 5, 6] rfl rfl rfl rfl rfl hl.1 rfl (Nat.le_of_ble_eq_true rfl) ⟨Nat.zero_le _, Nat.zero_le _⟩ dX4_anew_5 ?_
  refine lb_eq (tgt := 34) hx hb dX4_anew_8 (by decide) (fun c_8 => ?_) (fun c_8 => ?_)
  · skip
    refine lv_iconst (v := 0) hx hb dX4_anew_34 (by decide) ?_
    refine mu_zret hx hb hr hlocks hS dX4_anew_35 ?_ ?_
    · simp [bI, c_8]
    have q0 : (fl 6 (if (inR nh h && decide (tat nh 6 G h 5 = 1) && decide (tat nh 6 G h 2 = sd)) = true then tput nh 6 G h 5 0 else G)) = (fl 6 G) := by rw [if_neg (by simp [c_8])]
    rw [q0]
    exact hP
  · skip
    refine lv_aload_n hx hb dX4_anew_11 rfl (lv_at hl 0 rfl) ?_
    refine va_get (D := D) (ci := 4) (v := .ref hu) (C := RX4) (T := TX4) (N := 6) hx hb hts hin4 hown hK hP 0 rfl rfl 1 (by decide) hf19 (fun _ h9 => h9) rfl dX4_anew_12 ?_
    refine lv_iload_n hx hb dX4_anew_15 rfl (lv_at hl 1 rfl) ?_
    refine rcV (As := [.int h]) (rest := []) (ci := 0) ⟨hx, hb, hml, hown, hts⟩ (kX0_isLost l D cI cZ hu hH aH nh G h (by first | assumption | omega)) (cwV 1 hts gX4_anew_X0_isLost rfl rfl rfl (by decide +kernel) ⟨Nat.le_of_ble_eq_true rfl, Nat.le_of_ble_eq_true rfl⟩) hK hP [4, 5, 6] rfl rfl rfl rfl rfl hl.1 rfl (Nat.le_of_ble_eq_true rfl) ⟨Nat.zero_le _, Nat.zero_le _⟩ dX4_anew_16 ?_
    refine lb_eq (tgt := 34) hx hb dX4_anew_19 (by decide) (fun c_19 => ?_) (fun c_19 => ?_)
    · skip
      have c_19 := of_decide_eq_false c_19
      refine lv_iconst (v := 0) hx hb dX4_anew_34 (by decide) ?_
      refine mu_zret hx hb hr hlocks hS dX4_anew_35 ?_ ?_
      · simp [bI, c_8, c_19]
      have q0 : (fl 6 (if (inR nh h && decide (tat nh 6 G h 5 = 1) && decide (tat nh 6 G h 2 = sd)) = true then tput nh 6 G h 5 0 else G)) = (fl 6 G) := by rw [if_neg (by simp [c_8, c_19])]
      rw [q0]
      exact hP
    · skip
      have c_19 := of_decide_eq_true c_19
      refine lv_aload_n hx hb dX4_anew_22 rfl (lv_at hl 0 rfl) ?_
      refine va_get (D := D) (ci := 4) (v := .ref hu) (C := RX4) (T := TX4) (N := 6) hx hb hts hin4 hown hK hP 0 rfl rfl 1 (by decide) hf19 (fun _ h9 => h9) rfl dX4_anew_23 ?_
      refine lv_iload_n hx hb dX4_anew_26 rfl (lv_at hl 1 rfl) ?_
      refine rcV (As := [.int h]) (rest := []) (ci := 0) ⟨hx, hb, hml, hown, hts⟩ (kX0_seedOf l D cI cZ hu hH aH nh G h (by first | assumption | omega)) (cwV 1 hts gX4_anew_X0_seedOf rfl rfl rfl (by decide +kernel) ⟨Nat.le_of_ble_eq_true rfl, Nat.le_of_ble_eq_true rfl⟩) hK hP [4, 5, 6] rfl rfl rfl rfl rfl hl.1 rfl (Nat.le_of_ble_eq_true rfl) ⟨Nat.zero_le _, Nat.zero_le _⟩ dX4_anew_27 ?_
      refine lv_iload_n hx hb dX4_anew_30 rfl (lv_at hl 2 rfl) ?_
      refine lv_icmp_eq (tgt := 36) hx hb dX4_anew_31 (by decide) (fun c_31 => ?_) (fun c_31 => ?_)
      · skip
        refine lv_aload_n hx hb dX4_anew_36 rfl (lv_at hl 0 rfl) ?_
        refine va_get (D := D) (ci := 4) (v := .ref hu) (C := RX4) (T := TX4) (N := 6) hx hb hts hin4 hown hK hP 0 rfl rfl 1 (by decide) hf19 (fun _ h9 => h9) rfl dX4_anew_37 ?_
        refine lv_iload_n hx hb dX4_anew_40 rfl (lv_at hl 1 rfl) ?_
        refine lv_iconst (v := 0) hx hb dX4_anew_41 (by decide) ?_
        refine mcV (As := [.int h, .int 0]) (rest := []) (ci := 0) (wn := [(o, .inr (4, [.ref pe, .ref hu, .ref na, .ref hB, .ref hE, .int td])), (pe, .inr (2, [.ref hP_])), (hP_, .inr (3, [.int (nI 24), .int (nI 6), .ref aP, .int (nI np)])), (aP, .inl (cI, 24 * 6, .inl (fl 6 P))), (hu, .inr (0, [.ref hH])), (hH, .inr (3, [.int (nI 5), .int (nI 6), .ref aH, .int (nI nh)])), (aH, .inl (cI, 5 * 6, .inl (fl 6 (tput nh 6 G h 5 (if 0 = 0 then 0 else 1))))), (na, .inr (1, [.ref hN, .ref pe])), (hN, .inr (3, [.int (nI 200), .int (nI 5), .ref aN, .int (nI nn)])), (aN, .inl (cI, 200 * 5, .inl (fl 5 N))), (hB, .inr (3, [.int (nI 20), .int (nI 4), .ref aB, .int (nI nb)])), (aB, .inl (cI, 20 * 4, .inl (fl 4 B))), (hE, .inr (3, [.int (nI 200), .int (nI 6), .ref aE, .int (nI ne)])), (aE, .inl (cI, 200 * 6, .inl (fl 6 E)))]) ⟨hx, hb, hml, hown, hts⟩ (kX0_setLost l D cI cZ hu hH aH nh G h 0 (by first | assumption | omega)) (cwV 2 hts gX4_anew_X0_setLost rfl rfl rfl (by decide +kernel) ⟨Nat.le_of_ble_eq_true rfl, Nat.le_of_ble_eq_true rfl⟩) hK hP hD hS [4, 5, 6] rfl rfl rfl rfl rfl rfl rfl rfl rfl hl.1 rfl (Nat.le_of_ble_eq_true rfl) ⟨Nat.zero_le _, Nat.zero_le _⟩ dX4_anew_42 (fun H locs hP hD hS => ?_)
        refine W.eq (g2 := F0 mm 45 ls []) rfl ?_
        refine lv_iconst (v := 1) hx hb dX4_anew_45 (by decide) ?_
        refine mu_zret hx hb hr hlocks hS dX4_anew_46 ?_ ?_
        · simp [bI, c_8, c_19, c_31]
        have q0 : (fl 6 (if (inR nh h && decide (tat nh 6 G h 5 = 1) && decide (tat nh 6 G h 2 = sd)) = true then tput nh 6 G h 5 0 else G)) = (fl 6 (tput nh 6 G h 5 (if 0 = 0 then 0 else 1))) := by rw [if_pos (by simp [c_8, c_19, c_31])] <;> rfl
        rw [q0]
        exact hP
      · skip
        refine lv_iconst (v := 0) hx hb dX4_anew_34 (by decide) ?_
        refine mu_zret hx hb hr hlocks hS dX4_anew_35 ?_ ?_
        · simp [bI, c_8, c_19, c_31]
        have q0 : (fl 6 (if (inR nh h && decide (tat nh 6 G h 5 = 1) && decide (tat nh 6 G h 2 = sd)) = true then tput nh 6 G h 5 0 else G)) = (fl 6 G) := by rw [if_neg (by simp [c_8, c_19, c_31])]
        rw [q0]
        exact hP
set_option maxHeartbeats 4000000 in
set_option maxRecDepth 100000 in
theorem kX4_record (l : Launch) (D : va_G) (cI cZ : ClassId) (o pe hP_ aP hu hH aH na hN aN hB aB hE aE np nh nn nb ne : Nat) (td : Int32) (P G N B E : Nat → Nat → Int32) (i : Int32) (w : Int32) (hnp : np ≤ 24) (hnh : nh ≤ 5) (hnn : nn ≤ 200) (hnb : nb ≤ 20) (hne : ne ≤ 200) (hw : HP np (P 4)) (ho : HO nn np N) : Met l yX4_record wsX4_record ({ frames := 2, cells := 0, slots := 0, locals := 44 } : Room) (RdP D [(cI, .int), (cZ, .boolean)] [.ref o, .int i, .int w] [(o, .inr (4, [.ref pe, .ref hu, .ref na, .ref hB, .ref hE, .int td])), (pe, .inr (2, [.ref hP_])), (hP_, .inr (3, [.int (nI 24), .int (nI 6), .ref aP, .int (nI np)])), (aP, .inl (cI, 24 * 6, .inl (fl 6 P))), (hu, .inr (0, [.ref hH])), (hH, .inr (3, [.int (nI 5), .int (nI 6), .ref aH, .int (nI nh)])), (aH, .inl (cI, 5 * 6, .inl (fl 6 G))), (na, .inr (1, [.ref hN, .ref pe])), (hN, .inr (3, [.int (nI 200), .int (nI 5), .ref aN, .int (nI nn)])), (aN, .inl (cI, 200 * 5, .inl (fl 5 N))), (hB, .inr (3, [.int (nI 20), .int (nI 4), .ref aB, .int (nI nb)])), (aB, .inl (cI, 20 * 4, .inl (fl 4 B))), (hE, .inr (3, [.int (nI 200), .int (nI 6), .ref aE, .int (nI ne)])), (aE, .inl (cI, 200 * 6, .inl (fl 6 E)))]) (QcRead (tat ne 6 E i w)) 0 0 (fun _ => False) := by
  refine rd_of (cc := cX4_record) (maxL := 3) (ret := (some .int)) (by decide) rfl (Nat.le_of_ble_eq_true rfl) ?_
  intro pp ee ss mm bw me cd ls hx hb hr hts hown hlocks hml hP hK hl
  have hl : lv_has ls 3 [(0, .ref o), (1, .int i), (2, .int w)] := hl
  have hf41 := hts (.fieldLink RX4 41 "OtherNames" "entries" "LOtherNames$Rows;") (by decide +kernel)
  have hin4 := (show ∀ w ∈ wsX40, w ∈ wsX4_record by decide +kernel)
  refine lv_aload_n hx hb dX4_record_0 rfl (lv_at hl 0 rfl) ?_
  refine va_get (D := D) (ci := 4) (v := .ref hE) (C := RX4) (T := TX4) (N := 6) hx hb hts hin4 hown hK hP 0 rfl rfl 4 (by decide) hf41 (fun _ h9 => h9) rfl dX4_record_1 ?_
  refine lv_iload_n hx hb dX4_record_4 rfl (lv_at hl 1 rfl) ?_
  refine lv_iload_n hx hb dX4_record_5 rfl (lv_at hl 2 rfl) ?_
  refine rcV (As := [.int i, .int w]) (rest := []) (ci := 3) ⟨hx, hb, hml, hown, hts⟩ (kX3_at l D cI cZ hE aE 200 6 ne E i w (by first | assumption | omega)) (cwV 2 hts gX4_record_X3_at rfl rfl rfl (by decide +kernel) ⟨Nat.le_of_ble_eq_true rfl, Nat.le_of_ble_eq_true rfl⟩) hK hP [12, 13] rfl rfl rfl rfl rfl hl.1 rfl (Nat.le_of_ble_eq_true rfl) ⟨Nat.zero_le _, Nat.zero_le _⟩ dX4_record_6 ?_
  exact rd_iret hx hb hr hlocks dX4_record_9 (by rfl)
set_option maxHeartbeats 4000000 in
set_option maxRecDepth 100000 in
theorem kX4_given (l : Launch) (D : va_G) (cI cZ : ClassId) (o pe hP_ aP hu hH aH na hN aN hB aB hE aE np nh nn nb ne : Nat) (td : Int32) (P G N B E : Nat → Nat → Int32) (i : Int32) (w : Int32) (hnp : np ≤ 24) (hnh : nh ≤ 5) (hnn : nn ≤ 200) (hnb : nb ≤ 20) (hne : ne ≤ 200) (hw : HP np (P 4)) (ho : HO nn np N) : Met l yX4_given wsX4_given ({ frames := 3, cells := 0, slots := 0, locals := 66 } : Room) (RdP D [(cI, .int), (cZ, .boolean)] [.ref o, .int i, .int w] [(o, .inr (4, [.ref pe, .ref hu, .ref na, .ref hB, .ref hE, .int td])), (pe, .inr (2, [.ref hP_])), (hP_, .inr (3, [.int (nI 24), .int (nI 6), .ref aP, .int (nI np)])), (aP, .inl (cI, 24 * 6, .inl (fl 6 P))), (hu, .inr (0, [.ref hH])), (hH, .inr (3, [.int (nI 5), .int (nI 6), .ref aH, .int (nI nh)])), (aH, .inl (cI, 5 * 6, .inl (fl 6 G))), (na, .inr (1, [.ref hN, .ref pe])), (hN, .inr (3, [.int (nI 200), .int (nI 5), .ref aN, .int (nI nn)])), (aN, .inl (cI, 200 * 5, .inl (fl 5 N))), (hB, .inr (3, [.int (nI 20), .int (nI 4), .ref aB, .int (nI nb)])), (aB, .inl (cI, 20 * 4, .inl (fl 4 B))), (hE, .inr (3, [.int (nI 200), .int (nI 6), .ref aE, .int (nI ne)])), (aE, .inl (cI, 200 * 6, .inl (fl 6 E)))]) (QcRead (tat nn 5 N i w)) 0 0 (fun _ => False) := by
  refine rd_of (cc := cX4_given) (maxL := 3) (ret := (some .int)) (by decide) rfl (Nat.le_of_ble_eq_true rfl) ?_
  intro pp ee ss mm bw me cd ls hx hb hr hts hown hlocks hml hP hK hl
  have hl : lv_has ls 3 [(0, .ref o), (1, .int i), (2, .int w)] := hl
  have hf28 := hts (.fieldLink RX4 28 "OtherNames" "names" "LOtherNames$Names;") (by decide +kernel)
  have hin4 := (show ∀ w ∈ wsX40, w ∈ wsX4_given by decide +kernel)
  refine lv_aload_n hx hb dX4_given_0 rfl (lv_at hl 0 rfl) ?_
  refine va_get (D := D) (ci := 4) (v := .ref na) (C := RX4) (T := TX4) (N := 6) hx hb hts hin4 hown hK hP 0 rfl rfl 2 (by decide) hf28 (fun _ h9 => h9) rfl dX4_given_1 ?_
  refine lv_iload_n hx hb dX4_given_4 rfl (lv_at hl 1 rfl) ?_
  refine lv_iload_n hx hb dX4_given_5 rfl (lv_at hl 2 rfl) ?_
  refine rcV (As := [.int i, .int w]) (rest := []) (ci := 1) ⟨hx, hb, hml, hown, hts⟩ (kX1_cell l D cI cZ na hN aN nn N pe hP_ aP np P i w (by first | assumption | omega) (by first | assumption | omega)) (cwV 2 hts gX4_given_X1_cell rfl rfl rfl (by decide +kernel) ⟨Nat.le_of_ble_eq_true rfl, Nat.le_of_ble_eq_true rfl⟩) hK hP [7, 8, 9, 1, 2, 3] rfl rfl rfl rfl rfl hl.1 rfl (Nat.le_of_ble_eq_true rfl) ⟨Nat.zero_le _, Nat.zero_le _⟩ dX4_given_6 ?_
  exact rd_iret hx hb hr hlocks dX4_given_9 (by rfl)
set_option maxHeartbeats 4000000 in
set_option maxRecDepth 100000 in
theorem kX4_name (l : Launch) (D : va_G) (cI cZ : ClassId) (o pe hP_ aP hu hH aH na hN aN hB aB hE aE np nh nn nb ne : Nat) (td : Int32) (P G N B E : Nat → Nat → Int32) (h : Int32) (p : Int32) (hnp : np ≤ 24) (hnh : nh ≤ 5) (hnn : nn ≤ 200) (hnb : nb ≤ 20) (hne : ne ≤ 200) (hw : HP np (P 4)) (ho : HO nn np N) : Met l yX4_name wsX4_name ({ frames := 5, cells := 0, slots := 0, locals := 118 } : Room) (MuP D [(cI, .int), (cZ, .boolean)] [.ref o, .int h, .int p] [(o, .inr (4, [.ref pe, .ref hu, .ref na, .ref hB, .ref hE, .int td])), (pe, .inr (2, [.ref hP_])), (hP_, .inr (3, [.int (nI 24), .int (nI 6), .ref aP, .int (nI np)])), (aP, .inl (cI, 24 * 6, .inl (fl 6 P))), (hu, .inr (0, [.ref hH])), (hH, .inr (3, [.int (nI 5), .int (nI 6), .ref aH, .int (nI nh)])), (aH, .inl (cI, 5 * 6, .inl (fl 6 G))), (na, .inr (1, [.ref hN, .ref pe])), (hN, .inr (3, [.int (nI 200), .int (nI 5), .ref aN, .int (nI nn)])), (aN, .inl (cI, 200 * 5, .inl (fl 5 N))), (hB, .inr (3, [.int (nI 20), .int (nI 4), .ref aB, .int (nI nb)])), (aB, .inl (cI, 20 * 4, .inl (fl 4 B))), (hE, .inr (3, [.int (nI 200), .int (nI 6), .ref aE, .int (nI ne)])), (aE, .inl (cI, 200 * 6, .inl (fl 6 E)))]) (QM D (some (.int (if (inR nh h && inR np p && !isSt np P p) = true then nmR nh nn P G N td h p.toNatClampNeg else -1))) [(o, .inr (4, [.ref pe, .ref hu, .ref na, .ref hB, .ref hE, .int td])), (pe, .inr (2, [.ref hP_])), (hP_, .inr (3, [.int (nI 24), .int (nI 6), .ref aP, .int (nI np)])), (aP, .inl (cI, 24 * 6, .inl (fl 6 P))), (hu, .inr (0, [.ref hH])), (hH, .inr (3, [.int (nI 5), .int (nI 6), .ref aH, .int (nI nh)])), (aH, .inl (cI, 5 * 6, .inl (fl 6 G))), (na, .inr (1, [.ref hN, .ref pe])), (hN, .inr (3, [.int (nI 200), .int (nI 5), .ref aN, .int (nI nn)])), (aN, .inl (cI, 200 * 5, .inl (fl 5 N))), (hB, .inr (3, [.int (nI 20), .int (nI 4), .ref aB, .int (nI nb)])), (aB, .inl (cI, 20 * 4, .inl (fl 4 B))), (hE, .inr (3, [.int (nI 200), .int (nI 6), .ref aE, .int (nI ne)])), (aE, .inl (cI, 200 * 6, .inl (fl 6 E)))] [(o, .inr (4, [.ref pe, .ref hu, .ref na, .ref hB, .ref hE, .int td])), (pe, .inr (2, [.ref hP_])), (hP_, .inr (3, [.int (nI 24), .int (nI 6), .ref aP, .int (nI np)])), (aP, .inl (cI, 24 * 6, .inl (fl 6 P))), (hu, .inr (0, [.ref hH])), (hH, .inr (3, [.int (nI 5), .int (nI 6), .ref aH, .int (nI nh)])), (aH, .inl (cI, 5 * 6, .inl (fl 6 G))), (na, .inr (1, [.ref hN, .ref pe])), (hN, .inr (3, [.int (nI 200), .int (nI 5), .ref aN, .int (nI (if (inR nh h && inR np p && !isSt np P p) = true then nmNn nh nn P G N td h p.toNatClampNeg else nn))])), (aN, .inl (cI, 200 * 5, .inl (fl 5 (if (inR nh h && inR np p && !isSt np P p) = true then nmT nh nn P G N td h p.toNatClampNeg else N)))), (hB, .inr (3, [.int (nI 20), .int (nI 4), .ref aB, .int (nI nb)])), (aB, .inl (cI, 20 * 4, .inl (fl 4 B))), (hE, .inr (3, [.int (nI 200), .int (nI 6), .ref aE, .int (nI ne)])), (aE, .inl (cI, 200 * 6, .inl (fl 6 E)))]) 0 0 (adr [(o, .inr (4, [.ref pe, .ref hu, .ref na, .ref hB, .ref hE, .int td])), (pe, .inr (2, [.ref hP_])), (hP_, .inr (3, [.int (nI 24), .int (nI 6), .ref aP, .int (nI np)])), (aP, .inl (cI, 24 * 6, .inl (fl 6 P))), (hu, .inr (0, [.ref hH])), (hH, .inr (3, [.int (nI 5), .int (nI 6), .ref aH, .int (nI nh)])), (aH, .inl (cI, 5 * 6, .inl (fl 6 G))), (na, .inr (1, [.ref hN, .ref pe])), (hN, .inr (3, [.int (nI 200), .int (nI 5), .ref aN, .int (nI nn)])), (aN, .inl (cI, 200 * 5, .inl (fl 5 N))), (hB, .inr (3, [.int (nI 20), .int (nI 4), .ref aB, .int (nI nb)])), (aB, .inl (cI, 20 * 4, .inl (fl 4 B))), (hE, .inr (3, [.int (nI 200), .int (nI 6), .ref aE, .int (nI ne)])), (aE, .inl (cI, 200 * 6, .inl (fl 6 E)))]) := by
  refine mu_of (cc := cX4_name) (maxL := 3) (ret := (some .int)) (by decide) rfl (Nat.le_of_ble_eq_true rfl) ?_
  intro pp ee ss mm bw me cd ls hx hb hr hts hown hlocks hml hK hl H locs hP hD hS
  have hl : lv_has ls 3 [(0, .ref o), (1, .int h), (2, .int p)] := hl
  have hf19 := hts (.fieldLink RX4 19 "OtherNames" "houses" "LOtherNames$Houses;") (by decide +kernel)
  have hin4 := (show ∀ w ∈ wsX40, w ∈ wsX4_name by decide +kernel)
  have hf10 := hts (.fieldLink RX4 10 "OtherNames" "people" "LOtherNames$People;") (by decide +kernel)
  refine lv_aload_n hx hb dX4_name_0 rfl (lv_at hl 0 rfl) ?_
  refine va_get (D := D) (ci := 4) (v := .ref hu) (C := RX4) (T := TX4) (N := 6) hx hb hts hin4 hown hK hP 0 rfl rfl 1 (by decide) hf19 (fun _ h9 => h9) rfl dX4_name_1 ?_
  refine lv_iload_n hx hb dX4_name_4 rfl (lv_at hl 1 rfl) ?_
  refine rcV (As := [.int h]) (rest := []) (ci := 0) ⟨hx, hb, hml, hown, hts⟩ (kX0_isThere l D cI cZ hu hH aH nh G h (by first | assumption | omega)) (cwV 1 hts gX4_name_X0_isThere rfl rfl rfl (by decide +kernel) ⟨Nat.le_of_ble_eq_true rfl, Nat.le_of_ble_eq_true rfl⟩) hK hP [4, 5, 6] rfl rfl rfl rfl rfl hl.1 rfl (Nat.le_of_ble_eq_true rfl) ⟨Nat.zero_le _, Nat.zero_le _⟩ dX4_name_5 ?_
  refine lb_eq (tgt := 33) hx hb dX4_name_8 (by decide) (fun c_8 => ?_) (fun c_8 => ?_)
  · skip
    refine lv_iconst (v := (-1)) hx hb dX4_name_33 (by decide) ?_
    refine mu_iret hx hb hr hlocks hS dX4_name_34 ?_ ?_
    · rw [if_neg (by simp [c_8])]
    have q0 : (nI (if (inR nh h && inR np p && !isSt np P p) = true then nmNn nh nn P G N td h p.toNatClampNeg else nn)) = (nI nn) := by rw [if_neg (by simp [c_8])]
    have q1 : (fl 5 (if (inR nh h && inR np p && !isSt np P p) = true then nmT nh nn P G N td h p.toNatClampNeg else N)) = (fl 5 N) := by rw [if_neg (by simp [c_8])]
    rw [q0, q1]
    exact hP
  · skip
    refine lv_aload_n hx hb dX4_name_11 rfl (lv_at hl 0 rfl) ?_
    refine va_get (D := D) (ci := 4) (v := .ref pe) (C := RX4) (T := TX4) (N := 6) hx hb hts hin4 hown hK hP 0 rfl rfl 0 (by decide) hf10 (fun _ h9 => h9) rfl dX4_name_12 ?_
    refine lv_iload_n hx hb dX4_name_15 rfl (lv_at hl 2 rfl) ?_
    refine rcV (As := [.int p]) (rest := []) (ci := 2) ⟨hx, hb, hml, hown, hts⟩ (kX2_isThere l D cI cZ pe hP_ aP np P p (by first | assumption | omega)) (cwV 1 hts gX4_name_X2_isThere rfl rfl rfl (by decide +kernel) ⟨Nat.le_of_ble_eq_true rfl, Nat.le_of_ble_eq_true rfl⟩) hK hP [1, 2, 3] rfl rfl rfl rfl rfl hl.1 rfl (Nat.le_of_ble_eq_true rfl) ⟨Nat.zero_le _, Nat.zero_le _⟩ dX4_name_16 ?_
    refine lb_eq (tgt := 33) hx hb dX4_name_19 (by decide) (fun c_19 => ?_) (fun c_19 => ?_)
    · skip
      refine lv_iconst (v := (-1)) hx hb dX4_name_33 (by decide) ?_
      refine mu_iret hx hb hr hlocks hS dX4_name_34 ?_ ?_
      · rw [if_neg (by simp [c_8, c_19])]
      have q0 : (nI (if (inR nh h && inR np p && !isSt np P p) = true then nmNn nh nn P G N td h p.toNatClampNeg else nn)) = (nI nn) := by rw [if_neg (by simp [c_8, c_19])]
      have q1 : (fl 5 (if (inR nh h && inR np p && !isSt np P p) = true then nmT nh nn P G N td h p.toNatClampNeg else N)) = (fl 5 N) := by rw [if_neg (by simp [c_8, c_19])]
      rw [q0, q1]
      exact hP
    · skip
      obtain ⟨j, hj, rfl⟩ := inR_ex c_19 (by omega)
      refine lv_aload_n hx hb dX4_name_22 rfl (lv_at hl 0 rfl) ?_
      refine va_get (D := D) (ci := 4) (v := .ref pe) (C := RX4) (T := TX4) (N := 6) hx hb hts hin4 hown hK hP 0 rfl rfl 0 (by decide) hf10 (fun _ h9 => h9) rfl dX4_name_23 ?_
      refine lv_iload_n hx hb dX4_name_26 rfl (lv_at hl 2 rfl) ?_
      refine rcV (As := [.int ((nI j))]) (rest := []) (ci := 2) ⟨hx, hb, hml, hown, hts⟩ (kX2_isStruckOut l D cI cZ pe hP_ aP np P (nI j) (by first | assumption | omega)) (cwV 1 hts gX4_name_X2_isStruckOut rfl rfl rfl (by decide +kernel) ⟨Nat.le_of_ble_eq_true rfl, Nat.le_of_ble_eq_true rfl⟩) hK hP [1, 2, 3] rfl rfl rfl rfl rfl hl.1 rfl (Nat.le_of_ble_eq_true rfl) ⟨Nat.zero_le _, Nat.zero_le _⟩ dX4_name_27 ?_
      refine lb_eq (tgt := 35) hx hb dX4_name_30 (by decide) (fun c_30 => ?_) (fun c_30 => ?_)
      · skip
        refine lv_aload_n hx hb dX4_name_35 rfl (lv_at hl 0 rfl) ?_
        refine lv_iload_n hx hb dX4_name_36 rfl (lv_at hl 1 rfl) ?_
        refine lv_iload_n hx hb dX4_name_37 rfl (lv_at hl 2 rfl) ?_
        refine mcV (As := [.int h, .int ((nI j))]) (rest := []) (ci := 4) (wn := [(o, .inr (4, [.ref pe, .ref hu, .ref na, .ref hB, .ref hE, .int td])), (pe, .inr (2, [.ref hP_])), (hP_, .inr (3, [.int (nI 24), .int (nI 6), .ref aP, .int (nI np)])), (aP, .inl (cI, 24 * 6, .inl (fl 6 P))), (hu, .inr (0, [.ref hH])), (hH, .inr (3, [.int (nI 5), .int (nI 6), .ref aH, .int (nI nh)])), (aH, .inl (cI, 5 * 6, .inl (fl 6 G))), (na, .inr (1, [.ref hN, .ref pe])), (hN, .inr (3, [.int (nI 200), .int (nI 5), .ref aN, .int (nI (nmNn nh nn P G N td h j))])), (aN, .inl (cI, 200 * 5, .inl (fl 5 (nmT nh nn P G N td h j)))), (hB, .inr (3, [.int (nI 20), .int (nI 4), .ref aB, .int (nI nb)])), (aB, .inl (cI, 20 * 4, .inl (fl 4 B))), (hE, .inr (3, [.int (nI 200), .int (nI 6), .ref aE, .int (nI ne)])), (aE, .inl (cI, 200 * 6, .inl (fl 6 E)))]) ⟨hx, hb, hml, hown, hts⟩ (kX4_nameIn l D cI cZ o pe hP_ aP hu hH aH na hN aN hB aB hE aE np nh nn nb ne td P G N B E h j (by first | assumption | omega) (by first | assumption | omega) (by first | assumption | omega) (by first | assumption | omega) (by first | assumption | omega) (by first | assumption | omega) (by first | assumption | omega) (hj)) (cwV 2 hts gX4_name_X4_nameIn rfl rfl rfl (by decide +kernel) ⟨Nat.le_of_ble_eq_true rfl, Nat.le_of_ble_eq_true rfl⟩) hK hP hD hS [0, 1, 2, 3, 4, 5, 6, 7, 8, 9, 10, 11, 12, 13] rfl rfl rfl rfl rfl rfl rfl rfl rfl hl.1 rfl (Nat.le_of_ble_eq_true rfl) ⟨Nat.zero_le _, Nat.zero_le _⟩ dX4_name_38 (fun H locs hP hD hS => ?_)
        refine W.eq (g2 := F0 mm 41 ls (.int (nmR nh nn P G N td h j) :: [])) rfl ?_
        refine mu_iret hx hb hr hlocks hS dX4_name_41 ?_ ?_
        · rw [if_pos (by simp [c_8, c_19, c_30]), nI_clamp (by omega)]
        have q0 : (nI (if (inR nh h && inR np (nI j) && !isSt np P (nI j)) = true then nmNn nh nn P G N td h (nI j).toNatClampNeg else nn)) = (nI (nmNn nh nn P G N td h j)) := by rw [if_pos (by simp [c_8, c_19, c_30]), nI_clamp (by omega)]
        have q1 : (fl 5 (if (inR nh h && inR np (nI j) && !isSt np P (nI j)) = true then nmT nh nn P G N td h (nI j).toNatClampNeg else N)) = (fl 5 (nmT nh nn P G N td h j)) := by rw [if_pos (by simp [c_8, c_19, c_30]), nI_clamp (by omega)]
        rw [q0, q1]
        exact hP
      · skip
        refine lv_iconst (v := (-1)) hx hb dX4_name_33 (by decide) ?_
        refine mu_iret hx hb hr hlocks hS dX4_name_34 ?_ ?_
        · rw [if_neg (by simp [c_8, c_19, c_30])]
        have q0 : (nI (if (inR nh h && inR np (nI j) && !isSt np P (nI j)) = true then nmNn nh nn P G N td h (nI j).toNatClampNeg else nn)) = (nI nn) := by rw [if_neg (by simp [c_8, c_19, c_30])]
        have q1 : (fl 5 (if (inR nh h && inR np (nI j) && !isSt np P (nI j)) = true then nmT nh nn P G N td h (nI j).toNatClampNeg else N)) = (fl 5 N) := by rw [if_neg (by simp [c_8, c_19, c_30])]
        rw [q0, q1]
        exact hP
set_option maxHeartbeats 4000000 in
set_option maxRecDepth 100000 in
theorem kX4_joins (l : Launch) (D : va_G) (cI cZ : ClassId) (o pe hP_ aP hu hH aH na hN aN hB aB hE aE np nh nn nb ne : Nat) (td : Int32) (P G N B E : Nat → Nat → Int32) (h : Int32) (g : Int32) (set : Int32) (hnp : np ≤ 24) (hnh : nh ≤ 5) (hnn : nn ≤ 200) (hnb : nb ≤ 20) (hne : ne ≤ 200) (hw : HP np (P 4)) (ho : HO nn np N) : Met l yX4_joins wsX4_joins ({ frames := 5, cells := 0, slots := 0, locals := 115 } : Room) (RdP D [(cI, .int), (cZ, .boolean)] [.ref o, .int h, .int g, .int set] [(o, .inr (4, [.ref pe, .ref hu, .ref na, .ref hB, .ref hE, .int td])), (pe, .inr (2, [.ref hP_])), (hP_, .inr (3, [.int (nI 24), .int (nI 6), .ref aP, .int (nI np)])), (aP, .inl (cI, 24 * 6, .inl (fl 6 P))), (hu, .inr (0, [.ref hH])), (hH, .inr (3, [.int (nI 5), .int (nI 6), .ref aH, .int (nI nh)])), (aH, .inl (cI, 5 * 6, .inl (fl 6 G))), (na, .inr (1, [.ref hN, .ref pe])), (hN, .inr (3, [.int (nI 200), .int (nI 5), .ref aN, .int (nI nn)])), (aN, .inl (cI, 200 * 5, .inl (fl 5 N))), (hB, .inr (3, [.int (nI 20), .int (nI 4), .ref aB, .int (nI nb)])), (aB, .inl (cI, 20 * 4, .inl (fl 4 B))), (hE, .inr (3, [.int (nI 200), .int (nI 6), .ref aE, .int (nI ne)])), (aE, .inl (cI, 200 * 6, .inl (fl 6 E)))]) (QcRead (if (twoH nh h g && inB set 0 15) = true then nI (ct (jnB np P (knw np P N h nn) (knw np P N g nn) set) 24) else -1)) 0 0 (fun _ => False) := by
  refine rd_of (cc := cX4_joins) (maxL := 9) (ret := (some .int)) (by decide) rfl (Nat.le_of_ble_eq_true rfl) ?_
  intro pp ee ss mm bw me cd ls hx hb hr hts hown hlocks hml hP hK hl
  have hl : lv_has ls 9 [(0, .ref o), (1, .int h), (2, .int g), (3, .int set)] := hl
  have hf28 := hts (.fieldLink RX4 28 "OtherNames" "names" "LOtherNames$Names;") (by decide +kernel)
  have hin4 := (show ∀ w ∈ wsX40, w ∈ wsX4_joins by decide +kernel)
  have hf10 := hts (.fieldLink RX4 10 "OtherNames" "people" "LOtherNames$People;") (by decide +kernel)
  refine lv_aload_n hx hb dX4_joins_0 rfl (lv_at hl 0 rfl) ?_
  refine lv_iload_n hx hb dX4_joins_1 rfl (lv_at hl 1 rfl) ?_
  refine lv_iload_n hx hb dX4_joins_2 rfl (lv_at hl 2 rfl) ?_
  refine rcV (As := [.int h, .int g]) (rest := []) (ci := 4) ⟨hx, hb, hml, hown, hts⟩ (kX4_areTwoHouses l D cI cZ o pe hP_ aP hu hH aH na hN aN hB aB hE aE np nh nn nb ne td P G N B E h g (by first | assumption | omega) (by first | assumption | omega) (by first | assumption | omega) (by first | assumption | omega) (by first | assumption | omega) (by first | assumption | omega) (by first | assumption | omega)) (cwV 2 hts gX4_joins_X4_areTwoHouses rfl rfl rfl (by decide +kernel) ⟨Nat.le_of_ble_eq_true rfl, Nat.le_of_ble_eq_true rfl⟩) hK hP [0, 1, 2, 3, 4, 5, 6, 7, 8, 9, 10, 11, 12, 13] rfl rfl rfl rfl rfl hl.1 rfl (Nat.le_of_ble_eq_true rfl) ⟨Nat.zero_le _, Nat.zero_le _⟩ dX4_joins_3 ?_
  refine lb_eq (tgt := 16) hx hb dX4_joins_6 (by decide) (fun c_6 => ?_) (fun c_6 => ?_)
  · skip
    refine lv_iconst (v := (-1)) hx hb dX4_joins_16 (by decide) ?_
    exact rd_iret hx hb hr hlocks dX4_joins_17 (by simp [c_6])
  · skip
    refine lv_iload_n hx hb dX4_joins_9 rfl (lv_at hl 3 rfl) ?_
    refine rcS (As := [.int set]) (rest := []) ⟨hx, hb, hml, hown, hts⟩ (kX4_areMarks l D cI cZ set) (va_cwS 1 hts gX4_joins_X4_areMarks rfl rfl rfl (by decide +kernel) ⟨Nat.le_of_ble_eq_true rfl, Nat.le_of_ble_eq_true rfl⟩) hK hP [] rfl rfl hl.1 rfl (Nat.le_of_ble_eq_true rfl) ⟨Nat.zero_le _, Nat.zero_le _⟩ dX4_joins_10 ?_
    refine lb_ne (tgt := 18) hx hb dX4_joins_13 (by decide) (fun c_13 => ?_) (fun c_13 => ?_)
    · skip
      refine lv_aload_n hx hb dX4_joins_18 rfl (lv_at hl 0 rfl) ?_
      refine va_get (D := D) (ci := 4) (v := .ref na) (C := RX4) (T := TX4) (N := 6) hx hb hts hin4 hown hK hP 0 rfl rfl 2 (by decide) hf28 (fun _ h9 => h9) rfl dX4_joins_19 ?_
      refine lv_iload_n hx hb dX4_joins_22 rfl (lv_at hl 1 rfl) ?_
      refine rcV (As := [.int h]) (rest := []) (ci := 1) ⟨hx, hb, hml, hown, hts⟩ (kX1_knownTo l D cI cZ na hN aN nn N pe hP_ aP np P h (by first | assumption | omega) (by first | assumption | omega) (by first | assumption | omega) (by first | assumption | omega)) (cwV 1 hts gX4_joins_X1_knownTo rfl rfl rfl (by decide +kernel) ⟨Nat.le_of_ble_eq_true rfl, Nat.le_of_ble_eq_true rfl⟩) hK hP [7, 8, 9, 1, 2, 3] rfl rfl rfl rfl rfl hl.1 rfl (Nat.le_of_ble_eq_true rfl) ⟨Nat.zero_le _, Nat.zero_le _⟩ dX4_joins_23 ?_
      refine lv_istore (lv' := [(4, .int (knw np P N h nn)), (0, .ref o), (1, .int h), (2, .int g), (3, .int set)]) hx hb dX4_joins_26 hl (by decide) rfl (fun ls hl => ?_)
      refine lv_aload_n hx hb dX4_joins_28 rfl (lv_at hl 1 rfl) ?_
      refine va_get (D := D) (ci := 4) (v := .ref na) (C := RX4) (T := TX4) (N := 6) hx hb hts hin4 hown hK hP 0 rfl rfl 2 (by decide) hf28 (fun _ h9 => h9) rfl dX4_joins_29 ?_
      refine lv_iload_n hx hb dX4_joins_32 rfl (lv_at hl 3 rfl) ?_
      refine rcV (As := [.int g]) (rest := []) (ci := 1) ⟨hx, hb, hml, hown, hts⟩ (kX1_knownTo l D cI cZ na hN aN nn N pe hP_ aP np P g (by first | assumption | omega) (by first | assumption | omega) (by first | assumption | omega) (by first | assumption | omega)) (cwV 1 hts gX4_joins_X1_knownTo rfl rfl rfl (by decide +kernel) ⟨Nat.le_of_ble_eq_true rfl, Nat.le_of_ble_eq_true rfl⟩) hK hP [7, 8, 9, 1, 2, 3] rfl rfl rfl rfl rfl hl.1 rfl (Nat.le_of_ble_eq_true rfl) ⟨Nat.zero_le _, Nat.zero_le _⟩ dX4_joins_33 ?_
      refine lv_istore (lv' := [(5, .int (knw np P N g nn)), (4, .int (knw np P N h nn)), (0, .ref o), (1, .int h), (2, .int g), (3, .int set)]) hx hb dX4_joins_36 hl (by decide) rfl (fun ls hl => ?_)
      refine lv_iconst (v := 0) hx hb dX4_joins_38 (by decide) ?_
      refine lv_istore (lv' := [(6, .int 0), (5, .int (knw np P N g nn)), (4, .int (knw np P N h nn)), (0, .ref o), (1, .int h), (2, .int g), (3, .int set)]) hx hb dX4_joins_39 hl (by decide) rfl (fun ls hl => ?_)
      refine lv_iconst (v := 0) hx hb dX4_joins_41 (by decide) ?_
      refine lv_istore (lv' := [(7, .int 0), (6, .int 0), (5, .int (knw np P N g nn)), (4, .int (knw np P N h nn)), (0, .ref o), (1, .int h), (2, .int g), (3, .int set)]) hx hb dX4_joins_42 hl (by decide) rfl (fun ls hl => ?_)
      have loop : ∀ (k : Nat) (i : Nat) (ls : Array Slot), i ≤ 24 → 24 < i + k → lv_has ls 9 [(0, .ref o), (1, .int h), (2, .int g), (3, .int set), (4, .int (knw np P N h nn)), (5, .int (knw np P N g nn)), (6, .int (nI (ct (jnB np P (knw np P N h nn) (knw np P N g nn) set) i))), (7, .int (nI i))] → W pp l ee ({ frames := 5, cells := 0, slots := 0, locals := 115 } : Room) ss mm ([.ref o, .int h, .int g, .int set] : List Value).toArray bw me cd ss.heap [] 0 0 (MQ bw (QcRead (if (twoH nh h g && inB set 0 15) = true then nI (ct (jnB np P (knw np P N h nn) (knw np P N g nn) set) 24) else -1)) ([.ref o, .int h, .int g, .int set] : List Value).toArray ss 0 0 (fun _ => False)) (F0 mm 44 ls []) := by
        intro k
        induction k with
        | zero => intro i ls hi hk; exact absurd hk (by omega)
        | succ k ih =>
          intro i ls hi hk hl
          refine lv_iload hx hb dX4_joins_44 (lv_at hl 7 rfl) ?_
          refine lv_bipush (v := 24) hx hb dX4_joins_46 (by decide) ?_
          refine lv_icmp_ge (tgt := 104) hx hb dX4_joins_48 (by decide) (fun c_48 => ?_) (fun c_48 => ?_)
          · skip
            have hi2 : i = 24 := Nat.le_antisymm hi (lit_T c_48 24 rfl (by omega) (by omega))
            refine lv_iload hx hb dX4_joins_104 (lv_at hl 6 rfl) ?_
            exact rd_iret hx hb hr hlocks dX4_joins_106 (by rw [hi2, if_pos (by simp [c_6, c_13])])
          · skip
            have hi2 : i < 24 := lit_F c_48 24 rfl (by omega) (by omega)
            refine lv_aload_n hx hb dX4_joins_51 rfl (lv_at hl 0 rfl) ?_
            refine va_get (D := D) (ci := 4) (v := .ref pe) (C := RX4) (T := TX4) (N := 6) hx hb hts hin4 hown hK hP 0 rfl rfl 0 (by decide) hf10 (fun _ h9 => h9) rfl dX4_joins_52 ?_
            refine lv_iload hx hb dX4_joins_55 (lv_at hl 4 rfl) ?_
            refine lv_iload hx hb dX4_joins_57 (lv_at hl 7 rfl) ?_
            refine lv_iload_n hx hb dX4_joins_59 rfl (lv_at hl 3 rfl) ?_
            refine rcV (As := [.int (knw np P N h nn), .int (nI i), .int set]) (rest := []) (ci := 2) ⟨hx, hb, hml, hown, hts⟩ (kX2_groupSize l D cI cZ pe hP_ aP np P (knw np P N h nn) (nI i) set (by first | assumption | omega)) (cwV 3 hts gX4_joins_X2_groupSize rfl rfl rfl (by decide +kernel) ⟨Nat.le_of_ble_eq_true rfl, Nat.le_of_ble_eq_true rfl⟩) hK hP [1, 2, 3] rfl rfl rfl rfl rfl hl.1 rfl (Nat.le_of_ble_eq_true rfl) ⟨Nat.zero_le _, Nat.zero_le _⟩ dX4_joins_60 ?_
            refine lv_iconst (v := 1) hx hb dX4_joins_63 (by decide) ?_
            refine lv_icmp_ne (tgt := 87) hx hb dX4_joins_64 (by decide) (fun c_64 => ?_) (fun c_64 => ?_)
            · skip
              refine lv_iconst (v := 0) hx hb dX4_joins_87 (by decide) ?_
              refine lv_istore (lv' := [(8, .int 0), (0, .ref o), (1, .int h), (2, .int g), (3, .int set), (4, .int (knw np P N h nn)), (5, .int (knw np P N g nn)), (6, .int (nI (ct (jnB np P (knw np P N h nn) (knw np P N g nn) set) i))), (7, .int (nI i))]) hx hb dX4_joins_88 hl (by decide) rfl (fun ls hl => ?_)
              refine lv_iload hx hb dX4_joins_90 (lv_at hl 0 rfl) ?_
              refine lv_if_eq (tgt := 98) hx hb dX4_joins_92 (by decide) (fun _ => ?_) (fun c9 => absurd c9 (by decide))
              refine lv_iinc (v := (nI i) + 1) (lv' := [(7, .int (((nI i) + 1))), (8, .int 0), (0, .ref o), (1, .int h), (2, .int g), (3, .int set), (4, .int (knw np P N h nn)), (5, .int (knw np P N g nn)), (6, .int (nI (ct (jnB np P (knw np P N h nn) (knw np P N g nn) set) i)))]) hx hb dX4_joins_98 hl (k := 8) rfl rfl (by decide) rfl (fun ls hl => ?_)
              refine lv_goto (tgt := 44) hx hb dX4_joins_101 (by decide) ?_
              rw [nI_1 i] at hl
              rw [show nI (ct (jnB np P (knw np P N h nn) (knw np P N g nn) set) i) = nI (ct (jnB np P (knw np P N h nn) (knw np P N g nn) set) (i + 1)) by exact ct_no (by simp [jnB, c_6, c_13, c_48, c_64])] at hl
              exact ih (i + 1) ls (by omega) (by omega) (lv_sub hl [2, 3, 4, 5, 6, 7, 8, 0] rfl)
            · skip
              refine lv_aload_n hx hb dX4_joins_67 rfl (lv_at hl 0 rfl) ?_
              refine va_get (D := D) (ci := 4) (v := .ref pe) (C := RX4) (T := TX4) (N := 6) hx hb hts hin4 hown hK hP 0 rfl rfl 0 (by decide) hf10 (fun _ h9 => h9) rfl dX4_joins_68 ?_
              refine lv_iload hx hb dX4_joins_71 (lv_at hl 5 rfl) ?_
              refine lv_iload hx hb dX4_joins_73 (lv_at hl 7 rfl) ?_
              refine lv_iload_n hx hb dX4_joins_75 rfl (lv_at hl 3 rfl) ?_
              refine rcV (As := [.int (knw np P N g nn), .int (nI i), .int set]) (rest := []) (ci := 2) ⟨hx, hb, hml, hown, hts⟩ (kX2_groupSize l D cI cZ pe hP_ aP np P (knw np P N g nn) (nI i) set (by first | assumption | omega)) (cwV 3 hts gX4_joins_X2_groupSize rfl rfl rfl (by decide +kernel) ⟨Nat.le_of_ble_eq_true rfl, Nat.le_of_ble_eq_true rfl⟩) hK hP [1, 2, 3] rfl rfl rfl rfl rfl hl.1 rfl (Nat.le_of_ble_eq_true rfl) ⟨Nat.zero_le _, Nat.zero_le _⟩ dX4_joins_76 ?_
              refine lv_iconst (v := 1) hx hb dX4_joins_79 (by decide) ?_
              refine lv_icmp_ne (tgt := 87) hx hb dX4_joins_80 (by decide) (fun c_80 => ?_) (fun c_80 => ?_)
              · skip
                refine lv_iconst (v := 0) hx hb dX4_joins_87 (by decide) ?_
                refine lv_istore (lv' := [(8, .int 0), (0, .ref o), (1, .int h), (2, .int g), (3, .int set), (4, .int (knw np P N h nn)), (5, .int (knw np P N g nn)), (6, .int (nI (ct (jnB np P (knw np P N h nn) (knw np P N g nn) set) i))), (7, .int (nI i))]) hx hb dX4_joins_88 hl (by decide) rfl (fun ls hl => ?_)
                refine lv_iload hx hb dX4_joins_90 (lv_at hl 0 rfl) ?_
                refine lv_if_eq (tgt := 98) hx hb dX4_joins_92 (by decide) (fun _ => ?_) (fun c9 => absurd c9 (by decide))
                refine lv_iinc (v := (nI i) + 1) (lv' := [(7, .int (((nI i) + 1))), (8, .int 0), (0, .ref o), (1, .int h), (2, .int g), (3, .int set), (4, .int (knw np P N h nn)), (5, .int (knw np P N g nn)), (6, .int (nI (ct (jnB np P (knw np P N h nn) (knw np P N g nn) set) i)))]) hx hb dX4_joins_98 hl (k := 8) rfl rfl (by decide) rfl (fun ls hl => ?_)
                refine lv_goto (tgt := 44) hx hb dX4_joins_101 (by decide) ?_
                rw [nI_1 i] at hl
                rw [show nI (ct (jnB np P (knw np P N h nn) (knw np P N g nn) set) i) = nI (ct (jnB np P (knw np P N h nn) (knw np P N g nn) set) (i + 1)) by exact ct_no (by simp [jnB, c_6, c_13, c_48, c_64, c_80])] at hl
                exact ih (i + 1) ls (by omega) (by omega) (lv_sub hl [2, 3, 4, 5, 6, 7, 8, 0] rfl)
              · skip
                refine lv_iconst (v := 1) hx hb dX4_joins_83 (by decide) ?_
                refine lv_goto (tgt := 88) hx hb dX4_joins_84 (by decide) ?_
                refine lv_istore (lv' := [(8, .int 1), (0, .ref o), (1, .int h), (2, .int g), (3, .int set), (4, .int (knw np P N h nn)), (5, .int (knw np P N g nn)), (6, .int (nI (ct (jnB np P (knw np P N h nn) (knw np P N g nn) set) i))), (7, .int (nI i))]) hx hb dX4_joins_88 hl (by decide) rfl (fun ls hl => ?_)
                refine lv_iload hx hb dX4_joins_90 (lv_at hl 0 rfl) ?_
                refine lv_if_eq (tgt := 98) hx hb dX4_joins_92 (by decide) (fun c9 => absurd c9 (by decide)) (fun _ => ?_)
                refine lv_iinc (v := (nI (ct (jnB np P (knw np P N h nn) (knw np P N g nn) set) i)) + 1) (lv' := [(6, .int (((nI (ct (jnB np P (knw np P N h nn) (knw np P N g nn) set) i)) + 1))), (8, .int 1), (0, .ref o), (1, .int h), (2, .int g), (3, .int set), (4, .int (knw np P N h nn)), (5, .int (knw np P N g nn)), (7, .int (nI i))]) hx hb dX4_joins_95 hl (k := 7) rfl rfl (by decide) rfl (fun ls hl => ?_)
                refine lv_iinc (v := (nI i) + 1) (lv' := [(7, .int (((nI i) + 1))), (6, .int (((nI (ct (jnB np P (knw np P N h nn) (knw np P N g nn) set) i)) + 1))), (8, .int 1), (0, .ref o), (1, .int h), (2, .int g), (3, .int set), (4, .int (knw np P N h nn)), (5, .int (knw np P N g nn))]) hx hb dX4_joins_98 hl (k := 8) rfl rfl (by decide) rfl (fun ls hl => ?_)
                refine lv_goto (tgt := 44) hx hb dX4_joins_101 (by decide) ?_
                rw [nI_1 i] at hl
                rw [show ((nI (ct (jnB np P (knw np P N h nn) (knw np P N g nn) set) i)) + 1) = nI (ct (jnB np P (knw np P N h nn) (knw np P N g nn) set) (i + 1)) by exact ct_yes (by simp [jnB, c_6, c_13, c_48, c_64, c_80])] at hl
                exact ih (i + 1) ls (by omega) (by omega) (lv_sub hl [3, 4, 5, 6, 7, 8, 1, 0] rfl)
      exact loop 25 0 ls (by omega) (by omega) (lv_sub hl [4, 5, 6, 7, 3, 2, 1, 0] rfl)
    · skip
      refine lv_iconst (v := (-1)) hx hb dX4_joins_16 (by decide) ?_
      exact rd_iret hx hb hr hlocks dX4_joins_17 (by simp [c_6, c_13])
set_option maxHeartbeats 4000000 in
set_option maxRecDepth 100000 in
theorem kX4_least (l : Launch) (D : va_G) (cI cZ : ClassId) (o pe hP_ aP hu hH aH na hN aN hB aB hE aE np nh nn nb ne : Nat) (td : Int32) (P G N B E : Nat → Nat → Int32) (h : Int32) (set : Int32) (hnp : np ≤ 24) (hnh : nh ≤ 5) (hnn : nn ≤ 200) (hnb : nb ≤ 20) (hne : ne ≤ 200) (hw : HP np (P 4)) (ho : HO nn np N) : Met l yX4_least wsX4_least ({ frames := 5, cells := 0, slots := 0, locals := 115 } : Room) (RdP D [(cI, .int), (cZ, .boolean)] [.ref o, .int h, .int set] [(o, .inr (4, [.ref pe, .ref hu, .ref na, .ref hB, .ref hE, .int td])), (pe, .inr (2, [.ref hP_])), (hP_, .inr (3, [.int (nI 24), .int (nI 6), .ref aP, .int (nI np)])), (aP, .inl (cI, 24 * 6, .inl (fl 6 P))), (hu, .inr (0, [.ref hH])), (hH, .inr (3, [.int (nI 5), .int (nI 6), .ref aH, .int (nI nh)])), (aH, .inl (cI, 5 * 6, .inl (fl 6 G))), (na, .inr (1, [.ref hN, .ref pe])), (hN, .inr (3, [.int (nI 200), .int (nI 5), .ref aN, .int (nI nn)])), (aN, .inl (cI, 200 * 5, .inl (fl 5 N))), (hB, .inr (3, [.int (nI 20), .int (nI 4), .ref aB, .int (nI nb)])), (aB, .inl (cI, 20 * 4, .inl (fl 4 B))), (hE, .inr (3, [.int (nI 200), .int (nI 6), .ref aE, .int (nI ne)])), (aE, .inl (cI, 200 * 6, .inl (fl 6 E)))]) (QcRead (if (inR nh h && inB set 0 15) = true then lsF np P (knw np P N h nn) set 24 else -1)) 0 0 (fun _ => False) := by
  refine rd_of (cc := cX4_least) (maxL := 7) (ret := (some .int)) (by decide) rfl (Nat.le_of_ble_eq_true rfl) ?_
  intro pp ee ss mm bw me cd ls hx hb hr hts hown hlocks hml hP hK hl
  have hl : lv_has ls 7 [(0, .ref o), (1, .int h), (2, .int set)] := hl
  have hf19 := hts (.fieldLink RX4 19 "OtherNames" "houses" "LOtherNames$Houses;") (by decide +kernel)
  have hin4 := (show ∀ w ∈ wsX40, w ∈ wsX4_least by decide +kernel)
  have hf28 := hts (.fieldLink RX4 28 "OtherNames" "names" "LOtherNames$Names;") (by decide +kernel)
  have hf10 := hts (.fieldLink RX4 10 "OtherNames" "people" "LOtherNames$People;") (by decide +kernel)
  refine lv_aload_n hx hb dX4_least_0 rfl (lv_at hl 0 rfl) ?_
  refine va_get (D := D) (ci := 4) (v := .ref hu) (C := RX4) (T := TX4) (N := 6) hx hb hts hin4 hown hK hP 0 rfl rfl 1 (by decide) hf19 (fun _ h9 => h9) rfl dX4_least_1 ?_
  refine lv_iload_n hx hb dX4_least_4 rfl (lv_at hl 1 rfl) ?_
  refine rcV (As := [.int h]) (rest := []) (ci := 0) ⟨hx, hb, hml, hown, hts⟩ (kX0_isThere l D cI cZ hu hH aH nh G h (by first | assumption | omega)) (cwV 1 hts gX4_least_X0_isThere rfl rfl rfl (by decide +kernel) ⟨Nat.le_of_ble_eq_true rfl, Nat.le_of_ble_eq_true rfl⟩) hK hP [4, 5, 6] rfl rfl rfl rfl rfl hl.1 rfl (Nat.le_of_ble_eq_true rfl) ⟨Nat.zero_le _, Nat.zero_le _⟩ dX4_least_5 ?_
  refine lb_eq (tgt := 18) hx hb dX4_least_8 (by decide) (fun c_8 => ?_) (fun c_8 => ?_)
  · skip
    refine lv_iconst (v := (-1)) hx hb dX4_least_18 (by decide) ?_
    exact rd_iret hx hb hr hlocks dX4_least_19 (by simp [c_8])
  · skip
    refine lv_iload_n hx hb dX4_least_11 rfl (lv_at hl 2 rfl) ?_
    refine rcS (As := [.int set]) (rest := []) ⟨hx, hb, hml, hown, hts⟩ (kX4_areMarks l D cI cZ set) (va_cwS 1 hts gX4_least_X4_areMarks rfl rfl rfl (by decide +kernel) ⟨Nat.le_of_ble_eq_true rfl, Nat.le_of_ble_eq_true rfl⟩) hK hP [] rfl rfl hl.1 rfl (Nat.le_of_ble_eq_true rfl) ⟨Nat.zero_le _, Nat.zero_le _⟩ dX4_least_12 ?_
    refine lb_ne (tgt := 20) hx hb dX4_least_15 (by decide) (fun c_15 => ?_) (fun c_15 => ?_)
    · skip
      refine lv_aload_n hx hb dX4_least_20 rfl (lv_at hl 0 rfl) ?_
      refine va_get (D := D) (ci := 4) (v := .ref na) (C := RX4) (T := TX4) (N := 6) hx hb hts hin4 hown hK hP 0 rfl rfl 2 (by decide) hf28 (fun _ h9 => h9) rfl dX4_least_21 ?_
      refine lv_iload_n hx hb dX4_least_24 rfl (lv_at hl 1 rfl) ?_
      refine rcV (As := [.int h]) (rest := []) (ci := 1) ⟨hx, hb, hml, hown, hts⟩ (kX1_knownTo l D cI cZ na hN aN nn N pe hP_ aP np P h (by first | assumption | omega) (by first | assumption | omega) (by first | assumption | omega) (by first | assumption | omega)) (cwV 1 hts gX4_least_X1_knownTo rfl rfl rfl (by decide +kernel) ⟨Nat.le_of_ble_eq_true rfl, Nat.le_of_ble_eq_true rfl⟩) hK hP [7, 8, 9, 1, 2, 3] rfl rfl rfl rfl rfl hl.1 rfl (Nat.le_of_ble_eq_true rfl) ⟨Nat.zero_le _, Nat.zero_le _⟩ dX4_least_25 ?_
      refine lv_istore_n (lv' := [(3, .int (knw np P N h nn)), (0, .ref o), (1, .int h), (2, .int set)]) hx hb dX4_least_28 rfl hl (by decide) rfl (fun ls hl => ?_)
      refine lv_iload_n hx hb dX4_least_29 rfl (lv_at hl 0 rfl) ?_
      refine rcS (As := [.int (knw np P N h nn)]) (rest := []) ⟨hx, hb, hml, hown, hts⟩ (kJ6_bitCount_0f7a4 l D cI cZ (knw np P N h nn)) (va_cwS 1 hts gX4_least_J6_bitCount_0f7a4 rfl rfl rfl (by decide +kernel) ⟨Nat.le_of_ble_eq_true rfl, Nat.le_of_ble_eq_true rfl⟩) hK hP [] rfl rfl hl.1 rfl (Nat.le_of_ble_eq_true rfl) ⟨Nat.zero_le _, Nat.zero_le _⟩ dX4_least_30 ?_
      refine lv_istore (lv' := [(4, .int (bc (knw np P N h nn))), (3, .int (knw np P N h nn)), (0, .ref o), (1, .int h), (2, .int set)]) hx hb dX4_least_33 hl (by decide) rfl (fun ls hl => ?_)
      refine lv_iconst (v := 0) hx hb dX4_least_35 (by decide) ?_
      refine lv_istore (lv' := [(5, .int 0), (4, .int (bc (knw np P N h nn))), (3, .int (knw np P N h nn)), (0, .ref o), (1, .int h), (2, .int set)]) hx hb dX4_least_36 hl (by decide) rfl (fun ls hl => ?_)
      have loop : ∀ (k : Nat) (i : Nat) (ls : Array Slot), i ≤ 24 → 24 < i + k → lv_has ls 7 [(0, .ref o), (1, .int h), (2, .int set), (3, .int (knw np P N h nn)), (4, .int (lsF np P (knw np P N h nn) set i)), (5, .int (nI i))] → W pp l ee ({ frames := 5, cells := 0, slots := 0, locals := 115 } : Room) ss mm ([.ref o, .int h, .int set] : List Value).toArray bw me cd ss.heap [] 0 0 (MQ bw (QcRead (if (inR nh h && inB set 0 15) = true then lsF np P (knw np P N h nn) set 24 else -1)) ([.ref o, .int h, .int set] : List Value).toArray ss 0 0 (fun _ => False)) (F0 mm 38 ls []) := by
        intro k
        induction k with
        | zero => intro i ls hi hk; exact absurd hk (by omega)
        | succ k ih =>
          intro i ls hi hk hl
          refine lv_iload hx hb dX4_least_38 (lv_at hl 5 rfl) ?_
          refine lv_bipush (v := 24) hx hb dX4_least_40 (by decide) ?_
          refine lv_icmp_ge (tgt := 80) hx hb dX4_least_42 (by decide) (fun c_42 => ?_) (fun c_42 => ?_)
          · skip
            have hi2 : i = 24 := Nat.le_antisymm hi (lit_T c_42 24 rfl (by omega) (by omega))
            refine lv_iload hx hb dX4_least_80 (lv_at hl 4 rfl) ?_
            exact rd_iret hx hb hr hlocks dX4_least_82 (by rw [hi2, if_pos (by simp [c_8, c_15])])
          · skip
            have hi2 : i < 24 := lit_F c_42 24 rfl (by omega) (by omega)
            refine lv_aload_n hx hb dX4_least_45 rfl (lv_at hl 0 rfl) ?_
            refine va_get (D := D) (ci := 4) (v := .ref pe) (C := RX4) (T := TX4) (N := 6) hx hb hts hin4 hown hK hP 0 rfl rfl 0 (by decide) hf10 (fun _ h9 => h9) rfl dX4_least_46 ?_
            refine lv_iload_n hx hb dX4_least_49 rfl (lv_at hl 3 rfl) ?_
            refine lv_iload hx hb dX4_least_50 (lv_at hl 5 rfl) ?_
            refine lv_iload_n hx hb dX4_least_52 rfl (lv_at hl 2 rfl) ?_
            refine rcV (As := [.int (knw np P N h nn), .int (nI i), .int set]) (rest := []) (ci := 2) ⟨hx, hb, hml, hown, hts⟩ (kX2_groupSize l D cI cZ pe hP_ aP np P (knw np P N h nn) (nI i) set (by first | assumption | omega)) (cwV 3 hts gX4_least_X2_groupSize rfl rfl rfl (by decide +kernel) ⟨Nat.le_of_ble_eq_true rfl, Nat.le_of_ble_eq_true rfl⟩) hK hP [1, 2, 3] rfl rfl rfl rfl rfl hl.1 rfl (Nat.le_of_ble_eq_true rfl) ⟨Nat.zero_le _, Nat.zero_le _⟩ dX4_least_53 ?_
            refine lv_istore (lv' := [(6, .int (gsz np P (knw np P N h nn) (nI i) set)), (0, .ref o), (1, .int h), (2, .int set), (3, .int (knw np P N h nn)), (4, .int (lsF np P (knw np P N h nn) set i)), (5, .int (nI i))]) hx hb dX4_least_56 hl (by decide) rfl (fun ls hl => ?_)
            refine lv_iload hx hb dX4_least_58 (lv_at hl 0 rfl) ?_
            refine lv_if_eq (tgt := 74) hx hb dX4_least_60 (by decide) (fun c_60 => ?_) (fun c_60 => ?_)
            · skip
              refine lv_iinc (v := (nI i) + 1) (lv' := [(5, .int (((nI i) + 1))), (6, .int (gsz np P (knw np P N h nn) (nI i) set)), (0, .ref o), (1, .int h), (2, .int set), (3, .int (knw np P N h nn)), (4, .int (lsF np P (knw np P N h nn) set i))]) hx hb dX4_least_74 hl (k := 6) rfl rfl (by decide) rfl (fun ls hl => ?_)
              refine lv_goto (tgt := 38) hx hb dX4_least_77 (by decide) ?_
              rw [nI_1 i] at hl
              rw [show lsF np P (knw np P N h nn) set i = lsF np P (knw np P N h nn) set (i + 1) by rw [lsF, if_neg (fun q => q.1 c_60)]] at hl
              exact ih (i + 1) ls (by omega) (by omega) (lv_sub hl [2, 3, 4, 5, 6, 0] rfl)
            · skip
              refine lv_iload hx hb dX4_least_63 (lv_at hl 0 rfl) ?_
              refine lv_iload hx hb dX4_least_65 (lv_at hl 5 rfl) ?_
              refine lv_icmp_ge (tgt := 74) hx hb dX4_least_67 (by decide) (fun c_67 => ?_) (fun c_67 => ?_)
              · skip
                refine lv_iinc (v := (nI i) + 1) (lv' := [(5, .int (((nI i) + 1))), (6, .int (gsz np P (knw np P N h nn) (nI i) set)), (0, .ref o), (1, .int h), (2, .int set), (3, .int (knw np P N h nn)), (4, .int (lsF np P (knw np P N h nn) set i))]) hx hb dX4_least_74 hl (k := 6) rfl rfl (by decide) rfl (fun ls hl => ?_)
                refine lv_goto (tgt := 38) hx hb dX4_least_77 (by decide) ?_
                rw [nI_1 i] at hl
                rw [show lsF np P (knw np P N h nn) set i = lsF np P (knw np P N h nn) set (i + 1) by rw [lsF, if_neg (fun q => q.2 c_67)]] at hl
                exact ih (i + 1) ls (by omega) (by omega) (lv_sub hl [2, 3, 4, 5, 6, 0] rfl)
              · skip
                refine lv_iload hx hb dX4_least_70 (lv_at hl 0 rfl) ?_
                refine lv_istore (lv' := [(4, .int (gsz np P (knw np P N h nn) (nI i) set)), (6, .int (gsz np P (knw np P N h nn) (nI i) set)), (0, .ref o), (1, .int h), (2, .int set), (3, .int (knw np P N h nn)), (5, .int (nI i))]) hx hb dX4_least_72 hl (by decide) rfl (fun ls hl => ?_)
                refine lv_iinc (v := (nI i) + 1) (lv' := [(5, .int (((nI i) + 1))), (4, .int (gsz np P (knw np P N h nn) (nI i) set)), (6, .int (gsz np P (knw np P N h nn) (nI i) set)), (0, .ref o), (1, .int h), (2, .int set), (3, .int (knw np P N h nn))]) hx hb dX4_least_74 hl (k := 6) rfl rfl (by decide) rfl (fun ls hl => ?_)
                refine lv_goto (tgt := 38) hx hb dX4_least_77 (by decide) ?_
                rw [nI_1 i] at hl
                rw [show gsz np P (knw np P N h nn) (nI i) set = lsF np P (knw np P N h nn) set (i + 1) by rw [lsF, if_pos ⟨c_60, c_67⟩]] at hl
                exact ih (i + 1) ls (by omega) (by omega) (lv_sub hl [3, 4, 5, 6, 1, 0] rfl)
      exact loop 25 0 ls (by omega) (by omega) (lv_sub hl [3, 4, 5, 2, 1, 0] rfl)
    · skip
      refine lv_iconst (v := (-1)) hx hb dX4_least_18 (by decide) ?_
      exact rd_iret hx hb hr hlocks dX4_least_19 (by simp [c_8, c_15])
set_option maxHeartbeats 4000000 in
set_option maxRecDepth 100000 in
theorem kX4_count (l : Launch) (D : va_G) (cI cZ : ClassId) (o pe hP_ aP hu hH aH na hN aN hB aB hE aE np nh nn nb ne : Nat) (td : Int32) (P G N B E : Nat → Nat → Int32) (h : Int32) (m : Int32) (n : Int32) (hnp : np ≤ 24) (hnh : nh ≤ 5) (hnn : nn ≤ 200) (hnb : nb ≤ 20) (hne : ne ≤ 200) (hw : HP np (P 4)) (ho : HO nn np N) : Met l yX4_count wsX4_count ({ frames := 4, cells := 0, slots := 0, locals := 91 } : Room) (RdP D [(cI, .int), (cZ, .boolean)] [.ref o, .int h, .int m, .int n] [(o, .inr (4, [.ref pe, .ref hu, .ref na, .ref hB, .ref hE, .int td])), (pe, .inr (2, [.ref hP_])), (hP_, .inr (3, [.int (nI 24), .int (nI 6), .ref aP, .int (nI np)])), (aP, .inl (cI, 24 * 6, .inl (fl 6 P))), (hu, .inr (0, [.ref hH])), (hH, .inr (3, [.int (nI 5), .int (nI 6), .ref aH, .int (nI nh)])), (aH, .inl (cI, 5 * 6, .inl (fl 6 G))), (na, .inr (1, [.ref hN, .ref pe])), (hN, .inr (3, [.int (nI 200), .int (nI 5), .ref aN, .int (nI nn)])), (aN, .inl (cI, 200 * 5, .inl (fl 5 N))), (hB, .inr (3, [.int (nI 20), .int (nI 4), .ref aB, .int (nI nb)])), (aB, .inl (cI, 20 * 4, .inl (fl 4 B))), (hE, .inr (3, [.int (nI 200), .int (nI 6), .ref aE, .int (nI ne)])), (aE, .inl (cI, 200 * 6, .inl (fl 6 E)))]) (QcRead (if (inR nh h && inB m 0 3 && inB n 0 7) = true then (if (smlB nh G h (hvI np P (knw np P N h nn) m n) || smlB nh G h (bc (knw np P N h nn) - hvI np P (knw np P N h nn) m n)) = true then -2 else hvI np P (knw np P N h nn) m n) else -1)) 0 0 (fun _ => False) := by
  refine rd_of (cc := cX4_count) (maxL := 7) (ret := (some .int)) (by decide) rfl (Nat.le_of_ble_eq_true rfl) ?_
  intro pp ee ss mm bw me cd ls hx hb hr hts hown hlocks hml hP hK hl
  have hl : lv_has ls 7 [(0, .ref o), (1, .int h), (2, .int m), (3, .int n)] := hl
  have hf19 := hts (.fieldLink RX4 19 "OtherNames" "houses" "LOtherNames$Houses;") (by decide +kernel)
  have hin4 := (show ∀ w ∈ wsX40, w ∈ wsX4_count by decide +kernel)
  have hf28 := hts (.fieldLink RX4 28 "OtherNames" "names" "LOtherNames$Names;") (by decide +kernel)
  have hf10 := hts (.fieldLink RX4 10 "OtherNames" "people" "LOtherNames$People;") (by decide +kernel)
  refine lv_aload_n hx hb dX4_count_0 rfl (lv_at hl 0 rfl) ?_
  refine va_get (D := D) (ci := 4) (v := .ref hu) (C := RX4) (T := TX4) (N := 6) hx hb hts hin4 hown hK hP 0 rfl rfl 1 (by decide) hf19 (fun _ h9 => h9) rfl dX4_count_1 ?_
  refine lv_iload_n hx hb dX4_count_4 rfl (lv_at hl 1 rfl) ?_
  refine rcV (As := [.int h]) (rest := []) (ci := 0) ⟨hx, hb, hml, hown, hts⟩ (kX0_isThere l D cI cZ hu hH aH nh G h (by first | assumption | omega)) (cwV 1 hts gX4_count_X0_isThere rfl rfl rfl (by decide +kernel) ⟨Nat.le_of_ble_eq_true rfl, Nat.le_of_ble_eq_true rfl⟩) hK hP [4, 5, 6] rfl rfl rfl rfl rfl hl.1 rfl (Nat.le_of_ble_eq_true rfl) ⟨Nat.zero_le _, Nat.zero_le _⟩ dX4_count_5 ?_
  refine lb_eq (tgt := 25) hx hb dX4_count_8 (by decide) (fun c_8 => ?_) (fun c_8 => ?_)
  · skip
    refine lv_iconst (v := (-1)) hx hb dX4_count_25 (by decide) ?_
    exact rd_iret hx hb hr hlocks dX4_count_26 (by simp [c_8])
  · skip
    refine lv_iload_n hx hb dX4_count_11 rfl (lv_at hl 2 rfl) ?_
    refine rcS (As := [.int m]) (rest := []) ⟨hx, hb, hml, hown, hts⟩ (kX2_isMark l D cI cZ m) (va_cwS 1 hts gX4_count_X2_isMark rfl rfl rfl (by decide +kernel) ⟨Nat.le_of_ble_eq_true rfl, Nat.le_of_ble_eq_true rfl⟩) hK hP [] rfl rfl hl.1 rfl (Nat.le_of_ble_eq_true rfl) ⟨Nat.zero_le _, Nat.zero_le _⟩ dX4_count_12 ?_
    refine lb_eq (tgt := 25) hx hb dX4_count_15 (by decide) (fun c_15 => ?_) (fun c_15 => ?_)
    · skip
      refine lv_iconst (v := (-1)) hx hb dX4_count_25 (by decide) ?_
      exact rd_iret hx hb hr hlocks dX4_count_26 (by simp [c_8, c_15])
    · skip
      refine lv_iload_n hx hb dX4_count_18 rfl (lv_at hl 3 rfl) ?_
      refine rcS (As := [.int n]) (rest := []) ⟨hx, hb, hml, hown, hts⟩ (kX2_isMarkNumber l D cI cZ n) (va_cwS 1 hts gX4_count_X2_isMarkNumber rfl rfl rfl (by decide +kernel) ⟨Nat.le_of_ble_eq_true rfl, Nat.le_of_ble_eq_true rfl⟩) hK hP [] rfl rfl hl.1 rfl (Nat.le_of_ble_eq_true rfl) ⟨Nat.zero_le _, Nat.zero_le _⟩ dX4_count_19 ?_
      refine lb_ne (tgt := 27) hx hb dX4_count_22 (by decide) (fun c_22 => ?_) (fun c_22 => ?_)
      · skip
        refine lv_aload_n hx hb dX4_count_27 rfl (lv_at hl 0 rfl) ?_
        refine va_get (D := D) (ci := 4) (v := .ref na) (C := RX4) (T := TX4) (N := 6) hx hb hts hin4 hown hK hP 0 rfl rfl 2 (by decide) hf28 (fun _ h9 => h9) rfl dX4_count_28 ?_
        refine lv_iload_n hx hb dX4_count_31 rfl (lv_at hl 1 rfl) ?_
        refine rcV (As := [.int h]) (rest := []) (ci := 1) ⟨hx, hb, hml, hown, hts⟩ (kX1_knownTo l D cI cZ na hN aN nn N pe hP_ aP np P h (by first | assumption | omega) (by first | assumption | omega) (by first | assumption | omega) (by first | assumption | omega)) (cwV 1 hts gX4_count_X1_knownTo rfl rfl rfl (by decide +kernel) ⟨Nat.le_of_ble_eq_true rfl, Nat.le_of_ble_eq_true rfl⟩) hK hP [7, 8, 9, 1, 2, 3] rfl rfl rfl rfl rfl hl.1 rfl (Nat.le_of_ble_eq_true rfl) ⟨Nat.zero_le _, Nat.zero_le _⟩ dX4_count_32 ?_
        refine lv_istore (lv' := [(4, .int (knw np P N h nn)), (0, .ref o), (1, .int h), (2, .int m), (3, .int n)]) hx hb dX4_count_35 hl (by decide) rfl (fun ls hl => ?_)
        refine lv_aload_n hx hb dX4_count_37 rfl (lv_at hl 1 rfl) ?_
        refine va_get (D := D) (ci := 4) (v := .ref pe) (C := RX4) (T := TX4) (N := 6) hx hb hts hin4 hown hK hP 0 rfl rfl 0 (by decide) hf10 (fun _ h9 => h9) rfl dX4_count_38 ?_
        refine lv_iload hx hb dX4_count_41 (lv_at hl 0 rfl) ?_
        refine lv_iload_n hx hb dX4_count_43 rfl (lv_at hl 3 rfl) ?_
        refine lv_iload_n hx hb dX4_count_44 rfl (lv_at hl 4 rfl) ?_
        refine rcV (As := [.int (knw np P N h nn), .int m, .int n]) (rest := []) (ci := 2) ⟨hx, hb, hml, hown, hts⟩ (kX2_countHaving l D cI cZ pe hP_ aP np P (knw np P N h nn) m n (by first | assumption | omega)) (cwV 3 hts gX4_count_X2_countHaving rfl rfl rfl (by decide +kernel) ⟨Nat.le_of_ble_eq_true rfl, Nat.le_of_ble_eq_true rfl⟩) hK hP [1, 2, 3] rfl rfl rfl rfl rfl hl.1 rfl (Nat.le_of_ble_eq_true rfl) ⟨Nat.zero_le _, Nat.zero_le _⟩ dX4_count_45 ?_
        rw [show nI (ct (fun p => isAm (knw np P N h nn) (nI p) && decide (mkOf np P (nI p) m = n)) 24) = (hvI np P (knw np P N h nn) m n) from rfl]
        refine lv_istore (lv' := [(5, .int ((hvI np P (knw np P N h nn) m n))), (4, .int (knw np P N h nn)), (0, .ref o), (1, .int h), (2, .int m), (3, .int n)]) hx hb dX4_count_48 hl (by decide) rfl (fun ls hl => ?_)
        refine lv_iload hx hb dX4_count_50 (lv_at hl 1 rfl) ?_
        refine rcS (As := [.int (knw np P N h nn)]) (rest := []) ⟨hx, hb, hml, hown, hts⟩ (kJ6_bitCount_0f7a4 l D cI cZ (knw np P N h nn)) (va_cwS 1 hts gX4_count_J6_bitCount_0f7a4 rfl rfl rfl (by decide +kernel) ⟨Nat.le_of_ble_eq_true rfl, Nat.le_of_ble_eq_true rfl⟩) hK hP [] rfl rfl hl.1 rfl (Nat.le_of_ble_eq_true rfl) ⟨Nat.zero_le _, Nat.zero_le _⟩ dX4_count_52 ?_
        refine lv_iload hx hb dX4_count_55 (lv_at hl 0 rfl) ?_
        refine lv_isub hx hb dX4_count_57 ?_
        refine lv_istore (lv' := [(6, .int (((bc (knw np P N h nn)) - (hvI np P (knw np P N h nn) m n)))), (5, .int ((hvI np P (knw np P N h nn) m n))), (4, .int (knw np P N h nn)), (0, .ref o), (1, .int h), (2, .int m), (3, .int n)]) hx hb dX4_count_58 hl (by decide) rfl (fun ls hl => ?_)
        refine lv_aload_n hx hb dX4_count_60 rfl (lv_at hl 3 rfl) ?_
        refine lv_iload_n hx hb dX4_count_61 rfl (lv_at hl 4 rfl) ?_
        refine lv_iload hx hb dX4_count_62 (lv_at hl 1 rfl) ?_
        refine rcV (As := [.int h, .int ((hvI np P (knw np P N h nn) m n))]) (rest := []) (ci := 4) ⟨hx, hb, hml, hown, hts⟩ (kX4_isTooSmall l D cI cZ o pe hP_ aP hu hH aH na hN aN hB aB hE aE np nh nn nb ne td P G N B E h (hvI np P (knw np P N h nn) m n) (by first | assumption | omega) (by first | assumption | omega) (by first | assumption | omega) (by first | assumption | omega) (by first | assumption | omega) (by first | assumption | omega) (by first | assumption | omega)) (cwV 2 hts gX4_count_X4_isTooSmall rfl rfl rfl (by decide +kernel) ⟨Nat.le_of_ble_eq_true rfl, Nat.le_of_ble_eq_true rfl⟩) hK hP [0, 1, 2, 3, 4, 5, 6, 7, 8, 9, 10, 11, 12, 13] rfl rfl rfl rfl rfl hl.1 rfl (Nat.le_of_ble_eq_true rfl) ⟨Nat.zero_le _, Nat.zero_le _⟩ dX4_count_64 ?_
        refine lb_ne (tgt := 80) hx hb dX4_count_67 (by decide) (fun c_67 => ?_) (fun c_67 => ?_)
        · skip
          refine lv_bipush (v := (-2)) hx hb dX4_count_80 (by decide) ?_
          exact rd_iret hx hb hr hlocks dX4_count_82 (by simp [c_8, c_15, c_22, c_67])
        · skip
          refine lv_aload_n hx hb dX4_count_70 rfl (lv_at hl 3 rfl) ?_
          refine lv_iload_n hx hb dX4_count_71 rfl (lv_at hl 4 rfl) ?_
          refine lv_iload hx hb dX4_count_72 (lv_at hl 0 rfl) ?_
          refine rcV (As := [.int h, .int (((bc (knw np P N h nn)) - (hvI np P (knw np P N h nn) m n)))]) (rest := []) (ci := 4) ⟨hx, hb, hml, hown, hts⟩ (kX4_isTooSmall l D cI cZ o pe hP_ aP hu hH aH na hN aN hB aB hE aE np nh nn nb ne td P G N B E h ((bc (knw np P N h nn)) - (hvI np P (knw np P N h nn) m n)) (by first | assumption | omega) (by first | assumption | omega) (by first | assumption | omega) (by first | assumption | omega) (by first | assumption | omega) (by first | assumption | omega) (by first | assumption | omega)) (cwV 2 hts gX4_count_X4_isTooSmall rfl rfl rfl (by decide +kernel) ⟨Nat.le_of_ble_eq_true rfl, Nat.le_of_ble_eq_true rfl⟩) hK hP [0, 1, 2, 3, 4, 5, 6, 7, 8, 9, 10, 11, 12, 13] rfl rfl rfl rfl rfl hl.1 rfl (Nat.le_of_ble_eq_true rfl) ⟨Nat.zero_le _, Nat.zero_le _⟩ dX4_count_74 ?_
          refine lb_eq (tgt := 83) hx hb dX4_count_77 (by decide) (fun c_77 => ?_) (fun c_77 => ?_)
          · skip
            refine lv_iload hx hb dX4_count_83 (lv_at hl 1 rfl) ?_
            exact rd_iret hx hb hr hlocks dX4_count_85 (by simp [c_8, c_15, c_22, c_67, c_77])
          · skip
            refine lv_bipush (v := (-2)) hx hb dX4_count_80 (by decide) ?_
            exact rd_iret hx hb hr hlocks dX4_count_82 (by simp [c_8, c_15, c_22, c_67, c_77])
      · skip
        refine lv_iconst (v := (-1)) hx hb dX4_count_25 (by decide) ?_
        exact rd_iret hx hb hr hlocks dX4_count_26 (by simp [c_8, c_15, c_22])
set_option maxHeartbeats 4000000 in
set_option maxRecDepth 100000 in
theorem kX4_tellOfHouse (l : Launch) (D : va_G) (cI cZ : ClassId) (o pe hP_ aP hu hH aH na hN aN hB aB hE aE np nh nn nb ne : Nat) (td : Int32) (P G N B E : Nat → Nat → Int32) (w : Int32) (h : Int32) (hnp : np ≤ 24) (hnh : nh ≤ 5) (hnn : nn ≤ 200) (hnb : nb ≤ 20) (hne : ne ≤ 200) (hw : HP np (P 4)) (ho : HO nn np N) : Met l yX4_tellOfHouse wsX4_tellOfHouse ({ frames := 4, cells := 0, slots := 0, locals := 91 } : Room) (RdP D [(cI, .int), (cZ, .boolean)] [.ref o, .int w, .int h] [(o, .inr (4, [.ref pe, .ref hu, .ref na, .ref hB, .ref hE, .int td])), (pe, .inr (2, [.ref hP_])), (hP_, .inr (3, [.int (nI 24), .int (nI 6), .ref aP, .int (nI np)])), (aP, .inl (cI, 24 * 6, .inl (fl 6 P))), (hu, .inr (0, [.ref hH])), (hH, .inr (3, [.int (nI 5), .int (nI 6), .ref aH, .int (nI nh)])), (aH, .inl (cI, 5 * 6, .inl (fl 6 G))), (na, .inr (1, [.ref hN, .ref pe])), (hN, .inr (3, [.int (nI 200), .int (nI 5), .ref aN, .int (nI nn)])), (aN, .inl (cI, 200 * 5, .inl (fl 5 N))), (hB, .inr (3, [.int (nI 20), .int (nI 4), .ref aB, .int (nI nb)])), (aB, .inl (cI, 20 * 4, .inl (fl 4 B))), (hE, .inr (3, [.int (nI 200), .int (nI 6), .ref aE, .int (nI ne)])), (aE, .inl (cI, 200 * 6, .inl (fl 6 E)))]) (QcRead (tlH np nh nn P G N w h)) 0 0 (fun _ => False) := by
  refine rd_of (cc := cX4_tellOfHouse) (maxL := 3) (ret := (some .int)) (by decide) rfl (Nat.le_of_ble_eq_true rfl) ?_
  intro pp ee ss mm bw me cd ls hx hb hr hts hown hlocks hml hP hK hl
  have hl : lv_has ls 3 [(0, .ref o), (1, .int w), (2, .int h)] := hl
  have hf19 := hts (.fieldLink RX4 19 "OtherNames" "houses" "LOtherNames$Houses;") (by decide +kernel)
  have hin4 := (show ∀ w ∈ wsX40, w ∈ wsX4_tellOfHouse by decide +kernel)
  have hf28 := hts (.fieldLink RX4 28 "OtherNames" "names" "LOtherNames$Names;") (by decide +kernel)
  refine lv_aload_n hx hb dX4_tellOfHouse_0 rfl (lv_at hl 0 rfl) ?_
  refine va_get (D := D) (ci := 4) (v := .ref hu) (C := RX4) (T := TX4) (N := 6) hx hb hts hin4 hown hK hP 0 rfl rfl 1 (by decide) hf19 (fun _ h9 => h9) rfl dX4_tellOfHouse_1 ?_
  refine lv_iload_n hx hb dX4_tellOfHouse_4 rfl (lv_at hl 2 rfl) ?_
  refine rcV (As := [.int h]) (rest := []) (ci := 0) ⟨hx, hb, hml, hown, hts⟩ (kX0_isThere l D cI cZ hu hH aH nh G h (by first | assumption | omega)) (cwV 1 hts gX4_tellOfHouse_X0_isThere rfl rfl rfl (by decide +kernel) ⟨Nat.le_of_ble_eq_true rfl, Nat.le_of_ble_eq_true rfl⟩) hK hP [4, 5, 6] rfl rfl rfl rfl rfl hl.1 rfl (Nat.le_of_ble_eq_true rfl) ⟨Nat.zero_le _, Nat.zero_le _⟩ dX4_tellOfHouse_5 ?_
  refine lb_ne (tgt := 13) hx hb dX4_tellOfHouse_8 (by decide) (fun c_8 => ?_) (fun c_8 => ?_)
  · skip
    refine lv_iload_n hx hb dX4_tellOfHouse_13 rfl (lv_at hl 1 rfl) ?_
    rcases Classical.em (w = 1) with c_14 | c_14_1
    · skip
      refine lv_tableIn (tgt := 40) hx hb dX4_tellOfHouse_14 (by rw [c_14]; decide) (by rw [c_14]; decide) (by rw [c_14]; rfl) (by decide) ?_
      refine lv_aload_n hx hb dX4_tellOfHouse_40 rfl (lv_at hl 0 rfl) ?_
      refine va_get (D := D) (ci := 4) (v := .ref na) (C := RX4) (T := TX4) (N := 6) hx hb hts hin4 hown hK hP 0 rfl rfl 2 (by decide) hf28 (fun _ h9 => h9) rfl dX4_tellOfHouse_41 ?_
      refine lv_iload_n hx hb dX4_tellOfHouse_44 rfl (lv_at hl 2 rfl) ?_
      refine rcV (As := [.int h]) (rest := []) (ci := 1) ⟨hx, hb, hml, hown, hts⟩ (kX1_countGivenBy l D cI cZ na hN aN nn N pe hP_ aP np P h (by first | assumption | omega) (by first | assumption | omega)) (cwV 1 hts gX4_tellOfHouse_X1_countGivenBy rfl rfl rfl (by decide +kernel) ⟨Nat.le_of_ble_eq_true rfl, Nat.le_of_ble_eq_true rfl⟩) hK hP [7, 8, 9, 1, 2, 3] rfl rfl rfl rfl rfl hl.1 rfl (Nat.le_of_ble_eq_true rfl) ⟨Nat.zero_le _, Nat.zero_le _⟩ dX4_tellOfHouse_45 ?_
      exact rd_iret hx hb hr hlocks dX4_tellOfHouse_48 (by simp [tlH, c_8, c_14])
    rcases Classical.em (w = 2) with c_14 | c_14_2
    · skip
      refine lv_tableIn (tgt := 49) hx hb dX4_tellOfHouse_14 (by rw [c_14]; decide) (by rw [c_14]; decide) (by rw [c_14]; rfl) (by decide) ?_
      refine lv_aload_n hx hb dX4_tellOfHouse_49 rfl (lv_at hl 0 rfl) ?_
      refine va_get (D := D) (ci := 4) (v := .ref na) (C := RX4) (T := TX4) (N := 6) hx hb hts hin4 hown hK hP 0 rfl rfl 2 (by decide) hf28 (fun _ h9 => h9) rfl dX4_tellOfHouse_50 ?_
      refine lv_iload_n hx hb dX4_tellOfHouse_53 rfl (lv_at hl 2 rfl) ?_
      refine rcV (As := [.int h]) (rest := []) (ci := 1) ⟨hx, hb, hml, hown, hts⟩ (kX1_knownTo l D cI cZ na hN aN nn N pe hP_ aP np P h (by first | assumption | omega) (by first | assumption | omega) (by first | assumption | omega) (by first | assumption | omega)) (cwV 1 hts gX4_tellOfHouse_X1_knownTo rfl rfl rfl (by decide +kernel) ⟨Nat.le_of_ble_eq_true rfl, Nat.le_of_ble_eq_true rfl⟩) hK hP [7, 8, 9, 1, 2, 3] rfl rfl rfl rfl rfl hl.1 rfl (Nat.le_of_ble_eq_true rfl) ⟨Nat.zero_le _, Nat.zero_le _⟩ dX4_tellOfHouse_54 ?_
      refine rcS (As := [.int (knw np P N h nn)]) (rest := []) ⟨hx, hb, hml, hown, hts⟩ (kJ6_bitCount_0f7a4 l D cI cZ (knw np P N h nn)) (va_cwS 1 hts gX4_tellOfHouse_J6_bitCount_0f7a4 rfl rfl rfl (by decide +kernel) ⟨Nat.le_of_ble_eq_true rfl, Nat.le_of_ble_eq_true rfl⟩) hK hP [] rfl rfl hl.1 rfl (Nat.le_of_ble_eq_true rfl) ⟨Nat.zero_le _, Nat.zero_le _⟩ dX4_tellOfHouse_57 ?_
      exact rd_iret hx hb hr hlocks dX4_tellOfHouse_60 (by simp [tlH, c_8, c_14])
    rcases Classical.em (w = 3) with c_14 | c_14_3
    · skip
      refine lv_tableIn (tgt := 61) hx hb dX4_tellOfHouse_14 (by rw [c_14]; decide) (by rw [c_14]; decide) (by rw [c_14]; rfl) (by decide) ?_
      refine lv_aload_n hx hb dX4_tellOfHouse_61 rfl (lv_at hl 0 rfl) ?_
      refine va_get (D := D) (ci := 4) (v := .ref hu) (C := RX4) (T := TX4) (N := 6) hx hb hts hin4 hown hK hP 0 rfl rfl 1 (by decide) hf19 (fun _ h9 => h9) rfl dX4_tellOfHouse_62 ?_
      refine lv_iload_n hx hb dX4_tellOfHouse_65 rfl (lv_at hl 2 rfl) ?_
      refine rcV (As := [.int h]) (rest := []) (ci := 0) ⟨hx, hb, hml, hown, hts⟩ (kX0_isLost l D cI cZ hu hH aH nh G h (by first | assumption | omega)) (cwV 1 hts gX4_tellOfHouse_X0_isLost rfl rfl rfl (by decide +kernel) ⟨Nat.le_of_ble_eq_true rfl, Nat.le_of_ble_eq_true rfl⟩) hK hP [4, 5, 6] rfl rfl rfl rfl rfl hl.1 rfl (Nat.le_of_ble_eq_true rfl) ⟨Nat.zero_le _, Nat.zero_le _⟩ dX4_tellOfHouse_66 ?_
      refine rcS (As := [.int (bI (decide (tat nh 6 G h 5 = 1)))]) (rest := []) ⟨hx, hb, hml, hown, hts⟩ (kX4_oneIf l D cI cZ (decide (tat nh 6 G h 5 = 1))) (va_cwS 1 hts gX4_tellOfHouse_X4_oneIf rfl rfl rfl (by decide +kernel) ⟨Nat.le_of_ble_eq_true rfl, Nat.le_of_ble_eq_true rfl⟩) hK hP [] rfl rfl hl.1 rfl (Nat.le_of_ble_eq_true rfl) ⟨Nat.zero_le _, Nat.zero_le _⟩ dX4_tellOfHouse_69 ?_
      exact rd_iret hx hb hr hlocks dX4_tellOfHouse_72 (by simp [tlH, c_8, c_14])
    refine lv_tableOut (tgt := 73) hx hb dX4_tellOfHouse_14 (by have g1 := lv_neT (a := 1) c_14_1 (by decide); have g2 := lv_neT (a := 2) c_14_2 (by decide); have g3 := lv_neT (a := 3) c_14_3 (by decide); omega) (by decide) ?_
    refine lv_iconst (v := (-1)) hx hb dX4_tellOfHouse_73 (by decide) ?_
    exact rd_iret hx hb hr hlocks dX4_tellOfHouse_74 (by simp [tlH, c_8, c_14_1, c_14_2, c_14_3])
  · skip
    refine lv_iconst (v := (-1)) hx hb dX4_tellOfHouse_11 (by decide) ?_
    exact rd_iret hx hb hr hlocks dX4_tellOfHouse_12 (by simp [tlH, c_8])
set_option maxHeartbeats 4000000 in
set_option maxRecDepth 100000 in
theorem kX4_tell (l : Launch) (D : va_G) (cI cZ : ClassId) (o pe hP_ aP hu hH aH na hN aN hB aB hE aE np nh nn nb ne : Nat) (td : Int32) (P G N B E : Nat → Nat → Int32) (w : Int32) (hnp : np ≤ 24) (hnh : nh ≤ 5) (hnn : nn ≤ 200) (hnb : nb ≤ 20) (hne : ne ≤ 200) (hw : HP np (P 4)) (ho : HO nn np N) : Met l yX4_tell wsX4_tell ({ frames := 5, cells := 0, slots := 0, locals := 113 } : Room) (RdP D [(cI, .int), (cZ, .boolean)] [.ref o, .int w] [(o, .inr (4, [.ref pe, .ref hu, .ref na, .ref hB, .ref hE, .int td])), (pe, .inr (2, [.ref hP_])), (hP_, .inr (3, [.int (nI 24), .int (nI 6), .ref aP, .int (nI np)])), (aP, .inl (cI, 24 * 6, .inl (fl 6 P))), (hu, .inr (0, [.ref hH])), (hH, .inr (3, [.int (nI 5), .int (nI 6), .ref aH, .int (nI nh)])), (aH, .inl (cI, 5 * 6, .inl (fl 6 G))), (na, .inr (1, [.ref hN, .ref pe])), (hN, .inr (3, [.int (nI 200), .int (nI 5), .ref aN, .int (nI nn)])), (aN, .inl (cI, 200 * 5, .inl (fl 5 N))), (hB, .inr (3, [.int (nI 20), .int (nI 4), .ref aB, .int (nI nb)])), (aB, .inl (cI, 20 * 4, .inl (fl 4 B))), (hE, .inr (3, [.int (nI 200), .int (nI 6), .ref aE, .int (nI ne)])), (aE, .inl (cI, 200 * 6, .inl (fl 6 E)))]) (QcRead (tlR np nh nn nb ne td P G N w)) 0 0 (fun _ => False) := by
  refine rd_of (cc := cX4_tell) (maxL := 2) (ret := (some .int)) (by decide) rfl (Nat.le_of_ble_eq_true rfl) ?_
  intro pp ee ss mm bw me cd ls hx hb hr hts hown hlocks hml hP hK hl
  have hl : lv_has ls 2 [(0, .ref o), (1, .int w)] := hl
  have hf10 := hts (.fieldLink RX4 10 "OtherNames" "people" "LOtherNames$People;") (by decide +kernel)
  have hin4 := (show ∀ w ∈ wsX40, w ∈ wsX4_tell by decide +kernel)
  have hf19 := hts (.fieldLink RX4 19 "OtherNames" "houses" "LOtherNames$Houses;") (by decide +kernel)
  have hf44 := hts (.fieldLink RX4 44 "OtherNames" "today" "I") (by decide +kernel)
  have hf28 := hts (.fieldLink RX4 28 "OtherNames" "names" "LOtherNames$Names;") (by decide +kernel)
  have hf41 := hts (.fieldLink RX4 41 "OtherNames" "entries" "LOtherNames$Rows;") (by decide +kernel)
  have hf37 := hts (.fieldLink RX4 37 "OtherNames" "bridges" "LOtherNames$Rows;") (by decide +kernel)
  refine lv_iload_n hx hb dX4_tell_0 rfl (lv_at hl 1 rfl) ?_
  rcases Classical.em (w = 0) with c_1 | c_1_0
  · skip
    refine lv_tableIn (tgt := 40) hx hb dX4_tell_1 (by rw [c_1]; decide) (by rw [c_1]; decide) (by rw [c_1]; rfl) (by decide) ?_
    refine lv_aload_n hx hb dX4_tell_40 rfl (lv_at hl 0 rfl) ?_
    refine va_get (D := D) (ci := 4) (v := .ref pe) (C := RX4) (T := TX4) (N := 6) hx hb hts hin4 hown hK hP 0 rfl rfl 0 (by decide) hf10 (fun _ h9 => h9) rfl dX4_tell_41 ?_
    refine rcV (As := []) (rest := []) (ci := 2) ⟨hx, hb, hml, hown, hts⟩ (kX2_size l D cI cZ pe hP_ aP np P (by first | assumption | omega)) (cwV 0 hts gX4_tell_X2_size rfl rfl rfl (by decide +kernel) ⟨Nat.le_of_ble_eq_true rfl, Nat.le_of_ble_eq_true rfl⟩) hK hP [1, 2, 3] rfl rfl rfl rfl rfl hl.1 rfl (Nat.le_of_ble_eq_true rfl) ⟨Nat.zero_le _, Nat.zero_le _⟩ dX4_tell_44 ?_
    exact rd_iret hx hb hr hlocks dX4_tell_47 (by simp [tlR, c_1])
  rcases Classical.em (w = 1) with c_1 | c_1_1
  · skip
    refine lv_tableIn (tgt := 48) hx hb dX4_tell_1 (by rw [c_1]; decide) (by rw [c_1]; decide) (by rw [c_1]; rfl) (by decide) ?_
    refine lv_aload_n hx hb dX4_tell_48 rfl (lv_at hl 0 rfl) ?_
    refine va_get (D := D) (ci := 4) (v := .ref hu) (C := RX4) (T := TX4) (N := 6) hx hb hts hin4 hown hK hP 0 rfl rfl 1 (by decide) hf19 (fun _ h9 => h9) rfl dX4_tell_49 ?_
    refine rcV (As := []) (rest := []) (ci := 0) ⟨hx, hb, hml, hown, hts⟩ (kX0_size l D cI cZ hu hH aH nh G (by first | assumption | omega)) (cwV 0 hts gX4_tell_X0_size rfl rfl rfl (by decide +kernel) ⟨Nat.le_of_ble_eq_true rfl, Nat.le_of_ble_eq_true rfl⟩) hK hP [4, 5, 6] rfl rfl rfl rfl rfl hl.1 rfl (Nat.le_of_ble_eq_true rfl) ⟨Nat.zero_le _, Nat.zero_le _⟩ dX4_tell_52 ?_
    exact rd_iret hx hb hr hlocks dX4_tell_55 (by simp [tlR, c_1])
  rcases Classical.em (w = 2) with c_1 | c_1_2
  · skip
    refine lv_tableIn (tgt := 56) hx hb dX4_tell_1 (by rw [c_1]; decide) (by rw [c_1]; decide) (by rw [c_1]; rfl) (by decide) ?_
    refine lv_aload_n hx hb dX4_tell_56 rfl (lv_at hl 0 rfl) ?_
    refine va_get (D := D) (ci := 4) (v := .int td) (C := RX4) (T := TX4) (N := 6) hx hb hts hin4 hown hK hP 0 rfl rfl 5 (by decide) hf44 (fun _ h9 => h9) rfl dX4_tell_57 ?_
    exact rd_iret hx hb hr hlocks dX4_tell_60 (by simp [tlR, c_1])
  rcases Classical.em (w = 3) with c_1 | c_1_3
  · skip
    refine lv_tableIn (tgt := 61) hx hb dX4_tell_1 (by rw [c_1]; decide) (by rw [c_1]; decide) (by rw [c_1]; rfl) (by decide) ?_
    refine lv_aload_n hx hb dX4_tell_61 rfl (lv_at hl 0 rfl) ?_
    refine va_get (D := D) (ci := 4) (v := .ref na) (C := RX4) (T := TX4) (N := 6) hx hb hts hin4 hown hK hP 0 rfl rfl 2 (by decide) hf28 (fun _ h9 => h9) rfl dX4_tell_62 ?_
    refine rcV (As := []) (rest := []) (ci := 1) ⟨hx, hb, hml, hown, hts⟩ (kX1_size l D cI cZ na hN aN nn N pe hP_ aP np P (by first | assumption | omega) (by first | assumption | omega)) (cwV 0 hts gX4_tell_X1_size rfl rfl rfl (by decide +kernel) ⟨Nat.le_of_ble_eq_true rfl, Nat.le_of_ble_eq_true rfl⟩) hK hP [7, 8, 9, 1, 2, 3] rfl rfl rfl rfl rfl hl.1 rfl (Nat.le_of_ble_eq_true rfl) ⟨Nat.zero_le _, Nat.zero_le _⟩ dX4_tell_65 ?_
    exact rd_iret hx hb hr hlocks dX4_tell_68 (by simp [tlR, c_1])
  rcases Classical.em (w = 4) with c_1 | c_1_4
  · skip
    refine lv_tableIn (tgt := 69) hx hb dX4_tell_1 (by rw [c_1]; decide) (by rw [c_1]; decide) (by rw [c_1]; rfl) (by decide) ?_
    refine lv_aload_n hx hb dX4_tell_69 rfl (lv_at hl 0 rfl) ?_
    refine va_get (D := D) (ci := 4) (v := .ref hE) (C := RX4) (T := TX4) (N := 6) hx hb hts hin4 hown hK hP 0 rfl rfl 4 (by decide) hf41 (fun _ h9 => h9) rfl dX4_tell_70 ?_
    refine rcV (As := []) (rest := []) (ci := 3) ⟨hx, hb, hml, hown, hts⟩ (kX3_size l D cI cZ hE aE 200 6 ne E (by first | assumption | omega)) (cwV 0 hts gX4_tell_X3_size rfl rfl rfl (by decide +kernel) ⟨Nat.le_of_ble_eq_true rfl, Nat.le_of_ble_eq_true rfl⟩) hK hP [12, 13] rfl rfl rfl rfl rfl hl.1 rfl (Nat.le_of_ble_eq_true rfl) ⟨Nat.zero_le _, Nat.zero_le _⟩ dX4_tell_73 ?_
    exact rd_iret hx hb hr hlocks dX4_tell_76 (by simp [tlR, c_1])
  rcases Classical.em (w = 5) with c_1 | c_1_5
  · skip
    refine lv_tableIn (tgt := 77) hx hb dX4_tell_1 (by rw [c_1]; decide) (by rw [c_1]; decide) (by rw [c_1]; rfl) (by decide) ?_
    refine lv_aload_n hx hb dX4_tell_77 rfl (lv_at hl 0 rfl) ?_
    refine va_get (D := D) (ci := 4) (v := .ref hB) (C := RX4) (T := TX4) (N := 6) hx hb hts hin4 hown hK hP 0 rfl rfl 3 (by decide) hf37 (fun _ h9 => h9) rfl dX4_tell_78 ?_
    refine rcV (As := []) (rest := []) (ci := 3) ⟨hx, hb, hml, hown, hts⟩ (kX3_size l D cI cZ hB aB 20 4 nb B (by first | assumption | omega)) (cwV 0 hts gX4_tell_X3_size rfl rfl rfl (by decide +kernel) ⟨Nat.le_of_ble_eq_true rfl, Nat.le_of_ble_eq_true rfl⟩) hK hP [10, 11] rfl rfl rfl rfl rfl hl.1 rfl (Nat.le_of_ble_eq_true rfl) ⟨Nat.zero_le _, Nat.zero_le _⟩ dX4_tell_81 ?_
    exact rd_iret hx hb hr hlocks dX4_tell_84 (by simp [tlR, c_1])
  refine lv_tableOut (tgt := 85) hx hb dX4_tell_1 (by have g0 := lv_neT (a := 0) c_1_0 (by decide); have g1 := lv_neT (a := 1) c_1_1 (by decide); have g2 := lv_neT (a := 2) c_1_2 (by decide); have g3 := lv_neT (a := 3) c_1_3 (by decide); have g4 := lv_neT (a := 4) c_1_4 (by decide); have g5 := lv_neT (a := 5) c_1_5 (by decide); omega) (by decide) ?_
  refine lv_aload_n hx hb dX4_tell_85 rfl (lv_at hl 0 rfl) ?_
  refine lv_iload_n hx hb dX4_tell_86 rfl (lv_at hl 1 rfl) ?_
  refine lv_bipush (v := 10) hx hb dX4_tell_87 (by decide) ?_
  refine lv_idiv hx hb dX4_tell_89 (by decide) ?_
  refine lv_iload_n hx hb dX4_tell_90 rfl (lv_at hl 1 rfl) ?_
  refine lv_bipush (v := 10) hx hb dX4_tell_91 (by decide) ?_
  refine lv_irem hx hb dX4_tell_93 (by decide) ?_
  refine rcV (As := [.int ((w / 10)), .int ((w - w / 10 * 10))]) (rest := []) (ci := 4) ⟨hx, hb, hml, hown, hts⟩ (kX4_tellOfHouse l D cI cZ o pe hP_ aP hu hH aH na hN aN hB aB hE aE np nh nn nb ne td P G N B E (w / 10) (w - w / 10 * 10) (by first | assumption | omega) (by first | assumption | omega) (by first | assumption | omega) (by first | assumption | omega) (by first | assumption | omega) (by first | assumption | omega) (by first | assumption | omega)) (cwV 2 hts gX4_tell_X4_tellOfHouse rfl rfl rfl (by decide +kernel) ⟨Nat.le_of_ble_eq_true rfl, Nat.le_of_ble_eq_true rfl⟩) hK hP [0, 1, 2, 3, 4, 5, 6, 7, 8, 9, 10, 11, 12, 13] rfl rfl rfl rfl rfl hl.1 rfl (Nat.le_of_ble_eq_true rfl) ⟨Nat.zero_le _, Nat.zero_le _⟩ dX4_tell_94 ?_
  exact rd_iret hx hb hr hlocks dX4_tell_97 (by simp only [tlR, if_neg c_1_0, if_neg c_1_1, if_neg c_1_2, if_neg c_1_3, if_neg c_1_4, if_neg c_1_5]; rfl)
set_option maxHeartbeats 4000000 in
set_option maxRecDepth 100000 in
theorem kX4_look (l : Launch) (D : va_G) (cI cZ : ClassId) (o pe hP_ aP hu hH aH na hN aN hB aB hE aE np nh nn nb ne : Nat) (td : Int32) (P G N B E : Nat → Nat → Int32) (p : Int32) (w : Int32) (hnp : np ≤ 24) (hnh : nh ≤ 5) (hnn : nn ≤ 200) (hnb : nb ≤ 20) (hne : ne ≤ 200) (hw : HP np (P 4)) (ho : HO nn np N) : Met l yX4_look wsX4_look ({ frames := 4, cells := 0, slots := 0, locals := 89 } : Room) (RdP D [(cI, .int), (cZ, .boolean)] [.ref o, .int p, .int w] [(o, .inr (4, [.ref pe, .ref hu, .ref na, .ref hB, .ref hE, .int td])), (pe, .inr (2, [.ref hP_])), (hP_, .inr (3, [.int (nI 24), .int (nI 6), .ref aP, .int (nI np)])), (aP, .inl (cI, 24 * 6, .inl (fl 6 P))), (hu, .inr (0, [.ref hH])), (hH, .inr (3, [.int (nI 5), .int (nI 6), .ref aH, .int (nI nh)])), (aH, .inl (cI, 5 * 6, .inl (fl 6 G))), (na, .inr (1, [.ref hN, .ref pe])), (hN, .inr (3, [.int (nI 200), .int (nI 5), .ref aN, .int (nI nn)])), (aN, .inl (cI, 200 * 5, .inl (fl 5 N))), (hB, .inr (3, [.int (nI 20), .int (nI 4), .ref aB, .int (nI nb)])), (aB, .inl (cI, 20 * 4, .inl (fl 4 B))), (hE, .inr (3, [.int (nI 200), .int (nI 6), .ref aE, .int (nI ne)])), (aE, .inl (cI, 200 * 6, .inl (fl 6 E)))]) (QcRead (lkR np nn P N p w)) 0 0 (fun _ => False) := by
  refine rd_of (cc := cX4_look) (maxL := 3) (ret := (some .int)) (by decide) rfl (Nat.le_of_ble_eq_true rfl) ?_
  intro pp ee ss mm bw me cd ls hx hb hr hts hown hlocks hml hP hK hl
  have hl : lv_has ls 3 [(0, .ref o), (1, .int p), (2, .int w)] := hl
  have hf10 := hts (.fieldLink RX4 10 "OtherNames" "people" "LOtherNames$People;") (by decide +kernel)
  have hin4 := (show ∀ w ∈ wsX40, w ∈ wsX4_look by decide +kernel)
  have hf28 := hts (.fieldLink RX4 28 "OtherNames" "names" "LOtherNames$Names;") (by decide +kernel)
  refine lv_aload_n hx hb dX4_look_0 rfl (lv_at hl 0 rfl) ?_
  refine va_get (D := D) (ci := 4) (v := .ref pe) (C := RX4) (T := TX4) (N := 6) hx hb hts hin4 hown hK hP 0 rfl rfl 0 (by decide) hf10 (fun _ h9 => h9) rfl dX4_look_1 ?_
  refine lv_iload_n hx hb dX4_look_4 rfl (lv_at hl 1 rfl) ?_
  refine rcV (As := [.int p]) (rest := []) (ci := 2) ⟨hx, hb, hml, hown, hts⟩ (kX2_isThere l D cI cZ pe hP_ aP np P p (by first | assumption | omega)) (cwV 1 hts gX4_look_X2_isThere rfl rfl rfl (by decide +kernel) ⟨Nat.le_of_ble_eq_true rfl, Nat.le_of_ble_eq_true rfl⟩) hK hP [1, 2, 3] rfl rfl rfl rfl rfl hl.1 rfl (Nat.le_of_ble_eq_true rfl) ⟨Nat.zero_le _, Nat.zero_le _⟩ dX4_look_5 ?_
  refine lb_ne (tgt := 13) hx hb dX4_look_8 (by decide) (fun c_8 => ?_) (fun c_8 => ?_)
  · skip
    obtain ⟨j, hj, rfl⟩ := inR_ex c_8 (by omega)
    refine lv_iload_n hx hb dX4_look_13 rfl (lv_at hl 2 rfl) ?_
    rcases Classical.em (w = 0) with c_14 | c_14_0
    · skip
      refine lv_tableIn (tgt := 44) hx hb dX4_look_14 (by rw [c_14]; decide) (by rw [c_14]; decide) (by rw [c_14]; rfl) (by decide) ?_
      refine lv_aload_n hx hb dX4_look_44 rfl (lv_at hl 0 rfl) ?_
      refine va_get (D := D) (ci := 4) (v := .ref pe) (C := RX4) (T := TX4) (N := 6) hx hb hts hin4 hown hK hP 0 rfl rfl 0 (by decide) hf10 (fun _ h9 => h9) rfl dX4_look_45 ?_
      refine lv_iload_n hx hb dX4_look_48 rfl (lv_at hl 1 rfl) ?_
      refine rcV (As := [.int ((nI j))]) (rest := []) (ci := 2) ⟨hx, hb, hml, hown, hts⟩ (kX2_headOf l D cI cZ pe hP_ aP np P j (by first | assumption | omega) (by first | assumption | omega) (hj)) (cwV 1 hts gX4_look_X2_headOf rfl rfl rfl (by decide +kernel) ⟨Nat.le_of_ble_eq_true rfl, Nat.le_of_ble_eq_true rfl⟩) hK hP [1, 2, 3] rfl rfl rfl rfl rfl hl.1 rfl (Nat.le_of_ble_eq_true rfl) ⟨Nat.zero_le _, Nat.zero_le _⟩ dX4_look_49 ?_
      exact rd_iret hx hb hr hlocks dX4_look_52 (by simp [lkR, nI_clamp (show j < 2 ^ 31 by omega), c_8, c_14])
    rcases Classical.em (w = 1) with c_14 | c_14_1
    · skip
      refine lv_tableIn (tgt := 53) hx hb dX4_look_14 (by rw [c_14]; decide) (by rw [c_14]; decide) (by rw [c_14]; rfl) (by decide) ?_
      refine lv_aload_n hx hb dX4_look_53 rfl (lv_at hl 0 rfl) ?_
      refine va_get (D := D) (ci := 4) (v := .ref pe) (C := RX4) (T := TX4) (N := 6) hx hb hts hin4 hown hK hP 0 rfl rfl 0 (by decide) hf10 (fun _ h9 => h9) rfl dX4_look_54 ?_
      refine lv_iload_n hx hb dX4_look_57 rfl (lv_at hl 1 rfl) ?_
      refine rcV (As := [.int ((nI j))]) (rest := []) (ci := 2) ⟨hx, hb, hml, hown, hts⟩ (kX2_holderOf l D cI cZ pe hP_ aP np P (nI j) (by first | assumption | omega)) (cwV 1 hts gX4_look_X2_holderOf rfl rfl rfl (by decide +kernel) ⟨Nat.le_of_ble_eq_true rfl, Nat.le_of_ble_eq_true rfl⟩) hK hP [1, 2, 3] rfl rfl rfl rfl rfl hl.1 rfl (Nat.le_of_ble_eq_true rfl) ⟨Nat.zero_le _, Nat.zero_le _⟩ dX4_look_58 ?_
      exact rd_iret hx hb hr hlocks dX4_look_61 (by simp [lkR, nI_clamp (show j < 2 ^ 31 by omega), c_8, c_14])
    rcases Classical.em (w = 2) with c_14 | c_14_2
    · skip
      refine lv_tableIn (tgt := 62) hx hb dX4_look_14 (by rw [c_14]; decide) (by rw [c_14]; decide) (by rw [c_14]; rfl) (by decide) ?_
      refine lv_aload_n hx hb dX4_look_62 rfl (lv_at hl 0 rfl) ?_
      refine va_get (D := D) (ci := 4) (v := .ref pe) (C := RX4) (T := TX4) (N := 6) hx hb hts hin4 hown hK hP 0 rfl rfl 0 (by decide) hf10 (fun _ h9 => h9) rfl dX4_look_63 ?_
      refine lv_iload_n hx hb dX4_look_66 rfl (lv_at hl 1 rfl) ?_
      refine rcV (As := [.int ((nI j))]) (rest := []) (ci := 2) ⟨hx, hb, hml, hown, hts⟩ (kX2_isStruckOut l D cI cZ pe hP_ aP np P (nI j) (by first | assumption | omega)) (cwV 1 hts gX4_look_X2_isStruckOut rfl rfl rfl (by decide +kernel) ⟨Nat.le_of_ble_eq_true rfl, Nat.le_of_ble_eq_true rfl⟩) hK hP [1, 2, 3] rfl rfl rfl rfl rfl hl.1 rfl (Nat.le_of_ble_eq_true rfl) ⟨Nat.zero_le _, Nat.zero_le _⟩ dX4_look_67 ?_
      refine rcS (As := [.int (bI (isSt np P (nI j)))]) (rest := []) ⟨hx, hb, hml, hown, hts⟩ (kX4_oneIf l D cI cZ (isSt np P (nI j))) (va_cwS 1 hts gX4_look_X4_oneIf rfl rfl rfl (by decide +kernel) ⟨Nat.le_of_ble_eq_true rfl, Nat.le_of_ble_eq_true rfl⟩) hK hP [] rfl rfl hl.1 rfl (Nat.le_of_ble_eq_true rfl) ⟨Nat.zero_le _, Nat.zero_le _⟩ dX4_look_70 ?_
      exact rd_iret hx hb hr hlocks dX4_look_73 (by simp [lkR, nI_clamp (show j < 2 ^ 31 by omega), c_8, c_14])
    rcases Classical.em (w = 3) with c_14 | c_14_3
    · skip
      refine lv_tableIn (tgt := 74) hx hb dX4_look_14 (by rw [c_14]; decide) (by rw [c_14]; decide) (by rw [c_14]; rfl) (by decide) ?_
      refine lv_aload_n hx hb dX4_look_74 rfl (lv_at hl 0 rfl) ?_
      refine va_get (D := D) (ci := 4) (v := .ref na) (C := RX4) (T := TX4) (N := 6) hx hb hts hin4 hown hK hP 0 rfl rfl 2 (by decide) hf28 (fun _ h9 => h9) rfl dX4_look_75 ?_
      refine lv_iload_n hx hb dX4_look_78 rfl (lv_at hl 1 rfl) ?_
      refine rcV (As := [.int ((nI j))]) (rest := []) (ci := 1) ⟨hx, hb, hml, hown, hts⟩ (kX1_countOwnedBy l D cI cZ na hN aN nn N pe hP_ aP np P (nI j) (by first | assumption | omega) (by first | assumption | omega)) (cwV 1 hts gX4_look_X1_countOwnedBy rfl rfl rfl (by decide +kernel) ⟨Nat.le_of_ble_eq_true rfl, Nat.le_of_ble_eq_true rfl⟩) hK hP [7, 8, 9, 1, 2, 3] rfl rfl rfl rfl rfl hl.1 rfl (Nat.le_of_ble_eq_true rfl) ⟨Nat.zero_le _, Nat.zero_le _⟩ dX4_look_79 ?_
      exact rd_iret hx hb hr hlocks dX4_look_82 (by simp [lkR, nI_clamp (show j < 2 ^ 31 by omega), c_8, c_14])
    refine lv_tableOut (tgt := 83) hx hb dX4_look_14 (by have g0 := lv_neT (a := 0) c_14_0 (by decide); have g1 := lv_neT (a := 1) c_14_1 (by decide); have g2 := lv_neT (a := 2) c_14_2 (by decide); have g3 := lv_neT (a := 3) c_14_3 (by decide); omega) (by decide) ?_
    refine lv_aload_n hx hb dX4_look_83 rfl (lv_at hl 0 rfl) ?_
    refine va_get (D := D) (ci := 4) (v := .ref pe) (C := RX4) (T := TX4) (N := 6) hx hb hts hin4 hown hK hP 0 rfl rfl 0 (by decide) hf10 (fun _ h9 => h9) rfl dX4_look_84 ?_
    refine lv_iload_n hx hb dX4_look_87 rfl (lv_at hl 1 rfl) ?_
    refine lv_iload_n hx hb dX4_look_88 rfl (lv_at hl 2 rfl) ?_
    refine lv_iconst (v := 4) hx hb dX4_look_89 (by decide) ?_
    refine lv_isub hx hb dX4_look_90 ?_
    refine rcV (As := [.int ((nI j)), .int ((w - 4))]) (rest := []) (ci := 2) ⟨hx, hb, hml, hown, hts⟩ (kX2_markOf l D cI cZ pe hP_ aP np P (nI j) (w - 4) (by first | assumption | omega)) (cwV 2 hts gX4_look_X2_markOf rfl rfl rfl (by decide +kernel) ⟨Nat.le_of_ble_eq_true rfl, Nat.le_of_ble_eq_true rfl⟩) hK hP [1, 2, 3] rfl rfl rfl rfl rfl hl.1 rfl (Nat.le_of_ble_eq_true rfl) ⟨Nat.zero_le _, Nat.zero_le _⟩ dX4_look_91 ?_
    exact rd_iret hx hb hr hlocks dX4_look_94 (by simp only [lkR, c_8, if_pos rfl, if_neg c_14_0, if_neg c_14_1, if_neg c_14_2, if_neg c_14_3]; rfl)
  · skip
    refine lv_iconst (v := (-1)) hx hb dX4_look_11 (by decide) ?_
    exact rd_iret hx hb hr hlocks dX4_look_12 (by simp [lkR, c_8])
