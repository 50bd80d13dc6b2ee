set_option maxHeartbeats 4000000 in
set_option maxRecDepth 100000 in
theorem kX4_isDay (l : Launch) (D : va_G) (cI cZ : ClassId)  (n : Int32) : Met l yX4_isDay wsX4_isDay ({ frames := 0, cells := 0, slots := 0, locals := 0 } : Room) (RdP D [(cI, .int), (cZ, .boolean)] [.int n] []) (QcRead (bI (inB n 0 3000))) 0 0 (fun _ => False) := by
  refine rd_of (cc := cX4_isDay) (maxL := 1) (ret := (some .boolean)) (by decide) rfl (Nat.le_of_ble_eq_true rfl) ?_
  intro pp ee ss mm bw me cd ls hx hb hr hts hown hlocks hml hP hK hl
  have hl : lv_has ls 1 [(0, .int n)] := hl
  refine lv_iload_n hx hb dX4_isDay_0 rfl (lv_at hl 0 rfl) ?_
  refine lv_if_lt (tgt := 15) hx hb dX4_isDay_1 (by decide) (fun c_1 => ?_) (fun c_1 => ?_)
  · skip
    refine lv_iconst (v := 0) hx hb dX4_isDay_15 (by decide) ?_
    exact rd_zret hx hb hr hlocks dX4_isDay_16 (by simp [bI, inB, c_1])
  · skip
    refine lv_iload_n hx hb dX4_isDay_4 rfl (lv_at hl 0 rfl) ?_
    refine lv_sipush (v := 3000) hx hb dX4_isDay_5 (by decide) ?_
    refine lv_icmp_gt (tgt := 15) hx hb dX4_isDay_8 (by decide) (fun c_8 => ?_) (fun c_8 => ?_)
    · skip
      refine lv_iconst (v := 0) hx hb dX4_isDay_15 (by decide) ?_
      exact rd_zret hx hb hr hlocks dX4_isDay_16 (by simp [bI, inB, c_1, c_8])
    · skip
      refine lv_iconst (v := 1) hx hb dX4_isDay_11 (by decide) ?_
      refine lv_goto (tgt := 16) hx hb dX4_isDay_12 (by decide) ?_
      exact rd_zret hx hb hr hlocks dX4_isDay_16 (by simp [bI, inB, c_1, c_8])
set_option maxHeartbeats 4000000 in
set_option maxRecDepth 100000 in
theorem kX4_isHand (l : Launch) (D : va_G) (cI cZ : ClassId)  (n : Int32) : Met l yX4_isHand wsX4_isHand ({ frames := 0, cells := 0, slots := 0, locals := 0 } : Room) (RdP D [(cI, .int), (cZ, .boolean)] [.int n] []) (QcRead (bI (inB n 0 9))) 0 0 (fun _ => False) := by
  refine rd_of (cc := cX4_isHand) (maxL := 1) (ret := (some .boolean)) (by decide) rfl (Nat.le_of_ble_eq_true rfl) ?_
  intro pp ee ss mm bw me cd ls hx hb hr hts hown hlocks hml hP hK hl
  have hl : lv_has ls 1 [(0, .int n)] := hl
  refine lv_iload_n hx hb dX4_isHand_0 rfl (lv_at hl 0 rfl) ?_
  refine lv_if_lt (tgt := 14) hx hb dX4_isHand_1 (by decide) (fun c_1 => ?_) (fun c_1 => ?_)
  · skip
    refine lv_iconst (v := 0) hx hb dX4_isHand_14 (by decide) ?_
    exact rd_zret hx hb hr hlocks dX4_isHand_15 (by simp [bI, inB, c_1])
  · skip
    refine lv_iload_n hx hb dX4_isHand_4 rfl (lv_at hl 0 rfl) ?_
    refine lv_bipush (v := 9) hx hb dX4_isHand_5 (by decide) ?_
    refine lv_icmp_gt (tgt := 14) hx hb dX4_isHand_7 (by decide) (fun c_7 => ?_) (fun c_7 => ?_)
    · skip
      refine lv_iconst (v := 0) hx hb dX4_isHand_14 (by decide) ?_
      exact rd_zret hx hb hr hlocks dX4_isHand_15 (by simp [bI, inB, c_1, c_7])
    · skip
      refine lv_iconst (v := 1) hx hb dX4_isHand_10 (by decide) ?_
      refine lv_goto (tgt := 15) hx hb dX4_isHand_11 (by decide) ?_
      exact rd_zret hx hb hr hlocks dX4_isHand_15 (by simp [bI, inB, c_1, c_7])
set_option maxHeartbeats 4000000 in
set_option maxRecDepth 100000 in
theorem kX4_isReason (l : Launch) (D : va_G) (cI cZ : ClassId)  (n : Int32) : Met l yX4_isReason wsX4_isReason ({ frames := 0, cells := 0, slots := 0, locals := 0 } : Room) (RdP D [(cI, .int), (cZ, .boolean)] [.int n] []) (QcRead (bI (inB n 0 7))) 0 0 (fun _ => False) := by
  refine rd_of (cc := cX4_isReason) (maxL := 1) (ret := (some .boolean)) (by decide) rfl (Nat.le_of_ble_eq_true rfl) ?_
  intro pp ee ss mm bw me cd ls hx hb hr hts hown hlocks hml hP hK hl
  have hl : lv_has ls 1 [(0, .int n)] := hl
  refine lv_iload_n hx hb dX4_isReason_0 rfl (lv_at hl 0 rfl) ?_
  refine lv_if_lt (tgt := 14) hx hb dX4_isReason_1 (by decide) (fun c_1 => ?_) (fun c_1 => ?_)
  · skip
    refine lv_iconst (v := 0) hx hb dX4_isReason_14 (by decide) ?_
    exact rd_zret hx hb hr hlocks dX4_isReason_15 (by simp [bI, inB, c_1])
  · skip
    refine lv_iload_n hx hb dX4_isReason_4 rfl (lv_at hl 0 rfl) ?_
    refine lv_bipush (v := 7) hx hb dX4_isReason_5 (by decide) ?_
    refine lv_icmp_gt (tgt := 14) hx hb dX4_isReason_7 (by decide) (fun c_7 => ?_) (fun c_7 => ?_)
    · skip
      refine lv_iconst (v := 0) hx hb dX4_isReason_14 (by decide) ?_
      exact rd_zret hx hb hr hlocks dX4_isReason_15 (by simp [bI, inB, c_1, c_7])
    · skip
      refine lv_iconst (v := 1) hx hb dX4_isReason_10 (by decide) ?_
      refine lv_goto (tgt := 15) hx hb dX4_isReason_11 (by decide) ?_
      exact rd_zret hx hb hr hlocks dX4_isReason_15 (by simp [bI, inB, c_1, c_7])
set_option maxHeartbeats 4000000 in
set_option maxRecDepth 100000 in
theorem kX4_areMarks (l : Launch) (D : va_G) (cI cZ : ClassId)  (n : Int32) : Met l yX4_areMarks wsX4_areMarks ({ frames := 0, cells := 0, slots := 0, locals := 0 } : Room) (RdP D [(cI, .int), (cZ, .boolean)] [.int n] []) (QcRead (bI (inB n 0 15))) 0 0 (fun _ => False) := by
  refine rd_of (cc := cX4_areMarks) (maxL := 1) (ret := (some .boolean)) (by decide) rfl (Nat.le_of_ble_eq_true rfl) ?_
  intro pp ee ss mm bw me cd ls hx hb hr hts hown hlocks hml hP hK hl
  have hl : lv_has ls 1 [(0, .int n)] := hl
  refine lv_iload_n hx hb dX4_areMarks_0 rfl (lv_at hl 0 rfl) ?_
  refine lv_if_lt (tgt := 14) hx hb dX4_areMarks_1 (by decide) (fun c_1 => ?_) (fun c_1 => ?_)
  · skip
    refine lv_iconst (v := 0) hx hb dX4_areMarks_14 (by decide) ?_
    exact rd_zret hx hb hr hlocks dX4_areMarks_15 (by simp [bI, inB, c_1])
  · skip
    refine lv_iload_n hx hb dX4_areMarks_4 rfl (lv_at hl 0 rfl) ?_
    refine lv_bipush (v := 15) hx hb dX4_areMarks_5 (by decide) ?_
    refine lv_icmp_gt (tgt := 14) hx hb dX4_areMarks_7 (by decide) (fun c_7 => ?_) (fun c_7 => ?_)
    · skip
      refine lv_iconst (v := 0) hx hb dX4_areMarks_14 (by decide) ?_
      exact rd_zret hx hb hr hlocks dX4_areMarks_15 (by simp [bI, inB, c_1, c_7])
    · skip
      refine lv_iconst (v := 1) hx hb dX4_areMarks_10 (by decide) ?_
      refine lv_goto (tgt := 15) hx hb dX4_areMarks_11 (by decide) ?_
      exact rd_zret hx hb hr hlocks dX4_areMarks_15 (by simp [bI, inB, c_1, c_7])
set_option maxHeartbeats 4000000 in
set_option maxRecDepth 100000 in
theorem kX4_oneIf (l : Launch) (D : va_G) (cI cZ : ClassId)  (b : Bool) : Met l yX4_oneIf wsX4_oneIf ({ frames := 0, cells := 0, slots := 0, locals := 0 } : Room) (RdP D [(cI, .int), (cZ, .boolean)] [.int (bI b)] []) (QcRead (bI b)) 0 0 (fun _ => False) := by
  refine rd_of (cc := cX4_oneIf) (maxL := 1) (ret := (some .int)) (by decide) rfl (Nat.le_of_ble_eq_true rfl) ?_
  intro pp ee ss mm bw me cd ls hx hb hr hts hown hlocks hml hP hK hl
  have hl : lv_has ls 1 [(0, .int ((bI b)))] := hl
  refine lv_iload_n hx hb dX4_oneIf_0 rfl (lv_at hl 0 rfl) ?_
  refine lb_eq (tgt := 8) hx hb dX4_oneIf_1 (by decide) (fun c_1 => ?_) (fun c_1 => ?_)
  · skip
    refine lv_iconst (v := 0) hx hb dX4_oneIf_8 (by decide) ?_
    exact rd_iret hx hb hr hlocks dX4_oneIf_9 (by rw [c_1]; rfl)
  · skip
    refine lv_iconst (v := 1) hx hb dX4_oneIf_4 (by decide) ?_
    refine lv_goto (tgt := 9) hx hb dX4_oneIf_5 (by decide) ?_
    exact rd_iret hx hb hr hlocks dX4_oneIf_9 (by rw [c_1]; rfl)
set_option maxHeartbeats 4000000 in
set_option maxRecDepth 100000 in
theorem kJ6_bitCount_0f7a4 (l : Launch) (D : va_G) (cI cZ : ClassId)  (x : Int32) : Met l yJ6_bitCount_0f7a4 wsJ6_bitCount_0f7a4 ({ frames := 0, cells := 0, slots := 0, locals := 0 } : Room) (RdP D [(cI, .int), (cZ, .boolean)] [.int x] []) (QcRead (bc x)) 0 0 (fun _ => False) := by
  refine rd_of (cc := cJ6_bitCount_0f7a4) (maxL := 1) (ret := (some .int)) (by decide) rfl (Nat.le_of_ble_eq_true rfl) ?_
  intro pp ee ss mm bw me cd ls hx hb hr hts hown hlocks hml hP hK hl
  have hl : lv_has ls 1 [(0, .int x)] := hl
  refine lv_iload_n hx hb dJ6_bitCount_0f7a4_0 rfl (lv_at hl 0 rfl) ?_
  refine lv_iload_n hx hb dJ6_bitCount_0f7a4_1 rfl (lv_at hl 0 rfl) ?_
  refine lv_iconst (v := 1) hx hb dJ6_bitCount_0f7a4_2 (by decide) ?_
  refine lv_iushr (v := (ush x 1)) hx hb dJ6_bitCount_0f7a4_3 rfl ?_
  refine lv_ldcw (v := 1431655765) hx hb hown (hts (.constant RJ6 265 1431655765) (by decide +kernel)) dJ6_bitCount_0f7a4_4 ?_
  refine lv_iand hx hb dJ6_bitCount_0f7a4_7 ?_
  refine lv_isub hx hb dJ6_bitCount_0f7a4_8 ?_
  refine lv_istore_n (lv' := [(0, .int ((x - ((ush x 1) &&& 1431655765))))]) hx hb dJ6_bitCount_0f7a4_9 rfl hl (by decide) rfl (fun ls hl => ?_)
  refine lv_iload_n hx hb dJ6_bitCount_0f7a4_10 rfl (lv_at hl 0 rfl) ?_
  refine lv_ldcw (v := 858993459) hx hb hown (hts (.constant RJ6 266 858993459) (by decide +kernel)) dJ6_bitCount_0f7a4_11 ?_
  refine lv_iand hx hb dJ6_bitCount_0f7a4_14 ?_
  refine lv_iload_n hx hb dJ6_bitCount_0f7a4_15 rfl (lv_at hl 0 rfl) ?_
  refine lv_iconst (v := 2) hx hb dJ6_bitCount_0f7a4_16 (by decide) ?_
  refine lv_iushr (v := (ush (x - ((ush x 1) &&& 1431655765)) 2)) hx hb dJ6_bitCount_0f7a4_17 rfl ?_
  refine lv_ldcw (v := 858993459) hx hb hown (hts (.constant RJ6 266 858993459) (by decide +kernel)) dJ6_bitCount_0f7a4_18 ?_
  refine lv_iand hx hb dJ6_bitCount_0f7a4_21 ?_
  refine lv_iadd hx hb dJ6_bitCount_0f7a4_22 ?_
  refine lv_istore_n (lv' := [(0, .int ((((x - ((ush x 1) &&& 1431655765)) &&& 858993459) + ((ush (x - ((ush x 1) &&& 1431655765)) 2) &&& 858993459))))]) hx hb dJ6_bitCount_0f7a4_23 rfl hl (by decide) rfl (fun ls hl => ?_)
  refine lv_iload_n hx hb dJ6_bitCount_0f7a4_24 rfl (lv_at hl 0 rfl) ?_
  refine lv_iload_n hx hb dJ6_bitCount_0f7a4_25 rfl (lv_at hl 0 rfl) ?_
  refine lv_iconst (v := 4) hx hb dJ6_bitCount_0f7a4_26 (by decide) ?_
  refine lv_iushr (v := (ush (((x - ((ush x 1) &&& 1431655765)) &&& 858993459) + ((ush (x - ((ush x 1) &&& 1431655765)) 2) &&& 858993459)) 4)) hx hb dJ6_bitCount_0f7a4_27 rfl ?_
  refine lv_iadd hx hb dJ6_bitCount_0f7a4_28 ?_
  refine lv_ldcw (v := 252645135) hx hb hown (hts (.constant RJ6 267 252645135) (by decide +kernel)) dJ6_bitCount_0f7a4_29 ?_
  refine lv_iand hx hb dJ6_bitCount_0f7a4_32 ?_
  refine lv_istore_n (lv' := [(0, .int ((((((x - ((ush x 1) &&& 1431655765)) &&& 858993459) + ((ush (x - ((ush x 1) &&& 1431655765)) 2) &&& 858993459)) + (ush (((x - ((ush x 1) &&& 1431655765)) &&& 858993459) + ((ush (x - ((ush x 1) &&& 1431655765)) 2) &&& 858993459)) 4)) &&& 252645135)))]) hx hb dJ6_bitCount_0f7a4_33 rfl hl (by decide) rfl (fun ls hl => ?_)
  refine lv_iload_n hx hb dJ6_bitCount_0f7a4_34 rfl (lv_at hl 0 rfl) ?_
  refine lv_iload_n hx hb dJ6_bitCount_0f7a4_35 rfl (lv_at hl 0 rfl) ?_
  refine lv_bipush (v := 8) hx hb dJ6_bitCount_0f7a4_36 (by decide) ?_
  refine lv_iushr (v := (ush (((((x - ((ush x 1) &&& 1431655765)) &&& 858993459) + ((ush (x - ((ush x 1) &&& 1431655765)) 2) &&& 858993459)) + (ush (((x - ((ush x 1) &&& 1431655765)) &&& 858993459) + ((ush (x - ((ush x 1) &&& 1431655765)) 2) &&& 858993459)) 4)) &&& 252645135) 8)) hx hb dJ6_bitCount_0f7a4_38 rfl ?_
  refine lv_iadd hx hb dJ6_bitCount_0f7a4_39 ?_
  refine lv_istore_n (lv' := [(0, .int (((((((x - ((ush x 1) &&& 1431655765)) &&& 858993459) + ((ush (x - ((ush x 1) &&& 1431655765)) 2) &&& 858993459)) + (ush (((x - ((ush x 1) &&& 1431655765)) &&& 858993459) + ((ush (x - ((ush x 1) &&& 1431655765)) 2) &&& 858993459)) 4)) &&& 252645135) + (ush (((((x - ((ush x 1) &&& 1431655765)) &&& 858993459) + ((ush (x - ((ush x 1) &&& 1431655765)) 2) &&& 858993459)) + (ush (((x - ((ush x 1) &&& 1431655765)) &&& 858993459) + ((ush (x - ((ush x 1) &&& 1431655765)) 2) &&& 858993459)) 4)) &&& 252645135) 8))))]) hx hb dJ6_bitCount_0f7a4_40 rfl hl (by decide) rfl (fun ls hl => ?_)
  refine lv_iload_n hx hb dJ6_bitCount_0f7a4_41 rfl (lv_at hl 0 rfl) ?_
  refine lv_iload_n hx hb dJ6_bitCount_0f7a4_42 rfl (lv_at hl 0 rfl) ?_
  refine lv_bipush (v := 16) hx hb dJ6_bitCount_0f7a4_43 (by decide) ?_
  refine lv_iushr (v := (ush ((((((x - ((ush x 1) &&& 1431655765)) &&& 858993459) + ((ush (x - ((ush x 1) &&& 1431655765)) 2) &&& 858993459)) + (ush (((x - ((ush x 1) &&& 1431655765)) &&& 858993459) + ((ush (x - ((ush x 1) &&& 1431655765)) 2) &&& 858993459)) 4)) &&& 252645135) + (ush (((((x - ((ush x 1) &&& 1431655765)) &&& 858993459) + ((ush (x - ((ush x 1) &&& 1431655765)) 2) &&& 858993459)) + (ush (((x - ((ush x 1) &&& 1431655765)) &&& 858993459) + ((ush (x - ((ush x 1) &&& 1431655765)) 2) &&& 858993459)) 4)) &&& 252645135) 8)) 16)) hx hb dJ6_bitCount_0f7a4_45 rfl ?_
  refine lv_iadd hx hb dJ6_bitCount_0f7a4_46 ?_
  refine lv_istore_n (lv' := [(0, .int ((((((((x - ((ush x 1) &&& 1431655765)) &&& 858993459) + ((ush (x - ((ush x 1) &&& 1431655765)) 2) &&& 858993459)) + (ush (((x - ((ush x 1) &&& 1431655765)) &&& 858993459) + ((ush (x - ((ush x 1) &&& 1431655765)) 2) &&& 858993459)) 4)) &&& 252645135) + (ush (((((x - ((ush x 1) &&& 1431655765)) &&& 858993459) + ((ush (x - ((ush x 1) &&& 1431655765)) 2) &&& 858993459)) + (ush (((x - ((ush x 1) &&& 1431655765)) &&& 858993459) + ((ush (x - ((ush x 1) &&& 1431655765)) 2) &&& 858993459)) 4)) &&& 252645135) 8)) + (ush ((((((x - ((ush x 1) &&& 1431655765)) &&& 858993459) + ((ush (x - ((ush x 1) &&& 1431655765)) 2) &&& 858993459)) + (ush (((x - ((ush x 1) &&& 1431655765)) &&& 858993459) + ((ush (x - ((ush x 1) &&& 1431655765)) 2) &&& 858993459)) 4)) &&& 252645135) + (ush (((((x - ((ush x 1) &&& 1431655765)) &&& 858993459) + ((ush (x - ((ush x 1) &&& 1431655765)) 2) &&& 858993459)) + (ush (((x - ((ush x 1) &&& 1431655765)) &&& 858993459) + ((ush (x - ((ush x 1) &&& 1431655765)) 2) &&& 858993459)) 4)) &&& 252645135) 8)) 16))))]) hx hb dJ6_bitCount_0f7a4_47 rfl hl (by decide) rfl (fun ls hl => ?_)
  refine lv_iload_n hx hb dJ6_bitCount_0f7a4_48 rfl (lv_at hl 0 rfl) ?_
  refine lv_bipush (v := 63) hx hb dJ6_bitCount_0f7a4_49 (by decide) ?_
  refine lv_iand hx hb dJ6_bitCount_0f7a4_51 ?_
  exact rd_iret hx hb hr hlocks dJ6_bitCount_0f7a4_52 (by rfl)
set_option maxHeartbeats 4000000 in
set_option maxRecDepth 100000 in
theorem kX4_person (l : Launch) (D : va_G) (cI cZ : ClassId) (o pe hP_ aP hu hH aH na hN aN hB aB hE aE np nh nn nb ne : Nat) (td : Int32) (P G N B E : Nat → Nat → Int32) (a : Int32) (b : Int32) (c : Int32) (d : Int32) (hnp : np ≤ 24) (hnh : nh ≤ 5) (hnn : nn ≤ 200) (hnb : nb ≤ 20) (hne : ne ≤ 200) (hw : HP np (P 4)) (ho : HO nn np N) : Met l yX4_person wsX4_person ({ frames := 3, cells := 0, slots := 0, locals := 70 } : Room) (MuP D [(cI, .int), (cZ, .boolean)] [.ref o, .int a, .int b, .int c, .int d] [(o, .inr (4, [.ref pe, .ref hu, .ref na, .ref hB, .ref hE, .int td])), (pe, .inr (2, [.ref hP_])), (hP_, .inr (3, [.int (nI 24), .int (nI 6), .ref aP, .int (nI np)])), (aP, .inl (cI, 24 * 6, .inl (fl 6 P))), (hu, .inr (0, [.ref hH])), (hH, .inr (3, [.int (nI 5), .int (nI 6), .ref aH, .int (nI nh)])), (aH, .inl (cI, 5 * 6, .inl (fl 6 G))), (na, .inr (1, [.ref hN, .ref pe])), (hN, .inr (3, [.int (nI 200), .int (nI 5), .ref aN, .int (nI nn)])), (aN, .inl (cI, 200 * 5, .inl (fl 5 N))), (hB, .inr (3, [.int (nI 20), .int (nI 4), .ref aB, .int (nI nb)])), (aB, .inl (cI, 20 * 4, .inl (fl 4 B))), (hE, .inr (3, [.int (nI 200), .int (nI 6), .ref aE, .int (nI ne)])), (aE, .inl (cI, 200 * 6, .inl (fl 6 E)))]) (QM D (some (.int (if okM a b c d = true then arow 24 np else -1))) [(o, .inr (4, [.ref pe, .ref hu, .ref na, .ref hB, .ref hE, .int td])), (pe, .inr (2, [.ref hP_])), (hP_, .inr (3, [.int (nI 24), .int (nI 6), .ref aP, .int (nI np)])), (aP, .inl (cI, 24 * 6, .inl (fl 6 P))), (hu, .inr (0, [.ref hH])), (hH, .inr (3, [.int (nI 5), .int (nI 6), .ref aH, .int (nI nh)])), (aH, .inl (cI, 5 * 6, .inl (fl 6 G))), (na, .inr (1, [.ref hN, .ref pe])), (hN, .inr (3, [.int (nI 200), .int (nI 5), .ref aN, .int (nI nn)])), (aN, .inl (cI, 200 * 5, .inl (fl 5 N))), (hB, .inr (3, [.int (nI 20), .int (nI 4), .ref aB, .int (nI nb)])), (aB, .inl (cI, 20 * 4, .inl (fl 4 B))), (hE, .inr (3, [.int (nI 200), .int (nI 6), .ref aE, .int (nI ne)])), (aE, .inl (cI, 200 * 6, .inl (fl 6 E)))] [(o, .inr (4, [.ref pe, .ref hu, .ref na, .ref hB, .ref hE, .int td])), (pe, .inr (2, [.ref hP_])), (hP_, .inr (3, [.int (nI 24), .int (nI 6), .ref aP, .int (nI (if okM a b c d = true then adn 24 np else np))])), (aP, .inl (cI, 24 * 6, .inl (fl 6 (if okM a b c d = true then paddT np P a b c d else P)))), (hu, .inr (0, [.ref hH])), (hH, .inr (3, [.int (nI 5), .int (nI 6), .ref aH, .int (nI nh)])), (aH, .inl (cI, 5 * 6, .inl (fl 6 G))), (na, .inr (1, [.ref hN, .ref pe])), (hN, .inr (3, [.int (nI 200), .int (nI 5), .ref aN, .int (nI nn)])), (aN, .inl (cI, 200 * 5, .inl (fl 5 N))), (hB, .inr (3, [.int (nI 20), .int (nI 4), .ref aB, .int (nI nb)])), (aB, .inl (cI, 20 * 4, .inl (fl 4 B))), (hE, .inr (3, [.int (nI 200), .int (nI 6), .ref aE, .int (nI ne)])), (aE, .inl (cI, 200 * 6, .inl (fl 6 E)))]) 0 0 (adr [(o, .inr (4, [.ref pe, .ref hu, .ref na, .ref hB, .ref hE, .int td])), (pe, .inr (2, [.ref hP_])), (hP_, .inr (3, [.int (nI 24), .int (nI 6), .ref aP, .int (nI np)])), (aP, .inl (cI, 24 * 6, .inl (fl 6 P))), (hu, .inr (0, [.ref hH])), (hH, .inr (3, [.int (nI 5), .int (nI 6), .ref aH, .int (nI nh)])), (aH, .inl (cI, 5 * 6, .inl (fl 6 G))), (na, .inr (1, [.ref hN, .ref pe])), (hN, .inr (3, [.int (nI 200), .int (nI 5), .ref aN, .int (nI nn)])), (aN, .inl (cI, 200 * 5, .inl (fl 5 N))), (hB, .inr (3, [.int (nI 20), .int (nI 4), .ref aB, .int (nI nb)])), (aB, .inl (cI, 20 * 4, .inl (fl 4 B))), (hE, .inr (3, [.int (nI 200), .int (nI 6), .ref aE, .int (nI ne)])), (aE, .inl (cI, 200 * 6, .inl (fl 6 E)))]) := by
  refine mu_of (cc := cX4_person) (maxL := 5) (ret := (some .int)) (by decide) rfl (Nat.le_of_ble_eq_true rfl) ?_
  intro pp ee ss mm bw me cd ls hx hb hr hts hown hlocks hml hK hl H locs hP hD hS
  have hl : lv_has ls 5 [(0, .ref o), (1, .int a), (2, .int b), (3, .int c), (4, .int d)] := hl
  have hf10 := hts (.fieldLink RX4 10 "OtherNames" "people" "LOtherNames$People;") (by decide +kernel)
  have hin4 := (show ∀ w ∈ wsX40, w ∈ wsX4_person by decide +kernel)
  refine lv_aload_n hx hb dX4_person_0 rfl (lv_at hl 0 rfl) ?_
  refine va_get (D := D) (ci := 4) (v := .ref pe) (C := RX4) (T := TX4) (N := 6) hx hb hts hin4 hown hK hP 0 rfl rfl 0 (by decide) hf10 (fun _ h9 => h9) rfl dX4_person_1 ?_
  refine lv_iload_n hx hb dX4_person_4 rfl (lv_at hl 1 rfl) ?_
  refine lv_iload_n hx hb dX4_person_5 rfl (lv_at hl 2 rfl) ?_
  refine lv_iload_n hx hb dX4_person_6 rfl (lv_at hl 3 rfl) ?_
  refine lv_iload hx hb dX4_person_7 (lv_at hl 4 rfl) ?_
  refine mcV (As := [.int a, .int b, .int c, .int d]) (rest := []) (ci := 2) (wn := [(o, .inr (4, [.ref pe, .ref hu, .ref na, .ref hB, .ref hE, .int td])), (pe, .inr (2, [.ref hP_])), (hP_, .inr (3, [.int (nI 24), .int (nI 6), .ref aP, .int (nI (if okM a b c d = true then adn 24 np else np))])), (aP, .inl (cI, 24 * 6, .inl (fl 6 (if okM a b c d = true then paddT np P a b c d else P)))), (hu, .inr (0, [.ref hH])), (hH, .inr (3, [.int (nI 5), .int (nI 6), .ref aH, .int (nI nh)])), (aH, .inl (cI, 5 * 6, .inl (fl 6 G))), (na, .inr (1, [.ref hN, .ref pe])), (hN, .inr (3, [.int (nI 200), .int (nI 5), .ref aN, .int (nI nn)])), (aN, .inl (cI, 200 * 5, .inl (fl 5 N))), (hB, .inr (3, [.int (nI 20), .int (nI 4), .ref aB, .int (nI nb)])), (aB, .inl (cI, 20 * 4, .inl (fl 4 B))), (hE, .inr (3, [.int (nI 200), .int (nI 6), .ref aE, .int (nI ne)])), (aE, .inl (cI, 200 * 6, .inl (fl 6 E)))]) ⟨hx, hb, hml, hown, hts⟩ (kX2_add l D cI cZ pe hP_ aP np P a b c d (by first | assumption | omega)) (cwV 4 hts gX4_person_X2_add rfl rfl rfl (by decide +kernel) ⟨Nat.le_of_ble_eq_true rfl, Nat.le_of_ble_eq_true rfl⟩) hK hP hD hS [1, 2, 3] rfl rfl rfl rfl rfl rfl rfl rfl rfl hl.1 rfl (Nat.le_of_ble_eq_true rfl) ⟨Nat.zero_le _, Nat.zero_le _⟩ dX4_person_9 (fun H locs hP hD hS => ?_)
  refine W.eq (g2 := F0 mm 12 ls (.int (if okM a b c d = true then arow 24 np else -1) :: [])) rfl ?_
  refine mu_iret hx hb hr hlocks hS dX4_person_12 ?_ ?_
  · rfl
  exact hP
set_option maxHeartbeats 4000000 in
set_option maxRecDepth 100000 in
theorem kX4_mark (l : Launch) (D : va_G) (cI cZ : ClassId) (o pe hP_ aP hu hH aH na hN aN hB aB hE aE np nh nn nb ne : Nat) (td : Int32) (P G N B E : Nat → Nat → Int32) (p : Int32) (m : Int32) (n : Int32) (hnp : np ≤ 24) (hnh : nh ≤ 5) (hnn : nn ≤ 200) (hnb : nb ≤ 20) (hne : ne ≤ 200) (hw : HP np (P 4)) (ho : HO nn np N) : Met l yX4_mark wsX4_mark ({ frames := 3, cells := 0, slots := 0, locals := 68 } : Room) (MuP D [(cI, .int), (cZ, .boolean)] [.ref o, .int p, .int m, .int n] [(o, .inr (4, [.ref pe, .ref hu, .ref na, .ref hB, .ref hE, .int td])), (pe, .inr (2, [.ref hP_])), (hP_, .inr (3, [.int (nI 24), .int (nI 6), .ref aP, .int (nI np)])), (aP, .inl (cI, 24 * 6, .inl (fl 6 P))), (hu, .inr (0, [.ref hH])), (hH, .inr (3, [.int (nI 5), .int (nI 6), .ref aH, .int (nI nh)])), (aH, .inl (cI, 5 * 6, .inl (fl 6 G))), (na, .inr (1, [.ref hN, .ref pe])), (hN, .inr (3, [.int (nI 200), .int (nI 5), .ref aN, .int (nI nn)])), (aN, .inl (cI, 200 * 5, .inl (fl 5 N))), (hB, .inr (3, [.int (nI 20), .int (nI 4), .ref aB, .int (nI nb)])), (aB, .inl (cI, 20 * 4, .inl (fl 4 B))), (hE, .inr (3, [.int (nI 200), .int (nI 6), .ref aE, .int (nI ne)])), (aE, .inl (cI, 200 * 6, .inl (fl 6 E)))]) (QM D (some (.int (bI (inR np p && inB m 0 3 && inB n 0 7)))) [(o, .inr (4, [.ref pe, .ref hu, .ref na, .ref hB, .ref hE, .int td])), (pe, .inr (2, [.ref hP_])), (hP_, .inr (3, [.int (nI 24), .int (nI 6), .ref aP, .int (nI np)])), (aP, .inl (cI, 24 * 6, .inl (fl 6 P))), (hu, .inr (0, [.ref hH])), (hH, .inr (3, [.int (nI 5), .int (nI 6), .ref aH, .int (nI nh)])), (aH, .inl (cI, 5 * 6, .inl (fl 6 G))), (na, .inr (1, [.ref hN, .ref pe])), (hN, .inr (3, [.int (nI 200), .int (nI 5), .ref aN, .int (nI nn)])), (aN, .inl (cI, 200 * 5, .inl (fl 5 N))), (hB, .inr (3, [.int (nI 20), .int (nI 4), .ref aB, .int (nI nb)])), (aB, .inl (cI, 20 * 4, .inl (fl 4 B))), (hE, .inr (3, [.int (nI 200), .int (nI 6), .ref aE, .int (nI ne)])), (aE, .inl (cI, 200 * 6, .inl (fl 6 E)))] [(o, .inr (4, [.ref pe, .ref hu, .ref na, .ref hB, .ref hE, .int td])), (pe, .inr (2, [.ref hP_])), (hP_, .inr (3, [.int (nI 24), .int (nI 6), .ref aP, .int (nI np)])), (aP, .inl (cI, 24 * 6, .inl (fl 6 (if (inR np p && inB m 0 3 && inB n 0 7) = true then tput np 6 P p m n else P)))), (hu, .inr (0, [.ref hH])), (hH, .inr (3, [.int (nI 5), .int (nI 6), .ref aH, .int (nI nh)])), (aH, .inl (cI, 5 * 6, .inl (fl 6 G))), (na, .inr (1, [.ref hN, .ref pe])), (hN, .inr (3, [.int (nI 200), .int (nI 5), .ref aN, .int (nI nn)])), (aN, .inl (cI, 200 * 5, .inl (fl 5 N))), (hB, .inr (3, [.int (nI 20), .int (nI 4), .ref aB, .int (nI nb)])), (aB, .inl (cI, 20 * 4, .inl (fl 4 B))), (hE, .inr (3, [.int (nI 200), .int (nI 6), .ref aE, .int (nI ne)])), (aE, .inl (cI, 200 * 6, .inl (fl 6 E)))]) 0 0 (adr [(o, .inr (4, [.ref pe, .ref hu, .ref na, .ref hB, .ref hE, .int td])), (pe, .inr (2, [.ref hP_])), (hP_, .inr (3, [.int (nI 24), .int (nI 6), .ref aP, .int (nI np)])), (aP, .inl (cI, 24 * 6, .inl (fl 6 P))), (hu, .inr (0, [.ref hH])), (hH, .inr (3, [.int (nI 5), .int (nI 6), .ref aH, .int (nI nh)])), (aH, .inl (cI, 5 * 6, .inl (fl 6 G))), (na, .inr (1, [.ref hN, .ref pe])), (hN, .inr (3, [.int (nI 200), .int (nI 5), .ref aN, .int (nI nn)])), (aN, .inl (cI, 200 * 5, .inl (fl 5 N))), (hB, .inr (3, [.int (nI 20), .int (nI 4), .ref aB, .int (nI nb)])), (aB, .inl (cI, 20 * 4, .inl (fl 4 B))), (hE, .inr (3, [.int (nI 200), .int (nI 6), .ref aE, .int (nI ne)])), (aE, .inl (cI, 200 * 6, .inl (fl 6 E)))]) := by
  refine mu_of (cc := cX4_mark) (maxL := 4) (ret := (some .boolean)) (by decide) rfl (Nat.le_of_ble_eq_true rfl) ?_
  intro pp ee ss mm bw me cd ls hx hb hr hts hown hlocks hml hK hl H locs hP hD hS
  have hl : lv_has ls 4 [(0, .ref o), (1, .int p), (2, .int m), (3, .int n)] := hl
  have hf10 := hts (.fieldLink RX4 10 "OtherNames" "people" "LOtherNames$People;") (by decide +kernel)
  have hin4 := (show ∀ w ∈ wsX40, w ∈ wsX4_mark by decide +kernel)
  refine lv_aload_n hx hb dX4_mark_0 rfl (lv_at hl 0 rfl) ?_
  refine va_get (D := D) (ci := 4) (v := .ref pe) (C := RX4) (T := TX4) (N := 6) hx hb hts hin4 hown hK hP 0 rfl rfl 0 (by decide) hf10 (fun _ h9 => h9) rfl dX4_mark_1 ?_
  refine lv_iload_n hx hb dX4_mark_4 rfl (lv_at hl 1 rfl) ?_
  refine lv_iload_n hx hb dX4_mark_5 rfl (lv_at hl 2 rfl) ?_
  refine lv_iload_n hx hb dX4_mark_6 rfl (lv_at hl 3 rfl) ?_
  refine mcV (As := [.int p, .int m, .int n]) (rest := []) (ci := 2) (wn := [(o, .inr (4, [.ref pe, .ref hu, .ref na, .ref hB, .ref hE, .int td])), (pe, .inr (2, [.ref hP_])), (hP_, .inr (3, [.int (nI 24), .int (nI 6), .ref aP, .int (nI np)])), (aP, .inl (cI, 24 * 6, .inl (fl 6 (if (inR np p && inB m 0 3 && inB n 0 7) = true then tput np 6 P p m n else P)))), (hu, .inr (0, [.ref hH])), (hH, .inr (3, [.int (nI 5), .int (nI 6), .ref aH, .int (nI nh)])), (aH, .inl (cI, 5 * 6, .inl (fl 6 G))), (na, .inr (1, [.ref hN, .ref pe])), (hN, .inr (3, [.int (nI 200), .int (nI 5), .ref aN, .int (nI nn)])), (aN, .inl (cI, 200 * 5, .inl (fl 5 N))), (hB, .inr (3, [.int (nI 20), .int (nI 4), .ref aB, .int (nI nb)])), (aB, .inl (cI, 20 * 4, .inl (fl 4 B))), (hE, .inr (3, [.int (nI 200), .int (nI 6), .ref aE, .int (nI ne)])), (aE, .inl (cI, 200 * 6, .inl (fl 6 E)))]) ⟨hx, hb, hml, hown, hts⟩ (kX2_setMark l D cI cZ pe hP_ aP np P p m n (by first | assumption | omega)) (cwV 3 hts gX4_mark_X2_setMark rfl rfl rfl (by decide +kernel) ⟨Nat.le_of_ble_eq_true rfl, Nat.le_of_ble_eq_true rfl⟩) hK hP hD hS [1, 2, 3] rfl rfl rfl rfl rfl rfl rfl rfl rfl hl.1 rfl (Nat.le_of_ble_eq_true rfl) ⟨Nat.zero_le _, Nat.zero_le _⟩ dX4_mark_7 (fun H locs hP hD hS => ?_)
  refine W.eq (g2 := F0 mm 10 ls (.int (bI (inR np p && inB m 0 3 && inB n 0 7)) :: [])) rfl ?_
  refine mu_zret hx hb hr hlocks hS dX4_mark_10 ?_ ?_
  · rfl
  exact hP
set_option maxHeartbeats 4000000 in
set_option maxRecDepth 100000 in
theorem kX4_house (l : Launch) (D : va_G) (cI cZ : ClassId) (o pe hP_ aP hu hH aH na hN aN hB aB hE aE np nh nn nb ne : Nat) (td : Int32) (P G N B E : Nat → Nat → Int32) (kd : Int32) (sn : Int32) (sd : Int32) (rs : Int32) (lt : Int32) (hnp : np ≤ 24) (hnh : nh ≤ 5) (hnn : nn ≤ 200) (hnb : nb ≤ 20) (hne : ne ≤ 200) (hw : HP np (P 4)) (ho : HO nn np N) : Met l yX4_house wsX4_house ({ frames := 3, cells := 0, slots := 0, locals := 71 } : Room) (MuP D [(cI, .int), (cZ, .boolean)] [.ref o, .int kd, .int sn, .int sd, .int rs, .int lt] [(o, .inr (4, [.ref pe, .ref hu, .ref na, .ref hB, .ref hE, .int td])), (pe, .inr (2, [.ref hP_])), (hP_, .inr (3, [.int (nI 24), .int (nI 6), .ref aP, .int (nI np)])), (aP, .inl (cI, 24 * 6, .inl (fl 6 P))), (hu, .inr (0, [.ref hH])), (hH, .inr (3, [.int (nI 5), .int (nI 6), .ref aH, .int (nI nh)])), (aH, .inl (cI, 5 * 6, .inl (fl 6 G))), (na, .inr (1, [.ref hN, .ref pe])), (hN, .inr (3, [.int (nI 200), .int (nI 5), .ref aN, .int (nI nn)])), (aN, .inl (cI, 200 * 5, .inl (fl 5 N))), (hB, .inr (3, [.int (nI 20), .int (nI 4), .ref aB, .int (nI nb)])), (aB, .inl (cI, 20 * 4, .inl (fl 4 B))), (hE, .inr (3, [.int (nI 200), .int (nI 6), .ref aE, .int (nI ne)])), (aE, .inl (cI, 200 * 6, .inl (fl 6 E)))]) (QM D (some (.int (if okH kd sn sd rs lt = true then arow 5 nh else -1))) [(o, .inr (4, [.ref pe, .ref hu, .ref na, .ref hB, .ref hE, .int td])), (pe, .inr (2, [.ref hP_])), (hP_, .inr (3, [.int (nI 24), .int (nI 6), .ref aP, .int (nI np)])), (aP, .inl (cI, 24 * 6, .inl (fl 6 P))), (hu, .inr (0, [.ref hH])), (hH, .inr (3, [.int (nI 5), .int (nI 6), .ref aH, .int (nI nh)])), (aH, .inl (cI, 5 * 6, .inl (fl 6 G))), (na, .inr (1, [.ref hN, .ref pe])), (hN, .inr (3, [.int (nI 200), .int (nI 5), .ref aN, .int (nI nn)])), (aN, .inl (cI, 200 * 5, .inl (fl 5 N))), (hB, .inr (3, [.int (nI 20), .int (nI 4), .ref aB, .int (nI nb)])), (aB, .inl (cI, 20 * 4, .inl (fl 4 B))), (hE, .inr (3, [.int (nI 200), .int (nI 6), .ref aE, .int (nI ne)])), (aE, .inl (cI, 200 * 6, .inl (fl 6 E)))] [(o, .inr (4, [.ref pe, .ref hu, .ref na, .ref hB, .ref hE, .int td])), (pe, .inr (2, [.ref hP_])), (hP_, .inr (3, [.int (nI 24), .int (nI 6), .ref aP, .int (nI np)])), (aP, .inl (cI, 24 * 6, .inl (fl 6 P))), (hu, .inr (0, [.ref hH])), (hH, .inr (3, [.int (nI 5), .int (nI 6), .ref aH, .int (nI (if okH kd sn sd rs lt = true then adn 5 nh else nh))])), (aH, .inl (cI, 5 * 6, .inl (fl 6 (if okH kd sn sd rs lt = true then haddT nh G kd sn sd rs lt else G)))), (na, .inr (1, [.ref hN, .ref pe])), (hN, .inr (3, [.int (nI 200), .int (nI 5), .ref aN, .int (nI nn)])), (aN, .inl (cI, 200 * 5, .inl (fl 5 N))), (hB, .inr (3, [.int (nI 20), .int (nI 4), .ref aB, .int (nI nb)])), (aB, .inl (cI, 20 * 4, .inl (fl 4 B))), (hE, .inr (3, [.int (nI 200), .int (nI 6), .ref aE, .int (nI ne)])), (aE, .inl (cI, 200 * 6, .inl (fl 6 E)))]) 0 0 (adr [(o, .inr (4, [.ref pe, .ref hu, .ref na, .ref hB, .ref hE, .int td])), (pe, .inr (2, [.ref hP_])), (hP_, .inr (3, [.int (nI 24), .int (nI 6), .ref aP, .int (nI np)])), (aP, .inl (cI, 24 * 6, .inl (fl 6 P))), (hu, .inr (0, [.ref hH])), (hH, .inr (3, [.int (nI 5), .int (nI 6), .ref aH, .int (nI nh)])), (aH, .inl (cI, 5 * 6, .inl (fl 6 G))), (na, .inr (1, [.ref hN, .ref pe])), (hN, .inr (3, [.int (nI 200), .int (nI 5), .ref aN, .int (nI nn)])), (aN, .inl (cI, 200 * 5, .inl (fl 5 N))), (hB, .inr (3, [.int (nI 20), .int (nI 4), .ref aB, .int (nI nb)])), (aB, .inl (cI, 20 * 4, .inl (fl 4 B))), (hE, .inr (3, [.int (nI 200), .int (nI 6), .ref aE, .int (nI ne)])), (aE, .inl (cI, 200 * 6, .inl (fl 6 E)))]) := by
  refine mu_of (cc := cX4_house) (maxL := 6) (ret := (some .int)) (by decide) rfl (Nat.le_of_ble_eq_true rfl) ?_
  intro pp ee ss mm bw me cd ls hx hb hr hts hown hlocks hml hK hl H locs hP hD hS
  have hl : lv_has ls 6 [(0, .ref o), (1, .int kd), (2, .int sn), (3, .int sd), (4, .int rs), (5, .int lt)] := hl
  have hf19 := hts (.fieldLink RX4 19 "OtherNames" "houses" "LOtherNames$Houses;") (by decide +kernel)
  have hin4 := (show ∀ w ∈ wsX40, w ∈ wsX4_house by decide +kernel)
  refine lv_aload_n hx hb dX4_house_0 rfl (lv_at hl 0 rfl) ?_
  refine va_get (D := D) (ci := 4) (v := .ref hu) (C := RX4) (T := TX4) (N := 6) hx hb hts hin4 hown hK hP 0 rfl rfl 1 (by decide) hf19 (fun _ h9 => h9) rfl dX4_house_1 ?_
  refine lv_iload_n hx hb dX4_house_4 rfl (lv_at hl 1 rfl) ?_
  refine lv_iload_n hx hb dX4_house_5 rfl (lv_at hl 2 rfl) ?_
  refine lv_iload_n hx hb dX4_house_6 rfl (lv_at hl 3 rfl) ?_
  refine lv_iload hx hb dX4_house_7 (lv_at hl 4 rfl) ?_
  refine lv_iload hx hb dX4_house_9 (lv_at hl 5 rfl) ?_
  refine mcV (As := [.int kd, .int sn, .int sd, .int rs, .int lt]) (rest := []) (ci := 0) (wn := [(o, .inr (4, [.ref pe, .ref hu, .ref na, .ref hB, .ref hE, .int td])), (pe, .inr (2, [.ref hP_])), (hP_, .inr (3, [.int (nI 24), .int (nI 6), .ref aP, .int (nI np)])), (aP, .inl (cI, 24 * 6, .inl (fl 6 P))), (hu, .inr (0, [.ref hH])), (hH, .inr (3, [.int (nI 5), .int (nI 6), .ref aH, .int (nI (if okH kd sn sd rs lt = true then adn 5 nh else nh))])), (aH, .inl (cI, 5 * 6, .inl (fl 6 (if okH kd sn sd rs lt = true then haddT nh G kd sn sd rs lt else G)))), (na, .inr (1, [.ref hN, .ref pe])), (hN, .inr (3, [.int (nI 200), .int (nI 5), .ref aN, .int (nI nn)])), (aN, .inl (cI, 200 * 5, .inl (fl 5 N))), (hB, .inr (3, [.int (nI 20), .int (nI 4), .ref aB, .int (nI nb)])), (aB, .inl (cI, 20 * 4, .inl (fl 4 B))), (hE, .inr (3, [.int (nI 200), .int (nI 6), .ref aE, .int (nI ne)])), (aE, .inl (cI, 200 * 6, .inl (fl 6 E)))]) ⟨hx, hb, hml, hown, hts⟩ (kX0_add l D cI cZ hu hH aH nh G kd sn sd rs lt (by first | assumption | omega)) (cwV 5 hts gX4_house_X0_add rfl rfl rfl (by decide +kernel) ⟨Nat.le_of_ble_eq_true rfl, Nat.le_of_ble_eq_true rfl⟩) hK hP hD hS [4, 5, 6] rfl rfl rfl rfl rfl rfl rfl rfl rfl hl.1 rfl (Nat.le_of_ble_eq_true rfl) ⟨Nat.zero_le _, Nat.zero_le _⟩ dX4_house_11 (fun H locs hP hD hS => ?_)
  refine W.eq (g2 := F0 mm 14 ls (.int (if okH kd sn sd rs lt = true then arow 5 nh else -1) :: [])) rfl ?_
  refine mu_iret hx hb hr hlocks hS dX4_house_14 ?_ ?_
  · rfl
  exact hP
set_option maxHeartbeats 4000000 in
set_option maxRecDepth 100000 in
theorem kX4_day (l : Launch) (D : va_G) (cI cZ : ClassId) (o pe hP_ aP hu hH aH na hN aN hB aB hE aE np nh nn nb ne : Nat) (td : Int32) (P G N B E : Nat → Nat → Int32) (n : Int32) (hnp : np ≤ 24) (hnh : nh ≤ 5) (hnn : nn ≤ 200) (hnb : nb ≤ 20) (hne : ne ≤ 200) (hw : HP np (P 4)) (ho : HO nn np N) : Met l yX4_day wsX4_day ({ frames := 1, cells := 0, slots := 0, locals := 20 } : Room) (MuP D [(cI, .int), (cZ, .boolean)] [.ref o, .int n] [(o, .inr (4, [.ref pe, .ref hu, .ref na, .ref hB, .ref hE, .int td])), (pe, .inr (2, [.ref hP_])), (hP_, .inr (3, [.int (nI 24), .int (nI 6), .ref aP, .int (nI np)])), (aP, .inl (cI, 24 * 6, .inl (fl 6 P))), (hu, .inr (0, [.ref hH])), (hH, .inr (3, [.int (nI 5), .int (nI 6), .ref aH, .int (nI nh)])), (aH, .inl (cI, 5 * 6, .inl (fl 6 G))), (na, .inr (1, [.ref hN, .ref pe])), (hN, .inr (3, [.int (nI 200), .int (nI 5), .ref aN, .int (nI nn)])), (aN, .inl (cI, 200 * 5, .inl (fl 5 N))), (hB, .inr (3, [.int (nI 20), .int (nI 4), .ref aB, .int (nI nb)])), (aB, .inl (cI, 20 * 4, .inl (fl 4 B))), (hE, .inr (3, [.int (nI 200), .int (nI 6), .ref aE, .int (nI ne)])), (aE, .inl (cI, 200 * 6, .inl (fl 6 E)))]) (QM D (some (.int (bI (inB n 0 3000 && decide (td ≤ n))))) [(o, .inr (4, [.ref pe, .ref hu, .ref na, .ref hB, .ref hE, .int td])), (pe, .inr (2, [.ref hP_])), (hP_, .inr (3, [.int (nI 24), .int (nI 6), .ref aP, .int (nI np)])), (aP, .inl (cI, 24 * 6, .inl (fl 6 P))), (hu, .inr (0, [.ref hH])), (hH, .inr (3, [.int (nI 5), .int (nI 6), .ref aH, .int (nI nh)])), (aH, .inl (cI, 5 * 6, .inl (fl 6 G))), (na, .inr (1, [.ref hN, .ref pe])), (hN, .inr (3, [.int (nI 200), .int (nI 5), .ref aN, .int (nI nn)])), (aN, .inl (cI, 200 * 5, .inl (fl 5 N))), (hB, .inr (3, [.int (nI 20), .int (nI 4), .ref aB, .int (nI nb)])), (aB, .inl (cI, 20 * 4, .inl (fl 4 B))), (hE, .inr (3, [.int (nI 200), .int (nI 6), .ref aE, .int (nI ne)])), (aE, .inl (cI, 200 * 6, .inl (fl 6 E)))] [(o, .inr (4, [.ref pe, .ref hu, .ref na, .ref hB, .ref hE, .int (if (inB n 0 3000 && decide (td ≤ n)) = true then n else td)])), (pe, .inr (2, [.ref hP_])), (hP_, .inr (3, [.int (nI 24), .int (nI 6), .ref aP, .int (nI np)])), (aP, .inl (cI, 24 * 6, .inl (fl 6 P))), (hu, .inr (0, [.ref hH])), (hH, .inr (3, [.int (nI 5), .int (nI 6), .ref aH, .int (nI nh)])), (aH, .inl (cI, 5 * 6, .inl (fl 6 G))), (na, .inr (1, [.ref hN, .ref pe])), (hN, .inr (3, [.int (nI 200), .int (nI 5), .ref aN, .int (nI nn)])), (aN, .inl (cI, 200 * 5, .inl (fl 5 N))), (hB, .inr (3, [.int (nI 20), .int (nI 4), .ref aB, .int (nI nb)])), (aB, .inl (cI, 20 * 4, .inl (fl 4 B))), (hE, .inr (3, [.int (nI 200), .int (nI 6), .ref aE, .int (nI ne)])), (aE, .inl (cI, 200 * 6, .inl (fl 6 E)))]) 0 0 (adr [(o, .inr (4, [.ref pe, .ref hu, .ref na, .ref hB, .ref hE, .int td])), (pe, .inr (2, [.ref hP_])), (hP_, .inr (3, [.int (nI 24), .int (nI 6), .ref aP, .int (nI np)])), (aP, .inl (cI, 24 * 6, .inl (fl 6 P))), (hu, .inr (0, [.ref hH])), (hH, .inr (3, [.int (nI 5), .int (nI 6), .ref aH, .int (nI nh)])), (aH, .inl (cI, 5 * 6, .inl (fl 6 G))), (na, .inr (1, [.ref hN, .ref pe])), (hN, .inr (3, [.int (nI 200), .int (nI 5), .ref aN, .int (nI nn)])), (aN, .inl (cI, 200 * 5, .inl (fl 5 N))), (hB, .inr (3, [.int (nI 20), .int (nI 4), .ref aB, .int (nI nb)])), (aB, .inl (cI, 20 * 4, .inl (fl 4 B))), (hE, .inr (3, [.int (nI 200), .int (nI 6), .ref aE, .int (nI ne)])), (aE, .inl (cI, 200 * 6, .inl (fl 6 E)))]) := by
  refine mu_of (cc := cX4_day) (maxL := 2) (ret := (some .boolean)) (by decide) rfl (Nat.le_of_ble_eq_true rfl) ?_
  intro pp ee ss mm bw me cd ls hx hb hr hts hown hlocks hml hK hl H locs hP hD hS
  have hl : lv_has ls 2 [(0, .ref o), (1, .int n)] := hl
  have hf44 := hts (.fieldLink RX4 44 "OtherNames" "today" "I") (by decide +kernel)
  have hin4 := (show ∀ w ∈ wsX40, w ∈ wsX4_day by decide +kernel)
  refine lv_iload_n hx hb dX4_day_0 rfl (lv_at hl 1 rfl) ?_
  refine rcS (As := [.int n]) (rest := []) ⟨hx, hb, hml, hown, hts⟩ (kX4_isDay l D cI cZ n) (va_cwS 1 hts gX4_day_X4_isDay rfl rfl rfl (by decide +kernel) ⟨Nat.le_of_ble_eq_true rfl, Nat.le_of_ble_eq_true rfl⟩) hK hP [] rfl rfl hl.1 rfl (Nat.le_of_ble_eq_true rfl) ⟨Nat.zero_le _, Nat.zero_le _⟩ dX4_day_1 ?_
  refine lb_eq (tgt := 15) hx hb dX4_day_4 (by decide) (fun c_4 => ?_) (fun c_4 => ?_)
  · skip
    refine lv_iconst (v := 0) hx hb dX4_day_15 (by decide) ?_
    refine mu_zret hx hb hr hlocks hS dX4_day_16 ?_ ?_
    · simp [bI, c_4]
    have q0 : (if (inB n 0 3000 && decide (td ≤ n)) = true then n else td) = (td) := by simp [c_4]
    rw [q0]
    exact hP
  · skip
    refine lv_iload_n hx hb dX4_day_7 rfl (lv_at hl 1 rfl) ?_
    refine lv_aload_n hx hb dX4_day_8 rfl (lv_at hl 0 rfl) ?_
    refine va_get (D := D) (ci := 4) (v := .int td) (C := RX4) (T := TX4) (N := 6) hx hb hts hin4 hown hK hP 0 rfl rfl 5 (by decide) hf44 (fun _ h9 => h9) rfl dX4_day_9 ?_
    refine lv_icmp_ge (tgt := 17) hx hb dX4_day_12 (by decide) (fun c_12 => ?_) (fun c_12 => ?_)
    · skip
      refine lv_aload_n hx hb dX4_day_17 rfl (lv_at hl 0 rfl) ?_
      refine lv_iload_n hx hb dX4_day_18 rfl (lv_at hl 1 rfl) ?_
      refine va_put (D := D) (ci := 4) (v := .int n) (ty := .int) (C := RX4) (T := TX4) (N := 6) hx hb hts hin4 tyX4 tyX4_ok nmX4 hown hK hP hD hS 0 rfl rfl 5 (by decide) hf44 (fun _ h9 => h9) rfl (by decide +kernel) rfl rfl (Nat.le_of_ble_eq_true rfl) dX4_day_19 (fun H locs hP hD hS => ?_)
      have hP : va_P D vwCl [(o, .inr (4, [.ref pe, .ref hu, .ref na, .ref hB, .ref hE, .int n])), (pe, .inr (2, [.ref hP_])), (hP_, .inr (3, [.int (nI 24), .int (nI 6), .ref aP, .int (nI np)])), (aP, .inl (cI, 24 * 6, .inl (fl 6 P))), (hu, .inr (0, [.ref hH])), (hH, .inr (3, [.int (nI 5), .int (nI 6), .ref aH, .int (nI nh)])), (aH, .inl (cI, 5 * 6, .inl (fl 6 G))), (na, .inr (1, [.ref hN, .ref pe])), (hN, .inr (3, [.int (nI 200), .int (nI 5), .ref aN, .int (nI nn)])), (aN, .inl (cI, 200 * 5, .inl (fl 5 N))), (hB, .inr (3, [.int (nI 20), .int (nI 4), .ref aB, .int (nI nb)])), (aB, .inl (cI, 20 * 4, .inl (fl 4 B))), (hE, .inr (3, [.int (nI 200), .int (nI 6), .ref aE, .int (nI ne)])), (aE, .inl (cI, 200 * 6, .inl (fl 6 E)))] H := hP
      have hD : va_D (adr _) [(o, .inr (4, [.ref pe, .ref hu, .ref na, .ref hB, .ref hE, .int n])), (pe, .inr (2, [.ref hP_])), (hP_, .inr (3, [.int (nI 24), .int (nI 6), .ref aP, .int (nI np)])), (aP, .inl (cI, 24 * 6, .inl (fl 6 P))), (hu, .inr (0, [.ref hH])), (hH, .inr (3, [.int (nI 5), .int (nI 6), .ref aH, .int (nI nh)])), (aH, .inl (cI, 5 * 6, .inl (fl 6 G))), (na, .inr (1, [.ref hN, .ref pe])), (hN, .inr (3, [.int (nI 200), .int (nI 5), .ref aN, .int (nI nn)])), (aN, .inl (cI, 200 * 5, .inl (fl 5 N))), (hB, .inr (3, [.int (nI 20), .int (nI 4), .ref aB, .int (nI nb)])), (aB, .inl (cI, 20 * 4, .inl (fl 4 B))), (hE, .inr (3, [.int (nI 200), .int (nI 6), .ref aE, .int (nI ne)])), (aE, .inl (cI, 200 * 6, .inl (fl 6 E)))] := hD
      refine lv_iconst (v := 1) hx hb dX4_day_22 (by decide) ?_
      refine mu_zret hx hb hr hlocks hS dX4_day_23 ?_ ?_
      · simp [bI, c_4, c_12]
      have q0 : (if (inB n 0 3000 && decide (td ≤ n)) = true then n else td) = (n) := by simp [c_4, c_12]
      rw [q0]
      exact hP
    · skip
      refine lv_iconst (v := 0) hx hb dX4_day_15 (by decide) ?_
      refine mu_zret hx hb hr hlocks hS dX4_day_16 ?_ ?_
      · simp [bI, c_4, c_12]
      have q0 : (if (inB n 0 3000 && decide (td ≤ n)) = true then n else td) = (td) := by simp [c_4, c_12]
      rw [q0]
      exact hP
set_option maxHeartbeats 4000000 in
set_option maxRecDepth 100000 in
theorem kX4_one (l : Launch) (D : va_G) (cI cZ : ClassId) (o pe hP_ aP hu hH aH na hN aN hB aB hE aE np nh nn nb ne : Nat) (td : Int32) (P G N B E : Nat → Nat → Int32) (a : Int32) (b : Int32) (hnp : np ≤ 24) (hnh : nh ≤ 5) (hnn : nn ≤ 200) (hnb : nb ≤ 20) (hne : ne ≤ 200) (hw : HP np (P 4)) (ho : HO nn np N) : Met l yX4_one wsX4_one ({ frames := 5, cells := 0, slots := 0, locals := 111 } : Room) (MuP D [(cI, .int), (cZ, .boolean)] [.ref o, .int a, .int b] [(o, .inr (4, [.ref pe, .ref hu, .ref na, .ref hB, .ref hE, .int td])), (pe, .inr (2, [.ref hP_])), (hP_, .inr (3, [.int (nI 24), .int (nI 6), .ref aP, .int (nI np)])), (aP, .inl (cI, 24 * 6, .inl (fl 6 P))), (hu, .inr (0, [.ref hH])), (hH, .inr (3, [.int (nI 5), .int (nI 6), .ref aH, .int (nI nh)])), (aH, .inl (cI, 5 * 6, .inl (fl 6 G))), (na, .inr (1, [.ref hN, .ref pe])), (hN, .inr (3, [.int (nI 200), .int (nI 5), .ref aN, .int (nI nn)])), (aN, .inl (cI, 200 * 5, .inl (fl 5 N))), (hB, .inr (3, [.int (nI 20), .int (nI 4), .ref aB, .int (nI nb)])), (aB, .inl (cI, 20 * 4, .inl (fl 4 B))), (hE, .inr (3, [.int (nI 200), .int (nI 6), .ref aE, .int (nI ne)])), (aE, .inl (cI, 200 * 6, .inl (fl 6 E)))]) (QM D (some (.int (bI (okJ np P a b)))) [(o, .inr (4, [.ref pe, .ref hu, .ref na, .ref hB, .ref hE, .int td])), (pe, .inr (2, [.ref hP_])), (hP_, .inr (3, [.int (nI 24), .int (nI 6), .ref aP, .int (nI np)])), (aP, .inl (cI, 24 * 6, .inl (fl 6 P))), (hu, .inr (0, [.ref hH])), (hH, .inr (3, [.int (nI 5), .int (nI 6), .ref aH, .int (nI nh)])), (aH, .inl (cI, 5 * 6, .inl (fl 6 G))), (na, .inr (1, [.ref hN, .ref pe])), (hN, .inr (3, [.int (nI 200), .int (nI 5), .ref aN, .int (nI nn)])), (aN, .inl (cI, 200 * 5, .inl (fl 5 N))), (hB, .inr (3, [.int (nI 20), .int (nI 4), .ref aB, .int (nI nb)])), (aB, .inl (cI, 20 * 4, .inl (fl 4 B))), (hE, .inr (3, [.int (nI 200), .int (nI 6), .ref aE, .int (nI ne)])), (aE, .inl (cI, 200 * 6, .inl (fl 6 E)))] [(o, .inr (4, [.ref pe, .ref hu, .ref na, .ref hB, .ref hE, .int td])), (pe, .inr (2, [.ref hP_])), (hP_, .inr (3, [.int (nI 24), .int (nI 6), .ref aP, .int (nI np)])), (aP, .inl (cI, 24 * 6, .inl (fl 6 (joinT np P a b)))), (hu, .inr (0, [.ref hH])), (hH, .inr (3, [.int (nI 5), .int (nI 6), .ref aH, .int (nI nh)])), (aH, .inl (cI, 5 * 6, .inl (fl 6 G))), (na, .inr (1, [.ref hN, .ref pe])), (hN, .inr (3, [.int (nI 200), .int (nI 5), .ref aN, .int (nI nn)])), (aN, .inl (cI, 200 * 5, .inl (fl 5 N))), (hB, .inr (3, [.int (nI 20), .int (nI 4), .ref aB, .int (nI nb)])), (aB, .inl (cI, 20 * 4, .inl (fl 4 B))), (hE, .inr (3, [.int (nI 200), .int (nI 6), .ref aE, .int (nI ne)])), (aE, .inl (cI, 200 * 6, .inl (fl 6 E)))]) 0 0 (adr [(o, .inr (4, [.ref pe, .ref hu, .ref na, .ref hB, .ref hE, .int td])), (pe, .inr (2, [.ref hP_])), (hP_, .inr (3, [.int (nI 24), .int (nI 6), .ref aP, .int (nI np)])), (aP, .inl (cI, 24 * 6, .inl (fl 6 P))), (hu, .inr (0, [.ref hH])), (hH, .inr (3, [.int (nI 5), .int (nI 6), .ref aH, .int (nI nh)])), (aH, .inl (cI, 5 * 6, .inl (fl 6 G))), (na, .inr (1, [.ref hN, .ref pe])), (hN, .inr (3, [.int (nI 200), .int (nI 5), .ref aN, .int (nI nn)])), (aN, .inl (cI, 200 * 5, .inl (fl 5 N))), (hB, .inr (3, [.int (nI 20), .int (nI 4), .ref aB, .int (nI nb)])), (aB, .inl (cI, 20 * 4, .inl (fl 4 B))), (hE, .inr (3, [.int (nI 200), .int (nI 6), .ref aE, .int (nI ne)])), (aE, .inl (cI, 200 * 6, .inl (fl 6 E)))]) := by
  refine mu_of (cc := cX4_one) (maxL := 3) (ret := (some .boolean)) (by decide) rfl (Nat.le_of_ble_eq_true rfl) ?_
  intro pp ee ss mm bw me cd ls hx hb hr hts hown hlocks hml hK hl H locs hP hD hS
  have hl : lv_has ls 3 [(0, .ref o), (1, .int a), (2, .int b)] := hl
  have hf10 := hts (.fieldLink RX4 10 "OtherNames" "people" "LOtherNames$People;") (by decide +kernel)
  have hin4 := (show ∀ w ∈ wsX40, w ∈ wsX4_one by decide +kernel)
  refine lv_aload_n hx hb dX4_one_0 rfl (lv_at hl 0 rfl) ?_
  refine va_get (D := D) (ci := 4) (v := .ref pe) (C := RX4) (T := TX4) (N := 6) hx hb hts hin4 hown hK hP 0 rfl rfl 0 (by decide) hf10 (fun _ h9 => h9) rfl dX4_one_1 ?_
  refine lv_iload_n hx hb dX4_one_4 rfl (lv_at hl 1 rfl) ?_
  refine lv_iload_n hx hb dX4_one_5 rfl (lv_at hl 2 rfl) ?_
  refine mcV (As := [.int a, .int b]) (rest := []) (ci := 2) (wn := [(o, .inr (4, [.ref pe, .ref hu, .ref na, .ref hB, .ref hE, .int td])), (pe, .inr (2, [.ref hP_])), (hP_, .inr (3, [.int (nI 24), .int (nI 6), .ref aP, .int (nI np)])), (aP, .inl (cI, 24 * 6, .inl (fl 6 (joinT np P a b)))), (hu, .inr (0, [.ref hH])), (hH, .inr (3, [.int (nI 5), .int (nI 6), .ref aH, .int (nI nh)])), (aH, .inl (cI, 5 * 6, .inl (fl 6 G))), (na, .inr (1, [.ref hN, .ref pe])), (hN, .inr (3, [.int (nI 200), .int (nI 5), .ref aN, .int (nI nn)])), (aN, .inl (cI, 200 * 5, .inl (fl 5 N))), (hB, .inr (3, [.int (nI 20), .int (nI 4), .ref aB, .int (nI nb)])), (aB, .inl (cI, 20 * 4, .inl (fl 4 B))), (hE, .inr (3, [.int (nI 200), .int (nI 6), .ref aE, .int (nI ne)])), (aE, .inl (cI, 200 * 6, .inl (fl 6 E)))]) ⟨hx, hb, hml, hown, hts⟩ (kX2_join l D cI cZ pe hP_ aP np P a b (by first | assumption | omega) (by first | assumption | omega)) (cwV 2 hts gX4_one_X2_join rfl rfl rfl (by decide +kernel) ⟨Nat.le_of_ble_eq_true rfl, Nat.le_of_ble_eq_true rfl⟩) hK hP hD hS [1, 2, 3] rfl rfl rfl rfl rfl rfl rfl rfl rfl hl.1 rfl (Nat.le_of_ble_eq_true rfl) ⟨Nat.zero_le _, Nat.zero_le _⟩ dX4_one_6 (fun H locs hP hD hS => ?_)
  refine W.eq (g2 := F0 mm 9 ls (.int (bI (okJ np P a b)) :: [])) rfl ?_
  refine mu_zret hx hb hr hlocks hS dX4_one_9 ?_ ?_
  · rfl
  exact hP
set_option maxHeartbeats 4000000 in
set_option maxRecDepth 100000 in
theorem kX4_part (l : Launch) (D : va_G) (cI cZ : ClassId) (o pe hP_ aP hu hH aH na hN aN hB aB hE aE np nh nn nb ne : Nat) (td : Int32) (P G N B E : Nat → Nat → Int32) (p : Int32) (hnp : np ≤ 24) (hnh : nh ≤ 5) (hnn : nn ≤ 200) (hnb : nb ≤ 20) (hne : ne ≤ 200) (hw : HP np (P 4)) (ho : HO nn np N) : Met l yX4_part wsX4_part ({ frames := 4, cells := 0, slots := 0, locals := 86 } : Room) (MuP D [(cI, .int), (cZ, .boolean)] [.ref o, .int p] [(o, .inr (4, [.ref pe, .ref hu, .ref na, .ref hB, .ref hE, .int td])), (pe, .inr (2, [.ref hP_])), (hP_, .inr (3, [.int (nI 24), .int (nI 6), .ref aP, .int (nI np)])), (aP, .inl (cI, 24 * 6, .inl (fl 6 P))), (hu, .inr (0, [.ref hH])), (hH, .inr (3, [.int (nI 5), .int (nI 6), .ref aH, .int (nI nh)])), (aH, .inl (cI, 5 * 6, .inl (fl 6 G))), (na, .inr (1, [.ref hN, .ref pe])), (hN, .inr (3, [.int (nI 200), .int (nI 5), .ref aN, .int (nI nn)])), (aN, .inl (cI, 200 * 5, .inl (fl 5 N))), (hB, .inr (3, [.int (nI 20), .int (nI 4), .ref aB, .int (nI nb)])), (aB, .inl (cI, 20 * 4, .inl (fl 4 B))), (hE, .inr (3, [.int (nI 200), .int (nI 6), .ref aE, .int (nI ne)])), (aE, .inl (cI, 200 * 6, .inl (fl 6 E)))]) (QM D (some (.int (bI (!decide (tat np 6 P p 4 = -1))))) [(o, .inr (4, [.ref pe, .ref hu, .ref na, .ref hB, .ref hE, .int td])), (pe, .inr (2, [.ref hP_])), (hP_, .inr (3, [.int (nI 24), .int (nI 6), .ref aP, .int (nI np)])), (aP, .inl (cI, 24 * 6, .inl (fl 6 P))), (hu, .inr (0, [.ref hH])), (hH, .inr (3, [.int (nI 5), .int (nI 6), .ref aH, .int (nI nh)])), (aH, .inl (cI, 5 * 6, .inl (fl 6 G))), (na, .inr (1, [.ref hN, .ref pe])), (hN, .inr (3, [.int (nI 200), .int (nI 5), .ref aN, .int (nI nn)])), (aN, .inl (cI, 200 * 5, .inl (fl 5 N))), (hB, .inr (3, [.int (nI 20), .int (nI 4), .ref aB, .int (nI nb)])), (aB, .inl (cI, 20 * 4, .inl (fl 4 B))), (hE, .inr (3, [.int (nI 200), .int (nI 6), .ref aE, .int (nI ne)])), (aE, .inl (cI, 200 * 6, .inl (fl 6 E)))] [(o, .inr (4, [.ref pe, .ref hu, .ref na, .ref hB, .ref hE, .int td])), (pe, .inr (2, [.ref hP_])), (hP_, .inr (3, [.int (nI 24), .int (nI 6), .ref aP, .int (nI np)])), (aP, .inl (cI, 24 * 6, .inl (fl 6 (if tat np 6 P p 4 = -1 then P else tput np 6 P p 4 (-1))))), (hu, .inr (0, [.ref hH])), (hH, .inr (3, [.int (nI 5), .int (nI 6), .ref aH, .int (nI nh)])), (aH, .inl (cI, 5 * 6, .inl (fl 6 G))), (na, .inr (1, [.ref hN, .ref pe])), (hN, .inr (3, [.int (nI 200), .int (nI 5), .ref aN, .int (nI nn)])), (aN, .inl (cI, 200 * 5, .inl (fl 5 N))), (hB, .inr (3, [.int (nI 20), .int (nI 4), .ref aB, .int (nI nb)])), (aB, .inl (cI, 20 * 4, .inl (fl 4 B))), (hE, .inr (3, [.int (nI 200), .int (nI 6), .ref aE, .int (nI ne)])), (aE, .inl (cI, 200 * 6, .inl (fl 6 E)))]) 0 0 (adr [(o, .inr (4, [.ref pe, .ref hu, .ref na, .ref hB, .ref hE, .int td])), (pe, .inr (2, [.ref hP_])), (hP_, .inr (3, [.int (nI 24), .int (nI 6), .ref aP, .int (nI np)])), (aP, .inl (cI, 24 * 6, .inl (fl 6 P))), (hu, .inr (0, [.ref hH])), (hH, .inr (3, [.int (nI 5), .int (nI 6), .ref aH, .int (nI nh)])), (aH, .inl (cI, 5 * 6, .inl (fl 6 G))), (na, .inr (1, [.ref hN, .ref pe])), (hN, .inr (3, [.int (nI 200), .int (nI 5), .ref aN, .int (nI nn)])), (aN, .inl (cI, 200 * 5, .inl (fl 5 N))), (hB, .inr (3, [.int (nI 20), .int (nI 4), .ref aB, .int (nI nb)])), (aB, .inl (cI, 20 * 4, .inl (fl 4 B))), (hE, .inr (3, [.int (nI 200), .int (nI 6), .ref aE, .int (nI ne)])), (aE, .inl (cI, 200 * 6, .inl (fl 6 E)))]) := by
  refine mu_of (cc := cX4_part) (maxL := 2) (ret := (some .boolean)) (by decide) rfl (Nat.le_of_ble_eq_true rfl) ?_
  intro pp ee ss mm bw me cd ls hx hb hr hts hown hlocks hml hK hl H locs hP hD hS
  have hl : lv_has ls 2 [(0, .ref o), (1, .int p)] := hl
  have hf10 := hts (.fieldLink RX4 10 "OtherNames" "people" "LOtherNames$People;") (by decide +kernel)
  have hin4 := (show ∀ w ∈ wsX40, w ∈ wsX4_part by decide +kernel)
  refine lv_aload_n hx hb dX4_part_0 rfl (lv_at hl 0 rfl) ?_
  refine va_get (D := D) (ci := 4) (v := .ref pe) (C := RX4) (T := TX4) (N := 6) hx hb hts hin4 hown hK hP 0 rfl rfl 0 (by decide) hf10 (fun _ h9 => h9) rfl dX4_part_1 ?_
  refine lv_iload_n hx hb dX4_part_4 rfl (lv_at hl 1 rfl) ?_
  refine mcV (As := [.int p]) (rest := []) (ci := 2) (wn := [(o, .inr (4, [.ref pe, .ref hu, .ref na, .ref hB, .ref hE, .int td])), (pe, .inr (2, [.ref hP_])), (hP_, .inr (3, [.int (nI 24), .int (nI 6), .ref aP, .int (nI np)])), (aP, .inl (cI, 24 * 6, .inl (fl 6 (if tat np 6 P p 4 = -1 then P else tput np 6 P p 4 (-1))))), (hu, .inr (0, [.ref hH])), (hH, .inr (3, [.int (nI 5), .int (nI 6), .ref aH, .int (nI nh)])), (aH, .inl (cI, 5 * 6, .inl (fl 6 G))), (na, .inr (1, [.ref hN, .ref pe])), (hN, .inr (3, [.int (nI 200), .int (nI 5), .ref aN, .int (nI nn)])), (aN, .inl (cI, 200 * 5, .inl (fl 5 N))), (hB, .inr (3, [.int (nI 20), .int (nI 4), .ref aB, .int (nI nb)])), (aB, .inl (cI, 20 * 4, .inl (fl 4 B))), (hE, .inr (3, [.int (nI 200), .int (nI 6), .ref aE, .int (nI ne)])), (aE, .inl (cI, 200 * 6, .inl (fl 6 E)))]) ⟨hx, hb, hml, hown, hts⟩ (kX2_leave l D cI cZ pe hP_ aP np P p (by first | assumption | omega)) (cwV 1 hts gX4_part_X2_leave rfl rfl rfl (by decide +kernel) ⟨Nat.le_of_ble_eq_true rfl, Nat.le_of_ble_eq_true rfl⟩) hK hP hD hS [1, 2, 3] rfl rfl rfl rfl rfl rfl rfl rfl rfl hl.1 rfl (Nat.le_of_ble_eq_true rfl) ⟨Nat.zero_le _, Nat.zero_le _⟩ dX4_part_5 (fun H locs hP hD hS => ?_)
  refine W.eq (g2 := F0 mm 8 ls (.int (bI (!decide (tat np 6 P p 4 = -1))) :: [])) rfl ?_
  refine mu_zret hx hb hr hlocks hS dX4_part_8 ?_ ?_
  · rfl
  exact hP
set_option maxHeartbeats 4000000 in
set_option maxRecDepth 100000 in
theorem kX4_strike (l : Launch) (D : va_G) (cI cZ : ClassId) (o pe hP_ aP hu hH aH na hN aN hB aB hE aE np nh nn nb ne : Nat) (td : Int32) (P G N B E : Nat → Nat → Int32) (p : Int32) (hnp : np ≤ 24) (hnh : nh ≤ 5) (hnn : nn ≤ 200) (hnb : nb ≤ 20) (hne : ne ≤ 200) (hw : HP np (P 4)) (ho : HO nn np N) : Met l yX4_strike wsX4_strike ({ frames := 5, cells := 0, slots := 0, locals := 110 } : Room) (MuP D [(cI, .int), (cZ, .boolean)] [.ref o, .int p] [(o, .inr (4, [.ref pe, .ref hu, .ref na, .ref hB, .ref hE, .int td])), (pe, .inr (2, [.ref hP_])), (hP_, .inr (3, [.int (nI 24), .int (nI 6), .ref aP, .int (nI np)])), (aP, .inl (cI, 24 * 6, .inl (fl 6 P))), (hu, .inr (0, [.ref hH])), (hH, .inr (3, [.int (nI 5), .int (nI 6), .ref aH, .int (nI nh)])), (aH, .inl (cI, 5 * 6, .inl (fl 6 G))), (na, .inr (1, [.ref hN, .ref pe])), (hN, .inr (3, [.int (nI 200), .int (nI 5), .ref aN, .int (nI nn)])), (aN, .inl (cI, 200 * 5, .inl (fl 5 N))), (hB, .inr (3, [.int (nI 20), .int (nI 4), .ref aB, .int (nI nb)])), (aB, .inl (cI, 20 * 4, .inl (fl 4 B))), (hE, .inr (3, [.int (nI 200), .int (nI 6), .ref aE, .int (nI ne)])), (aE, .inl (cI, 200 * 6, .inl (fl 6 E)))]) (QM D (some (.int (bI (inR np p && !isSt np P p)))) [(o, .inr (4, [.ref pe, .ref hu, .ref na, .ref hB, .ref hE, .int td])), (pe, .inr (2, [.ref hP_])), (hP_, .inr (3, [.int (nI 24), .int (nI 6), .ref aP, .int (nI np)])), (aP, .inl (cI, 24 * 6, .inl (fl 6 P))), (hu, .inr (0, [.ref hH])), (hH, .inr (3, [.int (nI 5), .int (nI 6), .ref aH, .int (nI nh)])), (aH, .inl (cI, 5 * 6, .inl (fl 6 G))), (na, .inr (1, [.ref hN, .ref pe])), (hN, .inr (3, [.int (nI 200), .int (nI 5), .ref aN, .int (nI nn)])), (aN, .inl (cI, 200 * 5, .inl (fl 5 N))), (hB, .inr (3, [.int (nI 20), .int (nI 4), .ref aB, .int (nI nb)])), (aB, .inl (cI, 20 * 4, .inl (fl 4 B))), (hE, .inr (3, [.int (nI 200), .int (nI 6), .ref aE, .int (nI ne)])), (aE, .inl (cI, 200 * 6, .inl (fl 6 E)))] [(o, .inr (4, [.ref pe, .ref hu, .ref na, .ref hB, .ref hE, .int td])), (pe, .inr (2, [.ref hP_])), (hP_, .inr (3, [.int (nI 24), .int (nI 6), .ref aP, .int (nI np)])), (aP, .inl (cI, 24 * 6, .inl (fl 6 (if (inR np p && !isSt np P p) = true then strk np P (hd (P 4) p.toNatClampNeg) 24 else P)))), (hu, .inr (0, [.ref hH])), (hH, .inr (3, [.int (nI 5), .int (nI 6), .ref aH, .int (nI nh)])), (aH, .inl (cI, 5 * 6, .inl (fl 6 G))), (na, .inr (1, [.ref hN, .ref pe])), (hN, .inr (3, [.int (nI 200), .int (nI 5), .ref aN, .int (nI nn)])), (aN, .inl (cI, 200 * 5, .inl (fl 5 N))), (hB, .inr (3, [.int (nI 20), .int (nI 4), .ref aB, .int (nI nb)])), (aB, .inl (cI, 20 * 4, .inl (fl 4 B))), (hE, .inr (3, [.int (nI 200), .int (nI 6), .ref aE, .int (nI ne)])), (aE, .inl (cI, 200 * 6, .inl (fl 6 E)))]) 0 0 (adr [(o, .inr (4, [.ref pe, .ref hu, .ref na, .ref hB, .ref hE, .int td])), (pe, .inr (2, [.ref hP_])), (hP_, .inr (3, [.int (nI 24), .int (nI 6), .ref aP, .int (nI np)])), (aP, .inl (cI, 24 * 6, .inl (fl 6 P))), (hu, .inr (0, [.ref hH])), (hH, .inr (3, [.int (nI 5), .int (nI 6), .ref aH, .int (nI nh)])), (aH, .inl (cI, 5 * 6, .inl (fl 6 G))), (na, .inr (1, [.ref hN, .ref pe])), (hN, .inr (3, [.int (nI 200), .int (nI 5), .ref aN, .int (nI nn)])), (aN, .inl (cI, 200 * 5, .inl (fl 5 N))), (hB, .inr (3, [.int (nI 20), .int (nI 4), .ref aB, .int (nI nb)])), (aB, .inl (cI, 20 * 4, .inl (fl 4 B))), (hE, .inr (3, [.int (nI 200), .int (nI 6), .ref aE, .int (nI ne)])), (aE, .inl (cI, 200 * 6, .inl (fl 6 E)))]) := by
  refine mu_of (cc := cX4_strike) (maxL := 2) (ret := (some .boolean)) (by decide) rfl (Nat.le_of_ble_eq_true rfl) ?_
  intro pp ee ss mm bw me cd ls hx hb hr hts hown hlocks hml hK hl H locs hP hD hS
  have hl : lv_has ls 2 [(0, .ref o), (1, .int p)] := hl
  have hf10 := hts (.fieldLink RX4 10 "OtherNames" "people" "LOtherNames$People;") (by decide +kernel)
  have hin4 := (show ∀ w ∈ wsX40, w ∈ wsX4_strike by decide +kernel)
  refine lv_aload_n hx hb dX4_strike_0 rfl (lv_at hl 0 rfl) ?_
  refine va_get (D := D) (ci := 4) (v := .ref pe) (C := RX4) (T := TX4) (N := 6) hx hb hts hin4 hown hK hP 0 rfl rfl 0 (by decide) hf10 (fun _ h9 => h9) rfl dX4_strike_1 ?_
  refine lv_iload_n hx hb dX4_strike_4 rfl (lv_at hl 1 rfl) ?_
  refine mcV (As := [.int p]) (rest := []) (ci := 2) (wn := [(o, .inr (4, [.ref pe, .ref hu, .ref na, .ref hB, .ref hE, .int td])), (pe, .inr (2, [.ref hP_])), (hP_, .inr (3, [.int (nI 24), .int (nI 6), .ref aP, .int (nI np)])), (aP, .inl (cI, 24 * 6, .inl (fl 6 (if (inR np p && !isSt np P p) = true then strk np P (hd (P 4) p.toNatClampNeg) 24 else P)))), (hu, .inr (0, [.ref hH])), (hH, .inr (3, [.int (nI 5), .int (nI 6), .ref aH, .int (nI nh)])), (aH, .inl (cI, 5 * 6, .inl (fl 6 G))), (na, .inr (1, [.ref hN, .ref pe])), (hN, .inr (3, [.int (nI 200), .int (nI 5), .ref aN, .int (nI nn)])), (aN, .inl (cI, 200 * 5, .inl (fl 5 N))), (hB, .inr (3, [.int (nI 20), .int (nI 4), .ref aB, .int (nI nb)])), (aB, .inl (cI, 20 * 4, .inl (fl 4 B))), (hE, .inr (3, [.int (nI 200), .int (nI 6), .ref aE, .int (nI ne)])), (aE, .inl (cI, 200 * 6, .inl (fl 6 E)))]) ⟨hx, hb, hml, hown, hts⟩ (kX2_strikeOut l D cI cZ pe hP_ aP np P p (by first | assumption | omega) (by first | assumption | omega)) (cwV 1 hts gX4_strike_X2_strikeOut rfl rfl rfl (by decide +kernel) ⟨Nat.le_of_ble_eq_true rfl, Nat.le_of_ble_eq_true rfl⟩) hK hP hD hS [1, 2, 3] rfl rfl rfl rfl rfl rfl rfl rfl rfl hl.1 rfl (Nat.le_of_ble_eq_true rfl) ⟨Nat.zero_le _, Nat.zero_le _⟩ dX4_strike_5 (fun H locs hP hD hS => ?_)
  refine W.eq (g2 := F0 mm 8 ls (.int (bI (inR np p && !isSt np P p)) :: [])) rfl ?_
  refine mu_zret hx hb hr hlocks hS dX4_strike_8 ?_ ?_
  · rfl
  exact hP
set_option maxHeartbeats 4000000 in
set_option maxRecDepth 100000 in
theorem kX4_areTwoHouses (l : Launch) (D : va_G) (cI cZ : ClassId) (o pe hP_ aP hu hH aH na hN aN hB aB hE aE np nh nn nb ne : Nat) (td : Int32) (P G N B E : Nat → Nat → Int32) (h : Int32) (g : Int32) (hnp : np ≤ 24) (hnh : nh ≤ 5) (hnn : nn ≤ 200) (hnb : nb ≤ 20) (hne : ne ≤ 200) (hw : HP np (P 4)) (ho : HO nn np N) : Met l yX4_areTwoHouses wsX4_areTwoHouses ({ frames := 2, cells := 0, slots := 0, locals := 42 } : Room) (RdP D [(cI, .int), (cZ, .boolean)] [.ref o, .int h, .int g] [(o, .inr (4, [.ref pe, .ref hu, .ref na, .ref hB, .ref hE, .int td])), (pe, .inr (2, [.ref hP_])), (hP_, .inr (3, [.int (nI 24), .int (nI 6), .ref aP, .int (nI np)])), (aP, .inl (cI, 24 * 6, .inl (fl 6 P))), (hu, .inr (0, [.ref hH])), (hH, .inr (3, [.int (nI 5), .int (nI 6), .ref aH, .int (nI nh)])), (aH, .inl (cI, 5 * 6, .inl (fl 6 G))), (na, .inr (1, [.ref hN, .ref pe])), (hN, .inr (3, [.int (nI 200), .int (nI 5), .ref aN, .int (nI nn)])), (aN, .inl (cI, 200 * 5, .inl (fl 5 N))), (hB, .inr (3, [.int (nI 20), .int (nI 4), .ref aB, .int (nI nb)])), (aB, .inl (cI, 20 * 4, .inl (fl 4 B))), (hE, .inr (3, [.int (nI 200), .int (nI 6), .ref aE, .int (nI ne)])), (aE, .inl (cI, 200 * 6, .inl (fl 6 E)))]) (QcRead (bI (twoH nh h g))) 0 0 (fun _ => False) := by
  refine rd_of (cc := cX4_areTwoHouses) (maxL := 3) (ret := (some .boolean)) (by decide) rfl (Nat.le_of_ble_eq_true rfl) ?_
  intro pp ee ss mm bw me cd ls hx hb hr hts hown hlocks hml hP hK hl
  have hl : lv_has ls 3 [(0, .ref o), (1, .int h), (2, .int g)] := hl
  have hf19 := hts (.fieldLink RX4 19 "OtherNames" "houses" "LOtherNames$Houses;") (by decide +kernel)
  have hin4 := (show ∀ w ∈ wsX40, w ∈ wsX4_areTwoHouses by decide +kernel)
  refine lv_aload_n hx hb dX4_areTwoHouses_0 rfl (lv_at hl 0 rfl) ?_
  refine va_get (D := D) (ci := 4) (v := .ref hu) (C := RX4) (T := TX4) (N := 6) hx hb hts hin4 hown hK hP 0 rfl rfl 1 (by decide) hf19 (fun _ h9 => h9) rfl dX4_areTwoHouses_1 ?_
  refine lv_iload_n hx hb dX4_areTwoHouses_4 rfl (lv_at hl 1 rfl) ?_
  refine rcV (As := [.int h]) (rest := []) (ci := 0) ⟨hx, hb, hml, hown, hts⟩ (kX0_isThere l D cI cZ hu hH aH nh G h (by first | assumption | omega)) (cwV 1 hts gX4_areTwoHouses_X0_isThere rfl rfl rfl (by decide +kernel) ⟨Nat.le_of_ble_eq_true rfl, Nat.le_of_ble_eq_true rfl⟩) hK hP [4, 5, 6] rfl rfl rfl rfl rfl hl.1 rfl (Nat.le_of_ble_eq_true rfl) ⟨Nat.zero_le _, Nat.zero_le _⟩ dX4_areTwoHouses_5 ?_
  refine lb_eq (tgt := 31) hx hb dX4_areTwoHouses_8 (by decide) (fun c_8 => ?_) (fun c_8 => ?_)
  · skip
    refine lv_iconst (v := 0) hx hb dX4_areTwoHouses_31 (by decide) ?_
    exact rd_zret hx hb hr hlocks dX4_areTwoHouses_32 (by simp [bI, twoH, c_8])
  · skip
    refine lv_aload_n hx hb dX4_areTwoHouses_11 rfl (lv_at hl 0 rfl) ?_
    refine va_get (D := D) (ci := 4) (v := .ref hu) (C := RX4) (T := TX4) (N := 6) hx hb hts hin4 hown hK hP 0 rfl rfl 1 (by decide) hf19 (fun _ h9 => h9) rfl dX4_areTwoHouses_12 ?_
    refine lv_iload_n hx hb dX4_areTwoHouses_15 rfl (lv_at hl 2 rfl) ?_
    refine rcV (As := [.int g]) (rest := []) (ci := 0) ⟨hx, hb, hml, hown, hts⟩ (kX0_isThere l D cI cZ hu hH aH nh G g (by first | assumption | omega)) (cwV 1 hts gX4_areTwoHouses_X0_isThere rfl rfl rfl (by decide +kernel) ⟨Nat.le_of_ble_eq_true rfl, Nat.le_of_ble_eq_true rfl⟩) hK hP [4, 5, 6] rfl rfl rfl rfl rfl hl.1 rfl (Nat.le_of_ble_eq_true rfl) ⟨Nat.zero_le _, Nat.zero_le _⟩ dX4_areTwoHouses_16 ?_
    refine lb_eq (tgt := 31) hx hb dX4_areTwoHouses_19 (by decide) (fun c_19 => ?_) (fun c_19 => ?_)
    · skip
      refine lv_iconst (v := 0) hx hb dX4_areTwoHouses_31 (by decide) ?_
      exact rd_zret hx hb hr hlocks dX4_areTwoHouses_32 (by simp [bI, twoH, c_8, c_19])
    · skip
      refine lv_iload_n hx hb dX4_areTwoHouses_22 rfl (lv_at hl 1 rfl) ?_
      refine lv_iload_n hx hb dX4_areTwoHouses_23 rfl (lv_at hl 2 rfl) ?_
      refine lv_icmp_eq (tgt := 31) hx hb dX4_areTwoHouses_24 (by decide) (fun c_24 => ?_) (fun c_24 => ?_)
      · skip
        refine lv_iconst (v := 0) hx hb dX4_areTwoHouses_31 (by decide) ?_
        exact rd_zret hx hb hr hlocks dX4_areTwoHouses_32 (by simp [bI, twoH, c_8, c_19, c_24])
      · skip
        refine lv_iconst (v := 1) hx hb dX4_areTwoHouses_27 (by decide) ?_
        refine lv_goto (tgt := 32) hx hb dX4_areTwoHouses_28 (by decide) ?_
        exact rd_zret hx hb hr hlocks dX4_areTwoHouses_32 (by simp [bI, twoH, c_8, c_19, c_24])
set_option maxHeartbeats 4000000 in
set_option maxRecDepth 100000 in
theorem kX4_isTooSmall (l : Launch) (D : va_G) (cI cZ : ClassId) (o pe hP_ aP hu hH aH na hN aN hB aB hE aE np nh nn nb ne : Nat) (td : Int32) (P G N B E : Nat → Nat → Int32) (h : Int32) (n : Int32) (hnp : np ≤ 24) (hnh : nh ≤ 5) (hnn : nn ≤ 200) (hnb : nb ≤ 20) (hne : ne ≤ 200) (hw : HP np (P 4)) (ho : HO nn np N) : Met l yX4_isTooSmall wsX4_isTooSmall ({ frames := 3, cells := 0, slots := 0, locals := 65 } : Room) (RdP D [(cI, .int), (cZ, .boolean)] [.ref o, .int h, .int n] [(o, .inr (4, [.ref pe, .ref hu, .ref na, .ref hB, .ref hE, .int td])), (pe, .inr (2, [.ref hP_])), (hP_, .inr (3, [.int (nI 24), .int (nI 6), .ref aP, .int (nI np)])), (aP, .inl (cI, 24 * 6, .inl (fl 6 P))), (hu, .inr (0, [.ref hH])), (hH, .inr (3, [.int (nI 5), .int (nI 6), .ref aH, .int (nI nh)])), (aH, .inl (cI, 5 * 6, .inl (fl 6 G))), (na, .inr (1, [.ref hN, .ref pe])), (hN, .inr (3, [.int (nI 200), .int (nI 5), .ref aN, .int (nI nn)])), (aN, .inl (cI, 200 * 5, .inl (fl 5 N))), (hB, .inr (3, [.int (nI 20), .int (nI 4), .ref aB, .int (nI nb)])), (aB, .inl (cI, 20 * 4, .inl (fl 4 B))), (hE, .inr (3, [.int (nI 200), .int (nI 6), .ref aE, .int (nI ne)])), (aE, .inl (cI, 200 * 6, .inl (fl 6 E)))]) (QcRead (bI (smlB nh G h n))) 0 0 (fun _ => False) := by
  refine rd_of (cc := cX4_isTooSmall) (maxL := 3) (ret := (some .boolean)) (by decide) rfl (Nat.le_of_ble_eq_true rfl) ?_
  intro pp ee ss mm bw me cd ls hx hb hr hts hown hlocks hml hP hK hl
  have hl : lv_has ls 3 [(0, .ref o), (1, .int h), (2, .int n)] := hl
  have hf19 := hts (.fieldLink RX4 19 "OtherNames" "houses" "LOtherNames$Houses;") (by decide +kernel)
  have hin4 := (show ∀ w ∈ wsX40, w ∈ wsX4_isTooSmall by decide +kernel)
  refine lv_iload_n hx hb dX4_isTooSmall_0 rfl (lv_at hl 2 rfl) ?_
  refine lv_if_eq (tgt := 20) hx hb dX4_isTooSmall_1 (by decide) (fun c_1 => ?_) (fun c_1 => ?_)
  · skip
    refine lv_iconst (v := 0) hx hb dX4_isTooSmall_20 (by decide) ?_
    exact rd_zret hx hb hr hlocks dX4_isTooSmall_21 (by simp [bI, smlB, c_1])
  · skip
    refine lv_iload_n hx hb dX4_isTooSmall_4 rfl (lv_at hl 2 rfl) ?_
    refine lv_aload_n hx hb dX4_isTooSmall_5 rfl (lv_at hl 0 rfl) ?_
    refine va_get (D := D) (ci := 4) (v := .ref hu) (C := RX4) (T := TX4) (N := 6) hx hb hts hin4 hown hK hP 0 rfl rfl 1 (by decide) hf19 (fun _ h9 => h9) rfl dX4_isTooSmall_6 ?_
    refine lv_iload_n hx hb dX4_isTooSmall_9 rfl (lv_at hl 1 rfl) ?_
    refine rcV (As := [.int h]) (rest := [.int n]) (ci := 0) ⟨hx, hb, hml, hown, hts⟩ (kX0_leastOf l D cI cZ hu hH aH nh G h (by first | assumption | omega)) (cwV 1 hts gX4_isTooSmall_X0_leastOf rfl rfl rfl (by decide +kernel) ⟨Nat.le_of_ble_eq_true rfl, Nat.le_of_ble_eq_true rfl⟩) hK hP [4, 5, 6] rfl rfl rfl rfl rfl hl.1 rfl (Nat.le_of_ble_eq_true rfl) ⟨Nat.zero_le _, Nat.zero_le _⟩ dX4_isTooSmall_10 ?_
    refine lv_icmp_ge (tgt := 20) hx hb dX4_isTooSmall_13 (by decide) (fun c_13 => ?_) (fun c_13 => ?_)
    · skip
      refine lv_iconst (v := 0) hx hb dX4_isTooSmall_20 (by decide) ?_
      exact rd_zret hx hb hr hlocks dX4_isTooSmall_21 (by simp [bI, smlB, c_1, c_13])
    · skip
      refine lv_iconst (v := 1) hx hb dX4_isTooSmall_16 (by decide) ?_
      refine lv_goto (tgt := 21) hx hb dX4_isTooSmall_17 (by decide) ?_
      exact rd_zret hx hb hr hlocks dX4_isTooSmall_21 (by simp [bI, smlB, c_1, c_13])
set_option maxHeartbeats 4000000 in
set_option maxRecDepth 100000 in
theorem kX4_isBridged (l : Launch) (D : va_G) (cI cZ : ClassId) (o pe hP_ aP hu hH aH na hN aN hB aB hE aE np nh nn nb ne : Nat) (td : Int32) (P G N B E : Nat → Nat → Int32) (h : Int32) (g : Int32) (dy : Int32) (hnp : np ≤ 24) (hnh : nh ≤ 5) (hnn : nn ≤ 200) (hnb : nb ≤ 20) (hne : ne ≤ 200) (hw : HP np (P 4)) (ho : HO nn np N) : Met l yX4_isBridged wsX4_isBridged ({ frames := 2, cells := 0, slots := 0, locals := 44 } : Room) (RdP D [(cI, .int), (cZ, .boolean)] [.ref o, .int h, .int g, .int dy] [(o, .inr (4, [.ref pe, .ref hu, .ref na, .ref hB, .ref hE, .int td])), (pe, .inr (2, [.ref hP_])), (hP_, .inr (3, [.int (nI 24), .int (nI 6), .ref aP, .int (nI np)])), (aP, .inl (cI, 24 * 6, .inl (fl 6 P))), (hu, .inr (0, [.ref hH])), (hH, .inr (3, [.int (nI 5), .int (nI 6), .ref aH, .int (nI nh)])), (aH, .inl (cI, 5 * 6, .inl (fl 6 G))), (na, .inr (1, [.ref hN, .ref pe])), (hN, .inr (3, [.int (nI 200), .int (nI 5), .ref aN, .int (nI nn)])), (aN, .inl (cI, 200 * 5, .inl (fl 5 N))), (hB, .inr (3, [.int (nI 20), .int (nI 4), .ref aB, .int (nI nb)])), (aB, .inl (cI, 20 * 4, .inl (fl 4 B))), (hE, .inr (3, [.int (nI 200), .int (nI 6), .ref aE, .int (nI ne)])), (aE, .inl (cI, 200 * 6, .inl (fl 6 E)))]) (QcRead (bI (anys (brB B h g dy) nb))) 0 0 (fun _ => False) := by
  refine rd_of (cc := cX4_isBridged) (maxL := 6) (ret := (some .boolean)) (by decide) rfl (Nat.le_of_ble_eq_true rfl) ?_
  intro pp ee ss mm bw me cd ls hx hb hr hts hown hlocks hml hP hK hl
  have hl : lv_has ls 6 [(0, .ref o), (1, .int h), (2, .int g), (3, .int dy)] := hl
  have hf37 := hts (.fieldLink RX4 37 "OtherNames" "bridges" "LOtherNames$Rows;") (by decide +kernel)
  have hin4 := (show ∀ w ∈ wsX40, w ∈ wsX4_isBridged by decide +kernel)
  refine lv_iconst (v := 0) hx hb dX4_isBridged_0 (by decide) ?_
  refine lv_istore (lv' := [(4, .int 0), (0, .ref o), (1, .int h), (2, .int g), (3, .int dy)]) hx hb dX4_isBridged_1 hl (by decide) rfl (fun ls hl => ?_)
  have loop : ∀ (k : Nat) (i : Nat) (ls : Array Slot), i ≤ nb → (∀ j, j < i → brB B h g dy j = false) → nb < i + k → lv_has ls 6 [(0, .ref o), (1, .int h), (2, .int g), (3, .int dy), (4, .int (nI i))] → W pp l ee ({ frames := 2, cells := 0, slots := 0, locals := 44 } : Room) ss mm ([.ref o, .int h, .int g, .int dy] : List Value).toArray bw me cd ss.heap [] 0 0 (MQ bw (QcRead (bI (anys (brB B h g dy) nb))) ([.ref o, .int h, .int g, .int dy] : List Value).toArray ss 0 0 (fun _ => False)) (F0 mm 3 ls []) := by
    intro k
    induction k with
    | zero => intro i ls hi hno hk; exact absurd hk (by omega)
    | succ k ih =>
      intro i ls hi hno hk hl
      refine lv_iload hx hb dX4_isBridged_3 (lv_at hl 4 rfl) ?_
      refine lv_aload_n hx hb dX4_isBridged_5 rfl (lv_at hl 0 rfl) ?_
      refine va_get (D := D) (ci := 4) (v := .ref hB) (C := RX4) (T := TX4) (N := 6) hx hb hts hin4 hown hK hP 0 rfl rfl 3 (by decide) hf37 (fun _ h9 => h9) rfl dX4_isBridged_6 ?_
      refine rcV (As := []) (rest := [.int (nI i)]) (ci := 3) ⟨hx, hb, hml, hown, hts⟩ (kX3_size l D cI cZ hB aB 20 4 nb B (by first | assumption | omega)) (cwV 0 hts gX4_isBridged_X3_size rfl rfl rfl (by decide +kernel) ⟨Nat.le_of_ble_eq_true rfl, Nat.le_of_ble_eq_true rfl⟩) hK hP [10, 11] rfl rfl rfl rfl rfl hl.1 rfl (Nat.le_of_ble_eq_true rfl) ⟨Nat.zero_le _, Nat.zero_le _⟩ dX4_isBridged_9 ?_
      refine lv_icmp_ge (tgt := 91) hx hb dX4_isBridged_12 (by decide) (fun c_12 => ?_) (fun c_12 => ?_)
      · skip
        have hi2 : i = nb := Nat.le_antisymm hi (lit_T c_12 nb rfl (by omega) (by omega))
        refine lv_iconst (v := 0) hx hb dX4_isBridged_91 (by decide) ?_
        exact rd_zret hx hb hr hlocks dX4_isBridged_92 (by rw [hi2] at hno; rw [anys_no hno]; rfl)
      · skip
        have hi2 : i < nb := lit_F c_12 nb rfl (by omega) (by omega)
        refine lv_aload_n hx hb dX4_isBridged_15 rfl (lv_at hl 0 rfl) ?_
        refine va_get (D := D) (ci := 4) (v := .ref hB) (C := RX4) (T := TX4) (N := 6) hx hb hts hin4 hown hK hP 0 rfl rfl 3 (by decide) hf37 (fun _ h9 => h9) rfl dX4_isBridged_16 ?_
        refine lv_iload hx hb dX4_isBridged_19 (lv_at hl 4 rfl) ?_
        refine lv_iconst (v := 0) hx hb dX4_isBridged_21 (by decide) ?_
        refine rcV (As := [.int (nI i), .int 0]) (rest := []) (ci := 3) ⟨hx, hb, hml, hown, hts⟩ (kX3_at l D cI cZ hB aB 20 4 nb B (nI i) 0 (by first | assumption | omega)) (cwV 2 hts gX4_isBridged_X3_at rfl rfl rfl (by decide +kernel) ⟨Nat.le_of_ble_eq_true rfl, Nat.le_of_ble_eq_true rfl⟩) hK hP [10, 11] rfl rfl rfl rfl rfl hl.1 rfl (Nat.le_of_ble_eq_true rfl) ⟨Nat.zero_le _, Nat.zero_le _⟩ dX4_isBridged_22 ?_
        rw [show tat nb 4 B (nI i) 0 = (B 0 i) from tat_nI (c := 0) (by omega) (by omega) hi2 (by omega)]
        refine lv_iload_n hx hb dX4_isBridged_25 rfl (lv_at hl 1 rfl) ?_
        refine lv_icmp_ne (tgt := 47) hx hb dX4_isBridged_26 (by decide) (fun c_26 => ?_) (fun c_26 => ?_)
        · skip
          refine lv_iconst (v := 0) hx hb dX4_isBridged_47 (by decide) ?_
          refine lv_istore (lv' := [(5, .int 0), (0, .ref o), (1, .int h), (2, .int g), (3, .int dy), (4, .int (nI i))]) hx hb dX4_isBridged_48 hl (by decide) rfl (fun ls hl => ?_)
          refine lv_iload hx hb dX4_isBridged_50 (lv_at hl 0 rfl) ?_
          refine lv_if_eq (tgt := 85) hx hb dX4_isBridged_52 (by decide) (fun _ => ?_) (fun c9 => absurd c9 (by decide))
          refine lv_iinc (v := (nI i) + 1) (lv' := [(4, .int (((nI i) + 1))), (5, .int 0), (0, .ref o), (1, .int h), (2, .int g), (3, .int dy)]) hx hb dX4_isBridged_85 hl (k := 5) rfl rfl (by decide) rfl (fun ls hl => ?_)
          refine lv_goto (tgt := 3) hx hb dX4_isBridged_88 (by decide) ?_
          rw [nI_1 i] at hl
          exact ih (i + 1) ls (by omega) (noS hno (by simp [brB, c_12, c_26])) (by omega) (lv_sub hl [2, 3, 4, 5, 0] rfl)
        · skip
          refine lv_aload_n hx hb dX4_isBridged_29 rfl (lv_at hl 0 rfl) ?_
          refine va_get (D := D) (ci := 4) (v := .ref hB) (C := RX4) (T := TX4) (N := 6) hx hb hts hin4 hown hK hP 0 rfl rfl 3 (by decide) hf37 (fun _ h9 => h9) rfl dX4_isBridged_30 ?_
          refine lv_iload hx hb dX4_isBridged_33 (lv_at hl 4 rfl) ?_
          refine lv_iconst (v := 1) hx hb dX4_isBridged_35 (by decide) ?_
          refine rcV (As := [.int (nI i), .int 1]) (rest := []) (ci := 3) ⟨hx, hb, hml, hown, hts⟩ (kX3_at l D cI cZ hB aB 20 4 nb B (nI i) 1 (by first | assumption | omega)) (cwV 2 hts gX4_isBridged_X3_at rfl rfl rfl (by decide +kernel) ⟨Nat.le_of_ble_eq_true rfl, Nat.le_of_ble_eq_true rfl⟩) hK hP [10, 11] rfl rfl rfl rfl rfl hl.1 rfl (Nat.le_of_ble_eq_true rfl) ⟨Nat.zero_le _, Nat.zero_le _⟩ dX4_isBridged_36 ?_
          rw [show tat nb 4 B (nI i) 1 = (B 1 i) from tat_nI (c := 1) (by omega) (by omega) hi2 (by omega)]
          refine lv_iload_n hx hb dX4_isBridged_39 rfl (lv_at hl 2 rfl) ?_
          refine lv_icmp_ne (tgt := 47) hx hb dX4_isBridged_40 (by decide) (fun c_40 => ?_) (fun c_40 => ?_)
          · skip
            refine lv_iconst (v := 0) hx hb dX4_isBridged_47 (by decide) ?_
            refine lv_istore (lv' := [(5, .int 0), (0, .ref o), (1, .int h), (2, .int g), (3, .int dy), (4, .int (nI i))]) hx hb dX4_isBridged_48 hl (by decide) rfl (fun ls hl => ?_)
            refine lv_iload hx hb dX4_isBridged_50 (lv_at hl 0 rfl) ?_
            refine lv_if_eq (tgt := 85) hx hb dX4_isBridged_52 (by decide) (fun _ => ?_) (fun c9 => absurd c9 (by decide))
            refine lv_iinc (v := (nI i) + 1) (lv' := [(4, .int (((nI i) + 1))), (5, .int 0), (0, .ref o), (1, .int h), (2, .int g), (3, .int dy)]) hx hb dX4_isBridged_85 hl (k := 5) rfl rfl (by decide) rfl (fun ls hl => ?_)
            refine lv_goto (tgt := 3) hx hb dX4_isBridged_88 (by decide) ?_
            rw [nI_1 i] at hl
            exact ih (i + 1) ls (by omega) (noS hno (by simp [brB, c_12, c_26, c_40])) (by omega) (lv_sub hl [2, 3, 4, 5, 0] rfl)
          · skip
            refine lv_iconst (v := 1) hx hb dX4_isBridged_43 (by decide) ?_
            refine lv_goto (tgt := 48) hx hb dX4_isBridged_44 (by decide) ?_
            refine lv_istore (lv' := [(5, .int 1), (0, .ref o), (1, .int h), (2, .int g), (3, .int dy), (4, .int (nI i))]) hx hb dX4_isBridged_48 hl (by decide) rfl (fun ls hl => ?_)
            refine lv_iload hx hb dX4_isBridged_50 (lv_at hl 0 rfl) ?_
            refine lv_if_eq (tgt := 85) hx hb dX4_isBridged_52 (by decide) (fun c9 => absurd c9 (by decide)) (fun _ => ?_)
            refine lv_aload_n hx hb dX4_isBridged_55 rfl (lv_at hl 1 rfl) ?_
            refine va_get (D := D) (ci := 4) (v := .ref hB) (C := RX4) (T := TX4) (N := 6) hx hb hts hin4 hown hK hP 0 rfl rfl 3 (by decide) hf37 (fun _ h9 => h9) rfl dX4_isBridged_56 ?_
            refine lv_iload hx hb dX4_isBridged_59 (lv_at hl 5 rfl) ?_
            refine lv_iconst (v := 2) hx hb dX4_isBridged_61 (by decide) ?_
            refine rcV (As := [.int (nI i), .int 2]) (rest := []) (ci := 3) ⟨hx, hb, hml, hown, hts⟩ (kX3_at l D cI cZ hB aB 20 4 nb B (nI i) 2 (by first | assumption | omega)) (cwV 2 hts gX4_isBridged_X3_at rfl rfl rfl (by decide +kernel) ⟨Nat.le_of_ble_eq_true rfl, Nat.le_of_ble_eq_true rfl⟩) hK hP [10, 11] rfl rfl rfl rfl rfl hl.1 rfl (Nat.le_of_ble_eq_true rfl) ⟨Nat.zero_le _, Nat.zero_le _⟩ dX4_isBridged_62 ?_
            rw [show tat nb 4 B (nI i) 2 = (B 2 i) from tat_nI (c := 2) (by omega) (by omega) hi2 (by omega)]
            refine lv_iload_n hx hb dX4_isBridged_65 rfl (lv_at hl 4 rfl) ?_
            refine lv_icmp_gt (tgt := 85) hx hb dX4_isBridged_66 (by decide) (fun c_66 => ?_) (fun c_66 => ?_)
            · skip
              refine lv_iinc (v := (nI i) + 1) (lv' := [(4, .int (((nI i) + 1))), (5, .int 1), (0, .ref o), (1, .int h), (2, .int g), (3, .int dy)]) hx hb dX4_isBridged_85 hl (k := 5) rfl rfl (by decide) rfl (fun ls hl => ?_)
              refine lv_goto (tgt := 3) hx hb dX4_isBridged_88 (by decide) ?_
              rw [nI_1 i] at hl
              exact ih (i + 1) ls (by omega) (noS hno (by simp [brB, c_12, c_26, c_40, c_66])) (by omega) (lv_sub hl [2, 3, 4, 5, 0] rfl)
            · skip
              refine lv_iload_n hx hb dX4_isBridged_69 rfl (lv_at hl 4 rfl) ?_
              refine lv_aload_n hx hb dX4_isBridged_70 rfl (lv_at hl 1 rfl) ?_
              refine va_get (D := D) (ci := 4) (v := .ref hB) (C := RX4) (T := TX4) (N := 6) hx hb hts hin4 hown hK hP 0 rfl rfl 3 (by decide) hf37 (fun _ h9 => h9) rfl dX4_isBridged_71 ?_
              refine lv_iload hx hb dX4_isBridged_74 (lv_at hl 5 rfl) ?_
              refine lv_iconst (v := 3) hx hb dX4_isBridged_76 (by decide) ?_
              refine rcV (As := [.int (nI i), .int 3]) (rest := [.int dy]) (ci := 3) ⟨hx, hb, hml, hown, hts⟩ (kX3_at l D cI cZ hB aB 20 4 nb B (nI i) 3 (by first | assumption | omega)) (cwV 2 hts gX4_isBridged_X3_at rfl rfl rfl (by decide +kernel) ⟨Nat.le_of_ble_eq_true rfl, Nat.le_of_ble_eq_true rfl⟩) hK hP [10, 11] rfl rfl rfl rfl rfl hl.1 rfl (Nat.le_of_ble_eq_true rfl) ⟨Nat.zero_le _, Nat.zero_le _⟩ dX4_isBridged_77 ?_
              rw [show tat nb 4 B (nI i) 3 = (B 3 i) from tat_nI (c := 3) (by omega) (by omega) hi2 (by omega)]
              refine lv_icmp_gt (tgt := 85) hx hb dX4_isBridged_80 (by decide) (fun c_80 => ?_) (fun c_80 => ?_)
              · skip
                refine lv_iinc (v := (nI i) + 1) (lv' := [(4, .int (((nI i) + 1))), (5, .int 1), (0, .ref o), (1, .int h), (2, .int g), (3, .int dy)]) hx hb dX4_isBridged_85 hl (k := 5) rfl rfl (by decide) rfl (fun ls hl => ?_)
                refine lv_goto (tgt := 3) hx hb dX4_isBridged_88 (by decide) ?_
                rw [nI_1 i] at hl
                exact ih (i + 1) ls (by omega) (noS hno (by simp [brB, c_12, c_26, c_40, c_66, c_80])) (by omega) (lv_sub hl [2, 3, 4, 5, 0] rfl)
              · skip
                refine lv_iconst (v := 1) hx hb dX4_isBridged_83 (by decide) ?_
                exact rd_zret hx hb hr hlocks dX4_isBridged_84 (by rw [anys_yes (i := i) (by simp [brB, c_12, c_26, c_40, c_66, c_80]) hi2]; rfl)
  exact loop (nb + 1) 0 ls (by omega) (fun j hj => absurd hj (Nat.not_lt_zero j)) (by omega) (lv_sub hl [1, 2, 3, 4, 0] rfl)
set_option maxHeartbeats 4000000 in
set_option maxRecDepth 100000 in
theorem kX4_holds (l : Launch) (D : va_G) (cI cZ : ClassId) (o pe hP_ aP hu hH aH na hN aN hB aB hE aE np nh nn nb ne : Nat) (td : Int32) (P G N B E : Nat → Nat → Int32) (h : Int32) (g : Int32) (dy : Int32) (hnp : np ≤ 24) (hnh : nh ≤ 5) (hnn : nn ≤ 200) (hnb : nb ≤ 20) (hne : ne ≤ 200) (hw : HP np (P 4)) (ho : HO nn np N) : Met l yX4_holds wsX4_holds ({ frames := 3, cells := 0, slots := 0, locals := 69 } : Room) (RdP D [(cI, .int), (cZ, .boolean)] [.ref o, .int h, .int g, .int dy] [(o, .inr (4, [.ref pe, .ref hu, .ref na, .ref hB, .ref hE, .int td])), (pe, .inr (2, [.ref hP_])), (hP_, .inr (3, [.int (nI 24), .int (nI 6), .ref aP, .int (nI np)])), (aP, .inl (cI, 24 * 6, .inl (fl 6 P))), (hu, .inr (0, [.ref hH])), (hH, .inr (3, [.int (nI 5), .int (nI 6), .ref aH, .int (nI nh)])), (aH, .inl (cI, 5 * 6, .inl (fl 6 G))), (na, .inr (1, [.ref hN, .ref pe])), (hN, .inr (3, [.int (nI 200), .int (nI 5), .ref aN, .int (nI nn)])), (aN, .inl (cI, 200 * 5, .inl (fl 5 N))), (hB, .inr (3, [.int (nI 20), .int (nI 4), .ref aB, .int (nI nb)])), (aB, .inl (cI, 20 * 4, .inl (fl 4 B))), (hE, .inr (3, [.int (nI 200), .int (nI 6), .ref aE, .int (nI ne)])), (aE, .inl (cI, 200 * 6, .inl (fl 6 E)))]) (QcRead (if (twoH nh h g && inB dy 0 3000) = true then bI (anys (brB B h g dy) nb) else -1)) 0 0 (fun _ => False) := by
  refine rd_of (cc := cX4_holds) (maxL := 4) (ret := (some .int)) (by decide) rfl (Nat.le_of_ble_eq_true rfl) ?_
  intro pp ee ss mm bw me cd ls hx hb hr hts hown hlocks hml hP hK hl
  have hl : lv_has ls 4 [(0, .ref o), (1, .int h), (2, .int g), (3, .int dy)] := hl
  refine lv_aload_n hx hb dX4_holds_0 rfl (lv_at hl 0 rfl) ?_
  refine lv_iload_n hx hb dX4_holds_1 rfl (lv_at hl 1 rfl) ?_
  refine lv_iload_n hx hb dX4_holds_2 rfl (lv_at hl 2 rfl) ?_
  refine rcV (As := [.int h, .int g]) (rest := []) (ci := 4) ⟨hx, hb, hml, hown, hts⟩ (kX4_areTwoHouses l D cI cZ o pe hP_ aP hu hH aH na hN aN hB aB hE aE np nh nn nb ne td P G N B E h g (by first | assumption | omega) (by first | assumption | omega) (by first | assumption | omega) (by first | assumption | omega) (by first | assumption | omega) (by first | assumption | omega) (by first | assumption | omega)) (cwV 2 hts gX4_holds_X4_areTwoHouses rfl rfl rfl (by decide +kernel) ⟨Nat.le_of_ble_eq_true rfl, Nat.le_of_ble_eq_true rfl⟩) hK hP [0, 1, 2, 3, 4, 5, 6, 7, 8, 9, 10, 11, 12, 13] rfl rfl rfl rfl rfl hl.1 rfl (Nat.le_of_ble_eq_true rfl) ⟨Nat.zero_le _, Nat.zero_le _⟩ dX4_holds_3 ?_
  refine lb_eq (tgt := 16) hx hb dX4_holds_6 (by decide) (fun c_6 => ?_) (fun c_6 => ?_)
  · skip
    refine lv_iconst (v := (-1)) hx hb dX4_holds_16 (by decide) ?_
    exact rd_iret hx hb hr hlocks dX4_holds_17 (by simp [c_6])
  · skip
    refine lv_iload_n hx hb dX4_holds_9 rfl (lv_at hl 3 rfl) ?_
    refine rcS (As := [.int dy]) (rest := []) ⟨hx, hb, hml, hown, hts⟩ (kX4_isDay l D cI cZ dy) (va_cwS 1 hts gX4_holds_X4_isDay rfl rfl rfl (by decide +kernel) ⟨Nat.le_of_ble_eq_true rfl, Nat.le_of_ble_eq_true rfl⟩) hK hP [] rfl rfl hl.1 rfl (Nat.le_of_ble_eq_true rfl) ⟨Nat.zero_le _, Nat.zero_le _⟩ dX4_holds_10 ?_
    refine lb_ne (tgt := 18) hx hb dX4_holds_13 (by decide) (fun c_13 => ?_) (fun c_13 => ?_)
    · skip
      refine lv_aload_n hx hb dX4_holds_18 rfl (lv_at hl 0 rfl) ?_
      refine lv_iload_n hx hb dX4_holds_19 rfl (lv_at hl 1 rfl) ?_
      refine lv_iload_n hx hb dX4_holds_20 rfl (lv_at hl 2 rfl) ?_
      refine lv_iload_n hx hb dX4_holds_21 rfl (lv_at hl 3 rfl) ?_
      refine rcV (As := [.int h, .int g, .int dy]) (rest := []) (ci := 4) ⟨hx, hb, hml, hown, hts⟩ (kX4_isBridged l D cI cZ o pe hP_ aP hu hH aH na hN aN hB aB hE aE np nh nn nb ne td P G N B E h g dy (by first | assumption | omega) (by first | assumption | omega) (by first | assumption | omega) (by first | assumption | omega) (by first | assumption | omega) (by first | assumption | omega) (by first | assumption | omega)) (cwV 3 hts gX4_holds_X4_isBridged rfl rfl rfl (by decide +kernel) ⟨Nat.le_of_ble_eq_true rfl, Nat.le_of_ble_eq_true rfl⟩) hK hP [0, 1, 2, 3, 4, 5, 6, 7, 8, 9, 10, 11, 12, 13] rfl rfl rfl rfl rfl hl.1 rfl (Nat.le_of_ble_eq_true rfl) ⟨Nat.zero_le _, Nat.zero_le _⟩ dX4_holds_22 ?_
      refine rcS (As := [.int (bI (anys (brB B h g dy) nb))]) (rest := []) ⟨hx, hb, hml, hown, hts⟩ (kX4_oneIf l D cI cZ (anys (brB B h g dy) nb)) (va_cwS 1 hts gX4_holds_X4_oneIf rfl rfl rfl (by decide +kernel) ⟨Nat.le_of_ble_eq_true rfl, Nat.le_of_ble_eq_true rfl⟩) hK hP [] rfl rfl hl.1 rfl (Nat.le_of_ble_eq_true rfl) ⟨Nat.zero_le _, Nat.zero_le _⟩ dX4_holds_25 ?_
      exact rd_iret hx hb hr hlocks dX4_holds_28 (by simp [c_6, c_13])
    · skip
      refine lv_iconst (v := (-1)) hx hb dX4_holds_16 (by decide) ?_
      exact rd_iret hx hb hr hlocks dX4_holds_17 (by simp [c_6, c_13])
set_option maxHeartbeats 4000000 in
set_option maxRecDepth 100000 in
theorem kX4_bridge (l : Launch) (D : va_G) (cI cZ : ClassId) (o pe hP_ aP hu hH aH na hN aN hB aB hE aE np nh nn nb ne : Nat) (td : Int32) (P G N B E : Nat → Nat → Int32) (h : Int32) (g : Int32) (a : Int32) (b : Int32) (hnp : np ≤ 24) (hnh : nh ≤ 5) (hnn : nn ≤ 200) (hnb : nb ≤ 20) (hne : ne ≤ 200) (hw : HP np (P 4)) (ho : HO nn np N) : Met l yX4_bridge wsX4_bridge ({ frames := 3, cells := 0, slots := 0, locals := 64 } : Room) (MuP D [(cI, .int), (cZ, .boolean)] [.ref o, .int h, .int g, .int a, .int b] [(o, .inr (4, [.ref pe, .ref hu, .ref na, .ref hB, .ref hE, .int td])), (pe, .inr (2, [.ref hP_])), (hP_, .inr (3, [.int (nI 24), .int (nI 6), .ref aP, .int (nI np)])), (aP, .inl (cI, 24 * 6, .inl (fl 6 P))), (hu, .inr (0, [.ref hH])), (hH, .inr (3, [.int (nI 5), .int (nI 6), .ref aH, .int (nI nh)])), (aH, .inl (cI, 5 * 6, .inl (fl 6 G))), (na, .inr (1, [.ref hN, .ref pe])), (hN, .inr (3, [.int (nI 200), .int (nI 5), .ref aN, .int (nI nn)])), (aN, .inl (cI, 200 * 5, .inl (fl 5 N))), (hB, .inr (3, [.int (nI 20), .int (nI 4), .ref aB, .int (nI nb)])), (aB, .inl (cI, 20 * 4, .inl (fl 4 B))), (hE, .inr (3, [.int (nI 200), .int (nI 6), .ref aE, .int (nI ne)])), (aE, .inl (cI, 200 * 6, .inl (fl 6 E)))]) (QM D (some (.int (bI (okBr nh nb h g a b)))) [(o, .inr (4, [.ref pe, .ref hu, .ref na, .ref hB, .ref hE, .int td])), (pe, .inr (2, [.ref hP_])), (hP_, .inr (3, [.int (nI 24), .int (nI 6), .ref aP, .int (nI np)])), (aP, .inl (cI, 24 * 6, .inl (fl 6 P))), (hu, .inr (0, [.ref hH])), (hH, .inr (3, [.int (nI 5), .int (nI 6), .ref aH, .int (nI nh)])), (aH, .inl (cI, 5 * 6, .inl (fl 6 G))), (na, .inr (1, [.ref hN, .ref pe])), (hN, .inr (3, [.int (nI 200), .int (nI 5), .ref aN, .int (nI nn)])), (aN, .inl (cI, 200 * 5, .inl (fl 5 N))), (hB, .inr (3, [.int (nI 20), .int (nI 4), .ref aB, .int (nI nb)])), (aB, .inl (cI, 20 * 4, .inl (fl 4 B))), (hE, .inr (3, [.int (nI 200), .int (nI 6), .ref aE, .int (nI ne)])), (aE, .inl (cI, 200 * 6, .inl (fl 6 E)))] [(o, .inr (4, [.ref pe, .ref hu, .ref na, .ref hB, .ref hE, .int td])), (pe, .inr (2, [.ref hP_])), (hP_, .inr (3, [.int (nI 24), .int (nI 6), .ref aP, .int (nI np)])), (aP, .inl (cI, 24 * 6, .inl (fl 6 P))), (hu, .inr (0, [.ref hH])), (hH, .inr (3, [.int (nI 5), .int (nI 6), .ref aH, .int (nI nh)])), (aH, .inl (cI, 5 * 6, .inl (fl 6 G))), (na, .inr (1, [.ref hN, .ref pe])), (hN, .inr (3, [.int (nI 200), .int (nI 5), .ref aN, .int (nI nn)])), (aN, .inl (cI, 200 * 5, .inl (fl 5 N))), (hB, .inr (3, [.int (nI 20), .int (nI 4), .ref aB, .int (nI (if okBr nh nb h g a b = true then adn 20 nb else nb))])), (aB, .inl (cI, 20 * 4, .inl (fl 4 (if okBr nh nb h g a b = true then baddT nb B h g a b else B)))), (hE, .inr (3, [.int (nI 200), .int (nI 6), .ref aE, .int (nI ne)])), (aE, .inl (cI, 200 * 6, .inl (fl 6 E)))]) 0 0 (adr [(o, .inr (4, [.ref pe, .ref hu, .ref na, .ref hB, .ref hE, .int td])), (pe, .inr (2, [.ref hP_])), (hP_, .inr (3, [.int (nI 24), .int (nI 6), .ref aP, .int (nI np)])), (aP, .inl (cI, 24 * 6, .inl (fl 6 P))), (hu, .inr (0, [.ref hH])), (hH, .inr (3, [.int (nI 5), .int (nI 6), .ref aH, .int (nI nh)])), (aH, .inl (cI, 5 * 6, .inl (fl 6 G))), (na, .inr (1, [.ref hN, .ref pe])), (hN, .inr (3, [.int (nI 200), .int (nI 5), .ref aN, .int (nI nn)])), (aN, .inl (cI, 200 * 5, .inl (fl 5 N))), (hB, .inr (3, [.int (nI 20), .int (nI 4), .ref aB, .int (nI nb)])), (aB, .inl (cI, 20 * 4, .inl (fl 4 B))), (hE, .inr (3, [.int (nI 200), .int (nI 6), .ref aE, .int (nI ne)])), (aE, .inl (cI, 200 * 6, .inl (fl 6 E)))]) := by
  refine mu_of (cc := cX4_bridge) (maxL := 6) (ret := (some .boolean)) (by decide) rfl (Nat.le_of_ble_eq_true rfl) ?_
  intro pp ee ss mm bw me cd ls hx hb hr hts hown hlocks hml hK hl H locs hP hD hS
  have hl : lv_has ls 6 [(0, .ref o), (1, .int h), (2, .int g), (3, .int a), (4, .int b)] := hl
  have hf37 := hts (.fieldLink RX4 37 "OtherNames" "bridges" "LOtherNames$Rows;") (by decide +kernel)
  have hin4 := (show ∀ w ∈ wsX40, w ∈ wsX4_bridge by decide +kernel)
  refine lv_aload_n hx hb dX4_bridge_0 rfl (lv_at hl 0 rfl) ?_
  refine lv_iload_n hx hb dX4_bridge_1 rfl (lv_at hl 1 rfl) ?_
  refine lv_iload_n hx hb dX4_bridge_2 rfl (lv_at hl 2 rfl) ?_
  refine rcV (As := [.int h, .int g]) (rest := []) (ci := 4) ⟨hx, hb, hml, hown, hts⟩ (kX4_areTwoHouses l D cI cZ o pe hP_ aP hu hH aH na hN aN hB aB hE aE np nh nn nb ne td P G N B E h g (by first | assumption | omega) (by first | assumption | omega) (by first | assumption | omega) (by first | assumption | omega) (by first | assumption | omega) (by first | assumption | omega) (by first | assumption | omega)) (cwV 2 hts gX4_bridge_X4_areTwoHouses rfl rfl rfl (by decide +kernel) ⟨Nat.le_of_ble_eq_true rfl, Nat.le_of_ble_eq_true rfl⟩) hK hP [0, 1, 2, 3, 4, 5, 6, 7, 8, 9, 10, 11, 12, 13] rfl rfl rfl rfl rfl hl.1 rfl (Nat.le_of_ble_eq_true rfl) ⟨Nat.zero_le _, Nat.zero_le _⟩ dX4_bridge_3 ?_
  refine lb_eq (tgt := 30) hx hb dX4_bridge_6 (by decide) (fun c_6 => ?_) (fun c_6 => ?_)
  · skip
    refine lv_iconst (v := 0) hx hb dX4_bridge_30 (by decide) ?_
    refine mu_zret hx hb hr hlocks hS dX4_bridge_31 ?_ ?_
    · simp [bI, okBr, c_6]
    have q0 : (nI (if okBr nh nb h g a b = true then adn 20 nb else nb)) = (nI nb) := by rw [if_neg (by simp [okBr, c_6])]
    have q1 : (fl 4 (if okBr nh nb h g a b = true then baddT nb B h g a b else B)) = (fl 4 B) := by rw [if_neg (by simp [okBr, c_6])]
    rw [q0, q1]
    exact hP
  · skip
    refine lv_iload_n hx hb dX4_bridge_9 rfl (lv_at hl 3 rfl) ?_
    refine rcS (As := [.int a]) (rest := []) ⟨hx, hb, hml, hown, hts⟩ (kX4_isDay l D cI cZ a) (va_cwS 1 hts gX4_bridge_X4_isDay rfl rfl rfl (by decide +kernel) ⟨Nat.le_of_ble_eq_true rfl, Nat.le_of_ble_eq_true rfl⟩) hK hP [] rfl rfl hl.1 rfl (Nat.le_of_ble_eq_true rfl) ⟨Nat.zero_le _, Nat.zero_le _⟩ dX4_bridge_10 ?_
    refine lb_eq (tgt := 30) hx hb dX4_bridge_13 (by decide) (fun c_13 => ?_) (fun c_13 => ?_)
    · skip
      refine lv_iconst (v := 0) hx hb dX4_bridge_30 (by decide) ?_
      refine mu_zret hx hb hr hlocks hS dX4_bridge_31 ?_ ?_
      · simp [bI, okBr, c_6, c_13]
      have q0 : (nI (if okBr nh nb h g a b = true then adn 20 nb else nb)) = (nI nb) := by rw [if_neg (by simp [okBr, c_6, c_13])]
      have q1 : (fl 4 (if okBr nh nb h g a b = true then baddT nb B h g a b else B)) = (fl 4 B) := by rw [if_neg (by simp [okBr, c_6, c_13])]
      rw [q0, q1]
      exact hP
    · skip
      refine lv_iload hx hb dX4_bridge_16 (lv_at hl 4 rfl) ?_
      refine rcS (As := [.int b]) (rest := []) ⟨hx, hb, hml, hown, hts⟩ (kX4_isDay l D cI cZ b) (va_cwS 1 hts gX4_bridge_X4_isDay rfl rfl rfl (by decide +kernel) ⟨Nat.le_of_ble_eq_true rfl, Nat.le_of_ble_eq_true rfl⟩) hK hP [] rfl rfl hl.1 rfl (Nat.le_of_ble_eq_true rfl) ⟨Nat.zero_le _, Nat.zero_le _⟩ dX4_bridge_18 ?_
      refine lb_eq (tgt := 30) hx hb dX4_bridge_21 (by decide) (fun c_21 => ?_) (fun c_21 => ?_)
      · skip
        refine lv_iconst (v := 0) hx hb dX4_bridge_30 (by decide) ?_
        refine mu_zret hx hb hr hlocks hS dX4_bridge_31 ?_ ?_
        · simp [bI, okBr, c_6, c_13, c_21]
        have q0 : (nI (if okBr nh nb h g a b = true then adn 20 nb else nb)) = (nI nb) := by rw [if_neg (by simp [okBr, c_6, c_13, c_21])]
        have q1 : (fl 4 (if okBr nh nb h g a b = true then baddT nb B h g a b else B)) = (fl 4 B) := by rw [if_neg (by simp [okBr, c_6, c_13, c_21])]
        rw [q0, q1]
        exact hP
      · skip
        refine lv_iload_n hx hb dX4_bridge_24 rfl (lv_at hl 3 rfl) ?_
        refine lv_iload hx hb dX4_bridge_25 (lv_at hl 4 rfl) ?_
        refine lv_icmp_le (tgt := 32) hx hb dX4_bridge_27 (by decide) (fun c_27 => ?_) (fun c_27 => ?_)
        · skip
          refine lv_aload_n hx hb dX4_bridge_32 rfl (lv_at hl 0 rfl) ?_
          refine va_get (D := D) (ci := 4) (v := .ref hB) (C := RX4) (T := TX4) (N := 6) hx hb hts hin4 hown hK hP 0 rfl rfl 3 (by decide) hf37 (fun _ h9 => h9) rfl dX4_bridge_33 ?_
          refine mcV (As := []) (rest := []) (ci := 3) (wn := [(o, .inr (4, [.ref pe, .ref hu, .ref na, .ref hB, .ref hE, .int td])), (pe, .inr (2, [.ref hP_])), (hP_, .inr (3, [.int (nI 24), .int (nI 6), .ref aP, .int (nI np)])), (aP, .inl (cI, 24 * 6, .inl (fl 6 P))), (hu, .inr (0, [.ref hH])), (hH, .inr (3, [.int (nI 5), .int (nI 6), .ref aH, .int (nI nh)])), (aH, .inl (cI, 5 * 6, .inl (fl 6 G))), (na, .inr (1, [.ref hN, .ref pe])), (hN, .inr (3, [.int (nI 200), .int (nI 5), .ref aN, .int (nI nn)])), (aN, .inl (cI, 200 * 5, .inl (fl 5 N))), (hB, .inr (3, [.int (nI 20), .int (nI 4), .ref aB, .int (nI (adn 20 nb))])), (aB, .inl (cI, 20 * 4, .inl (fl 4 B))), (hE, .inr (3, [.int (nI 200), .int (nI 6), .ref aE, .int (nI ne)])), (aE, .inl (cI, 200 * 6, .inl (fl 6 E)))]) ⟨hx, hb, hml, hown, hts⟩ (kX3_addRow l D cI cZ hB aB 20 4 nb B (by first | assumption | omega)) (cwV 0 hts gX4_bridge_X3_addRow rfl rfl rfl (by decide +kernel) ⟨Nat.le_of_ble_eq_true rfl, Nat.le_of_ble_eq_true rfl⟩) hK hP hD hS [10, 11] rfl rfl rfl rfl rfl rfl rfl rfl rfl hl.1 rfl (Nat.le_of_ble_eq_true rfl) ⟨Nat.zero_le _, Nat.zero_le _⟩ dX4_bridge_36 (fun H locs hP hD hS => ?_)
          refine W.eq (g2 := F0 mm 39 ls (.int (arow 20 nb) :: [])) rfl ?_
          refine lv_istore (lv' := [(5, .int (arow 20 nb)), (0, .ref o), (1, .int h), (2, .int g), (3, .int a), (4, .int b)]) hx hb dX4_bridge_39 hl (by decide) rfl (fun ls hl => ?_)
          refine lv_iload hx hb dX4_bridge_41 (lv_at hl 0 rfl) ?_
          refine lv_iconst (v := (-1)) hx hb dX4_bridge_43 (by decide) ?_
          refine lv_icmp_ne (tgt := 49) hx hb dX4_bridge_44 (by decide) (fun c_44 => ?_) (fun c_44 => ?_)
          · skip
            have hf : ¬ 20 ≤ nb := fun q => c_44 ((arow_m1 (by omega)).mpr q)
            refine lv_aload_n hx hb dX4_bridge_49 rfl (lv_at hl 1 rfl) ?_
            refine va_get (D := D) (ci := 4) (v := .ref hB) (C := RX4) (T := TX4) (N := 6) hx hb hts hin4 hown hK hP 0 rfl rfl 3 (by decide) hf37 (fun _ h9 => h9) rfl dX4_bridge_50 ?_
            refine lv_iload hx hb dX4_bridge_53 (lv_at hl 0 rfl) ?_
            refine lv_iconst (v := 0) hx hb dX4_bridge_55 (by decide) ?_
            refine lv_iload_n hx hb dX4_bridge_56 rfl (lv_at hl 2 rfl) ?_
            refine mcV (As := [.int (arow 20 nb), .int 0, .int h]) (rest := []) (ci := 3) (wn := [(o, .inr (4, [.ref pe, .ref hu, .ref na, .ref hB, .ref hE, .int td])), (pe, .inr (2, [.ref hP_])), (hP_, .inr (3, [.int (nI 24), .int (nI 6), .ref aP, .int (nI np)])), (aP, .inl (cI, 24 * 6, .inl (fl 6 P))), (hu, .inr (0, [.ref hH])), (hH, .inr (3, [.int (nI 5), .int (nI 6), .ref aH, .int (nI nh)])), (aH, .inl (cI, 5 * 6, .inl (fl 6 G))), (na, .inr (1, [.ref hN, .ref pe])), (hN, .inr (3, [.int (nI 200), .int (nI 5), .ref aN, .int (nI nn)])), (aN, .inl (cI, 200 * 5, .inl (fl 5 N))), (hB, .inr (3, [.int (nI 20), .int (nI 4), .ref aB, .int (nI (adn 20 nb))])), (aB, .inl (cI, 20 * 4, .inl (fl 4 (tput (adn 20 nb) 4 B (arow 20 nb) 0 h)))), (hE, .inr (3, [.int (nI 200), .int (nI 6), .ref aE, .int (nI ne)])), (aE, .inl (cI, 200 * 6, .inl (fl 6 E)))]) ⟨hx, hb, hml, hown, hts⟩ (kX3_put l D cI cZ hB aB 20 4 (adn 20 nb) B (arow 20 nb) 0 h (by have := adn_le hnb; omega)) (cwV 3 hts gX4_bridge_X3_put rfl rfl rfl (by decide +kernel) ⟨Nat.le_of_ble_eq_true rfl, Nat.le_of_ble_eq_true rfl⟩) hK hP hD hS [10, 11] rfl rfl rfl rfl rfl rfl rfl rfl rfl hl.1 rfl (Nat.le_of_ble_eq_true rfl) ⟨Nat.zero_le _, Nat.zero_le _⟩ dX4_bridge_57 (fun H locs hP hD hS => ?_)
            refine W.eq (g2 := F0 mm 60 ls []) rfl ?_
            refine lv_aload_n hx hb dX4_bridge_60 rfl (lv_at hl 1 rfl) ?_
            refine va_get (D := D) (ci := 4) (v := .ref hB) (C := RX4) (T := TX4) (N := 6) hx hb hts hin4 hown hK hP 0 rfl rfl 3 (by decide) hf37 (fun _ h9 => h9) rfl dX4_bridge_61 ?_
            refine lv_iload hx hb dX4_bridge_64 (lv_at hl 0 rfl) ?_
            refine lv_iconst (v := 1) hx hb dX4_bridge_66 (by decide) ?_
            refine lv_iload_n hx hb dX4_bridge_67 rfl (lv_at hl 3 rfl) ?_
            refine mcV (As := [.int (arow 20 nb), .int 1, .int g]) (rest := []) (ci := 3) (wn := [(o, .inr (4, [.ref pe, .ref hu, .ref na, .ref hB, .ref hE, .int td])), (pe, .inr (2, [.ref hP_])), (hP_, .inr (3, [.int (nI 24), .int (nI 6), .ref aP, .int (nI np)])), (aP, .inl (cI, 24 * 6, .inl (fl 6 P))), (hu, .inr (0, [.ref hH])), (hH, .inr (3, [.int (nI 5), .int (nI 6), .ref aH, .int (nI nh)])), (aH, .inl (cI, 5 * 6, .inl (fl 6 G))), (na, .inr (1, [.ref hN, .ref pe])), (hN, .inr (3, [.int (nI 200), .int (nI 5), .ref aN, .int (nI nn)])), (aN, .inl (cI, 200 * 5, .inl (fl 5 N))), (hB, .inr (3, [.int (nI 20), .int (nI 4), .ref aB, .int (nI (adn 20 nb))])), (aB, .inl (cI, 20 * 4, .inl (fl 4 (tput (adn 20 nb) 4 (tput (adn 20 nb) 4 B (arow 20 nb) 0 h) (arow 20 nb) 1 g)))), (hE, .inr (3, [.int (nI 200), .int (nI 6), .ref aE, .int (nI ne)])), (aE, .inl (cI, 200 * 6, .inl (fl 6 E)))]) ⟨hx, hb, hml, hown, hts⟩ (kX3_put l D cI cZ hB aB 20 4 (adn 20 nb) (tput (adn 20 nb) 4 B (arow 20 nb) 0 h) (arow 20 nb) 1 g (by have := adn_le hnb; omega)) (cwV 3 hts gX4_bridge_X3_put rfl rfl rfl (by decide +kernel) ⟨Nat.le_of_ble_eq_true rfl, Nat.le_of_ble_eq_true rfl⟩) hK hP hD hS [10, 11] rfl rfl rfl rfl rfl rfl rfl rfl rfl hl.1 rfl (Nat.le_of_ble_eq_true rfl) ⟨Nat.zero_le _, Nat.zero_le _⟩ dX4_bridge_68 (fun H locs hP hD hS => ?_)
            refine W.eq (g2 := F0 mm 71 ls []) rfl ?_
            refine lv_aload_n hx hb dX4_bridge_71 rfl (lv_at hl 1 rfl) ?_
            refine va_get (D := D) (ci := 4) (v := .ref hB) (C := RX4) (T := TX4) (N := 6) hx hb hts hin4 hown hK hP 0 rfl rfl 3 (by decide) hf37 (fun _ h9 => h9) rfl dX4_bridge_72 ?_
            refine lv_iload hx hb dX4_bridge_75 (lv_at hl 0 rfl) ?_
            refine lv_iconst (v := 2) hx hb dX4_bridge_77 (by decide) ?_
            refine lv_iload_n hx hb dX4_bridge_78 rfl (lv_at hl 4 rfl) ?_
            refine mcV (As := [.int (arow 20 nb), .int 2, .int a]) (rest := []) (ci := 3) (wn := [(o, .inr (4, [.ref pe, .ref hu, .ref na, .ref hB, .ref hE, .int td])), (pe, .inr (2, [.ref hP_])), (hP_, .inr (3, [.int (nI 24), .int (nI 6), .ref aP, .int (nI np)])), (aP, .inl (cI, 24 * 6, .inl (fl 6 P))), (hu, .inr (0, [.ref hH])), (hH, .inr (3, [.int (nI 5), .int (nI 6), .ref aH, .int (nI nh)])), (aH, .inl (cI, 5 * 6, .inl (fl 6 G))), (na, .inr (1, [.ref hN, .ref pe])), (hN, .inr (3, [.int (nI 200), .int (nI 5), .ref aN, .int (nI nn)])), (aN, .inl (cI, 200 * 5, .inl (fl 5 N))), (hB, .inr (3, [.int (nI 20), .int (nI 4), .ref aB, .int (nI (adn 20 nb))])), (aB, .inl (cI, 20 * 4, .inl (fl 4 (tput (adn 20 nb) 4 (tput (adn 20 nb) 4 (tput (adn 20 nb) 4 B (arow 20 nb) 0 h) (arow 20 nb) 1 g) (arow 20 nb) 2 a)))), (hE, .inr (3, [.int (nI 200), .int (nI 6), .ref aE, .int (nI ne)])), (aE, .inl (cI, 200 * 6, .inl (fl 6 E)))]) ⟨hx, hb, hml, hown, hts⟩ (kX3_put l D cI cZ hB aB 20 4 (adn 20 nb) (tput (adn 20 nb) 4 (tput (adn 20 nb) 4 B (arow 20 nb) 0 h) (arow 20 nb) 1 g) (arow 20 nb) 2 a (by have := adn_le hnb; omega)) (cwV 3 hts gX4_bridge_X3_put rfl rfl rfl (by decide +kernel) ⟨Nat.le_of_ble_eq_true rfl, Nat.le_of_ble_eq_true rfl⟩) hK hP hD hS [10, 11] rfl rfl rfl rfl rfl rfl rfl rfl rfl hl.1 rfl (Nat.le_of_ble_eq_true rfl) ⟨Nat.zero_le _, Nat.zero_le _⟩ dX4_bridge_79 (fun H locs hP hD hS => ?_)
            refine W.eq (g2 := F0 mm 82 ls []) rfl ?_
            refine lv_aload_n hx hb dX4_bridge_82 rfl (lv_at hl 1 rfl) ?_
            refine va_get (D := D) (ci := 4) (v := .ref hB) (C := RX4) (T := TX4) (N := 6) hx hb hts hin4 hown hK hP 0 rfl rfl 3 (by decide) hf37 (fun _ h9 => h9) rfl dX4_bridge_83 ?_
            refine lv_iload hx hb dX4_bridge_86 (lv_at hl 0 rfl) ?_
            refine lv_iconst (v := 3) hx hb dX4_bridge_88 (by decide) ?_
            refine lv_iload hx hb dX4_bridge_89 (lv_at hl 5 rfl) ?_
            refine mcV (As := [.int (arow 20 nb), .int 3, .int b]) (rest := []) (ci := 3) (wn := [(o, .inr (4, [.ref pe, .ref hu, .ref na, .ref hB, .ref hE, .int td])), (pe, .inr (2, [.ref hP_])), (hP_, .inr (3, [.int (nI 24), .int (nI 6), .ref aP, .int (nI np)])), (aP, .inl (cI, 24 * 6, .inl (fl 6 P))), (hu, .inr (0, [.ref hH])), (hH, .inr (3, [.int (nI 5), .int (nI 6), .ref aH, .int (nI nh)])), (aH, .inl (cI, 5 * 6, .inl (fl 6 G))), (na, .inr (1, [.ref hN, .ref pe])), (hN, .inr (3, [.int (nI 200), .int (nI 5), .ref aN, .int (nI nn)])), (aN, .inl (cI, 200 * 5, .inl (fl 5 N))), (hB, .inr (3, [.int (nI 20), .int (nI 4), .ref aB, .int (nI (adn 20 nb))])), (aB, .inl (cI, 20 * 4, .inl (fl 4 (tput (adn 20 nb) 4 (tput (adn 20 nb) 4 (tput (adn 20 nb) 4 (tput (adn 20 nb) 4 B (arow 20 nb) 0 h) (arow 20 nb) 1 g) (arow 20 nb) 2 a) (arow 20 nb) 3 b)))), (hE, .inr (3, [.int (nI 200), .int (nI 6), .ref aE, .int (nI ne)])), (aE, .inl (cI, 200 * 6, .inl (fl 6 E)))]) ⟨hx, hb, hml, hown, hts⟩ (kX3_put l D cI cZ hB aB 20 4 (adn 20 nb) (tput (adn 20 nb) 4 (tput (adn 20 nb) 4 (tput (adn 20 nb) 4 B (arow 20 nb) 0 h) (arow 20 nb) 1 g) (arow 20 nb) 2 a) (arow 20 nb) 3 b (by have := adn_le hnb; omega)) (cwV 3 hts gX4_bridge_X3_put rfl rfl rfl (by decide +kernel) ⟨Nat.le_of_ble_eq_true rfl, Nat.le_of_ble_eq_true rfl⟩) hK hP hD hS [10, 11] rfl rfl rfl rfl rfl rfl rfl rfl rfl hl.1 rfl (Nat.le_of_ble_eq_true rfl) ⟨Nat.zero_le _, Nat.zero_le _⟩ dX4_bridge_91 (fun H locs hP hD hS => ?_)
            refine W.eq (g2 := F0 mm 94 ls []) rfl ?_
            refine lv_iconst (v := 1) hx hb dX4_bridge_94 (by decide) ?_
            refine mu_zret hx hb hr hlocks hS dX4_bridge_95 ?_ ?_
            · simp [bI, okBr, c_6, c_13, c_21, c_27, c_44, hf]
            have q0 : (nI (if okBr nh nb h g a b = true then adn 20 nb else nb)) = (nI (adn 20 nb)) := by rw [if_pos (by simp [okBr, c_6, c_13, c_21, c_27, c_44, hf])] <;> rfl
            have q1 : (fl 4 (if okBr nh nb h g a b = true then baddT nb B h g a b else B)) = (fl 4 (tput (adn 20 nb) 4 (tput (adn 20 nb) 4 (tput (adn 20 nb) 4 (tput (adn 20 nb) 4 B (arow 20 nb) 0 h) (arow 20 nb) 1 g) (arow 20 nb) 2 a) (arow 20 nb) 3 b)) := by rw [if_pos (by simp [okBr, c_6, c_13, c_21, c_27, c_44, hf])] <;> rfl
            rw [q0, q1]
            exact hP
          · skip
            have hf : 20 ≤ nb := (arow_m1 (by omega)).mp c_44
            refine lv_iconst (v := 0) hx hb dX4_bridge_47 (by decide) ?_
            refine mu_zret hx hb hr hlocks hS dX4_bridge_48 ?_ ?_
            · simp [bI, okBr, c_6, c_13, c_21, c_27, c_44, hf]
            have q0 : (nI (if okBr nh nb h g a b = true then adn 20 nb else nb)) = (nI (adn 20 nb)) := by rw [if_neg (by simp [okBr, c_6, c_13, c_21, c_27, c_44, hf])] <;> simp [adn, hf]
            have q1 : (fl 4 (if okBr nh nb h g a b = true then baddT nb B h g a b else B)) = (fl 4 B) := by rw [if_neg (by simp [okBr, c_6, c_13, c_21, c_27, c_44, hf])] <;> simp [adn, hf]
            rw [q0, q1]
            exact hP
        · skip
          refine lv_iconst (v := 0) hx hb dX4_bridge_30 (by decide) ?_
          refine mu_zret hx hb hr hlocks hS dX4_bridge_31 ?_ ?_
          · simp [bI, okBr, c_6, c_13, c_21, c_27]
          have q0 : (nI (if okBr nh nb h g a b = true then adn 20 nb else nb)) = (nI nb) := by rw [if_neg (by simp [okBr, c_6, c_13, c_21, c_27])]
          have q1 : (fl 4 (if okBr nh nb h g a b = true then baddT nb B h g a b else B)) = (fl 4 B) := by rw [if_neg (by simp [okBr, c_6, c_13, c_21, c_27])]
          rw [q0, q1]
          exact hP
set_option maxHeartbeats 4000000 in
set_option maxRecDepth 100000 in
theorem kX4_enter (l : Launch) (D : va_G) (cI cZ : ClassId) (o pe hP_ aP hu hH aH na hN aN hB aB hE aE np nh nn nb ne : Nat) (td : Int32) (P G N B E : Nat → Nat → Int32) (w : Int32) (h : Int32) (nm : Int32) (a : Int32) (b : Int32) (hne : ne ≤ 200) : Met l yX4_enter wsX4_enter ({ frames := 2, cells := 0, slots := 0, locals := 45 } : Room) (MuP D [(cI, .int), (cZ, .boolean)] [.ref o, .int w, .int h, .int nm, .int a, .int b] [(o, .inr (4, [.ref pe, .ref hu, .ref na, .ref hB, .ref hE, .int td])), (pe, .inr (2, [.ref hP_])), (hP_, .inr (3, [.int (nI 24), .int (nI 6), .ref aP, .int (nI np)])), (aP, .inl (cI, 24 * 6, .inl (fl 6 P))), (hu, .inr (0, [.ref hH])), (hH, .inr (3, [.int (nI 5), .int (nI 6), .ref aH, .int (nI nh)])), (aH, .inl (cI, 5 * 6, .inl (fl 6 G))), (na, .inr (1, [.ref hN, .ref pe])), (hN, .inr (3, [.int (nI 200), .int (nI 5), .ref aN, .int (nI nn)])), (aN, .inl (cI, 200 * 5, .inl (fl 5 N))), (hB, .inr (3, [.int (nI 20), .int (nI 4), .ref aB, .int (nI nb)])), (aB, .inl (cI, 20 * 4, .inl (fl 4 B))), (hE, .inr (3, [.int (nI 200), .int (nI 6), .ref aE, .int (nI ne)])), (aE, .inl (cI, 200 * 6, .inl (fl 6 E)))]) (QM D none [(o, .inr (4, [.ref pe, .ref hu, .ref na, .ref hB, .ref hE, .int td])), (pe, .inr (2, [.ref hP_])), (hP_, .inr (3, [.int (nI 24), .int (nI 6), .ref aP, .int (nI np)])), (aP, .inl (cI, 24 * 6, .inl (fl 6 P))), (hu, .inr (0, [.ref hH])), (hH, .inr (3, [.int (nI 5), .int (nI 6), .ref aH, .int (nI nh)])), (aH, .inl (cI, 5 * 6, .inl (fl 6 G))), (na, .inr (1, [.ref hN, .ref pe])), (hN, .inr (3, [.int (nI 200), .int (nI 5), .ref aN, .int (nI nn)])), (aN, .inl (cI, 200 * 5, .inl (fl 5 N))), (hB, .inr (3, [.int (nI 20), .int (nI 4), .ref aB, .int (nI nb)])), (aB, .inl (cI, 20 * 4, .inl (fl 4 B))), (hE, .inr (3, [.int (nI 200), .int (nI 6), .ref aE, .int (nI ne)])), (aE, .inl (cI, 200 * 6, .inl (fl 6 E)))] [(o, .inr (4, [.ref pe, .ref hu, .ref na, .ref hB, .ref hE, .int td])), (pe, .inr (2, [.ref hP_])), (hP_, .inr (3, [.int (nI 24), .int (nI 6), .ref aP, .int (nI np)])), (aP, .inl (cI, 24 * 6, .inl (fl 6 P))), (hu, .inr (0, [.ref hH])), (hH, .inr (3, [.int (nI 5), .int (nI 6), .ref aH, .int (nI nh)])), (aH, .inl (cI, 5 * 6, .inl (fl 6 G))), (na, .inr (1, [.ref hN, .ref pe])), (hN, .inr (3, [.int (nI 200), .int (nI 5), .ref aN, .int (nI nn)])), (aN, .inl (cI, 200 * 5, .inl (fl 5 N))), (hB, .inr (3, [.int (nI 20), .int (nI 4), .ref aB, .int (nI nb)])), (aB, .inl (cI, 20 * 4, .inl (fl 4 B))), (hE, .inr (3, [.int (nI 200), .int (nI 6), .ref aE, .int (nI (adn 200 ne))])), (aE, .inl (cI, 200 * 6, .inl (fl 6 (eaddT ne E w h nm a b td))))]) 0 0 (adr [(o, .inr (4, [.ref pe, .ref hu, .ref na, .ref hB, .ref hE, .int td])), (pe, .inr (2, [.ref hP_])), (hP_, .inr (3, [.int (nI 24), .int (nI 6), .ref aP, .int (nI np)])), (aP, .inl (cI, 24 * 6, .inl (fl 6 P))), (hu, .inr (0, [.ref hH])), (hH, .inr (3, [.int (nI 5), .int (nI 6), .ref aH, .int (nI nh)])), (aH, .inl (cI, 5 * 6, .inl (fl 6 G))), (na, .inr (1, [.ref hN, .ref pe])), (hN, .inr (3, [.int (nI 200), .int (nI 5), .ref aN, .int (nI nn)])), (aN, .inl (cI, 200 * 5, .inl (fl 5 N))), (hB, .inr (3, [.int (nI 20), .int (nI 4), .ref aB, .int (nI nb)])), (aB, .inl (cI, 20 * 4, .inl (fl 4 B))), (hE, .inr (3, [.int (nI 200), .int (nI 6), .ref aE, .int (nI ne)])), (aE, .inl (cI, 200 * 6, .inl (fl 6 E)))]) := by
  refine mu_of (cc := cX4_enter) (maxL := 7) (ret := none) (by decide) rfl (Nat.le_of_ble_eq_true rfl) ?_
  intro pp ee ss mm bw me cd ls hx hb hr hts hown hlocks hml hK hl H locs hP hD hS
  have hl : lv_has ls 7 [(0, .ref o), (1, .int w), (2, .int h), (3, .int nm), (4, .int a), (5, .int b)] := hl
  have hf41 := hts (.fieldLink RX4 41 "OtherNames" "entries" "LOtherNames$Rows;") (by decide +kernel)
  have hin4 := (show ∀ w ∈ wsX40, w ∈ wsX4_enter by decide +kernel)
  have hf44 := hts (.fieldLink RX4 44 "OtherNames" "today" "I") (by decide +kernel)
  refine lv_aload_n hx hb dX4_enter_0 rfl (lv_at hl 0 rfl) ?_
  refine va_get (D := D) (ci := 4) (v := .ref hE) (C := RX4) (T := TX4) (N := 6) hx hb hts hin4 hown hK hP 0 rfl rfl 4 (by decide) hf41 (fun _ h9 => h9) rfl dX4_enter_1 ?_
  refine mcV (As := []) (rest := []) (ci := 3) (wn := [(o, .inr (4, [.ref pe, .ref hu, .ref na, .ref hB, .ref hE, .int td])), (pe, .inr (2, [.ref hP_])), (hP_, .inr (3, [.int (nI 24), .int (nI 6), .ref aP, .int (nI np)])), (aP, .inl (cI, 24 * 6, .inl (fl 6 P))), (hu, .inr (0, [.ref hH])), (hH, .inr (3, [.int (nI 5), .int (nI 6), .ref aH, .int (nI nh)])), (aH, .inl (cI, 5 * 6, .inl (fl 6 G))), (na, .inr (1, [.ref hN, .ref pe])), (hN, .inr (3, [.int (nI 200), .int (nI 5), .ref aN, .int (nI nn)])), (aN, .inl (cI, 200 * 5, .inl (fl 5 N))), (hB, .inr (3, [.int (nI 20), .int (nI 4), .ref aB, .int (nI nb)])), (aB, .inl (cI, 20 * 4, .inl (fl 4 B))), (hE, .inr (3, [.int (nI 200), .int (nI 6), .ref aE, .int (nI (adn 200 ne))])), (aE, .inl (cI, 200 * 6, .inl (fl 6 E)))]) ⟨hx, hb, hml, hown, hts⟩ (kX3_addRow l D cI cZ hE aE 200 6 ne E (by first | assumption | omega)) (cwV 0 hts gX4_enter_X3_addRow rfl rfl rfl (by decide +kernel) ⟨Nat.le_of_ble_eq_true rfl, Nat.le_of_ble_eq_true rfl⟩) hK hP hD hS [12, 13] rfl rfl rfl rfl rfl rfl rfl rfl rfl hl.1 rfl (Nat.le_of_ble_eq_true rfl) ⟨Nat.zero_le _, Nat.zero_le _⟩ dX4_enter_4 (fun H locs hP hD hS => ?_)
  refine W.eq (g2 := F0 mm 7 ls (.int (arow 200 ne) :: [])) rfl ?_
  refine lv_istore (lv' := [(6, .int (arow 200 ne)), (0, .ref o), (1, .int w), (2, .int h), (3, .int nm), (4, .int a), (5, .int b)]) hx hb dX4_enter_7 hl (by decide) rfl (fun ls hl => ?_)
  refine lv_aload_n hx hb dX4_enter_9 rfl (lv_at hl 1 rfl) ?_
  refine va_get (D := D) (ci := 4) (v := .ref hE) (C := RX4) (T := TX4) (N := 6) hx hb hts hin4 hown hK hP 0 rfl rfl 4 (by decide) hf41 (fun _ h9 => h9) rfl dX4_enter_10 ?_
  refine lv_iload hx hb dX4_enter_13 (lv_at hl 0 rfl) ?_
  refine lv_iconst (v := 0) hx hb dX4_enter_15 (by decide) ?_
  refine lv_iload_n hx hb dX4_enter_16 rfl (lv_at hl 2 rfl) ?_
  refine mcV (As := [.int (arow 200 ne), .int 0, .int w]) (rest := []) (ci := 3) (wn := [(o, .inr (4, [.ref pe, .ref hu, .ref na, .ref hB, .ref hE, .int td])), (pe, .inr (2, [.ref hP_])), (hP_, .inr (3, [.int (nI 24), .int (nI 6), .ref aP, .int (nI np)])), (aP, .inl (cI, 24 * 6, .inl (fl 6 P))), (hu, .inr (0, [.ref hH])), (hH, .inr (3, [.int (nI 5), .int (nI 6), .ref aH, .int (nI nh)])), (aH, .inl (cI, 5 * 6, .inl (fl 6 G))), (na, .inr (1, [.ref hN, .ref pe])), (hN, .inr (3, [.int (nI 200), .int (nI 5), .ref aN, .int (nI nn)])), (aN, .inl (cI, 200 * 5, .inl (fl 5 N))), (hB, .inr (3, [.int (nI 20), .int (nI 4), .ref aB, .int (nI nb)])), (aB, .inl (cI, 20 * 4, .inl (fl 4 B))), (hE, .inr (3, [.int (nI 200), .int (nI 6), .ref aE, .int (nI (adn 200 ne))])), (aE, .inl (cI, 200 * 6, .inl (fl 6 (tput (adn 200 ne) 6 E (arow 200 ne) 0 w))))]) ⟨hx, hb, hml, hown, hts⟩ (kX3_put l D cI cZ hE aE 200 6 (adn 200 ne) E (arow 200 ne) 0 w (by have := adn_le hne; omega)) (cwV 3 hts gX4_enter_X3_put rfl rfl rfl (by decide +kernel) ⟨Nat.le_of_ble_eq_true rfl, Nat.le_of_ble_eq_true rfl⟩) hK hP hD hS [12, 13] rfl rfl rfl rfl rfl rfl rfl rfl rfl hl.1 rfl (Nat.le_of_ble_eq_true rfl) ⟨Nat.zero_le _, Nat.zero_le _⟩ dX4_enter_17 (fun H locs hP hD hS => ?_)
  refine W.eq (g2 := F0 mm 20 ls []) rfl ?_
  refine lv_aload_n hx hb dX4_enter_20 rfl (lv_at hl 1 rfl) ?_
  refine va_get (D := D) (ci := 4) (v := .ref hE) (C := RX4) (T := TX4) (N := 6) hx hb hts hin4 hown hK hP 0 rfl rfl 4 (by decide) hf41 (fun _ h9 => h9) rfl dX4_enter_21 ?_
  refine lv_iload hx hb dX4_enter_24 (lv_at hl 0 rfl) ?_
  refine lv_iconst (v := 1) hx hb dX4_enter_26 (by decide) ?_
  refine lv_iload_n hx hb dX4_enter_27 rfl (lv_at hl 3 rfl) ?_
  refine mcV (As := [.int (arow 200 ne), .int 1, .int h]) (rest := []) (ci := 3) (wn := [(o, .inr (4, [.ref pe, .ref hu, .ref na, .ref hB, .ref hE, .int td])), (pe, .inr (2, [.ref hP_])), (hP_, .inr (3, [.int (nI 24), .int (nI 6), .ref aP, .int (nI np)])), (aP, .inl (cI, 24 * 6, .inl (fl 6 P))), (hu, .inr (0, [.ref hH])), (hH, .inr (3, [.int (nI 5), .int (nI 6), .ref aH, .int (nI nh)])), (aH, .inl (cI, 5 * 6, .inl (fl 6 G))), (na, .inr (1, [.ref hN, .ref pe])), (hN, .inr (3, [.int (nI 200), .int (nI 5), .ref aN, .int (nI nn)])), (aN, .inl (cI, 200 * 5, .inl (fl 5 N))), (hB, .inr (3, [.int (nI 20), .int (nI 4), .ref aB, .int (nI nb)])), (aB, .inl (cI, 20 * 4, .inl (fl 4 B))), (hE, .inr (3, [.int (nI 200), .int (nI 6), .ref aE, .int (nI (adn 200 ne))])), (aE, .inl (cI, 200 * 6, .inl (fl 6 (tput (adn 200 ne) 6 (tput (adn 200 ne) 6 E (arow 200 ne) 0 w) (arow 200 ne) 1 h))))]) ⟨hx, hb, hml, hown, hts⟩ (kX3_put l D cI cZ hE aE 200 6 (adn 200 ne) (tput (adn 200 ne) 6 E (arow 200 ne) 0 w) (arow 200 ne) 1 h (by have := adn_le hne; omega)) (cwV 3 hts gX4_enter_X3_put rfl rfl rfl (by decide +kernel) ⟨Nat.le_of_ble_eq_true rfl, Nat.le_of_ble_eq_true rfl⟩) hK hP hD hS [12, 13] rfl rfl rfl rfl rfl rfl rfl rfl rfl hl.1 rfl (Nat.le_of_ble_eq_true rfl) ⟨Nat.zero_le _, Nat.zero_le _⟩ dX4_enter_28 (fun H locs hP hD hS => ?_)
  refine W.eq (g2 := F0 mm 31 ls []) rfl ?_
  refine lv_aload_n hx hb dX4_enter_31 rfl (lv_at hl 1 rfl) ?_
  refine va_get (D := D) (ci := 4) (v := .ref hE) (C := RX4) (T := TX4) (N := 6) hx hb hts hin4 hown hK hP 0 rfl rfl 4 (by decide) hf41 (fun _ h9 => h9) rfl dX4_enter_32 ?_
  refine lv_iload hx hb dX4_enter_35 (lv_at hl 0 rfl) ?_
  refine lv_iconst (v := 2) hx hb dX4_enter_37 (by decide) ?_
  refine lv_iload_n hx hb dX4_enter_38 rfl (lv_at hl 4 rfl) ?_
  refine mcV (As := [.int (arow 200 ne), .int 2, .int nm]) (rest := []) (ci := 3) (wn := [(o, .inr (4, [.ref pe, .ref hu, .ref na, .ref hB, .ref hE, .int td])), (pe, .inr (2, [.ref hP_])), (hP_, .inr (3, [.int (nI 24), .int (nI 6), .ref aP, .int (nI np)])), (aP, .inl (cI, 24 * 6, .inl (fl 6 P))), (hu, .inr (0, [.ref hH])), (hH, .inr (3, [.int (nI 5), .int (nI 6), .ref aH, .int (nI nh)])), (aH, .inl (cI, 5 * 6, .inl (fl 6 G))), (na, .inr (1, [.ref hN, .ref pe])), (hN, .inr (3, [.int (nI 200), .int (nI 5), .ref aN, .int (nI nn)])), (aN, .inl (cI, 200 * 5, .inl (fl 5 N))), (hB, .inr (3, [.int (nI 20), .int (nI 4), .ref aB, .int (nI nb)])), (aB, .inl (cI, 20 * 4, .inl (fl 4 B))), (hE, .inr (3, [.int (nI 200), .int (nI 6), .ref aE, .int (nI (adn 200 ne))])), (aE, .inl (cI, 200 * 6, .inl (fl 6 (tput (adn 200 ne) 6 (tput (adn 200 ne) 6 (tput (adn 200 ne) 6 E (arow 200 ne) 0 w) (arow 200 ne) 1 h) (arow 200 ne) 2 nm))))]) ⟨hx, hb, hml, hown, hts⟩ (kX3_put l D cI cZ hE aE 200 6 (adn 200 ne) (tput (adn 200 ne) 6 (tput (adn 200 ne) 6 E (arow 200 ne) 0 w) (arow 200 ne) 1 h) (arow 200 ne) 2 nm (by have := adn_le hne; omega)) (cwV 3 hts gX4_enter_X3_put rfl rfl rfl (by decide +kernel) ⟨Nat.le_of_ble_eq_true rfl, Nat.le_of_ble_eq_true rfl⟩) hK hP hD hS [12, 13] rfl rfl rfl rfl rfl rfl rfl rfl rfl hl.1 rfl (Nat.le_of_ble_eq_true rfl) ⟨Nat.zero_le _, Nat.zero_le _⟩ dX4_enter_39 (fun H locs hP hD hS => ?_)
  refine W.eq (g2 := F0 mm 42 ls []) rfl ?_
  refine lv_aload_n hx hb dX4_enter_42 rfl (lv_at hl 1 rfl) ?_
  refine va_get (D := D) (ci := 4) (v := .ref hE) (C := RX4) (T := TX4) (N := 6) hx hb hts hin4 hown hK hP 0 rfl rfl 4 (by decide) hf41 (fun _ h9 => h9) rfl dX4_enter_43 ?_
  refine lv_iload hx hb dX4_enter_46 (lv_at hl 0 rfl) ?_
  refine lv_iconst (v := 3) hx hb dX4_enter_48 (by decide) ?_
  refine lv_iload hx hb dX4_enter_49 (lv_at hl 5 rfl) ?_
  refine mcV (As := [.int (arow 200 ne), .int 3, .int a]) (rest := []) (ci := 3) (wn := [(o, .inr (4, [.ref pe, .ref hu, .ref na, .ref hB, .ref hE, .int td])), (pe, .inr (2, [.ref hP_])), (hP_, .inr (3, [.int (nI 24), .int (nI 6), .ref aP, .int (nI np)])), (aP, .inl (cI, 24 * 6, .inl (fl 6 P))), (hu, .inr (0, [.ref hH])), (hH, .inr (3, [.int (nI 5), .int (nI 6), .ref aH, .int (nI nh)])), (aH, .inl (cI, 5 * 6, .inl (fl 6 G))), (na, .inr (1, [.ref hN, .ref pe])), (hN, .inr (3, [.int (nI 200), .int (nI 5), .ref aN, .int (nI nn)])), (aN, .inl (cI, 200 * 5, .inl (fl 5 N))), (hB, .inr (3, [.int (nI 20), .int (nI 4), .ref aB, .int (nI nb)])), (aB, .inl (cI, 20 * 4, .inl (fl 4 B))), (hE, .inr (3, [.int (nI 200), .int (nI 6), .ref aE, .int (nI (adn 200 ne))])), (aE, .inl (cI, 200 * 6, .inl (fl 6 (tput (adn 200 ne) 6 (tput (adn 200 ne) 6 (tput (adn 200 ne) 6 (tput (adn 200 ne) 6 E (arow 200 ne) 0 w) (arow 200 ne) 1 h) (arow 200 ne) 2 nm) (arow 200 ne) 3 a))))]) ⟨hx, hb, hml, hown, hts⟩ (kX3_put l D cI cZ hE aE 200 6 (adn 200 ne) (tput (adn 200 ne) 6 (tput (adn 200 ne) 6 (tput (adn 200 ne) 6 E (arow 200 ne) 0 w) (arow 200 ne) 1 h) (arow 200 ne) 2 nm) (arow 200 ne) 3 a (by have := adn_le hne; omega)) (cwV 3 hts gX4_enter_X3_put rfl rfl rfl (by decide +kernel) ⟨Nat.le_of_ble_eq_true rfl, Nat.le_of_ble_eq_true rfl⟩) hK hP hD hS [12, 13] rfl rfl rfl rfl rfl rfl rfl rfl rfl hl.1 rfl (Nat.le_of_ble_eq_true rfl) ⟨Nat.zero_le _, Nat.zero_le _⟩ dX4_enter_51 (fun H locs hP hD hS => ?_)
  refine W.eq (g2 := F0 mm 54 ls []) rfl ?_
  refine lv_aload_n hx hb dX4_enter_54 rfl (lv_at hl 1 rfl) ?_
  refine va_get (D := D) (ci := 4) (v := .ref hE) (C := RX4) (T := TX4) (N := 6) hx hb hts hin4 hown hK hP 0 rfl rfl 4 (by decide) hf41 (fun _ h9 => h9) rfl dX4_enter_55 ?_
  refine lv_iload hx hb dX4_enter_58 (lv_at hl 0 rfl) ?_
  refine lv_iconst (v := 4) hx hb dX4_enter_60 (by decide) ?_
  refine lv_iload hx hb dX4_enter_61 (lv_at hl 6 rfl) ?_
  refine mcV (As := [.int (arow 200 ne), .int 4, .int b]) (rest := []) (ci := 3) (wn := [(o, .inr (4, [.ref pe, .ref hu, .ref na, .ref hB, .ref hE, .int td])), (pe, .inr (2, [.ref hP_])), (hP_, .inr (3, [.int (nI 24), .int (nI 6), .ref aP, .int (nI np)])), (aP, .inl (cI, 24 * 6, .inl (fl 6 P))), (hu, .inr (0, [.ref hH])), (hH, .inr (3, [.int (nI 5), .int (nI 6), .ref aH, .int (nI nh)])), (aH, .inl (cI, 5 * 6, .inl (fl 6 G))), (na, .inr (1, [.ref hN, .ref pe])), (hN, .inr (3, [.int (nI 200), .int (nI 5), .ref aN, .int (nI nn)])), (aN, .inl (cI, 200 * 5, .inl (fl 5 N))), (hB, .inr (3, [.int (nI 20), .int (nI 4), .ref aB, .int (nI nb)])), (aB, .inl (cI, 20 * 4, .inl (fl 4 B))), (hE, .inr (3, [.int (nI 200), .int (nI 6), .ref aE, .int (nI (adn 200 ne))])), (aE, .inl (cI, 200 * 6, .inl (fl 6 (tput (adn 200 ne) 6 (tput (adn 200 ne) 6 (tput (adn 200 ne) 6 (tput (adn 200 ne) 6 (tput (adn 200 ne) 6 E (arow 200 ne) 0 w) (arow 200 ne) 1 h) (arow 200 ne) 2 nm) (arow 200 ne) 3 a) (arow 200 ne) 4 b))))]) ⟨hx, hb, hml, hown, hts⟩ (kX3_put l D cI cZ hE aE 200 6 (adn 200 ne) (tput (adn 200 ne) 6 (tput (adn 200 ne) 6 (tput (adn 200 ne) 6 (tput (adn 200 ne) 6 E (arow 200 ne) 0 w) (arow 200 ne) 1 h) (arow 200 ne) 2 nm) (arow 200 ne) 3 a) (arow 200 ne) 4 b (by have := adn_le hne; omega)) (cwV 3 hts gX4_enter_X3_put rfl rfl rfl (by decide +kernel) ⟨Nat.le_of_ble_eq_true rfl, Nat.le_of_ble_eq_true rfl⟩) hK hP hD hS [12, 13] rfl rfl rfl rfl rfl rfl rfl rfl rfl hl.1 rfl (Nat.le_of_ble_eq_true rfl) ⟨Nat.zero_le _, Nat.zero_le _⟩ dX4_enter_63 (fun H locs hP hD hS => ?_)
  refine W.eq (g2 := F0 mm 66 ls []) rfl ?_
  refine lv_aload_n hx hb dX4_enter_66 rfl (lv_at hl 1 rfl) ?_
  refine va_get (D := D) (ci := 4) (v := .ref hE) (C := RX4) (T := TX4) (N := 6) hx hb hts hin4 hown hK hP 0 rfl rfl 4 (by decide) hf41 (fun _ h9 => h9) rfl dX4_enter_67 ?_
  refine lv_iload hx hb dX4_enter_70 (lv_at hl 0 rfl) ?_
  refine lv_iconst (v := 5) hx hb dX4_enter_72 (by decide) ?_
  refine lv_aload_n hx hb dX4_enter_73 rfl (lv_at hl 1 rfl) ?_
  refine va_get (D := D) (ci := 4) (v := .int td) (C := RX4) (T := TX4) (N := 6) hx hb hts hin4 hown hK hP 0 rfl rfl 5 (by decide) hf44 (fun _ h9 => h9) rfl dX4_enter_74 ?_
  refine mcV (As := [.int (arow 200 ne), .int 5, .int td]) (rest := []) (ci := 3) (wn := [(o, .inr (4, [.ref pe, .ref hu, .ref na, .ref hB, .ref hE, .int td])), (pe, .inr (2, [.ref hP_])), (hP_, .inr (3, [.int (nI 24), .int (nI 6), .ref aP, .int (nI np)])), (aP, .inl (cI, 24 * 6, .inl (fl 6 P))), (hu, .inr (0, [.ref hH])), (hH, .inr (3, [.int (nI 5), .int (nI 6), .ref aH, .int (nI nh)])), (aH, .inl (cI, 5 * 6, .inl (fl 6 G))), (na, .inr (1, [.ref hN, .ref pe])), (hN, .inr (3, [.int (nI 200), .int (nI 5), .ref aN, .int (nI nn)])), (aN, .inl (cI, 200 * 5, .inl (fl 5 N))), (hB, .inr (3, [.int (nI 20), .int (nI 4), .ref aB, .int (nI nb)])), (aB, .inl (cI, 20 * 4, .inl (fl 4 B))), (hE, .inr (3, [.int (nI 200), .int (nI 6), .ref aE, .int (nI (adn 200 ne))])), (aE, .inl (cI, 200 * 6, .inl (fl 6 (tput (adn 200 ne) 6 (tput (adn 200 ne) 6 (tput (adn 200 ne) 6 (tput (adn 200 ne) 6 (tput (adn 200 ne) 6 (tput (adn 200 ne) 6 E (arow 200 ne) 0 w) (arow 200 ne) 1 h) (arow 200 ne) 2 nm) (arow 200 ne) 3 a) (arow 200 ne) 4 b) (arow 200 ne) 5 td))))]) ⟨hx, hb, hml, hown, hts⟩ (kX3_put l D cI cZ hE aE 200 6 (adn 200 ne) (tput (adn 200 ne) 6 (tput (adn 200 ne) 6 (tput (adn 200 ne) 6 (tput (adn 200 ne) 6 (tput (adn 200 ne) 6 E (arow 200 ne) 0 w) (arow 200 ne) 1 h) (arow 200 ne) 2 nm) (arow 200 ne) 3 a) (arow 200 ne) 4 b) (arow 200 ne) 5 td (by have := adn_le hne; omega)) (cwV 3 hts gX4_enter_X3_put rfl rfl rfl (by decide +kernel) ⟨Nat.le_of_ble_eq_true rfl, Nat.le_of_ble_eq_true rfl⟩) hK hP hD hS [12, 13] rfl rfl rfl rfl rfl rfl rfl rfl rfl hl.1 rfl (Nat.le_of_ble_eq_true rfl) ⟨Nat.zero_le _, Nat.zero_le _⟩ dX4_enter_77 (fun H locs hP hD hS => ?_)
  refine W.eq (g2 := F0 mm 80 ls []) rfl ?_
  refine mu_vret hx hb hr hlocks hS dX4_enter_80 ?_
  have q0 : (fl 6 (eaddT ne E w h nm a b td)) = (fl 6 (tput (adn 200 ne) 6 (tput (adn 200 ne) 6 (tput (adn 200 ne) 6 (tput (adn 200 ne) 6 (tput (adn 200 ne) 6 (tput (adn 200 ne) 6 E (arow 200 ne) 0 w) (arow 200 ne) 1 h) (arow 200 ne) 2 nm) (arow 200 ne) 3 a) (arow 200 ne) 4 b) (arow 200 ne) 5 td)) := by rfl
  rw [q0]
  exact hP
set_option maxHeartbeats 4000000 in
set_option maxRecDepth 100000 in
theorem kX4_headBehind (l : Launch) (D : va_G) (cI cZ : ClassId) (o pe hP_ aP hu hH aH na hN aN hB aB hE aE np nh nn nb ne : Nat) (td : Int32) (P G N B E : Nat → Nat → Int32) (h : Int32) (nm : Int32) (hnp : np ≤ 24) (hnh : nh ≤ 5) (hnn : nn ≤ 200) (hnb : nb ≤ 20) (hne : ne ≤ 200) (hw : HP np (P 4)) (ho : HO nn np N) : Met l yX4_headBehind wsX4_headBehind ({ frames := 4, cells := 0, slots := 0, locals := 88 } : Room) (RdP D [(cI, .int), (cZ, .boolean)] [.ref o, .int h, .int nm] [(o, .inr (4, [.ref pe, .ref hu, .ref na, .ref hB, .ref hE, .int td])), (pe, .inr (2, [.ref hP_])), (hP_, .inr (3, [.int (nI 24), .int (nI 6), .ref aP, .int (nI np)])), (aP, .inl (cI, 24 * 6, .inl (fl 6 P))), (hu, .inr (0, [.ref hH])), (hH, .inr (3, [.int (nI 5), .int (nI 6), .ref aH, .int (nI nh)])), (aH, .inl (cI, 5 * 6, .inl (fl 6 G))), (na, .inr (1, [.ref hN, .ref pe])), (hN, .inr (3, [.int (nI 200), .int (nI 5), .ref aN, .int (nI nn)])), (aN, .inl (cI, 200 * 5, .inl (fl 5 N))), (hB, .inr (3, [.int (nI 20), .int (nI 4), .ref aB, .int (nI nb)])), (aB, .inl (cI, 20 * 4, .inl (fl 4 B))), (hE, .inr (3, [.int (nI 200), .int (nI 6), .ref aE, .int (nI ne)])), (aE, .inl (cI, 200 * 6, .inl (fl 6 E)))]) (QcRead (hbR np nn P N h nm)) 0 0 (fun _ => False) := by
  refine rd_of (cc := cX4_headBehind) (maxL := 4) (ret := (some .int)) (by decide) rfl (Nat.le_of_ble_eq_true rfl) ?_
  intro pp ee ss mm bw me cd ls hx hb hr hts hown hlocks hml hP hK hl
  have hl : lv_has ls 4 [(0, .ref o), (1, .int h), (2, .int nm)] := hl
  have hf28 := hts (.fieldLink RX4 28 "OtherNames" "names" "LOtherNames$Names;") (by decide +kernel)
  have hin4 := (show ∀ w ∈ wsX40, w ∈ wsX4_headBehind by decide +kernel)
  have hf10 := hts (.fieldLink RX4 10 "OtherNames" "people" "LOtherNames$People;") (by decide +kernel)
  refine lv_aload_n hx hb dX4_headBehind_0 rfl (lv_at hl 0 rfl) ?_
  refine va_get (D := D) (ci := 4) (v := .ref na) (C := RX4) (T := TX4) (N := 6) hx hb hts hin4 hown hK hP 0 rfl rfl 2 (by decide) hf28 (fun _ h9 => h9) rfl dX4_headBehind_1 ?_
  refine lv_iload_n hx hb dX4_headBehind_4 rfl (lv_at hl 1 rfl) ?_
  refine lv_iload_n hx hb dX4_headBehind_5 rfl (lv_at hl 2 rfl) ?_
  refine rcV (As := [.int h, .int nm]) (rest := []) (ci := 1) ⟨hx, hb, hml, hown, hts⟩ (kX1_find l D cI cZ na hN aN nn N pe hP_ aP np P h nm (by first | assumption | omega) (by first | assumption | omega)) (cwV 2 hts gX4_headBehind_X1_find rfl rfl rfl (by decide +kernel) ⟨Nat.le_of_ble_eq_true rfl, Nat.le_of_ble_eq_true rfl⟩) hK hP [7, 8, 9, 1, 2, 3] rfl rfl rfl rfl rfl hl.1 rfl (Nat.le_of_ble_eq_true rfl) ⟨Nat.zero_le _, Nat.zero_le _⟩ dX4_headBehind_6 ?_
  refine lv_istore_n (lv' := [(3, .int (fsI (fdB N h nm) nn)), (0, .ref o), (1, .int h), (2, .int nm)]) hx hb dX4_headBehind_9 rfl hl (by decide) rfl (fun ls hl => ?_)
  refine lv_iload_n hx hb dX4_headBehind_10 rfl (lv_at hl 0 rfl) ?_
  refine lv_iconst (v := (-1)) hx hb dX4_headBehind_11 (by decide) ?_
  refine lv_icmp_eq (tgt := 33) hx hb dX4_headBehind_12 (by decide) (fun c_12 => ?_) (fun c_12 => ?_)
  · skip
    refine lv_iconst (v := (-1)) hx hb dX4_headBehind_33 (by decide) ?_
    exact rd_iret hx hb hr hlocks dX4_headBehind_34 (by simp [hbR, c_12])
  · skip
    obtain ⟨i, hi2, e, hf, hmin⟩ := fsI_ex (by omega) c_12
    rw [e] at hl
    refine lv_aload_n hx hb dX4_headBehind_15 rfl (lv_at hl 1 rfl) ?_
    refine va_get (D := D) (ci := 4) (v := .ref pe) (C := RX4) (T := TX4) (N := 6) hx hb hts hin4 hown hK hP 0 rfl rfl 0 (by decide) hf10 (fun _ h9 => h9) rfl dX4_headBehind_16 ?_
    refine lv_aload_n hx hb dX4_headBehind_19 rfl (lv_at hl 1 rfl) ?_
    refine va_get (D := D) (ci := 4) (v := .ref na) (C := RX4) (T := TX4) (N := 6) hx hb hts hin4 hown hK hP 0 rfl rfl 2 (by decide) hf28 (fun _ h9 => h9) rfl dX4_headBehind_20 ?_
    refine lv_iload_n hx hb dX4_headBehind_23 rfl (lv_at hl 0 rfl) ?_
    refine rcV (As := [.int ((nI i))]) (rest := [.ref pe]) (ci := 1) ⟨hx, hb, hml, hown, hts⟩ (kX1_ownerAt l D cI cZ na hN aN nn N pe hP_ aP np P (nI i) (by first | assumption | omega) (by first | assumption | omega)) (cwV 1 hts gX4_headBehind_X1_ownerAt rfl rfl rfl (by decide +kernel) ⟨Nat.le_of_ble_eq_true rfl, Nat.le_of_ble_eq_true rfl⟩) hK hP [7, 8, 9, 1, 2, 3] rfl rfl rfl rfl rfl hl.1 rfl (Nat.le_of_ble_eq_true rfl) ⟨Nat.zero_le _, Nat.zero_le _⟩ dX4_headBehind_24 ?_
    rw [show tat nn 5 N (nI i) 2 = nI (ow N i) from (tat_nI (c := 2) (by omega) (by omega) hi2 (by omega)).trans (ho i hi2).1]
    refine rcV (As := [.int (nI (ow N i))]) (rest := []) (ci := 2) ⟨hx, hb, hml, hown, hts⟩ (kX2_isStruckOut l D cI cZ pe hP_ aP np P (nI (ow N i)) (by first | assumption | omega)) (cwV 1 hts gX4_headBehind_X2_isStruckOut rfl rfl rfl (by decide +kernel) ⟨Nat.le_of_ble_eq_true rfl, Nat.le_of_ble_eq_true rfl⟩) hK hP [1, 2, 3] rfl rfl rfl rfl rfl hl.1 rfl (Nat.le_of_ble_eq_true rfl) ⟨Nat.zero_le _, Nat.zero_le _⟩ dX4_headBehind_27 ?_
    refine lb_eq (tgt := 35) hx hb dX4_headBehind_30 (by decide) (fun c_30 => ?_) (fun c_30 => ?_)
    · skip
      refine lv_aload_n hx hb dX4_headBehind_35 rfl (lv_at hl 1 rfl) ?_
      refine va_get (D := D) (ci := 4) (v := .ref pe) (C := RX4) (T := TX4) (N := 6) hx hb hts hin4 hown hK hP 0 rfl rfl 0 (by decide) hf10 (fun _ h9 => h9) rfl dX4_headBehind_36 ?_
      refine lv_aload_n hx hb dX4_headBehind_39 rfl (lv_at hl 1 rfl) ?_
      refine va_get (D := D) (ci := 4) (v := .ref na) (C := RX4) (T := TX4) (N := 6) hx hb hts hin4 hown hK hP 0 rfl rfl 2 (by decide) hf28 (fun _ h9 => h9) rfl dX4_headBehind_40 ?_
      refine lv_iload_n hx hb dX4_headBehind_43 rfl (lv_at hl 0 rfl) ?_
      refine rcV (As := [.int ((nI i))]) (rest := [.ref pe]) (ci := 1) ⟨hx, hb, hml, hown, hts⟩ (kX1_ownerAt l D cI cZ na hN aN nn N pe hP_ aP np P (nI i) (by first | assumption | omega) (by first | assumption | omega)) (cwV 1 hts gX4_headBehind_X1_ownerAt rfl rfl rfl (by decide +kernel) ⟨Nat.le_of_ble_eq_true rfl, Nat.le_of_ble_eq_true rfl⟩) hK hP [7, 8, 9, 1, 2, 3] rfl rfl rfl rfl rfl hl.1 rfl (Nat.le_of_ble_eq_true rfl) ⟨Nat.zero_le _, Nat.zero_le _⟩ dX4_headBehind_44 ?_
      rw [show tat nn 5 N (nI i) 2 = nI (ow N i) from (tat_nI (c := 2) (by omega) (by omega) hi2 (by omega)).trans (ho i hi2).1]
      refine rcV (As := [.int (nI (ow N i))]) (rest := []) (ci := 2) ⟨hx, hb, hml, hown, hts⟩ (kX2_headOf l D cI cZ pe hP_ aP np P (ow N i) (by first | assumption | omega) (by first | assumption | omega) (ho i hi2).2) (cwV 1 hts gX4_headBehind_X2_headOf rfl rfl rfl (by decide +kernel) ⟨Nat.le_of_ble_eq_true rfl, Nat.le_of_ble_eq_true rfl⟩) hK hP [1, 2, 3] rfl rfl rfl rfl rfl hl.1 rfl (Nat.le_of_ble_eq_true rfl) ⟨Nat.zero_le _, Nat.zero_le _⟩ dX4_headBehind_47 ?_
      exact rd_iret hx hb hr hlocks dX4_headBehind_50 (by simp only [hbR, e, nI_clamp (show i < 2 ^ 31 by omega), if_neg (m1_nI (show i < 2 ^ 31 by omega)), c_30]; rfl)
    · skip
      refine lv_iconst (v := (-1)) hx hb dX4_headBehind_33 (by decide) ?_
      exact rd_iret hx hb hr hlocks dX4_headBehind_34 (by simp only [hbR, e, nI_clamp (show i < 2 ^ 31 by omega), if_neg (m1_nI (show i < 2 ^ 31 by omega)), c_30]; rfl)
set_option maxHeartbeats 4000000 in
set_option maxRecDepth 100000 in
theorem kX4_leads (l : Launch) (D : va_G) (cI cZ : ClassId) (o pe hP_ aP hu hH aH na hN aN hB aB hE aE np nh nn nb ne : Nat) (td : Int32) (P G N B E : Nat → Nat → Int32) (h : Int32) (nm : Int32) (hnp : np ≤ 24) (hnh : nh ≤ 5) (hnn : nn ≤ 200) (hnb : nb ≤ 20) (hne : ne ≤ 200) (hw : HP np (P 4)) (ho : HO nn np N) : Met l yX4_leads wsX4_leads ({ frames := 5, cells := 0, slots := 0, locals := 113 } : Room) (RdP D [(cI, .int), (cZ, .boolean)] [.ref o, .int h, .int nm] [(o, .inr (4, [.ref pe, .ref hu, .ref na, .ref hB, .ref hE, .int td])), (pe, .inr (2, [.ref hP_])), (hP_, .inr (3, [.int (nI 24), .int (nI 6), .ref aP, .int (nI np)])), (aP, .inl (cI, 24 * 6, .inl (fl 6 P))), (hu, .inr (0, [.ref hH])), (hH, .inr (3, [.int (nI 5), .int (nI 6), .ref aH, .int (nI nh)])), (aH, .inl (cI, 5 * 6, .inl (fl 6 G))), (na, .inr (1, [.ref hN, .ref pe])), (hN, .inr (3, [.int (nI 200), .int (nI 5), .ref aN, .int (nI nn)])), (aN, .inl (cI, 200 * 5, .inl (fl 5 N))), (hB, .inr (3, [.int (nI 20), .int (nI 4), .ref aB, .int (nI nb)])), (aB, .inl (cI, 20 * 4, .inl (fl 4 B))), (hE, .inr (3, [.int (nI 200), .int (nI 6), .ref aE, .int (nI ne)])), (aE, .inl (cI, 200 * 6, .inl (fl 6 E)))]) (QcRead (ldR nn P N h nm)) 0 0 (fun _ => False) := by
  refine rd_of (cc := cX4_leads) (maxL := 4) (ret := (some .int)) (by decide) rfl (Nat.le_of_ble_eq_true rfl) ?_
  intro pp ee ss mm bw me cd ls hx hb hr hts hown hlocks hml hP hK hl
  have hl : lv_has ls 4 [(0, .ref o), (1, .int h), (2, .int nm)] := hl
  have hf28 := hts (.fieldLink RX4 28 "OtherNames" "names" "LOtherNames$Names;") (by decide +kernel)
  have hin4 := (show ∀ w ∈ wsX40, w ∈ wsX4_leads by decide +kernel)
  refine lv_aload_n hx hb dX4_leads_0 rfl (lv_at hl 0 rfl) ?_
  refine va_get (D := D) (ci := 4) (v := .ref na) (C := RX4) (T := TX4) (N := 6) hx hb hts hin4 hown hK hP 0 rfl rfl 2 (by decide) hf28 (fun _ h9 => h9) rfl dX4_leads_1 ?_
  refine lv_iload_n hx hb dX4_leads_4 rfl (lv_at hl 1 rfl) ?_
  refine lv_iload_n hx hb dX4_leads_5 rfl (lv_at hl 2 rfl) ?_
  refine rcV (As := [.int h, .int nm]) (rest := []) (ci := 1) ⟨hx, hb, hml, hown, hts⟩ (kX1_find l D cI cZ na hN aN nn N pe hP_ aP np P h nm (by first | assumption | omega) (by first | assumption | omega)) (cwV 2 hts gX4_leads_X1_find rfl rfl rfl (by decide +kernel) ⟨Nat.le_of_ble_eq_true rfl, Nat.le_of_ble_eq_true rfl⟩) hK hP [7, 8, 9, 1, 2, 3] rfl rfl rfl rfl rfl hl.1 rfl (Nat.le_of_ble_eq_true rfl) ⟨Nat.zero_le _, Nat.zero_le _⟩ dX4_leads_6 ?_
  refine lv_istore_n (lv' := [(3, .int (fsI (fdB N h nm) nn)), (0, .ref o), (1, .int h), (2, .int nm)]) hx hb dX4_leads_9 rfl hl (by decide) rfl (fun ls hl => ?_)
  refine lv_iload_n hx hb dX4_leads_10 rfl (lv_at hl 0 rfl) ?_
  refine lv_iconst (v := (-1)) hx hb dX4_leads_11 (by decide) ?_
  refine lv_icmp_ne (tgt := 19) hx hb dX4_leads_12 (by decide) (fun c_12 => ?_) (fun c_12 => ?_)
  · skip
    obtain ⟨i, hi2, e, hf, hmin⟩ := fsI_ex (by omega) c_12
    rw [e] at hl
    refine lv_aload_n hx hb dX4_leads_19 rfl (lv_at hl 1 rfl) ?_
    refine va_get (D := D) (ci := 4) (v := .ref na) (C := RX4) (T := TX4) (N := 6) hx hb hts hin4 hown hK hP 0 rfl rfl 2 (by decide) hf28 (fun _ h9 => h9) rfl dX4_leads_20 ?_
    refine lv_aload_n hx hb dX4_leads_23 rfl (lv_at hl 1 rfl) ?_
    refine va_get (D := D) (ci := 4) (v := .ref na) (C := RX4) (T := TX4) (N := 6) hx hb hts hin4 hown hK hP 0 rfl rfl 2 (by decide) hf28 (fun _ h9 => h9) rfl dX4_leads_24 ?_
    refine lv_iload_n hx hb dX4_leads_27 rfl (lv_at hl 0 rfl) ?_
    refine rcV (As := [.int ((nI i))]) (rest := [.ref na]) (ci := 1) ⟨hx, hb, hml, hown, hts⟩ (kX1_leadsTo l D cI cZ na hN aN nn N pe hP_ aP np P i (by first | assumption | omega) (by first | assumption | omega) (by first | assumption | omega) (by first | assumption | omega) (by first | assumption | omega)) (cwV 1 hts gX4_leads_X1_leadsTo rfl rfl rfl (by decide +kernel) ⟨Nat.le_of_ble_eq_true rfl, Nat.le_of_ble_eq_true rfl⟩) hK hP [7, 8, 9, 1, 2, 3] rfl rfl rfl rfl rfl hl.1 rfl (Nat.le_of_ble_eq_true rfl) ⟨Nat.zero_le _, Nat.zero_le _⟩ dX4_leads_28 ?_
    refine rcV (As := [.int (fsI (ffB N (P 4) (N 0 i) (N 4 i) (nI (hd (P 4) (ow N i)))) nn)]) (rest := []) (ci := 1) ⟨hx, hb, hml, hown, hts⟩ (kX1_nameAt l D cI cZ na hN aN nn N pe hP_ aP np P (fsI (ffB N (P 4) (N 0 i) (N 4 i) (nI (hd (P 4) (ow N i)))) nn) (by first | assumption | omega) (by first | assumption | omega)) (cwV 1 hts gX4_leads_X1_nameAt rfl rfl rfl (by decide +kernel) ⟨Nat.le_of_ble_eq_true rfl, Nat.le_of_ble_eq_true rfl⟩) hK hP [7, 8, 9, 1, 2, 3] rfl rfl rfl rfl rfl hl.1 rfl (Nat.le_of_ble_eq_true rfl) ⟨Nat.zero_le _, Nat.zero_le _⟩ dX4_leads_31 ?_
    exact rd_iret hx hb hr hlocks dX4_leads_34 (by simp only [ldR, e, nI_clamp (show i < 2 ^ 31 by omega), if_neg (m1_nI (show i < 2 ^ 31 by omega))])
  · skip
    refine lv_iconst (v := (-1)) hx hb dX4_leads_15 (by decide) ?_
    refine lv_goto (tgt := 34) hx hb dX4_leads_16 (by decide) ?_
    exact rd_iret hx hb hr hlocks dX4_leads_34 (by simp [ldR, c_12])
