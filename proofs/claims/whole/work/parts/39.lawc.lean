set_option maxHeartbeats 4000000 in
set_option maxRecDepth 100000 in
theorem law_c12 {p : Program} {l : Launch} {e : Env} {s : State} {m : MethodId} {below : List Frame} {meth : Method} {c : Code} {H : Heap} {locs : List Loc} {Q : State → Prop} {b L i : Nat} {xs : Nat → Int32} {D : va_G} {cI cZ : ClassId} {a k : Nat → Nat} {ls : Array Slot} {np nh nn nb ne : Nat} {td : Int32} {P G N B E : Nat → Nat → Int32} {mc : Nat → Int32} (X : LX p s m meth c b L xs D cI cZ a k ls i) (Y : LY s D cI cZ a k H locs np nh nn nb ne td P G N B E mc) (kk : LK p l e s m below meth c Q b D cI cZ a k ls) : W p l e room_1 s m #[Value.ref b] below meth c H locs 40 9000 Q (F0 m 612 ls []) := by
  obtain ⟨⟨hx, hb, hml, hown, hts, hX, hbl, hK, hL, hap, hr, hlocks⟩, hl, hi⟩ := id X
  obtain ⟨hv, hP, hM, hD, hE, hS⟩ := id Y
  obtain ⟨⟨hnp, hnh, hnn, hnb, hne⟩, ⟨hw, hs, hs0⟩, ⟨hg, hl0⟩, ⟨ho, hN0, hN1, hmc, hon⟩, htd⟩ := id hv
  refine lv_aload_n hx hb dL_law_612 rfl (lv_at hl 1 rfl) ?_
  refine ls_ld X hS 1 (by omega) (by decide) dL_law_613 dL_law_614 dL_law_615 dL_law_616 dL_law_617 ?_
  refine ls_ld X hS 2 (by omega) (by decide) dL_law_618 dL_law_619 dL_law_620 dL_law_621 dL_law_622 ?_
  refine ls_ld X hS 3 (by omega) (by decide) dL_law_623 dL_law_624 dL_law_625 dL_law_626 dL_law_627 ?_
  refine ls_ld X hS 4 (by omega) (by decide) dL_law_628 dL_law_629 dL_law_630 dL_law_631 dL_law_632 ?_
  refine ls_ld X hS 5 (by omega) (by decide) dL_law_633 dL_law_634 dL_law_635 dL_law_636 dL_law_637 ?_
  refine lcV (As := [.int (xs (i + 1)), .int (xs (i + 2)), .int (xs (i + 3)), .int (xs (i + 4)), .int (xs (i + 5))]) (rest := []) (ci := 4) ⟨hx, hb, hml, hown, hts⟩ (kX4_back l D cI cZ (a 0) (a 1) (a 2) (a 3) (a 4) (a 5) (a 6) (a 7) (a 8) (a 9) (a 10) (a 11) (a 12) (a 13) np nh nn nb ne td P G N B E (xs (i + 1)) (xs (i + 2)) (xs (i + 3)) (xs (i + 4)) (xs (i + 5)) hnp hnh hnn hnb hne hw ho) (cwV 5 hts gL_law_X4_back rfl rfl rfl (by decide +kernel) ⟨Nat.le_of_ble_eq_true rfl, Nat.le_of_ble_eq_true rfl⟩) hK hP hM hD hap hS rfl rfl rfl rfl rfl hl.1 rfl (Nat.le_of_ble_eq_true rfl) ⟨Nat.le_of_ble_eq_true rfl, Nat.le_of_ble_eq_true rfl⟩ dL_law_638 (fun H locs hP hM hD hS => ?_)
  refine lv_aload_n hx hb dL_law_641 rfl (lv_at hl 2 rfl) ?_
  refine ls_ld X hS 1 (by omega) (by decide) dL_law_642 dL_law_643 dL_law_644 dL_law_645 dL_law_646 ?_
  refine ls_ld X hS 2 (by omega) (by decide) dL_law_647 dL_law_648 dL_law_649 dL_law_650 dL_law_651 ?_
  refine ls_ld X hS 3 (by omega) (by decide) dL_law_652 dL_law_653 dL_law_654 dL_law_655 dL_law_656 ?_
  refine ls_ld X hS 4 (by omega) (by decide) dL_law_657 dL_law_658 dL_law_659 dL_law_660 dL_law_661 ?_
  refine ls_ld X hS 5 (by omega) (by decide) dL_law_662 dL_law_663 dL_law_664 dL_law_665 dL_law_666 ?_
  refine lcV (As := [.int (xs (i + 1)), .int (xs (i + 2)), .int (xs (i + 3)), .int (xs (i + 4)), .int (xs (i + 5))]) (rest := [.int _]) (ci := 5) ⟨hx, hb, hml, hown, hts⟩ (kX5_back l D cI cZ (k 0) (k 1) (k 2) (k 3) (k 4) (k 5) (k 6) (k 7) (k 8) (k 9) (k 10) (k 11) (k 12) (k 13) (k 14) (k 15) (k 16) (k 17) (k 18) (k 19) (k 20) np nh nn nb ne td P G N B E mc (xs (i + 1)) (xs (i + 2)) (xs (i + 3)) (xs (i + 4)) (xs (i + 5)) hnp hnh hnn hne hw ho hs hg) (cwV 5 hts gL_law_X5_back rfl rfl rfl (by decide +kernel) ⟨Nat.le_of_ble_eq_true rfl, Nat.le_of_ble_eq_true rfl⟩) hK hM hP hE (fun q h1 h2 => hap q h2 h1) hS rfl rfl rfl rfl rfl hl.1 rfl (Nat.le_of_ble_eq_true rfl) ⟨Nat.le_of_ble_eq_true rfl, Nat.le_of_ble_eq_true rfl⟩ dL_law_667 (fun H locs hM hP hE hS => ?_)
  refine lv_icmp_eq (tgt := 972) hx hb dL_law_670 (by decide) (fun _ => ?_) (fun q => absurd rfl q)
  exact kk _ _ _ _ _ _ _ _ _ _ _ _ _ _ ⟨Iv.back hv (xs (i + 1)) (xs (i + 3)) (xs (i + 4)) (xs (i + 5)), hP, hM, hD, hE, hS⟩
set_option maxHeartbeats 4000000 in
set_option maxRecDepth 100000 in
theorem law_c13 {p : Program} {l : Launch} {e : Env} {s : State} {m : MethodId} {below : List Frame} {meth : Method} {c : Code} {H : Heap} {locs : List Loc} {Q : State → Prop} {b L i : Nat} {xs : Nat → Int32} {D : va_G} {cI cZ : ClassId} {a k : Nat → Nat} {ls : Array Slot} {np nh nn nb ne : Nat} {td : Int32} {P G N B E : Nat → Nat → Int32} {mc : Nat → Int32} (X : LX p s m meth c b L xs D cI cZ a k ls i) (Y : LY s D cI cZ a k H locs np nh nn nb ne td P G N B E mc) (kk : LK p l e s m below meth c Q b D cI cZ a k ls) : W p l e room_1 s m #[Value.ref b] below meth c H locs 40 9000 Q (F0 m 675 ls []) := by
  obtain ⟨⟨hx, hb, hml, hown, hts, hX, hbl, hK, hL, hap, hr, hlocks⟩, hl, hi⟩ := id X
  obtain ⟨hv, hP, hM, hD, hE, hS⟩ := id Y
  obtain ⟨⟨hnp, hnh, hnn, hnb, hne⟩, ⟨hw, hs, hs0⟩, ⟨hg, hl0⟩, ⟨ho, hN0, hN1, hmc, hon⟩, htd⟩ := id hv
  refine lv_aload_n hx hb dL_law_675 rfl (lv_at hl 1 rfl) ?_
  refine ls_ld X hS 1 (by omega) (by decide) dL_law_676 dL_law_677 dL_law_678 dL_law_679 dL_law_680 ?_
  refine lcV (As := [.int (xs (i + 1))]) (rest := []) (ci := 4) ⟨hx, hb, hml, hown, hts⟩ (kX4_lose l D cI cZ (a 0) (a 1) (a 2) (a 3) (a 4) (a 5) (a 6) (a 7) (a 8) (a 9) (a 10) (a 11) (a 12) (a 13) np nh nn nb ne td P G N B E (xs (i + 1)) hnp hnh hnn hnb hne hw ho) (cwV 1 hts gL_law_X4_lose rfl rfl rfl (by decide +kernel) ⟨Nat.le_of_ble_eq_true rfl, Nat.le_of_ble_eq_true rfl⟩) hK hP hM hD hap hS rfl rfl rfl rfl rfl hl.1 rfl (Nat.le_of_ble_eq_true rfl) ⟨Nat.le_of_ble_eq_true rfl, Nat.le_of_ble_eq_true rfl⟩ dL_law_681 (fun H locs hP hM hD hS => ?_)
  refine lv_aload_n hx hb dL_law_684 rfl (lv_at hl 2 rfl) ?_
  refine ls_ld X hS 1 (by omega) (by decide) dL_law_685 dL_law_686 dL_law_687 dL_law_688 dL_law_689 ?_
  refine lcV (As := [.int (xs (i + 1))]) (rest := [.int _]) (ci := 5) ⟨hx, hb, hml, hown, hts⟩ (kX5_lose l D cI cZ (k 0) (k 1) (k 2) (k 3) (k 4) (k 5) (k 6) (k 7) (k 8) (k 9) (k 10) (k 11) (k 12) (k 13) (k 14) (k 15) (k 16) (k 17) (k 18) (k 19) (k 20) np nh nn nb ne td P G N B E mc (xs (i + 1)) hnh hg) (cwV 1 hts gL_law_X5_lose rfl rfl rfl (by decide +kernel) ⟨Nat.le_of_ble_eq_true rfl, Nat.le_of_ble_eq_true rfl⟩) hK hM hP hE (fun q h1 h2 => hap q h2 h1) hS rfl rfl rfl rfl rfl hl.1 rfl (Nat.le_of_ble_eq_true rfl) ⟨Nat.le_of_ble_eq_true rfl, Nat.le_of_ble_eq_true rfl⟩ dL_law_690 (fun H locs hM hP hE hS => ?_)
  refine lv_icmp_eq (tgt := 972) hx hb dL_law_693 (by decide) (fun _ => ?_) (fun q => absurd rfl q)
  exact kk _ _ _ _ _ _ _ _ _ _ _ _ _ _ ⟨Iv.lose hv (xs (i + 1)), hP, hM, hD, hE, hS⟩
set_option maxHeartbeats 4000000 in
set_option maxRecDepth 100000 in
theorem law_c14 {p : Program} {l : Launch} {e : Env} {s : State} {m : MethodId} {below : List Frame} {meth : Method} {c : Code} {H : Heap} {locs : List Loc} {Q : State → Prop} {b L i : Nat} {xs : Nat → Int32} {D : va_G} {cI cZ : ClassId} {a k : Nat → Nat} {ls : Array Slot} {np nh nn nb ne : Nat} {td : Int32} {P G N B E : Nat → Nat → Int32} {mc : Nat → Int32} (X : LX p s m meth c b L xs D cI cZ a k ls i) (Y : LY s D cI cZ a k H locs np nh nn nb ne td P G N B E mc) (kk : LK p l e s m below meth c Q b D cI cZ a k ls) : W p l e room_1 s m #[Value.ref b] below meth c H locs 40 9000 Q (F0 m 698 ls []) := by
  obtain ⟨⟨hx, hb, hml, hown, hts, hX, hbl, hK, hL, hap, hr, hlocks⟩, hl, hi⟩ := id X
  obtain ⟨hv, hP, hM, hD, hE, hS⟩ := id Y
  obtain ⟨⟨hnp, hnh, hnn, hnb, hne⟩, ⟨hw, hs, hs0⟩, ⟨hg, hl0⟩, ⟨ho, hN0, hN1, hmc, hon⟩, htd⟩ := id hv
  refine lv_aload_n hx hb dL_law_698 rfl (lv_at hl 1 rfl) ?_
  refine ls_ld X hS 1 (by omega) (by decide) dL_law_699 dL_law_700 dL_law_701 dL_law_702 dL_law_703 ?_
  refine ls_ld X hS 2 (by omega) (by decide) dL_law_704 dL_law_705 dL_law_706 dL_law_707 dL_law_708 ?_
  refine lcV (As := [.int (xs (i + 1)), .int (xs (i + 2))]) (rest := []) (ci := 4) ⟨hx, hb, hml, hown, hts⟩ (kX4_anew l D cI cZ (a 0) (a 1) (a 2) (a 3) (a 4) (a 5) (a 6) (a 7) (a 8) (a 9) (a 10) (a 11) (a 12) (a 13) np nh nn nb ne td P G N B E (xs (i + 1)) (xs (i + 2)) hnp hnh hnn hnb hne hw ho) (cwV 2 hts gL_law_X4_anew rfl rfl rfl (by decide +kernel) ⟨Nat.le_of_ble_eq_true rfl, Nat.le_of_ble_eq_true rfl⟩) hK hP hM hD hap hS rfl rfl rfl rfl rfl hl.1 rfl (Nat.le_of_ble_eq_true rfl) ⟨Nat.le_of_ble_eq_true rfl, Nat.le_of_ble_eq_true rfl⟩ dL_law_709 (fun H locs hP hM hD hS => ?_)
  refine lv_aload_n hx hb dL_law_712 rfl (lv_at hl 2 rfl) ?_
  refine ls_ld X hS 1 (by omega) (by decide) dL_law_713 dL_law_714 dL_law_715 dL_law_716 dL_law_717 ?_
  refine ls_ld X hS 2 (by omega) (by decide) dL_law_718 dL_law_719 dL_law_720 dL_law_721 dL_law_722 ?_
  refine lcV (As := [.int (xs (i + 1)), .int (xs (i + 2))]) (rest := [.int _]) (ci := 5) ⟨hx, hb, hml, hown, hts⟩ (kX5_anew l D cI cZ (k 0) (k 1) (k 2) (k 3) (k 4) (k 5) (k 6) (k 7) (k 8) (k 9) (k 10) (k 11) (k 12) (k 13) (k 14) (k 15) (k 16) (k 17) (k 18) (k 19) (k 20) np nh nn nb ne td P G N B E mc (xs (i + 1)) (xs (i + 2)) hnh hg) (cwV 2 hts gL_law_X5_anew rfl rfl rfl (by decide +kernel) ⟨Nat.le_of_ble_eq_true rfl, Nat.le_of_ble_eq_true rfl⟩) hK hM hP hE (fun q h1 h2 => hap q h2 h1) hS rfl rfl rfl rfl rfl hl.1 rfl (Nat.le_of_ble_eq_true rfl) ⟨Nat.le_of_ble_eq_true rfl, Nat.le_of_ble_eq_true rfl⟩ dL_law_723 (fun H locs hM hP hE hS => ?_)
  refine lv_icmp_eq (tgt := 972) hx hb dL_law_726 (by decide) (fun _ => ?_) (fun q => absurd rfl q)
  exact kk _ _ _ _ _ _ _ _ _ _ _ _ _ _ ⟨Iv.anew hv (xs (i + 1)) (xs (i + 2)), hP, hM, hD, hE, hS⟩
set_option maxHeartbeats 4000000 in
set_option maxRecDepth 100000 in
theorem law_c15 {p : Program} {l : Launch} {e : Env} {s : State} {m : MethodId} {below : List Frame} {meth : Method} {c : Code} {H : Heap} {locs : List Loc} {Q : State → Prop} {b L i : Nat} {xs : Nat → Int32} {D : va_G} {cI cZ : ClassId} {a k : Nat → Nat} {ls : Array Slot} {np nh nn nb ne : Nat} {td : Int32} {P G N B E : Nat → Nat → Int32} {mc : Nat → Int32} (X : LX p s m meth c b L xs D cI cZ a k ls i) (Y : LY s D cI cZ a k H locs np nh nn nb ne td P G N B E mc) (kk : LK p l e s m below meth c Q b D cI cZ a k ls) : W p l e room_1 s m #[Value.ref b] below meth c H locs 40 9000 Q (F0 m 731 ls []) := by
  obtain ⟨⟨hx, hb, hml, hown, hts, hX, hbl, hK, hL, hap, hr, hlocks⟩, hl, hi⟩ := id X
  obtain ⟨hv, hP, hM, hD, hE, hS⟩ := id Y
  obtain ⟨⟨hnp, hnh, hnn, hnb, hne⟩, ⟨hw, hs, hs0⟩, ⟨hg, hl0⟩, ⟨ho, hN0, hN1, hmc, hon⟩, htd⟩ := id hv
  refine lv_aload_n hx hb dL_law_731 rfl (lv_at hl 1 rfl) ?_
  refine ls_ld X hS 1 (by omega) (by decide) dL_law_732 dL_law_733 dL_law_734 dL_law_735 dL_law_736 ?_
  refine ls_ld X hS 2 (by omega) (by decide) dL_law_737 dL_law_738 dL_law_739 dL_law_740 dL_law_741 ?_
  refine ls_ld X hS 3 (by omega) (by decide) dL_law_742 dL_law_743 dL_law_744 dL_law_745 dL_law_746 ?_
  refine rcVw (As := [.int (xs (i + 1)), .int (xs (i + 2)), .int (xs (i + 3))]) (rest := []) (ci := 4) ⟨hx, hb, hml, hown, hts⟩ (kX4_joins l D cI cZ (a 0) (a 1) (a 2) (a 3) (a 4) (a 5) (a 6) (a 7) (a 8) (a 9) (a 10) (a 11) (a 12) (a 13) np nh nn nb ne td P G N B E (xs (i + 1)) (xs (i + 2)) (xs (i + 3)) hnp hnh hnn hnb hne hw ho) (cwV 3 hts gL_law_X4_joins rfl rfl rfl (by decide +kernel) ⟨Nat.le_of_ble_eq_true rfl, Nat.le_of_ble_eq_true rfl⟩) hK hP rfl rfl rfl rfl hl.1 rfl (Nat.le_of_ble_eq_true rfl) ⟨Nat.le_of_ble_eq_true rfl, Nat.le_of_ble_eq_true rfl⟩ dL_law_747 ?_
  refine lv_aload_n hx hb dL_law_750 rfl (lv_at hl 2 rfl) ?_
  refine ls_ld X hS 1 (by omega) (by decide) dL_law_751 dL_law_752 dL_law_753 dL_law_754 dL_law_755 ?_
  refine ls_ld X hS 2 (by omega) (by decide) dL_law_756 dL_law_757 dL_law_758 dL_law_759 dL_law_760 ?_
  refine ls_ld X hS 3 (by omega) (by decide) dL_law_761 dL_law_762 dL_law_763 dL_law_764 dL_law_765 ?_
  refine rcVw (As := [.int (xs (i + 1)), .int (xs (i + 2)), .int (xs (i + 3))]) (rest := [.int _]) (ci := 5) ⟨hx, hb, hml, hown, hts⟩ (kX5_joins l D cI cZ (k 0) (k 1) (k 2) (k 3) (k 4) (k 5) (k 6) (k 7) (k 8) (k 9) (k 10) (k 11) (k 12) (k 13) (k 14) (k 15) (k 16) (k 17) (k 18) (k 19) (k 20) np nh nn nb ne td P G N B E mc (xs (i + 1)) (xs (i + 2)) (xs (i + 3)) hnp hnh hnn hw ho hs) (cwV 3 hts gL_law_X5_joins rfl rfl rfl (by decide +kernel) ⟨Nat.le_of_ble_eq_true rfl, Nat.le_of_ble_eq_true rfl⟩) hK hM rfl rfl rfl rfl hl.1 rfl (Nat.le_of_ble_eq_true rfl) ⟨Nat.le_of_ble_eq_true rfl, Nat.le_of_ble_eq_true rfl⟩ dL_law_766 ?_
  refine lv_icmp_eq (tgt := 972) hx hb dL_law_769 (by decide) (fun _ => ?_) (fun q => absurd rfl q)
  exact kk _ _ _ _ _ _ _ _ _ _ _ _ _ _ Y
set_option maxHeartbeats 4000000 in
set_option maxRecDepth 100000 in
theorem law_c16 {p : Program} {l : Launch} {e : Env} {s : State} {m : MethodId} {below : List Frame} {meth : Method} {c : Code} {H : Heap} {locs : List Loc} {Q : State → Prop} {b L i : Nat} {xs : Nat → Int32} {D : va_G} {cI cZ : ClassId} {a k : Nat → Nat} {ls : Array Slot} {np nh nn nb ne : Nat} {td : Int32} {P G N B E : Nat → Nat → Int32} {mc : Nat → Int32} (X : LX p s m meth c b L xs D cI cZ a k ls i) (Y : LY s D cI cZ a k H locs np nh nn nb ne td P G N B E mc) (kk : LK p l e s m below meth c Q b D cI cZ a k ls) : W p l e room_1 s m #[Value.ref b] below meth c H locs 40 9000 Q (F0 m 774 ls []) := by
  obtain ⟨⟨hx, hb, hml, hown, hts, hX, hbl, hK, hL, hap, hr, hlocks⟩, hl, hi⟩ := id X
  obtain ⟨hv, hP, hM, hD, hE, hS⟩ := id Y
  obtain ⟨⟨hnp, hnh, hnn, hnb, hne⟩, ⟨hw, hs, hs0⟩, ⟨hg, hl0⟩, ⟨ho, hN0, hN1, hmc, hon⟩, htd⟩ := id hv
  refine lv_aload_n hx hb dL_law_774 rfl (lv_at hl 1 rfl) ?_
  refine ls_ld X hS 1 (by omega) (by decide) dL_law_775 dL_law_776 dL_law_777 dL_law_778 dL_law_779 ?_
  refine ls_ld X hS 2 (by omega) (by decide) dL_law_780 dL_law_781 dL_law_782 dL_law_783 dL_law_784 ?_
  refine rcVw (As := [.int (xs (i + 1)), .int (xs (i + 2))]) (rest := []) (ci := 4) ⟨hx, hb, hml, hown, hts⟩ (kX4_least l D cI cZ (a 0) (a 1) (a 2) (a 3) (a 4) (a 5) (a 6) (a 7) (a 8) (a 9) (a 10) (a 11) (a 12) (a 13) np nh nn nb ne td P G N B E (xs (i + 1)) (xs (i + 2)) hnp hnh hnn hnb hne hw ho) (cwV 2 hts gL_law_X4_least rfl rfl rfl (by decide +kernel) ⟨Nat.le_of_ble_eq_true rfl, Nat.le_of_ble_eq_true rfl⟩) hK hP rfl rfl rfl rfl hl.1 rfl (Nat.le_of_ble_eq_true rfl) ⟨Nat.le_of_ble_eq_true rfl, Nat.le_of_ble_eq_true rfl⟩ dL_law_785 ?_
  refine lv_aload_n hx hb dL_law_788 rfl (lv_at hl 2 rfl) ?_
  refine ls_ld X hS 1 (by omega) (by decide) dL_law_789 dL_law_790 dL_law_791 dL_law_792 dL_law_793 ?_
  refine ls_ld X hS 2 (by omega) (by decide) dL_law_794 dL_law_795 dL_law_796 dL_law_797 dL_law_798 ?_
  refine rcVw (As := [.int (xs (i + 1)), .int (xs (i + 2))]) (rest := [.int _]) (ci := 5) ⟨hx, hb, hml, hown, hts⟩ (kX5_least l D cI cZ (k 0) (k 1) (k 2) (k 3) (k 4) (k 5) (k 6) (k 7) (k 8) (k 9) (k 10) (k 11) (k 12) (k 13) (k 14) (k 15) (k 16) (k 17) (k 18) (k 19) (k 20) np nh nn nb ne td P G N B E mc (xs (i + 1)) (xs (i + 2)) hnp hnh hnn hw ho hs) (cwV 2 hts gL_law_X5_least rfl rfl rfl (by decide +kernel) ⟨Nat.le_of_ble_eq_true rfl, Nat.le_of_ble_eq_true rfl⟩) hK hM rfl rfl rfl rfl hl.1 rfl (Nat.le_of_ble_eq_true rfl) ⟨Nat.le_of_ble_eq_true rfl, Nat.le_of_ble_eq_true rfl⟩ dL_law_799 ?_
  refine lv_icmp_eq (tgt := 972) hx hb dL_law_802 (by decide) (fun _ => ?_) (fun q => absurd rfl q)
  exact kk _ _ _ _ _ _ _ _ _ _ _ _ _ _ Y
set_option maxHeartbeats 4000000 in
set_option maxRecDepth 100000 in
theorem law_c17 {p : Program} {l : Launch} {e : Env} {s : State} {m : MethodId} {below : List Frame} {meth : Method} {c : Code} {H : Heap} {locs : List Loc} {Q : State → Prop} {b L i : Nat} {xs : Nat → Int32} {D : va_G} {cI cZ : ClassId} {a k : Nat → Nat} {ls : Array Slot} {np nh nn nb ne : Nat} {td : Int32} {P G N B E : Nat → Nat → Int32} {mc : Nat → Int32} (X : LX p s m meth c b L xs D cI cZ a k ls i) (Y : LY s D cI cZ a k H locs np nh nn nb ne td P G N B E mc) (kk : LK p l e s m below meth c Q b D cI cZ a k ls) : W p l e room_1 s m #[Value.ref b] below meth c H locs 40 9000 Q (F0 m 807 ls []) := by
  obtain ⟨⟨hx, hb, hml, hown, hts, hX, hbl, hK, hL, hap, hr, hlocks⟩, hl, hi⟩ := id X
  obtain ⟨hv, hP, hM, hD, hE, hS⟩ := id Y
  obtain ⟨⟨hnp, hnh, hnn, hnb, hne⟩, ⟨hw, hs, hs0⟩, ⟨hg, hl0⟩, ⟨ho, hN0, hN1, hmc, hon⟩, htd⟩ := id hv
  refine lv_aload_n hx hb dL_law_807 rfl (lv_at hl 1 rfl) ?_
  refine ls_ld X hS 1 (by omega) (by decide) dL_law_808 dL_law_809 dL_law_810 dL_law_811 dL_law_812 ?_
  refine ls_ld X hS 2 (by omega) (by decide) dL_law_813 dL_law_814 dL_law_815 dL_law_816 dL_law_817 ?_
  refine ls_ld X hS 3 (by omega) (by decide) dL_law_818 dL_law_819 dL_law_820 dL_law_821 dL_law_822 ?_
  refine rcVw (As := [.int (xs (i + 1)), .int (xs (i + 2)), .int (xs (i + 3))]) (rest := []) (ci := 4) ⟨hx, hb, hml, hown, hts⟩ (kX4_count l D cI cZ (a 0) (a 1) (a 2) (a 3) (a 4) (a 5) (a 6) (a 7) (a 8) (a 9) (a 10) (a 11) (a 12) (a 13) np nh nn nb ne td P G N B E (xs (i + 1)) (xs (i + 2)) (xs (i + 3)) hnp hnh hnn hnb hne hw ho) (cwV 3 hts gL_law_X4_count rfl rfl rfl (by decide +kernel) ⟨Nat.le_of_ble_eq_true rfl, Nat.le_of_ble_eq_true rfl⟩) hK hP rfl rfl rfl rfl hl.1 rfl (Nat.le_of_ble_eq_true rfl) ⟨Nat.le_of_ble_eq_true rfl, Nat.le_of_ble_eq_true rfl⟩ dL_law_823 ?_
  refine lv_aload_n hx hb dL_law_826 rfl (lv_at hl 2 rfl) ?_
  refine ls_ld X hS 1 (by omega) (by decide) dL_law_827 dL_law_828 dL_law_829 dL_law_830 dL_law_831 ?_
  refine ls_ld X hS 2 (by omega) (by decide) dL_law_832 dL_law_833 dL_law_834 dL_law_835 dL_law_836 ?_
  refine ls_ld X hS 3 (by omega) (by decide) dL_law_837 dL_law_838 dL_law_839 dL_law_840 dL_law_841 ?_
  refine rcVw (As := [.int (xs (i + 1)), .int (xs (i + 2)), .int (xs (i + 3))]) (rest := [.int _]) (ci := 5) ⟨hx, hb, hml, hown, hts⟩ (kX5_count l D cI cZ (k 0) (k 1) (k 2) (k 3) (k 4) (k 5) (k 6) (k 7) (k 8) (k 9) (k 10) (k 11) (k 12) (k 13) (k 14) (k 15) (k 16) (k 17) (k 18) (k 19) (k 20) np nh nn nb ne td P G N B E mc (xs (i + 1)) (xs (i + 2)) (xs (i + 3)) hnp hnh hnn hw ho hs) (cwV 3 hts gL_law_X5_count rfl rfl rfl (by decide +kernel) ⟨Nat.le_of_ble_eq_true rfl, Nat.le_of_ble_eq_true rfl⟩) hK hM rfl rfl rfl rfl hl.1 rfl (Nat.le_of_ble_eq_true rfl) ⟨Nat.le_of_ble_eq_true rfl, Nat.le_of_ble_eq_true rfl⟩ dL_law_842 ?_
  refine lv_icmp_eq (tgt := 972) hx hb dL_law_845 (by decide) (fun _ => ?_) (fun q => absurd rfl q)
  exact kk _ _ _ _ _ _ _ _ _ _ _ _ _ _ Y
