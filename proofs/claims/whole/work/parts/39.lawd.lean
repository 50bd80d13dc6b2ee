set_option maxHeartbeats 4000000 in
set_option maxRecDepth 100000 in
theorem law_c18 {p : Program} {l : Launch} {e : Env} {s : State} {m : MethodId} {below : List Frame} {meth : Method} {c : Code} {H : Heap} {locs : List Loc} {Q : State → Prop} {b L i : Nat} {xs : Nat → Int32} {D : va_G} {cI cZ : ClassId} {a k : Nat → Nat} {ls : Array Slot} {np nh nn nb ne : Nat} {td : Int32} {P G N B E : Nat → Nat → Int32} {mc : Nat → Int32} (X : LX p s m meth c b L xs D cI cZ a k ls i) (Y : LY s D cI cZ a k H locs np nh nn nb ne td P G N B E mc) (kk : LK p l e s m below meth c Q b D cI cZ a k ls) : W p l e room_1 s m #[Value.ref b] below meth c H locs 40 9000 Q (F0 m 850 ls []) := by
  obtain ⟨⟨hx, hb, hml, hown, hts, hX, hbl, hK, hL, hap, hr, hlocks⟩, hl, hi⟩ := id X
  obtain ⟨hv, hP, hM, hD, hE, hS⟩ := id Y
  obtain ⟨⟨hnp, hnh, hnn, hnb, hne⟩, ⟨hw, hs, hs0⟩, ⟨hg, hl0⟩, ⟨ho, hN0, hN1, hmc, hon⟩, htd⟩ := id hv
  refine lv_aload_n hx hb dL_law_850 rfl (lv_at hl 1 rfl) ?_
  refine ls_ld X hS 1 (by omega) (by decide) dL_law_851 dL_law_852 dL_law_853 dL_law_854 dL_law_855 ?_
  refine ls_ld X hS 2 (by omega) (by decide) dL_law_856 dL_law_857 dL_law_858 dL_law_859 dL_law_860 ?_
  refine rcVw (As := [.int (xs (i + 1)), .int (xs (i + 2))]) (rest := []) (ci := 4) ⟨hx, hb, hml, hown, hts⟩ (kX4_record l D cI cZ (a 0) (a 1) (a 2) (a 3) (a 4) (a 5) (a 6) (a 7) (a 8) (a 9) (a 10) (a 11) (a 12) (a 13) np nh nn nb ne td P G N B E (xs (i + 1)) (xs (i + 2)) hnp hnh hnn hnb hne hw ho) (cwV 2 hts gL_law_X4_record rfl rfl rfl (by decide +kernel) ⟨Nat.le_of_ble_eq_true rfl, Nat.le_of_ble_eq_true rfl⟩) hK hP rfl rfl rfl rfl hl.1 rfl (Nat.le_of_ble_eq_true rfl) ⟨Nat.le_of_ble_eq_true rfl, Nat.le_of_ble_eq_true rfl⟩ dL_law_861 ?_
  refine lv_aload_n hx hb dL_law_864 rfl (lv_at hl 2 rfl) ?_
  refine ls_ld X hS 1 (by omega) (by decide) dL_law_865 dL_law_866 dL_law_867 dL_law_868 dL_law_869 ?_
  refine ls_ld X hS 2 (by omega) (by decide) dL_law_870 dL_law_871 dL_law_872 dL_law_873 dL_law_874 ?_
  refine rcVw (As := [.int (xs (i + 1)), .int (xs (i + 2))]) (rest := [.int _]) (ci := 5) ⟨hx, hb, hml, hown, hts⟩ (kX5_record l D cI cZ (k 0) (k 1) (k 2) (k 3) (k 4) (k 5) (k 6) (k 7) (k 8) (k 9) (k 10) (k 11) (k 12) (k 13) (k 14) (k 15) (k 16) (k 17) (k 18) (k 19) (k 20) np nh nn nb ne td P G N B E mc (xs (i + 1)) (xs (i + 2)) hne) (cwV 2 hts gL_law_X5_record rfl rfl rfl (by decide +kernel) ⟨Nat.le_of_ble_eq_true rfl, Nat.le_of_ble_eq_true rfl⟩) hK hM rfl rfl rfl rfl hl.1 rfl (Nat.le_of_ble_eq_true rfl) ⟨Nat.le_of_ble_eq_true rfl, Nat.le_of_ble_eq_true rfl⟩ dL_law_875 ?_
  refine lv_icmp_eq (tgt := 972) hx hb dL_law_878 (by decide) (fun _ => ?_) (fun q => absurd rfl q)
  exact kk _ _ _ _ _ _ _ _ _ _ _ _ _ _ Y
set_option maxHeartbeats 4000000 in
set_option maxRecDepth 100000 in
theorem law_c19 {p : Program} {l : Launch} {e : Env} {s : State} {m : MethodId} {below : List Frame} {meth : Method} {c : Code} {H : Heap} {locs : List Loc} {Q : State → Prop} {b L i : Nat} {xs : Nat → Int32} {D : va_G} {cI cZ : ClassId} {a k : Nat → Nat} {ls : Array Slot} {np nh nn nb ne : Nat} {td : Int32} {P G N B E : Nat → Nat → Int32} {mc : Nat → Int32} (X : LX p s m meth c b L xs D cI cZ a k ls i) (Y : LY s D cI cZ a k H locs np nh nn nb ne td P G N B E mc) (kk : LK p l e s m below meth c Q b D cI cZ a k ls) : W p l e room_1 s m #[Value.ref b] below meth c H locs 40 9000 Q (F0 m 883 ls []) := by
  obtain ⟨⟨hx, hb, hml, hown, hts, hX, hbl, hK, hL, hap, hr, hlocks⟩, hl, hi⟩ := id X
  obtain ⟨hv, hP, hM, hD, hE, hS⟩ := id Y
  obtain ⟨⟨hnp, hnh, hnn, hnb, hne⟩, ⟨hw, hs, hs0⟩, ⟨hg, hl0⟩, ⟨ho, hN0, hN1, hmc, hon⟩, htd⟩ := id hv
  refine lv_aload_n hx hb dL_law_883 rfl (lv_at hl 1 rfl) ?_
  refine ls_ld X hS 1 (by omega) (by decide) dL_law_884 dL_law_885 dL_law_886 dL_law_887 dL_law_888 ?_
  refine ls_ld X hS 2 (by omega) (by decide) dL_law_889 dL_law_890 dL_law_891 dL_law_892 dL_law_893 ?_
  refine rcVw (As := [.int (xs (i + 1)), .int (xs (i + 2))]) (rest := []) (ci := 4) ⟨hx, hb, hml, hown, hts⟩ (kX4_given l D cI cZ (a 0) (a 1) (a 2) (a 3) (a 4) (a 5) (a 6) (a 7) (a 8) (a 9) (a 10) (a 11) (a 12) (a 13) np nh nn nb ne td P G N B E (xs (i + 1)) (xs (i + 2)) hnp hnh hnn hnb hne hw ho) (cwV 2 hts gL_law_X4_given rfl rfl rfl (by decide +kernel) ⟨Nat.le_of_ble_eq_true rfl, Nat.le_of_ble_eq_true rfl⟩) hK hP rfl rfl rfl rfl hl.1 rfl (Nat.le_of_ble_eq_true rfl) ⟨Nat.le_of_ble_eq_true rfl, Nat.le_of_ble_eq_true rfl⟩ dL_law_894 ?_
  refine lv_aload_n hx hb dL_law_897 rfl (lv_at hl 2 rfl) ?_
  refine ls_ld X hS 1 (by omega) (by decide) dL_law_898 dL_law_899 dL_law_900 dL_law_901 dL_law_902 ?_
  refine ls_ld X hS 2 (by omega) (by decide) dL_law_903 dL_law_904 dL_law_905 dL_law_906 dL_law_907 ?_
  refine rcVw (As := [.int (xs (i + 1)), .int (xs (i + 2))]) (rest := [.int _]) (ci := 5) ⟨hx, hb, hml, hown, hts⟩ (kX5_given l D cI cZ (k 0) (k 1) (k 2) (k 3) (k 4) (k 5) (k 6) (k 7) (k 8) (k 9) (k 10) (k 11) (k 12) (k 13) (k 14) (k 15) (k 16) (k 17) (k 18) (k 19) (k 20) np nh nn nb ne td P G N B E mc (xs (i + 1)) (xs (i + 2)) hnn) (cwV 2 hts gL_law_X5_given rfl rfl rfl (by decide +kernel) ⟨Nat.le_of_ble_eq_true rfl, Nat.le_of_ble_eq_true rfl⟩) hK hM rfl rfl rfl rfl hl.1 rfl (Nat.le_of_ble_eq_true rfl) ⟨Nat.le_of_ble_eq_true rfl, Nat.le_of_ble_eq_true rfl⟩ dL_law_908 ?_
  refine lv_icmp_eq (tgt := 972) hx hb dL_law_911 (by decide) (fun _ => ?_) (fun q => absurd rfl q)
  exact kk _ _ _ _ _ _ _ _ _ _ _ _ _ _ Y
set_option maxHeartbeats 4000000 in
set_option maxRecDepth 100000 in
theorem law_c20 {p : Program} {l : Launch} {e : Env} {s : State} {m : MethodId} {below : List Frame} {meth : Method} {c : Code} {H : Heap} {locs : List Loc} {Q : State → Prop} {b L i : Nat} {xs : Nat → Int32} {D : va_G} {cI cZ : ClassId} {a k : Nat → Nat} {ls : Array Slot} {np nh nn nb ne : Nat} {td : Int32} {P G N B E : Nat → Nat → Int32} {mc : Nat → Int32} (X : LX p s m meth c b L xs D cI cZ a k ls i) (Y : LY s D cI cZ a k H locs np nh nn nb ne td P G N B E mc) (kk : LK p l e s m below meth c Q b D cI cZ a k ls) : W p l e room_1 s m #[Value.ref b] below meth c H locs 40 9000 Q (F0 m 916 ls []) := by
  obtain ⟨⟨hx, hb, hml, hown, hts, hX, hbl, hK, hL, hap, hr, hlocks⟩, hl, hi⟩ := id X
  obtain ⟨hv, hP, hM, hD, hE, hS⟩ := id Y
  obtain ⟨⟨hnp, hnh, hnn, hnb, hne⟩, ⟨hw, hs, hs0⟩, ⟨hg, hl0⟩, ⟨ho, hN0, hN1, hmc, hon⟩, htd⟩ := id hv
  refine lv_aload_n hx hb dL_law_916 rfl (lv_at hl 1 rfl) ?_
  refine ls_ld X hS 1 (by omega) (by decide) dL_law_917 dL_law_918 dL_law_919 dL_law_920 dL_law_921 ?_
  refine ls_ld X hS 2 (by omega) (by decide) dL_law_922 dL_law_923 dL_law_924 dL_law_925 dL_law_926 ?_
  refine rcVw (As := [.int (xs (i + 1)), .int (xs (i + 2))]) (rest := []) (ci := 4) ⟨hx, hb, hml, hown, hts⟩ (kX4_look l D cI cZ (a 0) (a 1) (a 2) (a 3) (a 4) (a 5) (a 6) (a 7) (a 8) (a 9) (a 10) (a 11) (a 12) (a 13) np nh nn nb ne td P G N B E (xs (i + 1)) (xs (i + 2)) hnp hnh hnn hnb hne hw ho) (cwV 2 hts gL_law_X4_look rfl rfl rfl (by decide +kernel) ⟨Nat.le_of_ble_eq_true rfl, Nat.le_of_ble_eq_true rfl⟩) hK hP rfl rfl rfl rfl hl.1 rfl (Nat.le_of_ble_eq_true rfl) ⟨Nat.le_of_ble_eq_true rfl, Nat.le_of_ble_eq_true rfl⟩ dL_law_927 ?_
  refine lv_aload_n hx hb dL_law_930 rfl (lv_at hl 2 rfl) ?_
  refine ls_ld X hS 1 (by omega) (by decide) dL_law_931 dL_law_932 dL_law_933 dL_law_934 dL_law_935 ?_
  refine ls_ld X hS 2 (by omega) (by decide) dL_law_936 dL_law_937 dL_law_938 dL_law_939 dL_law_940 ?_
  refine rcVw (As := [.int (xs (i + 1)), .int (xs (i + 2))]) (rest := [.int _]) (ci := 5) ⟨hx, hb, hml, hown, hts⟩ (kX5_look l D cI cZ (k 0) (k 1) (k 2) (k 3) (k 4) (k 5) (k 6) (k 7) (k 8) (k 9) (k 10) (k 11) (k 12) (k 13) (k 14) (k 15) (k 16) (k 17) (k 18) (k 19) (k 20) np nh nn nb ne td P G N B E mc (xs (i + 1)) (xs (i + 2)) hnp hnn hw hs) (cwV 2 hts gL_law_X5_look rfl rfl rfl (by decide +kernel) ⟨Nat.le_of_ble_eq_true rfl, Nat.le_of_ble_eq_true rfl⟩) hK hM rfl rfl rfl rfl hl.1 rfl (Nat.le_of_ble_eq_true rfl) ⟨Nat.le_of_ble_eq_true rfl, Nat.le_of_ble_eq_true rfl⟩ dL_law_941 ?_
  refine lv_icmp_eq (tgt := 972) hx hb dL_law_944 (by decide) (fun _ => ?_) (fun q => absurd rfl q)
  exact kk _ _ _ _ _ _ _ _ _ _ _ _ _ _ Y
set_option maxHeartbeats 4000000 in
set_option maxRecDepth 100000 in
theorem law_c21 {p : Program} {l : Launch} {e : Env} {s : State} {m : MethodId} {below : List Frame} {meth : Method} {c : Code} {H : Heap} {locs : List Loc} {Q : State → Prop} {b L i : Nat} {xs : Nat → Int32} {D : va_G} {cI cZ : ClassId} {a k : Nat → Nat} {ls : Array Slot} {np nh nn nb ne : Nat} {td : Int32} {P G N B E : Nat → Nat → Int32} {mc : Nat → Int32} (X : LX p s m meth c b L xs D cI cZ a k ls i) (Y : LY s D cI cZ a k H locs np nh nn nb ne td P G N B E mc) (kk : LK p l e s m below meth c Q b D cI cZ a k ls) : W p l e room_1 s m #[Value.ref b] below meth c H locs 40 9000 Q (F0 m 949 ls []) := by
  obtain ⟨⟨hx, hb, hml, hown, hts, hX, hbl, hK, hL, hap, hr, hlocks⟩, hl, hi⟩ := id X
  obtain ⟨hv, hP, hM, hD, hE, hS⟩ := id Y
  obtain ⟨⟨hnp, hnh, hnn, hnb, hne⟩, ⟨hw, hs, hs0⟩, ⟨hg, hl0⟩, ⟨ho, hN0, hN1, hmc, hon⟩, htd⟩ := id hv
  refine lv_aload_n hx hb dL_law_949 rfl (lv_at hl 1 rfl) ?_
  refine ls_ld X hS 1 (by omega) (by decide) dL_law_950 dL_law_951 dL_law_952 dL_law_953 dL_law_954 ?_
  refine rcVw (As := [.int (xs (i + 1))]) (rest := []) (ci := 4) ⟨hx, hb, hml, hown, hts⟩ (kX4_tell l D cI cZ (a 0) (a 1) (a 2) (a 3) (a 4) (a 5) (a 6) (a 7) (a 8) (a 9) (a 10) (a 11) (a 12) (a 13) np nh nn nb ne td P G N B E (xs (i + 1)) hnp hnh hnn hnb hne hw ho) (cwV 1 hts gL_law_X4_tell rfl rfl rfl (by decide +kernel) ⟨Nat.le_of_ble_eq_true rfl, Nat.le_of_ble_eq_true rfl⟩) hK hP rfl rfl rfl rfl hl.1 rfl (Nat.le_of_ble_eq_true rfl) ⟨Nat.le_of_ble_eq_true rfl, Nat.le_of_ble_eq_true rfl⟩ dL_law_955 ?_
  refine lv_aload_n hx hb dL_law_958 rfl (lv_at hl 2 rfl) ?_
  refine ls_ld X hS 1 (by omega) (by decide) dL_law_959 dL_law_960 dL_law_961 dL_law_962 dL_law_963 ?_
  refine rcVw (As := [.int (xs (i + 1))]) (rest := [.int _]) (ci := 5) ⟨hx, hb, hml, hown, hts⟩ (kX5_tell l D cI cZ (k 0) (k 1) (k 2) (k 3) (k 4) (k 5) (k 6) (k 7) (k 8) (k 9) (k 10) (k 11) (k 12) (k 13) (k 14) (k 15) (k 16) (k 17) (k 18) (k 19) (k 20) np nh nn nb ne td P G N B E mc (xs (i + 1)) hnp hnh hnn hw ho hs hg hmc) (cwV 1 hts gL_law_X5_tell rfl rfl rfl (by decide +kernel) ⟨Nat.le_of_ble_eq_true rfl, Nat.le_of_ble_eq_true rfl⟩) hK hM rfl rfl rfl rfl hl.1 rfl (Nat.le_of_ble_eq_true rfl) ⟨Nat.le_of_ble_eq_true rfl, Nat.le_of_ble_eq_true rfl⟩ dL_law_964 ?_
  refine lv_icmp_eq (tgt := 972) hx hb dL_law_967 (by decide) (fun _ => ?_) (fun q => absurd rfl q)
  exact kk _ _ _ _ _ _ _ _ _ _ _ _ _ _ Y
