set_option maxHeartbeats 8000000 in
set_option maxRecDepth 100000 in
theorem law_disp {p : Program} {e9 : Env} {s : State} {m : MethodId} {below : List Frame} {meth : Method} {c : Code} {l : Launch} {b : Nat} {xs : Nat → Int32} (hst : l.stackTraces = false) (C0 : lw_At p s m meth c b 4 xs) {D : va_G} {h l1 l2 l3 l4 l5 l6 l7 l8 l9 ch co mh m1 m2 m3 m4 m5 m6 m7 m8 fr o od e : Nat} {cI cJ cO cD : ClassId} {H : Heap} {locs : List Loc} {ls : Array Slot} (hE : ev e (fun q : Nat => s.heap.size ≤ q) s s.heap) (hK : va_K D vwCl [(cI, .int), (cJ, .int), (cO, .long), (cD, .double)] s) (hP : va_P D vwCl [(h, .inr (16, [.ref l1, .ref l2, .ref l3, .ref l4, .ref l5, .ref l6, .ref l7, .ref l8, .ref l9, .ref ch, .ref co, .int 0, .int 4, .int (-40), .int 20, .int 0, .int 0, .int 100, .int 60, .int 14])), (l1, .inr (5, [.int 0, .ref e, .int 0])), (l2, .inr (5, [.int 0, .ref e, .int 0])), (l3, .inr (5, [.int 0, .ref e, .int 0])), (l4, .inr (5, [.int 0, .ref e, .int 0])), (l5, .inr (5, [.int 0, .ref e, .int 0])), (l6, .inr (5, [.int 0, .ref e, .int 0])), (l7, .inr (5, [.int 0, .ref e, .int 0])), (l8, .inr (5, [.int 0, .ref e, .int 0])), (l9, .inr (5, [.int 0, .ref e, .int 0])), (ch, .inl (cI, 4, .inl (fun _ => 0))), (co, .inr (8, [.int 0, .int 0])), (mh, .inr (20, [.int 0, .ref m1, .int 0, .int 0, .ref m2, .ref m3, .int 0, .int 4, .int (-40), .ref m4, .int 0, .int 20, .int 0, .ref m5, .ref fr, .int 100, .int 60, .int 14, .ref m6, .ref m7, .ref m8])), (m1, .inr (5, [.int 0, .ref e, .int 0])), (m2, .inr (5, [.int 0, .ref e, .int 0])), (m3, .inr (5, [.int 0, .ref e, .int 0])), (m4, .inr (5, [.int 0, .ref e, .int 0])), (m5, .inr (5, [.int 0, .ref e, .int 0])), (m6, .inr (5, [.int 0, .ref e, .int 0])), (m7, .inr (5, [.int 0, .ref e, .int 0])), (m8, .inr (5, [.int 0, .ref e, .int 0])), (fr, .inl (cJ, 4, .inl (fun _ => 0))), (o, .inl (cO, 1, .inr (.inl (fun _ => 0)))), (od, .inl (cD, 1, .inr (.inr (.inr (.inl (fun _ => 0))))))] H) (hD : va_D (fun q : Nat => s.heap.size ≤ q) [(h, .inr (16, [.ref l1, .ref l2, .ref l3, .ref l4, .ref l5, .ref l6, .ref l7, .ref l8, .ref l9, .ref ch, .ref co, .int 0, .int 4, .int (-40), .int 20, .int 0, .int 0, .int 100, .int 60, .int 14])), (l1, .inr (5, [.int 0, .ref e, .int 0])), (l2, .inr (5, [.int 0, .ref e, .int 0])), (l3, .inr (5, [.int 0, .ref e, .int 0])), (l4, .inr (5, [.int 0, .ref e, .int 0])), (l5, .inr (5, [.int 0, .ref e, .int 0])), (l6, .inr (5, [.int 0, .ref e, .int 0])), (l7, .inr (5, [.int 0, .ref e, .int 0])), (l8, .inr (5, [.int 0, .ref e, .int 0])), (l9, .inr (5, [.int 0, .ref e, .int 0])), (ch, .inl (cI, 4, .inl (fun _ => 0))), (co, .inr (8, [.int 0, .int 0])), (mh, .inr (20, [.int 0, .ref m1, .int 0, .int 0, .ref m2, .ref m3, .int 0, .int 4, .int (-40), .ref m4, .int 0, .int 20, .int 0, .ref m5, .ref fr, .int 100, .int 60, .int 14, .ref m6, .ref m7, .ref m8])), (m1, .inr (5, [.int 0, .ref e, .int 0])), (m2, .inr (5, [.int 0, .ref e, .int 0])), (m3, .inr (5, [.int 0, .ref e, .int 0])), (m4, .inr (5, [.int 0, .ref e, .int 0])), (m5, .inr (5, [.int 0, .ref e, .int 0])), (m6, .inr (5, [.int 0, .ref e, .int 0])), (m7, .inr (5, [.int 0, .ref e, .int 0])), (m8, .inr (5, [.int 0, .ref e, .int 0])), (fr, .inl (cJ, 4, .inl (fun _ => 0))), (o, .inl (cO, 1, .inr (.inl (fun _ => 0)))), (od, .inl (cD, 1, .inr (.inr (.inr (.inl (fun _ => 0))))))]) (hS : va_S (fun q : Nat => s.heap.size ≤ q) s.heap H locs) (hl : lv_has ls 9 [(5, .int 0), (4, .ref od), (3, .ref o), (2, .ref mh), (1, .ref h), (0, .ref b)]) : W p l e9 room_1 s m #[Value.ref b] below meth c H locs 24 104 (lw_Z below #[Value.ref b] s) (F0 m 37 ls []) := by
  obtain ⟨hx, hb, hr, hml, hown, hts0, hX, hbl, hlocks, hgv⟩ := id C0
  have hbA : ¬ (fun q : Nat => s.heap.size ≤ q) b := Nat.not_le.mpr hbl
  refine lv_aload_n hx hb dL_law_37 rfl (lv_at hl 5 rfl) ?_
  refine lv_iload hx hb dL_law_38 (lv_at hl 0 rfl) ?_
  refine va_sld hx hb hX hbl hbA hS (i := 0) (show ¬ ((0 : Int32) < 0 ∨ 4 ≤ (0 : Int32).toNatClampNeg) from by decide +kernel) dL_law_40 ?_
  refine lv_bipush (v := 63) hx hb dL_law_41 (by decide) ?_
  refine lv_iand hx hb dL_law_43 ?_
  obtain ⟨j, hj, hj2⟩ := pk_andE (xs (0 : Int32).toNatClampNeg) (m := 63) 6 (by decide +kernel)
  rw [hj2]
  by_cases h0 : j = 0
  · subst h0
    refine lv_tableIn (off := 232) (tgt := 276) hx hb dL_law_44 (by decide +kernel) (by decide +kernel) (by decide +kernel) (by decide) ?_
    exact case_0 hst C0 hE hK hP hD hS hl
  by_cases h1 : j = 1
  · subst h1
    refine lv_tableIn (off := 314) (tgt := 358) hx hb dL_law_44 (by decide +kernel) (by decide +kernel) (by decide +kernel) (by decide) ?_
    exact case_1 hst C0 hE hK hP hD hS hl
  by_cases h2 : j = 2
  · subst h2
    refine lv_tableIn (off := 370) (tgt := 414) hx hb dL_law_44 (by decide +kernel) (by decide +kernel) (by decide +kernel) (by decide) ?_
    exact case_2 hst C0 hE hK hP hD hS hl
  by_cases h3 : j = 3
  · subst h3
    refine lv_tableIn (off := 426) (tgt := 470) hx hb dL_law_44 (by decide +kernel) (by decide +kernel) (by decide +kernel) (by decide) ?_
    exact case_3 hst C0 hE hK hP hD hS hl
  by_cases h4 : j = 4
  · subst h4
    refine lv_tableIn (off := 439) (tgt := 483) hx hb dL_law_44 (by decide +kernel) (by decide +kernel) (by decide +kernel) (by decide) ?_
    exact case_4 hst C0 hE hK hP hD hS hl
  by_cases h5 : j = 5
  · subst h5
    refine lv_tableIn (off := 519) (tgt := 563) hx hb dL_law_44 (by decide +kernel) (by decide +kernel) (by decide +kernel) (by decide) ?_
    exact case_5 hst C0 hE hK hP hD hS hl
  by_cases h6 : j = 6
  · subst h6
    refine lv_tableIn (off := 587) (tgt := 631) hx hb dL_law_44 (by decide +kernel) (by decide +kernel) (by decide +kernel) (by decide) ?_
    exact case_6 hst C0 hE hK hP hD hS hl
  by_cases h7 : j = 7
  · subst h7
    refine lv_tableIn (off := 669) (tgt := 713) hx hb dL_law_44 (by decide +kernel) (by decide +kernel) (by decide +kernel) (by decide) ?_
    exact case_7 hst C0 hE hK hP hD hS hl
  by_cases h8 : j = 8
  · subst h8
    refine lv_tableIn (off := 737) (tgt := 781) hx hb dL_law_44 (by decide +kernel) (by decide +kernel) (by decide +kernel) (by decide) ?_
    exact case_8 hst C0 hE hK hP hD hS hl
  by_cases h9 : j = 9
  · subst h9
    refine lv_tableIn (off := 805) (tgt := 849) hx hb dL_law_44 (by decide +kernel) (by decide +kernel) (by decide +kernel) (by decide) ?_
    exact case_9 hst C0 hE hK hP hD hS hl
  by_cases h10 : j = 10
  · subst h10
    refine lv_tableIn (off := 873) (tgt := 917) hx hb dL_law_44 (by decide +kernel) (by decide +kernel) (by decide +kernel) (by decide) ?_
    exact case_10 hst C0 hE hK hP hD hS hl
  by_cases h11 : j = 11
  · subst h11
    refine lv_tableIn (off := 886) (tgt := 930) hx hb dL_law_44 (by decide +kernel) (by decide +kernel) (by decide +kernel) (by decide) ?_
    exact case_11 hst C0 hE hK hP hD hS hl
  by_cases h12 : j = 12
  · subst h12
    refine lv_tableIn (off := 942) (tgt := 986) hx hb dL_law_44 (by decide +kernel) (by decide +kernel) (by decide +kernel) (by decide) ?_
    exact case_12 hst C0 hE hK hP hD hS hl
  by_cases h13 : j = 13
  · subst h13
    refine lv_tableIn (off := 998) (tgt := 1042) hx hb dL_law_44 (by decide +kernel) (by decide +kernel) (by decide +kernel) (by decide) ?_
    exact case_13 hst C0 hE hK hP hD hS hl
  by_cases h14 : j = 14
  · subst h14
    refine lv_tableIn (off := 1054) (tgt := 1098) hx hb dL_law_44 (by decide +kernel) (by decide +kernel) (by decide +kernel) (by decide) ?_
    exact case_14 hst C0 hE hK hP hD hS hl
  by_cases h15 : j = 15
  · subst h15
    refine lv_tableIn (off := 1110) (tgt := 1154) hx hb dL_law_44 (by decide +kernel) (by decide +kernel) (by decide +kernel) (by decide) ?_
    exact case_15 hst C0 hE hK hP hD hS hl
  by_cases h16 : j = 16
  · subst h16
    refine lv_tableIn (off := 1190) (tgt := 1234) hx hb dL_law_44 (by decide +kernel) (by decide +kernel) (by decide +kernel) (by decide) ?_
    exact case_16 hst C0 hE hK hP hD hS hl
  by_cases h17 : j = 17
  · subst h17
    refine lv_tableIn (off := 1260) (tgt := 1304) hx hb dL_law_44 (by decide +kernel) (by decide +kernel) (by decide +kernel) (by decide) ?_
    exact case_17 hst C0 hE hK hP hD hS hl
  by_cases h18 : j = 18
  · subst h18
    refine lv_tableIn (off := 1323) (tgt := 1367) hx hb dL_law_44 (by decide +kernel) (by decide +kernel) (by decide +kernel) (by decide) ?_
    exact case_18 hst C0 hE hK hP hD hS hl
  by_cases h19 : j = 19
  · subst h19
    refine lv_tableIn (off := 1386) (tgt := 1430) hx hb dL_law_44 (by decide +kernel) (by decide +kernel) (by decide +kernel) (by decide) ?_
    exact case_19 hst C0 hE hK hP hD hS hl
  by_cases h20 : j = 20
  · subst h20
    refine lv_tableIn (off := 1482) (tgt := 1526) hx hb dL_law_44 (by decide +kernel) (by decide +kernel) (by decide +kernel) (by decide) ?_
    exact case_20 hst C0 hE hK hP hD hS hl
  by_cases h21 : j = 21
  · subst h21
    refine lv_tableIn (off := 1550) (tgt := 1594) hx hb dL_law_44 (by decide +kernel) (by decide +kernel) (by decide +kernel) (by decide) ?_
    exact case_21 hst C0 hE hK hP hD hS hl
  by_cases h22 : j = 22
  · subst h22
    refine lv_tableIn (off := 1606) (tgt := 1650) hx hb dL_law_44 (by decide +kernel) (by decide +kernel) (by decide +kernel) (by decide) ?_
    exact case_22 hst C0 hE hK hP hD hS hl
  by_cases h23 : j = 23
  · subst h23
    refine lv_tableIn (off := 1662) (tgt := 1706) hx hb dL_law_44 (by decide +kernel) (by decide +kernel) (by decide +kernel) (by decide) ?_
    exact case_23 hst C0 hE hK hP hD hS hl
  by_cases h24 : j = 24
  · subst h24
    refine lv_tableIn (off := 1730) (tgt := 1774) hx hb dL_law_44 (by decide +kernel) (by decide +kernel) (by decide +kernel) (by decide) ?_
    exact case_24 hst C0 hE hK hP hD hS hl
  by_cases h25 : j = 25
  · subst h25
    refine lv_tableIn (off := 1810) (tgt := 1854) hx hb dL_law_44 (by decide +kernel) (by decide +kernel) (by decide +kernel) (by decide) ?_
    exact case_25 hst C0 hE hK hP hD hS hl
  by_cases h26 : j = 26
  · subst h26
    refine lv_tableIn (off := 1890) (tgt := 1934) hx hb dL_law_44 (by decide +kernel) (by decide +kernel) (by decide +kernel) (by decide) ?_
    exact case_26 hst C0 hE hK hP hD hS hl
  by_cases h27 : j = 27
  · subst h27
    refine lv_tableIn (off := 1946) (tgt := 1990) hx hb dL_law_44 (by decide +kernel) (by decide +kernel) (by decide +kernel) (by decide) ?_
    exact case_27 hst C0 hE hK hP hD hS hl
  by_cases h28 : j = 28
  · subst h28
    refine lv_tableIn (off := 1959) (tgt := 2003) hx hb dL_law_44 (by decide +kernel) (by decide +kernel) (by decide +kernel) (by decide) ?_
    exact case_28 hst C0 hE hK hP hD hS hl
  by_cases h29 : j = 29
  · subst h29
    refine lv_tableIn (off := 2039) (tgt := 2083) hx hb dL_law_44 (by decide +kernel) (by decide +kernel) (by decide +kernel) (by decide) ?_
    exact case_29 hst C0 hE hK hP hD hS hl
  by_cases h30 : j = 30
  · subst h30
    refine lv_tableIn (off := 2095) (tgt := 2139) hx hb dL_law_44 (by decide +kernel) (by decide +kernel) (by decide +kernel) (by decide) ?_
    exact case_30 hst C0 hE hK hP hD hS hl
  by_cases h31 : j = 31
  · subst h31
    refine lv_tableIn (off := 2165) (tgt := 2209) hx hb dL_law_44 (by decide +kernel) (by decide +kernel) (by decide +kernel) (by decide) ?_
    exact case_31 hst C0 hE hK hP hD hS hl
  by_cases h32 : j = 32
  · subst h32
    refine lv_tableIn (off := 2233) (tgt := 2277) hx hb dL_law_44 (by decide +kernel) (by decide +kernel) (by decide +kernel) (by decide) ?_
    exact case_32 hst C0 hE hK hP hD hS hl
  by_cases h33 : j = 33
  · subst h33
    refine lv_tableIn (off := 2289) (tgt := 2333) hx hb dL_law_44 (by decide +kernel) (by decide +kernel) (by decide +kernel) (by decide) ?_
    exact case_33 hst C0 hE hK hP hD hS hl
  by_cases h34 : j = 34
  · subst h34
    refine lv_tableIn (off := 2357) (tgt := 2401) hx hb dL_law_44 (by decide +kernel) (by decide +kernel) (by decide +kernel) (by decide) ?_
    exact case_34 hst C0 hE hK hP hD hS hl
  by_cases h35 : j = 35
  · subst h35
    refine lv_tableIn (off := 2425) (tgt := 2469) hx hb dL_law_44 (by decide +kernel) (by decide +kernel) (by decide +kernel) (by decide) ?_
    exact case_35 hst C0 hE hK hP hD hS hl
  by_cases h36 : j = 36
  · subst h36
    refine lv_tableIn (off := 2505) (tgt := 2549) hx hb dL_law_44 (by decide +kernel) (by decide +kernel) (by decide +kernel) (by decide) ?_
    exact case_36 hst C0 hE hK hP hD hS hl
  by_cases h37 : j = 37
  · subst h37
    refine lv_tableIn (off := 2573) (tgt := 2617) hx hb dL_law_44 (by decide +kernel) (by decide +kernel) (by decide +kernel) (by decide) ?_
    exact case_37 hst C0 hE hK hP hD hS hl
  by_cases h38 : j = 38
  · subst h38
    refine lv_tableIn (off := 2636) (tgt := 2680) hx hb dL_law_44 (by decide +kernel) (by decide +kernel) (by decide +kernel) (by decide) ?_
    exact case_38 hst C0 hE hK hP hD hS hl
  by_cases h39 : j = 39
  · subst h39
    refine lv_tableIn (off := 2692) (tgt := 2736) hx hb dL_law_44 (by decide +kernel) (by decide +kernel) (by decide +kernel) (by decide) ?_
    exact case_39 hst C0 hE hK hP hD hS hl
  by_cases h40 : j = 40
  · subst h40
    refine lv_tableIn (off := 2748) (tgt := 2792) hx hb dL_law_44 (by decide +kernel) (by decide +kernel) (by decide +kernel) (by decide) ?_
    exact case_40 hst C0 hE hK hP hD hS hl
  by_cases h41 : j = 41
  · subst h41
    refine lv_tableIn (off := 2804) (tgt := 2848) hx hb dL_law_44 (by decide +kernel) (by decide +kernel) (by decide +kernel) (by decide) ?_
    exact case_41 hst C0 hE hK hP hD hS hl
  by_cases h42 : j = 42
  · subst h42
    refine lv_tableIn (off := 2860) (tgt := 2904) hx hb dL_law_44 (by decide +kernel) (by decide +kernel) (by decide +kernel) (by decide) ?_
    exact case_42 hst C0 hE hK hP hD hS hl
  by_cases h43 : j = 43
  · subst h43
    refine lv_tableIn (off := 2940) (tgt := 2984) hx hb dL_law_44 (by decide +kernel) (by decide +kernel) (by decide +kernel) (by decide) ?_
    exact case_43 hst C0 hE hK hP hD hS hl
  by_cases h44 : j = 44
  · subst h44
    refine lv_tableIn (off := 3024) (tgt := 3068) hx hb dL_law_44 (by decide +kernel) (by decide +kernel) (by decide +kernel) (by decide) ?_
    exact case_44 hst C0 hE hK hP hD hS hl
  by_cases h45 : j = 45
  · subst h45
    refine lv_tableIn (off := 3080) (tgt := 3124) hx hb dL_law_44 (by decide +kernel) (by decide +kernel) (by decide +kernel) (by decide) ?_
    exact case_45 hst C0 hE hK hP hD hS hl
  by_cases h46 : j = 46
  · subst h46
    refine lv_tableIn (off := 3143) (tgt := 3187) hx hb dL_law_44 (by decide +kernel) (by decide +kernel) (by decide +kernel) (by decide) ?_
    exact case_46 hst C0 hE hK hP hD hS hl
  by_cases h47 : j = 47
  · subst h47
    refine lv_tableIn (off := 3206) (tgt := 3250) hx hb dL_law_44 (by decide +kernel) (by decide +kernel) (by decide +kernel) (by decide) ?_
    exact case_47 hst C0 hE hK hP hD hS hl
  by_cases h48 : j = 48
  · subst h48
    refine lv_tableIn (off := 3262) (tgt := 3306) hx hb dL_law_44 (by decide +kernel) (by decide +kernel) (by decide +kernel) (by decide) ?_
    exact case_48 hst C0 hE hK hP hD hS hl
  by_cases h49 : j = 49
  · subst h49
    refine lv_tableIn (off := 3337) (tgt := 3381) hx hb dL_law_44 (by decide +kernel) (by decide +kernel) (by decide +kernel) (by decide) ?_
    exact case_49 hst C0 hE hK hP hD hS hl
  by_cases h50 : j = 50
  · subst h50
    refine lv_tableIn (off := 3350) (tgt := 3394) hx hb dL_law_44 (by decide +kernel) (by decide +kernel) (by decide +kernel) (by decide) ?_
    exact case_50 hst C0 hE hK hP hD hS hl
  by_cases h51 : j = 51
  · subst h51
    refine lv_tableIn (off := 3416) (tgt := 3460) hx hb dL_law_44 (by decide +kernel) (by decide +kernel) (by decide +kernel) (by decide) ?_
    exact case_51 hst C0 hE hK hP hD hS hl
  by_cases h52 : j = 52
  · subst h52
    refine lv_tableIn (off := 3481) (tgt := 3525) hx hb dL_law_44 (by decide +kernel) (by decide +kernel) (by decide +kernel) (by decide) ?_
    exact case_52 hst C0 hE hK hP hD hS hl
  by_cases h53 : j = 53
  · subst h53
    refine lv_tableIn (off := 3495) (tgt := 3539) hx hb dL_law_44 (by decide +kernel) (by decide +kernel) (by decide +kernel) (by decide) ?_
    exact case_53 hst C0 hE hK hP hD hS hl
  refine lv_tableOut (tgt := 3552) hx hb dL_law_44 (Or.inr (by rw [nI_toInt (by omega)]; omega)) (by decide) ?_
  exact law_tail C0 (Nat.le_of_ble_eq_true rfl) (Nat.le_of_ble_eq_true rfl) hS (lv_sub hl [0, 5] rfl)
