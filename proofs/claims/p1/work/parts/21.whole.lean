set_option maxRecDepth 20000 in
theorem iw_RX10_wsL_law : ∀ w ∈ u_ws RX10 TX10 20, w ∈ wsL_law := by decide +kernel
set_option maxRecDepth 100000 in
theorem iw_RX10_wsLaw2 : ∀ w ∈ u_ws RX10 TX10 20, w ∈ wsLaw2 := fun w h => List.mem_append_left _ (List.mem_filter.mpr ⟨iw_RX10_wsL_law w h, List.all_eq_true.mp (show (u_ws RX10 TX10 20).all en_no = true from by decide +kernel) w h⟩)
set_option maxRecDepth 20000 in
theorem iw_RX14_wsL_law : ∀ w ∈ u_ws RX14 TX14 21, w ∈ wsL_law := by decide +kernel
set_option maxRecDepth 100000 in
theorem iw_RX14_wsLaw2 : ∀ w ∈ u_ws RX14 TX14 21, w ∈ wsLaw2 := fun w h => List.mem_append_left _ (List.mem_filter.mpr ⟨iw_RX14_wsL_law w h, List.all_eq_true.mp (show (u_ws RX14 TX14 21).all en_no = true from by decide +kernel) w h⟩)
set_option maxHeartbeats 8000000 in
set_option maxRecDepth 100000 in
/-- THE LAW, from its entry -/
theorem whole_start {p : Program} {e : Env} {s : State} {m : MethodId} {below : List Frame} {meth : Method} {c : Code} (l : Launch) (hflags : l.flags = flags0) {b L : Nat} {xs : Nat → Int32} (hL : L ≤ 4) (C0 : lw_At p s m meth c b L xs) : W p l e room_1 s m #[Value.ref b] below meth c s.heap [] 0 0 (lw_Z below #[Value.ref b] s) (entryFrame m ([Value.ref b] : List Value).toArray 9) := by
  obtain ⟨hx, hb, hr, hml, hown, hts0, hX, hbl, hlocks, hgv⟩ := id C0
  have hst : l.stackTraces = false := by unfold Launch.stackTraces; rw [hflags]; decide +kernel
  have hts : ∀ w ∈ wsLaw2, w.before #[Value.ref b] s = true := fun w h => hts0 w (wsLaw2_in w h)
  have hA : ∀ q : Nat, s.heap.size ≤ q → (fun q : Nat => s.heap.size ≤ q) q := fun _ h => h
  have hbA : ¬ (fun q : Nat => s.heap.size ≤ q) b := Nat.not_le.mpr hbl
  obtain ⟨D, hK⟩ := kn_start hts0
  obtain ⟨e0, hE⟩ := ev_start hts0 hgv
  have hS : va_S (fun q : Nat => s.heap.size ≤ q) s.heap s.heap [] := va_S.rf
  have hP : va_P D vwCl [] s.heap := fun k q h => by simp at h
  have hD : va_D (fun q : Nat => s.heap.size ≤ q) [] := ⟨fun i j p q h => by simp at h, fun k q h => by simp at h⟩
  have hl := lv_entry ([.ref b]) (n := 9) (Nat.le_of_ble_eq_true rfl)
  rw [lg_entry_eq]
  generalize (lg_sl ([.ref b]) ++ List.replicate (9 - (lg_sl ([.ref b])).length) Slot.unset).toArray = ls at hl ⊢
  have hl : lv_has ls 9 [(0, .ref b)] := hl
  refine va_new (D := D) (ci := 16) (fs := [.null, .null, .null, .null, .null, .null, .null, .null, .null, .null, .null, .int 0, .int 0, .int 0, .int 0, .int 0, .int 0, .int 0, .int 0, .int 0]) (C := RX10) (T := TX10) (N := 20) hx hb hts iw_RX10_wsLaw2 tyX10 tyX10_ok hown (hts0 (.classLink RL 8 RX10) (by decide +kernel)) (hts0 (.instantiable RX10 20) (by decide +kernel)) (hts0 (.initialized RX10) (by decide +kernel)) hK hP hD hS hA rfl (fun j hj => by rcases (show j = 0 ∨ j = 1 ∨ j = 2 ∨ j = 3 ∨ j = 4 ∨ j = 5 ∨ j = 6 ∨ j = 7 ∨ j = 8 ∨ j = 9 ∨ j = 10 ∨ j = 11 ∨ j = 12 ∨ j = 13 ∨ j = 14 ∨ j = 15 ∨ j = 16 ∨ j = 17 ∨ j = 18 ∨ j = 19 by omega) with rfl | rfl | rfl | rfl | rfl | rfl | rfl | rfl | rfl | rfl | rfl | rfl | rfl | rfl | rfl | rfl | rfl | rfl | rfl | rfl <;> rfl) (Nat.le_of_ble_eq_true rfl) (Nat.le_of_ble_eq_true rfl) dL_law_0 (fun q_1 H hP hD hS => ?_)
  have hP : va_P D vwCl [(q_1, .inr (16, [.null, .null, .null, .null, .null, .null, .null, .null, .null, .null, .null, .int 0, .int 0, .int 0, .int 0, .int 0, .int 0, .int 0, .int 0, .int 0]))] H := hP
  have hD : va_D (fun q : Nat => s.heap.size ≤ q) [(q_1, .inr (16, [.null, .null, .null, .null, .null, .null, .null, .null, .null, .null, .null, .int 0, .int 0, .int 0, .int 0, .int 0, .int 0, .int 0, .int 0, .int 0]))] := hD
  refine W.widen (k := 1) (n := 20) (Nat.le_of_ble_eq_true rfl) (Nat.le_of_ble_eq_true rfl) ?_
  refine lv_dup hx hb dL_law_3 rfl ?_
  have hFc := va_free (wc := [(q_1, .inr (16, [.null, .null, .null, .null, .null, .null, .null, .null, .null, .null, .null, .int 0, .int 0, .int 0, .int 0, .int 0, .int 0, .int 0, .int 0, .int 0]))]) hD hS hA [0] rfl
  refine va_callv (va_runI (As := []) (rest := [.ref q_1]) ⟨hx, hb, hml, hown, hts⟩ (c_X10_init l hst D e0 q_1 H.size) (cwI 0 hts (good_n gL_law_X10_init (by decide +kernel)) rfl rfl rfl (hts0 (.initialized RX10) (by decide +kernel)) (hts0 (.methodLink RL 178 yX10_init) (by decide +kernel)) (hts0 (.instanceMethod yX10_init) (by decide +kernel)) rfl (by decide +kernel) ⟨Nat.le_of_ble_eq_true rfl, Nat.le_of_ble_eq_true rfl⟩) ⟨cIn_blind, cIn_go hK hP hD hE hS hA [0] rfl rfl (by decide) [] rfl⟩ rfl rfl hl.1 rfl (lv_room (Nat.le_of_ble_eq_true rfl)) dL_law_4 ⟨Nat.le_of_ble_eq_true rfl, Nat.le_of_ble_eq_true rfl⟩) hS (fun q _ h => hFc q h) hFc (fun u t H1 locs ht hvm hw hB hz1 hk1 hS => ?_)
  obtain ⟨q_4, q_5, q_6, q_7, q_8, q_9, q_10, q_11, q_12, q_13, q_14, q_15, hP1, hK1, hD1⟩ := hB
  rw [ht] at hP1
  have hK1 := va_K.moved hvm.symm hK1
  obtain ⟨hP, hD⟩ := va_join (wr := []) (w1 := [(q_1, .inr (16, [.ref q_4, .ref q_5, .ref q_6, .ref q_7, .ref q_8, .ref q_9, .ref q_10, .ref q_11, .ref q_12, .ref q_13, .ref q_14, .int 0, .int 4, .int (-40), .int 20, .int 0, .int 0, .int 100, .int 60, .int 14])), (q_4, .inr (5, [.int 0, .ref e0, .int 0])), (q_5, .inr (5, [.int 0, .ref e0, .int 0])), (q_6, .inr (5, [.int 0, .ref e0, .int 0])), (q_7, .inr (5, [.int 0, .ref e0, .int 0])), (q_8, .inr (5, [.int 0, .ref e0, .int 0])), (q_9, .inr (5, [.int 0, .ref e0, .int 0])), (q_10, .inr (5, [.int 0, .ref e0, .int 0])), (q_11, .inr (5, [.int 0, .ref e0, .int 0])), (q_12, .inr (5, [.int 0, .ref e0, .int 0])), (q_13, .inl (q_15, 4, .inl (fun _ => 0))), (q_14, .inr (8, [.int 0, .int 0]))]) hP hD [0] [] rfl rfl (by decide) (by decide) hk1 hFc hP1 hD1
  have hK : va_K D vwCl [(q_15, .int)] s := hK.app hK1
  generalize H1 = H at hP hS ⊢
  have hP : va_P D vwCl [(q_1, .inr (16, [.ref q_4, .ref q_5, .ref q_6, .ref q_7, .ref q_8, .ref q_9, .ref q_10, .ref q_11, .ref q_12, .ref q_13, .ref q_14, .int 0, .int 4, .int (-40), .int 20, .int 0, .int 0, .int 100, .int 60, .int 14])), (q_4, .inr (5, [.int 0, .ref e0, .int 0])), (q_5, .inr (5, [.int 0, .ref e0, .int 0])), (q_6, .inr (5, [.int 0, .ref e0, .int 0])), (q_7, .inr (5, [.int 0, .ref e0, .int 0])), (q_8, .inr (5, [.int 0, .ref e0, .int 0])), (q_9, .inr (5, [.int 0, .ref e0, .int 0])), (q_10, .inr (5, [.int 0, .ref e0, .int 0])), (q_11, .inr (5, [.int 0, .ref e0, .int 0])), (q_12, .inr (5, [.int 0, .ref e0, .int 0])), (q_13, .inl (q_15, 4, .inl (fun _ => 0))), (q_14, .inr (8, [.int 0, .int 0]))] H := hP
  have hD : va_D (fun q : Nat => s.heap.size ≤ q) [(q_1, .inr (16, [.ref q_4, .ref q_5, .ref q_6, .ref q_7, .ref q_8, .ref q_9, .ref q_10, .ref q_11, .ref q_12, .ref q_13, .ref q_14, .int 0, .int 4, .int (-40), .int 20, .int 0, .int 0, .int 100, .int 60, .int 14])), (q_4, .inr (5, [.int 0, .ref e0, .int 0])), (q_5, .inr (5, [.int 0, .ref e0, .int 0])), (q_6, .inr (5, [.int 0, .ref e0, .int 0])), (q_7, .inr (5, [.int 0, .ref e0, .int 0])), (q_8, .inr (5, [.int 0, .ref e0, .int 0])), (q_9, .inr (5, [.int 0, .ref e0, .int 0])), (q_10, .inr (5, [.int 0, .ref e0, .int 0])), (q_11, .inr (5, [.int 0, .ref e0, .int 0])), (q_12, .inr (5, [.int 0, .ref e0, .int 0])), (q_13, .inl (q_15, 4, .inl (fun _ => 0))), (q_14, .inr (8, [.int 0, .int 0]))] := hD
  refine W.widen (k := 12) (n := 53) (Nat.le_of_ble_eq_true rfl) (Nat.le_of_ble_eq_true rfl) ?_
  refine lv_astore_n (lv' := [(1, .ref q_1), (0, .ref b)]) hx hb dL_law_7 rfl hl (by decide) rfl (fun ls hl => ?_)
  refine va_new (D := D) (ci := 20) (fs := [.int 0, .null, .int 0, .int 0, .null, .null, .int 0, .int 0, .int 0, .null, .int 0, .int 0, .int 0, .null, .null, .int 0, .int 0, .int 0, .null, .null, .null]) (C := RX14) (T := TX14) (N := 21) hx hb hts iw_RX14_wsLaw2 tyX14 tyX14_ok hown (hts0 (.classLink RL 179 RX14) (by decide +kernel)) (hts0 (.instantiable RX14 21) (by decide +kernel)) (hts0 (.initialized RX14) (by decide +kernel)) hK hP hD hS hA rfl (fun j hj => by rcases (show j = 0 ∨ j = 1 ∨ j = 2 ∨ j = 3 ∨ j = 4 ∨ j = 5 ∨ j = 6 ∨ j = 7 ∨ j = 8 ∨ j = 9 ∨ j = 10 ∨ j = 11 ∨ j = 12 ∨ j = 13 ∨ j = 14 ∨ j = 15 ∨ j = 16 ∨ j = 17 ∨ j = 18 ∨ j = 19 ∨ j = 20 by omega) with rfl | rfl | rfl | rfl | rfl | rfl | rfl | rfl | rfl | rfl | rfl | rfl | rfl | rfl | rfl | rfl | rfl | rfl | rfl | rfl | rfl <;> rfl) (Nat.le_of_ble_eq_true rfl) (Nat.le_of_ble_eq_true rfl) dL_law_8 (fun q_16 H hP hD hS => ?_)
  have hP : va_P D vwCl [(q_1, .inr (16, [.ref q_4, .ref q_5, .ref q_6, .ref q_7, .ref q_8, .ref q_9, .ref q_10, .ref q_11, .ref q_12, .ref q_13, .ref q_14, .int 0, .int 4, .int (-40), .int 20, .int 0, .int 0, .int 100, .int 60, .int 14])), (q_4, .inr (5, [.int 0, .ref e0, .int 0])), (q_5, .inr (5, [.int 0, .ref e0, .int 0])), (q_6, .inr (5, [.int 0, .ref e0, .int 0])), (q_7, .inr (5, [.int 0, .ref e0, .int 0])), (q_8, .inr (5, [.int 0, .ref e0, .int 0])), (q_9, .inr (5, [.int 0, .ref e0, .int 0])), (q_10, .inr (5, [.int 0, .ref e0, .int 0])), (q_11, .inr (5, [.int 0, .ref e0, .int 0])), (q_12, .inr (5, [.int 0, .ref e0, .int 0])), (q_13, .inl (q_15, 4, .inl (fun _ => 0))), (q_14, .inr (8, [.int 0, .int 0])), (q_16, .inr (20, [.int 0, .null, .int 0, .int 0, .null, .null, .int 0, .int 0, .int 0, .null, .int 0, .int 0, .int 0, .null, .null, .int 0, .int 0, .int 0, .null, .null, .null]))] H := hP
  have hD : va_D (fun q : Nat => s.heap.size ≤ q) [(q_1, .inr (16, [.ref q_4, .ref q_5, .ref q_6, .ref q_7, .ref q_8, .ref q_9, .ref q_10, .ref q_11, .ref q_12, .ref q_13, .ref q_14, .int 0, .int 4, .int (-40), .int 20, .int 0, .int 0, .int 100, .int 60, .int 14])), (q_4, .inr (5, [.int 0, .ref e0, .int 0])), (q_5, .inr (5, [.int 0, .ref e0, .int 0])), (q_6, .inr (5, [.int 0, .ref e0, .int 0])), (q_7, .inr (5, [.int 0, .ref e0, .int 0])), (q_8, .inr (5, [.int 0, .ref e0, .int 0])), (q_9, .inr (5, [.int 0, .ref e0, .int 0])), (q_10, .inr (5, [.int 0, .ref e0, .int 0])), (q_11, .inr (5, [.int 0, .ref e0, .int 0])), (q_12, .inr (5, [.int 0, .ref e0, .int 0])), (q_13, .inl (q_15, 4, .inl (fun _ => 0))), (q_14, .inr (8, [.int 0, .int 0])), (q_16, .inr (20, [.int 0, .null, .int 0, .int 0, .null, .null, .int 0, .int 0, .int 0, .null, .int 0, .int 0, .int 0, .null, .null, .int 0, .int 0, .int 0, .null, .null, .null]))] := hD
  refine W.widen (k := 13) (n := 74) (Nat.le_of_ble_eq_true rfl) (Nat.le_of_ble_eq_true rfl) ?_
  refine lv_dup hx hb dL_law_11 rfl ?_
  have hFc := va_free (wc := [(q_16, .inr (20, [.int 0, .null, .int 0, .int 0, .null, .null, .int 0, .int 0, .int 0, .null, .int 0, .int 0, .int 0, .null, .null, .int 0, .int 0, .int 0, .null, .null, .null]))]) hD hS hA [12] rfl
  refine va_callv (va_runI (As := []) (rest := [.ref q_16]) ⟨hx, hb, hml, hown, hts⟩ (c_X14_init l hst D e0 q_16 H.size) (cwI 0 hts (good_n gL_law_X14_init (by decide +kernel)) rfl rfl rfl (hts0 (.initialized RX14) (by decide +kernel)) (hts0 (.methodLink RL 181 yX14_init) (by decide +kernel)) (hts0 (.instanceMethod yX14_init) (by decide +kernel)) rfl (by decide +kernel) ⟨Nat.le_of_ble_eq_true rfl, Nat.le_of_ble_eq_true rfl⟩) ⟨cIn_blind, cIn_go hK hP hD hE hS hA [12] rfl rfl (by decide) [] rfl⟩ rfl rfl hl.1 rfl (lv_room (Nat.le_of_ble_eq_true rfl)) dL_law_12 ⟨Nat.le_of_ble_eq_true rfl, Nat.le_of_ble_eq_true rfl⟩) hS (fun q _ h => hFc q h) hFc (fun u t H1 locs ht hvm hw hB hz1 hk1 hS => ?_)
  obtain ⟨q_19, q_20, q_21, q_22, q_23, q_24, q_25, q_26, q_27, q_28, hP1, hK1, hD1⟩ := hB
  rw [ht] at hP1
  have hK1 := va_K.moved hvm.symm hK1
  obtain ⟨hP, hD⟩ := va_join (wr := [(q_1, .inr (16, [.ref q_4, .ref q_5, .ref q_6, .ref q_7, .ref q_8, .ref q_9, .ref q_10, .ref q_11, .ref q_12, .ref q_13, .ref q_14, .int 0, .int 4, .int (-40), .int 20, .int 0, .int 0, .int 100, .int 60, .int 14])), (q_4, .inr (5, [.int 0, .ref e0, .int 0])), (q_5, .inr (5, [.int 0, .ref e0, .int 0])), (q_6, .inr (5, [.int 0, .ref e0, .int 0])), (q_7, .inr (5, [.int 0, .ref e0, .int 0])), (q_8, .inr (5, [.int 0, .ref e0, .int 0])), (q_9, .inr (5, [.int 0, .ref e0, .int 0])), (q_10, .inr (5, [.int 0, .ref e0, .int 0])), (q_11, .inr (5, [.int 0, .ref e0, .int 0])), (q_12, .inr (5, [.int 0, .ref e0, .int 0])), (q_13, .inl (q_15, 4, .inl (fun _ => 0))), (q_14, .inr (8, [.int 0, .int 0]))]) (w1 := [(q_16, .inr (20, [.int 0, .ref q_19, .int 0, .int 0, .ref q_20, .ref q_21, .int 0, .int 4, .int (-40), .ref q_22, .int 0, .int 20, .int 0, .ref q_23, .ref q_27, .int 100, .int 60, .int 14, .ref q_24, .ref q_25, .ref q_26])), (q_19, .inr (5, [.int 0, .ref e0, .int 0])), (q_20, .inr (5, [.int 0, .ref e0, .int 0])), (q_21, .inr (5, [.int 0, .ref e0, .int 0])), (q_22, .inr (5, [.int 0, .ref e0, .int 0])), (q_23, .inr (5, [.int 0, .ref e0, .int 0])), (q_24, .inr (5, [.int 0, .ref e0, .int 0])), (q_25, .inr (5, [.int 0, .ref e0, .int 0])), (q_26, .inr (5, [.int 0, .ref e0, .int 0])), (q_27, .inl (q_28, 4, .inl (fun _ => 0)))]) hP hD [12] [0, 1, 2, 3, 4, 5, 6, 7, 8, 9, 10, 11] rfl rfl (by decide) (by decide) hk1 hFc hP1 hD1
  have hK : va_K D vwCl [(q_15, .int), (q_28, .int)] s := hK.app hK1
  generalize H1 = H at hP hS ⊢
  have hP : va_P D vwCl [(q_1, .inr (16, [.ref q_4, .ref q_5, .ref q_6, .ref q_7, .ref q_8, .ref q_9, .ref q_10, .ref q_11, .ref q_12, .ref q_13, .ref q_14, .int 0, .int 4, .int (-40), .int 20, .int 0, .int 0, .int 100, .int 60, .int 14])), (q_4, .inr (5, [.int 0, .ref e0, .int 0])), (q_5, .inr (5, [.int 0, .ref e0, .int 0])), (q_6, .inr (5, [.int 0, .ref e0, .int 0])), (q_7, .inr (5, [.int 0, .ref e0, .int 0])), (q_8, .inr (5, [.int 0, .ref e0, .int 0])), (q_9, .inr (5, [.int 0, .ref e0, .int 0])), (q_10, .inr (5, [.int 0, .ref e0, .int 0])), (q_11, .inr (5, [.int 0, .ref e0, .int 0])), (q_12, .inr (5, [.int 0, .ref e0, .int 0])), (q_13, .inl (q_15, 4, .inl (fun _ => 0))), (q_14, .inr (8, [.int 0, .int 0])), (q_16, .inr (20, [.int 0, .ref q_19, .int 0, .int 0, .ref q_20, .ref q_21, .int 0, .int 4, .int (-40), .ref q_22, .int 0, .int 20, .int 0, .ref q_23, .ref q_27, .int 100, .int 60, .int 14, .ref q_24, .ref q_25, .ref q_26])), (q_19, .inr (5, [.int 0, .ref e0, .int 0])), (q_20, .inr (5, [.int 0, .ref e0, .int 0])), (q_21, .inr (5, [.int 0, .ref e0, .int 0])), (q_22, .inr (5, [.int 0, .ref e0, .int 0])), (q_23, .inr (5, [.int 0, .ref e0, .int 0])), (q_24, .inr (5, [.int 0, .ref e0, .int 0])), (q_25, .inr (5, [.int 0, .ref e0, .int 0])), (q_26, .inr (5, [.int 0, .ref e0, .int 0])), (q_27, .inl (q_28, 4, .inl (fun _ => 0)))] H := hP
  have hD : va_D (fun q : Nat => s.heap.size ≤ q) [(q_1, .inr (16, [.ref q_4, .ref q_5, .ref q_6, .ref q_7, .ref q_8, .ref q_9, .ref q_10, .ref q_11, .ref q_12, .ref q_13, .ref q_14, .int 0, .int 4, .int (-40), .int 20, .int 0, .int 0, .int 100, .int 60, .int 14])), (q_4, .inr (5, [.int 0, .ref e0, .int 0])), (q_5, .inr (5, [.int 0, .ref e0, .int 0])), (q_6, .inr (5, [.int 0, .ref e0, .int 0])), (q_7, .inr (5, [.int 0, .ref e0, .int 0])), (q_8, .inr (5, [.int 0, .ref e0, .int 0])), (q_9, .inr (5, [.int 0, .ref e0, .int 0])), (q_10, .inr (5, [.int 0, .ref e0, .int 0])), (q_11, .inr (5, [.int 0, .ref e0, .int 0])), (q_12, .inr (5, [.int 0, .ref e0, .int 0])), (q_13, .inl (q_15, 4, .inl (fun _ => 0))), (q_14, .inr (8, [.int 0, .int 0])), (q_16, .inr (20, [.int 0, .ref q_19, .int 0, .int 0, .ref q_20, .ref q_21, .int 0, .int 4, .int (-40), .ref q_22, .int 0, .int 20, .int 0, .ref q_23, .ref q_27, .int 100, .int 60, .int 14, .ref q_24, .ref q_25, .ref q_26])), (q_19, .inr (5, [.int 0, .ref e0, .int 0])), (q_20, .inr (5, [.int 0, .ref e0, .int 0])), (q_21, .inr (5, [.int 0, .ref e0, .int 0])), (q_22, .inr (5, [.int 0, .ref e0, .int 0])), (q_23, .inr (5, [.int 0, .ref e0, .int 0])), (q_24, .inr (5, [.int 0, .ref e0, .int 0])), (q_25, .inr (5, [.int 0, .ref e0, .int 0])), (q_26, .inr (5, [.int 0, .ref e0, .int 0])), (q_27, .inl (q_28, 4, .inl (fun _ => 0)))] := hD
  refine W.widen (k := 22) (n := 102) (Nat.le_of_ble_eq_true rfl) (Nat.le_of_ble_eq_true rfl) ?_
  refine lv_astore_n (lv' := [(2, .ref q_16), (1, .ref q_1), (0, .ref b)]) hx hb dL_law_15 rfl hl (by decide) rfl (fun ls hl => ?_)
  refine lv_iconst (v := 1) hx hb dL_law_16 (by decide) ?_
  refine va_newa (D := D) (atype := .long) (ty := .long) (N' := 1) (a0 := (1, .inr (.inl (fun _ => 0)))) hx hb (hts0 (.arrayClass .long) (by decide +kernel)) rfl hK hP hD hS hA (fun cA => rfl) (by decide) (by decide +kernel) (by decide) (Nat.le_of_ble_eq_true rfl) (Nat.le_of_ble_eq_true rfl) dL_law_17 (fun q_29 cA_30 H hK hP hD hS => ?_)
  have hP : va_P D vwCl [(q_1, .inr (16, [.ref q_4, .ref q_5, .ref q_6, .ref q_7, .ref q_8, .ref q_9, .ref q_10, .ref q_11, .ref q_12, .ref q_13, .ref q_14, .int 0, .int 4, .int (-40), .int 20, .int 0, .int 0, .int 100, .int 60, .int 14])), (q_4, .inr (5, [.int 0, .ref e0, .int 0])), (q_5, .inr (5, [.int 0, .ref e0, .int 0])), (q_6, .inr (5, [.int 0, .ref e0, .int 0])), (q_7, .inr (5, [.int 0, .ref e0, .int 0])), (q_8, .inr (5, [.int 0, .ref e0, .int 0])), (q_9, .inr (5, [.int 0, .ref e0, .int 0])), (q_10, .inr (5, [.int 0, .ref e0, .int 0])), (q_11, .inr (5, [.int 0, .ref e0, .int 0])), (q_12, .inr (5, [.int 0, .ref e0, .int 0])), (q_13, .inl (q_15, 4, .inl (fun _ => 0))), (q_14, .inr (8, [.int 0, .int 0])), (q_16, .inr (20, [.int 0, .ref q_19, .int 0, .int 0, .ref q_20, .ref q_21, .int 0, .int 4, .int (-40), .ref q_22, .int 0, .int 20, .int 0, .ref q_23, .ref q_27, .int 100, .int 60, .int 14, .ref q_24, .ref q_25, .ref q_26])), (q_19, .inr (5, [.int 0, .ref e0, .int 0])), (q_20, .inr (5, [.int 0, .ref e0, .int 0])), (q_21, .inr (5, [.int 0, .ref e0, .int 0])), (q_22, .inr (5, [.int 0, .ref e0, .int 0])), (q_23, .inr (5, [.int 0, .ref e0, .int 0])), (q_24, .inr (5, [.int 0, .ref e0, .int 0])), (q_25, .inr (5, [.int 0, .ref e0, .int 0])), (q_26, .inr (5, [.int 0, .ref e0, .int 0])), (q_27, .inl (q_28, 4, .inl (fun _ => 0))), (q_29, .inl (cA_30, 1, .inr (.inl (fun _ => 0))))] H := hP
  have hD : va_D (fun q : Nat => s.heap.size ≤ q) [(q_1, .inr (16, [.ref q_4, .ref q_5, .ref q_6, .ref q_7, .ref q_8, .ref q_9, .ref q_10, .ref q_11, .ref q_12, .ref q_13, .ref q_14, .int 0, .int 4, .int (-40), .int 20, .int 0, .int 0, .int 100, .int 60, .int 14])), (q_4, .inr (5, [.int 0, .ref e0, .int 0])), (q_5, .inr (5, [.int 0, .ref e0, .int 0])), (q_6, .inr (5, [.int 0, .ref e0, .int 0])), (q_7, .inr (5, [.int 0, .ref e0, .int 0])), (q_8, .inr (5, [.int 0, .ref e0, .int 0])), (q_9, .inr (5, [.int 0, .ref e0, .int 0])), (q_10, .inr (5, [.int 0, .ref e0, .int 0])), (q_11, .inr (5, [.int 0, .ref e0, .int 0])), (q_12, .inr (5, [.int 0, .ref e0, .int 0])), (q_13, .inl (q_15, 4, .inl (fun _ => 0))), (q_14, .inr (8, [.int 0, .int 0])), (q_16, .inr (20, [.int 0, .ref q_19, .int 0, .int 0, .ref q_20, .ref q_21, .int 0, .int 4, .int (-40), .ref q_22, .int 0, .int 20, .int 0, .ref q_23, .ref q_27, .int 100, .int 60, .int 14, .ref q_24, .ref q_25, .ref q_26])), (q_19, .inr (5, [.int 0, .ref e0, .int 0])), (q_20, .inr (5, [.int 0, .ref e0, .int 0])), (q_21, .inr (5, [.int 0, .ref e0, .int 0])), (q_22, .inr (5, [.int 0, .ref e0, .int 0])), (q_23, .inr (5, [.int 0, .ref e0, .int 0])), (q_24, .inr (5, [.int 0, .ref e0, .int 0])), (q_25, .inr (5, [.int 0, .ref e0, .int 0])), (q_26, .inr (5, [.int 0, .ref e0, .int 0])), (q_27, .inl (q_28, 4, .inl (fun _ => 0))), (q_29, .inl (cA_30, 1, .inr (.inl (fun _ => 0))))] := hD
  have hK : va_K D vwCl [(q_15, .int), (q_28, .int), (cA_30, .long)] s := hK
  refine W.widen (k := 23) (n := 103) (Nat.le_of_ble_eq_true rfl) (Nat.le_of_ble_eq_true rfl) ?_
  refine lv_astore_n (lv' := [(3, .ref q_29), (2, .ref q_16), (1, .ref q_1), (0, .ref b)]) hx hb dL_law_19 rfl hl (by decide) rfl (fun ls hl => ?_)
  refine lv_iconst (v := 1) hx hb dL_law_20 (by decide) ?_
  refine va_newa (D := D) (atype := .double) (ty := .double) (N' := 1) (a0 := (1, .inr (.inr (.inr (.inl (fun _ => 0)))))) hx hb (hts0 (.arrayClass .double) (by decide +kernel)) rfl hK hP hD hS hA (fun cA => rfl) (by decide) (by decide +kernel) (by decide) (Nat.le_of_ble_eq_true rfl) (Nat.le_of_ble_eq_true rfl) dL_law_21 (fun q_31 cA_32 H hK hP hD hS => ?_)
  have hP : va_P D vwCl [(q_1, .inr (16, [.ref q_4, .ref q_5, .ref q_6, .ref q_7, .ref q_8, .ref q_9, .ref q_10, .ref q_11, .ref q_12, .ref q_13, .ref q_14, .int 0, .int 4, .int (-40), .int 20, .int 0, .int 0, .int 100, .int 60, .int 14])), (q_4, .inr (5, [.int 0, .ref e0, .int 0])), (q_5, .inr (5, [.int 0, .ref e0, .int 0])), (q_6, .inr (5, [.int 0, .ref e0, .int 0])), (q_7, .inr (5, [.int 0, .ref e0, .int 0])), (q_8, .inr (5, [.int 0, .ref e0, .int 0])), (q_9, .inr (5, [.int 0, .ref e0, .int 0])), (q_10, .inr (5, [.int 0, .ref e0, .int 0])), (q_11, .inr (5, [.int 0, .ref e0, .int 0])), (q_12, .inr (5, [.int 0, .ref e0, .int 0])), (q_13, .inl (q_15, 4, .inl (fun _ => 0))), (q_14, .inr (8, [.int 0, .int 0])), (q_16, .inr (20, [.int 0, .ref q_19, .int 0, .int 0, .ref q_20, .ref q_21, .int 0, .int 4, .int (-40), .ref q_22, .int 0, .int 20, .int 0, .ref q_23, .ref q_27, .int 100, .int 60, .int 14, .ref q_24, .ref q_25, .ref q_26])), (q_19, .inr (5, [.int 0, .ref e0, .int 0])), (q_20, .inr (5, [.int 0, .ref e0, .int 0])), (q_21, .inr (5, [.int 0, .ref e0, .int 0])), (q_22, .inr (5, [.int 0, .ref e0, .int 0])), (q_23, .inr (5, [.int 0, .ref e0, .int 0])), (q_24, .inr (5, [.int 0, .ref e0, .int 0])), (q_25, .inr (5, [.int 0, .ref e0, .int 0])), (q_26, .inr (5, [.int 0, .ref e0, .int 0])), (q_27, .inl (q_28, 4, .inl (fun _ => 0))), (q_29, .inl (cA_30, 1, .inr (.inl (fun _ => 0)))), (q_31, .inl (cA_32, 1, .inr (.inr (.inr (.inl (fun _ => 0))))))] H := hP
  have hD : va_D (fun q : Nat => s.heap.size ≤ q) [(q_1, .inr (16, [.ref q_4, .ref q_5, .ref q_6, .ref q_7, .ref q_8, .ref q_9, .ref q_10, .ref q_11, .ref q_12, .ref q_13, .ref q_14, .int 0, .int 4, .int (-40), .int 20, .int 0, .int 0, .int 100, .int 60, .int 14])), (q_4, .inr (5, [.int 0, .ref e0, .int 0])), (q_5, .inr (5, [.int 0, .ref e0, .int 0])), (q_6, .inr (5, [.int 0, .ref e0, .int 0])), (q_7, .inr (5, [.int 0, .ref e0, .int 0])), (q_8, .inr (5, [.int 0, .ref e0, .int 0])), (q_9, .inr (5, [.int 0, .ref e0, .int 0])), (q_10, .inr (5, [.int 0, .ref e0, .int 0])), (q_11, .inr (5, [.int 0, .ref e0, .int 0])), (q_12, .inr (5, [.int 0, .ref e0, .int 0])), (q_13, .inl (q_15, 4, .inl (fun _ => 0))), (q_14, .inr (8, [.int 0, .int 0])), (q_16, .inr (20, [.int 0, .ref q_19, .int 0, .int 0, .ref q_20, .ref q_21, .int 0, .int 4, .int (-40), .ref q_22, .int 0, .int 20, .int 0, .ref q_23, .ref q_27, .int 100, .int 60, .int 14, .ref q_24, .ref q_25, .ref q_26])), (q_19, .inr (5, [.int 0, .ref e0, .int 0])), (q_20, .inr (5, [.int 0, .ref e0, .int 0])), (q_21, .inr (5, [.int 0, .ref e0, .int 0])), (q_22, .inr (5, [.int 0, .ref e0, .int 0])), (q_23, .inr (5, [.int 0, .ref e0, .int 0])), (q_24, .inr (5, [.int 0, .ref e0, .int 0])), (q_25, .inr (5, [.int 0, .ref e0, .int 0])), (q_26, .inr (5, [.int 0, .ref e0, .int 0])), (q_27, .inl (q_28, 4, .inl (fun _ => 0))), (q_29, .inl (cA_30, 1, .inr (.inl (fun _ => 0)))), (q_31, .inl (cA_32, 1, .inr (.inr (.inr (.inl (fun _ => 0))))))] := hD
  have hK : va_K D vwCl [(q_15, .int), (q_28, .int), (cA_30, .long), (cA_32, .double)] s := hK
  refine W.widen (k := 24) (n := 104) (Nat.le_of_ble_eq_true rfl) (Nat.le_of_ble_eq_true rfl) ?_
  refine lv_astore (lv' := [(4, .ref q_31), (3, .ref q_29), (2, .ref q_16), (1, .ref q_1), (0, .ref b)]) hx hb dL_law_23 hl (by decide) rfl (fun ls hl => ?_)
  refine lv_iconst (v := 0) hx hb dL_law_25 (by decide) ?_
  refine lv_istore (lv' := [(5, .int 0), (4, .ref q_31), (3, .ref q_29), (2, .ref q_16), (1, .ref q_1), (0, .ref b)]) hx hb dL_law_26 hl (by decide) rfl (fun ls hl => ?_)
  refine lv_iload hx hb dL_law_28 (lv_at hl 0 rfl) ?_
  refine lv_aload_n hx hb dL_law_30 rfl (lv_at hl 5 rfl) ?_
  refine va_slen hx hb hX hbl hbA hS dL_law_31 ?_
  refine lv_iconst (v := 4) hx hb dL_law_32 (by decide) ?_
  refine lv_isub hx hb dL_law_33 ?_
  refine lv_icmp_gt (tgt := 3558) hx hb dL_law_34 (by decide) (fun c9 => ?_) (fun c9 => ?_)
  · refine lv_iconst (v := 1) hx hb dL_law_3558 (by decide) ?_
    refine va_forget (fun q hq => hS.2.2 q hq) ?_
    refine W.widen (k := 800312) (n := 6701151) (Nat.le_of_ble_eq_true rfl) (Nat.le_of_ble_eq_true rfl) ?_
    refine W.base ?_
    exact lw_ret (Drawn.sameBut.refl s.drawn lw_cs) hx hb hr hlocks dL_law_3559
  · have h4 : L = 4 := by
      rcases (show L = 0 ∨ L = 1 ∨ L = 2 ∨ L = 3 ∨ L = 4 by omega) with rfl | rfl | rfl | rfl | rfl
      · exact absurd (by decide +kernel) c9
      · exact absurd (by decide +kernel) c9
      · exact absurd (by decide +kernel) c9
      · exact absurd (by decide +kernel) c9
      · rfl
    subst h4
    exact law_disp hst C0 hE (hK.sub [0, 1, 2, 3] rfl) (hP.sub [0, 1, 2, 3, 4, 5, 6, 7, 8, 9, 10, 11, 12, 13, 14, 15, 16, 17, 18, 19, 20, 21, 22, 23] rfl) (hD.sub [0, 1, 2, 3, 4, 5, 6, 7, 8, 9, 10, 11, 12, 13, 14, 15, 16, 17, 18, 19, 20, 21, 22, 23] (by decide) rfl) hS hl
-- ===== YOUR PART ENDS =====
set_option maxHeartbeats 4000000 in
theorem lw_walk (l : Launch) (hflags : l.flags = flags0) (b : Addr) (xs : List Int32) : MetFree l x (headSpec (Jvm.Cond.code x code maxLocals ret :: tables_1) room_1) (lw_P b xs) (fun _ _ _ _ _ => True) lw_Q := by
  refine MetFree.of_bodyS (code := code) (maxLocals := maxLocals) (ret := ret) (by decide) ?_ ?_
  · intro args s m h hn
    obtain ⟨meth, c, h1, h2, h3, h4, h5, h6, -, -⟩ := Cond.code_spec hn (atoms_spec (ws := Jvm.Cond.code x code maxLocals ret :: tables_1) h _ List.mem_cons_self)
    exact ⟨meth, c, h1, h2, h3, h4, h5, h6⟩
  · intro p e s m args below meth c s₁ B hml0 hP _
    obtain ⟨rfl, hx, hbd, hgv⟩ := hP
    obtain ⟨scr, harrAt, hlist, hof, hsmall⟩ := hx
    obtain ⟨hcb, hkn, -, -⟩ := State.arrayAt?_spec harrAt
    have hown : s.vm.findClass R_law = some m.cls := findClass_of_methodNamed B.named
    have hts0 : ∀ c ∈ (Jvm.Cond.code x code maxLocals ret :: tables_1), c.before #[Value.ref b] s = true := atoms_spec (ws := Jvm.Cond.code x code maxLocals ret :: tables_1) B.pre
    have hts : ∀ w ∈ lw_tbl, w.before #[Value.ref b] s = true := k2_hts_sels lw_privs (fun w hw => hts0 w (List.mem_cons_of_mem _ hw)) lw_privs_ok
    have hml : c.maxLocals = 9 := B.maxLocals_eq (hts0 _ List.mem_cons_self)
    have X₀ : Stand p l e room_1 s m #[Value.ref b] below meth c s₁ [] 0 0 := Stand.of_body B
    have hh0 : s₁.heap = s.heap := by rw [B.state]; rfl
    have hsz : scr.slots.size = xs.length := by rw [← Array.length_toList, hlist, List.length_map]
    have hval : ∀ j : Nat, j < xs.length → scr.slots[j]? = some (.int (xs.getD j 0)) := fun j hj => by
      rw [← Array.getElem?_toList, hlist]
      simp [hj]
    have hbl : b < s.heap.size := (Array.getElem?_eq_some_iff.mp hcb).1
    have hX : va_X b xs.length (fun j => xs.getD j 0) s s.heap := ⟨scr, hcb, hof, hkn, hsz, hval⟩
    have K : W p l e room_1 s m #[Value.ref b] below meth c s₁.heap [] 0 0 (lw_Z below #[Value.ref b] s) (entryFrame m ([Value.ref b] : List Value).toArray 9) := by
      rw [hh0]
      exact whole_start l hflags hbd ⟨B.exec, B.bytes, B.returns, hml, hown, hts, hX, hbl, B.notSynchronized, hgv⟩
    obtain ⟨t, a1, o, b1, b2, b3⟩ := K s₁ rfl X₀
    exact ⟨t, o, a1, b1, b2, b3⟩
theorem lw_pre_spec {args : Array Value} {s : State} (h : (Jvm.Cond.and given_1 narrow_1).before args s = true) (hr : rest_1_c.before args s = true) : ∃ (b : Addr) (xs : List Int32), lw_P b xs args s := by
  have hs := flat_of_before _ h
  have hq := flat_of_before _ hr
  have hc : (Cond.count 1).before args s = true := hs _ (by decide +kernel)
  have harr : (Cond.arrayOf (.arg 0) .int).before args s = true := hs _ (by decide +kernel)
  have hle : (Cond.le (.length (.arg 0)) (.int 4)).before args s = true := hs _ (by decide +kernel)
  have hlen : (Cond.isInt (.length (.arg 0))).before args s = true := hq _ (by decide +kernel)
  have hall : (Cond.all (.arg 0) (.isInt (.elem (.arg 0) (.index 0)))).before args s = true := hq _ (by decide +kernel)
  obtain ⟨b, xs, hb, hx⟩ := State.ints_of_pre rfl harr hlen hall
  have hsm : xs.length < 2 ^ 31 := hx.choose_spec.2.2.2
  have hev : (Term.length (.arg 0)).eval args s none [] s = some (.int xs.length.toInt32) := hx.length_eval hb
  have hv := Cond.le_ints hev (show (Term.int 4).eval args s none [] s = some (.int 4) from rfl)
  have hd : xs.length.toInt32 ≤ 4 := by
    simpa [Cond.before, Cond.holds, hv] using hle
  have hN : xs.length ≤ 4 := (Int32.ofNat_le_ofNat hsm (by decide)).mp (show Int32.ofNat xs.length ≤ Int32.ofNat 4 from hd)
  exact ⟨b, xs, Cond.one_arg hc (show args[0]? = some (.ref b) from hb), hx, hN, h⟩
theorem lw_comes (l : Launch) (hflags : l.flags = flags0) : Comes l x (Jvm.Cond.code x code maxLocals ret :: tables_1) room_1 (fun tb e args s => Calls_1 tb e args s ∧ rest_1 tb e args s ∧ Pre_1 tb e args s)
    (fun _ _ args s o t => lw_Q args s o t) := by
  intro p e ha hc hk s m args below hf hfit hheap happ hpre
  obtain ⟨b, xs, hP⟩ := lw_pre_spec hpre.2.2 hpre.2.1
  obtain ⟨k, o, h1, h2, h3, hQ⟩ := lw_walk l hflags b xs p e ha hc hk s m args below hf ((Spec.applies_iff_loose hf).mp happ).1 hP trivial
  exact ⟨k, o, h1, h2, h3, hQ⟩
theorem lw_frame {s t : State} {o : Outcome} {args : Array Value} (h : State.butDraws s t lw_cs (fun t1 => Framed s o t1 [] 800312 6701151)) :
    State.butDraws s t [Jvm.Choice.named "NaN.bits"] (fun t1 => Framed s o t1 (fieldLocs frame_1_writes args s ++ arrayLocs frame_1_arrays args s ++ staticLocs frame_1_statics s) 800312 6701151) := h
theorem lw_limb (L : Cond) (hL : ∀ (args : Array Value) (s t : State), L.after args s (.returned (some (.int 1))) t = true) :
    ArmFor flags0 classFile x code maxLocals ret World_1 tables_1 room_1 Calls_1 rest_1 Pre_1
      (fun tb e a s o t => postC L tb e a s o t ∧ State.butDraws s t [Jvm.Choice.named "NaN.bits"] (fun t1 => Framed s o t1 (fieldLocs frame_1_writes a s ++ arrayLocs frame_1_arrays a s ++ staticLocs frame_1_statics s) 800312 6701151)) := by
  intro l hflags _ _ p e ha hc hk s m args below hf hfit hheap happ hpre
  obtain ⟨k, o, h1, h2, h3, rfl, hF⟩ := lw_comes l hflags p e ha hc hk s m args below hf hfit hheap happ hpre
  exact ⟨k, _, h1, h2, h3, hL args s _, lw_frame hF⟩
theorem i_vc : Claimed_1_1 ∧ Claimed_1_2 := ⟨lw_limb limb_1_1 (fun args s t => by simp [limb_1_1, Cond.after, Cond.holds, Cond.value]), lw_limb limb_1_2 (fun args s t => Cond.after_iff.mpr (by
  first | (rw [show limb_1_2 = Cond.eq .result (.int 1) from rfl, Cond.eq_ints (x := 1) (y := 1) rfl rfl]; simp; done) | (simp [limb_1_2, Cond.value, Term.eval]; done)))⟩

