set_option maxRecDepth 20000 in
theorem iw_RX14_wsX14_lot : ∀ w ∈ u_ws RX14 TX14 21, w ∈ wsX14_lot := by decide +kernel
set_option maxRecDepth 20000 in
theorem iw_RX14_wsX14_protocol : ∀ w ∈ u_ws RX14 TX14 21, w ∈ wsX14_protocol := by decide +kernel
set_option maxRecDepth 20000 in
theorem iw_RJx4a65c_wsX14_protocol : ∀ w ∈ u_ws RJx4a65c TJx4a65c 3, w ∈ wsX14_protocol := by decide +kernel
set_option maxRecDepth 20000 in
theorem iw_RX14_wsX14_coversAgain : ∀ w ∈ u_ws RX14 TX14 21, w ∈ wsX14_coversAgain := by decide +kernel
set_option maxRecDepth 20000 in
theorem iw_RX14_wsX14_doubtAll : ∀ w ∈ u_ws RX14 TX14 21, w ∈ wsX14_doubtAll := by decide +kernel
set_option maxRecDepth 20000 in
theorem iw_RJx4a65c_wsX14_module : ∀ w ∈ u_ws RJx4a65c TJx4a65c 3, w ∈ wsX14_module := by decide +kernel
set_option maxRecDepth 20000 in
theorem iw_RX14_wsX14_module : ∀ w ∈ u_ws RX14 TX14 21, w ∈ wsX14_module := by decide +kernel
set_option maxRecDepth 20000 in
theorem iw_RX14_wsX14_freeAt : ∀ w ∈ u_ws RX14 TX14 21, w ∈ wsX14_freeAt := by decide +kernel
set_option maxRecDepth 20000 in
theorem iw_RX14_wsX14_checksum : ∀ w ∈ u_ws RX14 TX14 21, w ∈ wsX14_checksum := by decide +kernel
set_option maxRecDepth 20000 in
theorem iw_RX14_wsX14_readyShare : ∀ w ∈ u_ws RX14 TX14 21, w ∈ wsX14_readyShare := by decide +kernel
set_option maxRecDepth 20000 in
theorem iw_RX14_wsX14_meanHold : ∀ w ∈ u_ws RX14 TX14 21, w ∈ wsX14_meanHold := by decide +kernel
theorem bt_mod {p0 : Int32} (h : ¬ v_X14_isBetween p0 2 6 = 0) : ¬ p0 ≤ 0 := by
  unfold v_X14_isBetween at h
  simp only [Int32.lt_iff_toInt_lt, Int32.le_iff_toInt_le, show (0 : Int32).toInt = 0 from rfl, show (2 : Int32).toInt = 2 from rfl, show (6 : Int32).toInt = 6 from rfl] at *
  repeat' split at h
  all_goals first | (exact absurd rfl h) | omega
theorem bt_chan {p0 : Int32} (h : ¬ v_X14_isBetween p0 0 (4 - 1) = 0) : vp_in p0 4 := by
  rw [vp_in_iff]
  unfold v_X14_isBetween at h
  simp only [Int32.lt_iff_toInt_lt, Int32.le_iff_toInt_le, show (0 : Int32).toInt = 0 from rfl, show (4 - 1 : Int32).toInt = 3 from rfl] at *
  repeat' split at h
  all_goals first | (exact absurd rfl h) | (refine ⟨?_, ?_⟩ <;> omega)
theorem bt_chan3 {p0 : Int32} (h : ¬ v_X14_isBetween p0 0 3 = 0) : vp_in p0 4 := bt_chan h
theorem bt_pass {p0 : Int32} (h : ¬ v_X14_isBetween p0 1 500 = 0) : ∃ n : Nat, 0 < n ∧ n ≤ 500 ∧ p0 = nI n := by
  have h2 : 1 ≤ p0.toInt ∧ p0.toInt ≤ 500 := by
    unfold v_X14_isBetween at h
    simp only [Int32.lt_iff_toInt_lt, Int32.le_iff_toInt_le, show (1 : Int32).toInt = 1 from rfl, show (500 : Int32).toInt = 500 from rfl] at *
    repeat' split at h
    all_goals first | (exact absurd rfl h) | (refine ⟨?_, ?_⟩ <;> omega)
  refine ⟨p0.toInt.toNat, by omega, by omega, ?_⟩
  apply Int32.toInt_inj.mp
  rw [nI_toInt (by omega)]
  omega
theorem bt_pass2 {p0 : Int32} (h : ¬ v_X14_isBetween p0 1 500 = 0) : 0 + p0 ≤ 9999 := by
  obtain ⟨n, h1, h2, rfl⟩ := bt_pass h
  rw [Int32.zero_add]
  exact nI_le (b := 9999) (by omega) (by decide)
-- X14_lot
def v_X14_lot (p0 : Int32) (p1 : Int32) (p2 : Int32) : Int32 := if p0 = 112 then (if (v_X14_isBetween p1 50 150) = 0 then 0 else (if (v_X14_isBetween p2 1 999) = 0 then 0 else 0)) else (if p0 = 110 then (if (v_X14_isBetween p1 50 150) = 0 then 0 else (if (v_X14_isBetween p2 1 999) = 0 then 0 else 0)) else 0)
def k_X14_lot (p0 : Int32) (p1 : Int32) (p2 : Int32) : Int32 := if p0 = 112 then (if (v_X14_isBetween p1 50 150) = 0 then 1 else (if (v_X14_isBetween p2 1 999) = 0 then 1 else 0)) else (if p0 = 110 then (if (v_X14_isBetween p1 50 150) = 0 then 1 else (if (v_X14_isBetween p2 1 999) = 0 then 1 else 0)) else 1)
set_option maxHeartbeats 4000000 in
set_option maxRecDepth 100000 in
theorem c_X14_lot (l : Launch) (hst : l.stackTraces = false) (D : va_G) (e : Nat) (h : Nat) (m1 : Nat) (m2 : Nat) (m3 : Nat) (m4 : Nat) (m5 : Nat) (m6 : Nat) (m7 : Nat) (m8 : Nat) (fr : Nat) (p0 : Int32) (p1 : Int32) (p2 : Int32) (sz : Nat) : Met l yX14_lot wsX14_lot ({ frames := 24, cells := 2, slots := 13, locals := 580 }) (va_Pc [.ref h, .int p0, .int p1, .int p2] (cIn D [] [(h, .inr (20, [.int 0, .ref m1, .int 0, .int 0, .ref m2, .ref m3, .int 0, .int 4, .int (-40), .ref m4, .int 0, .int 20, .int 0, .ref m5, .ref fr, .int 100, .int 60, .int 14, .ref m6, .ref m7, .ref m8])), (m1, .inr (5, [.int 0, .ref e, .int 0]))] e sz)) (va_Qi (fun (r : Int32) (u : Int32 × List Value) => u.1 = k_X14_lot p0 p1 p2 ∧ r = v_X14_lot p0 p1 p2) (fun (u : Int32 × List Value) (t : State) => va_P D vwCl [(h, .inr (20, .int u.1 :: u.2))] t.heap ∧ va_K D vwCl [] t ∧ va_D (va_A [(h, .inr (20, [.int 0, .ref m1, .int 0, .int 0, .ref m2, .ref m3, .int 0, .int 4, .int (-40), .ref m4, .int 0, .int 20, .int 0, .ref m5, .ref fr, .int 100, .int 60, .int 14, .ref m6, .ref m7, .ref m8])), (m1, .inr (5, [.int 0, .ref e, .int 0]))] sz) [(h, .inr (20, .int u.1 :: u.2))]) (va_A [(h, .inr (20, [.int 0, .ref m1, .int 0, .int 0, .ref m2, .ref m3, .int 0, .int 4, .int (-40), .ref m4, .int 0, .int 20, .int 0, .ref m5, .ref fr, .int 100, .int 60, .int 14, .ref m6, .ref m7, .ref m8])), (m1, .inr (5, [.int 0, .ref e, .int 0]))] sz)) 2 13 (va_A [(h, .inr (20, [.int 0, .ref m1, .int 0, .int 0, .ref m2, .ref m3, .int 0, .int 4, .int (-40), .ref m4, .int 0, .int 20, .int 0, .ref m5, .ref fr, .int 100, .int 60, .int 14, .ref m6, .ref m7, .ref m8])), (m1, .inr (5, [.int 0, .ref e, .int 0]))] sz) := by
  refine Met.ofW (cc := cX14_lot) (maxL := 4) (ret := (some .int)) (by decide +kernel) rfl ?_
  intro p e9 s m args below meth c s₁ B hml hv
  obtain ⟨rfl, hsz, hP, hK, hD0, hE0⟩ := hv
  have hx := B.exec
  have hb := B.bytes
  have hr := B.returns
  have hts := atoms_spec (ws := wsX14_lot) B.pre
  have hown : s.vm.findClass RX14 = some m.cls := findClass_of_methodNamed B.named
  have hlocks := B.notSynchronized
  subst hsz
  have hD := hD0.self (sz := s.heap.size)
  generalize hAe : va_A [(h, .inr (20, [.int 0, .ref m1, .int 0, .int 0, .ref m2, .ref m3, .int 0, .int 4, .int (-40), .ref m4, .int 0, .int 20, .int 0, .ref m5, .ref fr, .int 100, .int 60, .int 14, .ref m6, .ref m7, .ref m8])), (m1, .inr (5, [.int 0, .ref e, .int 0]))] s.heap.size = A at hD hE0 ⊢
  have hA : ∀ q : Nat, s.heap.size ≤ q → A q := fun q h => by rw [← hAe]; exact Or.inr h
  have hS : va_S A s.heap s.heap [] := va_S.rf
  have hE := hE0
  have hP : va_P D vwCl [(h, .inr (20, [.int 0, .ref m1, .int 0, .int 0, .ref m2, .ref m3, .int 0, .int 4, .int (-40), .ref m4, .int 0, .int 20, .int 0, .ref m5, .ref fr, .int 100, .int 60, .int 14, .ref m6, .ref m7, .ref m8])), (m1, .inr (5, [.int 0, .ref e, .int 0]))] s.heap := hP
  have hl := lv_entry ([.ref h, .int p0, .int p1, .int p2]) (n := 4) (Nat.le_of_ble_eq_true rfl)
  rw [lg_entry_eq]
  generalize (lg_sl ([.ref h, .int p0, .int p1, .int p2]) ++ List.replicate (4 - (lg_sl ([.ref h, .int p0, .int p1, .int p2])).length) Slot.unset).toArray = ls at hl ⊢
  have hl : lv_has ls 4 [(0, .ref h), (1, .int p0), (2, .int p1), (3, .int p2)] := hl
  refine lv_aload_n hx hb dX14_lot_0 rfl (lv_at hl 0 rfl) ?_
  refine lv_iload_n hx hb dX14_lot_1 rfl (lv_at hl 1 rfl) ?_
  refine lv_bipush (v := 112) hx hb dX14_lot_2 (by decide) ?_
  refine lv_icmp_eq (tgt := 13) hx hb dX14_lot_4 (by decide) (fun c_1 => ?_) (fun c_1 => ?_)
  · refine lv_iload_n hx hb dX14_lot_13 rfl (lv_at hl 2 rfl) ?_
    refine lv_bipush (v := 50) hx hb dX14_lot_14 (by decide) ?_
    refine lv_sipush (v := 150) hx hb dX14_lot_16 (by decide) ?_
    refine vp_callSi (va_Run.run (va_runS (As := [.int p1, .int 50, .int 150]) (rest := [.ref h]) ⟨hx, hb, hml, hown, hts⟩ (c_X14_isBetween l hst D e p1 50 150 s.heap.size) (va_cwS 3 hts gX14_lot_X14_isBetween rfl rfl rfl (by decide +kernel) ⟨Nat.le_of_ble_eq_true rfl, Nat.le_of_ble_eq_true rfl⟩) ⟨cIn_blind, cIn_go hK hP hD hE hS hA [] rfl rfl (by decide) [] rfl⟩ rfl rfl hl.1 rfl (lv_room (Nat.le_of_ble_eq_true rfl)) dX14_lot_19 ⟨Nat.le_of_ble_eq_true rfl, Nat.le_of_ble_eq_true rfl⟩)) (fun r_2 hw => ?_)
    subst hw
    refine lv_if_eq (tgt := 36) hx hb dX14_lot_22 (by decide) (fun c_3 => ?_) (fun c_3 => ?_)
    · refine lv_iconst (v := 1) hx hb dX14_lot_36 (by decide) ?_
      refine lv_goto (tgt := 59) hx hb dX14_lot_37 (by decide) ?_
      have hFc := va_free (wc := [(h, .inr (20, [.int 0, .ref m1, .int 0, .int 0, .ref m2, .ref m3, .int 0, .int 4, .int (-40), .ref m4, .int 0, .int 20, .int 0, .ref m5, .ref fr, .int 100, .int 60, .int 14, .ref m6, .ref m7, .ref m8]))]) hD hS hA [0] rfl
      refine va_calli (va_runV (As := [.int 1]) (rest := []) ⟨hx, hb, hml, hown, hts⟩ (c_X14_isWrong l hst D e h 0 ([.ref m1, .int 0, .int 0, .ref m2, .ref m3, .int 0, .int 4, .int (-40), .ref m4, .int 0, .int 20, .int 0, .ref m5, .ref fr, .int 100, .int 60, .int 14, .ref m6, .ref m7, .ref m8]) 1 s.heap.size) (cwV 1 hts gX14_lot_X14_isWrong rfl rfl rfl (by decide +kernel) ⟨Nat.le_of_ble_eq_true rfl, Nat.le_of_ble_eq_true rfl⟩) ⟨cIn_blind, va_recv hK hP (ci := 20) (q0 := 0) rfl rfl, cIn_go hK hP hD hE hS hA [0] rfl rfl (by decide) [] rfl⟩ rfl rfl hl.1 rfl (lv_room (Nat.le_of_ble_eq_true rfl)) dX14_lot_59 ⟨Nat.le_of_ble_eq_true rfl, Nat.le_of_ble_eq_true rfl⟩) hS (fun q _ h => hFc q h) hFc (fun r_4 u t H1 locs ht hvm hw hB hz1 hk1 hS => ?_)
      obtain ⟨hP1, hK1, hD1⟩ := hB
      rw [ht] at hP1
      have hK1 := va_K.moved hvm.symm hK1
      obtain ⟨hP, hD⟩ := va_join (wr := [(m1, .inr (5, [.int 0, .ref e, .int 0]))]) (w1 := [(h, .inr (20, [.int 1, .ref m1, .int 0, .int 0, .ref m2, .ref m3, .int 0, .int 4, .int (-40), .ref m4, .int 0, .int 20, .int 0, .ref m5, .ref fr, .int 100, .int 60, .int 14, .ref m6, .ref m7, .ref m8]))]) hP hD [0] [1] rfl rfl (by decide) (by decide) hk1 hFc hP1 hD1
      generalize H1 = H at hP hS ⊢
      have hP : va_P D vwCl [(m1, .inr (5, [.int 0, .ref e, .int 0])), (h, .inr (20, [.int 1, .ref m1, .int 0, .int 0, .ref m2, .ref m3, .int 0, .int 4, .int (-40), .ref m4, .int 0, .int 20, .int 0, .ref m5, .ref fr, .int 100, .int 60, .int 14, .ref m6, .ref m7, .ref m8]))] H := hP
      have hD : va_D A [(m1, .inr (5, [.int 0, .ref e, .int 0])), (h, .inr (20, [.int 1, .ref m1, .int 0, .int 0, .ref m2, .ref m3, .int 0, .int 4, .int (-40), .ref m4, .int 0, .int 20, .int 0, .ref m5, .ref fr, .int 100, .int 60, .int 14, .ref m6, .ref m7, .ref m8]))] := hD
      have hw : r_4 = 1 := hw.trans (by first | rfl | decide +kernel)
      subst hw
      refine lv_if_eq (tgt := 67) hx hb dX14_lot_62 (by decide) (fun c_6 => absurd c_6 (show ¬ ((1 : Int32) = 0) from by decide +kernel)) (fun c_6 => ?_)
      refine lv_iconst (v := 0) hx hb dX14_lot_65 (by decide) ?_
      refine W.widen (k := 2) (n := 13) (Nat.le_of_ble_eq_true rfl) (Nat.le_of_ble_eq_true rfl) ?_
      exact W.iret (v := 0) hx hb hr (fun t ht hW => ⟨⟨0, ((1, [.ref m1, .int 0, .int 0, .ref m2, .ref m3, .int 0, .int 4, .int (-40), .ref m4, .int 0, .int 20, .int 0, .ref m5, .ref fr, .int 100, .int 60, .int 14, .ref m6, .ref m7, .ref m8]) : Int32 × List Value), rfl, ⟨(by unfold k_X14_lot; rw [if_pos c_1, if_pos c_3]), (by unfold v_X14_lot; rw [if_pos c_1, if_pos c_3])⟩, ⟨by rw [ht]; exact hP.sub [1] rfl, va_K.moved hW.alike (hK.sub [] rfl), hD.sub [1] (by decide) rfl⟩⟩, hS.F ht⟩) hS.2.2 dX14_lot_66
    · refine lv_iload_n hx hb dX14_lot_25 rfl (lv_at hl 3 rfl) ?_
      refine lv_iconst (v := 1) hx hb dX14_lot_26 (by decide) ?_
      refine lv_sipush (v := 999) hx hb dX14_lot_27 (by decide) ?_
      refine vp_callSi (va_Run.run (va_runS (As := [.int p2, .int 1, .int 999]) (rest := [.ref h]) ⟨hx, hb, hml, hown, hts⟩ (c_X14_isBetween l hst D e p2 1 999 s.heap.size) (va_cwS 3 hts gX14_lot_X14_isBetween rfl rfl rfl (by decide +kernel) ⟨Nat.le_of_ble_eq_true rfl, Nat.le_of_ble_eq_true rfl⟩) ⟨cIn_blind, cIn_go hK hP hD hE hS hA [] rfl rfl (by decide) [] rfl⟩ rfl rfl hl.1 rfl (lv_room (Nat.le_of_ble_eq_true rfl)) dX14_lot_30 ⟨Nat.le_of_ble_eq_true rfl, Nat.le_of_ble_eq_true rfl⟩)) (fun r_7 hw => ?_)
      subst hw
      refine lv_if_ne (tgt := 40) hx hb dX14_lot_33 (by decide) (fun c_8 => ?_) (fun c_8 => ?_)
      · refine lv_aload_n hx hb dX14_lot_40 rfl (lv_at hl 0 rfl) ?_
        refine va_get (D := D) (ci := 20) (v := .ref m1) (C := RX14) (T := TX14) (N := 21) hx hb hts iw_RX14_wsX14_lot hown hK hP 0 rfl rfl 1 (by decide) (hts (.fieldLink RX14 10 "CoatLineModel" "lots" "Ljava/util/List;") (by decide +kernel)) (fun _ h9 => h9) rfl dX14_lot_41 ?_
        refine va_csFi (va_runF (As := []) (rest := [.ref h]) (hK.1 5 _ rfl).2 ⟨hx, hb, hml, hown, hts⟩ (c_Jx4a65c_size_8abf5 l hst D e m1 0 e 0 s.heap.size) (va_cwF 0 hts gX14_lot_Jx4a65c_size_8abf5_f63Jx4a65c rfl rfl rfl (ev_f hE (q := (RJx4a65c, ⟨"java/util/List", "size", "()I"⟩, yJx4a65c_size_8abf5)) (by decide +kernel)) (by decide +kernel) ⟨Nat.le_of_ble_eq_true rfl, Nat.le_of_ble_eq_true rfl⟩) ⟨cIn_blind, va_recv hK hP (ci := 5) (q0 := 1) rfl rfl, cIn_go hK hP hD hE hS hA [1] rfl rfl (by decide) [] rfl⟩ rfl rfl hl.1 rfl (lv_room (Nat.le_of_ble_eq_true rfl)) dX14_lot_44 ⟨Nat.le_of_ble_eq_true rfl, Nat.le_of_ble_eq_true rfl⟩) (fun r_9 hw => ?_)
        have hw : r_9 = 0 := hw.trans (by first | rfl | decide +kernel)
        subst hw
        refine lv_bipush (v := 8) hx hb dX14_lot_49 (by decide) ?_
        refine lv_icmp_ne (tgt := 58) hx hb dX14_lot_51 (by decide) (fun c_10 => ?_) (fun c_10 => absurd c_10 (show ¬ ((0 : Int32) = 8) from by decide +kernel))
        refine lv_iconst (v := 0) hx hb dX14_lot_58 (by decide) ?_
        have hFc := va_free (wc := [(h, .inr (20, [.int 0, .ref m1, .int 0, .int 0, .ref m2, .ref m3, .int 0, .int 4, .int (-40), .ref m4, .int 0, .int 20, .int 0, .ref m5, .ref fr, .int 100, .int 60, .int 14, .ref m6, .ref m7, .ref m8]))]) hD hS hA [0] rfl
        refine va_calli (va_runV (As := [.int 0]) (rest := []) ⟨hx, hb, hml, hown, hts⟩ (c_X14_isWrong l hst D e h 0 ([.ref m1, .int 0, .int 0, .ref m2, .ref m3, .int 0, .int 4, .int (-40), .ref m4, .int 0, .int 20, .int 0, .ref m5, .ref fr, .int 100, .int 60, .int 14, .ref m6, .ref m7, .ref m8]) 0 s.heap.size) (cwV 1 hts gX14_lot_X14_isWrong rfl rfl rfl (by decide +kernel) ⟨Nat.le_of_ble_eq_true rfl, Nat.le_of_ble_eq_true rfl⟩) ⟨cIn_blind, va_recv hK hP (ci := 20) (q0 := 0) rfl rfl, cIn_go hK hP hD hE hS hA [0] rfl rfl (by decide) [] rfl⟩ rfl rfl hl.1 rfl (lv_room (Nat.le_of_ble_eq_true rfl)) dX14_lot_59 ⟨Nat.le_of_ble_eq_true rfl, Nat.le_of_ble_eq_true rfl⟩) hS (fun q _ h => hFc q h) hFc (fun r_11 u t H1 locs ht hvm hw hB hz1 hk1 hS => ?_)
        obtain ⟨hP1, hK1, hD1⟩ := hB
        rw [ht] at hP1
        have hK1 := va_K.moved hvm.symm hK1
        obtain ⟨hP, hD⟩ := va_join (wr := [(m1, .inr (5, [.int 0, .ref e, .int 0]))]) (w1 := [(h, .inr (20, [.int 0, .ref m1, .int 0, .int 0, .ref m2, .ref m3, .int 0, .int 4, .int (-40), .ref m4, .int 0, .int 20, .int 0, .ref m5, .ref fr, .int 100, .int 60, .int 14, .ref m6, .ref m7, .ref m8]))]) hP hD [0] [1] rfl rfl (by decide) (by decide) hk1 hFc hP1 hD1
        generalize H1 = H at hP hS ⊢
        have hP : va_P D vwCl [(m1, .inr (5, [.int 0, .ref e, .int 0])), (h, .inr (20, [.int 0, .ref m1, .int 0, .int 0, .ref m2, .ref m3, .int 0, .int 4, .int (-40), .ref m4, .int 0, .int 20, .int 0, .ref m5, .ref fr, .int 100, .int 60, .int 14, .ref m6, .ref m7, .ref m8]))] H := hP
        have hD : va_D A [(m1, .inr (5, [.int 0, .ref e, .int 0])), (h, .inr (20, [.int 0, .ref m1, .int 0, .int 0, .ref m2, .ref m3, .int 0, .int 4, .int (-40), .ref m4, .int 0, .int 20, .int 0, .ref m5, .ref fr, .int 100, .int 60, .int 14, .ref m6, .ref m7, .ref m8]))] := hD
        have hw : r_11 = 0 := hw.trans (by first | rfl | decide +kernel)
        subst hw
        refine lv_if_eq (tgt := 67) hx hb dX14_lot_62 (by decide) (fun c_13 => ?_) (fun c_13 => absurd (show (0 : Int32) = 0 from by decide +kernel) c_13)
        refine lv_aload_n hx hb dX14_lot_67 rfl (lv_at hl 0 rfl) ?_
        refine va_get (D := D) (ci := 20) (v := .ref m1) (C := RX14) (T := TX14) (N := 21) hx hb hts iw_RX14_wsX14_lot hown hK hP 1 rfl rfl 1 (by decide) (hts (.fieldLink RX14 10 "CoatLineModel" "lots" "Ljava/util/List;") (by decide +kernel)) (fun _ h9 => h9) rfl dX14_lot_68 ?_
        refine lv_iconst (v := 3) hx hb dX14_lot_71 (by decide) ?_
        refine va_newa (D := D) (atype := .int) (ty := .int) (N' := 3) (a0 := (3, .inl (fun _ => 0))) hx hb (hts (.arrayClass .int) (by decide +kernel)) rfl hK hP hD hS hA (fun cA => rfl) (by decide) (by decide +kernel) (by decide) (Nat.le_of_ble_eq_true rfl) (Nat.le_of_ble_eq_true rfl) dX14_lot_72 (fun q_14 cA_15 H hK hP hD hS => ?_)
        have hP : va_P D vwCl [(m1, .inr (5, [.int 0, .ref e, .int 0])), (h, .inr (20, [.int 0, .ref m1, .int 0, .int 0, .ref m2, .ref m3, .int 0, .int 4, .int (-40), .ref m4, .int 0, .int 20, .int 0, .ref m5, .ref fr, .int 100, .int 60, .int 14, .ref m6, .ref m7, .ref m8])), (q_14, .inl (cA_15, 3, .inl (fun _ => 0)))] H := hP
        have hD : va_D A [(m1, .inr (5, [.int 0, .ref e, .int 0])), (h, .inr (20, [.int 0, .ref m1, .int 0, .int 0, .ref m2, .ref m3, .int 0, .int 4, .int (-40), .ref m4, .int 0, .int 20, .int 0, .ref m5, .ref fr, .int 100, .int 60, .int 14, .ref m6, .ref m7, .ref m8])), (q_14, .inl (cA_15, 3, .inl (fun _ => 0)))] := hD
        have hK : va_K D vwCl [(cA_15, .int)] s := hK
        refine W.widen (k := 1) (n := 3) (Nat.le_of_ble_eq_true rfl) (Nat.le_of_ble_eq_true rfl) ?_
        refine lv_dup hx hb dX14_lot_74 rfl ?_
        refine lv_iconst (v := 0) hx hb dX14_lot_75 (by decide) ?_
        refine lv_iload_n hx hb dX14_lot_76 rfl (lv_at hl 1 rfl) ?_
        refine va_iast hx hb hK hP hD hS 2 0 rfl rfl (i := 0) (show ¬ ((0 : Int32) < 0 ∨ 3 ≤ (0 : Int32).toNatClampNeg) from by decide +kernel) dX14_lot_77 (fun H locs hP hD hS => ?_)
        have hP : va_P D vwCl [(m1, .inr (5, [.int 0, .ref e, .int 0])), (h, .inr (20, [.int 0, .ref m1, .int 0, .int 0, .ref m2, .ref m3, .int 0, .int 4, .int (-40), .ref m4, .int 0, .int 20, .int 0, .ref m5, .ref fr, .int 100, .int 60, .int 14, .ref m6, .ref m7, .ref m8])), (q_14, .inl (cA_15, 3, .inl (upd (fun _ => 0) (0 : Int32).toNatClampNeg p0)))] H := hP
        have hD : va_D A [(m1, .inr (5, [.int 0, .ref e, .int 0])), (h, .inr (20, [.int 0, .ref m1, .int 0, .int 0, .ref m2, .ref m3, .int 0, .int 4, .int (-40), .ref m4, .int 0, .int 20, .int 0, .ref m5, .ref fr, .int 100, .int 60, .int 14, .ref m6, .ref m7, .ref m8])), (q_14, .inl (cA_15, 3, .inl (upd (fun _ => 0) (0 : Int32).toNatClampNeg p0)))] := hD
        refine lv_dup hx hb dX14_lot_78 rfl ?_
        refine lv_iconst (v := 1) hx hb dX14_lot_79 (by decide) ?_
        refine lv_iload_n hx hb dX14_lot_80 rfl (lv_at hl 2 rfl) ?_
        refine va_iast hx hb hK hP hD hS 2 0 rfl rfl (i := 1) (show ¬ ((1 : Int32) < 0 ∨ 3 ≤ (1 : Int32).toNatClampNeg) from by decide +kernel) dX14_lot_81 (fun H locs hP hD hS => ?_)
        have hP : va_P D vwCl [(m1, .inr (5, [.int 0, .ref e, .int 0])), (h, .inr (20, [.int 0, .ref m1, .int 0, .int 0, .ref m2, .ref m3, .int 0, .int 4, .int (-40), .ref m4, .int 0, .int 20, .int 0, .ref m5, .ref fr, .int 100, .int 60, .int 14, .ref m6, .ref m7, .ref m8])), (q_14, .inl (cA_15, 3, .inl (upd (upd (fun _ => 0) (0 : Int32).toNatClampNeg p0) (1 : Int32).toNatClampNeg p1)))] H := hP
        have hD : va_D A [(m1, .inr (5, [.int 0, .ref e, .int 0])), (h, .inr (20, [.int 0, .ref m1, .int 0, .int 0, .ref m2, .ref m3, .int 0, .int 4, .int (-40), .ref m4, .int 0, .int 20, .int 0, .ref m5, .ref fr, .int 100, .int 60, .int 14, .ref m6, .ref m7, .ref m8])), (q_14, .inl (cA_15, 3, .inl (upd (upd (fun _ => 0) (0 : Int32).toNatClampNeg p0) (1 : Int32).toNatClampNeg p1)))] := hD
        refine lv_dup hx hb dX14_lot_82 rfl ?_
        refine lv_iconst (v := 2) hx hb dX14_lot_83 (by decide) ?_
        refine lv_iload_n hx hb dX14_lot_84 rfl (lv_at hl 3 rfl) ?_
        refine va_iast hx hb hK hP hD hS 2 0 rfl rfl (i := 2) (show ¬ ((2 : Int32) < 0 ∨ 3 ≤ (2 : Int32).toNatClampNeg) from by decide +kernel) dX14_lot_85 (fun H locs hP hD hS => ?_)
        have hP : va_P D vwCl [(m1, .inr (5, [.int 0, .ref e, .int 0])), (h, .inr (20, [.int 0, .ref m1, .int 0, .int 0, .ref m2, .ref m3, .int 0, .int 4, .int (-40), .ref m4, .int 0, .int 20, .int 0, .ref m5, .ref fr, .int 100, .int 60, .int 14, .ref m6, .ref m7, .ref m8])), (q_14, .inl (cA_15, 3, .inl (upd (upd (upd (fun _ => 0) (0 : Int32).toNatClampNeg p0) (1 : Int32).toNatClampNeg p1) (2 : Int32).toNatClampNeg p2)))] H := hP
        have hD : va_D A [(m1, .inr (5, [.int 0, .ref e, .int 0])), (h, .inr (20, [.int 0, .ref m1, .int 0, .int 0, .ref m2, .ref m3, .int 0, .int 4, .int (-40), .ref m4, .int 0, .int 20, .int 0, .ref m5, .ref fr, .int 100, .int 60, .int 14, .ref m6, .ref m7, .ref m8])), (q_14, .inl (cA_15, 3, .inl (upd (upd (upd (fun _ => 0) (0 : Int32).toNatClampNeg p0) (1 : Int32).toNatClampNeg p1) (2 : Int32).toNatClampNeg p2)))] := hD
        have hFc := va_free (wc := [(m1, .inr (5, [.int 0, .ref e, .int 0]))]) hD hS hA [0] rfl
        refine va_callFi (va_runF (As := [.ref q_14]) (rest := []) (hK.1 5 _ rfl).2 ⟨hx, hb, hml, hown, hts⟩ (c_Jx4a65c_add_9ea2d l hst D e m1 0 q_14 H.size) (va_cwF 1 hts gX14_lot_Jx4a65c_add_9ea2d_f77Jx4a65c rfl rfl rfl (ev_f hE (q := (RJx4a65c, ⟨"java/util/List", "add", "(Ljava/lang/Object;)Z"⟩, yJx4a65c_add_9ea2d)) (by decide +kernel)) (by decide +kernel) ⟨Nat.le_of_ble_eq_true rfl, Nat.le_of_ble_eq_true rfl⟩) ⟨cAny_blind, va_recv hK hP (ci := 5) (q0 := 0) rfl rfl, cAny_go hK hP hD hE hS hA [0] rfl rfl (by decide) [] rfl (any_ints hK hP (q := 2) (t := 0) rfl rfl (ev_w hE (by decide +kernel))) (hP 2 _ rfl).lt (fun h9 => absurd (hD.1 2 0 _ _ rfl rfl h9) (by decide))⟩ rfl rfl hl.1 rfl (lv_room (Nat.le_of_ble_eq_true rfl)) dX14_lot_86 ⟨Nat.le_of_ble_eq_true rfl, Nat.le_of_ble_eq_true rfl⟩) hS (fun q _ h => hFc q h) hFc (fun r_16 u t H1 locs ht hvm hw hB hz1 hk1 hS => ?_)
        obtain ⟨q_18, hP1, hK1, hD1⟩ := hB
        rw [ht] at hP1
        have hK1 := va_K.moved hvm.symm hK1
        obtain ⟨hP, hD⟩ := va_join (wr := [(h, .inr (20, [.int 0, .ref m1, .int 0, .int 0, .ref m2, .ref m3, .int 0, .int 4, .int (-40), .ref m4, .int 0, .int 20, .int 0, .ref m5, .ref fr, .int 100, .int 60, .int 14, .ref m6, .ref m7, .ref m8])), (q_14, .inl (cA_15, 3, .inl (upd (upd (upd (fun _ => 0) (0 : Int32).toNatClampNeg p0) (1 : Int32).toNatClampNeg p1) (2 : Int32).toNatClampNeg p2)))]) (w1 := [(m1, .inr (5, [.int (0 + 1), .ref q_18, .int 1]))]) hP hD [0] [1, 2] rfl rfl (by decide) (by decide) hk1 hFc hP1 hD1
        generalize H1 = H at hP hS ⊢
        have hP : va_P D vwCl [(h, .inr (20, [.int 0, .ref m1, .int 0, .int 0, .ref m2, .ref m3, .int 0, .int 4, .int (-40), .ref m4, .int 0, .int 20, .int 0, .ref m5, .ref fr, .int 100, .int 60, .int 14, .ref m6, .ref m7, .ref m8])), (q_14, .inl (cA_15, 3, .inl (upd (upd (upd (fun _ => 0) (0 : Int32).toNatClampNeg p0) (1 : Int32).toNatClampNeg p1) (2 : Int32).toNatClampNeg p2))), (m1, .inr (5, [.int (0 + 1), .ref q_18, .int 1]))] H := hP
        have hD : va_D A [(h, .inr (20, [.int 0, .ref m1, .int 0, .int 0, .ref m2, .ref m3, .int 0, .int 4, .int (-40), .ref m4, .int 0, .int 20, .int 0, .ref m5, .ref fr, .int 100, .int 60, .int 14, .ref m6, .ref m7, .ref m8])), (q_14, .inl (cA_15, 3, .inl (upd (upd (upd (fun _ => 0) (0 : Int32).toNatClampNeg p0) (1 : Int32).toNatClampNeg p1) (2 : Int32).toNatClampNeg p2))), (m1, .inr (5, [.int (0 + 1), .ref q_18, .int 1]))] := hD
        refine W.widen (k := 2) (n := 13) (Nat.le_of_ble_eq_true rfl) (Nat.le_of_ble_eq_true rfl) ?_
        have hw : r_16 = 1 := hw.trans (by first | rfl | decide +kernel)
        subst hw
        refine lv_pop hx hb dX14_lot_91 rfl ?_
        refine lv_aload_n hx hb dX14_lot_92 rfl (lv_at hl 0 rfl) ?_
        refine va_get (D := D) (ci := 20) (v := .ref m1) (C := RX14) (T := TX14) (N := 21) hx hb hts iw_RX14_wsX14_lot hown hK hP 0 rfl rfl 1 (by decide) (hts (.fieldLink RX14 10 "CoatLineModel" "lots" "Ljava/util/List;") (by decide +kernel)) (fun _ h9 => h9) rfl dX14_lot_93 ?_
        refine va_csFi (va_runF (As := []) (rest := []) (hK.1 5 _ rfl).2 ⟨hx, hb, hml, hown, hts⟩ (c_Jx4a65c_size_8abf5 l hst D e m1 (0 + 1) q_18 1 H.size) (va_cwF 0 hts gX14_lot_Jx4a65c_size_8abf5_f63Jx4a65c rfl rfl rfl (ev_f hE (q := (RJx4a65c, ⟨"java/util/List", "size", "()I"⟩, yJx4a65c_size_8abf5)) (by decide +kernel)) (by decide +kernel) ⟨Nat.le_of_ble_eq_true rfl, Nat.le_of_ble_eq_true rfl⟩) ⟨cIn_blind, va_recv hK hP (ci := 5) (q0 := 2) rfl rfl, cIn_go hK hP hD hE hS hA [2] rfl rfl (by decide) [] rfl⟩ rfl rfl hl.1 rfl (lv_room (Nat.le_of_ble_eq_true rfl)) dX14_lot_96 ⟨Nat.le_of_ble_eq_true rfl, Nat.le_of_ble_eq_true rfl⟩) (fun r_19 hw => ?_)
        have hw : r_19 = 1 := hw.trans (by first | rfl | decide +kernel)
        subst hw
        refine lv_iconst (v := 1) hx hb dX14_lot_101 (by decide) ?_
        refine lv_isub hx hb dX14_lot_102 ?_
        refine lv_topi (fun z_20 ez_20 => ?_)
        obtain rfl : z_20 = 0 := ez_20.trans (by decide +kernel)
        exact W.iret (v := 0) hx hb hr (fun t ht hW => ⟨⟨0, ((0, [.ref m1, .int 0, .int 0, .ref m2, .ref m3, .int 0, .int 4, .int (-40), .ref m4, .int 0, .int 20, .int 0, .ref m5, .ref fr, .int 100, .int 60, .int 14, .ref m6, .ref m7, .ref m8]) : Int32 × List Value), rfl, ⟨(by unfold k_X14_lot; rw [if_pos c_1, if_neg c_3, if_neg c_8]), (by unfold v_X14_lot; rw [if_pos c_1, if_neg c_3, if_neg c_8])⟩, ⟨by rw [ht]; exact hP.sub [0] rfl, va_K.moved hW.alike (hK.sub [] rfl), hD.sub [0] (by decide) rfl⟩⟩, hS.F ht⟩) hS.2.2 dX14_lot_103
      · refine lv_iconst (v := 1) hx hb dX14_lot_36 (by decide) ?_
        refine lv_goto (tgt := 59) hx hb dX14_lot_37 (by decide) ?_
        have hFc := va_free (wc := [(h, .inr (20, [.int 0, .ref m1, .int 0, .int 0, .ref m2, .ref m3, .int 0, .int 4, .int (-40), .ref m4, .int 0, .int 20, .int 0, .ref m5, .ref fr, .int 100, .int 60, .int 14, .ref m6, .ref m7, .ref m8]))]) hD hS hA [0] rfl
        refine va_calli (va_runV (As := [.int 1]) (rest := []) ⟨hx, hb, hml, hown, hts⟩ (c_X14_isWrong l hst D e h 0 ([.ref m1, .int 0, .int 0, .ref m2, .ref m3, .int 0, .int 4, .int (-40), .ref m4, .int 0, .int 20, .int 0, .ref m5, .ref fr, .int 100, .int 60, .int 14, .ref m6, .ref m7, .ref m8]) 1 s.heap.size) (cwV 1 hts gX14_lot_X14_isWrong rfl rfl rfl (by decide +kernel) ⟨Nat.le_of_ble_eq_true rfl, Nat.le_of_ble_eq_true rfl⟩) ⟨cIn_blind, va_recv hK hP (ci := 20) (q0 := 0) rfl rfl, cIn_go hK hP hD hE hS hA [0] rfl rfl (by decide) [] rfl⟩ rfl rfl hl.1 rfl (lv_room (Nat.le_of_ble_eq_true rfl)) dX14_lot_59 ⟨Nat.le_of_ble_eq_true rfl, Nat.le_of_ble_eq_true rfl⟩) hS (fun q _ h => hFc q h) hFc (fun r_21 u t H1 locs ht hvm hw hB hz1 hk1 hS => ?_)
        obtain ⟨hP1, hK1, hD1⟩ := hB
        rw [ht] at hP1
        have hK1 := va_K.moved hvm.symm hK1
        obtain ⟨hP, hD⟩ := va_join (wr := [(m1, .inr (5, [.int 0, .ref e, .int 0]))]) (w1 := [(h, .inr (20, [.int 1, .ref m1, .int 0, .int 0, .ref m2, .ref m3, .int 0, .int 4, .int (-40), .ref m4, .int 0, .int 20, .int 0, .ref m5, .ref fr, .int 100, .int 60, .int 14, .ref m6, .ref m7, .ref m8]))]) hP hD [0] [1] rfl rfl (by decide) (by decide) hk1 hFc hP1 hD1
        generalize H1 = H at hP hS ⊢
        have hP : va_P D vwCl [(m1, .inr (5, [.int 0, .ref e, .int 0])), (h, .inr (20, [.int 1, .ref m1, .int 0, .int 0, .ref m2, .ref m3, .int 0, .int 4, .int (-40), .ref m4, .int 0, .int 20, .int 0, .ref m5, .ref fr, .int 100, .int 60, .int 14, .ref m6, .ref m7, .ref m8]))] H := hP
        have hD : va_D A [(m1, .inr (5, [.int 0, .ref e, .int 0])), (h, .inr (20, [.int 1, .ref m1, .int 0, .int 0, .ref m2, .ref m3, .int 0, .int 4, .int (-40), .ref m4, .int 0, .int 20, .int 0, .ref m5, .ref fr, .int 100, .int 60, .int 14, .ref m6, .ref m7, .ref m8]))] := hD
        have hw : r_21 = 1 := hw.trans (by first | rfl | decide +kernel)
        subst hw
        refine lv_if_eq (tgt := 67) hx hb dX14_lot_62 (by decide) (fun c_23 => absurd c_23 (show ¬ ((1 : Int32) = 0) from by decide +kernel)) (fun c_23 => ?_)
        refine lv_iconst (v := 0) hx hb dX14_lot_65 (by decide) ?_
        refine W.widen (k := 2) (n := 13) (Nat.le_of_ble_eq_true rfl) (Nat.le_of_ble_eq_true rfl) ?_
        exact W.iret (v := 0) hx hb hr (fun t ht hW => ⟨⟨0, ((1, [.ref m1, .int 0, .int 0, .ref m2, .ref m3, .int 0, .int 4, .int (-40), .ref m4, .int 0, .int 20, .int 0, .ref m5, .ref fr, .int 100, .int 60, .int 14, .ref m6, .ref m7, .ref m8]) : Int32 × List Value), rfl, ⟨(by unfold k_X14_lot; rw [if_pos c_1, if_neg c_3, if_pos c_8]), (by unfold v_X14_lot; rw [if_pos c_1, if_neg c_3, if_pos c_8])⟩, ⟨by rw [ht]; exact hP.sub [1] rfl, va_K.moved hW.alike (hK.sub [] rfl), hD.sub [1] (by decide) rfl⟩⟩, hS.F ht⟩) hS.2.2 dX14_lot_66
  · refine lv_iload_n hx hb dX14_lot_7 rfl (lv_at hl 1 rfl) ?_
    refine lv_bipush (v := 110) hx hb dX14_lot_8 (by decide) ?_
    refine lv_icmp_ne (tgt := 36) hx hb dX14_lot_10 (by decide) (fun c_24 => ?_) (fun c_24 => ?_)
    · refine lv_iconst (v := 1) hx hb dX14_lot_36 (by decide) ?_
      refine lv_goto (tgt := 59) hx hb dX14_lot_37 (by decide) ?_
      have hFc := va_free (wc := [(h, .inr (20, [.int 0, .ref m1, .int 0, .int 0, .ref m2, .ref m3, .int 0, .int 4, .int (-40), .ref m4, .int 0, .int 20, .int 0, .ref m5, .ref fr, .int 100, .int 60, .int 14, .ref m6, .ref m7, .ref m8]))]) hD hS hA [0] rfl
      refine va_calli (va_runV (As := [.int 1]) (rest := []) ⟨hx, hb, hml, hown, hts⟩ (c_X14_isWrong l hst D e h 0 ([.ref m1, .int 0, .int 0, .ref m2, .ref m3, .int 0, .int 4, .int (-40), .ref m4, .int 0, .int 20, .int 0, .ref m5, .ref fr, .int 100, .int 60, .int 14, .ref m6, .ref m7, .ref m8]) 1 s.heap.size) (cwV 1 hts gX14_lot_X14_isWrong rfl rfl rfl (by decide +kernel) ⟨Nat.le_of_ble_eq_true rfl, Nat.le_of_ble_eq_true rfl⟩) ⟨cIn_blind, va_recv hK hP (ci := 20) (q0 := 0) rfl rfl, cIn_go hK hP hD hE hS hA [0] rfl rfl (by decide) [] rfl⟩ rfl rfl hl.1 rfl (lv_room (Nat.le_of_ble_eq_true rfl)) dX14_lot_59 ⟨Nat.le_of_ble_eq_true rfl, Nat.le_of_ble_eq_true rfl⟩) hS (fun q _ h => hFc q h) hFc (fun r_25 u t H1 locs ht hvm hw hB hz1 hk1 hS => ?_)
      obtain ⟨hP1, hK1, hD1⟩ := hB
      rw [ht] at hP1
      have hK1 := va_K.moved hvm.symm hK1
      obtain ⟨hP, hD⟩ := va_join (wr := [(m1, .inr (5, [.int 0, .ref e, .int 0]))]) (w1 := [(h, .inr (20, [.int 1, .ref m1, .int 0, .int 0, .ref m2, .ref m3, .int 0, .int 4, .int (-40), .ref m4, .int 0, .int 20, .int 0, .ref m5, .ref fr, .int 100, .int 60, .int 14, .ref m6, .ref m7, .ref m8]))]) hP hD [0] [1] rfl rfl (by decide) (by decide) hk1 hFc hP1 hD1
      generalize H1 = H at hP hS ⊢
      have hP : va_P D vwCl [(m1, .inr (5, [.int 0, .ref e, .int 0])), (h, .inr (20, [.int 1, .ref m1, .int 0, .int 0, .ref m2, .ref m3, .int 0, .int 4, .int (-40), .ref m4, .int 0, .int 20, .int 0, .ref m5, .ref fr, .int 100, .int 60, .int 14, .ref m6, .ref m7, .ref m8]))] H := hP
      have hD : va_D A [(m1, .inr (5, [.int 0, .ref e, .int 0])), (h, .inr (20, [.int 1, .ref m1, .int 0, .int 0, .ref m2, .ref m3, .int 0, .int 4, .int (-40), .ref m4, .int 0, .int 20, .int 0, .ref m5, .ref fr, .int 100, .int 60, .int 14, .ref m6, .ref m7, .ref m8]))] := hD
      have hw : r_25 = 1 := hw.trans (by first | rfl | decide +kernel)
      subst hw
      refine lv_if_eq (tgt := 67) hx hb dX14_lot_62 (by decide) (fun c_27 => absurd c_27 (show ¬ ((1 : Int32) = 0) from by decide +kernel)) (fun c_27 => ?_)
      refine lv_iconst (v := 0) hx hb dX14_lot_65 (by decide) ?_
      refine W.widen (k := 2) (n := 13) (Nat.le_of_ble_eq_true rfl) (Nat.le_of_ble_eq_true rfl) ?_
      exact W.iret (v := 0) hx hb hr (fun t ht hW => ⟨⟨0, ((1, [.ref m1, .int 0, .int 0, .ref m2, .ref m3, .int 0, .int 4, .int (-40), .ref m4, .int 0, .int 20, .int 0, .ref m5, .ref fr, .int 100, .int 60, .int 14, .ref m6, .ref m7, .ref m8]) : Int32 × List Value), rfl, ⟨(by unfold k_X14_lot; rw [if_neg c_1, if_neg c_24]), (by unfold v_X14_lot; rw [if_neg c_1, if_neg c_24])⟩, ⟨by rw [ht]; exact hP.sub [1] rfl, va_K.moved hW.alike (hK.sub [] rfl), hD.sub [1] (by decide) rfl⟩⟩, hS.F ht⟩) hS.2.2 dX14_lot_66
    · refine lv_iload_n hx hb dX14_lot_13 rfl (lv_at hl 2 rfl) ?_
      refine lv_bipush (v := 50) hx hb dX14_lot_14 (by decide) ?_
      refine lv_sipush (v := 150) hx hb dX14_lot_16 (by decide) ?_
      refine vp_callSi (va_Run.run (va_runS (As := [.int p1, .int 50, .int 150]) (rest := [.ref h]) ⟨hx, hb, hml, hown, hts⟩ (c_X14_isBetween l hst D e p1 50 150 s.heap.size) (va_cwS 3 hts gX14_lot_X14_isBetween rfl rfl rfl (by decide +kernel) ⟨Nat.le_of_ble_eq_true rfl, Nat.le_of_ble_eq_true rfl⟩) ⟨cIn_blind, cIn_go hK hP hD hE hS hA [] rfl rfl (by decide) [] rfl⟩ rfl rfl hl.1 rfl (lv_room (Nat.le_of_ble_eq_true rfl)) dX14_lot_19 ⟨Nat.le_of_ble_eq_true rfl, Nat.le_of_ble_eq_true rfl⟩)) (fun r_28 hw => ?_)
      subst hw
      refine lv_if_eq (tgt := 36) hx hb dX14_lot_22 (by decide) (fun c_29 => ?_) (fun c_29 => ?_)
      · refine lv_iconst (v := 1) hx hb dX14_lot_36 (by decide) ?_
        refine lv_goto (tgt := 59) hx hb dX14_lot_37 (by decide) ?_
        have hFc := va_free (wc := [(h, .inr (20, [.int 0, .ref m1, .int 0, .int 0, .ref m2, .ref m3, .int 0, .int 4, .int (-40), .ref m4, .int 0, .int 20, .int 0, .ref m5, .ref fr, .int 100, .int 60, .int 14, .ref m6, .ref m7, .ref m8]))]) hD hS hA [0] rfl
        refine va_calli (va_runV (As := [.int 1]) (rest := []) ⟨hx, hb, hml, hown, hts⟩ (c_X14_isWrong l hst D e h 0 ([.ref m1, .int 0, .int 0, .ref m2, .ref m3, .int 0, .int 4, .int (-40), .ref m4, .int 0, .int 20, .int 0, .ref m5, .ref fr, .int 100, .int 60, .int 14, .ref m6, .ref m7, .ref m8]) 1 s.heap.size) (cwV 1 hts gX14_lot_X14_isWrong rfl rfl rfl (by decide +kernel) ⟨Nat.le_of_ble_eq_true rfl, Nat.le_of_ble_eq_true rfl⟩) ⟨cIn_blind, va_recv hK hP (ci := 20) (q0 := 0) rfl rfl, cIn_go hK hP hD hE hS hA [0] rfl rfl (by decide) [] rfl⟩ rfl rfl hl.1 rfl (lv_room (Nat.le_of_ble_eq_true rfl)) dX14_lot_59 ⟨Nat.le_of_ble_eq_true rfl, Nat.le_of_ble_eq_true rfl⟩) hS (fun q _ h => hFc q h) hFc (fun r_30 u t H1 locs ht hvm hw hB hz1 hk1 hS => ?_)
        obtain ⟨hP1, hK1, hD1⟩ := hB
        rw [ht] at hP1
        have hK1 := va_K.moved hvm.symm hK1
        obtain ⟨hP, hD⟩ := va_join (wr := [(m1, .inr (5, [.int 0, .ref e, .int 0]))]) (w1 := [(h, .inr (20, [.int 1, .ref m1, .int 0, .int 0, .ref m2, .ref m3, .int 0, .int 4, .int (-40), .ref m4, .int 0, .int 20, .int 0, .ref m5, .ref fr, .int 100, .int 60, .int 14, .ref m6, .ref m7, .ref m8]))]) hP hD [0] [1] rfl rfl (by decide) (by decide) hk1 hFc hP1 hD1
        generalize H1 = H at hP hS ⊢
        have hP : va_P D vwCl [(m1, .inr (5, [.int 0, .ref e, .int 0])), (h, .inr (20, [.int 1, .ref m1, .int 0, .int 0, .ref m2, .ref m3, .int 0, .int 4, .int (-40), .ref m4, .int 0, .int 20, .int 0, .ref m5, .ref fr, .int 100, .int 60, .int 14, .ref m6, .ref m7, .ref m8]))] H := hP
        have hD : va_D A [(m1, .inr (5, [.int 0, .ref e, .int 0])), (h, .inr (20, [.int 1, .ref m1, .int 0, .int 0, .ref m2, .ref m3, .int 0, .int 4, .int (-40), .ref m4, .int 0, .int 20, .int 0, .ref m5, .ref fr, .int 100, .int 60, .int 14, .ref m6, .ref m7, .ref m8]))] := hD
        have hw : r_30 = 1 := hw.trans (by first | rfl | decide +kernel)
        subst hw
        refine lv_if_eq (tgt := 67) hx hb dX14_lot_62 (by decide) (fun c_32 => absurd c_32 (show ¬ ((1 : Int32) = 0) from by decide +kernel)) (fun c_32 => ?_)
        refine lv_iconst (v := 0) hx hb dX14_lot_65 (by decide) ?_
        refine W.widen (k := 2) (n := 13) (Nat.le_of_ble_eq_true rfl) (Nat.le_of_ble_eq_true rfl) ?_
        exact W.iret (v := 0) hx hb hr (fun t ht hW => ⟨⟨0, ((1, [.ref m1, .int 0, .int 0, .ref m2, .ref m3, .int 0, .int 4, .int (-40), .ref m4, .int 0, .int 20, .int 0, .ref m5, .ref fr, .int 100, .int 60, .int 14, .ref m6, .ref m7, .ref m8]) : Int32 × List Value), rfl, ⟨(by unfold k_X14_lot; rw [if_neg c_1, if_pos c_24, if_pos c_29]), (by unfold v_X14_lot; rw [if_neg c_1, if_pos c_24, if_pos c_29])⟩, ⟨by rw [ht]; exact hP.sub [1] rfl, va_K.moved hW.alike (hK.sub [] rfl), hD.sub [1] (by decide) rfl⟩⟩, hS.F ht⟩) hS.2.2 dX14_lot_66
      · refine lv_iload_n hx hb dX14_lot_25 rfl (lv_at hl 3 rfl) ?_
        refine lv_iconst (v := 1) hx hb dX14_lot_26 (by decide) ?_
        refine lv_sipush (v := 999) hx hb dX14_lot_27 (by decide) ?_
        refine vp_callSi (va_Run.run (va_runS (As := [.int p2, .int 1, .int 999]) (rest := [.ref h]) ⟨hx, hb, hml, hown, hts⟩ (c_X14_isBetween l hst D e p2 1 999 s.heap.size) (va_cwS 3 hts gX14_lot_X14_isBetween rfl rfl rfl (by decide +kernel) ⟨Nat.le_of_ble_eq_true rfl, Nat.le_of_ble_eq_true rfl⟩) ⟨cIn_blind, cIn_go hK hP hD hE hS hA [] rfl rfl (by decide) [] rfl⟩ rfl rfl hl.1 rfl (lv_room (Nat.le_of_ble_eq_true rfl)) dX14_lot_30 ⟨Nat.le_of_ble_eq_true rfl, Nat.le_of_ble_eq_true rfl⟩)) (fun r_33 hw => ?_)
        subst hw
        refine lv_if_ne (tgt := 40) hx hb dX14_lot_33 (by decide) (fun c_34 => ?_) (fun c_34 => ?_)
        · refine lv_aload_n hx hb dX14_lot_40 rfl (lv_at hl 0 rfl) ?_
          refine va_get (D := D) (ci := 20) (v := .ref m1) (C := RX14) (T := TX14) (N := 21) hx hb hts iw_RX14_wsX14_lot hown hK hP 0 rfl rfl 1 (by decide) (hts (.fieldLink RX14 10 "CoatLineModel" "lots" "Ljava/util/List;") (by decide +kernel)) (fun _ h9 => h9) rfl dX14_lot_41 ?_
          refine va_csFi (va_runF (As := []) (rest := [.ref h]) (hK.1 5 _ rfl).2 ⟨hx, hb, hml, hown, hts⟩ (c_Jx4a65c_size_8abf5 l hst D e m1 0 e 0 s.heap.size) (va_cwF 0 hts gX14_lot_Jx4a65c_size_8abf5_f63Jx4a65c rfl rfl rfl (ev_f hE (q := (RJx4a65c, ⟨"java/util/List", "size", "()I"⟩, yJx4a65c_size_8abf5)) (by decide +kernel)) (by decide +kernel) ⟨Nat.le_of_ble_eq_true rfl, Nat.le_of_ble_eq_true rfl⟩) ⟨cIn_blind, va_recv hK hP (ci := 5) (q0 := 1) rfl rfl, cIn_go hK hP hD hE hS hA [1] rfl rfl (by decide) [] rfl⟩ rfl rfl hl.1 rfl (lv_room (Nat.le_of_ble_eq_true rfl)) dX14_lot_44 ⟨Nat.le_of_ble_eq_true rfl, Nat.le_of_ble_eq_true rfl⟩) (fun r_35 hw => ?_)
          have hw : r_35 = 0 := hw.trans (by first | rfl | decide +kernel)
          subst hw
          refine lv_bipush (v := 8) hx hb dX14_lot_49 (by decide) ?_
          refine lv_icmp_ne (tgt := 58) hx hb dX14_lot_51 (by decide) (fun c_36 => ?_) (fun c_36 => absurd c_36 (show ¬ ((0 : Int32) = 8) from by decide +kernel))
          refine lv_iconst (v := 0) hx hb dX14_lot_58 (by decide) ?_
          have hFc := va_free (wc := [(h, .inr (20, [.int 0, .ref m1, .int 0, .int 0, .ref m2, .ref m3, .int 0, .int 4, .int (-40), .ref m4, .int 0, .int 20, .int 0, .ref m5, .ref fr, .int 100, .int 60, .int 14, .ref m6, .ref m7, .ref m8]))]) hD hS hA [0] rfl
          refine va_calli (va_runV (As := [.int 0]) (rest := []) ⟨hx, hb, hml, hown, hts⟩ (c_X14_isWrong l hst D e h 0 ([.ref m1, .int 0, .int 0, .ref m2, .ref m3, .int 0, .int 4, .int (-40), .ref m4, .int 0, .int 20, .int 0, .ref m5, .ref fr, .int 100, .int 60, .int 14, .ref m6, .ref m7, .ref m8]) 0 s.heap.size) (cwV 1 hts gX14_lot_X14_isWrong rfl rfl rfl (by decide +kernel) ⟨Nat.le_of_ble_eq_true rfl, Nat.le_of_ble_eq_true rfl⟩) ⟨cIn_blind, va_recv hK hP (ci := 20) (q0 := 0) rfl rfl, cIn_go hK hP hD hE hS hA [0] rfl rfl (by decide) [] rfl⟩ rfl rfl hl.1 rfl (lv_room (Nat.le_of_ble_eq_true rfl)) dX14_lot_59 ⟨Nat.le_of_ble_eq_true rfl, Nat.le_of_ble_eq_true rfl⟩) hS (fun q _ h => hFc q h) hFc (fun r_37 u t H1 locs ht hvm hw hB hz1 hk1 hS => ?_)
          obtain ⟨hP1, hK1, hD1⟩ := hB
          rw [ht] at hP1
          have hK1 := va_K.moved hvm.symm hK1
          obtain ⟨hP, hD⟩ := va_join (wr := [(m1, .inr (5, [.int 0, .ref e, .int 0]))]) (w1 := [(h, .inr (20, [.int 0, .ref m1, .int 0, .int 0, .ref m2, .ref m3, .int 0, .int 4, .int (-40), .ref m4, .int 0, .int 20, .int 0, .ref m5, .ref fr, .int 100, .int 60, .int 14, .ref m6, .ref m7, .ref m8]))]) hP hD [0] [1] rfl rfl (by decide) (by decide) hk1 hFc hP1 hD1
          generalize H1 = H at hP hS ⊢
          have hP : va_P D vwCl [(m1, .inr (5, [.int 0, .ref e, .int 0])), (h, .inr (20, [.int 0, .ref m1, .int 0, .int 0, .ref m2, .ref m3, .int 0, .int 4, .int (-40), .ref m4, .int 0, .int 20, .int 0, .ref m5, .ref fr, .int 100, .int 60, .int 14, .ref m6, .ref m7, .ref m8]))] H := hP
          have hD : va_D A [(m1, .inr (5, [.int 0, .ref e, .int 0])), (h, .inr (20, [.int 0, .ref m1, .int 0, .int 0, .ref m2, .ref m3, .int 0, .int 4, .int (-40), .ref m4, .int 0, .int 20, .int 0, .ref m5, .ref fr, .int 100, .int 60, .int 14, .ref m6, .ref m7, .ref m8]))] := hD
          have hw : r_37 = 0 := hw.trans (by first | rfl | decide +kernel)
          subst hw
          refine lv_if_eq (tgt := 67) hx hb dX14_lot_62 (by decide) (fun c_39 => ?_) (fun c_39 => absurd (show (0 : Int32) = 0 from by decide +kernel) c_39)
          refine lv_aload_n hx hb dX14_lot_67 rfl (lv_at hl 0 rfl) ?_
          refine va_get (D := D) (ci := 20) (v := .ref m1) (C := RX14) (T := TX14) (N := 21) hx hb hts iw_RX14_wsX14_lot hown hK hP 1 rfl rfl 1 (by decide) (hts (.fieldLink RX14 10 "CoatLineModel" "lots" "Ljava/util/List;") (by decide +kernel)) (fun _ h9 => h9) rfl dX14_lot_68 ?_
          refine lv_iconst (v := 3) hx hb dX14_lot_71 (by decide) ?_
          refine va_newa (D := D) (atype := .int) (ty := .int) (N' := 3) (a0 := (3, .inl (fun _ => 0))) hx hb (hts (.arrayClass .int) (by decide +kernel)) rfl hK hP hD hS hA (fun cA => rfl) (by decide) (by decide +kernel) (by decide) (Nat.le_of_ble_eq_true rfl) (Nat.le_of_ble_eq_true rfl) dX14_lot_72 (fun q_40 cA_41 H hK hP hD hS => ?_)
          have hP : va_P D vwCl [(m1, .inr (5, [.int 0, .ref e, .int 0])), (h, .inr (20, [.int 0, .ref m1, .int 0, .int 0, .ref m2, .ref m3, .int 0, .int 4, .int (-40), .ref m4, .int 0, .int 20, .int 0, .ref m5, .ref fr, .int 100, .int 60, .int 14, .ref m6, .ref m7, .ref m8])), (q_40, .inl (cA_41, 3, .inl (fun _ => 0)))] H := hP
          have hD : va_D A [(m1, .inr (5, [.int 0, .ref e, .int 0])), (h, .inr (20, [.int 0, .ref m1, .int 0, .int 0, .ref m2, .ref m3, .int 0, .int 4, .int (-40), .ref m4, .int 0, .int 20, .int 0, .ref m5, .ref fr, .int 100, .int 60, .int 14, .ref m6, .ref m7, .ref m8])), (q_40, .inl (cA_41, 3, .inl (fun _ => 0)))] := hD
          have hK : va_K D vwCl [(cA_41, .int)] s := hK
          refine W.widen (k := 1) (n := 3) (Nat.le_of_ble_eq_true rfl) (Nat.le_of_ble_eq_true rfl) ?_
          refine lv_dup hx hb dX14_lot_74 rfl ?_
          refine lv_iconst (v := 0) hx hb dX14_lot_75 (by decide) ?_
          refine lv_iload_n hx hb dX14_lot_76 rfl (lv_at hl 1 rfl) ?_
          refine va_iast hx hb hK hP hD hS 2 0 rfl rfl (i := 0) (show ¬ ((0 : Int32) < 0 ∨ 3 ≤ (0 : Int32).toNatClampNeg) from by decide +kernel) dX14_lot_77 (fun H locs hP hD hS => ?_)
          have hP : va_P D vwCl [(m1, .inr (5, [.int 0, .ref e, .int 0])), (h, .inr (20, [.int 0, .ref m1, .int 0, .int 0, .ref m2, .ref m3, .int 0, .int 4, .int (-40), .ref m4, .int 0, .int 20, .int 0, .ref m5, .ref fr, .int 100, .int 60, .int 14, .ref m6, .ref m7, .ref m8])), (q_40, .inl (cA_41, 3, .inl (upd (fun _ => 0) (0 : Int32).toNatClampNeg p0)))] H := hP
          have hD : va_D A [(m1, .inr (5, [.int 0, .ref e, .int 0])), (h, .inr (20, [.int 0, .ref m1, .int 0, .int 0, .ref m2, .ref m3, .int 0, .int 4, .int (-40), .ref m4, .int 0, .int 20, .int 0, .ref m5, .ref fr, .int 100, .int 60, .int 14, .ref m6, .ref m7, .ref m8])), (q_40, .inl (cA_41, 3, .inl (upd (fun _ => 0) (0 : Int32).toNatClampNeg p0)))] := hD
          refine lv_dup hx hb dX14_lot_78 rfl ?_
          refine lv_iconst (v := 1) hx hb dX14_lot_79 (by decide) ?_
          refine lv_iload_n hx hb dX14_lot_80 rfl (lv_at hl 2 rfl) ?_
          refine va_iast hx hb hK hP hD hS 2 0 rfl rfl (i := 1) (show ¬ ((1 : Int32) < 0 ∨ 3 ≤ (1 : Int32).toNatClampNeg) from by decide +kernel) dX14_lot_81 (fun H locs hP hD hS => ?_)
          have hP : va_P D vwCl [(m1, .inr (5, [.int 0, .ref e, .int 0])), (h, .inr (20, [.int 0, .ref m1, .int 0, .int 0, .ref m2, .ref m3, .int 0, .int 4, .int (-40), .ref m4, .int 0, .int 20, .int 0, .ref m5, .ref fr, .int 100, .int 60, .int 14, .ref m6, .ref m7, .ref m8])), (q_40, .inl (cA_41, 3, .inl (upd (upd (fun _ => 0) (0 : Int32).toNatClampNeg p0) (1 : Int32).toNatClampNeg p1)))] H := hP
          have hD : va_D A [(m1, .inr (5, [.int 0, .ref e, .int 0])), (h, .inr (20, [.int 0, .ref m1, .int 0, .int 0, .ref m2, .ref m3, .int 0, .int 4, .int (-40), .ref m4, .int 0, .int 20, .int 0, .ref m5, .ref fr, .int 100, .int 60, .int 14, .ref m6, .ref m7, .ref m8])), (q_40, .inl (cA_41, 3, .inl (upd (upd (fun _ => 0) (0 : Int32).toNatClampNeg p0) (1 : Int32).toNatClampNeg p1)))] := hD
          refine lv_dup hx hb dX14_lot_82 rfl ?_
          refine lv_iconst (v := 2) hx hb dX14_lot_83 (by decide) ?_
          refine lv_iload_n hx hb dX14_lot_84 rfl (lv_at hl 3 rfl) ?_
          refine va_iast hx hb hK hP hD hS 2 0 rfl rfl (i := 2) (show ¬ ((2 : Int32) < 0 ∨ 3 ≤ (2 : Int32).toNatClampNeg) from by decide +kernel) dX14_lot_85 (fun H locs hP hD hS => ?_)
          have hP : va_P D vwCl [(m1, .inr (5, [.int 0, .ref e, .int 0])), (h, .inr (20, [.int 0, .ref m1, .int 0, .int 0, .ref m2, .ref m3, .int 0, .int 4, .int (-40), .ref m4, .int 0, .int 20, .int 0, .ref m5, .ref fr, .int 100, .int 60, .int 14, .ref m6, .ref m7, .ref m8])), (q_40, .inl (cA_41, 3, .inl (upd (upd (upd (fun _ => 0) (0 : Int32).toNatClampNeg p0) (1 : Int32).toNatClampNeg p1) (2 : Int32).toNatClampNeg p2)))] H := hP
          have hD : va_D A [(m1, .inr (5, [.int 0, .ref e, .int 0])), (h, .inr (20, [.int 0, .ref m1, .int 0, .int 0, .ref m2, .ref m3, .int 0, .int 4, .int (-40), .ref m4, .int 0, .int 20, .int 0, .ref m5, .ref fr, .int 100, .int 60, .int 14, .ref m6, .ref m7, .ref m8])), (q_40, .inl (cA_41, 3, .inl (upd (upd (upd (fun _ => 0) (0 : Int32).toNatClampNeg p0) (1 : Int32).toNatClampNeg p1) (2 : Int32).toNatClampNeg p2)))] := hD
          have hFc := va_free (wc := [(m1, .inr (5, [.int 0, .ref e, .int 0]))]) hD hS hA [0] rfl
          refine va_callFi (va_runF (As := [.ref q_40]) (rest := []) (hK.1 5 _ rfl).2 ⟨hx, hb, hml, hown, hts⟩ (c_Jx4a65c_add_9ea2d l hst D e m1 0 q_40 H.size) (va_cwF 1 hts gX14_lot_Jx4a65c_add_9ea2d_f77Jx4a65c rfl rfl rfl (ev_f hE (q := (RJx4a65c, ⟨"java/util/List", "add", "(Ljava/lang/Object;)Z"⟩, yJx4a65c_add_9ea2d)) (by decide +kernel)) (by decide +kernel) ⟨Nat.le_of_ble_eq_true rfl, Nat.le_of_ble_eq_true rfl⟩) ⟨cAny_blind, va_recv hK hP (ci := 5) (q0 := 0) rfl rfl, cAny_go hK hP hD hE hS hA [0] rfl rfl (by decide) [] rfl (any_ints hK hP (q := 2) (t := 0) rfl rfl (ev_w hE (by decide +kernel))) (hP 2 _ rfl).lt (fun h9 => absurd (hD.1 2 0 _ _ rfl rfl h9) (by decide))⟩ rfl rfl hl.1 rfl (lv_room (Nat.le_of_ble_eq_true rfl)) dX14_lot_86 ⟨Nat.le_of_ble_eq_true rfl, Nat.le_of_ble_eq_true rfl⟩) hS (fun q _ h => hFc q h) hFc (fun r_42 u t H1 locs ht hvm hw hB hz1 hk1 hS => ?_)
          obtain ⟨q_44, hP1, hK1, hD1⟩ := hB
          rw [ht] at hP1
          have hK1 := va_K.moved hvm.symm hK1
          obtain ⟨hP, hD⟩ := va_join (wr := [(h, .inr (20, [.int 0, .ref m1, .int 0, .int 0, .ref m2, .ref m3, .int 0, .int 4, .int (-40), .ref m4, .int 0, .int 20, .int 0, .ref m5, .ref fr, .int 100, .int 60, .int 14, .ref m6, .ref m7, .ref m8])), (q_40, .inl (cA_41, 3, .inl (upd (upd (upd (fun _ => 0) (0 : Int32).toNatClampNeg p0) (1 : Int32).toNatClampNeg p1) (2 : Int32).toNatClampNeg p2)))]) (w1 := [(m1, .inr (5, [.int (0 + 1), .ref q_44, .int 1]))]) hP hD [0] [1, 2] rfl rfl (by decide) (by decide) hk1 hFc hP1 hD1
          generalize H1 = H at hP hS ⊢
          have hP : va_P D vwCl [(h, .inr (20, [.int 0, .ref m1, .int 0, .int 0, .ref m2, .ref m3, .int 0, .int 4, .int (-40), .ref m4, .int 0, .int 20, .int 0, .ref m5, .ref fr, .int 100, .int 60, .int 14, .ref m6, .ref m7, .ref m8])), (q_40, .inl (cA_41, 3, .inl (upd (upd (upd (fun _ => 0) (0 : Int32).toNatClampNeg p0) (1 : Int32).toNatClampNeg p1) (2 : Int32).toNatClampNeg p2))), (m1, .inr (5, [.int (0 + 1), .ref q_44, .int 1]))] H := hP
          have hD : va_D A [(h, .inr (20, [.int 0, .ref m1, .int 0, .int 0, .ref m2, .ref m3, .int 0, .int 4, .int (-40), .ref m4, .int 0, .int 20, .int 0, .ref m5, .ref fr, .int 100, .int 60, .int 14, .ref m6, .ref m7, .ref m8])), (q_40, .inl (cA_41, 3, .inl (upd (upd (upd (fun _ => 0) (0 : Int32).toNatClampNeg p0) (1 : Int32).toNatClampNeg p1) (2 : Int32).toNatClampNeg p2))), (m1, .inr (5, [.int (0 + 1), .ref q_44, .int 1]))] := hD
          refine W.widen (k := 2) (n := 13) (Nat.le_of_ble_eq_true rfl) (Nat.le_of_ble_eq_true rfl) ?_
          have hw : r_42 = 1 := hw.trans (by first | rfl | decide +kernel)
          subst hw
          refine lv_pop hx hb dX14_lot_91 rfl ?_
          refine lv_aload_n hx hb dX14_lot_92 rfl (lv_at hl 0 rfl) ?_
          refine va_get (D := D) (ci := 20) (v := .ref m1) (C := RX14) (T := TX14) (N := 21) hx hb hts iw_RX14_wsX14_lot hown hK hP 0 rfl rfl 1 (by decide) (hts (.fieldLink RX14 10 "CoatLineModel" "lots" "Ljava/util/List;") (by decide +kernel)) (fun _ h9 => h9) rfl dX14_lot_93 ?_
          refine va_csFi (va_runF (As := []) (rest := []) (hK.1 5 _ rfl).2 ⟨hx, hb, hml, hown, hts⟩ (c_Jx4a65c_size_8abf5 l hst D e m1 (0 + 1) q_44 1 H.size) (va_cwF 0 hts gX14_lot_Jx4a65c_size_8abf5_f63Jx4a65c rfl rfl rfl (ev_f hE (q := (RJx4a65c, ⟨"java/util/List", "size", "()I"⟩, yJx4a65c_size_8abf5)) (by decide +kernel)) (by decide +kernel) ⟨Nat.le_of_ble_eq_true rfl, Nat.le_of_ble_eq_true rfl⟩) ⟨cIn_blind, va_recv hK hP (ci := 5) (q0 := 2) rfl rfl, cIn_go hK hP hD hE hS hA [2] rfl rfl (by decide) [] rfl⟩ rfl rfl hl.1 rfl (lv_room (Nat.le_of_ble_eq_true rfl)) dX14_lot_96 ⟨Nat.le_of_ble_eq_true rfl, Nat.le_of_ble_eq_true rfl⟩) (fun r_45 hw => ?_)
          have hw : r_45 = 1 := hw.trans (by first | rfl | decide +kernel)
          subst hw
          refine lv_iconst (v := 1) hx hb dX14_lot_101 (by decide) ?_
          refine lv_isub hx hb dX14_lot_102 ?_
          refine lv_topi (fun z_46 ez_46 => ?_)
          obtain rfl : z_46 = 0 := ez_46.trans (by decide +kernel)
          exact W.iret (v := 0) hx hb hr (fun t ht hW => ⟨⟨0, ((0, [.ref m1, .int 0, .int 0, .ref m2, .ref m3, .int 0, .int 4, .int (-40), .ref m4, .int 0, .int 20, .int 0, .ref m5, .ref fr, .int 100, .int 60, .int 14, .ref m6, .ref m7, .ref m8]) : Int32 × List Value), rfl, ⟨(by unfold k_X14_lot; rw [if_neg c_1, if_pos c_24, if_neg c_29, if_neg c_34]), (by unfold v_X14_lot; rw [if_neg c_1, if_pos c_24, if_neg c_29, if_neg c_34])⟩, ⟨by rw [ht]; exact hP.sub [0] rfl, va_K.moved hW.alike (hK.sub [] rfl), hD.sub [0] (by decide) rfl⟩⟩, hS.F ht⟩) hS.2.2 dX14_lot_103
        · refine lv_iconst (v := 1) hx hb dX14_lot_36 (by decide) ?_
          refine lv_goto (tgt := 59) hx hb dX14_lot_37 (by decide) ?_
          have hFc := va_free (wc := [(h, .inr (20, [.int 0, .ref m1, .int 0, .int 0, .ref m2, .ref m3, .int 0, .int 4, .int (-40), .ref m4, .int 0, .int 20, .int 0, .ref m5, .ref fr, .int 100, .int 60, .int 14, .ref m6, .ref m7, .ref m8]))]) hD hS hA [0] rfl
          refine va_calli (va_runV (As := [.int 1]) (rest := []) ⟨hx, hb, hml, hown, hts⟩ (c_X14_isWrong l hst D e h 0 ([.ref m1, .int 0, .int 0, .ref m2, .ref m3, .int 0, .int 4, .int (-40), .ref m4, .int 0, .int 20, .int 0, .ref m5, .ref fr, .int 100, .int 60, .int 14, .ref m6, .ref m7, .ref m8]) 1 s.heap.size) (cwV 1 hts gX14_lot_X14_isWrong rfl rfl rfl (by decide +kernel) ⟨Nat.le_of_ble_eq_true rfl, Nat.le_of_ble_eq_true rfl⟩) ⟨cIn_blind, va_recv hK hP (ci := 20) (q0 := 0) rfl rfl, cIn_go hK hP hD hE hS hA [0] rfl rfl (by decide) [] rfl⟩ rfl rfl hl.1 rfl (lv_room (Nat.le_of_ble_eq_true rfl)) dX14_lot_59 ⟨Nat.le_of_ble_eq_true rfl, Nat.le_of_ble_eq_true rfl⟩) hS (fun q _ h => hFc q h) hFc (fun r_47 u t H1 locs ht hvm hw hB hz1 hk1 hS => ?_)
          obtain ⟨hP1, hK1, hD1⟩ := hB
          rw [ht] at hP1
          have hK1 := va_K.moved hvm.symm hK1
          obtain ⟨hP, hD⟩ := va_join (wr := [(m1, .inr (5, [.int 0, .ref e, .int 0]))]) (w1 := [(h, .inr (20, [.int 1, .ref m1, .int 0, .int 0, .ref m2, .ref m3, .int 0, .int 4, .int (-40), .ref m4, .int 0, .int 20, .int 0, .ref m5, .ref fr, .int 100, .int 60, .int 14, .ref m6, .ref m7, .ref m8]))]) hP hD [0] [1] rfl rfl (by decide) (by decide) hk1 hFc hP1 hD1
          generalize H1 = H at hP hS ⊢
          have hP : va_P D vwCl [(m1, .inr (5, [.int 0, .ref e, .int 0])), (h, .inr (20, [.int 1, .ref m1, .int 0, .int 0, .ref m2, .ref m3, .int 0, .int 4, .int (-40), .ref m4, .int 0, .int 20, .int 0, .ref m5, .ref fr, .int 100, .int 60, .int 14, .ref m6, .ref m7, .ref m8]))] H := hP
          have hD : va_D A [(m1, .inr (5, [.int 0, .ref e, .int 0])), (h, .inr (20, [.int 1, .ref m1, .int 0, .int 0, .ref m2, .ref m3, .int 0, .int 4, .int (-40), .ref m4, .int 0, .int 20, .int 0, .ref m5, .ref fr, .int 100, .int 60, .int 14, .ref m6, .ref m7, .ref m8]))] := hD
          have hw : r_47 = 1 := hw.trans (by first | rfl | decide +kernel)
          subst hw
          refine lv_if_eq (tgt := 67) hx hb dX14_lot_62 (by decide) (fun c_49 => absurd c_49 (show ¬ ((1 : Int32) = 0) from by decide +kernel)) (fun c_49 => ?_)
          refine lv_iconst (v := 0) hx hb dX14_lot_65 (by decide) ?_
          refine W.widen (k := 2) (n := 13) (Nat.le_of_ble_eq_true rfl) (Nat.le_of_ble_eq_true rfl) ?_
          exact W.iret (v := 0) hx hb hr (fun t ht hW => ⟨⟨0, ((1, [.ref m1, .int 0, .int 0, .ref m2, .ref m3, .int 0, .int 4, .int (-40), .ref m4, .int 0, .int 20, .int 0, .ref m5, .ref fr, .int 100, .int 60, .int 14, .ref m6, .ref m7, .ref m8]) : Int32 × List Value), rfl, ⟨(by unfold k_X14_lot; rw [if_neg c_1, if_pos c_24, if_neg c_29, if_pos c_34]), (by unfold v_X14_lot; rw [if_neg c_1, if_pos c_24, if_neg c_29, if_pos c_34])⟩, ⟨by rw [ht]; exact hP.sub [1] rfl, va_K.moved hW.alike (hK.sub [] rfl), hD.sub [1] (by decide) rfl⟩⟩, hS.F ht⟩) hS.2.2 dX14_lot_66
-- X14_protocol
def v_X14_protocol (p0 : Int32) (p1 : Int32) : Int32 := if (v_X14_isStep p0 p1) = 0 then 0 else 0
def k_X14_protocol (p0 : Int32) (p1 : Int32) : Int32 := if (v_X14_isStep p0 p1) = 0 then 1 else 0
set_option maxHeartbeats 4000000 in
set_option maxRecDepth 100000 in
theorem c_X14_protocol (l : Launch) (hst : l.stackTraces = false) (D : va_G) (e : Nat) (h : Nat) (m1 : Nat) (m2 : Nat) (m3 : Nat) (m4 : Nat) (m5 : Nat) (m6 : Nat) (m7 : Nat) (m8 : Nat) (fr : Nat) (p0 : Int32) (p1 : Int32) (sz : Nat) : Met l yX14_protocol wsX14_protocol ({ frames := 24, cells := 5, slots := 25, locals := 580 }) (va_Pc [.ref h, .int p0, .int p1] (cIn D [] [(h, .inr (20, [.int 0, .ref m1, .int 0, .int 0, .ref m2, .ref m3, .int 0, .int 4, .int (-40), .ref m4, .int 0, .int 20, .int 0, .ref m5, .ref fr, .int 100, .int 60, .int 14, .ref m6, .ref m7, .ref m8])), (m5, .inr (5, [.int 0, .ref e, .int 0]))] e sz)) (va_Qi (fun (r : Int32) (u : Int32 × List Value) => u.1 = k_X14_protocol p0 p1 ∧ r = v_X14_protocol p0 p1) (fun (u : Int32 × List Value) (t : State) => va_P D vwCl [(h, .inr (20, .int u.1 :: u.2))] t.heap ∧ va_K D vwCl [] t ∧ va_D (va_A [(h, .inr (20, [.int 0, .ref m1, .int 0, .int 0, .ref m2, .ref m3, .int 0, .int 4, .int (-40), .ref m4, .int 0, .int 20, .int 0, .ref m5, .ref fr, .int 100, .int 60, .int 14, .ref m6, .ref m7, .ref m8])), (m5, .inr (5, [.int 0, .ref e, .int 0]))] sz) [(h, .inr (20, .int u.1 :: u.2))]) (va_A [(h, .inr (20, [.int 0, .ref m1, .int 0, .int 0, .ref m2, .ref m3, .int 0, .int 4, .int (-40), .ref m4, .int 0, .int 20, .int 0, .ref m5, .ref fr, .int 100, .int 60, .int 14, .ref m6, .ref m7, .ref m8])), (m5, .inr (5, [.int 0, .ref e, .int 0]))] sz)) 5 25 (va_A [(h, .inr (20, [.int 0, .ref m1, .int 0, .int 0, .ref m2, .ref m3, .int 0, .int 4, .int (-40), .ref m4, .int 0, .int 20, .int 0, .ref m5, .ref fr, .int 100, .int 60, .int 14, .ref m6, .ref m7, .ref m8])), (m5, .inr (5, [.int 0, .ref e, .int 0]))] sz) := by
  refine Met.ofW (cc := cX14_protocol) (maxL := 4) (ret := (some .int)) (by decide +kernel) rfl ?_
  intro p e9 s m args below meth c s₁ B hml hv
  obtain ⟨rfl, hsz, hP, hK, hD0, hE0⟩ := hv
  have hx := B.exec
  have hb := B.bytes
  have hr := B.returns
  have hts := atoms_spec (ws := wsX14_protocol) B.pre
  have hown : s.vm.findClass RX14 = some m.cls := findClass_of_methodNamed B.named
  have hlocks := B.notSynchronized
  subst hsz
  have hD := hD0.self (sz := s.heap.size)
  generalize hAe : va_A [(h, .inr (20, [.int 0, .ref m1, .int 0, .int 0, .ref m2, .ref m3, .int 0, .int 4, .int (-40), .ref m4, .int 0, .int 20, .int 0, .ref m5, .ref fr, .int 100, .int 60, .int 14, .ref m6, .ref m7, .ref m8])), (m5, .inr (5, [.int 0, .ref e, .int 0]))] s.heap.size = A at hD hE0 ⊢
  have hA : ∀ q : Nat, s.heap.size ≤ q → A q := fun q h => by rw [← hAe]; exact Or.inr h
  have hS : va_S A s.heap s.heap [] := va_S.rf
  have hE := hE0
  have hP : va_P D vwCl [(h, .inr (20, [.int 0, .ref m1, .int 0, .int 0, .ref m2, .ref m3, .int 0, .int 4, .int (-40), .ref m4, .int 0, .int 20, .int 0, .ref m5, .ref fr, .int 100, .int 60, .int 14, .ref m6, .ref m7, .ref m8])), (m5, .inr (5, [.int 0, .ref e, .int 0]))] s.heap := hP
  have hl := lv_entry ([.ref h, .int p0, .int p1]) (n := 4) (Nat.le_of_ble_eq_true rfl)
  rw [lg_entry_eq]
  generalize (lg_sl ([.ref h, .int p0, .int p1]) ++ List.replicate (4 - (lg_sl ([.ref h, .int p0, .int p1])).length) Slot.unset).toArray = ls at hl ⊢
  have hl : lv_has ls 4 [(0, .ref h), (1, .int p0), (2, .int p1)] := hl
  refine lv_aload_n hx hb dX14_protocol_0 rfl (lv_at hl 0 rfl) ?_
  refine lv_iload_n hx hb dX14_protocol_1 rfl (lv_at hl 1 rfl) ?_
  refine lv_iload_n hx hb dX14_protocol_2 rfl (lv_at hl 2 rfl) ?_
  refine vp_callSi (va_Run.run (va_runS (As := [.int p0, .int p1]) (rest := [.ref h]) ⟨hx, hb, hml, hown, hts⟩ (c_X14_isStep l hst D e p0 p1 s.heap.size) (va_cwS 2 hts gX14_protocol_X14_isStep rfl rfl rfl (by decide +kernel) ⟨Nat.le_of_ble_eq_true rfl, Nat.le_of_ble_eq_true rfl⟩) ⟨cIn_blind, cIn_go hK hP hD hE hS hA [] rfl rfl (by decide) [] rfl⟩ rfl rfl hl.1 rfl (lv_room (Nat.le_of_ble_eq_true rfl)) dX14_protocol_3 ⟨Nat.le_of_ble_eq_true rfl, Nat.le_of_ble_eq_true rfl⟩)) (fun r_1 hw => ?_)
  subst hw
  refine lv_if_ne (tgt := 13) hx hb dX14_protocol_6 (by decide) (fun c_2 => ?_) (fun c_2 => ?_)
  · refine lv_aload_n hx hb dX14_protocol_13 rfl (lv_at hl 0 rfl) ?_
    refine va_get (D := D) (ci := 20) (v := .ref m5) (C := RX14) (T := TX14) (N := 21) hx hb hts iw_RX14_wsX14_protocol hown hK hP 0 rfl rfl 13 (by decide) (hts (.fieldLink RX14 35 "CoatLineModel" "protocols" "Ljava/util/List;") (by decide +kernel)) (fun _ h9 => h9) rfl dX14_protocol_14 ?_
    refine va_csFi (va_runF (As := []) (rest := [.ref h]) (hK.1 5 _ rfl).2 ⟨hx, hb, hml, hown, hts⟩ (c_Jx4a65c_size_8abf5 l hst D e m5 0 e 0 s.heap.size) (va_cwF 0 hts gX14_protocol_Jx4a65c_size_8abf5_f63Jx4a65c rfl rfl rfl (ev_f hE (q := (RJx4a65c, ⟨"java/util/List", "size", "()I"⟩, yJx4a65c_size_8abf5)) (by decide +kernel)) (by decide +kernel) ⟨Nat.le_of_ble_eq_true rfl, Nat.le_of_ble_eq_true rfl⟩) ⟨cIn_blind, va_recv hK hP (ci := 5) (q0 := 1) rfl rfl, cIn_go hK hP hD hE hS hA [1] rfl rfl (by decide) [] rfl⟩ rfl rfl hl.1 rfl (lv_room (Nat.le_of_ble_eq_true rfl)) dX14_protocol_17 ⟨Nat.le_of_ble_eq_true rfl, Nat.le_of_ble_eq_true rfl⟩) (fun r_3 hw => ?_)
    have hw : r_3 = 0 := hw.trans (by first | rfl | decide +kernel)
    subst hw
    refine lv_iconst (v := 4) hx hb dX14_protocol_22 (by decide) ?_
    refine lv_icmp_ne (tgt := 30) hx hb dX14_protocol_23 (by decide) (fun c_4 => ?_) (fun c_4 => absurd c_4 (show ¬ ((0 : Int32) = 4) from by decide +kernel))
    refine lv_iconst (v := 0) hx hb dX14_protocol_30 (by decide) ?_
    have hFc := va_free (wc := [(h, .inr (20, [.int 0, .ref m1, .int 0, .int 0, .ref m2, .ref m3, .int 0, .int 4, .int (-40), .ref m4, .int 0, .int 20, .int 0, .ref m5, .ref fr, .int 100, .int 60, .int 14, .ref m6, .ref m7, .ref m8]))]) hD hS hA [0] rfl
    refine va_calli (va_runV (As := [.int 0]) (rest := []) ⟨hx, hb, hml, hown, hts⟩ (c_X14_isWrong l hst D e h 0 ([.ref m1, .int 0, .int 0, .ref m2, .ref m3, .int 0, .int 4, .int (-40), .ref m4, .int 0, .int 20, .int 0, .ref m5, .ref fr, .int 100, .int 60, .int 14, .ref m6, .ref m7, .ref m8]) 0 s.heap.size) (cwV 1 hts gX14_protocol_X14_isWrong rfl rfl rfl (by decide +kernel) ⟨Nat.le_of_ble_eq_true rfl, Nat.le_of_ble_eq_true rfl⟩) ⟨cIn_blind, va_recv hK hP (ci := 20) (q0 := 0) rfl rfl, cIn_go hK hP hD hE hS hA [0] rfl rfl (by decide) [] rfl⟩ rfl rfl hl.1 rfl (lv_room (Nat.le_of_ble_eq_true rfl)) dX14_protocol_31 ⟨Nat.le_of_ble_eq_true rfl, Nat.le_of_ble_eq_true rfl⟩) hS (fun q _ h => hFc q h) hFc (fun r_5 u t H1 locs ht hvm hw hB hz1 hk1 hS => ?_)
    obtain ⟨hP1, hK1, hD1⟩ := hB
    rw [ht] at hP1
    have hK1 := va_K.moved hvm.symm hK1
    obtain ⟨hP, hD⟩ := va_join (wr := [(m5, .inr (5, [.int 0, .ref e, .int 0]))]) (w1 := [(h, .inr (20, [.int 0, .ref m1, .int 0, .int 0, .ref m2, .ref m3, .int 0, .int 4, .int (-40), .ref m4, .int 0, .int 20, .int 0, .ref m5, .ref fr, .int 100, .int 60, .int 14, .ref m6, .ref m7, .ref m8]))]) hP hD [0] [1] rfl rfl (by decide) (by decide) hk1 hFc hP1 hD1
    generalize H1 = H at hP hS ⊢
    have hP : va_P D vwCl [(m5, .inr (5, [.int 0, .ref e, .int 0])), (h, .inr (20, [.int 0, .ref m1, .int 0, .int 0, .ref m2, .ref m3, .int 0, .int 4, .int (-40), .ref m4, .int 0, .int 20, .int 0, .ref m5, .ref fr, .int 100, .int 60, .int 14, .ref m6, .ref m7, .ref m8]))] H := hP
    have hD : va_D A [(m5, .inr (5, [.int 0, .ref e, .int 0])), (h, .inr (20, [.int 0, .ref m1, .int 0, .int 0, .ref m2, .ref m3, .int 0, .int 4, .int (-40), .ref m4, .int 0, .int 20, .int 0, .ref m5, .ref fr, .int 100, .int 60, .int 14, .ref m6, .ref m7, .ref m8]))] := hD
    have hw : r_5 = 0 := hw.trans (by first | rfl | decide +kernel)
    subst hw
    refine lv_if_eq (tgt := 39) hx hb dX14_protocol_34 (by decide) (fun c_7 => ?_) (fun c_7 => absurd (show (0 : Int32) = 0 from by decide +kernel) c_7)
    refine va_new (D := D) (ci := 5) (fs := [.int 0, .null, .int 0]) (C := RJx4a65c) (T := TJx4a65c) (N := 3) hx hb hts iw_RJx4a65c_wsX14_protocol tyJx4a65c tyJx4a65c_ok hown (hts (.classLink RX14 7 RJx4a65c) (by decide +kernel)) (hts (.instantiable RJx4a65c 3) (by decide +kernel)) (hts (.initialized RJx4a65c) (by decide +kernel)) hK hP hD hS hA rfl (fun j hj => by rcases (show j = 0 ∨ j = 1 ∨ j = 2 by omega) with rfl | rfl | rfl <;> rfl) (Nat.le_of_ble_eq_true rfl) (Nat.le_of_ble_eq_true rfl) dX14_protocol_39 (fun q_8 H hP hD hS => ?_)
    have hP : va_P D vwCl [(m5, .inr (5, [.int 0, .ref e, .int 0])), (h, .inr (20, [.int 0, .ref m1, .int 0, .int 0, .ref m2, .ref m3, .int 0, .int 4, .int (-40), .ref m4, .int 0, .int 20, .int 0, .ref m5, .ref fr, .int 100, .int 60, .int 14, .ref m6, .ref m7, .ref m8])), (q_8, .inr (5, [.int 0, .null, .int 0]))] H := hP
    have hD : va_D A [(m5, .inr (5, [.int 0, .ref e, .int 0])), (h, .inr (20, [.int 0, .ref m1, .int 0, .int 0, .ref m2, .ref m3, .int 0, .int 4, .int (-40), .ref m4, .int 0, .int 20, .int 0, .ref m5, .ref fr, .int 100, .int 60, .int 14, .ref m6, .ref m7, .ref m8])), (q_8, .inr (5, [.int 0, .null, .int 0]))] := hD
    refine W.widen (k := 1) (n := 3) (Nat.le_of_ble_eq_true rfl) (Nat.le_of_ble_eq_true rfl) ?_
    refine lv_dup hx hb dX14_protocol_42 rfl ?_
    have hFc := va_free (wc := [(q_8, .inr (5, [.int 0, .null, .int 0]))]) hD hS hA [2] rfl
    refine va_callv (va_runI (As := []) (rest := [.ref q_8]) ⟨hx, hb, hml, hown, hts⟩ (c_Jx4a65c_init_da8c8 l hst D e q_8 H.size) (cwI 0 hts gX14_protocol_Jx4a65c_init_da8c8 rfl rfl rfl (hts (.initialized RJx4a65c) (by decide +kernel)) (hts (.methodLink RX14 9 yJx4a65c_init_da8c8) (by decide +kernel)) (hts (.instanceMethod yJx4a65c_init_da8c8) (by decide +kernel)) rfl (by decide +kernel) ⟨Nat.le_of_ble_eq_true rfl, Nat.le_of_ble_eq_true rfl⟩) ⟨cIn_blind, cIn_go hK hP hD hE hS hA [2] rfl rfl (by decide) [] rfl⟩ rfl rfl hl.1 rfl (lv_room (Nat.le_of_ble_eq_true rfl)) dX14_protocol_43 ⟨Nat.le_of_ble_eq_true rfl, Nat.le_of_ble_eq_true rfl⟩) hS (fun q _ h => hFc q h) hFc (fun u t H1 locs ht hvm hw hB hz1 hk1 hS => ?_)
    obtain ⟨hP1, hK1, hD1⟩ := hB
    rw [ht] at hP1
    have hK1 := va_K.moved hvm.symm hK1
    obtain ⟨hP, hD⟩ := va_join (wr := [(m5, .inr (5, [.int 0, .ref e, .int 0])), (h, .inr (20, [.int 0, .ref m1, .int 0, .int 0, .ref m2, .ref m3, .int 0, .int 4, .int (-40), .ref m4, .int 0, .int 20, .int 0, .ref m5, .ref fr, .int 100, .int 60, .int 14, .ref m6, .ref m7, .ref m8]))]) (w1 := [(q_8, .inr (5, [.int 0, .ref e, .int 0]))]) hP hD [2] [0, 1] rfl rfl (by decide) (by decide) hk1 hFc hP1 hD1
    generalize H1 = H at hP hS ⊢
    have hP : va_P D vwCl [(m5, .inr (5, [.int 0, .ref e, .int 0])), (h, .inr (20, [.int 0, .ref m1, .int 0, .int 0, .ref m2, .ref m3, .int 0, .int 4, .int (-40), .ref m4, .int 0, .int 20, .int 0, .ref m5, .ref fr, .int 100, .int 60, .int 14, .ref m6, .ref m7, .ref m8])), (q_8, .inr (5, [.int 0, .ref e, .int 0]))] H := hP
    have hD : va_D A [(m5, .inr (5, [.int 0, .ref e, .int 0])), (h, .inr (20, [.int 0, .ref m1, .int 0, .int 0, .ref m2, .ref m3, .int 0, .int 4, .int (-40), .ref m4, .int 0, .int 20, .int 0, .ref m5, .ref fr, .int 100, .int 60, .int 14, .ref m6, .ref m7, .ref m8])), (q_8, .inr (5, [.int 0, .ref e, .int 0]))] := hD
    refine lv_astore_n (lv' := [(3, .ref q_8), (0, .ref h), (1, .int p0), (2, .int p1)]) hx hb dX14_protocol_46 rfl hl (by decide) rfl (fun ls hl => ?_)
    refine lv_aload_n hx hb dX14_protocol_47 rfl (lv_at hl 0 rfl) ?_
    refine lv_iconst (v := 2) hx hb dX14_protocol_48 (by decide) ?_
    refine va_newa (D := D) (atype := .int) (ty := .int) (N' := 2) (a0 := (2, .inl (fun _ => 0))) hx hb (hts (.arrayClass .int) (by decide +kernel)) rfl hK hP hD hS hA (fun cA => rfl) (by decide) (by decide +kernel) (by decide) (Nat.le_of_ble_eq_true rfl) (Nat.le_of_ble_eq_true rfl) dX14_protocol_49 (fun q_11 cA_12 H hK hP hD hS => ?_)
    have hP : va_P D vwCl [(m5, .inr (5, [.int 0, .ref e, .int 0])), (h, .inr (20, [.int 0, .ref m1, .int 0, .int 0, .ref m2, .ref m3, .int 0, .int 4, .int (-40), .ref m4, .int 0, .int 20, .int 0, .ref m5, .ref fr, .int 100, .int 60, .int 14, .ref m6, .ref m7, .ref m8])), (q_8, .inr (5, [.int 0, .ref e, .int 0])), (q_11, .inl (cA_12, 2, .inl (fun _ => 0)))] H := hP
    have hD : va_D A [(m5, .inr (5, [.int 0, .ref e, .int 0])), (h, .inr (20, [.int 0, .ref m1, .int 0, .int 0, .ref m2, .ref m3, .int 0, .int 4, .int (-40), .ref m4, .int 0, .int 20, .int 0, .ref m5, .ref fr, .int 100, .int 60, .int 14, .ref m6, .ref m7, .ref m8])), (q_8, .inr (5, [.int 0, .ref e, .int 0])), (q_11, .inl (cA_12, 2, .inl (fun _ => 0)))] := hD
    have hK : va_K D vwCl [(cA_12, .int)] s := hK
    refine W.widen (k := 2) (n := 5) (Nat.le_of_ble_eq_true rfl) (Nat.le_of_ble_eq_true rfl) ?_
    refine lv_dup hx hb dX14_protocol_51 rfl ?_
    refine lv_iconst (v := 0) hx hb dX14_protocol_52 (by decide) ?_
    refine lv_iload_n hx hb dX14_protocol_53 rfl (lv_at hl 2 rfl) ?_
    refine va_iast hx hb hK hP hD hS 3 0 rfl rfl (i := 0) (show ¬ ((0 : Int32) < 0 ∨ 2 ≤ (0 : Int32).toNatClampNeg) from by decide +kernel) dX14_protocol_54 (fun H locs hP hD hS => ?_)
    have hP : va_P D vwCl [(m5, .inr (5, [.int 0, .ref e, .int 0])), (h, .inr (20, [.int 0, .ref m1, .int 0, .int 0, .ref m2, .ref m3, .int 0, .int 4, .int (-40), .ref m4, .int 0, .int 20, .int 0, .ref m5, .ref fr, .int 100, .int 60, .int 14, .ref m6, .ref m7, .ref m8])), (q_8, .inr (5, [.int 0, .ref e, .int 0])), (q_11, .inl (cA_12, 2, .inl (upd (fun _ => 0) (0 : Int32).toNatClampNeg p0)))] H := hP
    have hD : va_D A [(m5, .inr (5, [.int 0, .ref e, .int 0])), (h, .inr (20, [.int 0, .ref m1, .int 0, .int 0, .ref m2, .ref m3, .int 0, .int 4, .int (-40), .ref m4, .int 0, .int 20, .int 0, .ref m5, .ref fr, .int 100, .int 60, .int 14, .ref m6, .ref m7, .ref m8])), (q_8, .inr (5, [.int 0, .ref e, .int 0])), (q_11, .inl (cA_12, 2, .inl (upd (fun _ => 0) (0 : Int32).toNatClampNeg p0)))] := hD
    refine lv_dup hx hb dX14_protocol_55 rfl ?_
    refine lv_iconst (v := 1) hx hb dX14_protocol_56 (by decide) ?_
    refine lv_iload_n hx hb dX14_protocol_57 rfl (lv_at hl 3 rfl) ?_
    refine va_iast hx hb hK hP hD hS 3 0 rfl rfl (i := 1) (show ¬ ((1 : Int32) < 0 ∨ 2 ≤ (1 : Int32).toNatClampNeg) from by decide +kernel) dX14_protocol_58 (fun H locs hP hD hS => ?_)
    have hP : va_P D vwCl [(m5, .inr (5, [.int 0, .ref e, .int 0])), (h, .inr (20, [.int 0, .ref m1, .int 0, .int 0, .ref m2, .ref m3, .int 0, .int 4, .int (-40), .ref m4, .int 0, .int 20, .int 0, .ref m5, .ref fr, .int 100, .int 60, .int 14, .ref m6, .ref m7, .ref m8])), (q_8, .inr (5, [.int 0, .ref e, .int 0])), (q_11, .inl (cA_12, 2, .inl (upd (upd (fun _ => 0) (0 : Int32).toNatClampNeg p0) (1 : Int32).toNatClampNeg p1)))] H := hP
    have hD : va_D A [(m5, .inr (5, [.int 0, .ref e, .int 0])), (h, .inr (20, [.int 0, .ref m1, .int 0, .int 0, .ref m2, .ref m3, .int 0, .int 4, .int (-40), .ref m4, .int 0, .int 20, .int 0, .ref m5, .ref fr, .int 100, .int 60, .int 14, .ref m6, .ref m7, .ref m8])), (q_8, .inr (5, [.int 0, .ref e, .int 0])), (q_11, .inl (cA_12, 2, .inl (upd (upd (fun _ => 0) (0 : Int32).toNatClampNeg p0) (1 : Int32).toNatClampNeg p1)))] := hD
    have hFc := va_free (wc := [(q_8, .inr (5, [.int 0, .ref e, .int 0]))]) hD hS hA [2] rfl
    refine va_callFi (va_runF (As := [.ref q_11]) (rest := []) (hK.1 5 _ rfl).2 ⟨hx, hb, hml, hown, hts⟩ (c_Jx4a65c_add_9ea2d l hst D e q_8 0 q_11 H.size) (va_cwF 1 hts gX14_protocol_Jx4a65c_add_9ea2d_f77Jx4a65c rfl rfl rfl (ev_f hE (q := (RJx4a65c, ⟨"java/util/List", "add", "(Ljava/lang/Object;)Z"⟩, yJx4a65c_add_9ea2d)) (by decide +kernel)) (by decide +kernel) ⟨Nat.le_of_ble_eq_true rfl, Nat.le_of_ble_eq_true rfl⟩) ⟨cAny_blind, va_recv hK hP (ci := 5) (q0 := 2) rfl rfl, cAny_go hK hP hD hE hS hA [2] rfl rfl (by decide) [] rfl (any_ints hK hP (q := 3) (t := 0) rfl rfl (ev_w hE (by decide +kernel))) (hP 3 _ rfl).lt (fun h9 => absurd (hD.1 3 2 _ _ rfl rfl h9) (by decide))⟩ rfl rfl hl.1 rfl (lv_room (Nat.le_of_ble_eq_true rfl)) dX14_protocol_59 ⟨Nat.le_of_ble_eq_true rfl, Nat.le_of_ble_eq_true rfl⟩) hS (fun q _ h => hFc q h) hFc (fun r_13 u t H1 locs ht hvm hw hB hz1 hk1 hS => ?_)
    obtain ⟨q_15, hP1, hK1, hD1⟩ := hB
    rw [ht] at hP1
    have hK1 := va_K.moved hvm.symm hK1
    obtain ⟨hP, hD⟩ := va_join (wr := [(m5, .inr (5, [.int 0, .ref e, .int 0])), (h, .inr (20, [.int 0, .ref m1, .int 0, .int 0, .ref m2, .ref m3, .int 0, .int 4, .int (-40), .ref m4, .int 0, .int 20, .int 0, .ref m5, .ref fr, .int 100, .int 60, .int 14, .ref m6, .ref m7, .ref m8])), (q_11, .inl (cA_12, 2, .inl (upd (upd (fun _ => 0) (0 : Int32).toNatClampNeg p0) (1 : Int32).toNatClampNeg p1)))]) (w1 := [(q_8, .inr (5, [.int (0 + 1), .ref q_15, .int 1]))]) hP hD [2] [0, 1, 3] rfl rfl (by decide) (by decide) hk1 hFc hP1 hD1
    generalize H1 = H at hP hS ⊢
    have hP : va_P D vwCl [(m5, .inr (5, [.int 0, .ref e, .int 0])), (h, .inr (20, [.int 0, .ref m1, .int 0, .int 0, .ref m2, .ref m3, .int 0, .int 4, .int (-40), .ref m4, .int 0, .int 20, .int 0, .ref m5, .ref fr, .int 100, .int 60, .int 14, .ref m6, .ref m7, .ref m8])), (q_11, .inl (cA_12, 2, .inl (upd (upd (fun _ => 0) (0 : Int32).toNatClampNeg p0) (1 : Int32).toNatClampNeg p1))), (q_8, .inr (5, [.int (0 + 1), .ref q_15, .int 1]))] H := hP
    have hD : va_D A [(m5, .inr (5, [.int 0, .ref e, .int 0])), (h, .inr (20, [.int 0, .ref m1, .int 0, .int 0, .ref m2, .ref m3, .int 0, .int 4, .int (-40), .ref m4, .int 0, .int 20, .int 0, .ref m5, .ref fr, .int 100, .int 60, .int 14, .ref m6, .ref m7, .ref m8])), (q_11, .inl (cA_12, 2, .inl (upd (upd (fun _ => 0) (0 : Int32).toNatClampNeg p0) (1 : Int32).toNatClampNeg p1))), (q_8, .inr (5, [.int (0 + 1), .ref q_15, .int 1]))] := hD
    refine W.widen (k := 3) (n := 15) (Nat.le_of_ble_eq_true rfl) (Nat.le_of_ble_eq_true rfl) ?_
    have hw : r_13 = 1 := hw.trans (by first | rfl | decide +kernel)
    subst hw
    refine lv_pop hx hb dX14_protocol_64 rfl ?_
    refine lv_aload_n hx hb dX14_protocol_65 rfl (lv_at hl 1 rfl) ?_
    refine va_get (D := D) (ci := 20) (v := .ref m5) (C := RX14) (T := TX14) (N := 21) hx hb hts iw_RX14_wsX14_protocol hown hK hP 1 rfl rfl 13 (by decide) (hts (.fieldLink RX14 35 "CoatLineModel" "protocols" "Ljava/util/List;") (by decide +kernel)) (fun _ h9 => h9) rfl dX14_protocol_66 ?_
    refine lv_aload_n hx hb dX14_protocol_69 rfl (lv_at hl 0 rfl) ?_
    have hFc := va_free (wc := [(m5, .inr (5, [.int 0, .ref e, .int 0]))]) hD hS hA [0] rfl
    refine va_callFi (va_runF (As := [.ref q_8]) (rest := []) (hK.1 5 _ rfl).2 ⟨hx, hb, hml, hown, hts⟩ (c_Jx4a65c_add_9ea2d l hst D e m5 0 q_8 H.size) (va_cwF 1 hts gX14_protocol_Jx4a65c_add_9ea2d_f77Jx4a65c rfl rfl rfl (ev_f hE (q := (RJx4a65c, ⟨"java/util/List", "add", "(Ljava/lang/Object;)Z"⟩, yJx4a65c_add_9ea2d)) (by decide +kernel)) (by decide +kernel) ⟨Nat.le_of_ble_eq_true rfl, Nat.le_of_ble_eq_true rfl⟩) ⟨cAny_blind, va_recv hK hP (ci := 5) (q0 := 0) rfl rfl, cAny_go hK hP hD hE hS hA [0] rfl rfl (by decide) [] rfl (va_rAny hK hP (q0 := 3) (ci := 5) rfl rfl (fun comp c0 => vb_asgC (ev_w hE (w := .castable "java/util/ArrayList" "java/lang/Object") (by decide +kernel)) comp c0)) (hP 3 _ rfl).lt (fun h9 => absurd (hD.1 3 0 _ _ rfl rfl h9) (by decide))⟩ rfl rfl hl.1 rfl (lv_room (Nat.le_of_ble_eq_true rfl)) dX14_protocol_70 ⟨Nat.le_of_ble_eq_true rfl, Nat.le_of_ble_eq_true rfl⟩) hS (fun q _ h => hFc q h) hFc (fun r_16 u t H1 locs ht hvm hw hB hz1 hk1 hS => ?_)
    obtain ⟨q_18, hP1, hK1, hD1⟩ := hB
    rw [ht] at hP1
    have hK1 := va_K.moved hvm.symm hK1
    obtain ⟨hP, hD⟩ := va_join (wr := [(h, .inr (20, [.int 0, .ref m1, .int 0, .int 0, .ref m2, .ref m3, .int 0, .int 4, .int (-40), .ref m4, .int 0, .int 20, .int 0, .ref m5, .ref fr, .int 100, .int 60, .int 14, .ref m6, .ref m7, .ref m8])), (q_11, .inl (cA_12, 2, .inl (upd (upd (fun _ => 0) (0 : Int32).toNatClampNeg p0) (1 : Int32).toNatClampNeg p1))), (q_8, .inr (5, [.int (0 + 1), .ref q_15, .int 1]))]) (w1 := [(m5, .inr (5, [.int (0 + 1), .ref q_18, .int 1]))]) hP hD [0] [1, 2, 3] rfl rfl (by decide) (by decide) hk1 hFc hP1 hD1
    generalize H1 = H at hP hS ⊢
    have hP : va_P D vwCl [(h, .inr (20, [.int 0, .ref m1, .int 0, .int 0, .ref m2, .ref m3, .int 0, .int 4, .int (-40), .ref m4, .int 0, .int 20, .int 0, .ref m5, .ref fr, .int 100, .int 60, .int 14, .ref m6, .ref m7, .ref m8])), (q_11, .inl (cA_12, 2, .inl (upd (upd (fun _ => 0) (0 : Int32).toNatClampNeg p0) (1 : Int32).toNatClampNeg p1))), (q_8, .inr (5, [.int (0 + 1), .ref q_15, .int 1])), (m5, .inr (5, [.int (0 + 1), .ref q_18, .int 1]))] H := hP
    have hD : va_D A [(h, .inr (20, [.int 0, .ref m1, .int 0, .int 0, .ref m2, .ref m3, .int 0, .int 4, .int (-40), .ref m4, .int 0, .int 20, .int 0, .ref m5, .ref fr, .int 100, .int 60, .int 14, .ref m6, .ref m7, .ref m8])), (q_11, .inl (cA_12, 2, .inl (upd (upd (fun _ => 0) (0 : Int32).toNatClampNeg p0) (1 : Int32).toNatClampNeg p1))), (q_8, .inr (5, [.int (0 + 1), .ref q_15, .int 1])), (m5, .inr (5, [.int (0 + 1), .ref q_18, .int 1]))] := hD
    refine W.widen (k := 4) (n := 25) (Nat.le_of_ble_eq_true rfl) (Nat.le_of_ble_eq_true rfl) ?_
    have hw : r_16 = 1 := hw.trans (by first | rfl | decide +kernel)
    subst hw
    refine lv_pop hx hb dX14_protocol_75 rfl ?_
    refine lv_aload_n hx hb dX14_protocol_76 rfl (lv_at hl 1 rfl) ?_
    refine va_get (D := D) (ci := 20) (v := .ref m5) (C := RX14) (T := TX14) (N := 21) hx hb hts iw_RX14_wsX14_protocol hown hK hP 0 rfl rfl 13 (by decide) (hts (.fieldLink RX14 35 "CoatLineModel" "protocols" "Ljava/util/List;") (by decide +kernel)) (fun _ h9 => h9) rfl dX14_protocol_77 ?_
    refine va_csFi (va_runF (As := []) (rest := []) (hK.1 5 _ rfl).2 ⟨hx, hb, hml, hown, hts⟩ (c_Jx4a65c_size_8abf5 l hst D e m5 (0 + 1) q_18 1 H.size) (va_cwF 0 hts gX14_protocol_Jx4a65c_size_8abf5_f63Jx4a65c rfl rfl rfl (ev_f hE (q := (RJx4a65c, ⟨"java/util/List", "size", "()I"⟩, yJx4a65c_size_8abf5)) (by decide +kernel)) (by decide +kernel) ⟨Nat.le_of_ble_eq_true rfl, Nat.le_of_ble_eq_true rfl⟩) ⟨cIn_blind, va_recv hK hP (ci := 5) (q0 := 3) rfl rfl, cIn_go hK hP hD hE hS hA [3] rfl rfl (by decide) [] rfl⟩ rfl rfl hl.1 rfl (lv_room (Nat.le_of_ble_eq_true rfl)) dX14_protocol_80 ⟨Nat.le_of_ble_eq_true rfl, Nat.le_of_ble_eq_true rfl⟩) (fun r_19 hw => ?_)
    have hw : r_19 = 1 := hw.trans (by first | rfl | decide +kernel)
    subst hw
    refine lv_iconst (v := 1) hx hb dX14_protocol_85 (by decide) ?_
    refine lv_isub hx hb dX14_protocol_86 ?_
    refine lv_topi (fun z_20 ez_20 => ?_)
    obtain rfl : z_20 = 0 := ez_20.trans (by decide +kernel)
    refine W.widen (k := 5) (n := 25) (Nat.le_of_ble_eq_true rfl) (Nat.le_of_ble_eq_true rfl) ?_
    exact W.iret (v := 0) hx hb hr (fun t ht hW => ⟨⟨0, ((0, [.ref m1, .int 0, .int 0, .ref m2, .ref m3, .int 0, .int 4, .int (-40), .ref m4, .int 0, .int 20, .int 0, .ref m5, .ref fr, .int 100, .int 60, .int 14, .ref m6, .ref m7, .ref m8]) : Int32 × List Value), rfl, ⟨(by unfold k_X14_protocol; rw [if_neg c_2]), (by unfold v_X14_protocol; rw [if_neg c_2])⟩, ⟨by rw [ht]; exact hP.sub [0] rfl, va_K.moved hW.alike (hK.sub [] rfl), hD.sub [0] (by decide) rfl⟩⟩, hS.F ht⟩) hS.2.2 dX14_protocol_87
  · refine lv_iconst (v := 1) hx hb dX14_protocol_9 (by decide) ?_
    refine lv_goto (tgt := 31) hx hb dX14_protocol_10 (by decide) ?_
    have hFc := va_free (wc := [(h, .inr (20, [.int 0, .ref m1, .int 0, .int 0, .ref m2, .ref m3, .int 0, .int 4, .int (-40), .ref m4, .int 0, .int 20, .int 0, .ref m5, .ref fr, .int 100, .int 60, .int 14, .ref m6, .ref m7, .ref m8]))]) hD hS hA [0] rfl
    refine va_calli (va_runV (As := [.int 1]) (rest := []) ⟨hx, hb, hml, hown, hts⟩ (c_X14_isWrong l hst D e h 0 ([.ref m1, .int 0, .int 0, .ref m2, .ref m3, .int 0, .int 4, .int (-40), .ref m4, .int 0, .int 20, .int 0, .ref m5, .ref fr, .int 100, .int 60, .int 14, .ref m6, .ref m7, .ref m8]) 1 s.heap.size) (cwV 1 hts gX14_protocol_X14_isWrong rfl rfl rfl (by decide +kernel) ⟨Nat.le_of_ble_eq_true rfl, Nat.le_of_ble_eq_true rfl⟩) ⟨cIn_blind, va_recv hK hP (ci := 20) (q0 := 0) rfl rfl, cIn_go hK hP hD hE hS hA [0] rfl rfl (by decide) [] rfl⟩ rfl rfl hl.1 rfl (lv_room (Nat.le_of_ble_eq_true rfl)) dX14_protocol_31 ⟨Nat.le_of_ble_eq_true rfl, Nat.le_of_ble_eq_true rfl⟩) hS (fun q _ h => hFc q h) hFc (fun r_21 u t H1 locs ht hvm hw hB hz1 hk1 hS => ?_)
    obtain ⟨hP1, hK1, hD1⟩ := hB
    rw [ht] at hP1
    have hK1 := va_K.moved hvm.symm hK1
    obtain ⟨hP, hD⟩ := va_join (wr := [(m5, .inr (5, [.int 0, .ref e, .int 0]))]) (w1 := [(h, .inr (20, [.int 1, .ref m1, .int 0, .int 0, .ref m2, .ref m3, .int 0, .int 4, .int (-40), .ref m4, .int 0, .int 20, .int 0, .ref m5, .ref fr, .int 100, .int 60, .int 14, .ref m6, .ref m7, .ref m8]))]) hP hD [0] [1] rfl rfl (by decide) (by decide) hk1 hFc hP1 hD1
    generalize H1 = H at hP hS ⊢
    have hP : va_P D vwCl [(m5, .inr (5, [.int 0, .ref e, .int 0])), (h, .inr (20, [.int 1, .ref m1, .int 0, .int 0, .ref m2, .ref m3, .int 0, .int 4, .int (-40), .ref m4, .int 0, .int 20, .int 0, .ref m5, .ref fr, .int 100, .int 60, .int 14, .ref m6, .ref m7, .ref m8]))] H := hP
    have hD : va_D A [(m5, .inr (5, [.int 0, .ref e, .int 0])), (h, .inr (20, [.int 1, .ref m1, .int 0, .int 0, .ref m2, .ref m3, .int 0, .int 4, .int (-40), .ref m4, .int 0, .int 20, .int 0, .ref m5, .ref fr, .int 100, .int 60, .int 14, .ref m6, .ref m7, .ref m8]))] := hD
    have hw : r_21 = 1 := hw.trans (by first | rfl | decide +kernel)
    subst hw
    refine lv_if_eq (tgt := 39) hx hb dX14_protocol_34 (by decide) (fun c_23 => absurd c_23 (show ¬ ((1 : Int32) = 0) from by decide +kernel)) (fun c_23 => ?_)
    refine lv_iconst (v := 0) hx hb dX14_protocol_37 (by decide) ?_
    refine W.widen (k := 5) (n := 25) (Nat.le_of_ble_eq_true rfl) (Nat.le_of_ble_eq_true rfl) ?_
    exact W.iret (v := 0) hx hb hr (fun t ht hW => ⟨⟨0, ((1, [.ref m1, .int 0, .int 0, .ref m2, .ref m3, .int 0, .int 4, .int (-40), .ref m4, .int 0, .int 20, .int 0, .ref m5, .ref fr, .int 100, .int 60, .int 14, .ref m6, .ref m7, .ref m8]) : Int32 × List Value), rfl, ⟨(by unfold k_X14_protocol; rw [if_pos c_2]), (by unfold v_X14_protocol; rw [if_pos c_2])⟩, ⟨by rw [ht]; exact hP.sub [1] rfl, va_K.moved hW.alike (hK.sub [] rfl), hD.sub [1] (by decide) rfl⟩⟩, hS.F ht⟩) hS.2.2 dX14_protocol_38
-- X14_coversAgain
set_option maxHeartbeats 4000000 in
set_option maxRecDepth 100000 in
theorem c_X14_coversAgain (l : Launch) (hst : l.stackTraces = false) (D : va_G) (e : Nat) (h : Nat) (m1 : Nat) (m2 : Nat) (m3 : Nat) (m4 : Nat) (m5 : Nat) (m6 : Nat) (m7 : Nat) (m8 : Nat) (fr : Nat) (sz : Nat) : Met l yX14_coversAgain wsX14_coversAgain ({ frames := 16, cells := 1, slots := 4, locals := 340 }) (va_Pc [.ref h] (cIn D [] [(h, .inr (20, [.int 0, .ref m1, .int 0, .int 0, .ref m2, .ref m3, .int 0, .int 4, .int (-40), .ref m4, .int 0, .int 20, .int 0, .ref m5, .ref fr, .int 100, .int 60, .int 14, .ref m6, .ref m7, .ref m8])), (m4, .inr (5, [.int 0, .ref e, .int 0]))] e sz)) (va_Qv (fun (_ : Unit) => True) (fun (_ : Unit) (t : State) => va_P D vwCl [(h, .inr (20, [.int 0, .ref m1, .int 0, .int 0, .ref m2, .ref m3, .int 0, .int 4, .int (-40), .ref m4, .int 0, .int 20, .int 0, .ref m5, .ref fr, .int 100, .int 60, .int 14, .ref m6, .ref m7, .ref m8])), (m4, .inr (5, [.int 0, .ref e, .int 0]))] t.heap ∧ va_K D vwCl [] t ∧ va_D (va_A [(h, .inr (20, [.int 0, .ref m1, .int 0, .int 0, .ref m2, .ref m3, .int 0, .int 4, .int (-40), .ref m4, .int 0, .int 20, .int 0, .ref m5, .ref fr, .int 100, .int 60, .int 14, .ref m6, .ref m7, .ref m8])), (m4, .inr (5, [.int 0, .ref e, .int 0]))] sz) [(h, .inr (20, [.int 0, .ref m1, .int 0, .int 0, .ref m2, .ref m3, .int 0, .int 4, .int (-40), .ref m4, .int 0, .int 20, .int 0, .ref m5, .ref fr, .int 100, .int 60, .int 14, .ref m6, .ref m7, .ref m8])), (m4, .inr (5, [.int 0, .ref e, .int 0]))]) (va_A [(h, .inr (20, [.int 0, .ref m1, .int 0, .int 0, .ref m2, .ref m3, .int 0, .int 4, .int (-40), .ref m4, .int 0, .int 20, .int 0, .ref m5, .ref fr, .int 100, .int 60, .int 14, .ref m6, .ref m7, .ref m8])), (m4, .inr (5, [.int 0, .ref e, .int 0]))] sz)) 1 4 (va_A [(h, .inr (20, [.int 0, .ref m1, .int 0, .int 0, .ref m2, .ref m3, .int 0, .int 4, .int (-40), .ref m4, .int 0, .int 20, .int 0, .ref m5, .ref fr, .int 100, .int 60, .int 14, .ref m6, .ref m7, .ref m8])), (m4, .inr (5, [.int 0, .ref e, .int 0]))] sz) := by
  refine Met.ofW (cc := cX14_coversAgain) (maxL := 3) (ret := none) (by decide +kernel) rfl ?_
  intro p e9 s m args below meth c s₁ B hml hv
  obtain ⟨rfl, hsz, hP, hK, hD0, hE0⟩ := hv
  have hx := B.exec
  have hb := B.bytes
  have hr := B.returns
  have hts := atoms_spec (ws := wsX14_coversAgain) B.pre
  have hown : s.vm.findClass RX14 = some m.cls := findClass_of_methodNamed B.named
  have hlocks := B.notSynchronized
  subst hsz
  have hD := hD0.self (sz := s.heap.size)
  generalize hAe : va_A [(h, .inr (20, [.int 0, .ref m1, .int 0, .int 0, .ref m2, .ref m3, .int 0, .int 4, .int (-40), .ref m4, .int 0, .int 20, .int 0, .ref m5, .ref fr, .int 100, .int 60, .int 14, .ref m6, .ref m7, .ref m8])), (m4, .inr (5, [.int 0, .ref e, .int 0]))] s.heap.size = A at hD hE0 ⊢
  have hA : ∀ q : Nat, s.heap.size ≤ q → A q := fun q h => by rw [← hAe]; exact Or.inr h
  have hS : va_S A s.heap s.heap [] := va_S.rf
  have hE := hE0
  have hP : va_P D vwCl [(h, .inr (20, [.int 0, .ref m1, .int 0, .int 0, .ref m2, .ref m3, .int 0, .int 4, .int (-40), .ref m4, .int 0, .int 20, .int 0, .ref m5, .ref fr, .int 100, .int 60, .int 14, .ref m6, .ref m7, .ref m8])), (m4, .inr (5, [.int 0, .ref e, .int 0]))] s.heap := hP
  have hl := lv_entry ([.ref h]) (n := 3) (Nat.le_of_ble_eq_true rfl)
  rw [lg_entry_eq]
  generalize (lg_sl ([.ref h]) ++ List.replicate (3 - (lg_sl ([.ref h])).length) Slot.unset).toArray = ls at hl ⊢
  have hl : lv_has ls 3 [(0, .ref h)] := hl
  refine lv_aload_n hx hb dX14_coversAgain_0 rfl (lv_at hl 0 rfl) ?_
  refine va_get (D := D) (ci := 20) (v := .ref m4) (C := RX14) (T := TX14) (N := 21) hx hb hts iw_RX14_wsX14_coversAgain hown hK hP 0 rfl rfl 9 (by decide) (hts (.fieldLink RX14 29 "CoatLineModel" "cells" "Ljava/util/List;") (by decide +kernel)) (fun _ h9 => h9) rfl dX14_coversAgain_1 ?_
  have hFc := va_free (wc := [(m4, .inr (5, [.int 0, .ref e, .int 0]))]) hD hS hA [1] rfl
  refine va_callFr (va_runF (As := []) (rest := []) (hK.1 5 _ rfl).2 ⟨hx, hb, hml, hown, hts⟩ (c_Jx4a65c_iterator_32c93 l hst D e m4 0 s.heap.size) (va_cwF 0 hts gX14_coversAgain_Jx4a65c_iterator_32c93_f231Jx4a65c rfl rfl rfl (ev_f hE (q := (RJx4a65c, ⟨"java/util/List", "iterator", "()Ljava/util/Iterator;"⟩, yJx4a65c_iterator_32c93)) (by decide +kernel)) (by decide +kernel) ⟨Nat.le_of_ble_eq_true rfl, Nat.le_of_ble_eq_true rfl⟩) ⟨cIn_blind, va_recv hK hP (ci := 5) (q0 := 1) rfl rfl, cIn_go hK hP hD hE hS hA [1] rfl rfl (by decide) [] rfl⟩ rfl rfl hl.1 rfl (lv_room (Nat.le_of_ble_eq_true rfl)) dX14_coversAgain_4 ⟨Nat.le_of_ble_eq_true rfl, Nat.le_of_ble_eq_true rfl⟩) hS (fun q _ h => hFc q h) hFc (fun u ra_2 t H1 locs ht hvm hw hB hz1 hk1 hS => ?_)
  obtain ⟨hP1, hK1, hD1⟩ := hB
  rw [ht] at hP1
  have hK1 := va_K.moved hvm.symm hK1
  obtain ⟨hP, hD⟩ := va_join (wr := [(h, .inr (20, [.int 0, .ref m1, .int 0, .int 0, .ref m2, .ref m3, .int 0, .int 4, .int (-40), .ref m4, .int 0, .int 20, .int 0, .ref m5, .ref fr, .int 100, .int 60, .int 14, .ref m6, .ref m7, .ref m8]))]) (w1 := [(m4, .inr (5, [.int 0, .ref e, .int 0])), (ra_2, .inr (4, [.int 0, .int (-1), .int 0, .ref m4]))]) hP hD [1] [0] rfl rfl (by decide) (by decide) hk1 hFc hP1 hD1
  generalize H1 = H at hP hS ⊢
  have hP : va_P D vwCl [(h, .inr (20, [.int 0, .ref m1, .int 0, .int 0, .ref m2, .ref m3, .int 0, .int 4, .int (-40), .ref m4, .int 0, .int 20, .int 0, .ref m5, .ref fr, .int 100, .int 60, .int 14, .ref m6, .ref m7, .ref m8])), (m4, .inr (5, [.int 0, .ref e, .int 0])), (ra_2, .inr (4, [.int 0, .int (-1), .int 0, .ref m4]))] H := hP
  have hD : va_D A [(h, .inr (20, [.int 0, .ref m1, .int 0, .int 0, .ref m2, .ref m3, .int 0, .int 4, .int (-40), .ref m4, .int 0, .int 20, .int 0, .ref m5, .ref fr, .int 100, .int 60, .int 14, .ref m6, .ref m7, .ref m8])), (m4, .inr (5, [.int 0, .ref e, .int 0])), (ra_2, .inr (4, [.int 0, .int (-1), .int 0, .ref m4]))] := hD
  refine W.widen (k := 1) (n := 4) (Nat.le_of_ble_eq_true rfl) (Nat.le_of_ble_eq_true rfl) ?_
  refine lv_astore_n (lv' := [(1, .ref ra_2), (0, .ref h)]) hx hb dX14_coversAgain_9 rfl hl (by decide) rfl (fun ls hl => ?_)
  refine lv_aload_n hx hb dX14_coversAgain_10 rfl (lv_at hl 0 rfl) ?_
  refine va_csFi (va_runF (As := []) (rest := []) (hK.1 4 _ rfl).2 ⟨hx, hb, hml, hown, hts⟩ (c_Jx35411_hasNext_aae02 l hst D e ra_2 m4 0 0 e H.size) (va_cwF 0 hts gX14_coversAgain_Jx35411_hasNext_aae02_f235Jx35411 rfl rfl rfl (ev_f hE (q := (RJx35411, ⟨"java/util/Iterator", "hasNext", "()Z"⟩, yJx35411_hasNext_aae02)) (by decide +kernel)) (by decide +kernel) ⟨Nat.le_of_ble_eq_true rfl, Nat.le_of_ble_eq_true rfl⟩) ⟨cIn_blind, va_recv hK hP (ci := 4) (q0 := 2) rfl rfl, cIn_go hK hP hD hE hS hA [2, 1] rfl rfl (by decide) [] rfl⟩ rfl rfl hl.1 rfl (lv_room (Nat.le_of_ble_eq_true rfl)) dX14_coversAgain_11 ⟨Nat.le_of_ble_eq_true rfl, Nat.le_of_ble_eq_true rfl⟩) (fun r_3 hw => ?_)
  have hw : r_3 = 0 := hw.trans (by first | rfl | decide +kernel)
  subst hw
  refine lv_if_eq (tgt := 46) hx hb dX14_coversAgain_16 (by decide) (fun c_4 => ?_) (fun c_4 => absurd (show (0 : Int32) = 0 from by decide +kernel) c_4)
  exact W.vret hx hb hr (fun t ht hW => ⟨⟨(), rfl, trivial, ⟨by rw [ht]; exact hP.sub [0, 1] rfl, va_K.moved hW.alike (hK.sub [] rfl), hD.sub [0, 1] (by decide) rfl⟩⟩, hS.F ht⟩) hS.2.2 dX14_coversAgain_46
-- X14_doubtAll
def v_X14_doubtAll (p0 : Int32) (p1 : Int32) : Int32 := if p0 = 0 then (if 0 ≤ p1 then 0 else 0) else 0
def k_X14_doubtAll (p0 : Int32) (p1 : Int32) : Int32 := if p0 = 0 then (if 0 ≤ p1 then 0 else 2) else 1
set_option maxHeartbeats 4000000 in
set_option maxRecDepth 100000 in
theorem c_X14_doubtAll (l : Launch) (hst : l.stackTraces = false) (D : va_G) (e : Nat) (h : Nat) (m1 : Nat) (m2 : Nat) (m3 : Nat) (m4 : Nat) (m5 : Nat) (m6 : Nat) (m7 : Nat) (m8 : Nat) (fr : Nat) (p0 : Int32) (p1 : Int32) (sz : Nat) : Met l yX14_doubtAll wsX14_doubtAll ({ frames := 24, cells := 3, slots := 18, locals := 580 }) (va_Pc [.ref h, .int p0, .int p1] (cIn D [] [(h, .inr (20, [.int 0, .ref m1, .int 0, .int 0, .ref m2, .ref m3, .int 0, .int 4, .int (-40), .ref m4, .int 0, .int 20, .int 0, .ref m5, .ref fr, .int 100, .int 60, .int 14, .ref m6, .ref m7, .ref m8])), (m1, .inr (5, [.int 0, .ref e, .int 0])), (m4, .inr (5, [.int 0, .ref e, .int 0])), (m8, .inr (5, [.int 0, .ref e, .int 0]))] e sz)) (va_Qi (fun (r : Int32) (u : Int32 × List Value) => u.1 = k_X14_doubtAll p0 p1 ∧ r = v_X14_doubtAll p0 p1) (fun (u : Int32 × List Value) (t : State) => va_P D vwCl [(h, .inr (20, .int u.1 :: u.2))] t.heap ∧ va_K D vwCl [] t ∧ va_D (va_A [(h, .inr (20, [.int 0, .ref m1, .int 0, .int 0, .ref m2, .ref m3, .int 0, .int 4, .int (-40), .ref m4, .int 0, .int 20, .int 0, .ref m5, .ref fr, .int 100, .int 60, .int 14, .ref m6, .ref m7, .ref m8])), (m1, .inr (5, [.int 0, .ref e, .int 0])), (m4, .inr (5, [.int 0, .ref e, .int 0])), (m8, .inr (5, [.int 0, .ref e, .int 0]))] sz) [(h, .inr (20, .int u.1 :: u.2))]) (va_A [(h, .inr (20, [.int 0, .ref m1, .int 0, .int 0, .ref m2, .ref m3, .int 0, .int 4, .int (-40), .ref m4, .int 0, .int 20, .int 0, .ref m5, .ref fr, .int 100, .int 60, .int 14, .ref m6, .ref m7, .ref m8])), (m1, .inr (5, [.int 0, .ref e, .int 0])), (m4, .inr (5, [.int 0, .ref e, .int 0])), (m8, .inr (5, [.int 0, .ref e, .int 0]))] sz)) 3 18 (va_A [(h, .inr (20, [.int 0, .ref m1, .int 0, .int 0, .ref m2, .ref m3, .int 0, .int 4, .int (-40), .ref m4, .int 0, .int 20, .int 0, .ref m5, .ref fr, .int 100, .int 60, .int 14, .ref m6, .ref m7, .ref m8])), (m1, .inr (5, [.int 0, .ref e, .int 0])), (m4, .inr (5, [.int 0, .ref e, .int 0])), (m8, .inr (5, [.int 0, .ref e, .int 0]))] sz) := by
  refine Met.ofW (cc := cX14_doubtAll) (maxL := 3) (ret := (some .int)) (by decide +kernel) rfl ?_
  intro p e9 s m args below meth c s₁ B hml hv
  obtain ⟨rfl, hsz, hP, hK, hD0, hE0⟩ := hv
  have hx := B.exec
  have hb := B.bytes
  have hr := B.returns
  have hts := atoms_spec (ws := wsX14_doubtAll) B.pre
  have hown : s.vm.findClass RX14 = some m.cls := findClass_of_methodNamed B.named
  have hlocks := B.notSynchronized
  subst hsz
  have hD := hD0.self (sz := s.heap.size)
  generalize hAe : va_A [(h, .inr (20, [.int 0, .ref m1, .int 0, .int 0, .ref m2, .ref m3, .int 0, .int 4, .int (-40), .ref m4, .int 0, .int 20, .int 0, .ref m5, .ref fr, .int 100, .int 60, .int 14, .ref m6, .ref m7, .ref m8])), (m1, .inr (5, [.int 0, .ref e, .int 0])), (m4, .inr (5, [.int 0, .ref e, .int 0])), (m8, .inr (5, [.int 0, .ref e, .int 0]))] s.heap.size = A at hD hE0 ⊢
  have hA : ∀ q : Nat, s.heap.size ≤ q → A q := fun q h => by rw [← hAe]; exact Or.inr h
  have hS : va_S A s.heap s.heap [] := va_S.rf
  have hE := hE0
  have hP : va_P D vwCl [(h, .inr (20, [.int 0, .ref m1, .int 0, .int 0, .ref m2, .ref m3, .int 0, .int 4, .int (-40), .ref m4, .int 0, .int 20, .int 0, .ref m5, .ref fr, .int 100, .int 60, .int 14, .ref m6, .ref m7, .ref m8])), (m1, .inr (5, [.int 0, .ref e, .int 0])), (m4, .inr (5, [.int 0, .ref e, .int 0])), (m8, .inr (5, [.int 0, .ref e, .int 0]))] s.heap := hP
  have hl := lv_entry ([.ref h, .int p0, .int p1]) (n := 3) (Nat.le_of_ble_eq_true rfl)
  rw [lg_entry_eq]
  generalize (lg_sl ([.ref h, .int p0, .int p1]) ++ List.replicate (3 - (lg_sl ([.ref h, .int p0, .int p1])).length) Slot.unset).toArray = ls at hl ⊢
  have hl : lv_has ls 3 [(0, .ref h), (1, .int p0), (2, .int p1)] := hl
  refine lv_aload_n hx hb dX14_doubtAll_0 rfl (lv_at hl 0 rfl) ?_
  refine lv_iload_n hx hb dX14_doubtAll_1 rfl (lv_at hl 1 rfl) ?_
  refine lv_if_eq (tgt := 20) hx hb dX14_doubtAll_2 (by decide) (fun c_1 => ?_) (fun c_1 => ?_)
  · refine lv_iload_n hx hb dX14_doubtAll_20 rfl (lv_at hl 1 rfl) ?_
    refine lv_if_ne (tgt := 32) hx hb dX14_doubtAll_21 (by decide) (fun c_2 => absurd c_1 c_2) (fun c_2 => ?_)
    refine lv_iload_n hx hb dX14_doubtAll_24 rfl (lv_at hl 2 rfl) ?_
    refine lv_if_ge (tgt := 32) hx hb dX14_doubtAll_25 (by decide) (fun c_3 => ?_) (fun c_3 => ?_)
    · refine lv_aload_n hx hb dX14_doubtAll_32 rfl (lv_at hl 0 rfl) ?_
      refine va_get (D := D) (ci := 20) (v := .ref m8) (C := RX14) (T := TX14) (N := 21) hx hb hts iw_RX14_wsX14_doubtAll hown hK hP 0 rfl rfl 20 (by decide) (hts (.fieldLink RX14 57 "CoatLineModel" "doubts" "Ljava/util/List;") (by decide +kernel)) (fun _ h9 => h9) rfl dX14_doubtAll_33 ?_
      refine va_csFi (va_runF (As := []) (rest := [.ref h]) (hK.1 5 _ rfl).2 ⟨hx, hb, hml, hown, hts⟩ (c_Jx4a65c_size_8abf5 l hst D e m8 0 e 0 s.heap.size) (va_cwF 0 hts gX14_doubtAll_Jx4a65c_size_8abf5_f63Jx4a65c rfl rfl rfl (ev_f hE (q := (RJx4a65c, ⟨"java/util/List", "size", "()I"⟩, yJx4a65c_size_8abf5)) (by decide +kernel)) (by decide +kernel) ⟨Nat.le_of_ble_eq_true rfl, Nat.le_of_ble_eq_true rfl⟩) ⟨cIn_blind, va_recv hK hP (ci := 5) (q0 := 3) rfl rfl, cIn_go hK hP hD hE hS hA [3] rfl rfl (by decide) [] rfl⟩ rfl rfl hl.1 rfl (lv_room (Nat.le_of_ble_eq_true rfl)) dX14_doubtAll_36 ⟨Nat.le_of_ble_eq_true rfl, Nat.le_of_ble_eq_true rfl⟩) (fun r_4 hw => ?_)
      have hw : r_4 = 0 := hw.trans (by first | rfl | decide +kernel)
      subst hw
      refine lv_bipush (v := 8) hx hb dX14_doubtAll_41 (by decide) ?_
      refine lv_icmp_ne (tgt := 50) hx hb dX14_doubtAll_43 (by decide) (fun c_5 => ?_) (fun c_5 => absurd c_5 (show ¬ ((0 : Int32) = 8) from by decide +kernel))
      refine lv_iconst (v := 0) hx hb dX14_doubtAll_50 (by decide) ?_
      have hFc := va_free (wc := [(h, .inr (20, [.int 0, .ref m1, .int 0, .int 0, .ref m2, .ref m3, .int 0, .int 4, .int (-40), .ref m4, .int 0, .int 20, .int 0, .ref m5, .ref fr, .int 100, .int 60, .int 14, .ref m6, .ref m7, .ref m8]))]) hD hS hA [0] rfl
      refine va_calli (va_runV (As := [.int 0]) (rest := []) ⟨hx, hb, hml, hown, hts⟩ (c_X14_isWrong l hst D e h 0 ([.ref m1, .int 0, .int 0, .ref m2, .ref m3, .int 0, .int 4, .int (-40), .ref m4, .int 0, .int 20, .int 0, .ref m5, .ref fr, .int 100, .int 60, .int 14, .ref m6, .ref m7, .ref m8]) 0 s.heap.size) (cwV 1 hts gX14_doubtAll_X14_isWrong rfl rfl rfl (by decide +kernel) ⟨Nat.le_of_ble_eq_true rfl, Nat.le_of_ble_eq_true rfl⟩) ⟨cIn_blind, va_recv hK hP (ci := 20) (q0 := 0) rfl rfl, cIn_go hK hP hD hE hS hA [0] rfl rfl (by decide) [] rfl⟩ rfl rfl hl.1 rfl (lv_room (Nat.le_of_ble_eq_true rfl)) dX14_doubtAll_51 ⟨Nat.le_of_ble_eq_true rfl, Nat.le_of_ble_eq_true rfl⟩) hS (fun q _ h => hFc q h) hFc (fun r_6 u t H1 locs ht hvm hw hB hz1 hk1 hS => ?_)
      obtain ⟨hP1, hK1, hD1⟩ := hB
      rw [ht] at hP1
      have hK1 := va_K.moved hvm.symm hK1
      obtain ⟨hP, hD⟩ := va_join (wr := [(m1, .inr (5, [.int 0, .ref e, .int 0])), (m4, .inr (5, [.int 0, .ref e, .int 0])), (m8, .inr (5, [.int 0, .ref e, .int 0]))]) (w1 := [(h, .inr (20, [.int 0, .ref m1, .int 0, .int 0, .ref m2, .ref m3, .int 0, .int 4, .int (-40), .ref m4, .int 0, .int 20, .int 0, .ref m5, .ref fr, .int 100, .int 60, .int 14, .ref m6, .ref m7, .ref m8]))]) hP hD [0] [1, 2, 3] rfl rfl (by decide) (by decide) hk1 hFc hP1 hD1
      generalize H1 = H at hP hS ⊢
      have hP : va_P D vwCl [(m1, .inr (5, [.int 0, .ref e, .int 0])), (m4, .inr (5, [.int 0, .ref e, .int 0])), (m8, .inr (5, [.int 0, .ref e, .int 0])), (h, .inr (20, [.int 0, .ref m1, .int 0, .int 0, .ref m2, .ref m3, .int 0, .int 4, .int (-40), .ref m4, .int 0, .int 20, .int 0, .ref m5, .ref fr, .int 100, .int 60, .int 14, .ref m6, .ref m7, .ref m8]))] H := hP
      have hD : va_D A [(m1, .inr (5, [.int 0, .ref e, .int 0])), (m4, .inr (5, [.int 0, .ref e, .int 0])), (m8, .inr (5, [.int 0, .ref e, .int 0])), (h, .inr (20, [.int 0, .ref m1, .int 0, .int 0, .ref m2, .ref m3, .int 0, .int 4, .int (-40), .ref m4, .int 0, .int 20, .int 0, .ref m5, .ref fr, .int 100, .int 60, .int 14, .ref m6, .ref m7, .ref m8]))] := hD
      have hw : r_6 = 0 := hw.trans (by first | rfl | decide +kernel)
      subst hw
      refine lv_if_eq (tgt := 59) hx hb dX14_doubtAll_54 (by decide) (fun c_8 => ?_) (fun c_8 => absurd (show (0 : Int32) = 0 from by decide +kernel) c_8)
      refine lv_aload_n hx hb dX14_doubtAll_59 rfl (lv_at hl 0 rfl) ?_
      refine va_get (D := D) (ci := 20) (v := .ref m8) (C := RX14) (T := TX14) (N := 21) hx hb hts iw_RX14_wsX14_doubtAll hown hK hP 3 rfl rfl 20 (by decide) (hts (.fieldLink RX14 57 "CoatLineModel" "doubts" "Ljava/util/List;") (by decide +kernel)) (fun _ h9 => h9) rfl dX14_doubtAll_60 ?_
      refine lv_iconst (v := 4) hx hb dX14_doubtAll_63 (by decide) ?_
      refine va_newa (D := D) (atype := .int) (ty := .int) (N' := 4) (a0 := (4, .inl (fun _ => 0))) hx hb (hts (.arrayClass .int) (by decide +kernel)) rfl hK hP hD hS hA (fun cA => rfl) (by decide) (by decide +kernel) (by decide) (Nat.le_of_ble_eq_true rfl) (Nat.le_of_ble_eq_true rfl) dX14_doubtAll_64 (fun q_9 cA_10 H hK hP hD hS => ?_)
      have hP : va_P D vwCl [(m1, .inr (5, [.int 0, .ref e, .int 0])), (m4, .inr (5, [.int 0, .ref e, .int 0])), (m8, .inr (5, [.int 0, .ref e, .int 0])), (h, .inr (20, [.int 0, .ref m1, .int 0, .int 0, .ref m2, .ref m3, .int 0, .int 4, .int (-40), .ref m4, .int 0, .int 20, .int 0, .ref m5, .ref fr, .int 100, .int 60, .int 14, .ref m6, .ref m7, .ref m8])), (q_9, .inl (cA_10, 4, .inl (fun _ => 0)))] H := hP
      have hD : va_D A [(m1, .inr (5, [.int 0, .ref e, .int 0])), (m4, .inr (5, [.int 0, .ref e, .int 0])), (m8, .inr (5, [.int 0, .ref e, .int 0])), (h, .inr (20, [.int 0, .ref m1, .int 0, .int 0, .ref m2, .ref m3, .int 0, .int 4, .int (-40), .ref m4, .int 0, .int 20, .int 0, .ref m5, .ref fr, .int 100, .int 60, .int 14, .ref m6, .ref m7, .ref m8])), (q_9, .inl (cA_10, 4, .inl (fun _ => 0)))] := hD
      have hK : va_K D vwCl [(cA_10, .int)] s := hK
      refine W.widen (k := 1) (n := 4) (Nat.le_of_ble_eq_true rfl) (Nat.le_of_ble_eq_true rfl) ?_
      refine lv_dup hx hb dX14_doubtAll_66 rfl ?_
      refine lv_iconst (v := 0) hx hb dX14_doubtAll_67 (by decide) ?_
      refine lv_iload_n hx hb dX14_doubtAll_68 rfl (lv_at hl 1 rfl) ?_
      refine lv_if_eq (tgt := 76) hx hb dX14_doubtAll_69 (by decide) (fun c_11 => ?_) (fun c_11 => absurd c_1 c_11)
      refine lv_iconst (v := 2) hx hb dX14_doubtAll_76 (by decide) ?_
      refine va_iast hx hb hK hP hD hS 4 0 rfl rfl (i := 0) (show ¬ ((0 : Int32) < 0 ∨ 4 ≤ (0 : Int32).toNatClampNeg) from by decide +kernel) dX14_doubtAll_77 (fun H locs hP hD hS => ?_)
      have hP : va_P D vwCl [(m1, .inr (5, [.int 0, .ref e, .int 0])), (m4, .inr (5, [.int 0, .ref e, .int 0])), (m8, .inr (5, [.int 0, .ref e, .int 0])), (h, .inr (20, [.int 0, .ref m1, .int 0, .int 0, .ref m2, .ref m3, .int 0, .int 4, .int (-40), .ref m4, .int 0, .int 20, .int 0, .ref m5, .ref fr, .int 100, .int 60, .int 14, .ref m6, .ref m7, .ref m8])), (q_9, .inl (cA_10, 4, .inl (upd (fun _ => 0) (0 : Int32).toNatClampNeg 2)))] H := hP
      have hD : va_D A [(m1, .inr (5, [.int 0, .ref e, .int 0])), (m4, .inr (5, [.int 0, .ref e, .int 0])), (m8, .inr (5, [.int 0, .ref e, .int 0])), (h, .inr (20, [.int 0, .ref m1, .int 0, .int 0, .ref m2, .ref m3, .int 0, .int 4, .int (-40), .ref m4, .int 0, .int 20, .int 0, .ref m5, .ref fr, .int 100, .int 60, .int 14, .ref m6, .ref m7, .ref m8])), (q_9, .inl (cA_10, 4, .inl (upd (fun _ => 0) (0 : Int32).toNatClampNeg 2)))] := hD
      refine lv_dup hx hb dX14_doubtAll_78 rfl ?_
      refine lv_iconst (v := 1) hx hb dX14_doubtAll_79 (by decide) ?_
      refine lv_iload_n hx hb dX14_doubtAll_80 rfl (lv_at hl 2 rfl) ?_
      refine va_iast hx hb hK hP hD hS 4 0 rfl rfl (i := 1) (show ¬ ((1 : Int32) < 0 ∨ 4 ≤ (1 : Int32).toNatClampNeg) from by decide +kernel) dX14_doubtAll_81 (fun H locs hP hD hS => ?_)
      have hP : va_P D vwCl [(m1, .inr (5, [.int 0, .ref e, .int 0])), (m4, .inr (5, [.int 0, .ref e, .int 0])), (m8, .inr (5, [.int 0, .ref e, .int 0])), (h, .inr (20, [.int 0, .ref m1, .int 0, .int 0, .ref m2, .ref m3, .int 0, .int 4, .int (-40), .ref m4, .int 0, .int 20, .int 0, .ref m5, .ref fr, .int 100, .int 60, .int 14, .ref m6, .ref m7, .ref m8])), (q_9, .inl (cA_10, 4, .inl (upd (upd (fun _ => 0) (0 : Int32).toNatClampNeg 2) (1 : Int32).toNatClampNeg p1)))] H := hP
      have hD : va_D A [(m1, .inr (5, [.int 0, .ref e, .int 0])), (m4, .inr (5, [.int 0, .ref e, .int 0])), (m8, .inr (5, [.int 0, .ref e, .int 0])), (h, .inr (20, [.int 0, .ref m1, .int 0, .int 0, .ref m2, .ref m3, .int 0, .int 4, .int (-40), .ref m4, .int 0, .int 20, .int 0, .ref m5, .ref fr, .int 100, .int 60, .int 14, .ref m6, .ref m7, .ref m8])), (q_9, .inl (cA_10, 4, .inl (upd (upd (fun _ => 0) (0 : Int32).toNatClampNeg 2) (1 : Int32).toNatClampNeg p1)))] := hD
      refine lv_dup hx hb dX14_doubtAll_82 rfl ?_
      refine lv_iconst (v := 2) hx hb dX14_doubtAll_83 (by decide) ?_
      refine lv_iconst (v := 0) hx hb dX14_doubtAll_84 (by decide) ?_
      refine va_iast hx hb hK hP hD hS 4 0 rfl rfl (i := 2) (show ¬ ((2 : Int32) < 0 ∨ 4 ≤ (2 : Int32).toNatClampNeg) from by decide +kernel) dX14_doubtAll_85 (fun H locs hP hD hS => ?_)
      have hP : va_P D vwCl [(m1, .inr (5, [.int 0, .ref e, .int 0])), (m4, .inr (5, [.int 0, .ref e, .int 0])), (m8, .inr (5, [.int 0, .ref e, .int 0])), (h, .inr (20, [.int 0, .ref m1, .int 0, .int 0, .ref m2, .ref m3, .int 0, .int 4, .int (-40), .ref m4, .int 0, .int 20, .int 0, .ref m5, .ref fr, .int 100, .int 60, .int 14, .ref m6, .ref m7, .ref m8])), (q_9, .inl (cA_10, 4, .inl (upd (upd (upd (fun _ => 0) (0 : Int32).toNatClampNeg 2) (1 : Int32).toNatClampNeg p1) (2 : Int32).toNatClampNeg 0)))] H := hP
      have hD : va_D A [(m1, .inr (5, [.int 0, .ref e, .int 0])), (m4, .inr (5, [.int 0, .ref e, .int 0])), (m8, .inr (5, [.int 0, .ref e, .int 0])), (h, .inr (20, [.int 0, .ref m1, .int 0, .int 0, .ref m2, .ref m3, .int 0, .int 4, .int (-40), .ref m4, .int 0, .int 20, .int 0, .ref m5, .ref fr, .int 100, .int 60, .int 14, .ref m6, .ref m7, .ref m8])), (q_9, .inl (cA_10, 4, .inl (upd (upd (upd (fun _ => 0) (0 : Int32).toNatClampNeg 2) (1 : Int32).toNatClampNeg p1) (2 : Int32).toNatClampNeg 0)))] := hD
      refine lv_dup hx hb dX14_doubtAll_86 rfl ?_
      refine lv_iconst (v := 3) hx hb dX14_doubtAll_87 (by decide) ?_
      refine lv_iconst (v := 0) hx hb dX14_doubtAll_88 (by decide) ?_
      refine va_iast hx hb hK hP hD hS 4 0 rfl rfl (i := 3) (show ¬ ((3 : Int32) < 0 ∨ 4 ≤ (3 : Int32).toNatClampNeg) from by decide +kernel) dX14_doubtAll_89 (fun H locs hP hD hS => ?_)
      have hP : va_P D vwCl [(m1, .inr (5, [.int 0, .ref e, .int 0])), (m4, .inr (5, [.int 0, .ref e, .int 0])), (m8, .inr (5, [.int 0, .ref e, .int 0])), (h, .inr (20, [.int 0, .ref m1, .int 0, .int 0, .ref m2, .ref m3, .int 0, .int 4, .int (-40), .ref m4, .int 0, .int 20, .int 0, .ref m5, .ref fr, .int 100, .int 60, .int 14, .ref m6, .ref m7, .ref m8])), (q_9, .inl (cA_10, 4, .inl (upd (upd (upd (upd (fun _ => 0) (0 : Int32).toNatClampNeg 2) (1 : Int32).toNatClampNeg p1) (2 : Int32).toNatClampNeg 0) (3 : Int32).toNatClampNeg 0)))] H := hP
      have hD : va_D A [(m1, .inr (5, [.int 0, .ref e, .int 0])), (m4, .inr (5, [.int 0, .ref e, .int 0])), (m8, .inr (5, [.int 0, .ref e, .int 0])), (h, .inr (20, [.int 0, .ref m1, .int 0, .int 0, .ref m2, .ref m3, .int 0, .int 4, .int (-40), .ref m4, .int 0, .int 20, .int 0, .ref m5, .ref fr, .int 100, .int 60, .int 14, .ref m6, .ref m7, .ref m8])), (q_9, .inl (cA_10, 4, .inl (upd (upd (upd (upd (fun _ => 0) (0 : Int32).toNatClampNeg 2) (1 : Int32).toNatClampNeg p1) (2 : Int32).toNatClampNeg 0) (3 : Int32).toNatClampNeg 0)))] := hD
      have hFc := va_free (wc := [(m8, .inr (5, [.int 0, .ref e, .int 0]))]) hD hS hA [2] rfl
      refine va_callFi (va_runF (As := [.ref q_9]) (rest := []) (hK.1 5 _ rfl).2 ⟨hx, hb, hml, hown, hts⟩ (c_Jx4a65c_add_9ea2d l hst D e m8 0 q_9 H.size) (va_cwF 1 hts gX14_doubtAll_Jx4a65c_add_9ea2d_f77Jx4a65c rfl rfl rfl (ev_f hE (q := (RJx4a65c, ⟨"java/util/List", "add", "(Ljava/lang/Object;)Z"⟩, yJx4a65c_add_9ea2d)) (by decide +kernel)) (by decide +kernel) ⟨Nat.le_of_ble_eq_true rfl, Nat.le_of_ble_eq_true rfl⟩) ⟨cAny_blind, va_recv hK hP (ci := 5) (q0 := 2) rfl rfl, cAny_go hK hP hD hE hS hA [2] rfl rfl (by decide) [] rfl (any_ints hK hP (q := 4) (t := 0) rfl rfl (ev_w hE (by decide +kernel))) (hP 4 _ rfl).lt (fun h9 => absurd (hD.1 4 2 _ _ rfl rfl h9) (by decide))⟩ rfl rfl hl.1 rfl (lv_room (Nat.le_of_ble_eq_true rfl)) dX14_doubtAll_90 ⟨Nat.le_of_ble_eq_true rfl, Nat.le_of_ble_eq_true rfl⟩) hS (fun q _ h => hFc q h) hFc (fun r_12 u t H1 locs ht hvm hw hB hz1 hk1 hS => ?_)
      obtain ⟨q_14, hP1, hK1, hD1⟩ := hB
      rw [ht] at hP1
      have hK1 := va_K.moved hvm.symm hK1
      obtain ⟨hP, hD⟩ := va_join (wr := [(m1, .inr (5, [.int 0, .ref e, .int 0])), (m4, .inr (5, [.int 0, .ref e, .int 0])), (h, .inr (20, [.int 0, .ref m1, .int 0, .int 0, .ref m2, .ref m3, .int 0, .int 4, .int (-40), .ref m4, .int 0, .int 20, .int 0, .ref m5, .ref fr, .int 100, .int 60, .int 14, .ref m6, .ref m7, .ref m8])), (q_9, .inl (cA_10, 4, .inl (upd (upd (upd (upd (fun _ => 0) (0 : Int32).toNatClampNeg 2) (1 : Int32).toNatClampNeg p1) (2 : Int32).toNatClampNeg 0) (3 : Int32).toNatClampNeg 0)))]) (w1 := [(m8, .inr (5, [.int (0 + 1), .ref q_14, .int 1]))]) hP hD [2] [0, 1, 3, 4] rfl rfl (by decide) (by decide) hk1 hFc hP1 hD1
      generalize H1 = H at hP hS ⊢
      have hP : va_P D vwCl [(m1, .inr (5, [.int 0, .ref e, .int 0])), (m4, .inr (5, [.int 0, .ref e, .int 0])), (h, .inr (20, [.int 0, .ref m1, .int 0, .int 0, .ref m2, .ref m3, .int 0, .int 4, .int (-40), .ref m4, .int 0, .int 20, .int 0, .ref m5, .ref fr, .int 100, .int 60, .int 14, .ref m6, .ref m7, .ref m8])), (q_9, .inl (cA_10, 4, .inl (upd (upd (upd (upd (fun _ => 0) (0 : Int32).toNatClampNeg 2) (1 : Int32).toNatClampNeg p1) (2 : Int32).toNatClampNeg 0) (3 : Int32).toNatClampNeg 0))), (m8, .inr (5, [.int (0 + 1), .ref q_14, .int 1]))] H := hP
      have hD : va_D A [(m1, .inr (5, [.int 0, .ref e, .int 0])), (m4, .inr (5, [.int 0, .ref e, .int 0])), (h, .inr (20, [.int 0, .ref m1, .int 0, .int 0, .ref m2, .ref m3, .int 0, .int 4, .int (-40), .ref m4, .int 0, .int 20, .int 0, .ref m5, .ref fr, .int 100, .int 60, .int 14, .ref m6, .ref m7, .ref m8])), (q_9, .inl (cA_10, 4, .inl (upd (upd (upd (upd (fun _ => 0) (0 : Int32).toNatClampNeg 2) (1 : Int32).toNatClampNeg p1) (2 : Int32).toNatClampNeg 0) (3 : Int32).toNatClampNeg 0))), (m8, .inr (5, [.int (0 + 1), .ref q_14, .int 1]))] := hD
      refine W.widen (k := 2) (n := 14) (Nat.le_of_ble_eq_true rfl) (Nat.le_of_ble_eq_true rfl) ?_
      have hw : r_12 = 1 := hw.trans (by first | rfl | decide +kernel)
      subst hw
      refine lv_pop hx hb dX14_doubtAll_95 rfl ?_
      refine lv_aload_n hx hb dX14_doubtAll_96 rfl (lv_at hl 0 rfl) ?_
      have hFc := va_free (wc := [(h, .inr (20, [.int 0, .ref m1, .int 0, .int 0, .ref m2, .ref m3, .int 0, .int 4, .int (-40), .ref m4, .int 0, .int 20, .int 0, .ref m5, .ref fr, .int 100, .int 60, .int 14, .ref m6, .ref m7, .ref m8])), (m4, .inr (5, [.int 0, .ref e, .int 0]))]) hD hS hA [2, 1] rfl
      refine va_callv (va_runV (As := []) (rest := []) ⟨hx, hb, hml, hown, hts⟩ (c_X14_coversAgain l hst D e h m1 m2 m3 m4 m5 m6 m7 m8 fr H.size) (cwV 0 hts gX14_doubtAll_X14_coversAgain rfl rfl rfl (by decide +kernel) ⟨Nat.le_of_ble_eq_true rfl, Nat.le_of_ble_eq_true rfl⟩) ⟨cIn_blind, va_recv hK hP (ci := 20) (q0 := 2) rfl rfl, cIn_go hK hP hD hE hS hA [2, 1] rfl rfl (by decide) [] rfl⟩ rfl rfl hl.1 rfl (lv_room (Nat.le_of_ble_eq_true rfl)) dX14_doubtAll_97 ⟨Nat.le_of_ble_eq_true rfl, Nat.le_of_ble_eq_true rfl⟩) hS (fun q _ h => hFc q h) hFc (fun u t H1 locs ht hvm hw hB hz1 hk1 hS => ?_)
      obtain ⟨hP1, hK1, hD1⟩ := hB
      rw [ht] at hP1
      have hK1 := va_K.moved hvm.symm hK1
      obtain ⟨hP, hD⟩ := va_join (wr := [(m1, .inr (5, [.int 0, .ref e, .int 0])), (q_9, .inl (cA_10, 4, .inl (upd (upd (upd (upd (fun _ => 0) (0 : Int32).toNatClampNeg 2) (1 : Int32).toNatClampNeg p1) (2 : Int32).toNatClampNeg 0) (3 : Int32).toNatClampNeg 0))), (m8, .inr (5, [.int (0 + 1), .ref q_14, .int 1]))]) (w1 := [(h, .inr (20, [.int 0, .ref m1, .int 0, .int 0, .ref m2, .ref m3, .int 0, .int 4, .int (-40), .ref m4, .int 0, .int 20, .int 0, .ref m5, .ref fr, .int 100, .int 60, .int 14, .ref m6, .ref m7, .ref m8])), (m4, .inr (5, [.int 0, .ref e, .int 0]))]) hP hD [2, 1] [0, 3, 4] rfl rfl (by decide) (by decide) hk1 hFc hP1 hD1
      generalize H1 = H at hP hS ⊢
      have hP : va_P D vwCl [(m1, .inr (5, [.int 0, .ref e, .int 0])), (q_9, .inl (cA_10, 4, .inl (upd (upd (upd (upd (fun _ => 0) (0 : Int32).toNatClampNeg 2) (1 : Int32).toNatClampNeg p1) (2 : Int32).toNatClampNeg 0) (3 : Int32).toNatClampNeg 0))), (m8, .inr (5, [.int (0 + 1), .ref q_14, .int 1])), (h, .inr (20, [.int 0, .ref m1, .int 0, .int 0, .ref m2, .ref m3, .int 0, .int 4, .int (-40), .ref m4, .int 0, .int 20, .int 0, .ref m5, .ref fr, .int 100, .int 60, .int 14, .ref m6, .ref m7, .ref m8])), (m4, .inr (5, [.int 0, .ref e, .int 0]))] H := hP
      have hD : va_D A [(m1, .inr (5, [.int 0, .ref e, .int 0])), (q_9, .inl (cA_10, 4, .inl (upd (upd (upd (upd (fun _ => 0) (0 : Int32).toNatClampNeg 2) (1 : Int32).toNatClampNeg p1) (2 : Int32).toNatClampNeg 0) (3 : Int32).toNatClampNeg 0))), (m8, .inr (5, [.int (0 + 1), .ref q_14, .int 1])), (h, .inr (20, [.int 0, .ref m1, .int 0, .int 0, .ref m2, .ref m3, .int 0, .int 4, .int (-40), .ref m4, .int 0, .int 20, .int 0, .ref m5, .ref fr, .int 100, .int 60, .int 14, .ref m6, .ref m7, .ref m8])), (m4, .inr (5, [.int 0, .ref e, .int 0]))] := hD
      refine W.widen (k := 3) (n := 18) (Nat.le_of_ble_eq_true rfl) (Nat.le_of_ble_eq_true rfl) ?_
      refine lv_aload_n hx hb dX14_doubtAll_100 rfl (lv_at hl 0 rfl) ?_
      refine va_get (D := D) (ci := 20) (v := .ref m8) (C := RX14) (T := TX14) (N := 21) hx hb hts iw_RX14_wsX14_doubtAll hown hK hP 3 rfl rfl 20 (by decide) (hts (.fieldLink RX14 57 "CoatLineModel" "doubts" "Ljava/util/List;") (by decide +kernel)) (fun _ h9 => h9) rfl dX14_doubtAll_101 ?_
      refine va_csFi (va_runF (As := []) (rest := []) (hK.1 5 _ rfl).2 ⟨hx, hb, hml, hown, hts⟩ (c_Jx4a65c_size_8abf5 l hst D e m8 (0 + 1) q_14 1 H.size) (va_cwF 0 hts gX14_doubtAll_Jx4a65c_size_8abf5_f63Jx4a65c rfl rfl rfl (ev_f hE (q := (RJx4a65c, ⟨"java/util/List", "size", "()I"⟩, yJx4a65c_size_8abf5)) (by decide +kernel)) (by decide +kernel) ⟨Nat.le_of_ble_eq_true rfl, Nat.le_of_ble_eq_true rfl⟩) ⟨cIn_blind, va_recv hK hP (ci := 5) (q0 := 2) rfl rfl, cIn_go hK hP hD hE hS hA [2] rfl rfl (by decide) [] rfl⟩ rfl rfl hl.1 rfl (lv_room (Nat.le_of_ble_eq_true rfl)) dX14_doubtAll_104 ⟨Nat.le_of_ble_eq_true rfl, Nat.le_of_ble_eq_true rfl⟩) (fun r_17 hw => ?_)
      have hw : r_17 = 1 := hw.trans (by first | rfl | decide +kernel)
      subst hw
      refine lv_iconst (v := 1) hx hb dX14_doubtAll_109 (by decide) ?_
      refine lv_isub hx hb dX14_doubtAll_110 ?_
      refine lv_topi (fun z_18 ez_18 => ?_)
      obtain rfl : z_18 = 0 := ez_18.trans (by decide +kernel)
      exact W.iret (v := 0) hx hb hr (fun t ht hW => ⟨⟨0, ((0, [.ref m1, .int 0, .int 0, .ref m2, .ref m3, .int 0, .int 4, .int (-40), .ref m4, .int 0, .int 20, .int 0, .ref m5, .ref fr, .int 100, .int 60, .int 14, .ref m6, .ref m7, .ref m8]) : Int32 × List Value), rfl, ⟨(by unfold k_X14_doubtAll; rw [if_pos c_1, if_pos c_3]), (by unfold v_X14_doubtAll; rw [if_pos c_1, if_pos c_3])⟩, ⟨by rw [ht]; exact hP.sub [3] rfl, va_K.moved hW.alike (hK.sub [] rfl), hD.sub [3] (by decide) rfl⟩⟩, hS.F ht⟩) hS.2.2 dX14_doubtAll_111
    · refine lv_iconst (v := 2) hx hb dX14_doubtAll_28 (by decide) ?_
      refine lv_goto (tgt := 51) hx hb dX14_doubtAll_29 (by decide) ?_
      have hFc := va_free (wc := [(h, .inr (20, [.int 0, .ref m1, .int 0, .int 0, .ref m2, .ref m3, .int 0, .int 4, .int (-40), .ref m4, .int 0, .int 20, .int 0, .ref m5, .ref fr, .int 100, .int 60, .int 14, .ref m6, .ref m7, .ref m8]))]) hD hS hA [0] rfl
      refine va_calli (va_runV (As := [.int 2]) (rest := []) ⟨hx, hb, hml, hown, hts⟩ (c_X14_isWrong l hst D e h 0 ([.ref m1, .int 0, .int 0, .ref m2, .ref m3, .int 0, .int 4, .int (-40), .ref m4, .int 0, .int 20, .int 0, .ref m5, .ref fr, .int 100, .int 60, .int 14, .ref m6, .ref m7, .ref m8]) 2 s.heap.size) (cwV 1 hts gX14_doubtAll_X14_isWrong rfl rfl rfl (by decide +kernel) ⟨Nat.le_of_ble_eq_true rfl, Nat.le_of_ble_eq_true rfl⟩) ⟨cIn_blind, va_recv hK hP (ci := 20) (q0 := 0) rfl rfl, cIn_go hK hP hD hE hS hA [0] rfl rfl (by decide) [] rfl⟩ rfl rfl hl.1 rfl (lv_room (Nat.le_of_ble_eq_true rfl)) dX14_doubtAll_51 ⟨Nat.le_of_ble_eq_true rfl, Nat.le_of_ble_eq_true rfl⟩) hS (fun q _ h => hFc q h) hFc (fun r_19 u t H1 locs ht hvm hw hB hz1 hk1 hS => ?_)
      obtain ⟨hP1, hK1, hD1⟩ := hB
      rw [ht] at hP1
      have hK1 := va_K.moved hvm.symm hK1
      obtain ⟨hP, hD⟩ := va_join (wr := [(m1, .inr (5, [.int 0, .ref e, .int 0])), (m4, .inr (5, [.int 0, .ref e, .int 0])), (m8, .inr (5, [.int 0, .ref e, .int 0]))]) (w1 := [(h, .inr (20, [.int 2, .ref m1, .int 0, .int 0, .ref m2, .ref m3, .int 0, .int 4, .int (-40), .ref m4, .int 0, .int 20, .int 0, .ref m5, .ref fr, .int 100, .int 60, .int 14, .ref m6, .ref m7, .ref m8]))]) hP hD [0] [1, 2, 3] rfl rfl (by decide) (by decide) hk1 hFc hP1 hD1
      generalize H1 = H at hP hS ⊢
      have hP : va_P D vwCl [(m1, .inr (5, [.int 0, .ref e, .int 0])), (m4, .inr (5, [.int 0, .ref e, .int 0])), (m8, .inr (5, [.int 0, .ref e, .int 0])), (h, .inr (20, [.int 2, .ref m1, .int 0, .int 0, .ref m2, .ref m3, .int 0, .int 4, .int (-40), .ref m4, .int 0, .int 20, .int 0, .ref m5, .ref fr, .int 100, .int 60, .int 14, .ref m6, .ref m7, .ref m8]))] H := hP
      have hD : va_D A [(m1, .inr (5, [.int 0, .ref e, .int 0])), (m4, .inr (5, [.int 0, .ref e, .int 0])), (m8, .inr (5, [.int 0, .ref e, .int 0])), (h, .inr (20, [.int 2, .ref m1, .int 0, .int 0, .ref m2, .ref m3, .int 0, .int 4, .int (-40), .ref m4, .int 0, .int 20, .int 0, .ref m5, .ref fr, .int 100, .int 60, .int 14, .ref m6, .ref m7, .ref m8]))] := hD
      have hw : r_19 = 1 := hw.trans (by first | rfl | decide +kernel)
      subst hw
      refine lv_if_eq (tgt := 59) hx hb dX14_doubtAll_54 (by decide) (fun c_21 => absurd c_21 (show ¬ ((1 : Int32) = 0) from by decide +kernel)) (fun c_21 => ?_)
      refine lv_iconst (v := 0) hx hb dX14_doubtAll_57 (by decide) ?_
      refine W.widen (k := 3) (n := 18) (Nat.le_of_ble_eq_true rfl) (Nat.le_of_ble_eq_true rfl) ?_
      exact W.iret (v := 0) hx hb hr (fun t ht hW => ⟨⟨0, ((2, [.ref m1, .int 0, .int 0, .ref m2, .ref m3, .int 0, .int 4, .int (-40), .ref m4, .int 0, .int 20, .int 0, .ref m5, .ref fr, .int 100, .int 60, .int 14, .ref m6, .ref m7, .ref m8]) : Int32 × List Value), rfl, ⟨(by unfold k_X14_doubtAll; rw [if_pos c_1, if_neg c_3]), (by unfold v_X14_doubtAll; rw [if_pos c_1, if_neg c_3])⟩, ⟨by rw [ht]; exact hP.sub [3] rfl, va_K.moved hW.alike (hK.sub [] rfl), hD.sub [3] (by decide) rfl⟩⟩, hS.F ht⟩) hS.2.2 dX14_doubtAll_58
  · refine lv_aload_n hx hb dX14_doubtAll_5 rfl (lv_at hl 0 rfl) ?_
    refine va_get (D := D) (ci := 20) (v := .ref m1) (C := RX14) (T := TX14) (N := 21) hx hb hts iw_RX14_wsX14_doubtAll hown hK hP 0 rfl rfl 1 (by decide) (hts (.fieldLink RX14 10 "CoatLineModel" "lots" "Ljava/util/List;") (by decide +kernel)) (fun _ h9 => h9) rfl dX14_doubtAll_6 ?_
    refine lv_iload_n hx hb dX14_doubtAll_9 rfl (lv_at hl 2 rfl) ?_
    refine vp_callSi (va_Run.run (va_runS (As := [.ref m1, .int p1]) (rest := [.ref h]) ⟨hx, hb, hml, hown, hts⟩ (c_X14_isOf l hst D e m1 0 e p1 s.heap.size) (va_cwS 2 hts gX14_doubtAll_X14_isOf rfl rfl rfl (by decide +kernel) ⟨Nat.le_of_ble_eq_true rfl, Nat.le_of_ble_eq_true rfl⟩) ⟨cIn_blind, cIn_go hK hP hD hE hS hA [1] rfl rfl (by decide) [] rfl⟩ rfl rfl hl.1 rfl (lv_room (Nat.le_of_ble_eq_true rfl)) dX14_doubtAll_10 ⟨Nat.le_of_ble_eq_true rfl, Nat.le_of_ble_eq_true rfl⟩)) (fun r_22 hw => ?_)
    have hw : r_22 = 0 := hw.trans (by first | rfl | decide +kernel)
    subst hw
    refine lv_if_ne (tgt := 20) hx hb dX14_doubtAll_13 (by decide) (fun c_23 => absurd (show (0 : Int32) = 0 from by decide +kernel) c_23) (fun c_23 => ?_)
    refine lv_iconst (v := 1) hx hb dX14_doubtAll_16 (by decide) ?_
    refine lv_goto (tgt := 51) hx hb dX14_doubtAll_17 (by decide) ?_
    have hFc := va_free (wc := [(h, .inr (20, [.int 0, .ref m1, .int 0, .int 0, .ref m2, .ref m3, .int 0, .int 4, .int (-40), .ref m4, .int 0, .int 20, .int 0, .ref m5, .ref fr, .int 100, .int 60, .int 14, .ref m6, .ref m7, .ref m8]))]) hD hS hA [0] rfl
    refine va_calli (va_runV (As := [.int 1]) (rest := []) ⟨hx, hb, hml, hown, hts⟩ (c_X14_isWrong l hst D e h 0 ([.ref m1, .int 0, .int 0, .ref m2, .ref m3, .int 0, .int 4, .int (-40), .ref m4, .int 0, .int 20, .int 0, .ref m5, .ref fr, .int 100, .int 60, .int 14, .ref m6, .ref m7, .ref m8]) 1 s.heap.size) (cwV 1 hts gX14_doubtAll_X14_isWrong rfl rfl rfl (by decide +kernel) ⟨Nat.le_of_ble_eq_true rfl, Nat.le_of_ble_eq_true rfl⟩) ⟨cIn_blind, va_recv hK hP (ci := 20) (q0 := 0) rfl rfl, cIn_go hK hP hD hE hS hA [0] rfl rfl (by decide) [] rfl⟩ rfl rfl hl.1 rfl (lv_room (Nat.le_of_ble_eq_true rfl)) dX14_doubtAll_51 ⟨Nat.le_of_ble_eq_true rfl, Nat.le_of_ble_eq_true rfl⟩) hS (fun q _ h => hFc q h) hFc (fun r_24 u t H1 locs ht hvm hw hB hz1 hk1 hS => ?_)
    obtain ⟨hP1, hK1, hD1⟩ := hB
    rw [ht] at hP1
    have hK1 := va_K.moved hvm.symm hK1
    obtain ⟨hP, hD⟩ := va_join (wr := [(m1, .inr (5, [.int 0, .ref e, .int 0])), (m4, .inr (5, [.int 0, .ref e, .int 0])), (m8, .inr (5, [.int 0, .ref e, .int 0]))]) (w1 := [(h, .inr (20, [.int 1, .ref m1, .int 0, .int 0, .ref m2, .ref m3, .int 0, .int 4, .int (-40), .ref m4, .int 0, .int 20, .int 0, .ref m5, .ref fr, .int 100, .int 60, .int 14, .ref m6, .ref m7, .ref m8]))]) hP hD [0] [1, 2, 3] rfl rfl (by decide) (by decide) hk1 hFc hP1 hD1
    generalize H1 = H at hP hS ⊢
    have hP : va_P D vwCl [(m1, .inr (5, [.int 0, .ref e, .int 0])), (m4, .inr (5, [.int 0, .ref e, .int 0])), (m8, .inr (5, [.int 0, .ref e, .int 0])), (h, .inr (20, [.int 1, .ref m1, .int 0, .int 0, .ref m2, .ref m3, .int 0, .int 4, .int (-40), .ref m4, .int 0, .int 20, .int 0, .ref m5, .ref fr, .int 100, .int 60, .int 14, .ref m6, .ref m7, .ref m8]))] H := hP
    have hD : va_D A [(m1, .inr (5, [.int 0, .ref e, .int 0])), (m4, .inr (5, [.int 0, .ref e, .int 0])), (m8, .inr (5, [.int 0, .ref e, .int 0])), (h, .inr (20, [.int 1, .ref m1, .int 0, .int 0, .ref m2, .ref m3, .int 0, .int 4, .int (-40), .ref m4, .int 0, .int 20, .int 0, .ref m5, .ref fr, .int 100, .int 60, .int 14, .ref m6, .ref m7, .ref m8]))] := hD
    have hw : r_24 = 1 := hw.trans (by first | rfl | decide +kernel)
    subst hw
    refine lv_if_eq (tgt := 59) hx hb dX14_doubtAll_54 (by decide) (fun c_26 => absurd c_26 (show ¬ ((1 : Int32) = 0) from by decide +kernel)) (fun c_26 => ?_)
    refine lv_iconst (v := 0) hx hb dX14_doubtAll_57 (by decide) ?_
    refine W.widen (k := 3) (n := 18) (Nat.le_of_ble_eq_true rfl) (Nat.le_of_ble_eq_true rfl) ?_
    exact W.iret (v := 0) hx hb hr (fun t ht hW => ⟨⟨0, ((1, [.ref m1, .int 0, .int 0, .ref m2, .ref m3, .int 0, .int 4, .int (-40), .ref m4, .int 0, .int 20, .int 0, .ref m5, .ref fr, .int 100, .int 60, .int 14, .ref m6, .ref m7, .ref m8]) : Int32 × List Value), rfl, ⟨(by unfold k_X14_doubtAll; rw [if_neg c_1]), (by unfold v_X14_doubtAll; rw [if_neg c_1])⟩, ⟨by rw [ht]; exact hP.sub [3] rfl, va_K.moved hW.alike (hK.sub [] rfl), hD.sub [3] (by decide) rfl⟩⟩, hS.F ht⟩) hS.2.2 dX14_doubtAll_58
-- X14_module
def v_X14_module (p0 : Int32) (p1 : Int32) : Int32 := if (v_X14_isBetween p0 2 6) = 0 then 0 else (if p1 = 97 then 0 else (if p1 = 98 then 0 else 0))
def k_X14_module (p0 : Int32) (p1 : Int32) : Int32 := if (v_X14_isBetween p0 2 6) = 0 then 1 else (if p1 = 97 then 2 else (if p1 = 98 then 2 else 1))
set_option maxHeartbeats 4000000 in
set_option maxRecDepth 100000 in
theorem c_X14_module (l : Launch) (hst : l.stackTraces = false) (D : va_G) (e : Nat) (h : Nat) (m1 : Nat) (m2 : Nat) (m3 : Nat) (m4 : Nat) (m5 : Nat) (m6 : Nat) (m7 : Nat) (m8 : Nat) (fr : Nat) (p0 : Int32) (p1 : Int32) (sz : Nat) : Met l yX14_module wsX14_module ({ frames := 24, cells := 1, slots := 3, locals := 580 }) (va_Pc [.ref h, .int p0, .int p1] (cIn D [] [(h, .inr (20, [.int 0, .ref m1, .int 0, .int 0, .ref m2, .ref m3, .int 0, .int 4, .int (-40), .ref m4, .int 0, .int 20, .int 0, .ref m5, .ref fr, .int 100, .int 60, .int 14, .ref m6, .ref m7, .ref m8])), (m4, .inr (5, [.int 0, .ref e, .int 0])), (m6, .inr (5, [.int 0, .ref e, .int 0]))] e sz)) (va_Qi (fun (r : Int32) (u : Int32 × List Value) => u.1 = k_X14_module p0 p1 ∧ r = v_X14_module p0 p1) (fun (u : Int32 × List Value) (t : State) => va_P D vwCl [(h, .inr (20, .int u.1 :: u.2))] t.heap ∧ va_K D vwCl [] t ∧ va_D (va_A [(h, .inr (20, [.int 0, .ref m1, .int 0, .int 0, .ref m2, .ref m3, .int 0, .int 4, .int (-40), .ref m4, .int 0, .int 20, .int 0, .ref m5, .ref fr, .int 100, .int 60, .int 14, .ref m6, .ref m7, .ref m8])), (m4, .inr (5, [.int 0, .ref e, .int 0])), (m6, .inr (5, [.int 0, .ref e, .int 0]))] sz) [(h, .inr (20, .int u.1 :: u.2))]) (va_A [(h, .inr (20, [.int 0, .ref m1, .int 0, .int 0, .ref m2, .ref m3, .int 0, .int 4, .int (-40), .ref m4, .int 0, .int 20, .int 0, .ref m5, .ref fr, .int 100, .int 60, .int 14, .ref m6, .ref m7, .ref m8])), (m4, .inr (5, [.int 0, .ref e, .int 0])), (m6, .inr (5, [.int 0, .ref e, .int 0]))] sz)) 1 3 (va_A [(h, .inr (20, [.int 0, .ref m1, .int 0, .int 0, .ref m2, .ref m3, .int 0, .int 4, .int (-40), .ref m4, .int 0, .int 20, .int 0, .ref m5, .ref fr, .int 100, .int 60, .int 14, .ref m6, .ref m7, .ref m8])), (m4, .inr (5, [.int 0, .ref e, .int 0])), (m6, .inr (5, [.int 0, .ref e, .int 0]))] sz) := by
  refine Met.ofW (cc := cX14_module) (maxL := 9) (ret := (some .int)) (by decide +kernel) rfl ?_
  intro p e9 s m args below meth c s₁ B hml hv
  obtain ⟨rfl, hsz, hP, hK, hD0, hE0⟩ := hv
  have hx := B.exec
  have hb := B.bytes
  have hr := B.returns
  have hts := atoms_spec (ws := wsX14_module) B.pre
  have hown : s.vm.findClass RX14 = some m.cls := findClass_of_methodNamed B.named
  have hlocks := B.notSynchronized
  subst hsz
  have hD := hD0.self (sz := s.heap.size)
  generalize hAe : va_A [(h, .inr (20, [.int 0, .ref m1, .int 0, .int 0, .ref m2, .ref m3, .int 0, .int 4, .int (-40), .ref m4, .int 0, .int 20, .int 0, .ref m5, .ref fr, .int 100, .int 60, .int 14, .ref m6, .ref m7, .ref m8])), (m4, .inr (5, [.int 0, .ref e, .int 0])), (m6, .inr (5, [.int 0, .ref e, .int 0]))] s.heap.size = A at hD hE0 ⊢
  have hA : ∀ q : Nat, s.heap.size ≤ q → A q := fun q h => by rw [← hAe]; exact Or.inr h
  have hS : va_S A s.heap s.heap [] := va_S.rf
  have hE := hE0
  have hP : va_P D vwCl [(h, .inr (20, [.int 0, .ref m1, .int 0, .int 0, .ref m2, .ref m3, .int 0, .int 4, .int (-40), .ref m4, .int 0, .int 20, .int 0, .ref m5, .ref fr, .int 100, .int 60, .int 14, .ref m6, .ref m7, .ref m8])), (m4, .inr (5, [.int 0, .ref e, .int 0])), (m6, .inr (5, [.int 0, .ref e, .int 0]))] s.heap := hP
  have hl := lv_entry ([.ref h, .int p0, .int p1]) (n := 9) (Nat.le_of_ble_eq_true rfl)
  rw [lg_entry_eq]
  generalize (lg_sl ([.ref h, .int p0, .int p1]) ++ List.replicate (9 - (lg_sl ([.ref h, .int p0, .int p1])).length) Slot.unset).toArray = ls at hl ⊢
  have hl : lv_has ls 9 [(0, .ref h), (1, .int p0), (2, .int p1)] := hl
  refine lv_aload_n hx hb dX14_module_0 rfl (lv_at hl 0 rfl) ?_
  refine lv_iload_n hx hb dX14_module_1 rfl (lv_at hl 1 rfl) ?_
  refine lv_iconst (v := 2) hx hb dX14_module_2 (by decide) ?_
  refine lv_bipush (v := 6) hx hb dX14_module_3 (by decide) ?_
  refine vp_callSi (va_Run.run (va_runS (As := [.int p0, .int 2, .int 6]) (rest := [.ref h]) ⟨hx, hb, hml, hown, hts⟩ (c_X14_isBetween l hst D e p0 2 6 s.heap.size) (va_cwS 3 hts gX14_module_X14_isBetween rfl rfl rfl (by decide +kernel) ⟨Nat.le_of_ble_eq_true rfl, Nat.le_of_ble_eq_true rfl⟩) ⟨cIn_blind, cIn_go hK hP hD hE hS hA [] rfl rfl (by decide) [] rfl⟩ rfl rfl hl.1 rfl (lv_room (Nat.le_of_ble_eq_true rfl)) dX14_module_5 ⟨Nat.le_of_ble_eq_true rfl, Nat.le_of_ble_eq_true rfl⟩)) (fun r_1 hw => ?_)
  subst hw
  refine lv_if_eq (tgt := 23) hx hb dX14_module_8 (by decide) (fun c_2 => ?_) (fun c_2 => ?_)
  · refine lv_iconst (v := 1) hx hb dX14_module_23 (by decide) ?_
    refine lv_goto (tgt := 28) hx hb dX14_module_24 (by decide) ?_
    have hFc := va_free (wc := [(h, .inr (20, [.int 0, .ref m1, .int 0, .int 0, .ref m2, .ref m3, .int 0, .int 4, .int (-40), .ref m4, .int 0, .int 20, .int 0, .ref m5, .ref fr, .int 100, .int 60, .int 14, .ref m6, .ref m7, .ref m8]))]) hD hS hA [0] rfl
    refine va_calli (va_runV (As := [.int 1]) (rest := []) ⟨hx, hb, hml, hown, hts⟩ (c_X14_isWrong l hst D e h 0 ([.ref m1, .int 0, .int 0, .ref m2, .ref m3, .int 0, .int 4, .int (-40), .ref m4, .int 0, .int 20, .int 0, .ref m5, .ref fr, .int 100, .int 60, .int 14, .ref m6, .ref m7, .ref m8]) 1 s.heap.size) (cwV 1 hts gX14_module_X14_isWrong rfl rfl rfl (by decide +kernel) ⟨Nat.le_of_ble_eq_true rfl, Nat.le_of_ble_eq_true rfl⟩) ⟨cIn_blind, va_recv hK hP (ci := 20) (q0 := 0) rfl rfl, cIn_go hK hP hD hE hS hA [0] rfl rfl (by decide) [] rfl⟩ rfl rfl hl.1 rfl (lv_room (Nat.le_of_ble_eq_true rfl)) dX14_module_28 ⟨Nat.le_of_ble_eq_true rfl, Nat.le_of_ble_eq_true rfl⟩) hS (fun q _ h => hFc q h) hFc (fun r_3 u t H1 locs ht hvm hw hB hz1 hk1 hS => ?_)
    obtain ⟨hP1, hK1, hD1⟩ := hB
    rw [ht] at hP1
    have hK1 := va_K.moved hvm.symm hK1
    obtain ⟨hP, hD⟩ := va_join (wr := [(m4, .inr (5, [.int 0, .ref e, .int 0])), (m6, .inr (5, [.int 0, .ref e, .int 0]))]) (w1 := [(h, .inr (20, [.int 1, .ref m1, .int 0, .int 0, .ref m2, .ref m3, .int 0, .int 4, .int (-40), .ref m4, .int 0, .int 20, .int 0, .ref m5, .ref fr, .int 100, .int 60, .int 14, .ref m6, .ref m7, .ref m8]))]) hP hD [0] [1, 2] rfl rfl (by decide) (by decide) hk1 hFc hP1 hD1
    generalize H1 = H at hP hS ⊢
    have hP : va_P D vwCl [(m4, .inr (5, [.int 0, .ref e, .int 0])), (m6, .inr (5, [.int 0, .ref e, .int 0])), (h, .inr (20, [.int 1, .ref m1, .int 0, .int 0, .ref m2, .ref m3, .int 0, .int 4, .int (-40), .ref m4, .int 0, .int 20, .int 0, .ref m5, .ref fr, .int 100, .int 60, .int 14, .ref m6, .ref m7, .ref m8]))] H := hP
    have hD : va_D A [(m4, .inr (5, [.int 0, .ref e, .int 0])), (m6, .inr (5, [.int 0, .ref e, .int 0])), (h, .inr (20, [.int 1, .ref m1, .int 0, .int 0, .ref m2, .ref m3, .int 0, .int 4, .int (-40), .ref m4, .int 0, .int 20, .int 0, .ref m5, .ref fr, .int 100, .int 60, .int 14, .ref m6, .ref m7, .ref m8]))] := hD
    have hw : r_3 = 1 := hw.trans (by first | rfl | decide +kernel)
    subst hw
    refine lv_if_eq (tgt := 36) hx hb dX14_module_31 (by decide) (fun c_5 => absurd c_5 (show ¬ ((1 : Int32) = 0) from by decide +kernel)) (fun c_5 => ?_)
    refine lv_iconst (v := 0) hx hb dX14_module_34 (by decide) ?_
    refine W.widen (k := 1) (n := 3) (Nat.le_of_ble_eq_true rfl) (Nat.le_of_ble_eq_true rfl) ?_
    exact W.iret (v := 0) hx hb hr (fun t ht hW => ⟨⟨0, ((1, [.ref m1, .int 0, .int 0, .ref m2, .ref m3, .int 0, .int 4, .int (-40), .ref m4, .int 0, .int 20, .int 0, .ref m5, .ref fr, .int 100, .int 60, .int 14, .ref m6, .ref m7, .ref m8]) : Int32 × List Value), rfl, ⟨(by unfold k_X14_module; rw [if_pos c_2]), (by unfold v_X14_module; rw [if_pos c_2])⟩, ⟨by rw [ht]; exact hP.sub [2] rfl, va_K.moved hW.alike (hK.sub [] rfl), hD.sub [2] (by decide) rfl⟩⟩, hS.F ht⟩) hS.2.2 dX14_module_35
  · refine lv_iload_n hx hb dX14_module_11 rfl (lv_at hl 2 rfl) ?_
    refine lv_bipush (v := 97) hx hb dX14_module_12 (by decide) ?_
    refine lv_icmp_eq (tgt := 27) hx hb dX14_module_14 (by decide) (fun c_6 => ?_) (fun c_6 => ?_)
    · refine lv_iconst (v := 0) hx hb dX14_module_27 (by decide) ?_
      have hFc := va_free (wc := [(h, .inr (20, [.int 0, .ref m1, .int 0, .int 0, .ref m2, .ref m3, .int 0, .int 4, .int (-40), .ref m4, .int 0, .int 20, .int 0, .ref m5, .ref fr, .int 100, .int 60, .int 14, .ref m6, .ref m7, .ref m8]))]) hD hS hA [0] rfl
      refine va_calli (va_runV (As := [.int 0]) (rest := []) ⟨hx, hb, hml, hown, hts⟩ (c_X14_isWrong l hst D e h 0 ([.ref m1, .int 0, .int 0, .ref m2, .ref m3, .int 0, .int 4, .int (-40), .ref m4, .int 0, .int 20, .int 0, .ref m5, .ref fr, .int 100, .int 60, .int 14, .ref m6, .ref m7, .ref m8]) 0 s.heap.size) (cwV 1 hts gX14_module_X14_isWrong rfl rfl rfl (by decide +kernel) ⟨Nat.le_of_ble_eq_true rfl, Nat.le_of_ble_eq_true rfl⟩) ⟨cIn_blind, va_recv hK hP (ci := 20) (q0 := 0) rfl rfl, cIn_go hK hP hD hE hS hA [0] rfl rfl (by decide) [] rfl⟩ rfl rfl hl.1 rfl (lv_room (Nat.le_of_ble_eq_true rfl)) dX14_module_28 ⟨Nat.le_of_ble_eq_true rfl, Nat.le_of_ble_eq_true rfl⟩) hS (fun q _ h => hFc q h) hFc (fun r_7 u t H1 locs ht hvm hw hB hz1 hk1 hS => ?_)
      obtain ⟨hP1, hK1, hD1⟩ := hB
      rw [ht] at hP1
      have hK1 := va_K.moved hvm.symm hK1
      obtain ⟨hP, hD⟩ := va_join (wr := [(m4, .inr (5, [.int 0, .ref e, .int 0])), (m6, .inr (5, [.int 0, .ref e, .int 0]))]) (w1 := [(h, .inr (20, [.int 0, .ref m1, .int 0, .int 0, .ref m2, .ref m3, .int 0, .int 4, .int (-40), .ref m4, .int 0, .int 20, .int 0, .ref m5, .ref fr, .int 100, .int 60, .int 14, .ref m6, .ref m7, .ref m8]))]) hP hD [0] [1, 2] rfl rfl (by decide) (by decide) hk1 hFc hP1 hD1
      generalize H1 = H at hP hS ⊢
      have hP : va_P D vwCl [(m4, .inr (5, [.int 0, .ref e, .int 0])), (m6, .inr (5, [.int 0, .ref e, .int 0])), (h, .inr (20, [.int 0, .ref m1, .int 0, .int 0, .ref m2, .ref m3, .int 0, .int 4, .int (-40), .ref m4, .int 0, .int 20, .int 0, .ref m5, .ref fr, .int 100, .int 60, .int 14, .ref m6, .ref m7, .ref m8]))] H := hP
      have hD : va_D A [(m4, .inr (5, [.int 0, .ref e, .int 0])), (m6, .inr (5, [.int 0, .ref e, .int 0])), (h, .inr (20, [.int 0, .ref m1, .int 0, .int 0, .ref m2, .ref m3, .int 0, .int 4, .int (-40), .ref m4, .int 0, .int 20, .int 0, .ref m5, .ref fr, .int 100, .int 60, .int 14, .ref m6, .ref m7, .ref m8]))] := hD
      have hw : r_7 = 0 := hw.trans (by first | rfl | decide +kernel)
      subst hw
      refine lv_if_eq (tgt := 36) hx hb dX14_module_31 (by decide) (fun c_9 => ?_) (fun c_9 => absurd (show (0 : Int32) = 0 from by decide +kernel) c_9)
      refine va_new (D := D) (ci := 5) (fs := [.int 0, .null, .int 0]) (C := RJx4a65c) (T := TJx4a65c) (N := 3) hx hb hts iw_RJx4a65c_wsX14_module tyJx4a65c tyJx4a65c_ok hown (hts (.classLink RX14 7 RJx4a65c) (by decide +kernel)) (hts (.instantiable RJx4a65c 3) (by decide +kernel)) (hts (.initialized RJx4a65c) (by decide +kernel)) hK hP hD hS hA rfl (fun j hj => by rcases (show j = 0 ∨ j = 1 ∨ j = 2 by omega) with rfl | rfl | rfl <;> rfl) (Nat.le_of_ble_eq_true rfl) (Nat.le_of_ble_eq_true rfl) dX14_module_36 (fun q_10 H hP hD hS => ?_)
      have hP : va_P D vwCl [(m4, .inr (5, [.int 0, .ref e, .int 0])), (m6, .inr (5, [.int 0, .ref e, .int 0])), (h, .inr (20, [.int 0, .ref m1, .int 0, .int 0, .ref m2, .ref m3, .int 0, .int 4, .int (-40), .ref m4, .int 0, .int 20, .int 0, .ref m5, .ref fr, .int 100, .int 60, .int 14, .ref m6, .ref m7, .ref m8])), (q_10, .inr (5, [.int 0, .null, .int 0]))] H := hP
      have hD : va_D A [(m4, .inr (5, [.int 0, .ref e, .int 0])), (m6, .inr (5, [.int 0, .ref e, .int 0])), (h, .inr (20, [.int 0, .ref m1, .int 0, .int 0, .ref m2, .ref m3, .int 0, .int 4, .int (-40), .ref m4, .int 0, .int 20, .int 0, .ref m5, .ref fr, .int 100, .int 60, .int 14, .ref m6, .ref m7, .ref m8])), (q_10, .inr (5, [.int 0, .null, .int 0]))] := hD
      refine W.widen (k := 1) (n := 3) (Nat.le_of_ble_eq_true rfl) (Nat.le_of_ble_eq_true rfl) ?_
      refine lv_dup hx hb dX14_module_39 rfl ?_
      have hFc := va_free (wc := [(q_10, .inr (5, [.int 0, .null, .int 0]))]) hD hS hA [3] rfl
      refine va_callv (va_runI (As := []) (rest := [.ref q_10]) ⟨hx, hb, hml, hown, hts⟩ (c_Jx4a65c_init_da8c8 l hst D e q_10 H.size) (cwI 0 hts gX14_module_Jx4a65c_init_da8c8 rfl rfl rfl (hts (.initialized RJx4a65c) (by decide +kernel)) (hts (.methodLink RX14 9 yJx4a65c_init_da8c8) (by decide +kernel)) (hts (.instanceMethod yJx4a65c_init_da8c8) (by decide +kernel)) rfl (by decide +kernel) ⟨Nat.le_of_ble_eq_true rfl, Nat.le_of_ble_eq_true rfl⟩) ⟨cIn_blind, cIn_go hK hP hD hE hS hA [3] rfl rfl (by decide) [] rfl⟩ rfl rfl hl.1 rfl (lv_room (Nat.le_of_ble_eq_true rfl)) dX14_module_40 ⟨Nat.le_of_ble_eq_true rfl, Nat.le_of_ble_eq_true rfl⟩) hS (fun q _ h => hFc q h) hFc (fun u t H1 locs ht hvm hw hB hz1 hk1 hS => ?_)
      obtain ⟨hP1, hK1, hD1⟩ := hB
      rw [ht] at hP1
      have hK1 := va_K.moved hvm.symm hK1
      obtain ⟨hP, hD⟩ := va_join (wr := [(m4, .inr (5, [.int 0, .ref e, .int 0])), (m6, .inr (5, [.int 0, .ref e, .int 0])), (h, .inr (20, [.int 0, .ref m1, .int 0, .int 0, .ref m2, .ref m3, .int 0, .int 4, .int (-40), .ref m4, .int 0, .int 20, .int 0, .ref m5, .ref fr, .int 100, .int 60, .int 14, .ref m6, .ref m7, .ref m8]))]) (w1 := [(q_10, .inr (5, [.int 0, .ref e, .int 0]))]) hP hD [3] [0, 1, 2] rfl rfl (by decide) (by decide) hk1 hFc hP1 hD1
      generalize H1 = H at hP hS ⊢
      have hP : va_P D vwCl [(m4, .inr (5, [.int 0, .ref e, .int 0])), (m6, .inr (5, [.int 0, .ref e, .int 0])), (h, .inr (20, [.int 0, .ref m1, .int 0, .int 0, .ref m2, .ref m3, .int 0, .int 4, .int (-40), .ref m4, .int 0, .int 20, .int 0, .ref m5, .ref fr, .int 100, .int 60, .int 14, .ref m6, .ref m7, .ref m8])), (q_10, .inr (5, [.int 0, .ref e, .int 0]))] H := hP
      have hD : va_D A [(m4, .inr (5, [.int 0, .ref e, .int 0])), (m6, .inr (5, [.int 0, .ref e, .int 0])), (h, .inr (20, [.int 0, .ref m1, .int 0, .int 0, .ref m2, .ref m3, .int 0, .int 4, .int (-40), .ref m4, .int 0, .int 20, .int 0, .ref m5, .ref fr, .int 100, .int 60, .int 14, .ref m6, .ref m7, .ref m8])), (q_10, .inr (5, [.int 0, .ref e, .int 0]))] := hD
      refine lv_astore_n (lv' := [(3, .ref q_10), (0, .ref h), (1, .int p0), (2, .int p1)]) hx hb dX14_module_43 rfl hl (by decide) rfl (fun ls hl => ?_)
      refine lv_iconst (v := 0) hx hb dX14_module_44 (by decide) ?_
      refine lv_istore (lv' := [(4, .int 0), (3, .ref q_10), (0, .ref h), (1, .int p0), (2, .int p1)]) hx hb dX14_module_45 hl (by decide) rfl (fun ls hl => ?_)
      refine lv_iload hx hb dX14_module_47 (lv_at hl 0 rfl) ?_
      refine lv_aload_n hx hb dX14_module_49 rfl (lv_at hl 2 rfl) ?_
      refine va_get (D := D) (ci := 20) (v := .ref m4) (C := RX14) (T := TX14) (N := 21) hx hb hts iw_RX14_wsX14_module hown hK hP 2 rfl rfl 9 (by decide) (hts (.fieldLink RX14 29 "CoatLineModel" "cells" "Ljava/util/List;") (by decide +kernel)) (fun _ h9 => h9) rfl dX14_module_50 ?_
      refine va_csFi (va_runF (As := []) (rest := [.int 0]) (hK.1 5 _ rfl).2 ⟨hx, hb, hml, hown, hts⟩ (c_Jx4a65c_size_8abf5 l hst D e m4 0 e 0 H.size) (va_cwF 0 hts gX14_module_Jx4a65c_size_8abf5_f63Jx4a65c rfl rfl rfl (ev_f hE (q := (RJx4a65c, ⟨"java/util/List", "size", "()I"⟩, yJx4a65c_size_8abf5)) (by decide +kernel)) (by decide +kernel) ⟨Nat.le_of_ble_eq_true rfl, Nat.le_of_ble_eq_true rfl⟩) ⟨cIn_blind, va_recv hK hP (ci := 5) (q0 := 0) rfl rfl, cIn_go hK hP hD hE hS hA [0] rfl rfl (by decide) [] rfl⟩ rfl rfl hl.1 rfl (lv_room (Nat.le_of_ble_eq_true rfl)) dX14_module_53 ⟨Nat.le_of_ble_eq_true rfl, Nat.le_of_ble_eq_true rfl⟩) (fun r_13 hw => ?_)
      have hw : r_13 = 0 := hw.trans (by first | rfl | decide +kernel)
      subst hw
      refine lv_icmp_ge (tgt := 123) hx hb dX14_module_58 (by decide) (fun c_14 => ?_) (fun c_14 => absurd (show (0 : Int32) ≤ 0 from by decide +kernel) c_14)
      refine lv_aload_n hx hb dX14_module_123 rfl (lv_at hl 2 rfl) ?_
      refine lv_aload_n hx hb dX14_module_124 rfl (lv_at hl 1 rfl) ?_
      refine va_csFi (va_runF (As := []) (rest := [.ref h]) (hK.1 5 _ rfl).2 ⟨hx, hb, hml, hown, hts⟩ (c_Jx4a65c_size_8abf5 l hst D e q_10 0 e 0 H.size) (va_cwF 0 hts gX14_module_Jx4a65c_size_8abf5_f63Jx4a65c rfl rfl rfl (ev_f hE (q := (RJx4a65c, ⟨"java/util/List", "size", "()I"⟩, yJx4a65c_size_8abf5)) (by decide +kernel)) (by decide +kernel) ⟨Nat.le_of_ble_eq_true rfl, Nat.le_of_ble_eq_true rfl⟩) ⟨cIn_blind, va_recv hK hP (ci := 5) (q0 := 3) rfl rfl, cIn_go hK hP hD hE hS hA [3] rfl rfl (by decide) [] rfl⟩ rfl rfl hl.1 rfl (lv_room (Nat.le_of_ble_eq_true rfl)) dX14_module_125 ⟨Nat.le_of_ble_eq_true rfl, Nat.le_of_ble_eq_true rfl⟩) (fun r_15 hw => ?_)
      have hw : r_15 = 0 := hw.trans (by first | rfl | decide +kernel)
      subst hw
      refine lv_iload_n hx hb dX14_module_130 rfl (lv_at hl 3 rfl) ?_
      refine lv_icmp_ge (tgt := 138) hx hb dX14_module_131 (by decide) (fun c_16 => absurd c_16 (bt_mod c_2)) (fun c_16 => ?_)
      refine lv_iconst (v := 2) hx hb dX14_module_134 (by decide) ?_
      refine lv_goto (tgt := 157) hx hb dX14_module_135 (by decide) ?_
      have hFc := va_free (wc := [(h, .inr (20, [.int 0, .ref m1, .int 0, .int 0, .ref m2, .ref m3, .int 0, .int 4, .int (-40), .ref m4, .int 0, .int 20, .int 0, .ref m5, .ref fr, .int 100, .int 60, .int 14, .ref m6, .ref m7, .ref m8]))]) hD hS hA [2] rfl
      refine va_calli (va_runV (As := [.int 2]) (rest := []) ⟨hx, hb, hml, hown, hts⟩ (c_X14_isWrong l hst D e h 0 ([.ref m1, .int 0, .int 0, .ref m2, .ref m3, .int 0, .int 4, .int (-40), .ref m4, .int 0, .int 20, .int 0, .ref m5, .ref fr, .int 100, .int 60, .int 14, .ref m6, .ref m7, .ref m8]) 2 H.size) (cwV 1 hts gX14_module_X14_isWrong rfl rfl rfl (by decide +kernel) ⟨Nat.le_of_ble_eq_true rfl, Nat.le_of_ble_eq_true rfl⟩) ⟨cIn_blind, va_recv hK hP (ci := 20) (q0 := 2) rfl rfl, cIn_go hK hP hD hE hS hA [2] rfl rfl (by decide) [] rfl⟩ rfl rfl hl.1 rfl (lv_room (Nat.le_of_ble_eq_true rfl)) dX14_module_157 ⟨Nat.le_of_ble_eq_true rfl, Nat.le_of_ble_eq_true rfl⟩) hS (fun q _ h => hFc q h) hFc (fun r_17 u t H1 locs ht hvm hw hB hz1 hk1 hS => ?_)
      obtain ⟨hP1, hK1, hD1⟩ := hB
      rw [ht] at hP1
      have hK1 := va_K.moved hvm.symm hK1
      obtain ⟨hP, hD⟩ := va_join (wr := [(m4, .inr (5, [.int 0, .ref e, .int 0])), (m6, .inr (5, [.int 0, .ref e, .int 0])), (q_10, .inr (5, [.int 0, .ref e, .int 0]))]) (w1 := [(h, .inr (20, [.int 2, .ref m1, .int 0, .int 0, .ref m2, .ref m3, .int 0, .int 4, .int (-40), .ref m4, .int 0, .int 20, .int 0, .ref m5, .ref fr, .int 100, .int 60, .int 14, .ref m6, .ref m7, .ref m8]))]) hP hD [2] [0, 1, 3] rfl rfl (by decide) (by decide) hk1 hFc hP1 hD1
      generalize H1 = H at hP hS ⊢
      have hP : va_P D vwCl [(m4, .inr (5, [.int 0, .ref e, .int 0])), (m6, .inr (5, [.int 0, .ref e, .int 0])), (q_10, .inr (5, [.int 0, .ref e, .int 0])), (h, .inr (20, [.int 2, .ref m1, .int 0, .int 0, .ref m2, .ref m3, .int 0, .int 4, .int (-40), .ref m4, .int 0, .int 20, .int 0, .ref m5, .ref fr, .int 100, .int 60, .int 14, .ref m6, .ref m7, .ref m8]))] H := hP
      have hD : va_D A [(m4, .inr (5, [.int 0, .ref e, .int 0])), (m6, .inr (5, [.int 0, .ref e, .int 0])), (q_10, .inr (5, [.int 0, .ref e, .int 0])), (h, .inr (20, [.int 2, .ref m1, .int 0, .int 0, .ref m2, .ref m3, .int 0, .int 4, .int (-40), .ref m4, .int 0, .int 20, .int 0, .ref m5, .ref fr, .int 100, .int 60, .int 14, .ref m6, .ref m7, .ref m8]))] := hD
      have hw : r_17 = 1 := hw.trans (by first | rfl | decide +kernel)
      subst hw
      refine lv_if_eq (tgt := 165) hx hb dX14_module_160 (by decide) (fun c_19 => absurd c_19 (show ¬ ((1 : Int32) = 0) from by decide +kernel)) (fun c_19 => ?_)
      refine lv_iconst (v := 0) hx hb dX14_module_163 (by decide) ?_
      exact W.iret (v := 0) hx hb hr (fun t ht hW => ⟨⟨0, ((2, [.ref m1, .int 0, .int 0, .ref m2, .ref m3, .int 0, .int 4, .int (-40), .ref m4, .int 0, .int 20, .int 0, .ref m5, .ref fr, .int 100, .int 60, .int 14, .ref m6, .ref m7, .ref m8]) : Int32 × List Value), rfl, ⟨(by unfold k_X14_module; rw [if_neg c_2, if_pos c_6]), (by unfold v_X14_module; rw [if_neg c_2, if_pos c_6])⟩, ⟨by rw [ht]; exact hP.sub [3] rfl, va_K.moved hW.alike (hK.sub [] rfl), hD.sub [3] (by decide) rfl⟩⟩, hS.F ht⟩) hS.2.2 dX14_module_164
    · refine lv_iload_n hx hb dX14_module_17 rfl (lv_at hl 2 rfl) ?_
      refine lv_bipush (v := 98) hx hb dX14_module_18 (by decide) ?_
      refine lv_icmp_eq (tgt := 27) hx hb dX14_module_20 (by decide) (fun c_20 => ?_) (fun c_20 => ?_)
      · refine lv_iconst (v := 0) hx hb dX14_module_27 (by decide) ?_
        have hFc := va_free (wc := [(h, .inr (20, [.int 0, .ref m1, .int 0, .int 0, .ref m2, .ref m3, .int 0, .int 4, .int (-40), .ref m4, .int 0, .int 20, .int 0, .ref m5, .ref fr, .int 100, .int 60, .int 14, .ref m6, .ref m7, .ref m8]))]) hD hS hA [0] rfl
        refine va_calli (va_runV (As := [.int 0]) (rest := []) ⟨hx, hb, hml, hown, hts⟩ (c_X14_isWrong l hst D e h 0 ([.ref m1, .int 0, .int 0, .ref m2, .ref m3, .int 0, .int 4, .int (-40), .ref m4, .int 0, .int 20, .int 0, .ref m5, .ref fr, .int 100, .int 60, .int 14, .ref m6, .ref m7, .ref m8]) 0 s.heap.size) (cwV 1 hts gX14_module_X14_isWrong rfl rfl rfl (by decide +kernel) ⟨Nat.le_of_ble_eq_true rfl, Nat.le_of_ble_eq_true rfl⟩) ⟨cIn_blind, va_recv hK hP (ci := 20) (q0 := 0) rfl rfl, cIn_go hK hP hD hE hS hA [0] rfl rfl (by decide) [] rfl⟩ rfl rfl hl.1 rfl (lv_room (Nat.le_of_ble_eq_true rfl)) dX14_module_28 ⟨Nat.le_of_ble_eq_true rfl, Nat.le_of_ble_eq_true rfl⟩) hS (fun q _ h => hFc q h) hFc (fun r_21 u t H1 locs ht hvm hw hB hz1 hk1 hS => ?_)
        obtain ⟨hP1, hK1, hD1⟩ := hB
        rw [ht] at hP1
        have hK1 := va_K.moved hvm.symm hK1
        obtain ⟨hP, hD⟩ := va_join (wr := [(m4, .inr (5, [.int 0, .ref e, .int 0])), (m6, .inr (5, [.int 0, .ref e, .int 0]))]) (w1 := [(h, .inr (20, [.int 0, .ref m1, .int 0, .int 0, .ref m2, .ref m3, .int 0, .int 4, .int (-40), .ref m4, .int 0, .int 20, .int 0, .ref m5, .ref fr, .int 100, .int 60, .int 14, .ref m6, .ref m7, .ref m8]))]) hP hD [0] [1, 2] rfl rfl (by decide) (by decide) hk1 hFc hP1 hD1
        generalize H1 = H at hP hS ⊢
        have hP : va_P D vwCl [(m4, .inr (5, [.int 0, .ref e, .int 0])), (m6, .inr (5, [.int 0, .ref e, .int 0])), (h, .inr (20, [.int 0, .ref m1, .int 0, .int 0, .ref m2, .ref m3, .int 0, .int 4, .int (-40), .ref m4, .int 0, .int 20, .int 0, .ref m5, .ref fr, .int 100, .int 60, .int 14, .ref m6, .ref m7, .ref m8]))] H := hP
        have hD : va_D A [(m4, .inr (5, [.int 0, .ref e, .int 0])), (m6, .inr (5, [.int 0, .ref e, .int 0])), (h, .inr (20, [.int 0, .ref m1, .int 0, .int 0, .ref m2, .ref m3, .int 0, .int 4, .int (-40), .ref m4, .int 0, .int 20, .int 0, .ref m5, .ref fr, .int 100, .int 60, .int 14, .ref m6, .ref m7, .ref m8]))] := hD
        have hw : r_21 = 0 := hw.trans (by first | rfl | decide +kernel)
        subst hw
        refine lv_if_eq (tgt := 36) hx hb dX14_module_31 (by decide) (fun c_23 => ?_) (fun c_23 => absurd (show (0 : Int32) = 0 from by decide +kernel) c_23)
        refine va_new (D := D) (ci := 5) (fs := [.int 0, .null, .int 0]) (C := RJx4a65c) (T := TJx4a65c) (N := 3) hx hb hts iw_RJx4a65c_wsX14_module tyJx4a65c tyJx4a65c_ok hown (hts (.classLink RX14 7 RJx4a65c) (by decide +kernel)) (hts (.instantiable RJx4a65c 3) (by decide +kernel)) (hts (.initialized RJx4a65c) (by decide +kernel)) hK hP hD hS hA rfl (fun j hj => by rcases (show j = 0 ∨ j = 1 ∨ j = 2 by omega) with rfl | rfl | rfl <;> rfl) (Nat.le_of_ble_eq_true rfl) (Nat.le_of_ble_eq_true rfl) dX14_module_36 (fun q_24 H hP hD hS => ?_)
        have hP : va_P D vwCl [(m4, .inr (5, [.int 0, .ref e, .int 0])), (m6, .inr (5, [.int 0, .ref e, .int 0])), (h, .inr (20, [.int 0, .ref m1, .int 0, .int 0, .ref m2, .ref m3, .int 0, .int 4, .int (-40), .ref m4, .int 0, .int 20, .int 0, .ref m5, .ref fr, .int 100, .int 60, .int 14, .ref m6, .ref m7, .ref m8])), (q_24, .inr (5, [.int 0, .null, .int 0]))] H := hP
        have hD : va_D A [(m4, .inr (5, [.int 0, .ref e, .int 0])), (m6, .inr (5, [.int 0, .ref e, .int 0])), (h, .inr (20, [.int 0, .ref m1, .int 0, .int 0, .ref m2, .ref m3, .int 0, .int 4, .int (-40), .ref m4, .int 0, .int 20, .int 0, .ref m5, .ref fr, .int 100, .int 60, .int 14, .ref m6, .ref m7, .ref m8])), (q_24, .inr (5, [.int 0, .null, .int 0]))] := hD
        refine W.widen (k := 1) (n := 3) (Nat.le_of_ble_eq_true rfl) (Nat.le_of_ble_eq_true rfl) ?_
        refine lv_dup hx hb dX14_module_39 rfl ?_
        have hFc := va_free (wc := [(q_24, .inr (5, [.int 0, .null, .int 0]))]) hD hS hA [3] rfl
        refine va_callv (va_runI (As := []) (rest := [.ref q_24]) ⟨hx, hb, hml, hown, hts⟩ (c_Jx4a65c_init_da8c8 l hst D e q_24 H.size) (cwI 0 hts gX14_module_Jx4a65c_init_da8c8 rfl rfl rfl (hts (.initialized RJx4a65c) (by decide +kernel)) (hts (.methodLink RX14 9 yJx4a65c_init_da8c8) (by decide +kernel)) (hts (.instanceMethod yJx4a65c_init_da8c8) (by decide +kernel)) rfl (by decide +kernel) ⟨Nat.le_of_ble_eq_true rfl, Nat.le_of_ble_eq_true rfl⟩) ⟨cIn_blind, cIn_go hK hP hD hE hS hA [3] rfl rfl (by decide) [] rfl⟩ rfl rfl hl.1 rfl (lv_room (Nat.le_of_ble_eq_true rfl)) dX14_module_40 ⟨Nat.le_of_ble_eq_true rfl, Nat.le_of_ble_eq_true rfl⟩) hS (fun q _ h => hFc q h) hFc (fun u t H1 locs ht hvm hw hB hz1 hk1 hS => ?_)
        obtain ⟨hP1, hK1, hD1⟩ := hB
        rw [ht] at hP1
        have hK1 := va_K.moved hvm.symm hK1
        obtain ⟨hP, hD⟩ := va_join (wr := [(m4, .inr (5, [.int 0, .ref e, .int 0])), (m6, .inr (5, [.int 0, .ref e, .int 0])), (h, .inr (20, [.int 0, .ref m1, .int 0, .int 0, .ref m2, .ref m3, .int 0, .int 4, .int (-40), .ref m4, .int 0, .int 20, .int 0, .ref m5, .ref fr, .int 100, .int 60, .int 14, .ref m6, .ref m7, .ref m8]))]) (w1 := [(q_24, .inr (5, [.int 0, .ref e, .int 0]))]) hP hD [3] [0, 1, 2] rfl rfl (by decide) (by decide) hk1 hFc hP1 hD1
        generalize H1 = H at hP hS ⊢
        have hP : va_P D vwCl [(m4, .inr (5, [.int 0, .ref e, .int 0])), (m6, .inr (5, [.int 0, .ref e, .int 0])), (h, .inr (20, [.int 0, .ref m1, .int 0, .int 0, .ref m2, .ref m3, .int 0, .int 4, .int (-40), .ref m4, .int 0, .int 20, .int 0, .ref m5, .ref fr, .int 100, .int 60, .int 14, .ref m6, .ref m7, .ref m8])), (q_24, .inr (5, [.int 0, .ref e, .int 0]))] H := hP
        have hD : va_D A [(m4, .inr (5, [.int 0, .ref e, .int 0])), (m6, .inr (5, [.int 0, .ref e, .int 0])), (h, .inr (20, [.int 0, .ref m1, .int 0, .int 0, .ref m2, .ref m3, .int 0, .int 4, .int (-40), .ref m4, .int 0, .int 20, .int 0, .ref m5, .ref fr, .int 100, .int 60, .int 14, .ref m6, .ref m7, .ref m8])), (q_24, .inr (5, [.int 0, .ref e, .int 0]))] := hD
        refine lv_astore_n (lv' := [(3, .ref q_24), (0, .ref h), (1, .int p0), (2, .int p1)]) hx hb dX14_module_43 rfl hl (by decide) rfl (fun ls hl => ?_)
        refine lv_iconst (v := 0) hx hb dX14_module_44 (by decide) ?_
        refine lv_istore (lv' := [(4, .int 0), (3, .ref q_24), (0, .ref h), (1, .int p0), (2, .int p1)]) hx hb dX14_module_45 hl (by decide) rfl (fun ls hl => ?_)
        refine lv_iload hx hb dX14_module_47 (lv_at hl 0 rfl) ?_
        refine lv_aload_n hx hb dX14_module_49 rfl (lv_at hl 2 rfl) ?_
        refine va_get (D := D) (ci := 20) (v := .ref m4) (C := RX14) (T := TX14) (N := 21) hx hb hts iw_RX14_wsX14_module hown hK hP 2 rfl rfl 9 (by decide) (hts (.fieldLink RX14 29 "CoatLineModel" "cells" "Ljava/util/List;") (by decide +kernel)) (fun _ h9 => h9) rfl dX14_module_50 ?_
        refine va_csFi (va_runF (As := []) (rest := [.int 0]) (hK.1 5 _ rfl).2 ⟨hx, hb, hml, hown, hts⟩ (c_Jx4a65c_size_8abf5 l hst D e m4 0 e 0 H.size) (va_cwF 0 hts gX14_module_Jx4a65c_size_8abf5_f63Jx4a65c rfl rfl rfl (ev_f hE (q := (RJx4a65c, ⟨"java/util/List", "size", "()I"⟩, yJx4a65c_size_8abf5)) (by decide +kernel)) (by decide +kernel) ⟨Nat.le_of_ble_eq_true rfl, Nat.le_of_ble_eq_true rfl⟩) ⟨cIn_blind, va_recv hK hP (ci := 5) (q0 := 0) rfl rfl, cIn_go hK hP hD hE hS hA [0] rfl rfl (by decide) [] rfl⟩ rfl rfl hl.1 rfl (lv_room (Nat.le_of_ble_eq_true rfl)) dX14_module_53 ⟨Nat.le_of_ble_eq_true rfl, Nat.le_of_ble_eq_true rfl⟩) (fun r_27 hw => ?_)
        have hw : r_27 = 0 := hw.trans (by first | rfl | decide +kernel)
        subst hw
        refine lv_icmp_ge (tgt := 123) hx hb dX14_module_58 (by decide) (fun c_28 => ?_) (fun c_28 => absurd (show (0 : Int32) ≤ 0 from by decide +kernel) c_28)
        refine lv_aload_n hx hb dX14_module_123 rfl (lv_at hl 2 rfl) ?_
        refine lv_aload_n hx hb dX14_module_124 rfl (lv_at hl 1 rfl) ?_
        refine va_csFi (va_runF (As := []) (rest := [.ref h]) (hK.1 5 _ rfl).2 ⟨hx, hb, hml, hown, hts⟩ (c_Jx4a65c_size_8abf5 l hst D e q_24 0 e 0 H.size) (va_cwF 0 hts gX14_module_Jx4a65c_size_8abf5_f63Jx4a65c rfl rfl rfl (ev_f hE (q := (RJx4a65c, ⟨"java/util/List", "size", "()I"⟩, yJx4a65c_size_8abf5)) (by decide +kernel)) (by decide +kernel) ⟨Nat.le_of_ble_eq_true rfl, Nat.le_of_ble_eq_true rfl⟩) ⟨cIn_blind, va_recv hK hP (ci := 5) (q0 := 3) rfl rfl, cIn_go hK hP hD hE hS hA [3] rfl rfl (by decide) [] rfl⟩ rfl rfl hl.1 rfl (lv_room (Nat.le_of_ble_eq_true rfl)) dX14_module_125 ⟨Nat.le_of_ble_eq_true rfl, Nat.le_of_ble_eq_true rfl⟩) (fun r_29 hw => ?_)
        have hw : r_29 = 0 := hw.trans (by first | rfl | decide +kernel)
        subst hw
        refine lv_iload_n hx hb dX14_module_130 rfl (lv_at hl 3 rfl) ?_
        refine lv_icmp_ge (tgt := 138) hx hb dX14_module_131 (by decide) (fun c_30 => absurd c_30 (bt_mod c_2)) (fun c_30 => ?_)
        refine lv_iconst (v := 2) hx hb dX14_module_134 (by decide) ?_
        refine lv_goto (tgt := 157) hx hb dX14_module_135 (by decide) ?_
        have hFc := va_free (wc := [(h, .inr (20, [.int 0, .ref m1, .int 0, .int 0, .ref m2, .ref m3, .int 0, .int 4, .int (-40), .ref m4, .int 0, .int 20, .int 0, .ref m5, .ref fr, .int 100, .int 60, .int 14, .ref m6, .ref m7, .ref m8]))]) hD hS hA [2] rfl
        refine va_calli (va_runV (As := [.int 2]) (rest := []) ⟨hx, hb, hml, hown, hts⟩ (c_X14_isWrong l hst D e h 0 ([.ref m1, .int 0, .int 0, .ref m2, .ref m3, .int 0, .int 4, .int (-40), .ref m4, .int 0, .int 20, .int 0, .ref m5, .ref fr, .int 100, .int 60, .int 14, .ref m6, .ref m7, .ref m8]) 2 H.size) (cwV 1 hts gX14_module_X14_isWrong rfl rfl rfl (by decide +kernel) ⟨Nat.le_of_ble_eq_true rfl, Nat.le_of_ble_eq_true rfl⟩) ⟨cIn_blind, va_recv hK hP (ci := 20) (q0 := 2) rfl rfl, cIn_go hK hP hD hE hS hA [2] rfl rfl (by decide) [] rfl⟩ rfl rfl hl.1 rfl (lv_room (Nat.le_of_ble_eq_true rfl)) dX14_module_157 ⟨Nat.le_of_ble_eq_true rfl, Nat.le_of_ble_eq_true rfl⟩) hS (fun q _ h => hFc q h) hFc (fun r_31 u t H1 locs ht hvm hw hB hz1 hk1 hS => ?_)
        obtain ⟨hP1, hK1, hD1⟩ := hB
        rw [ht] at hP1
        have hK1 := va_K.moved hvm.symm hK1
        obtain ⟨hP, hD⟩ := va_join (wr := [(m4, .inr (5, [.int 0, .ref e, .int 0])), (m6, .inr (5, [.int 0, .ref e, .int 0])), (q_24, .inr (5, [.int 0, .ref e, .int 0]))]) (w1 := [(h, .inr (20, [.int 2, .ref m1, .int 0, .int 0, .ref m2, .ref m3, .int 0, .int 4, .int (-40), .ref m4, .int 0, .int 20, .int 0, .ref m5, .ref fr, .int 100, .int 60, .int 14, .ref m6, .ref m7, .ref m8]))]) hP hD [2] [0, 1, 3] rfl rfl (by decide) (by decide) hk1 hFc hP1 hD1
        generalize H1 = H at hP hS ⊢
        have hP : va_P D vwCl [(m4, .inr (5, [.int 0, .ref e, .int 0])), (m6, .inr (5, [.int 0, .ref e, .int 0])), (q_24, .inr (5, [.int 0, .ref e, .int 0])), (h, .inr (20, [.int 2, .ref m1, .int 0, .int 0, .ref m2, .ref m3, .int 0, .int 4, .int (-40), .ref m4, .int 0, .int 20, .int 0, .ref m5, .ref fr, .int 100, .int 60, .int 14, .ref m6, .ref m7, .ref m8]))] H := hP
        have hD : va_D A [(m4, .inr (5, [.int 0, .ref e, .int 0])), (m6, .inr (5, [.int 0, .ref e, .int 0])), (q_24, .inr (5, [.int 0, .ref e, .int 0])), (h, .inr (20, [.int 2, .ref m1, .int 0, .int 0, .ref m2, .ref m3, .int 0, .int 4, .int (-40), .ref m4, .int 0, .int 20, .int 0, .ref m5, .ref fr, .int 100, .int 60, .int 14, .ref m6, .ref m7, .ref m8]))] := hD
        have hw : r_31 = 1 := hw.trans (by first | rfl | decide +kernel)
        subst hw
        refine lv_if_eq (tgt := 165) hx hb dX14_module_160 (by decide) (fun c_33 => absurd c_33 (show ¬ ((1 : Int32) = 0) from by decide +kernel)) (fun c_33 => ?_)
        refine lv_iconst (v := 0) hx hb dX14_module_163 (by decide) ?_
        exact W.iret (v := 0) hx hb hr (fun t ht hW => ⟨⟨0, ((2, [.ref m1, .int 0, .int 0, .ref m2, .ref m3, .int 0, .int 4, .int (-40), .ref m4, .int 0, .int 20, .int 0, .ref m5, .ref fr, .int 100, .int 60, .int 14, .ref m6, .ref m7, .ref m8]) : Int32 × List Value), rfl, ⟨(by unfold k_X14_module; rw [if_neg c_2, if_neg c_6, if_pos c_20]), (by unfold v_X14_module; rw [if_neg c_2, if_neg c_6, if_pos c_20])⟩, ⟨by rw [ht]; exact hP.sub [3] rfl, va_K.moved hW.alike (hK.sub [] rfl), hD.sub [3] (by decide) rfl⟩⟩, hS.F ht⟩) hS.2.2 dX14_module_164
      · refine lv_iconst (v := 1) hx hb dX14_module_23 (by decide) ?_
        refine lv_goto (tgt := 28) hx hb dX14_module_24 (by decide) ?_
        have hFc := va_free (wc := [(h, .inr (20, [.int 0, .ref m1, .int 0, .int 0, .ref m2, .ref m3, .int 0, .int 4, .int (-40), .ref m4, .int 0, .int 20, .int 0, .ref m5, .ref fr, .int 100, .int 60, .int 14, .ref m6, .ref m7, .ref m8]))]) hD hS hA [0] rfl
        refine va_calli (va_runV (As := [.int 1]) (rest := []) ⟨hx, hb, hml, hown, hts⟩ (c_X14_isWrong l hst D e h 0 ([.ref m1, .int 0, .int 0, .ref m2, .ref m3, .int 0, .int 4, .int (-40), .ref m4, .int 0, .int 20, .int 0, .ref m5, .ref fr, .int 100, .int 60, .int 14, .ref m6, .ref m7, .ref m8]) 1 s.heap.size) (cwV 1 hts gX14_module_X14_isWrong rfl rfl rfl (by decide +kernel) ⟨Nat.le_of_ble_eq_true rfl, Nat.le_of_ble_eq_true rfl⟩) ⟨cIn_blind, va_recv hK hP (ci := 20) (q0 := 0) rfl rfl, cIn_go hK hP hD hE hS hA [0] rfl rfl (by decide) [] rfl⟩ rfl rfl hl.1 rfl (lv_room (Nat.le_of_ble_eq_true rfl)) dX14_module_28 ⟨Nat.le_of_ble_eq_true rfl, Nat.le_of_ble_eq_true rfl⟩) hS (fun q _ h => hFc q h) hFc (fun r_34 u t H1 locs ht hvm hw hB hz1 hk1 hS => ?_)
        obtain ⟨hP1, hK1, hD1⟩ := hB
        rw [ht] at hP1
        have hK1 := va_K.moved hvm.symm hK1
        obtain ⟨hP, hD⟩ := va_join (wr := [(m4, .inr (5, [.int 0, .ref e, .int 0])), (m6, .inr (5, [.int 0, .ref e, .int 0]))]) (w1 := [(h, .inr (20, [.int 1, .ref m1, .int 0, .int 0, .ref m2, .ref m3, .int 0, .int 4, .int (-40), .ref m4, .int 0, .int 20, .int 0, .ref m5, .ref fr, .int 100, .int 60, .int 14, .ref m6, .ref m7, .ref m8]))]) hP hD [0] [1, 2] rfl rfl (by decide) (by decide) hk1 hFc hP1 hD1
        generalize H1 = H at hP hS ⊢
        have hP : va_P D vwCl [(m4, .inr (5, [.int 0, .ref e, .int 0])), (m6, .inr (5, [.int 0, .ref e, .int 0])), (h, .inr (20, [.int 1, .ref m1, .int 0, .int 0, .ref m2, .ref m3, .int 0, .int 4, .int (-40), .ref m4, .int 0, .int 20, .int 0, .ref m5, .ref fr, .int 100, .int 60, .int 14, .ref m6, .ref m7, .ref m8]))] H := hP
        have hD : va_D A [(m4, .inr (5, [.int 0, .ref e, .int 0])), (m6, .inr (5, [.int 0, .ref e, .int 0])), (h, .inr (20, [.int 1, .ref m1, .int 0, .int 0, .ref m2, .ref m3, .int 0, .int 4, .int (-40), .ref m4, .int 0, .int 20, .int 0, .ref m5, .ref fr, .int 100, .int 60, .int 14, .ref m6, .ref m7, .ref m8]))] := hD
        have hw : r_34 = 1 := hw.trans (by first | rfl | decide +kernel)
        subst hw
        refine lv_if_eq (tgt := 36) hx hb dX14_module_31 (by decide) (fun c_36 => absurd c_36 (show ¬ ((1 : Int32) = 0) from by decide +kernel)) (fun c_36 => ?_)
        refine lv_iconst (v := 0) hx hb dX14_module_34 (by decide) ?_
        refine W.widen (k := 1) (n := 3) (Nat.le_of_ble_eq_true rfl) (Nat.le_of_ble_eq_true rfl) ?_
        exact W.iret (v := 0) hx hb hr (fun t ht hW => ⟨⟨0, ((1, [.ref m1, .int 0, .int 0, .ref m2, .ref m3, .int 0, .int 4, .int (-40), .ref m4, .int 0, .int 20, .int 0, .ref m5, .ref fr, .int 100, .int 60, .int 14, .ref m6, .ref m7, .ref m8]) : Int32 × List Value), rfl, ⟨(by unfold k_X14_module; rw [if_neg c_2, if_neg c_6, if_neg c_20]), (by unfold v_X14_module; rw [if_neg c_2, if_neg c_6, if_neg c_20])⟩, ⟨by rw [ht]; exact hP.sub [2] rfl, va_K.moved hW.alike (hK.sub [] rfl), hD.sub [2] (by decide) rfl⟩⟩, hS.F ht⟩) hS.2.2 dX14_module_35
-- X14_freeAt
def v_X14_freeAt (p0 : Int32) : Int32 := if (v_X14_isBetween p0 0 3) = 0 then 0 else 0
def k_X14_freeAt (p0 : Int32) : Int32 := if (v_X14_isBetween p0 0 3) = 0 then 1 else 0
set_option maxHeartbeats 4000000 in
set_option maxRecDepth 100000 in
theorem c_X14_freeAt (l : Launch) (hst : l.stackTraces = false) (D : va_G) (e : Nat) (h : Nat) (m1 : Nat) (m2 : Nat) (m3 : Nat) (m4 : Nat) (m5 : Nat) (m6 : Nat) (m7 : Nat) (m8 : Nat) (fr : Nat) (cI : ClassId) (p0 : Int32) (sz : Nat) : Met l yX14_freeAt wsX14_freeAt ({ frames := 16, cells := 0, slots := 0, locals := 340 }) (va_Pc [.ref h, .int p0] (cIn D [(cI, .int)] [(h, .inr (20, [.int 0, .ref m1, .int 0, .int 0, .ref m2, .ref m3, .int 0, .int 4, .int (-40), .ref m4, .int 0, .int 20, .int 0, .ref m5, .ref fr, .int 100, .int 60, .int 14, .ref m6, .ref m7, .ref m8])), (fr, .inl (cI, 4, .inl (fun _ => 0)))] e sz)) (va_Qi (fun (r : Int32) (u : Int32 × List Value) => u.1 = k_X14_freeAt p0 ∧ r = v_X14_freeAt p0) (fun (u : Int32 × List Value) (t : State) => va_P D vwCl [(h, .inr (20, .int u.1 :: u.2))] t.heap ∧ va_K D vwCl [] t ∧ va_D (va_A [(h, .inr (20, [.int 0, .ref m1, .int 0, .int 0, .ref m2, .ref m3, .int 0, .int 4, .int (-40), .ref m4, .int 0, .int 20, .int 0, .ref m5, .ref fr, .int 100, .int 60, .int 14, .ref m6, .ref m7, .ref m8])), (fr, .inl (cI, 4, .inl (fun _ => 0)))] sz) [(h, .inr (20, .int u.1 :: u.2))]) (va_A [(h, .inr (20, [.int 0, .ref m1, .int 0, .int 0, .ref m2, .ref m3, .int 0, .int 4, .int (-40), .ref m4, .int 0, .int 20, .int 0, .ref m5, .ref fr, .int 100, .int 60, .int 14, .ref m6, .ref m7, .ref m8])), (fr, .inl (cI, 4, .inl (fun _ => 0)))] sz)) 0 0 (va_A [(h, .inr (20, [.int 0, .ref m1, .int 0, .int 0, .ref m2, .ref m3, .int 0, .int 4, .int (-40), .ref m4, .int 0, .int 20, .int 0, .ref m5, .ref fr, .int 100, .int 60, .int 14, .ref m6, .ref m7, .ref m8])), (fr, .inl (cI, 4, .inl (fun _ => 0)))] sz) := by
  refine Met.ofW (cc := cX14_freeAt) (maxL := 2) (ret := (some .int)) (by decide +kernel) rfl ?_
  intro p e9 s m args below meth c s₁ B hml hv
  obtain ⟨rfl, hsz, hP, hK, hD0, hE0⟩ := hv
  have hx := B.exec
  have hb := B.bytes
  have hr := B.returns
  have hts := atoms_spec (ws := wsX14_freeAt) B.pre
  have hown : s.vm.findClass RX14 = some m.cls := findClass_of_methodNamed B.named
  have hlocks := B.notSynchronized
  subst hsz
  have hD := hD0.self (sz := s.heap.size)
  generalize hAe : va_A [(h, .inr (20, [.int 0, .ref m1, .int 0, .int 0, .ref m2, .ref m3, .int 0, .int 4, .int (-40), .ref m4, .int 0, .int 20, .int 0, .ref m5, .ref fr, .int 100, .int 60, .int 14, .ref m6, .ref m7, .ref m8])), (fr, .inl (cI, 4, .inl (fun _ => 0)))] s.heap.size = A at hD hE0 ⊢
  have hA : ∀ q : Nat, s.heap.size ≤ q → A q := fun q h => by rw [← hAe]; exact Or.inr h
  have hS : va_S A s.heap s.heap [] := va_S.rf
  have hE := hE0
  have hP : va_P D vwCl [(h, .inr (20, [.int 0, .ref m1, .int 0, .int 0, .ref m2, .ref m3, .int 0, .int 4, .int (-40), .ref m4, .int 0, .int 20, .int 0, .ref m5, .ref fr, .int 100, .int 60, .int 14, .ref m6, .ref m7, .ref m8])), (fr, .inl (cI, 4, .inl (fun _ => 0)))] s.heap := hP
  have hl := lv_entry ([.ref h, .int p0]) (n := 2) (Nat.le_of_ble_eq_true rfl)
  rw [lg_entry_eq]
  generalize (lg_sl ([.ref h, .int p0]) ++ List.replicate (2 - (lg_sl ([.ref h, .int p0])).length) Slot.unset).toArray = ls at hl ⊢
  have hl : lv_has ls 2 [(0, .ref h), (1, .int p0)] := hl
  refine lv_aload_n hx hb dX14_freeAt_0 rfl (lv_at hl 0 rfl) ?_
  refine lv_iload_n hx hb dX14_freeAt_1 rfl (lv_at hl 1 rfl) ?_
  refine lv_iconst (v := 0) hx hb dX14_freeAt_2 (by decide) ?_
  refine lv_iconst (v := 3) hx hb dX14_freeAt_3 (by decide) ?_
  refine vp_callSi (va_Run.run (va_runS (As := [.int p0, .int 0, .int 3]) (rest := [.ref h]) ⟨hx, hb, hml, hown, hts⟩ (c_X14_isBetween l hst D e p0 0 3 s.heap.size) (va_cwS 3 hts gX14_freeAt_X14_isBetween rfl rfl rfl (by decide +kernel) ⟨Nat.le_of_ble_eq_true rfl, Nat.le_of_ble_eq_true rfl⟩) ⟨cIn_blind, cIn_go hK hP hD hE hS hA [] rfl rfl (by decide) [] rfl⟩ rfl rfl hl.1 rfl (lv_room (Nat.le_of_ble_eq_true rfl)) dX14_freeAt_4 ⟨Nat.le_of_ble_eq_true rfl, Nat.le_of_ble_eq_true rfl⟩)) (fun r_1 hw => ?_)
  subst hw
  refine lv_if_eq (tgt := 14) hx hb dX14_freeAt_7 (by decide) (fun c_2 => ?_) (fun c_2 => ?_)
  · refine lv_iconst (v := 1) hx hb dX14_freeAt_14 (by decide) ?_
    have hFc := va_free (wc := [(h, .inr (20, [.int 0, .ref m1, .int 0, .int 0, .ref m2, .ref m3, .int 0, .int 4, .int (-40), .ref m4, .int 0, .int 20, .int 0, .ref m5, .ref fr, .int 100, .int 60, .int 14, .ref m6, .ref m7, .ref m8]))]) hD hS hA [0] rfl
    refine va_calli (va_runV (As := [.int 1]) (rest := []) ⟨hx, hb, hml, hown, hts⟩ (c_X14_isWrong l hst D e h 0 ([.ref m1, .int 0, .int 0, .ref m2, .ref m3, .int 0, .int 4, .int (-40), .ref m4, .int 0, .int 20, .int 0, .ref m5, .ref fr, .int 100, .int 60, .int 14, .ref m6, .ref m7, .ref m8]) 1 s.heap.size) (cwV 1 hts gX14_freeAt_X14_isWrong rfl rfl rfl (by decide +kernel) ⟨Nat.le_of_ble_eq_true rfl, Nat.le_of_ble_eq_true rfl⟩) ⟨cIn_blind, va_recv hK hP (ci := 20) (q0 := 0) rfl rfl, cIn_go hK hP hD hE hS hA [0] rfl rfl (by decide) [] rfl⟩ rfl rfl hl.1 rfl (lv_room (Nat.le_of_ble_eq_true rfl)) dX14_freeAt_15 ⟨Nat.le_of_ble_eq_true rfl, Nat.le_of_ble_eq_true rfl⟩) hS (fun q _ h => hFc q h) hFc (fun r_3 u t H1 locs ht hvm hw hB hz1 hk1 hS => ?_)
    obtain ⟨hP1, hK1, hD1⟩ := hB
    rw [ht] at hP1
    have hK1 := va_K.moved hvm.symm hK1
    obtain ⟨hP, hD⟩ := va_join (wr := [(fr, .inl (cI, 4, .inl (fun _ => 0)))]) (w1 := [(h, .inr (20, [.int 1, .ref m1, .int 0, .int 0, .ref m2, .ref m3, .int 0, .int 4, .int (-40), .ref m4, .int 0, .int 20, .int 0, .ref m5, .ref fr, .int 100, .int 60, .int 14, .ref m6, .ref m7, .ref m8]))]) hP hD [0] [1] rfl rfl (by decide) (by decide) hk1 hFc hP1 hD1
    generalize H1 = H at hP hS ⊢
    have hP : va_P D vwCl [(fr, .inl (cI, 4, .inl (fun _ => 0))), (h, .inr (20, [.int 1, .ref m1, .int 0, .int 0, .ref m2, .ref m3, .int 0, .int 4, .int (-40), .ref m4, .int 0, .int 20, .int 0, .ref m5, .ref fr, .int 100, .int 60, .int 14, .ref m6, .ref m7, .ref m8]))] H := hP
    have hD : va_D A [(fr, .inl (cI, 4, .inl (fun _ => 0))), (h, .inr (20, [.int 1, .ref m1, .int 0, .int 0, .ref m2, .ref m3, .int 0, .int 4, .int (-40), .ref m4, .int 0, .int 20, .int 0, .ref m5, .ref fr, .int 100, .int 60, .int 14, .ref m6, .ref m7, .ref m8]))] := hD
    have hw : r_3 = 1 := hw.trans (by first | rfl | decide +kernel)
    subst hw
    refine lv_if_eq (tgt := 25) hx hb dX14_freeAt_18 (by decide) (fun c_5 => absurd c_5 (show ¬ ((1 : Int32) = 0) from by decide +kernel)) (fun c_5 => ?_)
    refine lv_iconst (v := 0) hx hb dX14_freeAt_21 (by decide) ?_
    refine lv_goto (tgt := 38) hx hb dX14_freeAt_22 (by decide) ?_
    exact W.iret (v := 0) hx hb hr (fun t ht hW => ⟨⟨0, ((1, [.ref m1, .int 0, .int 0, .ref m2, .ref m3, .int 0, .int 4, .int (-40), .ref m4, .int 0, .int 20, .int 0, .ref m5, .ref fr, .int 100, .int 60, .int 14, .ref m6, .ref m7, .ref m8]) : Int32 × List Value), rfl, ⟨(by unfold k_X14_freeAt; rw [if_pos c_2]), (by unfold v_X14_freeAt; rw [if_pos c_2])⟩, ⟨by rw [ht]; exact hP.sub [1] rfl, va_K.moved hW.alike (hK.sub [] rfl), hD.sub [1] (by decide) rfl⟩⟩, hS.F ht⟩) hS.2.2 dX14_freeAt_38
  · refine lv_iconst (v := 0) hx hb dX14_freeAt_10 (by decide) ?_
    refine lv_goto (tgt := 15) hx hb dX14_freeAt_11 (by decide) ?_
    have hFc := va_free (wc := [(h, .inr (20, [.int 0, .ref m1, .int 0, .int 0, .ref m2, .ref m3, .int 0, .int 4, .int (-40), .ref m4, .int 0, .int 20, .int 0, .ref m5, .ref fr, .int 100, .int 60, .int 14, .ref m6, .ref m7, .ref m8]))]) hD hS hA [0] rfl
    refine va_calli (va_runV (As := [.int 0]) (rest := []) ⟨hx, hb, hml, hown, hts⟩ (c_X14_isWrong l hst D e h 0 ([.ref m1, .int 0, .int 0, .ref m2, .ref m3, .int 0, .int 4, .int (-40), .ref m4, .int 0, .int 20, .int 0, .ref m5, .ref fr, .int 100, .int 60, .int 14, .ref m6, .ref m7, .ref m8]) 0 s.heap.size) (cwV 1 hts gX14_freeAt_X14_isWrong rfl rfl rfl (by decide +kernel) ⟨Nat.le_of_ble_eq_true rfl, Nat.le_of_ble_eq_true rfl⟩) ⟨cIn_blind, va_recv hK hP (ci := 20) (q0 := 0) rfl rfl, cIn_go hK hP hD hE hS hA [0] rfl rfl (by decide) [] rfl⟩ rfl rfl hl.1 rfl (lv_room (Nat.le_of_ble_eq_true rfl)) dX14_freeAt_15 ⟨Nat.le_of_ble_eq_true rfl, Nat.le_of_ble_eq_true rfl⟩) hS (fun q _ h => hFc q h) hFc (fun r_6 u t H1 locs ht hvm hw hB hz1 hk1 hS => ?_)
    obtain ⟨hP1, hK1, hD1⟩ := hB
    rw [ht] at hP1
    have hK1 := va_K.moved hvm.symm hK1
    obtain ⟨hP, hD⟩ := va_join (wr := [(fr, .inl (cI, 4, .inl (fun _ => 0)))]) (w1 := [(h, .inr (20, [.int 0, .ref m1, .int 0, .int 0, .ref m2, .ref m3, .int 0, .int 4, .int (-40), .ref m4, .int 0, .int 20, .int 0, .ref m5, .ref fr, .int 100, .int 60, .int 14, .ref m6, .ref m7, .ref m8]))]) hP hD [0] [1] rfl rfl (by decide) (by decide) hk1 hFc hP1 hD1
    generalize H1 = H at hP hS ⊢
    have hP : va_P D vwCl [(fr, .inl (cI, 4, .inl (fun _ => 0))), (h, .inr (20, [.int 0, .ref m1, .int 0, .int 0, .ref m2, .ref m3, .int 0, .int 4, .int (-40), .ref m4, .int 0, .int 20, .int 0, .ref m5, .ref fr, .int 100, .int 60, .int 14, .ref m6, .ref m7, .ref m8]))] H := hP
    have hD : va_D A [(fr, .inl (cI, 4, .inl (fun _ => 0))), (h, .inr (20, [.int 0, .ref m1, .int 0, .int 0, .ref m2, .ref m3, .int 0, .int 4, .int (-40), .ref m4, .int 0, .int 20, .int 0, .ref m5, .ref fr, .int 100, .int 60, .int 14, .ref m6, .ref m7, .ref m8]))] := hD
    have hw : r_6 = 0 := hw.trans (by first | rfl | decide +kernel)
    subst hw
    refine lv_if_eq (tgt := 25) hx hb dX14_freeAt_18 (by decide) (fun c_8 => ?_) (fun c_8 => absurd (show (0 : Int32) = 0 from by decide +kernel) c_8)
    refine lv_aload_n hx hb dX14_freeAt_25 rfl (lv_at hl 0 rfl) ?_
    refine va_get (D := D) (ci := 20) (v := .int 0) (C := RX14) (T := TX14) (N := 21) hx hb hts iw_RX14_wsX14_freeAt hown hK hP 1 rfl rfl 10 (by decide) (hts (.fieldLink RX14 191 "CoatLineModel" "hour" "I") (by decide +kernel)) (fun _ h9 => h9) rfl dX14_freeAt_26 ?_
    refine lv_aload_n hx hb dX14_freeAt_29 rfl (lv_at hl 0 rfl) ?_
    refine va_get (D := D) (ci := 20) (v := .ref fr) (C := RX14) (T := TX14) (N := 21) hx hb hts iw_RX14_wsX14_freeAt hown hK hP 1 rfl rfl 14 (by decide) (hts (.fieldLink RX14 38 "CoatLineModel" "free" "[I") (by decide +kernel)) (fun _ h9 => h9) rfl dX14_freeAt_30 ?_
    refine lv_iload_n hx hb dX14_freeAt_33 rfl (lv_at hl 1 rfl) ?_
    refine va_iald hx hb hK hP 0 0 rfl rfl (i := p0) (bt_chan3 c_2) dX14_freeAt_34 ?_
    refine lv_topi (fun z_9 ez_9 => ?_)
    obtain rfl : z_9 = 0 := ez_9.trans rfl
    refine va_mmax hx hb (hml.trans hl.1.symm) hown (hts (.methodLink RX14 224 Lib.Math.max.name) (by decide +kernel)) (hts (.static Lib.Math.max.name) (by decide +kernel)) (hts (.initialized "java/lang/Math") (by decide +kernel)) (hts (.code Lib.Math.max.name Lib.Math.max.code 2 (some .int)) (by decide +kernel)) (Nat.le_of_ble_eq_true rfl) (Nat.le_of_ble_eq_true rfl) (Nat.le_of_ble_eq_true rfl) (Nat.le_of_ble_eq_true rfl) dX14_freeAt_35 ?_
    refine lv_topi (fun z_10 ez_10 => ?_)
    obtain rfl : z_10 = 0 := ez_10.trans (by decide +kernel)
    exact W.iret (v := 0) hx hb hr (fun t ht hW => ⟨⟨0, ((0, [.ref m1, .int 0, .int 0, .ref m2, .ref m3, .int 0, .int 4, .int (-40), .ref m4, .int 0, .int 20, .int 0, .ref m5, .ref fr, .int 100, .int 60, .int 14, .ref m6, .ref m7, .ref m8]) : Int32 × List Value), rfl, ⟨(by unfold k_X14_freeAt; rw [if_neg c_2]), (by unfold v_X14_freeAt; rw [if_neg c_2])⟩, ⟨by rw [ht]; exact hP.sub [1] rfl, va_K.moved hW.alike (hK.sub [] rfl), hD.sub [1] (by decide) rfl⟩⟩, hS.F ht⟩) hS.2.2 dX14_freeAt_38
-- X14_checksum
def v_X14_checksum : Int64 := (7)
def k_X14_checksum : Int32 := 0
set_option maxHeartbeats 4000000 in
set_option maxRecDepth 100000 in
theorem c_X14_checksum (l : Launch) (hst : l.stackTraces = false) (D : va_G) (e : Nat) (h : Nat) (m1 : Nat) (m2 : Nat) (m3 : Nat) (m4 : Nat) (m5 : Nat) (m6 : Nat) (m7 : Nat) (m8 : Nat) (fr : Nat) (sz : Nat) : Met l yX14_checksum wsX14_checksum ({ frames := 16, cells := 1, slots := 4, locals := 340 }) (va_Pc [.ref h] (cIn D [] [(h, .inr (20, [.int 0, .ref m1, .int 0, .int 0, .ref m2, .ref m3, .int 0, .int 4, .int (-40), .ref m4, .int 0, .int 20, .int 0, .ref m5, .ref fr, .int 100, .int 60, .int 14, .ref m6, .ref m7, .ref m8])), (m4, .inr (5, [.int 0, .ref e, .int 0]))] e sz)) (va_Ql (fun (r : Int64) (u : Int32 × List Value) => u.1 = k_X14_checksum ∧ r = v_X14_checksum) (fun (u : Int32 × List Value) (t : State) => va_P D vwCl [(h, .inr (20, .int u.1 :: u.2))] t.heap ∧ va_K D vwCl [] t ∧ va_D (va_A [(h, .inr (20, [.int 0, .ref m1, .int 0, .int 0, .ref m2, .ref m3, .int 0, .int 4, .int (-40), .ref m4, .int 0, .int 20, .int 0, .ref m5, .ref fr, .int 100, .int 60, .int 14, .ref m6, .ref m7, .ref m8])), (m4, .inr (5, [.int 0, .ref e, .int 0]))] sz) [(h, .inr (20, .int u.1 :: u.2))]) (va_A [(h, .inr (20, [.int 0, .ref m1, .int 0, .int 0, .ref m2, .ref m3, .int 0, .int 4, .int (-40), .ref m4, .int 0, .int 20, .int 0, .ref m5, .ref fr, .int 100, .int 60, .int 14, .ref m6, .ref m7, .ref m8])), (m4, .inr (5, [.int 0, .ref e, .int 0]))] sz)) 1 4 (va_A [(h, .inr (20, [.int 0, .ref m1, .int 0, .int 0, .ref m2, .ref m3, .int 0, .int 4, .int (-40), .ref m4, .int 0, .int 20, .int 0, .ref m5, .ref fr, .int 100, .int 60, .int 14, .ref m6, .ref m7, .ref m8])), (m4, .inr (5, [.int 0, .ref e, .int 0]))] sz) := by
  refine Met.ofW (cc := cX14_checksum) (maxL := 5) (ret := (some .long)) (by decide +kernel) rfl ?_
  intro p e9 s m args below meth c s₁ B hml hv
  obtain ⟨rfl, hsz, hP, hK, hD0, hE0⟩ := hv
  have hx := B.exec
  have hb := B.bytes
  have hr := B.returns
  have hts := atoms_spec (ws := wsX14_checksum) B.pre
  have hown : s.vm.findClass RX14 = some m.cls := findClass_of_methodNamed B.named
  have hlocks := B.notSynchronized
  subst hsz
  have hD := hD0.self (sz := s.heap.size)
  generalize hAe : va_A [(h, .inr (20, [.int 0, .ref m1, .int 0, .int 0, .ref m2, .ref m3, .int 0, .int 4, .int (-40), .ref m4, .int 0, .int 20, .int 0, .ref m5, .ref fr, .int 100, .int 60, .int 14, .ref m6, .ref m7, .ref m8])), (m4, .inr (5, [.int 0, .ref e, .int 0]))] s.heap.size = A at hD hE0 ⊢
  have hA : ∀ q : Nat, s.heap.size ≤ q → A q := fun q h => by rw [← hAe]; exact Or.inr h
  have hS : va_S A s.heap s.heap [] := va_S.rf
  have hE := hE0
  have hP : va_P D vwCl [(h, .inr (20, [.int 0, .ref m1, .int 0, .int 0, .ref m2, .ref m3, .int 0, .int 4, .int (-40), .ref m4, .int 0, .int 20, .int 0, .ref m5, .ref fr, .int 100, .int 60, .int 14, .ref m6, .ref m7, .ref m8])), (m4, .inr (5, [.int 0, .ref e, .int 0]))] s.heap := hP
  have hl := lv_entry ([.ref h]) (n := 5) (Nat.le_of_ble_eq_true rfl)
  rw [lg_entry_eq]
  generalize (lg_sl ([.ref h]) ++ List.replicate (5 - (lg_sl ([.ref h])).length) Slot.unset).toArray = ls at hl ⊢
  have hl : lv_has ls 5 [(0, .ref h)] := hl
  refine lv_aload_n hx hb dX14_checksum_0 rfl (lv_at hl 0 rfl) ?_
  refine lv_iconst (v := 0) hx hb dX14_checksum_1 (by decide) ?_
  refine va_put (D := D) (ci := 20) (v := .int 0) (ty := .int) (C := RX14) (T := TX14) (N := 21) hx hb hts iw_RX14_wsX14_checksum tyX14 tyX14_ok nmX14 hown hK hP hD hS 0 rfl rfl 0 (by decide) (hts (.fieldLink RX14 60 "CoatLineModel" "thrown" "I") (by decide +kernel)) (fun _ h9 => h9) rfl (by decide +kernel) rfl rfl (Nat.le_of_ble_eq_true rfl) dX14_checksum_2 (fun H locs hP hD hS => ?_)
  have hP : va_P D vwCl [(h, .inr (20, [.int 0, .ref m1, .int 0, .int 0, .ref m2, .ref m3, .int 0, .int 4, .int (-40), .ref m4, .int 0, .int 20, .int 0, .ref m5, .ref fr, .int 100, .int 60, .int 14, .ref m6, .ref m7, .ref m8])), (m4, .inr (5, [.int 0, .ref e, .int 0]))] H := hP
  have hD : va_D A [(h, .inr (20, [.int 0, .ref m1, .int 0, .int 0, .ref m2, .ref m3, .int 0, .int 4, .int (-40), .ref m4, .int 0, .int 20, .int 0, .ref m5, .ref fr, .int 100, .int 60, .int 14, .ref m6, .ref m7, .ref m8])), (m4, .inr (5, [.int 0, .ref e, .int 0]))] := hD
  refine lv_ldc2 (v := (7)) hx hb hown (hts (.constantLong RX14 359 (7)) (by decide +kernel)) dX14_checksum_5 ?_
  refine lv_lstore_n (lv' := [(1, .long (7)), (0, .ref h)]) hx hb dX14_checksum_8 rfl hl (by decide) rfl (fun ls hl => ?_)
  refine lv_aload_n hx hb dX14_checksum_9 rfl (lv_at hl 1 rfl) ?_
  refine va_get (D := D) (ci := 20) (v := .ref m4) (C := RX14) (T := TX14) (N := 21) hx hb hts iw_RX14_wsX14_checksum hown hK hP 0 rfl rfl 9 (by decide) (hts (.fieldLink RX14 29 "CoatLineModel" "cells" "Ljava/util/List;") (by decide +kernel)) (fun _ h9 => h9) rfl dX14_checksum_10 ?_
  have hFc := va_free (wc := [(m4, .inr (5, [.int 0, .ref e, .int 0]))]) hD hS hA [1] rfl
  refine va_callFr (va_runF (As := []) (rest := []) (hK.1 5 _ rfl).2 ⟨hx, hb, hml, hown, hts⟩ (c_Jx4a65c_iterator_32c93 l hst D e m4 0 H.size) (va_cwF 0 hts gX14_checksum_Jx4a65c_iterator_32c93_f231Jx4a65c rfl rfl rfl (ev_f hE (q := (RJx4a65c, ⟨"java/util/List", "iterator", "()Ljava/util/Iterator;"⟩, yJx4a65c_iterator_32c93)) (by decide +kernel)) (by decide +kernel) ⟨Nat.le_of_ble_eq_true rfl, Nat.le_of_ble_eq_true rfl⟩) ⟨cIn_blind, va_recv hK hP (ci := 5) (q0 := 1) rfl rfl, cIn_go hK hP hD hE hS hA [1] rfl rfl (by decide) [] rfl⟩ rfl rfl hl.1 rfl (lv_room (Nat.le_of_ble_eq_true rfl)) dX14_checksum_13 ⟨Nat.le_of_ble_eq_true rfl, Nat.le_of_ble_eq_true rfl⟩) hS (fun q _ h => hFc q h) hFc (fun u ra_2 t H1 locs ht hvm hw hB hz1 hk1 hS => ?_)
  obtain ⟨hP1, hK1, hD1⟩ := hB
  rw [ht] at hP1
  have hK1 := va_K.moved hvm.symm hK1
  obtain ⟨hP, hD⟩ := va_join (wr := [(h, .inr (20, [.int 0, .ref m1, .int 0, .int 0, .ref m2, .ref m3, .int 0, .int 4, .int (-40), .ref m4, .int 0, .int 20, .int 0, .ref m5, .ref fr, .int 100, .int 60, .int 14, .ref m6, .ref m7, .ref m8]))]) (w1 := [(m4, .inr (5, [.int 0, .ref e, .int 0])), (ra_2, .inr (4, [.int 0, .int (-1), .int 0, .ref m4]))]) hP hD [1] [0] rfl rfl (by decide) (by decide) hk1 hFc hP1 hD1
  generalize H1 = H at hP hS ⊢
  have hP : va_P D vwCl [(h, .inr (20, [.int 0, .ref m1, .int 0, .int 0, .ref m2, .ref m3, .int 0, .int 4, .int (-40), .ref m4, .int 0, .int 20, .int 0, .ref m5, .ref fr, .int 100, .int 60, .int 14, .ref m6, .ref m7, .ref m8])), (m4, .inr (5, [.int 0, .ref e, .int 0])), (ra_2, .inr (4, [.int 0, .int (-1), .int 0, .ref m4]))] H := hP
  have hD : va_D A [(h, .inr (20, [.int 0, .ref m1, .int 0, .int 0, .ref m2, .ref m3, .int 0, .int 4, .int (-40), .ref m4, .int 0, .int 20, .int 0, .ref m5, .ref fr, .int 100, .int 60, .int 14, .ref m6, .ref m7, .ref m8])), (m4, .inr (5, [.int 0, .ref e, .int 0])), (ra_2, .inr (4, [.int 0, .int (-1), .int 0, .ref m4]))] := hD
  refine W.widen (k := 1) (n := 4) (Nat.le_of_ble_eq_true rfl) (Nat.le_of_ble_eq_true rfl) ?_
  refine lv_astore_n (lv' := [(3, .ref ra_2), (1, .long (7)), (0, .ref h)]) hx hb dX14_checksum_18 rfl hl (by decide) rfl (fun ls hl => ?_)
  refine lv_aload_n hx hb dX14_checksum_19 rfl (lv_at hl 0 rfl) ?_
  refine va_csFi (va_runF (As := []) (rest := []) (hK.1 4 _ rfl).2 ⟨hx, hb, hml, hown, hts⟩ (c_Jx35411_hasNext_aae02 l hst D e ra_2 m4 0 0 e H.size) (va_cwF 0 hts gX14_checksum_Jx35411_hasNext_aae02_f235Jx35411 rfl rfl rfl (ev_f hE (q := (RJx35411, ⟨"java/util/Iterator", "hasNext", "()Z"⟩, yJx35411_hasNext_aae02)) (by decide +kernel)) (by decide +kernel) ⟨Nat.le_of_ble_eq_true rfl, Nat.le_of_ble_eq_true rfl⟩) ⟨cIn_blind, va_recv hK hP (ci := 4) (q0 := 2) rfl rfl, cIn_go hK hP hD hE hS hA [2, 1] rfl rfl (by decide) [] rfl⟩ rfl rfl hl.1 rfl (lv_room (Nat.le_of_ble_eq_true rfl)) dX14_checksum_20 ⟨Nat.le_of_ble_eq_true rfl, Nat.le_of_ble_eq_true rfl⟩) (fun r_3 hw => ?_)
  have hw : r_3 = 0 := hw.trans (by first | rfl | decide +kernel)
  subst hw
  refine lv_if_eq (tgt := 77) hx hb dX14_checksum_25 (by decide) (fun c_4 => ?_) (fun c_4 => absurd (show (0 : Int32) = 0 from by decide +kernel) c_4)
  refine lv_lload_n hx hb dX14_checksum_77 rfl (lv_at hl 1 rfl) ?_
  exact W.lret (v := (7)) hx hb hr (fun t ht hW => ⟨⟨(7), ((0, [.ref m1, .int 0, .int 0, .ref m2, .ref m3, .int 0, .int 4, .int (-40), .ref m4, .int 0, .int 20, .int 0, .ref m5, .ref fr, .int 100, .int 60, .int 14, .ref m6, .ref m7, .ref m8]) : Int32 × List Value), rfl, ⟨rfl, rfl⟩, ⟨by rw [ht]; exact hP.sub [0] rfl, va_K.moved hW.alike (hK.sub [] rfl), hD.sub [0] (by decide) rfl⟩⟩, hS.F ht⟩) hS.2.2 dX14_checksum_78
-- X14_readyShare
def v_X14_readyShare : UInt32 := FP.fconst0
def k_X14_readyShare : Int32 := 1
set_option maxHeartbeats 4000000 in
set_option maxRecDepth 100000 in
theorem c_X14_readyShare (l : Launch) (hst : l.stackTraces = false) (D : va_G) (e : Nat) (h : Nat) (m1 : Nat) (m2 : Nat) (m3 : Nat) (m4 : Nat) (m5 : Nat) (m6 : Nat) (m7 : Nat) (m8 : Nat) (fr : Nat) (sz : Nat) : Met l yX14_readyShare wsX14_readyShare ({ frames := 16, cells := 1, slots := 4, locals := 340 }) (va_Pc [.ref h] (cIn D [] [(h, .inr (20, [.int 0, .ref m1, .int 0, .int 0, .ref m2, .ref m3, .int 0, .int 4, .int (-40), .ref m4, .int 0, .int 20, .int 0, .ref m5, .ref fr, .int 100, .int 60, .int 14, .ref m6, .ref m7, .ref m8])), (m4, .inr (5, [.int 0, .ref e, .int 0]))] e sz)) (va_Qf (fun (r : UInt32) (u : Int32 × List Value) => u.1 = k_X14_readyShare ∧ r = v_X14_readyShare) (fun (u : Int32 × List Value) (t : State) => va_P D vwCl [(h, .inr (20, .int u.1 :: u.2))] t.heap ∧ va_K D vwCl [] t ∧ va_D (va_A [(h, .inr (20, [.int 0, .ref m1, .int 0, .int 0, .ref m2, .ref m3, .int 0, .int 4, .int (-40), .ref m4, .int 0, .int 20, .int 0, .ref m5, .ref fr, .int 100, .int 60, .int 14, .ref m6, .ref m7, .ref m8])), (m4, .inr (5, [.int 0, .ref e, .int 0]))] sz) [(h, .inr (20, .int u.1 :: u.2))]) (va_A [(h, .inr (20, [.int 0, .ref m1, .int 0, .int 0, .ref m2, .ref m3, .int 0, .int 4, .int (-40), .ref m4, .int 0, .int 20, .int 0, .ref m5, .ref fr, .int 100, .int 60, .int 14, .ref m6, .ref m7, .ref m8])), (m4, .inr (5, [.int 0, .ref e, .int 0]))] sz)) 1 4 (va_A [(h, .inr (20, [.int 0, .ref m1, .int 0, .int 0, .ref m2, .ref m3, .int 0, .int 4, .int (-40), .ref m4, .int 0, .int 20, .int 0, .ref m5, .ref fr, .int 100, .int 60, .int 14, .ref m6, .ref m7, .ref m8])), (m4, .inr (5, [.int 0, .ref e, .int 0]))] sz) := by
  refine Met.ofW (cc := cX14_readyShare) (maxL := 4) (ret := (some .float)) (by decide +kernel) rfl ?_
  intro p e9 s m args below meth c s₁ B hml hv
  obtain ⟨rfl, hsz, hP, hK, hD0, hE0⟩ := hv
  have hx := B.exec
  have hb := B.bytes
  have hr := B.returns
  have hts := atoms_spec (ws := wsX14_readyShare) B.pre
  have hown : s.vm.findClass RX14 = some m.cls := findClass_of_methodNamed B.named
  have hlocks := B.notSynchronized
  subst hsz
  have hD := hD0.self (sz := s.heap.size)
  generalize hAe : va_A [(h, .inr (20, [.int 0, .ref m1, .int 0, .int 0, .ref m2, .ref m3, .int 0, .int 4, .int (-40), .ref m4, .int 0, .int 20, .int 0, .ref m5, .ref fr, .int 100, .int 60, .int 14, .ref m6, .ref m7, .ref m8])), (m4, .inr (5, [.int 0, .ref e, .int 0]))] s.heap.size = A at hD hE0 ⊢
  have hA : ∀ q : Nat, s.heap.size ≤ q → A q := fun q h => by rw [← hAe]; exact Or.inr h
  have hS : va_S A s.heap s.heap [] := va_S.rf
  have hE := hE0
  have hP : va_P D vwCl [(h, .inr (20, [.int 0, .ref m1, .int 0, .int 0, .ref m2, .ref m3, .int 0, .int 4, .int (-40), .ref m4, .int 0, .int 20, .int 0, .ref m5, .ref fr, .int 100, .int 60, .int 14, .ref m6, .ref m7, .ref m8])), (m4, .inr (5, [.int 0, .ref e, .int 0]))] s.heap := hP
  have hl := lv_entry ([.ref h]) (n := 4) (Nat.le_of_ble_eq_true rfl)
  rw [lg_entry_eq]
  generalize (lg_sl ([.ref h]) ++ List.replicate (4 - (lg_sl ([.ref h])).length) Slot.unset).toArray = ls at hl ⊢
  have hl : lv_has ls 4 [(0, .ref h)] := hl
  refine lv_iconst (v := 0) hx hb dX14_readyShare_0 (by decide) ?_
  refine lv_istore_n (lv' := [(1, .int 0), (0, .ref h)]) hx hb dX14_readyShare_1 rfl hl (by decide) rfl (fun ls hl => ?_)
  refine lv_aload_n hx hb dX14_readyShare_2 rfl (lv_at hl 1 rfl) ?_
  refine va_get (D := D) (ci := 20) (v := .ref m4) (C := RX14) (T := TX14) (N := 21) hx hb hts iw_RX14_wsX14_readyShare hown hK hP 0 rfl rfl 9 (by decide) (hts (.fieldLink RX14 29 "CoatLineModel" "cells" "Ljava/util/List;") (by decide +kernel)) (fun _ h9 => h9) rfl dX14_readyShare_3 ?_
  have hFc := va_free (wc := [(m4, .inr (5, [.int 0, .ref e, .int 0]))]) hD hS hA [1] rfl
  refine va_callFr (va_runF (As := []) (rest := []) (hK.1 5 _ rfl).2 ⟨hx, hb, hml, hown, hts⟩ (c_Jx4a65c_iterator_32c93 l hst D e m4 0 s.heap.size) (va_cwF 0 hts gX14_readyShare_Jx4a65c_iterator_32c93_f231Jx4a65c rfl rfl rfl (ev_f hE (q := (RJx4a65c, ⟨"java/util/List", "iterator", "()Ljava/util/Iterator;"⟩, yJx4a65c_iterator_32c93)) (by decide +kernel)) (by decide +kernel) ⟨Nat.le_of_ble_eq_true rfl, Nat.le_of_ble_eq_true rfl⟩) ⟨cIn_blind, va_recv hK hP (ci := 5) (q0 := 1) rfl rfl, cIn_go hK hP hD hE hS hA [1] rfl rfl (by decide) [] rfl⟩ rfl rfl hl.1 rfl (lv_room (Nat.le_of_ble_eq_true rfl)) dX14_readyShare_6 ⟨Nat.le_of_ble_eq_true rfl, Nat.le_of_ble_eq_true rfl⟩) hS (fun q _ h => hFc q h) hFc (fun u ra_2 t H1 locs ht hvm hw hB hz1 hk1 hS => ?_)
  obtain ⟨hP1, hK1, hD1⟩ := hB
  rw [ht] at hP1
  have hK1 := va_K.moved hvm.symm hK1
  obtain ⟨hP, hD⟩ := va_join (wr := [(h, .inr (20, [.int 0, .ref m1, .int 0, .int 0, .ref m2, .ref m3, .int 0, .int 4, .int (-40), .ref m4, .int 0, .int 20, .int 0, .ref m5, .ref fr, .int 100, .int 60, .int 14, .ref m6, .ref m7, .ref m8]))]) (w1 := [(m4, .inr (5, [.int 0, .ref e, .int 0])), (ra_2, .inr (4, [.int 0, .int (-1), .int 0, .ref m4]))]) hP hD [1] [0] rfl rfl (by decide) (by decide) hk1 hFc hP1 hD1
  generalize H1 = H at hP hS ⊢
  have hP : va_P D vwCl [(h, .inr (20, [.int 0, .ref m1, .int 0, .int 0, .ref m2, .ref m3, .int 0, .int 4, .int (-40), .ref m4, .int 0, .int 20, .int 0, .ref m5, .ref fr, .int 100, .int 60, .int 14, .ref m6, .ref m7, .ref m8])), (m4, .inr (5, [.int 0, .ref e, .int 0])), (ra_2, .inr (4, [.int 0, .int (-1), .int 0, .ref m4]))] H := hP
  have hD : va_D A [(h, .inr (20, [.int 0, .ref m1, .int 0, .int 0, .ref m2, .ref m3, .int 0, .int 4, .int (-40), .ref m4, .int 0, .int 20, .int 0, .ref m5, .ref fr, .int 100, .int 60, .int 14, .ref m6, .ref m7, .ref m8])), (m4, .inr (5, [.int 0, .ref e, .int 0])), (ra_2, .inr (4, [.int 0, .int (-1), .int 0, .ref m4]))] := hD
  refine W.widen (k := 1) (n := 4) (Nat.le_of_ble_eq_true rfl) (Nat.le_of_ble_eq_true rfl) ?_
  refine lv_astore_n (lv' := [(2, .ref ra_2), (1, .int 0), (0, .ref h)]) hx hb dX14_readyShare_11 rfl hl (by decide) rfl (fun ls hl => ?_)
  refine lv_aload_n hx hb dX14_readyShare_12 rfl (lv_at hl 0 rfl) ?_
  refine va_csFi (va_runF (As := []) (rest := []) (hK.1 4 _ rfl).2 ⟨hx, hb, hml, hown, hts⟩ (c_Jx35411_hasNext_aae02 l hst D e ra_2 m4 0 0 e H.size) (va_cwF 0 hts gX14_readyShare_Jx35411_hasNext_aae02_f235Jx35411 rfl rfl rfl (ev_f hE (q := (RJx35411, ⟨"java/util/Iterator", "hasNext", "()Z"⟩, yJx35411_hasNext_aae02)) (by decide +kernel)) (by decide +kernel) ⟨Nat.le_of_ble_eq_true rfl, Nat.le_of_ble_eq_true rfl⟩) ⟨cIn_blind, va_recv hK hP (ci := 4) (q0 := 2) rfl rfl, cIn_go hK hP hD hE hS hA [2, 1] rfl rfl (by decide) [] rfl⟩ rfl rfl hl.1 rfl (lv_room (Nat.le_of_ble_eq_true rfl)) dX14_readyShare_13 ⟨Nat.le_of_ble_eq_true rfl, Nat.le_of_ble_eq_true rfl⟩) (fun r_3 hw => ?_)
  have hw : r_3 = 0 := hw.trans (by first | rfl | decide +kernel)
  subst hw
  refine lv_if_eq (tgt := 50) hx hb dX14_readyShare_18 (by decide) (fun c_4 => ?_) (fun c_4 => absurd (show (0 : Int32) = 0 from by decide +kernel) c_4)
  refine lv_aload_n hx hb dX14_readyShare_50 rfl (lv_at hl 2 rfl) ?_
  refine lv_aload_n hx hb dX14_readyShare_51 rfl (lv_at hl 2 rfl) ?_
  refine va_get (D := D) (ci := 20) (v := .ref m4) (C := RX14) (T := TX14) (N := 21) hx hb hts iw_RX14_wsX14_readyShare hown hK hP 0 rfl rfl 9 (by decide) (hts (.fieldLink RX14 29 "CoatLineModel" "cells" "Ljava/util/List;") (by decide +kernel)) (fun _ h9 => h9) rfl dX14_readyShare_52 ?_
  refine va_csFi (va_runF (As := []) (rest := [.ref h]) (hK.1 5 _ rfl).2 ⟨hx, hb, hml, hown, hts⟩ (c_Jx4a65c_isEmpty_aae02 l hst D e m4 0 e H.size) (va_cwF 0 hts gX14_readyShare_Jx4a65c_isEmpty_aae02_f356Jx4a65c rfl rfl rfl (ev_f hE (q := (RJx4a65c, ⟨"java/util/List", "isEmpty", "()Z"⟩, yJx4a65c_isEmpty_aae02)) (by decide +kernel)) (by decide +kernel) ⟨Nat.le_of_ble_eq_true rfl, Nat.le_of_ble_eq_true rfl⟩) ⟨cIn_blind, va_recv hK hP (ci := 5) (q0 := 1) rfl rfl, cIn_go hK hP hD hE hS hA [1] rfl rfl (by decide) [] rfl⟩ rfl rfl hl.1 rfl (lv_room (Nat.le_of_ble_eq_true rfl)) dX14_readyShare_55 ⟨Nat.le_of_ble_eq_true rfl, Nat.le_of_ble_eq_true rfl⟩) (fun r_5 hw => ?_)
  have hw : r_5 = 1 := hw.trans (by first | rfl | decide +kernel)
  subst hw
  refine lv_if_eq (tgt := 67) hx hb dX14_readyShare_60 (by decide) (fun c_6 => absurd c_6 (show ¬ ((1 : Int32) = 0) from by decide +kernel)) (fun c_6 => ?_)
  refine lv_iconst (v := 1) hx hb dX14_readyShare_63 (by decide) ?_
  refine lv_goto (tgt := 68) hx hb dX14_readyShare_64 (by decide) ?_
  have hFc := va_free (wc := [(h, .inr (20, [.int 0, .ref m1, .int 0, .int 0, .ref m2, .ref m3, .int 0, .int 4, .int (-40), .ref m4, .int 0, .int 20, .int 0, .ref m5, .ref fr, .int 100, .int 60, .int 14, .ref m6, .ref m7, .ref m8]))]) hD hS hA [0] rfl
  refine va_calli (va_runV (As := [.int 1]) (rest := []) ⟨hx, hb, hml, hown, hts⟩ (c_X14_isWrong l hst D e h 0 ([.ref m1, .int 0, .int 0, .ref m2, .ref m3, .int 0, .int 4, .int (-40), .ref m4, .int 0, .int 20, .int 0, .ref m5, .ref fr, .int 100, .int 60, .int 14, .ref m6, .ref m7, .ref m8]) 1 H.size) (cwV 1 hts gX14_readyShare_X14_isWrong rfl rfl rfl (by decide +kernel) ⟨Nat.le_of_ble_eq_true rfl, Nat.le_of_ble_eq_true rfl⟩) ⟨cIn_blind, va_recv hK hP (ci := 20) (q0 := 0) rfl rfl, cIn_go hK hP hD hE hS hA [0] rfl rfl (by decide) [] rfl⟩ rfl rfl hl.1 rfl (lv_room (Nat.le_of_ble_eq_true rfl)) dX14_readyShare_68 ⟨Nat.le_of_ble_eq_true rfl, Nat.le_of_ble_eq_true rfl⟩) hS (fun q _ h => hFc q h) hFc (fun r_7 u t H1 locs ht hvm hw hB hz1 hk1 hS => ?_)
  obtain ⟨hP1, hK1, hD1⟩ := hB
  rw [ht] at hP1
  have hK1 := va_K.moved hvm.symm hK1
  obtain ⟨hP, hD⟩ := va_join (wr := [(m4, .inr (5, [.int 0, .ref e, .int 0])), (ra_2, .inr (4, [.int 0, .int (-1), .int 0, .ref m4]))]) (w1 := [(h, .inr (20, [.int 1, .ref m1, .int 0, .int 0, .ref m2, .ref m3, .int 0, .int 4, .int (-40), .ref m4, .int 0, .int 20, .int 0, .ref m5, .ref fr, .int 100, .int 60, .int 14, .ref m6, .ref m7, .ref m8]))]) hP hD [0] [1, 2] rfl rfl (by decide) (by decide) hk1 hFc hP1 hD1
  generalize H1 = H at hP hS ⊢
  have hP : va_P D vwCl [(m4, .inr (5, [.int 0, .ref e, .int 0])), (ra_2, .inr (4, [.int 0, .int (-1), .int 0, .ref m4])), (h, .inr (20, [.int 1, .ref m1, .int 0, .int 0, .ref m2, .ref m3, .int 0, .int 4, .int (-40), .ref m4, .int 0, .int 20, .int 0, .ref m5, .ref fr, .int 100, .int 60, .int 14, .ref m6, .ref m7, .ref m8]))] H := hP
  have hD : va_D A [(m4, .inr (5, [.int 0, .ref e, .int 0])), (ra_2, .inr (4, [.int 0, .int (-1), .int 0, .ref m4])), (h, .inr (20, [.int 1, .ref m1, .int 0, .int 0, .ref m2, .ref m3, .int 0, .int 4, .int (-40), .ref m4, .int 0, .int 20, .int 0, .ref m5, .ref fr, .int 100, .int 60, .int 14, .ref m6, .ref m7, .ref m8]))] := hD
  have hw : r_7 = 1 := hw.trans (by first | rfl | decide +kernel)
  subst hw
  refine lv_if_eq (tgt := 78) hx hb dX14_readyShare_71 (by decide) (fun c_9 => absurd c_9 (show ¬ ((1 : Int32) = 0) from by decide +kernel)) (fun c_9 => ?_)
  refine lv_fconst0 hx hb dX14_readyShare_74 ?_
  refine lv_goto (tgt := 91) hx hb dX14_readyShare_75 (by decide) ?_
  exact W.fret (v := FP.fconst0) hx hb hr (fun t ht hW => ⟨⟨FP.fconst0, ((1, [.ref m1, .int 0, .int 0, .ref m2, .ref m3, .int 0, .int 4, .int (-40), .ref m4, .int 0, .int 20, .int 0, .ref m5, .ref fr, .int 100, .int 60, .int 14, .ref m6, .ref m7, .ref m8]) : Int32 × List Value), rfl, ⟨rfl, rfl⟩, ⟨by rw [ht]; exact hP.sub [2] rfl, va_K.moved hW.alike (hK.sub [] rfl), hD.sub [2] (by decide) rfl⟩⟩, hS.F ht⟩) hS.2.2 dX14_readyShare_91
-- X14_meanHold
def v_X14_meanHold : UInt64 := FP.dconst0
def k_X14_meanHold : Int32 := 1
set_option maxHeartbeats 4000000 in
set_option maxRecDepth 100000 in
theorem c_X14_meanHold (l : Launch) (hst : l.stackTraces = false) (D : va_G) (e : Nat) (h : Nat) (m1 : Nat) (m2 : Nat) (m3 : Nat) (m4 : Nat) (m5 : Nat) (m6 : Nat) (m7 : Nat) (m8 : Nat) (fr : Nat) (sz : Nat) : Met l yX14_meanHold wsX14_meanHold ({ frames := 16, cells := 1, slots := 4, locals := 340 }) (va_Pc [.ref h] (cIn D [] [(h, .inr (20, [.int 0, .ref m1, .int 0, .int 0, .ref m2, .ref m3, .int 0, .int 4, .int (-40), .ref m4, .int 0, .int 20, .int 0, .ref m5, .ref fr, .int 100, .int 60, .int 14, .ref m6, .ref m7, .ref m8])), (m4, .inr (5, [.int 0, .ref e, .int 0]))] e sz)) (va_Qd (fun (r : UInt64) (u : Int32 × List Value) => u.1 = k_X14_meanHold ∧ r = v_X14_meanHold) (fun (u : Int32 × List Value) (t : State) => va_P D vwCl [(h, .inr (20, .int u.1 :: u.2))] t.heap ∧ va_K D vwCl [] t ∧ va_D (va_A [(h, .inr (20, [.int 0, .ref m1, .int 0, .int 0, .ref m2, .ref m3, .int 0, .int 4, .int (-40), .ref m4, .int 0, .int 20, .int 0, .ref m5, .ref fr, .int 100, .int 60, .int 14, .ref m6, .ref m7, .ref m8])), (m4, .inr (5, [.int 0, .ref e, .int 0]))] sz) [(h, .inr (20, .int u.1 :: u.2))]) (va_A [(h, .inr (20, [.int 0, .ref m1, .int 0, .int 0, .ref m2, .ref m3, .int 0, .int 4, .int (-40), .ref m4, .int 0, .int 20, .int 0, .ref m5, .ref fr, .int 100, .int 60, .int 14, .ref m6, .ref m7, .ref m8])), (m4, .inr (5, [.int 0, .ref e, .int 0]))] sz)) 1 4 (va_A [(h, .inr (20, [.int 0, .ref m1, .int 0, .int 0, .ref m2, .ref m3, .int 0, .int 4, .int (-40), .ref m4, .int 0, .int 20, .int 0, .ref m5, .ref fr, .int 100, .int 60, .int 14, .ref m6, .ref m7, .ref m8])), (m4, .inr (5, [.int 0, .ref e, .int 0]))] sz) := by
  refine Met.ofW (cc := cX14_meanHold) (maxL := 4) (ret := (some .double)) (by decide +kernel) rfl ?_
  intro p e9 s m args below meth c s₁ B hml hv
  obtain ⟨rfl, hsz, hP, hK, hD0, hE0⟩ := hv
  have hx := B.exec
  have hb := B.bytes
  have hr := B.returns
  have hts := atoms_spec (ws := wsX14_meanHold) B.pre
  have hown : s.vm.findClass RX14 = some m.cls := findClass_of_methodNamed B.named
  have hlocks := B.notSynchronized
  subst hsz
  have hD := hD0.self (sz := s.heap.size)
  generalize hAe : va_A [(h, .inr (20, [.int 0, .ref m1, .int 0, .int 0, .ref m2, .ref m3, .int 0, .int 4, .int (-40), .ref m4, .int 0, .int 20, .int 0, .ref m5, .ref fr, .int 100, .int 60, .int 14, .ref m6, .ref m7, .ref m8])), (m4, .inr (5, [.int 0, .ref e, .int 0]))] s.heap.size = A at hD hE0 ⊢
  have hA : ∀ q : Nat, s.heap.size ≤ q → A q := fun q h => by rw [← hAe]; exact Or.inr h
  have hS : va_S A s.heap s.heap [] := va_S.rf
  have hE := hE0
  have hP : va_P D vwCl [(h, .inr (20, [.int 0, .ref m1, .int 0, .int 0, .ref m2, .ref m3, .int 0, .int 4, .int (-40), .ref m4, .int 0, .int 20, .int 0, .ref m5, .ref fr, .int 100, .int 60, .int 14, .ref m6, .ref m7, .ref m8])), (m4, .inr (5, [.int 0, .ref e, .int 0]))] s.heap := hP
  have hl := lv_entry ([.ref h]) (n := 4) (Nat.le_of_ble_eq_true rfl)
  rw [lg_entry_eq]
  generalize (lg_sl ([.ref h]) ++ List.replicate (4 - (lg_sl ([.ref h])).length) Slot.unset).toArray = ls at hl ⊢
  have hl : lv_has ls 4 [(0, .ref h)] := hl
  refine lv_iconst (v := 0) hx hb dX14_meanHold_0 (by decide) ?_
  refine lv_istore_n (lv' := [(1, .int 0), (0, .ref h)]) hx hb dX14_meanHold_1 rfl hl (by decide) rfl (fun ls hl => ?_)
  refine lv_aload_n hx hb dX14_meanHold_2 rfl (lv_at hl 1 rfl) ?_
  refine va_get (D := D) (ci := 20) (v := .ref m4) (C := RX14) (T := TX14) (N := 21) hx hb hts iw_RX14_wsX14_meanHold hown hK hP 0 rfl rfl 9 (by decide) (hts (.fieldLink RX14 29 "CoatLineModel" "cells" "Ljava/util/List;") (by decide +kernel)) (fun _ h9 => h9) rfl dX14_meanHold_3 ?_
  have hFc := va_free (wc := [(m4, .inr (5, [.int 0, .ref e, .int 0]))]) hD hS hA [1] rfl
  refine va_callFr (va_runF (As := []) (rest := []) (hK.1 5 _ rfl).2 ⟨hx, hb, hml, hown, hts⟩ (c_Jx4a65c_iterator_32c93 l hst D e m4 0 s.heap.size) (va_cwF 0 hts gX14_meanHold_Jx4a65c_iterator_32c93_f231Jx4a65c rfl rfl rfl (ev_f hE (q := (RJx4a65c, ⟨"java/util/List", "iterator", "()Ljava/util/Iterator;"⟩, yJx4a65c_iterator_32c93)) (by decide +kernel)) (by decide +kernel) ⟨Nat.le_of_ble_eq_true rfl, Nat.le_of_ble_eq_true rfl⟩) ⟨cIn_blind, va_recv hK hP (ci := 5) (q0 := 1) rfl rfl, cIn_go hK hP hD hE hS hA [1] rfl rfl (by decide) [] rfl⟩ rfl rfl hl.1 rfl (lv_room (Nat.le_of_ble_eq_true rfl)) dX14_meanHold_6 ⟨Nat.le_of_ble_eq_true rfl, Nat.le_of_ble_eq_true rfl⟩) hS (fun q _ h => hFc q h) hFc (fun u ra_2 t H1 locs ht hvm hw hB hz1 hk1 hS => ?_)
  obtain ⟨hP1, hK1, hD1⟩ := hB
  rw [ht] at hP1
  have hK1 := va_K.moved hvm.symm hK1
  obtain ⟨hP, hD⟩ := va_join (wr := [(h, .inr (20, [.int 0, .ref m1, .int 0, .int 0, .ref m2, .ref m3, .int 0, .int 4, .int (-40), .ref m4, .int 0, .int 20, .int 0, .ref m5, .ref fr, .int 100, .int 60, .int 14, .ref m6, .ref m7, .ref m8]))]) (w1 := [(m4, .inr (5, [.int 0, .ref e, .int 0])), (ra_2, .inr (4, [.int 0, .int (-1), .int 0, .ref m4]))]) hP hD [1] [0] rfl rfl (by decide) (by decide) hk1 hFc hP1 hD1
  generalize H1 = H at hP hS ⊢
  have hP : va_P D vwCl [(h, .inr (20, [.int 0, .ref m1, .int 0, .int 0, .ref m2, .ref m3, .int 0, .int 4, .int (-40), .ref m4, .int 0, .int 20, .int 0, .ref m5, .ref fr, .int 100, .int 60, .int 14, .ref m6, .ref m7, .ref m8])), (m4, .inr (5, [.int 0, .ref e, .int 0])), (ra_2, .inr (4, [.int 0, .int (-1), .int 0, .ref m4]))] H := hP
  have hD : va_D A [(h, .inr (20, [.int 0, .ref m1, .int 0, .int 0, .ref m2, .ref m3, .int 0, .int 4, .int (-40), .ref m4, .int 0, .int 20, .int 0, .ref m5, .ref fr, .int 100, .int 60, .int 14, .ref m6, .ref m7, .ref m8])), (m4, .inr (5, [.int 0, .ref e, .int 0])), (ra_2, .inr (4, [.int 0, .int (-1), .int 0, .ref m4]))] := hD
  refine W.widen (k := 1) (n := 4) (Nat.le_of_ble_eq_true rfl) (Nat.le_of_ble_eq_true rfl) ?_
  refine lv_astore_n (lv' := [(2, .ref ra_2), (1, .int 0), (0, .ref h)]) hx hb dX14_meanHold_11 rfl hl (by decide) rfl (fun ls hl => ?_)
  refine lv_aload_n hx hb dX14_meanHold_12 rfl (lv_at hl 0 rfl) ?_
  refine va_csFi (va_runF (As := []) (rest := []) (hK.1 4 _ rfl).2 ⟨hx, hb, hml, hown, hts⟩ (c_Jx35411_hasNext_aae02 l hst D e ra_2 m4 0 0 e H.size) (va_cwF 0 hts gX14_meanHold_Jx35411_hasNext_aae02_f235Jx35411 rfl rfl rfl (ev_f hE (q := (RJx35411, ⟨"java/util/Iterator", "hasNext", "()Z"⟩, yJx35411_hasNext_aae02)) (by decide +kernel)) (by decide +kernel) ⟨Nat.le_of_ble_eq_true rfl, Nat.le_of_ble_eq_true rfl⟩) ⟨cIn_blind, va_recv hK hP (ci := 4) (q0 := 2) rfl rfl, cIn_go hK hP hD hE hS hA [2, 1] rfl rfl (by decide) [] rfl⟩ rfl rfl hl.1 rfl (lv_room (Nat.le_of_ble_eq_true rfl)) dX14_meanHold_13 ⟨Nat.le_of_ble_eq_true rfl, Nat.le_of_ble_eq_true rfl⟩) (fun r_3 hw => ?_)
  have hw : r_3 = 0 := hw.trans (by first | rfl | decide +kernel)
  subst hw
  refine lv_if_eq (tgt := 41) hx hb dX14_meanHold_18 (by decide) (fun c_4 => ?_) (fun c_4 => absurd (show (0 : Int32) = 0 from by decide +kernel) c_4)
  refine lv_aload_n hx hb dX14_meanHold_41 rfl (lv_at hl 2 rfl) ?_
  refine lv_aload_n hx hb dX14_meanHold_42 rfl (lv_at hl 2 rfl) ?_
  refine va_get (D := D) (ci := 20) (v := .ref m4) (C := RX14) (T := TX14) (N := 21) hx hb hts iw_RX14_wsX14_meanHold hown hK hP 0 rfl rfl 9 (by decide) (hts (.fieldLink RX14 29 "CoatLineModel" "cells" "Ljava/util/List;") (by decide +kernel)) (fun _ h9 => h9) rfl dX14_meanHold_43 ?_
  refine va_csFi (va_runF (As := []) (rest := [.ref h]) (hK.1 5 _ rfl).2 ⟨hx, hb, hml, hown, hts⟩ (c_Jx4a65c_isEmpty_aae02 l hst D e m4 0 e H.size) (va_cwF 0 hts gX14_meanHold_Jx4a65c_isEmpty_aae02_f356Jx4a65c rfl rfl rfl (ev_f hE (q := (RJx4a65c, ⟨"java/util/List", "isEmpty", "()Z"⟩, yJx4a65c_isEmpty_aae02)) (by decide +kernel)) (by decide +kernel) ⟨Nat.le_of_ble_eq_true rfl, Nat.le_of_ble_eq_true rfl⟩) ⟨cIn_blind, va_recv hK hP (ci := 5) (q0 := 1) rfl rfl, cIn_go hK hP hD hE hS hA [1] rfl rfl (by decide) [] rfl⟩ rfl rfl hl.1 rfl (lv_room (Nat.le_of_ble_eq_true rfl)) dX14_meanHold_46 ⟨Nat.le_of_ble_eq_true rfl, Nat.le_of_ble_eq_true rfl⟩) (fun r_5 hw => ?_)
  have hw : r_5 = 1 := hw.trans (by first | rfl | decide +kernel)
  subst hw
  refine lv_if_eq (tgt := 58) hx hb dX14_meanHold_51 (by decide) (fun c_6 => absurd c_6 (show ¬ ((1 : Int32) = 0) from by decide +kernel)) (fun c_6 => ?_)
  refine lv_iconst (v := 1) hx hb dX14_meanHold_54 (by decide) ?_
  refine lv_goto (tgt := 59) hx hb dX14_meanHold_55 (by decide) ?_
  have hFc := va_free (wc := [(h, .inr (20, [.int 0, .ref m1, .int 0, .int 0, .ref m2, .ref m3, .int 0, .int 4, .int (-40), .ref m4, .int 0, .int 20, .int 0, .ref m5, .ref fr, .int 100, .int 60, .int 14, .ref m6, .ref m7, .ref m8]))]) hD hS hA [0] rfl
  refine va_calli (va_runV (As := [.int 1]) (rest := []) ⟨hx, hb, hml, hown, hts⟩ (c_X14_isWrong l hst D e h 0 ([.ref m1, .int 0, .int 0, .ref m2, .ref m3, .int 0, .int 4, .int (-40), .ref m4, .int 0, .int 20, .int 0, .ref m5, .ref fr, .int 100, .int 60, .int 14, .ref m6, .ref m7, .ref m8]) 1 H.size) (cwV 1 hts gX14_meanHold_X14_isWrong rfl rfl rfl (by decide +kernel) ⟨Nat.le_of_ble_eq_true rfl, Nat.le_of_ble_eq_true rfl⟩) ⟨cIn_blind, va_recv hK hP (ci := 20) (q0 := 0) rfl rfl, cIn_go hK hP hD hE hS hA [0] rfl rfl (by decide) [] rfl⟩ rfl rfl hl.1 rfl (lv_room (Nat.le_of_ble_eq_true rfl)) dX14_meanHold_59 ⟨Nat.le_of_ble_eq_true rfl, Nat.le_of_ble_eq_true rfl⟩) hS (fun q _ h => hFc q h) hFc (fun r_7 u t H1 locs ht hvm hw hB hz1 hk1 hS => ?_)
  obtain ⟨hP1, hK1, hD1⟩ := hB
  rw [ht] at hP1
  have hK1 := va_K.moved hvm.symm hK1
  obtain ⟨hP, hD⟩ := va_join (wr := [(m4, .inr (5, [.int 0, .ref e, .int 0])), (ra_2, .inr (4, [.int 0, .int (-1), .int 0, .ref m4]))]) (w1 := [(h, .inr (20, [.int 1, .ref m1, .int 0, .int 0, .ref m2, .ref m3, .int 0, .int 4, .int (-40), .ref m4, .int 0, .int 20, .int 0, .ref m5, .ref fr, .int 100, .int 60, .int 14, .ref m6, .ref m7, .ref m8]))]) hP hD [0] [1, 2] rfl rfl (by decide) (by decide) hk1 hFc hP1 hD1
  generalize H1 = H at hP hS ⊢
  have hP : va_P D vwCl [(m4, .inr (5, [.int 0, .ref e, .int 0])), (ra_2, .inr (4, [.int 0, .int (-1), .int 0, .ref m4])), (h, .inr (20, [.int 1, .ref m1, .int 0, .int 0, .ref m2, .ref m3, .int 0, .int 4, .int (-40), .ref m4, .int 0, .int 20, .int 0, .ref m5, .ref fr, .int 100, .int 60, .int 14, .ref m6, .ref m7, .ref m8]))] H := hP
  have hD : va_D A [(m4, .inr (5, [.int 0, .ref e, .int 0])), (ra_2, .inr (4, [.int 0, .int (-1), .int 0, .ref m4])), (h, .inr (20, [.int 1, .ref m1, .int 0, .int 0, .ref m2, .ref m3, .int 0, .int 4, .int (-40), .ref m4, .int 0, .int 20, .int 0, .ref m5, .ref fr, .int 100, .int 60, .int 14, .ref m6, .ref m7, .ref m8]))] := hD
  have hw : r_7 = 1 := hw.trans (by first | rfl | decide +kernel)
  subst hw
  refine lv_if_eq (tgt := 69) hx hb dX14_meanHold_62 (by decide) (fun c_9 => absurd c_9 (show ¬ ((1 : Int32) = 0) from by decide +kernel)) (fun c_9 => ?_)
  refine lv_dconst0 hx hb dX14_meanHold_65 ?_
  refine lv_goto (tgt := 82) hx hb dX14_meanHold_66 (by decide) ?_
  exact W.dret (v := FP.dconst0) hx hb hr (fun t ht hW => ⟨⟨FP.dconst0, ((1, [.ref m1, .int 0, .int 0, .ref m2, .ref m3, .int 0, .int 4, .int (-40), .ref m4, .int 0, .int 20, .int 0, .ref m5, .ref fr, .int 100, .int 60, .int 14, .ref m6, .ref m7, .ref m8]) : Int32 × List Value), rfl, ⟨rfl, rfl⟩, ⟨by rw [ht]; exact hP.sub [2] rfl, va_K.moved hW.alike (hK.sub [] rfl), hD.sub [2] (by decide) rfl⟩⟩, hS.F ht⟩) hS.2.2 dX14_meanHold_82
