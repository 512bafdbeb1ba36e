set_option maxRecDepth 20000 in
theorem ht_RX10_79_83 : ∀ w ∈ Cond.classLink RX10 79 "java/lang/IllegalArgumentException" :: Cond.initialized "java/lang/IllegalArgumentException" :: vx_atS RX10 83 "java/lang/IllegalArgumentException" ["java/lang/RuntimeException", "java/lang/Exception"], vx_ot w = true := by decide +kernel
set_option maxRecDepth 20000 in
theorem hm_wsX10_requireWithin_83 : ∀ w ∈ (vx_atS RX10 83 "java/lang/IllegalArgumentException" ["java/lang/RuntimeException", "java/lang/Exception"]).filter goodWord, w ∈ wsX10_requireWithin := by decide +kernel
set_option maxRecDepth 20000 in
theorem hn_RX10_83 : ∀ w ∈ (vx_atS RX10 83 "java/lang/IllegalArgumentException" ["java/lang/RuntimeException", "java/lang/Exception"]).filter (fun w => !goodWord w), w ∈ ([.castable "java/lang/IllegalArgumentException" "java/lang/IllegalArgumentException", .declares (Bundle.initS "java/lang/RuntimeException"), .declares (Bundle.initS "java/lang/Exception"), .declares (Bundle.initS "java/lang/Throwable")] : List Cond) := by decide +kernel
set_option maxRecDepth 20000 in
theorem ht_RX10_295_299 : ∀ w ∈ Cond.classLink RX10 295 "java/lang/IllegalStateException" :: Cond.initialized "java/lang/IllegalStateException" :: vx_atS RX10 299 "java/lang/IllegalStateException" ["java/lang/RuntimeException", "java/lang/Exception"], vx_ot w = true := by decide +kernel
set_option maxRecDepth 20000 in
theorem hm_wsX10_requireSpace_299 : ∀ w ∈ (vx_atS RX10 299 "java/lang/IllegalStateException" ["java/lang/RuntimeException", "java/lang/Exception"]).filter goodWord, w ∈ wsX10_requireSpace := by decide +kernel
set_option maxRecDepth 20000 in
theorem hn_RX10_299 : ∀ w ∈ (vx_atS RX10 299 "java/lang/IllegalStateException" ["java/lang/RuntimeException", "java/lang/Exception"]).filter (fun w => !goodWord w), w ∈ ([.castable "java/lang/IllegalStateException" "java/lang/IllegalStateException", .declares (Bundle.initS "java/lang/RuntimeException"), .declares (Bundle.initS "java/lang/Exception"), .declares (Bundle.initS "java/lang/Throwable")] : List Cond) := by decide +kernel
set_option maxRecDepth 20000 in
theorem ht_RX10_460_464 : ∀ w ∈ Cond.classLink RX10 460 "java/lang/IndexOutOfBoundsException" :: Cond.initialized "java/lang/IndexOutOfBoundsException" :: vx_atS RX10 464 "java/lang/IndexOutOfBoundsException" ["java/lang/RuntimeException", "java/lang/Exception"], vx_ot w = true := by decide +kernel
set_option maxRecDepth 20000 in
theorem hm_wsX10_requireChannel_464 : ∀ w ∈ (vx_atS RX10 464 "java/lang/IndexOutOfBoundsException" ["java/lang/RuntimeException", "java/lang/Exception"]).filter goodWord, w ∈ wsX10_requireChannel := by decide +kernel
set_option maxRecDepth 20000 in
theorem hn_RX10_464 : ∀ w ∈ (vx_atS RX10 464 "java/lang/IndexOutOfBoundsException" ["java/lang/RuntimeException", "java/lang/Exception"]).filter (fun w => !goodWord w), w ∈ ([.castable "java/lang/IndexOutOfBoundsException" "java/lang/IndexOutOfBoundsException", .declares (Bundle.initS "java/lang/RuntimeException"), .declares (Bundle.initS "java/lang/Exception"), .declares (Bundle.initS "java/lang/Throwable")] : List Cond) := by decide +kernel
set_option maxRecDepth 20000 in
theorem hm_wsX10_lotNumbered_464 : ∀ w ∈ (vx_atS RX10 464 "java/lang/IndexOutOfBoundsException" ["java/lang/RuntimeException", "java/lang/Exception"]).filter goodWord, w ∈ wsX10_lotNumbered := by decide +kernel
set_option maxRecDepth 20000 in
theorem iw_RX10_wsX10_lotNumbered : ∀ w ∈ u_ws RX10 TX10 20, w ∈ wsX10_lotNumbered := by decide +kernel
set_option maxRecDepth 20000 in
theorem hm_wsX10_coilNumbered_464 : ∀ w ∈ (vx_atS RX10 464 "java/lang/IndexOutOfBoundsException" ["java/lang/RuntimeException", "java/lang/Exception"]).filter goodWord, w ∈ wsX10_coilNumbered := by decide +kernel
set_option maxRecDepth 20000 in
theorem iw_RX10_wsX10_coilNumbered : ∀ w ∈ u_ws RX10 TX10 20, w ∈ wsX10_coilNumbered := by decide +kernel
set_option maxRecDepth 20000 in
theorem hm_wsX10_ribbonNumbered_464 : ∀ w ∈ (vx_atS RX10 464 "java/lang/IndexOutOfBoundsException" ["java/lang/RuntimeException", "java/lang/Exception"]).filter goodWord, w ∈ wsX10_ribbonNumbered := by decide +kernel
set_option maxRecDepth 20000 in
theorem iw_RX10_wsX10_ribbonNumbered : ∀ w ∈ u_ws RX10 TX10 20, w ∈ wsX10_ribbonNumbered := by decide +kernel
set_option maxRecDepth 20000 in
theorem hm_wsX10_cellNumbered_464 : ∀ w ∈ (vx_atS RX10 464 "java/lang/IndexOutOfBoundsException" ["java/lang/RuntimeException", "java/lang/Exception"]).filter goodWord, w ∈ wsX10_cellNumbered := by decide +kernel
set_option maxRecDepth 20000 in
theorem iw_RX10_wsX10_cellNumbered : ∀ w ∈ u_ws RX10 TX10 20, w ∈ wsX10_cellNumbered := by decide +kernel
set_option maxRecDepth 20000 in
theorem hm_wsX10_protocolNumbered_464 : ∀ w ∈ (vx_atS RX10 464 "java/lang/IndexOutOfBoundsException" ["java/lang/RuntimeException", "java/lang/Exception"]).filter goodWord, w ∈ wsX10_protocolNumbered := by decide +kernel
set_option maxRecDepth 20000 in
theorem iw_RX10_wsX10_protocolNumbered : ∀ w ∈ u_ws RX10 TX10 20, w ∈ wsX10_protocolNumbered := by decide +kernel
set_option maxRecDepth 20000 in
theorem hm_wsX10_moduleNumbered_464 : ∀ w ∈ (vx_atS RX10 464 "java/lang/IndexOutOfBoundsException" ["java/lang/RuntimeException", "java/lang/Exception"]).filter goodWord, w ∈ wsX10_moduleNumbered := by decide +kernel
set_option maxRecDepth 20000 in
theorem iw_RX10_wsX10_moduleNumbered : ∀ w ∈ u_ws RX10 TX10 20, w ∈ wsX10_moduleNumbered := by decide +kernel
set_option maxRecDepth 20000 in
theorem hm_wsX10_packNumbered_464 : ∀ w ∈ (vx_atS RX10 464 "java/lang/IndexOutOfBoundsException" ["java/lang/RuntimeException", "java/lang/Exception"]).filter goodWord, w ∈ wsX10_packNumbered := by decide +kernel
set_option maxRecDepth 20000 in
theorem iw_RX10_wsX10_packNumbered : ∀ w ∈ u_ws RX10 TX10 20, w ∈ wsX10_packNumbered := by decide +kernel
set_option maxRecDepth 20000 in
theorem hm_wsX10_clear_464 : ∀ w ∈ (vx_atS RX10 464 "java/lang/IndexOutOfBoundsException" ["java/lang/RuntimeException", "java/lang/Exception"]).filter goodWord, w ∈ wsX10_clear := by decide +kernel
set_option maxRecDepth 20000 in
theorem iw_RX10_wsX10_clear : ∀ w ∈ u_ws RX10 TX10 20, w ∈ wsX10_clear := by decide +kernel
set_option maxRecDepth 20000 in
theorem iw_RX10_wsX10_gap : ∀ w ∈ u_ws RX10 TX10 20, w ∈ wsX10_gap := by decide +kernel
set_option maxRecDepth 20000 in
theorem iw_RX10_wsX10_dew : ∀ w ∈ u_ws RX10 TX10 20, w ∈ wsX10_dew := by decide +kernel
set_option maxRecDepth 20000 in
theorem iw_RX10_wsX10_room : ∀ w ∈ u_ws RX10 TX10 20, w ∈ wsX10_room := by decide +kernel
set_option maxRecDepth 20000 in
theorem hm_wsX10_bounds_83 : ∀ w ∈ (vx_atS RX10 83 "java/lang/IllegalArgumentException" ["java/lang/RuntimeException", "java/lang/Exception"]).filter goodWord, w ∈ wsX10_bounds := by decide +kernel
set_option maxRecDepth 20000 in
theorem iw_RX10_wsX10_bounds : ∀ w ∈ u_ws RX10 TX10 20, w ∈ wsX10_bounds := by decide +kernel
set_option maxRecDepth 20000 in
theorem iw_RX10_wsX10_sharpen : ∀ w ∈ u_ws RX10 TX10 20, w ∈ wsX10_sharpen := by decide +kernel
set_option maxRecDepth 20000 in
theorem iw_RX10_wsX10_givenBack : ∀ w ∈ u_ws RX10 TX10 20, w ∈ wsX10_givenBack := by decide +kernel
set_option maxRecDepth 20000 in
theorem iw_RX10_wsX10_time : ∀ w ∈ u_ws RX10 TX10 20, w ∈ wsX10_time := by decide +kernel
set_option maxRecDepth 20000 in
theorem iw_RX10_wsX10_drift : ∀ w ∈ u_ws RX10 TX10 20, w ∈ wsX10_drift := by decide +kernel
set_option maxRecDepth 20000 in
theorem iw_RX2_wsX10_drift : ∀ w ∈ u_ws RX2 TX2 2, w ∈ wsX10_drift := by decide +kernel
set_option maxRecDepth 20000 in
theorem iw_RX10_wsX10_reset : ∀ w ∈ u_ws RX10 TX10 20, w ∈ wsX10_reset := by decide +kernel
set_option maxRecDepth 20000 in
theorem iw_RX2_wsX10_reset : ∀ w ∈ u_ws RX2 TX2 2, w ∈ wsX10_reset := by decide +kernel
set_option maxRecDepth 20000 in
theorem iw_RX10_wsX10_checksum : ∀ w ∈ u_ws RX10 TX10 20, w ∈ wsX10_checksum := by decide +kernel
set_option maxRecDepth 20000 in
theorem iw_RX10_wsX10_isSound : ∀ w ∈ u_ws RX10 TX10 20, w ∈ wsX10_isSound := by decide +kernel
set_option maxRecDepth 20000 in
theorem iw_RX10_wsX10_readyShare : ∀ w ∈ u_ws RX10 TX10 20, w ∈ wsX10_readyShare := by decide +kernel
set_option maxRecDepth 20000 in
theorem ht_RX10_476_480 : ∀ w ∈ Cond.classLink RX10 476 "java/lang/ArithmeticException" :: Cond.initialized "java/lang/ArithmeticException" :: vx_atS RX10 480 "java/lang/ArithmeticException" ["java/lang/RuntimeException", "java/lang/Exception"], vx_ot w = true := by decide +kernel
set_option maxRecDepth 20000 in
theorem hm_wsX10_readyShare_480 : ∀ w ∈ (vx_atS RX10 480 "java/lang/ArithmeticException" ["java/lang/RuntimeException", "java/lang/Exception"]).filter goodWord, w ∈ wsX10_readyShare := by decide +kernel
set_option maxRecDepth 20000 in
theorem hn_RX10_480 : ∀ w ∈ (vx_atS RX10 480 "java/lang/ArithmeticException" ["java/lang/RuntimeException", "java/lang/Exception"]).filter (fun w => !goodWord w), w ∈ ([.castable "java/lang/ArithmeticException" "java/lang/ArithmeticException", .declares (Bundle.initS "java/lang/RuntimeException"), .declares (Bundle.initS "java/lang/Exception"), .declares (Bundle.initS "java/lang/Throwable")] : List Cond) := by decide +kernel
set_option maxRecDepth 20000 in
theorem iw_RX10_wsX10_meanHold : ∀ w ∈ u_ws RX10 TX10 20, w ∈ wsX10_meanHold := by decide +kernel
set_option maxRecDepth 20000 in
theorem hm_wsX10_meanHold_480 : ∀ w ∈ (vx_atS RX10 480 "java/lang/ArithmeticException" ["java/lang/RuntimeException", "java/lang/Exception"]).filter goodWord, w ∈ wsX10_meanHold := by decide +kernel
-- X10_requireWithin
def t_X10_requireWithin (p0 : Int32) (p1 : Int32) (p2 : Int32) : Int32 := if p0 < p1 then 1 else (if p0 ≤ p2 then 0 else 1)
set_option maxHeartbeats 4000000 in
set_option maxRecDepth 100000 in
theorem c_X10_requireWithin (l : Launch) (hst : l.stackTraces = false) (D : va_G) (e : Nat) (p0 : Int32) (p1 : Int32) (p2 : Int32) (sz : Nat) : vx_Met l yX10_requireWithin wsX10_requireWithin ({ frames := 10, cells := 1, slots := 6, locals := 160 }) (va_Pc [.int p0, .int p1, .int p2] (cIn D [] [] e sz)) (va_Qv (fun (_ : Unit) => t_X10_requireWithin p0 p1 p2 = 0 ∧ True) (fun (_ : Unit) (_ : State) => True) (va_A [] sz)) (vx_X (fun _ : Unit => True) (fun (E : String) (_ : Unit) (_ : State) => (E = "java/lang/IllegalArgumentException" ∧ t_X10_requireWithin p0 p1 p2 = 1)) (va_A [] sz)) 1 6 (va_A [] sz) := by
  refine vx_ofW (cc := cX10_requireWithin) (maxL := 3) (ret := none) (by decide +kernel) rfl ?_
  intro p e9 s m args below meth c s₁ B hml htb hv
  obtain ⟨rfl, hsz, hP, hK, hD0, hE0⟩ := hv
  have hx := B.exec
  have hb := B.bytes
  have hr := B.returns
  have hts := atoms_spec (ws := wsX10_requireWithin) B.pre
  have hown : s.vm.findClass RX10 = some m.cls := findClass_of_methodNamed B.named
  have hlocks := B.notSynchronized
  subst hsz
  have hD := hD0.self (sz := s.heap.size)
  generalize hAe : va_A [] s.heap.size = A at hD hE0 ⊢
  have hA : ∀ q : Nat, s.heap.size ≤ q → A q := fun q h => by rw [← hAe]; exact Or.inr h
  have hS : va_S A s.heap s.heap [] := va_S.rf
  have hE := hE0
  have hP : va_P D vwCl [] s.heap := hP
  have hl := lv_entry ([.int p0, .int p1, .int p2]) (n := 3) (Nat.le_of_ble_eq_true rfl)
  rw [lg_entry_eq]
  generalize (lg_sl ([.int p0, .int p1, .int p2]) ++ List.replicate (3 - (lg_sl ([.int p0, .int p1, .int p2])).length) Slot.unset).toArray = ls at hl ⊢
  have hl : lv_has ls 3 [(0, .int p0), (1, .int p1), (2, .int p2)] := hl
  refine lv_iload_n hx hb dX10_requireWithin_0 rfl (lv_at hl 0 rfl) ?_
  refine lv_iload_n hx hb dX10_requireWithin_1 rfl (lv_at hl 1 rfl) ?_
  refine lv_icmp_lt (tgt := 10) hx hb dX10_requireWithin_2 (by decide) (fun c_1 => ?_) (fun c_1 => ?_)
  · obtain ⟨sa_2, hs_3⟩ := ev_x hE (q := (510, "a number is out of range")) (by decide +kernel)
    exact vx_throwSW hx hb hst hown (by decide +kernel) (by decide +kernel) (hts (.classLink RX10 79 "java/lang/IllegalArgumentException") (by decide +kernel)) (hts (.initialized "java/lang/IllegalArgumentException") (by decide +kernel)) hs_3 (vx_hat (fun w hw => hts w (hm_wsX10_requireWithin_83 w hw)) hn_RX10_83 (vx_c (ev_u hE (w := .castable "java/lang/IllegalArgumentException" _) (by decide +kernel) rfl) (vx_c (ev_u hE (by decide +kernel) rfl) (vx_c (ev_u hE (by decide +kernel) rfl) (vx_c (ev_u hE (by decide +kernel) rfl) vx_n))))) ht_RX10_79_83 hE.1.1.1 hE.1.1.2 hS (hl.1.trans hml.symm) dX10_requireWithin_10 dX10_requireWithin_13 dX10_requireWithin_14 dX10_requireWithin_17 dX10_requireWithin_20 (fun x hx => (htb x hx).elim) (Nat.le_of_ble_eq_true rfl) (Nat.le_of_ble_eq_true rfl) (Nat.le_of_ble_eq_true rfl) (Nat.le_of_ble_eq_true rfl) hlocks (fun t hal h1 h2 => ⟨(), trivial, ⟨rfl, (by unfold t_X10_requireWithin; rw [if_pos c_1])⟩, thr_F hS h1 h2⟩) hS.2.2 (Nat.le_of_ble_eq_true rfl) (Nat.le_of_ble_eq_true rfl)
  · refine lv_iload_n hx hb dX10_requireWithin_5 rfl (lv_at hl 0 rfl) ?_
    refine lv_iload_n hx hb dX10_requireWithin_6 rfl (lv_at hl 2 rfl) ?_
    refine lv_icmp_le (tgt := 21) hx hb dX10_requireWithin_7 (by decide) (fun c_4 => ?_) (fun c_4 => ?_)
    · refine W.widen (k := 1) (n := 6) (Nat.le_of_ble_eq_true rfl) (Nat.le_of_ble_eq_true rfl) ?_
      refine vx_ret ?_
      exact W.vret hx hb hr (fun t ht hW => ⟨⟨(), rfl, ⟨(by unfold t_X10_requireWithin; rw [if_neg c_1, if_pos c_4]), trivial⟩, trivial⟩, hS.F ht⟩) hS.2.2 dX10_requireWithin_21
    · obtain ⟨sa_5, hs_6⟩ := ev_x hE (q := (510, "a number is out of range")) (by decide +kernel)
      exact vx_throwSW hx hb hst hown (by decide +kernel) (by decide +kernel) (hts (.classLink RX10 79 "java/lang/IllegalArgumentException") (by decide +kernel)) (hts (.initialized "java/lang/IllegalArgumentException") (by decide +kernel)) hs_6 (vx_hat (fun w hw => hts w (hm_wsX10_requireWithin_83 w hw)) hn_RX10_83 (vx_c (ev_u hE (w := .castable "java/lang/IllegalArgumentException" _) (by decide +kernel) rfl) (vx_c (ev_u hE (by decide +kernel) rfl) (vx_c (ev_u hE (by decide +kernel) rfl) (vx_c (ev_u hE (by decide +kernel) rfl) vx_n))))) ht_RX10_79_83 hE.1.1.1 hE.1.1.2 hS (hl.1.trans hml.symm) dX10_requireWithin_10 dX10_requireWithin_13 dX10_requireWithin_14 dX10_requireWithin_17 dX10_requireWithin_20 (fun x hx => (htb x hx).elim) (Nat.le_of_ble_eq_true rfl) (Nat.le_of_ble_eq_true rfl) (Nat.le_of_ble_eq_true rfl) (Nat.le_of_ble_eq_true rfl) hlocks (fun t hal h1 h2 => ⟨(), trivial, ⟨rfl, (by unfold t_X10_requireWithin; rw [if_neg c_1, if_neg c_4])⟩, thr_F hS h1 h2⟩) hS.2.2 (Nat.le_of_ble_eq_true rfl) (Nat.le_of_ble_eq_true rfl)
-- X10_requireCurrent
def t_X10_requireCurrent (p0 : Int32) : Int32 := if t_X10_requireWithin p0 (-30) 30 = 0 then 0 else 1
set_option maxHeartbeats 4000000 in
set_option maxRecDepth 100000 in
theorem c_X10_requireCurrent (l : Launch) (hst : l.stackTraces = false) (D : va_G) (e : Nat) (p0 : Int32) (sz : Nat) : vx_Met l yX10_requireCurrent wsX10_requireCurrent ({ frames := 12, cells := 1, slots := 6, locals := 220 }) (va_Pc [.int p0] (cIn D [] [] e sz)) (va_Qv (fun (_ : Unit) => t_X10_requireCurrent p0 = 0 ∧ True) (fun (_ : Unit) (_ : State) => True) (va_A [] sz)) (vx_X (fun _ : Unit => True) (fun (E : String) (_ : Unit) (_ : State) => (E = "java/lang/IllegalArgumentException" ∧ t_X10_requireCurrent p0 = 1)) (va_A [] sz)) 1 6 (va_A [] sz) := by
  refine vx_ofW (cc := cX10_requireCurrent) (maxL := 1) (ret := none) (by decide +kernel) rfl ?_
  intro p e9 s m args below meth c s₁ B hml htb hv
  obtain ⟨rfl, hsz, hP, hK, hD0, hE0⟩ := hv
  have hx := B.exec
  have hb := B.bytes
  have hr := B.returns
  have hts := atoms_spec (ws := wsX10_requireCurrent) B.pre
  have hown : s.vm.findClass RX10 = some m.cls := findClass_of_methodNamed B.named
  have hlocks := B.notSynchronized
  subst hsz
  have hD := hD0.self (sz := s.heap.size)
  generalize hAe : va_A [] s.heap.size = A at hD hE0 ⊢
  have hA : ∀ q : Nat, s.heap.size ≤ q → A q := fun q h => by rw [← hAe]; exact Or.inr h
  have hS : va_S A s.heap s.heap [] := va_S.rf
  have hE := hE0
  have hP : va_P D vwCl [] s.heap := hP
  have hl := lv_entry ([.int p0]) (n := 1) (Nat.le_of_ble_eq_true rfl)
  rw [lg_entry_eq]
  generalize (lg_sl ([.int p0]) ++ List.replicate (1 - (lg_sl ([.int p0])).length) Slot.unset).toArray = ls at hl ⊢
  have hl : lv_has ls 1 [(0, .int p0)] := hl
  refine lv_iload_n hx hb dX10_requireCurrent_0 rfl (lv_at hl 0 rfl) ?_
  refine lv_bipush (v := (-30)) hx hb dX10_requireCurrent_1 (by decide) ?_
  refine lv_bipush (v := 30) hx hb dX10_requireCurrent_3 (by decide) ?_
  have hFc := va_free (wc := []) hD hS hA [] rfl
  refine vx_callv (vx_runS (As := [.int p0, .int (-30), .int 30]) (rest := []) ⟨hx, hb, hml, hown, hts⟩ (c_X10_requireWithin l hst D e p0 (-30) 30 s.heap.size) (va_cwS 3 hts gX10_requireCurrent_X10_requireWithin rfl rfl rfl (by decide +kernel) ⟨Nat.le_of_ble_eq_true rfl, Nat.le_of_ble_eq_true rfl⟩) ⟨cIn_blind, cIn_go hK hP hD hE hS hA [] rfl rfl (by decide) [] rfl⟩ rfl rfl hl.1 rfl (lv_room (Nat.le_of_ble_eq_true rfl)) dX10_requireCurrent_5 ⟨Nat.le_of_ble_eq_true rfl, Nat.le_of_ble_eq_true rfl⟩) hS (fun q _ h => hFc q h) hFc (fun q _ h => hFc q h) (fun E ce q9 u t H1 locs ht hvm hpx hB hz1 hk1 hS hce hcv hcl => ?_) (fun u t H1 locs ht hvm hw hB hz1 hk1 hS => ?_)
  · obtain ⟨rfl, hw⟩ := hB
    have c_3 : ¬ t_X10_requireWithin p0 (-30) 30 = 0 := by rw [hw]; decide
    exact vx_out (fun x hx => (htb x hx).elim) hlocks hce hcv hcl (fun t9 h9 hal => ⟨(), trivial, ⟨rfl, (by unfold t_X10_requireCurrent; rw [if_neg c_3])⟩, hS.F h9⟩) hS.2.2 (Nat.le_of_ble_eq_true rfl) (Nat.le_of_ble_eq_true rfl)
  · have c_2 : t_X10_requireWithin p0 (-30) 30 = 0 := hw.1
    obtain ⟨hP, hD⟩ := cIn_rest (wc := []) (wr := []) hP hD [] [] rfl rfl (by decide) (by decide) hk1 hFc
    generalize H1 = H at hP hS ⊢
    have hP : va_P D vwCl [] H := hP
    have hD : va_D A [] := hD
    refine W.widen (k := 1) (n := 6) (Nat.le_of_ble_eq_true rfl) (Nat.le_of_ble_eq_true rfl) ?_
    refine vx_ret ?_
    exact W.vret hx hb hr (fun t ht hW => ⟨⟨(), rfl, ⟨(by unfold t_X10_requireCurrent; rw [if_pos c_2]), trivial⟩, trivial⟩, hS.F ht⟩) hS.2.2 dX10_requireCurrent_8
-- X10_requireStep
def t_X10_requireStep (p0 : Int32) (p1 : Int32) : Int32 := if t_X10_requireCurrent p0 = 0 then (if t_X10_requireWithin p1 1 20 = 0 then 0 else 1) else 1
set_option maxHeartbeats 4000000 in
set_option maxRecDepth 100000 in
theorem c_X10_requireStep (l : Launch) (hst : l.stackTraces = false) (D : va_G) (e : Nat) (p0 : Int32) (p1 : Int32) (sz : Nat) : vx_Met l yX10_requireStep wsX10_requireStep ({ frames := 14, cells := 2, slots := 12, locals := 280 }) (va_Pc [.int p0, .int p1] (cIn D [] [] e sz)) (va_Qv (fun (_ : Unit) => t_X10_requireStep p0 p1 = 0 ∧ True) (fun (_ : Unit) (_ : State) => True) (va_A [] sz)) (vx_X (fun _ : Unit => True) (fun (E : String) (_ : Unit) (_ : State) => (E = "java/lang/IllegalArgumentException" ∧ t_X10_requireStep p0 p1 = 1)) (va_A [] sz)) 2 12 (va_A [] sz) := by
  refine vx_ofW (cc := cX10_requireStep) (maxL := 2) (ret := none) (by decide +kernel) rfl ?_
  intro p e9 s m args below meth c s₁ B hml htb hv
  obtain ⟨rfl, hsz, hP, hK, hD0, hE0⟩ := hv
  have hx := B.exec
  have hb := B.bytes
  have hr := B.returns
  have hts := atoms_spec (ws := wsX10_requireStep) B.pre
  have hown : s.vm.findClass RX10 = some m.cls := findClass_of_methodNamed B.named
  have hlocks := B.notSynchronized
  subst hsz
  have hD := hD0.self (sz := s.heap.size)
  generalize hAe : va_A [] s.heap.size = A at hD hE0 ⊢
  have hA : ∀ q : Nat, s.heap.size ≤ q → A q := fun q h => by rw [← hAe]; exact Or.inr h
  have hS : va_S A s.heap s.heap [] := va_S.rf
  have hE := hE0
  have hP : va_P D vwCl [] s.heap := hP
  have hl := lv_entry ([.int p0, .int p1]) (n := 2) (Nat.le_of_ble_eq_true rfl)
  rw [lg_entry_eq]
  generalize (lg_sl ([.int p0, .int p1]) ++ List.replicate (2 - (lg_sl ([.int p0, .int p1])).length) Slot.unset).toArray = ls at hl ⊢
  have hl : lv_has ls 2 [(0, .int p0), (1, .int p1)] := hl
  refine lv_iload_n hx hb dX10_requireStep_0 rfl (lv_at hl 0 rfl) ?_
  have hFc := va_free (wc := []) hD hS hA [] rfl
  refine vx_callv (vx_runS (As := [.int p0]) (rest := []) ⟨hx, hb, hml, hown, hts⟩ (c_X10_requireCurrent l hst D e p0 s.heap.size) (va_cwS 1 hts gX10_requireStep_X10_requireCurrent rfl rfl rfl (by decide +kernel) ⟨Nat.le_of_ble_eq_true rfl, Nat.le_of_ble_eq_true rfl⟩) ⟨cIn_blind, cIn_go hK hP hD hE hS hA [] rfl rfl (by decide) [] rfl⟩ rfl rfl hl.1 rfl (lv_room (Nat.le_of_ble_eq_true rfl)) dX10_requireStep_1 ⟨Nat.le_of_ble_eq_true rfl, Nat.le_of_ble_eq_true rfl⟩) hS (fun q _ h => hFc q h) hFc (fun q _ h => hFc q h) (fun E ce q9 u t H1 locs ht hvm hpx hB hz1 hk1 hS hce hcv hcl => ?_) (fun u t H1 locs ht hvm hw hB hz1 hk1 hS => ?_)
  · obtain ⟨rfl, hw⟩ := hB
    have c_3 : ¬ t_X10_requireCurrent p0 = 0 := by rw [hw]; decide
    exact vx_out (fun x hx => (htb x hx).elim) hlocks hce hcv hcl (fun t9 h9 hal => ⟨(), trivial, ⟨rfl, (by unfold t_X10_requireStep; rw [if_neg c_3])⟩, hS.F h9⟩) hS.2.2 (Nat.le_of_ble_eq_true rfl) (Nat.le_of_ble_eq_true rfl)
  · have c_2 : t_X10_requireCurrent p0 = 0 := hw.1
    obtain ⟨hP, hD⟩ := cIn_rest (wc := []) (wr := []) hP hD [] [] rfl rfl (by decide) (by decide) hk1 hFc
    generalize H1 = H at hP hS ⊢
    have hP : va_P D vwCl [] H := hP
    have hD : va_D A [] := hD
    refine W.widen (k := 1) (n := 6) (Nat.le_of_ble_eq_true rfl) (Nat.le_of_ble_eq_true rfl) ?_
    refine lv_iload_n hx hb dX10_requireStep_4 rfl (lv_at hl 1 rfl) ?_
    refine lv_iconst (v := 1) hx hb dX10_requireStep_5 (by decide) ?_
    refine lv_bipush (v := 20) hx hb dX10_requireStep_6 (by decide) ?_
    have hFc := va_free (wc := []) hD hS hA [] rfl
    refine vx_callv (vx_runS (As := [.int p1, .int 1, .int 20]) (rest := []) ⟨hx, hb, hml, hown, hts⟩ (c_X10_requireWithin l hst D e p1 1 20 H.size) (va_cwS 3 hts gX10_requireStep_X10_requireWithin rfl rfl rfl (by decide +kernel) ⟨Nat.le_of_ble_eq_true rfl, Nat.le_of_ble_eq_true rfl⟩) ⟨cIn_blind, cIn_go hK hP hD hE hS hA [] rfl rfl (by decide) [] rfl⟩ rfl rfl hl.1 rfl (lv_room (Nat.le_of_ble_eq_true rfl)) dX10_requireStep_8 ⟨Nat.le_of_ble_eq_true rfl, Nat.le_of_ble_eq_true rfl⟩) hS (fun q _ h => hFc q h) hFc (fun q _ h => hFc q h) (fun E ce q9 u t H1 locs ht hvm hpx hB hz1 hk1 hS hce hcv hcl => ?_) (fun u t H1 locs ht hvm hw hB hz1 hk1 hS => ?_)
    · obtain ⟨rfl, hw⟩ := hB
      have c_6 : ¬ t_X10_requireWithin p1 1 20 = 0 := by rw [hw]; decide
      exact vx_out (fun x hx => (htb x hx).elim) hlocks hce hcv hcl (fun t9 h9 hal => ⟨(), trivial, ⟨rfl, (by unfold t_X10_requireStep; rw [if_pos c_2, if_neg c_6])⟩, hS.F h9⟩) hS.2.2 (Nat.le_of_ble_eq_true rfl) (Nat.le_of_ble_eq_true rfl)
    · have c_5 : t_X10_requireWithin p1 1 20 = 0 := hw.1
      obtain ⟨hP, hD⟩ := cIn_rest (wc := []) (wr := []) hP hD [] [] rfl rfl (by decide) (by decide) hk1 hFc
      generalize H1 = H at hP hS ⊢
      have hP : va_P D vwCl [] H := hP
      have hD : va_D A [] := hD
      refine W.widen (k := 2) (n := 12) (Nat.le_of_ble_eq_true rfl) (Nat.le_of_ble_eq_true rfl) ?_
      refine vx_ret ?_
      exact W.vret hx hb hr (fun t ht hW => ⟨⟨(), rfl, ⟨(by unfold t_X10_requireStep; rw [if_pos c_2, if_pos c_5]), trivial⟩, trivial⟩, hS.F ht⟩) hS.2.2 dX10_requireStep_11
-- X10_requireSpace
def t_X10_requireSpace (p0 : Int32) (p1 : Int32) (p2 : Int32) : Int32 := if (p0 + p1) ≤ p2 then 0 else 2
set_option maxHeartbeats 4000000 in
set_option maxRecDepth 100000 in
theorem c_X10_requireSpace (l : Launch) (hst : l.stackTraces = false) (D : va_G) (e : Nat) (p0 : Int32) (p1 : Int32) (p2 : Int32) (sz : Nat) : vx_Met l yX10_requireSpace wsX10_requireSpace ({ frames := 10, cells := 1, slots := 6, locals := 160 }) (va_Pc [.int p0, .int p1, .int p2] (cIn D [] [] e sz)) (va_Qv (fun (_ : Unit) => t_X10_requireSpace p0 p1 p2 = 0 ∧ True) (fun (_ : Unit) (_ : State) => True) (va_A [] sz)) (vx_X (fun _ : Unit => True) (fun (E : String) (_ : Unit) (_ : State) => (E = "java/lang/IllegalStateException" ∧ t_X10_requireSpace p0 p1 p2 = 2)) (va_A [] sz)) 1 6 (va_A [] sz) := by
  refine vx_ofW (cc := cX10_requireSpace) (maxL := 3) (ret := none) (by decide +kernel) rfl ?_
  intro p e9 s m args below meth c s₁ B hml htb hv
  obtain ⟨rfl, hsz, hP, hK, hD0, hE0⟩ := hv
  have hx := B.exec
  have hb := B.bytes
  have hr := B.returns
  have hts := atoms_spec (ws := wsX10_requireSpace) B.pre
  have hown : s.vm.findClass RX10 = some m.cls := findClass_of_methodNamed B.named
  have hlocks := B.notSynchronized
  subst hsz
  have hD := hD0.self (sz := s.heap.size)
  generalize hAe : va_A [] s.heap.size = A at hD hE0 ⊢
  have hA : ∀ q : Nat, s.heap.size ≤ q → A q := fun q h => by rw [← hAe]; exact Or.inr h
  have hS : va_S A s.heap s.heap [] := va_S.rf
  have hE := hE0
  have hP : va_P D vwCl [] s.heap := hP
  have hl := lv_entry ([.int p0, .int p1, .int p2]) (n := 3) (Nat.le_of_ble_eq_true rfl)
  rw [lg_entry_eq]
  generalize (lg_sl ([.int p0, .int p1, .int p2]) ++ List.replicate (3 - (lg_sl ([.int p0, .int p1, .int p2])).length) Slot.unset).toArray = ls at hl ⊢
  have hl : lv_has ls 3 [(0, .int p0), (1, .int p1), (2, .int p2)] := hl
  refine lv_iload_n hx hb dX10_requireSpace_0 rfl (lv_at hl 0 rfl) ?_
  refine lv_iload_n hx hb dX10_requireSpace_1 rfl (lv_at hl 1 rfl) ?_
  refine lv_iadd hx hb dX10_requireSpace_2 ?_
  refine lv_iload_n hx hb dX10_requireSpace_3 rfl (lv_at hl 2 rfl) ?_
  refine lv_icmp_le (tgt := 18) hx hb dX10_requireSpace_4 (by decide) (fun c_1 => ?_) (fun c_1 => ?_)
  · refine W.widen (k := 1) (n := 6) (Nat.le_of_ble_eq_true rfl) (Nat.le_of_ble_eq_true rfl) ?_
    refine vx_ret ?_
    exact W.vret hx hb hr (fun t ht hW => ⟨⟨(), rfl, ⟨(by unfold t_X10_requireSpace; rw [if_pos c_1]), trivial⟩, trivial⟩, hS.F ht⟩) hS.2.2 dX10_requireSpace_18
  · obtain ⟨sa_2, hs_3⟩ := ev_x hE (q := (512, "there are too many")) (by decide +kernel)
    exact vx_throwSW hx hb hst hown (by decide +kernel) (by decide +kernel) (hts (.classLink RX10 295 "java/lang/IllegalStateException") (by decide +kernel)) (hts (.initialized "java/lang/IllegalStateException") (by decide +kernel)) hs_3 (vx_hat (fun w hw => hts w (hm_wsX10_requireSpace_299 w hw)) hn_RX10_299 (vx_c (ev_u hE (w := .castable "java/lang/IllegalStateException" _) (by decide +kernel) rfl) (vx_c (ev_u hE (by decide +kernel) rfl) (vx_c (ev_u hE (by decide +kernel) rfl) (vx_c (ev_u hE (by decide +kernel) rfl) vx_n))))) ht_RX10_295_299 hE.1.1.1 hE.1.1.2 hS (hl.1.trans hml.symm) dX10_requireSpace_7 dX10_requireSpace_10 dX10_requireSpace_11 dX10_requireSpace_14 dX10_requireSpace_17 (fun x hx => (htb x hx).elim) (Nat.le_of_ble_eq_true rfl) (Nat.le_of_ble_eq_true rfl) (Nat.le_of_ble_eq_true rfl) (Nat.le_of_ble_eq_true rfl) hlocks (fun t hal h1 h2 => ⟨(), trivial, ⟨rfl, (by unfold t_X10_requireSpace; rw [if_neg c_1])⟩, thr_F hS h1 h2⟩) hS.2.2 (Nat.le_of_ble_eq_true rfl) (Nat.le_of_ble_eq_true rfl)
-- X10_requireChannel
def t_X10_requireChannel (p0 : Int32) : Int32 := if p0 < 0 then 3 else (if p0 < 4 then 0 else 3)
set_option maxHeartbeats 4000000 in
set_option maxRecDepth 100000 in
theorem c_X10_requireChannel (l : Launch) (hst : l.stackTraces = false) (D : va_G) (e : Nat) (p0 : Int32) (sz : Nat) : vx_Met l yX10_requireChannel wsX10_requireChannel ({ frames := 10, cells := 1, slots := 6, locals := 160 }) (va_Pc [.int p0] (cIn D [] [] e sz)) (va_Qv (fun (_ : Unit) => t_X10_requireChannel p0 = 0 ∧ True) (fun (_ : Unit) (_ : State) => True) (va_A [] sz)) (vx_X (fun _ : Unit => True) (fun (E : String) (_ : Unit) (_ : State) => (E = "java/lang/IndexOutOfBoundsException" ∧ t_X10_requireChannel p0 = 3)) (va_A [] sz)) 1 6 (va_A [] sz) := by
  refine vx_ofW (cc := cX10_requireChannel) (maxL := 1) (ret := none) (by decide +kernel) rfl ?_
  intro p e9 s m args below meth c s₁ B hml htb hv
  obtain ⟨rfl, hsz, hP, hK, hD0, hE0⟩ := hv
  have hx := B.exec
  have hb := B.bytes
  have hr := B.returns
  have hts := atoms_spec (ws := wsX10_requireChannel) B.pre
  have hown : s.vm.findClass RX10 = some m.cls := findClass_of_methodNamed B.named
  have hlocks := B.notSynchronized
  subst hsz
  have hD := hD0.self (sz := s.heap.size)
  generalize hAe : va_A [] s.heap.size = A at hD hE0 ⊢
  have hA : ∀ q : Nat, s.heap.size ≤ q → A q := fun q h => by rw [← hAe]; exact Or.inr h
  have hS : va_S A s.heap s.heap [] := va_S.rf
  have hE := hE0
  have hP : va_P D vwCl [] s.heap := hP
  have hl := lv_entry ([.int p0]) (n := 1) (Nat.le_of_ble_eq_true rfl)
  rw [lg_entry_eq]
  generalize (lg_sl ([.int p0]) ++ List.replicate (1 - (lg_sl ([.int p0])).length) Slot.unset).toArray = ls at hl ⊢
  have hl : lv_has ls 1 [(0, .int p0)] := hl
  refine lv_iload_n hx hb dX10_requireChannel_0 rfl (lv_at hl 0 rfl) ?_
  refine lv_if_lt (tgt := 9) hx hb dX10_requireChannel_1 (by decide) (fun c_1 => ?_) (fun c_1 => ?_)
  · obtain ⟨sa_2, hs_3⟩ := ev_x hE (q := (514, "no such channel")) (by decide +kernel)
    exact vx_throwSW hx hb hst hown (by decide +kernel) (by decide +kernel) (hts (.classLink RX10 460 "java/lang/IndexOutOfBoundsException") (by decide +kernel)) (hts (.initialized "java/lang/IndexOutOfBoundsException") (by decide +kernel)) hs_3 (vx_hat (fun w hw => hts w (hm_wsX10_requireChannel_464 w hw)) hn_RX10_464 (vx_c (ev_u hE (w := .castable "java/lang/IndexOutOfBoundsException" _) (by decide +kernel) rfl) (vx_c (ev_u hE (by decide +kernel) rfl) (vx_c (ev_u hE (by decide +kernel) rfl) (vx_c (ev_u hE (by decide +kernel) rfl) vx_n))))) ht_RX10_460_464 hE.1.1.1 hE.1.1.2 hS (hl.1.trans hml.symm) dX10_requireChannel_9 dX10_requireChannel_12 dX10_requireChannel_13 dX10_requireChannel_16 dX10_requireChannel_19 (fun x hx => (htb x hx).elim) (Nat.le_of_ble_eq_true rfl) (Nat.le_of_ble_eq_true rfl) (Nat.le_of_ble_eq_true rfl) (Nat.le_of_ble_eq_true rfl) hlocks (fun t hal h1 h2 => ⟨(), trivial, ⟨rfl, (by unfold t_X10_requireChannel; rw [if_pos c_1])⟩, thr_F hS h1 h2⟩) hS.2.2 (Nat.le_of_ble_eq_true rfl) (Nat.le_of_ble_eq_true rfl)
  · refine lv_iload_n hx hb dX10_requireChannel_4 rfl (lv_at hl 0 rfl) ?_
    refine lv_iconst (v := 4) hx hb dX10_requireChannel_5 (by decide) ?_
    refine lv_icmp_lt (tgt := 20) hx hb dX10_requireChannel_6 (by decide) (fun c_4 => ?_) (fun c_4 => ?_)
    · refine W.widen (k := 1) (n := 6) (Nat.le_of_ble_eq_true rfl) (Nat.le_of_ble_eq_true rfl) ?_
      refine vx_ret ?_
      exact W.vret hx hb hr (fun t ht hW => ⟨⟨(), rfl, ⟨(by unfold t_X10_requireChannel; rw [if_neg c_1, if_pos c_4]), trivial⟩, trivial⟩, hS.F ht⟩) hS.2.2 dX10_requireChannel_20
    · obtain ⟨sa_5, hs_6⟩ := ev_x hE (q := (514, "no such channel")) (by decide +kernel)
      exact vx_throwSW hx hb hst hown (by decide +kernel) (by decide +kernel) (hts (.classLink RX10 460 "java/lang/IndexOutOfBoundsException") (by decide +kernel)) (hts (.initialized "java/lang/IndexOutOfBoundsException") (by decide +kernel)) hs_6 (vx_hat (fun w hw => hts w (hm_wsX10_requireChannel_464 w hw)) hn_RX10_464 (vx_c (ev_u hE (w := .castable "java/lang/IndexOutOfBoundsException" _) (by decide +kernel) rfl) (vx_c (ev_u hE (by decide +kernel) rfl) (vx_c (ev_u hE (by decide +kernel) rfl) (vx_c (ev_u hE (by decide +kernel) rfl) vx_n))))) ht_RX10_460_464 hE.1.1.1 hE.1.1.2 hS (hl.1.trans hml.symm) dX10_requireChannel_9 dX10_requireChannel_12 dX10_requireChannel_13 dX10_requireChannel_16 dX10_requireChannel_19 (fun x hx => (htb x hx).elim) (Nat.le_of_ble_eq_true rfl) (Nat.le_of_ble_eq_true rfl) (Nat.le_of_ble_eq_true rfl) (Nat.le_of_ble_eq_true rfl) hlocks (fun t hal h1 h2 => ⟨(), trivial, ⟨rfl, (by unfold t_X10_requireChannel; rw [if_neg c_1, if_neg c_4])⟩, thr_F hS h1 h2⟩) hS.2.2 (Nat.le_of_ble_eq_true rfl) (Nat.le_of_ble_eq_true rfl)
-- X10_lotNumbered
def t_X10_lotNumbered (p0 : Int32) : Int32 := if p0 < 0 then 3 else 3
set_option maxHeartbeats 4000000 in
set_option maxRecDepth 100000 in
theorem c_X10_lotNumbered (l : Launch) (hst : l.stackTraces = false) (D : va_G) (e : Nat) (h : Nat) (l1 : Nat) (l2 : Nat) (l3 : Nat) (l4 : Nat) (l5 : Nat) (l6 : Nat) (l7 : Nat) (l8 : Nat) (l9 : Nat) (ch : Nat) (co : Nat) (p0 : Int32) (sz : Nat) : vx_Met l yX10_lotNumbered wsX10_lotNumbered ({ frames := 10, cells := 1, slots := 6, locals := 160 }) (va_Pc [.ref h, .int p0] (cIn D [] [(h, .inr (16, [.ref l1, .ref l2, .ref l3, .ref l4, .ref l5, .ref l6, .ref l7, .ref l8, .ref l9, .ref ch, .ref co, .int 0, .int 4, .int (-40), .int 20, .int 0, .int 0, .int 100, .int 60, .int 14])), (l1, .inr (5, [.int 0, .ref e, .int 0]))] e sz)) (va_Qv (fun (_ : Unit) => False) (fun (_ : Unit) (_ : State) => True) (va_A [(h, .inr (16, [.ref l1, .ref l2, .ref l3, .ref l4, .ref l5, .ref l6, .ref l7, .ref l8, .ref l9, .ref ch, .ref co, .int 0, .int 4, .int (-40), .int 20, .int 0, .int 0, .int 100, .int 60, .int 14])), (l1, .inr (5, [.int 0, .ref e, .int 0]))] sz)) (vx_X (fun _ : Unit => True) (fun (E : String) (_ : Unit) (_ : State) => (E = "java/lang/IndexOutOfBoundsException" ∧ t_X10_lotNumbered p0 = 3)) (va_A [(h, .inr (16, [.ref l1, .ref l2, .ref l3, .ref l4, .ref l5, .ref l6, .ref l7, .ref l8, .ref l9, .ref ch, .ref co, .int 0, .int 4, .int (-40), .int 20, .int 0, .int 0, .int 100, .int 60, .int 14])), (l1, .inr (5, [.int 0, .ref e, .int 0]))] sz)) 1 6 (va_A [(h, .inr (16, [.ref l1, .ref l2, .ref l3, .ref l4, .ref l5, .ref l6, .ref l7, .ref l8, .ref l9, .ref ch, .ref co, .int 0, .int 4, .int (-40), .int 20, .int 0, .int 0, .int 100, .int 60, .int 14])), (l1, .inr (5, [.int 0, .ref e, .int 0]))] sz) := by
  refine vx_ofW (cc := cX10_lotNumbered) (maxL := 2) (ret := (some (.object "CoatLine$Lot"))) (by decide +kernel) rfl ?_
  intro p e9 s m args below meth c s₁ B hml htb hv
  obtain ⟨rfl, hsz, hP, hK, hD0, hE0⟩ := hv
  have hx := B.exec
  have hb := B.bytes
  have hr := B.returns
  have hts := atoms_spec (ws := wsX10_lotNumbered) B.pre
  have hown : s.vm.findClass RX10 = some m.cls := findClass_of_methodNamed B.named
  have hlocks := B.notSynchronized
  subst hsz
  have hD := hD0.self (sz := s.heap.size)
  generalize hAe : va_A [(h, .inr (16, [.ref l1, .ref l2, .ref l3, .ref l4, .ref l5, .ref l6, .ref l7, .ref l8, .ref l9, .ref ch, .ref co, .int 0, .int 4, .int (-40), .int 20, .int 0, .int 0, .int 100, .int 60, .int 14])), (l1, .inr (5, [.int 0, .ref e, .int 0]))] s.heap.size = A at hD hE0 ⊢
  have hA : ∀ q : Nat, s.heap.size ≤ q → A q := fun q h => by rw [← hAe]; exact Or.inr h
  have hS : va_S A s.heap s.heap [] := va_S.rf
  have hE := hE0
  have hP : va_P D vwCl [(h, .inr (16, [.ref l1, .ref l2, .ref l3, .ref l4, .ref l5, .ref l6, .ref l7, .ref l8, .ref l9, .ref ch, .ref co, .int 0, .int 4, .int (-40), .int 20, .int 0, .int 0, .int 100, .int 60, .int 14])), (l1, .inr (5, [.int 0, .ref e, .int 0]))] s.heap := hP
  have hl := lv_entry ([.ref h, .int p0]) (n := 2) (Nat.le_of_ble_eq_true rfl)
  rw [lg_entry_eq]
  generalize (lg_sl ([.ref h, .int p0]) ++ List.replicate (2 - (lg_sl ([.ref h, .int p0])).length) Slot.unset).toArray = ls at hl ⊢
  have hl : lv_has ls 2 [(0, .ref h), (1, .int p0)] := hl
  refine lv_iload_n hx hb dX10_lotNumbered_0 rfl (lv_at hl 1 rfl) ?_
  refine lv_if_lt (tgt := 15) hx hb dX10_lotNumbered_1 (by decide) (fun c_1 => ?_) (fun c_1 => ?_)
  · obtain ⟨sa_2, hs_3⟩ := ev_x hE (q := (519, "no such lot")) (by decide +kernel)
    exact vx_throwSW hx hb hst hown (by decide +kernel) (by decide +kernel) (hts (.classLink RX10 460 "java/lang/IndexOutOfBoundsException") (by decide +kernel)) (hts (.initialized "java/lang/IndexOutOfBoundsException") (by decide +kernel)) hs_3 (vx_hat (fun w hw => hts w (hm_wsX10_lotNumbered_464 w hw)) hn_RX10_464 (vx_c (ev_u hE (w := .castable "java/lang/IndexOutOfBoundsException" _) (by decide +kernel) rfl) (vx_c (ev_u hE (by decide +kernel) rfl) (vx_c (ev_u hE (by decide +kernel) rfl) (vx_c (ev_u hE (by decide +kernel) rfl) vx_n))))) ht_RX10_460_464 hE.1.1.1 hE.1.1.2 hS (hl.1.trans hml.symm) dX10_lotNumbered_15 dX10_lotNumbered_18 dX10_lotNumbered_19 dX10_lotNumbered_22 dX10_lotNumbered_25 (fun x hx => (htb x hx).elim) (Nat.le_of_ble_eq_true rfl) (Nat.le_of_ble_eq_true rfl) (Nat.le_of_ble_eq_true rfl) (Nat.le_of_ble_eq_true rfl) hlocks (fun t hal h1 h2 => ⟨(), trivial, ⟨rfl, (by unfold t_X10_lotNumbered; rw [if_pos c_1])⟩, thr_F hS h1 h2⟩) hS.2.2 (Nat.le_of_ble_eq_true rfl) (Nat.le_of_ble_eq_true rfl)
  · refine lv_iload_n hx hb dX10_lotNumbered_4 rfl (lv_at hl 1 rfl) ?_
    refine lv_aload_n hx hb dX10_lotNumbered_5 rfl (lv_at hl 0 rfl) ?_
    refine va_get (D := D) (ci := 16) (v := .ref l1) (C := RX10) (T := TX10) (N := 20) hx hb hts iw_RX10_wsX10_lotNumbered hown hK hP 0 rfl rfl 0 (by decide) (hts (.fieldLink RX10 10 "CoatLine" "lots" "Ljava/util/ArrayList;") (by decide +kernel)) (fun _ h9 => h9) rfl dX10_lotNumbered_6 ?_
    refine vp_callSi (va_Run.run (va_runV (As := []) (rest := [.int p0]) ⟨hx, hb, hml, hown, hts⟩ (c_Jx4a65c_size_8abf5 l hst D e l1 0 e 0 s.heap.size) (cwV 0 hts gX10_lotNumbered_Jx4a65c_size_8abf5 rfl rfl rfl (by decide +kernel) ⟨Nat.le_of_ble_eq_true rfl, Nat.le_of_ble_eq_true rfl⟩) ⟨cIn_blind, va_recv hK hP (ci := 5) (q0 := 1) rfl rfl, cIn_go hK hP hD hE hS hA [1] rfl rfl (by decide) [] rfl⟩ rfl rfl hl.1 rfl (lv_room (Nat.le_of_ble_eq_true rfl)) dX10_lotNumbered_9 ⟨Nat.le_of_ble_eq_true rfl, Nat.le_of_ble_eq_true rfl⟩)) (fun r_4 hw => ?_)
    have hw : r_4 = 0 := hw.trans (by first | rfl | decide +kernel)
    subst hw
    refine lv_icmp_lt (tgt := 26) hx hb dX10_lotNumbered_12 (by decide) (fun c_5 => absurd c_5 c_1) (fun c_5 => ?_)
    obtain ⟨sa_6, hs_7⟩ := ev_x hE (q := (519, "no such lot")) (by decide +kernel)
    exact vx_throwSW hx hb hst hown (by decide +kernel) (by decide +kernel) (hts (.classLink RX10 460 "java/lang/IndexOutOfBoundsException") (by decide +kernel)) (hts (.initialized "java/lang/IndexOutOfBoundsException") (by decide +kernel)) hs_7 (vx_hat (fun w hw => hts w (hm_wsX10_lotNumbered_464 w hw)) hn_RX10_464 (vx_c (ev_u hE (w := .castable "java/lang/IndexOutOfBoundsException" _) (by decide +kernel) rfl) (vx_c (ev_u hE (by decide +kernel) rfl) (vx_c (ev_u hE (by decide +kernel) rfl) (vx_c (ev_u hE (by decide +kernel) rfl) vx_n))))) ht_RX10_460_464 hE.1.1.1 hE.1.1.2 hS (hl.1.trans hml.symm) dX10_lotNumbered_15 dX10_lotNumbered_18 dX10_lotNumbered_19 dX10_lotNumbered_22 dX10_lotNumbered_25 (fun x hx => (htb x hx).elim) (Nat.le_of_ble_eq_true rfl) (Nat.le_of_ble_eq_true rfl) (Nat.le_of_ble_eq_true rfl) (Nat.le_of_ble_eq_true rfl) hlocks (fun t hal h1 h2 => ⟨(), trivial, ⟨rfl, (by unfold t_X10_lotNumbered; rw [if_neg c_1])⟩, thr_F hS h1 h2⟩) hS.2.2 (Nat.le_of_ble_eq_true rfl) (Nat.le_of_ble_eq_true rfl)
-- X10_coilNumbered
def t_X10_coilNumbered (p0 : Int32) : Int32 := if p0 < 0 then 3 else 3
set_option maxHeartbeats 4000000 in
set_option maxRecDepth 100000 in
theorem c_X10_coilNumbered (l : Launch) (hst : l.stackTraces = false) (D : va_G) (e : Nat) (h : Nat) (l1 : Nat) (l2 : Nat) (l3 : Nat) (l4 : Nat) (l5 : Nat) (l6 : Nat) (l7 : Nat) (l8 : Nat) (l9 : Nat) (ch : Nat) (co : Nat) (p0 : Int32) (sz : Nat) : vx_Met l yX10_coilNumbered wsX10_coilNumbered ({ frames := 10, cells := 1, slots := 6, locals := 160 }) (va_Pc [.ref h, .int p0] (cIn D [] [(h, .inr (16, [.ref l1, .ref l2, .ref l3, .ref l4, .ref l5, .ref l6, .ref l7, .ref l8, .ref l9, .ref ch, .ref co, .int 0, .int 4, .int (-40), .int 20, .int 0, .int 0, .int 100, .int 60, .int 14])), (l2, .inr (5, [.int 0, .ref e, .int 0]))] e sz)) (va_Qv (fun (_ : Unit) => False) (fun (_ : Unit) (_ : State) => True) (va_A [(h, .inr (16, [.ref l1, .ref l2, .ref l3, .ref l4, .ref l5, .ref l6, .ref l7, .ref l8, .ref l9, .ref ch, .ref co, .int 0, .int 4, .int (-40), .int 20, .int 0, .int 0, .int 100, .int 60, .int 14])), (l2, .inr (5, [.int 0, .ref e, .int 0]))] sz)) (vx_X (fun _ : Unit => True) (fun (E : String) (_ : Unit) (_ : State) => (E = "java/lang/IndexOutOfBoundsException" ∧ t_X10_coilNumbered p0 = 3)) (va_A [(h, .inr (16, [.ref l1, .ref l2, .ref l3, .ref l4, .ref l5, .ref l6, .ref l7, .ref l8, .ref l9, .ref ch, .ref co, .int 0, .int 4, .int (-40), .int 20, .int 0, .int 0, .int 100, .int 60, .int 14])), (l2, .inr (5, [.int 0, .ref e, .int 0]))] sz)) 1 6 (va_A [(h, .inr (16, [.ref l1, .ref l2, .ref l3, .ref l4, .ref l5, .ref l6, .ref l7, .ref l8, .ref l9, .ref ch, .ref co, .int 0, .int 4, .int (-40), .int 20, .int 0, .int 0, .int 100, .int 60, .int 14])), (l2, .inr (5, [.int 0, .ref e, .int 0]))] sz) := by
  refine vx_ofW (cc := cX10_coilNumbered) (maxL := 2) (ret := (some (.object "CoatLine$Coil"))) (by decide +kernel) rfl ?_
  intro p e9 s m args below meth c s₁ B hml htb hv
  obtain ⟨rfl, hsz, hP, hK, hD0, hE0⟩ := hv
  have hx := B.exec
  have hb := B.bytes
  have hr := B.returns
  have hts := atoms_spec (ws := wsX10_coilNumbered) B.pre
  have hown : s.vm.findClass RX10 = some m.cls := findClass_of_methodNamed B.named
  have hlocks := B.notSynchronized
  subst hsz
  have hD := hD0.self (sz := s.heap.size)
  generalize hAe : va_A [(h, .inr (16, [.ref l1, .ref l2, .ref l3, .ref l4, .ref l5, .ref l6, .ref l7, .ref l8, .ref l9, .ref ch, .ref co, .int 0, .int 4, .int (-40), .int 20, .int 0, .int 0, .int 100, .int 60, .int 14])), (l2, .inr (5, [.int 0, .ref e, .int 0]))] s.heap.size = A at hD hE0 ⊢
  have hA : ∀ q : Nat, s.heap.size ≤ q → A q := fun q h => by rw [← hAe]; exact Or.inr h
  have hS : va_S A s.heap s.heap [] := va_S.rf
  have hE := hE0
  have hP : va_P D vwCl [(h, .inr (16, [.ref l1, .ref l2, .ref l3, .ref l4, .ref l5, .ref l6, .ref l7, .ref l8, .ref l9, .ref ch, .ref co, .int 0, .int 4, .int (-40), .int 20, .int 0, .int 0, .int 100, .int 60, .int 14])), (l2, .inr (5, [.int 0, .ref e, .int 0]))] s.heap := hP
  have hl := lv_entry ([.ref h, .int p0]) (n := 2) (Nat.le_of_ble_eq_true rfl)
  rw [lg_entry_eq]
  generalize (lg_sl ([.ref h, .int p0]) ++ List.replicate (2 - (lg_sl ([.ref h, .int p0])).length) Slot.unset).toArray = ls at hl ⊢
  have hl : lv_has ls 2 [(0, .ref h), (1, .int p0)] := hl
  refine lv_iload_n hx hb dX10_coilNumbered_0 rfl (lv_at hl 1 rfl) ?_
  refine lv_if_lt (tgt := 15) hx hb dX10_coilNumbered_1 (by decide) (fun c_1 => ?_) (fun c_1 => ?_)
  · obtain ⟨sa_2, hs_3⟩ := ev_x hE (q := (521, "no such coil")) (by decide +kernel)
    exact vx_throwSW hx hb hst hown (by decide +kernel) (by decide +kernel) (hts (.classLink RX10 460 "java/lang/IndexOutOfBoundsException") (by decide +kernel)) (hts (.initialized "java/lang/IndexOutOfBoundsException") (by decide +kernel)) hs_3 (vx_hat (fun w hw => hts w (hm_wsX10_coilNumbered_464 w hw)) hn_RX10_464 (vx_c (ev_u hE (w := .castable "java/lang/IndexOutOfBoundsException" _) (by decide +kernel) rfl) (vx_c (ev_u hE (by decide +kernel) rfl) (vx_c (ev_u hE (by decide +kernel) rfl) (vx_c (ev_u hE (by decide +kernel) rfl) vx_n))))) ht_RX10_460_464 hE.1.1.1 hE.1.1.2 hS (hl.1.trans hml.symm) dX10_coilNumbered_15 dX10_coilNumbered_18 dX10_coilNumbered_19 dX10_coilNumbered_22 dX10_coilNumbered_25 (fun x hx => (htb x hx).elim) (Nat.le_of_ble_eq_true rfl) (Nat.le_of_ble_eq_true rfl) (Nat.le_of_ble_eq_true rfl) (Nat.le_of_ble_eq_true rfl) hlocks (fun t hal h1 h2 => ⟨(), trivial, ⟨rfl, (by unfold t_X10_coilNumbered; rw [if_pos c_1])⟩, thr_F hS h1 h2⟩) hS.2.2 (Nat.le_of_ble_eq_true rfl) (Nat.le_of_ble_eq_true rfl)
  · refine lv_iload_n hx hb dX10_coilNumbered_4 rfl (lv_at hl 1 rfl) ?_
    refine lv_aload_n hx hb dX10_coilNumbered_5 rfl (lv_at hl 0 rfl) ?_
    refine va_get (D := D) (ci := 16) (v := .ref l2) (C := RX10) (T := TX10) (N := 20) hx hb hts iw_RX10_wsX10_coilNumbered hown hK hP 0 rfl rfl 1 (by decide) (hts (.fieldLink RX10 16 "CoatLine" "coils" "Ljava/util/ArrayList;") (by decide +kernel)) (fun _ h9 => h9) rfl dX10_coilNumbered_6 ?_
    refine vp_callSi (va_Run.run (va_runV (As := []) (rest := [.int p0]) ⟨hx, hb, hml, hown, hts⟩ (c_Jx4a65c_size_8abf5 l hst D e l2 0 e 0 s.heap.size) (cwV 0 hts gX10_coilNumbered_Jx4a65c_size_8abf5 rfl rfl rfl (by decide +kernel) ⟨Nat.le_of_ble_eq_true rfl, Nat.le_of_ble_eq_true rfl⟩) ⟨cIn_blind, va_recv hK hP (ci := 5) (q0 := 1) rfl rfl, cIn_go hK hP hD hE hS hA [1] rfl rfl (by decide) [] rfl⟩ rfl rfl hl.1 rfl (lv_room (Nat.le_of_ble_eq_true rfl)) dX10_coilNumbered_9 ⟨Nat.le_of_ble_eq_true rfl, Nat.le_of_ble_eq_true rfl⟩)) (fun r_4 hw => ?_)
    have hw : r_4 = 0 := hw.trans (by first | rfl | decide +kernel)
    subst hw
    refine lv_icmp_lt (tgt := 26) hx hb dX10_coilNumbered_12 (by decide) (fun c_5 => absurd c_5 c_1) (fun c_5 => ?_)
    obtain ⟨sa_6, hs_7⟩ := ev_x hE (q := (521, "no such coil")) (by decide +kernel)
    exact vx_throwSW hx hb hst hown (by decide +kernel) (by decide +kernel) (hts (.classLink RX10 460 "java/lang/IndexOutOfBoundsException") (by decide +kernel)) (hts (.initialized "java/lang/IndexOutOfBoundsException") (by decide +kernel)) hs_7 (vx_hat (fun w hw => hts w (hm_wsX10_coilNumbered_464 w hw)) hn_RX10_464 (vx_c (ev_u hE (w := .castable "java/lang/IndexOutOfBoundsException" _) (by decide +kernel) rfl) (vx_c (ev_u hE (by decide +kernel) rfl) (vx_c (ev_u hE (by decide +kernel) rfl) (vx_c (ev_u hE (by decide +kernel) rfl) vx_n))))) ht_RX10_460_464 hE.1.1.1 hE.1.1.2 hS (hl.1.trans hml.symm) dX10_coilNumbered_15 dX10_coilNumbered_18 dX10_coilNumbered_19 dX10_coilNumbered_22 dX10_coilNumbered_25 (fun x hx => (htb x hx).elim) (Nat.le_of_ble_eq_true rfl) (Nat.le_of_ble_eq_true rfl) (Nat.le_of_ble_eq_true rfl) (Nat.le_of_ble_eq_true rfl) hlocks (fun t hal h1 h2 => ⟨(), trivial, ⟨rfl, (by unfold t_X10_coilNumbered; rw [if_neg c_1])⟩, thr_F hS h1 h2⟩) hS.2.2 (Nat.le_of_ble_eq_true rfl) (Nat.le_of_ble_eq_true rfl)
-- X10_ribbonNumbered
def t_X10_ribbonNumbered (p0 : Int32) : Int32 := if p0 < 0 then 3 else 3
set_option maxHeartbeats 4000000 in
set_option maxRecDepth 100000 in
theorem c_X10_ribbonNumbered (l : Launch) (hst : l.stackTraces = false) (D : va_G) (e : Nat) (h : Nat) (l1 : Nat) (l2 : Nat) (l3 : Nat) (l4 : Nat) (l5 : Nat) (l6 : Nat) (l7 : Nat) (l8 : Nat) (l9 : Nat) (ch : Nat) (co : Nat) (p0 : Int32) (sz : Nat) : vx_Met l yX10_ribbonNumbered wsX10_ribbonNumbered ({ frames := 10, cells := 1, slots := 6, locals := 160 }) (va_Pc [.ref h, .int p0] (cIn D [] [(h, .inr (16, [.ref l1, .ref l2, .ref l3, .ref l4, .ref l5, .ref l6, .ref l7, .ref l8, .ref l9, .ref ch, .ref co, .int 0, .int 4, .int (-40), .int 20, .int 0, .int 0, .int 100, .int 60, .int 14])), (l3, .inr (5, [.int 0, .ref e, .int 0]))] e sz)) (va_Qv (fun (_ : Unit) => False) (fun (_ : Unit) (_ : State) => True) (va_A [(h, .inr (16, [.ref l1, .ref l2, .ref l3, .ref l4, .ref l5, .ref l6, .ref l7, .ref l8, .ref l9, .ref ch, .ref co, .int 0, .int 4, .int (-40), .int 20, .int 0, .int 0, .int 100, .int 60, .int 14])), (l3, .inr (5, [.int 0, .ref e, .int 0]))] sz)) (vx_X (fun _ : Unit => True) (fun (E : String) (_ : Unit) (_ : State) => (E = "java/lang/IndexOutOfBoundsException" ∧ t_X10_ribbonNumbered p0 = 3)) (va_A [(h, .inr (16, [.ref l1, .ref l2, .ref l3, .ref l4, .ref l5, .ref l6, .ref l7, .ref l8, .ref l9, .ref ch, .ref co, .int 0, .int 4, .int (-40), .int 20, .int 0, .int 0, .int 100, .int 60, .int 14])), (l3, .inr (5, [.int 0, .ref e, .int 0]))] sz)) 1 6 (va_A [(h, .inr (16, [.ref l1, .ref l2, .ref l3, .ref l4, .ref l5, .ref l6, .ref l7, .ref l8, .ref l9, .ref ch, .ref co, .int 0, .int 4, .int (-40), .int 20, .int 0, .int 0, .int 100, .int 60, .int 14])), (l3, .inr (5, [.int 0, .ref e, .int 0]))] sz) := by
  refine vx_ofW (cc := cX10_ribbonNumbered) (maxL := 2) (ret := (some (.object "CoatLine$Ribbon"))) (by decide +kernel) rfl ?_
  intro p e9 s m args below meth c s₁ B hml htb hv
  obtain ⟨rfl, hsz, hP, hK, hD0, hE0⟩ := hv
  have hx := B.exec
  have hb := B.bytes
  have hr := B.returns
  have hts := atoms_spec (ws := wsX10_ribbonNumbered) B.pre
  have hown : s.vm.findClass RX10 = some m.cls := findClass_of_methodNamed B.named
  have hlocks := B.notSynchronized
  subst hsz
  have hD := hD0.self (sz := s.heap.size)
  generalize hAe : va_A [(h, .inr (16, [.ref l1, .ref l2, .ref l3, .ref l4, .ref l5, .ref l6, .ref l7, .ref l8, .ref l9, .ref ch, .ref co, .int 0, .int 4, .int (-40), .int 20, .int 0, .int 0, .int 100, .int 60, .int 14])), (l3, .inr (5, [.int 0, .ref e, .int 0]))] s.heap.size = A at hD hE0 ⊢
  have hA : ∀ q : Nat, s.heap.size ≤ q → A q := fun q h => by rw [← hAe]; exact Or.inr h
  have hS : va_S A s.heap s.heap [] := va_S.rf
  have hE := hE0
  have hP : va_P D vwCl [(h, .inr (16, [.ref l1, .ref l2, .ref l3, .ref l4, .ref l5, .ref l6, .ref l7, .ref l8, .ref l9, .ref ch, .ref co, .int 0, .int 4, .int (-40), .int 20, .int 0, .int 0, .int 100, .int 60, .int 14])), (l3, .inr (5, [.int 0, .ref e, .int 0]))] s.heap := hP
  have hl := lv_entry ([.ref h, .int p0]) (n := 2) (Nat.le_of_ble_eq_true rfl)
  rw [lg_entry_eq]
  generalize (lg_sl ([.ref h, .int p0]) ++ List.replicate (2 - (lg_sl ([.ref h, .int p0])).length) Slot.unset).toArray = ls at hl ⊢
  have hl : lv_has ls 2 [(0, .ref h), (1, .int p0)] := hl
  refine lv_iload_n hx hb dX10_ribbonNumbered_0 rfl (lv_at hl 1 rfl) ?_
  refine lv_if_lt (tgt := 15) hx hb dX10_ribbonNumbered_1 (by decide) (fun c_1 => ?_) (fun c_1 => ?_)
  · obtain ⟨sa_2, hs_3⟩ := ev_x hE (q := (523, "no such ribbon")) (by decide +kernel)
    exact vx_throwSW hx hb hst hown (by decide +kernel) (by decide +kernel) (hts (.classLink RX10 460 "java/lang/IndexOutOfBoundsException") (by decide +kernel)) (hts (.initialized "java/lang/IndexOutOfBoundsException") (by decide +kernel)) hs_3 (vx_hat (fun w hw => hts w (hm_wsX10_ribbonNumbered_464 w hw)) hn_RX10_464 (vx_c (ev_u hE (w := .castable "java/lang/IndexOutOfBoundsException" _) (by decide +kernel) rfl) (vx_c (ev_u hE (by decide +kernel) rfl) (vx_c (ev_u hE (by decide +kernel) rfl) (vx_c (ev_u hE (by decide +kernel) rfl) vx_n))))) ht_RX10_460_464 hE.1.1.1 hE.1.1.2 hS (hl.1.trans hml.symm) dX10_ribbonNumbered_15 dX10_ribbonNumbered_18 dX10_ribbonNumbered_19 dX10_ribbonNumbered_22 dX10_ribbonNumbered_25 (fun x hx => (htb x hx).elim) (Nat.le_of_ble_eq_true rfl) (Nat.le_of_ble_eq_true rfl) (Nat.le_of_ble_eq_true rfl) (Nat.le_of_ble_eq_true rfl) hlocks (fun t hal h1 h2 => ⟨(), trivial, ⟨rfl, (by unfold t_X10_ribbonNumbered; rw [if_pos c_1])⟩, thr_F hS h1 h2⟩) hS.2.2 (Nat.le_of_ble_eq_true rfl) (Nat.le_of_ble_eq_true rfl)
  · refine lv_iload_n hx hb dX10_ribbonNumbered_4 rfl (lv_at hl 1 rfl) ?_
    refine lv_aload_n hx hb dX10_ribbonNumbered_5 rfl (lv_at hl 0 rfl) ?_
    refine va_get (D := D) (ci := 16) (v := .ref l3) (C := RX10) (T := TX10) (N := 20) hx hb hts iw_RX10_wsX10_ribbonNumbered hown hK hP 0 rfl rfl 2 (by decide) (hts (.fieldLink RX10 19 "CoatLine" "ribbons" "Ljava/util/ArrayList;") (by decide +kernel)) (fun _ h9 => h9) rfl dX10_ribbonNumbered_6 ?_
    refine vp_callSi (va_Run.run (va_runV (As := []) (rest := [.int p0]) ⟨hx, hb, hml, hown, hts⟩ (c_Jx4a65c_size_8abf5 l hst D e l3 0 e 0 s.heap.size) (cwV 0 hts gX10_ribbonNumbered_Jx4a65c_size_8abf5 rfl rfl rfl (by decide +kernel) ⟨Nat.le_of_ble_eq_true rfl, Nat.le_of_ble_eq_true rfl⟩) ⟨cIn_blind, va_recv hK hP (ci := 5) (q0 := 1) rfl rfl, cIn_go hK hP hD hE hS hA [1] rfl rfl (by decide) [] rfl⟩ rfl rfl hl.1 rfl (lv_room (Nat.le_of_ble_eq_true rfl)) dX10_ribbonNumbered_9 ⟨Nat.le_of_ble_eq_true rfl, Nat.le_of_ble_eq_true rfl⟩)) (fun r_4 hw => ?_)
    have hw : r_4 = 0 := hw.trans (by first | rfl | decide +kernel)
    subst hw
    refine lv_icmp_lt (tgt := 26) hx hb dX10_ribbonNumbered_12 (by decide) (fun c_5 => absurd c_5 c_1) (fun c_5 => ?_)
    obtain ⟨sa_6, hs_7⟩ := ev_x hE (q := (523, "no such ribbon")) (by decide +kernel)
    exact vx_throwSW hx hb hst hown (by decide +kernel) (by decide +kernel) (hts (.classLink RX10 460 "java/lang/IndexOutOfBoundsException") (by decide +kernel)) (hts (.initialized "java/lang/IndexOutOfBoundsException") (by decide +kernel)) hs_7 (vx_hat (fun w hw => hts w (hm_wsX10_ribbonNumbered_464 w hw)) hn_RX10_464 (vx_c (ev_u hE (w := .castable "java/lang/IndexOutOfBoundsException" _) (by decide +kernel) rfl) (vx_c (ev_u hE (by decide +kernel) rfl) (vx_c (ev_u hE (by decide +kernel) rfl) (vx_c (ev_u hE (by decide +kernel) rfl) vx_n))))) ht_RX10_460_464 hE.1.1.1 hE.1.1.2 hS (hl.1.trans hml.symm) dX10_ribbonNumbered_15 dX10_ribbonNumbered_18 dX10_ribbonNumbered_19 dX10_ribbonNumbered_22 dX10_ribbonNumbered_25 (fun x hx => (htb x hx).elim) (Nat.le_of_ble_eq_true rfl) (Nat.le_of_ble_eq_true rfl) (Nat.le_of_ble_eq_true rfl) (Nat.le_of_ble_eq_true rfl) hlocks (fun t hal h1 h2 => ⟨(), trivial, ⟨rfl, (by unfold t_X10_ribbonNumbered; rw [if_neg c_1])⟩, thr_F hS h1 h2⟩) hS.2.2 (Nat.le_of_ble_eq_true rfl) (Nat.le_of_ble_eq_true rfl)
-- X10_cellNumbered
def t_X10_cellNumbered (p0 : Int32) : Int32 := if p0 < 0 then 3 else 3
set_option maxHeartbeats 4000000 in
set_option maxRecDepth 100000 in
theorem c_X10_cellNumbered (l : Launch) (hst : l.stackTraces = false) (D : va_G) (e : Nat) (h : Nat) (l1 : Nat) (l2 : Nat) (l3 : Nat) (l4 : Nat) (l5 : Nat) (l6 : Nat) (l7 : Nat) (l8 : Nat) (l9 : Nat) (ch : Nat) (co : Nat) (p0 : Int32) (sz : Nat) : vx_Met l yX10_cellNumbered wsX10_cellNumbered ({ frames := 10, cells := 1, slots := 6, locals := 160 }) (va_Pc [.ref h, .int p0] (cIn D [] [(h, .inr (16, [.ref l1, .ref l2, .ref l3, .ref l4, .ref l5, .ref l6, .ref l7, .ref l8, .ref l9, .ref ch, .ref co, .int 0, .int 4, .int (-40), .int 20, .int 0, .int 0, .int 100, .int 60, .int 14])), (l4, .inr (5, [.int 0, .ref e, .int 0]))] e sz)) (va_Qv (fun (_ : Unit) => False) (fun (_ : Unit) (_ : State) => True) (va_A [(h, .inr (16, [.ref l1, .ref l2, .ref l3, .ref l4, .ref l5, .ref l6, .ref l7, .ref l8, .ref l9, .ref ch, .ref co, .int 0, .int 4, .int (-40), .int 20, .int 0, .int 0, .int 100, .int 60, .int 14])), (l4, .inr (5, [.int 0, .ref e, .int 0]))] sz)) (vx_X (fun _ : Unit => True) (fun (E : String) (_ : Unit) (_ : State) => (E = "java/lang/IndexOutOfBoundsException" ∧ t_X10_cellNumbered p0 = 3)) (va_A [(h, .inr (16, [.ref l1, .ref l2, .ref l3, .ref l4, .ref l5, .ref l6, .ref l7, .ref l8, .ref l9, .ref ch, .ref co, .int 0, .int 4, .int (-40), .int 20, .int 0, .int 0, .int 100, .int 60, .int 14])), (l4, .inr (5, [.int 0, .ref e, .int 0]))] sz)) 1 6 (va_A [(h, .inr (16, [.ref l1, .ref l2, .ref l3, .ref l4, .ref l5, .ref l6, .ref l7, .ref l8, .ref l9, .ref ch, .ref co, .int 0, .int 4, .int (-40), .int 20, .int 0, .int 0, .int 100, .int 60, .int 14])), (l4, .inr (5, [.int 0, .ref e, .int 0]))] sz) := by
  refine vx_ofW (cc := cX10_cellNumbered) (maxL := 2) (ret := (some (.object "CoatLine$Cell"))) (by decide +kernel) rfl ?_
  intro p e9 s m args below meth c s₁ B hml htb hv
  obtain ⟨rfl, hsz, hP, hK, hD0, hE0⟩ := hv
  have hx := B.exec
  have hb := B.bytes
  have hr := B.returns
  have hts := atoms_spec (ws := wsX10_cellNumbered) B.pre
  have hown : s.vm.findClass RX10 = some m.cls := findClass_of_methodNamed B.named
  have hlocks := B.notSynchronized
  subst hsz
  have hD := hD0.self (sz := s.heap.size)
  generalize hAe : va_A [(h, .inr (16, [.ref l1, .ref l2, .ref l3, .ref l4, .ref l5, .ref l6, .ref l7, .ref l8, .ref l9, .ref ch, .ref co, .int 0, .int 4, .int (-40), .int 20, .int 0, .int 0, .int 100, .int 60, .int 14])), (l4, .inr (5, [.int 0, .ref e, .int 0]))] s.heap.size = A at hD hE0 ⊢
  have hA : ∀ q : Nat, s.heap.size ≤ q → A q := fun q h => by rw [← hAe]; exact Or.inr h
  have hS : va_S A s.heap s.heap [] := va_S.rf
  have hE := hE0
  have hP : va_P D vwCl [(h, .inr (16, [.ref l1, .ref l2, .ref l3, .ref l4, .ref l5, .ref l6, .ref l7, .ref l8, .ref l9, .ref ch, .ref co, .int 0, .int 4, .int (-40), .int 20, .int 0, .int 0, .int 100, .int 60, .int 14])), (l4, .inr (5, [.int 0, .ref e, .int 0]))] s.heap := hP
  have hl := lv_entry ([.ref h, .int p0]) (n := 2) (Nat.le_of_ble_eq_true rfl)
  rw [lg_entry_eq]
  generalize (lg_sl ([.ref h, .int p0]) ++ List.replicate (2 - (lg_sl ([.ref h, .int p0])).length) Slot.unset).toArray = ls at hl ⊢
  have hl : lv_has ls 2 [(0, .ref h), (1, .int p0)] := hl
  refine lv_iload_n hx hb dX10_cellNumbered_0 rfl (lv_at hl 1 rfl) ?_
  refine lv_if_lt (tgt := 15) hx hb dX10_cellNumbered_1 (by decide) (fun c_1 => ?_) (fun c_1 => ?_)
  · obtain ⟨sa_2, hs_3⟩ := ev_x hE (q := (380, "no such cell")) (by decide +kernel)
    exact vx_throwSW hx hb hst hown (by decide +kernel) (by decide +kernel) (hts (.classLink RX10 460 "java/lang/IndexOutOfBoundsException") (by decide +kernel)) (hts (.initialized "java/lang/IndexOutOfBoundsException") (by decide +kernel)) hs_3 (vx_hat (fun w hw => hts w (hm_wsX10_cellNumbered_464 w hw)) hn_RX10_464 (vx_c (ev_u hE (w := .castable "java/lang/IndexOutOfBoundsException" _) (by decide +kernel) rfl) (vx_c (ev_u hE (by decide +kernel) rfl) (vx_c (ev_u hE (by decide +kernel) rfl) (vx_c (ev_u hE (by decide +kernel) rfl) vx_n))))) ht_RX10_460_464 hE.1.1.1 hE.1.1.2 hS (hl.1.trans hml.symm) dX10_cellNumbered_15 dX10_cellNumbered_18 dX10_cellNumbered_19 dX10_cellNumbered_22 dX10_cellNumbered_25 (fun x hx => (htb x hx).elim) (Nat.le_of_ble_eq_true rfl) (Nat.le_of_ble_eq_true rfl) (Nat.le_of_ble_eq_true rfl) (Nat.le_of_ble_eq_true rfl) hlocks (fun t hal h1 h2 => ⟨(), trivial, ⟨rfl, (by unfold t_X10_cellNumbered; rw [if_pos c_1])⟩, thr_F hS h1 h2⟩) hS.2.2 (Nat.le_of_ble_eq_true rfl) (Nat.le_of_ble_eq_true rfl)
  · refine lv_iload_n hx hb dX10_cellNumbered_4 rfl (lv_at hl 1 rfl) ?_
    refine lv_aload_n hx hb dX10_cellNumbered_5 rfl (lv_at hl 0 rfl) ?_
    refine va_get (D := D) (ci := 16) (v := .ref l4) (C := RX10) (T := TX10) (N := 20) hx hb hts iw_RX10_wsX10_cellNumbered hown hK hP 0 rfl rfl 3 (by decide) (hts (.fieldLink RX10 22 "CoatLine" "cells" "Ljava/util/ArrayList;") (by decide +kernel)) (fun _ h9 => h9) rfl dX10_cellNumbered_6 ?_
    refine vp_callSi (va_Run.run (va_runV (As := []) (rest := [.int p0]) ⟨hx, hb, hml, hown, hts⟩ (c_Jx4a65c_size_8abf5 l hst D e l4 0 e 0 s.heap.size) (cwV 0 hts gX10_cellNumbered_Jx4a65c_size_8abf5 rfl rfl rfl (by decide +kernel) ⟨Nat.le_of_ble_eq_true rfl, Nat.le_of_ble_eq_true rfl⟩) ⟨cIn_blind, va_recv hK hP (ci := 5) (q0 := 1) rfl rfl, cIn_go hK hP hD hE hS hA [1] rfl rfl (by decide) [] rfl⟩ rfl rfl hl.1 rfl (lv_room (Nat.le_of_ble_eq_true rfl)) dX10_cellNumbered_9 ⟨Nat.le_of_ble_eq_true rfl, Nat.le_of_ble_eq_true rfl⟩)) (fun r_4 hw => ?_)
    have hw : r_4 = 0 := hw.trans (by first | rfl | decide +kernel)
    subst hw
    refine lv_icmp_lt (tgt := 26) hx hb dX10_cellNumbered_12 (by decide) (fun c_5 => absurd c_5 c_1) (fun c_5 => ?_)
    obtain ⟨sa_6, hs_7⟩ := ev_x hE (q := (380, "no such cell")) (by decide +kernel)
    exact vx_throwSW hx hb hst hown (by decide +kernel) (by decide +kernel) (hts (.classLink RX10 460 "java/lang/IndexOutOfBoundsException") (by decide +kernel)) (hts (.initialized "java/lang/IndexOutOfBoundsException") (by decide +kernel)) hs_7 (vx_hat (fun w hw => hts w (hm_wsX10_cellNumbered_464 w hw)) hn_RX10_464 (vx_c (ev_u hE (w := .castable "java/lang/IndexOutOfBoundsException" _) (by decide +kernel) rfl) (vx_c (ev_u hE (by decide +kernel) rfl) (vx_c (ev_u hE (by decide +kernel) rfl) (vx_c (ev_u hE (by decide +kernel) rfl) vx_n))))) ht_RX10_460_464 hE.1.1.1 hE.1.1.2 hS (hl.1.trans hml.symm) dX10_cellNumbered_15 dX10_cellNumbered_18 dX10_cellNumbered_19 dX10_cellNumbered_22 dX10_cellNumbered_25 (fun x hx => (htb x hx).elim) (Nat.le_of_ble_eq_true rfl) (Nat.le_of_ble_eq_true rfl) (Nat.le_of_ble_eq_true rfl) (Nat.le_of_ble_eq_true rfl) hlocks (fun t hal h1 h2 => ⟨(), trivial, ⟨rfl, (by unfold t_X10_cellNumbered; rw [if_neg c_1])⟩, thr_F hS h1 h2⟩) hS.2.2 (Nat.le_of_ble_eq_true rfl) (Nat.le_of_ble_eq_true rfl)
-- X10_protocolNumbered
def t_X10_protocolNumbered (p0 : Int32) : Int32 := if p0 < 0 then 3 else 3
set_option maxHeartbeats 4000000 in
set_option maxRecDepth 100000 in
theorem c_X10_protocolNumbered (l : Launch) (hst : l.stackTraces = false) (D : va_G) (e : Nat) (h : Nat) (l1 : Nat) (l2 : Nat) (l3 : Nat) (l4 : Nat) (l5 : Nat) (l6 : Nat) (l7 : Nat) (l8 : Nat) (l9 : Nat) (ch : Nat) (co : Nat) (p0 : Int32) (sz : Nat) : vx_Met l yX10_protocolNumbered wsX10_protocolNumbered ({ frames := 10, cells := 1, slots := 6, locals := 160 }) (va_Pc [.ref h, .int p0] (cIn D [] [(h, .inr (16, [.ref l1, .ref l2, .ref l3, .ref l4, .ref l5, .ref l6, .ref l7, .ref l8, .ref l9, .ref ch, .ref co, .int 0, .int 4, .int (-40), .int 20, .int 0, .int 0, .int 100, .int 60, .int 14])), (l5, .inr (5, [.int 0, .ref e, .int 0]))] e sz)) (va_Qv (fun (_ : Unit) => False) (fun (_ : Unit) (_ : State) => True) (va_A [(h, .inr (16, [.ref l1, .ref l2, .ref l3, .ref l4, .ref l5, .ref l6, .ref l7, .ref l8, .ref l9, .ref ch, .ref co, .int 0, .int 4, .int (-40), .int 20, .int 0, .int 0, .int 100, .int 60, .int 14])), (l5, .inr (5, [.int 0, .ref e, .int 0]))] sz)) (vx_X (fun _ : Unit => True) (fun (E : String) (_ : Unit) (_ : State) => (E = "java/lang/IndexOutOfBoundsException" ∧ t_X10_protocolNumbered p0 = 3)) (va_A [(h, .inr (16, [.ref l1, .ref l2, .ref l3, .ref l4, .ref l5, .ref l6, .ref l7, .ref l8, .ref l9, .ref ch, .ref co, .int 0, .int 4, .int (-40), .int 20, .int 0, .int 0, .int 100, .int 60, .int 14])), (l5, .inr (5, [.int 0, .ref e, .int 0]))] sz)) 1 6 (va_A [(h, .inr (16, [.ref l1, .ref l2, .ref l3, .ref l4, .ref l5, .ref l6, .ref l7, .ref l8, .ref l9, .ref ch, .ref co, .int 0, .int 4, .int (-40), .int 20, .int 0, .int 0, .int 100, .int 60, .int 14])), (l5, .inr (5, [.int 0, .ref e, .int 0]))] sz) := by
  refine vx_ofW (cc := cX10_protocolNumbered) (maxL := 2) (ret := (some (.object "CoatLine$Protocol"))) (by decide +kernel) rfl ?_
  intro p e9 s m args below meth c s₁ B hml htb hv
  obtain ⟨rfl, hsz, hP, hK, hD0, hE0⟩ := hv
  have hx := B.exec
  have hb := B.bytes
  have hr := B.returns
  have hts := atoms_spec (ws := wsX10_protocolNumbered) B.pre
  have hown : s.vm.findClass RX10 = some m.cls := findClass_of_methodNamed B.named
  have hlocks := B.notSynchronized
  subst hsz
  have hD := hD0.self (sz := s.heap.size)
  generalize hAe : va_A [(h, .inr (16, [.ref l1, .ref l2, .ref l3, .ref l4, .ref l5, .ref l6, .ref l7, .ref l8, .ref l9, .ref ch, .ref co, .int 0, .int 4, .int (-40), .int 20, .int 0, .int 0, .int 100, .int 60, .int 14])), (l5, .inr (5, [.int 0, .ref e, .int 0]))] s.heap.size = A at hD hE0 ⊢
  have hA : ∀ q : Nat, s.heap.size ≤ q → A q := fun q h => by rw [← hAe]; exact Or.inr h
  have hS : va_S A s.heap s.heap [] := va_S.rf
  have hE := hE0
  have hP : va_P D vwCl [(h, .inr (16, [.ref l1, .ref l2, .ref l3, .ref l4, .ref l5, .ref l6, .ref l7, .ref l8, .ref l9, .ref ch, .ref co, .int 0, .int 4, .int (-40), .int 20, .int 0, .int 0, .int 100, .int 60, .int 14])), (l5, .inr (5, [.int 0, .ref e, .int 0]))] s.heap := hP
  have hl := lv_entry ([.ref h, .int p0]) (n := 2) (Nat.le_of_ble_eq_true rfl)
  rw [lg_entry_eq]
  generalize (lg_sl ([.ref h, .int p0]) ++ List.replicate (2 - (lg_sl ([.ref h, .int p0])).length) Slot.unset).toArray = ls at hl ⊢
  have hl : lv_has ls 2 [(0, .ref h), (1, .int p0)] := hl
  refine lv_iload_n hx hb dX10_protocolNumbered_0 rfl (lv_at hl 1 rfl) ?_
  refine lv_if_lt (tgt := 15) hx hb dX10_protocolNumbered_1 (by decide) (fun c_1 => ?_) (fun c_1 => ?_)
  · obtain ⟨sa_2, hs_3⟩ := ev_x hE (q := (525, "no such protocol")) (by decide +kernel)
    exact vx_throwSW hx hb hst hown (by decide +kernel) (by decide +kernel) (hts (.classLink RX10 460 "java/lang/IndexOutOfBoundsException") (by decide +kernel)) (hts (.initialized "java/lang/IndexOutOfBoundsException") (by decide +kernel)) hs_3 (vx_hat (fun w hw => hts w (hm_wsX10_protocolNumbered_464 w hw)) hn_RX10_464 (vx_c (ev_u hE (w := .castable "java/lang/IndexOutOfBoundsException" _) (by decide +kernel) rfl) (vx_c (ev_u hE (by decide +kernel) rfl) (vx_c (ev_u hE (by decide +kernel) rfl) (vx_c (ev_u hE (by decide +kernel) rfl) vx_n))))) ht_RX10_460_464 hE.1.1.1 hE.1.1.2 hS (hl.1.trans hml.symm) dX10_protocolNumbered_15 dX10_protocolNumbered_18 dX10_protocolNumbered_19 dX10_protocolNumbered_22 dX10_protocolNumbered_25 (fun x hx => (htb x hx).elim) (Nat.le_of_ble_eq_true rfl) (Nat.le_of_ble_eq_true rfl) (Nat.le_of_ble_eq_true rfl) (Nat.le_of_ble_eq_true rfl) hlocks (fun t hal h1 h2 => ⟨(), trivial, ⟨rfl, (by unfold t_X10_protocolNumbered; rw [if_pos c_1])⟩, thr_F hS h1 h2⟩) hS.2.2 (Nat.le_of_ble_eq_true rfl) (Nat.le_of_ble_eq_true rfl)
  · refine lv_iload_n hx hb dX10_protocolNumbered_4 rfl (lv_at hl 1 rfl) ?_
    refine lv_aload_n hx hb dX10_protocolNumbered_5 rfl (lv_at hl 0 rfl) ?_
    refine va_get (D := D) (ci := 16) (v := .ref l5) (C := RX10) (T := TX10) (N := 20) hx hb hts iw_RX10_wsX10_protocolNumbered hown hK hP 0 rfl rfl 4 (by decide) (hts (.fieldLink RX10 25 "CoatLine" "protocols" "Ljava/util/ArrayList;") (by decide +kernel)) (fun _ h9 => h9) rfl dX10_protocolNumbered_6 ?_
    refine vp_callSi (va_Run.run (va_runV (As := []) (rest := [.int p0]) ⟨hx, hb, hml, hown, hts⟩ (c_Jx4a65c_size_8abf5 l hst D e l5 0 e 0 s.heap.size) (cwV 0 hts gX10_protocolNumbered_Jx4a65c_size_8abf5 rfl rfl rfl (by decide +kernel) ⟨Nat.le_of_ble_eq_true rfl, Nat.le_of_ble_eq_true rfl⟩) ⟨cIn_blind, va_recv hK hP (ci := 5) (q0 := 1) rfl rfl, cIn_go hK hP hD hE hS hA [1] rfl rfl (by decide) [] rfl⟩ rfl rfl hl.1 rfl (lv_room (Nat.le_of_ble_eq_true rfl)) dX10_protocolNumbered_9 ⟨Nat.le_of_ble_eq_true rfl, Nat.le_of_ble_eq_true rfl⟩)) (fun r_4 hw => ?_)
    have hw : r_4 = 0 := hw.trans (by first | rfl | decide +kernel)
    subst hw
    refine lv_icmp_lt (tgt := 26) hx hb dX10_protocolNumbered_12 (by decide) (fun c_5 => absurd c_5 c_1) (fun c_5 => ?_)
    obtain ⟨sa_6, hs_7⟩ := ev_x hE (q := (525, "no such protocol")) (by decide +kernel)
    exact vx_throwSW hx hb hst hown (by decide +kernel) (by decide +kernel) (hts (.classLink RX10 460 "java/lang/IndexOutOfBoundsException") (by decide +kernel)) (hts (.initialized "java/lang/IndexOutOfBoundsException") (by decide +kernel)) hs_7 (vx_hat (fun w hw => hts w (hm_wsX10_protocolNumbered_464 w hw)) hn_RX10_464 (vx_c (ev_u hE (w := .castable "java/lang/IndexOutOfBoundsException" _) (by decide +kernel) rfl) (vx_c (ev_u hE (by decide +kernel) rfl) (vx_c (ev_u hE (by decide +kernel) rfl) (vx_c (ev_u hE (by decide +kernel) rfl) vx_n))))) ht_RX10_460_464 hE.1.1.1 hE.1.1.2 hS (hl.1.trans hml.symm) dX10_protocolNumbered_15 dX10_protocolNumbered_18 dX10_protocolNumbered_19 dX10_protocolNumbered_22 dX10_protocolNumbered_25 (fun x hx => (htb x hx).elim) (Nat.le_of_ble_eq_true rfl) (Nat.le_of_ble_eq_true rfl) (Nat.le_of_ble_eq_true rfl) (Nat.le_of_ble_eq_true rfl) hlocks (fun t hal h1 h2 => ⟨(), trivial, ⟨rfl, (by unfold t_X10_protocolNumbered; rw [if_neg c_1])⟩, thr_F hS h1 h2⟩) hS.2.2 (Nat.le_of_ble_eq_true rfl) (Nat.le_of_ble_eq_true rfl)
-- X10_moduleNumbered
def t_X10_moduleNumbered (p0 : Int32) : Int32 := if p0 < 0 then 3 else 3
set_option maxHeartbeats 4000000 in
set_option maxRecDepth 100000 in
theorem c_X10_moduleNumbered (l : Launch) (hst : l.stackTraces = false) (D : va_G) (e : Nat) (h : Nat) (l1 : Nat) (l2 : Nat) (l3 : Nat) (l4 : Nat) (l5 : Nat) (l6 : Nat) (l7 : Nat) (l8 : Nat) (l9 : Nat) (ch : Nat) (co : Nat) (p0 : Int32) (sz : Nat) : vx_Met l yX10_moduleNumbered wsX10_moduleNumbered ({ frames := 10, cells := 1, slots := 6, locals := 160 }) (va_Pc [.ref h, .int p0] (cIn D [] [(h, .inr (16, [.ref l1, .ref l2, .ref l3, .ref l4, .ref l5, .ref l6, .ref l7, .ref l8, .ref l9, .ref ch, .ref co, .int 0, .int 4, .int (-40), .int 20, .int 0, .int 0, .int 100, .int 60, .int 14])), (l6, .inr (5, [.int 0, .ref e, .int 0]))] e sz)) (va_Qv (fun (_ : Unit) => False) (fun (_ : Unit) (_ : State) => True) (va_A [(h, .inr (16, [.ref l1, .ref l2, .ref l3, .ref l4, .ref l5, .ref l6, .ref l7, .ref l8, .ref l9, .ref ch, .ref co, .int 0, .int 4, .int (-40), .int 20, .int 0, .int 0, .int 100, .int 60, .int 14])), (l6, .inr (5, [.int 0, .ref e, .int 0]))] sz)) (vx_X (fun _ : Unit => True) (fun (E : String) (_ : Unit) (_ : State) => (E = "java/lang/IndexOutOfBoundsException" ∧ t_X10_moduleNumbered p0 = 3)) (va_A [(h, .inr (16, [.ref l1, .ref l2, .ref l3, .ref l4, .ref l5, .ref l6, .ref l7, .ref l8, .ref l9, .ref ch, .ref co, .int 0, .int 4, .int (-40), .int 20, .int 0, .int 0, .int 100, .int 60, .int 14])), (l6, .inr (5, [.int 0, .ref e, .int 0]))] sz)) 1 6 (va_A [(h, .inr (16, [.ref l1, .ref l2, .ref l3, .ref l4, .ref l5, .ref l6, .ref l7, .ref l8, .ref l9, .ref ch, .ref co, .int 0, .int 4, .int (-40), .int 20, .int 0, .int 0, .int 100, .int 60, .int 14])), (l6, .inr (5, [.int 0, .ref e, .int 0]))] sz) := by
  refine vx_ofW (cc := cX10_moduleNumbered) (maxL := 2) (ret := (some (.object "CoatLine$CellModule"))) (by decide +kernel) rfl ?_
  intro p e9 s m args below meth c s₁ B hml htb hv
  obtain ⟨rfl, hsz, hP, hK, hD0, hE0⟩ := hv
  have hx := B.exec
  have hb := B.bytes
  have hr := B.returns
  have hts := atoms_spec (ws := wsX10_moduleNumbered) B.pre
  have hown : s.vm.findClass RX10 = some m.cls := findClass_of_methodNamed B.named
  have hlocks := B.notSynchronized
  subst hsz
  have hD := hD0.self (sz := s.heap.size)
  generalize hAe : va_A [(h, .inr (16, [.ref l1, .ref l2, .ref l3, .ref l4, .ref l5, .ref l6, .ref l7, .ref l8, .ref l9, .ref ch, .ref co, .int 0, .int 4, .int (-40), .int 20, .int 0, .int 0, .int 100, .int 60, .int 14])), (l6, .inr (5, [.int 0, .ref e, .int 0]))] s.heap.size = A at hD hE0 ⊢
  have hA : ∀ q : Nat, s.heap.size ≤ q → A q := fun q h => by rw [← hAe]; exact Or.inr h
  have hS : va_S A s.heap s.heap [] := va_S.rf
  have hE := hE0
  have hP : va_P D vwCl [(h, .inr (16, [.ref l1, .ref l2, .ref l3, .ref l4, .ref l5, .ref l6, .ref l7, .ref l8, .ref l9, .ref ch, .ref co, .int 0, .int 4, .int (-40), .int 20, .int 0, .int 0, .int 100, .int 60, .int 14])), (l6, .inr (5, [.int 0, .ref e, .int 0]))] s.heap := hP
  have hl := lv_entry ([.ref h, .int p0]) (n := 2) (Nat.le_of_ble_eq_true rfl)
  rw [lg_entry_eq]
  generalize (lg_sl ([.ref h, .int p0]) ++ List.replicate (2 - (lg_sl ([.ref h, .int p0])).length) Slot.unset).toArray = ls at hl ⊢
  have hl : lv_has ls 2 [(0, .ref h), (1, .int p0)] := hl
  refine lv_iload_n hx hb dX10_moduleNumbered_0 rfl (lv_at hl 1 rfl) ?_
  refine lv_if_lt (tgt := 15) hx hb dX10_moduleNumbered_1 (by decide) (fun c_1 => ?_) (fun c_1 => ?_)
  · obtain ⟨sa_2, hs_3⟩ := ev_x hE (q := (527, "no such module")) (by decide +kernel)
    exact vx_throwSW hx hb hst hown (by decide +kernel) (by decide +kernel) (hts (.classLink RX10 460 "java/lang/IndexOutOfBoundsException") (by decide +kernel)) (hts (.initialized "java/lang/IndexOutOfBoundsException") (by decide +kernel)) hs_3 (vx_hat (fun w hw => hts w (hm_wsX10_moduleNumbered_464 w hw)) hn_RX10_464 (vx_c (ev_u hE (w := .castable "java/lang/IndexOutOfBoundsException" _) (by decide +kernel) rfl) (vx_c (ev_u hE (by decide +kernel) rfl) (vx_c (ev_u hE (by decide +kernel) rfl) (vx_c (ev_u hE (by decide +kernel) rfl) vx_n))))) ht_RX10_460_464 hE.1.1.1 hE.1.1.2 hS (hl.1.trans hml.symm) dX10_moduleNumbered_15 dX10_moduleNumbered_18 dX10_moduleNumbered_19 dX10_moduleNumbered_22 dX10_moduleNumbered_25 (fun x hx => (htb x hx).elim) (Nat.le_of_ble_eq_true rfl) (Nat.le_of_ble_eq_true rfl) (Nat.le_of_ble_eq_true rfl) (Nat.le_of_ble_eq_true rfl) hlocks (fun t hal h1 h2 => ⟨(), trivial, ⟨rfl, (by unfold t_X10_moduleNumbered; rw [if_pos c_1])⟩, thr_F hS h1 h2⟩) hS.2.2 (Nat.le_of_ble_eq_true rfl) (Nat.le_of_ble_eq_true rfl)
  · refine lv_iload_n hx hb dX10_moduleNumbered_4 rfl (lv_at hl 1 rfl) ?_
    refine lv_aload_n hx hb dX10_moduleNumbered_5 rfl (lv_at hl 0 rfl) ?_
    refine va_get (D := D) (ci := 16) (v := .ref l6) (C := RX10) (T := TX10) (N := 20) hx hb hts iw_RX10_wsX10_moduleNumbered hown hK hP 0 rfl rfl 5 (by decide) (hts (.fieldLink RX10 28 "CoatLine" "modules" "Ljava/util/ArrayList;") (by decide +kernel)) (fun _ h9 => h9) rfl dX10_moduleNumbered_6 ?_
    refine vp_callSi (va_Run.run (va_runV (As := []) (rest := [.int p0]) ⟨hx, hb, hml, hown, hts⟩ (c_Jx4a65c_size_8abf5 l hst D e l6 0 e 0 s.heap.size) (cwV 0 hts gX10_moduleNumbered_Jx4a65c_size_8abf5 rfl rfl rfl (by decide +kernel) ⟨Nat.le_of_ble_eq_true rfl, Nat.le_of_ble_eq_true rfl⟩) ⟨cIn_blind, va_recv hK hP (ci := 5) (q0 := 1) rfl rfl, cIn_go hK hP hD hE hS hA [1] rfl rfl (by decide) [] rfl⟩ rfl rfl hl.1 rfl (lv_room (Nat.le_of_ble_eq_true rfl)) dX10_moduleNumbered_9 ⟨Nat.le_of_ble_eq_true rfl, Nat.le_of_ble_eq_true rfl⟩)) (fun r_4 hw => ?_)
    have hw : r_4 = 0 := hw.trans (by first | rfl | decide +kernel)
    subst hw
    refine lv_icmp_lt (tgt := 26) hx hb dX10_moduleNumbered_12 (by decide) (fun c_5 => absurd c_5 c_1) (fun c_5 => ?_)
    obtain ⟨sa_6, hs_7⟩ := ev_x hE (q := (527, "no such module")) (by decide +kernel)
    exact vx_throwSW hx hb hst hown (by decide +kernel) (by decide +kernel) (hts (.classLink RX10 460 "java/lang/IndexOutOfBoundsException") (by decide +kernel)) (hts (.initialized "java/lang/IndexOutOfBoundsException") (by decide +kernel)) hs_7 (vx_hat (fun w hw => hts w (hm_wsX10_moduleNumbered_464 w hw)) hn_RX10_464 (vx_c (ev_u hE (w := .castable "java/lang/IndexOutOfBoundsException" _) (by decide +kernel) rfl) (vx_c (ev_u hE (by decide +kernel) rfl) (vx_c (ev_u hE (by decide +kernel) rfl) (vx_c (ev_u hE (by decide +kernel) rfl) vx_n))))) ht_RX10_460_464 hE.1.1.1 hE.1.1.2 hS (hl.1.trans hml.symm) dX10_moduleNumbered_15 dX10_moduleNumbered_18 dX10_moduleNumbered_19 dX10_moduleNumbered_22 dX10_moduleNumbered_25 (fun x hx => (htb x hx).elim) (Nat.le_of_ble_eq_true rfl) (Nat.le_of_ble_eq_true rfl) (Nat.le_of_ble_eq_true rfl) (Nat.le_of_ble_eq_true rfl) hlocks (fun t hal h1 h2 => ⟨(), trivial, ⟨rfl, (by unfold t_X10_moduleNumbered; rw [if_neg c_1])⟩, thr_F hS h1 h2⟩) hS.2.2 (Nat.le_of_ble_eq_true rfl) (Nat.le_of_ble_eq_true rfl)
-- X10_packNumbered
def t_X10_packNumbered (p0 : Int32) : Int32 := if p0 < 0 then 3 else 3
set_option maxHeartbeats 4000000 in
set_option maxRecDepth 100000 in
theorem c_X10_packNumbered (l : Launch) (hst : l.stackTraces = false) (D : va_G) (e : Nat) (h : Nat) (l1 : Nat) (l2 : Nat) (l3 : Nat) (l4 : Nat) (l5 : Nat) (l6 : Nat) (l7 : Nat) (l8 : Nat) (l9 : Nat) (ch : Nat) (co : Nat) (p0 : Int32) (sz : Nat) : vx_Met l yX10_packNumbered wsX10_packNumbered ({ frames := 10, cells := 1, slots := 6, locals := 160 }) (va_Pc [.ref h, .int p0] (cIn D [] [(h, .inr (16, [.ref l1, .ref l2, .ref l3, .ref l4, .ref l5, .ref l6, .ref l7, .ref l8, .ref l9, .ref ch, .ref co, .int 0, .int 4, .int (-40), .int 20, .int 0, .int 0, .int 100, .int 60, .int 14])), (l7, .inr (5, [.int 0, .ref e, .int 0]))] e sz)) (va_Qv (fun (_ : Unit) => False) (fun (_ : Unit) (_ : State) => True) (va_A [(h, .inr (16, [.ref l1, .ref l2, .ref l3, .ref l4, .ref l5, .ref l6, .ref l7, .ref l8, .ref l9, .ref ch, .ref co, .int 0, .int 4, .int (-40), .int 20, .int 0, .int 0, .int 100, .int 60, .int 14])), (l7, .inr (5, [.int 0, .ref e, .int 0]))] sz)) (vx_X (fun _ : Unit => True) (fun (E : String) (_ : Unit) (_ : State) => (E = "java/lang/IndexOutOfBoundsException" ∧ t_X10_packNumbered p0 = 3)) (va_A [(h, .inr (16, [.ref l1, .ref l2, .ref l3, .ref l4, .ref l5, .ref l6, .ref l7, .ref l8, .ref l9, .ref ch, .ref co, .int 0, .int 4, .int (-40), .int 20, .int 0, .int 0, .int 100, .int 60, .int 14])), (l7, .inr (5, [.int 0, .ref e, .int 0]))] sz)) 1 6 (va_A [(h, .inr (16, [.ref l1, .ref l2, .ref l3, .ref l4, .ref l5, .ref l6, .ref l7, .ref l8, .ref l9, .ref ch, .ref co, .int 0, .int 4, .int (-40), .int 20, .int 0, .int 0, .int 100, .int 60, .int 14])), (l7, .inr (5, [.int 0, .ref e, .int 0]))] sz) := by
  refine vx_ofW (cc := cX10_packNumbered) (maxL := 2) (ret := (some (.object "CoatLine$Pack"))) (by decide +kernel) rfl ?_
  intro p e9 s m args below meth c s₁ B hml htb hv
  obtain ⟨rfl, hsz, hP, hK, hD0, hE0⟩ := hv
  have hx := B.exec
  have hb := B.bytes
  have hr := B.returns
  have hts := atoms_spec (ws := wsX10_packNumbered) B.pre
  have hown : s.vm.findClass RX10 = some m.cls := findClass_of_methodNamed B.named
  have hlocks := B.notSynchronized
  subst hsz
  have hD := hD0.self (sz := s.heap.size)
  generalize hAe : va_A [(h, .inr (16, [.ref l1, .ref l2, .ref l3, .ref l4, .ref l5, .ref l6, .ref l7, .ref l8, .ref l9, .ref ch, .ref co, .int 0, .int 4, .int (-40), .int 20, .int 0, .int 0, .int 100, .int 60, .int 14])), (l7, .inr (5, [.int 0, .ref e, .int 0]))] s.heap.size = A at hD hE0 ⊢
  have hA : ∀ q : Nat, s.heap.size ≤ q → A q := fun q h => by rw [← hAe]; exact Or.inr h
  have hS : va_S A s.heap s.heap [] := va_S.rf
  have hE := hE0
  have hP : va_P D vwCl [(h, .inr (16, [.ref l1, .ref l2, .ref l3, .ref l4, .ref l5, .ref l6, .ref l7, .ref l8, .ref l9, .ref ch, .ref co, .int 0, .int 4, .int (-40), .int 20, .int 0, .int 0, .int 100, .int 60, .int 14])), (l7, .inr (5, [.int 0, .ref e, .int 0]))] s.heap := hP
  have hl := lv_entry ([.ref h, .int p0]) (n := 2) (Nat.le_of_ble_eq_true rfl)
  rw [lg_entry_eq]
  generalize (lg_sl ([.ref h, .int p0]) ++ List.replicate (2 - (lg_sl ([.ref h, .int p0])).length) Slot.unset).toArray = ls at hl ⊢
  have hl : lv_has ls 2 [(0, .ref h), (1, .int p0)] := hl
  refine lv_iload_n hx hb dX10_packNumbered_0 rfl (lv_at hl 1 rfl) ?_
  refine lv_if_lt (tgt := 15) hx hb dX10_packNumbered_1 (by decide) (fun c_1 => ?_) (fun c_1 => ?_)
  · obtain ⟨sa_2, hs_3⟩ := ev_x hE (q := (529, "no such pack")) (by decide +kernel)
    exact vx_throwSW hx hb hst hown (by decide +kernel) (by decide +kernel) (hts (.classLink RX10 460 "java/lang/IndexOutOfBoundsException") (by decide +kernel)) (hts (.initialized "java/lang/IndexOutOfBoundsException") (by decide +kernel)) hs_3 (vx_hat (fun w hw => hts w (hm_wsX10_packNumbered_464 w hw)) hn_RX10_464 (vx_c (ev_u hE (w := .castable "java/lang/IndexOutOfBoundsException" _) (by decide +kernel) rfl) (vx_c (ev_u hE (by decide +kernel) rfl) (vx_c (ev_u hE (by decide +kernel) rfl) (vx_c (ev_u hE (by decide +kernel) rfl) vx_n))))) ht_RX10_460_464 hE.1.1.1 hE.1.1.2 hS (hl.1.trans hml.symm) dX10_packNumbered_15 dX10_packNumbered_18 dX10_packNumbered_19 dX10_packNumbered_22 dX10_packNumbered_25 (fun x hx => (htb x hx).elim) (Nat.le_of_ble_eq_true rfl) (Nat.le_of_ble_eq_true rfl) (Nat.le_of_ble_eq_true rfl) (Nat.le_of_ble_eq_true rfl) hlocks (fun t hal h1 h2 => ⟨(), trivial, ⟨rfl, (by unfold t_X10_packNumbered; rw [if_pos c_1])⟩, thr_F hS h1 h2⟩) hS.2.2 (Nat.le_of_ble_eq_true rfl) (Nat.le_of_ble_eq_true rfl)
  · refine lv_iload_n hx hb dX10_packNumbered_4 rfl (lv_at hl 1 rfl) ?_
    refine lv_aload_n hx hb dX10_packNumbered_5 rfl (lv_at hl 0 rfl) ?_
    refine va_get (D := D) (ci := 16) (v := .ref l7) (C := RX10) (T := TX10) (N := 20) hx hb hts iw_RX10_wsX10_packNumbered hown hK hP 0 rfl rfl 6 (by decide) (hts (.fieldLink RX10 31 "CoatLine" "packs" "Ljava/util/ArrayList;") (by decide +kernel)) (fun _ h9 => h9) rfl dX10_packNumbered_6 ?_
    refine vp_callSi (va_Run.run (va_runV (As := []) (rest := [.int p0]) ⟨hx, hb, hml, hown, hts⟩ (c_Jx4a65c_size_8abf5 l hst D e l7 0 e 0 s.heap.size) (cwV 0 hts gX10_packNumbered_Jx4a65c_size_8abf5 rfl rfl rfl (by decide +kernel) ⟨Nat.le_of_ble_eq_true rfl, Nat.le_of_ble_eq_true rfl⟩) ⟨cIn_blind, va_recv hK hP (ci := 5) (q0 := 1) rfl rfl, cIn_go hK hP hD hE hS hA [1] rfl rfl (by decide) [] rfl⟩ rfl rfl hl.1 rfl (lv_room (Nat.le_of_ble_eq_true rfl)) dX10_packNumbered_9 ⟨Nat.le_of_ble_eq_true rfl, Nat.le_of_ble_eq_true rfl⟩)) (fun r_4 hw => ?_)
    have hw : r_4 = 0 := hw.trans (by first | rfl | decide +kernel)
    subst hw
    refine lv_icmp_lt (tgt := 26) hx hb dX10_packNumbered_12 (by decide) (fun c_5 => absurd c_5 c_1) (fun c_5 => ?_)
    obtain ⟨sa_6, hs_7⟩ := ev_x hE (q := (529, "no such pack")) (by decide +kernel)
    exact vx_throwSW hx hb hst hown (by decide +kernel) (by decide +kernel) (hts (.classLink RX10 460 "java/lang/IndexOutOfBoundsException") (by decide +kernel)) (hts (.initialized "java/lang/IndexOutOfBoundsException") (by decide +kernel)) hs_7 (vx_hat (fun w hw => hts w (hm_wsX10_packNumbered_464 w hw)) hn_RX10_464 (vx_c (ev_u hE (w := .castable "java/lang/IndexOutOfBoundsException" _) (by decide +kernel) rfl) (vx_c (ev_u hE (by decide +kernel) rfl) (vx_c (ev_u hE (by decide +kernel) rfl) (vx_c (ev_u hE (by decide +kernel) rfl) vx_n))))) ht_RX10_460_464 hE.1.1.1 hE.1.1.2 hS (hl.1.trans hml.symm) dX10_packNumbered_15 dX10_packNumbered_18 dX10_packNumbered_19 dX10_packNumbered_22 dX10_packNumbered_25 (fun x hx => (htb x hx).elim) (Nat.le_of_ble_eq_true rfl) (Nat.le_of_ble_eq_true rfl) (Nat.le_of_ble_eq_true rfl) (Nat.le_of_ble_eq_true rfl) hlocks (fun t hal h1 h2 => ⟨(), trivial, ⟨rfl, (by unfold t_X10_packNumbered; rw [if_neg c_1])⟩, thr_F hS h1 h2⟩) hS.2.2 (Nat.le_of_ble_eq_true rfl) (Nat.le_of_ble_eq_true rfl)
-- X10_coilWithMetre
def t_X10_coilWithMetre (p0 : Int32) (p1 : Int32) : Int32 := 3
set_option maxHeartbeats 4000000 in
set_option maxRecDepth 100000 in
theorem c_X10_coilWithMetre (l : Launch) (hst : l.stackTraces = false) (D : va_G) (e : Nat) (h : Nat) (l1 : Nat) (l2 : Nat) (l3 : Nat) (l4 : Nat) (l5 : Nat) (l6 : Nat) (l7 : Nat) (l8 : Nat) (l9 : Nat) (ch : Nat) (co : Nat) (p0 : Int32) (p1 : Int32) (sz : Nat) : vx_Met l yX10_coilWithMetre wsX10_coilWithMetre ({ frames := 12, cells := 1, slots := 6, locals := 220 }) (va_Pc [.ref h, .int p0, .int p1] (cIn D [] [(h, .inr (16, [.ref l1, .ref l2, .ref l3, .ref l4, .ref l5, .ref l6, .ref l7, .ref l8, .ref l9, .ref ch, .ref co, .int 0, .int 4, .int (-40), .int 20, .int 0, .int 0, .int 100, .int 60, .int 14])), (l2, .inr (5, [.int 0, .ref e, .int 0]))] e sz)) (va_Qv (fun (_ : Unit) => False) (fun (_ : Unit) (_ : State) => True) (va_A [(h, .inr (16, [.ref l1, .ref l2, .ref l3, .ref l4, .ref l5, .ref l6, .ref l7, .ref l8, .ref l9, .ref ch, .ref co, .int 0, .int 4, .int (-40), .int 20, .int 0, .int 0, .int 100, .int 60, .int 14])), (l2, .inr (5, [.int 0, .ref e, .int 0]))] sz)) (vx_X (fun _ : Unit => True) (fun (E : String) (_ : Unit) (_ : State) => (E = "java/lang/IndexOutOfBoundsException" ∧ t_X10_coilWithMetre p0 p1 = 3)) (va_A [(h, .inr (16, [.ref l1, .ref l2, .ref l3, .ref l4, .ref l5, .ref l6, .ref l7, .ref l8, .ref l9, .ref ch, .ref co, .int 0, .int 4, .int (-40), .int 20, .int 0, .int 0, .int 100, .int 60, .int 14])), (l2, .inr (5, [.int 0, .ref e, .int 0]))] sz)) 1 6 (va_A [(h, .inr (16, [.ref l1, .ref l2, .ref l3, .ref l4, .ref l5, .ref l6, .ref l7, .ref l8, .ref l9, .ref ch, .ref co, .int 0, .int 4, .int (-40), .int 20, .int 0, .int 0, .int 100, .int 60, .int 14])), (l2, .inr (5, [.int 0, .ref e, .int 0]))] sz) := by
  refine vx_ofW (cc := cX10_coilWithMetre) (maxL := 4) (ret := (some (.object "CoatLine$Coil"))) (by decide +kernel) rfl ?_
  intro p e9 s m args below meth c s₁ B hml htb hv
  obtain ⟨rfl, hsz, hP, hK, hD0, hE0⟩ := hv
  have hx := B.exec
  have hb := B.bytes
  have hr := B.returns
  have hts := atoms_spec (ws := wsX10_coilWithMetre) B.pre
  have hown : s.vm.findClass RX10 = some m.cls := findClass_of_methodNamed B.named
  have hlocks := B.notSynchronized
  subst hsz
  have hD := hD0.self (sz := s.heap.size)
  generalize hAe : va_A [(h, .inr (16, [.ref l1, .ref l2, .ref l3, .ref l4, .ref l5, .ref l6, .ref l7, .ref l8, .ref l9, .ref ch, .ref co, .int 0, .int 4, .int (-40), .int 20, .int 0, .int 0, .int 100, .int 60, .int 14])), (l2, .inr (5, [.int 0, .ref e, .int 0]))] s.heap.size = A at hD hE0 ⊢
  have hA : ∀ q : Nat, s.heap.size ≤ q → A q := fun q h => by rw [← hAe]; exact Or.inr h
  have hS : va_S A s.heap s.heap [] := va_S.rf
  have hE := hE0
  have hP : va_P D vwCl [(h, .inr (16, [.ref l1, .ref l2, .ref l3, .ref l4, .ref l5, .ref l6, .ref l7, .ref l8, .ref l9, .ref ch, .ref co, .int 0, .int 4, .int (-40), .int 20, .int 0, .int 0, .int 100, .int 60, .int 14])), (l2, .inr (5, [.int 0, .ref e, .int 0]))] s.heap := hP
  have hl := lv_entry ([.ref h, .int p0, .int p1]) (n := 4) (Nat.le_of_ble_eq_true rfl)
  rw [lg_entry_eq]
  generalize (lg_sl ([.ref h, .int p0, .int p1]) ++ List.replicate (4 - (lg_sl ([.ref h, .int p0, .int p1])).length) Slot.unset).toArray = ls at hl ⊢
  have hl : lv_has ls 4 [(0, .ref h), (1, .int p0), (2, .int p1)] := hl
  refine lv_aload_n hx hb dX10_coilWithMetre_0 rfl (lv_at hl 0 rfl) ?_
  refine lv_iload_n hx hb dX10_coilWithMetre_1 rfl (lv_at hl 1 rfl) ?_
  have hFc := va_free (wc := [(h, .inr (16, [.ref l1, .ref l2, .ref l3, .ref l4, .ref l5, .ref l6, .ref l7, .ref l8, .ref l9, .ref ch, .ref co, .int 0, .int 4, .int (-40), .int 20, .int 0, .int 0, .int 100, .int 60, .int 14])), (l2, .inr (5, [.int 0, .ref e, .int 0]))]) hD hS hA [0, 1] rfl
  refine vx_callv (vx_runV (As := [.int p0]) (rest := []) ⟨hx, hb, hml, hown, hts⟩ (c_X10_coilNumbered l hst D e h l1 l2 l3 l4 l5 l6 l7 l8 l9 ch co p0 s.heap.size) (cwV 1 hts gX10_coilWithMetre_X10_coilNumbered rfl rfl rfl (by decide +kernel) ⟨Nat.le_of_ble_eq_true rfl, Nat.le_of_ble_eq_true rfl⟩) ⟨cIn_blind, va_recv hK hP (ci := 16) (q0 := 0) rfl rfl, cIn_go hK hP hD hE hS hA [0, 1] rfl rfl (by decide) [] rfl⟩ rfl rfl hl.1 rfl (lv_room (Nat.le_of_ble_eq_true rfl)) dX10_coilWithMetre_2 ⟨Nat.le_of_ble_eq_true rfl, Nat.le_of_ble_eq_true rfl⟩) hS (fun q _ h => hFc q h) hFc (fun q _ h => hFc q h) (fun E ce q9 u t H1 locs ht hvm hpx hB hz1 hk1 hS hce hcv hcl => ?_) (fun u t H1 locs ht hvm hw hB hz1 hk1 hS => ?_)
  · obtain ⟨rfl, hw⟩ := hB
    exact vx_out (fun x hx => (htb x hx).elim) hlocks hce hcv hcl (fun t9 h9 hal => ⟨(), trivial, ⟨rfl, rfl⟩, hS.F h9⟩) hS.2.2 (Nat.le_of_ble_eq_true rfl) (Nat.le_of_ble_eq_true rfl)
  · exact hw.elim
-- X10_left
def t_X10_left (p0 : Int32) : Int32 := 3
set_option maxHeartbeats 4000000 in
set_option maxRecDepth 100000 in
theorem c_X10_left (l : Launch) (hst : l.stackTraces = false) (D : va_G) (e : Nat) (h : Nat) (l1 : Nat) (l2 : Nat) (l3 : Nat) (l4 : Nat) (l5 : Nat) (l6 : Nat) (l7 : Nat) (l8 : Nat) (l9 : Nat) (ch : Nat) (co : Nat) (p0 : Int32) (sz : Nat) : vx_Met l yX10_left wsX10_left ({ frames := 14, cells := 1, slots := 6, locals := 280 }) (va_Pc [.ref h, .int p0] (cIn D [] [(h, .inr (16, [.ref l1, .ref l2, .ref l3, .ref l4, .ref l5, .ref l6, .ref l7, .ref l8, .ref l9, .ref ch, .ref co, .int 0, .int 4, .int (-40), .int 20, .int 0, .int 0, .int 100, .int 60, .int 14])), (l1, .inr (5, [.int 0, .ref e, .int 0]))] e sz)) (va_Qv (fun (_ : Unit) => False) (fun (_ : Unit) (_ : State) => True) (va_A [(h, .inr (16, [.ref l1, .ref l2, .ref l3, .ref l4, .ref l5, .ref l6, .ref l7, .ref l8, .ref l9, .ref ch, .ref co, .int 0, .int 4, .int (-40), .int 20, .int 0, .int 0, .int 100, .int 60, .int 14])), (l1, .inr (5, [.int 0, .ref e, .int 0]))] sz)) (vx_X (fun _ : Unit => True) (fun (E : String) (_ : Unit) (_ : State) => (E = "java/lang/IndexOutOfBoundsException" ∧ t_X10_left p0 = 3)) (va_A [(h, .inr (16, [.ref l1, .ref l2, .ref l3, .ref l4, .ref l5, .ref l6, .ref l7, .ref l8, .ref l9, .ref ch, .ref co, .int 0, .int 4, .int (-40), .int 20, .int 0, .int 0, .int 100, .int 60, .int 14])), (l1, .inr (5, [.int 0, .ref e, .int 0]))] sz)) 1 6 (va_A [(h, .inr (16, [.ref l1, .ref l2, .ref l3, .ref l4, .ref l5, .ref l6, .ref l7, .ref l8, .ref l9, .ref ch, .ref co, .int 0, .int 4, .int (-40), .int 20, .int 0, .int 0, .int 100, .int 60, .int 14])), (l1, .inr (5, [.int 0, .ref e, .int 0]))] sz) := by
  refine vx_ofW (cc := cX10_left) (maxL := 2) (ret := (some .int)) (by decide +kernel) rfl ?_
  intro p e9 s m args below meth c s₁ B hml htb hv
  obtain ⟨rfl, hsz, hP, hK, hD0, hE0⟩ := hv
  have hx := B.exec
  have hb := B.bytes
  have hr := B.returns
  have hts := atoms_spec (ws := wsX10_left) B.pre
  have hown : s.vm.findClass RX10 = some m.cls := findClass_of_methodNamed B.named
  have hlocks := B.notSynchronized
  subst hsz
  have hD := hD0.self (sz := s.heap.size)
  generalize hAe : va_A [(h, .inr (16, [.ref l1, .ref l2, .ref l3, .ref l4, .ref l5, .ref l6, .ref l7, .ref l8, .ref l9, .ref ch, .ref co, .int 0, .int 4, .int (-40), .int 20, .int 0, .int 0, .int 100, .int 60, .int 14])), (l1, .inr (5, [.int 0, .ref e, .int 0]))] s.heap.size = A at hD hE0 ⊢
  have hA : ∀ q : Nat, s.heap.size ≤ q → A q := fun q h => by rw [← hAe]; exact Or.inr h
  have hS : va_S A s.heap s.heap [] := va_S.rf
  have hE := hE0
  have hP : va_P D vwCl [(h, .inr (16, [.ref l1, .ref l2, .ref l3, .ref l4, .ref l5, .ref l6, .ref l7, .ref l8, .ref l9, .ref ch, .ref co, .int 0, .int 4, .int (-40), .int 20, .int 0, .int 0, .int 100, .int 60, .int 14])), (l1, .inr (5, [.int 0, .ref e, .int 0]))] s.heap := hP
  have hl := lv_entry ([.ref h, .int p0]) (n := 2) (Nat.le_of_ble_eq_true rfl)
  rw [lg_entry_eq]
  generalize (lg_sl ([.ref h, .int p0]) ++ List.replicate (2 - (lg_sl ([.ref h, .int p0])).length) Slot.unset).toArray = ls at hl ⊢
  have hl : lv_has ls 2 [(0, .ref h), (1, .int p0)] := hl
  refine lv_aload_n hx hb dX10_left_0 rfl (lv_at hl 0 rfl) ?_
  refine lv_iload_n hx hb dX10_left_1 rfl (lv_at hl 1 rfl) ?_
  have hFc := va_free (wc := [(h, .inr (16, [.ref l1, .ref l2, .ref l3, .ref l4, .ref l5, .ref l6, .ref l7, .ref l8, .ref l9, .ref ch, .ref co, .int 0, .int 4, .int (-40), .int 20, .int 0, .int 0, .int 100, .int 60, .int 14])), (l1, .inr (5, [.int 0, .ref e, .int 0]))]) hD hS hA [0, 1] rfl
  refine vx_callv (vx_runV (As := [.int p0]) (rest := []) ⟨hx, hb, hml, hown, hts⟩ (c_X10_lotNumbered l hst D e h l1 l2 l3 l4 l5 l6 l7 l8 l9 ch co p0 s.heap.size) (cwV 1 hts gX10_left_X10_lotNumbered rfl rfl rfl (by decide +kernel) ⟨Nat.le_of_ble_eq_true rfl, Nat.le_of_ble_eq_true rfl⟩) ⟨cIn_blind, va_recv hK hP (ci := 16) (q0 := 0) rfl rfl, cIn_go hK hP hD hE hS hA [0, 1] rfl rfl (by decide) [] rfl⟩ rfl rfl hl.1 rfl (lv_room (Nat.le_of_ble_eq_true rfl)) dX10_left_2 ⟨Nat.le_of_ble_eq_true rfl, Nat.le_of_ble_eq_true rfl⟩) hS (fun q _ h => hFc q h) hFc (fun q _ h => hFc q h) (fun E ce q9 u t H1 locs ht hvm hpx hB hz1 hk1 hS hce hcv hcl => ?_) (fun u t H1 locs ht hvm hw hB hz1 hk1 hS => ?_)
  · obtain ⟨rfl, hw⟩ := hB
    exact vx_out (fun x hx => (htb x hx).elim) hlocks hce hcv hcl (fun t9 h9 hal => ⟨(), trivial, ⟨rfl, rfl⟩, hS.F h9⟩) hS.2.2 (Nat.le_of_ble_eq_true rfl) (Nat.le_of_ble_eq_true rfl)
  · exact hw.elim
-- X10_coat
def t_X10_coat (p0 : Int32) (p1 : Int32) (p2 : Int32) : Int32 := 3
set_option maxHeartbeats 4000000 in
set_option maxRecDepth 100000 in
theorem c_X10_coat (l : Launch) (hst : l.stackTraces = false) (D : va_G) (e : Nat) (h : Nat) (l1 : Nat) (l2 : Nat) (l3 : Nat) (l4 : Nat) (l5 : Nat) (l6 : Nat) (l7 : Nat) (l8 : Nat) (l9 : Nat) (ch : Nat) (co : Nat) (p0 : Int32) (p1 : Int32) (p2 : Int32) (sz : Nat) : vx_Met l yX10_coat wsX10_coat ({ frames := 14, cells := 1, slots := 6, locals := 280 }) (va_Pc [.ref h, .int p0, .int p1, .int p2] (cIn D [] [(h, .inr (16, [.ref l1, .ref l2, .ref l3, .ref l4, .ref l5, .ref l6, .ref l7, .ref l8, .ref l9, .ref ch, .ref co, .int 0, .int 4, .int (-40), .int 20, .int 0, .int 0, .int 100, .int 60, .int 14])), (l1, .inr (5, [.int 0, .ref e, .int 0]))] e sz)) (va_Qv (fun (_ : Unit) => False) (fun (_ : Unit) (_ : State) => True) (va_A [(h, .inr (16, [.ref l1, .ref l2, .ref l3, .ref l4, .ref l5, .ref l6, .ref l7, .ref l8, .ref l9, .ref ch, .ref co, .int 0, .int 4, .int (-40), .int 20, .int 0, .int 0, .int 100, .int 60, .int 14])), (l1, .inr (5, [.int 0, .ref e, .int 0]))] sz)) (vx_X (fun _ : Unit => True) (fun (E : String) (_ : Unit) (_ : State) => (E = "java/lang/IndexOutOfBoundsException" ∧ t_X10_coat p0 p1 p2 = 3)) (va_A [(h, .inr (16, [.ref l1, .ref l2, .ref l3, .ref l4, .ref l5, .ref l6, .ref l7, .ref l8, .ref l9, .ref ch, .ref co, .int 0, .int 4, .int (-40), .int 20, .int 0, .int 0, .int 100, .int 60, .int 14])), (l1, .inr (5, [.int 0, .ref e, .int 0]))] sz)) 1 6 (va_A [(h, .inr (16, [.ref l1, .ref l2, .ref l3, .ref l4, .ref l5, .ref l6, .ref l7, .ref l8, .ref l9, .ref ch, .ref co, .int 0, .int 4, .int (-40), .int 20, .int 0, .int 0, .int 100, .int 60, .int 14])), (l1, .inr (5, [.int 0, .ref e, .int 0]))] sz) := by
  refine vx_ofW (cc := cX10_coat) (maxL := 8) (ret := (some .int)) (by decide +kernel) rfl ?_
  intro p e9 s m args below meth c s₁ B hml htb hv
  obtain ⟨rfl, hsz, hP, hK, hD0, hE0⟩ := hv
  have hx := B.exec
  have hb := B.bytes
  have hr := B.returns
  have hts := atoms_spec (ws := wsX10_coat) B.pre
  have hown : s.vm.findClass RX10 = some m.cls := findClass_of_methodNamed B.named
  have hlocks := B.notSynchronized
  subst hsz
  have hD := hD0.self (sz := s.heap.size)
  generalize hAe : va_A [(h, .inr (16, [.ref l1, .ref l2, .ref l3, .ref l4, .ref l5, .ref l6, .ref l7, .ref l8, .ref l9, .ref ch, .ref co, .int 0, .int 4, .int (-40), .int 20, .int 0, .int 0, .int 100, .int 60, .int 14])), (l1, .inr (5, [.int 0, .ref e, .int 0]))] s.heap.size = A at hD hE0 ⊢
  have hA : ∀ q : Nat, s.heap.size ≤ q → A q := fun q h => by rw [← hAe]; exact Or.inr h
  have hS : va_S A s.heap s.heap [] := va_S.rf
  have hE := hE0
  have hP : va_P D vwCl [(h, .inr (16, [.ref l1, .ref l2, .ref l3, .ref l4, .ref l5, .ref l6, .ref l7, .ref l8, .ref l9, .ref ch, .ref co, .int 0, .int 4, .int (-40), .int 20, .int 0, .int 0, .int 100, .int 60, .int 14])), (l1, .inr (5, [.int 0, .ref e, .int 0]))] s.heap := hP
  have hl := lv_entry ([.ref h, .int p0, .int p1, .int p2]) (n := 8) (Nat.le_of_ble_eq_true rfl)
  rw [lg_entry_eq]
  generalize (lg_sl ([.ref h, .int p0, .int p1, .int p2]) ++ List.replicate (8 - (lg_sl ([.ref h, .int p0, .int p1, .int p2])).length) Slot.unset).toArray = ls at hl ⊢
  have hl : lv_has ls 8 [(0, .ref h), (1, .int p0), (2, .int p1), (3, .int p2)] := hl
  refine lv_aload_n hx hb dX10_coat_0 rfl (lv_at hl 0 rfl) ?_
  refine lv_iload_n hx hb dX10_coat_1 rfl (lv_at hl 1 rfl) ?_
  have hFc := va_free (wc := [(h, .inr (16, [.ref l1, .ref l2, .ref l3, .ref l4, .ref l5, .ref l6, .ref l7, .ref l8, .ref l9, .ref ch, .ref co, .int 0, .int 4, .int (-40), .int 20, .int 0, .int 0, .int 100, .int 60, .int 14])), (l1, .inr (5, [.int 0, .ref e, .int 0]))]) hD hS hA [0, 1] rfl
  refine vx_callv (vx_runV (As := [.int p0]) (rest := []) ⟨hx, hb, hml, hown, hts⟩ (c_X10_lotNumbered l hst D e h l1 l2 l3 l4 l5 l6 l7 l8 l9 ch co p0 s.heap.size) (cwV 1 hts gX10_coat_X10_lotNumbered rfl rfl rfl (by decide +kernel) ⟨Nat.le_of_ble_eq_true rfl, Nat.le_of_ble_eq_true rfl⟩) ⟨cIn_blind, va_recv hK hP (ci := 16) (q0 := 0) rfl rfl, cIn_go hK hP hD hE hS hA [0, 1] rfl rfl (by decide) [] rfl⟩ rfl rfl hl.1 rfl (lv_room (Nat.le_of_ble_eq_true rfl)) dX10_coat_2 ⟨Nat.le_of_ble_eq_true rfl, Nat.le_of_ble_eq_true rfl⟩) hS (fun q _ h => hFc q h) hFc (fun q _ h => hFc q h) (fun E ce q9 u t H1 locs ht hvm hpx hB hz1 hk1 hS hce hcv hcl => ?_) (fun u t H1 locs ht hvm hw hB hz1 hk1 hS => ?_)
  · obtain ⟨rfl, hw⟩ := hB
    exact vx_out (fun x hx => (htb x hx).elim) hlocks hce hcv hcl (fun t9 h9 hal => ⟨(), trivial, ⟨rfl, rfl⟩, hS.F h9⟩) hS.2.2 (Nat.le_of_ble_eq_true rfl) (Nat.le_of_ble_eq_true rfl)
  · exact hw.elim
-- X10_weight
def t_X10_weight (p0 : Int32) (p1 : Int32) : Int32 := 3
set_option maxHeartbeats 4000000 in
set_option maxRecDepth 100000 in
theorem c_X10_weight (l : Launch) (hst : l.stackTraces = false) (D : va_G) (e : Nat) (h : Nat) (l1 : Nat) (l2 : Nat) (l3 : Nat) (l4 : Nat) (l5 : Nat) (l6 : Nat) (l7 : Nat) (l8 : Nat) (l9 : Nat) (ch : Nat) (co : Nat) (p0 : Int32) (p1 : Int32) (sz : Nat) : vx_Met l yX10_weight wsX10_weight ({ frames := 14, cells := 1, slots := 6, locals := 280 }) (va_Pc [.ref h, .int p0, .int p1] (cIn D [] [(h, .inr (16, [.ref l1, .ref l2, .ref l3, .ref l4, .ref l5, .ref l6, .ref l7, .ref l8, .ref l9, .ref ch, .ref co, .int 0, .int 4, .int (-40), .int 20, .int 0, .int 0, .int 100, .int 60, .int 14])), (l2, .inr (5, [.int 0, .ref e, .int 0]))] e sz)) (va_Qv (fun (_ : Unit) => False) (fun (_ : Unit) (_ : State) => True) (va_A [(h, .inr (16, [.ref l1, .ref l2, .ref l3, .ref l4, .ref l5, .ref l6, .ref l7, .ref l8, .ref l9, .ref ch, .ref co, .int 0, .int 4, .int (-40), .int 20, .int 0, .int 0, .int 100, .int 60, .int 14])), (l2, .inr (5, [.int 0, .ref e, .int 0]))] sz)) (vx_X (fun _ : Unit => True) (fun (E : String) (_ : Unit) (_ : State) => (E = "java/lang/IndexOutOfBoundsException" ∧ t_X10_weight p0 p1 = 3)) (va_A [(h, .inr (16, [.ref l1, .ref l2, .ref l3, .ref l4, .ref l5, .ref l6, .ref l7, .ref l8, .ref l9, .ref ch, .ref co, .int 0, .int 4, .int (-40), .int 20, .int 0, .int 0, .int 100, .int 60, .int 14])), (l2, .inr (5, [.int 0, .ref e, .int 0]))] sz)) 1 6 (va_A [(h, .inr (16, [.ref l1, .ref l2, .ref l3, .ref l4, .ref l5, .ref l6, .ref l7, .ref l8, .ref l9, .ref ch, .ref co, .int 0, .int 4, .int (-40), .int 20, .int 0, .int 0, .int 100, .int 60, .int 14])), (l2, .inr (5, [.int 0, .ref e, .int 0]))] sz) := by
  refine vx_ofW (cc := cX10_weight) (maxL := 3) (ret := (some .int)) (by decide +kernel) rfl ?_
  intro p e9 s m args below meth c s₁ B hml htb hv
  obtain ⟨rfl, hsz, hP, hK, hD0, hE0⟩ := hv
  have hx := B.exec
  have hb := B.bytes
  have hr := B.returns
  have hts := atoms_spec (ws := wsX10_weight) B.pre
  have hown : s.vm.findClass RX10 = some m.cls := findClass_of_methodNamed B.named
  have hlocks := B.notSynchronized
  subst hsz
  have hD := hD0.self (sz := s.heap.size)
  generalize hAe : va_A [(h, .inr (16, [.ref l1, .ref l2, .ref l3, .ref l4, .ref l5, .ref l6, .ref l7, .ref l8, .ref l9, .ref ch, .ref co, .int 0, .int 4, .int (-40), .int 20, .int 0, .int 0, .int 100, .int 60, .int 14])), (l2, .inr (5, [.int 0, .ref e, .int 0]))] s.heap.size = A at hD hE0 ⊢
  have hA : ∀ q : Nat, s.heap.size ≤ q → A q := fun q h => by rw [← hAe]; exact Or.inr h
  have hS : va_S A s.heap s.heap [] := va_S.rf
  have hE := hE0
  have hP : va_P D vwCl [(h, .inr (16, [.ref l1, .ref l2, .ref l3, .ref l4, .ref l5, .ref l6, .ref l7, .ref l8, .ref l9, .ref ch, .ref co, .int 0, .int 4, .int (-40), .int 20, .int 0, .int 0, .int 100, .int 60, .int 14])), (l2, .inr (5, [.int 0, .ref e, .int 0]))] s.heap := hP
  have hl := lv_entry ([.ref h, .int p0, .int p1]) (n := 3) (Nat.le_of_ble_eq_true rfl)
  rw [lg_entry_eq]
  generalize (lg_sl ([.ref h, .int p0, .int p1]) ++ List.replicate (3 - (lg_sl ([.ref h, .int p0, .int p1])).length) Slot.unset).toArray = ls at hl ⊢
  have hl : lv_has ls 3 [(0, .ref h), (1, .int p0), (2, .int p1)] := hl
  refine lv_aload_n hx hb dX10_weight_0 rfl (lv_at hl 0 rfl) ?_
  refine lv_iload_n hx hb dX10_weight_1 rfl (lv_at hl 1 rfl) ?_
  refine lv_iload_n hx hb dX10_weight_2 rfl (lv_at hl 2 rfl) ?_
  have hFc := va_free (wc := [(h, .inr (16, [.ref l1, .ref l2, .ref l3, .ref l4, .ref l5, .ref l6, .ref l7, .ref l8, .ref l9, .ref ch, .ref co, .int 0, .int 4, .int (-40), .int 20, .int 0, .int 0, .int 100, .int 60, .int 14])), (l2, .inr (5, [.int 0, .ref e, .int 0]))]) hD hS hA [0, 1] rfl
  refine vx_callv (vx_runV (As := [.int p0, .int p1]) (rest := []) ⟨hx, hb, hml, hown, hts⟩ (c_X10_coilWithMetre l hst D e h l1 l2 l3 l4 l5 l6 l7 l8 l9 ch co p0 p1 s.heap.size) (cwV 2 hts gX10_weight_X10_coilWithMetre rfl rfl rfl (by decide +kernel) ⟨Nat.le_of_ble_eq_true rfl, Nat.le_of_ble_eq_true rfl⟩) ⟨cIn_blind, va_recv hK hP (ci := 16) (q0 := 0) rfl rfl, cIn_go hK hP hD hE hS hA [0, 1] rfl rfl (by decide) [] rfl⟩ rfl rfl hl.1 rfl (lv_room (Nat.le_of_ble_eq_true rfl)) dX10_weight_3 ⟨Nat.le_of_ble_eq_true rfl, Nat.le_of_ble_eq_true rfl⟩) hS (fun q _ h => hFc q h) hFc (fun q _ h => hFc q h) (fun E ce q9 u t H1 locs ht hvm hpx hB hz1 hk1 hS hce hcv hcl => ?_) (fun u t H1 locs ht hvm hw hB hz1 hk1 hS => ?_)
  · obtain ⟨rfl, hw⟩ := hB
    exact vx_out (fun x hx => (htb x hx).elim) hlocks hce hcv hcl (fun t9 h9 hal => ⟨(), trivial, ⟨rfl, rfl⟩, hS.F h9⟩) hS.2.2 (Nat.le_of_ble_eq_true rfl) (Nat.le_of_ble_eq_true rfl)
  · exact hw.elim
-- X10_mark
def t_X10_mark (p0 : Int32) (p1 : Int32) (p2 : Int32) : Int32 := 3
set_option maxHeartbeats 4000000 in
set_option maxRecDepth 100000 in
theorem c_X10_mark (l : Launch) (hst : l.stackTraces = false) (D : va_G) (e : Nat) (h : Nat) (l1 : Nat) (l2 : Nat) (l3 : Nat) (l4 : Nat) (l5 : Nat) (l6 : Nat) (l7 : Nat) (l8 : Nat) (l9 : Nat) (ch : Nat) (co : Nat) (p0 : Int32) (p1 : Int32) (p2 : Int32) (sz : Nat) : vx_Met l yX10_mark wsX10_mark ({ frames := 14, cells := 1, slots := 6, locals := 280 }) (va_Pc [.ref h, .int p0, .int p1, .int p2] (cIn D [] [(h, .inr (16, [.ref l1, .ref l2, .ref l3, .ref l4, .ref l5, .ref l6, .ref l7, .ref l8, .ref l9, .ref ch, .ref co, .int 0, .int 4, .int (-40), .int 20, .int 0, .int 0, .int 100, .int 60, .int 14])), (l2, .inr (5, [.int 0, .ref e, .int 0]))] e sz)) (va_Qv (fun (_ : Unit) => False) (fun (_ : Unit) (_ : State) => True) (va_A [(h, .inr (16, [.ref l1, .ref l2, .ref l3, .ref l4, .ref l5, .ref l6, .ref l7, .ref l8, .ref l9, .ref ch, .ref co, .int 0, .int 4, .int (-40), .int 20, .int 0, .int 0, .int 100, .int 60, .int 14])), (l2, .inr (5, [.int 0, .ref e, .int 0]))] sz)) (vx_X (fun _ : Unit => True) (fun (E : String) (_ : Unit) (_ : State) => (E = "java/lang/IndexOutOfBoundsException" ∧ t_X10_mark p0 p1 p2 = 3)) (va_A [(h, .inr (16, [.ref l1, .ref l2, .ref l3, .ref l4, .ref l5, .ref l6, .ref l7, .ref l8, .ref l9, .ref ch, .ref co, .int 0, .int 4, .int (-40), .int 20, .int 0, .int 0, .int 100, .int 60, .int 14])), (l2, .inr (5, [.int 0, .ref e, .int 0]))] sz)) 1 6 (va_A [(h, .inr (16, [.ref l1, .ref l2, .ref l3, .ref l4, .ref l5, .ref l6, .ref l7, .ref l8, .ref l9, .ref ch, .ref co, .int 0, .int 4, .int (-40), .int 20, .int 0, .int 0, .int 100, .int 60, .int 14])), (l2, .inr (5, [.int 0, .ref e, .int 0]))] sz) := by
  refine vx_ofW (cc := cX10_mark) (maxL := 6) (ret := (some .char)) (by decide +kernel) rfl ?_
  intro p e9 s m args below meth c s₁ B hml htb hv
  obtain ⟨rfl, hsz, hP, hK, hD0, hE0⟩ := hv
  have hx := B.exec
  have hb := B.bytes
  have hr := B.returns
  have hts := atoms_spec (ws := wsX10_mark) B.pre
  have hown : s.vm.findClass RX10 = some m.cls := findClass_of_methodNamed B.named
  have hlocks := B.notSynchronized
  subst hsz
  have hD := hD0.self (sz := s.heap.size)
  generalize hAe : va_A [(h, .inr (16, [.ref l1, .ref l2, .ref l3, .ref l4, .ref l5, .ref l6, .ref l7, .ref l8, .ref l9, .ref ch, .ref co, .int 0, .int 4, .int (-40), .int 20, .int 0, .int 0, .int 100, .int 60, .int 14])), (l2, .inr (5, [.int 0, .ref e, .int 0]))] s.heap.size = A at hD hE0 ⊢
  have hA : ∀ q : Nat, s.heap.size ≤ q → A q := fun q h => by rw [← hAe]; exact Or.inr h
  have hS : va_S A s.heap s.heap [] := va_S.rf
  have hE := hE0
  have hP : va_P D vwCl [(h, .inr (16, [.ref l1, .ref l2, .ref l3, .ref l4, .ref l5, .ref l6, .ref l7, .ref l8, .ref l9, .ref ch, .ref co, .int 0, .int 4, .int (-40), .int 20, .int 0, .int 0, .int 100, .int 60, .int 14])), (l2, .inr (5, [.int 0, .ref e, .int 0]))] s.heap := hP
  have hl := lv_entry ([.ref h, .int p0, .int p1, .int p2]) (n := 6) (Nat.le_of_ble_eq_true rfl)
  rw [lg_entry_eq]
  generalize (lg_sl ([.ref h, .int p0, .int p1, .int p2]) ++ List.replicate (6 - (lg_sl ([.ref h, .int p0, .int p1, .int p2])).length) Slot.unset).toArray = ls at hl ⊢
  have hl : lv_has ls 6 [(0, .ref h), (1, .int p0), (2, .int p1), (3, .int p2)] := hl
  refine lv_aload_n hx hb dX10_mark_0 rfl (lv_at hl 0 rfl) ?_
  refine lv_iload_n hx hb dX10_mark_1 rfl (lv_at hl 1 rfl) ?_
  refine lv_iload_n hx hb dX10_mark_2 rfl (lv_at hl 2 rfl) ?_
  have hFc := va_free (wc := [(h, .inr (16, [.ref l1, .ref l2, .ref l3, .ref l4, .ref l5, .ref l6, .ref l7, .ref l8, .ref l9, .ref ch, .ref co, .int 0, .int 4, .int (-40), .int 20, .int 0, .int 0, .int 100, .int 60, .int 14])), (l2, .inr (5, [.int 0, .ref e, .int 0]))]) hD hS hA [0, 1] rfl
  refine vx_callv (vx_runV (As := [.int p0, .int p1]) (rest := []) ⟨hx, hb, hml, hown, hts⟩ (c_X10_coilWithMetre l hst D e h l1 l2 l3 l4 l5 l6 l7 l8 l9 ch co p0 p1 s.heap.size) (cwV 2 hts gX10_mark_X10_coilWithMetre rfl rfl rfl (by decide +kernel) ⟨Nat.le_of_ble_eq_true rfl, Nat.le_of_ble_eq_true rfl⟩) ⟨cIn_blind, va_recv hK hP (ci := 16) (q0 := 0) rfl rfl, cIn_go hK hP hD hE hS hA [0, 1] rfl rfl (by decide) [] rfl⟩ rfl rfl hl.1 rfl (lv_room (Nat.le_of_ble_eq_true rfl)) dX10_mark_3 ⟨Nat.le_of_ble_eq_true rfl, Nat.le_of_ble_eq_true rfl⟩) hS (fun q _ h => hFc q h) hFc (fun q _ h => hFc q h) (fun E ce q9 u t H1 locs ht hvm hpx hB hz1 hk1 hS hce hcv hcl => ?_) (fun u t H1 locs ht hvm hw hB hz1 hk1 hS => ?_)
  · obtain ⟨rfl, hw⟩ := hB
    exact vx_out (fun x hx => (htb x hx).elim) hlocks hce hcv hcl (fun t9 h9 hal => ⟨(), trivial, ⟨rfl, rfl⟩, hS.F h9⟩) hS.2.2 (Nat.le_of_ble_eq_true rfl) (Nat.le_of_ble_eq_true rfl)
  · exact hw.elim
-- X10_press
def t_X10_press (p0 : Int32) (p1 : Int32) : Int32 := 3
set_option maxHeartbeats 4000000 in
set_option maxRecDepth 100000 in
theorem c_X10_press (l : Launch) (hst : l.stackTraces = false) (D : va_G) (e : Nat) (h : Nat) (l1 : Nat) (l2 : Nat) (l3 : Nat) (l4 : Nat) (l5 : Nat) (l6 : Nat) (l7 : Nat) (l8 : Nat) (l9 : Nat) (ch : Nat) (co : Nat) (p0 : Int32) (p1 : Int32) (sz : Nat) : vx_Met l yX10_press wsX10_press ({ frames := 14, cells := 1, slots := 6, locals := 280 }) (va_Pc [.ref h, .int p0, .int p1] (cIn D [] [(h, .inr (16, [.ref l1, .ref l2, .ref l3, .ref l4, .ref l5, .ref l6, .ref l7, .ref l8, .ref l9, .ref ch, .ref co, .int 0, .int 4, .int (-40), .int 20, .int 0, .int 0, .int 100, .int 60, .int 14])), (l2, .inr (5, [.int 0, .ref e, .int 0]))] e sz)) (va_Qv (fun (_ : Unit) => False) (fun (_ : Unit) (_ : State) => True) (va_A [(h, .inr (16, [.ref l1, .ref l2, .ref l3, .ref l4, .ref l5, .ref l6, .ref l7, .ref l8, .ref l9, .ref ch, .ref co, .int 0, .int 4, .int (-40), .int 20, .int 0, .int 0, .int 100, .int 60, .int 14])), (l2, .inr (5, [.int 0, .ref e, .int 0]))] sz)) (vx_X (fun _ : Unit => True) (fun (E : String) (_ : Unit) (_ : State) => (E = "java/lang/IndexOutOfBoundsException" ∧ t_X10_press p0 p1 = 3)) (va_A [(h, .inr (16, [.ref l1, .ref l2, .ref l3, .ref l4, .ref l5, .ref l6, .ref l7, .ref l8, .ref l9, .ref ch, .ref co, .int 0, .int 4, .int (-40), .int 20, .int 0, .int 0, .int 100, .int 60, .int 14])), (l2, .inr (5, [.int 0, .ref e, .int 0]))] sz)) 1 6 (va_A [(h, .inr (16, [.ref l1, .ref l2, .ref l3, .ref l4, .ref l5, .ref l6, .ref l7, .ref l8, .ref l9, .ref ch, .ref co, .int 0, .int 4, .int (-40), .int 20, .int 0, .int 0, .int 100, .int 60, .int 14])), (l2, .inr (5, [.int 0, .ref e, .int 0]))] sz) := by
  refine vx_ofW (cc := cX10_press) (maxL := 5) (ret := (some .int)) (by decide +kernel) rfl ?_
  intro p e9 s m args below meth c s₁ B hml htb hv
  obtain ⟨rfl, hsz, hP, hK, hD0, hE0⟩ := hv
  have hx := B.exec
  have hb := B.bytes
  have hr := B.returns
  have hts := atoms_spec (ws := wsX10_press) B.pre
  have hown : s.vm.findClass RX10 = some m.cls := findClass_of_methodNamed B.named
  have hlocks := B.notSynchronized
  subst hsz
  have hD := hD0.self (sz := s.heap.size)
  generalize hAe : va_A [(h, .inr (16, [.ref l1, .ref l2, .ref l3, .ref l4, .ref l5, .ref l6, .ref l7, .ref l8, .ref l9, .ref ch, .ref co, .int 0, .int 4, .int (-40), .int 20, .int 0, .int 0, .int 100, .int 60, .int 14])), (l2, .inr (5, [.int 0, .ref e, .int 0]))] s.heap.size = A at hD hE0 ⊢
  have hA : ∀ q : Nat, s.heap.size ≤ q → A q := fun q h => by rw [← hAe]; exact Or.inr h
  have hS : va_S A s.heap s.heap [] := va_S.rf
  have hE := hE0
  have hP : va_P D vwCl [(h, .inr (16, [.ref l1, .ref l2, .ref l3, .ref l4, .ref l5, .ref l6, .ref l7, .ref l8, .ref l9, .ref ch, .ref co, .int 0, .int 4, .int (-40), .int 20, .int 0, .int 0, .int 100, .int 60, .int 14])), (l2, .inr (5, [.int 0, .ref e, .int 0]))] s.heap := hP
  have hl := lv_entry ([.ref h, .int p0, .int p1]) (n := 5) (Nat.le_of_ble_eq_true rfl)
  rw [lg_entry_eq]
  generalize (lg_sl ([.ref h, .int p0, .int p1]) ++ List.replicate (5 - (lg_sl ([.ref h, .int p0, .int p1])).length) Slot.unset).toArray = ls at hl ⊢
  have hl : lv_has ls 5 [(0, .ref h), (1, .int p0), (2, .int p1)] := hl
  refine lv_aload_n hx hb dX10_press_0 rfl (lv_at hl 0 rfl) ?_
  refine lv_iload_n hx hb dX10_press_1 rfl (lv_at hl 1 rfl) ?_
  have hFc := va_free (wc := [(h, .inr (16, [.ref l1, .ref l2, .ref l3, .ref l4, .ref l5, .ref l6, .ref l7, .ref l8, .ref l9, .ref ch, .ref co, .int 0, .int 4, .int (-40), .int 20, .int 0, .int 0, .int 100, .int 60, .int 14])), (l2, .inr (5, [.int 0, .ref e, .int 0]))]) hD hS hA [0, 1] rfl
  refine vx_callv (vx_runV (As := [.int p0]) (rest := []) ⟨hx, hb, hml, hown, hts⟩ (c_X10_coilNumbered l hst D e h l1 l2 l3 l4 l5 l6 l7 l8 l9 ch co p0 s.heap.size) (cwV 1 hts gX10_press_X10_coilNumbered rfl rfl rfl (by decide +kernel) ⟨Nat.le_of_ble_eq_true rfl, Nat.le_of_ble_eq_true rfl⟩) ⟨cIn_blind, va_recv hK hP (ci := 16) (q0 := 0) rfl rfl, cIn_go hK hP hD hE hS hA [0, 1] rfl rfl (by decide) [] rfl⟩ rfl rfl hl.1 rfl (lv_room (Nat.le_of_ble_eq_true rfl)) dX10_press_2 ⟨Nat.le_of_ble_eq_true rfl, Nat.le_of_ble_eq_true rfl⟩) hS (fun q _ h => hFc q h) hFc (fun q _ h => hFc q h) (fun E ce q9 u t H1 locs ht hvm hpx hB hz1 hk1 hS hce hcv hcl => ?_) (fun u t H1 locs ht hvm hw hB hz1 hk1 hS => ?_)
  · obtain ⟨rfl, hw⟩ := hB
    exact vx_out (fun x hx => (htb x hx).elim) hlocks hce hcv hcl (fun t9 h9 hal => ⟨(), trivial, ⟨rfl, rfl⟩, hS.F h9⟩) hS.2.2 (Nat.le_of_ble_eq_true rfl) (Nat.le_of_ble_eq_true rfl)
  · exact hw.elim
-- X10_thickness
def t_X10_thickness (p0 : Int32) (p1 : Int32) : Int32 := 3
set_option maxHeartbeats 4000000 in
set_option maxRecDepth 100000 in
theorem c_X10_thickness (l : Launch) (hst : l.stackTraces = false) (D : va_G) (e : Nat) (h : Nat) (l1 : Nat) (l2 : Nat) (l3 : Nat) (l4 : Nat) (l5 : Nat) (l6 : Nat) (l7 : Nat) (l8 : Nat) (l9 : Nat) (ch : Nat) (co : Nat) (p0 : Int32) (p1 : Int32) (sz : Nat) : vx_Met l yX10_thickness wsX10_thickness ({ frames := 14, cells := 1, slots := 6, locals := 280 }) (va_Pc [.ref h, .int p0, .int p1] (cIn D [] [(h, .inr (16, [.ref l1, .ref l2, .ref l3, .ref l4, .ref l5, .ref l6, .ref l7, .ref l8, .ref l9, .ref ch, .ref co, .int 0, .int 4, .int (-40), .int 20, .int 0, .int 0, .int 100, .int 60, .int 14])), (l2, .inr (5, [.int 0, .ref e, .int 0]))] e sz)) (va_Qv (fun (_ : Unit) => False) (fun (_ : Unit) (_ : State) => True) (va_A [(h, .inr (16, [.ref l1, .ref l2, .ref l3, .ref l4, .ref l5, .ref l6, .ref l7, .ref l8, .ref l9, .ref ch, .ref co, .int 0, .int 4, .int (-40), .int 20, .int 0, .int 0, .int 100, .int 60, .int 14])), (l2, .inr (5, [.int 0, .ref e, .int 0]))] sz)) (vx_X (fun _ : Unit => True) (fun (E : String) (_ : Unit) (_ : State) => (E = "java/lang/IndexOutOfBoundsException" ∧ t_X10_thickness p0 p1 = 3)) (va_A [(h, .inr (16, [.ref l1, .ref l2, .ref l3, .ref l4, .ref l5, .ref l6, .ref l7, .ref l8, .ref l9, .ref ch, .ref co, .int 0, .int 4, .int (-40), .int 20, .int 0, .int 0, .int 100, .int 60, .int 14])), (l2, .inr (5, [.int 0, .ref e, .int 0]))] sz)) 1 6 (va_A [(h, .inr (16, [.ref l1, .ref l2, .ref l3, .ref l4, .ref l5, .ref l6, .ref l7, .ref l8, .ref l9, .ref ch, .ref co, .int 0, .int 4, .int (-40), .int 20, .int 0, .int 0, .int 100, .int 60, .int 14])), (l2, .inr (5, [.int 0, .ref e, .int 0]))] sz) := by
  refine vx_ofW (cc := cX10_thickness) (maxL := 3) (ret := (some .int)) (by decide +kernel) rfl ?_
  intro p e9 s m args below meth c s₁ B hml htb hv
  obtain ⟨rfl, hsz, hP, hK, hD0, hE0⟩ := hv
  have hx := B.exec
  have hb := B.bytes
  have hr := B.returns
  have hts := atoms_spec (ws := wsX10_thickness) B.pre
  have hown : s.vm.findClass RX10 = some m.cls := findClass_of_methodNamed B.named
  have hlocks := B.notSynchronized
  subst hsz
  have hD := hD0.self (sz := s.heap.size)
  generalize hAe : va_A [(h, .inr (16, [.ref l1, .ref l2, .ref l3, .ref l4, .ref l5, .ref l6, .ref l7, .ref l8, .ref l9, .ref ch, .ref co, .int 0, .int 4, .int (-40), .int 20, .int 0, .int 0, .int 100, .int 60, .int 14])), (l2, .inr (5, [.int 0, .ref e, .int 0]))] s.heap.size = A at hD hE0 ⊢
  have hA : ∀ q : Nat, s.heap.size ≤ q → A q := fun q h => by rw [← hAe]; exact Or.inr h
  have hS : va_S A s.heap s.heap [] := va_S.rf
  have hE := hE0
  have hP : va_P D vwCl [(h, .inr (16, [.ref l1, .ref l2, .ref l3, .ref l4, .ref l5, .ref l6, .ref l7, .ref l8, .ref l9, .ref ch, .ref co, .int 0, .int 4, .int (-40), .int 20, .int 0, .int 0, .int 100, .int 60, .int 14])), (l2, .inr (5, [.int 0, .ref e, .int 0]))] s.heap := hP
  have hl := lv_entry ([.ref h, .int p0, .int p1]) (n := 3) (Nat.le_of_ble_eq_true rfl)
  rw [lg_entry_eq]
  generalize (lg_sl ([.ref h, .int p0, .int p1]) ++ List.replicate (3 - (lg_sl ([.ref h, .int p0, .int p1])).length) Slot.unset).toArray = ls at hl ⊢
  have hl : lv_has ls 3 [(0, .ref h), (1, .int p0), (2, .int p1)] := hl
  refine lv_aload_n hx hb dX10_thickness_0 rfl (lv_at hl 0 rfl) ?_
  refine lv_iload_n hx hb dX10_thickness_1 rfl (lv_at hl 1 rfl) ?_
  refine lv_iload_n hx hb dX10_thickness_2 rfl (lv_at hl 2 rfl) ?_
  have hFc := va_free (wc := [(h, .inr (16, [.ref l1, .ref l2, .ref l3, .ref l4, .ref l5, .ref l6, .ref l7, .ref l8, .ref l9, .ref ch, .ref co, .int 0, .int 4, .int (-40), .int 20, .int 0, .int 0, .int 100, .int 60, .int 14])), (l2, .inr (5, [.int 0, .ref e, .int 0]))]) hD hS hA [0, 1] rfl
  refine vx_callv (vx_runV (As := [.int p0, .int p1]) (rest := []) ⟨hx, hb, hml, hown, hts⟩ (c_X10_coilWithMetre l hst D e h l1 l2 l3 l4 l5 l6 l7 l8 l9 ch co p0 p1 s.heap.size) (cwV 2 hts gX10_thickness_X10_coilWithMetre rfl rfl rfl (by decide +kernel) ⟨Nat.le_of_ble_eq_true rfl, Nat.le_of_ble_eq_true rfl⟩) ⟨cIn_blind, va_recv hK hP (ci := 16) (q0 := 0) rfl rfl, cIn_go hK hP hD hE hS hA [0, 1] rfl rfl (by decide) [] rfl⟩ rfl rfl hl.1 rfl (lv_room (Nat.le_of_ble_eq_true rfl)) dX10_thickness_3 ⟨Nat.le_of_ble_eq_true rfl, Nat.le_of_ble_eq_true rfl⟩) hS (fun q _ h => hFc q h) hFc (fun q _ h => hFc q h) (fun E ce q9 u t H1 locs ht hvm hpx hB hz1 hk1 hS hce hcv hcl => ?_) (fun u t H1 locs ht hvm hw hB hz1 hk1 hS => ?_)
  · obtain ⟨rfl, hw⟩ := hB
    exact vx_out (fun x hx => (htb x hx).elim) hlocks hce hcv hcl (fun t9 h9 hal => ⟨(), trivial, ⟨rfl, rfl⟩, hS.F h9⟩) hS.2.2 (Nat.le_of_ble_eq_true rfl) (Nat.le_of_ble_eq_true rfl)
  · exact hw.elim
-- X10_slit
def t_X10_slit (p0 : Int32) (p1 : Int32) : Int32 := 3
set_option maxHeartbeats 4000000 in
set_option maxRecDepth 100000 in
theorem c_X10_slit (l : Launch) (hst : l.stackTraces = false) (D : va_G) (e : Nat) (h : Nat) (l1 : Nat) (l2 : Nat) (l3 : Nat) (l4 : Nat) (l5 : Nat) (l6 : Nat) (l7 : Nat) (l8 : Nat) (l9 : Nat) (ch : Nat) (co : Nat) (p0 : Int32) (p1 : Int32) (sz : Nat) : vx_Met l yX10_slit wsX10_slit ({ frames := 14, cells := 1, slots := 6, locals := 280 }) (va_Pc [.ref h, .int p0, .int p1] (cIn D [] [(h, .inr (16, [.ref l1, .ref l2, .ref l3, .ref l4, .ref l5, .ref l6, .ref l7, .ref l8, .ref l9, .ref ch, .ref co, .int 0, .int 4, .int (-40), .int 20, .int 0, .int 0, .int 100, .int 60, .int 14])), (l2, .inr (5, [.int 0, .ref e, .int 0]))] e sz)) (va_Qv (fun (_ : Unit) => False) (fun (_ : Unit) (_ : State) => True) (va_A [(h, .inr (16, [.ref l1, .ref l2, .ref l3, .ref l4, .ref l5, .ref l6, .ref l7, .ref l8, .ref l9, .ref ch, .ref co, .int 0, .int 4, .int (-40), .int 20, .int 0, .int 0, .int 100, .int 60, .int 14])), (l2, .inr (5, [.int 0, .ref e, .int 0]))] sz)) (vx_X (fun _ : Unit => True) (fun (E : String) (_ : Unit) (_ : State) => (E = "java/lang/IndexOutOfBoundsException" ∧ t_X10_slit p0 p1 = 3)) (va_A [(h, .inr (16, [.ref l1, .ref l2, .ref l3, .ref l4, .ref l5, .ref l6, .ref l7, .ref l8, .ref l9, .ref ch, .ref co, .int 0, .int 4, .int (-40), .int 20, .int 0, .int 0, .int 100, .int 60, .int 14])), (l2, .inr (5, [.int 0, .ref e, .int 0]))] sz)) 1 6 (va_A [(h, .inr (16, [.ref l1, .ref l2, .ref l3, .ref l4, .ref l5, .ref l6, .ref l7, .ref l8, .ref l9, .ref ch, .ref co, .int 0, .int 4, .int (-40), .int 20, .int 0, .int 0, .int 100, .int 60, .int 14])), (l2, .inr (5, [.int 0, .ref e, .int 0]))] sz) := by
  refine vx_ofW (cc := cX10_slit) (maxL := 6) (ret := (some .int)) (by decide +kernel) rfl ?_
  intro p e9 s m args below meth c s₁ B hml htb hv
  obtain ⟨rfl, hsz, hP, hK, hD0, hE0⟩ := hv
  have hx := B.exec
  have hb := B.bytes
  have hr := B.returns
  have hts := atoms_spec (ws := wsX10_slit) B.pre
  have hown : s.vm.findClass RX10 = some m.cls := findClass_of_methodNamed B.named
  have hlocks := B.notSynchronized
  subst hsz
  have hD := hD0.self (sz := s.heap.size)
  generalize hAe : va_A [(h, .inr (16, [.ref l1, .ref l2, .ref l3, .ref l4, .ref l5, .ref l6, .ref l7, .ref l8, .ref l9, .ref ch, .ref co, .int 0, .int 4, .int (-40), .int 20, .int 0, .int 0, .int 100, .int 60, .int 14])), (l2, .inr (5, [.int 0, .ref e, .int 0]))] s.heap.size = A at hD hE0 ⊢
  have hA : ∀ q : Nat, s.heap.size ≤ q → A q := fun q h => by rw [← hAe]; exact Or.inr h
  have hS : va_S A s.heap s.heap [] := va_S.rf
  have hE := hE0
  have hP : va_P D vwCl [(h, .inr (16, [.ref l1, .ref l2, .ref l3, .ref l4, .ref l5, .ref l6, .ref l7, .ref l8, .ref l9, .ref ch, .ref co, .int 0, .int 4, .int (-40), .int 20, .int 0, .int 0, .int 100, .int 60, .int 14])), (l2, .inr (5, [.int 0, .ref e, .int 0]))] s.heap := hP
  have hl := lv_entry ([.ref h, .int p0, .int p1]) (n := 6) (Nat.le_of_ble_eq_true rfl)
  rw [lg_entry_eq]
  generalize (lg_sl ([.ref h, .int p0, .int p1]) ++ List.replicate (6 - (lg_sl ([.ref h, .int p0, .int p1])).length) Slot.unset).toArray = ls at hl ⊢
  have hl : lv_has ls 6 [(0, .ref h), (1, .int p0), (2, .int p1)] := hl
  refine lv_aload_n hx hb dX10_slit_0 rfl (lv_at hl 0 rfl) ?_
  refine lv_iload_n hx hb dX10_slit_1 rfl (lv_at hl 1 rfl) ?_
  have hFc := va_free (wc := [(h, .inr (16, [.ref l1, .ref l2, .ref l3, .ref l4, .ref l5, .ref l6, .ref l7, .ref l8, .ref l9, .ref ch, .ref co, .int 0, .int 4, .int (-40), .int 20, .int 0, .int 0, .int 100, .int 60, .int 14])), (l2, .inr (5, [.int 0, .ref e, .int 0]))]) hD hS hA [0, 1] rfl
  refine vx_callv (vx_runV (As := [.int p0]) (rest := []) ⟨hx, hb, hml, hown, hts⟩ (c_X10_coilNumbered l hst D e h l1 l2 l3 l4 l5 l6 l7 l8 l9 ch co p0 s.heap.size) (cwV 1 hts gX10_slit_X10_coilNumbered rfl rfl rfl (by decide +kernel) ⟨Nat.le_of_ble_eq_true rfl, Nat.le_of_ble_eq_true rfl⟩) ⟨cIn_blind, va_recv hK hP (ci := 16) (q0 := 0) rfl rfl, cIn_go hK hP hD hE hS hA [0, 1] rfl rfl (by decide) [] rfl⟩ rfl rfl hl.1 rfl (lv_room (Nat.le_of_ble_eq_true rfl)) dX10_slit_2 ⟨Nat.le_of_ble_eq_true rfl, Nat.le_of_ble_eq_true rfl⟩) hS (fun q _ h => hFc q h) hFc (fun q _ h => hFc q h) (fun E ce q9 u t H1 locs ht hvm hpx hB hz1 hk1 hS hce hcv hcl => ?_) (fun u t H1 locs ht hvm hw hB hz1 hk1 hS => ?_)
  · obtain ⟨rfl, hw⟩ := hB
    exact vx_out (fun x hx => (htb x hx).elim) hlocks hce hcv hcl (fun t9 h9 hal => ⟨(), trivial, ⟨rfl, rfl⟩, hS.F h9⟩) hS.2.2 (Nat.le_of_ble_eq_true rfl) (Nat.le_of_ble_eq_true rfl)
  · exact hw.elim
-- X10_burr
def t_X10_burr (p0 : Int32) : Int32 := 3
set_option maxHeartbeats 4000000 in
set_option maxRecDepth 100000 in
theorem c_X10_burr (l : Launch) (hst : l.stackTraces = false) (D : va_G) (e : Nat) (h : Nat) (l1 : Nat) (l2 : Nat) (l3 : Nat) (l4 : Nat) (l5 : Nat) (l6 : Nat) (l7 : Nat) (l8 : Nat) (l9 : Nat) (ch : Nat) (co : Nat) (p0 : Int32) (sz : Nat) : vx_Met l yX10_burr wsX10_burr ({ frames := 14, cells := 1, slots := 6, locals := 280 }) (va_Pc [.ref h, .int p0] (cIn D [] [(h, .inr (16, [.ref l1, .ref l2, .ref l3, .ref l4, .ref l5, .ref l6, .ref l7, .ref l8, .ref l9, .ref ch, .ref co, .int 0, .int 4, .int (-40), .int 20, .int 0, .int 0, .int 100, .int 60, .int 14])), (l3, .inr (5, [.int 0, .ref e, .int 0]))] e sz)) (va_Qv (fun (_ : Unit) => False) (fun (_ : Unit) (_ : State) => True) (va_A [(h, .inr (16, [.ref l1, .ref l2, .ref l3, .ref l4, .ref l5, .ref l6, .ref l7, .ref l8, .ref l9, .ref ch, .ref co, .int 0, .int 4, .int (-40), .int 20, .int 0, .int 0, .int 100, .int 60, .int 14])), (l3, .inr (5, [.int 0, .ref e, .int 0]))] sz)) (vx_X (fun _ : Unit => True) (fun (E : String) (_ : Unit) (_ : State) => (E = "java/lang/IndexOutOfBoundsException" ∧ t_X10_burr p0 = 3)) (va_A [(h, .inr (16, [.ref l1, .ref l2, .ref l3, .ref l4, .ref l5, .ref l6, .ref l7, .ref l8, .ref l9, .ref ch, .ref co, .int 0, .int 4, .int (-40), .int 20, .int 0, .int 0, .int 100, .int 60, .int 14])), (l3, .inr (5, [.int 0, .ref e, .int 0]))] sz)) 1 6 (va_A [(h, .inr (16, [.ref l1, .ref l2, .ref l3, .ref l4, .ref l5, .ref l6, .ref l7, .ref l8, .ref l9, .ref ch, .ref co, .int 0, .int 4, .int (-40), .int 20, .int 0, .int 0, .int 100, .int 60, .int 14])), (l3, .inr (5, [.int 0, .ref e, .int 0]))] sz) := by
  refine vx_ofW (cc := cX10_burr) (maxL := 2) (ret := (some .int)) (by decide +kernel) rfl ?_
  intro p e9 s m args below meth c s₁ B hml htb hv
  obtain ⟨rfl, hsz, hP, hK, hD0, hE0⟩ := hv
  have hx := B.exec
  have hb := B.bytes
  have hr := B.returns
  have hts := atoms_spec (ws := wsX10_burr) B.pre
  have hown : s.vm.findClass RX10 = some m.cls := findClass_of_methodNamed B.named
  have hlocks := B.notSynchronized
  subst hsz
  have hD := hD0.self (sz := s.heap.size)
  generalize hAe : va_A [(h, .inr (16, [.ref l1, .ref l2, .ref l3, .ref l4, .ref l5, .ref l6, .ref l7, .ref l8, .ref l9, .ref ch, .ref co, .int 0, .int 4, .int (-40), .int 20, .int 0, .int 0, .int 100, .int 60, .int 14])), (l3, .inr (5, [.int 0, .ref e, .int 0]))] s.heap.size = A at hD hE0 ⊢
  have hA : ∀ q : Nat, s.heap.size ≤ q → A q := fun q h => by rw [← hAe]; exact Or.inr h
  have hS : va_S A s.heap s.heap [] := va_S.rf
  have hE := hE0
  have hP : va_P D vwCl [(h, .inr (16, [.ref l1, .ref l2, .ref l3, .ref l4, .ref l5, .ref l6, .ref l7, .ref l8, .ref l9, .ref ch, .ref co, .int 0, .int 4, .int (-40), .int 20, .int 0, .int 0, .int 100, .int 60, .int 14])), (l3, .inr (5, [.int 0, .ref e, .int 0]))] s.heap := hP
  have hl := lv_entry ([.ref h, .int p0]) (n := 2) (Nat.le_of_ble_eq_true rfl)
  rw [lg_entry_eq]
  generalize (lg_sl ([.ref h, .int p0]) ++ List.replicate (2 - (lg_sl ([.ref h, .int p0])).length) Slot.unset).toArray = ls at hl ⊢
  have hl : lv_has ls 2 [(0, .ref h), (1, .int p0)] := hl
  refine lv_aload_n hx hb dX10_burr_0 rfl (lv_at hl 0 rfl) ?_
  refine lv_iload_n hx hb dX10_burr_1 rfl (lv_at hl 1 rfl) ?_
  have hFc := va_free (wc := [(h, .inr (16, [.ref l1, .ref l2, .ref l3, .ref l4, .ref l5, .ref l6, .ref l7, .ref l8, .ref l9, .ref ch, .ref co, .int 0, .int 4, .int (-40), .int 20, .int 0, .int 0, .int 100, .int 60, .int 14])), (l3, .inr (5, [.int 0, .ref e, .int 0]))]) hD hS hA [0, 1] rfl
  refine vx_callv (vx_runV (As := [.int p0]) (rest := []) ⟨hx, hb, hml, hown, hts⟩ (c_X10_ribbonNumbered l hst D e h l1 l2 l3 l4 l5 l6 l7 l8 l9 ch co p0 s.heap.size) (cwV 1 hts gX10_burr_X10_ribbonNumbered rfl rfl rfl (by decide +kernel) ⟨Nat.le_of_ble_eq_true rfl, Nat.le_of_ble_eq_true rfl⟩) ⟨cIn_blind, va_recv hK hP (ci := 16) (q0 := 0) rfl rfl, cIn_go hK hP hD hE hS hA [0, 1] rfl rfl (by decide) [] rfl⟩ rfl rfl hl.1 rfl (lv_room (Nat.le_of_ble_eq_true rfl)) dX10_burr_2 ⟨Nat.le_of_ble_eq_true rfl, Nat.le_of_ble_eq_true rfl⟩) hS (fun q _ h => hFc q h) hFc (fun q _ h => hFc q h) (fun E ce q9 u t H1 locs ht hvm hpx hB hz1 hk1 hS hce hcv hcl => ?_) (fun u t H1 locs ht hvm hw hB hz1 hk1 hS => ?_)
  · obtain ⟨rfl, hw⟩ := hB
    exact vx_out (fun x hx => (htb x hx).elim) hlocks hce hcv hcl (fun t9 h9 hal => ⟨(), trivial, ⟨rfl, rfl⟩, hS.F h9⟩) hS.2.2 (Nat.le_of_ble_eq_true rfl) (Nat.le_of_ble_eq_true rfl)
  · exact hw.elim
-- X10_next
def t_X10_next (p0 : Int32) : Int32 := 3
set_option maxHeartbeats 4000000 in
set_option maxRecDepth 100000 in
theorem c_X10_next (l : Launch) (hst : l.stackTraces = false) (D : va_G) (e : Nat) (h : Nat) (l1 : Nat) (l2 : Nat) (l3 : Nat) (l4 : Nat) (l5 : Nat) (l6 : Nat) (l7 : Nat) (l8 : Nat) (l9 : Nat) (ch : Nat) (co : Nat) (p0 : Int32) (sz : Nat) : vx_Met l yX10_next wsX10_next ({ frames := 14, cells := 1, slots := 6, locals := 280 }) (va_Pc [.ref h, .int p0] (cIn D [] [(h, .inr (16, [.ref l1, .ref l2, .ref l3, .ref l4, .ref l5, .ref l6, .ref l7, .ref l8, .ref l9, .ref ch, .ref co, .int 0, .int 4, .int (-40), .int 20, .int 0, .int 0, .int 100, .int 60, .int 14])), (l3, .inr (5, [.int 0, .ref e, .int 0]))] e sz)) (va_Qv (fun (_ : Unit) => False) (fun (_ : Unit) (_ : State) => True) (va_A [(h, .inr (16, [.ref l1, .ref l2, .ref l3, .ref l4, .ref l5, .ref l6, .ref l7, .ref l8, .ref l9, .ref ch, .ref co, .int 0, .int 4, .int (-40), .int 20, .int 0, .int 0, .int 100, .int 60, .int 14])), (l3, .inr (5, [.int 0, .ref e, .int 0]))] sz)) (vx_X (fun _ : Unit => True) (fun (E : String) (_ : Unit) (_ : State) => (E = "java/lang/IndexOutOfBoundsException" ∧ t_X10_next p0 = 3)) (va_A [(h, .inr (16, [.ref l1, .ref l2, .ref l3, .ref l4, .ref l5, .ref l6, .ref l7, .ref l8, .ref l9, .ref ch, .ref co, .int 0, .int 4, .int (-40), .int 20, .int 0, .int 0, .int 100, .int 60, .int 14])), (l3, .inr (5, [.int 0, .ref e, .int 0]))] sz)) 1 6 (va_A [(h, .inr (16, [.ref l1, .ref l2, .ref l3, .ref l4, .ref l5, .ref l6, .ref l7, .ref l8, .ref l9, .ref ch, .ref co, .int 0, .int 4, .int (-40), .int 20, .int 0, .int 0, .int 100, .int 60, .int 14])), (l3, .inr (5, [.int 0, .ref e, .int 0]))] sz) := by
  refine vx_ofW (cc := cX10_next) (maxL := 2) (ret := (some .int)) (by decide +kernel) rfl ?_
  intro p e9 s m args below meth c s₁ B hml htb hv
  obtain ⟨rfl, hsz, hP, hK, hD0, hE0⟩ := hv
  have hx := B.exec
  have hb := B.bytes
  have hr := B.returns
  have hts := atoms_spec (ws := wsX10_next) B.pre
  have hown : s.vm.findClass RX10 = some m.cls := findClass_of_methodNamed B.named
  have hlocks := B.notSynchronized
  subst hsz
  have hD := hD0.self (sz := s.heap.size)
  generalize hAe : va_A [(h, .inr (16, [.ref l1, .ref l2, .ref l3, .ref l4, .ref l5, .ref l6, .ref l7, .ref l8, .ref l9, .ref ch, .ref co, .int 0, .int 4, .int (-40), .int 20, .int 0, .int 0, .int 100, .int 60, .int 14])), (l3, .inr (5, [.int 0, .ref e, .int 0]))] s.heap.size = A at hD hE0 ⊢
  have hA : ∀ q : Nat, s.heap.size ≤ q → A q := fun q h => by rw [← hAe]; exact Or.inr h
  have hS : va_S A s.heap s.heap [] := va_S.rf
  have hE := hE0
  have hP : va_P D vwCl [(h, .inr (16, [.ref l1, .ref l2, .ref l3, .ref l4, .ref l5, .ref l6, .ref l7, .ref l8, .ref l9, .ref ch, .ref co, .int 0, .int 4, .int (-40), .int 20, .int 0, .int 0, .int 100, .int 60, .int 14])), (l3, .inr (5, [.int 0, .ref e, .int 0]))] s.heap := hP
  have hl := lv_entry ([.ref h, .int p0]) (n := 2) (Nat.le_of_ble_eq_true rfl)
  rw [lg_entry_eq]
  generalize (lg_sl ([.ref h, .int p0]) ++ List.replicate (2 - (lg_sl ([.ref h, .int p0])).length) Slot.unset).toArray = ls at hl ⊢
  have hl : lv_has ls 2 [(0, .ref h), (1, .int p0)] := hl
  refine lv_aload_n hx hb dX10_next_0 rfl (lv_at hl 0 rfl) ?_
  refine lv_iload_n hx hb dX10_next_1 rfl (lv_at hl 1 rfl) ?_
  have hFc := va_free (wc := [(h, .inr (16, [.ref l1, .ref l2, .ref l3, .ref l4, .ref l5, .ref l6, .ref l7, .ref l8, .ref l9, .ref ch, .ref co, .int 0, .int 4, .int (-40), .int 20, .int 0, .int 0, .int 100, .int 60, .int 14])), (l3, .inr (5, [.int 0, .ref e, .int 0]))]) hD hS hA [0, 1] rfl
  refine vx_callv (vx_runV (As := [.int p0]) (rest := []) ⟨hx, hb, hml, hown, hts⟩ (c_X10_ribbonNumbered l hst D e h l1 l2 l3 l4 l5 l6 l7 l8 l9 ch co p0 s.heap.size) (cwV 1 hts gX10_next_X10_ribbonNumbered rfl rfl rfl (by decide +kernel) ⟨Nat.le_of_ble_eq_true rfl, Nat.le_of_ble_eq_true rfl⟩) ⟨cIn_blind, va_recv hK hP (ci := 16) (q0 := 0) rfl rfl, cIn_go hK hP hD hE hS hA [0, 1] rfl rfl (by decide) [] rfl⟩ rfl rfl hl.1 rfl (lv_room (Nat.le_of_ble_eq_true rfl)) dX10_next_2 ⟨Nat.le_of_ble_eq_true rfl, Nat.le_of_ble_eq_true rfl⟩) hS (fun q _ h => hFc q h) hFc (fun q _ h => hFc q h) (fun E ce q9 u t H1 locs ht hvm hpx hB hz1 hk1 hS hce hcv hcl => ?_) (fun u t H1 locs ht hvm hw hB hz1 hk1 hS => ?_)
  · obtain ⟨rfl, hw⟩ := hB
    exact vx_out (fun x hx => (htb x hx).elim) hlocks hce hcv hcl (fun t9 h9 hal => ⟨(), trivial, ⟨rfl, rfl⟩, hS.F h9⟩) hS.2.2 (Nat.le_of_ble_eq_true rfl) (Nat.le_of_ble_eq_true rfl)
  · exact hw.elim
-- X10_wind
def t_X10_wind (p0 : Int32) (p1 : Int32) (p2 : Int32) : Int32 := 3
set_option maxHeartbeats 4000000 in
set_option maxRecDepth 100000 in
theorem c_X10_wind (l : Launch) (hst : l.stackTraces = false) (D : va_G) (e : Nat) (h : Nat) (l1 : Nat) (l2 : Nat) (l3 : Nat) (l4 : Nat) (l5 : Nat) (l6 : Nat) (l7 : Nat) (l8 : Nat) (l9 : Nat) (ch : Nat) (co : Nat) (p0 : Int32) (p1 : Int32) (p2 : Int32) (sz : Nat) : vx_Met l yX10_wind wsX10_wind ({ frames := 14, cells := 1, slots := 6, locals := 280 }) (va_Pc [.ref h, .int p0, .int p1, .int p2] (cIn D [] [(h, .inr (16, [.ref l1, .ref l2, .ref l3, .ref l4, .ref l5, .ref l6, .ref l7, .ref l8, .ref l9, .ref ch, .ref co, .int 0, .int 4, .int (-40), .int 20, .int 0, .int 0, .int 100, .int 60, .int 14])), (l3, .inr (5, [.int 0, .ref e, .int 0]))] e sz)) (va_Qv (fun (_ : Unit) => False) (fun (_ : Unit) (_ : State) => True) (va_A [(h, .inr (16, [.ref l1, .ref l2, .ref l3, .ref l4, .ref l5, .ref l6, .ref l7, .ref l8, .ref l9, .ref ch, .ref co, .int 0, .int 4, .int (-40), .int 20, .int 0, .int 0, .int 100, .int 60, .int 14])), (l3, .inr (5, [.int 0, .ref e, .int 0]))] sz)) (vx_X (fun _ : Unit => True) (fun (E : String) (_ : Unit) (_ : State) => (E = "java/lang/IndexOutOfBoundsException" ∧ t_X10_wind p0 p1 p2 = 3)) (va_A [(h, .inr (16, [.ref l1, .ref l2, .ref l3, .ref l4, .ref l5, .ref l6, .ref l7, .ref l8, .ref l9, .ref ch, .ref co, .int 0, .int 4, .int (-40), .int 20, .int 0, .int 0, .int 100, .int 60, .int 14])), (l3, .inr (5, [.int 0, .ref e, .int 0]))] sz)) 1 6 (va_A [(h, .inr (16, [.ref l1, .ref l2, .ref l3, .ref l4, .ref l5, .ref l6, .ref l7, .ref l8, .ref l9, .ref ch, .ref co, .int 0, .int 4, .int (-40), .int 20, .int 0, .int 0, .int 100, .int 60, .int 14])), (l3, .inr (5, [.int 0, .ref e, .int 0]))] sz) := by
  refine vx_ofW (cc := cX10_wind) (maxL := 12) (ret := (some .int)) (by decide +kernel) rfl ?_
  intro p e9 s m args below meth c s₁ B hml htb hv
  obtain ⟨rfl, hsz, hP, hK, hD0, hE0⟩ := hv
  have hx := B.exec
  have hb := B.bytes
  have hr := B.returns
  have hts := atoms_spec (ws := wsX10_wind) B.pre
  have hown : s.vm.findClass RX10 = some m.cls := findClass_of_methodNamed B.named
  have hlocks := B.notSynchronized
  subst hsz
  have hD := hD0.self (sz := s.heap.size)
  generalize hAe : va_A [(h, .inr (16, [.ref l1, .ref l2, .ref l3, .ref l4, .ref l5, .ref l6, .ref l7, .ref l8, .ref l9, .ref ch, .ref co, .int 0, .int 4, .int (-40), .int 20, .int 0, .int 0, .int 100, .int 60, .int 14])), (l3, .inr (5, [.int 0, .ref e, .int 0]))] s.heap.size = A at hD hE0 ⊢
  have hA : ∀ q : Nat, s.heap.size ≤ q → A q := fun q h => by rw [← hAe]; exact Or.inr h
  have hS : va_S A s.heap s.heap [] := va_S.rf
  have hE := hE0
  have hP : va_P D vwCl [(h, .inr (16, [.ref l1, .ref l2, .ref l3, .ref l4, .ref l5, .ref l6, .ref l7, .ref l8, .ref l9, .ref ch, .ref co, .int 0, .int 4, .int (-40), .int 20, .int 0, .int 0, .int 100, .int 60, .int 14])), (l3, .inr (5, [.int 0, .ref e, .int 0]))] s.heap := hP
  have hl := lv_entry ([.ref h, .int p0, .int p1, .int p2]) (n := 12) (Nat.le_of_ble_eq_true rfl)
  rw [lg_entry_eq]
  generalize (lg_sl ([.ref h, .int p0, .int p1, .int p2]) ++ List.replicate (12 - (lg_sl ([.ref h, .int p0, .int p1, .int p2])).length) Slot.unset).toArray = ls at hl ⊢
  have hl : lv_has ls 12 [(0, .ref h), (1, .int p0), (2, .int p1), (3, .int p2)] := hl
  refine lv_aload_n hx hb dX10_wind_0 rfl (lv_at hl 0 rfl) ?_
  refine lv_iload_n hx hb dX10_wind_1 rfl (lv_at hl 1 rfl) ?_
  have hFc := va_free (wc := [(h, .inr (16, [.ref l1, .ref l2, .ref l3, .ref l4, .ref l5, .ref l6, .ref l7, .ref l8, .ref l9, .ref ch, .ref co, .int 0, .int 4, .int (-40), .int 20, .int 0, .int 0, .int 100, .int 60, .int 14])), (l3, .inr (5, [.int 0, .ref e, .int 0]))]) hD hS hA [0, 1] rfl
  refine vx_callv (vx_runV (As := [.int p0]) (rest := []) ⟨hx, hb, hml, hown, hts⟩ (c_X10_ribbonNumbered l hst D e h l1 l2 l3 l4 l5 l6 l7 l8 l9 ch co p0 s.heap.size) (cwV 1 hts gX10_wind_X10_ribbonNumbered rfl rfl rfl (by decide +kernel) ⟨Nat.le_of_ble_eq_true rfl, Nat.le_of_ble_eq_true rfl⟩) ⟨cIn_blind, va_recv hK hP (ci := 16) (q0 := 0) rfl rfl, cIn_go hK hP hD hE hS hA [0, 1] rfl rfl (by decide) [] rfl⟩ rfl rfl hl.1 rfl (lv_room (Nat.le_of_ble_eq_true rfl)) dX10_wind_2 ⟨Nat.le_of_ble_eq_true rfl, Nat.le_of_ble_eq_true rfl⟩) hS (fun q _ h => hFc q h) hFc (fun q _ h => hFc q h) (fun E ce q9 u t H1 locs ht hvm hpx hB hz1 hk1 hS hce hcv hcl => ?_) (fun u t H1 locs ht hvm hw hB hz1 hk1 hS => ?_)
  · obtain ⟨rfl, hw⟩ := hB
    exact vx_out (fun x hx => (htb x hx).elim) hlocks hce hcv hcl (fun t9 h9 hal => ⟨(), trivial, ⟨rfl, rfl⟩, hS.F h9⟩) hS.2.2 (Nat.le_of_ble_eq_true rfl) (Nat.le_of_ble_eq_true rfl)
  · exact hw.elim
-- X10_cellAt
def t_X10_cellAt (p0 : Int32) (p1 : Int32) : Int32 := 3
set_option maxHeartbeats 4000000 in
set_option maxRecDepth 100000 in
theorem c_X10_cellAt (l : Launch) (hst : l.stackTraces = false) (D : va_G) (e : Nat) (h : Nat) (l1 : Nat) (l2 : Nat) (l3 : Nat) (l4 : Nat) (l5 : Nat) (l6 : Nat) (l7 : Nat) (l8 : Nat) (l9 : Nat) (ch : Nat) (co : Nat) (p0 : Int32) (p1 : Int32) (sz : Nat) : vx_Met l yX10_cellAt wsX10_cellAt ({ frames := 14, cells := 1, slots := 6, locals := 280 }) (va_Pc [.ref h, .int p0, .int p1] (cIn D [] [(h, .inr (16, [.ref l1, .ref l2, .ref l3, .ref l4, .ref l5, .ref l6, .ref l7, .ref l8, .ref l9, .ref ch, .ref co, .int 0, .int 4, .int (-40), .int 20, .int 0, .int 0, .int 100, .int 60, .int 14])), (l4, .inr (5, [.int 0, .ref e, .int 0]))] e sz)) (va_Qv (fun (_ : Unit) => False) (fun (_ : Unit) (_ : State) => True) (va_A [(h, .inr (16, [.ref l1, .ref l2, .ref l3, .ref l4, .ref l5, .ref l6, .ref l7, .ref l8, .ref l9, .ref ch, .ref co, .int 0, .int 4, .int (-40), .int 20, .int 0, .int 0, .int 100, .int 60, .int 14])), (l4, .inr (5, [.int 0, .ref e, .int 0]))] sz)) (vx_X (fun _ : Unit => True) (fun (E : String) (_ : Unit) (_ : State) => (E = "java/lang/IndexOutOfBoundsException" ∧ t_X10_cellAt p0 p1 = 3)) (va_A [(h, .inr (16, [.ref l1, .ref l2, .ref l3, .ref l4, .ref l5, .ref l6, .ref l7, .ref l8, .ref l9, .ref ch, .ref co, .int 0, .int 4, .int (-40), .int 20, .int 0, .int 0, .int 100, .int 60, .int 14])), (l4, .inr (5, [.int 0, .ref e, .int 0]))] sz)) 1 6 (va_A [(h, .inr (16, [.ref l1, .ref l2, .ref l3, .ref l4, .ref l5, .ref l6, .ref l7, .ref l8, .ref l9, .ref ch, .ref co, .int 0, .int 4, .int (-40), .int 20, .int 0, .int 0, .int 100, .int 60, .int 14])), (l4, .inr (5, [.int 0, .ref e, .int 0]))] sz) := by
  refine vx_ofW (cc := cX10_cellAt) (maxL := 4) (ret := (some .int)) (by decide +kernel) rfl ?_
  intro p e9 s m args below meth c s₁ B hml htb hv
  obtain ⟨rfl, hsz, hP, hK, hD0, hE0⟩ := hv
  have hx := B.exec
  have hb := B.bytes
  have hr := B.returns
  have hts := atoms_spec (ws := wsX10_cellAt) B.pre
  have hown : s.vm.findClass RX10 = some m.cls := findClass_of_methodNamed B.named
  have hlocks := B.notSynchronized
  subst hsz
  have hD := hD0.self (sz := s.heap.size)
  generalize hAe : va_A [(h, .inr (16, [.ref l1, .ref l2, .ref l3, .ref l4, .ref l5, .ref l6, .ref l7, .ref l8, .ref l9, .ref ch, .ref co, .int 0, .int 4, .int (-40), .int 20, .int 0, .int 0, .int 100, .int 60, .int 14])), (l4, .inr (5, [.int 0, .ref e, .int 0]))] s.heap.size = A at hD hE0 ⊢
  have hA : ∀ q : Nat, s.heap.size ≤ q → A q := fun q h => by rw [← hAe]; exact Or.inr h
  have hS : va_S A s.heap s.heap [] := va_S.rf
  have hE := hE0
  have hP : va_P D vwCl [(h, .inr (16, [.ref l1, .ref l2, .ref l3, .ref l4, .ref l5, .ref l6, .ref l7, .ref l8, .ref l9, .ref ch, .ref co, .int 0, .int 4, .int (-40), .int 20, .int 0, .int 0, .int 100, .int 60, .int 14])), (l4, .inr (5, [.int 0, .ref e, .int 0]))] s.heap := hP
  have hl := lv_entry ([.ref h, .int p0, .int p1]) (n := 4) (Nat.le_of_ble_eq_true rfl)
  rw [lg_entry_eq]
  generalize (lg_sl ([.ref h, .int p0, .int p1]) ++ List.replicate (4 - (lg_sl ([.ref h, .int p0, .int p1])).length) Slot.unset).toArray = ls at hl ⊢
  have hl : lv_has ls 4 [(0, .ref h), (1, .int p0), (2, .int p1)] := hl
  refine lv_aload_n hx hb dX10_cellAt_0 rfl (lv_at hl 0 rfl) ?_
  refine lv_iload_n hx hb dX10_cellAt_1 rfl (lv_at hl 1 rfl) ?_
  have hFc := va_free (wc := [(h, .inr (16, [.ref l1, .ref l2, .ref l3, .ref l4, .ref l5, .ref l6, .ref l7, .ref l8, .ref l9, .ref ch, .ref co, .int 0, .int 4, .int (-40), .int 20, .int 0, .int 0, .int 100, .int 60, .int 14])), (l4, .inr (5, [.int 0, .ref e, .int 0]))]) hD hS hA [0, 1] rfl
  refine vx_callv (vx_runV (As := [.int p0]) (rest := []) ⟨hx, hb, hml, hown, hts⟩ (c_X10_cellNumbered l hst D e h l1 l2 l3 l4 l5 l6 l7 l8 l9 ch co p0 s.heap.size) (cwV 1 hts gX10_cellAt_X10_cellNumbered rfl rfl rfl (by decide +kernel) ⟨Nat.le_of_ble_eq_true rfl, Nat.le_of_ble_eq_true rfl⟩) ⟨cIn_blind, va_recv hK hP (ci := 16) (q0 := 0) rfl rfl, cIn_go hK hP hD hE hS hA [0, 1] rfl rfl (by decide) [] rfl⟩ rfl rfl hl.1 rfl (lv_room (Nat.le_of_ble_eq_true rfl)) dX10_cellAt_2 ⟨Nat.le_of_ble_eq_true rfl, Nat.le_of_ble_eq_true rfl⟩) hS (fun q _ h => hFc q h) hFc (fun q _ h => hFc q h) (fun E ce q9 u t H1 locs ht hvm hpx hB hz1 hk1 hS hce hcv hcl => ?_) (fun u t H1 locs ht hvm hw hB hz1 hk1 hS => ?_)
  · obtain ⟨rfl, hw⟩ := hB
    exact vx_out (fun x hx => (htb x hx).elim) hlocks hce hcv hcl (fun t9 h9 hal => ⟨(), trivial, ⟨rfl, rfl⟩, hS.F h9⟩) hS.2.2 (Nat.le_of_ble_eq_true rfl) (Nat.le_of_ble_eq_true rfl)
  · exact hw.elim
-- X10_isShort
def t_X10_isShort (p0 : Int32) : Int32 := 3
set_option maxHeartbeats 4000000 in
set_option maxRecDepth 100000 in
theorem c_X10_isShort (l : Launch) (hst : l.stackTraces = false) (D : va_G) (e : Nat) (h : Nat) (l1 : Nat) (l2 : Nat) (l3 : Nat) (l4 : Nat) (l5 : Nat) (l6 : Nat) (l7 : Nat) (l8 : Nat) (l9 : Nat) (ch : Nat) (co : Nat) (p0 : Int32) (sz : Nat) : vx_Met l yX10_isShort wsX10_isShort ({ frames := 14, cells := 1, slots := 6, locals := 280 }) (va_Pc [.ref h, .int p0] (cIn D [] [(h, .inr (16, [.ref l1, .ref l2, .ref l3, .ref l4, .ref l5, .ref l6, .ref l7, .ref l8, .ref l9, .ref ch, .ref co, .int 0, .int 4, .int (-40), .int 20, .int 0, .int 0, .int 100, .int 60, .int 14])), (l4, .inr (5, [.int 0, .ref e, .int 0]))] e sz)) (va_Qv (fun (_ : Unit) => False) (fun (_ : Unit) (_ : State) => True) (va_A [(h, .inr (16, [.ref l1, .ref l2, .ref l3, .ref l4, .ref l5, .ref l6, .ref l7, .ref l8, .ref l9, .ref ch, .ref co, .int 0, .int 4, .int (-40), .int 20, .int 0, .int 0, .int 100, .int 60, .int 14])), (l4, .inr (5, [.int 0, .ref e, .int 0]))] sz)) (vx_X (fun _ : Unit => True) (fun (E : String) (_ : Unit) (_ : State) => (E = "java/lang/IndexOutOfBoundsException" ∧ t_X10_isShort p0 = 3)) (va_A [(h, .inr (16, [.ref l1, .ref l2, .ref l3, .ref l4, .ref l5, .ref l6, .ref l7, .ref l8, .ref l9, .ref ch, .ref co, .int 0, .int 4, .int (-40), .int 20, .int 0, .int 0, .int 100, .int 60, .int 14])), (l4, .inr (5, [.int 0, .ref e, .int 0]))] sz)) 1 6 (va_A [(h, .inr (16, [.ref l1, .ref l2, .ref l3, .ref l4, .ref l5, .ref l6, .ref l7, .ref l8, .ref l9, .ref ch, .ref co, .int 0, .int 4, .int (-40), .int 20, .int 0, .int 0, .int 100, .int 60, .int 14])), (l4, .inr (5, [.int 0, .ref e, .int 0]))] sz) := by
  refine vx_ofW (cc := cX10_isShort) (maxL := 2) (ret := (some .boolean)) (by decide +kernel) rfl ?_
  intro p e9 s m args below meth c s₁ B hml htb hv
  obtain ⟨rfl, hsz, hP, hK, hD0, hE0⟩ := hv
  have hx := B.exec
  have hb := B.bytes
  have hr := B.returns
  have hts := atoms_spec (ws := wsX10_isShort) B.pre
  have hown : s.vm.findClass RX10 = some m.cls := findClass_of_methodNamed B.named
  have hlocks := B.notSynchronized
  subst hsz
  have hD := hD0.self (sz := s.heap.size)
  generalize hAe : va_A [(h, .inr (16, [.ref l1, .ref l2, .ref l3, .ref l4, .ref l5, .ref l6, .ref l7, .ref l8, .ref l9, .ref ch, .ref co, .int 0, .int 4, .int (-40), .int 20, .int 0, .int 0, .int 100, .int 60, .int 14])), (l4, .inr (5, [.int 0, .ref e, .int 0]))] s.heap.size = A at hD hE0 ⊢
  have hA : ∀ q : Nat, s.heap.size ≤ q → A q := fun q h => by rw [← hAe]; exact Or.inr h
  have hS : va_S A s.heap s.heap [] := va_S.rf
  have hE := hE0
  have hP : va_P D vwCl [(h, .inr (16, [.ref l1, .ref l2, .ref l3, .ref l4, .ref l5, .ref l6, .ref l7, .ref l8, .ref l9, .ref ch, .ref co, .int 0, .int 4, .int (-40), .int 20, .int 0, .int 0, .int 100, .int 60, .int 14])), (l4, .inr (5, [.int 0, .ref e, .int 0]))] s.heap := hP
  have hl := lv_entry ([.ref h, .int p0]) (n := 2) (Nat.le_of_ble_eq_true rfl)
  rw [lg_entry_eq]
  generalize (lg_sl ([.ref h, .int p0]) ++ List.replicate (2 - (lg_sl ([.ref h, .int p0])).length) Slot.unset).toArray = ls at hl ⊢
  have hl : lv_has ls 2 [(0, .ref h), (1, .int p0)] := hl
  refine lv_aload_n hx hb dX10_isShort_0 rfl (lv_at hl 0 rfl) ?_
  refine lv_iload_n hx hb dX10_isShort_1 rfl (lv_at hl 1 rfl) ?_
  have hFc := va_free (wc := [(h, .inr (16, [.ref l1, .ref l2, .ref l3, .ref l4, .ref l5, .ref l6, .ref l7, .ref l8, .ref l9, .ref ch, .ref co, .int 0, .int 4, .int (-40), .int 20, .int 0, .int 0, .int 100, .int 60, .int 14])), (l4, .inr (5, [.int 0, .ref e, .int 0]))]) hD hS hA [0, 1] rfl
  refine vx_callv (vx_runV (As := [.int p0]) (rest := []) ⟨hx, hb, hml, hown, hts⟩ (c_X10_cellNumbered l hst D e h l1 l2 l3 l4 l5 l6 l7 l8 l9 ch co p0 s.heap.size) (cwV 1 hts gX10_isShort_X10_cellNumbered rfl rfl rfl (by decide +kernel) ⟨Nat.le_of_ble_eq_true rfl, Nat.le_of_ble_eq_true rfl⟩) ⟨cIn_blind, va_recv hK hP (ci := 16) (q0 := 0) rfl rfl, cIn_go hK hP hD hE hS hA [0, 1] rfl rfl (by decide) [] rfl⟩ rfl rfl hl.1 rfl (lv_room (Nat.le_of_ble_eq_true rfl)) dX10_isShort_2 ⟨Nat.le_of_ble_eq_true rfl, Nat.le_of_ble_eq_true rfl⟩) hS (fun q _ h => hFc q h) hFc (fun q _ h => hFc q h) (fun E ce q9 u t H1 locs ht hvm hpx hB hz1 hk1 hS hce hcv hcl => ?_) (fun u t H1 locs ht hvm hw hB hz1 hk1 hS => ?_)
  · obtain ⟨rfl, hw⟩ := hB
    exact vx_out (fun x hx => (htb x hx).elim) hlocks hce hcv hcl (fun t9 h9 hal => ⟨(), trivial, ⟨rfl, rfl⟩, hS.F h9⟩) hS.2.2 (Nat.le_of_ble_eq_true rfl) (Nat.le_of_ble_eq_true rfl)
  · exact hw.elim
-- X10_isPlated
def t_X10_isPlated (p0 : Int32) : Int32 := 3
set_option maxHeartbeats 4000000 in
set_option maxRecDepth 100000 in
theorem c_X10_isPlated (l : Launch) (hst : l.stackTraces = false) (D : va_G) (e : Nat) (h : Nat) (l1 : Nat) (l2 : Nat) (l3 : Nat) (l4 : Nat) (l5 : Nat) (l6 : Nat) (l7 : Nat) (l8 : Nat) (l9 : Nat) (ch : Nat) (co : Nat) (p0 : Int32) (sz : Nat) : vx_Met l yX10_isPlated wsX10_isPlated ({ frames := 14, cells := 1, slots := 6, locals := 280 }) (va_Pc [.ref h, .int p0] (cIn D [] [(h, .inr (16, [.ref l1, .ref l2, .ref l3, .ref l4, .ref l5, .ref l6, .ref l7, .ref l8, .ref l9, .ref ch, .ref co, .int 0, .int 4, .int (-40), .int 20, .int 0, .int 0, .int 100, .int 60, .int 14])), (l4, .inr (5, [.int 0, .ref e, .int 0]))] e sz)) (va_Qv (fun (_ : Unit) => False) (fun (_ : Unit) (_ : State) => True) (va_A [(h, .inr (16, [.ref l1, .ref l2, .ref l3, .ref l4, .ref l5, .ref l6, .ref l7, .ref l8, .ref l9, .ref ch, .ref co, .int 0, .int 4, .int (-40), .int 20, .int 0, .int 0, .int 100, .int 60, .int 14])), (l4, .inr (5, [.int 0, .ref e, .int 0]))] sz)) (vx_X (fun _ : Unit => True) (fun (E : String) (_ : Unit) (_ : State) => (E = "java/lang/IndexOutOfBoundsException" ∧ t_X10_isPlated p0 = 3)) (va_A [(h, .inr (16, [.ref l1, .ref l2, .ref l3, .ref l4, .ref l5, .ref l6, .ref l7, .ref l8, .ref l9, .ref ch, .ref co, .int 0, .int 4, .int (-40), .int 20, .int 0, .int 0, .int 100, .int 60, .int 14])), (l4, .inr (5, [.int 0, .ref e, .int 0]))] sz)) 1 6 (va_A [(h, .inr (16, [.ref l1, .ref l2, .ref l3, .ref l4, .ref l5, .ref l6, .ref l7, .ref l8, .ref l9, .ref ch, .ref co, .int 0, .int 4, .int (-40), .int 20, .int 0, .int 0, .int 100, .int 60, .int 14])), (l4, .inr (5, [.int 0, .ref e, .int 0]))] sz) := by
  refine vx_ofW (cc := cX10_isPlated) (maxL := 2) (ret := (some .boolean)) (by decide +kernel) rfl ?_
  intro p e9 s m args below meth c s₁ B hml htb hv
  obtain ⟨rfl, hsz, hP, hK, hD0, hE0⟩ := hv
  have hx := B.exec
  have hb := B.bytes
  have hr := B.returns
  have hts := atoms_spec (ws := wsX10_isPlated) B.pre
  have hown : s.vm.findClass RX10 = some m.cls := findClass_of_methodNamed B.named
  have hlocks := B.notSynchronized
  subst hsz
  have hD := hD0.self (sz := s.heap.size)
  generalize hAe : va_A [(h, .inr (16, [.ref l1, .ref l2, .ref l3, .ref l4, .ref l5, .ref l6, .ref l7, .ref l8, .ref l9, .ref ch, .ref co, .int 0, .int 4, .int (-40), .int 20, .int 0, .int 0, .int 100, .int 60, .int 14])), (l4, .inr (5, [.int 0, .ref e, .int 0]))] s.heap.size = A at hD hE0 ⊢
  have hA : ∀ q : Nat, s.heap.size ≤ q → A q := fun q h => by rw [← hAe]; exact Or.inr h
  have hS : va_S A s.heap s.heap [] := va_S.rf
  have hE := hE0
  have hP : va_P D vwCl [(h, .inr (16, [.ref l1, .ref l2, .ref l3, .ref l4, .ref l5, .ref l6, .ref l7, .ref l8, .ref l9, .ref ch, .ref co, .int 0, .int 4, .int (-40), .int 20, .int 0, .int 0, .int 100, .int 60, .int 14])), (l4, .inr (5, [.int 0, .ref e, .int 0]))] s.heap := hP
  have hl := lv_entry ([.ref h, .int p0]) (n := 2) (Nat.le_of_ble_eq_true rfl)
  rw [lg_entry_eq]
  generalize (lg_sl ([.ref h, .int p0]) ++ List.replicate (2 - (lg_sl ([.ref h, .int p0])).length) Slot.unset).toArray = ls at hl ⊢
  have hl : lv_has ls 2 [(0, .ref h), (1, .int p0)] := hl
  refine lv_aload_n hx hb dX10_isPlated_0 rfl (lv_at hl 0 rfl) ?_
  refine lv_iload_n hx hb dX10_isPlated_1 rfl (lv_at hl 1 rfl) ?_
  have hFc := va_free (wc := [(h, .inr (16, [.ref l1, .ref l2, .ref l3, .ref l4, .ref l5, .ref l6, .ref l7, .ref l8, .ref l9, .ref ch, .ref co, .int 0, .int 4, .int (-40), .int 20, .int 0, .int 0, .int 100, .int 60, .int 14])), (l4, .inr (5, [.int 0, .ref e, .int 0]))]) hD hS hA [0, 1] rfl
  refine vx_callv (vx_runV (As := [.int p0]) (rest := []) ⟨hx, hb, hml, hown, hts⟩ (c_X10_cellNumbered l hst D e h l1 l2 l3 l4 l5 l6 l7 l8 l9 ch co p0 s.heap.size) (cwV 1 hts gX10_isPlated_X10_cellNumbered rfl rfl rfl (by decide +kernel) ⟨Nat.le_of_ble_eq_true rfl, Nat.le_of_ble_eq_true rfl⟩) ⟨cIn_blind, va_recv hK hP (ci := 16) (q0 := 0) rfl rfl, cIn_go hK hP hD hE hS hA [0, 1] rfl rfl (by decide) [] rfl⟩ rfl rfl hl.1 rfl (lv_room (Nat.le_of_ble_eq_true rfl)) dX10_isPlated_2 ⟨Nat.le_of_ble_eq_true rfl, Nat.le_of_ble_eq_true rfl⟩) hS (fun q _ h => hFc q h) hFc (fun q _ h => hFc q h) (fun E ce q9 u t H1 locs ht hvm hpx hB hz1 hk1 hS hce hcv hcl => ?_) (fun u t H1 locs ht hvm hw hB hz1 hk1 hS => ?_)
  · obtain ⟨rfl, hw⟩ := hB
    exact vx_out (fun x hx => (htb x hx).elim) hlocks hce hcv hcl (fun t9 h9 hal => ⟨(), trivial, ⟨rfl, rfl⟩, hS.F h9⟩) hS.2.2 (Nat.le_of_ble_eq_true rfl) (Nat.le_of_ble_eq_true rfl)
  · exact hw.elim
-- X10_traced
def t_X10_traced (p0 : Int32) (p1 : Int32) (p2 : Int32) : Int32 := 3
set_option maxHeartbeats 4000000 in
set_option maxRecDepth 100000 in
theorem c_X10_traced (l : Launch) (hst : l.stackTraces = false) (D : va_G) (e : Nat) (h : Nat) (l1 : Nat) (l2 : Nat) (l3 : Nat) (l4 : Nat) (l5 : Nat) (l6 : Nat) (l7 : Nat) (l8 : Nat) (l9 : Nat) (ch : Nat) (co : Nat) (p0 : Int32) (p1 : Int32) (p2 : Int32) (sz : Nat) : vx_Met l yX10_traced wsX10_traced ({ frames := 14, cells := 1, slots := 6, locals := 280 }) (va_Pc [.ref h, .int p0, .int p1, .int p2] (cIn D [] [(h, .inr (16, [.ref l1, .ref l2, .ref l3, .ref l4, .ref l5, .ref l6, .ref l7, .ref l8, .ref l9, .ref ch, .ref co, .int 0, .int 4, .int (-40), .int 20, .int 0, .int 0, .int 100, .int 60, .int 14])), (l4, .inr (5, [.int 0, .ref e, .int 0]))] e sz)) (va_Qv (fun (_ : Unit) => False) (fun (_ : Unit) (_ : State) => True) (va_A [(h, .inr (16, [.ref l1, .ref l2, .ref l3, .ref l4, .ref l5, .ref l6, .ref l7, .ref l8, .ref l9, .ref ch, .ref co, .int 0, .int 4, .int (-40), .int 20, .int 0, .int 0, .int 100, .int 60, .int 14])), (l4, .inr (5, [.int 0, .ref e, .int 0]))] sz)) (vx_X (fun _ : Unit => True) (fun (E : String) (_ : Unit) (_ : State) => (E = "java/lang/IndexOutOfBoundsException" ∧ t_X10_traced p0 p1 p2 = 3)) (va_A [(h, .inr (16, [.ref l1, .ref l2, .ref l3, .ref l4, .ref l5, .ref l6, .ref l7, .ref l8, .ref l9, .ref ch, .ref co, .int 0, .int 4, .int (-40), .int 20, .int 0, .int 0, .int 100, .int 60, .int 14])), (l4, .inr (5, [.int 0, .ref e, .int 0]))] sz)) 1 6 (va_A [(h, .inr (16, [.ref l1, .ref l2, .ref l3, .ref l4, .ref l5, .ref l6, .ref l7, .ref l8, .ref l9, .ref ch, .ref co, .int 0, .int 4, .int (-40), .int 20, .int 0, .int 0, .int 100, .int 60, .int 14])), (l4, .inr (5, [.int 0, .ref e, .int 0]))] sz) := by
  refine vx_ofW (cc := cX10_traced) (maxL := 6) (ret := (some .int)) (by decide +kernel) rfl ?_
  intro p e9 s m args below meth c s₁ B hml htb hv
  obtain ⟨rfl, hsz, hP, hK, hD0, hE0⟩ := hv
  have hx := B.exec
  have hb := B.bytes
  have hr := B.returns
  have hts := atoms_spec (ws := wsX10_traced) B.pre
  have hown : s.vm.findClass RX10 = some m.cls := findClass_of_methodNamed B.named
  have hlocks := B.notSynchronized
  subst hsz
  have hD := hD0.self (sz := s.heap.size)
  generalize hAe : va_A [(h, .inr (16, [.ref l1, .ref l2, .ref l3, .ref l4, .ref l5, .ref l6, .ref l7, .ref l8, .ref l9, .ref ch, .ref co, .int 0, .int 4, .int (-40), .int 20, .int 0, .int 0, .int 100, .int 60, .int 14])), (l4, .inr (5, [.int 0, .ref e, .int 0]))] s.heap.size = A at hD hE0 ⊢
  have hA : ∀ q : Nat, s.heap.size ≤ q → A q := fun q h => by rw [← hAe]; exact Or.inr h
  have hS : va_S A s.heap s.heap [] := va_S.rf
  have hE := hE0
  have hP : va_P D vwCl [(h, .inr (16, [.ref l1, .ref l2, .ref l3, .ref l4, .ref l5, .ref l6, .ref l7, .ref l8, .ref l9, .ref ch, .ref co, .int 0, .int 4, .int (-40), .int 20, .int 0, .int 0, .int 100, .int 60, .int 14])), (l4, .inr (5, [.int 0, .ref e, .int 0]))] s.heap := hP
  have hl := lv_entry ([.ref h, .int p0, .int p1, .int p2]) (n := 6) (Nat.le_of_ble_eq_true rfl)
  rw [lg_entry_eq]
  generalize (lg_sl ([.ref h, .int p0, .int p1, .int p2]) ++ List.replicate (6 - (lg_sl ([.ref h, .int p0, .int p1, .int p2])).length) Slot.unset).toArray = ls at hl ⊢
  have hl : lv_has ls 6 [(0, .ref h), (1, .int p0), (2, .int p1), (3, .int p2)] := hl
  refine lv_aload_n hx hb dX10_traced_0 rfl (lv_at hl 0 rfl) ?_
  refine lv_iload_n hx hb dX10_traced_1 rfl (lv_at hl 1 rfl) ?_
  have hFc := va_free (wc := [(h, .inr (16, [.ref l1, .ref l2, .ref l3, .ref l4, .ref l5, .ref l6, .ref l7, .ref l8, .ref l9, .ref ch, .ref co, .int 0, .int 4, .int (-40), .int 20, .int 0, .int 0, .int 100, .int 60, .int 14])), (l4, .inr (5, [.int 0, .ref e, .int 0]))]) hD hS hA [0, 1] rfl
  refine vx_callv (vx_runV (As := [.int p0]) (rest := []) ⟨hx, hb, hml, hown, hts⟩ (c_X10_cellNumbered l hst D e h l1 l2 l3 l4 l5 l6 l7 l8 l9 ch co p0 s.heap.size) (cwV 1 hts gX10_traced_X10_cellNumbered rfl rfl rfl (by decide +kernel) ⟨Nat.le_of_ble_eq_true rfl, Nat.le_of_ble_eq_true rfl⟩) ⟨cIn_blind, va_recv hK hP (ci := 16) (q0 := 0) rfl rfl, cIn_go hK hP hD hE hS hA [0, 1] rfl rfl (by decide) [] rfl⟩ rfl rfl hl.1 rfl (lv_room (Nat.le_of_ble_eq_true rfl)) dX10_traced_2 ⟨Nat.le_of_ble_eq_true rfl, Nat.le_of_ble_eq_true rfl⟩) hS (fun q _ h => hFc q h) hFc (fun q _ h => hFc q h) (fun E ce q9 u t H1 locs ht hvm hpx hB hz1 hk1 hS hce hcv hcl => ?_) (fun u t H1 locs ht hvm hw hB hz1 hk1 hS => ?_)
  · obtain ⟨rfl, hw⟩ := hB
    exact vx_out (fun x hx => (htb x hx).elim) hlocks hce hcv hcl (fun t9 h9 hal => ⟨(), trivial, ⟨rfl, rfl⟩, hS.F h9⟩) hS.2.2 (Nat.le_of_ble_eq_true rfl) (Nat.le_of_ble_eq_true rfl)
  · exact hw.elim
-- X10_fill
def t_X10_fill (p0 : Int32) (p1 : Int32) : Int32 := 3
set_option maxHeartbeats 4000000 in
set_option maxRecDepth 100000 in
theorem c_X10_fill (l : Launch) (hst : l.stackTraces = false) (D : va_G) (e : Nat) (h : Nat) (l1 : Nat) (l2 : Nat) (l3 : Nat) (l4 : Nat) (l5 : Nat) (l6 : Nat) (l7 : Nat) (l8 : Nat) (l9 : Nat) (ch : Nat) (co : Nat) (p0 : Int32) (p1 : Int32) (sz : Nat) : vx_Met l yX10_fill wsX10_fill ({ frames := 14, cells := 1, slots := 6, locals := 280 }) (va_Pc [.ref h, .int p0, .int p1] (cIn D [] [(h, .inr (16, [.ref l1, .ref l2, .ref l3, .ref l4, .ref l5, .ref l6, .ref l7, .ref l8, .ref l9, .ref ch, .ref co, .int 0, .int 4, .int (-40), .int 20, .int 0, .int 0, .int 100, .int 60, .int 14])), (l4, .inr (5, [.int 0, .ref e, .int 0]))] e sz)) (va_Qv (fun (_ : Unit) => False) (fun (_ : Unit) (_ : State) => True) (va_A [(h, .inr (16, [.ref l1, .ref l2, .ref l3, .ref l4, .ref l5, .ref l6, .ref l7, .ref l8, .ref l9, .ref ch, .ref co, .int 0, .int 4, .int (-40), .int 20, .int 0, .int 0, .int 100, .int 60, .int 14])), (l4, .inr (5, [.int 0, .ref e, .int 0]))] sz)) (vx_X (fun _ : Unit => True) (fun (E : String) (_ : Unit) (_ : State) => (E = "java/lang/IndexOutOfBoundsException" ∧ t_X10_fill p0 p1 = 3)) (va_A [(h, .inr (16, [.ref l1, .ref l2, .ref l3, .ref l4, .ref l5, .ref l6, .ref l7, .ref l8, .ref l9, .ref ch, .ref co, .int 0, .int 4, .int (-40), .int 20, .int 0, .int 0, .int 100, .int 60, .int 14])), (l4, .inr (5, [.int 0, .ref e, .int 0]))] sz)) 1 6 (va_A [(h, .inr (16, [.ref l1, .ref l2, .ref l3, .ref l4, .ref l5, .ref l6, .ref l7, .ref l8, .ref l9, .ref ch, .ref co, .int 0, .int 4, .int (-40), .int 20, .int 0, .int 0, .int 100, .int 60, .int 14])), (l4, .inr (5, [.int 0, .ref e, .int 0]))] sz) := by
  refine vx_ofW (cc := cX10_fill) (maxL := 4) (ret := (some .int)) (by decide +kernel) rfl ?_
  intro p e9 s m args below meth c s₁ B hml htb hv
  obtain ⟨rfl, hsz, hP, hK, hD0, hE0⟩ := hv
  have hx := B.exec
  have hb := B.bytes
  have hr := B.returns
  have hts := atoms_spec (ws := wsX10_fill) B.pre
  have hown : s.vm.findClass RX10 = some m.cls := findClass_of_methodNamed B.named
  have hlocks := B.notSynchronized
  subst hsz
  have hD := hD0.self (sz := s.heap.size)
  generalize hAe : va_A [(h, .inr (16, [.ref l1, .ref l2, .ref l3, .ref l4, .ref l5, .ref l6, .ref l7, .ref l8, .ref l9, .ref ch, .ref co, .int 0, .int 4, .int (-40), .int 20, .int 0, .int 0, .int 100, .int 60, .int 14])), (l4, .inr (5, [.int 0, .ref e, .int 0]))] s.heap.size = A at hD hE0 ⊢
  have hA : ∀ q : Nat, s.heap.size ≤ q → A q := fun q h => by rw [← hAe]; exact Or.inr h
  have hS : va_S A s.heap s.heap [] := va_S.rf
  have hE := hE0
  have hP : va_P D vwCl [(h, .inr (16, [.ref l1, .ref l2, .ref l3, .ref l4, .ref l5, .ref l6, .ref l7, .ref l8, .ref l9, .ref ch, .ref co, .int 0, .int 4, .int (-40), .int 20, .int 0, .int 0, .int 100, .int 60, .int 14])), (l4, .inr (5, [.int 0, .ref e, .int 0]))] s.heap := hP
  have hl := lv_entry ([.ref h, .int p0, .int p1]) (n := 4) (Nat.le_of_ble_eq_true rfl)
  rw [lg_entry_eq]
  generalize (lg_sl ([.ref h, .int p0, .int p1]) ++ List.replicate (4 - (lg_sl ([.ref h, .int p0, .int p1])).length) Slot.unset).toArray = ls at hl ⊢
  have hl : lv_has ls 4 [(0, .ref h), (1, .int p0), (2, .int p1)] := hl
  refine lv_aload_n hx hb dX10_fill_0 rfl (lv_at hl 0 rfl) ?_
  refine lv_iload_n hx hb dX10_fill_1 rfl (lv_at hl 1 rfl) ?_
  have hFc := va_free (wc := [(h, .inr (16, [.ref l1, .ref l2, .ref l3, .ref l4, .ref l5, .ref l6, .ref l7, .ref l8, .ref l9, .ref ch, .ref co, .int 0, .int 4, .int (-40), .int 20, .int 0, .int 0, .int 100, .int 60, .int 14])), (l4, .inr (5, [.int 0, .ref e, .int 0]))]) hD hS hA [0, 1] rfl
  refine vx_callv (vx_runV (As := [.int p0]) (rest := []) ⟨hx, hb, hml, hown, hts⟩ (c_X10_cellNumbered l hst D e h l1 l2 l3 l4 l5 l6 l7 l8 l9 ch co p0 s.heap.size) (cwV 1 hts gX10_fill_X10_cellNumbered rfl rfl rfl (by decide +kernel) ⟨Nat.le_of_ble_eq_true rfl, Nat.le_of_ble_eq_true rfl⟩) ⟨cIn_blind, va_recv hK hP (ci := 16) (q0 := 0) rfl rfl, cIn_go hK hP hD hE hS hA [0, 1] rfl rfl (by decide) [] rfl⟩ rfl rfl hl.1 rfl (lv_room (Nat.le_of_ble_eq_true rfl)) dX10_fill_2 ⟨Nat.le_of_ble_eq_true rfl, Nat.le_of_ble_eq_true rfl⟩) hS (fun q _ h => hFc q h) hFc (fun q _ h => hFc q h) (fun E ce q9 u t H1 locs ht hvm hpx hB hz1 hk1 hS hce hcv hcl => ?_) (fun u t H1 locs ht hvm hw hB hz1 hk1 hS => ?_)
  · obtain ⟨rfl, hw⟩ := hB
    exact vx_out (fun x hx => (htb x hx).elim) hlocks hce hcv hcl (fun t9 h9 hal => ⟨(), trivial, ⟨rfl, rfl⟩, hS.F h9⟩) hS.2.2 (Nat.le_of_ble_eq_true rfl) (Nat.le_of_ble_eq_true rfl)
  · exact hw.elim
-- X10_step
def t_X10_step (p0 : Int32) (p1 : Int32) (p2 : Int32) : Int32 := 3
set_option maxHeartbeats 4000000 in
set_option maxRecDepth 100000 in
theorem c_X10_step (l : Launch) (hst : l.stackTraces = false) (D : va_G) (e : Nat) (h : Nat) (l1 : Nat) (l2 : Nat) (l3 : Nat) (l4 : Nat) (l5 : Nat) (l6 : Nat) (l7 : Nat) (l8 : Nat) (l9 : Nat) (ch : Nat) (co : Nat) (p0 : Int32) (p1 : Int32) (p2 : Int32) (sz : Nat) : vx_Met l yX10_step wsX10_step ({ frames := 14, cells := 1, slots := 6, locals := 280 }) (va_Pc [.ref h, .int p0, .int p1, .int p2] (cIn D [] [(h, .inr (16, [.ref l1, .ref l2, .ref l3, .ref l4, .ref l5, .ref l6, .ref l7, .ref l8, .ref l9, .ref ch, .ref co, .int 0, .int 4, .int (-40), .int 20, .int 0, .int 0, .int 100, .int 60, .int 14])), (l5, .inr (5, [.int 0, .ref e, .int 0]))] e sz)) (va_Qv (fun (_ : Unit) => False) (fun (_ : Unit) (_ : State) => True) (va_A [(h, .inr (16, [.ref l1, .ref l2, .ref l3, .ref l4, .ref l5, .ref l6, .ref l7, .ref l8, .ref l9, .ref ch, .ref co, .int 0, .int 4, .int (-40), .int 20, .int 0, .int 0, .int 100, .int 60, .int 14])), (l5, .inr (5, [.int 0, .ref e, .int 0]))] sz)) (vx_X (fun _ : Unit => True) (fun (E : String) (_ : Unit) (_ : State) => (E = "java/lang/IndexOutOfBoundsException" ∧ t_X10_step p0 p1 p2 = 3)) (va_A [(h, .inr (16, [.ref l1, .ref l2, .ref l3, .ref l4, .ref l5, .ref l6, .ref l7, .ref l8, .ref l9, .ref ch, .ref co, .int 0, .int 4, .int (-40), .int 20, .int 0, .int 0, .int 100, .int 60, .int 14])), (l5, .inr (5, [.int 0, .ref e, .int 0]))] sz)) 1 6 (va_A [(h, .inr (16, [.ref l1, .ref l2, .ref l3, .ref l4, .ref l5, .ref l6, .ref l7, .ref l8, .ref l9, .ref ch, .ref co, .int 0, .int 4, .int (-40), .int 20, .int 0, .int 0, .int 100, .int 60, .int 14])), (l5, .inr (5, [.int 0, .ref e, .int 0]))] sz) := by
  refine vx_ofW (cc := cX10_step) (maxL := 5) (ret := (some .int)) (by decide +kernel) rfl ?_
  intro p e9 s m args below meth c s₁ B hml htb hv
  obtain ⟨rfl, hsz, hP, hK, hD0, hE0⟩ := hv
  have hx := B.exec
  have hb := B.bytes
  have hr := B.returns
  have hts := atoms_spec (ws := wsX10_step) B.pre
  have hown : s.vm.findClass RX10 = some m.cls := findClass_of_methodNamed B.named
  have hlocks := B.notSynchronized
  subst hsz
  have hD := hD0.self (sz := s.heap.size)
  generalize hAe : va_A [(h, .inr (16, [.ref l1, .ref l2, .ref l3, .ref l4, .ref l5, .ref l6, .ref l7, .ref l8, .ref l9, .ref ch, .ref co, .int 0, .int 4, .int (-40), .int 20, .int 0, .int 0, .int 100, .int 60, .int 14])), (l5, .inr (5, [.int 0, .ref e, .int 0]))] s.heap.size = A at hD hE0 ⊢
  have hA : ∀ q : Nat, s.heap.size ≤ q → A q := fun q h => by rw [← hAe]; exact Or.inr h
  have hS : va_S A s.heap s.heap [] := va_S.rf
  have hE := hE0
  have hP : va_P D vwCl [(h, .inr (16, [.ref l1, .ref l2, .ref l3, .ref l4, .ref l5, .ref l6, .ref l7, .ref l8, .ref l9, .ref ch, .ref co, .int 0, .int 4, .int (-40), .int 20, .int 0, .int 0, .int 100, .int 60, .int 14])), (l5, .inr (5, [.int 0, .ref e, .int 0]))] s.heap := hP
  have hl := lv_entry ([.ref h, .int p0, .int p1, .int p2]) (n := 5) (Nat.le_of_ble_eq_true rfl)
  rw [lg_entry_eq]
  generalize (lg_sl ([.ref h, .int p0, .int p1, .int p2]) ++ List.replicate (5 - (lg_sl ([.ref h, .int p0, .int p1, .int p2])).length) Slot.unset).toArray = ls at hl ⊢
  have hl : lv_has ls 5 [(0, .ref h), (1, .int p0), (2, .int p1), (3, .int p2)] := hl
  refine lv_aload_n hx hb dX10_step_0 rfl (lv_at hl 0 rfl) ?_
  refine lv_iload_n hx hb dX10_step_1 rfl (lv_at hl 1 rfl) ?_
  have hFc := va_free (wc := [(h, .inr (16, [.ref l1, .ref l2, .ref l3, .ref l4, .ref l5, .ref l6, .ref l7, .ref l8, .ref l9, .ref ch, .ref co, .int 0, .int 4, .int (-40), .int 20, .int 0, .int 0, .int 100, .int 60, .int 14])), (l5, .inr (5, [.int 0, .ref e, .int 0]))]) hD hS hA [0, 1] rfl
  refine vx_callv (vx_runV (As := [.int p0]) (rest := []) ⟨hx, hb, hml, hown, hts⟩ (c_X10_protocolNumbered l hst D e h l1 l2 l3 l4 l5 l6 l7 l8 l9 ch co p0 s.heap.size) (cwV 1 hts gX10_step_X10_protocolNumbered rfl rfl rfl (by decide +kernel) ⟨Nat.le_of_ble_eq_true rfl, Nat.le_of_ble_eq_true rfl⟩) ⟨cIn_blind, va_recv hK hP (ci := 16) (q0 := 0) rfl rfl, cIn_go hK hP hD hE hS hA [0, 1] rfl rfl (by decide) [] rfl⟩ rfl rfl hl.1 rfl (lv_room (Nat.le_of_ble_eq_true rfl)) dX10_step_2 ⟨Nat.le_of_ble_eq_true rfl, Nat.le_of_ble_eq_true rfl⟩) hS (fun q _ h => hFc q h) hFc (fun q _ h => hFc q h) (fun E ce q9 u t H1 locs ht hvm hpx hB hz1 hk1 hS hce hcv hcl => ?_) (fun u t H1 locs ht hvm hw hB hz1 hk1 hS => ?_)
  · obtain ⟨rfl, hw⟩ := hB
    exact vx_out (fun x hx => (htb x hx).elim) hlocks hce hcv hcl (fun t9 h9 hal => ⟨(), trivial, ⟨rfl, rfl⟩, hS.F h9⟩) hS.2.2 (Nat.le_of_ble_eq_true rfl) (Nat.le_of_ble_eq_true rfl)
  · exact hw.elim
-- X10_form
def t_X10_form (p0 : Int32) (p1 : Int32) (p2 : Int32) : Int32 := 3
set_option maxHeartbeats 4000000 in
set_option maxRecDepth 100000 in
theorem c_X10_form (l : Launch) (hst : l.stackTraces = false) (D : va_G) (e : Nat) (h : Nat) (l1 : Nat) (l2 : Nat) (l3 : Nat) (l4 : Nat) (l5 : Nat) (l6 : Nat) (l7 : Nat) (l8 : Nat) (l9 : Nat) (ch : Nat) (co : Nat) (p0 : Int32) (p1 : Int32) (p2 : Int32) (sz : Nat) : vx_Met l yX10_form wsX10_form ({ frames := 14, cells := 1, slots := 6, locals := 280 }) (va_Pc [.ref h, .int p0, .int p1, .int p2] (cIn D [] [(h, .inr (16, [.ref l1, .ref l2, .ref l3, .ref l4, .ref l5, .ref l6, .ref l7, .ref l8, .ref l9, .ref ch, .ref co, .int 0, .int 4, .int (-40), .int 20, .int 0, .int 0, .int 100, .int 60, .int 14])), (l4, .inr (5, [.int 0, .ref e, .int 0]))] e sz)) (va_Qv (fun (_ : Unit) => False) (fun (_ : Unit) (_ : State) => True) (va_A [(h, .inr (16, [.ref l1, .ref l2, .ref l3, .ref l4, .ref l5, .ref l6, .ref l7, .ref l8, .ref l9, .ref ch, .ref co, .int 0, .int 4, .int (-40), .int 20, .int 0, .int 0, .int 100, .int 60, .int 14])), (l4, .inr (5, [.int 0, .ref e, .int 0]))] sz)) (vx_X (fun _ : Unit => True) (fun (E : String) (_ : Unit) (_ : State) => (E = "java/lang/IndexOutOfBoundsException" ∧ t_X10_form p0 p1 p2 = 3)) (va_A [(h, .inr (16, [.ref l1, .ref l2, .ref l3, .ref l4, .ref l5, .ref l6, .ref l7, .ref l8, .ref l9, .ref ch, .ref co, .int 0, .int 4, .int (-40), .int 20, .int 0, .int 0, .int 100, .int 60, .int 14])), (l4, .inr (5, [.int 0, .ref e, .int 0]))] sz)) 1 6 (va_A [(h, .inr (16, [.ref l1, .ref l2, .ref l3, .ref l4, .ref l5, .ref l6, .ref l7, .ref l8, .ref l9, .ref ch, .ref co, .int 0, .int 4, .int (-40), .int 20, .int 0, .int 0, .int 100, .int 60, .int 14])), (l4, .inr (5, [.int 0, .ref e, .int 0]))] sz) := by
  refine vx_ofW (cc := cX10_form) (maxL := 8) (ret := (some .int)) (by decide +kernel) rfl ?_
  intro p e9 s m args below meth c s₁ B hml htb hv
  obtain ⟨rfl, hsz, hP, hK, hD0, hE0⟩ := hv
  have hx := B.exec
  have hb := B.bytes
  have hr := B.returns
  have hts := atoms_spec (ws := wsX10_form) B.pre
  have hown : s.vm.findClass RX10 = some m.cls := findClass_of_methodNamed B.named
  have hlocks := B.notSynchronized
  subst hsz
  have hD := hD0.self (sz := s.heap.size)
  generalize hAe : va_A [(h, .inr (16, [.ref l1, .ref l2, .ref l3, .ref l4, .ref l5, .ref l6, .ref l7, .ref l8, .ref l9, .ref ch, .ref co, .int 0, .int 4, .int (-40), .int 20, .int 0, .int 0, .int 100, .int 60, .int 14])), (l4, .inr (5, [.int 0, .ref e, .int 0]))] s.heap.size = A at hD hE0 ⊢
  have hA : ∀ q : Nat, s.heap.size ≤ q → A q := fun q h => by rw [← hAe]; exact Or.inr h
  have hS : va_S A s.heap s.heap [] := va_S.rf
  have hE := hE0
  have hP : va_P D vwCl [(h, .inr (16, [.ref l1, .ref l2, .ref l3, .ref l4, .ref l5, .ref l6, .ref l7, .ref l8, .ref l9, .ref ch, .ref co, .int 0, .int 4, .int (-40), .int 20, .int 0, .int 0, .int 100, .int 60, .int 14])), (l4, .inr (5, [.int 0, .ref e, .int 0]))] s.heap := hP
  have hl := lv_entry ([.ref h, .int p0, .int p1, .int p2]) (n := 8) (Nat.le_of_ble_eq_true rfl)
  rw [lg_entry_eq]
  generalize (lg_sl ([.ref h, .int p0, .int p1, .int p2]) ++ List.replicate (8 - (lg_sl ([.ref h, .int p0, .int p1, .int p2])).length) Slot.unset).toArray = ls at hl ⊢
  have hl : lv_has ls 8 [(0, .ref h), (1, .int p0), (2, .int p1), (3, .int p2)] := hl
  refine lv_aload_n hx hb dX10_form_0 rfl (lv_at hl 0 rfl) ?_
  refine lv_iload_n hx hb dX10_form_1 rfl (lv_at hl 1 rfl) ?_
  have hFc := va_free (wc := [(h, .inr (16, [.ref l1, .ref l2, .ref l3, .ref l4, .ref l5, .ref l6, .ref l7, .ref l8, .ref l9, .ref ch, .ref co, .int 0, .int 4, .int (-40), .int 20, .int 0, .int 0, .int 100, .int 60, .int 14])), (l4, .inr (5, [.int 0, .ref e, .int 0]))]) hD hS hA [0, 1] rfl
  refine vx_callv (vx_runV (As := [.int p0]) (rest := []) ⟨hx, hb, hml, hown, hts⟩ (c_X10_cellNumbered l hst D e h l1 l2 l3 l4 l5 l6 l7 l8 l9 ch co p0 s.heap.size) (cwV 1 hts gX10_form_X10_cellNumbered rfl rfl rfl (by decide +kernel) ⟨Nat.le_of_ble_eq_true rfl, Nat.le_of_ble_eq_true rfl⟩) ⟨cIn_blind, va_recv hK hP (ci := 16) (q0 := 0) rfl rfl, cIn_go hK hP hD hE hS hA [0, 1] rfl rfl (by decide) [] rfl⟩ rfl rfl hl.1 rfl (lv_room (Nat.le_of_ble_eq_true rfl)) dX10_form_2 ⟨Nat.le_of_ble_eq_true rfl, Nat.le_of_ble_eq_true rfl⟩) hS (fun q _ h => hFc q h) hFc (fun q _ h => hFc q h) (fun E ce q9 u t H1 locs ht hvm hpx hB hz1 hk1 hS hce hcv hcl => ?_) (fun u t H1 locs ht hvm hw hB hz1 hk1 hS => ?_)
  · obtain ⟨rfl, hw⟩ := hB
    exact vx_out (fun x hx => (htb x hx).elim) hlocks hce hcv hcl (fun t9 h9 hal => ⟨(), trivial, ⟨rfl, rfl⟩, hS.F h9⟩) hS.2.2 (Nat.le_of_ble_eq_true rfl) (Nat.le_of_ble_eq_true rfl)
  · exact hw.elim
-- X10_sort
def t_X10_sort (p0 : Int32) : Int32 := 3
set_option maxHeartbeats 4000000 in
set_option maxRecDepth 100000 in
theorem c_X10_sort (l : Launch) (hst : l.stackTraces = false) (D : va_G) (e : Nat) (h : Nat) (l1 : Nat) (l2 : Nat) (l3 : Nat) (l4 : Nat) (l5 : Nat) (l6 : Nat) (l7 : Nat) (l8 : Nat) (l9 : Nat) (ch : Nat) (co : Nat) (p0 : Int32) (sz : Nat) : vx_Met l yX10_sort wsX10_sort ({ frames := 14, cells := 1, slots := 6, locals := 280 }) (va_Pc [.ref h, .int p0] (cIn D [] [(h, .inr (16, [.ref l1, .ref l2, .ref l3, .ref l4, .ref l5, .ref l6, .ref l7, .ref l8, .ref l9, .ref ch, .ref co, .int 0, .int 4, .int (-40), .int 20, .int 0, .int 0, .int 100, .int 60, .int 14])), (l4, .inr (5, [.int 0, .ref e, .int 0]))] e sz)) (va_Qv (fun (_ : Unit) => False) (fun (_ : Unit) (_ : State) => True) (va_A [(h, .inr (16, [.ref l1, .ref l2, .ref l3, .ref l4, .ref l5, .ref l6, .ref l7, .ref l8, .ref l9, .ref ch, .ref co, .int 0, .int 4, .int (-40), .int 20, .int 0, .int 0, .int 100, .int 60, .int 14])), (l4, .inr (5, [.int 0, .ref e, .int 0]))] sz)) (vx_X (fun _ : Unit => True) (fun (E : String) (_ : Unit) (_ : State) => (E = "java/lang/IndexOutOfBoundsException" ∧ t_X10_sort p0 = 3)) (va_A [(h, .inr (16, [.ref l1, .ref l2, .ref l3, .ref l4, .ref l5, .ref l6, .ref l7, .ref l8, .ref l9, .ref ch, .ref co, .int 0, .int 4, .int (-40), .int 20, .int 0, .int 0, .int 100, .int 60, .int 14])), (l4, .inr (5, [.int 0, .ref e, .int 0]))] sz)) 1 6 (va_A [(h, .inr (16, [.ref l1, .ref l2, .ref l3, .ref l4, .ref l5, .ref l6, .ref l7, .ref l8, .ref l9, .ref ch, .ref co, .int 0, .int 4, .int (-40), .int 20, .int 0, .int 0, .int 100, .int 60, .int 14])), (l4, .inr (5, [.int 0, .ref e, .int 0]))] sz) := by
  refine vx_ofW (cc := cX10_sort) (maxL := 2) (ret := (some .char)) (by decide +kernel) rfl ?_
  intro p e9 s m args below meth c s₁ B hml htb hv
  obtain ⟨rfl, hsz, hP, hK, hD0, hE0⟩ := hv
  have hx := B.exec
  have hb := B.bytes
  have hr := B.returns
  have hts := atoms_spec (ws := wsX10_sort) B.pre
  have hown : s.vm.findClass RX10 = some m.cls := findClass_of_methodNamed B.named
  have hlocks := B.notSynchronized
  subst hsz
  have hD := hD0.self (sz := s.heap.size)
  generalize hAe : va_A [(h, .inr (16, [.ref l1, .ref l2, .ref l3, .ref l4, .ref l5, .ref l6, .ref l7, .ref l8, .ref l9, .ref ch, .ref co, .int 0, .int 4, .int (-40), .int 20, .int 0, .int 0, .int 100, .int 60, .int 14])), (l4, .inr (5, [.int 0, .ref e, .int 0]))] s.heap.size = A at hD hE0 ⊢
  have hA : ∀ q : Nat, s.heap.size ≤ q → A q := fun q h => by rw [← hAe]; exact Or.inr h
  have hS : va_S A s.heap s.heap [] := va_S.rf
  have hE := hE0
  have hP : va_P D vwCl [(h, .inr (16, [.ref l1, .ref l2, .ref l3, .ref l4, .ref l5, .ref l6, .ref l7, .ref l8, .ref l9, .ref ch, .ref co, .int 0, .int 4, .int (-40), .int 20, .int 0, .int 0, .int 100, .int 60, .int 14])), (l4, .inr (5, [.int 0, .ref e, .int 0]))] s.heap := hP
  have hl := lv_entry ([.ref h, .int p0]) (n := 2) (Nat.le_of_ble_eq_true rfl)
  rw [lg_entry_eq]
  generalize (lg_sl ([.ref h, .int p0]) ++ List.replicate (2 - (lg_sl ([.ref h, .int p0])).length) Slot.unset).toArray = ls at hl ⊢
  have hl : lv_has ls 2 [(0, .ref h), (1, .int p0)] := hl
  refine lv_aload_n hx hb dX10_sort_0 rfl (lv_at hl 0 rfl) ?_
  refine lv_aload_n hx hb dX10_sort_1 rfl (lv_at hl 0 rfl) ?_
  refine lv_iload_n hx hb dX10_sort_2 rfl (lv_at hl 1 rfl) ?_
  have hFc := va_free (wc := [(h, .inr (16, [.ref l1, .ref l2, .ref l3, .ref l4, .ref l5, .ref l6, .ref l7, .ref l8, .ref l9, .ref ch, .ref co, .int 0, .int 4, .int (-40), .int 20, .int 0, .int 0, .int 100, .int 60, .int 14])), (l4, .inr (5, [.int 0, .ref e, .int 0]))]) hD hS hA [0, 1] rfl
  refine vx_callv (vx_runV (As := [.int p0]) (rest := [.ref h]) ⟨hx, hb, hml, hown, hts⟩ (c_X10_cellNumbered l hst D e h l1 l2 l3 l4 l5 l6 l7 l8 l9 ch co p0 s.heap.size) (cwV 1 hts gX10_sort_X10_cellNumbered rfl rfl rfl (by decide +kernel) ⟨Nat.le_of_ble_eq_true rfl, Nat.le_of_ble_eq_true rfl⟩) ⟨cIn_blind, va_recv hK hP (ci := 16) (q0 := 0) rfl rfl, cIn_go hK hP hD hE hS hA [0, 1] rfl rfl (by decide) [] rfl⟩ rfl rfl hl.1 rfl (lv_room (Nat.le_of_ble_eq_true rfl)) dX10_sort_3 ⟨Nat.le_of_ble_eq_true rfl, Nat.le_of_ble_eq_true rfl⟩) hS (fun q _ h => hFc q h) hFc (fun q _ h => hFc q h) (fun E ce q9 u t H1 locs ht hvm hpx hB hz1 hk1 hS hce hcv hcl => ?_) (fun u t H1 locs ht hvm hw hB hz1 hk1 hS => ?_)
  · obtain ⟨rfl, hw⟩ := hB
    exact vx_out (fun x hx => (htb x hx).elim) hlocks hce hcv hcl (fun t9 h9 hal => ⟨(), trivial, ⟨rfl, rfl⟩, hS.F h9⟩) hS.2.2 (Nat.le_of_ble_eq_true rfl) (Nat.le_of_ble_eq_true rfl)
  · exact hw.elim
-- X10_cellOf
def t_X10_cellOf (p0 : Int32) (p1 : Int32) : Int32 := 3
set_option maxHeartbeats 4000000 in
set_option maxRecDepth 100000 in
theorem c_X10_cellOf (l : Launch) (hst : l.stackTraces = false) (D : va_G) (e : Nat) (h : Nat) (l1 : Nat) (l2 : Nat) (l3 : Nat) (l4 : Nat) (l5 : Nat) (l6 : Nat) (l7 : Nat) (l8 : Nat) (l9 : Nat) (ch : Nat) (co : Nat) (p0 : Int32) (p1 : Int32) (sz : Nat) : vx_Met l yX10_cellOf wsX10_cellOf ({ frames := 14, cells := 1, slots := 6, locals := 280 }) (va_Pc [.ref h, .int p0, .int p1] (cIn D [] [(h, .inr (16, [.ref l1, .ref l2, .ref l3, .ref l4, .ref l5, .ref l6, .ref l7, .ref l8, .ref l9, .ref ch, .ref co, .int 0, .int 4, .int (-40), .int 20, .int 0, .int 0, .int 100, .int 60, .int 14])), (l6, .inr (5, [.int 0, .ref e, .int 0]))] e sz)) (va_Qv (fun (_ : Unit) => False) (fun (_ : Unit) (_ : State) => True) (va_A [(h, .inr (16, [.ref l1, .ref l2, .ref l3, .ref l4, .ref l5, .ref l6, .ref l7, .ref l8, .ref l9, .ref ch, .ref co, .int 0, .int 4, .int (-40), .int 20, .int 0, .int 0, .int 100, .int 60, .int 14])), (l6, .inr (5, [.int 0, .ref e, .int 0]))] sz)) (vx_X (fun _ : Unit => True) (fun (E : String) (_ : Unit) (_ : State) => (E = "java/lang/IndexOutOfBoundsException" ∧ t_X10_cellOf p0 p1 = 3)) (va_A [(h, .inr (16, [.ref l1, .ref l2, .ref l3, .ref l4, .ref l5, .ref l6, .ref l7, .ref l8, .ref l9, .ref ch, .ref co, .int 0, .int 4, .int (-40), .int 20, .int 0, .int 0, .int 100, .int 60, .int 14])), (l6, .inr (5, [.int 0, .ref e, .int 0]))] sz)) 1 6 (va_A [(h, .inr (16, [.ref l1, .ref l2, .ref l3, .ref l4, .ref l5, .ref l6, .ref l7, .ref l8, .ref l9, .ref ch, .ref co, .int 0, .int 4, .int (-40), .int 20, .int 0, .int 0, .int 100, .int 60, .int 14])), (l6, .inr (5, [.int 0, .ref e, .int 0]))] sz) := by
  refine vx_ofW (cc := cX10_cellOf) (maxL := 4) (ret := (some .int)) (by decide +kernel) rfl ?_
  intro p e9 s m args below meth c s₁ B hml htb hv
  obtain ⟨rfl, hsz, hP, hK, hD0, hE0⟩ := hv
  have hx := B.exec
  have hb := B.bytes
  have hr := B.returns
  have hts := atoms_spec (ws := wsX10_cellOf) B.pre
  have hown : s.vm.findClass RX10 = some m.cls := findClass_of_methodNamed B.named
  have hlocks := B.notSynchronized
  subst hsz
  have hD := hD0.self (sz := s.heap.size)
  generalize hAe : va_A [(h, .inr (16, [.ref l1, .ref l2, .ref l3, .ref l4, .ref l5, .ref l6, .ref l7, .ref l8, .ref l9, .ref ch, .ref co, .int 0, .int 4, .int (-40), .int 20, .int 0, .int 0, .int 100, .int 60, .int 14])), (l6, .inr (5, [.int 0, .ref e, .int 0]))] s.heap.size = A at hD hE0 ⊢
  have hA : ∀ q : Nat, s.heap.size ≤ q → A q := fun q h => by rw [← hAe]; exact Or.inr h
  have hS : va_S A s.heap s.heap [] := va_S.rf
  have hE := hE0
  have hP : va_P D vwCl [(h, .inr (16, [.ref l1, .ref l2, .ref l3, .ref l4, .ref l5, .ref l6, .ref l7, .ref l8, .ref l9, .ref ch, .ref co, .int 0, .int 4, .int (-40), .int 20, .int 0, .int 0, .int 100, .int 60, .int 14])), (l6, .inr (5, [.int 0, .ref e, .int 0]))] s.heap := hP
  have hl := lv_entry ([.ref h, .int p0, .int p1]) (n := 4) (Nat.le_of_ble_eq_true rfl)
  rw [lg_entry_eq]
  generalize (lg_sl ([.ref h, .int p0, .int p1]) ++ List.replicate (4 - (lg_sl ([.ref h, .int p0, .int p1])).length) Slot.unset).toArray = ls at hl ⊢
  have hl : lv_has ls 4 [(0, .ref h), (1, .int p0), (2, .int p1)] := hl
  refine lv_aload_n hx hb dX10_cellOf_0 rfl (lv_at hl 0 rfl) ?_
  refine lv_iload_n hx hb dX10_cellOf_1 rfl (lv_at hl 1 rfl) ?_
  have hFc := va_free (wc := [(h, .inr (16, [.ref l1, .ref l2, .ref l3, .ref l4, .ref l5, .ref l6, .ref l7, .ref l8, .ref l9, .ref ch, .ref co, .int 0, .int 4, .int (-40), .int 20, .int 0, .int 0, .int 100, .int 60, .int 14])), (l6, .inr (5, [.int 0, .ref e, .int 0]))]) hD hS hA [0, 1] rfl
  refine vx_callv (vx_runV (As := [.int p0]) (rest := []) ⟨hx, hb, hml, hown, hts⟩ (c_X10_moduleNumbered l hst D e h l1 l2 l3 l4 l5 l6 l7 l8 l9 ch co p0 s.heap.size) (cwV 1 hts gX10_cellOf_X10_moduleNumbered rfl rfl rfl (by decide +kernel) ⟨Nat.le_of_ble_eq_true rfl, Nat.le_of_ble_eq_true rfl⟩) ⟨cIn_blind, va_recv hK hP (ci := 16) (q0 := 0) rfl rfl, cIn_go hK hP hD hE hS hA [0, 1] rfl rfl (by decide) [] rfl⟩ rfl rfl hl.1 rfl (lv_room (Nat.le_of_ble_eq_true rfl)) dX10_cellOf_2 ⟨Nat.le_of_ble_eq_true rfl, Nat.le_of_ble_eq_true rfl⟩) hS (fun q _ h => hFc q h) hFc (fun q _ h => hFc q h) (fun E ce q9 u t H1 locs ht hvm hpx hB hz1 hk1 hS hce hcv hcl => ?_) (fun u t H1 locs ht hvm hw hB hz1 hk1 hS => ?_)
  · obtain ⟨rfl, hw⟩ := hB
    exact vx_out (fun x hx => (htb x hx).elim) hlocks hce hcv hcl (fun t9 h9 hal => ⟨(), trivial, ⟨rfl, rfl⟩, hS.F h9⟩) hS.2.2 (Nat.le_of_ble_eq_true rfl) (Nat.le_of_ble_eq_true rfl)
  · exact hw.elim
-- X10_spread
def t_X10_spread (p0 : Int32) : Int32 := 3
set_option maxHeartbeats 4000000 in
set_option maxRecDepth 100000 in
theorem c_X10_spread (l : Launch) (hst : l.stackTraces = false) (D : va_G) (e : Nat) (h : Nat) (l1 : Nat) (l2 : Nat) (l3 : Nat) (l4 : Nat) (l5 : Nat) (l6 : Nat) (l7 : Nat) (l8 : Nat) (l9 : Nat) (ch : Nat) (co : Nat) (p0 : Int32) (sz : Nat) : vx_Met l yX10_spread wsX10_spread ({ frames := 14, cells := 1, slots := 6, locals := 280 }) (va_Pc [.ref h, .int p0] (cIn D [] [(h, .inr (16, [.ref l1, .ref l2, .ref l3, .ref l4, .ref l5, .ref l6, .ref l7, .ref l8, .ref l9, .ref ch, .ref co, .int 0, .int 4, .int (-40), .int 20, .int 0, .int 0, .int 100, .int 60, .int 14])), (l6, .inr (5, [.int 0, .ref e, .int 0]))] e sz)) (va_Qv (fun (_ : Unit) => False) (fun (_ : Unit) (_ : State) => True) (va_A [(h, .inr (16, [.ref l1, .ref l2, .ref l3, .ref l4, .ref l5, .ref l6, .ref l7, .ref l8, .ref l9, .ref ch, .ref co, .int 0, .int 4, .int (-40), .int 20, .int 0, .int 0, .int 100, .int 60, .int 14])), (l6, .inr (5, [.int 0, .ref e, .int 0]))] sz)) (vx_X (fun _ : Unit => True) (fun (E : String) (_ : Unit) (_ : State) => (E = "java/lang/IndexOutOfBoundsException" ∧ t_X10_spread p0 = 3)) (va_A [(h, .inr (16, [.ref l1, .ref l2, .ref l3, .ref l4, .ref l5, .ref l6, .ref l7, .ref l8, .ref l9, .ref ch, .ref co, .int 0, .int 4, .int (-40), .int 20, .int 0, .int 0, .int 100, .int 60, .int 14])), (l6, .inr (5, [.int 0, .ref e, .int 0]))] sz)) 1 6 (va_A [(h, .inr (16, [.ref l1, .ref l2, .ref l3, .ref l4, .ref l5, .ref l6, .ref l7, .ref l8, .ref l9, .ref ch, .ref co, .int 0, .int 4, .int (-40), .int 20, .int 0, .int 0, .int 100, .int 60, .int 14])), (l6, .inr (5, [.int 0, .ref e, .int 0]))] sz) := by
  refine vx_ofW (cc := cX10_spread) (maxL := 3) (ret := (some .int)) (by decide +kernel) rfl ?_
  intro p e9 s m args below meth c s₁ B hml htb hv
  obtain ⟨rfl, hsz, hP, hK, hD0, hE0⟩ := hv
  have hx := B.exec
  have hb := B.bytes
  have hr := B.returns
  have hts := atoms_spec (ws := wsX10_spread) B.pre
  have hown : s.vm.findClass RX10 = some m.cls := findClass_of_methodNamed B.named
  have hlocks := B.notSynchronized
  subst hsz
  have hD := hD0.self (sz := s.heap.size)
  generalize hAe : va_A [(h, .inr (16, [.ref l1, .ref l2, .ref l3, .ref l4, .ref l5, .ref l6, .ref l7, .ref l8, .ref l9, .ref ch, .ref co, .int 0, .int 4, .int (-40), .int 20, .int 0, .int 0, .int 100, .int 60, .int 14])), (l6, .inr (5, [.int 0, .ref e, .int 0]))] s.heap.size = A at hD hE0 ⊢
  have hA : ∀ q : Nat, s.heap.size ≤ q → A q := fun q h => by rw [← hAe]; exact Or.inr h
  have hS : va_S A s.heap s.heap [] := va_S.rf
  have hE := hE0
  have hP : va_P D vwCl [(h, .inr (16, [.ref l1, .ref l2, .ref l3, .ref l4, .ref l5, .ref l6, .ref l7, .ref l8, .ref l9, .ref ch, .ref co, .int 0, .int 4, .int (-40), .int 20, .int 0, .int 0, .int 100, .int 60, .int 14])), (l6, .inr (5, [.int 0, .ref e, .int 0]))] s.heap := hP
  have hl := lv_entry ([.ref h, .int p0]) (n := 3) (Nat.le_of_ble_eq_true rfl)
  rw [lg_entry_eq]
  generalize (lg_sl ([.ref h, .int p0]) ++ List.replicate (3 - (lg_sl ([.ref h, .int p0])).length) Slot.unset).toArray = ls at hl ⊢
  have hl : lv_has ls 3 [(0, .ref h), (1, .int p0)] := hl
  refine lv_aload_n hx hb dX10_spread_0 rfl (lv_at hl 0 rfl) ?_
  refine lv_iload_n hx hb dX10_spread_1 rfl (lv_at hl 1 rfl) ?_
  have hFc := va_free (wc := [(h, .inr (16, [.ref l1, .ref l2, .ref l3, .ref l4, .ref l5, .ref l6, .ref l7, .ref l8, .ref l9, .ref ch, .ref co, .int 0, .int 4, .int (-40), .int 20, .int 0, .int 0, .int 100, .int 60, .int 14])), (l6, .inr (5, [.int 0, .ref e, .int 0]))]) hD hS hA [0, 1] rfl
  refine vx_callv (vx_runV (As := [.int p0]) (rest := []) ⟨hx, hb, hml, hown, hts⟩ (c_X10_moduleNumbered l hst D e h l1 l2 l3 l4 l5 l6 l7 l8 l9 ch co p0 s.heap.size) (cwV 1 hts gX10_spread_X10_moduleNumbered rfl rfl rfl (by decide +kernel) ⟨Nat.le_of_ble_eq_true rfl, Nat.le_of_ble_eq_true rfl⟩) ⟨cIn_blind, va_recv hK hP (ci := 16) (q0 := 0) rfl rfl, cIn_go hK hP hD hE hS hA [0, 1] rfl rfl (by decide) [] rfl⟩ rfl rfl hl.1 rfl (lv_room (Nat.le_of_ble_eq_true rfl)) dX10_spread_2 ⟨Nat.le_of_ble_eq_true rfl, Nat.le_of_ble_eq_true rfl⟩) hS (fun q _ h => hFc q h) hFc (fun q _ h => hFc q h) (fun E ce q9 u t H1 locs ht hvm hpx hB hz1 hk1 hS hce hcv hcl => ?_) (fun u t H1 locs ht hvm hw hB hz1 hk1 hS => ?_)
  · obtain ⟨rfl, hw⟩ := hB
    exact vx_out (fun x hx => (htb x hx).elim) hlocks hce hcv hcl (fun t9 h9 hal => ⟨(), trivial, ⟨rfl, rfl⟩, hS.F h9⟩) hS.2.2 (Nat.le_of_ble_eq_true rfl) (Nat.le_of_ble_eq_true rfl)
  · exact hw.elim
-- X10_pack
def t_X10_pack (p0 : Int32) (p1 : Int32) : Int32 := 3
set_option maxHeartbeats 4000000 in
set_option maxRecDepth 100000 in
theorem c_X10_pack (l : Launch) (hst : l.stackTraces = false) (D : va_G) (e : Nat) (h : Nat) (l1 : Nat) (l2 : Nat) (l3 : Nat) (l4 : Nat) (l5 : Nat) (l6 : Nat) (l7 : Nat) (l8 : Nat) (l9 : Nat) (ch : Nat) (co : Nat) (p0 : Int32) (p1 : Int32) (sz : Nat) : vx_Met l yX10_pack wsX10_pack ({ frames := 14, cells := 1, slots := 6, locals := 280 }) (va_Pc [.ref h, .int p0, .int p1] (cIn D [] [(h, .inr (16, [.ref l1, .ref l2, .ref l3, .ref l4, .ref l5, .ref l6, .ref l7, .ref l8, .ref l9, .ref ch, .ref co, .int 0, .int 4, .int (-40), .int 20, .int 0, .int 0, .int 100, .int 60, .int 14])), (l6, .inr (5, [.int 0, .ref e, .int 0]))] e sz)) (va_Qv (fun (_ : Unit) => False) (fun (_ : Unit) (_ : State) => True) (va_A [(h, .inr (16, [.ref l1, .ref l2, .ref l3, .ref l4, .ref l5, .ref l6, .ref l7, .ref l8, .ref l9, .ref ch, .ref co, .int 0, .int 4, .int (-40), .int 20, .int 0, .int 0, .int 100, .int 60, .int 14])), (l6, .inr (5, [.int 0, .ref e, .int 0]))] sz)) (vx_X (fun _ : Unit => True) (fun (E : String) (_ : Unit) (_ : State) => (E = "java/lang/IndexOutOfBoundsException" ∧ t_X10_pack p0 p1 = 3)) (va_A [(h, .inr (16, [.ref l1, .ref l2, .ref l3, .ref l4, .ref l5, .ref l6, .ref l7, .ref l8, .ref l9, .ref ch, .ref co, .int 0, .int 4, .int (-40), .int 20, .int 0, .int 0, .int 100, .int 60, .int 14])), (l6, .inr (5, [.int 0, .ref e, .int 0]))] sz)) 1 6 (va_A [(h, .inr (16, [.ref l1, .ref l2, .ref l3, .ref l4, .ref l5, .ref l6, .ref l7, .ref l8, .ref l9, .ref ch, .ref co, .int 0, .int 4, .int (-40), .int 20, .int 0, .int 0, .int 100, .int 60, .int 14])), (l6, .inr (5, [.int 0, .ref e, .int 0]))] sz) := by
  refine vx_ofW (cc := cX10_pack) (maxL := 6) (ret := (some .int)) (by decide +kernel) rfl ?_
  intro p e9 s m args below meth c s₁ B hml htb hv
  obtain ⟨rfl, hsz, hP, hK, hD0, hE0⟩ := hv
  have hx := B.exec
  have hb := B.bytes
  have hr := B.returns
  have hts := atoms_spec (ws := wsX10_pack) B.pre
  have hown : s.vm.findClass RX10 = some m.cls := findClass_of_methodNamed B.named
  have hlocks := B.notSynchronized
  subst hsz
  have hD := hD0.self (sz := s.heap.size)
  generalize hAe : va_A [(h, .inr (16, [.ref l1, .ref l2, .ref l3, .ref l4, .ref l5, .ref l6, .ref l7, .ref l8, .ref l9, .ref ch, .ref co, .int 0, .int 4, .int (-40), .int 20, .int 0, .int 0, .int 100, .int 60, .int 14])), (l6, .inr (5, [.int 0, .ref e, .int 0]))] s.heap.size = A at hD hE0 ⊢
  have hA : ∀ q : Nat, s.heap.size ≤ q → A q := fun q h => by rw [← hAe]; exact Or.inr h
  have hS : va_S A s.heap s.heap [] := va_S.rf
  have hE := hE0
  have hP : va_P D vwCl [(h, .inr (16, [.ref l1, .ref l2, .ref l3, .ref l4, .ref l5, .ref l6, .ref l7, .ref l8, .ref l9, .ref ch, .ref co, .int 0, .int 4, .int (-40), .int 20, .int 0, .int 0, .int 100, .int 60, .int 14])), (l6, .inr (5, [.int 0, .ref e, .int 0]))] s.heap := hP
  have hl := lv_entry ([.ref h, .int p0, .int p1]) (n := 6) (Nat.le_of_ble_eq_true rfl)
  rw [lg_entry_eq]
  generalize (lg_sl ([.ref h, .int p0, .int p1]) ++ List.replicate (6 - (lg_sl ([.ref h, .int p0, .int p1])).length) Slot.unset).toArray = ls at hl ⊢
  have hl : lv_has ls 6 [(0, .ref h), (1, .int p0), (2, .int p1)] := hl
  refine lv_aload_n hx hb dX10_pack_0 rfl (lv_at hl 0 rfl) ?_
  refine lv_iload_n hx hb dX10_pack_1 rfl (lv_at hl 1 rfl) ?_
  have hFc := va_free (wc := [(h, .inr (16, [.ref l1, .ref l2, .ref l3, .ref l4, .ref l5, .ref l6, .ref l7, .ref l8, .ref l9, .ref ch, .ref co, .int 0, .int 4, .int (-40), .int 20, .int 0, .int 0, .int 100, .int 60, .int 14])), (l6, .inr (5, [.int 0, .ref e, .int 0]))]) hD hS hA [0, 1] rfl
  refine vx_callv (vx_runV (As := [.int p0]) (rest := []) ⟨hx, hb, hml, hown, hts⟩ (c_X10_moduleNumbered l hst D e h l1 l2 l3 l4 l5 l6 l7 l8 l9 ch co p0 s.heap.size) (cwV 1 hts gX10_pack_X10_moduleNumbered rfl rfl rfl (by decide +kernel) ⟨Nat.le_of_ble_eq_true rfl, Nat.le_of_ble_eq_true rfl⟩) ⟨cIn_blind, va_recv hK hP (ci := 16) (q0 := 0) rfl rfl, cIn_go hK hP hD hE hS hA [0, 1] rfl rfl (by decide) [] rfl⟩ rfl rfl hl.1 rfl (lv_room (Nat.le_of_ble_eq_true rfl)) dX10_pack_2 ⟨Nat.le_of_ble_eq_true rfl, Nat.le_of_ble_eq_true rfl⟩) hS (fun q _ h => hFc q h) hFc (fun q _ h => hFc q h) (fun E ce q9 u t H1 locs ht hvm hpx hB hz1 hk1 hS hce hcv hcl => ?_) (fun u t H1 locs ht hvm hw hB hz1 hk1 hS => ?_)
  · obtain ⟨rfl, hw⟩ := hB
    exact vx_out (fun x hx => (htb x hx).elim) hlocks hce hcv hcl (fun t9 h9 hal => ⟨(), trivial, ⟨rfl, rfl⟩, hS.F h9⟩) hS.2.2 (Nat.le_of_ble_eq_true rfl) (Nat.le_of_ble_eq_true rfl)
  · exact hw.elim
-- X10_offset
def t_X10_offset (p0 : Int32) (p1 : Int32) : Int32 := 3
set_option maxHeartbeats 4000000 in
set_option maxRecDepth 100000 in
theorem c_X10_offset (l : Launch) (hst : l.stackTraces = false) (D : va_G) (e : Nat) (h : Nat) (l1 : Nat) (l2 : Nat) (l3 : Nat) (l4 : Nat) (l5 : Nat) (l6 : Nat) (l7 : Nat) (l8 : Nat) (l9 : Nat) (ch : Nat) (co : Nat) (p0 : Int32) (p1 : Int32) (sz : Nat) : vx_Met l yX10_offset wsX10_offset ({ frames := 14, cells := 1, slots := 6, locals := 280 }) (va_Pc [.ref h, .int p0, .int p1] (cIn D [] [(h, .inr (16, [.ref l1, .ref l2, .ref l3, .ref l4, .ref l5, .ref l6, .ref l7, .ref l8, .ref l9, .ref ch, .ref co, .int 0, .int 4, .int (-40), .int 20, .int 0, .int 0, .int 100, .int 60, .int 14])), (l7, .inr (5, [.int 0, .ref e, .int 0]))] e sz)) (va_Qv (fun (_ : Unit) => False) (fun (_ : Unit) (_ : State) => True) (va_A [(h, .inr (16, [.ref l1, .ref l2, .ref l3, .ref l4, .ref l5, .ref l6, .ref l7, .ref l8, .ref l9, .ref ch, .ref co, .int 0, .int 4, .int (-40), .int 20, .int 0, .int 0, .int 100, .int 60, .int 14])), (l7, .inr (5, [.int 0, .ref e, .int 0]))] sz)) (vx_X (fun _ : Unit => True) (fun (E : String) (_ : Unit) (_ : State) => (E = "java/lang/IndexOutOfBoundsException" ∧ t_X10_offset p0 p1 = 3)) (va_A [(h, .inr (16, [.ref l1, .ref l2, .ref l3, .ref l4, .ref l5, .ref l6, .ref l7, .ref l8, .ref l9, .ref ch, .ref co, .int 0, .int 4, .int (-40), .int 20, .int 0, .int 0, .int 100, .int 60, .int 14])), (l7, .inr (5, [.int 0, .ref e, .int 0]))] sz)) 1 6 (va_A [(h, .inr (16, [.ref l1, .ref l2, .ref l3, .ref l4, .ref l5, .ref l6, .ref l7, .ref l8, .ref l9, .ref ch, .ref co, .int 0, .int 4, .int (-40), .int 20, .int 0, .int 0, .int 100, .int 60, .int 14])), (l7, .inr (5, [.int 0, .ref e, .int 0]))] sz) := by
  refine vx_ofW (cc := cX10_offset) (maxL := 5) (ret := (some .int)) (by decide +kernel) rfl ?_
  intro p e9 s m args below meth c s₁ B hml htb hv
  obtain ⟨rfl, hsz, hP, hK, hD0, hE0⟩ := hv
  have hx := B.exec
  have hb := B.bytes
  have hr := B.returns
  have hts := atoms_spec (ws := wsX10_offset) B.pre
  have hown : s.vm.findClass RX10 = some m.cls := findClass_of_methodNamed B.named
  have hlocks := B.notSynchronized
  subst hsz
  have hD := hD0.self (sz := s.heap.size)
  generalize hAe : va_A [(h, .inr (16, [.ref l1, .ref l2, .ref l3, .ref l4, .ref l5, .ref l6, .ref l7, .ref l8, .ref l9, .ref ch, .ref co, .int 0, .int 4, .int (-40), .int 20, .int 0, .int 0, .int 100, .int 60, .int 14])), (l7, .inr (5, [.int 0, .ref e, .int 0]))] s.heap.size = A at hD hE0 ⊢
  have hA : ∀ q : Nat, s.heap.size ≤ q → A q := fun q h => by rw [← hAe]; exact Or.inr h
  have hS : va_S A s.heap s.heap [] := va_S.rf
  have hE := hE0
  have hP : va_P D vwCl [(h, .inr (16, [.ref l1, .ref l2, .ref l3, .ref l4, .ref l5, .ref l6, .ref l7, .ref l8, .ref l9, .ref ch, .ref co, .int 0, .int 4, .int (-40), .int 20, .int 0, .int 0, .int 100, .int 60, .int 14])), (l7, .inr (5, [.int 0, .ref e, .int 0]))] s.heap := hP
  have hl := lv_entry ([.ref h, .int p0, .int p1]) (n := 5) (Nat.le_of_ble_eq_true rfl)
  rw [lg_entry_eq]
  generalize (lg_sl ([.ref h, .int p0, .int p1]) ++ List.replicate (5 - (lg_sl ([.ref h, .int p0, .int p1])).length) Slot.unset).toArray = ls at hl ⊢
  have hl : lv_has ls 5 [(0, .ref h), (1, .int p0), (2, .int p1)] := hl
  refine lv_aload_n hx hb dX10_offset_0 rfl (lv_at hl 0 rfl) ?_
  refine lv_iload_n hx hb dX10_offset_1 rfl (lv_at hl 1 rfl) ?_
  have hFc := va_free (wc := [(h, .inr (16, [.ref l1, .ref l2, .ref l3, .ref l4, .ref l5, .ref l6, .ref l7, .ref l8, .ref l9, .ref ch, .ref co, .int 0, .int 4, .int (-40), .int 20, .int 0, .int 0, .int 100, .int 60, .int 14])), (l7, .inr (5, [.int 0, .ref e, .int 0]))]) hD hS hA [0, 1] rfl
  refine vx_callv (vx_runV (As := [.int p0]) (rest := []) ⟨hx, hb, hml, hown, hts⟩ (c_X10_packNumbered l hst D e h l1 l2 l3 l4 l5 l6 l7 l8 l9 ch co p0 s.heap.size) (cwV 1 hts gX10_offset_X10_packNumbered rfl rfl rfl (by decide +kernel) ⟨Nat.le_of_ble_eq_true rfl, Nat.le_of_ble_eq_true rfl⟩) ⟨cIn_blind, va_recv hK hP (ci := 16) (q0 := 0) rfl rfl, cIn_go hK hP hD hE hS hA [0, 1] rfl rfl (by decide) [] rfl⟩ rfl rfl hl.1 rfl (lv_room (Nat.le_of_ble_eq_true rfl)) dX10_offset_2 ⟨Nat.le_of_ble_eq_true rfl, Nat.le_of_ble_eq_true rfl⟩) hS (fun q _ h => hFc q h) hFc (fun q _ h => hFc q h) (fun E ce q9 u t H1 locs ht hvm hpx hB hz1 hk1 hS hce hcv hcl => ?_) (fun u t H1 locs ht hvm hw hB hz1 hk1 hS => ?_)
  · obtain ⟨rfl, hw⟩ := hB
    exact vx_out (fun x hx => (htb x hx).elim) hlocks hce hcv hcl (fun t9 h9 hal => ⟨(), trivial, ⟨rfl, rfl⟩, hS.F h9⟩) hS.2.2 (Nat.le_of_ble_eq_true rfl) (Nat.le_of_ble_eq_true rfl)
  · exact hw.elim
-- X10_drive
def t_X10_drive (p0 : Int32) (p1 : Int32) (p2 : Int32) : Int32 := 3
set_option maxHeartbeats 4000000 in
set_option maxRecDepth 100000 in
theorem c_X10_drive (l : Launch) (hst : l.stackTraces = false) (D : va_G) (e : Nat) (h : Nat) (l1 : Nat) (l2 : Nat) (l3 : Nat) (l4 : Nat) (l5 : Nat) (l6 : Nat) (l7 : Nat) (l8 : Nat) (l9 : Nat) (ch : Nat) (co : Nat) (p0 : Int32) (p1 : Int32) (p2 : Int32) (sz : Nat) : vx_Met l yX10_drive wsX10_drive ({ frames := 14, cells := 1, slots := 6, locals := 280 }) (va_Pc [.ref h, .int p0, .int p1, .int p2] (cIn D [] [(h, .inr (16, [.ref l1, .ref l2, .ref l3, .ref l4, .ref l5, .ref l6, .ref l7, .ref l8, .ref l9, .ref ch, .ref co, .int 0, .int 4, .int (-40), .int 20, .int 0, .int 0, .int 100, .int 60, .int 14])), (l7, .inr (5, [.int 0, .ref e, .int 0]))] e sz)) (va_Qv (fun (_ : Unit) => False) (fun (_ : Unit) (_ : State) => True) (va_A [(h, .inr (16, [.ref l1, .ref l2, .ref l3, .ref l4, .ref l5, .ref l6, .ref l7, .ref l8, .ref l9, .ref ch, .ref co, .int 0, .int 4, .int (-40), .int 20, .int 0, .int 0, .int 100, .int 60, .int 14])), (l7, .inr (5, [.int 0, .ref e, .int 0]))] sz)) (vx_X (fun _ : Unit => True) (fun (E : String) (_ : Unit) (_ : State) => (E = "java/lang/IndexOutOfBoundsException" ∧ t_X10_drive p0 p1 p2 = 3)) (va_A [(h, .inr (16, [.ref l1, .ref l2, .ref l3, .ref l4, .ref l5, .ref l6, .ref l7, .ref l8, .ref l9, .ref ch, .ref co, .int 0, .int 4, .int (-40), .int 20, .int 0, .int 0, .int 100, .int 60, .int 14])), (l7, .inr (5, [.int 0, .ref e, .int 0]))] sz)) 1 6 (va_A [(h, .inr (16, [.ref l1, .ref l2, .ref l3, .ref l4, .ref l5, .ref l6, .ref l7, .ref l8, .ref l9, .ref ch, .ref co, .int 0, .int 4, .int (-40), .int 20, .int 0, .int 0, .int 100, .int 60, .int 14])), (l7, .inr (5, [.int 0, .ref e, .int 0]))] sz) := by
  refine vx_ofW (cc := cX10_drive) (maxL := 6) (ret := (some .int)) (by decide +kernel) rfl ?_
  intro p e9 s m args below meth c s₁ B hml htb hv
  obtain ⟨rfl, hsz, hP, hK, hD0, hE0⟩ := hv
  have hx := B.exec
  have hb := B.bytes
  have hr := B.returns
  have hts := atoms_spec (ws := wsX10_drive) B.pre
  have hown : s.vm.findClass RX10 = some m.cls := findClass_of_methodNamed B.named
  have hlocks := B.notSynchronized
  subst hsz
  have hD := hD0.self (sz := s.heap.size)
  generalize hAe : va_A [(h, .inr (16, [.ref l1, .ref l2, .ref l3, .ref l4, .ref l5, .ref l6, .ref l7, .ref l8, .ref l9, .ref ch, .ref co, .int 0, .int 4, .int (-40), .int 20, .int 0, .int 0, .int 100, .int 60, .int 14])), (l7, .inr (5, [.int 0, .ref e, .int 0]))] s.heap.size = A at hD hE0 ⊢
  have hA : ∀ q : Nat, s.heap.size ≤ q → A q := fun q h => by rw [← hAe]; exact Or.inr h
  have hS : va_S A s.heap s.heap [] := va_S.rf
  have hE := hE0
  have hP : va_P D vwCl [(h, .inr (16, [.ref l1, .ref l2, .ref l3, .ref l4, .ref l5, .ref l6, .ref l7, .ref l8, .ref l9, .ref ch, .ref co, .int 0, .int 4, .int (-40), .int 20, .int 0, .int 0, .int 100, .int 60, .int 14])), (l7, .inr (5, [.int 0, .ref e, .int 0]))] s.heap := hP
  have hl := lv_entry ([.ref h, .int p0, .int p1, .int p2]) (n := 6) (Nat.le_of_ble_eq_true rfl)
  rw [lg_entry_eq]
  generalize (lg_sl ([.ref h, .int p0, .int p1, .int p2]) ++ List.replicate (6 - (lg_sl ([.ref h, .int p0, .int p1, .int p2])).length) Slot.unset).toArray = ls at hl ⊢
  have hl : lv_has ls 6 [(0, .ref h), (1, .int p0), (2, .int p1), (3, .int p2)] := hl
  refine lv_aload_n hx hb dX10_drive_0 rfl (lv_at hl 0 rfl) ?_
  refine lv_iload_n hx hb dX10_drive_1 rfl (lv_at hl 1 rfl) ?_
  have hFc := va_free (wc := [(h, .inr (16, [.ref l1, .ref l2, .ref l3, .ref l4, .ref l5, .ref l6, .ref l7, .ref l8, .ref l9, .ref ch, .ref co, .int 0, .int 4, .int (-40), .int 20, .int 0, .int 0, .int 100, .int 60, .int 14])), (l7, .inr (5, [.int 0, .ref e, .int 0]))]) hD hS hA [0, 1] rfl
  refine vx_callv (vx_runV (As := [.int p0]) (rest := []) ⟨hx, hb, hml, hown, hts⟩ (c_X10_packNumbered l hst D e h l1 l2 l3 l4 l5 l6 l7 l8 l9 ch co p0 s.heap.size) (cwV 1 hts gX10_drive_X10_packNumbered rfl rfl rfl (by decide +kernel) ⟨Nat.le_of_ble_eq_true rfl, Nat.le_of_ble_eq_true rfl⟩) ⟨cIn_blind, va_recv hK hP (ci := 16) (q0 := 0) rfl rfl, cIn_go hK hP hD hE hS hA [0, 1] rfl rfl (by decide) [] rfl⟩ rfl rfl hl.1 rfl (lv_room (Nat.le_of_ble_eq_true rfl)) dX10_drive_2 ⟨Nat.le_of_ble_eq_true rfl, Nat.le_of_ble_eq_true rfl⟩) hS (fun q _ h => hFc q h) hFc (fun q _ h => hFc q h) (fun E ce q9 u t H1 locs ht hvm hpx hB hz1 hk1 hS hce hcv hcl => ?_) (fun u t H1 locs ht hvm hw hB hz1 hk1 hS => ?_)
  · obtain ⟨rfl, hw⟩ := hB
    exact vx_out (fun x hx => (htb x hx).elim) hlocks hce hcv hcl (fun t9 h9 hal => ⟨(), trivial, ⟨rfl, rfl⟩, hS.F h9⟩) hS.2.2 (Nat.le_of_ble_eq_true rfl) (Nat.le_of_ble_eq_true rfl)
  · exact hw.elim
-- X10_rest
def t_X10_rest (p0 : Int32) (p1 : Int32) : Int32 := 3
set_option maxHeartbeats 4000000 in
set_option maxRecDepth 100000 in
theorem c_X10_rest (l : Launch) (hst : l.stackTraces = false) (D : va_G) (e : Nat) (h : Nat) (l1 : Nat) (l2 : Nat) (l3 : Nat) (l4 : Nat) (l5 : Nat) (l6 : Nat) (l7 : Nat) (l8 : Nat) (l9 : Nat) (ch : Nat) (co : Nat) (p0 : Int32) (p1 : Int32) (sz : Nat) : vx_Met l yX10_rest wsX10_rest ({ frames := 14, cells := 1, slots := 6, locals := 280 }) (va_Pc [.ref h, .int p0, .int p1] (cIn D [] [(h, .inr (16, [.ref l1, .ref l2, .ref l3, .ref l4, .ref l5, .ref l6, .ref l7, .ref l8, .ref l9, .ref ch, .ref co, .int 0, .int 4, .int (-40), .int 20, .int 0, .int 0, .int 100, .int 60, .int 14])), (l7, .inr (5, [.int 0, .ref e, .int 0]))] e sz)) (va_Qv (fun (_ : Unit) => False) (fun (_ : Unit) (_ : State) => True) (va_A [(h, .inr (16, [.ref l1, .ref l2, .ref l3, .ref l4, .ref l5, .ref l6, .ref l7, .ref l8, .ref l9, .ref ch, .ref co, .int 0, .int 4, .int (-40), .int 20, .int 0, .int 0, .int 100, .int 60, .int 14])), (l7, .inr (5, [.int 0, .ref e, .int 0]))] sz)) (vx_X (fun _ : Unit => True) (fun (E : String) (_ : Unit) (_ : State) => (E = "java/lang/IndexOutOfBoundsException" ∧ t_X10_rest p0 p1 = 3)) (va_A [(h, .inr (16, [.ref l1, .ref l2, .ref l3, .ref l4, .ref l5, .ref l6, .ref l7, .ref l8, .ref l9, .ref ch, .ref co, .int 0, .int 4, .int (-40), .int 20, .int 0, .int 0, .int 100, .int 60, .int 14])), (l7, .inr (5, [.int 0, .ref e, .int 0]))] sz)) 1 6 (va_A [(h, .inr (16, [.ref l1, .ref l2, .ref l3, .ref l4, .ref l5, .ref l6, .ref l7, .ref l8, .ref l9, .ref ch, .ref co, .int 0, .int 4, .int (-40), .int 20, .int 0, .int 0, .int 100, .int 60, .int 14])), (l7, .inr (5, [.int 0, .ref e, .int 0]))] sz) := by
  refine vx_ofW (cc := cX10_rest) (maxL := 5) (ret := (some .int)) (by decide +kernel) rfl ?_
  intro p e9 s m args below meth c s₁ B hml htb hv
  obtain ⟨rfl, hsz, hP, hK, hD0, hE0⟩ := hv
  have hx := B.exec
  have hb := B.bytes
  have hr := B.returns
  have hts := atoms_spec (ws := wsX10_rest) B.pre
  have hown : s.vm.findClass RX10 = some m.cls := findClass_of_methodNamed B.named
  have hlocks := B.notSynchronized
  subst hsz
  have hD := hD0.self (sz := s.heap.size)
  generalize hAe : va_A [(h, .inr (16, [.ref l1, .ref l2, .ref l3, .ref l4, .ref l5, .ref l6, .ref l7, .ref l8, .ref l9, .ref ch, .ref co, .int 0, .int 4, .int (-40), .int 20, .int 0, .int 0, .int 100, .int 60, .int 14])), (l7, .inr (5, [.int 0, .ref e, .int 0]))] s.heap.size = A at hD hE0 ⊢
  have hA : ∀ q : Nat, s.heap.size ≤ q → A q := fun q h => by rw [← hAe]; exact Or.inr h
  have hS : va_S A s.heap s.heap [] := va_S.rf
  have hE := hE0
  have hP : va_P D vwCl [(h, .inr (16, [.ref l1, .ref l2, .ref l3, .ref l4, .ref l5, .ref l6, .ref l7, .ref l8, .ref l9, .ref ch, .ref co, .int 0, .int 4, .int (-40), .int 20, .int 0, .int 0, .int 100, .int 60, .int 14])), (l7, .inr (5, [.int 0, .ref e, .int 0]))] s.heap := hP
  have hl := lv_entry ([.ref h, .int p0, .int p1]) (n := 5) (Nat.le_of_ble_eq_true rfl)
  rw [lg_entry_eq]
  generalize (lg_sl ([.ref h, .int p0, .int p1]) ++ List.replicate (5 - (lg_sl ([.ref h, .int p0, .int p1])).length) Slot.unset).toArray = ls at hl ⊢
  have hl : lv_has ls 5 [(0, .ref h), (1, .int p0), (2, .int p1)] := hl
  refine lv_aload_n hx hb dX10_rest_0 rfl (lv_at hl 0 rfl) ?_
  refine lv_iload_n hx hb dX10_rest_1 rfl (lv_at hl 1 rfl) ?_
  have hFc := va_free (wc := [(h, .inr (16, [.ref l1, .ref l2, .ref l3, .ref l4, .ref l5, .ref l6, .ref l7, .ref l8, .ref l9, .ref ch, .ref co, .int 0, .int 4, .int (-40), .int 20, .int 0, .int 0, .int 100, .int 60, .int 14])), (l7, .inr (5, [.int 0, .ref e, .int 0]))]) hD hS hA [0, 1] rfl
  refine vx_callv (vx_runV (As := [.int p0]) (rest := []) ⟨hx, hb, hml, hown, hts⟩ (c_X10_packNumbered l hst D e h l1 l2 l3 l4 l5 l6 l7 l8 l9 ch co p0 s.heap.size) (cwV 1 hts gX10_rest_X10_packNumbered rfl rfl rfl (by decide +kernel) ⟨Nat.le_of_ble_eq_true rfl, Nat.le_of_ble_eq_true rfl⟩) ⟨cIn_blind, va_recv hK hP (ci := 16) (q0 := 0) rfl rfl, cIn_go hK hP hD hE hS hA [0, 1] rfl rfl (by decide) [] rfl⟩ rfl rfl hl.1 rfl (lv_room (Nat.le_of_ble_eq_true rfl)) dX10_rest_2 ⟨Nat.le_of_ble_eq_true rfl, Nat.le_of_ble_eq_true rfl⟩) hS (fun q _ h => hFc q h) hFc (fun q _ h => hFc q h) (fun E ce q9 u t H1 locs ht hvm hpx hB hz1 hk1 hS hce hcv hcl => ?_) (fun u t H1 locs ht hvm hw hB hz1 hk1 hS => ?_)
  · obtain ⟨rfl, hw⟩ := hB
    exact vx_out (fun x hx => (htb x hx).elim) hlocks hce hcv hcl (fun t9 h9 hal => ⟨(), trivial, ⟨rfl, rfl⟩, hS.F h9⟩) hS.2.2 (Nat.le_of_ble_eq_true rfl) (Nat.le_of_ble_eq_true rfl)
  · exact hw.elim
-- X10_on
def t_X10_on (p0 : Int32) : Int32 := 3
set_option maxHeartbeats 4000000 in
set_option maxRecDepth 100000 in
theorem c_X10_on (l : Launch) (hst : l.stackTraces = false) (D : va_G) (e : Nat) (h : Nat) (l1 : Nat) (l2 : Nat) (l3 : Nat) (l4 : Nat) (l5 : Nat) (l6 : Nat) (l7 : Nat) (l8 : Nat) (l9 : Nat) (ch : Nat) (co : Nat) (p0 : Int32) (sz : Nat) : vx_Met l yX10_on wsX10_on ({ frames := 14, cells := 1, slots := 6, locals := 280 }) (va_Pc [.ref h, .int p0] (cIn D [] [(h, .inr (16, [.ref l1, .ref l2, .ref l3, .ref l4, .ref l5, .ref l6, .ref l7, .ref l8, .ref l9, .ref ch, .ref co, .int 0, .int 4, .int (-40), .int 20, .int 0, .int 0, .int 100, .int 60, .int 14])), (l7, .inr (5, [.int 0, .ref e, .int 0]))] e sz)) (va_Qv (fun (_ : Unit) => False) (fun (_ : Unit) (_ : State) => True) (va_A [(h, .inr (16, [.ref l1, .ref l2, .ref l3, .ref l4, .ref l5, .ref l6, .ref l7, .ref l8, .ref l9, .ref ch, .ref co, .int 0, .int 4, .int (-40), .int 20, .int 0, .int 0, .int 100, .int 60, .int 14])), (l7, .inr (5, [.int 0, .ref e, .int 0]))] sz)) (vx_X (fun _ : Unit => True) (fun (E : String) (_ : Unit) (_ : State) => (E = "java/lang/IndexOutOfBoundsException" ∧ t_X10_on p0 = 3)) (va_A [(h, .inr (16, [.ref l1, .ref l2, .ref l3, .ref l4, .ref l5, .ref l6, .ref l7, .ref l8, .ref l9, .ref ch, .ref co, .int 0, .int 4, .int (-40), .int 20, .int 0, .int 0, .int 100, .int 60, .int 14])), (l7, .inr (5, [.int 0, .ref e, .int 0]))] sz)) 1 6 (va_A [(h, .inr (16, [.ref l1, .ref l2, .ref l3, .ref l4, .ref l5, .ref l6, .ref l7, .ref l8, .ref l9, .ref ch, .ref co, .int 0, .int 4, .int (-40), .int 20, .int 0, .int 0, .int 100, .int 60, .int 14])), (l7, .inr (5, [.int 0, .ref e, .int 0]))] sz) := by
  refine vx_ofW (cc := cX10_on) (maxL := 4) (ret := (some .boolean)) (by decide +kernel) rfl ?_
  intro p e9 s m args below meth c s₁ B hml htb hv
  obtain ⟨rfl, hsz, hP, hK, hD0, hE0⟩ := hv
  have hx := B.exec
  have hb := B.bytes
  have hr := B.returns
  have hts := atoms_spec (ws := wsX10_on) B.pre
  have hown : s.vm.findClass RX10 = some m.cls := findClass_of_methodNamed B.named
  have hlocks := B.notSynchronized
  subst hsz
  have hD := hD0.self (sz := s.heap.size)
  generalize hAe : va_A [(h, .inr (16, [.ref l1, .ref l2, .ref l3, .ref l4, .ref l5, .ref l6, .ref l7, .ref l8, .ref l9, .ref ch, .ref co, .int 0, .int 4, .int (-40), .int 20, .int 0, .int 0, .int 100, .int 60, .int 14])), (l7, .inr (5, [.int 0, .ref e, .int 0]))] s.heap.size = A at hD hE0 ⊢
  have hA : ∀ q : Nat, s.heap.size ≤ q → A q := fun q h => by rw [← hAe]; exact Or.inr h
  have hS : va_S A s.heap s.heap [] := va_S.rf
  have hE := hE0
  have hP : va_P D vwCl [(h, .inr (16, [.ref l1, .ref l2, .ref l3, .ref l4, .ref l5, .ref l6, .ref l7, .ref l8, .ref l9, .ref ch, .ref co, .int 0, .int 4, .int (-40), .int 20, .int 0, .int 0, .int 100, .int 60, .int 14])), (l7, .inr (5, [.int 0, .ref e, .int 0]))] s.heap := hP
  have hl := lv_entry ([.ref h, .int p0]) (n := 4) (Nat.le_of_ble_eq_true rfl)
  rw [lg_entry_eq]
  generalize (lg_sl ([.ref h, .int p0]) ++ List.replicate (4 - (lg_sl ([.ref h, .int p0])).length) Slot.unset).toArray = ls at hl ⊢
  have hl : lv_has ls 4 [(0, .ref h), (1, .int p0)] := hl
  refine lv_aload_n hx hb dX10_on_0 rfl (lv_at hl 0 rfl) ?_
  refine lv_iload_n hx hb dX10_on_1 rfl (lv_at hl 1 rfl) ?_
  have hFc := va_free (wc := [(h, .inr (16, [.ref l1, .ref l2, .ref l3, .ref l4, .ref l5, .ref l6, .ref l7, .ref l8, .ref l9, .ref ch, .ref co, .int 0, .int 4, .int (-40), .int 20, .int 0, .int 0, .int 100, .int 60, .int 14])), (l7, .inr (5, [.int 0, .ref e, .int 0]))]) hD hS hA [0, 1] rfl
  refine vx_callv (vx_runV (As := [.int p0]) (rest := []) ⟨hx, hb, hml, hown, hts⟩ (c_X10_packNumbered l hst D e h l1 l2 l3 l4 l5 l6 l7 l8 l9 ch co p0 s.heap.size) (cwV 1 hts gX10_on_X10_packNumbered rfl rfl rfl (by decide +kernel) ⟨Nat.le_of_ble_eq_true rfl, Nat.le_of_ble_eq_true rfl⟩) ⟨cIn_blind, va_recv hK hP (ci := 16) (q0 := 0) rfl rfl, cIn_go hK hP hD hE hS hA [0, 1] rfl rfl (by decide) [] rfl⟩ rfl rfl hl.1 rfl (lv_room (Nat.le_of_ble_eq_true rfl)) dX10_on_2 ⟨Nat.le_of_ble_eq_true rfl, Nat.le_of_ble_eq_true rfl⟩) hS (fun q _ h => hFc q h) hFc (fun q _ h => hFc q h) (fun E ce q9 u t H1 locs ht hvm hpx hB hz1 hk1 hS hce hcv hcl => ?_) (fun u t H1 locs ht hvm hw hB hz1 hk1 hS => ?_)
  · obtain ⟨rfl, hw⟩ := hB
    exact vx_out (fun x hx => (htb x hx).elim) hlocks hce hcv hcl (fun t9 h9 hal => ⟨(), trivial, ⟨rfl, rfl⟩, hS.F h9⟩) hS.2.2 (Nat.le_of_ble_eq_true rfl) (Nat.le_of_ble_eq_true rfl)
  · exact hw.elim
-- X10_stage
def t_X10_stage (p0 : Int32) : Int32 := 3
set_option maxHeartbeats 4000000 in
set_option maxRecDepth 100000 in
theorem c_X10_stage (l : Launch) (hst : l.stackTraces = false) (D : va_G) (e : Nat) (h : Nat) (l1 : Nat) (l2 : Nat) (l3 : Nat) (l4 : Nat) (l5 : Nat) (l6 : Nat) (l7 : Nat) (l8 : Nat) (l9 : Nat) (ch : Nat) (co : Nat) (p0 : Int32) (sz : Nat) : vx_Met l yX10_stage wsX10_stage ({ frames := 14, cells := 1, slots := 6, locals := 280 }) (va_Pc [.ref h, .int p0] (cIn D [] [(h, .inr (16, [.ref l1, .ref l2, .ref l3, .ref l4, .ref l5, .ref l6, .ref l7, .ref l8, .ref l9, .ref ch, .ref co, .int 0, .int 4, .int (-40), .int 20, .int 0, .int 0, .int 100, .int 60, .int 14])), (l7, .inr (5, [.int 0, .ref e, .int 0]))] e sz)) (va_Qv (fun (_ : Unit) => False) (fun (_ : Unit) (_ : State) => True) (va_A [(h, .inr (16, [.ref l1, .ref l2, .ref l3, .ref l4, .ref l5, .ref l6, .ref l7, .ref l8, .ref l9, .ref ch, .ref co, .int 0, .int 4, .int (-40), .int 20, .int 0, .int 0, .int 100, .int 60, .int 14])), (l7, .inr (5, [.int 0, .ref e, .int 0]))] sz)) (vx_X (fun _ : Unit => True) (fun (E : String) (_ : Unit) (_ : State) => (E = "java/lang/IndexOutOfBoundsException" ∧ t_X10_stage p0 = 3)) (va_A [(h, .inr (16, [.ref l1, .ref l2, .ref l3, .ref l4, .ref l5, .ref l6, .ref l7, .ref l8, .ref l9, .ref ch, .ref co, .int 0, .int 4, .int (-40), .int 20, .int 0, .int 0, .int 100, .int 60, .int 14])), (l7, .inr (5, [.int 0, .ref e, .int 0]))] sz)) 1 6 (va_A [(h, .inr (16, [.ref l1, .ref l2, .ref l3, .ref l4, .ref l5, .ref l6, .ref l7, .ref l8, .ref l9, .ref ch, .ref co, .int 0, .int 4, .int (-40), .int 20, .int 0, .int 0, .int 100, .int 60, .int 14])), (l7, .inr (5, [.int 0, .ref e, .int 0]))] sz) := by
  refine vx_ofW (cc := cX10_stage) (maxL := 2) (ret := (some .char)) (by decide +kernel) rfl ?_
  intro p e9 s m args below meth c s₁ B hml htb hv
  obtain ⟨rfl, hsz, hP, hK, hD0, hE0⟩ := hv
  have hx := B.exec
  have hb := B.bytes
  have hr := B.returns
  have hts := atoms_spec (ws := wsX10_stage) B.pre
  have hown : s.vm.findClass RX10 = some m.cls := findClass_of_methodNamed B.named
  have hlocks := B.notSynchronized
  subst hsz
  have hD := hD0.self (sz := s.heap.size)
  generalize hAe : va_A [(h, .inr (16, [.ref l1, .ref l2, .ref l3, .ref l4, .ref l5, .ref l6, .ref l7, .ref l8, .ref l9, .ref ch, .ref co, .int 0, .int 4, .int (-40), .int 20, .int 0, .int 0, .int 100, .int 60, .int 14])), (l7, .inr (5, [.int 0, .ref e, .int 0]))] s.heap.size = A at hD hE0 ⊢
  have hA : ∀ q : Nat, s.heap.size ≤ q → A q := fun q h => by rw [← hAe]; exact Or.inr h
  have hS : va_S A s.heap s.heap [] := va_S.rf
  have hE := hE0
  have hP : va_P D vwCl [(h, .inr (16, [.ref l1, .ref l2, .ref l3, .ref l4, .ref l5, .ref l6, .ref l7, .ref l8, .ref l9, .ref ch, .ref co, .int 0, .int 4, .int (-40), .int 20, .int 0, .int 0, .int 100, .int 60, .int 14])), (l7, .inr (5, [.int 0, .ref e, .int 0]))] s.heap := hP
  have hl := lv_entry ([.ref h, .int p0]) (n := 2) (Nat.le_of_ble_eq_true rfl)
  rw [lg_entry_eq]
  generalize (lg_sl ([.ref h, .int p0]) ++ List.replicate (2 - (lg_sl ([.ref h, .int p0])).length) Slot.unset).toArray = ls at hl ⊢
  have hl : lv_has ls 2 [(0, .ref h), (1, .int p0)] := hl
  refine lv_aload_n hx hb dX10_stage_0 rfl (lv_at hl 0 rfl) ?_
  refine lv_iload_n hx hb dX10_stage_1 rfl (lv_at hl 1 rfl) ?_
  have hFc := va_free (wc := [(h, .inr (16, [.ref l1, .ref l2, .ref l3, .ref l4, .ref l5, .ref l6, .ref l7, .ref l8, .ref l9, .ref ch, .ref co, .int 0, .int 4, .int (-40), .int 20, .int 0, .int 0, .int 100, .int 60, .int 14])), (l7, .inr (5, [.int 0, .ref e, .int 0]))]) hD hS hA [0, 1] rfl
  refine vx_callv (vx_runV (As := [.int p0]) (rest := []) ⟨hx, hb, hml, hown, hts⟩ (c_X10_packNumbered l hst D e h l1 l2 l3 l4 l5 l6 l7 l8 l9 ch co p0 s.heap.size) (cwV 1 hts gX10_stage_X10_packNumbered rfl rfl rfl (by decide +kernel) ⟨Nat.le_of_ble_eq_true rfl, Nat.le_of_ble_eq_true rfl⟩) ⟨cIn_blind, va_recv hK hP (ci := 16) (q0 := 0) rfl rfl, cIn_go hK hP hD hE hS hA [0, 1] rfl rfl (by decide) [] rfl⟩ rfl rfl hl.1 rfl (lv_room (Nat.le_of_ble_eq_true rfl)) dX10_stage_2 ⟨Nat.le_of_ble_eq_true rfl, Nat.le_of_ble_eq_true rfl⟩) hS (fun q _ h => hFc q h) hFc (fun q _ h => hFc q h) (fun E ce q9 u t H1 locs ht hvm hpx hB hz1 hk1 hS hce hcv hcl => ?_) (fun u t H1 locs ht hvm hw hB hz1 hk1 hS => ?_)
  · obtain ⟨rfl, hw⟩ := hB
    exact vx_out (fun x hx => (htb x hx).elim) hlocks hce hcv hcl (fun t9 h9 hal => ⟨(), trivial, ⟨rfl, rfl⟩, hS.F h9⟩) hS.2.2 (Nat.le_of_ble_eq_true rfl) (Nat.le_of_ble_eq_true rfl)
  · exact hw.elim
-- X10_state
def t_X10_state (p0 : Int32) : Int32 := 3
set_option maxHeartbeats 4000000 in
set_option maxRecDepth 100000 in
theorem c_X10_state (l : Launch) (hst : l.stackTraces = false) (D : va_G) (e : Nat) (h : Nat) (l1 : Nat) (l2 : Nat) (l3 : Nat) (l4 : Nat) (l5 : Nat) (l6 : Nat) (l7 : Nat) (l8 : Nat) (l9 : Nat) (ch : Nat) (co : Nat) (p0 : Int32) (sz : Nat) : vx_Met l yX10_state wsX10_state ({ frames := 14, cells := 1, slots := 6, locals := 280 }) (va_Pc [.ref h, .int p0] (cIn D [] [(h, .inr (16, [.ref l1, .ref l2, .ref l3, .ref l4, .ref l5, .ref l6, .ref l7, .ref l8, .ref l9, .ref ch, .ref co, .int 0, .int 4, .int (-40), .int 20, .int 0, .int 0, .int 100, .int 60, .int 14])), (l7, .inr (5, [.int 0, .ref e, .int 0]))] e sz)) (va_Qv (fun (_ : Unit) => False) (fun (_ : Unit) (_ : State) => True) (va_A [(h, .inr (16, [.ref l1, .ref l2, .ref l3, .ref l4, .ref l5, .ref l6, .ref l7, .ref l8, .ref l9, .ref ch, .ref co, .int 0, .int 4, .int (-40), .int 20, .int 0, .int 0, .int 100, .int 60, .int 14])), (l7, .inr (5, [.int 0, .ref e, .int 0]))] sz)) (vx_X (fun _ : Unit => True) (fun (E : String) (_ : Unit) (_ : State) => (E = "java/lang/IndexOutOfBoundsException" ∧ t_X10_state p0 = 3)) (va_A [(h, .inr (16, [.ref l1, .ref l2, .ref l3, .ref l4, .ref l5, .ref l6, .ref l7, .ref l8, .ref l9, .ref ch, .ref co, .int 0, .int 4, .int (-40), .int 20, .int 0, .int 0, .int 100, .int 60, .int 14])), (l7, .inr (5, [.int 0, .ref e, .int 0]))] sz)) 1 6 (va_A [(h, .inr (16, [.ref l1, .ref l2, .ref l3, .ref l4, .ref l5, .ref l6, .ref l7, .ref l8, .ref l9, .ref ch, .ref co, .int 0, .int 4, .int (-40), .int 20, .int 0, .int 0, .int 100, .int 60, .int 14])), (l7, .inr (5, [.int 0, .ref e, .int 0]))] sz) := by
  refine vx_ofW (cc := cX10_state) (maxL := 2) (ret := (some .int)) (by decide +kernel) rfl ?_
  intro p e9 s m args below meth c s₁ B hml htb hv
  obtain ⟨rfl, hsz, hP, hK, hD0, hE0⟩ := hv
  have hx := B.exec
  have hb := B.bytes
  have hr := B.returns
  have hts := atoms_spec (ws := wsX10_state) B.pre
  have hown : s.vm.findClass RX10 = some m.cls := findClass_of_methodNamed B.named
  have hlocks := B.notSynchronized
  subst hsz
  have hD := hD0.self (sz := s.heap.size)
  generalize hAe : va_A [(h, .inr (16, [.ref l1, .ref l2, .ref l3, .ref l4, .ref l5, .ref l6, .ref l7, .ref l8, .ref l9, .ref ch, .ref co, .int 0, .int 4, .int (-40), .int 20, .int 0, .int 0, .int 100, .int 60, .int 14])), (l7, .inr (5, [.int 0, .ref e, .int 0]))] s.heap.size = A at hD hE0 ⊢
  have hA : ∀ q : Nat, s.heap.size ≤ q → A q := fun q h => by rw [← hAe]; exact Or.inr h
  have hS : va_S A s.heap s.heap [] := va_S.rf
  have hE := hE0
  have hP : va_P D vwCl [(h, .inr (16, [.ref l1, .ref l2, .ref l3, .ref l4, .ref l5, .ref l6, .ref l7, .ref l8, .ref l9, .ref ch, .ref co, .int 0, .int 4, .int (-40), .int 20, .int 0, .int 0, .int 100, .int 60, .int 14])), (l7, .inr (5, [.int 0, .ref e, .int 0]))] s.heap := hP
  have hl := lv_entry ([.ref h, .int p0]) (n := 2) (Nat.le_of_ble_eq_true rfl)
  rw [lg_entry_eq]
  generalize (lg_sl ([.ref h, .int p0]) ++ List.replicate (2 - (lg_sl ([.ref h, .int p0])).length) Slot.unset).toArray = ls at hl ⊢
  have hl : lv_has ls 2 [(0, .ref h), (1, .int p0)] := hl
  refine lv_aload_n hx hb dX10_state_0 rfl (lv_at hl 0 rfl) ?_
  refine lv_iload_n hx hb dX10_state_1 rfl (lv_at hl 1 rfl) ?_
  have hFc := va_free (wc := [(h, .inr (16, [.ref l1, .ref l2, .ref l3, .ref l4, .ref l5, .ref l6, .ref l7, .ref l8, .ref l9, .ref ch, .ref co, .int 0, .int 4, .int (-40), .int 20, .int 0, .int 0, .int 100, .int 60, .int 14])), (l7, .inr (5, [.int 0, .ref e, .int 0]))]) hD hS hA [0, 1] rfl
  refine vx_callv (vx_runV (As := [.int p0]) (rest := []) ⟨hx, hb, hml, hown, hts⟩ (c_X10_packNumbered l hst D e h l1 l2 l3 l4 l5 l6 l7 l8 l9 ch co p0 s.heap.size) (cwV 1 hts gX10_state_X10_packNumbered rfl rfl rfl (by decide +kernel) ⟨Nat.le_of_ble_eq_true rfl, Nat.le_of_ble_eq_true rfl⟩) ⟨cIn_blind, va_recv hK hP (ci := 16) (q0 := 0) rfl rfl, cIn_go hK hP hD hE hS hA [0, 1] rfl rfl (by decide) [] rfl⟩ rfl rfl hl.1 rfl (lv_room (Nat.le_of_ble_eq_true rfl)) dX10_state_2 ⟨Nat.le_of_ble_eq_true rfl, Nat.le_of_ble_eq_true rfl⟩) hS (fun q _ h => hFc q h) hFc (fun q _ h => hFc q h) (fun E ce q9 u t H1 locs ht hvm hpx hB hz1 hk1 hS hce hcv hcl => ?_) (fun u t H1 locs ht hvm hw hB hz1 hk1 hS => ?_)
  · obtain ⟨rfl, hw⟩ := hB
    exact vx_out (fun x hx => (htb x hx).elim) hlocks hce hcv hcl (fun t9 h9 hal => ⟨(), trivial, ⟨rfl, rfl⟩, hS.F h9⟩) hS.2.2 (Nat.le_of_ble_eq_true rfl) (Nat.le_of_ble_eq_true rfl)
  · exact hw.elim
-- X10_recount
def t_X10_recount (p0 : Int32) : Int32 := 3
set_option maxHeartbeats 4000000 in
set_option maxRecDepth 100000 in
theorem c_X10_recount (l : Launch) (hst : l.stackTraces = false) (D : va_G) (e : Nat) (h : Nat) (l1 : Nat) (l2 : Nat) (l3 : Nat) (l4 : Nat) (l5 : Nat) (l6 : Nat) (l7 : Nat) (l8 : Nat) (l9 : Nat) (ch : Nat) (co : Nat) (p0 : Int32) (sz : Nat) : vx_Met l yX10_recount wsX10_recount ({ frames := 14, cells := 1, slots := 6, locals := 280 }) (va_Pc [.ref h, .int p0] (cIn D [] [(h, .inr (16, [.ref l1, .ref l2, .ref l3, .ref l4, .ref l5, .ref l6, .ref l7, .ref l8, .ref l9, .ref ch, .ref co, .int 0, .int 4, .int (-40), .int 20, .int 0, .int 0, .int 100, .int 60, .int 14])), (l7, .inr (5, [.int 0, .ref e, .int 0]))] e sz)) (va_Qv (fun (_ : Unit) => False) (fun (_ : Unit) (_ : State) => True) (va_A [(h, .inr (16, [.ref l1, .ref l2, .ref l3, .ref l4, .ref l5, .ref l6, .ref l7, .ref l8, .ref l9, .ref ch, .ref co, .int 0, .int 4, .int (-40), .int 20, .int 0, .int 0, .int 100, .int 60, .int 14])), (l7, .inr (5, [.int 0, .ref e, .int 0]))] sz)) (vx_X (fun _ : Unit => True) (fun (E : String) (_ : Unit) (_ : State) => (E = "java/lang/IndexOutOfBoundsException" ∧ t_X10_recount p0 = 3)) (va_A [(h, .inr (16, [.ref l1, .ref l2, .ref l3, .ref l4, .ref l5, .ref l6, .ref l7, .ref l8, .ref l9, .ref ch, .ref co, .int 0, .int 4, .int (-40), .int 20, .int 0, .int 0, .int 100, .int 60, .int 14])), (l7, .inr (5, [.int 0, .ref e, .int 0]))] sz)) 1 6 (va_A [(h, .inr (16, [.ref l1, .ref l2, .ref l3, .ref l4, .ref l5, .ref l6, .ref l7, .ref l8, .ref l9, .ref ch, .ref co, .int 0, .int 4, .int (-40), .int 20, .int 0, .int 0, .int 100, .int 60, .int 14])), (l7, .inr (5, [.int 0, .ref e, .int 0]))] sz) := by
  refine vx_ofW (cc := cX10_recount) (maxL := 4) (ret := (some .int)) (by decide +kernel) rfl ?_
  intro p e9 s m args below meth c s₁ B hml htb hv
  obtain ⟨rfl, hsz, hP, hK, hD0, hE0⟩ := hv
  have hx := B.exec
  have hb := B.bytes
  have hr := B.returns
  have hts := atoms_spec (ws := wsX10_recount) B.pre
  have hown : s.vm.findClass RX10 = some m.cls := findClass_of_methodNamed B.named
  have hlocks := B.notSynchronized
  subst hsz
  have hD := hD0.self (sz := s.heap.size)
  generalize hAe : va_A [(h, .inr (16, [.ref l1, .ref l2, .ref l3, .ref l4, .ref l5, .ref l6, .ref l7, .ref l8, .ref l9, .ref ch, .ref co, .int 0, .int 4, .int (-40), .int 20, .int 0, .int 0, .int 100, .int 60, .int 14])), (l7, .inr (5, [.int 0, .ref e, .int 0]))] s.heap.size = A at hD hE0 ⊢
  have hA : ∀ q : Nat, s.heap.size ≤ q → A q := fun q h => by rw [← hAe]; exact Or.inr h
  have hS : va_S A s.heap s.heap [] := va_S.rf
  have hE := hE0
  have hP : va_P D vwCl [(h, .inr (16, [.ref l1, .ref l2, .ref l3, .ref l4, .ref l5, .ref l6, .ref l7, .ref l8, .ref l9, .ref ch, .ref co, .int 0, .int 4, .int (-40), .int 20, .int 0, .int 0, .int 100, .int 60, .int 14])), (l7, .inr (5, [.int 0, .ref e, .int 0]))] s.heap := hP
  have hl := lv_entry ([.ref h, .int p0]) (n := 4) (Nat.le_of_ble_eq_true rfl)
  rw [lg_entry_eq]
  generalize (lg_sl ([.ref h, .int p0]) ++ List.replicate (4 - (lg_sl ([.ref h, .int p0])).length) Slot.unset).toArray = ls at hl ⊢
  have hl : lv_has ls 4 [(0, .ref h), (1, .int p0)] := hl
  refine lv_aload_n hx hb dX10_recount_0 rfl (lv_at hl 0 rfl) ?_
  refine lv_iload_n hx hb dX10_recount_1 rfl (lv_at hl 1 rfl) ?_
  have hFc := va_free (wc := [(h, .inr (16, [.ref l1, .ref l2, .ref l3, .ref l4, .ref l5, .ref l6, .ref l7, .ref l8, .ref l9, .ref ch, .ref co, .int 0, .int 4, .int (-40), .int 20, .int 0, .int 0, .int 100, .int 60, .int 14])), (l7, .inr (5, [.int 0, .ref e, .int 0]))]) hD hS hA [0, 1] rfl
  refine vx_callv (vx_runV (As := [.int p0]) (rest := []) ⟨hx, hb, hml, hown, hts⟩ (c_X10_packNumbered l hst D e h l1 l2 l3 l4 l5 l6 l7 l8 l9 ch co p0 s.heap.size) (cwV 1 hts gX10_recount_X10_packNumbered rfl rfl rfl (by decide +kernel) ⟨Nat.le_of_ble_eq_true rfl, Nat.le_of_ble_eq_true rfl⟩) ⟨cIn_blind, va_recv hK hP (ci := 16) (q0 := 0) rfl rfl, cIn_go hK hP hD hE hS hA [0, 1] rfl rfl (by decide) [] rfl⟩ rfl rfl hl.1 rfl (lv_room (Nat.le_of_ble_eq_true rfl)) dX10_recount_2 ⟨Nat.le_of_ble_eq_true rfl, Nat.le_of_ble_eq_true rfl⟩) hS (fun q _ h => hFc q h) hFc (fun q _ h => hFc q h) (fun E ce q9 u t H1 locs ht hvm hpx hB hz1 hk1 hS hce hcv hcl => ?_) (fun u t H1 locs ht hvm hw hB hz1 hk1 hS => ?_)
  · obtain ⟨rfl, hw⟩ := hB
    exact vx_out (fun x hx => (htb x hx).elim) hlocks hce hcv hcl (fun t9 h9 hal => ⟨(), trivial, ⟨rfl, rfl⟩, hS.F h9⟩) hS.2.2 (Nat.le_of_ble_eq_true rfl) (Nat.le_of_ble_eq_true rfl)
  · exact hw.elim
-- X10_balance
def t_X10_balance (p0 : Int32) : Int32 := 3
set_option maxHeartbeats 4000000 in
set_option maxRecDepth 100000 in
theorem c_X10_balance (l : Launch) (hst : l.stackTraces = false) (D : va_G) (e : Nat) (h : Nat) (l1 : Nat) (l2 : Nat) (l3 : Nat) (l4 : Nat) (l5 : Nat) (l6 : Nat) (l7 : Nat) (l8 : Nat) (l9 : Nat) (ch : Nat) (co : Nat) (p0 : Int32) (sz : Nat) : vx_Met l yX10_balance wsX10_balance ({ frames := 14, cells := 1, slots := 6, locals := 280 }) (va_Pc [.ref h, .int p0] (cIn D [] [(h, .inr (16, [.ref l1, .ref l2, .ref l3, .ref l4, .ref l5, .ref l6, .ref l7, .ref l8, .ref l9, .ref ch, .ref co, .int 0, .int 4, .int (-40), .int 20, .int 0, .int 0, .int 100, .int 60, .int 14])), (l7, .inr (5, [.int 0, .ref e, .int 0]))] e sz)) (va_Qv (fun (_ : Unit) => False) (fun (_ : Unit) (_ : State) => True) (va_A [(h, .inr (16, [.ref l1, .ref l2, .ref l3, .ref l4, .ref l5, .ref l6, .ref l7, .ref l8, .ref l9, .ref ch, .ref co, .int 0, .int 4, .int (-40), .int 20, .int 0, .int 0, .int 100, .int 60, .int 14])), (l7, .inr (5, [.int 0, .ref e, .int 0]))] sz)) (vx_X (fun _ : Unit => True) (fun (E : String) (_ : Unit) (_ : State) => (E = "java/lang/IndexOutOfBoundsException" ∧ t_X10_balance p0 = 3)) (va_A [(h, .inr (16, [.ref l1, .ref l2, .ref l3, .ref l4, .ref l5, .ref l6, .ref l7, .ref l8, .ref l9, .ref ch, .ref co, .int 0, .int 4, .int (-40), .int 20, .int 0, .int 0, .int 100, .int 60, .int 14])), (l7, .inr (5, [.int 0, .ref e, .int 0]))] sz)) 1 6 (va_A [(h, .inr (16, [.ref l1, .ref l2, .ref l3, .ref l4, .ref l5, .ref l6, .ref l7, .ref l8, .ref l9, .ref ch, .ref co, .int 0, .int 4, .int (-40), .int 20, .int 0, .int 0, .int 100, .int 60, .int 14])), (l7, .inr (5, [.int 0, .ref e, .int 0]))] sz) := by
  refine vx_ofW (cc := cX10_balance) (maxL := 7) (ret := (some .int)) (by decide +kernel) rfl ?_
  intro p e9 s m args below meth c s₁ B hml htb hv
  obtain ⟨rfl, hsz, hP, hK, hD0, hE0⟩ := hv
  have hx := B.exec
  have hb := B.bytes
  have hr := B.returns
  have hts := atoms_spec (ws := wsX10_balance) B.pre
  have hown : s.vm.findClass RX10 = some m.cls := findClass_of_methodNamed B.named
  have hlocks := B.notSynchronized
  subst hsz
  have hD := hD0.self (sz := s.heap.size)
  generalize hAe : va_A [(h, .inr (16, [.ref l1, .ref l2, .ref l3, .ref l4, .ref l5, .ref l6, .ref l7, .ref l8, .ref l9, .ref ch, .ref co, .int 0, .int 4, .int (-40), .int 20, .int 0, .int 0, .int 100, .int 60, .int 14])), (l7, .inr (5, [.int 0, .ref e, .int 0]))] s.heap.size = A at hD hE0 ⊢
  have hA : ∀ q : Nat, s.heap.size ≤ q → A q := fun q h => by rw [← hAe]; exact Or.inr h
  have hS : va_S A s.heap s.heap [] := va_S.rf
  have hE := hE0
  have hP : va_P D vwCl [(h, .inr (16, [.ref l1, .ref l2, .ref l3, .ref l4, .ref l5, .ref l6, .ref l7, .ref l8, .ref l9, .ref ch, .ref co, .int 0, .int 4, .int (-40), .int 20, .int 0, .int 0, .int 100, .int 60, .int 14])), (l7, .inr (5, [.int 0, .ref e, .int 0]))] s.heap := hP
  have hl := lv_entry ([.ref h, .int p0]) (n := 7) (Nat.le_of_ble_eq_true rfl)
  rw [lg_entry_eq]
  generalize (lg_sl ([.ref h, .int p0]) ++ List.replicate (7 - (lg_sl ([.ref h, .int p0])).length) Slot.unset).toArray = ls at hl ⊢
  have hl : lv_has ls 7 [(0, .ref h), (1, .int p0)] := hl
  refine lv_aload_n hx hb dX10_balance_0 rfl (lv_at hl 0 rfl) ?_
  refine lv_iload_n hx hb dX10_balance_1 rfl (lv_at hl 1 rfl) ?_
  have hFc := va_free (wc := [(h, .inr (16, [.ref l1, .ref l2, .ref l3, .ref l4, .ref l5, .ref l6, .ref l7, .ref l8, .ref l9, .ref ch, .ref co, .int 0, .int 4, .int (-40), .int 20, .int 0, .int 0, .int 100, .int 60, .int 14])), (l7, .inr (5, [.int 0, .ref e, .int 0]))]) hD hS hA [0, 1] rfl
  refine vx_callv (vx_runV (As := [.int p0]) (rest := []) ⟨hx, hb, hml, hown, hts⟩ (c_X10_packNumbered l hst D e h l1 l2 l3 l4 l5 l6 l7 l8 l9 ch co p0 s.heap.size) (cwV 1 hts gX10_balance_X10_packNumbered rfl rfl rfl (by decide +kernel) ⟨Nat.le_of_ble_eq_true rfl, Nat.le_of_ble_eq_true rfl⟩) ⟨cIn_blind, va_recv hK hP (ci := 16) (q0 := 0) rfl rfl, cIn_go hK hP hD hE hS hA [0, 1] rfl rfl (by decide) [] rfl⟩ rfl rfl hl.1 rfl (lv_room (Nat.le_of_ble_eq_true rfl)) dX10_balance_2 ⟨Nat.le_of_ble_eq_true rfl, Nat.le_of_ble_eq_true rfl⟩) hS (fun q _ h => hFc q h) hFc (fun q _ h => hFc q h) (fun E ce q9 u t H1 locs ht hvm hpx hB hz1 hk1 hS hce hcv hcl => ?_) (fun u t H1 locs ht hvm hw hB hz1 hk1 hS => ?_)
  · obtain ⟨rfl, hw⟩ := hB
    exact vx_out (fun x hx => (htb x hx).elim) hlocks hce hcv hcl (fun t9 h9 hal => ⟨(), trivial, ⟨rfl, rfl⟩, hS.F h9⟩) hS.2.2 (Nat.le_of_ble_eq_true rfl) (Nat.le_of_ble_eq_true rfl)
  · exact hw.elim
-- X10_doubt
def t_X10_doubt (p0 : Int32) (p1 : Int32) (p2 : Int32) : Int32 := 3
set_option maxHeartbeats 4000000 in
set_option maxRecDepth 100000 in
theorem c_X10_doubt (l : Launch) (hst : l.stackTraces = false) (D : va_G) (e : Nat) (h : Nat) (l1 : Nat) (l2 : Nat) (l3 : Nat) (l4 : Nat) (l5 : Nat) (l6 : Nat) (l7 : Nat) (l8 : Nat) (l9 : Nat) (ch : Nat) (co : Nat) (p0 : Int32) (p1 : Int32) (p2 : Int32) (sz : Nat) : vx_Met l yX10_doubt wsX10_doubt ({ frames := 14, cells := 1, slots := 6, locals := 280 }) (va_Pc [.ref h, .int p0, .int p1, .int p2] (cIn D [] [(h, .inr (16, [.ref l1, .ref l2, .ref l3, .ref l4, .ref l5, .ref l6, .ref l7, .ref l8, .ref l9, .ref ch, .ref co, .int 0, .int 4, .int (-40), .int 20, .int 0, .int 0, .int 100, .int 60, .int 14])), (l2, .inr (5, [.int 0, .ref e, .int 0]))] e sz)) (va_Qv (fun (_ : Unit) => False) (fun (_ : Unit) (_ : State) => True) (va_A [(h, .inr (16, [.ref l1, .ref l2, .ref l3, .ref l4, .ref l5, .ref l6, .ref l7, .ref l8, .ref l9, .ref ch, .ref co, .int 0, .int 4, .int (-40), .int 20, .int 0, .int 0, .int 100, .int 60, .int 14])), (l2, .inr (5, [.int 0, .ref e, .int 0]))] sz)) (vx_X (fun _ : Unit => True) (fun (E : String) (_ : Unit) (_ : State) => (E = "java/lang/IndexOutOfBoundsException" ∧ t_X10_doubt p0 p1 p2 = 3)) (va_A [(h, .inr (16, [.ref l1, .ref l2, .ref l3, .ref l4, .ref l5, .ref l6, .ref l7, .ref l8, .ref l9, .ref ch, .ref co, .int 0, .int 4, .int (-40), .int 20, .int 0, .int 0, .int 100, .int 60, .int 14])), (l2, .inr (5, [.int 0, .ref e, .int 0]))] sz)) 1 6 (va_A [(h, .inr (16, [.ref l1, .ref l2, .ref l3, .ref l4, .ref l5, .ref l6, .ref l7, .ref l8, .ref l9, .ref ch, .ref co, .int 0, .int 4, .int (-40), .int 20, .int 0, .int 0, .int 100, .int 60, .int 14])), (l2, .inr (5, [.int 0, .ref e, .int 0]))] sz) := by
  refine vx_ofW (cc := cX10_doubt) (maxL := 4) (ret := (some .int)) (by decide +kernel) rfl ?_
  intro p e9 s m args below meth c s₁ B hml htb hv
  obtain ⟨rfl, hsz, hP, hK, hD0, hE0⟩ := hv
  have hx := B.exec
  have hb := B.bytes
  have hr := B.returns
  have hts := atoms_spec (ws := wsX10_doubt) B.pre
  have hown : s.vm.findClass RX10 = some m.cls := findClass_of_methodNamed B.named
  have hlocks := B.notSynchronized
  subst hsz
  have hD := hD0.self (sz := s.heap.size)
  generalize hAe : va_A [(h, .inr (16, [.ref l1, .ref l2, .ref l3, .ref l4, .ref l5, .ref l6, .ref l7, .ref l8, .ref l9, .ref ch, .ref co, .int 0, .int 4, .int (-40), .int 20, .int 0, .int 0, .int 100, .int 60, .int 14])), (l2, .inr (5, [.int 0, .ref e, .int 0]))] s.heap.size = A at hD hE0 ⊢
  have hA : ∀ q : Nat, s.heap.size ≤ q → A q := fun q h => by rw [← hAe]; exact Or.inr h
  have hS : va_S A s.heap s.heap [] := va_S.rf
  have hE := hE0
  have hP : va_P D vwCl [(h, .inr (16, [.ref l1, .ref l2, .ref l3, .ref l4, .ref l5, .ref l6, .ref l7, .ref l8, .ref l9, .ref ch, .ref co, .int 0, .int 4, .int (-40), .int 20, .int 0, .int 0, .int 100, .int 60, .int 14])), (l2, .inr (5, [.int 0, .ref e, .int 0]))] s.heap := hP
  have hl := lv_entry ([.ref h, .int p0, .int p1, .int p2]) (n := 4) (Nat.le_of_ble_eq_true rfl)
  rw [lg_entry_eq]
  generalize (lg_sl ([.ref h, .int p0, .int p1, .int p2]) ++ List.replicate (4 - (lg_sl ([.ref h, .int p0, .int p1, .int p2])).length) Slot.unset).toArray = ls at hl ⊢
  have hl : lv_has ls 4 [(0, .ref h), (1, .int p0), (2, .int p1), (3, .int p2)] := hl
  refine lv_aload_n hx hb dX10_doubt_0 rfl (lv_at hl 0 rfl) ?_
  refine lv_iload_n hx hb dX10_doubt_1 rfl (lv_at hl 1 rfl) ?_
  refine lv_iload_n hx hb dX10_doubt_2 rfl (lv_at hl 2 rfl) ?_
  have hFc := va_free (wc := [(h, .inr (16, [.ref l1, .ref l2, .ref l3, .ref l4, .ref l5, .ref l6, .ref l7, .ref l8, .ref l9, .ref ch, .ref co, .int 0, .int 4, .int (-40), .int 20, .int 0, .int 0, .int 100, .int 60, .int 14])), (l2, .inr (5, [.int 0, .ref e, .int 0]))]) hD hS hA [0, 1] rfl
  refine vx_callv (vx_runV (As := [.int p0, .int p1]) (rest := []) ⟨hx, hb, hml, hown, hts⟩ (c_X10_coilWithMetre l hst D e h l1 l2 l3 l4 l5 l6 l7 l8 l9 ch co p0 p1 s.heap.size) (cwV 2 hts gX10_doubt_X10_coilWithMetre rfl rfl rfl (by decide +kernel) ⟨Nat.le_of_ble_eq_true rfl, Nat.le_of_ble_eq_true rfl⟩) ⟨cIn_blind, va_recv hK hP (ci := 16) (q0 := 0) rfl rfl, cIn_go hK hP hD hE hS hA [0, 1] rfl rfl (by decide) [] rfl⟩ rfl rfl hl.1 rfl (lv_room (Nat.le_of_ble_eq_true rfl)) dX10_doubt_3 ⟨Nat.le_of_ble_eq_true rfl, Nat.le_of_ble_eq_true rfl⟩) hS (fun q _ h => hFc q h) hFc (fun q _ h => hFc q h) (fun E ce q9 u t H1 locs ht hvm hpx hB hz1 hk1 hS hce hcv hcl => ?_) (fun u t H1 locs ht hvm hw hB hz1 hk1 hS => ?_)
  · obtain ⟨rfl, hw⟩ := hB
    exact vx_out (fun x hx => (htb x hx).elim) hlocks hce hcv hcl (fun t9 h9 hal => ⟨(), trivial, ⟨rfl, rfl⟩, hS.F h9⟩) hS.2.2 (Nat.le_of_ble_eq_true rfl) (Nat.le_of_ble_eq_true rfl)
  · exact hw.elim
-- X10_isCovered
def t_X10_isCovered (p0 : Int32) : Int32 := 3
set_option maxHeartbeats 4000000 in
set_option maxRecDepth 100000 in
theorem c_X10_isCovered (l : Launch) (hst : l.stackTraces = false) (D : va_G) (e : Nat) (h : Nat) (l1 : Nat) (l2 : Nat) (l3 : Nat) (l4 : Nat) (l5 : Nat) (l6 : Nat) (l7 : Nat) (l8 : Nat) (l9 : Nat) (ch : Nat) (co : Nat) (p0 : Int32) (sz : Nat) : vx_Met l yX10_isCovered wsX10_isCovered ({ frames := 14, cells := 1, slots := 6, locals := 280 }) (va_Pc [.ref h, .int p0] (cIn D [] [(h, .inr (16, [.ref l1, .ref l2, .ref l3, .ref l4, .ref l5, .ref l6, .ref l7, .ref l8, .ref l9, .ref ch, .ref co, .int 0, .int 4, .int (-40), .int 20, .int 0, .int 0, .int 100, .int 60, .int 14])), (l4, .inr (5, [.int 0, .ref e, .int 0]))] e sz)) (va_Qv (fun (_ : Unit) => False) (fun (_ : Unit) (_ : State) => True) (va_A [(h, .inr (16, [.ref l1, .ref l2, .ref l3, .ref l4, .ref l5, .ref l6, .ref l7, .ref l8, .ref l9, .ref ch, .ref co, .int 0, .int 4, .int (-40), .int 20, .int 0, .int 0, .int 100, .int 60, .int 14])), (l4, .inr (5, [.int 0, .ref e, .int 0]))] sz)) (vx_X (fun _ : Unit => True) (fun (E : String) (_ : Unit) (_ : State) => (E = "java/lang/IndexOutOfBoundsException" ∧ t_X10_isCovered p0 = 3)) (va_A [(h, .inr (16, [.ref l1, .ref l2, .ref l3, .ref l4, .ref l5, .ref l6, .ref l7, .ref l8, .ref l9, .ref ch, .ref co, .int 0, .int 4, .int (-40), .int 20, .int 0, .int 0, .int 100, .int 60, .int 14])), (l4, .inr (5, [.int 0, .ref e, .int 0]))] sz)) 1 6 (va_A [(h, .inr (16, [.ref l1, .ref l2, .ref l3, .ref l4, .ref l5, .ref l6, .ref l7, .ref l8, .ref l9, .ref ch, .ref co, .int 0, .int 4, .int (-40), .int 20, .int 0, .int 0, .int 100, .int 60, .int 14])), (l4, .inr (5, [.int 0, .ref e, .int 0]))] sz) := by
  refine vx_ofW (cc := cX10_isCovered) (maxL := 2) (ret := (some .boolean)) (by decide +kernel) rfl ?_
  intro p e9 s m args below meth c s₁ B hml htb hv
  obtain ⟨rfl, hsz, hP, hK, hD0, hE0⟩ := hv
  have hx := B.exec
  have hb := B.bytes
  have hr := B.returns
  have hts := atoms_spec (ws := wsX10_isCovered) B.pre
  have hown : s.vm.findClass RX10 = some m.cls := findClass_of_methodNamed B.named
  have hlocks := B.notSynchronized
  subst hsz
  have hD := hD0.self (sz := s.heap.size)
  generalize hAe : va_A [(h, .inr (16, [.ref l1, .ref l2, .ref l3, .ref l4, .ref l5, .ref l6, .ref l7, .ref l8, .ref l9, .ref ch, .ref co, .int 0, .int 4, .int (-40), .int 20, .int 0, .int 0, .int 100, .int 60, .int 14])), (l4, .inr (5, [.int 0, .ref e, .int 0]))] s.heap.size = A at hD hE0 ⊢
  have hA : ∀ q : Nat, s.heap.size ≤ q → A q := fun q h => by rw [← hAe]; exact Or.inr h
  have hS : va_S A s.heap s.heap [] := va_S.rf
  have hE := hE0
  have hP : va_P D vwCl [(h, .inr (16, [.ref l1, .ref l2, .ref l3, .ref l4, .ref l5, .ref l6, .ref l7, .ref l8, .ref l9, .ref ch, .ref co, .int 0, .int 4, .int (-40), .int 20, .int 0, .int 0, .int 100, .int 60, .int 14])), (l4, .inr (5, [.int 0, .ref e, .int 0]))] s.heap := hP
  have hl := lv_entry ([.ref h, .int p0]) (n := 2) (Nat.le_of_ble_eq_true rfl)
  rw [lg_entry_eq]
  generalize (lg_sl ([.ref h, .int p0]) ++ List.replicate (2 - (lg_sl ([.ref h, .int p0])).length) Slot.unset).toArray = ls at hl ⊢
  have hl : lv_has ls 2 [(0, .ref h), (1, .int p0)] := hl
  refine lv_aload_n hx hb dX10_isCovered_0 rfl (lv_at hl 0 rfl) ?_
  refine lv_aload_n hx hb dX10_isCovered_1 rfl (lv_at hl 0 rfl) ?_
  refine lv_iload_n hx hb dX10_isCovered_2 rfl (lv_at hl 1 rfl) ?_
  have hFc := va_free (wc := [(h, .inr (16, [.ref l1, .ref l2, .ref l3, .ref l4, .ref l5, .ref l6, .ref l7, .ref l8, .ref l9, .ref ch, .ref co, .int 0, .int 4, .int (-40), .int 20, .int 0, .int 0, .int 100, .int 60, .int 14])), (l4, .inr (5, [.int 0, .ref e, .int 0]))]) hD hS hA [0, 1] rfl
  refine vx_callv (vx_runV (As := [.int p0]) (rest := [.ref h]) ⟨hx, hb, hml, hown, hts⟩ (c_X10_cellNumbered l hst D e h l1 l2 l3 l4 l5 l6 l7 l8 l9 ch co p0 s.heap.size) (cwV 1 hts gX10_isCovered_X10_cellNumbered rfl rfl rfl (by decide +kernel) ⟨Nat.le_of_ble_eq_true rfl, Nat.le_of_ble_eq_true rfl⟩) ⟨cIn_blind, va_recv hK hP (ci := 16) (q0 := 0) rfl rfl, cIn_go hK hP hD hE hS hA [0, 1] rfl rfl (by decide) [] rfl⟩ rfl rfl hl.1 rfl (lv_room (Nat.le_of_ble_eq_true rfl)) dX10_isCovered_3 ⟨Nat.le_of_ble_eq_true rfl, Nat.le_of_ble_eq_true rfl⟩) hS (fun q _ h => hFc q h) hFc (fun q _ h => hFc q h) (fun E ce q9 u t H1 locs ht hvm hpx hB hz1 hk1 hS hce hcv hcl => ?_) (fun u t H1 locs ht hvm hw hB hz1 hk1 hS => ?_)
  · obtain ⟨rfl, hw⟩ := hB
    exact vx_out (fun x hx => (htb x hx).elim) hlocks hce hcv hcl (fun t9 h9 hal => ⟨(), trivial, ⟨rfl, rfl⟩, hS.F h9⟩) hS.2.2 (Nat.le_of_ble_eq_true rfl) (Nat.le_of_ble_eq_true rfl)
  · exact hw.elim
-- X10_isRecalled
def t_X10_isRecalled (p0 : Int32) : Int32 := 3
set_option maxHeartbeats 4000000 in
set_option maxRecDepth 100000 in
theorem c_X10_isRecalled (l : Launch) (hst : l.stackTraces = false) (D : va_G) (e : Nat) (h : Nat) (l1 : Nat) (l2 : Nat) (l3 : Nat) (l4 : Nat) (l5 : Nat) (l6 : Nat) (l7 : Nat) (l8 : Nat) (l9 : Nat) (ch : Nat) (co : Nat) (p0 : Int32) (sz : Nat) : vx_Met l yX10_isRecalled wsX10_isRecalled ({ frames := 14, cells := 1, slots := 6, locals := 280 }) (va_Pc [.ref h, .int p0] (cIn D [] [(h, .inr (16, [.ref l1, .ref l2, .ref l3, .ref l4, .ref l5, .ref l6, .ref l7, .ref l8, .ref l9, .ref ch, .ref co, .int 0, .int 4, .int (-40), .int 20, .int 0, .int 0, .int 100, .int 60, .int 14])), (l7, .inr (5, [.int 0, .ref e, .int 0]))] e sz)) (va_Qv (fun (_ : Unit) => False) (fun (_ : Unit) (_ : State) => True) (va_A [(h, .inr (16, [.ref l1, .ref l2, .ref l3, .ref l4, .ref l5, .ref l6, .ref l7, .ref l8, .ref l9, .ref ch, .ref co, .int 0, .int 4, .int (-40), .int 20, .int 0, .int 0, .int 100, .int 60, .int 14])), (l7, .inr (5, [.int 0, .ref e, .int 0]))] sz)) (vx_X (fun _ : Unit => True) (fun (E : String) (_ : Unit) (_ : State) => (E = "java/lang/IndexOutOfBoundsException" ∧ t_X10_isRecalled p0 = 3)) (va_A [(h, .inr (16, [.ref l1, .ref l2, .ref l3, .ref l4, .ref l5, .ref l6, .ref l7, .ref l8, .ref l9, .ref ch, .ref co, .int 0, .int 4, .int (-40), .int 20, .int 0, .int 0, .int 100, .int 60, .int 14])), (l7, .inr (5, [.int 0, .ref e, .int 0]))] sz)) 1 6 (va_A [(h, .inr (16, [.ref l1, .ref l2, .ref l3, .ref l4, .ref l5, .ref l6, .ref l7, .ref l8, .ref l9, .ref ch, .ref co, .int 0, .int 4, .int (-40), .int 20, .int 0, .int 0, .int 100, .int 60, .int 14])), (l7, .inr (5, [.int 0, .ref e, .int 0]))] sz) := by
  refine vx_ofW (cc := cX10_isRecalled) (maxL := 2) (ret := (some .boolean)) (by decide +kernel) rfl ?_
  intro p e9 s m args below meth c s₁ B hml htb hv
  obtain ⟨rfl, hsz, hP, hK, hD0, hE0⟩ := hv
  have hx := B.exec
  have hb := B.bytes
  have hr := B.returns
  have hts := atoms_spec (ws := wsX10_isRecalled) B.pre
  have hown : s.vm.findClass RX10 = some m.cls := findClass_of_methodNamed B.named
  have hlocks := B.notSynchronized
  subst hsz
  have hD := hD0.self (sz := s.heap.size)
  generalize hAe : va_A [(h, .inr (16, [.ref l1, .ref l2, .ref l3, .ref l4, .ref l5, .ref l6, .ref l7, .ref l8, .ref l9, .ref ch, .ref co, .int 0, .int 4, .int (-40), .int 20, .int 0, .int 0, .int 100, .int 60, .int 14])), (l7, .inr (5, [.int 0, .ref e, .int 0]))] s.heap.size = A at hD hE0 ⊢
  have hA : ∀ q : Nat, s.heap.size ≤ q → A q := fun q h => by rw [← hAe]; exact Or.inr h
  have hS : va_S A s.heap s.heap [] := va_S.rf
  have hE := hE0
  have hP : va_P D vwCl [(h, .inr (16, [.ref l1, .ref l2, .ref l3, .ref l4, .ref l5, .ref l6, .ref l7, .ref l8, .ref l9, .ref ch, .ref co, .int 0, .int 4, .int (-40), .int 20, .int 0, .int 0, .int 100, .int 60, .int 14])), (l7, .inr (5, [.int 0, .ref e, .int 0]))] s.heap := hP
  have hl := lv_entry ([.ref h, .int p0]) (n := 2) (Nat.le_of_ble_eq_true rfl)
  rw [lg_entry_eq]
  generalize (lg_sl ([.ref h, .int p0]) ++ List.replicate (2 - (lg_sl ([.ref h, .int p0])).length) Slot.unset).toArray = ls at hl ⊢
  have hl : lv_has ls 2 [(0, .ref h), (1, .int p0)] := hl
  refine lv_aload_n hx hb dX10_isRecalled_0 rfl (lv_at hl 0 rfl) ?_
  refine lv_aload_n hx hb dX10_isRecalled_1 rfl (lv_at hl 0 rfl) ?_
  refine lv_iload_n hx hb dX10_isRecalled_2 rfl (lv_at hl 1 rfl) ?_
  have hFc := va_free (wc := [(h, .inr (16, [.ref l1, .ref l2, .ref l3, .ref l4, .ref l5, .ref l6, .ref l7, .ref l8, .ref l9, .ref ch, .ref co, .int 0, .int 4, .int (-40), .int 20, .int 0, .int 0, .int 100, .int 60, .int 14])), (l7, .inr (5, [.int 0, .ref e, .int 0]))]) hD hS hA [0, 1] rfl
  refine vx_callv (vx_runV (As := [.int p0]) (rest := [.ref h]) ⟨hx, hb, hml, hown, hts⟩ (c_X10_packNumbered l hst D e h l1 l2 l3 l4 l5 l6 l7 l8 l9 ch co p0 s.heap.size) (cwV 1 hts gX10_isRecalled_X10_packNumbered rfl rfl rfl (by decide +kernel) ⟨Nat.le_of_ble_eq_true rfl, Nat.le_of_ble_eq_true rfl⟩) ⟨cIn_blind, va_recv hK hP (ci := 16) (q0 := 0) rfl rfl, cIn_go hK hP hD hE hS hA [0, 1] rfl rfl (by decide) [] rfl⟩ rfl rfl hl.1 rfl (lv_room (Nat.le_of_ble_eq_true rfl)) dX10_isRecalled_3 ⟨Nat.le_of_ble_eq_true rfl, Nat.le_of_ble_eq_true rfl⟩) hS (fun q _ h => hFc q h) hFc (fun q _ h => hFc q h) (fun E ce q9 u t H1 locs ht hvm hpx hB hz1 hk1 hS hce hcv hcl => ?_) (fun u t H1 locs ht hvm hw hB hz1 hk1 hS => ?_)
  · obtain ⟨rfl, hw⟩ := hB
    exact vx_out (fun x hx => (htb x hx).elim) hlocks hce hcv hcl (fun t9 h9 hal => ⟨(), trivial, ⟨rfl, rfl⟩, hS.F h9⟩) hS.2.2 (Nat.le_of_ble_eq_true rfl) (Nat.le_of_ble_eq_true rfl)
  · exact hw.elim
-- X10_sisters
def t_X10_sisters (p0 : Int32) : Int32 := 3
set_option maxHeartbeats 4000000 in
set_option maxRecDepth 100000 in
theorem c_X10_sisters (l : Launch) (hst : l.stackTraces = false) (D : va_G) (e : Nat) (h : Nat) (l1 : Nat) (l2 : Nat) (l3 : Nat) (l4 : Nat) (l5 : Nat) (l6 : Nat) (l7 : Nat) (l8 : Nat) (l9 : Nat) (ch : Nat) (co : Nat) (p0 : Int32) (sz : Nat) : vx_Met l yX10_sisters wsX10_sisters ({ frames := 14, cells := 1, slots := 6, locals := 280 }) (va_Pc [.ref h, .int p0] (cIn D [] [(h, .inr (16, [.ref l1, .ref l2, .ref l3, .ref l4, .ref l5, .ref l6, .ref l7, .ref l8, .ref l9, .ref ch, .ref co, .int 0, .int 4, .int (-40), .int 20, .int 0, .int 0, .int 100, .int 60, .int 14])), (l4, .inr (5, [.int 0, .ref e, .int 0]))] e sz)) (va_Qv (fun (_ : Unit) => False) (fun (_ : Unit) (_ : State) => True) (va_A [(h, .inr (16, [.ref l1, .ref l2, .ref l3, .ref l4, .ref l5, .ref l6, .ref l7, .ref l8, .ref l9, .ref ch, .ref co, .int 0, .int 4, .int (-40), .int 20, .int 0, .int 0, .int 100, .int 60, .int 14])), (l4, .inr (5, [.int 0, .ref e, .int 0]))] sz)) (vx_X (fun _ : Unit => True) (fun (E : String) (_ : Unit) (_ : State) => (E = "java/lang/IndexOutOfBoundsException" ∧ t_X10_sisters p0 = 3)) (va_A [(h, .inr (16, [.ref l1, .ref l2, .ref l3, .ref l4, .ref l5, .ref l6, .ref l7, .ref l8, .ref l9, .ref ch, .ref co, .int 0, .int 4, .int (-40), .int 20, .int 0, .int 0, .int 100, .int 60, .int 14])), (l4, .inr (5, [.int 0, .ref e, .int 0]))] sz)) 1 6 (va_A [(h, .inr (16, [.ref l1, .ref l2, .ref l3, .ref l4, .ref l5, .ref l6, .ref l7, .ref l8, .ref l9, .ref ch, .ref co, .int 0, .int 4, .int (-40), .int 20, .int 0, .int 0, .int 100, .int 60, .int 14])), (l4, .inr (5, [.int 0, .ref e, .int 0]))] sz) := by
  refine vx_ofW (cc := cX10_sisters) (maxL := 5) (ret := (some .int)) (by decide +kernel) rfl ?_
  intro p e9 s m args below meth c s₁ B hml htb hv
  obtain ⟨rfl, hsz, hP, hK, hD0, hE0⟩ := hv
  have hx := B.exec
  have hb := B.bytes
  have hr := B.returns
  have hts := atoms_spec (ws := wsX10_sisters) B.pre
  have hown : s.vm.findClass RX10 = some m.cls := findClass_of_methodNamed B.named
  have hlocks := B.notSynchronized
  subst hsz
  have hD := hD0.self (sz := s.heap.size)
  generalize hAe : va_A [(h, .inr (16, [.ref l1, .ref l2, .ref l3, .ref l4, .ref l5, .ref l6, .ref l7, .ref l8, .ref l9, .ref ch, .ref co, .int 0, .int 4, .int (-40), .int 20, .int 0, .int 0, .int 100, .int 60, .int 14])), (l4, .inr (5, [.int 0, .ref e, .int 0]))] s.heap.size = A at hD hE0 ⊢
  have hA : ∀ q : Nat, s.heap.size ≤ q → A q := fun q h => by rw [← hAe]; exact Or.inr h
  have hS : va_S A s.heap s.heap [] := va_S.rf
  have hE := hE0
  have hP : va_P D vwCl [(h, .inr (16, [.ref l1, .ref l2, .ref l3, .ref l4, .ref l5, .ref l6, .ref l7, .ref l8, .ref l9, .ref ch, .ref co, .int 0, .int 4, .int (-40), .int 20, .int 0, .int 0, .int 100, .int 60, .int 14])), (l4, .inr (5, [.int 0, .ref e, .int 0]))] s.heap := hP
  have hl := lv_entry ([.ref h, .int p0]) (n := 5) (Nat.le_of_ble_eq_true rfl)
  rw [lg_entry_eq]
  generalize (lg_sl ([.ref h, .int p0]) ++ List.replicate (5 - (lg_sl ([.ref h, .int p0])).length) Slot.unset).toArray = ls at hl ⊢
  have hl : lv_has ls 5 [(0, .ref h), (1, .int p0)] := hl
  refine lv_aload_n hx hb dX10_sisters_0 rfl (lv_at hl 0 rfl) ?_
  refine lv_iload_n hx hb dX10_sisters_1 rfl (lv_at hl 1 rfl) ?_
  have hFc := va_free (wc := [(h, .inr (16, [.ref l1, .ref l2, .ref l3, .ref l4, .ref l5, .ref l6, .ref l7, .ref l8, .ref l9, .ref ch, .ref co, .int 0, .int 4, .int (-40), .int 20, .int 0, .int 0, .int 100, .int 60, .int 14])), (l4, .inr (5, [.int 0, .ref e, .int 0]))]) hD hS hA [0, 1] rfl
  refine vx_callv (vx_runV (As := [.int p0]) (rest := []) ⟨hx, hb, hml, hown, hts⟩ (c_X10_cellNumbered l hst D e h l1 l2 l3 l4 l5 l6 l7 l8 l9 ch co p0 s.heap.size) (cwV 1 hts gX10_sisters_X10_cellNumbered rfl rfl rfl (by decide +kernel) ⟨Nat.le_of_ble_eq_true rfl, Nat.le_of_ble_eq_true rfl⟩) ⟨cIn_blind, va_recv hK hP (ci := 16) (q0 := 0) rfl rfl, cIn_go hK hP hD hE hS hA [0, 1] rfl rfl (by decide) [] rfl⟩ rfl rfl hl.1 rfl (lv_room (Nat.le_of_ble_eq_true rfl)) dX10_sisters_2 ⟨Nat.le_of_ble_eq_true rfl, Nat.le_of_ble_eq_true rfl⟩) hS (fun q _ h => hFc q h) hFc (fun q _ h => hFc q h) (fun E ce q9 u t H1 locs ht hvm hpx hB hz1 hk1 hS hce hcv hcl => ?_) (fun u t H1 locs ht hvm hw hB hz1 hk1 hS => ?_)
  · obtain ⟨rfl, hw⟩ := hB
    exact vx_out (fun x hx => (htb x hx).elim) hlocks hce hcv hcl (fun t9 h9 hal => ⟨(), trivial, ⟨rfl, rfl⟩, hS.F h9⟩) hS.2.2 (Nat.le_of_ble_eq_true rfl) (Nat.le_of_ble_eq_true rfl)
  · exact hw.elim
-- X10_isSister
def t_X10_isSister (p0 : Int32) (p1 : Int32) : Int32 := 3
set_option maxHeartbeats 4000000 in
set_option maxRecDepth 100000 in
theorem c_X10_isSister (l : Launch) (hst : l.stackTraces = false) (D : va_G) (e : Nat) (h : Nat) (l1 : Nat) (l2 : Nat) (l3 : Nat) (l4 : Nat) (l5 : Nat) (l6 : Nat) (l7 : Nat) (l8 : Nat) (l9 : Nat) (ch : Nat) (co : Nat) (p0 : Int32) (p1 : Int32) (sz : Nat) : vx_Met l yX10_isSister wsX10_isSister ({ frames := 14, cells := 1, slots := 6, locals := 280 }) (va_Pc [.ref h, .int p0, .int p1] (cIn D [] [(h, .inr (16, [.ref l1, .ref l2, .ref l3, .ref l4, .ref l5, .ref l6, .ref l7, .ref l8, .ref l9, .ref ch, .ref co, .int 0, .int 4, .int (-40), .int 20, .int 0, .int 0, .int 100, .int 60, .int 14])), (l4, .inr (5, [.int 0, .ref e, .int 0]))] e sz)) (va_Qv (fun (_ : Unit) => False) (fun (_ : Unit) (_ : State) => True) (va_A [(h, .inr (16, [.ref l1, .ref l2, .ref l3, .ref l4, .ref l5, .ref l6, .ref l7, .ref l8, .ref l9, .ref ch, .ref co, .int 0, .int 4, .int (-40), .int 20, .int 0, .int 0, .int 100, .int 60, .int 14])), (l4, .inr (5, [.int 0, .ref e, .int 0]))] sz)) (vx_X (fun _ : Unit => True) (fun (E : String) (_ : Unit) (_ : State) => (E = "java/lang/IndexOutOfBoundsException" ∧ t_X10_isSister p0 p1 = 3)) (va_A [(h, .inr (16, [.ref l1, .ref l2, .ref l3, .ref l4, .ref l5, .ref l6, .ref l7, .ref l8, .ref l9, .ref ch, .ref co, .int 0, .int 4, .int (-40), .int 20, .int 0, .int 0, .int 100, .int 60, .int 14])), (l4, .inr (5, [.int 0, .ref e, .int 0]))] sz)) 1 6 (va_A [(h, .inr (16, [.ref l1, .ref l2, .ref l3, .ref l4, .ref l5, .ref l6, .ref l7, .ref l8, .ref l9, .ref ch, .ref co, .int 0, .int 4, .int (-40), .int 20, .int 0, .int 0, .int 100, .int 60, .int 14])), (l4, .inr (5, [.int 0, .ref e, .int 0]))] sz) := by
  refine vx_ofW (cc := cX10_isSister) (maxL := 3) (ret := (some .boolean)) (by decide +kernel) rfl ?_
  intro p e9 s m args below meth c s₁ B hml htb hv
  obtain ⟨rfl, hsz, hP, hK, hD0, hE0⟩ := hv
  have hx := B.exec
  have hb := B.bytes
  have hr := B.returns
  have hts := atoms_spec (ws := wsX10_isSister) B.pre
  have hown : s.vm.findClass RX10 = some m.cls := findClass_of_methodNamed B.named
  have hlocks := B.notSynchronized
  subst hsz
  have hD := hD0.self (sz := s.heap.size)
  generalize hAe : va_A [(h, .inr (16, [.ref l1, .ref l2, .ref l3, .ref l4, .ref l5, .ref l6, .ref l7, .ref l8, .ref l9, .ref ch, .ref co, .int 0, .int 4, .int (-40), .int 20, .int 0, .int 0, .int 100, .int 60, .int 14])), (l4, .inr (5, [.int 0, .ref e, .int 0]))] s.heap.size = A at hD hE0 ⊢
  have hA : ∀ q : Nat, s.heap.size ≤ q → A q := fun q h => by rw [← hAe]; exact Or.inr h
  have hS : va_S A s.heap s.heap [] := va_S.rf
  have hE := hE0
  have hP : va_P D vwCl [(h, .inr (16, [.ref l1, .ref l2, .ref l3, .ref l4, .ref l5, .ref l6, .ref l7, .ref l8, .ref l9, .ref ch, .ref co, .int 0, .int 4, .int (-40), .int 20, .int 0, .int 0, .int 100, .int 60, .int 14])), (l4, .inr (5, [.int 0, .ref e, .int 0]))] s.heap := hP
  have hl := lv_entry ([.ref h, .int p0, .int p1]) (n := 3) (Nat.le_of_ble_eq_true rfl)
  rw [lg_entry_eq]
  generalize (lg_sl ([.ref h, .int p0, .int p1]) ++ List.replicate (3 - (lg_sl ([.ref h, .int p0, .int p1])).length) Slot.unset).toArray = ls at hl ⊢
  have hl : lv_has ls 3 [(0, .ref h), (1, .int p0), (2, .int p1)] := hl
  refine lv_aload_n hx hb dX10_isSister_0 rfl (lv_at hl 0 rfl) ?_
  refine lv_iload_n hx hb dX10_isSister_1 rfl (lv_at hl 1 rfl) ?_
  have hFc := va_free (wc := [(h, .inr (16, [.ref l1, .ref l2, .ref l3, .ref l4, .ref l5, .ref l6, .ref l7, .ref l8, .ref l9, .ref ch, .ref co, .int 0, .int 4, .int (-40), .int 20, .int 0, .int 0, .int 100, .int 60, .int 14])), (l4, .inr (5, [.int 0, .ref e, .int 0]))]) hD hS hA [0, 1] rfl
  refine vx_callv (vx_runV (As := [.int p0]) (rest := []) ⟨hx, hb, hml, hown, hts⟩ (c_X10_cellNumbered l hst D e h l1 l2 l3 l4 l5 l6 l7 l8 l9 ch co p0 s.heap.size) (cwV 1 hts gX10_isSister_X10_cellNumbered rfl rfl rfl (by decide +kernel) ⟨Nat.le_of_ble_eq_true rfl, Nat.le_of_ble_eq_true rfl⟩) ⟨cIn_blind, va_recv hK hP (ci := 16) (q0 := 0) rfl rfl, cIn_go hK hP hD hE hS hA [0, 1] rfl rfl (by decide) [] rfl⟩ rfl rfl hl.1 rfl (lv_room (Nat.le_of_ble_eq_true rfl)) dX10_isSister_2 ⟨Nat.le_of_ble_eq_true rfl, Nat.le_of_ble_eq_true rfl⟩) hS (fun q _ h => hFc q h) hFc (fun q _ h => hFc q h) (fun E ce q9 u t H1 locs ht hvm hpx hB hz1 hk1 hS hce hcv hcl => ?_) (fun u t H1 locs ht hvm hw hB hz1 hk1 hS => ?_)
  · obtain ⟨rfl, hw⟩ := hB
    exact vx_out (fun x hx => (htb x hx).elim) hlocks hce hcv hcl (fun t9 h9 hal => ⟨(), trivial, ⟨rfl, rfl⟩, hS.F h9⟩) hS.2.2 (Nat.le_of_ble_eq_true rfl) (Nat.le_of_ble_eq_true rfl)
  · exact hw.elim
-- X10_clear
def t_X10_clear (p0 : Int32) : Int32 := if p0 < 0 then 3 else 3
set_option maxHeartbeats 4000000 in
set_option maxRecDepth 100000 in
theorem c_X10_clear (l : Launch) (hst : l.stackTraces = false) (D : va_G) (e : Nat) (h : Nat) (l1 : Nat) (l2 : Nat) (l3 : Nat) (l4 : Nat) (l5 : Nat) (l6 : Nat) (l7 : Nat) (l8 : Nat) (l9 : Nat) (ch : Nat) (co : Nat) (p0 : Int32) (sz : Nat) : vx_Met l yX10_clear wsX10_clear ({ frames := 10, cells := 1, slots := 6, locals := 160 }) (va_Pc [.ref h, .int p0] (cIn D [] [(h, .inr (16, [.ref l1, .ref l2, .ref l3, .ref l4, .ref l5, .ref l6, .ref l7, .ref l8, .ref l9, .ref ch, .ref co, .int 0, .int 4, .int (-40), .int 20, .int 0, .int 0, .int 100, .int 60, .int 14])), (l8, .inr (5, [.int 0, .ref e, .int 0]))] e sz)) (va_Qv (fun (_ : Unit) => False) (fun (_ : Unit) (_ : State) => True) (va_A [(h, .inr (16, [.ref l1, .ref l2, .ref l3, .ref l4, .ref l5, .ref l6, .ref l7, .ref l8, .ref l9, .ref ch, .ref co, .int 0, .int 4, .int (-40), .int 20, .int 0, .int 0, .int 100, .int 60, .int 14])), (l8, .inr (5, [.int 0, .ref e, .int 0]))] sz)) (vx_X (fun _ : Unit => True) (fun (E : String) (_ : Unit) (_ : State) => (E = "java/lang/IndexOutOfBoundsException" ∧ t_X10_clear p0 = 3)) (va_A [(h, .inr (16, [.ref l1, .ref l2, .ref l3, .ref l4, .ref l5, .ref l6, .ref l7, .ref l8, .ref l9, .ref ch, .ref co, .int 0, .int 4, .int (-40), .int 20, .int 0, .int 0, .int 100, .int 60, .int 14])), (l8, .inr (5, [.int 0, .ref e, .int 0]))] sz)) 1 6 (va_A [(h, .inr (16, [.ref l1, .ref l2, .ref l3, .ref l4, .ref l5, .ref l6, .ref l7, .ref l8, .ref l9, .ref ch, .ref co, .int 0, .int 4, .int (-40), .int 20, .int 0, .int 0, .int 100, .int 60, .int 14])), (l8, .inr (5, [.int 0, .ref e, .int 0]))] sz) := by
  refine vx_ofW (cc := cX10_clear) (maxL := 6) (ret := (some .int)) (by decide +kernel) rfl ?_
  intro p e9 s m args below meth c s₁ B hml htb hv
  obtain ⟨rfl, hsz, hP, hK, hD0, hE0⟩ := hv
  have hx := B.exec
  have hb := B.bytes
  have hr := B.returns
  have hts := atoms_spec (ws := wsX10_clear) B.pre
  have hown : s.vm.findClass RX10 = some m.cls := findClass_of_methodNamed B.named
  have hlocks := B.notSynchronized
  subst hsz
  have hD := hD0.self (sz := s.heap.size)
  generalize hAe : va_A [(h, .inr (16, [.ref l1, .ref l2, .ref l3, .ref l4, .ref l5, .ref l6, .ref l7, .ref l8, .ref l9, .ref ch, .ref co, .int 0, .int 4, .int (-40), .int 20, .int 0, .int 0, .int 100, .int 60, .int 14])), (l8, .inr (5, [.int 0, .ref e, .int 0]))] s.heap.size = A at hD hE0 ⊢
  have hA : ∀ q : Nat, s.heap.size ≤ q → A q := fun q h => by rw [← hAe]; exact Or.inr h
  have hS : va_S A s.heap s.heap [] := va_S.rf
  have hE := hE0
  have hP : va_P D vwCl [(h, .inr (16, [.ref l1, .ref l2, .ref l3, .ref l4, .ref l5, .ref l6, .ref l7, .ref l8, .ref l9, .ref ch, .ref co, .int 0, .int 4, .int (-40), .int 20, .int 0, .int 0, .int 100, .int 60, .int 14])), (l8, .inr (5, [.int 0, .ref e, .int 0]))] s.heap := hP
  have hl := lv_entry ([.ref h, .int p0]) (n := 6) (Nat.le_of_ble_eq_true rfl)
  rw [lg_entry_eq]
  generalize (lg_sl ([.ref h, .int p0]) ++ List.replicate (6 - (lg_sl ([.ref h, .int p0])).length) Slot.unset).toArray = ls at hl ⊢
  have hl : lv_has ls 6 [(0, .ref h), (1, .int p0)] := hl
  refine lv_iload_n hx hb dX10_clear_0 rfl (lv_at hl 1 rfl) ?_
  refine lv_if_lt (tgt := 15) hx hb dX10_clear_1 (by decide) (fun c_1 => ?_) (fun c_1 => ?_)
  · obtain ⟨sa_2, hs_3⟩ := ev_x hE (q := (462, "no such doubt")) (by decide +kernel)
    exact vx_throwSW hx hb hst hown (by decide +kernel) (by decide +kernel) (hts (.classLink RX10 460 "java/lang/IndexOutOfBoundsException") (by decide +kernel)) (hts (.initialized "java/lang/IndexOutOfBoundsException") (by decide +kernel)) hs_3 (vx_hat (fun w hw => hts w (hm_wsX10_clear_464 w hw)) hn_RX10_464 (vx_c (ev_u hE (w := .castable "java/lang/IndexOutOfBoundsException" _) (by decide +kernel) rfl) (vx_c (ev_u hE (by decide +kernel) rfl) (vx_c (ev_u hE (by decide +kernel) rfl) (vx_c (ev_u hE (by decide +kernel) rfl) vx_n))))) ht_RX10_460_464 hE.1.1.1 hE.1.1.2 hS (hl.1.trans hml.symm) dX10_clear_15 dX10_clear_18 dX10_clear_19 dX10_clear_22 dX10_clear_25 (fun x hx => (htb x hx).elim) (Nat.le_of_ble_eq_true rfl) (Nat.le_of_ble_eq_true rfl) (Nat.le_of_ble_eq_true rfl) (Nat.le_of_ble_eq_true rfl) hlocks (fun t hal h1 h2 => ⟨(), trivial, ⟨rfl, (by unfold t_X10_clear; rw [if_pos c_1])⟩, thr_F hS h1 h2⟩) hS.2.2 (Nat.le_of_ble_eq_true rfl) (Nat.le_of_ble_eq_true rfl)
  · refine lv_iload_n hx hb dX10_clear_4 rfl (lv_at hl 1 rfl) ?_
    refine lv_aload_n hx hb dX10_clear_5 rfl (lv_at hl 0 rfl) ?_
    refine va_get (D := D) (ci := 16) (v := .ref l8) (C := RX10) (T := TX10) (N := 20) hx hb hts iw_RX10_wsX10_clear hown hK hP 0 rfl rfl 7 (by decide) (hts (.fieldLink RX10 34 "CoatLine" "doubts" "Ljava/util/ArrayList;") (by decide +kernel)) (fun _ h9 => h9) rfl dX10_clear_6 ?_
    refine vp_callSi (va_Run.run (va_runV (As := []) (rest := [.int p0]) ⟨hx, hb, hml, hown, hts⟩ (c_Jx4a65c_size_8abf5 l hst D e l8 0 e 0 s.heap.size) (cwV 0 hts gX10_clear_Jx4a65c_size_8abf5 rfl rfl rfl (by decide +kernel) ⟨Nat.le_of_ble_eq_true rfl, Nat.le_of_ble_eq_true rfl⟩) ⟨cIn_blind, va_recv hK hP (ci := 5) (q0 := 1) rfl rfl, cIn_go hK hP hD hE hS hA [1] rfl rfl (by decide) [] rfl⟩ rfl rfl hl.1 rfl (lv_room (Nat.le_of_ble_eq_true rfl)) dX10_clear_9 ⟨Nat.le_of_ble_eq_true rfl, Nat.le_of_ble_eq_true rfl⟩)) (fun r_4 hw => ?_)
    have hw : r_4 = 0 := hw.trans (by first | rfl | decide +kernel)
    subst hw
    refine lv_icmp_lt (tgt := 26) hx hb dX10_clear_12 (by decide) (fun c_5 => absurd c_5 c_1) (fun c_5 => ?_)
    obtain ⟨sa_6, hs_7⟩ := ev_x hE (q := (462, "no such doubt")) (by decide +kernel)
    exact vx_throwSW hx hb hst hown (by decide +kernel) (by decide +kernel) (hts (.classLink RX10 460 "java/lang/IndexOutOfBoundsException") (by decide +kernel)) (hts (.initialized "java/lang/IndexOutOfBoundsException") (by decide +kernel)) hs_7 (vx_hat (fun w hw => hts w (hm_wsX10_clear_464 w hw)) hn_RX10_464 (vx_c (ev_u hE (w := .castable "java/lang/IndexOutOfBoundsException" _) (by decide +kernel) rfl) (vx_c (ev_u hE (by decide +kernel) rfl) (vx_c (ev_u hE (by decide +kernel) rfl) (vx_c (ev_u hE (by decide +kernel) rfl) vx_n))))) ht_RX10_460_464 hE.1.1.1 hE.1.1.2 hS (hl.1.trans hml.symm) dX10_clear_15 dX10_clear_18 dX10_clear_19 dX10_clear_22 dX10_clear_25 (fun x hx => (htb x hx).elim) (Nat.le_of_ble_eq_true rfl) (Nat.le_of_ble_eq_true rfl) (Nat.le_of_ble_eq_true rfl) (Nat.le_of_ble_eq_true rfl) hlocks (fun t hal h1 h2 => ⟨(), trivial, ⟨rfl, (by unfold t_X10_clear; rw [if_neg c_1])⟩, thr_F hS h1 h2⟩) hS.2.2 (Nat.le_of_ble_eq_true rfl) (Nat.le_of_ble_eq_true rfl)
-- X10_gap
def t_X10_gap (p0 : Int32) : Int32 := if t_X10_requireWithin p0 0 9 = 0 then 0 else 1
def v_X10_gap (p0 : Int32) : Int32 := if t_X10_requireWithin p0 0 9 = 0 then 4 else 0
set_option maxHeartbeats 4000000 in
set_option maxRecDepth 100000 in
theorem c_X10_gap (l : Launch) (hst : l.stackTraces = false) (D : va_G) (e : Nat) (h : Nat) (l1 : Nat) (l2 : Nat) (l3 : Nat) (l4 : Nat) (l5 : Nat) (l6 : Nat) (l7 : Nat) (l8 : Nat) (l9 : Nat) (ch : Nat) (co : Nat) (p0 : Int32) (sz : Nat) : vx_Met l yX10_gap wsX10_gap ({ frames := 12, cells := 1, slots := 6, locals := 220 }) (va_Pc [.ref h, .int p0] (cIn D [] [(h, .inr (16, [.ref l1, .ref l2, .ref l3, .ref l4, .ref l5, .ref l6, .ref l7, .ref l8, .ref l9, .ref ch, .ref co, .int 0, .int 4, .int (-40), .int 20, .int 0, .int 0, .int 100, .int 60, .int 14]))] e sz)) (va_Qi (fun (r : Int32) (_ : Unit) => t_X10_gap p0 = 0 ∧ r = v_X10_gap p0) (fun (_ : Unit) (_ : State) => True) (va_A [(h, .inr (16, [.ref l1, .ref l2, .ref l3, .ref l4, .ref l5, .ref l6, .ref l7, .ref l8, .ref l9, .ref ch, .ref co, .int 0, .int 4, .int (-40), .int 20, .int 0, .int 0, .int 100, .int 60, .int 14]))] sz)) (vx_X (fun _ : Unit => True) (fun (E : String) (_ : Unit) (_ : State) => (E = "java/lang/IllegalArgumentException" ∧ t_X10_gap p0 = 1)) (va_A [(h, .inr (16, [.ref l1, .ref l2, .ref l3, .ref l4, .ref l5, .ref l6, .ref l7, .ref l8, .ref l9, .ref ch, .ref co, .int 0, .int 4, .int (-40), .int 20, .int 0, .int 0, .int 100, .int 60, .int 14]))] sz)) 1 6 (va_A [(h, .inr (16, [.ref l1, .ref l2, .ref l3, .ref l4, .ref l5, .ref l6, .ref l7, .ref l8, .ref l9, .ref ch, .ref co, .int 0, .int 4, .int (-40), .int 20, .int 0, .int 0, .int 100, .int 60, .int 14]))] sz) := by
  refine vx_ofW (cc := cX10_gap) (maxL := 3) (ret := (some .int)) (by decide +kernel) rfl ?_
  intro p e9 s m args below meth c s₁ B hml htb hv
  obtain ⟨rfl, hsz, hP, hK, hD0, hE0⟩ := hv
  have hx := B.exec
  have hb := B.bytes
  have hr := B.returns
  have hts := atoms_spec (ws := wsX10_gap) B.pre
  have hown : s.vm.findClass RX10 = some m.cls := findClass_of_methodNamed B.named
  have hlocks := B.notSynchronized
  subst hsz
  have hD := hD0.self (sz := s.heap.size)
  generalize hAe : va_A [(h, .inr (16, [.ref l1, .ref l2, .ref l3, .ref l4, .ref l5, .ref l6, .ref l7, .ref l8, .ref l9, .ref ch, .ref co, .int 0, .int 4, .int (-40), .int 20, .int 0, .int 0, .int 100, .int 60, .int 14]))] s.heap.size = A at hD hE0 ⊢
  have hA : ∀ q : Nat, s.heap.size ≤ q → A q := fun q h => by rw [← hAe]; exact Or.inr h
  have hS : va_S A s.heap s.heap [] := va_S.rf
  have hE := hE0
  have hP : va_P D vwCl [(h, .inr (16, [.ref l1, .ref l2, .ref l3, .ref l4, .ref l5, .ref l6, .ref l7, .ref l8, .ref l9, .ref ch, .ref co, .int 0, .int 4, .int (-40), .int 20, .int 0, .int 0, .int 100, .int 60, .int 14]))] s.heap := hP
  have hl := lv_entry ([.ref h, .int p0]) (n := 3) (Nat.le_of_ble_eq_true rfl)
  rw [lg_entry_eq]
  generalize (lg_sl ([.ref h, .int p0]) ++ List.replicate (3 - (lg_sl ([.ref h, .int p0])).length) Slot.unset).toArray = ls at hl ⊢
  have hl : lv_has ls 3 [(0, .ref h), (1, .int p0)] := hl
  refine lv_iload_n hx hb dX10_gap_0 rfl (lv_at hl 1 rfl) ?_
  refine lv_iconst (v := 0) hx hb dX10_gap_1 (by decide) ?_
  refine lv_bipush (v := 9) hx hb dX10_gap_2 (by decide) ?_
  have hFc := va_free (wc := []) hD hS hA [] rfl
  refine vx_callv (vx_runS (As := [.int p0, .int 0, .int 9]) (rest := []) ⟨hx, hb, hml, hown, hts⟩ (c_X10_requireWithin l hst D e p0 0 9 s.heap.size) (va_cwS 3 hts gX10_gap_X10_requireWithin rfl rfl rfl (by decide +kernel) ⟨Nat.le_of_ble_eq_true rfl, Nat.le_of_ble_eq_true rfl⟩) ⟨cIn_blind, cIn_go hK hP hD hE hS hA [] rfl rfl (by decide) [] rfl⟩ rfl rfl hl.1 rfl (lv_room (Nat.le_of_ble_eq_true rfl)) dX10_gap_4 ⟨Nat.le_of_ble_eq_true rfl, Nat.le_of_ble_eq_true rfl⟩) hS (fun q _ h => hFc q h) hFc (fun q _ h => hFc q h) (fun E ce q9 u t H1 locs ht hvm hpx hB hz1 hk1 hS hce hcv hcl => ?_) (fun u t H1 locs ht hvm hw hB hz1 hk1 hS => ?_)
  · obtain ⟨rfl, hw⟩ := hB
    have c_3 : ¬ t_X10_requireWithin p0 0 9 = 0 := by rw [hw]; decide
    exact vx_out (fun x hx => (htb x hx).elim) hlocks hce hcv hcl (fun t9 h9 hal => ⟨(), trivial, ⟨rfl, (by unfold t_X10_gap; rw [if_neg c_3])⟩, hS.F h9⟩) hS.2.2 (Nat.le_of_ble_eq_true rfl) (Nat.le_of_ble_eq_true rfl)
  · have c_2 : t_X10_requireWithin p0 0 9 = 0 := hw.1
    obtain ⟨hP, hD⟩ := cIn_rest (wc := []) (wr := [(h, .inr (16, [.ref l1, .ref l2, .ref l3, .ref l4, .ref l5, .ref l6, .ref l7, .ref l8, .ref l9, .ref ch, .ref co, .int 0, .int 4, .int (-40), .int 20, .int 0, .int 0, .int 100, .int 60, .int 14]))]) hP hD [] [0] rfl rfl (by decide) (by decide) hk1 hFc
    generalize H1 = H at hP hS ⊢
    have hP : va_P D vwCl [(h, .inr (16, [.ref l1, .ref l2, .ref l3, .ref l4, .ref l5, .ref l6, .ref l7, .ref l8, .ref l9, .ref ch, .ref co, .int 0, .int 4, .int (-40), .int 20, .int 0, .int 0, .int 100, .int 60, .int 14]))] H := hP
    have hD : va_D A [(h, .inr (16, [.ref l1, .ref l2, .ref l3, .ref l4, .ref l5, .ref l6, .ref l7, .ref l8, .ref l9, .ref ch, .ref co, .int 0, .int 4, .int (-40), .int 20, .int 0, .int 0, .int 100, .int 60, .int 14]))] := hD
    refine W.widen (k := 1) (n := 6) (Nat.le_of_ble_eq_true rfl) (Nat.le_of_ble_eq_true rfl) ?_
    refine lv_aload_n hx hb dX10_gap_7 rfl (lv_at hl 0 rfl) ?_
    refine va_get (D := D) (ci := 16) (v := .int 4) (C := RX10) (T := TX10) (N := 20) hx hb hts iw_RX10_wsX10_gap hown hK hP 0 rfl rfl 12 (by decide) (hts (.fieldLink RX10 55 "CoatLine" "gapWidth" "I") (by decide +kernel)) (fun _ h9 => h9) rfl dX10_gap_8 ?_
    refine lv_istore_n (lv' := [(2, .int 4), (0, .ref h), (1, .int p0)]) hx hb dX10_gap_11 rfl hl (by decide) rfl (fun ls hl => ?_)
    refine lv_aload_n hx hb dX10_gap_12 rfl (lv_at hl 1 rfl) ?_
    refine lv_iload_n hx hb dX10_gap_13 rfl (lv_at hl 2 rfl) ?_
    refine va_put (D := D) (ci := 16) (v := .int p0) (ty := .int) (C := RX10) (T := TX10) (N := 20) hx hb hts iw_RX10_wsX10_gap tyX10 tyX10_ok nmX10 hown hK hP hD hS 0 rfl rfl 12 (by decide) (hts (.fieldLink RX10 55 "CoatLine" "gapWidth" "I") (by decide +kernel)) (fun _ h9 => h9) rfl (by decide +kernel) rfl rfl (Nat.le_of_ble_eq_true rfl) dX10_gap_14 (fun H locs hP hD hS => ?_)
    have hP : va_P D vwCl [(h, .inr (16, [.ref l1, .ref l2, .ref l3, .ref l4, .ref l5, .ref l6, .ref l7, .ref l8, .ref l9, .ref ch, .ref co, .int 0, .int p0, .int (-40), .int 20, .int 0, .int 0, .int 100, .int 60, .int 14]))] H := hP
    have hD : va_D A [(h, .inr (16, [.ref l1, .ref l2, .ref l3, .ref l4, .ref l5, .ref l6, .ref l7, .ref l8, .ref l9, .ref ch, .ref co, .int 0, .int p0, .int (-40), .int 20, .int 0, .int 0, .int 100, .int 60, .int 14]))] := hD
    refine lv_iload_n hx hb dX10_gap_17 rfl (lv_at hl 0 rfl) ?_
    refine vx_ret ?_
    exact W.iret (v := 4) hx hb hr (fun t ht hW => ⟨⟨4, (), rfl, ⟨(by unfold t_X10_gap; rw [if_pos c_2]), (by unfold v_X10_gap; rw [if_pos c_2])⟩, trivial⟩, hS.F ht⟩) hS.2.2 dX10_gap_18
-- X10_dew
def t_X10_dew (p0 : Int32) : Int32 := if t_X10_requireWithin p0 (-60) 0 = 0 then 0 else 1
def v_X10_dew (p0 : Int32) : Int32 := if t_X10_requireWithin p0 (-60) 0 = 0 then (-40) else 0
set_option maxHeartbeats 4000000 in
set_option maxRecDepth 100000 in
theorem c_X10_dew (l : Launch) (hst : l.stackTraces = false) (D : va_G) (e : Nat) (h : Nat) (l1 : Nat) (l2 : Nat) (l3 : Nat) (l4 : Nat) (l5 : Nat) (l6 : Nat) (l7 : Nat) (l8 : Nat) (l9 : Nat) (ch : Nat) (co : Nat) (p0 : Int32) (sz : Nat) : vx_Met l yX10_dew wsX10_dew ({ frames := 12, cells := 1, slots := 6, locals := 220 }) (va_Pc [.ref h, .int p0] (cIn D [] [(h, .inr (16, [.ref l1, .ref l2, .ref l3, .ref l4, .ref l5, .ref l6, .ref l7, .ref l8, .ref l9, .ref ch, .ref co, .int 0, .int 4, .int (-40), .int 20, .int 0, .int 0, .int 100, .int 60, .int 14]))] e sz)) (va_Qi (fun (r : Int32) (_ : Unit) => t_X10_dew p0 = 0 ∧ r = v_X10_dew p0) (fun (_ : Unit) (_ : State) => True) (va_A [(h, .inr (16, [.ref l1, .ref l2, .ref l3, .ref l4, .ref l5, .ref l6, .ref l7, .ref l8, .ref l9, .ref ch, .ref co, .int 0, .int 4, .int (-40), .int 20, .int 0, .int 0, .int 100, .int 60, .int 14]))] sz)) (vx_X (fun _ : Unit => True) (fun (E : String) (_ : Unit) (_ : State) => (E = "java/lang/IllegalArgumentException" ∧ t_X10_dew p0 = 1)) (va_A [(h, .inr (16, [.ref l1, .ref l2, .ref l3, .ref l4, .ref l5, .ref l6, .ref l7, .ref l8, .ref l9, .ref ch, .ref co, .int 0, .int 4, .int (-40), .int 20, .int 0, .int 0, .int 100, .int 60, .int 14]))] sz)) 1 6 (va_A [(h, .inr (16, [.ref l1, .ref l2, .ref l3, .ref l4, .ref l5, .ref l6, .ref l7, .ref l8, .ref l9, .ref ch, .ref co, .int 0, .int 4, .int (-40), .int 20, .int 0, .int 0, .int 100, .int 60, .int 14]))] sz) := by
  refine vx_ofW (cc := cX10_dew) (maxL := 3) (ret := (some .int)) (by decide +kernel) rfl ?_
  intro p e9 s m args below meth c s₁ B hml htb hv
  obtain ⟨rfl, hsz, hP, hK, hD0, hE0⟩ := hv
  have hx := B.exec
  have hb := B.bytes
  have hr := B.returns
  have hts := atoms_spec (ws := wsX10_dew) B.pre
  have hown : s.vm.findClass RX10 = some m.cls := findClass_of_methodNamed B.named
  have hlocks := B.notSynchronized
  subst hsz
  have hD := hD0.self (sz := s.heap.size)
  generalize hAe : va_A [(h, .inr (16, [.ref l1, .ref l2, .ref l3, .ref l4, .ref l5, .ref l6, .ref l7, .ref l8, .ref l9, .ref ch, .ref co, .int 0, .int 4, .int (-40), .int 20, .int 0, .int 0, .int 100, .int 60, .int 14]))] s.heap.size = A at hD hE0 ⊢
  have hA : ∀ q : Nat, s.heap.size ≤ q → A q := fun q h => by rw [← hAe]; exact Or.inr h
  have hS : va_S A s.heap s.heap [] := va_S.rf
  have hE := hE0
  have hP : va_P D vwCl [(h, .inr (16, [.ref l1, .ref l2, .ref l3, .ref l4, .ref l5, .ref l6, .ref l7, .ref l8, .ref l9, .ref ch, .ref co, .int 0, .int 4, .int (-40), .int 20, .int 0, .int 0, .int 100, .int 60, .int 14]))] s.heap := hP
  have hl := lv_entry ([.ref h, .int p0]) (n := 3) (Nat.le_of_ble_eq_true rfl)
  rw [lg_entry_eq]
  generalize (lg_sl ([.ref h, .int p0]) ++ List.replicate (3 - (lg_sl ([.ref h, .int p0])).length) Slot.unset).toArray = ls at hl ⊢
  have hl : lv_has ls 3 [(0, .ref h), (1, .int p0)] := hl
  refine lv_iload_n hx hb dX10_dew_0 rfl (lv_at hl 1 rfl) ?_
  refine lv_bipush (v := (-60)) hx hb dX10_dew_1 (by decide) ?_
  refine lv_iconst (v := 0) hx hb dX10_dew_3 (by decide) ?_
  have hFc := va_free (wc := []) hD hS hA [] rfl
  refine vx_callv (vx_runS (As := [.int p0, .int (-60), .int 0]) (rest := []) ⟨hx, hb, hml, hown, hts⟩ (c_X10_requireWithin l hst D e p0 (-60) 0 s.heap.size) (va_cwS 3 hts gX10_dew_X10_requireWithin rfl rfl rfl (by decide +kernel) ⟨Nat.le_of_ble_eq_true rfl, Nat.le_of_ble_eq_true rfl⟩) ⟨cIn_blind, cIn_go hK hP hD hE hS hA [] rfl rfl (by decide) [] rfl⟩ rfl rfl hl.1 rfl (lv_room (Nat.le_of_ble_eq_true rfl)) dX10_dew_4 ⟨Nat.le_of_ble_eq_true rfl, Nat.le_of_ble_eq_true rfl⟩) hS (fun q _ h => hFc q h) hFc (fun q _ h => hFc q h) (fun E ce q9 u t H1 locs ht hvm hpx hB hz1 hk1 hS hce hcv hcl => ?_) (fun u t H1 locs ht hvm hw hB hz1 hk1 hS => ?_)
  · obtain ⟨rfl, hw⟩ := hB
    have c_3 : ¬ t_X10_requireWithin p0 (-60) 0 = 0 := by rw [hw]; decide
    exact vx_out (fun x hx => (htb x hx).elim) hlocks hce hcv hcl (fun t9 h9 hal => ⟨(), trivial, ⟨rfl, (by unfold t_X10_dew; rw [if_neg c_3])⟩, hS.F h9⟩) hS.2.2 (Nat.le_of_ble_eq_true rfl) (Nat.le_of_ble_eq_true rfl)
  · have c_2 : t_X10_requireWithin p0 (-60) 0 = 0 := hw.1
    obtain ⟨hP, hD⟩ := cIn_rest (wc := []) (wr := [(h, .inr (16, [.ref l1, .ref l2, .ref l3, .ref l4, .ref l5, .ref l6, .ref l7, .ref l8, .ref l9, .ref ch, .ref co, .int 0, .int 4, .int (-40), .int 20, .int 0, .int 0, .int 100, .int 60, .int 14]))]) hP hD [] [0] rfl rfl (by decide) (by decide) hk1 hFc
    generalize H1 = H at hP hS ⊢
    have hP : va_P D vwCl [(h, .inr (16, [.ref l1, .ref l2, .ref l3, .ref l4, .ref l5, .ref l6, .ref l7, .ref l8, .ref l9, .ref ch, .ref co, .int 0, .int 4, .int (-40), .int 20, .int 0, .int 0, .int 100, .int 60, .int 14]))] H := hP
    have hD : va_D A [(h, .inr (16, [.ref l1, .ref l2, .ref l3, .ref l4, .ref l5, .ref l6, .ref l7, .ref l8, .ref l9, .ref ch, .ref co, .int 0, .int 4, .int (-40), .int 20, .int 0, .int 0, .int 100, .int 60, .int 14]))] := hD
    refine W.widen (k := 1) (n := 6) (Nat.le_of_ble_eq_true rfl) (Nat.le_of_ble_eq_true rfl) ?_
    refine lv_aload_n hx hb dX10_dew_7 rfl (lv_at hl 0 rfl) ?_
    refine va_get (D := D) (ci := 16) (v := .int (-40)) (C := RX10) (T := TX10) (N := 20) hx hb hts iw_RX10_wsX10_dew hown hK hP 0 rfl rfl 13 (by decide) (hts (.fieldLink RX10 58 "CoatLine" "dewPoint" "I") (by decide +kernel)) (fun _ h9 => h9) rfl dX10_dew_8 ?_
    refine lv_istore_n (lv' := [(2, .int (-40)), (0, .ref h), (1, .int p0)]) hx hb dX10_dew_11 rfl hl (by decide) rfl (fun ls hl => ?_)
    refine lv_aload_n hx hb dX10_dew_12 rfl (lv_at hl 1 rfl) ?_
    refine lv_iload_n hx hb dX10_dew_13 rfl (lv_at hl 2 rfl) ?_
    refine va_put (D := D) (ci := 16) (v := .int p0) (ty := .int) (C := RX10) (T := TX10) (N := 20) hx hb hts iw_RX10_wsX10_dew tyX10 tyX10_ok nmX10 hown hK hP hD hS 0 rfl rfl 13 (by decide) (hts (.fieldLink RX10 58 "CoatLine" "dewPoint" "I") (by decide +kernel)) (fun _ h9 => h9) rfl (by decide +kernel) rfl rfl (Nat.le_of_ble_eq_true rfl) dX10_dew_14 (fun H locs hP hD hS => ?_)
    have hP : va_P D vwCl [(h, .inr (16, [.ref l1, .ref l2, .ref l3, .ref l4, .ref l5, .ref l6, .ref l7, .ref l8, .ref l9, .ref ch, .ref co, .int 0, .int 4, .int p0, .int 20, .int 0, .int 0, .int 100, .int 60, .int 14]))] H := hP
    have hD : va_D A [(h, .inr (16, [.ref l1, .ref l2, .ref l3, .ref l4, .ref l5, .ref l6, .ref l7, .ref l8, .ref l9, .ref ch, .ref co, .int 0, .int 4, .int p0, .int 20, .int 0, .int 0, .int 100, .int 60, .int 14]))] := hD
    refine lv_iload_n hx hb dX10_dew_17 rfl (lv_at hl 0 rfl) ?_
    refine vx_ret ?_
    exact W.iret (v := (-40)) hx hb hr (fun t ht hW => ⟨⟨(-40), (), rfl, ⟨(by unfold t_X10_dew; rw [if_pos c_2]), (by unfold v_X10_dew; rw [if_pos c_2])⟩, trivial⟩, hS.F ht⟩) hS.2.2 dX10_dew_18
-- X10_room
def t_X10_room (p0 : Int32) : Int32 := if t_X10_requireWithin p0 (-20) 40 = 0 then 0 else 1
def v_X10_room (p0 : Int32) : Int32 := if t_X10_requireWithin p0 (-20) 40 = 0 then 20 else 0
set_option maxHeartbeats 4000000 in
set_option maxRecDepth 100000 in
theorem c_X10_room (l : Launch) (hst : l.stackTraces = false) (D : va_G) (e : Nat) (h : Nat) (l1 : Nat) (l2 : Nat) (l3 : Nat) (l4 : Nat) (l5 : Nat) (l6 : Nat) (l7 : Nat) (l8 : Nat) (l9 : Nat) (ch : Nat) (co : Nat) (p0 : Int32) (sz : Nat) : vx_Met l yX10_room wsX10_room ({ frames := 12, cells := 1, slots := 6, locals := 220 }) (va_Pc [.ref h, .int p0] (cIn D [] [(h, .inr (16, [.ref l1, .ref l2, .ref l3, .ref l4, .ref l5, .ref l6, .ref l7, .ref l8, .ref l9, .ref ch, .ref co, .int 0, .int 4, .int (-40), .int 20, .int 0, .int 0, .int 100, .int 60, .int 14]))] e sz)) (va_Qi (fun (r : Int32) (_ : Unit) => t_X10_room p0 = 0 ∧ r = v_X10_room p0) (fun (_ : Unit) (_ : State) => True) (va_A [(h, .inr (16, [.ref l1, .ref l2, .ref l3, .ref l4, .ref l5, .ref l6, .ref l7, .ref l8, .ref l9, .ref ch, .ref co, .int 0, .int 4, .int (-40), .int 20, .int 0, .int 0, .int 100, .int 60, .int 14]))] sz)) (vx_X (fun _ : Unit => True) (fun (E : String) (_ : Unit) (_ : State) => (E = "java/lang/IllegalArgumentException" ∧ t_X10_room p0 = 1)) (va_A [(h, .inr (16, [.ref l1, .ref l2, .ref l3, .ref l4, .ref l5, .ref l6, .ref l7, .ref l8, .ref l9, .ref ch, .ref co, .int 0, .int 4, .int (-40), .int 20, .int 0, .int 0, .int 100, .int 60, .int 14]))] sz)) 1 6 (va_A [(h, .inr (16, [.ref l1, .ref l2, .ref l3, .ref l4, .ref l5, .ref l6, .ref l7, .ref l8, .ref l9, .ref ch, .ref co, .int 0, .int 4, .int (-40), .int 20, .int 0, .int 0, .int 100, .int 60, .int 14]))] sz) := by
  refine vx_ofW (cc := cX10_room) (maxL := 3) (ret := (some .int)) (by decide +kernel) rfl ?_
  intro p e9 s m args below meth c s₁ B hml htb hv
  obtain ⟨rfl, hsz, hP, hK, hD0, hE0⟩ := hv
  have hx := B.exec
  have hb := B.bytes
  have hr := B.returns
  have hts := atoms_spec (ws := wsX10_room) B.pre
  have hown : s.vm.findClass RX10 = some m.cls := findClass_of_methodNamed B.named
  have hlocks := B.notSynchronized
  subst hsz
  have hD := hD0.self (sz := s.heap.size)
  generalize hAe : va_A [(h, .inr (16, [.ref l1, .ref l2, .ref l3, .ref l4, .ref l5, .ref l6, .ref l7, .ref l8, .ref l9, .ref ch, .ref co, .int 0, .int 4, .int (-40), .int 20, .int 0, .int 0, .int 100, .int 60, .int 14]))] s.heap.size = A at hD hE0 ⊢
  have hA : ∀ q : Nat, s.heap.size ≤ q → A q := fun q h => by rw [← hAe]; exact Or.inr h
  have hS : va_S A s.heap s.heap [] := va_S.rf
  have hE := hE0
  have hP : va_P D vwCl [(h, .inr (16, [.ref l1, .ref l2, .ref l3, .ref l4, .ref l5, .ref l6, .ref l7, .ref l8, .ref l9, .ref ch, .ref co, .int 0, .int 4, .int (-40), .int 20, .int 0, .int 0, .int 100, .int 60, .int 14]))] s.heap := hP
  have hl := lv_entry ([.ref h, .int p0]) (n := 3) (Nat.le_of_ble_eq_true rfl)
  rw [lg_entry_eq]
  generalize (lg_sl ([.ref h, .int p0]) ++ List.replicate (3 - (lg_sl ([.ref h, .int p0])).length) Slot.unset).toArray = ls at hl ⊢
  have hl : lv_has ls 3 [(0, .ref h), (1, .int p0)] := hl
  refine lv_iload_n hx hb dX10_room_0 rfl (lv_at hl 1 rfl) ?_
  refine lv_bipush (v := (-20)) hx hb dX10_room_1 (by decide) ?_
  refine lv_bipush (v := 40) hx hb dX10_room_3 (by decide) ?_
  have hFc := va_free (wc := []) hD hS hA [] rfl
  refine vx_callv (vx_runS (As := [.int p0, .int (-20), .int 40]) (rest := []) ⟨hx, hb, hml, hown, hts⟩ (c_X10_requireWithin l hst D e p0 (-20) 40 s.heap.size) (va_cwS 3 hts gX10_room_X10_requireWithin rfl rfl rfl (by decide +kernel) ⟨Nat.le_of_ble_eq_true rfl, Nat.le_of_ble_eq_true rfl⟩) ⟨cIn_blind, cIn_go hK hP hD hE hS hA [] rfl rfl (by decide) [] rfl⟩ rfl rfl hl.1 rfl (lv_room (Nat.le_of_ble_eq_true rfl)) dX10_room_5 ⟨Nat.le_of_ble_eq_true rfl, Nat.le_of_ble_eq_true rfl⟩) hS (fun q _ h => hFc q h) hFc (fun q _ h => hFc q h) (fun E ce q9 u t H1 locs ht hvm hpx hB hz1 hk1 hS hce hcv hcl => ?_) (fun u t H1 locs ht hvm hw hB hz1 hk1 hS => ?_)
  · obtain ⟨rfl, hw⟩ := hB
    have c_3 : ¬ t_X10_requireWithin p0 (-20) 40 = 0 := by rw [hw]; decide
    exact vx_out (fun x hx => (htb x hx).elim) hlocks hce hcv hcl (fun t9 h9 hal => ⟨(), trivial, ⟨rfl, (by unfold t_X10_room; rw [if_neg c_3])⟩, hS.F h9⟩) hS.2.2 (Nat.le_of_ble_eq_true rfl) (Nat.le_of_ble_eq_true rfl)
  · have c_2 : t_X10_requireWithin p0 (-20) 40 = 0 := hw.1
    obtain ⟨hP, hD⟩ := cIn_rest (wc := []) (wr := [(h, .inr (16, [.ref l1, .ref l2, .ref l3, .ref l4, .ref l5, .ref l6, .ref l7, .ref l8, .ref l9, .ref ch, .ref co, .int 0, .int 4, .int (-40), .int 20, .int 0, .int 0, .int 100, .int 60, .int 14]))]) hP hD [] [0] rfl rfl (by decide) (by decide) hk1 hFc
    generalize H1 = H at hP hS ⊢
    have hP : va_P D vwCl [(h, .inr (16, [.ref l1, .ref l2, .ref l3, .ref l4, .ref l5, .ref l6, .ref l7, .ref l8, .ref l9, .ref ch, .ref co, .int 0, .int 4, .int (-40), .int 20, .int 0, .int 0, .int 100, .int 60, .int 14]))] H := hP
    have hD : va_D A [(h, .inr (16, [.ref l1, .ref l2, .ref l3, .ref l4, .ref l5, .ref l6, .ref l7, .ref l8, .ref l9, .ref ch, .ref co, .int 0, .int 4, .int (-40), .int 20, .int 0, .int 0, .int 100, .int 60, .int 14]))] := hD
    refine W.widen (k := 1) (n := 6) (Nat.le_of_ble_eq_true rfl) (Nat.le_of_ble_eq_true rfl) ?_
    refine lv_aload_n hx hb dX10_room_8 rfl (lv_at hl 0 rfl) ?_
    refine va_get (D := D) (ci := 16) (v := .int 20) (C := RX10) (T := TX10) (N := 20) hx hb hts iw_RX10_wsX10_room hown hK hP 0 rfl rfl 14 (by decide) (hts (.fieldLink RX10 61 "CoatLine" "degreesOfRoom" "I") (by decide +kernel)) (fun _ h9 => h9) rfl dX10_room_9 ?_
    refine lv_istore_n (lv' := [(2, .int 20), (0, .ref h), (1, .int p0)]) hx hb dX10_room_12 rfl hl (by decide) rfl (fun ls hl => ?_)
    refine lv_aload_n hx hb dX10_room_13 rfl (lv_at hl 1 rfl) ?_
    refine lv_iload_n hx hb dX10_room_14 rfl (lv_at hl 2 rfl) ?_
    refine va_put (D := D) (ci := 16) (v := .int p0) (ty := .int) (C := RX10) (T := TX10) (N := 20) hx hb hts iw_RX10_wsX10_room tyX10 tyX10_ok nmX10 hown hK hP hD hS 0 rfl rfl 14 (by decide) (hts (.fieldLink RX10 61 "CoatLine" "degreesOfRoom" "I") (by decide +kernel)) (fun _ h9 => h9) rfl (by decide +kernel) rfl rfl (Nat.le_of_ble_eq_true rfl) dX10_room_15 (fun H locs hP hD hS => ?_)
    have hP : va_P D vwCl [(h, .inr (16, [.ref l1, .ref l2, .ref l3, .ref l4, .ref l5, .ref l6, .ref l7, .ref l8, .ref l9, .ref ch, .ref co, .int 0, .int 4, .int (-40), .int p0, .int 0, .int 0, .int 100, .int 60, .int 14]))] H := hP
    have hD : va_D A [(h, .inr (16, [.ref l1, .ref l2, .ref l3, .ref l4, .ref l5, .ref l6, .ref l7, .ref l8, .ref l9, .ref ch, .ref co, .int 0, .int 4, .int (-40), .int p0, .int 0, .int 0, .int 100, .int 60, .int 14]))] := hD
    refine lv_iload_n hx hb dX10_room_18 rfl (lv_at hl 0 rfl) ?_
    refine vx_ret ?_
    exact W.iret (v := 20) hx hb hr (fun t ht hW => ⟨⟨20, (), rfl, ⟨(by unfold t_X10_room; rw [if_pos c_2]), (by unfold v_X10_room; rw [if_pos c_2])⟩, trivial⟩, hS.F ht⟩) hS.2.2 dX10_room_19
-- X10_bounds
def t_X10_bounds (p0 : Int32) (p1 : Int32) (p2 : Int32) : Int32 := if p0 < 0 then 1 else (if p1 < 0 then 1 else (if p1 ≤ p0 then (if t_X10_requireWithin p2 0 99 = 0 then 0 else 1) else 1))
def v_X10_bounds (p0 : Int32) (p1 : Int32) (p2 : Int32) : Int32 := if p0 < 0 then 0 else (if p1 < 0 then 0 else (if p1 ≤ p0 then (if t_X10_requireWithin p2 0 99 = 0 then 100 else 0) else 0))
set_option maxHeartbeats 4000000 in
set_option maxRecDepth 100000 in
theorem c_X10_bounds (l : Launch) (hst : l.stackTraces = false) (D : va_G) (e : Nat) (h : Nat) (l1 : Nat) (l2 : Nat) (l3 : Nat) (l4 : Nat) (l5 : Nat) (l6 : Nat) (l7 : Nat) (l8 : Nat) (l9 : Nat) (ch : Nat) (co : Nat) (p0 : Int32) (p1 : Int32) (p2 : Int32) (sz : Nat) : vx_Met l yX10_bounds wsX10_bounds ({ frames := 12, cells := 1, slots := 6, locals := 220 }) (va_Pc [.ref h, .int p0, .int p1, .int p2] (cIn D [] [(h, .inr (16, [.ref l1, .ref l2, .ref l3, .ref l4, .ref l5, .ref l6, .ref l7, .ref l8, .ref l9, .ref ch, .ref co, .int 0, .int 4, .int (-40), .int 20, .int 0, .int 0, .int 100, .int 60, .int 14]))] e sz)) (va_Qi (fun (r : Int32) (_ : Unit) => t_X10_bounds p0 p1 p2 = 0 ∧ r = v_X10_bounds p0 p1 p2) (fun (_ : Unit) (_ : State) => True) (va_A [(h, .inr (16, [.ref l1, .ref l2, .ref l3, .ref l4, .ref l5, .ref l6, .ref l7, .ref l8, .ref l9, .ref ch, .ref co, .int 0, .int 4, .int (-40), .int 20, .int 0, .int 0, .int 100, .int 60, .int 14]))] sz)) (vx_X (fun _ : Unit => True) (fun (E : String) (_ : Unit) (_ : State) => (E = "java/lang/IllegalArgumentException" ∧ t_X10_bounds p0 p1 p2 = 1)) (va_A [(h, .inr (16, [.ref l1, .ref l2, .ref l3, .ref l4, .ref l5, .ref l6, .ref l7, .ref l8, .ref l9, .ref ch, .ref co, .int 0, .int 4, .int (-40), .int 20, .int 0, .int 0, .int 100, .int 60, .int 14]))] sz)) 1 6 (va_A [(h, .inr (16, [.ref l1, .ref l2, .ref l3, .ref l4, .ref l5, .ref l6, .ref l7, .ref l8, .ref l9, .ref ch, .ref co, .int 0, .int 4, .int (-40), .int 20, .int 0, .int 0, .int 100, .int 60, .int 14]))] sz) := by
  refine vx_ofW (cc := cX10_bounds) (maxL := 5) (ret := (some .int)) (by decide +kernel) rfl ?_
  intro p e9 s m args below meth c s₁ B hml htb hv
  obtain ⟨rfl, hsz, hP, hK, hD0, hE0⟩ := hv
  have hx := B.exec
  have hb := B.bytes
  have hr := B.returns
  have hts := atoms_spec (ws := wsX10_bounds) B.pre
  have hown : s.vm.findClass RX10 = some m.cls := findClass_of_methodNamed B.named
  have hlocks := B.notSynchronized
  subst hsz
  have hD := hD0.self (sz := s.heap.size)
  generalize hAe : va_A [(h, .inr (16, [.ref l1, .ref l2, .ref l3, .ref l4, .ref l5, .ref l6, .ref l7, .ref l8, .ref l9, .ref ch, .ref co, .int 0, .int 4, .int (-40), .int 20, .int 0, .int 0, .int 100, .int 60, .int 14]))] s.heap.size = A at hD hE0 ⊢
  have hA : ∀ q : Nat, s.heap.size ≤ q → A q := fun q h => by rw [← hAe]; exact Or.inr h
  have hS : va_S A s.heap s.heap [] := va_S.rf
  have hE := hE0
  have hP : va_P D vwCl [(h, .inr (16, [.ref l1, .ref l2, .ref l3, .ref l4, .ref l5, .ref l6, .ref l7, .ref l8, .ref l9, .ref ch, .ref co, .int 0, .int 4, .int (-40), .int 20, .int 0, .int 0, .int 100, .int 60, .int 14]))] s.heap := hP
  have hl := lv_entry ([.ref h, .int p0, .int p1, .int p2]) (n := 5) (Nat.le_of_ble_eq_true rfl)
  rw [lg_entry_eq]
  generalize (lg_sl ([.ref h, .int p0, .int p1, .int p2]) ++ List.replicate (5 - (lg_sl ([.ref h, .int p0, .int p1, .int p2])).length) Slot.unset).toArray = ls at hl ⊢
  have hl : lv_has ls 5 [(0, .ref h), (1, .int p0), (2, .int p1), (3, .int p2)] := hl
  refine lv_iload_n hx hb dX10_bounds_0 rfl (lv_at hl 1 rfl) ?_
  refine lv_if_lt (tgt := 13) hx hb dX10_bounds_1 (by decide) (fun c_1 => ?_) (fun c_1 => ?_)
  · obtain ⟨sa_2, hs_3⟩ := ev_x hE (q := (351, "a bound below 0, or the second above the first")) (by decide +kernel)
    exact vx_throwSW hx hb hst hown (by decide +kernel) (by decide +kernel) (hts (.classLink RX10 79 "java/lang/IllegalArgumentException") (by decide +kernel)) (hts (.initialized "java/lang/IllegalArgumentException") (by decide +kernel)) hs_3 (vx_hat (fun w hw => hts w (hm_wsX10_bounds_83 w hw)) hn_RX10_83 (vx_c (ev_u hE (w := .castable "java/lang/IllegalArgumentException" _) (by decide +kernel) rfl) (vx_c (ev_u hE (by decide +kernel) rfl) (vx_c (ev_u hE (by decide +kernel) rfl) (vx_c (ev_u hE (by decide +kernel) rfl) vx_n))))) ht_RX10_79_83 hE.1.1.1 hE.1.1.2 hS (hl.1.trans hml.symm) dX10_bounds_13 dX10_bounds_16 dX10_bounds_17 dX10_bounds_20 dX10_bounds_23 (fun x hx => (htb x hx).elim) (Nat.le_of_ble_eq_true rfl) (Nat.le_of_ble_eq_true rfl) (Nat.le_of_ble_eq_true rfl) (Nat.le_of_ble_eq_true rfl) hlocks (fun t hal h1 h2 => ⟨(), trivial, ⟨rfl, (by unfold t_X10_bounds; rw [if_pos c_1])⟩, thr_F hS h1 h2⟩) hS.2.2 (Nat.le_of_ble_eq_true rfl) (Nat.le_of_ble_eq_true rfl)
  · refine lv_iload_n hx hb dX10_bounds_4 rfl (lv_at hl 2 rfl) ?_
    refine lv_if_lt (tgt := 13) hx hb dX10_bounds_5 (by decide) (fun c_4 => ?_) (fun c_4 => ?_)
    · obtain ⟨sa_5, hs_6⟩ := ev_x hE (q := (351, "a bound below 0, or the second above the first")) (by decide +kernel)
      exact vx_throwSW hx hb hst hown (by decide +kernel) (by decide +kernel) (hts (.classLink RX10 79 "java/lang/IllegalArgumentException") (by decide +kernel)) (hts (.initialized "java/lang/IllegalArgumentException") (by decide +kernel)) hs_6 (vx_hat (fun w hw => hts w (hm_wsX10_bounds_83 w hw)) hn_RX10_83 (vx_c (ev_u hE (w := .castable "java/lang/IllegalArgumentException" _) (by decide +kernel) rfl) (vx_c (ev_u hE (by decide +kernel) rfl) (vx_c (ev_u hE (by decide +kernel) rfl) (vx_c (ev_u hE (by decide +kernel) rfl) vx_n))))) ht_RX10_79_83 hE.1.1.1 hE.1.1.2 hS (hl.1.trans hml.symm) dX10_bounds_13 dX10_bounds_16 dX10_bounds_17 dX10_bounds_20 dX10_bounds_23 (fun x hx => (htb x hx).elim) (Nat.le_of_ble_eq_true rfl) (Nat.le_of_ble_eq_true rfl) (Nat.le_of_ble_eq_true rfl) (Nat.le_of_ble_eq_true rfl) hlocks (fun t hal h1 h2 => ⟨(), trivial, ⟨rfl, (by unfold t_X10_bounds; rw [if_neg c_1, if_pos c_4])⟩, thr_F hS h1 h2⟩) hS.2.2 (Nat.le_of_ble_eq_true rfl) (Nat.le_of_ble_eq_true rfl)
    · refine lv_iload_n hx hb dX10_bounds_8 rfl (lv_at hl 2 rfl) ?_
      refine lv_iload_n hx hb dX10_bounds_9 rfl (lv_at hl 1 rfl) ?_
      refine lv_icmp_le (tgt := 24) hx hb dX10_bounds_10 (by decide) (fun c_7 => ?_) (fun c_7 => ?_)
      · refine lv_iload_n hx hb dX10_bounds_24 rfl (lv_at hl 3 rfl) ?_
        refine lv_iconst (v := 0) hx hb dX10_bounds_25 (by decide) ?_
        refine lv_bipush (v := 99) hx hb dX10_bounds_26 (by decide) ?_
        have hFc := va_free (wc := []) hD hS hA [] rfl
        refine vx_callv (vx_runS (As := [.int p2, .int 0, .int 99]) (rest := []) ⟨hx, hb, hml, hown, hts⟩ (c_X10_requireWithin l hst D e p2 0 99 s.heap.size) (va_cwS 3 hts gX10_bounds_X10_requireWithin rfl rfl rfl (by decide +kernel) ⟨Nat.le_of_ble_eq_true rfl, Nat.le_of_ble_eq_true rfl⟩) ⟨cIn_blind, cIn_go hK hP hD hE hS hA [] rfl rfl (by decide) [] rfl⟩ rfl rfl hl.1 rfl (lv_room (Nat.le_of_ble_eq_true rfl)) dX10_bounds_28 ⟨Nat.le_of_ble_eq_true rfl, Nat.le_of_ble_eq_true rfl⟩) hS (fun q _ h => hFc q h) hFc (fun q _ h => hFc q h) (fun E ce q9 u t H1 locs ht hvm hpx hB hz1 hk1 hS hce hcv hcl => ?_) (fun u t H1 locs ht hvm hw hB hz1 hk1 hS => ?_)
        · obtain ⟨rfl, hw⟩ := hB
          have c_10 : ¬ t_X10_requireWithin p2 0 99 = 0 := by rw [hw]; decide
          exact vx_out (fun x hx => (htb x hx).elim) hlocks hce hcv hcl (fun t9 h9 hal => ⟨(), trivial, ⟨rfl, (by unfold t_X10_bounds; rw [if_neg c_1, if_neg c_4, if_pos c_7, if_neg c_10])⟩, hS.F h9⟩) hS.2.2 (Nat.le_of_ble_eq_true rfl) (Nat.le_of_ble_eq_true rfl)
        · have c_9 : t_X10_requireWithin p2 0 99 = 0 := hw.1
          obtain ⟨hP, hD⟩ := cIn_rest (wc := []) (wr := [(h, .inr (16, [.ref l1, .ref l2, .ref l3, .ref l4, .ref l5, .ref l6, .ref l7, .ref l8, .ref l9, .ref ch, .ref co, .int 0, .int 4, .int (-40), .int 20, .int 0, .int 0, .int 100, .int 60, .int 14]))]) hP hD [] [0] rfl rfl (by decide) (by decide) hk1 hFc
          generalize H1 = H at hP hS ⊢
          have hP : va_P D vwCl [(h, .inr (16, [.ref l1, .ref l2, .ref l3, .ref l4, .ref l5, .ref l6, .ref l7, .ref l8, .ref l9, .ref ch, .ref co, .int 0, .int 4, .int (-40), .int 20, .int 0, .int 0, .int 100, .int 60, .int 14]))] H := hP
          have hD : va_D A [(h, .inr (16, [.ref l1, .ref l2, .ref l3, .ref l4, .ref l5, .ref l6, .ref l7, .ref l8, .ref l9, .ref ch, .ref co, .int 0, .int 4, .int (-40), .int 20, .int 0, .int 0, .int 100, .int 60, .int 14]))] := hD
          refine W.widen (k := 1) (n := 6) (Nat.le_of_ble_eq_true rfl) (Nat.le_of_ble_eq_true rfl) ?_
          refine lv_aload_n hx hb dX10_bounds_31 rfl (lv_at hl 0 rfl) ?_
          refine va_get (D := D) (ci := 16) (v := .int 100) (C := RX10) (T := TX10) (N := 20) hx hb hts iw_RX10_wsX10_bounds hown hK hP 0 rfl rfl 17 (by decide) (hts (.fieldLink RX10 70 "CoatLine" "firstBound" "I") (by decide +kernel)) (fun _ h9 => h9) rfl dX10_bounds_32 ?_
          refine lv_istore (lv' := [(4, .int 100), (0, .ref h), (1, .int p0), (2, .int p1), (3, .int p2)]) hx hb dX10_bounds_35 hl (by decide) rfl (fun ls hl => ?_)
          refine lv_aload_n hx hb dX10_bounds_37 rfl (lv_at hl 1 rfl) ?_
          refine lv_iload_n hx hb dX10_bounds_38 rfl (lv_at hl 2 rfl) ?_
          refine va_put (D := D) (ci := 16) (v := .int p0) (ty := .int) (C := RX10) (T := TX10) (N := 20) hx hb hts iw_RX10_wsX10_bounds tyX10 tyX10_ok nmX10 hown hK hP hD hS 0 rfl rfl 17 (by decide) (hts (.fieldLink RX10 70 "CoatLine" "firstBound" "I") (by decide +kernel)) (fun _ h9 => h9) rfl (by decide +kernel) rfl rfl (Nat.le_of_ble_eq_true rfl) dX10_bounds_39 (fun H locs hP hD hS => ?_)
          have hP : va_P D vwCl [(h, .inr (16, [.ref l1, .ref l2, .ref l3, .ref l4, .ref l5, .ref l6, .ref l7, .ref l8, .ref l9, .ref ch, .ref co, .int 0, .int 4, .int (-40), .int 20, .int 0, .int 0, .int p0, .int 60, .int 14]))] H := hP
          have hD : va_D A [(h, .inr (16, [.ref l1, .ref l2, .ref l3, .ref l4, .ref l5, .ref l6, .ref l7, .ref l8, .ref l9, .ref ch, .ref co, .int 0, .int 4, .int (-40), .int 20, .int 0, .int 0, .int p0, .int 60, .int 14]))] := hD
          refine lv_aload_n hx hb dX10_bounds_42 rfl (lv_at hl 1 rfl) ?_
          refine lv_iload_n hx hb dX10_bounds_43 rfl (lv_at hl 3 rfl) ?_
          refine va_put (D := D) (ci := 16) (v := .int p1) (ty := .int) (C := RX10) (T := TX10) (N := 20) hx hb hts iw_RX10_wsX10_bounds tyX10 tyX10_ok nmX10 hown hK hP hD hS 0 rfl rfl 18 (by decide) (hts (.fieldLink RX10 73 "CoatLine" "secondBound" "I") (by decide +kernel)) (fun _ h9 => h9) rfl (by decide +kernel) rfl rfl (Nat.le_of_ble_eq_true rfl) dX10_bounds_44 (fun H locs hP hD hS => ?_)
          have hP : va_P D vwCl [(h, .inr (16, [.ref l1, .ref l2, .ref l3, .ref l4, .ref l5, .ref l6, .ref l7, .ref l8, .ref l9, .ref ch, .ref co, .int 0, .int 4, .int (-40), .int 20, .int 0, .int 0, .int p0, .int p1, .int 14]))] H := hP
          have hD : va_D A [(h, .inr (16, [.ref l1, .ref l2, .ref l3, .ref l4, .ref l5, .ref l6, .ref l7, .ref l8, .ref l9, .ref ch, .ref co, .int 0, .int 4, .int (-40), .int 20, .int 0, .int 0, .int p0, .int p1, .int 14]))] := hD
          refine lv_aload_n hx hb dX10_bounds_47 rfl (lv_at hl 1 rfl) ?_
          refine lv_iload_n hx hb dX10_bounds_48 rfl (lv_at hl 4 rfl) ?_
          refine va_put (D := D) (ci := 16) (v := .int p2) (ty := .int) (C := RX10) (T := TX10) (N := 20) hx hb hts iw_RX10_wsX10_bounds tyX10 tyX10_ok nmX10 hown hK hP hD hS 0 rfl rfl 19 (by decide) (hts (.fieldLink RX10 76 "CoatLine" "resistanceLimit" "I") (by decide +kernel)) (fun _ h9 => h9) rfl (by decide +kernel) rfl rfl (Nat.le_of_ble_eq_true rfl) dX10_bounds_49 (fun H locs hP hD hS => ?_)
          have hP : va_P D vwCl [(h, .inr (16, [.ref l1, .ref l2, .ref l3, .ref l4, .ref l5, .ref l6, .ref l7, .ref l8, .ref l9, .ref ch, .ref co, .int 0, .int 4, .int (-40), .int 20, .int 0, .int 0, .int p0, .int p1, .int p2]))] H := hP
          have hD : va_D A [(h, .inr (16, [.ref l1, .ref l2, .ref l3, .ref l4, .ref l5, .ref l6, .ref l7, .ref l8, .ref l9, .ref ch, .ref co, .int 0, .int 4, .int (-40), .int 20, .int 0, .int 0, .int p0, .int p1, .int p2]))] := hD
          refine lv_iload hx hb dX10_bounds_52 (lv_at hl 0 rfl) ?_
          refine vx_ret ?_
          exact W.iret (v := 100) hx hb hr (fun t ht hW => ⟨⟨100, (), rfl, ⟨(by unfold t_X10_bounds; rw [if_neg c_1, if_neg c_4, if_pos c_7, if_pos c_9]), (by unfold v_X10_bounds; rw [if_neg c_1, if_neg c_4, if_pos c_7, if_pos c_9])⟩, trivial⟩, hS.F ht⟩) hS.2.2 dX10_bounds_54
      · obtain ⟨sa_11, hs_12⟩ := ev_x hE (q := (351, "a bound below 0, or the second above the first")) (by decide +kernel)
        exact vx_throwSW hx hb hst hown (by decide +kernel) (by decide +kernel) (hts (.classLink RX10 79 "java/lang/IllegalArgumentException") (by decide +kernel)) (hts (.initialized "java/lang/IllegalArgumentException") (by decide +kernel)) hs_12 (vx_hat (fun w hw => hts w (hm_wsX10_bounds_83 w hw)) hn_RX10_83 (vx_c (ev_u hE (w := .castable "java/lang/IllegalArgumentException" _) (by decide +kernel) rfl) (vx_c (ev_u hE (by decide +kernel) rfl) (vx_c (ev_u hE (by decide +kernel) rfl) (vx_c (ev_u hE (by decide +kernel) rfl) vx_n))))) ht_RX10_79_83 hE.1.1.1 hE.1.1.2 hS (hl.1.trans hml.symm) dX10_bounds_13 dX10_bounds_16 dX10_bounds_17 dX10_bounds_20 dX10_bounds_23 (fun x hx => (htb x hx).elim) (Nat.le_of_ble_eq_true rfl) (Nat.le_of_ble_eq_true rfl) (Nat.le_of_ble_eq_true rfl) (Nat.le_of_ble_eq_true rfl) hlocks (fun t hal h1 h2 => ⟨(), trivial, ⟨rfl, (by unfold t_X10_bounds; rw [if_neg c_1, if_neg c_4, if_neg c_7])⟩, thr_F hS h1 h2⟩) hS.2.2 (Nat.le_of_ble_eq_true rfl) (Nat.le_of_ble_eq_true rfl)
-- X10_sharpen
def v_X10_sharpen : Int32 := 0
set_option maxHeartbeats 4000000 in
set_option maxRecDepth 100000 in
theorem c_X10_sharpen (l : Launch) (hst : l.stackTraces = false) (D : va_G) (e : Nat) (h : Nat) (l1 : Nat) (l2 : Nat) (l3 : Nat) (l4 : Nat) (l5 : Nat) (l6 : Nat) (l7 : Nat) (l8 : Nat) (l9 : Nat) (ch : Nat) (co : Nat) (sz : Nat) : Met l yX10_sharpen wsX10_sharpen ({ frames := 12, cells := 0, slots := 0, locals := 220 }) (va_Pc [.ref h] (cIn D [] [(h, .inr (16, [.ref l1, .ref l2, .ref l3, .ref l4, .ref l5, .ref l6, .ref l7, .ref l8, .ref l9, .ref ch, .ref co, .int 0, .int 4, .int (-40), .int 20, .int 0, .int 0, .int 100, .int 60, .int 14]))] e sz)) (va_Qi (fun (r : Int32) (_ : Unit) => r = v_X10_sharpen) (fun (_ : Unit) (_ : State) => True) (va_A [(h, .inr (16, [.ref l1, .ref l2, .ref l3, .ref l4, .ref l5, .ref l6, .ref l7, .ref l8, .ref l9, .ref ch, .ref co, .int 0, .int 4, .int (-40), .int 20, .int 0, .int 0, .int 100, .int 60, .int 14]))] sz)) 0 0 (va_A [(h, .inr (16, [.ref l1, .ref l2, .ref l3, .ref l4, .ref l5, .ref l6, .ref l7, .ref l8, .ref l9, .ref ch, .ref co, .int 0, .int 4, .int (-40), .int 20, .int 0, .int 0, .int 100, .int 60, .int 14]))] sz) := by
  refine Met.ofW (cc := cX10_sharpen) (maxL := 2) (ret := (some .int)) (by decide +kernel) rfl ?_
  intro p e9 s m args below meth c s₁ B hml hv
  obtain ⟨rfl, hsz, hP, hK, hD0, hE0⟩ := hv
  have hx := B.exec
  have hb := B.bytes
  have hr := B.returns
  have hts := atoms_spec (ws := wsX10_sharpen) B.pre
  have hown : s.vm.findClass RX10 = some m.cls := findClass_of_methodNamed B.named
  have hlocks := B.notSynchronized
  subst hsz
  have hD := hD0.self (sz := s.heap.size)
  generalize hAe : va_A [(h, .inr (16, [.ref l1, .ref l2, .ref l3, .ref l4, .ref l5, .ref l6, .ref l7, .ref l8, .ref l9, .ref ch, .ref co, .int 0, .int 4, .int (-40), .int 20, .int 0, .int 0, .int 100, .int 60, .int 14]))] s.heap.size = A at hD hE0 ⊢
  have hA : ∀ q : Nat, s.heap.size ≤ q → A q := fun q h => by rw [← hAe]; exact Or.inr h
  have hS : va_S A s.heap s.heap [] := va_S.rf
  have hE := hE0
  have hP : va_P D vwCl [(h, .inr (16, [.ref l1, .ref l2, .ref l3, .ref l4, .ref l5, .ref l6, .ref l7, .ref l8, .ref l9, .ref ch, .ref co, .int 0, .int 4, .int (-40), .int 20, .int 0, .int 0, .int 100, .int 60, .int 14]))] s.heap := hP
  have hl := lv_entry ([.ref h]) (n := 2) (Nat.le_of_ble_eq_true rfl)
  rw [lg_entry_eq]
  generalize (lg_sl ([.ref h]) ++ List.replicate (2 - (lg_sl ([.ref h])).length) Slot.unset).toArray = ls at hl ⊢
  have hl : lv_has ls 2 [(0, .ref h)] := hl
  refine lv_aload_n hx hb dX10_sharpen_0 rfl (lv_at hl 0 rfl) ?_
  refine va_get (D := D) (ci := 16) (v := .int 0) (C := RX10) (T := TX10) (N := 20) hx hb hts iw_RX10_wsX10_sharpen hown hK hP 0 rfl rfl 11 (by decide) (hts (.fieldLink RX10 51 "CoatLine" "knifeWear" "I") (by decide +kernel)) (fun _ h9 => h9) rfl dX10_sharpen_1 ?_
  refine lv_istore_n (lv' := [(1, .int 0), (0, .ref h)]) hx hb dX10_sharpen_4 rfl hl (by decide) rfl (fun ls hl => ?_)
  refine lv_aload_n hx hb dX10_sharpen_5 rfl (lv_at hl 1 rfl) ?_
  refine lv_iconst (v := 0) hx hb dX10_sharpen_6 (by decide) ?_
  refine va_put (D := D) (ci := 16) (v := .int 0) (ty := .int) (C := RX10) (T := TX10) (N := 20) hx hb hts iw_RX10_wsX10_sharpen tyX10 tyX10_ok nmX10 hown hK hP hD hS 0 rfl rfl 11 (by decide) (hts (.fieldLink RX10 51 "CoatLine" "knifeWear" "I") (by decide +kernel)) (fun _ h9 => h9) rfl (by decide +kernel) rfl rfl (Nat.le_of_ble_eq_true rfl) dX10_sharpen_7 (fun H locs hP hD hS => ?_)
  have hP : va_P D vwCl [(h, .inr (16, [.ref l1, .ref l2, .ref l3, .ref l4, .ref l5, .ref l6, .ref l7, .ref l8, .ref l9, .ref ch, .ref co, .int 0, .int 4, .int (-40), .int 20, .int 0, .int 0, .int 100, .int 60, .int 14]))] H := hP
  have hD : va_D A [(h, .inr (16, [.ref l1, .ref l2, .ref l3, .ref l4, .ref l5, .ref l6, .ref l7, .ref l8, .ref l9, .ref ch, .ref co, .int 0, .int 4, .int (-40), .int 20, .int 0, .int 0, .int 100, .int 60, .int 14]))] := hD
  refine lv_iload_n hx hb dX10_sharpen_10 rfl (lv_at hl 0 rfl) ?_
  exact W.iret (v := 0) hx hb hr (fun t ht hW => ⟨⟨0, (), rfl, rfl, trivial⟩, hS.F ht⟩) hS.2.2 dX10_sharpen_11
-- X10_givenBack
def v_X10_givenBack : Int32 := 0
set_option maxHeartbeats 4000000 in
set_option maxRecDepth 100000 in
theorem c_X10_givenBack (l : Launch) (hst : l.stackTraces = false) (D : va_G) (e : Nat) (h : Nat) (l1 : Nat) (l2 : Nat) (l3 : Nat) (l4 : Nat) (l5 : Nat) (l6 : Nat) (l7 : Nat) (l8 : Nat) (l9 : Nat) (ch : Nat) (co : Nat) (sz : Nat) : Met l yX10_givenBack wsX10_givenBack ({ frames := 12, cells := 0, slots := 0, locals := 220 }) (va_Pc [.ref h] (cIn D [] [(h, .inr (16, [.ref l1, .ref l2, .ref l3, .ref l4, .ref l5, .ref l6, .ref l7, .ref l8, .ref l9, .ref ch, .ref co, .int 0, .int 4, .int (-40), .int 20, .int 0, .int 0, .int 100, .int 60, .int 14]))] e sz)) (va_Qi (fun (r : Int32) (_ : Unit) => r = v_X10_givenBack) (fun (_ : Unit) (_ : State) => True) (va_A [(h, .inr (16, [.ref l1, .ref l2, .ref l3, .ref l4, .ref l5, .ref l6, .ref l7, .ref l8, .ref l9, .ref ch, .ref co, .int 0, .int 4, .int (-40), .int 20, .int 0, .int 0, .int 100, .int 60, .int 14]))] sz)) 0 0 (va_A [(h, .inr (16, [.ref l1, .ref l2, .ref l3, .ref l4, .ref l5, .ref l6, .ref l7, .ref l8, .ref l9, .ref ch, .ref co, .int 0, .int 4, .int (-40), .int 20, .int 0, .int 0, .int 100, .int 60, .int 14]))] sz) := by
  refine Met.ofW (cc := cX10_givenBack) (maxL := 1) (ret := (some .int)) (by decide +kernel) rfl ?_
  intro p e9 s m args below meth c s₁ B hml hv
  obtain ⟨rfl, hsz, hP, hK, hD0, hE0⟩ := hv
  have hx := B.exec
  have hb := B.bytes
  have hr := B.returns
  have hts := atoms_spec (ws := wsX10_givenBack) B.pre
  have hown : s.vm.findClass RX10 = some m.cls := findClass_of_methodNamed B.named
  have hlocks := B.notSynchronized
  subst hsz
  have hD := hD0.self (sz := s.heap.size)
  generalize hAe : va_A [(h, .inr (16, [.ref l1, .ref l2, .ref l3, .ref l4, .ref l5, .ref l6, .ref l7, .ref l8, .ref l9, .ref ch, .ref co, .int 0, .int 4, .int (-40), .int 20, .int 0, .int 0, .int 100, .int 60, .int 14]))] s.heap.size = A at hD hE0 ⊢
  have hA : ∀ q : Nat, s.heap.size ≤ q → A q := fun q h => by rw [← hAe]; exact Or.inr h
  have hS : va_S A s.heap s.heap [] := va_S.rf
  have hE := hE0
  have hP : va_P D vwCl [(h, .inr (16, [.ref l1, .ref l2, .ref l3, .ref l4, .ref l5, .ref l6, .ref l7, .ref l8, .ref l9, .ref ch, .ref co, .int 0, .int 4, .int (-40), .int 20, .int 0, .int 0, .int 100, .int 60, .int 14]))] s.heap := hP
  have hl := lv_entry ([.ref h]) (n := 1) (Nat.le_of_ble_eq_true rfl)
  rw [lg_entry_eq]
  generalize (lg_sl ([.ref h]) ++ List.replicate (1 - (lg_sl ([.ref h])).length) Slot.unset).toArray = ls at hl ⊢
  have hl : lv_has ls 1 [(0, .ref h)] := hl
  refine lv_aload_n hx hb dX10_givenBack_0 rfl (lv_at hl 0 rfl) ?_
  refine va_get (D := D) (ci := 16) (v := .int 0) (C := RX10) (T := TX10) (N := 20) hx hb hts iw_RX10_wsX10_givenBack hown hK hP 0 rfl rfl 16 (by decide) (hts (.fieldLink RX10 67 "CoatLine" "sumGivenBack" "I") (by decide +kernel)) (fun _ h9 => h9) rfl dX10_givenBack_1 ?_
  exact W.iret (v := 0) hx hb hr (fun t ht hW => ⟨⟨0, (), rfl, rfl, trivial⟩, hS.F ht⟩) hS.2.2 dX10_givenBack_4
-- X10_time
def v_X10_time : Int32 := 0
set_option maxHeartbeats 4000000 in
set_option maxRecDepth 100000 in
theorem c_X10_time (l : Launch) (hst : l.stackTraces = false) (D : va_G) (e : Nat) (h : Nat) (l1 : Nat) (l2 : Nat) (l3 : Nat) (l4 : Nat) (l5 : Nat) (l6 : Nat) (l7 : Nat) (l8 : Nat) (l9 : Nat) (ch : Nat) (co : Nat) (sz : Nat) : Met l yX10_time wsX10_time ({ frames := 12, cells := 0, slots := 0, locals := 220 }) (va_Pc [.ref h] (cIn D [] [(h, .inr (16, [.ref l1, .ref l2, .ref l3, .ref l4, .ref l5, .ref l6, .ref l7, .ref l8, .ref l9, .ref ch, .ref co, .int 0, .int 4, .int (-40), .int 20, .int 0, .int 0, .int 100, .int 60, .int 14]))] e sz)) (va_Qi (fun (r : Int32) (_ : Unit) => r = v_X10_time) (fun (_ : Unit) (_ : State) => True) (va_A [(h, .inr (16, [.ref l1, .ref l2, .ref l3, .ref l4, .ref l5, .ref l6, .ref l7, .ref l8, .ref l9, .ref ch, .ref co, .int 0, .int 4, .int (-40), .int 20, .int 0, .int 0, .int 100, .int 60, .int 14]))] sz)) 0 0 (va_A [(h, .inr (16, [.ref l1, .ref l2, .ref l3, .ref l4, .ref l5, .ref l6, .ref l7, .ref l8, .ref l9, .ref ch, .ref co, .int 0, .int 4, .int (-40), .int 20, .int 0, .int 0, .int 100, .int 60, .int 14]))] sz) := by
  refine Met.ofW (cc := cX10_time) (maxL := 1) (ret := (some .int)) (by decide +kernel) rfl ?_
  intro p e9 s m args below meth c s₁ B hml hv
  obtain ⟨rfl, hsz, hP, hK, hD0, hE0⟩ := hv
  have hx := B.exec
  have hb := B.bytes
  have hr := B.returns
  have hts := atoms_spec (ws := wsX10_time) B.pre
  have hown : s.vm.findClass RX10 = some m.cls := findClass_of_methodNamed B.named
  have hlocks := B.notSynchronized
  subst hsz
  have hD := hD0.self (sz := s.heap.size)
  generalize hAe : va_A [(h, .inr (16, [.ref l1, .ref l2, .ref l3, .ref l4, .ref l5, .ref l6, .ref l7, .ref l8, .ref l9, .ref ch, .ref co, .int 0, .int 4, .int (-40), .int 20, .int 0, .int 0, .int 100, .int 60, .int 14]))] s.heap.size = A at hD hE0 ⊢
  have hA : ∀ q : Nat, s.heap.size ≤ q → A q := fun q h => by rw [← hAe]; exact Or.inr h
  have hS : va_S A s.heap s.heap [] := va_S.rf
  have hE := hE0
  have hP : va_P D vwCl [(h, .inr (16, [.ref l1, .ref l2, .ref l3, .ref l4, .ref l5, .ref l6, .ref l7, .ref l8, .ref l9, .ref ch, .ref co, .int 0, .int 4, .int (-40), .int 20, .int 0, .int 0, .int 100, .int 60, .int 14]))] s.heap := hP
  have hl := lv_entry ([.ref h]) (n := 1) (Nat.le_of_ble_eq_true rfl)
  rw [lg_entry_eq]
  generalize (lg_sl ([.ref h]) ++ List.replicate (1 - (lg_sl ([.ref h])).length) Slot.unset).toArray = ls at hl ⊢
  have hl : lv_has ls 1 [(0, .ref h)] := hl
  refine lv_aload_n hx hb dX10_time_0 rfl (lv_at hl 0 rfl) ?_
  refine va_get (D := D) (ci := 16) (v := .int 0) (C := RX10) (T := TX10) (N := 20) hx hb hts iw_RX10_wsX10_time hown hK hP 0 rfl rfl 15 (by decide) (hts (.fieldLink RX10 64 "CoatLine" "hour" "I") (by decide +kernel)) (fun _ h9 => h9) rfl dX10_time_1 ?_
  exact W.iret (v := 0) hx hb hr (fun t ht hW => ⟨⟨0, (), rfl, rfl, trivial⟩, hS.F ht⟩) hS.2.2 dX10_time_4
-- X10_drift
def t_X10_drift (p0 : Int32) : Int32 := if t_X10_requireWithin p0 0 99 = 0 then 0 else 1
def v_X10_drift (p0 : Int32) : Int32 := if t_X10_requireWithin p0 0 99 = 0 then 0 else 0
set_option maxHeartbeats 4000000 in
set_option maxRecDepth 100000 in
theorem c_X10_drift (l : Launch) (hst : l.stackTraces = false) (D : va_G) (e : Nat) (h : Nat) (l1 : Nat) (l2 : Nat) (l3 : Nat) (l4 : Nat) (l5 : Nat) (l6 : Nat) (l7 : Nat) (l8 : Nat) (l9 : Nat) (ch : Nat) (co : Nat) (p0 : Int32) (sz : Nat) : vx_Met l yX10_drift wsX10_drift ({ frames := 12, cells := 1, slots := 6, locals := 220 }) (va_Pc [.ref h, .int p0] (cIn D [] [(h, .inr (16, [.ref l1, .ref l2, .ref l3, .ref l4, .ref l5, .ref l6, .ref l7, .ref l8, .ref l9, .ref ch, .ref co, .int 0, .int 4, .int (-40), .int 20, .int 0, .int 0, .int 100, .int 60, .int 14])), (co, .inr (8, [.int 0, .int 0]))] e sz)) (va_Qi (fun (r : Int32) (_ : Unit) => t_X10_drift p0 = 0 ∧ r = v_X10_drift p0) (fun (_ : Unit) (_ : State) => True) (va_A [(h, .inr (16, [.ref l1, .ref l2, .ref l3, .ref l4, .ref l5, .ref l6, .ref l7, .ref l8, .ref l9, .ref ch, .ref co, .int 0, .int 4, .int (-40), .int 20, .int 0, .int 0, .int 100, .int 60, .int 14])), (co, .inr (8, [.int 0, .int 0]))] sz)) (vx_X (fun _ : Unit => True) (fun (E : String) (_ : Unit) (_ : State) => (E = "java/lang/IllegalArgumentException" ∧ t_X10_drift p0 = 1)) (va_A [(h, .inr (16, [.ref l1, .ref l2, .ref l3, .ref l4, .ref l5, .ref l6, .ref l7, .ref l8, .ref l9, .ref ch, .ref co, .int 0, .int 4, .int (-40), .int 20, .int 0, .int 0, .int 100, .int 60, .int 14])), (co, .inr (8, [.int 0, .int 0]))] sz)) 1 6 (va_A [(h, .inr (16, [.ref l1, .ref l2, .ref l3, .ref l4, .ref l5, .ref l6, .ref l7, .ref l8, .ref l9, .ref ch, .ref co, .int 0, .int 4, .int (-40), .int 20, .int 0, .int 0, .int 100, .int 60, .int 14])), (co, .inr (8, [.int 0, .int 0]))] sz) := by
  refine vx_ofW (cc := cX10_drift) (maxL := 3) (ret := (some .int)) (by decide +kernel) rfl ?_
  intro p e9 s m args below meth c s₁ B hml htb hv
  obtain ⟨rfl, hsz, hP, hK, hD0, hE0⟩ := hv
  have hx := B.exec
  have hb := B.bytes
  have hr := B.returns
  have hts := atoms_spec (ws := wsX10_drift) B.pre
  have hown : s.vm.findClass RX10 = some m.cls := findClass_of_methodNamed B.named
  have hlocks := B.notSynchronized
  subst hsz
  have hD := hD0.self (sz := s.heap.size)
  generalize hAe : va_A [(h, .inr (16, [.ref l1, .ref l2, .ref l3, .ref l4, .ref l5, .ref l6, .ref l7, .ref l8, .ref l9, .ref ch, .ref co, .int 0, .int 4, .int (-40), .int 20, .int 0, .int 0, .int 100, .int 60, .int 14])), (co, .inr (8, [.int 0, .int 0]))] s.heap.size = A at hD hE0 ⊢
  have hA : ∀ q : Nat, s.heap.size ≤ q → A q := fun q h => by rw [← hAe]; exact Or.inr h
  have hS : va_S A s.heap s.heap [] := va_S.rf
  have hE := hE0
  have hP : va_P D vwCl [(h, .inr (16, [.ref l1, .ref l2, .ref l3, .ref l4, .ref l5, .ref l6, .ref l7, .ref l8, .ref l9, .ref ch, .ref co, .int 0, .int 4, .int (-40), .int 20, .int 0, .int 0, .int 100, .int 60, .int 14])), (co, .inr (8, [.int 0, .int 0]))] s.heap := hP
  have hl := lv_entry ([.ref h, .int p0]) (n := 3) (Nat.le_of_ble_eq_true rfl)
  rw [lg_entry_eq]
  generalize (lg_sl ([.ref h, .int p0]) ++ List.replicate (3 - (lg_sl ([.ref h, .int p0])).length) Slot.unset).toArray = ls at hl ⊢
  have hl : lv_has ls 3 [(0, .ref h), (1, .int p0)] := hl
  refine lv_iload_n hx hb dX10_drift_0 rfl (lv_at hl 1 rfl) ?_
  refine lv_iconst (v := 0) hx hb dX10_drift_1 (by decide) ?_
  refine lv_bipush (v := 99) hx hb dX10_drift_2 (by decide) ?_
  have hFc := va_free (wc := []) hD hS hA [] rfl
  refine vx_callv (vx_runS (As := [.int p0, .int 0, .int 99]) (rest := []) ⟨hx, hb, hml, hown, hts⟩ (c_X10_requireWithin l hst D e p0 0 99 s.heap.size) (va_cwS 3 hts gX10_drift_X10_requireWithin rfl rfl rfl (by decide +kernel) ⟨Nat.le_of_ble_eq_true rfl, Nat.le_of_ble_eq_true rfl⟩) ⟨cIn_blind, cIn_go hK hP hD hE hS hA [] rfl rfl (by decide) [] rfl⟩ rfl rfl hl.1 rfl (lv_room (Nat.le_of_ble_eq_true rfl)) dX10_drift_4 ⟨Nat.le_of_ble_eq_true rfl, Nat.le_of_ble_eq_true rfl⟩) hS (fun q _ h => hFc q h) hFc (fun q _ h => hFc q h) (fun E ce q9 u t H1 locs ht hvm hpx hB hz1 hk1 hS hce hcv hcl => ?_) (fun u t H1 locs ht hvm hw hB hz1 hk1 hS => ?_)
  · obtain ⟨rfl, hw⟩ := hB
    have c_3 : ¬ t_X10_requireWithin p0 0 99 = 0 := by rw [hw]; decide
    exact vx_out (fun x hx => (htb x hx).elim) hlocks hce hcv hcl (fun t9 h9 hal => ⟨(), trivial, ⟨rfl, (by unfold t_X10_drift; rw [if_neg c_3])⟩, hS.F h9⟩) hS.2.2 (Nat.le_of_ble_eq_true rfl) (Nat.le_of_ble_eq_true rfl)
  · have c_2 : t_X10_requireWithin p0 0 99 = 0 := hw.1
    obtain ⟨hP, hD⟩ := cIn_rest (wc := []) (wr := [(h, .inr (16, [.ref l1, .ref l2, .ref l3, .ref l4, .ref l5, .ref l6, .ref l7, .ref l8, .ref l9, .ref ch, .ref co, .int 0, .int 4, .int (-40), .int 20, .int 0, .int 0, .int 100, .int 60, .int 14])), (co, .inr (8, [.int 0, .int 0]))]) hP hD [] [0, 1] rfl rfl (by decide) (by decide) hk1 hFc
    generalize H1 = H at hP hS ⊢
    have hP : va_P D vwCl [(h, .inr (16, [.ref l1, .ref l2, .ref l3, .ref l4, .ref l5, .ref l6, .ref l7, .ref l8, .ref l9, .ref ch, .ref co, .int 0, .int 4, .int (-40), .int 20, .int 0, .int 0, .int 100, .int 60, .int 14])), (co, .inr (8, [.int 0, .int 0]))] H := hP
    have hD : va_D A [(h, .inr (16, [.ref l1, .ref l2, .ref l3, .ref l4, .ref l5, .ref l6, .ref l7, .ref l8, .ref l9, .ref ch, .ref co, .int 0, .int 4, .int (-40), .int 20, .int 0, .int 0, .int 100, .int 60, .int 14])), (co, .inr (8, [.int 0, .int 0]))] := hD
    refine W.widen (k := 1) (n := 6) (Nat.le_of_ble_eq_true rfl) (Nat.le_of_ble_eq_true rfl) ?_
    refine lv_aload_n hx hb dX10_drift_7 rfl (lv_at hl 0 rfl) ?_
    refine va_get (D := D) (ci := 16) (v := .ref co) (C := RX10) (T := TX10) (N := 20) hx hb hts iw_RX10_wsX10_drift hown hK hP 0 rfl rfl 10 (by decide) (hts (.fieldLink RX10 47 "CoatLine" "coater" "LCoatLine$Coater;") (by decide +kernel)) (fun _ h9 => h9) rfl dX10_drift_8 ?_
    refine va_get (D := D) (ci := 8) (v := .int 0) (C := RX2) (T := TX2) (N := 2) hx hb hts iw_RX2_wsX10_drift hown hK hP 1 rfl rfl 0 (by decide) (hts (.fieldLink RX10 116 "CoatLine$Coater" "drift" "I") (by decide +kernel)) (fun _ h9 => h9) rfl dX10_drift_11 ?_
    refine lv_istore_n (lv' := [(2, .int 0), (0, .ref h), (1, .int p0)]) hx hb dX10_drift_14 rfl hl (by decide) rfl (fun ls hl => ?_)
    refine lv_aload_n hx hb dX10_drift_15 rfl (lv_at hl 1 rfl) ?_
    refine va_get (D := D) (ci := 16) (v := .ref co) (C := RX10) (T := TX10) (N := 20) hx hb hts iw_RX10_wsX10_drift hown hK hP 0 rfl rfl 10 (by decide) (hts (.fieldLink RX10 47 "CoatLine" "coater" "LCoatLine$Coater;") (by decide +kernel)) (fun _ h9 => h9) rfl dX10_drift_16 ?_
    refine lv_iload_n hx hb dX10_drift_19 rfl (lv_at hl 2 rfl) ?_
    refine va_put (D := D) (ci := 8) (v := .int p0) (ty := .int) (C := RX2) (T := TX2) (N := 2) hx hb hts iw_RX2_wsX10_drift tyX2 tyX2_ok nmX2 hown hK hP hD hS 1 rfl rfl 0 (by decide) (hts (.fieldLink RX10 116 "CoatLine$Coater" "drift" "I") (by decide +kernel)) (fun _ h9 => h9) rfl (by decide +kernel) rfl rfl (Nat.le_of_ble_eq_true rfl) dX10_drift_20 (fun H locs hP hD hS => ?_)
    have hP : va_P D vwCl [(h, .inr (16, [.ref l1, .ref l2, .ref l3, .ref l4, .ref l5, .ref l6, .ref l7, .ref l8, .ref l9, .ref ch, .ref co, .int 0, .int 4, .int (-40), .int 20, .int 0, .int 0, .int 100, .int 60, .int 14])), (co, .inr (8, [.int p0, .int 0]))] H := hP
    have hD : va_D A [(h, .inr (16, [.ref l1, .ref l2, .ref l3, .ref l4, .ref l5, .ref l6, .ref l7, .ref l8, .ref l9, .ref ch, .ref co, .int 0, .int 4, .int (-40), .int 20, .int 0, .int 0, .int 100, .int 60, .int 14])), (co, .inr (8, [.int p0, .int 0]))] := hD
    refine lv_iload_n hx hb dX10_drift_23 rfl (lv_at hl 0 rfl) ?_
    refine vx_ret ?_
    exact W.iret (v := 0) hx hb hr (fun t ht hW => ⟨⟨0, (), rfl, ⟨(by unfold t_X10_drift; rw [if_pos c_2]), (by unfold v_X10_drift; rw [if_pos c_2])⟩, trivial⟩, hS.F ht⟩) hS.2.2 dX10_drift_24
-- X10_reset
def v_X10_reset : Int32 := 0
set_option maxHeartbeats 4000000 in
set_option maxRecDepth 100000 in
theorem c_X10_reset (l : Launch) (hst : l.stackTraces = false) (D : va_G) (e : Nat) (h : Nat) (l1 : Nat) (l2 : Nat) (l3 : Nat) (l4 : Nat) (l5 : Nat) (l6 : Nat) (l7 : Nat) (l8 : Nat) (l9 : Nat) (ch : Nat) (co : Nat) (sz : Nat) : Met l yX10_reset wsX10_reset ({ frames := 12, cells := 0, slots := 0, locals := 220 }) (va_Pc [.ref h] (cIn D [] [(h, .inr (16, [.ref l1, .ref l2, .ref l3, .ref l4, .ref l5, .ref l6, .ref l7, .ref l8, .ref l9, .ref ch, .ref co, .int 0, .int 4, .int (-40), .int 20, .int 0, .int 0, .int 100, .int 60, .int 14])), (co, .inr (8, [.int 0, .int 0]))] e sz)) (va_Qi (fun (r : Int32) (_ : Unit) => r = v_X10_reset) (fun (_ : Unit) (_ : State) => True) (va_A [(h, .inr (16, [.ref l1, .ref l2, .ref l3, .ref l4, .ref l5, .ref l6, .ref l7, .ref l8, .ref l9, .ref ch, .ref co, .int 0, .int 4, .int (-40), .int 20, .int 0, .int 0, .int 100, .int 60, .int 14])), (co, .inr (8, [.int 0, .int 0]))] sz)) 0 0 (va_A [(h, .inr (16, [.ref l1, .ref l2, .ref l3, .ref l4, .ref l5, .ref l6, .ref l7, .ref l8, .ref l9, .ref ch, .ref co, .int 0, .int 4, .int (-40), .int 20, .int 0, .int 0, .int 100, .int 60, .int 14])), (co, .inr (8, [.int 0, .int 0]))] sz) := by
  refine Met.ofW (cc := cX10_reset) (maxL := 2) (ret := (some .int)) (by decide +kernel) rfl ?_
  intro p e9 s m args below meth c s₁ B hml hv
  obtain ⟨rfl, hsz, hP, hK, hD0, hE0⟩ := hv
  have hx := B.exec
  have hb := B.bytes
  have hr := B.returns
  have hts := atoms_spec (ws := wsX10_reset) B.pre
  have hown : s.vm.findClass RX10 = some m.cls := findClass_of_methodNamed B.named
  have hlocks := B.notSynchronized
  subst hsz
  have hD := hD0.self (sz := s.heap.size)
  generalize hAe : va_A [(h, .inr (16, [.ref l1, .ref l2, .ref l3, .ref l4, .ref l5, .ref l6, .ref l7, .ref l8, .ref l9, .ref ch, .ref co, .int 0, .int 4, .int (-40), .int 20, .int 0, .int 0, .int 100, .int 60, .int 14])), (co, .inr (8, [.int 0, .int 0]))] s.heap.size = A at hD hE0 ⊢
  have hA : ∀ q : Nat, s.heap.size ≤ q → A q := fun q h => by rw [← hAe]; exact Or.inr h
  have hS : va_S A s.heap s.heap [] := va_S.rf
  have hE := hE0
  have hP : va_P D vwCl [(h, .inr (16, [.ref l1, .ref l2, .ref l3, .ref l4, .ref l5, .ref l6, .ref l7, .ref l8, .ref l9, .ref ch, .ref co, .int 0, .int 4, .int (-40), .int 20, .int 0, .int 0, .int 100, .int 60, .int 14])), (co, .inr (8, [.int 0, .int 0]))] s.heap := hP
  have hl := lv_entry ([.ref h]) (n := 2) (Nat.le_of_ble_eq_true rfl)
  rw [lg_entry_eq]
  generalize (lg_sl ([.ref h]) ++ List.replicate (2 - (lg_sl ([.ref h])).length) Slot.unset).toArray = ls at hl ⊢
  have hl : lv_has ls 2 [(0, .ref h)] := hl
  refine lv_aload_n hx hb dX10_reset_0 rfl (lv_at hl 0 rfl) ?_
  refine va_get (D := D) (ci := 16) (v := .ref co) (C := RX10) (T := TX10) (N := 20) hx hb hts iw_RX10_wsX10_reset hown hK hP 0 rfl rfl 10 (by decide) (hts (.fieldLink RX10 47 "CoatLine" "coater" "LCoatLine$Coater;") (by decide +kernel)) (fun _ h9 => h9) rfl dX10_reset_1 ?_
  refine va_get (D := D) (ci := 8) (v := .int 0) (C := RX2) (T := TX2) (N := 2) hx hb hts iw_RX2_wsX10_reset hown hK hP 1 rfl rfl 1 (by decide) (hts (.fieldLink RX10 119 "CoatLine$Coater" "metresRun" "I") (by decide +kernel)) (fun _ h9 => h9) rfl dX10_reset_4 ?_
  refine lv_istore_n (lv' := [(1, .int 0), (0, .ref h)]) hx hb dX10_reset_7 rfl hl (by decide) rfl (fun ls hl => ?_)
  refine lv_aload_n hx hb dX10_reset_8 rfl (lv_at hl 1 rfl) ?_
  refine va_get (D := D) (ci := 16) (v := .ref co) (C := RX10) (T := TX10) (N := 20) hx hb hts iw_RX10_wsX10_reset hown hK hP 0 rfl rfl 10 (by decide) (hts (.fieldLink RX10 47 "CoatLine" "coater" "LCoatLine$Coater;") (by decide +kernel)) (fun _ h9 => h9) rfl dX10_reset_9 ?_
  refine lv_iconst (v := 0) hx hb dX10_reset_12 (by decide) ?_
  refine va_put (D := D) (ci := 8) (v := .int 0) (ty := .int) (C := RX2) (T := TX2) (N := 2) hx hb hts iw_RX2_wsX10_reset tyX2 tyX2_ok nmX2 hown hK hP hD hS 1 rfl rfl 1 (by decide) (hts (.fieldLink RX10 119 "CoatLine$Coater" "metresRun" "I") (by decide +kernel)) (fun _ h9 => h9) rfl (by decide +kernel) rfl rfl (Nat.le_of_ble_eq_true rfl) dX10_reset_13 (fun H locs hP hD hS => ?_)
  have hP : va_P D vwCl [(h, .inr (16, [.ref l1, .ref l2, .ref l3, .ref l4, .ref l5, .ref l6, .ref l7, .ref l8, .ref l9, .ref ch, .ref co, .int 0, .int 4, .int (-40), .int 20, .int 0, .int 0, .int 100, .int 60, .int 14])), (co, .inr (8, [.int 0, .int 0]))] H := hP
  have hD : va_D A [(h, .inr (16, [.ref l1, .ref l2, .ref l3, .ref l4, .ref l5, .ref l6, .ref l7, .ref l8, .ref l9, .ref ch, .ref co, .int 0, .int 4, .int (-40), .int 20, .int 0, .int 0, .int 100, .int 60, .int 14])), (co, .inr (8, [.int 0, .int 0]))] := hD
  refine lv_iload_n hx hb dX10_reset_16 rfl (lv_at hl 0 rfl) ?_
  exact W.iret (v := 0) hx hb hr (fun t ht hW => ⟨⟨0, (), rfl, rfl, trivial⟩, hS.F ht⟩) hS.2.2 dX10_reset_17
-- X10_checksum
def v_X10_checksum : Int64 := (7)
set_option maxHeartbeats 4000000 in
set_option maxRecDepth 100000 in
theorem c_X10_checksum (l : Launch) (hst : l.stackTraces = false) (D : va_G) (e : Nat) (h : Nat) (l1 : Nat) (l2 : Nat) (l3 : Nat) (l4 : Nat) (l5 : Nat) (l6 : Nat) (l7 : Nat) (l8 : Nat) (l9 : Nat) (ch : Nat) (co : Nat) (sz : Nat) : Met l yX10_checksum wsX10_checksum ({ frames := 12, cells := 0, slots := 0, locals := 220 }) (va_Pc [.ref h] (cIn D [] [(h, .inr (16, [.ref l1, .ref l2, .ref l3, .ref l4, .ref l5, .ref l6, .ref l7, .ref l8, .ref l9, .ref ch, .ref co, .int 0, .int 4, .int (-40), .int 20, .int 0, .int 0, .int 100, .int 60, .int 14])), (l4, .inr (5, [.int 0, .ref e, .int 0]))] e sz)) (va_Ql (fun (r : Int64) (_ : Unit) => r = v_X10_checksum) (fun (_ : Unit) (_ : State) => True) (va_A [(h, .inr (16, [.ref l1, .ref l2, .ref l3, .ref l4, .ref l5, .ref l6, .ref l7, .ref l8, .ref l9, .ref ch, .ref co, .int 0, .int 4, .int (-40), .int 20, .int 0, .int 0, .int 100, .int 60, .int 14])), (l4, .inr (5, [.int 0, .ref e, .int 0]))] sz)) 0 0 (va_A [(h, .inr (16, [.ref l1, .ref l2, .ref l3, .ref l4, .ref l5, .ref l6, .ref l7, .ref l8, .ref l9, .ref ch, .ref co, .int 0, .int 4, .int (-40), .int 20, .int 0, .int 0, .int 100, .int 60, .int 14])), (l4, .inr (5, [.int 0, .ref e, .int 0]))] sz) := by
  refine Met.ofW (cc := cX10_checksum) (maxL := 5) (ret := (some .long)) (by decide +kernel) rfl ?_
  intro p e9 s m args below meth c s₁ B hml hv
  obtain ⟨rfl, hsz, hP, hK, hD0, hE0⟩ := hv
  have hx := B.exec
  have hb := B.bytes
  have hr := B.returns
  have hts := atoms_spec (ws := wsX10_checksum) B.pre
  have hown : s.vm.findClass RX10 = some m.cls := findClass_of_methodNamed B.named
  have hlocks := B.notSynchronized
  subst hsz
  have hD := hD0.self (sz := s.heap.size)
  generalize hAe : va_A [(h, .inr (16, [.ref l1, .ref l2, .ref l3, .ref l4, .ref l5, .ref l6, .ref l7, .ref l8, .ref l9, .ref ch, .ref co, .int 0, .int 4, .int (-40), .int 20, .int 0, .int 0, .int 100, .int 60, .int 14])), (l4, .inr (5, [.int 0, .ref e, .int 0]))] s.heap.size = A at hD hE0 ⊢
  have hA : ∀ q : Nat, s.heap.size ≤ q → A q := fun q h => by rw [← hAe]; exact Or.inr h
  have hS : va_S A s.heap s.heap [] := va_S.rf
  have hE := hE0
  have hP : va_P D vwCl [(h, .inr (16, [.ref l1, .ref l2, .ref l3, .ref l4, .ref l5, .ref l6, .ref l7, .ref l8, .ref l9, .ref ch, .ref co, .int 0, .int 4, .int (-40), .int 20, .int 0, .int 0, .int 100, .int 60, .int 14])), (l4, .inr (5, [.int 0, .ref e, .int 0]))] s.heap := hP
  have hl := lv_entry ([.ref h]) (n := 5) (Nat.le_of_ble_eq_true rfl)
  rw [lg_entry_eq]
  generalize (lg_sl ([.ref h]) ++ List.replicate (5 - (lg_sl ([.ref h])).length) Slot.unset).toArray = ls at hl ⊢
  have hl : lv_has ls 5 [(0, .ref h)] := hl
  refine lv_ldc2 (v := (7)) hx hb hown (hts (.constantLong RX10 485 (7)) (by decide +kernel)) dX10_checksum_0 ?_
  refine lv_lstore_n (lv' := [(1, .long (7)), (0, .ref h)]) hx hb dX10_checksum_3 rfl hl (by decide) rfl (fun ls hl => ?_)
  refine lv_iconst (v := 0) hx hb dX10_checksum_4 (by decide) ?_
  refine lv_istore_n (lv' := [(3, .int 0), (1, .long (7)), (0, .ref h)]) hx hb dX10_checksum_5 rfl hl (by decide) rfl (fun ls hl => ?_)
  refine lv_iload_n hx hb dX10_checksum_6 rfl (lv_at hl 0 rfl) ?_
  refine lv_aload_n hx hb dX10_checksum_7 rfl (lv_at hl 2 rfl) ?_
  refine va_get (D := D) (ci := 16) (v := .ref l4) (C := RX10) (T := TX10) (N := 20) hx hb hts iw_RX10_wsX10_checksum hown hK hP 0 rfl rfl 3 (by decide) (hts (.fieldLink RX10 22 "CoatLine" "cells" "Ljava/util/ArrayList;") (by decide +kernel)) (fun _ h9 => h9) rfl dX10_checksum_8 ?_
  refine vp_callSi (va_Run.run (va_runV (As := []) (rest := [.int 0]) ⟨hx, hb, hml, hown, hts⟩ (c_Jx4a65c_size_8abf5 l hst D e l4 0 e 0 s.heap.size) (cwV 0 hts gX10_checksum_Jx4a65c_size_8abf5 rfl rfl rfl (by decide +kernel) ⟨Nat.le_of_ble_eq_true rfl, Nat.le_of_ble_eq_true rfl⟩) ⟨cIn_blind, va_recv hK hP (ci := 5) (q0 := 1) rfl rfl, cIn_go hK hP hD hE hS hA [1] rfl rfl (by decide) [] rfl⟩ rfl rfl hl.1 rfl (lv_room (Nat.le_of_ble_eq_true rfl)) dX10_checksum_11 ⟨Nat.le_of_ble_eq_true rfl, Nat.le_of_ble_eq_true rfl⟩)) (fun r_1 hw => ?_)
  have hw : r_1 = 0 := hw.trans (by first | rfl | decide +kernel)
  subst hw
  refine lv_icmp_ge (tgt := 75) hx hb dX10_checksum_14 (by decide) (fun c_2 => ?_) (fun c_2 => absurd (show (0 : Int32) ≤ 0 from by decide +kernel) c_2)
  refine lv_lload_n hx hb dX10_checksum_75 rfl (lv_at hl 1 rfl) ?_
  exact W.lret (v := (7)) hx hb hr (fun t ht hW => ⟨⟨(7), (), rfl, rfl, trivial⟩, hS.F ht⟩) hS.2.2 dX10_checksum_76
-- X10_isSound
def v_X10_isSound : Int32 := 1
set_option maxHeartbeats 4000000 in
set_option maxRecDepth 100000 in
theorem c_X10_isSound (l : Launch) (hst : l.stackTraces = false) (D : va_G) (e : Nat) (h : Nat) (l1 : Nat) (l2 : Nat) (l3 : Nat) (l4 : Nat) (l5 : Nat) (l6 : Nat) (l7 : Nat) (l8 : Nat) (l9 : Nat) (ch : Nat) (co : Nat) (sz : Nat) : Met l yX10_isSound wsX10_isSound ({ frames := 12, cells := 0, slots := 0, locals := 220 }) (va_Pc [.ref h] (cIn D [] [(h, .inr (16, [.ref l1, .ref l2, .ref l3, .ref l4, .ref l5, .ref l6, .ref l7, .ref l8, .ref l9, .ref ch, .ref co, .int 0, .int 4, .int (-40), .int 20, .int 0, .int 0, .int 100, .int 60, .int 14])), (l4, .inr (5, [.int 0, .ref e, .int 0])), (l6, .inr (5, [.int 0, .ref e, .int 0]))] e sz)) (va_Qi (fun (r : Int32) (_ : Unit) => r = v_X10_isSound) (fun (_ : Unit) (_ : State) => True) (va_A [(h, .inr (16, [.ref l1, .ref l2, .ref l3, .ref l4, .ref l5, .ref l6, .ref l7, .ref l8, .ref l9, .ref ch, .ref co, .int 0, .int 4, .int (-40), .int 20, .int 0, .int 0, .int 100, .int 60, .int 14])), (l4, .inr (5, [.int 0, .ref e, .int 0])), (l6, .inr (5, [.int 0, .ref e, .int 0]))] sz)) 0 0 (va_A [(h, .inr (16, [.ref l1, .ref l2, .ref l3, .ref l4, .ref l5, .ref l6, .ref l7, .ref l8, .ref l9, .ref ch, .ref co, .int 0, .int 4, .int (-40), .int 20, .int 0, .int 0, .int 100, .int 60, .int 14])), (l4, .inr (5, [.int 0, .ref e, .int 0])), (l6, .inr (5, [.int 0, .ref e, .int 0]))] sz) := by
  refine Met.ofW (cc := cX10_isSound) (maxL := 3) (ret := (some .boolean)) (by decide +kernel) rfl ?_
  intro p e9 s m args below meth c s₁ B hml hv
  obtain ⟨rfl, hsz, hP, hK, hD0, hE0⟩ := hv
  have hx := B.exec
  have hb := B.bytes
  have hr := B.returns
  have hts := atoms_spec (ws := wsX10_isSound) B.pre
  have hown : s.vm.findClass RX10 = some m.cls := findClass_of_methodNamed B.named
  have hlocks := B.notSynchronized
  subst hsz
  have hD := hD0.self (sz := s.heap.size)
  generalize hAe : va_A [(h, .inr (16, [.ref l1, .ref l2, .ref l3, .ref l4, .ref l5, .ref l6, .ref l7, .ref l8, .ref l9, .ref ch, .ref co, .int 0, .int 4, .int (-40), .int 20, .int 0, .int 0, .int 100, .int 60, .int 14])), (l4, .inr (5, [.int 0, .ref e, .int 0])), (l6, .inr (5, [.int 0, .ref e, .int 0]))] s.heap.size = A at hD hE0 ⊢
  have hA : ∀ q : Nat, s.heap.size ≤ q → A q := fun q h => by rw [← hAe]; exact Or.inr h
  have hS : va_S A s.heap s.heap [] := va_S.rf
  have hE := hE0
  have hP : va_P D vwCl [(h, .inr (16, [.ref l1, .ref l2, .ref l3, .ref l4, .ref l5, .ref l6, .ref l7, .ref l8, .ref l9, .ref ch, .ref co, .int 0, .int 4, .int (-40), .int 20, .int 0, .int 0, .int 100, .int 60, .int 14])), (l4, .inr (5, [.int 0, .ref e, .int 0])), (l6, .inr (5, [.int 0, .ref e, .int 0]))] s.heap := hP
  have hl := lv_entry ([.ref h]) (n := 3) (Nat.le_of_ble_eq_true rfl)
  rw [lg_entry_eq]
  generalize (lg_sl ([.ref h]) ++ List.replicate (3 - (lg_sl ([.ref h])).length) Slot.unset).toArray = ls at hl ⊢
  have hl : lv_has ls 3 [(0, .ref h)] := hl
  refine lv_iconst (v := 0) hx hb dX10_isSound_0 (by decide) ?_
  refine lv_istore_n (lv' := [(1, .int 0), (0, .ref h)]) hx hb dX10_isSound_1 rfl hl (by decide) rfl (fun ls hl => ?_)
  refine lv_iload_n hx hb dX10_isSound_2 rfl (lv_at hl 0 rfl) ?_
  refine lv_aload_n hx hb dX10_isSound_3 rfl (lv_at hl 1 rfl) ?_
  refine va_get (D := D) (ci := 16) (v := .ref l4) (C := RX10) (T := TX10) (N := 20) hx hb hts iw_RX10_wsX10_isSound hown hK hP 0 rfl rfl 3 (by decide) (hts (.fieldLink RX10 22 "CoatLine" "cells" "Ljava/util/ArrayList;") (by decide +kernel)) (fun _ h9 => h9) rfl dX10_isSound_4 ?_
  refine vp_callSi (va_Run.run (va_runV (As := []) (rest := [.int 0]) ⟨hx, hb, hml, hown, hts⟩ (c_Jx4a65c_size_8abf5 l hst D e l4 0 e 0 s.heap.size) (cwV 0 hts gX10_isSound_Jx4a65c_size_8abf5 rfl rfl rfl (by decide +kernel) ⟨Nat.le_of_ble_eq_true rfl, Nat.le_of_ble_eq_true rfl⟩) ⟨cIn_blind, va_recv hK hP (ci := 5) (q0 := 1) rfl rfl, cIn_go hK hP hD hE hS hA [1] rfl rfl (by decide) [] rfl⟩ rfl rfl hl.1 rfl (lv_room (Nat.le_of_ble_eq_true rfl)) dX10_isSound_7 ⟨Nat.le_of_ble_eq_true rfl, Nat.le_of_ble_eq_true rfl⟩)) (fun r_1 hw => ?_)
  have hw : r_1 = 0 := hw.trans (by first | rfl | decide +kernel)
  subst hw
  refine lv_icmp_ge (tgt := 79) hx hb dX10_isSound_10 (by decide) (fun c_2 => ?_) (fun c_2 => absurd (show (0 : Int32) ≤ 0 from by decide +kernel) c_2)
  refine lv_iconst (v := 0) hx hb dX10_isSound_79 (by decide) ?_
  refine lv_istore_n (lv' := [(1, .int 0), (0, .ref h)]) hx hb dX10_isSound_80 rfl hl (by decide) rfl (fun ls hl => ?_)
  refine lv_iload_n hx hb dX10_isSound_81 rfl (lv_at hl 0 rfl) ?_
  refine lv_aload_n hx hb dX10_isSound_82 rfl (lv_at hl 1 rfl) ?_
  refine va_get (D := D) (ci := 16) (v := .ref l6) (C := RX10) (T := TX10) (N := 20) hx hb hts iw_RX10_wsX10_isSound hown hK hP 0 rfl rfl 5 (by decide) (hts (.fieldLink RX10 28 "CoatLine" "modules" "Ljava/util/ArrayList;") (by decide +kernel)) (fun _ h9 => h9) rfl dX10_isSound_83 ?_
  refine vp_callSi (va_Run.run (va_runV (As := []) (rest := [.int 0]) ⟨hx, hb, hml, hown, hts⟩ (c_Jx4a65c_size_8abf5 l hst D e l6 0 e 0 s.heap.size) (cwV 0 hts gX10_isSound_Jx4a65c_size_8abf5 rfl rfl rfl (by decide +kernel) ⟨Nat.le_of_ble_eq_true rfl, Nat.le_of_ble_eq_true rfl⟩) ⟨cIn_blind, va_recv hK hP (ci := 5) (q0 := 2) rfl rfl, cIn_go hK hP hD hE hS hA [2] rfl rfl (by decide) [] rfl⟩ rfl rfl hl.1 rfl (lv_room (Nat.le_of_ble_eq_true rfl)) dX10_isSound_86 ⟨Nat.le_of_ble_eq_true rfl, Nat.le_of_ble_eq_true rfl⟩)) (fun r_3 hw => ?_)
  have hw : r_3 = 0 := hw.trans (by first | rfl | decide +kernel)
  subst hw
  refine lv_icmp_ge (tgt := 132) hx hb dX10_isSound_89 (by decide) (fun c_4 => ?_) (fun c_4 => absurd (show (0 : Int32) ≤ 0 from by decide +kernel) c_4)
  refine lv_iconst (v := 1) hx hb dX10_isSound_132 (by decide) ?_
  exact W.zret (v := 1) hx hb hr (by first | rfl | decide +kernel) (fun t ht hW => ⟨⟨1, (), rfl, rfl, trivial⟩, hS.F ht⟩) hS.2.2 dX10_isSound_133
-- X10_readyShare
def t_X10_readyShare : Int32 := 6
set_option maxHeartbeats 4000000 in
set_option maxRecDepth 100000 in
theorem c_X10_readyShare (l : Launch) (hst : l.stackTraces = false) (D : va_G) (e : Nat) (h : Nat) (l1 : Nat) (l2 : Nat) (l3 : Nat) (l4 : Nat) (l5 : Nat) (l6 : Nat) (l7 : Nat) (l8 : Nat) (l9 : Nat) (ch : Nat) (co : Nat) (sz : Nat) : vx_Met l yX10_readyShare wsX10_readyShare ({ frames := 10, cells := 1, slots := 6, locals := 160 }) (va_Pc [.ref h] (cIn D [] [(h, .inr (16, [.ref l1, .ref l2, .ref l3, .ref l4, .ref l5, .ref l6, .ref l7, .ref l8, .ref l9, .ref ch, .ref co, .int 0, .int 4, .int (-40), .int 20, .int 0, .int 0, .int 100, .int 60, .int 14])), (l4, .inr (5, [.int 0, .ref e, .int 0]))] e sz)) (va_Qv (fun (_ : Unit) => False) (fun (_ : Unit) (_ : State) => True) (va_A [(h, .inr (16, [.ref l1, .ref l2, .ref l3, .ref l4, .ref l5, .ref l6, .ref l7, .ref l8, .ref l9, .ref ch, .ref co, .int 0, .int 4, .int (-40), .int 20, .int 0, .int 0, .int 100, .int 60, .int 14])), (l4, .inr (5, [.int 0, .ref e, .int 0]))] sz)) (vx_X (fun _ : Unit => True) (fun (E : String) (_ : Unit) (_ : State) => (E = "java/lang/ArithmeticException" ∧ t_X10_readyShare = 6)) (va_A [(h, .inr (16, [.ref l1, .ref l2, .ref l3, .ref l4, .ref l5, .ref l6, .ref l7, .ref l8, .ref l9, .ref ch, .ref co, .int 0, .int 4, .int (-40), .int 20, .int 0, .int 0, .int 100, .int 60, .int 14])), (l4, .inr (5, [.int 0, .ref e, .int 0]))] sz)) 1 6 (va_A [(h, .inr (16, [.ref l1, .ref l2, .ref l3, .ref l4, .ref l5, .ref l6, .ref l7, .ref l8, .ref l9, .ref ch, .ref co, .int 0, .int 4, .int (-40), .int 20, .int 0, .int 0, .int 100, .int 60, .int 14])), (l4, .inr (5, [.int 0, .ref e, .int 0]))] sz) := by
  refine vx_ofW (cc := cX10_readyShare) (maxL := 4) (ret := (some .float)) (by decide +kernel) rfl ?_
  intro p e9 s m args below meth c s₁ B hml htb hv
  obtain ⟨rfl, hsz, hP, hK, hD0, hE0⟩ := hv
  have hx := B.exec
  have hb := B.bytes
  have hr := B.returns
  have hts := atoms_spec (ws := wsX10_readyShare) B.pre
  have hown : s.vm.findClass RX10 = some m.cls := findClass_of_methodNamed B.named
  have hlocks := B.notSynchronized
  subst hsz
  have hD := hD0.self (sz := s.heap.size)
  generalize hAe : va_A [(h, .inr (16, [.ref l1, .ref l2, .ref l3, .ref l4, .ref l5, .ref l6, .ref l7, .ref l8, .ref l9, .ref ch, .ref co, .int 0, .int 4, .int (-40), .int 20, .int 0, .int 0, .int 100, .int 60, .int 14])), (l4, .inr (5, [.int 0, .ref e, .int 0]))] s.heap.size = A at hD hE0 ⊢
  have hA : ∀ q : Nat, s.heap.size ≤ q → A q := fun q h => by rw [← hAe]; exact Or.inr h
  have hS : va_S A s.heap s.heap [] := va_S.rf
  have hE := hE0
  have hP : va_P D vwCl [(h, .inr (16, [.ref l1, .ref l2, .ref l3, .ref l4, .ref l5, .ref l6, .ref l7, .ref l8, .ref l9, .ref ch, .ref co, .int 0, .int 4, .int (-40), .int 20, .int 0, .int 0, .int 100, .int 60, .int 14])), (l4, .inr (5, [.int 0, .ref e, .int 0]))] s.heap := hP
  have hl := lv_entry ([.ref h]) (n := 4) (Nat.le_of_ble_eq_true rfl)
  rw [lg_entry_eq]
  generalize (lg_sl ([.ref h]) ++ List.replicate (4 - (lg_sl ([.ref h])).length) Slot.unset).toArray = ls at hl ⊢
  have hl : lv_has ls 4 [(0, .ref h)] := hl
  refine lv_aload_n hx hb dX10_readyShare_0 rfl (lv_at hl 0 rfl) ?_
  refine va_get (D := D) (ci := 16) (v := .ref l4) (C := RX10) (T := TX10) (N := 20) hx hb hts iw_RX10_wsX10_readyShare hown hK hP 0 rfl rfl 3 (by decide) (hts (.fieldLink RX10 22 "CoatLine" "cells" "Ljava/util/ArrayList;") (by decide +kernel)) (fun _ h9 => h9) rfl dX10_readyShare_1 ?_
  refine vp_callSi (va_Run.run (va_runV (As := []) (rest := []) ⟨hx, hb, hml, hown, hts⟩ (c_Jx4a65c_size_8abf5 l hst D e l4 0 e 0 s.heap.size) (cwV 0 hts gX10_readyShare_Jx4a65c_size_8abf5 rfl rfl rfl (by decide +kernel) ⟨Nat.le_of_ble_eq_true rfl, Nat.le_of_ble_eq_true rfl⟩) ⟨cIn_blind, va_recv hK hP (ci := 5) (q0 := 1) rfl rfl, cIn_go hK hP hD hE hS hA [1] rfl rfl (by decide) [] rfl⟩ rfl rfl hl.1 rfl (lv_room (Nat.le_of_ble_eq_true rfl)) dX10_readyShare_4 ⟨Nat.le_of_ble_eq_true rfl, Nat.le_of_ble_eq_true rfl⟩)) (fun r_1 hw => ?_)
  have hw : r_1 = 0 := hw.trans (by first | rfl | decide +kernel)
  subst hw
  refine lv_istore_n (lv' := [(1, .int 0), (0, .ref h)]) hx hb dX10_readyShare_7 rfl hl (by decide) rfl (fun ls hl => ?_)
  refine lv_iload_n hx hb dX10_readyShare_8 rfl (lv_at hl 0 rfl) ?_
  refine lv_if_ne (tgt := 23) hx hb dX10_readyShare_9 (by decide) (fun c_2 => absurd (show (0 : Int32) = 0 from by decide +kernel) c_2) (fun c_2 => ?_)
  obtain ⟨sa_3, hs_4⟩ := ev_x hE (q := (478, "no cells")) (by decide +kernel)
  exact vx_throwSW hx hb hst hown (by decide +kernel) (by decide +kernel) (hts (.classLink RX10 476 "java/lang/ArithmeticException") (by decide +kernel)) (hts (.initialized "java/lang/ArithmeticException") (by decide +kernel)) hs_4 (vx_hat (fun w hw => hts w (hm_wsX10_readyShare_480 w hw)) hn_RX10_480 (vx_c (ev_u hE (w := .castable "java/lang/ArithmeticException" _) (by decide +kernel) rfl) (vx_c (ev_u hE (by decide +kernel) rfl) (vx_c (ev_u hE (by decide +kernel) rfl) (vx_c (ev_u hE (by decide +kernel) rfl) vx_n))))) ht_RX10_476_480 hE.1.1.1 hE.1.1.2 hS (hl.1.trans hml.symm) dX10_readyShare_12 dX10_readyShare_15 dX10_readyShare_16 dX10_readyShare_19 dX10_readyShare_22 (fun x hx => (htb x hx).elim) (Nat.le_of_ble_eq_true rfl) (Nat.le_of_ble_eq_true rfl) (Nat.le_of_ble_eq_true rfl) (Nat.le_of_ble_eq_true rfl) hlocks (fun t hal h1 h2 => ⟨(), trivial, ⟨rfl, rfl⟩, thr_F hS h1 h2⟩) hS.2.2 (Nat.le_of_ble_eq_true rfl) (Nat.le_of_ble_eq_true rfl)
-- X10_meanHold
def t_X10_meanHold : Int32 := 6
set_option maxHeartbeats 4000000 in
set_option maxRecDepth 100000 in
theorem c_X10_meanHold (l : Launch) (hst : l.stackTraces = false) (D : va_G) (e : Nat) (h : Nat) (l1 : Nat) (l2 : Nat) (l3 : Nat) (l4 : Nat) (l5 : Nat) (l6 : Nat) (l7 : Nat) (l8 : Nat) (l9 : Nat) (ch : Nat) (co : Nat) (sz : Nat) : vx_Met l yX10_meanHold wsX10_meanHold ({ frames := 10, cells := 1, slots := 6, locals := 160 }) (va_Pc [.ref h] (cIn D [] [(h, .inr (16, [.ref l1, .ref l2, .ref l3, .ref l4, .ref l5, .ref l6, .ref l7, .ref l8, .ref l9, .ref ch, .ref co, .int 0, .int 4, .int (-40), .int 20, .int 0, .int 0, .int 100, .int 60, .int 14])), (l4, .inr (5, [.int 0, .ref e, .int 0]))] e sz)) (va_Qv (fun (_ : Unit) => False) (fun (_ : Unit) (_ : State) => True) (va_A [(h, .inr (16, [.ref l1, .ref l2, .ref l3, .ref l4, .ref l5, .ref l6, .ref l7, .ref l8, .ref l9, .ref ch, .ref co, .int 0, .int 4, .int (-40), .int 20, .int 0, .int 0, .int 100, .int 60, .int 14])), (l4, .inr (5, [.int 0, .ref e, .int 0]))] sz)) (vx_X (fun _ : Unit => True) (fun (E : String) (_ : Unit) (_ : State) => (E = "java/lang/ArithmeticException" ∧ t_X10_meanHold = 6)) (va_A [(h, .inr (16, [.ref l1, .ref l2, .ref l3, .ref l4, .ref l5, .ref l6, .ref l7, .ref l8, .ref l9, .ref ch, .ref co, .int 0, .int 4, .int (-40), .int 20, .int 0, .int 0, .int 100, .int 60, .int 14])), (l4, .inr (5, [.int 0, .ref e, .int 0]))] sz)) 1 6 (va_A [(h, .inr (16, [.ref l1, .ref l2, .ref l3, .ref l4, .ref l5, .ref l6, .ref l7, .ref l8, .ref l9, .ref ch, .ref co, .int 0, .int 4, .int (-40), .int 20, .int 0, .int 0, .int 100, .int 60, .int 14])), (l4, .inr (5, [.int 0, .ref e, .int 0]))] sz) := by
  refine vx_ofW (cc := cX10_meanHold) (maxL := 4) (ret := (some .double)) (by decide +kernel) rfl ?_
  intro p e9 s m args below meth c s₁ B hml htb hv
  obtain ⟨rfl, hsz, hP, hK, hD0, hE0⟩ := hv
  have hx := B.exec
  have hb := B.bytes
  have hr := B.returns
  have hts := atoms_spec (ws := wsX10_meanHold) B.pre
  have hown : s.vm.findClass RX10 = some m.cls := findClass_of_methodNamed B.named
  have hlocks := B.notSynchronized
  subst hsz
  have hD := hD0.self (sz := s.heap.size)
  generalize hAe : va_A [(h, .inr (16, [.ref l1, .ref l2, .ref l3, .ref l4, .ref l5, .ref l6, .ref l7, .ref l8, .ref l9, .ref ch, .ref co, .int 0, .int 4, .int (-40), .int 20, .int 0, .int 0, .int 100, .int 60, .int 14])), (l4, .inr (5, [.int 0, .ref e, .int 0]))] s.heap.size = A at hD hE0 ⊢
  have hA : ∀ q : Nat, s.heap.size ≤ q → A q := fun q h => by rw [← hAe]; exact Or.inr h
  have hS : va_S A s.heap s.heap [] := va_S.rf
  have hE := hE0
  have hP : va_P D vwCl [(h, .inr (16, [.ref l1, .ref l2, .ref l3, .ref l4, .ref l5, .ref l6, .ref l7, .ref l8, .ref l9, .ref ch, .ref co, .int 0, .int 4, .int (-40), .int 20, .int 0, .int 0, .int 100, .int 60, .int 14])), (l4, .inr (5, [.int 0, .ref e, .int 0]))] s.heap := hP
  have hl := lv_entry ([.ref h]) (n := 4) (Nat.le_of_ble_eq_true rfl)
  rw [lg_entry_eq]
  generalize (lg_sl ([.ref h]) ++ List.replicate (4 - (lg_sl ([.ref h])).length) Slot.unset).toArray = ls at hl ⊢
  have hl : lv_has ls 4 [(0, .ref h)] := hl
  refine lv_aload_n hx hb dX10_meanHold_0 rfl (lv_at hl 0 rfl) ?_
  refine va_get (D := D) (ci := 16) (v := .ref l4) (C := RX10) (T := TX10) (N := 20) hx hb hts iw_RX10_wsX10_meanHold hown hK hP 0 rfl rfl 3 (by decide) (hts (.fieldLink RX10 22 "CoatLine" "cells" "Ljava/util/ArrayList;") (by decide +kernel)) (fun _ h9 => h9) rfl dX10_meanHold_1 ?_
  refine vp_callSi (va_Run.run (va_runV (As := []) (rest := []) ⟨hx, hb, hml, hown, hts⟩ (c_Jx4a65c_size_8abf5 l hst D e l4 0 e 0 s.heap.size) (cwV 0 hts gX10_meanHold_Jx4a65c_size_8abf5 rfl rfl rfl (by decide +kernel) ⟨Nat.le_of_ble_eq_true rfl, Nat.le_of_ble_eq_true rfl⟩) ⟨cIn_blind, va_recv hK hP (ci := 5) (q0 := 1) rfl rfl, cIn_go hK hP hD hE hS hA [1] rfl rfl (by decide) [] rfl⟩ rfl rfl hl.1 rfl (lv_room (Nat.le_of_ble_eq_true rfl)) dX10_meanHold_4 ⟨Nat.le_of_ble_eq_true rfl, Nat.le_of_ble_eq_true rfl⟩)) (fun r_1 hw => ?_)
  have hw : r_1 = 0 := hw.trans (by first | rfl | decide +kernel)
  subst hw
  refine lv_istore_n (lv' := [(1, .int 0), (0, .ref h)]) hx hb dX10_meanHold_7 rfl hl (by decide) rfl (fun ls hl => ?_)
  refine lv_iload_n hx hb dX10_meanHold_8 rfl (lv_at hl 0 rfl) ?_
  refine lv_if_ne (tgt := 23) hx hb dX10_meanHold_9 (by decide) (fun c_2 => absurd (show (0 : Int32) = 0 from by decide +kernel) c_2) (fun c_2 => ?_)
  obtain ⟨sa_3, hs_4⟩ := ev_x hE (q := (478, "no cells")) (by decide +kernel)
  exact vx_throwSW hx hb hst hown (by decide +kernel) (by decide +kernel) (hts (.classLink RX10 476 "java/lang/ArithmeticException") (by decide +kernel)) (hts (.initialized "java/lang/ArithmeticException") (by decide +kernel)) hs_4 (vx_hat (fun w hw => hts w (hm_wsX10_meanHold_480 w hw)) hn_RX10_480 (vx_c (ev_u hE (w := .castable "java/lang/ArithmeticException" _) (by decide +kernel) rfl) (vx_c (ev_u hE (by decide +kernel) rfl) (vx_c (ev_u hE (by decide +kernel) rfl) (vx_c (ev_u hE (by decide +kernel) rfl) vx_n))))) ht_RX10_476_480 hE.1.1.1 hE.1.1.2 hS (hl.1.trans hml.symm) dX10_meanHold_12 dX10_meanHold_15 dX10_meanHold_16 dX10_meanHold_19 dX10_meanHold_22 (fun x hx => (htb x hx).elim) (Nat.le_of_ble_eq_true rfl) (Nat.le_of_ble_eq_true rfl) (Nat.le_of_ble_eq_true rfl) (Nat.le_of_ble_eq_true rfl) hlocks (fun t hal h1 h2 => ⟨(), trivial, ⟨rfl, rfl⟩, thr_F hS h1 h2⟩) hS.2.2 (Nat.le_of_ble_eq_true rfl) (Nat.le_of_ble_eq_true rfl)
