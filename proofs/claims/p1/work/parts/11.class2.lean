set_option maxRecDepth 20000 in
theorem iw_RX5_wsX5_init : ∀ w ∈ u_ws RX5 TX5 4, w ∈ wsX5_init := by decide +kernel
set_option maxRecDepth 20000 in
theorem iw_RX10_wsX10_lot : ∀ w ∈ u_ws RX10 TX10 20, w ∈ wsX10_lot := by decide +kernel
set_option maxRecDepth 20000 in
theorem iw_RX5_wsX10_lot : ∀ w ∈ u_ws RX5 TX5 4, w ∈ wsX10_lot := by decide +kernel
set_option maxRecDepth 20000 in
theorem hm_wsX10_lot_83 : ∀ w ∈ (vx_atS RX10 83 "java/lang/IllegalArgumentException" ["java/lang/RuntimeException", "java/lang/Exception"]).filter goodWord, w ∈ wsX10_lot := by decide +kernel
set_option maxRecDepth 20000 in
theorem iw_RX7_wsX7_init : ∀ w ∈ u_ws RX7 TX7 3, w ∈ wsX7_init := by decide +kernel
set_option maxRecDepth 20000 in
theorem iw_RX7_wsX7_addStep : ∀ w ∈ u_ws RX7 TX7 3, w ∈ wsX7_addStep := by decide +kernel
set_option maxRecDepth 20000 in
theorem iw_RX10_wsX10_protocol : ∀ w ∈ u_ws RX10 TX10 20, w ∈ wsX10_protocol := by decide +kernel
set_option maxRecDepth 20000 in
theorem iw_RX7_wsX10_protocol : ∀ w ∈ u_ws RX7 TX7 3, w ∈ wsX10_protocol := by decide +kernel
set_option maxRecDepth 20000 in
theorem iw_RX4_wsX4_init : ∀ w ∈ u_ws RX4 TX4 5, w ∈ wsX4_init := by decide +kernel
set_option maxRecDepth 20000 in
theorem iw_RX10_wsX10_addDoubt : ∀ w ∈ u_ws RX10 TX10 20, w ∈ wsX10_addDoubt := by decide +kernel
set_option maxRecDepth 20000 in
theorem iw_RX4_wsX10_doubtAll : ∀ w ∈ u_ws RX4 TX4 5, w ∈ wsX10_doubtAll := by decide +kernel
set_option maxRecDepth 20000 in
theorem hm_wsX10_doubtAll_83 : ∀ w ∈ (vx_atS RX10 83 "java/lang/IllegalArgumentException" ["java/lang/RuntimeException", "java/lang/Exception"]).filter goodWord, w ∈ wsX10_doubtAll := by decide +kernel
set_option maxRecDepth 20000 in
theorem iw_RX10_wsX10_pass : ∀ w ∈ u_ws RX10 TX10 20, w ∈ wsX10_pass := by decide +kernel
set_option maxRecDepth 20000 in
theorem iw_RX10_wsX10_listCandidates : ∀ w ∈ u_ws RX10 TX10 20, w ∈ wsX10_listCandidates := by decide +kernel
set_option maxRecDepth 20000 in
theorem iw_RX10_wsX10_module : ∀ w ∈ u_ws RX10 TX10 20, w ∈ wsX10_module := by decide +kernel
set_option maxRecDepth 20000 in
theorem ht_RX10_278_282 : ∀ w ∈ Cond.classLink RX10 278 "java/util/NoSuchElementException" :: Cond.initialized "java/util/NoSuchElementException" :: vx_atS RX10 282 "java/util/NoSuchElementException" ["java/lang/RuntimeException", "java/lang/Exception"], vx_ot w = true := by decide +kernel
set_option maxRecDepth 20000 in
theorem hm_wsX10_module_282 : ∀ w ∈ (vx_atS RX10 282 "java/util/NoSuchElementException" ["java/lang/RuntimeException", "java/lang/Exception"]).filter goodWord, w ∈ wsX10_module := by decide +kernel
set_option maxRecDepth 20000 in
theorem hn_RX10_282 : ∀ w ∈ (vx_atS RX10 282 "java/util/NoSuchElementException" ["java/lang/RuntimeException", "java/lang/Exception"]).filter (fun w => !goodWord w), w ∈ ([.castable "java/util/NoSuchElementException" "java/util/NoSuchElementException", .declares (Bundle.initS "java/lang/RuntimeException"), .declares (Bundle.initS "java/lang/Exception"), .declares (Bundle.initS "java/lang/Throwable")] : List Cond) := by decide +kernel
set_option maxRecDepth 20000 in
theorem hm_wsX10_module_83 : ∀ w ∈ (vx_atS RX10 83 "java/lang/IllegalArgumentException" ["java/lang/RuntimeException", "java/lang/Exception"]).filter goodWord, w ∈ wsX10_module := by decide +kernel
set_option maxRecDepth 20000 in
theorem iw_RX10_wsX10_freeHourOf : ∀ w ∈ u_ws RX10 TX10 20, w ∈ wsX10_freeHourOf := by decide +kernel
-- X5_init
set_option maxHeartbeats 4000000 in
set_option maxRecDepth 100000 in
theorem c_X5_init (l : Launch) (hst : l.stackTraces = false) (D : va_G) (e : Nat) (q : Nat) (p0 : Int32) (p1 : Int32) (p2 : Int32) (p3 : Int32) (hk : narrow .char (.int p1) = .int p1 ∧ fits .char (.int p1) = true) (sz : Nat) : Met l yX5_init wsX5_init ({ frames := 10, cells := 0, slots := 0, locals := 160 }) (va_Pc [.ref q, .int p0, .int p1, .int p2, .int p3] (cIn D [] [(q, .inr (11, [.int 0, .int 0, .int 0, .int 0]))] e sz)) (va_Qv (fun (_ : Unit) => True) (fun (_ : Unit) (t : State) => va_P D vwCl [(q, .inr (11, [.int p0, .int p1, .int p2, .int p3]))] t.heap ∧ va_K D vwCl [] t ∧ va_D (va_A [(q, .inr (11, [.int 0, .int 0, .int 0, .int 0]))] sz) [(q, .inr (11, [.int p0, .int p1, .int p2, .int p3]))]) (va_A [(q, .inr (11, [.int 0, .int 0, .int 0, .int 0]))] sz)) 0 0 (va_A [(q, .inr (11, [.int 0, .int 0, .int 0, .int 0]))] sz) := by
  refine Met.ofW (cc := cX5_init) (maxL := 5) (ret := none) (by decide +kernel) rfl ?_
  intro p e9 s m args below meth c s₁ B hml hv
  obtain ⟨rfl, hsz, hP, hK, hD0, hE0⟩ := hv
  have hx := B.exec
  have hb := B.bytes
  have hr := B.returns
  have hts := atoms_spec (ws := wsX5_init) B.pre
  have hown : s.vm.findClass RX5 = some m.cls := findClass_of_methodNamed B.named
  have hlocks := B.notSynchronized
  have hin : meth.name = "<init>" := (name_of_methodNamed B.named B.method).1
  subst hsz
  have hD := hD0.self (sz := s.heap.size)
  generalize hAe : va_A [(q, .inr (11, [.int 0, .int 0, .int 0, .int 0]))] s.heap.size = A at hD hE0 ⊢
  have hA : ∀ q : Nat, s.heap.size ≤ q → A q := fun q h => by rw [← hAe]; exact Or.inr h
  have hS : va_S A s.heap s.heap [] := va_S.rf
  have hE := hE0
  have hP : va_P D vwCl [(q, .inr (11, [.int 0, .int 0, .int 0, .int 0]))] s.heap := hP
  have hl := lv_entry ([.ref q, .int p0, .int p1, .int p2, .int p3]) (n := 5) (Nat.le_of_ble_eq_true rfl)
  rw [lg_entry_eq]
  generalize (lg_sl ([.ref q, .int p0, .int p1, .int p2, .int p3]) ++ List.replicate (5 - (lg_sl ([.ref q, .int p0, .int p1, .int p2, .int p3])).length) Slot.unset).toArray = ls at hl ⊢
  have hl : lv_has ls 5 [(0, .ref q), (1, .int p0), (2, .int p1), (3, .int p2), (4, .int p3)] := hl
  refine lv_aload_n hx hb dX5_init_0 rfl (lv_at hl 0 rfl) ?_
  refine W.objInit hx hb hown (hts (.methodLink RX5 1 objectInit) (by decide +kernel)) (hts (.instanceMethod objectInit) (by decide +kernel)) (hts (.code objectInit ⟨#[0xb1]⟩ 1 none) (by decide +kernel)) rfl (by rw [hml]; exact hl.1) rfl dX5_init_1 (Nat.le_of_ble_eq_true rfl) (Nat.le_of_ble_eq_true rfl) ?_
  refine W.eq (g2 := F0 m 4 ls []) rfl ?_
  refine lv_aload_n hx hb dX5_init_4 rfl (lv_at hl 0 rfl) ?_
  refine lv_iload_n hx hb dX5_init_5 rfl (lv_at hl 1 rfl) ?_
  refine va_putF (D := D) (ci := 11) (v := .int p0) (ty := .int) (C := RX5) (T := TX5) (N := 4) hx hb hts iw_RX5_wsX5_init tyX5 tyX5_ok nmX5 hown hK hP hD hS 0 rfl rfl 0 (by decide) (hts (.fieldLink RX5 7 "CoatLine$Lot" "number" "I") (by decide +kernel)) (fun _ h9 => h9) rfl hin rfl (by decide +kernel) rfl rfl (Nat.le_of_ble_eq_true rfl) dX5_init_6 (fun H locs hP hD hS => ?_)
  have hP : va_P D vwCl [(q, .inr (11, [.int p0, .int 0, .int 0, .int 0]))] H := hP
  have hD : va_D A [(q, .inr (11, [.int p0, .int 0, .int 0, .int 0]))] := hD
  refine lv_aload_n hx hb dX5_init_9 rfl (lv_at hl 0 rfl) ?_
  refine lv_iload_n hx hb dX5_init_10 rfl (lv_at hl 2 rfl) ?_
  refine va_putF (D := D) (ci := 11) (v := .int p1) (ty := .char) (C := RX5) (T := TX5) (N := 4) hx hb hts iw_RX5_wsX5_init tyX5 tyX5_ok nmX5 hown hK hP hD hS 0 rfl rfl 1 (by decide) (hts (.fieldLink RX5 13 "CoatLine$Lot" "kind" "C") (by decide +kernel)) (fun _ h9 => h9) rfl hin rfl (by decide +kernel) hk.1 hk.2 (Nat.le_of_ble_eq_true rfl) dX5_init_11 (fun H locs hP hD hS => ?_)
  have hP : va_P D vwCl [(q, .inr (11, [.int p0, .int p1, .int 0, .int 0]))] H := hP
  have hD : va_D A [(q, .inr (11, [.int p0, .int p1, .int 0, .int 0]))] := hD
  refine lv_aload_n hx hb dX5_init_14 rfl (lv_at hl 0 rfl) ?_
  refine lv_iload_n hx hb dX5_init_15 rfl (lv_at hl 3 rfl) ?_
  refine va_putF (D := D) (ci := 11) (v := .int p2) (ty := .int) (C := RX5) (T := TX5) (N := 4) hx hb hts iw_RX5_wsX5_init tyX5 tyX5_ok nmX5 hown hK hP hD hS 0 rfl rfl 2 (by decide) (hts (.fieldLink RX5 17 "CoatLine$Lot" "strength" "I") (by decide +kernel)) (fun _ h9 => h9) rfl hin rfl (by decide +kernel) rfl rfl (Nat.le_of_ble_eq_true rfl) dX5_init_16 (fun H locs hP hD hS => ?_)
  have hP : va_P D vwCl [(q, .inr (11, [.int p0, .int p1, .int p2, .int 0]))] H := hP
  have hD : va_D A [(q, .inr (11, [.int p0, .int p1, .int p2, .int 0]))] := hD
  refine lv_aload_n hx hb dX5_init_19 rfl (lv_at hl 0 rfl) ?_
  refine lv_iload hx hb dX5_init_20 (lv_at hl 4 rfl) ?_
  refine va_put (D := D) (ci := 11) (v := .int p3) (ty := .int) (C := RX5) (T := TX5) (N := 4) hx hb hts iw_RX5_wsX5_init tyX5 tyX5_ok nmX5 hown hK hP hD hS 0 rfl rfl 3 (by decide) (hts (.fieldLink RX5 20 "CoatLine$Lot" "amount" "I") (by decide +kernel)) (fun _ h9 => h9) rfl (by decide +kernel) rfl rfl (Nat.le_of_ble_eq_true rfl) dX5_init_22 (fun H locs hP hD hS => ?_)
  have hP : va_P D vwCl [(q, .inr (11, [.int p0, .int p1, .int p2, .int p3]))] H := hP
  have hD : va_D A [(q, .inr (11, [.int p0, .int p1, .int p2, .int p3]))] := hD
  exact W.vret hx hb hr (fun t ht hW => ⟨⟨(), rfl, trivial, ⟨by rw [ht]; exact hP.sub [0] rfl, va_K.moved hW.alike (hK.sub [] rfl), hD.sub [0] (by decide) rfl⟩⟩, hS.F ht⟩) hS.2.2 dX5_init_25
-- X10_lot
def t_X10_lot (p0 : Int32) (p1 : Int32) (p2 : Int32) : Int32 := if p0 = 112 then (if t_X10_requireWithin p1 50 150 = 0 then (if t_X10_requireWithin p2 1 999 = 0 then 0 else 1) else 1) else (if p0 = 110 then (if t_X10_requireWithin p1 50 150 = 0 then (if t_X10_requireWithin p2 1 999 = 0 then 0 else 1) else 1) else 1)
def v_X10_lot (p0 : Int32) (p1 : Int32) (p2 : Int32) : Int32 := if p0 = 112 then (if t_X10_requireWithin p1 50 150 = 0 then (if t_X10_requireWithin p2 1 999 = 0 then 0 else 0) else 0) else (if p0 = 110 then (if t_X10_requireWithin p1 50 150 = 0 then (if t_X10_requireWithin p2 1 999 = 0 then 0 else 0) else 0) else 0)
set_option maxHeartbeats 4000000 in
set_option maxRecDepth 100000 in
theorem c_X10_lot (l : Launch) (hst : l.stackTraces = false) (D : va_G) (e : Nat) (h : Nat) (l1 : Nat) (l2 : Nat) (l3 : Nat) (l4 : Nat) (l5 : Nat) (l6 : Nat) (l7 : Nat) (l8 : Nat) (l9 : Nat) (ch : Nat) (co : Nat) (p0 : Int32) (p1 : Int32) (p2 : Int32) (sz : Nat) : vx_Met l yX10_lot wsX10_lot ({ frames := 20, cells := 6, slots := 40, locals := 460 }) (va_Pc [.ref h, .int p0, .int p1, .int p2] (cIn D [] [(h, .inr (16, [.ref l1, .ref l2, .ref l3, .ref l4, .ref l5, .ref l6, .ref l7, .ref l8, .ref l9, .ref ch, .ref co, .int 0, .int 4, .int (-40), .int 20, .int 0, .int 0, .int 100, .int 60, .int 14])), (l1, .inr (5, [.int 0, .ref e, .int 0]))] e sz)) (va_Qi (fun (r : Int32) (_ : Unit) => t_X10_lot p0 p1 p2 = 0 ∧ r = v_X10_lot p0 p1 p2) (fun (_ : Unit) (_ : State) => True) (va_A [(h, .inr (16, [.ref l1, .ref l2, .ref l3, .ref l4, .ref l5, .ref l6, .ref l7, .ref l8, .ref l9, .ref ch, .ref co, .int 0, .int 4, .int (-40), .int 20, .int 0, .int 0, .int 100, .int 60, .int 14])), (l1, .inr (5, [.int 0, .ref e, .int 0]))] sz)) (vx_X (fun _ : Unit => True) (fun (E : String) (_ : Unit) (_ : State) => (E = "java/lang/IllegalArgumentException" ∧ t_X10_lot p0 p1 p2 = 1)) (va_A [(h, .inr (16, [.ref l1, .ref l2, .ref l3, .ref l4, .ref l5, .ref l6, .ref l7, .ref l8, .ref l9, .ref ch, .ref co, .int 0, .int 4, .int (-40), .int 20, .int 0, .int 0, .int 100, .int 60, .int 14])), (l1, .inr (5, [.int 0, .ref e, .int 0]))] sz)) 6 40 (va_A [(h, .inr (16, [.ref l1, .ref l2, .ref l3, .ref l4, .ref l5, .ref l6, .ref l7, .ref l8, .ref l9, .ref ch, .ref co, .int 0, .int 4, .int (-40), .int 20, .int 0, .int 0, .int 100, .int 60, .int 14])), (l1, .inr (5, [.int 0, .ref e, .int 0]))] sz) := by
  refine vx_ofW (cc := cX10_lot) (maxL := 5) (ret := (some .int)) (by decide +kernel) rfl ?_
  intro p e9 s m args below meth c s₁ B hml htb hv
  obtain ⟨rfl, hsz, hP, hK, hD0, hE0⟩ := hv
  have hx := B.exec
  have hb := B.bytes
  have hr := B.returns
  have hts := atoms_spec (ws := wsX10_lot) B.pre
  have hown : s.vm.findClass RX10 = some m.cls := findClass_of_methodNamed B.named
  have hlocks := B.notSynchronized
  subst hsz
  have hD := hD0.self (sz := s.heap.size)
  generalize hAe : va_A [(h, .inr (16, [.ref l1, .ref l2, .ref l3, .ref l4, .ref l5, .ref l6, .ref l7, .ref l8, .ref l9, .ref ch, .ref co, .int 0, .int 4, .int (-40), .int 20, .int 0, .int 0, .int 100, .int 60, .int 14])), (l1, .inr (5, [.int 0, .ref e, .int 0]))] s.heap.size = A at hD hE0 ⊢
  have hA : ∀ q : Nat, s.heap.size ≤ q → A q := fun q h => by rw [← hAe]; exact Or.inr h
  have hS : va_S A s.heap s.heap [] := va_S.rf
  have hE := hE0
  have hP : va_P D vwCl [(h, .inr (16, [.ref l1, .ref l2, .ref l3, .ref l4, .ref l5, .ref l6, .ref l7, .ref l8, .ref l9, .ref ch, .ref co, .int 0, .int 4, .int (-40), .int 20, .int 0, .int 0, .int 100, .int 60, .int 14])), (l1, .inr (5, [.int 0, .ref e, .int 0]))] s.heap := hP
  have hl := lv_entry ([.ref h, .int p0, .int p1, .int p2]) (n := 5) (Nat.le_of_ble_eq_true rfl)
  rw [lg_entry_eq]
  generalize (lg_sl ([.ref h, .int p0, .int p1, .int p2]) ++ List.replicate (5 - (lg_sl ([.ref h, .int p0, .int p1, .int p2])).length) Slot.unset).toArray = ls at hl ⊢
  have hl : lv_has ls 5 [(0, .ref h), (1, .int p0), (2, .int p1), (3, .int p2)] := hl
  refine lv_iload_n hx hb dX10_lot_0 rfl (lv_at hl 1 rfl) ?_
  refine lv_bipush (v := 112) hx hb dX10_lot_1 (by decide) ?_
  refine lv_icmp_eq (tgt := 22) hx hb dX10_lot_3 (by decide) (fun c_1 => ?_) (fun c_1 => ?_)
  · refine lv_iload_n hx hb dX10_lot_22 rfl (lv_at hl 2 rfl) ?_
    refine lv_bipush (v := 50) hx hb dX10_lot_23 (by decide) ?_
    refine lv_sipush (v := 150) hx hb dX10_lot_25 (by decide) ?_
    have hFc := va_free (wc := []) hD hS hA [] rfl
    refine vx_callv (vx_runS (As := [.int p1, .int 50, .int 150]) (rest := []) ⟨hx, hb, hml, hown, hts⟩ (c_X10_requireWithin l hst D e p1 50 150 s.heap.size) (va_cwS 3 hts gX10_lot_X10_requireWithin rfl rfl rfl (by decide +kernel) ⟨Nat.le_of_ble_eq_true rfl, Nat.le_of_ble_eq_true rfl⟩) ⟨cIn_blind, cIn_go hK hP hD hE hS hA [] rfl rfl (by decide) [] rfl⟩ rfl rfl hl.1 rfl (lv_room (Nat.le_of_ble_eq_true rfl)) dX10_lot_28 ⟨Nat.le_of_ble_eq_true rfl, Nat.le_of_ble_eq_true rfl⟩) hS (fun q _ h => hFc q h) hFc (fun q _ h => hFc q h) (fun E ce q9 u t H1 locs ht hvm hpx hB hz1 hk1 hS hce hcv hcl => ?_) (fun u t H1 locs ht hvm hw hB hz1 hk1 hS => ?_)
    · obtain ⟨rfl, hw⟩ := hB
      have c_4 : ¬ t_X10_requireWithin p1 50 150 = 0 := by rw [hw]; decide
      exact vx_out (fun x hx => (htb x hx).elim) hlocks hce hcv hcl (fun t9 h9 hal => ⟨(), trivial, ⟨rfl, (by unfold t_X10_lot; rw [if_pos c_1, if_neg c_4])⟩, hS.F h9⟩) hS.2.2 (Nat.le_of_ble_eq_true rfl) (Nat.le_of_ble_eq_true rfl)
    · have c_3 : t_X10_requireWithin p1 50 150 = 0 := hw.1
      obtain ⟨hP, hD⟩ := cIn_rest (wc := []) (wr := [(h, .inr (16, [.ref l1, .ref l2, .ref l3, .ref l4, .ref l5, .ref l6, .ref l7, .ref l8, .ref l9, .ref ch, .ref co, .int 0, .int 4, .int (-40), .int 20, .int 0, .int 0, .int 100, .int 60, .int 14])), (l1, .inr (5, [.int 0, .ref e, .int 0]))]) hP hD [] [0, 1] rfl rfl (by decide) (by decide) hk1 hFc
      generalize H1 = H at hP hS ⊢
      have hP : va_P D vwCl [(h, .inr (16, [.ref l1, .ref l2, .ref l3, .ref l4, .ref l5, .ref l6, .ref l7, .ref l8, .ref l9, .ref ch, .ref co, .int 0, .int 4, .int (-40), .int 20, .int 0, .int 0, .int 100, .int 60, .int 14])), (l1, .inr (5, [.int 0, .ref e, .int 0]))] H := hP
      have hD : va_D A [(h, .inr (16, [.ref l1, .ref l2, .ref l3, .ref l4, .ref l5, .ref l6, .ref l7, .ref l8, .ref l9, .ref ch, .ref co, .int 0, .int 4, .int (-40), .int 20, .int 0, .int 0, .int 100, .int 60, .int 14])), (l1, .inr (5, [.int 0, .ref e, .int 0]))] := hD
      refine W.widen (k := 1) (n := 6) (Nat.le_of_ble_eq_true rfl) (Nat.le_of_ble_eq_true rfl) ?_
      refine lv_iload_n hx hb dX10_lot_31 rfl (lv_at hl 3 rfl) ?_
      refine lv_iconst (v := 1) hx hb dX10_lot_32 (by decide) ?_
      refine lv_sipush (v := 999) hx hb dX10_lot_33 (by decide) ?_
      have hFc := va_free (wc := []) hD hS hA [] rfl
      refine vx_callv (vx_runS (As := [.int p2, .int 1, .int 999]) (rest := []) ⟨hx, hb, hml, hown, hts⟩ (c_X10_requireWithin l hst D e p2 1 999 H.size) (va_cwS 3 hts gX10_lot_X10_requireWithin rfl rfl rfl (by decide +kernel) ⟨Nat.le_of_ble_eq_true rfl, Nat.le_of_ble_eq_true rfl⟩) ⟨cIn_blind, cIn_go hK hP hD hE hS hA [] rfl rfl (by decide) [] rfl⟩ rfl rfl hl.1 rfl (lv_room (Nat.le_of_ble_eq_true rfl)) dX10_lot_36 ⟨Nat.le_of_ble_eq_true rfl, Nat.le_of_ble_eq_true rfl⟩) hS (fun q _ h => hFc q h) hFc (fun q _ h => hFc q h) (fun E ce q9 u t H1 locs ht hvm hpx hB hz1 hk1 hS hce hcv hcl => ?_) (fun u t H1 locs ht hvm hw hB hz1 hk1 hS => ?_)
      · obtain ⟨rfl, hw⟩ := hB
        have c_7 : ¬ t_X10_requireWithin p2 1 999 = 0 := by rw [hw]; decide
        exact vx_out (fun x hx => (htb x hx).elim) hlocks hce hcv hcl (fun t9 h9 hal => ⟨(), trivial, ⟨rfl, (by unfold t_X10_lot; rw [if_pos c_1, if_pos c_3, if_neg c_7])⟩, hS.F h9⟩) hS.2.2 (Nat.le_of_ble_eq_true rfl) (Nat.le_of_ble_eq_true rfl)
      · have c_6 : t_X10_requireWithin p2 1 999 = 0 := hw.1
        obtain ⟨hP, hD⟩ := cIn_rest (wc := []) (wr := [(h, .inr (16, [.ref l1, .ref l2, .ref l3, .ref l4, .ref l5, .ref l6, .ref l7, .ref l8, .ref l9, .ref ch, .ref co, .int 0, .int 4, .int (-40), .int 20, .int 0, .int 0, .int 100, .int 60, .int 14])), (l1, .inr (5, [.int 0, .ref e, .int 0]))]) hP hD [] [0, 1] rfl rfl (by decide) (by decide) hk1 hFc
        generalize H1 = H at hP hS ⊢
        have hP : va_P D vwCl [(h, .inr (16, [.ref l1, .ref l2, .ref l3, .ref l4, .ref l5, .ref l6, .ref l7, .ref l8, .ref l9, .ref ch, .ref co, .int 0, .int 4, .int (-40), .int 20, .int 0, .int 0, .int 100, .int 60, .int 14])), (l1, .inr (5, [.int 0, .ref e, .int 0]))] H := hP
        have hD : va_D A [(h, .inr (16, [.ref l1, .ref l2, .ref l3, .ref l4, .ref l5, .ref l6, .ref l7, .ref l8, .ref l9, .ref ch, .ref co, .int 0, .int 4, .int (-40), .int 20, .int 0, .int 0, .int 100, .int 60, .int 14])), (l1, .inr (5, [.int 0, .ref e, .int 0]))] := hD
        refine W.widen (k := 2) (n := 12) (Nat.le_of_ble_eq_true rfl) (Nat.le_of_ble_eq_true rfl) ?_
        refine lv_aload_n hx hb dX10_lot_39 rfl (lv_at hl 0 rfl) ?_
        refine va_get (D := D) (ci := 16) (v := .ref l1) (C := RX10) (T := TX10) (N := 20) hx hb hts iw_RX10_wsX10_lot hown hK hP 0 rfl rfl 0 (by decide) (hts (.fieldLink RX10 10 "CoatLine" "lots" "Ljava/util/ArrayList;") (by decide +kernel)) (fun _ h9 => h9) rfl dX10_lot_40 ?_
        refine vp_callSi (va_Run.run (va_runV (As := []) (rest := []) ⟨hx, hb, hml, hown, hts⟩ (c_Jx4a65c_size_8abf5 l hst D e l1 0 e 0 H.size) (cwV 0 hts gX10_lot_Jx4a65c_size_8abf5 rfl rfl rfl (by decide +kernel) ⟨Nat.le_of_ble_eq_true rfl, Nat.le_of_ble_eq_true rfl⟩) ⟨cIn_blind, va_recv hK hP (ci := 5) (q0 := 1) rfl rfl, cIn_go hK hP hD hE hS hA [1] rfl rfl (by decide) [] rfl⟩ rfl rfl hl.1 rfl (lv_room (Nat.le_of_ble_eq_true rfl)) dX10_lot_43 ⟨Nat.le_of_ble_eq_true rfl, Nat.le_of_ble_eq_true rfl⟩)) (fun r_8 hw => ?_)
        have hw : r_8 = 0 := hw.trans (by first | rfl | decide +kernel)
        subst hw
        refine lv_iconst (v := 1) hx hb dX10_lot_46 (by decide) ?_
        refine lv_bipush (v := 8) hx hb dX10_lot_47 (by decide) ?_
        have hFc := va_free (wc := []) hD hS hA [] rfl
        refine vx_callv (vx_runS (As := [.int 0, .int 1, .int 8]) (rest := []) ⟨hx, hb, hml, hown, hts⟩ (c_X10_requireSpace l hst D e 0 1 8 H.size) (va_cwS 3 hts gX10_lot_X10_requireSpace rfl rfl rfl (by decide +kernel) ⟨Nat.le_of_ble_eq_true rfl, Nat.le_of_ble_eq_true rfl⟩) ⟨cIn_blind, cIn_go hK hP hD hE hS hA [] rfl rfl (by decide) [] rfl⟩ rfl rfl hl.1 rfl (lv_room (Nat.le_of_ble_eq_true rfl)) dX10_lot_49 ⟨Nat.le_of_ble_eq_true rfl, Nat.le_of_ble_eq_true rfl⟩) hS (fun q _ h => hFc q h) hFc (fun q _ h => hFc q h) (fun E ce q9 u t H1 locs ht hvm hpx hB hz1 hk1 hS hce hcv hcl => ?_) (fun u t H1 locs ht hvm hw hB hz1 hk1 hS => ?_)
        · exact absurd hB.2 (by decide +kernel)
        obtain ⟨hP, hD⟩ := cIn_rest (wc := []) (wr := [(h, .inr (16, [.ref l1, .ref l2, .ref l3, .ref l4, .ref l5, .ref l6, .ref l7, .ref l8, .ref l9, .ref ch, .ref co, .int 0, .int 4, .int (-40), .int 20, .int 0, .int 0, .int 100, .int 60, .int 14])), (l1, .inr (5, [.int 0, .ref e, .int 0]))]) hP hD [] [0, 1] rfl rfl (by decide) (by decide) hk1 hFc
        generalize H1 = H at hP hS ⊢
        have hP : va_P D vwCl [(h, .inr (16, [.ref l1, .ref l2, .ref l3, .ref l4, .ref l5, .ref l6, .ref l7, .ref l8, .ref l9, .ref ch, .ref co, .int 0, .int 4, .int (-40), .int 20, .int 0, .int 0, .int 100, .int 60, .int 14])), (l1, .inr (5, [.int 0, .ref e, .int 0]))] H := hP
        have hD : va_D A [(h, .inr (16, [.ref l1, .ref l2, .ref l3, .ref l4, .ref l5, .ref l6, .ref l7, .ref l8, .ref l9, .ref ch, .ref co, .int 0, .int 4, .int (-40), .int 20, .int 0, .int 0, .int 100, .int 60, .int 14])), (l1, .inr (5, [.int 0, .ref e, .int 0]))] := hD
        refine W.widen (k := 3) (n := 18) (Nat.le_of_ble_eq_true rfl) (Nat.le_of_ble_eq_true rfl) ?_
        refine va_new (D := D) (ci := 11) (fs := [.int 0, .int 0, .int 0, .int 0]) (C := RX5) (T := TX5) (N := 4) hx hb hts iw_RX5_wsX10_lot tyX5 tyX5_ok hown (hts (.classLink RX10 97 RX5) (by decide +kernel)) (hts (.instantiable RX5 4) (by decide +kernel)) (hts (.initialized RX5) (by decide +kernel)) hK hP hD hS hA rfl (fun j hj => by rcases (show j = 0 ∨ j = 1 ∨ j = 2 ∨ j = 3 by omega) with rfl | rfl | rfl | rfl <;> rfl) (Nat.le_of_ble_eq_true rfl) (Nat.le_of_ble_eq_true rfl) dX10_lot_52 (fun q_10 H hP hD hS => ?_)
        have hP : va_P D vwCl [(h, .inr (16, [.ref l1, .ref l2, .ref l3, .ref l4, .ref l5, .ref l6, .ref l7, .ref l8, .ref l9, .ref ch, .ref co, .int 0, .int 4, .int (-40), .int 20, .int 0, .int 0, .int 100, .int 60, .int 14])), (l1, .inr (5, [.int 0, .ref e, .int 0])), (q_10, .inr (11, [.int 0, .int 0, .int 0, .int 0]))] H := hP
        have hD : va_D A [(h, .inr (16, [.ref l1, .ref l2, .ref l3, .ref l4, .ref l5, .ref l6, .ref l7, .ref l8, .ref l9, .ref ch, .ref co, .int 0, .int 4, .int (-40), .int 20, .int 0, .int 0, .int 100, .int 60, .int 14])), (l1, .inr (5, [.int 0, .ref e, .int 0])), (q_10, .inr (11, [.int 0, .int 0, .int 0, .int 0]))] := hD
        refine W.widen (k := 4) (n := 22) (Nat.le_of_ble_eq_true rfl) (Nat.le_of_ble_eq_true rfl) ?_
        refine lv_dup hx hb dX10_lot_55 rfl ?_
        refine lv_aload_n hx hb dX10_lot_56 rfl (lv_at hl 0 rfl) ?_
        refine va_get (D := D) (ci := 16) (v := .ref l1) (C := RX10) (T := TX10) (N := 20) hx hb hts iw_RX10_wsX10_lot hown hK hP 0 rfl rfl 0 (by decide) (hts (.fieldLink RX10 10 "CoatLine" "lots" "Ljava/util/ArrayList;") (by decide +kernel)) (fun _ h9 => h9) rfl dX10_lot_57 ?_
        refine vp_callSi (va_Run.run (va_runV (As := []) (rest := [.ref q_10, .ref q_10]) ⟨hx, hb, hml, hown, hts⟩ (c_Jx4a65c_size_8abf5 l hst D e l1 0 e 0 H.size) (cwV 0 hts gX10_lot_Jx4a65c_size_8abf5 rfl rfl rfl (by decide +kernel) ⟨Nat.le_of_ble_eq_true rfl, Nat.le_of_ble_eq_true rfl⟩) ⟨cIn_blind, va_recv hK hP (ci := 5) (q0 := 1) rfl rfl, cIn_go hK hP hD hE hS hA [1] rfl rfl (by decide) [] rfl⟩ rfl rfl hl.1 rfl (lv_room (Nat.le_of_ble_eq_true rfl)) dX10_lot_60 ⟨Nat.le_of_ble_eq_true rfl, Nat.le_of_ble_eq_true rfl⟩)) (fun r_11 hw => ?_)
        have hw : r_11 = 0 := hw.trans (by first | rfl | decide +kernel)
        subst hw
        refine lv_iload_n hx hb dX10_lot_63 rfl (lv_at hl 1 rfl) ?_
        refine lv_iload_n hx hb dX10_lot_64 rfl (lv_at hl 2 rfl) ?_
        refine lv_iload_n hx hb dX10_lot_65 rfl (lv_at hl 3 rfl) ?_
        have hFc := va_free (wc := [(q_10, .inr (11, [.int 0, .int 0, .int 0, .int 0]))]) hD hS hA [2] rfl
        refine va_callv (va_runI (As := [.int 0, .int p0, .int p1, .int p2]) (rest := [.ref q_10]) ⟨hx, hb, hml, hown, hts⟩ (c_X5_init l hst D e q_10 0 p0 p1 p2 (by rw [c_1]; exact ⟨rfl, rfl⟩) H.size) (cwI 4 hts gX10_lot_X5_init rfl rfl rfl (hts (.initialized RX5) (by decide +kernel)) (hts (.methodLink RX10 99 yX5_init) (by decide +kernel)) (hts (.instanceMethod yX5_init) (by decide +kernel)) rfl (by decide +kernel) ⟨Nat.le_of_ble_eq_true rfl, Nat.le_of_ble_eq_true rfl⟩) ⟨cIn_blind, cIn_go hK hP hD hE hS hA [2] rfl rfl (by decide) [] rfl⟩ rfl rfl hl.1 rfl (lv_room (Nat.le_of_ble_eq_true rfl)) dX10_lot_66 ⟨Nat.le_of_ble_eq_true rfl, Nat.le_of_ble_eq_true rfl⟩) hS (fun q _ h => hFc q h) hFc (fun u t H1 locs ht hvm hw hB hz1 hk1 hS => ?_)
        obtain ⟨hP1, hK1, hD1⟩ := hB
        rw [ht] at hP1
        have hK1 := va_K.moved hvm.symm hK1
        obtain ⟨hP, hD⟩ := va_join (wr := [(h, .inr (16, [.ref l1, .ref l2, .ref l3, .ref l4, .ref l5, .ref l6, .ref l7, .ref l8, .ref l9, .ref ch, .ref co, .int 0, .int 4, .int (-40), .int 20, .int 0, .int 0, .int 100, .int 60, .int 14])), (l1, .inr (5, [.int 0, .ref e, .int 0]))]) (w1 := [(q_10, .inr (11, [.int 0, .int p0, .int p1, .int p2]))]) hP hD [2] [0, 1] rfl rfl (by decide) (by decide) hk1 hFc hP1 hD1
        generalize H1 = H at hP hS ⊢
        have hP : va_P D vwCl [(h, .inr (16, [.ref l1, .ref l2, .ref l3, .ref l4, .ref l5, .ref l6, .ref l7, .ref l8, .ref l9, .ref ch, .ref co, .int 0, .int 4, .int (-40), .int 20, .int 0, .int 0, .int 100, .int 60, .int 14])), (l1, .inr (5, [.int 0, .ref e, .int 0])), (q_10, .inr (11, [.int 0, .int p0, .int p1, .int p2]))] H := hP
        have hD : va_D A [(h, .inr (16, [.ref l1, .ref l2, .ref l3, .ref l4, .ref l5, .ref l6, .ref l7, .ref l8, .ref l9, .ref ch, .ref co, .int 0, .int 4, .int (-40), .int 20, .int 0, .int 0, .int 100, .int 60, .int 14])), (l1, .inr (5, [.int 0, .ref e, .int 0])), (q_10, .inr (11, [.int 0, .int p0, .int p1, .int p2]))] := hD
        refine lv_astore (lv' := [(4, .ref q_10), (0, .ref h), (1, .int p0), (2, .int p1), (3, .int p2)]) hx hb dX10_lot_69 hl (by decide) rfl (fun ls hl => ?_)
        refine lv_aload_n hx hb dX10_lot_71 rfl (lv_at hl 1 rfl) ?_
        refine va_get (D := D) (ci := 16) (v := .ref l1) (C := RX10) (T := TX10) (N := 20) hx hb hts iw_RX10_wsX10_lot hown hK hP 0 rfl rfl 0 (by decide) (hts (.fieldLink RX10 10 "CoatLine" "lots" "Ljava/util/ArrayList;") (by decide +kernel)) (fun _ h9 => h9) rfl dX10_lot_72 ?_
        refine lv_aload hx hb dX10_lot_75 (lv_at hl 0 rfl) ?_
        have hFc := va_free (wc := [(l1, .inr (5, [.int 0, .ref e, .int 0]))]) hD hS hA [1] rfl
        refine va_calli (va_runV (As := [.ref q_10]) (rest := []) ⟨hx, hb, hml, hown, hts⟩ (c_Jx4a65c_add_9ea2d l hst D e l1 0 q_10 H.size) (cwV 1 hts gX10_lot_Jx4a65c_add_9ea2d rfl rfl rfl (by decide +kernel) ⟨Nat.le_of_ble_eq_true rfl, Nat.le_of_ble_eq_true rfl⟩) ⟨cAny_blind, va_recv hK hP (ci := 5) (q0 := 1) rfl rfl, cAny_go hK hP hD hE hS hA [1] rfl rfl (by decide) [] rfl (va_rAny hK hP (q0 := 2) (ci := 11) rfl rfl (fun comp c0 => vb_asgC (ev_w hE (w := .castable "CoatLine$Lot" "java/lang/Object") (by decide +kernel)) comp c0)) (hP 2 _ rfl).lt (fun h9 => absurd (hD.1 2 1 _ _ rfl rfl h9) (by decide))⟩ rfl rfl hl.1 rfl (lv_room (Nat.le_of_ble_eq_true rfl)) dX10_lot_77 ⟨Nat.le_of_ble_eq_true rfl, Nat.le_of_ble_eq_true rfl⟩) hS (fun q _ h => hFc q h) hFc (fun r_14 u t H1 locs ht hvm hw hB hz1 hk1 hS => ?_)
        obtain ⟨q_16, hP1, hK1, hD1⟩ := hB
        rw [ht] at hP1
        have hK1 := va_K.moved hvm.symm hK1
        obtain ⟨hP, hD⟩ := va_join (wr := [(h, .inr (16, [.ref l1, .ref l2, .ref l3, .ref l4, .ref l5, .ref l6, .ref l7, .ref l8, .ref l9, .ref ch, .ref co, .int 0, .int 4, .int (-40), .int 20, .int 0, .int 0, .int 100, .int 60, .int 14])), (q_10, .inr (11, [.int 0, .int p0, .int p1, .int p2]))]) (w1 := [(l1, .inr (5, [.int (0 + 1), .ref q_16, .int 1]))]) hP hD [1] [0, 2] rfl rfl (by decide) (by decide) hk1 hFc hP1 hD1
        generalize H1 = H at hP hS ⊢
        have hP : va_P D vwCl [(h, .inr (16, [.ref l1, .ref l2, .ref l3, .ref l4, .ref l5, .ref l6, .ref l7, .ref l8, .ref l9, .ref ch, .ref co, .int 0, .int 4, .int (-40), .int 20, .int 0, .int 0, .int 100, .int 60, .int 14])), (q_10, .inr (11, [.int 0, .int p0, .int p1, .int p2])), (l1, .inr (5, [.int (0 + 1), .ref q_16, .int 1]))] H := hP
        have hD : va_D A [(h, .inr (16, [.ref l1, .ref l2, .ref l3, .ref l4, .ref l5, .ref l6, .ref l7, .ref l8, .ref l9, .ref ch, .ref co, .int 0, .int 4, .int (-40), .int 20, .int 0, .int 0, .int 100, .int 60, .int 14])), (q_10, .inr (11, [.int 0, .int p0, .int p1, .int p2])), (l1, .inr (5, [.int (0 + 1), .ref q_16, .int 1]))] := hD
        refine W.widen (k := 5) (n := 32) (Nat.le_of_ble_eq_true rfl) (Nat.le_of_ble_eq_true rfl) ?_
        have hw : r_14 = 1 := hw.trans (by first | rfl | decide +kernel)
        subst hw
        refine lv_pop hx hb dX10_lot_80 rfl ?_
        refine lv_aload hx hb dX10_lot_81 (lv_at hl 0 rfl) ?_
        refine va_get (D := D) (ci := 11) (v := .int 0) (C := RX5) (T := TX5) (N := 4) hx hb hts iw_RX5_wsX10_lot hown hK hP 1 rfl rfl 0 (by decide) (hts (.fieldLink RX10 106 "CoatLine$Lot" "number" "I") (by decide +kernel)) (fun _ h9 => h9) rfl dX10_lot_83 ?_
        refine W.widen (k := 6) (n := 40) (Nat.le_of_ble_eq_true rfl) (Nat.le_of_ble_eq_true rfl) ?_
        refine vx_ret ?_
        exact W.iret (v := 0) hx hb hr (fun t ht hW => ⟨⟨0, (), rfl, ⟨(by unfold t_X10_lot; rw [if_pos c_1, if_pos c_3, if_pos c_6]), (by unfold v_X10_lot; rw [if_pos c_1, if_pos c_3, if_pos c_6])⟩, trivial⟩, hS.F ht⟩) hS.2.2 dX10_lot_86
  · refine lv_iload_n hx hb dX10_lot_6 rfl (lv_at hl 1 rfl) ?_
    refine lv_bipush (v := 110) hx hb dX10_lot_7 (by decide) ?_
    refine lv_icmp_eq (tgt := 22) hx hb dX10_lot_9 (by decide) (fun c_17 => ?_) (fun c_17 => ?_)
    · refine lv_iload_n hx hb dX10_lot_22 rfl (lv_at hl 2 rfl) ?_
      refine lv_bipush (v := 50) hx hb dX10_lot_23 (by decide) ?_
      refine lv_sipush (v := 150) hx hb dX10_lot_25 (by decide) ?_
      have hFc := va_free (wc := []) hD hS hA [] rfl
      refine vx_callv (vx_runS (As := [.int p1, .int 50, .int 150]) (rest := []) ⟨hx, hb, hml, hown, hts⟩ (c_X10_requireWithin l hst D e p1 50 150 s.heap.size) (va_cwS 3 hts gX10_lot_X10_requireWithin rfl rfl rfl (by decide +kernel) ⟨Nat.le_of_ble_eq_true rfl, Nat.le_of_ble_eq_true rfl⟩) ⟨cIn_blind, cIn_go hK hP hD hE hS hA [] rfl rfl (by decide) [] rfl⟩ rfl rfl hl.1 rfl (lv_room (Nat.le_of_ble_eq_true rfl)) dX10_lot_28 ⟨Nat.le_of_ble_eq_true rfl, Nat.le_of_ble_eq_true rfl⟩) hS (fun q _ h => hFc q h) hFc (fun q _ h => hFc q h) (fun E ce q9 u t H1 locs ht hvm hpx hB hz1 hk1 hS hce hcv hcl => ?_) (fun u t H1 locs ht hvm hw hB hz1 hk1 hS => ?_)
      · obtain ⟨rfl, hw⟩ := hB
        have c_20 : ¬ t_X10_requireWithin p1 50 150 = 0 := by rw [hw]; decide
        exact vx_out (fun x hx => (htb x hx).elim) hlocks hce hcv hcl (fun t9 h9 hal => ⟨(), trivial, ⟨rfl, (by unfold t_X10_lot; rw [if_neg c_1, if_pos c_17, if_neg c_20])⟩, hS.F h9⟩) hS.2.2 (Nat.le_of_ble_eq_true rfl) (Nat.le_of_ble_eq_true rfl)
      · have c_19 : t_X10_requireWithin p1 50 150 = 0 := hw.1
        obtain ⟨hP, hD⟩ := cIn_rest (wc := []) (wr := [(h, .inr (16, [.ref l1, .ref l2, .ref l3, .ref l4, .ref l5, .ref l6, .ref l7, .ref l8, .ref l9, .ref ch, .ref co, .int 0, .int 4, .int (-40), .int 20, .int 0, .int 0, .int 100, .int 60, .int 14])), (l1, .inr (5, [.int 0, .ref e, .int 0]))]) hP hD [] [0, 1] rfl rfl (by decide) (by decide) hk1 hFc
        generalize H1 = H at hP hS ⊢
        have hP : va_P D vwCl [(h, .inr (16, [.ref l1, .ref l2, .ref l3, .ref l4, .ref l5, .ref l6, .ref l7, .ref l8, .ref l9, .ref ch, .ref co, .int 0, .int 4, .int (-40), .int 20, .int 0, .int 0, .int 100, .int 60, .int 14])), (l1, .inr (5, [.int 0, .ref e, .int 0]))] H := hP
        have hD : va_D A [(h, .inr (16, [.ref l1, .ref l2, .ref l3, .ref l4, .ref l5, .ref l6, .ref l7, .ref l8, .ref l9, .ref ch, .ref co, .int 0, .int 4, .int (-40), .int 20, .int 0, .int 0, .int 100, .int 60, .int 14])), (l1, .inr (5, [.int 0, .ref e, .int 0]))] := hD
        refine W.widen (k := 1) (n := 6) (Nat.le_of_ble_eq_true rfl) (Nat.le_of_ble_eq_true rfl) ?_
        refine lv_iload_n hx hb dX10_lot_31 rfl (lv_at hl 3 rfl) ?_
        refine lv_iconst (v := 1) hx hb dX10_lot_32 (by decide) ?_
        refine lv_sipush (v := 999) hx hb dX10_lot_33 (by decide) ?_
        have hFc := va_free (wc := []) hD hS hA [] rfl
        refine vx_callv (vx_runS (As := [.int p2, .int 1, .int 999]) (rest := []) ⟨hx, hb, hml, hown, hts⟩ (c_X10_requireWithin l hst D e p2 1 999 H.size) (va_cwS 3 hts gX10_lot_X10_requireWithin rfl rfl rfl (by decide +kernel) ⟨Nat.le_of_ble_eq_true rfl, Nat.le_of_ble_eq_true rfl⟩) ⟨cIn_blind, cIn_go hK hP hD hE hS hA [] rfl rfl (by decide) [] rfl⟩ rfl rfl hl.1 rfl (lv_room (Nat.le_of_ble_eq_true rfl)) dX10_lot_36 ⟨Nat.le_of_ble_eq_true rfl, Nat.le_of_ble_eq_true rfl⟩) hS (fun q _ h => hFc q h) hFc (fun q _ h => hFc q h) (fun E ce q9 u t H1 locs ht hvm hpx hB hz1 hk1 hS hce hcv hcl => ?_) (fun u t H1 locs ht hvm hw hB hz1 hk1 hS => ?_)
        · obtain ⟨rfl, hw⟩ := hB
          have c_23 : ¬ t_X10_requireWithin p2 1 999 = 0 := by rw [hw]; decide
          exact vx_out (fun x hx => (htb x hx).elim) hlocks hce hcv hcl (fun t9 h9 hal => ⟨(), trivial, ⟨rfl, (by unfold t_X10_lot; rw [if_neg c_1, if_pos c_17, if_pos c_19, if_neg c_23])⟩, hS.F h9⟩) hS.2.2 (Nat.le_of_ble_eq_true rfl) (Nat.le_of_ble_eq_true rfl)
        · have c_22 : t_X10_requireWithin p2 1 999 = 0 := hw.1
          obtain ⟨hP, hD⟩ := cIn_rest (wc := []) (wr := [(h, .inr (16, [.ref l1, .ref l2, .ref l3, .ref l4, .ref l5, .ref l6, .ref l7, .ref l8, .ref l9, .ref ch, .ref co, .int 0, .int 4, .int (-40), .int 20, .int 0, .int 0, .int 100, .int 60, .int 14])), (l1, .inr (5, [.int 0, .ref e, .int 0]))]) hP hD [] [0, 1] rfl rfl (by decide) (by decide) hk1 hFc
          generalize H1 = H at hP hS ⊢
          have hP : va_P D vwCl [(h, .inr (16, [.ref l1, .ref l2, .ref l3, .ref l4, .ref l5, .ref l6, .ref l7, .ref l8, .ref l9, .ref ch, .ref co, .int 0, .int 4, .int (-40), .int 20, .int 0, .int 0, .int 100, .int 60, .int 14])), (l1, .inr (5, [.int 0, .ref e, .int 0]))] H := hP
          have hD : va_D A [(h, .inr (16, [.ref l1, .ref l2, .ref l3, .ref l4, .ref l5, .ref l6, .ref l7, .ref l8, .ref l9, .ref ch, .ref co, .int 0, .int 4, .int (-40), .int 20, .int 0, .int 0, .int 100, .int 60, .int 14])), (l1, .inr (5, [.int 0, .ref e, .int 0]))] := hD
          refine W.widen (k := 2) (n := 12) (Nat.le_of_ble_eq_true rfl) (Nat.le_of_ble_eq_true rfl) ?_
          refine lv_aload_n hx hb dX10_lot_39 rfl (lv_at hl 0 rfl) ?_
          refine va_get (D := D) (ci := 16) (v := .ref l1) (C := RX10) (T := TX10) (N := 20) hx hb hts iw_RX10_wsX10_lot hown hK hP 0 rfl rfl 0 (by decide) (hts (.fieldLink RX10 10 "CoatLine" "lots" "Ljava/util/ArrayList;") (by decide +kernel)) (fun _ h9 => h9) rfl dX10_lot_40 ?_
          refine vp_callSi (va_Run.run (va_runV (As := []) (rest := []) ⟨hx, hb, hml, hown, hts⟩ (c_Jx4a65c_size_8abf5 l hst D e l1 0 e 0 H.size) (cwV 0 hts gX10_lot_Jx4a65c_size_8abf5 rfl rfl rfl (by decide +kernel) ⟨Nat.le_of_ble_eq_true rfl, Nat.le_of_ble_eq_true rfl⟩) ⟨cIn_blind, va_recv hK hP (ci := 5) (q0 := 1) rfl rfl, cIn_go hK hP hD hE hS hA [1] rfl rfl (by decide) [] rfl⟩ rfl rfl hl.1 rfl (lv_room (Nat.le_of_ble_eq_true rfl)) dX10_lot_43 ⟨Nat.le_of_ble_eq_true rfl, Nat.le_of_ble_eq_true rfl⟩)) (fun r_24 hw => ?_)
          have hw : r_24 = 0 := hw.trans (by first | rfl | decide +kernel)
          subst hw
          refine lv_iconst (v := 1) hx hb dX10_lot_46 (by decide) ?_
          refine lv_bipush (v := 8) hx hb dX10_lot_47 (by decide) ?_
          have hFc := va_free (wc := []) hD hS hA [] rfl
          refine vx_callv (vx_runS (As := [.int 0, .int 1, .int 8]) (rest := []) ⟨hx, hb, hml, hown, hts⟩ (c_X10_requireSpace l hst D e 0 1 8 H.size) (va_cwS 3 hts gX10_lot_X10_requireSpace rfl rfl rfl (by decide +kernel) ⟨Nat.le_of_ble_eq_true rfl, Nat.le_of_ble_eq_true rfl⟩) ⟨cIn_blind, cIn_go hK hP hD hE hS hA [] rfl rfl (by decide) [] rfl⟩ rfl rfl hl.1 rfl (lv_room (Nat.le_of_ble_eq_true rfl)) dX10_lot_49 ⟨Nat.le_of_ble_eq_true rfl, Nat.le_of_ble_eq_true rfl⟩) hS (fun q _ h => hFc q h) hFc (fun q _ h => hFc q h) (fun E ce q9 u t H1 locs ht hvm hpx hB hz1 hk1 hS hce hcv hcl => ?_) (fun u t H1 locs ht hvm hw hB hz1 hk1 hS => ?_)
          · exact absurd hB.2 (by decide +kernel)
          obtain ⟨hP, hD⟩ := cIn_rest (wc := []) (wr := [(h, .inr (16, [.ref l1, .ref l2, .ref l3, .ref l4, .ref l5, .ref l6, .ref l7, .ref l8, .ref l9, .ref ch, .ref co, .int 0, .int 4, .int (-40), .int 20, .int 0, .int 0, .int 100, .int 60, .int 14])), (l1, .inr (5, [.int 0, .ref e, .int 0]))]) hP hD [] [0, 1] rfl rfl (by decide) (by decide) hk1 hFc
          generalize H1 = H at hP hS ⊢
          have hP : va_P D vwCl [(h, .inr (16, [.ref l1, .ref l2, .ref l3, .ref l4, .ref l5, .ref l6, .ref l7, .ref l8, .ref l9, .ref ch, .ref co, .int 0, .int 4, .int (-40), .int 20, .int 0, .int 0, .int 100, .int 60, .int 14])), (l1, .inr (5, [.int 0, .ref e, .int 0]))] H := hP
          have hD : va_D A [(h, .inr (16, [.ref l1, .ref l2, .ref l3, .ref l4, .ref l5, .ref l6, .ref l7, .ref l8, .ref l9, .ref ch, .ref co, .int 0, .int 4, .int (-40), .int 20, .int 0, .int 0, .int 100, .int 60, .int 14])), (l1, .inr (5, [.int 0, .ref e, .int 0]))] := hD
          refine W.widen (k := 3) (n := 18) (Nat.le_of_ble_eq_true rfl) (Nat.le_of_ble_eq_true rfl) ?_
          refine va_new (D := D) (ci := 11) (fs := [.int 0, .int 0, .int 0, .int 0]) (C := RX5) (T := TX5) (N := 4) hx hb hts iw_RX5_wsX10_lot tyX5 tyX5_ok hown (hts (.classLink RX10 97 RX5) (by decide +kernel)) (hts (.instantiable RX5 4) (by decide +kernel)) (hts (.initialized RX5) (by decide +kernel)) hK hP hD hS hA rfl (fun j hj => by rcases (show j = 0 ∨ j = 1 ∨ j = 2 ∨ j = 3 by omega) with rfl | rfl | rfl | rfl <;> rfl) (Nat.le_of_ble_eq_true rfl) (Nat.le_of_ble_eq_true rfl) dX10_lot_52 (fun q_26 H hP hD hS => ?_)
          have hP : va_P D vwCl [(h, .inr (16, [.ref l1, .ref l2, .ref l3, .ref l4, .ref l5, .ref l6, .ref l7, .ref l8, .ref l9, .ref ch, .ref co, .int 0, .int 4, .int (-40), .int 20, .int 0, .int 0, .int 100, .int 60, .int 14])), (l1, .inr (5, [.int 0, .ref e, .int 0])), (q_26, .inr (11, [.int 0, .int 0, .int 0, .int 0]))] H := hP
          have hD : va_D A [(h, .inr (16, [.ref l1, .ref l2, .ref l3, .ref l4, .ref l5, .ref l6, .ref l7, .ref l8, .ref l9, .ref ch, .ref co, .int 0, .int 4, .int (-40), .int 20, .int 0, .int 0, .int 100, .int 60, .int 14])), (l1, .inr (5, [.int 0, .ref e, .int 0])), (q_26, .inr (11, [.int 0, .int 0, .int 0, .int 0]))] := hD
          refine W.widen (k := 4) (n := 22) (Nat.le_of_ble_eq_true rfl) (Nat.le_of_ble_eq_true rfl) ?_
          refine lv_dup hx hb dX10_lot_55 rfl ?_
          refine lv_aload_n hx hb dX10_lot_56 rfl (lv_at hl 0 rfl) ?_
          refine va_get (D := D) (ci := 16) (v := .ref l1) (C := RX10) (T := TX10) (N := 20) hx hb hts iw_RX10_wsX10_lot hown hK hP 0 rfl rfl 0 (by decide) (hts (.fieldLink RX10 10 "CoatLine" "lots" "Ljava/util/ArrayList;") (by decide +kernel)) (fun _ h9 => h9) rfl dX10_lot_57 ?_
          refine vp_callSi (va_Run.run (va_runV (As := []) (rest := [.ref q_26, .ref q_26]) ⟨hx, hb, hml, hown, hts⟩ (c_Jx4a65c_size_8abf5 l hst D e l1 0 e 0 H.size) (cwV 0 hts gX10_lot_Jx4a65c_size_8abf5 rfl rfl rfl (by decide +kernel) ⟨Nat.le_of_ble_eq_true rfl, Nat.le_of_ble_eq_true rfl⟩) ⟨cIn_blind, va_recv hK hP (ci := 5) (q0 := 1) rfl rfl, cIn_go hK hP hD hE hS hA [1] rfl rfl (by decide) [] rfl⟩ rfl rfl hl.1 rfl (lv_room (Nat.le_of_ble_eq_true rfl)) dX10_lot_60 ⟨Nat.le_of_ble_eq_true rfl, Nat.le_of_ble_eq_true rfl⟩)) (fun r_27 hw => ?_)
          have hw : r_27 = 0 := hw.trans (by first | rfl | decide +kernel)
          subst hw
          refine lv_iload_n hx hb dX10_lot_63 rfl (lv_at hl 1 rfl) ?_
          refine lv_iload_n hx hb dX10_lot_64 rfl (lv_at hl 2 rfl) ?_
          refine lv_iload_n hx hb dX10_lot_65 rfl (lv_at hl 3 rfl) ?_
          have hFc := va_free (wc := [(q_26, .inr (11, [.int 0, .int 0, .int 0, .int 0]))]) hD hS hA [2] rfl
          refine va_callv (va_runI (As := [.int 0, .int p0, .int p1, .int p2]) (rest := [.ref q_26]) ⟨hx, hb, hml, hown, hts⟩ (c_X5_init l hst D e q_26 0 p0 p1 p2 (by rw [c_17]; exact ⟨rfl, rfl⟩) H.size) (cwI 4 hts gX10_lot_X5_init rfl rfl rfl (hts (.initialized RX5) (by decide +kernel)) (hts (.methodLink RX10 99 yX5_init) (by decide +kernel)) (hts (.instanceMethod yX5_init) (by decide +kernel)) rfl (by decide +kernel) ⟨Nat.le_of_ble_eq_true rfl, Nat.le_of_ble_eq_true rfl⟩) ⟨cIn_blind, cIn_go hK hP hD hE hS hA [2] rfl rfl (by decide) [] rfl⟩ rfl rfl hl.1 rfl (lv_room (Nat.le_of_ble_eq_true rfl)) dX10_lot_66 ⟨Nat.le_of_ble_eq_true rfl, Nat.le_of_ble_eq_true rfl⟩) hS (fun q _ h => hFc q h) hFc (fun u t H1 locs ht hvm hw hB hz1 hk1 hS => ?_)
          obtain ⟨hP1, hK1, hD1⟩ := hB
          rw [ht] at hP1
          have hK1 := va_K.moved hvm.symm hK1
          obtain ⟨hP, hD⟩ := va_join (wr := [(h, .inr (16, [.ref l1, .ref l2, .ref l3, .ref l4, .ref l5, .ref l6, .ref l7, .ref l8, .ref l9, .ref ch, .ref co, .int 0, .int 4, .int (-40), .int 20, .int 0, .int 0, .int 100, .int 60, .int 14])), (l1, .inr (5, [.int 0, .ref e, .int 0]))]) (w1 := [(q_26, .inr (11, [.int 0, .int p0, .int p1, .int p2]))]) hP hD [2] [0, 1] rfl rfl (by decide) (by decide) hk1 hFc hP1 hD1
          generalize H1 = H at hP hS ⊢
          have hP : va_P D vwCl [(h, .inr (16, [.ref l1, .ref l2, .ref l3, .ref l4, .ref l5, .ref l6, .ref l7, .ref l8, .ref l9, .ref ch, .ref co, .int 0, .int 4, .int (-40), .int 20, .int 0, .int 0, .int 100, .int 60, .int 14])), (l1, .inr (5, [.int 0, .ref e, .int 0])), (q_26, .inr (11, [.int 0, .int p0, .int p1, .int p2]))] H := hP
          have hD : va_D A [(h, .inr (16, [.ref l1, .ref l2, .ref l3, .ref l4, .ref l5, .ref l6, .ref l7, .ref l8, .ref l9, .ref ch, .ref co, .int 0, .int 4, .int (-40), .int 20, .int 0, .int 0, .int 100, .int 60, .int 14])), (l1, .inr (5, [.int 0, .ref e, .int 0])), (q_26, .inr (11, [.int 0, .int p0, .int p1, .int p2]))] := hD
          refine lv_astore (lv' := [(4, .ref q_26), (0, .ref h), (1, .int p0), (2, .int p1), (3, .int p2)]) hx hb dX10_lot_69 hl (by decide) rfl (fun ls hl => ?_)
          refine lv_aload_n hx hb dX10_lot_71 rfl (lv_at hl 1 rfl) ?_
          refine va_get (D := D) (ci := 16) (v := .ref l1) (C := RX10) (T := TX10) (N := 20) hx hb hts iw_RX10_wsX10_lot hown hK hP 0 rfl rfl 0 (by decide) (hts (.fieldLink RX10 10 "CoatLine" "lots" "Ljava/util/ArrayList;") (by decide +kernel)) (fun _ h9 => h9) rfl dX10_lot_72 ?_
          refine lv_aload hx hb dX10_lot_75 (lv_at hl 0 rfl) ?_
          have hFc := va_free (wc := [(l1, .inr (5, [.int 0, .ref e, .int 0]))]) hD hS hA [1] rfl
          refine va_calli (va_runV (As := [.ref q_26]) (rest := []) ⟨hx, hb, hml, hown, hts⟩ (c_Jx4a65c_add_9ea2d l hst D e l1 0 q_26 H.size) (cwV 1 hts gX10_lot_Jx4a65c_add_9ea2d rfl rfl rfl (by decide +kernel) ⟨Nat.le_of_ble_eq_true rfl, Nat.le_of_ble_eq_true rfl⟩) ⟨cAny_blind, va_recv hK hP (ci := 5) (q0 := 1) rfl rfl, cAny_go hK hP hD hE hS hA [1] rfl rfl (by decide) [] rfl (va_rAny hK hP (q0 := 2) (ci := 11) rfl rfl (fun comp c0 => vb_asgC (ev_w hE (w := .castable "CoatLine$Lot" "java/lang/Object") (by decide +kernel)) comp c0)) (hP 2 _ rfl).lt (fun h9 => absurd (hD.1 2 1 _ _ rfl rfl h9) (by decide))⟩ rfl rfl hl.1 rfl (lv_room (Nat.le_of_ble_eq_true rfl)) dX10_lot_77 ⟨Nat.le_of_ble_eq_true rfl, Nat.le_of_ble_eq_true rfl⟩) hS (fun q _ h => hFc q h) hFc (fun r_30 u t H1 locs ht hvm hw hB hz1 hk1 hS => ?_)
          obtain ⟨q_32, hP1, hK1, hD1⟩ := hB
          rw [ht] at hP1
          have hK1 := va_K.moved hvm.symm hK1
          obtain ⟨hP, hD⟩ := va_join (wr := [(h, .inr (16, [.ref l1, .ref l2, .ref l3, .ref l4, .ref l5, .ref l6, .ref l7, .ref l8, .ref l9, .ref ch, .ref co, .int 0, .int 4, .int (-40), .int 20, .int 0, .int 0, .int 100, .int 60, .int 14])), (q_26, .inr (11, [.int 0, .int p0, .int p1, .int p2]))]) (w1 := [(l1, .inr (5, [.int (0 + 1), .ref q_32, .int 1]))]) hP hD [1] [0, 2] rfl rfl (by decide) (by decide) hk1 hFc hP1 hD1
          generalize H1 = H at hP hS ⊢
          have hP : va_P D vwCl [(h, .inr (16, [.ref l1, .ref l2, .ref l3, .ref l4, .ref l5, .ref l6, .ref l7, .ref l8, .ref l9, .ref ch, .ref co, .int 0, .int 4, .int (-40), .int 20, .int 0, .int 0, .int 100, .int 60, .int 14])), (q_26, .inr (11, [.int 0, .int p0, .int p1, .int p2])), (l1, .inr (5, [.int (0 + 1), .ref q_32, .int 1]))] H := hP
          have hD : va_D A [(h, .inr (16, [.ref l1, .ref l2, .ref l3, .ref l4, .ref l5, .ref l6, .ref l7, .ref l8, .ref l9, .ref ch, .ref co, .int 0, .int 4, .int (-40), .int 20, .int 0, .int 0, .int 100, .int 60, .int 14])), (q_26, .inr (11, [.int 0, .int p0, .int p1, .int p2])), (l1, .inr (5, [.int (0 + 1), .ref q_32, .int 1]))] := hD
          refine W.widen (k := 5) (n := 32) (Nat.le_of_ble_eq_true rfl) (Nat.le_of_ble_eq_true rfl) ?_
          have hw : r_30 = 1 := hw.trans (by first | rfl | decide +kernel)
          subst hw
          refine lv_pop hx hb dX10_lot_80 rfl ?_
          refine lv_aload hx hb dX10_lot_81 (lv_at hl 0 rfl) ?_
          refine va_get (D := D) (ci := 11) (v := .int 0) (C := RX5) (T := TX5) (N := 4) hx hb hts iw_RX5_wsX10_lot hown hK hP 1 rfl rfl 0 (by decide) (hts (.fieldLink RX10 106 "CoatLine$Lot" "number" "I") (by decide +kernel)) (fun _ h9 => h9) rfl dX10_lot_83 ?_
          refine W.widen (k := 6) (n := 40) (Nat.le_of_ble_eq_true rfl) (Nat.le_of_ble_eq_true rfl) ?_
          refine vx_ret ?_
          exact W.iret (v := 0) hx hb hr (fun t ht hW => ⟨⟨0, (), rfl, ⟨(by unfold t_X10_lot; rw [if_neg c_1, if_pos c_17, if_pos c_19, if_pos c_22]), (by unfold v_X10_lot; rw [if_neg c_1, if_pos c_17, if_pos c_19, if_pos c_22])⟩, trivial⟩, hS.F ht⟩) hS.2.2 dX10_lot_86
    · obtain ⟨sa_33, hs_34⟩ := ev_x hE (q := (81, "no such kind")) (by decide +kernel)
      exact vx_throwS hx hb hst hown (by decide +kernel) (by decide +kernel) (hts (.classLink RX10 79 "java/lang/IllegalArgumentException") (by decide +kernel)) (hts (.initialized "java/lang/IllegalArgumentException") (by decide +kernel)) hs_34 (vx_hat (fun w hw => hts w (hm_wsX10_lot_83 w hw)) hn_RX10_83 (vx_c (ev_u hE (w := .castable "java/lang/IllegalArgumentException" _) (by decide +kernel) rfl) (vx_c (ev_u hE (by decide +kernel) rfl) (vx_c (ev_u hE (by decide +kernel) rfl) (vx_c (ev_u hE (by decide +kernel) rfl) vx_n))))) ht_RX10_79_83 hE.1.1.1 hE.1.1.2 hS (hl.1.trans hml.symm) dX10_lot_12 dX10_lot_15 dX10_lot_16 dX10_lot_18 dX10_lot_21 (fun x hx => (htb x hx).elim) (Nat.le_of_ble_eq_true rfl) (Nat.le_of_ble_eq_true rfl) (Nat.le_of_ble_eq_true rfl) (Nat.le_of_ble_eq_true rfl) hlocks (fun t hal h1 h2 => ⟨(), trivial, ⟨rfl, (by unfold t_X10_lot; rw [if_neg c_1, if_neg c_17])⟩, thr_F hS h1 h2⟩) hS.2.2 (Nat.le_of_ble_eq_true rfl) (Nat.le_of_ble_eq_true rfl)
-- X7_init
set_option maxHeartbeats 4000000 in
set_option maxRecDepth 100000 in
theorem c_X7_init (l : Launch) (hst : l.stackTraces = false) (D : va_G) (e : Nat) (q : Nat) (sz : Nat) : Met l yX7_init wsX7_init ({ frames := 10, cells := 2, slots := 12, locals := 160 }) (va_Pc [.ref q] (cIn D [] [(q, .inr (13, [.null, .null, .int 0]))] e sz)) (va_Qv (fun (_ : Unit) => True) (fun (_ : Unit) (t : State) => ∃ (c1 : Nat) (c2 : Nat) (cA : ClassId) (cB : ClassId), va_P D vwCl [(q, .inr (13, [.ref c1, .ref c2, .int 0])), (c1, .inl (cA, 6, .inl (fun _ => 0))), (c2, .inl (cB, 6, .inl (fun _ => 0)))] t.heap ∧ va_K D vwCl [(cA, .int), (cB, .int)] t ∧ va_D (va_A [(q, .inr (13, [.null, .null, .int 0]))] sz) [(q, .inr (13, [.ref c1, .ref c2, .int 0])), (c1, .inl (cA, 6, .inl (fun _ => 0))), (c2, .inl (cB, 6, .inl (fun _ => 0)))]) (va_A [(q, .inr (13, [.null, .null, .int 0]))] sz)) 2 12 (va_A [(q, .inr (13, [.null, .null, .int 0]))] sz) := by
  refine Met.ofW (cc := cX7_init) (maxL := 1) (ret := none) (by decide +kernel) rfl ?_
  intro p e9 s m args below meth c s₁ B hml hv
  obtain ⟨rfl, hsz, hP, hK, hD0, hE0⟩ := hv
  have hx := B.exec
  have hb := B.bytes
  have hr := B.returns
  have hts := atoms_spec (ws := wsX7_init) B.pre
  have hown : s.vm.findClass RX7 = some m.cls := findClass_of_methodNamed B.named
  have hlocks := B.notSynchronized
  have hin : meth.name = "<init>" := (name_of_methodNamed B.named B.method).1
  subst hsz
  have hD := hD0.self (sz := s.heap.size)
  generalize hAe : va_A [(q, .inr (13, [.null, .null, .int 0]))] s.heap.size = A at hD hE0 ⊢
  have hA : ∀ q : Nat, s.heap.size ≤ q → A q := fun q h => by rw [← hAe]; exact Or.inr h
  have hS : va_S A s.heap s.heap [] := va_S.rf
  have hE := hE0
  have hP : va_P D vwCl [(q, .inr (13, [.null, .null, .int 0]))] s.heap := hP
  have hl := lv_entry ([.ref q]) (n := 1) (Nat.le_of_ble_eq_true rfl)
  rw [lg_entry_eq]
  generalize (lg_sl ([.ref q]) ++ List.replicate (1 - (lg_sl ([.ref q])).length) Slot.unset).toArray = ls at hl ⊢
  have hl : lv_has ls 1 [(0, .ref q)] := hl
  refine lv_aload_n hx hb dX7_init_0 rfl (lv_at hl 0 rfl) ?_
  refine W.objInit hx hb hown (hts (.methodLink RX7 3 objectInit) (by decide +kernel)) (hts (.instanceMethod objectInit) (by decide +kernel)) (hts (.code objectInit ⟨#[0xb1]⟩ 1 none) (by decide +kernel)) rfl (by rw [hml]; exact hl.1) rfl dX7_init_1 (Nat.le_of_ble_eq_true rfl) (Nat.le_of_ble_eq_true rfl) ?_
  refine W.eq (g2 := F0 m 4 ls []) rfl ?_
  refine lv_aload_n hx hb dX7_init_4 rfl (lv_at hl 0 rfl) ?_
  refine lv_bipush (v := 6) hx hb dX7_init_5 (by decide) ?_
  refine va_newa (D := D) (atype := .int) (ty := .int) (N' := 6) (a0 := (6, .inl (fun _ => 0))) hx hb (hts (.arrayClass .int) (by decide +kernel)) rfl hK hP hD hS hA (fun cA => rfl) (by decide) (by decide +kernel) (by decide) (Nat.le_of_ble_eq_true rfl) (Nat.le_of_ble_eq_true rfl) dX7_init_7 (fun q_1 cA_2 H hK hP hD hS => ?_)
  have hP : va_P D vwCl [(q, .inr (13, [.null, .null, .int 0])), (q_1, .inl (cA_2, 6, .inl (fun _ => 0)))] H := hP
  have hD : va_D A [(q, .inr (13, [.null, .null, .int 0])), (q_1, .inl (cA_2, 6, .inl (fun _ => 0)))] := hD
  have hK : va_K D vwCl [(cA_2, .int)] s := hK
  refine W.widen (k := 1) (n := 6) (Nat.le_of_ble_eq_true rfl) (Nat.le_of_ble_eq_true rfl) ?_
  refine va_putF (D := D) (ci := 13) (v := .ref q_1) (ty := .array .int) (C := RX7) (T := TX7) (N := 3) hx hb hts iw_RX7_wsX7_init tyX7 tyX7_ok nmX7 hown hK hP hD hS 0 rfl rfl 0 (by decide) (hts (.fieldLink RX7 9 "CoatLine$Protocol" "currents" "[I") (by decide +kernel)) (fun _ h9 => h9) rfl hin rfl (by decide +kernel) rfl rfl (Nat.le_of_ble_eq_true rfl) dX7_init_9 (fun H locs hP hD hS => ?_)
  have hP : va_P D vwCl [(q, .inr (13, [.ref q_1, .null, .int 0])), (q_1, .inl (cA_2, 6, .inl (fun _ => 0)))] H := hP
  have hD : va_D A [(q, .inr (13, [.ref q_1, .null, .int 0])), (q_1, .inl (cA_2, 6, .inl (fun _ => 0)))] := hD
  refine lv_aload_n hx hb dX7_init_12 rfl (lv_at hl 0 rfl) ?_
  refine lv_bipush (v := 6) hx hb dX7_init_13 (by decide) ?_
  refine va_newa (D := D) (atype := .int) (ty := .int) (N' := 6) (a0 := (6, .inl (fun _ => 0))) hx hb (hts (.arrayClass .int) (by decide +kernel)) rfl hK hP hD hS hA (fun cA => rfl) (by decide) (by decide +kernel) (by decide) (Nat.le_of_ble_eq_true rfl) (Nat.le_of_ble_eq_true rfl) dX7_init_15 (fun q_3 cA_4 H hK hP hD hS => ?_)
  have hP : va_P D vwCl [(q, .inr (13, [.ref q_1, .null, .int 0])), (q_1, .inl (cA_2, 6, .inl (fun _ => 0))), (q_3, .inl (cA_4, 6, .inl (fun _ => 0)))] H := hP
  have hD : va_D A [(q, .inr (13, [.ref q_1, .null, .int 0])), (q_1, .inl (cA_2, 6, .inl (fun _ => 0))), (q_3, .inl (cA_4, 6, .inl (fun _ => 0)))] := hD
  have hK : va_K D vwCl [(cA_2, .int), (cA_4, .int)] s := hK
  refine W.widen (k := 2) (n := 12) (Nat.le_of_ble_eq_true rfl) (Nat.le_of_ble_eq_true rfl) ?_
  refine va_putF (D := D) (ci := 13) (v := .ref q_3) (ty := .array .int) (C := RX7) (T := TX7) (N := 3) hx hb hts iw_RX7_wsX7_init tyX7 tyX7_ok nmX7 hown hK hP hD hS 0 rfl rfl 1 (by decide) (hts (.fieldLink RX7 15 "CoatLine$Protocol" "hours" "[I") (by decide +kernel)) (fun _ h9 => h9) rfl hin rfl (by decide +kernel) rfl rfl (Nat.le_of_ble_eq_true rfl) dX7_init_17 (fun H locs hP hD hS => ?_)
  have hP : va_P D vwCl [(q, .inr (13, [.ref q_1, .ref q_3, .int 0])), (q_1, .inl (cA_2, 6, .inl (fun _ => 0))), (q_3, .inl (cA_4, 6, .inl (fun _ => 0)))] H := hP
  have hD : va_D A [(q, .inr (13, [.ref q_1, .ref q_3, .int 0])), (q_1, .inl (cA_2, 6, .inl (fun _ => 0))), (q_3, .inl (cA_4, 6, .inl (fun _ => 0)))] := hD
  refine lv_aload_n hx hb dX7_init_20 rfl (lv_at hl 0 rfl) ?_
  refine lv_iconst (v := 0) hx hb dX7_init_21 (by decide) ?_
  refine va_put (D := D) (ci := 13) (v := .int 0) (ty := .int) (C := RX7) (T := TX7) (N := 3) hx hb hts iw_RX7_wsX7_init tyX7 tyX7_ok nmX7 hown hK hP hD hS 0 rfl rfl 2 (by decide) (hts (.fieldLink RX7 18 "CoatLine$Protocol" "steps" "I") (by decide +kernel)) (fun _ h9 => h9) rfl (by decide +kernel) rfl rfl (Nat.le_of_ble_eq_true rfl) dX7_init_22 (fun H locs hP hD hS => ?_)
  have hP : va_P D vwCl [(q, .inr (13, [.ref q_1, .ref q_3, .int 0])), (q_1, .inl (cA_2, 6, .inl (fun _ => 0))), (q_3, .inl (cA_4, 6, .inl (fun _ => 0)))] H := hP
  have hD : va_D A [(q, .inr (13, [.ref q_1, .ref q_3, .int 0])), (q_1, .inl (cA_2, 6, .inl (fun _ => 0))), (q_3, .inl (cA_4, 6, .inl (fun _ => 0)))] := hD
  exact W.vret hx hb hr (fun t ht hW => ⟨⟨(), rfl, trivial, ⟨q_1, q_3, cA_2, cA_4, by rw [ht]; exact hP.sub [0, 1, 2] rfl, va_K.moved hW.alike (hK.sub [0, 1] rfl), hD.sub [0, 1, 2] (by decide) rfl⟩⟩, hS.F ht⟩) hS.2.2 dX7_init_25
-- X7_addStep
set_option maxHeartbeats 4000000 in
set_option maxRecDepth 100000 in
theorem c_X7_addStep (l : Launch) (hst : l.stackTraces = false) (D : va_G) (e : Nat) (q : Nat) (c1 : Nat) (c2 : Nat) (cA : ClassId) (cB : ClassId) (p0 : Int32) (p1 : Int32) (sz : Nat) : Met l yX7_addStep wsX7_addStep ({ frames := 10, cells := 0, slots := 0, locals := 160 }) (va_Pc [.ref q, .int p0, .int p1] (cIn D [(cA, .int), (cB, .int)] [(q, .inr (13, [.ref c1, .ref c2, .int 0])), (c1, .inl (cA, 6, .inl (fun _ => 0))), (c2, .inl (cB, 6, .inl (fun _ => 0)))] e sz)) (va_Qv (fun (_ : Unit) => True) (fun (_ : Unit) (t : State) => va_P D vwCl [(q, .inr (13, [.ref c1, .ref c2, .int 1]))] t.heap ∧ va_K D vwCl [] t ∧ va_D (va_A [(q, .inr (13, [.ref c1, .ref c2, .int 0])), (c1, .inl (cA, 6, .inl (fun _ => 0))), (c2, .inl (cB, 6, .inl (fun _ => 0)))] sz) [(q, .inr (13, [.ref c1, .ref c2, .int 1]))]) (va_A [(q, .inr (13, [.ref c1, .ref c2, .int 0])), (c1, .inl (cA, 6, .inl (fun _ => 0))), (c2, .inl (cB, 6, .inl (fun _ => 0)))] sz)) 0 0 (va_A [(q, .inr (13, [.ref c1, .ref c2, .int 0])), (c1, .inl (cA, 6, .inl (fun _ => 0))), (c2, .inl (cB, 6, .inl (fun _ => 0)))] sz) := by
  refine Met.ofW (cc := cX7_addStep) (maxL := 3) (ret := none) (by decide +kernel) rfl ?_
  intro p e9 s m args below meth c s₁ B hml hv
  obtain ⟨rfl, hsz, hP, hK, hD0, hE0⟩ := hv
  have hx := B.exec
  have hb := B.bytes
  have hr := B.returns
  have hts := atoms_spec (ws := wsX7_addStep) B.pre
  have hown : s.vm.findClass RX7 = some m.cls := findClass_of_methodNamed B.named
  have hlocks := B.notSynchronized
  subst hsz
  have hD := hD0.self (sz := s.heap.size)
  generalize hAe : va_A [(q, .inr (13, [.ref c1, .ref c2, .int 0])), (c1, .inl (cA, 6, .inl (fun _ => 0))), (c2, .inl (cB, 6, .inl (fun _ => 0)))] s.heap.size = A at hD hE0 ⊢
  have hA : ∀ q : Nat, s.heap.size ≤ q → A q := fun q h => by rw [← hAe]; exact Or.inr h
  have hS : va_S A s.heap s.heap [] := va_S.rf
  have hE := hE0
  have hP : va_P D vwCl [(q, .inr (13, [.ref c1, .ref c2, .int 0])), (c1, .inl (cA, 6, .inl (fun _ => 0))), (c2, .inl (cB, 6, .inl (fun _ => 0)))] s.heap := hP
  have hl := lv_entry ([.ref q, .int p0, .int p1]) (n := 3) (Nat.le_of_ble_eq_true rfl)
  rw [lg_entry_eq]
  generalize (lg_sl ([.ref q, .int p0, .int p1]) ++ List.replicate (3 - (lg_sl ([.ref q, .int p0, .int p1])).length) Slot.unset).toArray = ls at hl ⊢
  have hl : lv_has ls 3 [(0, .ref q), (1, .int p0), (2, .int p1)] := hl
  refine lv_aload_n hx hb dX7_addStep_0 rfl (lv_at hl 0 rfl) ?_
  refine va_get (D := D) (ci := 13) (v := .int 0) (C := RX7) (T := TX7) (N := 3) hx hb hts iw_RX7_wsX7_addStep hown hK hP 0 rfl rfl 2 (by decide) (hts (.fieldLink RX7 18 "CoatLine$Protocol" "steps" "I") (by decide +kernel)) (fun _ h9 => h9) rfl dX7_addStep_1 ?_
  refine lv_if_lt (tgt := 46) hx hb dX7_addStep_4 (by decide) (fun c_1 => absurd c_1 (show ¬ ((0 : Int32) < 0) from by decide +kernel)) (fun c_1 => ?_)
  refine lv_aload_n hx hb dX7_addStep_7 rfl (lv_at hl 0 rfl) ?_
  refine va_get (D := D) (ci := 13) (v := .int 0) (C := RX7) (T := TX7) (N := 3) hx hb hts iw_RX7_wsX7_addStep hown hK hP 0 rfl rfl 2 (by decide) (hts (.fieldLink RX7 18 "CoatLine$Protocol" "steps" "I") (by decide +kernel)) (fun _ h9 => h9) rfl dX7_addStep_8 ?_
  refine lv_bipush (v := 6) hx hb dX7_addStep_11 (by decide) ?_
  refine lv_icmp_ge (tgt := 46) hx hb dX7_addStep_13 (by decide) (fun c_2 => absurd c_2 (show ¬ ((6 : Int32) ≤ 0) from by decide +kernel)) (fun c_2 => ?_)
  refine lv_aload_n hx hb dX7_addStep_16 rfl (lv_at hl 0 rfl) ?_
  refine va_get (D := D) (ci := 13) (v := .ref c1) (C := RX7) (T := TX7) (N := 3) hx hb hts iw_RX7_wsX7_addStep hown hK hP 0 rfl rfl 0 (by decide) (hts (.fieldLink RX7 9 "CoatLine$Protocol" "currents" "[I") (by decide +kernel)) (fun _ h9 => h9) rfl dX7_addStep_17 ?_
  refine lv_aload_n hx hb dX7_addStep_20 rfl (lv_at hl 0 rfl) ?_
  refine va_get (D := D) (ci := 13) (v := .int 0) (C := RX7) (T := TX7) (N := 3) hx hb hts iw_RX7_wsX7_addStep hown hK hP 0 rfl rfl 2 (by decide) (hts (.fieldLink RX7 18 "CoatLine$Protocol" "steps" "I") (by decide +kernel)) (fun _ h9 => h9) rfl dX7_addStep_21 ?_
  refine lv_iload_n hx hb dX7_addStep_24 rfl (lv_at hl 1 rfl) ?_
  refine va_iast hx hb hK hP hD hS 1 0 rfl rfl (i := 0) (show ¬ ((0 : Int32) < 0 ∨ 6 ≤ (0 : Int32).toNatClampNeg) from by decide +kernel) dX7_addStep_25 (fun H locs hP hD hS => ?_)
  have hP : va_P D vwCl [(q, .inr (13, [.ref c1, .ref c2, .int 0])), (c1, .inl (cA, 6, .inl (upd (fun _ => 0) (0 : Int32).toNatClampNeg p0))), (c2, .inl (cB, 6, .inl (fun _ => 0)))] H := hP
  have hD : va_D A [(q, .inr (13, [.ref c1, .ref c2, .int 0])), (c1, .inl (cA, 6, .inl (upd (fun _ => 0) (0 : Int32).toNatClampNeg p0))), (c2, .inl (cB, 6, .inl (fun _ => 0)))] := hD
  refine lv_aload_n hx hb dX7_addStep_26 rfl (lv_at hl 0 rfl) ?_
  refine va_get (D := D) (ci := 13) (v := .ref c2) (C := RX7) (T := TX7) (N := 3) hx hb hts iw_RX7_wsX7_addStep hown hK hP 0 rfl rfl 1 (by decide) (hts (.fieldLink RX7 15 "CoatLine$Protocol" "hours" "[I") (by decide +kernel)) (fun _ h9 => h9) rfl dX7_addStep_27 ?_
  refine lv_aload_n hx hb dX7_addStep_30 rfl (lv_at hl 0 rfl) ?_
  refine va_get (D := D) (ci := 13) (v := .int 0) (C := RX7) (T := TX7) (N := 3) hx hb hts iw_RX7_wsX7_addStep hown hK hP 0 rfl rfl 2 (by decide) (hts (.fieldLink RX7 18 "CoatLine$Protocol" "steps" "I") (by decide +kernel)) (fun _ h9 => h9) rfl dX7_addStep_31 ?_
  refine lv_iload_n hx hb dX7_addStep_34 rfl (lv_at hl 2 rfl) ?_
  refine va_iast hx hb hK hP hD hS 2 1 rfl rfl (i := 0) (show ¬ ((0 : Int32) < 0 ∨ 6 ≤ (0 : Int32).toNatClampNeg) from by decide +kernel) dX7_addStep_35 (fun H locs hP hD hS => ?_)
  have hP : va_P D vwCl [(q, .inr (13, [.ref c1, .ref c2, .int 0])), (c1, .inl (cA, 6, .inl (upd (fun _ => 0) (0 : Int32).toNatClampNeg p0))), (c2, .inl (cB, 6, .inl (upd (fun _ => 0) (0 : Int32).toNatClampNeg p1)))] H := hP
  have hD : va_D A [(q, .inr (13, [.ref c1, .ref c2, .int 0])), (c1, .inl (cA, 6, .inl (upd (fun _ => 0) (0 : Int32).toNatClampNeg p0))), (c2, .inl (cB, 6, .inl (upd (fun _ => 0) (0 : Int32).toNatClampNeg p1)))] := hD
  refine lv_aload_n hx hb dX7_addStep_36 rfl (lv_at hl 0 rfl) ?_
  refine lv_dup hx hb dX7_addStep_37 rfl ?_
  refine va_get (D := D) (ci := 13) (v := .int 0) (C := RX7) (T := TX7) (N := 3) hx hb hts iw_RX7_wsX7_addStep hown hK hP 0 rfl rfl 2 (by decide) (hts (.fieldLink RX7 18 "CoatLine$Protocol" "steps" "I") (by decide +kernel)) (fun _ h9 => h9) rfl dX7_addStep_38 ?_
  refine lv_iconst (v := 1) hx hb dX7_addStep_41 (by decide) ?_
  refine lv_iadd hx hb dX7_addStep_42 ?_
  refine lv_topi (fun z_3 ez_3 => ?_)
  obtain rfl : z_3 = 1 := ez_3.trans (by decide +kernel)
  refine va_put (D := D) (ci := 13) (v := .int 1) (ty := .int) (C := RX7) (T := TX7) (N := 3) hx hb hts iw_RX7_wsX7_addStep tyX7 tyX7_ok nmX7 hown hK hP hD hS 0 rfl rfl 2 (by decide) (hts (.fieldLink RX7 18 "CoatLine$Protocol" "steps" "I") (by decide +kernel)) (fun _ h9 => h9) rfl (by decide +kernel) rfl rfl (Nat.le_of_ble_eq_true rfl) dX7_addStep_43 (fun H locs hP hD hS => ?_)
  have hP : va_P D vwCl [(q, .inr (13, [.ref c1, .ref c2, .int 1])), (c1, .inl (cA, 6, .inl (upd (fun _ => 0) (0 : Int32).toNatClampNeg p0))), (c2, .inl (cB, 6, .inl (upd (fun _ => 0) (0 : Int32).toNatClampNeg p1)))] H := hP
  have hD : va_D A [(q, .inr (13, [.ref c1, .ref c2, .int 1])), (c1, .inl (cA, 6, .inl (upd (fun _ => 0) (0 : Int32).toNatClampNeg p0))), (c2, .inl (cB, 6, .inl (upd (fun _ => 0) (0 : Int32).toNatClampNeg p1)))] := hD
  exact W.vret hx hb hr (fun t ht hW => ⟨⟨(), rfl, trivial, ⟨by rw [ht]; exact hP.sub [0] rfl, va_K.moved hW.alike (hK.sub [] rfl), hD.sub [0] (by decide) rfl⟩⟩, hS.F ht⟩) hS.2.2 dX7_addStep_46
-- X10_protocol
def t_X10_protocol (p0 : Int32) (p1 : Int32) : Int32 := if t_X10_requireStep p0 p1 = 0 then 0 else 1
def v_X10_protocol (p0 : Int32) (p1 : Int32) : Int32 := if t_X10_requireStep p0 p1 = 0 then 0 else 0
set_option maxHeartbeats 4000000 in
set_option maxRecDepth 100000 in
theorem c_X10_protocol (l : Launch) (hst : l.stackTraces = false) (D : va_G) (e : Nat) (h : Nat) (l1 : Nat) (l2 : Nat) (l3 : Nat) (l4 : Nat) (l5 : Nat) (l6 : Nat) (l7 : Nat) (l8 : Nat) (l9 : Nat) (ch : Nat) (co : Nat) (p0 : Int32) (p1 : Int32) (sz : Nat) : vx_Met l yX10_protocol wsX10_protocol ({ frames := 20, cells := 9, slots := 60, locals := 460 }) (va_Pc [.ref h, .int p0, .int p1] (cIn D [] [(h, .inr (16, [.ref l1, .ref l2, .ref l3, .ref l4, .ref l5, .ref l6, .ref l7, .ref l8, .ref l9, .ref ch, .ref co, .int 0, .int 4, .int (-40), .int 20, .int 0, .int 0, .int 100, .int 60, .int 14])), (l5, .inr (5, [.int 0, .ref e, .int 0]))] e sz)) (va_Qi (fun (r : Int32) (_ : Unit) => t_X10_protocol p0 p1 = 0 ∧ r = v_X10_protocol p0 p1) (fun (_ : Unit) (_ : State) => True) (va_A [(h, .inr (16, [.ref l1, .ref l2, .ref l3, .ref l4, .ref l5, .ref l6, .ref l7, .ref l8, .ref l9, .ref ch, .ref co, .int 0, .int 4, .int (-40), .int 20, .int 0, .int 0, .int 100, .int 60, .int 14])), (l5, .inr (5, [.int 0, .ref e, .int 0]))] sz)) (vx_X (fun _ : Unit => True) (fun (E : String) (_ : Unit) (_ : State) => (E = "java/lang/IllegalArgumentException" ∧ t_X10_protocol p0 p1 = 1)) (va_A [(h, .inr (16, [.ref l1, .ref l2, .ref l3, .ref l4, .ref l5, .ref l6, .ref l7, .ref l8, .ref l9, .ref ch, .ref co, .int 0, .int 4, .int (-40), .int 20, .int 0, .int 0, .int 100, .int 60, .int 14])), (l5, .inr (5, [.int 0, .ref e, .int 0]))] sz)) 9 60 (va_A [(h, .inr (16, [.ref l1, .ref l2, .ref l3, .ref l4, .ref l5, .ref l6, .ref l7, .ref l8, .ref l9, .ref ch, .ref co, .int 0, .int 4, .int (-40), .int 20, .int 0, .int 0, .int 100, .int 60, .int 14])), (l5, .inr (5, [.int 0, .ref e, .int 0]))] sz) := by
  refine vx_ofW (cc := cX10_protocol) (maxL := 4) (ret := (some .int)) (by decide +kernel) rfl ?_
  intro p e9 s m args below meth c s₁ B hml htb hv
  obtain ⟨rfl, hsz, hP, hK, hD0, hE0⟩ := hv
  have hx := B.exec
  have hb := B.bytes
  have hr := B.returns
  have hts := atoms_spec (ws := wsX10_protocol) B.pre
  have hown : s.vm.findClass RX10 = some m.cls := findClass_of_methodNamed B.named
  have hlocks := B.notSynchronized
  subst hsz
  have hD := hD0.self (sz := s.heap.size)
  generalize hAe : va_A [(h, .inr (16, [.ref l1, .ref l2, .ref l3, .ref l4, .ref l5, .ref l6, .ref l7, .ref l8, .ref l9, .ref ch, .ref co, .int 0, .int 4, .int (-40), .int 20, .int 0, .int 0, .int 100, .int 60, .int 14])), (l5, .inr (5, [.int 0, .ref e, .int 0]))] s.heap.size = A at hD hE0 ⊢
  have hA : ∀ q : Nat, s.heap.size ≤ q → A q := fun q h => by rw [← hAe]; exact Or.inr h
  have hS : va_S A s.heap s.heap [] := va_S.rf
  have hE := hE0
  have hP : va_P D vwCl [(h, .inr (16, [.ref l1, .ref l2, .ref l3, .ref l4, .ref l5, .ref l6, .ref l7, .ref l8, .ref l9, .ref ch, .ref co, .int 0, .int 4, .int (-40), .int 20, .int 0, .int 0, .int 100, .int 60, .int 14])), (l5, .inr (5, [.int 0, .ref e, .int 0]))] s.heap := hP
  have hl := lv_entry ([.ref h, .int p0, .int p1]) (n := 4) (Nat.le_of_ble_eq_true rfl)
  rw [lg_entry_eq]
  generalize (lg_sl ([.ref h, .int p0, .int p1]) ++ List.replicate (4 - (lg_sl ([.ref h, .int p0, .int p1])).length) Slot.unset).toArray = ls at hl ⊢
  have hl : lv_has ls 4 [(0, .ref h), (1, .int p0), (2, .int p1)] := hl
  refine lv_iload_n hx hb dX10_protocol_0 rfl (lv_at hl 1 rfl) ?_
  refine lv_iload_n hx hb dX10_protocol_1 rfl (lv_at hl 2 rfl) ?_
  have hFc := va_free (wc := []) hD hS hA [] rfl
  refine vx_callv (vx_runS (As := [.int p0, .int p1]) (rest := []) ⟨hx, hb, hml, hown, hts⟩ (c_X10_requireStep l hst D e p0 p1 s.heap.size) (va_cwS 2 hts gX10_protocol_X10_requireStep rfl rfl rfl (by decide +kernel) ⟨Nat.le_of_ble_eq_true rfl, Nat.le_of_ble_eq_true rfl⟩) ⟨cIn_blind, cIn_go hK hP hD hE hS hA [] rfl rfl (by decide) [] rfl⟩ rfl rfl hl.1 rfl (lv_room (Nat.le_of_ble_eq_true rfl)) dX10_protocol_2 ⟨Nat.le_of_ble_eq_true rfl, Nat.le_of_ble_eq_true rfl⟩) hS (fun q _ h => hFc q h) hFc (fun q _ h => hFc q h) (fun E ce q9 u t H1 locs ht hvm hpx hB hz1 hk1 hS hce hcv hcl => ?_) (fun u t H1 locs ht hvm hw hB hz1 hk1 hS => ?_)
  · obtain ⟨rfl, hw⟩ := hB
    have c_3 : ¬ t_X10_requireStep p0 p1 = 0 := by rw [hw]; decide
    exact vx_out (fun x hx => (htb x hx).elim) hlocks hce hcv hcl (fun t9 h9 hal => ⟨(), trivial, ⟨rfl, (by unfold t_X10_protocol; rw [if_neg c_3])⟩, hS.F h9⟩) hS.2.2 (Nat.le_of_ble_eq_true rfl) (Nat.le_of_ble_eq_true rfl)
  · have c_2 : t_X10_requireStep p0 p1 = 0 := hw.1
    obtain ⟨hP, hD⟩ := cIn_rest (wc := []) (wr := [(h, .inr (16, [.ref l1, .ref l2, .ref l3, .ref l4, .ref l5, .ref l6, .ref l7, .ref l8, .ref l9, .ref ch, .ref co, .int 0, .int 4, .int (-40), .int 20, .int 0, .int 0, .int 100, .int 60, .int 14])), (l5, .inr (5, [.int 0, .ref e, .int 0]))]) hP hD [] [0, 1] rfl rfl (by decide) (by decide) hk1 hFc
    generalize H1 = H at hP hS ⊢
    have hP : va_P D vwCl [(h, .inr (16, [.ref l1, .ref l2, .ref l3, .ref l4, .ref l5, .ref l6, .ref l7, .ref l8, .ref l9, .ref ch, .ref co, .int 0, .int 4, .int (-40), .int 20, .int 0, .int 0, .int 100, .int 60, .int 14])), (l5, .inr (5, [.int 0, .ref e, .int 0]))] H := hP
    have hD : va_D A [(h, .inr (16, [.ref l1, .ref l2, .ref l3, .ref l4, .ref l5, .ref l6, .ref l7, .ref l8, .ref l9, .ref ch, .ref co, .int 0, .int 4, .int (-40), .int 20, .int 0, .int 0, .int 100, .int 60, .int 14])), (l5, .inr (5, [.int 0, .ref e, .int 0]))] := hD
    refine W.widen (k := 2) (n := 12) (Nat.le_of_ble_eq_true rfl) (Nat.le_of_ble_eq_true rfl) ?_
    refine lv_aload_n hx hb dX10_protocol_5 rfl (lv_at hl 0 rfl) ?_
    refine va_get (D := D) (ci := 16) (v := .ref l5) (C := RX10) (T := TX10) (N := 20) hx hb hts iw_RX10_wsX10_protocol hown hK hP 0 rfl rfl 4 (by decide) (hts (.fieldLink RX10 25 "CoatLine" "protocols" "Ljava/util/ArrayList;") (by decide +kernel)) (fun _ h9 => h9) rfl dX10_protocol_6 ?_
    refine vp_callSi (va_Run.run (va_runV (As := []) (rest := []) ⟨hx, hb, hml, hown, hts⟩ (c_Jx4a65c_size_8abf5 l hst D e l5 0 e 0 H.size) (cwV 0 hts gX10_protocol_Jx4a65c_size_8abf5 rfl rfl rfl (by decide +kernel) ⟨Nat.le_of_ble_eq_true rfl, Nat.le_of_ble_eq_true rfl⟩) ⟨cIn_blind, va_recv hK hP (ci := 5) (q0 := 1) rfl rfl, cIn_go hK hP hD hE hS hA [1] rfl rfl (by decide) [] rfl⟩ rfl rfl hl.1 rfl (lv_room (Nat.le_of_ble_eq_true rfl)) dX10_protocol_9 ⟨Nat.le_of_ble_eq_true rfl, Nat.le_of_ble_eq_true rfl⟩)) (fun r_4 hw => ?_)
    have hw : r_4 = 0 := hw.trans (by first | rfl | decide +kernel)
    subst hw
    refine lv_iconst (v := 1) hx hb dX10_protocol_12 (by decide) ?_
    refine lv_iconst (v := 4) hx hb dX10_protocol_13 (by decide) ?_
    have hFc := va_free (wc := []) hD hS hA [] rfl
    refine vx_callv (vx_runS (As := [.int 0, .int 1, .int 4]) (rest := []) ⟨hx, hb, hml, hown, hts⟩ (c_X10_requireSpace l hst D e 0 1 4 H.size) (va_cwS 3 hts gX10_protocol_X10_requireSpace rfl rfl rfl (by decide +kernel) ⟨Nat.le_of_ble_eq_true rfl, Nat.le_of_ble_eq_true rfl⟩) ⟨cIn_blind, cIn_go hK hP hD hE hS hA [] rfl rfl (by decide) [] rfl⟩ rfl rfl hl.1 rfl (lv_room (Nat.le_of_ble_eq_true rfl)) dX10_protocol_14 ⟨Nat.le_of_ble_eq_true rfl, Nat.le_of_ble_eq_true rfl⟩) hS (fun q _ h => hFc q h) hFc (fun q _ h => hFc q h) (fun E ce q9 u t H1 locs ht hvm hpx hB hz1 hk1 hS hce hcv hcl => ?_) (fun u t H1 locs ht hvm hw hB hz1 hk1 hS => ?_)
    · exact absurd hB.2 (by decide +kernel)
    obtain ⟨hP, hD⟩ := cIn_rest (wc := []) (wr := [(h, .inr (16, [.ref l1, .ref l2, .ref l3, .ref l4, .ref l5, .ref l6, .ref l7, .ref l8, .ref l9, .ref ch, .ref co, .int 0, .int 4, .int (-40), .int 20, .int 0, .int 0, .int 100, .int 60, .int 14])), (l5, .inr (5, [.int 0, .ref e, .int 0]))]) hP hD [] [0, 1] rfl rfl (by decide) (by decide) hk1 hFc
    generalize H1 = H at hP hS ⊢
    have hP : va_P D vwCl [(h, .inr (16, [.ref l1, .ref l2, .ref l3, .ref l4, .ref l5, .ref l6, .ref l7, .ref l8, .ref l9, .ref ch, .ref co, .int 0, .int 4, .int (-40), .int 20, .int 0, .int 0, .int 100, .int 60, .int 14])), (l5, .inr (5, [.int 0, .ref e, .int 0]))] H := hP
    have hD : va_D A [(h, .inr (16, [.ref l1, .ref l2, .ref l3, .ref l4, .ref l5, .ref l6, .ref l7, .ref l8, .ref l9, .ref ch, .ref co, .int 0, .int 4, .int (-40), .int 20, .int 0, .int 0, .int 100, .int 60, .int 14])), (l5, .inr (5, [.int 0, .ref e, .int 0]))] := hD
    refine W.widen (k := 3) (n := 18) (Nat.le_of_ble_eq_true rfl) (Nat.le_of_ble_eq_true rfl) ?_
    refine va_new (D := D) (ci := 13) (fs := [.null, .null, .int 0]) (C := RX7) (T := TX7) (N := 3) hx hb hts iw_RX7_wsX10_protocol tyX7 tyX7_ok hown (hts (.classLink RX10 314 RX7) (by decide +kernel)) (hts (.instantiable RX7 3) (by decide +kernel)) (hts (.initialized RX7) (by decide +kernel)) hK hP hD hS hA rfl (fun j hj => by rcases (show j = 0 ∨ j = 1 ∨ j = 2 by omega) with rfl | rfl | rfl <;> rfl) (Nat.le_of_ble_eq_true rfl) (Nat.le_of_ble_eq_true rfl) dX10_protocol_17 (fun q_6 H hP hD hS => ?_)
    have hP : va_P D vwCl [(h, .inr (16, [.ref l1, .ref l2, .ref l3, .ref l4, .ref l5, .ref l6, .ref l7, .ref l8, .ref l9, .ref ch, .ref co, .int 0, .int 4, .int (-40), .int 20, .int 0, .int 0, .int 100, .int 60, .int 14])), (l5, .inr (5, [.int 0, .ref e, .int 0])), (q_6, .inr (13, [.null, .null, .int 0]))] H := hP
    have hD : va_D A [(h, .inr (16, [.ref l1, .ref l2, .ref l3, .ref l4, .ref l5, .ref l6, .ref l7, .ref l8, .ref l9, .ref ch, .ref co, .int 0, .int 4, .int (-40), .int 20, .int 0, .int 0, .int 100, .int 60, .int 14])), (l5, .inr (5, [.int 0, .ref e, .int 0])), (q_6, .inr (13, [.null, .null, .int 0]))] := hD
    refine W.widen (k := 4) (n := 21) (Nat.le_of_ble_eq_true rfl) (Nat.le_of_ble_eq_true rfl) ?_
    refine lv_dup hx hb dX10_protocol_20 rfl ?_
    have hFc := va_free (wc := [(q_6, .inr (13, [.null, .null, .int 0]))]) hD hS hA [2] rfl
    refine va_callv (va_runIN (As := []) (rest := [.ref q_6]) (host := "CoatLine") ⟨hx, hb, hml, hown, hts⟩ (c_X7_init l hst D e q_6 H.size) ⟨va_cnB 0 hts gX10_protocol_X7_init_n316 rfl rfl rfl (ev_w hE (by decide +kernel)) (hts (.initialized RX7) (by decide +kernel)) (by decide +kernel) ⟨Nat.le_of_ble_eq_true rfl, Nat.le_of_ble_eq_true rfl⟩, rfl, hts (.instanceMethod yX7_init) (by decide +kernel)⟩ ⟨cIn_blind, cIn_go hK hP hD hE hS hA [2] rfl rfl (by decide) [] rfl⟩ rfl rfl hl.1 rfl (lv_room (Nat.le_of_ble_eq_true rfl)) dX10_protocol_21 ⟨Nat.le_of_ble_eq_true rfl, Nat.le_of_ble_eq_true rfl⟩) hS (fun q _ h => hFc q h) hFc (fun u t H1 locs ht hvm hw hB hz1 hk1 hS => ?_)
    obtain ⟨q_9, q_10, q_11, q_12, hP1, hK1, hD1⟩ := hB
    rw [ht] at hP1
    have hK1 := va_K.moved hvm.symm hK1
    obtain ⟨hP, hD⟩ := va_join (wr := [(h, .inr (16, [.ref l1, .ref l2, .ref l3, .ref l4, .ref l5, .ref l6, .ref l7, .ref l8, .ref l9, .ref ch, .ref co, .int 0, .int 4, .int (-40), .int 20, .int 0, .int 0, .int 100, .int 60, .int 14])), (l5, .inr (5, [.int 0, .ref e, .int 0]))]) (w1 := [(q_6, .inr (13, [.ref q_9, .ref q_10, .int 0])), (q_9, .inl (q_11, 6, .inl (fun _ => 0))), (q_10, .inl (q_12, 6, .inl (fun _ => 0)))]) hP hD [2] [0, 1] rfl rfl (by decide) (by decide) hk1 hFc hP1 hD1
    have hK : va_K D vwCl [(q_11, .int), (q_12, .int)] s := hK.app hK1
    generalize H1 = H at hP hS ⊢
    have hP : va_P D vwCl [(h, .inr (16, [.ref l1, .ref l2, .ref l3, .ref l4, .ref l5, .ref l6, .ref l7, .ref l8, .ref l9, .ref ch, .ref co, .int 0, .int 4, .int (-40), .int 20, .int 0, .int 0, .int 100, .int 60, .int 14])), (l5, .inr (5, [.int 0, .ref e, .int 0])), (q_6, .inr (13, [.ref q_9, .ref q_10, .int 0])), (q_9, .inl (q_11, 6, .inl (fun _ => 0))), (q_10, .inl (q_12, 6, .inl (fun _ => 0)))] H := hP
    have hD : va_D A [(h, .inr (16, [.ref l1, .ref l2, .ref l3, .ref l4, .ref l5, .ref l6, .ref l7, .ref l8, .ref l9, .ref ch, .ref co, .int 0, .int 4, .int (-40), .int 20, .int 0, .int 0, .int 100, .int 60, .int 14])), (l5, .inr (5, [.int 0, .ref e, .int 0])), (q_6, .inr (13, [.ref q_9, .ref q_10, .int 0])), (q_9, .inl (q_11, 6, .inl (fun _ => 0))), (q_10, .inl (q_12, 6, .inl (fun _ => 0)))] := hD
    refine W.widen (k := 6) (n := 33) (Nat.le_of_ble_eq_true rfl) (Nat.le_of_ble_eq_true rfl) ?_
    refine lv_astore_n (lv' := [(3, .ref q_6), (0, .ref h), (1, .int p0), (2, .int p1)]) hx hb dX10_protocol_24 rfl hl (by decide) rfl (fun ls hl => ?_)
    refine lv_aload_n hx hb dX10_protocol_25 rfl (lv_at hl 0 rfl) ?_
    refine lv_iload_n hx hb dX10_protocol_26 rfl (lv_at hl 2 rfl) ?_
    refine lv_iload_n hx hb dX10_protocol_27 rfl (lv_at hl 3 rfl) ?_
    have hFc := va_free (wc := [(q_6, .inr (13, [.ref q_9, .ref q_10, .int 0])), (q_9, .inl (q_11, 6, .inl (fun _ => 0))), (q_10, .inl (q_12, 6, .inl (fun _ => 0)))]) hD hS hA [2, 3, 4] rfl
    refine va_callv (va_runV (As := [.int p0, .int p1]) (rest := []) ⟨hx, hb, hml, hown, hts⟩ (c_X7_addStep l hst D e q_6 q_9 q_10 q_11 q_12 p0 p1 H.size) (cwV 2 hts gX10_protocol_X7_addStep rfl rfl rfl (by decide +kernel) ⟨Nat.le_of_ble_eq_true rfl, Nat.le_of_ble_eq_true rfl⟩) ⟨cIn_blind, va_recv hK hP (ci := 13) (q0 := 2) rfl rfl, cIn_go hK hP hD hE hS hA [2, 3, 4] rfl rfl (by decide) [0, 1] rfl⟩ rfl rfl hl.1 rfl (lv_room (Nat.le_of_ble_eq_true rfl)) dX10_protocol_28 ⟨Nat.le_of_ble_eq_true rfl, Nat.le_of_ble_eq_true rfl⟩) hS (fun q _ h => hFc q h) hFc (fun u t H1 locs ht hvm hw hB hz1 hk1 hS => ?_)
    obtain ⟨hP1, hK1, hD1⟩ := hB
    rw [ht] at hP1
    have hK1 := va_K.moved hvm.symm hK1
    obtain ⟨hP, hD⟩ := va_join (wr := [(h, .inr (16, [.ref l1, .ref l2, .ref l3, .ref l4, .ref l5, .ref l6, .ref l7, .ref l8, .ref l9, .ref ch, .ref co, .int 0, .int 4, .int (-40), .int 20, .int 0, .int 0, .int 100, .int 60, .int 14])), (l5, .inr (5, [.int 0, .ref e, .int 0]))]) (w1 := [(q_6, .inr (13, [.ref q_9, .ref q_10, .int 1]))]) hP hD [2, 3, 4] [0, 1] rfl rfl (by decide) (by decide) hk1 hFc hP1 hD1
    generalize H1 = H at hP hS ⊢
    have hP : va_P D vwCl [(h, .inr (16, [.ref l1, .ref l2, .ref l3, .ref l4, .ref l5, .ref l6, .ref l7, .ref l8, .ref l9, .ref ch, .ref co, .int 0, .int 4, .int (-40), .int 20, .int 0, .int 0, .int 100, .int 60, .int 14])), (l5, .inr (5, [.int 0, .ref e, .int 0])), (q_6, .inr (13, [.ref q_9, .ref q_10, .int 1]))] H := hP
    have hD : va_D A [(h, .inr (16, [.ref l1, .ref l2, .ref l3, .ref l4, .ref l5, .ref l6, .ref l7, .ref l8, .ref l9, .ref ch, .ref co, .int 0, .int 4, .int (-40), .int 20, .int 0, .int 0, .int 100, .int 60, .int 14])), (l5, .inr (5, [.int 0, .ref e, .int 0])), (q_6, .inr (13, [.ref q_9, .ref q_10, .int 1]))] := hD
    refine lv_aload_n hx hb dX10_protocol_31 rfl (lv_at hl 1 rfl) ?_
    refine va_get (D := D) (ci := 16) (v := .ref l5) (C := RX10) (T := TX10) (N := 20) hx hb hts iw_RX10_wsX10_protocol hown hK hP 0 rfl rfl 4 (by decide) (hts (.fieldLink RX10 25 "CoatLine" "protocols" "Ljava/util/ArrayList;") (by decide +kernel)) (fun _ h9 => h9) rfl dX10_protocol_32 ?_
    refine lv_aload_n hx hb dX10_protocol_35 rfl (lv_at hl 0 rfl) ?_
    have hFc := va_free (wc := [(l5, .inr (5, [.int 0, .ref e, .int 0]))]) hD hS hA [1] rfl
    refine va_calli (va_runV (As := [.ref q_6]) (rest := []) ⟨hx, hb, hml, hown, hts⟩ (c_Jx4a65c_add_9ea2d l hst D e l5 0 q_6 H.size) (cwV 1 hts gX10_protocol_Jx4a65c_add_9ea2d rfl rfl rfl (by decide +kernel) ⟨Nat.le_of_ble_eq_true rfl, Nat.le_of_ble_eq_true rfl⟩) ⟨cAny_blind, va_recv hK hP (ci := 5) (q0 := 1) rfl rfl, cAny_go hK hP hD hE hS hA [1] rfl rfl (by decide) [] rfl (va_rAny hK hP (q0 := 2) (ci := 13) rfl rfl (fun comp c0 => vb_asgC (ev_w hE (w := .castable "CoatLine$Protocol" "java/lang/Object") (by decide +kernel)) comp c0)) (hP 2 _ rfl).lt (fun h9 => absurd (hD.1 2 1 _ _ rfl rfl h9) (by decide))⟩ rfl rfl hl.1 rfl (lv_room (Nat.le_of_ble_eq_true rfl)) dX10_protocol_36 ⟨Nat.le_of_ble_eq_true rfl, Nat.le_of_ble_eq_true rfl⟩) hS (fun q _ h => hFc q h) hFc (fun r_15 u t H1 locs ht hvm hw hB hz1 hk1 hS => ?_)
    obtain ⟨q_17, hP1, hK1, hD1⟩ := hB
    rw [ht] at hP1
    have hK1 := va_K.moved hvm.symm hK1
    obtain ⟨hP, hD⟩ := va_join (wr := [(h, .inr (16, [.ref l1, .ref l2, .ref l3, .ref l4, .ref l5, .ref l6, .ref l7, .ref l8, .ref l9, .ref ch, .ref co, .int 0, .int 4, .int (-40), .int 20, .int 0, .int 0, .int 100, .int 60, .int 14])), (q_6, .inr (13, [.ref q_9, .ref q_10, .int 1]))]) (w1 := [(l5, .inr (5, [.int (0 + 1), .ref q_17, .int 1]))]) hP hD [1] [0, 2] rfl rfl (by decide) (by decide) hk1 hFc hP1 hD1
    generalize H1 = H at hP hS ⊢
    have hP : va_P D vwCl [(h, .inr (16, [.ref l1, .ref l2, .ref l3, .ref l4, .ref l5, .ref l6, .ref l7, .ref l8, .ref l9, .ref ch, .ref co, .int 0, .int 4, .int (-40), .int 20, .int 0, .int 0, .int 100, .int 60, .int 14])), (q_6, .inr (13, [.ref q_9, .ref q_10, .int 1])), (l5, .inr (5, [.int (0 + 1), .ref q_17, .int 1]))] H := hP
    have hD : va_D A [(h, .inr (16, [.ref l1, .ref l2, .ref l3, .ref l4, .ref l5, .ref l6, .ref l7, .ref l8, .ref l9, .ref ch, .ref co, .int 0, .int 4, .int (-40), .int 20, .int 0, .int 0, .int 100, .int 60, .int 14])), (q_6, .inr (13, [.ref q_9, .ref q_10, .int 1])), (l5, .inr (5, [.int (0 + 1), .ref q_17, .int 1]))] := hD
    refine W.widen (k := 7) (n := 43) (Nat.le_of_ble_eq_true rfl) (Nat.le_of_ble_eq_true rfl) ?_
    have hw : r_15 = 1 := hw.trans (by first | rfl | decide +kernel)
    subst hw
    refine lv_pop hx hb dX10_protocol_39 rfl ?_
    refine lv_aload_n hx hb dX10_protocol_40 rfl (lv_at hl 1 rfl) ?_
    refine va_get (D := D) (ci := 16) (v := .ref l5) (C := RX10) (T := TX10) (N := 20) hx hb hts iw_RX10_wsX10_protocol hown hK hP 0 rfl rfl 4 (by decide) (hts (.fieldLink RX10 25 "CoatLine" "protocols" "Ljava/util/ArrayList;") (by decide +kernel)) (fun _ h9 => h9) rfl dX10_protocol_41 ?_
    refine vp_callSi (va_Run.run (va_runV (As := []) (rest := []) ⟨hx, hb, hml, hown, hts⟩ (c_Jx4a65c_size_8abf5 l hst D e l5 (0 + 1) q_17 1 H.size) (cwV 0 hts gX10_protocol_Jx4a65c_size_8abf5 rfl rfl rfl (by decide +kernel) ⟨Nat.le_of_ble_eq_true rfl, Nat.le_of_ble_eq_true rfl⟩) ⟨cIn_blind, va_recv hK hP (ci := 5) (q0 := 2) rfl rfl, cIn_go hK hP hD hE hS hA [2] rfl rfl (by decide) [] rfl⟩ rfl rfl hl.1 rfl (lv_room (Nat.le_of_ble_eq_true rfl)) dX10_protocol_44 ⟨Nat.le_of_ble_eq_true rfl, Nat.le_of_ble_eq_true rfl⟩)) (fun r_18 hw => ?_)
    have hw : r_18 = 1 := hw.trans (by first | rfl | decide +kernel)
    subst hw
    refine lv_iconst (v := 1) hx hb dX10_protocol_47 (by decide) ?_
    refine lv_isub hx hb dX10_protocol_48 ?_
    refine lv_topi (fun z_19 ez_19 => ?_)
    obtain rfl : z_19 = 0 := ez_19.trans (by decide +kernel)
    refine W.widen (k := 9) (n := 60) (Nat.le_of_ble_eq_true rfl) (Nat.le_of_ble_eq_true rfl) ?_
    refine vx_ret ?_
    exact W.iret (v := 0) hx hb hr (fun t ht hW => ⟨⟨0, (), rfl, ⟨(by unfold t_X10_protocol; rw [if_pos c_2]), (by unfold v_X10_protocol; rw [if_pos c_2])⟩, trivial⟩, hS.F ht⟩) hS.2.2 dX10_protocol_49
-- X4_init
set_option maxHeartbeats 4000000 in
set_option maxRecDepth 100000 in
theorem c_X4_init (l : Launch) (hst : l.stackTraces = false) (D : va_G) (e : Nat) (q : Nat) (p1 : Int32) (sz : Nat) : Met l yX4_init wsX4_init ({ frames := 10, cells := 0, slots := 0, locals := 160 }) (va_Pc [.ref q, .int 98, .int p1, .int 0, .int 0] (cIn D [] [(q, .inr (10, [.int 0, .int 0, .int 0, .int 0, .int 0]))] e sz)) (va_Qv (fun (_ : Unit) => True) (fun (_ : Unit) (t : State) => va_P D vwCl [(q, .inr (10, [.int 98, .int p1, .int 0, .int 0, .int 0]))] t.heap ∧ va_K D vwCl [] t ∧ va_D (va_A [(q, .inr (10, [.int 0, .int 0, .int 0, .int 0, .int 0]))] sz) [(q, .inr (10, [.int 98, .int p1, .int 0, .int 0, .int 0]))]) (va_A [(q, .inr (10, [.int 0, .int 0, .int 0, .int 0, .int 0]))] sz)) 0 0 (va_A [(q, .inr (10, [.int 0, .int 0, .int 0, .int 0, .int 0]))] sz) := by
  refine Met.ofW (cc := cX4_init) (maxL := 5) (ret := none) (by decide +kernel) rfl ?_
  intro p e9 s m args below meth c s₁ B hml hv
  obtain ⟨rfl, hsz, hP, hK, hD0, hE0⟩ := hv
  have hx := B.exec
  have hb := B.bytes
  have hr := B.returns
  have hts := atoms_spec (ws := wsX4_init) B.pre
  have hown : s.vm.findClass RX4 = some m.cls := findClass_of_methodNamed B.named
  have hlocks := B.notSynchronized
  have hin : meth.name = "<init>" := (name_of_methodNamed B.named B.method).1
  subst hsz
  have hD := hD0.self (sz := s.heap.size)
  generalize hAe : va_A [(q, .inr (10, [.int 0, .int 0, .int 0, .int 0, .int 0]))] s.heap.size = A at hD hE0 ⊢
  have hA : ∀ q : Nat, s.heap.size ≤ q → A q := fun q h => by rw [← hAe]; exact Or.inr h
  have hS : va_S A s.heap s.heap [] := va_S.rf
  have hE := hE0
  have hP : va_P D vwCl [(q, .inr (10, [.int 0, .int 0, .int 0, .int 0, .int 0]))] s.heap := hP
  have hl := lv_entry ([.ref q, .int 98, .int p1, .int 0, .int 0]) (n := 5) (Nat.le_of_ble_eq_true rfl)
  rw [lg_entry_eq]
  generalize (lg_sl ([.ref q, .int 98, .int p1, .int 0, .int 0]) ++ List.replicate (5 - (lg_sl ([.ref q, .int 98, .int p1, .int 0, .int 0])).length) Slot.unset).toArray = ls at hl ⊢
  have hl : lv_has ls 5 [(0, .ref q), (1, .int 98), (2, .int p1), (3, .int 0), (4, .int 0)] := hl
  refine lv_aload_n hx hb dX4_init_0 rfl (lv_at hl 0 rfl) ?_
  refine W.objInit hx hb hown (hts (.methodLink RX4 1 objectInit) (by decide +kernel)) (hts (.instanceMethod objectInit) (by decide +kernel)) (hts (.code objectInit ⟨#[0xb1]⟩ 1 none) (by decide +kernel)) rfl (by rw [hml]; exact hl.1) rfl dX4_init_1 (Nat.le_of_ble_eq_true rfl) (Nat.le_of_ble_eq_true rfl) ?_
  refine W.eq (g2 := F0 m 4 ls []) rfl ?_
  refine lv_aload_n hx hb dX4_init_4 rfl (lv_at hl 0 rfl) ?_
  refine lv_iconst (v := 0) hx hb dX4_init_5 (by decide) ?_
  refine va_put (D := D) (ci := 10) (v := .int 0) (ty := .boolean) (C := RX4) (T := TX4) (N := 5) hx hb hts iw_RX4_wsX4_init tyX4 tyX4_ok nmX4 hown hK hP hD hS 0 rfl rfl 4 (by decide) (hts (.fieldLink RX4 7 "CoatLine$Doubt" "cleared" "Z") (by decide +kernel)) (fun _ h9 => h9) rfl (by decide +kernel) rfl rfl (Nat.le_of_ble_eq_true rfl) dX4_init_6 (fun H locs hP hD hS => ?_)
  have hP : va_P D vwCl [(q, .inr (10, [.int 0, .int 0, .int 0, .int 0, .int 0]))] H := hP
  have hD : va_D A [(q, .inr (10, [.int 0, .int 0, .int 0, .int 0, .int 0]))] := hD
  refine lv_aload_n hx hb dX4_init_9 rfl (lv_at hl 0 rfl) ?_
  refine lv_iload_n hx hb dX4_init_10 rfl (lv_at hl 1 rfl) ?_
  refine va_putF (D := D) (ci := 10) (v := .int 98) (ty := .char) (C := RX4) (T := TX4) (N := 5) hx hb hts iw_RX4_wsX4_init tyX4 tyX4_ok nmX4 hown hK hP hD hS 0 rfl rfl 0 (by decide) (hts (.fieldLink RX4 13 "CoatLine$Doubt" "kind" "C") (by decide +kernel)) (fun _ h9 => h9) rfl hin rfl (by decide +kernel) rfl rfl (Nat.le_of_ble_eq_true rfl) dX4_init_11 (fun H locs hP hD hS => ?_)
  have hP : va_P D vwCl [(q, .inr (10, [.int 98, .int 0, .int 0, .int 0, .int 0]))] H := hP
  have hD : va_D A [(q, .inr (10, [.int 98, .int 0, .int 0, .int 0, .int 0]))] := hD
  refine lv_aload_n hx hb dX4_init_14 rfl (lv_at hl 0 rfl) ?_
  refine lv_iload_n hx hb dX4_init_15 rfl (lv_at hl 2 rfl) ?_
  refine va_putF (D := D) (ci := 10) (v := .int p1) (ty := .int) (C := RX4) (T := TX4) (N := 5) hx hb hts iw_RX4_wsX4_init tyX4 tyX4_ok nmX4 hown hK hP hD hS 0 rfl rfl 1 (by decide) (hts (.fieldLink RX4 17 "CoatLine$Doubt" "number" "I") (by decide +kernel)) (fun _ h9 => h9) rfl hin rfl (by decide +kernel) rfl rfl (Nat.le_of_ble_eq_true rfl) dX4_init_16 (fun H locs hP hD hS => ?_)
  have hP : va_P D vwCl [(q, .inr (10, [.int 98, .int p1, .int 0, .int 0, .int 0]))] H := hP
  have hD : va_D A [(q, .inr (10, [.int 98, .int p1, .int 0, .int 0, .int 0]))] := hD
  refine lv_aload_n hx hb dX4_init_19 rfl (lv_at hl 0 rfl) ?_
  refine lv_iload_n hx hb dX4_init_20 rfl (lv_at hl 3 rfl) ?_
  refine va_putF (D := D) (ci := 10) (v := .int 0) (ty := .int) (C := RX4) (T := TX4) (N := 5) hx hb hts iw_RX4_wsX4_init tyX4 tyX4_ok nmX4 hown hK hP hD hS 0 rfl rfl 2 (by decide) (hts (.fieldLink RX4 21 "CoatLine$Doubt" "from" "I") (by decide +kernel)) (fun _ h9 => h9) rfl hin rfl (by decide +kernel) rfl rfl (Nat.le_of_ble_eq_true rfl) dX4_init_21 (fun H locs hP hD hS => ?_)
  have hP : va_P D vwCl [(q, .inr (10, [.int 98, .int p1, .int 0, .int 0, .int 0]))] H := hP
  have hD : va_D A [(q, .inr (10, [.int 98, .int p1, .int 0, .int 0, .int 0]))] := hD
  refine lv_aload_n hx hb dX4_init_24 rfl (lv_at hl 0 rfl) ?_
  refine lv_iload hx hb dX4_init_25 (lv_at hl 4 rfl) ?_
  refine va_putF (D := D) (ci := 10) (v := .int 0) (ty := .int) (C := RX4) (T := TX4) (N := 5) hx hb hts iw_RX4_wsX4_init tyX4 tyX4_ok nmX4 hown hK hP hD hS 0 rfl rfl 3 (by decide) (hts (.fieldLink RX4 24 "CoatLine$Doubt" "to" "I") (by decide +kernel)) (fun _ h9 => h9) rfl hin rfl (by decide +kernel) rfl rfl (Nat.le_of_ble_eq_true rfl) dX4_init_27 (fun H locs hP hD hS => ?_)
  have hP : va_P D vwCl [(q, .inr (10, [.int 98, .int p1, .int 0, .int 0, .int 0]))] H := hP
  have hD : va_D A [(q, .inr (10, [.int 98, .int p1, .int 0, .int 0, .int 0]))] := hD
  exact W.vret hx hb hr (fun t ht hW => ⟨⟨(), rfl, trivial, ⟨by rw [ht]; exact hP.sub [0] rfl, va_K.moved hW.alike (hK.sub [] rfl), hD.sub [0] (by decide) rfl⟩⟩, hS.F ht⟩) hS.2.2 dX4_init_30
-- X10_addDoubt
def v_X10_addDoubt (p1 : Int32) : Int32 := 0
set_option maxHeartbeats 4000000 in
set_option maxRecDepth 100000 in
theorem c_X10_addDoubt (l : Launch) (hst : l.stackTraces = false) (D : va_G) (e : Nat) (h : Nat) (l1 : Nat) (l2 : Nat) (l3 : Nat) (l4 : Nat) (l5 : Nat) (l6 : Nat) (l7 : Nat) (l8 : Nat) (l9 : Nat) (ch : Nat) (co : Nat) (x : Nat) (p1 : Int32) (sz : Nat) : Met l yX10_addDoubt wsX10_addDoubt ({ frames := 20, cells := 3, slots := 20, locals := 460 }) (va_Pc [.ref h, .ref x] (cIn D [] [(h, .inr (16, [.ref l1, .ref l2, .ref l3, .ref l4, .ref l5, .ref l6, .ref l7, .ref l8, .ref l9, .ref ch, .ref co, .int 0, .int 4, .int (-40), .int 20, .int 0, .int 0, .int 100, .int 60, .int 14])), (l4, .inr (5, [.int 0, .ref e, .int 0])), (l8, .inr (5, [.int 0, .ref e, .int 0])), (x, .inr (10, [.int 98, .int p1, .int 0, .int 0, .int 0]))] e sz)) (va_Qi (fun (r : Int32) (_ : Unit) => r = v_X10_addDoubt p1) (fun (_ : Unit) (_ : State) => True) (va_A [(h, .inr (16, [.ref l1, .ref l2, .ref l3, .ref l4, .ref l5, .ref l6, .ref l7, .ref l8, .ref l9, .ref ch, .ref co, .int 0, .int 4, .int (-40), .int 20, .int 0, .int 0, .int 100, .int 60, .int 14])), (l4, .inr (5, [.int 0, .ref e, .int 0])), (l8, .inr (5, [.int 0, .ref e, .int 0])), (x, .inr (10, [.int 98, .int p1, .int 0, .int 0, .int 0]))] sz)) 3 20 (va_A [(h, .inr (16, [.ref l1, .ref l2, .ref l3, .ref l4, .ref l5, .ref l6, .ref l7, .ref l8, .ref l9, .ref ch, .ref co, .int 0, .int 4, .int (-40), .int 20, .int 0, .int 0, .int 100, .int 60, .int 14])), (l4, .inr (5, [.int 0, .ref e, .int 0])), (l8, .inr (5, [.int 0, .ref e, .int 0])), (x, .inr (10, [.int 98, .int p1, .int 0, .int 0, .int 0]))] sz) := by
  refine Met.ofW (cc := cX10_addDoubt) (maxL := 4) (ret := (some .int)) (by decide +kernel) rfl ?_
  intro p e9 s m args below meth c s₁ B hml hv
  obtain ⟨rfl, hsz, hP, hK, hD0, hE0⟩ := hv
  have hx := B.exec
  have hb := B.bytes
  have hr := B.returns
  have hts := atoms_spec (ws := wsX10_addDoubt) B.pre
  have hown : s.vm.findClass RX10 = some m.cls := findClass_of_methodNamed B.named
  have hlocks := B.notSynchronized
  subst hsz
  have hD := hD0.self (sz := s.heap.size)
  generalize hAe : va_A [(h, .inr (16, [.ref l1, .ref l2, .ref l3, .ref l4, .ref l5, .ref l6, .ref l7, .ref l8, .ref l9, .ref ch, .ref co, .int 0, .int 4, .int (-40), .int 20, .int 0, .int 0, .int 100, .int 60, .int 14])), (l4, .inr (5, [.int 0, .ref e, .int 0])), (l8, .inr (5, [.int 0, .ref e, .int 0])), (x, .inr (10, [.int 98, .int p1, .int 0, .int 0, .int 0]))] s.heap.size = A at hD hE0 ⊢
  have hA : ∀ q : Nat, s.heap.size ≤ q → A q := fun q h => by rw [← hAe]; exact Or.inr h
  have hS : va_S A s.heap s.heap [] := va_S.rf
  have hE := hE0
  have hP : va_P D vwCl [(h, .inr (16, [.ref l1, .ref l2, .ref l3, .ref l4, .ref l5, .ref l6, .ref l7, .ref l8, .ref l9, .ref ch, .ref co, .int 0, .int 4, .int (-40), .int 20, .int 0, .int 0, .int 100, .int 60, .int 14])), (l4, .inr (5, [.int 0, .ref e, .int 0])), (l8, .inr (5, [.int 0, .ref e, .int 0])), (x, .inr (10, [.int 98, .int p1, .int 0, .int 0, .int 0]))] s.heap := hP
  have hl := lv_entry ([.ref h, .ref x]) (n := 4) (Nat.le_of_ble_eq_true rfl)
  rw [lg_entry_eq]
  generalize (lg_sl ([.ref h, .ref x]) ++ List.replicate (4 - (lg_sl ([.ref h, .ref x])).length) Slot.unset).toArray = ls at hl ⊢
  have hl : lv_has ls 4 [(0, .ref h), (1, .ref x)] := hl
  refine lv_aload_n hx hb dX10_addDoubt_0 rfl (lv_at hl 0 rfl) ?_
  refine va_get (D := D) (ci := 16) (v := .ref l8) (C := RX10) (T := TX10) (N := 20) hx hb hts iw_RX10_wsX10_addDoubt hown hK hP 0 rfl rfl 7 (by decide) (hts (.fieldLink RX10 34 "CoatLine" "doubts" "Ljava/util/ArrayList;") (by decide +kernel)) (fun _ h9 => h9) rfl dX10_addDoubt_1 ?_
  refine vp_callSi (va_Run.run (va_runV (As := []) (rest := []) ⟨hx, hb, hml, hown, hts⟩ (c_Jx4a65c_size_8abf5 l hst D e l8 0 e 0 s.heap.size) (cwV 0 hts gX10_addDoubt_Jx4a65c_size_8abf5 rfl rfl rfl (by decide +kernel) ⟨Nat.le_of_ble_eq_true rfl, Nat.le_of_ble_eq_true rfl⟩) ⟨cIn_blind, va_recv hK hP (ci := 5) (q0 := 2) rfl rfl, cIn_go hK hP hD hE hS hA [2] rfl rfl (by decide) [] rfl⟩ rfl rfl hl.1 rfl (lv_room (Nat.le_of_ble_eq_true rfl)) dX10_addDoubt_4 ⟨Nat.le_of_ble_eq_true rfl, Nat.le_of_ble_eq_true rfl⟩)) (fun r_1 hw => ?_)
  have hw : r_1 = 0 := hw.trans (by first | rfl | decide +kernel)
  subst hw
  refine lv_iconst (v := 1) hx hb dX10_addDoubt_7 (by decide) ?_
  refine lv_bipush (v := 8) hx hb dX10_addDoubt_8 (by decide) ?_
  have hFc := va_free (wc := []) hD hS hA [] rfl
  refine vx_callv (vx_runS (As := [.int 0, .int 1, .int 8]) (rest := []) ⟨hx, hb, hml, hown, hts⟩ (c_X10_requireSpace l hst D e 0 1 8 s.heap.size) (va_cwS 3 hts gX10_addDoubt_X10_requireSpace rfl rfl rfl (by decide +kernel) ⟨Nat.le_of_ble_eq_true rfl, Nat.le_of_ble_eq_true rfl⟩) ⟨cIn_blind, cIn_go hK hP hD hE hS hA [] rfl rfl (by decide) [] rfl⟩ rfl rfl hl.1 rfl (lv_room (Nat.le_of_ble_eq_true rfl)) dX10_addDoubt_10 ⟨Nat.le_of_ble_eq_true rfl, Nat.le_of_ble_eq_true rfl⟩) hS (fun q _ h => hFc q h) hFc (fun q _ h => hFc q h) (fun E ce q9 u t H1 locs ht hvm hpx hB hz1 hk1 hS hce hcv hcl => ?_) (fun u t H1 locs ht hvm hw hB hz1 hk1 hS => ?_)
  · exact absurd hB.2 (by decide +kernel)
  obtain ⟨hP, hD⟩ := cIn_rest (wc := []) (wr := [(h, .inr (16, [.ref l1, .ref l2, .ref l3, .ref l4, .ref l5, .ref l6, .ref l7, .ref l8, .ref l9, .ref ch, .ref co, .int 0, .int 4, .int (-40), .int 20, .int 0, .int 0, .int 100, .int 60, .int 14])), (l4, .inr (5, [.int 0, .ref e, .int 0])), (l8, .inr (5, [.int 0, .ref e, .int 0])), (x, .inr (10, [.int 98, .int p1, .int 0, .int 0, .int 0]))]) hP hD [] [0, 1, 2, 3] rfl rfl (by decide) (by decide) hk1 hFc
  generalize H1 = H at hP hS ⊢
  have hP : va_P D vwCl [(h, .inr (16, [.ref l1, .ref l2, .ref l3, .ref l4, .ref l5, .ref l6, .ref l7, .ref l8, .ref l9, .ref ch, .ref co, .int 0, .int 4, .int (-40), .int 20, .int 0, .int 0, .int 100, .int 60, .int 14])), (l4, .inr (5, [.int 0, .ref e, .int 0])), (l8, .inr (5, [.int 0, .ref e, .int 0])), (x, .inr (10, [.int 98, .int p1, .int 0, .int 0, .int 0]))] H := hP
  have hD : va_D A [(h, .inr (16, [.ref l1, .ref l2, .ref l3, .ref l4, .ref l5, .ref l6, .ref l7, .ref l8, .ref l9, .ref ch, .ref co, .int 0, .int 4, .int (-40), .int 20, .int 0, .int 0, .int 100, .int 60, .int 14])), (l4, .inr (5, [.int 0, .ref e, .int 0])), (l8, .inr (5, [.int 0, .ref e, .int 0])), (x, .inr (10, [.int 98, .int p1, .int 0, .int 0, .int 0]))] := hD
  refine W.widen (k := 1) (n := 6) (Nat.le_of_ble_eq_true rfl) (Nat.le_of_ble_eq_true rfl) ?_
  refine lv_iconst (v := 0) hx hb dX10_addDoubt_13 (by decide) ?_
  refine lv_istore_n (lv' := [(2, .int 0), (0, .ref h), (1, .ref x)]) hx hb dX10_addDoubt_14 rfl hl (by decide) rfl (fun ls hl => ?_)
  refine lv_iload_n hx hb dX10_addDoubt_15 rfl (lv_at hl 0 rfl) ?_
  refine lv_aload_n hx hb dX10_addDoubt_16 rfl (lv_at hl 1 rfl) ?_
  refine va_get (D := D) (ci := 16) (v := .ref l4) (C := RX10) (T := TX10) (N := 20) hx hb hts iw_RX10_wsX10_addDoubt hown hK hP 0 rfl rfl 3 (by decide) (hts (.fieldLink RX10 22 "CoatLine" "cells" "Ljava/util/ArrayList;") (by decide +kernel)) (fun _ h9 => h9) rfl dX10_addDoubt_17 ?_
  refine vp_callSi (va_Run.run (va_runV (As := []) (rest := [.int 0]) ⟨hx, hb, hml, hown, hts⟩ (c_Jx4a65c_size_8abf5 l hst D e l4 0 e 0 H.size) (cwV 0 hts gX10_addDoubt_Jx4a65c_size_8abf5 rfl rfl rfl (by decide +kernel) ⟨Nat.le_of_ble_eq_true rfl, Nat.le_of_ble_eq_true rfl⟩) ⟨cIn_blind, va_recv hK hP (ci := 5) (q0 := 1) rfl rfl, cIn_go hK hP hD hE hS hA [1] rfl rfl (by decide) [] rfl⟩ rfl rfl hl.1 rfl (lv_room (Nat.le_of_ble_eq_true rfl)) dX10_addDoubt_20 ⟨Nat.le_of_ble_eq_true rfl, Nat.le_of_ble_eq_true rfl⟩)) (fun r_3 hw => ?_)
  have hw : r_3 = 0 := hw.trans (by first | rfl | decide +kernel)
  subst hw
  refine lv_icmp_ge (tgt := 57) hx hb dX10_addDoubt_23 (by decide) (fun c_4 => ?_) (fun c_4 => absurd (show (0 : Int32) ≤ 0 from by decide +kernel) c_4)
  refine lv_aload_n hx hb dX10_addDoubt_57 rfl (lv_at hl 1 rfl) ?_
  refine va_get (D := D) (ci := 16) (v := .ref l8) (C := RX10) (T := TX10) (N := 20) hx hb hts iw_RX10_wsX10_addDoubt hown hK hP 0 rfl rfl 7 (by decide) (hts (.fieldLink RX10 34 "CoatLine" "doubts" "Ljava/util/ArrayList;") (by decide +kernel)) (fun _ h9 => h9) rfl dX10_addDoubt_58 ?_
  refine lv_aload_n hx hb dX10_addDoubt_61 rfl (lv_at hl 2 rfl) ?_
  have hFc := va_free (wc := [(l8, .inr (5, [.int 0, .ref e, .int 0]))]) hD hS hA [2] rfl
  refine va_calli (va_runV (As := [.ref x]) (rest := []) ⟨hx, hb, hml, hown, hts⟩ (c_Jx4a65c_add_9ea2d l hst D e l8 0 x H.size) (cwV 1 hts gX10_addDoubt_Jx4a65c_add_9ea2d rfl rfl rfl (by decide +kernel) ⟨Nat.le_of_ble_eq_true rfl, Nat.le_of_ble_eq_true rfl⟩) ⟨cAny_blind, va_recv hK hP (ci := 5) (q0 := 2) rfl rfl, cAny_go hK hP hD hE hS hA [2] rfl rfl (by decide) [] rfl (va_rAny hK hP (q0 := 3) (ci := 10) rfl rfl (fun comp c0 => vb_asgC (ev_w hE (w := .castable "CoatLine$Doubt" "java/lang/Object") (by decide +kernel)) comp c0)) (hP 3 _ rfl).lt (fun h9 => absurd (hD.1 3 2 _ _ rfl rfl h9) (by decide))⟩ rfl rfl hl.1 rfl (lv_room (Nat.le_of_ble_eq_true rfl)) dX10_addDoubt_62 ⟨Nat.le_of_ble_eq_true rfl, Nat.le_of_ble_eq_true rfl⟩) hS (fun q _ h => hFc q h) hFc (fun r_5 u t H1 locs ht hvm hw hB hz1 hk1 hS => ?_)
  obtain ⟨q_7, hP1, hK1, hD1⟩ := hB
  rw [ht] at hP1
  have hK1 := va_K.moved hvm.symm hK1
  obtain ⟨hP, hD⟩ := va_join (wr := [(h, .inr (16, [.ref l1, .ref l2, .ref l3, .ref l4, .ref l5, .ref l6, .ref l7, .ref l8, .ref l9, .ref ch, .ref co, .int 0, .int 4, .int (-40), .int 20, .int 0, .int 0, .int 100, .int 60, .int 14])), (l4, .inr (5, [.int 0, .ref e, .int 0])), (x, .inr (10, [.int 98, .int p1, .int 0, .int 0, .int 0]))]) (w1 := [(l8, .inr (5, [.int (0 + 1), .ref q_7, .int 1]))]) hP hD [2] [0, 1, 3] rfl rfl (by decide) (by decide) hk1 hFc hP1 hD1
  generalize H1 = H at hP hS ⊢
  have hP : va_P D vwCl [(h, .inr (16, [.ref l1, .ref l2, .ref l3, .ref l4, .ref l5, .ref l6, .ref l7, .ref l8, .ref l9, .ref ch, .ref co, .int 0, .int 4, .int (-40), .int 20, .int 0, .int 0, .int 100, .int 60, .int 14])), (l4, .inr (5, [.int 0, .ref e, .int 0])), (x, .inr (10, [.int 98, .int p1, .int 0, .int 0, .int 0])), (l8, .inr (5, [.int (0 + 1), .ref q_7, .int 1]))] H := hP
  have hD : va_D A [(h, .inr (16, [.ref l1, .ref l2, .ref l3, .ref l4, .ref l5, .ref l6, .ref l7, .ref l8, .ref l9, .ref ch, .ref co, .int 0, .int 4, .int (-40), .int 20, .int 0, .int 0, .int 100, .int 60, .int 14])), (l4, .inr (5, [.int 0, .ref e, .int 0])), (x, .inr (10, [.int 98, .int p1, .int 0, .int 0, .int 0])), (l8, .inr (5, [.int (0 + 1), .ref q_7, .int 1]))] := hD
  refine W.widen (k := 2) (n := 16) (Nat.le_of_ble_eq_true rfl) (Nat.le_of_ble_eq_true rfl) ?_
  have hw : r_5 = 1 := hw.trans (by first | rfl | decide +kernel)
  subst hw
  refine lv_pop hx hb dX10_addDoubt_65 rfl ?_
  refine lv_aload_n hx hb dX10_addDoubt_66 rfl (lv_at hl 1 rfl) ?_
  refine va_get (D := D) (ci := 16) (v := .ref l8) (C := RX10) (T := TX10) (N := 20) hx hb hts iw_RX10_wsX10_addDoubt hown hK hP 0 rfl rfl 7 (by decide) (hts (.fieldLink RX10 34 "CoatLine" "doubts" "Ljava/util/ArrayList;") (by decide +kernel)) (fun _ h9 => h9) rfl dX10_addDoubt_67 ?_
  refine vp_callSi (va_Run.run (va_runV (As := []) (rest := []) ⟨hx, hb, hml, hown, hts⟩ (c_Jx4a65c_size_8abf5 l hst D e l8 (0 + 1) q_7 1 H.size) (cwV 0 hts gX10_addDoubt_Jx4a65c_size_8abf5 rfl rfl rfl (by decide +kernel) ⟨Nat.le_of_ble_eq_true rfl, Nat.le_of_ble_eq_true rfl⟩) ⟨cIn_blind, va_recv hK hP (ci := 5) (q0 := 3) rfl rfl, cIn_go hK hP hD hE hS hA [3] rfl rfl (by decide) [] rfl⟩ rfl rfl hl.1 rfl (lv_room (Nat.le_of_ble_eq_true rfl)) dX10_addDoubt_70 ⟨Nat.le_of_ble_eq_true rfl, Nat.le_of_ble_eq_true rfl⟩)) (fun r_8 hw => ?_)
  have hw : r_8 = 1 := hw.trans (by first | rfl | decide +kernel)
  subst hw
  refine lv_iconst (v := 1) hx hb dX10_addDoubt_73 (by decide) ?_
  refine lv_isub hx hb dX10_addDoubt_74 ?_
  refine lv_topi (fun z_9 ez_9 => ?_)
  obtain rfl : z_9 = 0 := ez_9.trans (by decide +kernel)
  refine W.widen (k := 3) (n := 20) (Nat.le_of_ble_eq_true rfl) (Nat.le_of_ble_eq_true rfl) ?_
  exact W.iret (v := 0) hx hb hr (fun t ht hW => ⟨⟨0, (), rfl, rfl, trivial⟩, hS.F ht⟩) hS.2.2 dX10_addDoubt_75
-- X10_doubtAll
def t_X10_doubtAll (p0 : Int32) (p1 : Int32) : Int32 := if p0 = 0 then (if 0 ≤ p1 then 0 else 1) else 3
def v_X10_doubtAll (p0 : Int32) (p1 : Int32) : Int32 := if p0 = 0 then (if 0 ≤ p1 then 0 else 0) else 0
set_option maxHeartbeats 4000000 in
set_option maxRecDepth 100000 in
theorem c_X10_doubtAll (l : Launch) (hst : l.stackTraces = false) (D : va_G) (e : Nat) (h : Nat) (l1 : Nat) (l2 : Nat) (l3 : Nat) (l4 : Nat) (l5 : Nat) (l6 : Nat) (l7 : Nat) (l8 : Nat) (l9 : Nat) (ch : Nat) (co : Nat) (p0 : Int32) (p1 : Int32) (sz : Nat) : vx_Met l yX10_doubtAll wsX10_doubtAll ({ frames := 24, cells := 6, slots := 40, locals := 580 }) (va_Pc [.ref h, .int p0, .int p1] (cIn D [] [(h, .inr (16, [.ref l1, .ref l2, .ref l3, .ref l4, .ref l5, .ref l6, .ref l7, .ref l8, .ref l9, .ref ch, .ref co, .int 0, .int 4, .int (-40), .int 20, .int 0, .int 0, .int 100, .int 60, .int 14])), (l1, .inr (5, [.int 0, .ref e, .int 0])), (l4, .inr (5, [.int 0, .ref e, .int 0])), (l8, .inr (5, [.int 0, .ref e, .int 0]))] e sz)) (va_Qi (fun (r : Int32) (_ : Unit) => t_X10_doubtAll p0 p1 = 0 ∧ r = v_X10_doubtAll p0 p1) (fun (_ : Unit) (_ : State) => True) (va_A [(h, .inr (16, [.ref l1, .ref l2, .ref l3, .ref l4, .ref l5, .ref l6, .ref l7, .ref l8, .ref l9, .ref ch, .ref co, .int 0, .int 4, .int (-40), .int 20, .int 0, .int 0, .int 100, .int 60, .int 14])), (l1, .inr (5, [.int 0, .ref e, .int 0])), (l4, .inr (5, [.int 0, .ref e, .int 0])), (l8, .inr (5, [.int 0, .ref e, .int 0]))] sz)) (vx_X (fun _ : Unit => True) (fun (E : String) (_ : Unit) (_ : State) => (E = "java/lang/IndexOutOfBoundsException" ∧ t_X10_doubtAll p0 p1 = 3) ∨ (E = "java/lang/IllegalArgumentException" ∧ t_X10_doubtAll p0 p1 = 1)) (va_A [(h, .inr (16, [.ref l1, .ref l2, .ref l3, .ref l4, .ref l5, .ref l6, .ref l7, .ref l8, .ref l9, .ref ch, .ref co, .int 0, .int 4, .int (-40), .int 20, .int 0, .int 0, .int 100, .int 60, .int 14])), (l1, .inr (5, [.int 0, .ref e, .int 0])), (l4, .inr (5, [.int 0, .ref e, .int 0])), (l8, .inr (5, [.int 0, .ref e, .int 0]))] sz)) 6 40 (va_A [(h, .inr (16, [.ref l1, .ref l2, .ref l3, .ref l4, .ref l5, .ref l6, .ref l7, .ref l8, .ref l9, .ref ch, .ref co, .int 0, .int 4, .int (-40), .int 20, .int 0, .int 0, .int 100, .int 60, .int 14])), (l1, .inr (5, [.int 0, .ref e, .int 0])), (l4, .inr (5, [.int 0, .ref e, .int 0])), (l8, .inr (5, [.int 0, .ref e, .int 0]))] sz) := by
  refine vx_ofW (cc := cX10_doubtAll) (maxL := 3) (ret := (some .int)) (by decide +kernel) rfl ?_
  intro p e9 s m args below meth c s₁ B hml htb hv
  obtain ⟨rfl, hsz, hP, hK, hD0, hE0⟩ := hv
  have hx := B.exec
  have hb := B.bytes
  have hr := B.returns
  have hts := atoms_spec (ws := wsX10_doubtAll) B.pre
  have hown : s.vm.findClass RX10 = some m.cls := findClass_of_methodNamed B.named
  have hlocks := B.notSynchronized
  subst hsz
  have hD := hD0.self (sz := s.heap.size)
  generalize hAe : va_A [(h, .inr (16, [.ref l1, .ref l2, .ref l3, .ref l4, .ref l5, .ref l6, .ref l7, .ref l8, .ref l9, .ref ch, .ref co, .int 0, .int 4, .int (-40), .int 20, .int 0, .int 0, .int 100, .int 60, .int 14])), (l1, .inr (5, [.int 0, .ref e, .int 0])), (l4, .inr (5, [.int 0, .ref e, .int 0])), (l8, .inr (5, [.int 0, .ref e, .int 0]))] s.heap.size = A at hD hE0 ⊢
  have hA : ∀ q : Nat, s.heap.size ≤ q → A q := fun q h => by rw [← hAe]; exact Or.inr h
  have hS : va_S A s.heap s.heap [] := va_S.rf
  have hE := hE0
  have hP : va_P D vwCl [(h, .inr (16, [.ref l1, .ref l2, .ref l3, .ref l4, .ref l5, .ref l6, .ref l7, .ref l8, .ref l9, .ref ch, .ref co, .int 0, .int 4, .int (-40), .int 20, .int 0, .int 0, .int 100, .int 60, .int 14])), (l1, .inr (5, [.int 0, .ref e, .int 0])), (l4, .inr (5, [.int 0, .ref e, .int 0])), (l8, .inr (5, [.int 0, .ref e, .int 0]))] s.heap := hP
  have hl := lv_entry ([.ref h, .int p0, .int p1]) (n := 3) (Nat.le_of_ble_eq_true rfl)
  rw [lg_entry_eq]
  generalize (lg_sl ([.ref h, .int p0, .int p1]) ++ List.replicate (3 - (lg_sl ([.ref h, .int p0, .int p1])).length) Slot.unset).toArray = ls at hl ⊢
  have hl : lv_has ls 3 [(0, .ref h), (1, .int p0), (2, .int p1)] := hl
  refine lv_iload_n hx hb dX10_doubtAll_0 rfl (lv_at hl 1 rfl) ?_
  refine lv_if_eq (tgt := 13) hx hb dX10_doubtAll_1 (by decide) (fun c_1 => ?_) (fun c_1 => ?_)
  · refine lv_iload_n hx hb dX10_doubtAll_13 rfl (lv_at hl 2 rfl) ?_
    refine lv_if_ge (tgt := 28) hx hb dX10_doubtAll_14 (by decide) (fun c_2 => ?_) (fun c_2 => ?_)
    · refine lv_aload_n hx hb dX10_doubtAll_28 rfl (lv_at hl 0 rfl) ?_
      refine va_new (D := D) (ci := 10) (fs := [.int 0, .int 0, .int 0, .int 0, .int 0]) (C := RX4) (T := TX4) (N := 5) hx hb hts iw_RX4_wsX10_doubtAll tyX4 tyX4_ok hown (hts (.classLink RX10 449 RX4) (by decide +kernel)) (hts (.instantiable RX4 5) (by decide +kernel)) (hts (.initialized RX4) (by decide +kernel)) hK hP hD hS hA rfl (fun j hj => by rcases (show j = 0 ∨ j = 1 ∨ j = 2 ∨ j = 3 ∨ j = 4 by omega) with rfl | rfl | rfl | rfl | rfl <;> rfl) (Nat.le_of_ble_eq_true rfl) (Nat.le_of_ble_eq_true rfl) dX10_doubtAll_29 (fun q_3 H hP hD hS => ?_)
      have hP : va_P D vwCl [(h, .inr (16, [.ref l1, .ref l2, .ref l3, .ref l4, .ref l5, .ref l6, .ref l7, .ref l8, .ref l9, .ref ch, .ref co, .int 0, .int 4, .int (-40), .int 20, .int 0, .int 0, .int 100, .int 60, .int 14])), (l1, .inr (5, [.int 0, .ref e, .int 0])), (l4, .inr (5, [.int 0, .ref e, .int 0])), (l8, .inr (5, [.int 0, .ref e, .int 0])), (q_3, .inr (10, [.int 0, .int 0, .int 0, .int 0, .int 0]))] H := hP
      have hD : va_D A [(h, .inr (16, [.ref l1, .ref l2, .ref l3, .ref l4, .ref l5, .ref l6, .ref l7, .ref l8, .ref l9, .ref ch, .ref co, .int 0, .int 4, .int (-40), .int 20, .int 0, .int 0, .int 100, .int 60, .int 14])), (l1, .inr (5, [.int 0, .ref e, .int 0])), (l4, .inr (5, [.int 0, .ref e, .int 0])), (l8, .inr (5, [.int 0, .ref e, .int 0])), (q_3, .inr (10, [.int 0, .int 0, .int 0, .int 0, .int 0]))] := hD
      refine W.widen (k := 1) (n := 5) (Nat.le_of_ble_eq_true rfl) (Nat.le_of_ble_eq_true rfl) ?_
      refine lv_dup hx hb dX10_doubtAll_32 rfl ?_
      refine lv_iload_n hx hb dX10_doubtAll_33 rfl (lv_at hl 1 rfl) ?_
      refine lv_if_eq (tgt := 42) hx hb dX10_doubtAll_34 (by decide) (fun c_4 => ?_) (fun c_4 => absurd c_1 c_4)
      refine lv_bipush (v := 98) hx hb dX10_doubtAll_42 (by decide) ?_
      refine lv_iload_n hx hb dX10_doubtAll_44 rfl (lv_at hl 2 rfl) ?_
      refine lv_iconst (v := 0) hx hb dX10_doubtAll_45 (by decide) ?_
      refine lv_iconst (v := 0) hx hb dX10_doubtAll_46 (by decide) ?_
      have hFc := va_free (wc := [(q_3, .inr (10, [.int 0, .int 0, .int 0, .int 0, .int 0]))]) hD hS hA [4] rfl
      refine va_callv (va_runI (As := [.int 98, .int p1, .int 0, .int 0]) (rest := [.ref q_3, .ref h]) ⟨hx, hb, hml, hown, hts⟩ (c_X4_init l hst D e q_3 p1 H.size) (cwI 4 hts gX10_doubtAll_X4_init rfl rfl rfl (hts (.initialized RX4) (by decide +kernel)) (hts (.methodLink RX10 451 yX4_init) (by decide +kernel)) (hts (.instanceMethod yX4_init) (by decide +kernel)) rfl (by decide +kernel) ⟨Nat.le_of_ble_eq_true rfl, Nat.le_of_ble_eq_true rfl⟩) ⟨cIn_blind, cIn_go hK hP hD hE hS hA [4] rfl rfl (by decide) [] rfl⟩ rfl rfl hl.1 rfl (lv_room (Nat.le_of_ble_eq_true rfl)) dX10_doubtAll_47 ⟨Nat.le_of_ble_eq_true rfl, Nat.le_of_ble_eq_true rfl⟩) hS (fun q _ h => hFc q h) hFc (fun u t H1 locs ht hvm hw hB hz1 hk1 hS => ?_)
      obtain ⟨hP1, hK1, hD1⟩ := hB
      rw [ht] at hP1
      have hK1 := va_K.moved hvm.symm hK1
      obtain ⟨hP, hD⟩ := va_join (wr := [(h, .inr (16, [.ref l1, .ref l2, .ref l3, .ref l4, .ref l5, .ref l6, .ref l7, .ref l8, .ref l9, .ref ch, .ref co, .int 0, .int 4, .int (-40), .int 20, .int 0, .int 0, .int 100, .int 60, .int 14])), (l1, .inr (5, [.int 0, .ref e, .int 0])), (l4, .inr (5, [.int 0, .ref e, .int 0])), (l8, .inr (5, [.int 0, .ref e, .int 0]))]) (w1 := [(q_3, .inr (10, [.int 98, .int p1, .int 0, .int 0, .int 0]))]) hP hD [4] [0, 1, 2, 3] rfl rfl (by decide) (by decide) hk1 hFc hP1 hD1
      generalize H1 = H at hP hS ⊢
      have hP : va_P D vwCl [(h, .inr (16, [.ref l1, .ref l2, .ref l3, .ref l4, .ref l5, .ref l6, .ref l7, .ref l8, .ref l9, .ref ch, .ref co, .int 0, .int 4, .int (-40), .int 20, .int 0, .int 0, .int 100, .int 60, .int 14])), (l1, .inr (5, [.int 0, .ref e, .int 0])), (l4, .inr (5, [.int 0, .ref e, .int 0])), (l8, .inr (5, [.int 0, .ref e, .int 0])), (q_3, .inr (10, [.int 98, .int p1, .int 0, .int 0, .int 0]))] H := hP
      have hD : va_D A [(h, .inr (16, [.ref l1, .ref l2, .ref l3, .ref l4, .ref l5, .ref l6, .ref l7, .ref l8, .ref l9, .ref ch, .ref co, .int 0, .int 4, .int (-40), .int 20, .int 0, .int 0, .int 100, .int 60, .int 14])), (l1, .inr (5, [.int 0, .ref e, .int 0])), (l4, .inr (5, [.int 0, .ref e, .int 0])), (l8, .inr (5, [.int 0, .ref e, .int 0])), (q_3, .inr (10, [.int 98, .int p1, .int 0, .int 0, .int 0]))] := hD
      have hFc := va_free (wc := [(h, .inr (16, [.ref l1, .ref l2, .ref l3, .ref l4, .ref l5, .ref l6, .ref l7, .ref l8, .ref l9, .ref ch, .ref co, .int 0, .int 4, .int (-40), .int 20, .int 0, .int 0, .int 100, .int 60, .int 14])), (l4, .inr (5, [.int 0, .ref e, .int 0])), (l8, .inr (5, [.int 0, .ref e, .int 0])), (q_3, .inr (10, [.int 98, .int p1, .int 0, .int 0, .int 0]))]) hD hS hA [0, 2, 3, 4] rfl
      refine va_calli (va_runV (As := [.ref q_3]) (rest := []) ⟨hx, hb, hml, hown, hts⟩ (c_X10_addDoubt l hst D e h l1 l2 l3 l4 l5 l6 l7 l8 l9 ch co q_3 p1 H.size) (cwV 1 hts gX10_doubtAll_X10_addDoubt rfl rfl rfl (by decide +kernel) ⟨Nat.le_of_ble_eq_true rfl, Nat.le_of_ble_eq_true rfl⟩) ⟨cIn_blind, va_recv hK hP (ci := 16) (q0 := 0) rfl rfl, cIn_go hK hP hD hE hS hA [0, 2, 3, 4] rfl rfl (by decide) [] rfl⟩ rfl rfl hl.1 rfl (lv_room (Nat.le_of_ble_eq_true rfl)) dX10_doubtAll_50 ⟨Nat.le_of_ble_eq_true rfl, Nat.le_of_ble_eq_true rfl⟩) hS (fun q _ h => hFc q h) hFc (fun r_7 u t H1 locs ht hvm hw hB hz1 hk1 hS => ?_)
      obtain ⟨hP, hD⟩ := cIn_rest (wc := [(h, .inr (16, [.ref l1, .ref l2, .ref l3, .ref l4, .ref l5, .ref l6, .ref l7, .ref l8, .ref l9, .ref ch, .ref co, .int 0, .int 4, .int (-40), .int 20, .int 0, .int 0, .int 100, .int 60, .int 14])), (l4, .inr (5, [.int 0, .ref e, .int 0])), (l8, .inr (5, [.int 0, .ref e, .int 0])), (q_3, .inr (10, [.int 98, .int p1, .int 0, .int 0, .int 0]))]) (wr := [(l1, .inr (5, [.int 0, .ref e, .int 0]))]) hP hD [0, 2, 3, 4] [1] rfl rfl (by decide) (by decide) hk1 hFc
      generalize H1 = H at hP hS ⊢
      have hP : va_P D vwCl [(l1, .inr (5, [.int 0, .ref e, .int 0]))] H := hP
      have hD : va_D A [(l1, .inr (5, [.int 0, .ref e, .int 0]))] := hD
      refine W.widen (k := 4) (n := 25) (Nat.le_of_ble_eq_true rfl) (Nat.le_of_ble_eq_true rfl) ?_
      have hw : r_7 = 0 := hw.trans (by first | rfl | decide +kernel)
      subst hw
      refine W.widen (k := 6) (n := 40) (Nat.le_of_ble_eq_true rfl) (Nat.le_of_ble_eq_true rfl) ?_
      refine vx_ret ?_
      exact W.iret (v := 0) hx hb hr (fun t ht hW => ⟨⟨0, (), rfl, ⟨(by unfold t_X10_doubtAll; rw [if_pos c_1, if_pos c_2]), (by unfold v_X10_doubtAll; rw [if_pos c_1, if_pos c_2])⟩, trivial⟩, hS.F ht⟩) hS.2.2 dX10_doubtAll_53
    · obtain ⟨sa_9, hs_10⟩ := ev_x hE (q := (458, "a burr below 0")) (by decide +kernel)
      exact vx_throwSW hx hb hst hown (by decide +kernel) (by decide +kernel) (hts (.classLink RX10 79 "java/lang/IllegalArgumentException") (by decide +kernel)) (hts (.initialized "java/lang/IllegalArgumentException") (by decide +kernel)) hs_10 (vx_hat (fun w hw => hts w (hm_wsX10_doubtAll_83 w hw)) hn_RX10_83 (vx_c (ev_u hE (w := .castable "java/lang/IllegalArgumentException" _) (by decide +kernel) rfl) (vx_c (ev_u hE (by decide +kernel) rfl) (vx_c (ev_u hE (by decide +kernel) rfl) (vx_c (ev_u hE (by decide +kernel) rfl) vx_n))))) ht_RX10_79_83 hE.1.1.1 hE.1.1.2 hS (hl.1.trans hml.symm) dX10_doubtAll_17 dX10_doubtAll_20 dX10_doubtAll_21 dX10_doubtAll_24 dX10_doubtAll_27 (fun x hx => (htb x hx).elim) (Nat.le_of_ble_eq_true rfl) (Nat.le_of_ble_eq_true rfl) (Nat.le_of_ble_eq_true rfl) (Nat.le_of_ble_eq_true rfl) hlocks (fun t hal h1 h2 => ⟨(), trivial, Or.inr (⟨rfl, (by unfold t_X10_doubtAll; rw [if_pos c_1, if_neg c_2])⟩), thr_F hS h1 h2⟩) hS.2.2 (Nat.le_of_ble_eq_true rfl) (Nat.le_of_ble_eq_true rfl)
  · refine lv_aload_n hx hb dX10_doubtAll_4 rfl (lv_at hl 0 rfl) ?_
    refine lv_iload_n hx hb dX10_doubtAll_5 rfl (lv_at hl 2 rfl) ?_
    have hFc := va_free (wc := [(h, .inr (16, [.ref l1, .ref l2, .ref l3, .ref l4, .ref l5, .ref l6, .ref l7, .ref l8, .ref l9, .ref ch, .ref co, .int 0, .int 4, .int (-40), .int 20, .int 0, .int 0, .int 100, .int 60, .int 14])), (l1, .inr (5, [.int 0, .ref e, .int 0]))]) hD hS hA [0, 1] rfl
    refine vx_callv (vx_runV (As := [.int p1]) (rest := []) ⟨hx, hb, hml, hown, hts⟩ (c_X10_lotNumbered l hst D e h l1 l2 l3 l4 l5 l6 l7 l8 l9 ch co p1 s.heap.size) (cwV 1 hts gX10_doubtAll_X10_lotNumbered rfl rfl rfl (by decide +kernel) ⟨Nat.le_of_ble_eq_true rfl, Nat.le_of_ble_eq_true rfl⟩) ⟨cIn_blind, va_recv hK hP (ci := 16) (q0 := 0) rfl rfl, cIn_go hK hP hD hE hS hA [0, 1] rfl rfl (by decide) [] rfl⟩ rfl rfl hl.1 rfl (lv_room (Nat.le_of_ble_eq_true rfl)) dX10_doubtAll_6 ⟨Nat.le_of_ble_eq_true rfl, Nat.le_of_ble_eq_true rfl⟩) hS (fun q _ h => hFc q h) hFc (fun q _ h => hFc q h) (fun E ce q9 u t H1 locs ht hvm hpx hB hz1 hk1 hS hce hcv hcl => ?_) (fun u t H1 locs ht hvm hw hB hz1 hk1 hS => ?_)
    · obtain ⟨rfl, hw⟩ := hB
      exact vx_out (fun x hx => (htb x hx).elim) hlocks hce hcv hcl (fun t9 h9 hal => ⟨(), trivial, Or.inl ⟨rfl, (by unfold t_X10_doubtAll; rw [if_neg c_1])⟩, hS.F h9⟩) hS.2.2 (Nat.le_of_ble_eq_true rfl) (Nat.le_of_ble_eq_true rfl)
    · exact hw.elim
theorem rw_pass {p0 : Int32} (h : t_X10_requireWithin p0 1 500 = 0) : 0 + p0 ≤ 9999 := by
  unfold t_X10_requireWithin at h
  rw [Int32.zero_add]
  split at h
  · exact absurd h (by decide)
  · split at h
    · rename_i h1 h2
      simp only [Int32.le_iff_toInt_le, show (9999 : Int32).toInt = 9999 from rfl, show (500 : Int32).toInt = 500 from rfl] at *
      omega
    · exact absurd h (by decide)
theorem rw_mod {p0 : Int32} (h : t_X10_requireWithin p0 2 6 = 0) : ¬ p0 ≤ 0 := by
  unfold t_X10_requireWithin at h
  split at h
  · exact absurd h (by decide)
  · rename_i h1
    simp only [Int32.lt_iff_toInt_lt, Int32.le_iff_toInt_le, show (0 : Int32).toInt = 0 from rfl, show (2 : Int32).toInt = 2 from rfl] at *
    omega
theorem rw_chan {p0 : Int32} (h : t_X10_requireChannel p0 = 0) : vp_in p0 4 := by
  unfold t_X10_requireChannel at h
  rw [vp_in_iff]
  split at h
  · exact absurd h (by decide)
  · split at h
    · rename_i h1 h2
      simp only [Int32.lt_iff_toInt_lt, show (0 : Int32).toInt = 0 from rfl, show (4 : Int32).toInt = 4 from rfl] at *
      omega
    · exact absurd h (by decide)
-- X10_pass
def t_X10_pass (p0 : Int32) : Int32 := if t_X10_requireWithin p0 1 500 = 0 then 0 else 1
def v_X10_pass (p0 : Int32) : Int32 := if t_X10_requireWithin p0 1 500 = 0 then ((0 + p0)) else 0
set_option maxHeartbeats 4000000 in
set_option maxRecDepth 100000 in
theorem c_X10_pass (l : Launch) (hst : l.stackTraces = false) (D : va_G) (e : Nat) (h : Nat) (l1 : Nat) (l2 : Nat) (l3 : Nat) (l4 : Nat) (l5 : Nat) (l6 : Nat) (l7 : Nat) (l8 : Nat) (l9 : Nat) (ch : Nat) (co : Nat) (p0 : Int32) (sz : Nat) : vx_Met l yX10_pass wsX10_pass ({ frames := 14, cells := 1, slots := 6, locals := 280 }) (va_Pc [.ref h, .int p0] (cIn D [] [(h, .inr (16, [.ref l1, .ref l2, .ref l3, .ref l4, .ref l5, .ref l6, .ref l7, .ref l8, .ref l9, .ref ch, .ref co, .int 0, .int 4, .int (-40), .int 20, .int 0, .int 0, .int 100, .int 60, .int 14])), (l4, .inr (5, [.int 0, .ref e, .int 0]))] e sz)) (va_Qi (fun (r : Int32) (_ : Unit) => t_X10_pass p0 = 0 ∧ r = v_X10_pass p0) (fun (_ : Unit) (_ : State) => True) (va_A [(h, .inr (16, [.ref l1, .ref l2, .ref l3, .ref l4, .ref l5, .ref l6, .ref l7, .ref l8, .ref l9, .ref ch, .ref co, .int 0, .int 4, .int (-40), .int 20, .int 0, .int 0, .int 100, .int 60, .int 14])), (l4, .inr (5, [.int 0, .ref e, .int 0]))] sz)) (vx_X (fun _ : Unit => True) (fun (E : String) (_ : Unit) (_ : State) => (E = "java/lang/IllegalArgumentException" ∧ t_X10_pass p0 = 1)) (va_A [(h, .inr (16, [.ref l1, .ref l2, .ref l3, .ref l4, .ref l5, .ref l6, .ref l7, .ref l8, .ref l9, .ref ch, .ref co, .int 0, .int 4, .int (-40), .int 20, .int 0, .int 0, .int 100, .int 60, .int 14])), (l4, .inr (5, [.int 0, .ref e, .int 0]))] sz)) 1 6 (va_A [(h, .inr (16, [.ref l1, .ref l2, .ref l3, .ref l4, .ref l5, .ref l6, .ref l7, .ref l8, .ref l9, .ref ch, .ref co, .int 0, .int 4, .int (-40), .int 20, .int 0, .int 0, .int 100, .int 60, .int 14])), (l4, .inr (5, [.int 0, .ref e, .int 0]))] sz) := by
  refine vx_ofW (cc := cX10_pass) (maxL := 5) (ret := (some .int)) (by decide +kernel) rfl ?_
  intro p e9 s m args below meth c s₁ B hml htb hv
  obtain ⟨rfl, hsz, hP, hK, hD0, hE0⟩ := hv
  have hx := B.exec
  have hb := B.bytes
  have hr := B.returns
  have hts := atoms_spec (ws := wsX10_pass) B.pre
  have hown : s.vm.findClass RX10 = some m.cls := findClass_of_methodNamed B.named
  have hlocks := B.notSynchronized
  subst hsz
  have hD := hD0.self (sz := s.heap.size)
  generalize hAe : va_A [(h, .inr (16, [.ref l1, .ref l2, .ref l3, .ref l4, .ref l5, .ref l6, .ref l7, .ref l8, .ref l9, .ref ch, .ref co, .int 0, .int 4, .int (-40), .int 20, .int 0, .int 0, .int 100, .int 60, .int 14])), (l4, .inr (5, [.int 0, .ref e, .int 0]))] s.heap.size = A at hD hE0 ⊢
  have hA : ∀ q : Nat, s.heap.size ≤ q → A q := fun q h => by rw [← hAe]; exact Or.inr h
  have hS : va_S A s.heap s.heap [] := va_S.rf
  have hE := hE0
  have hP : va_P D vwCl [(h, .inr (16, [.ref l1, .ref l2, .ref l3, .ref l4, .ref l5, .ref l6, .ref l7, .ref l8, .ref l9, .ref ch, .ref co, .int 0, .int 4, .int (-40), .int 20, .int 0, .int 0, .int 100, .int 60, .int 14])), (l4, .inr (5, [.int 0, .ref e, .int 0]))] s.heap := hP
  have hl := lv_entry ([.ref h, .int p0]) (n := 5) (Nat.le_of_ble_eq_true rfl)
  rw [lg_entry_eq]
  generalize (lg_sl ([.ref h, .int p0]) ++ List.replicate (5 - (lg_sl ([.ref h, .int p0])).length) Slot.unset).toArray = ls at hl ⊢
  have hl : lv_has ls 5 [(0, .ref h), (1, .int p0)] := hl
  refine lv_iload_n hx hb dX10_pass_0 rfl (lv_at hl 1 rfl) ?_
  refine lv_iconst (v := 1) hx hb dX10_pass_1 (by decide) ?_
  refine lv_sipush (v := 500) hx hb dX10_pass_2 (by decide) ?_
  have hFc := va_free (wc := []) hD hS hA [] rfl
  refine vx_callv (vx_runS (As := [.int p0, .int 1, .int 500]) (rest := []) ⟨hx, hb, hml, hown, hts⟩ (c_X10_requireWithin l hst D e p0 1 500 s.heap.size) (va_cwS 3 hts gX10_pass_X10_requireWithin rfl rfl rfl (by decide +kernel) ⟨Nat.le_of_ble_eq_true rfl, Nat.le_of_ble_eq_true rfl⟩) ⟨cIn_blind, cIn_go hK hP hD hE hS hA [] rfl rfl (by decide) [] rfl⟩ rfl rfl hl.1 rfl (lv_room (Nat.le_of_ble_eq_true rfl)) dX10_pass_5 ⟨Nat.le_of_ble_eq_true rfl, Nat.le_of_ble_eq_true rfl⟩) hS (fun q _ h => hFc q h) hFc (fun q _ h => hFc q h) (fun E ce q9 u t H1 locs ht hvm hpx hB hz1 hk1 hS hce hcv hcl => ?_) (fun u t H1 locs ht hvm hw hB hz1 hk1 hS => ?_)
  · obtain ⟨rfl, hw⟩ := hB
    have c_3 : ¬ t_X10_requireWithin p0 1 500 = 0 := by rw [hw]; decide
    exact vx_out (fun x hx => (htb x hx).elim) hlocks hce hcv hcl (fun t9 h9 hal => ⟨(), trivial, ⟨rfl, (by unfold t_X10_pass; rw [if_neg c_3])⟩, hS.F h9⟩) hS.2.2 (Nat.le_of_ble_eq_true rfl) (Nat.le_of_ble_eq_true rfl)
  · have c_2 : t_X10_requireWithin p0 1 500 = 0 := hw.1
    obtain ⟨hP, hD⟩ := cIn_rest (wc := []) (wr := [(h, .inr (16, [.ref l1, .ref l2, .ref l3, .ref l4, .ref l5, .ref l6, .ref l7, .ref l8, .ref l9, .ref ch, .ref co, .int 0, .int 4, .int (-40), .int 20, .int 0, .int 0, .int 100, .int 60, .int 14])), (l4, .inr (5, [.int 0, .ref e, .int 0]))]) hP hD [] [0, 1] rfl rfl (by decide) (by decide) hk1 hFc
    generalize H1 = H at hP hS ⊢
    have hP : va_P D vwCl [(h, .inr (16, [.ref l1, .ref l2, .ref l3, .ref l4, .ref l5, .ref l6, .ref l7, .ref l8, .ref l9, .ref ch, .ref co, .int 0, .int 4, .int (-40), .int 20, .int 0, .int 0, .int 100, .int 60, .int 14])), (l4, .inr (5, [.int 0, .ref e, .int 0]))] H := hP
    have hD : va_D A [(h, .inr (16, [.ref l1, .ref l2, .ref l3, .ref l4, .ref l5, .ref l6, .ref l7, .ref l8, .ref l9, .ref ch, .ref co, .int 0, .int 4, .int (-40), .int 20, .int 0, .int 0, .int 100, .int 60, .int 14])), (l4, .inr (5, [.int 0, .ref e, .int 0]))] := hD
    refine W.widen (k := 1) (n := 6) (Nat.le_of_ble_eq_true rfl) (Nat.le_of_ble_eq_true rfl) ?_
    refine lv_aload_n hx hb dX10_pass_8 rfl (lv_at hl 0 rfl) ?_
    refine va_get (D := D) (ci := 16) (v := .int 0) (C := RX10) (T := TX10) (N := 20) hx hb hts iw_RX10_wsX10_pass hown hK hP 0 rfl rfl 15 (by decide) (hts (.fieldLink RX10 64 "CoatLine" "hour" "I") (by decide +kernel)) (fun _ h9 => h9) rfl dX10_pass_9 ?_
    refine lv_iload_n hx hb dX10_pass_12 rfl (lv_at hl 1 rfl) ?_
    refine lv_iadd hx hb dX10_pass_13 ?_
    refine lv_sipush (v := 9999) hx hb dX10_pass_14 (by decide) ?_
    refine lv_icmp_le (tgt := 31) hx hb dX10_pass_17 (by decide) (fun c_4 => ?_) (fun c_4 => absurd (rw_pass c_2) c_4)
    refine lv_aload_n hx hb dX10_pass_31 rfl (lv_at hl 0 rfl) ?_
    refine va_get (D := D) (ci := 16) (v := .int 0) (C := RX10) (T := TX10) (N := 20) hx hb hts iw_RX10_wsX10_pass hown hK hP 0 rfl rfl 15 (by decide) (hts (.fieldLink RX10 64 "CoatLine" "hour" "I") (by decide +kernel)) (fun _ h9 => h9) rfl dX10_pass_32 ?_
    refine lv_istore_n (lv' := [(2, .int 0), (0, .ref h), (1, .int p0)]) hx hb dX10_pass_35 rfl hl (by decide) rfl (fun ls hl => ?_)
    refine lv_aload_n hx hb dX10_pass_36 rfl (lv_at hl 1 rfl) ?_
    refine lv_dup hx hb dX10_pass_37 rfl ?_
    refine va_get (D := D) (ci := 16) (v := .int 0) (C := RX10) (T := TX10) (N := 20) hx hb hts iw_RX10_wsX10_pass hown hK hP 0 rfl rfl 15 (by decide) (hts (.fieldLink RX10 64 "CoatLine" "hour" "I") (by decide +kernel)) (fun _ h9 => h9) rfl dX10_pass_38 ?_
    refine lv_iload_n hx hb dX10_pass_41 rfl (lv_at hl 2 rfl) ?_
    refine lv_iadd hx hb dX10_pass_42 ?_
    refine va_put (D := D) (ci := 16) (v := .int (0 + p0)) (ty := .int) (C := RX10) (T := TX10) (N := 20) hx hb hts iw_RX10_wsX10_pass tyX10 tyX10_ok nmX10 hown hK hP hD hS 0 rfl rfl 15 (by decide) (hts (.fieldLink RX10 64 "CoatLine" "hour" "I") (by decide +kernel)) (fun _ h9 => h9) rfl (by decide +kernel) rfl rfl (Nat.le_of_ble_eq_true rfl) dX10_pass_43 (fun H locs hP hD hS => ?_)
    have hP : va_P D vwCl [(h, .inr (16, [.ref l1, .ref l2, .ref l3, .ref l4, .ref l5, .ref l6, .ref l7, .ref l8, .ref l9, .ref ch, .ref co, .int 0, .int 4, .int (-40), .int 20, .int (0 + p0), .int 0, .int 100, .int 60, .int 14])), (l4, .inr (5, [.int 0, .ref e, .int 0]))] H := hP
    have hD : va_D A [(h, .inr (16, [.ref l1, .ref l2, .ref l3, .ref l4, .ref l5, .ref l6, .ref l7, .ref l8, .ref l9, .ref ch, .ref co, .int 0, .int 4, .int (-40), .int 20, .int (0 + p0), .int 0, .int 100, .int 60, .int 14])), (l4, .inr (5, [.int 0, .ref e, .int 0]))] := hD
    refine lv_iconst (v := 0) hx hb dX10_pass_46 (by decide) ?_
    refine lv_istore_n (lv' := [(3, .int 0), (2, .int 0), (0, .ref h), (1, .int p0)]) hx hb dX10_pass_47 rfl hl (by decide) rfl (fun ls hl => ?_)
    refine lv_iload_n hx hb dX10_pass_48 rfl (lv_at hl 0 rfl) ?_
    refine lv_aload_n hx hb dX10_pass_49 rfl (lv_at hl 2 rfl) ?_
    refine va_get (D := D) (ci := 16) (v := .ref l4) (C := RX10) (T := TX10) (N := 20) hx hb hts iw_RX10_wsX10_pass hown hK hP 0 rfl rfl 3 (by decide) (hts (.fieldLink RX10 22 "CoatLine" "cells" "Ljava/util/ArrayList;") (by decide +kernel)) (fun _ h9 => h9) rfl dX10_pass_50 ?_
    refine vp_callSi (va_Run.run (va_runV (As := []) (rest := [.int 0]) ⟨hx, hb, hml, hown, hts⟩ (c_Jx4a65c_size_8abf5 l hst D e l4 0 e 0 H.size) (cwV 0 hts gX10_pass_Jx4a65c_size_8abf5 rfl rfl rfl (by decide +kernel) ⟨Nat.le_of_ble_eq_true rfl, Nat.le_of_ble_eq_true rfl⟩) ⟨cIn_blind, va_recv hK hP (ci := 5) (q0 := 1) rfl rfl, cIn_go hK hP hD hE hS hA [1] rfl rfl (by decide) [] rfl⟩ rfl rfl hl.1 rfl (lv_room (Nat.le_of_ble_eq_true rfl)) dX10_pass_53 ⟨Nat.le_of_ble_eq_true rfl, Nat.le_of_ble_eq_true rfl⟩)) (fun r_5 hw => ?_)
    have hw : r_5 = 0 := hw.trans (by first | rfl | decide +kernel)
    subst hw
    refine lv_icmp_ge (tgt := 94) hx hb dX10_pass_56 (by decide) (fun c_6 => ?_) (fun c_6 => absurd (show (0 : Int32) ≤ 0 from by decide +kernel) c_6)
    refine lv_aload_n hx hb dX10_pass_94 rfl (lv_at hl 2 rfl) ?_
    refine va_get (D := D) (ci := 16) (v := .int (0 + p0)) (C := RX10) (T := TX10) (N := 20) hx hb hts iw_RX10_wsX10_pass hown hK hP 0 rfl rfl 15 (by decide) (hts (.fieldLink RX10 64 "CoatLine" "hour" "I") (by decide +kernel)) (fun _ h9 => h9) rfl dX10_pass_95 ?_
    refine vx_ret ?_
    exact W.iret (v := (0 + p0)) hx hb hr (fun t ht hW => ⟨⟨(0 + p0), (), rfl, ⟨(by unfold t_X10_pass; rw [if_pos c_2]), (by unfold v_X10_pass; rw [if_pos c_2])⟩, trivial⟩, hS.F ht⟩) hS.2.2 dX10_pass_98
-- X10_listCandidates
set_option maxHeartbeats 4000000 in
set_option maxRecDepth 100000 in
theorem c_X10_listCandidates (l : Launch) (hst : l.stackTraces = false) (D : va_G) (e : Nat) (h : Nat) (l1 : Nat) (l2 : Nat) (l3 : Nat) (l4 : Nat) (l5 : Nat) (l6 : Nat) (l7 : Nat) (l8 : Nat) (l9 : Nat) (ch : Nat) (co : Nat) (p0 : Int32) (sz : Nat) : Met l yX10_listCandidates wsX10_listCandidates ({ frames := 12, cells := 0, slots := 0, locals := 220 }) (va_Pc [.ref h, .int p0] (cIn D [] [(h, .inr (16, [.ref l1, .ref l2, .ref l3, .ref l4, .ref l5, .ref l6, .ref l7, .ref l8, .ref l9, .ref ch, .ref co, .int 0, .int 4, .int (-40), .int 20, .int 0, .int 0, .int 100, .int 60, .int 14])), (l4, .inr (5, [.int 0, .ref e, .int 0])), (l9, .inr (5, [.int 0, .ref e, .int 0]))] e sz)) (va_Qv (fun (_ : Unit) => True) (fun (_ : Unit) (t : State) => va_P D vwCl [(h, .inr (16, [.ref l1, .ref l2, .ref l3, .ref l4, .ref l5, .ref l6, .ref l7, .ref l8, .ref l9, .ref ch, .ref co, .int 0, .int 4, .int (-40), .int 20, .int 0, .int 0, .int 100, .int 60, .int 14])), (l4, .inr (5, [.int 0, .ref e, .int 0])), (l9, .inr (5, [.int 1, .ref e, .int 0]))] t.heap ∧ va_K D vwCl [] t ∧ va_D (va_A [(h, .inr (16, [.ref l1, .ref l2, .ref l3, .ref l4, .ref l5, .ref l6, .ref l7, .ref l8, .ref l9, .ref ch, .ref co, .int 0, .int 4, .int (-40), .int 20, .int 0, .int 0, .int 100, .int 60, .int 14])), (l4, .inr (5, [.int 0, .ref e, .int 0])), (l9, .inr (5, [.int 0, .ref e, .int 0]))] sz) [(h, .inr (16, [.ref l1, .ref l2, .ref l3, .ref l4, .ref l5, .ref l6, .ref l7, .ref l8, .ref l9, .ref ch, .ref co, .int 0, .int 4, .int (-40), .int 20, .int 0, .int 0, .int 100, .int 60, .int 14])), (l4, .inr (5, [.int 0, .ref e, .int 0])), (l9, .inr (5, [.int 1, .ref e, .int 0]))]) (va_A [(h, .inr (16, [.ref l1, .ref l2, .ref l3, .ref l4, .ref l5, .ref l6, .ref l7, .ref l8, .ref l9, .ref ch, .ref co, .int 0, .int 4, .int (-40), .int 20, .int 0, .int 0, .int 100, .int 60, .int 14])), (l4, .inr (5, [.int 0, .ref e, .int 0])), (l9, .inr (5, [.int 0, .ref e, .int 0]))] sz)) 0 0 (va_A [(h, .inr (16, [.ref l1, .ref l2, .ref l3, .ref l4, .ref l5, .ref l6, .ref l7, .ref l8, .ref l9, .ref ch, .ref co, .int 0, .int 4, .int (-40), .int 20, .int 0, .int 0, .int 100, .int 60, .int 14])), (l4, .inr (5, [.int 0, .ref e, .int 0])), (l9, .inr (5, [.int 0, .ref e, .int 0]))] sz) := by
  refine Met.ofW (cc := cX10_listCandidates) (maxL := 4) (ret := none) (by decide +kernel) rfl ?_
  intro p e9 s m args below meth c s₁ B hml hv
  obtain ⟨rfl, hsz, hP, hK, hD0, hE0⟩ := hv
  have hx := B.exec
  have hb := B.bytes
  have hr := B.returns
  have hts := atoms_spec (ws := wsX10_listCandidates) B.pre
  have hown : s.vm.findClass RX10 = some m.cls := findClass_of_methodNamed B.named
  have hlocks := B.notSynchronized
  subst hsz
  have hD := hD0.self (sz := s.heap.size)
  generalize hAe : va_A [(h, .inr (16, [.ref l1, .ref l2, .ref l3, .ref l4, .ref l5, .ref l6, .ref l7, .ref l8, .ref l9, .ref ch, .ref co, .int 0, .int 4, .int (-40), .int 20, .int 0, .int 0, .int 100, .int 60, .int 14])), (l4, .inr (5, [.int 0, .ref e, .int 0])), (l9, .inr (5, [.int 0, .ref e, .int 0]))] s.heap.size = A at hD hE0 ⊢
  have hA : ∀ q : Nat, s.heap.size ≤ q → A q := fun q h => by rw [← hAe]; exact Or.inr h
  have hS : va_S A s.heap s.heap [] := va_S.rf
  have hE := hE0
  have hP : va_P D vwCl [(h, .inr (16, [.ref l1, .ref l2, .ref l3, .ref l4, .ref l5, .ref l6, .ref l7, .ref l8, .ref l9, .ref ch, .ref co, .int 0, .int 4, .int (-40), .int 20, .int 0, .int 0, .int 100, .int 60, .int 14])), (l4, .inr (5, [.int 0, .ref e, .int 0])), (l9, .inr (5, [.int 0, .ref e, .int 0]))] s.heap := hP
  have hl := lv_entry ([.ref h, .int p0]) (n := 4) (Nat.le_of_ble_eq_true rfl)
  rw [lg_entry_eq]
  generalize (lg_sl ([.ref h, .int p0]) ++ List.replicate (4 - (lg_sl ([.ref h, .int p0])).length) Slot.unset).toArray = ls at hl ⊢
  have hl : lv_has ls 4 [(0, .ref h), (1, .int p0)] := hl
  refine lv_aload_n hx hb dX10_listCandidates_0 rfl (lv_at hl 0 rfl) ?_
  refine va_get (D := D) (ci := 16) (v := .ref l9) (C := RX10) (T := TX10) (N := 20) hx hb hts iw_RX10_wsX10_listCandidates hown hK hP 0 rfl rfl 8 (by decide) (hts (.fieldLink RX10 37 "CoatLine" "candidates" "Ljava/util/ArrayList;") (by decide +kernel)) (fun _ h9 => h9) rfl dX10_listCandidates_1 ?_
  have hFc := va_free (wc := [(l9, .inr (5, [.int 0, .ref e, .int 0]))]) hD hS hA [2] rfl
  refine va_callv (va_runV (As := []) (rest := []) ⟨hx, hb, hml, hown, hts⟩ (c_Jx4a65c_clear_da8c8 l hst D e l9 0 s.heap.size) (cwV 0 hts gX10_listCandidates_Jx4a65c_clear_da8c8 rfl rfl rfl (by decide +kernel) ⟨Nat.le_of_ble_eq_true rfl, Nat.le_of_ble_eq_true rfl⟩) ⟨cIn_blind, va_recv hK hP (ci := 5) (q0 := 2) rfl rfl, cIn_go hK hP hD hE hS hA [2] rfl rfl (by decide) [] rfl⟩ rfl rfl hl.1 rfl (lv_room (Nat.le_of_ble_eq_true rfl)) dX10_listCandidates_4 ⟨Nat.le_of_ble_eq_true rfl, Nat.le_of_ble_eq_true rfl⟩) hS (fun q _ h => hFc q h) hFc (fun u t H1 locs ht hvm hw hB hz1 hk1 hS => ?_)
  obtain ⟨hP1, hK1, hD1⟩ := hB
  rw [ht] at hP1
  have hK1 := va_K.moved hvm.symm hK1
  obtain ⟨hP, hD⟩ := va_join (wr := [(h, .inr (16, [.ref l1, .ref l2, .ref l3, .ref l4, .ref l5, .ref l6, .ref l7, .ref l8, .ref l9, .ref ch, .ref co, .int 0, .int 4, .int (-40), .int 20, .int 0, .int 0, .int 100, .int 60, .int 14])), (l4, .inr (5, [.int 0, .ref e, .int 0]))]) (w1 := [(l9, .inr (5, [.int (0 + 1), .ref e, .int 0]))]) hP hD [2] [0, 1] rfl rfl (by decide) (by decide) hk1 hFc hP1 hD1
  generalize H1 = H at hP hS ⊢
  have hP : va_P D vwCl [(h, .inr (16, [.ref l1, .ref l2, .ref l3, .ref l4, .ref l5, .ref l6, .ref l7, .ref l8, .ref l9, .ref ch, .ref co, .int 0, .int 4, .int (-40), .int 20, .int 0, .int 0, .int 100, .int 60, .int 14])), (l4, .inr (5, [.int 0, .ref e, .int 0])), (l9, .inr (5, [.int (0 + 1), .ref e, .int 0]))] H := hP
  have hD : va_D A [(h, .inr (16, [.ref l1, .ref l2, .ref l3, .ref l4, .ref l5, .ref l6, .ref l7, .ref l8, .ref l9, .ref ch, .ref co, .int 0, .int 4, .int (-40), .int 20, .int 0, .int 0, .int 100, .int 60, .int 14])), (l4, .inr (5, [.int 0, .ref e, .int 0])), (l9, .inr (5, [.int (0 + 1), .ref e, .int 0]))] := hD
  refine lv_iconst (v := 0) hx hb dX10_listCandidates_7 (by decide) ?_
  refine lv_istore_n (lv' := [(2, .int 0), (0, .ref h), (1, .int p0)]) hx hb dX10_listCandidates_8 rfl hl (by decide) rfl (fun ls hl => ?_)
  refine lv_iload_n hx hb dX10_listCandidates_9 rfl (lv_at hl 0 rfl) ?_
  refine lv_aload_n hx hb dX10_listCandidates_10 rfl (lv_at hl 1 rfl) ?_
  refine va_get (D := D) (ci := 16) (v := .ref l4) (C := RX10) (T := TX10) (N := 20) hx hb hts iw_RX10_wsX10_listCandidates hown hK hP 0 rfl rfl 3 (by decide) (hts (.fieldLink RX10 22 "CoatLine" "cells" "Ljava/util/ArrayList;") (by decide +kernel)) (fun _ h9 => h9) rfl dX10_listCandidates_11 ?_
  refine vp_callSi (va_Run.run (va_runV (As := []) (rest := [.int 0]) ⟨hx, hb, hml, hown, hts⟩ (c_Jx4a65c_size_8abf5 l hst D e l4 0 e 0 H.size) (cwV 0 hts gX10_listCandidates_Jx4a65c_size_8abf5 rfl rfl rfl (by decide +kernel) ⟨Nat.le_of_ble_eq_true rfl, Nat.le_of_ble_eq_true rfl⟩) ⟨cIn_blind, va_recv hK hP (ci := 5) (q0 := 1) rfl rfl, cIn_go hK hP hD hE hS hA [1] rfl rfl (by decide) [] rfl⟩ rfl rfl hl.1 rfl (lv_room (Nat.le_of_ble_eq_true rfl)) dX10_listCandidates_14 ⟨Nat.le_of_ble_eq_true rfl, Nat.le_of_ble_eq_true rfl⟩)) (fun r_3 hw => ?_)
  have hw : r_3 = 0 := hw.trans (by first | rfl | decide +kernel)
  subst hw
  refine lv_icmp_ge (tgt := 70) hx hb dX10_listCandidates_17 (by decide) (fun c_4 => ?_) (fun c_4 => absurd (show (0 : Int32) ≤ 0 from by decide +kernel) c_4)
  exact W.vret hx hb hr (fun t ht hW => ⟨⟨(), rfl, trivial, ⟨by rw [ht]; exact hP.sub [0, 1, 2] rfl, va_K.moved hW.alike (hK.sub [] rfl), hD.sub [0, 1, 2] (by decide) rfl⟩⟩, hS.F ht⟩) hS.2.2 dX10_listCandidates_70
-- X10_module
def t_X10_module (p0 : Int32) (p1 : Int32) : Int32 := if t_X10_requireWithin p0 2 6 = 0 then (if p1 = 97 then 5 else (if p1 = 98 then 5 else 1)) else 1
set_option maxHeartbeats 4000000 in
set_option maxRecDepth 100000 in
theorem c_X10_module (l : Launch) (hst : l.stackTraces = false) (D : va_G) (e : Nat) (h : Nat) (l1 : Nat) (l2 : Nat) (l3 : Nat) (l4 : Nat) (l5 : Nat) (l6 : Nat) (l7 : Nat) (l8 : Nat) (l9 : Nat) (ch : Nat) (co : Nat) (p0 : Int32) (p1 : Int32) (sz : Nat) : vx_Met l yX10_module wsX10_module ({ frames := 16, cells := 3, slots := 20, locals := 340 }) (va_Pc [.ref h, .int p0, .int p1] (cIn D [] [(h, .inr (16, [.ref l1, .ref l2, .ref l3, .ref l4, .ref l5, .ref l6, .ref l7, .ref l8, .ref l9, .ref ch, .ref co, .int 0, .int 4, .int (-40), .int 20, .int 0, .int 0, .int 100, .int 60, .int 14])), (l4, .inr (5, [.int 0, .ref e, .int 0])), (l9, .inr (5, [.int 0, .ref e, .int 0]))] e sz)) (va_Qv (fun (_ : Unit) => False) (fun (_ : Unit) (_ : State) => True) (va_A [(h, .inr (16, [.ref l1, .ref l2, .ref l3, .ref l4, .ref l5, .ref l6, .ref l7, .ref l8, .ref l9, .ref ch, .ref co, .int 0, .int 4, .int (-40), .int 20, .int 0, .int 0, .int 100, .int 60, .int 14])), (l4, .inr (5, [.int 0, .ref e, .int 0])), (l9, .inr (5, [.int 0, .ref e, .int 0]))] sz)) (vx_X (fun _ : Unit => True) (fun (E : String) (_ : Unit) (_ : State) => (E = "java/lang/IllegalArgumentException" ∧ t_X10_module p0 p1 = 1) ∨ (E = "java/util/NoSuchElementException" ∧ t_X10_module p0 p1 = 5)) (va_A [(h, .inr (16, [.ref l1, .ref l2, .ref l3, .ref l4, .ref l5, .ref l6, .ref l7, .ref l8, .ref l9, .ref ch, .ref co, .int 0, .int 4, .int (-40), .int 20, .int 0, .int 0, .int 100, .int 60, .int 14])), (l4, .inr (5, [.int 0, .ref e, .int 0])), (l9, .inr (5, [.int 0, .ref e, .int 0]))] sz)) 3 20 (va_A [(h, .inr (16, [.ref l1, .ref l2, .ref l3, .ref l4, .ref l5, .ref l6, .ref l7, .ref l8, .ref l9, .ref ch, .ref co, .int 0, .int 4, .int (-40), .int 20, .int 0, .int 0, .int 100, .int 60, .int 14])), (l4, .inr (5, [.int 0, .ref e, .int 0])), (l9, .inr (5, [.int 0, .ref e, .int 0]))] sz) := by
  refine vx_ofW (cc := cX10_module) (maxL := 6) (ret := (some .int)) (by decide +kernel) rfl ?_
  intro p e9 s m args below meth c s₁ B hml htb hv
  obtain ⟨rfl, hsz, hP, hK, hD0, hE0⟩ := hv
  have hx := B.exec
  have hb := B.bytes
  have hr := B.returns
  have hts := atoms_spec (ws := wsX10_module) B.pre
  have hown : s.vm.findClass RX10 = some m.cls := findClass_of_methodNamed B.named
  have hlocks := B.notSynchronized
  subst hsz
  have hD := hD0.self (sz := s.heap.size)
  generalize hAe : va_A [(h, .inr (16, [.ref l1, .ref l2, .ref l3, .ref l4, .ref l5, .ref l6, .ref l7, .ref l8, .ref l9, .ref ch, .ref co, .int 0, .int 4, .int (-40), .int 20, .int 0, .int 0, .int 100, .int 60, .int 14])), (l4, .inr (5, [.int 0, .ref e, .int 0])), (l9, .inr (5, [.int 0, .ref e, .int 0]))] s.heap.size = A at hD hE0 ⊢
  have hA : ∀ q : Nat, s.heap.size ≤ q → A q := fun q h => by rw [← hAe]; exact Or.inr h
  have hS : va_S A s.heap s.heap [] := va_S.rf
  have hE := hE0
  have hP : va_P D vwCl [(h, .inr (16, [.ref l1, .ref l2, .ref l3, .ref l4, .ref l5, .ref l6, .ref l7, .ref l8, .ref l9, .ref ch, .ref co, .int 0, .int 4, .int (-40), .int 20, .int 0, .int 0, .int 100, .int 60, .int 14])), (l4, .inr (5, [.int 0, .ref e, .int 0])), (l9, .inr (5, [.int 0, .ref e, .int 0]))] s.heap := hP
  have hl := lv_entry ([.ref h, .int p0, .int p1]) (n := 6) (Nat.le_of_ble_eq_true rfl)
  rw [lg_entry_eq]
  generalize (lg_sl ([.ref h, .int p0, .int p1]) ++ List.replicate (6 - (lg_sl ([.ref h, .int p0, .int p1])).length) Slot.unset).toArray = ls at hl ⊢
  have hl : lv_has ls 6 [(0, .ref h), (1, .int p0), (2, .int p1)] := hl
  refine lv_iload_n hx hb dX10_module_0 rfl (lv_at hl 1 rfl) ?_
  refine lv_iconst (v := 2) hx hb dX10_module_1 (by decide) ?_
  refine lv_bipush (v := 6) hx hb dX10_module_2 (by decide) ?_
  have hFc := va_free (wc := []) hD hS hA [] rfl
  refine vx_callv (vx_runS (As := [.int p0, .int 2, .int 6]) (rest := []) ⟨hx, hb, hml, hown, hts⟩ (c_X10_requireWithin l hst D e p0 2 6 s.heap.size) (va_cwS 3 hts gX10_module_X10_requireWithin rfl rfl rfl (by decide +kernel) ⟨Nat.le_of_ble_eq_true rfl, Nat.le_of_ble_eq_true rfl⟩) ⟨cIn_blind, cIn_go hK hP hD hE hS hA [] rfl rfl (by decide) [] rfl⟩ rfl rfl hl.1 rfl (lv_room (Nat.le_of_ble_eq_true rfl)) dX10_module_4 ⟨Nat.le_of_ble_eq_true rfl, Nat.le_of_ble_eq_true rfl⟩) hS (fun q _ h => hFc q h) hFc (fun q _ h => hFc q h) (fun E ce q9 u t H1 locs ht hvm hpx hB hz1 hk1 hS hce hcv hcl => ?_) (fun u t H1 locs ht hvm hw hB hz1 hk1 hS => ?_)
  · obtain ⟨rfl, hw⟩ := hB
    have c_3 : ¬ t_X10_requireWithin p0 2 6 = 0 := by rw [hw]; decide
    exact vx_out (fun x hx => (htb x hx).elim) hlocks hce hcv hcl (fun t9 h9 hal => ⟨(), trivial, Or.inl ⟨rfl, (by unfold t_X10_module; rw [if_neg c_3])⟩, hS.F h9⟩) hS.2.2 (Nat.le_of_ble_eq_true rfl) (Nat.le_of_ble_eq_true rfl)
  · have c_2 : t_X10_requireWithin p0 2 6 = 0 := hw.1
    obtain ⟨hP, hD⟩ := cIn_rest (wc := []) (wr := [(h, .inr (16, [.ref l1, .ref l2, .ref l3, .ref l4, .ref l5, .ref l6, .ref l7, .ref l8, .ref l9, .ref ch, .ref co, .int 0, .int 4, .int (-40), .int 20, .int 0, .int 0, .int 100, .int 60, .int 14])), (l4, .inr (5, [.int 0, .ref e, .int 0])), (l9, .inr (5, [.int 0, .ref e, .int 0]))]) hP hD [] [0, 1, 2] rfl rfl (by decide) (by decide) hk1 hFc
    generalize H1 = H at hP hS ⊢
    have hP : va_P D vwCl [(h, .inr (16, [.ref l1, .ref l2, .ref l3, .ref l4, .ref l5, .ref l6, .ref l7, .ref l8, .ref l9, .ref ch, .ref co, .int 0, .int 4, .int (-40), .int 20, .int 0, .int 0, .int 100, .int 60, .int 14])), (l4, .inr (5, [.int 0, .ref e, .int 0])), (l9, .inr (5, [.int 0, .ref e, .int 0]))] H := hP
    have hD : va_D A [(h, .inr (16, [.ref l1, .ref l2, .ref l3, .ref l4, .ref l5, .ref l6, .ref l7, .ref l8, .ref l9, .ref ch, .ref co, .int 0, .int 4, .int (-40), .int 20, .int 0, .int 0, .int 100, .int 60, .int 14])), (l4, .inr (5, [.int 0, .ref e, .int 0])), (l9, .inr (5, [.int 0, .ref e, .int 0]))] := hD
    refine W.widen (k := 1) (n := 6) (Nat.le_of_ble_eq_true rfl) (Nat.le_of_ble_eq_true rfl) ?_
    refine lv_iload_n hx hb dX10_module_7 rfl (lv_at hl 2 rfl) ?_
    refine lv_bipush (v := 97) hx hb dX10_module_8 (by decide) ?_
    refine lv_icmp_eq (tgt := 30) hx hb dX10_module_10 (by decide) (fun c_4 => ?_) (fun c_4 => ?_)
    · refine lv_aload_n hx hb dX10_module_30 rfl (lv_at hl 0 rfl) ?_
      refine lv_iload_n hx hb dX10_module_31 rfl (lv_at hl 2 rfl) ?_
      have hFc := va_free (wc := [(h, .inr (16, [.ref l1, .ref l2, .ref l3, .ref l4, .ref l5, .ref l6, .ref l7, .ref l8, .ref l9, .ref ch, .ref co, .int 0, .int 4, .int (-40), .int 20, .int 0, .int 0, .int 100, .int 60, .int 14])), (l4, .inr (5, [.int 0, .ref e, .int 0])), (l9, .inr (5, [.int 0, .ref e, .int 0]))]) hD hS hA [0, 1, 2] rfl
      refine va_callv (va_runV (As := [.int p1]) (rest := []) ⟨hx, hb, hml, hown, hts⟩ (c_X10_listCandidates l hst D e h l1 l2 l3 l4 l5 l6 l7 l8 l9 ch co p1 H.size) (cwV 1 hts gX10_module_X10_listCandidates rfl rfl rfl (by decide +kernel) ⟨Nat.le_of_ble_eq_true rfl, Nat.le_of_ble_eq_true rfl⟩) ⟨cIn_blind, va_recv hK hP (ci := 16) (q0 := 0) rfl rfl, cIn_go hK hP hD hE hS hA [0, 1, 2] rfl rfl (by decide) [] rfl⟩ rfl rfl hl.1 rfl (lv_room (Nat.le_of_ble_eq_true rfl)) dX10_module_32 ⟨Nat.le_of_ble_eq_true rfl, Nat.le_of_ble_eq_true rfl⟩) hS (fun q _ h => hFc q h) hFc (fun u t H1 locs ht hvm hw hB hz1 hk1 hS => ?_)
      obtain ⟨hP1, hK1, hD1⟩ := hB
      rw [ht] at hP1
      have hK1 := va_K.moved hvm.symm hK1
      obtain ⟨hP, hD⟩ := va_join (wr := []) (w1 := [(h, .inr (16, [.ref l1, .ref l2, .ref l3, .ref l4, .ref l5, .ref l6, .ref l7, .ref l8, .ref l9, .ref ch, .ref co, .int 0, .int 4, .int (-40), .int 20, .int 0, .int 0, .int 100, .int 60, .int 14])), (l4, .inr (5, [.int 0, .ref e, .int 0])), (l9, .inr (5, [.int 1, .ref e, .int 0]))]) hP hD [0, 1, 2] [] rfl rfl (by decide) (by decide) hk1 hFc hP1 hD1
      generalize H1 = H at hP hS ⊢
      have hP : va_P D vwCl [(h, .inr (16, [.ref l1, .ref l2, .ref l3, .ref l4, .ref l5, .ref l6, .ref l7, .ref l8, .ref l9, .ref ch, .ref co, .int 0, .int 4, .int (-40), .int 20, .int 0, .int 0, .int 100, .int 60, .int 14])), (l4, .inr (5, [.int 0, .ref e, .int 0])), (l9, .inr (5, [.int 1, .ref e, .int 0]))] H := hP
      have hD : va_D A [(h, .inr (16, [.ref l1, .ref l2, .ref l3, .ref l4, .ref l5, .ref l6, .ref l7, .ref l8, .ref l9, .ref ch, .ref co, .int 0, .int 4, .int (-40), .int 20, .int 0, .int 0, .int 100, .int 60, .int 14])), (l4, .inr (5, [.int 0, .ref e, .int 0])), (l9, .inr (5, [.int 1, .ref e, .int 0]))] := hD
      refine lv_aload_n hx hb dX10_module_35 rfl (lv_at hl 0 rfl) ?_
      refine va_get (D := D) (ci := 16) (v := .ref l9) (C := RX10) (T := TX10) (N := 20) hx hb hts iw_RX10_wsX10_module hown hK hP 0 rfl rfl 8 (by decide) (hts (.fieldLink RX10 37 "CoatLine" "candidates" "Ljava/util/ArrayList;") (by decide +kernel)) (fun _ h9 => h9) rfl dX10_module_36 ?_
      refine vp_callSi (va_Run.run (va_runV (As := []) (rest := []) ⟨hx, hb, hml, hown, hts⟩ (c_Jx4a65c_size_8abf5 l hst D e l9 1 e 0 H.size) (cwV 0 hts gX10_module_Jx4a65c_size_8abf5 rfl rfl rfl (by decide +kernel) ⟨Nat.le_of_ble_eq_true rfl, Nat.le_of_ble_eq_true rfl⟩) ⟨cIn_blind, va_recv hK hP (ci := 5) (q0 := 2) rfl rfl, cIn_go hK hP hD hE hS hA [2] rfl rfl (by decide) [] rfl⟩ rfl rfl hl.1 rfl (lv_room (Nat.le_of_ble_eq_true rfl)) dX10_module_39 ⟨Nat.le_of_ble_eq_true rfl, Nat.le_of_ble_eq_true rfl⟩)) (fun r_7 hw => ?_)
      have hw : r_7 = 0 := hw.trans (by first | rfl | decide +kernel)
      subst hw
      refine lv_iload_n hx hb dX10_module_42 rfl (lv_at hl 1 rfl) ?_
      refine lv_icmp_ge (tgt := 57) hx hb dX10_module_43 (by decide) (fun c_8 => absurd c_8 (rw_mod c_2)) (fun c_8 => ?_)
      obtain ⟨sa_9, hs_10⟩ := ev_x hE (q := (363, "not so many cells")) (by decide +kernel)
      exact vx_throwSW hx hb hst hown (by decide +kernel) (by decide +kernel) (hts (.classLink RX10 278 "java/util/NoSuchElementException") (by decide +kernel)) (hts (.initialized "java/util/NoSuchElementException") (by decide +kernel)) hs_10 (vx_hat (fun w hw => hts w (hm_wsX10_module_282 w hw)) hn_RX10_282 (vx_c (ev_u hE (w := .castable "java/util/NoSuchElementException" _) (by decide +kernel) rfl) (vx_c (ev_u hE (by decide +kernel) rfl) (vx_c (ev_u hE (by decide +kernel) rfl) (vx_c (ev_u hE (by decide +kernel) rfl) vx_n))))) ht_RX10_278_282 hE.1.1.1 hE.1.1.2 hS (hl.1.trans hml.symm) dX10_module_46 dX10_module_49 dX10_module_50 dX10_module_53 dX10_module_56 (fun x hx => (htb x hx).elim) (Nat.le_of_ble_eq_true rfl) (Nat.le_of_ble_eq_true rfl) (Nat.le_of_ble_eq_true rfl) (Nat.le_of_ble_eq_true rfl) hlocks (fun t hal h1 h2 => ⟨(), trivial, Or.inr (⟨rfl, (by unfold t_X10_module; rw [if_pos c_2, if_pos c_4])⟩), thr_F hS h1 h2⟩) hS.2.2 (Nat.le_of_ble_eq_true rfl) (Nat.le_of_ble_eq_true rfl)
    · refine lv_iload_n hx hb dX10_module_13 rfl (lv_at hl 2 rfl) ?_
      refine lv_bipush (v := 98) hx hb dX10_module_14 (by decide) ?_
      refine lv_icmp_eq (tgt := 30) hx hb dX10_module_16 (by decide) (fun c_11 => ?_) (fun c_11 => ?_)
      · refine lv_aload_n hx hb dX10_module_30 rfl (lv_at hl 0 rfl) ?_
        refine lv_iload_n hx hb dX10_module_31 rfl (lv_at hl 2 rfl) ?_
        have hFc := va_free (wc := [(h, .inr (16, [.ref l1, .ref l2, .ref l3, .ref l4, .ref l5, .ref l6, .ref l7, .ref l8, .ref l9, .ref ch, .ref co, .int 0, .int 4, .int (-40), .int 20, .int 0, .int 0, .int 100, .int 60, .int 14])), (l4, .inr (5, [.int 0, .ref e, .int 0])), (l9, .inr (5, [.int 0, .ref e, .int 0]))]) hD hS hA [0, 1, 2] rfl
        refine va_callv (va_runV (As := [.int p1]) (rest := []) ⟨hx, hb, hml, hown, hts⟩ (c_X10_listCandidates l hst D e h l1 l2 l3 l4 l5 l6 l7 l8 l9 ch co p1 H.size) (cwV 1 hts gX10_module_X10_listCandidates rfl rfl rfl (by decide +kernel) ⟨Nat.le_of_ble_eq_true rfl, Nat.le_of_ble_eq_true rfl⟩) ⟨cIn_blind, va_recv hK hP (ci := 16) (q0 := 0) rfl rfl, cIn_go hK hP hD hE hS hA [0, 1, 2] rfl rfl (by decide) [] rfl⟩ rfl rfl hl.1 rfl (lv_room (Nat.le_of_ble_eq_true rfl)) dX10_module_32 ⟨Nat.le_of_ble_eq_true rfl, Nat.le_of_ble_eq_true rfl⟩) hS (fun q _ h => hFc q h) hFc (fun u t H1 locs ht hvm hw hB hz1 hk1 hS => ?_)
        obtain ⟨hP1, hK1, hD1⟩ := hB
        rw [ht] at hP1
        have hK1 := va_K.moved hvm.symm hK1
        obtain ⟨hP, hD⟩ := va_join (wr := []) (w1 := [(h, .inr (16, [.ref l1, .ref l2, .ref l3, .ref l4, .ref l5, .ref l6, .ref l7, .ref l8, .ref l9, .ref ch, .ref co, .int 0, .int 4, .int (-40), .int 20, .int 0, .int 0, .int 100, .int 60, .int 14])), (l4, .inr (5, [.int 0, .ref e, .int 0])), (l9, .inr (5, [.int 1, .ref e, .int 0]))]) hP hD [0, 1, 2] [] rfl rfl (by decide) (by decide) hk1 hFc hP1 hD1
        generalize H1 = H at hP hS ⊢
        have hP : va_P D vwCl [(h, .inr (16, [.ref l1, .ref l2, .ref l3, .ref l4, .ref l5, .ref l6, .ref l7, .ref l8, .ref l9, .ref ch, .ref co, .int 0, .int 4, .int (-40), .int 20, .int 0, .int 0, .int 100, .int 60, .int 14])), (l4, .inr (5, [.int 0, .ref e, .int 0])), (l9, .inr (5, [.int 1, .ref e, .int 0]))] H := hP
        have hD : va_D A [(h, .inr (16, [.ref l1, .ref l2, .ref l3, .ref l4, .ref l5, .ref l6, .ref l7, .ref l8, .ref l9, .ref ch, .ref co, .int 0, .int 4, .int (-40), .int 20, .int 0, .int 0, .int 100, .int 60, .int 14])), (l4, .inr (5, [.int 0, .ref e, .int 0])), (l9, .inr (5, [.int 1, .ref e, .int 0]))] := hD
        refine lv_aload_n hx hb dX10_module_35 rfl (lv_at hl 0 rfl) ?_
        refine va_get (D := D) (ci := 16) (v := .ref l9) (C := RX10) (T := TX10) (N := 20) hx hb hts iw_RX10_wsX10_module hown hK hP 0 rfl rfl 8 (by decide) (hts (.fieldLink RX10 37 "CoatLine" "candidates" "Ljava/util/ArrayList;") (by decide +kernel)) (fun _ h9 => h9) rfl dX10_module_36 ?_
        refine vp_callSi (va_Run.run (va_runV (As := []) (rest := []) ⟨hx, hb, hml, hown, hts⟩ (c_Jx4a65c_size_8abf5 l hst D e l9 1 e 0 H.size) (cwV 0 hts gX10_module_Jx4a65c_size_8abf5 rfl rfl rfl (by decide +kernel) ⟨Nat.le_of_ble_eq_true rfl, Nat.le_of_ble_eq_true rfl⟩) ⟨cIn_blind, va_recv hK hP (ci := 5) (q0 := 2) rfl rfl, cIn_go hK hP hD hE hS hA [2] rfl rfl (by decide) [] rfl⟩ rfl rfl hl.1 rfl (lv_room (Nat.le_of_ble_eq_true rfl)) dX10_module_39 ⟨Nat.le_of_ble_eq_true rfl, Nat.le_of_ble_eq_true rfl⟩)) (fun r_14 hw => ?_)
        have hw : r_14 = 0 := hw.trans (by first | rfl | decide +kernel)
        subst hw
        refine lv_iload_n hx hb dX10_module_42 rfl (lv_at hl 1 rfl) ?_
        refine lv_icmp_ge (tgt := 57) hx hb dX10_module_43 (by decide) (fun c_15 => absurd c_15 (rw_mod c_2)) (fun c_15 => ?_)
        obtain ⟨sa_16, hs_17⟩ := ev_x hE (q := (363, "not so many cells")) (by decide +kernel)
        exact vx_throwSW hx hb hst hown (by decide +kernel) (by decide +kernel) (hts (.classLink RX10 278 "java/util/NoSuchElementException") (by decide +kernel)) (hts (.initialized "java/util/NoSuchElementException") (by decide +kernel)) hs_17 (vx_hat (fun w hw => hts w (hm_wsX10_module_282 w hw)) hn_RX10_282 (vx_c (ev_u hE (w := .castable "java/util/NoSuchElementException" _) (by decide +kernel) rfl) (vx_c (ev_u hE (by decide +kernel) rfl) (vx_c (ev_u hE (by decide +kernel) rfl) (vx_c (ev_u hE (by decide +kernel) rfl) vx_n))))) ht_RX10_278_282 hE.1.1.1 hE.1.1.2 hS (hl.1.trans hml.symm) dX10_module_46 dX10_module_49 dX10_module_50 dX10_module_53 dX10_module_56 (fun x hx => (htb x hx).elim) (Nat.le_of_ble_eq_true rfl) (Nat.le_of_ble_eq_true rfl) (Nat.le_of_ble_eq_true rfl) (Nat.le_of_ble_eq_true rfl) hlocks (fun t hal h1 h2 => ⟨(), trivial, Or.inr (⟨rfl, (by unfold t_X10_module; rw [if_pos c_2, if_neg c_4, if_pos c_11])⟩), thr_F hS h1 h2⟩) hS.2.2 (Nat.le_of_ble_eq_true rfl) (Nat.le_of_ble_eq_true rfl)
      · obtain ⟨sa_18, hs_19⟩ := ev_x hE (q := (357, "no such sort")) (by decide +kernel)
        exact vx_throwSW hx hb hst hown (by decide +kernel) (by decide +kernel) (hts (.classLink RX10 79 "java/lang/IllegalArgumentException") (by decide +kernel)) (hts (.initialized "java/lang/IllegalArgumentException") (by decide +kernel)) hs_19 (vx_hat (fun w hw => hts w (hm_wsX10_module_83 w hw)) hn_RX10_83 (vx_c (ev_u hE (w := .castable "java/lang/IllegalArgumentException" _) (by decide +kernel) rfl) (vx_c (ev_u hE (by decide +kernel) rfl) (vx_c (ev_u hE (by decide +kernel) rfl) (vx_c (ev_u hE (by decide +kernel) rfl) vx_n))))) ht_RX10_79_83 hE.1.1.1 hE.1.1.2 hS (hl.1.trans hml.symm) dX10_module_19 dX10_module_22 dX10_module_23 dX10_module_26 dX10_module_29 (fun x hx => (htb x hx).elim) (Nat.le_of_ble_eq_true rfl) (Nat.le_of_ble_eq_true rfl) (Nat.le_of_ble_eq_true rfl) (Nat.le_of_ble_eq_true rfl) hlocks (fun t hal h1 h2 => ⟨(), trivial, Or.inl ⟨rfl, (by unfold t_X10_module; rw [if_pos c_2, if_neg c_4, if_neg c_11])⟩, thr_F hS h1 h2⟩) hS.2.2 (Nat.le_of_ble_eq_true rfl) (Nat.le_of_ble_eq_true rfl)
-- X10_freeHourOf
def v_X10_freeHourOf (p0 : Int32) : Int32 := 0
set_option maxHeartbeats 4000000 in
set_option maxRecDepth 100000 in
theorem c_X10_freeHourOf (l : Launch) (hst : l.stackTraces = false) (D : va_G) (e : Nat) (h : Nat) (l1 : Nat) (l2 : Nat) (l3 : Nat) (l4 : Nat) (l5 : Nat) (l6 : Nat) (l7 : Nat) (l8 : Nat) (l9 : Nat) (ch : Nat) (co : Nat) (cI : ClassId) (p0 : Int32) (hin4 : vp_in p0 4) (sz : Nat) : Met l yX10_freeHourOf wsX10_freeHourOf ({ frames := 10, cells := 0, slots := 0, locals := 160 }) (va_Pc [.ref h, .int p0] (cIn D [(cI, .int)] [(h, .inr (16, [.ref l1, .ref l2, .ref l3, .ref l4, .ref l5, .ref l6, .ref l7, .ref l8, .ref l9, .ref ch, .ref co, .int 0, .int 4, .int (-40), .int 20, .int 0, .int 0, .int 100, .int 60, .int 14])), (ch, .inl (cI, 4, .inl (fun _ => 0)))] e sz)) (vp_Si (fun r : Int32 => r = v_X10_freeHourOf p0)) 0 0 (fun _ => False) := by
  refine Met.ofW (cc := cX10_freeHourOf) (maxL := 2) (ret := (some .int)) (by decide +kernel) rfl ?_
  intro p e9 s m args below meth c s₁ B hml hv
  obtain ⟨rfl, hsz, hP, hK, hD0, hE0⟩ := hv
  have hx := B.exec
  have hb := B.bytes
  have hr := B.returns
  have hts := atoms_spec (ws := wsX10_freeHourOf) B.pre
  have hown : s.vm.findClass RX10 = some m.cls := findClass_of_methodNamed B.named
  have hlocks := B.notSynchronized
  subst hsz
  have hD := hD0.self (sz := s.heap.size)
  generalize hAe : va_A [(h, .inr (16, [.ref l1, .ref l2, .ref l3, .ref l4, .ref l5, .ref l6, .ref l7, .ref l8, .ref l9, .ref ch, .ref co, .int 0, .int 4, .int (-40), .int 20, .int 0, .int 0, .int 100, .int 60, .int 14])), (ch, .inl (cI, 4, .inl (fun _ => 0)))] s.heap.size = A at hD hE0 ⊢
  have hA : ∀ q : Nat, s.heap.size ≤ q → A q := fun q h => by rw [← hAe]; exact Or.inr h
  have hS : va_S A s.heap s.heap [] := va_S.rf
  have hE := hE0
  have hP : va_P D vwCl [(h, .inr (16, [.ref l1, .ref l2, .ref l3, .ref l4, .ref l5, .ref l6, .ref l7, .ref l8, .ref l9, .ref ch, .ref co, .int 0, .int 4, .int (-40), .int 20, .int 0, .int 0, .int 100, .int 60, .int 14])), (ch, .inl (cI, 4, .inl (fun _ => 0)))] s.heap := hP
  have hl := lv_entry ([.ref h, .int p0]) (n := 2) (Nat.le_of_ble_eq_true rfl)
  rw [lg_entry_eq]
  generalize (lg_sl ([.ref h, .int p0]) ++ List.replicate (2 - (lg_sl ([.ref h, .int p0])).length) Slot.unset).toArray = ls at hl ⊢
  have hl : lv_has ls 2 [(0, .ref h), (1, .int p0)] := hl
  refine lv_aload_n hx hb dX10_freeHourOf_0 rfl (lv_at hl 0 rfl) ?_
  refine va_get (D := D) (ci := 16) (v := .int 0) (C := RX10) (T := TX10) (N := 20) hx hb hts iw_RX10_wsX10_freeHourOf hown hK hP 0 rfl rfl 15 (by decide) (hts (.fieldLink RX10 64 "CoatLine" "hour" "I") (by decide +kernel)) (fun _ h9 => h9) rfl dX10_freeHourOf_1 ?_
  refine lv_aload_n hx hb dX10_freeHourOf_4 rfl (lv_at hl 0 rfl) ?_
  refine va_get (D := D) (ci := 16) (v := .ref ch) (C := RX10) (T := TX10) (N := 20) hx hb hts iw_RX10_wsX10_freeHourOf hown hK hP 0 rfl rfl 9 (by decide) (hts (.fieldLink RX10 40 "CoatLine" "channelTakenTo" "[I") (by decide +kernel)) (fun _ h9 => h9) rfl dX10_freeHourOf_5 ?_
  refine lv_iload_n hx hb dX10_freeHourOf_8 rfl (lv_at hl 1 rfl) ?_
  refine va_iald hx hb hK hP 1 0 rfl rfl (i := p0) hin4 dX10_freeHourOf_9 ?_
  refine lv_topi (fun z_1 ez_1 => ?_)
  obtain rfl : z_1 = 0 := ez_1.trans rfl
  refine va_mmax hx hb (hml.trans hl.1.symm) hown (hts (.methodLink RX10 531 Lib.Math.max.name) (by decide +kernel)) (hts (.static Lib.Math.max.name) (by decide +kernel)) (hts (.initialized "java/lang/Math") (by decide +kernel)) (hts (.code Lib.Math.max.name Lib.Math.max.code 2 (some .int)) (by decide +kernel)) (Nat.le_of_ble_eq_true rfl) (Nat.le_of_ble_eq_true rfl) (Nat.le_of_ble_eq_true rfl) (Nat.le_of_ble_eq_true rfl) dX10_freeHourOf_10 ?_
  refine lv_topi (fun z_2 ez_2 => ?_)
  obtain rfl : z_2 = 0 := ez_2.trans (by decide +kernel)
  exact W.iret (v := 0) hx hb hr (fun t ht hW => ⟨0, rfl, rfl, ht⟩) (fun _ h => nomatch h) dX10_freeHourOf_13
-- X10_freeAt
def t_X10_freeAt (p0 : Int32) : Int32 := if t_X10_requireChannel p0 = 0 then 0 else 3
def v_X10_freeAt (p0 : Int32) : Int32 := if t_X10_requireChannel p0 = 0 then 0 else 0
set_option maxHeartbeats 4000000 in
set_option maxRecDepth 100000 in
theorem c_X10_freeAt (l : Launch) (hst : l.stackTraces = false) (D : va_G) (e : Nat) (h : Nat) (l1 : Nat) (l2 : Nat) (l3 : Nat) (l4 : Nat) (l5 : Nat) (l6 : Nat) (l7 : Nat) (l8 : Nat) (l9 : Nat) (ch : Nat) (co : Nat) (cI : ClassId) (p0 : Int32) (sz : Nat) : vx_Met l yX10_freeAt wsX10_freeAt ({ frames := 16, cells := 1, slots := 6, locals := 340 }) (va_Pc [.ref h, .int p0] (cIn D [(cI, .int)] [(h, .inr (16, [.ref l1, .ref l2, .ref l3, .ref l4, .ref l5, .ref l6, .ref l7, .ref l8, .ref l9, .ref ch, .ref co, .int 0, .int 4, .int (-40), .int 20, .int 0, .int 0, .int 100, .int 60, .int 14])), (ch, .inl (cI, 4, .inl (fun _ => 0)))] e sz)) (va_Qi (fun (r : Int32) (_ : Unit) => t_X10_freeAt p0 = 0 ∧ r = v_X10_freeAt p0) (fun (_ : Unit) (_ : State) => True) (va_A [(h, .inr (16, [.ref l1, .ref l2, .ref l3, .ref l4, .ref l5, .ref l6, .ref l7, .ref l8, .ref l9, .ref ch, .ref co, .int 0, .int 4, .int (-40), .int 20, .int 0, .int 0, .int 100, .int 60, .int 14])), (ch, .inl (cI, 4, .inl (fun _ => 0)))] sz)) (vx_X (fun _ : Unit => True) (fun (E : String) (_ : Unit) (_ : State) => (E = "java/lang/IndexOutOfBoundsException" ∧ t_X10_freeAt p0 = 3)) (va_A [(h, .inr (16, [.ref l1, .ref l2, .ref l3, .ref l4, .ref l5, .ref l6, .ref l7, .ref l8, .ref l9, .ref ch, .ref co, .int 0, .int 4, .int (-40), .int 20, .int 0, .int 0, .int 100, .int 60, .int 14])), (ch, .inl (cI, 4, .inl (fun _ => 0)))] sz)) 1 6 (va_A [(h, .inr (16, [.ref l1, .ref l2, .ref l3, .ref l4, .ref l5, .ref l6, .ref l7, .ref l8, .ref l9, .ref ch, .ref co, .int 0, .int 4, .int (-40), .int 20, .int 0, .int 0, .int 100, .int 60, .int 14])), (ch, .inl (cI, 4, .inl (fun _ => 0)))] sz) := by
  refine vx_ofW (cc := cX10_freeAt) (maxL := 2) (ret := (some .int)) (by decide +kernel) rfl ?_
  intro p e9 s m args below meth c s₁ B hml htb hv
  obtain ⟨rfl, hsz, hP, hK, hD0, hE0⟩ := hv
  have hx := B.exec
  have hb := B.bytes
  have hr := B.returns
  have hts := atoms_spec (ws := wsX10_freeAt) B.pre
  have hown : s.vm.findClass RX10 = some m.cls := findClass_of_methodNamed B.named
  have hlocks := B.notSynchronized
  subst hsz
  have hD := hD0.self (sz := s.heap.size)
  generalize hAe : va_A [(h, .inr (16, [.ref l1, .ref l2, .ref l3, .ref l4, .ref l5, .ref l6, .ref l7, .ref l8, .ref l9, .ref ch, .ref co, .int 0, .int 4, .int (-40), .int 20, .int 0, .int 0, .int 100, .int 60, .int 14])), (ch, .inl (cI, 4, .inl (fun _ => 0)))] s.heap.size = A at hD hE0 ⊢
  have hA : ∀ q : Nat, s.heap.size ≤ q → A q := fun q h => by rw [← hAe]; exact Or.inr h
  have hS : va_S A s.heap s.heap [] := va_S.rf
  have hE := hE0
  have hP : va_P D vwCl [(h, .inr (16, [.ref l1, .ref l2, .ref l3, .ref l4, .ref l5, .ref l6, .ref l7, .ref l8, .ref l9, .ref ch, .ref co, .int 0, .int 4, .int (-40), .int 20, .int 0, .int 0, .int 100, .int 60, .int 14])), (ch, .inl (cI, 4, .inl (fun _ => 0)))] s.heap := hP
  have hl := lv_entry ([.ref h, .int p0]) (n := 2) (Nat.le_of_ble_eq_true rfl)
  rw [lg_entry_eq]
  generalize (lg_sl ([.ref h, .int p0]) ++ List.replicate (2 - (lg_sl ([.ref h, .int p0])).length) Slot.unset).toArray = ls at hl ⊢
  have hl : lv_has ls 2 [(0, .ref h), (1, .int p0)] := hl
  refine lv_iload_n hx hb dX10_freeAt_0 rfl (lv_at hl 1 rfl) ?_
  have hFc := va_free (wc := []) hD hS hA [] rfl
  refine vx_callv (vx_runS (As := [.int p0]) (rest := []) ⟨hx, hb, hml, hown, hts⟩ (c_X10_requireChannel l hst D e p0 s.heap.size) (va_cwS 1 hts gX10_freeAt_X10_requireChannel rfl rfl rfl (by decide +kernel) ⟨Nat.le_of_ble_eq_true rfl, Nat.le_of_ble_eq_true rfl⟩) ⟨cIn_blind, cIn_go hK hP hD hE hS hA [] rfl rfl (by decide) [] rfl⟩ rfl rfl hl.1 rfl (lv_room (Nat.le_of_ble_eq_true rfl)) dX10_freeAt_1 ⟨Nat.le_of_ble_eq_true rfl, Nat.le_of_ble_eq_true rfl⟩) hS (fun q _ h => hFc q h) hFc (fun q _ h => hFc q h) (fun E ce q9 u t H1 locs ht hvm hpx hB hz1 hk1 hS hce hcv hcl => ?_) (fun u t H1 locs ht hvm hw hB hz1 hk1 hS => ?_)
  · obtain ⟨rfl, hw⟩ := hB
    have c_3 : ¬ t_X10_requireChannel p0 = 0 := by rw [hw]; decide
    exact vx_out (fun x hx => (htb x hx).elim) hlocks hce hcv hcl (fun t9 h9 hal => ⟨(), trivial, ⟨rfl, (by unfold t_X10_freeAt; rw [if_neg c_3])⟩, hS.F h9⟩) hS.2.2 (Nat.le_of_ble_eq_true rfl) (Nat.le_of_ble_eq_true rfl)
  · have c_2 : t_X10_requireChannel p0 = 0 := hw.1
    obtain ⟨hP, hD⟩ := cIn_rest (wc := []) (wr := [(h, .inr (16, [.ref l1, .ref l2, .ref l3, .ref l4, .ref l5, .ref l6, .ref l7, .ref l8, .ref l9, .ref ch, .ref co, .int 0, .int 4, .int (-40), .int 20, .int 0, .int 0, .int 100, .int 60, .int 14])), (ch, .inl (cI, 4, .inl (fun _ => 0)))]) hP hD [] [0, 1] rfl rfl (by decide) (by decide) hk1 hFc
    generalize H1 = H at hP hS ⊢
    have hP : va_P D vwCl [(h, .inr (16, [.ref l1, .ref l2, .ref l3, .ref l4, .ref l5, .ref l6, .ref l7, .ref l8, .ref l9, .ref ch, .ref co, .int 0, .int 4, .int (-40), .int 20, .int 0, .int 0, .int 100, .int 60, .int 14])), (ch, .inl (cI, 4, .inl (fun _ => 0)))] H := hP
    have hD : va_D A [(h, .inr (16, [.ref l1, .ref l2, .ref l3, .ref l4, .ref l5, .ref l6, .ref l7, .ref l8, .ref l9, .ref ch, .ref co, .int 0, .int 4, .int (-40), .int 20, .int 0, .int 0, .int 100, .int 60, .int 14])), (ch, .inl (cI, 4, .inl (fun _ => 0)))] := hD
    refine W.widen (k := 1) (n := 6) (Nat.le_of_ble_eq_true rfl) (Nat.le_of_ble_eq_true rfl) ?_
    refine lv_aload_n hx hb dX10_freeAt_4 rfl (lv_at hl 0 rfl) ?_
    refine lv_iload_n hx hb dX10_freeAt_5 rfl (lv_at hl 1 rfl) ?_
    refine vp_callSi (va_Run.run (va_runV (As := [.int p0]) (rest := []) ⟨hx, hb, hml, hown, hts⟩ (c_X10_freeHourOf l hst D e h l1 l2 l3 l4 l5 l6 l7 l8 l9 ch co cI p0 (rw_chan c_2) H.size) (cwV 1 hts gX10_freeAt_X10_freeHourOf rfl rfl rfl (by decide +kernel) ⟨Nat.le_of_ble_eq_true rfl, Nat.le_of_ble_eq_true rfl⟩) ⟨cIn_blind, va_recv hK hP (ci := 16) (q0 := 0) rfl rfl, cIn_go hK hP hD hE hS hA [0, 1] rfl rfl (by decide) [0] rfl⟩ rfl rfl hl.1 rfl (lv_room (Nat.le_of_ble_eq_true rfl)) dX10_freeAt_6 ⟨Nat.le_of_ble_eq_true rfl, Nat.le_of_ble_eq_true rfl⟩)) (fun r_4 hw => ?_)
    have hw : r_4 = 0 := hw.trans (by first | rfl | decide +kernel)
    subst hw
    refine vx_ret ?_
    exact W.iret (v := 0) hx hb hr (fun t ht hW => ⟨⟨0, (), rfl, ⟨(by unfold t_X10_freeAt; rw [if_pos c_2]), (by unfold v_X10_freeAt; rw [if_pos c_2])⟩, trivial⟩, hS.F ht⟩) hS.2.2 dX10_freeAt_9
