set_option maxRecDepth 20000 in
theorem iw_RX14_wsX14_thrown : ∀ w ∈ u_ws RX14 TX14 21, w ∈ wsX14_thrown := by decide +kernel
set_option maxRecDepth 20000 in
theorem iw_RX14_wsX14_isWrong : ∀ w ∈ u_ws RX14 TX14 21, w ∈ wsX14_isWrong := by decide +kernel
set_option maxRecDepth 20000 in
theorem iw_RX14_wsX14_isMetre : ∀ w ∈ u_ws RX14 TX14 21, w ∈ wsX14_isMetre := by decide +kernel
set_option maxRecDepth 20000 in
theorem iw_RX14_wsX14_isNoPack : ∀ w ∈ u_ws RX14 TX14 21, w ∈ wsX14_isNoPack := by decide +kernel
set_option maxRecDepth 20000 in
theorem iw_RX14_wsX14_left : ∀ w ∈ u_ws RX14 TX14 21, w ∈ wsX14_left := by decide +kernel
set_option maxRecDepth 20000 in
theorem iw_RX14_wsX14_coat : ∀ w ∈ u_ws RX14 TX14 21, w ∈ wsX14_coat := by decide +kernel
set_option maxRecDepth 20000 in
theorem iw_RX14_wsX14_press : ∀ w ∈ u_ws RX14 TX14 21, w ∈ wsX14_press := by decide +kernel
set_option maxRecDepth 20000 in
theorem iw_RX14_wsX14_slit : ∀ w ∈ u_ws RX14 TX14 21, w ∈ wsX14_slit := by decide +kernel
set_option maxRecDepth 20000 in
theorem iw_RX14_wsX14_burr : ∀ w ∈ u_ws RX14 TX14 21, w ∈ wsX14_burr := by decide +kernel
set_option maxRecDepth 20000 in
theorem iw_RX14_wsX14_next : ∀ w ∈ u_ws RX14 TX14 21, w ∈ wsX14_next := by decide +kernel
set_option maxRecDepth 20000 in
theorem iw_RX14_wsX14_wind : ∀ w ∈ u_ws RX14 TX14 21, w ∈ wsX14_wind := by decide +kernel
set_option maxRecDepth 20000 in
theorem iw_RX14_wsX14_cellAt : ∀ w ∈ u_ws RX14 TX14 21, w ∈ wsX14_cellAt := by decide +kernel
set_option maxRecDepth 20000 in
theorem iw_RX14_wsX14_isShort : ∀ w ∈ u_ws RX14 TX14 21, w ∈ wsX14_isShort := by decide +kernel
set_option maxRecDepth 20000 in
theorem iw_RX14_wsX14_isPlated : ∀ w ∈ u_ws RX14 TX14 21, w ∈ wsX14_isPlated := by decide +kernel
set_option maxRecDepth 20000 in
theorem iw_RX14_wsX14_traced : ∀ w ∈ u_ws RX14 TX14 21, w ∈ wsX14_traced := by decide +kernel
set_option maxRecDepth 20000 in
theorem iw_RX14_wsX14_fill : ∀ w ∈ u_ws RX14 TX14 21, w ∈ wsX14_fill := by decide +kernel
set_option maxRecDepth 20000 in
theorem iw_RX14_wsX14_step : ∀ w ∈ u_ws RX14 TX14 21, w ∈ wsX14_step := by decide +kernel
set_option maxRecDepth 20000 in
theorem iw_RX14_wsX14_form : ∀ w ∈ u_ws RX14 TX14 21, w ∈ wsX14_form := by decide +kernel
set_option maxRecDepth 20000 in
theorem iw_RX14_wsX14_sort : ∀ w ∈ u_ws RX14 TX14 21, w ∈ wsX14_sort := by decide +kernel
set_option maxRecDepth 20000 in
theorem iw_RX14_wsX14_cellOf : ∀ w ∈ u_ws RX14 TX14 21, w ∈ wsX14_cellOf := by decide +kernel
set_option maxRecDepth 20000 in
theorem iw_RX14_wsX14_spread : ∀ w ∈ u_ws RX14 TX14 21, w ∈ wsX14_spread := by decide +kernel
set_option maxRecDepth 20000 in
theorem iw_RX14_wsX14_pack : ∀ w ∈ u_ws RX14 TX14 21, w ∈ wsX14_pack := by decide +kernel
set_option maxRecDepth 20000 in
theorem iw_RX14_wsX14_offset : ∀ w ∈ u_ws RX14 TX14 21, w ∈ wsX14_offset := by decide +kernel
set_option maxRecDepth 20000 in
theorem iw_RX14_wsX14_drive : ∀ w ∈ u_ws RX14 TX14 21, w ∈ wsX14_drive := by decide +kernel
set_option maxRecDepth 20000 in
theorem iw_RX14_wsX14_rest : ∀ w ∈ u_ws RX14 TX14 21, w ∈ wsX14_rest := by decide +kernel
set_option maxRecDepth 20000 in
theorem iw_RX14_wsX14_clear : ∀ w ∈ u_ws RX14 TX14 21, w ∈ wsX14_clear := by decide +kernel
set_option maxRecDepth 20000 in
theorem iw_RX14_wsX14_isCovered : ∀ w ∈ u_ws RX14 TX14 21, w ∈ wsX14_isCovered := by decide +kernel
set_option maxRecDepth 20000 in
theorem iw_RX14_wsX14_sisters : ∀ w ∈ u_ws RX14 TX14 21, w ∈ wsX14_sisters := by decide +kernel
set_option maxRecDepth 20000 in
theorem iw_RX14_wsX14_isSister : ∀ w ∈ u_ws RX14 TX14 21, w ∈ wsX14_isSister := by decide +kernel
set_option maxRecDepth 20000 in
theorem iw_RX14_wsX14_gap : ∀ w ∈ u_ws RX14 TX14 21, w ∈ wsX14_gap := by decide +kernel
set_option maxRecDepth 20000 in
theorem iw_RX14_wsX14_dew : ∀ w ∈ u_ws RX14 TX14 21, w ∈ wsX14_dew := by decide +kernel
set_option maxRecDepth 20000 in
theorem iw_RX14_wsX14_room : ∀ w ∈ u_ws RX14 TX14 21, w ∈ wsX14_room := by decide +kernel
set_option maxRecDepth 20000 in
theorem iw_RX14_wsX14_drift : ∀ w ∈ u_ws RX14 TX14 21, w ∈ wsX14_drift := by decide +kernel
set_option maxRecDepth 20000 in
theorem iw_RX14_wsX14_bounds : ∀ w ∈ u_ws RX14 TX14 21, w ∈ wsX14_bounds := by decide +kernel
set_option maxRecDepth 20000 in
theorem iw_RX14_wsX14_reset : ∀ w ∈ u_ws RX14 TX14 21, w ∈ wsX14_reset := by decide +kernel
set_option maxRecDepth 20000 in
theorem iw_RX14_wsX14_sharpen : ∀ w ∈ u_ws RX14 TX14 21, w ∈ wsX14_sharpen := by decide +kernel
set_option maxRecDepth 20000 in
theorem iw_RX14_wsX14_time : ∀ w ∈ u_ws RX14 TX14 21, w ∈ wsX14_time := by decide +kernel
set_option maxRecDepth 20000 in
theorem iw_RX14_wsX14_givenBack : ∀ w ∈ u_ws RX14 TX14 21, w ∈ wsX14_givenBack := by decide +kernel
set_option maxRecDepth 20000 in
theorem iw_RX14_wsX14_isSound : ∀ w ∈ u_ws RX14 TX14 21, w ∈ wsX14_isSound := by decide +kernel
-- X14_thrown
def v_X14_thrown (th : Int32) : Int32 := th
set_option maxHeartbeats 4000000 in
set_option maxRecDepth 100000 in
theorem c_X14_thrown (l : Launch) (hst : l.stackTraces = false) (D : va_G) (e : Nat) (h : Nat) (th : Int32) (fs : List Value) (sz : Nat) : Met l yX14_thrown wsX14_thrown ({ frames := 8, cells := 0, slots := 0, locals := 100 }) (va_Pc [.ref h] (cIn D [] [(h, .inr (20, .int th :: fs))] e sz)) (vp_Si (fun r : Int32 => r = v_X14_thrown th)) 0 0 (fun _ => False) := by
  refine Met.ofW (cc := cX14_thrown) (maxL := 1) (ret := (some .int)) (by decide +kernel) rfl ?_
  intro p e9 s m args below meth c s₁ B hml hv
  obtain ⟨rfl, hsz, hP, hK, hD0, hE0⟩ := hv
  have hx := B.exec
  have hb := B.bytes
  have hr := B.returns
  have hts := atoms_spec (ws := wsX14_thrown) B.pre
  have hown : s.vm.findClass RX14 = some m.cls := findClass_of_methodNamed B.named
  have hlocks := B.notSynchronized
  subst hsz
  have hD := hD0.self (sz := s.heap.size)
  generalize hAe : va_A [(h, .inr (20, .int th :: fs))] s.heap.size = A at hD hE0 ⊢
  have hA : ∀ q : Nat, s.heap.size ≤ q → A q := fun q h => by rw [← hAe]; exact Or.inr h
  have hS : va_S A s.heap s.heap [] := va_S.rf
  have hE := hE0
  have hP : va_P D vwCl [(h, .inr (20, .int th :: fs))] s.heap := hP
  have hl := lv_entry ([.ref h]) (n := 1) (Nat.le_of_ble_eq_true rfl)
  rw [lg_entry_eq]
  generalize (lg_sl ([.ref h]) ++ List.replicate (1 - (lg_sl ([.ref h])).length) Slot.unset).toArray = ls at hl ⊢
  have hl : lv_has ls 1 [(0, .ref h)] := hl
  refine lv_aload_n hx hb dX14_thrown_0 rfl (lv_at hl 0 rfl) ?_
  refine va_get (D := D) (ci := 20) (v := .int th) (C := RX14) (T := TX14) (N := 21) hx hb hts iw_RX14_wsX14_thrown hown hK hP 0 rfl rfl 0 (by decide) (hts (.fieldLink RX14 60 "CoatLineModel" "thrown" "I") (by decide +kernel)) (fun _ h9 => h9) rfl dX14_thrown_1 ?_
  exact W.iret (v := th) hx hb hr (fun t ht hW => ⟨th, rfl, rfl, ht⟩) (fun _ h => nomatch h) dX14_thrown_4
-- X14_isWrong
def v_X14_isWrong (th : Int32) (p0 : Int32) : Int32 := if p0 ≤ 0 then 0 else 1
set_option maxHeartbeats 4000000 in
set_option maxRecDepth 100000 in
theorem c_X14_isWrong (l : Launch) (hst : l.stackTraces = false) (D : va_G) (e : Nat) (h : Nat) (th : Int32) (fs : List Value) (p0 : Int32) (sz : Nat) : Met l yX14_isWrong wsX14_isWrong ({ frames := 8, cells := 0, slots := 0, locals := 100 }) (va_Pc [.ref h, .int p0] (cIn D [] [(h, .inr (20, .int th :: fs))] e sz)) (va_Qi (fun (r : Int32) (_ : Unit) => r = v_X14_isWrong th p0) (fun (_ : Unit) (t : State) => va_P D vwCl [(h, .inr (20, .int p0 :: fs))] t.heap ∧ va_K D vwCl [] t ∧ va_D (va_A [(h, .inr (20, .int th :: fs))] sz) [(h, .inr (20, .int p0 :: fs))]) (va_A [(h, .inr (20, .int th :: fs))] sz)) 0 0 (va_A [(h, .inr (20, .int th :: fs))] sz) := by
  refine Met.ofW (cc := cX14_isWrong) (maxL := 2) (ret := (some .boolean)) (by decide +kernel) rfl ?_
  intro p e9 s m args below meth c s₁ B hml hv
  obtain ⟨rfl, hsz, hP, hK, hD0, hE0⟩ := hv
  have hx := B.exec
  have hb := B.bytes
  have hr := B.returns
  have hts := atoms_spec (ws := wsX14_isWrong) B.pre
  have hown : s.vm.findClass RX14 = some m.cls := findClass_of_methodNamed B.named
  have hlocks := B.notSynchronized
  subst hsz
  have hD := hD0.self (sz := s.heap.size)
  generalize hAe : va_A [(h, .inr (20, .int th :: fs))] s.heap.size = A at hD hE0 ⊢
  have hA : ∀ q : Nat, s.heap.size ≤ q → A q := fun q h => by rw [← hAe]; exact Or.inr h
  have hS : va_S A s.heap s.heap [] := va_S.rf
  have hE := hE0
  have hP : va_P D vwCl [(h, .inr (20, .int th :: fs))] s.heap := hP
  have hl := lv_entry ([.ref h, .int p0]) (n := 2) (Nat.le_of_ble_eq_true rfl)
  rw [lg_entry_eq]
  generalize (lg_sl ([.ref h, .int p0]) ++ List.replicate (2 - (lg_sl ([.ref h, .int p0])).length) Slot.unset).toArray = ls at hl ⊢
  have hl : lv_has ls 2 [(0, .ref h), (1, .int p0)] := hl
  refine lv_aload_n hx hb dX14_isWrong_0 rfl (lv_at hl 0 rfl) ?_
  refine lv_iload_n hx hb dX14_isWrong_1 rfl (lv_at hl 1 rfl) ?_
  refine va_put (D := D) (ci := 20) (v := .int p0) (ty := .int) (C := RX14) (T := TX14) (N := 21) hx hb hts iw_RX14_wsX14_isWrong tyX14 tyX14_ok nmX14 hown hK hP hD hS 0 rfl rfl 0 (by decide) (hts (.fieldLink RX14 60 "CoatLineModel" "thrown" "I") (by decide +kernel)) (fun _ h9 => h9) rfl (by decide +kernel) rfl rfl (Nat.succ_pos _) dX14_isWrong_2 (fun H locs hP hD hS => ?_)
  have hP : va_P D vwCl [(h, .inr (20, .int p0 :: fs))] H := hP
  have hD : va_D A [(h, .inr (20, .int p0 :: fs))] := hD
  refine lv_iload_n hx hb dX14_isWrong_5 rfl (lv_at hl 1 rfl) ?_
  refine lv_if_le (tgt := 13) hx hb dX14_isWrong_6 (by decide) (fun c_1 => ?_) (fun c_1 => ?_)
  · refine lv_iconst (v := 0) hx hb dX14_isWrong_13 (by decide) ?_
    exact W.zret (v := 0) hx hb hr (by first | rfl | decide +kernel) (fun t ht hW => ⟨⟨0, (), rfl, (by unfold v_X14_isWrong; rw [if_pos c_1]), ⟨by rw [ht]; exact hP.sub [0] rfl, va_K.moved hW.alike (hK.sub [] rfl), hD.sub [0] (by decide) rfl⟩⟩, hS.F ht⟩) hS.2.2 dX14_isWrong_14
  · refine lv_iconst (v := 1) hx hb dX14_isWrong_9 (by decide) ?_
    refine lv_goto (tgt := 14) hx hb dX14_isWrong_10 (by decide) ?_
    exact W.zret (v := 1) hx hb hr (by first | rfl | decide +kernel) (fun t ht hW => ⟨⟨1, (), rfl, (by unfold v_X14_isWrong; rw [if_neg c_1]), ⟨by rw [ht]; exact hP.sub [0] rfl, va_K.moved hW.alike (hK.sub [] rfl), hD.sub [0] (by decide) rfl⟩⟩, hS.F ht⟩) hS.2.2 dX14_isWrong_14
-- X14_isBetween
def v_X14_isBetween (p0 : Int32) (p1 : Int32) (p2 : Int32) : Int32 := if p0 < p1 then 0 else (if p2 < p0 then 0 else 1)
set_option maxHeartbeats 4000000 in
set_option maxRecDepth 100000 in
theorem c_X14_isBetween (l : Launch) (hst : l.stackTraces = false) (D : va_G) (e : Nat) (p0 : Int32) (p1 : Int32) (p2 : Int32) (sz : Nat) : Met l yX14_isBetween wsX14_isBetween ({ frames := 8, cells := 0, slots := 0, locals := 100 }) (va_Pc [.int p0, .int p1, .int p2] (cIn D [] [] e sz)) (vp_Si (fun r : Int32 => r = v_X14_isBetween p0 p1 p2)) 0 0 (fun _ => False) := by
  refine Met.ofW (cc := cX14_isBetween) (maxL := 3) (ret := (some .boolean)) (by decide +kernel) rfl ?_
  intro p e9 s m args below meth c s₁ B hml hv
  obtain ⟨rfl, hsz, hP, hK, hD0, hE0⟩ := hv
  have hx := B.exec
  have hb := B.bytes
  have hr := B.returns
  have hts := atoms_spec (ws := wsX14_isBetween) B.pre
  have hown : s.vm.findClass RX14 = some m.cls := findClass_of_methodNamed B.named
  have hlocks := B.notSynchronized
  subst hsz
  have hD := hD0.self (sz := s.heap.size)
  generalize hAe : va_A [] s.heap.size = A at hD hE0 ⊢
  have hA : ∀ q : Nat, s.heap.size ≤ q → A q := fun q h => by rw [← hAe]; exact Or.inr h
  have hS : va_S A s.heap s.heap [] := va_S.rf
  have hE := hE0
  have hP : va_P D vwCl [] s.heap := hP
  have hl := lv_entry ([.int p0, .int p1, .int p2]) (n := 3) (Nat.le_of_ble_eq_true rfl)
  rw [lg_entry_eq]
  generalize (lg_sl ([.int p0, .int p1, .int p2]) ++ List.replicate (3 - (lg_sl ([.int p0, .int p1, .int p2])).length) Slot.unset).toArray = ls at hl ⊢
  have hl : lv_has ls 3 [(0, .int p0), (1, .int p1), (2, .int p2)] := hl
  refine lv_iload_n hx hb dX14_isBetween_0 rfl (lv_at hl 1 rfl) ?_
  refine lv_iload_n hx hb dX14_isBetween_1 rfl (lv_at hl 0 rfl) ?_
  refine lv_icmp_gt (tgt := 14) hx hb dX14_isBetween_2 (by decide) (fun c_1 => ?_) (fun c_1 => ?_)
  · refine lv_iconst (v := 0) hx hb dX14_isBetween_14 (by decide) ?_
    exact W.zret (v := 0) hx hb hr (by first | rfl | decide +kernel) (fun t ht hW => ⟨0, rfl, (by unfold v_X14_isBetween; rw [if_pos c_1]), ht⟩) (fun _ h => nomatch h) dX14_isBetween_15
  · refine lv_iload_n hx hb dX14_isBetween_5 rfl (lv_at hl 0 rfl) ?_
    refine lv_iload_n hx hb dX14_isBetween_6 rfl (lv_at hl 2 rfl) ?_
    refine lv_icmp_gt (tgt := 14) hx hb dX14_isBetween_7 (by decide) (fun c_2 => ?_) (fun c_2 => ?_)
    · refine lv_iconst (v := 0) hx hb dX14_isBetween_14 (by decide) ?_
      exact W.zret (v := 0) hx hb hr (by first | rfl | decide +kernel) (fun t ht hW => ⟨0, rfl, (by unfold v_X14_isBetween; rw [if_neg c_1, if_pos c_2]), ht⟩) (fun _ h => nomatch h) dX14_isBetween_15
    · refine lv_iconst (v := 1) hx hb dX14_isBetween_10 (by decide) ?_
      refine lv_goto (tgt := 15) hx hb dX14_isBetween_11 (by decide) ?_
      exact W.zret (v := 1) hx hb hr (by first | rfl | decide +kernel) (fun t ht hW => ⟨1, rfl, (by unfold v_X14_isBetween; rw [if_neg c_1, if_neg c_2]), ht⟩) (fun _ h => nomatch h) dX14_isBetween_15
theorem bt_0 (p0 : Int32) : v_X14_isBetween p0 0 (-1) = 0 := by
  unfold v_X14_isBetween
  simp only [Int32.lt_iff_toInt_lt, Int32.le_iff_toInt_le, show (0 : Int32).toInt = 0 from rfl, show (-1 : Int32).toInt = -1 from rfl]
  repeat' split
  all_goals first | rfl | (exfalso; omega)
-- X14_isOf
def v_X14_isOf (mc : Int32) (p0 : Int32) : Int32 := 0
set_option maxHeartbeats 4000000 in
set_option maxRecDepth 100000 in
theorem c_X14_isOf (l : Launch) (hst : l.stackTraces = false) (D : va_G) (e : Nat) (a : Nat) (mc : Int32) (ed : Nat) (p0 : Int32) (sz : Nat) : Met l yX14_isOf wsX14_isOf ({ frames := 10, cells := 0, slots := 0, locals := 160 }) (va_Pc [.ref a, .int p0] (cIn D [] [(a, .inr (5, [.int mc, .ref ed, .int 0]))] e sz)) (vp_Si (fun r : Int32 => r = v_X14_isOf mc p0)) 0 0 (fun _ => False) := by
  refine Met.ofW (cc := cX14_isOf) (maxL := 2) (ret := (some .boolean)) (by decide +kernel) rfl ?_
  intro p e9 s m args below meth c s₁ B hml hv
  obtain ⟨rfl, hsz, hP, hK, hD0, hE0⟩ := hv
  have hx := B.exec
  have hb := B.bytes
  have hr := B.returns
  have hts := atoms_spec (ws := wsX14_isOf) B.pre
  have hown : s.vm.findClass RX14 = some m.cls := findClass_of_methodNamed B.named
  have hlocks := B.notSynchronized
  subst hsz
  have hD := hD0.self (sz := s.heap.size)
  generalize hAe : va_A [(a, .inr (5, [.int mc, .ref ed, .int 0]))] s.heap.size = A at hD hE0 ⊢
  have hA : ∀ q : Nat, s.heap.size ≤ q → A q := fun q h => by rw [← hAe]; exact Or.inr h
  have hS : va_S A s.heap s.heap [] := va_S.rf
  have hE := hE0
  have hP : va_P D vwCl [(a, .inr (5, [.int mc, .ref ed, .int 0]))] s.heap := hP
  have hl := lv_entry ([.ref a, .int p0]) (n := 2) (Nat.le_of_ble_eq_true rfl)
  rw [lg_entry_eq]
  generalize (lg_sl ([.ref a, .int p0]) ++ List.replicate (2 - (lg_sl ([.ref a, .int p0])).length) Slot.unset).toArray = ls at hl ⊢
  have hl : lv_has ls 2 [(0, .ref a), (1, .int p0)] := hl
  refine lv_iload_n hx hb dX14_isOf_0 rfl (lv_at hl 1 rfl) ?_
  refine lv_iconst (v := 0) hx hb dX14_isOf_1 (by decide) ?_
  refine lv_aload_n hx hb dX14_isOf_2 rfl (lv_at hl 0 rfl) ?_
  refine va_csFi (va_runF (As := []) (rest := [.int 0, .int p0]) (hK.1 5 _ rfl).2 ⟨hx, hb, hml, hown, hts⟩ (c_Jx4a65c_size_8abf5 l hst D e a mc ed 0 s.heap.size) (va_cwF 0 hts gX14_isOf_Jx4a65c_size_8abf5_f63Jx4a65c rfl rfl rfl (ev_f hE (q := (RJx4a65c, ⟨"java/util/List", "size", "()I"⟩, yJx4a65c_size_8abf5)) (by decide +kernel)) (by decide +kernel) ⟨Nat.le_of_ble_eq_true rfl, Nat.le_of_ble_eq_true rfl⟩) ⟨cIn_blind, va_recv hK hP (ci := 5) (q0 := 0) rfl rfl, cIn_go hK hP hD hE hS hA [0] rfl rfl (by decide) [] rfl⟩ rfl rfl hl.1 rfl (lv_room (Nat.le_of_ble_eq_true rfl)) dX14_isOf_3 ⟨Nat.le_of_ble_eq_true rfl, Nat.le_of_ble_eq_true rfl⟩) (fun r_1 hw => ?_)
  have hw : r_1 = 0 := hw.trans (by first | rfl | decide +kernel)
  subst hw
  refine lv_iconst (v := 1) hx hb dX14_isOf_8 (by decide) ?_
  refine lv_isub hx hb dX14_isOf_9 ?_
  refine lv_topi (fun z_2 ez_2 => ?_)
  obtain rfl : z_2 = (-1) := ez_2.trans (by decide +kernel)
  refine vp_callSi (va_Run.run (va_runS (As := [.int p0, .int 0, .int (-1)]) (rest := []) ⟨hx, hb, hml, hown, hts⟩ (c_X14_isBetween l hst D e p0 0 (-1) s.heap.size) (va_cwS 3 hts gX14_isOf_X14_isBetween rfl rfl rfl (by decide +kernel) ⟨Nat.le_of_ble_eq_true rfl, Nat.le_of_ble_eq_true rfl⟩) ⟨cIn_blind, cIn_go hK hP hD hE hS hA [] rfl rfl (by decide) [] rfl⟩ rfl rfl hl.1 rfl (lv_room (Nat.le_of_ble_eq_true rfl)) dX14_isOf_10 ⟨Nat.le_of_ble_eq_true rfl, Nat.le_of_ble_eq_true rfl⟩)) (fun r_3 hw => ?_)
  have hw : r_3 = 0 := hw.trans (bt_0 _)
  subst hw
  exact W.zret (v := 0) hx hb hr (by first | rfl | decide +kernel) (fun t ht hW => ⟨0, rfl, rfl, ht⟩) (fun _ h => nomatch h) dX14_isOf_13
-- X14_isStep
def v_X14_isStep (p0 : Int32) (p1 : Int32) : Int32 := if (v_X14_isBetween p0 (-30) 30) = 0 then 0 else (if (v_X14_isBetween p1 1 20) = 0 then 0 else 1)
set_option maxHeartbeats 4000000 in
set_option maxRecDepth 100000 in
theorem c_X14_isStep (l : Launch) (hst : l.stackTraces = false) (D : va_G) (e : Nat) (p0 : Int32) (p1 : Int32) (sz : Nat) : Met l yX14_isStep wsX14_isStep ({ frames := 10, cells := 0, slots := 0, locals := 160 }) (va_Pc [.int p0, .int p1] (cIn D [] [] e sz)) (vp_Si (fun r : Int32 => r = v_X14_isStep p0 p1)) 0 0 (fun _ => False) := by
  refine Met.ofW (cc := cX14_isStep) (maxL := 2) (ret := (some .boolean)) (by decide +kernel) rfl ?_
  intro p e9 s m args below meth c s₁ B hml hv
  obtain ⟨rfl, hsz, hP, hK, hD0, hE0⟩ := hv
  have hx := B.exec
  have hb := B.bytes
  have hr := B.returns
  have hts := atoms_spec (ws := wsX14_isStep) B.pre
  have hown : s.vm.findClass RX14 = some m.cls := findClass_of_methodNamed B.named
  have hlocks := B.notSynchronized
  subst hsz
  have hD := hD0.self (sz := s.heap.size)
  generalize hAe : va_A [] s.heap.size = A at hD hE0 ⊢
  have hA : ∀ q : Nat, s.heap.size ≤ q → A q := fun q h => by rw [← hAe]; exact Or.inr h
  have hS : va_S A s.heap s.heap [] := va_S.rf
  have hE := hE0
  have hP : va_P D vwCl [] s.heap := hP
  have hl := lv_entry ([.int p0, .int p1]) (n := 2) (Nat.le_of_ble_eq_true rfl)
  rw [lg_entry_eq]
  generalize (lg_sl ([.int p0, .int p1]) ++ List.replicate (2 - (lg_sl ([.int p0, .int p1])).length) Slot.unset).toArray = ls at hl ⊢
  have hl : lv_has ls 2 [(0, .int p0), (1, .int p1)] := hl
  refine lv_iload_n hx hb dX14_isStep_0 rfl (lv_at hl 0 rfl) ?_
  refine lv_bipush (v := (-30)) hx hb dX14_isStep_1 (by decide) ?_
  refine lv_bipush (v := 30) hx hb dX14_isStep_3 (by decide) ?_
  refine vp_callSi (va_Run.run (va_runS (As := [.int p0, .int (-30), .int 30]) (rest := []) ⟨hx, hb, hml, hown, hts⟩ (c_X14_isBetween l hst D e p0 (-30) 30 s.heap.size) (va_cwS 3 hts gX14_isStep_X14_isBetween rfl rfl rfl (by decide +kernel) ⟨Nat.le_of_ble_eq_true rfl, Nat.le_of_ble_eq_true rfl⟩) ⟨cIn_blind, cIn_go hK hP hD hE hS hA [] rfl rfl (by decide) [] rfl⟩ rfl rfl hl.1 rfl (lv_room (Nat.le_of_ble_eq_true rfl)) dX14_isStep_5 ⟨Nat.le_of_ble_eq_true rfl, Nat.le_of_ble_eq_true rfl⟩)) (fun r_1 hw => ?_)
  subst hw
  refine lv_if_eq (tgt := 25) hx hb dX14_isStep_8 (by decide) (fun c_2 => ?_) (fun c_2 => ?_)
  · refine lv_iconst (v := 0) hx hb dX14_isStep_25 (by decide) ?_
    exact W.zret (v := 0) hx hb hr (by first | rfl | decide +kernel) (fun t ht hW => ⟨0, rfl, (by unfold v_X14_isStep; rw [if_pos c_2]), ht⟩) (fun _ h => nomatch h) dX14_isStep_26
  · refine lv_iload_n hx hb dX14_isStep_11 rfl (lv_at hl 1 rfl) ?_
    refine lv_iconst (v := 1) hx hb dX14_isStep_12 (by decide) ?_
    refine lv_bipush (v := 20) hx hb dX14_isStep_13 (by decide) ?_
    refine vp_callSi (va_Run.run (va_runS (As := [.int p1, .int 1, .int 20]) (rest := []) ⟨hx, hb, hml, hown, hts⟩ (c_X14_isBetween l hst D e p1 1 20 s.heap.size) (va_cwS 3 hts gX14_isStep_X14_isBetween rfl rfl rfl (by decide +kernel) ⟨Nat.le_of_ble_eq_true rfl, Nat.le_of_ble_eq_true rfl⟩) ⟨cIn_blind, cIn_go hK hP hD hE hS hA [] rfl rfl (by decide) [] rfl⟩ rfl rfl hl.1 rfl (lv_room (Nat.le_of_ble_eq_true rfl)) dX14_isStep_15 ⟨Nat.le_of_ble_eq_true rfl, Nat.le_of_ble_eq_true rfl⟩)) (fun r_3 hw => ?_)
    subst hw
    refine lv_if_eq (tgt := 25) hx hb dX14_isStep_18 (by decide) (fun c_4 => ?_) (fun c_4 => ?_)
    · refine lv_iconst (v := 0) hx hb dX14_isStep_25 (by decide) ?_
      exact W.zret (v := 0) hx hb hr (by first | rfl | decide +kernel) (fun t ht hW => ⟨0, rfl, (by unfold v_X14_isStep; rw [if_neg c_2, if_pos c_4]), ht⟩) (fun _ h => nomatch h) dX14_isStep_26
    · refine lv_iconst (v := 1) hx hb dX14_isStep_21 (by decide) ?_
      refine lv_goto (tgt := 26) hx hb dX14_isStep_22 (by decide) ?_
      exact W.zret (v := 1) hx hb hr (by first | rfl | decide +kernel) (fun t ht hW => ⟨1, rfl, (by unfold v_X14_isStep; rw [if_neg c_2, if_neg c_4]), ht⟩) (fun _ h => nomatch h) dX14_isStep_26
-- X14_isMetre
def v_X14_isMetre (p0 : Int32) (p1 : Int32) : Int32 := 0
set_option maxHeartbeats 4000000 in
set_option maxRecDepth 100000 in
theorem c_X14_isMetre (l : Launch) (hst : l.stackTraces = false) (D : va_G) (e : Nat) (h : Nat) (m1 : Nat) (m2 : Nat) (m3 : Nat) (m4 : Nat) (m5 : Nat) (m6 : Nat) (m7 : Nat) (m8 : Nat) (fr : Nat) (p0 : Int32) (p1 : Int32) (sz : Nat) : Met l yX14_isMetre wsX14_isMetre ({ frames := 12, cells := 0, slots := 0, locals := 220 }) (va_Pc [.ref h, .int p0, .int p1] (cIn D [] [(h, .inr (20, [.int 0, .ref m1, .int 0, .int 0, .ref m2, .ref m3, .int 0, .int 4, .int (-40), .ref m4, .int 0, .int 20, .int 0, .ref m5, .ref fr, .int 100, .int 60, .int 14, .ref m6, .ref m7, .ref m8])), (m2, .inr (5, [.int 0, .ref e, .int 0]))] e sz)) (vp_Si (fun r : Int32 => r = v_X14_isMetre p0 p1)) 0 0 (fun _ => False) := by
  refine Met.ofW (cc := cX14_isMetre) (maxL := 3) (ret := (some .boolean)) (by decide +kernel) rfl ?_
  intro p e9 s m args below meth c s₁ B hml hv
  obtain ⟨rfl, hsz, hP, hK, hD0, hE0⟩ := hv
  have hx := B.exec
  have hb := B.bytes
  have hr := B.returns
  have hts := atoms_spec (ws := wsX14_isMetre) B.pre
  have hown : s.vm.findClass RX14 = some m.cls := findClass_of_methodNamed B.named
  have hlocks := B.notSynchronized
  subst hsz
  have hD := hD0.self (sz := s.heap.size)
  generalize hAe : va_A [(h, .inr (20, [.int 0, .ref m1, .int 0, .int 0, .ref m2, .ref m3, .int 0, .int 4, .int (-40), .ref m4, .int 0, .int 20, .int 0, .ref m5, .ref fr, .int 100, .int 60, .int 14, .ref m6, .ref m7, .ref m8])), (m2, .inr (5, [.int 0, .ref e, .int 0]))] s.heap.size = A at hD hE0 ⊢
  have hA : ∀ q : Nat, s.heap.size ≤ q → A q := fun q h => by rw [← hAe]; exact Or.inr h
  have hS : va_S A s.heap s.heap [] := va_S.rf
  have hE := hE0
  have hP : va_P D vwCl [(h, .inr (20, [.int 0, .ref m1, .int 0, .int 0, .ref m2, .ref m3, .int 0, .int 4, .int (-40), .ref m4, .int 0, .int 20, .int 0, .ref m5, .ref fr, .int 100, .int 60, .int 14, .ref m6, .ref m7, .ref m8])), (m2, .inr (5, [.int 0, .ref e, .int 0]))] s.heap := hP
  have hl := lv_entry ([.ref h, .int p0, .int p1]) (n := 3) (Nat.le_of_ble_eq_true rfl)
  rw [lg_entry_eq]
  generalize (lg_sl ([.ref h, .int p0, .int p1]) ++ List.replicate (3 - (lg_sl ([.ref h, .int p0, .int p1])).length) Slot.unset).toArray = ls at hl ⊢
  have hl : lv_has ls 3 [(0, .ref h), (1, .int p0), (2, .int p1)] := hl
  refine lv_aload_n hx hb dX14_isMetre_0 rfl (lv_at hl 0 rfl) ?_
  refine va_get (D := D) (ci := 20) (v := .ref m2) (C := RX14) (T := TX14) (N := 21) hx hb hts iw_RX14_wsX14_isMetre hown hK hP 0 rfl rfl 4 (by decide) (hts (.fieldLink RX14 16 "CoatLineModel" "coils" "Ljava/util/List;") (by decide +kernel)) (fun _ h9 => h9) rfl dX14_isMetre_1 ?_
  refine lv_iload_n hx hb dX14_isMetre_4 rfl (lv_at hl 1 rfl) ?_
  refine vp_callSi (va_Run.run (va_runS (As := [.ref m2, .int p0]) (rest := []) ⟨hx, hb, hml, hown, hts⟩ (c_X14_isOf l hst D e m2 0 e p0 s.heap.size) (va_cwS 2 hts gX14_isMetre_X14_isOf rfl rfl rfl (by decide +kernel) ⟨Nat.le_of_ble_eq_true rfl, Nat.le_of_ble_eq_true rfl⟩) ⟨cIn_blind, cIn_go hK hP hD hE hS hA [1] rfl rfl (by decide) [] rfl⟩ rfl rfl hl.1 rfl (lv_room (Nat.le_of_ble_eq_true rfl)) dX14_isMetre_5 ⟨Nat.le_of_ble_eq_true rfl, Nat.le_of_ble_eq_true rfl⟩)) (fun r_1 hw => ?_)
  have hw : r_1 = 0 := hw.trans (by first | rfl | decide +kernel)
  subst hw
  refine lv_if_eq (tgt := 41) hx hb dX14_isMetre_8 (by decide) (fun c_2 => ?_) (fun c_2 => absurd (show (0 : Int32) = 0 from by decide +kernel) c_2)
  refine lv_iconst (v := 0) hx hb dX14_isMetre_41 (by decide) ?_
  exact W.zret (v := 0) hx hb hr (by first | rfl | decide +kernel) (fun t ht hW => ⟨0, rfl, rfl, ht⟩) (fun _ h => nomatch h) dX14_isMetre_42
-- X14_isNoPack
def v_X14_isNoPack (p0 : Int32) : Int32 := 1
set_option maxHeartbeats 4000000 in
set_option maxRecDepth 100000 in
theorem c_X14_isNoPack (l : Launch) (hst : l.stackTraces = false) (D : va_G) (e : Nat) (h : Nat) (m1 : Nat) (m2 : Nat) (m3 : Nat) (m4 : Nat) (m5 : Nat) (m6 : Nat) (m7 : Nat) (m8 : Nat) (fr : Nat) (p0 : Int32) (sz : Nat) : Met l yX14_isNoPack wsX14_isNoPack ({ frames := 12, cells := 0, slots := 0, locals := 220 }) (va_Pc [.ref h, .int p0] (cIn D [] [(h, .inr (20, [.int 0, .ref m1, .int 0, .int 0, .ref m2, .ref m3, .int 0, .int 4, .int (-40), .ref m4, .int 0, .int 20, .int 0, .ref m5, .ref fr, .int 100, .int 60, .int 14, .ref m6, .ref m7, .ref m8])), (m7, .inr (5, [.int 0, .ref e, .int 0]))] e sz)) (va_Qi (fun (r : Int32) (_ : Unit) => r = v_X14_isNoPack p0) (fun (_ : Unit) (t : State) => va_P D vwCl [(h, .inr (20, [.int 1, .ref m1, .int 0, .int 0, .ref m2, .ref m3, .int 0, .int 4, .int (-40), .ref m4, .int 0, .int 20, .int 0, .ref m5, .ref fr, .int 100, .int 60, .int 14, .ref m6, .ref m7, .ref m8]))] t.heap ∧ va_K D vwCl [] t ∧ va_D (va_A [(h, .inr (20, [.int 0, .ref m1, .int 0, .int 0, .ref m2, .ref m3, .int 0, .int 4, .int (-40), .ref m4, .int 0, .int 20, .int 0, .ref m5, .ref fr, .int 100, .int 60, .int 14, .ref m6, .ref m7, .ref m8])), (m7, .inr (5, [.int 0, .ref e, .int 0]))] sz) [(h, .inr (20, [.int 1, .ref m1, .int 0, .int 0, .ref m2, .ref m3, .int 0, .int 4, .int (-40), .ref m4, .int 0, .int 20, .int 0, .ref m5, .ref fr, .int 100, .int 60, .int 14, .ref m6, .ref m7, .ref m8]))]) (va_A [(h, .inr (20, [.int 0, .ref m1, .int 0, .int 0, .ref m2, .ref m3, .int 0, .int 4, .int (-40), .ref m4, .int 0, .int 20, .int 0, .ref m5, .ref fr, .int 100, .int 60, .int 14, .ref m6, .ref m7, .ref m8])), (m7, .inr (5, [.int 0, .ref e, .int 0]))] sz)) 0 0 (va_A [(h, .inr (20, [.int 0, .ref m1, .int 0, .int 0, .ref m2, .ref m3, .int 0, .int 4, .int (-40), .ref m4, .int 0, .int 20, .int 0, .ref m5, .ref fr, .int 100, .int 60, .int 14, .ref m6, .ref m7, .ref m8])), (m7, .inr (5, [.int 0, .ref e, .int 0]))] sz) := by
  refine Met.ofW (cc := cX14_isNoPack) (maxL := 2) (ret := (some .boolean)) (by decide +kernel) rfl ?_
  intro p e9 s m args below meth c s₁ B hml hv
  obtain ⟨rfl, hsz, hP, hK, hD0, hE0⟩ := hv
  have hx := B.exec
  have hb := B.bytes
  have hr := B.returns
  have hts := atoms_spec (ws := wsX14_isNoPack) B.pre
  have hown : s.vm.findClass RX14 = some m.cls := findClass_of_methodNamed B.named
  have hlocks := B.notSynchronized
  subst hsz
  have hD := hD0.self (sz := s.heap.size)
  generalize hAe : va_A [(h, .inr (20, [.int 0, .ref m1, .int 0, .int 0, .ref m2, .ref m3, .int 0, .int 4, .int (-40), .ref m4, .int 0, .int 20, .int 0, .ref m5, .ref fr, .int 100, .int 60, .int 14, .ref m6, .ref m7, .ref m8])), (m7, .inr (5, [.int 0, .ref e, .int 0]))] s.heap.size = A at hD hE0 ⊢
  have hA : ∀ q : Nat, s.heap.size ≤ q → A q := fun q h => by rw [← hAe]; exact Or.inr h
  have hS : va_S A s.heap s.heap [] := va_S.rf
  have hE := hE0
  have hP : va_P D vwCl [(h, .inr (20, [.int 0, .ref m1, .int 0, .int 0, .ref m2, .ref m3, .int 0, .int 4, .int (-40), .ref m4, .int 0, .int 20, .int 0, .ref m5, .ref fr, .int 100, .int 60, .int 14, .ref m6, .ref m7, .ref m8])), (m7, .inr (5, [.int 0, .ref e, .int 0]))] s.heap := hP
  have hl := lv_entry ([.ref h, .int p0]) (n := 2) (Nat.le_of_ble_eq_true rfl)
  rw [lg_entry_eq]
  generalize (lg_sl ([.ref h, .int p0]) ++ List.replicate (2 - (lg_sl ([.ref h, .int p0])).length) Slot.unset).toArray = ls at hl ⊢
  have hl : lv_has ls 2 [(0, .ref h), (1, .int p0)] := hl
  refine lv_aload_n hx hb dX14_isNoPack_0 rfl (lv_at hl 0 rfl) ?_
  refine lv_aload_n hx hb dX14_isNoPack_1 rfl (lv_at hl 0 rfl) ?_
  refine va_get (D := D) (ci := 20) (v := .ref m7) (C := RX14) (T := TX14) (N := 21) hx hb hts iw_RX14_wsX14_isNoPack hown hK hP 0 rfl rfl 19 (by decide) (hts (.fieldLink RX14 54 "CoatLineModel" "packs" "Ljava/util/List;") (by decide +kernel)) (fun _ h9 => h9) rfl dX14_isNoPack_2 ?_
  refine lv_iload_n hx hb dX14_isNoPack_5 rfl (lv_at hl 1 rfl) ?_
  refine vp_callSi (va_Run.run (va_runS (As := [.ref m7, .int p0]) (rest := [.ref h]) ⟨hx, hb, hml, hown, hts⟩ (c_X14_isOf l hst D e m7 0 e p0 s.heap.size) (va_cwS 2 hts gX14_isNoPack_X14_isOf rfl rfl rfl (by decide +kernel) ⟨Nat.le_of_ble_eq_true rfl, Nat.le_of_ble_eq_true rfl⟩) ⟨cIn_blind, cIn_go hK hP hD hE hS hA [1] rfl rfl (by decide) [] rfl⟩ rfl rfl hl.1 rfl (lv_room (Nat.le_of_ble_eq_true rfl)) dX14_isNoPack_6 ⟨Nat.le_of_ble_eq_true rfl, Nat.le_of_ble_eq_true rfl⟩)) (fun r_1 hw => ?_)
  have hw : r_1 = 0 := hw.trans (by first | rfl | decide +kernel)
  subst hw
  refine lv_if_eq (tgt := 16) hx hb dX14_isNoPack_9 (by decide) (fun c_2 => ?_) (fun c_2 => absurd (show (0 : Int32) = 0 from by decide +kernel) c_2)
  refine lv_iconst (v := 1) hx hb dX14_isNoPack_16 (by decide) ?_
  have hFc := va_free (wc := [(h, .inr (20, [.int 0, .ref m1, .int 0, .int 0, .ref m2, .ref m3, .int 0, .int 4, .int (-40), .ref m4, .int 0, .int 20, .int 0, .ref m5, .ref fr, .int 100, .int 60, .int 14, .ref m6, .ref m7, .ref m8]))]) hD hS hA [0] rfl
  refine va_calli (va_runV (As := [.int 1]) (rest := []) ⟨hx, hb, hml, hown, hts⟩ (c_X14_isWrong l hst D e h 0 ([.ref m1, .int 0, .int 0, .ref m2, .ref m3, .int 0, .int 4, .int (-40), .ref m4, .int 0, .int 20, .int 0, .ref m5, .ref fr, .int 100, .int 60, .int 14, .ref m6, .ref m7, .ref m8]) 1 s.heap.size) (cwV 1 hts gX14_isNoPack_X14_isWrong rfl rfl rfl (by decide +kernel) ⟨Nat.le_of_ble_eq_true rfl, Nat.le_of_ble_eq_true rfl⟩) ⟨cIn_blind, va_recv hK hP (ci := 20) (q0 := 0) rfl rfl, cIn_go hK hP hD hE hS hA [0] rfl rfl (by decide) [] rfl⟩ rfl rfl hl.1 rfl (lv_room (Nat.le_of_ble_eq_true rfl)) dX14_isNoPack_17 ⟨Nat.le_of_ble_eq_true rfl, Nat.le_of_ble_eq_true rfl⟩) hS (fun q _ h => hFc q h) hFc (fun r_3 u t H1 locs ht hvm hw hB hz1 hk1 hS => ?_)
  obtain ⟨hP1, hK1, hD1⟩ := hB
  rw [ht] at hP1
  have hK1 := va_K.moved hvm.symm hK1
  obtain ⟨hP, hD⟩ := va_join (wr := [(m7, .inr (5, [.int 0, .ref e, .int 0]))]) (w1 := [(h, .inr (20, [.int 1, .ref m1, .int 0, .int 0, .ref m2, .ref m3, .int 0, .int 4, .int (-40), .ref m4, .int 0, .int 20, .int 0, .ref m5, .ref fr, .int 100, .int 60, .int 14, .ref m6, .ref m7, .ref m8]))]) hP hD [0] [1] rfl rfl (by decide) (by decide) hk1 hFc hP1 hD1
  generalize H1 = H at hP hS ⊢
  have hP : va_P D vwCl [(m7, .inr (5, [.int 0, .ref e, .int 0])), (h, .inr (20, [.int 1, .ref m1, .int 0, .int 0, .ref m2, .ref m3, .int 0, .int 4, .int (-40), .ref m4, .int 0, .int 20, .int 0, .ref m5, .ref fr, .int 100, .int 60, .int 14, .ref m6, .ref m7, .ref m8]))] H := hP
  have hD : va_D A [(m7, .inr (5, [.int 0, .ref e, .int 0])), (h, .inr (20, [.int 1, .ref m1, .int 0, .int 0, .ref m2, .ref m3, .int 0, .int 4, .int (-40), .ref m4, .int 0, .int 20, .int 0, .ref m5, .ref fr, .int 100, .int 60, .int 14, .ref m6, .ref m7, .ref m8]))] := hD
  have hw : r_3 = 1 := hw.trans (by first | rfl | decide +kernel)
  subst hw
  exact W.zret (v := 1) hx hb hr (by first | rfl | decide +kernel) (fun t ht hW => ⟨⟨1, (), rfl, rfl, ⟨by rw [ht]; exact hP.sub [1] rfl, va_K.moved hW.alike (hK.sub [] rfl), hD.sub [1] (by decide) rfl⟩⟩, hS.F ht⟩) hS.2.2 dX14_isNoPack_20
-- X14_left
def v_X14_left (p0 : Int32) : Int32 := 0
def k_X14_left (p0 : Int32) : Int32 := 1
set_option maxHeartbeats 4000000 in
set_option maxRecDepth 100000 in
theorem c_X14_left (l : Launch) (hst : l.stackTraces = false) (D : va_G) (e : Nat) (h : Nat) (m1 : Nat) (m2 : Nat) (m3 : Nat) (m4 : Nat) (m5 : Nat) (m6 : Nat) (m7 : Nat) (m8 : Nat) (fr : Nat) (p0 : Int32) (sz : Nat) : Met l yX14_left wsX14_left ({ frames := 16, cells := 0, slots := 0, locals := 340 }) (va_Pc [.ref h, .int p0] (cIn D [] [(h, .inr (20, [.int 0, .ref m1, .int 0, .int 0, .ref m2, .ref m3, .int 0, .int 4, .int (-40), .ref m4, .int 0, .int 20, .int 0, .ref m5, .ref fr, .int 100, .int 60, .int 14, .ref m6, .ref m7, .ref m8])), (m1, .inr (5, [.int 0, .ref e, .int 0]))] e sz)) (va_Qi (fun (r : Int32) (u : Int32 × List Value) => u.1 = k_X14_left p0 ∧ r = v_X14_left p0) (fun (u : Int32 × List Value) (t : State) => va_P D vwCl [(h, .inr (20, .int u.1 :: u.2))] t.heap ∧ va_K D vwCl [] t ∧ va_D (va_A [(h, .inr (20, [.int 0, .ref m1, .int 0, .int 0, .ref m2, .ref m3, .int 0, .int 4, .int (-40), .ref m4, .int 0, .int 20, .int 0, .ref m5, .ref fr, .int 100, .int 60, .int 14, .ref m6, .ref m7, .ref m8])), (m1, .inr (5, [.int 0, .ref e, .int 0]))] sz) [(h, .inr (20, .int u.1 :: u.2))]) (va_A [(h, .inr (20, [.int 0, .ref m1, .int 0, .int 0, .ref m2, .ref m3, .int 0, .int 4, .int (-40), .ref m4, .int 0, .int 20, .int 0, .ref m5, .ref fr, .int 100, .int 60, .int 14, .ref m6, .ref m7, .ref m8])), (m1, .inr (5, [.int 0, .ref e, .int 0]))] sz)) 0 0 (va_A [(h, .inr (20, [.int 0, .ref m1, .int 0, .int 0, .ref m2, .ref m3, .int 0, .int 4, .int (-40), .ref m4, .int 0, .int 20, .int 0, .ref m5, .ref fr, .int 100, .int 60, .int 14, .ref m6, .ref m7, .ref m8])), (m1, .inr (5, [.int 0, .ref e, .int 0]))] sz) := by
  refine Met.ofW (cc := cX14_left) (maxL := 2) (ret := (some .int)) (by decide +kernel) rfl ?_
  intro p e9 s m args below meth c s₁ B hml hv
  obtain ⟨rfl, hsz, hP, hK, hD0, hE0⟩ := hv
  have hx := B.exec
  have hb := B.bytes
  have hr := B.returns
  have hts := atoms_spec (ws := wsX14_left) B.pre
  have hown : s.vm.findClass RX14 = some m.cls := findClass_of_methodNamed B.named
  have hlocks := B.notSynchronized
  subst hsz
  have hD := hD0.self (sz := s.heap.size)
  generalize hAe : va_A [(h, .inr (20, [.int 0, .ref m1, .int 0, .int 0, .ref m2, .ref m3, .int 0, .int 4, .int (-40), .ref m4, .int 0, .int 20, .int 0, .ref m5, .ref fr, .int 100, .int 60, .int 14, .ref m6, .ref m7, .ref m8])), (m1, .inr (5, [.int 0, .ref e, .int 0]))] s.heap.size = A at hD hE0 ⊢
  have hA : ∀ q : Nat, s.heap.size ≤ q → A q := fun q h => by rw [← hAe]; exact Or.inr h
  have hS : va_S A s.heap s.heap [] := va_S.rf
  have hE := hE0
  have hP : va_P D vwCl [(h, .inr (20, [.int 0, .ref m1, .int 0, .int 0, .ref m2, .ref m3, .int 0, .int 4, .int (-40), .ref m4, .int 0, .int 20, .int 0, .ref m5, .ref fr, .int 100, .int 60, .int 14, .ref m6, .ref m7, .ref m8])), (m1, .inr (5, [.int 0, .ref e, .int 0]))] s.heap := hP
  have hl := lv_entry ([.ref h, .int p0]) (n := 2) (Nat.le_of_ble_eq_true rfl)
  rw [lg_entry_eq]
  generalize (lg_sl ([.ref h, .int p0]) ++ List.replicate (2 - (lg_sl ([.ref h, .int p0])).length) Slot.unset).toArray = ls at hl ⊢
  have hl : lv_has ls 2 [(0, .ref h), (1, .int p0)] := hl
  refine lv_aload_n hx hb dX14_left_0 rfl (lv_at hl 0 rfl) ?_
  refine lv_aload_n hx hb dX14_left_1 rfl (lv_at hl 0 rfl) ?_
  refine va_get (D := D) (ci := 20) (v := .ref m1) (C := RX14) (T := TX14) (N := 21) hx hb hts iw_RX14_wsX14_left hown hK hP 0 rfl rfl 1 (by decide) (hts (.fieldLink RX14 10 "CoatLineModel" "lots" "Ljava/util/List;") (by decide +kernel)) (fun _ h9 => h9) rfl dX14_left_2 ?_
  refine lv_iload_n hx hb dX14_left_5 rfl (lv_at hl 1 rfl) ?_
  refine vp_callSi (va_Run.run (va_runS (As := [.ref m1, .int p0]) (rest := [.ref h]) ⟨hx, hb, hml, hown, hts⟩ (c_X14_isOf l hst D e m1 0 e p0 s.heap.size) (va_cwS 2 hts gX14_left_X14_isOf rfl rfl rfl (by decide +kernel) ⟨Nat.le_of_ble_eq_true rfl, Nat.le_of_ble_eq_true rfl⟩) ⟨cIn_blind, cIn_go hK hP hD hE hS hA [1] rfl rfl (by decide) [] rfl⟩ rfl rfl hl.1 rfl (lv_room (Nat.le_of_ble_eq_true rfl)) dX14_left_6 ⟨Nat.le_of_ble_eq_true rfl, Nat.le_of_ble_eq_true rfl⟩)) (fun r_1 hw => ?_)
  have hw : r_1 = 0 := hw.trans (by first | rfl | decide +kernel)
  subst hw
  refine lv_if_eq (tgt := 16) hx hb dX14_left_9 (by decide) (fun c_2 => ?_) (fun c_2 => absurd (show (0 : Int32) = 0 from by decide +kernel) c_2)
  refine lv_iconst (v := 1) hx hb dX14_left_16 (by decide) ?_
  have hFc := va_free (wc := [(h, .inr (20, [.int 0, .ref m1, .int 0, .int 0, .ref m2, .ref m3, .int 0, .int 4, .int (-40), .ref m4, .int 0, .int 20, .int 0, .ref m5, .ref fr, .int 100, .int 60, .int 14, .ref m6, .ref m7, .ref m8]))]) hD hS hA [0] rfl
  refine va_calli (va_runV (As := [.int 1]) (rest := []) ⟨hx, hb, hml, hown, hts⟩ (c_X14_isWrong l hst D e h 0 ([.ref m1, .int 0, .int 0, .ref m2, .ref m3, .int 0, .int 4, .int (-40), .ref m4, .int 0, .int 20, .int 0, .ref m5, .ref fr, .int 100, .int 60, .int 14, .ref m6, .ref m7, .ref m8]) 1 s.heap.size) (cwV 1 hts gX14_left_X14_isWrong rfl rfl rfl (by decide +kernel) ⟨Nat.le_of_ble_eq_true rfl, Nat.le_of_ble_eq_true rfl⟩) ⟨cIn_blind, va_recv hK hP (ci := 20) (q0 := 0) rfl rfl, cIn_go hK hP hD hE hS hA [0] rfl rfl (by decide) [] rfl⟩ rfl rfl hl.1 rfl (lv_room (Nat.le_of_ble_eq_true rfl)) dX14_left_17 ⟨Nat.le_of_ble_eq_true rfl, Nat.le_of_ble_eq_true rfl⟩) hS (fun q _ h => hFc q h) hFc (fun r_3 u t H1 locs ht hvm hw hB hz1 hk1 hS => ?_)
  obtain ⟨hP1, hK1, hD1⟩ := hB
  rw [ht] at hP1
  have hK1 := va_K.moved hvm.symm hK1
  obtain ⟨hP, hD⟩ := va_join (wr := [(m1, .inr (5, [.int 0, .ref e, .int 0]))]) (w1 := [(h, .inr (20, [.int 1, .ref m1, .int 0, .int 0, .ref m2, .ref m3, .int 0, .int 4, .int (-40), .ref m4, .int 0, .int 20, .int 0, .ref m5, .ref fr, .int 100, .int 60, .int 14, .ref m6, .ref m7, .ref m8]))]) hP hD [0] [1] rfl rfl (by decide) (by decide) hk1 hFc hP1 hD1
  generalize H1 = H at hP hS ⊢
  have hP : va_P D vwCl [(m1, .inr (5, [.int 0, .ref e, .int 0])), (h, .inr (20, [.int 1, .ref m1, .int 0, .int 0, .ref m2, .ref m3, .int 0, .int 4, .int (-40), .ref m4, .int 0, .int 20, .int 0, .ref m5, .ref fr, .int 100, .int 60, .int 14, .ref m6, .ref m7, .ref m8]))] H := hP
  have hD : va_D A [(m1, .inr (5, [.int 0, .ref e, .int 0])), (h, .inr (20, [.int 1, .ref m1, .int 0, .int 0, .ref m2, .ref m3, .int 0, .int 4, .int (-40), .ref m4, .int 0, .int 20, .int 0, .ref m5, .ref fr, .int 100, .int 60, .int 14, .ref m6, .ref m7, .ref m8]))] := hD
  have hw : r_3 = 1 := hw.trans (by first | rfl | decide +kernel)
  subst hw
  refine lv_if_eq (tgt := 27) hx hb dX14_left_20 (by decide) (fun c_5 => absurd c_5 (show ¬ ((1 : Int32) = 0) from by decide +kernel)) (fun c_5 => ?_)
  refine lv_iconst (v := 0) hx hb dX14_left_23 (by decide) ?_
  refine lv_goto (tgt := 42) hx hb dX14_left_24 (by decide) ?_
  exact W.iret (v := 0) hx hb hr (fun t ht hW => ⟨⟨0, ((1, [.ref m1, .int 0, .int 0, .ref m2, .ref m3, .int 0, .int 4, .int (-40), .ref m4, .int 0, .int 20, .int 0, .ref m5, .ref fr, .int 100, .int 60, .int 14, .ref m6, .ref m7, .ref m8]) : Int32 × List Value), rfl, ⟨rfl, rfl⟩, ⟨by rw [ht]; exact hP.sub [1] rfl, va_K.moved hW.alike (hK.sub [] rfl), hD.sub [1] (by decide) rfl⟩⟩, hS.F ht⟩) hS.2.2 dX14_left_42
-- X14_coat
def v_X14_coat (p0 : Int32) (p1 : Int32) (p2 : Int32) : Int32 := 0
def k_X14_coat (p0 : Int32) (p1 : Int32) (p2 : Int32) : Int32 := 1
set_option maxHeartbeats 4000000 in
set_option maxRecDepth 100000 in
theorem c_X14_coat (l : Launch) (hst : l.stackTraces = false) (D : va_G) (e : Nat) (h : Nat) (m1 : Nat) (m2 : Nat) (m3 : Nat) (m4 : Nat) (m5 : Nat) (m6 : Nat) (m7 : Nat) (m8 : Nat) (fr : Nat) (p0 : Int32) (p1 : Int32) (p2 : Int32) (sz : Nat) : Met l yX14_coat wsX14_coat ({ frames := 16, cells := 0, slots := 0, locals := 340 }) (va_Pc [.ref h, .int p0, .int p1, .int p2] (cIn D [] [(h, .inr (20, [.int 0, .ref m1, .int 0, .int 0, .ref m2, .ref m3, .int 0, .int 4, .int (-40), .ref m4, .int 0, .int 20, .int 0, .ref m5, .ref fr, .int 100, .int 60, .int 14, .ref m6, .ref m7, .ref m8])), (m1, .inr (5, [.int 0, .ref e, .int 0]))] e sz)) (va_Qi (fun (r : Int32) (u : Int32 × List Value) => u.1 = k_X14_coat p0 p1 p2 ∧ r = v_X14_coat p0 p1 p2) (fun (u : Int32 × List Value) (t : State) => va_P D vwCl [(h, .inr (20, .int u.1 :: u.2))] t.heap ∧ va_K D vwCl [] t ∧ va_D (va_A [(h, .inr (20, [.int 0, .ref m1, .int 0, .int 0, .ref m2, .ref m3, .int 0, .int 4, .int (-40), .ref m4, .int 0, .int 20, .int 0, .ref m5, .ref fr, .int 100, .int 60, .int 14, .ref m6, .ref m7, .ref m8])), (m1, .inr (5, [.int 0, .ref e, .int 0]))] sz) [(h, .inr (20, .int u.1 :: u.2))]) (va_A [(h, .inr (20, [.int 0, .ref m1, .int 0, .int 0, .ref m2, .ref m3, .int 0, .int 4, .int (-40), .ref m4, .int 0, .int 20, .int 0, .ref m5, .ref fr, .int 100, .int 60, .int 14, .ref m6, .ref m7, .ref m8])), (m1, .inr (5, [.int 0, .ref e, .int 0]))] sz)) 0 0 (va_A [(h, .inr (20, [.int 0, .ref m1, .int 0, .int 0, .ref m2, .ref m3, .int 0, .int 4, .int (-40), .ref m4, .int 0, .int 20, .int 0, .ref m5, .ref fr, .int 100, .int 60, .int 14, .ref m6, .ref m7, .ref m8])), (m1, .inr (5, [.int 0, .ref e, .int 0]))] sz) := by
  refine Met.ofW (cc := cX14_coat) (maxL := 7) (ret := (some .int)) (by decide +kernel) rfl ?_
  intro p e9 s m args below meth c s₁ B hml hv
  obtain ⟨rfl, hsz, hP, hK, hD0, hE0⟩ := hv
  have hx := B.exec
  have hb := B.bytes
  have hr := B.returns
  have hts := atoms_spec (ws := wsX14_coat) B.pre
  have hown : s.vm.findClass RX14 = some m.cls := findClass_of_methodNamed B.named
  have hlocks := B.notSynchronized
  subst hsz
  have hD := hD0.self (sz := s.heap.size)
  generalize hAe : va_A [(h, .inr (20, [.int 0, .ref m1, .int 0, .int 0, .ref m2, .ref m3, .int 0, .int 4, .int (-40), .ref m4, .int 0, .int 20, .int 0, .ref m5, .ref fr, .int 100, .int 60, .int 14, .ref m6, .ref m7, .ref m8])), (m1, .inr (5, [.int 0, .ref e, .int 0]))] s.heap.size = A at hD hE0 ⊢
  have hA : ∀ q : Nat, s.heap.size ≤ q → A q := fun q h => by rw [← hAe]; exact Or.inr h
  have hS : va_S A s.heap s.heap [] := va_S.rf
  have hE := hE0
  have hP : va_P D vwCl [(h, .inr (20, [.int 0, .ref m1, .int 0, .int 0, .ref m2, .ref m3, .int 0, .int 4, .int (-40), .ref m4, .int 0, .int 20, .int 0, .ref m5, .ref fr, .int 100, .int 60, .int 14, .ref m6, .ref m7, .ref m8])), (m1, .inr (5, [.int 0, .ref e, .int 0]))] s.heap := hP
  have hl := lv_entry ([.ref h, .int p0, .int p1, .int p2]) (n := 7) (Nat.le_of_ble_eq_true rfl)
  rw [lg_entry_eq]
  generalize (lg_sl ([.ref h, .int p0, .int p1, .int p2]) ++ List.replicate (7 - (lg_sl ([.ref h, .int p0, .int p1, .int p2])).length) Slot.unset).toArray = ls at hl ⊢
  have hl : lv_has ls 7 [(0, .ref h), (1, .int p0), (2, .int p1), (3, .int p2)] := hl
  refine lv_aload_n hx hb dX14_coat_0 rfl (lv_at hl 0 rfl) ?_
  refine lv_aload_n hx hb dX14_coat_1 rfl (lv_at hl 0 rfl) ?_
  refine va_get (D := D) (ci := 20) (v := .ref m1) (C := RX14) (T := TX14) (N := 21) hx hb hts iw_RX14_wsX14_coat hown hK hP 0 rfl rfl 1 (by decide) (hts (.fieldLink RX14 10 "CoatLineModel" "lots" "Ljava/util/List;") (by decide +kernel)) (fun _ h9 => h9) rfl dX14_coat_2 ?_
  refine lv_iload_n hx hb dX14_coat_5 rfl (lv_at hl 1 rfl) ?_
  refine vp_callSi (va_Run.run (va_runS (As := [.ref m1, .int p0]) (rest := [.ref h]) ⟨hx, hb, hml, hown, hts⟩ (c_X14_isOf l hst D e m1 0 e p0 s.heap.size) (va_cwS 2 hts gX14_coat_X14_isOf rfl rfl rfl (by decide +kernel) ⟨Nat.le_of_ble_eq_true rfl, Nat.le_of_ble_eq_true rfl⟩) ⟨cIn_blind, cIn_go hK hP hD hE hS hA [1] rfl rfl (by decide) [] rfl⟩ rfl rfl hl.1 rfl (lv_room (Nat.le_of_ble_eq_true rfl)) dX14_coat_6 ⟨Nat.le_of_ble_eq_true rfl, Nat.le_of_ble_eq_true rfl⟩)) (fun r_1 hw => ?_)
  have hw : r_1 = 0 := hw.trans (by first | rfl | decide +kernel)
  subst hw
  refine lv_if_ne (tgt := 16) hx hb dX14_coat_9 (by decide) (fun c_2 => absurd (show (0 : Int32) = 0 from by decide +kernel) c_2) (fun c_2 => ?_)
  refine lv_iconst (v := 1) hx hb dX14_coat_12 (by decide) ?_
  refine lv_goto (tgt := 44) hx hb dX14_coat_13 (by decide) ?_
  have hFc := va_free (wc := [(h, .inr (20, [.int 0, .ref m1, .int 0, .int 0, .ref m2, .ref m3, .int 0, .int 4, .int (-40), .ref m4, .int 0, .int 20, .int 0, .ref m5, .ref fr, .int 100, .int 60, .int 14, .ref m6, .ref m7, .ref m8]))]) hD hS hA [0] rfl
  refine va_calli (va_runV (As := [.int 1]) (rest := []) ⟨hx, hb, hml, hown, hts⟩ (c_X14_isWrong l hst D e h 0 ([.ref m1, .int 0, .int 0, .ref m2, .ref m3, .int 0, .int 4, .int (-40), .ref m4, .int 0, .int 20, .int 0, .ref m5, .ref fr, .int 100, .int 60, .int 14, .ref m6, .ref m7, .ref m8]) 1 s.heap.size) (cwV 1 hts gX14_coat_X14_isWrong rfl rfl rfl (by decide +kernel) ⟨Nat.le_of_ble_eq_true rfl, Nat.le_of_ble_eq_true rfl⟩) ⟨cIn_blind, va_recv hK hP (ci := 20) (q0 := 0) rfl rfl, cIn_go hK hP hD hE hS hA [0] rfl rfl (by decide) [] rfl⟩ rfl rfl hl.1 rfl (lv_room (Nat.le_of_ble_eq_true rfl)) dX14_coat_44 ⟨Nat.le_of_ble_eq_true rfl, Nat.le_of_ble_eq_true rfl⟩) hS (fun q _ h => hFc q h) hFc (fun r_3 u t H1 locs ht hvm hw hB hz1 hk1 hS => ?_)
  obtain ⟨hP1, hK1, hD1⟩ := hB
  rw [ht] at hP1
  have hK1 := va_K.moved hvm.symm hK1
  obtain ⟨hP, hD⟩ := va_join (wr := [(m1, .inr (5, [.int 0, .ref e, .int 0]))]) (w1 := [(h, .inr (20, [.int 1, .ref m1, .int 0, .int 0, .ref m2, .ref m3, .int 0, .int 4, .int (-40), .ref m4, .int 0, .int 20, .int 0, .ref m5, .ref fr, .int 100, .int 60, .int 14, .ref m6, .ref m7, .ref m8]))]) hP hD [0] [1] rfl rfl (by decide) (by decide) hk1 hFc hP1 hD1
  generalize H1 = H at hP hS ⊢
  have hP : va_P D vwCl [(m1, .inr (5, [.int 0, .ref e, .int 0])), (h, .inr (20, [.int 1, .ref m1, .int 0, .int 0, .ref m2, .ref m3, .int 0, .int 4, .int (-40), .ref m4, .int 0, .int 20, .int 0, .ref m5, .ref fr, .int 100, .int 60, .int 14, .ref m6, .ref m7, .ref m8]))] H := hP
  have hD : va_D A [(m1, .inr (5, [.int 0, .ref e, .int 0])), (h, .inr (20, [.int 1, .ref m1, .int 0, .int 0, .ref m2, .ref m3, .int 0, .int 4, .int (-40), .ref m4, .int 0, .int 20, .int 0, .ref m5, .ref fr, .int 100, .int 60, .int 14, .ref m6, .ref m7, .ref m8]))] := hD
  have hw : r_3 = 1 := hw.trans (by first | rfl | decide +kernel)
  subst hw
  refine lv_if_eq (tgt := 52) hx hb dX14_coat_47 (by decide) (fun c_5 => absurd c_5 (show ¬ ((1 : Int32) = 0) from by decide +kernel)) (fun c_5 => ?_)
  refine lv_iconst (v := 0) hx hb dX14_coat_50 (by decide) ?_
  exact W.iret (v := 0) hx hb hr (fun t ht hW => ⟨⟨0, ((1, [.ref m1, .int 0, .int 0, .ref m2, .ref m3, .int 0, .int 4, .int (-40), .ref m4, .int 0, .int 20, .int 0, .ref m5, .ref fr, .int 100, .int 60, .int 14, .ref m6, .ref m7, .ref m8]) : Int32 × List Value), rfl, ⟨rfl, rfl⟩, ⟨by rw [ht]; exact hP.sub [1] rfl, va_K.moved hW.alike (hK.sub [] rfl), hD.sub [1] (by decide) rfl⟩⟩, hS.F ht⟩) hS.2.2 dX14_coat_51
-- X14_weight
def v_X14_weight (p0 : Int32) (p1 : Int32) : Int32 := 0
def k_X14_weight (p0 : Int32) (p1 : Int32) : Int32 := 1
set_option maxHeartbeats 4000000 in
set_option maxRecDepth 100000 in
theorem c_X14_weight (l : Launch) (hst : l.stackTraces = false) (D : va_G) (e : Nat) (h : Nat) (m1 : Nat) (m2 : Nat) (m3 : Nat) (m4 : Nat) (m5 : Nat) (m6 : Nat) (m7 : Nat) (m8 : Nat) (fr : Nat) (p0 : Int32) (p1 : Int32) (sz : Nat) : Met l yX14_weight wsX14_weight ({ frames := 16, cells := 0, slots := 0, locals := 340 }) (va_Pc [.ref h, .int p0, .int p1] (cIn D [] [(h, .inr (20, [.int 0, .ref m1, .int 0, .int 0, .ref m2, .ref m3, .int 0, .int 4, .int (-40), .ref m4, .int 0, .int 20, .int 0, .ref m5, .ref fr, .int 100, .int 60, .int 14, .ref m6, .ref m7, .ref m8])), (m2, .inr (5, [.int 0, .ref e, .int 0]))] e sz)) (va_Qi (fun (r : Int32) (u : Int32 × List Value) => u.1 = k_X14_weight p0 p1 ∧ r = v_X14_weight p0 p1) (fun (u : Int32 × List Value) (t : State) => va_P D vwCl [(h, .inr (20, .int u.1 :: u.2))] t.heap ∧ va_K D vwCl [] t ∧ va_D (va_A [(h, .inr (20, [.int 0, .ref m1, .int 0, .int 0, .ref m2, .ref m3, .int 0, .int 4, .int (-40), .ref m4, .int 0, .int 20, .int 0, .ref m5, .ref fr, .int 100, .int 60, .int 14, .ref m6, .ref m7, .ref m8])), (m2, .inr (5, [.int 0, .ref e, .int 0]))] sz) [(h, .inr (20, .int u.1 :: u.2))]) (va_A [(h, .inr (20, [.int 0, .ref m1, .int 0, .int 0, .ref m2, .ref m3, .int 0, .int 4, .int (-40), .ref m4, .int 0, .int 20, .int 0, .ref m5, .ref fr, .int 100, .int 60, .int 14, .ref m6, .ref m7, .ref m8])), (m2, .inr (5, [.int 0, .ref e, .int 0]))] sz)) 0 0 (va_A [(h, .inr (20, [.int 0, .ref m1, .int 0, .int 0, .ref m2, .ref m3, .int 0, .int 4, .int (-40), .ref m4, .int 0, .int 20, .int 0, .ref m5, .ref fr, .int 100, .int 60, .int 14, .ref m6, .ref m7, .ref m8])), (m2, .inr (5, [.int 0, .ref e, .int 0]))] sz) := by
  refine Met.ofW (cc := cX14_weight) (maxL := 3) (ret := (some .int)) (by decide +kernel) rfl ?_
  intro p e9 s m args below meth c s₁ B hml hv
  obtain ⟨rfl, hsz, hP, hK, hD0, hE0⟩ := hv
  have hx := B.exec
  have hb := B.bytes
  have hr := B.returns
  have hts := atoms_spec (ws := wsX14_weight) B.pre
  have hown : s.vm.findClass RX14 = some m.cls := findClass_of_methodNamed B.named
  have hlocks := B.notSynchronized
  subst hsz
  have hD := hD0.self (sz := s.heap.size)
  generalize hAe : va_A [(h, .inr (20, [.int 0, .ref m1, .int 0, .int 0, .ref m2, .ref m3, .int 0, .int 4, .int (-40), .ref m4, .int 0, .int 20, .int 0, .ref m5, .ref fr, .int 100, .int 60, .int 14, .ref m6, .ref m7, .ref m8])), (m2, .inr (5, [.int 0, .ref e, .int 0]))] s.heap.size = A at hD hE0 ⊢
  have hA : ∀ q : Nat, s.heap.size ≤ q → A q := fun q h => by rw [← hAe]; exact Or.inr h
  have hS : va_S A s.heap s.heap [] := va_S.rf
  have hE := hE0
  have hP : va_P D vwCl [(h, .inr (20, [.int 0, .ref m1, .int 0, .int 0, .ref m2, .ref m3, .int 0, .int 4, .int (-40), .ref m4, .int 0, .int 20, .int 0, .ref m5, .ref fr, .int 100, .int 60, .int 14, .ref m6, .ref m7, .ref m8])), (m2, .inr (5, [.int 0, .ref e, .int 0]))] s.heap := hP
  have hl := lv_entry ([.ref h, .int p0, .int p1]) (n := 3) (Nat.le_of_ble_eq_true rfl)
  rw [lg_entry_eq]
  generalize (lg_sl ([.ref h, .int p0, .int p1]) ++ List.replicate (3 - (lg_sl ([.ref h, .int p0, .int p1])).length) Slot.unset).toArray = ls at hl ⊢
  have hl : lv_has ls 3 [(0, .ref h), (1, .int p0), (2, .int p1)] := hl
  refine lv_aload_n hx hb dX14_weight_0 rfl (lv_at hl 0 rfl) ?_
  refine lv_aload_n hx hb dX14_weight_1 rfl (lv_at hl 0 rfl) ?_
  refine lv_iload_n hx hb dX14_weight_2 rfl (lv_at hl 1 rfl) ?_
  refine lv_iload_n hx hb dX14_weight_3 rfl (lv_at hl 2 rfl) ?_
  refine vp_callSi (va_Run.run (va_runV (As := [.int p0, .int p1]) (rest := [.ref h]) ⟨hx, hb, hml, hown, hts⟩ (c_X14_isMetre l hst D e h m1 m2 m3 m4 m5 m6 m7 m8 fr p0 p1 s.heap.size) (cwV 2 hts gX14_weight_X14_isMetre rfl rfl rfl (by decide +kernel) ⟨Nat.le_of_ble_eq_true rfl, Nat.le_of_ble_eq_true rfl⟩) ⟨cIn_blind, va_recv hK hP (ci := 20) (q0 := 0) rfl rfl, cIn_go hK hP hD hE hS hA [0, 1] rfl rfl (by decide) [] rfl⟩ rfl rfl hl.1 rfl (lv_room (Nat.le_of_ble_eq_true rfl)) dX14_weight_4 ⟨Nat.le_of_ble_eq_true rfl, Nat.le_of_ble_eq_true rfl⟩)) (fun r_1 hw => ?_)
  have hw : r_1 = 0 := hw.trans (by first | rfl | decide +kernel)
  subst hw
  refine lv_if_eq (tgt := 14) hx hb dX14_weight_7 (by decide) (fun c_2 => ?_) (fun c_2 => absurd (show (0 : Int32) = 0 from by decide +kernel) c_2)
  refine lv_iconst (v := 1) hx hb dX14_weight_14 (by decide) ?_
  have hFc := va_free (wc := [(h, .inr (20, [.int 0, .ref m1, .int 0, .int 0, .ref m2, .ref m3, .int 0, .int 4, .int (-40), .ref m4, .int 0, .int 20, .int 0, .ref m5, .ref fr, .int 100, .int 60, .int 14, .ref m6, .ref m7, .ref m8]))]) hD hS hA [0] rfl
  refine va_calli (va_runV (As := [.int 1]) (rest := []) ⟨hx, hb, hml, hown, hts⟩ (c_X14_isWrong l hst D e h 0 ([.ref m1, .int 0, .int 0, .ref m2, .ref m3, .int 0, .int 4, .int (-40), .ref m4, .int 0, .int 20, .int 0, .ref m5, .ref fr, .int 100, .int 60, .int 14, .ref m6, .ref m7, .ref m8]) 1 s.heap.size) (cwV 1 hts gX14_weight_X14_isWrong rfl rfl rfl (by decide +kernel) ⟨Nat.le_of_ble_eq_true rfl, Nat.le_of_ble_eq_true rfl⟩) ⟨cIn_blind, va_recv hK hP (ci := 20) (q0 := 0) rfl rfl, cIn_go hK hP hD hE hS hA [0] rfl rfl (by decide) [] rfl⟩ rfl rfl hl.1 rfl (lv_room (Nat.le_of_ble_eq_true rfl)) dX14_weight_15 ⟨Nat.le_of_ble_eq_true rfl, Nat.le_of_ble_eq_true rfl⟩) hS (fun q _ h => hFc q h) hFc (fun r_3 u t H1 locs ht hvm hw hB hz1 hk1 hS => ?_)
  obtain ⟨hP1, hK1, hD1⟩ := hB
  rw [ht] at hP1
  have hK1 := va_K.moved hvm.symm hK1
  obtain ⟨hP, hD⟩ := va_join (wr := [(m2, .inr (5, [.int 0, .ref e, .int 0]))]) (w1 := [(h, .inr (20, [.int 1, .ref m1, .int 0, .int 0, .ref m2, .ref m3, .int 0, .int 4, .int (-40), .ref m4, .int 0, .int 20, .int 0, .ref m5, .ref fr, .int 100, .int 60, .int 14, .ref m6, .ref m7, .ref m8]))]) hP hD [0] [1] rfl rfl (by decide) (by decide) hk1 hFc hP1 hD1
  generalize H1 = H at hP hS ⊢
  have hP : va_P D vwCl [(m2, .inr (5, [.int 0, .ref e, .int 0])), (h, .inr (20, [.int 1, .ref m1, .int 0, .int 0, .ref m2, .ref m3, .int 0, .int 4, .int (-40), .ref m4, .int 0, .int 20, .int 0, .ref m5, .ref fr, .int 100, .int 60, .int 14, .ref m6, .ref m7, .ref m8]))] H := hP
  have hD : va_D A [(m2, .inr (5, [.int 0, .ref e, .int 0])), (h, .inr (20, [.int 1, .ref m1, .int 0, .int 0, .ref m2, .ref m3, .int 0, .int 4, .int (-40), .ref m4, .int 0, .int 20, .int 0, .ref m5, .ref fr, .int 100, .int 60, .int 14, .ref m6, .ref m7, .ref m8]))] := hD
  have hw : r_3 = 1 := hw.trans (by first | rfl | decide +kernel)
  subst hw
  refine lv_if_eq (tgt := 25) hx hb dX14_weight_18 (by decide) (fun c_5 => absurd c_5 (show ¬ ((1 : Int32) = 0) from by decide +kernel)) (fun c_5 => ?_)
  refine lv_iconst (v := 0) hx hb dX14_weight_21 (by decide) ?_
  refine lv_goto (tgt := 43) hx hb dX14_weight_22 (by decide) ?_
  exact W.iret (v := 0) hx hb hr (fun t ht hW => ⟨⟨0, ((1, [.ref m1, .int 0, .int 0, .ref m2, .ref m3, .int 0, .int 4, .int (-40), .ref m4, .int 0, .int 20, .int 0, .ref m5, .ref fr, .int 100, .int 60, .int 14, .ref m6, .ref m7, .ref m8]) : Int32 × List Value), rfl, ⟨rfl, rfl⟩, ⟨by rw [ht]; exact hP.sub [1] rfl, va_K.moved hW.alike (hK.sub [] rfl), hD.sub [1] (by decide) rfl⟩⟩, hS.F ht⟩) hS.2.2 dX14_weight_43
-- X14_mark
def v_X14_mark (p0 : Int32) (p1 : Int32) (p2 : Int32) : Int32 := 0
def k_X14_mark (p0 : Int32) (p1 : Int32) (p2 : Int32) : Int32 := 1
set_option maxHeartbeats 4000000 in
set_option maxRecDepth 100000 in
theorem c_X14_mark (l : Launch) (hst : l.stackTraces = false) (D : va_G) (e : Nat) (h : Nat) (m1 : Nat) (m2 : Nat) (m3 : Nat) (m4 : Nat) (m5 : Nat) (m6 : Nat) (m7 : Nat) (m8 : Nat) (fr : Nat) (p0 : Int32) (p1 : Int32) (p2 : Int32) (sz : Nat) : Met l yX14_mark wsX14_mark ({ frames := 16, cells := 0, slots := 0, locals := 340 }) (va_Pc [.ref h, .int p0, .int p1, .int p2] (cIn D [] [(h, .inr (20, [.int 0, .ref m1, .int 0, .int 0, .ref m2, .ref m3, .int 0, .int 4, .int (-40), .ref m4, .int 0, .int 20, .int 0, .ref m5, .ref fr, .int 100, .int 60, .int 14, .ref m6, .ref m7, .ref m8])), (m2, .inr (5, [.int 0, .ref e, .int 0]))] e sz)) (va_Qi (fun (r : Int32) (u : Int32 × List Value) => u.1 = k_X14_mark p0 p1 p2 ∧ r = v_X14_mark p0 p1 p2) (fun (u : Int32 × List Value) (t : State) => va_P D vwCl [(h, .inr (20, .int u.1 :: u.2))] t.heap ∧ va_K D vwCl [] t ∧ va_D (va_A [(h, .inr (20, [.int 0, .ref m1, .int 0, .int 0, .ref m2, .ref m3, .int 0, .int 4, .int (-40), .ref m4, .int 0, .int 20, .int 0, .ref m5, .ref fr, .int 100, .int 60, .int 14, .ref m6, .ref m7, .ref m8])), (m2, .inr (5, [.int 0, .ref e, .int 0]))] sz) [(h, .inr (20, .int u.1 :: u.2))]) (va_A [(h, .inr (20, [.int 0, .ref m1, .int 0, .int 0, .ref m2, .ref m3, .int 0, .int 4, .int (-40), .ref m4, .int 0, .int 20, .int 0, .ref m5, .ref fr, .int 100, .int 60, .int 14, .ref m6, .ref m7, .ref m8])), (m2, .inr (5, [.int 0, .ref e, .int 0]))] sz)) 0 0 (va_A [(h, .inr (20, [.int 0, .ref m1, .int 0, .int 0, .ref m2, .ref m3, .int 0, .int 4, .int (-40), .ref m4, .int 0, .int 20, .int 0, .ref m5, .ref fr, .int 100, .int 60, .int 14, .ref m6, .ref m7, .ref m8])), (m2, .inr (5, [.int 0, .ref e, .int 0]))] sz) := by
  refine Met.ofW (cc := cX14_mark) (maxL := 5) (ret := (some .char)) (by decide +kernel) rfl ?_
  intro p e9 s m args below meth c s₁ B hml hv
  obtain ⟨rfl, hsz, hP, hK, hD0, hE0⟩ := hv
  have hx := B.exec
  have hb := B.bytes
  have hr := B.returns
  have hts := atoms_spec (ws := wsX14_mark) B.pre
  have hown : s.vm.findClass RX14 = some m.cls := findClass_of_methodNamed B.named
  have hlocks := B.notSynchronized
  subst hsz
  have hD := hD0.self (sz := s.heap.size)
  generalize hAe : va_A [(h, .inr (20, [.int 0, .ref m1, .int 0, .int 0, .ref m2, .ref m3, .int 0, .int 4, .int (-40), .ref m4, .int 0, .int 20, .int 0, .ref m5, .ref fr, .int 100, .int 60, .int 14, .ref m6, .ref m7, .ref m8])), (m2, .inr (5, [.int 0, .ref e, .int 0]))] s.heap.size = A at hD hE0 ⊢
  have hA : ∀ q : Nat, s.heap.size ≤ q → A q := fun q h => by rw [← hAe]; exact Or.inr h
  have hS : va_S A s.heap s.heap [] := va_S.rf
  have hE := hE0
  have hP : va_P D vwCl [(h, .inr (20, [.int 0, .ref m1, .int 0, .int 0, .ref m2, .ref m3, .int 0, .int 4, .int (-40), .ref m4, .int 0, .int 20, .int 0, .ref m5, .ref fr, .int 100, .int 60, .int 14, .ref m6, .ref m7, .ref m8])), (m2, .inr (5, [.int 0, .ref e, .int 0]))] s.heap := hP
  have hl := lv_entry ([.ref h, .int p0, .int p1, .int p2]) (n := 5) (Nat.le_of_ble_eq_true rfl)
  rw [lg_entry_eq]
  generalize (lg_sl ([.ref h, .int p0, .int p1, .int p2]) ++ List.replicate (5 - (lg_sl ([.ref h, .int p0, .int p1, .int p2])).length) Slot.unset).toArray = ls at hl ⊢
  have hl : lv_has ls 5 [(0, .ref h), (1, .int p0), (2, .int p1), (3, .int p2)] := hl
  refine lv_aload_n hx hb dX14_mark_0 rfl (lv_at hl 0 rfl) ?_
  refine lv_aload_n hx hb dX14_mark_1 rfl (lv_at hl 0 rfl) ?_
  refine lv_iload_n hx hb dX14_mark_2 rfl (lv_at hl 1 rfl) ?_
  refine lv_iload_n hx hb dX14_mark_3 rfl (lv_at hl 2 rfl) ?_
  refine vp_callSi (va_Run.run (va_runV (As := [.int p0, .int p1]) (rest := [.ref h]) ⟨hx, hb, hml, hown, hts⟩ (c_X14_isMetre l hst D e h m1 m2 m3 m4 m5 m6 m7 m8 fr p0 p1 s.heap.size) (cwV 2 hts gX14_mark_X14_isMetre rfl rfl rfl (by decide +kernel) ⟨Nat.le_of_ble_eq_true rfl, Nat.le_of_ble_eq_true rfl⟩) ⟨cIn_blind, va_recv hK hP (ci := 20) (q0 := 0) rfl rfl, cIn_go hK hP hD hE hS hA [0, 1] rfl rfl (by decide) [] rfl⟩ rfl rfl hl.1 rfl (lv_room (Nat.le_of_ble_eq_true rfl)) dX14_mark_4 ⟨Nat.le_of_ble_eq_true rfl, Nat.le_of_ble_eq_true rfl⟩)) (fun r_1 hw => ?_)
  have hw : r_1 = 0 := hw.trans (by first | rfl | decide +kernel)
  subst hw
  refine lv_if_ne (tgt := 14) hx hb dX14_mark_7 (by decide) (fun c_2 => absurd (show (0 : Int32) = 0 from by decide +kernel) c_2) (fun c_2 => ?_)
  refine lv_iconst (v := 1) hx hb dX14_mark_10 (by decide) ?_
  refine lv_goto (tgt := 51) hx hb dX14_mark_11 (by decide) ?_
  have hFc := va_free (wc := [(h, .inr (20, [.int 0, .ref m1, .int 0, .int 0, .ref m2, .ref m3, .int 0, .int 4, .int (-40), .ref m4, .int 0, .int 20, .int 0, .ref m5, .ref fr, .int 100, .int 60, .int 14, .ref m6, .ref m7, .ref m8]))]) hD hS hA [0] rfl
  refine va_calli (va_runV (As := [.int 1]) (rest := []) ⟨hx, hb, hml, hown, hts⟩ (c_X14_isWrong l hst D e h 0 ([.ref m1, .int 0, .int 0, .ref m2, .ref m3, .int 0, .int 4, .int (-40), .ref m4, .int 0, .int 20, .int 0, .ref m5, .ref fr, .int 100, .int 60, .int 14, .ref m6, .ref m7, .ref m8]) 1 s.heap.size) (cwV 1 hts gX14_mark_X14_isWrong rfl rfl rfl (by decide +kernel) ⟨Nat.le_of_ble_eq_true rfl, Nat.le_of_ble_eq_true rfl⟩) ⟨cIn_blind, va_recv hK hP (ci := 20) (q0 := 0) rfl rfl, cIn_go hK hP hD hE hS hA [0] rfl rfl (by decide) [] rfl⟩ rfl rfl hl.1 rfl (lv_room (Nat.le_of_ble_eq_true rfl)) dX14_mark_51 ⟨Nat.le_of_ble_eq_true rfl, Nat.le_of_ble_eq_true rfl⟩) hS (fun q _ h => hFc q h) hFc (fun r_3 u t H1 locs ht hvm hw hB hz1 hk1 hS => ?_)
  obtain ⟨hP1, hK1, hD1⟩ := hB
  rw [ht] at hP1
  have hK1 := va_K.moved hvm.symm hK1
  obtain ⟨hP, hD⟩ := va_join (wr := [(m2, .inr (5, [.int 0, .ref e, .int 0]))]) (w1 := [(h, .inr (20, [.int 1, .ref m1, .int 0, .int 0, .ref m2, .ref m3, .int 0, .int 4, .int (-40), .ref m4, .int 0, .int 20, .int 0, .ref m5, .ref fr, .int 100, .int 60, .int 14, .ref m6, .ref m7, .ref m8]))]) hP hD [0] [1] rfl rfl (by decide) (by decide) hk1 hFc hP1 hD1
  generalize H1 = H at hP hS ⊢
  have hP : va_P D vwCl [(m2, .inr (5, [.int 0, .ref e, .int 0])), (h, .inr (20, [.int 1, .ref m1, .int 0, .int 0, .ref m2, .ref m3, .int 0, .int 4, .int (-40), .ref m4, .int 0, .int 20, .int 0, .ref m5, .ref fr, .int 100, .int 60, .int 14, .ref m6, .ref m7, .ref m8]))] H := hP
  have hD : va_D A [(m2, .inr (5, [.int 0, .ref e, .int 0])), (h, .inr (20, [.int 1, .ref m1, .int 0, .int 0, .ref m2, .ref m3, .int 0, .int 4, .int (-40), .ref m4, .int 0, .int 20, .int 0, .ref m5, .ref fr, .int 100, .int 60, .int 14, .ref m6, .ref m7, .ref m8]))] := hD
  have hw : r_3 = 1 := hw.trans (by first | rfl | decide +kernel)
  subst hw
  refine lv_if_eq (tgt := 59) hx hb dX14_mark_54 (by decide) (fun c_5 => absurd c_5 (show ¬ ((1 : Int32) = 0) from by decide +kernel)) (fun c_5 => ?_)
  refine lv_iconst (v := 0) hx hb dX14_mark_57 (by decide) ?_
  exact W.zret (v := 0) hx hb hr (by first | rfl | decide +kernel) (fun t ht hW => ⟨⟨0, ((1, [.ref m1, .int 0, .int 0, .ref m2, .ref m3, .int 0, .int 4, .int (-40), .ref m4, .int 0, .int 20, .int 0, .ref m5, .ref fr, .int 100, .int 60, .int 14, .ref m6, .ref m7, .ref m8]) : Int32 × List Value), rfl, ⟨rfl, rfl⟩, ⟨by rw [ht]; exact hP.sub [1] rfl, va_K.moved hW.alike (hK.sub [] rfl), hD.sub [1] (by decide) rfl⟩⟩, hS.F ht⟩) hS.2.2 dX14_mark_58
-- X14_press
def v_X14_press (p0 : Int32) (p1 : Int32) : Int32 := 0
def k_X14_press (p0 : Int32) (p1 : Int32) : Int32 := 1
set_option maxHeartbeats 4000000 in
set_option maxRecDepth 100000 in
theorem c_X14_press (l : Launch) (hst : l.stackTraces = false) (D : va_G) (e : Nat) (h : Nat) (m1 : Nat) (m2 : Nat) (m3 : Nat) (m4 : Nat) (m5 : Nat) (m6 : Nat) (m7 : Nat) (m8 : Nat) (fr : Nat) (p0 : Int32) (p1 : Int32) (sz : Nat) : Met l yX14_press wsX14_press ({ frames := 16, cells := 0, slots := 0, locals := 340 }) (va_Pc [.ref h, .int p0, .int p1] (cIn D [] [(h, .inr (20, [.int 0, .ref m1, .int 0, .int 0, .ref m2, .ref m3, .int 0, .int 4, .int (-40), .ref m4, .int 0, .int 20, .int 0, .ref m5, .ref fr, .int 100, .int 60, .int 14, .ref m6, .ref m7, .ref m8])), (m2, .inr (5, [.int 0, .ref e, .int 0]))] e sz)) (va_Qi (fun (r : Int32) (u : Int32 × List Value) => u.1 = k_X14_press p0 p1 ∧ r = v_X14_press p0 p1) (fun (u : Int32 × List Value) (t : State) => va_P D vwCl [(h, .inr (20, .int u.1 :: u.2))] t.heap ∧ va_K D vwCl [] t ∧ va_D (va_A [(h, .inr (20, [.int 0, .ref m1, .int 0, .int 0, .ref m2, .ref m3, .int 0, .int 4, .int (-40), .ref m4, .int 0, .int 20, .int 0, .ref m5, .ref fr, .int 100, .int 60, .int 14, .ref m6, .ref m7, .ref m8])), (m2, .inr (5, [.int 0, .ref e, .int 0]))] sz) [(h, .inr (20, .int u.1 :: u.2))]) (va_A [(h, .inr (20, [.int 0, .ref m1, .int 0, .int 0, .ref m2, .ref m3, .int 0, .int 4, .int (-40), .ref m4, .int 0, .int 20, .int 0, .ref m5, .ref fr, .int 100, .int 60, .int 14, .ref m6, .ref m7, .ref m8])), (m2, .inr (5, [.int 0, .ref e, .int 0]))] sz)) 0 0 (va_A [(h, .inr (20, [.int 0, .ref m1, .int 0, .int 0, .ref m2, .ref m3, .int 0, .int 4, .int (-40), .ref m4, .int 0, .int 20, .int 0, .ref m5, .ref fr, .int 100, .int 60, .int 14, .ref m6, .ref m7, .ref m8])), (m2, .inr (5, [.int 0, .ref e, .int 0]))] sz) := by
  refine Met.ofW (cc := cX14_press) (maxL := 4) (ret := (some .int)) (by decide +kernel) rfl ?_
  intro p e9 s m args below meth c s₁ B hml hv
  obtain ⟨rfl, hsz, hP, hK, hD0, hE0⟩ := hv
  have hx := B.exec
  have hb := B.bytes
  have hr := B.returns
  have hts := atoms_spec (ws := wsX14_press) B.pre
  have hown : s.vm.findClass RX14 = some m.cls := findClass_of_methodNamed B.named
  have hlocks := B.notSynchronized
  subst hsz
  have hD := hD0.self (sz := s.heap.size)
  generalize hAe : va_A [(h, .inr (20, [.int 0, .ref m1, .int 0, .int 0, .ref m2, .ref m3, .int 0, .int 4, .int (-40), .ref m4, .int 0, .int 20, .int 0, .ref m5, .ref fr, .int 100, .int 60, .int 14, .ref m6, .ref m7, .ref m8])), (m2, .inr (5, [.int 0, .ref e, .int 0]))] s.heap.size = A at hD hE0 ⊢
  have hA : ∀ q : Nat, s.heap.size ≤ q → A q := fun q h => by rw [← hAe]; exact Or.inr h
  have hS : va_S A s.heap s.heap [] := va_S.rf
  have hE := hE0
  have hP : va_P D vwCl [(h, .inr (20, [.int 0, .ref m1, .int 0, .int 0, .ref m2, .ref m3, .int 0, .int 4, .int (-40), .ref m4, .int 0, .int 20, .int 0, .ref m5, .ref fr, .int 100, .int 60, .int 14, .ref m6, .ref m7, .ref m8])), (m2, .inr (5, [.int 0, .ref e, .int 0]))] s.heap := hP
  have hl := lv_entry ([.ref h, .int p0, .int p1]) (n := 4) (Nat.le_of_ble_eq_true rfl)
  rw [lg_entry_eq]
  generalize (lg_sl ([.ref h, .int p0, .int p1]) ++ List.replicate (4 - (lg_sl ([.ref h, .int p0, .int p1])).length) Slot.unset).toArray = ls at hl ⊢
  have hl : lv_has ls 4 [(0, .ref h), (1, .int p0), (2, .int p1)] := hl
  refine lv_aload_n hx hb dX14_press_0 rfl (lv_at hl 0 rfl) ?_
  refine lv_aload_n hx hb dX14_press_1 rfl (lv_at hl 0 rfl) ?_
  refine va_get (D := D) (ci := 20) (v := .ref m2) (C := RX14) (T := TX14) (N := 21) hx hb hts iw_RX14_wsX14_press hown hK hP 0 rfl rfl 4 (by decide) (hts (.fieldLink RX14 16 "CoatLineModel" "coils" "Ljava/util/List;") (by decide +kernel)) (fun _ h9 => h9) rfl dX14_press_2 ?_
  refine lv_iload_n hx hb dX14_press_5 rfl (lv_at hl 1 rfl) ?_
  refine vp_callSi (va_Run.run (va_runS (As := [.ref m2, .int p0]) (rest := [.ref h]) ⟨hx, hb, hml, hown, hts⟩ (c_X14_isOf l hst D e m2 0 e p0 s.heap.size) (va_cwS 2 hts gX14_press_X14_isOf rfl rfl rfl (by decide +kernel) ⟨Nat.le_of_ble_eq_true rfl, Nat.le_of_ble_eq_true rfl⟩) ⟨cIn_blind, cIn_go hK hP hD hE hS hA [1] rfl rfl (by decide) [] rfl⟩ rfl rfl hl.1 rfl (lv_room (Nat.le_of_ble_eq_true rfl)) dX14_press_6 ⟨Nat.le_of_ble_eq_true rfl, Nat.le_of_ble_eq_true rfl⟩)) (fun r_1 hw => ?_)
  have hw : r_1 = 0 := hw.trans (by first | rfl | decide +kernel)
  subst hw
  refine lv_if_ne (tgt := 16) hx hb dX14_press_9 (by decide) (fun c_2 => absurd (show (0 : Int32) = 0 from by decide +kernel) c_2) (fun c_2 => ?_)
  refine lv_iconst (v := 1) hx hb dX14_press_12 (by decide) ?_
  refine lv_goto (tgt := 54) hx hb dX14_press_13 (by decide) ?_
  have hFc := va_free (wc := [(h, .inr (20, [.int 0, .ref m1, .int 0, .int 0, .ref m2, .ref m3, .int 0, .int 4, .int (-40), .ref m4, .int 0, .int 20, .int 0, .ref m5, .ref fr, .int 100, .int 60, .int 14, .ref m6, .ref m7, .ref m8]))]) hD hS hA [0] rfl
  refine va_calli (va_runV (As := [.int 1]) (rest := []) ⟨hx, hb, hml, hown, hts⟩ (c_X14_isWrong l hst D e h 0 ([.ref m1, .int 0, .int 0, .ref m2, .ref m3, .int 0, .int 4, .int (-40), .ref m4, .int 0, .int 20, .int 0, .ref m5, .ref fr, .int 100, .int 60, .int 14, .ref m6, .ref m7, .ref m8]) 1 s.heap.size) (cwV 1 hts gX14_press_X14_isWrong rfl rfl rfl (by decide +kernel) ⟨Nat.le_of_ble_eq_true rfl, Nat.le_of_ble_eq_true rfl⟩) ⟨cIn_blind, va_recv hK hP (ci := 20) (q0 := 0) rfl rfl, cIn_go hK hP hD hE hS hA [0] rfl rfl (by decide) [] rfl⟩ rfl rfl hl.1 rfl (lv_room (Nat.le_of_ble_eq_true rfl)) dX14_press_54 ⟨Nat.le_of_ble_eq_true rfl, Nat.le_of_ble_eq_true rfl⟩) hS (fun q _ h => hFc q h) hFc (fun r_3 u t H1 locs ht hvm hw hB hz1 hk1 hS => ?_)
  obtain ⟨hP1, hK1, hD1⟩ := hB
  rw [ht] at hP1
  have hK1 := va_K.moved hvm.symm hK1
  obtain ⟨hP, hD⟩ := va_join (wr := [(m2, .inr (5, [.int 0, .ref e, .int 0]))]) (w1 := [(h, .inr (20, [.int 1, .ref m1, .int 0, .int 0, .ref m2, .ref m3, .int 0, .int 4, .int (-40), .ref m4, .int 0, .int 20, .int 0, .ref m5, .ref fr, .int 100, .int 60, .int 14, .ref m6, .ref m7, .ref m8]))]) hP hD [0] [1] rfl rfl (by decide) (by decide) hk1 hFc hP1 hD1
  generalize H1 = H at hP hS ⊢
  have hP : va_P D vwCl [(m2, .inr (5, [.int 0, .ref e, .int 0])), (h, .inr (20, [.int 1, .ref m1, .int 0, .int 0, .ref m2, .ref m3, .int 0, .int 4, .int (-40), .ref m4, .int 0, .int 20, .int 0, .ref m5, .ref fr, .int 100, .int 60, .int 14, .ref m6, .ref m7, .ref m8]))] H := hP
  have hD : va_D A [(m2, .inr (5, [.int 0, .ref e, .int 0])), (h, .inr (20, [.int 1, .ref m1, .int 0, .int 0, .ref m2, .ref m3, .int 0, .int 4, .int (-40), .ref m4, .int 0, .int 20, .int 0, .ref m5, .ref fr, .int 100, .int 60, .int 14, .ref m6, .ref m7, .ref m8]))] := hD
  have hw : r_3 = 1 := hw.trans (by first | rfl | decide +kernel)
  subst hw
  refine lv_if_eq (tgt := 62) hx hb dX14_press_57 (by decide) (fun c_5 => absurd c_5 (show ¬ ((1 : Int32) = 0) from by decide +kernel)) (fun c_5 => ?_)
  refine lv_iconst (v := 0) hx hb dX14_press_60 (by decide) ?_
  exact W.iret (v := 0) hx hb hr (fun t ht hW => ⟨⟨0, ((1, [.ref m1, .int 0, .int 0, .ref m2, .ref m3, .int 0, .int 4, .int (-40), .ref m4, .int 0, .int 20, .int 0, .ref m5, .ref fr, .int 100, .int 60, .int 14, .ref m6, .ref m7, .ref m8]) : Int32 × List Value), rfl, ⟨rfl, rfl⟩, ⟨by rw [ht]; exact hP.sub [1] rfl, va_K.moved hW.alike (hK.sub [] rfl), hD.sub [1] (by decide) rfl⟩⟩, hS.F ht⟩) hS.2.2 dX14_press_61
-- X14_thickness
def v_X14_thickness (p0 : Int32) (p1 : Int32) : Int32 := 0
def k_X14_thickness (p0 : Int32) (p1 : Int32) : Int32 := 1
set_option maxHeartbeats 4000000 in
set_option maxRecDepth 100000 in
theorem c_X14_thickness (l : Launch) (hst : l.stackTraces = false) (D : va_G) (e : Nat) (h : Nat) (m1 : Nat) (m2 : Nat) (m3 : Nat) (m4 : Nat) (m5 : Nat) (m6 : Nat) (m7 : Nat) (m8 : Nat) (fr : Nat) (p0 : Int32) (p1 : Int32) (sz : Nat) : Met l yX14_thickness wsX14_thickness ({ frames := 16, cells := 0, slots := 0, locals := 340 }) (va_Pc [.ref h, .int p0, .int p1] (cIn D [] [(h, .inr (20, [.int 0, .ref m1, .int 0, .int 0, .ref m2, .ref m3, .int 0, .int 4, .int (-40), .ref m4, .int 0, .int 20, .int 0, .ref m5, .ref fr, .int 100, .int 60, .int 14, .ref m6, .ref m7, .ref m8])), (m2, .inr (5, [.int 0, .ref e, .int 0]))] e sz)) (va_Qi (fun (r : Int32) (u : Int32 × List Value) => u.1 = k_X14_thickness p0 p1 ∧ r = v_X14_thickness p0 p1) (fun (u : Int32 × List Value) (t : State) => va_P D vwCl [(h, .inr (20, .int u.1 :: u.2))] t.heap ∧ va_K D vwCl [] t ∧ va_D (va_A [(h, .inr (20, [.int 0, .ref m1, .int 0, .int 0, .ref m2, .ref m3, .int 0, .int 4, .int (-40), .ref m4, .int 0, .int 20, .int 0, .ref m5, .ref fr, .int 100, .int 60, .int 14, .ref m6, .ref m7, .ref m8])), (m2, .inr (5, [.int 0, .ref e, .int 0]))] sz) [(h, .inr (20, .int u.1 :: u.2))]) (va_A [(h, .inr (20, [.int 0, .ref m1, .int 0, .int 0, .ref m2, .ref m3, .int 0, .int 4, .int (-40), .ref m4, .int 0, .int 20, .int 0, .ref m5, .ref fr, .int 100, .int 60, .int 14, .ref m6, .ref m7, .ref m8])), (m2, .inr (5, [.int 0, .ref e, .int 0]))] sz)) 0 0 (va_A [(h, .inr (20, [.int 0, .ref m1, .int 0, .int 0, .ref m2, .ref m3, .int 0, .int 4, .int (-40), .ref m4, .int 0, .int 20, .int 0, .ref m5, .ref fr, .int 100, .int 60, .int 14, .ref m6, .ref m7, .ref m8])), (m2, .inr (5, [.int 0, .ref e, .int 0]))] sz) := by
  refine Met.ofW (cc := cX14_thickness) (maxL := 3) (ret := (some .int)) (by decide +kernel) rfl ?_
  intro p e9 s m args below meth c s₁ B hml hv
  obtain ⟨rfl, hsz, hP, hK, hD0, hE0⟩ := hv
  have hx := B.exec
  have hb := B.bytes
  have hr := B.returns
  have hts := atoms_spec (ws := wsX14_thickness) B.pre
  have hown : s.vm.findClass RX14 = some m.cls := findClass_of_methodNamed B.named
  have hlocks := B.notSynchronized
  subst hsz
  have hD := hD0.self (sz := s.heap.size)
  generalize hAe : va_A [(h, .inr (20, [.int 0, .ref m1, .int 0, .int 0, .ref m2, .ref m3, .int 0, .int 4, .int (-40), .ref m4, .int 0, .int 20, .int 0, .ref m5, .ref fr, .int 100, .int 60, .int 14, .ref m6, .ref m7, .ref m8])), (m2, .inr (5, [.int 0, .ref e, .int 0]))] s.heap.size = A at hD hE0 ⊢
  have hA : ∀ q : Nat, s.heap.size ≤ q → A q := fun q h => by rw [← hAe]; exact Or.inr h
  have hS : va_S A s.heap s.heap [] := va_S.rf
  have hE := hE0
  have hP : va_P D vwCl [(h, .inr (20, [.int 0, .ref m1, .int 0, .int 0, .ref m2, .ref m3, .int 0, .int 4, .int (-40), .ref m4, .int 0, .int 20, .int 0, .ref m5, .ref fr, .int 100, .int 60, .int 14, .ref m6, .ref m7, .ref m8])), (m2, .inr (5, [.int 0, .ref e, .int 0]))] s.heap := hP
  have hl := lv_entry ([.ref h, .int p0, .int p1]) (n := 3) (Nat.le_of_ble_eq_true rfl)
  rw [lg_entry_eq]
  generalize (lg_sl ([.ref h, .int p0, .int p1]) ++ List.replicate (3 - (lg_sl ([.ref h, .int p0, .int p1])).length) Slot.unset).toArray = ls at hl ⊢
  have hl : lv_has ls 3 [(0, .ref h), (1, .int p0), (2, .int p1)] := hl
  refine lv_aload_n hx hb dX14_thickness_0 rfl (lv_at hl 0 rfl) ?_
  refine lv_aload_n hx hb dX14_thickness_1 rfl (lv_at hl 0 rfl) ?_
  refine lv_iload_n hx hb dX14_thickness_2 rfl (lv_at hl 1 rfl) ?_
  refine lv_iload_n hx hb dX14_thickness_3 rfl (lv_at hl 2 rfl) ?_
  refine vp_callSi (va_Run.run (va_runV (As := [.int p0, .int p1]) (rest := [.ref h]) ⟨hx, hb, hml, hown, hts⟩ (c_X14_isMetre l hst D e h m1 m2 m3 m4 m5 m6 m7 m8 fr p0 p1 s.heap.size) (cwV 2 hts gX14_thickness_X14_isMetre rfl rfl rfl (by decide +kernel) ⟨Nat.le_of_ble_eq_true rfl, Nat.le_of_ble_eq_true rfl⟩) ⟨cIn_blind, va_recv hK hP (ci := 20) (q0 := 0) rfl rfl, cIn_go hK hP hD hE hS hA [0, 1] rfl rfl (by decide) [] rfl⟩ rfl rfl hl.1 rfl (lv_room (Nat.le_of_ble_eq_true rfl)) dX14_thickness_4 ⟨Nat.le_of_ble_eq_true rfl, Nat.le_of_ble_eq_true rfl⟩)) (fun r_1 hw => ?_)
  have hw : r_1 = 0 := hw.trans (by first | rfl | decide +kernel)
  subst hw
  refine lv_if_eq (tgt := 14) hx hb dX14_thickness_7 (by decide) (fun c_2 => ?_) (fun c_2 => absurd (show (0 : Int32) = 0 from by decide +kernel) c_2)
  refine lv_iconst (v := 1) hx hb dX14_thickness_14 (by decide) ?_
  have hFc := va_free (wc := [(h, .inr (20, [.int 0, .ref m1, .int 0, .int 0, .ref m2, .ref m3, .int 0, .int 4, .int (-40), .ref m4, .int 0, .int 20, .int 0, .ref m5, .ref fr, .int 100, .int 60, .int 14, .ref m6, .ref m7, .ref m8]))]) hD hS hA [0] rfl
  refine va_calli (va_runV (As := [.int 1]) (rest := []) ⟨hx, hb, hml, hown, hts⟩ (c_X14_isWrong l hst D e h 0 ([.ref m1, .int 0, .int 0, .ref m2, .ref m3, .int 0, .int 4, .int (-40), .ref m4, .int 0, .int 20, .int 0, .ref m5, .ref fr, .int 100, .int 60, .int 14, .ref m6, .ref m7, .ref m8]) 1 s.heap.size) (cwV 1 hts gX14_thickness_X14_isWrong rfl rfl rfl (by decide +kernel) ⟨Nat.le_of_ble_eq_true rfl, Nat.le_of_ble_eq_true rfl⟩) ⟨cIn_blind, va_recv hK hP (ci := 20) (q0 := 0) rfl rfl, cIn_go hK hP hD hE hS hA [0] rfl rfl (by decide) [] rfl⟩ rfl rfl hl.1 rfl (lv_room (Nat.le_of_ble_eq_true rfl)) dX14_thickness_15 ⟨Nat.le_of_ble_eq_true rfl, Nat.le_of_ble_eq_true rfl⟩) hS (fun q _ h => hFc q h) hFc (fun r_3 u t H1 locs ht hvm hw hB hz1 hk1 hS => ?_)
  obtain ⟨hP1, hK1, hD1⟩ := hB
  rw [ht] at hP1
  have hK1 := va_K.moved hvm.symm hK1
  obtain ⟨hP, hD⟩ := va_join (wr := [(m2, .inr (5, [.int 0, .ref e, .int 0]))]) (w1 := [(h, .inr (20, [.int 1, .ref m1, .int 0, .int 0, .ref m2, .ref m3, .int 0, .int 4, .int (-40), .ref m4, .int 0, .int 20, .int 0, .ref m5, .ref fr, .int 100, .int 60, .int 14, .ref m6, .ref m7, .ref m8]))]) hP hD [0] [1] rfl rfl (by decide) (by decide) hk1 hFc hP1 hD1
  generalize H1 = H at hP hS ⊢
  have hP : va_P D vwCl [(m2, .inr (5, [.int 0, .ref e, .int 0])), (h, .inr (20, [.int 1, .ref m1, .int 0, .int 0, .ref m2, .ref m3, .int 0, .int 4, .int (-40), .ref m4, .int 0, .int 20, .int 0, .ref m5, .ref fr, .int 100, .int 60, .int 14, .ref m6, .ref m7, .ref m8]))] H := hP
  have hD : va_D A [(m2, .inr (5, [.int 0, .ref e, .int 0])), (h, .inr (20, [.int 1, .ref m1, .int 0, .int 0, .ref m2, .ref m3, .int 0, .int 4, .int (-40), .ref m4, .int 0, .int 20, .int 0, .ref m5, .ref fr, .int 100, .int 60, .int 14, .ref m6, .ref m7, .ref m8]))] := hD
  have hw : r_3 = 1 := hw.trans (by first | rfl | decide +kernel)
  subst hw
  refine lv_if_eq (tgt := 25) hx hb dX14_thickness_18 (by decide) (fun c_5 => absurd c_5 (show ¬ ((1 : Int32) = 0) from by decide +kernel)) (fun c_5 => ?_)
  refine lv_iconst (v := 0) hx hb dX14_thickness_21 (by decide) ?_
  refine lv_goto (tgt := 42) hx hb dX14_thickness_22 (by decide) ?_
  exact W.iret (v := 0) hx hb hr (fun t ht hW => ⟨⟨0, ((1, [.ref m1, .int 0, .int 0, .ref m2, .ref m3, .int 0, .int 4, .int (-40), .ref m4, .int 0, .int 20, .int 0, .ref m5, .ref fr, .int 100, .int 60, .int 14, .ref m6, .ref m7, .ref m8]) : Int32 × List Value), rfl, ⟨rfl, rfl⟩, ⟨by rw [ht]; exact hP.sub [1] rfl, va_K.moved hW.alike (hK.sub [] rfl), hD.sub [1] (by decide) rfl⟩⟩, hS.F ht⟩) hS.2.2 dX14_thickness_42
-- X14_slit
def v_X14_slit (p0 : Int32) (p1 : Int32) : Int32 := 0
def k_X14_slit (p0 : Int32) (p1 : Int32) : Int32 := 1
set_option maxHeartbeats 4000000 in
set_option maxRecDepth 100000 in
theorem c_X14_slit (l : Launch) (hst : l.stackTraces = false) (D : va_G) (e : Nat) (h : Nat) (m1 : Nat) (m2 : Nat) (m3 : Nat) (m4 : Nat) (m5 : Nat) (m6 : Nat) (m7 : Nat) (m8 : Nat) (fr : Nat) (p0 : Int32) (p1 : Int32) (sz : Nat) : Met l yX14_slit wsX14_slit ({ frames := 16, cells := 0, slots := 0, locals := 340 }) (va_Pc [.ref h, .int p0, .int p1] (cIn D [] [(h, .inr (20, [.int 0, .ref m1, .int 0, .int 0, .ref m2, .ref m3, .int 0, .int 4, .int (-40), .ref m4, .int 0, .int 20, .int 0, .ref m5, .ref fr, .int 100, .int 60, .int 14, .ref m6, .ref m7, .ref m8])), (m2, .inr (5, [.int 0, .ref e, .int 0]))] e sz)) (va_Qi (fun (r : Int32) (u : Int32 × List Value) => u.1 = k_X14_slit p0 p1 ∧ r = v_X14_slit p0 p1) (fun (u : Int32 × List Value) (t : State) => va_P D vwCl [(h, .inr (20, .int u.1 :: u.2))] t.heap ∧ va_K D vwCl [] t ∧ va_D (va_A [(h, .inr (20, [.int 0, .ref m1, .int 0, .int 0, .ref m2, .ref m3, .int 0, .int 4, .int (-40), .ref m4, .int 0, .int 20, .int 0, .ref m5, .ref fr, .int 100, .int 60, .int 14, .ref m6, .ref m7, .ref m8])), (m2, .inr (5, [.int 0, .ref e, .int 0]))] sz) [(h, .inr (20, .int u.1 :: u.2))]) (va_A [(h, .inr (20, [.int 0, .ref m1, .int 0, .int 0, .ref m2, .ref m3, .int 0, .int 4, .int (-40), .ref m4, .int 0, .int 20, .int 0, .ref m5, .ref fr, .int 100, .int 60, .int 14, .ref m6, .ref m7, .ref m8])), (m2, .inr (5, [.int 0, .ref e, .int 0]))] sz)) 0 0 (va_A [(h, .inr (20, [.int 0, .ref m1, .int 0, .int 0, .ref m2, .ref m3, .int 0, .int 4, .int (-40), .ref m4, .int 0, .int 20, .int 0, .ref m5, .ref fr, .int 100, .int 60, .int 14, .ref m6, .ref m7, .ref m8])), (m2, .inr (5, [.int 0, .ref e, .int 0]))] sz) := by
  refine Met.ofW (cc := cX14_slit) (maxL := 4) (ret := (some .int)) (by decide +kernel) rfl ?_
  intro p e9 s m args below meth c s₁ B hml hv
  obtain ⟨rfl, hsz, hP, hK, hD0, hE0⟩ := hv
  have hx := B.exec
  have hb := B.bytes
  have hr := B.returns
  have hts := atoms_spec (ws := wsX14_slit) B.pre
  have hown : s.vm.findClass RX14 = some m.cls := findClass_of_methodNamed B.named
  have hlocks := B.notSynchronized
  subst hsz
  have hD := hD0.self (sz := s.heap.size)
  generalize hAe : va_A [(h, .inr (20, [.int 0, .ref m1, .int 0, .int 0, .ref m2, .ref m3, .int 0, .int 4, .int (-40), .ref m4, .int 0, .int 20, .int 0, .ref m5, .ref fr, .int 100, .int 60, .int 14, .ref m6, .ref m7, .ref m8])), (m2, .inr (5, [.int 0, .ref e, .int 0]))] s.heap.size = A at hD hE0 ⊢
  have hA : ∀ q : Nat, s.heap.size ≤ q → A q := fun q h => by rw [← hAe]; exact Or.inr h
  have hS : va_S A s.heap s.heap [] := va_S.rf
  have hE := hE0
  have hP : va_P D vwCl [(h, .inr (20, [.int 0, .ref m1, .int 0, .int 0, .ref m2, .ref m3, .int 0, .int 4, .int (-40), .ref m4, .int 0, .int 20, .int 0, .ref m5, .ref fr, .int 100, .int 60, .int 14, .ref m6, .ref m7, .ref m8])), (m2, .inr (5, [.int 0, .ref e, .int 0]))] s.heap := hP
  have hl := lv_entry ([.ref h, .int p0, .int p1]) (n := 4) (Nat.le_of_ble_eq_true rfl)
  rw [lg_entry_eq]
  generalize (lg_sl ([.ref h, .int p0, .int p1]) ++ List.replicate (4 - (lg_sl ([.ref h, .int p0, .int p1])).length) Slot.unset).toArray = ls at hl ⊢
  have hl : lv_has ls 4 [(0, .ref h), (1, .int p0), (2, .int p1)] := hl
  refine lv_aload_n hx hb dX14_slit_0 rfl (lv_at hl 0 rfl) ?_
  refine lv_aload_n hx hb dX14_slit_1 rfl (lv_at hl 0 rfl) ?_
  refine va_get (D := D) (ci := 20) (v := .ref m2) (C := RX14) (T := TX14) (N := 21) hx hb hts iw_RX14_wsX14_slit hown hK hP 0 rfl rfl 4 (by decide) (hts (.fieldLink RX14 16 "CoatLineModel" "coils" "Ljava/util/List;") (by decide +kernel)) (fun _ h9 => h9) rfl dX14_slit_2 ?_
  refine lv_iload_n hx hb dX14_slit_5 rfl (lv_at hl 1 rfl) ?_
  refine vp_callSi (va_Run.run (va_runS (As := [.ref m2, .int p0]) (rest := [.ref h]) ⟨hx, hb, hml, hown, hts⟩ (c_X14_isOf l hst D e m2 0 e p0 s.heap.size) (va_cwS 2 hts gX14_slit_X14_isOf rfl rfl rfl (by decide +kernel) ⟨Nat.le_of_ble_eq_true rfl, Nat.le_of_ble_eq_true rfl⟩) ⟨cIn_blind, cIn_go hK hP hD hE hS hA [1] rfl rfl (by decide) [] rfl⟩ rfl rfl hl.1 rfl (lv_room (Nat.le_of_ble_eq_true rfl)) dX14_slit_6 ⟨Nat.le_of_ble_eq_true rfl, Nat.le_of_ble_eq_true rfl⟩)) (fun r_1 hw => ?_)
  have hw : r_1 = 0 := hw.trans (by first | rfl | decide +kernel)
  subst hw
  refine lv_if_ne (tgt := 16) hx hb dX14_slit_9 (by decide) (fun c_2 => absurd (show (0 : Int32) = 0 from by decide +kernel) c_2) (fun c_2 => ?_)
  refine lv_iconst (v := 1) hx hb dX14_slit_12 (by decide) ?_
  refine lv_goto (tgt := 73) hx hb dX14_slit_13 (by decide) ?_
  have hFc := va_free (wc := [(h, .inr (20, [.int 0, .ref m1, .int 0, .int 0, .ref m2, .ref m3, .int 0, .int 4, .int (-40), .ref m4, .int 0, .int 20, .int 0, .ref m5, .ref fr, .int 100, .int 60, .int 14, .ref m6, .ref m7, .ref m8]))]) hD hS hA [0] rfl
  refine va_calli (va_runV (As := [.int 1]) (rest := []) ⟨hx, hb, hml, hown, hts⟩ (c_X14_isWrong l hst D e h 0 ([.ref m1, .int 0, .int 0, .ref m2, .ref m3, .int 0, .int 4, .int (-40), .ref m4, .int 0, .int 20, .int 0, .ref m5, .ref fr, .int 100, .int 60, .int 14, .ref m6, .ref m7, .ref m8]) 1 s.heap.size) (cwV 1 hts gX14_slit_X14_isWrong rfl rfl rfl (by decide +kernel) ⟨Nat.le_of_ble_eq_true rfl, Nat.le_of_ble_eq_true rfl⟩) ⟨cIn_blind, va_recv hK hP (ci := 20) (q0 := 0) rfl rfl, cIn_go hK hP hD hE hS hA [0] rfl rfl (by decide) [] rfl⟩ rfl rfl hl.1 rfl (lv_room (Nat.le_of_ble_eq_true rfl)) dX14_slit_73 ⟨Nat.le_of_ble_eq_true rfl, Nat.le_of_ble_eq_true rfl⟩) hS (fun q _ h => hFc q h) hFc (fun r_3 u t H1 locs ht hvm hw hB hz1 hk1 hS => ?_)
  obtain ⟨hP1, hK1, hD1⟩ := hB
  rw [ht] at hP1
  have hK1 := va_K.moved hvm.symm hK1
  obtain ⟨hP, hD⟩ := va_join (wr := [(m2, .inr (5, [.int 0, .ref e, .int 0]))]) (w1 := [(h, .inr (20, [.int 1, .ref m1, .int 0, .int 0, .ref m2, .ref m3, .int 0, .int 4, .int (-40), .ref m4, .int 0, .int 20, .int 0, .ref m5, .ref fr, .int 100, .int 60, .int 14, .ref m6, .ref m7, .ref m8]))]) hP hD [0] [1] rfl rfl (by decide) (by decide) hk1 hFc hP1 hD1
  generalize H1 = H at hP hS ⊢
  have hP : va_P D vwCl [(m2, .inr (5, [.int 0, .ref e, .int 0])), (h, .inr (20, [.int 1, .ref m1, .int 0, .int 0, .ref m2, .ref m3, .int 0, .int 4, .int (-40), .ref m4, .int 0, .int 20, .int 0, .ref m5, .ref fr, .int 100, .int 60, .int 14, .ref m6, .ref m7, .ref m8]))] H := hP
  have hD : va_D A [(m2, .inr (5, [.int 0, .ref e, .int 0])), (h, .inr (20, [.int 1, .ref m1, .int 0, .int 0, .ref m2, .ref m3, .int 0, .int 4, .int (-40), .ref m4, .int 0, .int 20, .int 0, .ref m5, .ref fr, .int 100, .int 60, .int 14, .ref m6, .ref m7, .ref m8]))] := hD
  have hw : r_3 = 1 := hw.trans (by first | rfl | decide +kernel)
  subst hw
  refine lv_if_eq (tgt := 81) hx hb dX14_slit_76 (by decide) (fun c_5 => absurd c_5 (show ¬ ((1 : Int32) = 0) from by decide +kernel)) (fun c_5 => ?_)
  refine lv_iconst (v := 0) hx hb dX14_slit_79 (by decide) ?_
  exact W.iret (v := 0) hx hb hr (fun t ht hW => ⟨⟨0, ((1, [.ref m1, .int 0, .int 0, .ref m2, .ref m3, .int 0, .int 4, .int (-40), .ref m4, .int 0, .int 20, .int 0, .ref m5, .ref fr, .int 100, .int 60, .int 14, .ref m6, .ref m7, .ref m8]) : Int32 × List Value), rfl, ⟨rfl, rfl⟩, ⟨by rw [ht]; exact hP.sub [1] rfl, va_K.moved hW.alike (hK.sub [] rfl), hD.sub [1] (by decide) rfl⟩⟩, hS.F ht⟩) hS.2.2 dX14_slit_80
-- X14_burr
def v_X14_burr (p0 : Int32) : Int32 := 0
def k_X14_burr (p0 : Int32) : Int32 := 1
set_option maxHeartbeats 4000000 in
set_option maxRecDepth 100000 in
theorem c_X14_burr (l : Launch) (hst : l.stackTraces = false) (D : va_G) (e : Nat) (h : Nat) (m1 : Nat) (m2 : Nat) (m3 : Nat) (m4 : Nat) (m5 : Nat) (m6 : Nat) (m7 : Nat) (m8 : Nat) (fr : Nat) (p0 : Int32) (sz : Nat) : Met l yX14_burr wsX14_burr ({ frames := 16, cells := 0, slots := 0, locals := 340 }) (va_Pc [.ref h, .int p0] (cIn D [] [(h, .inr (20, [.int 0, .ref m1, .int 0, .int 0, .ref m2, .ref m3, .int 0, .int 4, .int (-40), .ref m4, .int 0, .int 20, .int 0, .ref m5, .ref fr, .int 100, .int 60, .int 14, .ref m6, .ref m7, .ref m8])), (m3, .inr (5, [.int 0, .ref e, .int 0]))] e sz)) (va_Qi (fun (r : Int32) (u : Int32 × List Value) => u.1 = k_X14_burr p0 ∧ r = v_X14_burr p0) (fun (u : Int32 × List Value) (t : State) => va_P D vwCl [(h, .inr (20, .int u.1 :: u.2))] t.heap ∧ va_K D vwCl [] t ∧ va_D (va_A [(h, .inr (20, [.int 0, .ref m1, .int 0, .int 0, .ref m2, .ref m3, .int 0, .int 4, .int (-40), .ref m4, .int 0, .int 20, .int 0, .ref m5, .ref fr, .int 100, .int 60, .int 14, .ref m6, .ref m7, .ref m8])), (m3, .inr (5, [.int 0, .ref e, .int 0]))] sz) [(h, .inr (20, .int u.1 :: u.2))]) (va_A [(h, .inr (20, [.int 0, .ref m1, .int 0, .int 0, .ref m2, .ref m3, .int 0, .int 4, .int (-40), .ref m4, .int 0, .int 20, .int 0, .ref m5, .ref fr, .int 100, .int 60, .int 14, .ref m6, .ref m7, .ref m8])), (m3, .inr (5, [.int 0, .ref e, .int 0]))] sz)) 0 0 (va_A [(h, .inr (20, [.int 0, .ref m1, .int 0, .int 0, .ref m2, .ref m3, .int 0, .int 4, .int (-40), .ref m4, .int 0, .int 20, .int 0, .ref m5, .ref fr, .int 100, .int 60, .int 14, .ref m6, .ref m7, .ref m8])), (m3, .inr (5, [.int 0, .ref e, .int 0]))] sz) := by
  refine Met.ofW (cc := cX14_burr) (maxL := 2) (ret := (some .int)) (by decide +kernel) rfl ?_
  intro p e9 s m args below meth c s₁ B hml hv
  obtain ⟨rfl, hsz, hP, hK, hD0, hE0⟩ := hv
  have hx := B.exec
  have hb := B.bytes
  have hr := B.returns
  have hts := atoms_spec (ws := wsX14_burr) B.pre
  have hown : s.vm.findClass RX14 = some m.cls := findClass_of_methodNamed B.named
  have hlocks := B.notSynchronized
  subst hsz
  have hD := hD0.self (sz := s.heap.size)
  generalize hAe : va_A [(h, .inr (20, [.int 0, .ref m1, .int 0, .int 0, .ref m2, .ref m3, .int 0, .int 4, .int (-40), .ref m4, .int 0, .int 20, .int 0, .ref m5, .ref fr, .int 100, .int 60, .int 14, .ref m6, .ref m7, .ref m8])), (m3, .inr (5, [.int 0, .ref e, .int 0]))] s.heap.size = A at hD hE0 ⊢
  have hA : ∀ q : Nat, s.heap.size ≤ q → A q := fun q h => by rw [← hAe]; exact Or.inr h
  have hS : va_S A s.heap s.heap [] := va_S.rf
  have hE := hE0
  have hP : va_P D vwCl [(h, .inr (20, [.int 0, .ref m1, .int 0, .int 0, .ref m2, .ref m3, .int 0, .int 4, .int (-40), .ref m4, .int 0, .int 20, .int 0, .ref m5, .ref fr, .int 100, .int 60, .int 14, .ref m6, .ref m7, .ref m8])), (m3, .inr (5, [.int 0, .ref e, .int 0]))] s.heap := hP
  have hl := lv_entry ([.ref h, .int p0]) (n := 2) (Nat.le_of_ble_eq_true rfl)
  rw [lg_entry_eq]
  generalize (lg_sl ([.ref h, .int p0]) ++ List.replicate (2 - (lg_sl ([.ref h, .int p0])).length) Slot.unset).toArray = ls at hl ⊢
  have hl : lv_has ls 2 [(0, .ref h), (1, .int p0)] := hl
  refine lv_aload_n hx hb dX14_burr_0 rfl (lv_at hl 0 rfl) ?_
  refine lv_aload_n hx hb dX14_burr_1 rfl (lv_at hl 0 rfl) ?_
  refine va_get (D := D) (ci := 20) (v := .ref m3) (C := RX14) (T := TX14) (N := 21) hx hb hts iw_RX14_wsX14_burr hown hK hP 0 rfl rfl 5 (by decide) (hts (.fieldLink RX14 19 "CoatLineModel" "ribbons" "Ljava/util/List;") (by decide +kernel)) (fun _ h9 => h9) rfl dX14_burr_2 ?_
  refine lv_iload_n hx hb dX14_burr_5 rfl (lv_at hl 1 rfl) ?_
  refine vp_callSi (va_Run.run (va_runS (As := [.ref m3, .int p0]) (rest := [.ref h]) ⟨hx, hb, hml, hown, hts⟩ (c_X14_isOf l hst D e m3 0 e p0 s.heap.size) (va_cwS 2 hts gX14_burr_X14_isOf rfl rfl rfl (by decide +kernel) ⟨Nat.le_of_ble_eq_true rfl, Nat.le_of_ble_eq_true rfl⟩) ⟨cIn_blind, cIn_go hK hP hD hE hS hA [1] rfl rfl (by decide) [] rfl⟩ rfl rfl hl.1 rfl (lv_room (Nat.le_of_ble_eq_true rfl)) dX14_burr_6 ⟨Nat.le_of_ble_eq_true rfl, Nat.le_of_ble_eq_true rfl⟩)) (fun r_1 hw => ?_)
  have hw : r_1 = 0 := hw.trans (by first | rfl | decide +kernel)
  subst hw
  refine lv_if_eq (tgt := 16) hx hb dX14_burr_9 (by decide) (fun c_2 => ?_) (fun c_2 => absurd (show (0 : Int32) = 0 from by decide +kernel) c_2)
  refine lv_iconst (v := 1) hx hb dX14_burr_16 (by decide) ?_
  have hFc := va_free (wc := [(h, .inr (20, [.int 0, .ref m1, .int 0, .int 0, .ref m2, .ref m3, .int 0, .int 4, .int (-40), .ref m4, .int 0, .int 20, .int 0, .ref m5, .ref fr, .int 100, .int 60, .int 14, .ref m6, .ref m7, .ref m8]))]) hD hS hA [0] rfl
  refine va_calli (va_runV (As := [.int 1]) (rest := []) ⟨hx, hb, hml, hown, hts⟩ (c_X14_isWrong l hst D e h 0 ([.ref m1, .int 0, .int 0, .ref m2, .ref m3, .int 0, .int 4, .int (-40), .ref m4, .int 0, .int 20, .int 0, .ref m5, .ref fr, .int 100, .int 60, .int 14, .ref m6, .ref m7, .ref m8]) 1 s.heap.size) (cwV 1 hts gX14_burr_X14_isWrong rfl rfl rfl (by decide +kernel) ⟨Nat.le_of_ble_eq_true rfl, Nat.le_of_ble_eq_true rfl⟩) ⟨cIn_blind, va_recv hK hP (ci := 20) (q0 := 0) rfl rfl, cIn_go hK hP hD hE hS hA [0] rfl rfl (by decide) [] rfl⟩ rfl rfl hl.1 rfl (lv_room (Nat.le_of_ble_eq_true rfl)) dX14_burr_17 ⟨Nat.le_of_ble_eq_true rfl, Nat.le_of_ble_eq_true rfl⟩) hS (fun q _ h => hFc q h) hFc (fun r_3 u t H1 locs ht hvm hw hB hz1 hk1 hS => ?_)
  obtain ⟨hP1, hK1, hD1⟩ := hB
  rw [ht] at hP1
  have hK1 := va_K.moved hvm.symm hK1
  obtain ⟨hP, hD⟩ := va_join (wr := [(m3, .inr (5, [.int 0, .ref e, .int 0]))]) (w1 := [(h, .inr (20, [.int 1, .ref m1, .int 0, .int 0, .ref m2, .ref m3, .int 0, .int 4, .int (-40), .ref m4, .int 0, .int 20, .int 0, .ref m5, .ref fr, .int 100, .int 60, .int 14, .ref m6, .ref m7, .ref m8]))]) hP hD [0] [1] rfl rfl (by decide) (by decide) hk1 hFc hP1 hD1
  generalize H1 = H at hP hS ⊢
  have hP : va_P D vwCl [(m3, .inr (5, [.int 0, .ref e, .int 0])), (h, .inr (20, [.int 1, .ref m1, .int 0, .int 0, .ref m2, .ref m3, .int 0, .int 4, .int (-40), .ref m4, .int 0, .int 20, .int 0, .ref m5, .ref fr, .int 100, .int 60, .int 14, .ref m6, .ref m7, .ref m8]))] H := hP
  have hD : va_D A [(m3, .inr (5, [.int 0, .ref e, .int 0])), (h, .inr (20, [.int 1, .ref m1, .int 0, .int 0, .ref m2, .ref m3, .int 0, .int 4, .int (-40), .ref m4, .int 0, .int 20, .int 0, .ref m5, .ref fr, .int 100, .int 60, .int 14, .ref m6, .ref m7, .ref m8]))] := hD
  have hw : r_3 = 1 := hw.trans (by first | rfl | decide +kernel)
  subst hw
  refine lv_if_eq (tgt := 27) hx hb dX14_burr_20 (by decide) (fun c_5 => absurd c_5 (show ¬ ((1 : Int32) = 0) from by decide +kernel)) (fun c_5 => ?_)
  refine lv_iconst (v := 0) hx hb dX14_burr_23 (by decide) ?_
  refine lv_goto (tgt := 42) hx hb dX14_burr_24 (by decide) ?_
  exact W.iret (v := 0) hx hb hr (fun t ht hW => ⟨⟨0, ((1, [.ref m1, .int 0, .int 0, .ref m2, .ref m3, .int 0, .int 4, .int (-40), .ref m4, .int 0, .int 20, .int 0, .ref m5, .ref fr, .int 100, .int 60, .int 14, .ref m6, .ref m7, .ref m8]) : Int32 × List Value), rfl, ⟨rfl, rfl⟩, ⟨by rw [ht]; exact hP.sub [1] rfl, va_K.moved hW.alike (hK.sub [] rfl), hD.sub [1] (by decide) rfl⟩⟩, hS.F ht⟩) hS.2.2 dX14_burr_42
-- X14_next
def v_X14_next (p0 : Int32) : Int32 := 0
def k_X14_next (p0 : Int32) : Int32 := 1
set_option maxHeartbeats 4000000 in
set_option maxRecDepth 100000 in
theorem c_X14_next (l : Launch) (hst : l.stackTraces = false) (D : va_G) (e : Nat) (h : Nat) (m1 : Nat) (m2 : Nat) (m3 : Nat) (m4 : Nat) (m5 : Nat) (m6 : Nat) (m7 : Nat) (m8 : Nat) (fr : Nat) (p0 : Int32) (sz : Nat) : Met l yX14_next wsX14_next ({ frames := 16, cells := 0, slots := 0, locals := 340 }) (va_Pc [.ref h, .int p0] (cIn D [] [(h, .inr (20, [.int 0, .ref m1, .int 0, .int 0, .ref m2, .ref m3, .int 0, .int 4, .int (-40), .ref m4, .int 0, .int 20, .int 0, .ref m5, .ref fr, .int 100, .int 60, .int 14, .ref m6, .ref m7, .ref m8])), (m3, .inr (5, [.int 0, .ref e, .int 0]))] e sz)) (va_Qi (fun (r : Int32) (u : Int32 × List Value) => u.1 = k_X14_next p0 ∧ r = v_X14_next p0) (fun (u : Int32 × List Value) (t : State) => va_P D vwCl [(h, .inr (20, .int u.1 :: u.2))] t.heap ∧ va_K D vwCl [] t ∧ va_D (va_A [(h, .inr (20, [.int 0, .ref m1, .int 0, .int 0, .ref m2, .ref m3, .int 0, .int 4, .int (-40), .ref m4, .int 0, .int 20, .int 0, .ref m5, .ref fr, .int 100, .int 60, .int 14, .ref m6, .ref m7, .ref m8])), (m3, .inr (5, [.int 0, .ref e, .int 0]))] sz) [(h, .inr (20, .int u.1 :: u.2))]) (va_A [(h, .inr (20, [.int 0, .ref m1, .int 0, .int 0, .ref m2, .ref m3, .int 0, .int 4, .int (-40), .ref m4, .int 0, .int 20, .int 0, .ref m5, .ref fr, .int 100, .int 60, .int 14, .ref m6, .ref m7, .ref m8])), (m3, .inr (5, [.int 0, .ref e, .int 0]))] sz)) 0 0 (va_A [(h, .inr (20, [.int 0, .ref m1, .int 0, .int 0, .ref m2, .ref m3, .int 0, .int 4, .int (-40), .ref m4, .int 0, .int 20, .int 0, .ref m5, .ref fr, .int 100, .int 60, .int 14, .ref m6, .ref m7, .ref m8])), (m3, .inr (5, [.int 0, .ref e, .int 0]))] sz) := by
  refine Met.ofW (cc := cX14_next) (maxL := 2) (ret := (some .int)) (by decide +kernel) rfl ?_
  intro p e9 s m args below meth c s₁ B hml hv
  obtain ⟨rfl, hsz, hP, hK, hD0, hE0⟩ := hv
  have hx := B.exec
  have hb := B.bytes
  have hr := B.returns
  have hts := atoms_spec (ws := wsX14_next) B.pre
  have hown : s.vm.findClass RX14 = some m.cls := findClass_of_methodNamed B.named
  have hlocks := B.notSynchronized
  subst hsz
  have hD := hD0.self (sz := s.heap.size)
  generalize hAe : va_A [(h, .inr (20, [.int 0, .ref m1, .int 0, .int 0, .ref m2, .ref m3, .int 0, .int 4, .int (-40), .ref m4, .int 0, .int 20, .int 0, .ref m5, .ref fr, .int 100, .int 60, .int 14, .ref m6, .ref m7, .ref m8])), (m3, .inr (5, [.int 0, .ref e, .int 0]))] s.heap.size = A at hD hE0 ⊢
  have hA : ∀ q : Nat, s.heap.size ≤ q → A q := fun q h => by rw [← hAe]; exact Or.inr h
  have hS : va_S A s.heap s.heap [] := va_S.rf
  have hE := hE0
  have hP : va_P D vwCl [(h, .inr (20, [.int 0, .ref m1, .int 0, .int 0, .ref m2, .ref m3, .int 0, .int 4, .int (-40), .ref m4, .int 0, .int 20, .int 0, .ref m5, .ref fr, .int 100, .int 60, .int 14, .ref m6, .ref m7, .ref m8])), (m3, .inr (5, [.int 0, .ref e, .int 0]))] s.heap := hP
  have hl := lv_entry ([.ref h, .int p0]) (n := 2) (Nat.le_of_ble_eq_true rfl)
  rw [lg_entry_eq]
  generalize (lg_sl ([.ref h, .int p0]) ++ List.replicate (2 - (lg_sl ([.ref h, .int p0])).length) Slot.unset).toArray = ls at hl ⊢
  have hl : lv_has ls 2 [(0, .ref h), (1, .int p0)] := hl
  refine lv_aload_n hx hb dX14_next_0 rfl (lv_at hl 0 rfl) ?_
  refine lv_aload_n hx hb dX14_next_1 rfl (lv_at hl 0 rfl) ?_
  refine va_get (D := D) (ci := 20) (v := .ref m3) (C := RX14) (T := TX14) (N := 21) hx hb hts iw_RX14_wsX14_next hown hK hP 0 rfl rfl 5 (by decide) (hts (.fieldLink RX14 19 "CoatLineModel" "ribbons" "Ljava/util/List;") (by decide +kernel)) (fun _ h9 => h9) rfl dX14_next_2 ?_
  refine lv_iload_n hx hb dX14_next_5 rfl (lv_at hl 1 rfl) ?_
  refine vp_callSi (va_Run.run (va_runS (As := [.ref m3, .int p0]) (rest := [.ref h]) ⟨hx, hb, hml, hown, hts⟩ (c_X14_isOf l hst D e m3 0 e p0 s.heap.size) (va_cwS 2 hts gX14_next_X14_isOf rfl rfl rfl (by decide +kernel) ⟨Nat.le_of_ble_eq_true rfl, Nat.le_of_ble_eq_true rfl⟩) ⟨cIn_blind, cIn_go hK hP hD hE hS hA [1] rfl rfl (by decide) [] rfl⟩ rfl rfl hl.1 rfl (lv_room (Nat.le_of_ble_eq_true rfl)) dX14_next_6 ⟨Nat.le_of_ble_eq_true rfl, Nat.le_of_ble_eq_true rfl⟩)) (fun r_1 hw => ?_)
  have hw : r_1 = 0 := hw.trans (by first | rfl | decide +kernel)
  subst hw
  refine lv_if_eq (tgt := 16) hx hb dX14_next_9 (by decide) (fun c_2 => ?_) (fun c_2 => absurd (show (0 : Int32) = 0 from by decide +kernel) c_2)
  refine lv_iconst (v := 1) hx hb dX14_next_16 (by decide) ?_
  have hFc := va_free (wc := [(h, .inr (20, [.int 0, .ref m1, .int 0, .int 0, .ref m2, .ref m3, .int 0, .int 4, .int (-40), .ref m4, .int 0, .int 20, .int 0, .ref m5, .ref fr, .int 100, .int 60, .int 14, .ref m6, .ref m7, .ref m8]))]) hD hS hA [0] rfl
  refine va_calli (va_runV (As := [.int 1]) (rest := []) ⟨hx, hb, hml, hown, hts⟩ (c_X14_isWrong l hst D e h 0 ([.ref m1, .int 0, .int 0, .ref m2, .ref m3, .int 0, .int 4, .int (-40), .ref m4, .int 0, .int 20, .int 0, .ref m5, .ref fr, .int 100, .int 60, .int 14, .ref m6, .ref m7, .ref m8]) 1 s.heap.size) (cwV 1 hts gX14_next_X14_isWrong rfl rfl rfl (by decide +kernel) ⟨Nat.le_of_ble_eq_true rfl, Nat.le_of_ble_eq_true rfl⟩) ⟨cIn_blind, va_recv hK hP (ci := 20) (q0 := 0) rfl rfl, cIn_go hK hP hD hE hS hA [0] rfl rfl (by decide) [] rfl⟩ rfl rfl hl.1 rfl (lv_room (Nat.le_of_ble_eq_true rfl)) dX14_next_17 ⟨Nat.le_of_ble_eq_true rfl, Nat.le_of_ble_eq_true rfl⟩) hS (fun q _ h => hFc q h) hFc (fun r_3 u t H1 locs ht hvm hw hB hz1 hk1 hS => ?_)
  obtain ⟨hP1, hK1, hD1⟩ := hB
  rw [ht] at hP1
  have hK1 := va_K.moved hvm.symm hK1
  obtain ⟨hP, hD⟩ := va_join (wr := [(m3, .inr (5, [.int 0, .ref e, .int 0]))]) (w1 := [(h, .inr (20, [.int 1, .ref m1, .int 0, .int 0, .ref m2, .ref m3, .int 0, .int 4, .int (-40), .ref m4, .int 0, .int 20, .int 0, .ref m5, .ref fr, .int 100, .int 60, .int 14, .ref m6, .ref m7, .ref m8]))]) hP hD [0] [1] rfl rfl (by decide) (by decide) hk1 hFc hP1 hD1
  generalize H1 = H at hP hS ⊢
  have hP : va_P D vwCl [(m3, .inr (5, [.int 0, .ref e, .int 0])), (h, .inr (20, [.int 1, .ref m1, .int 0, .int 0, .ref m2, .ref m3, .int 0, .int 4, .int (-40), .ref m4, .int 0, .int 20, .int 0, .ref m5, .ref fr, .int 100, .int 60, .int 14, .ref m6, .ref m7, .ref m8]))] H := hP
  have hD : va_D A [(m3, .inr (5, [.int 0, .ref e, .int 0])), (h, .inr (20, [.int 1, .ref m1, .int 0, .int 0, .ref m2, .ref m3, .int 0, .int 4, .int (-40), .ref m4, .int 0, .int 20, .int 0, .ref m5, .ref fr, .int 100, .int 60, .int 14, .ref m6, .ref m7, .ref m8]))] := hD
  have hw : r_3 = 1 := hw.trans (by first | rfl | decide +kernel)
  subst hw
  refine lv_if_eq (tgt := 27) hx hb dX14_next_20 (by decide) (fun c_5 => absurd c_5 (show ¬ ((1 : Int32) = 0) from by decide +kernel)) (fun c_5 => ?_)
  refine lv_iconst (v := 0) hx hb dX14_next_23 (by decide) ?_
  refine lv_goto (tgt := 42) hx hb dX14_next_24 (by decide) ?_
  exact W.iret (v := 0) hx hb hr (fun t ht hW => ⟨⟨0, ((1, [.ref m1, .int 0, .int 0, .ref m2, .ref m3, .int 0, .int 4, .int (-40), .ref m4, .int 0, .int 20, .int 0, .ref m5, .ref fr, .int 100, .int 60, .int 14, .ref m6, .ref m7, .ref m8]) : Int32 × List Value), rfl, ⟨rfl, rfl⟩, ⟨by rw [ht]; exact hP.sub [1] rfl, va_K.moved hW.alike (hK.sub [] rfl), hD.sub [1] (by decide) rfl⟩⟩, hS.F ht⟩) hS.2.2 dX14_next_42
-- X14_wind
def v_X14_wind (p0 : Int32) (p1 : Int32) (p2 : Int32) : Int32 := 0
def k_X14_wind (p0 : Int32) (p1 : Int32) (p2 : Int32) : Int32 := 1
set_option maxHeartbeats 4000000 in
set_option maxRecDepth 100000 in
theorem c_X14_wind (l : Launch) (hst : l.stackTraces = false) (D : va_G) (e : Nat) (h : Nat) (m1 : Nat) (m2 : Nat) (m3 : Nat) (m4 : Nat) (m5 : Nat) (m6 : Nat) (m7 : Nat) (m8 : Nat) (fr : Nat) (p0 : Int32) (p1 : Int32) (p2 : Int32) (sz : Nat) : Met l yX14_wind wsX14_wind ({ frames := 16, cells := 0, slots := 0, locals := 340 }) (va_Pc [.ref h, .int p0, .int p1, .int p2] (cIn D [] [(h, .inr (20, [.int 0, .ref m1, .int 0, .int 0, .ref m2, .ref m3, .int 0, .int 4, .int (-40), .ref m4, .int 0, .int 20, .int 0, .ref m5, .ref fr, .int 100, .int 60, .int 14, .ref m6, .ref m7, .ref m8])), (m3, .inr (5, [.int 0, .ref e, .int 0]))] e sz)) (va_Qi (fun (r : Int32) (u : Int32 × List Value) => u.1 = k_X14_wind p0 p1 p2 ∧ r = v_X14_wind p0 p1 p2) (fun (u : Int32 × List Value) (t : State) => va_P D vwCl [(h, .inr (20, .int u.1 :: u.2))] t.heap ∧ va_K D vwCl [] t ∧ va_D (va_A [(h, .inr (20, [.int 0, .ref m1, .int 0, .int 0, .ref m2, .ref m3, .int 0, .int 4, .int (-40), .ref m4, .int 0, .int 20, .int 0, .ref m5, .ref fr, .int 100, .int 60, .int 14, .ref m6, .ref m7, .ref m8])), (m3, .inr (5, [.int 0, .ref e, .int 0]))] sz) [(h, .inr (20, .int u.1 :: u.2))]) (va_A [(h, .inr (20, [.int 0, .ref m1, .int 0, .int 0, .ref m2, .ref m3, .int 0, .int 4, .int (-40), .ref m4, .int 0, .int 20, .int 0, .ref m5, .ref fr, .int 100, .int 60, .int 14, .ref m6, .ref m7, .ref m8])), (m3, .inr (5, [.int 0, .ref e, .int 0]))] sz)) 0 0 (va_A [(h, .inr (20, [.int 0, .ref m1, .int 0, .int 0, .ref m2, .ref m3, .int 0, .int 4, .int (-40), .ref m4, .int 0, .int 20, .int 0, .ref m5, .ref fr, .int 100, .int 60, .int 14, .ref m6, .ref m7, .ref m8])), (m3, .inr (5, [.int 0, .ref e, .int 0]))] sz) := by
  refine Met.ofW (cc := cX14_wind) (maxL := 7) (ret := (some .int)) (by decide +kernel) rfl ?_
  intro p e9 s m args below meth c s₁ B hml hv
  obtain ⟨rfl, hsz, hP, hK, hD0, hE0⟩ := hv
  have hx := B.exec
  have hb := B.bytes
  have hr := B.returns
  have hts := atoms_spec (ws := wsX14_wind) B.pre
  have hown : s.vm.findClass RX14 = some m.cls := findClass_of_methodNamed B.named
  have hlocks := B.notSynchronized
  subst hsz
  have hD := hD0.self (sz := s.heap.size)
  generalize hAe : va_A [(h, .inr (20, [.int 0, .ref m1, .int 0, .int 0, .ref m2, .ref m3, .int 0, .int 4, .int (-40), .ref m4, .int 0, .int 20, .int 0, .ref m5, .ref fr, .int 100, .int 60, .int 14, .ref m6, .ref m7, .ref m8])), (m3, .inr (5, [.int 0, .ref e, .int 0]))] s.heap.size = A at hD hE0 ⊢
  have hA : ∀ q : Nat, s.heap.size ≤ q → A q := fun q h => by rw [← hAe]; exact Or.inr h
  have hS : va_S A s.heap s.heap [] := va_S.rf
  have hE := hE0
  have hP : va_P D vwCl [(h, .inr (20, [.int 0, .ref m1, .int 0, .int 0, .ref m2, .ref m3, .int 0, .int 4, .int (-40), .ref m4, .int 0, .int 20, .int 0, .ref m5, .ref fr, .int 100, .int 60, .int 14, .ref m6, .ref m7, .ref m8])), (m3, .inr (5, [.int 0, .ref e, .int 0]))] s.heap := hP
  have hl := lv_entry ([.ref h, .int p0, .int p1, .int p2]) (n := 7) (Nat.le_of_ble_eq_true rfl)
  rw [lg_entry_eq]
  generalize (lg_sl ([.ref h, .int p0, .int p1, .int p2]) ++ List.replicate (7 - (lg_sl ([.ref h, .int p0, .int p1, .int p2])).length) Slot.unset).toArray = ls at hl ⊢
  have hl : lv_has ls 7 [(0, .ref h), (1, .int p0), (2, .int p1), (3, .int p2)] := hl
  refine lv_aload_n hx hb dX14_wind_0 rfl (lv_at hl 0 rfl) ?_
  refine lv_aload_n hx hb dX14_wind_1 rfl (lv_at hl 0 rfl) ?_
  refine va_get (D := D) (ci := 20) (v := .ref m3) (C := RX14) (T := TX14) (N := 21) hx hb hts iw_RX14_wsX14_wind hown hK hP 0 rfl rfl 5 (by decide) (hts (.fieldLink RX14 19 "CoatLineModel" "ribbons" "Ljava/util/List;") (by decide +kernel)) (fun _ h9 => h9) rfl dX14_wind_2 ?_
  refine lv_iload_n hx hb dX14_wind_5 rfl (lv_at hl 1 rfl) ?_
  refine vp_callSi (va_Run.run (va_runS (As := [.ref m3, .int p0]) (rest := [.ref h]) ⟨hx, hb, hml, hown, hts⟩ (c_X14_isOf l hst D e m3 0 e p0 s.heap.size) (va_cwS 2 hts gX14_wind_X14_isOf rfl rfl rfl (by decide +kernel) ⟨Nat.le_of_ble_eq_true rfl, Nat.le_of_ble_eq_true rfl⟩) ⟨cIn_blind, cIn_go hK hP hD hE hS hA [1] rfl rfl (by decide) [] rfl⟩ rfl rfl hl.1 rfl (lv_room (Nat.le_of_ble_eq_true rfl)) dX14_wind_6 ⟨Nat.le_of_ble_eq_true rfl, Nat.le_of_ble_eq_true rfl⟩)) (fun r_1 hw => ?_)
  have hw : r_1 = 0 := hw.trans (by first | rfl | decide +kernel)
  subst hw
  refine lv_if_eq (tgt := 23) hx hb dX14_wind_9 (by decide) (fun c_2 => ?_) (fun c_2 => absurd (show (0 : Int32) = 0 from by decide +kernel) c_2)
  refine lv_iconst (v := 1) hx hb dX14_wind_23 (by decide) ?_
  refine lv_goto (tgt := 62) hx hb dX14_wind_24 (by decide) ?_
  have hFc := va_free (wc := [(h, .inr (20, [.int 0, .ref m1, .int 0, .int 0, .ref m2, .ref m3, .int 0, .int 4, .int (-40), .ref m4, .int 0, .int 20, .int 0, .ref m5, .ref fr, .int 100, .int 60, .int 14, .ref m6, .ref m7, .ref m8]))]) hD hS hA [0] rfl
  refine va_calli (va_runV (As := [.int 1]) (rest := []) ⟨hx, hb, hml, hown, hts⟩ (c_X14_isWrong l hst D e h 0 ([.ref m1, .int 0, .int 0, .ref m2, .ref m3, .int 0, .int 4, .int (-40), .ref m4, .int 0, .int 20, .int 0, .ref m5, .ref fr, .int 100, .int 60, .int 14, .ref m6, .ref m7, .ref m8]) 1 s.heap.size) (cwV 1 hts gX14_wind_X14_isWrong rfl rfl rfl (by decide +kernel) ⟨Nat.le_of_ble_eq_true rfl, Nat.le_of_ble_eq_true rfl⟩) ⟨cIn_blind, va_recv hK hP (ci := 20) (q0 := 0) rfl rfl, cIn_go hK hP hD hE hS hA [0] rfl rfl (by decide) [] rfl⟩ rfl rfl hl.1 rfl (lv_room (Nat.le_of_ble_eq_true rfl)) dX14_wind_62 ⟨Nat.le_of_ble_eq_true rfl, Nat.le_of_ble_eq_true rfl⟩) hS (fun q _ h => hFc q h) hFc (fun r_3 u t H1 locs ht hvm hw hB hz1 hk1 hS => ?_)
  obtain ⟨hP1, hK1, hD1⟩ := hB
  rw [ht] at hP1
  have hK1 := va_K.moved hvm.symm hK1
  obtain ⟨hP, hD⟩ := va_join (wr := [(m3, .inr (5, [.int 0, .ref e, .int 0]))]) (w1 := [(h, .inr (20, [.int 1, .ref m1, .int 0, .int 0, .ref m2, .ref m3, .int 0, .int 4, .int (-40), .ref m4, .int 0, .int 20, .int 0, .ref m5, .ref fr, .int 100, .int 60, .int 14, .ref m6, .ref m7, .ref m8]))]) hP hD [0] [1] rfl rfl (by decide) (by decide) hk1 hFc hP1 hD1
  generalize H1 = H at hP hS ⊢
  have hP : va_P D vwCl [(m3, .inr (5, [.int 0, .ref e, .int 0])), (h, .inr (20, [.int 1, .ref m1, .int 0, .int 0, .ref m2, .ref m3, .int 0, .int 4, .int (-40), .ref m4, .int 0, .int 20, .int 0, .ref m5, .ref fr, .int 100, .int 60, .int 14, .ref m6, .ref m7, .ref m8]))] H := hP
  have hD : va_D A [(m3, .inr (5, [.int 0, .ref e, .int 0])), (h, .inr (20, [.int 1, .ref m1, .int 0, .int 0, .ref m2, .ref m3, .int 0, .int 4, .int (-40), .ref m4, .int 0, .int 20, .int 0, .ref m5, .ref fr, .int 100, .int 60, .int 14, .ref m6, .ref m7, .ref m8]))] := hD
  have hw : r_3 = 1 := hw.trans (by first | rfl | decide +kernel)
  subst hw
  refine lv_if_eq (tgt := 70) hx hb dX14_wind_65 (by decide) (fun c_5 => absurd c_5 (show ¬ ((1 : Int32) = 0) from by decide +kernel)) (fun c_5 => ?_)
  refine lv_iconst (v := 0) hx hb dX14_wind_68 (by decide) ?_
  exact W.iret (v := 0) hx hb hr (fun t ht hW => ⟨⟨0, ((1, [.ref m1, .int 0, .int 0, .ref m2, .ref m3, .int 0, .int 4, .int (-40), .ref m4, .int 0, .int 20, .int 0, .ref m5, .ref fr, .int 100, .int 60, .int 14, .ref m6, .ref m7, .ref m8]) : Int32 × List Value), rfl, ⟨rfl, rfl⟩, ⟨by rw [ht]; exact hP.sub [1] rfl, va_K.moved hW.alike (hK.sub [] rfl), hD.sub [1] (by decide) rfl⟩⟩, hS.F ht⟩) hS.2.2 dX14_wind_69
-- X14_cellAt
def v_X14_cellAt (p0 : Int32) (p1 : Int32) : Int32 := 0
def k_X14_cellAt (p0 : Int32) (p1 : Int32) : Int32 := 1
set_option maxHeartbeats 4000000 in
set_option maxRecDepth 100000 in
theorem c_X14_cellAt (l : Launch) (hst : l.stackTraces = false) (D : va_G) (e : Nat) (h : Nat) (m1 : Nat) (m2 : Nat) (m3 : Nat) (m4 : Nat) (m5 : Nat) (m6 : Nat) (m7 : Nat) (m8 : Nat) (fr : Nat) (p0 : Int32) (p1 : Int32) (sz : Nat) : Met l yX14_cellAt wsX14_cellAt ({ frames := 16, cells := 0, slots := 0, locals := 340 }) (va_Pc [.ref h, .int p0, .int p1] (cIn D [] [(h, .inr (20, [.int 0, .ref m1, .int 0, .int 0, .ref m2, .ref m3, .int 0, .int 4, .int (-40), .ref m4, .int 0, .int 20, .int 0, .ref m5, .ref fr, .int 100, .int 60, .int 14, .ref m6, .ref m7, .ref m8])), (m4, .inr (5, [.int 0, .ref e, .int 0]))] e sz)) (va_Qi (fun (r : Int32) (u : Int32 × List Value) => u.1 = k_X14_cellAt p0 p1 ∧ r = v_X14_cellAt p0 p1) (fun (u : Int32 × List Value) (t : State) => va_P D vwCl [(h, .inr (20, .int u.1 :: u.2))] t.heap ∧ va_K D vwCl [] t ∧ va_D (va_A [(h, .inr (20, [.int 0, .ref m1, .int 0, .int 0, .ref m2, .ref m3, .int 0, .int 4, .int (-40), .ref m4, .int 0, .int 20, .int 0, .ref m5, .ref fr, .int 100, .int 60, .int 14, .ref m6, .ref m7, .ref m8])), (m4, .inr (5, [.int 0, .ref e, .int 0]))] sz) [(h, .inr (20, .int u.1 :: u.2))]) (va_A [(h, .inr (20, [.int 0, .ref m1, .int 0, .int 0, .ref m2, .ref m3, .int 0, .int 4, .int (-40), .ref m4, .int 0, .int 20, .int 0, .ref m5, .ref fr, .int 100, .int 60, .int 14, .ref m6, .ref m7, .ref m8])), (m4, .inr (5, [.int 0, .ref e, .int 0]))] sz)) 0 0 (va_A [(h, .inr (20, [.int 0, .ref m1, .int 0, .int 0, .ref m2, .ref m3, .int 0, .int 4, .int (-40), .ref m4, .int 0, .int 20, .int 0, .ref m5, .ref fr, .int 100, .int 60, .int 14, .ref m6, .ref m7, .ref m8])), (m4, .inr (5, [.int 0, .ref e, .int 0]))] sz) := by
  refine Met.ofW (cc := cX14_cellAt) (maxL := 4) (ret := (some .int)) (by decide +kernel) rfl ?_
  intro p e9 s m args below meth c s₁ B hml hv
  obtain ⟨rfl, hsz, hP, hK, hD0, hE0⟩ := hv
  have hx := B.exec
  have hb := B.bytes
  have hr := B.returns
  have hts := atoms_spec (ws := wsX14_cellAt) B.pre
  have hown : s.vm.findClass RX14 = some m.cls := findClass_of_methodNamed B.named
  have hlocks := B.notSynchronized
  subst hsz
  have hD := hD0.self (sz := s.heap.size)
  generalize hAe : va_A [(h, .inr (20, [.int 0, .ref m1, .int 0, .int 0, .ref m2, .ref m3, .int 0, .int 4, .int (-40), .ref m4, .int 0, .int 20, .int 0, .ref m5, .ref fr, .int 100, .int 60, .int 14, .ref m6, .ref m7, .ref m8])), (m4, .inr (5, [.int 0, .ref e, .int 0]))] s.heap.size = A at hD hE0 ⊢
  have hA : ∀ q : Nat, s.heap.size ≤ q → A q := fun q h => by rw [← hAe]; exact Or.inr h
  have hS : va_S A s.heap s.heap [] := va_S.rf
  have hE := hE0
  have hP : va_P D vwCl [(h, .inr (20, [.int 0, .ref m1, .int 0, .int 0, .ref m2, .ref m3, .int 0, .int 4, .int (-40), .ref m4, .int 0, .int 20, .int 0, .ref m5, .ref fr, .int 100, .int 60, .int 14, .ref m6, .ref m7, .ref m8])), (m4, .inr (5, [.int 0, .ref e, .int 0]))] s.heap := hP
  have hl := lv_entry ([.ref h, .int p0, .int p1]) (n := 4) (Nat.le_of_ble_eq_true rfl)
  rw [lg_entry_eq]
  generalize (lg_sl ([.ref h, .int p0, .int p1]) ++ List.replicate (4 - (lg_sl ([.ref h, .int p0, .int p1])).length) Slot.unset).toArray = ls at hl ⊢
  have hl : lv_has ls 4 [(0, .ref h), (1, .int p0), (2, .int p1)] := hl
  refine lv_aload_n hx hb dX14_cellAt_0 rfl (lv_at hl 0 rfl) ?_
  refine lv_aload_n hx hb dX14_cellAt_1 rfl (lv_at hl 0 rfl) ?_
  refine va_get (D := D) (ci := 20) (v := .ref m4) (C := RX14) (T := TX14) (N := 21) hx hb hts iw_RX14_wsX14_cellAt hown hK hP 0 rfl rfl 9 (by decide) (hts (.fieldLink RX14 29 "CoatLineModel" "cells" "Ljava/util/List;") (by decide +kernel)) (fun _ h9 => h9) rfl dX14_cellAt_2 ?_
  refine lv_iload_n hx hb dX14_cellAt_5 rfl (lv_at hl 1 rfl) ?_
  refine vp_callSi (va_Run.run (va_runS (As := [.ref m4, .int p0]) (rest := [.ref h]) ⟨hx, hb, hml, hown, hts⟩ (c_X14_isOf l hst D e m4 0 e p0 s.heap.size) (va_cwS 2 hts gX14_cellAt_X14_isOf rfl rfl rfl (by decide +kernel) ⟨Nat.le_of_ble_eq_true rfl, Nat.le_of_ble_eq_true rfl⟩) ⟨cIn_blind, cIn_go hK hP hD hE hS hA [1] rfl rfl (by decide) [] rfl⟩ rfl rfl hl.1 rfl (lv_room (Nat.le_of_ble_eq_true rfl)) dX14_cellAt_6 ⟨Nat.le_of_ble_eq_true rfl, Nat.le_of_ble_eq_true rfl⟩)) (fun r_1 hw => ?_)
  have hw : r_1 = 0 := hw.trans (by first | rfl | decide +kernel)
  subst hw
  refine lv_if_ne (tgt := 16) hx hb dX14_cellAt_9 (by decide) (fun c_2 => absurd (show (0 : Int32) = 0 from by decide +kernel) c_2) (fun c_2 => ?_)
  refine lv_iconst (v := 1) hx hb dX14_cellAt_12 (by decide) ?_
  refine lv_goto (tgt := 30) hx hb dX14_cellAt_13 (by decide) ?_
  have hFc := va_free (wc := [(h, .inr (20, [.int 0, .ref m1, .int 0, .int 0, .ref m2, .ref m3, .int 0, .int 4, .int (-40), .ref m4, .int 0, .int 20, .int 0, .ref m5, .ref fr, .int 100, .int 60, .int 14, .ref m6, .ref m7, .ref m8]))]) hD hS hA [0] rfl
  refine va_calli (va_runV (As := [.int 1]) (rest := []) ⟨hx, hb, hml, hown, hts⟩ (c_X14_isWrong l hst D e h 0 ([.ref m1, .int 0, .int 0, .ref m2, .ref m3, .int 0, .int 4, .int (-40), .ref m4, .int 0, .int 20, .int 0, .ref m5, .ref fr, .int 100, .int 60, .int 14, .ref m6, .ref m7, .ref m8]) 1 s.heap.size) (cwV 1 hts gX14_cellAt_X14_isWrong rfl rfl rfl (by decide +kernel) ⟨Nat.le_of_ble_eq_true rfl, Nat.le_of_ble_eq_true rfl⟩) ⟨cIn_blind, va_recv hK hP (ci := 20) (q0 := 0) rfl rfl, cIn_go hK hP hD hE hS hA [0] rfl rfl (by decide) [] rfl⟩ rfl rfl hl.1 rfl (lv_room (Nat.le_of_ble_eq_true rfl)) dX14_cellAt_30 ⟨Nat.le_of_ble_eq_true rfl, Nat.le_of_ble_eq_true rfl⟩) hS (fun q _ h => hFc q h) hFc (fun r_3 u t H1 locs ht hvm hw hB hz1 hk1 hS => ?_)
  obtain ⟨hP1, hK1, hD1⟩ := hB
  rw [ht] at hP1
  have hK1 := va_K.moved hvm.symm hK1
  obtain ⟨hP, hD⟩ := va_join (wr := [(m4, .inr (5, [.int 0, .ref e, .int 0]))]) (w1 := [(h, .inr (20, [.int 1, .ref m1, .int 0, .int 0, .ref m2, .ref m3, .int 0, .int 4, .int (-40), .ref m4, .int 0, .int 20, .int 0, .ref m5, .ref fr, .int 100, .int 60, .int 14, .ref m6, .ref m7, .ref m8]))]) hP hD [0] [1] rfl rfl (by decide) (by decide) hk1 hFc hP1 hD1
  generalize H1 = H at hP hS ⊢
  have hP : va_P D vwCl [(m4, .inr (5, [.int 0, .ref e, .int 0])), (h, .inr (20, [.int 1, .ref m1, .int 0, .int 0, .ref m2, .ref m3, .int 0, .int 4, .int (-40), .ref m4, .int 0, .int 20, .int 0, .ref m5, .ref fr, .int 100, .int 60, .int 14, .ref m6, .ref m7, .ref m8]))] H := hP
  have hD : va_D A [(m4, .inr (5, [.int 0, .ref e, .int 0])), (h, .inr (20, [.int 1, .ref m1, .int 0, .int 0, .ref m2, .ref m3, .int 0, .int 4, .int (-40), .ref m4, .int 0, .int 20, .int 0, .ref m5, .ref fr, .int 100, .int 60, .int 14, .ref m6, .ref m7, .ref m8]))] := hD
  have hw : r_3 = 1 := hw.trans (by first | rfl | decide +kernel)
  subst hw
  refine lv_if_eq (tgt := 38) hx hb dX14_cellAt_33 (by decide) (fun c_5 => absurd c_5 (show ¬ ((1 : Int32) = 0) from by decide +kernel)) (fun c_5 => ?_)
  refine lv_iconst (v := 0) hx hb dX14_cellAt_36 (by decide) ?_
  exact W.iret (v := 0) hx hb hr (fun t ht hW => ⟨⟨0, ((1, [.ref m1, .int 0, .int 0, .ref m2, .ref m3, .int 0, .int 4, .int (-40), .ref m4, .int 0, .int 20, .int 0, .ref m5, .ref fr, .int 100, .int 60, .int 14, .ref m6, .ref m7, .ref m8]) : Int32 × List Value), rfl, ⟨rfl, rfl⟩, ⟨by rw [ht]; exact hP.sub [1] rfl, va_K.moved hW.alike (hK.sub [] rfl), hD.sub [1] (by decide) rfl⟩⟩, hS.F ht⟩) hS.2.2 dX14_cellAt_37
-- X14_isShort
def v_X14_isShort (p0 : Int32) : Int32 := 0
def k_X14_isShort (p0 : Int32) : Int32 := 1
set_option maxHeartbeats 4000000 in
set_option maxRecDepth 100000 in
theorem c_X14_isShort (l : Launch) (hst : l.stackTraces = false) (D : va_G) (e : Nat) (h : Nat) (m1 : Nat) (m2 : Nat) (m3 : Nat) (m4 : Nat) (m5 : Nat) (m6 : Nat) (m7 : Nat) (m8 : Nat) (fr : Nat) (p0 : Int32) (sz : Nat) : Met l yX14_isShort wsX14_isShort ({ frames := 16, cells := 0, slots := 0, locals := 340 }) (va_Pc [.ref h, .int p0] (cIn D [] [(h, .inr (20, [.int 0, .ref m1, .int 0, .int 0, .ref m2, .ref m3, .int 0, .int 4, .int (-40), .ref m4, .int 0, .int 20, .int 0, .ref m5, .ref fr, .int 100, .int 60, .int 14, .ref m6, .ref m7, .ref m8])), (m4, .inr (5, [.int 0, .ref e, .int 0]))] e sz)) (va_Qi (fun (r : Int32) (u : Int32 × List Value) => u.1 = k_X14_isShort p0 ∧ r = v_X14_isShort p0) (fun (u : Int32 × List Value) (t : State) => va_P D vwCl [(h, .inr (20, .int u.1 :: u.2))] t.heap ∧ va_K D vwCl [] t ∧ va_D (va_A [(h, .inr (20, [.int 0, .ref m1, .int 0, .int 0, .ref m2, .ref m3, .int 0, .int 4, .int (-40), .ref m4, .int 0, .int 20, .int 0, .ref m5, .ref fr, .int 100, .int 60, .int 14, .ref m6, .ref m7, .ref m8])), (m4, .inr (5, [.int 0, .ref e, .int 0]))] sz) [(h, .inr (20, .int u.1 :: u.2))]) (va_A [(h, .inr (20, [.int 0, .ref m1, .int 0, .int 0, .ref m2, .ref m3, .int 0, .int 4, .int (-40), .ref m4, .int 0, .int 20, .int 0, .ref m5, .ref fr, .int 100, .int 60, .int 14, .ref m6, .ref m7, .ref m8])), (m4, .inr (5, [.int 0, .ref e, .int 0]))] sz)) 0 0 (va_A [(h, .inr (20, [.int 0, .ref m1, .int 0, .int 0, .ref m2, .ref m3, .int 0, .int 4, .int (-40), .ref m4, .int 0, .int 20, .int 0, .ref m5, .ref fr, .int 100, .int 60, .int 14, .ref m6, .ref m7, .ref m8])), (m4, .inr (5, [.int 0, .ref e, .int 0]))] sz) := by
  refine Met.ofW (cc := cX14_isShort) (maxL := 2) (ret := (some .boolean)) (by decide +kernel) rfl ?_
  intro p e9 s m args below meth c s₁ B hml hv
  obtain ⟨rfl, hsz, hP, hK, hD0, hE0⟩ := hv
  have hx := B.exec
  have hb := B.bytes
  have hr := B.returns
  have hts := atoms_spec (ws := wsX14_isShort) B.pre
  have hown : s.vm.findClass RX14 = some m.cls := findClass_of_methodNamed B.named
  have hlocks := B.notSynchronized
  subst hsz
  have hD := hD0.self (sz := s.heap.size)
  generalize hAe : va_A [(h, .inr (20, [.int 0, .ref m1, .int 0, .int 0, .ref m2, .ref m3, .int 0, .int 4, .int (-40), .ref m4, .int 0, .int 20, .int 0, .ref m5, .ref fr, .int 100, .int 60, .int 14, .ref m6, .ref m7, .ref m8])), (m4, .inr (5, [.int 0, .ref e, .int 0]))] s.heap.size = A at hD hE0 ⊢
  have hA : ∀ q : Nat, s.heap.size ≤ q → A q := fun q h => by rw [← hAe]; exact Or.inr h
  have hS : va_S A s.heap s.heap [] := va_S.rf
  have hE := hE0
  have hP : va_P D vwCl [(h, .inr (20, [.int 0, .ref m1, .int 0, .int 0, .ref m2, .ref m3, .int 0, .int 4, .int (-40), .ref m4, .int 0, .int 20, .int 0, .ref m5, .ref fr, .int 100, .int 60, .int 14, .ref m6, .ref m7, .ref m8])), (m4, .inr (5, [.int 0, .ref e, .int 0]))] s.heap := hP
  have hl := lv_entry ([.ref h, .int p0]) (n := 2) (Nat.le_of_ble_eq_true rfl)
  rw [lg_entry_eq]
  generalize (lg_sl ([.ref h, .int p0]) ++ List.replicate (2 - (lg_sl ([.ref h, .int p0])).length) Slot.unset).toArray = ls at hl ⊢
  have hl : lv_has ls 2 [(0, .ref h), (1, .int p0)] := hl
  refine lv_aload_n hx hb dX14_isShort_0 rfl (lv_at hl 0 rfl) ?_
  refine lv_aload_n hx hb dX14_isShort_1 rfl (lv_at hl 0 rfl) ?_
  refine va_get (D := D) (ci := 20) (v := .ref m4) (C := RX14) (T := TX14) (N := 21) hx hb hts iw_RX14_wsX14_isShort hown hK hP 0 rfl rfl 9 (by decide) (hts (.fieldLink RX14 29 "CoatLineModel" "cells" "Ljava/util/List;") (by decide +kernel)) (fun _ h9 => h9) rfl dX14_isShort_2 ?_
  refine lv_iload_n hx hb dX14_isShort_5 rfl (lv_at hl 1 rfl) ?_
  refine vp_callSi (va_Run.run (va_runS (As := [.ref m4, .int p0]) (rest := [.ref h]) ⟨hx, hb, hml, hown, hts⟩ (c_X14_isOf l hst D e m4 0 e p0 s.heap.size) (va_cwS 2 hts gX14_isShort_X14_isOf rfl rfl rfl (by decide +kernel) ⟨Nat.le_of_ble_eq_true rfl, Nat.le_of_ble_eq_true rfl⟩) ⟨cIn_blind, cIn_go hK hP hD hE hS hA [1] rfl rfl (by decide) [] rfl⟩ rfl rfl hl.1 rfl (lv_room (Nat.le_of_ble_eq_true rfl)) dX14_isShort_6 ⟨Nat.le_of_ble_eq_true rfl, Nat.le_of_ble_eq_true rfl⟩)) (fun r_1 hw => ?_)
  have hw : r_1 = 0 := hw.trans (by first | rfl | decide +kernel)
  subst hw
  refine lv_if_eq (tgt := 16) hx hb dX14_isShort_9 (by decide) (fun c_2 => ?_) (fun c_2 => absurd (show (0 : Int32) = 0 from by decide +kernel) c_2)
  refine lv_iconst (v := 1) hx hb dX14_isShort_16 (by decide) ?_
  have hFc := va_free (wc := [(h, .inr (20, [.int 0, .ref m1, .int 0, .int 0, .ref m2, .ref m3, .int 0, .int 4, .int (-40), .ref m4, .int 0, .int 20, .int 0, .ref m5, .ref fr, .int 100, .int 60, .int 14, .ref m6, .ref m7, .ref m8]))]) hD hS hA [0] rfl
  refine va_calli (va_runV (As := [.int 1]) (rest := []) ⟨hx, hb, hml, hown, hts⟩ (c_X14_isWrong l hst D e h 0 ([.ref m1, .int 0, .int 0, .ref m2, .ref m3, .int 0, .int 4, .int (-40), .ref m4, .int 0, .int 20, .int 0, .ref m5, .ref fr, .int 100, .int 60, .int 14, .ref m6, .ref m7, .ref m8]) 1 s.heap.size) (cwV 1 hts gX14_isShort_X14_isWrong rfl rfl rfl (by decide +kernel) ⟨Nat.le_of_ble_eq_true rfl, Nat.le_of_ble_eq_true rfl⟩) ⟨cIn_blind, va_recv hK hP (ci := 20) (q0 := 0) rfl rfl, cIn_go hK hP hD hE hS hA [0] rfl rfl (by decide) [] rfl⟩ rfl rfl hl.1 rfl (lv_room (Nat.le_of_ble_eq_true rfl)) dX14_isShort_17 ⟨Nat.le_of_ble_eq_true rfl, Nat.le_of_ble_eq_true rfl⟩) hS (fun q _ h => hFc q h) hFc (fun r_3 u t H1 locs ht hvm hw hB hz1 hk1 hS => ?_)
  obtain ⟨hP1, hK1, hD1⟩ := hB
  rw [ht] at hP1
  have hK1 := va_K.moved hvm.symm hK1
  obtain ⟨hP, hD⟩ := va_join (wr := [(m4, .inr (5, [.int 0, .ref e, .int 0]))]) (w1 := [(h, .inr (20, [.int 1, .ref m1, .int 0, .int 0, .ref m2, .ref m3, .int 0, .int 4, .int (-40), .ref m4, .int 0, .int 20, .int 0, .ref m5, .ref fr, .int 100, .int 60, .int 14, .ref m6, .ref m7, .ref m8]))]) hP hD [0] [1] rfl rfl (by decide) (by decide) hk1 hFc hP1 hD1
  generalize H1 = H at hP hS ⊢
  have hP : va_P D vwCl [(m4, .inr (5, [.int 0, .ref e, .int 0])), (h, .inr (20, [.int 1, .ref m1, .int 0, .int 0, .ref m2, .ref m3, .int 0, .int 4, .int (-40), .ref m4, .int 0, .int 20, .int 0, .ref m5, .ref fr, .int 100, .int 60, .int 14, .ref m6, .ref m7, .ref m8]))] H := hP
  have hD : va_D A [(m4, .inr (5, [.int 0, .ref e, .int 0])), (h, .inr (20, [.int 1, .ref m1, .int 0, .int 0, .ref m2, .ref m3, .int 0, .int 4, .int (-40), .ref m4, .int 0, .int 20, .int 0, .ref m5, .ref fr, .int 100, .int 60, .int 14, .ref m6, .ref m7, .ref m8]))] := hD
  have hw : r_3 = 1 := hw.trans (by first | rfl | decide +kernel)
  subst hw
  refine lv_if_ne (tgt := 46) hx hb dX14_isShort_20 (by decide) (fun c_5 => ?_) (fun c_5 => absurd c_5 (show ¬ ((1 : Int32) = 0) from by decide +kernel))
  refine lv_iconst (v := 0) hx hb dX14_isShort_46 (by decide) ?_
  exact W.zret (v := 0) hx hb hr (by first | rfl | decide +kernel) (fun t ht hW => ⟨⟨0, ((1, [.ref m1, .int 0, .int 0, .ref m2, .ref m3, .int 0, .int 4, .int (-40), .ref m4, .int 0, .int 20, .int 0, .ref m5, .ref fr, .int 100, .int 60, .int 14, .ref m6, .ref m7, .ref m8]) : Int32 × List Value), rfl, ⟨rfl, rfl⟩, ⟨by rw [ht]; exact hP.sub [1] rfl, va_K.moved hW.alike (hK.sub [] rfl), hD.sub [1] (by decide) rfl⟩⟩, hS.F ht⟩) hS.2.2 dX14_isShort_47
-- X14_isPlated
def v_X14_isPlated (p0 : Int32) : Int32 := 0
def k_X14_isPlated (p0 : Int32) : Int32 := 1
set_option maxHeartbeats 4000000 in
set_option maxRecDepth 100000 in
theorem c_X14_isPlated (l : Launch) (hst : l.stackTraces = false) (D : va_G) (e : Nat) (h : Nat) (m1 : Nat) (m2 : Nat) (m3 : Nat) (m4 : Nat) (m5 : Nat) (m6 : Nat) (m7 : Nat) (m8 : Nat) (fr : Nat) (p0 : Int32) (sz : Nat) : Met l yX14_isPlated wsX14_isPlated ({ frames := 16, cells := 0, slots := 0, locals := 340 }) (va_Pc [.ref h, .int p0] (cIn D [] [(h, .inr (20, [.int 0, .ref m1, .int 0, .int 0, .ref m2, .ref m3, .int 0, .int 4, .int (-40), .ref m4, .int 0, .int 20, .int 0, .ref m5, .ref fr, .int 100, .int 60, .int 14, .ref m6, .ref m7, .ref m8])), (m4, .inr (5, [.int 0, .ref e, .int 0]))] e sz)) (va_Qi (fun (r : Int32) (u : Int32 × List Value) => u.1 = k_X14_isPlated p0 ∧ r = v_X14_isPlated p0) (fun (u : Int32 × List Value) (t : State) => va_P D vwCl [(h, .inr (20, .int u.1 :: u.2))] t.heap ∧ va_K D vwCl [] t ∧ va_D (va_A [(h, .inr (20, [.int 0, .ref m1, .int 0, .int 0, .ref m2, .ref m3, .int 0, .int 4, .int (-40), .ref m4, .int 0, .int 20, .int 0, .ref m5, .ref fr, .int 100, .int 60, .int 14, .ref m6, .ref m7, .ref m8])), (m4, .inr (5, [.int 0, .ref e, .int 0]))] sz) [(h, .inr (20, .int u.1 :: u.2))]) (va_A [(h, .inr (20, [.int 0, .ref m1, .int 0, .int 0, .ref m2, .ref m3, .int 0, .int 4, .int (-40), .ref m4, .int 0, .int 20, .int 0, .ref m5, .ref fr, .int 100, .int 60, .int 14, .ref m6, .ref m7, .ref m8])), (m4, .inr (5, [.int 0, .ref e, .int 0]))] sz)) 0 0 (va_A [(h, .inr (20, [.int 0, .ref m1, .int 0, .int 0, .ref m2, .ref m3, .int 0, .int 4, .int (-40), .ref m4, .int 0, .int 20, .int 0, .ref m5, .ref fr, .int 100, .int 60, .int 14, .ref m6, .ref m7, .ref m8])), (m4, .inr (5, [.int 0, .ref e, .int 0]))] sz) := by
  refine Met.ofW (cc := cX14_isPlated) (maxL := 2) (ret := (some .boolean)) (by decide +kernel) rfl ?_
  intro p e9 s m args below meth c s₁ B hml hv
  obtain ⟨rfl, hsz, hP, hK, hD0, hE0⟩ := hv
  have hx := B.exec
  have hb := B.bytes
  have hr := B.returns
  have hts := atoms_spec (ws := wsX14_isPlated) B.pre
  have hown : s.vm.findClass RX14 = some m.cls := findClass_of_methodNamed B.named
  have hlocks := B.notSynchronized
  subst hsz
  have hD := hD0.self (sz := s.heap.size)
  generalize hAe : va_A [(h, .inr (20, [.int 0, .ref m1, .int 0, .int 0, .ref m2, .ref m3, .int 0, .int 4, .int (-40), .ref m4, .int 0, .int 20, .int 0, .ref m5, .ref fr, .int 100, .int 60, .int 14, .ref m6, .ref m7, .ref m8])), (m4, .inr (5, [.int 0, .ref e, .int 0]))] s.heap.size = A at hD hE0 ⊢
  have hA : ∀ q : Nat, s.heap.size ≤ q → A q := fun q h => by rw [← hAe]; exact Or.inr h
  have hS : va_S A s.heap s.heap [] := va_S.rf
  have hE := hE0
  have hP : va_P D vwCl [(h, .inr (20, [.int 0, .ref m1, .int 0, .int 0, .ref m2, .ref m3, .int 0, .int 4, .int (-40), .ref m4, .int 0, .int 20, .int 0, .ref m5, .ref fr, .int 100, .int 60, .int 14, .ref m6, .ref m7, .ref m8])), (m4, .inr (5, [.int 0, .ref e, .int 0]))] s.heap := hP
  have hl := lv_entry ([.ref h, .int p0]) (n := 2) (Nat.le_of_ble_eq_true rfl)
  rw [lg_entry_eq]
  generalize (lg_sl ([.ref h, .int p0]) ++ List.replicate (2 - (lg_sl ([.ref h, .int p0])).length) Slot.unset).toArray = ls at hl ⊢
  have hl : lv_has ls 2 [(0, .ref h), (1, .int p0)] := hl
  refine lv_aload_n hx hb dX14_isPlated_0 rfl (lv_at hl 0 rfl) ?_
  refine lv_aload_n hx hb dX14_isPlated_1 rfl (lv_at hl 0 rfl) ?_
  refine va_get (D := D) (ci := 20) (v := .ref m4) (C := RX14) (T := TX14) (N := 21) hx hb hts iw_RX14_wsX14_isPlated hown hK hP 0 rfl rfl 9 (by decide) (hts (.fieldLink RX14 29 "CoatLineModel" "cells" "Ljava/util/List;") (by decide +kernel)) (fun _ h9 => h9) rfl dX14_isPlated_2 ?_
  refine lv_iload_n hx hb dX14_isPlated_5 rfl (lv_at hl 1 rfl) ?_
  refine vp_callSi (va_Run.run (va_runS (As := [.ref m4, .int p0]) (rest := [.ref h]) ⟨hx, hb, hml, hown, hts⟩ (c_X14_isOf l hst D e m4 0 e p0 s.heap.size) (va_cwS 2 hts gX14_isPlated_X14_isOf rfl rfl rfl (by decide +kernel) ⟨Nat.le_of_ble_eq_true rfl, Nat.le_of_ble_eq_true rfl⟩) ⟨cIn_blind, cIn_go hK hP hD hE hS hA [1] rfl rfl (by decide) [] rfl⟩ rfl rfl hl.1 rfl (lv_room (Nat.le_of_ble_eq_true rfl)) dX14_isPlated_6 ⟨Nat.le_of_ble_eq_true rfl, Nat.le_of_ble_eq_true rfl⟩)) (fun r_1 hw => ?_)
  have hw : r_1 = 0 := hw.trans (by first | rfl | decide +kernel)
  subst hw
  refine lv_if_eq (tgt := 16) hx hb dX14_isPlated_9 (by decide) (fun c_2 => ?_) (fun c_2 => absurd (show (0 : Int32) = 0 from by decide +kernel) c_2)
  refine lv_iconst (v := 1) hx hb dX14_isPlated_16 (by decide) ?_
  have hFc := va_free (wc := [(h, .inr (20, [.int 0, .ref m1, .int 0, .int 0, .ref m2, .ref m3, .int 0, .int 4, .int (-40), .ref m4, .int 0, .int 20, .int 0, .ref m5, .ref fr, .int 100, .int 60, .int 14, .ref m6, .ref m7, .ref m8]))]) hD hS hA [0] rfl
  refine va_calli (va_runV (As := [.int 1]) (rest := []) ⟨hx, hb, hml, hown, hts⟩ (c_X14_isWrong l hst D e h 0 ([.ref m1, .int 0, .int 0, .ref m2, .ref m3, .int 0, .int 4, .int (-40), .ref m4, .int 0, .int 20, .int 0, .ref m5, .ref fr, .int 100, .int 60, .int 14, .ref m6, .ref m7, .ref m8]) 1 s.heap.size) (cwV 1 hts gX14_isPlated_X14_isWrong rfl rfl rfl (by decide +kernel) ⟨Nat.le_of_ble_eq_true rfl, Nat.le_of_ble_eq_true rfl⟩) ⟨cIn_blind, va_recv hK hP (ci := 20) (q0 := 0) rfl rfl, cIn_go hK hP hD hE hS hA [0] rfl rfl (by decide) [] rfl⟩ rfl rfl hl.1 rfl (lv_room (Nat.le_of_ble_eq_true rfl)) dX14_isPlated_17 ⟨Nat.le_of_ble_eq_true rfl, Nat.le_of_ble_eq_true rfl⟩) hS (fun q _ h => hFc q h) hFc (fun r_3 u t H1 locs ht hvm hw hB hz1 hk1 hS => ?_)
  obtain ⟨hP1, hK1, hD1⟩ := hB
  rw [ht] at hP1
  have hK1 := va_K.moved hvm.symm hK1
  obtain ⟨hP, hD⟩ := va_join (wr := [(m4, .inr (5, [.int 0, .ref e, .int 0]))]) (w1 := [(h, .inr (20, [.int 1, .ref m1, .int 0, .int 0, .ref m2, .ref m3, .int 0, .int 4, .int (-40), .ref m4, .int 0, .int 20, .int 0, .ref m5, .ref fr, .int 100, .int 60, .int 14, .ref m6, .ref m7, .ref m8]))]) hP hD [0] [1] rfl rfl (by decide) (by decide) hk1 hFc hP1 hD1
  generalize H1 = H at hP hS ⊢
  have hP : va_P D vwCl [(m4, .inr (5, [.int 0, .ref e, .int 0])), (h, .inr (20, [.int 1, .ref m1, .int 0, .int 0, .ref m2, .ref m3, .int 0, .int 4, .int (-40), .ref m4, .int 0, .int 20, .int 0, .ref m5, .ref fr, .int 100, .int 60, .int 14, .ref m6, .ref m7, .ref m8]))] H := hP
  have hD : va_D A [(m4, .inr (5, [.int 0, .ref e, .int 0])), (h, .inr (20, [.int 1, .ref m1, .int 0, .int 0, .ref m2, .ref m3, .int 0, .int 4, .int (-40), .ref m4, .int 0, .int 20, .int 0, .ref m5, .ref fr, .int 100, .int 60, .int 14, .ref m6, .ref m7, .ref m8]))] := hD
  have hw : r_3 = 1 := hw.trans (by first | rfl | decide +kernel)
  subst hw
  refine lv_if_ne (tgt := 46) hx hb dX14_isPlated_20 (by decide) (fun c_5 => ?_) (fun c_5 => absurd c_5 (show ¬ ((1 : Int32) = 0) from by decide +kernel))
  refine lv_iconst (v := 0) hx hb dX14_isPlated_46 (by decide) ?_
  exact W.zret (v := 0) hx hb hr (by first | rfl | decide +kernel) (fun t ht hW => ⟨⟨0, ((1, [.ref m1, .int 0, .int 0, .ref m2, .ref m3, .int 0, .int 4, .int (-40), .ref m4, .int 0, .int 20, .int 0, .ref m5, .ref fr, .int 100, .int 60, .int 14, .ref m6, .ref m7, .ref m8]) : Int32 × List Value), rfl, ⟨rfl, rfl⟩, ⟨by rw [ht]; exact hP.sub [1] rfl, va_K.moved hW.alike (hK.sub [] rfl), hD.sub [1] (by decide) rfl⟩⟩, hS.F ht⟩) hS.2.2 dX14_isPlated_47
-- X14_traced
def v_X14_traced (p0 : Int32) (p1 : Int32) (p2 : Int32) : Int32 := 0
def k_X14_traced (p0 : Int32) (p1 : Int32) (p2 : Int32) : Int32 := 1
set_option maxHeartbeats 4000000 in
set_option maxRecDepth 100000 in
theorem c_X14_traced (l : Launch) (hst : l.stackTraces = false) (D : va_G) (e : Nat) (h : Nat) (m1 : Nat) (m2 : Nat) (m3 : Nat) (m4 : Nat) (m5 : Nat) (m6 : Nat) (m7 : Nat) (m8 : Nat) (fr : Nat) (p0 : Int32) (p1 : Int32) (p2 : Int32) (sz : Nat) : Met l yX14_traced wsX14_traced ({ frames := 16, cells := 0, slots := 0, locals := 340 }) (va_Pc [.ref h, .int p0, .int p1, .int p2] (cIn D [] [(h, .inr (20, [.int 0, .ref m1, .int 0, .int 0, .ref m2, .ref m3, .int 0, .int 4, .int (-40), .ref m4, .int 0, .int 20, .int 0, .ref m5, .ref fr, .int 100, .int 60, .int 14, .ref m6, .ref m7, .ref m8])), (m4, .inr (5, [.int 0, .ref e, .int 0]))] e sz)) (va_Qi (fun (r : Int32) (u : Int32 × List Value) => u.1 = k_X14_traced p0 p1 p2 ∧ r = v_X14_traced p0 p1 p2) (fun (u : Int32 × List Value) (t : State) => va_P D vwCl [(h, .inr (20, .int u.1 :: u.2))] t.heap ∧ va_K D vwCl [] t ∧ va_D (va_A [(h, .inr (20, [.int 0, .ref m1, .int 0, .int 0, .ref m2, .ref m3, .int 0, .int 4, .int (-40), .ref m4, .int 0, .int 20, .int 0, .ref m5, .ref fr, .int 100, .int 60, .int 14, .ref m6, .ref m7, .ref m8])), (m4, .inr (5, [.int 0, .ref e, .int 0]))] sz) [(h, .inr (20, .int u.1 :: u.2))]) (va_A [(h, .inr (20, [.int 0, .ref m1, .int 0, .int 0, .ref m2, .ref m3, .int 0, .int 4, .int (-40), .ref m4, .int 0, .int 20, .int 0, .ref m5, .ref fr, .int 100, .int 60, .int 14, .ref m6, .ref m7, .ref m8])), (m4, .inr (5, [.int 0, .ref e, .int 0]))] sz)) 0 0 (va_A [(h, .inr (20, [.int 0, .ref m1, .int 0, .int 0, .ref m2, .ref m3, .int 0, .int 4, .int (-40), .ref m4, .int 0, .int 20, .int 0, .ref m5, .ref fr, .int 100, .int 60, .int 14, .ref m6, .ref m7, .ref m8])), (m4, .inr (5, [.int 0, .ref e, .int 0]))] sz) := by
  refine Met.ofW (cc := cX14_traced) (maxL := 6) (ret := (some .int)) (by decide +kernel) rfl ?_
  intro p e9 s m args below meth c s₁ B hml hv
  obtain ⟨rfl, hsz, hP, hK, hD0, hE0⟩ := hv
  have hx := B.exec
  have hb := B.bytes
  have hr := B.returns
  have hts := atoms_spec (ws := wsX14_traced) B.pre
  have hown : s.vm.findClass RX14 = some m.cls := findClass_of_methodNamed B.named
  have hlocks := B.notSynchronized
  subst hsz
  have hD := hD0.self (sz := s.heap.size)
  generalize hAe : va_A [(h, .inr (20, [.int 0, .ref m1, .int 0, .int 0, .ref m2, .ref m3, .int 0, .int 4, .int (-40), .ref m4, .int 0, .int 20, .int 0, .ref m5, .ref fr, .int 100, .int 60, .int 14, .ref m6, .ref m7, .ref m8])), (m4, .inr (5, [.int 0, .ref e, .int 0]))] s.heap.size = A at hD hE0 ⊢
  have hA : ∀ q : Nat, s.heap.size ≤ q → A q := fun q h => by rw [← hAe]; exact Or.inr h
  have hS : va_S A s.heap s.heap [] := va_S.rf
  have hE := hE0
  have hP : va_P D vwCl [(h, .inr (20, [.int 0, .ref m1, .int 0, .int 0, .ref m2, .ref m3, .int 0, .int 4, .int (-40), .ref m4, .int 0, .int 20, .int 0, .ref m5, .ref fr, .int 100, .int 60, .int 14, .ref m6, .ref m7, .ref m8])), (m4, .inr (5, [.int 0, .ref e, .int 0]))] s.heap := hP
  have hl := lv_entry ([.ref h, .int p0, .int p1, .int p2]) (n := 6) (Nat.le_of_ble_eq_true rfl)
  rw [lg_entry_eq]
  generalize (lg_sl ([.ref h, .int p0, .int p1, .int p2]) ++ List.replicate (6 - (lg_sl ([.ref h, .int p0, .int p1, .int p2])).length) Slot.unset).toArray = ls at hl ⊢
  have hl : lv_has ls 6 [(0, .ref h), (1, .int p0), (2, .int p1), (3, .int p2)] := hl
  refine lv_aload_n hx hb dX14_traced_0 rfl (lv_at hl 0 rfl) ?_
  refine lv_aload_n hx hb dX14_traced_1 rfl (lv_at hl 0 rfl) ?_
  refine va_get (D := D) (ci := 20) (v := .ref m4) (C := RX14) (T := TX14) (N := 21) hx hb hts iw_RX14_wsX14_traced hown hK hP 0 rfl rfl 9 (by decide) (hts (.fieldLink RX14 29 "CoatLineModel" "cells" "Ljava/util/List;") (by decide +kernel)) (fun _ h9 => h9) rfl dX14_traced_2 ?_
  refine lv_iload_n hx hb dX14_traced_5 rfl (lv_at hl 1 rfl) ?_
  refine vp_callSi (va_Run.run (va_runS (As := [.ref m4, .int p0]) (rest := [.ref h]) ⟨hx, hb, hml, hown, hts⟩ (c_X14_isOf l hst D e m4 0 e p0 s.heap.size) (va_cwS 2 hts gX14_traced_X14_isOf rfl rfl rfl (by decide +kernel) ⟨Nat.le_of_ble_eq_true rfl, Nat.le_of_ble_eq_true rfl⟩) ⟨cIn_blind, cIn_go hK hP hD hE hS hA [1] rfl rfl (by decide) [] rfl⟩ rfl rfl hl.1 rfl (lv_room (Nat.le_of_ble_eq_true rfl)) dX14_traced_6 ⟨Nat.le_of_ble_eq_true rfl, Nat.le_of_ble_eq_true rfl⟩)) (fun r_1 hw => ?_)
  have hw : r_1 = 0 := hw.trans (by first | rfl | decide +kernel)
  subst hw
  refine lv_if_eq (tgt := 16) hx hb dX14_traced_9 (by decide) (fun c_2 => ?_) (fun c_2 => absurd (show (0 : Int32) = 0 from by decide +kernel) c_2)
  refine lv_iconst (v := 1) hx hb dX14_traced_16 (by decide) ?_
  have hFc := va_free (wc := [(h, .inr (20, [.int 0, .ref m1, .int 0, .int 0, .ref m2, .ref m3, .int 0, .int 4, .int (-40), .ref m4, .int 0, .int 20, .int 0, .ref m5, .ref fr, .int 100, .int 60, .int 14, .ref m6, .ref m7, .ref m8]))]) hD hS hA [0] rfl
  refine va_calli (va_runV (As := [.int 1]) (rest := []) ⟨hx, hb, hml, hown, hts⟩ (c_X14_isWrong l hst D e h 0 ([.ref m1, .int 0, .int 0, .ref m2, .ref m3, .int 0, .int 4, .int (-40), .ref m4, .int 0, .int 20, .int 0, .ref m5, .ref fr, .int 100, .int 60, .int 14, .ref m6, .ref m7, .ref m8]) 1 s.heap.size) (cwV 1 hts gX14_traced_X14_isWrong rfl rfl rfl (by decide +kernel) ⟨Nat.le_of_ble_eq_true rfl, Nat.le_of_ble_eq_true rfl⟩) ⟨cIn_blind, va_recv hK hP (ci := 20) (q0 := 0) rfl rfl, cIn_go hK hP hD hE hS hA [0] rfl rfl (by decide) [] rfl⟩ rfl rfl hl.1 rfl (lv_room (Nat.le_of_ble_eq_true rfl)) dX14_traced_17 ⟨Nat.le_of_ble_eq_true rfl, Nat.le_of_ble_eq_true rfl⟩) hS (fun q _ h => hFc q h) hFc (fun r_3 u t H1 locs ht hvm hw hB hz1 hk1 hS => ?_)
  obtain ⟨hP1, hK1, hD1⟩ := hB
  rw [ht] at hP1
  have hK1 := va_K.moved hvm.symm hK1
  obtain ⟨hP, hD⟩ := va_join (wr := [(m4, .inr (5, [.int 0, .ref e, .int 0]))]) (w1 := [(h, .inr (20, [.int 1, .ref m1, .int 0, .int 0, .ref m2, .ref m3, .int 0, .int 4, .int (-40), .ref m4, .int 0, .int 20, .int 0, .ref m5, .ref fr, .int 100, .int 60, .int 14, .ref m6, .ref m7, .ref m8]))]) hP hD [0] [1] rfl rfl (by decide) (by decide) hk1 hFc hP1 hD1
  generalize H1 = H at hP hS ⊢
  have hP : va_P D vwCl [(m4, .inr (5, [.int 0, .ref e, .int 0])), (h, .inr (20, [.int 1, .ref m1, .int 0, .int 0, .ref m2, .ref m3, .int 0, .int 4, .int (-40), .ref m4, .int 0, .int 20, .int 0, .ref m5, .ref fr, .int 100, .int 60, .int 14, .ref m6, .ref m7, .ref m8]))] H := hP
  have hD : va_D A [(m4, .inr (5, [.int 0, .ref e, .int 0])), (h, .inr (20, [.int 1, .ref m1, .int 0, .int 0, .ref m2, .ref m3, .int 0, .int 4, .int (-40), .ref m4, .int 0, .int 20, .int 0, .ref m5, .ref fr, .int 100, .int 60, .int 14, .ref m6, .ref m7, .ref m8]))] := hD
  have hw : r_3 = 1 := hw.trans (by first | rfl | decide +kernel)
  subst hw
  refine lv_if_eq (tgt := 25) hx hb dX14_traced_20 (by decide) (fun c_5 => absurd c_5 (show ¬ ((1 : Int32) = 0) from by decide +kernel)) (fun c_5 => ?_)
  refine lv_iconst (v := 0) hx hb dX14_traced_23 (by decide) ?_
  exact W.iret (v := 0) hx hb hr (fun t ht hW => ⟨⟨0, ((1, [.ref m1, .int 0, .int 0, .ref m2, .ref m3, .int 0, .int 4, .int (-40), .ref m4, .int 0, .int 20, .int 0, .ref m5, .ref fr, .int 100, .int 60, .int 14, .ref m6, .ref m7, .ref m8]) : Int32 × List Value), rfl, ⟨rfl, rfl⟩, ⟨by rw [ht]; exact hP.sub [1] rfl, va_K.moved hW.alike (hK.sub [] rfl), hD.sub [1] (by decide) rfl⟩⟩, hS.F ht⟩) hS.2.2 dX14_traced_24
-- X14_fill
def v_X14_fill (p0 : Int32) (p1 : Int32) : Int32 := 0
def k_X14_fill (p0 : Int32) (p1 : Int32) : Int32 := 1
set_option maxHeartbeats 4000000 in
set_option maxRecDepth 100000 in
theorem c_X14_fill (l : Launch) (hst : l.stackTraces = false) (D : va_G) (e : Nat) (h : Nat) (m1 : Nat) (m2 : Nat) (m3 : Nat) (m4 : Nat) (m5 : Nat) (m6 : Nat) (m7 : Nat) (m8 : Nat) (fr : Nat) (p0 : Int32) (p1 : Int32) (sz : Nat) : Met l yX14_fill wsX14_fill ({ frames := 16, cells := 0, slots := 0, locals := 340 }) (va_Pc [.ref h, .int p0, .int p1] (cIn D [] [(h, .inr (20, [.int 0, .ref m1, .int 0, .int 0, .ref m2, .ref m3, .int 0, .int 4, .int (-40), .ref m4, .int 0, .int 20, .int 0, .ref m5, .ref fr, .int 100, .int 60, .int 14, .ref m6, .ref m7, .ref m8])), (m4, .inr (5, [.int 0, .ref e, .int 0]))] e sz)) (va_Qi (fun (r : Int32) (u : Int32 × List Value) => u.1 = k_X14_fill p0 p1 ∧ r = v_X14_fill p0 p1) (fun (u : Int32 × List Value) (t : State) => va_P D vwCl [(h, .inr (20, .int u.1 :: u.2))] t.heap ∧ va_K D vwCl [] t ∧ va_D (va_A [(h, .inr (20, [.int 0, .ref m1, .int 0, .int 0, .ref m2, .ref m3, .int 0, .int 4, .int (-40), .ref m4, .int 0, .int 20, .int 0, .ref m5, .ref fr, .int 100, .int 60, .int 14, .ref m6, .ref m7, .ref m8])), (m4, .inr (5, [.int 0, .ref e, .int 0]))] sz) [(h, .inr (20, .int u.1 :: u.2))]) (va_A [(h, .inr (20, [.int 0, .ref m1, .int 0, .int 0, .ref m2, .ref m3, .int 0, .int 4, .int (-40), .ref m4, .int 0, .int 20, .int 0, .ref m5, .ref fr, .int 100, .int 60, .int 14, .ref m6, .ref m7, .ref m8])), (m4, .inr (5, [.int 0, .ref e, .int 0]))] sz)) 0 0 (va_A [(h, .inr (20, [.int 0, .ref m1, .int 0, .int 0, .ref m2, .ref m3, .int 0, .int 4, .int (-40), .ref m4, .int 0, .int 20, .int 0, .ref m5, .ref fr, .int 100, .int 60, .int 14, .ref m6, .ref m7, .ref m8])), (m4, .inr (5, [.int 0, .ref e, .int 0]))] sz) := by
  refine Met.ofW (cc := cX14_fill) (maxL := 3) (ret := (some .int)) (by decide +kernel) rfl ?_
  intro p e9 s m args below meth c s₁ B hml hv
  obtain ⟨rfl, hsz, hP, hK, hD0, hE0⟩ := hv
  have hx := B.exec
  have hb := B.bytes
  have hr := B.returns
  have hts := atoms_spec (ws := wsX14_fill) B.pre
  have hown : s.vm.findClass RX14 = some m.cls := findClass_of_methodNamed B.named
  have hlocks := B.notSynchronized
  subst hsz
  have hD := hD0.self (sz := s.heap.size)
  generalize hAe : va_A [(h, .inr (20, [.int 0, .ref m1, .int 0, .int 0, .ref m2, .ref m3, .int 0, .int 4, .int (-40), .ref m4, .int 0, .int 20, .int 0, .ref m5, .ref fr, .int 100, .int 60, .int 14, .ref m6, .ref m7, .ref m8])), (m4, .inr (5, [.int 0, .ref e, .int 0]))] s.heap.size = A at hD hE0 ⊢
  have hA : ∀ q : Nat, s.heap.size ≤ q → A q := fun q h => by rw [← hAe]; exact Or.inr h
  have hS : va_S A s.heap s.heap [] := va_S.rf
  have hE := hE0
  have hP : va_P D vwCl [(h, .inr (20, [.int 0, .ref m1, .int 0, .int 0, .ref m2, .ref m3, .int 0, .int 4, .int (-40), .ref m4, .int 0, .int 20, .int 0, .ref m5, .ref fr, .int 100, .int 60, .int 14, .ref m6, .ref m7, .ref m8])), (m4, .inr (5, [.int 0, .ref e, .int 0]))] s.heap := hP
  have hl := lv_entry ([.ref h, .int p0, .int p1]) (n := 3) (Nat.le_of_ble_eq_true rfl)
  rw [lg_entry_eq]
  generalize (lg_sl ([.ref h, .int p0, .int p1]) ++ List.replicate (3 - (lg_sl ([.ref h, .int p0, .int p1])).length) Slot.unset).toArray = ls at hl ⊢
  have hl : lv_has ls 3 [(0, .ref h), (1, .int p0), (2, .int p1)] := hl
  refine lv_aload_n hx hb dX14_fill_0 rfl (lv_at hl 0 rfl) ?_
  refine lv_aload_n hx hb dX14_fill_1 rfl (lv_at hl 0 rfl) ?_
  refine va_get (D := D) (ci := 20) (v := .ref m4) (C := RX14) (T := TX14) (N := 21) hx hb hts iw_RX14_wsX14_fill hown hK hP 0 rfl rfl 9 (by decide) (hts (.fieldLink RX14 29 "CoatLineModel" "cells" "Ljava/util/List;") (by decide +kernel)) (fun _ h9 => h9) rfl dX14_fill_2 ?_
  refine lv_iload_n hx hb dX14_fill_5 rfl (lv_at hl 1 rfl) ?_
  refine vp_callSi (va_Run.run (va_runS (As := [.ref m4, .int p0]) (rest := [.ref h]) ⟨hx, hb, hml, hown, hts⟩ (c_X14_isOf l hst D e m4 0 e p0 s.heap.size) (va_cwS 2 hts gX14_fill_X14_isOf rfl rfl rfl (by decide +kernel) ⟨Nat.le_of_ble_eq_true rfl, Nat.le_of_ble_eq_true rfl⟩) ⟨cIn_blind, cIn_go hK hP hD hE hS hA [1] rfl rfl (by decide) [] rfl⟩ rfl rfl hl.1 rfl (lv_room (Nat.le_of_ble_eq_true rfl)) dX14_fill_6 ⟨Nat.le_of_ble_eq_true rfl, Nat.le_of_ble_eq_true rfl⟩)) (fun r_1 hw => ?_)
  have hw : r_1 = 0 := hw.trans (by first | rfl | decide +kernel)
  subst hw
  refine lv_if_ne (tgt := 16) hx hb dX14_fill_9 (by decide) (fun c_2 => absurd (show (0 : Int32) = 0 from by decide +kernel) c_2) (fun c_2 => ?_)
  refine lv_iconst (v := 1) hx hb dX14_fill_12 (by decide) ?_
  refine lv_goto (tgt := 92) hx hb dX14_fill_13 (by decide) ?_
  have hFc := va_free (wc := [(h, .inr (20, [.int 0, .ref m1, .int 0, .int 0, .ref m2, .ref m3, .int 0, .int 4, .int (-40), .ref m4, .int 0, .int 20, .int 0, .ref m5, .ref fr, .int 100, .int 60, .int 14, .ref m6, .ref m7, .ref m8]))]) hD hS hA [0] rfl
  refine va_calli (va_runV (As := [.int 1]) (rest := []) ⟨hx, hb, hml, hown, hts⟩ (c_X14_isWrong l hst D e h 0 ([.ref m1, .int 0, .int 0, .ref m2, .ref m3, .int 0, .int 4, .int (-40), .ref m4, .int 0, .int 20, .int 0, .ref m5, .ref fr, .int 100, .int 60, .int 14, .ref m6, .ref m7, .ref m8]) 1 s.heap.size) (cwV 1 hts gX14_fill_X14_isWrong rfl rfl rfl (by decide +kernel) ⟨Nat.le_of_ble_eq_true rfl, Nat.le_of_ble_eq_true rfl⟩) ⟨cIn_blind, va_recv hK hP (ci := 20) (q0 := 0) rfl rfl, cIn_go hK hP hD hE hS hA [0] rfl rfl (by decide) [] rfl⟩ rfl rfl hl.1 rfl (lv_room (Nat.le_of_ble_eq_true rfl)) dX14_fill_92 ⟨Nat.le_of_ble_eq_true rfl, Nat.le_of_ble_eq_true rfl⟩) hS (fun q _ h => hFc q h) hFc (fun r_3 u t H1 locs ht hvm hw hB hz1 hk1 hS => ?_)
  obtain ⟨hP1, hK1, hD1⟩ := hB
  rw [ht] at hP1
  have hK1 := va_K.moved hvm.symm hK1
  obtain ⟨hP, hD⟩ := va_join (wr := [(m4, .inr (5, [.int 0, .ref e, .int 0]))]) (w1 := [(h, .inr (20, [.int 1, .ref m1, .int 0, .int 0, .ref m2, .ref m3, .int 0, .int 4, .int (-40), .ref m4, .int 0, .int 20, .int 0, .ref m5, .ref fr, .int 100, .int 60, .int 14, .ref m6, .ref m7, .ref m8]))]) hP hD [0] [1] rfl rfl (by decide) (by decide) hk1 hFc hP1 hD1
  generalize H1 = H at hP hS ⊢
  have hP : va_P D vwCl [(m4, .inr (5, [.int 0, .ref e, .int 0])), (h, .inr (20, [.int 1, .ref m1, .int 0, .int 0, .ref m2, .ref m3, .int 0, .int 4, .int (-40), .ref m4, .int 0, .int 20, .int 0, .ref m5, .ref fr, .int 100, .int 60, .int 14, .ref m6, .ref m7, .ref m8]))] H := hP
  have hD : va_D A [(m4, .inr (5, [.int 0, .ref e, .int 0])), (h, .inr (20, [.int 1, .ref m1, .int 0, .int 0, .ref m2, .ref m3, .int 0, .int 4, .int (-40), .ref m4, .int 0, .int 20, .int 0, .ref m5, .ref fr, .int 100, .int 60, .int 14, .ref m6, .ref m7, .ref m8]))] := hD
  have hw : r_3 = 1 := hw.trans (by first | rfl | decide +kernel)
  subst hw
  refine lv_if_eq (tgt := 100) hx hb dX14_fill_95 (by decide) (fun c_5 => absurd c_5 (show ¬ ((1 : Int32) = 0) from by decide +kernel)) (fun c_5 => ?_)
  refine lv_iconst (v := 0) hx hb dX14_fill_98 (by decide) ?_
  exact W.iret (v := 0) hx hb hr (fun t ht hW => ⟨⟨0, ((1, [.ref m1, .int 0, .int 0, .ref m2, .ref m3, .int 0, .int 4, .int (-40), .ref m4, .int 0, .int 20, .int 0, .ref m5, .ref fr, .int 100, .int 60, .int 14, .ref m6, .ref m7, .ref m8]) : Int32 × List Value), rfl, ⟨rfl, rfl⟩, ⟨by rw [ht]; exact hP.sub [1] rfl, va_K.moved hW.alike (hK.sub [] rfl), hD.sub [1] (by decide) rfl⟩⟩, hS.F ht⟩) hS.2.2 dX14_fill_99
-- X14_step
def v_X14_step (p0 : Int32) (p1 : Int32) (p2 : Int32) : Int32 := 0
def k_X14_step (p0 : Int32) (p1 : Int32) (p2 : Int32) : Int32 := 1
set_option maxHeartbeats 4000000 in
set_option maxRecDepth 100000 in
theorem c_X14_step (l : Launch) (hst : l.stackTraces = false) (D : va_G) (e : Nat) (h : Nat) (m1 : Nat) (m2 : Nat) (m3 : Nat) (m4 : Nat) (m5 : Nat) (m6 : Nat) (m7 : Nat) (m8 : Nat) (fr : Nat) (p0 : Int32) (p1 : Int32) (p2 : Int32) (sz : Nat) : Met l yX14_step wsX14_step ({ frames := 16, cells := 0, slots := 0, locals := 340 }) (va_Pc [.ref h, .int p0, .int p1, .int p2] (cIn D [] [(h, .inr (20, [.int 0, .ref m1, .int 0, .int 0, .ref m2, .ref m3, .int 0, .int 4, .int (-40), .ref m4, .int 0, .int 20, .int 0, .ref m5, .ref fr, .int 100, .int 60, .int 14, .ref m6, .ref m7, .ref m8])), (m5, .inr (5, [.int 0, .ref e, .int 0]))] e sz)) (va_Qi (fun (r : Int32) (u : Int32 × List Value) => u.1 = k_X14_step p0 p1 p2 ∧ r = v_X14_step p0 p1 p2) (fun (u : Int32 × List Value) (t : State) => va_P D vwCl [(h, .inr (20, .int u.1 :: u.2))] t.heap ∧ va_K D vwCl [] t ∧ va_D (va_A [(h, .inr (20, [.int 0, .ref m1, .int 0, .int 0, .ref m2, .ref m3, .int 0, .int 4, .int (-40), .ref m4, .int 0, .int 20, .int 0, .ref m5, .ref fr, .int 100, .int 60, .int 14, .ref m6, .ref m7, .ref m8])), (m5, .inr (5, [.int 0, .ref e, .int 0]))] sz) [(h, .inr (20, .int u.1 :: u.2))]) (va_A [(h, .inr (20, [.int 0, .ref m1, .int 0, .int 0, .ref m2, .ref m3, .int 0, .int 4, .int (-40), .ref m4, .int 0, .int 20, .int 0, .ref m5, .ref fr, .int 100, .int 60, .int 14, .ref m6, .ref m7, .ref m8])), (m5, .inr (5, [.int 0, .ref e, .int 0]))] sz)) 0 0 (va_A [(h, .inr (20, [.int 0, .ref m1, .int 0, .int 0, .ref m2, .ref m3, .int 0, .int 4, .int (-40), .ref m4, .int 0, .int 20, .int 0, .ref m5, .ref fr, .int 100, .int 60, .int 14, .ref m6, .ref m7, .ref m8])), (m5, .inr (5, [.int 0, .ref e, .int 0]))] sz) := by
  refine Met.ofW (cc := cX14_step) (maxL := 4) (ret := (some .int)) (by decide +kernel) rfl ?_
  intro p e9 s m args below meth c s₁ B hml hv
  obtain ⟨rfl, hsz, hP, hK, hD0, hE0⟩ := hv
  have hx := B.exec
  have hb := B.bytes
  have hr := B.returns
  have hts := atoms_spec (ws := wsX14_step) B.pre
  have hown : s.vm.findClass RX14 = some m.cls := findClass_of_methodNamed B.named
  have hlocks := B.notSynchronized
  subst hsz
  have hD := hD0.self (sz := s.heap.size)
  generalize hAe : va_A [(h, .inr (20, [.int 0, .ref m1, .int 0, .int 0, .ref m2, .ref m3, .int 0, .int 4, .int (-40), .ref m4, .int 0, .int 20, .int 0, .ref m5, .ref fr, .int 100, .int 60, .int 14, .ref m6, .ref m7, .ref m8])), (m5, .inr (5, [.int 0, .ref e, .int 0]))] s.heap.size = A at hD hE0 ⊢
  have hA : ∀ q : Nat, s.heap.size ≤ q → A q := fun q h => by rw [← hAe]; exact Or.inr h
  have hS : va_S A s.heap s.heap [] := va_S.rf
  have hE := hE0
  have hP : va_P D vwCl [(h, .inr (20, [.int 0, .ref m1, .int 0, .int 0, .ref m2, .ref m3, .int 0, .int 4, .int (-40), .ref m4, .int 0, .int 20, .int 0, .ref m5, .ref fr, .int 100, .int 60, .int 14, .ref m6, .ref m7, .ref m8])), (m5, .inr (5, [.int 0, .ref e, .int 0]))] s.heap := hP
  have hl := lv_entry ([.ref h, .int p0, .int p1, .int p2]) (n := 4) (Nat.le_of_ble_eq_true rfl)
  rw [lg_entry_eq]
  generalize (lg_sl ([.ref h, .int p0, .int p1, .int p2]) ++ List.replicate (4 - (lg_sl ([.ref h, .int p0, .int p1, .int p2])).length) Slot.unset).toArray = ls at hl ⊢
  have hl : lv_has ls 4 [(0, .ref h), (1, .int p0), (2, .int p1), (3, .int p2)] := hl
  refine lv_aload_n hx hb dX14_step_0 rfl (lv_at hl 0 rfl) ?_
  refine lv_aload_n hx hb dX14_step_1 rfl (lv_at hl 0 rfl) ?_
  refine va_get (D := D) (ci := 20) (v := .ref m5) (C := RX14) (T := TX14) (N := 21) hx hb hts iw_RX14_wsX14_step hown hK hP 0 rfl rfl 13 (by decide) (hts (.fieldLink RX14 35 "CoatLineModel" "protocols" "Ljava/util/List;") (by decide +kernel)) (fun _ h9 => h9) rfl dX14_step_2 ?_
  refine lv_iload_n hx hb dX14_step_5 rfl (lv_at hl 1 rfl) ?_
  refine vp_callSi (va_Run.run (va_runS (As := [.ref m5, .int p0]) (rest := [.ref h]) ⟨hx, hb, hml, hown, hts⟩ (c_X14_isOf l hst D e m5 0 e p0 s.heap.size) (va_cwS 2 hts gX14_step_X14_isOf rfl rfl rfl (by decide +kernel) ⟨Nat.le_of_ble_eq_true rfl, Nat.le_of_ble_eq_true rfl⟩) ⟨cIn_blind, cIn_go hK hP hD hE hS hA [1] rfl rfl (by decide) [] rfl⟩ rfl rfl hl.1 rfl (lv_room (Nat.le_of_ble_eq_true rfl)) dX14_step_6 ⟨Nat.le_of_ble_eq_true rfl, Nat.le_of_ble_eq_true rfl⟩)) (fun r_1 hw => ?_)
  have hw : r_1 = 0 := hw.trans (by first | rfl | decide +kernel)
  subst hw
  refine lv_if_ne (tgt := 16) hx hb dX14_step_9 (by decide) (fun c_2 => absurd (show (0 : Int32) = 0 from by decide +kernel) c_2) (fun c_2 => ?_)
  refine lv_iconst (v := 1) hx hb dX14_step_12 (by decide) ?_
  refine lv_goto (tgt := 56) hx hb dX14_step_13 (by decide) ?_
  have hFc := va_free (wc := [(h, .inr (20, [.int 0, .ref m1, .int 0, .int 0, .ref m2, .ref m3, .int 0, .int 4, .int (-40), .ref m4, .int 0, .int 20, .int 0, .ref m5, .ref fr, .int 100, .int 60, .int 14, .ref m6, .ref m7, .ref m8]))]) hD hS hA [0] rfl
  refine va_calli (va_runV (As := [.int 1]) (rest := []) ⟨hx, hb, hml, hown, hts⟩ (c_X14_isWrong l hst D e h 0 ([.ref m1, .int 0, .int 0, .ref m2, .ref m3, .int 0, .int 4, .int (-40), .ref m4, .int 0, .int 20, .int 0, .ref m5, .ref fr, .int 100, .int 60, .int 14, .ref m6, .ref m7, .ref m8]) 1 s.heap.size) (cwV 1 hts gX14_step_X14_isWrong rfl rfl rfl (by decide +kernel) ⟨Nat.le_of_ble_eq_true rfl, Nat.le_of_ble_eq_true rfl⟩) ⟨cIn_blind, va_recv hK hP (ci := 20) (q0 := 0) rfl rfl, cIn_go hK hP hD hE hS hA [0] rfl rfl (by decide) [] rfl⟩ rfl rfl hl.1 rfl (lv_room (Nat.le_of_ble_eq_true rfl)) dX14_step_56 ⟨Nat.le_of_ble_eq_true rfl, Nat.le_of_ble_eq_true rfl⟩) hS (fun q _ h => hFc q h) hFc (fun r_3 u t H1 locs ht hvm hw hB hz1 hk1 hS => ?_)
  obtain ⟨hP1, hK1, hD1⟩ := hB
  rw [ht] at hP1
  have hK1 := va_K.moved hvm.symm hK1
  obtain ⟨hP, hD⟩ := va_join (wr := [(m5, .inr (5, [.int 0, .ref e, .int 0]))]) (w1 := [(h, .inr (20, [.int 1, .ref m1, .int 0, .int 0, .ref m2, .ref m3, .int 0, .int 4, .int (-40), .ref m4, .int 0, .int 20, .int 0, .ref m5, .ref fr, .int 100, .int 60, .int 14, .ref m6, .ref m7, .ref m8]))]) hP hD [0] [1] rfl rfl (by decide) (by decide) hk1 hFc hP1 hD1
  generalize H1 = H at hP hS ⊢
  have hP : va_P D vwCl [(m5, .inr (5, [.int 0, .ref e, .int 0])), (h, .inr (20, [.int 1, .ref m1, .int 0, .int 0, .ref m2, .ref m3, .int 0, .int 4, .int (-40), .ref m4, .int 0, .int 20, .int 0, .ref m5, .ref fr, .int 100, .int 60, .int 14, .ref m6, .ref m7, .ref m8]))] H := hP
  have hD : va_D A [(m5, .inr (5, [.int 0, .ref e, .int 0])), (h, .inr (20, [.int 1, .ref m1, .int 0, .int 0, .ref m2, .ref m3, .int 0, .int 4, .int (-40), .ref m4, .int 0, .int 20, .int 0, .ref m5, .ref fr, .int 100, .int 60, .int 14, .ref m6, .ref m7, .ref m8]))] := hD
  have hw : r_3 = 1 := hw.trans (by first | rfl | decide +kernel)
  subst hw
  refine lv_if_eq (tgt := 64) hx hb dX14_step_59 (by decide) (fun c_5 => absurd c_5 (show ¬ ((1 : Int32) = 0) from by decide +kernel)) (fun c_5 => ?_)
  refine lv_iconst (v := 0) hx hb dX14_step_62 (by decide) ?_
  exact W.iret (v := 0) hx hb hr (fun t ht hW => ⟨⟨0, ((1, [.ref m1, .int 0, .int 0, .ref m2, .ref m3, .int 0, .int 4, .int (-40), .ref m4, .int 0, .int 20, .int 0, .ref m5, .ref fr, .int 100, .int 60, .int 14, .ref m6, .ref m7, .ref m8]) : Int32 × List Value), rfl, ⟨rfl, rfl⟩, ⟨by rw [ht]; exact hP.sub [1] rfl, va_K.moved hW.alike (hK.sub [] rfl), hD.sub [1] (by decide) rfl⟩⟩, hS.F ht⟩) hS.2.2 dX14_step_63
-- X14_form
def v_X14_form (p0 : Int32) (p1 : Int32) (p2 : Int32) : Int32 := 0
def k_X14_form (p0 : Int32) (p1 : Int32) (p2 : Int32) : Int32 := 1
set_option maxHeartbeats 4000000 in
set_option maxRecDepth 100000 in
theorem c_X14_form (l : Launch) (hst : l.stackTraces = false) (D : va_G) (e : Nat) (h : Nat) (m1 : Nat) (m2 : Nat) (m3 : Nat) (m4 : Nat) (m5 : Nat) (m6 : Nat) (m7 : Nat) (m8 : Nat) (fr : Nat) (p0 : Int32) (p1 : Int32) (p2 : Int32) (sz : Nat) : Met l yX14_form wsX14_form ({ frames := 16, cells := 0, slots := 0, locals := 340 }) (va_Pc [.ref h, .int p0, .int p1, .int p2] (cIn D [] [(h, .inr (20, [.int 0, .ref m1, .int 0, .int 0, .ref m2, .ref m3, .int 0, .int 4, .int (-40), .ref m4, .int 0, .int 20, .int 0, .ref m5, .ref fr, .int 100, .int 60, .int 14, .ref m6, .ref m7, .ref m8])), (m4, .inr (5, [.int 0, .ref e, .int 0]))] e sz)) (va_Qi (fun (r : Int32) (u : Int32 × List Value) => u.1 = k_X14_form p0 p1 p2 ∧ r = v_X14_form p0 p1 p2) (fun (u : Int32 × List Value) (t : State) => va_P D vwCl [(h, .inr (20, .int u.1 :: u.2))] t.heap ∧ va_K D vwCl [] t ∧ va_D (va_A [(h, .inr (20, [.int 0, .ref m1, .int 0, .int 0, .ref m2, .ref m3, .int 0, .int 4, .int (-40), .ref m4, .int 0, .int 20, .int 0, .ref m5, .ref fr, .int 100, .int 60, .int 14, .ref m6, .ref m7, .ref m8])), (m4, .inr (5, [.int 0, .ref e, .int 0]))] sz) [(h, .inr (20, .int u.1 :: u.2))]) (va_A [(h, .inr (20, [.int 0, .ref m1, .int 0, .int 0, .ref m2, .ref m3, .int 0, .int 4, .int (-40), .ref m4, .int 0, .int 20, .int 0, .ref m5, .ref fr, .int 100, .int 60, .int 14, .ref m6, .ref m7, .ref m8])), (m4, .inr (5, [.int 0, .ref e, .int 0]))] sz)) 0 0 (va_A [(h, .inr (20, [.int 0, .ref m1, .int 0, .int 0, .ref m2, .ref m3, .int 0, .int 4, .int (-40), .ref m4, .int 0, .int 20, .int 0, .ref m5, .ref fr, .int 100, .int 60, .int 14, .ref m6, .ref m7, .ref m8])), (m4, .inr (5, [.int 0, .ref e, .int 0]))] sz) := by
  refine Met.ofW (cc := cX14_form) (maxL := 11) (ret := (some .int)) (by decide +kernel) rfl ?_
  intro p e9 s m args below meth c s₁ B hml hv
  obtain ⟨rfl, hsz, hP, hK, hD0, hE0⟩ := hv
  have hx := B.exec
  have hb := B.bytes
  have hr := B.returns
  have hts := atoms_spec (ws := wsX14_form) B.pre
  have hown : s.vm.findClass RX14 = some m.cls := findClass_of_methodNamed B.named
  have hlocks := B.notSynchronized
  subst hsz
  have hD := hD0.self (sz := s.heap.size)
  generalize hAe : va_A [(h, .inr (20, [.int 0, .ref m1, .int 0, .int 0, .ref m2, .ref m3, .int 0, .int 4, .int (-40), .ref m4, .int 0, .int 20, .int 0, .ref m5, .ref fr, .int 100, .int 60, .int 14, .ref m6, .ref m7, .ref m8])), (m4, .inr (5, [.int 0, .ref e, .int 0]))] s.heap.size = A at hD hE0 ⊢
  have hA : ∀ q : Nat, s.heap.size ≤ q → A q := fun q h => by rw [← hAe]; exact Or.inr h
  have hS : va_S A s.heap s.heap [] := va_S.rf
  have hE := hE0
  have hP : va_P D vwCl [(h, .inr (20, [.int 0, .ref m1, .int 0, .int 0, .ref m2, .ref m3, .int 0, .int 4, .int (-40), .ref m4, .int 0, .int 20, .int 0, .ref m5, .ref fr, .int 100, .int 60, .int 14, .ref m6, .ref m7, .ref m8])), (m4, .inr (5, [.int 0, .ref e, .int 0]))] s.heap := hP
  have hl := lv_entry ([.ref h, .int p0, .int p1, .int p2]) (n := 11) (Nat.le_of_ble_eq_true rfl)
  rw [lg_entry_eq]
  generalize (lg_sl ([.ref h, .int p0, .int p1, .int p2]) ++ List.replicate (11 - (lg_sl ([.ref h, .int p0, .int p1, .int p2])).length) Slot.unset).toArray = ls at hl ⊢
  have hl : lv_has ls 11 [(0, .ref h), (1, .int p0), (2, .int p1), (3, .int p2)] := hl
  refine lv_aload_n hx hb dX14_form_0 rfl (lv_at hl 0 rfl) ?_
  refine lv_aload_n hx hb dX14_form_1 rfl (lv_at hl 0 rfl) ?_
  refine va_get (D := D) (ci := 20) (v := .ref m4) (C := RX14) (T := TX14) (N := 21) hx hb hts iw_RX14_wsX14_form hown hK hP 0 rfl rfl 9 (by decide) (hts (.fieldLink RX14 29 "CoatLineModel" "cells" "Ljava/util/List;") (by decide +kernel)) (fun _ h9 => h9) rfl dX14_form_2 ?_
  refine lv_iload_n hx hb dX14_form_5 rfl (lv_at hl 1 rfl) ?_
  refine vp_callSi (va_Run.run (va_runS (As := [.ref m4, .int p0]) (rest := [.ref h]) ⟨hx, hb, hml, hown, hts⟩ (c_X14_isOf l hst D e m4 0 e p0 s.heap.size) (va_cwS 2 hts gX14_form_X14_isOf rfl rfl rfl (by decide +kernel) ⟨Nat.le_of_ble_eq_true rfl, Nat.le_of_ble_eq_true rfl⟩) ⟨cIn_blind, cIn_go hK hP hD hE hS hA [1] rfl rfl (by decide) [] rfl⟩ rfl rfl hl.1 rfl (lv_room (Nat.le_of_ble_eq_true rfl)) dX14_form_6 ⟨Nat.le_of_ble_eq_true rfl, Nat.le_of_ble_eq_true rfl⟩)) (fun r_1 hw => ?_)
  have hw : r_1 = 0 := hw.trans (by first | rfl | decide +kernel)
  subst hw
  refine lv_if_eq (tgt := 32) hx hb dX14_form_9 (by decide) (fun c_2 => ?_) (fun c_2 => absurd (show (0 : Int32) = 0 from by decide +kernel) c_2)
  refine lv_iconst (v := 1) hx hb dX14_form_32 (by decide) ?_
  refine lv_goto (tgt := 37) hx hb dX14_form_33 (by decide) ?_
  have hFc := va_free (wc := [(h, .inr (20, [.int 0, .ref m1, .int 0, .int 0, .ref m2, .ref m3, .int 0, .int 4, .int (-40), .ref m4, .int 0, .int 20, .int 0, .ref m5, .ref fr, .int 100, .int 60, .int 14, .ref m6, .ref m7, .ref m8]))]) hD hS hA [0] rfl
  refine va_calli (va_runV (As := [.int 1]) (rest := []) ⟨hx, hb, hml, hown, hts⟩ (c_X14_isWrong l hst D e h 0 ([.ref m1, .int 0, .int 0, .ref m2, .ref m3, .int 0, .int 4, .int (-40), .ref m4, .int 0, .int 20, .int 0, .ref m5, .ref fr, .int 100, .int 60, .int 14, .ref m6, .ref m7, .ref m8]) 1 s.heap.size) (cwV 1 hts gX14_form_X14_isWrong rfl rfl rfl (by decide +kernel) ⟨Nat.le_of_ble_eq_true rfl, Nat.le_of_ble_eq_true rfl⟩) ⟨cIn_blind, va_recv hK hP (ci := 20) (q0 := 0) rfl rfl, cIn_go hK hP hD hE hS hA [0] rfl rfl (by decide) [] rfl⟩ rfl rfl hl.1 rfl (lv_room (Nat.le_of_ble_eq_true rfl)) dX14_form_37 ⟨Nat.le_of_ble_eq_true rfl, Nat.le_of_ble_eq_true rfl⟩) hS (fun q _ h => hFc q h) hFc (fun r_3 u t H1 locs ht hvm hw hB hz1 hk1 hS => ?_)
  obtain ⟨hP1, hK1, hD1⟩ := hB
  rw [ht] at hP1
  have hK1 := va_K.moved hvm.symm hK1
  obtain ⟨hP, hD⟩ := va_join (wr := [(m4, .inr (5, [.int 0, .ref e, .int 0]))]) (w1 := [(h, .inr (20, [.int 1, .ref m1, .int 0, .int 0, .ref m2, .ref m3, .int 0, .int 4, .int (-40), .ref m4, .int 0, .int 20, .int 0, .ref m5, .ref fr, .int 100, .int 60, .int 14, .ref m6, .ref m7, .ref m8]))]) hP hD [0] [1] rfl rfl (by decide) (by decide) hk1 hFc hP1 hD1
  generalize H1 = H at hP hS ⊢
  have hP : va_P D vwCl [(m4, .inr (5, [.int 0, .ref e, .int 0])), (h, .inr (20, [.int 1, .ref m1, .int 0, .int 0, .ref m2, .ref m3, .int 0, .int 4, .int (-40), .ref m4, .int 0, .int 20, .int 0, .ref m5, .ref fr, .int 100, .int 60, .int 14, .ref m6, .ref m7, .ref m8]))] H := hP
  have hD : va_D A [(m4, .inr (5, [.int 0, .ref e, .int 0])), (h, .inr (20, [.int 1, .ref m1, .int 0, .int 0, .ref m2, .ref m3, .int 0, .int 4, .int (-40), .ref m4, .int 0, .int 20, .int 0, .ref m5, .ref fr, .int 100, .int 60, .int 14, .ref m6, .ref m7, .ref m8]))] := hD
  have hw : r_3 = 1 := hw.trans (by first | rfl | decide +kernel)
  subst hw
  refine lv_if_eq (tgt := 45) hx hb dX14_form_40 (by decide) (fun c_5 => absurd c_5 (show ¬ ((1 : Int32) = 0) from by decide +kernel)) (fun c_5 => ?_)
  refine lv_iconst (v := 0) hx hb dX14_form_43 (by decide) ?_
  exact W.iret (v := 0) hx hb hr (fun t ht hW => ⟨⟨0, ((1, [.ref m1, .int 0, .int 0, .ref m2, .ref m3, .int 0, .int 4, .int (-40), .ref m4, .int 0, .int 20, .int 0, .ref m5, .ref fr, .int 100, .int 60, .int 14, .ref m6, .ref m7, .ref m8]) : Int32 × List Value), rfl, ⟨rfl, rfl⟩, ⟨by rw [ht]; exact hP.sub [1] rfl, va_K.moved hW.alike (hK.sub [] rfl), hD.sub [1] (by decide) rfl⟩⟩, hS.F ht⟩) hS.2.2 dX14_form_44
-- X14_sort
def v_X14_sort (p0 : Int32) : Int32 := 0
def k_X14_sort (p0 : Int32) : Int32 := 1
set_option maxHeartbeats 4000000 in
set_option maxRecDepth 100000 in
theorem c_X14_sort (l : Launch) (hst : l.stackTraces = false) (D : va_G) (e : Nat) (h : Nat) (m1 : Nat) (m2 : Nat) (m3 : Nat) (m4 : Nat) (m5 : Nat) (m6 : Nat) (m7 : Nat) (m8 : Nat) (fr : Nat) (p0 : Int32) (sz : Nat) : Met l yX14_sort wsX14_sort ({ frames := 16, cells := 0, slots := 0, locals := 340 }) (va_Pc [.ref h, .int p0] (cIn D [] [(h, .inr (20, [.int 0, .ref m1, .int 0, .int 0, .ref m2, .ref m3, .int 0, .int 4, .int (-40), .ref m4, .int 0, .int 20, .int 0, .ref m5, .ref fr, .int 100, .int 60, .int 14, .ref m6, .ref m7, .ref m8])), (m4, .inr (5, [.int 0, .ref e, .int 0]))] e sz)) (va_Qi (fun (r : Int32) (u : Int32 × List Value) => u.1 = k_X14_sort p0 ∧ r = v_X14_sort p0) (fun (u : Int32 × List Value) (t : State) => va_P D vwCl [(h, .inr (20, .int u.1 :: u.2))] t.heap ∧ va_K D vwCl [] t ∧ va_D (va_A [(h, .inr (20, [.int 0, .ref m1, .int 0, .int 0, .ref m2, .ref m3, .int 0, .int 4, .int (-40), .ref m4, .int 0, .int 20, .int 0, .ref m5, .ref fr, .int 100, .int 60, .int 14, .ref m6, .ref m7, .ref m8])), (m4, .inr (5, [.int 0, .ref e, .int 0]))] sz) [(h, .inr (20, .int u.1 :: u.2))]) (va_A [(h, .inr (20, [.int 0, .ref m1, .int 0, .int 0, .ref m2, .ref m3, .int 0, .int 4, .int (-40), .ref m4, .int 0, .int 20, .int 0, .ref m5, .ref fr, .int 100, .int 60, .int 14, .ref m6, .ref m7, .ref m8])), (m4, .inr (5, [.int 0, .ref e, .int 0]))] sz)) 0 0 (va_A [(h, .inr (20, [.int 0, .ref m1, .int 0, .int 0, .ref m2, .ref m3, .int 0, .int 4, .int (-40), .ref m4, .int 0, .int 20, .int 0, .ref m5, .ref fr, .int 100, .int 60, .int 14, .ref m6, .ref m7, .ref m8])), (m4, .inr (5, [.int 0, .ref e, .int 0]))] sz) := by
  refine Met.ofW (cc := cX14_sort) (maxL := 2) (ret := (some .char)) (by decide +kernel) rfl ?_
  intro p e9 s m args below meth c s₁ B hml hv
  obtain ⟨rfl, hsz, hP, hK, hD0, hE0⟩ := hv
  have hx := B.exec
  have hb := B.bytes
  have hr := B.returns
  have hts := atoms_spec (ws := wsX14_sort) B.pre
  have hown : s.vm.findClass RX14 = some m.cls := findClass_of_methodNamed B.named
  have hlocks := B.notSynchronized
  subst hsz
  have hD := hD0.self (sz := s.heap.size)
  generalize hAe : va_A [(h, .inr (20, [.int 0, .ref m1, .int 0, .int 0, .ref m2, .ref m3, .int 0, .int 4, .int (-40), .ref m4, .int 0, .int 20, .int 0, .ref m5, .ref fr, .int 100, .int 60, .int 14, .ref m6, .ref m7, .ref m8])), (m4, .inr (5, [.int 0, .ref e, .int 0]))] s.heap.size = A at hD hE0 ⊢
  have hA : ∀ q : Nat, s.heap.size ≤ q → A q := fun q h => by rw [← hAe]; exact Or.inr h
  have hS : va_S A s.heap s.heap [] := va_S.rf
  have hE := hE0
  have hP : va_P D vwCl [(h, .inr (20, [.int 0, .ref m1, .int 0, .int 0, .ref m2, .ref m3, .int 0, .int 4, .int (-40), .ref m4, .int 0, .int 20, .int 0, .ref m5, .ref fr, .int 100, .int 60, .int 14, .ref m6, .ref m7, .ref m8])), (m4, .inr (5, [.int 0, .ref e, .int 0]))] s.heap := hP
  have hl := lv_entry ([.ref h, .int p0]) (n := 2) (Nat.le_of_ble_eq_true rfl)
  rw [lg_entry_eq]
  generalize (lg_sl ([.ref h, .int p0]) ++ List.replicate (2 - (lg_sl ([.ref h, .int p0])).length) Slot.unset).toArray = ls at hl ⊢
  have hl : lv_has ls 2 [(0, .ref h), (1, .int p0)] := hl
  refine lv_aload_n hx hb dX14_sort_0 rfl (lv_at hl 0 rfl) ?_
  refine lv_aload_n hx hb dX14_sort_1 rfl (lv_at hl 0 rfl) ?_
  refine va_get (D := D) (ci := 20) (v := .ref m4) (C := RX14) (T := TX14) (N := 21) hx hb hts iw_RX14_wsX14_sort hown hK hP 0 rfl rfl 9 (by decide) (hts (.fieldLink RX14 29 "CoatLineModel" "cells" "Ljava/util/List;") (by decide +kernel)) (fun _ h9 => h9) rfl dX14_sort_2 ?_
  refine lv_iload_n hx hb dX14_sort_5 rfl (lv_at hl 1 rfl) ?_
  refine vp_callSi (va_Run.run (va_runS (As := [.ref m4, .int p0]) (rest := [.ref h]) ⟨hx, hb, hml, hown, hts⟩ (c_X14_isOf l hst D e m4 0 e p0 s.heap.size) (va_cwS 2 hts gX14_sort_X14_isOf rfl rfl rfl (by decide +kernel) ⟨Nat.le_of_ble_eq_true rfl, Nat.le_of_ble_eq_true rfl⟩) ⟨cIn_blind, cIn_go hK hP hD hE hS hA [1] rfl rfl (by decide) [] rfl⟩ rfl rfl hl.1 rfl (lv_room (Nat.le_of_ble_eq_true rfl)) dX14_sort_6 ⟨Nat.le_of_ble_eq_true rfl, Nat.le_of_ble_eq_true rfl⟩)) (fun r_1 hw => ?_)
  have hw : r_1 = 0 := hw.trans (by first | rfl | decide +kernel)
  subst hw
  refine lv_if_eq (tgt := 16) hx hb dX14_sort_9 (by decide) (fun c_2 => ?_) (fun c_2 => absurd (show (0 : Int32) = 0 from by decide +kernel) c_2)
  refine lv_iconst (v := 1) hx hb dX14_sort_16 (by decide) ?_
  have hFc := va_free (wc := [(h, .inr (20, [.int 0, .ref m1, .int 0, .int 0, .ref m2, .ref m3, .int 0, .int 4, .int (-40), .ref m4, .int 0, .int 20, .int 0, .ref m5, .ref fr, .int 100, .int 60, .int 14, .ref m6, .ref m7, .ref m8]))]) hD hS hA [0] rfl
  refine va_calli (va_runV (As := [.int 1]) (rest := []) ⟨hx, hb, hml, hown, hts⟩ (c_X14_isWrong l hst D e h 0 ([.ref m1, .int 0, .int 0, .ref m2, .ref m3, .int 0, .int 4, .int (-40), .ref m4, .int 0, .int 20, .int 0, .ref m5, .ref fr, .int 100, .int 60, .int 14, .ref m6, .ref m7, .ref m8]) 1 s.heap.size) (cwV 1 hts gX14_sort_X14_isWrong rfl rfl rfl (by decide +kernel) ⟨Nat.le_of_ble_eq_true rfl, Nat.le_of_ble_eq_true rfl⟩) ⟨cIn_blind, va_recv hK hP (ci := 20) (q0 := 0) rfl rfl, cIn_go hK hP hD hE hS hA [0] rfl rfl (by decide) [] rfl⟩ rfl rfl hl.1 rfl (lv_room (Nat.le_of_ble_eq_true rfl)) dX14_sort_17 ⟨Nat.le_of_ble_eq_true rfl, Nat.le_of_ble_eq_true rfl⟩) hS (fun q _ h => hFc q h) hFc (fun r_3 u t H1 locs ht hvm hw hB hz1 hk1 hS => ?_)
  obtain ⟨hP1, hK1, hD1⟩ := hB
  rw [ht] at hP1
  have hK1 := va_K.moved hvm.symm hK1
  obtain ⟨hP, hD⟩ := va_join (wr := [(m4, .inr (5, [.int 0, .ref e, .int 0]))]) (w1 := [(h, .inr (20, [.int 1, .ref m1, .int 0, .int 0, .ref m2, .ref m3, .int 0, .int 4, .int (-40), .ref m4, .int 0, .int 20, .int 0, .ref m5, .ref fr, .int 100, .int 60, .int 14, .ref m6, .ref m7, .ref m8]))]) hP hD [0] [1] rfl rfl (by decide) (by decide) hk1 hFc hP1 hD1
  generalize H1 = H at hP hS ⊢
  have hP : va_P D vwCl [(m4, .inr (5, [.int 0, .ref e, .int 0])), (h, .inr (20, [.int 1, .ref m1, .int 0, .int 0, .ref m2, .ref m3, .int 0, .int 4, .int (-40), .ref m4, .int 0, .int 20, .int 0, .ref m5, .ref fr, .int 100, .int 60, .int 14, .ref m6, .ref m7, .ref m8]))] H := hP
  have hD : va_D A [(m4, .inr (5, [.int 0, .ref e, .int 0])), (h, .inr (20, [.int 1, .ref m1, .int 0, .int 0, .ref m2, .ref m3, .int 0, .int 4, .int (-40), .ref m4, .int 0, .int 20, .int 0, .ref m5, .ref fr, .int 100, .int 60, .int 14, .ref m6, .ref m7, .ref m8]))] := hD
  have hw : r_3 = 1 := hw.trans (by first | rfl | decide +kernel)
  subst hw
  refine lv_if_eq (tgt := 27) hx hb dX14_sort_20 (by decide) (fun c_5 => absurd c_5 (show ¬ ((1 : Int32) = 0) from by decide +kernel)) (fun c_5 => ?_)
  refine lv_iconst (v := 0) hx hb dX14_sort_23 (by decide) ?_
  refine lv_goto (tgt := 44) hx hb dX14_sort_24 (by decide) ?_
  exact W.zret (v := 0) hx hb hr (by first | rfl | decide +kernel) (fun t ht hW => ⟨⟨0, ((1, [.ref m1, .int 0, .int 0, .ref m2, .ref m3, .int 0, .int 4, .int (-40), .ref m4, .int 0, .int 20, .int 0, .ref m5, .ref fr, .int 100, .int 60, .int 14, .ref m6, .ref m7, .ref m8]) : Int32 × List Value), rfl, ⟨rfl, rfl⟩, ⟨by rw [ht]; exact hP.sub [1] rfl, va_K.moved hW.alike (hK.sub [] rfl), hD.sub [1] (by decide) rfl⟩⟩, hS.F ht⟩) hS.2.2 dX14_sort_44
-- X14_cellOf
def v_X14_cellOf (p0 : Int32) (p1 : Int32) : Int32 := 0
def k_X14_cellOf (p0 : Int32) (p1 : Int32) : Int32 := 1
set_option maxHeartbeats 4000000 in
set_option maxRecDepth 100000 in
theorem c_X14_cellOf (l : Launch) (hst : l.stackTraces = false) (D : va_G) (e : Nat) (h : Nat) (m1 : Nat) (m2 : Nat) (m3 : Nat) (m4 : Nat) (m5 : Nat) (m6 : Nat) (m7 : Nat) (m8 : Nat) (fr : Nat) (p0 : Int32) (p1 : Int32) (sz : Nat) : Met l yX14_cellOf wsX14_cellOf ({ frames := 16, cells := 0, slots := 0, locals := 340 }) (va_Pc [.ref h, .int p0, .int p1] (cIn D [] [(h, .inr (20, [.int 0, .ref m1, .int 0, .int 0, .ref m2, .ref m3, .int 0, .int 4, .int (-40), .ref m4, .int 0, .int 20, .int 0, .ref m5, .ref fr, .int 100, .int 60, .int 14, .ref m6, .ref m7, .ref m8])), (m6, .inr (5, [.int 0, .ref e, .int 0]))] e sz)) (va_Qi (fun (r : Int32) (u : Int32 × List Value) => u.1 = k_X14_cellOf p0 p1 ∧ r = v_X14_cellOf p0 p1) (fun (u : Int32 × List Value) (t : State) => va_P D vwCl [(h, .inr (20, .int u.1 :: u.2))] t.heap ∧ va_K D vwCl [] t ∧ va_D (va_A [(h, .inr (20, [.int 0, .ref m1, .int 0, .int 0, .ref m2, .ref m3, .int 0, .int 4, .int (-40), .ref m4, .int 0, .int 20, .int 0, .ref m5, .ref fr, .int 100, .int 60, .int 14, .ref m6, .ref m7, .ref m8])), (m6, .inr (5, [.int 0, .ref e, .int 0]))] sz) [(h, .inr (20, .int u.1 :: u.2))]) (va_A [(h, .inr (20, [.int 0, .ref m1, .int 0, .int 0, .ref m2, .ref m3, .int 0, .int 4, .int (-40), .ref m4, .int 0, .int 20, .int 0, .ref m5, .ref fr, .int 100, .int 60, .int 14, .ref m6, .ref m7, .ref m8])), (m6, .inr (5, [.int 0, .ref e, .int 0]))] sz)) 0 0 (va_A [(h, .inr (20, [.int 0, .ref m1, .int 0, .int 0, .ref m2, .ref m3, .int 0, .int 4, .int (-40), .ref m4, .int 0, .int 20, .int 0, .ref m5, .ref fr, .int 100, .int 60, .int 14, .ref m6, .ref m7, .ref m8])), (m6, .inr (5, [.int 0, .ref e, .int 0]))] sz) := by
  refine Met.ofW (cc := cX14_cellOf) (maxL := 3) (ret := (some .int)) (by decide +kernel) rfl ?_
  intro p e9 s m args below meth c s₁ B hml hv
  obtain ⟨rfl, hsz, hP, hK, hD0, hE0⟩ := hv
  have hx := B.exec
  have hb := B.bytes
  have hr := B.returns
  have hts := atoms_spec (ws := wsX14_cellOf) B.pre
  have hown : s.vm.findClass RX14 = some m.cls := findClass_of_methodNamed B.named
  have hlocks := B.notSynchronized
  subst hsz
  have hD := hD0.self (sz := s.heap.size)
  generalize hAe : va_A [(h, .inr (20, [.int 0, .ref m1, .int 0, .int 0, .ref m2, .ref m3, .int 0, .int 4, .int (-40), .ref m4, .int 0, .int 20, .int 0, .ref m5, .ref fr, .int 100, .int 60, .int 14, .ref m6, .ref m7, .ref m8])), (m6, .inr (5, [.int 0, .ref e, .int 0]))] s.heap.size = A at hD hE0 ⊢
  have hA : ∀ q : Nat, s.heap.size ≤ q → A q := fun q h => by rw [← hAe]; exact Or.inr h
  have hS : va_S A s.heap s.heap [] := va_S.rf
  have hE := hE0
  have hP : va_P D vwCl [(h, .inr (20, [.int 0, .ref m1, .int 0, .int 0, .ref m2, .ref m3, .int 0, .int 4, .int (-40), .ref m4, .int 0, .int 20, .int 0, .ref m5, .ref fr, .int 100, .int 60, .int 14, .ref m6, .ref m7, .ref m8])), (m6, .inr (5, [.int 0, .ref e, .int 0]))] s.heap := hP
  have hl := lv_entry ([.ref h, .int p0, .int p1]) (n := 3) (Nat.le_of_ble_eq_true rfl)
  rw [lg_entry_eq]
  generalize (lg_sl ([.ref h, .int p0, .int p1]) ++ List.replicate (3 - (lg_sl ([.ref h, .int p0, .int p1])).length) Slot.unset).toArray = ls at hl ⊢
  have hl : lv_has ls 3 [(0, .ref h), (1, .int p0), (2, .int p1)] := hl
  refine lv_aload_n hx hb dX14_cellOf_0 rfl (lv_at hl 0 rfl) ?_
  refine lv_aload_n hx hb dX14_cellOf_1 rfl (lv_at hl 0 rfl) ?_
  refine va_get (D := D) (ci := 20) (v := .ref m6) (C := RX14) (T := TX14) (N := 21) hx hb hts iw_RX14_wsX14_cellOf hown hK hP 0 rfl rfl 18 (by decide) (hts (.fieldLink RX14 51 "CoatLineModel" "modules" "Ljava/util/List;") (by decide +kernel)) (fun _ h9 => h9) rfl dX14_cellOf_2 ?_
  refine lv_iload_n hx hb dX14_cellOf_5 rfl (lv_at hl 1 rfl) ?_
  refine vp_callSi (va_Run.run (va_runS (As := [.ref m6, .int p0]) (rest := [.ref h]) ⟨hx, hb, hml, hown, hts⟩ (c_X14_isOf l hst D e m6 0 e p0 s.heap.size) (va_cwS 2 hts gX14_cellOf_X14_isOf rfl rfl rfl (by decide +kernel) ⟨Nat.le_of_ble_eq_true rfl, Nat.le_of_ble_eq_true rfl⟩) ⟨cIn_blind, cIn_go hK hP hD hE hS hA [1] rfl rfl (by decide) [] rfl⟩ rfl rfl hl.1 rfl (lv_room (Nat.le_of_ble_eq_true rfl)) dX14_cellOf_6 ⟨Nat.le_of_ble_eq_true rfl, Nat.le_of_ble_eq_true rfl⟩)) (fun r_1 hw => ?_)
  have hw : r_1 = 0 := hw.trans (by first | rfl | decide +kernel)
  subst hw
  refine lv_if_eq (tgt := 16) hx hb dX14_cellOf_9 (by decide) (fun c_2 => ?_) (fun c_2 => absurd (show (0 : Int32) = 0 from by decide +kernel) c_2)
  refine lv_iconst (v := 1) hx hb dX14_cellOf_16 (by decide) ?_
  have hFc := va_free (wc := [(h, .inr (20, [.int 0, .ref m1, .int 0, .int 0, .ref m2, .ref m3, .int 0, .int 4, .int (-40), .ref m4, .int 0, .int 20, .int 0, .ref m5, .ref fr, .int 100, .int 60, .int 14, .ref m6, .ref m7, .ref m8]))]) hD hS hA [0] rfl
  refine va_calli (va_runV (As := [.int 1]) (rest := []) ⟨hx, hb, hml, hown, hts⟩ (c_X14_isWrong l hst D e h 0 ([.ref m1, .int 0, .int 0, .ref m2, .ref m3, .int 0, .int 4, .int (-40), .ref m4, .int 0, .int 20, .int 0, .ref m5, .ref fr, .int 100, .int 60, .int 14, .ref m6, .ref m7, .ref m8]) 1 s.heap.size) (cwV 1 hts gX14_cellOf_X14_isWrong rfl rfl rfl (by decide +kernel) ⟨Nat.le_of_ble_eq_true rfl, Nat.le_of_ble_eq_true rfl⟩) ⟨cIn_blind, va_recv hK hP (ci := 20) (q0 := 0) rfl rfl, cIn_go hK hP hD hE hS hA [0] rfl rfl (by decide) [] rfl⟩ rfl rfl hl.1 rfl (lv_room (Nat.le_of_ble_eq_true rfl)) dX14_cellOf_17 ⟨Nat.le_of_ble_eq_true rfl, Nat.le_of_ble_eq_true rfl⟩) hS (fun q _ h => hFc q h) hFc (fun r_3 u t H1 locs ht hvm hw hB hz1 hk1 hS => ?_)
  obtain ⟨hP1, hK1, hD1⟩ := hB
  rw [ht] at hP1
  have hK1 := va_K.moved hvm.symm hK1
  obtain ⟨hP, hD⟩ := va_join (wr := [(m6, .inr (5, [.int 0, .ref e, .int 0]))]) (w1 := [(h, .inr (20, [.int 1, .ref m1, .int 0, .int 0, .ref m2, .ref m3, .int 0, .int 4, .int (-40), .ref m4, .int 0, .int 20, .int 0, .ref m5, .ref fr, .int 100, .int 60, .int 14, .ref m6, .ref m7, .ref m8]))]) hP hD [0] [1] rfl rfl (by decide) (by decide) hk1 hFc hP1 hD1
  generalize H1 = H at hP hS ⊢
  have hP : va_P D vwCl [(m6, .inr (5, [.int 0, .ref e, .int 0])), (h, .inr (20, [.int 1, .ref m1, .int 0, .int 0, .ref m2, .ref m3, .int 0, .int 4, .int (-40), .ref m4, .int 0, .int 20, .int 0, .ref m5, .ref fr, .int 100, .int 60, .int 14, .ref m6, .ref m7, .ref m8]))] H := hP
  have hD : va_D A [(m6, .inr (5, [.int 0, .ref e, .int 0])), (h, .inr (20, [.int 1, .ref m1, .int 0, .int 0, .ref m2, .ref m3, .int 0, .int 4, .int (-40), .ref m4, .int 0, .int 20, .int 0, .ref m5, .ref fr, .int 100, .int 60, .int 14, .ref m6, .ref m7, .ref m8]))] := hD
  have hw : r_3 = 1 := hw.trans (by first | rfl | decide +kernel)
  subst hw
  refine lv_if_eq (tgt := 25) hx hb dX14_cellOf_20 (by decide) (fun c_5 => absurd c_5 (show ¬ ((1 : Int32) = 0) from by decide +kernel)) (fun c_5 => ?_)
  refine lv_iconst (v := 0) hx hb dX14_cellOf_23 (by decide) ?_
  exact W.iret (v := 0) hx hb hr (fun t ht hW => ⟨⟨0, ((1, [.ref m1, .int 0, .int 0, .ref m2, .ref m3, .int 0, .int 4, .int (-40), .ref m4, .int 0, .int 20, .int 0, .ref m5, .ref fr, .int 100, .int 60, .int 14, .ref m6, .ref m7, .ref m8]) : Int32 × List Value), rfl, ⟨rfl, rfl⟩, ⟨by rw [ht]; exact hP.sub [1] rfl, va_K.moved hW.alike (hK.sub [] rfl), hD.sub [1] (by decide) rfl⟩⟩, hS.F ht⟩) hS.2.2 dX14_cellOf_24
-- X14_spread
def v_X14_spread (p0 : Int32) : Int32 := 0
def k_X14_spread (p0 : Int32) : Int32 := 1
set_option maxHeartbeats 4000000 in
set_option maxRecDepth 100000 in
theorem c_X14_spread (l : Launch) (hst : l.stackTraces = false) (D : va_G) (e : Nat) (h : Nat) (m1 : Nat) (m2 : Nat) (m3 : Nat) (m4 : Nat) (m5 : Nat) (m6 : Nat) (m7 : Nat) (m8 : Nat) (fr : Nat) (p0 : Int32) (sz : Nat) : Met l yX14_spread wsX14_spread ({ frames := 16, cells := 0, slots := 0, locals := 340 }) (va_Pc [.ref h, .int p0] (cIn D [] [(h, .inr (20, [.int 0, .ref m1, .int 0, .int 0, .ref m2, .ref m3, .int 0, .int 4, .int (-40), .ref m4, .int 0, .int 20, .int 0, .ref m5, .ref fr, .int 100, .int 60, .int 14, .ref m6, .ref m7, .ref m8])), (m6, .inr (5, [.int 0, .ref e, .int 0]))] e sz)) (va_Qi (fun (r : Int32) (u : Int32 × List Value) => u.1 = k_X14_spread p0 ∧ r = v_X14_spread p0) (fun (u : Int32 × List Value) (t : State) => va_P D vwCl [(h, .inr (20, .int u.1 :: u.2))] t.heap ∧ va_K D vwCl [] t ∧ va_D (va_A [(h, .inr (20, [.int 0, .ref m1, .int 0, .int 0, .ref m2, .ref m3, .int 0, .int 4, .int (-40), .ref m4, .int 0, .int 20, .int 0, .ref m5, .ref fr, .int 100, .int 60, .int 14, .ref m6, .ref m7, .ref m8])), (m6, .inr (5, [.int 0, .ref e, .int 0]))] sz) [(h, .inr (20, .int u.1 :: u.2))]) (va_A [(h, .inr (20, [.int 0, .ref m1, .int 0, .int 0, .ref m2, .ref m3, .int 0, .int 4, .int (-40), .ref m4, .int 0, .int 20, .int 0, .ref m5, .ref fr, .int 100, .int 60, .int 14, .ref m6, .ref m7, .ref m8])), (m6, .inr (5, [.int 0, .ref e, .int 0]))] sz)) 0 0 (va_A [(h, .inr (20, [.int 0, .ref m1, .int 0, .int 0, .ref m2, .ref m3, .int 0, .int 4, .int (-40), .ref m4, .int 0, .int 20, .int 0, .ref m5, .ref fr, .int 100, .int 60, .int 14, .ref m6, .ref m7, .ref m8])), (m6, .inr (5, [.int 0, .ref e, .int 0]))] sz) := by
  refine Met.ofW (cc := cX14_spread) (maxL := 4) (ret := (some .int)) (by decide +kernel) rfl ?_
  intro p e9 s m args below meth c s₁ B hml hv
  obtain ⟨rfl, hsz, hP, hK, hD0, hE0⟩ := hv
  have hx := B.exec
  have hb := B.bytes
  have hr := B.returns
  have hts := atoms_spec (ws := wsX14_spread) B.pre
  have hown : s.vm.findClass RX14 = some m.cls := findClass_of_methodNamed B.named
  have hlocks := B.notSynchronized
  subst hsz
  have hD := hD0.self (sz := s.heap.size)
  generalize hAe : va_A [(h, .inr (20, [.int 0, .ref m1, .int 0, .int 0, .ref m2, .ref m3, .int 0, .int 4, .int (-40), .ref m4, .int 0, .int 20, .int 0, .ref m5, .ref fr, .int 100, .int 60, .int 14, .ref m6, .ref m7, .ref m8])), (m6, .inr (5, [.int 0, .ref e, .int 0]))] s.heap.size = A at hD hE0 ⊢
  have hA : ∀ q : Nat, s.heap.size ≤ q → A q := fun q h => by rw [← hAe]; exact Or.inr h
  have hS : va_S A s.heap s.heap [] := va_S.rf
  have hE := hE0
  have hP : va_P D vwCl [(h, .inr (20, [.int 0, .ref m1, .int 0, .int 0, .ref m2, .ref m3, .int 0, .int 4, .int (-40), .ref m4, .int 0, .int 20, .int 0, .ref m5, .ref fr, .int 100, .int 60, .int 14, .ref m6, .ref m7, .ref m8])), (m6, .inr (5, [.int 0, .ref e, .int 0]))] s.heap := hP
  have hl := lv_entry ([.ref h, .int p0]) (n := 4) (Nat.le_of_ble_eq_true rfl)
  rw [lg_entry_eq]
  generalize (lg_sl ([.ref h, .int p0]) ++ List.replicate (4 - (lg_sl ([.ref h, .int p0])).length) Slot.unset).toArray = ls at hl ⊢
  have hl : lv_has ls 4 [(0, .ref h), (1, .int p0)] := hl
  refine lv_aload_n hx hb dX14_spread_0 rfl (lv_at hl 0 rfl) ?_
  refine lv_aload_n hx hb dX14_spread_1 rfl (lv_at hl 0 rfl) ?_
  refine va_get (D := D) (ci := 20) (v := .ref m6) (C := RX14) (T := TX14) (N := 21) hx hb hts iw_RX14_wsX14_spread hown hK hP 0 rfl rfl 18 (by decide) (hts (.fieldLink RX14 51 "CoatLineModel" "modules" "Ljava/util/List;") (by decide +kernel)) (fun _ h9 => h9) rfl dX14_spread_2 ?_
  refine lv_iload_n hx hb dX14_spread_5 rfl (lv_at hl 1 rfl) ?_
  refine vp_callSi (va_Run.run (va_runS (As := [.ref m6, .int p0]) (rest := [.ref h]) ⟨hx, hb, hml, hown, hts⟩ (c_X14_isOf l hst D e m6 0 e p0 s.heap.size) (va_cwS 2 hts gX14_spread_X14_isOf rfl rfl rfl (by decide +kernel) ⟨Nat.le_of_ble_eq_true rfl, Nat.le_of_ble_eq_true rfl⟩) ⟨cIn_blind, cIn_go hK hP hD hE hS hA [1] rfl rfl (by decide) [] rfl⟩ rfl rfl hl.1 rfl (lv_room (Nat.le_of_ble_eq_true rfl)) dX14_spread_6 ⟨Nat.le_of_ble_eq_true rfl, Nat.le_of_ble_eq_true rfl⟩)) (fun r_1 hw => ?_)
  have hw : r_1 = 0 := hw.trans (by first | rfl | decide +kernel)
  subst hw
  refine lv_if_eq (tgt := 16) hx hb dX14_spread_9 (by decide) (fun c_2 => ?_) (fun c_2 => absurd (show (0 : Int32) = 0 from by decide +kernel) c_2)
  refine lv_iconst (v := 1) hx hb dX14_spread_16 (by decide) ?_
  have hFc := va_free (wc := [(h, .inr (20, [.int 0, .ref m1, .int 0, .int 0, .ref m2, .ref m3, .int 0, .int 4, .int (-40), .ref m4, .int 0, .int 20, .int 0, .ref m5, .ref fr, .int 100, .int 60, .int 14, .ref m6, .ref m7, .ref m8]))]) hD hS hA [0] rfl
  refine va_calli (va_runV (As := [.int 1]) (rest := []) ⟨hx, hb, hml, hown, hts⟩ (c_X14_isWrong l hst D e h 0 ([.ref m1, .int 0, .int 0, .ref m2, .ref m3, .int 0, .int 4, .int (-40), .ref m4, .int 0, .int 20, .int 0, .ref m5, .ref fr, .int 100, .int 60, .int 14, .ref m6, .ref m7, .ref m8]) 1 s.heap.size) (cwV 1 hts gX14_spread_X14_isWrong rfl rfl rfl (by decide +kernel) ⟨Nat.le_of_ble_eq_true rfl, Nat.le_of_ble_eq_true rfl⟩) ⟨cIn_blind, va_recv hK hP (ci := 20) (q0 := 0) rfl rfl, cIn_go hK hP hD hE hS hA [0] rfl rfl (by decide) [] rfl⟩ rfl rfl hl.1 rfl (lv_room (Nat.le_of_ble_eq_true rfl)) dX14_spread_17 ⟨Nat.le_of_ble_eq_true rfl, Nat.le_of_ble_eq_true rfl⟩) hS (fun q _ h => hFc q h) hFc (fun r_3 u t H1 locs ht hvm hw hB hz1 hk1 hS => ?_)
  obtain ⟨hP1, hK1, hD1⟩ := hB
  rw [ht] at hP1
  have hK1 := va_K.moved hvm.symm hK1
  obtain ⟨hP, hD⟩ := va_join (wr := [(m6, .inr (5, [.int 0, .ref e, .int 0]))]) (w1 := [(h, .inr (20, [.int 1, .ref m1, .int 0, .int 0, .ref m2, .ref m3, .int 0, .int 4, .int (-40), .ref m4, .int 0, .int 20, .int 0, .ref m5, .ref fr, .int 100, .int 60, .int 14, .ref m6, .ref m7, .ref m8]))]) hP hD [0] [1] rfl rfl (by decide) (by decide) hk1 hFc hP1 hD1
  generalize H1 = H at hP hS ⊢
  have hP : va_P D vwCl [(m6, .inr (5, [.int 0, .ref e, .int 0])), (h, .inr (20, [.int 1, .ref m1, .int 0, .int 0, .ref m2, .ref m3, .int 0, .int 4, .int (-40), .ref m4, .int 0, .int 20, .int 0, .ref m5, .ref fr, .int 100, .int 60, .int 14, .ref m6, .ref m7, .ref m8]))] H := hP
  have hD : va_D A [(m6, .inr (5, [.int 0, .ref e, .int 0])), (h, .inr (20, [.int 1, .ref m1, .int 0, .int 0, .ref m2, .ref m3, .int 0, .int 4, .int (-40), .ref m4, .int 0, .int 20, .int 0, .ref m5, .ref fr, .int 100, .int 60, .int 14, .ref m6, .ref m7, .ref m8]))] := hD
  have hw : r_3 = 1 := hw.trans (by first | rfl | decide +kernel)
  subst hw
  refine lv_if_eq (tgt := 25) hx hb dX14_spread_20 (by decide) (fun c_5 => absurd c_5 (show ¬ ((1 : Int32) = 0) from by decide +kernel)) (fun c_5 => ?_)
  refine lv_iconst (v := 0) hx hb dX14_spread_23 (by decide) ?_
  exact W.iret (v := 0) hx hb hr (fun t ht hW => ⟨⟨0, ((1, [.ref m1, .int 0, .int 0, .ref m2, .ref m3, .int 0, .int 4, .int (-40), .ref m4, .int 0, .int 20, .int 0, .ref m5, .ref fr, .int 100, .int 60, .int 14, .ref m6, .ref m7, .ref m8]) : Int32 × List Value), rfl, ⟨rfl, rfl⟩, ⟨by rw [ht]; exact hP.sub [1] rfl, va_K.moved hW.alike (hK.sub [] rfl), hD.sub [1] (by decide) rfl⟩⟩, hS.F ht⟩) hS.2.2 dX14_spread_24
-- X14_pack
def v_X14_pack (p0 : Int32) (p1 : Int32) : Int32 := 0
def k_X14_pack (p0 : Int32) (p1 : Int32) : Int32 := 1
set_option maxHeartbeats 4000000 in
set_option maxRecDepth 100000 in
theorem c_X14_pack (l : Launch) (hst : l.stackTraces = false) (D : va_G) (e : Nat) (h : Nat) (m1 : Nat) (m2 : Nat) (m3 : Nat) (m4 : Nat) (m5 : Nat) (m6 : Nat) (m7 : Nat) (m8 : Nat) (fr : Nat) (p0 : Int32) (p1 : Int32) (sz : Nat) : Met l yX14_pack wsX14_pack ({ frames := 16, cells := 0, slots := 0, locals := 340 }) (va_Pc [.ref h, .int p0, .int p1] (cIn D [] [(h, .inr (20, [.int 0, .ref m1, .int 0, .int 0, .ref m2, .ref m3, .int 0, .int 4, .int (-40), .ref m4, .int 0, .int 20, .int 0, .ref m5, .ref fr, .int 100, .int 60, .int 14, .ref m6, .ref m7, .ref m8])), (m6, .inr (5, [.int 0, .ref e, .int 0]))] e sz)) (va_Qi (fun (r : Int32) (u : Int32 × List Value) => u.1 = k_X14_pack p0 p1 ∧ r = v_X14_pack p0 p1) (fun (u : Int32 × List Value) (t : State) => va_P D vwCl [(h, .inr (20, .int u.1 :: u.2))] t.heap ∧ va_K D vwCl [] t ∧ va_D (va_A [(h, .inr (20, [.int 0, .ref m1, .int 0, .int 0, .ref m2, .ref m3, .int 0, .int 4, .int (-40), .ref m4, .int 0, .int 20, .int 0, .ref m5, .ref fr, .int 100, .int 60, .int 14, .ref m6, .ref m7, .ref m8])), (m6, .inr (5, [.int 0, .ref e, .int 0]))] sz) [(h, .inr (20, .int u.1 :: u.2))]) (va_A [(h, .inr (20, [.int 0, .ref m1, .int 0, .int 0, .ref m2, .ref m3, .int 0, .int 4, .int (-40), .ref m4, .int 0, .int 20, .int 0, .ref m5, .ref fr, .int 100, .int 60, .int 14, .ref m6, .ref m7, .ref m8])), (m6, .inr (5, [.int 0, .ref e, .int 0]))] sz)) 0 0 (va_A [(h, .inr (20, [.int 0, .ref m1, .int 0, .int 0, .ref m2, .ref m3, .int 0, .int 4, .int (-40), .ref m4, .int 0, .int 20, .int 0, .ref m5, .ref fr, .int 100, .int 60, .int 14, .ref m6, .ref m7, .ref m8])), (m6, .inr (5, [.int 0, .ref e, .int 0]))] sz) := by
  refine Met.ofW (cc := cX14_pack) (maxL := 4) (ret := (some .int)) (by decide +kernel) rfl ?_
  intro p e9 s m args below meth c s₁ B hml hv
  obtain ⟨rfl, hsz, hP, hK, hD0, hE0⟩ := hv
  have hx := B.exec
  have hb := B.bytes
  have hr := B.returns
  have hts := atoms_spec (ws := wsX14_pack) B.pre
  have hown : s.vm.findClass RX14 = some m.cls := findClass_of_methodNamed B.named
  have hlocks := B.notSynchronized
  subst hsz
  have hD := hD0.self (sz := s.heap.size)
  generalize hAe : va_A [(h, .inr (20, [.int 0, .ref m1, .int 0, .int 0, .ref m2, .ref m3, .int 0, .int 4, .int (-40), .ref m4, .int 0, .int 20, .int 0, .ref m5, .ref fr, .int 100, .int 60, .int 14, .ref m6, .ref m7, .ref m8])), (m6, .inr (5, [.int 0, .ref e, .int 0]))] s.heap.size = A at hD hE0 ⊢
  have hA : ∀ q : Nat, s.heap.size ≤ q → A q := fun q h => by rw [← hAe]; exact Or.inr h
  have hS : va_S A s.heap s.heap [] := va_S.rf
  have hE := hE0
  have hP : va_P D vwCl [(h, .inr (20, [.int 0, .ref m1, .int 0, .int 0, .ref m2, .ref m3, .int 0, .int 4, .int (-40), .ref m4, .int 0, .int 20, .int 0, .ref m5, .ref fr, .int 100, .int 60, .int 14, .ref m6, .ref m7, .ref m8])), (m6, .inr (5, [.int 0, .ref e, .int 0]))] s.heap := hP
  have hl := lv_entry ([.ref h, .int p0, .int p1]) (n := 4) (Nat.le_of_ble_eq_true rfl)
  rw [lg_entry_eq]
  generalize (lg_sl ([.ref h, .int p0, .int p1]) ++ List.replicate (4 - (lg_sl ([.ref h, .int p0, .int p1])).length) Slot.unset).toArray = ls at hl ⊢
  have hl : lv_has ls 4 [(0, .ref h), (1, .int p0), (2, .int p1)] := hl
  refine lv_aload_n hx hb dX14_pack_0 rfl (lv_at hl 0 rfl) ?_
  refine lv_aload_n hx hb dX14_pack_1 rfl (lv_at hl 0 rfl) ?_
  refine va_get (D := D) (ci := 20) (v := .ref m6) (C := RX14) (T := TX14) (N := 21) hx hb hts iw_RX14_wsX14_pack hown hK hP 0 rfl rfl 18 (by decide) (hts (.fieldLink RX14 51 "CoatLineModel" "modules" "Ljava/util/List;") (by decide +kernel)) (fun _ h9 => h9) rfl dX14_pack_2 ?_
  refine lv_iload_n hx hb dX14_pack_5 rfl (lv_at hl 1 rfl) ?_
  refine vp_callSi (va_Run.run (va_runS (As := [.ref m6, .int p0]) (rest := [.ref h]) ⟨hx, hb, hml, hown, hts⟩ (c_X14_isOf l hst D e m6 0 e p0 s.heap.size) (va_cwS 2 hts gX14_pack_X14_isOf rfl rfl rfl (by decide +kernel) ⟨Nat.le_of_ble_eq_true rfl, Nat.le_of_ble_eq_true rfl⟩) ⟨cIn_blind, cIn_go hK hP hD hE hS hA [1] rfl rfl (by decide) [] rfl⟩ rfl rfl hl.1 rfl (lv_room (Nat.le_of_ble_eq_true rfl)) dX14_pack_6 ⟨Nat.le_of_ble_eq_true rfl, Nat.le_of_ble_eq_true rfl⟩)) (fun r_1 hw => ?_)
  have hw : r_1 = 0 := hw.trans (by first | rfl | decide +kernel)
  subst hw
  refine lv_if_eq (tgt := 28) hx hb dX14_pack_9 (by decide) (fun c_2 => ?_) (fun c_2 => absurd (show (0 : Int32) = 0 from by decide +kernel) c_2)
  refine lv_iconst (v := 1) hx hb dX14_pack_28 (by decide) ?_
  refine lv_goto (tgt := 42) hx hb dX14_pack_29 (by decide) ?_
  have hFc := va_free (wc := [(h, .inr (20, [.int 0, .ref m1, .int 0, .int 0, .ref m2, .ref m3, .int 0, .int 4, .int (-40), .ref m4, .int 0, .int 20, .int 0, .ref m5, .ref fr, .int 100, .int 60, .int 14, .ref m6, .ref m7, .ref m8]))]) hD hS hA [0] rfl
  refine va_calli (va_runV (As := [.int 1]) (rest := []) ⟨hx, hb, hml, hown, hts⟩ (c_X14_isWrong l hst D e h 0 ([.ref m1, .int 0, .int 0, .ref m2, .ref m3, .int 0, .int 4, .int (-40), .ref m4, .int 0, .int 20, .int 0, .ref m5, .ref fr, .int 100, .int 60, .int 14, .ref m6, .ref m7, .ref m8]) 1 s.heap.size) (cwV 1 hts gX14_pack_X14_isWrong rfl rfl rfl (by decide +kernel) ⟨Nat.le_of_ble_eq_true rfl, Nat.le_of_ble_eq_true rfl⟩) ⟨cIn_blind, va_recv hK hP (ci := 20) (q0 := 0) rfl rfl, cIn_go hK hP hD hE hS hA [0] rfl rfl (by decide) [] rfl⟩ rfl rfl hl.1 rfl (lv_room (Nat.le_of_ble_eq_true rfl)) dX14_pack_42 ⟨Nat.le_of_ble_eq_true rfl, Nat.le_of_ble_eq_true rfl⟩) hS (fun q _ h => hFc q h) hFc (fun r_3 u t H1 locs ht hvm hw hB hz1 hk1 hS => ?_)
  obtain ⟨hP1, hK1, hD1⟩ := hB
  rw [ht] at hP1
  have hK1 := va_K.moved hvm.symm hK1
  obtain ⟨hP, hD⟩ := va_join (wr := [(m6, .inr (5, [.int 0, .ref e, .int 0]))]) (w1 := [(h, .inr (20, [.int 1, .ref m1, .int 0, .int 0, .ref m2, .ref m3, .int 0, .int 4, .int (-40), .ref m4, .int 0, .int 20, .int 0, .ref m5, .ref fr, .int 100, .int 60, .int 14, .ref m6, .ref m7, .ref m8]))]) hP hD [0] [1] rfl rfl (by decide) (by decide) hk1 hFc hP1 hD1
  generalize H1 = H at hP hS ⊢
  have hP : va_P D vwCl [(m6, .inr (5, [.int 0, .ref e, .int 0])), (h, .inr (20, [.int 1, .ref m1, .int 0, .int 0, .ref m2, .ref m3, .int 0, .int 4, .int (-40), .ref m4, .int 0, .int 20, .int 0, .ref m5, .ref fr, .int 100, .int 60, .int 14, .ref m6, .ref m7, .ref m8]))] H := hP
  have hD : va_D A [(m6, .inr (5, [.int 0, .ref e, .int 0])), (h, .inr (20, [.int 1, .ref m1, .int 0, .int 0, .ref m2, .ref m3, .int 0, .int 4, .int (-40), .ref m4, .int 0, .int 20, .int 0, .ref m5, .ref fr, .int 100, .int 60, .int 14, .ref m6, .ref m7, .ref m8]))] := hD
  have hw : r_3 = 1 := hw.trans (by first | rfl | decide +kernel)
  subst hw
  refine lv_if_eq (tgt := 50) hx hb dX14_pack_45 (by decide) (fun c_5 => absurd c_5 (show ¬ ((1 : Int32) = 0) from by decide +kernel)) (fun c_5 => ?_)
  refine lv_iconst (v := 0) hx hb dX14_pack_48 (by decide) ?_
  exact W.iret (v := 0) hx hb hr (fun t ht hW => ⟨⟨0, ((1, [.ref m1, .int 0, .int 0, .ref m2, .ref m3, .int 0, .int 4, .int (-40), .ref m4, .int 0, .int 20, .int 0, .ref m5, .ref fr, .int 100, .int 60, .int 14, .ref m6, .ref m7, .ref m8]) : Int32 × List Value), rfl, ⟨rfl, rfl⟩, ⟨by rw [ht]; exact hP.sub [1] rfl, va_K.moved hW.alike (hK.sub [] rfl), hD.sub [1] (by decide) rfl⟩⟩, hS.F ht⟩) hS.2.2 dX14_pack_49
-- X14_offset
def v_X14_offset (p0 : Int32) (p1 : Int32) : Int32 := 0
def k_X14_offset (p0 : Int32) (p1 : Int32) : Int32 := 1
set_option maxHeartbeats 4000000 in
set_option maxRecDepth 100000 in
theorem c_X14_offset (l : Launch) (hst : l.stackTraces = false) (D : va_G) (e : Nat) (h : Nat) (m1 : Nat) (m2 : Nat) (m3 : Nat) (m4 : Nat) (m5 : Nat) (m6 : Nat) (m7 : Nat) (m8 : Nat) (fr : Nat) (p0 : Int32) (p1 : Int32) (sz : Nat) : Met l yX14_offset wsX14_offset ({ frames := 16, cells := 0, slots := 0, locals := 340 }) (va_Pc [.ref h, .int p0, .int p1] (cIn D [] [(h, .inr (20, [.int 0, .ref m1, .int 0, .int 0, .ref m2, .ref m3, .int 0, .int 4, .int (-40), .ref m4, .int 0, .int 20, .int 0, .ref m5, .ref fr, .int 100, .int 60, .int 14, .ref m6, .ref m7, .ref m8])), (m7, .inr (5, [.int 0, .ref e, .int 0]))] e sz)) (va_Qi (fun (r : Int32) (u : Int32 × List Value) => u.1 = k_X14_offset p0 p1 ∧ r = v_X14_offset p0 p1) (fun (u : Int32 × List Value) (t : State) => va_P D vwCl [(h, .inr (20, .int u.1 :: u.2))] t.heap ∧ va_K D vwCl [] t ∧ va_D (va_A [(h, .inr (20, [.int 0, .ref m1, .int 0, .int 0, .ref m2, .ref m3, .int 0, .int 4, .int (-40), .ref m4, .int 0, .int 20, .int 0, .ref m5, .ref fr, .int 100, .int 60, .int 14, .ref m6, .ref m7, .ref m8])), (m7, .inr (5, [.int 0, .ref e, .int 0]))] sz) [(h, .inr (20, .int u.1 :: u.2))]) (va_A [(h, .inr (20, [.int 0, .ref m1, .int 0, .int 0, .ref m2, .ref m3, .int 0, .int 4, .int (-40), .ref m4, .int 0, .int 20, .int 0, .ref m5, .ref fr, .int 100, .int 60, .int 14, .ref m6, .ref m7, .ref m8])), (m7, .inr (5, [.int 0, .ref e, .int 0]))] sz)) 0 0 (va_A [(h, .inr (20, [.int 0, .ref m1, .int 0, .int 0, .ref m2, .ref m3, .int 0, .int 4, .int (-40), .ref m4, .int 0, .int 20, .int 0, .ref m5, .ref fr, .int 100, .int 60, .int 14, .ref m6, .ref m7, .ref m8])), (m7, .inr (5, [.int 0, .ref e, .int 0]))] sz) := by
  refine Met.ofW (cc := cX14_offset) (maxL := 4) (ret := (some .int)) (by decide +kernel) rfl ?_
  intro p e9 s m args below meth c s₁ B hml hv
  obtain ⟨rfl, hsz, hP, hK, hD0, hE0⟩ := hv
  have hx := B.exec
  have hb := B.bytes
  have hr := B.returns
  have hts := atoms_spec (ws := wsX14_offset) B.pre
  have hown : s.vm.findClass RX14 = some m.cls := findClass_of_methodNamed B.named
  have hlocks := B.notSynchronized
  subst hsz
  have hD := hD0.self (sz := s.heap.size)
  generalize hAe : va_A [(h, .inr (20, [.int 0, .ref m1, .int 0, .int 0, .ref m2, .ref m3, .int 0, .int 4, .int (-40), .ref m4, .int 0, .int 20, .int 0, .ref m5, .ref fr, .int 100, .int 60, .int 14, .ref m6, .ref m7, .ref m8])), (m7, .inr (5, [.int 0, .ref e, .int 0]))] s.heap.size = A at hD hE0 ⊢
  have hA : ∀ q : Nat, s.heap.size ≤ q → A q := fun q h => by rw [← hAe]; exact Or.inr h
  have hS : va_S A s.heap s.heap [] := va_S.rf
  have hE := hE0
  have hP : va_P D vwCl [(h, .inr (20, [.int 0, .ref m1, .int 0, .int 0, .ref m2, .ref m3, .int 0, .int 4, .int (-40), .ref m4, .int 0, .int 20, .int 0, .ref m5, .ref fr, .int 100, .int 60, .int 14, .ref m6, .ref m7, .ref m8])), (m7, .inr (5, [.int 0, .ref e, .int 0]))] s.heap := hP
  have hl := lv_entry ([.ref h, .int p0, .int p1]) (n := 4) (Nat.le_of_ble_eq_true rfl)
  rw [lg_entry_eq]
  generalize (lg_sl ([.ref h, .int p0, .int p1]) ++ List.replicate (4 - (lg_sl ([.ref h, .int p0, .int p1])).length) Slot.unset).toArray = ls at hl ⊢
  have hl : lv_has ls 4 [(0, .ref h), (1, .int p0), (2, .int p1)] := hl
  refine lv_aload_n hx hb dX14_offset_0 rfl (lv_at hl 0 rfl) ?_
  refine lv_aload_n hx hb dX14_offset_1 rfl (lv_at hl 0 rfl) ?_
  refine va_get (D := D) (ci := 20) (v := .ref m7) (C := RX14) (T := TX14) (N := 21) hx hb hts iw_RX14_wsX14_offset hown hK hP 0 rfl rfl 19 (by decide) (hts (.fieldLink RX14 54 "CoatLineModel" "packs" "Ljava/util/List;") (by decide +kernel)) (fun _ h9 => h9) rfl dX14_offset_2 ?_
  refine lv_iload_n hx hb dX14_offset_5 rfl (lv_at hl 1 rfl) ?_
  refine vp_callSi (va_Run.run (va_runS (As := [.ref m7, .int p0]) (rest := [.ref h]) ⟨hx, hb, hml, hown, hts⟩ (c_X14_isOf l hst D e m7 0 e p0 s.heap.size) (va_cwS 2 hts gX14_offset_X14_isOf rfl rfl rfl (by decide +kernel) ⟨Nat.le_of_ble_eq_true rfl, Nat.le_of_ble_eq_true rfl⟩) ⟨cIn_blind, cIn_go hK hP hD hE hS hA [1] rfl rfl (by decide) [] rfl⟩ rfl rfl hl.1 rfl (lv_room (Nat.le_of_ble_eq_true rfl)) dX14_offset_6 ⟨Nat.le_of_ble_eq_true rfl, Nat.le_of_ble_eq_true rfl⟩)) (fun r_1 hw => ?_)
  have hw : r_1 = 0 := hw.trans (by first | rfl | decide +kernel)
  subst hw
  refine lv_if_ne (tgt := 16) hx hb dX14_offset_9 (by decide) (fun c_2 => absurd (show (0 : Int32) = 0 from by decide +kernel) c_2) (fun c_2 => ?_)
  refine lv_iconst (v := 1) hx hb dX14_offset_12 (by decide) ?_
  refine lv_goto (tgt := 31) hx hb dX14_offset_13 (by decide) ?_
  have hFc := va_free (wc := [(h, .inr (20, [.int 0, .ref m1, .int 0, .int 0, .ref m2, .ref m3, .int 0, .int 4, .int (-40), .ref m4, .int 0, .int 20, .int 0, .ref m5, .ref fr, .int 100, .int 60, .int 14, .ref m6, .ref m7, .ref m8]))]) hD hS hA [0] rfl
  refine va_calli (va_runV (As := [.int 1]) (rest := []) ⟨hx, hb, hml, hown, hts⟩ (c_X14_isWrong l hst D e h 0 ([.ref m1, .int 0, .int 0, .ref m2, .ref m3, .int 0, .int 4, .int (-40), .ref m4, .int 0, .int 20, .int 0, .ref m5, .ref fr, .int 100, .int 60, .int 14, .ref m6, .ref m7, .ref m8]) 1 s.heap.size) (cwV 1 hts gX14_offset_X14_isWrong rfl rfl rfl (by decide +kernel) ⟨Nat.le_of_ble_eq_true rfl, Nat.le_of_ble_eq_true rfl⟩) ⟨cIn_blind, va_recv hK hP (ci := 20) (q0 := 0) rfl rfl, cIn_go hK hP hD hE hS hA [0] rfl rfl (by decide) [] rfl⟩ rfl rfl hl.1 rfl (lv_room (Nat.le_of_ble_eq_true rfl)) dX14_offset_31 ⟨Nat.le_of_ble_eq_true rfl, Nat.le_of_ble_eq_true rfl⟩) hS (fun q _ h => hFc q h) hFc (fun r_3 u t H1 locs ht hvm hw hB hz1 hk1 hS => ?_)
  obtain ⟨hP1, hK1, hD1⟩ := hB
  rw [ht] at hP1
  have hK1 := va_K.moved hvm.symm hK1
  obtain ⟨hP, hD⟩ := va_join (wr := [(m7, .inr (5, [.int 0, .ref e, .int 0]))]) (w1 := [(h, .inr (20, [.int 1, .ref m1, .int 0, .int 0, .ref m2, .ref m3, .int 0, .int 4, .int (-40), .ref m4, .int 0, .int 20, .int 0, .ref m5, .ref fr, .int 100, .int 60, .int 14, .ref m6, .ref m7, .ref m8]))]) hP hD [0] [1] rfl rfl (by decide) (by decide) hk1 hFc hP1 hD1
  generalize H1 = H at hP hS ⊢
  have hP : va_P D vwCl [(m7, .inr (5, [.int 0, .ref e, .int 0])), (h, .inr (20, [.int 1, .ref m1, .int 0, .int 0, .ref m2, .ref m3, .int 0, .int 4, .int (-40), .ref m4, .int 0, .int 20, .int 0, .ref m5, .ref fr, .int 100, .int 60, .int 14, .ref m6, .ref m7, .ref m8]))] H := hP
  have hD : va_D A [(m7, .inr (5, [.int 0, .ref e, .int 0])), (h, .inr (20, [.int 1, .ref m1, .int 0, .int 0, .ref m2, .ref m3, .int 0, .int 4, .int (-40), .ref m4, .int 0, .int 20, .int 0, .ref m5, .ref fr, .int 100, .int 60, .int 14, .ref m6, .ref m7, .ref m8]))] := hD
  have hw : r_3 = 1 := hw.trans (by first | rfl | decide +kernel)
  subst hw
  refine lv_if_eq (tgt := 39) hx hb dX14_offset_34 (by decide) (fun c_5 => absurd c_5 (show ¬ ((1 : Int32) = 0) from by decide +kernel)) (fun c_5 => ?_)
  refine lv_iconst (v := 0) hx hb dX14_offset_37 (by decide) ?_
  exact W.iret (v := 0) hx hb hr (fun t ht hW => ⟨⟨0, ((1, [.ref m1, .int 0, .int 0, .ref m2, .ref m3, .int 0, .int 4, .int (-40), .ref m4, .int 0, .int 20, .int 0, .ref m5, .ref fr, .int 100, .int 60, .int 14, .ref m6, .ref m7, .ref m8]) : Int32 × List Value), rfl, ⟨rfl, rfl⟩, ⟨by rw [ht]; exact hP.sub [1] rfl, va_K.moved hW.alike (hK.sub [] rfl), hD.sub [1] (by decide) rfl⟩⟩, hS.F ht⟩) hS.2.2 dX14_offset_38
-- X14_drive
def v_X14_drive (p0 : Int32) (p1 : Int32) (p2 : Int32) : Int32 := 0
def k_X14_drive (p0 : Int32) (p1 : Int32) (p2 : Int32) : Int32 := 1
set_option maxHeartbeats 4000000 in
set_option maxRecDepth 100000 in
theorem c_X14_drive (l : Launch) (hst : l.stackTraces = false) (D : va_G) (e : Nat) (h : Nat) (m1 : Nat) (m2 : Nat) (m3 : Nat) (m4 : Nat) (m5 : Nat) (m6 : Nat) (m7 : Nat) (m8 : Nat) (fr : Nat) (p0 : Int32) (p1 : Int32) (p2 : Int32) (sz : Nat) : Met l yX14_drive wsX14_drive ({ frames := 16, cells := 0, slots := 0, locals := 340 }) (va_Pc [.ref h, .int p0, .int p1, .int p2] (cIn D [] [(h, .inr (20, [.int 0, .ref m1, .int 0, .int 0, .ref m2, .ref m3, .int 0, .int 4, .int (-40), .ref m4, .int 0, .int 20, .int 0, .ref m5, .ref fr, .int 100, .int 60, .int 14, .ref m6, .ref m7, .ref m8])), (m7, .inr (5, [.int 0, .ref e, .int 0]))] e sz)) (va_Qi (fun (r : Int32) (u : Int32 × List Value) => u.1 = k_X14_drive p0 p1 p2 ∧ r = v_X14_drive p0 p1 p2) (fun (u : Int32 × List Value) (t : State) => va_P D vwCl [(h, .inr (20, .int u.1 :: u.2))] t.heap ∧ va_K D vwCl [] t ∧ va_D (va_A [(h, .inr (20, [.int 0, .ref m1, .int 0, .int 0, .ref m2, .ref m3, .int 0, .int 4, .int (-40), .ref m4, .int 0, .int 20, .int 0, .ref m5, .ref fr, .int 100, .int 60, .int 14, .ref m6, .ref m7, .ref m8])), (m7, .inr (5, [.int 0, .ref e, .int 0]))] sz) [(h, .inr (20, .int u.1 :: u.2))]) (va_A [(h, .inr (20, [.int 0, .ref m1, .int 0, .int 0, .ref m2, .ref m3, .int 0, .int 4, .int (-40), .ref m4, .int 0, .int 20, .int 0, .ref m5, .ref fr, .int 100, .int 60, .int 14, .ref m6, .ref m7, .ref m8])), (m7, .inr (5, [.int 0, .ref e, .int 0]))] sz)) 0 0 (va_A [(h, .inr (20, [.int 0, .ref m1, .int 0, .int 0, .ref m2, .ref m3, .int 0, .int 4, .int (-40), .ref m4, .int 0, .int 20, .int 0, .ref m5, .ref fr, .int 100, .int 60, .int 14, .ref m6, .ref m7, .ref m8])), (m7, .inr (5, [.int 0, .ref e, .int 0]))] sz) := by
  refine Met.ofW (cc := cX14_drive) (maxL := 8) (ret := (some .int)) (by decide +kernel) rfl ?_
  intro p e9 s m args below meth c s₁ B hml hv
  obtain ⟨rfl, hsz, hP, hK, hD0, hE0⟩ := hv
  have hx := B.exec
  have hb := B.bytes
  have hr := B.returns
  have hts := atoms_spec (ws := wsX14_drive) B.pre
  have hown : s.vm.findClass RX14 = some m.cls := findClass_of_methodNamed B.named
  have hlocks := B.notSynchronized
  subst hsz
  have hD := hD0.self (sz := s.heap.size)
  generalize hAe : va_A [(h, .inr (20, [.int 0, .ref m1, .int 0, .int 0, .ref m2, .ref m3, .int 0, .int 4, .int (-40), .ref m4, .int 0, .int 20, .int 0, .ref m5, .ref fr, .int 100, .int 60, .int 14, .ref m6, .ref m7, .ref m8])), (m7, .inr (5, [.int 0, .ref e, .int 0]))] s.heap.size = A at hD hE0 ⊢
  have hA : ∀ q : Nat, s.heap.size ≤ q → A q := fun q h => by rw [← hAe]; exact Or.inr h
  have hS : va_S A s.heap s.heap [] := va_S.rf
  have hE := hE0
  have hP : va_P D vwCl [(h, .inr (20, [.int 0, .ref m1, .int 0, .int 0, .ref m2, .ref m3, .int 0, .int 4, .int (-40), .ref m4, .int 0, .int 20, .int 0, .ref m5, .ref fr, .int 100, .int 60, .int 14, .ref m6, .ref m7, .ref m8])), (m7, .inr (5, [.int 0, .ref e, .int 0]))] s.heap := hP
  have hl := lv_entry ([.ref h, .int p0, .int p1, .int p2]) (n := 8) (Nat.le_of_ble_eq_true rfl)
  rw [lg_entry_eq]
  generalize (lg_sl ([.ref h, .int p0, .int p1, .int p2]) ++ List.replicate (8 - (lg_sl ([.ref h, .int p0, .int p1, .int p2])).length) Slot.unset).toArray = ls at hl ⊢
  have hl : lv_has ls 8 [(0, .ref h), (1, .int p0), (2, .int p1), (3, .int p2)] := hl
  refine lv_aload_n hx hb dX14_drive_0 rfl (lv_at hl 0 rfl) ?_
  refine lv_aload_n hx hb dX14_drive_1 rfl (lv_at hl 0 rfl) ?_
  refine va_get (D := D) (ci := 20) (v := .ref m7) (C := RX14) (T := TX14) (N := 21) hx hb hts iw_RX14_wsX14_drive hown hK hP 0 rfl rfl 19 (by decide) (hts (.fieldLink RX14 54 "CoatLineModel" "packs" "Ljava/util/List;") (by decide +kernel)) (fun _ h9 => h9) rfl dX14_drive_2 ?_
  refine lv_iload_n hx hb dX14_drive_5 rfl (lv_at hl 1 rfl) ?_
  refine vp_callSi (va_Run.run (va_runS (As := [.ref m7, .int p0]) (rest := [.ref h]) ⟨hx, hb, hml, hown, hts⟩ (c_X14_isOf l hst D e m7 0 e p0 s.heap.size) (va_cwS 2 hts gX14_drive_X14_isOf rfl rfl rfl (by decide +kernel) ⟨Nat.le_of_ble_eq_true rfl, Nat.le_of_ble_eq_true rfl⟩) ⟨cIn_blind, cIn_go hK hP hD hE hS hA [1] rfl rfl (by decide) [] rfl⟩ rfl rfl hl.1 rfl (lv_room (Nat.le_of_ble_eq_true rfl)) dX14_drive_6 ⟨Nat.le_of_ble_eq_true rfl, Nat.le_of_ble_eq_true rfl⟩)) (fun r_1 hw => ?_)
  have hw : r_1 = 0 := hw.trans (by first | rfl | decide +kernel)
  subst hw
  refine lv_if_ne (tgt := 16) hx hb dX14_drive_9 (by decide) (fun c_2 => absurd (show (0 : Int32) = 0 from by decide +kernel) c_2) (fun c_2 => ?_)
  refine lv_iconst (v := 1) hx hb dX14_drive_12 (by decide) ?_
  refine lv_goto (tgt := 85) hx hb dX14_drive_13 (by decide) ?_
  have hFc := va_free (wc := [(h, .inr (20, [.int 0, .ref m1, .int 0, .int 0, .ref m2, .ref m3, .int 0, .int 4, .int (-40), .ref m4, .int 0, .int 20, .int 0, .ref m5, .ref fr, .int 100, .int 60, .int 14, .ref m6, .ref m7, .ref m8]))]) hD hS hA [0] rfl
  refine va_calli (va_runV (As := [.int 1]) (rest := []) ⟨hx, hb, hml, hown, hts⟩ (c_X14_isWrong l hst D e h 0 ([.ref m1, .int 0, .int 0, .ref m2, .ref m3, .int 0, .int 4, .int (-40), .ref m4, .int 0, .int 20, .int 0, .ref m5, .ref fr, .int 100, .int 60, .int 14, .ref m6, .ref m7, .ref m8]) 1 s.heap.size) (cwV 1 hts gX14_drive_X14_isWrong rfl rfl rfl (by decide +kernel) ⟨Nat.le_of_ble_eq_true rfl, Nat.le_of_ble_eq_true rfl⟩) ⟨cIn_blind, va_recv hK hP (ci := 20) (q0 := 0) rfl rfl, cIn_go hK hP hD hE hS hA [0] rfl rfl (by decide) [] rfl⟩ rfl rfl hl.1 rfl (lv_room (Nat.le_of_ble_eq_true rfl)) dX14_drive_85 ⟨Nat.le_of_ble_eq_true rfl, Nat.le_of_ble_eq_true rfl⟩) hS (fun q _ h => hFc q h) hFc (fun r_3 u t H1 locs ht hvm hw hB hz1 hk1 hS => ?_)
  obtain ⟨hP1, hK1, hD1⟩ := hB
  rw [ht] at hP1
  have hK1 := va_K.moved hvm.symm hK1
  obtain ⟨hP, hD⟩ := va_join (wr := [(m7, .inr (5, [.int 0, .ref e, .int 0]))]) (w1 := [(h, .inr (20, [.int 1, .ref m1, .int 0, .int 0, .ref m2, .ref m3, .int 0, .int 4, .int (-40), .ref m4, .int 0, .int 20, .int 0, .ref m5, .ref fr, .int 100, .int 60, .int 14, .ref m6, .ref m7, .ref m8]))]) hP hD [0] [1] rfl rfl (by decide) (by decide) hk1 hFc hP1 hD1
  generalize H1 = H at hP hS ⊢
  have hP : va_P D vwCl [(m7, .inr (5, [.int 0, .ref e, .int 0])), (h, .inr (20, [.int 1, .ref m1, .int 0, .int 0, .ref m2, .ref m3, .int 0, .int 4, .int (-40), .ref m4, .int 0, .int 20, .int 0, .ref m5, .ref fr, .int 100, .int 60, .int 14, .ref m6, .ref m7, .ref m8]))] H := hP
  have hD : va_D A [(m7, .inr (5, [.int 0, .ref e, .int 0])), (h, .inr (20, [.int 1, .ref m1, .int 0, .int 0, .ref m2, .ref m3, .int 0, .int 4, .int (-40), .ref m4, .int 0, .int 20, .int 0, .ref m5, .ref fr, .int 100, .int 60, .int 14, .ref m6, .ref m7, .ref m8]))] := hD
  have hw : r_3 = 1 := hw.trans (by first | rfl | decide +kernel)
  subst hw
  refine lv_if_eq (tgt := 93) hx hb dX14_drive_88 (by decide) (fun c_5 => absurd c_5 (show ¬ ((1 : Int32) = 0) from by decide +kernel)) (fun c_5 => ?_)
  refine lv_iconst (v := 0) hx hb dX14_drive_91 (by decide) ?_
  exact W.iret (v := 0) hx hb hr (fun t ht hW => ⟨⟨0, ((1, [.ref m1, .int 0, .int 0, .ref m2, .ref m3, .int 0, .int 4, .int (-40), .ref m4, .int 0, .int 20, .int 0, .ref m5, .ref fr, .int 100, .int 60, .int 14, .ref m6, .ref m7, .ref m8]) : Int32 × List Value), rfl, ⟨rfl, rfl⟩, ⟨by rw [ht]; exact hP.sub [1] rfl, va_K.moved hW.alike (hK.sub [] rfl), hD.sub [1] (by decide) rfl⟩⟩, hS.F ht⟩) hS.2.2 dX14_drive_92
-- X14_rest
def v_X14_rest (p0 : Int32) (p1 : Int32) : Int32 := 0
def k_X14_rest (p0 : Int32) (p1 : Int32) : Int32 := 1
set_option maxHeartbeats 4000000 in
set_option maxRecDepth 100000 in
theorem c_X14_rest (l : Launch) (hst : l.stackTraces = false) (D : va_G) (e : Nat) (h : Nat) (m1 : Nat) (m2 : Nat) (m3 : Nat) (m4 : Nat) (m5 : Nat) (m6 : Nat) (m7 : Nat) (m8 : Nat) (fr : Nat) (p0 : Int32) (p1 : Int32) (sz : Nat) : Met l yX14_rest wsX14_rest ({ frames := 16, cells := 0, slots := 0, locals := 340 }) (va_Pc [.ref h, .int p0, .int p1] (cIn D [] [(h, .inr (20, [.int 0, .ref m1, .int 0, .int 0, .ref m2, .ref m3, .int 0, .int 4, .int (-40), .ref m4, .int 0, .int 20, .int 0, .ref m5, .ref fr, .int 100, .int 60, .int 14, .ref m6, .ref m7, .ref m8])), (m7, .inr (5, [.int 0, .ref e, .int 0]))] e sz)) (va_Qi (fun (r : Int32) (u : Int32 × List Value) => u.1 = k_X14_rest p0 p1 ∧ r = v_X14_rest p0 p1) (fun (u : Int32 × List Value) (t : State) => va_P D vwCl [(h, .inr (20, .int u.1 :: u.2))] t.heap ∧ va_K D vwCl [] t ∧ va_D (va_A [(h, .inr (20, [.int 0, .ref m1, .int 0, .int 0, .ref m2, .ref m3, .int 0, .int 4, .int (-40), .ref m4, .int 0, .int 20, .int 0, .ref m5, .ref fr, .int 100, .int 60, .int 14, .ref m6, .ref m7, .ref m8])), (m7, .inr (5, [.int 0, .ref e, .int 0]))] sz) [(h, .inr (20, .int u.1 :: u.2))]) (va_A [(h, .inr (20, [.int 0, .ref m1, .int 0, .int 0, .ref m2, .ref m3, .int 0, .int 4, .int (-40), .ref m4, .int 0, .int 20, .int 0, .ref m5, .ref fr, .int 100, .int 60, .int 14, .ref m6, .ref m7, .ref m8])), (m7, .inr (5, [.int 0, .ref e, .int 0]))] sz)) 0 0 (va_A [(h, .inr (20, [.int 0, .ref m1, .int 0, .int 0, .ref m2, .ref m3, .int 0, .int 4, .int (-40), .ref m4, .int 0, .int 20, .int 0, .ref m5, .ref fr, .int 100, .int 60, .int 14, .ref m6, .ref m7, .ref m8])), (m7, .inr (5, [.int 0, .ref e, .int 0]))] sz) := by
  refine Met.ofW (cc := cX14_rest) (maxL := 5) (ret := (some .int)) (by decide +kernel) rfl ?_
  intro p e9 s m args below meth c s₁ B hml hv
  obtain ⟨rfl, hsz, hP, hK, hD0, hE0⟩ := hv
  have hx := B.exec
  have hb := B.bytes
  have hr := B.returns
  have hts := atoms_spec (ws := wsX14_rest) B.pre
  have hown : s.vm.findClass RX14 = some m.cls := findClass_of_methodNamed B.named
  have hlocks := B.notSynchronized
  subst hsz
  have hD := hD0.self (sz := s.heap.size)
  generalize hAe : va_A [(h, .inr (20, [.int 0, .ref m1, .int 0, .int 0, .ref m2, .ref m3, .int 0, .int 4, .int (-40), .ref m4, .int 0, .int 20, .int 0, .ref m5, .ref fr, .int 100, .int 60, .int 14, .ref m6, .ref m7, .ref m8])), (m7, .inr (5, [.int 0, .ref e, .int 0]))] s.heap.size = A at hD hE0 ⊢
  have hA : ∀ q : Nat, s.heap.size ≤ q → A q := fun q h => by rw [← hAe]; exact Or.inr h
  have hS : va_S A s.heap s.heap [] := va_S.rf
  have hE := hE0
  have hP : va_P D vwCl [(h, .inr (20, [.int 0, .ref m1, .int 0, .int 0, .ref m2, .ref m3, .int 0, .int 4, .int (-40), .ref m4, .int 0, .int 20, .int 0, .ref m5, .ref fr, .int 100, .int 60, .int 14, .ref m6, .ref m7, .ref m8])), (m7, .inr (5, [.int 0, .ref e, .int 0]))] s.heap := hP
  have hl := lv_entry ([.ref h, .int p0, .int p1]) (n := 5) (Nat.le_of_ble_eq_true rfl)
  rw [lg_entry_eq]
  generalize (lg_sl ([.ref h, .int p0, .int p1]) ++ List.replicate (5 - (lg_sl ([.ref h, .int p0, .int p1])).length) Slot.unset).toArray = ls at hl ⊢
  have hl : lv_has ls 5 [(0, .ref h), (1, .int p0), (2, .int p1)] := hl
  refine lv_aload_n hx hb dX14_rest_0 rfl (lv_at hl 0 rfl) ?_
  refine lv_aload_n hx hb dX14_rest_1 rfl (lv_at hl 0 rfl) ?_
  refine va_get (D := D) (ci := 20) (v := .ref m7) (C := RX14) (T := TX14) (N := 21) hx hb hts iw_RX14_wsX14_rest hown hK hP 0 rfl rfl 19 (by decide) (hts (.fieldLink RX14 54 "CoatLineModel" "packs" "Ljava/util/List;") (by decide +kernel)) (fun _ h9 => h9) rfl dX14_rest_2 ?_
  refine lv_iload_n hx hb dX14_rest_5 rfl (lv_at hl 1 rfl) ?_
  refine vp_callSi (va_Run.run (va_runS (As := [.ref m7, .int p0]) (rest := [.ref h]) ⟨hx, hb, hml, hown, hts⟩ (c_X14_isOf l hst D e m7 0 e p0 s.heap.size) (va_cwS 2 hts gX14_rest_X14_isOf rfl rfl rfl (by decide +kernel) ⟨Nat.le_of_ble_eq_true rfl, Nat.le_of_ble_eq_true rfl⟩) ⟨cIn_blind, cIn_go hK hP hD hE hS hA [1] rfl rfl (by decide) [] rfl⟩ rfl rfl hl.1 rfl (lv_room (Nat.le_of_ble_eq_true rfl)) dX14_rest_6 ⟨Nat.le_of_ble_eq_true rfl, Nat.le_of_ble_eq_true rfl⟩)) (fun r_1 hw => ?_)
  have hw : r_1 = 0 := hw.trans (by first | rfl | decide +kernel)
  subst hw
  refine lv_if_ne (tgt := 16) hx hb dX14_rest_9 (by decide) (fun c_2 => absurd (show (0 : Int32) = 0 from by decide +kernel) c_2) (fun c_2 => ?_)
  refine lv_iconst (v := 1) hx hb dX14_rest_12 (by decide) ?_
  refine lv_goto (tgt := 31) hx hb dX14_rest_13 (by decide) ?_
  have hFc := va_free (wc := [(h, .inr (20, [.int 0, .ref m1, .int 0, .int 0, .ref m2, .ref m3, .int 0, .int 4, .int (-40), .ref m4, .int 0, .int 20, .int 0, .ref m5, .ref fr, .int 100, .int 60, .int 14, .ref m6, .ref m7, .ref m8]))]) hD hS hA [0] rfl
  refine va_calli (va_runV (As := [.int 1]) (rest := []) ⟨hx, hb, hml, hown, hts⟩ (c_X14_isWrong l hst D e h 0 ([.ref m1, .int 0, .int 0, .ref m2, .ref m3, .int 0, .int 4, .int (-40), .ref m4, .int 0, .int 20, .int 0, .ref m5, .ref fr, .int 100, .int 60, .int 14, .ref m6, .ref m7, .ref m8]) 1 s.heap.size) (cwV 1 hts gX14_rest_X14_isWrong rfl rfl rfl (by decide +kernel) ⟨Nat.le_of_ble_eq_true rfl, Nat.le_of_ble_eq_true rfl⟩) ⟨cIn_blind, va_recv hK hP (ci := 20) (q0 := 0) rfl rfl, cIn_go hK hP hD hE hS hA [0] rfl rfl (by decide) [] rfl⟩ rfl rfl hl.1 rfl (lv_room (Nat.le_of_ble_eq_true rfl)) dX14_rest_31 ⟨Nat.le_of_ble_eq_true rfl, Nat.le_of_ble_eq_true rfl⟩) hS (fun q _ h => hFc q h) hFc (fun r_3 u t H1 locs ht hvm hw hB hz1 hk1 hS => ?_)
  obtain ⟨hP1, hK1, hD1⟩ := hB
  rw [ht] at hP1
  have hK1 := va_K.moved hvm.symm hK1
  obtain ⟨hP, hD⟩ := va_join (wr := [(m7, .inr (5, [.int 0, .ref e, .int 0]))]) (w1 := [(h, .inr (20, [.int 1, .ref m1, .int 0, .int 0, .ref m2, .ref m3, .int 0, .int 4, .int (-40), .ref m4, .int 0, .int 20, .int 0, .ref m5, .ref fr, .int 100, .int 60, .int 14, .ref m6, .ref m7, .ref m8]))]) hP hD [0] [1] rfl rfl (by decide) (by decide) hk1 hFc hP1 hD1
  generalize H1 = H at hP hS ⊢
  have hP : va_P D vwCl [(m7, .inr (5, [.int 0, .ref e, .int 0])), (h, .inr (20, [.int 1, .ref m1, .int 0, .int 0, .ref m2, .ref m3, .int 0, .int 4, .int (-40), .ref m4, .int 0, .int 20, .int 0, .ref m5, .ref fr, .int 100, .int 60, .int 14, .ref m6, .ref m7, .ref m8]))] H := hP
  have hD : va_D A [(m7, .inr (5, [.int 0, .ref e, .int 0])), (h, .inr (20, [.int 1, .ref m1, .int 0, .int 0, .ref m2, .ref m3, .int 0, .int 4, .int (-40), .ref m4, .int 0, .int 20, .int 0, .ref m5, .ref fr, .int 100, .int 60, .int 14, .ref m6, .ref m7, .ref m8]))] := hD
  have hw : r_3 = 1 := hw.trans (by first | rfl | decide +kernel)
  subst hw
  refine lv_if_eq (tgt := 39) hx hb dX14_rest_34 (by decide) (fun c_5 => absurd c_5 (show ¬ ((1 : Int32) = 0) from by decide +kernel)) (fun c_5 => ?_)
  refine lv_iconst (v := 0) hx hb dX14_rest_37 (by decide) ?_
  exact W.iret (v := 0) hx hb hr (fun t ht hW => ⟨⟨0, ((1, [.ref m1, .int 0, .int 0, .ref m2, .ref m3, .int 0, .int 4, .int (-40), .ref m4, .int 0, .int 20, .int 0, .ref m5, .ref fr, .int 100, .int 60, .int 14, .ref m6, .ref m7, .ref m8]) : Int32 × List Value), rfl, ⟨rfl, rfl⟩, ⟨by rw [ht]; exact hP.sub [1] rfl, va_K.moved hW.alike (hK.sub [] rfl), hD.sub [1] (by decide) rfl⟩⟩, hS.F ht⟩) hS.2.2 dX14_rest_38
-- X14_on
def v_X14_on (p0 : Int32) : Int32 := 0
def k_X14_on (p0 : Int32) : Int32 := 1
set_option maxHeartbeats 4000000 in
set_option maxRecDepth 100000 in
theorem c_X14_on (l : Launch) (hst : l.stackTraces = false) (D : va_G) (e : Nat) (h : Nat) (m1 : Nat) (m2 : Nat) (m3 : Nat) (m4 : Nat) (m5 : Nat) (m6 : Nat) (m7 : Nat) (m8 : Nat) (fr : Nat) (p0 : Int32) (sz : Nat) : Met l yX14_on wsX14_on ({ frames := 16, cells := 0, slots := 0, locals := 340 }) (va_Pc [.ref h, .int p0] (cIn D [] [(h, .inr (20, [.int 0, .ref m1, .int 0, .int 0, .ref m2, .ref m3, .int 0, .int 4, .int (-40), .ref m4, .int 0, .int 20, .int 0, .ref m5, .ref fr, .int 100, .int 60, .int 14, .ref m6, .ref m7, .ref m8])), (m7, .inr (5, [.int 0, .ref e, .int 0]))] e sz)) (va_Qi (fun (r : Int32) (u : Int32 × List Value) => u.1 = k_X14_on p0 ∧ r = v_X14_on p0) (fun (u : Int32 × List Value) (t : State) => va_P D vwCl [(h, .inr (20, .int u.1 :: u.2))] t.heap ∧ va_K D vwCl [] t ∧ va_D (va_A [(h, .inr (20, [.int 0, .ref m1, .int 0, .int 0, .ref m2, .ref m3, .int 0, .int 4, .int (-40), .ref m4, .int 0, .int 20, .int 0, .ref m5, .ref fr, .int 100, .int 60, .int 14, .ref m6, .ref m7, .ref m8])), (m7, .inr (5, [.int 0, .ref e, .int 0]))] sz) [(h, .inr (20, .int u.1 :: u.2))]) (va_A [(h, .inr (20, [.int 0, .ref m1, .int 0, .int 0, .ref m2, .ref m3, .int 0, .int 4, .int (-40), .ref m4, .int 0, .int 20, .int 0, .ref m5, .ref fr, .int 100, .int 60, .int 14, .ref m6, .ref m7, .ref m8])), (m7, .inr (5, [.int 0, .ref e, .int 0]))] sz)) 0 0 (va_A [(h, .inr (20, [.int 0, .ref m1, .int 0, .int 0, .ref m2, .ref m3, .int 0, .int 4, .int (-40), .ref m4, .int 0, .int 20, .int 0, .ref m5, .ref fr, .int 100, .int 60, .int 14, .ref m6, .ref m7, .ref m8])), (m7, .inr (5, [.int 0, .ref e, .int 0]))] sz) := by
  refine Met.ofW (cc := cX14_on) (maxL := 3) (ret := (some .boolean)) (by decide +kernel) rfl ?_
  intro p e9 s m args below meth c s₁ B hml hv
  obtain ⟨rfl, hsz, hP, hK, hD0, hE0⟩ := hv
  have hx := B.exec
  have hb := B.bytes
  have hr := B.returns
  have hts := atoms_spec (ws := wsX14_on) B.pre
  have hown : s.vm.findClass RX14 = some m.cls := findClass_of_methodNamed B.named
  have hlocks := B.notSynchronized
  subst hsz
  have hD := hD0.self (sz := s.heap.size)
  generalize hAe : va_A [(h, .inr (20, [.int 0, .ref m1, .int 0, .int 0, .ref m2, .ref m3, .int 0, .int 4, .int (-40), .ref m4, .int 0, .int 20, .int 0, .ref m5, .ref fr, .int 100, .int 60, .int 14, .ref m6, .ref m7, .ref m8])), (m7, .inr (5, [.int 0, .ref e, .int 0]))] s.heap.size = A at hD hE0 ⊢
  have hA : ∀ q : Nat, s.heap.size ≤ q → A q := fun q h => by rw [← hAe]; exact Or.inr h
  have hS : va_S A s.heap s.heap [] := va_S.rf
  have hE := hE0
  have hP : va_P D vwCl [(h, .inr (20, [.int 0, .ref m1, .int 0, .int 0, .ref m2, .ref m3, .int 0, .int 4, .int (-40), .ref m4, .int 0, .int 20, .int 0, .ref m5, .ref fr, .int 100, .int 60, .int 14, .ref m6, .ref m7, .ref m8])), (m7, .inr (5, [.int 0, .ref e, .int 0]))] s.heap := hP
  have hl := lv_entry ([.ref h, .int p0]) (n := 3) (Nat.le_of_ble_eq_true rfl)
  rw [lg_entry_eq]
  generalize (lg_sl ([.ref h, .int p0]) ++ List.replicate (3 - (lg_sl ([.ref h, .int p0])).length) Slot.unset).toArray = ls at hl ⊢
  have hl : lv_has ls 3 [(0, .ref h), (1, .int p0)] := hl
  refine lv_aload_n hx hb dX14_on_0 rfl (lv_at hl 0 rfl) ?_
  refine lv_iload_n hx hb dX14_on_1 rfl (lv_at hl 1 rfl) ?_
  have hFc := va_free (wc := [(h, .inr (20, [.int 0, .ref m1, .int 0, .int 0, .ref m2, .ref m3, .int 0, .int 4, .int (-40), .ref m4, .int 0, .int 20, .int 0, .ref m5, .ref fr, .int 100, .int 60, .int 14, .ref m6, .ref m7, .ref m8])), (m7, .inr (5, [.int 0, .ref e, .int 0]))]) hD hS hA [0, 1] rfl
  refine va_calli (va_runV (As := [.int p0]) (rest := []) ⟨hx, hb, hml, hown, hts⟩ (c_X14_isNoPack l hst D e h m1 m2 m3 m4 m5 m6 m7 m8 fr p0 s.heap.size) (cwV 1 hts gX14_on_X14_isNoPack rfl rfl rfl (by decide +kernel) ⟨Nat.le_of_ble_eq_true rfl, Nat.le_of_ble_eq_true rfl⟩) ⟨cIn_blind, va_recv hK hP (ci := 20) (q0 := 0) rfl rfl, cIn_go hK hP hD hE hS hA [0, 1] rfl rfl (by decide) [] rfl⟩ rfl rfl hl.1 rfl (lv_room (Nat.le_of_ble_eq_true rfl)) dX14_on_2 ⟨Nat.le_of_ble_eq_true rfl, Nat.le_of_ble_eq_true rfl⟩) hS (fun q _ h => hFc q h) hFc (fun r_1 u t H1 locs ht hvm hw hB hz1 hk1 hS => ?_)
  obtain ⟨hP1, hK1, hD1⟩ := hB
  rw [ht] at hP1
  have hK1 := va_K.moved hvm.symm hK1
  obtain ⟨hP, hD⟩ := va_join (wr := []) (w1 := [(h, .inr (20, [.int 1, .ref m1, .int 0, .int 0, .ref m2, .ref m3, .int 0, .int 4, .int (-40), .ref m4, .int 0, .int 20, .int 0, .ref m5, .ref fr, .int 100, .int 60, .int 14, .ref m6, .ref m7, .ref m8]))]) hP hD [0, 1] [] rfl rfl (by decide) (by decide) hk1 hFc hP1 hD1
  generalize H1 = H at hP hS ⊢
  have hP : va_P D vwCl [(h, .inr (20, [.int 1, .ref m1, .int 0, .int 0, .ref m2, .ref m3, .int 0, .int 4, .int (-40), .ref m4, .int 0, .int 20, .int 0, .ref m5, .ref fr, .int 100, .int 60, .int 14, .ref m6, .ref m7, .ref m8]))] H := hP
  have hD : va_D A [(h, .inr (20, [.int 1, .ref m1, .int 0, .int 0, .ref m2, .ref m3, .int 0, .int 4, .int (-40), .ref m4, .int 0, .int 20, .int 0, .ref m5, .ref fr, .int 100, .int 60, .int 14, .ref m6, .ref m7, .ref m8]))] := hD
  have hw : r_1 = 1 := hw.trans (by first | rfl | decide +kernel)
  subst hw
  refine lv_if_eq (tgt := 10) hx hb dX14_on_5 (by decide) (fun c_3 => absurd c_3 (show ¬ ((1 : Int32) = 0) from by decide +kernel)) (fun c_3 => ?_)
  refine lv_iconst (v := 0) hx hb dX14_on_8 (by decide) ?_
  exact W.zret (v := 0) hx hb hr (by first | rfl | decide +kernel) (fun t ht hW => ⟨⟨0, ((1, [.ref m1, .int 0, .int 0, .ref m2, .ref m3, .int 0, .int 4, .int (-40), .ref m4, .int 0, .int 20, .int 0, .ref m5, .ref fr, .int 100, .int 60, .int 14, .ref m6, .ref m7, .ref m8]) : Int32 × List Value), rfl, ⟨rfl, rfl⟩, ⟨by rw [ht]; exact hP.sub [0] rfl, va_K.moved hW.alike (hK.sub [] rfl), hD.sub [0] (by decide) rfl⟩⟩, hS.F ht⟩) hS.2.2 dX14_on_9
-- X14_stage
def v_X14_stage (p0 : Int32) : Int32 := 0
def k_X14_stage (p0 : Int32) : Int32 := 1
set_option maxHeartbeats 4000000 in
set_option maxRecDepth 100000 in
theorem c_X14_stage (l : Launch) (hst : l.stackTraces = false) (D : va_G) (e : Nat) (h : Nat) (m1 : Nat) (m2 : Nat) (m3 : Nat) (m4 : Nat) (m5 : Nat) (m6 : Nat) (m7 : Nat) (m8 : Nat) (fr : Nat) (p0 : Int32) (sz : Nat) : Met l yX14_stage wsX14_stage ({ frames := 16, cells := 0, slots := 0, locals := 340 }) (va_Pc [.ref h, .int p0] (cIn D [] [(h, .inr (20, [.int 0, .ref m1, .int 0, .int 0, .ref m2, .ref m3, .int 0, .int 4, .int (-40), .ref m4, .int 0, .int 20, .int 0, .ref m5, .ref fr, .int 100, .int 60, .int 14, .ref m6, .ref m7, .ref m8])), (m7, .inr (5, [.int 0, .ref e, .int 0]))] e sz)) (va_Qi (fun (r : Int32) (u : Int32 × List Value) => u.1 = k_X14_stage p0 ∧ r = v_X14_stage p0) (fun (u : Int32 × List Value) (t : State) => va_P D vwCl [(h, .inr (20, .int u.1 :: u.2))] t.heap ∧ va_K D vwCl [] t ∧ va_D (va_A [(h, .inr (20, [.int 0, .ref m1, .int 0, .int 0, .ref m2, .ref m3, .int 0, .int 4, .int (-40), .ref m4, .int 0, .int 20, .int 0, .ref m5, .ref fr, .int 100, .int 60, .int 14, .ref m6, .ref m7, .ref m8])), (m7, .inr (5, [.int 0, .ref e, .int 0]))] sz) [(h, .inr (20, .int u.1 :: u.2))]) (va_A [(h, .inr (20, [.int 0, .ref m1, .int 0, .int 0, .ref m2, .ref m3, .int 0, .int 4, .int (-40), .ref m4, .int 0, .int 20, .int 0, .ref m5, .ref fr, .int 100, .int 60, .int 14, .ref m6, .ref m7, .ref m8])), (m7, .inr (5, [.int 0, .ref e, .int 0]))] sz)) 0 0 (va_A [(h, .inr (20, [.int 0, .ref m1, .int 0, .int 0, .ref m2, .ref m3, .int 0, .int 4, .int (-40), .ref m4, .int 0, .int 20, .int 0, .ref m5, .ref fr, .int 100, .int 60, .int 14, .ref m6, .ref m7, .ref m8])), (m7, .inr (5, [.int 0, .ref e, .int 0]))] sz) := by
  refine Met.ofW (cc := cX14_stage) (maxL := 2) (ret := (some .char)) (by decide +kernel) rfl ?_
  intro p e9 s m args below meth c s₁ B hml hv
  obtain ⟨rfl, hsz, hP, hK, hD0, hE0⟩ := hv
  have hx := B.exec
  have hb := B.bytes
  have hr := B.returns
  have hts := atoms_spec (ws := wsX14_stage) B.pre
  have hown : s.vm.findClass RX14 = some m.cls := findClass_of_methodNamed B.named
  have hlocks := B.notSynchronized
  subst hsz
  have hD := hD0.self (sz := s.heap.size)
  generalize hAe : va_A [(h, .inr (20, [.int 0, .ref m1, .int 0, .int 0, .ref m2, .ref m3, .int 0, .int 4, .int (-40), .ref m4, .int 0, .int 20, .int 0, .ref m5, .ref fr, .int 100, .int 60, .int 14, .ref m6, .ref m7, .ref m8])), (m7, .inr (5, [.int 0, .ref e, .int 0]))] s.heap.size = A at hD hE0 ⊢
  have hA : ∀ q : Nat, s.heap.size ≤ q → A q := fun q h => by rw [← hAe]; exact Or.inr h
  have hS : va_S A s.heap s.heap [] := va_S.rf
  have hE := hE0
  have hP : va_P D vwCl [(h, .inr (20, [.int 0, .ref m1, .int 0, .int 0, .ref m2, .ref m3, .int 0, .int 4, .int (-40), .ref m4, .int 0, .int 20, .int 0, .ref m5, .ref fr, .int 100, .int 60, .int 14, .ref m6, .ref m7, .ref m8])), (m7, .inr (5, [.int 0, .ref e, .int 0]))] s.heap := hP
  have hl := lv_entry ([.ref h, .int p0]) (n := 2) (Nat.le_of_ble_eq_true rfl)
  rw [lg_entry_eq]
  generalize (lg_sl ([.ref h, .int p0]) ++ List.replicate (2 - (lg_sl ([.ref h, .int p0])).length) Slot.unset).toArray = ls at hl ⊢
  have hl : lv_has ls 2 [(0, .ref h), (1, .int p0)] := hl
  refine lv_aload_n hx hb dX14_stage_0 rfl (lv_at hl 0 rfl) ?_
  refine lv_iload_n hx hb dX14_stage_1 rfl (lv_at hl 1 rfl) ?_
  have hFc := va_free (wc := [(h, .inr (20, [.int 0, .ref m1, .int 0, .int 0, .ref m2, .ref m3, .int 0, .int 4, .int (-40), .ref m4, .int 0, .int 20, .int 0, .ref m5, .ref fr, .int 100, .int 60, .int 14, .ref m6, .ref m7, .ref m8])), (m7, .inr (5, [.int 0, .ref e, .int 0]))]) hD hS hA [0, 1] rfl
  refine va_calli (va_runV (As := [.int p0]) (rest := []) ⟨hx, hb, hml, hown, hts⟩ (c_X14_isNoPack l hst D e h m1 m2 m3 m4 m5 m6 m7 m8 fr p0 s.heap.size) (cwV 1 hts gX14_stage_X14_isNoPack rfl rfl rfl (by decide +kernel) ⟨Nat.le_of_ble_eq_true rfl, Nat.le_of_ble_eq_true rfl⟩) ⟨cIn_blind, va_recv hK hP (ci := 20) (q0 := 0) rfl rfl, cIn_go hK hP hD hE hS hA [0, 1] rfl rfl (by decide) [] rfl⟩ rfl rfl hl.1 rfl (lv_room (Nat.le_of_ble_eq_true rfl)) dX14_stage_2 ⟨Nat.le_of_ble_eq_true rfl, Nat.le_of_ble_eq_true rfl⟩) hS (fun q _ h => hFc q h) hFc (fun r_1 u t H1 locs ht hvm hw hB hz1 hk1 hS => ?_)
  obtain ⟨hP1, hK1, hD1⟩ := hB
  rw [ht] at hP1
  have hK1 := va_K.moved hvm.symm hK1
  obtain ⟨hP, hD⟩ := va_join (wr := []) (w1 := [(h, .inr (20, [.int 1, .ref m1, .int 0, .int 0, .ref m2, .ref m3, .int 0, .int 4, .int (-40), .ref m4, .int 0, .int 20, .int 0, .ref m5, .ref fr, .int 100, .int 60, .int 14, .ref m6, .ref m7, .ref m8]))]) hP hD [0, 1] [] rfl rfl (by decide) (by decide) hk1 hFc hP1 hD1
  generalize H1 = H at hP hS ⊢
  have hP : va_P D vwCl [(h, .inr (20, [.int 1, .ref m1, .int 0, .int 0, .ref m2, .ref m3, .int 0, .int 4, .int (-40), .ref m4, .int 0, .int 20, .int 0, .ref m5, .ref fr, .int 100, .int 60, .int 14, .ref m6, .ref m7, .ref m8]))] H := hP
  have hD : va_D A [(h, .inr (20, [.int 1, .ref m1, .int 0, .int 0, .ref m2, .ref m3, .int 0, .int 4, .int (-40), .ref m4, .int 0, .int 20, .int 0, .ref m5, .ref fr, .int 100, .int 60, .int 14, .ref m6, .ref m7, .ref m8]))] := hD
  have hw : r_1 = 1 := hw.trans (by first | rfl | decide +kernel)
  subst hw
  refine lv_if_eq (tgt := 12) hx hb dX14_stage_5 (by decide) (fun c_3 => absurd c_3 (show ¬ ((1 : Int32) = 0) from by decide +kernel)) (fun c_3 => ?_)
  refine lv_iconst (v := 0) hx hb dX14_stage_8 (by decide) ?_
  refine lv_goto (tgt := 28) hx hb dX14_stage_9 (by decide) ?_
  exact W.zret (v := 0) hx hb hr (by first | rfl | decide +kernel) (fun t ht hW => ⟨⟨0, ((1, [.ref m1, .int 0, .int 0, .ref m2, .ref m3, .int 0, .int 4, .int (-40), .ref m4, .int 0, .int 20, .int 0, .ref m5, .ref fr, .int 100, .int 60, .int 14, .ref m6, .ref m7, .ref m8]) : Int32 × List Value), rfl, ⟨rfl, rfl⟩, ⟨by rw [ht]; exact hP.sub [0] rfl, va_K.moved hW.alike (hK.sub [] rfl), hD.sub [0] (by decide) rfl⟩⟩, hS.F ht⟩) hS.2.2 dX14_stage_28
-- X14_state
def v_X14_state (p0 : Int32) : Int32 := 0
def k_X14_state (p0 : Int32) : Int32 := 1
set_option maxHeartbeats 4000000 in
set_option maxRecDepth 100000 in
theorem c_X14_state (l : Launch) (hst : l.stackTraces = false) (D : va_G) (e : Nat) (h : Nat) (m1 : Nat) (m2 : Nat) (m3 : Nat) (m4 : Nat) (m5 : Nat) (m6 : Nat) (m7 : Nat) (m8 : Nat) (fr : Nat) (p0 : Int32) (sz : Nat) : Met l yX14_state wsX14_state ({ frames := 16, cells := 0, slots := 0, locals := 340 }) (va_Pc [.ref h, .int p0] (cIn D [] [(h, .inr (20, [.int 0, .ref m1, .int 0, .int 0, .ref m2, .ref m3, .int 0, .int 4, .int (-40), .ref m4, .int 0, .int 20, .int 0, .ref m5, .ref fr, .int 100, .int 60, .int 14, .ref m6, .ref m7, .ref m8])), (m7, .inr (5, [.int 0, .ref e, .int 0]))] e sz)) (va_Qi (fun (r : Int32) (u : Int32 × List Value) => u.1 = k_X14_state p0 ∧ r = v_X14_state p0) (fun (u : Int32 × List Value) (t : State) => va_P D vwCl [(h, .inr (20, .int u.1 :: u.2))] t.heap ∧ va_K D vwCl [] t ∧ va_D (va_A [(h, .inr (20, [.int 0, .ref m1, .int 0, .int 0, .ref m2, .ref m3, .int 0, .int 4, .int (-40), .ref m4, .int 0, .int 20, .int 0, .ref m5, .ref fr, .int 100, .int 60, .int 14, .ref m6, .ref m7, .ref m8])), (m7, .inr (5, [.int 0, .ref e, .int 0]))] sz) [(h, .inr (20, .int u.1 :: u.2))]) (va_A [(h, .inr (20, [.int 0, .ref m1, .int 0, .int 0, .ref m2, .ref m3, .int 0, .int 4, .int (-40), .ref m4, .int 0, .int 20, .int 0, .ref m5, .ref fr, .int 100, .int 60, .int 14, .ref m6, .ref m7, .ref m8])), (m7, .inr (5, [.int 0, .ref e, .int 0]))] sz)) 0 0 (va_A [(h, .inr (20, [.int 0, .ref m1, .int 0, .int 0, .ref m2, .ref m3, .int 0, .int 4, .int (-40), .ref m4, .int 0, .int 20, .int 0, .ref m5, .ref fr, .int 100, .int 60, .int 14, .ref m6, .ref m7, .ref m8])), (m7, .inr (5, [.int 0, .ref e, .int 0]))] sz) := by
  refine Met.ofW (cc := cX14_state) (maxL := 2) (ret := (some .int)) (by decide +kernel) rfl ?_
  intro p e9 s m args below meth c s₁ B hml hv
  obtain ⟨rfl, hsz, hP, hK, hD0, hE0⟩ := hv
  have hx := B.exec
  have hb := B.bytes
  have hr := B.returns
  have hts := atoms_spec (ws := wsX14_state) B.pre
  have hown : s.vm.findClass RX14 = some m.cls := findClass_of_methodNamed B.named
  have hlocks := B.notSynchronized
  subst hsz
  have hD := hD0.self (sz := s.heap.size)
  generalize hAe : va_A [(h, .inr (20, [.int 0, .ref m1, .int 0, .int 0, .ref m2, .ref m3, .int 0, .int 4, .int (-40), .ref m4, .int 0, .int 20, .int 0, .ref m5, .ref fr, .int 100, .int 60, .int 14, .ref m6, .ref m7, .ref m8])), (m7, .inr (5, [.int 0, .ref e, .int 0]))] s.heap.size = A at hD hE0 ⊢
  have hA : ∀ q : Nat, s.heap.size ≤ q → A q := fun q h => by rw [← hAe]; exact Or.inr h
  have hS : va_S A s.heap s.heap [] := va_S.rf
  have hE := hE0
  have hP : va_P D vwCl [(h, .inr (20, [.int 0, .ref m1, .int 0, .int 0, .ref m2, .ref m3, .int 0, .int 4, .int (-40), .ref m4, .int 0, .int 20, .int 0, .ref m5, .ref fr, .int 100, .int 60, .int 14, .ref m6, .ref m7, .ref m8])), (m7, .inr (5, [.int 0, .ref e, .int 0]))] s.heap := hP
  have hl := lv_entry ([.ref h, .int p0]) (n := 2) (Nat.le_of_ble_eq_true rfl)
  rw [lg_entry_eq]
  generalize (lg_sl ([.ref h, .int p0]) ++ List.replicate (2 - (lg_sl ([.ref h, .int p0])).length) Slot.unset).toArray = ls at hl ⊢
  have hl : lv_has ls 2 [(0, .ref h), (1, .int p0)] := hl
  refine lv_aload_n hx hb dX14_state_0 rfl (lv_at hl 0 rfl) ?_
  refine lv_iload_n hx hb dX14_state_1 rfl (lv_at hl 1 rfl) ?_
  have hFc := va_free (wc := [(h, .inr (20, [.int 0, .ref m1, .int 0, .int 0, .ref m2, .ref m3, .int 0, .int 4, .int (-40), .ref m4, .int 0, .int 20, .int 0, .ref m5, .ref fr, .int 100, .int 60, .int 14, .ref m6, .ref m7, .ref m8])), (m7, .inr (5, [.int 0, .ref e, .int 0]))]) hD hS hA [0, 1] rfl
  refine va_calli (va_runV (As := [.int p0]) (rest := []) ⟨hx, hb, hml, hown, hts⟩ (c_X14_isNoPack l hst D e h m1 m2 m3 m4 m5 m6 m7 m8 fr p0 s.heap.size) (cwV 1 hts gX14_state_X14_isNoPack rfl rfl rfl (by decide +kernel) ⟨Nat.le_of_ble_eq_true rfl, Nat.le_of_ble_eq_true rfl⟩) ⟨cIn_blind, va_recv hK hP (ci := 20) (q0 := 0) rfl rfl, cIn_go hK hP hD hE hS hA [0, 1] rfl rfl (by decide) [] rfl⟩ rfl rfl hl.1 rfl (lv_room (Nat.le_of_ble_eq_true rfl)) dX14_state_2 ⟨Nat.le_of_ble_eq_true rfl, Nat.le_of_ble_eq_true rfl⟩) hS (fun q _ h => hFc q h) hFc (fun r_1 u t H1 locs ht hvm hw hB hz1 hk1 hS => ?_)
  obtain ⟨hP1, hK1, hD1⟩ := hB
  rw [ht] at hP1
  have hK1 := va_K.moved hvm.symm hK1
  obtain ⟨hP, hD⟩ := va_join (wr := []) (w1 := [(h, .inr (20, [.int 1, .ref m1, .int 0, .int 0, .ref m2, .ref m3, .int 0, .int 4, .int (-40), .ref m4, .int 0, .int 20, .int 0, .ref m5, .ref fr, .int 100, .int 60, .int 14, .ref m6, .ref m7, .ref m8]))]) hP hD [0, 1] [] rfl rfl (by decide) (by decide) hk1 hFc hP1 hD1
  generalize H1 = H at hP hS ⊢
  have hP : va_P D vwCl [(h, .inr (20, [.int 1, .ref m1, .int 0, .int 0, .ref m2, .ref m3, .int 0, .int 4, .int (-40), .ref m4, .int 0, .int 20, .int 0, .ref m5, .ref fr, .int 100, .int 60, .int 14, .ref m6, .ref m7, .ref m8]))] H := hP
  have hD : va_D A [(h, .inr (20, [.int 1, .ref m1, .int 0, .int 0, .ref m2, .ref m3, .int 0, .int 4, .int (-40), .ref m4, .int 0, .int 20, .int 0, .ref m5, .ref fr, .int 100, .int 60, .int 14, .ref m6, .ref m7, .ref m8]))] := hD
  have hw : r_1 = 1 := hw.trans (by first | rfl | decide +kernel)
  subst hw
  refine lv_if_eq (tgt := 12) hx hb dX14_state_5 (by decide) (fun c_3 => absurd c_3 (show ¬ ((1 : Int32) = 0) from by decide +kernel)) (fun c_3 => ?_)
  refine lv_iconst (v := 0) hx hb dX14_state_8 (by decide) ?_
  refine lv_goto (tgt := 28) hx hb dX14_state_9 (by decide) ?_
  exact W.iret (v := 0) hx hb hr (fun t ht hW => ⟨⟨0, ((1, [.ref m1, .int 0, .int 0, .ref m2, .ref m3, .int 0, .int 4, .int (-40), .ref m4, .int 0, .int 20, .int 0, .ref m5, .ref fr, .int 100, .int 60, .int 14, .ref m6, .ref m7, .ref m8]) : Int32 × List Value), rfl, ⟨rfl, rfl⟩, ⟨by rw [ht]; exact hP.sub [0] rfl, va_K.moved hW.alike (hK.sub [] rfl), hD.sub [0] (by decide) rfl⟩⟩, hS.F ht⟩) hS.2.2 dX14_state_28
-- X14_recount
def v_X14_recount (p0 : Int32) : Int32 := 0
def k_X14_recount (p0 : Int32) : Int32 := 1
set_option maxHeartbeats 4000000 in
set_option maxRecDepth 100000 in
theorem c_X14_recount (l : Launch) (hst : l.stackTraces = false) (D : va_G) (e : Nat) (h : Nat) (m1 : Nat) (m2 : Nat) (m3 : Nat) (m4 : Nat) (m5 : Nat) (m6 : Nat) (m7 : Nat) (m8 : Nat) (fr : Nat) (p0 : Int32) (sz : Nat) : Met l yX14_recount wsX14_recount ({ frames := 16, cells := 0, slots := 0, locals := 340 }) (va_Pc [.ref h, .int p0] (cIn D [] [(h, .inr (20, [.int 0, .ref m1, .int 0, .int 0, .ref m2, .ref m3, .int 0, .int 4, .int (-40), .ref m4, .int 0, .int 20, .int 0, .ref m5, .ref fr, .int 100, .int 60, .int 14, .ref m6, .ref m7, .ref m8])), (m7, .inr (5, [.int 0, .ref e, .int 0]))] e sz)) (va_Qi (fun (r : Int32) (u : Int32 × List Value) => u.1 = k_X14_recount p0 ∧ r = v_X14_recount p0) (fun (u : Int32 × List Value) (t : State) => va_P D vwCl [(h, .inr (20, .int u.1 :: u.2))] t.heap ∧ va_K D vwCl [] t ∧ va_D (va_A [(h, .inr (20, [.int 0, .ref m1, .int 0, .int 0, .ref m2, .ref m3, .int 0, .int 4, .int (-40), .ref m4, .int 0, .int 20, .int 0, .ref m5, .ref fr, .int 100, .int 60, .int 14, .ref m6, .ref m7, .ref m8])), (m7, .inr (5, [.int 0, .ref e, .int 0]))] sz) [(h, .inr (20, .int u.1 :: u.2))]) (va_A [(h, .inr (20, [.int 0, .ref m1, .int 0, .int 0, .ref m2, .ref m3, .int 0, .int 4, .int (-40), .ref m4, .int 0, .int 20, .int 0, .ref m5, .ref fr, .int 100, .int 60, .int 14, .ref m6, .ref m7, .ref m8])), (m7, .inr (5, [.int 0, .ref e, .int 0]))] sz)) 0 0 (va_A [(h, .inr (20, [.int 0, .ref m1, .int 0, .int 0, .ref m2, .ref m3, .int 0, .int 4, .int (-40), .ref m4, .int 0, .int 20, .int 0, .ref m5, .ref fr, .int 100, .int 60, .int 14, .ref m6, .ref m7, .ref m8])), (m7, .inr (5, [.int 0, .ref e, .int 0]))] sz) := by
  refine Met.ofW (cc := cX14_recount) (maxL := 4) (ret := (some .int)) (by decide +kernel) rfl ?_
  intro p e9 s m args below meth c s₁ B hml hv
  obtain ⟨rfl, hsz, hP, hK, hD0, hE0⟩ := hv
  have hx := B.exec
  have hb := B.bytes
  have hr := B.returns
  have hts := atoms_spec (ws := wsX14_recount) B.pre
  have hown : s.vm.findClass RX14 = some m.cls := findClass_of_methodNamed B.named
  have hlocks := B.notSynchronized
  subst hsz
  have hD := hD0.self (sz := s.heap.size)
  generalize hAe : va_A [(h, .inr (20, [.int 0, .ref m1, .int 0, .int 0, .ref m2, .ref m3, .int 0, .int 4, .int (-40), .ref m4, .int 0, .int 20, .int 0, .ref m5, .ref fr, .int 100, .int 60, .int 14, .ref m6, .ref m7, .ref m8])), (m7, .inr (5, [.int 0, .ref e, .int 0]))] s.heap.size = A at hD hE0 ⊢
  have hA : ∀ q : Nat, s.heap.size ≤ q → A q := fun q h => by rw [← hAe]; exact Or.inr h
  have hS : va_S A s.heap s.heap [] := va_S.rf
  have hE := hE0
  have hP : va_P D vwCl [(h, .inr (20, [.int 0, .ref m1, .int 0, .int 0, .ref m2, .ref m3, .int 0, .int 4, .int (-40), .ref m4, .int 0, .int 20, .int 0, .ref m5, .ref fr, .int 100, .int 60, .int 14, .ref m6, .ref m7, .ref m8])), (m7, .inr (5, [.int 0, .ref e, .int 0]))] s.heap := hP
  have hl := lv_entry ([.ref h, .int p0]) (n := 4) (Nat.le_of_ble_eq_true rfl)
  rw [lg_entry_eq]
  generalize (lg_sl ([.ref h, .int p0]) ++ List.replicate (4 - (lg_sl ([.ref h, .int p0])).length) Slot.unset).toArray = ls at hl ⊢
  have hl : lv_has ls 4 [(0, .ref h), (1, .int p0)] := hl
  refine lv_aload_n hx hb dX14_recount_0 rfl (lv_at hl 0 rfl) ?_
  refine lv_iload_n hx hb dX14_recount_1 rfl (lv_at hl 1 rfl) ?_
  have hFc := va_free (wc := [(h, .inr (20, [.int 0, .ref m1, .int 0, .int 0, .ref m2, .ref m3, .int 0, .int 4, .int (-40), .ref m4, .int 0, .int 20, .int 0, .ref m5, .ref fr, .int 100, .int 60, .int 14, .ref m6, .ref m7, .ref m8])), (m7, .inr (5, [.int 0, .ref e, .int 0]))]) hD hS hA [0, 1] rfl
  refine va_calli (va_runV (As := [.int p0]) (rest := []) ⟨hx, hb, hml, hown, hts⟩ (c_X14_isNoPack l hst D e h m1 m2 m3 m4 m5 m6 m7 m8 fr p0 s.heap.size) (cwV 1 hts gX14_recount_X14_isNoPack rfl rfl rfl (by decide +kernel) ⟨Nat.le_of_ble_eq_true rfl, Nat.le_of_ble_eq_true rfl⟩) ⟨cIn_blind, va_recv hK hP (ci := 20) (q0 := 0) rfl rfl, cIn_go hK hP hD hE hS hA [0, 1] rfl rfl (by decide) [] rfl⟩ rfl rfl hl.1 rfl (lv_room (Nat.le_of_ble_eq_true rfl)) dX14_recount_2 ⟨Nat.le_of_ble_eq_true rfl, Nat.le_of_ble_eq_true rfl⟩) hS (fun q _ h => hFc q h) hFc (fun r_1 u t H1 locs ht hvm hw hB hz1 hk1 hS => ?_)
  obtain ⟨hP1, hK1, hD1⟩ := hB
  rw [ht] at hP1
  have hK1 := va_K.moved hvm.symm hK1
  obtain ⟨hP, hD⟩ := va_join (wr := []) (w1 := [(h, .inr (20, [.int 1, .ref m1, .int 0, .int 0, .ref m2, .ref m3, .int 0, .int 4, .int (-40), .ref m4, .int 0, .int 20, .int 0, .ref m5, .ref fr, .int 100, .int 60, .int 14, .ref m6, .ref m7, .ref m8]))]) hP hD [0, 1] [] rfl rfl (by decide) (by decide) hk1 hFc hP1 hD1
  generalize H1 = H at hP hS ⊢
  have hP : va_P D vwCl [(h, .inr (20, [.int 1, .ref m1, .int 0, .int 0, .ref m2, .ref m3, .int 0, .int 4, .int (-40), .ref m4, .int 0, .int 20, .int 0, .ref m5, .ref fr, .int 100, .int 60, .int 14, .ref m6, .ref m7, .ref m8]))] H := hP
  have hD : va_D A [(h, .inr (20, [.int 1, .ref m1, .int 0, .int 0, .ref m2, .ref m3, .int 0, .int 4, .int (-40), .ref m4, .int 0, .int 20, .int 0, .ref m5, .ref fr, .int 100, .int 60, .int 14, .ref m6, .ref m7, .ref m8]))] := hD
  have hw : r_1 = 1 := hw.trans (by first | rfl | decide +kernel)
  subst hw
  refine lv_if_eq (tgt := 10) hx hb dX14_recount_5 (by decide) (fun c_3 => absurd c_3 (show ¬ ((1 : Int32) = 0) from by decide +kernel)) (fun c_3 => ?_)
  refine lv_iconst (v := 0) hx hb dX14_recount_8 (by decide) ?_
  exact W.iret (v := 0) hx hb hr (fun t ht hW => ⟨⟨0, ((1, [.ref m1, .int 0, .int 0, .ref m2, .ref m3, .int 0, .int 4, .int (-40), .ref m4, .int 0, .int 20, .int 0, .ref m5, .ref fr, .int 100, .int 60, .int 14, .ref m6, .ref m7, .ref m8]) : Int32 × List Value), rfl, ⟨rfl, rfl⟩, ⟨by rw [ht]; exact hP.sub [0] rfl, va_K.moved hW.alike (hK.sub [] rfl), hD.sub [0] (by decide) rfl⟩⟩, hS.F ht⟩) hS.2.2 dX14_recount_9
-- X14_balance
def v_X14_balance (p0 : Int32) : Int32 := 0
def k_X14_balance (p0 : Int32) : Int32 := 1
set_option maxHeartbeats 4000000 in
set_option maxRecDepth 100000 in
theorem c_X14_balance (l : Launch) (hst : l.stackTraces = false) (D : va_G) (e : Nat) (h : Nat) (m1 : Nat) (m2 : Nat) (m3 : Nat) (m4 : Nat) (m5 : Nat) (m6 : Nat) (m7 : Nat) (m8 : Nat) (fr : Nat) (p0 : Int32) (sz : Nat) : Met l yX14_balance wsX14_balance ({ frames := 16, cells := 0, slots := 0, locals := 340 }) (va_Pc [.ref h, .int p0] (cIn D [] [(h, .inr (20, [.int 0, .ref m1, .int 0, .int 0, .ref m2, .ref m3, .int 0, .int 4, .int (-40), .ref m4, .int 0, .int 20, .int 0, .ref m5, .ref fr, .int 100, .int 60, .int 14, .ref m6, .ref m7, .ref m8])), (m7, .inr (5, [.int 0, .ref e, .int 0]))] e sz)) (va_Qi (fun (r : Int32) (u : Int32 × List Value) => u.1 = k_X14_balance p0 ∧ r = v_X14_balance p0) (fun (u : Int32 × List Value) (t : State) => va_P D vwCl [(h, .inr (20, .int u.1 :: u.2))] t.heap ∧ va_K D vwCl [] t ∧ va_D (va_A [(h, .inr (20, [.int 0, .ref m1, .int 0, .int 0, .ref m2, .ref m3, .int 0, .int 4, .int (-40), .ref m4, .int 0, .int 20, .int 0, .ref m5, .ref fr, .int 100, .int 60, .int 14, .ref m6, .ref m7, .ref m8])), (m7, .inr (5, [.int 0, .ref e, .int 0]))] sz) [(h, .inr (20, .int u.1 :: u.2))]) (va_A [(h, .inr (20, [.int 0, .ref m1, .int 0, .int 0, .ref m2, .ref m3, .int 0, .int 4, .int (-40), .ref m4, .int 0, .int 20, .int 0, .ref m5, .ref fr, .int 100, .int 60, .int 14, .ref m6, .ref m7, .ref m8])), (m7, .inr (5, [.int 0, .ref e, .int 0]))] sz)) 0 0 (va_A [(h, .inr (20, [.int 0, .ref m1, .int 0, .int 0, .ref m2, .ref m3, .int 0, .int 4, .int (-40), .ref m4, .int 0, .int 20, .int 0, .ref m5, .ref fr, .int 100, .int 60, .int 14, .ref m6, .ref m7, .ref m8])), (m7, .inr (5, [.int 0, .ref e, .int 0]))] sz) := by
  refine Met.ofW (cc := cX14_balance) (maxL := 6) (ret := (some .int)) (by decide +kernel) rfl ?_
  intro p e9 s m args below meth c s₁ B hml hv
  obtain ⟨rfl, hsz, hP, hK, hD0, hE0⟩ := hv
  have hx := B.exec
  have hb := B.bytes
  have hr := B.returns
  have hts := atoms_spec (ws := wsX14_balance) B.pre
  have hown : s.vm.findClass RX14 = some m.cls := findClass_of_methodNamed B.named
  have hlocks := B.notSynchronized
  subst hsz
  have hD := hD0.self (sz := s.heap.size)
  generalize hAe : va_A [(h, .inr (20, [.int 0, .ref m1, .int 0, .int 0, .ref m2, .ref m3, .int 0, .int 4, .int (-40), .ref m4, .int 0, .int 20, .int 0, .ref m5, .ref fr, .int 100, .int 60, .int 14, .ref m6, .ref m7, .ref m8])), (m7, .inr (5, [.int 0, .ref e, .int 0]))] s.heap.size = A at hD hE0 ⊢
  have hA : ∀ q : Nat, s.heap.size ≤ q → A q := fun q h => by rw [← hAe]; exact Or.inr h
  have hS : va_S A s.heap s.heap [] := va_S.rf
  have hE := hE0
  have hP : va_P D vwCl [(h, .inr (20, [.int 0, .ref m1, .int 0, .int 0, .ref m2, .ref m3, .int 0, .int 4, .int (-40), .ref m4, .int 0, .int 20, .int 0, .ref m5, .ref fr, .int 100, .int 60, .int 14, .ref m6, .ref m7, .ref m8])), (m7, .inr (5, [.int 0, .ref e, .int 0]))] s.heap := hP
  have hl := lv_entry ([.ref h, .int p0]) (n := 6) (Nat.le_of_ble_eq_true rfl)
  rw [lg_entry_eq]
  generalize (lg_sl ([.ref h, .int p0]) ++ List.replicate (6 - (lg_sl ([.ref h, .int p0])).length) Slot.unset).toArray = ls at hl ⊢
  have hl : lv_has ls 6 [(0, .ref h), (1, .int p0)] := hl
  refine lv_aload_n hx hb dX14_balance_0 rfl (lv_at hl 0 rfl) ?_
  refine lv_iload_n hx hb dX14_balance_1 rfl (lv_at hl 1 rfl) ?_
  have hFc := va_free (wc := [(h, .inr (20, [.int 0, .ref m1, .int 0, .int 0, .ref m2, .ref m3, .int 0, .int 4, .int (-40), .ref m4, .int 0, .int 20, .int 0, .ref m5, .ref fr, .int 100, .int 60, .int 14, .ref m6, .ref m7, .ref m8])), (m7, .inr (5, [.int 0, .ref e, .int 0]))]) hD hS hA [0, 1] rfl
  refine va_calli (va_runV (As := [.int p0]) (rest := []) ⟨hx, hb, hml, hown, hts⟩ (c_X14_isNoPack l hst D e h m1 m2 m3 m4 m5 m6 m7 m8 fr p0 s.heap.size) (cwV 1 hts gX14_balance_X14_isNoPack rfl rfl rfl (by decide +kernel) ⟨Nat.le_of_ble_eq_true rfl, Nat.le_of_ble_eq_true rfl⟩) ⟨cIn_blind, va_recv hK hP (ci := 20) (q0 := 0) rfl rfl, cIn_go hK hP hD hE hS hA [0, 1] rfl rfl (by decide) [] rfl⟩ rfl rfl hl.1 rfl (lv_room (Nat.le_of_ble_eq_true rfl)) dX14_balance_2 ⟨Nat.le_of_ble_eq_true rfl, Nat.le_of_ble_eq_true rfl⟩) hS (fun q _ h => hFc q h) hFc (fun r_1 u t H1 locs ht hvm hw hB hz1 hk1 hS => ?_)
  obtain ⟨hP1, hK1, hD1⟩ := hB
  rw [ht] at hP1
  have hK1 := va_K.moved hvm.symm hK1
  obtain ⟨hP, hD⟩ := va_join (wr := []) (w1 := [(h, .inr (20, [.int 1, .ref m1, .int 0, .int 0, .ref m2, .ref m3, .int 0, .int 4, .int (-40), .ref m4, .int 0, .int 20, .int 0, .ref m5, .ref fr, .int 100, .int 60, .int 14, .ref m6, .ref m7, .ref m8]))]) hP hD [0, 1] [] rfl rfl (by decide) (by decide) hk1 hFc hP1 hD1
  generalize H1 = H at hP hS ⊢
  have hP : va_P D vwCl [(h, .inr (20, [.int 1, .ref m1, .int 0, .int 0, .ref m2, .ref m3, .int 0, .int 4, .int (-40), .ref m4, .int 0, .int 20, .int 0, .ref m5, .ref fr, .int 100, .int 60, .int 14, .ref m6, .ref m7, .ref m8]))] H := hP
  have hD : va_D A [(h, .inr (20, [.int 1, .ref m1, .int 0, .int 0, .ref m2, .ref m3, .int 0, .int 4, .int (-40), .ref m4, .int 0, .int 20, .int 0, .ref m5, .ref fr, .int 100, .int 60, .int 14, .ref m6, .ref m7, .ref m8]))] := hD
  have hw : r_1 = 1 := hw.trans (by first | rfl | decide +kernel)
  subst hw
  refine lv_if_eq (tgt := 10) hx hb dX14_balance_5 (by decide) (fun c_3 => absurd c_3 (show ¬ ((1 : Int32) = 0) from by decide +kernel)) (fun c_3 => ?_)
  refine lv_iconst (v := 0) hx hb dX14_balance_8 (by decide) ?_
  exact W.iret (v := 0) hx hb hr (fun t ht hW => ⟨⟨0, ((1, [.ref m1, .int 0, .int 0, .ref m2, .ref m3, .int 0, .int 4, .int (-40), .ref m4, .int 0, .int 20, .int 0, .ref m5, .ref fr, .int 100, .int 60, .int 14, .ref m6, .ref m7, .ref m8]) : Int32 × List Value), rfl, ⟨rfl, rfl⟩, ⟨by rw [ht]; exact hP.sub [0] rfl, va_K.moved hW.alike (hK.sub [] rfl), hD.sub [0] (by decide) rfl⟩⟩, hS.F ht⟩) hS.2.2 dX14_balance_9
-- X14_doubt
def v_X14_doubt (p0 : Int32) (p1 : Int32) (p2 : Int32) : Int32 := 0
def k_X14_doubt (p0 : Int32) (p1 : Int32) (p2 : Int32) : Int32 := 1
set_option maxHeartbeats 4000000 in
set_option maxRecDepth 100000 in
theorem c_X14_doubt (l : Launch) (hst : l.stackTraces = false) (D : va_G) (e : Nat) (h : Nat) (m1 : Nat) (m2 : Nat) (m3 : Nat) (m4 : Nat) (m5 : Nat) (m6 : Nat) (m7 : Nat) (m8 : Nat) (fr : Nat) (p0 : Int32) (p1 : Int32) (p2 : Int32) (sz : Nat) : Met l yX14_doubt wsX14_doubt ({ frames := 16, cells := 0, slots := 0, locals := 340 }) (va_Pc [.ref h, .int p0, .int p1, .int p2] (cIn D [] [(h, .inr (20, [.int 0, .ref m1, .int 0, .int 0, .ref m2, .ref m3, .int 0, .int 4, .int (-40), .ref m4, .int 0, .int 20, .int 0, .ref m5, .ref fr, .int 100, .int 60, .int 14, .ref m6, .ref m7, .ref m8])), (m2, .inr (5, [.int 0, .ref e, .int 0]))] e sz)) (va_Qi (fun (r : Int32) (u : Int32 × List Value) => u.1 = k_X14_doubt p0 p1 p2 ∧ r = v_X14_doubt p0 p1 p2) (fun (u : Int32 × List Value) (t : State) => va_P D vwCl [(h, .inr (20, .int u.1 :: u.2))] t.heap ∧ va_K D vwCl [] t ∧ va_D (va_A [(h, .inr (20, [.int 0, .ref m1, .int 0, .int 0, .ref m2, .ref m3, .int 0, .int 4, .int (-40), .ref m4, .int 0, .int 20, .int 0, .ref m5, .ref fr, .int 100, .int 60, .int 14, .ref m6, .ref m7, .ref m8])), (m2, .inr (5, [.int 0, .ref e, .int 0]))] sz) [(h, .inr (20, .int u.1 :: u.2))]) (va_A [(h, .inr (20, [.int 0, .ref m1, .int 0, .int 0, .ref m2, .ref m3, .int 0, .int 4, .int (-40), .ref m4, .int 0, .int 20, .int 0, .ref m5, .ref fr, .int 100, .int 60, .int 14, .ref m6, .ref m7, .ref m8])), (m2, .inr (5, [.int 0, .ref e, .int 0]))] sz)) 0 0 (va_A [(h, .inr (20, [.int 0, .ref m1, .int 0, .int 0, .ref m2, .ref m3, .int 0, .int 4, .int (-40), .ref m4, .int 0, .int 20, .int 0, .ref m5, .ref fr, .int 100, .int 60, .int 14, .ref m6, .ref m7, .ref m8])), (m2, .inr (5, [.int 0, .ref e, .int 0]))] sz) := by
  refine Met.ofW (cc := cX14_doubt) (maxL := 4) (ret := (some .int)) (by decide +kernel) rfl ?_
  intro p e9 s m args below meth c s₁ B hml hv
  obtain ⟨rfl, hsz, hP, hK, hD0, hE0⟩ := hv
  have hx := B.exec
  have hb := B.bytes
  have hr := B.returns
  have hts := atoms_spec (ws := wsX14_doubt) B.pre
  have hown : s.vm.findClass RX14 = some m.cls := findClass_of_methodNamed B.named
  have hlocks := B.notSynchronized
  subst hsz
  have hD := hD0.self (sz := s.heap.size)
  generalize hAe : va_A [(h, .inr (20, [.int 0, .ref m1, .int 0, .int 0, .ref m2, .ref m3, .int 0, .int 4, .int (-40), .ref m4, .int 0, .int 20, .int 0, .ref m5, .ref fr, .int 100, .int 60, .int 14, .ref m6, .ref m7, .ref m8])), (m2, .inr (5, [.int 0, .ref e, .int 0]))] s.heap.size = A at hD hE0 ⊢
  have hA : ∀ q : Nat, s.heap.size ≤ q → A q := fun q h => by rw [← hAe]; exact Or.inr h
  have hS : va_S A s.heap s.heap [] := va_S.rf
  have hE := hE0
  have hP : va_P D vwCl [(h, .inr (20, [.int 0, .ref m1, .int 0, .int 0, .ref m2, .ref m3, .int 0, .int 4, .int (-40), .ref m4, .int 0, .int 20, .int 0, .ref m5, .ref fr, .int 100, .int 60, .int 14, .ref m6, .ref m7, .ref m8])), (m2, .inr (5, [.int 0, .ref e, .int 0]))] s.heap := hP
  have hl := lv_entry ([.ref h, .int p0, .int p1, .int p2]) (n := 4) (Nat.le_of_ble_eq_true rfl)
  rw [lg_entry_eq]
  generalize (lg_sl ([.ref h, .int p0, .int p1, .int p2]) ++ List.replicate (4 - (lg_sl ([.ref h, .int p0, .int p1, .int p2])).length) Slot.unset).toArray = ls at hl ⊢
  have hl : lv_has ls 4 [(0, .ref h), (1, .int p0), (2, .int p1), (3, .int p2)] := hl
  refine lv_aload_n hx hb dX14_doubt_0 rfl (lv_at hl 0 rfl) ?_
  refine lv_aload_n hx hb dX14_doubt_1 rfl (lv_at hl 0 rfl) ?_
  refine lv_iload_n hx hb dX14_doubt_2 rfl (lv_at hl 1 rfl) ?_
  refine lv_iload_n hx hb dX14_doubt_3 rfl (lv_at hl 2 rfl) ?_
  refine vp_callSi (va_Run.run (va_runV (As := [.int p0, .int p1]) (rest := [.ref h]) ⟨hx, hb, hml, hown, hts⟩ (c_X14_isMetre l hst D e h m1 m2 m3 m4 m5 m6 m7 m8 fr p0 p1 s.heap.size) (cwV 2 hts gX14_doubt_X14_isMetre rfl rfl rfl (by decide +kernel) ⟨Nat.le_of_ble_eq_true rfl, Nat.le_of_ble_eq_true rfl⟩) ⟨cIn_blind, va_recv hK hP (ci := 20) (q0 := 0) rfl rfl, cIn_go hK hP hD hE hS hA [0, 1] rfl rfl (by decide) [] rfl⟩ rfl rfl hl.1 rfl (lv_room (Nat.le_of_ble_eq_true rfl)) dX14_doubt_4 ⟨Nat.le_of_ble_eq_true rfl, Nat.le_of_ble_eq_true rfl⟩)) (fun r_1 hw => ?_)
  have hw : r_1 = 0 := hw.trans (by first | rfl | decide +kernel)
  subst hw
  refine lv_if_eq (tgt := 19) hx hb dX14_doubt_7 (by decide) (fun c_2 => ?_) (fun c_2 => absurd (show (0 : Int32) = 0 from by decide +kernel) c_2)
  refine lv_iconst (v := 1) hx hb dX14_doubt_19 (by decide) ?_
  refine lv_goto (tgt := 51) hx hb dX14_doubt_20 (by decide) ?_
  have hFc := va_free (wc := [(h, .inr (20, [.int 0, .ref m1, .int 0, .int 0, .ref m2, .ref m3, .int 0, .int 4, .int (-40), .ref m4, .int 0, .int 20, .int 0, .ref m5, .ref fr, .int 100, .int 60, .int 14, .ref m6, .ref m7, .ref m8]))]) hD hS hA [0] rfl
  refine va_calli (va_runV (As := [.int 1]) (rest := []) ⟨hx, hb, hml, hown, hts⟩ (c_X14_isWrong l hst D e h 0 ([.ref m1, .int 0, .int 0, .ref m2, .ref m3, .int 0, .int 4, .int (-40), .ref m4, .int 0, .int 20, .int 0, .ref m5, .ref fr, .int 100, .int 60, .int 14, .ref m6, .ref m7, .ref m8]) 1 s.heap.size) (cwV 1 hts gX14_doubt_X14_isWrong rfl rfl rfl (by decide +kernel) ⟨Nat.le_of_ble_eq_true rfl, Nat.le_of_ble_eq_true rfl⟩) ⟨cIn_blind, va_recv hK hP (ci := 20) (q0 := 0) rfl rfl, cIn_go hK hP hD hE hS hA [0] rfl rfl (by decide) [] rfl⟩ rfl rfl hl.1 rfl (lv_room (Nat.le_of_ble_eq_true rfl)) dX14_doubt_51 ⟨Nat.le_of_ble_eq_true rfl, Nat.le_of_ble_eq_true rfl⟩) hS (fun q _ h => hFc q h) hFc (fun r_3 u t H1 locs ht hvm hw hB hz1 hk1 hS => ?_)
  obtain ⟨hP1, hK1, hD1⟩ := hB
  rw [ht] at hP1
  have hK1 := va_K.moved hvm.symm hK1
  obtain ⟨hP, hD⟩ := va_join (wr := [(m2, .inr (5, [.int 0, .ref e, .int 0]))]) (w1 := [(h, .inr (20, [.int 1, .ref m1, .int 0, .int 0, .ref m2, .ref m3, .int 0, .int 4, .int (-40), .ref m4, .int 0, .int 20, .int 0, .ref m5, .ref fr, .int 100, .int 60, .int 14, .ref m6, .ref m7, .ref m8]))]) hP hD [0] [1] rfl rfl (by decide) (by decide) hk1 hFc hP1 hD1
  generalize H1 = H at hP hS ⊢
  have hP : va_P D vwCl [(m2, .inr (5, [.int 0, .ref e, .int 0])), (h, .inr (20, [.int 1, .ref m1, .int 0, .int 0, .ref m2, .ref m3, .int 0, .int 4, .int (-40), .ref m4, .int 0, .int 20, .int 0, .ref m5, .ref fr, .int 100, .int 60, .int 14, .ref m6, .ref m7, .ref m8]))] H := hP
  have hD : va_D A [(m2, .inr (5, [.int 0, .ref e, .int 0])), (h, .inr (20, [.int 1, .ref m1, .int 0, .int 0, .ref m2, .ref m3, .int 0, .int 4, .int (-40), .ref m4, .int 0, .int 20, .int 0, .ref m5, .ref fr, .int 100, .int 60, .int 14, .ref m6, .ref m7, .ref m8]))] := hD
  have hw : r_3 = 1 := hw.trans (by first | rfl | decide +kernel)
  subst hw
  refine lv_if_eq (tgt := 59) hx hb dX14_doubt_54 (by decide) (fun c_5 => absurd c_5 (show ¬ ((1 : Int32) = 0) from by decide +kernel)) (fun c_5 => ?_)
  refine lv_iconst (v := 0) hx hb dX14_doubt_57 (by decide) ?_
  exact W.iret (v := 0) hx hb hr (fun t ht hW => ⟨⟨0, ((1, [.ref m1, .int 0, .int 0, .ref m2, .ref m3, .int 0, .int 4, .int (-40), .ref m4, .int 0, .int 20, .int 0, .ref m5, .ref fr, .int 100, .int 60, .int 14, .ref m6, .ref m7, .ref m8]) : Int32 × List Value), rfl, ⟨rfl, rfl⟩, ⟨by rw [ht]; exact hP.sub [1] rfl, va_K.moved hW.alike (hK.sub [] rfl), hD.sub [1] (by decide) rfl⟩⟩, hS.F ht⟩) hS.2.2 dX14_doubt_58
-- X14_clear
def v_X14_clear (p0 : Int32) : Int32 := 0
def k_X14_clear (p0 : Int32) : Int32 := 1
set_option maxHeartbeats 4000000 in
set_option maxRecDepth 100000 in
theorem c_X14_clear (l : Launch) (hst : l.stackTraces = false) (D : va_G) (e : Nat) (h : Nat) (m1 : Nat) (m2 : Nat) (m3 : Nat) (m4 : Nat) (m5 : Nat) (m6 : Nat) (m7 : Nat) (m8 : Nat) (fr : Nat) (p0 : Int32) (sz : Nat) : Met l yX14_clear wsX14_clear ({ frames := 16, cells := 0, slots := 0, locals := 340 }) (va_Pc [.ref h, .int p0] (cIn D [] [(h, .inr (20, [.int 0, .ref m1, .int 0, .int 0, .ref m2, .ref m3, .int 0, .int 4, .int (-40), .ref m4, .int 0, .int 20, .int 0, .ref m5, .ref fr, .int 100, .int 60, .int 14, .ref m6, .ref m7, .ref m8])), (m8, .inr (5, [.int 0, .ref e, .int 0]))] e sz)) (va_Qi (fun (r : Int32) (u : Int32 × List Value) => u.1 = k_X14_clear p0 ∧ r = v_X14_clear p0) (fun (u : Int32 × List Value) (t : State) => va_P D vwCl [(h, .inr (20, .int u.1 :: u.2))] t.heap ∧ va_K D vwCl [] t ∧ va_D (va_A [(h, .inr (20, [.int 0, .ref m1, .int 0, .int 0, .ref m2, .ref m3, .int 0, .int 4, .int (-40), .ref m4, .int 0, .int 20, .int 0, .ref m5, .ref fr, .int 100, .int 60, .int 14, .ref m6, .ref m7, .ref m8])), (m8, .inr (5, [.int 0, .ref e, .int 0]))] sz) [(h, .inr (20, .int u.1 :: u.2))]) (va_A [(h, .inr (20, [.int 0, .ref m1, .int 0, .int 0, .ref m2, .ref m3, .int 0, .int 4, .int (-40), .ref m4, .int 0, .int 20, .int 0, .ref m5, .ref fr, .int 100, .int 60, .int 14, .ref m6, .ref m7, .ref m8])), (m8, .inr (5, [.int 0, .ref e, .int 0]))] sz)) 0 0 (va_A [(h, .inr (20, [.int 0, .ref m1, .int 0, .int 0, .ref m2, .ref m3, .int 0, .int 4, .int (-40), .ref m4, .int 0, .int 20, .int 0, .ref m5, .ref fr, .int 100, .int 60, .int 14, .ref m6, .ref m7, .ref m8])), (m8, .inr (5, [.int 0, .ref e, .int 0]))] sz) := by
  refine Met.ofW (cc := cX14_clear) (maxL := 6) (ret := (some .int)) (by decide +kernel) rfl ?_
  intro p e9 s m args below meth c s₁ B hml hv
  obtain ⟨rfl, hsz, hP, hK, hD0, hE0⟩ := hv
  have hx := B.exec
  have hb := B.bytes
  have hr := B.returns
  have hts := atoms_spec (ws := wsX14_clear) B.pre
  have hown : s.vm.findClass RX14 = some m.cls := findClass_of_methodNamed B.named
  have hlocks := B.notSynchronized
  subst hsz
  have hD := hD0.self (sz := s.heap.size)
  generalize hAe : va_A [(h, .inr (20, [.int 0, .ref m1, .int 0, .int 0, .ref m2, .ref m3, .int 0, .int 4, .int (-40), .ref m4, .int 0, .int 20, .int 0, .ref m5, .ref fr, .int 100, .int 60, .int 14, .ref m6, .ref m7, .ref m8])), (m8, .inr (5, [.int 0, .ref e, .int 0]))] s.heap.size = A at hD hE0 ⊢
  have hA : ∀ q : Nat, s.heap.size ≤ q → A q := fun q h => by rw [← hAe]; exact Or.inr h
  have hS : va_S A s.heap s.heap [] := va_S.rf
  have hE := hE0
  have hP : va_P D vwCl [(h, .inr (20, [.int 0, .ref m1, .int 0, .int 0, .ref m2, .ref m3, .int 0, .int 4, .int (-40), .ref m4, .int 0, .int 20, .int 0, .ref m5, .ref fr, .int 100, .int 60, .int 14, .ref m6, .ref m7, .ref m8])), (m8, .inr (5, [.int 0, .ref e, .int 0]))] s.heap := hP
  have hl := lv_entry ([.ref h, .int p0]) (n := 6) (Nat.le_of_ble_eq_true rfl)
  rw [lg_entry_eq]
  generalize (lg_sl ([.ref h, .int p0]) ++ List.replicate (6 - (lg_sl ([.ref h, .int p0])).length) Slot.unset).toArray = ls at hl ⊢
  have hl : lv_has ls 6 [(0, .ref h), (1, .int p0)] := hl
  refine lv_aload_n hx hb dX14_clear_0 rfl (lv_at hl 0 rfl) ?_
  refine lv_aload_n hx hb dX14_clear_1 rfl (lv_at hl 0 rfl) ?_
  refine va_get (D := D) (ci := 20) (v := .ref m8) (C := RX14) (T := TX14) (N := 21) hx hb hts iw_RX14_wsX14_clear hown hK hP 0 rfl rfl 20 (by decide) (hts (.fieldLink RX14 57 "CoatLineModel" "doubts" "Ljava/util/List;") (by decide +kernel)) (fun _ h9 => h9) rfl dX14_clear_2 ?_
  refine lv_iload_n hx hb dX14_clear_5 rfl (lv_at hl 1 rfl) ?_
  refine vp_callSi (va_Run.run (va_runS (As := [.ref m8, .int p0]) (rest := [.ref h]) ⟨hx, hb, hml, hown, hts⟩ (c_X14_isOf l hst D e m8 0 e p0 s.heap.size) (va_cwS 2 hts gX14_clear_X14_isOf rfl rfl rfl (by decide +kernel) ⟨Nat.le_of_ble_eq_true rfl, Nat.le_of_ble_eq_true rfl⟩) ⟨cIn_blind, cIn_go hK hP hD hE hS hA [1] rfl rfl (by decide) [] rfl⟩ rfl rfl hl.1 rfl (lv_room (Nat.le_of_ble_eq_true rfl)) dX14_clear_6 ⟨Nat.le_of_ble_eq_true rfl, Nat.le_of_ble_eq_true rfl⟩)) (fun r_1 hw => ?_)
  have hw : r_1 = 0 := hw.trans (by first | rfl | decide +kernel)
  subst hw
  refine lv_if_ne (tgt := 16) hx hb dX14_clear_9 (by decide) (fun c_2 => absurd (show (0 : Int32) = 0 from by decide +kernel) c_2) (fun c_2 => ?_)
  refine lv_iconst (v := 1) hx hb dX14_clear_12 (by decide) ?_
  refine lv_goto (tgt := 40) hx hb dX14_clear_13 (by decide) ?_
  have hFc := va_free (wc := [(h, .inr (20, [.int 0, .ref m1, .int 0, .int 0, .ref m2, .ref m3, .int 0, .int 4, .int (-40), .ref m4, .int 0, .int 20, .int 0, .ref m5, .ref fr, .int 100, .int 60, .int 14, .ref m6, .ref m7, .ref m8]))]) hD hS hA [0] rfl
  refine va_calli (va_runV (As := [.int 1]) (rest := []) ⟨hx, hb, hml, hown, hts⟩ (c_X14_isWrong l hst D e h 0 ([.ref m1, .int 0, .int 0, .ref m2, .ref m3, .int 0, .int 4, .int (-40), .ref m4, .int 0, .int 20, .int 0, .ref m5, .ref fr, .int 100, .int 60, .int 14, .ref m6, .ref m7, .ref m8]) 1 s.heap.size) (cwV 1 hts gX14_clear_X14_isWrong rfl rfl rfl (by decide +kernel) ⟨Nat.le_of_ble_eq_true rfl, Nat.le_of_ble_eq_true rfl⟩) ⟨cIn_blind, va_recv hK hP (ci := 20) (q0 := 0) rfl rfl, cIn_go hK hP hD hE hS hA [0] rfl rfl (by decide) [] rfl⟩ rfl rfl hl.1 rfl (lv_room (Nat.le_of_ble_eq_true rfl)) dX14_clear_40 ⟨Nat.le_of_ble_eq_true rfl, Nat.le_of_ble_eq_true rfl⟩) hS (fun q _ h => hFc q h) hFc (fun r_3 u t H1 locs ht hvm hw hB hz1 hk1 hS => ?_)
  obtain ⟨hP1, hK1, hD1⟩ := hB
  rw [ht] at hP1
  have hK1 := va_K.moved hvm.symm hK1
  obtain ⟨hP, hD⟩ := va_join (wr := [(m8, .inr (5, [.int 0, .ref e, .int 0]))]) (w1 := [(h, .inr (20, [.int 1, .ref m1, .int 0, .int 0, .ref m2, .ref m3, .int 0, .int 4, .int (-40), .ref m4, .int 0, .int 20, .int 0, .ref m5, .ref fr, .int 100, .int 60, .int 14, .ref m6, .ref m7, .ref m8]))]) hP hD [0] [1] rfl rfl (by decide) (by decide) hk1 hFc hP1 hD1
  generalize H1 = H at hP hS ⊢
  have hP : va_P D vwCl [(m8, .inr (5, [.int 0, .ref e, .int 0])), (h, .inr (20, [.int 1, .ref m1, .int 0, .int 0, .ref m2, .ref m3, .int 0, .int 4, .int (-40), .ref m4, .int 0, .int 20, .int 0, .ref m5, .ref fr, .int 100, .int 60, .int 14, .ref m6, .ref m7, .ref m8]))] H := hP
  have hD : va_D A [(m8, .inr (5, [.int 0, .ref e, .int 0])), (h, .inr (20, [.int 1, .ref m1, .int 0, .int 0, .ref m2, .ref m3, .int 0, .int 4, .int (-40), .ref m4, .int 0, .int 20, .int 0, .ref m5, .ref fr, .int 100, .int 60, .int 14, .ref m6, .ref m7, .ref m8]))] := hD
  have hw : r_3 = 1 := hw.trans (by first | rfl | decide +kernel)
  subst hw
  refine lv_if_eq (tgt := 48) hx hb dX14_clear_43 (by decide) (fun c_5 => absurd c_5 (show ¬ ((1 : Int32) = 0) from by decide +kernel)) (fun c_5 => ?_)
  refine lv_iconst (v := 0) hx hb dX14_clear_46 (by decide) ?_
  exact W.iret (v := 0) hx hb hr (fun t ht hW => ⟨⟨0, ((1, [.ref m1, .int 0, .int 0, .ref m2, .ref m3, .int 0, .int 4, .int (-40), .ref m4, .int 0, .int 20, .int 0, .ref m5, .ref fr, .int 100, .int 60, .int 14, .ref m6, .ref m7, .ref m8]) : Int32 × List Value), rfl, ⟨rfl, rfl⟩, ⟨by rw [ht]; exact hP.sub [1] rfl, va_K.moved hW.alike (hK.sub [] rfl), hD.sub [1] (by decide) rfl⟩⟩, hS.F ht⟩) hS.2.2 dX14_clear_47
-- X14_isCovered
def v_X14_isCovered (p0 : Int32) : Int32 := 0
def k_X14_isCovered (p0 : Int32) : Int32 := 1
set_option maxHeartbeats 4000000 in
set_option maxRecDepth 100000 in
theorem c_X14_isCovered (l : Launch) (hst : l.stackTraces = false) (D : va_G) (e : Nat) (h : Nat) (m1 : Nat) (m2 : Nat) (m3 : Nat) (m4 : Nat) (m5 : Nat) (m6 : Nat) (m7 : Nat) (m8 : Nat) (fr : Nat) (p0 : Int32) (sz : Nat) : Met l yX14_isCovered wsX14_isCovered ({ frames := 16, cells := 0, slots := 0, locals := 340 }) (va_Pc [.ref h, .int p0] (cIn D [] [(h, .inr (20, [.int 0, .ref m1, .int 0, .int 0, .ref m2, .ref m3, .int 0, .int 4, .int (-40), .ref m4, .int 0, .int 20, .int 0, .ref m5, .ref fr, .int 100, .int 60, .int 14, .ref m6, .ref m7, .ref m8])), (m4, .inr (5, [.int 0, .ref e, .int 0]))] e sz)) (va_Qi (fun (r : Int32) (u : Int32 × List Value) => u.1 = k_X14_isCovered p0 ∧ r = v_X14_isCovered p0) (fun (u : Int32 × List Value) (t : State) => va_P D vwCl [(h, .inr (20, .int u.1 :: u.2))] t.heap ∧ va_K D vwCl [] t ∧ va_D (va_A [(h, .inr (20, [.int 0, .ref m1, .int 0, .int 0, .ref m2, .ref m3, .int 0, .int 4, .int (-40), .ref m4, .int 0, .int 20, .int 0, .ref m5, .ref fr, .int 100, .int 60, .int 14, .ref m6, .ref m7, .ref m8])), (m4, .inr (5, [.int 0, .ref e, .int 0]))] sz) [(h, .inr (20, .int u.1 :: u.2))]) (va_A [(h, .inr (20, [.int 0, .ref m1, .int 0, .int 0, .ref m2, .ref m3, .int 0, .int 4, .int (-40), .ref m4, .int 0, .int 20, .int 0, .ref m5, .ref fr, .int 100, .int 60, .int 14, .ref m6, .ref m7, .ref m8])), (m4, .inr (5, [.int 0, .ref e, .int 0]))] sz)) 0 0 (va_A [(h, .inr (20, [.int 0, .ref m1, .int 0, .int 0, .ref m2, .ref m3, .int 0, .int 4, .int (-40), .ref m4, .int 0, .int 20, .int 0, .ref m5, .ref fr, .int 100, .int 60, .int 14, .ref m6, .ref m7, .ref m8])), (m4, .inr (5, [.int 0, .ref e, .int 0]))] sz) := by
  refine Met.ofW (cc := cX14_isCovered) (maxL := 2) (ret := (some .boolean)) (by decide +kernel) rfl ?_
  intro p e9 s m args below meth c s₁ B hml hv
  obtain ⟨rfl, hsz, hP, hK, hD0, hE0⟩ := hv
  have hx := B.exec
  have hb := B.bytes
  have hr := B.returns
  have hts := atoms_spec (ws := wsX14_isCovered) B.pre
  have hown : s.vm.findClass RX14 = some m.cls := findClass_of_methodNamed B.named
  have hlocks := B.notSynchronized
  subst hsz
  have hD := hD0.self (sz := s.heap.size)
  generalize hAe : va_A [(h, .inr (20, [.int 0, .ref m1, .int 0, .int 0, .ref m2, .ref m3, .int 0, .int 4, .int (-40), .ref m4, .int 0, .int 20, .int 0, .ref m5, .ref fr, .int 100, .int 60, .int 14, .ref m6, .ref m7, .ref m8])), (m4, .inr (5, [.int 0, .ref e, .int 0]))] s.heap.size = A at hD hE0 ⊢
  have hA : ∀ q : Nat, s.heap.size ≤ q → A q := fun q h => by rw [← hAe]; exact Or.inr h
  have hS : va_S A s.heap s.heap [] := va_S.rf
  have hE := hE0
  have hP : va_P D vwCl [(h, .inr (20, [.int 0, .ref m1, .int 0, .int 0, .ref m2, .ref m3, .int 0, .int 4, .int (-40), .ref m4, .int 0, .int 20, .int 0, .ref m5, .ref fr, .int 100, .int 60, .int 14, .ref m6, .ref m7, .ref m8])), (m4, .inr (5, [.int 0, .ref e, .int 0]))] s.heap := hP
  have hl := lv_entry ([.ref h, .int p0]) (n := 2) (Nat.le_of_ble_eq_true rfl)
  rw [lg_entry_eq]
  generalize (lg_sl ([.ref h, .int p0]) ++ List.replicate (2 - (lg_sl ([.ref h, .int p0])).length) Slot.unset).toArray = ls at hl ⊢
  have hl : lv_has ls 2 [(0, .ref h), (1, .int p0)] := hl
  refine lv_aload_n hx hb dX14_isCovered_0 rfl (lv_at hl 0 rfl) ?_
  refine lv_aload_n hx hb dX14_isCovered_1 rfl (lv_at hl 0 rfl) ?_
  refine va_get (D := D) (ci := 20) (v := .ref m4) (C := RX14) (T := TX14) (N := 21) hx hb hts iw_RX14_wsX14_isCovered hown hK hP 0 rfl rfl 9 (by decide) (hts (.fieldLink RX14 29 "CoatLineModel" "cells" "Ljava/util/List;") (by decide +kernel)) (fun _ h9 => h9) rfl dX14_isCovered_2 ?_
  refine lv_iload_n hx hb dX14_isCovered_5 rfl (lv_at hl 1 rfl) ?_
  refine vp_callSi (va_Run.run (va_runS (As := [.ref m4, .int p0]) (rest := [.ref h]) ⟨hx, hb, hml, hown, hts⟩ (c_X14_isOf l hst D e m4 0 e p0 s.heap.size) (va_cwS 2 hts gX14_isCovered_X14_isOf rfl rfl rfl (by decide +kernel) ⟨Nat.le_of_ble_eq_true rfl, Nat.le_of_ble_eq_true rfl⟩) ⟨cIn_blind, cIn_go hK hP hD hE hS hA [1] rfl rfl (by decide) [] rfl⟩ rfl rfl hl.1 rfl (lv_room (Nat.le_of_ble_eq_true rfl)) dX14_isCovered_6 ⟨Nat.le_of_ble_eq_true rfl, Nat.le_of_ble_eq_true rfl⟩)) (fun r_1 hw => ?_)
  have hw : r_1 = 0 := hw.trans (by first | rfl | decide +kernel)
  subst hw
  refine lv_if_eq (tgt := 16) hx hb dX14_isCovered_9 (by decide) (fun c_2 => ?_) (fun c_2 => absurd (show (0 : Int32) = 0 from by decide +kernel) c_2)
  refine lv_iconst (v := 1) hx hb dX14_isCovered_16 (by decide) ?_
  have hFc := va_free (wc := [(h, .inr (20, [.int 0, .ref m1, .int 0, .int 0, .ref m2, .ref m3, .int 0, .int 4, .int (-40), .ref m4, .int 0, .int 20, .int 0, .ref m5, .ref fr, .int 100, .int 60, .int 14, .ref m6, .ref m7, .ref m8]))]) hD hS hA [0] rfl
  refine va_calli (va_runV (As := [.int 1]) (rest := []) ⟨hx, hb, hml, hown, hts⟩ (c_X14_isWrong l hst D e h 0 ([.ref m1, .int 0, .int 0, .ref m2, .ref m3, .int 0, .int 4, .int (-40), .ref m4, .int 0, .int 20, .int 0, .ref m5, .ref fr, .int 100, .int 60, .int 14, .ref m6, .ref m7, .ref m8]) 1 s.heap.size) (cwV 1 hts gX14_isCovered_X14_isWrong rfl rfl rfl (by decide +kernel) ⟨Nat.le_of_ble_eq_true rfl, Nat.le_of_ble_eq_true rfl⟩) ⟨cIn_blind, va_recv hK hP (ci := 20) (q0 := 0) rfl rfl, cIn_go hK hP hD hE hS hA [0] rfl rfl (by decide) [] rfl⟩ rfl rfl hl.1 rfl (lv_room (Nat.le_of_ble_eq_true rfl)) dX14_isCovered_17 ⟨Nat.le_of_ble_eq_true rfl, Nat.le_of_ble_eq_true rfl⟩) hS (fun q _ h => hFc q h) hFc (fun r_3 u t H1 locs ht hvm hw hB hz1 hk1 hS => ?_)
  obtain ⟨hP1, hK1, hD1⟩ := hB
  rw [ht] at hP1
  have hK1 := va_K.moved hvm.symm hK1
  obtain ⟨hP, hD⟩ := va_join (wr := [(m4, .inr (5, [.int 0, .ref e, .int 0]))]) (w1 := [(h, .inr (20, [.int 1, .ref m1, .int 0, .int 0, .ref m2, .ref m3, .int 0, .int 4, .int (-40), .ref m4, .int 0, .int 20, .int 0, .ref m5, .ref fr, .int 100, .int 60, .int 14, .ref m6, .ref m7, .ref m8]))]) hP hD [0] [1] rfl rfl (by decide) (by decide) hk1 hFc hP1 hD1
  generalize H1 = H at hP hS ⊢
  have hP : va_P D vwCl [(m4, .inr (5, [.int 0, .ref e, .int 0])), (h, .inr (20, [.int 1, .ref m1, .int 0, .int 0, .ref m2, .ref m3, .int 0, .int 4, .int (-40), .ref m4, .int 0, .int 20, .int 0, .ref m5, .ref fr, .int 100, .int 60, .int 14, .ref m6, .ref m7, .ref m8]))] H := hP
  have hD : va_D A [(m4, .inr (5, [.int 0, .ref e, .int 0])), (h, .inr (20, [.int 1, .ref m1, .int 0, .int 0, .ref m2, .ref m3, .int 0, .int 4, .int (-40), .ref m4, .int 0, .int 20, .int 0, .ref m5, .ref fr, .int 100, .int 60, .int 14, .ref m6, .ref m7, .ref m8]))] := hD
  have hw : r_3 = 1 := hw.trans (by first | rfl | decide +kernel)
  subst hw
  refine lv_if_ne (tgt := 47) hx hb dX14_isCovered_20 (by decide) (fun c_5 => ?_) (fun c_5 => absurd c_5 (show ¬ ((1 : Int32) = 0) from by decide +kernel))
  refine lv_iconst (v := 0) hx hb dX14_isCovered_47 (by decide) ?_
  exact W.zret (v := 0) hx hb hr (by first | rfl | decide +kernel) (fun t ht hW => ⟨⟨0, ((1, [.ref m1, .int 0, .int 0, .ref m2, .ref m3, .int 0, .int 4, .int (-40), .ref m4, .int 0, .int 20, .int 0, .ref m5, .ref fr, .int 100, .int 60, .int 14, .ref m6, .ref m7, .ref m8]) : Int32 × List Value), rfl, ⟨rfl, rfl⟩, ⟨by rw [ht]; exact hP.sub [1] rfl, va_K.moved hW.alike (hK.sub [] rfl), hD.sub [1] (by decide) rfl⟩⟩, hS.F ht⟩) hS.2.2 dX14_isCovered_48
-- X14_isRecalled
def v_X14_isRecalled (p0 : Int32) : Int32 := 0
def k_X14_isRecalled (p0 : Int32) : Int32 := 1
set_option maxHeartbeats 4000000 in
set_option maxRecDepth 100000 in
theorem c_X14_isRecalled (l : Launch) (hst : l.stackTraces = false) (D : va_G) (e : Nat) (h : Nat) (m1 : Nat) (m2 : Nat) (m3 : Nat) (m4 : Nat) (m5 : Nat) (m6 : Nat) (m7 : Nat) (m8 : Nat) (fr : Nat) (p0 : Int32) (sz : Nat) : Met l yX14_isRecalled wsX14_isRecalled ({ frames := 16, cells := 0, slots := 0, locals := 340 }) (va_Pc [.ref h, .int p0] (cIn D [] [(h, .inr (20, [.int 0, .ref m1, .int 0, .int 0, .ref m2, .ref m3, .int 0, .int 4, .int (-40), .ref m4, .int 0, .int 20, .int 0, .ref m5, .ref fr, .int 100, .int 60, .int 14, .ref m6, .ref m7, .ref m8])), (m7, .inr (5, [.int 0, .ref e, .int 0]))] e sz)) (va_Qi (fun (r : Int32) (u : Int32 × List Value) => u.1 = k_X14_isRecalled p0 ∧ r = v_X14_isRecalled p0) (fun (u : Int32 × List Value) (t : State) => va_P D vwCl [(h, .inr (20, .int u.1 :: u.2))] t.heap ∧ va_K D vwCl [] t ∧ va_D (va_A [(h, .inr (20, [.int 0, .ref m1, .int 0, .int 0, .ref m2, .ref m3, .int 0, .int 4, .int (-40), .ref m4, .int 0, .int 20, .int 0, .ref m5, .ref fr, .int 100, .int 60, .int 14, .ref m6, .ref m7, .ref m8])), (m7, .inr (5, [.int 0, .ref e, .int 0]))] sz) [(h, .inr (20, .int u.1 :: u.2))]) (va_A [(h, .inr (20, [.int 0, .ref m1, .int 0, .int 0, .ref m2, .ref m3, .int 0, .int 4, .int (-40), .ref m4, .int 0, .int 20, .int 0, .ref m5, .ref fr, .int 100, .int 60, .int 14, .ref m6, .ref m7, .ref m8])), (m7, .inr (5, [.int 0, .ref e, .int 0]))] sz)) 0 0 (va_A [(h, .inr (20, [.int 0, .ref m1, .int 0, .int 0, .ref m2, .ref m3, .int 0, .int 4, .int (-40), .ref m4, .int 0, .int 20, .int 0, .ref m5, .ref fr, .int 100, .int 60, .int 14, .ref m6, .ref m7, .ref m8])), (m7, .inr (5, [.int 0, .ref e, .int 0]))] sz) := by
  refine Met.ofW (cc := cX14_isRecalled) (maxL := 2) (ret := (some .boolean)) (by decide +kernel) rfl ?_
  intro p e9 s m args below meth c s₁ B hml hv
  obtain ⟨rfl, hsz, hP, hK, hD0, hE0⟩ := hv
  have hx := B.exec
  have hb := B.bytes
  have hr := B.returns
  have hts := atoms_spec (ws := wsX14_isRecalled) B.pre
  have hown : s.vm.findClass RX14 = some m.cls := findClass_of_methodNamed B.named
  have hlocks := B.notSynchronized
  subst hsz
  have hD := hD0.self (sz := s.heap.size)
  generalize hAe : va_A [(h, .inr (20, [.int 0, .ref m1, .int 0, .int 0, .ref m2, .ref m3, .int 0, .int 4, .int (-40), .ref m4, .int 0, .int 20, .int 0, .ref m5, .ref fr, .int 100, .int 60, .int 14, .ref m6, .ref m7, .ref m8])), (m7, .inr (5, [.int 0, .ref e, .int 0]))] s.heap.size = A at hD hE0 ⊢
  have hA : ∀ q : Nat, s.heap.size ≤ q → A q := fun q h => by rw [← hAe]; exact Or.inr h
  have hS : va_S A s.heap s.heap [] := va_S.rf
  have hE := hE0
  have hP : va_P D vwCl [(h, .inr (20, [.int 0, .ref m1, .int 0, .int 0, .ref m2, .ref m3, .int 0, .int 4, .int (-40), .ref m4, .int 0, .int 20, .int 0, .ref m5, .ref fr, .int 100, .int 60, .int 14, .ref m6, .ref m7, .ref m8])), (m7, .inr (5, [.int 0, .ref e, .int 0]))] s.heap := hP
  have hl := lv_entry ([.ref h, .int p0]) (n := 2) (Nat.le_of_ble_eq_true rfl)
  rw [lg_entry_eq]
  generalize (lg_sl ([.ref h, .int p0]) ++ List.replicate (2 - (lg_sl ([.ref h, .int p0])).length) Slot.unset).toArray = ls at hl ⊢
  have hl : lv_has ls 2 [(0, .ref h), (1, .int p0)] := hl
  refine lv_aload_n hx hb dX14_isRecalled_0 rfl (lv_at hl 0 rfl) ?_
  refine lv_iload_n hx hb dX14_isRecalled_1 rfl (lv_at hl 1 rfl) ?_
  have hFc := va_free (wc := [(h, .inr (20, [.int 0, .ref m1, .int 0, .int 0, .ref m2, .ref m3, .int 0, .int 4, .int (-40), .ref m4, .int 0, .int 20, .int 0, .ref m5, .ref fr, .int 100, .int 60, .int 14, .ref m6, .ref m7, .ref m8])), (m7, .inr (5, [.int 0, .ref e, .int 0]))]) hD hS hA [0, 1] rfl
  refine va_calli (va_runV (As := [.int p0]) (rest := []) ⟨hx, hb, hml, hown, hts⟩ (c_X14_isNoPack l hst D e h m1 m2 m3 m4 m5 m6 m7 m8 fr p0 s.heap.size) (cwV 1 hts gX14_isRecalled_X14_isNoPack rfl rfl rfl (by decide +kernel) ⟨Nat.le_of_ble_eq_true rfl, Nat.le_of_ble_eq_true rfl⟩) ⟨cIn_blind, va_recv hK hP (ci := 20) (q0 := 0) rfl rfl, cIn_go hK hP hD hE hS hA [0, 1] rfl rfl (by decide) [] rfl⟩ rfl rfl hl.1 rfl (lv_room (Nat.le_of_ble_eq_true rfl)) dX14_isRecalled_2 ⟨Nat.le_of_ble_eq_true rfl, Nat.le_of_ble_eq_true rfl⟩) hS (fun q _ h => hFc q h) hFc (fun r_1 u t H1 locs ht hvm hw hB hz1 hk1 hS => ?_)
  obtain ⟨hP1, hK1, hD1⟩ := hB
  rw [ht] at hP1
  have hK1 := va_K.moved hvm.symm hK1
  obtain ⟨hP, hD⟩ := va_join (wr := []) (w1 := [(h, .inr (20, [.int 1, .ref m1, .int 0, .int 0, .ref m2, .ref m3, .int 0, .int 4, .int (-40), .ref m4, .int 0, .int 20, .int 0, .ref m5, .ref fr, .int 100, .int 60, .int 14, .ref m6, .ref m7, .ref m8]))]) hP hD [0, 1] [] rfl rfl (by decide) (by decide) hk1 hFc hP1 hD1
  generalize H1 = H at hP hS ⊢
  have hP : va_P D vwCl [(h, .inr (20, [.int 1, .ref m1, .int 0, .int 0, .ref m2, .ref m3, .int 0, .int 4, .int (-40), .ref m4, .int 0, .int 20, .int 0, .ref m5, .ref fr, .int 100, .int 60, .int 14, .ref m6, .ref m7, .ref m8]))] H := hP
  have hD : va_D A [(h, .inr (20, [.int 1, .ref m1, .int 0, .int 0, .ref m2, .ref m3, .int 0, .int 4, .int (-40), .ref m4, .int 0, .int 20, .int 0, .ref m5, .ref fr, .int 100, .int 60, .int 14, .ref m6, .ref m7, .ref m8]))] := hD
  have hw : r_1 = 1 := hw.trans (by first | rfl | decide +kernel)
  subst hw
  refine lv_if_ne (tgt := 32) hx hb dX14_isRecalled_5 (by decide) (fun c_3 => ?_) (fun c_3 => absurd c_3 (show ¬ ((1 : Int32) = 0) from by decide +kernel))
  refine lv_iconst (v := 0) hx hb dX14_isRecalled_32 (by decide) ?_
  exact W.zret (v := 0) hx hb hr (by first | rfl | decide +kernel) (fun t ht hW => ⟨⟨0, ((1, [.ref m1, .int 0, .int 0, .ref m2, .ref m3, .int 0, .int 4, .int (-40), .ref m4, .int 0, .int 20, .int 0, .ref m5, .ref fr, .int 100, .int 60, .int 14, .ref m6, .ref m7, .ref m8]) : Int32 × List Value), rfl, ⟨rfl, rfl⟩, ⟨by rw [ht]; exact hP.sub [0] rfl, va_K.moved hW.alike (hK.sub [] rfl), hD.sub [0] (by decide) rfl⟩⟩, hS.F ht⟩) hS.2.2 dX14_isRecalled_33
-- X14_sisters
def v_X14_sisters (p0 : Int32) : Int32 := 0
def k_X14_sisters (p0 : Int32) : Int32 := 1
set_option maxHeartbeats 4000000 in
set_option maxRecDepth 100000 in
theorem c_X14_sisters (l : Launch) (hst : l.stackTraces = false) (D : va_G) (e : Nat) (h : Nat) (m1 : Nat) (m2 : Nat) (m3 : Nat) (m4 : Nat) (m5 : Nat) (m6 : Nat) (m7 : Nat) (m8 : Nat) (fr : Nat) (p0 : Int32) (sz : Nat) : Met l yX14_sisters wsX14_sisters ({ frames := 16, cells := 0, slots := 0, locals := 340 }) (va_Pc [.ref h, .int p0] (cIn D [] [(h, .inr (20, [.int 0, .ref m1, .int 0, .int 0, .ref m2, .ref m3, .int 0, .int 4, .int (-40), .ref m4, .int 0, .int 20, .int 0, .ref m5, .ref fr, .int 100, .int 60, .int 14, .ref m6, .ref m7, .ref m8])), (m4, .inr (5, [.int 0, .ref e, .int 0]))] e sz)) (va_Qi (fun (r : Int32) (u : Int32 × List Value) => u.1 = k_X14_sisters p0 ∧ r = v_X14_sisters p0) (fun (u : Int32 × List Value) (t : State) => va_P D vwCl [(h, .inr (20, .int u.1 :: u.2))] t.heap ∧ va_K D vwCl [] t ∧ va_D (va_A [(h, .inr (20, [.int 0, .ref m1, .int 0, .int 0, .ref m2, .ref m3, .int 0, .int 4, .int (-40), .ref m4, .int 0, .int 20, .int 0, .ref m5, .ref fr, .int 100, .int 60, .int 14, .ref m6, .ref m7, .ref m8])), (m4, .inr (5, [.int 0, .ref e, .int 0]))] sz) [(h, .inr (20, .int u.1 :: u.2))]) (va_A [(h, .inr (20, [.int 0, .ref m1, .int 0, .int 0, .ref m2, .ref m3, .int 0, .int 4, .int (-40), .ref m4, .int 0, .int 20, .int 0, .ref m5, .ref fr, .int 100, .int 60, .int 14, .ref m6, .ref m7, .ref m8])), (m4, .inr (5, [.int 0, .ref e, .int 0]))] sz)) 0 0 (va_A [(h, .inr (20, [.int 0, .ref m1, .int 0, .int 0, .ref m2, .ref m3, .int 0, .int 4, .int (-40), .ref m4, .int 0, .int 20, .int 0, .ref m5, .ref fr, .int 100, .int 60, .int 14, .ref m6, .ref m7, .ref m8])), (m4, .inr (5, [.int 0, .ref e, .int 0]))] sz) := by
  refine Met.ofW (cc := cX14_sisters) (maxL := 5) (ret := (some .int)) (by decide +kernel) rfl ?_
  intro p e9 s m args below meth c s₁ B hml hv
  obtain ⟨rfl, hsz, hP, hK, hD0, hE0⟩ := hv
  have hx := B.exec
  have hb := B.bytes
  have hr := B.returns
  have hts := atoms_spec (ws := wsX14_sisters) B.pre
  have hown : s.vm.findClass RX14 = some m.cls := findClass_of_methodNamed B.named
  have hlocks := B.notSynchronized
  subst hsz
  have hD := hD0.self (sz := s.heap.size)
  generalize hAe : va_A [(h, .inr (20, [.int 0, .ref m1, .int 0, .int 0, .ref m2, .ref m3, .int 0, .int 4, .int (-40), .ref m4, .int 0, .int 20, .int 0, .ref m5, .ref fr, .int 100, .int 60, .int 14, .ref m6, .ref m7, .ref m8])), (m4, .inr (5, [.int 0, .ref e, .int 0]))] s.heap.size = A at hD hE0 ⊢
  have hA : ∀ q : Nat, s.heap.size ≤ q → A q := fun q h => by rw [← hAe]; exact Or.inr h
  have hS : va_S A s.heap s.heap [] := va_S.rf
  have hE := hE0
  have hP : va_P D vwCl [(h, .inr (20, [.int 0, .ref m1, .int 0, .int 0, .ref m2, .ref m3, .int 0, .int 4, .int (-40), .ref m4, .int 0, .int 20, .int 0, .ref m5, .ref fr, .int 100, .int 60, .int 14, .ref m6, .ref m7, .ref m8])), (m4, .inr (5, [.int 0, .ref e, .int 0]))] s.heap := hP
  have hl := lv_entry ([.ref h, .int p0]) (n := 5) (Nat.le_of_ble_eq_true rfl)
  rw [lg_entry_eq]
  generalize (lg_sl ([.ref h, .int p0]) ++ List.replicate (5 - (lg_sl ([.ref h, .int p0])).length) Slot.unset).toArray = ls at hl ⊢
  have hl : lv_has ls 5 [(0, .ref h), (1, .int p0)] := hl
  refine lv_aload_n hx hb dX14_sisters_0 rfl (lv_at hl 0 rfl) ?_
  refine lv_aload_n hx hb dX14_sisters_1 rfl (lv_at hl 0 rfl) ?_
  refine va_get (D := D) (ci := 20) (v := .ref m4) (C := RX14) (T := TX14) (N := 21) hx hb hts iw_RX14_wsX14_sisters hown hK hP 0 rfl rfl 9 (by decide) (hts (.fieldLink RX14 29 "CoatLineModel" "cells" "Ljava/util/List;") (by decide +kernel)) (fun _ h9 => h9) rfl dX14_sisters_2 ?_
  refine lv_iload_n hx hb dX14_sisters_5 rfl (lv_at hl 1 rfl) ?_
  refine vp_callSi (va_Run.run (va_runS (As := [.ref m4, .int p0]) (rest := [.ref h]) ⟨hx, hb, hml, hown, hts⟩ (c_X14_isOf l hst D e m4 0 e p0 s.heap.size) (va_cwS 2 hts gX14_sisters_X14_isOf rfl rfl rfl (by decide +kernel) ⟨Nat.le_of_ble_eq_true rfl, Nat.le_of_ble_eq_true rfl⟩) ⟨cIn_blind, cIn_go hK hP hD hE hS hA [1] rfl rfl (by decide) [] rfl⟩ rfl rfl hl.1 rfl (lv_room (Nat.le_of_ble_eq_true rfl)) dX14_sisters_6 ⟨Nat.le_of_ble_eq_true rfl, Nat.le_of_ble_eq_true rfl⟩)) (fun r_1 hw => ?_)
  have hw : r_1 = 0 := hw.trans (by first | rfl | decide +kernel)
  subst hw
  refine lv_if_eq (tgt := 16) hx hb dX14_sisters_9 (by decide) (fun c_2 => ?_) (fun c_2 => absurd (show (0 : Int32) = 0 from by decide +kernel) c_2)
  refine lv_iconst (v := 1) hx hb dX14_sisters_16 (by decide) ?_
  have hFc := va_free (wc := [(h, .inr (20, [.int 0, .ref m1, .int 0, .int 0, .ref m2, .ref m3, .int 0, .int 4, .int (-40), .ref m4, .int 0, .int 20, .int 0, .ref m5, .ref fr, .int 100, .int 60, .int 14, .ref m6, .ref m7, .ref m8]))]) hD hS hA [0] rfl
  refine va_calli (va_runV (As := [.int 1]) (rest := []) ⟨hx, hb, hml, hown, hts⟩ (c_X14_isWrong l hst D e h 0 ([.ref m1, .int 0, .int 0, .ref m2, .ref m3, .int 0, .int 4, .int (-40), .ref m4, .int 0, .int 20, .int 0, .ref m5, .ref fr, .int 100, .int 60, .int 14, .ref m6, .ref m7, .ref m8]) 1 s.heap.size) (cwV 1 hts gX14_sisters_X14_isWrong rfl rfl rfl (by decide +kernel) ⟨Nat.le_of_ble_eq_true rfl, Nat.le_of_ble_eq_true rfl⟩) ⟨cIn_blind, va_recv hK hP (ci := 20) (q0 := 0) rfl rfl, cIn_go hK hP hD hE hS hA [0] rfl rfl (by decide) [] rfl⟩ rfl rfl hl.1 rfl (lv_room (Nat.le_of_ble_eq_true rfl)) dX14_sisters_17 ⟨Nat.le_of_ble_eq_true rfl, Nat.le_of_ble_eq_true rfl⟩) hS (fun q _ h => hFc q h) hFc (fun r_3 u t H1 locs ht hvm hw hB hz1 hk1 hS => ?_)
  obtain ⟨hP1, hK1, hD1⟩ := hB
  rw [ht] at hP1
  have hK1 := va_K.moved hvm.symm hK1
  obtain ⟨hP, hD⟩ := va_join (wr := [(m4, .inr (5, [.int 0, .ref e, .int 0]))]) (w1 := [(h, .inr (20, [.int 1, .ref m1, .int 0, .int 0, .ref m2, .ref m3, .int 0, .int 4, .int (-40), .ref m4, .int 0, .int 20, .int 0, .ref m5, .ref fr, .int 100, .int 60, .int 14, .ref m6, .ref m7, .ref m8]))]) hP hD [0] [1] rfl rfl (by decide) (by decide) hk1 hFc hP1 hD1
  generalize H1 = H at hP hS ⊢
  have hP : va_P D vwCl [(m4, .inr (5, [.int 0, .ref e, .int 0])), (h, .inr (20, [.int 1, .ref m1, .int 0, .int 0, .ref m2, .ref m3, .int 0, .int 4, .int (-40), .ref m4, .int 0, .int 20, .int 0, .ref m5, .ref fr, .int 100, .int 60, .int 14, .ref m6, .ref m7, .ref m8]))] H := hP
  have hD : va_D A [(m4, .inr (5, [.int 0, .ref e, .int 0])), (h, .inr (20, [.int 1, .ref m1, .int 0, .int 0, .ref m2, .ref m3, .int 0, .int 4, .int (-40), .ref m4, .int 0, .int 20, .int 0, .ref m5, .ref fr, .int 100, .int 60, .int 14, .ref m6, .ref m7, .ref m8]))] := hD
  have hw : r_3 = 1 := hw.trans (by first | rfl | decide +kernel)
  subst hw
  refine lv_if_eq (tgt := 25) hx hb dX14_sisters_20 (by decide) (fun c_5 => absurd c_5 (show ¬ ((1 : Int32) = 0) from by decide +kernel)) (fun c_5 => ?_)
  refine lv_iconst (v := 0) hx hb dX14_sisters_23 (by decide) ?_
  exact W.iret (v := 0) hx hb hr (fun t ht hW => ⟨⟨0, ((1, [.ref m1, .int 0, .int 0, .ref m2, .ref m3, .int 0, .int 4, .int (-40), .ref m4, .int 0, .int 20, .int 0, .ref m5, .ref fr, .int 100, .int 60, .int 14, .ref m6, .ref m7, .ref m8]) : Int32 × List Value), rfl, ⟨rfl, rfl⟩, ⟨by rw [ht]; exact hP.sub [1] rfl, va_K.moved hW.alike (hK.sub [] rfl), hD.sub [1] (by decide) rfl⟩⟩, hS.F ht⟩) hS.2.2 dX14_sisters_24
-- X14_isSister
def v_X14_isSister (p0 : Int32) (p1 : Int32) : Int32 := 0
def k_X14_isSister (p0 : Int32) (p1 : Int32) : Int32 := 1
set_option maxHeartbeats 4000000 in
set_option maxRecDepth 100000 in
theorem c_X14_isSister (l : Launch) (hst : l.stackTraces = false) (D : va_G) (e : Nat) (h : Nat) (m1 : Nat) (m2 : Nat) (m3 : Nat) (m4 : Nat) (m5 : Nat) (m6 : Nat) (m7 : Nat) (m8 : Nat) (fr : Nat) (p0 : Int32) (p1 : Int32) (sz : Nat) : Met l yX14_isSister wsX14_isSister ({ frames := 16, cells := 0, slots := 0, locals := 340 }) (va_Pc [.ref h, .int p0, .int p1] (cIn D [] [(h, .inr (20, [.int 0, .ref m1, .int 0, .int 0, .ref m2, .ref m3, .int 0, .int 4, .int (-40), .ref m4, .int 0, .int 20, .int 0, .ref m5, .ref fr, .int 100, .int 60, .int 14, .ref m6, .ref m7, .ref m8])), (m4, .inr (5, [.int 0, .ref e, .int 0]))] e sz)) (va_Qi (fun (r : Int32) (u : Int32 × List Value) => u.1 = k_X14_isSister p0 p1 ∧ r = v_X14_isSister p0 p1) (fun (u : Int32 × List Value) (t : State) => va_P D vwCl [(h, .inr (20, .int u.1 :: u.2))] t.heap ∧ va_K D vwCl [] t ∧ va_D (va_A [(h, .inr (20, [.int 0, .ref m1, .int 0, .int 0, .ref m2, .ref m3, .int 0, .int 4, .int (-40), .ref m4, .int 0, .int 20, .int 0, .ref m5, .ref fr, .int 100, .int 60, .int 14, .ref m6, .ref m7, .ref m8])), (m4, .inr (5, [.int 0, .ref e, .int 0]))] sz) [(h, .inr (20, .int u.1 :: u.2))]) (va_A [(h, .inr (20, [.int 0, .ref m1, .int 0, .int 0, .ref m2, .ref m3, .int 0, .int 4, .int (-40), .ref m4, .int 0, .int 20, .int 0, .ref m5, .ref fr, .int 100, .int 60, .int 14, .ref m6, .ref m7, .ref m8])), (m4, .inr (5, [.int 0, .ref e, .int 0]))] sz)) 0 0 (va_A [(h, .inr (20, [.int 0, .ref m1, .int 0, .int 0, .ref m2, .ref m3, .int 0, .int 4, .int (-40), .ref m4, .int 0, .int 20, .int 0, .ref m5, .ref fr, .int 100, .int 60, .int 14, .ref m6, .ref m7, .ref m8])), (m4, .inr (5, [.int 0, .ref e, .int 0]))] sz) := by
  refine Met.ofW (cc := cX14_isSister) (maxL := 3) (ret := (some .boolean)) (by decide +kernel) rfl ?_
  intro p e9 s m args below meth c s₁ B hml hv
  obtain ⟨rfl, hsz, hP, hK, hD0, hE0⟩ := hv
  have hx := B.exec
  have hb := B.bytes
  have hr := B.returns
  have hts := atoms_spec (ws := wsX14_isSister) B.pre
  have hown : s.vm.findClass RX14 = some m.cls := findClass_of_methodNamed B.named
  have hlocks := B.notSynchronized
  subst hsz
  have hD := hD0.self (sz := s.heap.size)
  generalize hAe : va_A [(h, .inr (20, [.int 0, .ref m1, .int 0, .int 0, .ref m2, .ref m3, .int 0, .int 4, .int (-40), .ref m4, .int 0, .int 20, .int 0, .ref m5, .ref fr, .int 100, .int 60, .int 14, .ref m6, .ref m7, .ref m8])), (m4, .inr (5, [.int 0, .ref e, .int 0]))] s.heap.size = A at hD hE0 ⊢
  have hA : ∀ q : Nat, s.heap.size ≤ q → A q := fun q h => by rw [← hAe]; exact Or.inr h
  have hS : va_S A s.heap s.heap [] := va_S.rf
  have hE := hE0
  have hP : va_P D vwCl [(h, .inr (20, [.int 0, .ref m1, .int 0, .int 0, .ref m2, .ref m3, .int 0, .int 4, .int (-40), .ref m4, .int 0, .int 20, .int 0, .ref m5, .ref fr, .int 100, .int 60, .int 14, .ref m6, .ref m7, .ref m8])), (m4, .inr (5, [.int 0, .ref e, .int 0]))] s.heap := hP
  have hl := lv_entry ([.ref h, .int p0, .int p1]) (n := 3) (Nat.le_of_ble_eq_true rfl)
  rw [lg_entry_eq]
  generalize (lg_sl ([.ref h, .int p0, .int p1]) ++ List.replicate (3 - (lg_sl ([.ref h, .int p0, .int p1])).length) Slot.unset).toArray = ls at hl ⊢
  have hl : lv_has ls 3 [(0, .ref h), (1, .int p0), (2, .int p1)] := hl
  refine lv_aload_n hx hb dX14_isSister_0 rfl (lv_at hl 0 rfl) ?_
  refine lv_aload_n hx hb dX14_isSister_1 rfl (lv_at hl 0 rfl) ?_
  refine va_get (D := D) (ci := 20) (v := .ref m4) (C := RX14) (T := TX14) (N := 21) hx hb hts iw_RX14_wsX14_isSister hown hK hP 0 rfl rfl 9 (by decide) (hts (.fieldLink RX14 29 "CoatLineModel" "cells" "Ljava/util/List;") (by decide +kernel)) (fun _ h9 => h9) rfl dX14_isSister_2 ?_
  refine lv_iload_n hx hb dX14_isSister_5 rfl (lv_at hl 1 rfl) ?_
  refine vp_callSi (va_Run.run (va_runS (As := [.ref m4, .int p0]) (rest := [.ref h]) ⟨hx, hb, hml, hown, hts⟩ (c_X14_isOf l hst D e m4 0 e p0 s.heap.size) (va_cwS 2 hts gX14_isSister_X14_isOf rfl rfl rfl (by decide +kernel) ⟨Nat.le_of_ble_eq_true rfl, Nat.le_of_ble_eq_true rfl⟩) ⟨cIn_blind, cIn_go hK hP hD hE hS hA [1] rfl rfl (by decide) [] rfl⟩ rfl rfl hl.1 rfl (lv_room (Nat.le_of_ble_eq_true rfl)) dX14_isSister_6 ⟨Nat.le_of_ble_eq_true rfl, Nat.le_of_ble_eq_true rfl⟩)) (fun r_1 hw => ?_)
  have hw : r_1 = 0 := hw.trans (by first | rfl | decide +kernel)
  subst hw
  refine lv_if_eq (tgt := 27) hx hb dX14_isSister_9 (by decide) (fun c_2 => ?_) (fun c_2 => absurd (show (0 : Int32) = 0 from by decide +kernel) c_2)
  refine lv_iconst (v := 1) hx hb dX14_isSister_27 (by decide) ?_
  have hFc := va_free (wc := [(h, .inr (20, [.int 0, .ref m1, .int 0, .int 0, .ref m2, .ref m3, .int 0, .int 4, .int (-40), .ref m4, .int 0, .int 20, .int 0, .ref m5, .ref fr, .int 100, .int 60, .int 14, .ref m6, .ref m7, .ref m8]))]) hD hS hA [0] rfl
  refine va_calli (va_runV (As := [.int 1]) (rest := []) ⟨hx, hb, hml, hown, hts⟩ (c_X14_isWrong l hst D e h 0 ([.ref m1, .int 0, .int 0, .ref m2, .ref m3, .int 0, .int 4, .int (-40), .ref m4, .int 0, .int 20, .int 0, .ref m5, .ref fr, .int 100, .int 60, .int 14, .ref m6, .ref m7, .ref m8]) 1 s.heap.size) (cwV 1 hts gX14_isSister_X14_isWrong rfl rfl rfl (by decide +kernel) ⟨Nat.le_of_ble_eq_true rfl, Nat.le_of_ble_eq_true rfl⟩) ⟨cIn_blind, va_recv hK hP (ci := 20) (q0 := 0) rfl rfl, cIn_go hK hP hD hE hS hA [0] rfl rfl (by decide) [] rfl⟩ rfl rfl hl.1 rfl (lv_room (Nat.le_of_ble_eq_true rfl)) dX14_isSister_28 ⟨Nat.le_of_ble_eq_true rfl, Nat.le_of_ble_eq_true rfl⟩) hS (fun q _ h => hFc q h) hFc (fun r_3 u t H1 locs ht hvm hw hB hz1 hk1 hS => ?_)
  obtain ⟨hP1, hK1, hD1⟩ := hB
  rw [ht] at hP1
  have hK1 := va_K.moved hvm.symm hK1
  obtain ⟨hP, hD⟩ := va_join (wr := [(m4, .inr (5, [.int 0, .ref e, .int 0]))]) (w1 := [(h, .inr (20, [.int 1, .ref m1, .int 0, .int 0, .ref m2, .ref m3, .int 0, .int 4, .int (-40), .ref m4, .int 0, .int 20, .int 0, .ref m5, .ref fr, .int 100, .int 60, .int 14, .ref m6, .ref m7, .ref m8]))]) hP hD [0] [1] rfl rfl (by decide) (by decide) hk1 hFc hP1 hD1
  generalize H1 = H at hP hS ⊢
  have hP : va_P D vwCl [(m4, .inr (5, [.int 0, .ref e, .int 0])), (h, .inr (20, [.int 1, .ref m1, .int 0, .int 0, .ref m2, .ref m3, .int 0, .int 4, .int (-40), .ref m4, .int 0, .int 20, .int 0, .ref m5, .ref fr, .int 100, .int 60, .int 14, .ref m6, .ref m7, .ref m8]))] H := hP
  have hD : va_D A [(m4, .inr (5, [.int 0, .ref e, .int 0])), (h, .inr (20, [.int 1, .ref m1, .int 0, .int 0, .ref m2, .ref m3, .int 0, .int 4, .int (-40), .ref m4, .int 0, .int 20, .int 0, .ref m5, .ref fr, .int 100, .int 60, .int 14, .ref m6, .ref m7, .ref m8]))] := hD
  have hw : r_3 = 1 := hw.trans (by first | rfl | decide +kernel)
  subst hw
  refine lv_if_ne (tgt := 76) hx hb dX14_isSister_31 (by decide) (fun c_5 => ?_) (fun c_5 => absurd c_5 (show ¬ ((1 : Int32) = 0) from by decide +kernel))
  refine lv_iconst (v := 0) hx hb dX14_isSister_76 (by decide) ?_
  exact W.zret (v := 0) hx hb hr (by first | rfl | decide +kernel) (fun t ht hW => ⟨⟨0, ((1, [.ref m1, .int 0, .int 0, .ref m2, .ref m3, .int 0, .int 4, .int (-40), .ref m4, .int 0, .int 20, .int 0, .ref m5, .ref fr, .int 100, .int 60, .int 14, .ref m6, .ref m7, .ref m8]) : Int32 × List Value), rfl, ⟨rfl, rfl⟩, ⟨by rw [ht]; exact hP.sub [1] rfl, va_K.moved hW.alike (hK.sub [] rfl), hD.sub [1] (by decide) rfl⟩⟩, hS.F ht⟩) hS.2.2 dX14_isSister_77
-- X14_gap
def v_X14_gap (p0 : Int32) : Int32 := if (v_X14_isBetween p0 0 9) = 0 then 0 else 4
def k_X14_gap (p0 : Int32) : Int32 := if (v_X14_isBetween p0 0 9) = 0 then 1 else 0
set_option maxHeartbeats 4000000 in
set_option maxRecDepth 100000 in
theorem c_X14_gap (l : Launch) (hst : l.stackTraces = false) (D : va_G) (e : Nat) (h : Nat) (m1 : Nat) (m2 : Nat) (m3 : Nat) (m4 : Nat) (m5 : Nat) (m6 : Nat) (m7 : Nat) (m8 : Nat) (fr : Nat) (p0 : Int32) (sz : Nat) : Met l yX14_gap wsX14_gap ({ frames := 16, cells := 0, slots := 0, locals := 340 }) (va_Pc [.ref h, .int p0] (cIn D [] [(h, .inr (20, [.int 0, .ref m1, .int 0, .int 0, .ref m2, .ref m3, .int 0, .int 4, .int (-40), .ref m4, .int 0, .int 20, .int 0, .ref m5, .ref fr, .int 100, .int 60, .int 14, .ref m6, .ref m7, .ref m8]))] e sz)) (va_Qi (fun (r : Int32) (u : Int32 × List Value) => u.1 = k_X14_gap p0 ∧ r = v_X14_gap p0) (fun (u : Int32 × List Value) (t : State) => va_P D vwCl [(h, .inr (20, .int u.1 :: u.2))] t.heap ∧ va_K D vwCl [] t ∧ va_D (va_A [(h, .inr (20, [.int 0, .ref m1, .int 0, .int 0, .ref m2, .ref m3, .int 0, .int 4, .int (-40), .ref m4, .int 0, .int 20, .int 0, .ref m5, .ref fr, .int 100, .int 60, .int 14, .ref m6, .ref m7, .ref m8]))] sz) [(h, .inr (20, .int u.1 :: u.2))]) (va_A [(h, .inr (20, [.int 0, .ref m1, .int 0, .int 0, .ref m2, .ref m3, .int 0, .int 4, .int (-40), .ref m4, .int 0, .int 20, .int 0, .ref m5, .ref fr, .int 100, .int 60, .int 14, .ref m6, .ref m7, .ref m8]))] sz)) 0 0 (va_A [(h, .inr (20, [.int 0, .ref m1, .int 0, .int 0, .ref m2, .ref m3, .int 0, .int 4, .int (-40), .ref m4, .int 0, .int 20, .int 0, .ref m5, .ref fr, .int 100, .int 60, .int 14, .ref m6, .ref m7, .ref m8]))] sz) := by
  refine Met.ofW (cc := cX14_gap) (maxL := 3) (ret := (some .int)) (by decide +kernel) rfl ?_
  intro p e9 s m args below meth c s₁ B hml hv
  obtain ⟨rfl, hsz, hP, hK, hD0, hE0⟩ := hv
  have hx := B.exec
  have hb := B.bytes
  have hr := B.returns
  have hts := atoms_spec (ws := wsX14_gap) B.pre
  have hown : s.vm.findClass RX14 = some m.cls := findClass_of_methodNamed B.named
  have hlocks := B.notSynchronized
  subst hsz
  have hD := hD0.self (sz := s.heap.size)
  generalize hAe : va_A [(h, .inr (20, [.int 0, .ref m1, .int 0, .int 0, .ref m2, .ref m3, .int 0, .int 4, .int (-40), .ref m4, .int 0, .int 20, .int 0, .ref m5, .ref fr, .int 100, .int 60, .int 14, .ref m6, .ref m7, .ref m8]))] s.heap.size = A at hD hE0 ⊢
  have hA : ∀ q : Nat, s.heap.size ≤ q → A q := fun q h => by rw [← hAe]; exact Or.inr h
  have hS : va_S A s.heap s.heap [] := va_S.rf
  have hE := hE0
  have hP : va_P D vwCl [(h, .inr (20, [.int 0, .ref m1, .int 0, .int 0, .ref m2, .ref m3, .int 0, .int 4, .int (-40), .ref m4, .int 0, .int 20, .int 0, .ref m5, .ref fr, .int 100, .int 60, .int 14, .ref m6, .ref m7, .ref m8]))] s.heap := hP
  have hl := lv_entry ([.ref h, .int p0]) (n := 3) (Nat.le_of_ble_eq_true rfl)
  rw [lg_entry_eq]
  generalize (lg_sl ([.ref h, .int p0]) ++ List.replicate (3 - (lg_sl ([.ref h, .int p0])).length) Slot.unset).toArray = ls at hl ⊢
  have hl : lv_has ls 3 [(0, .ref h), (1, .int p0)] := hl
  refine lv_aload_n hx hb dX14_gap_0 rfl (lv_at hl 0 rfl) ?_
  refine lv_iload_n hx hb dX14_gap_1 rfl (lv_at hl 1 rfl) ?_
  refine lv_iconst (v := 0) hx hb dX14_gap_2 (by decide) ?_
  refine lv_bipush (v := 9) hx hb dX14_gap_3 (by decide) ?_
  refine vp_callSi (va_Run.run (va_runS (As := [.int p0, .int 0, .int 9]) (rest := [.ref h]) ⟨hx, hb, hml, hown, hts⟩ (c_X14_isBetween l hst D e p0 0 9 s.heap.size) (va_cwS 3 hts gX14_gap_X14_isBetween rfl rfl rfl (by decide +kernel) ⟨Nat.le_of_ble_eq_true rfl, Nat.le_of_ble_eq_true rfl⟩) ⟨cIn_blind, cIn_go hK hP hD hE hS hA [] rfl rfl (by decide) [] rfl⟩ rfl rfl hl.1 rfl (lv_room (Nat.le_of_ble_eq_true rfl)) dX14_gap_5 ⟨Nat.le_of_ble_eq_true rfl, Nat.le_of_ble_eq_true rfl⟩)) (fun r_1 hw => ?_)
  subst hw
  refine lv_if_eq (tgt := 15) hx hb dX14_gap_8 (by decide) (fun c_2 => ?_) (fun c_2 => ?_)
  · refine lv_iconst (v := 1) hx hb dX14_gap_15 (by decide) ?_
    have hFc := va_free (wc := [(h, .inr (20, [.int 0, .ref m1, .int 0, .int 0, .ref m2, .ref m3, .int 0, .int 4, .int (-40), .ref m4, .int 0, .int 20, .int 0, .ref m5, .ref fr, .int 100, .int 60, .int 14, .ref m6, .ref m7, .ref m8]))]) hD hS hA [0] rfl
    refine va_calli (va_runV (As := [.int 1]) (rest := []) ⟨hx, hb, hml, hown, hts⟩ (c_X14_isWrong l hst D e h 0 ([.ref m1, .int 0, .int 0, .ref m2, .ref m3, .int 0, .int 4, .int (-40), .ref m4, .int 0, .int 20, .int 0, .ref m5, .ref fr, .int 100, .int 60, .int 14, .ref m6, .ref m7, .ref m8]) 1 s.heap.size) (cwV 1 hts gX14_gap_X14_isWrong rfl rfl rfl (by decide +kernel) ⟨Nat.le_of_ble_eq_true rfl, Nat.le_of_ble_eq_true rfl⟩) ⟨cIn_blind, va_recv hK hP (ci := 20) (q0 := 0) rfl rfl, cIn_go hK hP hD hE hS hA [0] rfl rfl (by decide) [] rfl⟩ rfl rfl hl.1 rfl (lv_room (Nat.le_of_ble_eq_true rfl)) dX14_gap_16 ⟨Nat.le_of_ble_eq_true rfl, Nat.le_of_ble_eq_true rfl⟩) hS (fun q _ h => hFc q h) hFc (fun r_3 u t H1 locs ht hvm hw hB hz1 hk1 hS => ?_)
    obtain ⟨hP1, hK1, hD1⟩ := hB
    rw [ht] at hP1
    have hK1 := va_K.moved hvm.symm hK1
    obtain ⟨hP, hD⟩ := va_join (wr := []) (w1 := [(h, .inr (20, [.int 1, .ref m1, .int 0, .int 0, .ref m2, .ref m3, .int 0, .int 4, .int (-40), .ref m4, .int 0, .int 20, .int 0, .ref m5, .ref fr, .int 100, .int 60, .int 14, .ref m6, .ref m7, .ref m8]))]) hP hD [0] [] rfl rfl (by decide) (by decide) hk1 hFc hP1 hD1
    generalize H1 = H at hP hS ⊢
    have hP : va_P D vwCl [(h, .inr (20, [.int 1, .ref m1, .int 0, .int 0, .ref m2, .ref m3, .int 0, .int 4, .int (-40), .ref m4, .int 0, .int 20, .int 0, .ref m5, .ref fr, .int 100, .int 60, .int 14, .ref m6, .ref m7, .ref m8]))] H := hP
    have hD : va_D A [(h, .inr (20, [.int 1, .ref m1, .int 0, .int 0, .ref m2, .ref m3, .int 0, .int 4, .int (-40), .ref m4, .int 0, .int 20, .int 0, .ref m5, .ref fr, .int 100, .int 60, .int 14, .ref m6, .ref m7, .ref m8]))] := hD
    have hw : r_3 = 1 := hw.trans (by first | rfl | decide +kernel)
    subst hw
    refine lv_if_eq (tgt := 24) hx hb dX14_gap_19 (by decide) (fun c_5 => absurd c_5 (show ¬ ((1 : Int32) = 0) from by decide +kernel)) (fun c_5 => ?_)
    refine lv_iconst (v := 0) hx hb dX14_gap_22 (by decide) ?_
    exact W.iret (v := 0) hx hb hr (fun t ht hW => ⟨⟨0, ((1, [.ref m1, .int 0, .int 0, .ref m2, .ref m3, .int 0, .int 4, .int (-40), .ref m4, .int 0, .int 20, .int 0, .ref m5, .ref fr, .int 100, .int 60, .int 14, .ref m6, .ref m7, .ref m8]) : Int32 × List Value), rfl, ⟨(by unfold k_X14_gap; rw [if_pos c_2]), (by unfold v_X14_gap; rw [if_pos c_2])⟩, ⟨by rw [ht]; exact hP.sub [0] rfl, va_K.moved hW.alike (hK.sub [] rfl), hD.sub [0] (by decide) rfl⟩⟩, hS.F ht⟩) hS.2.2 dX14_gap_23
  · refine lv_iconst (v := 0) hx hb dX14_gap_11 (by decide) ?_
    refine lv_goto (tgt := 16) hx hb dX14_gap_12 (by decide) ?_
    have hFc := va_free (wc := [(h, .inr (20, [.int 0, .ref m1, .int 0, .int 0, .ref m2, .ref m3, .int 0, .int 4, .int (-40), .ref m4, .int 0, .int 20, .int 0, .ref m5, .ref fr, .int 100, .int 60, .int 14, .ref m6, .ref m7, .ref m8]))]) hD hS hA [0] rfl
    refine va_calli (va_runV (As := [.int 0]) (rest := []) ⟨hx, hb, hml, hown, hts⟩ (c_X14_isWrong l hst D e h 0 ([.ref m1, .int 0, .int 0, .ref m2, .ref m3, .int 0, .int 4, .int (-40), .ref m4, .int 0, .int 20, .int 0, .ref m5, .ref fr, .int 100, .int 60, .int 14, .ref m6, .ref m7, .ref m8]) 0 s.heap.size) (cwV 1 hts gX14_gap_X14_isWrong rfl rfl rfl (by decide +kernel) ⟨Nat.le_of_ble_eq_true rfl, Nat.le_of_ble_eq_true rfl⟩) ⟨cIn_blind, va_recv hK hP (ci := 20) (q0 := 0) rfl rfl, cIn_go hK hP hD hE hS hA [0] rfl rfl (by decide) [] rfl⟩ rfl rfl hl.1 rfl (lv_room (Nat.le_of_ble_eq_true rfl)) dX14_gap_16 ⟨Nat.le_of_ble_eq_true rfl, Nat.le_of_ble_eq_true rfl⟩) hS (fun q _ h => hFc q h) hFc (fun r_6 u t H1 locs ht hvm hw hB hz1 hk1 hS => ?_)
    obtain ⟨hP1, hK1, hD1⟩ := hB
    rw [ht] at hP1
    have hK1 := va_K.moved hvm.symm hK1
    obtain ⟨hP, hD⟩ := va_join (wr := []) (w1 := [(h, .inr (20, [.int 0, .ref m1, .int 0, .int 0, .ref m2, .ref m3, .int 0, .int 4, .int (-40), .ref m4, .int 0, .int 20, .int 0, .ref m5, .ref fr, .int 100, .int 60, .int 14, .ref m6, .ref m7, .ref m8]))]) hP hD [0] [] rfl rfl (by decide) (by decide) hk1 hFc hP1 hD1
    generalize H1 = H at hP hS ⊢
    have hP : va_P D vwCl [(h, .inr (20, [.int 0, .ref m1, .int 0, .int 0, .ref m2, .ref m3, .int 0, .int 4, .int (-40), .ref m4, .int 0, .int 20, .int 0, .ref m5, .ref fr, .int 100, .int 60, .int 14, .ref m6, .ref m7, .ref m8]))] H := hP
    have hD : va_D A [(h, .inr (20, [.int 0, .ref m1, .int 0, .int 0, .ref m2, .ref m3, .int 0, .int 4, .int (-40), .ref m4, .int 0, .int 20, .int 0, .ref m5, .ref fr, .int 100, .int 60, .int 14, .ref m6, .ref m7, .ref m8]))] := hD
    have hw : r_6 = 0 := hw.trans (by first | rfl | decide +kernel)
    subst hw
    refine lv_if_eq (tgt := 24) hx hb dX14_gap_19 (by decide) (fun c_8 => ?_) (fun c_8 => absurd (show (0 : Int32) = 0 from by decide +kernel) c_8)
    refine lv_aload_n hx hb dX14_gap_24 rfl (lv_at hl 0 rfl) ?_
    refine va_get (D := D) (ci := 20) (v := .int 4) (C := RX14) (T := TX14) (N := 21) hx hb hts iw_RX14_wsX14_gap hown hK hP 0 rfl rfl 7 (by decide) (hts (.fieldLink RX14 22 "CoatLineModel" "gap" "I") (by decide +kernel)) (fun _ h9 => h9) rfl dX14_gap_25 ?_
    refine lv_istore_n (lv' := [(2, .int 4), (0, .ref h), (1, .int p0)]) hx hb dX14_gap_28 rfl hl (by decide) rfl (fun ls hl => ?_)
    refine lv_aload_n hx hb dX14_gap_29 rfl (lv_at hl 1 rfl) ?_
    refine lv_iload_n hx hb dX14_gap_30 rfl (lv_at hl 2 rfl) ?_
    refine va_put (D := D) (ci := 20) (v := .int p0) (ty := .int) (C := RX14) (T := TX14) (N := 21) hx hb hts iw_RX14_wsX14_gap tyX14 tyX14_ok nmX14 hown hK hP hD hS 0 rfl rfl 7 (by decide) (hts (.fieldLink RX14 22 "CoatLineModel" "gap" "I") (by decide +kernel)) (fun _ h9 => h9) rfl (by decide +kernel) rfl rfl (Nat.le_of_ble_eq_true rfl) dX14_gap_31 (fun H locs hP hD hS => ?_)
    have hP : va_P D vwCl [(h, .inr (20, [.int 0, .ref m1, .int 0, .int 0, .ref m2, .ref m3, .int 0, .int p0, .int (-40), .ref m4, .int 0, .int 20, .int 0, .ref m5, .ref fr, .int 100, .int 60, .int 14, .ref m6, .ref m7, .ref m8]))] H := hP
    have hD : va_D A [(h, .inr (20, [.int 0, .ref m1, .int 0, .int 0, .ref m2, .ref m3, .int 0, .int p0, .int (-40), .ref m4, .int 0, .int 20, .int 0, .ref m5, .ref fr, .int 100, .int 60, .int 14, .ref m6, .ref m7, .ref m8]))] := hD
    refine lv_iload_n hx hb dX14_gap_34 rfl (lv_at hl 0 rfl) ?_
    exact W.iret (v := 4) hx hb hr (fun t ht hW => ⟨⟨4, ((0, [.ref m1, .int 0, .int 0, .ref m2, .ref m3, .int 0, .int p0, .int (-40), .ref m4, .int 0, .int 20, .int 0, .ref m5, .ref fr, .int 100, .int 60, .int 14, .ref m6, .ref m7, .ref m8]) : Int32 × List Value), rfl, ⟨(by unfold k_X14_gap; rw [if_neg c_2]), (by unfold v_X14_gap; rw [if_neg c_2])⟩, ⟨by rw [ht]; exact hP.sub [0] rfl, va_K.moved hW.alike (hK.sub [] rfl), hD.sub [0] (by decide) rfl⟩⟩, hS.F ht⟩) hS.2.2 dX14_gap_35
-- X14_dew
def v_X14_dew (p0 : Int32) : Int32 := if (v_X14_isBetween p0 (-60) 0) = 0 then 0 else (-40)
def k_X14_dew (p0 : Int32) : Int32 := if (v_X14_isBetween p0 (-60) 0) = 0 then 1 else 0
set_option maxHeartbeats 4000000 in
set_option maxRecDepth 100000 in
theorem c_X14_dew (l : Launch) (hst : l.stackTraces = false) (D : va_G) (e : Nat) (h : Nat) (m1 : Nat) (m2 : Nat) (m3 : Nat) (m4 : Nat) (m5 : Nat) (m6 : Nat) (m7 : Nat) (m8 : Nat) (fr : Nat) (p0 : Int32) (sz : Nat) : Met l yX14_dew wsX14_dew ({ frames := 16, cells := 0, slots := 0, locals := 340 }) (va_Pc [.ref h, .int p0] (cIn D [] [(h, .inr (20, [.int 0, .ref m1, .int 0, .int 0, .ref m2, .ref m3, .int 0, .int 4, .int (-40), .ref m4, .int 0, .int 20, .int 0, .ref m5, .ref fr, .int 100, .int 60, .int 14, .ref m6, .ref m7, .ref m8]))] e sz)) (va_Qi (fun (r : Int32) (u : Int32 × List Value) => u.1 = k_X14_dew p0 ∧ r = v_X14_dew p0) (fun (u : Int32 × List Value) (t : State) => va_P D vwCl [(h, .inr (20, .int u.1 :: u.2))] t.heap ∧ va_K D vwCl [] t ∧ va_D (va_A [(h, .inr (20, [.int 0, .ref m1, .int 0, .int 0, .ref m2, .ref m3, .int 0, .int 4, .int (-40), .ref m4, .int 0, .int 20, .int 0, .ref m5, .ref fr, .int 100, .int 60, .int 14, .ref m6, .ref m7, .ref m8]))] sz) [(h, .inr (20, .int u.1 :: u.2))]) (va_A [(h, .inr (20, [.int 0, .ref m1, .int 0, .int 0, .ref m2, .ref m3, .int 0, .int 4, .int (-40), .ref m4, .int 0, .int 20, .int 0, .ref m5, .ref fr, .int 100, .int 60, .int 14, .ref m6, .ref m7, .ref m8]))] sz)) 0 0 (va_A [(h, .inr (20, [.int 0, .ref m1, .int 0, .int 0, .ref m2, .ref m3, .int 0, .int 4, .int (-40), .ref m4, .int 0, .int 20, .int 0, .ref m5, .ref fr, .int 100, .int 60, .int 14, .ref m6, .ref m7, .ref m8]))] sz) := by
  refine Met.ofW (cc := cX14_dew) (maxL := 3) (ret := (some .int)) (by decide +kernel) rfl ?_
  intro p e9 s m args below meth c s₁ B hml hv
  obtain ⟨rfl, hsz, hP, hK, hD0, hE0⟩ := hv
  have hx := B.exec
  have hb := B.bytes
  have hr := B.returns
  have hts := atoms_spec (ws := wsX14_dew) B.pre
  have hown : s.vm.findClass RX14 = some m.cls := findClass_of_methodNamed B.named
  have hlocks := B.notSynchronized
  subst hsz
  have hD := hD0.self (sz := s.heap.size)
  generalize hAe : va_A [(h, .inr (20, [.int 0, .ref m1, .int 0, .int 0, .ref m2, .ref m3, .int 0, .int 4, .int (-40), .ref m4, .int 0, .int 20, .int 0, .ref m5, .ref fr, .int 100, .int 60, .int 14, .ref m6, .ref m7, .ref m8]))] s.heap.size = A at hD hE0 ⊢
  have hA : ∀ q : Nat, s.heap.size ≤ q → A q := fun q h => by rw [← hAe]; exact Or.inr h
  have hS : va_S A s.heap s.heap [] := va_S.rf
  have hE := hE0
  have hP : va_P D vwCl [(h, .inr (20, [.int 0, .ref m1, .int 0, .int 0, .ref m2, .ref m3, .int 0, .int 4, .int (-40), .ref m4, .int 0, .int 20, .int 0, .ref m5, .ref fr, .int 100, .int 60, .int 14, .ref m6, .ref m7, .ref m8]))] s.heap := hP
  have hl := lv_entry ([.ref h, .int p0]) (n := 3) (Nat.le_of_ble_eq_true rfl)
  rw [lg_entry_eq]
  generalize (lg_sl ([.ref h, .int p0]) ++ List.replicate (3 - (lg_sl ([.ref h, .int p0])).length) Slot.unset).toArray = ls at hl ⊢
  have hl : lv_has ls 3 [(0, .ref h), (1, .int p0)] := hl
  refine lv_aload_n hx hb dX14_dew_0 rfl (lv_at hl 0 rfl) ?_
  refine lv_iload_n hx hb dX14_dew_1 rfl (lv_at hl 1 rfl) ?_
  refine lv_bipush (v := (-60)) hx hb dX14_dew_2 (by decide) ?_
  refine lv_iconst (v := 0) hx hb dX14_dew_4 (by decide) ?_
  refine vp_callSi (va_Run.run (va_runS (As := [.int p0, .int (-60), .int 0]) (rest := [.ref h]) ⟨hx, hb, hml, hown, hts⟩ (c_X14_isBetween l hst D e p0 (-60) 0 s.heap.size) (va_cwS 3 hts gX14_dew_X14_isBetween rfl rfl rfl (by decide +kernel) ⟨Nat.le_of_ble_eq_true rfl, Nat.le_of_ble_eq_true rfl⟩) ⟨cIn_blind, cIn_go hK hP hD hE hS hA [] rfl rfl (by decide) [] rfl⟩ rfl rfl hl.1 rfl (lv_room (Nat.le_of_ble_eq_true rfl)) dX14_dew_5 ⟨Nat.le_of_ble_eq_true rfl, Nat.le_of_ble_eq_true rfl⟩)) (fun r_1 hw => ?_)
  subst hw
  refine lv_if_eq (tgt := 15) hx hb dX14_dew_8 (by decide) (fun c_2 => ?_) (fun c_2 => ?_)
  · refine lv_iconst (v := 1) hx hb dX14_dew_15 (by decide) ?_
    have hFc := va_free (wc := [(h, .inr (20, [.int 0, .ref m1, .int 0, .int 0, .ref m2, .ref m3, .int 0, .int 4, .int (-40), .ref m4, .int 0, .int 20, .int 0, .ref m5, .ref fr, .int 100, .int 60, .int 14, .ref m6, .ref m7, .ref m8]))]) hD hS hA [0] rfl
    refine va_calli (va_runV (As := [.int 1]) (rest := []) ⟨hx, hb, hml, hown, hts⟩ (c_X14_isWrong l hst D e h 0 ([.ref m1, .int 0, .int 0, .ref m2, .ref m3, .int 0, .int 4, .int (-40), .ref m4, .int 0, .int 20, .int 0, .ref m5, .ref fr, .int 100, .int 60, .int 14, .ref m6, .ref m7, .ref m8]) 1 s.heap.size) (cwV 1 hts gX14_dew_X14_isWrong rfl rfl rfl (by decide +kernel) ⟨Nat.le_of_ble_eq_true rfl, Nat.le_of_ble_eq_true rfl⟩) ⟨cIn_blind, va_recv hK hP (ci := 20) (q0 := 0) rfl rfl, cIn_go hK hP hD hE hS hA [0] rfl rfl (by decide) [] rfl⟩ rfl rfl hl.1 rfl (lv_room (Nat.le_of_ble_eq_true rfl)) dX14_dew_16 ⟨Nat.le_of_ble_eq_true rfl, Nat.le_of_ble_eq_true rfl⟩) hS (fun q _ h => hFc q h) hFc (fun r_3 u t H1 locs ht hvm hw hB hz1 hk1 hS => ?_)
    obtain ⟨hP1, hK1, hD1⟩ := hB
    rw [ht] at hP1
    have hK1 := va_K.moved hvm.symm hK1
    obtain ⟨hP, hD⟩ := va_join (wr := []) (w1 := [(h, .inr (20, [.int 1, .ref m1, .int 0, .int 0, .ref m2, .ref m3, .int 0, .int 4, .int (-40), .ref m4, .int 0, .int 20, .int 0, .ref m5, .ref fr, .int 100, .int 60, .int 14, .ref m6, .ref m7, .ref m8]))]) hP hD [0] [] rfl rfl (by decide) (by decide) hk1 hFc hP1 hD1
    generalize H1 = H at hP hS ⊢
    have hP : va_P D vwCl [(h, .inr (20, [.int 1, .ref m1, .int 0, .int 0, .ref m2, .ref m3, .int 0, .int 4, .int (-40), .ref m4, .int 0, .int 20, .int 0, .ref m5, .ref fr, .int 100, .int 60, .int 14, .ref m6, .ref m7, .ref m8]))] H := hP
    have hD : va_D A [(h, .inr (20, [.int 1, .ref m1, .int 0, .int 0, .ref m2, .ref m3, .int 0, .int 4, .int (-40), .ref m4, .int 0, .int 20, .int 0, .ref m5, .ref fr, .int 100, .int 60, .int 14, .ref m6, .ref m7, .ref m8]))] := hD
    have hw : r_3 = 1 := hw.trans (by first | rfl | decide +kernel)
    subst hw
    refine lv_if_eq (tgt := 24) hx hb dX14_dew_19 (by decide) (fun c_5 => absurd c_5 (show ¬ ((1 : Int32) = 0) from by decide +kernel)) (fun c_5 => ?_)
    refine lv_iconst (v := 0) hx hb dX14_dew_22 (by decide) ?_
    exact W.iret (v := 0) hx hb hr (fun t ht hW => ⟨⟨0, ((1, [.ref m1, .int 0, .int 0, .ref m2, .ref m3, .int 0, .int 4, .int (-40), .ref m4, .int 0, .int 20, .int 0, .ref m5, .ref fr, .int 100, .int 60, .int 14, .ref m6, .ref m7, .ref m8]) : Int32 × List Value), rfl, ⟨(by unfold k_X14_dew; rw [if_pos c_2]), (by unfold v_X14_dew; rw [if_pos c_2])⟩, ⟨by rw [ht]; exact hP.sub [0] rfl, va_K.moved hW.alike (hK.sub [] rfl), hD.sub [0] (by decide) rfl⟩⟩, hS.F ht⟩) hS.2.2 dX14_dew_23
  · refine lv_iconst (v := 0) hx hb dX14_dew_11 (by decide) ?_
    refine lv_goto (tgt := 16) hx hb dX14_dew_12 (by decide) ?_
    have hFc := va_free (wc := [(h, .inr (20, [.int 0, .ref m1, .int 0, .int 0, .ref m2, .ref m3, .int 0, .int 4, .int (-40), .ref m4, .int 0, .int 20, .int 0, .ref m5, .ref fr, .int 100, .int 60, .int 14, .ref m6, .ref m7, .ref m8]))]) hD hS hA [0] rfl
    refine va_calli (va_runV (As := [.int 0]) (rest := []) ⟨hx, hb, hml, hown, hts⟩ (c_X14_isWrong l hst D e h 0 ([.ref m1, .int 0, .int 0, .ref m2, .ref m3, .int 0, .int 4, .int (-40), .ref m4, .int 0, .int 20, .int 0, .ref m5, .ref fr, .int 100, .int 60, .int 14, .ref m6, .ref m7, .ref m8]) 0 s.heap.size) (cwV 1 hts gX14_dew_X14_isWrong rfl rfl rfl (by decide +kernel) ⟨Nat.le_of_ble_eq_true rfl, Nat.le_of_ble_eq_true rfl⟩) ⟨cIn_blind, va_recv hK hP (ci := 20) (q0 := 0) rfl rfl, cIn_go hK hP hD hE hS hA [0] rfl rfl (by decide) [] rfl⟩ rfl rfl hl.1 rfl (lv_room (Nat.le_of_ble_eq_true rfl)) dX14_dew_16 ⟨Nat.le_of_ble_eq_true rfl, Nat.le_of_ble_eq_true rfl⟩) hS (fun q _ h => hFc q h) hFc (fun r_6 u t H1 locs ht hvm hw hB hz1 hk1 hS => ?_)
    obtain ⟨hP1, hK1, hD1⟩ := hB
    rw [ht] at hP1
    have hK1 := va_K.moved hvm.symm hK1
    obtain ⟨hP, hD⟩ := va_join (wr := []) (w1 := [(h, .inr (20, [.int 0, .ref m1, .int 0, .int 0, .ref m2, .ref m3, .int 0, .int 4, .int (-40), .ref m4, .int 0, .int 20, .int 0, .ref m5, .ref fr, .int 100, .int 60, .int 14, .ref m6, .ref m7, .ref m8]))]) hP hD [0] [] rfl rfl (by decide) (by decide) hk1 hFc hP1 hD1
    generalize H1 = H at hP hS ⊢
    have hP : va_P D vwCl [(h, .inr (20, [.int 0, .ref m1, .int 0, .int 0, .ref m2, .ref m3, .int 0, .int 4, .int (-40), .ref m4, .int 0, .int 20, .int 0, .ref m5, .ref fr, .int 100, .int 60, .int 14, .ref m6, .ref m7, .ref m8]))] H := hP
    have hD : va_D A [(h, .inr (20, [.int 0, .ref m1, .int 0, .int 0, .ref m2, .ref m3, .int 0, .int 4, .int (-40), .ref m4, .int 0, .int 20, .int 0, .ref m5, .ref fr, .int 100, .int 60, .int 14, .ref m6, .ref m7, .ref m8]))] := hD
    have hw : r_6 = 0 := hw.trans (by first | rfl | decide +kernel)
    subst hw
    refine lv_if_eq (tgt := 24) hx hb dX14_dew_19 (by decide) (fun c_8 => ?_) (fun c_8 => absurd (show (0 : Int32) = 0 from by decide +kernel) c_8)
    refine lv_aload_n hx hb dX14_dew_24 rfl (lv_at hl 0 rfl) ?_
    refine va_get (D := D) (ci := 20) (v := .int (-40)) (C := RX14) (T := TX14) (N := 21) hx hb hts iw_RX14_wsX14_dew hown hK hP 0 rfl rfl 8 (by decide) (hts (.fieldLink RX14 26 "CoatLineModel" "dew" "I") (by decide +kernel)) (fun _ h9 => h9) rfl dX14_dew_25 ?_
    refine lv_istore_n (lv' := [(2, .int (-40)), (0, .ref h), (1, .int p0)]) hx hb dX14_dew_28 rfl hl (by decide) rfl (fun ls hl => ?_)
    refine lv_aload_n hx hb dX14_dew_29 rfl (lv_at hl 1 rfl) ?_
    refine lv_iload_n hx hb dX14_dew_30 rfl (lv_at hl 2 rfl) ?_
    refine va_put (D := D) (ci := 20) (v := .int p0) (ty := .int) (C := RX14) (T := TX14) (N := 21) hx hb hts iw_RX14_wsX14_dew tyX14 tyX14_ok nmX14 hown hK hP hD hS 0 rfl rfl 8 (by decide) (hts (.fieldLink RX14 26 "CoatLineModel" "dew" "I") (by decide +kernel)) (fun _ h9 => h9) rfl (by decide +kernel) rfl rfl (Nat.le_of_ble_eq_true rfl) dX14_dew_31 (fun H locs hP hD hS => ?_)
    have hP : va_P D vwCl [(h, .inr (20, [.int 0, .ref m1, .int 0, .int 0, .ref m2, .ref m3, .int 0, .int 4, .int p0, .ref m4, .int 0, .int 20, .int 0, .ref m5, .ref fr, .int 100, .int 60, .int 14, .ref m6, .ref m7, .ref m8]))] H := hP
    have hD : va_D A [(h, .inr (20, [.int 0, .ref m1, .int 0, .int 0, .ref m2, .ref m3, .int 0, .int 4, .int p0, .ref m4, .int 0, .int 20, .int 0, .ref m5, .ref fr, .int 100, .int 60, .int 14, .ref m6, .ref m7, .ref m8]))] := hD
    refine lv_iload_n hx hb dX14_dew_34 rfl (lv_at hl 0 rfl) ?_
    exact W.iret (v := (-40)) hx hb hr (fun t ht hW => ⟨⟨(-40), ((0, [.ref m1, .int 0, .int 0, .ref m2, .ref m3, .int 0, .int 4, .int p0, .ref m4, .int 0, .int 20, .int 0, .ref m5, .ref fr, .int 100, .int 60, .int 14, .ref m6, .ref m7, .ref m8]) : Int32 × List Value), rfl, ⟨(by unfold k_X14_dew; rw [if_neg c_2]), (by unfold v_X14_dew; rw [if_neg c_2])⟩, ⟨by rw [ht]; exact hP.sub [0] rfl, va_K.moved hW.alike (hK.sub [] rfl), hD.sub [0] (by decide) rfl⟩⟩, hS.F ht⟩) hS.2.2 dX14_dew_35
-- X14_room
def v_X14_room (p0 : Int32) : Int32 := if (v_X14_isBetween p0 (-20) 40) = 0 then 0 else 20
def k_X14_room (p0 : Int32) : Int32 := if (v_X14_isBetween p0 (-20) 40) = 0 then 1 else 0
set_option maxHeartbeats 4000000 in
set_option maxRecDepth 100000 in
theorem c_X14_room (l : Launch) (hst : l.stackTraces = false) (D : va_G) (e : Nat) (h : Nat) (m1 : Nat) (m2 : Nat) (m3 : Nat) (m4 : Nat) (m5 : Nat) (m6 : Nat) (m7 : Nat) (m8 : Nat) (fr : Nat) (p0 : Int32) (sz : Nat) : Met l yX14_room wsX14_room ({ frames := 16, cells := 0, slots := 0, locals := 340 }) (va_Pc [.ref h, .int p0] (cIn D [] [(h, .inr (20, [.int 0, .ref m1, .int 0, .int 0, .ref m2, .ref m3, .int 0, .int 4, .int (-40), .ref m4, .int 0, .int 20, .int 0, .ref m5, .ref fr, .int 100, .int 60, .int 14, .ref m6, .ref m7, .ref m8]))] e sz)) (va_Qi (fun (r : Int32) (u : Int32 × List Value) => u.1 = k_X14_room p0 ∧ r = v_X14_room p0) (fun (u : Int32 × List Value) (t : State) => va_P D vwCl [(h, .inr (20, .int u.1 :: u.2))] t.heap ∧ va_K D vwCl [] t ∧ va_D (va_A [(h, .inr (20, [.int 0, .ref m1, .int 0, .int 0, .ref m2, .ref m3, .int 0, .int 4, .int (-40), .ref m4, .int 0, .int 20, .int 0, .ref m5, .ref fr, .int 100, .int 60, .int 14, .ref m6, .ref m7, .ref m8]))] sz) [(h, .inr (20, .int u.1 :: u.2))]) (va_A [(h, .inr (20, [.int 0, .ref m1, .int 0, .int 0, .ref m2, .ref m3, .int 0, .int 4, .int (-40), .ref m4, .int 0, .int 20, .int 0, .ref m5, .ref fr, .int 100, .int 60, .int 14, .ref m6, .ref m7, .ref m8]))] sz)) 0 0 (va_A [(h, .inr (20, [.int 0, .ref m1, .int 0, .int 0, .ref m2, .ref m3, .int 0, .int 4, .int (-40), .ref m4, .int 0, .int 20, .int 0, .ref m5, .ref fr, .int 100, .int 60, .int 14, .ref m6, .ref m7, .ref m8]))] sz) := by
  refine Met.ofW (cc := cX14_room) (maxL := 3) (ret := (some .int)) (by decide +kernel) rfl ?_
  intro p e9 s m args below meth c s₁ B hml hv
  obtain ⟨rfl, hsz, hP, hK, hD0, hE0⟩ := hv
  have hx := B.exec
  have hb := B.bytes
  have hr := B.returns
  have hts := atoms_spec (ws := wsX14_room) B.pre
  have hown : s.vm.findClass RX14 = some m.cls := findClass_of_methodNamed B.named
  have hlocks := B.notSynchronized
  subst hsz
  have hD := hD0.self (sz := s.heap.size)
  generalize hAe : va_A [(h, .inr (20, [.int 0, .ref m1, .int 0, .int 0, .ref m2, .ref m3, .int 0, .int 4, .int (-40), .ref m4, .int 0, .int 20, .int 0, .ref m5, .ref fr, .int 100, .int 60, .int 14, .ref m6, .ref m7, .ref m8]))] s.heap.size = A at hD hE0 ⊢
  have hA : ∀ q : Nat, s.heap.size ≤ q → A q := fun q h => by rw [← hAe]; exact Or.inr h
  have hS : va_S A s.heap s.heap [] := va_S.rf
  have hE := hE0
  have hP : va_P D vwCl [(h, .inr (20, [.int 0, .ref m1, .int 0, .int 0, .ref m2, .ref m3, .int 0, .int 4, .int (-40), .ref m4, .int 0, .int 20, .int 0, .ref m5, .ref fr, .int 100, .int 60, .int 14, .ref m6, .ref m7, .ref m8]))] s.heap := hP
  have hl := lv_entry ([.ref h, .int p0]) (n := 3) (Nat.le_of_ble_eq_true rfl)
  rw [lg_entry_eq]
  generalize (lg_sl ([.ref h, .int p0]) ++ List.replicate (3 - (lg_sl ([.ref h, .int p0])).length) Slot.unset).toArray = ls at hl ⊢
  have hl : lv_has ls 3 [(0, .ref h), (1, .int p0)] := hl
  refine lv_aload_n hx hb dX14_room_0 rfl (lv_at hl 0 rfl) ?_
  refine lv_iload_n hx hb dX14_room_1 rfl (lv_at hl 1 rfl) ?_
  refine lv_bipush (v := (-20)) hx hb dX14_room_2 (by decide) ?_
  refine lv_bipush (v := 40) hx hb dX14_room_4 (by decide) ?_
  refine vp_callSi (va_Run.run (va_runS (As := [.int p0, .int (-20), .int 40]) (rest := [.ref h]) ⟨hx, hb, hml, hown, hts⟩ (c_X14_isBetween l hst D e p0 (-20) 40 s.heap.size) (va_cwS 3 hts gX14_room_X14_isBetween rfl rfl rfl (by decide +kernel) ⟨Nat.le_of_ble_eq_true rfl, Nat.le_of_ble_eq_true rfl⟩) ⟨cIn_blind, cIn_go hK hP hD hE hS hA [] rfl rfl (by decide) [] rfl⟩ rfl rfl hl.1 rfl (lv_room (Nat.le_of_ble_eq_true rfl)) dX14_room_6 ⟨Nat.le_of_ble_eq_true rfl, Nat.le_of_ble_eq_true rfl⟩)) (fun r_1 hw => ?_)
  subst hw
  refine lv_if_eq (tgt := 16) hx hb dX14_room_9 (by decide) (fun c_2 => ?_) (fun c_2 => ?_)
  · refine lv_iconst (v := 1) hx hb dX14_room_16 (by decide) ?_
    have hFc := va_free (wc := [(h, .inr (20, [.int 0, .ref m1, .int 0, .int 0, .ref m2, .ref m3, .int 0, .int 4, .int (-40), .ref m4, .int 0, .int 20, .int 0, .ref m5, .ref fr, .int 100, .int 60, .int 14, .ref m6, .ref m7, .ref m8]))]) hD hS hA [0] rfl
    refine va_calli (va_runV (As := [.int 1]) (rest := []) ⟨hx, hb, hml, hown, hts⟩ (c_X14_isWrong l hst D e h 0 ([.ref m1, .int 0, .int 0, .ref m2, .ref m3, .int 0, .int 4, .int (-40), .ref m4, .int 0, .int 20, .int 0, .ref m5, .ref fr, .int 100, .int 60, .int 14, .ref m6, .ref m7, .ref m8]) 1 s.heap.size) (cwV 1 hts gX14_room_X14_isWrong rfl rfl rfl (by decide +kernel) ⟨Nat.le_of_ble_eq_true rfl, Nat.le_of_ble_eq_true rfl⟩) ⟨cIn_blind, va_recv hK hP (ci := 20) (q0 := 0) rfl rfl, cIn_go hK hP hD hE hS hA [0] rfl rfl (by decide) [] rfl⟩ rfl rfl hl.1 rfl (lv_room (Nat.le_of_ble_eq_true rfl)) dX14_room_17 ⟨Nat.le_of_ble_eq_true rfl, Nat.le_of_ble_eq_true rfl⟩) hS (fun q _ h => hFc q h) hFc (fun r_3 u t H1 locs ht hvm hw hB hz1 hk1 hS => ?_)
    obtain ⟨hP1, hK1, hD1⟩ := hB
    rw [ht] at hP1
    have hK1 := va_K.moved hvm.symm hK1
    obtain ⟨hP, hD⟩ := va_join (wr := []) (w1 := [(h, .inr (20, [.int 1, .ref m1, .int 0, .int 0, .ref m2, .ref m3, .int 0, .int 4, .int (-40), .ref m4, .int 0, .int 20, .int 0, .ref m5, .ref fr, .int 100, .int 60, .int 14, .ref m6, .ref m7, .ref m8]))]) hP hD [0] [] rfl rfl (by decide) (by decide) hk1 hFc hP1 hD1
    generalize H1 = H at hP hS ⊢
    have hP : va_P D vwCl [(h, .inr (20, [.int 1, .ref m1, .int 0, .int 0, .ref m2, .ref m3, .int 0, .int 4, .int (-40), .ref m4, .int 0, .int 20, .int 0, .ref m5, .ref fr, .int 100, .int 60, .int 14, .ref m6, .ref m7, .ref m8]))] H := hP
    have hD : va_D A [(h, .inr (20, [.int 1, .ref m1, .int 0, .int 0, .ref m2, .ref m3, .int 0, .int 4, .int (-40), .ref m4, .int 0, .int 20, .int 0, .ref m5, .ref fr, .int 100, .int 60, .int 14, .ref m6, .ref m7, .ref m8]))] := hD
    have hw : r_3 = 1 := hw.trans (by first | rfl | decide +kernel)
    subst hw
    refine lv_if_eq (tgt := 25) hx hb dX14_room_20 (by decide) (fun c_5 => absurd c_5 (show ¬ ((1 : Int32) = 0) from by decide +kernel)) (fun c_5 => ?_)
    refine lv_iconst (v := 0) hx hb dX14_room_23 (by decide) ?_
    exact W.iret (v := 0) hx hb hr (fun t ht hW => ⟨⟨0, ((1, [.ref m1, .int 0, .int 0, .ref m2, .ref m3, .int 0, .int 4, .int (-40), .ref m4, .int 0, .int 20, .int 0, .ref m5, .ref fr, .int 100, .int 60, .int 14, .ref m6, .ref m7, .ref m8]) : Int32 × List Value), rfl, ⟨(by unfold k_X14_room; rw [if_pos c_2]), (by unfold v_X14_room; rw [if_pos c_2])⟩, ⟨by rw [ht]; exact hP.sub [0] rfl, va_K.moved hW.alike (hK.sub [] rfl), hD.sub [0] (by decide) rfl⟩⟩, hS.F ht⟩) hS.2.2 dX14_room_24
  · refine lv_iconst (v := 0) hx hb dX14_room_12 (by decide) ?_
    refine lv_goto (tgt := 17) hx hb dX14_room_13 (by decide) ?_
    have hFc := va_free (wc := [(h, .inr (20, [.int 0, .ref m1, .int 0, .int 0, .ref m2, .ref m3, .int 0, .int 4, .int (-40), .ref m4, .int 0, .int 20, .int 0, .ref m5, .ref fr, .int 100, .int 60, .int 14, .ref m6, .ref m7, .ref m8]))]) hD hS hA [0] rfl
    refine va_calli (va_runV (As := [.int 0]) (rest := []) ⟨hx, hb, hml, hown, hts⟩ (c_X14_isWrong l hst D e h 0 ([.ref m1, .int 0, .int 0, .ref m2, .ref m3, .int 0, .int 4, .int (-40), .ref m4, .int 0, .int 20, .int 0, .ref m5, .ref fr, .int 100, .int 60, .int 14, .ref m6, .ref m7, .ref m8]) 0 s.heap.size) (cwV 1 hts gX14_room_X14_isWrong rfl rfl rfl (by decide +kernel) ⟨Nat.le_of_ble_eq_true rfl, Nat.le_of_ble_eq_true rfl⟩) ⟨cIn_blind, va_recv hK hP (ci := 20) (q0 := 0) rfl rfl, cIn_go hK hP hD hE hS hA [0] rfl rfl (by decide) [] rfl⟩ rfl rfl hl.1 rfl (lv_room (Nat.le_of_ble_eq_true rfl)) dX14_room_17 ⟨Nat.le_of_ble_eq_true rfl, Nat.le_of_ble_eq_true rfl⟩) hS (fun q _ h => hFc q h) hFc (fun r_6 u t H1 locs ht hvm hw hB hz1 hk1 hS => ?_)
    obtain ⟨hP1, hK1, hD1⟩ := hB
    rw [ht] at hP1
    have hK1 := va_K.moved hvm.symm hK1
    obtain ⟨hP, hD⟩ := va_join (wr := []) (w1 := [(h, .inr (20, [.int 0, .ref m1, .int 0, .int 0, .ref m2, .ref m3, .int 0, .int 4, .int (-40), .ref m4, .int 0, .int 20, .int 0, .ref m5, .ref fr, .int 100, .int 60, .int 14, .ref m6, .ref m7, .ref m8]))]) hP hD [0] [] rfl rfl (by decide) (by decide) hk1 hFc hP1 hD1
    generalize H1 = H at hP hS ⊢
    have hP : va_P D vwCl [(h, .inr (20, [.int 0, .ref m1, .int 0, .int 0, .ref m2, .ref m3, .int 0, .int 4, .int (-40), .ref m4, .int 0, .int 20, .int 0, .ref m5, .ref fr, .int 100, .int 60, .int 14, .ref m6, .ref m7, .ref m8]))] H := hP
    have hD : va_D A [(h, .inr (20, [.int 0, .ref m1, .int 0, .int 0, .ref m2, .ref m3, .int 0, .int 4, .int (-40), .ref m4, .int 0, .int 20, .int 0, .ref m5, .ref fr, .int 100, .int 60, .int 14, .ref m6, .ref m7, .ref m8]))] := hD
    have hw : r_6 = 0 := hw.trans (by first | rfl | decide +kernel)
    subst hw
    refine lv_if_eq (tgt := 25) hx hb dX14_room_20 (by decide) (fun c_8 => ?_) (fun c_8 => absurd (show (0 : Int32) = 0 from by decide +kernel) c_8)
    refine lv_aload_n hx hb dX14_room_25 rfl (lv_at hl 0 rfl) ?_
    refine va_get (D := D) (ci := 20) (v := .int 20) (C := RX14) (T := TX14) (N := 21) hx hb hts iw_RX14_wsX14_room hown hK hP 0 rfl rfl 11 (by decide) (hts (.fieldLink RX14 32 "CoatLineModel" "room" "I") (by decide +kernel)) (fun _ h9 => h9) rfl dX14_room_26 ?_
    refine lv_istore_n (lv' := [(2, .int 20), (0, .ref h), (1, .int p0)]) hx hb dX14_room_29 rfl hl (by decide) rfl (fun ls hl => ?_)
    refine lv_aload_n hx hb dX14_room_30 rfl (lv_at hl 1 rfl) ?_
    refine lv_iload_n hx hb dX14_room_31 rfl (lv_at hl 2 rfl) ?_
    refine va_put (D := D) (ci := 20) (v := .int p0) (ty := .int) (C := RX14) (T := TX14) (N := 21) hx hb hts iw_RX14_wsX14_room tyX14 tyX14_ok nmX14 hown hK hP hD hS 0 rfl rfl 11 (by decide) (hts (.fieldLink RX14 32 "CoatLineModel" "room" "I") (by decide +kernel)) (fun _ h9 => h9) rfl (by decide +kernel) rfl rfl (Nat.le_of_ble_eq_true rfl) dX14_room_32 (fun H locs hP hD hS => ?_)
    have hP : va_P D vwCl [(h, .inr (20, [.int 0, .ref m1, .int 0, .int 0, .ref m2, .ref m3, .int 0, .int 4, .int (-40), .ref m4, .int 0, .int p0, .int 0, .ref m5, .ref fr, .int 100, .int 60, .int 14, .ref m6, .ref m7, .ref m8]))] H := hP
    have hD : va_D A [(h, .inr (20, [.int 0, .ref m1, .int 0, .int 0, .ref m2, .ref m3, .int 0, .int 4, .int (-40), .ref m4, .int 0, .int p0, .int 0, .ref m5, .ref fr, .int 100, .int 60, .int 14, .ref m6, .ref m7, .ref m8]))] := hD
    refine lv_iload_n hx hb dX14_room_35 rfl (lv_at hl 0 rfl) ?_
    exact W.iret (v := 20) hx hb hr (fun t ht hW => ⟨⟨20, ((0, [.ref m1, .int 0, .int 0, .ref m2, .ref m3, .int 0, .int 4, .int (-40), .ref m4, .int 0, .int p0, .int 0, .ref m5, .ref fr, .int 100, .int 60, .int 14, .ref m6, .ref m7, .ref m8]) : Int32 × List Value), rfl, ⟨(by unfold k_X14_room; rw [if_neg c_2]), (by unfold v_X14_room; rw [if_neg c_2])⟩, ⟨by rw [ht]; exact hP.sub [0] rfl, va_K.moved hW.alike (hK.sub [] rfl), hD.sub [0] (by decide) rfl⟩⟩, hS.F ht⟩) hS.2.2 dX14_room_36
-- X14_drift
def v_X14_drift (p0 : Int32) : Int32 := if (v_X14_isBetween p0 0 99) = 0 then 0 else 0
def k_X14_drift (p0 : Int32) : Int32 := if (v_X14_isBetween p0 0 99) = 0 then 1 else 0
set_option maxHeartbeats 4000000 in
set_option maxRecDepth 100000 in
theorem c_X14_drift (l : Launch) (hst : l.stackTraces = false) (D : va_G) (e : Nat) (h : Nat) (m1 : Nat) (m2 : Nat) (m3 : Nat) (m4 : Nat) (m5 : Nat) (m6 : Nat) (m7 : Nat) (m8 : Nat) (fr : Nat) (p0 : Int32) (sz : Nat) : Met l yX14_drift wsX14_drift ({ frames := 16, cells := 0, slots := 0, locals := 340 }) (va_Pc [.ref h, .int p0] (cIn D [] [(h, .inr (20, [.int 0, .ref m1, .int 0, .int 0, .ref m2, .ref m3, .int 0, .int 4, .int (-40), .ref m4, .int 0, .int 20, .int 0, .ref m5, .ref fr, .int 100, .int 60, .int 14, .ref m6, .ref m7, .ref m8]))] e sz)) (va_Qi (fun (r : Int32) (u : Int32 × List Value) => u.1 = k_X14_drift p0 ∧ r = v_X14_drift p0) (fun (u : Int32 × List Value) (t : State) => va_P D vwCl [(h, .inr (20, .int u.1 :: u.2))] t.heap ∧ va_K D vwCl [] t ∧ va_D (va_A [(h, .inr (20, [.int 0, .ref m1, .int 0, .int 0, .ref m2, .ref m3, .int 0, .int 4, .int (-40), .ref m4, .int 0, .int 20, .int 0, .ref m5, .ref fr, .int 100, .int 60, .int 14, .ref m6, .ref m7, .ref m8]))] sz) [(h, .inr (20, .int u.1 :: u.2))]) (va_A [(h, .inr (20, [.int 0, .ref m1, .int 0, .int 0, .ref m2, .ref m3, .int 0, .int 4, .int (-40), .ref m4, .int 0, .int 20, .int 0, .ref m5, .ref fr, .int 100, .int 60, .int 14, .ref m6, .ref m7, .ref m8]))] sz)) 0 0 (va_A [(h, .inr (20, [.int 0, .ref m1, .int 0, .int 0, .ref m2, .ref m3, .int 0, .int 4, .int (-40), .ref m4, .int 0, .int 20, .int 0, .ref m5, .ref fr, .int 100, .int 60, .int 14, .ref m6, .ref m7, .ref m8]))] sz) := by
  refine Met.ofW (cc := cX14_drift) (maxL := 3) (ret := (some .int)) (by decide +kernel) rfl ?_
  intro p e9 s m args below meth c s₁ B hml hv
  obtain ⟨rfl, hsz, hP, hK, hD0, hE0⟩ := hv
  have hx := B.exec
  have hb := B.bytes
  have hr := B.returns
  have hts := atoms_spec (ws := wsX14_drift) B.pre
  have hown : s.vm.findClass RX14 = some m.cls := findClass_of_methodNamed B.named
  have hlocks := B.notSynchronized
  subst hsz
  have hD := hD0.self (sz := s.heap.size)
  generalize hAe : va_A [(h, .inr (20, [.int 0, .ref m1, .int 0, .int 0, .ref m2, .ref m3, .int 0, .int 4, .int (-40), .ref m4, .int 0, .int 20, .int 0, .ref m5, .ref fr, .int 100, .int 60, .int 14, .ref m6, .ref m7, .ref m8]))] s.heap.size = A at hD hE0 ⊢
  have hA : ∀ q : Nat, s.heap.size ≤ q → A q := fun q h => by rw [← hAe]; exact Or.inr h
  have hS : va_S A s.heap s.heap [] := va_S.rf
  have hE := hE0
  have hP : va_P D vwCl [(h, .inr (20, [.int 0, .ref m1, .int 0, .int 0, .ref m2, .ref m3, .int 0, .int 4, .int (-40), .ref m4, .int 0, .int 20, .int 0, .ref m5, .ref fr, .int 100, .int 60, .int 14, .ref m6, .ref m7, .ref m8]))] s.heap := hP
  have hl := lv_entry ([.ref h, .int p0]) (n := 3) (Nat.le_of_ble_eq_true rfl)
  rw [lg_entry_eq]
  generalize (lg_sl ([.ref h, .int p0]) ++ List.replicate (3 - (lg_sl ([.ref h, .int p0])).length) Slot.unset).toArray = ls at hl ⊢
  have hl : lv_has ls 3 [(0, .ref h), (1, .int p0)] := hl
  refine lv_aload_n hx hb dX14_drift_0 rfl (lv_at hl 0 rfl) ?_
  refine lv_iload_n hx hb dX14_drift_1 rfl (lv_at hl 1 rfl) ?_
  refine lv_iconst (v := 0) hx hb dX14_drift_2 (by decide) ?_
  refine lv_bipush (v := 99) hx hb dX14_drift_3 (by decide) ?_
  refine vp_callSi (va_Run.run (va_runS (As := [.int p0, .int 0, .int 99]) (rest := [.ref h]) ⟨hx, hb, hml, hown, hts⟩ (c_X14_isBetween l hst D e p0 0 99 s.heap.size) (va_cwS 3 hts gX14_drift_X14_isBetween rfl rfl rfl (by decide +kernel) ⟨Nat.le_of_ble_eq_true rfl, Nat.le_of_ble_eq_true rfl⟩) ⟨cIn_blind, cIn_go hK hP hD hE hS hA [] rfl rfl (by decide) [] rfl⟩ rfl rfl hl.1 rfl (lv_room (Nat.le_of_ble_eq_true rfl)) dX14_drift_5 ⟨Nat.le_of_ble_eq_true rfl, Nat.le_of_ble_eq_true rfl⟩)) (fun r_1 hw => ?_)
  subst hw
  refine lv_if_eq (tgt := 15) hx hb dX14_drift_8 (by decide) (fun c_2 => ?_) (fun c_2 => ?_)
  · refine lv_iconst (v := 1) hx hb dX14_drift_15 (by decide) ?_
    have hFc := va_free (wc := [(h, .inr (20, [.int 0, .ref m1, .int 0, .int 0, .ref m2, .ref m3, .int 0, .int 4, .int (-40), .ref m4, .int 0, .int 20, .int 0, .ref m5, .ref fr, .int 100, .int 60, .int 14, .ref m6, .ref m7, .ref m8]))]) hD hS hA [0] rfl
    refine va_calli (va_runV (As := [.int 1]) (rest := []) ⟨hx, hb, hml, hown, hts⟩ (c_X14_isWrong l hst D e h 0 ([.ref m1, .int 0, .int 0, .ref m2, .ref m3, .int 0, .int 4, .int (-40), .ref m4, .int 0, .int 20, .int 0, .ref m5, .ref fr, .int 100, .int 60, .int 14, .ref m6, .ref m7, .ref m8]) 1 s.heap.size) (cwV 1 hts gX14_drift_X14_isWrong rfl rfl rfl (by decide +kernel) ⟨Nat.le_of_ble_eq_true rfl, Nat.le_of_ble_eq_true rfl⟩) ⟨cIn_blind, va_recv hK hP (ci := 20) (q0 := 0) rfl rfl, cIn_go hK hP hD hE hS hA [0] rfl rfl (by decide) [] rfl⟩ rfl rfl hl.1 rfl (lv_room (Nat.le_of_ble_eq_true rfl)) dX14_drift_16 ⟨Nat.le_of_ble_eq_true rfl, Nat.le_of_ble_eq_true rfl⟩) hS (fun q _ h => hFc q h) hFc (fun r_3 u t H1 locs ht hvm hw hB hz1 hk1 hS => ?_)
    obtain ⟨hP1, hK1, hD1⟩ := hB
    rw [ht] at hP1
    have hK1 := va_K.moved hvm.symm hK1
    obtain ⟨hP, hD⟩ := va_join (wr := []) (w1 := [(h, .inr (20, [.int 1, .ref m1, .int 0, .int 0, .ref m2, .ref m3, .int 0, .int 4, .int (-40), .ref m4, .int 0, .int 20, .int 0, .ref m5, .ref fr, .int 100, .int 60, .int 14, .ref m6, .ref m7, .ref m8]))]) hP hD [0] [] rfl rfl (by decide) (by decide) hk1 hFc hP1 hD1
    generalize H1 = H at hP hS ⊢
    have hP : va_P D vwCl [(h, .inr (20, [.int 1, .ref m1, .int 0, .int 0, .ref m2, .ref m3, .int 0, .int 4, .int (-40), .ref m4, .int 0, .int 20, .int 0, .ref m5, .ref fr, .int 100, .int 60, .int 14, .ref m6, .ref m7, .ref m8]))] H := hP
    have hD : va_D A [(h, .inr (20, [.int 1, .ref m1, .int 0, .int 0, .ref m2, .ref m3, .int 0, .int 4, .int (-40), .ref m4, .int 0, .int 20, .int 0, .ref m5, .ref fr, .int 100, .int 60, .int 14, .ref m6, .ref m7, .ref m8]))] := hD
    have hw : r_3 = 1 := hw.trans (by first | rfl | decide +kernel)
    subst hw
    refine lv_if_eq (tgt := 24) hx hb dX14_drift_19 (by decide) (fun c_5 => absurd c_5 (show ¬ ((1 : Int32) = 0) from by decide +kernel)) (fun c_5 => ?_)
    refine lv_iconst (v := 0) hx hb dX14_drift_22 (by decide) ?_
    exact W.iret (v := 0) hx hb hr (fun t ht hW => ⟨⟨0, ((1, [.ref m1, .int 0, .int 0, .ref m2, .ref m3, .int 0, .int 4, .int (-40), .ref m4, .int 0, .int 20, .int 0, .ref m5, .ref fr, .int 100, .int 60, .int 14, .ref m6, .ref m7, .ref m8]) : Int32 × List Value), rfl, ⟨(by unfold k_X14_drift; rw [if_pos c_2]), (by unfold v_X14_drift; rw [if_pos c_2])⟩, ⟨by rw [ht]; exact hP.sub [0] rfl, va_K.moved hW.alike (hK.sub [] rfl), hD.sub [0] (by decide) rfl⟩⟩, hS.F ht⟩) hS.2.2 dX14_drift_23
  · refine lv_iconst (v := 0) hx hb dX14_drift_11 (by decide) ?_
    refine lv_goto (tgt := 16) hx hb dX14_drift_12 (by decide) ?_
    have hFc := va_free (wc := [(h, .inr (20, [.int 0, .ref m1, .int 0, .int 0, .ref m2, .ref m3, .int 0, .int 4, .int (-40), .ref m4, .int 0, .int 20, .int 0, .ref m5, .ref fr, .int 100, .int 60, .int 14, .ref m6, .ref m7, .ref m8]))]) hD hS hA [0] rfl
    refine va_calli (va_runV (As := [.int 0]) (rest := []) ⟨hx, hb, hml, hown, hts⟩ (c_X14_isWrong l hst D e h 0 ([.ref m1, .int 0, .int 0, .ref m2, .ref m3, .int 0, .int 4, .int (-40), .ref m4, .int 0, .int 20, .int 0, .ref m5, .ref fr, .int 100, .int 60, .int 14, .ref m6, .ref m7, .ref m8]) 0 s.heap.size) (cwV 1 hts gX14_drift_X14_isWrong rfl rfl rfl (by decide +kernel) ⟨Nat.le_of_ble_eq_true rfl, Nat.le_of_ble_eq_true rfl⟩) ⟨cIn_blind, va_recv hK hP (ci := 20) (q0 := 0) rfl rfl, cIn_go hK hP hD hE hS hA [0] rfl rfl (by decide) [] rfl⟩ rfl rfl hl.1 rfl (lv_room (Nat.le_of_ble_eq_true rfl)) dX14_drift_16 ⟨Nat.le_of_ble_eq_true rfl, Nat.le_of_ble_eq_true rfl⟩) hS (fun q _ h => hFc q h) hFc (fun r_6 u t H1 locs ht hvm hw hB hz1 hk1 hS => ?_)
    obtain ⟨hP1, hK1, hD1⟩ := hB
    rw [ht] at hP1
    have hK1 := va_K.moved hvm.symm hK1
    obtain ⟨hP, hD⟩ := va_join (wr := []) (w1 := [(h, .inr (20, [.int 0, .ref m1, .int 0, .int 0, .ref m2, .ref m3, .int 0, .int 4, .int (-40), .ref m4, .int 0, .int 20, .int 0, .ref m5, .ref fr, .int 100, .int 60, .int 14, .ref m6, .ref m7, .ref m8]))]) hP hD [0] [] rfl rfl (by decide) (by decide) hk1 hFc hP1 hD1
    generalize H1 = H at hP hS ⊢
    have hP : va_P D vwCl [(h, .inr (20, [.int 0, .ref m1, .int 0, .int 0, .ref m2, .ref m3, .int 0, .int 4, .int (-40), .ref m4, .int 0, .int 20, .int 0, .ref m5, .ref fr, .int 100, .int 60, .int 14, .ref m6, .ref m7, .ref m8]))] H := hP
    have hD : va_D A [(h, .inr (20, [.int 0, .ref m1, .int 0, .int 0, .ref m2, .ref m3, .int 0, .int 4, .int (-40), .ref m4, .int 0, .int 20, .int 0, .ref m5, .ref fr, .int 100, .int 60, .int 14, .ref m6, .ref m7, .ref m8]))] := hD
    have hw : r_6 = 0 := hw.trans (by first | rfl | decide +kernel)
    subst hw
    refine lv_if_eq (tgt := 24) hx hb dX14_drift_19 (by decide) (fun c_8 => ?_) (fun c_8 => absurd (show (0 : Int32) = 0 from by decide +kernel) c_8)
    refine lv_aload_n hx hb dX14_drift_24 rfl (lv_at hl 0 rfl) ?_
    refine va_get (D := D) (ci := 20) (v := .int 0) (C := RX14) (T := TX14) (N := 21) hx hb hts iw_RX14_wsX14_drift hown hK hP 0 rfl rfl 2 (by decide) (hts (.fieldLink RX14 90 "CoatLineModel" "drift" "I") (by decide +kernel)) (fun _ h9 => h9) rfl dX14_drift_25 ?_
    refine lv_istore_n (lv' := [(2, .int 0), (0, .ref h), (1, .int p0)]) hx hb dX14_drift_28 rfl hl (by decide) rfl (fun ls hl => ?_)
    refine lv_aload_n hx hb dX14_drift_29 rfl (lv_at hl 1 rfl) ?_
    refine lv_iload_n hx hb dX14_drift_30 rfl (lv_at hl 2 rfl) ?_
    refine va_put (D := D) (ci := 20) (v := .int p0) (ty := .int) (C := RX14) (T := TX14) (N := 21) hx hb hts iw_RX14_wsX14_drift tyX14 tyX14_ok nmX14 hown hK hP hD hS 0 rfl rfl 2 (by decide) (hts (.fieldLink RX14 90 "CoatLineModel" "drift" "I") (by decide +kernel)) (fun _ h9 => h9) rfl (by decide +kernel) rfl rfl (Nat.le_of_ble_eq_true rfl) dX14_drift_31 (fun H locs hP hD hS => ?_)
    have hP : va_P D vwCl [(h, .inr (20, [.int 0, .ref m1, .int p0, .int 0, .ref m2, .ref m3, .int 0, .int 4, .int (-40), .ref m4, .int 0, .int 20, .int 0, .ref m5, .ref fr, .int 100, .int 60, .int 14, .ref m6, .ref m7, .ref m8]))] H := hP
    have hD : va_D A [(h, .inr (20, [.int 0, .ref m1, .int p0, .int 0, .ref m2, .ref m3, .int 0, .int 4, .int (-40), .ref m4, .int 0, .int 20, .int 0, .ref m5, .ref fr, .int 100, .int 60, .int 14, .ref m6, .ref m7, .ref m8]))] := hD
    refine lv_iload_n hx hb dX14_drift_34 rfl (lv_at hl 0 rfl) ?_
    exact W.iret (v := 0) hx hb hr (fun t ht hW => ⟨⟨0, ((0, [.ref m1, .int p0, .int 0, .ref m2, .ref m3, .int 0, .int 4, .int (-40), .ref m4, .int 0, .int 20, .int 0, .ref m5, .ref fr, .int 100, .int 60, .int 14, .ref m6, .ref m7, .ref m8]) : Int32 × List Value), rfl, ⟨(by unfold k_X14_drift; rw [if_neg c_2]), (by unfold v_X14_drift; rw [if_neg c_2])⟩, ⟨by rw [ht]; exact hP.sub [0] rfl, va_K.moved hW.alike (hK.sub [] rfl), hD.sub [0] (by decide) rfl⟩⟩, hS.F ht⟩) hS.2.2 dX14_drift_35
-- X14_bounds
def v_X14_bounds (p0 : Int32) (p1 : Int32) (p2 : Int32) : Int32 := if p0 < 0 then 0 else (if p1 < 0 then 0 else (if p0 < p1 then 0 else (if (v_X14_isBetween p2 0 99) = 0 then 0 else 100)))
def k_X14_bounds (p0 : Int32) (p1 : Int32) (p2 : Int32) : Int32 := if p0 < 0 then 1 else (if p1 < 0 then 1 else (if p0 < p1 then 1 else (if (v_X14_isBetween p2 0 99) = 0 then 1 else 0)))
set_option maxHeartbeats 4000000 in
set_option maxRecDepth 100000 in
theorem c_X14_bounds (l : Launch) (hst : l.stackTraces = false) (D : va_G) (e : Nat) (h : Nat) (m1 : Nat) (m2 : Nat) (m3 : Nat) (m4 : Nat) (m5 : Nat) (m6 : Nat) (m7 : Nat) (m8 : Nat) (fr : Nat) (p0 : Int32) (p1 : Int32) (p2 : Int32) (sz : Nat) : Met l yX14_bounds wsX14_bounds ({ frames := 16, cells := 0, slots := 0, locals := 340 }) (va_Pc [.ref h, .int p0, .int p1, .int p2] (cIn D [] [(h, .inr (20, [.int 0, .ref m1, .int 0, .int 0, .ref m2, .ref m3, .int 0, .int 4, .int (-40), .ref m4, .int 0, .int 20, .int 0, .ref m5, .ref fr, .int 100, .int 60, .int 14, .ref m6, .ref m7, .ref m8]))] e sz)) (va_Qi (fun (r : Int32) (u : Int32 × List Value) => u.1 = k_X14_bounds p0 p1 p2 ∧ r = v_X14_bounds p0 p1 p2) (fun (u : Int32 × List Value) (t : State) => va_P D vwCl [(h, .inr (20, .int u.1 :: u.2))] t.heap ∧ va_K D vwCl [] t ∧ va_D (va_A [(h, .inr (20, [.int 0, .ref m1, .int 0, .int 0, .ref m2, .ref m3, .int 0, .int 4, .int (-40), .ref m4, .int 0, .int 20, .int 0, .ref m5, .ref fr, .int 100, .int 60, .int 14, .ref m6, .ref m7, .ref m8]))] sz) [(h, .inr (20, .int u.1 :: u.2))]) (va_A [(h, .inr (20, [.int 0, .ref m1, .int 0, .int 0, .ref m2, .ref m3, .int 0, .int 4, .int (-40), .ref m4, .int 0, .int 20, .int 0, .ref m5, .ref fr, .int 100, .int 60, .int 14, .ref m6, .ref m7, .ref m8]))] sz)) 0 0 (va_A [(h, .inr (20, [.int 0, .ref m1, .int 0, .int 0, .ref m2, .ref m3, .int 0, .int 4, .int (-40), .ref m4, .int 0, .int 20, .int 0, .ref m5, .ref fr, .int 100, .int 60, .int 14, .ref m6, .ref m7, .ref m8]))] sz) := by
  refine Met.ofW (cc := cX14_bounds) (maxL := 5) (ret := (some .int)) (by decide +kernel) rfl ?_
  intro p e9 s m args below meth c s₁ B hml hv
  obtain ⟨rfl, hsz, hP, hK, hD0, hE0⟩ := hv
  have hx := B.exec
  have hb := B.bytes
  have hr := B.returns
  have hts := atoms_spec (ws := wsX14_bounds) B.pre
  have hown : s.vm.findClass RX14 = some m.cls := findClass_of_methodNamed B.named
  have hlocks := B.notSynchronized
  subst hsz
  have hD := hD0.self (sz := s.heap.size)
  generalize hAe : va_A [(h, .inr (20, [.int 0, .ref m1, .int 0, .int 0, .ref m2, .ref m3, .int 0, .int 4, .int (-40), .ref m4, .int 0, .int 20, .int 0, .ref m5, .ref fr, .int 100, .int 60, .int 14, .ref m6, .ref m7, .ref m8]))] s.heap.size = A at hD hE0 ⊢
  have hA : ∀ q : Nat, s.heap.size ≤ q → A q := fun q h => by rw [← hAe]; exact Or.inr h
  have hS : va_S A s.heap s.heap [] := va_S.rf
  have hE := hE0
  have hP : va_P D vwCl [(h, .inr (20, [.int 0, .ref m1, .int 0, .int 0, .ref m2, .ref m3, .int 0, .int 4, .int (-40), .ref m4, .int 0, .int 20, .int 0, .ref m5, .ref fr, .int 100, .int 60, .int 14, .ref m6, .ref m7, .ref m8]))] s.heap := hP
  have hl := lv_entry ([.ref h, .int p0, .int p1, .int p2]) (n := 5) (Nat.le_of_ble_eq_true rfl)
  rw [lg_entry_eq]
  generalize (lg_sl ([.ref h, .int p0, .int p1, .int p2]) ++ List.replicate (5 - (lg_sl ([.ref h, .int p0, .int p1, .int p2])).length) Slot.unset).toArray = ls at hl ⊢
  have hl : lv_has ls 5 [(0, .ref h), (1, .int p0), (2, .int p1), (3, .int p2)] := hl
  refine lv_aload_n hx hb dX14_bounds_0 rfl (lv_at hl 0 rfl) ?_
  refine lv_iload_n hx hb dX14_bounds_1 rfl (lv_at hl 1 rfl) ?_
  refine lv_if_lt (tgt := 24) hx hb dX14_bounds_2 (by decide) (fun c_1 => ?_) (fun c_1 => ?_)
  · refine lv_iconst (v := 1) hx hb dX14_bounds_24 (by decide) ?_
    refine lv_goto (tgt := 29) hx hb dX14_bounds_25 (by decide) ?_
    have hFc := va_free (wc := [(h, .inr (20, [.int 0, .ref m1, .int 0, .int 0, .ref m2, .ref m3, .int 0, .int 4, .int (-40), .ref m4, .int 0, .int 20, .int 0, .ref m5, .ref fr, .int 100, .int 60, .int 14, .ref m6, .ref m7, .ref m8]))]) hD hS hA [0] rfl
    refine va_calli (va_runV (As := [.int 1]) (rest := []) ⟨hx, hb, hml, hown, hts⟩ (c_X14_isWrong l hst D e h 0 ([.ref m1, .int 0, .int 0, .ref m2, .ref m3, .int 0, .int 4, .int (-40), .ref m4, .int 0, .int 20, .int 0, .ref m5, .ref fr, .int 100, .int 60, .int 14, .ref m6, .ref m7, .ref m8]) 1 s.heap.size) (cwV 1 hts gX14_bounds_X14_isWrong rfl rfl rfl (by decide +kernel) ⟨Nat.le_of_ble_eq_true rfl, Nat.le_of_ble_eq_true rfl⟩) ⟨cIn_blind, va_recv hK hP (ci := 20) (q0 := 0) rfl rfl, cIn_go hK hP hD hE hS hA [0] rfl rfl (by decide) [] rfl⟩ rfl rfl hl.1 rfl (lv_room (Nat.le_of_ble_eq_true rfl)) dX14_bounds_29 ⟨Nat.le_of_ble_eq_true rfl, Nat.le_of_ble_eq_true rfl⟩) hS (fun q _ h => hFc q h) hFc (fun r_2 u t H1 locs ht hvm hw hB hz1 hk1 hS => ?_)
    obtain ⟨hP1, hK1, hD1⟩ := hB
    rw [ht] at hP1
    have hK1 := va_K.moved hvm.symm hK1
    obtain ⟨hP, hD⟩ := va_join (wr := []) (w1 := [(h, .inr (20, [.int 1, .ref m1, .int 0, .int 0, .ref m2, .ref m3, .int 0, .int 4, .int (-40), .ref m4, .int 0, .int 20, .int 0, .ref m5, .ref fr, .int 100, .int 60, .int 14, .ref m6, .ref m7, .ref m8]))]) hP hD [0] [] rfl rfl (by decide) (by decide) hk1 hFc hP1 hD1
    generalize H1 = H at hP hS ⊢
    have hP : va_P D vwCl [(h, .inr (20, [.int 1, .ref m1, .int 0, .int 0, .ref m2, .ref m3, .int 0, .int 4, .int (-40), .ref m4, .int 0, .int 20, .int 0, .ref m5, .ref fr, .int 100, .int 60, .int 14, .ref m6, .ref m7, .ref m8]))] H := hP
    have hD : va_D A [(h, .inr (20, [.int 1, .ref m1, .int 0, .int 0, .ref m2, .ref m3, .int 0, .int 4, .int (-40), .ref m4, .int 0, .int 20, .int 0, .ref m5, .ref fr, .int 100, .int 60, .int 14, .ref m6, .ref m7, .ref m8]))] := hD
    have hw : r_2 = 1 := hw.trans (by first | rfl | decide +kernel)
    subst hw
    refine lv_if_eq (tgt := 37) hx hb dX14_bounds_32 (by decide) (fun c_4 => absurd c_4 (show ¬ ((1 : Int32) = 0) from by decide +kernel)) (fun c_4 => ?_)
    refine lv_iconst (v := 0) hx hb dX14_bounds_35 (by decide) ?_
    exact W.iret (v := 0) hx hb hr (fun t ht hW => ⟨⟨0, ((1, [.ref m1, .int 0, .int 0, .ref m2, .ref m3, .int 0, .int 4, .int (-40), .ref m4, .int 0, .int 20, .int 0, .ref m5, .ref fr, .int 100, .int 60, .int 14, .ref m6, .ref m7, .ref m8]) : Int32 × List Value), rfl, ⟨(by unfold k_X14_bounds; rw [if_pos c_1]), (by unfold v_X14_bounds; rw [if_pos c_1])⟩, ⟨by rw [ht]; exact hP.sub [0] rfl, va_K.moved hW.alike (hK.sub [] rfl), hD.sub [0] (by decide) rfl⟩⟩, hS.F ht⟩) hS.2.2 dX14_bounds_36
  · refine lv_iload_n hx hb dX14_bounds_5 rfl (lv_at hl 2 rfl) ?_
    refine lv_if_lt (tgt := 24) hx hb dX14_bounds_6 (by decide) (fun c_5 => ?_) (fun c_5 => ?_)
    · refine lv_iconst (v := 1) hx hb dX14_bounds_24 (by decide) ?_
      refine lv_goto (tgt := 29) hx hb dX14_bounds_25 (by decide) ?_
      have hFc := va_free (wc := [(h, .inr (20, [.int 0, .ref m1, .int 0, .int 0, .ref m2, .ref m3, .int 0, .int 4, .int (-40), .ref m4, .int 0, .int 20, .int 0, .ref m5, .ref fr, .int 100, .int 60, .int 14, .ref m6, .ref m7, .ref m8]))]) hD hS hA [0] rfl
      refine va_calli (va_runV (As := [.int 1]) (rest := []) ⟨hx, hb, hml, hown, hts⟩ (c_X14_isWrong l hst D e h 0 ([.ref m1, .int 0, .int 0, .ref m2, .ref m3, .int 0, .int 4, .int (-40), .ref m4, .int 0, .int 20, .int 0, .ref m5, .ref fr, .int 100, .int 60, .int 14, .ref m6, .ref m7, .ref m8]) 1 s.heap.size) (cwV 1 hts gX14_bounds_X14_isWrong rfl rfl rfl (by decide +kernel) ⟨Nat.le_of_ble_eq_true rfl, Nat.le_of_ble_eq_true rfl⟩) ⟨cIn_blind, va_recv hK hP (ci := 20) (q0 := 0) rfl rfl, cIn_go hK hP hD hE hS hA [0] rfl rfl (by decide) [] rfl⟩ rfl rfl hl.1 rfl (lv_room (Nat.le_of_ble_eq_true rfl)) dX14_bounds_29 ⟨Nat.le_of_ble_eq_true rfl, Nat.le_of_ble_eq_true rfl⟩) hS (fun q _ h => hFc q h) hFc (fun r_6 u t H1 locs ht hvm hw hB hz1 hk1 hS => ?_)
      obtain ⟨hP1, hK1, hD1⟩ := hB
      rw [ht] at hP1
      have hK1 := va_K.moved hvm.symm hK1
      obtain ⟨hP, hD⟩ := va_join (wr := []) (w1 := [(h, .inr (20, [.int 1, .ref m1, .int 0, .int 0, .ref m2, .ref m3, .int 0, .int 4, .int (-40), .ref m4, .int 0, .int 20, .int 0, .ref m5, .ref fr, .int 100, .int 60, .int 14, .ref m6, .ref m7, .ref m8]))]) hP hD [0] [] rfl rfl (by decide) (by decide) hk1 hFc hP1 hD1
      generalize H1 = H at hP hS ⊢
      have hP : va_P D vwCl [(h, .inr (20, [.int 1, .ref m1, .int 0, .int 0, .ref m2, .ref m3, .int 0, .int 4, .int (-40), .ref m4, .int 0, .int 20, .int 0, .ref m5, .ref fr, .int 100, .int 60, .int 14, .ref m6, .ref m7, .ref m8]))] H := hP
      have hD : va_D A [(h, .inr (20, [.int 1, .ref m1, .int 0, .int 0, .ref m2, .ref m3, .int 0, .int 4, .int (-40), .ref m4, .int 0, .int 20, .int 0, .ref m5, .ref fr, .int 100, .int 60, .int 14, .ref m6, .ref m7, .ref m8]))] := hD
      have hw : r_6 = 1 := hw.trans (by first | rfl | decide +kernel)
      subst hw
      refine lv_if_eq (tgt := 37) hx hb dX14_bounds_32 (by decide) (fun c_8 => absurd c_8 (show ¬ ((1 : Int32) = 0) from by decide +kernel)) (fun c_8 => ?_)
      refine lv_iconst (v := 0) hx hb dX14_bounds_35 (by decide) ?_
      exact W.iret (v := 0) hx hb hr (fun t ht hW => ⟨⟨0, ((1, [.ref m1, .int 0, .int 0, .ref m2, .ref m3, .int 0, .int 4, .int (-40), .ref m4, .int 0, .int 20, .int 0, .ref m5, .ref fr, .int 100, .int 60, .int 14, .ref m6, .ref m7, .ref m8]) : Int32 × List Value), rfl, ⟨(by unfold k_X14_bounds; rw [if_neg c_1, if_pos c_5]), (by unfold v_X14_bounds; rw [if_neg c_1, if_pos c_5])⟩, ⟨by rw [ht]; exact hP.sub [0] rfl, va_K.moved hW.alike (hK.sub [] rfl), hD.sub [0] (by decide) rfl⟩⟩, hS.F ht⟩) hS.2.2 dX14_bounds_36
    · refine lv_iload_n hx hb dX14_bounds_9 rfl (lv_at hl 2 rfl) ?_
      refine lv_iload_n hx hb dX14_bounds_10 rfl (lv_at hl 1 rfl) ?_
      refine lv_icmp_gt (tgt := 24) hx hb dX14_bounds_11 (by decide) (fun c_9 => ?_) (fun c_9 => ?_)
      · refine lv_iconst (v := 1) hx hb dX14_bounds_24 (by decide) ?_
        refine lv_goto (tgt := 29) hx hb dX14_bounds_25 (by decide) ?_
        have hFc := va_free (wc := [(h, .inr (20, [.int 0, .ref m1, .int 0, .int 0, .ref m2, .ref m3, .int 0, .int 4, .int (-40), .ref m4, .int 0, .int 20, .int 0, .ref m5, .ref fr, .int 100, .int 60, .int 14, .ref m6, .ref m7, .ref m8]))]) hD hS hA [0] rfl
        refine va_calli (va_runV (As := [.int 1]) (rest := []) ⟨hx, hb, hml, hown, hts⟩ (c_X14_isWrong l hst D e h 0 ([.ref m1, .int 0, .int 0, .ref m2, .ref m3, .int 0, .int 4, .int (-40), .ref m4, .int 0, .int 20, .int 0, .ref m5, .ref fr, .int 100, .int 60, .int 14, .ref m6, .ref m7, .ref m8]) 1 s.heap.size) (cwV 1 hts gX14_bounds_X14_isWrong rfl rfl rfl (by decide +kernel) ⟨Nat.le_of_ble_eq_true rfl, Nat.le_of_ble_eq_true rfl⟩) ⟨cIn_blind, va_recv hK hP (ci := 20) (q0 := 0) rfl rfl, cIn_go hK hP hD hE hS hA [0] rfl rfl (by decide) [] rfl⟩ rfl rfl hl.1 rfl (lv_room (Nat.le_of_ble_eq_true rfl)) dX14_bounds_29 ⟨Nat.le_of_ble_eq_true rfl, Nat.le_of_ble_eq_true rfl⟩) hS (fun q _ h => hFc q h) hFc (fun r_10 u t H1 locs ht hvm hw hB hz1 hk1 hS => ?_)
        obtain ⟨hP1, hK1, hD1⟩ := hB
        rw [ht] at hP1
        have hK1 := va_K.moved hvm.symm hK1
        obtain ⟨hP, hD⟩ := va_join (wr := []) (w1 := [(h, .inr (20, [.int 1, .ref m1, .int 0, .int 0, .ref m2, .ref m3, .int 0, .int 4, .int (-40), .ref m4, .int 0, .int 20, .int 0, .ref m5, .ref fr, .int 100, .int 60, .int 14, .ref m6, .ref m7, .ref m8]))]) hP hD [0] [] rfl rfl (by decide) (by decide) hk1 hFc hP1 hD1
        generalize H1 = H at hP hS ⊢
        have hP : va_P D vwCl [(h, .inr (20, [.int 1, .ref m1, .int 0, .int 0, .ref m2, .ref m3, .int 0, .int 4, .int (-40), .ref m4, .int 0, .int 20, .int 0, .ref m5, .ref fr, .int 100, .int 60, .int 14, .ref m6, .ref m7, .ref m8]))] H := hP
        have hD : va_D A [(h, .inr (20, [.int 1, .ref m1, .int 0, .int 0, .ref m2, .ref m3, .int 0, .int 4, .int (-40), .ref m4, .int 0, .int 20, .int 0, .ref m5, .ref fr, .int 100, .int 60, .int 14, .ref m6, .ref m7, .ref m8]))] := hD
        have hw : r_10 = 1 := hw.trans (by first | rfl | decide +kernel)
        subst hw
        refine lv_if_eq (tgt := 37) hx hb dX14_bounds_32 (by decide) (fun c_12 => absurd c_12 (show ¬ ((1 : Int32) = 0) from by decide +kernel)) (fun c_12 => ?_)
        refine lv_iconst (v := 0) hx hb dX14_bounds_35 (by decide) ?_
        exact W.iret (v := 0) hx hb hr (fun t ht hW => ⟨⟨0, ((1, [.ref m1, .int 0, .int 0, .ref m2, .ref m3, .int 0, .int 4, .int (-40), .ref m4, .int 0, .int 20, .int 0, .ref m5, .ref fr, .int 100, .int 60, .int 14, .ref m6, .ref m7, .ref m8]) : Int32 × List Value), rfl, ⟨(by unfold k_X14_bounds; rw [if_neg c_1, if_neg c_5, if_pos c_9]), (by unfold v_X14_bounds; rw [if_neg c_1, if_neg c_5, if_pos c_9])⟩, ⟨by rw [ht]; exact hP.sub [0] rfl, va_K.moved hW.alike (hK.sub [] rfl), hD.sub [0] (by decide) rfl⟩⟩, hS.F ht⟩) hS.2.2 dX14_bounds_36
      · refine lv_iload_n hx hb dX14_bounds_14 rfl (lv_at hl 3 rfl) ?_
        refine lv_iconst (v := 0) hx hb dX14_bounds_15 (by decide) ?_
        refine lv_bipush (v := 99) hx hb dX14_bounds_16 (by decide) ?_
        refine vp_callSi (va_Run.run (va_runS (As := [.int p2, .int 0, .int 99]) (rest := [.ref h]) ⟨hx, hb, hml, hown, hts⟩ (c_X14_isBetween l hst D e p2 0 99 s.heap.size) (va_cwS 3 hts gX14_bounds_X14_isBetween rfl rfl rfl (by decide +kernel) ⟨Nat.le_of_ble_eq_true rfl, Nat.le_of_ble_eq_true rfl⟩) ⟨cIn_blind, cIn_go hK hP hD hE hS hA [] rfl rfl (by decide) [] rfl⟩ rfl rfl hl.1 rfl (lv_room (Nat.le_of_ble_eq_true rfl)) dX14_bounds_18 ⟨Nat.le_of_ble_eq_true rfl, Nat.le_of_ble_eq_true rfl⟩)) (fun r_13 hw => ?_)
        subst hw
        refine lv_if_ne (tgt := 28) hx hb dX14_bounds_21 (by decide) (fun c_14 => ?_) (fun c_14 => ?_)
        · refine lv_iconst (v := 0) hx hb dX14_bounds_28 (by decide) ?_
          have hFc := va_free (wc := [(h, .inr (20, [.int 0, .ref m1, .int 0, .int 0, .ref m2, .ref m3, .int 0, .int 4, .int (-40), .ref m4, .int 0, .int 20, .int 0, .ref m5, .ref fr, .int 100, .int 60, .int 14, .ref m6, .ref m7, .ref m8]))]) hD hS hA [0] rfl
          refine va_calli (va_runV (As := [.int 0]) (rest := []) ⟨hx, hb, hml, hown, hts⟩ (c_X14_isWrong l hst D e h 0 ([.ref m1, .int 0, .int 0, .ref m2, .ref m3, .int 0, .int 4, .int (-40), .ref m4, .int 0, .int 20, .int 0, .ref m5, .ref fr, .int 100, .int 60, .int 14, .ref m6, .ref m7, .ref m8]) 0 s.heap.size) (cwV 1 hts gX14_bounds_X14_isWrong rfl rfl rfl (by decide +kernel) ⟨Nat.le_of_ble_eq_true rfl, Nat.le_of_ble_eq_true rfl⟩) ⟨cIn_blind, va_recv hK hP (ci := 20) (q0 := 0) rfl rfl, cIn_go hK hP hD hE hS hA [0] rfl rfl (by decide) [] rfl⟩ rfl rfl hl.1 rfl (lv_room (Nat.le_of_ble_eq_true rfl)) dX14_bounds_29 ⟨Nat.le_of_ble_eq_true rfl, Nat.le_of_ble_eq_true rfl⟩) hS (fun q _ h => hFc q h) hFc (fun r_15 u t H1 locs ht hvm hw hB hz1 hk1 hS => ?_)
          obtain ⟨hP1, hK1, hD1⟩ := hB
          rw [ht] at hP1
          have hK1 := va_K.moved hvm.symm hK1
          obtain ⟨hP, hD⟩ := va_join (wr := []) (w1 := [(h, .inr (20, [.int 0, .ref m1, .int 0, .int 0, .ref m2, .ref m3, .int 0, .int 4, .int (-40), .ref m4, .int 0, .int 20, .int 0, .ref m5, .ref fr, .int 100, .int 60, .int 14, .ref m6, .ref m7, .ref m8]))]) hP hD [0] [] rfl rfl (by decide) (by decide) hk1 hFc hP1 hD1
          generalize H1 = H at hP hS ⊢
          have hP : va_P D vwCl [(h, .inr (20, [.int 0, .ref m1, .int 0, .int 0, .ref m2, .ref m3, .int 0, .int 4, .int (-40), .ref m4, .int 0, .int 20, .int 0, .ref m5, .ref fr, .int 100, .int 60, .int 14, .ref m6, .ref m7, .ref m8]))] H := hP
          have hD : va_D A [(h, .inr (20, [.int 0, .ref m1, .int 0, .int 0, .ref m2, .ref m3, .int 0, .int 4, .int (-40), .ref m4, .int 0, .int 20, .int 0, .ref m5, .ref fr, .int 100, .int 60, .int 14, .ref m6, .ref m7, .ref m8]))] := hD
          have hw : r_15 = 0 := hw.trans (by first | rfl | decide +kernel)
          subst hw
          refine lv_if_eq (tgt := 37) hx hb dX14_bounds_32 (by decide) (fun c_17 => ?_) (fun c_17 => absurd (show (0 : Int32) = 0 from by decide +kernel) c_17)
          refine lv_aload_n hx hb dX14_bounds_37 rfl (lv_at hl 0 rfl) ?_
          refine va_get (D := D) (ci := 20) (v := .int 100) (C := RX14) (T := TX14) (N := 21) hx hb hts iw_RX14_wsX14_bounds hown hK hP 0 rfl rfl 15 (by decide) (hts (.fieldLink RX14 42 "CoatLineModel" "first" "I") (by decide +kernel)) (fun _ h9 => h9) rfl dX14_bounds_38 ?_
          refine lv_istore (lv' := [(4, .int 100), (0, .ref h), (1, .int p0), (2, .int p1), (3, .int p2)]) hx hb dX14_bounds_41 hl (by decide) rfl (fun ls hl => ?_)
          refine lv_aload_n hx hb dX14_bounds_43 rfl (lv_at hl 1 rfl) ?_
          refine lv_iload_n hx hb dX14_bounds_44 rfl (lv_at hl 2 rfl) ?_
          refine va_put (D := D) (ci := 20) (v := .int p0) (ty := .int) (C := RX14) (T := TX14) (N := 21) hx hb hts iw_RX14_wsX14_bounds tyX14 tyX14_ok nmX14 hown hK hP hD hS 0 rfl rfl 15 (by decide) (hts (.fieldLink RX14 42 "CoatLineModel" "first" "I") (by decide +kernel)) (fun _ h9 => h9) rfl (by decide +kernel) rfl rfl (Nat.le_of_ble_eq_true rfl) dX14_bounds_45 (fun H locs hP hD hS => ?_)
          have hP : va_P D vwCl [(h, .inr (20, [.int 0, .ref m1, .int 0, .int 0, .ref m2, .ref m3, .int 0, .int 4, .int (-40), .ref m4, .int 0, .int 20, .int 0, .ref m5, .ref fr, .int p0, .int 60, .int 14, .ref m6, .ref m7, .ref m8]))] H := hP
          have hD : va_D A [(h, .inr (20, [.int 0, .ref m1, .int 0, .int 0, .ref m2, .ref m3, .int 0, .int 4, .int (-40), .ref m4, .int 0, .int 20, .int 0, .ref m5, .ref fr, .int p0, .int 60, .int 14, .ref m6, .ref m7, .ref m8]))] := hD
          refine lv_aload_n hx hb dX14_bounds_48 rfl (lv_at hl 1 rfl) ?_
          refine lv_iload_n hx hb dX14_bounds_49 rfl (lv_at hl 3 rfl) ?_
          refine va_put (D := D) (ci := 20) (v := .int p1) (ty := .int) (C := RX14) (T := TX14) (N := 21) hx hb hts iw_RX14_wsX14_bounds tyX14 tyX14_ok nmX14 hown hK hP hD hS 0 rfl rfl 16 (by decide) (hts (.fieldLink RX14 45 "CoatLineModel" "second" "I") (by decide +kernel)) (fun _ h9 => h9) rfl (by decide +kernel) rfl rfl (Nat.le_of_ble_eq_true rfl) dX14_bounds_50 (fun H locs hP hD hS => ?_)
          have hP : va_P D vwCl [(h, .inr (20, [.int 0, .ref m1, .int 0, .int 0, .ref m2, .ref m3, .int 0, .int 4, .int (-40), .ref m4, .int 0, .int 20, .int 0, .ref m5, .ref fr, .int p0, .int p1, .int 14, .ref m6, .ref m7, .ref m8]))] H := hP
          have hD : va_D A [(h, .inr (20, [.int 0, .ref m1, .int 0, .int 0, .ref m2, .ref m3, .int 0, .int 4, .int (-40), .ref m4, .int 0, .int 20, .int 0, .ref m5, .ref fr, .int p0, .int p1, .int 14, .ref m6, .ref m7, .ref m8]))] := hD
          refine lv_aload_n hx hb dX14_bounds_53 rfl (lv_at hl 1 rfl) ?_
          refine lv_iload_n hx hb dX14_bounds_54 rfl (lv_at hl 4 rfl) ?_
          refine va_put (D := D) (ci := 20) (v := .int p2) (ty := .int) (C := RX14) (T := TX14) (N := 21) hx hb hts iw_RX14_wsX14_bounds tyX14 tyX14_ok nmX14 hown hK hP hD hS 0 rfl rfl 17 (by decide) (hts (.fieldLink RX14 48 "CoatLineModel" "limit" "I") (by decide +kernel)) (fun _ h9 => h9) rfl (by decide +kernel) rfl rfl (Nat.le_of_ble_eq_true rfl) dX14_bounds_55 (fun H locs hP hD hS => ?_)
          have hP : va_P D vwCl [(h, .inr (20, [.int 0, .ref m1, .int 0, .int 0, .ref m2, .ref m3, .int 0, .int 4, .int (-40), .ref m4, .int 0, .int 20, .int 0, .ref m5, .ref fr, .int p0, .int p1, .int p2, .ref m6, .ref m7, .ref m8]))] H := hP
          have hD : va_D A [(h, .inr (20, [.int 0, .ref m1, .int 0, .int 0, .ref m2, .ref m3, .int 0, .int 4, .int (-40), .ref m4, .int 0, .int 20, .int 0, .ref m5, .ref fr, .int p0, .int p1, .int p2, .ref m6, .ref m7, .ref m8]))] := hD
          refine lv_iload hx hb dX14_bounds_58 (lv_at hl 0 rfl) ?_
          exact W.iret (v := 100) hx hb hr (fun t ht hW => ⟨⟨100, ((0, [.ref m1, .int 0, .int 0, .ref m2, .ref m3, .int 0, .int 4, .int (-40), .ref m4, .int 0, .int 20, .int 0, .ref m5, .ref fr, .int p0, .int p1, .int p2, .ref m6, .ref m7, .ref m8]) : Int32 × List Value), rfl, ⟨(by unfold k_X14_bounds; rw [if_neg c_1, if_neg c_5, if_neg c_9, if_neg c_14]), (by unfold v_X14_bounds; rw [if_neg c_1, if_neg c_5, if_neg c_9, if_neg c_14])⟩, ⟨by rw [ht]; exact hP.sub [0] rfl, va_K.moved hW.alike (hK.sub [] rfl), hD.sub [0] (by decide) rfl⟩⟩, hS.F ht⟩) hS.2.2 dX14_bounds_60
        · refine lv_iconst (v := 1) hx hb dX14_bounds_24 (by decide) ?_
          refine lv_goto (tgt := 29) hx hb dX14_bounds_25 (by decide) ?_
          have hFc := va_free (wc := [(h, .inr (20, [.int 0, .ref m1, .int 0, .int 0, .ref m2, .ref m3, .int 0, .int 4, .int (-40), .ref m4, .int 0, .int 20, .int 0, .ref m5, .ref fr, .int 100, .int 60, .int 14, .ref m6, .ref m7, .ref m8]))]) hD hS hA [0] rfl
          refine va_calli (va_runV (As := [.int 1]) (rest := []) ⟨hx, hb, hml, hown, hts⟩ (c_X14_isWrong l hst D e h 0 ([.ref m1, .int 0, .int 0, .ref m2, .ref m3, .int 0, .int 4, .int (-40), .ref m4, .int 0, .int 20, .int 0, .ref m5, .ref fr, .int 100, .int 60, .int 14, .ref m6, .ref m7, .ref m8]) 1 s.heap.size) (cwV 1 hts gX14_bounds_X14_isWrong rfl rfl rfl (by decide +kernel) ⟨Nat.le_of_ble_eq_true rfl, Nat.le_of_ble_eq_true rfl⟩) ⟨cIn_blind, va_recv hK hP (ci := 20) (q0 := 0) rfl rfl, cIn_go hK hP hD hE hS hA [0] rfl rfl (by decide) [] rfl⟩ rfl rfl hl.1 rfl (lv_room (Nat.le_of_ble_eq_true rfl)) dX14_bounds_29 ⟨Nat.le_of_ble_eq_true rfl, Nat.le_of_ble_eq_true rfl⟩) hS (fun q _ h => hFc q h) hFc (fun r_18 u t H1 locs ht hvm hw hB hz1 hk1 hS => ?_)
          obtain ⟨hP1, hK1, hD1⟩ := hB
          rw [ht] at hP1
          have hK1 := va_K.moved hvm.symm hK1
          obtain ⟨hP, hD⟩ := va_join (wr := []) (w1 := [(h, .inr (20, [.int 1, .ref m1, .int 0, .int 0, .ref m2, .ref m3, .int 0, .int 4, .int (-40), .ref m4, .int 0, .int 20, .int 0, .ref m5, .ref fr, .int 100, .int 60, .int 14, .ref m6, .ref m7, .ref m8]))]) hP hD [0] [] rfl rfl (by decide) (by decide) hk1 hFc hP1 hD1
          generalize H1 = H at hP hS ⊢
          have hP : va_P D vwCl [(h, .inr (20, [.int 1, .ref m1, .int 0, .int 0, .ref m2, .ref m3, .int 0, .int 4, .int (-40), .ref m4, .int 0, .int 20, .int 0, .ref m5, .ref fr, .int 100, .int 60, .int 14, .ref m6, .ref m7, .ref m8]))] H := hP
          have hD : va_D A [(h, .inr (20, [.int 1, .ref m1, .int 0, .int 0, .ref m2, .ref m3, .int 0, .int 4, .int (-40), .ref m4, .int 0, .int 20, .int 0, .ref m5, .ref fr, .int 100, .int 60, .int 14, .ref m6, .ref m7, .ref m8]))] := hD
          have hw : r_18 = 1 := hw.trans (by first | rfl | decide +kernel)
          subst hw
          refine lv_if_eq (tgt := 37) hx hb dX14_bounds_32 (by decide) (fun c_20 => absurd c_20 (show ¬ ((1 : Int32) = 0) from by decide +kernel)) (fun c_20 => ?_)
          refine lv_iconst (v := 0) hx hb dX14_bounds_35 (by decide) ?_
          exact W.iret (v := 0) hx hb hr (fun t ht hW => ⟨⟨0, ((1, [.ref m1, .int 0, .int 0, .ref m2, .ref m3, .int 0, .int 4, .int (-40), .ref m4, .int 0, .int 20, .int 0, .ref m5, .ref fr, .int 100, .int 60, .int 14, .ref m6, .ref m7, .ref m8]) : Int32 × List Value), rfl, ⟨(by unfold k_X14_bounds; rw [if_neg c_1, if_neg c_5, if_neg c_9, if_pos c_14]), (by unfold v_X14_bounds; rw [if_neg c_1, if_neg c_5, if_neg c_9, if_pos c_14])⟩, ⟨by rw [ht]; exact hP.sub [0] rfl, va_K.moved hW.alike (hK.sub [] rfl), hD.sub [0] (by decide) rfl⟩⟩, hS.F ht⟩) hS.2.2 dX14_bounds_36
-- X14_reset
def v_X14_reset : Int32 := 0
def k_X14_reset : Int32 := 0
set_option maxHeartbeats 4000000 in
set_option maxRecDepth 100000 in
theorem c_X14_reset (l : Launch) (hst : l.stackTraces = false) (D : va_G) (e : Nat) (h : Nat) (m1 : Nat) (m2 : Nat) (m3 : Nat) (m4 : Nat) (m5 : Nat) (m6 : Nat) (m7 : Nat) (m8 : Nat) (fr : Nat) (sz : Nat) : Met l yX14_reset wsX14_reset ({ frames := 16, cells := 0, slots := 0, locals := 340 }) (va_Pc [.ref h] (cIn D [] [(h, .inr (20, [.int 0, .ref m1, .int 0, .int 0, .ref m2, .ref m3, .int 0, .int 4, .int (-40), .ref m4, .int 0, .int 20, .int 0, .ref m5, .ref fr, .int 100, .int 60, .int 14, .ref m6, .ref m7, .ref m8]))] e sz)) (va_Qi (fun (r : Int32) (u : Int32 × List Value) => u.1 = k_X14_reset ∧ r = v_X14_reset) (fun (u : Int32 × List Value) (t : State) => va_P D vwCl [(h, .inr (20, .int u.1 :: u.2))] t.heap ∧ va_K D vwCl [] t ∧ va_D (va_A [(h, .inr (20, [.int 0, .ref m1, .int 0, .int 0, .ref m2, .ref m3, .int 0, .int 4, .int (-40), .ref m4, .int 0, .int 20, .int 0, .ref m5, .ref fr, .int 100, .int 60, .int 14, .ref m6, .ref m7, .ref m8]))] sz) [(h, .inr (20, .int u.1 :: u.2))]) (va_A [(h, .inr (20, [.int 0, .ref m1, .int 0, .int 0, .ref m2, .ref m3, .int 0, .int 4, .int (-40), .ref m4, .int 0, .int 20, .int 0, .ref m5, .ref fr, .int 100, .int 60, .int 14, .ref m6, .ref m7, .ref m8]))] sz)) 0 0 (va_A [(h, .inr (20, [.int 0, .ref m1, .int 0, .int 0, .ref m2, .ref m3, .int 0, .int 4, .int (-40), .ref m4, .int 0, .int 20, .int 0, .ref m5, .ref fr, .int 100, .int 60, .int 14, .ref m6, .ref m7, .ref m8]))] sz) := by
  refine Met.ofW (cc := cX14_reset) (maxL := 2) (ret := (some .int)) (by decide +kernel) rfl ?_
  intro p e9 s m args below meth c s₁ B hml hv
  obtain ⟨rfl, hsz, hP, hK, hD0, hE0⟩ := hv
  have hx := B.exec
  have hb := B.bytes
  have hr := B.returns
  have hts := atoms_spec (ws := wsX14_reset) B.pre
  have hown : s.vm.findClass RX14 = some m.cls := findClass_of_methodNamed B.named
  have hlocks := B.notSynchronized
  subst hsz
  have hD := hD0.self (sz := s.heap.size)
  generalize hAe : va_A [(h, .inr (20, [.int 0, .ref m1, .int 0, .int 0, .ref m2, .ref m3, .int 0, .int 4, .int (-40), .ref m4, .int 0, .int 20, .int 0, .ref m5, .ref fr, .int 100, .int 60, .int 14, .ref m6, .ref m7, .ref m8]))] s.heap.size = A at hD hE0 ⊢
  have hA : ∀ q : Nat, s.heap.size ≤ q → A q := fun q h => by rw [← hAe]; exact Or.inr h
  have hS : va_S A s.heap s.heap [] := va_S.rf
  have hE := hE0
  have hP : va_P D vwCl [(h, .inr (20, [.int 0, .ref m1, .int 0, .int 0, .ref m2, .ref m3, .int 0, .int 4, .int (-40), .ref m4, .int 0, .int 20, .int 0, .ref m5, .ref fr, .int 100, .int 60, .int 14, .ref m6, .ref m7, .ref m8]))] s.heap := hP
  have hl := lv_entry ([.ref h]) (n := 2) (Nat.le_of_ble_eq_true rfl)
  rw [lg_entry_eq]
  generalize (lg_sl ([.ref h]) ++ List.replicate (2 - (lg_sl ([.ref h])).length) Slot.unset).toArray = ls at hl ⊢
  have hl : lv_has ls 2 [(0, .ref h)] := hl
  refine lv_aload_n hx hb dX14_reset_0 rfl (lv_at hl 0 rfl) ?_
  refine lv_iconst (v := 0) hx hb dX14_reset_1 (by decide) ?_
  refine va_put (D := D) (ci := 20) (v := .int 0) (ty := .int) (C := RX14) (T := TX14) (N := 21) hx hb hts iw_RX14_wsX14_reset tyX14 tyX14_ok nmX14 hown hK hP hD hS 0 rfl rfl 0 (by decide) (hts (.fieldLink RX14 60 "CoatLineModel" "thrown" "I") (by decide +kernel)) (fun _ h9 => h9) rfl (by decide +kernel) rfl rfl (Nat.le_of_ble_eq_true rfl) dX14_reset_2 (fun H locs hP hD hS => ?_)
  have hP : va_P D vwCl [(h, .inr (20, [.int 0, .ref m1, .int 0, .int 0, .ref m2, .ref m3, .int 0, .int 4, .int (-40), .ref m4, .int 0, .int 20, .int 0, .ref m5, .ref fr, .int 100, .int 60, .int 14, .ref m6, .ref m7, .ref m8]))] H := hP
  have hD : va_D A [(h, .inr (20, [.int 0, .ref m1, .int 0, .int 0, .ref m2, .ref m3, .int 0, .int 4, .int (-40), .ref m4, .int 0, .int 20, .int 0, .ref m5, .ref fr, .int 100, .int 60, .int 14, .ref m6, .ref m7, .ref m8]))] := hD
  refine lv_aload_n hx hb dX14_reset_5 rfl (lv_at hl 0 rfl) ?_
  refine va_get (D := D) (ci := 20) (v := .int 0) (C := RX14) (T := TX14) (N := 21) hx hb hts iw_RX14_wsX14_reset hown hK hP 0 rfl rfl 3 (by decide) (hts (.fieldLink RX14 93 "CoatLineModel" "ran" "I") (by decide +kernel)) (fun _ h9 => h9) rfl dX14_reset_6 ?_
  refine lv_istore_n (lv' := [(1, .int 0), (0, .ref h)]) hx hb dX14_reset_9 rfl hl (by decide) rfl (fun ls hl => ?_)
  refine lv_aload_n hx hb dX14_reset_10 rfl (lv_at hl 1 rfl) ?_
  refine lv_iconst (v := 0) hx hb dX14_reset_11 (by decide) ?_
  refine va_put (D := D) (ci := 20) (v := .int 0) (ty := .int) (C := RX14) (T := TX14) (N := 21) hx hb hts iw_RX14_wsX14_reset tyX14 tyX14_ok nmX14 hown hK hP hD hS 0 rfl rfl 3 (by decide) (hts (.fieldLink RX14 93 "CoatLineModel" "ran" "I") (by decide +kernel)) (fun _ h9 => h9) rfl (by decide +kernel) rfl rfl (Nat.le_of_ble_eq_true rfl) dX14_reset_12 (fun H locs hP hD hS => ?_)
  have hP : va_P D vwCl [(h, .inr (20, [.int 0, .ref m1, .int 0, .int 0, .ref m2, .ref m3, .int 0, .int 4, .int (-40), .ref m4, .int 0, .int 20, .int 0, .ref m5, .ref fr, .int 100, .int 60, .int 14, .ref m6, .ref m7, .ref m8]))] H := hP
  have hD : va_D A [(h, .inr (20, [.int 0, .ref m1, .int 0, .int 0, .ref m2, .ref m3, .int 0, .int 4, .int (-40), .ref m4, .int 0, .int 20, .int 0, .ref m5, .ref fr, .int 100, .int 60, .int 14, .ref m6, .ref m7, .ref m8]))] := hD
  refine lv_iload_n hx hb dX14_reset_15 rfl (lv_at hl 0 rfl) ?_
  exact W.iret (v := 0) hx hb hr (fun t ht hW => ⟨⟨0, ((0, [.ref m1, .int 0, .int 0, .ref m2, .ref m3, .int 0, .int 4, .int (-40), .ref m4, .int 0, .int 20, .int 0, .ref m5, .ref fr, .int 100, .int 60, .int 14, .ref m6, .ref m7, .ref m8]) : Int32 × List Value), rfl, ⟨rfl, rfl⟩, ⟨by rw [ht]; exact hP.sub [0] rfl, va_K.moved hW.alike (hK.sub [] rfl), hD.sub [0] (by decide) rfl⟩⟩, hS.F ht⟩) hS.2.2 dX14_reset_16
-- X14_sharpen
def v_X14_sharpen : Int32 := 0
def k_X14_sharpen : Int32 := 0
set_option maxHeartbeats 4000000 in
set_option maxRecDepth 100000 in
theorem c_X14_sharpen (l : Launch) (hst : l.stackTraces = false) (D : va_G) (e : Nat) (h : Nat) (m1 : Nat) (m2 : Nat) (m3 : Nat) (m4 : Nat) (m5 : Nat) (m6 : Nat) (m7 : Nat) (m8 : Nat) (fr : Nat) (sz : Nat) : Met l yX14_sharpen wsX14_sharpen ({ frames := 16, cells := 0, slots := 0, locals := 340 }) (va_Pc [.ref h] (cIn D [] [(h, .inr (20, [.int 0, .ref m1, .int 0, .int 0, .ref m2, .ref m3, .int 0, .int 4, .int (-40), .ref m4, .int 0, .int 20, .int 0, .ref m5, .ref fr, .int 100, .int 60, .int 14, .ref m6, .ref m7, .ref m8]))] e sz)) (va_Qi (fun (r : Int32) (u : Int32 × List Value) => u.1 = k_X14_sharpen ∧ r = v_X14_sharpen) (fun (u : Int32 × List Value) (t : State) => va_P D vwCl [(h, .inr (20, .int u.1 :: u.2))] t.heap ∧ va_K D vwCl [] t ∧ va_D (va_A [(h, .inr (20, [.int 0, .ref m1, .int 0, .int 0, .ref m2, .ref m3, .int 0, .int 4, .int (-40), .ref m4, .int 0, .int 20, .int 0, .ref m5, .ref fr, .int 100, .int 60, .int 14, .ref m6, .ref m7, .ref m8]))] sz) [(h, .inr (20, .int u.1 :: u.2))]) (va_A [(h, .inr (20, [.int 0, .ref m1, .int 0, .int 0, .ref m2, .ref m3, .int 0, .int 4, .int (-40), .ref m4, .int 0, .int 20, .int 0, .ref m5, .ref fr, .int 100, .int 60, .int 14, .ref m6, .ref m7, .ref m8]))] sz)) 0 0 (va_A [(h, .inr (20, [.int 0, .ref m1, .int 0, .int 0, .ref m2, .ref m3, .int 0, .int 4, .int (-40), .ref m4, .int 0, .int 20, .int 0, .ref m5, .ref fr, .int 100, .int 60, .int 14, .ref m6, .ref m7, .ref m8]))] sz) := by
  refine Met.ofW (cc := cX14_sharpen) (maxL := 2) (ret := (some .int)) (by decide +kernel) rfl ?_
  intro p e9 s m args below meth c s₁ B hml hv
  obtain ⟨rfl, hsz, hP, hK, hD0, hE0⟩ := hv
  have hx := B.exec
  have hb := B.bytes
  have hr := B.returns
  have hts := atoms_spec (ws := wsX14_sharpen) B.pre
  have hown : s.vm.findClass RX14 = some m.cls := findClass_of_methodNamed B.named
  have hlocks := B.notSynchronized
  subst hsz
  have hD := hD0.self (sz := s.heap.size)
  generalize hAe : va_A [(h, .inr (20, [.int 0, .ref m1, .int 0, .int 0, .ref m2, .ref m3, .int 0, .int 4, .int (-40), .ref m4, .int 0, .int 20, .int 0, .ref m5, .ref fr, .int 100, .int 60, .int 14, .ref m6, .ref m7, .ref m8]))] s.heap.size = A at hD hE0 ⊢
  have hA : ∀ q : Nat, s.heap.size ≤ q → A q := fun q h => by rw [← hAe]; exact Or.inr h
  have hS : va_S A s.heap s.heap [] := va_S.rf
  have hE := hE0
  have hP : va_P D vwCl [(h, .inr (20, [.int 0, .ref m1, .int 0, .int 0, .ref m2, .ref m3, .int 0, .int 4, .int (-40), .ref m4, .int 0, .int 20, .int 0, .ref m5, .ref fr, .int 100, .int 60, .int 14, .ref m6, .ref m7, .ref m8]))] s.heap := hP
  have hl := lv_entry ([.ref h]) (n := 2) (Nat.le_of_ble_eq_true rfl)
  rw [lg_entry_eq]
  generalize (lg_sl ([.ref h]) ++ List.replicate (2 - (lg_sl ([.ref h])).length) Slot.unset).toArray = ls at hl ⊢
  have hl : lv_has ls 2 [(0, .ref h)] := hl
  refine lv_aload_n hx hb dX14_sharpen_0 rfl (lv_at hl 0 rfl) ?_
  refine lv_iconst (v := 0) hx hb dX14_sharpen_1 (by decide) ?_
  refine va_put (D := D) (ci := 20) (v := .int 0) (ty := .int) (C := RX14) (T := TX14) (N := 21) hx hb hts iw_RX14_wsX14_sharpen tyX14 tyX14_ok nmX14 hown hK hP hD hS 0 rfl rfl 0 (by decide) (hts (.fieldLink RX14 60 "CoatLineModel" "thrown" "I") (by decide +kernel)) (fun _ h9 => h9) rfl (by decide +kernel) rfl rfl (Nat.le_of_ble_eq_true rfl) dX14_sharpen_2 (fun H locs hP hD hS => ?_)
  have hP : va_P D vwCl [(h, .inr (20, [.int 0, .ref m1, .int 0, .int 0, .ref m2, .ref m3, .int 0, .int 4, .int (-40), .ref m4, .int 0, .int 20, .int 0, .ref m5, .ref fr, .int 100, .int 60, .int 14, .ref m6, .ref m7, .ref m8]))] H := hP
  have hD : va_D A [(h, .inr (20, [.int 0, .ref m1, .int 0, .int 0, .ref m2, .ref m3, .int 0, .int 4, .int (-40), .ref m4, .int 0, .int 20, .int 0, .ref m5, .ref fr, .int 100, .int 60, .int 14, .ref m6, .ref m7, .ref m8]))] := hD
  refine lv_aload_n hx hb dX14_sharpen_5 rfl (lv_at hl 0 rfl) ?_
  refine va_get (D := D) (ci := 20) (v := .int 0) (C := RX14) (T := TX14) (N := 21) hx hb hts iw_RX14_wsX14_sharpen hown hK hP 0 rfl rfl 6 (by decide) (hts (.fieldLink RX14 133 "CoatLineModel" "knife" "I") (by decide +kernel)) (fun _ h9 => h9) rfl dX14_sharpen_6 ?_
  refine lv_istore_n (lv' := [(1, .int 0), (0, .ref h)]) hx hb dX14_sharpen_9 rfl hl (by decide) rfl (fun ls hl => ?_)
  refine lv_aload_n hx hb dX14_sharpen_10 rfl (lv_at hl 1 rfl) ?_
  refine lv_iconst (v := 0) hx hb dX14_sharpen_11 (by decide) ?_
  refine va_put (D := D) (ci := 20) (v := .int 0) (ty := .int) (C := RX14) (T := TX14) (N := 21) hx hb hts iw_RX14_wsX14_sharpen tyX14 tyX14_ok nmX14 hown hK hP hD hS 0 rfl rfl 6 (by decide) (hts (.fieldLink RX14 133 "CoatLineModel" "knife" "I") (by decide +kernel)) (fun _ h9 => h9) rfl (by decide +kernel) rfl rfl (Nat.le_of_ble_eq_true rfl) dX14_sharpen_12 (fun H locs hP hD hS => ?_)
  have hP : va_P D vwCl [(h, .inr (20, [.int 0, .ref m1, .int 0, .int 0, .ref m2, .ref m3, .int 0, .int 4, .int (-40), .ref m4, .int 0, .int 20, .int 0, .ref m5, .ref fr, .int 100, .int 60, .int 14, .ref m6, .ref m7, .ref m8]))] H := hP
  have hD : va_D A [(h, .inr (20, [.int 0, .ref m1, .int 0, .int 0, .ref m2, .ref m3, .int 0, .int 4, .int (-40), .ref m4, .int 0, .int 20, .int 0, .ref m5, .ref fr, .int 100, .int 60, .int 14, .ref m6, .ref m7, .ref m8]))] := hD
  refine lv_iload_n hx hb dX14_sharpen_15 rfl (lv_at hl 0 rfl) ?_
  exact W.iret (v := 0) hx hb hr (fun t ht hW => ⟨⟨0, ((0, [.ref m1, .int 0, .int 0, .ref m2, .ref m3, .int 0, .int 4, .int (-40), .ref m4, .int 0, .int 20, .int 0, .ref m5, .ref fr, .int 100, .int 60, .int 14, .ref m6, .ref m7, .ref m8]) : Int32 × List Value), rfl, ⟨rfl, rfl⟩, ⟨by rw [ht]; exact hP.sub [0] rfl, va_K.moved hW.alike (hK.sub [] rfl), hD.sub [0] (by decide) rfl⟩⟩, hS.F ht⟩) hS.2.2 dX14_sharpen_16
-- X14_time
def v_X14_time : Int32 := 0
def k_X14_time : Int32 := 0
set_option maxHeartbeats 4000000 in
set_option maxRecDepth 100000 in
theorem c_X14_time (l : Launch) (hst : l.stackTraces = false) (D : va_G) (e : Nat) (h : Nat) (m1 : Nat) (m2 : Nat) (m3 : Nat) (m4 : Nat) (m5 : Nat) (m6 : Nat) (m7 : Nat) (m8 : Nat) (fr : Nat) (sz : Nat) : Met l yX14_time wsX14_time ({ frames := 16, cells := 0, slots := 0, locals := 340 }) (va_Pc [.ref h] (cIn D [] [(h, .inr (20, [.int 0, .ref m1, .int 0, .int 0, .ref m2, .ref m3, .int 0, .int 4, .int (-40), .ref m4, .int 0, .int 20, .int 0, .ref m5, .ref fr, .int 100, .int 60, .int 14, .ref m6, .ref m7, .ref m8]))] e sz)) (va_Qi (fun (r : Int32) (u : Int32 × List Value) => u.1 = k_X14_time ∧ r = v_X14_time) (fun (u : Int32 × List Value) (t : State) => va_P D vwCl [(h, .inr (20, .int u.1 :: u.2))] t.heap ∧ va_K D vwCl [] t ∧ va_D (va_A [(h, .inr (20, [.int 0, .ref m1, .int 0, .int 0, .ref m2, .ref m3, .int 0, .int 4, .int (-40), .ref m4, .int 0, .int 20, .int 0, .ref m5, .ref fr, .int 100, .int 60, .int 14, .ref m6, .ref m7, .ref m8]))] sz) [(h, .inr (20, .int u.1 :: u.2))]) (va_A [(h, .inr (20, [.int 0, .ref m1, .int 0, .int 0, .ref m2, .ref m3, .int 0, .int 4, .int (-40), .ref m4, .int 0, .int 20, .int 0, .ref m5, .ref fr, .int 100, .int 60, .int 14, .ref m6, .ref m7, .ref m8]))] sz)) 0 0 (va_A [(h, .inr (20, [.int 0, .ref m1, .int 0, .int 0, .ref m2, .ref m3, .int 0, .int 4, .int (-40), .ref m4, .int 0, .int 20, .int 0, .ref m5, .ref fr, .int 100, .int 60, .int 14, .ref m6, .ref m7, .ref m8]))] sz) := by
  refine Met.ofW (cc := cX14_time) (maxL := 1) (ret := (some .int)) (by decide +kernel) rfl ?_
  intro p e9 s m args below meth c s₁ B hml hv
  obtain ⟨rfl, hsz, hP, hK, hD0, hE0⟩ := hv
  have hx := B.exec
  have hb := B.bytes
  have hr := B.returns
  have hts := atoms_spec (ws := wsX14_time) B.pre
  have hown : s.vm.findClass RX14 = some m.cls := findClass_of_methodNamed B.named
  have hlocks := B.notSynchronized
  subst hsz
  have hD := hD0.self (sz := s.heap.size)
  generalize hAe : va_A [(h, .inr (20, [.int 0, .ref m1, .int 0, .int 0, .ref m2, .ref m3, .int 0, .int 4, .int (-40), .ref m4, .int 0, .int 20, .int 0, .ref m5, .ref fr, .int 100, .int 60, .int 14, .ref m6, .ref m7, .ref m8]))] s.heap.size = A at hD hE0 ⊢
  have hA : ∀ q : Nat, s.heap.size ≤ q → A q := fun q h => by rw [← hAe]; exact Or.inr h
  have hS : va_S A s.heap s.heap [] := va_S.rf
  have hE := hE0
  have hP : va_P D vwCl [(h, .inr (20, [.int 0, .ref m1, .int 0, .int 0, .ref m2, .ref m3, .int 0, .int 4, .int (-40), .ref m4, .int 0, .int 20, .int 0, .ref m5, .ref fr, .int 100, .int 60, .int 14, .ref m6, .ref m7, .ref m8]))] s.heap := hP
  have hl := lv_entry ([.ref h]) (n := 1) (Nat.le_of_ble_eq_true rfl)
  rw [lg_entry_eq]
  generalize (lg_sl ([.ref h]) ++ List.replicate (1 - (lg_sl ([.ref h])).length) Slot.unset).toArray = ls at hl ⊢
  have hl : lv_has ls 1 [(0, .ref h)] := hl
  refine lv_aload_n hx hb dX14_time_0 rfl (lv_at hl 0 rfl) ?_
  refine lv_iconst (v := 0) hx hb dX14_time_1 (by decide) ?_
  refine va_put (D := D) (ci := 20) (v := .int 0) (ty := .int) (C := RX14) (T := TX14) (N := 21) hx hb hts iw_RX14_wsX14_time tyX14 tyX14_ok nmX14 hown hK hP hD hS 0 rfl rfl 0 (by decide) (hts (.fieldLink RX14 60 "CoatLineModel" "thrown" "I") (by decide +kernel)) (fun _ h9 => h9) rfl (by decide +kernel) rfl rfl (Nat.le_of_ble_eq_true rfl) dX14_time_2 (fun H locs hP hD hS => ?_)
  have hP : va_P D vwCl [(h, .inr (20, [.int 0, .ref m1, .int 0, .int 0, .ref m2, .ref m3, .int 0, .int 4, .int (-40), .ref m4, .int 0, .int 20, .int 0, .ref m5, .ref fr, .int 100, .int 60, .int 14, .ref m6, .ref m7, .ref m8]))] H := hP
  have hD : va_D A [(h, .inr (20, [.int 0, .ref m1, .int 0, .int 0, .ref m2, .ref m3, .int 0, .int 4, .int (-40), .ref m4, .int 0, .int 20, .int 0, .ref m5, .ref fr, .int 100, .int 60, .int 14, .ref m6, .ref m7, .ref m8]))] := hD
  refine lv_aload_n hx hb dX14_time_5 rfl (lv_at hl 0 rfl) ?_
  refine va_get (D := D) (ci := 20) (v := .int 0) (C := RX14) (T := TX14) (N := 21) hx hb hts iw_RX14_wsX14_time hown hK hP 0 rfl rfl 10 (by decide) (hts (.fieldLink RX14 191 "CoatLineModel" "hour" "I") (by decide +kernel)) (fun _ h9 => h9) rfl dX14_time_6 ?_
  exact W.iret (v := 0) hx hb hr (fun t ht hW => ⟨⟨0, ((0, [.ref m1, .int 0, .int 0, .ref m2, .ref m3, .int 0, .int 4, .int (-40), .ref m4, .int 0, .int 20, .int 0, .ref m5, .ref fr, .int 100, .int 60, .int 14, .ref m6, .ref m7, .ref m8]) : Int32 × List Value), rfl, ⟨rfl, rfl⟩, ⟨by rw [ht]; exact hP.sub [0] rfl, va_K.moved hW.alike (hK.sub [] rfl), hD.sub [0] (by decide) rfl⟩⟩, hS.F ht⟩) hS.2.2 dX14_time_9
-- X14_givenBack
def v_X14_givenBack : Int32 := 0
def k_X14_givenBack : Int32 := 0
set_option maxHeartbeats 4000000 in
set_option maxRecDepth 100000 in
theorem c_X14_givenBack (l : Launch) (hst : l.stackTraces = false) (D : va_G) (e : Nat) (h : Nat) (m1 : Nat) (m2 : Nat) (m3 : Nat) (m4 : Nat) (m5 : Nat) (m6 : Nat) (m7 : Nat) (m8 : Nat) (fr : Nat) (sz : Nat) : Met l yX14_givenBack wsX14_givenBack ({ frames := 16, cells := 0, slots := 0, locals := 340 }) (va_Pc [.ref h] (cIn D [] [(h, .inr (20, [.int 0, .ref m1, .int 0, .int 0, .ref m2, .ref m3, .int 0, .int 4, .int (-40), .ref m4, .int 0, .int 20, .int 0, .ref m5, .ref fr, .int 100, .int 60, .int 14, .ref m6, .ref m7, .ref m8]))] e sz)) (va_Qi (fun (r : Int32) (u : Int32 × List Value) => u.1 = k_X14_givenBack ∧ r = v_X14_givenBack) (fun (u : Int32 × List Value) (t : State) => va_P D vwCl [(h, .inr (20, .int u.1 :: u.2))] t.heap ∧ va_K D vwCl [] t ∧ va_D (va_A [(h, .inr (20, [.int 0, .ref m1, .int 0, .int 0, .ref m2, .ref m3, .int 0, .int 4, .int (-40), .ref m4, .int 0, .int 20, .int 0, .ref m5, .ref fr, .int 100, .int 60, .int 14, .ref m6, .ref m7, .ref m8]))] sz) [(h, .inr (20, .int u.1 :: u.2))]) (va_A [(h, .inr (20, [.int 0, .ref m1, .int 0, .int 0, .ref m2, .ref m3, .int 0, .int 4, .int (-40), .ref m4, .int 0, .int 20, .int 0, .ref m5, .ref fr, .int 100, .int 60, .int 14, .ref m6, .ref m7, .ref m8]))] sz)) 0 0 (va_A [(h, .inr (20, [.int 0, .ref m1, .int 0, .int 0, .ref m2, .ref m3, .int 0, .int 4, .int (-40), .ref m4, .int 0, .int 20, .int 0, .ref m5, .ref fr, .int 100, .int 60, .int 14, .ref m6, .ref m7, .ref m8]))] sz) := by
  refine Met.ofW (cc := cX14_givenBack) (maxL := 1) (ret := (some .int)) (by decide +kernel) rfl ?_
  intro p e9 s m args below meth c s₁ B hml hv
  obtain ⟨rfl, hsz, hP, hK, hD0, hE0⟩ := hv
  have hx := B.exec
  have hb := B.bytes
  have hr := B.returns
  have hts := atoms_spec (ws := wsX14_givenBack) B.pre
  have hown : s.vm.findClass RX14 = some m.cls := findClass_of_methodNamed B.named
  have hlocks := B.notSynchronized
  subst hsz
  have hD := hD0.self (sz := s.heap.size)
  generalize hAe : va_A [(h, .inr (20, [.int 0, .ref m1, .int 0, .int 0, .ref m2, .ref m3, .int 0, .int 4, .int (-40), .ref m4, .int 0, .int 20, .int 0, .ref m5, .ref fr, .int 100, .int 60, .int 14, .ref m6, .ref m7, .ref m8]))] s.heap.size = A at hD hE0 ⊢
  have hA : ∀ q : Nat, s.heap.size ≤ q → A q := fun q h => by rw [← hAe]; exact Or.inr h
  have hS : va_S A s.heap s.heap [] := va_S.rf
  have hE := hE0
  have hP : va_P D vwCl [(h, .inr (20, [.int 0, .ref m1, .int 0, .int 0, .ref m2, .ref m3, .int 0, .int 4, .int (-40), .ref m4, .int 0, .int 20, .int 0, .ref m5, .ref fr, .int 100, .int 60, .int 14, .ref m6, .ref m7, .ref m8]))] s.heap := hP
  have hl := lv_entry ([.ref h]) (n := 1) (Nat.le_of_ble_eq_true rfl)
  rw [lg_entry_eq]
  generalize (lg_sl ([.ref h]) ++ List.replicate (1 - (lg_sl ([.ref h])).length) Slot.unset).toArray = ls at hl ⊢
  have hl : lv_has ls 1 [(0, .ref h)] := hl
  refine lv_aload_n hx hb dX14_givenBack_0 rfl (lv_at hl 0 rfl) ?_
  refine lv_iconst (v := 0) hx hb dX14_givenBack_1 (by decide) ?_
  refine va_put (D := D) (ci := 20) (v := .int 0) (ty := .int) (C := RX14) (T := TX14) (N := 21) hx hb hts iw_RX14_wsX14_givenBack tyX14 tyX14_ok nmX14 hown hK hP hD hS 0 rfl rfl 0 (by decide) (hts (.fieldLink RX14 60 "CoatLineModel" "thrown" "I") (by decide +kernel)) (fun _ h9 => h9) rfl (by decide +kernel) rfl rfl (Nat.le_of_ble_eq_true rfl) dX14_givenBack_2 (fun H locs hP hD hS => ?_)
  have hP : va_P D vwCl [(h, .inr (20, [.int 0, .ref m1, .int 0, .int 0, .ref m2, .ref m3, .int 0, .int 4, .int (-40), .ref m4, .int 0, .int 20, .int 0, .ref m5, .ref fr, .int 100, .int 60, .int 14, .ref m6, .ref m7, .ref m8]))] H := hP
  have hD : va_D A [(h, .inr (20, [.int 0, .ref m1, .int 0, .int 0, .ref m2, .ref m3, .int 0, .int 4, .int (-40), .ref m4, .int 0, .int 20, .int 0, .ref m5, .ref fr, .int 100, .int 60, .int 14, .ref m6, .ref m7, .ref m8]))] := hD
  refine lv_aload_n hx hb dX14_givenBack_5 rfl (lv_at hl 0 rfl) ?_
  refine va_get (D := D) (ci := 20) (v := .int 0) (C := RX14) (T := TX14) (N := 21) hx hb hts iw_RX14_wsX14_givenBack hown hK hP 0 rfl rfl 12 (by decide) (hts (.fieldLink RX14 258 "CoatLineModel" "given" "I") (by decide +kernel)) (fun _ h9 => h9) rfl dX14_givenBack_6 ?_
  exact W.iret (v := 0) hx hb hr (fun t ht hW => ⟨⟨0, ((0, [.ref m1, .int 0, .int 0, .ref m2, .ref m3, .int 0, .int 4, .int (-40), .ref m4, .int 0, .int 20, .int 0, .ref m5, .ref fr, .int 100, .int 60, .int 14, .ref m6, .ref m7, .ref m8]) : Int32 × List Value), rfl, ⟨rfl, rfl⟩, ⟨by rw [ht]; exact hP.sub [0] rfl, va_K.moved hW.alike (hK.sub [] rfl), hD.sub [0] (by decide) rfl⟩⟩, hS.F ht⟩) hS.2.2 dX14_givenBack_9
-- X14_isSound
def v_X14_isSound : Int32 := 1
def k_X14_isSound : Int32 := 0
set_option maxHeartbeats 4000000 in
set_option maxRecDepth 100000 in
theorem c_X14_isSound (l : Launch) (hst : l.stackTraces = false) (D : va_G) (e : Nat) (h : Nat) (m1 : Nat) (m2 : Nat) (m3 : Nat) (m4 : Nat) (m5 : Nat) (m6 : Nat) (m7 : Nat) (m8 : Nat) (fr : Nat) (sz : Nat) : Met l yX14_isSound wsX14_isSound ({ frames := 16, cells := 0, slots := 0, locals := 340 }) (va_Pc [.ref h] (cIn D [] [(h, .inr (20, [.int 0, .ref m1, .int 0, .int 0, .ref m2, .ref m3, .int 0, .int 4, .int (-40), .ref m4, .int 0, .int 20, .int 0, .ref m5, .ref fr, .int 100, .int 60, .int 14, .ref m6, .ref m7, .ref m8]))] e sz)) (va_Qi (fun (r : Int32) (u : Int32 × List Value) => u.1 = k_X14_isSound ∧ r = v_X14_isSound) (fun (u : Int32 × List Value) (t : State) => va_P D vwCl [(h, .inr (20, .int u.1 :: u.2))] t.heap ∧ va_K D vwCl [] t ∧ va_D (va_A [(h, .inr (20, [.int 0, .ref m1, .int 0, .int 0, .ref m2, .ref m3, .int 0, .int 4, .int (-40), .ref m4, .int 0, .int 20, .int 0, .ref m5, .ref fr, .int 100, .int 60, .int 14, .ref m6, .ref m7, .ref m8]))] sz) [(h, .inr (20, .int u.1 :: u.2))]) (va_A [(h, .inr (20, [.int 0, .ref m1, .int 0, .int 0, .ref m2, .ref m3, .int 0, .int 4, .int (-40), .ref m4, .int 0, .int 20, .int 0, .ref m5, .ref fr, .int 100, .int 60, .int 14, .ref m6, .ref m7, .ref m8]))] sz)) 0 0 (va_A [(h, .inr (20, [.int 0, .ref m1, .int 0, .int 0, .ref m2, .ref m3, .int 0, .int 4, .int (-40), .ref m4, .int 0, .int 20, .int 0, .ref m5, .ref fr, .int 100, .int 60, .int 14, .ref m6, .ref m7, .ref m8]))] sz) := by
  refine Met.ofW (cc := cX14_isSound) (maxL := 1) (ret := (some .boolean)) (by decide +kernel) rfl ?_
  intro p e9 s m args below meth c s₁ B hml hv
  obtain ⟨rfl, hsz, hP, hK, hD0, hE0⟩ := hv
  have hx := B.exec
  have hb := B.bytes
  have hr := B.returns
  have hts := atoms_spec (ws := wsX14_isSound) B.pre
  have hown : s.vm.findClass RX14 = some m.cls := findClass_of_methodNamed B.named
  have hlocks := B.notSynchronized
  subst hsz
  have hD := hD0.self (sz := s.heap.size)
  generalize hAe : va_A [(h, .inr (20, [.int 0, .ref m1, .int 0, .int 0, .ref m2, .ref m3, .int 0, .int 4, .int (-40), .ref m4, .int 0, .int 20, .int 0, .ref m5, .ref fr, .int 100, .int 60, .int 14, .ref m6, .ref m7, .ref m8]))] s.heap.size = A at hD hE0 ⊢
  have hA : ∀ q : Nat, s.heap.size ≤ q → A q := fun q h => by rw [← hAe]; exact Or.inr h
  have hS : va_S A s.heap s.heap [] := va_S.rf
  have hE := hE0
  have hP : va_P D vwCl [(h, .inr (20, [.int 0, .ref m1, .int 0, .int 0, .ref m2, .ref m3, .int 0, .int 4, .int (-40), .ref m4, .int 0, .int 20, .int 0, .ref m5, .ref fr, .int 100, .int 60, .int 14, .ref m6, .ref m7, .ref m8]))] s.heap := hP
  have hl := lv_entry ([.ref h]) (n := 1) (Nat.le_of_ble_eq_true rfl)
  rw [lg_entry_eq]
  generalize (lg_sl ([.ref h]) ++ List.replicate (1 - (lg_sl ([.ref h])).length) Slot.unset).toArray = ls at hl ⊢
  have hl : lv_has ls 1 [(0, .ref h)] := hl
  refine lv_aload_n hx hb dX14_isSound_0 rfl (lv_at hl 0 rfl) ?_
  refine lv_iconst (v := 0) hx hb dX14_isSound_1 (by decide) ?_
  refine va_put (D := D) (ci := 20) (v := .int 0) (ty := .int) (C := RX14) (T := TX14) (N := 21) hx hb hts iw_RX14_wsX14_isSound tyX14 tyX14_ok nmX14 hown hK hP hD hS 0 rfl rfl 0 (by decide) (hts (.fieldLink RX14 60 "CoatLineModel" "thrown" "I") (by decide +kernel)) (fun _ h9 => h9) rfl (by decide +kernel) rfl rfl (Nat.le_of_ble_eq_true rfl) dX14_isSound_2 (fun H locs hP hD hS => ?_)
  have hP : va_P D vwCl [(h, .inr (20, [.int 0, .ref m1, .int 0, .int 0, .ref m2, .ref m3, .int 0, .int 4, .int (-40), .ref m4, .int 0, .int 20, .int 0, .ref m5, .ref fr, .int 100, .int 60, .int 14, .ref m6, .ref m7, .ref m8]))] H := hP
  have hD : va_D A [(h, .inr (20, [.int 0, .ref m1, .int 0, .int 0, .ref m2, .ref m3, .int 0, .int 4, .int (-40), .ref m4, .int 0, .int 20, .int 0, .ref m5, .ref fr, .int 100, .int 60, .int 14, .ref m6, .ref m7, .ref m8]))] := hD
  refine lv_iconst (v := 1) hx hb dX14_isSound_5 (by decide) ?_
  exact W.zret (v := 1) hx hb hr (by first | rfl | decide +kernel) (fun t ht hW => ⟨⟨1, ((0, [.ref m1, .int 0, .int 0, .ref m2, .ref m3, .int 0, .int 4, .int (-40), .ref m4, .int 0, .int 20, .int 0, .ref m5, .ref fr, .int 100, .int 60, .int 14, .ref m6, .ref m7, .ref m8]) : Int32 × List Value), rfl, ⟨rfl, rfl⟩, ⟨by rw [ht]; exact hP.sub [0] rfl, va_K.moved hW.alike (hK.sub [] rfl), hD.sub [0] (by decide) rfl⟩⟩, hS.F ht⟩) hS.2.2 dX14_isSound_6
