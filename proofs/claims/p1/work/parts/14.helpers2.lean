theorem good_app {big a ws : List Cond} (h : GoodIn big ws) : GoodIn (big ++ a) ws := fun w hw => ⟨List.mem_append_left _ (h w hw).1, (h w hw).2⟩
def wsL_moduleB : List Cond := wsL_module ++ [.classLink RL 79 "java/util/NoSuchElementException"]
def wsL_doubtAllB : List Cond := wsL_doubtAll ++ [.classLink RL 13 "java/lang/IllegalArgumentException"]
-- L_lot
def v_L_lot (p0 : Int32) (p1 : Int32) (p2 : Int32) : Int32 := if t_X10_lot p0 p1 p2 = 0 then 0 else 1
def o_L_lot (p0 : Int32) (p1 : Int32) (p2 : Int32) : Int64 := if t_X10_lot p0 p1 p2 = 0 then ((v_X10_lot p0 p1 p2).toInt64) else 0
set_option maxHeartbeats 4000000 in
set_option maxRecDepth 100000 in
theorem c_L_lot (l : Launch) (hst : l.stackTraces = false) (D : va_G) (e : Nat) (h : Nat) (l1 : Nat) (l2 : Nat) (l3 : Nat) (l4 : Nat) (l5 : Nat) (l6 : Nat) (l7 : Nat) (l8 : Nat) (l9 : Nat) (ch : Nat) (co : Nat) (o : Nat) (cO : ClassId) (f0 : Nat → Int64) (p0 : Int32) (p1 : Int32) (p2 : Int32) (sz : Nat) : vx_Met l yL_lot wsL_lot ({ frames := 24, cells := 6, slots := 40, locals := 580 }) (va_Pc [.ref h, .int p0, .int p1, .int p2, .ref o] (cIn D [(cO, .long)] [(h, .inr (16, [.ref l1, .ref l2, .ref l3, .ref l4, .ref l5, .ref l6, .ref l7, .ref l8, .ref l9, .ref ch, .ref co, .int 0, .int 4, .int (-40), .int 20, .int 0, .int 0, .int 100, .int 60, .int 14])), (l1, .inr (5, [.int 0, .ref e, .int 0])), (o, .inl (cO, 1, .inr (.inl f0)))] e sz)) (va_Qi (fun (r : Int32) (f : Nat → Int64) => r = v_L_lot p0 p1 p2 ∧ (r = 0 → f 0 = o_L_lot p0 p1 p2)) (fun (f : Nat → Int64) (t : State) => va_P D vwCl [(o, .inl (cO, 1, .inr (.inl f)))] t.heap ∧ va_K D vwCl [(cO, .long)] t ∧ va_D (va_A [(h, .inr (16, [.ref l1, .ref l2, .ref l3, .ref l4, .ref l5, .ref l6, .ref l7, .ref l8, .ref l9, .ref ch, .ref co, .int 0, .int 4, .int (-40), .int 20, .int 0, .int 0, .int 100, .int 60, .int 14])), (l1, .inr (5, [.int 0, .ref e, .int 0])), (o, .inl (cO, 1, .inr (.inl f0)))] sz) [(o, .inl (cO, 1, .inr (.inl f)))]) (va_A [(h, .inr (16, [.ref l1, .ref l2, .ref l3, .ref l4, .ref l5, .ref l6, .ref l7, .ref l8, .ref l9, .ref ch, .ref co, .int 0, .int 4, .int (-40), .int 20, .int 0, .int 0, .int 100, .int 60, .int 14])), (l1, .inr (5, [.int 0, .ref e, .int 0])), (o, .inl (cO, 1, .inr (.inl f0)))] sz)) (vx_X (fun _ : Unit => False) (fun (_ : String) (_ : Unit) (_ : State) => True) (va_A [(h, .inr (16, [.ref l1, .ref l2, .ref l3, .ref l4, .ref l5, .ref l6, .ref l7, .ref l8, .ref l9, .ref ch, .ref co, .int 0, .int 4, .int (-40), .int 20, .int 0, .int 0, .int 100, .int 60, .int 14])), (l1, .inr (5, [.int 0, .ref e, .int 0])), (o, .inl (cO, 1, .inr (.inl f0)))] sz)) 6 40 (va_A [(h, .inr (16, [.ref l1, .ref l2, .ref l3, .ref l4, .ref l5, .ref l6, .ref l7, .ref l8, .ref l9, .ref ch, .ref co, .int 0, .int 4, .int (-40), .int 20, .int 0, .int 0, .int 100, .int 60, .int 14])), (l1, .inr (5, [.int 0, .ref e, .int 0])), (o, .inl (cO, 1, .inr (.inl f0)))] sz) := by
  refine vx_ofWH (cc := cL_lot) (maxL := 6) (ret := (some .int)) (by decide +kernel) rfl ?_
  intro p e9 s m args below meth c s₁ B hml hv
  obtain ⟨rfl, hsz, hP, hK, hD0, hE0⟩ := hv
  have hx := B.exec
  have hb := B.bytes
  have hr := B.returns
  have hts := atoms_spec (ws := wsL_lot) B.pre
  have hown : s.vm.findClass RL = some m.cls := findClass_of_methodNamed B.named
  have hlocks := B.notSynchronized
  have htab := vx_table (x := yL_lot) B (hts (.codeWith yL_lot cL_lot 6 (some .int) [(0, 12, 15, 13), (0, 12, 19, 15)]) (show _ ∈ wsL_lot from List.mem_cons_self))
  subst hsz
  have hD := hD0.self (sz := s.heap.size)
  generalize hAe : va_A [(h, .inr (16, [.ref l1, .ref l2, .ref l3, .ref l4, .ref l5, .ref l6, .ref l7, .ref l8, .ref l9, .ref ch, .ref co, .int 0, .int 4, .int (-40), .int 20, .int 0, .int 0, .int 100, .int 60, .int 14])), (l1, .inr (5, [.int 0, .ref e, .int 0])), (o, .inl (cO, 1, .inr (.inl f0)))] s.heap.size = A at hD hE0 ⊢
  have hA : ∀ q : Nat, s.heap.size ≤ q → A q := fun q h => by rw [← hAe]; exact Or.inr h
  have hS : va_S A s.heap s.heap [] := va_S.rf
  have hE := hE0
  have hP : va_P D vwCl [(h, .inr (16, [.ref l1, .ref l2, .ref l3, .ref l4, .ref l5, .ref l6, .ref l7, .ref l8, .ref l9, .ref ch, .ref co, .int 0, .int 4, .int (-40), .int 20, .int 0, .int 0, .int 100, .int 60, .int 14])), (l1, .inr (5, [.int 0, .ref e, .int 0])), (o, .inl (cO, 1, .inr (.inl f0)))] s.heap := hP
  have hl := lv_entry ([.ref h, .int p0, .int p1, .int p2, .ref o]) (n := 6) (Nat.le_of_ble_eq_true rfl)
  rw [lg_entry_eq]
  generalize (lg_sl ([.ref h, .int p0, .int p1, .int p2, .ref o]) ++ List.replicate (6 - (lg_sl ([.ref h, .int p0, .int p1, .int p2, .ref o])).length) Slot.unset).toArray = ls at hl ⊢
  have hl : lv_has ls 6 [(0, .ref h), (1, .int p0), (2, .int p1), (3, .int p2), (4, .ref o)] := hl
  refine lv_aload hx hb dL_lot_0 (lv_at hl 4 rfl) ?_
  refine lv_iconst (v := 0) hx hb dL_lot_2 (by decide) ?_
  refine lv_aload_n hx hb dL_lot_3 rfl (lv_at hl 0 rfl) ?_
  refine lv_iload_n hx hb dL_lot_4 rfl (lv_at hl 1 rfl) ?_
  refine lv_iload_n hx hb dL_lot_5 rfl (lv_at hl 2 rfl) ?_
  refine lv_iload_n hx hb dL_lot_6 rfl (lv_at hl 3 rfl) ?_
  have hFc := va_free (wc := [(h, .inr (16, [.ref l1, .ref l2, .ref l3, .ref l4, .ref l5, .ref l6, .ref l7, .ref l8, .ref l9, .ref ch, .ref co, .int 0, .int 4, .int (-40), .int 20, .int 0, .int 0, .int 100, .int 60, .int 14])), (l1, .inr (5, [.int 0, .ref e, .int 0]))]) hD hS hA [0, 1] rfl
  refine vx_calli (vx_runV (As := [.int p0, .int p1, .int p2]) (rest := [.int 0, .ref o]) ⟨hx, hb, hml, hown, hts⟩ (c_X10_lot l hst D e h l1 l2 l3 l4 l5 l6 l7 l8 l9 ch co p0 p1 p2 s.heap.size) (cwV 3 hts gL_lot_X10_lot rfl rfl rfl (by decide +kernel) ⟨Nat.le_of_ble_eq_true rfl, Nat.le_of_ble_eq_true rfl⟩) ⟨cIn_blind, va_recv hK hP (ci := 16) (q0 := 0) rfl rfl, cIn_go hK hP hD hE hS hA [0, 1] rfl rfl (by decide) [] rfl⟩ rfl rfl hl.1 rfl (lv_room (Nat.le_of_ble_eq_true rfl)) dL_lot_7 ⟨Nat.le_of_ble_eq_true rfl, Nat.le_of_ble_eq_true rfl⟩) hS (fun q _ h => hFc q h) hFc (fun q _ h => hFc q h) (fun E ce q9 u t H1 locs ht hvm hpx hB hz1 hk1 hS hce hcv hcl => ?_) (fun r_1 u t H1 locs ht hvm hw hB hz1 hk1 hS => ?_)
  · obtain ⟨rfl, hw⟩ := hB
    have c_3 : ¬ t_X10_lot p0 p1 p2 = 0 := by rw [hw]; decide
    obtain ⟨hP, hD⟩ := cIn_rest (wc := [(h, .inr (16, [.ref l1, .ref l2, .ref l3, .ref l4, .ref l5, .ref l6, .ref l7, .ref l8, .ref l9, .ref ch, .ref co, .int 0, .int 4, .int (-40), .int 20, .int 0, .int 0, .int 100, .int 60, .int 14])), (l1, .inr (5, [.int 0, .ref e, .int 0]))]) (wr := [(o, .inl (cO, 1, .inr (.inl f0)))]) hP hD [0, 1] [2] rfl rfl (by decide) (by decide) hk1 hFc
    generalize H1 = H at hP hS hce ⊢
    have hP : va_P D vwCl [(o, .inl (cO, 1, .inr (.inl f0)))] H := hP
    have hD : va_D A [(o, .inl (cO, 1, .inr (.inl f0)))] := hD
    refine vx_catch (name := "java/lang/IllegalArgumentException") (E := "java/lang/IllegalArgumentException") hown [] ⟨0, 12, 15, 13⟩ [⟨0, 12, 19, 15⟩] (by rw [htab]; rfl) (fun z hz => by cases hz) (by decide) (by decide) (hts (.classLink RL 13 "java/lang/IllegalArgumentException") (by decide +kernel)) (ev_u hE (w := .castable "java/lang/IllegalArgumentException" "java/lang/IllegalArgumentException") (by decide +kernel) rfl) hce hcv hcl ?_
    refine lv_astore (lv' := [(5, .ref q9), (0, .ref h), (1, .int p0), (2, .int p1), (3, .int p2), (4, .ref o)]) hx hb dL_lot_15 hl (by decide) rfl (fun ls hl => ?_)
    refine lv_iconst (v := 1) hx hb dL_lot_17 (by decide) ?_
    refine vx_ret ?_
    exact W.iret (v := 1) hx hb hr (fun t ht hW => ⟨⟨1, f0, rfl, ⟨(by unfold v_L_lot; rw [if_neg c_3]), fun h => absurd h (by decide)⟩, ⟨by rw [ht]; exact hP.sub [0] rfl, va_K.moved hW.alike (hK.sub [0] rfl), hD.sub [0] (by decide) rfl⟩⟩, hS.F ht⟩) hS.2.2 dL_lot_18
  · obtain ⟨c_2, hw⟩ := hw
    obtain ⟨hP, hD⟩ := cIn_rest (wc := [(h, .inr (16, [.ref l1, .ref l2, .ref l3, .ref l4, .ref l5, .ref l6, .ref l7, .ref l8, .ref l9, .ref ch, .ref co, .int 0, .int 4, .int (-40), .int 20, .int 0, .int 0, .int 100, .int 60, .int 14])), (l1, .inr (5, [.int 0, .ref e, .int 0]))]) (wr := [(o, .inl (cO, 1, .inr (.inl f0)))]) hP hD [0, 1] [2] rfl rfl (by decide) (by decide) hk1 hFc
    generalize H1 = H at hP hS ⊢
    have hP : va_P D vwCl [(o, .inl (cO, 1, .inr (.inl f0)))] H := hP
    have hD : va_D A [(o, .inl (cO, 1, .inr (.inl f0)))] := hD
    refine W.widen (k := 6) (n := 40) (Nat.le_of_ble_eq_true rfl) (Nat.le_of_ble_eq_true rfl) ?_
    subst hw
    refine lv_i2l (v := (v_X10_lot p0 p1 p2).toInt64) hx hb dL_lot_10 rfl ?_
    refine va_last hx hb hK hP hD hS 0 0 rfl rfl (i := 0) (show ¬ ((0 : Int32) < 0 ∨ 1 ≤ (0 : Int32).toNatClampNeg) from by decide +kernel) dL_lot_11 (fun H locs hP hD hS => ?_)
    have hP : va_P D vwCl [(o, .inl (cO, 1, .inr (.inl (vp_updL f0 (0 : Int32).toNatClampNeg ((v_X10_lot p0 p1 p2).toInt64)))))] H := hP
    have hD : va_D A [(o, .inl (cO, 1, .inr (.inl (vp_updL f0 (0 : Int32).toNatClampNeg ((v_X10_lot p0 p1 p2).toInt64)))))] := hD
    refine lv_goto (tgt := 23) hx hb dL_lot_12 (by decide) ?_
    refine lv_iconst (v := 0) hx hb dL_lot_23 (by decide) ?_
    refine vx_ret ?_
    exact W.iret (v := 0) hx hb hr (fun t ht hW => ⟨⟨0, ((vp_updL f0 (0 : Int32).toNatClampNeg ((v_X10_lot p0 p1 p2).toInt64))), rfl, ⟨(by unfold v_L_lot; rw [if_pos c_2]), fun _ => (by unfold o_L_lot; rw [if_pos c_2]; exact updL0)⟩, ⟨by rw [ht]; exact hP.sub [0] rfl, va_K.moved hW.alike (hK.sub [0] rfl), hD.sub [0] (by decide) rfl⟩⟩, hS.F ht⟩) hS.2.2 dL_lot_24
-- L_pass
def v_L_pass (p0 : Int32) : Int32 := if t_X10_pass p0 = 0 then 0 else 1
def o_L_pass (p0 : Int32) : Int64 := if t_X10_pass p0 = 0 then ((v_X10_pass p0).toInt64) else 0
set_option maxHeartbeats 4000000 in
set_option maxRecDepth 100000 in
theorem c_L_pass (l : Launch) (hst : l.stackTraces = false) (D : va_G) (e : Nat) (h : Nat) (l1 : Nat) (l2 : Nat) (l3 : Nat) (l4 : Nat) (l5 : Nat) (l6 : Nat) (l7 : Nat) (l8 : Nat) (l9 : Nat) (ch : Nat) (co : Nat) (o : Nat) (cO : ClassId) (f0 : Nat → Int64) (p0 : Int32) (sz : Nat) : vx_Met l yL_pass wsL_pass ({ frames := 18, cells := 1, slots := 6, locals := 400 }) (va_Pc [.ref h, .int p0, .ref o] (cIn D [(cO, .long)] [(h, .inr (16, [.ref l1, .ref l2, .ref l3, .ref l4, .ref l5, .ref l6, .ref l7, .ref l8, .ref l9, .ref ch, .ref co, .int 0, .int 4, .int (-40), .int 20, .int 0, .int 0, .int 100, .int 60, .int 14])), (l4, .inr (5, [.int 0, .ref e, .int 0])), (o, .inl (cO, 1, .inr (.inl f0)))] e sz)) (va_Qi (fun (r : Int32) (f : Nat → Int64) => r = v_L_pass p0 ∧ (r = 0 → f 0 = o_L_pass p0)) (fun (f : Nat → Int64) (t : State) => va_P D vwCl [(o, .inl (cO, 1, .inr (.inl f)))] t.heap ∧ va_K D vwCl [(cO, .long)] t ∧ va_D (va_A [(h, .inr (16, [.ref l1, .ref l2, .ref l3, .ref l4, .ref l5, .ref l6, .ref l7, .ref l8, .ref l9, .ref ch, .ref co, .int 0, .int 4, .int (-40), .int 20, .int 0, .int 0, .int 100, .int 60, .int 14])), (l4, .inr (5, [.int 0, .ref e, .int 0])), (o, .inl (cO, 1, .inr (.inl f0)))] sz) [(o, .inl (cO, 1, .inr (.inl f)))]) (va_A [(h, .inr (16, [.ref l1, .ref l2, .ref l3, .ref l4, .ref l5, .ref l6, .ref l7, .ref l8, .ref l9, .ref ch, .ref co, .int 0, .int 4, .int (-40), .int 20, .int 0, .int 0, .int 100, .int 60, .int 14])), (l4, .inr (5, [.int 0, .ref e, .int 0])), (o, .inl (cO, 1, .inr (.inl f0)))] sz)) (vx_X (fun _ : Unit => False) (fun (_ : String) (_ : Unit) (_ : State) => True) (va_A [(h, .inr (16, [.ref l1, .ref l2, .ref l3, .ref l4, .ref l5, .ref l6, .ref l7, .ref l8, .ref l9, .ref ch, .ref co, .int 0, .int 4, .int (-40), .int 20, .int 0, .int 0, .int 100, .int 60, .int 14])), (l4, .inr (5, [.int 0, .ref e, .int 0])), (o, .inl (cO, 1, .inr (.inl f0)))] sz)) 1 6 (va_A [(h, .inr (16, [.ref l1, .ref l2, .ref l3, .ref l4, .ref l5, .ref l6, .ref l7, .ref l8, .ref l9, .ref ch, .ref co, .int 0, .int 4, .int (-40), .int 20, .int 0, .int 0, .int 100, .int 60, .int 14])), (l4, .inr (5, [.int 0, .ref e, .int 0])), (o, .inl (cO, 1, .inr (.inl f0)))] sz) := by
  refine vx_ofWH (cc := cL_pass) (maxL := 4) (ret := (some .int)) (by decide +kernel) rfl ?_
  intro p e9 s m args below meth c s₁ B hml hv
  obtain ⟨rfl, hsz, hP, hK, hD0, hE0⟩ := hv
  have hx := B.exec
  have hb := B.bytes
  have hr := B.returns
  have hts := atoms_spec (ws := wsL_pass) B.pre
  have hown : s.vm.findClass RL = some m.cls := findClass_of_methodNamed B.named
  have hlocks := B.notSynchronized
  have htab := vx_table (x := yL_pass) B (hts (.codeWith yL_pass cL_pass 4 (some .int) [(0, 9, 12, 13), (0, 9, 15, 15)]) (show _ ∈ wsL_pass from List.mem_cons_self))
  subst hsz
  have hD := hD0.self (sz := s.heap.size)
  generalize hAe : va_A [(h, .inr (16, [.ref l1, .ref l2, .ref l3, .ref l4, .ref l5, .ref l6, .ref l7, .ref l8, .ref l9, .ref ch, .ref co, .int 0, .int 4, .int (-40), .int 20, .int 0, .int 0, .int 100, .int 60, .int 14])), (l4, .inr (5, [.int 0, .ref e, .int 0])), (o, .inl (cO, 1, .inr (.inl f0)))] s.heap.size = A at hD hE0 ⊢
  have hA : ∀ q : Nat, s.heap.size ≤ q → A q := fun q h => by rw [← hAe]; exact Or.inr h
  have hS : va_S A s.heap s.heap [] := va_S.rf
  have hE := hE0
  have hP : va_P D vwCl [(h, .inr (16, [.ref l1, .ref l2, .ref l3, .ref l4, .ref l5, .ref l6, .ref l7, .ref l8, .ref l9, .ref ch, .ref co, .int 0, .int 4, .int (-40), .int 20, .int 0, .int 0, .int 100, .int 60, .int 14])), (l4, .inr (5, [.int 0, .ref e, .int 0])), (o, .inl (cO, 1, .inr (.inl f0)))] s.heap := hP
  have hl := lv_entry ([.ref h, .int p0, .ref o]) (n := 4) (Nat.le_of_ble_eq_true rfl)
  rw [lg_entry_eq]
  generalize (lg_sl ([.ref h, .int p0, .ref o]) ++ List.replicate (4 - (lg_sl ([.ref h, .int p0, .ref o])).length) Slot.unset).toArray = ls at hl ⊢
  have hl : lv_has ls 4 [(0, .ref h), (1, .int p0), (2, .ref o)] := hl
  refine lv_aload_n hx hb dL_pass_0 rfl (lv_at hl 2 rfl) ?_
  refine lv_iconst (v := 0) hx hb dL_pass_1 (by decide) ?_
  refine lv_aload_n hx hb dL_pass_2 rfl (lv_at hl 0 rfl) ?_
  refine lv_iload_n hx hb dL_pass_3 rfl (lv_at hl 1 rfl) ?_
  have hFc := va_free (wc := [(h, .inr (16, [.ref l1, .ref l2, .ref l3, .ref l4, .ref l5, .ref l6, .ref l7, .ref l8, .ref l9, .ref ch, .ref co, .int 0, .int 4, .int (-40), .int 20, .int 0, .int 0, .int 100, .int 60, .int 14])), (l4, .inr (5, [.int 0, .ref e, .int 0]))]) hD hS hA [0, 1] rfl
  refine vx_calli (vx_runV (As := [.int p0]) (rest := [.int 0, .ref o]) ⟨hx, hb, hml, hown, hts⟩ (c_X10_pass l hst D e h l1 l2 l3 l4 l5 l6 l7 l8 l9 ch co p0 s.heap.size) (cwV 1 hts gL_pass_X10_pass rfl rfl rfl (by decide +kernel) ⟨Nat.le_of_ble_eq_true rfl, Nat.le_of_ble_eq_true rfl⟩) ⟨cIn_blind, va_recv hK hP (ci := 16) (q0 := 0) rfl rfl, cIn_go hK hP hD hE hS hA [0, 1] rfl rfl (by decide) [] rfl⟩ rfl rfl hl.1 rfl (lv_room (Nat.le_of_ble_eq_true rfl)) dL_pass_4 ⟨Nat.le_of_ble_eq_true rfl, Nat.le_of_ble_eq_true rfl⟩) hS (fun q _ h => hFc q h) hFc (fun q _ h => hFc q h) (fun E ce q9 u t H1 locs ht hvm hpx hB hz1 hk1 hS hce hcv hcl => ?_) (fun r_1 u t H1 locs ht hvm hw hB hz1 hk1 hS => ?_)
  · obtain ⟨rfl, hw⟩ := hB
    have c_3 : ¬ t_X10_pass p0 = 0 := by rw [hw]; decide
    obtain ⟨hP, hD⟩ := cIn_rest (wc := [(h, .inr (16, [.ref l1, .ref l2, .ref l3, .ref l4, .ref l5, .ref l6, .ref l7, .ref l8, .ref l9, .ref ch, .ref co, .int 0, .int 4, .int (-40), .int 20, .int 0, .int 0, .int 100, .int 60, .int 14])), (l4, .inr (5, [.int 0, .ref e, .int 0]))]) (wr := [(o, .inl (cO, 1, .inr (.inl f0)))]) hP hD [0, 1] [2] rfl rfl (by decide) (by decide) hk1 hFc
    generalize H1 = H at hP hS hce ⊢
    have hP : va_P D vwCl [(o, .inl (cO, 1, .inr (.inl f0)))] H := hP
    have hD : va_D A [(o, .inl (cO, 1, .inr (.inl f0)))] := hD
    refine vx_catch (name := "java/lang/IllegalArgumentException") (E := "java/lang/IllegalArgumentException") hown [] ⟨0, 9, 12, 13⟩ [⟨0, 9, 15, 15⟩] (by rw [htab]; rfl) (fun z hz => by cases hz) (by decide) (by decide) (hts (.classLink RL 13 "java/lang/IllegalArgumentException") (by decide +kernel)) (ev_u hE (w := .castable "java/lang/IllegalArgumentException" "java/lang/IllegalArgumentException") (by decide +kernel) rfl) hce hcv hcl ?_
    refine lv_astore_n (lv' := [(3, .ref q9), (0, .ref h), (1, .int p0), (2, .ref o)]) hx hb dL_pass_12 rfl hl (by decide) rfl (fun ls hl => ?_)
    refine lv_iconst (v := 1) hx hb dL_pass_13 (by decide) ?_
    refine vx_ret ?_
    exact W.iret (v := 1) hx hb hr (fun t ht hW => ⟨⟨1, f0, rfl, ⟨(by unfold v_L_pass; rw [if_neg c_3]), fun h => absurd h (by decide)⟩, ⟨by rw [ht]; exact hP.sub [0] rfl, va_K.moved hW.alike (hK.sub [0] rfl), hD.sub [0] (by decide) rfl⟩⟩, hS.F ht⟩) hS.2.2 dL_pass_14
  · obtain ⟨c_2, hw⟩ := hw
    obtain ⟨hP, hD⟩ := cIn_rest (wc := [(h, .inr (16, [.ref l1, .ref l2, .ref l3, .ref l4, .ref l5, .ref l6, .ref l7, .ref l8, .ref l9, .ref ch, .ref co, .int 0, .int 4, .int (-40), .int 20, .int 0, .int 0, .int 100, .int 60, .int 14])), (l4, .inr (5, [.int 0, .ref e, .int 0]))]) (wr := [(o, .inl (cO, 1, .inr (.inl f0)))]) hP hD [0, 1] [2] rfl rfl (by decide) (by decide) hk1 hFc
    generalize H1 = H at hP hS ⊢
    have hP : va_P D vwCl [(o, .inl (cO, 1, .inr (.inl f0)))] H := hP
    have hD : va_D A [(o, .inl (cO, 1, .inr (.inl f0)))] := hD
    refine W.widen (k := 1) (n := 6) (Nat.le_of_ble_eq_true rfl) (Nat.le_of_ble_eq_true rfl) ?_
    subst hw
    refine lv_i2l (v := (v_X10_pass p0).toInt64) hx hb dL_pass_7 rfl ?_
    refine va_last hx hb hK hP hD hS 0 0 rfl rfl (i := 0) (show ¬ ((0 : Int32) < 0 ∨ 1 ≤ (0 : Int32).toNatClampNeg) from by decide +kernel) dL_pass_8 (fun H locs hP hD hS => ?_)
    have hP : va_P D vwCl [(o, .inl (cO, 1, .inr (.inl (vp_updL f0 (0 : Int32).toNatClampNeg ((v_X10_pass p0).toInt64)))))] H := hP
    have hD : va_D A [(o, .inl (cO, 1, .inr (.inl (vp_updL f0 (0 : Int32).toNatClampNeg ((v_X10_pass p0).toInt64)))))] := hD
    refine lv_goto (tgt := 18) hx hb dL_pass_9 (by decide) ?_
    refine lv_iconst (v := 0) hx hb dL_pass_18 (by decide) ?_
    refine vx_ret ?_
    exact W.iret (v := 0) hx hb hr (fun t ht hW => ⟨⟨0, ((vp_updL f0 (0 : Int32).toNatClampNeg ((v_X10_pass p0).toInt64))), rfl, ⟨(by unfold v_L_pass; rw [if_pos c_2]), fun _ => (by unfold o_L_pass; rw [if_pos c_2]; exact updL0)⟩, ⟨by rw [ht]; exact hP.sub [0] rfl, va_K.moved hW.alike (hK.sub [0] rfl), hD.sub [0] (by decide) rfl⟩⟩, hS.F ht⟩) hS.2.2 dL_pass_19
-- L_protocol
def v_L_protocol (p0 : Int32) (p1 : Int32) : Int32 := if t_X10_protocol p0 p1 = 0 then 0 else 1
def o_L_protocol (p0 : Int32) (p1 : Int32) : Int64 := if t_X10_protocol p0 p1 = 0 then ((v_X10_protocol p0 p1).toInt64) else 0
set_option maxHeartbeats 4000000 in
set_option maxRecDepth 100000 in
theorem c_L_protocol (l : Launch) (hst : l.stackTraces = false) (D : va_G) (e : Nat) (h : Nat) (l1 : Nat) (l2 : Nat) (l3 : Nat) (l4 : Nat) (l5 : Nat) (l6 : Nat) (l7 : Nat) (l8 : Nat) (l9 : Nat) (ch : Nat) (co : Nat) (o : Nat) (cO : ClassId) (f0 : Nat → Int64) (p0 : Int32) (p1 : Int32) (sz : Nat) : vx_Met l yL_protocol wsL_protocol ({ frames := 24, cells := 9, slots := 60, locals := 580 }) (va_Pc [.ref h, .int p0, .int p1, .ref o] (cIn D [(cO, .long)] [(h, .inr (16, [.ref l1, .ref l2, .ref l3, .ref l4, .ref l5, .ref l6, .ref l7, .ref l8, .ref l9, .ref ch, .ref co, .int 0, .int 4, .int (-40), .int 20, .int 0, .int 0, .int 100, .int 60, .int 14])), (l5, .inr (5, [.int 0, .ref e, .int 0])), (o, .inl (cO, 1, .inr (.inl f0)))] e sz)) (va_Qi (fun (r : Int32) (f : Nat → Int64) => r = v_L_protocol p0 p1 ∧ (r = 0 → f 0 = o_L_protocol p0 p1)) (fun (f : Nat → Int64) (t : State) => va_P D vwCl [(o, .inl (cO, 1, .inr (.inl f)))] t.heap ∧ va_K D vwCl [(cO, .long)] t ∧ va_D (va_A [(h, .inr (16, [.ref l1, .ref l2, .ref l3, .ref l4, .ref l5, .ref l6, .ref l7, .ref l8, .ref l9, .ref ch, .ref co, .int 0, .int 4, .int (-40), .int 20, .int 0, .int 0, .int 100, .int 60, .int 14])), (l5, .inr (5, [.int 0, .ref e, .int 0])), (o, .inl (cO, 1, .inr (.inl f0)))] sz) [(o, .inl (cO, 1, .inr (.inl f)))]) (va_A [(h, .inr (16, [.ref l1, .ref l2, .ref l3, .ref l4, .ref l5, .ref l6, .ref l7, .ref l8, .ref l9, .ref ch, .ref co, .int 0, .int 4, .int (-40), .int 20, .int 0, .int 0, .int 100, .int 60, .int 14])), (l5, .inr (5, [.int 0, .ref e, .int 0])), (o, .inl (cO, 1, .inr (.inl f0)))] sz)) (vx_X (fun _ : Unit => False) (fun (_ : String) (_ : Unit) (_ : State) => True) (va_A [(h, .inr (16, [.ref l1, .ref l2, .ref l3, .ref l4, .ref l5, .ref l6, .ref l7, .ref l8, .ref l9, .ref ch, .ref co, .int 0, .int 4, .int (-40), .int 20, .int 0, .int 0, .int 100, .int 60, .int 14])), (l5, .inr (5, [.int 0, .ref e, .int 0])), (o, .inl (cO, 1, .inr (.inl f0)))] sz)) 9 60 (va_A [(h, .inr (16, [.ref l1, .ref l2, .ref l3, .ref l4, .ref l5, .ref l6, .ref l7, .ref l8, .ref l9, .ref ch, .ref co, .int 0, .int 4, .int (-40), .int 20, .int 0, .int 0, .int 100, .int 60, .int 14])), (l5, .inr (5, [.int 0, .ref e, .int 0])), (o, .inl (cO, 1, .inr (.inl f0)))] sz) := by
  refine vx_ofWH (cc := cL_protocol) (maxL := 5) (ret := (some .int)) (by decide +kernel) rfl ?_
  intro p e9 s m args below meth c s₁ B hml hv
  obtain ⟨rfl, hsz, hP, hK, hD0, hE0⟩ := hv
  have hx := B.exec
  have hb := B.bytes
  have hr := B.returns
  have hts := atoms_spec (ws := wsL_protocol) B.pre
  have hown : s.vm.findClass RL = some m.cls := findClass_of_methodNamed B.named
  have hlocks := B.notSynchronized
  have htab := vx_table (x := yL_protocol) B (hts (.codeWith yL_protocol cL_protocol 5 (some .int) [(0, 10, 13, 13), (0, 10, 17, 15)]) (show _ ∈ wsL_protocol from List.mem_cons_self))
  subst hsz
  have hD := hD0.self (sz := s.heap.size)
  generalize hAe : va_A [(h, .inr (16, [.ref l1, .ref l2, .ref l3, .ref l4, .ref l5, .ref l6, .ref l7, .ref l8, .ref l9, .ref ch, .ref co, .int 0, .int 4, .int (-40), .int 20, .int 0, .int 0, .int 100, .int 60, .int 14])), (l5, .inr (5, [.int 0, .ref e, .int 0])), (o, .inl (cO, 1, .inr (.inl f0)))] s.heap.size = A at hD hE0 ⊢
  have hA : ∀ q : Nat, s.heap.size ≤ q → A q := fun q h => by rw [← hAe]; exact Or.inr h
  have hS : va_S A s.heap s.heap [] := va_S.rf
  have hE := hE0
  have hP : va_P D vwCl [(h, .inr (16, [.ref l1, .ref l2, .ref l3, .ref l4, .ref l5, .ref l6, .ref l7, .ref l8, .ref l9, .ref ch, .ref co, .int 0, .int 4, .int (-40), .int 20, .int 0, .int 0, .int 100, .int 60, .int 14])), (l5, .inr (5, [.int 0, .ref e, .int 0])), (o, .inl (cO, 1, .inr (.inl f0)))] s.heap := hP
  have hl := lv_entry ([.ref h, .int p0, .int p1, .ref o]) (n := 5) (Nat.le_of_ble_eq_true rfl)
  rw [lg_entry_eq]
  generalize (lg_sl ([.ref h, .int p0, .int p1, .ref o]) ++ List.replicate (5 - (lg_sl ([.ref h, .int p0, .int p1, .ref o])).length) Slot.unset).toArray = ls at hl ⊢
  have hl : lv_has ls 5 [(0, .ref h), (1, .int p0), (2, .int p1), (3, .ref o)] := hl
  refine lv_aload_n hx hb dL_protocol_0 rfl (lv_at hl 3 rfl) ?_
  refine lv_iconst (v := 0) hx hb dL_protocol_1 (by decide) ?_
  refine lv_aload_n hx hb dL_protocol_2 rfl (lv_at hl 0 rfl) ?_
  refine lv_iload_n hx hb dL_protocol_3 rfl (lv_at hl 1 rfl) ?_
  refine lv_iload_n hx hb dL_protocol_4 rfl (lv_at hl 2 rfl) ?_
  have hFc := va_free (wc := [(h, .inr (16, [.ref l1, .ref l2, .ref l3, .ref l4, .ref l5, .ref l6, .ref l7, .ref l8, .ref l9, .ref ch, .ref co, .int 0, .int 4, .int (-40), .int 20, .int 0, .int 0, .int 100, .int 60, .int 14])), (l5, .inr (5, [.int 0, .ref e, .int 0]))]) hD hS hA [0, 1] rfl
  refine vx_calli (vx_runV (As := [.int p0, .int p1]) (rest := [.int 0, .ref o]) ⟨hx, hb, hml, hown, hts⟩ (c_X10_protocol l hst D e h l1 l2 l3 l4 l5 l6 l7 l8 l9 ch co p0 p1 s.heap.size) (cwV 2 hts gL_protocol_X10_protocol rfl rfl rfl (by decide +kernel) ⟨Nat.le_of_ble_eq_true rfl, Nat.le_of_ble_eq_true rfl⟩) ⟨cIn_blind, va_recv hK hP (ci := 16) (q0 := 0) rfl rfl, cIn_go hK hP hD hE hS hA [0, 1] rfl rfl (by decide) [] rfl⟩ rfl rfl hl.1 rfl (lv_room (Nat.le_of_ble_eq_true rfl)) dL_protocol_5 ⟨Nat.le_of_ble_eq_true rfl, Nat.le_of_ble_eq_true rfl⟩) hS (fun q _ h => hFc q h) hFc (fun q _ h => hFc q h) (fun E ce q9 u t H1 locs ht hvm hpx hB hz1 hk1 hS hce hcv hcl => ?_) (fun r_1 u t H1 locs ht hvm hw hB hz1 hk1 hS => ?_)
  · obtain ⟨rfl, hw⟩ := hB
    have c_3 : ¬ t_X10_protocol p0 p1 = 0 := by rw [hw]; decide
    obtain ⟨hP, hD⟩ := cIn_rest (wc := [(h, .inr (16, [.ref l1, .ref l2, .ref l3, .ref l4, .ref l5, .ref l6, .ref l7, .ref l8, .ref l9, .ref ch, .ref co, .int 0, .int 4, .int (-40), .int 20, .int 0, .int 0, .int 100, .int 60, .int 14])), (l5, .inr (5, [.int 0, .ref e, .int 0]))]) (wr := [(o, .inl (cO, 1, .inr (.inl f0)))]) hP hD [0, 1] [2] rfl rfl (by decide) (by decide) hk1 hFc
    generalize H1 = H at hP hS hce ⊢
    have hP : va_P D vwCl [(o, .inl (cO, 1, .inr (.inl f0)))] H := hP
    have hD : va_D A [(o, .inl (cO, 1, .inr (.inl f0)))] := hD
    refine vx_catch (name := "java/lang/IllegalArgumentException") (E := "java/lang/IllegalArgumentException") hown [] ⟨0, 10, 13, 13⟩ [⟨0, 10, 17, 15⟩] (by rw [htab]; rfl) (fun z hz => by cases hz) (by decide) (by decide) (hts (.classLink RL 13 "java/lang/IllegalArgumentException") (by decide +kernel)) (ev_u hE (w := .castable "java/lang/IllegalArgumentException" "java/lang/IllegalArgumentException") (by decide +kernel) rfl) hce hcv hcl ?_
    refine lv_astore (lv' := [(4, .ref q9), (0, .ref h), (1, .int p0), (2, .int p1), (3, .ref o)]) hx hb dL_protocol_13 hl (by decide) rfl (fun ls hl => ?_)
    refine lv_iconst (v := 1) hx hb dL_protocol_15 (by decide) ?_
    refine vx_ret ?_
    exact W.iret (v := 1) hx hb hr (fun t ht hW => ⟨⟨1, f0, rfl, ⟨(by unfold v_L_protocol; rw [if_neg c_3]), fun h => absurd h (by decide)⟩, ⟨by rw [ht]; exact hP.sub [0] rfl, va_K.moved hW.alike (hK.sub [0] rfl), hD.sub [0] (by decide) rfl⟩⟩, hS.F ht⟩) hS.2.2 dL_protocol_16
  · obtain ⟨c_2, hw⟩ := hw
    obtain ⟨hP, hD⟩ := cIn_rest (wc := [(h, .inr (16, [.ref l1, .ref l2, .ref l3, .ref l4, .ref l5, .ref l6, .ref l7, .ref l8, .ref l9, .ref ch, .ref co, .int 0, .int 4, .int (-40), .int 20, .int 0, .int 0, .int 100, .int 60, .int 14])), (l5, .inr (5, [.int 0, .ref e, .int 0]))]) (wr := [(o, .inl (cO, 1, .inr (.inl f0)))]) hP hD [0, 1] [2] rfl rfl (by decide) (by decide) hk1 hFc
    generalize H1 = H at hP hS ⊢
    have hP : va_P D vwCl [(o, .inl (cO, 1, .inr (.inl f0)))] H := hP
    have hD : va_D A [(o, .inl (cO, 1, .inr (.inl f0)))] := hD
    refine W.widen (k := 9) (n := 60) (Nat.le_of_ble_eq_true rfl) (Nat.le_of_ble_eq_true rfl) ?_
    subst hw
    refine lv_i2l (v := (v_X10_protocol p0 p1).toInt64) hx hb dL_protocol_8 rfl ?_
    refine va_last hx hb hK hP hD hS 0 0 rfl rfl (i := 0) (show ¬ ((0 : Int32) < 0 ∨ 1 ≤ (0 : Int32).toNatClampNeg) from by decide +kernel) dL_protocol_9 (fun H locs hP hD hS => ?_)
    have hP : va_P D vwCl [(o, .inl (cO, 1, .inr (.inl (vp_updL f0 (0 : Int32).toNatClampNeg ((v_X10_protocol p0 p1).toInt64)))))] H := hP
    have hD : va_D A [(o, .inl (cO, 1, .inr (.inl (vp_updL f0 (0 : Int32).toNatClampNeg ((v_X10_protocol p0 p1).toInt64)))))] := hD
    refine lv_goto (tgt := 21) hx hb dL_protocol_10 (by decide) ?_
    refine lv_iconst (v := 0) hx hb dL_protocol_21 (by decide) ?_
    refine vx_ret ?_
    exact W.iret (v := 0) hx hb hr (fun t ht hW => ⟨⟨0, ((vp_updL f0 (0 : Int32).toNatClampNeg ((v_X10_protocol p0 p1).toInt64))), rfl, ⟨(by unfold v_L_protocol; rw [if_pos c_2]), fun _ => (by unfold o_L_protocol; rw [if_pos c_2]; exact updL0)⟩, ⟨by rw [ht]; exact hP.sub [0] rfl, va_K.moved hW.alike (hK.sub [0] rfl), hD.sub [0] (by decide) rfl⟩⟩, hS.F ht⟩) hS.2.2 dL_protocol_22
-- L_module
def v_L_module (p0 : Int32) (p1 : Int32) : Int32 := if t_X10_module p0 p1 = 1 then 1 else 2
set_option maxHeartbeats 4000000 in
set_option maxRecDepth 100000 in
theorem c_L_module (l : Launch) (hst : l.stackTraces = false) (D : va_G) (e : Nat) (h : Nat) (l1 : Nat) (l2 : Nat) (l3 : Nat) (l4 : Nat) (l5 : Nat) (l6 : Nat) (l7 : Nat) (l8 : Nat) (l9 : Nat) (ch : Nat) (co : Nat) (o : Nat) (cO : ClassId) (f0 : Nat → Int64) (p0 : Int32) (p1 : Int32) (sz : Nat) : vx_Met l yL_module wsL_moduleB ({ frames := 20, cells := 3, slots := 20, locals := 460 }) (va_Pc [.ref h, .int p0, .int p1, .ref o] (cIn D [(cO, .long)] [(h, .inr (16, [.ref l1, .ref l2, .ref l3, .ref l4, .ref l5, .ref l6, .ref l7, .ref l8, .ref l9, .ref ch, .ref co, .int 0, .int 4, .int (-40), .int 20, .int 0, .int 0, .int 100, .int 60, .int 14])), (l4, .inr (5, [.int 0, .ref e, .int 0])), (l9, .inr (5, [.int 0, .ref e, .int 0])), (o, .inl (cO, 1, .inr (.inl f0)))] e sz)) (va_Qi (fun (r : Int32) (f : Nat → Int64) => r = v_L_module p0 p1) (fun (f : Nat → Int64) (t : State) => va_P D vwCl [(o, .inl (cO, 1, .inr (.inl f)))] t.heap ∧ va_K D vwCl [(cO, .long)] t ∧ va_D (va_A [(h, .inr (16, [.ref l1, .ref l2, .ref l3, .ref l4, .ref l5, .ref l6, .ref l7, .ref l8, .ref l9, .ref ch, .ref co, .int 0, .int 4, .int (-40), .int 20, .int 0, .int 0, .int 100, .int 60, .int 14])), (l4, .inr (5, [.int 0, .ref e, .int 0])), (l9, .inr (5, [.int 0, .ref e, .int 0])), (o, .inl (cO, 1, .inr (.inl f0)))] sz) [(o, .inl (cO, 1, .inr (.inl f)))]) (va_A [(h, .inr (16, [.ref l1, .ref l2, .ref l3, .ref l4, .ref l5, .ref l6, .ref l7, .ref l8, .ref l9, .ref ch, .ref co, .int 0, .int 4, .int (-40), .int 20, .int 0, .int 0, .int 100, .int 60, .int 14])), (l4, .inr (5, [.int 0, .ref e, .int 0])), (l9, .inr (5, [.int 0, .ref e, .int 0])), (o, .inl (cO, 1, .inr (.inl f0)))] sz)) (vx_X (fun _ : Unit => False) (fun (_ : String) (_ : Unit) (_ : State) => True) (va_A [(h, .inr (16, [.ref l1, .ref l2, .ref l3, .ref l4, .ref l5, .ref l6, .ref l7, .ref l8, .ref l9, .ref ch, .ref co, .int 0, .int 4, .int (-40), .int 20, .int 0, .int 0, .int 100, .int 60, .int 14])), (l4, .inr (5, [.int 0, .ref e, .int 0])), (l9, .inr (5, [.int 0, .ref e, .int 0])), (o, .inl (cO, 1, .inr (.inl f0)))] sz)) 3 20 (va_A [(h, .inr (16, [.ref l1, .ref l2, .ref l3, .ref l4, .ref l5, .ref l6, .ref l7, .ref l8, .ref l9, .ref ch, .ref co, .int 0, .int 4, .int (-40), .int 20, .int 0, .int 0, .int 100, .int 60, .int 14])), (l4, .inr (5, [.int 0, .ref e, .int 0])), (l9, .inr (5, [.int 0, .ref e, .int 0])), (o, .inl (cO, 1, .inr (.inl f0)))] sz) := by
  refine vx_ofWH (cc := cL_module) (maxL := 5) (ret := (some .int)) (by decide +kernel) rfl ?_
  intro p e9 s m args below meth c s₁ B hml hv
  obtain ⟨rfl, hsz, hP, hK, hD0, hE0⟩ := hv
  have hx := B.exec
  have hb := B.bytes
  have hr := B.returns
  have hts := atoms_spec (ws := wsL_moduleB) B.pre
  have hown : s.vm.findClass RL = some m.cls := findClass_of_methodNamed B.named
  have hlocks := B.notSynchronized
  have htab := vx_table (x := yL_module) B (hts (.codeWith yL_module cL_module 5 (some .int) [(0, 10, 13, 13), (0, 10, 17, 79), (0, 10, 21, 15)]) (show _ ∈ wsL_moduleB from List.mem_append_left _ (show _ ∈ wsL_module from List.mem_cons_self)))
  subst hsz
  have hD := hD0.self (sz := s.heap.size)
  generalize hAe : va_A [(h, .inr (16, [.ref l1, .ref l2, .ref l3, .ref l4, .ref l5, .ref l6, .ref l7, .ref l8, .ref l9, .ref ch, .ref co, .int 0, .int 4, .int (-40), .int 20, .int 0, .int 0, .int 100, .int 60, .int 14])), (l4, .inr (5, [.int 0, .ref e, .int 0])), (l9, .inr (5, [.int 0, .ref e, .int 0])), (o, .inl (cO, 1, .inr (.inl f0)))] s.heap.size = A at hD hE0 ⊢
  have hA : ∀ q : Nat, s.heap.size ≤ q → A q := fun q h => by rw [← hAe]; exact Or.inr h
  have hS : va_S A s.heap s.heap [] := va_S.rf
  have hE := hE0
  have hP : va_P D vwCl [(h, .inr (16, [.ref l1, .ref l2, .ref l3, .ref l4, .ref l5, .ref l6, .ref l7, .ref l8, .ref l9, .ref ch, .ref co, .int 0, .int 4, .int (-40), .int 20, .int 0, .int 0, .int 100, .int 60, .int 14])), (l4, .inr (5, [.int 0, .ref e, .int 0])), (l9, .inr (5, [.int 0, .ref e, .int 0])), (o, .inl (cO, 1, .inr (.inl f0)))] s.heap := hP
  have hl := lv_entry ([.ref h, .int p0, .int p1, .ref o]) (n := 5) (Nat.le_of_ble_eq_true rfl)
  rw [lg_entry_eq]
  generalize (lg_sl ([.ref h, .int p0, .int p1, .ref o]) ++ List.replicate (5 - (lg_sl ([.ref h, .int p0, .int p1, .ref o])).length) Slot.unset).toArray = ls at hl ⊢
  have hl : lv_has ls 5 [(0, .ref h), (1, .int p0), (2, .int p1), (3, .ref o)] := hl
  refine lv_aload_n hx hb dL_module_0 rfl (lv_at hl 3 rfl) ?_
  refine lv_iconst (v := 0) hx hb dL_module_1 (by decide) ?_
  refine lv_aload_n hx hb dL_module_2 rfl (lv_at hl 0 rfl) ?_
  refine lv_iload_n hx hb dL_module_3 rfl (lv_at hl 1 rfl) ?_
  refine lv_iload_n hx hb dL_module_4 rfl (lv_at hl 2 rfl) ?_
  have hFc := va_free (wc := [(h, .inr (16, [.ref l1, .ref l2, .ref l3, .ref l4, .ref l5, .ref l6, .ref l7, .ref l8, .ref l9, .ref ch, .ref co, .int 0, .int 4, .int (-40), .int 20, .int 0, .int 0, .int 100, .int 60, .int 14])), (l4, .inr (5, [.int 0, .ref e, .int 0])), (l9, .inr (5, [.int 0, .ref e, .int 0]))]) hD hS hA [0, 1, 2] rfl
  refine vx_callv (vx_runV (As := [.int p0, .int p1]) (rest := [.int 0, .ref o]) ⟨hx, hb, hml, hown, hts⟩ (c_X10_module l hst D e h l1 l2 l3 l4 l5 l6 l7 l8 l9 ch co p0 p1 s.heap.size) (cwV 2 hts (good_app gL_module_X10_module) rfl rfl rfl (by decide +kernel) ⟨Nat.le_of_ble_eq_true rfl, Nat.le_of_ble_eq_true rfl⟩) ⟨cIn_blind, va_recv hK hP (ci := 16) (q0 := 0) rfl rfl, cIn_go hK hP hD hE hS hA [0, 1, 2] rfl rfl (by decide) [] rfl⟩ rfl rfl hl.1 rfl (lv_room (Nat.le_of_ble_eq_true rfl)) dL_module_5 ⟨Nat.le_of_ble_eq_true rfl, Nat.le_of_ble_eq_true rfl⟩) hS (fun q _ h => hFc q h) hFc (fun q _ h => hFc q h) (fun E ce q9 u t H1 locs ht hvm hpx hB hz1 hk1 hS hce hcv hcl => ?_) (fun u t H1 locs ht hvm hw hB hz1 hk1 hS => ?_)
  · rcases hB with ⟨rfl, hw⟩ | ⟨rfl, hw⟩
    · obtain ⟨hP, hD⟩ := cIn_rest (wc := [(h, .inr (16, [.ref l1, .ref l2, .ref l3, .ref l4, .ref l5, .ref l6, .ref l7, .ref l8, .ref l9, .ref ch, .ref co, .int 0, .int 4, .int (-40), .int 20, .int 0, .int 0, .int 100, .int 60, .int 14])), (l4, .inr (5, [.int 0, .ref e, .int 0])), (l9, .inr (5, [.int 0, .ref e, .int 0]))]) (wr := [(o, .inl (cO, 1, .inr (.inl f0)))]) hP hD [0, 1, 2] [3] rfl rfl (by decide) (by decide) hk1 hFc
      generalize H1 = H at hP hS hce ⊢
      have hP : va_P D vwCl [(o, .inl (cO, 1, .inr (.inl f0)))] H := hP
      have hD : va_D A [(o, .inl (cO, 1, .inr (.inl f0)))] := hD
      refine vx_catch (name := "java/lang/IllegalArgumentException") (E := "java/lang/IllegalArgumentException") hown [] ⟨0, 10, 13, 13⟩ [⟨0, 10, 17, 79⟩, ⟨0, 10, 21, 15⟩] (by rw [htab]; rfl) (fun z hz => by cases hz) (by decide) (by decide) (hts (.classLink RL 13 "java/lang/IllegalArgumentException") (by decide +kernel)) (ev_u hE (w := .castable "java/lang/IllegalArgumentException" "java/lang/IllegalArgumentException") (by decide +kernel) rfl) hce hcv hcl ?_
      refine lv_astore (lv' := [(4, .ref q9), (0, .ref h), (1, .int p0), (2, .int p1), (3, .ref o)]) hx hb dL_module_13 hl (by decide) rfl (fun ls hl => ?_)
      refine lv_iconst (v := 1) hx hb dL_module_15 (by decide) ?_
      refine vx_ret ?_
      exact W.iret (v := 1) hx hb hr (fun t ht hW => ⟨⟨1, f0, rfl, (by unfold v_L_module; rw [if_pos hw]), ⟨by rw [ht]; exact hP.sub [0] rfl, va_K.moved hW.alike (hK.sub [0] rfl), hD.sub [0] (by decide) rfl⟩⟩, hS.F ht⟩) hS.2.2 dL_module_16
    · have c_5 : ¬ t_X10_module p0 p1 = 1 := by rw [hw]; decide
      obtain ⟨hP, hD⟩ := cIn_rest (wc := [(h, .inr (16, [.ref l1, .ref l2, .ref l3, .ref l4, .ref l5, .ref l6, .ref l7, .ref l8, .ref l9, .ref ch, .ref co, .int 0, .int 4, .int (-40), .int 20, .int 0, .int 0, .int 100, .int 60, .int 14])), (l4, .inr (5, [.int 0, .ref e, .int 0])), (l9, .inr (5, [.int 0, .ref e, .int 0]))]) (wr := [(o, .inl (cO, 1, .inr (.inl f0)))]) hP hD [0, 1, 2] [3] rfl rfl (by decide) (by decide) hk1 hFc
      generalize H1 = H at hP hS hce ⊢
      have hP : va_P D vwCl [(o, .inl (cO, 1, .inr (.inl f0)))] H := hP
      have hD : va_D A [(o, .inl (cO, 1, .inr (.inl f0)))] := hD
      refine vx_catch (name := "java/util/NoSuchElementException") (E := "java/util/NoSuchElementException") hown [⟨0, 10, 13, 13⟩] ⟨0, 10, 17, 79⟩ [⟨0, 10, 21, 15⟩] (by rw [htab]; rfl) (fun z hz => by rcases List.mem_singleton.mp hz with rfl; exact Or.inr ⟨by decide, "java/lang/IllegalArgumentException", hts (.classLink RL 13 "java/lang/IllegalArgumentException") (by decide +kernel), hE.2.2.1.1⟩) (by decide) (by decide) (hts (.classLink RL 79 "java/util/NoSuchElementException") (by decide +kernel)) (ev_u hE (w := .castable "java/util/NoSuchElementException" "java/util/NoSuchElementException") (by decide +kernel) rfl) hce hcv hcl ?_
      refine lv_astore (lv' := [(4, .ref q9), (0, .ref h), (1, .int p0), (2, .int p1), (3, .ref o)]) hx hb dL_module_17 hl (by decide) rfl (fun ls hl => ?_)
      refine lv_iconst (v := 2) hx hb dL_module_19 (by decide) ?_
      refine vx_ret ?_
      exact W.iret (v := 2) hx hb hr (fun t ht hW => ⟨⟨2, f0, rfl, (by unfold v_L_module; rw [if_neg c_5]), ⟨by rw [ht]; exact hP.sub [0] rfl, va_K.moved hW.alike (hK.sub [0] rfl), hD.sub [0] (by decide) rfl⟩⟩, hS.F ht⟩) hS.2.2 dL_module_20
  · exact hw.elim
-- L_freeAt
def v_L_freeAt (p0 : Int32) : Int32 := if t_X10_freeAt p0 = 0 then 0 else 1
def o_L_freeAt (p0 : Int32) : Int64 := if t_X10_freeAt p0 = 0 then ((v_X10_freeAt p0).toInt64) else 0
set_option maxHeartbeats 4000000 in
set_option maxRecDepth 100000 in
theorem c_L_freeAt (l : Launch) (hst : l.stackTraces = false) (D : va_G) (e : Nat) (h : Nat) (l1 : Nat) (l2 : Nat) (l3 : Nat) (l4 : Nat) (l5 : Nat) (l6 : Nat) (l7 : Nat) (l8 : Nat) (l9 : Nat) (ch : Nat) (co : Nat) (cI : ClassId) (o : Nat) (cO : ClassId) (f0 : Nat → Int64) (p0 : Int32) (sz : Nat) : vx_Met l yL_freeAt wsL_freeAt ({ frames := 20, cells := 1, slots := 6, locals := 460 }) (va_Pc [.ref h, .int p0, .ref o] (cIn D [(cI, .int), (cO, .long)] [(h, .inr (16, [.ref l1, .ref l2, .ref l3, .ref l4, .ref l5, .ref l6, .ref l7, .ref l8, .ref l9, .ref ch, .ref co, .int 0, .int 4, .int (-40), .int 20, .int 0, .int 0, .int 100, .int 60, .int 14])), (ch, .inl (cI, 4, .inl (fun _ => 0))), (o, .inl (cO, 1, .inr (.inl f0)))] e sz)) (va_Qi (fun (r : Int32) (f : Nat → Int64) => r = v_L_freeAt p0 ∧ (r = 0 → f 0 = o_L_freeAt p0)) (fun (f : Nat → Int64) (t : State) => va_P D vwCl [(o, .inl (cO, 1, .inr (.inl f)))] t.heap ∧ va_K D vwCl [(cO, .long)] t ∧ va_D (va_A [(h, .inr (16, [.ref l1, .ref l2, .ref l3, .ref l4, .ref l5, .ref l6, .ref l7, .ref l8, .ref l9, .ref ch, .ref co, .int 0, .int 4, .int (-40), .int 20, .int 0, .int 0, .int 100, .int 60, .int 14])), (ch, .inl (cI, 4, .inl (fun _ => 0))), (o, .inl (cO, 1, .inr (.inl f0)))] sz) [(o, .inl (cO, 1, .inr (.inl f)))]) (va_A [(h, .inr (16, [.ref l1, .ref l2, .ref l3, .ref l4, .ref l5, .ref l6, .ref l7, .ref l8, .ref l9, .ref ch, .ref co, .int 0, .int 4, .int (-40), .int 20, .int 0, .int 0, .int 100, .int 60, .int 14])), (ch, .inl (cI, 4, .inl (fun _ => 0))), (o, .inl (cO, 1, .inr (.inl f0)))] sz)) (vx_X (fun _ : Unit => False) (fun (_ : String) (_ : Unit) (_ : State) => True) (va_A [(h, .inr (16, [.ref l1, .ref l2, .ref l3, .ref l4, .ref l5, .ref l6, .ref l7, .ref l8, .ref l9, .ref ch, .ref co, .int 0, .int 4, .int (-40), .int 20, .int 0, .int 0, .int 100, .int 60, .int 14])), (ch, .inl (cI, 4, .inl (fun _ => 0))), (o, .inl (cO, 1, .inr (.inl f0)))] sz)) 1 6 (va_A [(h, .inr (16, [.ref l1, .ref l2, .ref l3, .ref l4, .ref l5, .ref l6, .ref l7, .ref l8, .ref l9, .ref ch, .ref co, .int 0, .int 4, .int (-40), .int 20, .int 0, .int 0, .int 100, .int 60, .int 14])), (ch, .inl (cI, 4, .inl (fun _ => 0))), (o, .inl (cO, 1, .inr (.inl f0)))] sz) := by
  refine vx_ofWH (cc := cL_freeAt) (maxL := 4) (ret := (some .int)) (by decide +kernel) rfl ?_
  intro p e9 s m args below meth c s₁ B hml hv
  obtain ⟨rfl, hsz, hP, hK, hD0, hE0⟩ := hv
  have hx := B.exec
  have hb := B.bytes
  have hr := B.returns
  have hts := atoms_spec (ws := wsL_freeAt) B.pre
  have hown : s.vm.findClass RL = some m.cls := findClass_of_methodNamed B.named
  have hlocks := B.notSynchronized
  have htab := vx_table (x := yL_freeAt) B (hts (.codeWith yL_freeAt cL_freeAt 4 (some .int) [(0, 9, 12, 21)]) (show _ ∈ wsL_freeAt from List.mem_cons_self))
  subst hsz
  have hD := hD0.self (sz := s.heap.size)
  generalize hAe : va_A [(h, .inr (16, [.ref l1, .ref l2, .ref l3, .ref l4, .ref l5, .ref l6, .ref l7, .ref l8, .ref l9, .ref ch, .ref co, .int 0, .int 4, .int (-40), .int 20, .int 0, .int 0, .int 100, .int 60, .int 14])), (ch, .inl (cI, 4, .inl (fun _ => 0))), (o, .inl (cO, 1, .inr (.inl f0)))] s.heap.size = A at hD hE0 ⊢
  have hA : ∀ q : Nat, s.heap.size ≤ q → A q := fun q h => by rw [← hAe]; exact Or.inr h
  have hS : va_S A s.heap s.heap [] := va_S.rf
  have hE := hE0
  have hP : va_P D vwCl [(h, .inr (16, [.ref l1, .ref l2, .ref l3, .ref l4, .ref l5, .ref l6, .ref l7, .ref l8, .ref l9, .ref ch, .ref co, .int 0, .int 4, .int (-40), .int 20, .int 0, .int 0, .int 100, .int 60, .int 14])), (ch, .inl (cI, 4, .inl (fun _ => 0))), (o, .inl (cO, 1, .inr (.inl f0)))] s.heap := hP
  have hl := lv_entry ([.ref h, .int p0, .ref o]) (n := 4) (Nat.le_of_ble_eq_true rfl)
  rw [lg_entry_eq]
  generalize (lg_sl ([.ref h, .int p0, .ref o]) ++ List.replicate (4 - (lg_sl ([.ref h, .int p0, .ref o])).length) Slot.unset).toArray = ls at hl ⊢
  have hl : lv_has ls 4 [(0, .ref h), (1, .int p0), (2, .ref o)] := hl
  refine lv_aload_n hx hb dL_freeAt_0 rfl (lv_at hl 2 rfl) ?_
  refine lv_iconst (v := 0) hx hb dL_freeAt_1 (by decide) ?_
  refine lv_aload_n hx hb dL_freeAt_2 rfl (lv_at hl 0 rfl) ?_
  refine lv_iload_n hx hb dL_freeAt_3 rfl (lv_at hl 1 rfl) ?_
  have hFc := va_free (wc := [(h, .inr (16, [.ref l1, .ref l2, .ref l3, .ref l4, .ref l5, .ref l6, .ref l7, .ref l8, .ref l9, .ref ch, .ref co, .int 0, .int 4, .int (-40), .int 20, .int 0, .int 0, .int 100, .int 60, .int 14])), (ch, .inl (cI, 4, .inl (fun _ => 0)))]) hD hS hA [0, 1] rfl
  refine vx_calli (vx_runV (As := [.int p0]) (rest := [.int 0, .ref o]) ⟨hx, hb, hml, hown, hts⟩ (c_X10_freeAt l hst D e h l1 l2 l3 l4 l5 l6 l7 l8 l9 ch co cI p0 s.heap.size) (cwV 1 hts gL_freeAt_X10_freeAt rfl rfl rfl (by decide +kernel) ⟨Nat.le_of_ble_eq_true rfl, Nat.le_of_ble_eq_true rfl⟩) ⟨cIn_blind, va_recv hK hP (ci := 16) (q0 := 0) rfl rfl, cIn_go hK hP hD hE hS hA [0, 1] rfl rfl (by decide) [0] rfl⟩ rfl rfl hl.1 rfl (lv_room (Nat.le_of_ble_eq_true rfl)) dL_freeAt_4 ⟨Nat.le_of_ble_eq_true rfl, Nat.le_of_ble_eq_true rfl⟩) hS (fun q _ h => hFc q h) hFc (fun q _ h => hFc q h) (fun E ce q9 u t H1 locs ht hvm hpx hB hz1 hk1 hS hce hcv hcl => ?_) (fun r_1 u t H1 locs ht hvm hw hB hz1 hk1 hS => ?_)
  · obtain ⟨rfl, hw⟩ := hB
    have c_3 : ¬ t_X10_freeAt p0 = 0 := by rw [hw]; decide
    obtain ⟨hP, hD⟩ := cIn_rest (wc := [(h, .inr (16, [.ref l1, .ref l2, .ref l3, .ref l4, .ref l5, .ref l6, .ref l7, .ref l8, .ref l9, .ref ch, .ref co, .int 0, .int 4, .int (-40), .int 20, .int 0, .int 0, .int 100, .int 60, .int 14])), (ch, .inl (cI, 4, .inl (fun _ => 0)))]) (wr := [(o, .inl (cO, 1, .inr (.inl f0)))]) hP hD [0, 1] [2] rfl rfl (by decide) (by decide) hk1 hFc
    generalize H1 = H at hP hS hce ⊢
    have hP : va_P D vwCl [(o, .inl (cO, 1, .inr (.inl f0)))] H := hP
    have hD : va_D A [(o, .inl (cO, 1, .inr (.inl f0)))] := hD
    refine vx_catch (name := "java/lang/IndexOutOfBoundsException") (E := "java/lang/IndexOutOfBoundsException") hown [] ⟨0, 9, 12, 21⟩ [] (by rw [htab]; rfl) (fun z hz => by cases hz) (by decide) (by decide) (hts (.classLink RL 21 "java/lang/IndexOutOfBoundsException") (by decide +kernel)) (ev_u hE (w := .castable "java/lang/IndexOutOfBoundsException" "java/lang/IndexOutOfBoundsException") (by decide +kernel) rfl) hce hcv hcl ?_
    refine lv_astore_n (lv' := [(3, .ref q9), (0, .ref h), (1, .int p0), (2, .ref o)]) hx hb dL_freeAt_12 rfl hl (by decide) rfl (fun ls hl => ?_)
    refine lv_iconst (v := 1) hx hb dL_freeAt_13 (by decide) ?_
    refine vx_ret ?_
    exact W.iret (v := 1) hx hb hr (fun t ht hW => ⟨⟨1, f0, rfl, ⟨(by unfold v_L_freeAt; rw [if_neg c_3]), fun h => absurd h (by decide)⟩, ⟨by rw [ht]; exact hP.sub [0] rfl, va_K.moved hW.alike (hK.sub [1] rfl), hD.sub [0] (by decide) rfl⟩⟩, hS.F ht⟩) hS.2.2 dL_freeAt_14
  · obtain ⟨c_2, hw⟩ := hw
    obtain ⟨hP, hD⟩ := cIn_rest (wc := [(h, .inr (16, [.ref l1, .ref l2, .ref l3, .ref l4, .ref l5, .ref l6, .ref l7, .ref l8, .ref l9, .ref ch, .ref co, .int 0, .int 4, .int (-40), .int 20, .int 0, .int 0, .int 100, .int 60, .int 14])), (ch, .inl (cI, 4, .inl (fun _ => 0)))]) (wr := [(o, .inl (cO, 1, .inr (.inl f0)))]) hP hD [0, 1] [2] rfl rfl (by decide) (by decide) hk1 hFc
    generalize H1 = H at hP hS ⊢
    have hP : va_P D vwCl [(o, .inl (cO, 1, .inr (.inl f0)))] H := hP
    have hD : va_D A [(o, .inl (cO, 1, .inr (.inl f0)))] := hD
    refine W.widen (k := 1) (n := 6) (Nat.le_of_ble_eq_true rfl) (Nat.le_of_ble_eq_true rfl) ?_
    subst hw
    refine lv_i2l (v := (v_X10_freeAt p0).toInt64) hx hb dL_freeAt_7 rfl ?_
    refine va_last hx hb hK hP hD hS 0 1 rfl rfl (i := 0) (show ¬ ((0 : Int32) < 0 ∨ 1 ≤ (0 : Int32).toNatClampNeg) from by decide +kernel) dL_freeAt_8 (fun H locs hP hD hS => ?_)
    have hP : va_P D vwCl [(o, .inl (cO, 1, .inr (.inl (vp_updL f0 (0 : Int32).toNatClampNeg ((v_X10_freeAt p0).toInt64)))))] H := hP
    have hD : va_D A [(o, .inl (cO, 1, .inr (.inl (vp_updL f0 (0 : Int32).toNatClampNeg ((v_X10_freeAt p0).toInt64)))))] := hD
    refine lv_goto (tgt := 15) hx hb dL_freeAt_9 (by decide) ?_
    refine lv_iconst (v := 0) hx hb dL_freeAt_15 (by decide) ?_
    refine vx_ret ?_
    exact W.iret (v := 0) hx hb hr (fun t ht hW => ⟨⟨0, ((vp_updL f0 (0 : Int32).toNatClampNeg ((v_X10_freeAt p0).toInt64))), rfl, ⟨(by unfold v_L_freeAt; rw [if_pos c_2]), fun _ => (by unfold o_L_freeAt; rw [if_pos c_2]; exact updL0)⟩, ⟨by rw [ht]; exact hP.sub [0] rfl, va_K.moved hW.alike (hK.sub [1] rfl), hD.sub [0] (by decide) rfl⟩⟩, hS.F ht⟩) hS.2.2 dL_freeAt_16
-- L_doubtAll
def v_L_doubtAll (p0 : Int32) (p1 : Int32) : Int32 := if t_X10_doubtAll p0 p1 = 3 then 1 else (if t_X10_doubtAll p0 p1 = 1 then 2 else 0)
def o_L_doubtAll (p0 : Int32) (p1 : Int32) : Int64 := if t_X10_doubtAll p0 p1 = 3 then 0 else (if t_X10_doubtAll p0 p1 = 1 then 0 else ((v_X10_doubtAll p0 p1).toInt64))
set_option maxHeartbeats 4000000 in
set_option maxRecDepth 100000 in
theorem c_L_doubtAll (l : Launch) (hst : l.stackTraces = false) (D : va_G) (e : Nat) (h : Nat) (l1 : Nat) (l2 : Nat) (l3 : Nat) (l4 : Nat) (l5 : Nat) (l6 : Nat) (l7 : Nat) (l8 : Nat) (l9 : Nat) (ch : Nat) (co : Nat) (o : Nat) (cO : ClassId) (f0 : Nat → Int64) (p0 : Int32) (p1 : Int32) (sz : Nat) : vx_Met l yL_doubtAll wsL_doubtAllB ({ frames := 28, cells := 6, slots := 40, locals := 700 }) (va_Pc [.ref h, .int p0, .int p1, .ref o] (cIn D [(cO, .long)] [(h, .inr (16, [.ref l1, .ref l2, .ref l3, .ref l4, .ref l5, .ref l6, .ref l7, .ref l8, .ref l9, .ref ch, .ref co, .int 0, .int 4, .int (-40), .int 20, .int 0, .int 0, .int 100, .int 60, .int 14])), (l1, .inr (5, [.int 0, .ref e, .int 0])), (l4, .inr (5, [.int 0, .ref e, .int 0])), (l8, .inr (5, [.int 0, .ref e, .int 0])), (o, .inl (cO, 1, .inr (.inl f0)))] e sz)) (va_Qi (fun (r : Int32) (f : Nat → Int64) => r = v_L_doubtAll p0 p1 ∧ (r = 0 → f 0 = o_L_doubtAll p0 p1)) (fun (f : Nat → Int64) (t : State) => va_P D vwCl [(o, .inl (cO, 1, .inr (.inl f)))] t.heap ∧ va_K D vwCl [(cO, .long)] t ∧ va_D (va_A [(h, .inr (16, [.ref l1, .ref l2, .ref l3, .ref l4, .ref l5, .ref l6, .ref l7, .ref l8, .ref l9, .ref ch, .ref co, .int 0, .int 4, .int (-40), .int 20, .int 0, .int 0, .int 100, .int 60, .int 14])), (l1, .inr (5, [.int 0, .ref e, .int 0])), (l4, .inr (5, [.int 0, .ref e, .int 0])), (l8, .inr (5, [.int 0, .ref e, .int 0])), (o, .inl (cO, 1, .inr (.inl f0)))] sz) [(o, .inl (cO, 1, .inr (.inl f)))]) (va_A [(h, .inr (16, [.ref l1, .ref l2, .ref l3, .ref l4, .ref l5, .ref l6, .ref l7, .ref l8, .ref l9, .ref ch, .ref co, .int 0, .int 4, .int (-40), .int 20, .int 0, .int 0, .int 100, .int 60, .int 14])), (l1, .inr (5, [.int 0, .ref e, .int 0])), (l4, .inr (5, [.int 0, .ref e, .int 0])), (l8, .inr (5, [.int 0, .ref e, .int 0])), (o, .inl (cO, 1, .inr (.inl f0)))] sz)) (vx_X (fun _ : Unit => False) (fun (_ : String) (_ : Unit) (_ : State) => True) (va_A [(h, .inr (16, [.ref l1, .ref l2, .ref l3, .ref l4, .ref l5, .ref l6, .ref l7, .ref l8, .ref l9, .ref ch, .ref co, .int 0, .int 4, .int (-40), .int 20, .int 0, .int 0, .int 100, .int 60, .int 14])), (l1, .inr (5, [.int 0, .ref e, .int 0])), (l4, .inr (5, [.int 0, .ref e, .int 0])), (l8, .inr (5, [.int 0, .ref e, .int 0])), (o, .inl (cO, 1, .inr (.inl f0)))] sz)) 6 40 (va_A [(h, .inr (16, [.ref l1, .ref l2, .ref l3, .ref l4, .ref l5, .ref l6, .ref l7, .ref l8, .ref l9, .ref ch, .ref co, .int 0, .int 4, .int (-40), .int 20, .int 0, .int 0, .int 100, .int 60, .int 14])), (l1, .inr (5, [.int 0, .ref e, .int 0])), (l4, .inr (5, [.int 0, .ref e, .int 0])), (l8, .inr (5, [.int 0, .ref e, .int 0])), (o, .inl (cO, 1, .inr (.inl f0)))] sz) := by
  refine vx_ofWH (cc := cL_doubtAll) (maxL := 5) (ret := (some .int)) (by decide +kernel) rfl ?_
  intro p e9 s m args below meth c s₁ B hml hv
  obtain ⟨rfl, hsz, hP, hK, hD0, hE0⟩ := hv
  have hx := B.exec
  have hb := B.bytes
  have hr := B.returns
  have hts := atoms_spec (ws := wsL_doubtAllB) B.pre
  have hown : s.vm.findClass RL = some m.cls := findClass_of_methodNamed B.named
  have hlocks := B.notSynchronized
  have htab := vx_table (x := yL_doubtAll) B (hts (.codeWith yL_doubtAll cL_doubtAll 5 (some .int) [(0, 10, 13, 21), (0, 10, 17, 13), (0, 10, 21, 15)]) (show _ ∈ wsL_doubtAllB from List.mem_append_left _ (show _ ∈ wsL_doubtAll from List.mem_cons_self)))
  subst hsz
  have hD := hD0.self (sz := s.heap.size)
  generalize hAe : va_A [(h, .inr (16, [.ref l1, .ref l2, .ref l3, .ref l4, .ref l5, .ref l6, .ref l7, .ref l8, .ref l9, .ref ch, .ref co, .int 0, .int 4, .int (-40), .int 20, .int 0, .int 0, .int 100, .int 60, .int 14])), (l1, .inr (5, [.int 0, .ref e, .int 0])), (l4, .inr (5, [.int 0, .ref e, .int 0])), (l8, .inr (5, [.int 0, .ref e, .int 0])), (o, .inl (cO, 1, .inr (.inl f0)))] s.heap.size = A at hD hE0 ⊢
  have hA : ∀ q : Nat, s.heap.size ≤ q → A q := fun q h => by rw [← hAe]; exact Or.inr h
  have hS : va_S A s.heap s.heap [] := va_S.rf
  have hE := hE0
  have hP : va_P D vwCl [(h, .inr (16, [.ref l1, .ref l2, .ref l3, .ref l4, .ref l5, .ref l6, .ref l7, .ref l8, .ref l9, .ref ch, .ref co, .int 0, .int 4, .int (-40), .int 20, .int 0, .int 0, .int 100, .int 60, .int 14])), (l1, .inr (5, [.int 0, .ref e, .int 0])), (l4, .inr (5, [.int 0, .ref e, .int 0])), (l8, .inr (5, [.int 0, .ref e, .int 0])), (o, .inl (cO, 1, .inr (.inl f0)))] s.heap := hP
  have hl := lv_entry ([.ref h, .int p0, .int p1, .ref o]) (n := 5) (Nat.le_of_ble_eq_true rfl)
  rw [lg_entry_eq]
  generalize (lg_sl ([.ref h, .int p0, .int p1, .ref o]) ++ List.replicate (5 - (lg_sl ([.ref h, .int p0, .int p1, .ref o])).length) Slot.unset).toArray = ls at hl ⊢
  have hl : lv_has ls 5 [(0, .ref h), (1, .int p0), (2, .int p1), (3, .ref o)] := hl
  refine lv_aload_n hx hb dL_doubtAll_0 rfl (lv_at hl 3 rfl) ?_
  refine lv_iconst (v := 0) hx hb dL_doubtAll_1 (by decide) ?_
  refine lv_aload_n hx hb dL_doubtAll_2 rfl (lv_at hl 0 rfl) ?_
  refine lv_iload_n hx hb dL_doubtAll_3 rfl (lv_at hl 1 rfl) ?_
  refine lv_iload_n hx hb dL_doubtAll_4 rfl (lv_at hl 2 rfl) ?_
  have hFc := va_free (wc := [(h, .inr (16, [.ref l1, .ref l2, .ref l3, .ref l4, .ref l5, .ref l6, .ref l7, .ref l8, .ref l9, .ref ch, .ref co, .int 0, .int 4, .int (-40), .int 20, .int 0, .int 0, .int 100, .int 60, .int 14])), (l1, .inr (5, [.int 0, .ref e, .int 0])), (l4, .inr (5, [.int 0, .ref e, .int 0])), (l8, .inr (5, [.int 0, .ref e, .int 0]))]) hD hS hA [0, 1, 2, 3] rfl
  refine vx_calli (vx_runV (As := [.int p0, .int p1]) (rest := [.int 0, .ref o]) ⟨hx, hb, hml, hown, hts⟩ (c_X10_doubtAll l hst D e h l1 l2 l3 l4 l5 l6 l7 l8 l9 ch co p0 p1 s.heap.size) (cwV 2 hts (good_app gL_doubtAll_X10_doubtAll) rfl rfl rfl (by decide +kernel) ⟨Nat.le_of_ble_eq_true rfl, Nat.le_of_ble_eq_true rfl⟩) ⟨cIn_blind, va_recv hK hP (ci := 16) (q0 := 0) rfl rfl, cIn_go hK hP hD hE hS hA [0, 1, 2, 3] rfl rfl (by decide) [] rfl⟩ rfl rfl hl.1 rfl (lv_room (Nat.le_of_ble_eq_true rfl)) dL_doubtAll_5 ⟨Nat.le_of_ble_eq_true rfl, Nat.le_of_ble_eq_true rfl⟩) hS (fun q _ h => hFc q h) hFc (fun q _ h => hFc q h) (fun E ce q9 u t H1 locs ht hvm hpx hB hz1 hk1 hS hce hcv hcl => ?_) (fun r_1 u t H1 locs ht hvm hw hB hz1 hk1 hS => ?_)
  · rcases hB with ⟨rfl, hw⟩ | ⟨rfl, hw⟩
    · obtain ⟨hP, hD⟩ := cIn_rest (wc := [(h, .inr (16, [.ref l1, .ref l2, .ref l3, .ref l4, .ref l5, .ref l6, .ref l7, .ref l8, .ref l9, .ref ch, .ref co, .int 0, .int 4, .int (-40), .int 20, .int 0, .int 0, .int 100, .int 60, .int 14])), (l1, .inr (5, [.int 0, .ref e, .int 0])), (l4, .inr (5, [.int 0, .ref e, .int 0])), (l8, .inr (5, [.int 0, .ref e, .int 0]))]) (wr := [(o, .inl (cO, 1, .inr (.inl f0)))]) hP hD [0, 1, 2, 3] [4] rfl rfl (by decide) (by decide) hk1 hFc
      generalize H1 = H at hP hS hce ⊢
      have hP : va_P D vwCl [(o, .inl (cO, 1, .inr (.inl f0)))] H := hP
      have hD : va_D A [(o, .inl (cO, 1, .inr (.inl f0)))] := hD
      refine vx_catch (name := "java/lang/IndexOutOfBoundsException") (E := "java/lang/IndexOutOfBoundsException") hown [] ⟨0, 10, 13, 21⟩ [⟨0, 10, 17, 13⟩, ⟨0, 10, 21, 15⟩] (by rw [htab]; rfl) (fun z hz => by cases hz) (by decide) (by decide) (hts (.classLink RL 21 "java/lang/IndexOutOfBoundsException") (by decide +kernel)) (ev_u hE (w := .castable "java/lang/IndexOutOfBoundsException" "java/lang/IndexOutOfBoundsException") (by decide +kernel) rfl) hce hcv hcl ?_
      refine lv_astore (lv' := [(4, .ref q9), (0, .ref h), (1, .int p0), (2, .int p1), (3, .ref o)]) hx hb dL_doubtAll_13 hl (by decide) rfl (fun ls hl => ?_)
      refine lv_iconst (v := 1) hx hb dL_doubtAll_15 (by decide) ?_
      refine vx_ret ?_
      exact W.iret (v := 1) hx hb hr (fun t ht hW => ⟨⟨1, f0, rfl, ⟨(by unfold v_L_doubtAll; rw [if_pos hw]), fun h => absurd h (by decide)⟩, ⟨by rw [ht]; exact hP.sub [0] rfl, va_K.moved hW.alike (hK.sub [0] rfl), hD.sub [0] (by decide) rfl⟩⟩, hS.F ht⟩) hS.2.2 dL_doubtAll_16
    · have c_5 : ¬ t_X10_doubtAll p0 p1 = 3 := by rw [hw]; decide
      obtain ⟨hP, hD⟩ := cIn_rest (wc := [(h, .inr (16, [.ref l1, .ref l2, .ref l3, .ref l4, .ref l5, .ref l6, .ref l7, .ref l8, .ref l9, .ref ch, .ref co, .int 0, .int 4, .int (-40), .int 20, .int 0, .int 0, .int 100, .int 60, .int 14])), (l1, .inr (5, [.int 0, .ref e, .int 0])), (l4, .inr (5, [.int 0, .ref e, .int 0])), (l8, .inr (5, [.int 0, .ref e, .int 0]))]) (wr := [(o, .inl (cO, 1, .inr (.inl f0)))]) hP hD [0, 1, 2, 3] [4] rfl rfl (by decide) (by decide) hk1 hFc
      generalize H1 = H at hP hS hce ⊢
      have hP : va_P D vwCl [(o, .inl (cO, 1, .inr (.inl f0)))] H := hP
      have hD : va_D A [(o, .inl (cO, 1, .inr (.inl f0)))] := hD
      refine vx_catch (name := "java/lang/IllegalArgumentException") (E := "java/lang/IllegalArgumentException") hown [⟨0, 10, 13, 21⟩] ⟨0, 10, 17, 13⟩ [⟨0, 10, 21, 15⟩] (by rw [htab]; rfl) (fun z hz => by rcases List.mem_singleton.mp hz with rfl; exact Or.inr ⟨by decide, "java/lang/IndexOutOfBoundsException", hts (.classLink RL 21 "java/lang/IndexOutOfBoundsException") (by decide +kernel), hE.2.2.1.2⟩) (by decide) (by decide) (hts (.classLink RL 13 "java/lang/IllegalArgumentException") (by decide +kernel)) (ev_u hE (w := .castable "java/lang/IllegalArgumentException" "java/lang/IllegalArgumentException") (by decide +kernel) rfl) hce hcv hcl ?_
      refine lv_astore (lv' := [(4, .ref q9), (0, .ref h), (1, .int p0), (2, .int p1), (3, .ref o)]) hx hb dL_doubtAll_17 hl (by decide) rfl (fun ls hl => ?_)
      refine lv_iconst (v := 2) hx hb dL_doubtAll_19 (by decide) ?_
      refine vx_ret ?_
      exact W.iret (v := 2) hx hb hr (fun t ht hW => ⟨⟨2, f0, rfl, ⟨(by unfold v_L_doubtAll; rw [if_neg c_5, if_pos hw]), fun h => absurd h (by decide)⟩, ⟨by rw [ht]; exact hP.sub [0] rfl, va_K.moved hW.alike (hK.sub [0] rfl), hD.sub [0] (by decide) rfl⟩⟩, hS.F ht⟩) hS.2.2 dL_doubtAll_20
  · obtain ⟨c_2, hw⟩ := hw
    have c_6 : ¬ t_X10_doubtAll p0 p1 = 3 := by rw [c_2]; decide
    have c_7 : ¬ t_X10_doubtAll p0 p1 = 1 := by rw [c_2]; decide
    obtain ⟨hP, hD⟩ := cIn_rest (wc := [(h, .inr (16, [.ref l1, .ref l2, .ref l3, .ref l4, .ref l5, .ref l6, .ref l7, .ref l8, .ref l9, .ref ch, .ref co, .int 0, .int 4, .int (-40), .int 20, .int 0, .int 0, .int 100, .int 60, .int 14])), (l1, .inr (5, [.int 0, .ref e, .int 0])), (l4, .inr (5, [.int 0, .ref e, .int 0])), (l8, .inr (5, [.int 0, .ref e, .int 0]))]) (wr := [(o, .inl (cO, 1, .inr (.inl f0)))]) hP hD [0, 1, 2, 3] [4] rfl rfl (by decide) (by decide) hk1 hFc
    generalize H1 = H at hP hS ⊢
    have hP : va_P D vwCl [(o, .inl (cO, 1, .inr (.inl f0)))] H := hP
    have hD : va_D A [(o, .inl (cO, 1, .inr (.inl f0)))] := hD
    refine W.widen (k := 6) (n := 40) (Nat.le_of_ble_eq_true rfl) (Nat.le_of_ble_eq_true rfl) ?_
    subst hw
    refine lv_i2l (v := (v_X10_doubtAll p0 p1).toInt64) hx hb dL_doubtAll_8 rfl ?_
    refine va_last hx hb hK hP hD hS 0 0 rfl rfl (i := 0) (show ¬ ((0 : Int32) < 0 ∨ 1 ≤ (0 : Int32).toNatClampNeg) from by decide +kernel) dL_doubtAll_9 (fun H locs hP hD hS => ?_)
    have hP : va_P D vwCl [(o, .inl (cO, 1, .inr (.inl (vp_updL f0 (0 : Int32).toNatClampNeg ((v_X10_doubtAll p0 p1).toInt64)))))] H := hP
    have hD : va_D A [(o, .inl (cO, 1, .inr (.inl (vp_updL f0 (0 : Int32).toNatClampNeg ((v_X10_doubtAll p0 p1).toInt64)))))] := hD
    refine lv_goto (tgt := 25) hx hb dL_doubtAll_10 (by decide) ?_
    refine lv_iconst (v := 0) hx hb dL_doubtAll_25 (by decide) ?_
    refine vx_ret ?_
    exact W.iret (v := 0) hx hb hr (fun t ht hW => ⟨⟨0, ((vp_updL f0 (0 : Int32).toNatClampNeg ((v_X10_doubtAll p0 p1).toInt64))), rfl, ⟨(by unfold v_L_doubtAll; rw [if_neg c_6, if_neg c_7]), fun _ => (by unfold o_L_doubtAll; rw [if_neg c_6, if_neg c_7]; exact updL0)⟩, ⟨by rw [ht]; exact hP.sub [0] rfl, va_K.moved hW.alike (hK.sub [0] rfl), hD.sub [0] (by decide) rfl⟩⟩, hS.F ht⟩) hS.2.2 dL_doubtAll_26
