-- L_left
def v_L_left (p0 : Int32) : Int32 := 1
set_option maxHeartbeats 4000000 in
set_option maxRecDepth 100000 in
theorem c_L_left (l : Launch) (hst : l.stackTraces = false) (D : va_G) (e : Nat) (h : Nat) (l1 : Nat) (l2 : Nat) (l3 : Nat) (l4 : Nat) (l5 : Nat) (l6 : Nat) (l7 : Nat) (l8 : Nat) (l9 : Nat) (ch : Nat) (co : Nat) (o : Nat) (cO : ClassId) (f0 : Nat → Int64) (p0 : Int32) (sz : Nat) : vx_Met l yL_left wsL_left ({ frames := 18, cells := 1, slots := 6, locals := 400 }) (va_Pc [.ref h, .int p0, .ref o] (cIn D [(cO, .long)] [(h, .inr (16, [.ref l1, .ref l2, .ref l3, .ref l4, .ref l5, .ref l6, .ref l7, .ref l8, .ref l9, .ref ch, .ref co, .int 0, .int 4, .int (-40), .int 20, .int 0, .int 0, .int 100, .int 60, .int 14])), (l1, .inr (5, [.int 0, .ref e, .int 0])), (o, .inl (cO, 1, .inr (.inl f0)))] e sz)) (va_Qi (fun (r : Int32) (f : Nat → Int64) => r = v_L_left p0) (fun (f : Nat → Int64) (t : State) => va_P D vwCl [(o, .inl (cO, 1, .inr (.inl f)))] t.heap ∧ va_K D vwCl [(cO, .long)] t ∧ va_D (va_A [(h, .inr (16, [.ref l1, .ref l2, .ref l3, .ref l4, .ref l5, .ref l6, .ref l7, .ref l8, .ref l9, .ref ch, .ref co, .int 0, .int 4, .int (-40), .int 20, .int 0, .int 0, .int 100, .int 60, .int 14])), (l1, .inr (5, [.int 0, .ref e, .int 0])), (o, .inl (cO, 1, .inr (.inl f0)))] sz) [(o, .inl (cO, 1, .inr (.inl f)))]) (va_A [(h, .inr (16, [.ref l1, .ref l2, .ref l3, .ref l4, .ref l5, .ref l6, .ref l7, .ref l8, .ref l9, .ref ch, .ref co, .int 0, .int 4, .int (-40), .int 20, .int 0, .int 0, .int 100, .int 60, .int 14])), (l1, .inr (5, [.int 0, .ref e, .int 0])), (o, .inl (cO, 1, .inr (.inl f0)))] sz)) (vx_X (fun _ : Unit => False) (fun (_ : String) (_ : Unit) (_ : State) => True) (va_A [(h, .inr (16, [.ref l1, .ref l2, .ref l3, .ref l4, .ref l5, .ref l6, .ref l7, .ref l8, .ref l9, .ref ch, .ref co, .int 0, .int 4, .int (-40), .int 20, .int 0, .int 0, .int 100, .int 60, .int 14])), (l1, .inr (5, [.int 0, .ref e, .int 0])), (o, .inl (cO, 1, .inr (.inl f0)))] sz)) 1 6 (va_A [(h, .inr (16, [.ref l1, .ref l2, .ref l3, .ref l4, .ref l5, .ref l6, .ref l7, .ref l8, .ref l9, .ref ch, .ref co, .int 0, .int 4, .int (-40), .int 20, .int 0, .int 0, .int 100, .int 60, .int 14])), (l1, .inr (5, [.int 0, .ref e, .int 0])), (o, .inl (cO, 1, .inr (.inl f0)))] sz) := by
  refine vx_ofWH (cc := cL_left) (maxL := 4) (ret := (some .int)) (by decide +kernel) rfl ?_
  intro p e9 s m args below meth c s₁ B hml hv
  obtain ⟨rfl, hsz, hP, hK, hD0, hE0⟩ := hv
  have hx := B.exec
  have hb := B.bytes
  have hr := B.returns
  have hts := atoms_spec (ws := wsL_left) B.pre
  have hown : s.vm.findClass RL = some m.cls := findClass_of_methodNamed B.named
  have hlocks := B.notSynchronized
  have htab := vx_table (x := yL_left) B (hts (.codeWith yL_left cL_left 4 (some .int) [(0, 9, 12, 21)]) (show _ ∈ wsL_left from List.mem_cons_self))
  subst hsz
  have hD := hD0.self (sz := s.heap.size)
  generalize hAe : va_A [(h, .inr (16, [.ref l1, .ref l2, .ref l3, .ref l4, .ref l5, .ref l6, .ref l7, .ref l8, .ref l9, .ref ch, .ref co, .int 0, .int 4, .int (-40), .int 20, .int 0, .int 0, .int 100, .int 60, .int 14])), (l1, .inr (5, [.int 0, .ref e, .int 0])), (o, .inl (cO, 1, .inr (.inl f0)))] s.heap.size = A at hD hE0 ⊢
  have hA : ∀ q : Nat, s.heap.size ≤ q → A q := fun q h => by rw [← hAe]; exact Or.inr h
  have hS : va_S A s.heap s.heap [] := va_S.rf
  have hE := hE0
  have hP : va_P D vwCl [(h, .inr (16, [.ref l1, .ref l2, .ref l3, .ref l4, .ref l5, .ref l6, .ref l7, .ref l8, .ref l9, .ref ch, .ref co, .int 0, .int 4, .int (-40), .int 20, .int 0, .int 0, .int 100, .int 60, .int 14])), (l1, .inr (5, [.int 0, .ref e, .int 0])), (o, .inl (cO, 1, .inr (.inl f0)))] s.heap := hP
  have hl := lv_entry ([.ref h, .int p0, .ref o]) (n := 4) (Nat.le_of_ble_eq_true rfl)
  rw [lg_entry_eq]
  generalize (lg_sl ([.ref h, .int p0, .ref o]) ++ List.replicate (4 - (lg_sl ([.ref h, .int p0, .ref o])).length) Slot.unset).toArray = ls at hl ⊢
  have hl : lv_has ls 4 [(0, .ref h), (1, .int p0), (2, .ref o)] := hl
  refine lv_aload_n hx hb dL_left_0 rfl (lv_at hl 2 rfl) ?_
  refine lv_iconst (v := 0) hx hb dL_left_1 (by decide) ?_
  refine lv_aload_n hx hb dL_left_2 rfl (lv_at hl 0 rfl) ?_
  refine lv_iload_n hx hb dL_left_3 rfl (lv_at hl 1 rfl) ?_
  have hFc := va_free (wc := [(h, .inr (16, [.ref l1, .ref l2, .ref l3, .ref l4, .ref l5, .ref l6, .ref l7, .ref l8, .ref l9, .ref ch, .ref co, .int 0, .int 4, .int (-40), .int 20, .int 0, .int 0, .int 100, .int 60, .int 14])), (l1, .inr (5, [.int 0, .ref e, .int 0]))]) hD hS hA [0, 1] rfl
  refine vx_callv (vx_runV (As := [.int p0]) (rest := [.int 0, .ref o]) ⟨hx, hb, hml, hown, hts⟩ (c_X10_left l hst D e h l1 l2 l3 l4 l5 l6 l7 l8 l9 ch co p0 s.heap.size) (cwV 1 hts gL_left_X10_left rfl rfl rfl (by decide +kernel) ⟨Nat.le_of_ble_eq_true rfl, Nat.le_of_ble_eq_true rfl⟩) ⟨cIn_blind, va_recv hK hP (ci := 16) (q0 := 0) rfl rfl, cIn_go hK hP hD hE hS hA [0, 1] rfl rfl (by decide) [] rfl⟩ rfl rfl hl.1 rfl (lv_room (Nat.le_of_ble_eq_true rfl)) dL_left_4 ⟨Nat.le_of_ble_eq_true rfl, Nat.le_of_ble_eq_true rfl⟩) hS (fun q _ h => hFc q h) hFc (fun q _ h => hFc q h) (fun E ce q9 u t H1 locs ht hvm hpx hB hz1 hk1 hS hce hcv hcl => ?_) (fun u t H1 locs ht hvm hw hB hz1 hk1 hS => ?_)
  · obtain ⟨rfl, hw⟩ := hB
    obtain ⟨hP, hD⟩ := cIn_rest (wc := [(h, .inr (16, [.ref l1, .ref l2, .ref l3, .ref l4, .ref l5, .ref l6, .ref l7, .ref l8, .ref l9, .ref ch, .ref co, .int 0, .int 4, .int (-40), .int 20, .int 0, .int 0, .int 100, .int 60, .int 14])), (l1, .inr (5, [.int 0, .ref e, .int 0]))]) (wr := [(o, .inl (cO, 1, .inr (.inl f0)))]) hP hD [0, 1] [2] rfl rfl (by decide) (by decide) hk1 hFc
    generalize H1 = H at hP hS hce ⊢
    have hP : va_P D vwCl [(o, .inl (cO, 1, .inr (.inl f0)))] H := hP
    have hD : va_D A [(o, .inl (cO, 1, .inr (.inl f0)))] := hD
    refine vx_catch (name := "java/lang/IndexOutOfBoundsException") (E := "java/lang/IndexOutOfBoundsException") hown [] ⟨0, 9, 12, 21⟩ [] (by rw [htab]; rfl) (fun z hz => by cases hz) (by decide) (by decide) (hts (.classLink RL 21 "java/lang/IndexOutOfBoundsException") (by decide +kernel)) (ev_u hE (w := .castable "java/lang/IndexOutOfBoundsException" "java/lang/IndexOutOfBoundsException") (by decide +kernel) rfl) hce hcv hcl ?_
    refine lv_astore_n (lv' := [(3, .ref q9), (0, .ref h), (1, .int p0), (2, .ref o)]) hx hb dL_left_12 rfl hl (by decide) rfl (fun ls hl => ?_)
    refine lv_iconst (v := 1) hx hb dL_left_13 (by decide) ?_
    refine vx_ret ?_
    exact W.iret (v := 1) hx hb hr (fun t ht hW => ⟨⟨1, f0, rfl, rfl, ⟨by rw [ht]; exact hP.sub [0] rfl, va_K.moved hW.alike (hK.sub [0] rfl), hD.sub [0] (by decide) rfl⟩⟩, hS.F ht⟩) hS.2.2 dL_left_14
  · exact hw.elim
-- L_drift
def v_L_drift (p0 : Int32) : Int32 := if t_X10_drift p0 = 0 then 0 else 1
def o_L_drift (p0 : Int32) : Int64 := if t_X10_drift p0 = 0 then ((v_X10_drift p0).toInt64) else 0
set_option maxHeartbeats 4000000 in
set_option maxRecDepth 100000 in
theorem c_L_drift (l : Launch) (hst : l.stackTraces = false) (D : va_G) (e : Nat) (h : Nat) (l1 : Nat) (l2 : Nat) (l3 : Nat) (l4 : Nat) (l5 : Nat) (l6 : Nat) (l7 : Nat) (l8 : Nat) (l9 : Nat) (ch : Nat) (co : Nat) (o : Nat) (cO : ClassId) (f0 : Nat → Int64) (p0 : Int32) (sz : Nat) : vx_Met l yL_drift wsL_drift ({ frames := 16, cells := 1, slots := 6, locals := 340 }) (va_Pc [.ref h, .int p0, .ref o] (cIn D [(cO, .long)] [(h, .inr (16, [.ref l1, .ref l2, .ref l3, .ref l4, .ref l5, .ref l6, .ref l7, .ref l8, .ref l9, .ref ch, .ref co, .int 0, .int 4, .int (-40), .int 20, .int 0, .int 0, .int 100, .int 60, .int 14])), (co, .inr (8, [.int 0, .int 0])), (o, .inl (cO, 1, .inr (.inl f0)))] e sz)) (va_Qi (fun (r : Int32) (f : Nat → Int64) => r = v_L_drift p0 ∧ (r = 0 → f 0 = o_L_drift p0)) (fun (f : Nat → Int64) (t : State) => va_P D vwCl [(o, .inl (cO, 1, .inr (.inl f)))] t.heap ∧ va_K D vwCl [(cO, .long)] t ∧ va_D (va_A [(h, .inr (16, [.ref l1, .ref l2, .ref l3, .ref l4, .ref l5, .ref l6, .ref l7, .ref l8, .ref l9, .ref ch, .ref co, .int 0, .int 4, .int (-40), .int 20, .int 0, .int 0, .int 100, .int 60, .int 14])), (co, .inr (8, [.int 0, .int 0])), (o, .inl (cO, 1, .inr (.inl f0)))] sz) [(o, .inl (cO, 1, .inr (.inl f)))]) (va_A [(h, .inr (16, [.ref l1, .ref l2, .ref l3, .ref l4, .ref l5, .ref l6, .ref l7, .ref l8, .ref l9, .ref ch, .ref co, .int 0, .int 4, .int (-40), .int 20, .int 0, .int 0, .int 100, .int 60, .int 14])), (co, .inr (8, [.int 0, .int 0])), (o, .inl (cO, 1, .inr (.inl f0)))] sz)) (vx_X (fun _ : Unit => False) (fun (_ : String) (_ : Unit) (_ : State) => True) (va_A [(h, .inr (16, [.ref l1, .ref l2, .ref l3, .ref l4, .ref l5, .ref l6, .ref l7, .ref l8, .ref l9, .ref ch, .ref co, .int 0, .int 4, .int (-40), .int 20, .int 0, .int 0, .int 100, .int 60, .int 14])), (co, .inr (8, [.int 0, .int 0])), (o, .inl (cO, 1, .inr (.inl f0)))] sz)) 1 6 (va_A [(h, .inr (16, [.ref l1, .ref l2, .ref l3, .ref l4, .ref l5, .ref l6, .ref l7, .ref l8, .ref l9, .ref ch, .ref co, .int 0, .int 4, .int (-40), .int 20, .int 0, .int 0, .int 100, .int 60, .int 14])), (co, .inr (8, [.int 0, .int 0])), (o, .inl (cO, 1, .inr (.inl f0)))] sz) := by
  refine vx_ofWH (cc := cL_drift) (maxL := 4) (ret := (some .int)) (by decide +kernel) rfl ?_
  intro p e9 s m args below meth c s₁ B hml hv
  obtain ⟨rfl, hsz, hP, hK, hD0, hE0⟩ := hv
  have hx := B.exec
  have hb := B.bytes
  have hr := B.returns
  have hts := atoms_spec (ws := wsL_drift) B.pre
  have hown : s.vm.findClass RL = some m.cls := findClass_of_methodNamed B.named
  have hlocks := B.notSynchronized
  have htab := vx_table (x := yL_drift) B (hts (.codeWith yL_drift cL_drift 4 (some .int) [(0, 9, 12, 13)]) (show _ ∈ wsL_drift from List.mem_cons_self))
  subst hsz
  have hD := hD0.self (sz := s.heap.size)
  generalize hAe : va_A [(h, .inr (16, [.ref l1, .ref l2, .ref l3, .ref l4, .ref l5, .ref l6, .ref l7, .ref l8, .ref l9, .ref ch, .ref co, .int 0, .int 4, .int (-40), .int 20, .int 0, .int 0, .int 100, .int 60, .int 14])), (co, .inr (8, [.int 0, .int 0])), (o, .inl (cO, 1, .inr (.inl f0)))] s.heap.size = A at hD hE0 ⊢
  have hA : ∀ q : Nat, s.heap.size ≤ q → A q := fun q h => by rw [← hAe]; exact Or.inr h
  have hS : va_S A s.heap s.heap [] := va_S.rf
  have hE := hE0
  have hP : va_P D vwCl [(h, .inr (16, [.ref l1, .ref l2, .ref l3, .ref l4, .ref l5, .ref l6, .ref l7, .ref l8, .ref l9, .ref ch, .ref co, .int 0, .int 4, .int (-40), .int 20, .int 0, .int 0, .int 100, .int 60, .int 14])), (co, .inr (8, [.int 0, .int 0])), (o, .inl (cO, 1, .inr (.inl f0)))] s.heap := hP
  have hl := lv_entry ([.ref h, .int p0, .ref o]) (n := 4) (Nat.le_of_ble_eq_true rfl)
  rw [lg_entry_eq]
  generalize (lg_sl ([.ref h, .int p0, .ref o]) ++ List.replicate (4 - (lg_sl ([.ref h, .int p0, .ref o])).length) Slot.unset).toArray = ls at hl ⊢
  have hl : lv_has ls 4 [(0, .ref h), (1, .int p0), (2, .ref o)] := hl
  refine lv_aload_n hx hb dL_drift_0 rfl (lv_at hl 2 rfl) ?_
  refine lv_iconst (v := 0) hx hb dL_drift_1 (by decide) ?_
  refine lv_aload_n hx hb dL_drift_2 rfl (lv_at hl 0 rfl) ?_
  refine lv_iload_n hx hb dL_drift_3 rfl (lv_at hl 1 rfl) ?_
  have hFc := va_free (wc := [(h, .inr (16, [.ref l1, .ref l2, .ref l3, .ref l4, .ref l5, .ref l6, .ref l7, .ref l8, .ref l9, .ref ch, .ref co, .int 0, .int 4, .int (-40), .int 20, .int 0, .int 0, .int 100, .int 60, .int 14])), (co, .inr (8, [.int 0, .int 0]))]) hD hS hA [0, 1] rfl
  refine vx_calli (vx_runV (As := [.int p0]) (rest := [.int 0, .ref o]) ⟨hx, hb, hml, hown, hts⟩ (c_X10_drift l hst D e h l1 l2 l3 l4 l5 l6 l7 l8 l9 ch co p0 s.heap.size) (cwV 1 hts gL_drift_X10_drift rfl rfl rfl (by decide +kernel) ⟨Nat.le_of_ble_eq_true rfl, Nat.le_of_ble_eq_true rfl⟩) ⟨cIn_blind, va_recv hK hP (ci := 16) (q0 := 0) rfl rfl, cIn_go hK hP hD hE hS hA [0, 1] rfl rfl (by decide) [] rfl⟩ rfl rfl hl.1 rfl (lv_room (Nat.le_of_ble_eq_true rfl)) dL_drift_4 ⟨Nat.le_of_ble_eq_true rfl, Nat.le_of_ble_eq_true rfl⟩) hS (fun q _ h => hFc q h) hFc (fun q _ h => hFc q h) (fun E ce q9 u t H1 locs ht hvm hpx hB hz1 hk1 hS hce hcv hcl => ?_) (fun r_1 u t H1 locs ht hvm hw hB hz1 hk1 hS => ?_)
  · obtain ⟨rfl, hw⟩ := hB
    have c_3 : ¬ t_X10_drift p0 = 0 := by rw [hw]; decide
    obtain ⟨hP, hD⟩ := cIn_rest (wc := [(h, .inr (16, [.ref l1, .ref l2, .ref l3, .ref l4, .ref l5, .ref l6, .ref l7, .ref l8, .ref l9, .ref ch, .ref co, .int 0, .int 4, .int (-40), .int 20, .int 0, .int 0, .int 100, .int 60, .int 14])), (co, .inr (8, [.int 0, .int 0]))]) (wr := [(o, .inl (cO, 1, .inr (.inl f0)))]) hP hD [0, 1] [2] rfl rfl (by decide) (by decide) hk1 hFc
    generalize H1 = H at hP hS hce ⊢
    have hP : va_P D vwCl [(o, .inl (cO, 1, .inr (.inl f0)))] H := hP
    have hD : va_D A [(o, .inl (cO, 1, .inr (.inl f0)))] := hD
    refine vx_catch (name := "java/lang/IllegalArgumentException") (E := "java/lang/IllegalArgumentException") hown [] ⟨0, 9, 12, 13⟩ [] (by rw [htab]; rfl) (fun z hz => by cases hz) (by decide) (by decide) (hts (.classLink RL 13 "java/lang/IllegalArgumentException") (by decide +kernel)) (ev_u hE (w := .castable "java/lang/IllegalArgumentException" "java/lang/IllegalArgumentException") (by decide +kernel) rfl) hce hcv hcl ?_
    refine lv_astore_n (lv' := [(3, .ref q9), (0, .ref h), (1, .int p0), (2, .ref o)]) hx hb dL_drift_12 rfl hl (by decide) rfl (fun ls hl => ?_)
    refine lv_iconst (v := 1) hx hb dL_drift_13 (by decide) ?_
    refine vx_ret ?_
    exact W.iret (v := 1) hx hb hr (fun t ht hW => ⟨⟨1, f0, rfl, ⟨(by unfold v_L_drift; rw [if_neg c_3]), fun h => absurd h (by decide)⟩, ⟨by rw [ht]; exact hP.sub [0] rfl, va_K.moved hW.alike (hK.sub [0] rfl), hD.sub [0] (by decide) rfl⟩⟩, hS.F ht⟩) hS.2.2 dL_drift_14
  · obtain ⟨c_2, hw⟩ := hw
    obtain ⟨hP, hD⟩ := cIn_rest (wc := [(h, .inr (16, [.ref l1, .ref l2, .ref l3, .ref l4, .ref l5, .ref l6, .ref l7, .ref l8, .ref l9, .ref ch, .ref co, .int 0, .int 4, .int (-40), .int 20, .int 0, .int 0, .int 100, .int 60, .int 14])), (co, .inr (8, [.int 0, .int 0]))]) (wr := [(o, .inl (cO, 1, .inr (.inl f0)))]) hP hD [0, 1] [2] rfl rfl (by decide) (by decide) hk1 hFc
    generalize H1 = H at hP hS ⊢
    have hP : va_P D vwCl [(o, .inl (cO, 1, .inr (.inl f0)))] H := hP
    have hD : va_D A [(o, .inl (cO, 1, .inr (.inl f0)))] := hD
    refine W.widen (k := 1) (n := 6) (Nat.le_of_ble_eq_true rfl) (Nat.le_of_ble_eq_true rfl) ?_
    subst hw
    refine lv_i2l (v := (v_X10_drift p0).toInt64) hx hb dL_drift_7 rfl ?_
    refine va_last hx hb hK hP hD hS 0 0 rfl rfl (i := 0) (show ¬ ((0 : Int32) < 0 ∨ 1 ≤ (0 : Int32).toNatClampNeg) from by decide +kernel) dL_drift_8 (fun H locs hP hD hS => ?_)
    have hP : va_P D vwCl [(o, .inl (cO, 1, .inr (.inl (vp_updL f0 (0 : Int32).toNatClampNeg ((v_X10_drift p0).toInt64)))))] H := hP
    have hD : va_D A [(o, .inl (cO, 1, .inr (.inl (vp_updL f0 (0 : Int32).toNatClampNeg ((v_X10_drift p0).toInt64)))))] := hD
    refine lv_goto (tgt := 15) hx hb dL_drift_9 (by decide) ?_
    refine lv_iconst (v := 0) hx hb dL_drift_15 (by decide) ?_
    refine vx_ret ?_
    exact W.iret (v := 0) hx hb hr (fun t ht hW => ⟨⟨0, ((vp_updL f0 (0 : Int32).toNatClampNeg ((v_X10_drift p0).toInt64))), rfl, ⟨(by unfold v_L_drift; rw [if_pos c_2]), fun _ => (by unfold o_L_drift; rw [if_pos c_2]; exact updL0)⟩, ⟨by rw [ht]; exact hP.sub [0] rfl, va_K.moved hW.alike (hK.sub [0] rfl), hD.sub [0] (by decide) rfl⟩⟩, hS.F ht⟩) hS.2.2 dL_drift_16
-- L_coat
def v_L_coat (p0 : Int32) (p1 : Int32) (p2 : Int32) : Int32 := 1
set_option maxHeartbeats 4000000 in
set_option maxRecDepth 100000 in
theorem c_L_coat (l : Launch) (hst : l.stackTraces = false) (D : va_G) (e : Nat) (h : Nat) (l1 : Nat) (l2 : Nat) (l3 : Nat) (l4 : Nat) (l5 : Nat) (l6 : Nat) (l7 : Nat) (l8 : Nat) (l9 : Nat) (ch : Nat) (co : Nat) (o : Nat) (cO : ClassId) (f0 : Nat → Int64) (p0 : Int32) (p1 : Int32) (p2 : Int32) (sz : Nat) : vx_Met l yL_coat wsL_coat ({ frames := 18, cells := 1, slots := 6, locals := 400 }) (va_Pc [.ref h, .int p0, .int p1, .int p2, .ref o] (cIn D [(cO, .long)] [(h, .inr (16, [.ref l1, .ref l2, .ref l3, .ref l4, .ref l5, .ref l6, .ref l7, .ref l8, .ref l9, .ref ch, .ref co, .int 0, .int 4, .int (-40), .int 20, .int 0, .int 0, .int 100, .int 60, .int 14])), (l1, .inr (5, [.int 0, .ref e, .int 0])), (o, .inl (cO, 1, .inr (.inl f0)))] e sz)) (va_Qi (fun (r : Int32) (f : Nat → Int64) => r = v_L_coat p0 p1 p2) (fun (f : Nat → Int64) (t : State) => va_P D vwCl [(o, .inl (cO, 1, .inr (.inl f)))] t.heap ∧ va_K D vwCl [(cO, .long)] t ∧ va_D (va_A [(h, .inr (16, [.ref l1, .ref l2, .ref l3, .ref l4, .ref l5, .ref l6, .ref l7, .ref l8, .ref l9, .ref ch, .ref co, .int 0, .int 4, .int (-40), .int 20, .int 0, .int 0, .int 100, .int 60, .int 14])), (l1, .inr (5, [.int 0, .ref e, .int 0])), (o, .inl (cO, 1, .inr (.inl f0)))] sz) [(o, .inl (cO, 1, .inr (.inl f)))]) (va_A [(h, .inr (16, [.ref l1, .ref l2, .ref l3, .ref l4, .ref l5, .ref l6, .ref l7, .ref l8, .ref l9, .ref ch, .ref co, .int 0, .int 4, .int (-40), .int 20, .int 0, .int 0, .int 100, .int 60, .int 14])), (l1, .inr (5, [.int 0, .ref e, .int 0])), (o, .inl (cO, 1, .inr (.inl f0)))] sz)) (vx_X (fun _ : Unit => False) (fun (_ : String) (_ : Unit) (_ : State) => True) (va_A [(h, .inr (16, [.ref l1, .ref l2, .ref l3, .ref l4, .ref l5, .ref l6, .ref l7, .ref l8, .ref l9, .ref ch, .ref co, .int 0, .int 4, .int (-40), .int 20, .int 0, .int 0, .int 100, .int 60, .int 14])), (l1, .inr (5, [.int 0, .ref e, .int 0])), (o, .inl (cO, 1, .inr (.inl f0)))] sz)) 1 6 (va_A [(h, .inr (16, [.ref l1, .ref l2, .ref l3, .ref l4, .ref l5, .ref l6, .ref l7, .ref l8, .ref l9, .ref ch, .ref co, .int 0, .int 4, .int (-40), .int 20, .int 0, .int 0, .int 100, .int 60, .int 14])), (l1, .inr (5, [.int 0, .ref e, .int 0])), (o, .inl (cO, 1, .inr (.inl f0)))] sz) := by
  refine vx_ofWH (cc := cL_coat) (maxL := 6) (ret := (some .int)) (by decide +kernel) rfl ?_
  intro p e9 s m args below meth c s₁ B hml hv
  obtain ⟨rfl, hsz, hP, hK, hD0, hE0⟩ := hv
  have hx := B.exec
  have hb := B.bytes
  have hr := B.returns
  have hts := atoms_spec (ws := wsL_coat) B.pre
  have hown : s.vm.findClass RL = some m.cls := findClass_of_methodNamed B.named
  have hlocks := B.notSynchronized
  have htab := vx_table (x := yL_coat) B (hts (.codeWith yL_coat cL_coat 6 (some .int) [(0, 12, 15, 21), (0, 12, 19, 13), (0, 12, 23, 30), (0, 12, 27, 15)]) (show _ ∈ wsL_coat from List.mem_cons_self))
  subst hsz
  have hD := hD0.self (sz := s.heap.size)
  generalize hAe : va_A [(h, .inr (16, [.ref l1, .ref l2, .ref l3, .ref l4, .ref l5, .ref l6, .ref l7, .ref l8, .ref l9, .ref ch, .ref co, .int 0, .int 4, .int (-40), .int 20, .int 0, .int 0, .int 100, .int 60, .int 14])), (l1, .inr (5, [.int 0, .ref e, .int 0])), (o, .inl (cO, 1, .inr (.inl f0)))] s.heap.size = A at hD hE0 ⊢
  have hA : ∀ q : Nat, s.heap.size ≤ q → A q := fun q h => by rw [← hAe]; exact Or.inr h
  have hS : va_S A s.heap s.heap [] := va_S.rf
  have hE := hE0
  have hP : va_P D vwCl [(h, .inr (16, [.ref l1, .ref l2, .ref l3, .ref l4, .ref l5, .ref l6, .ref l7, .ref l8, .ref l9, .ref ch, .ref co, .int 0, .int 4, .int (-40), .int 20, .int 0, .int 0, .int 100, .int 60, .int 14])), (l1, .inr (5, [.int 0, .ref e, .int 0])), (o, .inl (cO, 1, .inr (.inl f0)))] s.heap := hP
  have hl := lv_entry ([.ref h, .int p0, .int p1, .int p2, .ref o]) (n := 6) (Nat.le_of_ble_eq_true rfl)
  rw [lg_entry_eq]
  generalize (lg_sl ([.ref h, .int p0, .int p1, .int p2, .ref o]) ++ List.replicate (6 - (lg_sl ([.ref h, .int p0, .int p1, .int p2, .ref o])).length) Slot.unset).toArray = ls at hl ⊢
  have hl : lv_has ls 6 [(0, .ref h), (1, .int p0), (2, .int p1), (3, .int p2), (4, .ref o)] := hl
  refine lv_aload hx hb dL_coat_0 (lv_at hl 4 rfl) ?_
  refine lv_iconst (v := 0) hx hb dL_coat_2 (by decide) ?_
  refine lv_aload_n hx hb dL_coat_3 rfl (lv_at hl 0 rfl) ?_
  refine lv_iload_n hx hb dL_coat_4 rfl (lv_at hl 1 rfl) ?_
  refine lv_iload_n hx hb dL_coat_5 rfl (lv_at hl 2 rfl) ?_
  refine lv_iload_n hx hb dL_coat_6 rfl (lv_at hl 3 rfl) ?_
  have hFc := va_free (wc := [(h, .inr (16, [.ref l1, .ref l2, .ref l3, .ref l4, .ref l5, .ref l6, .ref l7, .ref l8, .ref l9, .ref ch, .ref co, .int 0, .int 4, .int (-40), .int 20, .int 0, .int 0, .int 100, .int 60, .int 14])), (l1, .inr (5, [.int 0, .ref e, .int 0]))]) hD hS hA [0, 1] rfl
  refine vx_callv (vx_runV (As := [.int p0, .int p1, .int p2]) (rest := [.int 0, .ref o]) ⟨hx, hb, hml, hown, hts⟩ (c_X10_coat l hst D e h l1 l2 l3 l4 l5 l6 l7 l8 l9 ch co p0 p1 p2 s.heap.size) (cwV 3 hts gL_coat_X10_coat rfl rfl rfl (by decide +kernel) ⟨Nat.le_of_ble_eq_true rfl, Nat.le_of_ble_eq_true rfl⟩) ⟨cIn_blind, va_recv hK hP (ci := 16) (q0 := 0) rfl rfl, cIn_go hK hP hD hE hS hA [0, 1] rfl rfl (by decide) [] rfl⟩ rfl rfl hl.1 rfl (lv_room (Nat.le_of_ble_eq_true rfl)) dL_coat_7 ⟨Nat.le_of_ble_eq_true rfl, Nat.le_of_ble_eq_true rfl⟩) hS (fun q _ h => hFc q h) hFc (fun q _ h => hFc q h) (fun E ce q9 u t H1 locs ht hvm hpx hB hz1 hk1 hS hce hcv hcl => ?_) (fun u t H1 locs ht hvm hw hB hz1 hk1 hS => ?_)
  · obtain ⟨rfl, hw⟩ := hB
    obtain ⟨hP, hD⟩ := cIn_rest (wc := [(h, .inr (16, [.ref l1, .ref l2, .ref l3, .ref l4, .ref l5, .ref l6, .ref l7, .ref l8, .ref l9, .ref ch, .ref co, .int 0, .int 4, .int (-40), .int 20, .int 0, .int 0, .int 100, .int 60, .int 14])), (l1, .inr (5, [.int 0, .ref e, .int 0]))]) (wr := [(o, .inl (cO, 1, .inr (.inl f0)))]) hP hD [0, 1] [2] rfl rfl (by decide) (by decide) hk1 hFc
    generalize H1 = H at hP hS hce ⊢
    have hP : va_P D vwCl [(o, .inl (cO, 1, .inr (.inl f0)))] H := hP
    have hD : va_D A [(o, .inl (cO, 1, .inr (.inl f0)))] := hD
    refine vx_catch (name := "java/lang/IndexOutOfBoundsException") (E := "java/lang/IndexOutOfBoundsException") hown [] ⟨0, 12, 15, 21⟩ [⟨0, 12, 19, 13⟩, ⟨0, 12, 23, 30⟩, ⟨0, 12, 27, 15⟩] (by rw [htab]; rfl) (fun z hz => by cases hz) (by decide) (by decide) (hts (.classLink RL 21 "java/lang/IndexOutOfBoundsException") (by decide +kernel)) (ev_u hE (w := .castable "java/lang/IndexOutOfBoundsException" "java/lang/IndexOutOfBoundsException") (by decide +kernel) rfl) hce hcv hcl ?_
    refine lv_astore (lv' := [(5, .ref q9), (0, .ref h), (1, .int p0), (2, .int p1), (3, .int p2), (4, .ref o)]) hx hb dL_coat_15 hl (by decide) rfl (fun ls hl => ?_)
    refine lv_iconst (v := 1) hx hb dL_coat_17 (by decide) ?_
    refine vx_ret ?_
    exact W.iret (v := 1) hx hb hr (fun t ht hW => ⟨⟨1, f0, rfl, rfl, ⟨by rw [ht]; exact hP.sub [0] rfl, va_K.moved hW.alike (hK.sub [0] rfl), hD.sub [0] (by decide) rfl⟩⟩, hS.F ht⟩) hS.2.2 dL_coat_18
  · exact hw.elim
-- L_weight
def v_L_weight (p0 : Int32) (p1 : Int32) : Int32 := 1
set_option maxHeartbeats 4000000 in
set_option maxRecDepth 100000 in
theorem c_L_weight (l : Launch) (hst : l.stackTraces = false) (D : va_G) (e : Nat) (h : Nat) (l1 : Nat) (l2 : Nat) (l3 : Nat) (l4 : Nat) (l5 : Nat) (l6 : Nat) (l7 : Nat) (l8 : Nat) (l9 : Nat) (ch : Nat) (co : Nat) (o : Nat) (cO : ClassId) (f0 : Nat → Int64) (p0 : Int32) (p1 : Int32) (sz : Nat) : vx_Met l yL_weight wsL_weight ({ frames := 18, cells := 1, slots := 6, locals := 400 }) (va_Pc [.ref h, .int p0, .int p1, .ref o] (cIn D [(cO, .long)] [(h, .inr (16, [.ref l1, .ref l2, .ref l3, .ref l4, .ref l5, .ref l6, .ref l7, .ref l8, .ref l9, .ref ch, .ref co, .int 0, .int 4, .int (-40), .int 20, .int 0, .int 0, .int 100, .int 60, .int 14])), (l2, .inr (5, [.int 0, .ref e, .int 0])), (o, .inl (cO, 1, .inr (.inl f0)))] e sz)) (va_Qi (fun (r : Int32) (f : Nat → Int64) => r = v_L_weight p0 p1) (fun (f : Nat → Int64) (t : State) => va_P D vwCl [(o, .inl (cO, 1, .inr (.inl f)))] t.heap ∧ va_K D vwCl [(cO, .long)] t ∧ va_D (va_A [(h, .inr (16, [.ref l1, .ref l2, .ref l3, .ref l4, .ref l5, .ref l6, .ref l7, .ref l8, .ref l9, .ref ch, .ref co, .int 0, .int 4, .int (-40), .int 20, .int 0, .int 0, .int 100, .int 60, .int 14])), (l2, .inr (5, [.int 0, .ref e, .int 0])), (o, .inl (cO, 1, .inr (.inl f0)))] sz) [(o, .inl (cO, 1, .inr (.inl f)))]) (va_A [(h, .inr (16, [.ref l1, .ref l2, .ref l3, .ref l4, .ref l5, .ref l6, .ref l7, .ref l8, .ref l9, .ref ch, .ref co, .int 0, .int 4, .int (-40), .int 20, .int 0, .int 0, .int 100, .int 60, .int 14])), (l2, .inr (5, [.int 0, .ref e, .int 0])), (o, .inl (cO, 1, .inr (.inl f0)))] sz)) (vx_X (fun _ : Unit => False) (fun (_ : String) (_ : Unit) (_ : State) => True) (va_A [(h, .inr (16, [.ref l1, .ref l2, .ref l3, .ref l4, .ref l5, .ref l6, .ref l7, .ref l8, .ref l9, .ref ch, .ref co, .int 0, .int 4, .int (-40), .int 20, .int 0, .int 0, .int 100, .int 60, .int 14])), (l2, .inr (5, [.int 0, .ref e, .int 0])), (o, .inl (cO, 1, .inr (.inl f0)))] sz)) 1 6 (va_A [(h, .inr (16, [.ref l1, .ref l2, .ref l3, .ref l4, .ref l5, .ref l6, .ref l7, .ref l8, .ref l9, .ref ch, .ref co, .int 0, .int 4, .int (-40), .int 20, .int 0, .int 0, .int 100, .int 60, .int 14])), (l2, .inr (5, [.int 0, .ref e, .int 0])), (o, .inl (cO, 1, .inr (.inl f0)))] sz) := by
  refine vx_ofWH (cc := cL_weight) (maxL := 5) (ret := (some .int)) (by decide +kernel) rfl ?_
  intro p e9 s m args below meth c s₁ B hml hv
  obtain ⟨rfl, hsz, hP, hK, hD0, hE0⟩ := hv
  have hx := B.exec
  have hb := B.bytes
  have hr := B.returns
  have hts := atoms_spec (ws := wsL_weight) B.pre
  have hown : s.vm.findClass RL = some m.cls := findClass_of_methodNamed B.named
  have hlocks := B.notSynchronized
  have htab := vx_table (x := yL_weight) B (hts (.codeWith yL_weight cL_weight 5 (some .int) [(0, 10, 13, 21)]) (show _ ∈ wsL_weight from List.mem_cons_self))
  subst hsz
  have hD := hD0.self (sz := s.heap.size)
  generalize hAe : va_A [(h, .inr (16, [.ref l1, .ref l2, .ref l3, .ref l4, .ref l5, .ref l6, .ref l7, .ref l8, .ref l9, .ref ch, .ref co, .int 0, .int 4, .int (-40), .int 20, .int 0, .int 0, .int 100, .int 60, .int 14])), (l2, .inr (5, [.int 0, .ref e, .int 0])), (o, .inl (cO, 1, .inr (.inl f0)))] s.heap.size = A at hD hE0 ⊢
  have hA : ∀ q : Nat, s.heap.size ≤ q → A q := fun q h => by rw [← hAe]; exact Or.inr h
  have hS : va_S A s.heap s.heap [] := va_S.rf
  have hE := hE0
  have hP : va_P D vwCl [(h, .inr (16, [.ref l1, .ref l2, .ref l3, .ref l4, .ref l5, .ref l6, .ref l7, .ref l8, .ref l9, .ref ch, .ref co, .int 0, .int 4, .int (-40), .int 20, .int 0, .int 0, .int 100, .int 60, .int 14])), (l2, .inr (5, [.int 0, .ref e, .int 0])), (o, .inl (cO, 1, .inr (.inl f0)))] s.heap := hP
  have hl := lv_entry ([.ref h, .int p0, .int p1, .ref o]) (n := 5) (Nat.le_of_ble_eq_true rfl)
  rw [lg_entry_eq]
  generalize (lg_sl ([.ref h, .int p0, .int p1, .ref o]) ++ List.replicate (5 - (lg_sl ([.ref h, .int p0, .int p1, .ref o])).length) Slot.unset).toArray = ls at hl ⊢
  have hl : lv_has ls 5 [(0, .ref h), (1, .int p0), (2, .int p1), (3, .ref o)] := hl
  refine lv_aload_n hx hb dL_weight_0 rfl (lv_at hl 3 rfl) ?_
  refine lv_iconst (v := 0) hx hb dL_weight_1 (by decide) ?_
  refine lv_aload_n hx hb dL_weight_2 rfl (lv_at hl 0 rfl) ?_
  refine lv_iload_n hx hb dL_weight_3 rfl (lv_at hl 1 rfl) ?_
  refine lv_iload_n hx hb dL_weight_4 rfl (lv_at hl 2 rfl) ?_
  have hFc := va_free (wc := [(h, .inr (16, [.ref l1, .ref l2, .ref l3, .ref l4, .ref l5, .ref l6, .ref l7, .ref l8, .ref l9, .ref ch, .ref co, .int 0, .int 4, .int (-40), .int 20, .int 0, .int 0, .int 100, .int 60, .int 14])), (l2, .inr (5, [.int 0, .ref e, .int 0]))]) hD hS hA [0, 1] rfl
  refine vx_callv (vx_runV (As := [.int p0, .int p1]) (rest := [.int 0, .ref o]) ⟨hx, hb, hml, hown, hts⟩ (c_X10_weight l hst D e h l1 l2 l3 l4 l5 l6 l7 l8 l9 ch co p0 p1 s.heap.size) (cwV 2 hts gL_weight_X10_weight rfl rfl rfl (by decide +kernel) ⟨Nat.le_of_ble_eq_true rfl, Nat.le_of_ble_eq_true rfl⟩) ⟨cIn_blind, va_recv hK hP (ci := 16) (q0 := 0) rfl rfl, cIn_go hK hP hD hE hS hA [0, 1] rfl rfl (by decide) [] rfl⟩ rfl rfl hl.1 rfl (lv_room (Nat.le_of_ble_eq_true rfl)) dL_weight_5 ⟨Nat.le_of_ble_eq_true rfl, Nat.le_of_ble_eq_true rfl⟩) hS (fun q _ h => hFc q h) hFc (fun q _ h => hFc q h) (fun E ce q9 u t H1 locs ht hvm hpx hB hz1 hk1 hS hce hcv hcl => ?_) (fun u t H1 locs ht hvm hw hB hz1 hk1 hS => ?_)
  · obtain ⟨rfl, hw⟩ := hB
    obtain ⟨hP, hD⟩ := cIn_rest (wc := [(h, .inr (16, [.ref l1, .ref l2, .ref l3, .ref l4, .ref l5, .ref l6, .ref l7, .ref l8, .ref l9, .ref ch, .ref co, .int 0, .int 4, .int (-40), .int 20, .int 0, .int 0, .int 100, .int 60, .int 14])), (l2, .inr (5, [.int 0, .ref e, .int 0]))]) (wr := [(o, .inl (cO, 1, .inr (.inl f0)))]) hP hD [0, 1] [2] rfl rfl (by decide) (by decide) hk1 hFc
    generalize H1 = H at hP hS hce ⊢
    have hP : va_P D vwCl [(o, .inl (cO, 1, .inr (.inl f0)))] H := hP
    have hD : va_D A [(o, .inl (cO, 1, .inr (.inl f0)))] := hD
    refine vx_catch (name := "java/lang/IndexOutOfBoundsException") (E := "java/lang/IndexOutOfBoundsException") hown [] ⟨0, 10, 13, 21⟩ [] (by rw [htab]; rfl) (fun z hz => by cases hz) (by decide) (by decide) (hts (.classLink RL 21 "java/lang/IndexOutOfBoundsException") (by decide +kernel)) (ev_u hE (w := .castable "java/lang/IndexOutOfBoundsException" "java/lang/IndexOutOfBoundsException") (by decide +kernel) rfl) hce hcv hcl ?_
    refine lv_astore (lv' := [(4, .ref q9), (0, .ref h), (1, .int p0), (2, .int p1), (3, .ref o)]) hx hb dL_weight_13 hl (by decide) rfl (fun ls hl => ?_)
    refine lv_iconst (v := 1) hx hb dL_weight_15 (by decide) ?_
    refine vx_ret ?_
    exact W.iret (v := 1) hx hb hr (fun t ht hW => ⟨⟨1, f0, rfl, rfl, ⟨by rw [ht]; exact hP.sub [0] rfl, va_K.moved hW.alike (hK.sub [0] rfl), hD.sub [0] (by decide) rfl⟩⟩, hS.F ht⟩) hS.2.2 dL_weight_16
  · exact hw.elim
-- L_mark
def v_L_mark (p0 : Int32) (p1 : Int32) (p2 : Int32) : Int32 := 1
set_option maxHeartbeats 4000000 in
set_option maxRecDepth 100000 in
theorem c_L_mark (l : Launch) (hst : l.stackTraces = false) (D : va_G) (e : Nat) (h : Nat) (l1 : Nat) (l2 : Nat) (l3 : Nat) (l4 : Nat) (l5 : Nat) (l6 : Nat) (l7 : Nat) (l8 : Nat) (l9 : Nat) (ch : Nat) (co : Nat) (o : Nat) (cO : ClassId) (f0 : Nat → Int64) (p0 : Int32) (p1 : Int32) (p2 : Int32) (sz : Nat) : vx_Met l yL_mark wsL_mark ({ frames := 18, cells := 1, slots := 6, locals := 400 }) (va_Pc [.ref h, .int p0, .int p1, .int p2, .ref o] (cIn D [(cO, .long)] [(h, .inr (16, [.ref l1, .ref l2, .ref l3, .ref l4, .ref l5, .ref l6, .ref l7, .ref l8, .ref l9, .ref ch, .ref co, .int 0, .int 4, .int (-40), .int 20, .int 0, .int 0, .int 100, .int 60, .int 14])), (l2, .inr (5, [.int 0, .ref e, .int 0])), (o, .inl (cO, 1, .inr (.inl f0)))] e sz)) (va_Qi (fun (r : Int32) (f : Nat → Int64) => r = v_L_mark p0 p1 p2) (fun (f : Nat → Int64) (t : State) => va_P D vwCl [(o, .inl (cO, 1, .inr (.inl f)))] t.heap ∧ va_K D vwCl [(cO, .long)] t ∧ va_D (va_A [(h, .inr (16, [.ref l1, .ref l2, .ref l3, .ref l4, .ref l5, .ref l6, .ref l7, .ref l8, .ref l9, .ref ch, .ref co, .int 0, .int 4, .int (-40), .int 20, .int 0, .int 0, .int 100, .int 60, .int 14])), (l2, .inr (5, [.int 0, .ref e, .int 0])), (o, .inl (cO, 1, .inr (.inl f0)))] sz) [(o, .inl (cO, 1, .inr (.inl f)))]) (va_A [(h, .inr (16, [.ref l1, .ref l2, .ref l3, .ref l4, .ref l5, .ref l6, .ref l7, .ref l8, .ref l9, .ref ch, .ref co, .int 0, .int 4, .int (-40), .int 20, .int 0, .int 0, .int 100, .int 60, .int 14])), (l2, .inr (5, [.int 0, .ref e, .int 0])), (o, .inl (cO, 1, .inr (.inl f0)))] sz)) (vx_X (fun _ : Unit => False) (fun (_ : String) (_ : Unit) (_ : State) => True) (va_A [(h, .inr (16, [.ref l1, .ref l2, .ref l3, .ref l4, .ref l5, .ref l6, .ref l7, .ref l8, .ref l9, .ref ch, .ref co, .int 0, .int 4, .int (-40), .int 20, .int 0, .int 0, .int 100, .int 60, .int 14])), (l2, .inr (5, [.int 0, .ref e, .int 0])), (o, .inl (cO, 1, .inr (.inl f0)))] sz)) 1 6 (va_A [(h, .inr (16, [.ref l1, .ref l2, .ref l3, .ref l4, .ref l5, .ref l6, .ref l7, .ref l8, .ref l9, .ref ch, .ref co, .int 0, .int 4, .int (-40), .int 20, .int 0, .int 0, .int 100, .int 60, .int 14])), (l2, .inr (5, [.int 0, .ref e, .int 0])), (o, .inl (cO, 1, .inr (.inl f0)))] sz) := by
  refine vx_ofWH (cc := cL_mark) (maxL := 6) (ret := (some .int)) (by decide +kernel) rfl ?_
  intro p e9 s m args below meth c s₁ B hml hv
  obtain ⟨rfl, hsz, hP, hK, hD0, hE0⟩ := hv
  have hx := B.exec
  have hb := B.bytes
  have hr := B.returns
  have hts := atoms_spec (ws := wsL_mark) B.pre
  have hown : s.vm.findClass RL = some m.cls := findClass_of_methodNamed B.named
  have hlocks := B.notSynchronized
  have htab := vx_table (x := yL_mark) B (hts (.codeWith yL_mark cL_mark 6 (some .int) [(0, 12, 15, 21), (0, 12, 19, 13), (0, 12, 23, 30)]) (show _ ∈ wsL_mark from List.mem_cons_self))
  subst hsz
  have hD := hD0.self (sz := s.heap.size)
  generalize hAe : va_A [(h, .inr (16, [.ref l1, .ref l2, .ref l3, .ref l4, .ref l5, .ref l6, .ref l7, .ref l8, .ref l9, .ref ch, .ref co, .int 0, .int 4, .int (-40), .int 20, .int 0, .int 0, .int 100, .int 60, .int 14])), (l2, .inr (5, [.int 0, .ref e, .int 0])), (o, .inl (cO, 1, .inr (.inl f0)))] s.heap.size = A at hD hE0 ⊢
  have hA : ∀ q : Nat, s.heap.size ≤ q → A q := fun q h => by rw [← hAe]; exact Or.inr h
  have hS : va_S A s.heap s.heap [] := va_S.rf
  have hE := hE0
  have hP : va_P D vwCl [(h, .inr (16, [.ref l1, .ref l2, .ref l3, .ref l4, .ref l5, .ref l6, .ref l7, .ref l8, .ref l9, .ref ch, .ref co, .int 0, .int 4, .int (-40), .int 20, .int 0, .int 0, .int 100, .int 60, .int 14])), (l2, .inr (5, [.int 0, .ref e, .int 0])), (o, .inl (cO, 1, .inr (.inl f0)))] s.heap := hP
  have hl := lv_entry ([.ref h, .int p0, .int p1, .int p2, .ref o]) (n := 6) (Nat.le_of_ble_eq_true rfl)
  rw [lg_entry_eq]
  generalize (lg_sl ([.ref h, .int p0, .int p1, .int p2, .ref o]) ++ List.replicate (6 - (lg_sl ([.ref h, .int p0, .int p1, .int p2, .ref o])).length) Slot.unset).toArray = ls at hl ⊢
  have hl : lv_has ls 6 [(0, .ref h), (1, .int p0), (2, .int p1), (3, .int p2), (4, .ref o)] := hl
  refine lv_aload hx hb dL_mark_0 (lv_at hl 4 rfl) ?_
  refine lv_iconst (v := 0) hx hb dL_mark_2 (by decide) ?_
  refine lv_aload_n hx hb dL_mark_3 rfl (lv_at hl 0 rfl) ?_
  refine lv_iload_n hx hb dL_mark_4 rfl (lv_at hl 1 rfl) ?_
  refine lv_iload_n hx hb dL_mark_5 rfl (lv_at hl 2 rfl) ?_
  refine lv_iload_n hx hb dL_mark_6 rfl (lv_at hl 3 rfl) ?_
  have hFc := va_free (wc := [(h, .inr (16, [.ref l1, .ref l2, .ref l3, .ref l4, .ref l5, .ref l6, .ref l7, .ref l8, .ref l9, .ref ch, .ref co, .int 0, .int 4, .int (-40), .int 20, .int 0, .int 0, .int 100, .int 60, .int 14])), (l2, .inr (5, [.int 0, .ref e, .int 0]))]) hD hS hA [0, 1] rfl
  refine vx_callv (vx_runV (As := [.int p0, .int p1, .int p2]) (rest := [.int 0, .ref o]) ⟨hx, hb, hml, hown, hts⟩ (c_X10_mark l hst D e h l1 l2 l3 l4 l5 l6 l7 l8 l9 ch co p0 p1 p2 s.heap.size) (cwV 3 hts gL_mark_X10_mark rfl rfl rfl (by decide +kernel) ⟨Nat.le_of_ble_eq_true rfl, Nat.le_of_ble_eq_true rfl⟩) ⟨cIn_blind, va_recv hK hP (ci := 16) (q0 := 0) rfl rfl, cIn_go hK hP hD hE hS hA [0, 1] rfl rfl (by decide) [] rfl⟩ rfl rfl hl.1 rfl (lv_room (Nat.le_of_ble_eq_true rfl)) dL_mark_7 ⟨Nat.le_of_ble_eq_true rfl, Nat.le_of_ble_eq_true rfl⟩) hS (fun q _ h => hFc q h) hFc (fun q _ h => hFc q h) (fun E ce q9 u t H1 locs ht hvm hpx hB hz1 hk1 hS hce hcv hcl => ?_) (fun u t H1 locs ht hvm hw hB hz1 hk1 hS => ?_)
  · obtain ⟨rfl, hw⟩ := hB
    obtain ⟨hP, hD⟩ := cIn_rest (wc := [(h, .inr (16, [.ref l1, .ref l2, .ref l3, .ref l4, .ref l5, .ref l6, .ref l7, .ref l8, .ref l9, .ref ch, .ref co, .int 0, .int 4, .int (-40), .int 20, .int 0, .int 0, .int 100, .int 60, .int 14])), (l2, .inr (5, [.int 0, .ref e, .int 0]))]) (wr := [(o, .inl (cO, 1, .inr (.inl f0)))]) hP hD [0, 1] [2] rfl rfl (by decide) (by decide) hk1 hFc
    generalize H1 = H at hP hS hce ⊢
    have hP : va_P D vwCl [(o, .inl (cO, 1, .inr (.inl f0)))] H := hP
    have hD : va_D A [(o, .inl (cO, 1, .inr (.inl f0)))] := hD
    refine vx_catch (name := "java/lang/IndexOutOfBoundsException") (E := "java/lang/IndexOutOfBoundsException") hown [] ⟨0, 12, 15, 21⟩ [⟨0, 12, 19, 13⟩, ⟨0, 12, 23, 30⟩] (by rw [htab]; rfl) (fun z hz => by cases hz) (by decide) (by decide) (hts (.classLink RL 21 "java/lang/IndexOutOfBoundsException") (by decide +kernel)) (ev_u hE (w := .castable "java/lang/IndexOutOfBoundsException" "java/lang/IndexOutOfBoundsException") (by decide +kernel) rfl) hce hcv hcl ?_
    refine lv_astore (lv' := [(5, .ref q9), (0, .ref h), (1, .int p0), (2, .int p1), (3, .int p2), (4, .ref o)]) hx hb dL_mark_15 hl (by decide) rfl (fun ls hl => ?_)
    refine lv_iconst (v := 1) hx hb dL_mark_17 (by decide) ?_
    refine vx_ret ?_
    exact W.iret (v := 1) hx hb hr (fun t ht hW => ⟨⟨1, f0, rfl, rfl, ⟨by rw [ht]; exact hP.sub [0] rfl, va_K.moved hW.alike (hK.sub [0] rfl), hD.sub [0] (by decide) rfl⟩⟩, hS.F ht⟩) hS.2.2 dL_mark_18
  · exact hw.elim
-- L_press
def v_L_press (p0 : Int32) (p1 : Int32) : Int32 := 1
set_option maxHeartbeats 4000000 in
set_option maxRecDepth 100000 in
theorem c_L_press (l : Launch) (hst : l.stackTraces = false) (D : va_G) (e : Nat) (h : Nat) (l1 : Nat) (l2 : Nat) (l3 : Nat) (l4 : Nat) (l5 : Nat) (l6 : Nat) (l7 : Nat) (l8 : Nat) (l9 : Nat) (ch : Nat) (co : Nat) (o : Nat) (cO : ClassId) (f0 : Nat → Int64) (p0 : Int32) (p1 : Int32) (sz : Nat) : vx_Met l yL_press wsL_press ({ frames := 18, cells := 1, slots := 6, locals := 400 }) (va_Pc [.ref h, .int p0, .int p1, .ref o] (cIn D [(cO, .long)] [(h, .inr (16, [.ref l1, .ref l2, .ref l3, .ref l4, .ref l5, .ref l6, .ref l7, .ref l8, .ref l9, .ref ch, .ref co, .int 0, .int 4, .int (-40), .int 20, .int 0, .int 0, .int 100, .int 60, .int 14])), (l2, .inr (5, [.int 0, .ref e, .int 0])), (o, .inl (cO, 1, .inr (.inl f0)))] e sz)) (va_Qi (fun (r : Int32) (f : Nat → Int64) => r = v_L_press p0 p1) (fun (f : Nat → Int64) (t : State) => va_P D vwCl [(o, .inl (cO, 1, .inr (.inl f)))] t.heap ∧ va_K D vwCl [(cO, .long)] t ∧ va_D (va_A [(h, .inr (16, [.ref l1, .ref l2, .ref l3, .ref l4, .ref l5, .ref l6, .ref l7, .ref l8, .ref l9, .ref ch, .ref co, .int 0, .int 4, .int (-40), .int 20, .int 0, .int 0, .int 100, .int 60, .int 14])), (l2, .inr (5, [.int 0, .ref e, .int 0])), (o, .inl (cO, 1, .inr (.inl f0)))] sz) [(o, .inl (cO, 1, .inr (.inl f)))]) (va_A [(h, .inr (16, [.ref l1, .ref l2, .ref l3, .ref l4, .ref l5, .ref l6, .ref l7, .ref l8, .ref l9, .ref ch, .ref co, .int 0, .int 4, .int (-40), .int 20, .int 0, .int 0, .int 100, .int 60, .int 14])), (l2, .inr (5, [.int 0, .ref e, .int 0])), (o, .inl (cO, 1, .inr (.inl f0)))] sz)) (vx_X (fun _ : Unit => False) (fun (_ : String) (_ : Unit) (_ : State) => True) (va_A [(h, .inr (16, [.ref l1, .ref l2, .ref l3, .ref l4, .ref l5, .ref l6, .ref l7, .ref l8, .ref l9, .ref ch, .ref co, .int 0, .int 4, .int (-40), .int 20, .int 0, .int 0, .int 100, .int 60, .int 14])), (l2, .inr (5, [.int 0, .ref e, .int 0])), (o, .inl (cO, 1, .inr (.inl f0)))] sz)) 1 6 (va_A [(h, .inr (16, [.ref l1, .ref l2, .ref l3, .ref l4, .ref l5, .ref l6, .ref l7, .ref l8, .ref l9, .ref ch, .ref co, .int 0, .int 4, .int (-40), .int 20, .int 0, .int 0, .int 100, .int 60, .int 14])), (l2, .inr (5, [.int 0, .ref e, .int 0])), (o, .inl (cO, 1, .inr (.inl f0)))] sz) := by
  refine vx_ofWH (cc := cL_press) (maxL := 5) (ret := (some .int)) (by decide +kernel) rfl ?_
  intro p e9 s m args below meth c s₁ B hml hv
  obtain ⟨rfl, hsz, hP, hK, hD0, hE0⟩ := hv
  have hx := B.exec
  have hb := B.bytes
  have hr := B.returns
  have hts := atoms_spec (ws := wsL_press) B.pre
  have hown : s.vm.findClass RL = some m.cls := findClass_of_methodNamed B.named
  have hlocks := B.notSynchronized
  have htab := vx_table (x := yL_press) B (hts (.codeWith yL_press cL_press 5 (some .int) [(0, 10, 13, 21), (0, 10, 17, 13), (0, 10, 21, 30)]) (show _ ∈ wsL_press from List.mem_cons_self))
  subst hsz
  have hD := hD0.self (sz := s.heap.size)
  generalize hAe : va_A [(h, .inr (16, [.ref l1, .ref l2, .ref l3, .ref l4, .ref l5, .ref l6, .ref l7, .ref l8, .ref l9, .ref ch, .ref co, .int 0, .int 4, .int (-40), .int 20, .int 0, .int 0, .int 100, .int 60, .int 14])), (l2, .inr (5, [.int 0, .ref e, .int 0])), (o, .inl (cO, 1, .inr (.inl f0)))] s.heap.size = A at hD hE0 ⊢
  have hA : ∀ q : Nat, s.heap.size ≤ q → A q := fun q h => by rw [← hAe]; exact Or.inr h
  have hS : va_S A s.heap s.heap [] := va_S.rf
  have hE := hE0
  have hP : va_P D vwCl [(h, .inr (16, [.ref l1, .ref l2, .ref l3, .ref l4, .ref l5, .ref l6, .ref l7, .ref l8, .ref l9, .ref ch, .ref co, .int 0, .int 4, .int (-40), .int 20, .int 0, .int 0, .int 100, .int 60, .int 14])), (l2, .inr (5, [.int 0, .ref e, .int 0])), (o, .inl (cO, 1, .inr (.inl f0)))] s.heap := hP
  have hl := lv_entry ([.ref h, .int p0, .int p1, .ref o]) (n := 5) (Nat.le_of_ble_eq_true rfl)
  rw [lg_entry_eq]
  generalize (lg_sl ([.ref h, .int p0, .int p1, .ref o]) ++ List.replicate (5 - (lg_sl ([.ref h, .int p0, .int p1, .ref o])).length) Slot.unset).toArray = ls at hl ⊢
  have hl : lv_has ls 5 [(0, .ref h), (1, .int p0), (2, .int p1), (3, .ref o)] := hl
  refine lv_aload_n hx hb dL_press_0 rfl (lv_at hl 3 rfl) ?_
  refine lv_iconst (v := 0) hx hb dL_press_1 (by decide) ?_
  refine lv_aload_n hx hb dL_press_2 rfl (lv_at hl 0 rfl) ?_
  refine lv_iload_n hx hb dL_press_3 rfl (lv_at hl 1 rfl) ?_
  refine lv_iload_n hx hb dL_press_4 rfl (lv_at hl 2 rfl) ?_
  have hFc := va_free (wc := [(h, .inr (16, [.ref l1, .ref l2, .ref l3, .ref l4, .ref l5, .ref l6, .ref l7, .ref l8, .ref l9, .ref ch, .ref co, .int 0, .int 4, .int (-40), .int 20, .int 0, .int 0, .int 100, .int 60, .int 14])), (l2, .inr (5, [.int 0, .ref e, .int 0]))]) hD hS hA [0, 1] rfl
  refine vx_callv (vx_runV (As := [.int p0, .int p1]) (rest := [.int 0, .ref o]) ⟨hx, hb, hml, hown, hts⟩ (c_X10_press l hst D e h l1 l2 l3 l4 l5 l6 l7 l8 l9 ch co p0 p1 s.heap.size) (cwV 2 hts gL_press_X10_press rfl rfl rfl (by decide +kernel) ⟨Nat.le_of_ble_eq_true rfl, Nat.le_of_ble_eq_true rfl⟩) ⟨cIn_blind, va_recv hK hP (ci := 16) (q0 := 0) rfl rfl, cIn_go hK hP hD hE hS hA [0, 1] rfl rfl (by decide) [] rfl⟩ rfl rfl hl.1 rfl (lv_room (Nat.le_of_ble_eq_true rfl)) dL_press_5 ⟨Nat.le_of_ble_eq_true rfl, Nat.le_of_ble_eq_true rfl⟩) hS (fun q _ h => hFc q h) hFc (fun q _ h => hFc q h) (fun E ce q9 u t H1 locs ht hvm hpx hB hz1 hk1 hS hce hcv hcl => ?_) (fun u t H1 locs ht hvm hw hB hz1 hk1 hS => ?_)
  · obtain ⟨rfl, hw⟩ := hB
    obtain ⟨hP, hD⟩ := cIn_rest (wc := [(h, .inr (16, [.ref l1, .ref l2, .ref l3, .ref l4, .ref l5, .ref l6, .ref l7, .ref l8, .ref l9, .ref ch, .ref co, .int 0, .int 4, .int (-40), .int 20, .int 0, .int 0, .int 100, .int 60, .int 14])), (l2, .inr (5, [.int 0, .ref e, .int 0]))]) (wr := [(o, .inl (cO, 1, .inr (.inl f0)))]) hP hD [0, 1] [2] rfl rfl (by decide) (by decide) hk1 hFc
    generalize H1 = H at hP hS hce ⊢
    have hP : va_P D vwCl [(o, .inl (cO, 1, .inr (.inl f0)))] H := hP
    have hD : va_D A [(o, .inl (cO, 1, .inr (.inl f0)))] := hD
    refine vx_catch (name := "java/lang/IndexOutOfBoundsException") (E := "java/lang/IndexOutOfBoundsException") hown [] ⟨0, 10, 13, 21⟩ [⟨0, 10, 17, 13⟩, ⟨0, 10, 21, 30⟩] (by rw [htab]; rfl) (fun z hz => by cases hz) (by decide) (by decide) (hts (.classLink RL 21 "java/lang/IndexOutOfBoundsException") (by decide +kernel)) (ev_u hE (w := .castable "java/lang/IndexOutOfBoundsException" "java/lang/IndexOutOfBoundsException") (by decide +kernel) rfl) hce hcv hcl ?_
    refine lv_astore (lv' := [(4, .ref q9), (0, .ref h), (1, .int p0), (2, .int p1), (3, .ref o)]) hx hb dL_press_13 hl (by decide) rfl (fun ls hl => ?_)
    refine lv_iconst (v := 1) hx hb dL_press_15 (by decide) ?_
    refine vx_ret ?_
    exact W.iret (v := 1) hx hb hr (fun t ht hW => ⟨⟨1, f0, rfl, rfl, ⟨by rw [ht]; exact hP.sub [0] rfl, va_K.moved hW.alike (hK.sub [0] rfl), hD.sub [0] (by decide) rfl⟩⟩, hS.F ht⟩) hS.2.2 dL_press_16
  · exact hw.elim
-- L_thickness
def v_L_thickness (p0 : Int32) (p1 : Int32) : Int32 := 1
set_option maxHeartbeats 4000000 in
set_option maxRecDepth 100000 in
theorem c_L_thickness (l : Launch) (hst : l.stackTraces = false) (D : va_G) (e : Nat) (h : Nat) (l1 : Nat) (l2 : Nat) (l3 : Nat) (l4 : Nat) (l5 : Nat) (l6 : Nat) (l7 : Nat) (l8 : Nat) (l9 : Nat) (ch : Nat) (co : Nat) (o : Nat) (cO : ClassId) (f0 : Nat → Int64) (p0 : Int32) (p1 : Int32) (sz : Nat) : vx_Met l yL_thickness wsL_thickness ({ frames := 18, cells := 1, slots := 6, locals := 400 }) (va_Pc [.ref h, .int p0, .int p1, .ref o] (cIn D [(cO, .long)] [(h, .inr (16, [.ref l1, .ref l2, .ref l3, .ref l4, .ref l5, .ref l6, .ref l7, .ref l8, .ref l9, .ref ch, .ref co, .int 0, .int 4, .int (-40), .int 20, .int 0, .int 0, .int 100, .int 60, .int 14])), (l2, .inr (5, [.int 0, .ref e, .int 0])), (o, .inl (cO, 1, .inr (.inl f0)))] e sz)) (va_Qi (fun (r : Int32) (f : Nat → Int64) => r = v_L_thickness p0 p1) (fun (f : Nat → Int64) (t : State) => va_P D vwCl [(o, .inl (cO, 1, .inr (.inl f)))] t.heap ∧ va_K D vwCl [(cO, .long)] t ∧ va_D (va_A [(h, .inr (16, [.ref l1, .ref l2, .ref l3, .ref l4, .ref l5, .ref l6, .ref l7, .ref l8, .ref l9, .ref ch, .ref co, .int 0, .int 4, .int (-40), .int 20, .int 0, .int 0, .int 100, .int 60, .int 14])), (l2, .inr (5, [.int 0, .ref e, .int 0])), (o, .inl (cO, 1, .inr (.inl f0)))] sz) [(o, .inl (cO, 1, .inr (.inl f)))]) (va_A [(h, .inr (16, [.ref l1, .ref l2, .ref l3, .ref l4, .ref l5, .ref l6, .ref l7, .ref l8, .ref l9, .ref ch, .ref co, .int 0, .int 4, .int (-40), .int 20, .int 0, .int 0, .int 100, .int 60, .int 14])), (l2, .inr (5, [.int 0, .ref e, .int 0])), (o, .inl (cO, 1, .inr (.inl f0)))] sz)) (vx_X (fun _ : Unit => False) (fun (_ : String) (_ : Unit) (_ : State) => True) (va_A [(h, .inr (16, [.ref l1, .ref l2, .ref l3, .ref l4, .ref l5, .ref l6, .ref l7, .ref l8, .ref l9, .ref ch, .ref co, .int 0, .int 4, .int (-40), .int 20, .int 0, .int 0, .int 100, .int 60, .int 14])), (l2, .inr (5, [.int 0, .ref e, .int 0])), (o, .inl (cO, 1, .inr (.inl f0)))] sz)) 1 6 (va_A [(h, .inr (16, [.ref l1, .ref l2, .ref l3, .ref l4, .ref l5, .ref l6, .ref l7, .ref l8, .ref l9, .ref ch, .ref co, .int 0, .int 4, .int (-40), .int 20, .int 0, .int 0, .int 100, .int 60, .int 14])), (l2, .inr (5, [.int 0, .ref e, .int 0])), (o, .inl (cO, 1, .inr (.inl f0)))] sz) := by
  refine vx_ofWH (cc := cL_thickness) (maxL := 5) (ret := (some .int)) (by decide +kernel) rfl ?_
  intro p e9 s m args below meth c s₁ B hml hv
  obtain ⟨rfl, hsz, hP, hK, hD0, hE0⟩ := hv
  have hx := B.exec
  have hb := B.bytes
  have hr := B.returns
  have hts := atoms_spec (ws := wsL_thickness) B.pre
  have hown : s.vm.findClass RL = some m.cls := findClass_of_methodNamed B.named
  have hlocks := B.notSynchronized
  have htab := vx_table (x := yL_thickness) B (hts (.codeWith yL_thickness cL_thickness 5 (some .int) [(0, 10, 13, 21)]) (show _ ∈ wsL_thickness from List.mem_cons_self))
  subst hsz
  have hD := hD0.self (sz := s.heap.size)
  generalize hAe : va_A [(h, .inr (16, [.ref l1, .ref l2, .ref l3, .ref l4, .ref l5, .ref l6, .ref l7, .ref l8, .ref l9, .ref ch, .ref co, .int 0, .int 4, .int (-40), .int 20, .int 0, .int 0, .int 100, .int 60, .int 14])), (l2, .inr (5, [.int 0, .ref e, .int 0])), (o, .inl (cO, 1, .inr (.inl f0)))] s.heap.size = A at hD hE0 ⊢
  have hA : ∀ q : Nat, s.heap.size ≤ q → A q := fun q h => by rw [← hAe]; exact Or.inr h
  have hS : va_S A s.heap s.heap [] := va_S.rf
  have hE := hE0
  have hP : va_P D vwCl [(h, .inr (16, [.ref l1, .ref l2, .ref l3, .ref l4, .ref l5, .ref l6, .ref l7, .ref l8, .ref l9, .ref ch, .ref co, .int 0, .int 4, .int (-40), .int 20, .int 0, .int 0, .int 100, .int 60, .int 14])), (l2, .inr (5, [.int 0, .ref e, .int 0])), (o, .inl (cO, 1, .inr (.inl f0)))] s.heap := hP
  have hl := lv_entry ([.ref h, .int p0, .int p1, .ref o]) (n := 5) (Nat.le_of_ble_eq_true rfl)
  rw [lg_entry_eq]
  generalize (lg_sl ([.ref h, .int p0, .int p1, .ref o]) ++ List.replicate (5 - (lg_sl ([.ref h, .int p0, .int p1, .ref o])).length) Slot.unset).toArray = ls at hl ⊢
  have hl : lv_has ls 5 [(0, .ref h), (1, .int p0), (2, .int p1), (3, .ref o)] := hl
  refine lv_aload_n hx hb dL_thickness_0 rfl (lv_at hl 3 rfl) ?_
  refine lv_iconst (v := 0) hx hb dL_thickness_1 (by decide) ?_
  refine lv_aload_n hx hb dL_thickness_2 rfl (lv_at hl 0 rfl) ?_
  refine lv_iload_n hx hb dL_thickness_3 rfl (lv_at hl 1 rfl) ?_
  refine lv_iload_n hx hb dL_thickness_4 rfl (lv_at hl 2 rfl) ?_
  have hFc := va_free (wc := [(h, .inr (16, [.ref l1, .ref l2, .ref l3, .ref l4, .ref l5, .ref l6, .ref l7, .ref l8, .ref l9, .ref ch, .ref co, .int 0, .int 4, .int (-40), .int 20, .int 0, .int 0, .int 100, .int 60, .int 14])), (l2, .inr (5, [.int 0, .ref e, .int 0]))]) hD hS hA [0, 1] rfl
  refine vx_callv (vx_runV (As := [.int p0, .int p1]) (rest := [.int 0, .ref o]) ⟨hx, hb, hml, hown, hts⟩ (c_X10_thickness l hst D e h l1 l2 l3 l4 l5 l6 l7 l8 l9 ch co p0 p1 s.heap.size) (cwV 2 hts gL_thickness_X10_thickness rfl rfl rfl (by decide +kernel) ⟨Nat.le_of_ble_eq_true rfl, Nat.le_of_ble_eq_true rfl⟩) ⟨cIn_blind, va_recv hK hP (ci := 16) (q0 := 0) rfl rfl, cIn_go hK hP hD hE hS hA [0, 1] rfl rfl (by decide) [] rfl⟩ rfl rfl hl.1 rfl (lv_room (Nat.le_of_ble_eq_true rfl)) dL_thickness_5 ⟨Nat.le_of_ble_eq_true rfl, Nat.le_of_ble_eq_true rfl⟩) hS (fun q _ h => hFc q h) hFc (fun q _ h => hFc q h) (fun E ce q9 u t H1 locs ht hvm hpx hB hz1 hk1 hS hce hcv hcl => ?_) (fun u t H1 locs ht hvm hw hB hz1 hk1 hS => ?_)
  · obtain ⟨rfl, hw⟩ := hB
    obtain ⟨hP, hD⟩ := cIn_rest (wc := [(h, .inr (16, [.ref l1, .ref l2, .ref l3, .ref l4, .ref l5, .ref l6, .ref l7, .ref l8, .ref l9, .ref ch, .ref co, .int 0, .int 4, .int (-40), .int 20, .int 0, .int 0, .int 100, .int 60, .int 14])), (l2, .inr (5, [.int 0, .ref e, .int 0]))]) (wr := [(o, .inl (cO, 1, .inr (.inl f0)))]) hP hD [0, 1] [2] rfl rfl (by decide) (by decide) hk1 hFc
    generalize H1 = H at hP hS hce ⊢
    have hP : va_P D vwCl [(o, .inl (cO, 1, .inr (.inl f0)))] H := hP
    have hD : va_D A [(o, .inl (cO, 1, .inr (.inl f0)))] := hD
    refine vx_catch (name := "java/lang/IndexOutOfBoundsException") (E := "java/lang/IndexOutOfBoundsException") hown [] ⟨0, 10, 13, 21⟩ [] (by rw [htab]; rfl) (fun z hz => by cases hz) (by decide) (by decide) (hts (.classLink RL 21 "java/lang/IndexOutOfBoundsException") (by decide +kernel)) (ev_u hE (w := .castable "java/lang/IndexOutOfBoundsException" "java/lang/IndexOutOfBoundsException") (by decide +kernel) rfl) hce hcv hcl ?_
    refine lv_astore (lv' := [(4, .ref q9), (0, .ref h), (1, .int p0), (2, .int p1), (3, .ref o)]) hx hb dL_thickness_13 hl (by decide) rfl (fun ls hl => ?_)
    refine lv_iconst (v := 1) hx hb dL_thickness_15 (by decide) ?_
    refine vx_ret ?_
    exact W.iret (v := 1) hx hb hr (fun t ht hW => ⟨⟨1, f0, rfl, rfl, ⟨by rw [ht]; exact hP.sub [0] rfl, va_K.moved hW.alike (hK.sub [0] rfl), hD.sub [0] (by decide) rfl⟩⟩, hS.F ht⟩) hS.2.2 dL_thickness_16
  · exact hw.elim
-- L_slit
def v_L_slit (p0 : Int32) (p1 : Int32) : Int32 := 1
set_option maxHeartbeats 4000000 in
set_option maxRecDepth 100000 in
theorem c_L_slit (l : Launch) (hst : l.stackTraces = false) (D : va_G) (e : Nat) (h : Nat) (l1 : Nat) (l2 : Nat) (l3 : Nat) (l4 : Nat) (l5 : Nat) (l6 : Nat) (l7 : Nat) (l8 : Nat) (l9 : Nat) (ch : Nat) (co : Nat) (o : Nat) (cO : ClassId) (f0 : Nat → Int64) (p0 : Int32) (p1 : Int32) (sz : Nat) : vx_Met l yL_slit wsL_slit ({ frames := 18, cells := 1, slots := 6, locals := 400 }) (va_Pc [.ref h, .int p0, .int p1, .ref o] (cIn D [(cO, .long)] [(h, .inr (16, [.ref l1, .ref l2, .ref l3, .ref l4, .ref l5, .ref l6, .ref l7, .ref l8, .ref l9, .ref ch, .ref co, .int 0, .int 4, .int (-40), .int 20, .int 0, .int 0, .int 100, .int 60, .int 14])), (l2, .inr (5, [.int 0, .ref e, .int 0])), (o, .inl (cO, 1, .inr (.inl f0)))] e sz)) (va_Qi (fun (r : Int32) (f : Nat → Int64) => r = v_L_slit p0 p1) (fun (f : Nat → Int64) (t : State) => va_P D vwCl [(o, .inl (cO, 1, .inr (.inl f)))] t.heap ∧ va_K D vwCl [(cO, .long)] t ∧ va_D (va_A [(h, .inr (16, [.ref l1, .ref l2, .ref l3, .ref l4, .ref l5, .ref l6, .ref l7, .ref l8, .ref l9, .ref ch, .ref co, .int 0, .int 4, .int (-40), .int 20, .int 0, .int 0, .int 100, .int 60, .int 14])), (l2, .inr (5, [.int 0, .ref e, .int 0])), (o, .inl (cO, 1, .inr (.inl f0)))] sz) [(o, .inl (cO, 1, .inr (.inl f)))]) (va_A [(h, .inr (16, [.ref l1, .ref l2, .ref l3, .ref l4, .ref l5, .ref l6, .ref l7, .ref l8, .ref l9, .ref ch, .ref co, .int 0, .int 4, .int (-40), .int 20, .int 0, .int 0, .int 100, .int 60, .int 14])), (l2, .inr (5, [.int 0, .ref e, .int 0])), (o, .inl (cO, 1, .inr (.inl f0)))] sz)) (vx_X (fun _ : Unit => False) (fun (_ : String) (_ : Unit) (_ : State) => True) (va_A [(h, .inr (16, [.ref l1, .ref l2, .ref l3, .ref l4, .ref l5, .ref l6, .ref l7, .ref l8, .ref l9, .ref ch, .ref co, .int 0, .int 4, .int (-40), .int 20, .int 0, .int 0, .int 100, .int 60, .int 14])), (l2, .inr (5, [.int 0, .ref e, .int 0])), (o, .inl (cO, 1, .inr (.inl f0)))] sz)) 1 6 (va_A [(h, .inr (16, [.ref l1, .ref l2, .ref l3, .ref l4, .ref l5, .ref l6, .ref l7, .ref l8, .ref l9, .ref ch, .ref co, .int 0, .int 4, .int (-40), .int 20, .int 0, .int 0, .int 100, .int 60, .int 14])), (l2, .inr (5, [.int 0, .ref e, .int 0])), (o, .inl (cO, 1, .inr (.inl f0)))] sz) := by
  refine vx_ofWH (cc := cL_slit) (maxL := 5) (ret := (some .int)) (by decide +kernel) rfl ?_
  intro p e9 s m args below meth c s₁ B hml hv
  obtain ⟨rfl, hsz, hP, hK, hD0, hE0⟩ := hv
  have hx := B.exec
  have hb := B.bytes
  have hr := B.returns
  have hts := atoms_spec (ws := wsL_slit) B.pre
  have hown : s.vm.findClass RL = some m.cls := findClass_of_methodNamed B.named
  have hlocks := B.notSynchronized
  have htab := vx_table (x := yL_slit) B (hts (.codeWith yL_slit cL_slit 5 (some .int) [(0, 10, 13, 21), (0, 10, 17, 13), (0, 10, 21, 30), (0, 10, 25, 15)]) (show _ ∈ wsL_slit from List.mem_cons_self))
  subst hsz
  have hD := hD0.self (sz := s.heap.size)
  generalize hAe : va_A [(h, .inr (16, [.ref l1, .ref l2, .ref l3, .ref l4, .ref l5, .ref l6, .ref l7, .ref l8, .ref l9, .ref ch, .ref co, .int 0, .int 4, .int (-40), .int 20, .int 0, .int 0, .int 100, .int 60, .int 14])), (l2, .inr (5, [.int 0, .ref e, .int 0])), (o, .inl (cO, 1, .inr (.inl f0)))] s.heap.size = A at hD hE0 ⊢
  have hA : ∀ q : Nat, s.heap.size ≤ q → A q := fun q h => by rw [← hAe]; exact Or.inr h
  have hS : va_S A s.heap s.heap [] := va_S.rf
  have hE := hE0
  have hP : va_P D vwCl [(h, .inr (16, [.ref l1, .ref l2, .ref l3, .ref l4, .ref l5, .ref l6, .ref l7, .ref l8, .ref l9, .ref ch, .ref co, .int 0, .int 4, .int (-40), .int 20, .int 0, .int 0, .int 100, .int 60, .int 14])), (l2, .inr (5, [.int 0, .ref e, .int 0])), (o, .inl (cO, 1, .inr (.inl f0)))] s.heap := hP
  have hl := lv_entry ([.ref h, .int p0, .int p1, .ref o]) (n := 5) (Nat.le_of_ble_eq_true rfl)
  rw [lg_entry_eq]
  generalize (lg_sl ([.ref h, .int p0, .int p1, .ref o]) ++ List.replicate (5 - (lg_sl ([.ref h, .int p0, .int p1, .ref o])).length) Slot.unset).toArray = ls at hl ⊢
  have hl : lv_has ls 5 [(0, .ref h), (1, .int p0), (2, .int p1), (3, .ref o)] := hl
  refine lv_aload_n hx hb dL_slit_0 rfl (lv_at hl 3 rfl) ?_
  refine lv_iconst (v := 0) hx hb dL_slit_1 (by decide) ?_
  refine lv_aload_n hx hb dL_slit_2 rfl (lv_at hl 0 rfl) ?_
  refine lv_iload_n hx hb dL_slit_3 rfl (lv_at hl 1 rfl) ?_
  refine lv_iload_n hx hb dL_slit_4 rfl (lv_at hl 2 rfl) ?_
  have hFc := va_free (wc := [(h, .inr (16, [.ref l1, .ref l2, .ref l3, .ref l4, .ref l5, .ref l6, .ref l7, .ref l8, .ref l9, .ref ch, .ref co, .int 0, .int 4, .int (-40), .int 20, .int 0, .int 0, .int 100, .int 60, .int 14])), (l2, .inr (5, [.int 0, .ref e, .int 0]))]) hD hS hA [0, 1] rfl
  refine vx_callv (vx_runV (As := [.int p0, .int p1]) (rest := [.int 0, .ref o]) ⟨hx, hb, hml, hown, hts⟩ (c_X10_slit l hst D e h l1 l2 l3 l4 l5 l6 l7 l8 l9 ch co p0 p1 s.heap.size) (cwV 2 hts gL_slit_X10_slit rfl rfl rfl (by decide +kernel) ⟨Nat.le_of_ble_eq_true rfl, Nat.le_of_ble_eq_true rfl⟩) ⟨cIn_blind, va_recv hK hP (ci := 16) (q0 := 0) rfl rfl, cIn_go hK hP hD hE hS hA [0, 1] rfl rfl (by decide) [] rfl⟩ rfl rfl hl.1 rfl (lv_room (Nat.le_of_ble_eq_true rfl)) dL_slit_5 ⟨Nat.le_of_ble_eq_true rfl, Nat.le_of_ble_eq_true rfl⟩) hS (fun q _ h => hFc q h) hFc (fun q _ h => hFc q h) (fun E ce q9 u t H1 locs ht hvm hpx hB hz1 hk1 hS hce hcv hcl => ?_) (fun u t H1 locs ht hvm hw hB hz1 hk1 hS => ?_)
  · obtain ⟨rfl, hw⟩ := hB
    obtain ⟨hP, hD⟩ := cIn_rest (wc := [(h, .inr (16, [.ref l1, .ref l2, .ref l3, .ref l4, .ref l5, .ref l6, .ref l7, .ref l8, .ref l9, .ref ch, .ref co, .int 0, .int 4, .int (-40), .int 20, .int 0, .int 0, .int 100, .int 60, .int 14])), (l2, .inr (5, [.int 0, .ref e, .int 0]))]) (wr := [(o, .inl (cO, 1, .inr (.inl f0)))]) hP hD [0, 1] [2] rfl rfl (by decide) (by decide) hk1 hFc
    generalize H1 = H at hP hS hce ⊢
    have hP : va_P D vwCl [(o, .inl (cO, 1, .inr (.inl f0)))] H := hP
    have hD : va_D A [(o, .inl (cO, 1, .inr (.inl f0)))] := hD
    refine vx_catch (name := "java/lang/IndexOutOfBoundsException") (E := "java/lang/IndexOutOfBoundsException") hown [] ⟨0, 10, 13, 21⟩ [⟨0, 10, 17, 13⟩, ⟨0, 10, 21, 30⟩, ⟨0, 10, 25, 15⟩] (by rw [htab]; rfl) (fun z hz => by cases hz) (by decide) (by decide) (hts (.classLink RL 21 "java/lang/IndexOutOfBoundsException") (by decide +kernel)) (ev_u hE (w := .castable "java/lang/IndexOutOfBoundsException" "java/lang/IndexOutOfBoundsException") (by decide +kernel) rfl) hce hcv hcl ?_
    refine lv_astore (lv' := [(4, .ref q9), (0, .ref h), (1, .int p0), (2, .int p1), (3, .ref o)]) hx hb dL_slit_13 hl (by decide) rfl (fun ls hl => ?_)
    refine lv_iconst (v := 1) hx hb dL_slit_15 (by decide) ?_
    refine vx_ret ?_
    exact W.iret (v := 1) hx hb hr (fun t ht hW => ⟨⟨1, f0, rfl, rfl, ⟨by rw [ht]; exact hP.sub [0] rfl, va_K.moved hW.alike (hK.sub [0] rfl), hD.sub [0] (by decide) rfl⟩⟩, hS.F ht⟩) hS.2.2 dL_slit_16
  · exact hw.elim
-- L_burr
def v_L_burr (p0 : Int32) : Int32 := 1
set_option maxHeartbeats 4000000 in
set_option maxRecDepth 100000 in
theorem c_L_burr (l : Launch) (hst : l.stackTraces = false) (D : va_G) (e : Nat) (h : Nat) (l1 : Nat) (l2 : Nat) (l3 : Nat) (l4 : Nat) (l5 : Nat) (l6 : Nat) (l7 : Nat) (l8 : Nat) (l9 : Nat) (ch : Nat) (co : Nat) (o : Nat) (cO : ClassId) (f0 : Nat → Int64) (p0 : Int32) (sz : Nat) : vx_Met l yL_burr wsL_burr ({ frames := 18, cells := 1, slots := 6, locals := 400 }) (va_Pc [.ref h, .int p0, .ref o] (cIn D [(cO, .long)] [(h, .inr (16, [.ref l1, .ref l2, .ref l3, .ref l4, .ref l5, .ref l6, .ref l7, .ref l8, .ref l9, .ref ch, .ref co, .int 0, .int 4, .int (-40), .int 20, .int 0, .int 0, .int 100, .int 60, .int 14])), (l3, .inr (5, [.int 0, .ref e, .int 0])), (o, .inl (cO, 1, .inr (.inl f0)))] e sz)) (va_Qi (fun (r : Int32) (f : Nat → Int64) => r = v_L_burr p0) (fun (f : Nat → Int64) (t : State) => va_P D vwCl [(o, .inl (cO, 1, .inr (.inl f)))] t.heap ∧ va_K D vwCl [(cO, .long)] t ∧ va_D (va_A [(h, .inr (16, [.ref l1, .ref l2, .ref l3, .ref l4, .ref l5, .ref l6, .ref l7, .ref l8, .ref l9, .ref ch, .ref co, .int 0, .int 4, .int (-40), .int 20, .int 0, .int 0, .int 100, .int 60, .int 14])), (l3, .inr (5, [.int 0, .ref e, .int 0])), (o, .inl (cO, 1, .inr (.inl f0)))] sz) [(o, .inl (cO, 1, .inr (.inl f)))]) (va_A [(h, .inr (16, [.ref l1, .ref l2, .ref l3, .ref l4, .ref l5, .ref l6, .ref l7, .ref l8, .ref l9, .ref ch, .ref co, .int 0, .int 4, .int (-40), .int 20, .int 0, .int 0, .int 100, .int 60, .int 14])), (l3, .inr (5, [.int 0, .ref e, .int 0])), (o, .inl (cO, 1, .inr (.inl f0)))] sz)) (vx_X (fun _ : Unit => False) (fun (_ : String) (_ : Unit) (_ : State) => True) (va_A [(h, .inr (16, [.ref l1, .ref l2, .ref l3, .ref l4, .ref l5, .ref l6, .ref l7, .ref l8, .ref l9, .ref ch, .ref co, .int 0, .int 4, .int (-40), .int 20, .int 0, .int 0, .int 100, .int 60, .int 14])), (l3, .inr (5, [.int 0, .ref e, .int 0])), (o, .inl (cO, 1, .inr (.inl f0)))] sz)) 1 6 (va_A [(h, .inr (16, [.ref l1, .ref l2, .ref l3, .ref l4, .ref l5, .ref l6, .ref l7, .ref l8, .ref l9, .ref ch, .ref co, .int 0, .int 4, .int (-40), .int 20, .int 0, .int 0, .int 100, .int 60, .int 14])), (l3, .inr (5, [.int 0, .ref e, .int 0])), (o, .inl (cO, 1, .inr (.inl f0)))] sz) := by
  refine vx_ofWH (cc := cL_burr) (maxL := 4) (ret := (some .int)) (by decide +kernel) rfl ?_
  intro p e9 s m args below meth c s₁ B hml hv
  obtain ⟨rfl, hsz, hP, hK, hD0, hE0⟩ := hv
  have hx := B.exec
  have hb := B.bytes
  have hr := B.returns
  have hts := atoms_spec (ws := wsL_burr) B.pre
  have hown : s.vm.findClass RL = some m.cls := findClass_of_methodNamed B.named
  have hlocks := B.notSynchronized
  have htab := vx_table (x := yL_burr) B (hts (.codeWith yL_burr cL_burr 4 (some .int) [(0, 9, 12, 21)]) (show _ ∈ wsL_burr from List.mem_cons_self))
  subst hsz
  have hD := hD0.self (sz := s.heap.size)
  generalize hAe : va_A [(h, .inr (16, [.ref l1, .ref l2, .ref l3, .ref l4, .ref l5, .ref l6, .ref l7, .ref l8, .ref l9, .ref ch, .ref co, .int 0, .int 4, .int (-40), .int 20, .int 0, .int 0, .int 100, .int 60, .int 14])), (l3, .inr (5, [.int 0, .ref e, .int 0])), (o, .inl (cO, 1, .inr (.inl f0)))] s.heap.size = A at hD hE0 ⊢
  have hA : ∀ q : Nat, s.heap.size ≤ q → A q := fun q h => by rw [← hAe]; exact Or.inr h
  have hS : va_S A s.heap s.heap [] := va_S.rf
  have hE := hE0
  have hP : va_P D vwCl [(h, .inr (16, [.ref l1, .ref l2, .ref l3, .ref l4, .ref l5, .ref l6, .ref l7, .ref l8, .ref l9, .ref ch, .ref co, .int 0, .int 4, .int (-40), .int 20, .int 0, .int 0, .int 100, .int 60, .int 14])), (l3, .inr (5, [.int 0, .ref e, .int 0])), (o, .inl (cO, 1, .inr (.inl f0)))] s.heap := hP
  have hl := lv_entry ([.ref h, .int p0, .ref o]) (n := 4) (Nat.le_of_ble_eq_true rfl)
  rw [lg_entry_eq]
  generalize (lg_sl ([.ref h, .int p0, .ref o]) ++ List.replicate (4 - (lg_sl ([.ref h, .int p0, .ref o])).length) Slot.unset).toArray = ls at hl ⊢
  have hl : lv_has ls 4 [(0, .ref h), (1, .int p0), (2, .ref o)] := hl
  refine lv_aload_n hx hb dL_burr_0 rfl (lv_at hl 2 rfl) ?_
  refine lv_iconst (v := 0) hx hb dL_burr_1 (by decide) ?_
  refine lv_aload_n hx hb dL_burr_2 rfl (lv_at hl 0 rfl) ?_
  refine lv_iload_n hx hb dL_burr_3 rfl (lv_at hl 1 rfl) ?_
  have hFc := va_free (wc := [(h, .inr (16, [.ref l1, .ref l2, .ref l3, .ref l4, .ref l5, .ref l6, .ref l7, .ref l8, .ref l9, .ref ch, .ref co, .int 0, .int 4, .int (-40), .int 20, .int 0, .int 0, .int 100, .int 60, .int 14])), (l3, .inr (5, [.int 0, .ref e, .int 0]))]) hD hS hA [0, 1] rfl
  refine vx_callv (vx_runV (As := [.int p0]) (rest := [.int 0, .ref o]) ⟨hx, hb, hml, hown, hts⟩ (c_X10_burr l hst D e h l1 l2 l3 l4 l5 l6 l7 l8 l9 ch co p0 s.heap.size) (cwV 1 hts gL_burr_X10_burr rfl rfl rfl (by decide +kernel) ⟨Nat.le_of_ble_eq_true rfl, Nat.le_of_ble_eq_true rfl⟩) ⟨cIn_blind, va_recv hK hP (ci := 16) (q0 := 0) rfl rfl, cIn_go hK hP hD hE hS hA [0, 1] rfl rfl (by decide) [] rfl⟩ rfl rfl hl.1 rfl (lv_room (Nat.le_of_ble_eq_true rfl)) dL_burr_4 ⟨Nat.le_of_ble_eq_true rfl, Nat.le_of_ble_eq_true rfl⟩) hS (fun q _ h => hFc q h) hFc (fun q _ h => hFc q h) (fun E ce q9 u t H1 locs ht hvm hpx hB hz1 hk1 hS hce hcv hcl => ?_) (fun u t H1 locs ht hvm hw hB hz1 hk1 hS => ?_)
  · obtain ⟨rfl, hw⟩ := hB
    obtain ⟨hP, hD⟩ := cIn_rest (wc := [(h, .inr (16, [.ref l1, .ref l2, .ref l3, .ref l4, .ref l5, .ref l6, .ref l7, .ref l8, .ref l9, .ref ch, .ref co, .int 0, .int 4, .int (-40), .int 20, .int 0, .int 0, .int 100, .int 60, .int 14])), (l3, .inr (5, [.int 0, .ref e, .int 0]))]) (wr := [(o, .inl (cO, 1, .inr (.inl f0)))]) hP hD [0, 1] [2] rfl rfl (by decide) (by decide) hk1 hFc
    generalize H1 = H at hP hS hce ⊢
    have hP : va_P D vwCl [(o, .inl (cO, 1, .inr (.inl f0)))] H := hP
    have hD : va_D A [(o, .inl (cO, 1, .inr (.inl f0)))] := hD
    refine vx_catch (name := "java/lang/IndexOutOfBoundsException") (E := "java/lang/IndexOutOfBoundsException") hown [] ⟨0, 9, 12, 21⟩ [] (by rw [htab]; rfl) (fun z hz => by cases hz) (by decide) (by decide) (hts (.classLink RL 21 "java/lang/IndexOutOfBoundsException") (by decide +kernel)) (ev_u hE (w := .castable "java/lang/IndexOutOfBoundsException" "java/lang/IndexOutOfBoundsException") (by decide +kernel) rfl) hce hcv hcl ?_
    refine lv_astore_n (lv' := [(3, .ref q9), (0, .ref h), (1, .int p0), (2, .ref o)]) hx hb dL_burr_12 rfl hl (by decide) rfl (fun ls hl => ?_)
    refine lv_iconst (v := 1) hx hb dL_burr_13 (by decide) ?_
    refine vx_ret ?_
    exact W.iret (v := 1) hx hb hr (fun t ht hW => ⟨⟨1, f0, rfl, rfl, ⟨by rw [ht]; exact hP.sub [0] rfl, va_K.moved hW.alike (hK.sub [0] rfl), hD.sub [0] (by decide) rfl⟩⟩, hS.F ht⟩) hS.2.2 dL_burr_14
  · exact hw.elim
-- L_next
def v_L_next (p0 : Int32) : Int32 := 1
set_option maxHeartbeats 4000000 in
set_option maxRecDepth 100000 in
theorem c_L_next (l : Launch) (hst : l.stackTraces = false) (D : va_G) (e : Nat) (h : Nat) (l1 : Nat) (l2 : Nat) (l3 : Nat) (l4 : Nat) (l5 : Nat) (l6 : Nat) (l7 : Nat) (l8 : Nat) (l9 : Nat) (ch : Nat) (co : Nat) (o : Nat) (cO : ClassId) (f0 : Nat → Int64) (p0 : Int32) (sz : Nat) : vx_Met l yL_next wsL_next ({ frames := 18, cells := 1, slots := 6, locals := 400 }) (va_Pc [.ref h, .int p0, .ref o] (cIn D [(cO, .long)] [(h, .inr (16, [.ref l1, .ref l2, .ref l3, .ref l4, .ref l5, .ref l6, .ref l7, .ref l8, .ref l9, .ref ch, .ref co, .int 0, .int 4, .int (-40), .int 20, .int 0, .int 0, .int 100, .int 60, .int 14])), (l3, .inr (5, [.int 0, .ref e, .int 0])), (o, .inl (cO, 1, .inr (.inl f0)))] e sz)) (va_Qi (fun (r : Int32) (f : Nat → Int64) => r = v_L_next p0) (fun (f : Nat → Int64) (t : State) => va_P D vwCl [(o, .inl (cO, 1, .inr (.inl f)))] t.heap ∧ va_K D vwCl [(cO, .long)] t ∧ va_D (va_A [(h, .inr (16, [.ref l1, .ref l2, .ref l3, .ref l4, .ref l5, .ref l6, .ref l7, .ref l8, .ref l9, .ref ch, .ref co, .int 0, .int 4, .int (-40), .int 20, .int 0, .int 0, .int 100, .int 60, .int 14])), (l3, .inr (5, [.int 0, .ref e, .int 0])), (o, .inl (cO, 1, .inr (.inl f0)))] sz) [(o, .inl (cO, 1, .inr (.inl f)))]) (va_A [(h, .inr (16, [.ref l1, .ref l2, .ref l3, .ref l4, .ref l5, .ref l6, .ref l7, .ref l8, .ref l9, .ref ch, .ref co, .int 0, .int 4, .int (-40), .int 20, .int 0, .int 0, .int 100, .int 60, .int 14])), (l3, .inr (5, [.int 0, .ref e, .int 0])), (o, .inl (cO, 1, .inr (.inl f0)))] sz)) (vx_X (fun _ : Unit => False) (fun (_ : String) (_ : Unit) (_ : State) => True) (va_A [(h, .inr (16, [.ref l1, .ref l2, .ref l3, .ref l4, .ref l5, .ref l6, .ref l7, .ref l8, .ref l9, .ref ch, .ref co, .int 0, .int 4, .int (-40), .int 20, .int 0, .int 0, .int 100, .int 60, .int 14])), (l3, .inr (5, [.int 0, .ref e, .int 0])), (o, .inl (cO, 1, .inr (.inl f0)))] sz)) 1 6 (va_A [(h, .inr (16, [.ref l1, .ref l2, .ref l3, .ref l4, .ref l5, .ref l6, .ref l7, .ref l8, .ref l9, .ref ch, .ref co, .int 0, .int 4, .int (-40), .int 20, .int 0, .int 0, .int 100, .int 60, .int 14])), (l3, .inr (5, [.int 0, .ref e, .int 0])), (o, .inl (cO, 1, .inr (.inl f0)))] sz) := by
  refine vx_ofWH (cc := cL_next) (maxL := 4) (ret := (some .int)) (by decide +kernel) rfl ?_
  intro p e9 s m args below meth c s₁ B hml hv
  obtain ⟨rfl, hsz, hP, hK, hD0, hE0⟩ := hv
  have hx := B.exec
  have hb := B.bytes
  have hr := B.returns
  have hts := atoms_spec (ws := wsL_next) B.pre
  have hown : s.vm.findClass RL = some m.cls := findClass_of_methodNamed B.named
  have hlocks := B.notSynchronized
  have htab := vx_table (x := yL_next) B (hts (.codeWith yL_next cL_next 4 (some .int) [(0, 9, 12, 21)]) (show _ ∈ wsL_next from List.mem_cons_self))
  subst hsz
  have hD := hD0.self (sz := s.heap.size)
  generalize hAe : va_A [(h, .inr (16, [.ref l1, .ref l2, .ref l3, .ref l4, .ref l5, .ref l6, .ref l7, .ref l8, .ref l9, .ref ch, .ref co, .int 0, .int 4, .int (-40), .int 20, .int 0, .int 0, .int 100, .int 60, .int 14])), (l3, .inr (5, [.int 0, .ref e, .int 0])), (o, .inl (cO, 1, .inr (.inl f0)))] s.heap.size = A at hD hE0 ⊢
  have hA : ∀ q : Nat, s.heap.size ≤ q → A q := fun q h => by rw [← hAe]; exact Or.inr h
  have hS : va_S A s.heap s.heap [] := va_S.rf
  have hE := hE0
  have hP : va_P D vwCl [(h, .inr (16, [.ref l1, .ref l2, .ref l3, .ref l4, .ref l5, .ref l6, .ref l7, .ref l8, .ref l9, .ref ch, .ref co, .int 0, .int 4, .int (-40), .int 20, .int 0, .int 0, .int 100, .int 60, .int 14])), (l3, .inr (5, [.int 0, .ref e, .int 0])), (o, .inl (cO, 1, .inr (.inl f0)))] s.heap := hP
  have hl := lv_entry ([.ref h, .int p0, .ref o]) (n := 4) (Nat.le_of_ble_eq_true rfl)
  rw [lg_entry_eq]
  generalize (lg_sl ([.ref h, .int p0, .ref o]) ++ List.replicate (4 - (lg_sl ([.ref h, .int p0, .ref o])).length) Slot.unset).toArray = ls at hl ⊢
  have hl : lv_has ls 4 [(0, .ref h), (1, .int p0), (2, .ref o)] := hl
  refine lv_aload_n hx hb dL_next_0 rfl (lv_at hl 2 rfl) ?_
  refine lv_iconst (v := 0) hx hb dL_next_1 (by decide) ?_
  refine lv_aload_n hx hb dL_next_2 rfl (lv_at hl 0 rfl) ?_
  refine lv_iload_n hx hb dL_next_3 rfl (lv_at hl 1 rfl) ?_
  have hFc := va_free (wc := [(h, .inr (16, [.ref l1, .ref l2, .ref l3, .ref l4, .ref l5, .ref l6, .ref l7, .ref l8, .ref l9, .ref ch, .ref co, .int 0, .int 4, .int (-40), .int 20, .int 0, .int 0, .int 100, .int 60, .int 14])), (l3, .inr (5, [.int 0, .ref e, .int 0]))]) hD hS hA [0, 1] rfl
  refine vx_callv (vx_runV (As := [.int p0]) (rest := [.int 0, .ref o]) ⟨hx, hb, hml, hown, hts⟩ (c_X10_next l hst D e h l1 l2 l3 l4 l5 l6 l7 l8 l9 ch co p0 s.heap.size) (cwV 1 hts gL_next_X10_next rfl rfl rfl (by decide +kernel) ⟨Nat.le_of_ble_eq_true rfl, Nat.le_of_ble_eq_true rfl⟩) ⟨cIn_blind, va_recv hK hP (ci := 16) (q0 := 0) rfl rfl, cIn_go hK hP hD hE hS hA [0, 1] rfl rfl (by decide) [] rfl⟩ rfl rfl hl.1 rfl (lv_room (Nat.le_of_ble_eq_true rfl)) dL_next_4 ⟨Nat.le_of_ble_eq_true rfl, Nat.le_of_ble_eq_true rfl⟩) hS (fun q _ h => hFc q h) hFc (fun q _ h => hFc q h) (fun E ce q9 u t H1 locs ht hvm hpx hB hz1 hk1 hS hce hcv hcl => ?_) (fun u t H1 locs ht hvm hw hB hz1 hk1 hS => ?_)
  · obtain ⟨rfl, hw⟩ := hB
    obtain ⟨hP, hD⟩ := cIn_rest (wc := [(h, .inr (16, [.ref l1, .ref l2, .ref l3, .ref l4, .ref l5, .ref l6, .ref l7, .ref l8, .ref l9, .ref ch, .ref co, .int 0, .int 4, .int (-40), .int 20, .int 0, .int 0, .int 100, .int 60, .int 14])), (l3, .inr (5, [.int 0, .ref e, .int 0]))]) (wr := [(o, .inl (cO, 1, .inr (.inl f0)))]) hP hD [0, 1] [2] rfl rfl (by decide) (by decide) hk1 hFc
    generalize H1 = H at hP hS hce ⊢
    have hP : va_P D vwCl [(o, .inl (cO, 1, .inr (.inl f0)))] H := hP
    have hD : va_D A [(o, .inl (cO, 1, .inr (.inl f0)))] := hD
    refine vx_catch (name := "java/lang/IndexOutOfBoundsException") (E := "java/lang/IndexOutOfBoundsException") hown [] ⟨0, 9, 12, 21⟩ [] (by rw [htab]; rfl) (fun z hz => by cases hz) (by decide) (by decide) (hts (.classLink RL 21 "java/lang/IndexOutOfBoundsException") (by decide +kernel)) (ev_u hE (w := .castable "java/lang/IndexOutOfBoundsException" "java/lang/IndexOutOfBoundsException") (by decide +kernel) rfl) hce hcv hcl ?_
    refine lv_astore_n (lv' := [(3, .ref q9), (0, .ref h), (1, .int p0), (2, .ref o)]) hx hb dL_next_12 rfl hl (by decide) rfl (fun ls hl => ?_)
    refine lv_iconst (v := 1) hx hb dL_next_13 (by decide) ?_
    refine vx_ret ?_
    exact W.iret (v := 1) hx hb hr (fun t ht hW => ⟨⟨1, f0, rfl, rfl, ⟨by rw [ht]; exact hP.sub [0] rfl, va_K.moved hW.alike (hK.sub [0] rfl), hD.sub [0] (by decide) rfl⟩⟩, hS.F ht⟩) hS.2.2 dL_next_14
  · exact hw.elim
-- L_gap
def v_L_gap (p0 : Int32) : Int32 := if t_X10_gap p0 = 0 then 0 else 1
def o_L_gap (p0 : Int32) : Int64 := if t_X10_gap p0 = 0 then ((v_X10_gap p0).toInt64) else 0
set_option maxHeartbeats 4000000 in
set_option maxRecDepth 100000 in
theorem c_L_gap (l : Launch) (hst : l.stackTraces = false) (D : va_G) (e : Nat) (h : Nat) (l1 : Nat) (l2 : Nat) (l3 : Nat) (l4 : Nat) (l5 : Nat) (l6 : Nat) (l7 : Nat) (l8 : Nat) (l9 : Nat) (ch : Nat) (co : Nat) (o : Nat) (cO : ClassId) (f0 : Nat → Int64) (p0 : Int32) (sz : Nat) : vx_Met l yL_gap wsL_gap ({ frames := 16, cells := 1, slots := 6, locals := 340 }) (va_Pc [.ref h, .int p0, .ref o] (cIn D [(cO, .long)] [(h, .inr (16, [.ref l1, .ref l2, .ref l3, .ref l4, .ref l5, .ref l6, .ref l7, .ref l8, .ref l9, .ref ch, .ref co, .int 0, .int 4, .int (-40), .int 20, .int 0, .int 0, .int 100, .int 60, .int 14])), (o, .inl (cO, 1, .inr (.inl f0)))] e sz)) (va_Qi (fun (r : Int32) (f : Nat → Int64) => r = v_L_gap p0 ∧ (r = 0 → f 0 = o_L_gap p0)) (fun (f : Nat → Int64) (t : State) => va_P D vwCl [(o, .inl (cO, 1, .inr (.inl f)))] t.heap ∧ va_K D vwCl [(cO, .long)] t ∧ va_D (va_A [(h, .inr (16, [.ref l1, .ref l2, .ref l3, .ref l4, .ref l5, .ref l6, .ref l7, .ref l8, .ref l9, .ref ch, .ref co, .int 0, .int 4, .int (-40), .int 20, .int 0, .int 0, .int 100, .int 60, .int 14])), (o, .inl (cO, 1, .inr (.inl f0)))] sz) [(o, .inl (cO, 1, .inr (.inl f)))]) (va_A [(h, .inr (16, [.ref l1, .ref l2, .ref l3, .ref l4, .ref l5, .ref l6, .ref l7, .ref l8, .ref l9, .ref ch, .ref co, .int 0, .int 4, .int (-40), .int 20, .int 0, .int 0, .int 100, .int 60, .int 14])), (o, .inl (cO, 1, .inr (.inl f0)))] sz)) (vx_X (fun _ : Unit => False) (fun (_ : String) (_ : Unit) (_ : State) => True) (va_A [(h, .inr (16, [.ref l1, .ref l2, .ref l3, .ref l4, .ref l5, .ref l6, .ref l7, .ref l8, .ref l9, .ref ch, .ref co, .int 0, .int 4, .int (-40), .int 20, .int 0, .int 0, .int 100, .int 60, .int 14])), (o, .inl (cO, 1, .inr (.inl f0)))] sz)) 1 6 (va_A [(h, .inr (16, [.ref l1, .ref l2, .ref l3, .ref l4, .ref l5, .ref l6, .ref l7, .ref l8, .ref l9, .ref ch, .ref co, .int 0, .int 4, .int (-40), .int 20, .int 0, .int 0, .int 100, .int 60, .int 14])), (o, .inl (cO, 1, .inr (.inl f0)))] sz) := by
  refine vx_ofWH (cc := cL_gap) (maxL := 4) (ret := (some .int)) (by decide +kernel) rfl ?_
  intro p e9 s m args below meth c s₁ B hml hv
  obtain ⟨rfl, hsz, hP, hK, hD0, hE0⟩ := hv
  have hx := B.exec
  have hb := B.bytes
  have hr := B.returns
  have hts := atoms_spec (ws := wsL_gap) B.pre
  have hown : s.vm.findClass RL = some m.cls := findClass_of_methodNamed B.named
  have hlocks := B.notSynchronized
  have htab := vx_table (x := yL_gap) B (hts (.codeWith yL_gap cL_gap 4 (some .int) [(0, 9, 12, 13)]) (show _ ∈ wsL_gap from List.mem_cons_self))
  subst hsz
  have hD := hD0.self (sz := s.heap.size)
  generalize hAe : va_A [(h, .inr (16, [.ref l1, .ref l2, .ref l3, .ref l4, .ref l5, .ref l6, .ref l7, .ref l8, .ref l9, .ref ch, .ref co, .int 0, .int 4, .int (-40), .int 20, .int 0, .int 0, .int 100, .int 60, .int 14])), (o, .inl (cO, 1, .inr (.inl f0)))] s.heap.size = A at hD hE0 ⊢
  have hA : ∀ q : Nat, s.heap.size ≤ q → A q := fun q h => by rw [← hAe]; exact Or.inr h
  have hS : va_S A s.heap s.heap [] := va_S.rf
  have hE := hE0
  have hP : va_P D vwCl [(h, .inr (16, [.ref l1, .ref l2, .ref l3, .ref l4, .ref l5, .ref l6, .ref l7, .ref l8, .ref l9, .ref ch, .ref co, .int 0, .int 4, .int (-40), .int 20, .int 0, .int 0, .int 100, .int 60, .int 14])), (o, .inl (cO, 1, .inr (.inl f0)))] s.heap := hP
  have hl := lv_entry ([.ref h, .int p0, .ref o]) (n := 4) (Nat.le_of_ble_eq_true rfl)
  rw [lg_entry_eq]
  generalize (lg_sl ([.ref h, .int p0, .ref o]) ++ List.replicate (4 - (lg_sl ([.ref h, .int p0, .ref o])).length) Slot.unset).toArray = ls at hl ⊢
  have hl : lv_has ls 4 [(0, .ref h), (1, .int p0), (2, .ref o)] := hl
  refine lv_aload_n hx hb dL_gap_0 rfl (lv_at hl 2 rfl) ?_
  refine lv_iconst (v := 0) hx hb dL_gap_1 (by decide) ?_
  refine lv_aload_n hx hb dL_gap_2 rfl (lv_at hl 0 rfl) ?_
  refine lv_iload_n hx hb dL_gap_3 rfl (lv_at hl 1 rfl) ?_
  have hFc := va_free (wc := [(h, .inr (16, [.ref l1, .ref l2, .ref l3, .ref l4, .ref l5, .ref l6, .ref l7, .ref l8, .ref l9, .ref ch, .ref co, .int 0, .int 4, .int (-40), .int 20, .int 0, .int 0, .int 100, .int 60, .int 14]))]) hD hS hA [0] rfl
  refine vx_calli (vx_runV (As := [.int p0]) (rest := [.int 0, .ref o]) ⟨hx, hb, hml, hown, hts⟩ (c_X10_gap l hst D e h l1 l2 l3 l4 l5 l6 l7 l8 l9 ch co p0 s.heap.size) (cwV 1 hts gL_gap_X10_gap rfl rfl rfl (by decide +kernel) ⟨Nat.le_of_ble_eq_true rfl, Nat.le_of_ble_eq_true rfl⟩) ⟨cIn_blind, va_recv hK hP (ci := 16) (q0 := 0) rfl rfl, cIn_go hK hP hD hE hS hA [0] rfl rfl (by decide) [] rfl⟩ rfl rfl hl.1 rfl (lv_room (Nat.le_of_ble_eq_true rfl)) dL_gap_4 ⟨Nat.le_of_ble_eq_true rfl, Nat.le_of_ble_eq_true rfl⟩) hS (fun q _ h => hFc q h) hFc (fun q _ h => hFc q h) (fun E ce q9 u t H1 locs ht hvm hpx hB hz1 hk1 hS hce hcv hcl => ?_) (fun r_1 u t H1 locs ht hvm hw hB hz1 hk1 hS => ?_)
  · obtain ⟨rfl, hw⟩ := hB
    have c_3 : ¬ t_X10_gap p0 = 0 := by rw [hw]; decide
    obtain ⟨hP, hD⟩ := cIn_rest (wc := [(h, .inr (16, [.ref l1, .ref l2, .ref l3, .ref l4, .ref l5, .ref l6, .ref l7, .ref l8, .ref l9, .ref ch, .ref co, .int 0, .int 4, .int (-40), .int 20, .int 0, .int 0, .int 100, .int 60, .int 14]))]) (wr := [(o, .inl (cO, 1, .inr (.inl f0)))]) hP hD [0] [1] rfl rfl (by decide) (by decide) hk1 hFc
    generalize H1 = H at hP hS hce ⊢
    have hP : va_P D vwCl [(o, .inl (cO, 1, .inr (.inl f0)))] H := hP
    have hD : va_D A [(o, .inl (cO, 1, .inr (.inl f0)))] := hD
    refine vx_catch (name := "java/lang/IllegalArgumentException") (E := "java/lang/IllegalArgumentException") hown [] ⟨0, 9, 12, 13⟩ [] (by rw [htab]; rfl) (fun z hz => by cases hz) (by decide) (by decide) (hts (.classLink RL 13 "java/lang/IllegalArgumentException") (by decide +kernel)) (ev_u hE (w := .castable "java/lang/IllegalArgumentException" "java/lang/IllegalArgumentException") (by decide +kernel) rfl) hce hcv hcl ?_
    refine lv_astore_n (lv' := [(3, .ref q9), (0, .ref h), (1, .int p0), (2, .ref o)]) hx hb dL_gap_12 rfl hl (by decide) rfl (fun ls hl => ?_)
    refine lv_iconst (v := 1) hx hb dL_gap_13 (by decide) ?_
    refine vx_ret ?_
    exact W.iret (v := 1) hx hb hr (fun t ht hW => ⟨⟨1, f0, rfl, ⟨(by unfold v_L_gap; rw [if_neg c_3]), fun h => absurd h (by decide)⟩, ⟨by rw [ht]; exact hP.sub [0] rfl, va_K.moved hW.alike (hK.sub [0] rfl), hD.sub [0] (by decide) rfl⟩⟩, hS.F ht⟩) hS.2.2 dL_gap_14
  · obtain ⟨c_2, hw⟩ := hw
    obtain ⟨hP, hD⟩ := cIn_rest (wc := [(h, .inr (16, [.ref l1, .ref l2, .ref l3, .ref l4, .ref l5, .ref l6, .ref l7, .ref l8, .ref l9, .ref ch, .ref co, .int 0, .int 4, .int (-40), .int 20, .int 0, .int 0, .int 100, .int 60, .int 14]))]) (wr := [(o, .inl (cO, 1, .inr (.inl f0)))]) hP hD [0] [1] rfl rfl (by decide) (by decide) hk1 hFc
    generalize H1 = H at hP hS ⊢
    have hP : va_P D vwCl [(o, .inl (cO, 1, .inr (.inl f0)))] H := hP
    have hD : va_D A [(o, .inl (cO, 1, .inr (.inl f0)))] := hD
    refine W.widen (k := 1) (n := 6) (Nat.le_of_ble_eq_true rfl) (Nat.le_of_ble_eq_true rfl) ?_
    subst hw
    refine lv_i2l (v := (v_X10_gap p0).toInt64) hx hb dL_gap_7 rfl ?_
    refine va_last hx hb hK hP hD hS 0 0 rfl rfl (i := 0) (show ¬ ((0 : Int32) < 0 ∨ 1 ≤ (0 : Int32).toNatClampNeg) from by decide +kernel) dL_gap_8 (fun H locs hP hD hS => ?_)
    have hP : va_P D vwCl [(o, .inl (cO, 1, .inr (.inl (vp_updL f0 (0 : Int32).toNatClampNeg ((v_X10_gap p0).toInt64)))))] H := hP
    have hD : va_D A [(o, .inl (cO, 1, .inr (.inl (vp_updL f0 (0 : Int32).toNatClampNeg ((v_X10_gap p0).toInt64)))))] := hD
    refine lv_goto (tgt := 15) hx hb dL_gap_9 (by decide) ?_
    refine lv_iconst (v := 0) hx hb dL_gap_15 (by decide) ?_
    refine vx_ret ?_
    exact W.iret (v := 0) hx hb hr (fun t ht hW => ⟨⟨0, ((vp_updL f0 (0 : Int32).toNatClampNeg ((v_X10_gap p0).toInt64))), rfl, ⟨(by unfold v_L_gap; rw [if_pos c_2]), fun _ => (by unfold o_L_gap; rw [if_pos c_2]; exact updL0)⟩, ⟨by rw [ht]; exact hP.sub [0] rfl, va_K.moved hW.alike (hK.sub [0] rfl), hD.sub [0] (by decide) rfl⟩⟩, hS.F ht⟩) hS.2.2 dL_gap_16
-- L_dew
def v_L_dew (p0 : Int32) : Int32 := if t_X10_dew p0 = 0 then 0 else 1
def o_L_dew (p0 : Int32) : Int64 := if t_X10_dew p0 = 0 then ((v_X10_dew p0).toInt64) else 0
set_option maxHeartbeats 4000000 in
set_option maxRecDepth 100000 in
theorem c_L_dew (l : Launch) (hst : l.stackTraces = false) (D : va_G) (e : Nat) (h : Nat) (l1 : Nat) (l2 : Nat) (l3 : Nat) (l4 : Nat) (l5 : Nat) (l6 : Nat) (l7 : Nat) (l8 : Nat) (l9 : Nat) (ch : Nat) (co : Nat) (o : Nat) (cO : ClassId) (f0 : Nat → Int64) (p0 : Int32) (sz : Nat) : vx_Met l yL_dew wsL_dew ({ frames := 16, cells := 1, slots := 6, locals := 340 }) (va_Pc [.ref h, .int p0, .ref o] (cIn D [(cO, .long)] [(h, .inr (16, [.ref l1, .ref l2, .ref l3, .ref l4, .ref l5, .ref l6, .ref l7, .ref l8, .ref l9, .ref ch, .ref co, .int 0, .int 4, .int (-40), .int 20, .int 0, .int 0, .int 100, .int 60, .int 14])), (o, .inl (cO, 1, .inr (.inl f0)))] e sz)) (va_Qi (fun (r : Int32) (f : Nat → Int64) => r = v_L_dew p0 ∧ (r = 0 → f 0 = o_L_dew p0)) (fun (f : Nat → Int64) (t : State) => va_P D vwCl [(o, .inl (cO, 1, .inr (.inl f)))] t.heap ∧ va_K D vwCl [(cO, .long)] t ∧ va_D (va_A [(h, .inr (16, [.ref l1, .ref l2, .ref l3, .ref l4, .ref l5, .ref l6, .ref l7, .ref l8, .ref l9, .ref ch, .ref co, .int 0, .int 4, .int (-40), .int 20, .int 0, .int 0, .int 100, .int 60, .int 14])), (o, .inl (cO, 1, .inr (.inl f0)))] sz) [(o, .inl (cO, 1, .inr (.inl f)))]) (va_A [(h, .inr (16, [.ref l1, .ref l2, .ref l3, .ref l4, .ref l5, .ref l6, .ref l7, .ref l8, .ref l9, .ref ch, .ref co, .int 0, .int 4, .int (-40), .int 20, .int 0, .int 0, .int 100, .int 60, .int 14])), (o, .inl (cO, 1, .inr (.inl f0)))] sz)) (vx_X (fun _ : Unit => False) (fun (_ : String) (_ : Unit) (_ : State) => True) (va_A [(h, .inr (16, [.ref l1, .ref l2, .ref l3, .ref l4, .ref l5, .ref l6, .ref l7, .ref l8, .ref l9, .ref ch, .ref co, .int 0, .int 4, .int (-40), .int 20, .int 0, .int 0, .int 100, .int 60, .int 14])), (o, .inl (cO, 1, .inr (.inl f0)))] sz)) 1 6 (va_A [(h, .inr (16, [.ref l1, .ref l2, .ref l3, .ref l4, .ref l5, .ref l6, .ref l7, .ref l8, .ref l9, .ref ch, .ref co, .int 0, .int 4, .int (-40), .int 20, .int 0, .int 0, .int 100, .int 60, .int 14])), (o, .inl (cO, 1, .inr (.inl f0)))] sz) := by
  refine vx_ofWH (cc := cL_dew) (maxL := 4) (ret := (some .int)) (by decide +kernel) rfl ?_
  intro p e9 s m args below meth c s₁ B hml hv
  obtain ⟨rfl, hsz, hP, hK, hD0, hE0⟩ := hv
  have hx := B.exec
  have hb := B.bytes
  have hr := B.returns
  have hts := atoms_spec (ws := wsL_dew) B.pre
  have hown : s.vm.findClass RL = some m.cls := findClass_of_methodNamed B.named
  have hlocks := B.notSynchronized
  have htab := vx_table (x := yL_dew) B (hts (.codeWith yL_dew cL_dew 4 (some .int) [(0, 9, 12, 13)]) (show _ ∈ wsL_dew from List.mem_cons_self))
  subst hsz
  have hD := hD0.self (sz := s.heap.size)
  generalize hAe : va_A [(h, .inr (16, [.ref l1, .ref l2, .ref l3, .ref l4, .ref l5, .ref l6, .ref l7, .ref l8, .ref l9, .ref ch, .ref co, .int 0, .int 4, .int (-40), .int 20, .int 0, .int 0, .int 100, .int 60, .int 14])), (o, .inl (cO, 1, .inr (.inl f0)))] s.heap.size = A at hD hE0 ⊢
  have hA : ∀ q : Nat, s.heap.size ≤ q → A q := fun q h => by rw [← hAe]; exact Or.inr h
  have hS : va_S A s.heap s.heap [] := va_S.rf
  have hE := hE0
  have hP : va_P D vwCl [(h, .inr (16, [.ref l1, .ref l2, .ref l3, .ref l4, .ref l5, .ref l6, .ref l7, .ref l8, .ref l9, .ref ch, .ref co, .int 0, .int 4, .int (-40), .int 20, .int 0, .int 0, .int 100, .int 60, .int 14])), (o, .inl (cO, 1, .inr (.inl f0)))] s.heap := hP
  have hl := lv_entry ([.ref h, .int p0, .ref o]) (n := 4) (Nat.le_of_ble_eq_true rfl)
  rw [lg_entry_eq]
  generalize (lg_sl ([.ref h, .int p0, .ref o]) ++ List.replicate (4 - (lg_sl ([.ref h, .int p0, .ref o])).length) Slot.unset).toArray = ls at hl ⊢
  have hl : lv_has ls 4 [(0, .ref h), (1, .int p0), (2, .ref o)] := hl
  refine lv_aload_n hx hb dL_dew_0 rfl (lv_at hl 2 rfl) ?_
  refine lv_iconst (v := 0) hx hb dL_dew_1 (by decide) ?_
  refine lv_aload_n hx hb dL_dew_2 rfl (lv_at hl 0 rfl) ?_
  refine lv_iload_n hx hb dL_dew_3 rfl (lv_at hl 1 rfl) ?_
  have hFc := va_free (wc := [(h, .inr (16, [.ref l1, .ref l2, .ref l3, .ref l4, .ref l5, .ref l6, .ref l7, .ref l8, .ref l9, .ref ch, .ref co, .int 0, .int 4, .int (-40), .int 20, .int 0, .int 0, .int 100, .int 60, .int 14]))]) hD hS hA [0] rfl
  refine vx_calli (vx_runV (As := [.int p0]) (rest := [.int 0, .ref o]) ⟨hx, hb, hml, hown, hts⟩ (c_X10_dew l hst D e h l1 l2 l3 l4 l5 l6 l7 l8 l9 ch co p0 s.heap.size) (cwV 1 hts gL_dew_X10_dew rfl rfl rfl (by decide +kernel) ⟨Nat.le_of_ble_eq_true rfl, Nat.le_of_ble_eq_true rfl⟩) ⟨cIn_blind, va_recv hK hP (ci := 16) (q0 := 0) rfl rfl, cIn_go hK hP hD hE hS hA [0] rfl rfl (by decide) [] rfl⟩ rfl rfl hl.1 rfl (lv_room (Nat.le_of_ble_eq_true rfl)) dL_dew_4 ⟨Nat.le_of_ble_eq_true rfl, Nat.le_of_ble_eq_true rfl⟩) hS (fun q _ h => hFc q h) hFc (fun q _ h => hFc q h) (fun E ce q9 u t H1 locs ht hvm hpx hB hz1 hk1 hS hce hcv hcl => ?_) (fun r_1 u t H1 locs ht hvm hw hB hz1 hk1 hS => ?_)
  · obtain ⟨rfl, hw⟩ := hB
    have c_3 : ¬ t_X10_dew p0 = 0 := by rw [hw]; decide
    obtain ⟨hP, hD⟩ := cIn_rest (wc := [(h, .inr (16, [.ref l1, .ref l2, .ref l3, .ref l4, .ref l5, .ref l6, .ref l7, .ref l8, .ref l9, .ref ch, .ref co, .int 0, .int 4, .int (-40), .int 20, .int 0, .int 0, .int 100, .int 60, .int 14]))]) (wr := [(o, .inl (cO, 1, .inr (.inl f0)))]) hP hD [0] [1] rfl rfl (by decide) (by decide) hk1 hFc
    generalize H1 = H at hP hS hce ⊢
    have hP : va_P D vwCl [(o, .inl (cO, 1, .inr (.inl f0)))] H := hP
    have hD : va_D A [(o, .inl (cO, 1, .inr (.inl f0)))] := hD
    refine vx_catch (name := "java/lang/IllegalArgumentException") (E := "java/lang/IllegalArgumentException") hown [] ⟨0, 9, 12, 13⟩ [] (by rw [htab]; rfl) (fun z hz => by cases hz) (by decide) (by decide) (hts (.classLink RL 13 "java/lang/IllegalArgumentException") (by decide +kernel)) (ev_u hE (w := .castable "java/lang/IllegalArgumentException" "java/lang/IllegalArgumentException") (by decide +kernel) rfl) hce hcv hcl ?_
    refine lv_astore_n (lv' := [(3, .ref q9), (0, .ref h), (1, .int p0), (2, .ref o)]) hx hb dL_dew_12 rfl hl (by decide) rfl (fun ls hl => ?_)
    refine lv_iconst (v := 1) hx hb dL_dew_13 (by decide) ?_
    refine vx_ret ?_
    exact W.iret (v := 1) hx hb hr (fun t ht hW => ⟨⟨1, f0, rfl, ⟨(by unfold v_L_dew; rw [if_neg c_3]), fun h => absurd h (by decide)⟩, ⟨by rw [ht]; exact hP.sub [0] rfl, va_K.moved hW.alike (hK.sub [0] rfl), hD.sub [0] (by decide) rfl⟩⟩, hS.F ht⟩) hS.2.2 dL_dew_14
  · obtain ⟨c_2, hw⟩ := hw
    obtain ⟨hP, hD⟩ := cIn_rest (wc := [(h, .inr (16, [.ref l1, .ref l2, .ref l3, .ref l4, .ref l5, .ref l6, .ref l7, .ref l8, .ref l9, .ref ch, .ref co, .int 0, .int 4, .int (-40), .int 20, .int 0, .int 0, .int 100, .int 60, .int 14]))]) (wr := [(o, .inl (cO, 1, .inr (.inl f0)))]) hP hD [0] [1] rfl rfl (by decide) (by decide) hk1 hFc
    generalize H1 = H at hP hS ⊢
    have hP : va_P D vwCl [(o, .inl (cO, 1, .inr (.inl f0)))] H := hP
    have hD : va_D A [(o, .inl (cO, 1, .inr (.inl f0)))] := hD
    refine W.widen (k := 1) (n := 6) (Nat.le_of_ble_eq_true rfl) (Nat.le_of_ble_eq_true rfl) ?_
    subst hw
    refine lv_i2l (v := (v_X10_dew p0).toInt64) hx hb dL_dew_7 rfl ?_
    refine va_last hx hb hK hP hD hS 0 0 rfl rfl (i := 0) (show ¬ ((0 : Int32) < 0 ∨ 1 ≤ (0 : Int32).toNatClampNeg) from by decide +kernel) dL_dew_8 (fun H locs hP hD hS => ?_)
    have hP : va_P D vwCl [(o, .inl (cO, 1, .inr (.inl (vp_updL f0 (0 : Int32).toNatClampNeg ((v_X10_dew p0).toInt64)))))] H := hP
    have hD : va_D A [(o, .inl (cO, 1, .inr (.inl (vp_updL f0 (0 : Int32).toNatClampNeg ((v_X10_dew p0).toInt64)))))] := hD
    refine lv_goto (tgt := 15) hx hb dL_dew_9 (by decide) ?_
    refine lv_iconst (v := 0) hx hb dL_dew_15 (by decide) ?_
    refine vx_ret ?_
    exact W.iret (v := 0) hx hb hr (fun t ht hW => ⟨⟨0, ((vp_updL f0 (0 : Int32).toNatClampNeg ((v_X10_dew p0).toInt64))), rfl, ⟨(by unfold v_L_dew; rw [if_pos c_2]), fun _ => (by unfold o_L_dew; rw [if_pos c_2]; exact updL0)⟩, ⟨by rw [ht]; exact hP.sub [0] rfl, va_K.moved hW.alike (hK.sub [0] rfl), hD.sub [0] (by decide) rfl⟩⟩, hS.F ht⟩) hS.2.2 dL_dew_16
-- L_wind
def v_L_wind (p0 : Int32) (p1 : Int32) (p2 : Int32) : Int32 := 1
set_option maxHeartbeats 4000000 in
set_option maxRecDepth 100000 in
theorem c_L_wind (l : Launch) (hst : l.stackTraces = false) (D : va_G) (e : Nat) (h : Nat) (l1 : Nat) (l2 : Nat) (l3 : Nat) (l4 : Nat) (l5 : Nat) (l6 : Nat) (l7 : Nat) (l8 : Nat) (l9 : Nat) (ch : Nat) (co : Nat) (o : Nat) (cO : ClassId) (f0 : Nat → Int64) (p0 : Int32) (p1 : Int32) (p2 : Int32) (sz : Nat) : vx_Met l yL_wind wsL_wind ({ frames := 18, cells := 1, slots := 6, locals := 400 }) (va_Pc [.ref h, .int p0, .int p1, .int p2, .ref o] (cIn D [(cO, .long)] [(h, .inr (16, [.ref l1, .ref l2, .ref l3, .ref l4, .ref l5, .ref l6, .ref l7, .ref l8, .ref l9, .ref ch, .ref co, .int 0, .int 4, .int (-40), .int 20, .int 0, .int 0, .int 100, .int 60, .int 14])), (l3, .inr (5, [.int 0, .ref e, .int 0])), (o, .inl (cO, 1, .inr (.inl f0)))] e sz)) (va_Qi (fun (r : Int32) (f : Nat → Int64) => r = v_L_wind p0 p1 p2) (fun (f : Nat → Int64) (t : State) => va_P D vwCl [(o, .inl (cO, 1, .inr (.inl f)))] t.heap ∧ va_K D vwCl [(cO, .long)] t ∧ va_D (va_A [(h, .inr (16, [.ref l1, .ref l2, .ref l3, .ref l4, .ref l5, .ref l6, .ref l7, .ref l8, .ref l9, .ref ch, .ref co, .int 0, .int 4, .int (-40), .int 20, .int 0, .int 0, .int 100, .int 60, .int 14])), (l3, .inr (5, [.int 0, .ref e, .int 0])), (o, .inl (cO, 1, .inr (.inl f0)))] sz) [(o, .inl (cO, 1, .inr (.inl f)))]) (va_A [(h, .inr (16, [.ref l1, .ref l2, .ref l3, .ref l4, .ref l5, .ref l6, .ref l7, .ref l8, .ref l9, .ref ch, .ref co, .int 0, .int 4, .int (-40), .int 20, .int 0, .int 0, .int 100, .int 60, .int 14])), (l3, .inr (5, [.int 0, .ref e, .int 0])), (o, .inl (cO, 1, .inr (.inl f0)))] sz)) (vx_X (fun _ : Unit => False) (fun (_ : String) (_ : Unit) (_ : State) => True) (va_A [(h, .inr (16, [.ref l1, .ref l2, .ref l3, .ref l4, .ref l5, .ref l6, .ref l7, .ref l8, .ref l9, .ref ch, .ref co, .int 0, .int 4, .int (-40), .int 20, .int 0, .int 0, .int 100, .int 60, .int 14])), (l3, .inr (5, [.int 0, .ref e, .int 0])), (o, .inl (cO, 1, .inr (.inl f0)))] sz)) 1 6 (va_A [(h, .inr (16, [.ref l1, .ref l2, .ref l3, .ref l4, .ref l5, .ref l6, .ref l7, .ref l8, .ref l9, .ref ch, .ref co, .int 0, .int 4, .int (-40), .int 20, .int 0, .int 0, .int 100, .int 60, .int 14])), (l3, .inr (5, [.int 0, .ref e, .int 0])), (o, .inl (cO, 1, .inr (.inl f0)))] sz) := by
  refine vx_ofWH (cc := cL_wind) (maxL := 6) (ret := (some .int)) (by decide +kernel) rfl ?_
  intro p e9 s m args below meth c s₁ B hml hv
  obtain ⟨rfl, hsz, hP, hK, hD0, hE0⟩ := hv
  have hx := B.exec
  have hb := B.bytes
  have hr := B.returns
  have hts := atoms_spec (ws := wsL_wind) B.pre
  have hown : s.vm.findClass RL = some m.cls := findClass_of_methodNamed B.named
  have hlocks := B.notSynchronized
  have htab := vx_table (x := yL_wind) B (hts (.codeWith yL_wind cL_wind 6 (some .int) [(0, 12, 15, 21), (0, 12, 19, 13), (0, 12, 23, 30), (0, 12, 27, 15)]) (show _ ∈ wsL_wind from List.mem_cons_self))
  subst hsz
  have hD := hD0.self (sz := s.heap.size)
  generalize hAe : va_A [(h, .inr (16, [.ref l1, .ref l2, .ref l3, .ref l4, .ref l5, .ref l6, .ref l7, .ref l8, .ref l9, .ref ch, .ref co, .int 0, .int 4, .int (-40), .int 20, .int 0, .int 0, .int 100, .int 60, .int 14])), (l3, .inr (5, [.int 0, .ref e, .int 0])), (o, .inl (cO, 1, .inr (.inl f0)))] s.heap.size = A at hD hE0 ⊢
  have hA : ∀ q : Nat, s.heap.size ≤ q → A q := fun q h => by rw [← hAe]; exact Or.inr h
  have hS : va_S A s.heap s.heap [] := va_S.rf
  have hE := hE0
  have hP : va_P D vwCl [(h, .inr (16, [.ref l1, .ref l2, .ref l3, .ref l4, .ref l5, .ref l6, .ref l7, .ref l8, .ref l9, .ref ch, .ref co, .int 0, .int 4, .int (-40), .int 20, .int 0, .int 0, .int 100, .int 60, .int 14])), (l3, .inr (5, [.int 0, .ref e, .int 0])), (o, .inl (cO, 1, .inr (.inl f0)))] s.heap := hP
  have hl := lv_entry ([.ref h, .int p0, .int p1, .int p2, .ref o]) (n := 6) (Nat.le_of_ble_eq_true rfl)
  rw [lg_entry_eq]
  generalize (lg_sl ([.ref h, .int p0, .int p1, .int p2, .ref o]) ++ List.replicate (6 - (lg_sl ([.ref h, .int p0, .int p1, .int p2, .ref o])).length) Slot.unset).toArray = ls at hl ⊢
  have hl : lv_has ls 6 [(0, .ref h), (1, .int p0), (2, .int p1), (3, .int p2), (4, .ref o)] := hl
  refine lv_aload hx hb dL_wind_0 (lv_at hl 4 rfl) ?_
  refine lv_iconst (v := 0) hx hb dL_wind_2 (by decide) ?_
  refine lv_aload_n hx hb dL_wind_3 rfl (lv_at hl 0 rfl) ?_
  refine lv_iload_n hx hb dL_wind_4 rfl (lv_at hl 1 rfl) ?_
  refine lv_iload_n hx hb dL_wind_5 rfl (lv_at hl 2 rfl) ?_
  refine lv_iload_n hx hb dL_wind_6 rfl (lv_at hl 3 rfl) ?_
  have hFc := va_free (wc := [(h, .inr (16, [.ref l1, .ref l2, .ref l3, .ref l4, .ref l5, .ref l6, .ref l7, .ref l8, .ref l9, .ref ch, .ref co, .int 0, .int 4, .int (-40), .int 20, .int 0, .int 0, .int 100, .int 60, .int 14])), (l3, .inr (5, [.int 0, .ref e, .int 0]))]) hD hS hA [0, 1] rfl
  refine vx_callv (vx_runV (As := [.int p0, .int p1, .int p2]) (rest := [.int 0, .ref o]) ⟨hx, hb, hml, hown, hts⟩ (c_X10_wind l hst D e h l1 l2 l3 l4 l5 l6 l7 l8 l9 ch co p0 p1 p2 s.heap.size) (cwV 3 hts gL_wind_X10_wind rfl rfl rfl (by decide +kernel) ⟨Nat.le_of_ble_eq_true rfl, Nat.le_of_ble_eq_true rfl⟩) ⟨cIn_blind, va_recv hK hP (ci := 16) (q0 := 0) rfl rfl, cIn_go hK hP hD hE hS hA [0, 1] rfl rfl (by decide) [] rfl⟩ rfl rfl hl.1 rfl (lv_room (Nat.le_of_ble_eq_true rfl)) dL_wind_7 ⟨Nat.le_of_ble_eq_true rfl, Nat.le_of_ble_eq_true rfl⟩) hS (fun q _ h => hFc q h) hFc (fun q _ h => hFc q h) (fun E ce q9 u t H1 locs ht hvm hpx hB hz1 hk1 hS hce hcv hcl => ?_) (fun u t H1 locs ht hvm hw hB hz1 hk1 hS => ?_)
  · obtain ⟨rfl, hw⟩ := hB
    obtain ⟨hP, hD⟩ := cIn_rest (wc := [(h, .inr (16, [.ref l1, .ref l2, .ref l3, .ref l4, .ref l5, .ref l6, .ref l7, .ref l8, .ref l9, .ref ch, .ref co, .int 0, .int 4, .int (-40), .int 20, .int 0, .int 0, .int 100, .int 60, .int 14])), (l3, .inr (5, [.int 0, .ref e, .int 0]))]) (wr := [(o, .inl (cO, 1, .inr (.inl f0)))]) hP hD [0, 1] [2] rfl rfl (by decide) (by decide) hk1 hFc
    generalize H1 = H at hP hS hce ⊢
    have hP : va_P D vwCl [(o, .inl (cO, 1, .inr (.inl f0)))] H := hP
    have hD : va_D A [(o, .inl (cO, 1, .inr (.inl f0)))] := hD
    refine vx_catch (name := "java/lang/IndexOutOfBoundsException") (E := "java/lang/IndexOutOfBoundsException") hown [] ⟨0, 12, 15, 21⟩ [⟨0, 12, 19, 13⟩, ⟨0, 12, 23, 30⟩, ⟨0, 12, 27, 15⟩] (by rw [htab]; rfl) (fun z hz => by cases hz) (by decide) (by decide) (hts (.classLink RL 21 "java/lang/IndexOutOfBoundsException") (by decide +kernel)) (ev_u hE (w := .castable "java/lang/IndexOutOfBoundsException" "java/lang/IndexOutOfBoundsException") (by decide +kernel) rfl) hce hcv hcl ?_
    refine lv_astore (lv' := [(5, .ref q9), (0, .ref h), (1, .int p0), (2, .int p1), (3, .int p2), (4, .ref o)]) hx hb dL_wind_15 hl (by decide) rfl (fun ls hl => ?_)
    refine lv_iconst (v := 1) hx hb dL_wind_17 (by decide) ?_
    refine vx_ret ?_
    exact W.iret (v := 1) hx hb hr (fun t ht hW => ⟨⟨1, f0, rfl, rfl, ⟨by rw [ht]; exact hP.sub [0] rfl, va_K.moved hW.alike (hK.sub [0] rfl), hD.sub [0] (by decide) rfl⟩⟩, hS.F ht⟩) hS.2.2 dL_wind_18
  · exact hw.elim
-- L_cellAt
def v_L_cellAt (p0 : Int32) (p1 : Int32) : Int32 := 1
set_option maxHeartbeats 4000000 in
set_option maxRecDepth 100000 in
theorem c_L_cellAt (l : Launch) (hst : l.stackTraces = false) (D : va_G) (e : Nat) (h : Nat) (l1 : Nat) (l2 : Nat) (l3 : Nat) (l4 : Nat) (l5 : Nat) (l6 : Nat) (l7 : Nat) (l8 : Nat) (l9 : Nat) (ch : Nat) (co : Nat) (o : Nat) (cO : ClassId) (f0 : Nat → Int64) (p0 : Int32) (p1 : Int32) (sz : Nat) : vx_Met l yL_cellAt wsL_cellAt ({ frames := 18, cells := 1, slots := 6, locals := 400 }) (va_Pc [.ref h, .int p0, .int p1, .ref o] (cIn D [(cO, .long)] [(h, .inr (16, [.ref l1, .ref l2, .ref l3, .ref l4, .ref l5, .ref l6, .ref l7, .ref l8, .ref l9, .ref ch, .ref co, .int 0, .int 4, .int (-40), .int 20, .int 0, .int 0, .int 100, .int 60, .int 14])), (l4, .inr (5, [.int 0, .ref e, .int 0])), (o, .inl (cO, 1, .inr (.inl f0)))] e sz)) (va_Qi (fun (r : Int32) (f : Nat → Int64) => r = v_L_cellAt p0 p1) (fun (f : Nat → Int64) (t : State) => va_P D vwCl [(o, .inl (cO, 1, .inr (.inl f)))] t.heap ∧ va_K D vwCl [(cO, .long)] t ∧ va_D (va_A [(h, .inr (16, [.ref l1, .ref l2, .ref l3, .ref l4, .ref l5, .ref l6, .ref l7, .ref l8, .ref l9, .ref ch, .ref co, .int 0, .int 4, .int (-40), .int 20, .int 0, .int 0, .int 100, .int 60, .int 14])), (l4, .inr (5, [.int 0, .ref e, .int 0])), (o, .inl (cO, 1, .inr (.inl f0)))] sz) [(o, .inl (cO, 1, .inr (.inl f)))]) (va_A [(h, .inr (16, [.ref l1, .ref l2, .ref l3, .ref l4, .ref l5, .ref l6, .ref l7, .ref l8, .ref l9, .ref ch, .ref co, .int 0, .int 4, .int (-40), .int 20, .int 0, .int 0, .int 100, .int 60, .int 14])), (l4, .inr (5, [.int 0, .ref e, .int 0])), (o, .inl (cO, 1, .inr (.inl f0)))] sz)) (vx_X (fun _ : Unit => False) (fun (_ : String) (_ : Unit) (_ : State) => True) (va_A [(h, .inr (16, [.ref l1, .ref l2, .ref l3, .ref l4, .ref l5, .ref l6, .ref l7, .ref l8, .ref l9, .ref ch, .ref co, .int 0, .int 4, .int (-40), .int 20, .int 0, .int 0, .int 100, .int 60, .int 14])), (l4, .inr (5, [.int 0, .ref e, .int 0])), (o, .inl (cO, 1, .inr (.inl f0)))] sz)) 1 6 (va_A [(h, .inr (16, [.ref l1, .ref l2, .ref l3, .ref l4, .ref l5, .ref l6, .ref l7, .ref l8, .ref l9, .ref ch, .ref co, .int 0, .int 4, .int (-40), .int 20, .int 0, .int 0, .int 100, .int 60, .int 14])), (l4, .inr (5, [.int 0, .ref e, .int 0])), (o, .inl (cO, 1, .inr (.inl f0)))] sz) := by
  refine vx_ofWH (cc := cL_cellAt) (maxL := 5) (ret := (some .int)) (by decide +kernel) rfl ?_
  intro p e9 s m args below meth c s₁ B hml hv
  obtain ⟨rfl, hsz, hP, hK, hD0, hE0⟩ := hv
  have hx := B.exec
  have hb := B.bytes
  have hr := B.returns
  have hts := atoms_spec (ws := wsL_cellAt) B.pre
  have hown : s.vm.findClass RL = some m.cls := findClass_of_methodNamed B.named
  have hlocks := B.notSynchronized
  have htab := vx_table (x := yL_cellAt) B (hts (.codeWith yL_cellAt cL_cellAt 5 (some .int) [(0, 10, 13, 21), (0, 10, 17, 13)]) (show _ ∈ wsL_cellAt from List.mem_cons_self))
  subst hsz
  have hD := hD0.self (sz := s.heap.size)
  generalize hAe : va_A [(h, .inr (16, [.ref l1, .ref l2, .ref l3, .ref l4, .ref l5, .ref l6, .ref l7, .ref l8, .ref l9, .ref ch, .ref co, .int 0, .int 4, .int (-40), .int 20, .int 0, .int 0, .int 100, .int 60, .int 14])), (l4, .inr (5, [.int 0, .ref e, .int 0])), (o, .inl (cO, 1, .inr (.inl f0)))] s.heap.size = A at hD hE0 ⊢
  have hA : ∀ q : Nat, s.heap.size ≤ q → A q := fun q h => by rw [← hAe]; exact Or.inr h
  have hS : va_S A s.heap s.heap [] := va_S.rf
  have hE := hE0
  have hP : va_P D vwCl [(h, .inr (16, [.ref l1, .ref l2, .ref l3, .ref l4, .ref l5, .ref l6, .ref l7, .ref l8, .ref l9, .ref ch, .ref co, .int 0, .int 4, .int (-40), .int 20, .int 0, .int 0, .int 100, .int 60, .int 14])), (l4, .inr (5, [.int 0, .ref e, .int 0])), (o, .inl (cO, 1, .inr (.inl f0)))] s.heap := hP
  have hl := lv_entry ([.ref h, .int p0, .int p1, .ref o]) (n := 5) (Nat.le_of_ble_eq_true rfl)
  rw [lg_entry_eq]
  generalize (lg_sl ([.ref h, .int p0, .int p1, .ref o]) ++ List.replicate (5 - (lg_sl ([.ref h, .int p0, .int p1, .ref o])).length) Slot.unset).toArray = ls at hl ⊢
  have hl : lv_has ls 5 [(0, .ref h), (1, .int p0), (2, .int p1), (3, .ref o)] := hl
  refine lv_aload_n hx hb dL_cellAt_0 rfl (lv_at hl 3 rfl) ?_
  refine lv_iconst (v := 0) hx hb dL_cellAt_1 (by decide) ?_
  refine lv_aload_n hx hb dL_cellAt_2 rfl (lv_at hl 0 rfl) ?_
  refine lv_iload_n hx hb dL_cellAt_3 rfl (lv_at hl 1 rfl) ?_
  refine lv_iload_n hx hb dL_cellAt_4 rfl (lv_at hl 2 rfl) ?_
  have hFc := va_free (wc := [(h, .inr (16, [.ref l1, .ref l2, .ref l3, .ref l4, .ref l5, .ref l6, .ref l7, .ref l8, .ref l9, .ref ch, .ref co, .int 0, .int 4, .int (-40), .int 20, .int 0, .int 0, .int 100, .int 60, .int 14])), (l4, .inr (5, [.int 0, .ref e, .int 0]))]) hD hS hA [0, 1] rfl
  refine vx_callv (vx_runV (As := [.int p0, .int p1]) (rest := [.int 0, .ref o]) ⟨hx, hb, hml, hown, hts⟩ (c_X10_cellAt l hst D e h l1 l2 l3 l4 l5 l6 l7 l8 l9 ch co p0 p1 s.heap.size) (cwV 2 hts gL_cellAt_X10_cellAt rfl rfl rfl (by decide +kernel) ⟨Nat.le_of_ble_eq_true rfl, Nat.le_of_ble_eq_true rfl⟩) ⟨cIn_blind, va_recv hK hP (ci := 16) (q0 := 0) rfl rfl, cIn_go hK hP hD hE hS hA [0, 1] rfl rfl (by decide) [] rfl⟩ rfl rfl hl.1 rfl (lv_room (Nat.le_of_ble_eq_true rfl)) dL_cellAt_5 ⟨Nat.le_of_ble_eq_true rfl, Nat.le_of_ble_eq_true rfl⟩) hS (fun q _ h => hFc q h) hFc (fun q _ h => hFc q h) (fun E ce q9 u t H1 locs ht hvm hpx hB hz1 hk1 hS hce hcv hcl => ?_) (fun u t H1 locs ht hvm hw hB hz1 hk1 hS => ?_)
  · obtain ⟨rfl, hw⟩ := hB
    obtain ⟨hP, hD⟩ := cIn_rest (wc := [(h, .inr (16, [.ref l1, .ref l2, .ref l3, .ref l4, .ref l5, .ref l6, .ref l7, .ref l8, .ref l9, .ref ch, .ref co, .int 0, .int 4, .int (-40), .int 20, .int 0, .int 0, .int 100, .int 60, .int 14])), (l4, .inr (5, [.int 0, .ref e, .int 0]))]) (wr := [(o, .inl (cO, 1, .inr (.inl f0)))]) hP hD [0, 1] [2] rfl rfl (by decide) (by decide) hk1 hFc
    generalize H1 = H at hP hS hce ⊢
    have hP : va_P D vwCl [(o, .inl (cO, 1, .inr (.inl f0)))] H := hP
    have hD : va_D A [(o, .inl (cO, 1, .inr (.inl f0)))] := hD
    refine vx_catch (name := "java/lang/IndexOutOfBoundsException") (E := "java/lang/IndexOutOfBoundsException") hown [] ⟨0, 10, 13, 21⟩ [⟨0, 10, 17, 13⟩] (by rw [htab]; rfl) (fun z hz => by cases hz) (by decide) (by decide) (hts (.classLink RL 21 "java/lang/IndexOutOfBoundsException") (by decide +kernel)) (ev_u hE (w := .castable "java/lang/IndexOutOfBoundsException" "java/lang/IndexOutOfBoundsException") (by decide +kernel) rfl) hce hcv hcl ?_
    refine lv_astore (lv' := [(4, .ref q9), (0, .ref h), (1, .int p0), (2, .int p1), (3, .ref o)]) hx hb dL_cellAt_13 hl (by decide) rfl (fun ls hl => ?_)
    refine lv_iconst (v := 1) hx hb dL_cellAt_15 (by decide) ?_
    refine vx_ret ?_
    exact W.iret (v := 1) hx hb hr (fun t ht hW => ⟨⟨1, f0, rfl, rfl, ⟨by rw [ht]; exact hP.sub [0] rfl, va_K.moved hW.alike (hK.sub [0] rfl), hD.sub [0] (by decide) rfl⟩⟩, hS.F ht⟩) hS.2.2 dL_cellAt_16
  · exact hw.elim
-- L_isShort
def v_L_isShort (p0 : Int32) : Int32 := 1
set_option maxHeartbeats 4000000 in
set_option maxRecDepth 100000 in
theorem c_L_isShort (l : Launch) (hst : l.stackTraces = false) (D : va_G) (e : Nat) (h : Nat) (l1 : Nat) (l2 : Nat) (l3 : Nat) (l4 : Nat) (l5 : Nat) (l6 : Nat) (l7 : Nat) (l8 : Nat) (l9 : Nat) (ch : Nat) (co : Nat) (o : Nat) (cO : ClassId) (f0 : Nat → Int64) (p0 : Int32) (sz : Nat) : vx_Met l yL_isShort wsL_isShort ({ frames := 18, cells := 1, slots := 6, locals := 400 }) (va_Pc [.ref h, .int p0, .ref o] (cIn D [(cO, .long)] [(h, .inr (16, [.ref l1, .ref l2, .ref l3, .ref l4, .ref l5, .ref l6, .ref l7, .ref l8, .ref l9, .ref ch, .ref co, .int 0, .int 4, .int (-40), .int 20, .int 0, .int 0, .int 100, .int 60, .int 14])), (l4, .inr (5, [.int 0, .ref e, .int 0])), (o, .inl (cO, 1, .inr (.inl f0)))] e sz)) (va_Qi (fun (r : Int32) (f : Nat → Int64) => r = v_L_isShort p0) (fun (f : Nat → Int64) (t : State) => va_P D vwCl [(o, .inl (cO, 1, .inr (.inl f)))] t.heap ∧ va_K D vwCl [(cO, .long)] t ∧ va_D (va_A [(h, .inr (16, [.ref l1, .ref l2, .ref l3, .ref l4, .ref l5, .ref l6, .ref l7, .ref l8, .ref l9, .ref ch, .ref co, .int 0, .int 4, .int (-40), .int 20, .int 0, .int 0, .int 100, .int 60, .int 14])), (l4, .inr (5, [.int 0, .ref e, .int 0])), (o, .inl (cO, 1, .inr (.inl f0)))] sz) [(o, .inl (cO, 1, .inr (.inl f)))]) (va_A [(h, .inr (16, [.ref l1, .ref l2, .ref l3, .ref l4, .ref l5, .ref l6, .ref l7, .ref l8, .ref l9, .ref ch, .ref co, .int 0, .int 4, .int (-40), .int 20, .int 0, .int 0, .int 100, .int 60, .int 14])), (l4, .inr (5, [.int 0, .ref e, .int 0])), (o, .inl (cO, 1, .inr (.inl f0)))] sz)) (vx_X (fun _ : Unit => False) (fun (_ : String) (_ : Unit) (_ : State) => True) (va_A [(h, .inr (16, [.ref l1, .ref l2, .ref l3, .ref l4, .ref l5, .ref l6, .ref l7, .ref l8, .ref l9, .ref ch, .ref co, .int 0, .int 4, .int (-40), .int 20, .int 0, .int 0, .int 100, .int 60, .int 14])), (l4, .inr (5, [.int 0, .ref e, .int 0])), (o, .inl (cO, 1, .inr (.inl f0)))] sz)) 1 6 (va_A [(h, .inr (16, [.ref l1, .ref l2, .ref l3, .ref l4, .ref l5, .ref l6, .ref l7, .ref l8, .ref l9, .ref ch, .ref co, .int 0, .int 4, .int (-40), .int 20, .int 0, .int 0, .int 100, .int 60, .int 14])), (l4, .inr (5, [.int 0, .ref e, .int 0])), (o, .inl (cO, 1, .inr (.inl f0)))] sz) := by
  refine vx_ofWH (cc := cL_isShort) (maxL := 4) (ret := (some .int)) (by decide +kernel) rfl ?_
  intro p e9 s m args below meth c s₁ B hml hv
  obtain ⟨rfl, hsz, hP, hK, hD0, hE0⟩ := hv
  have hx := B.exec
  have hb := B.bytes
  have hr := B.returns
  have hts := atoms_spec (ws := wsL_isShort) B.pre
  have hown : s.vm.findClass RL = some m.cls := findClass_of_methodNamed B.named
  have hlocks := B.notSynchronized
  have htab := vx_table (x := yL_isShort) B (hts (.codeWith yL_isShort cL_isShort 4 (some .int) [(0, 16, 19, 21)]) (show _ ∈ wsL_isShort from List.mem_cons_self))
  subst hsz
  have hD := hD0.self (sz := s.heap.size)
  generalize hAe : va_A [(h, .inr (16, [.ref l1, .ref l2, .ref l3, .ref l4, .ref l5, .ref l6, .ref l7, .ref l8, .ref l9, .ref ch, .ref co, .int 0, .int 4, .int (-40), .int 20, .int 0, .int 0, .int 100, .int 60, .int 14])), (l4, .inr (5, [.int 0, .ref e, .int 0])), (o, .inl (cO, 1, .inr (.inl f0)))] s.heap.size = A at hD hE0 ⊢
  have hA : ∀ q : Nat, s.heap.size ≤ q → A q := fun q h => by rw [← hAe]; exact Or.inr h
  have hS : va_S A s.heap s.heap [] := va_S.rf
  have hE := hE0
  have hP : va_P D vwCl [(h, .inr (16, [.ref l1, .ref l2, .ref l3, .ref l4, .ref l5, .ref l6, .ref l7, .ref l8, .ref l9, .ref ch, .ref co, .int 0, .int 4, .int (-40), .int 20, .int 0, .int 0, .int 100, .int 60, .int 14])), (l4, .inr (5, [.int 0, .ref e, .int 0])), (o, .inl (cO, 1, .inr (.inl f0)))] s.heap := hP
  have hl := lv_entry ([.ref h, .int p0, .ref o]) (n := 4) (Nat.le_of_ble_eq_true rfl)
  rw [lg_entry_eq]
  generalize (lg_sl ([.ref h, .int p0, .ref o]) ++ List.replicate (4 - (lg_sl ([.ref h, .int p0, .ref o])).length) Slot.unset).toArray = ls at hl ⊢
  have hl : lv_has ls 4 [(0, .ref h), (1, .int p0), (2, .ref o)] := hl
  refine lv_aload_n hx hb dL_isShort_0 rfl (lv_at hl 2 rfl) ?_
  refine lv_iconst (v := 0) hx hb dL_isShort_1 (by decide) ?_
  refine lv_aload_n hx hb dL_isShort_2 rfl (lv_at hl 0 rfl) ?_
  refine lv_iload_n hx hb dL_isShort_3 rfl (lv_at hl 1 rfl) ?_
  have hFc := va_free (wc := [(h, .inr (16, [.ref l1, .ref l2, .ref l3, .ref l4, .ref l5, .ref l6, .ref l7, .ref l8, .ref l9, .ref ch, .ref co, .int 0, .int 4, .int (-40), .int 20, .int 0, .int 0, .int 100, .int 60, .int 14])), (l4, .inr (5, [.int 0, .ref e, .int 0]))]) hD hS hA [0, 1] rfl
  refine vx_callv (vx_runV (As := [.int p0]) (rest := [.int 0, .ref o]) ⟨hx, hb, hml, hown, hts⟩ (c_X10_isShort l hst D e h l1 l2 l3 l4 l5 l6 l7 l8 l9 ch co p0 s.heap.size) (cwV 1 hts gL_isShort_X10_isShort rfl rfl rfl (by decide +kernel) ⟨Nat.le_of_ble_eq_true rfl, Nat.le_of_ble_eq_true rfl⟩) ⟨cIn_blind, va_recv hK hP (ci := 16) (q0 := 0) rfl rfl, cIn_go hK hP hD hE hS hA [0, 1] rfl rfl (by decide) [] rfl⟩ rfl rfl hl.1 rfl (lv_room (Nat.le_of_ble_eq_true rfl)) dL_isShort_4 ⟨Nat.le_of_ble_eq_true rfl, Nat.le_of_ble_eq_true rfl⟩) hS (fun q _ h => hFc q h) hFc (fun q _ h => hFc q h) (fun E ce q9 u t H1 locs ht hvm hpx hB hz1 hk1 hS hce hcv hcl => ?_) (fun u t H1 locs ht hvm hw hB hz1 hk1 hS => ?_)
  · obtain ⟨rfl, hw⟩ := hB
    obtain ⟨hP, hD⟩ := cIn_rest (wc := [(h, .inr (16, [.ref l1, .ref l2, .ref l3, .ref l4, .ref l5, .ref l6, .ref l7, .ref l8, .ref l9, .ref ch, .ref co, .int 0, .int 4, .int (-40), .int 20, .int 0, .int 0, .int 100, .int 60, .int 14])), (l4, .inr (5, [.int 0, .ref e, .int 0]))]) (wr := [(o, .inl (cO, 1, .inr (.inl f0)))]) hP hD [0, 1] [2] rfl rfl (by decide) (by decide) hk1 hFc
    generalize H1 = H at hP hS hce ⊢
    have hP : va_P D vwCl [(o, .inl (cO, 1, .inr (.inl f0)))] H := hP
    have hD : va_D A [(o, .inl (cO, 1, .inr (.inl f0)))] := hD
    refine vx_catch (name := "java/lang/IndexOutOfBoundsException") (E := "java/lang/IndexOutOfBoundsException") hown [] ⟨0, 16, 19, 21⟩ [] (by rw [htab]; rfl) (fun z hz => by cases hz) (by decide) (by decide) (hts (.classLink RL 21 "java/lang/IndexOutOfBoundsException") (by decide +kernel)) (ev_u hE (w := .castable "java/lang/IndexOutOfBoundsException" "java/lang/IndexOutOfBoundsException") (by decide +kernel) rfl) hce hcv hcl ?_
    refine lv_astore_n (lv' := [(3, .ref q9), (0, .ref h), (1, .int p0), (2, .ref o)]) hx hb dL_isShort_19 rfl hl (by decide) rfl (fun ls hl => ?_)
    refine lv_iconst (v := 1) hx hb dL_isShort_20 (by decide) ?_
    refine vx_ret ?_
    exact W.iret (v := 1) hx hb hr (fun t ht hW => ⟨⟨1, f0, rfl, rfl, ⟨by rw [ht]; exact hP.sub [0] rfl, va_K.moved hW.alike (hK.sub [0] rfl), hD.sub [0] (by decide) rfl⟩⟩, hS.F ht⟩) hS.2.2 dL_isShort_21
  · exact hw.elim
-- L_isPlated
def v_L_isPlated (p0 : Int32) : Int32 := 1
set_option maxHeartbeats 4000000 in
set_option maxRecDepth 100000 in
theorem c_L_isPlated (l : Launch) (hst : l.stackTraces = false) (D : va_G) (e : Nat) (h : Nat) (l1 : Nat) (l2 : Nat) (l3 : Nat) (l4 : Nat) (l5 : Nat) (l6 : Nat) (l7 : Nat) (l8 : Nat) (l9 : Nat) (ch : Nat) (co : Nat) (o : Nat) (cO : ClassId) (f0 : Nat → Int64) (p0 : Int32) (sz : Nat) : vx_Met l yL_isPlated wsL_isPlated ({ frames := 18, cells := 1, slots := 6, locals := 400 }) (va_Pc [.ref h, .int p0, .ref o] (cIn D [(cO, .long)] [(h, .inr (16, [.ref l1, .ref l2, .ref l3, .ref l4, .ref l5, .ref l6, .ref l7, .ref l8, .ref l9, .ref ch, .ref co, .int 0, .int 4, .int (-40), .int 20, .int 0, .int 0, .int 100, .int 60, .int 14])), (l4, .inr (5, [.int 0, .ref e, .int 0])), (o, .inl (cO, 1, .inr (.inl f0)))] e sz)) (va_Qi (fun (r : Int32) (f : Nat → Int64) => r = v_L_isPlated p0) (fun (f : Nat → Int64) (t : State) => va_P D vwCl [(o, .inl (cO, 1, .inr (.inl f)))] t.heap ∧ va_K D vwCl [(cO, .long)] t ∧ va_D (va_A [(h, .inr (16, [.ref l1, .ref l2, .ref l3, .ref l4, .ref l5, .ref l6, .ref l7, .ref l8, .ref l9, .ref ch, .ref co, .int 0, .int 4, .int (-40), .int 20, .int 0, .int 0, .int 100, .int 60, .int 14])), (l4, .inr (5, [.int 0, .ref e, .int 0])), (o, .inl (cO, 1, .inr (.inl f0)))] sz) [(o, .inl (cO, 1, .inr (.inl f)))]) (va_A [(h, .inr (16, [.ref l1, .ref l2, .ref l3, .ref l4, .ref l5, .ref l6, .ref l7, .ref l8, .ref l9, .ref ch, .ref co, .int 0, .int 4, .int (-40), .int 20, .int 0, .int 0, .int 100, .int 60, .int 14])), (l4, .inr (5, [.int 0, .ref e, .int 0])), (o, .inl (cO, 1, .inr (.inl f0)))] sz)) (vx_X (fun _ : Unit => False) (fun (_ : String) (_ : Unit) (_ : State) => True) (va_A [(h, .inr (16, [.ref l1, .ref l2, .ref l3, .ref l4, .ref l5, .ref l6, .ref l7, .ref l8, .ref l9, .ref ch, .ref co, .int 0, .int 4, .int (-40), .int 20, .int 0, .int 0, .int 100, .int 60, .int 14])), (l4, .inr (5, [.int 0, .ref e, .int 0])), (o, .inl (cO, 1, .inr (.inl f0)))] sz)) 1 6 (va_A [(h, .inr (16, [.ref l1, .ref l2, .ref l3, .ref l4, .ref l5, .ref l6, .ref l7, .ref l8, .ref l9, .ref ch, .ref co, .int 0, .int 4, .int (-40), .int 20, .int 0, .int 0, .int 100, .int 60, .int 14])), (l4, .inr (5, [.int 0, .ref e, .int 0])), (o, .inl (cO, 1, .inr (.inl f0)))] sz) := by
  refine vx_ofWH (cc := cL_isPlated) (maxL := 4) (ret := (some .int)) (by decide +kernel) rfl ?_
  intro p e9 s m args below meth c s₁ B hml hv
  obtain ⟨rfl, hsz, hP, hK, hD0, hE0⟩ := hv
  have hx := B.exec
  have hb := B.bytes
  have hr := B.returns
  have hts := atoms_spec (ws := wsL_isPlated) B.pre
  have hown : s.vm.findClass RL = some m.cls := findClass_of_methodNamed B.named
  have hlocks := B.notSynchronized
  have htab := vx_table (x := yL_isPlated) B (hts (.codeWith yL_isPlated cL_isPlated 4 (some .int) [(0, 16, 19, 21)]) (show _ ∈ wsL_isPlated from List.mem_cons_self))
  subst hsz
  have hD := hD0.self (sz := s.heap.size)
  generalize hAe : va_A [(h, .inr (16, [.ref l1, .ref l2, .ref l3, .ref l4, .ref l5, .ref l6, .ref l7, .ref l8, .ref l9, .ref ch, .ref co, .int 0, .int 4, .int (-40), .int 20, .int 0, .int 0, .int 100, .int 60, .int 14])), (l4, .inr (5, [.int 0, .ref e, .int 0])), (o, .inl (cO, 1, .inr (.inl f0)))] s.heap.size = A at hD hE0 ⊢
  have hA : ∀ q : Nat, s.heap.size ≤ q → A q := fun q h => by rw [← hAe]; exact Or.inr h
  have hS : va_S A s.heap s.heap [] := va_S.rf
  have hE := hE0
  have hP : va_P D vwCl [(h, .inr (16, [.ref l1, .ref l2, .ref l3, .ref l4, .ref l5, .ref l6, .ref l7, .ref l8, .ref l9, .ref ch, .ref co, .int 0, .int 4, .int (-40), .int 20, .int 0, .int 0, .int 100, .int 60, .int 14])), (l4, .inr (5, [.int 0, .ref e, .int 0])), (o, .inl (cO, 1, .inr (.inl f0)))] s.heap := hP
  have hl := lv_entry ([.ref h, .int p0, .ref o]) (n := 4) (Nat.le_of_ble_eq_true rfl)
  rw [lg_entry_eq]
  generalize (lg_sl ([.ref h, .int p0, .ref o]) ++ List.replicate (4 - (lg_sl ([.ref h, .int p0, .ref o])).length) Slot.unset).toArray = ls at hl ⊢
  have hl : lv_has ls 4 [(0, .ref h), (1, .int p0), (2, .ref o)] := hl
  refine lv_aload_n hx hb dL_isPlated_0 rfl (lv_at hl 2 rfl) ?_
  refine lv_iconst (v := 0) hx hb dL_isPlated_1 (by decide) ?_
  refine lv_aload_n hx hb dL_isPlated_2 rfl (lv_at hl 0 rfl) ?_
  refine lv_iload_n hx hb dL_isPlated_3 rfl (lv_at hl 1 rfl) ?_
  have hFc := va_free (wc := [(h, .inr (16, [.ref l1, .ref l2, .ref l3, .ref l4, .ref l5, .ref l6, .ref l7, .ref l8, .ref l9, .ref ch, .ref co, .int 0, .int 4, .int (-40), .int 20, .int 0, .int 0, .int 100, .int 60, .int 14])), (l4, .inr (5, [.int 0, .ref e, .int 0]))]) hD hS hA [0, 1] rfl
  refine vx_callv (vx_runV (As := [.int p0]) (rest := [.int 0, .ref o]) ⟨hx, hb, hml, hown, hts⟩ (c_X10_isPlated l hst D e h l1 l2 l3 l4 l5 l6 l7 l8 l9 ch co p0 s.heap.size) (cwV 1 hts gL_isPlated_X10_isPlated rfl rfl rfl (by decide +kernel) ⟨Nat.le_of_ble_eq_true rfl, Nat.le_of_ble_eq_true rfl⟩) ⟨cIn_blind, va_recv hK hP (ci := 16) (q0 := 0) rfl rfl, cIn_go hK hP hD hE hS hA [0, 1] rfl rfl (by decide) [] rfl⟩ rfl rfl hl.1 rfl (lv_room (Nat.le_of_ble_eq_true rfl)) dL_isPlated_4 ⟨Nat.le_of_ble_eq_true rfl, Nat.le_of_ble_eq_true rfl⟩) hS (fun q _ h => hFc q h) hFc (fun q _ h => hFc q h) (fun E ce q9 u t H1 locs ht hvm hpx hB hz1 hk1 hS hce hcv hcl => ?_) (fun u t H1 locs ht hvm hw hB hz1 hk1 hS => ?_)
  · obtain ⟨rfl, hw⟩ := hB
    obtain ⟨hP, hD⟩ := cIn_rest (wc := [(h, .inr (16, [.ref l1, .ref l2, .ref l3, .ref l4, .ref l5, .ref l6, .ref l7, .ref l8, .ref l9, .ref ch, .ref co, .int 0, .int 4, .int (-40), .int 20, .int 0, .int 0, .int 100, .int 60, .int 14])), (l4, .inr (5, [.int 0, .ref e, .int 0]))]) (wr := [(o, .inl (cO, 1, .inr (.inl f0)))]) hP hD [0, 1] [2] rfl rfl (by decide) (by decide) hk1 hFc
    generalize H1 = H at hP hS hce ⊢
    have hP : va_P D vwCl [(o, .inl (cO, 1, .inr (.inl f0)))] H := hP
    have hD : va_D A [(o, .inl (cO, 1, .inr (.inl f0)))] := hD
    refine vx_catch (name := "java/lang/IndexOutOfBoundsException") (E := "java/lang/IndexOutOfBoundsException") hown [] ⟨0, 16, 19, 21⟩ [] (by rw [htab]; rfl) (fun z hz => by cases hz) (by decide) (by decide) (hts (.classLink RL 21 "java/lang/IndexOutOfBoundsException") (by decide +kernel)) (ev_u hE (w := .castable "java/lang/IndexOutOfBoundsException" "java/lang/IndexOutOfBoundsException") (by decide +kernel) rfl) hce hcv hcl ?_
    refine lv_astore_n (lv' := [(3, .ref q9), (0, .ref h), (1, .int p0), (2, .ref o)]) hx hb dL_isPlated_19 rfl hl (by decide) rfl (fun ls hl => ?_)
    refine lv_iconst (v := 1) hx hb dL_isPlated_20 (by decide) ?_
    refine vx_ret ?_
    exact W.iret (v := 1) hx hb hr (fun t ht hW => ⟨⟨1, f0, rfl, rfl, ⟨by rw [ht]; exact hP.sub [0] rfl, va_K.moved hW.alike (hK.sub [0] rfl), hD.sub [0] (by decide) rfl⟩⟩, hS.F ht⟩) hS.2.2 dL_isPlated_21
  · exact hw.elim
-- L_traced
def v_L_traced (p0 : Int32) (p1 : Int32) (p2 : Int32) : Int32 := 1
set_option maxHeartbeats 4000000 in
set_option maxRecDepth 100000 in
theorem c_L_traced (l : Launch) (hst : l.stackTraces = false) (D : va_G) (e : Nat) (h : Nat) (l1 : Nat) (l2 : Nat) (l3 : Nat) (l4 : Nat) (l5 : Nat) (l6 : Nat) (l7 : Nat) (l8 : Nat) (l9 : Nat) (ch : Nat) (co : Nat) (o : Nat) (cO : ClassId) (f0 : Nat → Int64) (p0 : Int32) (p1 : Int32) (p2 : Int32) (sz : Nat) : vx_Met l yL_traced wsL_traced ({ frames := 18, cells := 1, slots := 6, locals := 400 }) (va_Pc [.ref h, .int p0, .int p1, .int p2, .ref o] (cIn D [(cO, .long)] [(h, .inr (16, [.ref l1, .ref l2, .ref l3, .ref l4, .ref l5, .ref l6, .ref l7, .ref l8, .ref l9, .ref ch, .ref co, .int 0, .int 4, .int (-40), .int 20, .int 0, .int 0, .int 100, .int 60, .int 14])), (l4, .inr (5, [.int 0, .ref e, .int 0])), (o, .inl (cO, 1, .inr (.inl f0)))] e sz)) (va_Qi (fun (r : Int32) (f : Nat → Int64) => r = v_L_traced p0 p1 p2) (fun (f : Nat → Int64) (t : State) => va_P D vwCl [(o, .inl (cO, 1, .inr (.inl f)))] t.heap ∧ va_K D vwCl [(cO, .long)] t ∧ va_D (va_A [(h, .inr (16, [.ref l1, .ref l2, .ref l3, .ref l4, .ref l5, .ref l6, .ref l7, .ref l8, .ref l9, .ref ch, .ref co, .int 0, .int 4, .int (-40), .int 20, .int 0, .int 0, .int 100, .int 60, .int 14])), (l4, .inr (5, [.int 0, .ref e, .int 0])), (o, .inl (cO, 1, .inr (.inl f0)))] sz) [(o, .inl (cO, 1, .inr (.inl f)))]) (va_A [(h, .inr (16, [.ref l1, .ref l2, .ref l3, .ref l4, .ref l5, .ref l6, .ref l7, .ref l8, .ref l9, .ref ch, .ref co, .int 0, .int 4, .int (-40), .int 20, .int 0, .int 0, .int 100, .int 60, .int 14])), (l4, .inr (5, [.int 0, .ref e, .int 0])), (o, .inl (cO, 1, .inr (.inl f0)))] sz)) (vx_X (fun _ : Unit => False) (fun (_ : String) (_ : Unit) (_ : State) => True) (va_A [(h, .inr (16, [.ref l1, .ref l2, .ref l3, .ref l4, .ref l5, .ref l6, .ref l7, .ref l8, .ref l9, .ref ch, .ref co, .int 0, .int 4, .int (-40), .int 20, .int 0, .int 0, .int 100, .int 60, .int 14])), (l4, .inr (5, [.int 0, .ref e, .int 0])), (o, .inl (cO, 1, .inr (.inl f0)))] sz)) 1 6 (va_A [(h, .inr (16, [.ref l1, .ref l2, .ref l3, .ref l4, .ref l5, .ref l6, .ref l7, .ref l8, .ref l9, .ref ch, .ref co, .int 0, .int 4, .int (-40), .int 20, .int 0, .int 0, .int 100, .int 60, .int 14])), (l4, .inr (5, [.int 0, .ref e, .int 0])), (o, .inl (cO, 1, .inr (.inl f0)))] sz) := by
  refine vx_ofWH (cc := cL_traced) (maxL := 6) (ret := (some .int)) (by decide +kernel) rfl ?_
  intro p e9 s m args below meth c s₁ B hml hv
  obtain ⟨rfl, hsz, hP, hK, hD0, hE0⟩ := hv
  have hx := B.exec
  have hb := B.bytes
  have hr := B.returns
  have hts := atoms_spec (ws := wsL_traced) B.pre
  have hown : s.vm.findClass RL = some m.cls := findClass_of_methodNamed B.named
  have hlocks := B.notSynchronized
  have htab := vx_table (x := yL_traced) B (hts (.codeWith yL_traced cL_traced 6 (some .int) [(0, 12, 15, 21), (0, 12, 19, 79)]) (show _ ∈ wsL_traced from List.mem_cons_self))
  subst hsz
  have hD := hD0.self (sz := s.heap.size)
  generalize hAe : va_A [(h, .inr (16, [.ref l1, .ref l2, .ref l3, .ref l4, .ref l5, .ref l6, .ref l7, .ref l8, .ref l9, .ref ch, .ref co, .int 0, .int 4, .int (-40), .int 20, .int 0, .int 0, .int 100, .int 60, .int 14])), (l4, .inr (5, [.int 0, .ref e, .int 0])), (o, .inl (cO, 1, .inr (.inl f0)))] s.heap.size = A at hD hE0 ⊢
  have hA : ∀ q : Nat, s.heap.size ≤ q → A q := fun q h => by rw [← hAe]; exact Or.inr h
  have hS : va_S A s.heap s.heap [] := va_S.rf
  have hE := hE0
  have hP : va_P D vwCl [(h, .inr (16, [.ref l1, .ref l2, .ref l3, .ref l4, .ref l5, .ref l6, .ref l7, .ref l8, .ref l9, .ref ch, .ref co, .int 0, .int 4, .int (-40), .int 20, .int 0, .int 0, .int 100, .int 60, .int 14])), (l4, .inr (5, [.int 0, .ref e, .int 0])), (o, .inl (cO, 1, .inr (.inl f0)))] s.heap := hP
  have hl := lv_entry ([.ref h, .int p0, .int p1, .int p2, .ref o]) (n := 6) (Nat.le_of_ble_eq_true rfl)
  rw [lg_entry_eq]
  generalize (lg_sl ([.ref h, .int p0, .int p1, .int p2, .ref o]) ++ List.replicate (6 - (lg_sl ([.ref h, .int p0, .int p1, .int p2, .ref o])).length) Slot.unset).toArray = ls at hl ⊢
  have hl : lv_has ls 6 [(0, .ref h), (1, .int p0), (2, .int p1), (3, .int p2), (4, .ref o)] := hl
  refine lv_aload hx hb dL_traced_0 (lv_at hl 4 rfl) ?_
  refine lv_iconst (v := 0) hx hb dL_traced_2 (by decide) ?_
  refine lv_aload_n hx hb dL_traced_3 rfl (lv_at hl 0 rfl) ?_
  refine lv_iload_n hx hb dL_traced_4 rfl (lv_at hl 1 rfl) ?_
  refine lv_iload_n hx hb dL_traced_5 rfl (lv_at hl 2 rfl) ?_
  refine lv_iload_n hx hb dL_traced_6 rfl (lv_at hl 3 rfl) ?_
  have hFc := va_free (wc := [(h, .inr (16, [.ref l1, .ref l2, .ref l3, .ref l4, .ref l5, .ref l6, .ref l7, .ref l8, .ref l9, .ref ch, .ref co, .int 0, .int 4, .int (-40), .int 20, .int 0, .int 0, .int 100, .int 60, .int 14])), (l4, .inr (5, [.int 0, .ref e, .int 0]))]) hD hS hA [0, 1] rfl
  refine vx_callv (vx_runV (As := [.int p0, .int p1, .int p2]) (rest := [.int 0, .ref o]) ⟨hx, hb, hml, hown, hts⟩ (c_X10_traced l hst D e h l1 l2 l3 l4 l5 l6 l7 l8 l9 ch co p0 p1 p2 s.heap.size) (cwV 3 hts gL_traced_X10_traced rfl rfl rfl (by decide +kernel) ⟨Nat.le_of_ble_eq_true rfl, Nat.le_of_ble_eq_true rfl⟩) ⟨cIn_blind, va_recv hK hP (ci := 16) (q0 := 0) rfl rfl, cIn_go hK hP hD hE hS hA [0, 1] rfl rfl (by decide) [] rfl⟩ rfl rfl hl.1 rfl (lv_room (Nat.le_of_ble_eq_true rfl)) dL_traced_7 ⟨Nat.le_of_ble_eq_true rfl, Nat.le_of_ble_eq_true rfl⟩) hS (fun q _ h => hFc q h) hFc (fun q _ h => hFc q h) (fun E ce q9 u t H1 locs ht hvm hpx hB hz1 hk1 hS hce hcv hcl => ?_) (fun u t H1 locs ht hvm hw hB hz1 hk1 hS => ?_)
  · obtain ⟨rfl, hw⟩ := hB
    obtain ⟨hP, hD⟩ := cIn_rest (wc := [(h, .inr (16, [.ref l1, .ref l2, .ref l3, .ref l4, .ref l5, .ref l6, .ref l7, .ref l8, .ref l9, .ref ch, .ref co, .int 0, .int 4, .int (-40), .int 20, .int 0, .int 0, .int 100, .int 60, .int 14])), (l4, .inr (5, [.int 0, .ref e, .int 0]))]) (wr := [(o, .inl (cO, 1, .inr (.inl f0)))]) hP hD [0, 1] [2] rfl rfl (by decide) (by decide) hk1 hFc
    generalize H1 = H at hP hS hce ⊢
    have hP : va_P D vwCl [(o, .inl (cO, 1, .inr (.inl f0)))] H := hP
    have hD : va_D A [(o, .inl (cO, 1, .inr (.inl f0)))] := hD
    refine vx_catch (name := "java/lang/IndexOutOfBoundsException") (E := "java/lang/IndexOutOfBoundsException") hown [] ⟨0, 12, 15, 21⟩ [⟨0, 12, 19, 79⟩] (by rw [htab]; rfl) (fun z hz => by cases hz) (by decide) (by decide) (hts (.classLink RL 21 "java/lang/IndexOutOfBoundsException") (by decide +kernel)) (ev_u hE (w := .castable "java/lang/IndexOutOfBoundsException" "java/lang/IndexOutOfBoundsException") (by decide +kernel) rfl) hce hcv hcl ?_
    refine lv_astore (lv' := [(5, .ref q9), (0, .ref h), (1, .int p0), (2, .int p1), (3, .int p2), (4, .ref o)]) hx hb dL_traced_15 hl (by decide) rfl (fun ls hl => ?_)
    refine lv_iconst (v := 1) hx hb dL_traced_17 (by decide) ?_
    refine vx_ret ?_
    exact W.iret (v := 1) hx hb hr (fun t ht hW => ⟨⟨1, f0, rfl, rfl, ⟨by rw [ht]; exact hP.sub [0] rfl, va_K.moved hW.alike (hK.sub [0] rfl), hD.sub [0] (by decide) rfl⟩⟩, hS.F ht⟩) hS.2.2 dL_traced_18
  · exact hw.elim
-- L_fill
def v_L_fill (p0 : Int32) (p1 : Int32) : Int32 := 1
set_option maxHeartbeats 4000000 in
set_option maxRecDepth 100000 in
theorem c_L_fill (l : Launch) (hst : l.stackTraces = false) (D : va_G) (e : Nat) (h : Nat) (l1 : Nat) (l2 : Nat) (l3 : Nat) (l4 : Nat) (l5 : Nat) (l6 : Nat) (l7 : Nat) (l8 : Nat) (l9 : Nat) (ch : Nat) (co : Nat) (o : Nat) (cO : ClassId) (f0 : Nat → Int64) (p0 : Int32) (p1 : Int32) (sz : Nat) : vx_Met l yL_fill wsL_fill ({ frames := 18, cells := 1, slots := 6, locals := 400 }) (va_Pc [.ref h, .int p0, .int p1, .ref o] (cIn D [(cO, .long)] [(h, .inr (16, [.ref l1, .ref l2, .ref l3, .ref l4, .ref l5, .ref l6, .ref l7, .ref l8, .ref l9, .ref ch, .ref co, .int 0, .int 4, .int (-40), .int 20, .int 0, .int 0, .int 100, .int 60, .int 14])), (l4, .inr (5, [.int 0, .ref e, .int 0])), (o, .inl (cO, 1, .inr (.inl f0)))] e sz)) (va_Qi (fun (r : Int32) (f : Nat → Int64) => r = v_L_fill p0 p1) (fun (f : Nat → Int64) (t : State) => va_P D vwCl [(o, .inl (cO, 1, .inr (.inl f)))] t.heap ∧ va_K D vwCl [(cO, .long)] t ∧ va_D (va_A [(h, .inr (16, [.ref l1, .ref l2, .ref l3, .ref l4, .ref l5, .ref l6, .ref l7, .ref l8, .ref l9, .ref ch, .ref co, .int 0, .int 4, .int (-40), .int 20, .int 0, .int 0, .int 100, .int 60, .int 14])), (l4, .inr (5, [.int 0, .ref e, .int 0])), (o, .inl (cO, 1, .inr (.inl f0)))] sz) [(o, .inl (cO, 1, .inr (.inl f)))]) (va_A [(h, .inr (16, [.ref l1, .ref l2, .ref l3, .ref l4, .ref l5, .ref l6, .ref l7, .ref l8, .ref l9, .ref ch, .ref co, .int 0, .int 4, .int (-40), .int 20, .int 0, .int 0, .int 100, .int 60, .int 14])), (l4, .inr (5, [.int 0, .ref e, .int 0])), (o, .inl (cO, 1, .inr (.inl f0)))] sz)) (vx_X (fun _ : Unit => False) (fun (_ : String) (_ : Unit) (_ : State) => True) (va_A [(h, .inr (16, [.ref l1, .ref l2, .ref l3, .ref l4, .ref l5, .ref l6, .ref l7, .ref l8, .ref l9, .ref ch, .ref co, .int 0, .int 4, .int (-40), .int 20, .int 0, .int 0, .int 100, .int 60, .int 14])), (l4, .inr (5, [.int 0, .ref e, .int 0])), (o, .inl (cO, 1, .inr (.inl f0)))] sz)) 1 6 (va_A [(h, .inr (16, [.ref l1, .ref l2, .ref l3, .ref l4, .ref l5, .ref l6, .ref l7, .ref l8, .ref l9, .ref ch, .ref co, .int 0, .int 4, .int (-40), .int 20, .int 0, .int 0, .int 100, .int 60, .int 14])), (l4, .inr (5, [.int 0, .ref e, .int 0])), (o, .inl (cO, 1, .inr (.inl f0)))] sz) := by
  refine vx_ofWH (cc := cL_fill) (maxL := 5) (ret := (some .int)) (by decide +kernel) rfl ?_
  intro p e9 s m args below meth c s₁ B hml hv
  obtain ⟨rfl, hsz, hP, hK, hD0, hE0⟩ := hv
  have hx := B.exec
  have hb := B.bytes
  have hr := B.returns
  have hts := atoms_spec (ws := wsL_fill) B.pre
  have hown : s.vm.findClass RL = some m.cls := findClass_of_methodNamed B.named
  have hlocks := B.notSynchronized
  have htab := vx_table (x := yL_fill) B (hts (.codeWith yL_fill cL_fill 5 (some .int) [(0, 10, 13, 21), (0, 10, 17, 13), (0, 10, 21, 30)]) (show _ ∈ wsL_fill from List.mem_cons_self))
  subst hsz
  have hD := hD0.self (sz := s.heap.size)
  generalize hAe : va_A [(h, .inr (16, [.ref l1, .ref l2, .ref l3, .ref l4, .ref l5, .ref l6, .ref l7, .ref l8, .ref l9, .ref ch, .ref co, .int 0, .int 4, .int (-40), .int 20, .int 0, .int 0, .int 100, .int 60, .int 14])), (l4, .inr (5, [.int 0, .ref e, .int 0])), (o, .inl (cO, 1, .inr (.inl f0)))] s.heap.size = A at hD hE0 ⊢
  have hA : ∀ q : Nat, s.heap.size ≤ q → A q := fun q h => by rw [← hAe]; exact Or.inr h
  have hS : va_S A s.heap s.heap [] := va_S.rf
  have hE := hE0
  have hP : va_P D vwCl [(h, .inr (16, [.ref l1, .ref l2, .ref l3, .ref l4, .ref l5, .ref l6, .ref l7, .ref l8, .ref l9, .ref ch, .ref co, .int 0, .int 4, .int (-40), .int 20, .int 0, .int 0, .int 100, .int 60, .int 14])), (l4, .inr (5, [.int 0, .ref e, .int 0])), (o, .inl (cO, 1, .inr (.inl f0)))] s.heap := hP
  have hl := lv_entry ([.ref h, .int p0, .int p1, .ref o]) (n := 5) (Nat.le_of_ble_eq_true rfl)
  rw [lg_entry_eq]
  generalize (lg_sl ([.ref h, .int p0, .int p1, .ref o]) ++ List.replicate (5 - (lg_sl ([.ref h, .int p0, .int p1, .ref o])).length) Slot.unset).toArray = ls at hl ⊢
  have hl : lv_has ls 5 [(0, .ref h), (1, .int p0), (2, .int p1), (3, .ref o)] := hl
  refine lv_aload_n hx hb dL_fill_0 rfl (lv_at hl 3 rfl) ?_
  refine lv_iconst (v := 0) hx hb dL_fill_1 (by decide) ?_
  refine lv_aload_n hx hb dL_fill_2 rfl (lv_at hl 0 rfl) ?_
  refine lv_iload_n hx hb dL_fill_3 rfl (lv_at hl 1 rfl) ?_
  refine lv_iload_n hx hb dL_fill_4 rfl (lv_at hl 2 rfl) ?_
  have hFc := va_free (wc := [(h, .inr (16, [.ref l1, .ref l2, .ref l3, .ref l4, .ref l5, .ref l6, .ref l7, .ref l8, .ref l9, .ref ch, .ref co, .int 0, .int 4, .int (-40), .int 20, .int 0, .int 0, .int 100, .int 60, .int 14])), (l4, .inr (5, [.int 0, .ref e, .int 0]))]) hD hS hA [0, 1] rfl
  refine vx_callv (vx_runV (As := [.int p0, .int p1]) (rest := [.int 0, .ref o]) ⟨hx, hb, hml, hown, hts⟩ (c_X10_fill l hst D e h l1 l2 l3 l4 l5 l6 l7 l8 l9 ch co p0 p1 s.heap.size) (cwV 2 hts gL_fill_X10_fill rfl rfl rfl (by decide +kernel) ⟨Nat.le_of_ble_eq_true rfl, Nat.le_of_ble_eq_true rfl⟩) ⟨cIn_blind, va_recv hK hP (ci := 16) (q0 := 0) rfl rfl, cIn_go hK hP hD hE hS hA [0, 1] rfl rfl (by decide) [] rfl⟩ rfl rfl hl.1 rfl (lv_room (Nat.le_of_ble_eq_true rfl)) dL_fill_5 ⟨Nat.le_of_ble_eq_true rfl, Nat.le_of_ble_eq_true rfl⟩) hS (fun q _ h => hFc q h) hFc (fun q _ h => hFc q h) (fun E ce q9 u t H1 locs ht hvm hpx hB hz1 hk1 hS hce hcv hcl => ?_) (fun u t H1 locs ht hvm hw hB hz1 hk1 hS => ?_)
  · obtain ⟨rfl, hw⟩ := hB
    obtain ⟨hP, hD⟩ := cIn_rest (wc := [(h, .inr (16, [.ref l1, .ref l2, .ref l3, .ref l4, .ref l5, .ref l6, .ref l7, .ref l8, .ref l9, .ref ch, .ref co, .int 0, .int 4, .int (-40), .int 20, .int 0, .int 0, .int 100, .int 60, .int 14])), (l4, .inr (5, [.int 0, .ref e, .int 0]))]) (wr := [(o, .inl (cO, 1, .inr (.inl f0)))]) hP hD [0, 1] [2] rfl rfl (by decide) (by decide) hk1 hFc
    generalize H1 = H at hP hS hce ⊢
    have hP : va_P D vwCl [(o, .inl (cO, 1, .inr (.inl f0)))] H := hP
    have hD : va_D A [(o, .inl (cO, 1, .inr (.inl f0)))] := hD
    refine vx_catch (name := "java/lang/IndexOutOfBoundsException") (E := "java/lang/IndexOutOfBoundsException") hown [] ⟨0, 10, 13, 21⟩ [⟨0, 10, 17, 13⟩, ⟨0, 10, 21, 30⟩] (by rw [htab]; rfl) (fun z hz => by cases hz) (by decide) (by decide) (hts (.classLink RL 21 "java/lang/IndexOutOfBoundsException") (by decide +kernel)) (ev_u hE (w := .castable "java/lang/IndexOutOfBoundsException" "java/lang/IndexOutOfBoundsException") (by decide +kernel) rfl) hce hcv hcl ?_
    refine lv_astore (lv' := [(4, .ref q9), (0, .ref h), (1, .int p0), (2, .int p1), (3, .ref o)]) hx hb dL_fill_13 hl (by decide) rfl (fun ls hl => ?_)
    refine lv_iconst (v := 1) hx hb dL_fill_15 (by decide) ?_
    refine vx_ret ?_
    exact W.iret (v := 1) hx hb hr (fun t ht hW => ⟨⟨1, f0, rfl, rfl, ⟨by rw [ht]; exact hP.sub [0] rfl, va_K.moved hW.alike (hK.sub [0] rfl), hD.sub [0] (by decide) rfl⟩⟩, hS.F ht⟩) hS.2.2 dL_fill_16
  · exact hw.elim
-- L_room
def v_L_room (p0 : Int32) : Int32 := if t_X10_room p0 = 0 then 0 else 1
def o_L_room (p0 : Int32) : Int64 := if t_X10_room p0 = 0 then ((v_X10_room p0).toInt64) else 0
set_option maxHeartbeats 4000000 in
set_option maxRecDepth 100000 in
theorem c_L_room (l : Launch) (hst : l.stackTraces = false) (D : va_G) (e : Nat) (h : Nat) (l1 : Nat) (l2 : Nat) (l3 : Nat) (l4 : Nat) (l5 : Nat) (l6 : Nat) (l7 : Nat) (l8 : Nat) (l9 : Nat) (ch : Nat) (co : Nat) (o : Nat) (cO : ClassId) (f0 : Nat → Int64) (p0 : Int32) (sz : Nat) : vx_Met l yL_room wsL_room ({ frames := 16, cells := 1, slots := 6, locals := 340 }) (va_Pc [.ref h, .int p0, .ref o] (cIn D [(cO, .long)] [(h, .inr (16, [.ref l1, .ref l2, .ref l3, .ref l4, .ref l5, .ref l6, .ref l7, .ref l8, .ref l9, .ref ch, .ref co, .int 0, .int 4, .int (-40), .int 20, .int 0, .int 0, .int 100, .int 60, .int 14])), (o, .inl (cO, 1, .inr (.inl f0)))] e sz)) (va_Qi (fun (r : Int32) (f : Nat → Int64) => r = v_L_room p0 ∧ (r = 0 → f 0 = o_L_room p0)) (fun (f : Nat → Int64) (t : State) => va_P D vwCl [(o, .inl (cO, 1, .inr (.inl f)))] t.heap ∧ va_K D vwCl [(cO, .long)] t ∧ va_D (va_A [(h, .inr (16, [.ref l1, .ref l2, .ref l3, .ref l4, .ref l5, .ref l6, .ref l7, .ref l8, .ref l9, .ref ch, .ref co, .int 0, .int 4, .int (-40), .int 20, .int 0, .int 0, .int 100, .int 60, .int 14])), (o, .inl (cO, 1, .inr (.inl f0)))] sz) [(o, .inl (cO, 1, .inr (.inl f)))]) (va_A [(h, .inr (16, [.ref l1, .ref l2, .ref l3, .ref l4, .ref l5, .ref l6, .ref l7, .ref l8, .ref l9, .ref ch, .ref co, .int 0, .int 4, .int (-40), .int 20, .int 0, .int 0, .int 100, .int 60, .int 14])), (o, .inl (cO, 1, .inr (.inl f0)))] sz)) (vx_X (fun _ : Unit => False) (fun (_ : String) (_ : Unit) (_ : State) => True) (va_A [(h, .inr (16, [.ref l1, .ref l2, .ref l3, .ref l4, .ref l5, .ref l6, .ref l7, .ref l8, .ref l9, .ref ch, .ref co, .int 0, .int 4, .int (-40), .int 20, .int 0, .int 0, .int 100, .int 60, .int 14])), (o, .inl (cO, 1, .inr (.inl f0)))] sz)) 1 6 (va_A [(h, .inr (16, [.ref l1, .ref l2, .ref l3, .ref l4, .ref l5, .ref l6, .ref l7, .ref l8, .ref l9, .ref ch, .ref co, .int 0, .int 4, .int (-40), .int 20, .int 0, .int 0, .int 100, .int 60, .int 14])), (o, .inl (cO, 1, .inr (.inl f0)))] sz) := by
  refine vx_ofWH (cc := cL_room) (maxL := 4) (ret := (some .int)) (by decide +kernel) rfl ?_
  intro p e9 s m args below meth c s₁ B hml hv
  obtain ⟨rfl, hsz, hP, hK, hD0, hE0⟩ := hv
  have hx := B.exec
  have hb := B.bytes
  have hr := B.returns
  have hts := atoms_spec (ws := wsL_room) B.pre
  have hown : s.vm.findClass RL = some m.cls := findClass_of_methodNamed B.named
  have hlocks := B.notSynchronized
  have htab := vx_table (x := yL_room) B (hts (.codeWith yL_room cL_room 4 (some .int) [(0, 9, 12, 13)]) (show _ ∈ wsL_room from List.mem_cons_self))
  subst hsz
  have hD := hD0.self (sz := s.heap.size)
  generalize hAe : va_A [(h, .inr (16, [.ref l1, .ref l2, .ref l3, .ref l4, .ref l5, .ref l6, .ref l7, .ref l8, .ref l9, .ref ch, .ref co, .int 0, .int 4, .int (-40), .int 20, .int 0, .int 0, .int 100, .int 60, .int 14])), (o, .inl (cO, 1, .inr (.inl f0)))] s.heap.size = A at hD hE0 ⊢
  have hA : ∀ q : Nat, s.heap.size ≤ q → A q := fun q h => by rw [← hAe]; exact Or.inr h
  have hS : va_S A s.heap s.heap [] := va_S.rf
  have hE := hE0
  have hP : va_P D vwCl [(h, .inr (16, [.ref l1, .ref l2, .ref l3, .ref l4, .ref l5, .ref l6, .ref l7, .ref l8, .ref l9, .ref ch, .ref co, .int 0, .int 4, .int (-40), .int 20, .int 0, .int 0, .int 100, .int 60, .int 14])), (o, .inl (cO, 1, .inr (.inl f0)))] s.heap := hP
  have hl := lv_entry ([.ref h, .int p0, .ref o]) (n := 4) (Nat.le_of_ble_eq_true rfl)
  rw [lg_entry_eq]
  generalize (lg_sl ([.ref h, .int p0, .ref o]) ++ List.replicate (4 - (lg_sl ([.ref h, .int p0, .ref o])).length) Slot.unset).toArray = ls at hl ⊢
  have hl : lv_has ls 4 [(0, .ref h), (1, .int p0), (2, .ref o)] := hl
  refine lv_aload_n hx hb dL_room_0 rfl (lv_at hl 2 rfl) ?_
  refine lv_iconst (v := 0) hx hb dL_room_1 (by decide) ?_
  refine lv_aload_n hx hb dL_room_2 rfl (lv_at hl 0 rfl) ?_
  refine lv_iload_n hx hb dL_room_3 rfl (lv_at hl 1 rfl) ?_
  have hFc := va_free (wc := [(h, .inr (16, [.ref l1, .ref l2, .ref l3, .ref l4, .ref l5, .ref l6, .ref l7, .ref l8, .ref l9, .ref ch, .ref co, .int 0, .int 4, .int (-40), .int 20, .int 0, .int 0, .int 100, .int 60, .int 14]))]) hD hS hA [0] rfl
  refine vx_calli (vx_runV (As := [.int p0]) (rest := [.int 0, .ref o]) ⟨hx, hb, hml, hown, hts⟩ (c_X10_room l hst D e h l1 l2 l3 l4 l5 l6 l7 l8 l9 ch co p0 s.heap.size) (cwV 1 hts gL_room_X10_room rfl rfl rfl (by decide +kernel) ⟨Nat.le_of_ble_eq_true rfl, Nat.le_of_ble_eq_true rfl⟩) ⟨cIn_blind, va_recv hK hP (ci := 16) (q0 := 0) rfl rfl, cIn_go hK hP hD hE hS hA [0] rfl rfl (by decide) [] rfl⟩ rfl rfl hl.1 rfl (lv_room (Nat.le_of_ble_eq_true rfl)) dL_room_4 ⟨Nat.le_of_ble_eq_true rfl, Nat.le_of_ble_eq_true rfl⟩) hS (fun q _ h => hFc q h) hFc (fun q _ h => hFc q h) (fun E ce q9 u t H1 locs ht hvm hpx hB hz1 hk1 hS hce hcv hcl => ?_) (fun r_1 u t H1 locs ht hvm hw hB hz1 hk1 hS => ?_)
  · obtain ⟨rfl, hw⟩ := hB
    have c_3 : ¬ t_X10_room p0 = 0 := by rw [hw]; decide
    obtain ⟨hP, hD⟩ := cIn_rest (wc := [(h, .inr (16, [.ref l1, .ref l2, .ref l3, .ref l4, .ref l5, .ref l6, .ref l7, .ref l8, .ref l9, .ref ch, .ref co, .int 0, .int 4, .int (-40), .int 20, .int 0, .int 0, .int 100, .int 60, .int 14]))]) (wr := [(o, .inl (cO, 1, .inr (.inl f0)))]) hP hD [0] [1] rfl rfl (by decide) (by decide) hk1 hFc
    generalize H1 = H at hP hS hce ⊢
    have hP : va_P D vwCl [(o, .inl (cO, 1, .inr (.inl f0)))] H := hP
    have hD : va_D A [(o, .inl (cO, 1, .inr (.inl f0)))] := hD
    refine vx_catch (name := "java/lang/IllegalArgumentException") (E := "java/lang/IllegalArgumentException") hown [] ⟨0, 9, 12, 13⟩ [] (by rw [htab]; rfl) (fun z hz => by cases hz) (by decide) (by decide) (hts (.classLink RL 13 "java/lang/IllegalArgumentException") (by decide +kernel)) (ev_u hE (w := .castable "java/lang/IllegalArgumentException" "java/lang/IllegalArgumentException") (by decide +kernel) rfl) hce hcv hcl ?_
    refine lv_astore_n (lv' := [(3, .ref q9), (0, .ref h), (1, .int p0), (2, .ref o)]) hx hb dL_room_12 rfl hl (by decide) rfl (fun ls hl => ?_)
    refine lv_iconst (v := 1) hx hb dL_room_13 (by decide) ?_
    refine vx_ret ?_
    exact W.iret (v := 1) hx hb hr (fun t ht hW => ⟨⟨1, f0, rfl, ⟨(by unfold v_L_room; rw [if_neg c_3]), fun h => absurd h (by decide)⟩, ⟨by rw [ht]; exact hP.sub [0] rfl, va_K.moved hW.alike (hK.sub [0] rfl), hD.sub [0] (by decide) rfl⟩⟩, hS.F ht⟩) hS.2.2 dL_room_14
  · obtain ⟨c_2, hw⟩ := hw
    obtain ⟨hP, hD⟩ := cIn_rest (wc := [(h, .inr (16, [.ref l1, .ref l2, .ref l3, .ref l4, .ref l5, .ref l6, .ref l7, .ref l8, .ref l9, .ref ch, .ref co, .int 0, .int 4, .int (-40), .int 20, .int 0, .int 0, .int 100, .int 60, .int 14]))]) (wr := [(o, .inl (cO, 1, .inr (.inl f0)))]) hP hD [0] [1] rfl rfl (by decide) (by decide) hk1 hFc
    generalize H1 = H at hP hS ⊢
    have hP : va_P D vwCl [(o, .inl (cO, 1, .inr (.inl f0)))] H := hP
    have hD : va_D A [(o, .inl (cO, 1, .inr (.inl f0)))] := hD
    refine W.widen (k := 1) (n := 6) (Nat.le_of_ble_eq_true rfl) (Nat.le_of_ble_eq_true rfl) ?_
    subst hw
    refine lv_i2l (v := (v_X10_room p0).toInt64) hx hb dL_room_7 rfl ?_
    refine va_last hx hb hK hP hD hS 0 0 rfl rfl (i := 0) (show ¬ ((0 : Int32) < 0 ∨ 1 ≤ (0 : Int32).toNatClampNeg) from by decide +kernel) dL_room_8 (fun H locs hP hD hS => ?_)
    have hP : va_P D vwCl [(o, .inl (cO, 1, .inr (.inl (vp_updL f0 (0 : Int32).toNatClampNeg ((v_X10_room p0).toInt64)))))] H := hP
    have hD : va_D A [(o, .inl (cO, 1, .inr (.inl (vp_updL f0 (0 : Int32).toNatClampNeg ((v_X10_room p0).toInt64)))))] := hD
    refine lv_goto (tgt := 15) hx hb dL_room_9 (by decide) ?_
    refine lv_iconst (v := 0) hx hb dL_room_15 (by decide) ?_
    refine vx_ret ?_
    exact W.iret (v := 0) hx hb hr (fun t ht hW => ⟨⟨0, ((vp_updL f0 (0 : Int32).toNatClampNeg ((v_X10_room p0).toInt64))), rfl, ⟨(by unfold v_L_room; rw [if_pos c_2]), fun _ => (by unfold o_L_room; rw [if_pos c_2]; exact updL0)⟩, ⟨by rw [ht]; exact hP.sub [0] rfl, va_K.moved hW.alike (hK.sub [0] rfl), hD.sub [0] (by decide) rfl⟩⟩, hS.F ht⟩) hS.2.2 dL_room_16
-- L_step
def v_L_step (p0 : Int32) (p1 : Int32) (p2 : Int32) : Int32 := 1
set_option maxHeartbeats 4000000 in
set_option maxRecDepth 100000 in
theorem c_L_step (l : Launch) (hst : l.stackTraces = false) (D : va_G) (e : Nat) (h : Nat) (l1 : Nat) (l2 : Nat) (l3 : Nat) (l4 : Nat) (l5 : Nat) (l6 : Nat) (l7 : Nat) (l8 : Nat) (l9 : Nat) (ch : Nat) (co : Nat) (o : Nat) (cO : ClassId) (f0 : Nat → Int64) (p0 : Int32) (p1 : Int32) (p2 : Int32) (sz : Nat) : vx_Met l yL_step wsL_step ({ frames := 18, cells := 1, slots := 6, locals := 400 }) (va_Pc [.ref h, .int p0, .int p1, .int p2, .ref o] (cIn D [(cO, .long)] [(h, .inr (16, [.ref l1, .ref l2, .ref l3, .ref l4, .ref l5, .ref l6, .ref l7, .ref l8, .ref l9, .ref ch, .ref co, .int 0, .int 4, .int (-40), .int 20, .int 0, .int 0, .int 100, .int 60, .int 14])), (l5, .inr (5, [.int 0, .ref e, .int 0])), (o, .inl (cO, 1, .inr (.inl f0)))] e sz)) (va_Qi (fun (r : Int32) (f : Nat → Int64) => r = v_L_step p0 p1 p2) (fun (f : Nat → Int64) (t : State) => va_P D vwCl [(o, .inl (cO, 1, .inr (.inl f)))] t.heap ∧ va_K D vwCl [(cO, .long)] t ∧ va_D (va_A [(h, .inr (16, [.ref l1, .ref l2, .ref l3, .ref l4, .ref l5, .ref l6, .ref l7, .ref l8, .ref l9, .ref ch, .ref co, .int 0, .int 4, .int (-40), .int 20, .int 0, .int 0, .int 100, .int 60, .int 14])), (l5, .inr (5, [.int 0, .ref e, .int 0])), (o, .inl (cO, 1, .inr (.inl f0)))] sz) [(o, .inl (cO, 1, .inr (.inl f)))]) (va_A [(h, .inr (16, [.ref l1, .ref l2, .ref l3, .ref l4, .ref l5, .ref l6, .ref l7, .ref l8, .ref l9, .ref ch, .ref co, .int 0, .int 4, .int (-40), .int 20, .int 0, .int 0, .int 100, .int 60, .int 14])), (l5, .inr (5, [.int 0, .ref e, .int 0])), (o, .inl (cO, 1, .inr (.inl f0)))] sz)) (vx_X (fun _ : Unit => False) (fun (_ : String) (_ : Unit) (_ : State) => True) (va_A [(h, .inr (16, [.ref l1, .ref l2, .ref l3, .ref l4, .ref l5, .ref l6, .ref l7, .ref l8, .ref l9, .ref ch, .ref co, .int 0, .int 4, .int (-40), .int 20, .int 0, .int 0, .int 100, .int 60, .int 14])), (l5, .inr (5, [.int 0, .ref e, .int 0])), (o, .inl (cO, 1, .inr (.inl f0)))] sz)) 1 6 (va_A [(h, .inr (16, [.ref l1, .ref l2, .ref l3, .ref l4, .ref l5, .ref l6, .ref l7, .ref l8, .ref l9, .ref ch, .ref co, .int 0, .int 4, .int (-40), .int 20, .int 0, .int 0, .int 100, .int 60, .int 14])), (l5, .inr (5, [.int 0, .ref e, .int 0])), (o, .inl (cO, 1, .inr (.inl f0)))] sz) := by
  refine vx_ofWH (cc := cL_step) (maxL := 6) (ret := (some .int)) (by decide +kernel) rfl ?_
  intro p e9 s m args below meth c s₁ B hml hv
  obtain ⟨rfl, hsz, hP, hK, hD0, hE0⟩ := hv
  have hx := B.exec
  have hb := B.bytes
  have hr := B.returns
  have hts := atoms_spec (ws := wsL_step) B.pre
  have hown : s.vm.findClass RL = some m.cls := findClass_of_methodNamed B.named
  have hlocks := B.notSynchronized
  have htab := vx_table (x := yL_step) B (hts (.codeWith yL_step cL_step 6 (some .int) [(0, 12, 15, 21), (0, 12, 19, 13), (0, 12, 23, 15)]) (show _ ∈ wsL_step from List.mem_cons_self))
  subst hsz
  have hD := hD0.self (sz := s.heap.size)
  generalize hAe : va_A [(h, .inr (16, [.ref l1, .ref l2, .ref l3, .ref l4, .ref l5, .ref l6, .ref l7, .ref l8, .ref l9, .ref ch, .ref co, .int 0, .int 4, .int (-40), .int 20, .int 0, .int 0, .int 100, .int 60, .int 14])), (l5, .inr (5, [.int 0, .ref e, .int 0])), (o, .inl (cO, 1, .inr (.inl f0)))] s.heap.size = A at hD hE0 ⊢
  have hA : ∀ q : Nat, s.heap.size ≤ q → A q := fun q h => by rw [← hAe]; exact Or.inr h
  have hS : va_S A s.heap s.heap [] := va_S.rf
  have hE := hE0
  have hP : va_P D vwCl [(h, .inr (16, [.ref l1, .ref l2, .ref l3, .ref l4, .ref l5, .ref l6, .ref l7, .ref l8, .ref l9, .ref ch, .ref co, .int 0, .int 4, .int (-40), .int 20, .int 0, .int 0, .int 100, .int 60, .int 14])), (l5, .inr (5, [.int 0, .ref e, .int 0])), (o, .inl (cO, 1, .inr (.inl f0)))] s.heap := hP
  have hl := lv_entry ([.ref h, .int p0, .int p1, .int p2, .ref o]) (n := 6) (Nat.le_of_ble_eq_true rfl)
  rw [lg_entry_eq]
  generalize (lg_sl ([.ref h, .int p0, .int p1, .int p2, .ref o]) ++ List.replicate (6 - (lg_sl ([.ref h, .int p0, .int p1, .int p2, .ref o])).length) Slot.unset).toArray = ls at hl ⊢
  have hl : lv_has ls 6 [(0, .ref h), (1, .int p0), (2, .int p1), (3, .int p2), (4, .ref o)] := hl
  refine lv_aload hx hb dL_step_0 (lv_at hl 4 rfl) ?_
  refine lv_iconst (v := 0) hx hb dL_step_2 (by decide) ?_
  refine lv_aload_n hx hb dL_step_3 rfl (lv_at hl 0 rfl) ?_
  refine lv_iload_n hx hb dL_step_4 rfl (lv_at hl 1 rfl) ?_
  refine lv_iload_n hx hb dL_step_5 rfl (lv_at hl 2 rfl) ?_
  refine lv_iload_n hx hb dL_step_6 rfl (lv_at hl 3 rfl) ?_
  have hFc := va_free (wc := [(h, .inr (16, [.ref l1, .ref l2, .ref l3, .ref l4, .ref l5, .ref l6, .ref l7, .ref l8, .ref l9, .ref ch, .ref co, .int 0, .int 4, .int (-40), .int 20, .int 0, .int 0, .int 100, .int 60, .int 14])), (l5, .inr (5, [.int 0, .ref e, .int 0]))]) hD hS hA [0, 1] rfl
  refine vx_callv (vx_runV (As := [.int p0, .int p1, .int p2]) (rest := [.int 0, .ref o]) ⟨hx, hb, hml, hown, hts⟩ (c_X10_step l hst D e h l1 l2 l3 l4 l5 l6 l7 l8 l9 ch co p0 p1 p2 s.heap.size) (cwV 3 hts gL_step_X10_step rfl rfl rfl (by decide +kernel) ⟨Nat.le_of_ble_eq_true rfl, Nat.le_of_ble_eq_true rfl⟩) ⟨cIn_blind, va_recv hK hP (ci := 16) (q0 := 0) rfl rfl, cIn_go hK hP hD hE hS hA [0, 1] rfl rfl (by decide) [] rfl⟩ rfl rfl hl.1 rfl (lv_room (Nat.le_of_ble_eq_true rfl)) dL_step_7 ⟨Nat.le_of_ble_eq_true rfl, Nat.le_of_ble_eq_true rfl⟩) hS (fun q _ h => hFc q h) hFc (fun q _ h => hFc q h) (fun E ce q9 u t H1 locs ht hvm hpx hB hz1 hk1 hS hce hcv hcl => ?_) (fun u t H1 locs ht hvm hw hB hz1 hk1 hS => ?_)
  · obtain ⟨rfl, hw⟩ := hB
    obtain ⟨hP, hD⟩ := cIn_rest (wc := [(h, .inr (16, [.ref l1, .ref l2, .ref l3, .ref l4, .ref l5, .ref l6, .ref l7, .ref l8, .ref l9, .ref ch, .ref co, .int 0, .int 4, .int (-40), .int 20, .int 0, .int 0, .int 100, .int 60, .int 14])), (l5, .inr (5, [.int 0, .ref e, .int 0]))]) (wr := [(o, .inl (cO, 1, .inr (.inl f0)))]) hP hD [0, 1] [2] rfl rfl (by decide) (by decide) hk1 hFc
    generalize H1 = H at hP hS hce ⊢
    have hP : va_P D vwCl [(o, .inl (cO, 1, .inr (.inl f0)))] H := hP
    have hD : va_D A [(o, .inl (cO, 1, .inr (.inl f0)))] := hD
    refine vx_catch (name := "java/lang/IndexOutOfBoundsException") (E := "java/lang/IndexOutOfBoundsException") hown [] ⟨0, 12, 15, 21⟩ [⟨0, 12, 19, 13⟩, ⟨0, 12, 23, 15⟩] (by rw [htab]; rfl) (fun z hz => by cases hz) (by decide) (by decide) (hts (.classLink RL 21 "java/lang/IndexOutOfBoundsException") (by decide +kernel)) (ev_u hE (w := .castable "java/lang/IndexOutOfBoundsException" "java/lang/IndexOutOfBoundsException") (by decide +kernel) rfl) hce hcv hcl ?_
    refine lv_astore (lv' := [(5, .ref q9), (0, .ref h), (1, .int p0), (2, .int p1), (3, .int p2), (4, .ref o)]) hx hb dL_step_15 hl (by decide) rfl (fun ls hl => ?_)
    refine lv_iconst (v := 1) hx hb dL_step_17 (by decide) ?_
    refine vx_ret ?_
    exact W.iret (v := 1) hx hb hr (fun t ht hW => ⟨⟨1, f0, rfl, rfl, ⟨by rw [ht]; exact hP.sub [0] rfl, va_K.moved hW.alike (hK.sub [0] rfl), hD.sub [0] (by decide) rfl⟩⟩, hS.F ht⟩) hS.2.2 dL_step_18
  · exact hw.elim
-- L_form
def v_L_form (p0 : Int32) (p1 : Int32) (p2 : Int32) : Int32 := 1
set_option maxHeartbeats 4000000 in
set_option maxRecDepth 100000 in
theorem c_L_form (l : Launch) (hst : l.stackTraces = false) (D : va_G) (e : Nat) (h : Nat) (l1 : Nat) (l2 : Nat) (l3 : Nat) (l4 : Nat) (l5 : Nat) (l6 : Nat) (l7 : Nat) (l8 : Nat) (l9 : Nat) (ch : Nat) (co : Nat) (o : Nat) (cO : ClassId) (f0 : Nat → Int64) (p0 : Int32) (p1 : Int32) (p2 : Int32) (sz : Nat) : vx_Met l yL_form wsL_form ({ frames := 18, cells := 1, slots := 6, locals := 400 }) (va_Pc [.ref h, .int p0, .int p1, .int p2, .ref o] (cIn D [(cO, .long)] [(h, .inr (16, [.ref l1, .ref l2, .ref l3, .ref l4, .ref l5, .ref l6, .ref l7, .ref l8, .ref l9, .ref ch, .ref co, .int 0, .int 4, .int (-40), .int 20, .int 0, .int 0, .int 100, .int 60, .int 14])), (l4, .inr (5, [.int 0, .ref e, .int 0])), (o, .inl (cO, 1, .inr (.inl f0)))] e sz)) (va_Qi (fun (r : Int32) (f : Nat → Int64) => r = v_L_form p0 p1 p2) (fun (f : Nat → Int64) (t : State) => va_P D vwCl [(o, .inl (cO, 1, .inr (.inl f)))] t.heap ∧ va_K D vwCl [(cO, .long)] t ∧ va_D (va_A [(h, .inr (16, [.ref l1, .ref l2, .ref l3, .ref l4, .ref l5, .ref l6, .ref l7, .ref l8, .ref l9, .ref ch, .ref co, .int 0, .int 4, .int (-40), .int 20, .int 0, .int 0, .int 100, .int 60, .int 14])), (l4, .inr (5, [.int 0, .ref e, .int 0])), (o, .inl (cO, 1, .inr (.inl f0)))] sz) [(o, .inl (cO, 1, .inr (.inl f)))]) (va_A [(h, .inr (16, [.ref l1, .ref l2, .ref l3, .ref l4, .ref l5, .ref l6, .ref l7, .ref l8, .ref l9, .ref ch, .ref co, .int 0, .int 4, .int (-40), .int 20, .int 0, .int 0, .int 100, .int 60, .int 14])), (l4, .inr (5, [.int 0, .ref e, .int 0])), (o, .inl (cO, 1, .inr (.inl f0)))] sz)) (vx_X (fun _ : Unit => False) (fun (_ : String) (_ : Unit) (_ : State) => True) (va_A [(h, .inr (16, [.ref l1, .ref l2, .ref l3, .ref l4, .ref l5, .ref l6, .ref l7, .ref l8, .ref l9, .ref ch, .ref co, .int 0, .int 4, .int (-40), .int 20, .int 0, .int 0, .int 100, .int 60, .int 14])), (l4, .inr (5, [.int 0, .ref e, .int 0])), (o, .inl (cO, 1, .inr (.inl f0)))] sz)) 1 6 (va_A [(h, .inr (16, [.ref l1, .ref l2, .ref l3, .ref l4, .ref l5, .ref l6, .ref l7, .ref l8, .ref l9, .ref ch, .ref co, .int 0, .int 4, .int (-40), .int 20, .int 0, .int 0, .int 100, .int 60, .int 14])), (l4, .inr (5, [.int 0, .ref e, .int 0])), (o, .inl (cO, 1, .inr (.inl f0)))] sz) := by
  refine vx_ofWH (cc := cL_form) (maxL := 6) (ret := (some .int)) (by decide +kernel) rfl ?_
  intro p e9 s m args below meth c s₁ B hml hv
  obtain ⟨rfl, hsz, hP, hK, hD0, hE0⟩ := hv
  have hx := B.exec
  have hb := B.bytes
  have hr := B.returns
  have hts := atoms_spec (ws := wsL_form) B.pre
  have hown : s.vm.findClass RL = some m.cls := findClass_of_methodNamed B.named
  have hlocks := B.notSynchronized
  have htab := vx_table (x := yL_form) B (hts (.codeWith yL_form cL_form 6 (some .int) [(0, 12, 15, 21), (0, 12, 19, 30)]) (show _ ∈ wsL_form from List.mem_cons_self))
  subst hsz
  have hD := hD0.self (sz := s.heap.size)
  generalize hAe : va_A [(h, .inr (16, [.ref l1, .ref l2, .ref l3, .ref l4, .ref l5, .ref l6, .ref l7, .ref l8, .ref l9, .ref ch, .ref co, .int 0, .int 4, .int (-40), .int 20, .int 0, .int 0, .int 100, .int 60, .int 14])), (l4, .inr (5, [.int 0, .ref e, .int 0])), (o, .inl (cO, 1, .inr (.inl f0)))] s.heap.size = A at hD hE0 ⊢
  have hA : ∀ q : Nat, s.heap.size ≤ q → A q := fun q h => by rw [← hAe]; exact Or.inr h
  have hS : va_S A s.heap s.heap [] := va_S.rf
  have hE := hE0
  have hP : va_P D vwCl [(h, .inr (16, [.ref l1, .ref l2, .ref l3, .ref l4, .ref l5, .ref l6, .ref l7, .ref l8, .ref l9, .ref ch, .ref co, .int 0, .int 4, .int (-40), .int 20, .int 0, .int 0, .int 100, .int 60, .int 14])), (l4, .inr (5, [.int 0, .ref e, .int 0])), (o, .inl (cO, 1, .inr (.inl f0)))] s.heap := hP
  have hl := lv_entry ([.ref h, .int p0, .int p1, .int p2, .ref o]) (n := 6) (Nat.le_of_ble_eq_true rfl)
  rw [lg_entry_eq]
  generalize (lg_sl ([.ref h, .int p0, .int p1, .int p2, .ref o]) ++ List.replicate (6 - (lg_sl ([.ref h, .int p0, .int p1, .int p2, .ref o])).length) Slot.unset).toArray = ls at hl ⊢
  have hl : lv_has ls 6 [(0, .ref h), (1, .int p0), (2, .int p1), (3, .int p2), (4, .ref o)] := hl
  refine lv_aload hx hb dL_form_0 (lv_at hl 4 rfl) ?_
  refine lv_iconst (v := 0) hx hb dL_form_2 (by decide) ?_
  refine lv_aload_n hx hb dL_form_3 rfl (lv_at hl 0 rfl) ?_
  refine lv_iload_n hx hb dL_form_4 rfl (lv_at hl 1 rfl) ?_
  refine lv_iload_n hx hb dL_form_5 rfl (lv_at hl 2 rfl) ?_
  refine lv_iload_n hx hb dL_form_6 rfl (lv_at hl 3 rfl) ?_
  have hFc := va_free (wc := [(h, .inr (16, [.ref l1, .ref l2, .ref l3, .ref l4, .ref l5, .ref l6, .ref l7, .ref l8, .ref l9, .ref ch, .ref co, .int 0, .int 4, .int (-40), .int 20, .int 0, .int 0, .int 100, .int 60, .int 14])), (l4, .inr (5, [.int 0, .ref e, .int 0]))]) hD hS hA [0, 1] rfl
  refine vx_callv (vx_runV (As := [.int p0, .int p1, .int p2]) (rest := [.int 0, .ref o]) ⟨hx, hb, hml, hown, hts⟩ (c_X10_form l hst D e h l1 l2 l3 l4 l5 l6 l7 l8 l9 ch co p0 p1 p2 s.heap.size) (cwV 3 hts gL_form_X10_form rfl rfl rfl (by decide +kernel) ⟨Nat.le_of_ble_eq_true rfl, Nat.le_of_ble_eq_true rfl⟩) ⟨cIn_blind, va_recv hK hP (ci := 16) (q0 := 0) rfl rfl, cIn_go hK hP hD hE hS hA [0, 1] rfl rfl (by decide) [] rfl⟩ rfl rfl hl.1 rfl (lv_room (Nat.le_of_ble_eq_true rfl)) dL_form_7 ⟨Nat.le_of_ble_eq_true rfl, Nat.le_of_ble_eq_true rfl⟩) hS (fun q _ h => hFc q h) hFc (fun q _ h => hFc q h) (fun E ce q9 u t H1 locs ht hvm hpx hB hz1 hk1 hS hce hcv hcl => ?_) (fun u t H1 locs ht hvm hw hB hz1 hk1 hS => ?_)
  · obtain ⟨rfl, hw⟩ := hB
    obtain ⟨hP, hD⟩ := cIn_rest (wc := [(h, .inr (16, [.ref l1, .ref l2, .ref l3, .ref l4, .ref l5, .ref l6, .ref l7, .ref l8, .ref l9, .ref ch, .ref co, .int 0, .int 4, .int (-40), .int 20, .int 0, .int 0, .int 100, .int 60, .int 14])), (l4, .inr (5, [.int 0, .ref e, .int 0]))]) (wr := [(o, .inl (cO, 1, .inr (.inl f0)))]) hP hD [0, 1] [2] rfl rfl (by decide) (by decide) hk1 hFc
    generalize H1 = H at hP hS hce ⊢
    have hP : va_P D vwCl [(o, .inl (cO, 1, .inr (.inl f0)))] H := hP
    have hD : va_D A [(o, .inl (cO, 1, .inr (.inl f0)))] := hD
    refine vx_catch (name := "java/lang/IndexOutOfBoundsException") (E := "java/lang/IndexOutOfBoundsException") hown [] ⟨0, 12, 15, 21⟩ [⟨0, 12, 19, 30⟩] (by rw [htab]; rfl) (fun z hz => by cases hz) (by decide) (by decide) (hts (.classLink RL 21 "java/lang/IndexOutOfBoundsException") (by decide +kernel)) (ev_u hE (w := .castable "java/lang/IndexOutOfBoundsException" "java/lang/IndexOutOfBoundsException") (by decide +kernel) rfl) hce hcv hcl ?_
    refine lv_astore (lv' := [(5, .ref q9), (0, .ref h), (1, .int p0), (2, .int p1), (3, .int p2), (4, .ref o)]) hx hb dL_form_15 hl (by decide) rfl (fun ls hl => ?_)
    refine lv_iconst (v := 1) hx hb dL_form_17 (by decide) ?_
    refine vx_ret ?_
    exact W.iret (v := 1) hx hb hr (fun t ht hW => ⟨⟨1, f0, rfl, rfl, ⟨by rw [ht]; exact hP.sub [0] rfl, va_K.moved hW.alike (hK.sub [0] rfl), hD.sub [0] (by decide) rfl⟩⟩, hS.F ht⟩) hS.2.2 dL_form_18
  · exact hw.elim
-- L_bounds
def v_L_bounds (p0 : Int32) (p1 : Int32) (p2 : Int32) : Int32 := if t_X10_bounds p0 p1 p2 = 0 then 0 else 1
def o_L_bounds (p0 : Int32) (p1 : Int32) (p2 : Int32) : Int64 := if t_X10_bounds p0 p1 p2 = 0 then ((v_X10_bounds p0 p1 p2).toInt64) else 0
set_option maxHeartbeats 4000000 in
set_option maxRecDepth 100000 in
theorem c_L_bounds (l : Launch) (hst : l.stackTraces = false) (D : va_G) (e : Nat) (h : Nat) (l1 : Nat) (l2 : Nat) (l3 : Nat) (l4 : Nat) (l5 : Nat) (l6 : Nat) (l7 : Nat) (l8 : Nat) (l9 : Nat) (ch : Nat) (co : Nat) (o : Nat) (cO : ClassId) (f0 : Nat → Int64) (p0 : Int32) (p1 : Int32) (p2 : Int32) (sz : Nat) : vx_Met l yL_bounds wsL_bounds ({ frames := 16, cells := 1, slots := 6, locals := 340 }) (va_Pc [.ref h, .int p0, .int p1, .int p2, .ref o] (cIn D [(cO, .long)] [(h, .inr (16, [.ref l1, .ref l2, .ref l3, .ref l4, .ref l5, .ref l6, .ref l7, .ref l8, .ref l9, .ref ch, .ref co, .int 0, .int 4, .int (-40), .int 20, .int 0, .int 0, .int 100, .int 60, .int 14])), (o, .inl (cO, 1, .inr (.inl f0)))] e sz)) (va_Qi (fun (r : Int32) (f : Nat → Int64) => r = v_L_bounds p0 p1 p2 ∧ (r = 0 → f 0 = o_L_bounds p0 p1 p2)) (fun (f : Nat → Int64) (t : State) => va_P D vwCl [(o, .inl (cO, 1, .inr (.inl f)))] t.heap ∧ va_K D vwCl [(cO, .long)] t ∧ va_D (va_A [(h, .inr (16, [.ref l1, .ref l2, .ref l3, .ref l4, .ref l5, .ref l6, .ref l7, .ref l8, .ref l9, .ref ch, .ref co, .int 0, .int 4, .int (-40), .int 20, .int 0, .int 0, .int 100, .int 60, .int 14])), (o, .inl (cO, 1, .inr (.inl f0)))] sz) [(o, .inl (cO, 1, .inr (.inl f)))]) (va_A [(h, .inr (16, [.ref l1, .ref l2, .ref l3, .ref l4, .ref l5, .ref l6, .ref l7, .ref l8, .ref l9, .ref ch, .ref co, .int 0, .int 4, .int (-40), .int 20, .int 0, .int 0, .int 100, .int 60, .int 14])), (o, .inl (cO, 1, .inr (.inl f0)))] sz)) (vx_X (fun _ : Unit => False) (fun (_ : String) (_ : Unit) (_ : State) => True) (va_A [(h, .inr (16, [.ref l1, .ref l2, .ref l3, .ref l4, .ref l5, .ref l6, .ref l7, .ref l8, .ref l9, .ref ch, .ref co, .int 0, .int 4, .int (-40), .int 20, .int 0, .int 0, .int 100, .int 60, .int 14])), (o, .inl (cO, 1, .inr (.inl f0)))] sz)) 1 6 (va_A [(h, .inr (16, [.ref l1, .ref l2, .ref l3, .ref l4, .ref l5, .ref l6, .ref l7, .ref l8, .ref l9, .ref ch, .ref co, .int 0, .int 4, .int (-40), .int 20, .int 0, .int 0, .int 100, .int 60, .int 14])), (o, .inl (cO, 1, .inr (.inl f0)))] sz) := by
  refine vx_ofWH (cc := cL_bounds) (maxL := 6) (ret := (some .int)) (by decide +kernel) rfl ?_
  intro p e9 s m args below meth c s₁ B hml hv
  obtain ⟨rfl, hsz, hP, hK, hD0, hE0⟩ := hv
  have hx := B.exec
  have hb := B.bytes
  have hr := B.returns
  have hts := atoms_spec (ws := wsL_bounds) B.pre
  have hown : s.vm.findClass RL = some m.cls := findClass_of_methodNamed B.named
  have hlocks := B.notSynchronized
  have htab := vx_table (x := yL_bounds) B (hts (.codeWith yL_bounds cL_bounds 6 (some .int) [(0, 12, 15, 13)]) (show _ ∈ wsL_bounds from List.mem_cons_self))
  subst hsz
  have hD := hD0.self (sz := s.heap.size)
  generalize hAe : va_A [(h, .inr (16, [.ref l1, .ref l2, .ref l3, .ref l4, .ref l5, .ref l6, .ref l7, .ref l8, .ref l9, .ref ch, .ref co, .int 0, .int 4, .int (-40), .int 20, .int 0, .int 0, .int 100, .int 60, .int 14])), (o, .inl (cO, 1, .inr (.inl f0)))] s.heap.size = A at hD hE0 ⊢
  have hA : ∀ q : Nat, s.heap.size ≤ q → A q := fun q h => by rw [← hAe]; exact Or.inr h
  have hS : va_S A s.heap s.heap [] := va_S.rf
  have hE := hE0
  have hP : va_P D vwCl [(h, .inr (16, [.ref l1, .ref l2, .ref l3, .ref l4, .ref l5, .ref l6, .ref l7, .ref l8, .ref l9, .ref ch, .ref co, .int 0, .int 4, .int (-40), .int 20, .int 0, .int 0, .int 100, .int 60, .int 14])), (o, .inl (cO, 1, .inr (.inl f0)))] s.heap := hP
  have hl := lv_entry ([.ref h, .int p0, .int p1, .int p2, .ref o]) (n := 6) (Nat.le_of_ble_eq_true rfl)
  rw [lg_entry_eq]
  generalize (lg_sl ([.ref h, .int p0, .int p1, .int p2, .ref o]) ++ List.replicate (6 - (lg_sl ([.ref h, .int p0, .int p1, .int p2, .ref o])).length) Slot.unset).toArray = ls at hl ⊢
  have hl : lv_has ls 6 [(0, .ref h), (1, .int p0), (2, .int p1), (3, .int p2), (4, .ref o)] := hl
  refine lv_aload hx hb dL_bounds_0 (lv_at hl 4 rfl) ?_
  refine lv_iconst (v := 0) hx hb dL_bounds_2 (by decide) ?_
  refine lv_aload_n hx hb dL_bounds_3 rfl (lv_at hl 0 rfl) ?_
  refine lv_iload_n hx hb dL_bounds_4 rfl (lv_at hl 1 rfl) ?_
  refine lv_iload_n hx hb dL_bounds_5 rfl (lv_at hl 2 rfl) ?_
  refine lv_iload_n hx hb dL_bounds_6 rfl (lv_at hl 3 rfl) ?_
  have hFc := va_free (wc := [(h, .inr (16, [.ref l1, .ref l2, .ref l3, .ref l4, .ref l5, .ref l6, .ref l7, .ref l8, .ref l9, .ref ch, .ref co, .int 0, .int 4, .int (-40), .int 20, .int 0, .int 0, .int 100, .int 60, .int 14]))]) hD hS hA [0] rfl
  refine vx_calli (vx_runV (As := [.int p0, .int p1, .int p2]) (rest := [.int 0, .ref o]) ⟨hx, hb, hml, hown, hts⟩ (c_X10_bounds l hst D e h l1 l2 l3 l4 l5 l6 l7 l8 l9 ch co p0 p1 p2 s.heap.size) (cwV 3 hts gL_bounds_X10_bounds rfl rfl rfl (by decide +kernel) ⟨Nat.le_of_ble_eq_true rfl, Nat.le_of_ble_eq_true rfl⟩) ⟨cIn_blind, va_recv hK hP (ci := 16) (q0 := 0) rfl rfl, cIn_go hK hP hD hE hS hA [0] rfl rfl (by decide) [] rfl⟩ rfl rfl hl.1 rfl (lv_room (Nat.le_of_ble_eq_true rfl)) dL_bounds_7 ⟨Nat.le_of_ble_eq_true rfl, Nat.le_of_ble_eq_true rfl⟩) hS (fun q _ h => hFc q h) hFc (fun q _ h => hFc q h) (fun E ce q9 u t H1 locs ht hvm hpx hB hz1 hk1 hS hce hcv hcl => ?_) (fun r_1 u t H1 locs ht hvm hw hB hz1 hk1 hS => ?_)
  · obtain ⟨rfl, hw⟩ := hB
    have c_3 : ¬ t_X10_bounds p0 p1 p2 = 0 := by rw [hw]; decide
    obtain ⟨hP, hD⟩ := cIn_rest (wc := [(h, .inr (16, [.ref l1, .ref l2, .ref l3, .ref l4, .ref l5, .ref l6, .ref l7, .ref l8, .ref l9, .ref ch, .ref co, .int 0, .int 4, .int (-40), .int 20, .int 0, .int 0, .int 100, .int 60, .int 14]))]) (wr := [(o, .inl (cO, 1, .inr (.inl f0)))]) hP hD [0] [1] rfl rfl (by decide) (by decide) hk1 hFc
    generalize H1 = H at hP hS hce ⊢
    have hP : va_P D vwCl [(o, .inl (cO, 1, .inr (.inl f0)))] H := hP
    have hD : va_D A [(o, .inl (cO, 1, .inr (.inl f0)))] := hD
    refine vx_catch (name := "java/lang/IllegalArgumentException") (E := "java/lang/IllegalArgumentException") hown [] ⟨0, 12, 15, 13⟩ [] (by rw [htab]; rfl) (fun z hz => by cases hz) (by decide) (by decide) (hts (.classLink RL 13 "java/lang/IllegalArgumentException") (by decide +kernel)) (ev_u hE (w := .castable "java/lang/IllegalArgumentException" "java/lang/IllegalArgumentException") (by decide +kernel) rfl) hce hcv hcl ?_
    refine lv_astore (lv' := [(5, .ref q9), (0, .ref h), (1, .int p0), (2, .int p1), (3, .int p2), (4, .ref o)]) hx hb dL_bounds_15 hl (by decide) rfl (fun ls hl => ?_)
    refine lv_iconst (v := 1) hx hb dL_bounds_17 (by decide) ?_
    refine vx_ret ?_
    exact W.iret (v := 1) hx hb hr (fun t ht hW => ⟨⟨1, f0, rfl, ⟨(by unfold v_L_bounds; rw [if_neg c_3]), fun h => absurd h (by decide)⟩, ⟨by rw [ht]; exact hP.sub [0] rfl, va_K.moved hW.alike (hK.sub [0] rfl), hD.sub [0] (by decide) rfl⟩⟩, hS.F ht⟩) hS.2.2 dL_bounds_18
  · obtain ⟨c_2, hw⟩ := hw
    obtain ⟨hP, hD⟩ := cIn_rest (wc := [(h, .inr (16, [.ref l1, .ref l2, .ref l3, .ref l4, .ref l5, .ref l6, .ref l7, .ref l8, .ref l9, .ref ch, .ref co, .int 0, .int 4, .int (-40), .int 20, .int 0, .int 0, .int 100, .int 60, .int 14]))]) (wr := [(o, .inl (cO, 1, .inr (.inl f0)))]) hP hD [0] [1] rfl rfl (by decide) (by decide) hk1 hFc
    generalize H1 = H at hP hS ⊢
    have hP : va_P D vwCl [(o, .inl (cO, 1, .inr (.inl f0)))] H := hP
    have hD : va_D A [(o, .inl (cO, 1, .inr (.inl f0)))] := hD
    refine W.widen (k := 1) (n := 6) (Nat.le_of_ble_eq_true rfl) (Nat.le_of_ble_eq_true rfl) ?_
    subst hw
    refine lv_i2l (v := (v_X10_bounds p0 p1 p2).toInt64) hx hb dL_bounds_10 rfl ?_
    refine va_last hx hb hK hP hD hS 0 0 rfl rfl (i := 0) (show ¬ ((0 : Int32) < 0 ∨ 1 ≤ (0 : Int32).toNatClampNeg) from by decide +kernel) dL_bounds_11 (fun H locs hP hD hS => ?_)
    have hP : va_P D vwCl [(o, .inl (cO, 1, .inr (.inl (vp_updL f0 (0 : Int32).toNatClampNeg ((v_X10_bounds p0 p1 p2).toInt64)))))] H := hP
    have hD : va_D A [(o, .inl (cO, 1, .inr (.inl (vp_updL f0 (0 : Int32).toNatClampNeg ((v_X10_bounds p0 p1 p2).toInt64)))))] := hD
    refine lv_goto (tgt := 19) hx hb dL_bounds_12 (by decide) ?_
    refine lv_iconst (v := 0) hx hb dL_bounds_19 (by decide) ?_
    refine vx_ret ?_
    exact W.iret (v := 0) hx hb hr (fun t ht hW => ⟨⟨0, ((vp_updL f0 (0 : Int32).toNatClampNeg ((v_X10_bounds p0 p1 p2).toInt64))), rfl, ⟨(by unfold v_L_bounds; rw [if_pos c_2]), fun _ => (by unfold o_L_bounds; rw [if_pos c_2]; exact updL0)⟩, ⟨by rw [ht]; exact hP.sub [0] rfl, va_K.moved hW.alike (hK.sub [0] rfl), hD.sub [0] (by decide) rfl⟩⟩, hS.F ht⟩) hS.2.2 dL_bounds_20
-- L_sort
def v_L_sort (p0 : Int32) : Int32 := 1
set_option maxHeartbeats 4000000 in
set_option maxRecDepth 100000 in
theorem c_L_sort (l : Launch) (hst : l.stackTraces = false) (D : va_G) (e : Nat) (h : Nat) (l1 : Nat) (l2 : Nat) (l3 : Nat) (l4 : Nat) (l5 : Nat) (l6 : Nat) (l7 : Nat) (l8 : Nat) (l9 : Nat) (ch : Nat) (co : Nat) (o : Nat) (cO : ClassId) (f0 : Nat → Int64) (p0 : Int32) (sz : Nat) : vx_Met l yL_sort wsL_sort ({ frames := 18, cells := 1, slots := 6, locals := 400 }) (va_Pc [.ref h, .int p0, .ref o] (cIn D [(cO, .long)] [(h, .inr (16, [.ref l1, .ref l2, .ref l3, .ref l4, .ref l5, .ref l6, .ref l7, .ref l8, .ref l9, .ref ch, .ref co, .int 0, .int 4, .int (-40), .int 20, .int 0, .int 0, .int 100, .int 60, .int 14])), (l4, .inr (5, [.int 0, .ref e, .int 0])), (o, .inl (cO, 1, .inr (.inl f0)))] e sz)) (va_Qi (fun (r : Int32) (f : Nat → Int64) => r = v_L_sort p0) (fun (f : Nat → Int64) (t : State) => va_P D vwCl [(o, .inl (cO, 1, .inr (.inl f)))] t.heap ∧ va_K D vwCl [(cO, .long)] t ∧ va_D (va_A [(h, .inr (16, [.ref l1, .ref l2, .ref l3, .ref l4, .ref l5, .ref l6, .ref l7, .ref l8, .ref l9, .ref ch, .ref co, .int 0, .int 4, .int (-40), .int 20, .int 0, .int 0, .int 100, .int 60, .int 14])), (l4, .inr (5, [.int 0, .ref e, .int 0])), (o, .inl (cO, 1, .inr (.inl f0)))] sz) [(o, .inl (cO, 1, .inr (.inl f)))]) (va_A [(h, .inr (16, [.ref l1, .ref l2, .ref l3, .ref l4, .ref l5, .ref l6, .ref l7, .ref l8, .ref l9, .ref ch, .ref co, .int 0, .int 4, .int (-40), .int 20, .int 0, .int 0, .int 100, .int 60, .int 14])), (l4, .inr (5, [.int 0, .ref e, .int 0])), (o, .inl (cO, 1, .inr (.inl f0)))] sz)) (vx_X (fun _ : Unit => False) (fun (_ : String) (_ : Unit) (_ : State) => True) (va_A [(h, .inr (16, [.ref l1, .ref l2, .ref l3, .ref l4, .ref l5, .ref l6, .ref l7, .ref l8, .ref l9, .ref ch, .ref co, .int 0, .int 4, .int (-40), .int 20, .int 0, .int 0, .int 100, .int 60, .int 14])), (l4, .inr (5, [.int 0, .ref e, .int 0])), (o, .inl (cO, 1, .inr (.inl f0)))] sz)) 1 6 (va_A [(h, .inr (16, [.ref l1, .ref l2, .ref l3, .ref l4, .ref l5, .ref l6, .ref l7, .ref l8, .ref l9, .ref ch, .ref co, .int 0, .int 4, .int (-40), .int 20, .int 0, .int 0, .int 100, .int 60, .int 14])), (l4, .inr (5, [.int 0, .ref e, .int 0])), (o, .inl (cO, 1, .inr (.inl f0)))] sz) := by
  refine vx_ofWH (cc := cL_sort) (maxL := 4) (ret := (some .int)) (by decide +kernel) rfl ?_
  intro p e9 s m args below meth c s₁ B hml hv
  obtain ⟨rfl, hsz, hP, hK, hD0, hE0⟩ := hv
  have hx := B.exec
  have hb := B.bytes
  have hr := B.returns
  have hts := atoms_spec (ws := wsL_sort) B.pre
  have hown : s.vm.findClass RL = some m.cls := findClass_of_methodNamed B.named
  have hlocks := B.notSynchronized
  have htab := vx_table (x := yL_sort) B (hts (.codeWith yL_sort cL_sort 4 (some .int) [(0, 9, 12, 21)]) (show _ ∈ wsL_sort from List.mem_cons_self))
  subst hsz
  have hD := hD0.self (sz := s.heap.size)
  generalize hAe : va_A [(h, .inr (16, [.ref l1, .ref l2, .ref l3, .ref l4, .ref l5, .ref l6, .ref l7, .ref l8, .ref l9, .ref ch, .ref co, .int 0, .int 4, .int (-40), .int 20, .int 0, .int 0, .int 100, .int 60, .int 14])), (l4, .inr (5, [.int 0, .ref e, .int 0])), (o, .inl (cO, 1, .inr (.inl f0)))] s.heap.size = A at hD hE0 ⊢
  have hA : ∀ q : Nat, s.heap.size ≤ q → A q := fun q h => by rw [← hAe]; exact Or.inr h
  have hS : va_S A s.heap s.heap [] := va_S.rf
  have hE := hE0
  have hP : va_P D vwCl [(h, .inr (16, [.ref l1, .ref l2, .ref l3, .ref l4, .ref l5, .ref l6, .ref l7, .ref l8, .ref l9, .ref ch, .ref co, .int 0, .int 4, .int (-40), .int 20, .int 0, .int 0, .int 100, .int 60, .int 14])), (l4, .inr (5, [.int 0, .ref e, .int 0])), (o, .inl (cO, 1, .inr (.inl f0)))] s.heap := hP
  have hl := lv_entry ([.ref h, .int p0, .ref o]) (n := 4) (Nat.le_of_ble_eq_true rfl)
  rw [lg_entry_eq]
  generalize (lg_sl ([.ref h, .int p0, .ref o]) ++ List.replicate (4 - (lg_sl ([.ref h, .int p0, .ref o])).length) Slot.unset).toArray = ls at hl ⊢
  have hl : lv_has ls 4 [(0, .ref h), (1, .int p0), (2, .ref o)] := hl
  refine lv_aload_n hx hb dL_sort_0 rfl (lv_at hl 2 rfl) ?_
  refine lv_iconst (v := 0) hx hb dL_sort_1 (by decide) ?_
  refine lv_aload_n hx hb dL_sort_2 rfl (lv_at hl 0 rfl) ?_
  refine lv_iload_n hx hb dL_sort_3 rfl (lv_at hl 1 rfl) ?_
  have hFc := va_free (wc := [(h, .inr (16, [.ref l1, .ref l2, .ref l3, .ref l4, .ref l5, .ref l6, .ref l7, .ref l8, .ref l9, .ref ch, .ref co, .int 0, .int 4, .int (-40), .int 20, .int 0, .int 0, .int 100, .int 60, .int 14])), (l4, .inr (5, [.int 0, .ref e, .int 0]))]) hD hS hA [0, 1] rfl
  refine vx_callv (vx_runV (As := [.int p0]) (rest := [.int 0, .ref o]) ⟨hx, hb, hml, hown, hts⟩ (c_X10_sort l hst D e h l1 l2 l3 l4 l5 l6 l7 l8 l9 ch co p0 s.heap.size) (cwV 1 hts gL_sort_X10_sort rfl rfl rfl (by decide +kernel) ⟨Nat.le_of_ble_eq_true rfl, Nat.le_of_ble_eq_true rfl⟩) ⟨cIn_blind, va_recv hK hP (ci := 16) (q0 := 0) rfl rfl, cIn_go hK hP hD hE hS hA [0, 1] rfl rfl (by decide) [] rfl⟩ rfl rfl hl.1 rfl (lv_room (Nat.le_of_ble_eq_true rfl)) dL_sort_4 ⟨Nat.le_of_ble_eq_true rfl, Nat.le_of_ble_eq_true rfl⟩) hS (fun q _ h => hFc q h) hFc (fun q _ h => hFc q h) (fun E ce q9 u t H1 locs ht hvm hpx hB hz1 hk1 hS hce hcv hcl => ?_) (fun u t H1 locs ht hvm hw hB hz1 hk1 hS => ?_)
  · obtain ⟨rfl, hw⟩ := hB
    obtain ⟨hP, hD⟩ := cIn_rest (wc := [(h, .inr (16, [.ref l1, .ref l2, .ref l3, .ref l4, .ref l5, .ref l6, .ref l7, .ref l8, .ref l9, .ref ch, .ref co, .int 0, .int 4, .int (-40), .int 20, .int 0, .int 0, .int 100, .int 60, .int 14])), (l4, .inr (5, [.int 0, .ref e, .int 0]))]) (wr := [(o, .inl (cO, 1, .inr (.inl f0)))]) hP hD [0, 1] [2] rfl rfl (by decide) (by decide) hk1 hFc
    generalize H1 = H at hP hS hce ⊢
    have hP : va_P D vwCl [(o, .inl (cO, 1, .inr (.inl f0)))] H := hP
    have hD : va_D A [(o, .inl (cO, 1, .inr (.inl f0)))] := hD
    refine vx_catch (name := "java/lang/IndexOutOfBoundsException") (E := "java/lang/IndexOutOfBoundsException") hown [] ⟨0, 9, 12, 21⟩ [] (by rw [htab]; rfl) (fun z hz => by cases hz) (by decide) (by decide) (hts (.classLink RL 21 "java/lang/IndexOutOfBoundsException") (by decide +kernel)) (ev_u hE (w := .castable "java/lang/IndexOutOfBoundsException" "java/lang/IndexOutOfBoundsException") (by decide +kernel) rfl) hce hcv hcl ?_
    refine lv_astore_n (lv' := [(3, .ref q9), (0, .ref h), (1, .int p0), (2, .ref o)]) hx hb dL_sort_12 rfl hl (by decide) rfl (fun ls hl => ?_)
    refine lv_iconst (v := 1) hx hb dL_sort_13 (by decide) ?_
    refine vx_ret ?_
    exact W.iret (v := 1) hx hb hr (fun t ht hW => ⟨⟨1, f0, rfl, rfl, ⟨by rw [ht]; exact hP.sub [0] rfl, va_K.moved hW.alike (hK.sub [0] rfl), hD.sub [0] (by decide) rfl⟩⟩, hS.F ht⟩) hS.2.2 dL_sort_14
  · exact hw.elim
-- L_cellOf
def v_L_cellOf (p0 : Int32) (p1 : Int32) : Int32 := 1
set_option maxHeartbeats 4000000 in
set_option maxRecDepth 100000 in
theorem c_L_cellOf (l : Launch) (hst : l.stackTraces = false) (D : va_G) (e : Nat) (h : Nat) (l1 : Nat) (l2 : Nat) (l3 : Nat) (l4 : Nat) (l5 : Nat) (l6 : Nat) (l7 : Nat) (l8 : Nat) (l9 : Nat) (ch : Nat) (co : Nat) (o : Nat) (cO : ClassId) (f0 : Nat → Int64) (p0 : Int32) (p1 : Int32) (sz : Nat) : vx_Met l yL_cellOf wsL_cellOf ({ frames := 18, cells := 1, slots := 6, locals := 400 }) (va_Pc [.ref h, .int p0, .int p1, .ref o] (cIn D [(cO, .long)] [(h, .inr (16, [.ref l1, .ref l2, .ref l3, .ref l4, .ref l5, .ref l6, .ref l7, .ref l8, .ref l9, .ref ch, .ref co, .int 0, .int 4, .int (-40), .int 20, .int 0, .int 0, .int 100, .int 60, .int 14])), (l6, .inr (5, [.int 0, .ref e, .int 0])), (o, .inl (cO, 1, .inr (.inl f0)))] e sz)) (va_Qi (fun (r : Int32) (f : Nat → Int64) => r = v_L_cellOf p0 p1) (fun (f : Nat → Int64) (t : State) => va_P D vwCl [(o, .inl (cO, 1, .inr (.inl f)))] t.heap ∧ va_K D vwCl [(cO, .long)] t ∧ va_D (va_A [(h, .inr (16, [.ref l1, .ref l2, .ref l3, .ref l4, .ref l5, .ref l6, .ref l7, .ref l8, .ref l9, .ref ch, .ref co, .int 0, .int 4, .int (-40), .int 20, .int 0, .int 0, .int 100, .int 60, .int 14])), (l6, .inr (5, [.int 0, .ref e, .int 0])), (o, .inl (cO, 1, .inr (.inl f0)))] sz) [(o, .inl (cO, 1, .inr (.inl f)))]) (va_A [(h, .inr (16, [.ref l1, .ref l2, .ref l3, .ref l4, .ref l5, .ref l6, .ref l7, .ref l8, .ref l9, .ref ch, .ref co, .int 0, .int 4, .int (-40), .int 20, .int 0, .int 0, .int 100, .int 60, .int 14])), (l6, .inr (5, [.int 0, .ref e, .int 0])), (o, .inl (cO, 1, .inr (.inl f0)))] sz)) (vx_X (fun _ : Unit => False) (fun (_ : String) (_ : Unit) (_ : State) => True) (va_A [(h, .inr (16, [.ref l1, .ref l2, .ref l3, .ref l4, .ref l5, .ref l6, .ref l7, .ref l8, .ref l9, .ref ch, .ref co, .int 0, .int 4, .int (-40), .int 20, .int 0, .int 0, .int 100, .int 60, .int 14])), (l6, .inr (5, [.int 0, .ref e, .int 0])), (o, .inl (cO, 1, .inr (.inl f0)))] sz)) 1 6 (va_A [(h, .inr (16, [.ref l1, .ref l2, .ref l3, .ref l4, .ref l5, .ref l6, .ref l7, .ref l8, .ref l9, .ref ch, .ref co, .int 0, .int 4, .int (-40), .int 20, .int 0, .int 0, .int 100, .int 60, .int 14])), (l6, .inr (5, [.int 0, .ref e, .int 0])), (o, .inl (cO, 1, .inr (.inl f0)))] sz) := by
  refine vx_ofWH (cc := cL_cellOf) (maxL := 5) (ret := (some .int)) (by decide +kernel) rfl ?_
  intro p e9 s m args below meth c s₁ B hml hv
  obtain ⟨rfl, hsz, hP, hK, hD0, hE0⟩ := hv
  have hx := B.exec
  have hb := B.bytes
  have hr := B.returns
  have hts := atoms_spec (ws := wsL_cellOf) B.pre
  have hown : s.vm.findClass RL = some m.cls := findClass_of_methodNamed B.named
  have hlocks := B.notSynchronized
  have htab := vx_table (x := yL_cellOf) B (hts (.codeWith yL_cellOf cL_cellOf 5 (some .int) [(0, 10, 13, 21), (0, 10, 17, 79)]) (show _ ∈ wsL_cellOf from List.mem_cons_self))
  subst hsz
  have hD := hD0.self (sz := s.heap.size)
  generalize hAe : va_A [(h, .inr (16, [.ref l1, .ref l2, .ref l3, .ref l4, .ref l5, .ref l6, .ref l7, .ref l8, .ref l9, .ref ch, .ref co, .int 0, .int 4, .int (-40), .int 20, .int 0, .int 0, .int 100, .int 60, .int 14])), (l6, .inr (5, [.int 0, .ref e, .int 0])), (o, .inl (cO, 1, .inr (.inl f0)))] s.heap.size = A at hD hE0 ⊢
  have hA : ∀ q : Nat, s.heap.size ≤ q → A q := fun q h => by rw [← hAe]; exact Or.inr h
  have hS : va_S A s.heap s.heap [] := va_S.rf
  have hE := hE0
  have hP : va_P D vwCl [(h, .inr (16, [.ref l1, .ref l2, .ref l3, .ref l4, .ref l5, .ref l6, .ref l7, .ref l8, .ref l9, .ref ch, .ref co, .int 0, .int 4, .int (-40), .int 20, .int 0, .int 0, .int 100, .int 60, .int 14])), (l6, .inr (5, [.int 0, .ref e, .int 0])), (o, .inl (cO, 1, .inr (.inl f0)))] s.heap := hP
  have hl := lv_entry ([.ref h, .int p0, .int p1, .ref o]) (n := 5) (Nat.le_of_ble_eq_true rfl)
  rw [lg_entry_eq]
  generalize (lg_sl ([.ref h, .int p0, .int p1, .ref o]) ++ List.replicate (5 - (lg_sl ([.ref h, .int p0, .int p1, .ref o])).length) Slot.unset).toArray = ls at hl ⊢
  have hl : lv_has ls 5 [(0, .ref h), (1, .int p0), (2, .int p1), (3, .ref o)] := hl
  refine lv_aload_n hx hb dL_cellOf_0 rfl (lv_at hl 3 rfl) ?_
  refine lv_iconst (v := 0) hx hb dL_cellOf_1 (by decide) ?_
  refine lv_aload_n hx hb dL_cellOf_2 rfl (lv_at hl 0 rfl) ?_
  refine lv_iload_n hx hb dL_cellOf_3 rfl (lv_at hl 1 rfl) ?_
  refine lv_iload_n hx hb dL_cellOf_4 rfl (lv_at hl 2 rfl) ?_
  have hFc := va_free (wc := [(h, .inr (16, [.ref l1, .ref l2, .ref l3, .ref l4, .ref l5, .ref l6, .ref l7, .ref l8, .ref l9, .ref ch, .ref co, .int 0, .int 4, .int (-40), .int 20, .int 0, .int 0, .int 100, .int 60, .int 14])), (l6, .inr (5, [.int 0, .ref e, .int 0]))]) hD hS hA [0, 1] rfl
  refine vx_callv (vx_runV (As := [.int p0, .int p1]) (rest := [.int 0, .ref o]) ⟨hx, hb, hml, hown, hts⟩ (c_X10_cellOf l hst D e h l1 l2 l3 l4 l5 l6 l7 l8 l9 ch co p0 p1 s.heap.size) (cwV 2 hts gL_cellOf_X10_cellOf rfl rfl rfl (by decide +kernel) ⟨Nat.le_of_ble_eq_true rfl, Nat.le_of_ble_eq_true rfl⟩) ⟨cIn_blind, va_recv hK hP (ci := 16) (q0 := 0) rfl rfl, cIn_go hK hP hD hE hS hA [0, 1] rfl rfl (by decide) [] rfl⟩ rfl rfl hl.1 rfl (lv_room (Nat.le_of_ble_eq_true rfl)) dL_cellOf_5 ⟨Nat.le_of_ble_eq_true rfl, Nat.le_of_ble_eq_true rfl⟩) hS (fun q _ h => hFc q h) hFc (fun q _ h => hFc q h) (fun E ce q9 u t H1 locs ht hvm hpx hB hz1 hk1 hS hce hcv hcl => ?_) (fun u t H1 locs ht hvm hw hB hz1 hk1 hS => ?_)
  · obtain ⟨rfl, hw⟩ := hB
    obtain ⟨hP, hD⟩ := cIn_rest (wc := [(h, .inr (16, [.ref l1, .ref l2, .ref l3, .ref l4, .ref l5, .ref l6, .ref l7, .ref l8, .ref l9, .ref ch, .ref co, .int 0, .int 4, .int (-40), .int 20, .int 0, .int 0, .int 100, .int 60, .int 14])), (l6, .inr (5, [.int 0, .ref e, .int 0]))]) (wr := [(o, .inl (cO, 1, .inr (.inl f0)))]) hP hD [0, 1] [2] rfl rfl (by decide) (by decide) hk1 hFc
    generalize H1 = H at hP hS hce ⊢
    have hP : va_P D vwCl [(o, .inl (cO, 1, .inr (.inl f0)))] H := hP
    have hD : va_D A [(o, .inl (cO, 1, .inr (.inl f0)))] := hD
    refine vx_catch (name := "java/lang/IndexOutOfBoundsException") (E := "java/lang/IndexOutOfBoundsException") hown [] ⟨0, 10, 13, 21⟩ [⟨0, 10, 17, 79⟩] (by rw [htab]; rfl) (fun z hz => by cases hz) (by decide) (by decide) (hts (.classLink RL 21 "java/lang/IndexOutOfBoundsException") (by decide +kernel)) (ev_u hE (w := .castable "java/lang/IndexOutOfBoundsException" "java/lang/IndexOutOfBoundsException") (by decide +kernel) rfl) hce hcv hcl ?_
    refine lv_astore (lv' := [(4, .ref q9), (0, .ref h), (1, .int p0), (2, .int p1), (3, .ref o)]) hx hb dL_cellOf_13 hl (by decide) rfl (fun ls hl => ?_)
    refine lv_iconst (v := 1) hx hb dL_cellOf_15 (by decide) ?_
    refine vx_ret ?_
    exact W.iret (v := 1) hx hb hr (fun t ht hW => ⟨⟨1, f0, rfl, rfl, ⟨by rw [ht]; exact hP.sub [0] rfl, va_K.moved hW.alike (hK.sub [0] rfl), hD.sub [0] (by decide) rfl⟩⟩, hS.F ht⟩) hS.2.2 dL_cellOf_16
  · exact hw.elim
-- L_spread
def v_L_spread (p0 : Int32) : Int32 := 1
set_option maxHeartbeats 4000000 in
set_option maxRecDepth 100000 in
theorem c_L_spread (l : Launch) (hst : l.stackTraces = false) (D : va_G) (e : Nat) (h : Nat) (l1 : Nat) (l2 : Nat) (l3 : Nat) (l4 : Nat) (l5 : Nat) (l6 : Nat) (l7 : Nat) (l8 : Nat) (l9 : Nat) (ch : Nat) (co : Nat) (o : Nat) (cO : ClassId) (f0 : Nat → Int64) (p0 : Int32) (sz : Nat) : vx_Met l yL_spread wsL_spread ({ frames := 18, cells := 1, slots := 6, locals := 400 }) (va_Pc [.ref h, .int p0, .ref o] (cIn D [(cO, .long)] [(h, .inr (16, [.ref l1, .ref l2, .ref l3, .ref l4, .ref l5, .ref l6, .ref l7, .ref l8, .ref l9, .ref ch, .ref co, .int 0, .int 4, .int (-40), .int 20, .int 0, .int 0, .int 100, .int 60, .int 14])), (l6, .inr (5, [.int 0, .ref e, .int 0])), (o, .inl (cO, 1, .inr (.inl f0)))] e sz)) (va_Qi (fun (r : Int32) (f : Nat → Int64) => r = v_L_spread p0) (fun (f : Nat → Int64) (t : State) => va_P D vwCl [(o, .inl (cO, 1, .inr (.inl f)))] t.heap ∧ va_K D vwCl [(cO, .long)] t ∧ va_D (va_A [(h, .inr (16, [.ref l1, .ref l2, .ref l3, .ref l4, .ref l5, .ref l6, .ref l7, .ref l8, .ref l9, .ref ch, .ref co, .int 0, .int 4, .int (-40), .int 20, .int 0, .int 0, .int 100, .int 60, .int 14])), (l6, .inr (5, [.int 0, .ref e, .int 0])), (o, .inl (cO, 1, .inr (.inl f0)))] sz) [(o, .inl (cO, 1, .inr (.inl f)))]) (va_A [(h, .inr (16, [.ref l1, .ref l2, .ref l3, .ref l4, .ref l5, .ref l6, .ref l7, .ref l8, .ref l9, .ref ch, .ref co, .int 0, .int 4, .int (-40), .int 20, .int 0, .int 0, .int 100, .int 60, .int 14])), (l6, .inr (5, [.int 0, .ref e, .int 0])), (o, .inl (cO, 1, .inr (.inl f0)))] sz)) (vx_X (fun _ : Unit => False) (fun (_ : String) (_ : Unit) (_ : State) => True) (va_A [(h, .inr (16, [.ref l1, .ref l2, .ref l3, .ref l4, .ref l5, .ref l6, .ref l7, .ref l8, .ref l9, .ref ch, .ref co, .int 0, .int 4, .int (-40), .int 20, .int 0, .int 0, .int 100, .int 60, .int 14])), (l6, .inr (5, [.int 0, .ref e, .int 0])), (o, .inl (cO, 1, .inr (.inl f0)))] sz)) 1 6 (va_A [(h, .inr (16, [.ref l1, .ref l2, .ref l3, .ref l4, .ref l5, .ref l6, .ref l7, .ref l8, .ref l9, .ref ch, .ref co, .int 0, .int 4, .int (-40), .int 20, .int 0, .int 0, .int 100, .int 60, .int 14])), (l6, .inr (5, [.int 0, .ref e, .int 0])), (o, .inl (cO, 1, .inr (.inl f0)))] sz) := by
  refine vx_ofWH (cc := cL_spread) (maxL := 4) (ret := (some .int)) (by decide +kernel) rfl ?_
  intro p e9 s m args below meth c s₁ B hml hv
  obtain ⟨rfl, hsz, hP, hK, hD0, hE0⟩ := hv
  have hx := B.exec
  have hb := B.bytes
  have hr := B.returns
  have hts := atoms_spec (ws := wsL_spread) B.pre
  have hown : s.vm.findClass RL = some m.cls := findClass_of_methodNamed B.named
  have hlocks := B.notSynchronized
  have htab := vx_table (x := yL_spread) B (hts (.codeWith yL_spread cL_spread 4 (some .int) [(0, 9, 12, 21)]) (show _ ∈ wsL_spread from List.mem_cons_self))
  subst hsz
  have hD := hD0.self (sz := s.heap.size)
  generalize hAe : va_A [(h, .inr (16, [.ref l1, .ref l2, .ref l3, .ref l4, .ref l5, .ref l6, .ref l7, .ref l8, .ref l9, .ref ch, .ref co, .int 0, .int 4, .int (-40), .int 20, .int 0, .int 0, .int 100, .int 60, .int 14])), (l6, .inr (5, [.int 0, .ref e, .int 0])), (o, .inl (cO, 1, .inr (.inl f0)))] s.heap.size = A at hD hE0 ⊢
  have hA : ∀ q : Nat, s.heap.size ≤ q → A q := fun q h => by rw [← hAe]; exact Or.inr h
  have hS : va_S A s.heap s.heap [] := va_S.rf
  have hE := hE0
  have hP : va_P D vwCl [(h, .inr (16, [.ref l1, .ref l2, .ref l3, .ref l4, .ref l5, .ref l6, .ref l7, .ref l8, .ref l9, .ref ch, .ref co, .int 0, .int 4, .int (-40), .int 20, .int 0, .int 0, .int 100, .int 60, .int 14])), (l6, .inr (5, [.int 0, .ref e, .int 0])), (o, .inl (cO, 1, .inr (.inl f0)))] s.heap := hP
  have hl := lv_entry ([.ref h, .int p0, .ref o]) (n := 4) (Nat.le_of_ble_eq_true rfl)
  rw [lg_entry_eq]
  generalize (lg_sl ([.ref h, .int p0, .ref o]) ++ List.replicate (4 - (lg_sl ([.ref h, .int p0, .ref o])).length) Slot.unset).toArray = ls at hl ⊢
  have hl : lv_has ls 4 [(0, .ref h), (1, .int p0), (2, .ref o)] := hl
  refine lv_aload_n hx hb dL_spread_0 rfl (lv_at hl 2 rfl) ?_
  refine lv_iconst (v := 0) hx hb dL_spread_1 (by decide) ?_
  refine lv_aload_n hx hb dL_spread_2 rfl (lv_at hl 0 rfl) ?_
  refine lv_iload_n hx hb dL_spread_3 rfl (lv_at hl 1 rfl) ?_
  have hFc := va_free (wc := [(h, .inr (16, [.ref l1, .ref l2, .ref l3, .ref l4, .ref l5, .ref l6, .ref l7, .ref l8, .ref l9, .ref ch, .ref co, .int 0, .int 4, .int (-40), .int 20, .int 0, .int 0, .int 100, .int 60, .int 14])), (l6, .inr (5, [.int 0, .ref e, .int 0]))]) hD hS hA [0, 1] rfl
  refine vx_callv (vx_runV (As := [.int p0]) (rest := [.int 0, .ref o]) ⟨hx, hb, hml, hown, hts⟩ (c_X10_spread l hst D e h l1 l2 l3 l4 l5 l6 l7 l8 l9 ch co p0 s.heap.size) (cwV 1 hts gL_spread_X10_spread rfl rfl rfl (by decide +kernel) ⟨Nat.le_of_ble_eq_true rfl, Nat.le_of_ble_eq_true rfl⟩) ⟨cIn_blind, va_recv hK hP (ci := 16) (q0 := 0) rfl rfl, cIn_go hK hP hD hE hS hA [0, 1] rfl rfl (by decide) [] rfl⟩ rfl rfl hl.1 rfl (lv_room (Nat.le_of_ble_eq_true rfl)) dL_spread_4 ⟨Nat.le_of_ble_eq_true rfl, Nat.le_of_ble_eq_true rfl⟩) hS (fun q _ h => hFc q h) hFc (fun q _ h => hFc q h) (fun E ce q9 u t H1 locs ht hvm hpx hB hz1 hk1 hS hce hcv hcl => ?_) (fun u t H1 locs ht hvm hw hB hz1 hk1 hS => ?_)
  · obtain ⟨rfl, hw⟩ := hB
    obtain ⟨hP, hD⟩ := cIn_rest (wc := [(h, .inr (16, [.ref l1, .ref l2, .ref l3, .ref l4, .ref l5, .ref l6, .ref l7, .ref l8, .ref l9, .ref ch, .ref co, .int 0, .int 4, .int (-40), .int 20, .int 0, .int 0, .int 100, .int 60, .int 14])), (l6, .inr (5, [.int 0, .ref e, .int 0]))]) (wr := [(o, .inl (cO, 1, .inr (.inl f0)))]) hP hD [0, 1] [2] rfl rfl (by decide) (by decide) hk1 hFc
    generalize H1 = H at hP hS hce ⊢
    have hP : va_P D vwCl [(o, .inl (cO, 1, .inr (.inl f0)))] H := hP
    have hD : va_D A [(o, .inl (cO, 1, .inr (.inl f0)))] := hD
    refine vx_catch (name := "java/lang/IndexOutOfBoundsException") (E := "java/lang/IndexOutOfBoundsException") hown [] ⟨0, 9, 12, 21⟩ [] (by rw [htab]; rfl) (fun z hz => by cases hz) (by decide) (by decide) (hts (.classLink RL 21 "java/lang/IndexOutOfBoundsException") (by decide +kernel)) (ev_u hE (w := .castable "java/lang/IndexOutOfBoundsException" "java/lang/IndexOutOfBoundsException") (by decide +kernel) rfl) hce hcv hcl ?_
    refine lv_astore_n (lv' := [(3, .ref q9), (0, .ref h), (1, .int p0), (2, .ref o)]) hx hb dL_spread_12 rfl hl (by decide) rfl (fun ls hl => ?_)
    refine lv_iconst (v := 1) hx hb dL_spread_13 (by decide) ?_
    refine vx_ret ?_
    exact W.iret (v := 1) hx hb hr (fun t ht hW => ⟨⟨1, f0, rfl, rfl, ⟨by rw [ht]; exact hP.sub [0] rfl, va_K.moved hW.alike (hK.sub [0] rfl), hD.sub [0] (by decide) rfl⟩⟩, hS.F ht⟩) hS.2.2 dL_spread_14
  · exact hw.elim
-- L_pack
def v_L_pack (p0 : Int32) (p1 : Int32) : Int32 := 1
set_option maxHeartbeats 4000000 in
set_option maxRecDepth 100000 in
theorem c_L_pack (l : Launch) (hst : l.stackTraces = false) (D : va_G) (e : Nat) (h : Nat) (l1 : Nat) (l2 : Nat) (l3 : Nat) (l4 : Nat) (l5 : Nat) (l6 : Nat) (l7 : Nat) (l8 : Nat) (l9 : Nat) (ch : Nat) (co : Nat) (o : Nat) (cO : ClassId) (f0 : Nat → Int64) (p0 : Int32) (p1 : Int32) (sz : Nat) : vx_Met l yL_pack wsL_pack ({ frames := 18, cells := 1, slots := 6, locals := 400 }) (va_Pc [.ref h, .int p0, .int p1, .ref o] (cIn D [(cO, .long)] [(h, .inr (16, [.ref l1, .ref l2, .ref l3, .ref l4, .ref l5, .ref l6, .ref l7, .ref l8, .ref l9, .ref ch, .ref co, .int 0, .int 4, .int (-40), .int 20, .int 0, .int 0, .int 100, .int 60, .int 14])), (l6, .inr (5, [.int 0, .ref e, .int 0])), (o, .inl (cO, 1, .inr (.inl f0)))] e sz)) (va_Qi (fun (r : Int32) (f : Nat → Int64) => r = v_L_pack p0 p1) (fun (f : Nat → Int64) (t : State) => va_P D vwCl [(o, .inl (cO, 1, .inr (.inl f)))] t.heap ∧ va_K D vwCl [(cO, .long)] t ∧ va_D (va_A [(h, .inr (16, [.ref l1, .ref l2, .ref l3, .ref l4, .ref l5, .ref l6, .ref l7, .ref l8, .ref l9, .ref ch, .ref co, .int 0, .int 4, .int (-40), .int 20, .int 0, .int 0, .int 100, .int 60, .int 14])), (l6, .inr (5, [.int 0, .ref e, .int 0])), (o, .inl (cO, 1, .inr (.inl f0)))] sz) [(o, .inl (cO, 1, .inr (.inl f)))]) (va_A [(h, .inr (16, [.ref l1, .ref l2, .ref l3, .ref l4, .ref l5, .ref l6, .ref l7, .ref l8, .ref l9, .ref ch, .ref co, .int 0, .int 4, .int (-40), .int 20, .int 0, .int 0, .int 100, .int 60, .int 14])), (l6, .inr (5, [.int 0, .ref e, .int 0])), (o, .inl (cO, 1, .inr (.inl f0)))] sz)) (vx_X (fun _ : Unit => False) (fun (_ : String) (_ : Unit) (_ : State) => True) (va_A [(h, .inr (16, [.ref l1, .ref l2, .ref l3, .ref l4, .ref l5, .ref l6, .ref l7, .ref l8, .ref l9, .ref ch, .ref co, .int 0, .int 4, .int (-40), .int 20, .int 0, .int 0, .int 100, .int 60, .int 14])), (l6, .inr (5, [.int 0, .ref e, .int 0])), (o, .inl (cO, 1, .inr (.inl f0)))] sz)) 1 6 (va_A [(h, .inr (16, [.ref l1, .ref l2, .ref l3, .ref l4, .ref l5, .ref l6, .ref l7, .ref l8, .ref l9, .ref ch, .ref co, .int 0, .int 4, .int (-40), .int 20, .int 0, .int 0, .int 100, .int 60, .int 14])), (l6, .inr (5, [.int 0, .ref e, .int 0])), (o, .inl (cO, 1, .inr (.inl f0)))] sz) := by
  refine vx_ofWH (cc := cL_pack) (maxL := 5) (ret := (some .int)) (by decide +kernel) rfl ?_
  intro p e9 s m args below meth c s₁ B hml hv
  obtain ⟨rfl, hsz, hP, hK, hD0, hE0⟩ := hv
  have hx := B.exec
  have hb := B.bytes
  have hr := B.returns
  have hts := atoms_spec (ws := wsL_pack) B.pre
  have hown : s.vm.findClass RL = some m.cls := findClass_of_methodNamed B.named
  have hlocks := B.notSynchronized
  have htab := vx_table (x := yL_pack) B (hts (.codeWith yL_pack cL_pack 5 (some .int) [(0, 10, 13, 21), (0, 10, 17, 13), (0, 10, 21, 30), (0, 10, 25, 15)]) (show _ ∈ wsL_pack from List.mem_cons_self))
  subst hsz
  have hD := hD0.self (sz := s.heap.size)
  generalize hAe : va_A [(h, .inr (16, [.ref l1, .ref l2, .ref l3, .ref l4, .ref l5, .ref l6, .ref l7, .ref l8, .ref l9, .ref ch, .ref co, .int 0, .int 4, .int (-40), .int 20, .int 0, .int 0, .int 100, .int 60, .int 14])), (l6, .inr (5, [.int 0, .ref e, .int 0])), (o, .inl (cO, 1, .inr (.inl f0)))] s.heap.size = A at hD hE0 ⊢
  have hA : ∀ q : Nat, s.heap.size ≤ q → A q := fun q h => by rw [← hAe]; exact Or.inr h
  have hS : va_S A s.heap s.heap [] := va_S.rf
  have hE := hE0
  have hP : va_P D vwCl [(h, .inr (16, [.ref l1, .ref l2, .ref l3, .ref l4, .ref l5, .ref l6, .ref l7, .ref l8, .ref l9, .ref ch, .ref co, .int 0, .int 4, .int (-40), .int 20, .int 0, .int 0, .int 100, .int 60, .int 14])), (l6, .inr (5, [.int 0, .ref e, .int 0])), (o, .inl (cO, 1, .inr (.inl f0)))] s.heap := hP
  have hl := lv_entry ([.ref h, .int p0, .int p1, .ref o]) (n := 5) (Nat.le_of_ble_eq_true rfl)
  rw [lg_entry_eq]
  generalize (lg_sl ([.ref h, .int p0, .int p1, .ref o]) ++ List.replicate (5 - (lg_sl ([.ref h, .int p0, .int p1, .ref o])).length) Slot.unset).toArray = ls at hl ⊢
  have hl : lv_has ls 5 [(0, .ref h), (1, .int p0), (2, .int p1), (3, .ref o)] := hl
  refine lv_aload_n hx hb dL_pack_0 rfl (lv_at hl 3 rfl) ?_
  refine lv_iconst (v := 0) hx hb dL_pack_1 (by decide) ?_
  refine lv_aload_n hx hb dL_pack_2 rfl (lv_at hl 0 rfl) ?_
  refine lv_iload_n hx hb dL_pack_3 rfl (lv_at hl 1 rfl) ?_
  refine lv_iload_n hx hb dL_pack_4 rfl (lv_at hl 2 rfl) ?_
  have hFc := va_free (wc := [(h, .inr (16, [.ref l1, .ref l2, .ref l3, .ref l4, .ref l5, .ref l6, .ref l7, .ref l8, .ref l9, .ref ch, .ref co, .int 0, .int 4, .int (-40), .int 20, .int 0, .int 0, .int 100, .int 60, .int 14])), (l6, .inr (5, [.int 0, .ref e, .int 0]))]) hD hS hA [0, 1] rfl
  refine vx_callv (vx_runV (As := [.int p0, .int p1]) (rest := [.int 0, .ref o]) ⟨hx, hb, hml, hown, hts⟩ (c_X10_pack l hst D e h l1 l2 l3 l4 l5 l6 l7 l8 l9 ch co p0 p1 s.heap.size) (cwV 2 hts gL_pack_X10_pack rfl rfl rfl (by decide +kernel) ⟨Nat.le_of_ble_eq_true rfl, Nat.le_of_ble_eq_true rfl⟩) ⟨cIn_blind, va_recv hK hP (ci := 16) (q0 := 0) rfl rfl, cIn_go hK hP hD hE hS hA [0, 1] rfl rfl (by decide) [] rfl⟩ rfl rfl hl.1 rfl (lv_room (Nat.le_of_ble_eq_true rfl)) dL_pack_5 ⟨Nat.le_of_ble_eq_true rfl, Nat.le_of_ble_eq_true rfl⟩) hS (fun q _ h => hFc q h) hFc (fun q _ h => hFc q h) (fun E ce q9 u t H1 locs ht hvm hpx hB hz1 hk1 hS hce hcv hcl => ?_) (fun u t H1 locs ht hvm hw hB hz1 hk1 hS => ?_)
  · obtain ⟨rfl, hw⟩ := hB
    obtain ⟨hP, hD⟩ := cIn_rest (wc := [(h, .inr (16, [.ref l1, .ref l2, .ref l3, .ref l4, .ref l5, .ref l6, .ref l7, .ref l8, .ref l9, .ref ch, .ref co, .int 0, .int 4, .int (-40), .int 20, .int 0, .int 0, .int 100, .int 60, .int 14])), (l6, .inr (5, [.int 0, .ref e, .int 0]))]) (wr := [(o, .inl (cO, 1, .inr (.inl f0)))]) hP hD [0, 1] [2] rfl rfl (by decide) (by decide) hk1 hFc
    generalize H1 = H at hP hS hce ⊢
    have hP : va_P D vwCl [(o, .inl (cO, 1, .inr (.inl f0)))] H := hP
    have hD : va_D A [(o, .inl (cO, 1, .inr (.inl f0)))] := hD
    refine vx_catch (name := "java/lang/IndexOutOfBoundsException") (E := "java/lang/IndexOutOfBoundsException") hown [] ⟨0, 10, 13, 21⟩ [⟨0, 10, 17, 13⟩, ⟨0, 10, 21, 30⟩, ⟨0, 10, 25, 15⟩] (by rw [htab]; rfl) (fun z hz => by cases hz) (by decide) (by decide) (hts (.classLink RL 21 "java/lang/IndexOutOfBoundsException") (by decide +kernel)) (ev_u hE (w := .castable "java/lang/IndexOutOfBoundsException" "java/lang/IndexOutOfBoundsException") (by decide +kernel) rfl) hce hcv hcl ?_
    refine lv_astore (lv' := [(4, .ref q9), (0, .ref h), (1, .int p0), (2, .int p1), (3, .ref o)]) hx hb dL_pack_13 hl (by decide) rfl (fun ls hl => ?_)
    refine lv_iconst (v := 1) hx hb dL_pack_15 (by decide) ?_
    refine vx_ret ?_
    exact W.iret (v := 1) hx hb hr (fun t ht hW => ⟨⟨1, f0, rfl, rfl, ⟨by rw [ht]; exact hP.sub [0] rfl, va_K.moved hW.alike (hK.sub [0] rfl), hD.sub [0] (by decide) rfl⟩⟩, hS.F ht⟩) hS.2.2 dL_pack_16
  · exact hw.elim
-- L_offset
def v_L_offset (p0 : Int32) (p1 : Int32) : Int32 := 1
set_option maxHeartbeats 4000000 in
set_option maxRecDepth 100000 in
theorem c_L_offset (l : Launch) (hst : l.stackTraces = false) (D : va_G) (e : Nat) (h : Nat) (l1 : Nat) (l2 : Nat) (l3 : Nat) (l4 : Nat) (l5 : Nat) (l6 : Nat) (l7 : Nat) (l8 : Nat) (l9 : Nat) (ch : Nat) (co : Nat) (o : Nat) (cO : ClassId) (f0 : Nat → Int64) (p0 : Int32) (p1 : Int32) (sz : Nat) : vx_Met l yL_offset wsL_offset ({ frames := 18, cells := 1, slots := 6, locals := 400 }) (va_Pc [.ref h, .int p0, .int p1, .ref o] (cIn D [(cO, .long)] [(h, .inr (16, [.ref l1, .ref l2, .ref l3, .ref l4, .ref l5, .ref l6, .ref l7, .ref l8, .ref l9, .ref ch, .ref co, .int 0, .int 4, .int (-40), .int 20, .int 0, .int 0, .int 100, .int 60, .int 14])), (l7, .inr (5, [.int 0, .ref e, .int 0])), (o, .inl (cO, 1, .inr (.inl f0)))] e sz)) (va_Qi (fun (r : Int32) (f : Nat → Int64) => r = v_L_offset p0 p1) (fun (f : Nat → Int64) (t : State) => va_P D vwCl [(o, .inl (cO, 1, .inr (.inl f)))] t.heap ∧ va_K D vwCl [(cO, .long)] t ∧ va_D (va_A [(h, .inr (16, [.ref l1, .ref l2, .ref l3, .ref l4, .ref l5, .ref l6, .ref l7, .ref l8, .ref l9, .ref ch, .ref co, .int 0, .int 4, .int (-40), .int 20, .int 0, .int 0, .int 100, .int 60, .int 14])), (l7, .inr (5, [.int 0, .ref e, .int 0])), (o, .inl (cO, 1, .inr (.inl f0)))] sz) [(o, .inl (cO, 1, .inr (.inl f)))]) (va_A [(h, .inr (16, [.ref l1, .ref l2, .ref l3, .ref l4, .ref l5, .ref l6, .ref l7, .ref l8, .ref l9, .ref ch, .ref co, .int 0, .int 4, .int (-40), .int 20, .int 0, .int 0, .int 100, .int 60, .int 14])), (l7, .inr (5, [.int 0, .ref e, .int 0])), (o, .inl (cO, 1, .inr (.inl f0)))] sz)) (vx_X (fun _ : Unit => False) (fun (_ : String) (_ : Unit) (_ : State) => True) (va_A [(h, .inr (16, [.ref l1, .ref l2, .ref l3, .ref l4, .ref l5, .ref l6, .ref l7, .ref l8, .ref l9, .ref ch, .ref co, .int 0, .int 4, .int (-40), .int 20, .int 0, .int 0, .int 100, .int 60, .int 14])), (l7, .inr (5, [.int 0, .ref e, .int 0])), (o, .inl (cO, 1, .inr (.inl f0)))] sz)) 1 6 (va_A [(h, .inr (16, [.ref l1, .ref l2, .ref l3, .ref l4, .ref l5, .ref l6, .ref l7, .ref l8, .ref l9, .ref ch, .ref co, .int 0, .int 4, .int (-40), .int 20, .int 0, .int 0, .int 100, .int 60, .int 14])), (l7, .inr (5, [.int 0, .ref e, .int 0])), (o, .inl (cO, 1, .inr (.inl f0)))] sz) := by
  refine vx_ofWH (cc := cL_offset) (maxL := 5) (ret := (some .int)) (by decide +kernel) rfl ?_
  intro p e9 s m args below meth c s₁ B hml hv
  obtain ⟨rfl, hsz, hP, hK, hD0, hE0⟩ := hv
  have hx := B.exec
  have hb := B.bytes
  have hr := B.returns
  have hts := atoms_spec (ws := wsL_offset) B.pre
  have hown : s.vm.findClass RL = some m.cls := findClass_of_methodNamed B.named
  have hlocks := B.notSynchronized
  have htab := vx_table (x := yL_offset) B (hts (.codeWith yL_offset cL_offset 5 (some .int) [(0, 10, 13, 21), (0, 10, 17, 13)]) (show _ ∈ wsL_offset from List.mem_cons_self))
  subst hsz
  have hD := hD0.self (sz := s.heap.size)
  generalize hAe : va_A [(h, .inr (16, [.ref l1, .ref l2, .ref l3, .ref l4, .ref l5, .ref l6, .ref l7, .ref l8, .ref l9, .ref ch, .ref co, .int 0, .int 4, .int (-40), .int 20, .int 0, .int 0, .int 100, .int 60, .int 14])), (l7, .inr (5, [.int 0, .ref e, .int 0])), (o, .inl (cO, 1, .inr (.inl f0)))] s.heap.size = A at hD hE0 ⊢
  have hA : ∀ q : Nat, s.heap.size ≤ q → A q := fun q h => by rw [← hAe]; exact Or.inr h
  have hS : va_S A s.heap s.heap [] := va_S.rf
  have hE := hE0
  have hP : va_P D vwCl [(h, .inr (16, [.ref l1, .ref l2, .ref l3, .ref l4, .ref l5, .ref l6, .ref l7, .ref l8, .ref l9, .ref ch, .ref co, .int 0, .int 4, .int (-40), .int 20, .int 0, .int 0, .int 100, .int 60, .int 14])), (l7, .inr (5, [.int 0, .ref e, .int 0])), (o, .inl (cO, 1, .inr (.inl f0)))] s.heap := hP
  have hl := lv_entry ([.ref h, .int p0, .int p1, .ref o]) (n := 5) (Nat.le_of_ble_eq_true rfl)
  rw [lg_entry_eq]
  generalize (lg_sl ([.ref h, .int p0, .int p1, .ref o]) ++ List.replicate (5 - (lg_sl ([.ref h, .int p0, .int p1, .ref o])).length) Slot.unset).toArray = ls at hl ⊢
  have hl : lv_has ls 5 [(0, .ref h), (1, .int p0), (2, .int p1), (3, .ref o)] := hl
  refine lv_aload_n hx hb dL_offset_0 rfl (lv_at hl 3 rfl) ?_
  refine lv_iconst (v := 0) hx hb dL_offset_1 (by decide) ?_
  refine lv_aload_n hx hb dL_offset_2 rfl (lv_at hl 0 rfl) ?_
  refine lv_iload_n hx hb dL_offset_3 rfl (lv_at hl 1 rfl) ?_
  refine lv_iload_n hx hb dL_offset_4 rfl (lv_at hl 2 rfl) ?_
  have hFc := va_free (wc := [(h, .inr (16, [.ref l1, .ref l2, .ref l3, .ref l4, .ref l5, .ref l6, .ref l7, .ref l8, .ref l9, .ref ch, .ref co, .int 0, .int 4, .int (-40), .int 20, .int 0, .int 0, .int 100, .int 60, .int 14])), (l7, .inr (5, [.int 0, .ref e, .int 0]))]) hD hS hA [0, 1] rfl
  refine vx_callv (vx_runV (As := [.int p0, .int p1]) (rest := [.int 0, .ref o]) ⟨hx, hb, hml, hown, hts⟩ (c_X10_offset l hst D e h l1 l2 l3 l4 l5 l6 l7 l8 l9 ch co p0 p1 s.heap.size) (cwV 2 hts gL_offset_X10_offset rfl rfl rfl (by decide +kernel) ⟨Nat.le_of_ble_eq_true rfl, Nat.le_of_ble_eq_true rfl⟩) ⟨cIn_blind, va_recv hK hP (ci := 16) (q0 := 0) rfl rfl, cIn_go hK hP hD hE hS hA [0, 1] rfl rfl (by decide) [] rfl⟩ rfl rfl hl.1 rfl (lv_room (Nat.le_of_ble_eq_true rfl)) dL_offset_5 ⟨Nat.le_of_ble_eq_true rfl, Nat.le_of_ble_eq_true rfl⟩) hS (fun q _ h => hFc q h) hFc (fun q _ h => hFc q h) (fun E ce q9 u t H1 locs ht hvm hpx hB hz1 hk1 hS hce hcv hcl => ?_) (fun u t H1 locs ht hvm hw hB hz1 hk1 hS => ?_)
  · obtain ⟨rfl, hw⟩ := hB
    obtain ⟨hP, hD⟩ := cIn_rest (wc := [(h, .inr (16, [.ref l1, .ref l2, .ref l3, .ref l4, .ref l5, .ref l6, .ref l7, .ref l8, .ref l9, .ref ch, .ref co, .int 0, .int 4, .int (-40), .int 20, .int 0, .int 0, .int 100, .int 60, .int 14])), (l7, .inr (5, [.int 0, .ref e, .int 0]))]) (wr := [(o, .inl (cO, 1, .inr (.inl f0)))]) hP hD [0, 1] [2] rfl rfl (by decide) (by decide) hk1 hFc
    generalize H1 = H at hP hS hce ⊢
    have hP : va_P D vwCl [(o, .inl (cO, 1, .inr (.inl f0)))] H := hP
    have hD : va_D A [(o, .inl (cO, 1, .inr (.inl f0)))] := hD
    refine vx_catch (name := "java/lang/IndexOutOfBoundsException") (E := "java/lang/IndexOutOfBoundsException") hown [] ⟨0, 10, 13, 21⟩ [⟨0, 10, 17, 13⟩] (by rw [htab]; rfl) (fun z hz => by cases hz) (by decide) (by decide) (hts (.classLink RL 21 "java/lang/IndexOutOfBoundsException") (by decide +kernel)) (ev_u hE (w := .castable "java/lang/IndexOutOfBoundsException" "java/lang/IndexOutOfBoundsException") (by decide +kernel) rfl) hce hcv hcl ?_
    refine lv_astore (lv' := [(4, .ref q9), (0, .ref h), (1, .int p0), (2, .int p1), (3, .ref o)]) hx hb dL_offset_13 hl (by decide) rfl (fun ls hl => ?_)
    refine lv_iconst (v := 1) hx hb dL_offset_15 (by decide) ?_
    refine vx_ret ?_
    exact W.iret (v := 1) hx hb hr (fun t ht hW => ⟨⟨1, f0, rfl, rfl, ⟨by rw [ht]; exact hP.sub [0] rfl, va_K.moved hW.alike (hK.sub [0] rfl), hD.sub [0] (by decide) rfl⟩⟩, hS.F ht⟩) hS.2.2 dL_offset_16
  · exact hw.elim
-- L_drive
def v_L_drive (p0 : Int32) (p1 : Int32) (p2 : Int32) : Int32 := 1
set_option maxHeartbeats 4000000 in
set_option maxRecDepth 100000 in
theorem c_L_drive (l : Launch) (hst : l.stackTraces = false) (D : va_G) (e : Nat) (h : Nat) (l1 : Nat) (l2 : Nat) (l3 : Nat) (l4 : Nat) (l5 : Nat) (l6 : Nat) (l7 : Nat) (l8 : Nat) (l9 : Nat) (ch : Nat) (co : Nat) (o : Nat) (cO : ClassId) (f0 : Nat → Int64) (p0 : Int32) (p1 : Int32) (p2 : Int32) (sz : Nat) : vx_Met l yL_drive wsL_drive ({ frames := 18, cells := 1, slots := 6, locals := 400 }) (va_Pc [.ref h, .int p0, .int p1, .int p2, .ref o] (cIn D [(cO, .long)] [(h, .inr (16, [.ref l1, .ref l2, .ref l3, .ref l4, .ref l5, .ref l6, .ref l7, .ref l8, .ref l9, .ref ch, .ref co, .int 0, .int 4, .int (-40), .int 20, .int 0, .int 0, .int 100, .int 60, .int 14])), (l7, .inr (5, [.int 0, .ref e, .int 0])), (o, .inl (cO, 1, .inr (.inl f0)))] e sz)) (va_Qi (fun (r : Int32) (f : Nat → Int64) => r = v_L_drive p0 p1 p2) (fun (f : Nat → Int64) (t : State) => va_P D vwCl [(o, .inl (cO, 1, .inr (.inl f)))] t.heap ∧ va_K D vwCl [(cO, .long)] t ∧ va_D (va_A [(h, .inr (16, [.ref l1, .ref l2, .ref l3, .ref l4, .ref l5, .ref l6, .ref l7, .ref l8, .ref l9, .ref ch, .ref co, .int 0, .int 4, .int (-40), .int 20, .int 0, .int 0, .int 100, .int 60, .int 14])), (l7, .inr (5, [.int 0, .ref e, .int 0])), (o, .inl (cO, 1, .inr (.inl f0)))] sz) [(o, .inl (cO, 1, .inr (.inl f)))]) (va_A [(h, .inr (16, [.ref l1, .ref l2, .ref l3, .ref l4, .ref l5, .ref l6, .ref l7, .ref l8, .ref l9, .ref ch, .ref co, .int 0, .int 4, .int (-40), .int 20, .int 0, .int 0, .int 100, .int 60, .int 14])), (l7, .inr (5, [.int 0, .ref e, .int 0])), (o, .inl (cO, 1, .inr (.inl f0)))] sz)) (vx_X (fun _ : Unit => False) (fun (_ : String) (_ : Unit) (_ : State) => True) (va_A [(h, .inr (16, [.ref l1, .ref l2, .ref l3, .ref l4, .ref l5, .ref l6, .ref l7, .ref l8, .ref l9, .ref ch, .ref co, .int 0, .int 4, .int (-40), .int 20, .int 0, .int 0, .int 100, .int 60, .int 14])), (l7, .inr (5, [.int 0, .ref e, .int 0])), (o, .inl (cO, 1, .inr (.inl f0)))] sz)) 1 6 (va_A [(h, .inr (16, [.ref l1, .ref l2, .ref l3, .ref l4, .ref l5, .ref l6, .ref l7, .ref l8, .ref l9, .ref ch, .ref co, .int 0, .int 4, .int (-40), .int 20, .int 0, .int 0, .int 100, .int 60, .int 14])), (l7, .inr (5, [.int 0, .ref e, .int 0])), (o, .inl (cO, 1, .inr (.inl f0)))] sz) := by
  refine vx_ofWH (cc := cL_drive) (maxL := 6) (ret := (some .int)) (by decide +kernel) rfl ?_
  intro p e9 s m args below meth c s₁ B hml hv
  obtain ⟨rfl, hsz, hP, hK, hD0, hE0⟩ := hv
  have hx := B.exec
  have hb := B.bytes
  have hr := B.returns
  have hts := atoms_spec (ws := wsL_drive) B.pre
  have hown : s.vm.findClass RL = some m.cls := findClass_of_methodNamed B.named
  have hlocks := B.notSynchronized
  have htab := vx_table (x := yL_drive) B (hts (.codeWith yL_drive cL_drive 6 (some .int) [(0, 12, 15, 21), (0, 12, 19, 13), (0, 12, 23, 30)]) (show _ ∈ wsL_drive from List.mem_cons_self))
  subst hsz
  have hD := hD0.self (sz := s.heap.size)
  generalize hAe : va_A [(h, .inr (16, [.ref l1, .ref l2, .ref l3, .ref l4, .ref l5, .ref l6, .ref l7, .ref l8, .ref l9, .ref ch, .ref co, .int 0, .int 4, .int (-40), .int 20, .int 0, .int 0, .int 100, .int 60, .int 14])), (l7, .inr (5, [.int 0, .ref e, .int 0])), (o, .inl (cO, 1, .inr (.inl f0)))] s.heap.size = A at hD hE0 ⊢
  have hA : ∀ q : Nat, s.heap.size ≤ q → A q := fun q h => by rw [← hAe]; exact Or.inr h
  have hS : va_S A s.heap s.heap [] := va_S.rf
  have hE := hE0
  have hP : va_P D vwCl [(h, .inr (16, [.ref l1, .ref l2, .ref l3, .ref l4, .ref l5, .ref l6, .ref l7, .ref l8, .ref l9, .ref ch, .ref co, .int 0, .int 4, .int (-40), .int 20, .int 0, .int 0, .int 100, .int 60, .int 14])), (l7, .inr (5, [.int 0, .ref e, .int 0])), (o, .inl (cO, 1, .inr (.inl f0)))] s.heap := hP
  have hl := lv_entry ([.ref h, .int p0, .int p1, .int p2, .ref o]) (n := 6) (Nat.le_of_ble_eq_true rfl)
  rw [lg_entry_eq]
  generalize (lg_sl ([.ref h, .int p0, .int p1, .int p2, .ref o]) ++ List.replicate (6 - (lg_sl ([.ref h, .int p0, .int p1, .int p2, .ref o])).length) Slot.unset).toArray = ls at hl ⊢
  have hl : lv_has ls 6 [(0, .ref h), (1, .int p0), (2, .int p1), (3, .int p2), (4, .ref o)] := hl
  refine lv_aload hx hb dL_drive_0 (lv_at hl 4 rfl) ?_
  refine lv_iconst (v := 0) hx hb dL_drive_2 (by decide) ?_
  refine lv_aload_n hx hb dL_drive_3 rfl (lv_at hl 0 rfl) ?_
  refine lv_iload_n hx hb dL_drive_4 rfl (lv_at hl 1 rfl) ?_
  refine lv_iload_n hx hb dL_drive_5 rfl (lv_at hl 2 rfl) ?_
  refine lv_iload_n hx hb dL_drive_6 rfl (lv_at hl 3 rfl) ?_
  have hFc := va_free (wc := [(h, .inr (16, [.ref l1, .ref l2, .ref l3, .ref l4, .ref l5, .ref l6, .ref l7, .ref l8, .ref l9, .ref ch, .ref co, .int 0, .int 4, .int (-40), .int 20, .int 0, .int 0, .int 100, .int 60, .int 14])), (l7, .inr (5, [.int 0, .ref e, .int 0]))]) hD hS hA [0, 1] rfl
  refine vx_callv (vx_runV (As := [.int p0, .int p1, .int p2]) (rest := [.int 0, .ref o]) ⟨hx, hb, hml, hown, hts⟩ (c_X10_drive l hst D e h l1 l2 l3 l4 l5 l6 l7 l8 l9 ch co p0 p1 p2 s.heap.size) (cwV 3 hts gL_drive_X10_drive rfl rfl rfl (by decide +kernel) ⟨Nat.le_of_ble_eq_true rfl, Nat.le_of_ble_eq_true rfl⟩) ⟨cIn_blind, va_recv hK hP (ci := 16) (q0 := 0) rfl rfl, cIn_go hK hP hD hE hS hA [0, 1] rfl rfl (by decide) [] rfl⟩ rfl rfl hl.1 rfl (lv_room (Nat.le_of_ble_eq_true rfl)) dL_drive_7 ⟨Nat.le_of_ble_eq_true rfl, Nat.le_of_ble_eq_true rfl⟩) hS (fun q _ h => hFc q h) hFc (fun q _ h => hFc q h) (fun E ce q9 u t H1 locs ht hvm hpx hB hz1 hk1 hS hce hcv hcl => ?_) (fun u t H1 locs ht hvm hw hB hz1 hk1 hS => ?_)
  · obtain ⟨rfl, hw⟩ := hB
    obtain ⟨hP, hD⟩ := cIn_rest (wc := [(h, .inr (16, [.ref l1, .ref l2, .ref l3, .ref l4, .ref l5, .ref l6, .ref l7, .ref l8, .ref l9, .ref ch, .ref co, .int 0, .int 4, .int (-40), .int 20, .int 0, .int 0, .int 100, .int 60, .int 14])), (l7, .inr (5, [.int 0, .ref e, .int 0]))]) (wr := [(o, .inl (cO, 1, .inr (.inl f0)))]) hP hD [0, 1] [2] rfl rfl (by decide) (by decide) hk1 hFc
    generalize H1 = H at hP hS hce ⊢
    have hP : va_P D vwCl [(o, .inl (cO, 1, .inr (.inl f0)))] H := hP
    have hD : va_D A [(o, .inl (cO, 1, .inr (.inl f0)))] := hD
    refine vx_catch (name := "java/lang/IndexOutOfBoundsException") (E := "java/lang/IndexOutOfBoundsException") hown [] ⟨0, 12, 15, 21⟩ [⟨0, 12, 19, 13⟩, ⟨0, 12, 23, 30⟩] (by rw [htab]; rfl) (fun z hz => by cases hz) (by decide) (by decide) (hts (.classLink RL 21 "java/lang/IndexOutOfBoundsException") (by decide +kernel)) (ev_u hE (w := .castable "java/lang/IndexOutOfBoundsException" "java/lang/IndexOutOfBoundsException") (by decide +kernel) rfl) hce hcv hcl ?_
    refine lv_astore (lv' := [(5, .ref q9), (0, .ref h), (1, .int p0), (2, .int p1), (3, .int p2), (4, .ref o)]) hx hb dL_drive_15 hl (by decide) rfl (fun ls hl => ?_)
    refine lv_iconst (v := 1) hx hb dL_drive_17 (by decide) ?_
    refine vx_ret ?_
    exact W.iret (v := 1) hx hb hr (fun t ht hW => ⟨⟨1, f0, rfl, rfl, ⟨by rw [ht]; exact hP.sub [0] rfl, va_K.moved hW.alike (hK.sub [0] rfl), hD.sub [0] (by decide) rfl⟩⟩, hS.F ht⟩) hS.2.2 dL_drive_18
  · exact hw.elim
-- L_rest
def v_L_rest (p0 : Int32) (p1 : Int32) : Int32 := 1
set_option maxHeartbeats 4000000 in
set_option maxRecDepth 100000 in
theorem c_L_rest (l : Launch) (hst : l.stackTraces = false) (D : va_G) (e : Nat) (h : Nat) (l1 : Nat) (l2 : Nat) (l3 : Nat) (l4 : Nat) (l5 : Nat) (l6 : Nat) (l7 : Nat) (l8 : Nat) (l9 : Nat) (ch : Nat) (co : Nat) (o : Nat) (cO : ClassId) (f0 : Nat → Int64) (p0 : Int32) (p1 : Int32) (sz : Nat) : vx_Met l yL_rest wsL_rest ({ frames := 18, cells := 1, slots := 6, locals := 400 }) (va_Pc [.ref h, .int p0, .int p1, .ref o] (cIn D [(cO, .long)] [(h, .inr (16, [.ref l1, .ref l2, .ref l3, .ref l4, .ref l5, .ref l6, .ref l7, .ref l8, .ref l9, .ref ch, .ref co, .int 0, .int 4, .int (-40), .int 20, .int 0, .int 0, .int 100, .int 60, .int 14])), (l7, .inr (5, [.int 0, .ref e, .int 0])), (o, .inl (cO, 1, .inr (.inl f0)))] e sz)) (va_Qi (fun (r : Int32) (f : Nat → Int64) => r = v_L_rest p0 p1) (fun (f : Nat → Int64) (t : State) => va_P D vwCl [(o, .inl (cO, 1, .inr (.inl f)))] t.heap ∧ va_K D vwCl [(cO, .long)] t ∧ va_D (va_A [(h, .inr (16, [.ref l1, .ref l2, .ref l3, .ref l4, .ref l5, .ref l6, .ref l7, .ref l8, .ref l9, .ref ch, .ref co, .int 0, .int 4, .int (-40), .int 20, .int 0, .int 0, .int 100, .int 60, .int 14])), (l7, .inr (5, [.int 0, .ref e, .int 0])), (o, .inl (cO, 1, .inr (.inl f0)))] sz) [(o, .inl (cO, 1, .inr (.inl f)))]) (va_A [(h, .inr (16, [.ref l1, .ref l2, .ref l3, .ref l4, .ref l5, .ref l6, .ref l7, .ref l8, .ref l9, .ref ch, .ref co, .int 0, .int 4, .int (-40), .int 20, .int 0, .int 0, .int 100, .int 60, .int 14])), (l7, .inr (5, [.int 0, .ref e, .int 0])), (o, .inl (cO, 1, .inr (.inl f0)))] sz)) (vx_X (fun _ : Unit => False) (fun (_ : String) (_ : Unit) (_ : State) => True) (va_A [(h, .inr (16, [.ref l1, .ref l2, .ref l3, .ref l4, .ref l5, .ref l6, .ref l7, .ref l8, .ref l9, .ref ch, .ref co, .int 0, .int 4, .int (-40), .int 20, .int 0, .int 0, .int 100, .int 60, .int 14])), (l7, .inr (5, [.int 0, .ref e, .int 0])), (o, .inl (cO, 1, .inr (.inl f0)))] sz)) 1 6 (va_A [(h, .inr (16, [.ref l1, .ref l2, .ref l3, .ref l4, .ref l5, .ref l6, .ref l7, .ref l8, .ref l9, .ref ch, .ref co, .int 0, .int 4, .int (-40), .int 20, .int 0, .int 0, .int 100, .int 60, .int 14])), (l7, .inr (5, [.int 0, .ref e, .int 0])), (o, .inl (cO, 1, .inr (.inl f0)))] sz) := by
  refine vx_ofWH (cc := cL_rest) (maxL := 5) (ret := (some .int)) (by decide +kernel) rfl ?_
  intro p e9 s m args below meth c s₁ B hml hv
  obtain ⟨rfl, hsz, hP, hK, hD0, hE0⟩ := hv
  have hx := B.exec
  have hb := B.bytes
  have hr := B.returns
  have hts := atoms_spec (ws := wsL_rest) B.pre
  have hown : s.vm.findClass RL = some m.cls := findClass_of_methodNamed B.named
  have hlocks := B.notSynchronized
  have htab := vx_table (x := yL_rest) B (hts (.codeWith yL_rest cL_rest 5 (some .int) [(0, 10, 13, 21), (0, 10, 17, 13)]) (show _ ∈ wsL_rest from List.mem_cons_self))
  subst hsz
  have hD := hD0.self (sz := s.heap.size)
  generalize hAe : va_A [(h, .inr (16, [.ref l1, .ref l2, .ref l3, .ref l4, .ref l5, .ref l6, .ref l7, .ref l8, .ref l9, .ref ch, .ref co, .int 0, .int 4, .int (-40), .int 20, .int 0, .int 0, .int 100, .int 60, .int 14])), (l7, .inr (5, [.int 0, .ref e, .int 0])), (o, .inl (cO, 1, .inr (.inl f0)))] s.heap.size = A at hD hE0 ⊢
  have hA : ∀ q : Nat, s.heap.size ≤ q → A q := fun q h => by rw [← hAe]; exact Or.inr h
  have hS : va_S A s.heap s.heap [] := va_S.rf
  have hE := hE0
  have hP : va_P D vwCl [(h, .inr (16, [.ref l1, .ref l2, .ref l3, .ref l4, .ref l5, .ref l6, .ref l7, .ref l8, .ref l9, .ref ch, .ref co, .int 0, .int 4, .int (-40), .int 20, .int 0, .int 0, .int 100, .int 60, .int 14])), (l7, .inr (5, [.int 0, .ref e, .int 0])), (o, .inl (cO, 1, .inr (.inl f0)))] s.heap := hP
  have hl := lv_entry ([.ref h, .int p0, .int p1, .ref o]) (n := 5) (Nat.le_of_ble_eq_true rfl)
  rw [lg_entry_eq]
  generalize (lg_sl ([.ref h, .int p0, .int p1, .ref o]) ++ List.replicate (5 - (lg_sl ([.ref h, .int p0, .int p1, .ref o])).length) Slot.unset).toArray = ls at hl ⊢
  have hl : lv_has ls 5 [(0, .ref h), (1, .int p0), (2, .int p1), (3, .ref o)] := hl
  refine lv_aload_n hx hb dL_rest_0 rfl (lv_at hl 3 rfl) ?_
  refine lv_iconst (v := 0) hx hb dL_rest_1 (by decide) ?_
  refine lv_aload_n hx hb dL_rest_2 rfl (lv_at hl 0 rfl) ?_
  refine lv_iload_n hx hb dL_rest_3 rfl (lv_at hl 1 rfl) ?_
  refine lv_iload_n hx hb dL_rest_4 rfl (lv_at hl 2 rfl) ?_
  have hFc := va_free (wc := [(h, .inr (16, [.ref l1, .ref l2, .ref l3, .ref l4, .ref l5, .ref l6, .ref l7, .ref l8, .ref l9, .ref ch, .ref co, .int 0, .int 4, .int (-40), .int 20, .int 0, .int 0, .int 100, .int 60, .int 14])), (l7, .inr (5, [.int 0, .ref e, .int 0]))]) hD hS hA [0, 1] rfl
  refine vx_callv (vx_runV (As := [.int p0, .int p1]) (rest := [.int 0, .ref o]) ⟨hx, hb, hml, hown, hts⟩ (c_X10_rest l hst D e h l1 l2 l3 l4 l5 l6 l7 l8 l9 ch co p0 p1 s.heap.size) (cwV 2 hts gL_rest_X10_rest rfl rfl rfl (by decide +kernel) ⟨Nat.le_of_ble_eq_true rfl, Nat.le_of_ble_eq_true rfl⟩) ⟨cIn_blind, va_recv hK hP (ci := 16) (q0 := 0) rfl rfl, cIn_go hK hP hD hE hS hA [0, 1] rfl rfl (by decide) [] rfl⟩ rfl rfl hl.1 rfl (lv_room (Nat.le_of_ble_eq_true rfl)) dL_rest_5 ⟨Nat.le_of_ble_eq_true rfl, Nat.le_of_ble_eq_true rfl⟩) hS (fun q _ h => hFc q h) hFc (fun q _ h => hFc q h) (fun E ce q9 u t H1 locs ht hvm hpx hB hz1 hk1 hS hce hcv hcl => ?_) (fun u t H1 locs ht hvm hw hB hz1 hk1 hS => ?_)
  · obtain ⟨rfl, hw⟩ := hB
    obtain ⟨hP, hD⟩ := cIn_rest (wc := [(h, .inr (16, [.ref l1, .ref l2, .ref l3, .ref l4, .ref l5, .ref l6, .ref l7, .ref l8, .ref l9, .ref ch, .ref co, .int 0, .int 4, .int (-40), .int 20, .int 0, .int 0, .int 100, .int 60, .int 14])), (l7, .inr (5, [.int 0, .ref e, .int 0]))]) (wr := [(o, .inl (cO, 1, .inr (.inl f0)))]) hP hD [0, 1] [2] rfl rfl (by decide) (by decide) hk1 hFc
    generalize H1 = H at hP hS hce ⊢
    have hP : va_P D vwCl [(o, .inl (cO, 1, .inr (.inl f0)))] H := hP
    have hD : va_D A [(o, .inl (cO, 1, .inr (.inl f0)))] := hD
    refine vx_catch (name := "java/lang/IndexOutOfBoundsException") (E := "java/lang/IndexOutOfBoundsException") hown [] ⟨0, 10, 13, 21⟩ [⟨0, 10, 17, 13⟩] (by rw [htab]; rfl) (fun z hz => by cases hz) (by decide) (by decide) (hts (.classLink RL 21 "java/lang/IndexOutOfBoundsException") (by decide +kernel)) (ev_u hE (w := .castable "java/lang/IndexOutOfBoundsException" "java/lang/IndexOutOfBoundsException") (by decide +kernel) rfl) hce hcv hcl ?_
    refine lv_astore (lv' := [(4, .ref q9), (0, .ref h), (1, .int p0), (2, .int p1), (3, .ref o)]) hx hb dL_rest_13 hl (by decide) rfl (fun ls hl => ?_)
    refine lv_iconst (v := 1) hx hb dL_rest_15 (by decide) ?_
    refine vx_ret ?_
    exact W.iret (v := 1) hx hb hr (fun t ht hW => ⟨⟨1, f0, rfl, rfl, ⟨by rw [ht]; exact hP.sub [0] rfl, va_K.moved hW.alike (hK.sub [0] rfl), hD.sub [0] (by decide) rfl⟩⟩, hS.F ht⟩) hS.2.2 dL_rest_16
  · exact hw.elim
-- L_on
def v_L_on (p0 : Int32) : Int32 := 1
set_option maxHeartbeats 4000000 in
set_option maxRecDepth 100000 in
theorem c_L_on (l : Launch) (hst : l.stackTraces = false) (D : va_G) (e : Nat) (h : Nat) (l1 : Nat) (l2 : Nat) (l3 : Nat) (l4 : Nat) (l5 : Nat) (l6 : Nat) (l7 : Nat) (l8 : Nat) (l9 : Nat) (ch : Nat) (co : Nat) (o : Nat) (cO : ClassId) (f0 : Nat → Int64) (p0 : Int32) (sz : Nat) : vx_Met l yL_on wsL_on ({ frames := 18, cells := 1, slots := 6, locals := 400 }) (va_Pc [.ref h, .int p0, .ref o] (cIn D [(cO, .long)] [(h, .inr (16, [.ref l1, .ref l2, .ref l3, .ref l4, .ref l5, .ref l6, .ref l7, .ref l8, .ref l9, .ref ch, .ref co, .int 0, .int 4, .int (-40), .int 20, .int 0, .int 0, .int 100, .int 60, .int 14])), (l7, .inr (5, [.int 0, .ref e, .int 0])), (o, .inl (cO, 1, .inr (.inl f0)))] e sz)) (va_Qi (fun (r : Int32) (f : Nat → Int64) => r = v_L_on p0) (fun (f : Nat → Int64) (t : State) => va_P D vwCl [(o, .inl (cO, 1, .inr (.inl f)))] t.heap ∧ va_K D vwCl [(cO, .long)] t ∧ va_D (va_A [(h, .inr (16, [.ref l1, .ref l2, .ref l3, .ref l4, .ref l5, .ref l6, .ref l7, .ref l8, .ref l9, .ref ch, .ref co, .int 0, .int 4, .int (-40), .int 20, .int 0, .int 0, .int 100, .int 60, .int 14])), (l7, .inr (5, [.int 0, .ref e, .int 0])), (o, .inl (cO, 1, .inr (.inl f0)))] sz) [(o, .inl (cO, 1, .inr (.inl f)))]) (va_A [(h, .inr (16, [.ref l1, .ref l2, .ref l3, .ref l4, .ref l5, .ref l6, .ref l7, .ref l8, .ref l9, .ref ch, .ref co, .int 0, .int 4, .int (-40), .int 20, .int 0, .int 0, .int 100, .int 60, .int 14])), (l7, .inr (5, [.int 0, .ref e, .int 0])), (o, .inl (cO, 1, .inr (.inl f0)))] sz)) (vx_X (fun _ : Unit => False) (fun (_ : String) (_ : Unit) (_ : State) => True) (va_A [(h, .inr (16, [.ref l1, .ref l2, .ref l3, .ref l4, .ref l5, .ref l6, .ref l7, .ref l8, .ref l9, .ref ch, .ref co, .int 0, .int 4, .int (-40), .int 20, .int 0, .int 0, .int 100, .int 60, .int 14])), (l7, .inr (5, [.int 0, .ref e, .int 0])), (o, .inl (cO, 1, .inr (.inl f0)))] sz)) 1 6 (va_A [(h, .inr (16, [.ref l1, .ref l2, .ref l3, .ref l4, .ref l5, .ref l6, .ref l7, .ref l8, .ref l9, .ref ch, .ref co, .int 0, .int 4, .int (-40), .int 20, .int 0, .int 0, .int 100, .int 60, .int 14])), (l7, .inr (5, [.int 0, .ref e, .int 0])), (o, .inl (cO, 1, .inr (.inl f0)))] sz) := by
  refine vx_ofWH (cc := cL_on) (maxL := 4) (ret := (some .int)) (by decide +kernel) rfl ?_
  intro p e9 s m args below meth c s₁ B hml hv
  obtain ⟨rfl, hsz, hP, hK, hD0, hE0⟩ := hv
  have hx := B.exec
  have hb := B.bytes
  have hr := B.returns
  have hts := atoms_spec (ws := wsL_on) B.pre
  have hown : s.vm.findClass RL = some m.cls := findClass_of_methodNamed B.named
  have hlocks := B.notSynchronized
  have htab := vx_table (x := yL_on) B (hts (.codeWith yL_on cL_on 4 (some .int) [(0, 16, 19, 21)]) (show _ ∈ wsL_on from List.mem_cons_self))
  subst hsz
  have hD := hD0.self (sz := s.heap.size)
  generalize hAe : va_A [(h, .inr (16, [.ref l1, .ref l2, .ref l3, .ref l4, .ref l5, .ref l6, .ref l7, .ref l8, .ref l9, .ref ch, .ref co, .int 0, .int 4, .int (-40), .int 20, .int 0, .int 0, .int 100, .int 60, .int 14])), (l7, .inr (5, [.int 0, .ref e, .int 0])), (o, .inl (cO, 1, .inr (.inl f0)))] s.heap.size = A at hD hE0 ⊢
  have hA : ∀ q : Nat, s.heap.size ≤ q → A q := fun q h => by rw [← hAe]; exact Or.inr h
  have hS : va_S A s.heap s.heap [] := va_S.rf
  have hE := hE0
  have hP : va_P D vwCl [(h, .inr (16, [.ref l1, .ref l2, .ref l3, .ref l4, .ref l5, .ref l6, .ref l7, .ref l8, .ref l9, .ref ch, .ref co, .int 0, .int 4, .int (-40), .int 20, .int 0, .int 0, .int 100, .int 60, .int 14])), (l7, .inr (5, [.int 0, .ref e, .int 0])), (o, .inl (cO, 1, .inr (.inl f0)))] s.heap := hP
  have hl := lv_entry ([.ref h, .int p0, .ref o]) (n := 4) (Nat.le_of_ble_eq_true rfl)
  rw [lg_entry_eq]
  generalize (lg_sl ([.ref h, .int p0, .ref o]) ++ List.replicate (4 - (lg_sl ([.ref h, .int p0, .ref o])).length) Slot.unset).toArray = ls at hl ⊢
  have hl : lv_has ls 4 [(0, .ref h), (1, .int p0), (2, .ref o)] := hl
  refine lv_aload_n hx hb dL_on_0 rfl (lv_at hl 2 rfl) ?_
  refine lv_iconst (v := 0) hx hb dL_on_1 (by decide) ?_
  refine lv_aload_n hx hb dL_on_2 rfl (lv_at hl 0 rfl) ?_
  refine lv_iload_n hx hb dL_on_3 rfl (lv_at hl 1 rfl) ?_
  have hFc := va_free (wc := [(h, .inr (16, [.ref l1, .ref l2, .ref l3, .ref l4, .ref l5, .ref l6, .ref l7, .ref l8, .ref l9, .ref ch, .ref co, .int 0, .int 4, .int (-40), .int 20, .int 0, .int 0, .int 100, .int 60, .int 14])), (l7, .inr (5, [.int 0, .ref e, .int 0]))]) hD hS hA [0, 1] rfl
  refine vx_callv (vx_runV (As := [.int p0]) (rest := [.int 0, .ref o]) ⟨hx, hb, hml, hown, hts⟩ (c_X10_on l hst D e h l1 l2 l3 l4 l5 l6 l7 l8 l9 ch co p0 s.heap.size) (cwV 1 hts gL_on_X10_on rfl rfl rfl (by decide +kernel) ⟨Nat.le_of_ble_eq_true rfl, Nat.le_of_ble_eq_true rfl⟩) ⟨cIn_blind, va_recv hK hP (ci := 16) (q0 := 0) rfl rfl, cIn_go hK hP hD hE hS hA [0, 1] rfl rfl (by decide) [] rfl⟩ rfl rfl hl.1 rfl (lv_room (Nat.le_of_ble_eq_true rfl)) dL_on_4 ⟨Nat.le_of_ble_eq_true rfl, Nat.le_of_ble_eq_true rfl⟩) hS (fun q _ h => hFc q h) hFc (fun q _ h => hFc q h) (fun E ce q9 u t H1 locs ht hvm hpx hB hz1 hk1 hS hce hcv hcl => ?_) (fun u t H1 locs ht hvm hw hB hz1 hk1 hS => ?_)
  · obtain ⟨rfl, hw⟩ := hB
    obtain ⟨hP, hD⟩ := cIn_rest (wc := [(h, .inr (16, [.ref l1, .ref l2, .ref l3, .ref l4, .ref l5, .ref l6, .ref l7, .ref l8, .ref l9, .ref ch, .ref co, .int 0, .int 4, .int (-40), .int 20, .int 0, .int 0, .int 100, .int 60, .int 14])), (l7, .inr (5, [.int 0, .ref e, .int 0]))]) (wr := [(o, .inl (cO, 1, .inr (.inl f0)))]) hP hD [0, 1] [2] rfl rfl (by decide) (by decide) hk1 hFc
    generalize H1 = H at hP hS hce ⊢
    have hP : va_P D vwCl [(o, .inl (cO, 1, .inr (.inl f0)))] H := hP
    have hD : va_D A [(o, .inl (cO, 1, .inr (.inl f0)))] := hD
    refine vx_catch (name := "java/lang/IndexOutOfBoundsException") (E := "java/lang/IndexOutOfBoundsException") hown [] ⟨0, 16, 19, 21⟩ [] (by rw [htab]; rfl) (fun z hz => by cases hz) (by decide) (by decide) (hts (.classLink RL 21 "java/lang/IndexOutOfBoundsException") (by decide +kernel)) (ev_u hE (w := .castable "java/lang/IndexOutOfBoundsException" "java/lang/IndexOutOfBoundsException") (by decide +kernel) rfl) hce hcv hcl ?_
    refine lv_astore_n (lv' := [(3, .ref q9), (0, .ref h), (1, .int p0), (2, .ref o)]) hx hb dL_on_19 rfl hl (by decide) rfl (fun ls hl => ?_)
    refine lv_iconst (v := 1) hx hb dL_on_20 (by decide) ?_
    refine vx_ret ?_
    exact W.iret (v := 1) hx hb hr (fun t ht hW => ⟨⟨1, f0, rfl, rfl, ⟨by rw [ht]; exact hP.sub [0] rfl, va_K.moved hW.alike (hK.sub [0] rfl), hD.sub [0] (by decide) rfl⟩⟩, hS.F ht⟩) hS.2.2 dL_on_21
  · exact hw.elim
-- L_stage
def v_L_stage (p0 : Int32) : Int32 := 1
set_option maxHeartbeats 4000000 in
set_option maxRecDepth 100000 in
theorem c_L_stage (l : Launch) (hst : l.stackTraces = false) (D : va_G) (e : Nat) (h : Nat) (l1 : Nat) (l2 : Nat) (l3 : Nat) (l4 : Nat) (l5 : Nat) (l6 : Nat) (l7 : Nat) (l8 : Nat) (l9 : Nat) (ch : Nat) (co : Nat) (o : Nat) (cO : ClassId) (f0 : Nat → Int64) (p0 : Int32) (sz : Nat) : vx_Met l yL_stage wsL_stage ({ frames := 18, cells := 1, slots := 6, locals := 400 }) (va_Pc [.ref h, .int p0, .ref o] (cIn D [(cO, .long)] [(h, .inr (16, [.ref l1, .ref l2, .ref l3, .ref l4, .ref l5, .ref l6, .ref l7, .ref l8, .ref l9, .ref ch, .ref co, .int 0, .int 4, .int (-40), .int 20, .int 0, .int 0, .int 100, .int 60, .int 14])), (l7, .inr (5, [.int 0, .ref e, .int 0])), (o, .inl (cO, 1, .inr (.inl f0)))] e sz)) (va_Qi (fun (r : Int32) (f : Nat → Int64) => r = v_L_stage p0) (fun (f : Nat → Int64) (t : State) => va_P D vwCl [(o, .inl (cO, 1, .inr (.inl f)))] t.heap ∧ va_K D vwCl [(cO, .long)] t ∧ va_D (va_A [(h, .inr (16, [.ref l1, .ref l2, .ref l3, .ref l4, .ref l5, .ref l6, .ref l7, .ref l8, .ref l9, .ref ch, .ref co, .int 0, .int 4, .int (-40), .int 20, .int 0, .int 0, .int 100, .int 60, .int 14])), (l7, .inr (5, [.int 0, .ref e, .int 0])), (o, .inl (cO, 1, .inr (.inl f0)))] sz) [(o, .inl (cO, 1, .inr (.inl f)))]) (va_A [(h, .inr (16, [.ref l1, .ref l2, .ref l3, .ref l4, .ref l5, .ref l6, .ref l7, .ref l8, .ref l9, .ref ch, .ref co, .int 0, .int 4, .int (-40), .int 20, .int 0, .int 0, .int 100, .int 60, .int 14])), (l7, .inr (5, [.int 0, .ref e, .int 0])), (o, .inl (cO, 1, .inr (.inl f0)))] sz)) (vx_X (fun _ : Unit => False) (fun (_ : String) (_ : Unit) (_ : State) => True) (va_A [(h, .inr (16, [.ref l1, .ref l2, .ref l3, .ref l4, .ref l5, .ref l6, .ref l7, .ref l8, .ref l9, .ref ch, .ref co, .int 0, .int 4, .int (-40), .int 20, .int 0, .int 0, .int 100, .int 60, .int 14])), (l7, .inr (5, [.int 0, .ref e, .int 0])), (o, .inl (cO, 1, .inr (.inl f0)))] sz)) 1 6 (va_A [(h, .inr (16, [.ref l1, .ref l2, .ref l3, .ref l4, .ref l5, .ref l6, .ref l7, .ref l8, .ref l9, .ref ch, .ref co, .int 0, .int 4, .int (-40), .int 20, .int 0, .int 0, .int 100, .int 60, .int 14])), (l7, .inr (5, [.int 0, .ref e, .int 0])), (o, .inl (cO, 1, .inr (.inl f0)))] sz) := by
  refine vx_ofWH (cc := cL_stage) (maxL := 4) (ret := (some .int)) (by decide +kernel) rfl ?_
  intro p e9 s m args below meth c s₁ B hml hv
  obtain ⟨rfl, hsz, hP, hK, hD0, hE0⟩ := hv
  have hx := B.exec
  have hb := B.bytes
  have hr := B.returns
  have hts := atoms_spec (ws := wsL_stage) B.pre
  have hown : s.vm.findClass RL = some m.cls := findClass_of_methodNamed B.named
  have hlocks := B.notSynchronized
  have htab := vx_table (x := yL_stage) B (hts (.codeWith yL_stage cL_stage 4 (some .int) [(0, 9, 12, 21)]) (show _ ∈ wsL_stage from List.mem_cons_self))
  subst hsz
  have hD := hD0.self (sz := s.heap.size)
  generalize hAe : va_A [(h, .inr (16, [.ref l1, .ref l2, .ref l3, .ref l4, .ref l5, .ref l6, .ref l7, .ref l8, .ref l9, .ref ch, .ref co, .int 0, .int 4, .int (-40), .int 20, .int 0, .int 0, .int 100, .int 60, .int 14])), (l7, .inr (5, [.int 0, .ref e, .int 0])), (o, .inl (cO, 1, .inr (.inl f0)))] s.heap.size = A at hD hE0 ⊢
  have hA : ∀ q : Nat, s.heap.size ≤ q → A q := fun q h => by rw [← hAe]; exact Or.inr h
  have hS : va_S A s.heap s.heap [] := va_S.rf
  have hE := hE0
  have hP : va_P D vwCl [(h, .inr (16, [.ref l1, .ref l2, .ref l3, .ref l4, .ref l5, .ref l6, .ref l7, .ref l8, .ref l9, .ref ch, .ref co, .int 0, .int 4, .int (-40), .int 20, .int 0, .int 0, .int 100, .int 60, .int 14])), (l7, .inr (5, [.int 0, .ref e, .int 0])), (o, .inl (cO, 1, .inr (.inl f0)))] s.heap := hP
  have hl := lv_entry ([.ref h, .int p0, .ref o]) (n := 4) (Nat.le_of_ble_eq_true rfl)
  rw [lg_entry_eq]
  generalize (lg_sl ([.ref h, .int p0, .ref o]) ++ List.replicate (4 - (lg_sl ([.ref h, .int p0, .ref o])).length) Slot.unset).toArray = ls at hl ⊢
  have hl : lv_has ls 4 [(0, .ref h), (1, .int p0), (2, .ref o)] := hl
  refine lv_aload_n hx hb dL_stage_0 rfl (lv_at hl 2 rfl) ?_
  refine lv_iconst (v := 0) hx hb dL_stage_1 (by decide) ?_
  refine lv_aload_n hx hb dL_stage_2 rfl (lv_at hl 0 rfl) ?_
  refine lv_iload_n hx hb dL_stage_3 rfl (lv_at hl 1 rfl) ?_
  have hFc := va_free (wc := [(h, .inr (16, [.ref l1, .ref l2, .ref l3, .ref l4, .ref l5, .ref l6, .ref l7, .ref l8, .ref l9, .ref ch, .ref co, .int 0, .int 4, .int (-40), .int 20, .int 0, .int 0, .int 100, .int 60, .int 14])), (l7, .inr (5, [.int 0, .ref e, .int 0]))]) hD hS hA [0, 1] rfl
  refine vx_callv (vx_runV (As := [.int p0]) (rest := [.int 0, .ref o]) ⟨hx, hb, hml, hown, hts⟩ (c_X10_stage l hst D e h l1 l2 l3 l4 l5 l6 l7 l8 l9 ch co p0 s.heap.size) (cwV 1 hts gL_stage_X10_stage rfl rfl rfl (by decide +kernel) ⟨Nat.le_of_ble_eq_true rfl, Nat.le_of_ble_eq_true rfl⟩) ⟨cIn_blind, va_recv hK hP (ci := 16) (q0 := 0) rfl rfl, cIn_go hK hP hD hE hS hA [0, 1] rfl rfl (by decide) [] rfl⟩ rfl rfl hl.1 rfl (lv_room (Nat.le_of_ble_eq_true rfl)) dL_stage_4 ⟨Nat.le_of_ble_eq_true rfl, Nat.le_of_ble_eq_true rfl⟩) hS (fun q _ h => hFc q h) hFc (fun q _ h => hFc q h) (fun E ce q9 u t H1 locs ht hvm hpx hB hz1 hk1 hS hce hcv hcl => ?_) (fun u t H1 locs ht hvm hw hB hz1 hk1 hS => ?_)
  · obtain ⟨rfl, hw⟩ := hB
    obtain ⟨hP, hD⟩ := cIn_rest (wc := [(h, .inr (16, [.ref l1, .ref l2, .ref l3, .ref l4, .ref l5, .ref l6, .ref l7, .ref l8, .ref l9, .ref ch, .ref co, .int 0, .int 4, .int (-40), .int 20, .int 0, .int 0, .int 100, .int 60, .int 14])), (l7, .inr (5, [.int 0, .ref e, .int 0]))]) (wr := [(o, .inl (cO, 1, .inr (.inl f0)))]) hP hD [0, 1] [2] rfl rfl (by decide) (by decide) hk1 hFc
    generalize H1 = H at hP hS hce ⊢
    have hP : va_P D vwCl [(o, .inl (cO, 1, .inr (.inl f0)))] H := hP
    have hD : va_D A [(o, .inl (cO, 1, .inr (.inl f0)))] := hD
    refine vx_catch (name := "java/lang/IndexOutOfBoundsException") (E := "java/lang/IndexOutOfBoundsException") hown [] ⟨0, 9, 12, 21⟩ [] (by rw [htab]; rfl) (fun z hz => by cases hz) (by decide) (by decide) (hts (.classLink RL 21 "java/lang/IndexOutOfBoundsException") (by decide +kernel)) (ev_u hE (w := .castable "java/lang/IndexOutOfBoundsException" "java/lang/IndexOutOfBoundsException") (by decide +kernel) rfl) hce hcv hcl ?_
    refine lv_astore_n (lv' := [(3, .ref q9), (0, .ref h), (1, .int p0), (2, .ref o)]) hx hb dL_stage_12 rfl hl (by decide) rfl (fun ls hl => ?_)
    refine lv_iconst (v := 1) hx hb dL_stage_13 (by decide) ?_
    refine vx_ret ?_
    exact W.iret (v := 1) hx hb hr (fun t ht hW => ⟨⟨1, f0, rfl, rfl, ⟨by rw [ht]; exact hP.sub [0] rfl, va_K.moved hW.alike (hK.sub [0] rfl), hD.sub [0] (by decide) rfl⟩⟩, hS.F ht⟩) hS.2.2 dL_stage_14
  · exact hw.elim
-- L_state
def v_L_state (p0 : Int32) : Int32 := 1
set_option maxHeartbeats 4000000 in
set_option maxRecDepth 100000 in
theorem c_L_state (l : Launch) (hst : l.stackTraces = false) (D : va_G) (e : Nat) (h : Nat) (l1 : Nat) (l2 : Nat) (l3 : Nat) (l4 : Nat) (l5 : Nat) (l6 : Nat) (l7 : Nat) (l8 : Nat) (l9 : Nat) (ch : Nat) (co : Nat) (o : Nat) (cO : ClassId) (f0 : Nat → Int64) (p0 : Int32) (sz : Nat) : vx_Met l yL_state wsL_state ({ frames := 18, cells := 1, slots := 6, locals := 400 }) (va_Pc [.ref h, .int p0, .ref o] (cIn D [(cO, .long)] [(h, .inr (16, [.ref l1, .ref l2, .ref l3, .ref l4, .ref l5, .ref l6, .ref l7, .ref l8, .ref l9, .ref ch, .ref co, .int 0, .int 4, .int (-40), .int 20, .int 0, .int 0, .int 100, .int 60, .int 14])), (l7, .inr (5, [.int 0, .ref e, .int 0])), (o, .inl (cO, 1, .inr (.inl f0)))] e sz)) (va_Qi (fun (r : Int32) (f : Nat → Int64) => r = v_L_state p0) (fun (f : Nat → Int64) (t : State) => va_P D vwCl [(o, .inl (cO, 1, .inr (.inl f)))] t.heap ∧ va_K D vwCl [(cO, .long)] t ∧ va_D (va_A [(h, .inr (16, [.ref l1, .ref l2, .ref l3, .ref l4, .ref l5, .ref l6, .ref l7, .ref l8, .ref l9, .ref ch, .ref co, .int 0, .int 4, .int (-40), .int 20, .int 0, .int 0, .int 100, .int 60, .int 14])), (l7, .inr (5, [.int 0, .ref e, .int 0])), (o, .inl (cO, 1, .inr (.inl f0)))] sz) [(o, .inl (cO, 1, .inr (.inl f)))]) (va_A [(h, .inr (16, [.ref l1, .ref l2, .ref l3, .ref l4, .ref l5, .ref l6, .ref l7, .ref l8, .ref l9, .ref ch, .ref co, .int 0, .int 4, .int (-40), .int 20, .int 0, .int 0, .int 100, .int 60, .int 14])), (l7, .inr (5, [.int 0, .ref e, .int 0])), (o, .inl (cO, 1, .inr (.inl f0)))] sz)) (vx_X (fun _ : Unit => False) (fun (_ : String) (_ : Unit) (_ : State) => True) (va_A [(h, .inr (16, [.ref l1, .ref l2, .ref l3, .ref l4, .ref l5, .ref l6, .ref l7, .ref l8, .ref l9, .ref ch, .ref co, .int 0, .int 4, .int (-40), .int 20, .int 0, .int 0, .int 100, .int 60, .int 14])), (l7, .inr (5, [.int 0, .ref e, .int 0])), (o, .inl (cO, 1, .inr (.inl f0)))] sz)) 1 6 (va_A [(h, .inr (16, [.ref l1, .ref l2, .ref l3, .ref l4, .ref l5, .ref l6, .ref l7, .ref l8, .ref l9, .ref ch, .ref co, .int 0, .int 4, .int (-40), .int 20, .int 0, .int 0, .int 100, .int 60, .int 14])), (l7, .inr (5, [.int 0, .ref e, .int 0])), (o, .inl (cO, 1, .inr (.inl f0)))] sz) := by
  refine vx_ofWH (cc := cL_state) (maxL := 4) (ret := (some .int)) (by decide +kernel) rfl ?_
  intro p e9 s m args below meth c s₁ B hml hv
  obtain ⟨rfl, hsz, hP, hK, hD0, hE0⟩ := hv
  have hx := B.exec
  have hb := B.bytes
  have hr := B.returns
  have hts := atoms_spec (ws := wsL_state) B.pre
  have hown : s.vm.findClass RL = some m.cls := findClass_of_methodNamed B.named
  have hlocks := B.notSynchronized
  have htab := vx_table (x := yL_state) B (hts (.codeWith yL_state cL_state 4 (some .int) [(0, 9, 12, 21)]) (show _ ∈ wsL_state from List.mem_cons_self))
  subst hsz
  have hD := hD0.self (sz := s.heap.size)
  generalize hAe : va_A [(h, .inr (16, [.ref l1, .ref l2, .ref l3, .ref l4, .ref l5, .ref l6, .ref l7, .ref l8, .ref l9, .ref ch, .ref co, .int 0, .int 4, .int (-40), .int 20, .int 0, .int 0, .int 100, .int 60, .int 14])), (l7, .inr (5, [.int 0, .ref e, .int 0])), (o, .inl (cO, 1, .inr (.inl f0)))] s.heap.size = A at hD hE0 ⊢
  have hA : ∀ q : Nat, s.heap.size ≤ q → A q := fun q h => by rw [← hAe]; exact Or.inr h
  have hS : va_S A s.heap s.heap [] := va_S.rf
  have hE := hE0
  have hP : va_P D vwCl [(h, .inr (16, [.ref l1, .ref l2, .ref l3, .ref l4, .ref l5, .ref l6, .ref l7, .ref l8, .ref l9, .ref ch, .ref co, .int 0, .int 4, .int (-40), .int 20, .int 0, .int 0, .int 100, .int 60, .int 14])), (l7, .inr (5, [.int 0, .ref e, .int 0])), (o, .inl (cO, 1, .inr (.inl f0)))] s.heap := hP
  have hl := lv_entry ([.ref h, .int p0, .ref o]) (n := 4) (Nat.le_of_ble_eq_true rfl)
  rw [lg_entry_eq]
  generalize (lg_sl ([.ref h, .int p0, .ref o]) ++ List.replicate (4 - (lg_sl ([.ref h, .int p0, .ref o])).length) Slot.unset).toArray = ls at hl ⊢
  have hl : lv_has ls 4 [(0, .ref h), (1, .int p0), (2, .ref o)] := hl
  refine lv_aload_n hx hb dL_state_0 rfl (lv_at hl 2 rfl) ?_
  refine lv_iconst (v := 0) hx hb dL_state_1 (by decide) ?_
  refine lv_aload_n hx hb dL_state_2 rfl (lv_at hl 0 rfl) ?_
  refine lv_iload_n hx hb dL_state_3 rfl (lv_at hl 1 rfl) ?_
  have hFc := va_free (wc := [(h, .inr (16, [.ref l1, .ref l2, .ref l3, .ref l4, .ref l5, .ref l6, .ref l7, .ref l8, .ref l9, .ref ch, .ref co, .int 0, .int 4, .int (-40), .int 20, .int 0, .int 0, .int 100, .int 60, .int 14])), (l7, .inr (5, [.int 0, .ref e, .int 0]))]) hD hS hA [0, 1] rfl
  refine vx_callv (vx_runV (As := [.int p0]) (rest := [.int 0, .ref o]) ⟨hx, hb, hml, hown, hts⟩ (c_X10_state l hst D e h l1 l2 l3 l4 l5 l6 l7 l8 l9 ch co p0 s.heap.size) (cwV 1 hts gL_state_X10_state rfl rfl rfl (by decide +kernel) ⟨Nat.le_of_ble_eq_true rfl, Nat.le_of_ble_eq_true rfl⟩) ⟨cIn_blind, va_recv hK hP (ci := 16) (q0 := 0) rfl rfl, cIn_go hK hP hD hE hS hA [0, 1] rfl rfl (by decide) [] rfl⟩ rfl rfl hl.1 rfl (lv_room (Nat.le_of_ble_eq_true rfl)) dL_state_4 ⟨Nat.le_of_ble_eq_true rfl, Nat.le_of_ble_eq_true rfl⟩) hS (fun q _ h => hFc q h) hFc (fun q _ h => hFc q h) (fun E ce q9 u t H1 locs ht hvm hpx hB hz1 hk1 hS hce hcv hcl => ?_) (fun u t H1 locs ht hvm hw hB hz1 hk1 hS => ?_)
  · obtain ⟨rfl, hw⟩ := hB
    obtain ⟨hP, hD⟩ := cIn_rest (wc := [(h, .inr (16, [.ref l1, .ref l2, .ref l3, .ref l4, .ref l5, .ref l6, .ref l7, .ref l8, .ref l9, .ref ch, .ref co, .int 0, .int 4, .int (-40), .int 20, .int 0, .int 0, .int 100, .int 60, .int 14])), (l7, .inr (5, [.int 0, .ref e, .int 0]))]) (wr := [(o, .inl (cO, 1, .inr (.inl f0)))]) hP hD [0, 1] [2] rfl rfl (by decide) (by decide) hk1 hFc
    generalize H1 = H at hP hS hce ⊢
    have hP : va_P D vwCl [(o, .inl (cO, 1, .inr (.inl f0)))] H := hP
    have hD : va_D A [(o, .inl (cO, 1, .inr (.inl f0)))] := hD
    refine vx_catch (name := "java/lang/IndexOutOfBoundsException") (E := "java/lang/IndexOutOfBoundsException") hown [] ⟨0, 9, 12, 21⟩ [] (by rw [htab]; rfl) (fun z hz => by cases hz) (by decide) (by decide) (hts (.classLink RL 21 "java/lang/IndexOutOfBoundsException") (by decide +kernel)) (ev_u hE (w := .castable "java/lang/IndexOutOfBoundsException" "java/lang/IndexOutOfBoundsException") (by decide +kernel) rfl) hce hcv hcl ?_
    refine lv_astore_n (lv' := [(3, .ref q9), (0, .ref h), (1, .int p0), (2, .ref o)]) hx hb dL_state_12 rfl hl (by decide) rfl (fun ls hl => ?_)
    refine lv_iconst (v := 1) hx hb dL_state_13 (by decide) ?_
    refine vx_ret ?_
    exact W.iret (v := 1) hx hb hr (fun t ht hW => ⟨⟨1, f0, rfl, rfl, ⟨by rw [ht]; exact hP.sub [0] rfl, va_K.moved hW.alike (hK.sub [0] rfl), hD.sub [0] (by decide) rfl⟩⟩, hS.F ht⟩) hS.2.2 dL_state_14
  · exact hw.elim
-- L_recount
def v_L_recount (p0 : Int32) : Int32 := 1
set_option maxHeartbeats 4000000 in
set_option maxRecDepth 100000 in
theorem c_L_recount (l : Launch) (hst : l.stackTraces = false) (D : va_G) (e : Nat) (h : Nat) (l1 : Nat) (l2 : Nat) (l3 : Nat) (l4 : Nat) (l5 : Nat) (l6 : Nat) (l7 : Nat) (l8 : Nat) (l9 : Nat) (ch : Nat) (co : Nat) (o : Nat) (cO : ClassId) (f0 : Nat → Int64) (p0 : Int32) (sz : Nat) : vx_Met l yL_recount wsL_recount ({ frames := 18, cells := 1, slots := 6, locals := 400 }) (va_Pc [.ref h, .int p0, .ref o] (cIn D [(cO, .long)] [(h, .inr (16, [.ref l1, .ref l2, .ref l3, .ref l4, .ref l5, .ref l6, .ref l7, .ref l8, .ref l9, .ref ch, .ref co, .int 0, .int 4, .int (-40), .int 20, .int 0, .int 0, .int 100, .int 60, .int 14])), (l7, .inr (5, [.int 0, .ref e, .int 0])), (o, .inl (cO, 1, .inr (.inl f0)))] e sz)) (va_Qi (fun (r : Int32) (f : Nat → Int64) => r = v_L_recount p0) (fun (f : Nat → Int64) (t : State) => va_P D vwCl [(o, .inl (cO, 1, .inr (.inl f)))] t.heap ∧ va_K D vwCl [(cO, .long)] t ∧ va_D (va_A [(h, .inr (16, [.ref l1, .ref l2, .ref l3, .ref l4, .ref l5, .ref l6, .ref l7, .ref l8, .ref l9, .ref ch, .ref co, .int 0, .int 4, .int (-40), .int 20, .int 0, .int 0, .int 100, .int 60, .int 14])), (l7, .inr (5, [.int 0, .ref e, .int 0])), (o, .inl (cO, 1, .inr (.inl f0)))] sz) [(o, .inl (cO, 1, .inr (.inl f)))]) (va_A [(h, .inr (16, [.ref l1, .ref l2, .ref l3, .ref l4, .ref l5, .ref l6, .ref l7, .ref l8, .ref l9, .ref ch, .ref co, .int 0, .int 4, .int (-40), .int 20, .int 0, .int 0, .int 100, .int 60, .int 14])), (l7, .inr (5, [.int 0, .ref e, .int 0])), (o, .inl (cO, 1, .inr (.inl f0)))] sz)) (vx_X (fun _ : Unit => False) (fun (_ : String) (_ : Unit) (_ : State) => True) (va_A [(h, .inr (16, [.ref l1, .ref l2, .ref l3, .ref l4, .ref l5, .ref l6, .ref l7, .ref l8, .ref l9, .ref ch, .ref co, .int 0, .int 4, .int (-40), .int 20, .int 0, .int 0, .int 100, .int 60, .int 14])), (l7, .inr (5, [.int 0, .ref e, .int 0])), (o, .inl (cO, 1, .inr (.inl f0)))] sz)) 1 6 (va_A [(h, .inr (16, [.ref l1, .ref l2, .ref l3, .ref l4, .ref l5, .ref l6, .ref l7, .ref l8, .ref l9, .ref ch, .ref co, .int 0, .int 4, .int (-40), .int 20, .int 0, .int 0, .int 100, .int 60, .int 14])), (l7, .inr (5, [.int 0, .ref e, .int 0])), (o, .inl (cO, 1, .inr (.inl f0)))] sz) := by
  refine vx_ofWH (cc := cL_recount) (maxL := 4) (ret := (some .int)) (by decide +kernel) rfl ?_
  intro p e9 s m args below meth c s₁ B hml hv
  obtain ⟨rfl, hsz, hP, hK, hD0, hE0⟩ := hv
  have hx := B.exec
  have hb := B.bytes
  have hr := B.returns
  have hts := atoms_spec (ws := wsL_recount) B.pre
  have hown : s.vm.findClass RL = some m.cls := findClass_of_methodNamed B.named
  have hlocks := B.notSynchronized
  have htab := vx_table (x := yL_recount) B (hts (.codeWith yL_recount cL_recount 4 (some .int) [(0, 9, 12, 21)]) (show _ ∈ wsL_recount from List.mem_cons_self))
  subst hsz
  have hD := hD0.self (sz := s.heap.size)
  generalize hAe : va_A [(h, .inr (16, [.ref l1, .ref l2, .ref l3, .ref l4, .ref l5, .ref l6, .ref l7, .ref l8, .ref l9, .ref ch, .ref co, .int 0, .int 4, .int (-40), .int 20, .int 0, .int 0, .int 100, .int 60, .int 14])), (l7, .inr (5, [.int 0, .ref e, .int 0])), (o, .inl (cO, 1, .inr (.inl f0)))] s.heap.size = A at hD hE0 ⊢
  have hA : ∀ q : Nat, s.heap.size ≤ q → A q := fun q h => by rw [← hAe]; exact Or.inr h
  have hS : va_S A s.heap s.heap [] := va_S.rf
  have hE := hE0
  have hP : va_P D vwCl [(h, .inr (16, [.ref l1, .ref l2, .ref l3, .ref l4, .ref l5, .ref l6, .ref l7, .ref l8, .ref l9, .ref ch, .ref co, .int 0, .int 4, .int (-40), .int 20, .int 0, .int 0, .int 100, .int 60, .int 14])), (l7, .inr (5, [.int 0, .ref e, .int 0])), (o, .inl (cO, 1, .inr (.inl f0)))] s.heap := hP
  have hl := lv_entry ([.ref h, .int p0, .ref o]) (n := 4) (Nat.le_of_ble_eq_true rfl)
  rw [lg_entry_eq]
  generalize (lg_sl ([.ref h, .int p0, .ref o]) ++ List.replicate (4 - (lg_sl ([.ref h, .int p0, .ref o])).length) Slot.unset).toArray = ls at hl ⊢
  have hl : lv_has ls 4 [(0, .ref h), (1, .int p0), (2, .ref o)] := hl
  refine lv_aload_n hx hb dL_recount_0 rfl (lv_at hl 2 rfl) ?_
  refine lv_iconst (v := 0) hx hb dL_recount_1 (by decide) ?_
  refine lv_aload_n hx hb dL_recount_2 rfl (lv_at hl 0 rfl) ?_
  refine lv_iload_n hx hb dL_recount_3 rfl (lv_at hl 1 rfl) ?_
  have hFc := va_free (wc := [(h, .inr (16, [.ref l1, .ref l2, .ref l3, .ref l4, .ref l5, .ref l6, .ref l7, .ref l8, .ref l9, .ref ch, .ref co, .int 0, .int 4, .int (-40), .int 20, .int 0, .int 0, .int 100, .int 60, .int 14])), (l7, .inr (5, [.int 0, .ref e, .int 0]))]) hD hS hA [0, 1] rfl
  refine vx_callv (vx_runV (As := [.int p0]) (rest := [.int 0, .ref o]) ⟨hx, hb, hml, hown, hts⟩ (c_X10_recount l hst D e h l1 l2 l3 l4 l5 l6 l7 l8 l9 ch co p0 s.heap.size) (cwV 1 hts gL_recount_X10_recount rfl rfl rfl (by decide +kernel) ⟨Nat.le_of_ble_eq_true rfl, Nat.le_of_ble_eq_true rfl⟩) ⟨cIn_blind, va_recv hK hP (ci := 16) (q0 := 0) rfl rfl, cIn_go hK hP hD hE hS hA [0, 1] rfl rfl (by decide) [] rfl⟩ rfl rfl hl.1 rfl (lv_room (Nat.le_of_ble_eq_true rfl)) dL_recount_4 ⟨Nat.le_of_ble_eq_true rfl, Nat.le_of_ble_eq_true rfl⟩) hS (fun q _ h => hFc q h) hFc (fun q _ h => hFc q h) (fun E ce q9 u t H1 locs ht hvm hpx hB hz1 hk1 hS hce hcv hcl => ?_) (fun u t H1 locs ht hvm hw hB hz1 hk1 hS => ?_)
  · obtain ⟨rfl, hw⟩ := hB
    obtain ⟨hP, hD⟩ := cIn_rest (wc := [(h, .inr (16, [.ref l1, .ref l2, .ref l3, .ref l4, .ref l5, .ref l6, .ref l7, .ref l8, .ref l9, .ref ch, .ref co, .int 0, .int 4, .int (-40), .int 20, .int 0, .int 0, .int 100, .int 60, .int 14])), (l7, .inr (5, [.int 0, .ref e, .int 0]))]) (wr := [(o, .inl (cO, 1, .inr (.inl f0)))]) hP hD [0, 1] [2] rfl rfl (by decide) (by decide) hk1 hFc
    generalize H1 = H at hP hS hce ⊢
    have hP : va_P D vwCl [(o, .inl (cO, 1, .inr (.inl f0)))] H := hP
    have hD : va_D A [(o, .inl (cO, 1, .inr (.inl f0)))] := hD
    refine vx_catch (name := "java/lang/IndexOutOfBoundsException") (E := "java/lang/IndexOutOfBoundsException") hown [] ⟨0, 9, 12, 21⟩ [] (by rw [htab]; rfl) (fun z hz => by cases hz) (by decide) (by decide) (hts (.classLink RL 21 "java/lang/IndexOutOfBoundsException") (by decide +kernel)) (ev_u hE (w := .castable "java/lang/IndexOutOfBoundsException" "java/lang/IndexOutOfBoundsException") (by decide +kernel) rfl) hce hcv hcl ?_
    refine lv_astore_n (lv' := [(3, .ref q9), (0, .ref h), (1, .int p0), (2, .ref o)]) hx hb dL_recount_12 rfl hl (by decide) rfl (fun ls hl => ?_)
    refine lv_iconst (v := 1) hx hb dL_recount_13 (by decide) ?_
    refine vx_ret ?_
    exact W.iret (v := 1) hx hb hr (fun t ht hW => ⟨⟨1, f0, rfl, rfl, ⟨by rw [ht]; exact hP.sub [0] rfl, va_K.moved hW.alike (hK.sub [0] rfl), hD.sub [0] (by decide) rfl⟩⟩, hS.F ht⟩) hS.2.2 dL_recount_14
  · exact hw.elim
-- L_balance
def v_L_balance (p0 : Int32) : Int32 := 1
set_option maxHeartbeats 4000000 in
set_option maxRecDepth 100000 in
theorem c_L_balance (l : Launch) (hst : l.stackTraces = false) (D : va_G) (e : Nat) (h : Nat) (l1 : Nat) (l2 : Nat) (l3 : Nat) (l4 : Nat) (l5 : Nat) (l6 : Nat) (l7 : Nat) (l8 : Nat) (l9 : Nat) (ch : Nat) (co : Nat) (o : Nat) (cO : ClassId) (f0 : Nat → Int64) (p0 : Int32) (sz : Nat) : vx_Met l yL_balance wsL_balance ({ frames := 18, cells := 1, slots := 6, locals := 400 }) (va_Pc [.ref h, .int p0, .ref o] (cIn D [(cO, .long)] [(h, .inr (16, [.ref l1, .ref l2, .ref l3, .ref l4, .ref l5, .ref l6, .ref l7, .ref l8, .ref l9, .ref ch, .ref co, .int 0, .int 4, .int (-40), .int 20, .int 0, .int 0, .int 100, .int 60, .int 14])), (l7, .inr (5, [.int 0, .ref e, .int 0])), (o, .inl (cO, 1, .inr (.inl f0)))] e sz)) (va_Qi (fun (r : Int32) (f : Nat → Int64) => r = v_L_balance p0) (fun (f : Nat → Int64) (t : State) => va_P D vwCl [(o, .inl (cO, 1, .inr (.inl f)))] t.heap ∧ va_K D vwCl [(cO, .long)] t ∧ va_D (va_A [(h, .inr (16, [.ref l1, .ref l2, .ref l3, .ref l4, .ref l5, .ref l6, .ref l7, .ref l8, .ref l9, .ref ch, .ref co, .int 0, .int 4, .int (-40), .int 20, .int 0, .int 0, .int 100, .int 60, .int 14])), (l7, .inr (5, [.int 0, .ref e, .int 0])), (o, .inl (cO, 1, .inr (.inl f0)))] sz) [(o, .inl (cO, 1, .inr (.inl f)))]) (va_A [(h, .inr (16, [.ref l1, .ref l2, .ref l3, .ref l4, .ref l5, .ref l6, .ref l7, .ref l8, .ref l9, .ref ch, .ref co, .int 0, .int 4, .int (-40), .int 20, .int 0, .int 0, .int 100, .int 60, .int 14])), (l7, .inr (5, [.int 0, .ref e, .int 0])), (o, .inl (cO, 1, .inr (.inl f0)))] sz)) (vx_X (fun _ : Unit => False) (fun (_ : String) (_ : Unit) (_ : State) => True) (va_A [(h, .inr (16, [.ref l1, .ref l2, .ref l3, .ref l4, .ref l5, .ref l6, .ref l7, .ref l8, .ref l9, .ref ch, .ref co, .int 0, .int 4, .int (-40), .int 20, .int 0, .int 0, .int 100, .int 60, .int 14])), (l7, .inr (5, [.int 0, .ref e, .int 0])), (o, .inl (cO, 1, .inr (.inl f0)))] sz)) 1 6 (va_A [(h, .inr (16, [.ref l1, .ref l2, .ref l3, .ref l4, .ref l5, .ref l6, .ref l7, .ref l8, .ref l9, .ref ch, .ref co, .int 0, .int 4, .int (-40), .int 20, .int 0, .int 0, .int 100, .int 60, .int 14])), (l7, .inr (5, [.int 0, .ref e, .int 0])), (o, .inl (cO, 1, .inr (.inl f0)))] sz) := by
  refine vx_ofWH (cc := cL_balance) (maxL := 4) (ret := (some .int)) (by decide +kernel) rfl ?_
  intro p e9 s m args below meth c s₁ B hml hv
  obtain ⟨rfl, hsz, hP, hK, hD0, hE0⟩ := hv
  have hx := B.exec
  have hb := B.bytes
  have hr := B.returns
  have hts := atoms_spec (ws := wsL_balance) B.pre
  have hown : s.vm.findClass RL = some m.cls := findClass_of_methodNamed B.named
  have hlocks := B.notSynchronized
  have htab := vx_table (x := yL_balance) B (hts (.codeWith yL_balance cL_balance 4 (some .int) [(0, 9, 12, 21)]) (show _ ∈ wsL_balance from List.mem_cons_self))
  subst hsz
  have hD := hD0.self (sz := s.heap.size)
  generalize hAe : va_A [(h, .inr (16, [.ref l1, .ref l2, .ref l3, .ref l4, .ref l5, .ref l6, .ref l7, .ref l8, .ref l9, .ref ch, .ref co, .int 0, .int 4, .int (-40), .int 20, .int 0, .int 0, .int 100, .int 60, .int 14])), (l7, .inr (5, [.int 0, .ref e, .int 0])), (o, .inl (cO, 1, .inr (.inl f0)))] s.heap.size = A at hD hE0 ⊢
  have hA : ∀ q : Nat, s.heap.size ≤ q → A q := fun q h => by rw [← hAe]; exact Or.inr h
  have hS : va_S A s.heap s.heap [] := va_S.rf
  have hE := hE0
  have hP : va_P D vwCl [(h, .inr (16, [.ref l1, .ref l2, .ref l3, .ref l4, .ref l5, .ref l6, .ref l7, .ref l8, .ref l9, .ref ch, .ref co, .int 0, .int 4, .int (-40), .int 20, .int 0, .int 0, .int 100, .int 60, .int 14])), (l7, .inr (5, [.int 0, .ref e, .int 0])), (o, .inl (cO, 1, .inr (.inl f0)))] s.heap := hP
  have hl := lv_entry ([.ref h, .int p0, .ref o]) (n := 4) (Nat.le_of_ble_eq_true rfl)
  rw [lg_entry_eq]
  generalize (lg_sl ([.ref h, .int p0, .ref o]) ++ List.replicate (4 - (lg_sl ([.ref h, .int p0, .ref o])).length) Slot.unset).toArray = ls at hl ⊢
  have hl : lv_has ls 4 [(0, .ref h), (1, .int p0), (2, .ref o)] := hl
  refine lv_aload_n hx hb dL_balance_0 rfl (lv_at hl 2 rfl) ?_
  refine lv_iconst (v := 0) hx hb dL_balance_1 (by decide) ?_
  refine lv_aload_n hx hb dL_balance_2 rfl (lv_at hl 0 rfl) ?_
  refine lv_iload_n hx hb dL_balance_3 rfl (lv_at hl 1 rfl) ?_
  have hFc := va_free (wc := [(h, .inr (16, [.ref l1, .ref l2, .ref l3, .ref l4, .ref l5, .ref l6, .ref l7, .ref l8, .ref l9, .ref ch, .ref co, .int 0, .int 4, .int (-40), .int 20, .int 0, .int 0, .int 100, .int 60, .int 14])), (l7, .inr (5, [.int 0, .ref e, .int 0]))]) hD hS hA [0, 1] rfl
  refine vx_callv (vx_runV (As := [.int p0]) (rest := [.int 0, .ref o]) ⟨hx, hb, hml, hown, hts⟩ (c_X10_balance l hst D e h l1 l2 l3 l4 l5 l6 l7 l8 l9 ch co p0 s.heap.size) (cwV 1 hts gL_balance_X10_balance rfl rfl rfl (by decide +kernel) ⟨Nat.le_of_ble_eq_true rfl, Nat.le_of_ble_eq_true rfl⟩) ⟨cIn_blind, va_recv hK hP (ci := 16) (q0 := 0) rfl rfl, cIn_go hK hP hD hE hS hA [0, 1] rfl rfl (by decide) [] rfl⟩ rfl rfl hl.1 rfl (lv_room (Nat.le_of_ble_eq_true rfl)) dL_balance_4 ⟨Nat.le_of_ble_eq_true rfl, Nat.le_of_ble_eq_true rfl⟩) hS (fun q _ h => hFc q h) hFc (fun q _ h => hFc q h) (fun E ce q9 u t H1 locs ht hvm hpx hB hz1 hk1 hS hce hcv hcl => ?_) (fun u t H1 locs ht hvm hw hB hz1 hk1 hS => ?_)
  · obtain ⟨rfl, hw⟩ := hB
    obtain ⟨hP, hD⟩ := cIn_rest (wc := [(h, .inr (16, [.ref l1, .ref l2, .ref l3, .ref l4, .ref l5, .ref l6, .ref l7, .ref l8, .ref l9, .ref ch, .ref co, .int 0, .int 4, .int (-40), .int 20, .int 0, .int 0, .int 100, .int 60, .int 14])), (l7, .inr (5, [.int 0, .ref e, .int 0]))]) (wr := [(o, .inl (cO, 1, .inr (.inl f0)))]) hP hD [0, 1] [2] rfl rfl (by decide) (by decide) hk1 hFc
    generalize H1 = H at hP hS hce ⊢
    have hP : va_P D vwCl [(o, .inl (cO, 1, .inr (.inl f0)))] H := hP
    have hD : va_D A [(o, .inl (cO, 1, .inr (.inl f0)))] := hD
    refine vx_catch (name := "java/lang/IndexOutOfBoundsException") (E := "java/lang/IndexOutOfBoundsException") hown [] ⟨0, 9, 12, 21⟩ [] (by rw [htab]; rfl) (fun z hz => by cases hz) (by decide) (by decide) (hts (.classLink RL 21 "java/lang/IndexOutOfBoundsException") (by decide +kernel)) (ev_u hE (w := .castable "java/lang/IndexOutOfBoundsException" "java/lang/IndexOutOfBoundsException") (by decide +kernel) rfl) hce hcv hcl ?_
    refine lv_astore_n (lv' := [(3, .ref q9), (0, .ref h), (1, .int p0), (2, .ref o)]) hx hb dL_balance_12 rfl hl (by decide) rfl (fun ls hl => ?_)
    refine lv_iconst (v := 1) hx hb dL_balance_13 (by decide) ?_
    refine vx_ret ?_
    exact W.iret (v := 1) hx hb hr (fun t ht hW => ⟨⟨1, f0, rfl, rfl, ⟨by rw [ht]; exact hP.sub [0] rfl, va_K.moved hW.alike (hK.sub [0] rfl), hD.sub [0] (by decide) rfl⟩⟩, hS.F ht⟩) hS.2.2 dL_balance_14
  · exact hw.elim
-- L_doubt
def v_L_doubt (p0 : Int32) (p1 : Int32) (p2 : Int32) : Int32 := 1
set_option maxHeartbeats 4000000 in
set_option maxRecDepth 100000 in
theorem c_L_doubt (l : Launch) (hst : l.stackTraces = false) (D : va_G) (e : Nat) (h : Nat) (l1 : Nat) (l2 : Nat) (l3 : Nat) (l4 : Nat) (l5 : Nat) (l6 : Nat) (l7 : Nat) (l8 : Nat) (l9 : Nat) (ch : Nat) (co : Nat) (o : Nat) (cO : ClassId) (f0 : Nat → Int64) (p0 : Int32) (p1 : Int32) (p2 : Int32) (sz : Nat) : vx_Met l yL_doubt wsL_doubt ({ frames := 18, cells := 1, slots := 6, locals := 400 }) (va_Pc [.ref h, .int p0, .int p1, .int p2, .ref o] (cIn D [(cO, .long)] [(h, .inr (16, [.ref l1, .ref l2, .ref l3, .ref l4, .ref l5, .ref l6, .ref l7, .ref l8, .ref l9, .ref ch, .ref co, .int 0, .int 4, .int (-40), .int 20, .int 0, .int 0, .int 100, .int 60, .int 14])), (l2, .inr (5, [.int 0, .ref e, .int 0])), (o, .inl (cO, 1, .inr (.inl f0)))] e sz)) (va_Qi (fun (r : Int32) (f : Nat → Int64) => r = v_L_doubt p0 p1 p2) (fun (f : Nat → Int64) (t : State) => va_P D vwCl [(o, .inl (cO, 1, .inr (.inl f)))] t.heap ∧ va_K D vwCl [(cO, .long)] t ∧ va_D (va_A [(h, .inr (16, [.ref l1, .ref l2, .ref l3, .ref l4, .ref l5, .ref l6, .ref l7, .ref l8, .ref l9, .ref ch, .ref co, .int 0, .int 4, .int (-40), .int 20, .int 0, .int 0, .int 100, .int 60, .int 14])), (l2, .inr (5, [.int 0, .ref e, .int 0])), (o, .inl (cO, 1, .inr (.inl f0)))] sz) [(o, .inl (cO, 1, .inr (.inl f)))]) (va_A [(h, .inr (16, [.ref l1, .ref l2, .ref l3, .ref l4, .ref l5, .ref l6, .ref l7, .ref l8, .ref l9, .ref ch, .ref co, .int 0, .int 4, .int (-40), .int 20, .int 0, .int 0, .int 100, .int 60, .int 14])), (l2, .inr (5, [.int 0, .ref e, .int 0])), (o, .inl (cO, 1, .inr (.inl f0)))] sz)) (vx_X (fun _ : Unit => False) (fun (_ : String) (_ : Unit) (_ : State) => True) (va_A [(h, .inr (16, [.ref l1, .ref l2, .ref l3, .ref l4, .ref l5, .ref l6, .ref l7, .ref l8, .ref l9, .ref ch, .ref co, .int 0, .int 4, .int (-40), .int 20, .int 0, .int 0, .int 100, .int 60, .int 14])), (l2, .inr (5, [.int 0, .ref e, .int 0])), (o, .inl (cO, 1, .inr (.inl f0)))] sz)) 1 6 (va_A [(h, .inr (16, [.ref l1, .ref l2, .ref l3, .ref l4, .ref l5, .ref l6, .ref l7, .ref l8, .ref l9, .ref ch, .ref co, .int 0, .int 4, .int (-40), .int 20, .int 0, .int 0, .int 100, .int 60, .int 14])), (l2, .inr (5, [.int 0, .ref e, .int 0])), (o, .inl (cO, 1, .inr (.inl f0)))] sz) := by
  refine vx_ofWH (cc := cL_doubt) (maxL := 6) (ret := (some .int)) (by decide +kernel) rfl ?_
  intro p e9 s m args below meth c s₁ B hml hv
  obtain ⟨rfl, hsz, hP, hK, hD0, hE0⟩ := hv
  have hx := B.exec
  have hb := B.bytes
  have hr := B.returns
  have hts := atoms_spec (ws := wsL_doubt) B.pre
  have hown : s.vm.findClass RL = some m.cls := findClass_of_methodNamed B.named
  have hlocks := B.notSynchronized
  have htab := vx_table (x := yL_doubt) B (hts (.codeWith yL_doubt cL_doubt 6 (some .int) [(0, 12, 15, 21), (0, 12, 19, 13), (0, 12, 23, 15)]) (show _ ∈ wsL_doubt from List.mem_cons_self))
  subst hsz
  have hD := hD0.self (sz := s.heap.size)
  generalize hAe : va_A [(h, .inr (16, [.ref l1, .ref l2, .ref l3, .ref l4, .ref l5, .ref l6, .ref l7, .ref l8, .ref l9, .ref ch, .ref co, .int 0, .int 4, .int (-40), .int 20, .int 0, .int 0, .int 100, .int 60, .int 14])), (l2, .inr (5, [.int 0, .ref e, .int 0])), (o, .inl (cO, 1, .inr (.inl f0)))] s.heap.size = A at hD hE0 ⊢
  have hA : ∀ q : Nat, s.heap.size ≤ q → A q := fun q h => by rw [← hAe]; exact Or.inr h
  have hS : va_S A s.heap s.heap [] := va_S.rf
  have hE := hE0
  have hP : va_P D vwCl [(h, .inr (16, [.ref l1, .ref l2, .ref l3, .ref l4, .ref l5, .ref l6, .ref l7, .ref l8, .ref l9, .ref ch, .ref co, .int 0, .int 4, .int (-40), .int 20, .int 0, .int 0, .int 100, .int 60, .int 14])), (l2, .inr (5, [.int 0, .ref e, .int 0])), (o, .inl (cO, 1, .inr (.inl f0)))] s.heap := hP
  have hl := lv_entry ([.ref h, .int p0, .int p1, .int p2, .ref o]) (n := 6) (Nat.le_of_ble_eq_true rfl)
  rw [lg_entry_eq]
  generalize (lg_sl ([.ref h, .int p0, .int p1, .int p2, .ref o]) ++ List.replicate (6 - (lg_sl ([.ref h, .int p0, .int p1, .int p2, .ref o])).length) Slot.unset).toArray = ls at hl ⊢
  have hl : lv_has ls 6 [(0, .ref h), (1, .int p0), (2, .int p1), (3, .int p2), (4, .ref o)] := hl
  refine lv_aload hx hb dL_doubt_0 (lv_at hl 4 rfl) ?_
  refine lv_iconst (v := 0) hx hb dL_doubt_2 (by decide) ?_
  refine lv_aload_n hx hb dL_doubt_3 rfl (lv_at hl 0 rfl) ?_
  refine lv_iload_n hx hb dL_doubt_4 rfl (lv_at hl 1 rfl) ?_
  refine lv_iload_n hx hb dL_doubt_5 rfl (lv_at hl 2 rfl) ?_
  refine lv_iload_n hx hb dL_doubt_6 rfl (lv_at hl 3 rfl) ?_
  have hFc := va_free (wc := [(h, .inr (16, [.ref l1, .ref l2, .ref l3, .ref l4, .ref l5, .ref l6, .ref l7, .ref l8, .ref l9, .ref ch, .ref co, .int 0, .int 4, .int (-40), .int 20, .int 0, .int 0, .int 100, .int 60, .int 14])), (l2, .inr (5, [.int 0, .ref e, .int 0]))]) hD hS hA [0, 1] rfl
  refine vx_callv (vx_runV (As := [.int p0, .int p1, .int p2]) (rest := [.int 0, .ref o]) ⟨hx, hb, hml, hown, hts⟩ (c_X10_doubt l hst D e h l1 l2 l3 l4 l5 l6 l7 l8 l9 ch co p0 p1 p2 s.heap.size) (cwV 3 hts gL_doubt_X10_doubt rfl rfl rfl (by decide +kernel) ⟨Nat.le_of_ble_eq_true rfl, Nat.le_of_ble_eq_true rfl⟩) ⟨cIn_blind, va_recv hK hP (ci := 16) (q0 := 0) rfl rfl, cIn_go hK hP hD hE hS hA [0, 1] rfl rfl (by decide) [] rfl⟩ rfl rfl hl.1 rfl (lv_room (Nat.le_of_ble_eq_true rfl)) dL_doubt_7 ⟨Nat.le_of_ble_eq_true rfl, Nat.le_of_ble_eq_true rfl⟩) hS (fun q _ h => hFc q h) hFc (fun q _ h => hFc q h) (fun E ce q9 u t H1 locs ht hvm hpx hB hz1 hk1 hS hce hcv hcl => ?_) (fun u t H1 locs ht hvm hw hB hz1 hk1 hS => ?_)
  · obtain ⟨rfl, hw⟩ := hB
    obtain ⟨hP, hD⟩ := cIn_rest (wc := [(h, .inr (16, [.ref l1, .ref l2, .ref l3, .ref l4, .ref l5, .ref l6, .ref l7, .ref l8, .ref l9, .ref ch, .ref co, .int 0, .int 4, .int (-40), .int 20, .int 0, .int 0, .int 100, .int 60, .int 14])), (l2, .inr (5, [.int 0, .ref e, .int 0]))]) (wr := [(o, .inl (cO, 1, .inr (.inl f0)))]) hP hD [0, 1] [2] rfl rfl (by decide) (by decide) hk1 hFc
    generalize H1 = H at hP hS hce ⊢
    have hP : va_P D vwCl [(o, .inl (cO, 1, .inr (.inl f0)))] H := hP
    have hD : va_D A [(o, .inl (cO, 1, .inr (.inl f0)))] := hD
    refine vx_catch (name := "java/lang/IndexOutOfBoundsException") (E := "java/lang/IndexOutOfBoundsException") hown [] ⟨0, 12, 15, 21⟩ [⟨0, 12, 19, 13⟩, ⟨0, 12, 23, 15⟩] (by rw [htab]; rfl) (fun z hz => by cases hz) (by decide) (by decide) (hts (.classLink RL 21 "java/lang/IndexOutOfBoundsException") (by decide +kernel)) (ev_u hE (w := .castable "java/lang/IndexOutOfBoundsException" "java/lang/IndexOutOfBoundsException") (by decide +kernel) rfl) hce hcv hcl ?_
    refine lv_astore (lv' := [(5, .ref q9), (0, .ref h), (1, .int p0), (2, .int p1), (3, .int p2), (4, .ref o)]) hx hb dL_doubt_15 hl (by decide) rfl (fun ls hl => ?_)
    refine lv_iconst (v := 1) hx hb dL_doubt_17 (by decide) ?_
    refine vx_ret ?_
    exact W.iret (v := 1) hx hb hr (fun t ht hW => ⟨⟨1, f0, rfl, rfl, ⟨by rw [ht]; exact hP.sub [0] rfl, va_K.moved hW.alike (hK.sub [0] rfl), hD.sub [0] (by decide) rfl⟩⟩, hS.F ht⟩) hS.2.2 dL_doubt_18
  · exact hw.elim
-- L_clear
def v_L_clear (p0 : Int32) : Int32 := 1
set_option maxHeartbeats 4000000 in
set_option maxRecDepth 100000 in
theorem c_L_clear (l : Launch) (hst : l.stackTraces = false) (D : va_G) (e : Nat) (h : Nat) (l1 : Nat) (l2 : Nat) (l3 : Nat) (l4 : Nat) (l5 : Nat) (l6 : Nat) (l7 : Nat) (l8 : Nat) (l9 : Nat) (ch : Nat) (co : Nat) (o : Nat) (cO : ClassId) (f0 : Nat → Int64) (p0 : Int32) (sz : Nat) : vx_Met l yL_clear wsL_clear ({ frames := 14, cells := 1, slots := 6, locals := 280 }) (va_Pc [.ref h, .int p0, .ref o] (cIn D [(cO, .long)] [(h, .inr (16, [.ref l1, .ref l2, .ref l3, .ref l4, .ref l5, .ref l6, .ref l7, .ref l8, .ref l9, .ref ch, .ref co, .int 0, .int 4, .int (-40), .int 20, .int 0, .int 0, .int 100, .int 60, .int 14])), (l8, .inr (5, [.int 0, .ref e, .int 0])), (o, .inl (cO, 1, .inr (.inl f0)))] e sz)) (va_Qi (fun (r : Int32) (f : Nat → Int64) => r = v_L_clear p0) (fun (f : Nat → Int64) (t : State) => va_P D vwCl [(o, .inl (cO, 1, .inr (.inl f)))] t.heap ∧ va_K D vwCl [(cO, .long)] t ∧ va_D (va_A [(h, .inr (16, [.ref l1, .ref l2, .ref l3, .ref l4, .ref l5, .ref l6, .ref l7, .ref l8, .ref l9, .ref ch, .ref co, .int 0, .int 4, .int (-40), .int 20, .int 0, .int 0, .int 100, .int 60, .int 14])), (l8, .inr (5, [.int 0, .ref e, .int 0])), (o, .inl (cO, 1, .inr (.inl f0)))] sz) [(o, .inl (cO, 1, .inr (.inl f)))]) (va_A [(h, .inr (16, [.ref l1, .ref l2, .ref l3, .ref l4, .ref l5, .ref l6, .ref l7, .ref l8, .ref l9, .ref ch, .ref co, .int 0, .int 4, .int (-40), .int 20, .int 0, .int 0, .int 100, .int 60, .int 14])), (l8, .inr (5, [.int 0, .ref e, .int 0])), (o, .inl (cO, 1, .inr (.inl f0)))] sz)) (vx_X (fun _ : Unit => False) (fun (_ : String) (_ : Unit) (_ : State) => True) (va_A [(h, .inr (16, [.ref l1, .ref l2, .ref l3, .ref l4, .ref l5, .ref l6, .ref l7, .ref l8, .ref l9, .ref ch, .ref co, .int 0, .int 4, .int (-40), .int 20, .int 0, .int 0, .int 100, .int 60, .int 14])), (l8, .inr (5, [.int 0, .ref e, .int 0])), (o, .inl (cO, 1, .inr (.inl f0)))] sz)) 1 6 (va_A [(h, .inr (16, [.ref l1, .ref l2, .ref l3, .ref l4, .ref l5, .ref l6, .ref l7, .ref l8, .ref l9, .ref ch, .ref co, .int 0, .int 4, .int (-40), .int 20, .int 0, .int 0, .int 100, .int 60, .int 14])), (l8, .inr (5, [.int 0, .ref e, .int 0])), (o, .inl (cO, 1, .inr (.inl f0)))] sz) := by
  refine vx_ofWH (cc := cL_clear) (maxL := 4) (ret := (some .int)) (by decide +kernel) rfl ?_
  intro p e9 s m args below meth c s₁ B hml hv
  obtain ⟨rfl, hsz, hP, hK, hD0, hE0⟩ := hv
  have hx := B.exec
  have hb := B.bytes
  have hr := B.returns
  have hts := atoms_spec (ws := wsL_clear) B.pre
  have hown : s.vm.findClass RL = some m.cls := findClass_of_methodNamed B.named
  have hlocks := B.notSynchronized
  have htab := vx_table (x := yL_clear) B (hts (.codeWith yL_clear cL_clear 4 (some .int) [(0, 9, 12, 21), (0, 9, 15, 30)]) (show _ ∈ wsL_clear from List.mem_cons_self))
  subst hsz
  have hD := hD0.self (sz := s.heap.size)
  generalize hAe : va_A [(h, .inr (16, [.ref l1, .ref l2, .ref l3, .ref l4, .ref l5, .ref l6, .ref l7, .ref l8, .ref l9, .ref ch, .ref co, .int 0, .int 4, .int (-40), .int 20, .int 0, .int 0, .int 100, .int 60, .int 14])), (l8, .inr (5, [.int 0, .ref e, .int 0])), (o, .inl (cO, 1, .inr (.inl f0)))] s.heap.size = A at hD hE0 ⊢
  have hA : ∀ q : Nat, s.heap.size ≤ q → A q := fun q h => by rw [← hAe]; exact Or.inr h
  have hS : va_S A s.heap s.heap [] := va_S.rf
  have hE := hE0
  have hP : va_P D vwCl [(h, .inr (16, [.ref l1, .ref l2, .ref l3, .ref l4, .ref l5, .ref l6, .ref l7, .ref l8, .ref l9, .ref ch, .ref co, .int 0, .int 4, .int (-40), .int 20, .int 0, .int 0, .int 100, .int 60, .int 14])), (l8, .inr (5, [.int 0, .ref e, .int 0])), (o, .inl (cO, 1, .inr (.inl f0)))] s.heap := hP
  have hl := lv_entry ([.ref h, .int p0, .ref o]) (n := 4) (Nat.le_of_ble_eq_true rfl)
  rw [lg_entry_eq]
  generalize (lg_sl ([.ref h, .int p0, .ref o]) ++ List.replicate (4 - (lg_sl ([.ref h, .int p0, .ref o])).length) Slot.unset).toArray = ls at hl ⊢
  have hl : lv_has ls 4 [(0, .ref h), (1, .int p0), (2, .ref o)] := hl
  refine lv_aload_n hx hb dL_clear_0 rfl (lv_at hl 2 rfl) ?_
  refine lv_iconst (v := 0) hx hb dL_clear_1 (by decide) ?_
  refine lv_aload_n hx hb dL_clear_2 rfl (lv_at hl 0 rfl) ?_
  refine lv_iload_n hx hb dL_clear_3 rfl (lv_at hl 1 rfl) ?_
  have hFc := va_free (wc := [(h, .inr (16, [.ref l1, .ref l2, .ref l3, .ref l4, .ref l5, .ref l6, .ref l7, .ref l8, .ref l9, .ref ch, .ref co, .int 0, .int 4, .int (-40), .int 20, .int 0, .int 0, .int 100, .int 60, .int 14])), (l8, .inr (5, [.int 0, .ref e, .int 0]))]) hD hS hA [0, 1] rfl
  refine vx_callv (vx_runV (As := [.int p0]) (rest := [.int 0, .ref o]) ⟨hx, hb, hml, hown, hts⟩ (c_X10_clear l hst D e h l1 l2 l3 l4 l5 l6 l7 l8 l9 ch co p0 s.heap.size) (cwV 1 hts gL_clear_X10_clear rfl rfl rfl (by decide +kernel) ⟨Nat.le_of_ble_eq_true rfl, Nat.le_of_ble_eq_true rfl⟩) ⟨cIn_blind, va_recv hK hP (ci := 16) (q0 := 0) rfl rfl, cIn_go hK hP hD hE hS hA [0, 1] rfl rfl (by decide) [] rfl⟩ rfl rfl hl.1 rfl (lv_room (Nat.le_of_ble_eq_true rfl)) dL_clear_4 ⟨Nat.le_of_ble_eq_true rfl, Nat.le_of_ble_eq_true rfl⟩) hS (fun q _ h => hFc q h) hFc (fun q _ h => hFc q h) (fun E ce q9 u t H1 locs ht hvm hpx hB hz1 hk1 hS hce hcv hcl => ?_) (fun u t H1 locs ht hvm hw hB hz1 hk1 hS => ?_)
  · obtain ⟨rfl, hw⟩ := hB
    obtain ⟨hP, hD⟩ := cIn_rest (wc := [(h, .inr (16, [.ref l1, .ref l2, .ref l3, .ref l4, .ref l5, .ref l6, .ref l7, .ref l8, .ref l9, .ref ch, .ref co, .int 0, .int 4, .int (-40), .int 20, .int 0, .int 0, .int 100, .int 60, .int 14])), (l8, .inr (5, [.int 0, .ref e, .int 0]))]) (wr := [(o, .inl (cO, 1, .inr (.inl f0)))]) hP hD [0, 1] [2] rfl rfl (by decide) (by decide) hk1 hFc
    generalize H1 = H at hP hS hce ⊢
    have hP : va_P D vwCl [(o, .inl (cO, 1, .inr (.inl f0)))] H := hP
    have hD : va_D A [(o, .inl (cO, 1, .inr (.inl f0)))] := hD
    refine vx_catch (name := "java/lang/IndexOutOfBoundsException") (E := "java/lang/IndexOutOfBoundsException") hown [] ⟨0, 9, 12, 21⟩ [⟨0, 9, 15, 30⟩] (by rw [htab]; rfl) (fun z hz => by cases hz) (by decide) (by decide) (hts (.classLink RL 21 "java/lang/IndexOutOfBoundsException") (by decide +kernel)) (ev_u hE (w := .castable "java/lang/IndexOutOfBoundsException" "java/lang/IndexOutOfBoundsException") (by decide +kernel) rfl) hce hcv hcl ?_
    refine lv_astore_n (lv' := [(3, .ref q9), (0, .ref h), (1, .int p0), (2, .ref o)]) hx hb dL_clear_12 rfl hl (by decide) rfl (fun ls hl => ?_)
    refine lv_iconst (v := 1) hx hb dL_clear_13 (by decide) ?_
    refine vx_ret ?_
    exact W.iret (v := 1) hx hb hr (fun t ht hW => ⟨⟨1, f0, rfl, rfl, ⟨by rw [ht]; exact hP.sub [0] rfl, va_K.moved hW.alike (hK.sub [0] rfl), hD.sub [0] (by decide) rfl⟩⟩, hS.F ht⟩) hS.2.2 dL_clear_14
  · exact hw.elim
-- L_isCovered
def v_L_isCovered (p0 : Int32) : Int32 := 1
set_option maxHeartbeats 4000000 in
set_option maxRecDepth 100000 in
theorem c_L_isCovered (l : Launch) (hst : l.stackTraces = false) (D : va_G) (e : Nat) (h : Nat) (l1 : Nat) (l2 : Nat) (l3 : Nat) (l4 : Nat) (l5 : Nat) (l6 : Nat) (l7 : Nat) (l8 : Nat) (l9 : Nat) (ch : Nat) (co : Nat) (o : Nat) (cO : ClassId) (f0 : Nat → Int64) (p0 : Int32) (sz : Nat) : vx_Met l yL_isCovered wsL_isCovered ({ frames := 18, cells := 1, slots := 6, locals := 400 }) (va_Pc [.ref h, .int p0, .ref o] (cIn D [(cO, .long)] [(h, .inr (16, [.ref l1, .ref l2, .ref l3, .ref l4, .ref l5, .ref l6, .ref l7, .ref l8, .ref l9, .ref ch, .ref co, .int 0, .int 4, .int (-40), .int 20, .int 0, .int 0, .int 100, .int 60, .int 14])), (l4, .inr (5, [.int 0, .ref e, .int 0])), (o, .inl (cO, 1, .inr (.inl f0)))] e sz)) (va_Qi (fun (r : Int32) (f : Nat → Int64) => r = v_L_isCovered p0) (fun (f : Nat → Int64) (t : State) => va_P D vwCl [(o, .inl (cO, 1, .inr (.inl f)))] t.heap ∧ va_K D vwCl [(cO, .long)] t ∧ va_D (va_A [(h, .inr (16, [.ref l1, .ref l2, .ref l3, .ref l4, .ref l5, .ref l6, .ref l7, .ref l8, .ref l9, .ref ch, .ref co, .int 0, .int 4, .int (-40), .int 20, .int 0, .int 0, .int 100, .int 60, .int 14])), (l4, .inr (5, [.int 0, .ref e, .int 0])), (o, .inl (cO, 1, .inr (.inl f0)))] sz) [(o, .inl (cO, 1, .inr (.inl f)))]) (va_A [(h, .inr (16, [.ref l1, .ref l2, .ref l3, .ref l4, .ref l5, .ref l6, .ref l7, .ref l8, .ref l9, .ref ch, .ref co, .int 0, .int 4, .int (-40), .int 20, .int 0, .int 0, .int 100, .int 60, .int 14])), (l4, .inr (5, [.int 0, .ref e, .int 0])), (o, .inl (cO, 1, .inr (.inl f0)))] sz)) (vx_X (fun _ : Unit => False) (fun (_ : String) (_ : Unit) (_ : State) => True) (va_A [(h, .inr (16, [.ref l1, .ref l2, .ref l3, .ref l4, .ref l5, .ref l6, .ref l7, .ref l8, .ref l9, .ref ch, .ref co, .int 0, .int 4, .int (-40), .int 20, .int 0, .int 0, .int 100, .int 60, .int 14])), (l4, .inr (5, [.int 0, .ref e, .int 0])), (o, .inl (cO, 1, .inr (.inl f0)))] sz)) 1 6 (va_A [(h, .inr (16, [.ref l1, .ref l2, .ref l3, .ref l4, .ref l5, .ref l6, .ref l7, .ref l8, .ref l9, .ref ch, .ref co, .int 0, .int 4, .int (-40), .int 20, .int 0, .int 0, .int 100, .int 60, .int 14])), (l4, .inr (5, [.int 0, .ref e, .int 0])), (o, .inl (cO, 1, .inr (.inl f0)))] sz) := by
  refine vx_ofWH (cc := cL_isCovered) (maxL := 4) (ret := (some .int)) (by decide +kernel) rfl ?_
  intro p e9 s m args below meth c s₁ B hml hv
  obtain ⟨rfl, hsz, hP, hK, hD0, hE0⟩ := hv
  have hx := B.exec
  have hb := B.bytes
  have hr := B.returns
  have hts := atoms_spec (ws := wsL_isCovered) B.pre
  have hown : s.vm.findClass RL = some m.cls := findClass_of_methodNamed B.named
  have hlocks := B.notSynchronized
  have htab := vx_table (x := yL_isCovered) B (hts (.codeWith yL_isCovered cL_isCovered 4 (some .int) [(0, 16, 19, 21)]) (show _ ∈ wsL_isCovered from List.mem_cons_self))
  subst hsz
  have hD := hD0.self (sz := s.heap.size)
  generalize hAe : va_A [(h, .inr (16, [.ref l1, .ref l2, .ref l3, .ref l4, .ref l5, .ref l6, .ref l7, .ref l8, .ref l9, .ref ch, .ref co, .int 0, .int 4, .int (-40), .int 20, .int 0, .int 0, .int 100, .int 60, .int 14])), (l4, .inr (5, [.int 0, .ref e, .int 0])), (o, .inl (cO, 1, .inr (.inl f0)))] s.heap.size = A at hD hE0 ⊢
  have hA : ∀ q : Nat, s.heap.size ≤ q → A q := fun q h => by rw [← hAe]; exact Or.inr h
  have hS : va_S A s.heap s.heap [] := va_S.rf
  have hE := hE0
  have hP : va_P D vwCl [(h, .inr (16, [.ref l1, .ref l2, .ref l3, .ref l4, .ref l5, .ref l6, .ref l7, .ref l8, .ref l9, .ref ch, .ref co, .int 0, .int 4, .int (-40), .int 20, .int 0, .int 0, .int 100, .int 60, .int 14])), (l4, .inr (5, [.int 0, .ref e, .int 0])), (o, .inl (cO, 1, .inr (.inl f0)))] s.heap := hP
  have hl := lv_entry ([.ref h, .int p0, .ref o]) (n := 4) (Nat.le_of_ble_eq_true rfl)
  rw [lg_entry_eq]
  generalize (lg_sl ([.ref h, .int p0, .ref o]) ++ List.replicate (4 - (lg_sl ([.ref h, .int p0, .ref o])).length) Slot.unset).toArray = ls at hl ⊢
  have hl : lv_has ls 4 [(0, .ref h), (1, .int p0), (2, .ref o)] := hl
  refine lv_aload_n hx hb dL_isCovered_0 rfl (lv_at hl 2 rfl) ?_
  refine lv_iconst (v := 0) hx hb dL_isCovered_1 (by decide) ?_
  refine lv_aload_n hx hb dL_isCovered_2 rfl (lv_at hl 0 rfl) ?_
  refine lv_iload_n hx hb dL_isCovered_3 rfl (lv_at hl 1 rfl) ?_
  have hFc := va_free (wc := [(h, .inr (16, [.ref l1, .ref l2, .ref l3, .ref l4, .ref l5, .ref l6, .ref l7, .ref l8, .ref l9, .ref ch, .ref co, .int 0, .int 4, .int (-40), .int 20, .int 0, .int 0, .int 100, .int 60, .int 14])), (l4, .inr (5, [.int 0, .ref e, .int 0]))]) hD hS hA [0, 1] rfl
  refine vx_callv (vx_runV (As := [.int p0]) (rest := [.int 0, .ref o]) ⟨hx, hb, hml, hown, hts⟩ (c_X10_isCovered l hst D e h l1 l2 l3 l4 l5 l6 l7 l8 l9 ch co p0 s.heap.size) (cwV 1 hts gL_isCovered_X10_isCovered rfl rfl rfl (by decide +kernel) ⟨Nat.le_of_ble_eq_true rfl, Nat.le_of_ble_eq_true rfl⟩) ⟨cIn_blind, va_recv hK hP (ci := 16) (q0 := 0) rfl rfl, cIn_go hK hP hD hE hS hA [0, 1] rfl rfl (by decide) [] rfl⟩ rfl rfl hl.1 rfl (lv_room (Nat.le_of_ble_eq_true rfl)) dL_isCovered_4 ⟨Nat.le_of_ble_eq_true rfl, Nat.le_of_ble_eq_true rfl⟩) hS (fun q _ h => hFc q h) hFc (fun q _ h => hFc q h) (fun E ce q9 u t H1 locs ht hvm hpx hB hz1 hk1 hS hce hcv hcl => ?_) (fun u t H1 locs ht hvm hw hB hz1 hk1 hS => ?_)
  · obtain ⟨rfl, hw⟩ := hB
    obtain ⟨hP, hD⟩ := cIn_rest (wc := [(h, .inr (16, [.ref l1, .ref l2, .ref l3, .ref l4, .ref l5, .ref l6, .ref l7, .ref l8, .ref l9, .ref ch, .ref co, .int 0, .int 4, .int (-40), .int 20, .int 0, .int 0, .int 100, .int 60, .int 14])), (l4, .inr (5, [.int 0, .ref e, .int 0]))]) (wr := [(o, .inl (cO, 1, .inr (.inl f0)))]) hP hD [0, 1] [2] rfl rfl (by decide) (by decide) hk1 hFc
    generalize H1 = H at hP hS hce ⊢
    have hP : va_P D vwCl [(o, .inl (cO, 1, .inr (.inl f0)))] H := hP
    have hD : va_D A [(o, .inl (cO, 1, .inr (.inl f0)))] := hD
    refine vx_catch (name := "java/lang/IndexOutOfBoundsException") (E := "java/lang/IndexOutOfBoundsException") hown [] ⟨0, 16, 19, 21⟩ [] (by rw [htab]; rfl) (fun z hz => by cases hz) (by decide) (by decide) (hts (.classLink RL 21 "java/lang/IndexOutOfBoundsException") (by decide +kernel)) (ev_u hE (w := .castable "java/lang/IndexOutOfBoundsException" "java/lang/IndexOutOfBoundsException") (by decide +kernel) rfl) hce hcv hcl ?_
    refine lv_astore_n (lv' := [(3, .ref q9), (0, .ref h), (1, .int p0), (2, .ref o)]) hx hb dL_isCovered_19 rfl hl (by decide) rfl (fun ls hl => ?_)
    refine lv_iconst (v := 1) hx hb dL_isCovered_20 (by decide) ?_
    refine vx_ret ?_
    exact W.iret (v := 1) hx hb hr (fun t ht hW => ⟨⟨1, f0, rfl, rfl, ⟨by rw [ht]; exact hP.sub [0] rfl, va_K.moved hW.alike (hK.sub [0] rfl), hD.sub [0] (by decide) rfl⟩⟩, hS.F ht⟩) hS.2.2 dL_isCovered_21
  · exact hw.elim
-- L_isRecalled
def v_L_isRecalled (p0 : Int32) : Int32 := 1
set_option maxHeartbeats 4000000 in
set_option maxRecDepth 100000 in
theorem c_L_isRecalled (l : Launch) (hst : l.stackTraces = false) (D : va_G) (e : Nat) (h : Nat) (l1 : Nat) (l2 : Nat) (l3 : Nat) (l4 : Nat) (l5 : Nat) (l6 : Nat) (l7 : Nat) (l8 : Nat) (l9 : Nat) (ch : Nat) (co : Nat) (o : Nat) (cO : ClassId) (f0 : Nat → Int64) (p0 : Int32) (sz : Nat) : vx_Met l yL_isRecalled wsL_isRecalled ({ frames := 18, cells := 1, slots := 6, locals := 400 }) (va_Pc [.ref h, .int p0, .ref o] (cIn D [(cO, .long)] [(h, .inr (16, [.ref l1, .ref l2, .ref l3, .ref l4, .ref l5, .ref l6, .ref l7, .ref l8, .ref l9, .ref ch, .ref co, .int 0, .int 4, .int (-40), .int 20, .int 0, .int 0, .int 100, .int 60, .int 14])), (l7, .inr (5, [.int 0, .ref e, .int 0])), (o, .inl (cO, 1, .inr (.inl f0)))] e sz)) (va_Qi (fun (r : Int32) (f : Nat → Int64) => r = v_L_isRecalled p0) (fun (f : Nat → Int64) (t : State) => va_P D vwCl [(o, .inl (cO, 1, .inr (.inl f)))] t.heap ∧ va_K D vwCl [(cO, .long)] t ∧ va_D (va_A [(h, .inr (16, [.ref l1, .ref l2, .ref l3, .ref l4, .ref l5, .ref l6, .ref l7, .ref l8, .ref l9, .ref ch, .ref co, .int 0, .int 4, .int (-40), .int 20, .int 0, .int 0, .int 100, .int 60, .int 14])), (l7, .inr (5, [.int 0, .ref e, .int 0])), (o, .inl (cO, 1, .inr (.inl f0)))] sz) [(o, .inl (cO, 1, .inr (.inl f)))]) (va_A [(h, .inr (16, [.ref l1, .ref l2, .ref l3, .ref l4, .ref l5, .ref l6, .ref l7, .ref l8, .ref l9, .ref ch, .ref co, .int 0, .int 4, .int (-40), .int 20, .int 0, .int 0, .int 100, .int 60, .int 14])), (l7, .inr (5, [.int 0, .ref e, .int 0])), (o, .inl (cO, 1, .inr (.inl f0)))] sz)) (vx_X (fun _ : Unit => False) (fun (_ : String) (_ : Unit) (_ : State) => True) (va_A [(h, .inr (16, [.ref l1, .ref l2, .ref l3, .ref l4, .ref l5, .ref l6, .ref l7, .ref l8, .ref l9, .ref ch, .ref co, .int 0, .int 4, .int (-40), .int 20, .int 0, .int 0, .int 100, .int 60, .int 14])), (l7, .inr (5, [.int 0, .ref e, .int 0])), (o, .inl (cO, 1, .inr (.inl f0)))] sz)) 1 6 (va_A [(h, .inr (16, [.ref l1, .ref l2, .ref l3, .ref l4, .ref l5, .ref l6, .ref l7, .ref l8, .ref l9, .ref ch, .ref co, .int 0, .int 4, .int (-40), .int 20, .int 0, .int 0, .int 100, .int 60, .int 14])), (l7, .inr (5, [.int 0, .ref e, .int 0])), (o, .inl (cO, 1, .inr (.inl f0)))] sz) := by
  refine vx_ofWH (cc := cL_isRecalled) (maxL := 4) (ret := (some .int)) (by decide +kernel) rfl ?_
  intro p e9 s m args below meth c s₁ B hml hv
  obtain ⟨rfl, hsz, hP, hK, hD0, hE0⟩ := hv
  have hx := B.exec
  have hb := B.bytes
  have hr := B.returns
  have hts := atoms_spec (ws := wsL_isRecalled) B.pre
  have hown : s.vm.findClass RL = some m.cls := findClass_of_methodNamed B.named
  have hlocks := B.notSynchronized
  have htab := vx_table (x := yL_isRecalled) B (hts (.codeWith yL_isRecalled cL_isRecalled 4 (some .int) [(0, 16, 19, 21)]) (show _ ∈ wsL_isRecalled from List.mem_cons_self))
  subst hsz
  have hD := hD0.self (sz := s.heap.size)
  generalize hAe : va_A [(h, .inr (16, [.ref l1, .ref l2, .ref l3, .ref l4, .ref l5, .ref l6, .ref l7, .ref l8, .ref l9, .ref ch, .ref co, .int 0, .int 4, .int (-40), .int 20, .int 0, .int 0, .int 100, .int 60, .int 14])), (l7, .inr (5, [.int 0, .ref e, .int 0])), (o, .inl (cO, 1, .inr (.inl f0)))] s.heap.size = A at hD hE0 ⊢
  have hA : ∀ q : Nat, s.heap.size ≤ q → A q := fun q h => by rw [← hAe]; exact Or.inr h
  have hS : va_S A s.heap s.heap [] := va_S.rf
  have hE := hE0
  have hP : va_P D vwCl [(h, .inr (16, [.ref l1, .ref l2, .ref l3, .ref l4, .ref l5, .ref l6, .ref l7, .ref l8, .ref l9, .ref ch, .ref co, .int 0, .int 4, .int (-40), .int 20, .int 0, .int 0, .int 100, .int 60, .int 14])), (l7, .inr (5, [.int 0, .ref e, .int 0])), (o, .inl (cO, 1, .inr (.inl f0)))] s.heap := hP
  have hl := lv_entry ([.ref h, .int p0, .ref o]) (n := 4) (Nat.le_of_ble_eq_true rfl)
  rw [lg_entry_eq]
  generalize (lg_sl ([.ref h, .int p0, .ref o]) ++ List.replicate (4 - (lg_sl ([.ref h, .int p0, .ref o])).length) Slot.unset).toArray = ls at hl ⊢
  have hl : lv_has ls 4 [(0, .ref h), (1, .int p0), (2, .ref o)] := hl
  refine lv_aload_n hx hb dL_isRecalled_0 rfl (lv_at hl 2 rfl) ?_
  refine lv_iconst (v := 0) hx hb dL_isRecalled_1 (by decide) ?_
  refine lv_aload_n hx hb dL_isRecalled_2 rfl (lv_at hl 0 rfl) ?_
  refine lv_iload_n hx hb dL_isRecalled_3 rfl (lv_at hl 1 rfl) ?_
  have hFc := va_free (wc := [(h, .inr (16, [.ref l1, .ref l2, .ref l3, .ref l4, .ref l5, .ref l6, .ref l7, .ref l8, .ref l9, .ref ch, .ref co, .int 0, .int 4, .int (-40), .int 20, .int 0, .int 0, .int 100, .int 60, .int 14])), (l7, .inr (5, [.int 0, .ref e, .int 0]))]) hD hS hA [0, 1] rfl
  refine vx_callv (vx_runV (As := [.int p0]) (rest := [.int 0, .ref o]) ⟨hx, hb, hml, hown, hts⟩ (c_X10_isRecalled l hst D e h l1 l2 l3 l4 l5 l6 l7 l8 l9 ch co p0 s.heap.size) (cwV 1 hts gL_isRecalled_X10_isRecalled rfl rfl rfl (by decide +kernel) ⟨Nat.le_of_ble_eq_true rfl, Nat.le_of_ble_eq_true rfl⟩) ⟨cIn_blind, va_recv hK hP (ci := 16) (q0 := 0) rfl rfl, cIn_go hK hP hD hE hS hA [0, 1] rfl rfl (by decide) [] rfl⟩ rfl rfl hl.1 rfl (lv_room (Nat.le_of_ble_eq_true rfl)) dL_isRecalled_4 ⟨Nat.le_of_ble_eq_true rfl, Nat.le_of_ble_eq_true rfl⟩) hS (fun q _ h => hFc q h) hFc (fun q _ h => hFc q h) (fun E ce q9 u t H1 locs ht hvm hpx hB hz1 hk1 hS hce hcv hcl => ?_) (fun u t H1 locs ht hvm hw hB hz1 hk1 hS => ?_)
  · obtain ⟨rfl, hw⟩ := hB
    obtain ⟨hP, hD⟩ := cIn_rest (wc := [(h, .inr (16, [.ref l1, .ref l2, .ref l3, .ref l4, .ref l5, .ref l6, .ref l7, .ref l8, .ref l9, .ref ch, .ref co, .int 0, .int 4, .int (-40), .int 20, .int 0, .int 0, .int 100, .int 60, .int 14])), (l7, .inr (5, [.int 0, .ref e, .int 0]))]) (wr := [(o, .inl (cO, 1, .inr (.inl f0)))]) hP hD [0, 1] [2] rfl rfl (by decide) (by decide) hk1 hFc
    generalize H1 = H at hP hS hce ⊢
    have hP : va_P D vwCl [(o, .inl (cO, 1, .inr (.inl f0)))] H := hP
    have hD : va_D A [(o, .inl (cO, 1, .inr (.inl f0)))] := hD
    refine vx_catch (name := "java/lang/IndexOutOfBoundsException") (E := "java/lang/IndexOutOfBoundsException") hown [] ⟨0, 16, 19, 21⟩ [] (by rw [htab]; rfl) (fun z hz => by cases hz) (by decide) (by decide) (hts (.classLink RL 21 "java/lang/IndexOutOfBoundsException") (by decide +kernel)) (ev_u hE (w := .castable "java/lang/IndexOutOfBoundsException" "java/lang/IndexOutOfBoundsException") (by decide +kernel) rfl) hce hcv hcl ?_
    refine lv_astore_n (lv' := [(3, .ref q9), (0, .ref h), (1, .int p0), (2, .ref o)]) hx hb dL_isRecalled_19 rfl hl (by decide) rfl (fun ls hl => ?_)
    refine lv_iconst (v := 1) hx hb dL_isRecalled_20 (by decide) ?_
    refine vx_ret ?_
    exact W.iret (v := 1) hx hb hr (fun t ht hW => ⟨⟨1, f0, rfl, rfl, ⟨by rw [ht]; exact hP.sub [0] rfl, va_K.moved hW.alike (hK.sub [0] rfl), hD.sub [0] (by decide) rfl⟩⟩, hS.F ht⟩) hS.2.2 dL_isRecalled_21
  · exact hw.elim
-- L_sisters
def v_L_sisters (p0 : Int32) : Int32 := 1
set_option maxHeartbeats 4000000 in
set_option maxRecDepth 100000 in
theorem c_L_sisters (l : Launch) (hst : l.stackTraces = false) (D : va_G) (e : Nat) (h : Nat) (l1 : Nat) (l2 : Nat) (l3 : Nat) (l4 : Nat) (l5 : Nat) (l6 : Nat) (l7 : Nat) (l8 : Nat) (l9 : Nat) (ch : Nat) (co : Nat) (o : Nat) (cO : ClassId) (f0 : Nat → Int64) (p0 : Int32) (sz : Nat) : vx_Met l yL_sisters wsL_sisters ({ frames := 18, cells := 1, slots := 6, locals := 400 }) (va_Pc [.ref h, .int p0, .ref o] (cIn D [(cO, .long)] [(h, .inr (16, [.ref l1, .ref l2, .ref l3, .ref l4, .ref l5, .ref l6, .ref l7, .ref l8, .ref l9, .ref ch, .ref co, .int 0, .int 4, .int (-40), .int 20, .int 0, .int 0, .int 100, .int 60, .int 14])), (l4, .inr (5, [.int 0, .ref e, .int 0])), (o, .inl (cO, 1, .inr (.inl f0)))] e sz)) (va_Qi (fun (r : Int32) (f : Nat → Int64) => r = v_L_sisters p0) (fun (f : Nat → Int64) (t : State) => va_P D vwCl [(o, .inl (cO, 1, .inr (.inl f)))] t.heap ∧ va_K D vwCl [(cO, .long)] t ∧ va_D (va_A [(h, .inr (16, [.ref l1, .ref l2, .ref l3, .ref l4, .ref l5, .ref l6, .ref l7, .ref l8, .ref l9, .ref ch, .ref co, .int 0, .int 4, .int (-40), .int 20, .int 0, .int 0, .int 100, .int 60, .int 14])), (l4, .inr (5, [.int 0, .ref e, .int 0])), (o, .inl (cO, 1, .inr (.inl f0)))] sz) [(o, .inl (cO, 1, .inr (.inl f)))]) (va_A [(h, .inr (16, [.ref l1, .ref l2, .ref l3, .ref l4, .ref l5, .ref l6, .ref l7, .ref l8, .ref l9, .ref ch, .ref co, .int 0, .int 4, .int (-40), .int 20, .int 0, .int 0, .int 100, .int 60, .int 14])), (l4, .inr (5, [.int 0, .ref e, .int 0])), (o, .inl (cO, 1, .inr (.inl f0)))] sz)) (vx_X (fun _ : Unit => False) (fun (_ : String) (_ : Unit) (_ : State) => True) (va_A [(h, .inr (16, [.ref l1, .ref l2, .ref l3, .ref l4, .ref l5, .ref l6, .ref l7, .ref l8, .ref l9, .ref ch, .ref co, .int 0, .int 4, .int (-40), .int 20, .int 0, .int 0, .int 100, .int 60, .int 14])), (l4, .inr (5, [.int 0, .ref e, .int 0])), (o, .inl (cO, 1, .inr (.inl f0)))] sz)) 1 6 (va_A [(h, .inr (16, [.ref l1, .ref l2, .ref l3, .ref l4, .ref l5, .ref l6, .ref l7, .ref l8, .ref l9, .ref ch, .ref co, .int 0, .int 4, .int (-40), .int 20, .int 0, .int 0, .int 100, .int 60, .int 14])), (l4, .inr (5, [.int 0, .ref e, .int 0])), (o, .inl (cO, 1, .inr (.inl f0)))] sz) := by
  refine vx_ofWH (cc := cL_sisters) (maxL := 4) (ret := (some .int)) (by decide +kernel) rfl ?_
  intro p e9 s m args below meth c s₁ B hml hv
  obtain ⟨rfl, hsz, hP, hK, hD0, hE0⟩ := hv
  have hx := B.exec
  have hb := B.bytes
  have hr := B.returns
  have hts := atoms_spec (ws := wsL_sisters) B.pre
  have hown : s.vm.findClass RL = some m.cls := findClass_of_methodNamed B.named
  have hlocks := B.notSynchronized
  have htab := vx_table (x := yL_sisters) B (hts (.codeWith yL_sisters cL_sisters 4 (some .int) [(0, 9, 12, 21)]) (show _ ∈ wsL_sisters from List.mem_cons_self))
  subst hsz
  have hD := hD0.self (sz := s.heap.size)
  generalize hAe : va_A [(h, .inr (16, [.ref l1, .ref l2, .ref l3, .ref l4, .ref l5, .ref l6, .ref l7, .ref l8, .ref l9, .ref ch, .ref co, .int 0, .int 4, .int (-40), .int 20, .int 0, .int 0, .int 100, .int 60, .int 14])), (l4, .inr (5, [.int 0, .ref e, .int 0])), (o, .inl (cO, 1, .inr (.inl f0)))] s.heap.size = A at hD hE0 ⊢
  have hA : ∀ q : Nat, s.heap.size ≤ q → A q := fun q h => by rw [← hAe]; exact Or.inr h
  have hS : va_S A s.heap s.heap [] := va_S.rf
  have hE := hE0
  have hP : va_P D vwCl [(h, .inr (16, [.ref l1, .ref l2, .ref l3, .ref l4, .ref l5, .ref l6, .ref l7, .ref l8, .ref l9, .ref ch, .ref co, .int 0, .int 4, .int (-40), .int 20, .int 0, .int 0, .int 100, .int 60, .int 14])), (l4, .inr (5, [.int 0, .ref e, .int 0])), (o, .inl (cO, 1, .inr (.inl f0)))] s.heap := hP
  have hl := lv_entry ([.ref h, .int p0, .ref o]) (n := 4) (Nat.le_of_ble_eq_true rfl)
  rw [lg_entry_eq]
  generalize (lg_sl ([.ref h, .int p0, .ref o]) ++ List.replicate (4 - (lg_sl ([.ref h, .int p0, .ref o])).length) Slot.unset).toArray = ls at hl ⊢
  have hl : lv_has ls 4 [(0, .ref h), (1, .int p0), (2, .ref o)] := hl
  refine lv_aload_n hx hb dL_sisters_0 rfl (lv_at hl 2 rfl) ?_
  refine lv_iconst (v := 0) hx hb dL_sisters_1 (by decide) ?_
  refine lv_aload_n hx hb dL_sisters_2 rfl (lv_at hl 0 rfl) ?_
  refine lv_iload_n hx hb dL_sisters_3 rfl (lv_at hl 1 rfl) ?_
  have hFc := va_free (wc := [(h, .inr (16, [.ref l1, .ref l2, .ref l3, .ref l4, .ref l5, .ref l6, .ref l7, .ref l8, .ref l9, .ref ch, .ref co, .int 0, .int 4, .int (-40), .int 20, .int 0, .int 0, .int 100, .int 60, .int 14])), (l4, .inr (5, [.int 0, .ref e, .int 0]))]) hD hS hA [0, 1] rfl
  refine vx_callv (vx_runV (As := [.int p0]) (rest := [.int 0, .ref o]) ⟨hx, hb, hml, hown, hts⟩ (c_X10_sisters l hst D e h l1 l2 l3 l4 l5 l6 l7 l8 l9 ch co p0 s.heap.size) (cwV 1 hts gL_sisters_X10_sisters rfl rfl rfl (by decide +kernel) ⟨Nat.le_of_ble_eq_true rfl, Nat.le_of_ble_eq_true rfl⟩) ⟨cIn_blind, va_recv hK hP (ci := 16) (q0 := 0) rfl rfl, cIn_go hK hP hD hE hS hA [0, 1] rfl rfl (by decide) [] rfl⟩ rfl rfl hl.1 rfl (lv_room (Nat.le_of_ble_eq_true rfl)) dL_sisters_4 ⟨Nat.le_of_ble_eq_true rfl, Nat.le_of_ble_eq_true rfl⟩) hS (fun q _ h => hFc q h) hFc (fun q _ h => hFc q h) (fun E ce q9 u t H1 locs ht hvm hpx hB hz1 hk1 hS hce hcv hcl => ?_) (fun u t H1 locs ht hvm hw hB hz1 hk1 hS => ?_)
  · obtain ⟨rfl, hw⟩ := hB
    obtain ⟨hP, hD⟩ := cIn_rest (wc := [(h, .inr (16, [.ref l1, .ref l2, .ref l3, .ref l4, .ref l5, .ref l6, .ref l7, .ref l8, .ref l9, .ref ch, .ref co, .int 0, .int 4, .int (-40), .int 20, .int 0, .int 0, .int 100, .int 60, .int 14])), (l4, .inr (5, [.int 0, .ref e, .int 0]))]) (wr := [(o, .inl (cO, 1, .inr (.inl f0)))]) hP hD [0, 1] [2] rfl rfl (by decide) (by decide) hk1 hFc
    generalize H1 = H at hP hS hce ⊢
    have hP : va_P D vwCl [(o, .inl (cO, 1, .inr (.inl f0)))] H := hP
    have hD : va_D A [(o, .inl (cO, 1, .inr (.inl f0)))] := hD
    refine vx_catch (name := "java/lang/IndexOutOfBoundsException") (E := "java/lang/IndexOutOfBoundsException") hown [] ⟨0, 9, 12, 21⟩ [] (by rw [htab]; rfl) (fun z hz => by cases hz) (by decide) (by decide) (hts (.classLink RL 21 "java/lang/IndexOutOfBoundsException") (by decide +kernel)) (ev_u hE (w := .castable "java/lang/IndexOutOfBoundsException" "java/lang/IndexOutOfBoundsException") (by decide +kernel) rfl) hce hcv hcl ?_
    refine lv_astore_n (lv' := [(3, .ref q9), (0, .ref h), (1, .int p0), (2, .ref o)]) hx hb dL_sisters_12 rfl hl (by decide) rfl (fun ls hl => ?_)
    refine lv_iconst (v := 1) hx hb dL_sisters_13 (by decide) ?_
    refine vx_ret ?_
    exact W.iret (v := 1) hx hb hr (fun t ht hW => ⟨⟨1, f0, rfl, rfl, ⟨by rw [ht]; exact hP.sub [0] rfl, va_K.moved hW.alike (hK.sub [0] rfl), hD.sub [0] (by decide) rfl⟩⟩, hS.F ht⟩) hS.2.2 dL_sisters_14
  · exact hw.elim
-- L_isSister
def v_L_isSister (p0 : Int32) (p1 : Int32) : Int32 := 1
set_option maxHeartbeats 4000000 in
set_option maxRecDepth 100000 in
theorem c_L_isSister (l : Launch) (hst : l.stackTraces = false) (D : va_G) (e : Nat) (h : Nat) (l1 : Nat) (l2 : Nat) (l3 : Nat) (l4 : Nat) (l5 : Nat) (l6 : Nat) (l7 : Nat) (l8 : Nat) (l9 : Nat) (ch : Nat) (co : Nat) (o : Nat) (cO : ClassId) (f0 : Nat → Int64) (p0 : Int32) (p1 : Int32) (sz : Nat) : vx_Met l yL_isSister wsL_isSister ({ frames := 18, cells := 1, slots := 6, locals := 400 }) (va_Pc [.ref h, .int p0, .int p1, .ref o] (cIn D [(cO, .long)] [(h, .inr (16, [.ref l1, .ref l2, .ref l3, .ref l4, .ref l5, .ref l6, .ref l7, .ref l8, .ref l9, .ref ch, .ref co, .int 0, .int 4, .int (-40), .int 20, .int 0, .int 0, .int 100, .int 60, .int 14])), (l4, .inr (5, [.int 0, .ref e, .int 0])), (o, .inl (cO, 1, .inr (.inl f0)))] e sz)) (va_Qi (fun (r : Int32) (f : Nat → Int64) => r = v_L_isSister p0 p1) (fun (f : Nat → Int64) (t : State) => va_P D vwCl [(o, .inl (cO, 1, .inr (.inl f)))] t.heap ∧ va_K D vwCl [(cO, .long)] t ∧ va_D (va_A [(h, .inr (16, [.ref l1, .ref l2, .ref l3, .ref l4, .ref l5, .ref l6, .ref l7, .ref l8, .ref l9, .ref ch, .ref co, .int 0, .int 4, .int (-40), .int 20, .int 0, .int 0, .int 100, .int 60, .int 14])), (l4, .inr (5, [.int 0, .ref e, .int 0])), (o, .inl (cO, 1, .inr (.inl f0)))] sz) [(o, .inl (cO, 1, .inr (.inl f)))]) (va_A [(h, .inr (16, [.ref l1, .ref l2, .ref l3, .ref l4, .ref l5, .ref l6, .ref l7, .ref l8, .ref l9, .ref ch, .ref co, .int 0, .int 4, .int (-40), .int 20, .int 0, .int 0, .int 100, .int 60, .int 14])), (l4, .inr (5, [.int 0, .ref e, .int 0])), (o, .inl (cO, 1, .inr (.inl f0)))] sz)) (vx_X (fun _ : Unit => False) (fun (_ : String) (_ : Unit) (_ : State) => True) (va_A [(h, .inr (16, [.ref l1, .ref l2, .ref l3, .ref l4, .ref l5, .ref l6, .ref l7, .ref l8, .ref l9, .ref ch, .ref co, .int 0, .int 4, .int (-40), .int 20, .int 0, .int 0, .int 100, .int 60, .int 14])), (l4, .inr (5, [.int 0, .ref e, .int 0])), (o, .inl (cO, 1, .inr (.inl f0)))] sz)) 1 6 (va_A [(h, .inr (16, [.ref l1, .ref l2, .ref l3, .ref l4, .ref l5, .ref l6, .ref l7, .ref l8, .ref l9, .ref ch, .ref co, .int 0, .int 4, .int (-40), .int 20, .int 0, .int 0, .int 100, .int 60, .int 14])), (l4, .inr (5, [.int 0, .ref e, .int 0])), (o, .inl (cO, 1, .inr (.inl f0)))] sz) := by
  refine vx_ofWH (cc := cL_isSister) (maxL := 5) (ret := (some .int)) (by decide +kernel) rfl ?_
  intro p e9 s m args below meth c s₁ B hml hv
  obtain ⟨rfl, hsz, hP, hK, hD0, hE0⟩ := hv
  have hx := B.exec
  have hb := B.bytes
  have hr := B.returns
  have hts := atoms_spec (ws := wsL_isSister) B.pre
  have hown : s.vm.findClass RL = some m.cls := findClass_of_methodNamed B.named
  have hlocks := B.notSynchronized
  have htab := vx_table (x := yL_isSister) B (hts (.codeWith yL_isSister cL_isSister 5 (some .int) [(0, 17, 20, 21)]) (show _ ∈ wsL_isSister from List.mem_cons_self))
  subst hsz
  have hD := hD0.self (sz := s.heap.size)
  generalize hAe : va_A [(h, .inr (16, [.ref l1, .ref l2, .ref l3, .ref l4, .ref l5, .ref l6, .ref l7, .ref l8, .ref l9, .ref ch, .ref co, .int 0, .int 4, .int (-40), .int 20, .int 0, .int 0, .int 100, .int 60, .int 14])), (l4, .inr (5, [.int 0, .ref e, .int 0])), (o, .inl (cO, 1, .inr (.inl f0)))] s.heap.size = A at hD hE0 ⊢
  have hA : ∀ q : Nat, s.heap.size ≤ q → A q := fun q h => by rw [← hAe]; exact Or.inr h
  have hS : va_S A s.heap s.heap [] := va_S.rf
  have hE := hE0
  have hP : va_P D vwCl [(h, .inr (16, [.ref l1, .ref l2, .ref l3, .ref l4, .ref l5, .ref l6, .ref l7, .ref l8, .ref l9, .ref ch, .ref co, .int 0, .int 4, .int (-40), .int 20, .int 0, .int 0, .int 100, .int 60, .int 14])), (l4, .inr (5, [.int 0, .ref e, .int 0])), (o, .inl (cO, 1, .inr (.inl f0)))] s.heap := hP
  have hl := lv_entry ([.ref h, .int p0, .int p1, .ref o]) (n := 5) (Nat.le_of_ble_eq_true rfl)
  rw [lg_entry_eq]
  generalize (lg_sl ([.ref h, .int p0, .int p1, .ref o]) ++ List.replicate (5 - (lg_sl ([.ref h, .int p0, .int p1, .ref o])).length) Slot.unset).toArray = ls at hl ⊢
  have hl : lv_has ls 5 [(0, .ref h), (1, .int p0), (2, .int p1), (3, .ref o)] := hl
  refine lv_aload_n hx hb dL_isSister_0 rfl (lv_at hl 3 rfl) ?_
  refine lv_iconst (v := 0) hx hb dL_isSister_1 (by decide) ?_
  refine lv_aload_n hx hb dL_isSister_2 rfl (lv_at hl 0 rfl) ?_
  refine lv_iload_n hx hb dL_isSister_3 rfl (lv_at hl 1 rfl) ?_
  refine lv_iload_n hx hb dL_isSister_4 rfl (lv_at hl 2 rfl) ?_
  have hFc := va_free (wc := [(h, .inr (16, [.ref l1, .ref l2, .ref l3, .ref l4, .ref l5, .ref l6, .ref l7, .ref l8, .ref l9, .ref ch, .ref co, .int 0, .int 4, .int (-40), .int 20, .int 0, .int 0, .int 100, .int 60, .int 14])), (l4, .inr (5, [.int 0, .ref e, .int 0]))]) hD hS hA [0, 1] rfl
  refine vx_callv (vx_runV (As := [.int p0, .int p1]) (rest := [.int 0, .ref o]) ⟨hx, hb, hml, hown, hts⟩ (c_X10_isSister l hst D e h l1 l2 l3 l4 l5 l6 l7 l8 l9 ch co p0 p1 s.heap.size) (cwV 2 hts gL_isSister_X10_isSister rfl rfl rfl (by decide +kernel) ⟨Nat.le_of_ble_eq_true rfl, Nat.le_of_ble_eq_true rfl⟩) ⟨cIn_blind, va_recv hK hP (ci := 16) (q0 := 0) rfl rfl, cIn_go hK hP hD hE hS hA [0, 1] rfl rfl (by decide) [] rfl⟩ rfl rfl hl.1 rfl (lv_room (Nat.le_of_ble_eq_true rfl)) dL_isSister_5 ⟨Nat.le_of_ble_eq_true rfl, Nat.le_of_ble_eq_true rfl⟩) hS (fun q _ h => hFc q h) hFc (fun q _ h => hFc q h) (fun E ce q9 u t H1 locs ht hvm hpx hB hz1 hk1 hS hce hcv hcl => ?_) (fun u t H1 locs ht hvm hw hB hz1 hk1 hS => ?_)
  · obtain ⟨rfl, hw⟩ := hB
    obtain ⟨hP, hD⟩ := cIn_rest (wc := [(h, .inr (16, [.ref l1, .ref l2, .ref l3, .ref l4, .ref l5, .ref l6, .ref l7, .ref l8, .ref l9, .ref ch, .ref co, .int 0, .int 4, .int (-40), .int 20, .int 0, .int 0, .int 100, .int 60, .int 14])), (l4, .inr (5, [.int 0, .ref e, .int 0]))]) (wr := [(o, .inl (cO, 1, .inr (.inl f0)))]) hP hD [0, 1] [2] rfl rfl (by decide) (by decide) hk1 hFc
    generalize H1 = H at hP hS hce ⊢
    have hP : va_P D vwCl [(o, .inl (cO, 1, .inr (.inl f0)))] H := hP
    have hD : va_D A [(o, .inl (cO, 1, .inr (.inl f0)))] := hD
    refine vx_catch (name := "java/lang/IndexOutOfBoundsException") (E := "java/lang/IndexOutOfBoundsException") hown [] ⟨0, 17, 20, 21⟩ [] (by rw [htab]; rfl) (fun z hz => by cases hz) (by decide) (by decide) (hts (.classLink RL 21 "java/lang/IndexOutOfBoundsException") (by decide +kernel)) (ev_u hE (w := .castable "java/lang/IndexOutOfBoundsException" "java/lang/IndexOutOfBoundsException") (by decide +kernel) rfl) hce hcv hcl ?_
    refine lv_astore (lv' := [(4, .ref q9), (0, .ref h), (1, .int p0), (2, .int p1), (3, .ref o)]) hx hb dL_isSister_20 hl (by decide) rfl (fun ls hl => ?_)
    refine lv_iconst (v := 1) hx hb dL_isSister_22 (by decide) ?_
    refine vx_ret ?_
    exact W.iret (v := 1) hx hb hr (fun t ht hW => ⟨⟨1, f0, rfl, rfl, ⟨by rw [ht]; exact hP.sub [0] rfl, va_K.moved hW.alike (hK.sub [0] rfl), hD.sub [0] (by decide) rfl⟩⟩, hS.F ht⟩) hS.2.2 dL_isSister_23
  · exact hw.elim
-- L_readyShare
def v_L_readyShare : Int32 := 1
set_option maxHeartbeats 4000000 in
set_option maxRecDepth 100000 in
theorem c_L_readyShare (l : Launch) (hst : l.stackTraces = false) (D : va_G) (e : Nat) (h : Nat) (l1 : Nat) (l2 : Nat) (l3 : Nat) (l4 : Nat) (l5 : Nat) (l6 : Nat) (l7 : Nat) (l8 : Nat) (l9 : Nat) (ch : Nat) (co : Nat) (o : Nat) (cO : ClassId) (f0 : Nat → UInt64) (sz : Nat) : vx_Met l yL_readyShare wsL_readyShare ({ frames := 14, cells := 1, slots := 6, locals := 280 }) (va_Pc [.ref h, .ref o] (cIn D [(cO, .double)] [(h, .inr (16, [.ref l1, .ref l2, .ref l3, .ref l4, .ref l5, .ref l6, .ref l7, .ref l8, .ref l9, .ref ch, .ref co, .int 0, .int 4, .int (-40), .int 20, .int 0, .int 0, .int 100, .int 60, .int 14])), (l4, .inr (5, [.int 0, .ref e, .int 0])), (o, .inl (cO, 1, .inr (.inr (.inr (.inl f0)))))] e sz)) (va_Qi (fun (r : Int32) (f : Nat → UInt64) => r = v_L_readyShare) (fun (f : Nat → UInt64) (t : State) => va_P D vwCl [(o, .inl (cO, 1, .inr (.inr (.inr (.inl f)))))] t.heap ∧ va_K D vwCl [(cO, .double)] t ∧ va_D (va_A [(h, .inr (16, [.ref l1, .ref l2, .ref l3, .ref l4, .ref l5, .ref l6, .ref l7, .ref l8, .ref l9, .ref ch, .ref co, .int 0, .int 4, .int (-40), .int 20, .int 0, .int 0, .int 100, .int 60, .int 14])), (l4, .inr (5, [.int 0, .ref e, .int 0])), (o, .inl (cO, 1, .inr (.inr (.inr (.inl f0)))))] sz) [(o, .inl (cO, 1, .inr (.inr (.inr (.inl f)))))]) (va_A [(h, .inr (16, [.ref l1, .ref l2, .ref l3, .ref l4, .ref l5, .ref l6, .ref l7, .ref l8, .ref l9, .ref ch, .ref co, .int 0, .int 4, .int (-40), .int 20, .int 0, .int 0, .int 100, .int 60, .int 14])), (l4, .inr (5, [.int 0, .ref e, .int 0])), (o, .inl (cO, 1, .inr (.inr (.inr (.inl f0)))))] sz)) (vx_X (fun _ : Unit => False) (fun (_ : String) (_ : Unit) (_ : State) => True) (va_A [(h, .inr (16, [.ref l1, .ref l2, .ref l3, .ref l4, .ref l5, .ref l6, .ref l7, .ref l8, .ref l9, .ref ch, .ref co, .int 0, .int 4, .int (-40), .int 20, .int 0, .int 0, .int 100, .int 60, .int 14])), (l4, .inr (5, [.int 0, .ref e, .int 0])), (o, .inl (cO, 1, .inr (.inr (.inr (.inl f0)))))] sz)) 1 6 (va_A [(h, .inr (16, [.ref l1, .ref l2, .ref l3, .ref l4, .ref l5, .ref l6, .ref l7, .ref l8, .ref l9, .ref ch, .ref co, .int 0, .int 4, .int (-40), .int 20, .int 0, .int 0, .int 100, .int 60, .int 14])), (l4, .inr (5, [.int 0, .ref e, .int 0])), (o, .inl (cO, 1, .inr (.inr (.inr (.inl f0)))))] sz) := by
  refine vx_ofWH (cc := cL_readyShare) (maxL := 3) (ret := (some .int)) (by decide +kernel) rfl ?_
  intro p e9 s m args below meth c s₁ B hml hv
  obtain ⟨rfl, hsz, hP, hK, hD0, hE0⟩ := hv
  have hx := B.exec
  have hb := B.bytes
  have hr := B.returns
  have hts := atoms_spec (ws := wsL_readyShare) B.pre
  have hown : s.vm.findClass RL = some m.cls := findClass_of_methodNamed B.named
  have hlocks := B.notSynchronized
  have htab := vx_table (x := yL_readyShare) B (hts (.codeWith yL_readyShare cL_readyShare 3 (some .int) [(0, 8, 11, 172)]) (show _ ∈ wsL_readyShare from List.mem_cons_self))
  subst hsz
  have hD := hD0.self (sz := s.heap.size)
  generalize hAe : va_A [(h, .inr (16, [.ref l1, .ref l2, .ref l3, .ref l4, .ref l5, .ref l6, .ref l7, .ref l8, .ref l9, .ref ch, .ref co, .int 0, .int 4, .int (-40), .int 20, .int 0, .int 0, .int 100, .int 60, .int 14])), (l4, .inr (5, [.int 0, .ref e, .int 0])), (o, .inl (cO, 1, .inr (.inr (.inr (.inl f0)))))] s.heap.size = A at hD hE0 ⊢
  have hA : ∀ q : Nat, s.heap.size ≤ q → A q := fun q h => by rw [← hAe]; exact Or.inr h
  have hS : va_S A s.heap s.heap [] := va_S.rf
  have hE := hE0
  have hP : va_P D vwCl [(h, .inr (16, [.ref l1, .ref l2, .ref l3, .ref l4, .ref l5, .ref l6, .ref l7, .ref l8, .ref l9, .ref ch, .ref co, .int 0, .int 4, .int (-40), .int 20, .int 0, .int 0, .int 100, .int 60, .int 14])), (l4, .inr (5, [.int 0, .ref e, .int 0])), (o, .inl (cO, 1, .inr (.inr (.inr (.inl f0)))))] s.heap := hP
  have hl := lv_entry ([.ref h, .ref o]) (n := 3) (Nat.le_of_ble_eq_true rfl)
  rw [lg_entry_eq]
  generalize (lg_sl ([.ref h, .ref o]) ++ List.replicate (3 - (lg_sl ([.ref h, .ref o])).length) Slot.unset).toArray = ls at hl ⊢
  have hl : lv_has ls 3 [(0, .ref h), (1, .ref o)] := hl
  refine lv_aload_n hx hb dL_readyShare_0 rfl (lv_at hl 1 rfl) ?_
  refine lv_iconst (v := 0) hx hb dL_readyShare_1 (by decide) ?_
  refine lv_aload_n hx hb dL_readyShare_2 rfl (lv_at hl 0 rfl) ?_
  have hFc := va_free (wc := [(h, .inr (16, [.ref l1, .ref l2, .ref l3, .ref l4, .ref l5, .ref l6, .ref l7, .ref l8, .ref l9, .ref ch, .ref co, .int 0, .int 4, .int (-40), .int 20, .int 0, .int 0, .int 100, .int 60, .int 14])), (l4, .inr (5, [.int 0, .ref e, .int 0]))]) hD hS hA [0, 1] rfl
  refine vx_callv (vx_runV (As := []) (rest := [.int 0, .ref o]) ⟨hx, hb, hml, hown, hts⟩ (c_X10_readyShare l hst D e h l1 l2 l3 l4 l5 l6 l7 l8 l9 ch co s.heap.size) (cwV 0 hts gL_readyShare_X10_readyShare rfl rfl rfl (by decide +kernel) ⟨Nat.le_of_ble_eq_true rfl, Nat.le_of_ble_eq_true rfl⟩) ⟨cIn_blind, va_recv hK hP (ci := 16) (q0 := 0) rfl rfl, cIn_go hK hP hD hE hS hA [0, 1] rfl rfl (by decide) [] rfl⟩ rfl rfl hl.1 rfl (lv_room (Nat.le_of_ble_eq_true rfl)) dL_readyShare_3 ⟨Nat.le_of_ble_eq_true rfl, Nat.le_of_ble_eq_true rfl⟩) hS (fun q _ h => hFc q h) hFc (fun q _ h => hFc q h) (fun E ce q9 u t H1 locs ht hvm hpx hB hz1 hk1 hS hce hcv hcl => ?_) (fun u t H1 locs ht hvm hw hB hz1 hk1 hS => ?_)
  · obtain ⟨rfl, hw⟩ := hB
    obtain ⟨hP, hD⟩ := cIn_rest (wc := [(h, .inr (16, [.ref l1, .ref l2, .ref l3, .ref l4, .ref l5, .ref l6, .ref l7, .ref l8, .ref l9, .ref ch, .ref co, .int 0, .int 4, .int (-40), .int 20, .int 0, .int 0, .int 100, .int 60, .int 14])), (l4, .inr (5, [.int 0, .ref e, .int 0]))]) (wr := [(o, .inl (cO, 1, .inr (.inr (.inr (.inl f0)))))]) hP hD [0, 1] [2] rfl rfl (by decide) (by decide) hk1 hFc
    generalize H1 = H at hP hS hce ⊢
    have hP : va_P D vwCl [(o, .inl (cO, 1, .inr (.inr (.inr (.inl f0)))))] H := hP
    have hD : va_D A [(o, .inl (cO, 1, .inr (.inr (.inr (.inl f0)))))] := hD
    refine vx_catch (name := "java/lang/ArithmeticException") (E := "java/lang/ArithmeticException") hown [] ⟨0, 8, 11, 172⟩ [] (by rw [htab]; rfl) (fun z hz => by cases hz) (by decide) (by decide) (hts (.classLink RL 172 "java/lang/ArithmeticException") (by decide +kernel)) (ev_u hE (w := .castable "java/lang/ArithmeticException" "java/lang/ArithmeticException") (by decide +kernel) rfl) hce hcv hcl ?_
    refine lv_astore_n (lv' := [(2, .ref q9), (0, .ref h), (1, .ref o)]) hx hb dL_readyShare_11 rfl hl (by decide) rfl (fun ls hl => ?_)
    refine lv_iconst (v := 1) hx hb dL_readyShare_12 (by decide) ?_
    refine vx_ret ?_
    exact W.iret (v := 1) hx hb hr (fun t ht hW => ⟨⟨1, f0, rfl, rfl, ⟨by rw [ht]; exact hP.sub [0] rfl, va_K.moved hW.alike (hK.sub [0] rfl), hD.sub [0] (by decide) rfl⟩⟩, hS.F ht⟩) hS.2.2 dL_readyShare_13
  · exact hw.elim
-- L_meanHold
def v_L_meanHold : Int32 := 1
set_option maxHeartbeats 4000000 in
set_option maxRecDepth 100000 in
theorem c_L_meanHold (l : Launch) (hst : l.stackTraces = false) (D : va_G) (e : Nat) (h : Nat) (l1 : Nat) (l2 : Nat) (l3 : Nat) (l4 : Nat) (l5 : Nat) (l6 : Nat) (l7 : Nat) (l8 : Nat) (l9 : Nat) (ch : Nat) (co : Nat) (o : Nat) (cO : ClassId) (f0 : Nat → UInt64) (sz : Nat) : vx_Met l yL_meanHold wsL_meanHold ({ frames := 14, cells := 1, slots := 6, locals := 280 }) (va_Pc [.ref h, .ref o] (cIn D [(cO, .double)] [(h, .inr (16, [.ref l1, .ref l2, .ref l3, .ref l4, .ref l5, .ref l6, .ref l7, .ref l8, .ref l9, .ref ch, .ref co, .int 0, .int 4, .int (-40), .int 20, .int 0, .int 0, .int 100, .int 60, .int 14])), (l4, .inr (5, [.int 0, .ref e, .int 0])), (o, .inl (cO, 1, .inr (.inr (.inr (.inl f0)))))] e sz)) (va_Qi (fun (r : Int32) (f : Nat → UInt64) => r = v_L_meanHold) (fun (f : Nat → UInt64) (t : State) => va_P D vwCl [(o, .inl (cO, 1, .inr (.inr (.inr (.inl f)))))] t.heap ∧ va_K D vwCl [(cO, .double)] t ∧ va_D (va_A [(h, .inr (16, [.ref l1, .ref l2, .ref l3, .ref l4, .ref l5, .ref l6, .ref l7, .ref l8, .ref l9, .ref ch, .ref co, .int 0, .int 4, .int (-40), .int 20, .int 0, .int 0, .int 100, .int 60, .int 14])), (l4, .inr (5, [.int 0, .ref e, .int 0])), (o, .inl (cO, 1, .inr (.inr (.inr (.inl f0)))))] sz) [(o, .inl (cO, 1, .inr (.inr (.inr (.inl f)))))]) (va_A [(h, .inr (16, [.ref l1, .ref l2, .ref l3, .ref l4, .ref l5, .ref l6, .ref l7, .ref l8, .ref l9, .ref ch, .ref co, .int 0, .int 4, .int (-40), .int 20, .int 0, .int 0, .int 100, .int 60, .int 14])), (l4, .inr (5, [.int 0, .ref e, .int 0])), (o, .inl (cO, 1, .inr (.inr (.inr (.inl f0)))))] sz)) (vx_X (fun _ : Unit => False) (fun (_ : String) (_ : Unit) (_ : State) => True) (va_A [(h, .inr (16, [.ref l1, .ref l2, .ref l3, .ref l4, .ref l5, .ref l6, .ref l7, .ref l8, .ref l9, .ref ch, .ref co, .int 0, .int 4, .int (-40), .int 20, .int 0, .int 0, .int 100, .int 60, .int 14])), (l4, .inr (5, [.int 0, .ref e, .int 0])), (o, .inl (cO, 1, .inr (.inr (.inr (.inl f0)))))] sz)) 1 6 (va_A [(h, .inr (16, [.ref l1, .ref l2, .ref l3, .ref l4, .ref l5, .ref l6, .ref l7, .ref l8, .ref l9, .ref ch, .ref co, .int 0, .int 4, .int (-40), .int 20, .int 0, .int 0, .int 100, .int 60, .int 14])), (l4, .inr (5, [.int 0, .ref e, .int 0])), (o, .inl (cO, 1, .inr (.inr (.inr (.inl f0)))))] sz) := by
  refine vx_ofWH (cc := cL_meanHold) (maxL := 3) (ret := (some .int)) (by decide +kernel) rfl ?_
  intro p e9 s m args below meth c s₁ B hml hv
  obtain ⟨rfl, hsz, hP, hK, hD0, hE0⟩ := hv
  have hx := B.exec
  have hb := B.bytes
  have hr := B.returns
  have hts := atoms_spec (ws := wsL_meanHold) B.pre
  have hown : s.vm.findClass RL = some m.cls := findClass_of_methodNamed B.named
  have hlocks := B.notSynchronized
  have htab := vx_table (x := yL_meanHold) B (hts (.codeWith yL_meanHold cL_meanHold 3 (some .int) [(0, 7, 10, 172)]) (show _ ∈ wsL_meanHold from List.mem_cons_self))
  subst hsz
  have hD := hD0.self (sz := s.heap.size)
  generalize hAe : va_A [(h, .inr (16, [.ref l1, .ref l2, .ref l3, .ref l4, .ref l5, .ref l6, .ref l7, .ref l8, .ref l9, .ref ch, .ref co, .int 0, .int 4, .int (-40), .int 20, .int 0, .int 0, .int 100, .int 60, .int 14])), (l4, .inr (5, [.int 0, .ref e, .int 0])), (o, .inl (cO, 1, .inr (.inr (.inr (.inl f0)))))] s.heap.size = A at hD hE0 ⊢
  have hA : ∀ q : Nat, s.heap.size ≤ q → A q := fun q h => by rw [← hAe]; exact Or.inr h
  have hS : va_S A s.heap s.heap [] := va_S.rf
  have hE := hE0
  have hP : va_P D vwCl [(h, .inr (16, [.ref l1, .ref l2, .ref l3, .ref l4, .ref l5, .ref l6, .ref l7, .ref l8, .ref l9, .ref ch, .ref co, .int 0, .int 4, .int (-40), .int 20, .int 0, .int 0, .int 100, .int 60, .int 14])), (l4, .inr (5, [.int 0, .ref e, .int 0])), (o, .inl (cO, 1, .inr (.inr (.inr (.inl f0)))))] s.heap := hP
  have hl := lv_entry ([.ref h, .ref o]) (n := 3) (Nat.le_of_ble_eq_true rfl)
  rw [lg_entry_eq]
  generalize (lg_sl ([.ref h, .ref o]) ++ List.replicate (3 - (lg_sl ([.ref h, .ref o])).length) Slot.unset).toArray = ls at hl ⊢
  have hl : lv_has ls 3 [(0, .ref h), (1, .ref o)] := hl
  refine lv_aload_n hx hb dL_meanHold_0 rfl (lv_at hl 1 rfl) ?_
  refine lv_iconst (v := 0) hx hb dL_meanHold_1 (by decide) ?_
  refine lv_aload_n hx hb dL_meanHold_2 rfl (lv_at hl 0 rfl) ?_
  have hFc := va_free (wc := [(h, .inr (16, [.ref l1, .ref l2, .ref l3, .ref l4, .ref l5, .ref l6, .ref l7, .ref l8, .ref l9, .ref ch, .ref co, .int 0, .int 4, .int (-40), .int 20, .int 0, .int 0, .int 100, .int 60, .int 14])), (l4, .inr (5, [.int 0, .ref e, .int 0]))]) hD hS hA [0, 1] rfl
  refine vx_callv (vx_runV (As := []) (rest := [.int 0, .ref o]) ⟨hx, hb, hml, hown, hts⟩ (c_X10_meanHold l hst D e h l1 l2 l3 l4 l5 l6 l7 l8 l9 ch co s.heap.size) (cwV 0 hts gL_meanHold_X10_meanHold rfl rfl rfl (by decide +kernel) ⟨Nat.le_of_ble_eq_true rfl, Nat.le_of_ble_eq_true rfl⟩) ⟨cIn_blind, va_recv hK hP (ci := 16) (q0 := 0) rfl rfl, cIn_go hK hP hD hE hS hA [0, 1] rfl rfl (by decide) [] rfl⟩ rfl rfl hl.1 rfl (lv_room (Nat.le_of_ble_eq_true rfl)) dL_meanHold_3 ⟨Nat.le_of_ble_eq_true rfl, Nat.le_of_ble_eq_true rfl⟩) hS (fun q _ h => hFc q h) hFc (fun q _ h => hFc q h) (fun E ce q9 u t H1 locs ht hvm hpx hB hz1 hk1 hS hce hcv hcl => ?_) (fun u t H1 locs ht hvm hw hB hz1 hk1 hS => ?_)
  · obtain ⟨rfl, hw⟩ := hB
    obtain ⟨hP, hD⟩ := cIn_rest (wc := [(h, .inr (16, [.ref l1, .ref l2, .ref l3, .ref l4, .ref l5, .ref l6, .ref l7, .ref l8, .ref l9, .ref ch, .ref co, .int 0, .int 4, .int (-40), .int 20, .int 0, .int 0, .int 100, .int 60, .int 14])), (l4, .inr (5, [.int 0, .ref e, .int 0]))]) (wr := [(o, .inl (cO, 1, .inr (.inr (.inr (.inl f0)))))]) hP hD [0, 1] [2] rfl rfl (by decide) (by decide) hk1 hFc
    generalize H1 = H at hP hS hce ⊢
    have hP : va_P D vwCl [(o, .inl (cO, 1, .inr (.inr (.inr (.inl f0)))))] H := hP
    have hD : va_D A [(o, .inl (cO, 1, .inr (.inr (.inr (.inl f0)))))] := hD
    refine vx_catch (name := "java/lang/ArithmeticException") (E := "java/lang/ArithmeticException") hown [] ⟨0, 7, 10, 172⟩ [] (by rw [htab]; rfl) (fun z hz => by cases hz) (by decide) (by decide) (hts (.classLink RL 172 "java/lang/ArithmeticException") (by decide +kernel)) (ev_u hE (w := .castable "java/lang/ArithmeticException" "java/lang/ArithmeticException") (by decide +kernel) rfl) hce hcv hcl ?_
    refine lv_astore_n (lv' := [(2, .ref q9), (0, .ref h), (1, .ref o)]) hx hb dL_meanHold_10 rfl hl (by decide) rfl (fun ls hl => ?_)
    refine lv_iconst (v := 1) hx hb dL_meanHold_11 (by decide) ?_
    refine vx_ret ?_
    exact W.iret (v := 1) hx hb hr (fun t ht hW => ⟨⟨1, f0, rfl, rfl, ⟨by rw [ht]; exact hP.sub [0] rfl, va_K.moved hW.alike (hK.sub [0] rfl), hD.sub [0] (by decide) rfl⟩⟩, hS.F ht⟩) hS.2.2 dL_meanHold_12
  · exact hw.elim
