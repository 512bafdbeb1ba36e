/-! the six contracts whose printed word lists hold the two false words, over lists without them -/
theorem en_goodM {c : Cond} {big X Y T : List Cond} (h : GoodIn big X) (hs : ∀ w ∈ Y, w ∈ X ∨ w ∈ T) (hn : Y.all en_no = true) (hT : T.all goodWord = true) : GoodIn (c :: (big.filter en_no ++ T)) Y := fun w hw =>
  (hs w hw).elim (fun h1 => ⟨List.mem_cons_of_mem _ (List.mem_append_left _ (List.mem_filter.mpr ⟨(h w h1).1, List.all_eq_true.mp hn w hw⟩)), (h w h1).2⟩) (fun h1 => ⟨List.mem_cons_of_mem _ (List.mem_append_right _ h1), good_of_word (List.all_eq_true.mp hT w h1)⟩)
theorem en_inV {own C : String} {idx : Nat} {y : MethodName} {X Y T : List Cond} (h : ∀ w ∈ Y, w ∈ X ∨ w ∈ T) : ∀ w ∈ wsV own idx C y Y, w ∈ wsV own idx C y X ∨ w ∈ T := fun w hw =>
  (List.mem_append.mp hw).elim (fun h1 => Or.inl (List.mem_append_left _ h1)) (fun h1 => (h w h1).imp (fun h2 => List.mem_append_right _ h2) id)
theorem en_inS {own : String} {idx : Nat} {y : MethodName} {X Y T : List Cond} (h : ∀ w ∈ Y, w ∈ X ∨ w ∈ T) : ∀ w ∈ va_wsS own idx y Y, w ∈ va_wsS own idx y X ∨ w ∈ T := fun w hw =>
  (List.mem_append.mp hw).elim (fun h1 => Or.inl (List.mem_append_left _ h1)) (fun h1 => (h w h1).imp (fun h2 => List.mem_append_right _ h2) id)
theorem en_sub {c : Cond} {X T : List Cond} (hc : c ∈ X) : ∀ w ∈ c :: (X.filter en_no ++ T), w ∈ X ∨ w ∈ T := fun w h =>
  (List.mem_cons.mp h).elim (fun e => Or.inl (e ▸ hc)) (fun h1 => (List.mem_append.mp h1).elim (fun h2 => Or.inl (List.mem_filter.mp h2).1) Or.inr)
def wsN_X10_traced : List Cond := .code yX10_traced cX10_traced 6 (some .int) :: (wsX10_traced.filter en_no ++ [])
set_option maxRecDepth 100000 in
theorem gN_X10_traced : GoodIn wsN_X10_traced (wsV RX10 230 RX10 yX10_cellNumbered wsX10_cellNumbered) := en_goodM (c := .code yX10_traced cX10_traced 6 (some .int)) (T := []) gX10_traced_X10_cellNumbered (fun _ h => Or.inl h) (by decide +kernel) rfl
set_option maxHeartbeats 4000000 in
set_option maxRecDepth 100000 in
theorem cN_X10_traced (l : Launch) (hst : l.stackTraces = false) (D : va_G) (e : Nat) (h : Nat) (l1 : Nat) (l2 : Nat) (l3 : Nat) (l4 : Nat) (l5 : Nat) (l6 : Nat) (l7 : Nat) (l8 : Nat) (l9 : Nat) (ch : Nat) (co : Nat) (p0 : Int32) (p1 : Int32) (p2 : Int32) (sz : Nat) : vx_Met l yX10_traced wsN_X10_traced ({ frames := 14, cells := 1, slots := 6, locals := 280 }) (va_Pc [.ref h, .int p0, .int p1, .int p2] (cIn D [] [(h, .inr (16, [.ref l1, .ref l2, .ref l3, .ref l4, .ref l5, .ref l6, .ref l7, .ref l8, .ref l9, .ref ch, .ref co, .int 0, .int 4, .int (-40), .int 20, .int 0, .int 0, .int 100, .int 60, .int 14])), (l4, .inr (5, [.int 0, .ref e, .int 0]))] e sz)) (va_Qv (fun (_ : Unit) => False) (fun (_ : Unit) (_ : State) => True) (va_A [(h, .inr (16, [.ref l1, .ref l2, .ref l3, .ref l4, .ref l5, .ref l6, .ref l7, .ref l8, .ref l9, .ref ch, .ref co, .int 0, .int 4, .int (-40), .int 20, .int 0, .int 0, .int 100, .int 60, .int 14])), (l4, .inr (5, [.int 0, .ref e, .int 0]))] sz)) (vx_X (fun _ : Unit => True) (fun (E : String) (_ : Unit) (_ : State) => (E = "java/lang/IndexOutOfBoundsException" ∧ t_X10_traced p0 p1 p2 = 3)) (va_A [(h, .inr (16, [.ref l1, .ref l2, .ref l3, .ref l4, .ref l5, .ref l6, .ref l7, .ref l8, .ref l9, .ref ch, .ref co, .int 0, .int 4, .int (-40), .int 20, .int 0, .int 0, .int 100, .int 60, .int 14])), (l4, .inr (5, [.int 0, .ref e, .int 0]))] sz)) 1 6 (va_A [(h, .inr (16, [.ref l1, .ref l2, .ref l3, .ref l4, .ref l5, .ref l6, .ref l7, .ref l8, .ref l9, .ref ch, .ref co, .int 0, .int 4, .int (-40), .int 20, .int 0, .int 0, .int 100, .int 60, .int 14])), (l4, .inr (5, [.int 0, .ref e, .int 0]))] sz) := by
  refine vx_ofW (cc := cX10_traced) (maxL := 6) (ret := (some .int)) (by decide +kernel) rfl ?_
  intro p e9 s m args below meth c s₁ B hml htb hv
  obtain ⟨rfl, hsz, hP, hK, hD0, hE0⟩ := hv
  have hx := B.exec
  have hb := B.bytes
  have hr := B.returns
  have hts := atoms_spec (ws := wsN_X10_traced) B.pre
  have hown : s.vm.findClass RX10 = some m.cls := findClass_of_methodNamed B.named
  have hlocks := B.notSynchronized
  subst hsz
  have hD := hD0.self (sz := s.heap.size)
  generalize hAe : va_A [(h, .inr (16, [.ref l1, .ref l2, .ref l3, .ref l4, .ref l5, .ref l6, .ref l7, .ref l8, .ref l9, .ref ch, .ref co, .int 0, .int 4, .int (-40), .int 20, .int 0, .int 0, .int 100, .int 60, .int 14])), (l4, .inr (5, [.int 0, .ref e, .int 0]))] s.heap.size = A at hD hE0 ⊢
  have hA : ∀ q : Nat, s.heap.size ≤ q → A q := fun q h => by rw [← hAe]; exact Or.inr h
  have hS : va_S A s.heap s.heap [] := va_S.rf
  have hE := hE0
  have hP : va_P D vwCl [(h, .inr (16, [.ref l1, .ref l2, .ref l3, .ref l4, .ref l5, .ref l6, .ref l7, .ref l8, .ref l9, .ref ch, .ref co, .int 0, .int 4, .int (-40), .int 20, .int 0, .int 0, .int 100, .int 60, .int 14])), (l4, .inr (5, [.int 0, .ref e, .int 0]))] s.heap := hP
  have hl := lv_entry ([.ref h, .int p0, .int p1, .int p2]) (n := 6) (Nat.le_of_ble_eq_true rfl)
  rw [lg_entry_eq]
  generalize (lg_sl ([.ref h, .int p0, .int p1, .int p2]) ++ List.replicate (6 - (lg_sl ([.ref h, .int p0, .int p1, .int p2])).length) Slot.unset).toArray = ls at hl ⊢
  have hl : lv_has ls 6 [(0, .ref h), (1, .int p0), (2, .int p1), (3, .int p2)] := hl
  refine lv_aload_n hx hb dX10_traced_0 rfl (lv_at hl 0 rfl) ?_
  refine lv_iload_n hx hb dX10_traced_1 rfl (lv_at hl 1 rfl) ?_
  have hFc := va_free (wc := [(h, .inr (16, [.ref l1, .ref l2, .ref l3, .ref l4, .ref l5, .ref l6, .ref l7, .ref l8, .ref l9, .ref ch, .ref co, .int 0, .int 4, .int (-40), .int 20, .int 0, .int 0, .int 100, .int 60, .int 14])), (l4, .inr (5, [.int 0, .ref e, .int 0]))]) hD hS hA [0, 1] rfl
  refine vx_callv (vx_runV (As := [.int p0]) (rest := []) ⟨hx, hb, hml, hown, hts⟩ (c_X10_cellNumbered l hst D e h l1 l2 l3 l4 l5 l6 l7 l8 l9 ch co p0 s.heap.size) (cwV 1 hts gN_X10_traced rfl rfl rfl (by decide +kernel) ⟨Nat.le_of_ble_eq_true rfl, Nat.le_of_ble_eq_true rfl⟩) ⟨cIn_blind, va_recv hK hP (ci := 16) (q0 := 0) rfl rfl, cIn_go hK hP hD hE hS hA [0, 1] rfl rfl (by decide) [] rfl⟩ rfl rfl hl.1 rfl (lv_room (Nat.le_of_ble_eq_true rfl)) dX10_traced_2 ⟨Nat.le_of_ble_eq_true rfl, Nat.le_of_ble_eq_true rfl⟩) hS (fun q _ h => hFc q h) hFc (fun q _ h => hFc q h) (fun E ce q9 u t H1 locs ht hvm hpx hB hz1 hk1 hS hce hcv hcl => ?_) (fun u t H1 locs ht hvm hw hB hz1 hk1 hS => ?_)
  · obtain ⟨rfl, hw⟩ := hB
    exact vx_out (fun x hx => (htb x hx).elim) hlocks hce hcv hcl (fun t9 h9 hal => ⟨(), trivial, ⟨rfl, rfl⟩, hS.F h9⟩) hS.2.2 (Nat.le_of_ble_eq_true rfl) (Nat.le_of_ble_eq_true rfl)
  · exact hw.elim
def wsN_X10_cellOf : List Cond := .code yX10_cellOf cX10_cellOf 4 (some .int) :: (wsX10_cellOf.filter en_no ++ [])
set_option maxRecDepth 100000 in
theorem gN_X10_cellOf : GoodIn wsN_X10_cellOf (wsV RX10 376 RX10 yX10_moduleNumbered wsX10_moduleNumbered) := en_goodM (c := .code yX10_cellOf cX10_cellOf 4 (some .int)) (T := []) gX10_cellOf_X10_moduleNumbered (fun _ h => Or.inl h) (by decide +kernel) rfl
set_option maxHeartbeats 4000000 in
set_option maxRecDepth 100000 in
theorem cN_X10_cellOf (l : Launch) (hst : l.stackTraces = false) (D : va_G) (e : Nat) (h : Nat) (l1 : Nat) (l2 : Nat) (l3 : Nat) (l4 : Nat) (l5 : Nat) (l6 : Nat) (l7 : Nat) (l8 : Nat) (l9 : Nat) (ch : Nat) (co : Nat) (p0 : Int32) (p1 : Int32) (sz : Nat) : vx_Met l yX10_cellOf wsN_X10_cellOf ({ frames := 14, cells := 1, slots := 6, locals := 280 }) (va_Pc [.ref h, .int p0, .int p1] (cIn D [] [(h, .inr (16, [.ref l1, .ref l2, .ref l3, .ref l4, .ref l5, .ref l6, .ref l7, .ref l8, .ref l9, .ref ch, .ref co, .int 0, .int 4, .int (-40), .int 20, .int 0, .int 0, .int 100, .int 60, .int 14])), (l6, .inr (5, [.int 0, .ref e, .int 0]))] e sz)) (va_Qv (fun (_ : Unit) => False) (fun (_ : Unit) (_ : State) => True) (va_A [(h, .inr (16, [.ref l1, .ref l2, .ref l3, .ref l4, .ref l5, .ref l6, .ref l7, .ref l8, .ref l9, .ref ch, .ref co, .int 0, .int 4, .int (-40), .int 20, .int 0, .int 0, .int 100, .int 60, .int 14])), (l6, .inr (5, [.int 0, .ref e, .int 0]))] sz)) (vx_X (fun _ : Unit => True) (fun (E : String) (_ : Unit) (_ : State) => (E = "java/lang/IndexOutOfBoundsException" ∧ t_X10_cellOf p0 p1 = 3)) (va_A [(h, .inr (16, [.ref l1, .ref l2, .ref l3, .ref l4, .ref l5, .ref l6, .ref l7, .ref l8, .ref l9, .ref ch, .ref co, .int 0, .int 4, .int (-40), .int 20, .int 0, .int 0, .int 100, .int 60, .int 14])), (l6, .inr (5, [.int 0, .ref e, .int 0]))] sz)) 1 6 (va_A [(h, .inr (16, [.ref l1, .ref l2, .ref l3, .ref l4, .ref l5, .ref l6, .ref l7, .ref l8, .ref l9, .ref ch, .ref co, .int 0, .int 4, .int (-40), .int 20, .int 0, .int 0, .int 100, .int 60, .int 14])), (l6, .inr (5, [.int 0, .ref e, .int 0]))] sz) := by
  refine vx_ofW (cc := cX10_cellOf) (maxL := 4) (ret := (some .int)) (by decide +kernel) rfl ?_
  intro p e9 s m args below meth c s₁ B hml htb hv
  obtain ⟨rfl, hsz, hP, hK, hD0, hE0⟩ := hv
  have hx := B.exec
  have hb := B.bytes
  have hr := B.returns
  have hts := atoms_spec (ws := wsN_X10_cellOf) B.pre
  have hown : s.vm.findClass RX10 = some m.cls := findClass_of_methodNamed B.named
  have hlocks := B.notSynchronized
  subst hsz
  have hD := hD0.self (sz := s.heap.size)
  generalize hAe : va_A [(h, .inr (16, [.ref l1, .ref l2, .ref l3, .ref l4, .ref l5, .ref l6, .ref l7, .ref l8, .ref l9, .ref ch, .ref co, .int 0, .int 4, .int (-40), .int 20, .int 0, .int 0, .int 100, .int 60, .int 14])), (l6, .inr (5, [.int 0, .ref e, .int 0]))] s.heap.size = A at hD hE0 ⊢
  have hA : ∀ q : Nat, s.heap.size ≤ q → A q := fun q h => by rw [← hAe]; exact Or.inr h
  have hS : va_S A s.heap s.heap [] := va_S.rf
  have hE := hE0
  have hP : va_P D vwCl [(h, .inr (16, [.ref l1, .ref l2, .ref l3, .ref l4, .ref l5, .ref l6, .ref l7, .ref l8, .ref l9, .ref ch, .ref co, .int 0, .int 4, .int (-40), .int 20, .int 0, .int 0, .int 100, .int 60, .int 14])), (l6, .inr (5, [.int 0, .ref e, .int 0]))] s.heap := hP
  have hl := lv_entry ([.ref h, .int p0, .int p1]) (n := 4) (Nat.le_of_ble_eq_true rfl)
  rw [lg_entry_eq]
  generalize (lg_sl ([.ref h, .int p0, .int p1]) ++ List.replicate (4 - (lg_sl ([.ref h, .int p0, .int p1])).length) Slot.unset).toArray = ls at hl ⊢
  have hl : lv_has ls 4 [(0, .ref h), (1, .int p0), (2, .int p1)] := hl
  refine lv_aload_n hx hb dX10_cellOf_0 rfl (lv_at hl 0 rfl) ?_
  refine lv_iload_n hx hb dX10_cellOf_1 rfl (lv_at hl 1 rfl) ?_
  have hFc := va_free (wc := [(h, .inr (16, [.ref l1, .ref l2, .ref l3, .ref l4, .ref l5, .ref l6, .ref l7, .ref l8, .ref l9, .ref ch, .ref co, .int 0, .int 4, .int (-40), .int 20, .int 0, .int 0, .int 100, .int 60, .int 14])), (l6, .inr (5, [.int 0, .ref e, .int 0]))]) hD hS hA [0, 1] rfl
  refine vx_callv (vx_runV (As := [.int p0]) (rest := []) ⟨hx, hb, hml, hown, hts⟩ (c_X10_moduleNumbered l hst D e h l1 l2 l3 l4 l5 l6 l7 l8 l9 ch co p0 s.heap.size) (cwV 1 hts gN_X10_cellOf rfl rfl rfl (by decide +kernel) ⟨Nat.le_of_ble_eq_true rfl, Nat.le_of_ble_eq_true rfl⟩) ⟨cIn_blind, va_recv hK hP (ci := 16) (q0 := 0) rfl rfl, cIn_go hK hP hD hE hS hA [0, 1] rfl rfl (by decide) [] rfl⟩ rfl rfl hl.1 rfl (lv_room (Nat.le_of_ble_eq_true rfl)) dX10_cellOf_2 ⟨Nat.le_of_ble_eq_true rfl, Nat.le_of_ble_eq_true rfl⟩) hS (fun q _ h => hFc q h) hFc (fun q _ h => hFc q h) (fun E ce q9 u t H1 locs ht hvm hpx hB hz1 hk1 hS hce hcv hcl => ?_) (fun u t H1 locs ht hvm hw hB hz1 hk1 hS => ?_)
  · obtain ⟨rfl, hw⟩ := hB
    exact vx_out (fun x hx => (htb x hx).elim) hlocks hce hcv hcl (fun t9 h9 hal => ⟨(), trivial, ⟨rfl, rfl⟩, hS.F h9⟩) hS.2.2 (Nat.le_of_ble_eq_true rfl) (Nat.le_of_ble_eq_true rfl)
  · exact hw.elim
def wsN_L_traced : List Cond := .codeWith yL_traced cL_traced 6 (some .int) [(0, 12, 15, 21), (0, 12, 19, 79)] :: (wsL_traced.filter en_no ++ [])
set_option maxRecDepth 100000 in
theorem gN_L_traced : GoodIn wsN_L_traced (wsV RL 75 RX10 yX10_traced wsN_X10_traced) := en_goodM (c := .codeWith yL_traced cL_traced 6 (some .int) [(0, 12, 15, 21), (0, 12, 19, 79)]) (T := []) gL_traced_X10_traced (en_inV (Y := wsN_X10_traced) (en_sub (T := []) (show _ ∈ wsX10_traced from List.mem_cons_self))) (by decide +kernel) rfl
set_option maxHeartbeats 4000000 in
set_option maxRecDepth 100000 in
theorem cN_L_traced (l : Launch) (hst : l.stackTraces = false) (D : va_G) (e : Nat) (h : Nat) (l1 : Nat) (l2 : Nat) (l3 : Nat) (l4 : Nat) (l5 : Nat) (l6 : Nat) (l7 : Nat) (l8 : Nat) (l9 : Nat) (ch : Nat) (co : Nat) (o : Nat) (cO : ClassId) (f0 : Nat → Int64) (p0 : Int32) (p1 : Int32) (p2 : Int32) (sz : Nat) : vx_Met l yL_traced wsN_L_traced ({ frames := 18, cells := 1, slots := 6, locals := 400 }) (va_Pc [.ref h, .int p0, .int p1, .int p2, .ref o] (cIn D [(cO, .long)] [(h, .inr (16, [.ref l1, .ref l2, .ref l3, .ref l4, .ref l5, .ref l6, .ref l7, .ref l8, .ref l9, .ref ch, .ref co, .int 0, .int 4, .int (-40), .int 20, .int 0, .int 0, .int 100, .int 60, .int 14])), (l4, .inr (5, [.int 0, .ref e, .int 0])), (o, .inl (cO, 1, .inr (.inl f0)))] e sz)) (va_Qi (fun (r : Int32) (f : Nat → Int64) => r = v_L_traced p0 p1 p2) (fun (f : Nat → Int64) (t : State) => va_P D vwCl [(o, .inl (cO, 1, .inr (.inl f)))] t.heap ∧ va_K D vwCl [(cO, .long)] t ∧ va_D (va_A [(h, .inr (16, [.ref l1, .ref l2, .ref l3, .ref l4, .ref l5, .ref l6, .ref l7, .ref l8, .ref l9, .ref ch, .ref co, .int 0, .int 4, .int (-40), .int 20, .int 0, .int 0, .int 100, .int 60, .int 14])), (l4, .inr (5, [.int 0, .ref e, .int 0])), (o, .inl (cO, 1, .inr (.inl f0)))] sz) [(o, .inl (cO, 1, .inr (.inl f)))]) (va_A [(h, .inr (16, [.ref l1, .ref l2, .ref l3, .ref l4, .ref l5, .ref l6, .ref l7, .ref l8, .ref l9, .ref ch, .ref co, .int 0, .int 4, .int (-40), .int 20, .int 0, .int 0, .int 100, .int 60, .int 14])), (l4, .inr (5, [.int 0, .ref e, .int 0])), (o, .inl (cO, 1, .inr (.inl f0)))] sz)) (vx_X (fun _ : Unit => False) (fun (_ : String) (_ : Unit) (_ : State) => True) (va_A [(h, .inr (16, [.ref l1, .ref l2, .ref l3, .ref l4, .ref l5, .ref l6, .ref l7, .ref l8, .ref l9, .ref ch, .ref co, .int 0, .int 4, .int (-40), .int 20, .int 0, .int 0, .int 100, .int 60, .int 14])), (l4, .inr (5, [.int 0, .ref e, .int 0])), (o, .inl (cO, 1, .inr (.inl f0)))] sz)) 1 6 (va_A [(h, .inr (16, [.ref l1, .ref l2, .ref l3, .ref l4, .ref l5, .ref l6, .ref l7, .ref l8, .ref l9, .ref ch, .ref co, .int 0, .int 4, .int (-40), .int 20, .int 0, .int 0, .int 100, .int 60, .int 14])), (l4, .inr (5, [.int 0, .ref e, .int 0])), (o, .inl (cO, 1, .inr (.inl f0)))] sz) := by
  refine vx_ofWH (cc := cL_traced) (maxL := 6) (ret := (some .int)) (by decide +kernel) rfl ?_
  intro p e9 s m args below meth c s₁ B hml hv
  obtain ⟨rfl, hsz, hP, hK, hD0, hE0⟩ := hv
  have hx := B.exec
  have hb := B.bytes
  have hr := B.returns
  have hts := atoms_spec (ws := wsN_L_traced) B.pre
  have hown : s.vm.findClass RL = some m.cls := findClass_of_methodNamed B.named
  have hlocks := B.notSynchronized
  have htab := vx_table (x := yL_traced) B (hts (.codeWith yL_traced cL_traced 6 (some .int) [(0, 12, 15, 21), (0, 12, 19, 79)]) (show _ ∈ wsN_L_traced from List.mem_cons_self))
  subst hsz
  have hD := hD0.self (sz := s.heap.size)
  generalize hAe : va_A [(h, .inr (16, [.ref l1, .ref l2, .ref l3, .ref l4, .ref l5, .ref l6, .ref l7, .ref l8, .ref l9, .ref ch, .ref co, .int 0, .int 4, .int (-40), .int 20, .int 0, .int 0, .int 100, .int 60, .int 14])), (l4, .inr (5, [.int 0, .ref e, .int 0])), (o, .inl (cO, 1, .inr (.inl f0)))] s.heap.size = A at hD hE0 ⊢
  have hA : ∀ q : Nat, s.heap.size ≤ q → A q := fun q h => by rw [← hAe]; exact Or.inr h
  have hS : va_S A s.heap s.heap [] := va_S.rf
  have hE := hE0
  have hP : va_P D vwCl [(h, .inr (16, [.ref l1, .ref l2, .ref l3, .ref l4, .ref l5, .ref l6, .ref l7, .ref l8, .ref l9, .ref ch, .ref co, .int 0, .int 4, .int (-40), .int 20, .int 0, .int 0, .int 100, .int 60, .int 14])), (l4, .inr (5, [.int 0, .ref e, .int 0])), (o, .inl (cO, 1, .inr (.inl f0)))] s.heap := hP
  have hl := lv_entry ([.ref h, .int p0, .int p1, .int p2, .ref o]) (n := 6) (Nat.le_of_ble_eq_true rfl)
  rw [lg_entry_eq]
  generalize (lg_sl ([.ref h, .int p0, .int p1, .int p2, .ref o]) ++ List.replicate (6 - (lg_sl ([.ref h, .int p0, .int p1, .int p2, .ref o])).length) Slot.unset).toArray = ls at hl ⊢
  have hl : lv_has ls 6 [(0, .ref h), (1, .int p0), (2, .int p1), (3, .int p2), (4, .ref o)] := hl
  refine lv_aload hx hb dL_traced_0 (lv_at hl 4 rfl) ?_
  refine lv_iconst (v := 0) hx hb dL_traced_2 (by decide) ?_
  refine lv_aload_n hx hb dL_traced_3 rfl (lv_at hl 0 rfl) ?_
  refine lv_iload_n hx hb dL_traced_4 rfl (lv_at hl 1 rfl) ?_
  refine lv_iload_n hx hb dL_traced_5 rfl (lv_at hl 2 rfl) ?_
  refine lv_iload_n hx hb dL_traced_6 rfl (lv_at hl 3 rfl) ?_
  have hFc := va_free (wc := [(h, .inr (16, [.ref l1, .ref l2, .ref l3, .ref l4, .ref l5, .ref l6, .ref l7, .ref l8, .ref l9, .ref ch, .ref co, .int 0, .int 4, .int (-40), .int 20, .int 0, .int 0, .int 100, .int 60, .int 14])), (l4, .inr (5, [.int 0, .ref e, .int 0]))]) hD hS hA [0, 1] rfl
  refine vx_callv (vx_runV (As := [.int p0, .int p1, .int p2]) (rest := [.int 0, .ref o]) ⟨hx, hb, hml, hown, hts⟩ (cN_X10_traced l hst D e h l1 l2 l3 l4 l5 l6 l7 l8 l9 ch co p0 p1 p2 s.heap.size) (cwV 3 hts gN_L_traced rfl rfl rfl (by decide +kernel) ⟨Nat.le_of_ble_eq_true rfl, Nat.le_of_ble_eq_true rfl⟩) ⟨cIn_blind, va_recv hK hP (ci := 16) (q0 := 0) rfl rfl, cIn_go hK hP hD hE hS hA [0, 1] rfl rfl (by decide) [] rfl⟩ rfl rfl hl.1 rfl (lv_room (Nat.le_of_ble_eq_true rfl)) dL_traced_7 ⟨Nat.le_of_ble_eq_true rfl, Nat.le_of_ble_eq_true rfl⟩) hS (fun q _ h => hFc q h) hFc (fun q _ h => hFc q h) (fun E ce q9 u t H1 locs ht hvm hpx hB hz1 hk1 hS hce hcv hcl => ?_) (fun u t H1 locs ht hvm hw hB hz1 hk1 hS => ?_)
  · obtain ⟨rfl, hw⟩ := hB
    obtain ⟨hP, hD⟩ := cIn_rest (wc := [(h, .inr (16, [.ref l1, .ref l2, .ref l3, .ref l4, .ref l5, .ref l6, .ref l7, .ref l8, .ref l9, .ref ch, .ref co, .int 0, .int 4, .int (-40), .int 20, .int 0, .int 0, .int 100, .int 60, .int 14])), (l4, .inr (5, [.int 0, .ref e, .int 0]))]) (wr := [(o, .inl (cO, 1, .inr (.inl f0)))]) hP hD [0, 1] [2] rfl rfl (by decide) (by decide) hk1 hFc
    generalize H1 = H at hP hS hce ⊢
    have hP : va_P D vwCl [(o, .inl (cO, 1, .inr (.inl f0)))] H := hP
    have hD : va_D A [(o, .inl (cO, 1, .inr (.inl f0)))] := hD
    refine vx_catch (name := "java/lang/IndexOutOfBoundsException") (E := "java/lang/IndexOutOfBoundsException") hown [] ⟨0, 12, 15, 21⟩ [⟨0, 12, 19, 79⟩] (by rw [htab]; rfl) (fun z hz => by cases hz) (by decide) (by decide) (hts (.classLink RL 21 "java/lang/IndexOutOfBoundsException") (by decide +kernel)) (ev_u hE (w := .castable "java/lang/IndexOutOfBoundsException" "java/lang/IndexOutOfBoundsException") (by decide +kernel) rfl) hce hcv hcl ?_
    refine lv_astore (lv' := [(5, .ref q9), (0, .ref h), (1, .int p0), (2, .int p1), (3, .int p2), (4, .ref o)]) hx hb dL_traced_15 hl (by decide) rfl (fun ls hl => ?_)
    refine lv_iconst (v := 1) hx hb dL_traced_17 (by decide) ?_
    refine vx_ret ?_
    exact W.iret (v := 1) hx hb hr (fun t ht hW => ⟨⟨1, f0, rfl, rfl, ⟨by rw [ht]; exact hP.sub [0] rfl, va_K.moved hW.alike (hK.sub [0] rfl), hD.sub [0] (by decide) rfl⟩⟩, hS.F ht⟩) hS.2.2 dL_traced_18
  · exact hw.elim
def wsN_L_cellOf : List Cond := .codeWith yL_cellOf cL_cellOf 5 (some .int) [(0, 10, 13, 21), (0, 10, 17, 79)] :: (wsL_cellOf.filter en_no ++ [])
set_option maxRecDepth 100000 in
theorem gN_L_cellOf : GoodIn wsN_L_cellOf (wsV RL 112 RX10 yX10_cellOf wsN_X10_cellOf) := en_goodM (c := .codeWith yL_cellOf cL_cellOf 5 (some .int) [(0, 10, 13, 21), (0, 10, 17, 79)]) (T := []) gL_cellOf_X10_cellOf (en_inV (Y := wsN_X10_cellOf) (en_sub (T := []) (show _ ∈ wsX10_cellOf from List.mem_cons_self))) (by decide +kernel) rfl
set_option maxHeartbeats 4000000 in
set_option maxRecDepth 100000 in
theorem cN_L_cellOf (l : Launch) (hst : l.stackTraces = false) (D : va_G) (e : Nat) (h : Nat) (l1 : Nat) (l2 : Nat) (l3 : Nat) (l4 : Nat) (l5 : Nat) (l6 : Nat) (l7 : Nat) (l8 : Nat) (l9 : Nat) (ch : Nat) (co : Nat) (o : Nat) (cO : ClassId) (f0 : Nat → Int64) (p0 : Int32) (p1 : Int32) (sz : Nat) : vx_Met l yL_cellOf wsN_L_cellOf ({ frames := 18, cells := 1, slots := 6, locals := 400 }) (va_Pc [.ref h, .int p0, .int p1, .ref o] (cIn D [(cO, .long)] [(h, .inr (16, [.ref l1, .ref l2, .ref l3, .ref l4, .ref l5, .ref l6, .ref l7, .ref l8, .ref l9, .ref ch, .ref co, .int 0, .int 4, .int (-40), .int 20, .int 0, .int 0, .int 100, .int 60, .int 14])), (l6, .inr (5, [.int 0, .ref e, .int 0])), (o, .inl (cO, 1, .inr (.inl f0)))] e sz)) (va_Qi (fun (r : Int32) (f : Nat → Int64) => r = v_L_cellOf p0 p1) (fun (f : Nat → Int64) (t : State) => va_P D vwCl [(o, .inl (cO, 1, .inr (.inl f)))] t.heap ∧ va_K D vwCl [(cO, .long)] t ∧ va_D (va_A [(h, .inr (16, [.ref l1, .ref l2, .ref l3, .ref l4, .ref l5, .ref l6, .ref l7, .ref l8, .ref l9, .ref ch, .ref co, .int 0, .int 4, .int (-40), .int 20, .int 0, .int 0, .int 100, .int 60, .int 14])), (l6, .inr (5, [.int 0, .ref e, .int 0])), (o, .inl (cO, 1, .inr (.inl f0)))] sz) [(o, .inl (cO, 1, .inr (.inl f)))]) (va_A [(h, .inr (16, [.ref l1, .ref l2, .ref l3, .ref l4, .ref l5, .ref l6, .ref l7, .ref l8, .ref l9, .ref ch, .ref co, .int 0, .int 4, .int (-40), .int 20, .int 0, .int 0, .int 100, .int 60, .int 14])), (l6, .inr (5, [.int 0, .ref e, .int 0])), (o, .inl (cO, 1, .inr (.inl f0)))] sz)) (vx_X (fun _ : Unit => False) (fun (_ : String) (_ : Unit) (_ : State) => True) (va_A [(h, .inr (16, [.ref l1, .ref l2, .ref l3, .ref l4, .ref l5, .ref l6, .ref l7, .ref l8, .ref l9, .ref ch, .ref co, .int 0, .int 4, .int (-40), .int 20, .int 0, .int 0, .int 100, .int 60, .int 14])), (l6, .inr (5, [.int 0, .ref e, .int 0])), (o, .inl (cO, 1, .inr (.inl f0)))] sz)) 1 6 (va_A [(h, .inr (16, [.ref l1, .ref l2, .ref l3, .ref l4, .ref l5, .ref l6, .ref l7, .ref l8, .ref l9, .ref ch, .ref co, .int 0, .int 4, .int (-40), .int 20, .int 0, .int 0, .int 100, .int 60, .int 14])), (l6, .inr (5, [.int 0, .ref e, .int 0])), (o, .inl (cO, 1, .inr (.inl f0)))] sz) := by
  refine vx_ofWH (cc := cL_cellOf) (maxL := 5) (ret := (some .int)) (by decide +kernel) rfl ?_
  intro p e9 s m args below meth c s₁ B hml hv
  obtain ⟨rfl, hsz, hP, hK, hD0, hE0⟩ := hv
  have hx := B.exec
  have hb := B.bytes
  have hr := B.returns
  have hts := atoms_spec (ws := wsN_L_cellOf) B.pre
  have hown : s.vm.findClass RL = some m.cls := findClass_of_methodNamed B.named
  have hlocks := B.notSynchronized
  have htab := vx_table (x := yL_cellOf) B (hts (.codeWith yL_cellOf cL_cellOf 5 (some .int) [(0, 10, 13, 21), (0, 10, 17, 79)]) (show _ ∈ wsN_L_cellOf from List.mem_cons_self))
  subst hsz
  have hD := hD0.self (sz := s.heap.size)
  generalize hAe : va_A [(h, .inr (16, [.ref l1, .ref l2, .ref l3, .ref l4, .ref l5, .ref l6, .ref l7, .ref l8, .ref l9, .ref ch, .ref co, .int 0, .int 4, .int (-40), .int 20, .int 0, .int 0, .int 100, .int 60, .int 14])), (l6, .inr (5, [.int 0, .ref e, .int 0])), (o, .inl (cO, 1, .inr (.inl f0)))] s.heap.size = A at hD hE0 ⊢
  have hA : ∀ q : Nat, s.heap.size ≤ q → A q := fun q h => by rw [← hAe]; exact Or.inr h
  have hS : va_S A s.heap s.heap [] := va_S.rf
  have hE := hE0
  have hP : va_P D vwCl [(h, .inr (16, [.ref l1, .ref l2, .ref l3, .ref l4, .ref l5, .ref l6, .ref l7, .ref l8, .ref l9, .ref ch, .ref co, .int 0, .int 4, .int (-40), .int 20, .int 0, .int 0, .int 100, .int 60, .int 14])), (l6, .inr (5, [.int 0, .ref e, .int 0])), (o, .inl (cO, 1, .inr (.inl f0)))] s.heap := hP
  have hl := lv_entry ([.ref h, .int p0, .int p1, .ref o]) (n := 5) (Nat.le_of_ble_eq_true rfl)
  rw [lg_entry_eq]
  generalize (lg_sl ([.ref h, .int p0, .int p1, .ref o]) ++ List.replicate (5 - (lg_sl ([.ref h, .int p0, .int p1, .ref o])).length) Slot.unset).toArray = ls at hl ⊢
  have hl : lv_has ls 5 [(0, .ref h), (1, .int p0), (2, .int p1), (3, .ref o)] := hl
  refine lv_aload_n hx hb dL_cellOf_0 rfl (lv_at hl 3 rfl) ?_
  refine lv_iconst (v := 0) hx hb dL_cellOf_1 (by decide) ?_
  refine lv_aload_n hx hb dL_cellOf_2 rfl (lv_at hl 0 rfl) ?_
  refine lv_iload_n hx hb dL_cellOf_3 rfl (lv_at hl 1 rfl) ?_
  refine lv_iload_n hx hb dL_cellOf_4 rfl (lv_at hl 2 rfl) ?_
  have hFc := va_free (wc := [(h, .inr (16, [.ref l1, .ref l2, .ref l3, .ref l4, .ref l5, .ref l6, .ref l7, .ref l8, .ref l9, .ref ch, .ref co, .int 0, .int 4, .int (-40), .int 20, .int 0, .int 0, .int 100, .int 60, .int 14])), (l6, .inr (5, [.int 0, .ref e, .int 0]))]) hD hS hA [0, 1] rfl
  refine vx_callv (vx_runV (As := [.int p0, .int p1]) (rest := [.int 0, .ref o]) ⟨hx, hb, hml, hown, hts⟩ (cN_X10_cellOf l hst D e h l1 l2 l3 l4 l5 l6 l7 l8 l9 ch co p0 p1 s.heap.size) (cwV 2 hts gN_L_cellOf rfl rfl rfl (by decide +kernel) ⟨Nat.le_of_ble_eq_true rfl, Nat.le_of_ble_eq_true rfl⟩) ⟨cIn_blind, va_recv hK hP (ci := 16) (q0 := 0) rfl rfl, cIn_go hK hP hD hE hS hA [0, 1] rfl rfl (by decide) [] rfl⟩ rfl rfl hl.1 rfl (lv_room (Nat.le_of_ble_eq_true rfl)) dL_cellOf_5 ⟨Nat.le_of_ble_eq_true rfl, Nat.le_of_ble_eq_true rfl⟩) hS (fun q _ h => hFc q h) hFc (fun q _ h => hFc q h) (fun E ce q9 u t H1 locs ht hvm hpx hB hz1 hk1 hS hce hcv hcl => ?_) (fun u t H1 locs ht hvm hw hB hz1 hk1 hS => ?_)
  · obtain ⟨rfl, hw⟩ := hB
    obtain ⟨hP, hD⟩ := cIn_rest (wc := [(h, .inr (16, [.ref l1, .ref l2, .ref l3, .ref l4, .ref l5, .ref l6, .ref l7, .ref l8, .ref l9, .ref ch, .ref co, .int 0, .int 4, .int (-40), .int 20, .int 0, .int 0, .int 100, .int 60, .int 14])), (l6, .inr (5, [.int 0, .ref e, .int 0]))]) (wr := [(o, .inl (cO, 1, .inr (.inl f0)))]) hP hD [0, 1] [2] rfl rfl (by decide) (by decide) hk1 hFc
    generalize H1 = H at hP hS hce ⊢
    have hP : va_P D vwCl [(o, .inl (cO, 1, .inr (.inl f0)))] H := hP
    have hD : va_D A [(o, .inl (cO, 1, .inr (.inl f0)))] := hD
    refine vx_catch (name := "java/lang/IndexOutOfBoundsException") (E := "java/lang/IndexOutOfBoundsException") hown [] ⟨0, 10, 13, 21⟩ [⟨0, 10, 17, 79⟩] (by rw [htab]; rfl) (fun z hz => by cases hz) (by decide) (by decide) (hts (.classLink RL 21 "java/lang/IndexOutOfBoundsException") (by decide +kernel)) (ev_u hE (w := .castable "java/lang/IndexOutOfBoundsException" "java/lang/IndexOutOfBoundsException") (by decide +kernel) rfl) hce hcv hcl ?_
    refine lv_astore (lv' := [(4, .ref q9), (0, .ref h), (1, .int p0), (2, .int p1), (3, .ref o)]) hx hb dL_cellOf_13 hl (by decide) rfl (fun ls hl => ?_)
    refine lv_iconst (v := 1) hx hb dL_cellOf_15 (by decide) ?_
    refine vx_ret ?_
    exact W.iret (v := 1) hx hb hr (fun t ht hW => ⟨⟨1, f0, rfl, rfl, ⟨by rw [ht]; exact hP.sub [0] rfl, va_K.moved hW.alike (hK.sub [0] rfl), hD.sub [0] (by decide) rfl⟩⟩, hS.F ht⟩) hS.2.2 dL_cellOf_16
  · exact hw.elim
def wsN_X10_module : List Cond := .code yX10_module cX10_module 6 (some .int) :: (wsX10_module.filter en_no ++ [en_t1, en_t2])
set_option maxRecDepth 100000 in
theorem gN_X10_module_X10_requireWithin : GoodIn wsN_X10_module (va_wsS RX10 86 yX10_requireWithin wsX10_requireWithin) := en_goodM (c := .code yX10_module cX10_module 6 (some .int)) (T := [en_t1, en_t2]) gX10_module_X10_requireWithin (fun _ h => Or.inl h) (by decide +kernel) (by decide +kernel)
set_option maxRecDepth 100000 in
theorem gN_X10_module_X10_listCandidates : GoodIn wsN_X10_module (wsV RX10 359 RX10 yX10_listCandidates wsX10_listCandidates) := en_goodM (c := .code yX10_module cX10_module 6 (some .int)) (T := [en_t1, en_t2]) gX10_module_X10_listCandidates (fun _ h => Or.inl h) (by decide +kernel) (by decide +kernel)
set_option maxRecDepth 100000 in
theorem gN_X10_module_Jx4a65c_size_8abf5 : GoodIn wsN_X10_module (wsV RX10 90 RJx4a65c yJx4a65c_size_8abf5 wsJx4a65c_size_8abf5) := en_goodM (c := .code yX10_module cX10_module 6 (some .int)) (T := [en_t1, en_t2]) gX10_module_Jx4a65c_size_8abf5 (fun _ h => Or.inl h) (by decide +kernel) (by decide +kernel)
set_option maxRecDepth 100000 in
theorem iwN_RX10_module : ∀ w ∈ u_ws RX10 TX10 20, w ∈ wsN_X10_module := fun w h => List.mem_cons_of_mem _ (List.mem_append_left _ (List.mem_filter.mpr ⟨iw_RX10_wsX10_module w h, List.all_eq_true.mp (show (u_ws RX10 TX10 20).all en_no = true from by decide +kernel) w h⟩))
set_option maxRecDepth 100000 in
theorem hmN_module_282 : ∀ w ∈ (enL.filter vx_no).filter goodWord, w ∈ wsN_X10_module := by decide +kernel
set_option maxRecDepth 100000 in
theorem hnN_282 : ∀ w ∈ (enL.filter vx_no).filter (fun w => !goodWord w), w ∈ ([.castable "java/util/NoSuchElementException" "java/util/NoSuchElementException", .declares (Bundle.initS "java/lang/RuntimeException"), .declares (Bundle.initS "java/lang/Exception"), .declares (Bundle.initS "java/lang/Throwable")] : List Cond) := by decide +kernel
set_option maxRecDepth 100000 in
theorem hmN_module_83 : ∀ w ∈ (vx_atS RX10 83 "java/lang/IllegalArgumentException" ["java/lang/RuntimeException", "java/lang/Exception"]).filter goodWord, w ∈ wsN_X10_module := by decide +kernel
set_option maxHeartbeats 4000000 in
set_option maxRecDepth 100000 in
theorem cN_X10_module (l : Launch) (hst : l.stackTraces = false) (D : va_G) (e : Nat) (h : Nat) (l1 : Nat) (l2 : Nat) (l3 : Nat) (l4 : Nat) (l5 : Nat) (l6 : Nat) (l7 : Nat) (l8 : Nat) (l9 : Nat) (ch : Nat) (co : Nat) (p0 : Int32) (p1 : Int32) (sz : Nat) : vx_Met l yX10_module wsN_X10_module ({ frames := 16, cells := 3, slots := 20, locals := 340 }) (va_Pc [.ref h, .int p0, .int p1] (cIn D [] [(h, .inr (16, [.ref l1, .ref l2, .ref l3, .ref l4, .ref l5, .ref l6, .ref l7, .ref l8, .ref l9, .ref ch, .ref co, .int 0, .int 4, .int (-40), .int 20, .int 0, .int 0, .int 100, .int 60, .int 14])), (l4, .inr (5, [.int 0, .ref e, .int 0])), (l9, .inr (5, [.int 0, .ref e, .int 0]))] e sz)) (va_Qv (fun (_ : Unit) => False) (fun (_ : Unit) (_ : State) => True) (va_A [(h, .inr (16, [.ref l1, .ref l2, .ref l3, .ref l4, .ref l5, .ref l6, .ref l7, .ref l8, .ref l9, .ref ch, .ref co, .int 0, .int 4, .int (-40), .int 20, .int 0, .int 0, .int 100, .int 60, .int 14])), (l4, .inr (5, [.int 0, .ref e, .int 0])), (l9, .inr (5, [.int 0, .ref e, .int 0]))] sz)) (vx_X (fun _ : Unit => True) (fun (E : String) (_ : Unit) (_ : State) => (E = "java/lang/IllegalArgumentException" ∧ t_X10_module p0 p1 = 1) ∨ (E = "java/util/NoSuchElementException" ∧ t_X10_module p0 p1 = 5)) (va_A [(h, .inr (16, [.ref l1, .ref l2, .ref l3, .ref l4, .ref l5, .ref l6, .ref l7, .ref l8, .ref l9, .ref ch, .ref co, .int 0, .int 4, .int (-40), .int 20, .int 0, .int 0, .int 100, .int 60, .int 14])), (l4, .inr (5, [.int 0, .ref e, .int 0])), (l9, .inr (5, [.int 0, .ref e, .int 0]))] sz)) 3 20 (va_A [(h, .inr (16, [.ref l1, .ref l2, .ref l3, .ref l4, .ref l5, .ref l6, .ref l7, .ref l8, .ref l9, .ref ch, .ref co, .int 0, .int 4, .int (-40), .int 20, .int 0, .int 0, .int 100, .int 60, .int 14])), (l4, .inr (5, [.int 0, .ref e, .int 0])), (l9, .inr (5, [.int 0, .ref e, .int 0]))] sz) := by
  refine vx_ofW (cc := cX10_module) (maxL := 6) (ret := (some .int)) (by decide +kernel) rfl ?_
  intro p e9 s m args below meth c s₁ B hml htb hv
  obtain ⟨rfl, hsz, hP, hK, hD0, hE0⟩ := hv
  have hx := B.exec
  have hb := B.bytes
  have hr := B.returns
  have hts := atoms_spec (ws := wsN_X10_module) B.pre
  have hown : s.vm.findClass RX10 = some m.cls := findClass_of_methodNamed B.named
  have hlocks := B.notSynchronized
  subst hsz
  have hD := hD0.self (sz := s.heap.size)
  generalize hAe : va_A [(h, .inr (16, [.ref l1, .ref l2, .ref l3, .ref l4, .ref l5, .ref l6, .ref l7, .ref l8, .ref l9, .ref ch, .ref co, .int 0, .int 4, .int (-40), .int 20, .int 0, .int 0, .int 100, .int 60, .int 14])), (l4, .inr (5, [.int 0, .ref e, .int 0])), (l9, .inr (5, [.int 0, .ref e, .int 0]))] s.heap.size = A at hD hE0 ⊢
  have hA : ∀ q : Nat, s.heap.size ≤ q → A q := fun q h => by rw [← hAe]; exact Or.inr h
  have hS : va_S A s.heap s.heap [] := va_S.rf
  have hE := hE0
  have hP : va_P D vwCl [(h, .inr (16, [.ref l1, .ref l2, .ref l3, .ref l4, .ref l5, .ref l6, .ref l7, .ref l8, .ref l9, .ref ch, .ref co, .int 0, .int 4, .int (-40), .int 20, .int 0, .int 0, .int 100, .int 60, .int 14])), (l4, .inr (5, [.int 0, .ref e, .int 0])), (l9, .inr (5, [.int 0, .ref e, .int 0]))] s.heap := hP
  have hl := lv_entry ([.ref h, .int p0, .int p1]) (n := 6) (Nat.le_of_ble_eq_true rfl)
  rw [lg_entry_eq]
  generalize (lg_sl ([.ref h, .int p0, .int p1]) ++ List.replicate (6 - (lg_sl ([.ref h, .int p0, .int p1])).length) Slot.unset).toArray = ls at hl ⊢
  have hl : lv_has ls 6 [(0, .ref h), (1, .int p0), (2, .int p1)] := hl
  refine lv_iload_n hx hb dX10_module_0 rfl (lv_at hl 1 rfl) ?_
  refine lv_iconst (v := 2) hx hb dX10_module_1 (by decide) ?_
  refine lv_bipush (v := 6) hx hb dX10_module_2 (by decide) ?_
  have hFc := va_free (wc := []) hD hS hA [] rfl
  refine vx_callv (vx_runS (As := [.int p0, .int 2, .int 6]) (rest := []) ⟨hx, hb, hml, hown, hts⟩ (c_X10_requireWithin l hst D e p0 2 6 s.heap.size) (va_cwS 3 hts gN_X10_module_X10_requireWithin rfl rfl rfl (by decide +kernel) ⟨Nat.le_of_ble_eq_true rfl, Nat.le_of_ble_eq_true rfl⟩) ⟨cIn_blind, cIn_go hK hP hD hE hS hA [] rfl rfl (by decide) [] rfl⟩ rfl rfl hl.1 rfl (lv_room (Nat.le_of_ble_eq_true rfl)) dX10_module_4 ⟨Nat.le_of_ble_eq_true rfl, Nat.le_of_ble_eq_true rfl⟩) hS (fun q _ h => hFc q h) hFc (fun q _ h => hFc q h) (fun E ce q9 u t H1 locs ht hvm hpx hB hz1 hk1 hS hce hcv hcl => ?_) (fun u t H1 locs ht hvm hw hB hz1 hk1 hS => ?_)
  · obtain ⟨rfl, hw⟩ := hB
    have c_3 : ¬ t_X10_requireWithin p0 2 6 = 0 := by rw [hw]; decide
    exact vx_out (fun x hx => (htb x hx).elim) hlocks hce hcv hcl (fun t9 h9 hal => ⟨(), trivial, Or.inl ⟨rfl, (by unfold t_X10_module; rw [if_neg c_3])⟩, hS.F h9⟩) hS.2.2 (Nat.le_of_ble_eq_true rfl) (Nat.le_of_ble_eq_true rfl)
  · have c_2 : t_X10_requireWithin p0 2 6 = 0 := hw.1
    obtain ⟨hP, hD⟩ := cIn_rest (wc := []) (wr := [(h, .inr (16, [.ref l1, .ref l2, .ref l3, .ref l4, .ref l5, .ref l6, .ref l7, .ref l8, .ref l9, .ref ch, .ref co, .int 0, .int 4, .int (-40), .int 20, .int 0, .int 0, .int 100, .int 60, .int 14])), (l4, .inr (5, [.int 0, .ref e, .int 0])), (l9, .inr (5, [.int 0, .ref e, .int 0]))]) hP hD [] [0, 1, 2] rfl rfl (by decide) (by decide) hk1 hFc
    generalize H1 = H at hP hS ⊢
    have hP : va_P D vwCl [(h, .inr (16, [.ref l1, .ref l2, .ref l3, .ref l4, .ref l5, .ref l6, .ref l7, .ref l8, .ref l9, .ref ch, .ref co, .int 0, .int 4, .int (-40), .int 20, .int 0, .int 0, .int 100, .int 60, .int 14])), (l4, .inr (5, [.int 0, .ref e, .int 0])), (l9, .inr (5, [.int 0, .ref e, .int 0]))] H := hP
    have hD : va_D A [(h, .inr (16, [.ref l1, .ref l2, .ref l3, .ref l4, .ref l5, .ref l6, .ref l7, .ref l8, .ref l9, .ref ch, .ref co, .int 0, .int 4, .int (-40), .int 20, .int 0, .int 0, .int 100, .int 60, .int 14])), (l4, .inr (5, [.int 0, .ref e, .int 0])), (l9, .inr (5, [.int 0, .ref e, .int 0]))] := hD
    refine W.widen (k := 1) (n := 6) (Nat.le_of_ble_eq_true rfl) (Nat.le_of_ble_eq_true rfl) ?_
    refine lv_iload_n hx hb dX10_module_7 rfl (lv_at hl 2 rfl) ?_
    refine lv_bipush (v := 97) hx hb dX10_module_8 (by decide) ?_
    refine lv_icmp_eq (tgt := 30) hx hb dX10_module_10 (by decide) (fun c_4 => ?_) (fun c_4 => ?_)
    · refine lv_aload_n hx hb dX10_module_30 rfl (lv_at hl 0 rfl) ?_
      refine lv_iload_n hx hb dX10_module_31 rfl (lv_at hl 2 rfl) ?_
      have hFc := va_free (wc := [(h, .inr (16, [.ref l1, .ref l2, .ref l3, .ref l4, .ref l5, .ref l6, .ref l7, .ref l8, .ref l9, .ref ch, .ref co, .int 0, .int 4, .int (-40), .int 20, .int 0, .int 0, .int 100, .int 60, .int 14])), (l4, .inr (5, [.int 0, .ref e, .int 0])), (l9, .inr (5, [.int 0, .ref e, .int 0]))]) hD hS hA [0, 1, 2] rfl
      refine va_callv (va_runV (As := [.int p1]) (rest := []) ⟨hx, hb, hml, hown, hts⟩ (c_X10_listCandidates l hst D e h l1 l2 l3 l4 l5 l6 l7 l8 l9 ch co p1 H.size) (cwV 1 hts gN_X10_module_X10_listCandidates rfl rfl rfl (by decide +kernel) ⟨Nat.le_of_ble_eq_true rfl, Nat.le_of_ble_eq_true rfl⟩) ⟨cIn_blind, va_recv hK hP (ci := 16) (q0 := 0) rfl rfl, cIn_go hK hP hD hE hS hA [0, 1, 2] rfl rfl (by decide) [] rfl⟩ rfl rfl hl.1 rfl (lv_room (Nat.le_of_ble_eq_true rfl)) dX10_module_32 ⟨Nat.le_of_ble_eq_true rfl, Nat.le_of_ble_eq_true rfl⟩) hS (fun q _ h => hFc q h) hFc (fun u t H1 locs ht hvm hw hB hz1 hk1 hS => ?_)
      obtain ⟨hP1, hK1, hD1⟩ := hB
      rw [ht] at hP1
      have hK1 := va_K.moved hvm.symm hK1
      obtain ⟨hP, hD⟩ := va_join (wr := []) (w1 := [(h, .inr (16, [.ref l1, .ref l2, .ref l3, .ref l4, .ref l5, .ref l6, .ref l7, .ref l8, .ref l9, .ref ch, .ref co, .int 0, .int 4, .int (-40), .int 20, .int 0, .int 0, .int 100, .int 60, .int 14])), (l4, .inr (5, [.int 0, .ref e, .int 0])), (l9, .inr (5, [.int 1, .ref e, .int 0]))]) hP hD [0, 1, 2] [] rfl rfl (by decide) (by decide) hk1 hFc hP1 hD1
      generalize H1 = H at hP hS ⊢
      have hP : va_P D vwCl [(h, .inr (16, [.ref l1, .ref l2, .ref l3, .ref l4, .ref l5, .ref l6, .ref l7, .ref l8, .ref l9, .ref ch, .ref co, .int 0, .int 4, .int (-40), .int 20, .int 0, .int 0, .int 100, .int 60, .int 14])), (l4, .inr (5, [.int 0, .ref e, .int 0])), (l9, .inr (5, [.int 1, .ref e, .int 0]))] H := hP
      have hD : va_D A [(h, .inr (16, [.ref l1, .ref l2, .ref l3, .ref l4, .ref l5, .ref l6, .ref l7, .ref l8, .ref l9, .ref ch, .ref co, .int 0, .int 4, .int (-40), .int 20, .int 0, .int 0, .int 100, .int 60, .int 14])), (l4, .inr (5, [.int 0, .ref e, .int 0])), (l9, .inr (5, [.int 1, .ref e, .int 0]))] := hD
      refine lv_aload_n hx hb dX10_module_35 rfl (lv_at hl 0 rfl) ?_
      refine va_get (D := D) (ci := 16) (v := .ref l9) (C := RX10) (T := TX10) (N := 20) hx hb hts iwN_RX10_module hown hK hP 0 rfl rfl 8 (by decide) (hts (.fieldLink RX10 37 "CoatLine" "candidates" "Ljava/util/ArrayList;") (by decide +kernel)) (fun _ h9 => h9) rfl dX10_module_36 ?_
      refine vp_callSi (va_Run.run (va_runV (As := []) (rest := []) ⟨hx, hb, hml, hown, hts⟩ (c_Jx4a65c_size_8abf5 l hst D e l9 1 e 0 H.size) (cwV 0 hts gN_X10_module_Jx4a65c_size_8abf5 rfl rfl rfl (by decide +kernel) ⟨Nat.le_of_ble_eq_true rfl, Nat.le_of_ble_eq_true rfl⟩) ⟨cIn_blind, va_recv hK hP (ci := 5) (q0 := 2) rfl rfl, cIn_go hK hP hD hE hS hA [2] rfl rfl (by decide) [] rfl⟩ rfl rfl hl.1 rfl (lv_room (Nat.le_of_ble_eq_true rfl)) dX10_module_39 ⟨Nat.le_of_ble_eq_true rfl, Nat.le_of_ble_eq_true rfl⟩)) (fun r_7 hw => ?_)
      have hw : r_7 = 0 := hw.trans (by first | rfl | decide +kernel)
      subst hw
      refine lv_iload_n hx hb dX10_module_42 rfl (lv_at hl 1 rfl) ?_
      refine lv_icmp_ge (tgt := 57) hx hb dX10_module_43 (by decide) (fun c_8 => absurd c_8 (rw_mod c_2)) (fun c_8 => ?_)
      obtain ⟨sa_9, hs_10⟩ := ev_x hE (q := (363, "not so many cells")) (by decide +kernel)
      exact en_throwSW hx hb hst hown (hts (.classLink RX10 278 "java/util/NoSuchElementException") (by decide +kernel)) (hts (.initialized "java/util/NoSuchElementException") (by decide +kernel)) hs_10 (vx_hat (fun w hw => hts w (hmN_module_282 w hw)) hnN_282 (vx_c (ev_u hE (w := .castable "java/util/NoSuchElementException" _) (by decide +kernel) rfl) (vx_c (ev_u hE (by decide +kernel) rfl) (vx_c (ev_u hE (by decide +kernel) rfl) (vx_c (ev_u hE (by decide +kernel) rfl) vx_n))))) hE.1.1.1 hE.1.1.2 hS (hl.1.trans hml.symm) dX10_module_46 dX10_module_49 dX10_module_50 dX10_module_53 dX10_module_56 (fun x hx => (htb x hx).elim) (Nat.le_of_ble_eq_true rfl) (Nat.le_of_ble_eq_true rfl) (Nat.le_of_ble_eq_true rfl) (Nat.le_of_ble_eq_true rfl) hlocks (fun t hal h1 h2 => ⟨(), trivial, Or.inr (⟨rfl, (by unfold t_X10_module; rw [if_pos c_2, if_pos c_4])⟩), thr_F hS h1 h2⟩) hS.2.2 (Nat.le_of_ble_eq_true rfl) (Nat.le_of_ble_eq_true rfl)
    · refine lv_iload_n hx hb dX10_module_13 rfl (lv_at hl 2 rfl) ?_
      refine lv_bipush (v := 98) hx hb dX10_module_14 (by decide) ?_
      refine lv_icmp_eq (tgt := 30) hx hb dX10_module_16 (by decide) (fun c_11 => ?_) (fun c_11 => ?_)
      · refine lv_aload_n hx hb dX10_module_30 rfl (lv_at hl 0 rfl) ?_
        refine lv_iload_n hx hb dX10_module_31 rfl (lv_at hl 2 rfl) ?_
        have hFc := va_free (wc := [(h, .inr (16, [.ref l1, .ref l2, .ref l3, .ref l4, .ref l5, .ref l6, .ref l7, .ref l8, .ref l9, .ref ch, .ref co, .int 0, .int 4, .int (-40), .int 20, .int 0, .int 0, .int 100, .int 60, .int 14])), (l4, .inr (5, [.int 0, .ref e, .int 0])), (l9, .inr (5, [.int 0, .ref e, .int 0]))]) hD hS hA [0, 1, 2] rfl
        refine va_callv (va_runV (As := [.int p1]) (rest := []) ⟨hx, hb, hml, hown, hts⟩ (c_X10_listCandidates l hst D e h l1 l2 l3 l4 l5 l6 l7 l8 l9 ch co p1 H.size) (cwV 1 hts gN_X10_module_X10_listCandidates rfl rfl rfl (by decide +kernel) ⟨Nat.le_of_ble_eq_true rfl, Nat.le_of_ble_eq_true rfl⟩) ⟨cIn_blind, va_recv hK hP (ci := 16) (q0 := 0) rfl rfl, cIn_go hK hP hD hE hS hA [0, 1, 2] rfl rfl (by decide) [] rfl⟩ rfl rfl hl.1 rfl (lv_room (Nat.le_of_ble_eq_true rfl)) dX10_module_32 ⟨Nat.le_of_ble_eq_true rfl, Nat.le_of_ble_eq_true rfl⟩) hS (fun q _ h => hFc q h) hFc (fun u t H1 locs ht hvm hw hB hz1 hk1 hS => ?_)
        obtain ⟨hP1, hK1, hD1⟩ := hB
        rw [ht] at hP1
        have hK1 := va_K.moved hvm.symm hK1
        obtain ⟨hP, hD⟩ := va_join (wr := []) (w1 := [(h, .inr (16, [.ref l1, .ref l2, .ref l3, .ref l4, .ref l5, .ref l6, .ref l7, .ref l8, .ref l9, .ref ch, .ref co, .int 0, .int 4, .int (-40), .int 20, .int 0, .int 0, .int 100, .int 60, .int 14])), (l4, .inr (5, [.int 0, .ref e, .int 0])), (l9, .inr (5, [.int 1, .ref e, .int 0]))]) hP hD [0, 1, 2] [] rfl rfl (by decide) (by decide) hk1 hFc hP1 hD1
        generalize H1 = H at hP hS ⊢
        have hP : va_P D vwCl [(h, .inr (16, [.ref l1, .ref l2, .ref l3, .ref l4, .ref l5, .ref l6, .ref l7, .ref l8, .ref l9, .ref ch, .ref co, .int 0, .int 4, .int (-40), .int 20, .int 0, .int 0, .int 100, .int 60, .int 14])), (l4, .inr (5, [.int 0, .ref e, .int 0])), (l9, .inr (5, [.int 1, .ref e, .int 0]))] H := hP
        have hD : va_D A [(h, .inr (16, [.ref l1, .ref l2, .ref l3, .ref l4, .ref l5, .ref l6, .ref l7, .ref l8, .ref l9, .ref ch, .ref co, .int 0, .int 4, .int (-40), .int 20, .int 0, .int 0, .int 100, .int 60, .int 14])), (l4, .inr (5, [.int 0, .ref e, .int 0])), (l9, .inr (5, [.int 1, .ref e, .int 0]))] := hD
        refine lv_aload_n hx hb dX10_module_35 rfl (lv_at hl 0 rfl) ?_
        refine va_get (D := D) (ci := 16) (v := .ref l9) (C := RX10) (T := TX10) (N := 20) hx hb hts iwN_RX10_module hown hK hP 0 rfl rfl 8 (by decide) (hts (.fieldLink RX10 37 "CoatLine" "candidates" "Ljava/util/ArrayList;") (by decide +kernel)) (fun _ h9 => h9) rfl dX10_module_36 ?_
        refine vp_callSi (va_Run.run (va_runV (As := []) (rest := []) ⟨hx, hb, hml, hown, hts⟩ (c_Jx4a65c_size_8abf5 l hst D e l9 1 e 0 H.size) (cwV 0 hts gN_X10_module_Jx4a65c_size_8abf5 rfl rfl rfl (by decide +kernel) ⟨Nat.le_of_ble_eq_true rfl, Nat.le_of_ble_eq_true rfl⟩) ⟨cIn_blind, va_recv hK hP (ci := 5) (q0 := 2) rfl rfl, cIn_go hK hP hD hE hS hA [2] rfl rfl (by decide) [] rfl⟩ rfl rfl hl.1 rfl (lv_room (Nat.le_of_ble_eq_true rfl)) dX10_module_39 ⟨Nat.le_of_ble_eq_true rfl, Nat.le_of_ble_eq_true rfl⟩)) (fun r_14 hw => ?_)
        have hw : r_14 = 0 := hw.trans (by first | rfl | decide +kernel)
        subst hw
        refine lv_iload_n hx hb dX10_module_42 rfl (lv_at hl 1 rfl) ?_
        refine lv_icmp_ge (tgt := 57) hx hb dX10_module_43 (by decide) (fun c_15 => absurd c_15 (rw_mod c_2)) (fun c_15 => ?_)
        obtain ⟨sa_16, hs_17⟩ := ev_x hE (q := (363, "not so many cells")) (by decide +kernel)
        exact en_throwSW hx hb hst hown (hts (.classLink RX10 278 "java/util/NoSuchElementException") (by decide +kernel)) (hts (.initialized "java/util/NoSuchElementException") (by decide +kernel)) hs_17 (vx_hat (fun w hw => hts w (hmN_module_282 w hw)) hnN_282 (vx_c (ev_u hE (w := .castable "java/util/NoSuchElementException" _) (by decide +kernel) rfl) (vx_c (ev_u hE (by decide +kernel) rfl) (vx_c (ev_u hE (by decide +kernel) rfl) (vx_c (ev_u hE (by decide +kernel) rfl) vx_n))))) hE.1.1.1 hE.1.1.2 hS (hl.1.trans hml.symm) dX10_module_46 dX10_module_49 dX10_module_50 dX10_module_53 dX10_module_56 (fun x hx => (htb x hx).elim) (Nat.le_of_ble_eq_true rfl) (Nat.le_of_ble_eq_true rfl) (Nat.le_of_ble_eq_true rfl) (Nat.le_of_ble_eq_true rfl) hlocks (fun t hal h1 h2 => ⟨(), trivial, Or.inr (⟨rfl, (by unfold t_X10_module; rw [if_pos c_2, if_neg c_4, if_pos c_11])⟩), thr_F hS h1 h2⟩) hS.2.2 (Nat.le_of_ble_eq_true rfl) (Nat.le_of_ble_eq_true rfl)
      · obtain ⟨sa_18, hs_19⟩ := ev_x hE (q := (357, "no such sort")) (by decide +kernel)
        exact vx_throwSW hx hb hst hown (by decide +kernel) (by decide +kernel) (hts (.classLink RX10 79 "java/lang/IllegalArgumentException") (by decide +kernel)) (hts (.initialized "java/lang/IllegalArgumentException") (by decide +kernel)) hs_19 (vx_hat (fun w hw => hts w (hmN_module_83 w hw)) hn_RX10_83 (vx_c (ev_u hE (w := .castable "java/lang/IllegalArgumentException" _) (by decide +kernel) rfl) (vx_c (ev_u hE (by decide +kernel) rfl) (vx_c (ev_u hE (by decide +kernel) rfl) (vx_c (ev_u hE (by decide +kernel) rfl) vx_n))))) ht_RX10_79_83 hE.1.1.1 hE.1.1.2 hS (hl.1.trans hml.symm) dX10_module_19 dX10_module_22 dX10_module_23 dX10_module_26 dX10_module_29 (fun x hx => (htb x hx).elim) (Nat.le_of_ble_eq_true rfl) (Nat.le_of_ble_eq_true rfl) (Nat.le_of_ble_eq_true rfl) (Nat.le_of_ble_eq_true rfl) hlocks (fun t hal h1 h2 => ⟨(), trivial, Or.inl ⟨rfl, (by unfold t_X10_module; rw [if_pos c_2, if_neg c_4, if_neg c_11])⟩, thr_F hS h1 h2⟩) hS.2.2 (Nat.le_of_ble_eq_true rfl) (Nat.le_of_ble_eq_true rfl)
def wsN_L_module : List Cond := .codeWith yL_module cL_module 5 (some .int) [(0, 10, 13, 13), (0, 10, 17, 79), (0, 10, 21, 15)] :: (wsL_moduleB.filter en_no ++ [en_t1, en_t2])
set_option maxRecDepth 100000 in
theorem gN_L_module : GoodIn wsN_L_module (wsV RL 109 RX10 yX10_module wsN_X10_module) := en_goodM (big := wsL_moduleB) (T := [en_t1, en_t2]) (good_app gL_module_X10_module) (en_inV (Y := wsN_X10_module) (en_sub (T := [en_t1, en_t2]) (show _ ∈ wsX10_module from List.mem_cons_self))) (by decide +kernel) (by decide +kernel)
set_option maxHeartbeats 4000000 in
set_option maxRecDepth 100000 in
theorem cN_L_module (l : Launch) (hst : l.stackTraces = false) (D : va_G) (e : Nat) (h : Nat) (l1 : Nat) (l2 : Nat) (l3 : Nat) (l4 : Nat) (l5 : Nat) (l6 : Nat) (l7 : Nat) (l8 : Nat) (l9 : Nat) (ch : Nat) (co : Nat) (o : Nat) (cO : ClassId) (f0 : Nat → Int64) (p0 : Int32) (p1 : Int32) (sz : Nat) : vx_Met l yL_module wsN_L_module ({ frames := 20, cells := 3, slots := 20, locals := 460 }) (va_Pc [.ref h, .int p0, .int p1, .ref o] (cIn D [(cO, .long)] [(h, .inr (16, [.ref l1, .ref l2, .ref l3, .ref l4, .ref l5, .ref l6, .ref l7, .ref l8, .ref l9, .ref ch, .ref co, .int 0, .int 4, .int (-40), .int 20, .int 0, .int 0, .int 100, .int 60, .int 14])), (l4, .inr (5, [.int 0, .ref e, .int 0])), (l9, .inr (5, [.int 0, .ref e, .int 0])), (o, .inl (cO, 1, .inr (.inl f0)))] e sz)) (va_Qi (fun (r : Int32) (f : Nat → Int64) => r = v_L_module p0 p1) (fun (f : Nat → Int64) (t : State) => va_P D vwCl [(o, .inl (cO, 1, .inr (.inl f)))] t.heap ∧ va_K D vwCl [(cO, .long)] t ∧ va_D (va_A [(h, .inr (16, [.ref l1, .ref l2, .ref l3, .ref l4, .ref l5, .ref l6, .ref l7, .ref l8, .ref l9, .ref ch, .ref co, .int 0, .int 4, .int (-40), .int 20, .int 0, .int 0, .int 100, .int 60, .int 14])), (l4, .inr (5, [.int 0, .ref e, .int 0])), (l9, .inr (5, [.int 0, .ref e, .int 0])), (o, .inl (cO, 1, .inr (.inl f0)))] sz) [(o, .inl (cO, 1, .inr (.inl f)))]) (va_A [(h, .inr (16, [.ref l1, .ref l2, .ref l3, .ref l4, .ref l5, .ref l6, .ref l7, .ref l8, .ref l9, .ref ch, .ref co, .int 0, .int 4, .int (-40), .int 20, .int 0, .int 0, .int 100, .int 60, .int 14])), (l4, .inr (5, [.int 0, .ref e, .int 0])), (l9, .inr (5, [.int 0, .ref e, .int 0])), (o, .inl (cO, 1, .inr (.inl f0)))] sz)) (vx_X (fun _ : Unit => False) (fun (_ : String) (_ : Unit) (_ : State) => True) (va_A [(h, .inr (16, [.ref l1, .ref l2, .ref l3, .ref l4, .ref l5, .ref l6, .ref l7, .ref l8, .ref l9, .ref ch, .ref co, .int 0, .int 4, .int (-40), .int 20, .int 0, .int 0, .int 100, .int 60, .int 14])), (l4, .inr (5, [.int 0, .ref e, .int 0])), (l9, .inr (5, [.int 0, .ref e, .int 0])), (o, .inl (cO, 1, .inr (.inl f0)))] sz)) 3 20 (va_A [(h, .inr (16, [.ref l1, .ref l2, .ref l3, .ref l4, .ref l5, .ref l6, .ref l7, .ref l8, .ref l9, .ref ch, .ref co, .int 0, .int 4, .int (-40), .int 20, .int 0, .int 0, .int 100, .int 60, .int 14])), (l4, .inr (5, [.int 0, .ref e, .int 0])), (l9, .inr (5, [.int 0, .ref e, .int 0])), (o, .inl (cO, 1, .inr (.inl f0)))] sz) := by
  refine vx_ofWH (cc := cL_module) (maxL := 5) (ret := (some .int)) (by decide +kernel) rfl ?_
  intro p e9 s m args below meth c s₁ B hml hv
  obtain ⟨rfl, hsz, hP, hK, hD0, hE0⟩ := hv
  have hx := B.exec
  have hb := B.bytes
  have hr := B.returns
  have hts := atoms_spec (ws := wsN_L_module) B.pre
  have hown : s.vm.findClass RL = some m.cls := findClass_of_methodNamed B.named
  have hlocks := B.notSynchronized
  have htab := vx_table (x := yL_module) B (hts (.codeWith yL_module cL_module 5 (some .int) [(0, 10, 13, 13), (0, 10, 17, 79), (0, 10, 21, 15)]) (show _ ∈ wsN_L_module from List.mem_cons_self))
  subst hsz
  have hD := hD0.self (sz := s.heap.size)
  generalize hAe : va_A [(h, .inr (16, [.ref l1, .ref l2, .ref l3, .ref l4, .ref l5, .ref l6, .ref l7, .ref l8, .ref l9, .ref ch, .ref co, .int 0, .int 4, .int (-40), .int 20, .int 0, .int 0, .int 100, .int 60, .int 14])), (l4, .inr (5, [.int 0, .ref e, .int 0])), (l9, .inr (5, [.int 0, .ref e, .int 0])), (o, .inl (cO, 1, .inr (.inl f0)))] s.heap.size = A at hD hE0 ⊢
  have hA : ∀ q : Nat, s.heap.size ≤ q → A q := fun q h => by rw [← hAe]; exact Or.inr h
  have hS : va_S A s.heap s.heap [] := va_S.rf
  have hE := hE0
  have hP : va_P D vwCl [(h, .inr (16, [.ref l1, .ref l2, .ref l3, .ref l4, .ref l5, .ref l6, .ref l7, .ref l8, .ref l9, .ref ch, .ref co, .int 0, .int 4, .int (-40), .int 20, .int 0, .int 0, .int 100, .int 60, .int 14])), (l4, .inr (5, [.int 0, .ref e, .int 0])), (l9, .inr (5, [.int 0, .ref e, .int 0])), (o, .inl (cO, 1, .inr (.inl f0)))] s.heap := hP
  have hl := lv_entry ([.ref h, .int p0, .int p1, .ref o]) (n := 5) (Nat.le_of_ble_eq_true rfl)
  rw [lg_entry_eq]
  generalize (lg_sl ([.ref h, .int p0, .int p1, .ref o]) ++ List.replicate (5 - (lg_sl ([.ref h, .int p0, .int p1, .ref o])).length) Slot.unset).toArray = ls at hl ⊢
  have hl : lv_has ls 5 [(0, .ref h), (1, .int p0), (2, .int p1), (3, .ref o)] := hl
  refine lv_aload_n hx hb dL_module_0 rfl (lv_at hl 3 rfl) ?_
  refine lv_iconst (v := 0) hx hb dL_module_1 (by decide) ?_
  refine lv_aload_n hx hb dL_module_2 rfl (lv_at hl 0 rfl) ?_
  refine lv_iload_n hx hb dL_module_3 rfl (lv_at hl 1 rfl) ?_
  refine lv_iload_n hx hb dL_module_4 rfl (lv_at hl 2 rfl) ?_
  have hFc := va_free (wc := [(h, .inr (16, [.ref l1, .ref l2, .ref l3, .ref l4, .ref l5, .ref l6, .ref l7, .ref l8, .ref l9, .ref ch, .ref co, .int 0, .int 4, .int (-40), .int 20, .int 0, .int 0, .int 100, .int 60, .int 14])), (l4, .inr (5, [.int 0, .ref e, .int 0])), (l9, .inr (5, [.int 0, .ref e, .int 0]))]) hD hS hA [0, 1, 2] rfl
  refine vx_callv (vx_runV (As := [.int p0, .int p1]) (rest := [.int 0, .ref o]) ⟨hx, hb, hml, hown, hts⟩ (cN_X10_module l hst D e h l1 l2 l3 l4 l5 l6 l7 l8 l9 ch co p0 p1 s.heap.size) (cwV 2 hts gN_L_module rfl rfl rfl (by decide +kernel) ⟨Nat.le_of_ble_eq_true rfl, Nat.le_of_ble_eq_true rfl⟩) ⟨cIn_blind, va_recv hK hP (ci := 16) (q0 := 0) rfl rfl, cIn_go hK hP hD hE hS hA [0, 1, 2] rfl rfl (by decide) [] rfl⟩ rfl rfl hl.1 rfl (lv_room (Nat.le_of_ble_eq_true rfl)) dL_module_5 ⟨Nat.le_of_ble_eq_true rfl, Nat.le_of_ble_eq_true rfl⟩) hS (fun q _ h => hFc q h) hFc (fun q _ h => hFc q h) (fun E ce q9 u t H1 locs ht hvm hpx hB hz1 hk1 hS hce hcv hcl => ?_) (fun u t H1 locs ht hvm hw hB hz1 hk1 hS => ?_)
  · rcases hB with ⟨rfl, hw⟩ | ⟨rfl, hw⟩
    · obtain ⟨hP, hD⟩ := cIn_rest (wc := [(h, .inr (16, [.ref l1, .ref l2, .ref l3, .ref l4, .ref l5, .ref l6, .ref l7, .ref l8, .ref l9, .ref ch, .ref co, .int 0, .int 4, .int (-40), .int 20, .int 0, .int 0, .int 100, .int 60, .int 14])), (l4, .inr (5, [.int 0, .ref e, .int 0])), (l9, .inr (5, [.int 0, .ref e, .int 0]))]) (wr := [(o, .inl (cO, 1, .inr (.inl f0)))]) hP hD [0, 1, 2] [3] rfl rfl (by decide) (by decide) hk1 hFc
      generalize H1 = H at hP hS hce ⊢
      have hP : va_P D vwCl [(o, .inl (cO, 1, .inr (.inl f0)))] H := hP
      have hD : va_D A [(o, .inl (cO, 1, .inr (.inl f0)))] := hD
      refine vx_catch (name := "java/lang/IllegalArgumentException") (E := "java/lang/IllegalArgumentException") hown [] ⟨0, 10, 13, 13⟩ [⟨0, 10, 17, 79⟩, ⟨0, 10, 21, 15⟩] (by rw [htab]; rfl) (fun z hz => by cases hz) (by decide) (by decide) (hts (.classLink RL 13 "java/lang/IllegalArgumentException") (by decide +kernel)) (ev_u hE (w := .castable "java/lang/IllegalArgumentException" "java/lang/IllegalArgumentException") (by decide +kernel) rfl) hce hcv hcl ?_
      refine lv_astore (lv' := [(4, .ref q9), (0, .ref h), (1, .int p0), (2, .int p1), (3, .ref o)]) hx hb dL_module_13 hl (by decide) rfl (fun ls hl => ?_)
      refine lv_iconst (v := 1) hx hb dL_module_15 (by decide) ?_
      refine vx_ret ?_
      exact W.iret (v := 1) hx hb hr (fun t ht hW => ⟨⟨1, f0, rfl, (by unfold v_L_module; rw [if_pos hw]), ⟨by rw [ht]; exact hP.sub [0] rfl, va_K.moved hW.alike (hK.sub [0] rfl), hD.sub [0] (by decide) rfl⟩⟩, hS.F ht⟩) hS.2.2 dL_module_16
    · have c_5 : ¬ t_X10_module p0 p1 = 1 := by rw [hw]; decide
      obtain ⟨hP, hD⟩ := cIn_rest (wc := [(h, .inr (16, [.ref l1, .ref l2, .ref l3, .ref l4, .ref l5, .ref l6, .ref l7, .ref l8, .ref l9, .ref ch, .ref co, .int 0, .int 4, .int (-40), .int 20, .int 0, .int 0, .int 100, .int 60, .int 14])), (l4, .inr (5, [.int 0, .ref e, .int 0])), (l9, .inr (5, [.int 0, .ref e, .int 0]))]) (wr := [(o, .inl (cO, 1, .inr (.inl f0)))]) hP hD [0, 1, 2] [3] rfl rfl (by decide) (by decide) hk1 hFc
      generalize H1 = H at hP hS hce ⊢
      have hP : va_P D vwCl [(o, .inl (cO, 1, .inr (.inl f0)))] H := hP
      have hD : va_D A [(o, .inl (cO, 1, .inr (.inl f0)))] := hD
      refine vx_catch (name := "java/util/NoSuchElementException") (E := "java/util/NoSuchElementException") hown [⟨0, 10, 13, 13⟩] ⟨0, 10, 17, 79⟩ [⟨0, 10, 21, 15⟩] (by rw [htab]; rfl) (fun z hz => by rcases List.mem_singleton.mp hz with rfl; exact Or.inr ⟨by decide, "java/lang/IllegalArgumentException", hts (.classLink RL 13 "java/lang/IllegalArgumentException") (by decide +kernel), hE.2.2.1.1⟩) (by decide) (by decide) (hts (.classLink RL 79 "java/util/NoSuchElementException") (by decide +kernel)) (ev_u hE (w := .castable "java/util/NoSuchElementException" "java/util/NoSuchElementException") (by decide +kernel) rfl) hce hcv hcl ?_
      refine lv_astore (lv' := [(4, .ref q9), (0, .ref h), (1, .int p0), (2, .int p1), (3, .ref o)]) hx hb dL_module_17 hl (by decide) rfl (fun ls hl => ?_)
      refine lv_iconst (v := 2) hx hb dL_module_19 (by decide) ?_
      refine vx_ret ?_
      exact W.iret (v := 2) hx hb hr (fun t ht hW => ⟨⟨2, f0, rfl, (by unfold v_L_module; rw [if_neg c_5]), ⟨by rw [ht]; exact hP.sub [0] rfl, va_K.moved hW.alike (hK.sub [0] rfl), hD.sub [0] (by decide) rfl⟩⟩, hS.F ht⟩) hS.2.2 dL_module_20
  · exact hw.elim
