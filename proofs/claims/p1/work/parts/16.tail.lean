/-! THE CLAIM OUT OF ONE WALK OF THE LAW'S BODY. Your part is whole_start (and what it stands on); all else here is the same for every law, but numbers. -/
def R_law : String := "CoatLineLaw"
def lw_P (b : Addr) (xs : List Int32) (args : Array Value) (s : State) : Prop := args = #[.ref b] ∧ s.IntsAt b xs ∧ xs.length ≤ 4 ∧ (Jvm.Cond.and given_1 narrow_1).before args s = true
/-- what a walk over the start with the record d0 says of its end, said of the start itself -/
theorem lw_closed {s t : State} {o : Outcome} {d0 : Drawn} {L : List Loc} {k n : Nat} (hd0 : s.drawn.sameBut d0 lw_cs) (hv : ∃ v, o = .returned v) (hW : (s.setDrawn d0).WarmedH t.vm) (hs : (s.setDrawn d0).sameButNew ({ t with vm := s.vm } : State) L k n) : State.butDraws s t lw_cs (fun t1 => Framed s o t1 L k n) := by
  have h2 : t.drawn = d0 := congrArg State.drawn hs.1
  refine ⟨⟨hv, hW, State.sameButNew.setDrawn hs s.drawn⟩, ?_, by decide⟩
  rw [h2]
  exact hd0
def lw_Q (_ : Array Value) (s : State) (o : Outcome) (t : State) : Prop := o = .returned (some (.int 1)) ∧ State.butDraws s t lw_cs (fun t1 => Framed s o t1 [] 800312 6701151)
def lw_Z (below : List Frame) (a : Array Value) (s : State) : State → Prop := fun t => ∃ o, t.status = .running ∧ Ended t below o ∧ lw_Q a s o t
/-- the law's own end, with 1 on the stack, nothing written that was there before, its room as the claim has it; d0: the record of draws at this point (at the entry s.drawn: begin with 'refine W.base ?_' and 'have hd0 := Drawn.sameBut.refl s.drawn lw_cs') -/
theorem lw_ret {p : Program} {l : Launch} {e : Env} {s : State} {m : MethodId} {below : List Frame} {meth : Method} {c : Code} {b : Nat} {d0 : Drawn} (hd0 : s.drawn.sameBut d0 lw_cs) (hx : p.tables.exec = Jvm.exec) (hb : c.code = code) (hr : meth.sig.returnType = ret) (hlocks : meth.locks = false) {pc : Nat} {H : Heap} {ls : Array Slot} (hdg : decode code pc = .ok (.ireturn, 1)) : W p l e room_1 (s.setDrawn d0) m #[Value.ref b] below meth c H [] 800312 6701151 (lw_Z below #[Value.ref b] s) (F0 m pc ls [.int 1]) := by
  intro T hT X
  obtain ⟨fs, hret, hrun, hended, hW, hframe⟩ := X.leave (v := some (.int 1)) (hlocks := hlocks) (fun h => by rw [hr] at h; cases h)
  have hmeth' : T.vm.method? m = some meth := X.method'
  refine ⟨T.setFrames fs, ?_, .returned (some (.int 1)), hrun, hended, rfl, lw_closed hd0 ⟨_, rfl⟩ hW hframe⟩
  jvm_step X.here [X.here.top, hx, hb, hdg, hmeth', hr, ret, narrow_b1]
  (try refine ⟨rfl, ?_⟩); (try refine ⟨rfl, ?_⟩)
  first | (intro acts; rw [hret _ acts rfl rfl rfl]) | rw [hret _ _ rfl rfl rfl]
  exact Steps.refl _
/-- what holds at the law's entry: the machine, the code, the tables' words (any of lw_tbl by 'hts w (by decide +kernel)'), the script of L ints xs at the cell b, what the Statement gives of the start (any of its parts by flat_of_before) -/
def lw_At (p : Program) (s : State) (m : MethodId) (meth : Method) (c : Code) (b L : Nat) (xs : Nat → Int32) : Prop :=
  p.tables.exec = Jvm.exec ∧ c.code = code ∧ meth.sig.returnType = ret ∧ c.maxLocals = 9 ∧ s.vm.findClass R_law = some m.cls ∧ (∀ w ∈ lw_tbl, w.before #[Value.ref b] s = true) ∧ va_X b L xs s s.heap ∧ b < s.heap.size ∧ meth.locks = false ∧ (Jvm.Cond.and given_1 narrow_1).before #[Value.ref b] s = true

def enT : List Cond := [.classLink RL 79 "java/util/NoSuchElementException", .classLink RL 13 "java/lang/IllegalArgumentException", en_t1, en_t2]
def wsLaw2 : List Cond := wsL_law.filter en_no ++ enT
theorem enT_in : ∀ w ∈ enT, w ∈ lw_tbl := by decide +kernel
theorem wsLaw2_in : ∀ w ∈ wsLaw2, w ∈ lw_tbl := fun w h => (List.mem_append.mp h).elim (fun h1 => wsL_law_in w (List.mem_filter.mp h1).1 (List.mem_filter.mp h1).2) (enT_in w)
theorem enT_good : enT.all goodWord = true := by decide +kernel
theorem en_goodW {X Y : List Cond} (h : GoodIn wsL_law X) (hs : ∀ w ∈ Y, w ∈ X ∨ w ∈ enT) (hn : Y.all en_no = true) : GoodIn wsLaw2 Y := fun w hw =>
  (hs w hw).elim (fun h1 => ⟨List.mem_append_left _ (List.mem_filter.mpr ⟨(h w h1).1, List.all_eq_true.mp hn w hw⟩), (h w h1).2⟩) (fun h1 => ⟨List.mem_append_right _ h1, good_of_word (List.all_eq_true.mp enT_good w h1)⟩)
theorem good_n {X : List Cond} (h : GoodIn wsL_law X) (hn : X.all en_no = true) : GoodIn wsLaw2 X := en_goodW h (fun _ h => Or.inl h) hn
theorem en_B {X : List Cond} {z : Cond} (hz : z ∈ enT) : ∀ w ∈ X ++ [z], w ∈ X ∨ w ∈ enT := fun w h => (List.mem_append.mp h).imp id (fun h1 => by
  rw [List.mem_singleton.mp h1]
  exact hz)
theorem gg_wsL_doubtAllB : GoodIn wsLaw2 (va_wsS RL 327 yL_doubtAll wsL_doubtAllB) := en_goodW gL_law_L_doubtAll (en_inS (en_B (z := .classLink RL 13 "java/lang/IllegalArgumentException") (by decide +kernel))) (by decide +kernel)
theorem gg_traced : GoodIn wsLaw2 (va_wsS RL 253 yL_traced wsN_L_traced) := en_goodW gL_law_L_traced (fun w h => (en_inS (T := []) (en_sub (T := []) (show _ ∈ wsL_traced from List.mem_cons_self)) w h).imp id (fun h1 => by cases h1)) (by decide +kernel)
theorem gg_cellOf : GoodIn wsLaw2 (va_wsS RL 291 yL_cellOf wsN_L_cellOf) := en_goodW gL_law_L_cellOf (fun w h => (en_inS (T := []) (en_sub (T := []) (show _ ∈ wsL_cellOf from List.mem_cons_self)) w h).imp id (fun h1 => by cases h1)) (by decide +kernel)
theorem gg_module : GoodIn wsLaw2 (va_wsS RL 288 yL_module wsN_L_module) := en_goodW gL_law_L_module (en_inS (fun w h => (en_sub (T := [en_t1, en_t2]) (show _ ∈ wsL_moduleB from List.mem_append_left _ (show _ ∈ wsL_module from List.mem_cons_self)) w h).elim (fun h1 => en_B (X := wsL_module) (z := .classLink RL 79 "java/util/NoSuchElementException") (by decide +kernel) w h1) (fun h1 => Or.inr (by
  rcases List.mem_cons.mp h1 with rfl | h1
  · decide +kernel
  · rcases List.mem_singleton.mp h1 with rfl
    decide +kernel)))) (by decide +kernel)
set_option maxHeartbeats 4000000 in
set_option maxRecDepth 100000 in
/-- behind the one call: the loop's step, its head, the end -/
theorem law_tail {p : Program} {e9 : Env} {s : State} {m : MethodId} {below : List Frame} {meth : Method} {c : Code} {l : Launch} {b : Nat} {xs : Nat → Int32} (C0 : lw_At p s m meth c b 4 xs) {H : Heap} {locs : List Loc} {ls : Array Slot} {k n : Nat} (hc : k ≤ 800312) (hn : n ≤ 6701151) (hS : va_S (fun q : Nat => s.heap.size ≤ q) s.heap H locs) (hl : lv_has ls 9 [(5, .int 0), (0, .ref b)]) : W p l e9 room_1 s m #[Value.ref b] below meth c H locs k n (lw_Z below #[Value.ref b] s) (F0 m 3552 ls []) := by
  obtain ⟨hx, hb, hr, hml, hown, hts, hX, hbl, hlocks, hgv⟩ := C0
  have hbA : ¬ (fun q : Nat => s.heap.size ≤ q) b := Nat.not_le.mpr hbl
  refine lv_iinc (v := 4) (lv' := [(5, .int 4), (0, .ref b)]) hx hb dL_law_3552 hl (k := 0) rfl (by decide +kernel) (by decide) rfl (fun ls hl => ?_)
  refine lv_goto (tgt := 28) hx hb dL_law_3555 (by decide) ?_
  refine lv_iload hx hb dL_law_28 (lv_at hl 0 rfl) ?_
  refine lv_aload_n hx hb dL_law_30 rfl (lv_at hl 1 rfl) ?_
  refine va_slen hx hb hX hbl hbA hS dL_law_31 ?_
  refine lv_topi (fun z1 ez1 => ?_)
  obtain rfl : z1 = 4 := ez1.trans (by decide +kernel)
  refine lv_iconst (v := 4) hx hb dL_law_32 (by decide) ?_
  refine lv_isub hx hb dL_law_33 ?_
  refine lv_topi (fun z2 ez2 => ?_)
  obtain rfl : z2 = 0 := ez2.trans (by decide +kernel)
  refine lv_icmp_gt (tgt := 3558) hx hb dL_law_34 (by decide) (fun _ => ?_) (fun h9 => absurd (show (0 : Int32) < 4 by decide +kernel) h9)
  refine lv_iconst (v := 1) hx hb dL_law_3558 (by decide) ?_
  refine va_forget (fun q hq => hS.2.2 q hq) ?_
  refine W.widen (k := 800312) (n := 6701151) hc hn ?_
  refine W.base ?_
  exact lw_ret (Drawn.sameBut.refl s.drawn lw_cs) hx hb hr hlocks dL_law_3559
theorem nz_module (p0 p1 : Int32) : ¬ v_L_module p0 p1 = 0 := by
  unfold v_L_module
  split <;> decide
