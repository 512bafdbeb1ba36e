/-! what a fresh works stands on beside its cells: statics of Throwable and ArrayList, texts, which class is none of which -/
def evF : List (String × MethodName × MethodName) := [(RJx4a65c, ⟨"java/util/List", "size", "()I"⟩, yJx4a65c_size_8abf5), (RJx4a65c, ⟨"java/util/List", "add", "(Ljava/lang/Object;)Z"⟩, yJx4a65c_add_9ea2d), (RJx4a65c, ⟨"java/util/List", "iterator", "()Ljava/util/Iterator;"⟩, yJx4a65c_iterator_32c93), (RJx4a65c, ⟨"java/util/List", "isEmpty", "()Z"⟩, yJx4a65c_isEmpty_aae02), (RJx35411, ⟨"java/util/Iterator", "hasNext", "()Z"⟩, yJx35411_hasNext_aae02)]
theorem evF_ok : ∀ q ∈ evF, q.2.1.cls ≠ "java/lang/invoke/MethodHandle" ∧ q.2.1.cls ≠ "java/lang/invoke/VarHandle" := by decide +kernel
/-- words that the tables alone decide and that stay, though they are no good words -/
def evB : Cond → Bool
  | .castable .. => true
  | .declares .. => true
  | .methodLinkNest .. => true
  | .fieldLinkNest .. => true
  | _ => false
theorem evB_warm {w : Cond} {s U : State} (hb : evB w = true) (hW : s.WarmedH U.vm) (h : va_Nw w s) : va_Nw w U := by
  cases w <;> first | exact va_Nw.warmC hW h | exact va_Nw.warmD hW h | exact va_Nw.warmM hW h | exact va_Nw.warmF hW h | (simp [evB] at hb)
def evW : List Cond := [.castable "java/lang/IllegalArgumentException" "java/lang/IllegalArgumentException", .castable "java/lang/IllegalStateException" "java/lang/IllegalStateException", .castable "java/lang/IndexOutOfBoundsException" "java/lang/IndexOutOfBoundsException", .castable "java/lang/UnsupportedOperationException" "java/lang/UnsupportedOperationException", .castable "java/util/NoSuchElementException" "java/util/NoSuchElementException", .castable "java/lang/ArithmeticException" "java/lang/ArithmeticException", .declares (Bundle.initS "java/lang/RuntimeException"), .declares (Bundle.initS "java/lang/Exception"), .declares (Bundle.initS "java/lang/Throwable"), .methodLinkNest "CoatLine" 316 ⟨"CoatLine$Protocol", "<init>", "()V"⟩ "CoatLine", .methodLinkNest "CoatLine" 46 ⟨"CoatLine$Coater", "<init>", "()V"⟩ "CoatLine", .fieldLinkNest "java/util/ArrayList$Itr" 28 "java/util/ArrayList" "size" "I" "java/util/ArrayList", .castable "CoatLine$Lot" "java/lang/Object", .castable "CoatLine$Protocol" "java/lang/Object", .castable "CoatLine$Doubt" "java/lang/Object", .castable "[I" "java/lang/Object", .castable "java/util/ArrayList" "java/lang/Object"]
theorem evW_ok : ∀ w ∈ evW, evB w = true := by decide +kernel
def evX : List (Nat × String) := [(81, "no such kind"), (124, "not as much of the lot"), (148, "no such mark"), (206, "a ribbon of the other kind"), (211, "no such stretch"), (258, "no such thing"), (280, "no such metre"), (293, "filled, short, or covered"), (297, "above the last hour"), (333, "formed, not filled, too dry, or covered"), (351, "a bound below 0, or the second above the first"), (357, "no such sort"), (363, "not so many cells"), (380, "no such cell"), (389, "both are the same"), (425, "off, or recalled"), (447, "the last one is less"), (458, "a burr below 0"), (462, "no such doubt"), (468, "cleared"), (478, "no cells"), (510, "a number is out of range"), (512, "there are too many"), (514, "no such channel"), (516, "slit"), (517, "in a pack, or with a cell that is covered"), (519, "no such lot"), (521, "no such coil"), (523, "no such ribbon"), (525, "no such protocol"), (527, "no such module"), (529, "no such pack")]
/-- by the tables alone -/
def evT (U : State) : Prop := (∀ q ∈ evX, ∃ a, vk_R RX10 q.1 q.2 a U) ∧ (va_Nc "java/util/NoSuchElementException" "java/lang/IllegalArgumentException" U ∧ va_Nc "java/lang/IllegalArgumentException" "java/lang/IndexOutOfBoundsException" U) ∧ (∀ q ∈ evF, va_Fw q.1 q.2.1 q.2.2 U) ∧ (∀ w ∈ evW, va_Nw w U) ∧ va_AO "java/lang/Object" U
theorem evT.warm {s U : State} (hW : s.WarmedH U.vm) (h : evT s) : evT U := by
  obtain ⟨h5, ⟨h6, h7⟩, h8, h9, h10⟩ := h
  exact ⟨fun q hq => (h5 q hq).imp fun a h => h.warm hW, ⟨h6.moved hW.alike, h7.moved hW.alike⟩, fun q hq => (h8 q hq).moved (evF_ok q hq) hW.alike, fun w hw => evB_warm (evW_ok w hw) hW (h9 w hw), h10.moved hW.alike⟩
def ev (e : Nat) (A : Nat → Prop) (U : State) (H : Heap) : Prop :=
  ((vx_Zq Bundle.tN "UNASSIGNED_STACK" Bundle.steD A U H ∧ vx_Zq Bundle.tN "SUPPRESSED_SENTINEL" Bundle.listD A U H) ∧ (va_Z RJx4a65c "DEFAULTCAPACITY_EMPTY_ELEMENTDATA" "[Ljava/lang/Object;" (.ref e) A U H ∧ va_T (.object "java/lang/Object") e 0 (fun _ => Value.null) A U H)) ∧ evT U
theorem ev.calling {e : Nat} {A : Nat → Prop} {U : State} {g : JFrame} {mk : MethodId} {a : Array Value} {H : Heap} (h : ev e A U H) : ev e A (U.calling g mk a) H := by
  have hW : U.WarmedH (U.calling g mk a).vm := State.WarmedH.refl U
  obtain ⟨⟨⟨h1, h2⟩, ⟨h3, h4⟩⟩, h5⟩ := h
  exact ⟨⟨⟨h1.moved hW.alike, h2.moved hW.alike⟩, ⟨h3.moved hW.alike, h4.moved hW.alike⟩⟩, h5.warm hW⟩
theorem ev.call {e : Nat} {A A1 : Nat → Prop} {s U : State} {H : Heap} {locs : List Loc} (h : ev e A s s.heap) (hS : va_S A s.heap H locs) (hF : ∀ q, A1 q → A q) (hU : U.heap = H) (hW : s.WarmedH U.vm) : ev e A1 U U.heap := by
  rw [hU]
  obtain ⟨⟨⟨h1, h2⟩, ⟨h3, h4⟩⟩, h5⟩ := h
  exact ⟨⟨⟨((h1.kept hS.2.1).narrow hF).moved hW.alike, ((h2.kept hS.2.1).narrow hF).moved hW.alike⟩, ⟨((h3.kept hS.2.1).narrow hF).moved hW.alike, ((h4.kept hS.2.1).narrow hF).moved hW.alike⟩⟩, h5.warm hW⟩
theorem ev_w {e : Nat} {A : Nat → Prop} {U : State} {H : Heap} (h : ev e A U H) {w : Cond} (hw : w ∈ evW) : va_Nw w U := h.2.2.2.2.1 w hw
theorem ev_u {e : Nat} {A : Nat → Prop} {U : State} {H : Heap} {args : Array Value} (h : ev e A U H) {w : Cond} (hw : w ∈ evW) (ho : w.onTables = true) : w.before args U = true := va_Nw.use ho (h.2.2.2.2.1 w hw)
theorem ev_x {e : Nat} {A : Nat → Prop} {U : State} {H : Heap} (h : ev e A U H) {q : Nat × String} (hq : q ∈ evX) : ∃ a, vk_R RX10 q.1 q.2 a U := h.2.1 q hq
theorem ev_f {e : Nat} {A : Nat → Prop} {U : State} {H : Heap} (h : ev e A U H) {q : String × MethodName × MethodName} (hq : q ∈ evF) : va_Fw q.1 q.2.1 q.2.2 U := h.2.2.2.1 q hq
/-- the world at a call: the size of the heap, the cells, the classes, apart, and what it all stands on -/
def cIn (D : va_G) (tys : List (ClassId × FieldType)) (ws : va_W) (e sz : Nat) (U : State) : Prop := U.heap.size = sz ∧ va_P D vwCl ws U.heap ∧ va_K D vwCl tys U ∧ va_D (fun _ => True) ws ∧ ev e (va_A ws sz) U U.heap
theorem cIn_blind {av : List Value} {D : va_G} {tys : List (ClassId × FieldType)} {ws : va_W} {e sz : Nat} : FrameBlind (va_Pc av (cIn D tys ws e sz)) := fun a U g mk q => by
  obtain ⟨q0, q1, qP, qK, qD, qE⟩ := q
  exact ⟨q0, q1, qP, va_K.moved (u := U) (U := U.calling g mk a) (Vm.Alike.refl U.vm) qK, qD, qE.calling⟩
theorem cIn_go {D : va_G} {tys tysC : List (ClassId × FieldType)} {ws wc : va_W} {e : Nat} {A : Nat → Prop} {s : State} {H : Heap} {locs : List Loc} {av : List Value} (hK : va_K D vwCl tys s) (hP : va_P D vwCl ws H) (hD : va_D A ws) (hE : ev e A s s.heap) (hS : va_S A s.heap H locs) (hA : ∀ q, s.heap.size ≤ q → A q) (isC : List Nat) (hC : isC.filterMap (fun i => ws[i]?) = wc) (hC2 : isC.map (fun i => ws[i]?) = wc.map some) (hn : va_nd isC = true) (isT : List Nat) (hT : isT.filterMap (fun i => tys[i]?) = tysC) :
    ∀ U : State, U.heap = H → s.WarmedH U.vm → va_Pc av (cIn D tysC wc e H.size) av.toArray U := fun U hU hW =>
  ⟨rfl, by rw [hU], by rw [hU]; exact hP.sub isC hC, va_K.moved hW.alike (hK.sub isT hT), (hD.sub isC hn hC2).weaken (fun _ _ _ _ => trivial), hE.call hS (va_free hD hS hA isC hC2) hU hW⟩
/-- the cells that a call had no part in -/
theorem cIn_rest {D : va_G} {ws wc wr : va_W} {A : Nat → Prop} {H H1 : Heap} (hP : va_P D vwCl ws H) (hD : va_D A ws) (isC isR : List Nat) (hC : isC.map (fun i => ws[i]?) = wc.map some) (hR : isR.map (fun i => ws[i]?) = wr.map some) (hn : va_nd isR = true) (hdis : ∀ i ∈ isR, i ∉ isC) (hk : ∀ q : Nat, q < H.size → ¬ va_A wc H.size q → H1[q]? = H[q]?) (hF : ∀ q, va_A wc H.size q → A q) : va_P D vwCl wr H1 ∧ va_D A wr := by
  have h := va_join (w1 := []) hP hD isC isR hC hR hn hdis hk hF (fun k q h => by simp at h) ⟨fun i j p q h => by simp at h, fun k q h => by simp at h⟩
  rw [List.append_nil] at h
  exact h
theorem thr_F {A : Nat → Prop} {s t : State} {H : Heap} {locs : List Loc} (hS : va_S A s.heap H locs) (h1 : H.size ≤ t.heap.size) (h2 : ∀ q : Nat, q < H.size → t.heap[q]? = H[q]?) : va_F A s t := ⟨Nat.le_trans hS.1 h1, fun q hq hA => by rw [h2 q (Nat.lt_of_lt_of_le hq hS.1)]; exact hS.2.1 q hq hA⟩
theorem updL0 {f : Nat → Int64} {x : Int64} : vp_updL f (0 : Int32).toNatClampNeg x 0 = x := by
  show (if (0 : Nat) = (0 : Int32).toNatClampNeg then x else f 0) = x
  rw [if_pos (by decide +kernel)]
theorem any_moved {E : String} {x : Nat} {s U : State} {H : Heap} (h : va_Any E s H x) (hal : s.vm.Alike U.vm) (hU : U.heap = H) : va_Any E U U.heap x := by
  obtain ⟨cell, h1, h2, ⟨kC, h3⟩, h4⟩ := h
  obtain ⟨k', hk', -⟩ := hal.2.2 _ _ h3
  exact ⟨cell, by rw [hU]; exact h1, h2, ⟨k', hk'⟩, fun comp hc => by rw [hal.assignable]; exact h4 comp (by rw [← hal.findClass]; exact hc)⟩
theorem any_at {E : String} {x : Nat} {A : Nat → Prop} {s : State} {H : Heap} {locs : List Loc} (hS : va_S A s.heap H locs) (hx : x < s.heap.size) (hxA : ¬ A x) (h : va_Any E s s.heap x) : va_Any E s H x := by
  obtain ⟨cell, h1, h2⟩ := h
  exact ⟨cell, by rw [hS.2.1 x hx hxA]; exact h1, h2⟩
theorem va_A_not {a x sz : Nat} {c : va_E} (h1 : x < sz) (h2 : x ≠ a) : ¬ va_A [(a, c)] sz x := by
  rintro (⟨k, e, h⟩ | h)
  · match k, h with
    | 0, h => cases h; exact h2 rfl
    | k + 1, h => simp at h
  · omega
theorem any_ints {cl : List vw_C} {D : va_G} {tys : List (ClassId × FieldType)} {ws : va_W} {s : State} {H : Heap} {q t a n : Nat} {cA : ClassId} {f : Nat → Int32} (hK : va_K D cl tys s) (hP : va_P D cl ws H) (he : ws[q]? = some (a, .inl (cA, n, .inl f))) (ht : tys[t]? = some (cA, .int)) (hc : va_Nw (.castable "[I" "java/lang/Object") s) : va_Any "java/lang/Object" s H a := by
  have hn := va_nm_int (hK.2 t _ ht).2
  obtain ⟨kC, hkC, -⟩ := Vm.findClass_spec hn
  exact ⟨vp_cell cA (n, .inl f), hP q _ he, rfl, ⟨kC, hkC⟩, fun comp h => vb_asgC hc comp cA h hn⟩
/-- the world at a call that is handed some thing besides -/
def cAny (D : va_G) (tys : List (ClassId × FieldType)) (ws : va_W) (e sz x a : Nat) (U : State) : Prop := cIn D tys ws e sz U ∧ (va_Any "java/lang/Object" U U.heap x ∧ x < sz ∧ x ≠ a)
theorem cAny_blind {av : List Value} {D : va_G} {tys : List (ClassId × FieldType)} {ws : va_W} {e sz x a : Nat} : FrameBlind (va_Pc av (cAny D tys ws e sz x a)) := fun a' U g mk q => by
  obtain ⟨q0, q1, hy, q2⟩ := q
  exact ⟨q0, (cIn_blind (av := av) a' U g mk ⟨q0, q1⟩).2, any_moved hy (Vm.Alike.refl U.vm) rfl, q2⟩
theorem cAny_go {D : va_G} {tys tysC : List (ClassId × FieldType)} {ws wc : va_W} {e x a : Nat} {A : Nat → Prop} {s : State} {H : Heap} {locs : List Loc} {av : List Value} (hK : va_K D vwCl tys s) (hP : va_P D vwCl ws H) (hD : va_D A ws) (hE : ev e A s s.heap) (hS : va_S A s.heap H locs) (hA : ∀ q, s.heap.size ≤ q → A q) (isC : List Nat) (hC : isC.filterMap (fun i => ws[i]?) = wc) (hC2 : isC.map (fun i => ws[i]?) = wc.map some) (hn : va_nd isC = true) (isT : List Nat) (hT : isT.filterMap (fun i => tys[i]?) = tysC) (hx : va_Any "java/lang/Object" s H x) (hlt : x < H.size) (hne : x ≠ a) :
    ∀ U : State, U.heap = H → s.WarmedH U.vm → va_Pc av (cAny D tysC wc e H.size x a) av.toArray U := fun U hU hW =>
  ⟨rfl, (cIn_go (av := av) hK hP hD hE hS hA isC hC hC2 hn isT hT U hU hW).2, any_moved hx hW.alike hU, hlt, hne⟩
theorem lcmp_self (x : Int64) : lg_cmp x x = 0 := by simp [lg_cmp]
