set_option maxRecDepth 20000 in
theorem iw_RX14_wsX14_pass : ∀ w ∈ u_ws RX14 TX14 21, w ∈ wsX14_pass := by decide +kernel
set_option maxHeartbeats 4000000 in
set_option maxRecDepth 100000 in
theorem pass_loop (l : Launch) (hst : l.stackTraces = false) {p : Program} {e9 : Env} {s : State} {m : MethodId} {args : Array Value} {below : List Frame} {meth : Method} {c : Code} {Q : State → Prop} (D : va_G) (e h m1 m2 m3 m4 m5 m6 m7 m8 fr : Nat) {A : Nat → Prop} (hx : p.tables.exec = Jvm.exec) (hb : c.code = cX14_pass) (hml : c.maxLocals = 7) (hown : s.vm.findClass RX14 = some m.cls) (hts : ∀ w ∈ wsX14_pass, w.before args s = true) (hK : va_K D vwCl [] s) (hE : ev e A s s.heap) (hA : ∀ q : Nat, s.heap.size ≤ q → A q) {n : Nat} (hn : n ≤ 500) (kk : ∀ (H : Heap) (locs : List Loc) (ls : Array Slot), va_P D vwCl [(h, .inr (20, [.int 0, .ref m1, .int 0, .int 0, .ref m2, .ref m3, .int 0, .int 4, .int (-40), .ref m4, .int (nI n), .int 20, .int 0, .ref m5, .ref fr, .int 100, .int 60, .int 14, .ref m6, .ref m7, .ref m8])), (m4, .inr (5, [.int 0, .ref e, .int 0]))] H → va_D A [(h, .inr (20, [.int 0, .ref m1, .int 0, .int 0, .ref m2, .ref m3, .int 0, .int 4, .int (-40), .ref m4, .int (nI n), .int 20, .int 0, .ref m5, .ref fr, .int 100, .int 60, .int 14, .ref m6, .ref m7, .ref m8])), (m4, .inr (5, [.int 0, .ref e, .int 0]))] → va_S A s.heap H locs → lv_has ls 7 [(2, .int (nI n)), (0, .ref h), (1, .int (nI n))] → W p l e9 (headSpec wsX14_pass ({ frames := 20, cells := 500, slots := 2000, locals := 460 })).room s m args below meth c H locs 500 2000 Q (F0 m 266 ls [])) : ∀ (d k : Nat), k + d = n → ∀ (H : Heap) (locs : List Loc) (ls : Array Slot), va_P D vwCl [(h, .inr (20, [.int 0, .ref m1, .int 0, .int 0, .ref m2, .ref m3, .int 0, .int 4, .int (-40), .ref m4, .int (nI k), .int 20, .int 0, .ref m5, .ref fr, .int 100, .int 60, .int 14, .ref m6, .ref m7, .ref m8])), (m4, .inr (5, [.int 0, .ref e, .int 0]))] H → va_D A [(h, .inr (20, [.int 0, .ref m1, .int 0, .int 0, .ref m2, .ref m3, .int 0, .int 4, .int (-40), .ref m4, .int (nI k), .int 20, .int 0, .ref m5, .ref fr, .int 100, .int 60, .int 14, .ref m6, .ref m7, .ref m8])), (m4, .inr (5, [.int 0, .ref e, .int 0]))] → va_S A s.heap H locs → lv_has ls 7 [(2, .int (nI k)), (0, .ref h), (1, .int (nI n))] → W p l e9 (headSpec wsX14_pass ({ frames := 20, cells := 500, slots := 2000, locals := 460 })).room s m args below meth c H locs k (4 * k) Q (F0 m 43 ls []) := by
  intro d
  induction d with
  | zero =>
    intro k hk H locs ls hP hD hS hl
    obtain rfl : k = n := by omega
    refine lv_iload_n hx hb dX14_pass_43 rfl (lv_at hl 0 rfl) ?_
    refine lv_iload_n hx hb dX14_pass_44 rfl (lv_at hl 2 rfl) ?_
    refine lv_icmp_ge (tgt := 266) hx hb dX14_pass_45 (by decide) (fun _ => ?_) (fun h9 => absurd (nI_le (Nat.le_refl k) (by omega)) h9)
    refine W.widen (k := 500) (n := 2000) (by omega) (by omega) ?_
    exact kk H locs ls hP hD hS hl
  | succ d ih =>
    intro k hk H locs ls hP hD hS hl
    refine lv_iload_n hx hb dX14_pass_43 rfl (lv_at hl 0 rfl) ?_
    refine lv_iload_n hx hb dX14_pass_44 rfl (lv_at hl 2 rfl) ?_
    refine lv_icmp_ge (tgt := 266) hx hb dX14_pass_45 (by decide) (fun c_1 => absurd c_1 (nI_ge (by omega) (by omega))) (fun c_1 => ?_)
    refine lv_aload_n hx hb dX14_pass_48 rfl (lv_at hl 1 rfl) ?_
    refine lv_dup hx hb dX14_pass_49 rfl ?_
    refine va_get (D := D) (ci := 20) (v := .int (nI k)) (C := RX14) (T := TX14) (N := 21) hx hb hts iw_RX14_wsX14_pass hown hK hP 0 rfl rfl 10 (by decide) (hts (.fieldLink RX14 191 "CoatLineModel" "hour" "I") (by decide +kernel)) (fun _ h9 => h9) rfl dX14_pass_50 ?_
    refine lv_iconst (v := 1) hx hb dX14_pass_53 (by decide) ?_
    refine lv_iadd hx hb dX14_pass_54 ?_
    refine lv_topi (fun z_2 ez_2 => ?_)
    obtain rfl : z_2 = nI (k + 1) := ez_2.trans (nI_1 k)
    refine va_put (D := D) (ci := 20) (v := .int (nI (k + 1))) (ty := .int) (C := RX14) (T := TX14) (N := 21) hx hb hts iw_RX14_wsX14_pass tyX14 tyX14_ok nmX14 hown hK hP hD hS 0 rfl rfl 10 (by decide) (hts (.fieldLink RX14 191 "CoatLineModel" "hour" "I") (by decide +kernel)) (fun _ h9 => h9) rfl (by decide +kernel) rfl rfl (Nat.le_of_ble_eq_true rfl) dX14_pass_55 (fun H locs hP hD hS => ?_)
    have hP : va_P D vwCl [(h, .inr (20, [.int 0, .ref m1, .int 0, .int 0, .ref m2, .ref m3, .int 0, .int 4, .int (-40), .ref m4, .int (nI (k + 1)), .int 20, .int 0, .ref m5, .ref fr, .int 100, .int 60, .int 14, .ref m6, .ref m7, .ref m8])), (m4, .inr (5, [.int 0, .ref e, .int 0]))] H := hP
    have hD : va_D A [(h, .inr (20, [.int 0, .ref m1, .int 0, .int 0, .ref m2, .ref m3, .int 0, .int 4, .int (-40), .ref m4, .int (nI (k + 1)), .int 20, .int 0, .ref m5, .ref fr, .int 100, .int 60, .int 14, .ref m6, .ref m7, .ref m8])), (m4, .inr (5, [.int 0, .ref e, .int 0]))] := hD
    refine lv_aload_n hx hb dX14_pass_58 rfl (lv_at hl 1 rfl) ?_
    refine va_get (D := D) (ci := 20) (v := .ref m4) (C := RX14) (T := TX14) (N := 21) hx hb hts iw_RX14_wsX14_pass hown hK hP 0 rfl rfl 9 (by decide) (hts (.fieldLink RX14 29 "CoatLineModel" "cells" "Ljava/util/List;") (by decide +kernel)) (fun _ h9 => h9) rfl dX14_pass_59 ?_
    have hFc := va_free (wc := [(m4, .inr (5, [.int 0, .ref e, .int 0]))]) hD hS hA [1] rfl
    refine va_callFr (va_runF (As := []) (rest := []) (hK.1 5 _ rfl).2 ⟨hx, hb, hml, hown, hts⟩ (c_Jx4a65c_iterator_32c93 l hst D e m4 0 H.size) (va_cwF 0 hts gX14_pass_Jx4a65c_iterator_32c93_f231Jx4a65c rfl rfl rfl (ev_f hE (q := (RJx4a65c, ⟨"java/util/List", "iterator", "()Ljava/util/Iterator;"⟩, yJx4a65c_iterator_32c93)) (by decide +kernel)) (by decide +kernel) ⟨Nat.le_of_ble_eq_true rfl, Nat.le_of_ble_eq_true rfl⟩) ⟨cIn_blind, va_recv hK hP (ci := 5) (q0 := 1) rfl rfl, cIn_go hK hP hD hE hS hA [1] rfl rfl (by decide) [] rfl⟩ rfl rfl hl.1 rfl (lv_room (Nat.le_of_ble_eq_true rfl)) dX14_pass_62 ⟨by show k + 1 ≤ 500; omega, by show 4 * k + 4 ≤ 2000; omega⟩) hS (fun q _ h => hFc q h) hFc (fun u ra_4 t H1 locs ht hvm hw hB hz1 hk1 hS => ?_)
    obtain ⟨hP1, hK1, hD1⟩ := hB
    rw [ht] at hP1
    have hK1 := va_K.moved hvm.symm hK1
    obtain ⟨hP, hD⟩ := va_join (wr := [(h, .inr (20, [.int 0, .ref m1, .int 0, .int 0, .ref m2, .ref m3, .int 0, .int 4, .int (-40), .ref m4, .int (nI (k + 1)), .int 20, .int 0, .ref m5, .ref fr, .int 100, .int 60, .int 14, .ref m6, .ref m7, .ref m8]))]) (w1 := [(m4, .inr (5, [.int 0, .ref e, .int 0])), (ra_4, .inr (4, [.int 0, .int (-1), .int 0, .ref m4]))]) hP hD [1] [0] rfl rfl (by decide) (by decide) hk1 hFc hP1 hD1
    generalize H1 = H at hP hS ⊢
    have hP : va_P D vwCl [(h, .inr (20, [.int 0, .ref m1, .int 0, .int 0, .ref m2, .ref m3, .int 0, .int 4, .int (-40), .ref m4, .int (nI (k + 1)), .int 20, .int 0, .ref m5, .ref fr, .int 100, .int 60, .int 14, .ref m6, .ref m7, .ref m8])), (m4, .inr (5, [.int 0, .ref e, .int 0])), (ra_4, .inr (4, [.int 0, .int (-1), .int 0, .ref m4]))] H := hP
    have hD : va_D A [(h, .inr (20, [.int 0, .ref m1, .int 0, .int 0, .ref m2, .ref m3, .int 0, .int 4, .int (-40), .ref m4, .int (nI (k + 1)), .int 20, .int 0, .ref m5, .ref fr, .int 100, .int 60, .int 14, .ref m6, .ref m7, .ref m8])), (m4, .inr (5, [.int 0, .ref e, .int 0])), (ra_4, .inr (4, [.int 0, .int (-1), .int 0, .ref m4]))] := hD
    refine W.widen (k := k + 1) (n := 4 * (k + 1)) (by omega) (by omega) ?_
    refine lv_astore_n (lv' := [(3, .ref ra_4), (2, .int (nI k)), (0, .ref h), (1, .int (nI n))]) hx hb dX14_pass_67 rfl hl (by decide) rfl (fun ls hl => ?_)
    refine lv_aload_n hx hb dX14_pass_68 rfl (lv_at hl 0 rfl) ?_
    refine va_csFi (va_runF (As := []) (rest := []) (hK.1 4 _ rfl).2 ⟨hx, hb, hml, hown, hts⟩ (c_Jx35411_hasNext_aae02 l hst D e ra_4 m4 0 0 e H.size) (va_cwF 0 hts gX14_pass_Jx35411_hasNext_aae02_f235Jx35411 rfl rfl rfl (ev_f hE (q := (RJx35411, ⟨"java/util/Iterator", "hasNext", "()Z"⟩, yJx35411_hasNext_aae02)) (by decide +kernel)) (by decide +kernel) ⟨Nat.le_of_ble_eq_true rfl, Nat.le_of_ble_eq_true rfl⟩) ⟨cIn_blind, va_recv hK hP (ci := 4) (q0 := 2) rfl rfl, cIn_go hK hP hD hE hS hA [2, 1] rfl rfl (by decide) [] rfl⟩ rfl rfl hl.1 rfl (lv_room (Nat.le_of_ble_eq_true rfl)) dX14_pass_69 ⟨by show k + 1 + 0 ≤ 500; omega, by show 4 * (k + 1) + 0 ≤ 2000; omega⟩) (fun r_5 hw => ?_)
    have hw : r_5 = 0 := hw.trans (by first | rfl | decide +kernel)
    subst hw
    refine lv_if_eq (tgt := 260) hx hb dX14_pass_74 (by decide) (fun c_6 => ?_) (fun c_6 => absurd (show (0 : Int32) = 0 from by decide +kernel) c_6)
    refine lv_iinc (v := nI (k + 1)) (lv' := [(2, .int (nI (k + 1))), (3, .ref ra_4), (0, .ref h), (1, .int (nI n))]) hx hb dX14_pass_260 hl (k := 1) rfl (by first | exact nI_1 k | (rw [show Int32.ofInt 1 = (1 : Int32) from rfl]; exact nI_1 k)) (by decide) rfl (fun ls hl => ?_)
    refine lv_goto (tgt := 43) hx hb dX14_pass_263 (by decide) ?_
    exact ih (k + 1) (by omega) _ _ _ (hP.sub [0, 1] rfl) (hD.sub [0, 1] (by decide) rfl) hS (lv_sub hl [0, 2, 3] rfl)
-- X14_pass
def v_X14_pass (p0 : Int32) : Int32 := if (v_X14_isBetween p0 1 500) = 0 then 0 else p0
def k_X14_pass (p0 : Int32) : Int32 := if (v_X14_isBetween p0 1 500) = 0 then 1 else 0
set_option maxHeartbeats 4000000 in
set_option maxRecDepth 100000 in
theorem c_X14_pass (l : Launch) (hst : l.stackTraces = false) (D : va_G) (e : Nat) (h : Nat) (m1 : Nat) (m2 : Nat) (m3 : Nat) (m4 : Nat) (m5 : Nat) (m6 : Nat) (m7 : Nat) (m8 : Nat) (fr : Nat) (p0 : Int32) (sz : Nat) : Met l yX14_pass wsX14_pass ({ frames := 20, cells := 500, slots := 2000, locals := 460 }) (va_Pc [.ref h, .int p0] (cIn D [] [(h, .inr (20, [.int 0, .ref m1, .int 0, .int 0, .ref m2, .ref m3, .int 0, .int 4, .int (-40), .ref m4, .int 0, .int 20, .int 0, .ref m5, .ref fr, .int 100, .int 60, .int 14, .ref m6, .ref m7, .ref m8])), (m4, .inr (5, [.int 0, .ref e, .int 0]))] e sz)) (va_Qi (fun (r : Int32) (u : Int32 × List Value) => u.1 = k_X14_pass p0 ∧ r = v_X14_pass p0) (fun (u : Int32 × List Value) (t : State) => va_P D vwCl [(h, .inr (20, .int u.1 :: u.2))] t.heap ∧ va_K D vwCl [] t ∧ va_D (va_A [(h, .inr (20, [.int 0, .ref m1, .int 0, .int 0, .ref m2, .ref m3, .int 0, .int 4, .int (-40), .ref m4, .int 0, .int 20, .int 0, .ref m5, .ref fr, .int 100, .int 60, .int 14, .ref m6, .ref m7, .ref m8])), (m4, .inr (5, [.int 0, .ref e, .int 0]))] sz) [(h, .inr (20, .int u.1 :: u.2))]) (va_A [(h, .inr (20, [.int 0, .ref m1, .int 0, .int 0, .ref m2, .ref m3, .int 0, .int 4, .int (-40), .ref m4, .int 0, .int 20, .int 0, .ref m5, .ref fr, .int 100, .int 60, .int 14, .ref m6, .ref m7, .ref m8])), (m4, .inr (5, [.int 0, .ref e, .int 0]))] sz)) 500 2000 (va_A [(h, .inr (20, [.int 0, .ref m1, .int 0, .int 0, .ref m2, .ref m3, .int 0, .int 4, .int (-40), .ref m4, .int 0, .int 20, .int 0, .ref m5, .ref fr, .int 100, .int 60, .int 14, .ref m6, .ref m7, .ref m8])), (m4, .inr (5, [.int 0, .ref e, .int 0]))] sz) := by
  refine Met.ofW (cc := cX14_pass) (maxL := 7) (ret := (some .int)) (by decide +kernel) rfl ?_
  intro p e9 s m args below meth c s₁ B hml hv
  obtain ⟨rfl, hsz, hP, hK, hD0, hE0⟩ := hv
  have hx := B.exec
  have hb := B.bytes
  have hr := B.returns
  have hts := atoms_spec (ws := wsX14_pass) B.pre
  have hown : s.vm.findClass RX14 = some m.cls := findClass_of_methodNamed B.named
  have hlocks := B.notSynchronized
  subst hsz
  have hD := hD0.self (sz := s.heap.size)
  generalize hAe : va_A [(h, .inr (20, [.int 0, .ref m1, .int 0, .int 0, .ref m2, .ref m3, .int 0, .int 4, .int (-40), .ref m4, .int 0, .int 20, .int 0, .ref m5, .ref fr, .int 100, .int 60, .int 14, .ref m6, .ref m7, .ref m8])), (m4, .inr (5, [.int 0, .ref e, .int 0]))] s.heap.size = A at hD hE0 ⊢
  have hA : ∀ q : Nat, s.heap.size ≤ q → A q := fun q h => by rw [← hAe]; exact Or.inr h
  have hS : va_S A s.heap s.heap [] := va_S.rf
  have hE := hE0
  have hP : va_P D vwCl [(h, .inr (20, [.int 0, .ref m1, .int 0, .int 0, .ref m2, .ref m3, .int 0, .int 4, .int (-40), .ref m4, .int 0, .int 20, .int 0, .ref m5, .ref fr, .int 100, .int 60, .int 14, .ref m6, .ref m7, .ref m8])), (m4, .inr (5, [.int 0, .ref e, .int 0]))] s.heap := hP
  have hl := lv_entry ([.ref h, .int p0]) (n := 7) (Nat.le_of_ble_eq_true rfl)
  rw [lg_entry_eq]
  generalize (lg_sl ([.ref h, .int p0]) ++ List.replicate (7 - (lg_sl ([.ref h, .int p0])).length) Slot.unset).toArray = ls at hl ⊢
  have hl : lv_has ls 7 [(0, .ref h), (1, .int p0)] := hl
  refine lv_aload_n hx hb dX14_pass_0 rfl (lv_at hl 0 rfl) ?_
  refine lv_iload_n hx hb dX14_pass_1 rfl (lv_at hl 1 rfl) ?_
  refine lv_iconst (v := 1) hx hb dX14_pass_2 (by decide) ?_
  refine lv_sipush (v := 500) hx hb dX14_pass_3 (by decide) ?_
  refine vp_callSi (va_Run.run (va_runS (As := [.int p0, .int 1, .int 500]) (rest := [.ref h]) ⟨hx, hb, hml, hown, hts⟩ (c_X14_isBetween l hst D e p0 1 500 s.heap.size) (va_cwS 3 hts gX14_pass_X14_isBetween rfl rfl rfl (by decide +kernel) ⟨Nat.le_of_ble_eq_true rfl, Nat.le_of_ble_eq_true rfl⟩) ⟨cIn_blind, cIn_go hK hP hD hE hS hA [] rfl rfl (by decide) [] rfl⟩ rfl rfl hl.1 rfl (lv_room (Nat.le_of_ble_eq_true rfl)) dX14_pass_6 ⟨Nat.le_of_ble_eq_true rfl, Nat.le_of_ble_eq_true rfl⟩)) (fun r_1 hw => ?_)
  subst hw
  refine lv_if_ne (tgt := 16) hx hb dX14_pass_9 (by decide) (fun c_2 => ?_) (fun c_2 => ?_)
  · refine lv_aload_n hx hb dX14_pass_16 rfl (lv_at hl 0 rfl) ?_
    refine va_get (D := D) (ci := 20) (v := .int 0) (C := RX14) (T := TX14) (N := 21) hx hb hts iw_RX14_wsX14_pass hown hK hP 0 rfl rfl 10 (by decide) (hts (.fieldLink RX14 191 "CoatLineModel" "hour" "I") (by decide +kernel)) (fun _ h9 => h9) rfl dX14_pass_17 ?_
    refine lv_iload_n hx hb dX14_pass_20 rfl (lv_at hl 1 rfl) ?_
    refine lv_iadd hx hb dX14_pass_21 ?_
    refine lv_sipush (v := 9999) hx hb dX14_pass_22 (by decide) ?_
    refine lv_icmp_le (tgt := 32) hx hb dX14_pass_25 (by decide) (fun c_3 => ?_) (fun c_3 => absurd (bt_pass2 c_2) c_3)
    refine lv_iconst (v := 0) hx hb dX14_pass_32 (by decide) ?_
    have hFc := va_free (wc := [(h, .inr (20, [.int 0, .ref m1, .int 0, .int 0, .ref m2, .ref m3, .int 0, .int 4, .int (-40), .ref m4, .int 0, .int 20, .int 0, .ref m5, .ref fr, .int 100, .int 60, .int 14, .ref m6, .ref m7, .ref m8]))]) hD hS hA [0] rfl
    refine va_calli (va_runV (As := [.int 0]) (rest := []) ⟨hx, hb, hml, hown, hts⟩ (c_X14_isWrong l hst D e h 0 ([.ref m1, .int 0, .int 0, .ref m2, .ref m3, .int 0, .int 4, .int (-40), .ref m4, .int 0, .int 20, .int 0, .ref m5, .ref fr, .int 100, .int 60, .int 14, .ref m6, .ref m7, .ref m8]) 0 s.heap.size) (cwV 1 hts gX14_pass_X14_isWrong rfl rfl rfl (by decide +kernel) ⟨Nat.le_of_ble_eq_true rfl, Nat.le_of_ble_eq_true rfl⟩) ⟨cIn_blind, va_recv hK hP (ci := 20) (q0 := 0) rfl rfl, cIn_go hK hP hD hE hS hA [0] rfl rfl (by decide) [] rfl⟩ rfl rfl hl.1 rfl (lv_room (Nat.le_of_ble_eq_true rfl)) dX14_pass_33 ⟨Nat.le_of_ble_eq_true rfl, Nat.le_of_ble_eq_true rfl⟩) hS (fun q _ h => hFc q h) hFc (fun r_4 u t H1 locs ht hvm hw hB hz1 hk1 hS => ?_)
    obtain ⟨hP1, hK1, hD1⟩ := hB
    rw [ht] at hP1
    have hK1 := va_K.moved hvm.symm hK1
    obtain ⟨hP, hD⟩ := va_join (wr := [(m4, .inr (5, [.int 0, .ref e, .int 0]))]) (w1 := [(h, .inr (20, [.int 0, .ref m1, .int 0, .int 0, .ref m2, .ref m3, .int 0, .int 4, .int (-40), .ref m4, .int 0, .int 20, .int 0, .ref m5, .ref fr, .int 100, .int 60, .int 14, .ref m6, .ref m7, .ref m8]))]) hP hD [0] [1] rfl rfl (by decide) (by decide) hk1 hFc hP1 hD1
    generalize H1 = H at hP hS ⊢
    have hP : va_P D vwCl [(m4, .inr (5, [.int 0, .ref e, .int 0])), (h, .inr (20, [.int 0, .ref m1, .int 0, .int 0, .ref m2, .ref m3, .int 0, .int 4, .int (-40), .ref m4, .int 0, .int 20, .int 0, .ref m5, .ref fr, .int 100, .int 60, .int 14, .ref m6, .ref m7, .ref m8]))] H := hP
    have hD : va_D A [(m4, .inr (5, [.int 0, .ref e, .int 0])), (h, .inr (20, [.int 0, .ref m1, .int 0, .int 0, .ref m2, .ref m3, .int 0, .int 4, .int (-40), .ref m4, .int 0, .int 20, .int 0, .ref m5, .ref fr, .int 100, .int 60, .int 14, .ref m6, .ref m7, .ref m8]))] := hD
    have hw : r_4 = 0 := hw.trans (by first | rfl | decide +kernel)
    subst hw
    refine lv_if_eq (tgt := 41) hx hb dX14_pass_36 (by decide) (fun c_6 => ?_) (fun c_6 => absurd (show (0 : Int32) = 0 from by decide +kernel) c_6)
    refine lv_iconst (v := 0) hx hb dX14_pass_41 (by decide) ?_
    refine lv_istore_n (lv' := [(2, .int 0), (0, .ref h), (1, .int p0)]) hx hb dX14_pass_42 rfl hl (by decide) rfl (fun ls hl => ?_)
    obtain ⟨n, hn0, hn1, hp⟩ := bt_pass c_2
    subst hp
    refine pass_loop l hst D e h m1 m2 m3 m4 m5 m6 m7 m8 fr hx hb hml hown hts hK hE hA hn1 (fun H locs ls hP hD hS hl => ?_) n 0 (Nat.zero_add n) _ _ _ (hP.sub [1, 0] rfl) (hD.sub [1, 0] (by decide) rfl) hS (lv_sub hl [0, 1, 2] rfl)
    refine lv_aload_n hx hb dX14_pass_266 rfl (lv_at hl 1 rfl) ?_
    refine va_get (D := D) (ci := 20) (v := .int (nI n)) (C := RX14) (T := TX14) (N := 21) hx hb hts iw_RX14_wsX14_pass hown hK hP 0 rfl rfl 10 (by decide) (hts (.fieldLink RX14 191 "CoatLineModel" "hour" "I") (by decide +kernel)) (fun _ h9 => h9) rfl dX14_pass_267 ?_
    exact W.iret (v := (nI n)) hx hb hr (fun t ht hW => ⟨⟨(nI n), ((0, [.ref m1, .int 0, .int 0, .ref m2, .ref m3, .int 0, .int 4, .int (-40), .ref m4, .int (nI n), .int 20, .int 0, .ref m5, .ref fr, .int 100, .int 60, .int 14, .ref m6, .ref m7, .ref m8]) : Int32 × List Value), rfl, ⟨(by unfold k_X14_pass; rw [if_neg c_2]), (by unfold v_X14_pass; rw [if_neg c_2])⟩, ⟨by rw [ht]; exact hP.sub [0] rfl, va_K.moved hW.alike (hK.sub [] rfl), hD.sub [0] (by decide) rfl⟩⟩, hS.F ht⟩) hS.2.2 dX14_pass_270
  · refine lv_iconst (v := 1) hx hb dX14_pass_12 (by decide) ?_
    refine lv_goto (tgt := 33) hx hb dX14_pass_13 (by decide) ?_
    have hFc := va_free (wc := [(h, .inr (20, [.int 0, .ref m1, .int 0, .int 0, .ref m2, .ref m3, .int 0, .int 4, .int (-40), .ref m4, .int 0, .int 20, .int 0, .ref m5, .ref fr, .int 100, .int 60, .int 14, .ref m6, .ref m7, .ref m8]))]) hD hS hA [0] rfl
    refine va_calli (va_runV (As := [.int 1]) (rest := []) ⟨hx, hb, hml, hown, hts⟩ (c_X14_isWrong l hst D e h 0 ([.ref m1, .int 0, .int 0, .ref m2, .ref m3, .int 0, .int 4, .int (-40), .ref m4, .int 0, .int 20, .int 0, .ref m5, .ref fr, .int 100, .int 60, .int 14, .ref m6, .ref m7, .ref m8]) 1 s.heap.size) (cwV 1 hts gX14_pass_X14_isWrong rfl rfl rfl (by decide +kernel) ⟨Nat.le_of_ble_eq_true rfl, Nat.le_of_ble_eq_true rfl⟩) ⟨cIn_blind, va_recv hK hP (ci := 20) (q0 := 0) rfl rfl, cIn_go hK hP hD hE hS hA [0] rfl rfl (by decide) [] rfl⟩ rfl rfl hl.1 rfl (lv_room (Nat.le_of_ble_eq_true rfl)) dX14_pass_33 ⟨Nat.le_of_ble_eq_true rfl, Nat.le_of_ble_eq_true rfl⟩) hS (fun q _ h => hFc q h) hFc (fun r_7 u t H1 locs ht hvm hw hB hz1 hk1 hS => ?_)
    obtain ⟨hP1, hK1, hD1⟩ := hB
    rw [ht] at hP1
    have hK1 := va_K.moved hvm.symm hK1
    obtain ⟨hP, hD⟩ := va_join (wr := [(m4, .inr (5, [.int 0, .ref e, .int 0]))]) (w1 := [(h, .inr (20, [.int 1, .ref m1, .int 0, .int 0, .ref m2, .ref m3, .int 0, .int 4, .int (-40), .ref m4, .int 0, .int 20, .int 0, .ref m5, .ref fr, .int 100, .int 60, .int 14, .ref m6, .ref m7, .ref m8]))]) hP hD [0] [1] rfl rfl (by decide) (by decide) hk1 hFc hP1 hD1
    generalize H1 = H at hP hS ⊢
    have hP : va_P D vwCl [(m4, .inr (5, [.int 0, .ref e, .int 0])), (h, .inr (20, [.int 1, .ref m1, .int 0, .int 0, .ref m2, .ref m3, .int 0, .int 4, .int (-40), .ref m4, .int 0, .int 20, .int 0, .ref m5, .ref fr, .int 100, .int 60, .int 14, .ref m6, .ref m7, .ref m8]))] H := hP
    have hD : va_D A [(m4, .inr (5, [.int 0, .ref e, .int 0])), (h, .inr (20, [.int 1, .ref m1, .int 0, .int 0, .ref m2, .ref m3, .int 0, .int 4, .int (-40), .ref m4, .int 0, .int 20, .int 0, .ref m5, .ref fr, .int 100, .int 60, .int 14, .ref m6, .ref m7, .ref m8]))] := hD
    have hw : r_7 = 1 := hw.trans (by first | rfl | decide +kernel)
    subst hw
    refine lv_if_eq (tgt := 41) hx hb dX14_pass_36 (by decide) (fun c_9 => absurd c_9 (show ¬ ((1 : Int32) = 0) from by decide +kernel)) (fun c_9 => ?_)
    refine lv_iconst (v := 0) hx hb dX14_pass_39 (by decide) ?_
    refine W.widen (k := 500) (n := 2000) (Nat.le_of_ble_eq_true rfl) (Nat.le_of_ble_eq_true rfl) ?_
    exact W.iret (v := 0) hx hb hr (fun t ht hW => ⟨⟨0, ((1, [.ref m1, .int 0, .int 0, .ref m2, .ref m3, .int 0, .int 4, .int (-40), .ref m4, .int 0, .int 20, .int 0, .ref m5, .ref fr, .int 100, .int 60, .int 14, .ref m6, .ref m7, .ref m8]) : Int32 × List Value), rfl, ⟨(by unfold k_X14_pass; rw [if_pos c_2]), (by unfold v_X14_pass; rw [if_pos c_2])⟩, ⟨by rw [ht]; exact hP.sub [1] rfl, va_K.moved hW.alike (hK.sub [] rfl), hD.sub [1] (by decide) rfl⟩⟩, hS.F ht⟩) hS.2.2 dX14_pass_40
