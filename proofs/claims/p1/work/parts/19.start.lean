set_option maxHeartbeats 4000000 in
set_option maxRecDepth 100000 in
theorem ev_start {s : State} {b : Nat} (hts : ∀ w ∈ lw_tbl, w.before #[Value.ref b] s = true) (hgv : (Jvm.Cond.and given_1 narrow_1).before #[Value.ref b] s = true) : ∃ e : Nat, ev e (fun q : Nat => s.heap.size ≤ q) s s.heap := by
  have hA : ∀ a : Nat, a < s.heap.size → ¬ (fun q : Nat => s.heap.size ≤ q) a := fun a h h2 => absurd h (Nat.not_lt.mpr h2)
  have hs := flat_of_before _ hgv
  have hU := vx_Zqof (C := Bundle.tN) (n := "UNASSIGNED_STACK") (d := Bundle.steD) (hts _ (by decide +kernel)) (hts _ (by decide +kernel)) (hs _ (by decide +kernel)) hA
  have hN := vx_Zqof (C := Bundle.tN) (n := "SUPPRESSED_SENTINEL") (d := Bundle.listD) (hts _ (by decide +kernel)) (hts _ (by decide +kernel)) (hs _ (by decide +kernel)) hA
  have hlen : (Term.length (.static RJx4a65c "DEFAULTCAPACITY_EMPTY_ELEMENTDATA" "[Ljava/lang/Object;")).eval #[Value.ref b] s none [] s = some (.int (Int32.ofNat 0)) := by
    have h : (Cond.eq (.length (.static RJx4a65c "DEFAULTCAPACITY_EMPTY_ELEMENTDATA" "[Ljava/lang/Object;")) (.int 0)).before #[Value.ref b] s = true := hs _ (by decide +kernel)
    obtain ⟨y, h1, h2⟩ := Cond.eq_one h
    cases h2
    exact h1
  obtain ⟨e, he1, he2⟩ := va_Tof (tm := .static RJx4a65c "DEFAULTCAPACITY_EMPTY_ELEMENTDATA" "[Ljava/lang/Object;") (ty := .object "java/lang/Object") (N := 0) (f := fun _ => Value.null) (by decide) (hs _ (by decide +kernel)) hlen (fun j hj => absurd hj (Nat.not_lt_zero j)) hA
  have hZ := va_Zof (C := RJx4a65c) (n := "DEFAULTCAPACITY_EMPTY_ELEMENTDATA") (d := "[Ljava/lang/Object;") (hts _ (by decide +kernel)) (hts _ (by decide +kernel)) he1 hA
  refine ⟨e, ⟨⟨hU, hN⟩, hZ, he2⟩, fun q hq => ?_, ⟨va_Nc.of (hs _ (by decide +kernel)), va_Nc.of (hs _ (by decide +kernel))⟩, fun q hq => ?_, fun w hw => va_Nw.of (evW_on w hw) (hts w (evW_tbl w hw)), va_AO.of (hts _ (by decide +kernel))⟩
  · have h2 : (Cond.exactly (.string RX10 q.1) "java/lang/String").before #[Value.ref b] s = true := hs _ (evX_nar q hq)
    obtain ⟨a, c, cell, k, h3, -⟩ := Cond.exactly_spec h2
    exact ⟨a, vk_R.of (hts _ (evX_tbl q hq)) h3⟩
  · obtain ⟨h1, h2, h3, h4, h5⟩ := evF_tbl q hq
    exact va_Fw.of (hts _ h1) (hts _ h2) (hts _ h3) (hts _ h4) (hts _ h5)
theorem kn_start {s : State} {b : Nat} (hts : ∀ w ∈ lw_tbl, w.before #[Value.ref b] s = true) : ∃ D : va_G, va_K D vwCl [] s := by
  have h : ∀ c : Nat, ∃ (cC : ClassId) (iS : Nat → Nat), ∀ q : vw_C, vwCl[c]? = some q → u_Kn s q.1 q.2.1 q.2.2 cC iS := by
    intro c
    cases hc : vwCl[c]? with
    | none => exact ⟨(0 : Nat), fun _ => 0, fun q hq => by cases hq⟩
    | some q =>
      obtain ⟨h1, h2⟩ := vwCl_tbl q (List.mem_of_getElem? hc)
      obtain ⟨cC, iS, h3⟩ := u_known (C := q.1) (T := q.2.1) (N := q.2.2) (n := q.2.2) hts h1 (hts _ h2)
      exact ⟨cC, iS, fun q2 hq => by cases hq; exact h3⟩
  exact ⟨(fun c => (h c).choose, fun c => (h c).choose_spec.choose), fun c q hq => (h c).choose_spec.choose_spec q hq, fun k q h => by simp at h⟩
