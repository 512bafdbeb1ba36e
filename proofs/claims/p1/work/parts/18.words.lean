theorem evX_tbl : ∀ q ∈ evX, Cond.stringRef RX10 q.1 q.2 ∈ lw_tbl := by decide +kernel
theorem evX_nar : ∀ q ∈ evX, Cond.exactly (.string RX10 q.1) "java/lang/String" ∈ flatC (Jvm.Cond.and given_1 narrow_1) := by decide +kernel
theorem evF_tbl : ∀ q ∈ evF, Cond.declares q.2.1 ∈ lw_tbl ∧ Cond.interfaceMethod q.2.1.cls q.2.1.cls q.2.1.name q.2.1.desc ∈ lw_tbl ∧ Cond.publicMethod q.2.2 ∈ lw_tbl ∧ Cond.unhidden q.1 q.2.1.name q.2.1.desc ∈ lw_tbl ∧ Cond.castable q.1 q.2.1.cls ∈ lw_tbl := by decide +kernel
theorem evW_tbl : ∀ w ∈ evW, w ∈ lw_tbl := by decide +kernel
theorem evW_on : ∀ w ∈ evW, w.onTables = true := by decide +kernel
theorem vwCl_tbl : ∀ q ∈ vwCl, (∀ w ∈ u_ws q.1 q.2.1 q.2.2, w ∈ lw_tbl) ∧ Cond.instantiable q.1 q.2.2 ∈ lw_tbl := by decide +kernel
