theorem rw_in {v a b : Int32} (h : a ≤ v ∧ v ≤ b) : t_X10_requireWithin v a b = 0 := by
  unfold t_X10_requireWithin
  rw [if_neg (by have h1 := h.1; simp only [Int32.lt_iff_toInt_lt, Int32.le_iff_toInt_le] at *; omega), if_pos h.2]
theorem rw_out {v a b : Int32} (h : ¬ (a ≤ v ∧ v ≤ b)) : t_X10_requireWithin v a b = 1 := by
  unfold t_X10_requireWithin
  by_cases h1 : v < a
  · rw [if_pos h1]
  · rw [if_neg h1, if_neg (fun h2 => h ⟨by simp only [Int32.lt_iff_toInt_lt, Int32.le_iff_toInt_le] at *; omega, h2⟩)]
theorem bt_in {v a b : Int32} (h : a ≤ v ∧ v ≤ b) : v_X14_isBetween v a b = 1 := by
  unfold v_X14_isBetween
  rw [if_neg (by have h1 := h.1; simp only [Int32.lt_iff_toInt_lt, Int32.le_iff_toInt_le] at *; omega), if_neg (by have h1 := h.2; simp only [Int32.lt_iff_toInt_lt, Int32.le_iff_toInt_le] at *; omega)]
theorem bt_out {v a b : Int32} (h : ¬ (a ≤ v ∧ v ≤ b)) : v_X14_isBetween v a b = 0 := by
  unfold v_X14_isBetween
  by_cases h1 : v < a
  · rw [if_pos h1]
  · rw [if_neg h1]
    by_cases h2 : b < v
    · rw [if_pos h2]
    · exact absurd (show a ≤ v ∧ v ≤ b from ⟨by simp only [Int32.lt_iff_toInt_lt, Int32.le_iff_toInt_le] at *; omega, by simp only [Int32.lt_iff_toInt_lt, Int32.le_iff_toInt_le] at *; omega⟩) h
theorem i1_0 : ¬ ((1 : Int32) = 0) := by decide
theorem i0_0 : (0 : Int32) = 0 := rfl
theorem n0i : (0 : Int32).toInt = 0 := rfl
theorem n3i : (3 : Int32).toInt = 3 := rfl
theorem n4i : (4 : Int32).toInt = 4 := rfl
theorem eqk_gap (p0 : Int32) : k_X14_gap p0 = v_L_gap p0 := by
  by_cases h0 : 0 ≤ p0 ∧ p0 ≤ 9
  · (simp only [t_X10_gap, v_X10_gap, k_X14_gap, v_X14_gap, v_L_gap, rw_in h0, bt_in h0, if_pos i0_0, if_pos i0_0, if_neg i1_0]; repeat' split) <;> first | rfl | (simp_all; done) | (exfalso; simp only [Int32.lt_iff_toInt_lt, Int32.le_iff_toInt_le, n0i, n3i, n4i] at *; omega)
  · (simp only [t_X10_gap, v_X10_gap, k_X14_gap, v_X14_gap, v_L_gap, rw_out h0, bt_out h0, if_pos i0_0, if_pos i0_0, if_neg i1_0]; repeat' split) <;> first | rfl | (simp_all; done) | (exfalso; simp only [Int32.lt_iff_toInt_lt, Int32.le_iff_toInt_le, n0i, n3i, n4i] at *; omega)
theorem eqo_gap (p0 : Int32) (hz : v_L_gap p0 = 0) : o_L_gap p0 = (v_X14_gap p0).toInt64 := by
  by_cases h0 : 0 ≤ p0 ∧ p0 ≤ 9
  · (revert hz; simp only [t_X10_gap, v_X10_gap, k_X14_gap, v_X14_gap, v_L_gap, o_L_gap, rw_in h0, bt_in h0, if_pos i0_0, if_pos i0_0, if_neg i1_0]; repeat' split) <;> first | (intro hz; rfl) | (intro hz; exact absurd hz (by decide)) | (intro hz; simp_all; done) | (intro hz; exfalso; simp only [Int32.lt_iff_toInt_lt, Int32.le_iff_toInt_le, n0i, n3i, n4i] at *; omega)
  · (revert hz; simp only [t_X10_gap, v_X10_gap, k_X14_gap, v_X14_gap, v_L_gap, o_L_gap, rw_out h0, bt_out h0, if_pos i0_0, if_pos i0_0, if_neg i1_0]; repeat' split) <;> first | (intro hz; rfl) | (intro hz; exact absurd hz (by decide)) | (intro hz; simp_all; done) | (intro hz; exfalso; simp only [Int32.lt_iff_toInt_lt, Int32.le_iff_toInt_le, n0i, n3i, n4i] at *; omega)
theorem eqk_dew (p0 : Int32) : k_X14_dew p0 = v_L_dew p0 := by
  by_cases h0 : (-60) ≤ p0 ∧ p0 ≤ 0
  · (simp only [t_X10_dew, v_X10_dew, k_X14_dew, v_X14_dew, v_L_dew, rw_in h0, bt_in h0, if_pos i0_0, if_pos i0_0, if_neg i1_0]; repeat' split) <;> first | rfl | (simp_all; done) | (exfalso; simp only [Int32.lt_iff_toInt_lt, Int32.le_iff_toInt_le, n0i, n3i, n4i] at *; omega)
  · (simp only [t_X10_dew, v_X10_dew, k_X14_dew, v_X14_dew, v_L_dew, rw_out h0, bt_out h0, if_pos i0_0, if_pos i0_0, if_neg i1_0]; repeat' split) <;> first | rfl | (simp_all; done) | (exfalso; simp only [Int32.lt_iff_toInt_lt, Int32.le_iff_toInt_le, n0i, n3i, n4i] at *; omega)
theorem eqo_dew (p0 : Int32) (hz : v_L_dew p0 = 0) : o_L_dew p0 = (v_X14_dew p0).toInt64 := by
  by_cases h0 : (-60) ≤ p0 ∧ p0 ≤ 0
  · (revert hz; simp only [t_X10_dew, v_X10_dew, k_X14_dew, v_X14_dew, v_L_dew, o_L_dew, rw_in h0, bt_in h0, if_pos i0_0, if_pos i0_0, if_neg i1_0]; repeat' split) <;> first | (intro hz; rfl) | (intro hz; exact absurd hz (by decide)) | (intro hz; simp_all; done) | (intro hz; exfalso; simp only [Int32.lt_iff_toInt_lt, Int32.le_iff_toInt_le, n0i, n3i, n4i] at *; omega)
  · (revert hz; simp only [t_X10_dew, v_X10_dew, k_X14_dew, v_X14_dew, v_L_dew, o_L_dew, rw_out h0, bt_out h0, if_pos i0_0, if_pos i0_0, if_neg i1_0]; repeat' split) <;> first | (intro hz; rfl) | (intro hz; exact absurd hz (by decide)) | (intro hz; simp_all; done) | (intro hz; exfalso; simp only [Int32.lt_iff_toInt_lt, Int32.le_iff_toInt_le, n0i, n3i, n4i] at *; omega)
theorem eqk_room (p0 : Int32) : k_X14_room p0 = v_L_room p0 := by
  by_cases h0 : (-20) ≤ p0 ∧ p0 ≤ 40
  · (simp only [t_X10_room, v_X10_room, k_X14_room, v_X14_room, v_L_room, rw_in h0, bt_in h0, if_pos i0_0, if_pos i0_0, if_neg i1_0]; repeat' split) <;> first | rfl | (simp_all; done) | (exfalso; simp only [Int32.lt_iff_toInt_lt, Int32.le_iff_toInt_le, n0i, n3i, n4i] at *; omega)
  · (simp only [t_X10_room, v_X10_room, k_X14_room, v_X14_room, v_L_room, rw_out h0, bt_out h0, if_pos i0_0, if_pos i0_0, if_neg i1_0]; repeat' split) <;> first | rfl | (simp_all; done) | (exfalso; simp only [Int32.lt_iff_toInt_lt, Int32.le_iff_toInt_le, n0i, n3i, n4i] at *; omega)
theorem eqo_room (p0 : Int32) (hz : v_L_room p0 = 0) : o_L_room p0 = (v_X14_room p0).toInt64 := by
  by_cases h0 : (-20) ≤ p0 ∧ p0 ≤ 40
  · (revert hz; simp only [t_X10_room, v_X10_room, k_X14_room, v_X14_room, v_L_room, o_L_room, rw_in h0, bt_in h0, if_pos i0_0, if_pos i0_0, if_neg i1_0]; repeat' split) <;> first | (intro hz; rfl) | (intro hz; exact absurd hz (by decide)) | (intro hz; simp_all; done) | (intro hz; exfalso; simp only [Int32.lt_iff_toInt_lt, Int32.le_iff_toInt_le, n0i, n3i, n4i] at *; omega)
  · (revert hz; simp only [t_X10_room, v_X10_room, k_X14_room, v_X14_room, v_L_room, o_L_room, rw_out h0, bt_out h0, if_pos i0_0, if_pos i0_0, if_neg i1_0]; repeat' split) <;> first | (intro hz; rfl) | (intro hz; exact absurd hz (by decide)) | (intro hz; simp_all; done) | (intro hz; exfalso; simp only [Int32.lt_iff_toInt_lt, Int32.le_iff_toInt_le, n0i, n3i, n4i] at *; omega)
theorem eqk_drift (p0 : Int32) : k_X14_drift p0 = v_L_drift p0 := by
  by_cases h0 : 0 ≤ p0 ∧ p0 ≤ 99
  · (simp only [t_X10_drift, v_X10_drift, k_X14_drift, v_X14_drift, v_L_drift, rw_in h0, bt_in h0, if_pos i0_0, if_pos i0_0, if_neg i1_0]; repeat' split) <;> first | rfl | (simp_all; done) | (exfalso; simp only [Int32.lt_iff_toInt_lt, Int32.le_iff_toInt_le, n0i, n3i, n4i] at *; omega)
  · (simp only [t_X10_drift, v_X10_drift, k_X14_drift, v_X14_drift, v_L_drift, rw_out h0, bt_out h0, if_pos i0_0, if_pos i0_0, if_neg i1_0]; repeat' split) <;> first | rfl | (simp_all; done) | (exfalso; simp only [Int32.lt_iff_toInt_lt, Int32.le_iff_toInt_le, n0i, n3i, n4i] at *; omega)
theorem eqo_drift (p0 : Int32) (hz : v_L_drift p0 = 0) : o_L_drift p0 = (v_X14_drift p0).toInt64 := by
  by_cases h0 : 0 ≤ p0 ∧ p0 ≤ 99
  · (revert hz; simp only [t_X10_drift, v_X10_drift, k_X14_drift, v_X14_drift, v_L_drift, o_L_drift, rw_in h0, bt_in h0, if_pos i0_0, if_pos i0_0, if_neg i1_0]; repeat' split) <;> first | (intro hz; rfl) | (intro hz; exact absurd hz (by decide)) | (intro hz; simp_all; done) | (intro hz; exfalso; simp only [Int32.lt_iff_toInt_lt, Int32.le_iff_toInt_le, n0i, n3i, n4i] at *; omega)
  · (revert hz; simp only [t_X10_drift, v_X10_drift, k_X14_drift, v_X14_drift, v_L_drift, o_L_drift, rw_out h0, bt_out h0, if_pos i0_0, if_pos i0_0, if_neg i1_0]; repeat' split) <;> first | (intro hz; rfl) | (intro hz; exact absurd hz (by decide)) | (intro hz; simp_all; done) | (intro hz; exfalso; simp only [Int32.lt_iff_toInt_lt, Int32.le_iff_toInt_le, n0i, n3i, n4i] at *; omega)
theorem eqk_bounds (p0 p1 p2 : Int32) : k_X14_bounds p0 p1 p2 = v_L_bounds p0 p1 p2 := by
  by_cases h0 : 0 ≤ p2 ∧ p2 ≤ 99
  · (simp only [t_X10_bounds, v_X10_bounds, k_X14_bounds, v_X14_bounds, v_L_bounds, rw_in h0, bt_in h0, if_pos i0_0, if_pos i0_0, if_neg i1_0]; repeat' split) <;> first | rfl | (simp_all; done) | (exfalso; simp only [Int32.lt_iff_toInt_lt, Int32.le_iff_toInt_le, n0i, n3i, n4i] at *; omega)
  · (simp only [t_X10_bounds, v_X10_bounds, k_X14_bounds, v_X14_bounds, v_L_bounds, rw_out h0, bt_out h0, if_pos i0_0, if_pos i0_0, if_neg i1_0]; repeat' split) <;> first | rfl | (simp_all; done) | (exfalso; simp only [Int32.lt_iff_toInt_lt, Int32.le_iff_toInt_le, n0i, n3i, n4i] at *; omega)
theorem eqo_bounds (p0 p1 p2 : Int32) (hz : v_L_bounds p0 p1 p2 = 0) : o_L_bounds p0 p1 p2 = (v_X14_bounds p0 p1 p2).toInt64 := by
  by_cases h0 : 0 ≤ p2 ∧ p2 ≤ 99
  · (revert hz; simp only [t_X10_bounds, v_X10_bounds, k_X14_bounds, v_X14_bounds, v_L_bounds, o_L_bounds, rw_in h0, bt_in h0, if_pos i0_0, if_pos i0_0, if_neg i1_0]; repeat' split) <;> first | (intro hz; rfl) | (intro hz; exact absurd hz (by decide)) | (intro hz; simp_all; done) | (intro hz; exfalso; simp only [Int32.lt_iff_toInt_lt, Int32.le_iff_toInt_le, n0i, n3i, n4i] at *; omega)
  · (revert hz; simp only [t_X10_bounds, v_X10_bounds, k_X14_bounds, v_X14_bounds, v_L_bounds, o_L_bounds, rw_out h0, bt_out h0, if_pos i0_0, if_pos i0_0, if_neg i1_0]; repeat' split) <;> first | (intro hz; rfl) | (intro hz; exact absurd hz (by decide)) | (intro hz; simp_all; done) | (intro hz; exfalso; simp only [Int32.lt_iff_toInt_lt, Int32.le_iff_toInt_le, n0i, n3i, n4i] at *; omega)
theorem eqk_lot (p0 p1 p2 : Int32) : k_X14_lot p0 p1 p2 = v_L_lot p0 p1 p2 := by
  by_cases h0 : 50 ≤ p1 ∧ p1 ≤ 150
  · by_cases h1 : 1 ≤ p2 ∧ p2 ≤ 999
    · (simp only [t_X10_lot, v_X10_lot, k_X14_lot, v_X14_lot, v_L_lot, rw_in h0, bt_in h0, rw_in h1, bt_in h1, if_pos i0_0, if_pos i0_0, if_neg i1_0]; repeat' split) <;> first | rfl | (simp_all; done) | (exfalso; simp only [Int32.lt_iff_toInt_lt, Int32.le_iff_toInt_le, n0i, n3i, n4i] at *; omega)
    · (simp only [t_X10_lot, v_X10_lot, k_X14_lot, v_X14_lot, v_L_lot, rw_in h0, bt_in h0, rw_out h1, bt_out h1, if_pos i0_0, if_pos i0_0, if_neg i1_0]; repeat' split) <;> first | rfl | (simp_all; done) | (exfalso; simp only [Int32.lt_iff_toInt_lt, Int32.le_iff_toInt_le, n0i, n3i, n4i] at *; omega)
  · by_cases h1 : 1 ≤ p2 ∧ p2 ≤ 999
    · (simp only [t_X10_lot, v_X10_lot, k_X14_lot, v_X14_lot, v_L_lot, rw_out h0, bt_out h0, rw_in h1, bt_in h1, if_pos i0_0, if_pos i0_0, if_neg i1_0]; repeat' split) <;> first | rfl | (simp_all; done) | (exfalso; simp only [Int32.lt_iff_toInt_lt, Int32.le_iff_toInt_le, n0i, n3i, n4i] at *; omega)
    · (simp only [t_X10_lot, v_X10_lot, k_X14_lot, v_X14_lot, v_L_lot, rw_out h0, bt_out h0, rw_out h1, bt_out h1, if_pos i0_0, if_pos i0_0, if_neg i1_0]; repeat' split) <;> first | rfl | (simp_all; done) | (exfalso; simp only [Int32.lt_iff_toInt_lt, Int32.le_iff_toInt_le, n0i, n3i, n4i] at *; omega)
theorem eqo_lot (p0 p1 p2 : Int32) (hz : v_L_lot p0 p1 p2 = 0) : o_L_lot p0 p1 p2 = (v_X14_lot p0 p1 p2).toInt64 := by
  by_cases h0 : 50 ≤ p1 ∧ p1 ≤ 150
  · by_cases h1 : 1 ≤ p2 ∧ p2 ≤ 999
    · (revert hz; simp only [t_X10_lot, v_X10_lot, k_X14_lot, v_X14_lot, v_L_lot, o_L_lot, rw_in h0, bt_in h0, rw_in h1, bt_in h1, if_pos i0_0, if_pos i0_0, if_neg i1_0]; repeat' split) <;> first | (intro hz; rfl) | (intro hz; exact absurd hz (by decide)) | (intro hz; simp_all; done) | (intro hz; exfalso; simp only [Int32.lt_iff_toInt_lt, Int32.le_iff_toInt_le, n0i, n3i, n4i] at *; omega)
    · (revert hz; simp only [t_X10_lot, v_X10_lot, k_X14_lot, v_X14_lot, v_L_lot, o_L_lot, rw_in h0, bt_in h0, rw_out h1, bt_out h1, if_pos i0_0, if_pos i0_0, if_neg i1_0]; repeat' split) <;> first | (intro hz; rfl) | (intro hz; exact absurd hz (by decide)) | (intro hz; simp_all; done) | (intro hz; exfalso; simp only [Int32.lt_iff_toInt_lt, Int32.le_iff_toInt_le, n0i, n3i, n4i] at *; omega)
  · by_cases h1 : 1 ≤ p2 ∧ p2 ≤ 999
    · (revert hz; simp only [t_X10_lot, v_X10_lot, k_X14_lot, v_X14_lot, v_L_lot, o_L_lot, rw_out h0, bt_out h0, rw_in h1, bt_in h1, if_pos i0_0, if_pos i0_0, if_neg i1_0]; repeat' split) <;> first | (intro hz; rfl) | (intro hz; exact absurd hz (by decide)) | (intro hz; simp_all; done) | (intro hz; exfalso; simp only [Int32.lt_iff_toInt_lt, Int32.le_iff_toInt_le, n0i, n3i, n4i] at *; omega)
    · (revert hz; simp only [t_X10_lot, v_X10_lot, k_X14_lot, v_X14_lot, v_L_lot, o_L_lot, rw_out h0, bt_out h0, rw_out h1, bt_out h1, if_pos i0_0, if_pos i0_0, if_neg i1_0]; repeat' split) <;> first | (intro hz; rfl) | (intro hz; exact absurd hz (by decide)) | (intro hz; simp_all; done) | (intro hz; exfalso; simp only [Int32.lt_iff_toInt_lt, Int32.le_iff_toInt_le, n0i, n3i, n4i] at *; omega)
theorem eqk_protocol (p0 p1 : Int32) : k_X14_protocol p0 p1 = v_L_protocol p0 p1 := by
  by_cases h0 : (-30) ≤ p0 ∧ p0 ≤ 30
  · by_cases h1 : 1 ≤ p1 ∧ p1 ≤ 20
    · (simp only [t_X10_protocol, v_X10_protocol, k_X14_protocol, v_X14_protocol, v_L_protocol, t_X10_requireStep, t_X10_requireCurrent, v_X14_isStep, rw_in h0, bt_in h0, rw_in h1, bt_in h1, if_pos i0_0, if_pos i0_0, if_neg i1_0]; repeat' split) <;> first | rfl | (simp_all; done) | (exfalso; simp only [Int32.lt_iff_toInt_lt, Int32.le_iff_toInt_le, n0i, n3i, n4i] at *; omega)
    · (simp only [t_X10_protocol, v_X10_protocol, k_X14_protocol, v_X14_protocol, v_L_protocol, t_X10_requireStep, t_X10_requireCurrent, v_X14_isStep, rw_in h0, bt_in h0, rw_out h1, bt_out h1, if_pos i0_0, if_pos i0_0, if_neg i1_0]; repeat' split) <;> first | rfl | (simp_all; done) | (exfalso; simp only [Int32.lt_iff_toInt_lt, Int32.le_iff_toInt_le, n0i, n3i, n4i] at *; omega)
  · by_cases h1 : 1 ≤ p1 ∧ p1 ≤ 20
    · (simp only [t_X10_protocol, v_X10_protocol, k_X14_protocol, v_X14_protocol, v_L_protocol, t_X10_requireStep, t_X10_requireCurrent, v_X14_isStep, rw_out h0, bt_out h0, rw_in h1, bt_in h1, if_pos i0_0, if_pos i0_0, if_neg i1_0]; repeat' split) <;> first | rfl | (simp_all; done) | (exfalso; simp only [Int32.lt_iff_toInt_lt, Int32.le_iff_toInt_le, n0i, n3i, n4i] at *; omega)
    · (simp only [t_X10_protocol, v_X10_protocol, k_X14_protocol, v_X14_protocol, v_L_protocol, t_X10_requireStep, t_X10_requireCurrent, v_X14_isStep, rw_out h0, bt_out h0, rw_out h1, bt_out h1, if_pos i0_0, if_pos i0_0, if_neg i1_0]; repeat' split) <;> first | rfl | (simp_all; done) | (exfalso; simp only [Int32.lt_iff_toInt_lt, Int32.le_iff_toInt_le, n0i, n3i, n4i] at *; omega)
theorem eqo_protocol (p0 p1 : Int32) (hz : v_L_protocol p0 p1 = 0) : o_L_protocol p0 p1 = (v_X14_protocol p0 p1).toInt64 := by
  by_cases h0 : (-30) ≤ p0 ∧ p0 ≤ 30
  · by_cases h1 : 1 ≤ p1 ∧ p1 ≤ 20
    · (revert hz; simp only [t_X10_protocol, v_X10_protocol, k_X14_protocol, v_X14_protocol, v_L_protocol, o_L_protocol, t_X10_requireStep, t_X10_requireCurrent, v_X14_isStep, rw_in h0, bt_in h0, rw_in h1, bt_in h1, if_pos i0_0, if_pos i0_0, if_neg i1_0]; repeat' split) <;> first | (intro hz; rfl) | (intro hz; exact absurd hz (by decide)) | (intro hz; simp_all; done) | (intro hz; exfalso; simp only [Int32.lt_iff_toInt_lt, Int32.le_iff_toInt_le, n0i, n3i, n4i] at *; omega)
    · (revert hz; simp only [t_X10_protocol, v_X10_protocol, k_X14_protocol, v_X14_protocol, v_L_protocol, o_L_protocol, t_X10_requireStep, t_X10_requireCurrent, v_X14_isStep, rw_in h0, bt_in h0, rw_out h1, bt_out h1, if_pos i0_0, if_pos i0_0, if_neg i1_0]; repeat' split) <;> first | (intro hz; rfl) | (intro hz; exact absurd hz (by decide)) | (intro hz; simp_all; done) | (intro hz; exfalso; simp only [Int32.lt_iff_toInt_lt, Int32.le_iff_toInt_le, n0i, n3i, n4i] at *; omega)
  · by_cases h1 : 1 ≤ p1 ∧ p1 ≤ 20
    · (revert hz; simp only [t_X10_protocol, v_X10_protocol, k_X14_protocol, v_X14_protocol, v_L_protocol, o_L_protocol, t_X10_requireStep, t_X10_requireCurrent, v_X14_isStep, rw_out h0, bt_out h0, rw_in h1, bt_in h1, if_pos i0_0, if_pos i0_0, if_neg i1_0]; repeat' split) <;> first | (intro hz; rfl) | (intro hz; exact absurd hz (by decide)) | (intro hz; simp_all; done) | (intro hz; exfalso; simp only [Int32.lt_iff_toInt_lt, Int32.le_iff_toInt_le, n0i, n3i, n4i] at *; omega)
    · (revert hz; simp only [t_X10_protocol, v_X10_protocol, k_X14_protocol, v_X14_protocol, v_L_protocol, o_L_protocol, t_X10_requireStep, t_X10_requireCurrent, v_X14_isStep, rw_out h0, bt_out h0, rw_out h1, bt_out h1, if_pos i0_0, if_pos i0_0, if_neg i1_0]; repeat' split) <;> first | (intro hz; rfl) | (intro hz; exact absurd hz (by decide)) | (intro hz; simp_all; done) | (intro hz; exfalso; simp only [Int32.lt_iff_toInt_lt, Int32.le_iff_toInt_le, n0i, n3i, n4i] at *; omega)
theorem eqk_doubtAll (p0 p1 : Int32) : k_X14_doubtAll p0 p1 = v_L_doubtAll p0 p1 := by
  (simp only [t_X10_doubtAll, v_X10_doubtAll, k_X14_doubtAll, v_X14_doubtAll, v_L_doubtAll, if_pos i0_0, if_pos i0_0, if_neg i1_0]; repeat' split) <;> first | rfl | (simp_all; done) | (exfalso; simp only [Int32.lt_iff_toInt_lt, Int32.le_iff_toInt_le, n0i, n3i, n4i] at *; omega)
theorem eqo_doubtAll (p0 p1 : Int32) (hz : v_L_doubtAll p0 p1 = 0) : o_L_doubtAll p0 p1 = (v_X14_doubtAll p0 p1).toInt64 := by
  (revert hz; simp only [t_X10_doubtAll, v_X10_doubtAll, k_X14_doubtAll, v_X14_doubtAll, v_L_doubtAll, o_L_doubtAll, if_pos i0_0, if_pos i0_0, if_neg i1_0]; repeat' split) <;> first | (intro hz; rfl) | (intro hz; exact absurd hz (by decide)) | (intro hz; simp_all; done) | (intro hz; exfalso; simp only [Int32.lt_iff_toInt_lt, Int32.le_iff_toInt_le, n0i, n3i, n4i] at *; omega)
theorem eqk_freeAt (p0 : Int32) : k_X14_freeAt p0 = v_L_freeAt p0 := by
  by_cases h0 : 0 ≤ p0 ∧ p0 ≤ 3
  · (simp only [t_X10_freeAt, v_X10_freeAt, k_X14_freeAt, v_X14_freeAt, v_L_freeAt, t_X10_requireChannel, rw_in h0, bt_in h0, if_pos i0_0, if_pos i0_0, if_neg i1_0]; repeat' split) <;> first | rfl | (simp_all; done) | (exfalso; simp only [Int32.lt_iff_toInt_lt, Int32.le_iff_toInt_le, n0i, n3i, n4i] at *; omega)
  · (simp only [t_X10_freeAt, v_X10_freeAt, k_X14_freeAt, v_X14_freeAt, v_L_freeAt, t_X10_requireChannel, rw_out h0, bt_out h0, if_pos i0_0, if_pos i0_0, if_neg i1_0]; repeat' split) <;> first | rfl | (simp_all; done) | (exfalso; simp only [Int32.lt_iff_toInt_lt, Int32.le_iff_toInt_le, n0i, n3i, n4i] at *; omega)
theorem eqo_freeAt (p0 : Int32) (hz : v_L_freeAt p0 = 0) : o_L_freeAt p0 = (v_X14_freeAt p0).toInt64 := by
  by_cases h0 : 0 ≤ p0 ∧ p0 ≤ 3
  · (revert hz; simp only [t_X10_freeAt, v_X10_freeAt, k_X14_freeAt, v_X14_freeAt, v_L_freeAt, o_L_freeAt, t_X10_requireChannel, rw_in h0, bt_in h0, if_pos i0_0, if_pos i0_0, if_neg i1_0]; repeat' split) <;> first | (intro hz; rfl) | (intro hz; exact absurd hz (by decide)) | (intro hz; simp_all; done) | (intro hz; exfalso; simp only [Int32.lt_iff_toInt_lt, Int32.le_iff_toInt_le, n0i, n3i, n4i] at *; omega)
  · (revert hz; simp only [t_X10_freeAt, v_X10_freeAt, k_X14_freeAt, v_X14_freeAt, v_L_freeAt, o_L_freeAt, t_X10_requireChannel, rw_out h0, bt_out h0, if_pos i0_0, if_pos i0_0, if_neg i1_0]; repeat' split) <;> first | (intro hz; rfl) | (intro hz; exact absurd hz (by decide)) | (intro hz; simp_all; done) | (intro hz; exfalso; simp only [Int32.lt_iff_toInt_lt, Int32.le_iff_toInt_le, n0i, n3i, n4i] at *; omega)
theorem eqk_pass (p0 : Int32) : k_X14_pass p0 = v_L_pass p0 := by
  by_cases h0 : 1 ≤ p0 ∧ p0 ≤ 500
  · (simp only [t_X10_pass, v_X10_pass, k_X14_pass, v_X14_pass, v_L_pass, Int32.zero_add, rw_in h0, bt_in h0, if_pos i0_0, if_pos i0_0, if_neg i1_0]; repeat' split) <;> first | rfl | (simp_all; done) | (exfalso; simp only [Int32.lt_iff_toInt_lt, Int32.le_iff_toInt_le, n0i, n3i, n4i] at *; omega)
  · (simp only [t_X10_pass, v_X10_pass, k_X14_pass, v_X14_pass, v_L_pass, Int32.zero_add, rw_out h0, bt_out h0, if_pos i0_0, if_pos i0_0, if_neg i1_0]; repeat' split) <;> first | rfl | (simp_all; done) | (exfalso; simp only [Int32.lt_iff_toInt_lt, Int32.le_iff_toInt_le, n0i, n3i, n4i] at *; omega)
theorem eqo_pass (p0 : Int32) (hz : v_L_pass p0 = 0) : o_L_pass p0 = (v_X14_pass p0).toInt64 := by
  by_cases h0 : 1 ≤ p0 ∧ p0 ≤ 500
  · (revert hz; simp only [t_X10_pass, v_X10_pass, k_X14_pass, v_X14_pass, v_L_pass, o_L_pass, Int32.zero_add, rw_in h0, bt_in h0, if_pos i0_0, if_pos i0_0, if_neg i1_0]; repeat' split) <;> first | (intro hz; rfl) | (intro hz; exact absurd hz (by decide)) | (intro hz; simp_all; done) | (intro hz; exfalso; simp only [Int32.lt_iff_toInt_lt, Int32.le_iff_toInt_le, n0i, n3i, n4i] at *; omega)
  · (revert hz; simp only [t_X10_pass, v_X10_pass, k_X14_pass, v_X14_pass, v_L_pass, o_L_pass, Int32.zero_add, rw_out h0, bt_out h0, if_pos i0_0, if_pos i0_0, if_neg i1_0]; repeat' split) <;> first | (intro hz; rfl) | (intro hz; exact absurd hz (by decide)) | (intro hz; simp_all; done) | (intro hz; exfalso; simp only [Int32.lt_iff_toInt_lt, Int32.le_iff_toInt_le, n0i, n3i, n4i] at *; omega)
theorem eqk_module (p0 p1 : Int32) : k_X14_module p0 p1 = v_L_module p0 p1 := by
  by_cases h0 : 2 ≤ p0 ∧ p0 ≤ 6
  · (simp only [t_X10_module, k_X14_module, v_L_module, rw_in h0, bt_in h0, if_pos i0_0, if_neg i1_0]; repeat' split) <;> first | rfl | (simp_all; done)
  · (simp only [t_X10_module, k_X14_module, v_L_module, rw_out h0, bt_out h0, if_pos i0_0, if_neg i1_0]; repeat' split) <;> first | rfl | (simp_all; done)
