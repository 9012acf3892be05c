set_option maxHeartbeats 400000 in
set_option maxRecDepth 100000 in
theorem m_amount (l : Launch) (D : va_G) (M : MH) (v : Int32) : xC l D yX9_amount wsX9_amount ({ frames := 0, cells := 0, slots := 0, locals := 0 }) 0 0 [.int v] (M) (xq (some (.int (amI v))) M) := by
  refine xC_of (cc := cX9_amount) (maxL := 1) (ret := (some .int)) (own := RX9) [some (.int v)] (by decide) rfl rfl (Nat.le_of_ble_eq_true rfl) rfl rfl rfl ?_
  intro X hXl hXD g r
  subst hXl
  subst hXD
  refine j_iload_n (pc := 0) g 0 dX9_amount_0 rfl rfl ?_
  refine j_if_ge (pc := 1) g 9 dX9_amount_1 (by decide) (fun c1 => ?_) (fun c1 => ?_)
  · refine j_iload_n (pc := 9) g 0 dX9_amount_9 rfl rfl ?_
    exact j_iret (pc := 10) g r rfl rfl (by first | exact xq_i (if_neg (Int32.not_lt.mpr c1)).symm rfl | exact xq_i (if_pos (Int32.not_le.mp c1)).symm rfl) dX9_amount_10 (Nat.le_of_ble_eq_true rfl) (Nat.le_of_ble_eq_true rfl)
  · refine j_iload_n (pc := 4) g 0 dX9_amount_4 rfl rfl ?_
    refine j_ineg (pc := 5) g dX9_amount_5 ?_
    refine j_goto (pc := 6) g 10 dX9_amount_6 (by decide) ?_
    exact j_iret (pc := 10) g r rfl rfl (by first | exact xq_i (if_neg (Int32.not_lt.mpr c1)).symm rfl | exact xq_i (if_pos (Int32.not_le.mp c1)).symm rfl) dX9_amount_10 (Nat.le_of_ble_eq_true rfl) (Nat.le_of_ble_eq_true rfl)

set_option maxHeartbeats 400000 in
set_option maxRecDepth 100000 in
theorem m_above (l : Launch) (D : va_G) (M : MH) (v : UInt32) : xC l D yX9_above wsX9_above ({ frames := 0, cells := 0, slots := 0, locals := 0 }) 0 0 [.float v] (M) (xq (some (.float (abF v))) M) := by
  refine xC_of (cc := cX9_above) (maxL := 1) (ret := (some .float)) (own := RX9) [some (.float v)] (by decide) rfl rfl (Nat.le_of_ble_eq_true rfl) rfl rfl rfl ?_
  intro X hXl hXD g r
  subst hXl
  subst hXD
  refine j_fload_n (pc := 0) g 0 dX9_above_0 rfl rfl ?_
  refine j_fconst0 (pc := 1) g dX9_above_1 ?_
  refine j_fcmp (pc := 2) g dX9_above_2 ?_
  refine j_if_le (pc := 3) g 10 dX9_above_3 (by decide) (fun c3 => ?_) (fun c3 => ?_)
  · refine j_fconst0 (pc := 10) g dX9_above_10 ?_
    exact j_fret (pc := 11) g r rfl  (by first | exact xq_f (if_pos c3).symm rfl | exact xq_f (if_neg c3).symm rfl) dX9_above_11 (Nat.le_of_ble_eq_true rfl) (Nat.le_of_ble_eq_true rfl)
  · refine j_fload_n (pc := 6) g 0 dX9_above_6 rfl rfl ?_
    refine j_goto (pc := 7) g 11 dX9_above_7 (by decide) ?_
    exact j_fret (pc := 11) g r rfl  (by first | exact xq_f (if_pos c3).symm rfl | exact xq_f (if_neg c3).symm rfl) dX9_above_11 (Nat.le_of_ble_eq_true rfl) (Nat.le_of_ble_eq_true rfl)

set_option maxHeartbeats 400000 in
set_option maxRecDepth 100000 in
theorem m_order (l : Launch) (D : va_G) (M : MH) (a b : Int32) : xC l D yX9_order wsX9_order ({ frames := 0, cells := 0, slots := 0, locals := 0 }) 0 0 [.int a, .int b] (M) (xq (some (.float (ordV a b))) M) := by
  refine xC_of (cc := cX9_order) (maxL := 2) (ret := (some .float)) (own := RX9) [some (.int a), some (.int b)] (by decide) rfl rfl (Nat.le_of_ble_eq_true rfl) rfl rfl rfl ?_
  intro X hXl hXD g r
  subst hXl
  subst hXD
  refine j_iload_n (pc := 0) g 0 dX9_order_0 rfl rfl ?_
  refine j_iload_n (pc := 1) g 1 dX9_order_1 rfl rfl ?_
  refine j_icmp_ne (pc := 2) g 10 dX9_order_2 (by decide) (fun c2 => ?_) (fun c2 => ?_)
  · refine j_fconst0 (pc := 10) g dX9_order_10 ?_
    exact j_fret (pc := 11) g r rfl  (by first | exact xq_f (if_neg c2).symm rfl | exact xq_f (if_pos c2).symm rfl) dX9_order_11 (Nat.le_of_ble_eq_true rfl) (Nat.le_of_ble_eq_true rfl)
  · refine j_ldcf (pc := 5) g 1092616192 dX9_order_5 (by decide +kernel) ?_
    refine j_goto (pc := 7) g 11 dX9_order_7 (by decide) ?_
    exact j_fret (pc := 11) g r rfl  (by first | exact xq_f (if_neg c2).symm rfl | exact xq_f (if_pos c2).symm rfl) dX9_order_11 (Nat.le_of_ble_eq_true rfl) (Nat.le_of_ble_eq_true rfl)
