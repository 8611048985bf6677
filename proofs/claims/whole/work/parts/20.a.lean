set_option maxHeartbeats 4000000 in
set_option maxRecDepth 100000 in
theorem ct_X4_isTask (l : Launch) (D : va_G) (α : gz_P → Nat) (cA : Nat → ClassId) {I : gz_M} {t : Int} (ht : -2147483648 ≤ t ∧ t ≤ 2147483647) (hT : 1 ≤ I (0, 0, 0) 6 ∧ I (0, 0, 0) 6 ≤ 4) : gz_V l D α cA RX4 cX4_isTask (some .boolean) 2 0 (gz_Qi fun x I' => I = I' ∧ (x = 1 ∧ 0 ≤ t ∧ t < I (0, 0, 0) 6 ∨ x = 0 ∧ ¬ (0 ≤ t ∧ t < I (0, 0, 0) 6))) I [some (.ref (α (0, 0, 0))), some (gz_i (t))] [] 0 := by
  refine gz_iload_n (pc := 0) dX4_isTask_0 rfl ?_
  refine gz_if_lt (pc := 1) (tgt := 16) dX4_isTask_1 (by decide) (by omega) (fun h1 => ?_) (fun h1 => ?_)
  · refine gz_iconst (pc := 16) dX4_isTask_16 ?_
    refine gz_zret (pc := 17) dX4_isTask_17 rfl (by first | exact Or.inl rfl | exact Or.inr rfl | omega) ?_
    exact ⟨rfl, by omega⟩
  · refine gz_iload_n (pc := 4) dX4_isTask_4 rfl ?_
    first | refine gz_aload_n (pc := 5) dX4_isTask_5 rfl ?_ | refine gz_aload_nN (pc := 5) dX4_isTask_5 rfl ?_
    refine gz_getI (pc := 6) 6 dX4_isTask_6 fl_X4_42 rfl rfl rfl rfl (by first | exact gz_B1 | (omega)) ?_
    refine gz_icmp_ge (pc := 9) (tgt := 16) dX4_isTask_9 (by decide) (by omega) (by omega) (fun h9 => ?_) (fun h9 => ?_)
    · refine gz_iconst (pc := 16) dX4_isTask_16 ?_
      refine gz_zret (pc := 17) dX4_isTask_17 rfl (by first | exact Or.inl rfl | exact Or.inr rfl | omega) ?_
      exact ⟨rfl, by omega⟩
    · refine gz_iconst (pc := 12) dX4_isTask_12 ?_
      refine gz_goto (pc := 13) (tgt := 17) dX4_isTask_13 (by decide) ?_
      refine gz_zret (pc := 17) dX4_isTask_17 rfl (by first | exact Or.inl rfl | exact Or.inr rfl | omega) ?_
      exact ⟨rfl, by omega⟩
set_option maxHeartbeats 4000000 in
set_option maxRecDepth 100000 in
theorem ct_X2_open (l : Launch) (D : va_G) (α : gz_P → Nat) (cA : Nat → ClassId) {I : gz_M} {t : Int} (ht : 0 ≤ t ∧ t < 4) (hs : 0 ≤ I (7, t, 0) 2 ∧ I (7, t, 0) 2 ≤ 300) {a n : Int} (ha : 0 ≤ a ∧ a ≤ I (7, t, 0) 2) (hn : 0 ≤ n ∧ I (7, t, 0) 2 + n ≤ 300) : gz_V l D α cA RX2 cX2_open none 3 1 (gz_Qv fun I' => I' = gz_up (gz_cp I (8, t, 0) (8, t, 0) a (a + n) (I (7, t, 0) 2 - a)) (7, t, 0) 2 (I (7, t, 0) 2 + n)) I [some (.ref (α (7, t, 0))), some (gz_i (a)), some (gz_i (n))] [] 0 := by
  first | refine gz_aload_n (pc := 0) dX2_open_0 rfl ?_ | refine gz_aload_nN (pc := 0) dX2_open_0 rfl ?_
  refine gz_getr (pc := 1) dX2_open_1 fl_X2_9 rfl rfl rfl (by first | exact gz_B1 | (omega)) ?_
  refine gz_iload_n (pc := 4) dX2_open_4 rfl ?_
  first | refine gz_aload_n (pc := 5) dX2_open_5 rfl ?_ | refine gz_aload_nN (pc := 5) dX2_open_5 rfl ?_
  refine gz_getr (pc := 6) dX2_open_6 fl_X2_9 rfl rfl rfl (by first | exact gz_B1 | (omega)) ?_
  refine gz_iload_n (pc := 9) dX2_open_9 rfl ?_
  refine gz_iload_n (pc := 10) dX2_open_10 rfl ?_
  refine gz_iadd (pc := 11) dX2_open_11 ?_
  first | refine gz_aload_n (pc := 12) dX2_open_12 rfl ?_ | refine gz_aload_nN (pc := 12) dX2_open_12 rfl ?_
  refine gz_getI (pc := 13) 2 dX2_open_13 fl_X2_18 rfl rfl rfl rfl (by first | exact gz_B1 | (omega)) ?_
  refine gz_iload_n (pc := 16) dX2_open_16 rfl ?_
  refine gz_isub (pc := 17) dX2_open_17 ?_
  refine gz_copy (pc := 18) dX2_open_18 wm_X2_22 rfl rfl rfl rfl (Nat.le_of_ble_eq_true rfl) (by first | exact gz_B1 | (omega)) (by first | exact gz_B1 | (omega)) (by omega) ?_
  first | refine gz_aload_n (pc := 21) dX2_open_21 rfl ?_ | refine gz_aload_nN (pc := 21) dX2_open_21 rfl ?_
  refine gz_dup (pc := 22) dX2_open_22 rfl ?_
  refine gz_getI (pc := 23) 2 dX2_open_23 fl_X2_18 rfl rfl rfl rfl (by first | exact gz_B1 | (omega)) ?_
  refine gz_iload_n (pc := 26) dX2_open_26 rfl ?_
  refine gz_iadd (pc := 27) dX2_open_27 ?_
  refine gz_putI (pc := 28) 2 dX2_open_28 fw_X2_18 rfl rfl rfl rfl (by first | exact gz_B1 | (omega)) (Or.inl rfl) ?_
  refine gz_vret (pc := 31) dX2_open_31 rfl ?_
  simp (decide := true) only [gz_up_r, gz_up_s, gz_cp_r]
set_option maxHeartbeats 4000000 in
set_option maxRecDepth 100000 in
theorem ct_X2_close (l : Launch) (D : va_G) (α : gz_P → Nat) (cA : Nat → ClassId) {I : gz_M} {t : Int} (ht : 0 ≤ t ∧ t < 4) (hs : 0 ≤ I (7, t, 0) 2 ∧ I (7, t, 0) 2 ≤ 300) {a n : Int} (ha : 0 ≤ a) (hn : 0 ≤ n ∧ a + n ≤ I (7, t, 0) 2) : gz_V l D α cA RX2 cX2_close none 3 1 (gz_Qv fun I' => I' = gz_up (gz_cp I (8, t, 0) (8, t, 0) (a + n) a (I (7, t, 0) 2 - a - n)) (7, t, 0) 2 (I (7, t, 0) 2 - n)) I [some (.ref (α (7, t, 0))), some (gz_i (a)), some (gz_i (n))] [] 0 := by
  first | refine gz_aload_n (pc := 0) dX2_close_0 rfl ?_ | refine gz_aload_nN (pc := 0) dX2_close_0 rfl ?_
  refine gz_getr (pc := 1) dX2_close_1 fl_X2_9 rfl rfl rfl (by first | exact gz_B1 | (omega)) ?_
  refine gz_iload_n (pc := 4) dX2_close_4 rfl ?_
  refine gz_iload_n (pc := 5) dX2_close_5 rfl ?_
  refine gz_iadd (pc := 6) dX2_close_6 ?_
  first | refine gz_aload_n (pc := 7) dX2_close_7 rfl ?_ | refine gz_aload_nN (pc := 7) dX2_close_7 rfl ?_
  refine gz_getr (pc := 8) dX2_close_8 fl_X2_9 rfl rfl rfl (by first | exact gz_B1 | (omega)) ?_
  refine gz_iload_n (pc := 11) dX2_close_11 rfl ?_
  first | refine gz_aload_n (pc := 12) dX2_close_12 rfl ?_ | refine gz_aload_nN (pc := 12) dX2_close_12 rfl ?_
  refine gz_getI (pc := 13) 2 dX2_close_13 fl_X2_18 rfl rfl rfl rfl (by first | exact gz_B1 | (omega)) ?_
  refine gz_iload_n (pc := 16) dX2_close_16 rfl ?_
  refine gz_isub (pc := 17) dX2_close_17 ?_
  refine gz_iload_n (pc := 18) dX2_close_18 rfl ?_
  refine gz_isub (pc := 19) dX2_close_19 ?_
  refine gz_copy (pc := 20) dX2_close_20 wm_X2_22 rfl rfl rfl rfl (Nat.le_of_ble_eq_true rfl) (by first | exact gz_B1 | (omega)) (by first | exact gz_B1 | (omega)) (by omega) ?_
  first | refine gz_aload_n (pc := 23) dX2_close_23 rfl ?_ | refine gz_aload_nN (pc := 23) dX2_close_23 rfl ?_
  refine gz_dup (pc := 24) dX2_close_24 rfl ?_
  refine gz_getI (pc := 25) 2 dX2_close_25 fl_X2_18 rfl rfl rfl rfl (by first | exact gz_B1 | (omega)) ?_
  refine gz_iload_n (pc := 28) dX2_close_28 rfl ?_
  refine gz_isub (pc := 29) dX2_close_29 ?_
  refine gz_putI (pc := 30) 2 dX2_close_30 fw_X2_18 rfl rfl rfl rfl (by first | exact gz_B1 | (omega)) (Or.inl rfl) ?_
  refine gz_vret (pc := 33) dX2_close_33 rfl ?_
  simp (decide := true) only [gz_up_r, gz_up_s, gz_cp_r]
set_option maxHeartbeats 4000000 in
set_option maxRecDepth 100000 in
theorem ct_X2_append (l : Launch) (D : va_G) (α : gz_P → Nat) (cA : Nat → ClassId) {I : gz_M} {t : Int} (ht : 0 ≤ t ∧ t < 4) (hs : 0 ≤ I (7, t, 0) 2 ∧ I (7, t, 0) 2 ≤ 300) {r sz na nb : Nat} {a n b c : Int} (hr : gz_shp r = (0, sz, na, nb)) (hr2 : (Nat.blt r 40 && Nat.blt 8 40 && Nat.ble sz 65536 && Nat.ble 300 65536) = true) (hb : gz_B b c na nb) (ha : 0 ≤ a ∧ 0 ≤ n ∧ a + n ≤ sz) (hn : I (7, t, 0) 2 + n ≤ 300) : gz_V l D α cA RX2 cX2_append none 4 1 (gz_Qv fun I' => I' = gz_up (gz_cp I (r, b, c) (8, t, 0) a (I (7, t, 0) 2) n) (7, t, 0) 2 (I (7, t, 0) 2 + n)) I [some (.ref (α (7, t, 0))), some (.ref (α (r, b, c))), some (gz_i (a)), some (gz_i (n))] [] 0 := by
  first | refine gz_aload_n (pc := 0) dX2_append_0 rfl ?_ | refine gz_aload_nN (pc := 0) dX2_append_0 rfl ?_
  refine gz_iload_n (pc := 1) dX2_append_1 rfl ?_
  first | refine gz_aload_n (pc := 2) dX2_append_2 rfl ?_ | refine gz_aload_nN (pc := 2) dX2_append_2 rfl ?_
  refine gz_getr (pc := 3) dX2_append_3 fl_X2_9 rfl rfl rfl (by first | exact gz_B1 | (omega)) ?_
  first | refine gz_aload_n (pc := 6) dX2_append_6 rfl ?_ | refine gz_aload_nN (pc := 6) dX2_append_6 rfl ?_
  refine gz_getI (pc := 7) 2 dX2_append_7 fl_X2_18 rfl rfl rfl rfl (by first | exact gz_B1 | (omega)) ?_
  refine gz_iload_n (pc := 10) dX2_append_10 rfl ?_
  refine gz_copy (pc := 11) dX2_append_11 wm_X2_22 hr rfl hr2 rfl (Nat.le_of_ble_eq_true rfl) hb (by first | exact gz_B1 | (omega)) (by omega) ?_
  first | refine gz_aload_n (pc := 14) dX2_append_14 rfl ?_ | refine gz_aload_nN (pc := 14) dX2_append_14 rfl ?_
  refine gz_dup (pc := 15) dX2_append_15 rfl ?_
  refine gz_getI (pc := 16) 2 dX2_append_16 fl_X2_18 rfl rfl rfl rfl (by first | exact gz_B1 | (omega)) ?_
  refine gz_iload_n (pc := 19) dX2_append_19 rfl ?_
  refine gz_iadd (pc := 20) dX2_append_20 ?_
  refine gz_putI (pc := 21) 2 dX2_append_21 fw_X2_18 rfl rfl rfl rfl (by first | exact gz_B1 | (omega)) (Or.inl rfl) ?_
  refine gz_vret (pc := 24) dX2_append_24 rfl ?_
  simp (decide := true) only [gz_up_r, gz_up_s, gz_cp_r]
