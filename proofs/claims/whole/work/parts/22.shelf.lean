set_option maxHeartbeats 4000000 in
set_option maxRecDepth 100000 in
theorem lp_X4_digestOf (l : Launch) (D : va_G) (α : gz_P → Nat) (cA : Nat → ClassId) {I : gz_M} {r sz na nb : Nat} {b c : Int} (hr : gz_shp r = (0, sz, na, nb)) (hr2 : (Nat.blt r 40 && Nat.ble sz 65536) = true) (hb : gz_B b c na nb) (h8 : ∀ i, 0 ≤ I (r, b, c) i ∧ I (r, b, c) i ≤ 255) {s n : Int} (hs : 0 ≤ s ∧ 0 ≤ n ∧ s + n ≤ sz) : ∀ i, i ≤ n → ∀ h : Int, 0 ≤ i → h = gz_dg (fun i => I (r, b, c) (s + i)) i.toNat → gz_V l D α cA RX4 cX4_digestOf (some .int) 5 0 (gz_Qi fun x I' => I = I' ∧ x = gz_dg (fun i => I (r, b, c) (s + i)) n.toNat) I [some (.ref (α (r, b, c))), some (gz_i (s)), some (gz_i (n)), some (gz_i (h)), some (gz_i (i))] [] 5 := by
  have hsz : (sz : Int) ≤ 65536 := by rw [Bool.and_eq_true] at hr2; have := Nat.le_of_ble_eq_true hr2.2; omega
  refine gz_upto _ ?_
  intro i hi ih h h0 hh
  have hd := gz_dg_in (fun i => I (r, b, c) (s + i)) i.toNat
  have e1 := h8 (s + i)
  refine gz_iload (pc := 5) dX4_digestOf_5 rfl ?_
  refine gz_iload_n (pc := 7) dX4_digestOf_7 rfl ?_
  refine gz_icmp_ge (pc := 8) (tgt := 32) dX4_digestOf_8 (by decide) (by omega) (by omega) (fun h8 => ?_) (fun h8 => ?_)
  · refine gz_iload_n (pc := 32) dX4_digestOf_32 rfl ?_
    refine gz_iret (pc := 33) dX4_digestOf_33 rfl ?_
    refine ⟨rfl, ?_⟩
    rw [hh, show i = n by omega]
  · refine gz_bipush (pc := 11) dX4_digestOf_11 rfl ?_
    refine gz_iload_n (pc := 13) dX4_digestOf_13 rfl ?_
    refine gz_imul (pc := 14) dX4_digestOf_14 ?_
    first | refine gz_aload_n (pc := 15) dX4_digestOf_15 rfl ?_ | refine gz_aload_nN (pc := 15) dX4_digestOf_15 rfl ?_
    refine gz_iload_n (pc := 16) dX4_digestOf_16 rfl ?_
    refine gz_iload (pc := 17) dX4_digestOf_17 rfl ?_
    refine gz_iadd (pc := 19) dX4_digestOf_19 ?_
    refine gz_iald (pc := 20) dX4_digestOf_20 hr hr2 hb (by omega) ?_
    refine gz_iadd (pc := 21) dX4_digestOf_21 ?_
    refine gz_bipush (pc := 22) dX4_digestOf_22 rfl ?_
    refine gz_irem (pc := 24) dX4_digestOf_24 (by omega) (by omega) ?_
    refine gz_istore_n (pc := 25) dX4_digestOf_25 rfl rfl rfl ?_
    refine gz_iinc (pc := 26) dX4_digestOf_26 rfl rfl rfl rfl ?_
    refine gz_goto (pc := 29) (tgt := 5) dX4_digestOf_29 (by decide) ?_
    refine ih (i + 1) (by omega) (by omega) _ (by omega) ?_
    rw [show (i + 1).toNat = i.toNat + 1 by omega]
    unfold gz_dg
    rw [← hh, Int.toNat_of_nonneg h0]
set_option maxHeartbeats 4000000 in
set_option maxRecDepth 100000 in
theorem ct_X4_digestOf (l : Launch) (D : va_G) (α : gz_P → Nat) (cA : Nat → ClassId) {I : gz_M} {r sz na nb : Nat} {b c : Int} (hr : gz_shp r = (0, sz, na, nb)) (hr2 : (Nat.blt r 40 && Nat.ble sz 65536) = true) (hb : gz_B b c na nb) (h8 : ∀ i, 0 ≤ I (r, b, c) i ∧ I (r, b, c) i ≤ 255) {s n : Int} (hs : 0 ≤ s ∧ 0 ≤ n ∧ s + n ≤ sz) : gz_V l D α cA RX4 cX4_digestOf (some .int) 5 0 (gz_Qi fun x I' => I = I' ∧ x = gz_dg (fun i => I (r, b, c) (s + i)) n.toNat) I [some (.ref (α (r, b, c))), some (gz_i (s)), some (gz_i (n)), none, none] [] 0 := by
  refine gz_iconst (pc := 0) dX4_digestOf_0 ?_
  refine gz_istore_n (pc := 1) dX4_digestOf_1 rfl rfl rfl ?_
  refine gz_iconst (pc := 2) dX4_digestOf_2 ?_
  refine gz_istore (pc := 3) dX4_digestOf_3 rfl rfl rfl ?_
  exact lp_X4_digestOf l D α cA hr hr2 hb h8 hs 0 (by omega) 1 (by omega) rfl
set_option maxHeartbeats 4000000 in
set_option maxRecDepth 100000 in
theorem ct_X1_put (l : Launch) (D : va_G) (α : gz_P → Nat) (cA : Nat → ClassId) {I : gz_M} {a : Int} (ha : 0 ≤ a ∧ a < 5) {r sz na nb : Nat} {b c : Int} (hr : gz_shp r = (0, sz, na, nb)) (hr2 : (Nat.blt r 40 && Nat.blt 12 40 && Nat.ble sz 65536 && Nat.ble 3840 65536) = true) (hb : gz_B b c na nb) {p s n : Int} (hp : 0 ≤ p ∧ p < 120) (hs : 0 ≤ s ∧ 0 ≤ n ∧ s + n ≤ sz ∧ n ≤ 32) : gz_V l D α cA RX1 cX1_put none 5 1 (gz_Qv fun I' => I' = gz_up (gz_cp I (r, b, c) (12, a, 0) s (32 * p) n) (11, a, 0) p 1) I [some (.ref (α (10, a, 0))), some (gz_i (p)), some (.ref (α (r, b, c))), some (gz_i (s)), some (gz_i (n))] [] 0 := by
  first | refine gz_aload_n (pc := 0) dX1_put_0 rfl ?_ | refine gz_aload_nN (pc := 0) dX1_put_0 rfl ?_
  refine gz_iload_n (pc := 1) dX1_put_1 rfl ?_
  first | refine gz_aload_n (pc := 2) dX1_put_2 rfl ?_ | refine gz_aload_nN (pc := 2) dX1_put_2 rfl ?_
  refine gz_getr (pc := 3) dX1_put_3 fl_X1_15 rfl rfl rfl (by first | exact gz_B1 | (omega)) ?_
  refine gz_iload_n (pc := 6) dX1_put_6 rfl ?_
  refine gz_bipush (pc := 7) dX1_put_7 rfl ?_
  refine gz_imulc (pc := 9) dX1_put_9 ?_
  refine gz_iload (pc := 10) dX1_put_10 rfl ?_
  refine gz_copy (pc := 12) dX1_put_12 wm_X1_19 hr rfl hr2 rfl (Nat.le_of_ble_eq_true rfl) hb (by first | exact gz_B1 | (omega)) (by omega) ?_
  first | refine gz_aload_n (pc := 15) dX1_put_15 rfl ?_ | refine gz_aload_nN (pc := 15) dX1_put_15 rfl ?_
  refine gz_getr (pc := 16) dX1_put_16 fl_X1_9 rfl rfl rfl (by first | exact gz_B1 | (omega)) ?_
  refine gz_iload_n (pc := 19) dX1_put_19 rfl ?_
  refine gz_iconst (pc := 20) dX1_put_20 ?_
  refine gz_zast (pc := 21) dX1_put_21 rfl rfl (by first | exact gz_B1 | (omega)) (by omega) (by omega) ?_
  refine gz_vret (pc := 22) dX1_put_22 rfl ?_
  rfl
set_option maxHeartbeats 4000000 in
set_option maxRecDepth 100000 in
theorem lp_X1_holds (l : Launch) (D : va_G) (α : gz_P → Nat) (cA : Nat → ClassId) {I : gz_M} {a : Int} (ha : 0 ≤ a ∧ a < 5) (hT : gz_T I) {r sz na nb : Nat} {b c : Int} (hr : gz_shp r = (0, sz, na, nb)) (hr2 : (Nat.blt r 40 && Nat.ble sz 65536) = true) (hb : gz_B b c na nb) (h8 : ∀ i, 0 ≤ I (r, b, c) i ∧ I (r, b, c) i ≤ 255) {p s n : Int} (hp : 0 ≤ p ∧ p < 120) (hs : 0 ≤ s ∧ 0 ≤ n ∧ s + n ≤ sz ∧ n ≤ 32) : I (11, a, 0) p = 1 → ∀ i, i ≤ n → 0 ≤ i → (∀ j, 0 ≤ j → j < i → I (12, a, 0) (32 * p + j) = I (r, b, c) (s + j)) → gz_V l D α cA RX1 cX1_holds (some .boolean) 6 0 (gz_Qi fun x I' => I = I' ∧ (x = 1 ∧ (I (11, a, 0) p = 1 ∧ ∀ i, 0 ≤ i → i < n → I (12, a, 0) (32 * p + i) = I (r, b, c) (s + i)) ∨ x = 0 ∧ ¬ (I (11, a, 0) p = 1 ∧ ∀ i, 0 ≤ i → i < n → I (12, a, 0) (32 * p + i) = I (r, b, c) (s + i)))) I [some (.ref (α (10, a, 0))), some (gz_i (p)), some (.ref (α (r, b, c))), some (gz_i (s)), some (gz_i (n)), some (gz_i (i))] [] 14 := by
  have hsz : (sz : Int) ≤ 65536 := by rw [Bool.and_eq_true] at hr2; have := Nat.le_of_ble_eq_true hr2.2; omega
  intro hh
  refine gz_upto _ ?_
  intro i hi ih h0 hj
  have e1 := h8 (s + i)
  have e2 := gz_t12 hT a 0 (32 * p + i)
  refine gz_iload (pc := 14) dX1_holds_14 rfl ?_
  refine gz_iload (pc := 16) dX1_holds_16 rfl ?_
  refine gz_icmp_ge (pc := 18) (tgt := 50) dX1_holds_18 (by decide) (by omega) (by omega) (fun h18 => ?_) (fun h18 => ?_)
  · refine gz_iconst (pc := 50) dX1_holds_50 ?_
    refine gz_zret (pc := 51) dX1_holds_51 rfl (by first | exact Or.inl rfl | exact Or.inr rfl | omega) ?_
    exact ⟨rfl, Or.inl ⟨rfl, hh, fun j h1 h2 => hj j h1 (by omega)⟩⟩
  · first | refine gz_aload_n (pc := 21) dX1_holds_21 rfl ?_ | refine gz_aload_nN (pc := 21) dX1_holds_21 rfl ?_
    refine gz_getr (pc := 22) dX1_holds_22 fl_X1_15 rfl rfl rfl (by first | exact gz_B1 | (omega)) ?_
    refine gz_iload_n (pc := 25) dX1_holds_25 rfl ?_
    refine gz_bipush (pc := 26) dX1_holds_26 rfl ?_
    refine gz_imulc (pc := 28) dX1_holds_28 ?_
    refine gz_iload (pc := 29) dX1_holds_29 rfl ?_
    refine gz_iadd (pc := 31) dX1_holds_31 ?_
    refine gz_iald (pc := 32) dX1_holds_32 rfl rfl (by first | exact gz_B1 | (omega)) (by omega) ?_
    first | refine gz_aload_n (pc := 33) dX1_holds_33 rfl ?_ | refine gz_aload_nN (pc := 33) dX1_holds_33 rfl ?_
    refine gz_iload_n (pc := 34) dX1_holds_34 rfl ?_
    refine gz_iload (pc := 35) dX1_holds_35 rfl ?_
    refine gz_iadd (pc := 37) dX1_holds_37 ?_
    refine gz_iald (pc := 38) dX1_holds_38 hr hr2 hb (by omega) ?_
    refine gz_icmp_eq (pc := 39) (tgt := 44) dX1_holds_39 (by decide) (by omega) (by omega) (fun h39 => ?_) (fun h39 => ?_)
    · refine gz_iinc (pc := 44) dX1_holds_44 rfl rfl rfl rfl ?_
      refine gz_goto (pc := 47) (tgt := 14) dX1_holds_47 (by decide) ?_
      refine ih (i + 1) (by omega) (by omega) (by omega) (fun j h1 h2 => ?_)
      by_cases e : j = i
      · rw [e]; exact h39
      · exact hj j h1 (by omega)
    · refine gz_iconst (pc := 42) dX1_holds_42 ?_
      refine gz_zret (pc := 43) dX1_holds_43 rfl (by first | exact Or.inl rfl | exact Or.inr rfl | omega) ?_
      exact ⟨rfl, Or.inr ⟨rfl, fun q => h39 (q.2 i h0 (by omega))⟩⟩
set_option maxHeartbeats 4000000 in
set_option maxRecDepth 100000 in
theorem ct_X1_holds (l : Launch) (D : va_G) (α : gz_P → Nat) (cA : Nat → ClassId) {I : gz_M} {a : Int} (ha : 0 ≤ a ∧ a < 5) (hT : gz_T I) {r sz na nb : Nat} {b c : Int} (hr : gz_shp r = (0, sz, na, nb)) (hr2 : (Nat.blt r 40 && Nat.ble sz 65536) = true) (hb : gz_B b c na nb) (h8 : ∀ i, 0 ≤ I (r, b, c) i ∧ I (r, b, c) i ≤ 255) {p s n : Int} (hp : 0 ≤ p ∧ p < 120) (hs : 0 ≤ s ∧ 0 ≤ n ∧ s + n ≤ sz ∧ n ≤ 32) : gz_V l D α cA RX1 cX1_holds (some .boolean) 6 0 (gz_Qi fun x I' => I = I' ∧ (x = 1 ∧ (I (11, a, 0) p = 1 ∧ ∀ i, 0 ≤ i → i < n → I (12, a, 0) (32 * p + i) = I (r, b, c) (s + i)) ∨ x = 0 ∧ ¬ (I (11, a, 0) p = 1 ∧ ∀ i, 0 ≤ i → i < n → I (12, a, 0) (32 * p + i) = I (r, b, c) (s + i)))) I [some (.ref (α (10, a, 0))), some (gz_i (p)), some (.ref (α (r, b, c))), some (gz_i (s)), some (gz_i (n)), none] [] 0 := by
  have e1 := gz_t11 hT a 0 p
  first | refine gz_aload_n (pc := 0) dX1_holds_0 rfl ?_ | refine gz_aload_nN (pc := 0) dX1_holds_0 rfl ?_
  refine gz_getr (pc := 1) dX1_holds_1 fl_X1_9 rfl rfl rfl (by first | exact gz_B1 | (omega)) ?_
  refine gz_iload_n (pc := 4) dX1_holds_4 rfl ?_
  refine gz_zald (pc := 5) dX1_holds_5 rfl rfl (by first | exact gz_B1 | (omega)) (by omega) ?_
  refine gz_if_ne (pc := 6) (tgt := 11) dX1_holds_6 (by decide) (by omega) (fun h6 => ?_) (fun h6 => ?_)
  · refine gz_iconst (pc := 11) dX1_holds_11 ?_
    refine gz_istore (pc := 12) dX1_holds_12 rfl rfl rfl ?_
    exact lp_X1_holds l D α cA ha hT hr hr2 hb h8 hp hs (by omega) 0 (by omega) (by omega) (fun j h1 h2 => by omega)
  · refine gz_iconst (pc := 9) dX1_holds_9 ?_
    refine gz_zret (pc := 10) dX1_holds_10 rfl (by first | exact Or.inl rfl | exact Or.inr rfl | omega) ?_
    exact ⟨rfl, Or.inr ⟨rfl, fun q => by omega⟩⟩
set_option maxHeartbeats 4000000 in
set_option maxRecDepth 100000 in
theorem lp_X1_clear (l : Launch) (D : va_G) (α : gz_P → Nat) (cA : Nat → ClassId) {I0 : gz_M} {a : Int} (ha : 0 ≤ a ∧ a < 5) : ∀ i, i ≤ 120 → ∀ I : gz_M, gz_T I → 0 ≤ i → (∀ q, q ≠ (11, a, 0) → I q = I0 q) → (∀ j, 0 ≤ j → j < i → I (11, a, 0) j = 0) → gz_V l D α cA RX1 cX1_clear none 2 0 (gz_Qv fun I' => gz_T I' ∧ (∀ q, q ≠ (11, a, 0) → I' q = I0 q) ∧ ∀ i, 0 ≤ i → i < 120 → I' (11, a, 0) i = 0) I [some (.ref (α (10, a, 0))), some (gz_i (i))] [] 2 := by
  refine gz_upto _ ?_
  intro i hi ih I hT h0 hq hj
  refine gz_iload_n (pc := 2) dX1_clear_2 rfl ?_
  refine gz_bipush (pc := 3) dX1_clear_3 rfl ?_
  refine gz_icmp_ge (pc := 5) (tgt := 21) dX1_clear_5 (by decide) (by omega) (by omega) (fun h5 => ?_) (fun h5 => ?_)
  · refine gz_vret (pc := 21) dX1_clear_21 rfl ?_
    exact ⟨hT, hq, fun j h1 h2 => hj j h1 (by omega)⟩
  · first | refine gz_aload_n (pc := 8) dX1_clear_8 rfl ?_ | refine gz_aload_nN (pc := 8) dX1_clear_8 rfl ?_
    refine gz_getr (pc := 9) dX1_clear_9 fl_X1_9 rfl rfl rfl (by first | exact gz_B1 | (omega)) ?_
    refine gz_iload_n (pc := 12) dX1_clear_12 rfl ?_
    refine gz_iconst (pc := 13) dX1_clear_13 ?_
    refine gz_zast (pc := 14) dX1_clear_14 rfl rfl (by first | exact gz_B1 | (omega)) (by omega) (by exact Or.inl rfl) ?_
    refine gz_iinc (pc := 15) dX1_clear_15 rfl rfl rfl rfl ?_
    refine gz_goto (pc := 18) (tgt := 2) dX1_clear_18 (by decide) ?_
    refine ih (i + 1) (by omega) (by omega) _ (gz_Tu11 hT (by decide)) (by omega) (fun q e => by rw [gz_up_ne e]; exact hq q e) (fun j h1 h2 => ?_)
    rw [gz_up_eq]
    by_cases e : j = i
    · rw [if_pos e]
    · rw [if_neg e]; exact hj j h1 (by omega)
set_option maxHeartbeats 4000000 in
set_option maxRecDepth 100000 in
theorem ct_X1_clear (l : Launch) (D : va_G) (α : gz_P → Nat) (cA : Nat → ClassId) {I0 : gz_M} {a : Int} (ha : 0 ≤ a ∧ a < 5) (hT : gz_T I0) : gz_V l D α cA RX1 cX1_clear none 2 0 (gz_Qv fun I' => gz_T I' ∧ (∀ q, q ≠ (11, a, 0) → I' q = I0 q) ∧ ∀ i, 0 ≤ i → i < 120 → I' (11, a, 0) i = 0) I0 [some (.ref (α (10, a, 0))), none] [] 0 := by
  refine gz_iconst (pc := 0) dX1_clear_0 ?_
  refine gz_istore_n (pc := 1) dX1_clear_1 rfl rfl rfl ?_
  exact lp_X1_clear l D α cA ha 0 (by omega) I0 hT (by omega) (fun q _ => rfl) (fun j h1 h2 => by omega)
