set_option maxHeartbeats 4000000 in
set_option maxRecDepth 100000 in
theorem ct_X4_state (l : Launch) (D : va_G) (α : gz_P → Nat) (cA : Nat → ClassId) {I : gz_M} (hT : gz_T I) {t i : Int} (r_t : (-2147483648 ≤ t ∧ t ≤ 2147483647)) (r_i : (-2147483648 ≤ i ∧ i ≤ 2147483647)) : gz_V l D α cA RX4 cX4_state (some .int) 3 1 (gz_Qi fun x I' => I = I' ∧ (((0 ≤ t ∧ t < I (0, 0, 0) 6) ∧ 0 ≤ i ∧ i < I (7, t, 0) 2) ∧ x = I (8, t, 0) i ∨ ¬ ((0 ≤ t ∧ t < I (0, 0, 0) 6) ∧ 0 ≤ i ∧ i < I (7, t, 0) 2) ∧ x = -2)) I [some (.ref (α (0, 0, 0))), some (gz_i (t)), some (gz_i (i))] [] 0 := by
  first | refine gz_aload_n (pc := 0) dX4_state_0 rfl ?_ | refine gz_aload_nN (pc := 0) dX4_state_0 rfl ?_
  refine gz_iload_n (pc := 1) dX4_state_1 rfl ?_
  refine gz_cV1i (pc := 2) dX4_state_2 wm_X4_55 my_X4_isTask rfl rfl rfl (by first | exact gz_B1 | (omega)) (ct_X4_isTask l D α cA r_t (gz_tk hT 0 0)) (fun x2 I2 h2 => ?_)
  obtain ⟨rfl, hx2⟩ := h2
  have e1 := gz_tk hT 0 0
  have e2 := gz_t7 hT t 0 2
  refine gz_if_eq (pc := 5) (tgt := 25) dX4_state_5 (by decide) (by omega) (fun h5 => ?_) (fun h5 => ?_)
  · refine gz_bipush (pc := 25) dX4_state_25 rfl ?_
    refine gz_iret (pc := 27) dX4_state_27 rfl ?_
    exact ⟨rfl, Or.inr ⟨by omega, rfl⟩⟩
  · refine gz_iload_n (pc := 8) dX4_state_8 rfl ?_
    refine gz_if_lt (pc := 9) (tgt := 25) dX4_state_9 (by decide) (by omega) (fun h9 => ?_) (fun h9 => ?_)
    · refine gz_bipush (pc := 25) dX4_state_25 rfl ?_
      refine gz_iret (pc := 27) dX4_state_27 rfl ?_
      exact ⟨rfl, Or.inr ⟨by omega, rfl⟩⟩
    · refine gz_iload_n (pc := 12) dX4_state_12 rfl ?_
      first | refine gz_aload_n (pc := 13) dX4_state_13 rfl ?_ | refine gz_aload_nN (pc := 13) dX4_state_13 rfl ?_
      refine gz_getr (pc := 14) dX4_state_14 fl_X4_11 rfl rfl rfl (by first | exact gz_B1 | (omega)) ?_
      refine gz_iload_n (pc := 17) dX4_state_17 rfl ?_
      first | refine gz_ald1 (pc := 18) dX4_state_18 (by omega) ?_ | refine gz_ald2 (pc := 18) dX4_state_18 (by omega) ?_ | refine gz_ald4 (pc := 18) dX4_state_18 (by omega) ?_ | refine gz_ald17 (pc := 18) dX4_state_18 (by first | exact gz_B1 | (omega)) (by omega) ?_
      refine gz_getI (pc := 19) 2 dX4_state_19 fl_X4_59 rfl rfl rfl rfl (by first | exact gz_B1 | (omega)) ?_
      refine gz_icmp_lt (pc := 22) (tgt := 28) dX4_state_22 (by decide) (by omega) (by omega) (fun h22 => ?_) (fun h22 => ?_)
      · first | refine gz_aload_n (pc := 28) dX4_state_28 rfl ?_ | refine gz_aload_nN (pc := 28) dX4_state_28 rfl ?_
        refine gz_getr (pc := 29) dX4_state_29 fl_X4_11 rfl rfl rfl (by first | exact gz_B1 | (omega)) ?_
        refine gz_iload_n (pc := 32) dX4_state_32 rfl ?_
        first | refine gz_ald1 (pc := 33) dX4_state_33 (by omega) ?_ | refine gz_ald2 (pc := 33) dX4_state_33 (by omega) ?_ | refine gz_ald4 (pc := 33) dX4_state_33 (by omega) ?_ | refine gz_ald17 (pc := 33) dX4_state_33 (by first | exact gz_B1 | (omega)) (by omega) ?_
        refine gz_getr (pc := 34) dX4_state_34 fl_X4_66 rfl rfl rfl (by first | exact gz_B1 | (omega)) ?_
        refine gz_iload_n (pc := 37) dX4_state_37 rfl ?_
        refine gz_iald (pc := 38) dX4_state_38 rfl rfl (by first | exact gz_B1 | (omega)) (by omega) ?_
        refine gz_iret (pc := 39) dX4_state_39 rfl ?_
        exact ⟨rfl, Or.inl ⟨by omega, rfl⟩⟩
      · refine gz_bipush (pc := 25) dX4_state_25 rfl ?_
        refine gz_iret (pc := 27) dX4_state_27 rfl ?_
        exact ⟨rfl, Or.inr ⟨by omega, rfl⟩⟩
set_option maxHeartbeats 4000000 in
set_option maxRecDepth 100000 in
theorem ct_X4_chunk (l : Launch) (D : va_G) (α : gz_P → Nat) (cA : Nat → ClassId) {I : gz_M} (hT : gz_T I) {t i : Int} (r_t : (-2147483648 ≤ t ∧ t ≤ 2147483647)) (r_i : (-2147483648 ≤ i ∧ i ≤ 2147483647)) : gz_V l D α cA RX4 cX4_chunk (some .int) 5 2 (gz_Qi fun x I' => gz_T I' ∧ (∀ q : gz_P, q.1 ≠ 9 → I' q = I q) ∧ (¬ ((0 ≤ t ∧ t < I (0, 0, 0) 6) ∧ -1 ≤ i) ∧ x = -2 ∨ ((0 ≤ t ∧ t < I (0, 0, 0) 6) ∧ -1 ≤ i) ∧ (∃ c : Nat, gz_cn (I (8, t, 0)) (I (7, t, 0) 2) c ∧ (i = -1 ∧ x = c ∨ (0 ≤ i ∧ i < c) ∧ x = gz_ck (I (8, t, 0)) (I (7, t, 0) 2) (gz_cs (I (8, t, 0)) (I (7, t, 0) 2) i.toNat) ∨ (c : Int) ≤ i ∧ x = -2)))) I [some (.ref (α (0, 0, 0))), some (gz_i (t)), some (gz_i (i)), none, none] [] 0 := by
  first | refine gz_aload_n (pc := 0) dX4_chunk_0 rfl ?_ | refine gz_aload_nN (pc := 0) dX4_chunk_0 rfl ?_
  refine gz_iload_n (pc := 1) dX4_chunk_1 rfl ?_
  refine gz_cV1i (pc := 2) dX4_chunk_2 wm_X4_55 my_X4_isTask rfl rfl rfl (by first | exact gz_B1 | (omega)) (ct_X4_isTask l D α cA r_t (gz_tk hT 0 0)) (fun x2 I2 h2 => ?_)
  obtain ⟨rfl, hx2⟩ := h2
  have e1 := gz_tk hT 0 0
  refine gz_if_eq (pc := 5) (tgt := 13) dX4_chunk_5 (by decide) (by omega) (fun h5 => ?_) (fun h5 => ?_)
  · refine gz_bipush (pc := 13) dX4_chunk_13 rfl ?_
    refine gz_iret (pc := 15) dX4_chunk_15 rfl ?_
    exact ⟨hT, fun q _ => rfl, Or.inl ⟨by omega, rfl⟩⟩
  · refine gz_iload_n (pc := 8) dX4_chunk_8 rfl ?_
    refine gz_iconst (pc := 9) dX4_chunk_9 ?_
    refine gz_icmp_ge (pc := 10) (tgt := 16) dX4_chunk_10 (by decide) (by omega) (by omega) (fun h10 => ?_) (fun h10 => ?_)
    · first | refine gz_aload_n (pc := 16) dX4_chunk_16 rfl ?_ | refine gz_aload_nN (pc := 16) dX4_chunk_16 rfl ?_
      refine gz_getr (pc := 17) dX4_chunk_17 fl_X4_11 rfl rfl rfl (by first | exact gz_B1 | (omega)) ?_
      refine gz_iload_n (pc := 20) dX4_chunk_20 rfl ?_
      first | refine gz_ald1 (pc := 21) dX4_chunk_21 (by omega) ?_ | refine gz_ald2 (pc := 21) dX4_chunk_21 (by omega) ?_ | refine gz_ald4 (pc := 21) dX4_chunk_21 (by omega) ?_ | refine gz_ald17 (pc := 21) dX4_chunk_21 (by first | exact gz_B1 | (omega)) (by omega) ?_
      first | refine gz_astore_n (pc := 22) dX4_chunk_22 rfl rfl rfl ?_ | refine gz_astore_nN (pc := 22) dX4_chunk_22 rfl rfl rfl ?_
      first | refine gz_aload_n (pc := 23) dX4_chunk_23 rfl ?_ | refine gz_aload_nN (pc := 23) dX4_chunk_23 rfl ?_
      refine gz_cV0i (pc := 24) dX4_chunk_24 wm_X4_72 my_X2_cut rfl rfl rfl (by first | exact gz_B1 | (omega)) (ct_X2_cut l D α cA (by omega) (gz_t7 hT t 0 2) (fun i _ _ => gz_t8 hT t 0 i) hT) (fun x24 I24 h24 => ?_)
      obtain ⟨c1, c2, c, rfl, c3, c4⟩ := h24
      have e3 := gz_t7 hT t 0 2
      have c5 := gz_cn_75 c3 e3.2
      refine gz_istore (pc := 27) dX4_chunk_27 rfl rfl rfl ?_
      refine gz_iload_n (pc := 29) dX4_chunk_29 rfl ?_
      refine gz_iconst (pc := 30) dX4_chunk_30 ?_
      refine gz_icmp_ne (pc := 31) (tgt := 37) dX4_chunk_31 (by decide) (by omega) (by omega) (fun h31 => ?_) (fun h31 => ?_)
      · refine gz_iload_n (pc := 37) dX4_chunk_37 rfl ?_
        refine gz_iload (pc := 38) dX4_chunk_38 rfl ?_
        refine gz_icmp_ge (pc := 40) (tgt := 51) dX4_chunk_40 (by decide) (by omega) (by omega) (fun h40 => ?_) (fun h40 => ?_)
        · refine gz_bipush (pc := 51) dX4_chunk_51 rfl ?_
          refine gz_iret (pc := 53) dX4_chunk_53 rfl ?_
          first
            | (refine ⟨c1, fun q hq => c2 q (fun z => hq (by rw [z])), Or.inr ⟨by omega, c, c3, Or.inr (Or.inr ⟨by omega, rfl⟩)⟩⟩; done)
            | (refine ⟨c1, fun q hq => c2 q (fun z => hq (by rw [z])), Or.inr ⟨by omega, c, c3, Or.inr (Or.inl ⟨by omega, ?_⟩)⟩⟩
               obtain ⟨j, rfl⟩ : ∃ j : Nat, i = j := ⟨i.toNat, by omega⟩
               rw [Int.toNat_natCast, c4 j (by omega)]
               show gz_cs (I (8, t, 0)) (I (7, t, 0) 2) j + gz_ck (I (8, t, 0)) (I (7, t, 0) 2) (gz_cs (I (8, t, 0)) (I (7, t, 0) 2) j) - _ = _
               cases j with
               | zero =>
                 rw [if_pos (show ((0 : Nat) : Int) = 0 from rfl)]
                 show gz_cs (I (8, t, 0)) (I (7, t, 0) 2) 0 + _ - 0 = _
                 have : gz_cs (I (8, t, 0)) (I (7, t, 0) 2) 0 = 0 := rfl
                 omega
               | succ j =>
                 rw [if_neg (by omega), show ((j + 1 : Nat) : Int) - 1 = (j : Nat) by omega, c4 j (by omega)]
                 omega)
        · first | refine gz_aload_n (pc := 43) dX4_chunk_43 rfl ?_ | refine gz_aload_nN (pc := 43) dX4_chunk_43 rfl ?_
          refine gz_iload_n (pc := 44) dX4_chunk_44 rfl ?_
          refine gz_cV1i (pc := 45) dX4_chunk_45 wm_X4_76 my_X2_chunkSize rfl rfl rfl (by first | exact gz_B1 | (omega)) (ct_X2_chunkSize l D α cA (by omega) (by omega)) (fun x45 I45 h45 => ?_)
          obtain ⟨rfl, rfl⟩ := h45
          refine gz_goto (pc := 48) (tgt := 53) dX4_chunk_48 (by decide) ?_
          refine gz_iret (pc := 53) dX4_chunk_53 rfl ?_
          first
            | (refine ⟨c1, fun q hq => c2 q (fun z => hq (by rw [z])), Or.inr ⟨by omega, c, c3, Or.inr (Or.inr ⟨by omega, rfl⟩)⟩⟩; done)
            | (refine ⟨c1, fun q hq => c2 q (fun z => hq (by rw [z])), Or.inr ⟨by omega, c, c3, Or.inr (Or.inl ⟨by omega, ?_⟩)⟩⟩
               obtain ⟨j, rfl⟩ : ∃ j : Nat, i = j := ⟨i.toNat, by omega⟩
               rw [Int.toNat_natCast, c4 j (by omega)]
               show gz_cs (I (8, t, 0)) (I (7, t, 0) 2) j + gz_ck (I (8, t, 0)) (I (7, t, 0) 2) (gz_cs (I (8, t, 0)) (I (7, t, 0) 2) j) - _ = _
               cases j with
               | zero =>
                 rw [if_pos (show ((0 : Nat) : Int) = 0 from rfl)]
                 show gz_cs (I (8, t, 0)) (I (7, t, 0) 2) 0 + _ - 0 = _
                 have : gz_cs (I (8, t, 0)) (I (7, t, 0) 2) 0 = 0 := rfl
                 omega
               | succ j =>
                 rw [if_neg (by omega), show ((j + 1 : Nat) : Int) - 1 = (j : Nat) by omega, c4 j (by omega)]
                 omega)
      · refine gz_iload (pc := 34) dX4_chunk_34 rfl ?_
        refine gz_iret (pc := 36) dX4_chunk_36 rfl ?_
        refine ⟨c1, fun q hq => c2 q (fun z => hq (by rw [z])), Or.inr ⟨by omega, c, c3, ?_⟩⟩
        exact Or.inl ⟨h31, rfl⟩
    · refine gz_bipush (pc := 13) dX4_chunk_13 rfl ?_
      refine gz_iret (pc := 15) dX4_chunk_15 rfl ?_
      exact ⟨hT, fun q _ => rfl, Or.inl ⟨by omega, rfl⟩⟩
set_option maxHeartbeats 4000000 in
set_option maxRecDepth 100000 in
theorem ct_X4_usable (l : Launch) (D : va_G) (α : gz_P → Nat) (cA : Nat → ClassId) {I : gz_M} (hT : gz_T I) {m : Int} (r_m : (-2147483648 ≤ m ∧ m ≤ 2147483647)) : gz_V l D α cA RX4 cX4_usable (some .int) 3 4 (gz_Qi fun x I' => I = I' ∧ (x = -2 ∧ (∀ i, ((0 ≤ i ∧ i < I (0, 0, 0) 7) ∧ I (16, I (4, 0, 0) (i), 0) 2 = m ∧ ∀ j, 0 ≤ j → j < i → ¬ I (16, I (4, 0, 0) (j), 0) 2 = m) → I (16, I (4, 0, 0) (i), 0) 3 = 0) ∨ ∃ i, ((0 ≤ i ∧ i < I (0, 0, 0) 7) ∧ I (16, I (4, 0, 0) (i), 0) 2 = m ∧ ∀ j, 0 ≤ j → j < i → ¬ I (16, I (4, 0, 0) (j), 0) 2 = m) ∧ I (16, I (4, 0, 0) (i), 0) 3 = 1 ∧ x = gz_b (gz_usb I (I (4, 0, 0) (i))))) I [some (.ref (α (0, 0, 0))), some (gz_i (m)), none] [] 0 := by
  first | refine gz_aload_n (pc := 0) dX4_usable_0 rfl ?_ | refine gz_aload_nN (pc := 0) dX4_usable_0 rfl ?_
  refine gz_iload_n (pc := 1) dX4_usable_1 rfl ?_
  refine gz_cV1r (pc := 2) dX4_usable_2 wm_X4_125 my_X4_keptMark rfl rfl rfl (by first | exact gz_B1 | (omega)) (ct_X4_keptMark l D α cA hT r_m) (fun x2 I2 h2 => ?_)
  obtain ⟨rfl, ⟨rfl, hn⟩ | ⟨i, hi, hkp, rfl⟩⟩ := h2
  · first | refine gz_astore_n (pc := 5) dX4_usable_5 rfl rfl rfl ?_ | refine gz_astore_nN (pc := 5) dX4_usable_5 rfl rfl rfl ?_
    first | refine gz_aload_n (pc := 6) dX4_usable_6 rfl ?_ | refine gz_aload_nN (pc := 6) dX4_usable_6 rfl ?_
    refine gz_ifnonnullN (pc := 7) dX4_usable_7 ?_
    refine gz_bipush (pc := 10) dX4_usable_10 rfl ?_
    refine gz_iret (pc := 12) dX4_usable_12 rfl ?_
    exact ⟨rfl, Or.inl ⟨rfl, hn⟩⟩
  · have e4 := gz_t4 hT 0 0 i
    first | refine gz_astore_n (pc := 5) dX4_usable_5 rfl rfl rfl ?_ | refine gz_astore_nN (pc := 5) dX4_usable_5 rfl rfl rfl ?_
    first | refine gz_aload_n (pc := 6) dX4_usable_6 rfl ?_ | refine gz_aload_nN (pc := 6) dX4_usable_6 rfl ?_
    refine gz_ifnonnull (pc := 7) (tgt := 13) dX4_usable_7 (by decide) ?_
    first | refine gz_aload_n (pc := 13) dX4_usable_13 rfl ?_ | refine gz_aload_nN (pc := 13) dX4_usable_13 rfl ?_
    first | refine gz_aload_n (pc := 14) dX4_usable_14 rfl ?_ | refine gz_aload_nN (pc := 14) dX4_usable_14 rfl ?_
    refine gz_cV1i (pc := 15) dX4_usable_15 wm_X4_149 my_X4_isUsable rfl rfl rfl (by first | exact gz_B1 | (omega)) (ct_X4_isUsable l D α cA hT (by omega)) (fun x15 I15 h15 => ?_)
    obtain ⟨rfl, ⟨rfl, hus⟩ | ⟨rfl, hus⟩⟩ := h15
    · refine gz_if_eq (pc := 18) (tgt := 25) dX4_usable_18 (by decide) (by omega) (fun h18 => ?_) (fun h18 => ?_)
      · refine gz_iconst (pc := 25) dX4_usable_25 ?_
        refine gz_iret (pc := 26) dX4_usable_26 rfl ?_
        first | exact absurd h18 (by decide) | exact ⟨rfl, Or.inr ⟨i, hi, hkp, (gz_b1 hus).symm⟩⟩ | exact ⟨rfl, Or.inr ⟨i, hi, hkp, (gz_b0 hus).symm⟩⟩
      · refine gz_iconst (pc := 21) dX4_usable_21 ?_
        refine gz_goto (pc := 22) (tgt := 26) dX4_usable_22 (by decide) ?_
        refine gz_iret (pc := 26) dX4_usable_26 rfl ?_
        first | exact absurd h18 (by decide) | exact ⟨rfl, Or.inr ⟨i, hi, hkp, (gz_b1 hus).symm⟩⟩ | exact ⟨rfl, Or.inr ⟨i, hi, hkp, (gz_b0 hus).symm⟩⟩
    · refine gz_if_eq (pc := 18) (tgt := 25) dX4_usable_18 (by decide) (by omega) (fun h18 => ?_) (fun h18 => ?_)
      · refine gz_iconst (pc := 25) dX4_usable_25 ?_
        refine gz_iret (pc := 26) dX4_usable_26 rfl ?_
        first | exact absurd h18 (by decide) | exact ⟨rfl, Or.inr ⟨i, hi, hkp, (gz_b1 hus).symm⟩⟩ | exact ⟨rfl, Or.inr ⟨i, hi, hkp, (gz_b0 hus).symm⟩⟩
      · refine gz_iconst (pc := 21) dX4_usable_21 ?_
        refine gz_goto (pc := 22) (tgt := 26) dX4_usable_22 (by decide) ?_
        refine gz_iret (pc := 26) dX4_usable_26 rfl ?_
        first | exact absurd h18 (by decide) | exact ⟨rfl, Or.inr ⟨i, hi, hkp, (gz_b1 hus).symm⟩⟩ | exact ⟨rfl, Or.inr ⟨i, hi, hkp, (gz_b0 hus).symm⟩⟩
set_option maxHeartbeats 4000000 in
set_option maxRecDepth 100000 in
theorem ct_X4_markTold (l : Launch) (D : va_G) (α : gz_P → Nat) (cA : Nat → ClassId) {I : gz_M} (hT : gz_T I) {m w : Int} (r_m : (-2147483648 ≤ m ∧ m ≤ 2147483647)) (r_w : (-2147483648 ≤ w ∧ w ≤ 2147483647)) : gz_V l D α cA RX4 cX4_markTold (some .int) 4 1 (gz_Qi fun x I' => I = I' ∧ (x = -2 ∧ ((∀ j, 0 ≤ j → j < I (0, 0, 0) 7 → ¬ I (16, I (4, 0, 0) (j), 0) 2 = m) ∨ ¬ (0 ≤ w ∧ w ≤ 6)) ∨ ∃ i, ((0 ≤ i ∧ i < I (0, 0, 0) 7) ∧ I (16, I (4, 0, 0) (i), 0) 2 = m ∧ ∀ j, 0 ≤ j → j < i → ¬ I (16, I (4, 0, 0) (j), 0) 2 = m) ∧ (w = 0 ∧ x = I (16, I (4, 0, 0) (i), 0) 3 ∨ w = 1 ∧ x = I (16, I (4, 0, 0) (i), 0) 4 ∨ w = 2 ∧ x = I (16, I (4, 0, 0) (i), 0) 5 ∨ w = 3 ∧ x = gz_sm (fun t => I (19, I (4, 0, 0) (i), 0) t) (I (16, I (4, 0, 0) (i), 0) 5).toNat ∨ w = 4 ∧ x = I (16, I (4, 0, 0) (i), 0) 6 ∨ w = 5 ∧ x = I (16, I (4, 0, 0) (i), 0) 7 ∨ w = 6 ∧ x = I (16, I (4, 0, 0) (i), 0) 8))) I [some (.ref (α (0, 0, 0))), some (gz_i (m)), some (gz_i (w)), none] [] 0 := by
  first | refine gz_aload_n (pc := 0) dX4_markTold_0 rfl ?_ | refine gz_aload_nN (pc := 0) dX4_markTold_0 rfl ?_
  refine gz_iload_n (pc := 1) dX4_markTold_1 rfl ?_
  refine gz_cV1r (pc := 2) dX4_markTold_2 wm_X4_152 my_X4_heldMark rfl rfl rfl (by first | exact gz_B1 | (omega)) (ct_X4_heldMark l D α cA hT r_m) (fun x2 I2 h2 => ?_)
  obtain ⟨rfl, ⟨rfl, hn⟩ | ⟨i, hi, rfl⟩⟩ := h2
  · first | refine gz_astore_n (pc := 5) dX4_markTold_5 rfl rfl rfl ?_ | refine gz_astore_nN (pc := 5) dX4_markTold_5 rfl rfl rfl ?_
    first | refine gz_aload_n (pc := 6) dX4_markTold_6 rfl ?_ | refine gz_aload_nN (pc := 6) dX4_markTold_6 rfl ?_
    refine gz_ifnonnullN (pc := 7) dX4_markTold_7 ?_
    refine gz_bipush (pc := 10) dX4_markTold_10 rfl ?_
    refine gz_iret (pc := 12) dX4_markTold_12 rfl ?_
    exact ⟨rfl, Or.inl ⟨rfl, Or.inl hn⟩⟩
  · have e4 := gz_t4 hT 0 0 i
    have e5 := gz_tm3 hT (I (4, 0, 0) (i)) 0
    first | refine gz_astore_n (pc := 5) dX4_markTold_5 rfl rfl rfl ?_ | refine gz_astore_nN (pc := 5) dX4_markTold_5 rfl rfl rfl ?_
    first | refine gz_aload_n (pc := 6) dX4_markTold_6 rfl ?_ | refine gz_aload_nN (pc := 6) dX4_markTold_6 rfl ?_
    refine gz_ifnonnull (pc := 7) (tgt := 13) dX4_markTold_7 (by decide) ?_
    refine gz_iload_n (pc := 13) dX4_markTold_13 rfl ?_
    by_cases hsw14 : w < 0 ∨ 6 < w
    · refine gz_swOut (pc := 14) (tgt := 99) dX4_markTold_14 (by decide) (by omega) hsw14 ?_
      refine gz_bipush (pc := 99) dX4_markTold_99 rfl ?_
      refine gz_iret (pc := 101) dX4_markTold_101 rfl ?_
      exact ⟨rfl, Or.inl ⟨rfl, Or.inr (by omega)⟩⟩
    · have hsx14 : w = 0 ∨ w = 1 ∨ w = 2 ∨ w = 3 ∨ w = 4 ∨ w = 5 ∨ w = 6 := by omega
      rcases hsx14 with hsx14 | hsx14 | hsx14 | hsx14 | hsx14 | hsx14 | hsx14
      · refine gz_swIn (pc := 14) (off := 42) (tgt := 56) dX4_markTold_14 0 hsx14 (by decide) (by decide) (by decide) rfl (by decide) ?_
        first | refine gz_aload_n (pc := 56) dX4_markTold_56 rfl ?_ | refine gz_aload_nN (pc := 56) dX4_markTold_56 rfl ?_
        refine gz_getI (pc := 57) 3 dX4_markTold_57 fl_X4_129 rfl rfl rfl rfl (by first | exact gz_B1 | (omega)) ?_
        refine gz_if_eq (pc := 60) (tgt := 67) dX4_markTold_60 (by decide) (by omega) (fun h60 => ?_) (fun h60 => ?_)
        · refine gz_iconst (pc := 67) dX4_markTold_67 ?_
          refine gz_iret (pc := 68) dX4_markTold_68 rfl ?_
          exact ⟨rfl, Or.inr ⟨i, hi, Or.inl (⟨hsx14, by omega⟩)⟩⟩
        · refine gz_iconst (pc := 63) dX4_markTold_63 ?_
          refine gz_goto (pc := 64) (tgt := 68) dX4_markTold_64 (by decide) ?_
          refine gz_iret (pc := 68) dX4_markTold_68 rfl ?_
          exact ⟨rfl, Or.inr ⟨i, hi, Or.inl (⟨hsx14, by omega⟩)⟩⟩
      · refine gz_swIn (pc := 14) (off := 55) (tgt := 69) dX4_markTold_14 1 hsx14 (by decide) (by decide) (by decide) rfl (by decide) ?_
        first | refine gz_aload_n (pc := 69) dX4_markTold_69 rfl ?_ | refine gz_aload_nN (pc := 69) dX4_markTold_69 rfl ?_
        refine gz_getI (pc := 70) 4 dX4_markTold_70 fl_X4_155 rfl rfl rfl rfl (by first | exact gz_B1 | (omega)) ?_
        refine gz_iret (pc := 73) dX4_markTold_73 rfl ?_
        exact ⟨rfl, Or.inr ⟨i, hi, Or.inr (Or.inl (⟨hsx14, rfl⟩))⟩⟩
      · refine gz_swIn (pc := 14) (off := 60) (tgt := 74) dX4_markTold_14 2 hsx14 (by decide) (by decide) (by decide) rfl (by decide) ?_
        first | refine gz_aload_n (pc := 74) dX4_markTold_74 rfl ?_ | refine gz_aload_nN (pc := 74) dX4_markTold_74 rfl ?_
        refine gz_getI (pc := 75) 5 dX4_markTold_75 fl_X4_142 rfl rfl rfl rfl (by first | exact gz_B1 | (omega)) ?_
        refine gz_iret (pc := 78) dX4_markTold_78 rfl ?_
        exact ⟨rfl, Or.inr ⟨i, hi, Or.inr (Or.inr (Or.inl (⟨hsx14, rfl⟩)))⟩⟩
      · refine gz_swIn (pc := 14) (off := 65) (tgt := 79) dX4_markTold_14 3 hsx14 (by decide) (by decide) (by decide) rfl (by decide) ?_
        first | refine gz_aload_n (pc := 79) dX4_markTold_79 rfl ?_ | refine gz_aload_nN (pc := 79) dX4_markTold_79 rfl ?_
        refine gz_cV0i (pc := 80) dX4_markTold_80 wm_X4_158 my_X0_partCount rfl rfl rfl (by first | exact gz_B1 | (omega)) (ct_X0_partCount l D α cA hT (by omega)) (fun x80 I80 h80 => ?_)
        obtain ⟨rfl, rfl⟩ := h80
        refine gz_iret (pc := 83) dX4_markTold_83 rfl ?_
        exact ⟨rfl, Or.inr ⟨i, hi, Or.inr (Or.inr (Or.inr (Or.inl (⟨hsx14, rfl⟩))))⟩⟩
      · refine gz_swIn (pc := 14) (off := 70) (tgt := 84) dX4_markTold_14 4 hsx14 (by decide) (by decide) (by decide) rfl (by decide) ?_
        first | refine gz_aload_n (pc := 84) dX4_markTold_84 rfl ?_ | refine gz_aload_nN (pc := 84) dX4_markTold_84 rfl ?_
        refine gz_getI (pc := 85) 6 dX4_markTold_85 fl_X4_161 rfl rfl rfl rfl (by first | exact gz_B1 | (omega)) ?_
        refine gz_iret (pc := 88) dX4_markTold_88 rfl ?_
        exact ⟨rfl, Or.inr ⟨i, hi, Or.inr (Or.inr (Or.inr (Or.inr (Or.inl (⟨hsx14, rfl⟩)))))⟩⟩
      · refine gz_swIn (pc := 14) (off := 75) (tgt := 89) dX4_markTold_14 5 hsx14 (by decide) (by decide) (by decide) rfl (by decide) ?_
        first | refine gz_aload_n (pc := 89) dX4_markTold_89 rfl ?_ | refine gz_aload_nN (pc := 89) dX4_markTold_89 rfl ?_
        refine gz_getI (pc := 90) 7 dX4_markTold_90 fl_X4_164 rfl rfl rfl rfl (by first | exact gz_B1 | (omega)) ?_
        refine gz_iret (pc := 93) dX4_markTold_93 rfl ?_
        exact ⟨rfl, Or.inr ⟨i, hi, Or.inr (Or.inr (Or.inr (Or.inr (Or.inr (Or.inl (⟨hsx14, rfl⟩))))))⟩⟩
      · refine gz_swIn (pc := 14) (off := 80) (tgt := 94) dX4_markTold_14 6 hsx14 (by decide) (by decide) (by decide) rfl (by decide) ?_
        first | refine gz_aload_n (pc := 94) dX4_markTold_94 rfl ?_ | refine gz_aload_nN (pc := 94) dX4_markTold_94 rfl ?_
        refine gz_getI (pc := 95) 8 dX4_markTold_95 fl_X4_108 rfl rfl rfl rfl (by first | exact gz_B1 | (omega)) ?_
        refine gz_iret (pc := 98) dX4_markTold_98 rfl ?_
        exact ⟨rfl, Or.inr ⟨i, hi, Or.inr (Or.inr (Or.inr (Or.inr (Or.inr (Or.inr (⟨hsx14, rfl⟩))))))⟩⟩
set_option maxHeartbeats 4000000 in
set_option maxRecDepth 100000 in
theorem ct_X4_list (l : Launch) (D : va_G) (α : gz_P → Nat) (cA : Nat → ClassId) {I : gz_M} (hT : gz_T I) {m t j : Int} (r_m : (-2147483648 ≤ m ∧ m ≤ 2147483647)) (r_t : (-2147483648 ≤ t ∧ t ≤ 2147483647)) (r_j : (-2147483648 ≤ j ∧ j ≤ 2147483647)) : gz_V l D α cA RX4 cX4_list (some .int) 5 2 (gz_Qi fun x I' => I = I' ∧ (x = -2 ∧ (∀ i, ((0 ≤ i ∧ i < I (0, 0, 0) 7) ∧ I (16, I (4, 0, 0) (i), 0) 2 = m ∧ ∀ j, 0 ≤ j → j < i → ¬ I (16, I (4, 0, 0) (j), 0) 2 = m) → I (16, I (4, 0, 0) (i), 0) 3 = 0) ∨ ∃ i, ((0 ≤ i ∧ i < I (0, 0, 0) 7) ∧ I (16, I (4, 0, 0) (i), 0) 2 = m ∧ ∀ j, 0 ≤ j → j < i → ¬ I (16, I (4, 0, 0) (j), 0) 2 = m) ∧ I (16, I (4, 0, 0) (i), 0) 3 = 1 ∧ (¬ ((0 ≤ t ∧ t < I (16, I (4, 0, 0) (i), 0) 5) ∧ 0 ≤ j) ∧ x = -2 ∨ ((0 ≤ t ∧ t < I (16, I (4, 0, 0) (i), 0) 5) ∧ 0 ≤ j) ∧ (j < I (19, I (4, 0, 0) (i), 0) t ∧ x = I (18, I (4, 0, 0) (i), t) j ∨ I (19, I (4, 0, 0) (i), 0) t ≤ j ∧ x = -1)))) I [some (.ref (α (0, 0, 0))), some (gz_i (m)), some (gz_i (t)), some (gz_i (j)), none] [] 0 := by
  first | refine gz_aload_n (pc := 0) dX4_list_0 rfl ?_ | refine gz_aload_nN (pc := 0) dX4_list_0 rfl ?_
  refine gz_iload_n (pc := 1) dX4_list_1 rfl ?_
  refine gz_cV1r (pc := 2) dX4_list_2 wm_X4_125 my_X4_keptMark rfl rfl rfl (by first | exact gz_B1 | (omega)) (ct_X4_keptMark l D α cA hT r_m) (fun x2 I2 h2 => ?_)
  obtain ⟨rfl, ⟨rfl, hn⟩ | ⟨i, hi, hkp, rfl⟩⟩ := h2
  · first | refine gz_astore (pc := 5) dX4_list_5 rfl rfl rfl ?_ | refine gz_astoreN (pc := 5) dX4_list_5 rfl rfl rfl ?_
    first | refine gz_aload (pc := 7) dX4_list_7 rfl ?_ | refine gz_aloadN (pc := 7) dX4_list_7 rfl ?_
    refine gz_ifnullN (pc := 9) (tgt := 29) dX4_list_9 (by decide) ?_
    refine gz_bipush (pc := 29) dX4_list_29 rfl ?_
    refine gz_iret (pc := 31) dX4_list_31 rfl ?_
    exact ⟨rfl, Or.inl ⟨rfl, hn⟩⟩
  · have e4 := gz_t4 hT 0 0 i
    first | refine gz_astore (pc := 5) dX4_list_5 rfl rfl rfl ?_ | refine gz_astoreN (pc := 5) dX4_list_5 rfl rfl rfl ?_
    first | refine gz_aload (pc := 7) dX4_list_7 rfl ?_ | refine gz_aloadN (pc := 7) dX4_list_7 rfl ?_
    refine gz_ifnull (pc := 9) dX4_list_9 ?_
    have e5 := gz_tm5 hT (I (4, 0, 0) (i)) 0
    have e6 := gz_t19 hT (I (4, 0, 0) (i)) 0 t
    refine gz_iload_n (pc := 12) dX4_list_12 rfl ?_
    refine gz_if_lt (pc := 13) (tgt := 29) dX4_list_13 (by decide) (by omega) (fun h13 => ?_) (fun h13 => ?_)
    · refine gz_bipush (pc := 29) dX4_list_29 rfl ?_
      refine gz_iret (pc := 31) dX4_list_31 rfl ?_
      refine ⟨rfl, Or.inr ⟨i, hi, hkp, ?_⟩⟩
      omega
    · refine gz_iload_n (pc := 16) dX4_list_16 rfl ?_
      first | refine gz_aload (pc := 17) dX4_list_17 rfl ?_ | refine gz_aloadN (pc := 17) dX4_list_17 rfl ?_
      refine gz_getI (pc := 19) 5 dX4_list_19 fl_X4_142 rfl rfl rfl rfl (by first | exact gz_B1 | (omega)) ?_
      refine gz_icmp_ge (pc := 22) (tgt := 29) dX4_list_22 (by decide) (by omega) (by omega) (fun h22 => ?_) (fun h22 => ?_)
      · refine gz_bipush (pc := 29) dX4_list_29 rfl ?_
        refine gz_iret (pc := 31) dX4_list_31 rfl ?_
        refine ⟨rfl, Or.inr ⟨i, hi, hkp, ?_⟩⟩
        omega
      · refine gz_iload_n (pc := 25) dX4_list_25 rfl ?_
        refine gz_if_ge (pc := 26) (tgt := 32) dX4_list_26 (by decide) (by omega) (fun h26 => ?_) (fun h26 => ?_)
        · refine gz_iload_n (pc := 32) dX4_list_32 rfl ?_
          first | refine gz_aload (pc := 33) dX4_list_33 rfl ?_ | refine gz_aloadN (pc := 33) dX4_list_33 rfl ?_
          refine gz_getr (pc := 35) dX4_list_35 fl_X4_167 rfl rfl rfl (by first | exact gz_B1 | (omega)) ?_
          refine gz_iload_n (pc := 38) dX4_list_38 rfl ?_
          refine gz_iald (pc := 39) dX4_list_39 rfl rfl (by first | exact gz_B1 | (omega)) (by omega) ?_
          refine gz_icmp_ge (pc := 40) (tgt := 55) dX4_list_40 (by decide) (by omega) (by omega) (fun h40 => ?_) (fun h40 => ?_)
          · refine gz_iconst (pc := 55) dX4_list_55 ?_
            refine gz_iret (pc := 56) dX4_list_56 rfl ?_
            refine ⟨rfl, Or.inr ⟨i, hi, hkp, ?_⟩⟩
            omega
          · first | refine gz_aload (pc := 43) dX4_list_43 rfl ?_ | refine gz_aloadN (pc := 43) dX4_list_43 rfl ?_
            refine gz_getr (pc := 45) dX4_list_45 fl_X4_170 rfl rfl rfl (by first | exact gz_B1 | (omega)) ?_
            refine gz_iload_n (pc := 48) dX4_list_48 rfl ?_
            first | refine gz_ald1 (pc := 49) dX4_list_49 (by omega) ?_ | refine gz_ald2 (pc := 49) dX4_list_49 (by omega) ?_ | refine gz_ald4 (pc := 49) dX4_list_49 (by omega) ?_ | refine gz_ald17 (pc := 49) dX4_list_49 (by first | exact gz_B1 | (omega)) (by omega) ?_
            refine gz_iload_n (pc := 50) dX4_list_50 rfl ?_
            refine gz_iald (pc := 51) dX4_list_51 rfl rfl (by first | exact gz_B1 | (omega)) (by omega) ?_
            refine gz_goto (pc := 52) (tgt := 56) dX4_list_52 (by decide) ?_
            refine gz_iret (pc := 56) dX4_list_56 rfl ?_
            refine ⟨rfl, Or.inr ⟨i, hi, hkp, ?_⟩⟩
            omega
        · refine gz_bipush (pc := 29) dX4_list_29 rfl ?_
          refine gz_iret (pc := 31) dX4_list_31 rfl ?_
          refine ⟨rfl, Or.inr ⟨i, hi, hkp, ?_⟩⟩
          omega
set_option maxHeartbeats 4000000 in
set_option maxRecDepth 100000 in
theorem ct_X4_same (l : Launch) (D : va_G) (α : gz_P → Nat) (cA : Nat → ClassId) {I : gz_M} (hT : gz_T I) {m n : Int} (r_m : (-2147483648 ≤ m ∧ m ≤ 2147483647)) (r_n : (-2147483648 ≤ n ∧ n ≤ 2147483647)) : gz_V l D α cA RX4 cX4_same (some .boolean) 5 2 (gz_Qi fun x I' => I = I' ∧ (x = 0 ∧ ((∀ i, ((0 ≤ i ∧ i < I (0, 0, 0) 7) ∧ I (16, I (4, 0, 0) (i), 0) 2 = m ∧ ∀ j, 0 ≤ j → j < i → ¬ I (16, I (4, 0, 0) (j), 0) 2 = m) → I (16, I (4, 0, 0) (i), 0) 3 = 0) ∨ (∀ i, ((0 ≤ i ∧ i < I (0, 0, 0) 7) ∧ I (16, I (4, 0, 0) (i), 0) 2 = n ∧ ∀ j, 0 ≤ j → j < i → ¬ I (16, I (4, 0, 0) (j), 0) 2 = n) → I (16, I (4, 0, 0) (i), 0) 3 = 0)) ∨ ∃ i i', ((0 ≤ i ∧ i < I (0, 0, 0) 7) ∧ I (16, I (4, 0, 0) (i), 0) 2 = m ∧ ∀ j, 0 ≤ j → j < i → ¬ I (16, I (4, 0, 0) (j), 0) 2 = m) ∧ I (16, I (4, 0, 0) (i), 0) 3 = 1 ∧ ((0 ≤ i' ∧ i' < I (0, 0, 0) 7) ∧ I (16, I (4, 0, 0) (i'), 0) 2 = n ∧ ∀ j, 0 ≤ j → j < i' → ¬ I (16, I (4, 0, 0) (j), 0) 2 = n) ∧ I (16, I (4, 0, 0) (i'), 0) 3 = 1 ∧ x = gz_b (I (16, I (4, 0, 0) (i), 0) 5 = I (16, I (4, 0, 0) (i'), 0) 5 ∧ ∀ t, 0 ≤ t → t < I (16, I (4, 0, 0) (i), 0) 5 → (I (19, I (4, 0, 0) (i), 0) t = I (19, I (4, 0, 0) (i'), 0) t ∧ ∀ j, 0 ≤ j → j < I (19, I (4, 0, 0) (i), 0) t → I (18, I (4, 0, 0) (i), t) j = I (18, I (4, 0, 0) (i'), t) j)))) I [some (.ref (α (0, 0, 0))), some (gz_i (m)), some (gz_i (n)), none, none] [] 0 := by
  first | refine gz_aload_n (pc := 0) dX4_same_0 rfl ?_ | refine gz_aload_nN (pc := 0) dX4_same_0 rfl ?_
  refine gz_iload_n (pc := 1) dX4_same_1 rfl ?_
  refine gz_cV1r (pc := 2) dX4_same_2 wm_X4_125 my_X4_keptMark rfl rfl rfl (by first | exact gz_B1 | (omega)) (ct_X4_keptMark l D α cA hT r_m) (fun x2 I2 h2 => ?_)
  obtain ⟨rfl, ha⟩ := h2
  have ha2 := ha
  rcases ha with ⟨rfl, hn⟩ | ⟨i, hi, hkp, rfl⟩
  · first | refine gz_astore_n (pc := 5) dX4_same_5 rfl rfl rfl ?_ | refine gz_astore_nN (pc := 5) dX4_same_5 rfl rfl rfl ?_
    first | refine gz_aload_n (pc := 6) dX4_same_6 rfl ?_ | refine gz_aload_nN (pc := 6) dX4_same_6 rfl ?_
    refine gz_iload_n (pc := 7) dX4_same_7 rfl ?_
    refine gz_cV1r (pc := 8) dX4_same_8 wm_X4_125 my_X4_keptMark rfl rfl rfl (by first | exact gz_B1 | (omega)) (ct_X4_keptMark l D α cA hT r_n) (fun x8 I8 h8 => ?_)
    obtain ⟨rfl, hb⟩ := h8
    rcases hb with ⟨rfl, hn2⟩ | ⟨i', hi', hkp', rfl⟩
    · first | refine gz_astore (pc := 11) dX4_same_11 rfl rfl rfl ?_ | refine gz_astoreN (pc := 11) dX4_same_11 rfl rfl rfl ?_
      first | refine gz_aload_n (pc := 13) dX4_same_13 rfl ?_ | refine gz_aload_nN (pc := 13) dX4_same_13 rfl ?_
      refine gz_ifnullN (pc := 14) (tgt := 35) dX4_same_14 (by decide) ?_
      refine gz_iconst (pc := 35) dX4_same_35 ?_
      refine gz_zret (pc := 36) dX4_same_36 rfl (by first | exact Or.inl rfl | exact Or.inr rfl | omega) ?_
      first | exact ⟨rfl, Or.inl ⟨rfl, Or.inl hn⟩⟩ | exact ⟨rfl, Or.inl ⟨rfl, Or.inr hn2⟩⟩
    · have e5 := gz_t4 hT 0 0 i'
      first | refine gz_astore (pc := 11) dX4_same_11 rfl rfl rfl ?_ | refine gz_astoreN (pc := 11) dX4_same_11 rfl rfl rfl ?_
      first | refine gz_aload_n (pc := 13) dX4_same_13 rfl ?_ | refine gz_aload_nN (pc := 13) dX4_same_13 rfl ?_
      refine gz_ifnullN (pc := 14) (tgt := 35) dX4_same_14 (by decide) ?_
      refine gz_iconst (pc := 35) dX4_same_35 ?_
      refine gz_zret (pc := 36) dX4_same_36 rfl (by first | exact Or.inl rfl | exact Or.inr rfl | omega) ?_
      exact ⟨rfl, Or.inl ⟨rfl, Or.inl hn⟩⟩
  · have e4 := gz_t4 hT 0 0 i
    first | refine gz_astore_n (pc := 5) dX4_same_5 rfl rfl rfl ?_ | refine gz_astore_nN (pc := 5) dX4_same_5 rfl rfl rfl ?_
    first | refine gz_aload_n (pc := 6) dX4_same_6 rfl ?_ | refine gz_aload_nN (pc := 6) dX4_same_6 rfl ?_
    refine gz_iload_n (pc := 7) dX4_same_7 rfl ?_
    refine gz_cV1r (pc := 8) dX4_same_8 wm_X4_125 my_X4_keptMark rfl rfl rfl (by first | exact gz_B1 | (omega)) (ct_X4_keptMark l D α cA hT r_n) (fun x8 I8 h8 => ?_)
    obtain ⟨rfl, hb⟩ := h8
    rcases hb with ⟨rfl, hn2⟩ | ⟨i', hi', hkp', rfl⟩
    · first | refine gz_astore (pc := 11) dX4_same_11 rfl rfl rfl ?_ | refine gz_astoreN (pc := 11) dX4_same_11 rfl rfl rfl ?_
      first | refine gz_aload_n (pc := 13) dX4_same_13 rfl ?_ | refine gz_aload_nN (pc := 13) dX4_same_13 rfl ?_
      refine gz_ifnull (pc := 14) dX4_same_14 ?_
      first | refine gz_aload (pc := 17) dX4_same_17 rfl ?_ | refine gz_aloadN (pc := 17) dX4_same_17 rfl ?_
      refine gz_ifnullN (pc := 19) (tgt := 35) dX4_same_19 (by decide) ?_
      refine gz_iconst (pc := 35) dX4_same_35 ?_
      refine gz_zret (pc := 36) dX4_same_36 rfl (by first | exact Or.inl rfl | exact Or.inr rfl | omega) ?_
      first | exact ⟨rfl, Or.inl ⟨rfl, Or.inl hn⟩⟩ | exact ⟨rfl, Or.inl ⟨rfl, Or.inr hn2⟩⟩
    · have e5 := gz_t4 hT 0 0 i'
      first | refine gz_astore (pc := 11) dX4_same_11 rfl rfl rfl ?_ | refine gz_astoreN (pc := 11) dX4_same_11 rfl rfl rfl ?_
      first | refine gz_aload_n (pc := 13) dX4_same_13 rfl ?_ | refine gz_aload_nN (pc := 13) dX4_same_13 rfl ?_
      refine gz_ifnull (pc := 14) dX4_same_14 ?_
      first | refine gz_aload (pc := 17) dX4_same_17 rfl ?_ | refine gz_aloadN (pc := 17) dX4_same_17 rfl ?_
      refine gz_ifnull (pc := 19) dX4_same_19 ?_
      first | refine gz_aload_n (pc := 22) dX4_same_22 rfl ?_ | refine gz_aload_nN (pc := 22) dX4_same_22 rfl ?_
      first | refine gz_aload (pc := 23) dX4_same_23 rfl ?_ | refine gz_aloadN (pc := 23) dX4_same_23 rfl ?_
      refine gz_cV1i (pc := 25) dX4_same_25 wm_X4_174 my_X0_isAlike rfl rfl rfl (by first | exact gz_B1 | (omega)) (ct_X0_isAlike l D α cA hT (by omega) (by omega)) (fun x25 I25 h25 => ?_)
      obtain ⟨rfl, ⟨rfl, hal⟩ | ⟨rfl, hal⟩⟩ := h25
      · refine gz_if_eq (pc := 28) (tgt := 35) dX4_same_28 (by decide) (by omega) (fun h28 => ?_) (fun h28 => ?_)
        · refine gz_iconst (pc := 35) dX4_same_35 ?_
          refine gz_zret (pc := 36) dX4_same_36 rfl (by first | exact Or.inl rfl | exact Or.inr rfl | omega) ?_
          first | exact ⟨rfl, Or.inl ⟨rfl, Or.inl hn⟩⟩ | exact absurd h28 (by decide) | exact ⟨rfl, Or.inr ⟨i, i', hi, hkp, hi', hkp', (gz_b1 hal).symm⟩⟩ | exact ⟨rfl, Or.inr ⟨i, i', hi, hkp, hi', hkp', (gz_b0 hal).symm⟩⟩
        · refine gz_iconst (pc := 31) dX4_same_31 ?_
          refine gz_goto (pc := 32) (tgt := 36) dX4_same_32 (by decide) ?_
          refine gz_zret (pc := 36) dX4_same_36 rfl (by first | exact Or.inl rfl | exact Or.inr rfl | omega) ?_
          first | exact ⟨rfl, Or.inl ⟨rfl, Or.inl hn⟩⟩ | exact absurd h28 (by decide) | exact ⟨rfl, Or.inr ⟨i, i', hi, hkp, hi', hkp', (gz_b1 hal).symm⟩⟩ | exact ⟨rfl, Or.inr ⟨i, i', hi, hkp, hi', hkp', (gz_b0 hal).symm⟩⟩
      · refine gz_if_eq (pc := 28) (tgt := 35) dX4_same_28 (by decide) (by omega) (fun h28 => ?_) (fun h28 => ?_)
        · refine gz_iconst (pc := 35) dX4_same_35 ?_
          refine gz_zret (pc := 36) dX4_same_36 rfl (by first | exact Or.inl rfl | exact Or.inr rfl | omega) ?_
          first | exact ⟨rfl, Or.inl ⟨rfl, Or.inl hn⟩⟩ | exact absurd h28 (by decide) | exact ⟨rfl, Or.inr ⟨i, i', hi, hkp, hi', hkp', (gz_b1 hal).symm⟩⟩ | exact ⟨rfl, Or.inr ⟨i, i', hi, hkp, hi', hkp', (gz_b0 hal).symm⟩⟩
        · refine gz_iconst (pc := 31) dX4_same_31 ?_
          refine gz_goto (pc := 32) (tgt := 36) dX4_same_32 (by decide) ?_
          refine gz_zret (pc := 36) dX4_same_36 rfl (by first | exact Or.inl rfl | exact Or.inr rfl | omega) ?_
          first | exact ⟨rfl, Or.inl ⟨rfl, Or.inl hn⟩⟩ | exact absurd h28 (by decide) | exact ⟨rfl, Or.inr ⟨i, i', hi, hkp, hi', hkp', (gz_b1 hal).symm⟩⟩ | exact ⟨rfl, Or.inr ⟨i, i', hi, hkp, hi', hkp', (gz_b0 hal).symm⟩⟩
set_option maxHeartbeats 4000000 in
set_option maxRecDepth 100000 in
theorem ct_X4_partTold (l : Launch) (D : va_G) (α : gz_P → Nat) (cA : Nat → ClassId) {I : gz_M} (hT : gz_T I) {p w : Int} (r_p : (-2147483648 ≤ p ∧ p ≤ 2147483647)) (r_w : (-2147483648 ≤ w ∧ w ≤ 2147483647)) : gz_V l D α cA RX4 cX4_partTold (some .int) 3 2 (gz_Qi fun x I' => I = I' ∧ (x = -2 ∧ (¬ (0 ≤ p ∧ p < 120 ∧ 0 < I (13, 0, 0) p) ∨ ¬ (0 ≤ w ∧ w ≤ 4)) ∨ (0 ≤ p ∧ p < 120 ∧ 0 < I (13, 0, 0) p) ∧ (w = 0 ∧ x = I (13, 0, 0) p ∨ w = 1 ∧ x = I (14, 0, 0) p ∨ w = 2 ∧ x = gz_sm (fun j => gz_b (I (16, I (4, 0, 0) (j), 0) 3 = 1 ∧ gz_nmd I (I (4, 0, 0) (j)) p)) (I (0, 0, 0) 7).toNat ∨ w = 3 ∧ x = 1 - gz_b (gz_snd I 4 p) ∨ w = 4 ∧ x = gz_sm (fun t => I (11, t, 0) p) (I (0, 0, 0) 6).toNat))) I [some (.ref (α (0, 0, 0))), some (gz_i (p)), some (gz_i (w))] [] 0 := by
  first | refine gz_aload_n (pc := 0) dX4_partTold_0 rfl ?_ | refine gz_aload_nN (pc := 0) dX4_partTold_0 rfl ?_
  refine gz_getr (pc := 1) dX4_partTold_1 fl_X4_24 rfl rfl rfl (by first | exact gz_B1 | (omega)) ?_
  refine gz_iload_n (pc := 4) dX4_partTold_4 rfl ?_
  refine gz_cV1i (pc := 5) dX4_partTold_5 wm_X4_177 my_X3_isThere rfl rfl rfl (by first | exact gz_B1 | (omega)) (ct_X3_isThere l D α cA hT r_p) (fun x5 I5 h5 => ?_)
  obtain ⟨rfl, hx5⟩ := h5
  have hxr : 0 ≤ x5 ∧ x5 ≤ 1 := by rcases hx5 with h | h <;> omega
  refine gz_if_ne (pc := 8) (tgt := 14) dX4_partTold_8 (by decide) (by omega) (fun h8 => ?_) (fun h8 => ?_)
  · refine gz_iload_n (pc := 14) dX4_partTold_14 rfl ?_
    by_cases hsw15 : w < 0 ∨ 4 < w
    · refine gz_swOut (pc := 15) (tgt := 104) dX4_partTold_15 (by decide) (by omega) hsw15 ?_
      refine gz_bipush (pc := 104) dX4_partTold_104 rfl ?_
      refine gz_iret (pc := 106) dX4_partTold_106 rfl ?_
      exact ⟨rfl, Or.inl ⟨rfl, Or.inr (by omega)⟩⟩
    · have hsx15 : w = 0 ∨ w = 1 ∨ w = 2 ∨ w = 3 ∨ w = 4 := by omega
      rcases hsx15 with hsx15 | hsx15 | hsx15 | hsx15 | hsx15
      · refine gz_swIn (pc := 15) (off := 33) (tgt := 48) dX4_partTold_15 0 hsx15 (by decide) (by decide) (by decide) rfl (by decide) ?_
        first | refine gz_aload_n (pc := 48) dX4_partTold_48 rfl ?_ | refine gz_aload_nN (pc := 48) dX4_partTold_48 rfl ?_
        refine gz_getr (pc := 49) dX4_partTold_49 fl_X4_24 rfl rfl rfl (by first | exact gz_B1 | (omega)) ?_
        refine gz_getr (pc := 52) dX4_partTold_52 fl_X4_180 rfl rfl rfl (by first | exact gz_B1 | (omega)) ?_
        refine gz_iload_n (pc := 55) dX4_partTold_55 rfl ?_
        refine gz_iald (pc := 56) dX4_partTold_56 rfl rfl (by first | exact gz_B1 | (omega)) (by omega) ?_
        refine gz_iret (pc := 57) dX4_partTold_57 rfl ?_
        exact ⟨rfl, Or.inr ⟨by omega, Or.inl (⟨hsx15, rfl⟩)⟩⟩
      · refine gz_swIn (pc := 15) (off := 43) (tgt := 58) dX4_partTold_15 1 hsx15 (by decide) (by decide) (by decide) rfl (by decide) ?_
        first | refine gz_aload_n (pc := 58) dX4_partTold_58 rfl ?_ | refine gz_aload_nN (pc := 58) dX4_partTold_58 rfl ?_
        refine gz_getr (pc := 59) dX4_partTold_59 fl_X4_24 rfl rfl rfl (by first | exact gz_B1 | (omega)) ?_
        refine gz_getr (pc := 62) dX4_partTold_62 fl_X4_181 rfl rfl rfl (by first | exact gz_B1 | (omega)) ?_
        refine gz_iload_n (pc := 65) dX4_partTold_65 rfl ?_
        refine gz_iald (pc := 66) dX4_partTold_66 rfl rfl (by first | exact gz_B1 | (omega)) (by omega) ?_
        refine gz_iret (pc := 67) dX4_partTold_67 rfl ?_
        exact ⟨rfl, Or.inr ⟨by omega, Or.inr (Or.inl (⟨hsx15, rfl⟩))⟩⟩
      · refine gz_swIn (pc := 15) (off := 53) (tgt := 68) dX4_partTold_15 2 hsx15 (by decide) (by decide) (by decide) rfl (by decide) ?_
        first | refine gz_aload_n (pc := 68) dX4_partTold_68 rfl ?_ | refine gz_aload_nN (pc := 68) dX4_partTold_68 rfl ?_
        refine gz_iload_n (pc := 69) dX4_partTold_69 rfl ?_
        refine gz_cV1i (pc := 70) dX4_partTold_70 wm_X4_184 my_X4_keptNaming rfl rfl rfl (by first | exact gz_B1 | (omega)) (ct_X4_keptNaming l D α cA hT r_p) (fun x70 I70 h70 => ?_)
        obtain ⟨rfl, rfl⟩ := h70
        refine gz_iret (pc := 73) dX4_partTold_73 rfl ?_
        exact ⟨rfl, Or.inr ⟨by omega, Or.inr (Or.inr (Or.inl (⟨hsx15, rfl⟩)))⟩⟩
      · refine gz_swIn (pc := 15) (off := 59) (tgt := 74) dX4_partTold_15 3 hsx15 (by decide) (by decide) (by decide) rfl (by decide) ?_
        have hpt : (0 ≤ p ∧ p < 120 ∧ 0 < I (13, 0, 0) p) := by omega
        first | refine gz_aload_n (pc := 74) dX4_partTold_74 rfl ?_ | refine gz_aload_nN (pc := 74) dX4_partTold_74 rfl ?_
        refine gz_getr (pc := 75) dX4_partTold_75 fl_X4_24 rfl rfl rfl (by first | exact gz_B1 | (omega)) ?_
        refine gz_iload_n (pc := 78) dX4_partTold_78 rfl ?_
        first | refine gz_aload_n (pc := 79) dX4_partTold_79 rfl ?_ | refine gz_aload_nN (pc := 79) dX4_partTold_79 rfl ?_
        refine gz_getr (pc := 80) dX4_partTold_80 fl_X4_24 rfl rfl rfl (by first | exact gz_B1 | (omega)) ?_
        refine gz_getr (pc := 83) dX4_partTold_83 fl_X4_187 rfl rfl rfl (by first | exact gz_B1 | (omega)) ?_
        refine gz_cV2i (pc := 86) dX4_partTold_86 wm_X4_191 my_X3_isSound rfl rfl rfl (by first | exact gz_B1 | (omega)) (ct_X3_isSound l D α cA hT (by omega) (by omega)) (fun x86 I86 h86 => ?_)
        obtain ⟨rfl, ⟨rfl, hsn⟩ | ⟨rfl, hsn⟩⟩ := h86
        · refine gz_if_eq (pc := 89) (tgt := 96) dX4_partTold_89 (by decide) (by omega) (fun h89 => ?_) (fun h89 => ?_)
          · refine gz_iconst (pc := 96) dX4_partTold_96 ?_
            refine gz_iret (pc := 97) dX4_partTold_97 rfl ?_
            first
              | exact absurd h89 (by decide)
              | exact ⟨rfl, Or.inr ⟨hpt, Or.inr (Or.inr (Or.inr (Or.inl (⟨hsx15, by rw [gz_b1 (P := gz_snd I 4 p) hsn]; rfl⟩))))⟩⟩
              | exact ⟨rfl, Or.inr ⟨hpt, Or.inr (Or.inr (Or.inr (Or.inl (⟨hsx15, by rw [gz_b0 (P := gz_snd I 4 p) hsn]; rfl⟩))))⟩⟩
          · refine gz_iconst (pc := 92) dX4_partTold_92 ?_
            refine gz_goto (pc := 93) (tgt := 97) dX4_partTold_93 (by decide) ?_
            refine gz_iret (pc := 97) dX4_partTold_97 rfl ?_
            first
              | exact absurd h89 (by decide)
              | exact ⟨rfl, Or.inr ⟨hpt, Or.inr (Or.inr (Or.inr (Or.inl (⟨hsx15, by rw [gz_b1 (P := gz_snd I 4 p) hsn]; rfl⟩))))⟩⟩
              | exact ⟨rfl, Or.inr ⟨hpt, Or.inr (Or.inr (Or.inr (Or.inl (⟨hsx15, by rw [gz_b0 (P := gz_snd I 4 p) hsn]; rfl⟩))))⟩⟩
        · refine gz_if_eq (pc := 89) (tgt := 96) dX4_partTold_89 (by decide) (by omega) (fun h89 => ?_) (fun h89 => ?_)
          · refine gz_iconst (pc := 96) dX4_partTold_96 ?_
            refine gz_iret (pc := 97) dX4_partTold_97 rfl ?_
            first
              | exact absurd h89 (by decide)
              | exact ⟨rfl, Or.inr ⟨hpt, Or.inr (Or.inr (Or.inr (Or.inl (⟨hsx15, by rw [gz_b1 (P := gz_snd I 4 p) hsn]; rfl⟩))))⟩⟩
              | exact ⟨rfl, Or.inr ⟨hpt, Or.inr (Or.inr (Or.inr (Or.inl (⟨hsx15, by rw [gz_b0 (P := gz_snd I 4 p) hsn]; rfl⟩))))⟩⟩
          · refine gz_iconst (pc := 92) dX4_partTold_92 ?_
            refine gz_goto (pc := 93) (tgt := 97) dX4_partTold_93 (by decide) ?_
            refine gz_iret (pc := 97) dX4_partTold_97 rfl ?_
            first
              | exact absurd h89 (by decide)
              | exact ⟨rfl, Or.inr ⟨hpt, Or.inr (Or.inr (Or.inr (Or.inl (⟨hsx15, by rw [gz_b1 (P := gz_snd I 4 p) hsn]; rfl⟩))))⟩⟩
              | exact ⟨rfl, Or.inr ⟨hpt, Or.inr (Or.inr (Or.inr (Or.inl (⟨hsx15, by rw [gz_b0 (P := gz_snd I 4 p) hsn]; rfl⟩))))⟩⟩
      · refine gz_swIn (pc := 15) (off := 83) (tgt := 98) dX4_partTold_15 4 hsx15 (by decide) (by decide) (by decide) rfl (by decide) ?_
        first | refine gz_aload_n (pc := 98) dX4_partTold_98 rfl ?_ | refine gz_aload_nN (pc := 98) dX4_partTold_98 rfl ?_
        refine gz_iload_n (pc := 99) dX4_partTold_99 rfl ?_
        refine gz_cV1i (pc := 100) dX4_partTold_100 wm_X4_195 my_X4_copyCount rfl rfl rfl (by first | exact gz_B1 | (omega)) (ct_X4_copyCount l D α cA hT (by omega)) (fun x100 I100 h100 => ?_)
        obtain ⟨rfl, rfl⟩ := h100
        refine gz_iret (pc := 103) dX4_partTold_103 rfl ?_
        exact ⟨rfl, Or.inr ⟨by omega, Or.inr (Or.inr (Or.inr (Or.inr (⟨hsx15, rfl⟩))))⟩⟩
  · refine gz_bipush (pc := 11) dX4_partTold_11 rfl ?_
    refine gz_iret (pc := 13) dX4_partTold_13 rfl ?_
    exact ⟨rfl, Or.inl ⟨rfl, Or.inl (by omega)⟩⟩
set_option maxHeartbeats 4000000 in
set_option maxRecDepth 100000 in
theorem ct_X4_partByte (l : Launch) (D : va_G) (α : gz_P → Nat) (cA : Nat → ClassId) {I : gz_M} (hT : gz_T I) {p t i : Int} (r_p : (-2147483648 ≤ p ∧ p ≤ 2147483647)) (r_t : (-2147483648 ≤ t ∧ t ≤ 2147483647)) (r_i : (-2147483648 ≤ i ∧ i ≤ 2147483647)) : gz_V l D α cA RX4 cX4_partByte (some .int) 5 2 (gz_Qi fun x I' => I = I' ∧ (x = -2 ∧ (¬ (t = -1 ∨ 0 ≤ t ∧ t < I (0, 0, 0) 6)) ∨ ∃ a, (t = -1 ∧ a = 4 ∨ (0 ≤ t ∧ t < I (0, 0, 0) 6) ∧ a = t) ∧ (¬ ((0 ≤ p ∧ p < 120 ∧ 0 < I (13, 0, 0) p) ∧ I (11, a, 0) p = 1 ∧ 0 ≤ i ∧ i < I (13, 0, 0) p) ∧ x = -2 ∨ ((0 ≤ p ∧ p < 120 ∧ 0 < I (13, 0, 0) p) ∧ I (11, a, 0) p = 1 ∧ 0 ≤ i ∧ i < I (13, 0, 0) p) ∧ x = I (12, a, 0) (32 * p + i)))) I [some (.ref (α (0, 0, 0))), some (gz_i (p)), some (gz_i (t)), some (gz_i (i)), none] [] 0 := by
  first | refine gz_aload_n (pc := 0) dX4_partByte_0 rfl ?_ | refine gz_aload_nN (pc := 0) dX4_partByte_0 rfl ?_
  refine gz_iload_n (pc := 1) dX4_partByte_1 rfl ?_
  refine gz_cV1r (pc := 2) dX4_partByte_2 wm_X4_198 my_X4_shelfOf rfl rfl rfl (by first | exact gz_B1 | (omega)) (ct_X4_shelfOf l D α cA hT r_t) (fun x2 I2 h2 => ?_)
  obtain ⟨rfl, ⟨rfl, hn⟩ | ⟨a, rfl, ha⟩⟩ := h2
  all_goals have e1 := gz_tk hT 0 0
  · first | refine gz_astore (pc := 5) dX4_partByte_5 rfl rfl rfl ?_ | refine gz_astoreN (pc := 5) dX4_partByte_5 rfl rfl rfl ?_
    first | refine gz_aload (pc := 7) dX4_partByte_7 rfl ?_ | refine gz_aloadN (pc := 7) dX4_partByte_7 rfl ?_
    refine gz_ifnullN (pc := 9) (tgt := 26) dX4_partByte_9 (by decide) ?_
    refine gz_bipush (pc := 26) dX4_partByte_26 rfl ?_
    refine gz_iret (pc := 28) dX4_partByte_28 rfl ?_
    exact ⟨rfl, Or.inl ⟨rfl, hn⟩⟩
  · have e2 := gz_t13 hT 0 0 p
    have e3 := gz_t11 hT a 0 p
    first | refine gz_astore (pc := 5) dX4_partByte_5 rfl rfl rfl ?_ | refine gz_astoreN (pc := 5) dX4_partByte_5 rfl rfl rfl ?_
    first | refine gz_aload (pc := 7) dX4_partByte_7 rfl ?_ | refine gz_aloadN (pc := 7) dX4_partByte_7 rfl ?_
    refine gz_ifnull (pc := 9) dX4_partByte_9 ?_
    first | refine gz_aload_n (pc := 12) dX4_partByte_12 rfl ?_ | refine gz_aload_nN (pc := 12) dX4_partByte_12 rfl ?_
    refine gz_getr (pc := 13) dX4_partByte_13 fl_X4_24 rfl rfl rfl (by first | exact gz_B1 | (omega)) ?_
    refine gz_iload_n (pc := 16) dX4_partByte_16 rfl ?_
    first | refine gz_aload (pc := 17) dX4_partByte_17 rfl ?_ | refine gz_aloadN (pc := 17) dX4_partByte_17 rfl ?_
    refine gz_iload_n (pc := 19) dX4_partByte_19 rfl ?_
    refine gz_cV3i (pc := 20) dX4_partByte_20 wm_X4_202 my_X3_hasByte rfl rfl rfl (by first | exact gz_B1 | (omega)) (ct_X3_hasByte l D α cA hT r_p r_i (by omega)) (fun x20 I20 h20 => ?_)
    obtain ⟨rfl, hx20⟩ := h20
    have hxr : 0 ≤ x20 ∧ x20 ≤ 1 := by rcases hx20 with h | h <;> omega
    refine gz_if_ne (pc := 23) (tgt := 29) dX4_partByte_23 (by decide) (by omega) (fun h23 => ?_) (fun h23 => ?_)
    · first | refine gz_aload (pc := 29) dX4_partByte_29 rfl ?_ | refine gz_aloadN (pc := 29) dX4_partByte_29 rfl ?_
      refine gz_getr (pc := 31) dX4_partByte_31 fl_X4_206 rfl rfl rfl (by first | exact gz_B1 | (omega)) ?_
      refine gz_iload_n (pc := 34) dX4_partByte_34 rfl ?_
      refine gz_bipush (pc := 35) dX4_partByte_35 rfl ?_
      refine gz_imulc (pc := 37) dX4_partByte_37 ?_
      refine gz_iload_n (pc := 38) dX4_partByte_38 rfl ?_
      refine gz_iadd (pc := 39) dX4_partByte_39 ?_
      refine gz_iald (pc := 40) dX4_partByte_40 rfl rfl (by first | exact gz_B1 | (omega)) (by omega) ?_
      refine gz_iret (pc := 41) dX4_partByte_41 rfl ?_
      refine ⟨rfl, Or.inr ⟨a, ha, ?_⟩⟩
      omega
    · refine gz_bipush (pc := 26) dX4_partByte_26 rfl ?_
      refine gz_iret (pc := 28) dX4_partByte_28 rfl ?_
      refine ⟨rfl, Or.inr ⟨a, ha, ?_⟩⟩
      omega
set_option maxHeartbeats 4000000 in
set_option maxRecDepth 100000 in
theorem ct_X4_alter (l : Launch) (D : va_G) (α : gz_P → Nat) (cA : Nat → ClassId) {I : gz_M} (hT : gz_T I) {p t i z : Int} (r_p : (-2147483648 ≤ p ∧ p ≤ 2147483647)) (r_t : (-2147483648 ≤ t ∧ t ≤ 2147483647)) (r_i : (-2147483648 ≤ i ∧ i ≤ 2147483647)) (r_z : (-2147483648 ≤ z ∧ z ≤ 2147483647)) : gz_V l D α cA RX4 cX4_alter (some .int) 6 2 (gz_Qi fun x I' => (x = -2 ∧ I = I' ∧ (¬ (t = -1 ∨ 0 ≤ t ∧ t < I (0, 0, 0) 6)) ∨ ∃ a, (t = -1 ∧ a = 4 ∨ (0 ≤ t ∧ t < I (0, 0, 0) 6) ∧ a = t) ∧ (¬ (((0 ≤ p ∧ p < 120 ∧ 0 < I (13, 0, 0) p) ∧ I (11, a, 0) p = 1 ∧ 0 ≤ i ∧ i < I (13, 0, 0) p) ∧ 0 ≤ z ∧ z ≤ 255) ∧ x = -2 ∧ I = I' ∨ (((0 ≤ p ∧ p < 120 ∧ 0 < I (13, 0, 0) p) ∧ I (11, a, 0) p = 1 ∧ 0 ≤ i ∧ i < I (13, 0, 0) p) ∧ 0 ≤ z ∧ z ≤ 255) ∧ x = gz_x (I (12, a, 0) (32 * p + i)) z ∧ I' = gz_up I (12, a, 0) (32 * p + i) (gz_x (I (12, a, 0) (32 * p + i)) z)))) I [some (.ref (α (0, 0, 0))), some (gz_i (p)), some (gz_i (t)), some (gz_i (i)), some (gz_i (z)), none] [] 0 := by
  first | refine gz_aload_n (pc := 0) dX4_alter_0 rfl ?_ | refine gz_aload_nN (pc := 0) dX4_alter_0 rfl ?_
  refine gz_iload_n (pc := 1) dX4_alter_1 rfl ?_
  refine gz_cV1r (pc := 2) dX4_alter_2 wm_X4_198 my_X4_shelfOf rfl rfl rfl (by first | exact gz_B1 | (omega)) (ct_X4_shelfOf l D α cA hT r_t) (fun x2 I2 h2 => ?_)
  obtain ⟨rfl, ⟨rfl, hn⟩ | ⟨a, rfl, ha⟩⟩ := h2
  all_goals have e1 := gz_tk hT 0 0
  · first | refine gz_astore (pc := 5) dX4_alter_5 rfl rfl rfl ?_ | refine gz_astoreN (pc := 5) dX4_alter_5 rfl rfl rfl ?_
    first | refine gz_aload (pc := 7) dX4_alter_7 rfl ?_ | refine gz_aloadN (pc := 7) dX4_alter_7 rfl ?_
    refine gz_ifnullN (pc := 9) (tgt := 39) dX4_alter_9 (by decide) ?_
    refine gz_bipush (pc := 39) dX4_alter_39 rfl ?_
    refine gz_iret (pc := 41) dX4_alter_41 rfl ?_
    exact Or.inl ⟨rfl, rfl, hn⟩
  · have e2 := gz_t13 hT 0 0 p
    have e3 := gz_t11 hT a 0 p
    first | refine gz_astore (pc := 5) dX4_alter_5 rfl rfl rfl ?_ | refine gz_astoreN (pc := 5) dX4_alter_5 rfl rfl rfl ?_
    first | refine gz_aload (pc := 7) dX4_alter_7 rfl ?_ | refine gz_aloadN (pc := 7) dX4_alter_7 rfl ?_
    refine gz_ifnull (pc := 9) dX4_alter_9 ?_
    first | refine gz_aload_n (pc := 12) dX4_alter_12 rfl ?_ | refine gz_aload_nN (pc := 12) dX4_alter_12 rfl ?_
    refine gz_getr (pc := 13) dX4_alter_13 fl_X4_24 rfl rfl rfl (by first | exact gz_B1 | (omega)) ?_
    refine gz_iload_n (pc := 16) dX4_alter_16 rfl ?_
    first | refine gz_aload (pc := 17) dX4_alter_17 rfl ?_ | refine gz_aloadN (pc := 17) dX4_alter_17 rfl ?_
    refine gz_iload_n (pc := 19) dX4_alter_19 rfl ?_
    refine gz_cV3i (pc := 20) dX4_alter_20 wm_X4_202 my_X3_hasByte rfl rfl rfl (by first | exact gz_B1 | (omega)) (ct_X3_hasByte l D α cA hT r_p r_i (by omega)) (fun x20 I20 h20 => ?_)
    obtain ⟨rfl, hx20⟩ := h20
    have hxr : 0 ≤ x20 ∧ x20 ≤ 1 := by rcases hx20 with h | h <;> omega
    refine gz_if_eq (pc := 23) (tgt := 39) dX4_alter_23 (by decide) (by omega) (fun h23 => ?_) (fun h23 => ?_)
    · refine gz_bipush (pc := 39) dX4_alter_39 rfl ?_
      refine gz_iret (pc := 41) dX4_alter_41 rfl ?_
      exact Or.inr ⟨a, ha, Or.inl ⟨by omega, rfl, rfl⟩⟩
    · refine gz_iload (pc := 26) dX4_alter_26 rfl ?_
      refine gz_if_lt (pc := 28) (tgt := 39) dX4_alter_28 (by decide) (by omega) (fun h28 => ?_) (fun h28 => ?_)
      · refine gz_bipush (pc := 39) dX4_alter_39 rfl ?_
        refine gz_iret (pc := 41) dX4_alter_41 rfl ?_
        exact Or.inr ⟨a, ha, Or.inl ⟨by omega, rfl, rfl⟩⟩
      · refine gz_iload (pc := 31) dX4_alter_31 rfl ?_
        refine gz_sipush (pc := 33) dX4_alter_33 rfl ?_
        refine gz_icmp_le (pc := 36) (tgt := 42) dX4_alter_36 (by decide) (by omega) (by omega) (fun h36 => ?_) (fun h36 => ?_)
        · first | refine gz_aload (pc := 42) dX4_alter_42 rfl ?_ | refine gz_aloadN (pc := 42) dX4_alter_42 rfl ?_
          refine gz_getr (pc := 44) dX4_alter_44 fl_X4_206 rfl rfl rfl (by first | exact gz_B1 | (omega)) ?_
          refine gz_iload_n (pc := 47) dX4_alter_47 rfl ?_
          refine gz_bipush (pc := 48) dX4_alter_48 rfl ?_
          refine gz_imulc (pc := 50) dX4_alter_50 ?_
          refine gz_iload_n (pc := 51) dX4_alter_51 rfl ?_
          refine gz_iadd (pc := 52) dX4_alter_52 ?_
          refine gz_dup2 (pc := 53) dX4_alter_53 rfl rfl ?_
          refine gz_iald (pc := 54) dX4_alter_54 rfl rfl (by first | exact gz_B1 | (omega)) (by omega) ?_
          refine gz_iload (pc := 55) dX4_alter_55 rfl ?_
          refine gz_ixor (pc := 57) dX4_alter_57 ?_
          refine gz_iast (pc := 58) dX4_alter_58 rfl rfl (by first | exact gz_B1 | (omega)) (by omega) ?_
          first | refine gz_aload (pc := 59) dX4_alter_59 rfl ?_ | refine gz_aloadN (pc := 59) dX4_alter_59 rfl ?_
          refine gz_getr (pc := 61) dX4_alter_61 fl_X4_206 rfl rfl rfl (by first | exact gz_B1 | (omega)) ?_
          refine gz_iload_n (pc := 64) dX4_alter_64 rfl ?_
          refine gz_bipush (pc := 65) dX4_alter_65 rfl ?_
          refine gz_imulc (pc := 67) dX4_alter_67 ?_
          refine gz_iload_n (pc := 68) dX4_alter_68 rfl ?_
          refine gz_iadd (pc := 69) dX4_alter_69 ?_
          refine gz_iald (pc := 70) dX4_alter_70 rfl rfl (by first | exact gz_B1 | (omega)) (by omega) ?_
          rw [gz_up_s]
          refine gz_iret (pc := 71) dX4_alter_71 rfl ?_
          exact Or.inr ⟨a, ha, Or.inr ⟨by omega, rfl, rfl⟩⟩
        · refine gz_bipush (pc := 39) dX4_alter_39 rfl ?_
          refine gz_iret (pc := 41) dX4_alter_41 rfl ?_
          exact Or.inr ⟨a, ha, Or.inl ⟨by omega, rfl, rfl⟩⟩
set_option maxHeartbeats 4000000 in
set_option maxRecDepth 100000 in
theorem ct_X4_lose (l : Launch) (D : va_G) (α : gz_P → Nat) (cA : Nat → ClassId) {I : gz_M} (hT : gz_T I) {p t : Int} (r_p : (-2147483648 ≤ p ∧ p ≤ 2147483647)) (r_t : (-2147483648 ≤ t ∧ t ≤ 2147483647)) : gz_V l D α cA RX4 cX4_lose (some .int) 4 2 (gz_Qi fun x I' => (x = -2 ∧ I = I' ∧ (¬ (t = -1 ∨ 0 ≤ t ∧ t < I (0, 0, 0) 6)) ∨ ∃ a, (t = -1 ∧ a = 4 ∨ (0 ≤ t ∧ t < I (0, 0, 0) 6) ∧ a = t) ∧ (¬ ((0 ≤ p ∧ p < 120 ∧ 0 < I (13, 0, 0) p) ∧ I (11, a, 0) p = 1) ∧ x = -2 ∧ I = I' ∨ ((0 ≤ p ∧ p < 120 ∧ 0 < I (13, 0, 0) p) ∧ I (11, a, 0) p = 1) ∧ x = 1 ∧ I' = gz_up I (11, a, 0) p 0))) I [some (.ref (α (0, 0, 0))), some (gz_i (p)), some (gz_i (t)), none] [] 0 := by
  first | refine gz_aload_n (pc := 0) dX4_lose_0 rfl ?_ | refine gz_aload_nN (pc := 0) dX4_lose_0 rfl ?_
  refine gz_iload_n (pc := 1) dX4_lose_1 rfl ?_
  refine gz_cV1r (pc := 2) dX4_lose_2 wm_X4_198 my_X4_shelfOf rfl rfl rfl (by first | exact gz_B1 | (omega)) (ct_X4_shelfOf l D α cA hT r_t) (fun x2 I2 h2 => ?_)
  obtain ⟨rfl, ⟨rfl, hn⟩ | ⟨a, rfl, ha⟩⟩ := h2
  all_goals have e1 := gz_tk hT 0 0
  · first | refine gz_astore_n (pc := 5) dX4_lose_5 rfl rfl rfl ?_ | refine gz_astore_nN (pc := 5) dX4_lose_5 rfl rfl rfl ?_
    first | refine gz_aload_n (pc := 6) dX4_lose_6 rfl ?_ | refine gz_aload_nN (pc := 6) dX4_lose_6 rfl ?_
    refine gz_ifnullN (pc := 7) (tgt := 30) dX4_lose_7 (by decide) ?_
    refine gz_bipush (pc := 30) dX4_lose_30 rfl ?_
    refine gz_iret (pc := 32) dX4_lose_32 rfl ?_
    exact Or.inl ⟨rfl, rfl, hn⟩
  · have e2 := gz_t13 hT 0 0 p
    have e3 := gz_t11 hT a 0 p
    first | refine gz_astore_n (pc := 5) dX4_lose_5 rfl rfl rfl ?_ | refine gz_astore_nN (pc := 5) dX4_lose_5 rfl rfl rfl ?_
    first | refine gz_aload_n (pc := 6) dX4_lose_6 rfl ?_ | refine gz_aload_nN (pc := 6) dX4_lose_6 rfl ?_
    refine gz_ifnull (pc := 7) dX4_lose_7 ?_
    first | refine gz_aload_n (pc := 10) dX4_lose_10 rfl ?_ | refine gz_aload_nN (pc := 10) dX4_lose_10 rfl ?_
    refine gz_getr (pc := 11) dX4_lose_11 fl_X4_24 rfl rfl rfl (by first | exact gz_B1 | (omega)) ?_
    refine gz_iload_n (pc := 14) dX4_lose_14 rfl ?_
    refine gz_cV1i (pc := 15) dX4_lose_15 wm_X4_177 my_X3_isThere rfl rfl rfl (by first | exact gz_B1 | (omega)) (ct_X3_isThere l D α cA hT r_p) (fun x15 I15 h15 => ?_)
    obtain ⟨rfl, hx15⟩ := h15
    have hxr : 0 ≤ x15 ∧ x15 ≤ 1 := by rcases hx15 with h | h <;> omega
    refine gz_if_eq (pc := 18) (tgt := 30) dX4_lose_18 (by decide) (by omega) (fun h18 => ?_) (fun h18 => ?_)
    · refine gz_bipush (pc := 30) dX4_lose_30 rfl ?_
      refine gz_iret (pc := 32) dX4_lose_32 rfl ?_
      exact Or.inr ⟨a, ha, Or.inl ⟨by omega, rfl, rfl⟩⟩
    · first | refine gz_aload_n (pc := 21) dX4_lose_21 rfl ?_ | refine gz_aload_nN (pc := 21) dX4_lose_21 rfl ?_
      refine gz_getr (pc := 22) dX4_lose_22 fl_X4_207 rfl rfl rfl (by first | exact gz_B1 | (omega)) ?_
      refine gz_iload_n (pc := 25) dX4_lose_25 rfl ?_
      refine gz_zald (pc := 26) dX4_lose_26 rfl rfl (by first | exact gz_B1 | (omega)) (by omega) ?_
      refine gz_if_ne (pc := 27) (tgt := 33) dX4_lose_27 (by decide) (by omega) (fun h27 => ?_) (fun h27 => ?_)
      · first | refine gz_aload_n (pc := 33) dX4_lose_33 rfl ?_ | refine gz_aload_nN (pc := 33) dX4_lose_33 rfl ?_
        refine gz_getr (pc := 34) dX4_lose_34 fl_X4_207 rfl rfl rfl (by first | exact gz_B1 | (omega)) ?_
        refine gz_iload_n (pc := 37) dX4_lose_37 rfl ?_
        refine gz_iconst (pc := 38) dX4_lose_38 ?_
        refine gz_zast (pc := 39) dX4_lose_39 rfl rfl (by first | exact gz_B1 | (omega)) (by omega) (by exact Or.inl rfl) ?_
        refine gz_iconst (pc := 40) dX4_lose_40 ?_
        refine gz_iret (pc := 41) dX4_lose_41 rfl ?_
        exact Or.inr ⟨a, ha, Or.inr ⟨by omega, rfl, rfl⟩⟩
      · refine gz_bipush (pc := 30) dX4_lose_30 rfl ?_
        refine gz_iret (pc := 32) dX4_lose_32 rfl ?_
        exact Or.inr ⟨a, ha, Or.inl ⟨by omega, rfl, rfl⟩⟩
set_option maxHeartbeats 4000000 in
set_option maxRecDepth 100000 in
theorem ct_X4_told (l : Launch) (D : va_G) (α : gz_P → Nat) (cA : Nat → ClassId) {I : gz_M} (hT : gz_T I) {w : Int} (r_w : (-2147483648 ≤ w ∧ w ≤ 2147483647)) : gz_V l D α cA RX4 cX4_told (some .int) 2 3 (gz_Qi fun x I' => I = I' ∧ (x = -2 ∧ ¬ (0 ≤ w ∧ w ≤ 8) ∨ w = 0 ∧ x = I (0, 0, 0) 6 ∨ w = 1 ∧ x = gz_sm (fun j => I (16, I (4, 0, 0) (j), 0) 3) (I (0, 0, 0) 7).toNat ∨ w = 2 ∧ x = I (0, 0, 0) 7 ∨ w = 3 ∧ x = I (3, 0, 0) 6 ∨ w = 4 ∧ x = I (3, 0, 0) 7 ∨ w = 5 ∧ x = I (0, 0, 0) 8 ∨ w = 6 ∧ x = gz_sm (fun p => if 0 < I (13, 0, 0) p ∧ ¬ (I (11, 4, 0) p = 1 ∧ gz_dg (fun i => I (12, 4, 0) (32 * p + i)) (I (13, 0, 0) p).toNat = I (14, 0, 0) p) then 1 else 0) 120 ∨ w = 7 ∧ x = gz_sm (fun p => gz_sm (fun t => I (11, t, 0) p) (I (0, 0, 0) 6).toNat) 120 ∨ w = 8 ∧ x = gz_sm (fun t => I (7, t, 0) 2) (I (0, 0, 0) 6).toNat)) I [some (.ref (α (0, 0, 0))), some (gz_i (w))] [] 0 := by
  refine gz_iload_n (pc := 0) dX4_told_0 rfl ?_
  by_cases hsw1 : w < 0 ∨ 8 < w
  · refine gz_swOut (pc := 1) (tgt := 106) dX4_told_1 (by decide) (by omega) hsw1 ?_
    refine gz_bipush (pc := 106) dX4_told_106 rfl ?_
    refine gz_iret (pc := 108) dX4_told_108 rfl ?_
    exact ⟨rfl, Or.inl ⟨rfl, by omega⟩⟩
  · have hsx1 : w = 0 ∨ w = 1 ∨ w = 2 ∨ w = 3 ∨ w = 4 ∨ w = 5 ∨ w = 6 ∨ w = 7 ∨ w = 8 := by omega
    rcases hsx1 with hsx1 | hsx1 | hsx1 | hsx1 | hsx1 | hsx1 | hsx1 | hsx1 | hsx1
    · refine gz_swIn (pc := 1) (off := 51) (tgt := 52) dX4_told_1 0 hsx1 (by decide) (by decide) (by decide) rfl (by decide) ?_
      first | refine gz_aload_n (pc := 52) dX4_told_52 rfl ?_ | refine gz_aload_nN (pc := 52) dX4_told_52 rfl ?_
      refine gz_getI (pc := 53) 6 dX4_told_53 fl_X4_42 rfl rfl rfl rfl (by first | exact gz_B1 | (omega)) ?_
      refine gz_iret (pc := 56) dX4_told_56 rfl ?_
      exact ⟨rfl, Or.inr (Or.inl (⟨hsx1, rfl⟩))⟩
    · refine gz_swIn (pc := 1) (off := 56) (tgt := 57) dX4_told_1 1 hsx1 (by decide) (by decide) (by decide) rfl (by decide) ?_
      first | refine gz_aload_n (pc := 57) dX4_told_57 rfl ?_ | refine gz_aload_nN (pc := 57) dX4_told_57 rfl ?_
      refine gz_cV0i (pc := 58) dX4_told_58 wm_X4_210 my_X4_keptCount rfl rfl rfl (by first | exact gz_B1 | (omega)) (ct_X4_keptCount l D α cA hT) (fun x58 I58 h58 => ?_)
      obtain ⟨rfl, rfl⟩ := h58
      refine gz_iret (pc := 61) dX4_told_61 rfl ?_
      exact ⟨rfl, Or.inr (Or.inr (Or.inl (⟨hsx1, rfl⟩)))⟩
    · refine gz_swIn (pc := 1) (off := 61) (tgt := 62) dX4_told_1 2 hsx1 (by decide) (by decide) (by decide) rfl (by decide) ?_
      first | refine gz_aload_n (pc := 62) dX4_told_62 rfl ?_ | refine gz_aload_nN (pc := 62) dX4_told_62 rfl ?_
      refine gz_getI (pc := 63) 7 dX4_told_63 fl_X4_46 rfl rfl rfl rfl (by first | exact gz_B1 | (omega)) ?_
      refine gz_iret (pc := 66) dX4_told_66 rfl ?_
      exact ⟨rfl, Or.inr (Or.inr (Or.inr (Or.inl (⟨hsx1, rfl⟩))))⟩
    · refine gz_swIn (pc := 1) (off := 66) (tgt := 67) dX4_told_1 3 hsx1 (by decide) (by decide) (by decide) rfl (by decide) ?_
      first | refine gz_aload_n (pc := 67) dX4_told_67 rfl ?_ | refine gz_aload_nN (pc := 67) dX4_told_67 rfl ?_
      refine gz_getr (pc := 68) dX4_told_68 fl_X4_24 rfl rfl rfl (by first | exact gz_B1 | (omega)) ?_
      refine gz_getI (pc := 71) 6 dX4_told_71 fl_X4_213 rfl rfl rfl rfl (by first | exact gz_B1 | (omega)) ?_
      refine gz_iret (pc := 74) dX4_told_74 rfl ?_
      exact ⟨rfl, Or.inr (Or.inr (Or.inr (Or.inr (Or.inl (⟨hsx1, rfl⟩)))))⟩
    · refine gz_swIn (pc := 1) (off := 74) (tgt := 75) dX4_told_1 4 hsx1 (by decide) (by decide) (by decide) rfl (by decide) ?_
      first | refine gz_aload_n (pc := 75) dX4_told_75 rfl ?_ | refine gz_aload_nN (pc := 75) dX4_told_75 rfl ?_
      refine gz_getr (pc := 76) dX4_told_76 fl_X4_24 rfl rfl rfl (by first | exact gz_B1 | (omega)) ?_
      refine gz_getI (pc := 79) 7 dX4_told_79 fl_X4_216 rfl rfl rfl rfl (by first | exact gz_B1 | (omega)) ?_
      refine gz_iret (pc := 82) dX4_told_82 rfl ?_
      exact ⟨rfl, Or.inr (Or.inr (Or.inr (Or.inr (Or.inr (Or.inl (⟨hsx1, rfl⟩))))))⟩
    · refine gz_swIn (pc := 1) (off := 82) (tgt := 83) dX4_told_1 5 hsx1 (by decide) (by decide) (by decide) rfl (by decide) ?_
      first | refine gz_aload_n (pc := 83) dX4_told_83 rfl ?_ | refine gz_aload_nN (pc := 83) dX4_told_83 rfl ?_
      refine gz_getI (pc := 84) 8 dX4_told_84 fl_X4_49 rfl rfl rfl rfl (by first | exact gz_B1 | (omega)) ?_
      refine gz_iret (pc := 87) dX4_told_87 rfl ?_
      exact ⟨rfl, Or.inr (Or.inr (Or.inr (Or.inr (Or.inr (Or.inr (Or.inl (⟨hsx1, rfl⟩)))))))⟩
    · refine gz_swIn (pc := 1) (off := 87) (tgt := 88) dX4_told_1 6 hsx1 (by decide) (by decide) (by decide) rfl (by decide) ?_
      first | refine gz_aload_n (pc := 88) dX4_told_88 rfl ?_ | refine gz_aload_nN (pc := 88) dX4_told_88 rfl ?_
      refine gz_getr (pc := 89) dX4_told_89 fl_X4_24 rfl rfl rfl (by first | exact gz_B1 | (omega)) ?_
      refine gz_cV0i (pc := 92) dX4_told_92 wm_X4_219 my_X3_brokenCount rfl rfl rfl (by first | exact gz_B1 | (omega)) (ct_X3_brokenCount l D α cA hT) (fun x92 I92 h92 => ?_)
      obtain ⟨rfl, rfl⟩ := h92
      refine gz_iret (pc := 95) dX4_told_95 rfl ?_
      exact ⟨rfl, Or.inr (Or.inr (Or.inr (Or.inr (Or.inr (Or.inr (Or.inr (Or.inl (⟨hsx1, rfl⟩))))))))⟩
    · refine gz_swIn (pc := 1) (off := 95) (tgt := 96) dX4_told_1 7 hsx1 (by decide) (by decide) (by decide) rfl (by decide) ?_
      first | refine gz_aload_n (pc := 96) dX4_told_96 rfl ?_ | refine gz_aload_nN (pc := 96) dX4_told_96 rfl ?_
      refine gz_cV0i (pc := 97) dX4_told_97 wm_X4_222 my_X4_allCopies rfl rfl rfl (by first | exact gz_B1 | (omega)) (ct_X4_allCopies l D α cA hT) (fun x97 I97 h97 => ?_)
      obtain ⟨rfl, rfl⟩ := h97
      refine gz_iret (pc := 100) dX4_told_100 rfl ?_
      exact ⟨rfl, Or.inr (Or.inr (Or.inr (Or.inr (Or.inr (Or.inr (Or.inr (Or.inr (Or.inl (⟨hsx1, rfl⟩)))))))))⟩
    · refine gz_swIn (pc := 1) (off := 100) (tgt := 101) dX4_told_1 8 hsx1 (by decide) (by decide) (by decide) rfl (by decide) ?_
      first | refine gz_aload_n (pc := 101) dX4_told_101 rfl ?_ | refine gz_aload_nN (pc := 101) dX4_told_101 rfl ?_
      refine gz_cV0i (pc := 102) dX4_told_102 wm_X4_80 my_X4_totalStateBytes rfl rfl rfl (by first | exact gz_B1 | (omega)) (ct_X4_totalStateBytes l D α cA hT) (fun x102 I102 h102 => ?_)
      obtain ⟨rfl, rfl⟩ := h102
      refine gz_iret (pc := 105) dX4_told_105 rfl ?_
      exact ⟨rfl, Or.inr (Or.inr (Or.inr (Or.inr (Or.inr (Or.inr (Or.inr (Or.inr (Or.inr (⟨hsx1, rfl⟩)))))))))⟩
