set_option maxHeartbeats 4000000 in
set_option maxRecDepth 100000 in
theorem lp_X4_keptNaming (l : Launch) (D : va_G) (α : gz_P → Nat) (cA : Nat → ClassId) {I : gz_M} (hT : gz_T I) {p : Int} (hp : (-2147483648 ≤ p ∧ p ≤ 2147483647)) : ∀ i, i ≤ I (0, 0, 0) 7 → ∀ n : Int, 0 ≤ i → n = gz_sm (fun j => gz_b (I (16, I (4, 0, 0) (j), 0) 3 = 1 ∧ gz_nmd I (I (4, 0, 0) (j)) p)) i.toNat → gz_V l D α cA RX4 cX4_keptNaming (some .int) 4 1 (gz_Qi fun x I' => I = I' ∧ x = gz_sm (fun j => gz_b (I (16, I (4, 0, 0) (j), 0) 3 = 1 ∧ gz_nmd I (I (4, 0, 0) (j)) p)) (I (0, 0, 0) 7).toNat) I [some (.ref (α (0, 0, 0))), some (gz_i (p)), some (gz_i (n)), some (gz_i (i))] [] 4 := by
  refine gz_upto _ ?_
  intro i hi ih n h0 hn
  have e1 := gz_th hT 0 0
  have e2 := gz_t4 hT 0 0 i
  have e3 := gz_tm3 hT (I (4, 0, 0) (i)) 0
  have e4 := gz_sm_in (f := (fun j => gz_b (I (16, I (4, 0, 0) (j), 0) 3 = 1 ∧ gz_nmd I (I (4, 0, 0) (j)) p))) (lo := 0) (hi := 1) (fun j => gz_b_in _) i.toNat
  refine gz_iload_n (pc := 4) dX4_keptNaming_4 rfl ?_
  first | refine gz_aload_n (pc := 5) dX4_keptNaming_5 rfl ?_ | refine gz_aload_nN (pc := 5) dX4_keptNaming_5 rfl ?_
  refine gz_getI (pc := 6) 7 dX4_keptNaming_6 fl_X4_46 rfl rfl rfl rfl (by first | exact gz_B1 | (omega)) ?_
  refine gz_icmp_ge (pc := 9) (tgt := 46) dX4_keptNaming_9 (by decide) (by omega) (by omega) (fun h9 => ?_) (fun h9 => ?_)
  · refine gz_iload_n (pc := 46) dX4_keptNaming_46 rfl ?_
    refine gz_iret (pc := 47) dX4_keptNaming_47 rfl ?_
    exact ⟨rfl, by rw [hn, show i = I (0, 0, 0) 7 by omega]⟩
  · first | refine gz_aload_n (pc := 12) dX4_keptNaming_12 rfl ?_ | refine gz_aload_nN (pc := 12) dX4_keptNaming_12 rfl ?_
    refine gz_getr (pc := 13) dX4_keptNaming_13 fl_X4_30 rfl rfl rfl (by first | exact gz_B1 | (omega)) ?_
    refine gz_iload_n (pc := 16) dX4_keptNaming_16 rfl ?_
    first | refine gz_ald1 (pc := 17) dX4_keptNaming_17 (by omega) ?_ | refine gz_ald2 (pc := 17) dX4_keptNaming_17 (by omega) ?_ | refine gz_ald4 (pc := 17) dX4_keptNaming_17 (by omega) ?_ | refine gz_ald17 (pc := 17) dX4_keptNaming_17 (by first | exact gz_B1 | (omega)) (by omega) ?_
    refine gz_getI (pc := 18) 3 dX4_keptNaming_18 fl_X4_129 rfl rfl rfl rfl (by first | exact gz_B1 | (omega)) ?_
    refine gz_if_eq (pc := 21) (tgt := 40) dX4_keptNaming_21 (by decide) (by omega) (fun h21 => ?_) (fun h21 => ?_)
    · refine gz_iinc (pc := 40) dX4_keptNaming_40 rfl rfl rfl rfl ?_
      refine gz_goto (pc := 43) (tgt := 4) dX4_keptNaming_43 (by decide) ?_
      first
        | exact absurd h34 (by decide)
        | (refine ih (i + 1) (by omega) (by omega) _ (by omega) ?_
           rw [show (i + 1).toNat = i.toNat + 1 by omega, gz_sm_s, ← hn, Int.toNat_of_nonneg h0]
           first
             | (rw [gz_b1 ⟨hk1, hnm⟩]; done)
             | (rw [gz_b0 (fun z => hnm z.2)]; omega)
             | (rw [gz_b0 (fun z => by omega)]; omega))
    · have hk1 : I (16, I (4, 0, 0) (i), 0) 3 = 1 := by omega
      first | refine gz_aload_n (pc := 24) dX4_keptNaming_24 rfl ?_ | refine gz_aload_nN (pc := 24) dX4_keptNaming_24 rfl ?_
      refine gz_getr (pc := 25) dX4_keptNaming_25 fl_X4_30 rfl rfl rfl (by first | exact gz_B1 | (omega)) ?_
      refine gz_iload_n (pc := 28) dX4_keptNaming_28 rfl ?_
      first | refine gz_ald1 (pc := 29) dX4_keptNaming_29 (by omega) ?_ | refine gz_ald2 (pc := 29) dX4_keptNaming_29 (by omega) ?_ | refine gz_ald4 (pc := 29) dX4_keptNaming_29 (by omega) ?_ | refine gz_ald17 (pc := 29) dX4_keptNaming_29 (by first | exact gz_B1 | (omega)) (by omega) ?_
      refine gz_iload_n (pc := 30) dX4_keptNaming_30 rfl ?_
      refine gz_cV1i (pc := 31) dX4_keptNaming_31 wm_X4_274 my_X0_names rfl rfl rfl (by first | exact gz_B1 | (omega)) (ct_X0_names l D α cA hT (by omega) hp) (fun x31 I31 h31 => ?_)
      obtain ⟨rfl, ⟨rfl, hnm⟩ | ⟨rfl, hnm⟩⟩ := h31
      · refine gz_if_eq (pc := 34) (tgt := 40) dX4_keptNaming_34 (by decide) (by omega) (fun h34 => ?_) (fun h34 => ?_)
        · refine gz_iinc (pc := 40) dX4_keptNaming_40 rfl rfl rfl rfl ?_
          refine gz_goto (pc := 43) (tgt := 4) dX4_keptNaming_43 (by decide) ?_
          first
            | exact absurd h34 (by decide)
            | (refine ih (i + 1) (by omega) (by omega) _ (by omega) ?_
               rw [show (i + 1).toNat = i.toNat + 1 by omega, gz_sm_s, ← hn, Int.toNat_of_nonneg h0]
               first
                 | (rw [gz_b1 ⟨hk1, hnm⟩]; done)
                 | (rw [gz_b0 (fun z => hnm z.2)]; omega)
                 | (rw [gz_b0 (fun z => by omega)]; omega))
        · refine gz_iinc (pc := 37) dX4_keptNaming_37 rfl rfl rfl rfl ?_
          refine gz_iinc (pc := 40) dX4_keptNaming_40 rfl rfl rfl rfl ?_
          refine gz_goto (pc := 43) (tgt := 4) dX4_keptNaming_43 (by decide) ?_
          first
            | exact absurd h34 (by decide)
            | (refine ih (i + 1) (by omega) (by omega) _ (by omega) ?_
               rw [show (i + 1).toNat = i.toNat + 1 by omega, gz_sm_s, ← hn, Int.toNat_of_nonneg h0]
               first
                 | (rw [gz_b1 ⟨hk1, hnm⟩]; done)
                 | (rw [gz_b0 (fun z => hnm z.2)]; omega)
                 | (rw [gz_b0 (fun z => by omega)]; omega))
      · refine gz_if_eq (pc := 34) (tgt := 40) dX4_keptNaming_34 (by decide) (by omega) (fun h34 => ?_) (fun h34 => ?_)
        · refine gz_iinc (pc := 40) dX4_keptNaming_40 rfl rfl rfl rfl ?_
          refine gz_goto (pc := 43) (tgt := 4) dX4_keptNaming_43 (by decide) ?_
          first
            | exact absurd h34 (by decide)
            | (refine ih (i + 1) (by omega) (by omega) _ (by omega) ?_
               rw [show (i + 1).toNat = i.toNat + 1 by omega, gz_sm_s, ← hn, Int.toNat_of_nonneg h0]
               first
                 | (rw [gz_b1 ⟨hk1, hnm⟩]; done)
                 | (rw [gz_b0 (fun z => hnm z.2)]; omega)
                 | (rw [gz_b0 (fun z => by omega)]; omega))
        · refine gz_iinc (pc := 37) dX4_keptNaming_37 rfl rfl rfl rfl ?_
          refine gz_iinc (pc := 40) dX4_keptNaming_40 rfl rfl rfl rfl ?_
          refine gz_goto (pc := 43) (tgt := 4) dX4_keptNaming_43 (by decide) ?_
          first
            | exact absurd h34 (by decide)
            | (refine ih (i + 1) (by omega) (by omega) _ (by omega) ?_
               rw [show (i + 1).toNat = i.toNat + 1 by omega, gz_sm_s, ← hn, Int.toNat_of_nonneg h0]
               first
                 | (rw [gz_b1 ⟨hk1, hnm⟩]; done)
                 | (rw [gz_b0 (fun z => hnm z.2)]; omega)
                 | (rw [gz_b0 (fun z => by omega)]; omega))
set_option maxHeartbeats 4000000 in
set_option maxRecDepth 100000 in
theorem ct_X4_keptNaming (l : Launch) (D : va_G) (α : gz_P → Nat) (cA : Nat → ClassId) {I : gz_M} (hT : gz_T I) {p : Int} (hp : (-2147483648 ≤ p ∧ p ≤ 2147483647)) : gz_V l D α cA RX4 cX4_keptNaming (some .int) 4 1 (gz_Qi fun x I' => I = I' ∧ x = gz_sm (fun j => gz_b (I (16, I (4, 0, 0) (j), 0) 3 = 1 ∧ gz_nmd I (I (4, 0, 0) (j)) p)) (I (0, 0, 0) 7).toNat) I [some (.ref (α (0, 0, 0))), some (gz_i (p)), none, none] [] 0 := by
  refine gz_iconst (pc := 0) dX4_keptNaming_0 ?_
  refine gz_istore_n (pc := 1) dX4_keptNaming_1 rfl rfl rfl ?_
  refine gz_iconst (pc := 2) dX4_keptNaming_2 ?_
  refine gz_istore_n (pc := 3) dX4_keptNaming_3 rfl rfl rfl ?_
  exact lp_X4_keptNaming l D α cA hT hp 0 (by have := gz_th hT 0 0; omega) 0 (by omega) rfl
set_option maxHeartbeats 4000000 in
set_option maxRecDepth 100000 in
theorem lp_X4_isBase (l : Launch) (D : va_G) (α : gz_P → Nat) (cA : Nat → ClassId) {I : gz_M} (hT : gz_T I) {m : Int} (hm : (-2147483648 ≤ m ∧ m ≤ 2147483647)) : ∀ i, i ≤ I (0, 0, 0) 7 → 0 ≤ i → (∀ j, 0 ≤ j → j < i → ¬ I (16, I (4, 0, 0) (j), 0) 4 = m) → gz_V l D α cA RX4 cX4_isBase (some .boolean) 3 0 (gz_Qi fun x I' => I = I' ∧ (x = 1 ∧ (∃ j, (0 ≤ j ∧ j < I (0, 0, 0) 7) ∧ I (16, I (4, 0, 0) (j), 0) 4 = m) ∨ x = 0 ∧ ¬ (∃ j, (0 ≤ j ∧ j < I (0, 0, 0) 7) ∧ I (16, I (4, 0, 0) (j), 0) 4 = m))) I [some (.ref (α (0, 0, 0))), some (gz_i (m)), some (gz_i (i))] [] 2 := by
  refine gz_upto _ ?_
  intro i hi ih h0 hj
  have e1 := gz_th hT 0 0
  have e2 := gz_t4 hT 0 0 i
  have e3 := gz_tm4 hT (I (4, 0, 0) (i)) 0
  refine gz_iload_n (pc := 2) dX4_isBase_2 rfl ?_
  first | refine gz_aload_n (pc := 3) dX4_isBase_3 rfl ?_ | refine gz_aload_nN (pc := 3) dX4_isBase_3 rfl ?_
  refine gz_getI (pc := 4) 7 dX4_isBase_4 fl_X4_46 rfl rfl rfl rfl (by first | exact gz_B1 | (omega)) ?_
  refine gz_icmp_ge (pc := 7) (tgt := 31) dX4_isBase_7 (by decide) (by omega) (by omega) (fun h7 => ?_) (fun h7 => ?_)
  · refine gz_iconst (pc := 31) dX4_isBase_31 ?_
    refine gz_zret (pc := 32) dX4_isBase_32 rfl (by first | exact Or.inl rfl | exact Or.inr rfl | omega) ?_
    refine ⟨rfl, Or.inr ⟨rfl, ?_⟩⟩
    rintro ⟨j, a1, a2⟩
    exact hj j a1.1 (by omega) a2
  · first | refine gz_aload_n (pc := 10) dX4_isBase_10 rfl ?_ | refine gz_aload_nN (pc := 10) dX4_isBase_10 rfl ?_
    refine gz_getr (pc := 11) dX4_isBase_11 fl_X4_30 rfl rfl rfl (by first | exact gz_B1 | (omega)) ?_
    refine gz_iload_n (pc := 14) dX4_isBase_14 rfl ?_
    first | refine gz_ald1 (pc := 15) dX4_isBase_15 (by omega) ?_ | refine gz_ald2 (pc := 15) dX4_isBase_15 (by omega) ?_ | refine gz_ald4 (pc := 15) dX4_isBase_15 (by omega) ?_ | refine gz_ald17 (pc := 15) dX4_isBase_15 (by first | exact gz_B1 | (omega)) (by omega) ?_
    refine gz_getI (pc := 16) 4 dX4_isBase_16 fl_X4_155 rfl rfl rfl rfl (by first | exact gz_B1 | (omega)) ?_
    refine gz_iload_n (pc := 19) dX4_isBase_19 rfl ?_
    refine gz_icmp_ne (pc := 20) (tgt := 25) dX4_isBase_20 (by decide) (by omega) (by omega) (fun h20 => ?_) (fun h20 => ?_)
    · refine gz_iinc (pc := 25) dX4_isBase_25 rfl rfl rfl rfl ?_
      refine gz_goto (pc := 28) (tgt := 2) dX4_isBase_28 (by decide) ?_
      refine ih (i + 1) (by omega) (by omega) (by omega) (fun j a1 a2 => ?_)
      by_cases z : j = i
      · rw [z]; exact h20
      · exact hj j a1 (by omega)
    · refine gz_iconst (pc := 23) dX4_isBase_23 ?_
      refine gz_zret (pc := 24) dX4_isBase_24 rfl (by first | exact Or.inl rfl | exact Or.inr rfl | omega) ?_
      exact ⟨rfl, Or.inl ⟨rfl, i, by omega, h20⟩⟩
set_option maxHeartbeats 4000000 in
set_option maxRecDepth 100000 in
theorem ct_X4_isBase (l : Launch) (D : va_G) (α : gz_P → Nat) (cA : Nat → ClassId) {I : gz_M} (hT : gz_T I) {m : Int} (hm : (-2147483648 ≤ m ∧ m ≤ 2147483647)) : gz_V l D α cA RX4 cX4_isBase (some .boolean) 3 0 (gz_Qi fun x I' => I = I' ∧ (x = 1 ∧ (∃ j, (0 ≤ j ∧ j < I (0, 0, 0) 7) ∧ I (16, I (4, 0, 0) (j), 0) 4 = m) ∨ x = 0 ∧ ¬ (∃ j, (0 ≤ j ∧ j < I (0, 0, 0) 7) ∧ I (16, I (4, 0, 0) (j), 0) 4 = m))) I [some (.ref (α (0, 0, 0))), some (gz_i (m)), none] [] 0 := by
  refine gz_iconst (pc := 0) dX4_isBase_0 ?_
  refine gz_istore_n (pc := 1) dX4_isBase_1 rfl rfl rfl ?_
  exact lp_X4_isBase l D α cA hT hm 0 (by have := gz_th hT 0 0; omega) (by omega) (fun j a1 a2 => by omega)
set_option maxHeartbeats 4000000 in
set_option maxRecDepth 100000 in
theorem ct_X4_shelfOf (l : Launch) (D : va_G) (α : gz_P → Nat) (cA : Nat → ClassId) {I : gz_M} (hT : gz_T I) {t : Int} (ht : (-2147483648 ≤ t ∧ t ≤ 2147483647)) : gz_V l D α cA RX4 cX4_shelfOf (some (.object "GrownSnapshots$Shelf")) 2 1 (gz_Qr fun v I' => I = I' ∧ (v = .null ∧ ¬ (t = -1 ∨ 0 ≤ t ∧ t < I (0, 0, 0) 6) ∨ ∃ a, v = .ref (α (10, a, 0)) ∧ (t = -1 ∧ a = 4 ∨ (0 ≤ t ∧ t < I (0, 0, 0) 6) ∧ a = t))) I [some (.ref (α (0, 0, 0))), some (gz_i (t))] [] 0 := by
  refine gz_iload_n (pc := 0) dX4_shelfOf_0 rfl ?_
  refine gz_iconst (pc := 1) dX4_shelfOf_1 ?_
  refine gz_icmp_ne (pc := 2) (tgt := 13) dX4_shelfOf_2 (by decide) (by omega) (by omega) (fun h2 => ?_) (fun h2 => ?_)
  · first | refine gz_aload_n (pc := 13) dX4_shelfOf_13 rfl ?_ | refine gz_aload_nN (pc := 13) dX4_shelfOf_13 rfl ?_
    refine gz_iload_n (pc := 14) dX4_shelfOf_14 rfl ?_
    refine gz_cV1i (pc := 15) dX4_shelfOf_15 wm_X4_55 my_X4_isTask rfl rfl rfl (by first | exact gz_B1 | (omega)) (ct_X4_isTask l D α cA ht (gz_tk hT 0 0)) (fun x15 I15 h15 => ?_)
    obtain ⟨rfl, hx15⟩ := h15
    have e1 := gz_tk hT 0 0
    refine gz_if_eq (pc := 18) (tgt := 30) dX4_shelfOf_18 (by decide) (by omega) (fun h18 => ?_) (fun h18 => ?_)
    · refine gz_null (pc := 30) dX4_shelfOf_30 ?_
      first | refine gz_aret (pc := 31) dX4_shelfOf_31 rfl ?_ | refine gz_aretN (pc := 31) dX4_shelfOf_31 rfl ?_
      first | exact ⟨rfl, Or.inl ⟨rfl, by omega⟩⟩ | exact ⟨rfl, Or.inr ⟨t, rfl, Or.inr ⟨by omega, rfl⟩⟩⟩
    · first | refine gz_aload_n (pc := 21) dX4_shelfOf_21 rfl ?_ | refine gz_aload_nN (pc := 21) dX4_shelfOf_21 rfl ?_
      refine gz_getr (pc := 22) dX4_shelfOf_22 fl_X4_17 rfl rfl rfl (by first | exact gz_B1 | (omega)) ?_
      refine gz_iload_n (pc := 25) dX4_shelfOf_25 rfl ?_
      first | refine gz_ald1 (pc := 26) dX4_shelfOf_26 (by omega) ?_ | refine gz_ald2 (pc := 26) dX4_shelfOf_26 (by omega) ?_ | refine gz_ald4 (pc := 26) dX4_shelfOf_26 (by omega) ?_ | refine gz_ald17 (pc := 26) dX4_shelfOf_26 (by first | exact gz_B1 | (omega)) (by omega) ?_
      refine gz_goto (pc := 27) (tgt := 31) dX4_shelfOf_27 (by decide) ?_
      first | refine gz_aret (pc := 31) dX4_shelfOf_31 rfl ?_ | refine gz_aretN (pc := 31) dX4_shelfOf_31 rfl ?_
      first | exact ⟨rfl, Or.inl ⟨rfl, by omega⟩⟩ | exact ⟨rfl, Or.inr ⟨t, rfl, Or.inr ⟨by omega, rfl⟩⟩⟩
  · first | refine gz_aload_n (pc := 5) dX4_shelfOf_5 rfl ?_ | refine gz_aload_nN (pc := 5) dX4_shelfOf_5 rfl ?_
    refine gz_getr (pc := 6) dX4_shelfOf_6 fl_X4_24 rfl rfl rfl (by first | exact gz_B1 | (omega)) ?_
    refine gz_getr (pc := 9) dX4_shelfOf_9 fl_X4_187 rfl rfl rfl (by first | exact gz_B1 | (omega)) ?_
    first | refine gz_aret (pc := 12) dX4_shelfOf_12 rfl ?_ | refine gz_aretN (pc := 12) dX4_shelfOf_12 rfl ?_
    exact ⟨rfl, Or.inr ⟨4, rfl, Or.inl ⟨h2, rfl⟩⟩⟩
set_option maxHeartbeats 4000000 in
set_option maxRecDepth 100000 in
theorem lp_X4_copyCount (l : Launch) (D : va_G) (α : gz_P → Nat) (cA : Nat → ClassId) {I : gz_M} (hT : gz_T I) {p : Int} (hp : 0 ≤ p ∧ p < 120) : ∀ t, t ≤ I (0, 0, 0) 6 → ∀ n : Int, 0 ≤ t → n = gz_sm (fun t => I (11, t, 0) p) t.toNat → gz_V l D α cA RX4 cX4_copyCount (some .int) 4 0 (gz_Qi fun x I' => I = I' ∧ x = gz_sm (fun t => I (11, t, 0) p) (I (0, 0, 0) 6).toNat) I [some (.ref (α (0, 0, 0))), some (gz_i (p)), some (gz_i (n)), some (gz_i (t))] [] 4 := by
  refine gz_upto _ ?_
  intro t ht ih n h0 hn
  have e1 := gz_tk hT 0 0
  have e2 := gz_sm_in (f := (fun t => I (11, t, 0) p)) (lo := 0) (hi := 1) (fun i => gz_t11 hT i 0 p) t.toNat
  have e3 := gz_t11 hT t 0 p
  refine gz_iload_n (pc := 4) dX4_copyCount_4 rfl ?_
  first | refine gz_aload_n (pc := 5) dX4_copyCount_5 rfl ?_ | refine gz_aload_nN (pc := 5) dX4_copyCount_5 rfl ?_
  refine gz_getI (pc := 6) 6 dX4_copyCount_6 fl_X4_42 rfl rfl rfl rfl (by first | exact gz_B1 | (omega)) ?_
  refine gz_icmp_ge (pc := 9) (tgt := 35) dX4_copyCount_9 (by decide) (by omega) (by omega) (fun h9 => ?_) (fun h9 => ?_)
  · refine gz_iload_n (pc := 35) dX4_copyCount_35 rfl ?_
    refine gz_iret (pc := 36) dX4_copyCount_36 rfl ?_
    exact ⟨rfl, by rw [hn, show t = I (0, 0, 0) 6 by omega]⟩
  · first | refine gz_aload_n (pc := 12) dX4_copyCount_12 rfl ?_ | refine gz_aload_nN (pc := 12) dX4_copyCount_12 rfl ?_
    refine gz_getr (pc := 13) dX4_copyCount_13 fl_X4_17 rfl rfl rfl (by first | exact gz_B1 | (omega)) ?_
    refine gz_iload_n (pc := 16) dX4_copyCount_16 rfl ?_
    first | refine gz_ald1 (pc := 17) dX4_copyCount_17 (by omega) ?_ | refine gz_ald2 (pc := 17) dX4_copyCount_17 (by omega) ?_ | refine gz_ald4 (pc := 17) dX4_copyCount_17 (by omega) ?_ | refine gz_ald17 (pc := 17) dX4_copyCount_17 (by first | exact gz_B1 | (omega)) (by omega) ?_
    refine gz_getr (pc := 18) dX4_copyCount_18 fl_X4_207 rfl rfl rfl (by first | exact gz_B1 | (omega)) ?_
    refine gz_iload_n (pc := 21) dX4_copyCount_21 rfl ?_
    refine gz_zald (pc := 22) dX4_copyCount_22 rfl rfl (by first | exact gz_B1 | (omega)) (by omega) ?_
    refine gz_if_eq (pc := 23) (tgt := 29) dX4_copyCount_23 (by decide) (by omega) (fun h23 => ?_) (fun h23 => ?_)
    · refine gz_iinc (pc := 29) dX4_copyCount_29 rfl rfl rfl rfl ?_
      refine gz_goto (pc := 32) (tgt := 4) dX4_copyCount_32 (by decide) ?_
      refine ih (t + 1) (by omega) (by omega) _ (by omega) ?_
      rw [show (t + 1).toNat = t.toNat + 1 by omega, gz_sm_s, ← hn, Int.toNat_of_nonneg h0]
      omega
    · refine gz_iinc (pc := 26) dX4_copyCount_26 rfl rfl rfl rfl ?_
      refine gz_iinc (pc := 29) dX4_copyCount_29 rfl rfl rfl rfl ?_
      refine gz_goto (pc := 32) (tgt := 4) dX4_copyCount_32 (by decide) ?_
      refine ih (t + 1) (by omega) (by omega) _ (by omega) ?_
      rw [show (t + 1).toNat = t.toNat + 1 by omega, gz_sm_s, ← hn, Int.toNat_of_nonneg h0]
      omega
set_option maxHeartbeats 4000000 in
set_option maxRecDepth 100000 in
theorem ct_X4_copyCount (l : Launch) (D : va_G) (α : gz_P → Nat) (cA : Nat → ClassId) {I : gz_M} (hT : gz_T I) {p : Int} (hp : 0 ≤ p ∧ p < 120) : gz_V l D α cA RX4 cX4_copyCount (some .int) 4 0 (gz_Qi fun x I' => I = I' ∧ x = gz_sm (fun t => I (11, t, 0) p) (I (0, 0, 0) 6).toNat) I [some (.ref (α (0, 0, 0))), some (gz_i (p)), none, none] [] 0 := by
  refine gz_iconst (pc := 0) dX4_copyCount_0 ?_
  refine gz_istore_n (pc := 1) dX4_copyCount_1 rfl rfl rfl ?_
  refine gz_iconst (pc := 2) dX4_copyCount_2 ?_
  refine gz_istore_n (pc := 3) dX4_copyCount_3 rfl rfl rfl ?_
  exact lp_X4_copyCount l D α cA hT hp 0 (by have := gz_tk hT 0 0; omega) 0 (by omega) rfl
set_option maxHeartbeats 4000000 in
set_option maxRecDepth 100000 in
theorem lp_X4_allCopies (l : Launch) (D : va_G) (α : gz_P → Nat) (cA : Nat → ClassId) {I : gz_M} (hT : gz_T I) : ∀ p, p ≤ 120 → ∀ n : Int, 0 ≤ p → n = gz_sm (fun p => gz_sm (fun t => I (11, t, 0) p) (I (0, 0, 0) 6).toNat) p.toNat → gz_V l D α cA RX4 cX4_allCopies (some .int) 3 1 (gz_Qi fun x I' => I = I' ∧ x = gz_sm (fun p => gz_sm (fun t => I (11, t, 0) p) (I (0, 0, 0) 6).toNat) 120) I [some (.ref (α (0, 0, 0))), some (gz_i (n)), some (gz_i (p))] [] 4 := by
  refine gz_upto _ ?_
  intro p hp ih n h0 hn
  have e2 := gz_sm_in (f := (fun p => gz_sm (fun t => I (11, t, 0) p) (I (0, 0, 0) 6).toNat)) (lo := 0) (hi := 4) (fun p => by have a1 := gz_sm_in (f := fun t => I (11, t, 0) p) (lo := 0) (hi := 1) (fun i => gz_t11 hT i 0 p) (I (0, 0, 0) 6).toNat; have a2 := gz_tk hT 0 0; show 0 ≤ gz_sm _ _ ∧ gz_sm _ _ ≤ 4; omega) p.toNat
  refine gz_iload_n (pc := 4) dX4_allCopies_4 rfl ?_
  refine gz_bipush (pc := 5) dX4_allCopies_5 rfl ?_
  refine gz_icmp_ge (pc := 7) (tgt := 24) dX4_allCopies_7 (by decide) (by omega) (by omega) (fun h7 => ?_) (fun h7 => ?_)
  · refine gz_iload_n (pc := 24) dX4_allCopies_24 rfl ?_
    refine gz_iret (pc := 25) dX4_allCopies_25 rfl ?_
    exact ⟨rfl, by rw [hn, show p = 120 by omega]; rfl⟩
  · refine gz_iload_n (pc := 10) dX4_allCopies_10 rfl ?_
    first | refine gz_aload_n (pc := 11) dX4_allCopies_11 rfl ?_ | refine gz_aload_nN (pc := 11) dX4_allCopies_11 rfl ?_
    refine gz_iload_n (pc := 12) dX4_allCopies_12 rfl ?_
    refine gz_cV1i (pc := 13) dX4_allCopies_13 wm_X4_195 my_X4_copyCount rfl rfl rfl (by first | exact gz_B1 | (omega)) (ct_X4_copyCount l D α cA hT (by omega)) (fun x13 I13 h13 => ?_)
    obtain ⟨rfl, rfl⟩ := h13
    refine gz_iadd (pc := 16) dX4_allCopies_16 ?_
    refine gz_istore_n (pc := 17) dX4_allCopies_17 rfl rfl rfl ?_
    refine gz_iinc (pc := 18) dX4_allCopies_18 rfl rfl rfl rfl ?_
    refine gz_goto (pc := 21) (tgt := 4) dX4_allCopies_21 (by decide) ?_
    refine ih (p + 1) (by omega) (by omega) _ (by omega) ?_
    rw [show (p + 1).toNat = p.toNat + 1 by omega, gz_sm_s, ← hn, Int.toNat_of_nonneg h0]
set_option maxHeartbeats 4000000 in
set_option maxRecDepth 100000 in
theorem ct_X4_allCopies (l : Launch) (D : va_G) (α : gz_P → Nat) (cA : Nat → ClassId) {I : gz_M} (hT : gz_T I) : gz_V l D α cA RX4 cX4_allCopies (some .int) 3 1 (gz_Qi fun x I' => I = I' ∧ x = gz_sm (fun p => gz_sm (fun t => I (11, t, 0) p) (I (0, 0, 0) 6).toNat) 120) I [some (.ref (α (0, 0, 0))), none, none] [] 0 := by
  refine gz_iconst (pc := 0) dX4_allCopies_0 ?_
  refine gz_istore_n (pc := 1) dX4_allCopies_1 rfl rfl rfl ?_
  refine gz_iconst (pc := 2) dX4_allCopies_2 ?_
  refine gz_istore_n (pc := 3) dX4_allCopies_3 rfl rfl rfl ?_
  exact lp_X4_allCopies l D α cA hT 0 (by omega) 0 (by omega) rfl
set_option maxHeartbeats 4000000 in
set_option maxRecDepth 100000 in
theorem ct_X4_isReadable (l : Launch) (D : va_G) (α : gz_P → Nat) (cA : Nat → ClassId) {I : gz_M} (hT : gz_T I) {p t : Int} (hp : 0 ≤ p ∧ p < 120) (ht : 0 ≤ t ∧ t < 4) : gz_V l D α cA RX4 cX4_isReadable (some .boolean) 3 2 (gz_Qi fun x I' => I = I' ∧ (x = 1 ∧ gz_rdb I t p ∨ x = 0 ∧ ¬ gz_rdb I t p)) I [some (.ref (α (0, 0, 0))), some (gz_i (p)), some (gz_i (t))] [] 0 := by
  first | refine gz_aload_n (pc := 0) dX4_isReadable_0 rfl ?_ | refine gz_aload_nN (pc := 0) dX4_isReadable_0 rfl ?_
  refine gz_getr (pc := 1) dX4_isReadable_1 fl_X4_24 rfl rfl rfl (by first | exact gz_B1 | (omega)) ?_
  refine gz_iload_n (pc := 4) dX4_isReadable_4 rfl ?_
  first | refine gz_aload_n (pc := 5) dX4_isReadable_5 rfl ?_ | refine gz_aload_nN (pc := 5) dX4_isReadable_5 rfl ?_
  refine gz_getr (pc := 6) dX4_isReadable_6 fl_X4_17 rfl rfl rfl (by first | exact gz_B1 | (omega)) ?_
  refine gz_iload_n (pc := 9) dX4_isReadable_9 rfl ?_
  first | refine gz_ald1 (pc := 10) dX4_isReadable_10 (by omega) ?_ | refine gz_ald2 (pc := 10) dX4_isReadable_10 (by omega) ?_ | refine gz_ald4 (pc := 10) dX4_isReadable_10 (by omega) ?_ | refine gz_ald17 (pc := 10) dX4_isReadable_10 (by first | exact gz_B1 | (omega)) (by omega) ?_
  refine gz_cV2i (pc := 11) dX4_isReadable_11 wm_X4_191 my_X3_isSound rfl rfl rfl (by first | exact gz_B1 | (omega)) (ct_X3_isSound l D α cA hT hp (by omega)) (fun x11 I11 h11 => ?_)
  obtain ⟨rfl, hx11⟩ := h11
  have hxr : 0 ≤ x11 ∧ x11 ≤ 1 := by rcases hx11 with h | h <;> omega
  refine gz_if_ne (pc := 14) (tgt := 35) dX4_isReadable_14 (by decide) (by omega) (fun h14 => ?_) (fun h14 => ?_)
  · refine gz_iconst (pc := 35) dX4_isReadable_35 ?_
    refine gz_goto (pc := 36) (tgt := 40) dX4_isReadable_36 (by decide) ?_
    refine gz_zret (pc := 40) dX4_isReadable_40 rfl (by first | exact Or.inl rfl | exact Or.inr rfl | omega) ?_
    first
      | exact ⟨rfl, Or.inl ⟨rfl, Or.inr (by rcases hx29 with h | h; exact h.2; omega)⟩⟩
      | exact ⟨rfl, Or.inl ⟨rfl, Or.inl (by rcases hx11 with h | h; exact h.2; omega)⟩⟩
      | exact ⟨rfl, Or.inr ⟨rfl, fun z => z.elim (fun z => by rcases hx11 with h | h; omega; exact h.2 z) (fun z => by rcases hx29 with h | h; omega; exact h.2 z)⟩⟩
  · first | refine gz_aload_n (pc := 17) dX4_isReadable_17 rfl ?_ | refine gz_aload_nN (pc := 17) dX4_isReadable_17 rfl ?_
    refine gz_getr (pc := 18) dX4_isReadable_18 fl_X4_24 rfl rfl rfl (by first | exact gz_B1 | (omega)) ?_
    refine gz_iload_n (pc := 21) dX4_isReadable_21 rfl ?_
    first | refine gz_aload_n (pc := 22) dX4_isReadable_22 rfl ?_ | refine gz_aload_nN (pc := 22) dX4_isReadable_22 rfl ?_
    refine gz_getr (pc := 23) dX4_isReadable_23 fl_X4_24 rfl rfl rfl (by first | exact gz_B1 | (omega)) ?_
    refine gz_getr (pc := 26) dX4_isReadable_26 fl_X4_187 rfl rfl rfl (by first | exact gz_B1 | (omega)) ?_
    refine gz_cV2i (pc := 29) dX4_isReadable_29 wm_X4_191 my_X3_isSound rfl rfl rfl (by first | exact gz_B1 | (omega)) (ct_X3_isSound l D α cA hT hp (by omega)) (fun x29 I29 h29 => ?_)
    obtain ⟨rfl, hx29⟩ := h29
    have hxs : 0 ≤ x29 ∧ x29 ≤ 1 := by rcases hx29 with h | h <;> omega
    refine gz_if_eq (pc := 32) (tgt := 39) dX4_isReadable_32 (by decide) (by omega) (fun h32 => ?_) (fun h32 => ?_)
    · refine gz_iconst (pc := 39) dX4_isReadable_39 ?_
      refine gz_zret (pc := 40) dX4_isReadable_40 rfl (by first | exact Or.inl rfl | exact Or.inr rfl | omega) ?_
      first
        | exact ⟨rfl, Or.inl ⟨rfl, Or.inr (by rcases hx29 with h | h; exact h.2; omega)⟩⟩
        | exact ⟨rfl, Or.inl ⟨rfl, Or.inl (by rcases hx11 with h | h; exact h.2; omega)⟩⟩
        | exact ⟨rfl, Or.inr ⟨rfl, fun z => z.elim (fun z => by rcases hx11 with h | h; omega; exact h.2 z) (fun z => by rcases hx29 with h | h; omega; exact h.2 z)⟩⟩
    · refine gz_iconst (pc := 35) dX4_isReadable_35 ?_
      refine gz_goto (pc := 36) (tgt := 40) dX4_isReadable_36 (by decide) ?_
      refine gz_zret (pc := 40) dX4_isReadable_40 rfl (by first | exact Or.inl rfl | exact Or.inr rfl | omega) ?_
      first
        | exact ⟨rfl, Or.inl ⟨rfl, Or.inr (by rcases hx29 with h | h; exact h.2; omega)⟩⟩
        | exact ⟨rfl, Or.inl ⟨rfl, Or.inl (by rcases hx11 with h | h; exact h.2; omega)⟩⟩
        | exact ⟨rfl, Or.inr ⟨rfl, fun z => z.elim (fun z => by rcases hx11 with h | h; omega; exact h.2 z) (fun z => by rcases hx29 with h | h; omega; exact h.2 z)⟩⟩
set_option maxHeartbeats 4000000 in
set_option maxRecDepth 100000 in
theorem lp_X4_isUsable2 (l : Launch) (D : va_G) (α : gz_P → Nat) (cA : Nat → ClassId) {I : gz_M} (hT : gz_T I) {k : Int} (hk : 0 ≤ k ∧ k < 12) : ∀ t, (0 ≤ t ∧ t < I (16, k, 0) 5) → ((∀ j, 0 ≤ j → j < I (19, k, 0) t → gz_rdb I t (I (18, k, t) j)) → gz_V l D α cA RX4 cX4_isUsable (some .boolean) 4 3 (gz_Qi fun x I' => I = I' ∧ (x = 1 ∧ gz_usb I k ∨ x = 0 ∧ ¬ gz_usb I k)) I [some (.ref (α (0, 0, 0))), some (.ref (α (16, k, 0))), some (gz_i (t + 1)), some (gz_i (I (19, k, 0) t))] [] 11) → ∀ i, i ≤ I (19, k, 0) t → 0 ≤ i → (∀ j, 0 ≤ j → j < i → gz_rdb I t (I (18, k, t) j)) → gz_V l D α cA RX4 cX4_isUsable (some .boolean) 4 3 (gz_Qi fun x I' => I = I' ∧ (x = 1 ∧ gz_usb I k ∨ x = 0 ∧ ¬ gz_usb I k)) I [some (.ref (α (0, 0, 0))), some (.ref (α (16, k, 0))), some (gz_i (t)), some (gz_i (i))] [] 21 := by
  intro t ht kk
  have e0 := gz_tm5 hT k 0
  have e1 := gz_t19 hT k 0 t
  refine gz_upto _ ?_
  intro i hi ih h0 hj
  have e5 := gz_t18 hT k t i
  refine gz_iload_n (pc := 21) dX4_isUsable_21 rfl ?_
  first | refine gz_aload_n (pc := 22) dX4_isUsable_22 rfl ?_ | refine gz_aload_nN (pc := 22) dX4_isUsable_22 rfl ?_
  refine gz_getr (pc := 23) dX4_isUsable_23 fl_X4_167 rfl rfl rfl (by first | exact gz_B1 | (omega)) ?_
  refine gz_iload_n (pc := 26) dX4_isUsable_26 rfl ?_
  refine gz_iald (pc := 27) dX4_isUsable_27 rfl rfl (by first | exact gz_B1 | (omega)) (by omega) ?_
  refine gz_icmp_ge (pc := 28) (tgt := 55) dX4_isUsable_28 (by decide) (by omega) (by omega) (fun h28 => ?_) (fun h28 => ?_)
  · refine gz_iinc (pc := 55) dX4_isUsable_55 rfl rfl rfl rfl ?_
    refine gz_goto (pc := 58) (tgt := 11) dX4_isUsable_58 (by decide) ?_
    rw [show i = I (19, k, 0) t by omega] at hj ⊢
    exact kk hj
  · first | refine gz_aload_n (pc := 31) dX4_isUsable_31 rfl ?_ | refine gz_aload_nN (pc := 31) dX4_isUsable_31 rfl ?_
    first | refine gz_aload_n (pc := 32) dX4_isUsable_32 rfl ?_ | refine gz_aload_nN (pc := 32) dX4_isUsable_32 rfl ?_
    refine gz_getr (pc := 33) dX4_isUsable_33 fl_X4_170 rfl rfl rfl (by first | exact gz_B1 | (omega)) ?_
    refine gz_iload_n (pc := 36) dX4_isUsable_36 rfl ?_
    first | refine gz_ald1 (pc := 37) dX4_isUsable_37 (by omega) ?_ | refine gz_ald2 (pc := 37) dX4_isUsable_37 (by omega) ?_ | refine gz_ald4 (pc := 37) dX4_isUsable_37 (by omega) ?_ | refine gz_ald17 (pc := 37) dX4_isUsable_37 (by first | exact gz_B1 | (omega)) (by omega) ?_
    refine gz_iload_n (pc := 38) dX4_isUsable_38 rfl ?_
    refine gz_iald (pc := 39) dX4_isUsable_39 rfl rfl (by first | exact gz_B1 | (omega)) (by omega) ?_
    refine gz_iload_n (pc := 40) dX4_isUsable_40 rfl ?_
    refine gz_cV2i (pc := 41) dX4_isUsable_41 wm_X4_277 my_X4_isReadable rfl rfl rfl (by first | exact gz_B1 | (omega)) (ct_X4_isReadable l D α cA hT (by omega) (by omega)) (fun x41 I41 h41 => ?_)
    obtain ⟨rfl, hx41⟩ := h41
    have hxr : 0 ≤ x41 ∧ x41 ≤ 1 := by rcases hx41 with h | h <;> omega
    refine gz_if_ne (pc := 44) (tgt := 49) dX4_isUsable_44 (by decide) (by omega) (fun h44 => ?_) (fun h44 => ?_)
    · refine gz_iinc (pc := 49) dX4_isUsable_49 rfl rfl rfl rfl ?_
      refine gz_goto (pc := 52) (tgt := 21) dX4_isUsable_52 (by decide) ?_
      refine ih (i + 1) (by omega) (by omega) (by omega) (fun j a1 a2 => ?_)
      by_cases q : j = i
      · rw [q]
        rcases hx41 with h | h
        · exact h.2
        · omega
      · exact hj j a1 (by omega)
    · refine gz_iconst (pc := 47) dX4_isUsable_47 ?_
      refine gz_zret (pc := 48) dX4_isUsable_48 rfl (by first | exact Or.inl rfl | exact Or.inr rfl | omega) ?_
      refine ⟨rfl, Or.inr ⟨rfl, fun z => ?_⟩⟩
      rcases hx41 with h | h
      · omega
      · exact h.2 (z.2 t ht.1 ht.2 i h0 (by omega))
set_option maxHeartbeats 4000000 in
set_option maxRecDepth 100000 in
theorem lp_X4_isUsable (l : Launch) (D : va_G) (α : gz_P → Nat) (cA : Nat → ClassId) {I : gz_M} (hT : gz_T I) {k : Int} (hk : 0 ≤ k ∧ k < 12) : I (16, k, 0) 3 = 1 → ∀ t, t ≤ I (16, k, 0) 5 → 0 ≤ t → (∀ u, 0 ≤ u → u < t → ∀ j, 0 ≤ j → j < I (19, k, 0) u → gz_rdb I u (I (18, k, u) j)) → ∀ o : Option Value, gz_V l D α cA RX4 cX4_isUsable (some .boolean) 4 3 (gz_Qi fun x I' => I = I' ∧ (x = 1 ∧ gz_usb I k ∨ x = 0 ∧ ¬ gz_usb I k)) I [some (.ref (α (0, 0, 0))), some (.ref (α (16, k, 0))), some (gz_i (t)), o] [] 11 := by
  intro hkp
  have e0 := gz_tm5 hT k 0
  refine gz_upto _ ?_
  intro t ht ih h0 hj o
  refine gz_iload_n (pc := 11) dX4_isUsable_11 rfl ?_
  first | refine gz_aload_n (pc := 12) dX4_isUsable_12 rfl ?_ | refine gz_aload_nN (pc := 12) dX4_isUsable_12 rfl ?_
  refine gz_getI (pc := 13) 5 dX4_isUsable_13 fl_X4_142 rfl rfl rfl rfl (by first | exact gz_B1 | (omega)) ?_
  refine gz_icmp_ge (pc := 16) (tgt := 61) dX4_isUsable_16 (by decide) (by omega) (by omega) (fun h16 => ?_) (fun h16 => ?_)
  · refine gz_iconst (pc := 61) dX4_isUsable_61 ?_
    refine gz_zret (pc := 62) dX4_isUsable_62 rfl (by first | exact Or.inl rfl | exact Or.inr rfl | omega) ?_
    exact ⟨rfl, Or.inl ⟨rfl, hkp, fun u a1 a2 => hj u a1 (by omega)⟩⟩
  · refine gz_iconst (pc := 19) dX4_isUsable_19 ?_
    refine gz_istore_n (pc := 20) dX4_isUsable_20 rfl rfl rfl ?_
    refine lp_X4_isUsable2 l D α cA hT hk t (by omega) (fun hz => ?_) 0 (by have := gz_t19 hT k 0 t; omega) (by omega) (fun j a1 a2 => by omega)
    exact ih (t + 1) (by omega) (by omega) (by omega) (fun u a1 a2 => by
      by_cases q : u = t
      · rw [q]; exact hz
      · exact hj u a1 (by omega)) _
set_option maxHeartbeats 4000000 in
set_option maxRecDepth 100000 in
theorem ct_X4_isUsable (l : Launch) (D : va_G) (α : gz_P → Nat) (cA : Nat → ClassId) {I : gz_M} (hT : gz_T I) {k : Int} (hk : 0 ≤ k ∧ k < 12) : gz_V l D α cA RX4 cX4_isUsable (some .boolean) 4 3 (gz_Qi fun x I' => I = I' ∧ (x = 1 ∧ gz_usb I k ∨ x = 0 ∧ ¬ gz_usb I k)) I [some (.ref (α (0, 0, 0))), some (.ref (α (16, k, 0))), none, none] [] 0 := by
  have e0 := gz_tm3 hT k 0
  first | refine gz_aload_n (pc := 0) dX4_isUsable_0 rfl ?_ | refine gz_aload_nN (pc := 0) dX4_isUsable_0 rfl ?_
  refine gz_getI (pc := 1) 3 dX4_isUsable_1 fl_X4_129 rfl rfl rfl rfl (by first | exact gz_B1 | (omega)) ?_
  refine gz_if_ne (pc := 4) (tgt := 9) dX4_isUsable_4 (by decide) (by omega) (fun h4 => ?_) (fun h4 => ?_)
  · refine gz_iconst (pc := 9) dX4_isUsable_9 ?_
    refine gz_istore_n (pc := 10) dX4_isUsable_10 rfl rfl rfl ?_
    exact lp_X4_isUsable l D α cA hT hk (by omega) 0 (by have := gz_tm5 hT k 0; omega) (by omega) (fun u a1 a2 => by omega) _
  · refine gz_iconst (pc := 7) dX4_isUsable_7 ?_
    refine gz_zret (pc := 8) dX4_isUsable_8 rfl (by first | exact Or.inl rfl | exact Or.inr rfl | omega) ?_
    exact ⟨rfl, Or.inr ⟨rfl, fun z => by have := z.1; omega⟩⟩
set_option maxHeartbeats 4000000 in
set_option maxRecDepth 100000 in
theorem lp_X4_latestUsable (l : Launch) (D : va_G) (α : gz_P → Nat) (cA : Nat → ClassId) {I : gz_M} (hT : gz_T I) {m : Int} (hm : (-2147483648 ≤ m ∧ m ≤ 2147483647)) : ∀ i, -1 ≤ i → i < I (0, 0, 0) 7 → (∀ j, i < j → j < I (0, 0, 0) 7 → ¬ (I (16, I (4, 0, 0) (j), 0) 2 ≤ m ∧ gz_usb I (I (4, 0, 0) (j)))) → gz_V l D α cA RX4 cX4_latestUsable (some (.object "GrownSnapshots$Mark")) 3 4 (gz_Qr fun v I' => I = I' ∧ (v = .null ∧ (∀ j, 0 ≤ j → j < I (0, 0, 0) 7 → ¬ (I (16, I (4, 0, 0) (j), 0) 2 ≤ m ∧ gz_usb I (I (4, 0, 0) (j)))) ∨ ∃ i, (0 ≤ i ∧ i < I (0, 0, 0) 7) ∧ (I (16, I (4, 0, 0) (i), 0) 2 ≤ m ∧ gz_usb I (I (4, 0, 0) (i))) ∧ (∀ j, i < j → j < I (0, 0, 0) 7 → ¬ (I (16, I (4, 0, 0) (j), 0) 2 ≤ m ∧ gz_usb I (I (4, 0, 0) (j)))) ∧ v = .ref (α (16, I (4, 0, 0) (i), 0)))) I [some (.ref (α (0, 0, 0))), some (gz_i (m)), some (gz_i (i))] [] 7 := by
  refine gz_downto _ ?_
  intro i hi ih hi2 hj
  have e1 := gz_th hT 0 0
  have e2 := gz_t4 hT 0 0 i
  have e3 := gz_tm2 hT (I (4, 0, 0) (i)) 0
  refine gz_iload_n (pc := 7) dX4_latestUsable_7 rfl ?_
  refine gz_if_lt (pc := 8) (tgt := 50) dX4_latestUsable_8 (by decide) (by omega) (fun h8 => ?_) (fun h8 => ?_)
  · refine gz_null (pc := 50) dX4_latestUsable_50 ?_
    first | refine gz_aret (pc := 51) dX4_latestUsable_51 rfl ?_ | refine gz_aretN (pc := 51) dX4_latestUsable_51 rfl ?_
    exact ⟨rfl, Or.inl ⟨rfl, fun j a1 a2 => hj j (by omega) a2⟩⟩
  · first | refine gz_aload_n (pc := 11) dX4_latestUsable_11 rfl ?_ | refine gz_aload_nN (pc := 11) dX4_latestUsable_11 rfl ?_
    refine gz_getr (pc := 12) dX4_latestUsable_12 fl_X4_30 rfl rfl rfl (by first | exact gz_B1 | (omega)) ?_
    refine gz_iload_n (pc := 15) dX4_latestUsable_15 rfl ?_
    first | refine gz_ald1 (pc := 16) dX4_latestUsable_16 (by omega) ?_ | refine gz_ald2 (pc := 16) dX4_latestUsable_16 (by omega) ?_ | refine gz_ald4 (pc := 16) dX4_latestUsable_16 (by omega) ?_ | refine gz_ald17 (pc := 16) dX4_latestUsable_16 (by first | exact gz_B1 | (omega)) (by omega) ?_
    refine gz_getI (pc := 17) 2 dX4_latestUsable_17 fl_X4_122 rfl rfl rfl rfl (by first | exact gz_B1 | (omega)) ?_
    refine gz_iload_n (pc := 20) dX4_latestUsable_20 rfl ?_
    refine gz_icmp_gt (pc := 21) (tgt := 44) dX4_latestUsable_21 (by decide) (by omega) (by omega) (fun h21 => ?_) (fun h21 => ?_)
    · refine gz_iinc (pc := 44) dX4_latestUsable_44 rfl rfl rfl rfl ?_
      refine gz_goto (pc := 47) (tgt := 7) dX4_latestUsable_47 (by decide) ?_
      refine ih (i + -1) (by omega) (by omega) (by omega) (fun j a1 a2 => ?_)
      by_cases z : j = i
      · rw [z]
        intro hz
        first | (have := hz.1; omega) | (rcases hx31 with h | h; omega; exact h.2 hz.2)
      · exact hj j (by omega) a2
    · first | refine gz_aload_n (pc := 24) dX4_latestUsable_24 rfl ?_ | refine gz_aload_nN (pc := 24) dX4_latestUsable_24 rfl ?_
      first | refine gz_aload_n (pc := 25) dX4_latestUsable_25 rfl ?_ | refine gz_aload_nN (pc := 25) dX4_latestUsable_25 rfl ?_
      refine gz_getr (pc := 26) dX4_latestUsable_26 fl_X4_30 rfl rfl rfl (by first | exact gz_B1 | (omega)) ?_
      refine gz_iload_n (pc := 29) dX4_latestUsable_29 rfl ?_
      first | refine gz_ald1 (pc := 30) dX4_latestUsable_30 (by omega) ?_ | refine gz_ald2 (pc := 30) dX4_latestUsable_30 (by omega) ?_ | refine gz_ald4 (pc := 30) dX4_latestUsable_30 (by omega) ?_ | refine gz_ald17 (pc := 30) dX4_latestUsable_30 (by first | exact gz_B1 | (omega)) (by omega) ?_
      refine gz_cV1i (pc := 31) dX4_latestUsable_31 wm_X4_149 my_X4_isUsable rfl rfl rfl (by first | exact gz_B1 | (omega)) (ct_X4_isUsable l D α cA hT (by omega)) (fun x31 I31 h31 => ?_)
      obtain ⟨rfl, hx31⟩ := h31
      have hxr : 0 ≤ x31 ∧ x31 ≤ 1 := by rcases hx31 with h | h <;> omega
      refine gz_if_eq (pc := 34) (tgt := 44) dX4_latestUsable_34 (by decide) (by omega) (fun h34 => ?_) (fun h34 => ?_)
      · refine gz_iinc (pc := 44) dX4_latestUsable_44 rfl rfl rfl rfl ?_
        refine gz_goto (pc := 47) (tgt := 7) dX4_latestUsable_47 (by decide) ?_
        refine ih (i + -1) (by omega) (by omega) (by omega) (fun j a1 a2 => ?_)
        by_cases z : j = i
        · rw [z]
          intro hz
          first | (have := hz.1; omega) | (rcases hx31 with h | h; omega; exact h.2 hz.2)
        · exact hj j (by omega) a2
      · first | refine gz_aload_n (pc := 37) dX4_latestUsable_37 rfl ?_ | refine gz_aload_nN (pc := 37) dX4_latestUsable_37 rfl ?_
        refine gz_getr (pc := 38) dX4_latestUsable_38 fl_X4_30 rfl rfl rfl (by first | exact gz_B1 | (omega)) ?_
        refine gz_iload_n (pc := 41) dX4_latestUsable_41 rfl ?_
        first | refine gz_ald1 (pc := 42) dX4_latestUsable_42 (by omega) ?_ | refine gz_ald2 (pc := 42) dX4_latestUsable_42 (by omega) ?_ | refine gz_ald4 (pc := 42) dX4_latestUsable_42 (by omega) ?_ | refine gz_ald17 (pc := 42) dX4_latestUsable_42 (by first | exact gz_B1 | (omega)) (by omega) ?_
        first | refine gz_aret (pc := 43) dX4_latestUsable_43 rfl ?_ | refine gz_aretN (pc := 43) dX4_latestUsable_43 rfl ?_
        refine ⟨rfl, Or.inr ⟨i, by omega, ⟨by omega, ?_⟩, hj, rfl⟩⟩
        rcases hx31 with h | h
        · exact h.2
        · omega
set_option maxHeartbeats 4000000 in
set_option maxRecDepth 100000 in
theorem ct_X4_latestUsable (l : Launch) (D : va_G) (α : gz_P → Nat) (cA : Nat → ClassId) {I : gz_M} (hT : gz_T I) {m : Int} (hm : (-2147483648 ≤ m ∧ m ≤ 2147483647)) : gz_V l D α cA RX4 cX4_latestUsable (some (.object "GrownSnapshots$Mark")) 3 4 (gz_Qr fun v I' => I = I' ∧ (v = .null ∧ (∀ j, 0 ≤ j → j < I (0, 0, 0) 7 → ¬ (I (16, I (4, 0, 0) (j), 0) 2 ≤ m ∧ gz_usb I (I (4, 0, 0) (j)))) ∨ ∃ i, (0 ≤ i ∧ i < I (0, 0, 0) 7) ∧ (I (16, I (4, 0, 0) (i), 0) 2 ≤ m ∧ gz_usb I (I (4, 0, 0) (i))) ∧ (∀ j, i < j → j < I (0, 0, 0) 7 → ¬ (I (16, I (4, 0, 0) (j), 0) 2 ≤ m ∧ gz_usb I (I (4, 0, 0) (j)))) ∧ v = .ref (α (16, I (4, 0, 0) (i), 0)))) I [some (.ref (α (0, 0, 0))), some (gz_i (m)), none] [] 0 := by
  first | refine gz_aload_n (pc := 0) dX4_latestUsable_0 rfl ?_ | refine gz_aload_nN (pc := 0) dX4_latestUsable_0 rfl ?_
  refine gz_getI (pc := 1) 7 dX4_latestUsable_1 fl_X4_46 rfl rfl rfl rfl (by first | exact gz_B1 | (omega)) ?_
  refine gz_iconst (pc := 4) dX4_latestUsable_4 ?_
  refine gz_isub (pc := 5) dX4_latestUsable_5 ?_
  refine gz_istore_n (pc := 6) dX4_latestUsable_6 rfl rfl rfl ?_
  exact lp_X4_latestUsable l D α cA hT hm (I (0, 0, 0) 7 - 1) (by have := gz_th hT 0 0; omega) (by omega) (fun j a1 a2 => by omega)
