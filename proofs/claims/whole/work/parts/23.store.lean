set_option maxHeartbeats 4000000 in
set_option maxRecDepth 100000 in
theorem ct_X3_isThere (l : Launch) (D : va_G) (α : gz_P → Nat) (cA : Nat → ClassId) {I : gz_M} (hT : gz_T I) {p : Int} (hp : (-2147483648 ≤ p ∧ p ≤ 2147483647)) : gz_V l D α cA RX3 cX3_isThere (some .boolean) 2 0 (gz_Qi fun x I' => I = I' ∧ (x = 1 ∧ (0 ≤ p ∧ p < 120 ∧ 0 < I (13, 0, 0) p) ∨ x = 0 ∧ ¬ (0 ≤ p ∧ p < 120 ∧ 0 < I (13, 0, 0) p))) I [some (.ref (α (3, 0, 0))), some (gz_i (p))] [] 0 := by
  have e1 := gz_t13 hT 0 0 p
  refine gz_iload_n (pc := 0) dX3_isThere_0 rfl ?_
  refine gz_if_lt (pc := 1) (tgt := 23) dX3_isThere_1 (by decide) (by omega) (fun h1 => ?_) (fun h1 => ?_)
  · refine gz_iconst (pc := 23) dX3_isThere_23 ?_
    refine gz_zret (pc := 24) dX3_isThere_24 rfl (by first | exact Or.inl rfl | exact Or.inr rfl | omega) ?_
    exact ⟨rfl, by omega⟩
  · refine gz_iload_n (pc := 4) dX3_isThere_4 rfl ?_
    refine gz_bipush (pc := 5) dX3_isThere_5 rfl ?_
    refine gz_icmp_ge (pc := 7) (tgt := 23) dX3_isThere_7 (by decide) (by omega) (by omega) (fun h7 => ?_) (fun h7 => ?_)
    · refine gz_iconst (pc := 23) dX3_isThere_23 ?_
      refine gz_zret (pc := 24) dX3_isThere_24 rfl (by first | exact Or.inl rfl | exact Or.inr rfl | omega) ?_
      exact ⟨rfl, by omega⟩
    · first | refine gz_aload_n (pc := 10) dX3_isThere_10 rfl ?_ | refine gz_aload_nN (pc := 10) dX3_isThere_10 rfl ?_
      refine gz_getr (pc := 11) dX3_isThere_11 fl_X3_18 rfl rfl rfl (by first | exact gz_B1 | (omega)) ?_
      refine gz_iload_n (pc := 14) dX3_isThere_14 rfl ?_
      refine gz_iald (pc := 15) dX3_isThere_15 rfl rfl (by first | exact gz_B1 | (omega)) (by omega) ?_
      refine gz_if_le (pc := 16) (tgt := 23) dX3_isThere_16 (by decide) (by omega) (fun h16 => ?_) (fun h16 => ?_)
      · refine gz_iconst (pc := 23) dX3_isThere_23 ?_
        refine gz_zret (pc := 24) dX3_isThere_24 rfl (by first | exact Or.inl rfl | exact Or.inr rfl | omega) ?_
        exact ⟨rfl, by omega⟩
      · refine gz_iconst (pc := 19) dX3_isThere_19 ?_
        refine gz_goto (pc := 20) (tgt := 24) dX3_isThere_20 (by decide) ?_
        refine gz_zret (pc := 24) dX3_isThere_24 rfl (by first | exact Or.inl rfl | exact Or.inr rfl | omega) ?_
        exact ⟨rfl, by omega⟩
set_option maxHeartbeats 4000000 in
set_option maxRecDepth 100000 in
theorem ct_X3_isSound (l : Launch) (D : va_G) (α : gz_P → Nat) (cA : Nat → ClassId) {I : gz_M} (hT : gz_T I) {p a : Int} (hp : 0 ≤ p ∧ p < 120) (ha : 0 ≤ a ∧ a < 5) : gz_V l D α cA RX3 cX3_isSound (some .boolean) 3 1 (gz_Qi fun x I' => I = I' ∧ (x = 1 ∧ (I (11, a, 0) p = 1 ∧ gz_dg (fun i => I (12, a, 0) (32 * p + i)) (I (13, 0, 0) p).toNat = I (14, 0, 0) p) ∨ x = 0 ∧ ¬ (I (11, a, 0) p = 1 ∧ gz_dg (fun i => I (12, a, 0) (32 * p + i)) (I (13, 0, 0) p).toNat = I (14, 0, 0) p))) I [some (.ref (α (3, 0, 0))), some (gz_i (p)), some (.ref (α (10, a, 0)))] [] 0 := by
  have e1 := gz_t13 hT 0 0 p
  have e2 := gz_t11 hT a 0 p
  have e3 := gz_t14 hT 0 0 p
  have e4 := gz_dg_in (fun i => I (12, a, 0) (32 * p + i)) (I (13, 0, 0) p).toNat
  first | refine gz_aload_n (pc := 0) dX3_isSound_0 rfl ?_ | refine gz_aload_nN (pc := 0) dX3_isSound_0 rfl ?_
  refine gz_getr (pc := 1) dX3_isSound_1 fl_X3_41 rfl rfl rfl (by first | exact gz_B1 | (omega)) ?_
  refine gz_iload_n (pc := 4) dX3_isSound_4 rfl ?_
  refine gz_zald (pc := 5) dX3_isSound_5 rfl rfl (by first | exact gz_B1 | (omega)) (by omega) ?_
  refine gz_if_eq (pc := 6) (tgt := 39) dX3_isSound_6 (by decide) (by omega) (fun h6 => ?_) (fun h6 => ?_)
  · refine gz_iconst (pc := 39) dX3_isSound_39 ?_
    refine gz_zret (pc := 40) dX3_isSound_40 rfl (by first | exact Or.inl rfl | exact Or.inr rfl | omega) ?_
    exact ⟨rfl, by omega⟩
  · first | refine gz_aload_n (pc := 9) dX3_isSound_9 rfl ?_ | refine gz_aload_nN (pc := 9) dX3_isSound_9 rfl ?_
    refine gz_getr (pc := 10) dX3_isSound_10 fl_X3_45 rfl rfl rfl (by first | exact gz_B1 | (omega)) ?_
    refine gz_iload_n (pc := 13) dX3_isSound_13 rfl ?_
    refine gz_bipush (pc := 14) dX3_isSound_14 rfl ?_
    refine gz_imulc (pc := 16) dX3_isSound_16 ?_
    first | refine gz_aload_n (pc := 17) dX3_isSound_17 rfl ?_ | refine gz_aload_nN (pc := 17) dX3_isSound_17 rfl ?_
    refine gz_getr (pc := 18) dX3_isSound_18 fl_X3_18 rfl rfl rfl (by first | exact gz_B1 | (omega)) ?_
    refine gz_iload_n (pc := 21) dX3_isSound_21 rfl ?_
    refine gz_iald (pc := 22) dX3_isSound_22 rfl rfl (by first | exact gz_B1 | (omega)) (by omega) ?_
    refine gz_cN3i (pc := 23) dX3_isSound_23 rfl my_X4_digestOf rfl rfl (ct_X4_digestOf l D α cA (r := 12) rfl rfl (by omega) (fun i => gz_t12 hT a 0 i) (by omega)) (fun x23 I23 h23 => ?_)
    obtain ⟨rfl, rfl⟩ := h23
    first | refine gz_aload_n (pc := 26) dX3_isSound_26 rfl ?_ | refine gz_aload_nN (pc := 26) dX3_isSound_26 rfl ?_
    refine gz_getr (pc := 27) dX3_isSound_27 fl_X3_22 rfl rfl rfl (by first | exact gz_B1 | (omega)) ?_
    refine gz_iload_n (pc := 30) dX3_isSound_30 rfl ?_
    refine gz_iald (pc := 31) dX3_isSound_31 rfl rfl (by first | exact gz_B1 | (omega)) (by omega) ?_
    refine gz_icmp_ne (pc := 32) (tgt := 39) dX3_isSound_32 (by decide) (by omega) (by omega) (fun h32 => ?_) (fun h32 => ?_)
    · refine gz_iconst (pc := 39) dX3_isSound_39 ?_
      refine gz_zret (pc := 40) dX3_isSound_40 rfl (by first | exact Or.inl rfl | exact Or.inr rfl | omega) ?_
      exact ⟨rfl, by omega⟩
    · refine gz_iconst (pc := 35) dX3_isSound_35 ?_
      refine gz_goto (pc := 36) (tgt := 40) dX3_isSound_36 (by decide) ?_
      refine gz_zret (pc := 40) dX3_isSound_40 rfl (by first | exact Or.inl rfl | exact Or.inr rfl | omega) ?_
      exact ⟨rfl, by omega⟩
set_option maxHeartbeats 4000000 in
set_option maxRecDepth 100000 in
theorem ct_X3_hasByte (l : Launch) (D : va_G) (α : gz_P → Nat) (cA : Nat → ClassId) {I : gz_M} (hT : gz_T I) {p a i : Int} (hp : (-2147483648 ≤ p ∧ p ≤ 2147483647)) (hi : (-2147483648 ≤ i ∧ i ≤ 2147483647)) (ha : 0 ≤ a ∧ a < 5) : gz_V l D α cA RX3 cX3_hasByte (some .boolean) 4 1 (gz_Qi fun x I' => I = I' ∧ (x = 1 ∧ ((0 ≤ p ∧ p < 120 ∧ 0 < I (13, 0, 0) p) ∧ I (11, a, 0) p = 1 ∧ 0 ≤ i ∧ i < I (13, 0, 0) p) ∨ x = 0 ∧ ¬ ((0 ≤ p ∧ p < 120 ∧ 0 < I (13, 0, 0) p) ∧ I (11, a, 0) p = 1 ∧ 0 ≤ i ∧ i < I (13, 0, 0) p))) I [some (.ref (α (3, 0, 0))), some (gz_i (p)), some (.ref (α (10, a, 0))), some (gz_i (i))] [] 0 := by
  have e1 := gz_t13 hT 0 0 p
  have e2 := gz_t11 hT a 0 p
  first | refine gz_aload_n (pc := 0) dX3_hasByte_0 rfl ?_ | refine gz_aload_nN (pc := 0) dX3_hasByte_0 rfl ?_
  refine gz_iload_n (pc := 1) dX3_hasByte_1 rfl ?_
  refine gz_cV1i (pc := 2) dX3_hasByte_2 wm_X3_52 my_X3_isThere rfl rfl rfl (by first | exact gz_B1 | (omega)) (ct_X3_isThere l D α cA hT hp) (fun x2 I2 h2 => ?_)
  obtain ⟨rfl, hx2⟩ := h2
  refine gz_if_eq (pc := 5) (tgt := 35) dX3_hasByte_5 (by decide) (by omega) (fun h5 => ?_) (fun h5 => ?_)
  · refine gz_iconst (pc := 35) dX3_hasByte_35 ?_
    refine gz_zret (pc := 36) dX3_hasByte_36 rfl (by first | exact Or.inl rfl | exact Or.inr rfl | omega) ?_
    exact ⟨rfl, by omega⟩
  · first | refine gz_aload_n (pc := 8) dX3_hasByte_8 rfl ?_ | refine gz_aload_nN (pc := 8) dX3_hasByte_8 rfl ?_
    refine gz_getr (pc := 9) dX3_hasByte_9 fl_X3_41 rfl rfl rfl (by first | exact gz_B1 | (omega)) ?_
    refine gz_iload_n (pc := 12) dX3_hasByte_12 rfl ?_
    refine gz_zald (pc := 13) dX3_hasByte_13 rfl rfl (by first | exact gz_B1 | (omega)) (by omega) ?_
    refine gz_if_eq (pc := 14) (tgt := 35) dX3_hasByte_14 (by decide) (by omega) (fun h14 => ?_) (fun h14 => ?_)
    · refine gz_iconst (pc := 35) dX3_hasByte_35 ?_
      refine gz_zret (pc := 36) dX3_hasByte_36 rfl (by first | exact Or.inl rfl | exact Or.inr rfl | omega) ?_
      exact ⟨rfl, by omega⟩
    · refine gz_iload_n (pc := 17) dX3_hasByte_17 rfl ?_
      refine gz_if_lt (pc := 18) (tgt := 35) dX3_hasByte_18 (by decide) (by omega) (fun h18 => ?_) (fun h18 => ?_)
      · refine gz_iconst (pc := 35) dX3_hasByte_35 ?_
        refine gz_zret (pc := 36) dX3_hasByte_36 rfl (by first | exact Or.inl rfl | exact Or.inr rfl | omega) ?_
        exact ⟨rfl, by omega⟩
      · refine gz_iload_n (pc := 21) dX3_hasByte_21 rfl ?_
        first | refine gz_aload_n (pc := 22) dX3_hasByte_22 rfl ?_ | refine gz_aload_nN (pc := 22) dX3_hasByte_22 rfl ?_
        refine gz_getr (pc := 23) dX3_hasByte_23 fl_X3_18 rfl rfl rfl (by first | exact gz_B1 | (omega)) ?_
        refine gz_iload_n (pc := 26) dX3_hasByte_26 rfl ?_
        refine gz_iald (pc := 27) dX3_hasByte_27 rfl rfl (by first | exact gz_B1 | (omega)) (by omega) ?_
        refine gz_icmp_ge (pc := 28) (tgt := 35) dX3_hasByte_28 (by decide) (by omega) (by omega) (fun h28 => ?_) (fun h28 => ?_)
        · refine gz_iconst (pc := 35) dX3_hasByte_35 ?_
          refine gz_zret (pc := 36) dX3_hasByte_36 rfl (by first | exact Or.inl rfl | exact Or.inr rfl | omega) ?_
          exact ⟨rfl, by omega⟩
        · refine gz_iconst (pc := 31) dX3_hasByte_31 ?_
          refine gz_goto (pc := 32) (tgt := 36) dX3_hasByte_32 (by decide) ?_
          refine gz_zret (pc := 36) dX3_hasByte_36 rfl (by first | exact Or.inl rfl | exact Or.inr rfl | omega) ?_
          exact ⟨rfl, by omega⟩
set_option maxHeartbeats 4000000 in
set_option maxRecDepth 100000 in
theorem lp_X3_brokenCount (l : Launch) (D : va_G) (α : gz_P → Nat) (cA : Nat → ClassId) {I : gz_M} (hT : gz_T I) : ∀ p, p ≤ 120 → ∀ n : Int, 0 ≤ p → n = gz_sm (fun p => if 0 < I (13, 0, 0) p ∧ ¬ (I (11, 4, 0) p = 1 ∧ gz_dg (fun i => I (12, 4, 0) (32 * p + i)) (I (13, 0, 0) p).toNat = I (14, 0, 0) p) then 1 else 0) p.toNat → gz_V l D α cA RX3 cX3_brokenCount (some .int) 3 2 (gz_Qi fun x I' => I = I' ∧ x = gz_sm (fun p => if 0 < I (13, 0, 0) p ∧ ¬ (I (11, 4, 0) p = 1 ∧ gz_dg (fun i => I (12, 4, 0) (32 * p + i)) (I (13, 0, 0) p).toNat = I (14, 0, 0) p) then 1 else 0) 120) I [some (.ref (α (3, 0, 0))), some (gz_i (n)), some (gz_i (p))] [] 4 := by
  refine gz_upto _ ?_
  intro p hp ih n h0 hn
  have e1 := gz_t13 hT 0 0 p
  have hb := gz_sm_in (f := (fun p => if 0 < I (13, 0, 0) p ∧ ¬ (I (11, 4, 0) p = 1 ∧ gz_dg (fun i => I (12, 4, 0) (32 * p + i)) (I (13, 0, 0) p).toNat = I (14, 0, 0) p) then 1 else 0)) (lo := 0) (hi := 1) (fun i => by split <;> omega) p.toNat
  refine gz_iload_n (pc := 4) dX3_brokenCount_4 rfl ?_
  refine gz_bipush (pc := 5) dX3_brokenCount_5 rfl ?_
  refine gz_icmp_ge (pc := 7) (tgt := 39) dX3_brokenCount_7 (by decide) (by omega) (by omega) (fun h7 => ?_) (fun h7 => ?_)
  · refine gz_iload_n (pc := 39) dX3_brokenCount_39 rfl ?_
    refine gz_iret (pc := 40) dX3_brokenCount_40 rfl ?_
    exact ⟨rfl, by rw [hn, show p = 120 by omega]; rfl⟩
  · first | refine gz_aload_n (pc := 10) dX3_brokenCount_10 rfl ?_ | refine gz_aload_nN (pc := 10) dX3_brokenCount_10 rfl ?_
    refine gz_iload_n (pc := 11) dX3_brokenCount_11 rfl ?_
    refine gz_cV1i (pc := 12) dX3_brokenCount_12 wm_X3_52 my_X3_isThere rfl rfl rfl (by first | exact gz_B1 | (omega)) (ct_X3_isThere l D α cA hT (by omega)) (fun x12 I12 h12 => ?_)
    obtain ⟨rfl, hx12⟩ := h12
    refine gz_if_eq (pc := 15) (tgt := 33) dX3_brokenCount_15 (by decide) (by omega) (fun h15 => ?_) (fun h15 => ?_)
    · refine gz_iinc (pc := 33) dX3_brokenCount_33 rfl rfl rfl rfl ?_
      refine gz_goto (pc := 36) (tgt := 4) dX3_brokenCount_36 (by decide) ?_
      refine ih (p + 1) (by omega) (by omega) _ (by omega) ?_
      rw [show (p + 1).toNat = p.toNat + 1 by omega]
      unfold gz_sm
      rw [← hn, Int.toNat_of_nonneg h0]
      first | rw [if_neg (by omega)] | rw [if_pos (by omega)]
      all_goals omega
    · first | refine gz_aload_n (pc := 18) dX3_brokenCount_18 rfl ?_ | refine gz_aload_nN (pc := 18) dX3_brokenCount_18 rfl ?_
      refine gz_iload_n (pc := 19) dX3_brokenCount_19 rfl ?_
      first | refine gz_aload_n (pc := 20) dX3_brokenCount_20 rfl ?_ | refine gz_aload_nN (pc := 20) dX3_brokenCount_20 rfl ?_
      refine gz_getr (pc := 21) dX3_brokenCount_21 fl_X3_12 rfl rfl rfl (by first | exact gz_B1 | (omega)) ?_
      refine gz_cV2i (pc := 24) dX3_brokenCount_24 wm_X3_56 my_X3_isSound rfl rfl rfl (by first | exact gz_B1 | (omega)) (ct_X3_isSound l D α cA hT (by omega) (by omega)) (fun x24 I24 h24 => ?_)
      obtain ⟨rfl, hx24⟩ := h24
      refine gz_if_ne (pc := 27) (tgt := 33) dX3_brokenCount_27 (by decide) (by omega) (fun h27 => ?_) (fun h27 => ?_)
      · refine gz_iinc (pc := 33) dX3_brokenCount_33 rfl rfl rfl rfl ?_
        refine gz_goto (pc := 36) (tgt := 4) dX3_brokenCount_36 (by decide) ?_
        refine ih (p + 1) (by omega) (by omega) _ (by omega) ?_
        rw [show (p + 1).toNat = p.toNat + 1 by omega]
        unfold gz_sm
        rw [← hn, Int.toNat_of_nonneg h0]
        first | rw [if_neg (by omega)] | rw [if_pos (by omega)]
        all_goals omega
      · refine gz_iinc (pc := 30) dX3_brokenCount_30 rfl rfl rfl rfl ?_
        refine gz_iinc (pc := 33) dX3_brokenCount_33 rfl rfl rfl rfl ?_
        refine gz_goto (pc := 36) (tgt := 4) dX3_brokenCount_36 (by decide) ?_
        refine ih (p + 1) (by omega) (by omega) _ (by omega) ?_
        rw [show (p + 1).toNat = p.toNat + 1 by omega]
        unfold gz_sm
        rw [← hn, Int.toNat_of_nonneg h0]
        first | rw [if_neg (by omega)] | rw [if_pos (by omega)]
        all_goals omega
set_option maxHeartbeats 4000000 in
set_option maxRecDepth 100000 in
theorem ct_X3_brokenCount (l : Launch) (D : va_G) (α : gz_P → Nat) (cA : Nat → ClassId) {I : gz_M} (hT : gz_T I) : gz_V l D α cA RX3 cX3_brokenCount (some .int) 3 2 (gz_Qi fun x I' => I = I' ∧ x = gz_sm (fun p => if 0 < I (13, 0, 0) p ∧ ¬ (I (11, 4, 0) p = 1 ∧ gz_dg (fun i => I (12, 4, 0) (32 * p + i)) (I (13, 0, 0) p).toNat = I (14, 0, 0) p) then 1 else 0) 120) I [some (.ref (α (3, 0, 0))), none, none] [] 0 := by
  refine gz_iconst (pc := 0) dX3_brokenCount_0 ?_
  refine gz_istore_n (pc := 1) dX3_brokenCount_1 rfl rfl rfl ?_
  refine gz_iconst (pc := 2) dX3_brokenCount_2 ?_
  refine gz_istore_n (pc := 3) dX3_brokenCount_3 rfl rfl rfl ?_
  exact lp_X3_brokenCount l D α cA hT 0 (by omega) 0 (by omega) rfl
set_option maxHeartbeats 4000000 in
set_option maxRecDepth 100000 in
theorem ct_X3_beginMarking (l : Launch) (D : va_G) (α : gz_P → Nat) (cA : Nat → ClassId) {I : gz_M} : gz_V l D α cA RX3 cX3_beginMarking none 1 0 (gz_Qv fun I' => I' = gz_up (gz_up I (3, 0, 0) 4 0) (3, 0, 0) 5 0) I [some (.ref (α (3, 0, 0)))] [] 0 := by
  first | refine gz_aload_n (pc := 0) dX3_beginMarking_0 rfl ?_ | refine gz_aload_nN (pc := 0) dX3_beginMarking_0 rfl ?_
  refine gz_iconst (pc := 1) dX3_beginMarking_1 ?_
  refine gz_putI (pc := 2) 4 dX3_beginMarking_2 fw_X3_28 rfl rfl rfl rfl (by first | exact gz_B1 | (omega)) (Or.inl rfl) ?_
  first | refine gz_aload_n (pc := 5) dX3_beginMarking_5 rfl ?_ | refine gz_aload_nN (pc := 5) dX3_beginMarking_5 rfl ?_
  refine gz_iconst (pc := 6) dX3_beginMarking_6 ?_
  refine gz_putI (pc := 7) 5 dX3_beginMarking_7 fw_X3_32 rfl rfl rfl rfl (by first | exact gz_B1 | (omega)) (Or.inl rfl) ?_
  refine gz_vret (pc := 10) dX3_beginMarking_10 rfl ?_
  rfl
def gz_tk1 (I : gz_M) (p : Int) : gz_M := gz_up (gz_up (gz_up (gz_up I (3, 0, 0) 6 (I (3, 0, 0) 6 - 1)) (3, 0, 0) 7 (I (3, 0, 0) 7 - I (13, 0, 0) p)) (13, 0, 0) p 0) (11, 4, 0) p 0
set_option maxHeartbeats 4000000 in
set_option maxRecDepth 100000 in
theorem ct_X3_takeAway (l : Launch) (D : va_G) (α : gz_P → Nat) (cA : Nat → ClassId) {I : gz_M} {p : Int} (hp : 0 ≤ p ∧ p < 120) : gz_V l D α cA RX3 cX3_takeAway none 2 0 (gz_Qv fun I' => I' = gz_tk1 I p) I [some (.ref (α (3, 0, 0))), some (gz_i (p))] [] 0 := by
  first | refine gz_aload_n (pc := 0) dX3_takeAway_0 rfl ?_ | refine gz_aload_nN (pc := 0) dX3_takeAway_0 rfl ?_
  refine gz_dup (pc := 1) dX3_takeAway_1 rfl ?_
  refine gz_getI (pc := 2) 6 dX3_takeAway_2 fl_X3_35 rfl rfl rfl rfl (by first | exact gz_B1 | (omega)) ?_
  refine gz_iconst (pc := 5) dX3_takeAway_5 ?_
  refine gz_isub (pc := 6) dX3_takeAway_6 ?_
  refine gz_putI (pc := 7) 6 dX3_takeAway_7 fw_X3_35 rfl rfl rfl rfl (by first | exact gz_B1 | (omega)) (Or.inl rfl) ?_
  first | refine gz_aload_n (pc := 10) dX3_takeAway_10 rfl ?_ | refine gz_aload_nN (pc := 10) dX3_takeAway_10 rfl ?_
  refine gz_dup (pc := 11) dX3_takeAway_11 rfl ?_
  refine gz_getI (pc := 12) 7 dX3_takeAway_12 fl_X3_38 rfl rfl rfl rfl (by first | exact gz_B1 | (omega)) ?_
  first | refine gz_aload_n (pc := 15) dX3_takeAway_15 rfl ?_ | refine gz_aload_nN (pc := 15) dX3_takeAway_15 rfl ?_
  refine gz_getr (pc := 16) dX3_takeAway_16 fl_X3_18 rfl rfl rfl (by first | exact gz_B1 | (omega)) ?_
  refine gz_iload_n (pc := 19) dX3_takeAway_19 rfl ?_
  refine gz_iald (pc := 20) dX3_takeAway_20 rfl rfl (by first | exact gz_B1 | (omega)) (by omega) ?_
  refine gz_isub (pc := 21) dX3_takeAway_21 ?_
  refine gz_putI (pc := 22) 7 dX3_takeAway_22 fw_X3_38 rfl rfl rfl rfl (by first | exact gz_B1 | (omega)) (Or.inl rfl) ?_
  first | refine gz_aload_n (pc := 25) dX3_takeAway_25 rfl ?_ | refine gz_aload_nN (pc := 25) dX3_takeAway_25 rfl ?_
  refine gz_getr (pc := 26) dX3_takeAway_26 fl_X3_18 rfl rfl rfl (by first | exact gz_B1 | (omega)) ?_
  refine gz_iload_n (pc := 29) dX3_takeAway_29 rfl ?_
  refine gz_iconst (pc := 30) dX3_takeAway_30 ?_
  refine gz_iast (pc := 31) dX3_takeAway_31 rfl rfl (by first | exact gz_B1 | (omega)) (by omega) ?_
  first | refine gz_aload_n (pc := 32) dX3_takeAway_32 rfl ?_ | refine gz_aload_nN (pc := 32) dX3_takeAway_32 rfl ?_
  refine gz_getr (pc := 33) dX3_takeAway_33 fl_X3_12 rfl rfl rfl (by first | exact gz_B1 | (omega)) ?_
  refine gz_getr (pc := 36) dX3_takeAway_36 fl_X3_41 rfl rfl rfl (by first | exact gz_B1 | (omega)) ?_
  refine gz_iload_n (pc := 39) dX3_takeAway_39 rfl ?_
  refine gz_iconst (pc := 40) dX3_takeAway_40 ?_
  refine gz_zast (pc := 41) dX3_takeAway_41 rfl rfl (by first | exact gz_B1 | (omega)) (by omega) (by exact Or.inl rfl) ?_
  refine gz_vret (pc := 42) dX3_takeAway_42 rfl ?_
  simp (decide := true) only [gz_up_r, gz_up_s, gz_cp_r, gz_up_k, gz_tk1, and_false, false_and, and_self, if_false, if_true, reduceIte, ite_false]
set_option maxHeartbeats 4000000 in
set_option maxRecDepth 100000 in
theorem lp_X3_leastUnused (l : Launch) (D : va_G) (α : gz_P → Nat) (cA : Nat → ClassId) {I : gz_M} (hT : gz_T I) : ∀ p, p ≤ 120 → 0 ≤ p → (∀ q, 0 ≤ q → q < p → ¬ I (13, 0, 0) q = 0) → gz_V l D α cA RX3 cX3_leastUnused (some .int) 2 0 (gz_Qi fun x I' => I = I' ∧ (x = -1 ∧ (∀ q, 0 ≤ q → q < 120 → ¬ I (13, 0, 0) q = 0) ∨ (0 ≤ x ∧ x < 120) ∧ I (13, 0, 0) x = 0 ∧ ∀ q, 0 ≤ q → q < x → ¬ I (13, 0, 0) q = 0)) I [some (.ref (α (3, 0, 0))), some (gz_i (p))] [] 2 := by
  refine gz_upto _ ?_
  intro p hp ih h0 hq
  have e1 := gz_t13 hT 0 0 p
  refine gz_iload_n (pc := 2) dX3_leastUnused_2 rfl ?_
  refine gz_bipush (pc := 3) dX3_leastUnused_3 rfl ?_
  refine gz_icmp_ge (pc := 5) (tgt := 25) dX3_leastUnused_5 (by decide) (by omega) (by omega) (fun h5 => ?_) (fun h5 => ?_)
  · refine gz_iconst (pc := 25) dX3_leastUnused_25 ?_
    refine gz_iret (pc := 26) dX3_leastUnused_26 rfl ?_
    exact ⟨rfl, Or.inl ⟨rfl, fun q h1 h2 => hq q h1 (by omega)⟩⟩
  · first | refine gz_aload_n (pc := 8) dX3_leastUnused_8 rfl ?_ | refine gz_aload_nN (pc := 8) dX3_leastUnused_8 rfl ?_
    refine gz_getr (pc := 9) dX3_leastUnused_9 fl_X3_18 rfl rfl rfl (by first | exact gz_B1 | (omega)) ?_
    refine gz_iload_n (pc := 12) dX3_leastUnused_12 rfl ?_
    refine gz_iald (pc := 13) dX3_leastUnused_13 rfl rfl (by first | exact gz_B1 | (omega)) (by omega) ?_
    refine gz_if_ne (pc := 14) (tgt := 19) dX3_leastUnused_14 (by decide) (by omega) (fun h14 => ?_) (fun h14 => ?_)
    · refine gz_iinc (pc := 19) dX3_leastUnused_19 rfl rfl rfl rfl ?_
      refine gz_goto (pc := 22) (tgt := 2) dX3_leastUnused_22 (by decide) ?_
      refine ih (p + 1) (by omega) (by omega) (by omega) (fun q h1 h2 => ?_)
      by_cases e : q = p
      · rw [e]; exact h14
      · exact hq q h1 (by omega)
    · refine gz_iload_n (pc := 17) dX3_leastUnused_17 rfl ?_
      refine gz_iret (pc := 18) dX3_leastUnused_18 rfl ?_
      exact ⟨rfl, Or.inr ⟨by omega, h14, hq⟩⟩
set_option maxHeartbeats 4000000 in
set_option maxRecDepth 100000 in
theorem ct_X3_leastUnused (l : Launch) (D : va_G) (α : gz_P → Nat) (cA : Nat → ClassId) {I : gz_M} (hT : gz_T I) : gz_V l D α cA RX3 cX3_leastUnused (some .int) 2 0 (gz_Qi fun x I' => I = I' ∧ (x = -1 ∧ (∀ q, 0 ≤ q → q < 120 → ¬ I (13, 0, 0) q = 0) ∨ (0 ≤ x ∧ x < 120) ∧ I (13, 0, 0) x = 0 ∧ ∀ q, 0 ≤ q → q < x → ¬ I (13, 0, 0) q = 0)) I [some (.ref (α (3, 0, 0))), none] [] 0 := by
  refine gz_iconst (pc := 0) dX3_leastUnused_0 ?_
  refine gz_istore_n (pc := 1) dX3_leastUnused_1 rfl rfl rfl ?_
  exact lp_X3_leastUnused l D α cA hT 0 (by omega) (by omega) (fun q h1 h2 => by omega)
set_option maxHeartbeats 4000000 in
set_option maxRecDepth 100000 in
theorem lp_X3_findPart (l : Launch) (D : va_G) (α : gz_P → Nat) (cA : Nat → ClassId) {I : gz_M} (hT : gz_T I) {r sz na nb : Nat} {b c : Int} (hr : gz_shp r = (0, sz, na, nb)) (hr2 : (Nat.blt r 40 && Nat.ble sz 65536) = true) (hb : gz_B b c na nb) (h8 : ∀ i, 0 ≤ I (r, b, c) i ∧ I (r, b, c) i ≤ 255) {s n g : Int} (hs : 0 ≤ s ∧ 0 ≤ n ∧ s + n ≤ sz ∧ n ≤ 32) (hg : 0 ≤ g ∧ g ≤ 60) : ∀ p, p ≤ 120 → 0 ≤ p → (∀ q, 0 ≤ q → q < p → ¬ (I (13, 0, 0) q = n ∧ I (14, 0, 0) q = g ∧ I (11, 4, 0) q = 1 ∧ ∀ i, 0 ≤ i → i < n → I (12, 4, 0) (32 * q + i) = I (r, b, c) (s + i))) → gz_V l D α cA RX3 cX3_findPart (some .int) 6 1 (gz_Qi fun x I' => I = I' ∧ (x = -1 ∧ (∀ q, 0 ≤ q → q < 120 → ¬ (I (13, 0, 0) q = n ∧ I (14, 0, 0) q = g ∧ I (11, 4, 0) q = 1 ∧ ∀ i, 0 ≤ i → i < n → I (12, 4, 0) (32 * q + i) = I (r, b, c) (s + i))) ∨ (0 ≤ x ∧ x < 120) ∧ (I (13, 0, 0) x = n ∧ I (14, 0, 0) x = g ∧ I (11, 4, 0) x = 1 ∧ ∀ i, 0 ≤ i → i < n → I (12, 4, 0) (32 * x + i) = I (r, b, c) (s + i)) ∧ ∀ q, 0 ≤ q → q < x → ¬ (I (13, 0, 0) q = n ∧ I (14, 0, 0) q = g ∧ I (11, 4, 0) q = 1 ∧ ∀ i, 0 ≤ i → i < n → I (12, 4, 0) (32 * q + i) = I (r, b, c) (s + i)))) I [some (.ref (α (3, 0, 0))), some (.ref (α (r, b, c))), some (gz_i (s)), some (gz_i (n)), some (gz_i (g)), some (gz_i (p))] [] 3 := by
  refine gz_upto _ ?_
  intro p hp ih h0 hq
  have e1 := gz_t13 hT 0 0 p
  have e2 := gz_t14 hT 0 0 p
  refine gz_iload (pc := 3) dX3_findPart_3 rfl ?_
  refine gz_bipush (pc := 5) dX3_findPart_5 rfl ?_
  refine gz_icmp_ge (pc := 7) (tgt := 57) dX3_findPart_7 (by decide) (by omega) (by omega) (fun h7 => ?_) (fun h7 => ?_)
  · refine gz_iconst (pc := 57) dX3_findPart_57 ?_
    refine gz_iret (pc := 58) dX3_findPart_58 rfl ?_
    exact ⟨rfl, Or.inl ⟨rfl, fun q h1 h2 => hq q h1 (by omega)⟩⟩
  · first | refine gz_aload_n (pc := 10) dX3_findPart_10 rfl ?_ | refine gz_aload_nN (pc := 10) dX3_findPart_10 rfl ?_
    refine gz_getr (pc := 11) dX3_findPart_11 fl_X3_18 rfl rfl rfl (by first | exact gz_B1 | (omega)) ?_
    refine gz_iload (pc := 14) dX3_findPart_14 rfl ?_
    refine gz_iald (pc := 16) dX3_findPart_16 rfl rfl (by first | exact gz_B1 | (omega)) (by omega) ?_
    refine gz_iload_n (pc := 17) dX3_findPart_17 rfl ?_
    refine gz_icmp_ne (pc := 18) (tgt := 51) dX3_findPart_18 (by decide) (by omega) (by omega) (fun h18 => ?_) (fun h18 => ?_)
    · refine gz_iinc (pc := 51) dX3_findPart_51 rfl rfl rfl rfl ?_
      refine gz_goto (pc := 54) (tgt := 3) dX3_findPart_54 (by decide) ?_
      refine ih (p + 1) (by omega) (by omega) (by omega) (fun q h1 h2 => ?_)
      by_cases e : q = p
      · subst e
        intro hm
        first | exact h18 hm.1 | exact h30 hm.2.1 | (rcases hx42 with h9 | h9; exact absurd h9.1 (by omega); exact h9.2 hm.2.2)
      · exact hq q h1 (by omega)
    · first | refine gz_aload_n (pc := 21) dX3_findPart_21 rfl ?_ | refine gz_aload_nN (pc := 21) dX3_findPart_21 rfl ?_
      refine gz_getr (pc := 22) dX3_findPart_22 fl_X3_22 rfl rfl rfl (by first | exact gz_B1 | (omega)) ?_
      refine gz_iload (pc := 25) dX3_findPart_25 rfl ?_
      refine gz_iald (pc := 27) dX3_findPart_27 rfl rfl (by first | exact gz_B1 | (omega)) (by omega) ?_
      refine gz_iload (pc := 28) dX3_findPart_28 rfl ?_
      refine gz_icmp_ne (pc := 30) (tgt := 51) dX3_findPart_30 (by decide) (by omega) (by omega) (fun h30 => ?_) (fun h30 => ?_)
      · refine gz_iinc (pc := 51) dX3_findPart_51 rfl rfl rfl rfl ?_
        refine gz_goto (pc := 54) (tgt := 3) dX3_findPart_54 (by decide) ?_
        refine ih (p + 1) (by omega) (by omega) (by omega) (fun q h1 h2 => ?_)
        by_cases e : q = p
        · subst e
          intro hm
          first | exact h18 hm.1 | exact h30 hm.2.1 | (rcases hx42 with h9 | h9; exact absurd h9.1 (by omega); exact h9.2 hm.2.2)
        · exact hq q h1 (by omega)
      · first | refine gz_aload_n (pc := 33) dX3_findPart_33 rfl ?_ | refine gz_aload_nN (pc := 33) dX3_findPart_33 rfl ?_
        refine gz_getr (pc := 34) dX3_findPart_34 fl_X3_12 rfl rfl rfl (by first | exact gz_B1 | (omega)) ?_
        refine gz_iload (pc := 37) dX3_findPart_37 rfl ?_
        first | refine gz_aload_n (pc := 39) dX3_findPart_39 rfl ?_ | refine gz_aload_nN (pc := 39) dX3_findPart_39 rfl ?_
        refine gz_iload_n (pc := 40) dX3_findPart_40 rfl ?_
        refine gz_iload_n (pc := 41) dX3_findPart_41 rfl ?_
        refine gz_cV4i (pc := 42) dX3_findPart_42 wm_X3_71 my_X1_holds rfl rfl rfl (by first | exact gz_B1 | (omega)) (ct_X1_holds l D α cA (a := 4) (by omega) hT hr hr2 hb h8 (by omega) hs) (fun x42 I42 h42 => ?_)
        obtain ⟨rfl, hx42⟩ := h42
        refine gz_if_eq (pc := 45) (tgt := 51) dX3_findPart_45 (by decide) (by omega) (fun h45 => ?_) (fun h45 => ?_)
        · refine gz_iinc (pc := 51) dX3_findPart_51 rfl rfl rfl rfl ?_
          refine gz_goto (pc := 54) (tgt := 3) dX3_findPart_54 (by decide) ?_
          refine ih (p + 1) (by omega) (by omega) (by omega) (fun q h1 h2 => ?_)
          by_cases e : q = p
          · subst e
            intro hm
            first | exact h18 hm.1 | exact h30 hm.2.1 | (rcases hx42 with h9 | h9; exact absurd h9.1 (by omega); exact h9.2 hm.2.2)
          · exact hq q h1 (by omega)
        · refine gz_iload (pc := 48) dX3_findPart_48 rfl ?_
          refine gz_iret (pc := 50) dX3_findPart_50 rfl ?_
          refine ⟨rfl, Or.inr ⟨by omega, ⟨h18, h30, ?_⟩, hq⟩⟩
          rcases hx42 with h9 | h9
          · exact h9.2
          · exact absurd h9.1 (by omega)
set_option maxHeartbeats 4000000 in
set_option maxRecDepth 100000 in
theorem ct_X3_findPart (l : Launch) (D : va_G) (α : gz_P → Nat) (cA : Nat → ClassId) {I : gz_M} (hT : gz_T I) {r sz na nb : Nat} {b c : Int} (hr : gz_shp r = (0, sz, na, nb)) (hr2 : (Nat.blt r 40 && Nat.ble sz 65536) = true) (hb : gz_B b c na nb) (h8 : ∀ i, 0 ≤ I (r, b, c) i ∧ I (r, b, c) i ≤ 255) {s n g : Int} (hs : 0 ≤ s ∧ 0 ≤ n ∧ s + n ≤ sz ∧ n ≤ 32) (hg : 0 ≤ g ∧ g ≤ 60) : gz_V l D α cA RX3 cX3_findPart (some .int) 6 1 (gz_Qi fun x I' => I = I' ∧ (x = -1 ∧ (∀ q, 0 ≤ q → q < 120 → ¬ (I (13, 0, 0) q = n ∧ I (14, 0, 0) q = g ∧ I (11, 4, 0) q = 1 ∧ ∀ i, 0 ≤ i → i < n → I (12, 4, 0) (32 * q + i) = I (r, b, c) (s + i))) ∨ (0 ≤ x ∧ x < 120) ∧ (I (13, 0, 0) x = n ∧ I (14, 0, 0) x = g ∧ I (11, 4, 0) x = 1 ∧ ∀ i, 0 ≤ i → i < n → I (12, 4, 0) (32 * x + i) = I (r, b, c) (s + i)) ∧ ∀ q, 0 ≤ q → q < x → ¬ (I (13, 0, 0) q = n ∧ I (14, 0, 0) q = g ∧ I (11, 4, 0) q = 1 ∧ ∀ i, 0 ≤ i → i < n → I (12, 4, 0) (32 * q + i) = I (r, b, c) (s + i)))) I [some (.ref (α (3, 0, 0))), some (.ref (α (r, b, c))), some (gz_i (s)), some (gz_i (n)), some (gz_i (g)), none] [] 0 := by
  refine gz_iconst (pc := 0) dX3_findPart_0 ?_
  refine gz_istore (pc := 1) dX3_findPart_1 rfl rfl rfl ?_
  exact lp_X3_findPart l D α cA hT hr hr2 hb h8 hs hg 0 (by omega) (by omega) (fun q h1 h2 => by omega)
