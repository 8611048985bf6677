set_option maxHeartbeats 4000000 in
set_option maxRecDepth 100000 in
theorem lp_X0_addNames2 (l : Launch) (D : va_G) (α : gz_P → Nat) (cA : Nat → ClassId) {I0 : gz_M} (hT : gz_T I0) {k : Int} (hk : 0 ≤ k ∧ k < 12) : ∀ t, (0 ≤ t ∧ t < I0 (16, k, 0) 5) → (∀ I : gz_M, gz_T I → (∀ q, q ≠ (6, 0, 0) → I q = I0 q) → (∀ p, (((∃ u i, (0 ≤ u ∧ u < (t + 1) ∧ (0 ≤ i ∧ i < I0 (19, k, 0) u)) ∧ I0 (18, k, u) i = p) → I (6, 0, 0) p = 1) ∧ (¬ (∃ u i, (0 ≤ u ∧ u < (t + 1) ∧ (0 ≤ i ∧ i < I0 (19, k, 0) u)) ∧ I0 (18, k, u) i = p) → I (6, 0, 0) p = I0 (6, 0, 0) p))) → ∀ o : Option Value, gz_V l D α cA RX0 cX0_addNames none 4 0 (gz_Qv fun I' => gz_T I' ∧ (∀ q, q ≠ (6, 0, 0) → I' q = I0 q) ∧ ∀ p, ((gz_nmd I0 k p → I' (6, 0, 0) p = 1) ∧ (¬ gz_nmd I0 k p → I' (6, 0, 0) p = I0 (6, 0, 0) p))) I [some (.ref (α (16, k, 0))), some (.ref (α (6, 0, 0))), some (gz_i (t + 1)), o] [] 2) → ∀ j, j ≤ I0 (19, k, 0) t → ∀ I : gz_M, 0 ≤ j → gz_T I → (∀ q, q ≠ (6, 0, 0) → I q = I0 q) → (∀ p, (((∃ u i, (0 ≤ u ∧ u < t ∧ (0 ≤ i ∧ i < I0 (19, k, 0) u) ∨ u = t ∧ 0 ≤ i ∧ i < j) ∧ I0 (18, k, u) i = p) → I (6, 0, 0) p = 1) ∧ (¬ (∃ u i, (0 ≤ u ∧ u < t ∧ (0 ≤ i ∧ i < I0 (19, k, 0) u) ∨ u = t ∧ 0 ≤ i ∧ i < j) ∧ I0 (18, k, u) i = p) → I (6, 0, 0) p = I0 (6, 0, 0) p))) → gz_V l D α cA RX0 cX0_addNames none 4 0 (gz_Qv fun I' => gz_T I' ∧ (∀ q, q ≠ (6, 0, 0) → I' q = I0 q) ∧ ∀ p, ((gz_nmd I0 k p → I' (6, 0, 0) p = 1) ∧ (¬ gz_nmd I0 k p → I' (6, 0, 0) p = I0 (6, 0, 0) p))) I [some (.ref (α (16, k, 0))), some (.ref (α (6, 0, 0))), some (gz_i (t)), some (gz_i (j))] [] 12 := by
  intro t ht kk
  have e0 := gz_tm5 hT k 0
  have e1 := gz_t19 hT k 0 t
  refine gz_upto _ ?_
  intro j hj ih I h0 hTI hI hp
  have e5 := gz_t18 hT k t j
  have r19 : I (19, k, 0) t = I0 (19, k, 0) t := by rw [hI _ (gz_ne rfl)]
  have r18 : I (18, k, t) j = I0 (18, k, t) j := by rw [hI _ (gz_ne rfl)]
  refine gz_iload_n (pc := 12) dX0_addNames_12 rfl ?_
  first | refine gz_aload_n (pc := 13) dX0_addNames_13 rfl ?_ | refine gz_aload_nN (pc := 13) dX0_addNames_13 rfl ?_
  refine gz_getr (pc := 14) dX0_addNames_14 fl_X0_16 rfl rfl rfl (by first | exact gz_B1 | (omega)) ?_
  refine gz_iload_n (pc := 17) dX0_addNames_17 rfl ?_
  refine gz_iald (pc := 18) dX0_addNames_18 rfl rfl (by first | exact gz_B1 | (omega)) (by omega) ?_
  rw [r19]
  refine gz_icmp_ge (pc := 19) (tgt := 39) dX0_addNames_19 (by decide) (by omega) (by omega) (fun h19 => ?_) (fun h19 => ?_)
  · refine gz_iinc (pc := 39) dX0_addNames_39 rfl rfl rfl rfl ?_
    refine gz_goto (pc := 42) (tgt := 2) dX0_addNames_42 (by decide) ?_
    refine kk I hTI hI (fun p => ?_) _
    have hiff : (∃ u i, (0 ≤ u ∧ u < (t + 1) ∧ (0 ≤ i ∧ i < I0 (19, k, 0) u)) ∧ I0 (18, k, u) i = p) ↔ (∃ u i, (0 ≤ u ∧ u < t ∧ (0 ≤ i ∧ i < I0 (19, k, 0) u) ∨ u = t ∧ 0 ≤ i ∧ i < j) ∧ I0 (18, k, u) i = p) := by
      constructor
      · rintro ⟨u, i, a1, a2⟩
        by_cases z : u = t
        · exact ⟨u, i, Or.inr ⟨z, a1.2.2.1, by rw [z] at a1; omega⟩, a2⟩
        · exact ⟨u, i, Or.inl ⟨a1.1, by omega, a1.2.2⟩, a2⟩
      · rintro ⟨u, i, a1 | a1, a2⟩
        · exact ⟨u, i, ⟨a1.1, by omega, a1.2.2⟩, a2⟩
        · exact ⟨u, i, ⟨by omega, by omega, a1.2.1, by rw [a1.1]; omega⟩, a2⟩
    rw [hiff]
    exact hp p
  · first | refine gz_aload_n (pc := 22) dX0_addNames_22 rfl ?_ | refine gz_aload_nN (pc := 22) dX0_addNames_22 rfl ?_
    first | refine gz_aload_n (pc := 23) dX0_addNames_23 rfl ?_ | refine gz_aload_nN (pc := 23) dX0_addNames_23 rfl ?_
    refine gz_getr (pc := 24) dX0_addNames_24 fl_X0_11 rfl rfl rfl (by first | exact gz_B1 | (omega)) ?_
    refine gz_iload_n (pc := 27) dX0_addNames_27 rfl ?_
    first | refine gz_ald1 (pc := 28) dX0_addNames_28 (by omega) ?_ | refine gz_ald2 (pc := 28) dX0_addNames_28 (by omega) ?_ | refine gz_ald4 (pc := 28) dX0_addNames_28 (by omega) ?_ | refine gz_ald17 (pc := 28) dX0_addNames_28 (by first | exact gz_B1 | (omega)) (by omega) ?_
    refine gz_iload_n (pc := 29) dX0_addNames_29 rfl ?_
    refine gz_iald (pc := 30) dX0_addNames_30 rfl rfl (by first | exact gz_B1 | (omega)) (by omega) ?_
    rw [r18]
    refine gz_iconst (pc := 31) dX0_addNames_31 ?_
    refine gz_zast (pc := 32) dX0_addNames_32 rfl rfl (by first | exact gz_B1 | (omega)) (by omega) (by exact Or.inr rfl) ?_
    refine gz_iinc (pc := 33) dX0_addNames_33 rfl rfl rfl rfl ?_
    refine gz_goto (pc := 36) (tgt := 12) dX0_addNames_36 (by decide) ?_
    refine ih (j + 1) (by omega) (by omega) _ (by omega) (gz_Tu6 hTI (by decide)) (fun q hq => by rw [gz_up_ne hq]; exact hI q hq) (fun p => ?_)
    rw [gz_up_eq]
    by_cases z : p = I0 (18, k, t) j
    · rw [if_pos z]
      exact ⟨fun _ => rfl, fun hn => absurd ⟨t, j, Or.inr ⟨rfl, h0, by omega⟩, z.symm⟩ hn⟩
    · rw [if_neg z]
      refine ⟨fun hn => (hp p).1 ?_, fun hn => (hp p).2 (fun hm => hn ?_)⟩
      · obtain ⟨u, i, a1, a2⟩ := hn
        rcases a1 with a1 | a1
        · exact ⟨u, i, Or.inl a1, a2⟩
        · refine ⟨u, i, Or.inr ⟨a1.1, a1.2.1, ?_⟩, a2⟩
          have : i ≠ j := fun e => z (by rw [← a2, a1.1, e])
          omega
      · obtain ⟨u, i, a1, a2⟩ := hm
        rcases a1 with a1 | a1
        · exact ⟨u, i, Or.inl a1, a2⟩
        · exact ⟨u, i, Or.inr ⟨a1.1, a1.2.1, by omega⟩, a2⟩
set_option maxHeartbeats 4000000 in
set_option maxRecDepth 100000 in
theorem lp_X0_addNames (l : Launch) (D : va_G) (α : gz_P → Nat) (cA : Nat → ClassId) {I0 : gz_M} (hT : gz_T I0) {k : Int} (hk : 0 ≤ k ∧ k < 12) : ∀ t, t ≤ I0 (16, k, 0) 5 → ∀ I : gz_M, 0 ≤ t → gz_T I → (∀ q, q ≠ (6, 0, 0) → I q = I0 q) → (∀ p, (((∃ u i, (0 ≤ u ∧ u < t ∧ (0 ≤ i ∧ i < I0 (19, k, 0) u)) ∧ I0 (18, k, u) i = p) → I (6, 0, 0) p = 1) ∧ (¬ (∃ u i, (0 ≤ u ∧ u < t ∧ (0 ≤ i ∧ i < I0 (19, k, 0) u)) ∧ I0 (18, k, u) i = p) → I (6, 0, 0) p = I0 (6, 0, 0) p))) → ∀ o : Option Value, gz_V l D α cA RX0 cX0_addNames none 4 0 (gz_Qv fun I' => gz_T I' ∧ (∀ q, q ≠ (6, 0, 0) → I' q = I0 q) ∧ ∀ p, ((gz_nmd I0 k p → I' (6, 0, 0) p = 1) ∧ (¬ gz_nmd I0 k p → I' (6, 0, 0) p = I0 (6, 0, 0) p))) I [some (.ref (α (16, k, 0))), some (.ref (α (6, 0, 0))), some (gz_i (t)), o] [] 2 := by
  have e0 := gz_tm5 hT k 0
  refine gz_upto _ ?_
  intro t ht ih I h0 hTI hI hp o
  have r5 : I (16, k, 0) 5 = I0 (16, k, 0) 5 := by rw [hI _ (gz_ne rfl)]
  refine gz_iload_n (pc := 2) dX0_addNames_2 rfl ?_
  first | refine gz_aload_n (pc := 3) dX0_addNames_3 rfl ?_ | refine gz_aload_nN (pc := 3) dX0_addNames_3 rfl ?_
  refine gz_getI (pc := 4) 5 dX0_addNames_4 fl_X0_31 rfl rfl rfl rfl (by first | exact gz_B1 | (omega)) ?_
  rw [r5]
  refine gz_icmp_ge (pc := 7) (tgt := 45) dX0_addNames_7 (by decide) (by omega) (by omega) (fun h7 => ?_) (fun h7 => ?_)
  · refine gz_vret (pc := 45) dX0_addNames_45 rfl ?_
    refine ⟨hTI, hI, fun p => ?_⟩
    have hiff : gz_nmd I0 k p ↔ (∃ u i, (0 ≤ u ∧ u < t ∧ (0 ≤ i ∧ i < I0 (19, k, 0) u)) ∧ I0 (18, k, u) i = p) := by
      unfold gz_nmd
      constructor
      · rintro ⟨u, i, a1, a2, a3⟩
        exact ⟨u, i, ⟨a1.1, by omega, a2⟩, a3⟩
      · rintro ⟨u, i, a1, a2⟩
        exact ⟨u, i, ⟨a1.1, by omega⟩, a1.2.2, a2⟩
    rw [hiff]
    exact hp p
  · refine gz_iconst (pc := 10) dX0_addNames_10 ?_
    refine gz_istore_n (pc := 11) dX0_addNames_11 rfl rfl rfl ?_
    refine lp_X0_addNames2 l D α cA hT hk t (by omega) (fun I9 g1 g2 g3 o9 => ih (t + 1) (by omega) (by omega) I9 (by omega) g1 g2 g3 o9) 0 (by have := gz_t19 hT k 0 t; omega) I (by omega) hTI hI (fun p => ?_)
    have hiff : (∃ u i, (0 ≤ u ∧ u < t ∧ (0 ≤ i ∧ i < I0 (19, k, 0) u) ∨ u = t ∧ 0 ≤ i ∧ i < 0) ∧ I0 (18, k, u) i = p) ↔ (∃ u i, (0 ≤ u ∧ u < t ∧ (0 ≤ i ∧ i < I0 (19, k, 0) u)) ∧ I0 (18, k, u) i = p) := by
      constructor
      · rintro ⟨u, i, a1 | a1, a2⟩
        · exact ⟨u, i, a1, a2⟩
        · omega
      · rintro ⟨u, i, a1, a2⟩
        exact ⟨u, i, Or.inl a1, a2⟩
    rw [hiff]
    exact hp p
set_option maxHeartbeats 4000000 in
set_option maxRecDepth 100000 in
theorem ct_X0_addNames (l : Launch) (D : va_G) (α : gz_P → Nat) (cA : Nat → ClassId) {I0 : gz_M} (hT : gz_T I0) {k : Int} (hk : 0 ≤ k ∧ k < 12) : gz_V l D α cA RX0 cX0_addNames none 4 0 (gz_Qv fun I' => gz_T I' ∧ (∀ q, q ≠ (6, 0, 0) → I' q = I0 q) ∧ ∀ p, ((gz_nmd I0 k p → I' (6, 0, 0) p = 1) ∧ (¬ gz_nmd I0 k p → I' (6, 0, 0) p = I0 (6, 0, 0) p))) I0 [some (.ref (α (16, k, 0))), some (.ref (α (6, 0, 0))), none, none] [] 0 := by
  refine gz_iconst (pc := 0) dX0_addNames_0 ?_
  refine gz_istore_n (pc := 1) dX0_addNames_1 rfl rfl rfl ?_
  refine lp_X0_addNames l D α cA hT hk 0 (by have := gz_tm5 hT k 0; omega) I0 (by omega) hT (fun q _ => rfl) (fun p => ⟨fun h => ?_, fun _ => rfl⟩) _
  obtain ⟨u, i, a1, a2⟩ := h
  omega
/-- a part that one of the first n held marks names, and that mark is kept -/
def gz_kn (I : gz_M) (n p : Int) : Prop := ∃ v, (0 ≤ v ∧ v < n) ∧ I (16, I (4, 0, 0) v, 0) 3 = 1 ∧ gz_nmd I (I (4, 0, 0) v) p
theorem gz_nmd_eq {I I0 : gz_M} {k p : Int} (h16 : I (16, k, 0) = I0 (16, k, 0)) (h19 : I (19, k, 0) = I0 (19, k, 0)) (h18 : ∀ t, I (18, k, t) = I0 (18, k, t)) : gz_nmd I k p ↔ gz_nmd I0 k p := by
  unfold gz_nmd
  rw [h16, h19]
  simp only [h18]
set_option maxHeartbeats 4000000 in
set_option maxRecDepth 100000 in
theorem lp_X4_nameKeptParts2 (l : Launch) (D : va_G) (α : gz_P → Nat) (cA : Nat → ClassId) {I0 : gz_M} (hT : gz_T I0) : ∀ i, i ≤ I0 (0, 0, 0) 7 → ∀ I : gz_M, 0 ≤ i → gz_T I → (∀ q, q ≠ (6, 0, 0) → I q = I0 q) → (∀ p, 0 ≤ p → p < 120 → I (6, 0, 0) p = gz_b (gz_kn I0 i p)) → gz_V l D α cA RX4 cX4_nameKeptParts none 2 1 (gz_Qv fun I' => gz_T I' ∧ (∀ q, q ≠ (6, 0, 0) → I' q = I0 q) ∧ ∀ p, 0 ≤ p → p < 120 → I' (6, 0, 0) p = gz_b (gz_kn I0 (I0 (0, 0, 0) 7) p)) I [some (.ref (α (0, 0, 0))), some (gz_i (i))] [] 23 := by
  have e0 := gz_th hT 0 0
  refine gz_upto _ ?_
  intro i hi ih I h0 hTI hI hp
  have e4 := gz_t4 hT 0 0 i
  have r7 : I (0, 0, 0) 7 = I0 (0, 0, 0) 7 := by rw [hI _ (gz_ne rfl)]
  have r4 : I (4, 0, 0) i = I0 (4, 0, 0) i := by rw [hI _ (gz_ne rfl)]
  have r3 : I (16, I (4, 0, 0) i, 0) 3 = I0 (16, I0 (4, 0, 0) i, 0) 3 := by rw [r4, hI _ (gz_ne rfl)]
  have e3 := gz_tm3 hT (I0 (4, 0, 0) i) 0
  refine gz_iload_n (pc := 23) dX4_nameKeptParts_23 rfl ?_
  first | refine gz_aload_n (pc := 24) dX4_nameKeptParts_24 rfl ?_ | refine gz_aload_nN (pc := 24) dX4_nameKeptParts_24 rfl ?_
  refine gz_getI (pc := 25) 7 dX4_nameKeptParts_25 fl_X4_46 rfl rfl rfl rfl (by first | exact gz_B1 | (omega)) ?_
  rw [r7]
  refine gz_icmp_ge (pc := 28) (tgt := 62) dX4_nameKeptParts_28 (by decide) (by omega) (by omega) (fun h28 => ?_) (fun h28 => ?_)
  · refine gz_vret (pc := 62) dX4_nameKeptParts_62 rfl ?_
    rw [show i = I0 (0, 0, 0) 7 by omega] at hp
    exact ⟨hTI, hI, hp⟩
  · first | refine gz_aload_n (pc := 31) dX4_nameKeptParts_31 rfl ?_ | refine gz_aload_nN (pc := 31) dX4_nameKeptParts_31 rfl ?_
    refine gz_getr (pc := 32) dX4_nameKeptParts_32 fl_X4_30 rfl rfl rfl (by first | exact gz_B1 | (omega)) ?_
    refine gz_iload_n (pc := 35) dX4_nameKeptParts_35 rfl ?_
    first | refine gz_ald1 (pc := 36) dX4_nameKeptParts_36 (by omega) ?_ | refine gz_ald2 (pc := 36) dX4_nameKeptParts_36 (by omega) ?_ | refine gz_ald4 (pc := 36) dX4_nameKeptParts_36 (by omega) ?_ | refine gz_ald17 (pc := 36) dX4_nameKeptParts_36 (by first | exact gz_B1 | (omega)) (by omega) ?_
    refine gz_getI (pc := 37) 3 dX4_nameKeptParts_37 fl_X4_129 rfl rfl rfl rfl (by first | exact gz_B1 | (omega)) ?_
    rw [r3]
    refine gz_if_eq (pc := 40) (tgt := 56) dX4_nameKeptParts_40 (by decide) (by omega) (fun h40 => ?_) (fun h40 => ?_)
    · refine gz_iinc (pc := 56) dX4_nameKeptParts_56 rfl rfl rfl rfl ?_
      refine gz_goto (pc := 59) (tgt := 23) dX4_nameKeptParts_59 (by decide) ?_
      refine ih (i + 1) (by omega) (by omega) _ (by omega) hTI hI (fun p b1 b2 => ?_)
      rw [hp p b1 b2]
      refine gz_b_cong ⟨?_, ?_⟩
      · rintro ⟨j, a1, a2⟩
        exact ⟨j, ⟨a1.1, by omega⟩, a2⟩
      · rintro ⟨j, a1, a2⟩
        have hji : j ≠ i := fun e => by have h8 := a2.1; rw [e] at h8; omega
        exact ⟨j, ⟨a1.1, by omega⟩, a2⟩
    · first | refine gz_aload_n (pc := 43) dX4_nameKeptParts_43 rfl ?_ | refine gz_aload_nN (pc := 43) dX4_nameKeptParts_43 rfl ?_
      refine gz_getr (pc := 44) dX4_nameKeptParts_44 fl_X4_30 rfl rfl rfl (by first | exact gz_B1 | (omega)) ?_
      refine gz_iload_n (pc := 47) dX4_nameKeptParts_47 rfl ?_
      first | refine gz_ald1 (pc := 48) dX4_nameKeptParts_48 (by omega) ?_ | refine gz_ald2 (pc := 48) dX4_nameKeptParts_48 (by omega) ?_ | refine gz_ald4 (pc := 48) dX4_nameKeptParts_48 (by omega) ?_ | refine gz_ald17 (pc := 48) dX4_nameKeptParts_48 (by first | exact gz_B1 | (omega)) (by omega) ?_
      first | refine gz_aload_n (pc := 49) dX4_nameKeptParts_49 rfl ?_ | refine gz_aload_nN (pc := 49) dX4_nameKeptParts_49 rfl ?_
      refine gz_getr (pc := 50) dX4_nameKeptParts_50 fl_X4_38 rfl rfl rfl (by first | exact gz_B1 | (omega)) ?_
      refine gz_cV1v (pc := 53) dX4_nameKeptParts_53 wm_X4_267 my_X0_addNames rfl rfl rfl (by first | exact gz_B1 | (omega)) (ct_X0_addNames l D α cA hTI (by rw [r4]; omega)) (fun I53 h53 => ?_)
      obtain ⟨c1, c2, c3⟩ := h53
      · refine gz_iinc (pc := 56) dX4_nameKeptParts_56 rfl rfl rfl rfl ?_
        refine gz_goto (pc := 59) (tgt := 23) dX4_nameKeptParts_59 (by decide) ?_
        refine ih (i + 1) (by omega) (by omega) _ (by omega) c1 (fun q hq => by rw [c2 q hq]; exact hI q hq) (fun p b1 b2 => ?_)
        have h9 := c3 p
        rw [r4, gz_nmd_eq (hI _ (gz_ne rfl)) (hI _ (gz_ne rfl)) (fun t => hI _ (gz_ne rfl))] at h9
        by_cases z : gz_nmd I0 (I0 (4, 0, 0) i) p
        · rw [h9.1 z, gz_b1 ⟨i, ⟨h0, by omega⟩, by omega, z⟩]
        · rw [h9.2 z, hp p b1 b2]
          refine gz_b_cong ⟨?_, ?_⟩
          · rintro ⟨j, a1, a2⟩
            exact ⟨j, ⟨a1.1, by omega⟩, a2⟩
          · rintro ⟨j, a1, a2⟩
            have hji : j ≠ i := fun e => z (by rw [← e]; exact a2.2)
            exact ⟨j, ⟨a1.1, by omega⟩, a2⟩
set_option maxHeartbeats 4000000 in
set_option maxRecDepth 100000 in
theorem lp_X4_nameKeptParts (l : Launch) (D : va_G) (α : gz_P → Nat) (cA : Nat → ClassId) {I0 : gz_M} (hT : gz_T I0) : ∀ i, i ≤ 120 → ∀ I : gz_M, 0 ≤ i → gz_T I → (∀ q, q ≠ (6, 0, 0) → I q = I0 q) → (∀ p, 0 ≤ p → p < i → I (6, 0, 0) p = 0) → gz_V l D α cA RX4 cX4_nameKeptParts none 2 1 (gz_Qv fun I' => gz_T I' ∧ (∀ q, q ≠ (6, 0, 0) → I' q = I0 q) ∧ ∀ p, 0 ≤ p → p < 120 → I' (6, 0, 0) p = gz_b (gz_kn I0 (I0 (0, 0, 0) 7) p)) I [some (.ref (α (0, 0, 0))), some (gz_i (i))] [] 2 := by
  refine gz_upto _ ?_
  intro i hi ih I h0 hTI hI hp
  refine gz_iload_n (pc := 2) dX4_nameKeptParts_2 rfl ?_
  refine gz_bipush (pc := 3) dX4_nameKeptParts_3 rfl ?_
  refine gz_icmp_ge (pc := 5) (tgt := 21) dX4_nameKeptParts_5 (by decide) (by omega) (by omega) (fun h5 => ?_) (fun h5 => ?_)
  · refine gz_iconst (pc := 21) dX4_nameKeptParts_21 ?_
    refine gz_istore_n (pc := 22) dX4_nameKeptParts_22 rfl rfl rfl ?_
    refine lp_X4_nameKeptParts2 l D α cA hT 0 (by have := gz_th hT 0 0; omega) I (by omega) hTI hI (fun p a1 a2 => ?_)
    rw [hp p a1 (by omega), gz_b0]
    rintro ⟨j, b1, b2⟩
    omega
  · first | refine gz_aload_n (pc := 8) dX4_nameKeptParts_8 rfl ?_ | refine gz_aload_nN (pc := 8) dX4_nameKeptParts_8 rfl ?_
    refine gz_getr (pc := 9) dX4_nameKeptParts_9 fl_X4_38 rfl rfl rfl (by first | exact gz_B1 | (omega)) ?_
    refine gz_iload_n (pc := 12) dX4_nameKeptParts_12 rfl ?_
    refine gz_iconst (pc := 13) dX4_nameKeptParts_13 ?_
    refine gz_zast (pc := 14) dX4_nameKeptParts_14 rfl rfl (by first | exact gz_B1 | (omega)) (by omega) (by exact Or.inl rfl) ?_
    refine gz_iinc (pc := 15) dX4_nameKeptParts_15 rfl rfl rfl rfl ?_
    refine gz_goto (pc := 18) (tgt := 2) dX4_nameKeptParts_18 (by decide) ?_
    refine ih (i + 1) (by omega) (by omega) _ (by omega) (gz_Tu6 hTI (by decide)) (fun q hq => by rw [gz_up_ne hq]; exact hI q hq) (fun p a1 a2 => ?_)
    rw [gz_up_eq]
    by_cases z : p = i
    · rw [if_pos z]
    · rw [if_neg z]; exact hp p a1 (by omega)
set_option maxHeartbeats 4000000 in
set_option maxRecDepth 100000 in
theorem ct_X4_nameKeptParts (l : Launch) (D : va_G) (α : gz_P → Nat) (cA : Nat → ClassId) {I0 : gz_M} (hT : gz_T I0) : gz_V l D α cA RX4 cX4_nameKeptParts none 2 1 (gz_Qv fun I' => gz_T I' ∧ (∀ q, q ≠ (6, 0, 0) → I' q = I0 q) ∧ ∀ p, 0 ≤ p → p < 120 → I' (6, 0, 0) p = gz_b (gz_kn I0 (I0 (0, 0, 0) 7) p)) I0 [some (.ref (α (0, 0, 0))), none] [] 0 := by
  refine gz_iconst (pc := 0) dX4_nameKeptParts_0 ?_
  refine gz_istore_n (pc := 1) dX4_nameKeptParts_1 rfl rfl rfl ?_
  exact lp_X4_nameKeptParts l D α cA hT 0 (by omega) I0 (by omega) hT (fun q _ => rfl) (fun p a1 a2 => by omega)
set_option maxHeartbeats 4000000 in
set_option maxRecDepth 100000 in
theorem lp_X4_freePart (l : Launch) (D : va_G) (α : gz_P → Nat) (cA : Nat → ClassId) {I0 : gz_M} (hT : gz_T I0) (hE : gz_E I0) {p : Int} (hp : 0 ≤ p ∧ p < 120) (hz : 0 < I0 (13, 0, 0) p) : ∀ t, t ≤ 4 → ∀ I : gz_M, 0 ≤ t → gz_T I → gz_E I → gz_aX I = gz_del (gz_aX I0) p → (∀ q, I (13, 0, 0) q = if q = p then 0 else I0 (13, 0, 0) q) → (∀ a, 0 ≤ a → a < 5 → ∀ q, I (11, a, 0) q = if (a < t ∨ a = 4) ∧ q = p then 0 else I0 (11, a, 0) q) → (∀ q : gz_P, q.1 ≠ 3 → q.1 ≠ 11 → q.1 ≠ 13 → I q = I0 q) → gz_V l D α cA RX4 cX4_freePart none 3 1 (gz_Qv fun I' => gz_T I' ∧ gz_E I' ∧ gz_aX I' = gz_del (gz_aX I0) p ∧ (∀ q, I' (13, 0, 0) q = if q = p then 0 else I0 (13, 0, 0) q) ∧ (∀ a, 0 ≤ a → a < 5 → ∀ q, I' (11, a, 0) q = if q = p then 0 else I0 (11, a, 0) q) ∧ (∀ q : gz_P, q.1 ≠ 3 → q.1 ≠ 11 → q.1 ≠ 13 → I' q = I0 q)) I [some (.ref (α (0, 0, 0))), some (gz_i (p)), some (gz_i (t))] [] 10 := by
  refine gz_upto _ ?_
  intro t ht ih I h0 hTI hEI hA h13 h11 hI
  refine gz_iload_n (pc := 10) dX4_freePart_10 rfl ?_
  refine gz_iconst (pc := 11) dX4_freePart_11 ?_
  refine gz_icmp_ge (pc := 12) (tgt := 33) dX4_freePart_12 (by decide) (by omega) (by omega) (fun h12 => ?_) (fun h12 => ?_)
  · refine gz_vret (pc := 33) dX4_freePart_33 rfl ?_
    refine ⟨hTI, hEI, hA, h13, fun a a1 a2 q => ?_, hI⟩
    rw [h11 a a1 a2 q]
    by_cases z : q = p
    · rw [if_pos ⟨by omega, z⟩, if_pos z]
    · rw [if_neg (fun e => z e.2), if_neg z]
  · first | refine gz_aload_n (pc := 15) dX4_freePart_15 rfl ?_ | refine gz_aload_nN (pc := 15) dX4_freePart_15 rfl ?_
    refine gz_getr (pc := 16) dX4_freePart_16 fl_X4_17 rfl rfl rfl (by first | exact gz_B1 | (omega)) ?_
    refine gz_iload_n (pc := 19) dX4_freePart_19 rfl ?_
    first | refine gz_ald1 (pc := 20) dX4_freePart_20 (by omega) ?_ | refine gz_ald2 (pc := 20) dX4_freePart_20 (by omega) ?_ | refine gz_ald4 (pc := 20) dX4_freePart_20 (by omega) ?_ | refine gz_ald17 (pc := 20) dX4_freePart_20 (by first | exact gz_B1 | (omega)) (by omega) ?_
    refine gz_getr (pc := 21) dX4_freePart_21 fl_X4_207 rfl rfl rfl (by first | exact gz_B1 | (omega)) ?_
    refine gz_iload_n (pc := 24) dX4_freePart_24 rfl ?_
    refine gz_iconst (pc := 25) dX4_freePart_25 ?_
    refine gz_zast (pc := 26) dX4_freePart_26 rfl rfl (by first | exact gz_B1 | (omega)) (by omega) (by exact Or.inl rfl) ?_
    refine gz_iinc (pc := 27) dX4_freePart_27 rfl rfl rfl rfl ?_
    refine gz_goto (pc := 30) (tgt := 10) dX4_freePart_30 (by decide) ?_
    have hne : ((11, 4, 0) : gz_P) ≠ (11, t, 0) := fun e => by injection e with _ e; injection e with e; omega
    have ha2 : gz_aX (gz_up I (11, t, 0) p 0) = gz_aX I := by
      funext c x i
      unfold gz_aX
      rw [gz_up_ne hne, gz_up_ne (gz_ne rfl), gz_up_ne (gz_ne rfl), gz_up_ne (gz_ne rfl)]
    refine ih (t + 1) (by omega) (by omega) _ (by omega) (gz_Tu11 hTI (by decide)) ?_ (ha2.trans hA) (fun q => by rw [gz_up_r (by decide)]; exact h13 q) (fun a a1 a2 q => ?_) (fun q q1 q2 q3 => by rw [gz_up_ne (fun e => q2 (by rw [e]))]; exact hI q q1 q2 q3)
    · unfold gz_E
      rw [ha2, gz_up_ne (gz_ne rfl)]
      exact hEI
    · rw [gz_up_k]
      by_cases z : (a = t ∧ (0 : Int) = 0) ∧ q = p
      · rw [if_pos z, if_pos ⟨Or.inl (by omega), z.2⟩]
      · rw [if_neg z, h11 a a1 a2 q]
        by_cases z2 : (a < t ∨ a = 4) ∧ q = p
        · rw [if_pos z2, if_pos ⟨by omega, z2.2⟩]
        · rw [if_neg z2, if_neg (fun e => by rcases e with ⟨e1, e2⟩; exact z2 ⟨by have : a ≠ t := fun e3 => z ⟨⟨e3, rfl⟩, e2⟩; omega, e2⟩)]
set_option maxHeartbeats 4000000 in
set_option maxRecDepth 100000 in
theorem ct_X4_freePart (l : Launch) (D : va_G) (α : gz_P → Nat) (cA : Nat → ClassId) {I0 : gz_M} (hT : gz_T I0) (hE : gz_E I0) {p : Int} (hp : 0 ≤ p ∧ p < 120) (hz : 0 < I0 (13, 0, 0) p) : gz_V l D α cA RX4 cX4_freePart none 3 1 (gz_Qv fun I' => gz_T I' ∧ gz_E I' ∧ gz_aX I' = gz_del (gz_aX I0) p ∧ (∀ q, I' (13, 0, 0) q = if q = p then 0 else I0 (13, 0, 0) q) ∧ (∀ a, 0 ≤ a → a < 5 → ∀ q, I' (11, a, 0) q = if q = p then 0 else I0 (11, a, 0) q) ∧ (∀ q : gz_P, q.1 ≠ 3 → q.1 ≠ 11 → q.1 ≠ 13 → I' q = I0 q)) I0 [some (.ref (α (0, 0, 0))), some (gz_i (p)), none] [] 0 := by
  first | refine gz_aload_n (pc := 0) dX4_freePart_0 rfl ?_ | refine gz_aload_nN (pc := 0) dX4_freePart_0 rfl ?_
  refine gz_getr (pc := 1) dX4_freePart_1 fl_X4_24 rfl rfl rfl (by first | exact gz_B1 | (omega)) ?_
  refine gz_iload_n (pc := 4) dX4_freePart_4 rfl ?_
  refine gz_cV1v (pc := 5) dX4_freePart_5 wm_X4_271 my_X3_takeAway rfl rfl rfl (by first | exact gz_B1 | (omega)) (ct_X3_takeAway l D α cA hp) (fun I5 h5 => ?_)
  subst h5
  refine gz_iconst (pc := 8) dX4_freePart_8 ?_
  refine gz_istore_n (pc := 9) dX4_freePart_9 rfl rfl rfl ?_
  have e1 := hE.1
  have e2 := hE.2
  have e3 := gz_cnt_in (gz_aX I0)
  have e4 := gz_tot_in hT
  refine lp_X4_freePart l D α cA hT hE hp hz 0 (by omega) _ (by omega) (gz_tk1_T hT (by omega) (by omega)) (gz_tk1_E hE hp hz) gz_tk1_a (fun q => gz_tk1_13) (fun a a1 a2 q => ?_) (fun q q1 q2 q3 => gz_tk1_o ⟨fun e => q1 (by rw [e]), fun e => q3 (by rw [e]), fun e => q2 (by rw [e])⟩)
  rw [gz_tk1_11]
  by_cases z : a = 4 ∧ q = p
  · rw [if_pos z, if_pos ⟨Or.inr z.1, z.2⟩]
  · rw [if_neg z, if_neg (fun e => z ⟨by omega, e.2⟩)]
noncomputable def gz_flt (N : Int → Prop) (S : gz_S) : gz_S := fun c p i => @ite _ (N p) (Classical.propDecidable _) (S c p i) 0
theorem gz_aX_0 {I : gz_M} {c : Nat} {p i : Int} (h : ¬ ((0 ≤ p ∧ p < 120) ∧ 0 < I (13, 0, 0) p)) (hT : gz_T I) : gz_aX I c p i = 0 := by
  have := gz_t13 hT 0 0 p
  unfold gz_aX
  match c with
  | 0 =>
    show (if 0 ≤ p ∧ p < 120 then I (13, 0, 0) p else 0) = 0
    split <;> omega
  | 1 => exact if_neg h
  | 2 => exact if_neg h
  | 3 => exact if_neg (by omega)
  | c + 4 => rfl
set_option maxHeartbeats 4000000 in
set_option maxRecDepth 100000 in
theorem lp_X4_freeUnnamed (l : Launch) (D : va_G) (α : gz_P → Nat) (cA : Nat → ClassId) {I0 : gz_M} (hT0 : gz_T I0) : ∀ p, p ≤ 120 → ∀ (n : Int) (I : gz_M), 0 ≤ p → n = gz_sm (fun p => gz_b (0 < I0 (13, 0, 0) p ∧ ¬ (gz_kn I0 (I0 (0, 0, 0) 7) p))) p.toNat → gz_T I → gz_E I → (∀ q, (0 ≤ q ∧ q < p) ∧ (0 < I0 (13, 0, 0) q ∧ ¬ (gz_kn I0 (I0 (0, 0, 0) 7) q)) → I (13, 0, 0) q = 0 ∧ (∀ a, 0 ≤ a → a < 5 → I (11, a, 0) q = 0)) → (∀ q, ¬ ((0 ≤ q ∧ q < p) ∧ (0 < I0 (13, 0, 0) q ∧ ¬ (gz_kn I0 (I0 (0, 0, 0) 7) q))) → I (13, 0, 0) q = I0 (13, 0, 0) q ∧ (∀ a, 0 ≤ a → a < 5 → I (11, a, 0) q = I0 (11, a, 0) q)) → (∀ q : gz_P, q.1 ≠ 3 → q.1 ≠ 11 → q.1 ≠ 13 → q.1 ≠ 6 → I q = I0 q) → (∀ q, 0 ≤ q → q < 120 → I (6, 0, 0) q = gz_b (gz_kn I0 (I0 (0, 0, 0) 7) q)) → gz_V l D α cA RX4 cX4_freeUnnamed (some .int) 3 2 (gz_Qi fun x I' => x = gz_sm (fun p => gz_b (0 < I0 (13, 0, 0) p ∧ ¬ (gz_kn I0 (I0 (0, 0, 0) 7) p))) 120 ∧ gz_T I' ∧ gz_E I' ∧ gz_aX I' = gz_flt (fun p => (gz_kn I0 (I0 (0, 0, 0) 7) p)) (gz_aX I0) ∧ (∀ p, 0 ≤ p → p < 120 → I' (13, 0, 0) p = gz_b (0 < I0 (13, 0, 0) p ∧ ¬ (gz_kn I0 (I0 (0, 0, 0) 7) p)) * 0 + (1 - gz_b (0 < I0 (13, 0, 0) p ∧ ¬ (gz_kn I0 (I0 (0, 0, 0) 7) p))) * I0 (13, 0, 0) p) ∧ (∀ a, 0 ≤ a → a < 4 → ∀ p, 0 ≤ p → p < 120 → I' (11, a, 0) p = (1 - gz_b (0 < I0 (13, 0, 0) p ∧ ¬ (gz_kn I0 (I0 (0, 0, 0) 7) p))) * I0 (11, a, 0) p) ∧ (∀ q : gz_P, q.1 ≠ 3 → q.1 ≠ 11 → q.1 ≠ 13 → q.1 ≠ 6 → I' q = I0 q)) I [some (.ref (α (0, 0, 0))), some (gz_i (n)), some (gz_i (p))] [] 8 := by
  refine gz_upto _ ?_
  intro p hp ih n I h0 hn hTI hEI hz hk hI h6
  have hp13 : I (13, 0, 0) p = I0 (13, 0, 0) p := (hk p (fun e => by omega)).1
  have hs := gz_sm_in (f := fun p => gz_b (0 < I0 (13, 0, 0) p ∧ ¬ (gz_kn I0 (I0 (0, 0, 0) 7) p))) (lo := 0) (hi := 1) (fun i => gz_b_in _) p.toNat
  have hb6 := gz_b_in (gz_kn I0 (I0 (0, 0, 0) 7) p)
  have e13 := gz_t13 hT0 0 0 p
  refine gz_iload_n (pc := 8) dX4_freeUnnamed_8 rfl ?_
  refine gz_bipush (pc := 9) dX4_freeUnnamed_9 rfl ?_
  refine gz_icmp_ge (pc := 11) (tgt := 48) dX4_freeUnnamed_11 (by decide) (by omega) (by omega) (fun h11 => ?_) (fun h11 => ?_)
  · refine gz_iload_n (pc := 48) dX4_freeUnnamed_48 rfl ?_
    refine gz_iret (pc := 49) dX4_freeUnnamed_49 rfl ?_
    have hpe : p = 120 := by omega
    rw [hpe] at hz hk hn
    have hcase : ∀ q, 0 ≤ q → q < 120 → (I (13, 0, 0) q = gz_b (0 < I0 (13, 0, 0) q ∧ ¬ (gz_kn I0 (I0 (0, 0, 0) 7) q)) * 0 + (1 - gz_b (0 < I0 (13, 0, 0) q ∧ ¬ (gz_kn I0 (I0 (0, 0, 0) 7) q))) * I0 (13, 0, 0) q) ∧ ∀ a, 0 ≤ a → a < 5 → I (11, a, 0) q = (1 - gz_b (0 < I0 (13, 0, 0) q ∧ ¬ (gz_kn I0 (I0 (0, 0, 0) 7) q))) * I0 (11, a, 0) q := by
      intro q a1 a2
      by_cases z : 0 < I0 (13, 0, 0) q ∧ ¬ (gz_kn I0 (I0 (0, 0, 0) 7) q)
      · have h9 := hz q ⟨⟨a1, a2⟩, z⟩
        rw [gz_b1 z, h9.1]
        exact ⟨by omega, fun a b1 b2 => by rw [h9.2 a b1 b2]; omega⟩
      · have h9 := hk q (fun e => z e.2)
        rw [gz_b0 z, h9.1]
        exact ⟨by omega, fun a b1 b2 => by rw [h9.2 a b1 b2]; omega⟩
    refine ⟨hn, hTI, hEI, ?_, fun q a1 a2 => (hcase q a1 a2).1, fun a b1 b2 q a1 a2 => (hcase q a1 a2).2 a b1 (by omega), hI⟩
    funext c q i
    unfold gz_flt
    by_cases z : (gz_kn I0 (I0 (0, 0, 0) 7) q)
    · rw [if_pos z]
      have h9 := hk q (fun e => e.2.2 z)
      unfold gz_aX
      rw [h9.1, h9.2 4 (by omega) (by omega), hI (14, 0, 0) (gz_nb rfl) (gz_nb rfl) (gz_nb rfl) (gz_nb rfl), hI (12, 4, 0) (gz_nb rfl) (gz_nb rfl) (gz_nb rfl) (gz_nb rfl)]
    · rw [if_neg z]
      refine gz_aX_0 (fun e => ?_) hTI
      by_cases z2 : 0 < I0 (13, 0, 0) q
      · have h9 := (hz q ⟨e.1, z2, z⟩).1
        omega
      · have h9 := (hk q (fun e2 => z2 e2.2.1)).1
        omega
  · first | refine gz_aload_n (pc := 14) dX4_freeUnnamed_14 rfl ?_ | refine gz_aload_nN (pc := 14) dX4_freeUnnamed_14 rfl ?_
    refine gz_getr (pc := 15) dX4_freeUnnamed_15 fl_X4_24 rfl rfl rfl (by first | exact gz_B1 | (omega)) ?_
    refine gz_iload_n (pc := 18) dX4_freeUnnamed_18 rfl ?_
    refine gz_cV1i (pc := 19) dX4_freeUnnamed_19 wm_X4_177 my_X3_isThere rfl rfl rfl (by first | exact gz_B1 | (omega)) (ct_X3_isThere l D α cA hTI (by omega)) (fun x19 I19 h19 => ?_)
    obtain ⟨rfl, hx19⟩ := h19
    rw [hp13] at hx19
    refine gz_if_eq (pc := 22) (tgt := 42) dX4_freeUnnamed_22 (by decide) (by omega) (fun h22 => ?_) (fun h22 => ?_)
    · refine gz_iinc (pc := 42) dX4_freeUnnamed_42 rfl rfl rfl rfl ?_
      refine gz_goto (pc := 45) (tgt := 8) dX4_freeUnnamed_45 (by decide) ?_
      first
        | (have hyes : 0 < I0 (13, 0, 0) p ∧ ¬ (gz_kn I0 (I0 (0, 0, 0) 7) p) := ⟨by omega, fun e => by rw [gz_b1 e] at h31; exact absurd h31 (by decide)⟩
           refine ih (p + 1) (by omega) (by omega) _ _ (by omega) ?_ c1 c2 (fun q hq => ?_) (fun q hq => ?_) (fun q q1 q2 q3 q4 => by rw [c6 q q1 q2 q3]; exact hI q q1 q2 q3 q4) (fun q a1 a2 => by rw [c6 _ (gz_nb rfl) (gz_nb rfl) (gz_nb rfl)]; exact h6 q a1 a2)
           · rw [show (p + 1).toNat = p.toNat + 1 by omega, gz_sm_s, Int.toNat_of_nonneg h0, gz_b1 hyes, ← hn]
           · by_cases z : q = p
             · rw [c4, if_pos z]
               exact ⟨rfl, fun a a1 a2 => by rw [c5 a a1 a2, if_pos z]⟩
             · have h9 := hz q ⟨⟨hq.1.1, by omega⟩, hq.2⟩
               rw [c4, if_neg z]
               exact ⟨h9.1, fun a a1 a2 => by rw [c5 a a1 a2, if_neg z]; exact h9.2 a a1 a2⟩
           · have z : ¬ q = p := fun e => hq ⟨⟨by omega, by omega⟩, by rw [e]; exact hyes⟩
             have h9 := hk q (fun e => hq ⟨⟨e.1.1, by omega⟩, e.2⟩)
             rw [c4, if_neg z]
             exact ⟨h9.1, fun a a1 a2 => by rw [c5 a a1 a2, if_neg z]; exact h9.2 a a1 a2⟩)
        | (have hnot : ¬ (0 < I0 (13, 0, 0) p ∧ ¬ (gz_kn I0 (I0 (0, 0, 0) 7) p)) := fun e => by rw [gz_b0 e.2] at h31; exact h31 rfl
           refine ih (p + 1) (by omega) (by omega) _ _ (by omega) ?_ hTI hEI (fun q hq => hz q ⟨⟨hq.1.1, ?_⟩, hq.2⟩) (fun q hq => hk q (fun e => hq ⟨⟨e.1.1, by omega⟩, e.2⟩)) hI h6
           · rw [show (p + 1).toNat = p.toNat + 1 by omega, gz_sm_s, Int.toNat_of_nonneg h0, gz_b0 hnot, ← hn]
             omega
           · have : q ≠ p := fun e => hnot (by rw [← e]; exact hq.2)
             omega)
        | (have hnot : ¬ (0 < I0 (13, 0, 0) p ∧ ¬ (gz_kn I0 (I0 (0, 0, 0) 7) p)) := fun e => by have := e.1; omega
           refine ih (p + 1) (by omega) (by omega) _ _ (by omega) ?_ hTI hEI (fun q hq => hz q ⟨⟨hq.1.1, ?_⟩, hq.2⟩) (fun q hq => hk q (fun e => hq ⟨⟨e.1.1, by omega⟩, e.2⟩)) hI h6
           · rw [show (p + 1).toNat = p.toNat + 1 by omega, gz_sm_s, Int.toNat_of_nonneg h0, gz_b0 hnot, ← hn]
             omega
           · have : q ≠ p := fun e => hnot (by rw [← e]; exact hq.2)
             omega)
    · first | refine gz_aload_n (pc := 25) dX4_freeUnnamed_25 rfl ?_ | refine gz_aload_nN (pc := 25) dX4_freeUnnamed_25 rfl ?_
      refine gz_getr (pc := 26) dX4_freeUnnamed_26 fl_X4_38 rfl rfl rfl (by first | exact gz_B1 | (omega)) ?_
      refine gz_iload_n (pc := 29) dX4_freeUnnamed_29 rfl ?_
      refine gz_zald (pc := 30) dX4_freeUnnamed_30 rfl rfl (by first | exact gz_B1 | (omega)) (by omega) ?_
      rw [h6 p h0 (by omega)]
      refine gz_if_ne (pc := 31) (tgt := 42) dX4_freeUnnamed_31 (by decide) (by omega) (fun h31 => ?_) (fun h31 => ?_)
      · refine gz_iinc (pc := 42) dX4_freeUnnamed_42 rfl rfl rfl rfl ?_
        refine gz_goto (pc := 45) (tgt := 8) dX4_freeUnnamed_45 (by decide) ?_
        first
          | (have hyes : 0 < I0 (13, 0, 0) p ∧ ¬ (gz_kn I0 (I0 (0, 0, 0) 7) p) := ⟨by omega, fun e => by rw [gz_b1 e] at h31; exact absurd h31 (by decide)⟩
             refine ih (p + 1) (by omega) (by omega) _ _ (by omega) ?_ c1 c2 (fun q hq => ?_) (fun q hq => ?_) (fun q q1 q2 q3 q4 => by rw [c6 q q1 q2 q3]; exact hI q q1 q2 q3 q4) (fun q a1 a2 => by rw [c6 _ (gz_nb rfl) (gz_nb rfl) (gz_nb rfl)]; exact h6 q a1 a2)
             · rw [show (p + 1).toNat = p.toNat + 1 by omega, gz_sm_s, Int.toNat_of_nonneg h0, gz_b1 hyes, ← hn]
             · by_cases z : q = p
               · rw [c4, if_pos z]
                 exact ⟨rfl, fun a a1 a2 => by rw [c5 a a1 a2, if_pos z]⟩
               · have h9 := hz q ⟨⟨hq.1.1, by omega⟩, hq.2⟩
                 rw [c4, if_neg z]
                 exact ⟨h9.1, fun a a1 a2 => by rw [c5 a a1 a2, if_neg z]; exact h9.2 a a1 a2⟩
             · have z : ¬ q = p := fun e => hq ⟨⟨by omega, by omega⟩, by rw [e]; exact hyes⟩
               have h9 := hk q (fun e => hq ⟨⟨e.1.1, by omega⟩, e.2⟩)
               rw [c4, if_neg z]
               exact ⟨h9.1, fun a a1 a2 => by rw [c5 a a1 a2, if_neg z]; exact h9.2 a a1 a2⟩)
          | (have hnot : ¬ (0 < I0 (13, 0, 0) p ∧ ¬ (gz_kn I0 (I0 (0, 0, 0) 7) p)) := fun e => by rw [gz_b0 e.2] at h31; exact h31 rfl
             refine ih (p + 1) (by omega) (by omega) _ _ (by omega) ?_ hTI hEI (fun q hq => hz q ⟨⟨hq.1.1, ?_⟩, hq.2⟩) (fun q hq => hk q (fun e => hq ⟨⟨e.1.1, by omega⟩, e.2⟩)) hI h6
             · rw [show (p + 1).toNat = p.toNat + 1 by omega, gz_sm_s, Int.toNat_of_nonneg h0, gz_b0 hnot, ← hn]
               omega
             · have : q ≠ p := fun e => hnot (by rw [← e]; exact hq.2)
               omega)
          | (have hnot : ¬ (0 < I0 (13, 0, 0) p ∧ ¬ (gz_kn I0 (I0 (0, 0, 0) 7) p)) := fun e => by have := e.1; omega
             refine ih (p + 1) (by omega) (by omega) _ _ (by omega) ?_ hTI hEI (fun q hq => hz q ⟨⟨hq.1.1, ?_⟩, hq.2⟩) (fun q hq => hk q (fun e => hq ⟨⟨e.1.1, by omega⟩, e.2⟩)) hI h6
             · rw [show (p + 1).toNat = p.toNat + 1 by omega, gz_sm_s, Int.toNat_of_nonneg h0, gz_b0 hnot, ← hn]
               omega
             · have : q ≠ p := fun e => hnot (by rw [← e]; exact hq.2)
               omega)
      · first | refine gz_aload_n (pc := 34) dX4_freeUnnamed_34 rfl ?_ | refine gz_aload_nN (pc := 34) dX4_freeUnnamed_34 rfl ?_
        refine gz_iload_n (pc := 35) dX4_freeUnnamed_35 rfl ?_
        refine gz_cV1v (pc := 36) dX4_freeUnnamed_36 wm_X4_264 my_X4_freePart rfl rfl rfl (by first | exact gz_B1 | (omega)) (ct_X4_freePart l D α cA hTI hEI (by omega) (by rw [hp13]; omega)) (fun I36 h36 => ?_)
        obtain ⟨c1, c2, c3, c4, c5, c6⟩ := h36
        refine gz_iinc (pc := 39) dX4_freeUnnamed_39 rfl rfl rfl rfl ?_
        refine gz_iinc (pc := 42) dX4_freeUnnamed_42 rfl rfl rfl rfl ?_
        refine gz_goto (pc := 45) (tgt := 8) dX4_freeUnnamed_45 (by decide) ?_
        first
          | (have hyes : 0 < I0 (13, 0, 0) p ∧ ¬ (gz_kn I0 (I0 (0, 0, 0) 7) p) := ⟨by omega, fun e => by rw [gz_b1 e] at h31; exact absurd h31 (by decide)⟩
             refine ih (p + 1) (by omega) (by omega) _ _ (by omega) ?_ c1 c2 (fun q hq => ?_) (fun q hq => ?_) (fun q q1 q2 q3 q4 => by rw [c6 q q1 q2 q3]; exact hI q q1 q2 q3 q4) (fun q a1 a2 => by rw [c6 _ (gz_nb rfl) (gz_nb rfl) (gz_nb rfl)]; exact h6 q a1 a2)
             · rw [show (p + 1).toNat = p.toNat + 1 by omega, gz_sm_s, Int.toNat_of_nonneg h0, gz_b1 hyes, ← hn]
             · by_cases z : q = p
               · rw [c4, if_pos z]
                 exact ⟨rfl, fun a a1 a2 => by rw [c5 a a1 a2, if_pos z]⟩
               · have h9 := hz q ⟨⟨hq.1.1, by omega⟩, hq.2⟩
                 rw [c4, if_neg z]
                 exact ⟨h9.1, fun a a1 a2 => by rw [c5 a a1 a2, if_neg z]; exact h9.2 a a1 a2⟩
             · have z : ¬ q = p := fun e => hq ⟨⟨by omega, by omega⟩, by rw [e]; exact hyes⟩
               have h9 := hk q (fun e => hq ⟨⟨e.1.1, by omega⟩, e.2⟩)
               rw [c4, if_neg z]
               exact ⟨h9.1, fun a a1 a2 => by rw [c5 a a1 a2, if_neg z]; exact h9.2 a a1 a2⟩)
          | (have hnot : ¬ (0 < I0 (13, 0, 0) p ∧ ¬ (gz_kn I0 (I0 (0, 0, 0) 7) p)) := fun e => by rw [gz_b0 e.2] at h31; exact h31 rfl
             refine ih (p + 1) (by omega) (by omega) _ _ (by omega) ?_ hTI hEI (fun q hq => hz q ⟨⟨hq.1.1, ?_⟩, hq.2⟩) (fun q hq => hk q (fun e => hq ⟨⟨e.1.1, by omega⟩, e.2⟩)) hI h6
             · rw [show (p + 1).toNat = p.toNat + 1 by omega, gz_sm_s, Int.toNat_of_nonneg h0, gz_b0 hnot, ← hn]
               omega
             · have : q ≠ p := fun e => hnot (by rw [← e]; exact hq.2)
               omega)
          | (have hnot : ¬ (0 < I0 (13, 0, 0) p ∧ ¬ (gz_kn I0 (I0 (0, 0, 0) 7) p)) := fun e => by have := e.1; omega
             refine ih (p + 1) (by omega) (by omega) _ _ (by omega) ?_ hTI hEI (fun q hq => hz q ⟨⟨hq.1.1, ?_⟩, hq.2⟩) (fun q hq => hk q (fun e => hq ⟨⟨e.1.1, by omega⟩, e.2⟩)) hI h6
             · rw [show (p + 1).toNat = p.toNat + 1 by omega, gz_sm_s, Int.toNat_of_nonneg h0, gz_b0 hnot, ← hn]
               omega
             · have : q ≠ p := fun e => hnot (by rw [← e]; exact hq.2)
               omega)
set_option maxHeartbeats 4000000 in
set_option maxRecDepth 100000 in
theorem ct_X4_freeUnnamed (l : Launch) (D : va_G) (α : gz_P → Nat) (cA : Nat → ClassId) {I0 : gz_M} (hT0 : gz_T I0) (hE : gz_E I0) : gz_V l D α cA RX4 cX4_freeUnnamed (some .int) 3 2 (gz_Qi fun x I' => x = gz_sm (fun p => gz_b (0 < I0 (13, 0, 0) p ∧ ¬ (gz_kn I0 (I0 (0, 0, 0) 7) p))) 120 ∧ gz_T I' ∧ gz_E I' ∧ gz_aX I' = gz_flt (fun p => (gz_kn I0 (I0 (0, 0, 0) 7) p)) (gz_aX I0) ∧ (∀ p, 0 ≤ p → p < 120 → I' (13, 0, 0) p = gz_b (0 < I0 (13, 0, 0) p ∧ ¬ (gz_kn I0 (I0 (0, 0, 0) 7) p)) * 0 + (1 - gz_b (0 < I0 (13, 0, 0) p ∧ ¬ (gz_kn I0 (I0 (0, 0, 0) 7) p))) * I0 (13, 0, 0) p) ∧ (∀ a, 0 ≤ a → a < 4 → ∀ p, 0 ≤ p → p < 120 → I' (11, a, 0) p = (1 - gz_b (0 < I0 (13, 0, 0) p ∧ ¬ (gz_kn I0 (I0 (0, 0, 0) 7) p))) * I0 (11, a, 0) p) ∧ (∀ q : gz_P, q.1 ≠ 3 → q.1 ≠ 11 → q.1 ≠ 13 → q.1 ≠ 6 → I' q = I0 q)) I0 [some (.ref (α (0, 0, 0))), none, none] [] 0 := by
  first | refine gz_aload_n (pc := 0) dX4_freeUnnamed_0 rfl ?_ | refine gz_aload_nN (pc := 0) dX4_freeUnnamed_0 rfl ?_
  refine gz_cV0v (pc := 1) dX4_freeUnnamed_1 wm_X4_261 my_X4_nameKeptParts rfl rfl rfl (by first | exact gz_B1 | (omega)) (ct_X4_nameKeptParts l D α cA hT0) (fun I1 h1 => ?_)
  obtain ⟨c1, c2, c3⟩ := h1
  refine gz_iconst (pc := 4) dX4_freeUnnamed_4 ?_
  refine gz_istore_n (pc := 5) dX4_freeUnnamed_5 rfl rfl rfl ?_
  refine gz_iconst (pc := 6) dX4_freeUnnamed_6 ?_
  refine gz_istore_n (pc := 7) dX4_freeUnnamed_7 rfl rfl rfl ?_
  have ha : gz_aX I1 = gz_aX I0 := by
    funext c p i
    unfold gz_aX
    rw [c2 _ (gz_ne rfl), c2 _ (gz_ne rfl), c2 _ (gz_ne rfl), c2 _ (gz_ne rfl)]
  refine lp_X4_freeUnnamed l D α cA hT0 0 (by omega) 0 I1 (by omega) rfl c1 ?_ (fun q hq => by omega) (fun q _ => ⟨by rw [c2 _ (gz_ne rfl)], fun a _ _ => by rw [c2 _ (gz_ne rfl)]⟩) (fun q _ _ _ q4 => c2 q (fun e => q4 (by rw [e]))) c3
  unfold gz_E
  rw [ha, c2 _ (gz_ne rfl)]
  exact hE
