set_option maxHeartbeats 4000000 in
set_option maxRecDepth 100000 in
theorem ct_X0_growUponN (l : Launch) (D : va_G) (α : gz_P → Nat) (cA : Nat → ClassId) {I : gz_M} (hT : gz_T I) {k : Int} (hk : 0 ≤ k ∧ k < 12) : gz_V l D α cA RX0 cX0_growUpon none 3 1 (gz_Qv fun I' => I' = gz_up I (16, k, 0) 6 (gz_sm (fun t => I (19, k, 0) t) (I (16, k, 0) 5).toNat)) I [some (.ref (α (16, k, 0))), some .null, none] [] 0 := by
  first | refine gz_aload_n (pc := 0) dX0_growUpon_0 rfl ?_ | refine gz_aload_nN (pc := 0) dX0_growUpon_0 rfl ?_
  first | refine gz_aload_n (pc := 1) dX0_growUpon_1 rfl ?_ | refine gz_aload_nN (pc := 1) dX0_growUpon_1 rfl ?_
  refine gz_cV0i (pc := 2) dX0_growUpon_2 wm_X0_43 my_X0_partCount rfl rfl rfl (by first | exact gz_B1 | (omega)) (ct_X0_partCount l D α cA hT hk) (fun x2 I2 h2 => ?_)
  obtain ⟨rfl, rfl⟩ := h2
  refine gz_putI (pc := 5) 6 dX0_growUpon_5 fw_X0_34 rfl rfl rfl rfl (by first | exact gz_B1 | (omega)) (Or.inl rfl) ?_
  first | refine gz_aload_n (pc := 8) dX0_growUpon_8 rfl ?_ | refine gz_aload_nN (pc := 8) dX0_growUpon_8 rfl ?_
  refine gz_ifnonnullN (pc := 9) dX0_growUpon_9 ?_
  refine gz_vret (pc := 12) dX0_growUpon_12 rfl ?_
  rfl
theorem gz_up_up2 {I : gz_M} {p : gz_P} {i v w : Int} : gz_up (gz_up I p i v) p i w = gz_up I p i w := by
  funext q k
  unfold gz_up
  by_cases h : q = p ∧ k = i
  · simp only [if_pos h]
  · simp only [if_neg h]
theorem gz_up_cm {I : gz_M} {p : gz_P} {i j v w : Int} (h : i ≠ j) : gz_up (gz_up I p i v) p j w = gz_up (gz_up I p j w) p i v := by
  funext q k
  unfold gz_up
  by_cases h1 : q = p ∧ k = i
  · have h2 : ¬ (q = p ∧ k = j) := fun e => h (h1.2.symm.trans e.2)
    simp only [if_pos h1, if_neg h2]
  · simp only [if_neg h1]
set_option maxHeartbeats 4000000 in
set_option maxRecDepth 100000 in
theorem lp_X0_growUpon (l : Launch) (D : va_G) (α : gz_P → Nat) (cA : Nat → ClassId) {I : gz_M} (hT : gz_T I) {k k' : Int} (hk : 0 ≤ k ∧ k < 12) (hk' : 0 ≤ k' ∧ k' < 12) : ∀ t, t ≤ (if I (16, k', 0) 5 < I (16, k, 0) 5 then I (16, k', 0) 5 else I (16, k, 0) 5) → 0 ≤ t → ∀ v, v = gz_sm (fun t => I (19, k, 0) t) (I (16, k, 0) 5).toNat - gz_sm (fun t => gz_sh (I (18, k, t)) (I (19, k, 0) t) (I (18, k', t)) (I (19, k', 0) t)) t.toNat → gz_V l D α cA RX0 cX0_growUpon none 3 2 (gz_Qv fun I' => I' = (gz_up (gz_up I (16, k, 0) 4 (I (16, k', 0) 2)) (16, k, 0) 6 (gz_sm (fun t => I (19, k, 0) t) (I (16, k, 0) 5).toNat - gz_sm (fun t => gz_sh (I (18, k, t)) (I (19, k, 0) t) (I (18, k', t)) (I (19, k', 0) t)) (if I (16, k', 0) 5 < I (16, k, 0) 5 then I (16, k', 0) 5 else I (16, k, 0) 5).toNat))) (gz_up (gz_up I (16, k, 0) 4 (I (16, k', 0) 2)) (16, k, 0) 6 (v)) [some (.ref (α (16, k, 0))), some (.ref (α (16, k', 0))), some (gz_i (t))] [] 23 := by
  have e1 := gz_tm5 hT k 0
  have e2 := gz_tm5 hT k' 0
  have e3 : 0 ≤ (if I (16, k', 0) 5 < I (16, k, 0) 5 then I (16, k', 0) 5 else I (16, k, 0) 5) ∧ (if I (16, k', 0) 5 < I (16, k, 0) 5 then I (16, k', 0) 5 else I (16, k, 0) 5) ≤ I (16, k, 0) 5 ∧ (if I (16, k', 0) 5 < I (16, k, 0) 5 then I (16, k', 0) 5 else I (16, k, 0) 5) ≤ I (16, k', 0) 5 ∧ ((if I (16, k', 0) 5 < I (16, k, 0) 5 then I (16, k', 0) 5 else I (16, k, 0) 5) = I (16, k, 0) 5 ∨ (if I (16, k', 0) 5 < I (16, k, 0) 5 then I (16, k', 0) 5 else I (16, k, 0) 5) = I (16, k', 0) 5) := by split <;> omega
  refine gz_upto _ ?_
  intro t ht ih h0 v hv
  have r5 : ∀ x, (gz_up (gz_up I (16, k, 0) 4 (I (16, k', 0) 2)) (16, k, 0) 6 (v)) (16, x, 0) 5 = I (16, x, 0) 5 := fun x => by simp (decide := true) only [gz_up_r, gz_up_s, gz_up_k, and_false, if_false, and_true, reduceIte]
  have r6 : (gz_up (gz_up I (16, k, 0) 4 (I (16, k', 0) 2)) (16, k, 0) 6 (v)) (16, k, 0) 6 = v := by simp (decide := true) only [gz_up_r, gz_up_s, gz_up_k, and_false, if_false, and_true, reduceIte]
  have r18 : ∀ x y, (gz_up (gz_up I (16, k, 0) 4 (I (16, k', 0) 2)) (16, k, 0) 6 (v)) (18, x, y) = I (18, x, y) := fun x y => by rw [gz_up_ne (gz_ne rfl), gz_up_ne (gz_ne rfl)]
  have r19 : ∀ x, (gz_up (gz_up I (16, k, 0) 4 (I (16, k', 0) 2)) (16, k, 0) 6 (v)) (19, x, 0) = I (19, x, 0) := fun x => by rw [gz_up_ne (gz_ne rfl), gz_up_ne (gz_ne rfl)]
  have e4 := gz_sm_in (f := (fun t => gz_sh (I (18, k, t)) (I (19, k, 0) t) (I (18, k', t)) (I (19, k', 0) t))) (lo := 0) (hi := 75) (fun i => by have a1 := gz_t19 hT k 0 i; have a2 := gz_t19 hT k' 0 i; have a3 := gz_sh_in (f := I (18, k, i)) (g := I (18, k', i)) a1.1 a2.1; exact ⟨a3.1, by omega⟩) t.toNat
  have e5 := gz_sm_in (f := fun t => I (19, k, 0) t) (lo := 0) (hi := 75) (fun i => gz_t19 hT k 0 i) (I (16, k, 0) 5).toNat
  have hT2 : gz_T (gz_up (gz_up I (16, k, 0) 4 (I (16, k', 0) 2)) (16, k, 0) 6 (v)) := gz_Tu16_6 (gz_Tu16_4 hT (gz_tm2 hT k' 0)) (by omega)
  refine gz_iload_n (pc := 23) dX0_growUpon_23 rfl ?_
  first | refine gz_aload_n (pc := 24) dX0_growUpon_24 rfl ?_ | refine gz_aload_nN (pc := 24) dX0_growUpon_24 rfl ?_
  refine gz_getI (pc := 25) 5 dX0_growUpon_25 fl_X0_31 rfl rfl rfl rfl (by first | exact gz_B1 | (omega)) ?_
  rw [r5]
  refine gz_icmp_ge (pc := 28) (tgt := 60) dX0_growUpon_28 (by decide) (by omega) (by omega) (fun h28 => ?_) (fun h28 => ?_)
  · refine gz_vret (pc := 60) dX0_growUpon_60 rfl ?_
    rw [hv, show (if I (16, k', 0) 5 < I (16, k, 0) 5 then I (16, k', 0) 5 else I (16, k, 0) 5) = t by omega]
  · refine gz_iload_n (pc := 31) dX0_growUpon_31 rfl ?_
    first | refine gz_aload_n (pc := 32) dX0_growUpon_32 rfl ?_ | refine gz_aload_nN (pc := 32) dX0_growUpon_32 rfl ?_
    refine gz_getI (pc := 33) 5 dX0_growUpon_33 fl_X0_31 rfl rfl rfl rfl (by first | exact gz_B1 | (omega)) ?_
    rw [r5]
    refine gz_icmp_ge (pc := 36) (tgt := 60) dX0_growUpon_36 (by decide) (by omega) (by omega) (fun h36 => ?_) (fun h36 => ?_)
    · refine gz_vret (pc := 60) dX0_growUpon_60 rfl ?_
      rw [hv, show (if I (16, k', 0) 5 < I (16, k, 0) 5 then I (16, k', 0) 5 else I (16, k, 0) 5) = t by omega]
    · first | refine gz_aload_n (pc := 39) dX0_growUpon_39 rfl ?_ | refine gz_aload_nN (pc := 39) dX0_growUpon_39 rfl ?_
      refine gz_dup (pc := 40) dX0_growUpon_40 rfl ?_
      refine gz_getI (pc := 41) 6 dX0_growUpon_41 fl_X0_34 rfl rfl rfl rfl (by first | exact gz_B1 | (omega)) ?_
      rw [r6]
      first | refine gz_aload_n (pc := 44) dX0_growUpon_44 rfl ?_ | refine gz_aload_nN (pc := 44) dX0_growUpon_44 rfl ?_
      first | refine gz_aload_n (pc := 45) dX0_growUpon_45 rfl ?_ | refine gz_aload_nN (pc := 45) dX0_growUpon_45 rfl ?_
      refine gz_iload_n (pc := 46) dX0_growUpon_46 rfl ?_
      refine gz_cV2i (pc := 47) dX0_growUpon_47 wm_X0_47 my_X0_sharedParts rfl rfl rfl (by first | exact gz_B1 | (omega)) (ct_X0_sharedParts l D α cA hT2 hk hk' (by omega)) (fun x47 I47 h47 => ?_)
      obtain ⟨rfl, rfl⟩ := h47
      refine gz_isub (pc := 50) dX0_growUpon_50 ?_
      refine gz_putI (pc := 51) 6 dX0_growUpon_51 fw_X0_34 rfl rfl rfl rfl (by first | exact gz_B1 | (omega)) (Or.inl rfl) ?_
      refine gz_iinc (pc := 54) dX0_growUpon_54 rfl rfl rfl rfl ?_
      refine gz_goto (pc := 57) (tgt := 23) dX0_growUpon_57 (by decide) ?_
      rw [r18, r18, r19, r19, gz_up_up2]
      refine ih (t + 1) (by omega) (by omega) (by omega) _ ?_
      rw [show (t + 1).toNat = t.toNat + 1 by omega, gz_sm_s, Int.toNat_of_nonneg h0]
      omega
set_option maxHeartbeats 4000000 in
set_option maxRecDepth 100000 in
theorem ct_X0_growUpon (l : Launch) (D : va_G) (α : gz_P → Nat) (cA : Nat → ClassId) {I : gz_M} (hT : gz_T I) {k k' : Int} (hk : 0 ≤ k ∧ k < 12) (hk' : 0 ≤ k' ∧ k' < 12) : gz_V l D α cA RX0 cX0_growUpon none 3 2 (gz_Qv fun I' => I' = (gz_up (gz_up I (16, k, 0) 4 (I (16, k', 0) 2)) (16, k, 0) 6 (gz_sm (fun t => I (19, k, 0) t) (I (16, k, 0) 5).toNat - gz_sm (fun t => gz_sh (I (18, k, t)) (I (19, k, 0) t) (I (18, k', t)) (I (19, k', 0) t)) (if I (16, k', 0) 5 < I (16, k, 0) 5 then I (16, k', 0) 5 else I (16, k, 0) 5).toNat))) I [some (.ref (α (16, k, 0))), some (.ref (α (16, k', 0))), none] [] 0 := by
  first | refine gz_aload_n (pc := 0) dX0_growUpon_0 rfl ?_ | refine gz_aload_nN (pc := 0) dX0_growUpon_0 rfl ?_
  first | refine gz_aload_n (pc := 1) dX0_growUpon_1 rfl ?_ | refine gz_aload_nN (pc := 1) dX0_growUpon_1 rfl ?_
  refine gz_cV0i (pc := 2) dX0_growUpon_2 wm_X0_43 my_X0_partCount rfl rfl rfl (by first | exact gz_B1 | (omega)) (ct_X0_partCount l D α cA hT hk) (fun x2 I2 h2 => ?_)
  obtain ⟨rfl, rfl⟩ := h2
  refine gz_putI (pc := 5) 6 dX0_growUpon_5 fw_X0_34 rfl rfl rfl rfl (by first | exact gz_B1 | (omega)) (Or.inl rfl) ?_
  first | refine gz_aload_n (pc := 8) dX0_growUpon_8 rfl ?_ | refine gz_aload_nN (pc := 8) dX0_growUpon_8 rfl ?_
  refine gz_ifnonnull (pc := 9) (tgt := 13) dX0_growUpon_9 (by decide) ?_
  first | refine gz_aload_n (pc := 13) dX0_growUpon_13 rfl ?_ | refine gz_aload_nN (pc := 13) dX0_growUpon_13 rfl ?_
  first | refine gz_aload_n (pc := 14) dX0_growUpon_14 rfl ?_ | refine gz_aload_nN (pc := 14) dX0_growUpon_14 rfl ?_
  refine gz_getI (pc := 15) 2 dX0_growUpon_15 fl_X0_20 rfl rfl rfl rfl (by first | exact gz_B1 | (omega)) ?_
  rw [show gz_up I (16, k, 0) 6 (gz_sm (fun t => I (19, k, 0) t) (I (16, k, 0) 5).toNat) (16, k', 0) 2 = I (16, k', 0) 2 by simp (decide := true) only [gz_up_r, gz_up_s, gz_up_k, and_false, if_false, and_true, reduceIte]]
  refine gz_putI (pc := 18) 4 dX0_growUpon_18 fw_X0_28 rfl rfl rfl rfl (by first | exact gz_B1 | (omega)) (Or.inl rfl) ?_
  refine gz_iconst (pc := 21) dX0_growUpon_21 ?_
  refine gz_istore_n (pc := 22) dX0_growUpon_22 rfl rfl rfl ?_
  have e1 := gz_tm5 hT k 0
  have e2 := gz_tm5 hT k' 0
  have e3 : 0 ≤ (if I (16, k', 0) 5 < I (16, k, 0) 5 then I (16, k', 0) 5 else I (16, k, 0) 5) ∧ (if I (16, k', 0) 5 < I (16, k, 0) 5 then I (16, k', 0) 5 else I (16, k, 0) 5) ≤ I (16, k, 0) 5 ∧ (if I (16, k', 0) 5 < I (16, k, 0) 5 then I (16, k', 0) 5 else I (16, k, 0) 5) ≤ I (16, k', 0) 5 ∧ ((if I (16, k', 0) 5 < I (16, k, 0) 5 then I (16, k', 0) 5 else I (16, k, 0) 5) = I (16, k, 0) 5 ∨ (if I (16, k', 0) 5 < I (16, k, 0) 5 then I (16, k', 0) 5 else I (16, k, 0) 5) = I (16, k', 0) 5) := by split <;> omega
  have e9 : gz_up (gz_up I (16, k, 0) 6 (gz_sm (fun t => I (19, k, 0) t) (I (16, k, 0) 5).toNat)) (16, k, 0) 4 (I (16, k', 0) 2) = (gz_up (gz_up I (16, k, 0) 4 (I (16, k', 0) 2)) (16, k, 0) 6 (gz_sm (fun t => I (19, k, 0) t) (I (16, k, 0) 5).toNat)) := gz_up_cm (by decide)
  rw [e9]
  exact lp_X0_growUpon l D α cA hT hk hk' 0 (by omega) (by omega) _ (Int.sub_zero _).symm
set_option maxHeartbeats 4000000 in
set_option maxRecDepth 100000 in
theorem lp_X0_hasAlikeList (l : Launch) (D : va_G) (α : gz_P → Nat) (cA : Nat → ClassId) {I : gz_M} (hT : gz_T I) {k k' : Int} (hk : 0 ≤ k ∧ k < 12) (hk' : 0 ≤ k' ∧ k' < 12) {t : Int} (ht : 0 ≤ t ∧ t < 4) : I (19, k, 0) t = I (19, k', 0) t → ∀ i, i ≤ I (19, k, 0) t → 0 ≤ i → (∀ j, 0 ≤ j → j < i → I (18, k, t) j = I (18, k', t) j) → gz_V l D α cA RX0 cX0_hasAlikeList (some .boolean) 4 0 (gz_Qi fun x I' => I = I' ∧ (x = 1 ∧ (I (19, k, 0) t = I (19, k', 0) t ∧ ∀ j, 0 ≤ j → j < I (19, k, 0) t → I (18, k, t) j = I (18, k', t) j) ∨ x = 0 ∧ ¬ (I (19, k, 0) t = I (19, k', 0) t ∧ ∀ j, 0 ≤ j → j < I (19, k, 0) t → I (18, k, t) j = I (18, k', t) j))) I [some (.ref (α (16, k, 0))), some (.ref (α (16, k', 0))), some (gz_i (t)), some (gz_i (i))] [] 19 := by
  intro hn
  have e1 := gz_t19 hT k 0 t
  refine gz_upto _ ?_
  intro i hi ih h0 hj
  have e5 := gz_t18 hT k t i
  have e6 := gz_t18 hT k' t i
  refine gz_iload_n (pc := 19) dX0_hasAlikeList_19 rfl ?_
  first | refine gz_aload_n (pc := 20) dX0_hasAlikeList_20 rfl ?_ | refine gz_aload_nN (pc := 20) dX0_hasAlikeList_20 rfl ?_
  refine gz_getr (pc := 21) dX0_hasAlikeList_21 fl_X0_16 rfl rfl rfl (by first | exact gz_B1 | (omega)) ?_
  refine gz_iload_n (pc := 24) dX0_hasAlikeList_24 rfl ?_
  refine gz_iald (pc := 25) dX0_hasAlikeList_25 rfl rfl (by first | exact gz_B1 | (omega)) (by omega) ?_
  refine gz_icmp_ge (pc := 26) (tgt := 56) dX0_hasAlikeList_26 (by decide) (by omega) (by omega) (fun h26 => ?_) (fun h26 => ?_)
  · refine gz_iconst (pc := 56) dX0_hasAlikeList_56 ?_
    refine gz_zret (pc := 57) dX0_hasAlikeList_57 rfl (by first | exact Or.inl rfl | exact Or.inr rfl | omega) ?_
    exact ⟨rfl, Or.inl ⟨rfl, hn, fun j a1 a2 => hj j a1 (by omega)⟩⟩
  · first | refine gz_aload_n (pc := 29) dX0_hasAlikeList_29 rfl ?_ | refine gz_aload_nN (pc := 29) dX0_hasAlikeList_29 rfl ?_
    refine gz_getr (pc := 30) dX0_hasAlikeList_30 fl_X0_11 rfl rfl rfl (by first | exact gz_B1 | (omega)) ?_
    refine gz_iload_n (pc := 33) dX0_hasAlikeList_33 rfl ?_
    first | refine gz_ald1 (pc := 34) dX0_hasAlikeList_34 (by omega) ?_ | refine gz_ald2 (pc := 34) dX0_hasAlikeList_34 (by omega) ?_ | refine gz_ald4 (pc := 34) dX0_hasAlikeList_34 (by omega) ?_ | refine gz_ald17 (pc := 34) dX0_hasAlikeList_34 (by first | exact gz_B1 | (omega)) (by omega) ?_
    refine gz_iload_n (pc := 35) dX0_hasAlikeList_35 rfl ?_
    refine gz_iald (pc := 36) dX0_hasAlikeList_36 rfl rfl (by first | exact gz_B1 | (omega)) (by omega) ?_
    first | refine gz_aload_n (pc := 37) dX0_hasAlikeList_37 rfl ?_ | refine gz_aload_nN (pc := 37) dX0_hasAlikeList_37 rfl ?_
    refine gz_getr (pc := 38) dX0_hasAlikeList_38 fl_X0_11 rfl rfl rfl (by first | exact gz_B1 | (omega)) ?_
    refine gz_iload_n (pc := 41) dX0_hasAlikeList_41 rfl ?_
    first | refine gz_ald1 (pc := 42) dX0_hasAlikeList_42 (by omega) ?_ | refine gz_ald2 (pc := 42) dX0_hasAlikeList_42 (by omega) ?_ | refine gz_ald4 (pc := 42) dX0_hasAlikeList_42 (by omega) ?_ | refine gz_ald17 (pc := 42) dX0_hasAlikeList_42 (by first | exact gz_B1 | (omega)) (by omega) ?_
    refine gz_iload_n (pc := 43) dX0_hasAlikeList_43 rfl ?_
    refine gz_iald (pc := 44) dX0_hasAlikeList_44 rfl rfl (by first | exact gz_B1 | (omega)) (by omega) ?_
    refine gz_icmp_eq (pc := 45) (tgt := 50) dX0_hasAlikeList_45 (by decide) (by omega) (by omega) (fun h45 => ?_) (fun h45 => ?_)
    · refine gz_iinc (pc := 50) dX0_hasAlikeList_50 rfl rfl rfl rfl ?_
      refine gz_goto (pc := 53) (tgt := 19) dX0_hasAlikeList_53 (by decide) ?_
      refine ih (i + 1) (by omega) (by omega) (by omega) (fun j a1 a2 => ?_)
      by_cases q : j = i
      · rw [q]; exact h45
      · exact hj j a1 (by omega)
    · refine gz_iconst (pc := 48) dX0_hasAlikeList_48 ?_
      refine gz_zret (pc := 49) dX0_hasAlikeList_49 rfl (by first | exact Or.inl rfl | exact Or.inr rfl | omega) ?_
      exact ⟨rfl, Or.inr ⟨rfl, fun q => h45 (q.2 i h0 (by omega))⟩⟩
set_option maxHeartbeats 4000000 in
set_option maxRecDepth 100000 in
theorem ct_X0_hasAlikeList (l : Launch) (D : va_G) (α : gz_P → Nat) (cA : Nat → ClassId) {I : gz_M} (hT : gz_T I) {k k' : Int} (hk : 0 ≤ k ∧ k < 12) (hk' : 0 ≤ k' ∧ k' < 12) {t : Int} (ht : 0 ≤ t ∧ t < 4) : gz_V l D α cA RX0 cX0_hasAlikeList (some .boolean) 4 0 (gz_Qi fun x I' => I = I' ∧ (x = 1 ∧ (I (19, k, 0) t = I (19, k', 0) t ∧ ∀ j, 0 ≤ j → j < I (19, k, 0) t → I (18, k, t) j = I (18, k', t) j) ∨ x = 0 ∧ ¬ (I (19, k, 0) t = I (19, k', 0) t ∧ ∀ j, 0 ≤ j → j < I (19, k, 0) t → I (18, k, t) j = I (18, k', t) j))) I [some (.ref (α (16, k, 0))), some (.ref (α (16, k', 0))), some (gz_i (t)), none] [] 0 := by
  have e1 := gz_t19 hT k 0 t
  have e2 := gz_t19 hT k' 0 t
  first | refine gz_aload_n (pc := 0) dX0_hasAlikeList_0 rfl ?_ | refine gz_aload_nN (pc := 0) dX0_hasAlikeList_0 rfl ?_
  refine gz_getr (pc := 1) dX0_hasAlikeList_1 fl_X0_16 rfl rfl rfl (by first | exact gz_B1 | (omega)) ?_
  refine gz_iload_n (pc := 4) dX0_hasAlikeList_4 rfl ?_
  refine gz_iald (pc := 5) dX0_hasAlikeList_5 rfl rfl (by first | exact gz_B1 | (omega)) (by omega) ?_
  first | refine gz_aload_n (pc := 6) dX0_hasAlikeList_6 rfl ?_ | refine gz_aload_nN (pc := 6) dX0_hasAlikeList_6 rfl ?_
  refine gz_getr (pc := 7) dX0_hasAlikeList_7 fl_X0_16 rfl rfl rfl (by first | exact gz_B1 | (omega)) ?_
  refine gz_iload_n (pc := 10) dX0_hasAlikeList_10 rfl ?_
  refine gz_iald (pc := 11) dX0_hasAlikeList_11 rfl rfl (by first | exact gz_B1 | (omega)) (by omega) ?_
  refine gz_icmp_eq (pc := 12) (tgt := 17) dX0_hasAlikeList_12 (by decide) (by omega) (by omega) (fun h12 => ?_) (fun h12 => ?_)
  · refine gz_iconst (pc := 17) dX0_hasAlikeList_17 ?_
    refine gz_istore_n (pc := 18) dX0_hasAlikeList_18 rfl rfl rfl ?_
    exact lp_X0_hasAlikeList l D α cA hT hk hk' ht h12 0 (by omega) (by omega) (fun j a1 a2 => by omega)
  · refine gz_iconst (pc := 15) dX0_hasAlikeList_15 ?_
    refine gz_zret (pc := 16) dX0_hasAlikeList_16 rfl (by first | exact Or.inl rfl | exact Or.inr rfl | omega) ?_
    exact ⟨rfl, Or.inr ⟨rfl, fun q => h12 q.1⟩⟩
set_option maxHeartbeats 4000000 in
set_option maxRecDepth 100000 in
theorem lp_X0_isAlike (l : Launch) (D : va_G) (α : gz_P → Nat) (cA : Nat → ClassId) {I : gz_M} (hT : gz_T I) {k k' : Int} (hk : 0 ≤ k ∧ k < 12) (hk' : 0 ≤ k' ∧ k' < 12) : I (16, k, 0) 5 = I (16, k', 0) 5 → ∀ i, i ≤ I (16, k, 0) 5 → 0 ≤ i → (∀ t, 0 ≤ t → t < i → (I (19, k, 0) t = I (19, k', 0) t ∧ ∀ j, 0 ≤ j → j < I (19, k, 0) t → I (18, k, t) j = I (18, k', t) j)) → gz_V l D α cA RX0 cX0_isAlike (some .boolean) 3 1 (gz_Qi fun x I' => I = I' ∧ (x = 1 ∧ (I (16, k, 0) 5 = I (16, k', 0) 5 ∧ ∀ t, 0 ≤ t → t < I (16, k, 0) 5 → (I (19, k, 0) t = I (19, k', 0) t ∧ ∀ j, 0 ≤ j → j < I (19, k, 0) t → I (18, k, t) j = I (18, k', t) j)) ∨ x = 0 ∧ ¬ (I (16, k, 0) 5 = I (16, k', 0) 5 ∧ ∀ t, 0 ≤ t → t < I (16, k, 0) 5 → (I (19, k, 0) t = I (19, k', 0) t ∧ ∀ j, 0 ≤ j → j < I (19, k, 0) t → I (18, k, t) j = I (18, k', t) j)))) I [some (.ref (α (16, k, 0))), some (.ref (α (16, k', 0))), some (gz_i (i))] [] 15 := by
  intro hn
  have e1 := gz_tm5 hT k 0
  refine gz_upto _ ?_
  intro i hi ih h0 hj
  refine gz_iload_n (pc := 15) dX0_isAlike_15 rfl ?_
  first | refine gz_aload_n (pc := 16) dX0_isAlike_16 rfl ?_ | refine gz_aload_nN (pc := 16) dX0_isAlike_16 rfl ?_
  refine gz_getI (pc := 17) 5 dX0_isAlike_17 fl_X0_31 rfl rfl rfl rfl (by first | exact gz_B1 | (omega)) ?_
  refine gz_icmp_ge (pc := 20) (tgt := 40) dX0_isAlike_20 (by decide) (by omega) (by omega) (fun h20 => ?_) (fun h20 => ?_)
  · refine gz_iconst (pc := 40) dX0_isAlike_40 ?_
    refine gz_zret (pc := 41) dX0_isAlike_41 rfl (by first | exact Or.inl rfl | exact Or.inr rfl | omega) ?_
    exact ⟨rfl, Or.inl ⟨rfl, hn, fun j a1 a2 => hj j a1 (by omega)⟩⟩
  · first | refine gz_aload_n (pc := 23) dX0_isAlike_23 rfl ?_ | refine gz_aload_nN (pc := 23) dX0_isAlike_23 rfl ?_
    first | refine gz_aload_n (pc := 24) dX0_isAlike_24 rfl ?_ | refine gz_aload_nN (pc := 24) dX0_isAlike_24 rfl ?_
    refine gz_iload_n (pc := 25) dX0_isAlike_25 rfl ?_
    refine gz_cV2i (pc := 26) dX0_isAlike_26 wm_X0_57 my_X0_hasAlikeList rfl rfl rfl (by first | exact gz_B1 | (omega)) (ct_X0_hasAlikeList l D α cA hT hk hk' (by omega)) (fun x26 I26 h26 => ?_)
    obtain ⟨rfl, hx26⟩ := h26
    have hxr : 0 ≤ x26 ∧ x26 ≤ 1 := by rcases hx26 with h | h <;> omega
    refine gz_if_ne (pc := 29) (tgt := 34) dX0_isAlike_29 (by decide) (by omega) (fun h29 => ?_) (fun h29 => ?_)
    · refine gz_iinc (pc := 34) dX0_isAlike_34 rfl rfl rfl rfl ?_
      refine gz_goto (pc := 37) (tgt := 15) dX0_isAlike_37 (by decide) ?_
      have hla : (I (19, k, 0) i = I (19, k', 0) i ∧ ∀ j, 0 ≤ j → j < I (19, k, 0) i → I (18, k, i) j = I (18, k', i) j) := by
        rcases hx26 with h | h
        · exact h.2
        · exact absurd h.1 h29
      refine ih (i + 1) (by omega) (by omega) (by omega) (fun j a1 a2 => ?_)
      by_cases q : j = i
      · rw [q]; exact hla
      · exact hj j a1 (by omega)
    · refine gz_iconst (pc := 32) dX0_isAlike_32 ?_
      refine gz_zret (pc := 33) dX0_isAlike_33 rfl (by first | exact Or.inl rfl | exact Or.inr rfl | omega) ?_
      refine ⟨rfl, Or.inr ⟨rfl, fun q => ?_⟩⟩
      rcases hx26 with h | h
      · omega
      · exact h.2 (q.2 i h0 (by omega))
set_option maxHeartbeats 4000000 in
set_option maxRecDepth 100000 in
theorem ct_X0_isAlike (l : Launch) (D : va_G) (α : gz_P → Nat) (cA : Nat → ClassId) {I : gz_M} (hT : gz_T I) {k k' : Int} (hk : 0 ≤ k ∧ k < 12) (hk' : 0 ≤ k' ∧ k' < 12) : gz_V l D α cA RX0 cX0_isAlike (some .boolean) 3 1 (gz_Qi fun x I' => I = I' ∧ (x = 1 ∧ (I (16, k, 0) 5 = I (16, k', 0) 5 ∧ ∀ t, 0 ≤ t → t < I (16, k, 0) 5 → (I (19, k, 0) t = I (19, k', 0) t ∧ ∀ j, 0 ≤ j → j < I (19, k, 0) t → I (18, k, t) j = I (18, k', t) j)) ∨ x = 0 ∧ ¬ (I (16, k, 0) 5 = I (16, k', 0) 5 ∧ ∀ t, 0 ≤ t → t < I (16, k, 0) 5 → (I (19, k, 0) t = I (19, k', 0) t ∧ ∀ j, 0 ≤ j → j < I (19, k, 0) t → I (18, k, t) j = I (18, k', t) j)))) I [some (.ref (α (16, k, 0))), some (.ref (α (16, k', 0))), none] [] 0 := by
  have e1 := gz_tm5 hT k 0
  have e2 := gz_tm5 hT k' 0
  first | refine gz_aload_n (pc := 0) dX0_isAlike_0 rfl ?_ | refine gz_aload_nN (pc := 0) dX0_isAlike_0 rfl ?_
  refine gz_getI (pc := 1) 5 dX0_isAlike_1 fl_X0_31 rfl rfl rfl rfl (by first | exact gz_B1 | (omega)) ?_
  first | refine gz_aload_n (pc := 4) dX0_isAlike_4 rfl ?_ | refine gz_aload_nN (pc := 4) dX0_isAlike_4 rfl ?_
  refine gz_getI (pc := 5) 5 dX0_isAlike_5 fl_X0_31 rfl rfl rfl rfl (by first | exact gz_B1 | (omega)) ?_
  refine gz_icmp_eq (pc := 8) (tgt := 13) dX0_isAlike_8 (by decide) (by omega) (by omega) (fun h8 => ?_) (fun h8 => ?_)
  · refine gz_iconst (pc := 13) dX0_isAlike_13 ?_
    refine gz_istore_n (pc := 14) dX0_isAlike_14 rfl rfl rfl ?_
    exact lp_X0_isAlike l D α cA hT hk hk' h8 0 (by omega) (by omega) (fun j a1 a2 => by omega)
  · refine gz_iconst (pc := 11) dX0_isAlike_11 ?_
    refine gz_zret (pc := 12) dX0_isAlike_12 rfl (by first | exact Or.inl rfl | exact Or.inr rfl | omega) ?_
    exact ⟨rfl, Or.inr ⟨rfl, fun q => h8 q.1⟩⟩
set_option maxHeartbeats 4000000 in
set_option maxRecDepth 100000 in
theorem lp_X0_names2 (l : Launch) (D : va_G) (α : gz_P → Nat) (cA : Nat → ClassId) {I : gz_M} (hT : gz_T I) {k p : Int} (hk : 0 ≤ k ∧ k < 12) (hp : -2147483648 ≤ p ∧ p ≤ 2147483647) : ∀ t, (0 ≤ t ∧ t < I (16, k, 0) 5) → ((∀ j, 0 ≤ j → j < I (19, k, 0) t → ¬ I (18, k, t) j = p) → gz_V l D α cA RX0 cX0_names (some .boolean) 4 0 (gz_Qi fun x I' => I = I' ∧ (x = 1 ∧ (∃ t j, (0 ≤ t ∧ t < I (16, k, 0) 5) ∧ (0 ≤ j ∧ j < I (19, k, 0) t) ∧ I (18, k, t) j = p) ∨ x = 0 ∧ ¬ (∃ t j, (0 ≤ t ∧ t < I (16, k, 0) 5) ∧ (0 ≤ j ∧ j < I (19, k, 0) t) ∧ I (18, k, t) j = p))) I [some (.ref (α (16, k, 0))), some (gz_i (p)), some (gz_i (t + 1)), some (gz_i (I (19, k, 0) t))] [] 2) → ∀ i, i ≤ I (19, k, 0) t → 0 ≤ i → (∀ j, 0 ≤ j → j < i → ¬ I (18, k, t) j = p) → gz_V l D α cA RX0 cX0_names (some .boolean) 4 0 (gz_Qi fun x I' => I = I' ∧ (x = 1 ∧ (∃ t j, (0 ≤ t ∧ t < I (16, k, 0) 5) ∧ (0 ≤ j ∧ j < I (19, k, 0) t) ∧ I (18, k, t) j = p) ∨ x = 0 ∧ ¬ (∃ t j, (0 ≤ t ∧ t < I (16, k, 0) 5) ∧ (0 ≤ j ∧ j < I (19, k, 0) t) ∧ I (18, k, t) j = p))) I [some (.ref (α (16, k, 0))), some (gz_i (p)), some (gz_i (t)), some (gz_i (i))] [] 12 := by
  intro t ht kk
  have e0 := gz_tm5 hT k 0
  have e1 := gz_t19 hT k 0 t
  refine gz_upto _ ?_
  intro i hi ih h0 hj
  have e5 := gz_t18 hT k t i
  refine gz_iload_n (pc := 12) dX0_names_12 rfl ?_
  first | refine gz_aload_n (pc := 13) dX0_names_13 rfl ?_ | refine gz_aload_nN (pc := 13) dX0_names_13 rfl ?_
  refine gz_getr (pc := 14) dX0_names_14 fl_X0_16 rfl rfl rfl (by first | exact gz_B1 | (omega)) ?_
  refine gz_iload_n (pc := 17) dX0_names_17 rfl ?_
  refine gz_iald (pc := 18) dX0_names_18 rfl rfl (by first | exact gz_B1 | (omega)) (by omega) ?_
  refine gz_icmp_ge (pc := 19) (tgt := 42) dX0_names_19 (by decide) (by omega) (by omega) (fun h19 => ?_) (fun h19 => ?_)
  · refine gz_iinc (pc := 42) dX0_names_42 rfl rfl rfl rfl ?_
    refine gz_goto (pc := 45) (tgt := 2) dX0_names_45 (by decide) ?_
    rw [show i = I (19, k, 0) t by omega] at hj ⊢
    exact kk hj
  · first | refine gz_aload_n (pc := 22) dX0_names_22 rfl ?_ | refine gz_aload_nN (pc := 22) dX0_names_22 rfl ?_
    refine gz_getr (pc := 23) dX0_names_23 fl_X0_11 rfl rfl rfl (by first | exact gz_B1 | (omega)) ?_
    refine gz_iload_n (pc := 26) dX0_names_26 rfl ?_
    first | refine gz_ald1 (pc := 27) dX0_names_27 (by omega) ?_ | refine gz_ald2 (pc := 27) dX0_names_27 (by omega) ?_ | refine gz_ald4 (pc := 27) dX0_names_27 (by omega) ?_ | refine gz_ald17 (pc := 27) dX0_names_27 (by first | exact gz_B1 | (omega)) (by omega) ?_
    refine gz_iload_n (pc := 28) dX0_names_28 rfl ?_
    refine gz_iald (pc := 29) dX0_names_29 rfl rfl (by first | exact gz_B1 | (omega)) (by omega) ?_
    refine gz_iload_n (pc := 30) dX0_names_30 rfl ?_
    refine gz_icmp_ne (pc := 31) (tgt := 36) dX0_names_31 (by decide) (by omega) (by omega) (fun h31 => ?_) (fun h31 => ?_)
    · refine gz_iinc (pc := 36) dX0_names_36 rfl rfl rfl rfl ?_
      refine gz_goto (pc := 39) (tgt := 12) dX0_names_39 (by decide) ?_
      refine ih (i + 1) (by omega) (by omega) (by omega) (fun j a1 a2 => ?_)
      by_cases q : j = i
      · rw [q]; exact h31
      · exact hj j a1 (by omega)
    · refine gz_iconst (pc := 34) dX0_names_34 ?_
      refine gz_zret (pc := 35) dX0_names_35 rfl (by first | exact Or.inl rfl | exact Or.inr rfl | omega) ?_
      exact ⟨rfl, Or.inl ⟨rfl, t, i, ht, by omega, h31⟩⟩
set_option maxHeartbeats 4000000 in
set_option maxRecDepth 100000 in
theorem lp_X0_names (l : Launch) (D : va_G) (α : gz_P → Nat) (cA : Nat → ClassId) {I : gz_M} (hT : gz_T I) {k p : Int} (hk : 0 ≤ k ∧ k < 12) (hp : -2147483648 ≤ p ∧ p ≤ 2147483647) : ∀ t, t ≤ I (16, k, 0) 5 → 0 ≤ t → (∀ u, 0 ≤ u → u < t → ∀ j, 0 ≤ j → j < I (19, k, 0) u → ¬ I (18, k, u) j = p) → ∀ o : Option Value, gz_V l D α cA RX0 cX0_names (some .boolean) 4 0 (gz_Qi fun x I' => I = I' ∧ (x = 1 ∧ (∃ t j, (0 ≤ t ∧ t < I (16, k, 0) 5) ∧ (0 ≤ j ∧ j < I (19, k, 0) t) ∧ I (18, k, t) j = p) ∨ x = 0 ∧ ¬ (∃ t j, (0 ≤ t ∧ t < I (16, k, 0) 5) ∧ (0 ≤ j ∧ j < I (19, k, 0) t) ∧ I (18, k, t) j = p))) I [some (.ref (α (16, k, 0))), some (gz_i (p)), some (gz_i (t)), o] [] 2 := by
  have e0 := gz_tm5 hT k 0
  refine gz_upto _ ?_
  intro t ht ih h0 hj o
  refine gz_iload_n (pc := 2) dX0_names_2 rfl ?_
  first | refine gz_aload_n (pc := 3) dX0_names_3 rfl ?_ | refine gz_aload_nN (pc := 3) dX0_names_3 rfl ?_
  refine gz_getI (pc := 4) 5 dX0_names_4 fl_X0_31 rfl rfl rfl rfl (by first | exact gz_B1 | (omega)) ?_
  refine gz_icmp_ge (pc := 7) (tgt := 48) dX0_names_7 (by decide) (by omega) (by omega) (fun h7 => ?_) (fun h7 => ?_)
  · refine gz_iconst (pc := 48) dX0_names_48 ?_
    refine gz_zret (pc := 49) dX0_names_49 rfl (by first | exact Or.inl rfl | exact Or.inr rfl | omega) ?_
    refine ⟨rfl, Or.inr ⟨rfl, ?_⟩⟩
    rintro ⟨u, j, a1, a2, a3⟩
    exact hj u a1.1 (by omega) j a2.1 a2.2 a3
  · refine gz_iconst (pc := 10) dX0_names_10 ?_
    refine gz_istore_n (pc := 11) dX0_names_11 rfl rfl rfl ?_
    refine lp_X0_names2 l D α cA hT hk hp t (by omega) (fun hz => ?_) 0 (by have := gz_t19 hT k 0 t; omega) (by omega) (fun j a1 a2 => by omega)
    exact ih (t + 1) (by omega) (by omega) (by omega) (fun u a1 a2 => by
      by_cases q : u = t
      · rw [q]; exact hz
      · exact hj u a1 (by omega)) _
set_option maxHeartbeats 4000000 in
set_option maxRecDepth 100000 in
theorem ct_X0_names (l : Launch) (D : va_G) (α : gz_P → Nat) (cA : Nat → ClassId) {I : gz_M} (hT : gz_T I) {k p : Int} (hk : 0 ≤ k ∧ k < 12) (hp : -2147483648 ≤ p ∧ p ≤ 2147483647) : gz_V l D α cA RX0 cX0_names (some .boolean) 4 0 (gz_Qi fun x I' => I = I' ∧ (x = 1 ∧ (∃ t j, (0 ≤ t ∧ t < I (16, k, 0) 5) ∧ (0 ≤ j ∧ j < I (19, k, 0) t) ∧ I (18, k, t) j = p) ∨ x = 0 ∧ ¬ (∃ t j, (0 ≤ t ∧ t < I (16, k, 0) 5) ∧ (0 ≤ j ∧ j < I (19, k, 0) t) ∧ I (18, k, t) j = p))) I [some (.ref (α (16, k, 0))), some (gz_i (p)), none, none] [] 0 := by
  refine gz_iconst (pc := 0) dX0_names_0 ?_
  refine gz_istore_n (pc := 1) dX0_names_1 rfl rfl rfl ?_
  exact lp_X0_names l D α cA hT hk hp 0 (by have := gz_tm5 hT k 0; omega) (by omega) (fun u a1 a2 => by omega) _
