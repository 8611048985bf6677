/-- the state of task t in the reference -/
def gz_fm (I : gz_M) (t : Int) : Int → Int := fun i => I (22, 0, 0) (300 * t + i)
theorem gz_l255 (x : Int64) : (x &&& 255).toInt32.toInt = x.toInt32.toInt % 256 := by
  have h1 : (x &&& 255).toInt32 = x.toInt32 &&& Int32.ofInt 255 := by
    rw [Int64.toInt32_and]
    rfl
  have h2 := gz_an x.toInt32.toInt
  rw [Int32.ofInt_toInt] at h2
  rw [h1, h2, gz_ti (by omega)]
set_option maxHeartbeats 4000000 in
set_option maxRecDepth 100000 in
theorem ct_X5_in (l : Launch) (D : va_G) (α : gz_P → Nat) (cA : Nat → ClassId) {I : gz_M} {v a b : Int} (r_v : (-2147483648 ≤ v ∧ v ≤ 2147483647)) (r_a : (-2147483648 ≤ a ∧ a ≤ 2147483647)) (r_b : (-2147483648 ≤ b ∧ b ≤ 2147483647)) : gz_V l D α cA RX5 cX5_in (some .boolean) 3 0 (gz_Qi fun x I' => I = I' ∧ (x = 1 ∧ (a ≤ v ∧ v ≤ b) ∨ x = 0 ∧ ¬ (a ≤ v ∧ v ≤ b))) I [some (gz_i (v)), some (gz_i (a)), some (gz_i (b))] [] 0 := by
  refine gz_iload_n (pc := 0) dX5_in_0 rfl ?_
  refine gz_iload_n (pc := 1) dX5_in_1 rfl ?_
  refine gz_icmp_lt (pc := 2) (tgt := 14) dX5_in_2 (by decide) (by omega) (by omega) (fun h2 => ?_) (fun h2 => ?_)
  · refine gz_iconst (pc := 14) dX5_in_14 ?_
    refine gz_zret (pc := 15) dX5_in_15 rfl (by first | exact Or.inl rfl | exact Or.inr rfl | omega) ?_
    exact ⟨rfl, by omega⟩
  · refine gz_iload_n (pc := 5) dX5_in_5 rfl ?_
    refine gz_iload_n (pc := 6) dX5_in_6 rfl ?_
    refine gz_icmp_gt (pc := 7) (tgt := 14) dX5_in_7 (by decide) (by omega) (by omega) (fun h7 => ?_) (fun h7 => ?_)
    · refine gz_iconst (pc := 14) dX5_in_14 ?_
      refine gz_zret (pc := 15) dX5_in_15 rfl (by first | exact Or.inl rfl | exact Or.inr rfl | omega) ?_
      exact ⟨rfl, by omega⟩
    · refine gz_iconst (pc := 10) dX5_in_10 ?_
      refine gz_goto (pc := 11) (tgt := 15) dX5_in_11 (by decide) ?_
      refine gz_zret (pc := 15) dX5_in_15 rfl (by first | exact Or.inl rfl | exact Or.inr rfl | omega) ?_
      exact ⟨rfl, by omega⟩
set_option maxHeartbeats 4000000 in
set_option maxRecDepth 100000 in
theorem ct_X5_isTask (l : Launch) (D : va_G) (α : gz_P → Nat) (cA : Nat → ClassId) {I : gz_M} (hT : gz_T I) {t : Int} (r_t : (-2147483648 ≤ t ∧ t ≤ 2147483647)) : gz_V l D α cA RX5 cX5_isTask (some .boolean) 2 1 (gz_Qi fun x I' => I = I' ∧ (x = 1 ∧ 0 ≤ t ∧ t < I (20, 0, 0) 0 ∨ x = 0 ∧ ¬ (0 ≤ t ∧ t < I (20, 0, 0) 0))) I [some (.ref (α (20, 0, 0))), some (gz_i (t))] [] 0 := by
  have e1 := gz_tM0 hT 0 0
  refine gz_iload_n (pc := 0) dX5_isTask_0 rfl ?_
  refine gz_iconst (pc := 1) dX5_isTask_1 ?_
  first | refine gz_aload_n (pc := 2) dX5_isTask_2 rfl ?_ | refine gz_aload_nN (pc := 2) dX5_isTask_2 rfl ?_
  refine gz_getI (pc := 3) 0 dX5_isTask_3 fl_X5_7 rfl rfl rfl rfl (by first | exact gz_B1 | (omega)) ?_
  refine gz_iconst (pc := 6) dX5_isTask_6 ?_
  refine gz_isub (pc := 7) dX5_isTask_7 ?_
  refine gz_cS3i (pc := 8) dX5_isTask_8 wm_X5_72 my_X5_in rfl rfl (ct_X5_in l D α cA r_t (by omega) (by omega)) (fun x8 I8 h8 => ?_)
  obtain ⟨rfl, hx8⟩ := h8
  refine gz_zret (pc := 11) dX5_isTask_11 rfl (by first | exact Or.inl rfl | exact Or.inr rfl | omega) ?_
  exact ⟨rfl, by omega⟩
set_option maxHeartbeats 4000000 in
set_option maxRecDepth 100000 in
theorem ct_X5_state (l : Launch) (D : va_G) (α : gz_P → Nat) (cA : Nat → ClassId) {I : gz_M} (hT : gz_T I) {t i : Int} (r_t : (-2147483648 ≤ t ∧ t ≤ 2147483647)) (r_i : (-2147483648 ≤ i ∧ i ≤ 2147483647)) : gz_V l D α cA RX5 cX5_state (some .int) 3 2 (gz_Qi fun x I' => I = I' ∧ (((0 ≤ t ∧ t < I (20, 0, 0) 0) ∧ 0 ≤ i ∧ i < I (21, 0, 0) t) ∧ x = gz_fm I t i ∨ ¬ ((0 ≤ t ∧ t < I (20, 0, 0) 0) ∧ 0 ≤ i ∧ i < I (21, 0, 0) t) ∧ x = -2)) I [some (.ref (α (20, 0, 0))), some (gz_i (t)), some (gz_i (i))] [] 0 := by
  first | refine gz_aload_n (pc := 0) dX5_state_0 rfl ?_ | refine gz_aload_nN (pc := 0) dX5_state_0 rfl ?_
  refine gz_iload_n (pc := 1) dX5_state_1 rfl ?_
  refine gz_cV1i (pc := 2) dX5_state_2 wm_X5_76 my_X5_isTask rfl rfl rfl (by first | exact gz_B1 | (omega)) (ct_X5_isTask l D α cA hT r_t) (fun x2 I2 h2 => ?_)
  obtain ⟨rfl, hx2⟩ := h2
  have e1 := gz_tM0 hT 0 0
  have e2 := gz_t21 hT 0 0 t
  refine gz_if_eq (pc := 5) (tgt := 39) dX5_state_5 (by decide) (by omega) (fun h5 => ?_) (fun h5 => ?_)
  · refine gz_bipush (pc := 39) dX5_state_39 rfl ?_
    refine gz_iret (pc := 41) dX5_state_41 rfl ?_
    first | exact ⟨rfl, Or.inr ⟨by omega, rfl⟩⟩ | exact ⟨rfl, Or.inl ⟨by omega, rfl⟩⟩
  · refine gz_iload_n (pc := 8) dX5_state_8 rfl ?_
    refine gz_iconst (pc := 9) dX5_state_9 ?_
    first | refine gz_aload_n (pc := 10) dX5_state_10 rfl ?_ | refine gz_aload_nN (pc := 10) dX5_state_10 rfl ?_
    refine gz_getr (pc := 11) dX5_state_11 fl_X5_13 rfl rfl rfl (by first | exact gz_B1 | (omega)) ?_
    refine gz_iload_n (pc := 14) dX5_state_14 rfl ?_
    refine gz_iald (pc := 15) dX5_state_15 rfl rfl (by first | exact gz_B1 | (omega)) (by omega) ?_
    refine gz_iconst (pc := 16) dX5_state_16 ?_
    refine gz_isub (pc := 17) dX5_state_17 ?_
    refine gz_cS3i (pc := 18) dX5_state_18 wm_X5_72 my_X5_in rfl rfl (ct_X5_in l D α cA r_i (by omega) (by omega)) (fun x18 I18 h18 => ?_)
    obtain ⟨rfl, hx18⟩ := h18
    have hxr18 : 0 ≤ x18 ∧ x18 ≤ 1 := by rcases hx18 with h | h <;> omega
    refine gz_if_eq (pc := 21) (tgt := 39) dX5_state_21 (by decide) (by omega) (fun h21 => ?_) (fun h21 => ?_)
    · refine gz_bipush (pc := 39) dX5_state_39 rfl ?_
      refine gz_iret (pc := 41) dX5_state_41 rfl ?_
      first | exact ⟨rfl, Or.inr ⟨by omega, rfl⟩⟩ | exact ⟨rfl, Or.inl ⟨by omega, rfl⟩⟩
    · first | refine gz_aload_n (pc := 24) dX5_state_24 rfl ?_ | refine gz_aload_nN (pc := 24) dX5_state_24 rfl ?_
      refine gz_getr (pc := 25) dX5_state_25 fl_X5_17 rfl rfl rfl (by first | exact gz_B1 | (omega)) ?_
      refine gz_sipush (pc := 28) dX5_state_28 rfl ?_
      refine gz_iload_n (pc := 31) dX5_state_31 rfl ?_
      refine gz_imul (pc := 32) dX5_state_32 ?_
      refine gz_iload_n (pc := 33) dX5_state_33 rfl ?_
      refine gz_iadd (pc := 34) dX5_state_34 ?_
      refine gz_iald (pc := 35) dX5_state_35 rfl rfl (by first | exact gz_B1 | (omega)) (by omega) ?_
      refine gz_goto (pc := 36) (tgt := 41) dX5_state_36 (by decide) ?_
      refine gz_iret (pc := 41) dX5_state_41 rfl ?_
      first | exact ⟨rfl, Or.inr ⟨by omega, rfl⟩⟩ | exact ⟨rfl, Or.inl ⟨by omega, rfl⟩⟩
set_option maxHeartbeats 4000000 in
set_option maxRecDepth 100000 in
theorem lp_X5_remove (l : Launch) (D : va_G) (α : gz_P → Nat) (cA : Nat → ClassId) {I0 : gz_M} {t a n : Int} (hP : ((0 ≤ t ∧ t < I0 (20, 0, 0) 0) ∧ 0 ≤ a ∧ 0 ≤ n ∧ a ≤ I0 (21, 0, 0) t ∧ n ≤ I0 (21, 0, 0) t - a)) (ht4 : t < 4) (hs3 : I0 (21, 0, 0) t ≤ 300) : ∀ k, k ≤ I0 (21, 0, 0) t → ∀ I : gz_M, a + n ≤ k → gz_T I → (∀ i, 0 ≤ i → i < 300 → gz_fm I t i = if a ≤ i ∧ i < k - n then gz_fm I0 t (i + n) else gz_fm I0 t i) → (∀ j, ¬ (300 * t ≤ j ∧ j < 300 * t + 300) → I (22, 0, 0) j = I0 (22, 0, 0) j) → (∀ q, q ≠ (22, 0, 0) → I q = I0 q) → gz_V l D α cA RX5 cX5_remove (some .int) 6 2 (gz_Qi fun x I' => (¬ ((0 ≤ t ∧ t < I0 (20, 0, 0) 0) ∧ 0 ≤ a ∧ 0 ≤ n ∧ a ≤ I0 (21, 0, 0) t ∧ n ≤ I0 (21, 0, 0) t - a) ∧ x = -2 ∧ I0 = I' ∨ ((0 ≤ t ∧ t < I0 (20, 0, 0) 0) ∧ 0 ≤ a ∧ 0 ≤ n ∧ a ≤ I0 (21, 0, 0) t ∧ n ≤ I0 (21, 0, 0) t - a) ∧ x = I0 (21, 0, 0) t - n ∧ gz_T I' ∧ I' (21, 0, 0) t = I0 (21, 0, 0) t - n ∧ (∀ u, u ≠ t → I' (21, 0, 0) u = I0 (21, 0, 0) u) ∧ (∀ i, 0 ≤ i → i < 300 → gz_fm I' t i = gz_rem (gz_fm I0 t) (I0 (21, 0, 0) t) a n i) ∧ (∀ u i, u ≠ t → 0 ≤ i → i < 300 → gz_fm I' u i = gz_fm I0 u i) ∧ ∀ q, q ≠ (21, 0, 0) → q ≠ (22, 0, 0) → I' q = I0 q)) I [some (.ref (α (20, 0, 0))), some (gz_i (t)), some (gz_i (a)), some (gz_i (n)), some (gz_i (300 * t)), some (gz_i (k))] [] 53 := by
  refine gz_upto _ ?_
  intro k hk ih I h0 hTI hj hoth hI
  have r21 : I (21, 0, 0) t = I0 (21, 0, 0) t := by rw [hI _ (gz_ne rfl)]
  refine gz_iload (pc := 53) dX5_remove_53 rfl ?_
  first | refine gz_aload_n (pc := 55) dX5_remove_55 rfl ?_ | refine gz_aload_nN (pc := 55) dX5_remove_55 rfl ?_
  refine gz_getr (pc := 56) dX5_remove_56 fl_X5_13 rfl rfl rfl (by first | exact gz_B1 | (omega)) ?_
  refine gz_iload_n (pc := 59) dX5_remove_59 rfl ?_
  refine gz_iald (pc := 60) dX5_remove_60 rfl rfl (by first | exact gz_B1 | (omega)) (by omega) ?_
  rw [r21]
  refine gz_icmp_ge (pc := 61) (tgt := 92) dX5_remove_61 (by decide) (by omega) (by omega) (fun h61 => ?_) (fun h61 => ?_)
  · first | refine gz_aload_n (pc := 92) dX5_remove_92 rfl ?_ | refine gz_aload_nN (pc := 92) dX5_remove_92 rfl ?_
    refine gz_getr (pc := 93) dX5_remove_93 fl_X5_13 rfl rfl rfl (by first | exact gz_B1 | (omega)) ?_
    refine gz_iload_n (pc := 96) dX5_remove_96 rfl ?_
    refine gz_dup2 (pc := 97) dX5_remove_97 rfl rfl ?_
    refine gz_iald (pc := 98) dX5_remove_98 rfl rfl (by first | exact gz_B1 | (omega)) (by omega) ?_
    refine gz_iload_n (pc := 99) dX5_remove_99 rfl ?_
    refine gz_isub (pc := 100) dX5_remove_100 ?_
    rw [r21]
    refine gz_iast (pc := 101) dX5_remove_101 rfl rfl (by first | exact gz_B1 | (omega)) (by omega) ?_
    first | refine gz_aload_n (pc := 102) dX5_remove_102 rfl ?_ | refine gz_aload_nN (pc := 102) dX5_remove_102 rfl ?_
    refine gz_getr (pc := 103) dX5_remove_103 fl_X5_13 rfl rfl rfl (by first | exact gz_B1 | (omega)) ?_
    refine gz_iload_n (pc := 106) dX5_remove_106 rfl ?_
    refine gz_iald (pc := 107) dX5_remove_107 rfl rfl (by first | exact gz_B1 | (omega)) (by omega) ?_
    rw [gz_up_s]
    refine gz_iret (pc := 108) dX5_remove_108 rfl ?_
    have hfin : ∀ i, 0 ≤ i → i < 300 → I (22, 0, 0) (300 * t + i) = gz_rem (gz_fm I0 t) (I0 (21, 0, 0) t) a n i := fun i a1 a2 => by
      have h9 := hj i a1 a2
      rw [show k = I0 (21, 0, 0) t by omega] at h9
      exact h9
    refine Or.inr ⟨hP, rfl, gz_Tu21 hTI (by omega), gz_up_s, fun u hu => ?_, fun i a1 a2 => ?_, fun u i hu a1 a2 => ?_, fun q q1 q2 => ?_⟩
    · rw [gz_up_eq, if_neg hu, hI _ (gz_ne rfl)]
    · show gz_up _ _ _ _ (22, 0, 0) _ = _
      rw [gz_up_r (by decide)]
      exact hfin i a1 a2
    · show gz_up _ _ _ _ (22, 0, 0) _ = I0 (22, 0, 0) _
      rw [gz_up_r (by decide)]
      exact hoth _ (by omega)
    · rw [gz_up_ne q1]; exact hI q q2
  · first | refine gz_aload_n (pc := 64) dX5_remove_64 rfl ?_ | refine gz_aload_nN (pc := 64) dX5_remove_64 rfl ?_
    refine gz_getr (pc := 65) dX5_remove_65 fl_X5_17 rfl rfl rfl (by first | exact gz_B1 | (omega)) ?_
    refine gz_iload (pc := 68) dX5_remove_68 rfl ?_
    refine gz_iload (pc := 70) dX5_remove_70 rfl ?_
    refine gz_iadd (pc := 72) dX5_remove_72 ?_
    refine gz_iload_n (pc := 73) dX5_remove_73 rfl ?_
    refine gz_isub (pc := 74) dX5_remove_74 ?_
    first | refine gz_aload_n (pc := 75) dX5_remove_75 rfl ?_ | refine gz_aload_nN (pc := 75) dX5_remove_75 rfl ?_
    refine gz_getr (pc := 76) dX5_remove_76 fl_X5_17 rfl rfl rfl (by first | exact gz_B1 | (omega)) ?_
    refine gz_iload (pc := 79) dX5_remove_79 rfl ?_
    refine gz_iload (pc := 81) dX5_remove_81 rfl ?_
    refine gz_iadd (pc := 83) dX5_remove_83 ?_
    refine gz_iald (pc := 84) dX5_remove_84 rfl rfl (by first | exact gz_B1 | (omega)) (by omega) ?_
    refine gz_iast (pc := 85) dX5_remove_85 rfl rfl (by first | exact gz_B1 | (omega)) (by omega) ?_
    refine gz_iinc (pc := 86) dX5_remove_86 rfl rfl rfl rfl ?_
    refine gz_goto (pc := 89) (tgt := 53) dX5_remove_89 (by decide) ?_
    refine ih (k + 1) (by omega) (by omega) _ (by omega) (gz_Tu22 hTI (gz_t22 hTI 0 0 _)) (fun i a1 a2 => ?_) (fun j hjn => ?_) (fun q hq => by rw [gz_up_ne hq]; exact hI q hq)
    · show gz_up _ _ _ _ (22, 0, 0) (300 * t + i) = _
      rw [gz_up_eq]
      by_cases z : i = k - n
      · rw [if_pos (by omega), if_pos (by omega)]
        have h9 := hj k (by omega) (by omega)
        rw [if_neg (by omega)] at h9
        rw [show i + n = k by omega]
        exact h9
      · rw [if_neg (by omega)]
        have h9 := hj i a1 a2
        by_cases z2 : a ≤ i ∧ i < k - n
        · rw [if_pos z2] at h9
          rw [if_pos (by omega)]
          exact h9
        · rw [if_neg z2] at h9
          rw [if_neg (by omega)]
          exact h9
    · rw [gz_up_eq, if_neg (by omega)]
      exact hoth j hjn
set_option maxHeartbeats 4000000 in
set_option maxRecDepth 100000 in
theorem ct_X5_remove (l : Launch) (D : va_G) (α : gz_P → Nat) (cA : Nat → ClassId) {I : gz_M} (hT : gz_T I) {t a n : Int} (r_t : (-2147483648 ≤ t ∧ t ≤ 2147483647)) (r_a : (-2147483648 ≤ a ∧ a ≤ 2147483647)) (r_n : (-2147483648 ≤ n ∧ n ≤ 2147483647)) : gz_V l D α cA RX5 cX5_remove (some .int) 6 2 (gz_Qi fun x I' => (¬ ((0 ≤ t ∧ t < I (20, 0, 0) 0) ∧ 0 ≤ a ∧ 0 ≤ n ∧ a ≤ I (21, 0, 0) t ∧ n ≤ I (21, 0, 0) t - a) ∧ x = -2 ∧ I = I' ∨ ((0 ≤ t ∧ t < I (20, 0, 0) 0) ∧ 0 ≤ a ∧ 0 ≤ n ∧ a ≤ I (21, 0, 0) t ∧ n ≤ I (21, 0, 0) t - a) ∧ x = I (21, 0, 0) t - n ∧ gz_T I' ∧ I' (21, 0, 0) t = I (21, 0, 0) t - n ∧ (∀ u, u ≠ t → I' (21, 0, 0) u = I (21, 0, 0) u) ∧ (∀ i, 0 ≤ i → i < 300 → gz_fm I' t i = gz_rem (gz_fm I t) (I (21, 0, 0) t) a n i) ∧ (∀ u i, u ≠ t → 0 ≤ i → i < 300 → gz_fm I' u i = gz_fm I u i) ∧ ∀ q, q ≠ (21, 0, 0) → q ≠ (22, 0, 0) → I' q = I q)) I [some (.ref (α (20, 0, 0))), some (gz_i (t)), some (gz_i (a)), some (gz_i (n)), none, none] [] 0 := by
  first | refine gz_aload_n (pc := 0) dX5_remove_0 rfl ?_ | refine gz_aload_nN (pc := 0) dX5_remove_0 rfl ?_
  refine gz_iload_n (pc := 1) dX5_remove_1 rfl ?_
  refine gz_cV1i (pc := 2) dX5_remove_2 wm_X5_76 my_X5_isTask rfl rfl rfl (by first | exact gz_B1 | (omega)) (ct_X5_isTask l D α cA hT r_t) (fun x2 I2 h2 => ?_)
  obtain ⟨rfl, hx2⟩ := h2
  have e1 := gz_tM0 hT 0 0
  have e2 := gz_t21 hT 0 0 t
  refine gz_if_eq (pc := 5) (tgt := 38) dX5_remove_5 (by decide) (by omega) (fun h5 => ?_) (fun h5 => ?_)
  · refine gz_bipush (pc := 38) dX5_remove_38 rfl ?_
    refine gz_iret (pc := 40) dX5_remove_40 rfl ?_
    exact Or.inl ⟨by omega, rfl, rfl⟩
  · refine gz_iload_n (pc := 8) dX5_remove_8 rfl ?_
    refine gz_if_lt (pc := 9) (tgt := 38) dX5_remove_9 (by decide) (by omega) (fun h9 => ?_) (fun h9 => ?_)
    · refine gz_bipush (pc := 38) dX5_remove_38 rfl ?_
      refine gz_iret (pc := 40) dX5_remove_40 rfl ?_
      exact Or.inl ⟨by omega, rfl, rfl⟩
    · refine gz_iload_n (pc := 12) dX5_remove_12 rfl ?_
      refine gz_if_lt (pc := 13) (tgt := 38) dX5_remove_13 (by decide) (by omega) (fun h13 => ?_) (fun h13 => ?_)
      · refine gz_bipush (pc := 38) dX5_remove_38 rfl ?_
        refine gz_iret (pc := 40) dX5_remove_40 rfl ?_
        exact Or.inl ⟨by omega, rfl, rfl⟩
      · refine gz_iload_n (pc := 16) dX5_remove_16 rfl ?_
        first | refine gz_aload_n (pc := 17) dX5_remove_17 rfl ?_ | refine gz_aload_nN (pc := 17) dX5_remove_17 rfl ?_
        refine gz_getr (pc := 18) dX5_remove_18 fl_X5_13 rfl rfl rfl (by first | exact gz_B1 | (omega)) ?_
        refine gz_iload_n (pc := 21) dX5_remove_21 rfl ?_
        refine gz_iald (pc := 22) dX5_remove_22 rfl rfl (by first | exact gz_B1 | (omega)) (by omega) ?_
        refine gz_icmp_gt (pc := 23) (tgt := 38) dX5_remove_23 (by decide) (by omega) (by omega) (fun h23 => ?_) (fun h23 => ?_)
        · refine gz_bipush (pc := 38) dX5_remove_38 rfl ?_
          refine gz_iret (pc := 40) dX5_remove_40 rfl ?_
          exact Or.inl ⟨by omega, rfl, rfl⟩
        · refine gz_iload_n (pc := 26) dX5_remove_26 rfl ?_
          first | refine gz_aload_n (pc := 27) dX5_remove_27 rfl ?_ | refine gz_aload_nN (pc := 27) dX5_remove_27 rfl ?_
          refine gz_getr (pc := 28) dX5_remove_28 fl_X5_13 rfl rfl rfl (by first | exact gz_B1 | (omega)) ?_
          refine gz_iload_n (pc := 31) dX5_remove_31 rfl ?_
          refine gz_iald (pc := 32) dX5_remove_32 rfl rfl (by first | exact gz_B1 | (omega)) (by omega) ?_
          refine gz_iload_n (pc := 33) dX5_remove_33 rfl ?_
          refine gz_isub (pc := 34) dX5_remove_34 ?_
          refine gz_icmp_le (pc := 35) (tgt := 41) dX5_remove_35 (by decide) (by omega) (by omega) (fun h35 => ?_) (fun h35 => ?_)
          · refine gz_sipush (pc := 41) dX5_remove_41 rfl ?_
            refine gz_iload_n (pc := 44) dX5_remove_44 rfl ?_
            refine gz_imul (pc := 45) dX5_remove_45 ?_
            refine gz_istore (pc := 46) dX5_remove_46 rfl rfl rfl ?_
            refine gz_iload_n (pc := 48) dX5_remove_48 rfl ?_
            refine gz_iload_n (pc := 49) dX5_remove_49 rfl ?_
            refine gz_iadd (pc := 50) dX5_remove_50 ?_
            refine gz_istore (pc := 51) dX5_remove_51 rfl rfl rfl ?_
            exact lp_X5_remove l D α cA (by omega) (by omega) (by omega) (a + n) (by omega) I (by omega) hT (fun i a1 a2 => by rw [if_neg (by omega)]) (fun j _ => rfl) (fun q _ => rfl)
          · refine gz_bipush (pc := 38) dX5_remove_38 rfl ?_
            refine gz_iret (pc := 40) dX5_remove_40 rfl ?_
            exact Or.inl ⟨by omega, rfl, rfl⟩
set_option maxHeartbeats 4000000 in
set_option maxRecDepth 100000 in
theorem lp_X5_extend (l : Launch) (D : va_G) (α : gz_P → Nat) (cA : Nat → ClassId) {I0 : gz_M} {t n v w : Int} (hP : ((0 ≤ t ∧ t < I0 (20, 0, 0) 0) ∧ 0 ≤ n ∧ n ≤ 300)) (ht4 : t < 4) (hs3 : 0 ≤ I0 (21, 0, 0) t ∧ I0 (21, 0, 0) t + n ≤ 300) : ∀ k, k ≤ n → ∀ I : gz_M, 0 ≤ k → gz_T I → (∀ i, 0 ≤ i → i < 300 → gz_fm I t i = gz_ext (gz_fm I0 t) (I0 (21, 0, 0) t) k v w i) → (∀ j, ¬ (300 * t ≤ j ∧ j < 300 * t + 300) → I (22, 0, 0) j = I0 (22, 0, 0) j) → (∀ q, q ≠ (22, 0, 0) → I q = I0 q) → gz_V l D α cA RX5 cX5_extend (some .int) 6 2 (gz_Qi fun x I' => (¬ ((0 ≤ t ∧ t < I0 (20, 0, 0) 0) ∧ 0 ≤ n ∧ n ≤ 300) ∧ x = -2 ∧ I0 = I' ∨ ((0 ≤ t ∧ t < I0 (20, 0, 0) 0) ∧ 0 ≤ n ∧ n ≤ 300) ∧ 300 < I0 (21, 0, 0) t + n ∧ x = -3 ∧ I0 = I' ∨ ((0 ≤ t ∧ t < I0 (20, 0, 0) 0) ∧ 0 ≤ n ∧ n ≤ 300) ∧ I0 (21, 0, 0) t + n ≤ 300 ∧ x = I0 (21, 0, 0) t + n ∧ gz_T I' ∧ I' (21, 0, 0) t = I0 (21, 0, 0) t + n ∧ (∀ u, u ≠ t → I' (21, 0, 0) u = I0 (21, 0, 0) u) ∧ (∀ i, 0 ≤ i → i < 300 → gz_fm I' t i = gz_ext (gz_fm I0 t) (I0 (21, 0, 0) t) n v w i) ∧ (∀ u i, u ≠ t → 0 ≤ i → i < 300 → gz_fm I' u i = gz_fm I0 u i) ∧ ∀ q, q ≠ (21, 0, 0) → q ≠ (22, 0, 0) → I' q = I0 q)) I [some (.ref (α (20, 0, 0))), some (gz_i (t)), some (gz_i (n)), some (gz_i (v)), some (gz_i (w)), some (gz_i (k))] [] 42 := by
  refine gz_upto _ ?_
  intro k hk ih I h0 hTI hj hoth hI
  have r21 : I (21, 0, 0) t = I0 (21, 0, 0) t := by rw [hI _ (gz_ne rfl)]
  refine gz_iload (pc := 42) dX5_extend_42 rfl ?_
  refine gz_iload_n (pc := 44) dX5_extend_44 rfl ?_
  refine gz_icmp_ge (pc := 45) (tgt := 85) dX5_extend_45 (by decide) (by omega) (by omega) (fun h45 => ?_) (fun h45 => ?_)
  · first | refine gz_aload_n (pc := 85) dX5_extend_85 rfl ?_ | refine gz_aload_nN (pc := 85) dX5_extend_85 rfl ?_
    refine gz_getr (pc := 86) dX5_extend_86 fl_X5_13 rfl rfl rfl (by first | exact gz_B1 | (omega)) ?_
    refine gz_iload_n (pc := 89) dX5_extend_89 rfl ?_
    refine gz_dup2 (pc := 90) dX5_extend_90 rfl rfl ?_
    refine gz_iald (pc := 91) dX5_extend_91 rfl rfl (by first | exact gz_B1 | (omega)) (by omega) ?_
    refine gz_iload_n (pc := 92) dX5_extend_92 rfl ?_
    refine gz_iadd (pc := 93) dX5_extend_93 ?_
    rw [r21]
    refine gz_iast (pc := 94) dX5_extend_94 rfl rfl (by first | exact gz_B1 | (omega)) (by omega) ?_
    first | refine gz_aload_n (pc := 95) dX5_extend_95 rfl ?_ | refine gz_aload_nN (pc := 95) dX5_extend_95 rfl ?_
    refine gz_getr (pc := 96) dX5_extend_96 fl_X5_13 rfl rfl rfl (by first | exact gz_B1 | (omega)) ?_
    refine gz_iload_n (pc := 99) dX5_extend_99 rfl ?_
    refine gz_iald (pc := 100) dX5_extend_100 rfl rfl (by first | exact gz_B1 | (omega)) (by omega) ?_
    rw [gz_up_s]
    refine gz_iret (pc := 101) dX5_extend_101 rfl ?_
    rw [show k = n by omega] at hj
    have hfin := hj
    refine Or.inr (Or.inr ⟨hP, by omega, rfl, gz_Tu21 hTI (by omega), gz_up_s, fun u hu => ?_, fun i a1 a2 => ?_, fun u i hu a1 a2 => ?_, fun q q1 q2 => ?_⟩)
    · rw [gz_up_eq, if_neg hu, hI _ (gz_ne rfl)]
    · show gz_up _ _ _ _ (22, 0, 0) _ = _
      rw [gz_up_r (by decide)]
      exact hfin i a1 a2
    · show gz_up _ _ _ _ (22, 0, 0) _ = I0 (22, 0, 0) _
      rw [gz_up_r (by decide)]
      exact hoth _ (by omega)
    · rw [gz_up_ne q1]; exact hI q q2
  · first | refine gz_aload_n (pc := 48) dX5_extend_48 rfl ?_ | refine gz_aload_nN (pc := 48) dX5_extend_48 rfl ?_
    refine gz_getr (pc := 49) dX5_extend_49 fl_X5_17 rfl rfl rfl (by first | exact gz_B1 | (omega)) ?_
    refine gz_sipush (pc := 52) dX5_extend_52 rfl ?_
    refine gz_iload_n (pc := 55) dX5_extend_55 rfl ?_
    refine gz_imul (pc := 56) dX5_extend_56 ?_
    first | refine gz_aload_n (pc := 57) dX5_extend_57 rfl ?_ | refine gz_aload_nN (pc := 57) dX5_extend_57 rfl ?_
    refine gz_getr (pc := 58) dX5_extend_58 fl_X5_13 rfl rfl rfl (by first | exact gz_B1 | (omega)) ?_
    refine gz_iload_n (pc := 61) dX5_extend_61 rfl ?_
    refine gz_iald (pc := 62) dX5_extend_62 rfl rfl (by first | exact gz_B1 | (omega)) (by omega) ?_
    rw [r21]
    refine gz_iadd (pc := 63) dX5_extend_63 ?_
    refine gz_iload (pc := 64) dX5_extend_64 rfl ?_
    refine gz_iadd (pc := 66) dX5_extend_66 ?_
    refine gz_iload_n (pc := 67) dX5_extend_67 rfl ?_
    refine gz_iload (pc := 68) dX5_extend_68 rfl ?_
    refine gz_iload (pc := 70) dX5_extend_70 rfl ?_
    refine gz_imul (pc := 72) dX5_extend_72 ?_
    refine gz_iadd (pc := 73) dX5_extend_73 ?_
    refine gz_sipush (pc := 74) dX5_extend_74 rfl ?_
    refine gz_iand (pc := 77) dX5_extend_77 ?_
    refine gz_iast (pc := 78) dX5_extend_78 rfl rfl (by first | exact gz_B1 | (omega)) (by omega) ?_
    refine gz_iinc (pc := 79) dX5_extend_79 rfl rfl rfl rfl ?_
    refine gz_goto (pc := 82) (tgt := 42) dX5_extend_82 (by decide) ?_
    refine ih (k + 1) (by omega) (by omega) _ (by omega) (gz_Tu22 hTI (by omega)) (fun i a1 a2 => ?_) (fun j hjn => ?_) (fun q hq => by rw [gz_up_ne hq]; exact hI q hq)
    · show gz_up _ _ _ _ (22, 0, 0) (300 * t + i) = _
      rw [gz_up_eq]
      have h9 := hj i a1 a2
      unfold gz_ext at h9 ⊢
      by_cases z : i = I0 (21, 0, 0) t + k
      · rw [if_pos (by omega), if_pos (by omega), show i - I0 (21, 0, 0) t = k by omega]
      · rw [if_neg (by omega)]
        by_cases z2 : I0 (21, 0, 0) t ≤ i ∧ i < I0 (21, 0, 0) t + k
        · rw [if_pos z2] at h9
          rw [if_pos (by omega)]
          exact h9
        · rw [if_neg z2] at h9
          rw [if_neg (by omega)]
          exact h9
    · rw [gz_up_eq, if_neg (by omega)]
      exact hoth j hjn
set_option maxHeartbeats 4000000 in
set_option maxRecDepth 100000 in
theorem ct_X5_extend (l : Launch) (D : va_G) (α : gz_P → Nat) (cA : Nat → ClassId) {I : gz_M} (hT : gz_T I) {t n v w : Int} (r_t : (-2147483648 ≤ t ∧ t ≤ 2147483647)) (r_n : (-2147483648 ≤ n ∧ n ≤ 2147483647)) (r_v : (-2147483648 ≤ v ∧ v ≤ 2147483647)) (r_w : (-2147483648 ≤ w ∧ w ≤ 2147483647)) : gz_V l D α cA RX5 cX5_extend (some .int) 6 2 (gz_Qi fun x I' => (¬ ((0 ≤ t ∧ t < I (20, 0, 0) 0) ∧ 0 ≤ n ∧ n ≤ 300) ∧ x = -2 ∧ I = I' ∨ ((0 ≤ t ∧ t < I (20, 0, 0) 0) ∧ 0 ≤ n ∧ n ≤ 300) ∧ 300 < I (21, 0, 0) t + n ∧ x = -3 ∧ I = I' ∨ ((0 ≤ t ∧ t < I (20, 0, 0) 0) ∧ 0 ≤ n ∧ n ≤ 300) ∧ I (21, 0, 0) t + n ≤ 300 ∧ x = I (21, 0, 0) t + n ∧ gz_T I' ∧ I' (21, 0, 0) t = I (21, 0, 0) t + n ∧ (∀ u, u ≠ t → I' (21, 0, 0) u = I (21, 0, 0) u) ∧ (∀ i, 0 ≤ i → i < 300 → gz_fm I' t i = gz_ext (gz_fm I t) (I (21, 0, 0) t) n v w i) ∧ (∀ u i, u ≠ t → 0 ≤ i → i < 300 → gz_fm I' u i = gz_fm I u i) ∧ ∀ q, q ≠ (21, 0, 0) → q ≠ (22, 0, 0) → I' q = I q)) I [some (.ref (α (20, 0, 0))), some (gz_i (t)), some (gz_i (n)), some (gz_i (v)), some (gz_i (w)), none] [] 0 := by
  first | refine gz_aload_n (pc := 0) dX5_extend_0 rfl ?_ | refine gz_aload_nN (pc := 0) dX5_extend_0 rfl ?_
  refine gz_iload_n (pc := 1) dX5_extend_1 rfl ?_
  refine gz_cV1i (pc := 2) dX5_extend_2 wm_X5_76 my_X5_isTask rfl rfl rfl (by first | exact gz_B1 | (omega)) (ct_X5_isTask l D α cA hT r_t) (fun x2 I2 h2 => ?_)
  obtain ⟨rfl, hx2⟩ := h2
  have e1 := gz_tM0 hT 0 0
  have e2 := gz_t21 hT 0 0 t
  refine gz_if_eq (pc := 5) (tgt := 19) dX5_extend_5 (by decide) (by omega) (fun h5 => ?_) (fun h5 => ?_)
  · refine gz_bipush (pc := 19) dX5_extend_19 rfl ?_
    refine gz_iret (pc := 21) dX5_extend_21 rfl ?_
    exact Or.inl ⟨by omega, rfl, rfl⟩
  · refine gz_iload_n (pc := 8) dX5_extend_8 rfl ?_
    refine gz_iconst (pc := 9) dX5_extend_9 ?_
    refine gz_sipush (pc := 10) dX5_extend_10 rfl ?_
    refine gz_cS3i (pc := 13) dX5_extend_13 wm_X5_72 my_X5_in rfl rfl (ct_X5_in l D α cA r_n (by omega) (by omega)) (fun x13 I13 h13 => ?_)
    obtain ⟨rfl, hx13⟩ := h13
    have hxr13 : 0 ≤ x13 ∧ x13 ≤ 1 := by rcases hx13 with h | h <;> omega
    refine gz_if_ne (pc := 16) (tgt := 22) dX5_extend_16 (by decide) (by omega) (fun h16 => ?_) (fun h16 => ?_)
    · first | refine gz_aload_n (pc := 22) dX5_extend_22 rfl ?_ | refine gz_aload_nN (pc := 22) dX5_extend_22 rfl ?_
      refine gz_getr (pc := 23) dX5_extend_23 fl_X5_13 rfl rfl rfl (by first | exact gz_B1 | (omega)) ?_
      refine gz_iload_n (pc := 26) dX5_extend_26 rfl ?_
      refine gz_iald (pc := 27) dX5_extend_27 rfl rfl (by first | exact gz_B1 | (omega)) (by omega) ?_
      refine gz_iload_n (pc := 28) dX5_extend_28 rfl ?_
      refine gz_iadd (pc := 29) dX5_extend_29 ?_
      refine gz_sipush (pc := 30) dX5_extend_30 rfl ?_
      refine gz_icmp_le (pc := 33) (tgt := 39) dX5_extend_33 (by decide) (by omega) (by omega) (fun h33 => ?_) (fun h33 => ?_)
      · refine gz_iconst (pc := 39) dX5_extend_39 ?_
        refine gz_istore (pc := 40) dX5_extend_40 rfl rfl rfl ?_
        exact lp_X5_extend l D α cA (by omega) (by omega) (by omega) 0 (by omega) I (by omega) hT (fun i a1 a2 => by unfold gz_ext; rw [if_neg (by omega)]) (fun j _ => rfl) (fun q _ => rfl)
      · refine gz_bipush (pc := 36) dX5_extend_36 rfl ?_
        refine gz_iret (pc := 38) dX5_extend_38 rfl ?_
        exact Or.inr (Or.inl ⟨by omega, by omega, rfl, rfl⟩)
    · refine gz_bipush (pc := 19) dX5_extend_19 rfl ?_
      refine gz_iret (pc := 21) dX5_extend_21 rfl ?_
      exact Or.inl ⟨by omega, rfl, rfl⟩
set_option maxHeartbeats 4000000 in
set_option maxRecDepth 100000 in
theorem lp_X5_insert2 (l : Launch) (D : va_G) (α : gz_P → Nat) (cA : Nat → ClassId) {I0 : gz_M} {t a n : Int} {v : Int64} (hP : ((0 ≤ t ∧ t < I0 (20, 0, 0) 0) ∧ (0 ≤ n ∧ n ≤ 8) ∧ 0 ≤ a ∧ a ≤ I0 (21, 0, 0) t)) (ht4 : t < 4) (hs3 : I0 (21, 0, 0) t + n ≤ 300) : ∀ k, k ≤ n → ∀ I : gz_M, 0 ≤ k → gz_T I → (∀ i, 0 ≤ i → i < 300 → ¬ (a + k ≤ i ∧ i < a + n) → gz_fm I t i = gz_ins (gz_fm I0 t) (I0 (21, 0, 0) t) a n v i) → (∀ j, ¬ (300 * t ≤ j ∧ j < 300 * t + 300) → I (22, 0, 0) j = I0 (22, 0, 0) j) → (∀ q, q ≠ (22, 0, 0) → I q = I0 q) → gz_V l D α cA RX5 cX5_insert (some .int) 8 2 (gz_Qi fun x I' => (¬ ((0 ≤ t ∧ t < I0 (20, 0, 0) 0) ∧ (0 ≤ n ∧ n ≤ 8) ∧ 0 ≤ a ∧ a ≤ I0 (21, 0, 0) t) ∧ x = -2 ∧ I0 = I' ∨ ((0 ≤ t ∧ t < I0 (20, 0, 0) 0) ∧ (0 ≤ n ∧ n ≤ 8) ∧ 0 ≤ a ∧ a ≤ I0 (21, 0, 0) t) ∧ 300 < I0 (21, 0, 0) t + n ∧ x = -3 ∧ I0 = I' ∨ ((0 ≤ t ∧ t < I0 (20, 0, 0) 0) ∧ (0 ≤ n ∧ n ≤ 8) ∧ 0 ≤ a ∧ a ≤ I0 (21, 0, 0) t) ∧ I0 (21, 0, 0) t + n ≤ 300 ∧ x = I0 (21, 0, 0) t + n ∧ gz_T I' ∧ I' (21, 0, 0) t = I0 (21, 0, 0) t + n ∧ (∀ u, u ≠ t → I' (21, 0, 0) u = I0 (21, 0, 0) u) ∧ (∀ i, 0 ≤ i → i < 300 → gz_fm I' t i = gz_ins (gz_fm I0 t) (I0 (21, 0, 0) t) a n v i) ∧ (∀ u i, u ≠ t → 0 ≤ i → i < 300 → gz_fm I' u i = gz_fm I0 u i) ∧ ∀ q, q ≠ (21, 0, 0) → q ≠ (22, 0, 0) → I' q = I0 q)) I [some (.ref (α (20, 0, 0))), some (gz_i (t)), some (gz_i (a)), some (gz_i (n)), some (.long v), none, some (gz_i (300 * t)), some (gz_i (k))] [] 106 := by
  refine gz_upto _ ?_
  intro k hk ih I h0 hTI hj hoth hI
  have r21 : I (21, 0, 0) t = I0 (21, 0, 0) t := by rw [hI _ (gz_ne rfl)]
  refine gz_iload (pc := 106) dX5_insert_106 rfl ?_
  refine gz_iload_n (pc := 108) dX5_insert_108 rfl ?_
  refine gz_icmp_ge (pc := 109) (tgt := 147) dX5_insert_109 (by decide) (by omega) (by omega) (fun h109 => ?_) (fun h109 => ?_)
  · first | refine gz_aload_n (pc := 147) dX5_insert_147 rfl ?_ | refine gz_aload_nN (pc := 147) dX5_insert_147 rfl ?_
    refine gz_getr (pc := 148) dX5_insert_148 fl_X5_13 rfl rfl rfl (by first | exact gz_B1 | (omega)) ?_
    refine gz_iload_n (pc := 151) dX5_insert_151 rfl ?_
    refine gz_dup2 (pc := 152) dX5_insert_152 rfl rfl ?_
    refine gz_iald (pc := 153) dX5_insert_153 rfl rfl (by first | exact gz_B1 | (omega)) (by omega) ?_
    refine gz_iload_n (pc := 154) dX5_insert_154 rfl ?_
    refine gz_iadd (pc := 155) dX5_insert_155 ?_
    rw [r21]
    refine gz_iast (pc := 156) dX5_insert_156 rfl rfl (by first | exact gz_B1 | (omega)) (by omega) ?_
    first | refine gz_aload_n (pc := 157) dX5_insert_157 rfl ?_ | refine gz_aload_nN (pc := 157) dX5_insert_157 rfl ?_
    refine gz_getr (pc := 158) dX5_insert_158 fl_X5_13 rfl rfl rfl (by first | exact gz_B1 | (omega)) ?_
    refine gz_iload_n (pc := 161) dX5_insert_161 rfl ?_
    refine gz_iald (pc := 162) dX5_insert_162 rfl rfl (by first | exact gz_B1 | (omega)) (by omega) ?_
    rw [gz_up_s]
    refine gz_iret (pc := 163) dX5_insert_163 rfl ?_
    have hfin : ∀ i, 0 ≤ i → i < 300 → I (22, 0, 0) (300 * t + i) = gz_ins (gz_fm I0 t) (I0 (21, 0, 0) t) a n v i := fun i a1 a2 => hj i a1 a2 (by omega)
    refine Or.inr (Or.inr ⟨hP, by omega, rfl, gz_Tu21 hTI (by omega), gz_up_s, fun u hu => ?_, fun i a1 a2 => ?_, fun u i hu a1 a2 => ?_, fun q q1 q2 => ?_⟩)
    · rw [gz_up_eq, if_neg hu, hI _ (gz_ne rfl)]
    · show gz_up _ _ _ _ (22, 0, 0) _ = _
      rw [gz_up_r (by decide)]
      exact hfin i a1 a2
    · show gz_up _ _ _ _ (22, 0, 0) _ = I0 (22, 0, 0) _
      rw [gz_up_r (by decide)]
      exact hoth _ (by omega)
    · rw [gz_up_ne q1]; exact hI q q2
  · first | refine gz_aload_n (pc := 112) dX5_insert_112 rfl ?_ | refine gz_aload_nN (pc := 112) dX5_insert_112 rfl ?_
    refine gz_getr (pc := 113) dX5_insert_113 fl_X5_17 rfl rfl rfl (by first | exact gz_B1 | (omega)) ?_
    refine gz_iload (pc := 116) dX5_insert_116 rfl ?_
    refine gz_iload_n (pc := 118) dX5_insert_118 rfl ?_
    refine gz_iadd (pc := 119) dX5_insert_119 ?_
    refine gz_iload (pc := 120) dX5_insert_120 rfl ?_
    refine gz_iadd (pc := 122) dX5_insert_122 ?_
    refine gz_lload (pc := 123) dX5_insert_123 rfl ?_
    refine gz_bipush (pc := 125) dX5_insert_125 rfl ?_
    refine gz_iload_n (pc := 127) dX5_insert_127 rfl ?_
    refine gz_iconst (pc := 128) dX5_insert_128 ?_
    refine gz_isub (pc := 129) dX5_insert_129 ?_
    refine gz_iload (pc := 130) dX5_insert_130 rfl ?_
    refine gz_isub (pc := 132) dX5_insert_132 ?_
    refine gz_imul (pc := 133) dX5_insert_133 ?_
    refine gz_lushr (pc := 134) dX5_insert_134 ?_
    refine gz_ldc2 (pc := 135) dX5_insert_135 wl_X5_80 ?_
    refine gz_land (pc := 138) dX5_insert_138 ?_
    refine gz_l2i (pc := 139) dX5_insert_139 ?_
    rw [gz_l255]
    refine gz_iast (pc := 140) dX5_insert_140 rfl rfl (by first | exact gz_B1 | (omega)) (by omega) ?_
    refine gz_iinc (pc := 141) dX5_insert_141 rfl rfl rfl rfl ?_
    refine gz_goto (pc := 144) (tgt := 106) dX5_insert_144 (by decide) ?_
    refine ih (k + 1) (by omega) (by omega) _ (by omega) (gz_Tu22 hTI (by omega)) (fun i a1 a2 hne => ?_) (fun j hjn => ?_) (fun q hq => by rw [gz_up_ne hq]; exact hI q hq)
    · show gz_up _ _ _ _ (22, 0, 0) (300 * t + i) = _
      rw [gz_up_eq]
      by_cases z : i = a + k
      · rw [if_pos (by omega)]
        unfold gz_ins
        rw [if_pos (by omega), show i - a = k by omega]
        rfl
      · rw [if_neg (by omega)]
        exact hj i a1 a2 (by omega)
    · rw [gz_up_eq, if_neg (by omega)]
      exact hoth j hjn
set_option maxHeartbeats 4000000 in
set_option maxRecDepth 100000 in
theorem lp_X5_insert1 (l : Launch) (D : va_G) (α : gz_P → Nat) (cA : Nat → ClassId) {I0 : gz_M} {t a n : Int} {v : Int64} (hP : ((0 ≤ t ∧ t < I0 (20, 0, 0) 0) ∧ (0 ≤ n ∧ n ≤ 8) ∧ 0 ≤ a ∧ a ≤ I0 (21, 0, 0) t)) (ht4 : t < 4) (hs3 : I0 (21, 0, 0) t + n ≤ 300) : ∀ k, a - 1 ≤ k → ∀ I : gz_M, k < I0 (21, 0, 0) t → gz_T I → (∀ i, 0 ≤ i → i < 300 → gz_fm I t i = if k + 1 + n ≤ i ∧ i < I0 (21, 0, 0) t + n then gz_fm I0 t (i - n) else gz_fm I0 t i) → (∀ j, ¬ (300 * t ≤ j ∧ j < 300 * t + 300) → I (22, 0, 0) j = I0 (22, 0, 0) j) → (∀ q, q ≠ (22, 0, 0) → I q = I0 q) → gz_V l D α cA RX5 cX5_insert (some .int) 8 2 (gz_Qi fun x I' => (¬ ((0 ≤ t ∧ t < I0 (20, 0, 0) 0) ∧ (0 ≤ n ∧ n ≤ 8) ∧ 0 ≤ a ∧ a ≤ I0 (21, 0, 0) t) ∧ x = -2 ∧ I0 = I' ∨ ((0 ≤ t ∧ t < I0 (20, 0, 0) 0) ∧ (0 ≤ n ∧ n ≤ 8) ∧ 0 ≤ a ∧ a ≤ I0 (21, 0, 0) t) ∧ 300 < I0 (21, 0, 0) t + n ∧ x = -3 ∧ I0 = I' ∨ ((0 ≤ t ∧ t < I0 (20, 0, 0) 0) ∧ (0 ≤ n ∧ n ≤ 8) ∧ 0 ≤ a ∧ a ≤ I0 (21, 0, 0) t) ∧ I0 (21, 0, 0) t + n ≤ 300 ∧ x = I0 (21, 0, 0) t + n ∧ gz_T I' ∧ I' (21, 0, 0) t = I0 (21, 0, 0) t + n ∧ (∀ u, u ≠ t → I' (21, 0, 0) u = I0 (21, 0, 0) u) ∧ (∀ i, 0 ≤ i → i < 300 → gz_fm I' t i = gz_ins (gz_fm I0 t) (I0 (21, 0, 0) t) a n v i) ∧ (∀ u i, u ≠ t → 0 ≤ i → i < 300 → gz_fm I' u i = gz_fm I0 u i) ∧ ∀ q, q ≠ (21, 0, 0) → q ≠ (22, 0, 0) → I' q = I0 q)) I [some (.ref (α (20, 0, 0))), some (gz_i (t)), some (gz_i (a)), some (gz_i (n)), some (.long v), none, some (gz_i (300 * t)), some (gz_i (k))] [] 69 := by
  refine gz_downto _ ?_
  intro k hk ih I h0 hTI hj hoth hI
  refine gz_iload (pc := 69) dX5_insert_69 rfl ?_
  refine gz_iload_n (pc := 71) dX5_insert_71 rfl ?_
  refine gz_icmp_lt (pc := 72) (tgt := 103) dX5_insert_72 (by decide) (by omega) (by omega) (fun h72 => ?_) (fun h72 => ?_)
  · refine gz_iconst (pc := 103) dX5_insert_103 ?_
    refine gz_istore (pc := 104) dX5_insert_104 rfl rfl rfl ?_
    refine lp_X5_insert2 l D α cA hP ht4 hs3 0 (by omega) I (by omega) hTI (fun i a1 a2 hne => ?_) hoth hI
    have h9 := hj i a1 a2
    unfold gz_ins
    rw [if_neg (by omega)]
    by_cases z2 : k + 1 + n ≤ i ∧ i < I0 (21, 0, 0) t + n
    · rw [if_pos z2] at h9
      rw [if_pos (by omega)]
      exact h9
    · rw [if_neg z2] at h9
      rw [if_neg (by omega)]
      exact h9
  · first | refine gz_aload_n (pc := 75) dX5_insert_75 rfl ?_ | refine gz_aload_nN (pc := 75) dX5_insert_75 rfl ?_
    refine gz_getr (pc := 76) dX5_insert_76 fl_X5_17 rfl rfl rfl (by first | exact gz_B1 | (omega)) ?_
    refine gz_iload (pc := 79) dX5_insert_79 rfl ?_
    refine gz_iload (pc := 81) dX5_insert_81 rfl ?_
    refine gz_iadd (pc := 83) dX5_insert_83 ?_
    refine gz_iload_n (pc := 84) dX5_insert_84 rfl ?_
    refine gz_iadd (pc := 85) dX5_insert_85 ?_
    first | refine gz_aload_n (pc := 86) dX5_insert_86 rfl ?_ | refine gz_aload_nN (pc := 86) dX5_insert_86 rfl ?_
    refine gz_getr (pc := 87) dX5_insert_87 fl_X5_17 rfl rfl rfl (by first | exact gz_B1 | (omega)) ?_
    refine gz_iload (pc := 90) dX5_insert_90 rfl ?_
    refine gz_iload (pc := 92) dX5_insert_92 rfl ?_
    refine gz_iadd (pc := 94) dX5_insert_94 ?_
    refine gz_iald (pc := 95) dX5_insert_95 rfl rfl (by first | exact gz_B1 | (omega)) (by omega) ?_
    refine gz_iast (pc := 96) dX5_insert_96 rfl rfl (by first | exact gz_B1 | (omega)) (by omega) ?_
    refine gz_iinc (pc := 97) dX5_insert_97 rfl rfl rfl rfl ?_
    refine gz_goto (pc := 100) (tgt := 69) dX5_insert_100 (by decide) ?_
    refine ih (k + -1) (by omega) (by omega) _ (by omega) (gz_Tu22 hTI (gz_t22 hTI 0 0 _)) (fun i a1 a2 => ?_) (fun j hjn => ?_) (fun q hq => by rw [gz_up_ne hq]; exact hI q hq)
    · show gz_up _ _ _ _ (22, 0, 0) (300 * t + i) = _
      rw [gz_up_eq]
      by_cases z : i = k + n
      · rw [if_pos (by omega), if_pos (by omega)]
        have h9 := hj k (by omega) (by omega)
        rw [show i - n = k by omega]
        by_cases z3 : k + 1 + n ≤ k ∧ k < I0 (21, 0, 0) t + n
        · omega
        · rw [if_neg z3] at h9
          exact h9
      · rw [if_neg (by omega)]
        have h9 := hj i a1 a2
        by_cases z2 : k + 1 + n ≤ i ∧ i < I0 (21, 0, 0) t + n
        · rw [if_pos z2] at h9
          rw [if_pos (by omega)]
          exact h9
        · rw [if_neg z2] at h9
          rw [if_neg (by omega)]
          exact h9
    · rw [gz_up_eq, if_neg (by omega)]
      exact hoth j hjn
set_option maxHeartbeats 4000000 in
set_option maxRecDepth 100000 in
theorem ct_X5_insert (l : Launch) (D : va_G) (α : gz_P → Nat) (cA : Nat → ClassId) {I : gz_M} (hT : gz_T I) {t a n : Int} (r_t : (-2147483648 ≤ t ∧ t ≤ 2147483647)) (r_a : (-2147483648 ≤ a ∧ a ≤ 2147483647)) (r_n : (-2147483648 ≤ n ∧ n ≤ 2147483647)) {v : Int64} : gz_V l D α cA RX5 cX5_insert (some .int) 8 2 (gz_Qi fun x I' => (¬ ((0 ≤ t ∧ t < I (20, 0, 0) 0) ∧ (0 ≤ n ∧ n ≤ 8) ∧ 0 ≤ a ∧ a ≤ I (21, 0, 0) t) ∧ x = -2 ∧ I = I' ∨ ((0 ≤ t ∧ t < I (20, 0, 0) 0) ∧ (0 ≤ n ∧ n ≤ 8) ∧ 0 ≤ a ∧ a ≤ I (21, 0, 0) t) ∧ 300 < I (21, 0, 0) t + n ∧ x = -3 ∧ I = I' ∨ ((0 ≤ t ∧ t < I (20, 0, 0) 0) ∧ (0 ≤ n ∧ n ≤ 8) ∧ 0 ≤ a ∧ a ≤ I (21, 0, 0) t) ∧ I (21, 0, 0) t + n ≤ 300 ∧ x = I (21, 0, 0) t + n ∧ gz_T I' ∧ I' (21, 0, 0) t = I (21, 0, 0) t + n ∧ (∀ u, u ≠ t → I' (21, 0, 0) u = I (21, 0, 0) u) ∧ (∀ i, 0 ≤ i → i < 300 → gz_fm I' t i = gz_ins (gz_fm I t) (I (21, 0, 0) t) a n v i) ∧ (∀ u i, u ≠ t → 0 ≤ i → i < 300 → gz_fm I' u i = gz_fm I u i) ∧ ∀ q, q ≠ (21, 0, 0) → q ≠ (22, 0, 0) → I' q = I q)) I [some (.ref (α (20, 0, 0))), some (gz_i (t)), some (gz_i (a)), some (gz_i (n)), some (.long v), none, none, none] [] 0 := by
  first | refine gz_aload_n (pc := 0) dX5_insert_0 rfl ?_ | refine gz_aload_nN (pc := 0) dX5_insert_0 rfl ?_
  refine gz_iload_n (pc := 1) dX5_insert_1 rfl ?_
  refine gz_cV1i (pc := 2) dX5_insert_2 wm_X5_76 my_X5_isTask rfl rfl rfl (by first | exact gz_B1 | (omega)) (ct_X5_isTask l D α cA hT r_t) (fun x2 I2 h2 => ?_)
  obtain ⟨rfl, hx2⟩ := h2
  have e1 := gz_tM0 hT 0 0
  have e2 := gz_t21 hT 0 0 t
  refine gz_if_eq (pc := 5) (tgt := 32) dX5_insert_5 (by decide) (by omega) (fun h5 => ?_) (fun h5 => ?_)
  · refine gz_bipush (pc := 32) dX5_insert_32 rfl ?_
    refine gz_iret (pc := 34) dX5_insert_34 rfl ?_
    exact Or.inl ⟨by omega, rfl, rfl⟩
  · refine gz_iload_n (pc := 8) dX5_insert_8 rfl ?_
    refine gz_iconst (pc := 9) dX5_insert_9 ?_
    first | refine gz_aload_n (pc := 10) dX5_insert_10 rfl ?_ | refine gz_aload_nN (pc := 10) dX5_insert_10 rfl ?_
    refine gz_getr (pc := 11) dX5_insert_11 fl_X5_13 rfl rfl rfl (by first | exact gz_B1 | (omega)) ?_
    refine gz_iload_n (pc := 14) dX5_insert_14 rfl ?_
    refine gz_iald (pc := 15) dX5_insert_15 rfl rfl (by first | exact gz_B1 | (omega)) (by omega) ?_
    refine gz_cS3i (pc := 16) dX5_insert_16 wm_X5_72 my_X5_in rfl rfl (ct_X5_in l D α cA r_a (by omega) (by omega)) (fun x16 I16 h16 => ?_)
    obtain ⟨rfl, hx16⟩ := h16
    have hxr16 : 0 ≤ x16 ∧ x16 ≤ 1 := by rcases hx16 with h | h <;> omega
    refine gz_if_eq (pc := 19) (tgt := 32) dX5_insert_19 (by decide) (by omega) (fun h19 => ?_) (fun h19 => ?_)
    · refine gz_bipush (pc := 32) dX5_insert_32 rfl ?_
      refine gz_iret (pc := 34) dX5_insert_34 rfl ?_
      exact Or.inl ⟨by omega, rfl, rfl⟩
    · refine gz_iload_n (pc := 22) dX5_insert_22 rfl ?_
      refine gz_iconst (pc := 23) dX5_insert_23 ?_
      refine gz_bipush (pc := 24) dX5_insert_24 rfl ?_
      refine gz_cS3i (pc := 26) dX5_insert_26 wm_X5_72 my_X5_in rfl rfl (ct_X5_in l D α cA r_n (by omega) (by omega)) (fun x26 I26 h26 => ?_)
      obtain ⟨rfl, hx26⟩ := h26
      have hxr26 : 0 ≤ x26 ∧ x26 ≤ 1 := by rcases hx26 with h | h <;> omega
      refine gz_if_ne (pc := 29) (tgt := 35) dX5_insert_29 (by decide) (by omega) (fun h29 => ?_) (fun h29 => ?_)
      · first | refine gz_aload_n (pc := 35) dX5_insert_35 rfl ?_ | refine gz_aload_nN (pc := 35) dX5_insert_35 rfl ?_
        refine gz_getr (pc := 36) dX5_insert_36 fl_X5_13 rfl rfl rfl (by first | exact gz_B1 | (omega)) ?_
        refine gz_iload_n (pc := 39) dX5_insert_39 rfl ?_
        refine gz_iald (pc := 40) dX5_insert_40 rfl rfl (by first | exact gz_B1 | (omega)) (by omega) ?_
        refine gz_iload_n (pc := 41) dX5_insert_41 rfl ?_
        refine gz_iadd (pc := 42) dX5_insert_42 ?_
        refine gz_sipush (pc := 43) dX5_insert_43 rfl ?_
        refine gz_icmp_le (pc := 46) (tgt := 52) dX5_insert_46 (by decide) (by omega) (by omega) (fun h46 => ?_) (fun h46 => ?_)
        · refine gz_sipush (pc := 52) dX5_insert_52 rfl ?_
          refine gz_iload_n (pc := 55) dX5_insert_55 rfl ?_
          refine gz_imul (pc := 56) dX5_insert_56 ?_
          refine gz_istore (pc := 57) dX5_insert_57 rfl rfl rfl ?_
          first | refine gz_aload_n (pc := 59) dX5_insert_59 rfl ?_ | refine gz_aload_nN (pc := 59) dX5_insert_59 rfl ?_
          refine gz_getr (pc := 60) dX5_insert_60 fl_X5_13 rfl rfl rfl (by first | exact gz_B1 | (omega)) ?_
          refine gz_iload_n (pc := 63) dX5_insert_63 rfl ?_
          refine gz_iald (pc := 64) dX5_insert_64 rfl rfl (by first | exact gz_B1 | (omega)) (by omega) ?_
          refine gz_iconst (pc := 65) dX5_insert_65 ?_
          refine gz_isub (pc := 66) dX5_insert_66 ?_
          refine gz_istore (pc := 67) dX5_insert_67 rfl rfl rfl ?_
          exact lp_X5_insert1 l D α cA (by omega) (by omega) (by omega) (I (21, 0, 0) t - 1) (by omega) I (by omega) hT (fun i a1 a2 => by rw [if_neg (by omega)]) (fun j _ => rfl) (fun q _ => rfl)
        · refine gz_bipush (pc := 49) dX5_insert_49 rfl ?_
          refine gz_iret (pc := 51) dX5_insert_51 rfl ?_
          exact Or.inr (Or.inl ⟨by omega, by omega, rfl, rfl⟩)
      · refine gz_bipush (pc := 32) dX5_insert_32 rfl ?_
        refine gz_iret (pc := 34) dX5_insert_34 rfl ?_
        exact Or.inl ⟨by omega, rfl, rfl⟩
