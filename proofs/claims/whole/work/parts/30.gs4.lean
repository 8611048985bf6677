def gz_sr (v : Int64) (k : Int) : Int64 := (v.toUInt64 >>> ((Int32.ofInt k).toInt64.toUInt64 &&& Int64.toUInt64 63)).toInt64
/-- the byte k of a long -/
def gz_by (v : Int64) (k : Int) : Int := (gz_sr v (8 * k)).toInt32.toInt % 256
def gz_ins (f : Int → Int) (s a n : Int) (v : Int64) (i : Int) : Int := if a ≤ i ∧ i < a + n then gz_by v (n - 1 - (i - a)) else if a + n ≤ i ∧ i < s + n then f (i - n) else f i
def gz_rem (f : Int → Int) (s a n i : Int) : Int := if a ≤ i ∧ i < s - n then f (i + n) else f i
def gz_ext (f : Int → Int) (s n v w i : Int) : Int := if s ≤ i ∧ i < s + n then (v + (i - s) * w) % 256 else f i
theorem gz_share {a t n : Int} (ha : 0 ≤ a) (hn : 1 ≤ n) (ht : 0 ≤ t ∧ t < n) : 0 ≤ a * t / n ∧ a * t / n ≤ a * (t + 1) / n ∧ a * (t + 1) / n ≤ a := by
  have h1 : 0 ≤ a * t := Int.mul_nonneg ha ht.1
  have h2 : a * t ≤ a * (t + 1) := Int.mul_le_mul_of_nonneg_left (by omega) ha
  have h3 : a * (t + 1) ≤ a * n := Int.mul_le_mul_of_nonneg_left (by omega) ha
  exact ⟨Int.ediv_nonneg h1 (by omega), Int.ediv_le_ediv (by omega) h2, Int.ediv_le_of_le_mul (by omega) h3⟩
set_option maxHeartbeats 4000000 in
set_option maxRecDepth 100000 in
theorem ct_X4_remove (l : Launch) (D : va_G) (α : gz_P → Nat) (cA : Nat → ClassId) {I : gz_M} (hT : gz_T I) {t a n : Int} (r_t : (-2147483648 ≤ t ∧ t ≤ 2147483647)) (r_a : (-2147483648 ≤ a ∧ a ≤ 2147483647)) (r_n : (-2147483648 ≤ n ∧ n ≤ 2147483647)) : gz_V l D α cA RX4 cX4_remove (some .int) 5 2 (gz_Qi fun x I' => (¬ ((0 ≤ t ∧ t < I (0, 0, 0) 6) ∧ 0 ≤ a ∧ 0 ≤ n ∧ a ≤ I (7, t, 0) 2 ∧ n ≤ I (7, t, 0) 2 - a) ∧ x = -2 ∧ I = I' ∨ ((0 ≤ t ∧ t < I (0, 0, 0) 6) ∧ 0 ≤ a ∧ 0 ≤ n ∧ a ≤ I (7, t, 0) 2 ∧ n ≤ I (7, t, 0) 2 - a) ∧ x = I (7, t, 0) 2 - n ∧ gz_T I' ∧ I' (7, t, 0) 2 = I (7, t, 0) 2 - n ∧ (∀ i, I' (8, t, 0) i = gz_rem (I (8, t, 0)) (I (7, t, 0) 2) a n i) ∧ (∀ q, q ≠ (7, t, 0) → q ≠ (8, t, 0) → I' q = I q))) I [some (.ref (α (0, 0, 0))), some (gz_i (t)), some (gz_i (a)), some (gz_i (n)), none] [] 0 := by
  first | refine gz_aload_n (pc := 0) dX4_remove_0 rfl ?_ | refine gz_aload_nN (pc := 0) dX4_remove_0 rfl ?_
  refine gz_iload_n (pc := 1) dX4_remove_1 rfl ?_
  refine gz_cV1i (pc := 2) dX4_remove_2 wm_X4_55 my_X4_isTask rfl rfl rfl (by first | exact gz_B1 | (omega)) (ct_X4_isTask l D α cA r_t (gz_tk hT 0 0)) (fun x2 I2 h2 => ?_)
  obtain ⟨rfl, hx2⟩ := h2
  have e1 := gz_tk hT 0 0
  have e2 := gz_t7 hT t 0 2
  refine gz_if_eq (pc := 5) (tgt := 16) dX4_remove_5 (by decide) (by omega) (fun h5 => ?_) (fun h5 => ?_)
  · refine gz_bipush (pc := 16) dX4_remove_16 rfl ?_
    refine gz_iret (pc := 18) dX4_remove_18 rfl ?_
    exact Or.inl ⟨by omega, rfl, rfl⟩
  · refine gz_iload_n (pc := 8) dX4_remove_8 rfl ?_
    refine gz_if_lt (pc := 9) (tgt := 16) dX4_remove_9 (by decide) (by omega) (fun h9 => ?_) (fun h9 => ?_)
    · refine gz_bipush (pc := 16) dX4_remove_16 rfl ?_
      refine gz_iret (pc := 18) dX4_remove_18 rfl ?_
      exact Or.inl ⟨by omega, rfl, rfl⟩
    · refine gz_iload_n (pc := 12) dX4_remove_12 rfl ?_
      refine gz_if_ge (pc := 13) (tgt := 19) dX4_remove_13 (by decide) (by omega) (fun h13 => ?_) (fun h13 => ?_)
      · first | refine gz_aload_n (pc := 19) dX4_remove_19 rfl ?_ | refine gz_aload_nN (pc := 19) dX4_remove_19 rfl ?_
        refine gz_getr (pc := 20) dX4_remove_20 fl_X4_11 rfl rfl rfl (by first | exact gz_B1 | (omega)) ?_
        refine gz_iload_n (pc := 23) dX4_remove_23 rfl ?_
        first | refine gz_ald1 (pc := 24) dX4_remove_24 (by omega) ?_ | refine gz_ald2 (pc := 24) dX4_remove_24 (by omega) ?_ | refine gz_ald4 (pc := 24) dX4_remove_24 (by omega) ?_ | refine gz_ald17 (pc := 24) dX4_remove_24 (by first | exact gz_B1 | (omega)) (by omega) ?_
        first | refine gz_astore (pc := 25) dX4_remove_25 rfl rfl rfl ?_ | refine gz_astoreN (pc := 25) dX4_remove_25 rfl rfl rfl ?_
        refine gz_iload_n (pc := 27) dX4_remove_27 rfl ?_
        first | refine gz_aload (pc := 28) dX4_remove_28 rfl ?_ | refine gz_aloadN (pc := 28) dX4_remove_28 rfl ?_
        refine gz_getI (pc := 30) 2 dX4_remove_30 fl_X4_59 rfl rfl rfl rfl (by first | exact gz_B1 | (omega)) ?_
        refine gz_icmp_gt (pc := 33) (tgt := 47) dX4_remove_33 (by decide) (by omega) (by omega) (fun h33 => ?_) (fun h33 => ?_)
        · refine gz_bipush (pc := 47) dX4_remove_47 rfl ?_
          refine gz_iret (pc := 49) dX4_remove_49 rfl ?_
          exact Or.inl ⟨by omega, rfl, rfl⟩
        · refine gz_iload_n (pc := 36) dX4_remove_36 rfl ?_
          first | refine gz_aload (pc := 37) dX4_remove_37 rfl ?_ | refine gz_aloadN (pc := 37) dX4_remove_37 rfl ?_
          refine gz_getI (pc := 39) 2 dX4_remove_39 fl_X4_59 rfl rfl rfl rfl (by first | exact gz_B1 | (omega)) ?_
          refine gz_iload_n (pc := 42) dX4_remove_42 rfl ?_
          refine gz_isub (pc := 43) dX4_remove_43 ?_
          refine gz_icmp_le (pc := 44) (tgt := 50) dX4_remove_44 (by decide) (by omega) (by omega) (fun h44 => ?_) (fun h44 => ?_)
          · first | refine gz_aload (pc := 50) dX4_remove_50 rfl ?_ | refine gz_aloadN (pc := 50) dX4_remove_50 rfl ?_
            refine gz_iload_n (pc := 52) dX4_remove_52 rfl ?_
            refine gz_iload_n (pc := 53) dX4_remove_53 rfl ?_
            refine gz_cV2v (pc := 54) dX4_remove_54 wm_X4_69 my_X2_close rfl rfl rfl (by first | exact gz_B1 | (omega)) (ct_X2_close l D α cA (by omega) e2 (by omega) (by omega)) (fun I54 h54 => ?_)
            subst h54
            first | refine gz_aload (pc := 57) dX4_remove_57 rfl ?_ | refine gz_aloadN (pc := 57) dX4_remove_57 rfl ?_
            refine gz_getI (pc := 59) 2 dX4_remove_59 fl_X4_59 rfl rfl rfl rfl (by first | exact gz_B1 | (omega)) ?_
            rw [gz_up_s]
            refine gz_iret (pc := 62) dX4_remove_62 rfl ?_
            refine Or.inr ⟨by omega, rfl, gz_Tu7 (gz_T_cp hT (fun _ => ⟨rfl, rfl⟩) (fun _ => ⟨rfl, rfl⟩)) (by omega), gz_up_s, fun i => ?_, fun q h1 h2 => ?_⟩
            · rw [gz_up_r (by decide), gz_cp_k]
              unfold gz_rem
              by_cases z : a ≤ i ∧ i < I (7, t, 0) 2 - n
              · rw [if_pos z, if_pos (by omega), show a + n + (i - a) = i + n by omega]
              · rw [if_neg z, if_neg (by omega)]
            · rw [gz_up_ne h1]
              funext i
              unfold gz_cp
              rw [if_neg (fun z => h2 z.1)]
          · refine gz_bipush (pc := 47) dX4_remove_47 rfl ?_
            refine gz_iret (pc := 49) dX4_remove_49 rfl ?_
            exact Or.inl ⟨by omega, rfl, rfl⟩
      · refine gz_bipush (pc := 16) dX4_remove_16 rfl ?_
        refine gz_iret (pc := 18) dX4_remove_18 rfl ?_
        exact Or.inl ⟨by omega, rfl, rfl⟩
set_option maxHeartbeats 4000000 in
set_option maxRecDepth 100000 in
theorem lp_X4_extend (l : Launch) (D : va_G) (α : gz_P → Nat) (cA : Nat → ClassId) {I0 : gz_M} {t n v w : Int} (hP : ((0 ≤ t ∧ t < I0 (0, 0, 0) 6) ∧ 0 ≤ n ∧ n ≤ 300)) (ht4 : t < 4) (hs : 0 ≤ I0 (7, t, 0) 2 ∧ I0 (7, t, 0) 2 + n ≤ 300) : ∀ k, k ≤ n → ∀ I : gz_M, 0 ≤ k → gz_T I → I (7, t, 0) 2 = I0 (7, t, 0) 2 + n → (∀ i, I (8, t, 0) i = gz_ext (I0 (8, t, 0)) (I0 (7, t, 0) 2) k v w i) → (∀ q, q ≠ (7, t, 0) → q ≠ (8, t, 0) → I q = I0 q) → gz_V l D α cA RX4 cX4_extend (some .int) 8 2 (gz_Qi fun x I' => (¬ ((0 ≤ t ∧ t < I0 (0, 0, 0) 6) ∧ 0 ≤ n ∧ n ≤ 300) ∧ x = -2 ∧ I0 = I' ∨ ((0 ≤ t ∧ t < I0 (0, 0, 0) 6) ∧ 0 ≤ n ∧ n ≤ 300) ∧ 300 < I0 (7, t, 0) 2 + n ∧ x = -3 ∧ I0 = I' ∨ ((0 ≤ t ∧ t < I0 (0, 0, 0) 6) ∧ 0 ≤ n ∧ n ≤ 300) ∧ I0 (7, t, 0) 2 + n ≤ 300 ∧ x = I0 (7, t, 0) 2 + n ∧ gz_T I' ∧ I' (7, t, 0) 2 = I0 (7, t, 0) 2 + n ∧ (∀ i, I' (8, t, 0) i = gz_ext (I0 (8, t, 0)) (I0 (7, t, 0) 2) n v w i) ∧ (∀ q, q ≠ (7, t, 0) → q ≠ (8, t, 0) → I' q = I0 q))) I [some (.ref (α (0, 0, 0))), some (gz_i (t)), some (gz_i (n)), some (gz_i (v)), some (gz_i (w)), some (.ref (α (7, t, 0))), some (gz_i (I0 (7, t, 0) 2)), some (gz_i (k))] [] 64 := by
  refine gz_upto _ ?_
  intro k hk ih I h0 hTI h7 hj hI
  refine gz_iload (pc := 64) dX4_extend_64 rfl ?_
  refine gz_iload_n (pc := 66) dX4_extend_66 rfl ?_
  refine gz_icmp_ge (pc := 67) (tgt := 98) dX4_extend_67 (by decide) (by omega) (by omega) (fun h67 => ?_) (fun h67 => ?_)
  · first | refine gz_aload (pc := 98) dX4_extend_98 rfl ?_ | refine gz_aloadN (pc := 98) dX4_extend_98 rfl ?_
    refine gz_getI (pc := 100) 2 dX4_extend_100 fl_X4_59 rfl rfl rfl rfl (by first | exact gz_B1 | (omega)) ?_
    refine gz_iret (pc := 103) dX4_extend_103 rfl ?_
    rw [show k = n by omega] at hj
    exact Or.inr (Or.inr ⟨hP, by omega, h7, hTI, h7, hj, hI⟩)
  · first | refine gz_aload (pc := 70) dX4_extend_70 rfl ?_ | refine gz_aloadN (pc := 70) dX4_extend_70 rfl ?_
    refine gz_getr (pc := 72) dX4_extend_72 fl_X4_66 rfl rfl rfl (by first | exact gz_B1 | (omega)) ?_
    refine gz_iload (pc := 75) dX4_extend_75 rfl ?_
    refine gz_iload (pc := 77) dX4_extend_77 rfl ?_
    refine gz_iadd (pc := 79) dX4_extend_79 ?_
    refine gz_iload_n (pc := 80) dX4_extend_80 rfl ?_
    refine gz_iload (pc := 81) dX4_extend_81 rfl ?_
    refine gz_iload (pc := 83) dX4_extend_83 rfl ?_
    refine gz_imul (pc := 85) dX4_extend_85 ?_
    refine gz_iadd (pc := 86) dX4_extend_86 ?_
    refine gz_sipush (pc := 87) dX4_extend_87 rfl ?_
    refine gz_iand (pc := 90) dX4_extend_90 ?_
    refine gz_iast (pc := 91) dX4_extend_91 rfl rfl (by first | exact gz_B1 | (omega)) (by omega) ?_
    refine gz_iinc (pc := 92) dX4_extend_92 rfl rfl rfl rfl ?_
    refine gz_goto (pc := 95) (tgt := 64) dX4_extend_95 (by decide) ?_
    refine ih (k + 1) (by omega) (by omega) _ (by omega) (gz_Tu8 hTI (by omega)) (by rw [gz_up_r (by decide)]; exact h7) (fun i => ?_) (fun q h1 h2 => by rw [gz_up_ne h2]; exact hI q h1 h2)
    rw [gz_up_eq]
    by_cases z : i = I0 (7, t, 0) 2 + k
    · rw [if_pos z]
      unfold gz_ext
      rw [if_pos (by omega), show i - I0 (7, t, 0) 2 = k by omega]
    · rw [if_neg z, hj i]
      unfold gz_ext
      by_cases z2 : I0 (7, t, 0) 2 ≤ i ∧ i < I0 (7, t, 0) 2 + k
      · rw [if_pos z2, if_pos (by omega)]
      · rw [if_neg z2, if_neg (by omega)]
set_option maxHeartbeats 4000000 in
set_option maxRecDepth 100000 in
theorem ct_X4_extend (l : Launch) (D : va_G) (α : gz_P → Nat) (cA : Nat → ClassId) {I : gz_M} (hT : gz_T I) {t n v w : Int} (r_t : (-2147483648 ≤ t ∧ t ≤ 2147483647)) (r_n : (-2147483648 ≤ n ∧ n ≤ 2147483647)) (r_v : (-2147483648 ≤ v ∧ v ≤ 2147483647)) (r_w : (-2147483648 ≤ w ∧ w ≤ 2147483647)) : gz_V l D α cA RX4 cX4_extend (some .int) 8 2 (gz_Qi fun x I' => (¬ ((0 ≤ t ∧ t < I (0, 0, 0) 6) ∧ 0 ≤ n ∧ n ≤ 300) ∧ x = -2 ∧ I = I' ∨ ((0 ≤ t ∧ t < I (0, 0, 0) 6) ∧ 0 ≤ n ∧ n ≤ 300) ∧ 300 < I (7, t, 0) 2 + n ∧ x = -3 ∧ I = I' ∨ ((0 ≤ t ∧ t < I (0, 0, 0) 6) ∧ 0 ≤ n ∧ n ≤ 300) ∧ I (7, t, 0) 2 + n ≤ 300 ∧ x = I (7, t, 0) 2 + n ∧ gz_T I' ∧ I' (7, t, 0) 2 = I (7, t, 0) 2 + n ∧ (∀ i, I' (8, t, 0) i = gz_ext (I (8, t, 0)) (I (7, t, 0) 2) n v w i) ∧ (∀ q, q ≠ (7, t, 0) → q ≠ (8, t, 0) → I' q = I q))) I [some (.ref (α (0, 0, 0))), some (gz_i (t)), some (gz_i (n)), some (gz_i (v)), some (gz_i (w)), none, none, none] [] 0 := by
  first | refine gz_aload_n (pc := 0) dX4_extend_0 rfl ?_ | refine gz_aload_nN (pc := 0) dX4_extend_0 rfl ?_
  refine gz_iload_n (pc := 1) dX4_extend_1 rfl ?_
  refine gz_cV1i (pc := 2) dX4_extend_2 wm_X4_55 my_X4_isTask rfl rfl rfl (by first | exact gz_B1 | (omega)) (ct_X4_isTask l D α cA r_t (gz_tk hT 0 0)) (fun x2 I2 h2 => ?_)
  obtain ⟨rfl, hx2⟩ := h2
  have e1 := gz_tk hT 0 0
  have e2 := gz_t7 hT t 0 2
  refine gz_if_eq (pc := 5) (tgt := 19) dX4_extend_5 (by decide) (by omega) (fun h5 => ?_) (fun h5 => ?_)
  · refine gz_bipush (pc := 19) dX4_extend_19 rfl ?_
    refine gz_iret (pc := 21) dX4_extend_21 rfl ?_
    exact Or.inl ⟨by omega, rfl, rfl⟩
  · refine gz_iload_n (pc := 8) dX4_extend_8 rfl ?_
    refine gz_if_lt (pc := 9) (tgt := 19) dX4_extend_9 (by decide) (by omega) (fun h9 => ?_) (fun h9 => ?_)
    · refine gz_bipush (pc := 19) dX4_extend_19 rfl ?_
      refine gz_iret (pc := 21) dX4_extend_21 rfl ?_
      exact Or.inl ⟨by omega, rfl, rfl⟩
    · refine gz_iload_n (pc := 12) dX4_extend_12 rfl ?_
      refine gz_sipush (pc := 13) dX4_extend_13 rfl ?_
      refine gz_icmp_le (pc := 16) (tgt := 22) dX4_extend_16 (by decide) (by omega) (by omega) (fun h16 => ?_) (fun h16 => ?_)
      · first | refine gz_aload_n (pc := 22) dX4_extend_22 rfl ?_ | refine gz_aload_nN (pc := 22) dX4_extend_22 rfl ?_
        refine gz_getr (pc := 23) dX4_extend_23 fl_X4_11 rfl rfl rfl (by first | exact gz_B1 | (omega)) ?_
        refine gz_iload_n (pc := 26) dX4_extend_26 rfl ?_
        first | refine gz_ald1 (pc := 27) dX4_extend_27 (by omega) ?_ | refine gz_ald2 (pc := 27) dX4_extend_27 (by omega) ?_ | refine gz_ald4 (pc := 27) dX4_extend_27 (by omega) ?_ | refine gz_ald17 (pc := 27) dX4_extend_27 (by first | exact gz_B1 | (omega)) (by omega) ?_
        first | refine gz_astore (pc := 28) dX4_extend_28 rfl rfl rfl ?_ | refine gz_astoreN (pc := 28) dX4_extend_28 rfl rfl rfl ?_
        first | refine gz_aload (pc := 30) dX4_extend_30 rfl ?_ | refine gz_aloadN (pc := 30) dX4_extend_30 rfl ?_
        refine gz_getI (pc := 32) 2 dX4_extend_32 fl_X4_59 rfl rfl rfl rfl (by first | exact gz_B1 | (omega)) ?_
        refine gz_iload_n (pc := 35) dX4_extend_35 rfl ?_
        refine gz_iadd (pc := 36) dX4_extend_36 ?_
        refine gz_sipush (pc := 37) dX4_extend_37 rfl ?_
        refine gz_icmp_le (pc := 40) (tgt := 46) dX4_extend_40 (by decide) (by omega) (by omega) (fun h40 => ?_) (fun h40 => ?_)
        · first | refine gz_aload (pc := 46) dX4_extend_46 rfl ?_ | refine gz_aloadN (pc := 46) dX4_extend_46 rfl ?_
          refine gz_getI (pc := 48) 2 dX4_extend_48 fl_X4_59 rfl rfl rfl rfl (by first | exact gz_B1 | (omega)) ?_
          refine gz_istore (pc := 51) dX4_extend_51 rfl rfl rfl ?_
          first | refine gz_aload (pc := 53) dX4_extend_53 rfl ?_ | refine gz_aloadN (pc := 53) dX4_extend_53 rfl ?_
          refine gz_iload (pc := 55) dX4_extend_55 rfl ?_
          refine gz_iload_n (pc := 57) dX4_extend_57 rfl ?_
          refine gz_cV2v (pc := 58) dX4_extend_58 wm_X4_62 my_X2_open rfl rfl rfl (by first | exact gz_B1 | (omega)) (ct_X2_open l D α cA (by omega) e2 (by omega) (by omega)) (fun I58 h58 => ?_)
          subst h58
          refine gz_iconst (pc := 61) dX4_extend_61 ?_
          refine gz_istore (pc := 62) dX4_extend_62 rfl rfl rfl ?_
          refine lp_X4_extend l D α cA ⟨by omega, by omega⟩ (by omega) (by omega) 0 (by omega) _ (by omega) (gz_Tu7 (gz_T_cp hT (fun _ => ⟨rfl, rfl⟩) (fun _ => ⟨rfl, rfl⟩)) (by omega)) gz_up_s (fun i => ?_) (fun q h1 h2 => ?_)
          · rw [gz_up_r (by decide), gz_cp_k, if_neg (by omega)]
            unfold gz_ext
            rw [if_neg (by omega)]
          · rw [gz_up_ne h1]
            funext i
            unfold gz_cp
            rw [if_neg (fun z => h2 z.1)]
        · refine gz_bipush (pc := 43) dX4_extend_43 rfl ?_
          refine gz_iret (pc := 45) dX4_extend_45 rfl ?_
          exact Or.inr (Or.inl ⟨by omega, by omega, rfl, rfl⟩)
      · refine gz_bipush (pc := 19) dX4_extend_19 rfl ?_
        refine gz_iret (pc := 21) dX4_extend_21 rfl ?_
        exact Or.inl ⟨by omega, rfl, rfl⟩
set_option maxHeartbeats 4000000 in
set_option maxRecDepth 100000 in
theorem lp_X4_insert (l : Launch) (D : va_G) (α : gz_P → Nat) (cA : Nat → ClassId) {I0 : gz_M} {t a n : Int} {v : Int64} (hP : ((0 ≤ t ∧ t < I0 (0, 0, 0) 6) ∧ (0 ≤ n ∧ n ≤ 8) ∧ 0 ≤ a ∧ a ≤ I0 (7, t, 0) 2)) (ht4 : t < 4) (hs : I0 (7, t, 0) 2 + n ≤ 300) : ∀ k, k ≤ n → ∀ I : gz_M, 0 ≤ k → gz_T I → I (7, t, 0) 2 = I0 (7, t, 0) 2 + n → (∀ i, I (8, t, 0) i = if a + k ≤ i ∧ i < a + n then I0 (8, t, 0) i else gz_ins (I0 (8, t, 0)) (I0 (7, t, 0) 2) a n v i) → (∀ q, q ≠ (7, t, 0) → q ≠ (8, t, 0) → I q = I0 q) → gz_V l D α cA RX4 cX4_insert (some .int) 8 2 (gz_Qi fun x I' => (¬ ((0 ≤ t ∧ t < I0 (0, 0, 0) 6) ∧ (0 ≤ n ∧ n ≤ 8) ∧ 0 ≤ a ∧ a ≤ I0 (7, t, 0) 2) ∧ x = -2 ∧ I0 = I' ∨ ((0 ≤ t ∧ t < I0 (0, 0, 0) 6) ∧ (0 ≤ n ∧ n ≤ 8) ∧ 0 ≤ a ∧ a ≤ I0 (7, t, 0) 2) ∧ 300 < I0 (7, t, 0) 2 + n ∧ x = -3 ∧ I0 = I' ∨ ((0 ≤ t ∧ t < I0 (0, 0, 0) 6) ∧ (0 ≤ n ∧ n ≤ 8) ∧ 0 ≤ a ∧ a ≤ I0 (7, t, 0) 2) ∧ I0 (7, t, 0) 2 + n ≤ 300 ∧ x = I0 (7, t, 0) 2 + n ∧ gz_T I' ∧ I' (7, t, 0) 2 = I0 (7, t, 0) 2 + n ∧ (∀ i, I' (8, t, 0) i = gz_ins (I0 (8, t, 0)) (I0 (7, t, 0) 2) a n v i) ∧ (∀ q, q ≠ (7, t, 0) → q ≠ (8, t, 0) → I' q = I0 q))) I [some (.ref (α (0, 0, 0))), some (gz_i (t)), some (gz_i (a)), some (gz_i (n)), some (.long v), none, some (.ref (α (7, t, 0))), some (gz_i (k))] [] 71 := by
  refine gz_upto _ ?_
  intro k hk ih I h0 hTI h7 hj hI
  refine gz_iload (pc := 71) dX4_insert_71 rfl ?_
  refine gz_iload_n (pc := 73) dX4_insert_73 rfl ?_
  refine gz_icmp_ge (pc := 74) (tgt := 110) dX4_insert_74 (by decide) (by omega) (by omega) (fun h74 => ?_) (fun h74 => ?_)
  · first | refine gz_aload (pc := 110) dX4_insert_110 rfl ?_ | refine gz_aloadN (pc := 110) dX4_insert_110 rfl ?_
    refine gz_getI (pc := 112) 2 dX4_insert_112 fl_X4_59 rfl rfl rfl rfl (by first | exact gz_B1 | (omega)) ?_
    refine gz_iret (pc := 115) dX4_insert_115 rfl ?_
    refine Or.inr (Or.inr ⟨hP, by omega, h7, hTI, h7, fun i => ?_, hI⟩)
    rw [hj i, if_neg (by omega)]
  · first | refine gz_aload (pc := 77) dX4_insert_77 rfl ?_ | refine gz_aloadN (pc := 77) dX4_insert_77 rfl ?_
    refine gz_getr (pc := 79) dX4_insert_79 fl_X4_66 rfl rfl rfl (by first | exact gz_B1 | (omega)) ?_
    refine gz_iload_n (pc := 82) dX4_insert_82 rfl ?_
    refine gz_iload (pc := 83) dX4_insert_83 rfl ?_
    refine gz_iadd (pc := 85) dX4_insert_85 ?_
    refine gz_lload (pc := 86) dX4_insert_86 rfl ?_
    refine gz_bipush (pc := 88) dX4_insert_88 rfl ?_
    refine gz_iload_n (pc := 90) dX4_insert_90 rfl ?_
    refine gz_iconst (pc := 91) dX4_insert_91 ?_
    refine gz_isub (pc := 92) dX4_insert_92 ?_
    refine gz_iload (pc := 93) dX4_insert_93 rfl ?_
    refine gz_isub (pc := 95) dX4_insert_95 ?_
    refine gz_imul (pc := 96) dX4_insert_96 ?_
    refine gz_lushr (pc := 97) dX4_insert_97 ?_
    refine gz_l2i (pc := 98) dX4_insert_98 ?_
    refine gz_sipush (pc := 99) dX4_insert_99 rfl ?_
    refine gz_iand (pc := 102) dX4_insert_102 ?_
    refine gz_iast (pc := 103) dX4_insert_103 rfl rfl (by first | exact gz_B1 | (omega)) (by omega) ?_
    refine gz_iinc (pc := 104) dX4_insert_104 rfl rfl rfl rfl ?_
    refine gz_goto (pc := 107) (tgt := 71) dX4_insert_107 (by decide) ?_
    refine ih (k + 1) (by omega) (by omega) _ (by omega) (gz_Tu8 hTI (by omega)) (by rw [gz_up_r (by decide)]; exact h7) (fun i => ?_) (fun q h1 h2 => by rw [gz_up_ne h2]; exact hI q h1 h2)
    rw [gz_up_eq]
    by_cases z : i = a + k
    · rw [if_pos z, if_neg (by omega)]
      unfold gz_ins
      rw [if_pos (by omega), show i - a = k by omega]
      rfl
    · rw [if_neg z, hj i]
      by_cases z2 : a + k ≤ i ∧ i < a + n
      · rw [if_pos z2, if_pos (by omega)]
      · rw [if_neg z2, if_neg (by omega)]
set_option maxHeartbeats 4000000 in
set_option maxRecDepth 100000 in
theorem ct_X4_insert (l : Launch) (D : va_G) (α : gz_P → Nat) (cA : Nat → ClassId) {I : gz_M} (hT : gz_T I) {t a n : Int} (r_t : (-2147483648 ≤ t ∧ t ≤ 2147483647)) (r_a : (-2147483648 ≤ a ∧ a ≤ 2147483647)) (r_n : (-2147483648 ≤ n ∧ n ≤ 2147483647)) {v : Int64} : gz_V l D α cA RX4 cX4_insert (some .int) 8 2 (gz_Qi fun x I' => (¬ ((0 ≤ t ∧ t < I (0, 0, 0) 6) ∧ (0 ≤ n ∧ n ≤ 8) ∧ 0 ≤ a ∧ a ≤ I (7, t, 0) 2) ∧ x = -2 ∧ I = I' ∨ ((0 ≤ t ∧ t < I (0, 0, 0) 6) ∧ (0 ≤ n ∧ n ≤ 8) ∧ 0 ≤ a ∧ a ≤ I (7, t, 0) 2) ∧ 300 < I (7, t, 0) 2 + n ∧ x = -3 ∧ I = I' ∨ ((0 ≤ t ∧ t < I (0, 0, 0) 6) ∧ (0 ≤ n ∧ n ≤ 8) ∧ 0 ≤ a ∧ a ≤ I (7, t, 0) 2) ∧ I (7, t, 0) 2 + n ≤ 300 ∧ x = I (7, t, 0) 2 + n ∧ gz_T I' ∧ I' (7, t, 0) 2 = I (7, t, 0) 2 + n ∧ (∀ i, I' (8, t, 0) i = gz_ins (I (8, t, 0)) (I (7, t, 0) 2) a n v i) ∧ (∀ q, q ≠ (7, t, 0) → q ≠ (8, t, 0) → I' q = I q))) I [some (.ref (α (0, 0, 0))), some (gz_i (t)), some (gz_i (a)), some (gz_i (n)), some (.long v), none, none, none] [] 0 := by
  first | refine gz_aload_n (pc := 0) dX4_insert_0 rfl ?_ | refine gz_aload_nN (pc := 0) dX4_insert_0 rfl ?_
  refine gz_iload_n (pc := 1) dX4_insert_1 rfl ?_
  refine gz_cV1i (pc := 2) dX4_insert_2 wm_X4_55 my_X4_isTask rfl rfl rfl (by first | exact gz_B1 | (omega)) (ct_X4_isTask l D α cA r_t (gz_tk hT 0 0)) (fun x2 I2 h2 => ?_)
  obtain ⟨rfl, hx2⟩ := h2
  have e1 := gz_tk hT 0 0
  have e2 := gz_t7 hT t 0 2
  refine gz_if_eq (pc := 5) (tgt := 18) dX4_insert_5 (by decide) (by omega) (fun h5 => ?_) (fun h5 => ?_)
  · refine gz_bipush (pc := 18) dX4_insert_18 rfl ?_
    refine gz_iret (pc := 20) dX4_insert_20 rfl ?_
    exact Or.inl ⟨by omega, rfl, rfl⟩
  · refine gz_iload_n (pc := 8) dX4_insert_8 rfl ?_
    refine gz_if_lt (pc := 9) (tgt := 18) dX4_insert_9 (by decide) (by omega) (fun h9 => ?_) (fun h9 => ?_)
    · refine gz_bipush (pc := 18) dX4_insert_18 rfl ?_
      refine gz_iret (pc := 20) dX4_insert_20 rfl ?_
      exact Or.inl ⟨by omega, rfl, rfl⟩
    · refine gz_iload_n (pc := 12) dX4_insert_12 rfl ?_
      refine gz_bipush (pc := 13) dX4_insert_13 rfl ?_
      refine gz_icmp_le (pc := 15) (tgt := 21) dX4_insert_15 (by decide) (by omega) (by omega) (fun h15 => ?_) (fun h15 => ?_)
      · first | refine gz_aload_n (pc := 21) dX4_insert_21 rfl ?_ | refine gz_aload_nN (pc := 21) dX4_insert_21 rfl ?_
        refine gz_getr (pc := 22) dX4_insert_22 fl_X4_11 rfl rfl rfl (by first | exact gz_B1 | (omega)) ?_
        refine gz_iload_n (pc := 25) dX4_insert_25 rfl ?_
        first | refine gz_ald1 (pc := 26) dX4_insert_26 (by omega) ?_ | refine gz_ald2 (pc := 26) dX4_insert_26 (by omega) ?_ | refine gz_ald4 (pc := 26) dX4_insert_26 (by omega) ?_ | refine gz_ald17 (pc := 26) dX4_insert_26 (by first | exact gz_B1 | (omega)) (by omega) ?_
        first | refine gz_astore (pc := 27) dX4_insert_27 rfl rfl rfl ?_ | refine gz_astoreN (pc := 27) dX4_insert_27 rfl rfl rfl ?_
        refine gz_iload_n (pc := 29) dX4_insert_29 rfl ?_
        refine gz_if_lt (pc := 30) (tgt := 42) dX4_insert_30 (by decide) (by omega) (fun h30 => ?_) (fun h30 => ?_)
        · refine gz_bipush (pc := 42) dX4_insert_42 rfl ?_
          refine gz_iret (pc := 44) dX4_insert_44 rfl ?_
          exact Or.inl ⟨by omega, rfl, rfl⟩
        · refine gz_iload_n (pc := 33) dX4_insert_33 rfl ?_
          first | refine gz_aload (pc := 34) dX4_insert_34 rfl ?_ | refine gz_aloadN (pc := 34) dX4_insert_34 rfl ?_
          refine gz_getI (pc := 36) 2 dX4_insert_36 fl_X4_59 rfl rfl rfl rfl (by first | exact gz_B1 | (omega)) ?_
          refine gz_icmp_le (pc := 39) (tgt := 45) dX4_insert_39 (by decide) (by omega) (by omega) (fun h39 => ?_) (fun h39 => ?_)
          · first | refine gz_aload (pc := 45) dX4_insert_45 rfl ?_ | refine gz_aloadN (pc := 45) dX4_insert_45 rfl ?_
            refine gz_getI (pc := 47) 2 dX4_insert_47 fl_X4_59 rfl rfl rfl rfl (by first | exact gz_B1 | (omega)) ?_
            refine gz_iload_n (pc := 50) dX4_insert_50 rfl ?_
            refine gz_iadd (pc := 51) dX4_insert_51 ?_
            refine gz_sipush (pc := 52) dX4_insert_52 rfl ?_
            refine gz_icmp_le (pc := 55) (tgt := 61) dX4_insert_55 (by decide) (by omega) (by omega) (fun h55 => ?_) (fun h55 => ?_)
            · first | refine gz_aload (pc := 61) dX4_insert_61 rfl ?_ | refine gz_aloadN (pc := 61) dX4_insert_61 rfl ?_
              refine gz_iload_n (pc := 63) dX4_insert_63 rfl ?_
              refine gz_iload_n (pc := 64) dX4_insert_64 rfl ?_
              refine gz_cV2v (pc := 65) dX4_insert_65 wm_X4_62 my_X2_open rfl rfl rfl (by first | exact gz_B1 | (omega)) (ct_X2_open l D α cA (by omega) e2 (by omega) (by omega)) (fun I65 h65 => ?_)
              subst h65
              refine gz_iconst (pc := 68) dX4_insert_68 ?_
              refine gz_istore (pc := 69) dX4_insert_69 rfl rfl rfl ?_
              refine lp_X4_insert l D α cA (by omega) (by omega) (by omega) 0 (by omega) _ (by omega) (gz_Tu7 (gz_T_cp hT (fun _ => ⟨rfl, rfl⟩) (fun _ => ⟨rfl, rfl⟩)) (by omega)) gz_up_s (fun i => ?_) (fun q h1 h2 => ?_)
              · rw [gz_up_r (by decide), gz_cp_k]
                unfold gz_ins
                by_cases z : a ≤ i ∧ i < a + n
                · rw [if_neg (by omega), if_pos (by omega)]
                · rw [if_neg (by omega : ¬ (a + 0 ≤ i ∧ i < a + n)), if_neg z]
                  by_cases z2 : a + n ≤ i ∧ i < I (7, t, 0) 2 + n
                  · rw [if_pos z2, if_pos (by omega), show a + (i - (a + n)) = i - n by omega]
                  · rw [if_neg z2, if_neg (by omega)]
              · rw [gz_up_ne h1]
                funext i
                unfold gz_cp
                rw [if_neg (fun z => h2 z.1)]
            · refine gz_bipush (pc := 58) dX4_insert_58 rfl ?_
              refine gz_iret (pc := 60) dX4_insert_60 rfl ?_
              exact Or.inr (Or.inl ⟨by omega, by omega, rfl, rfl⟩)
          · refine gz_bipush (pc := 42) dX4_insert_42 rfl ?_
            refine gz_iret (pc := 44) dX4_insert_44 rfl ?_
            exact Or.inl ⟨by omega, rfl, rfl⟩
      · refine gz_bipush (pc := 18) dX4_insert_18 rfl ?_
        refine gz_iret (pc := 20) dX4_insert_20 rfl ?_
        exact Or.inl ⟨by omega, rfl, rfl⟩
