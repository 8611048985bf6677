theorem gz_r1_cong {z g B h h' b b' : Int → Int} {p : Int} (hp : 0 ≤ p ∧ p < 120) (hz : 0 ≤ z p ∧ z p ≤ 32) (e1 : ∀ q, 0 ≤ q → q < 120 → h q = h' q) (e2 : ∀ i, 0 ≤ i → i < 3840 → b i = b' i) : (∀ q, 0 ≤ q → q < 120 → (gz_r1 z g B p h b).1 q = (gz_r1 z g B p h' b').1 q) ∧ (∀ i, 0 ≤ i → i < 3840 → (gz_r1 z g B p h b).2 i = (gz_r1 z g B p h' b').2 i) := by
  have hd : gz_dg (fun i => b (32 * p + i)) (z p).toNat = gz_dg (fun i => b' (32 * p + i)) (z p).toNat := gz_dg_cong (fun i a1 a2 => e2 _ (by omega) (by omega))
  unfold gz_r1
  rw [hd, e1 p hp.1 hp.2]
  by_cases hc : h' p = 1 ∧ gz_dg (fun i => b' (32 * p + i)) (z p).toNat = g p
  · rw [if_pos hc, if_pos hc]
    exact ⟨e1, e2⟩
  · rw [if_neg hc, if_neg hc]
    refine ⟨fun q a1 a2 => ?_, fun i a1 a2 => ?_⟩
    · show (if q = p then 1 else h q) = if q = p then 1 else h' q
      rw [e1 q a1 a2]
    · show (if 32 * p ≤ i ∧ i < 32 * p + z p then B i else b i) = if 32 * p ≤ i ∧ i < 32 * p + z p then B i else b' i
      rw [e2 i a1 a2]
noncomputable abbrev gz_hM (I : gz_M) (t : Int) : Int → Int := fun p => I (28, 0, 0) (120 * t + p)
abbrev gz_bM (I : gz_M) (t : Int) : Int → Int := fun i => I (29, 0, 0) (3840 * t + i)
noncomputable abbrev gz_r1M (I : gz_M) (t p : Int) : (Int → Int) × (Int → Int) := gz_r1 (I (24, 0, 0)) (I (25, 0, 0)) (I (27, 0, 0)) p (gz_hM I t) (gz_bM I t)
theorem gz_scM_eq {I : gz_M} {t p : Int} : gz_scM I t p ↔ (gz_hM I t p = 1 ∧ gz_dg (fun i => gz_bM I t (32 * p + i)) (I (24, 0, 0) p).toNat = I (25, 0, 0) p) := by
  have e : (fun i => I (29, 0, 0) (32 * (120 * t + p) + i)) = (fun i => gz_bM I t (32 * p + i)) := by
    funext i
    show I (29, 0, 0) (32 * (120 * t + p) + i) = I (29, 0, 0) (3840 * t + (32 * p + i))
    rw [show 32 * (120 * t + p) + i = 3840 * t + (32 * p + i) by omega]
  unfold gz_scM
  rw [e]
/-- READING in the reference -/
def gz_RM (I I' : gz_M) (t p : Int) : Prop := gz_T I' ∧ (∀ q, 0 ≤ q → q < 120 → gz_hM I' t q = (gz_r1M I t p).1 q) ∧ (∀ i, 0 ≤ i → i < 3840 → gz_bM I' t i = (gz_r1M I t p).2 i) ∧ (∀ j, ¬ (120 * t ≤ j ∧ j < 120 * t + 120) → I' (28, 0, 0) j = I (28, 0, 0) j) ∧ (∀ j, ¬ (3840 * t ≤ j ∧ j < 3840 * t + 3840) → I' (29, 0, 0) j = I (29, 0, 0) j) ∧ (∀ i, 0 ≤ i → i < 300 → gz_fm I' t i = if I (21, 0, 0) t ≤ i ∧ i < I (21, 0, 0) t + I (24, 0, 0) p then (gz_r1M I t p).2 (32 * p + (i - I (21, 0, 0) t)) else gz_fm I t i) ∧ (∀ j, ¬ (300 * t ≤ j ∧ j < 300 * t + 300) → I' (22, 0, 0) j = I (22, 0, 0) j) ∧ I' (21, 0, 0) t = I (21, 0, 0) t + I (24, 0, 0) p ∧ (∀ u, u ≠ t → I' (21, 0, 0) u = I (21, 0, 0) u) ∧ ∀ q : gz_P, q ≠ (21, 0, 0) → q ≠ (22, 0, 0) → q ≠ (28, 0, 0) → q ≠ (29, 0, 0) → I' q = I q
set_option maxHeartbeats 4000000 in
set_option maxRecDepth 100000 in
theorem lp_X5_read2 (l : Launch) (D : va_G) (α : gz_P → Nat) (cA : Nat → ClassId) {I0 : gz_M} (hT0 : gz_T I0) {t p : Int} (ht : 0 ≤ t ∧ t < 4) (hp : 0 ≤ p ∧ p < 120) (hz : I0 (21, 0, 0) t + I0 (24, 0, 0) p ≤ 300) : ∀ I1 : gz_M, gz_T I1 → (∀ q, 0 ≤ q → q < 120 → gz_hM I1 t q = (gz_r1M I0 t p).1 q) → (∀ i, 0 ≤ i → i < 3840 → gz_bM I1 t i = (gz_r1M I0 t p).2 i) → (∀ j, ¬ (120 * t ≤ j ∧ j < 120 * t + 120) → I1 (28, 0, 0) j = I0 (28, 0, 0) j) → (∀ j, ¬ (3840 * t ≤ j ∧ j < 3840 * t + 3840) → I1 (29, 0, 0) j = I0 (29, 0, 0) j) → (∀ q : gz_P, q ≠ (28, 0, 0) → q ≠ (29, 0, 0) → I1 q = I0 q) → ∀ k, k ≤ I0 (24, 0, 0) p → ∀ I : gz_M, 0 ≤ k → gz_T I → (∀ j, I (22, 0, 0) j = if 300 * t + I0 (21, 0, 0) t ≤ j ∧ j < 300 * t + I0 (21, 0, 0) t + k then I1 (29, 0, 0) (32 * (120 * t + p) + (j - (300 * t + I0 (21, 0, 0) t))) else I0 (22, 0, 0) j) → (∀ q : gz_P, q ≠ (22, 0, 0) → I q = I1 q) → gz_V l D α cA RX5 cX5_read none 5 1 (gz_Qv fun I' => gz_RM I0 I' t p) I [some (.ref (α (20, 0, 0))), some (gz_i (t)), some (gz_i (p)), some (gz_i (32 * (120 * t + p))), some (gz_i (k))] [] 75 := by
  intro I1 m1 m2 m3 m4 m5 m6
  have e24 := gz_t24 hT0 0 0 p
  have e21 := gz_t21 hT0 0 0 t
  refine gz_upto _ ?_
  intro k hk ih I h0 hTI h22 hI
  have r24 : I (24, 0, 0) p = I0 (24, 0, 0) p := by rw [hI _ (gz_ne rfl), m6 _ (gz_ne rfl) (gz_ne rfl)]
  have r21 : I (21, 0, 0) t = I0 (21, 0, 0) t := by rw [hI _ (gz_ne rfl), m6 _ (gz_ne rfl) (gz_ne rfl)]
  have r29 : I (29, 0, 0) (32 * (120 * t + p) + k) = I1 (29, 0, 0) (32 * (120 * t + p) + k) := by rw [hI _ (gz_ne rfl)]
  have e29 := gz_t29 m1 0 0 (32 * (120 * t + p) + k)
  refine gz_iload (pc := 75) dX5_read_75 rfl ?_
  first | refine gz_aload_n (pc := 77) dX5_read_77 rfl ?_ | refine gz_aload_nN (pc := 77) dX5_read_77 rfl ?_
  refine gz_getr (pc := 78) dX5_read_78 fl_X5_23 rfl rfl rfl (by first | exact gz_B1 | (omega)) ?_
  refine gz_iload_n (pc := 81) dX5_read_81 rfl ?_
  refine gz_iald (pc := 82) dX5_read_82 rfl rfl (by first | exact gz_B1 | (omega)) (by omega) ?_
  rw [r24]
  refine gz_icmp_ge (pc := 83) (tgt := 121) dX5_read_83 (by decide) (by omega) (by omega) (fun h83 => ?_) (fun h83 => ?_)
  · first | refine gz_aload_n (pc := 121) dX5_read_121 rfl ?_ | refine gz_aload_nN (pc := 121) dX5_read_121 rfl ?_
    refine gz_getr (pc := 122) dX5_read_122 fl_X5_13 rfl rfl rfl (by first | exact gz_B1 | (omega)) ?_
    refine gz_iload_n (pc := 125) dX5_read_125 rfl ?_
    refine gz_dup2 (pc := 126) dX5_read_126 rfl rfl ?_
    refine gz_iald (pc := 127) dX5_read_127 rfl rfl (by first | exact gz_B1 | (omega)) (by omega) ?_
    first | refine gz_aload_n (pc := 128) dX5_read_128 rfl ?_ | refine gz_aload_nN (pc := 128) dX5_read_128 rfl ?_
    refine gz_getr (pc := 129) dX5_read_129 fl_X5_23 rfl rfl rfl (by first | exact gz_B1 | (omega)) ?_
    refine gz_iload_n (pc := 132) dX5_read_132 rfl ?_
    refine gz_iald (pc := 133) dX5_read_133 rfl rfl (by first | exact gz_B1 | (omega)) (by omega) ?_
    rw [r24, r21]
    refine gz_iadd (pc := 134) dX5_read_134 ?_
    refine gz_iast (pc := 135) dX5_read_135 rfl rfl (by first | exact gz_B1 | (omega)) (by omega) ?_
    refine gz_vret (pc := 136) dX5_read_136 rfl ?_
    rw [show k = I0 (24, 0, 0) p by omega] at h22
    refine ⟨gz_Tu21 hTI (by omega), fun q b1 b2 => ?_, fun i b1 b2 => ?_, fun j hj => ?_, fun j hj => ?_, fun i b1 b2 => ?_, fun j hj => ?_, gz_up_s, fun u hu => ?_, fun q q1 q2 q3 q4 => ?_⟩
    · show gz_up _ _ _ _ (28, 0, 0) _ = _
      rw [gz_up_r (by decide), hI _ (gz_ne rfl)]
      exact m2 q b1 b2
    · show gz_up _ _ _ _ (29, 0, 0) _ = _
      rw [gz_up_r (by decide), hI _ (gz_ne rfl)]
      exact m3 i b1 b2
    · rw [gz_up_r (by decide), hI _ (gz_ne rfl)]; exact m4 j hj
    · rw [gz_up_r (by decide), hI _ (gz_ne rfl)]; exact m5 j hj
    · show gz_up _ _ _ _ (22, 0, 0) (300 * t + i) = _
      rw [gz_up_r (by decide), h22]
      by_cases z : I0 (21, 0, 0) t ≤ i ∧ i < I0 (21, 0, 0) t + I0 (24, 0, 0) p
      · rw [if_pos z, if_pos (by omega), ← m3 _ (by omega) (by omega)]
        show _ = I1 (29, 0, 0) (3840 * t + (32 * p + (i - I0 (21, 0, 0) t)))
        rw [show 32 * (120 * t + p) + (300 * t + i - (300 * t + I0 (21, 0, 0) t)) = 3840 * t + (32 * p + (i - I0 (21, 0, 0) t)) by omega]
      · rw [if_neg z, if_neg (by omega)]; rfl
    · rw [gz_up_r (by decide), h22, if_neg (by omega)]
    · rw [gz_up_eq, if_neg hu, hI _ (gz_ne rfl), m6 _ (gz_ne rfl) (gz_ne rfl)]
    · rw [gz_up_ne q1, hI q q2, m6 q q3 q4]
  · first | refine gz_aload_n (pc := 86) dX5_read_86 rfl ?_ | refine gz_aload_nN (pc := 86) dX5_read_86 rfl ?_
    refine gz_getr (pc := 87) dX5_read_87 fl_X5_17 rfl rfl rfl (by first | exact gz_B1 | (omega)) ?_
    refine gz_sipush (pc := 90) dX5_read_90 rfl ?_
    refine gz_iload_n (pc := 93) dX5_read_93 rfl ?_
    refine gz_imul (pc := 94) dX5_read_94 ?_
    first | refine gz_aload_n (pc := 95) dX5_read_95 rfl ?_ | refine gz_aload_nN (pc := 95) dX5_read_95 rfl ?_
    refine gz_getr (pc := 96) dX5_read_96 fl_X5_13 rfl rfl rfl (by first | exact gz_B1 | (omega)) ?_
    refine gz_iload_n (pc := 99) dX5_read_99 rfl ?_
    refine gz_iald (pc := 100) dX5_read_100 rfl rfl (by first | exact gz_B1 | (omega)) (by omega) ?_
    rw [r21]
    refine gz_iadd (pc := 101) dX5_read_101 ?_
    refine gz_iload (pc := 102) dX5_read_102 rfl ?_
    refine gz_iadd (pc := 104) dX5_read_104 ?_
    first | refine gz_aload_n (pc := 105) dX5_read_105 rfl ?_ | refine gz_aload_nN (pc := 105) dX5_read_105 rfl ?_
    refine gz_getr (pc := 106) dX5_read_106 fl_X5_39 rfl rfl rfl (by first | exact gz_B1 | (omega)) ?_
    refine gz_iload_n (pc := 109) dX5_read_109 rfl ?_
    refine gz_iload (pc := 110) dX5_read_110 rfl ?_
    refine gz_iadd (pc := 112) dX5_read_112 ?_
    refine gz_iald (pc := 113) dX5_read_113 rfl rfl (by first | exact gz_B1 | (omega)) (by omega) ?_
    rw [r29]
    refine gz_iast (pc := 114) dX5_read_114 rfl rfl (by first | exact gz_B1 | (omega)) (by omega) ?_
    refine gz_iinc (pc := 115) dX5_read_115 rfl rfl rfl rfl ?_
    refine gz_goto (pc := 118) (tgt := 75) dX5_read_118 (by decide) ?_
    refine ih (k + 1) (by omega) (by omega) _ (by omega) (gz_Tu22 hTI (by omega)) (fun j => ?_) (fun q hq => by rw [gz_up_ne hq]; exact hI q hq)
    rw [gz_up_eq, h22 j]
    by_cases z : j = 300 * t + I0 (21, 0, 0) t + k
    · rw [if_pos z, if_pos (by omega), show j - (300 * t + I0 (21, 0, 0) t) = k by omega]
    · rw [if_neg z]
      by_cases z2 : 300 * t + I0 (21, 0, 0) t ≤ j ∧ j < 300 * t + I0 (21, 0, 0) t + k
      · rw [if_pos z2, if_pos (by omega)]
      · rw [if_neg z2, if_neg (by omega)]
set_option maxHeartbeats 4000000 in
set_option maxRecDepth 100000 in
theorem lp_X5_read1 (l : Launch) (D : va_G) (α : gz_P → Nat) (cA : Nat → ClassId) {I0 : gz_M} (hT0 : gz_T I0) {t p : Int} (ht : 0 ≤ t ∧ t < 4) (hp : 0 ≤ p ∧ p < 120) (hz : I0 (21, 0, 0) t + I0 (24, 0, 0) p ≤ 300) : ¬ gz_scM I0 t p → ∀ k, k ≤ I0 (24, 0, 0) p → ∀ I : gz_M, 0 ≤ k → gz_T I → (∀ j, I (29, 0, 0) j = if 32 * (120 * t + p) ≤ j ∧ j < 32 * (120 * t + p) + k then I0 (27, 0, 0) (32 * p + (j - 32 * (120 * t + p))) else I0 (29, 0, 0) j) → (∀ q : gz_P, q ≠ (29, 0, 0) → I q = (gz_up I0 (28, 0, 0) (120 * t + p) 1) q) → gz_V l D α cA RX5 cX5_read none 5 1 (gz_Qv fun I' => gz_RM I0 I' t p) I [some (.ref (α (20, 0, 0))), some (gz_i (t)), some (gz_i (p)), some (gz_i (32 * (120 * t + p))), some (gz_i (k))] [] 34 := by
  intro hsc
  have e24 := gz_t24 hT0 0 0 p
  refine gz_upto _ ?_
  intro k hk ih I h0 hTI h29 hI
  have r24 : I (24, 0, 0) p = I0 (24, 0, 0) p := by rw [hI _ (gz_ne rfl), gz_up_r (by decide)]
  have r27 : I (27, 0, 0) (32 * p + k) = I0 (27, 0, 0) (32 * p + k) := by rw [hI _ (gz_ne rfl), gz_up_r (by decide)]
  have e27 := gz_t27 hT0 0 0 (32 * p + k)
  refine gz_iload (pc := 34) dX5_read_34 rfl ?_
  first | refine gz_aload_n (pc := 36) dX5_read_36 rfl ?_ | refine gz_aload_nN (pc := 36) dX5_read_36 rfl ?_
  refine gz_getr (pc := 37) dX5_read_37 fl_X5_23 rfl rfl rfl (by first | exact gz_B1 | (omega)) ?_
  refine gz_iload_n (pc := 40) dX5_read_40 rfl ?_
  refine gz_iald (pc := 41) dX5_read_41 rfl rfl (by first | exact gz_B1 | (omega)) (by omega) ?_
  rw [r24]
  refine gz_icmp_ge (pc := 42) (tgt := 72) dX5_read_42 (by decide) (by omega) (by omega) (fun h42 => ?_) (fun h42 => ?_)
  · refine gz_iconst (pc := 72) dX5_read_72 ?_
    refine gz_istore (pc := 73) dX5_read_73 rfl rfl rfl ?_
    rw [show k = I0 (24, 0, 0) p by omega] at h29
    have hr : gz_r1M I0 t p = (fun q => if q = p then 1 else gz_hM I0 t q, fun i => if 32 * p ≤ i ∧ i < 32 * p + I0 (24, 0, 0) p then I0 (27, 0, 0) i else gz_bM I0 t i) := by
      show gz_r1 _ _ _ _ _ _ = _
      unfold gz_r1
      rw [if_neg (fun z => hsc (gz_scM_eq.mpr z))]
    refine lp_X5_read2 l D α cA hT0 ht hp hz I hTI ?_ ?_ ?_ ?_ ?_ 0 (by omega) I (by omega) hTI (fun j => ?_) (fun q _ => rfl)
    · intro q b1 b2
      rw [hr]
      show I (28, 0, 0) (120 * t + q) = if q = p then 1 else I0 (28, 0, 0) (120 * t + q)
      rw [hI _ (gz_ne rfl), gz_up_eq]
      by_cases z : q = p
      · rw [if_pos z, if_pos (by omega)]
      · rw [if_neg z, if_neg (by omega)]
    · intro i b1 b2
      rw [hr]
      show I (29, 0, 0) (3840 * t + i) = if 32 * p ≤ i ∧ i < 32 * p + I0 (24, 0, 0) p then I0 (27, 0, 0) i else I0 (29, 0, 0) (3840 * t + i)
      rw [h29]
      by_cases z : 32 * p ≤ i ∧ i < 32 * p + I0 (24, 0, 0) p
      · rw [if_pos z, if_pos (by omega), show 32 * p + (3840 * t + i - 32 * (120 * t + p)) = i by omega]
      · rw [if_neg z, if_neg (by omega)]
    · intro j hj
      rw [hI _ (gz_ne rfl), gz_up_eq, if_neg (by omega)]
    · intro j hj
      rw [h29, if_neg (by omega)]
    · intro q q1 q2
      rw [hI q q2, gz_up_ne q1]
    · rw [if_neg (by omega), hI _ (gz_ne rfl), gz_up_r (by decide)]
  · first | refine gz_aload_n (pc := 45) dX5_read_45 rfl ?_ | refine gz_aload_nN (pc := 45) dX5_read_45 rfl ?_
    refine gz_getr (pc := 46) dX5_read_46 fl_X5_39 rfl rfl rfl (by first | exact gz_B1 | (omega)) ?_
    refine gz_iload_n (pc := 49) dX5_read_49 rfl ?_
    refine gz_iload (pc := 50) dX5_read_50 rfl ?_
    refine gz_iadd (pc := 52) dX5_read_52 ?_
    first | refine gz_aload_n (pc := 53) dX5_read_53 rfl ?_ | refine gz_aload_nN (pc := 53) dX5_read_53 rfl ?_
    refine gz_getr (pc := 54) dX5_read_54 fl_X5_33 rfl rfl rfl (by first | exact gz_B1 | (omega)) ?_
    refine gz_bipush (pc := 57) dX5_read_57 rfl ?_
    refine gz_iload_n (pc := 59) dX5_read_59 rfl ?_
    refine gz_imul (pc := 60) dX5_read_60 ?_
    refine gz_iload (pc := 61) dX5_read_61 rfl ?_
    refine gz_iadd (pc := 63) dX5_read_63 ?_
    refine gz_iald (pc := 64) dX5_read_64 rfl rfl (by first | exact gz_B1 | (omega)) (by omega) ?_
    rw [r27]
    refine gz_iast (pc := 65) dX5_read_65 rfl rfl (by first | exact gz_B1 | (omega)) (by omega) ?_
    refine gz_iinc (pc := 66) dX5_read_66 rfl rfl rfl rfl ?_
    refine gz_goto (pc := 69) (tgt := 34) dX5_read_69 (by decide) ?_
    refine ih (k + 1) (by omega) (by omega) _ (by omega) (gz_Tu29 hTI (by omega)) (fun j => ?_) (fun q hq => by rw [gz_up_ne hq]; exact hI q hq)
    rw [gz_up_eq, h29 j]
    by_cases z : j = 32 * (120 * t + p) + k
    · rw [if_pos z, if_pos (by omega), show j - 32 * (120 * t + p) = k by omega]
    · rw [if_neg z]
      by_cases z2 : 32 * (120 * t + p) ≤ j ∧ j < 32 * (120 * t + p) + k
      · rw [if_pos z2, if_pos (by omega)]
      · rw [if_neg z2, if_neg (by omega)]
set_option maxHeartbeats 4000000 in
set_option maxRecDepth 100000 in
theorem ct_X5_read (l : Launch) (D : va_G) (α : gz_P → Nat) (cA : Nat → ClassId) {I0 : gz_M} (hT0 : gz_T I0) {t p : Int} (ht : 0 ≤ t ∧ t < 4) (hp : 0 ≤ p ∧ p < 120) (hz : I0 (21, 0, 0) t + I0 (24, 0, 0) p ≤ 300) : gz_V l D α cA RX5 cX5_read none 5 1 (gz_Qv fun I' => gz_RM I0 I' t p) I0 [some (.ref (α (20, 0, 0))), some (gz_i (t)), some (gz_i (p)), none, none] [] 0 := by
  refine gz_bipush (pc := 0) dX5_read_0 rfl ?_
  refine gz_bipush (pc := 2) dX5_read_2 rfl ?_
  refine gz_iload_n (pc := 4) dX5_read_4 rfl ?_
  refine gz_imul (pc := 5) dX5_read_5 ?_
  refine gz_iload_n (pc := 6) dX5_read_6 rfl ?_
  refine gz_iadd (pc := 7) dX5_read_7 ?_
  refine gz_imul (pc := 8) dX5_read_8 ?_
  refine gz_istore_n (pc := 9) dX5_read_9 rfl rfl rfl ?_
  first | refine gz_aload_n (pc := 10) dX5_read_10 rfl ?_ | refine gz_aload_nN (pc := 10) dX5_read_10 rfl ?_
  refine gz_iload_n (pc := 11) dX5_read_11 rfl ?_
  refine gz_iload_n (pc := 12) dX5_read_12 rfl ?_
  refine gz_cV2i (pc := 13) dX5_read_13 wm_X5_93 my_X5_isGoodCopy rfl rfl rfl (by first | exact gz_B1 | (omega)) (ct_X5_isGoodCopy l D α cA hT0 ht hp) (fun x13 I13 h13 => ?_)
  obtain ⟨rfl, ⟨rfl, hg⟩ | ⟨rfl, hg⟩⟩ := h13
  · refine gz_if_ne (pc := 16) (tgt := 72) dX5_read_16 (by decide) (by omega) (fun h16 => ?_) (fun h16 => ?_)
    · refine gz_iconst (pc := 72) dX5_read_72 ?_
      refine gz_istore (pc := 73) dX5_read_73 rfl rfl rfl ?_
      first
        | exact absurd rfl h16
        | (have hr : gz_r1M I0 t p = (gz_hM I0 t, gz_bM I0 t) := by
             show gz_r1 _ _ _ _ _ _ = _
             unfold gz_r1
             rw [if_pos (gz_scM_eq.mp hg)]
           refine lp_X5_read2 l D α cA hT0 ht hp hz I0 hT0 (fun q _ _ => by rw [hr]) (fun i _ _ => by rw [hr]) (fun _ _ => rfl) (fun _ _ => rfl) (fun _ _ _ => rfl) 0 (by have := gz_t24 hT0 0 0 p; omega) I0 (by omega) hT0 (fun j => by rw [if_neg (by omega)]) (fun q _ => rfl))
    · first | refine gz_aload_n (pc := 19) dX5_read_19 rfl ?_ | refine gz_aload_nN (pc := 19) dX5_read_19 rfl ?_
      refine gz_getr (pc := 20) dX5_read_20 fl_X5_36 rfl rfl rfl (by first | exact gz_B1 | (omega)) ?_
      refine gz_bipush (pc := 23) dX5_read_23 rfl ?_
      refine gz_iload_n (pc := 25) dX5_read_25 rfl ?_
      refine gz_imul (pc := 26) dX5_read_26 ?_
      refine gz_iload_n (pc := 27) dX5_read_27 rfl ?_
      refine gz_iadd (pc := 28) dX5_read_28 ?_
      refine gz_iconst (pc := 29) dX5_read_29 ?_
      refine gz_zast (pc := 30) dX5_read_30 rfl rfl (by first | exact gz_B1 | (omega)) (by omega) (by omega) ?_
      refine gz_iconst (pc := 31) dX5_read_31 ?_
      refine gz_istore (pc := 32) dX5_read_32 rfl rfl rfl ?_
      first
        | exact absurd h16 (by decide)
        | exact lp_X5_read1 l D α cA hT0 ht hp hz hg 0 (by have := gz_t24 hT0 0 0 p; omega) _ (by omega) (gz_Tu28 hT0 (by decide)) (fun j => by rw [if_neg (by omega), gz_up_r (by decide)]) (fun q _ => rfl)
  · refine gz_if_ne (pc := 16) (tgt := 72) dX5_read_16 (by decide) (by omega) (fun h16 => ?_) (fun h16 => ?_)
    · refine gz_iconst (pc := 72) dX5_read_72 ?_
      refine gz_istore (pc := 73) dX5_read_73 rfl rfl rfl ?_
      first
        | exact absurd rfl h16
        | (have hr : gz_r1M I0 t p = (gz_hM I0 t, gz_bM I0 t) := by
             show gz_r1 _ _ _ _ _ _ = _
             unfold gz_r1
             rw [if_pos (gz_scM_eq.mp hg)]
           refine lp_X5_read2 l D α cA hT0 ht hp hz I0 hT0 (fun q _ _ => by rw [hr]) (fun i _ _ => by rw [hr]) (fun _ _ => rfl) (fun _ _ => rfl) (fun _ _ _ => rfl) 0 (by have := gz_t24 hT0 0 0 p; omega) I0 (by omega) hT0 (fun j => by rw [if_neg (by omega)]) (fun q _ => rfl))
    · first | refine gz_aload_n (pc := 19) dX5_read_19 rfl ?_ | refine gz_aload_nN (pc := 19) dX5_read_19 rfl ?_
      refine gz_getr (pc := 20) dX5_read_20 fl_X5_36 rfl rfl rfl (by first | exact gz_B1 | (omega)) ?_
      refine gz_bipush (pc := 23) dX5_read_23 rfl ?_
      refine gz_iload_n (pc := 25) dX5_read_25 rfl ?_
      refine gz_imul (pc := 26) dX5_read_26 ?_
      refine gz_iload_n (pc := 27) dX5_read_27 rfl ?_
      refine gz_iadd (pc := 28) dX5_read_28 ?_
      refine gz_iconst (pc := 29) dX5_read_29 ?_
      refine gz_zast (pc := 30) dX5_read_30 rfl rfl (by first | exact gz_B1 | (omega)) (by omega) (by omega) ?_
      refine gz_iconst (pc := 31) dX5_read_31 ?_
      refine gz_istore (pc := 32) dX5_read_32 rfl rfl rfl ?_
      first
        | exact absurd h16 (by decide)
        | exact lp_X5_read1 l D α cA hT0 ht hp hz hg 0 (by have := gz_t24 hT0 0 0 p; omega) _ (by omega) (gz_Tu28 hT0 (by decide)) (fun j => by rw [if_neg (by omega), gz_up_r (by decide)]) (fun q _ => rfl)
