/-- the reference becomes n tasks -/
def gz_BC (I I' : gz_M) (n : Int) : Prop := gz_T I' ∧ I' (20, 0, 0) 0 = n ∧ (∀ i, i ≠ 0 → I' (20, 0, 0) i = I (20, 0, 0) i) ∧ (∀ t, 0 ≤ t → t < 4 → I' (21, 0, 0) t = if n ≤ t then 0 else I (21, 0, 0) t) ∧ (∀ j, 0 ≤ j → j < 480 → I' (28, 0, 0) j = if 120 * n ≤ j then 0 else I (28, 0, 0) j) ∧ ∀ q : gz_P, q ≠ (20, 0, 0) → q ≠ (21, 0, 0) → q ≠ (28, 0, 0) → I' q = I q
set_option maxHeartbeats 4000000 in
set_option maxRecDepth 100000 in
theorem lp_X5_become2 (l : Launch) (D : va_G) (α : gz_P → Nat) (cA : Nat → ClassId) {I0 : gz_M} (hT : gz_T I0) {n : Int} (hn : 1 ≤ n ∧ n ≤ 4) : ∀ t, (n ≤ t ∧ t < 4) → (∀ I : gz_M, gz_T I → I (20, 0, 0) 0 = n → (∀ i, i ≠ 0 → I (20, 0, 0) i = I0 (20, 0, 0) i) → (∀ u, 0 ≤ u → u < 4 → I (21, 0, 0) u = if n ≤ u ∧ u < t + 1 then 0 else I0 (21, 0, 0) u) → (∀ j, 0 ≤ j → j < 480 → I (28, 0, 0) j = if 120 * n ≤ j ∧ j < 120 * (t + 1) then 0 else I0 (28, 0, 0) j) → (∀ q : gz_P, q ≠ (20, 0, 0) → q ≠ (21, 0, 0) → q ≠ (28, 0, 0) → I q = I0 q) → ∀ o : Option Value, gz_V l D α cA RX5 cX5_become none 4 0 (gz_Qv fun I' => gz_BC I0 I' n) I [some (.ref (α (20, 0, 0))), some (gz_i (n)), some (gz_i (t + 1)), o] [] 7) → ∀ p, p ≤ 120 → ∀ I : gz_M, 0 ≤ p → gz_T I → I (20, 0, 0) 0 = n → (∀ i, i ≠ 0 → I (20, 0, 0) i = I0 (20, 0, 0) i) → (∀ u, 0 ≤ u → u < 4 → I (21, 0, 0) u = if n ≤ u ∧ u < t + 1 then 0 else I0 (21, 0, 0) u) → (∀ j, 0 ≤ j → j < 480 → I (28, 0, 0) j = if 120 * n ≤ j ∧ j < 120 * t + p then 0 else I0 (28, 0, 0) j) → (∀ q : gz_P, q ≠ (20, 0, 0) → q ≠ (21, 0, 0) → q ≠ (28, 0, 0) → I q = I0 q) → gz_V l D α cA RX5 cX5_become none 4 0 (gz_Qv fun I' => gz_BC I0 I' n) I [some (.ref (α (20, 0, 0))), some (gz_i (n)), some (gz_i (t)), some (gz_i (p))] [] 21 := by
  intro t ht kk
  refine gz_upto _ ?_
  intro p hp ih I h0 hTI h20 h2i h21 h28 hI
  refine gz_iload_n (pc := 21) dX5_become_21 rfl ?_
  refine gz_bipush (pc := 22) dX5_become_22 rfl ?_
  refine gz_icmp_ge (pc := 24) (tgt := 45) dX5_become_24 (by decide) (by omega) (by omega) (fun h24 => ?_) (fun h24 => ?_)
  · refine gz_iinc (pc := 45) dX5_become_45 rfl rfl rfl rfl ?_
    refine gz_goto (pc := 48) (tgt := 7) dX5_become_48 (by decide) ?_
    rw [show 120 * t + p = 120 * (t + 1) by omega] at h28
    exact kk I hTI h20 h2i h21 h28 hI _
  · first | refine gz_aload_n (pc := 27) dX5_become_27 rfl ?_ | refine gz_aload_nN (pc := 27) dX5_become_27 rfl ?_
    refine gz_getr (pc := 28) dX5_become_28 fl_X5_36 rfl rfl rfl (by first | exact gz_B1 | (omega)) ?_
    refine gz_bipush (pc := 31) dX5_become_31 rfl ?_
    refine gz_iload_n (pc := 33) dX5_become_33 rfl ?_
    refine gz_imul (pc := 34) dX5_become_34 ?_
    refine gz_iload_n (pc := 35) dX5_become_35 rfl ?_
    refine gz_iadd (pc := 36) dX5_become_36 ?_
    refine gz_iconst (pc := 37) dX5_become_37 ?_
    refine gz_zast (pc := 38) dX5_become_38 rfl rfl (by first | exact gz_B1 | (omega)) (by omega) (by omega) ?_
    refine gz_iinc (pc := 39) dX5_become_39 rfl rfl rfl rfl ?_
    refine gz_goto (pc := 42) (tgt := 21) dX5_become_42 (by decide) ?_
    refine ih (p + 1) (by omega) (by omega) _ (by omega) (gz_Tu28 hTI (by decide)) (by rw [gz_up_r (by decide)]; exact h20) (fun i hi => by rw [gz_up_r (by decide)]; exact h2i i hi) (fun u b1 b2 => by rw [gz_up_r (by decide)]; exact h21 u b1 b2) (fun j b1 b2 => ?_) (fun q q1 q2 q3 => by rw [gz_up_ne q3]; exact hI q q1 q2 q3)
    rw [gz_up_eq, h28 j b1 b2]
    by_cases z : j = 120 * t + p
    · rw [if_pos z, if_pos (by omega)]
    · rw [if_neg z]
      by_cases z2 : 120 * n ≤ j ∧ j < 120 * t + p
      · rw [if_pos z2, if_pos (by omega)]
      · rw [if_neg z2, if_neg (by omega)]
set_option maxHeartbeats 4000000 in
set_option maxRecDepth 100000 in
theorem lp_X5_become (l : Launch) (D : va_G) (α : gz_P → Nat) (cA : Nat → ClassId) {I0 : gz_M} (hT : gz_T I0) {n : Int} (hn : 1 ≤ n ∧ n ≤ 4) : ∀ t, t ≤ 4 → ∀ I : gz_M, n ≤ t → gz_T I → I (20, 0, 0) 0 = n → (∀ i, i ≠ 0 → I (20, 0, 0) i = I0 (20, 0, 0) i) → (∀ u, 0 ≤ u → u < 4 → I (21, 0, 0) u = if n ≤ u ∧ u < t then 0 else I0 (21, 0, 0) u) → (∀ j, 0 ≤ j → j < 480 → I (28, 0, 0) j = if 120 * n ≤ j ∧ j < 120 * t then 0 else I0 (28, 0, 0) j) → (∀ q : gz_P, q ≠ (20, 0, 0) → q ≠ (21, 0, 0) → q ≠ (28, 0, 0) → I q = I0 q) → ∀ o : Option Value, gz_V l D α cA RX5 cX5_become none 4 0 (gz_Qv fun I' => gz_BC I0 I' n) I [some (.ref (α (20, 0, 0))), some (gz_i (n)), some (gz_i (t)), o] [] 7 := by
  refine gz_upto _ ?_
  intro t ht ih I h0 hTI h20 h2i h21 h28 hI o
  refine gz_iload_n (pc := 7) dX5_become_7 rfl ?_
  refine gz_iconst (pc := 8) dX5_become_8 ?_
  refine gz_icmp_ge (pc := 9) (tgt := 51) dX5_become_9 (by decide) (by omega) (by omega) (fun h9 => ?_) (fun h9 => ?_)
  · refine gz_vret (pc := 51) dX5_become_51 rfl ?_
    refine ⟨hTI, h20, h2i, fun u b1 b2 => ?_, fun j b1 b2 => ?_, hI⟩
    · rw [h21 u b1 b2]
      by_cases z : n ≤ u
      · rw [if_pos z, if_pos (by omega)]
      · rw [if_neg z, if_neg (by omega)]
    · rw [h28 j b1 b2]
      by_cases z : 120 * n ≤ j
      · rw [if_pos z, if_pos (by omega)]
      · rw [if_neg z, if_neg (by omega)]
  · first | refine gz_aload_n (pc := 12) dX5_become_12 rfl ?_ | refine gz_aload_nN (pc := 12) dX5_become_12 rfl ?_
    refine gz_getr (pc := 13) dX5_become_13 fl_X5_13 rfl rfl rfl (by first | exact gz_B1 | (omega)) ?_
    refine gz_iload_n (pc := 16) dX5_become_16 rfl ?_
    refine gz_iconst (pc := 17) dX5_become_17 ?_
    refine gz_iast (pc := 18) dX5_become_18 rfl rfl (by first | exact gz_B1 | (omega)) (by omega) ?_
    refine gz_iconst (pc := 19) dX5_become_19 ?_
    refine gz_istore_n (pc := 20) dX5_become_20 rfl rfl rfl ?_
    refine lp_X5_become2 l D α cA hT hn t (by omega) (fun I9 a1 a2 a3 a4 a5 a6 o => ih (t + 1) (by omega) (by omega) I9 (by omega) a1 a2 a3 a4 a5 a6 o) 0 (by omega) _ (by omega) (gz_Tu21 hTI (by decide)) (by rw [gz_up_r (by decide)]; exact h20) (fun i hi => by rw [gz_up_r (by decide)]; exact h2i i hi) (fun u b1 b2 => ?_) (fun j b1 b2 => ?_) (fun q q1 q2 q3 => by rw [gz_up_ne q2]; exact hI q q1 q2 q3)
    · rw [gz_up_eq, h21 u b1 b2]
      by_cases z : u = t
      · rw [if_pos z, if_pos (by omega)]
      · rw [if_neg z]
        by_cases z2 : n ≤ u ∧ u < t
        · rw [if_pos z2, if_pos (by omega)]
        · rw [if_neg z2, if_neg (by omega)]
    · rw [gz_up_r (by decide), h28 j b1 b2, Int.add_zero]
set_option maxHeartbeats 4000000 in
set_option maxRecDepth 100000 in
theorem ct_X5_become (l : Launch) (D : va_G) (α : gz_P → Nat) (cA : Nat → ClassId) {I0 : gz_M} (hT : gz_T I0) {n : Int} (hn : 1 ≤ n ∧ n ≤ 4) : gz_V l D α cA RX5 cX5_become none 4 0 (gz_Qv fun I' => gz_BC I0 I' n) I0 [some (.ref (α (20, 0, 0))), some (gz_i (n)), none, none] [] 0 := by
  first | refine gz_aload_n (pc := 0) dX5_become_0 rfl ?_ | refine gz_aload_nN (pc := 0) dX5_become_0 rfl ?_
  refine gz_iload_n (pc := 1) dX5_become_1 rfl ?_
  refine gz_putI (pc := 2) 0 dX5_become_2 fw_X5_7 rfl rfl rfl rfl (by first | exact gz_B1 | (omega)) (Or.inl rfl) ?_
  refine gz_iload_n (pc := 5) dX5_become_5 rfl ?_
  refine gz_istore_n (pc := 6) dX5_become_6 rfl rfl rfl ?_
  refine lp_X5_become l D α cA hT hn n (by omega) _ (Int.le_refl n) (gz_Tu20_0 hT (by omega)) gz_up_s (fun i hi => by rw [gz_up_eq, if_neg hi]) (fun u b1 b2 => by rw [gz_up_r (by decide), if_neg (by omega)]) (fun j b1 b2 => by rw [gz_up_r (by decide), if_neg (by omega)]) (fun q q1 q2 q3 => by rw [gz_up_ne q1]) _
/-- RESCALING in the reference: J all bytes in their order, A how many -/
def gz_JM (I : gz_M) (J : Int → Int) : Prop := ∀ t, 0 ≤ t → t < I (20, 0, 0) 0 → ∀ i, 0 ≤ i → i < I (21, 0, 0) t → J (gz_sm (gz_ZM I) t.toNat + i) = gz_fm I t i
def gz_shr (A n t : Int) : Int := A * (t + 1) / n - A * t / n
theorem gz_mulr {A t n : Int} (hA : 0 ≤ A ∧ A ≤ 1200) (ht : 0 ≤ t ∧ t ≤ 4) : 0 ≤ A * t ∧ A * t ≤ 4800 := ⟨Int.mul_nonneg hA.1 ht.1, Int.le_trans (Int.mul_le_mul hA.2 ht.2 ht.1 (by decide)) (by decide)⟩
def gz_RD (I0 I1 I : gz_M) (A n t : Int) : Prop := gz_T I ∧ (∀ u, 0 ≤ u → u < 4 → I (21, 0, 0) u = if u < t then gz_shr A n u else I0 (21, 0, 0) u) ∧ (∀ u i, 0 ≤ u → u < 4 → 0 ≤ i → i < 300 → gz_fm I u i = if u < t ∧ i < gz_shr A n u then I1 (23, 0, 0) (A * u / n + i) else gz_fm I0 u i) ∧ ∀ q : gz_P, q ≠ (21, 0, 0) → q ≠ (22, 0, 0) → I q = I1 q
set_option maxHeartbeats 4000000 in
set_option maxRecDepth 100000 in
theorem lp_X5_rescale4 (l : Launch) (D : va_G) (α : gz_P → Nat) (cA : Nat → ClassId) {I0 I1 : gz_M} (hT0 : gz_T I0) (hT1 : gz_T I1) (h01 : ∀ q : gz_P, q ≠ (23, 0, 0) → I1 q = I0 q) {A n : Int} (hA : 0 ≤ A ∧ A ≤ 1200) (hn : 1 ≤ n ∧ n ≤ 4) (hsh : ∀ t, 0 ≤ t → t < n → gz_shr A n t ≤ 300) {P : Int → gz_M → Prop} (hP : ∀ K I' : gz_M, gz_RD I0 I1 K A n n → gz_BC K I' n → P (I0 (20, 0, 0) 0) I') : ∀ t, (0 ≤ t ∧ t < n) → (∀ I : gz_M, gz_RD I0 I1 I A n (t + 1) → ∀ o4 o5 : Option Value, gz_V l D α cA RX5 cX5_rescale (some .int) 6 2 (gz_Qi P) I [some (.ref (α (20, 0, 0))), some (gz_i (n)), some (gz_i (A)), some (gz_i (t + 1)), o4, o5] [] 109) → ∀ k, k ≤ gz_shr A n t → ∀ I : gz_M, 0 ≤ k → gz_T I → (∀ u, 0 ≤ u → u < 4 → I (21, 0, 0) u = if u < t + 1 then gz_shr A n u else I0 (21, 0, 0) u) → (∀ u i, 0 ≤ u → u < 4 → 0 ≤ i → i < 300 → gz_fm I u i = if (u < t ∧ i < gz_shr A n u) ∨ (u = t ∧ i < k) then I1 (23, 0, 0) (A * u / n + i) else gz_fm I0 u i) → (∀ q : gz_P, q ≠ (21, 0, 0) → q ≠ (22, 0, 0) → I q = I1 q) → gz_V l D α cA RX5 cX5_rescale (some .int) 6 2 (gz_Qi P) I [some (.ref (α (20, 0, 0))), some (gz_i (n)), some (gz_i (A)), some (gz_i (t)), some (gz_i (A * t / n)), some (gz_i (k))] [] 140 := by
  intro t ht kk
  have s1 := gz_share hA.1 hn.1 (t := t) ⟨ht.1, ht.2⟩
  have s2 := hsh t ht.1 ht.2
  have s3 : gz_shr A n t = A * (t + 1) / n - A * t / n := rfl
  refine gz_upto _ ?_
  intro k hk ih I h0 hTI h21 h22 hI
  have r21 : I (21, 0, 0) t = gz_shr A n t := by rw [h21 t ht.1 (by omega), if_pos (by omega)]
  have r23 : I (23, 0, 0) (A * t / n + k) = I1 (23, 0, 0) (A * t / n + k) := by rw [hI _ (gz_ne rfl) (gz_ne rfl)]
  have e23 := gz_t23 hT1 0 0 (A * t / n + k)
  refine gz_iload (pc := 140) dX5_rescale_140 rfl ?_
  first | refine gz_aload_n (pc := 142) dX5_rescale_142 rfl ?_ | refine gz_aload_nN (pc := 142) dX5_rescale_142 rfl ?_
  refine gz_getr (pc := 143) dX5_rescale_143 fl_X5_13 rfl rfl rfl (by first | exact gz_B1 | (omega)) ?_
  refine gz_iload_n (pc := 146) dX5_rescale_146 rfl ?_
  refine gz_iald (pc := 147) dX5_rescale_147 rfl rfl (by first | exact gz_B1 | (omega)) (by omega) ?_
  rw [r21]
  refine gz_icmp_ge (pc := 148) (tgt := 180) dX5_rescale_148 (by decide) (by omega) (by omega) (fun h148 => ?_) (fun h148 => ?_)
  · refine gz_iinc (pc := 180) dX5_rescale_180 rfl rfl rfl rfl ?_
    refine gz_goto (pc := 183) (tgt := 109) dX5_rescale_183 (by decide) ?_
    refine kk I ⟨hTI, h21, fun u i b1 b2 b3 b4 => ?_, hI⟩ _ _
    rw [h22 u i b1 b2 b3 b4]
    by_cases z : u < t + 1 ∧ i < gz_shr A n u
    · rw [if_pos z, if_pos]
      by_cases e : u = t
      · rw [e] at z ⊢; exact Or.inr ⟨rfl, by omega⟩
      · exact Or.inl ⟨by omega, z.2⟩
    · rw [if_neg z, if_neg]
      rintro (e | e)
      · omega
      · rw [e.1] at z; omega
  · first | refine gz_aload_n (pc := 151) dX5_rescale_151 rfl ?_ | refine gz_aload_nN (pc := 151) dX5_rescale_151 rfl ?_
    refine gz_getr (pc := 152) dX5_rescale_152 fl_X5_17 rfl rfl rfl (by first | exact gz_B1 | (omega)) ?_
    refine gz_sipush (pc := 155) dX5_rescale_155 rfl ?_
    refine gz_iload_n (pc := 158) dX5_rescale_158 rfl ?_
    refine gz_imul (pc := 159) dX5_rescale_159 ?_
    refine gz_iload (pc := 160) dX5_rescale_160 rfl ?_
    refine gz_iadd (pc := 162) dX5_rescale_162 ?_
    first | refine gz_aload_n (pc := 163) dX5_rescale_163 rfl ?_ | refine gz_aload_nN (pc := 163) dX5_rescale_163 rfl ?_
    refine gz_getr (pc := 164) dX5_rescale_164 fl_X5_20 rfl rfl rfl (by first | exact gz_B1 | (omega)) ?_
    refine gz_iload (pc := 167) dX5_rescale_167 rfl ?_
    refine gz_iload (pc := 169) dX5_rescale_169 rfl ?_
    refine gz_iadd (pc := 171) dX5_rescale_171 ?_
    refine gz_iald (pc := 172) dX5_rescale_172 rfl rfl (by first | exact gz_B1 | (omega)) (by omega) ?_
    rw [r23]
    refine gz_iast (pc := 173) dX5_rescale_173 rfl rfl (by first | exact gz_B1 | (omega)) (by omega) ?_
    refine gz_iinc (pc := 174) dX5_rescale_174 rfl rfl rfl rfl ?_
    refine gz_goto (pc := 177) (tgt := 140) dX5_rescale_177 (by decide) ?_
    refine ih (k + 1) (by omega) (by omega) _ (by omega) (gz_Tu22 hTI (by omega)) (fun u b1 b2 => by rw [gz_up_r (by decide)]; exact h21 u b1 b2) (fun u i b1 b2 b3 b4 => ?_) (fun q q1 q2 => by rw [gz_up_ne q2]; exact hI q q1 q2)
    show gz_up _ _ _ _ (22, 0, 0) (300 * u + i) = _
    rw [gz_up_eq]
    have h9 := h22 u i b1 b2 b3 b4
    by_cases z : u = t ∧ i = k
    · rw [if_pos (by omega), if_pos (Or.inr (by omega)), z.1, z.2]
    · rw [if_neg (by omega)]
      by_cases z2 : (u < t ∧ i < gz_shr A n u) ∨ (u = t ∧ i < k)
      · rw [if_pos z2] at h9
        rw [if_pos (by omega)]
        exact h9
      · rw [if_neg z2] at h9
        rw [if_neg (by omega)]
        exact h9
set_option maxHeartbeats 4000000 in
set_option maxRecDepth 100000 in
theorem lp_X5_rescale3 (l : Launch) (D : va_G) (α : gz_P → Nat) (cA : Nat → ClassId) {I0 I1 : gz_M} (hT0 : gz_T I0) (hT1 : gz_T I1) (h01 : ∀ q : gz_P, q ≠ (23, 0, 0) → I1 q = I0 q) {A n : Int} (hA : 0 ≤ A ∧ A ≤ 1200) (hn : 1 ≤ n ∧ n ≤ 4) (hsh : ∀ t, 0 ≤ t → t < n → gz_shr A n t ≤ 300) {P : Int → gz_M → Prop} (hP : ∀ K I' : gz_M, gz_RD I0 I1 K A n n → gz_BC K I' n → P (I0 (20, 0, 0) 0) I') : ∀ t, t ≤ n → ∀ I : gz_M, 0 ≤ t → gz_RD I0 I1 I A n t → ∀ o4 o5 : Option Value, gz_V l D α cA RX5 cX5_rescale (some .int) 6 2 (gz_Qi P) I [some (.ref (α (20, 0, 0))), some (gz_i (n)), some (gz_i (A)), some (gz_i (t)), o4, o5] [] 109 := by
  refine gz_upto _ ?_
  intro t ht ih I h0 hR o4 o5
  obtain ⟨hTI, h21, h22, hI⟩ := id hR
  have r20 : I (20, 0, 0) 0 = I0 (20, 0, 0) 0 := by rw [hI _ (gz_ne rfl) (gz_ne rfl), h01 _ (gz_ne rfl)]
  have m1 := gz_mulr (n := n) hA (t := t) (by omega)
  have m2 : t < n → 0 ≤ A * (t + 1) ∧ A * (t + 1) ≤ 4800 := fun hlt => gz_mulr (n := n) hA (by omega)
  have s1 : t < n → 0 ≤ A * t / n ∧ A * t / n ≤ A * (t + 1) / n ∧ A * (t + 1) / n ≤ A := fun hlt => gz_share hA.1 hn.1 (t := t) ⟨h0, hlt⟩
  have s2 : t < n → gz_shr A n t ≤ 300 := hsh t h0
  have s3 : gz_shr A n t = A * (t + 1) / n - A * t / n := rfl
  refine gz_iload_n (pc := 109) dX5_rescale_109 rfl ?_
  refine gz_iload_n (pc := 110) dX5_rescale_110 rfl ?_
  refine gz_icmp_ge (pc := 111) (tgt := 186) dX5_rescale_111 (by decide) (by omega) (by omega) (fun h111 => ?_) (fun h111 => ?_)
  · first | refine gz_aload_n (pc := 186) dX5_rescale_186 rfl ?_ | refine gz_aload_nN (pc := 186) dX5_rescale_186 rfl ?_
    refine gz_getI (pc := 187) 0 dX5_rescale_187 fl_X5_7 rfl rfl rfl rfl (by first | exact gz_B1 | (omega)) ?_
    rw [r20]
    refine gz_istore_n (pc := 190) dX5_rescale_190 rfl rfl rfl ?_
    first | refine gz_aload_n (pc := 191) dX5_rescale_191 rfl ?_ | refine gz_aload_nN (pc := 191) dX5_rescale_191 rfl ?_
    refine gz_iload_n (pc := 192) dX5_rescale_192 rfl ?_
    refine gz_cV1v (pc := 193) dX5_rescale_193 wm_X5_86 my_X5_become rfl rfl rfl (by first | exact gz_B1 | (omega)) (ct_X5_become l D α cA hTI hn) (fun I193 h193 => ?_)
    refine gz_iload_n (pc := 196) dX5_rescale_196 rfl ?_
    refine gz_iret (pc := 197) dX5_rescale_197 rfl ?_
    rw [show t = n by omega] at hR
    exact hP I I193 hR h193
  · refine gz_iload_n (pc := 114) dX5_rescale_114 rfl ?_
    refine gz_iload_n (pc := 115) dX5_rescale_115 rfl ?_
    refine gz_imul (pc := 116) dX5_rescale_116 ?_
    refine gz_iload_n (pc := 117) dX5_rescale_117 rfl ?_
    refine gz_idiv (pc := 118) dX5_rescale_118 (by omega) (by omega) ?_
    refine gz_istore (pc := 119) dX5_rescale_119 rfl rfl rfl ?_
    first | refine gz_aload_n (pc := 121) dX5_rescale_121 rfl ?_ | refine gz_aload_nN (pc := 121) dX5_rescale_121 rfl ?_
    refine gz_getr (pc := 122) dX5_rescale_122 fl_X5_13 rfl rfl rfl (by first | exact gz_B1 | (omega)) ?_
    refine gz_iload_n (pc := 125) dX5_rescale_125 rfl ?_
    refine gz_iload_n (pc := 126) dX5_rescale_126 rfl ?_
    refine gz_iload_n (pc := 127) dX5_rescale_127 rfl ?_
    refine gz_iconst (pc := 128) dX5_rescale_128 ?_
    refine gz_iadd (pc := 129) dX5_rescale_129 ?_
    refine gz_imul (pc := 130) dX5_rescale_130 ?_
    refine gz_iload_n (pc := 131) dX5_rescale_131 rfl ?_
    refine gz_idiv (pc := 132) dX5_rescale_132 (by omega) (by omega) ?_
    refine gz_iload (pc := 133) dX5_rescale_133 rfl ?_
    refine gz_isub (pc := 135) dX5_rescale_135 ?_
    refine gz_iast (pc := 136) dX5_rescale_136 rfl rfl (by first | exact gz_B1 | (omega)) (by omega) ?_
    refine gz_iconst (pc := 137) dX5_rescale_137 ?_
    refine gz_istore (pc := 138) dX5_rescale_138 rfl rfl rfl ?_
    refine lp_X5_rescale4 l D α cA hT0 hT1 h01 hA hn hsh hP t (by omega) (fun I9 g1 o4 o5 => ih (t + 1) (by omega) (by omega) I9 (by omega) g1 _ _) 0 (by omega) _ (by omega) (gz_Tu21 hTI (by omega)) (fun u b1 b2 => ?_) (fun u i b1 b2 b3 b4 => ?_) (fun q q1 q2 => by rw [gz_up_ne q1]; exact hI q q1 q2)
    · rw [gz_up_eq, h21 u b1 b2]
      by_cases z : u = t
      · rw [if_pos z, if_pos (by omega), z]; rfl
      · rw [if_neg z]
        by_cases z2 : u < t
        · rw [if_pos z2, if_pos (by omega)]
        · rw [if_neg z2, if_neg (by omega)]
    · show gz_up _ _ _ _ (22, 0, 0) (300 * u + i) = _
      rw [gz_up_r (by decide)]
      have h9 := h22 u i b1 b2 b3 b4
      by_cases z2 : u < t ∧ i < gz_shr A n u
      · rw [if_pos z2] at h9
        rw [if_pos (Or.inl z2)]
        exact h9
      · rw [if_neg z2] at h9
        rw [if_neg (by omega)]
        exact h9
set_option maxHeartbeats 4000000 in
set_option maxRecDepth 100000 in
theorem lp_X5_rescale2 (l : Launch) (D : va_G) (α : gz_P → Nat) (cA : Nat → ClassId) {I0 : gz_M} (hT0 : gz_T I0) {n : Int} (hn : 1 ≤ n ∧ n ≤ 4) : ∀ I1 : gz_M, gz_T I1 → (∀ q : gz_P, q ≠ (23, 0, 0) → I1 q = I0 q) → gz_JM I0 (I1 (23, 0, 0)) → ∀ t, t ≤ n → 0 ≤ t → (∀ u, 0 ≤ u → u < t → gz_shr (gz_sm (gz_ZM I0) (I0 (20, 0, 0) 0).toNat) n u ≤ 300) → ∀ o4 o5 : Option Value, gz_V l D α cA RX5 cX5_rescale (some .int) 6 2 (gz_Qi fun x I' => (¬ (1 ≤ n ∧ n ≤ 4) ∧ x = -2 ∧ I0 = I' ∨ (1 ≤ n ∧ n ≤ 4) ∧ ∃ I1 : gz_M, gz_T I1 ∧ (∀ q : gz_P, q ≠ (23, 0, 0) → I1 q = I0 q) ∧ gz_JM I0 (I1 (23, 0, 0)) ∧ ((∃ t, (0 ≤ t ∧ t < n) ∧ 300 < gz_shr (gz_sm (gz_ZM I0) (I0 (20, 0, 0) 0).toNat) n t) ∧ x = -3 ∧ I' = I1 ∨ (∀ t, 0 ≤ t → t < n → gz_shr (gz_sm (gz_ZM I0) (I0 (20, 0, 0) 0).toNat) n t ≤ 300) ∧ x = I0 (20, 0, 0) 0 ∧ ∃ K, gz_RD I0 I1 K (gz_sm (gz_ZM I0) (I0 (20, 0, 0) 0).toNat) n n ∧ gz_BC K I' n))) I1 [some (.ref (α (20, 0, 0))), some (gz_i (n)), some (gz_i ((gz_sm (gz_ZM I0) (I0 (20, 0, 0) 0).toNat))), some (gz_i (t)), o4, o5] [] 74 := by
  intro I1 hT1 h01 hJ
  have e0 := gz_tM0 hT0 0 0
  have e2 := gz_sm_in (f := gz_ZM I0) (lo := 0) (hi := 300) (fun i => gz_t21 hT0 0 0 i) (I0 (20, 0, 0) 0).toNat
  have hA : 0 ≤ (gz_sm (gz_ZM I0) (I0 (20, 0, 0) 0).toNat) ∧ (gz_sm (gz_ZM I0) (I0 (20, 0, 0) 0).toNat) ≤ 1200 := by omega
  refine gz_upto _ ?_
  intro t ht ih h0 hs o4 o5
  have m1 := gz_mulr (n := n) hA (t := t) (by omega)
  have m2 : t < n → 0 ≤ (gz_sm (gz_ZM I0) (I0 (20, 0, 0) 0).toNat) * (t + 1) ∧ (gz_sm (gz_ZM I0) (I0 (20, 0, 0) 0).toNat) * (t + 1) ≤ 4800 := fun hlt => gz_mulr (n := n) hA (by omega)
  have s1 : t < n → 0 ≤ (gz_sm (gz_ZM I0) (I0 (20, 0, 0) 0).toNat) * t / n ∧ (gz_sm (gz_ZM I0) (I0 (20, 0, 0) 0).toNat) * t / n ≤ (gz_sm (gz_ZM I0) (I0 (20, 0, 0) 0).toNat) * (t + 1) / n ∧ (gz_sm (gz_ZM I0) (I0 (20, 0, 0) 0).toNat) * (t + 1) / n ≤ (gz_sm (gz_ZM I0) (I0 (20, 0, 0) 0).toNat) := fun hlt => gz_share hA.1 hn.1 (t := t) ⟨h0, hlt⟩
  refine gz_iload_n (pc := 74) dX5_rescale_74 rfl ?_
  refine gz_iload_n (pc := 75) dX5_rescale_75 rfl ?_
  refine gz_icmp_ge (pc := 76) (tgt := 107) dX5_rescale_76 (by decide) (by omega) (by omega) (fun h76 => ?_) (fun h76 => ?_)
  · refine gz_iconst (pc := 107) dX5_rescale_107 ?_
    refine gz_istore_n (pc := 108) dX5_rescale_108 rfl rfl rfl ?_
    refine lp_X5_rescale3 l D α cA hT0 hT1 h01 hA hn (fun u b1 b2 => hs u b1 (by omega)) (fun K I' g1 g2 => Or.inr ⟨hn, I1, hT1, h01, hJ, Or.inr ⟨fun u b1 b2 => hs u b1 (by omega), rfl, K, g1, g2⟩⟩) 0 (by omega) I1 (by omega) ⟨hT1, fun u b1 b2 => by rw [if_neg (by omega), h01 _ (gz_ne rfl)], fun u i b1 b2 b3 b4 => by rw [if_neg (by omega)]; unfold gz_fm; rw [h01 _ (gz_ne rfl)], fun q _ _ => rfl⟩ _ _
  · refine gz_iload_n (pc := 79) dX5_rescale_79 rfl ?_
    refine gz_iload_n (pc := 80) dX5_rescale_80 rfl ?_
    refine gz_iconst (pc := 81) dX5_rescale_81 ?_
    refine gz_iadd (pc := 82) dX5_rescale_82 ?_
    refine gz_imul (pc := 83) dX5_rescale_83 ?_
    refine gz_iload_n (pc := 84) dX5_rescale_84 rfl ?_
    refine gz_idiv (pc := 85) dX5_rescale_85 (by omega) (by omega) ?_
    refine gz_iload_n (pc := 86) dX5_rescale_86 rfl ?_
    refine gz_iload_n (pc := 87) dX5_rescale_87 rfl ?_
    refine gz_imul (pc := 88) dX5_rescale_88 ?_
    refine gz_iload_n (pc := 89) dX5_rescale_89 rfl ?_
    refine gz_idiv (pc := 90) dX5_rescale_90 (by omega) (by omega) ?_
    refine gz_isub (pc := 91) dX5_rescale_91 ?_
    refine gz_sipush (pc := 92) dX5_rescale_92 rfl ?_
    refine gz_icmp_le (pc := 95) (tgt := 101) dX5_rescale_95 (by decide) (by omega) (by omega) (fun h95 => ?_) (fun h95 => ?_)
    · refine gz_iinc (pc := 101) dX5_rescale_101 rfl rfl rfl rfl ?_
      refine gz_goto (pc := 104) (tgt := 74) dX5_rescale_104 (by decide) ?_
      refine ih (t + 1) (by omega) (by omega) (by omega) (fun u b1 b2 => ?_) _ _
      by_cases z : u = t
      · rw [z]; exact h95
      · exact hs u b1 (by omega)
    · refine gz_bipush (pc := 98) dX5_rescale_98 rfl ?_
      refine gz_iret (pc := 100) dX5_rescale_100 rfl ?_
      exact Or.inr ⟨hn, I1, hT1, h01, hJ, Or.inl ⟨⟨t, by omega, h95⟩, rfl, rfl⟩⟩
set_option maxHeartbeats 4000000 in
set_option maxRecDepth 100000 in
theorem lp_X5_rescale1 (l : Launch) (D : va_G) (α : gz_P → Nat) (cA : Nat → ClassId) {I0 : gz_M} (hT0 : gz_T I0) {n : Int} (hn : 1 ≤ n ∧ n ≤ 4) : ∀ t, (0 ≤ t ∧ t < I0 (20, 0, 0) 0) → (∀ I : gz_M, gz_T I → (∀ u, 0 ≤ u → u < 4 → ∀ i, 0 ≤ i → i < I0 (21, 0, 0) u → (u < (t + 1) ∨ u = (t + 1) ∧ i < 0) → I (23, 0, 0) (gz_sm (gz_ZM I0) u.toNat + i) = gz_fm I0 u i) → (∀ q : gz_P, q ≠ (23, 0, 0) → I q = I0 q) → ∀ o4 o5 : Option Value, gz_V l D α cA RX5 cX5_rescale (some .int) 6 2 (gz_Qi fun x I' => (¬ (1 ≤ n ∧ n ≤ 4) ∧ x = -2 ∧ I0 = I' ∨ (1 ≤ n ∧ n ≤ 4) ∧ ∃ I1 : gz_M, gz_T I1 ∧ (∀ q : gz_P, q ≠ (23, 0, 0) → I1 q = I0 q) ∧ gz_JM I0 (I1 (23, 0, 0)) ∧ ((∃ t, (0 ≤ t ∧ t < n) ∧ 300 < gz_shr (gz_sm (gz_ZM I0) (I0 (20, 0, 0) 0).toNat) n t) ∧ x = -3 ∧ I' = I1 ∨ (∀ t, 0 ≤ t → t < n → gz_shr (gz_sm (gz_ZM I0) (I0 (20, 0, 0) 0).toNat) n t ≤ 300) ∧ x = I0 (20, 0, 0) 0 ∧ ∃ K, gz_RD I0 I1 K (gz_sm (gz_ZM I0) (I0 (20, 0, 0) 0).toNat) n n ∧ gz_BC K I' n))) I [some (.ref (α (20, 0, 0))), some (gz_i (n)), some (gz_i (gz_sm (gz_ZM I0) (t + 1).toNat)), some (gz_i (t + 1)), o4, o5] [] 16) → ∀ k, k ≤ I0 (21, 0, 0) t → ∀ I : gz_M, 0 ≤ k → gz_T I → (∀ u, 0 ≤ u → u < 4 → ∀ i, 0 ≤ i → i < I0 (21, 0, 0) u → (u < t ∨ u = t ∧ i < k) → I (23, 0, 0) (gz_sm (gz_ZM I0) u.toNat + i) = gz_fm I0 u i) → (∀ q : gz_P, q ≠ (23, 0, 0) → I q = I0 q) → ∀ o5 : Option Value, gz_V l D α cA RX5 cX5_rescale (some .int) 6 2 (gz_Qi fun x I' => (¬ (1 ≤ n ∧ n ≤ 4) ∧ x = -2 ∧ I0 = I' ∨ (1 ≤ n ∧ n ≤ 4) ∧ ∃ I1 : gz_M, gz_T I1 ∧ (∀ q : gz_P, q ≠ (23, 0, 0) → I1 q = I0 q) ∧ gz_JM I0 (I1 (23, 0, 0)) ∧ ((∃ t, (0 ≤ t ∧ t < n) ∧ 300 < gz_shr (gz_sm (gz_ZM I0) (I0 (20, 0, 0) 0).toNat) n t) ∧ x = -3 ∧ I' = I1 ∨ (∀ t, 0 ≤ t → t < n → gz_shr (gz_sm (gz_ZM I0) (I0 (20, 0, 0) 0).toNat) n t ≤ 300) ∧ x = I0 (20, 0, 0) 0 ∧ ∃ K, gz_RD I0 I1 K (gz_sm (gz_ZM I0) (I0 (20, 0, 0) 0).toNat) n n ∧ gz_BC K I' n))) I [some (.ref (α (20, 0, 0))), some (gz_i (n)), some (gz_i (gz_sm (gz_ZM I0) t.toNat + k)), some (gz_i (t)), some (gz_i (k)), o5] [] 27 := by
  intro t ht kk
  have e0 := gz_tM0 hT0 0 0
  have e1 := gz_t21 hT0 0 0 t
  have e3 := gz_sm_in (f := gz_ZM I0) (lo := 0) (hi := 300) (fun i => gz_t21 hT0 0 0 i) t.toNat
  refine gz_upto _ ?_
  intro k hk ih I h0 hTI hj hI o5
  have r21 : I (21, 0, 0) t = I0 (21, 0, 0) t := by rw [hI _ (gz_ne rfl)]
  have r22 : I (22, 0, 0) (300 * t + k) = I0 (22, 0, 0) (300 * t + k) := by rw [hI _ (gz_ne rfl)]
  have e22 := gz_t22 hT0 0 0 (300 * t + k)
  refine gz_iload (pc := 27) dX5_rescale_27 rfl ?_
  first | refine gz_aload_n (pc := 29) dX5_rescale_29 rfl ?_ | refine gz_aload_nN (pc := 29) dX5_rescale_29 rfl ?_
  refine gz_getr (pc := 30) dX5_rescale_30 fl_X5_13 rfl rfl rfl (by first | exact gz_B1 | (omega)) ?_
  refine gz_iload_n (pc := 33) dX5_rescale_33 rfl ?_
  refine gz_iald (pc := 34) dX5_rescale_34 rfl rfl (by first | exact gz_B1 | (omega)) (by omega) ?_
  rw [r21]
  refine gz_icmp_ge (pc := 35) (tgt := 66) dX5_rescale_35 (by decide) (by omega) (by omega) (fun h35 => ?_) (fun h35 => ?_)
  · refine gz_iinc (pc := 66) dX5_rescale_66 rfl rfl rfl rfl ?_
    refine gz_goto (pc := 69) (tgt := 16) dX5_rescale_69 (by decide) ?_
    have hk2 : k = I0 (21, 0, 0) t := by omega
    have hs2 : gz_sm (gz_ZM I0) t.toNat + k = gz_sm (gz_ZM I0) (t + 1).toNat := by rw [show (t + 1).toNat = t.toNat + 1 by omega, gz_sm_s, Int.toNat_of_nonneg ht.1, hk2]
    rw [hs2]
    refine kk I hTI (fun u b1 b2 i b3 b4 b5 => hj u b1 b2 i b3 b4 ?_) hI _ _
    by_cases e : u = t
    · right; rw [e] at b4; omega
    · left; omega
  · first | refine gz_aload_n (pc := 38) dX5_rescale_38 rfl ?_ | refine gz_aload_nN (pc := 38) dX5_rescale_38 rfl ?_
    refine gz_getr (pc := 39) dX5_rescale_39 fl_X5_20 rfl rfl rfl (by first | exact gz_B1 | (omega)) ?_
    refine gz_iload_n (pc := 42) dX5_rescale_42 rfl ?_
    first | refine gz_aload_n (pc := 43) dX5_rescale_43 rfl ?_ | refine gz_aload_nN (pc := 43) dX5_rescale_43 rfl ?_
    refine gz_getr (pc := 44) dX5_rescale_44 fl_X5_17 rfl rfl rfl (by first | exact gz_B1 | (omega)) ?_
    refine gz_sipush (pc := 47) dX5_rescale_47 rfl ?_
    refine gz_iload_n (pc := 50) dX5_rescale_50 rfl ?_
    refine gz_imul (pc := 51) dX5_rescale_51 ?_
    refine gz_iload (pc := 52) dX5_rescale_52 rfl ?_
    refine gz_iadd (pc := 54) dX5_rescale_54 ?_
    refine gz_iald (pc := 55) dX5_rescale_55 rfl rfl (by first | exact gz_B1 | (omega)) (by omega) ?_
    rw [r22]
    refine gz_iast (pc := 56) dX5_rescale_56 rfl rfl (by first | exact gz_B1 | (omega)) (by omega) ?_
    refine gz_iinc (pc := 57) dX5_rescale_57 rfl rfl rfl rfl ?_
    rw [Int.add_assoc]
    refine gz_iinc (pc := 60) dX5_rescale_60 rfl rfl rfl rfl ?_
    refine gz_goto (pc := 63) (tgt := 27) dX5_rescale_63 (by decide) ?_
    refine ih (k + 1) (by omega) (by omega) _ (by omega) (gz_Tu23 hTI (by omega)) (fun u b1 b2 i b3 b4 b5 => ?_) (fun q hq => by rw [gz_up_ne hq]; exact hI q hq) _
    rw [gz_up_eq]
    by_cases z : u = t ∧ i = k
    · rw [if_pos (by rw [z.1, z.2]), z.1, z.2]; rfl
    · have hne : ¬ gz_sm (gz_ZM I0) u.toNat + i = gz_sm (gz_ZM I0) t.toNat + k := by
        by_cases e : u = t
        · rw [e]; omega
        · have h9 := gz_sm_mono (f := gz_ZM I0) (fun v => (gz_t21 hT0 0 0 v).1) (a := u.toNat + 1) (b := t.toNat) (by omega)
          rw [gz_sm_s, Int.toNat_of_nonneg b1] at h9
          have h8 : gz_ZM I0 u = I0 (21, 0, 0) u := rfl
          omega
      rw [if_neg hne]
      exact hj u b1 b2 i b3 b4 (by omega)
set_option maxHeartbeats 4000000 in
set_option maxRecDepth 100000 in
theorem lp_X5_rescale0 (l : Launch) (D : va_G) (α : gz_P → Nat) (cA : Nat → ClassId) {I0 : gz_M} (hT0 : gz_T I0) {n : Int} (hn : 1 ≤ n ∧ n ≤ 4) : ∀ t, t ≤ I0 (20, 0, 0) 0 → ∀ I : gz_M, 0 ≤ t → gz_T I → (∀ u, 0 ≤ u → u < 4 → ∀ i, 0 ≤ i → i < I0 (21, 0, 0) u → (u < t ∨ u = t ∧ i < 0) → I (23, 0, 0) (gz_sm (gz_ZM I0) u.toNat + i) = gz_fm I0 u i) → (∀ q : gz_P, q ≠ (23, 0, 0) → I q = I0 q) → ∀ o4 o5 : Option Value, gz_V l D α cA RX5 cX5_rescale (some .int) 6 2 (gz_Qi fun x I' => (¬ (1 ≤ n ∧ n ≤ 4) ∧ x = -2 ∧ I0 = I' ∨ (1 ≤ n ∧ n ≤ 4) ∧ ∃ I1 : gz_M, gz_T I1 ∧ (∀ q : gz_P, q ≠ (23, 0, 0) → I1 q = I0 q) ∧ gz_JM I0 (I1 (23, 0, 0)) ∧ ((∃ t, (0 ≤ t ∧ t < n) ∧ 300 < gz_shr (gz_sm (gz_ZM I0) (I0 (20, 0, 0) 0).toNat) n t) ∧ x = -3 ∧ I' = I1 ∨ (∀ t, 0 ≤ t → t < n → gz_shr (gz_sm (gz_ZM I0) (I0 (20, 0, 0) 0).toNat) n t ≤ 300) ∧ x = I0 (20, 0, 0) 0 ∧ ∃ K, gz_RD I0 I1 K (gz_sm (gz_ZM I0) (I0 (20, 0, 0) 0).toNat) n n ∧ gz_BC K I' n))) I [some (.ref (α (20, 0, 0))), some (gz_i (n)), some (gz_i (gz_sm (gz_ZM I0) t.toNat)), some (gz_i (t)), o4, o5] [] 16 := by
  have e0 := gz_tM0 hT0 0 0
  refine gz_upto _ ?_
  intro t ht ih I h0 hTI hj hI o4 o5
  have r20 : I (20, 0, 0) 0 = I0 (20, 0, 0) 0 := by rw [hI _ (gz_ne rfl)]
  refine gz_iload_n (pc := 16) dX5_rescale_16 rfl ?_
  first | refine gz_aload_n (pc := 17) dX5_rescale_17 rfl ?_ | refine gz_aload_nN (pc := 17) dX5_rescale_17 rfl ?_
  refine gz_getI (pc := 18) 0 dX5_rescale_18 fl_X5_7 rfl rfl rfl rfl (by first | exact gz_B1 | (omega)) ?_
  rw [r20]
  refine gz_icmp_ge (pc := 21) (tgt := 72) dX5_rescale_21 (by decide) (by omega) (by omega) (fun h21 => ?_) (fun h21 => ?_)
  · refine gz_iconst (pc := 72) dX5_rescale_72 ?_
    refine gz_istore_n (pc := 73) dX5_rescale_73 rfl rfl rfl ?_
    rw [show t = I0 (20, 0, 0) 0 by omega] at hj ⊢
    exact lp_X5_rescale2 l D α cA hT0 hn I hTI hI (fun u b1 b2 i b3 b4 => hj u b1 (by omega) i b3 b4 (Or.inl b2)) 0 (by omega) (by omega) (fun u b1 b2 => by omega) _ _
  · refine gz_iconst (pc := 24) dX5_rescale_24 ?_
    refine gz_istore (pc := 25) dX5_rescale_25 rfl rfl rfl ?_
    have h9 := lp_X5_rescale1 l D α cA hT0 hn t (by omega) (fun I9 g1 g2 g3 o4 o5 => ih (t + 1) (by omega) (by omega) I9 (by omega) g1 g2 g3 _ _) 0 (by have := gz_t21 hT0 0 0 t; omega) I (by omega) hTI hj hI
    rw [Int.add_zero] at h9
    exact h9 _
set_option maxHeartbeats 4000000 in
set_option maxRecDepth 100000 in
theorem ct_X5_rescale (l : Launch) (D : va_G) (α : gz_P → Nat) (cA : Nat → ClassId) {I0 : gz_M} (hT0 : gz_T I0) {n : Int} (r_n : (-2147483648 ≤ n ∧ n ≤ 2147483647)) : gz_V l D α cA RX5 cX5_rescale (some .int) 6 2 (gz_Qi fun x I' => (¬ (1 ≤ n ∧ n ≤ 4) ∧ x = -2 ∧ I0 = I' ∨ (1 ≤ n ∧ n ≤ 4) ∧ ∃ I1 : gz_M, gz_T I1 ∧ (∀ q : gz_P, q ≠ (23, 0, 0) → I1 q = I0 q) ∧ gz_JM I0 (I1 (23, 0, 0)) ∧ ((∃ t, (0 ≤ t ∧ t < n) ∧ 300 < gz_shr (gz_sm (gz_ZM I0) (I0 (20, 0, 0) 0).toNat) n t) ∧ x = -3 ∧ I' = I1 ∨ (∀ t, 0 ≤ t → t < n → gz_shr (gz_sm (gz_ZM I0) (I0 (20, 0, 0) 0).toNat) n t ≤ 300) ∧ x = I0 (20, 0, 0) 0 ∧ ∃ K, gz_RD I0 I1 K (gz_sm (gz_ZM I0) (I0 (20, 0, 0) 0).toNat) n n ∧ gz_BC K I' n))) I0 [some (.ref (α (20, 0, 0))), some (gz_i (n)), none, none, none, none] [] 0 := by
  refine gz_iload_n (pc := 0) dX5_rescale_0 rfl ?_
  refine gz_iconst (pc := 1) dX5_rescale_1 ?_
  refine gz_iconst (pc := 2) dX5_rescale_2 ?_
  refine gz_cS3i (pc := 3) dX5_rescale_3 wm_X5_72 my_X5_in rfl rfl (ct_X5_in l D α cA r_n (by omega) (by omega)) (fun x3 I3 h3 => ?_)
  obtain ⟨rfl, hx3⟩ := h3
  have hxr3 : 0 ≤ x3 ∧ x3 ≤ 1 := by rcases hx3 with h | h <;> omega
  refine gz_if_ne (pc := 6) (tgt := 12) dX5_rescale_6 (by decide) (by omega) (fun h6 => ?_) (fun h6 => ?_)
  · refine gz_iconst (pc := 12) dX5_rescale_12 ?_
    refine gz_istore_n (pc := 13) dX5_rescale_13 rfl rfl rfl ?_
    refine gz_iconst (pc := 14) dX5_rescale_14 ?_
    refine gz_istore_n (pc := 15) dX5_rescale_15 rfl rfl rfl ?_
    exact lp_X5_rescale0 l D α cA hT0 (by omega) 0 (by have := gz_tM0 hT0 0 0; omega) I0 (by omega) hT0 (fun u b1 b2 i b3 b4 b5 => by omega) (fun q _ => rfl) _ _
  · refine gz_bipush (pc := 9) dX5_rescale_9 rfl ?_
    refine gz_iret (pc := 11) dX5_rescale_11 rfl ?_
    exact Or.inl ⟨by omega, rfl, rfl⟩
