def gz_hpx (I : gz_M) (m p t j : Int) : Prop := ∃ u i, (0 ≤ u ∧ u < t ∧ 0 ≤ i ∧ i < I (34, 0, 0) (4 * m + u) ∨ u = t ∧ 0 ≤ i ∧ i < j) ∧ I (35, 0, 0) (80 * (4 * m + u) + i) = p
theorem gz_hpx_s {I : gz_M} {m p t j : Int} (hj : 0 ≤ j) : gz_hpx I m p t (j + 1) ↔ gz_hpx I m p t j ∨ I (35, 0, 0) (80 * (4 * m + t) + j) = p := by
  constructor
  · rintro ⟨u, i, h1, h2⟩
    by_cases z : u = t ∧ i = j
    · right
      rw [← h2, z.1, z.2]
    · left
      exact ⟨u, i, by omega, h2⟩
  · rintro (⟨u, i, h1, h2⟩ | h)
    · exact ⟨u, i, by omega, h2⟩
    · exact ⟨t, j, by omega, h⟩
theorem gz_hpx_t {I : gz_M} {m p t : Int} (ht : 0 ≤ t) : gz_hpx I m p t (I (34, 0, 0) (4 * m + t)) ↔ gz_hpx I m p (t + 1) 0 := by
  constructor
  · rintro ⟨u, i, h1, h2⟩
    refine ⟨u, i, Or.inl ?_, h2⟩
    rcases h1 with h1 | h1
    · omega
    · rw [h1.1]; omega
  · rintro ⟨u, i, h1, h2⟩
    refine ⟨u, i, ?_, h2⟩
    rcases h1 with h1 | h1
    · by_cases z : u = t
      · right; rw [z] at h1; exact ⟨z, h1.2.2.1, h1.2.2.2⟩
      · left; omega
    · omega
def gz_usx (I : gz_M) (m t j : Int) : Prop := ∀ u i, (0 ≤ u ∧ u < t ∧ 0 ≤ i ∧ i < I (34, 0, 0) (4 * m + u) ∨ u = t ∧ 0 ≤ i ∧ i < j) → gz_rdM I u (I (35, 0, 0) (80 * (4 * m + u) + i))
theorem gz_usx_s {I : gz_M} {m t j : Int} (hj : 0 ≤ j) : gz_usx I m t (j + 1) ↔ gz_usx I m t j ∧ gz_rdM I t (I (35, 0, 0) (80 * (4 * m + t) + j)) := by
  constructor
  · intro h
    exact ⟨fun u i h1 => h u i (by omega), h t j (by omega)⟩
  · rintro ⟨h, h2⟩ u i h1
    by_cases z : u = t ∧ i = j
    · rw [z.1, z.2]; exact h2
    · exact h u i (by omega)
theorem gz_usx_t {I : gz_M} {m t : Int} (ht : 0 ≤ t) : gz_usx I m t (I (34, 0, 0) (4 * m + t)) ↔ gz_usx I m (t + 1) 0 := by
  constructor
  · intro h u i h1
    refine h u i ?_
    rcases h1 with h1 | h1
    · by_cases z : u = t
      · right; rw [z] at h1; exact ⟨z, h1.2.2.1, h1.2.2.2⟩
      · left; omega
    · omega
  · intro h u i h1
    refine h u i (Or.inl ?_)
    rcases h1 with h1 | h1
    · omega
    · rw [h1.1]; omega
theorem gz_b_01 (P : Prop) : gz_b P = 0 ∨ gz_b P = 1 := by
  by_cases h : P
  · exact Or.inr (gz_b1 h)
  · exact Or.inl (gz_b0 h)
theorem gz_b_t {P : Prop} (h : gz_b P = 1) : P := by
  apply Classical.byContradiction
  intro hn
  rw [gz_b0 hn] at h
  exact absurd h (by decide)
theorem gz_b_f {P : Prop} (h : gz_b P = 0) : ¬ P := fun hp => by
  rw [gz_b1 hp] at h
  exact absurd h (by decide)
set_option maxHeartbeats 4000000 in
set_option maxRecDepth 100000 in
theorem lp_X5_hasPart2 (l : Launch) (D : va_G) (α : gz_P → Nat) (cA : Nat → ClassId) {I : gz_M} (hT : gz_T I) {m : Int} (hm : 0 ≤ m ∧ m < 12) {p : Int} (hp : (-2147483648 ≤ p ∧ p ≤ 2147483647)) : ∀ t, (0 ≤ t ∧ t < I (33, 0, 0) m) → (∀ o : Option Value, gz_V l D α cA RX5 cX5_hasPart (some .boolean) 6 0 (gz_Qi fun x I' => I = I' ∧ x = gz_b (gz_hpM I m p)) I [some (.ref (α (20, 0, 0))), some (gz_i (m)), some (gz_i (p)), some (gz_i (gz_b (gz_hpx I m p (t + 1) 0))), some (gz_i (t + 1)), o] [] 5) → ∀ j, j ≤ I (34, 0, 0) (4 * m + t) → 0 ≤ j → gz_V l D α cA RX5 cX5_hasPart (some .boolean) 6 0 (gz_Qi fun x I' => I = I' ∧ x = gz_b (gz_hpM I m p)) I [some (.ref (α (20, 0, 0))), some (gz_i (m)), some (gz_i (p)), some (gz_i (gz_b (gz_hpx I m p t j))), some (gz_i (t)), some (gz_i (j))] [] 19 := by
  intro t ht kk
  have e33 := gz_t33 hT 0 0 m
  have e34 := gz_t34 hT 0 0 (4 * m + t)
  refine gz_upto _ ?_
  intro j hj ih h0
  have e35 := gz_t35 hT 0 0 (80 * (4 * m + t) + j)
  have hb := gz_b_01 (gz_hpx I m p t j)
  refine gz_iload (pc := 19) dX5_hasPart_19 rfl ?_
  first | refine gz_aload_n (pc := 21) dX5_hasPart_21 rfl ?_ | refine gz_aload_nN (pc := 21) dX5_hasPart_21 rfl ?_
  refine gz_getr (pc := 22) dX5_hasPart_22 fl_X5_54 rfl rfl rfl (by first | exact gz_B1 | (omega)) ?_
  refine gz_iconst (pc := 25) dX5_hasPart_25 ?_
  refine gz_iload_n (pc := 26) dX5_hasPart_26 rfl ?_
  refine gz_imul (pc := 27) dX5_hasPart_27 ?_
  refine gz_iload (pc := 28) dX5_hasPart_28 rfl ?_
  refine gz_iadd (pc := 30) dX5_hasPart_30 ?_
  refine gz_iald (pc := 31) dX5_hasPart_31 rfl rfl (by first | exact gz_B1 | (omega)) (by omega) ?_
  refine gz_icmp_ge (pc := 32) (tgt := 72) dX5_hasPart_32 (by decide) (by omega) (by omega) (fun h32 => ?_) (fun h32 => ?_)
  · refine gz_iinc (pc := 72) dX5_hasPart_72 rfl rfl rfl rfl ?_
    refine gz_goto (pc := 75) (tgt := 5) dX5_hasPart_75 (by decide) ?_
    have hjl : j = I (34, 0, 0) (4 * m + t) := by omega
    rw [hjl, gz_b_cong (gz_hpx_t ht.1)]
    exact kk _
  · refine gz_iload_n (pc := 35) dX5_hasPart_35 rfl ?_
    refine gz_if_ne (pc := 36) (tgt := 60) dX5_hasPart_36 (by decide) (by omega) (fun h36 => ?_) (fun h36 => ?_)
    · refine gz_iconst (pc := 60) dX5_hasPart_60 ?_
      refine gz_goto (pc := 61) (tgt := 65) dX5_hasPart_61 (by decide) ?_
      refine gz_istore_n (pc := 65) dX5_hasPart_65 rfl rfl rfl ?_
      refine gz_iinc (pc := 66) dX5_hasPart_66 rfl rfl rfl rfl ?_
      refine gz_goto (pc := 69) (tgt := 19) dX5_hasPart_69 (by decide) ?_
      have h9 := ih (j + 1) (by omega) (by omega) (by omega)
      first
        | (rw [gz_b1 ((gz_hpx_s h0).mpr (Or.inl (gz_b_t (by omega))))] at h9; exact h9)
        | (rw [gz_b1 ((gz_hpx_s h0).mpr (Or.inr h57))] at h9; exact h9)
        | (rw [gz_b0 (fun z => ((gz_hpx_s h0).mp z).elim (gz_b_f (by omega)) h57)] at h9; exact h9)
    · first | refine gz_aload_n (pc := 39) dX5_hasPart_39 rfl ?_ | refine gz_aload_nN (pc := 39) dX5_hasPart_39 rfl ?_
      refine gz_getr (pc := 40) dX5_hasPart_40 fl_X5_57 rfl rfl rfl (by first | exact gz_B1 | (omega)) ?_
      refine gz_bipush (pc := 43) dX5_hasPart_43 rfl ?_
      refine gz_iconst (pc := 45) dX5_hasPart_45 ?_
      refine gz_iload_n (pc := 46) dX5_hasPart_46 rfl ?_
      refine gz_imul (pc := 47) dX5_hasPart_47 ?_
      refine gz_iload (pc := 48) dX5_hasPart_48 rfl ?_
      refine gz_iadd (pc := 50) dX5_hasPart_50 ?_
      refine gz_imul (pc := 51) dX5_hasPart_51 ?_
      refine gz_iload (pc := 52) dX5_hasPart_52 rfl ?_
      refine gz_iadd (pc := 54) dX5_hasPart_54 ?_
      refine gz_iald (pc := 55) dX5_hasPart_55 rfl rfl (by first | exact gz_B1 | (omega)) (by omega) ?_
      refine gz_iload_n (pc := 56) dX5_hasPart_56 rfl ?_
      refine gz_icmp_ne (pc := 57) (tgt := 64) dX5_hasPart_57 (by decide) (by omega) (by omega) (fun h57 => ?_) (fun h57 => ?_)
      · refine gz_iconst (pc := 64) dX5_hasPart_64 ?_
        refine gz_istore_n (pc := 65) dX5_hasPart_65 rfl rfl rfl ?_
        refine gz_iinc (pc := 66) dX5_hasPart_66 rfl rfl rfl rfl ?_
        refine gz_goto (pc := 69) (tgt := 19) dX5_hasPart_69 (by decide) ?_
        have h9 := ih (j + 1) (by omega) (by omega) (by omega)
        first
          | (rw [gz_b1 ((gz_hpx_s h0).mpr (Or.inl (gz_b_t (by omega))))] at h9; exact h9)
          | (rw [gz_b1 ((gz_hpx_s h0).mpr (Or.inr h57))] at h9; exact h9)
          | (rw [gz_b0 (fun z => ((gz_hpx_s h0).mp z).elim (gz_b_f (by omega)) h57)] at h9; exact h9)
      · refine gz_iconst (pc := 60) dX5_hasPart_60 ?_
        refine gz_goto (pc := 61) (tgt := 65) dX5_hasPart_61 (by decide) ?_
        refine gz_istore_n (pc := 65) dX5_hasPart_65 rfl rfl rfl ?_
        refine gz_iinc (pc := 66) dX5_hasPart_66 rfl rfl rfl rfl ?_
        refine gz_goto (pc := 69) (tgt := 19) dX5_hasPart_69 (by decide) ?_
        have h9 := ih (j + 1) (by omega) (by omega) (by omega)
        first
          | (rw [gz_b1 ((gz_hpx_s h0).mpr (Or.inl (gz_b_t (by omega))))] at h9; exact h9)
          | (rw [gz_b1 ((gz_hpx_s h0).mpr (Or.inr h57))] at h9; exact h9)
          | (rw [gz_b0 (fun z => ((gz_hpx_s h0).mp z).elim (gz_b_f (by omega)) h57)] at h9; exact h9)
set_option maxHeartbeats 4000000 in
set_option maxRecDepth 100000 in
theorem lp_X5_hasPart (l : Launch) (D : va_G) (α : gz_P → Nat) (cA : Nat → ClassId) {I : gz_M} (hT : gz_T I) {m : Int} (hm : 0 ≤ m ∧ m < 12) {p : Int} (hp : (-2147483648 ≤ p ∧ p ≤ 2147483647)) : ∀ t, t ≤ I (33, 0, 0) m → 0 ≤ t → ∀ o : Option Value, gz_V l D α cA RX5 cX5_hasPart (some .boolean) 6 0 (gz_Qi fun x I' => I = I' ∧ x = gz_b (gz_hpM I m p)) I [some (.ref (α (20, 0, 0))), some (gz_i (m)), some (gz_i (p)), some (gz_i (gz_b (gz_hpx I m p t 0))), some (gz_i (t)), o] [] 5 := by
  have e33 := gz_t33 hT 0 0 m
  refine gz_upto _ ?_
  intro t ht ih h0 o
  refine gz_iload (pc := 5) dX5_hasPart_5 rfl ?_
  first | refine gz_aload_n (pc := 7) dX5_hasPart_7 rfl ?_ | refine gz_aload_nN (pc := 7) dX5_hasPart_7 rfl ?_
  refine gz_getr (pc := 8) dX5_hasPart_8 fl_X5_51 rfl rfl rfl (by first | exact gz_B1 | (omega)) ?_
  refine gz_iload_n (pc := 11) dX5_hasPart_11 rfl ?_
  refine gz_iald (pc := 12) dX5_hasPart_12 rfl rfl (by first | exact gz_B1 | (omega)) (by omega) ?_
  refine gz_icmp_ge (pc := 13) (tgt := 78) dX5_hasPart_13 (by decide) (by omega) (by omega) (fun h13 => ?_) (fun h13 => ?_)
  · refine gz_iload_n (pc := 78) dX5_hasPart_78 rfl ?_
    refine gz_zret (pc := 79) dX5_hasPart_79 rfl (by exact gz_b_01 _) ?_
    refine ⟨rfl, gz_b_cong ?_⟩
    constructor
    · rintro ⟨u, i, h1, h2⟩
      exact ⟨u, i, by omega, by omega, h2⟩
    · rintro ⟨u, i, h1, h2, h3⟩
      exact ⟨u, i, by omega, h3⟩
  · refine gz_iconst (pc := 16) dX5_hasPart_16 ?_
    refine gz_istore (pc := 17) dX5_hasPart_17 rfl rfl rfl ?_
    exact lp_X5_hasPart2 l D α cA hT hm hp t (by omega) (fun o9 => ih (t + 1) (by omega) (by omega) (by omega) o9) 0 (by have := gz_t34 hT 0 0 (4 * m + t); omega) (by omega)
set_option maxHeartbeats 4000000 in
set_option maxRecDepth 100000 in
theorem ct_X5_hasPart (l : Launch) (D : va_G) (α : gz_P → Nat) (cA : Nat → ClassId) {I : gz_M} (hT : gz_T I) {m : Int} (hm : 0 ≤ m ∧ m < 12) {p : Int} (hp : (-2147483648 ≤ p ∧ p ≤ 2147483647)) : gz_V l D α cA RX5 cX5_hasPart (some .boolean) 6 0 (gz_Qi fun x I' => I = I' ∧ x = gz_b (gz_hpM I m p)) I [some (.ref (α (20, 0, 0))), some (gz_i (m)), some (gz_i (p)), none, none, none] [] 0 := by
  refine gz_iconst (pc := 0) dX5_hasPart_0 ?_
  refine gz_istore_n (pc := 1) dX5_hasPart_1 rfl rfl rfl ?_
  refine gz_iconst (pc := 2) dX5_hasPart_2 ?_
  refine gz_istore (pc := 3) dX5_hasPart_3 rfl rfl rfl ?_
  have h9 := lp_X5_hasPart l D α cA hT hm hp 0 (by have := gz_t33 hT 0 0 m; omega) (by omega)
  have hz : ¬ gz_hpx I m p 0 0 := fun z => by obtain ⟨u, i, h1, h2⟩ := z; omega
  rw [gz_b0 hz] at h9
  exact h9 _
set_option maxHeartbeats 4000000 in
set_option maxRecDepth 100000 in
theorem lp_X5_isUsable2 (l : Launch) (D : va_G) (α : gz_P → Nat) (cA : Nat → ClassId) {I : gz_M} (hT : gz_T I) {m : Int} (hm : 0 ≤ m ∧ m < 12) : ∀ t, (0 ≤ t ∧ t < I (33, 0, 0) m) → (∀ o : Option Value, gz_V l D α cA RX5 cX5_isUsable (some .boolean) 5 3 (gz_Qi fun x I' => I = I' ∧ x = gz_b (gz_usM I m)) I [some (.ref (α (20, 0, 0))), some (gz_i (m)), some (gz_i (gz_b (gz_usx I m (t + 1) 0))), some (gz_i (t + 1)), o] [] 4) → ∀ j, j ≤ I (34, 0, 0) (4 * m + t) → 0 ≤ j → gz_V l D α cA RX5 cX5_isUsable (some .boolean) 5 3 (gz_Qi fun x I' => I = I' ∧ x = gz_b (gz_usM I m)) I [some (.ref (α (20, 0, 0))), some (gz_i (m)), some (gz_i (gz_b (gz_usx I m t j))), some (gz_i (t)), some (gz_i (j))] [] 17 := by
  intro t ht kk
  have e33 := gz_t33 hT 0 0 m
  have e34 := gz_t34 hT 0 0 (4 * m + t)
  refine gz_upto _ ?_
  intro j hj ih h0
  have e35 := gz_t35 hT 0 0 (80 * (4 * m + t) + j)
  have hb := gz_b_01 (gz_usx I m t j)
  refine gz_iload (pc := 17) dX5_isUsable_17 rfl ?_
  first | refine gz_aload_n (pc := 19) dX5_isUsable_19 rfl ?_ | refine gz_aload_nN (pc := 19) dX5_isUsable_19 rfl ?_
  refine gz_getr (pc := 20) dX5_isUsable_20 fl_X5_54 rfl rfl rfl (by first | exact gz_B1 | (omega)) ?_
  refine gz_iconst (pc := 23) dX5_isUsable_23 ?_
  refine gz_iload_n (pc := 24) dX5_isUsable_24 rfl ?_
  refine gz_imul (pc := 25) dX5_isUsable_25 ?_
  refine gz_iload_n (pc := 26) dX5_isUsable_26 rfl ?_
  refine gz_iadd (pc := 27) dX5_isUsable_27 ?_
  refine gz_iald (pc := 28) dX5_isUsable_28 rfl rfl (by first | exact gz_B1 | (omega)) (by omega) ?_
  refine gz_icmp_ge (pc := 29) (tgt := 72) dX5_isUsable_29 (by decide) (by omega) (by omega) (fun h29 => ?_) (fun h29 => ?_)
  · refine gz_iinc (pc := 72) dX5_isUsable_72 rfl rfl rfl rfl ?_
    refine gz_goto (pc := 75) (tgt := 4) dX5_isUsable_75 (by decide) ?_
    have hjl : j = I (34, 0, 0) (4 * m + t) := by omega
    rw [hjl, gz_b_cong (gz_usx_t ht.1)]
    exact kk _
  · refine gz_iload_n (pc := 32) dX5_isUsable_32 rfl ?_
    refine gz_if_eq (pc := 33) (tgt := 64) dX5_isUsable_33 (by decide) (by omega) (fun h33 => ?_) (fun h33 => ?_)
    · refine gz_iconst (pc := 64) dX5_isUsable_64 ?_
      refine gz_istore_n (pc := 65) dX5_isUsable_65 rfl rfl rfl ?_
      refine gz_iinc (pc := 66) dX5_isUsable_66 rfl rfl rfl rfl ?_
      refine gz_goto (pc := 69) (tgt := 17) dX5_isUsable_69 (by decide) ?_
      first
        | exact absurd h57 (by decide)
        | exact absurd rfl h57
        | (have h9 := ih (j + 1) (by omega) (by omega) (by omega)
           first
             | (rw [gz_b1 ((gz_usx_s h0).mpr ⟨gz_b_t (by omega), hr⟩)] at h9; exact h9)
             | (rw [gz_b0 (fun z => hr ((gz_usx_s h0).mp z).2)] at h9; exact h9)
             | (rw [gz_b0 (fun z => gz_b_f (by omega) ((gz_usx_s h0).mp z).1)] at h9; exact h9))
    · first | refine gz_aload_n (pc := 36) dX5_isUsable_36 rfl ?_ | refine gz_aload_nN (pc := 36) dX5_isUsable_36 rfl ?_
      refine gz_iload_n (pc := 37) dX5_isUsable_37 rfl ?_
      first | refine gz_aload_n (pc := 38) dX5_isUsable_38 rfl ?_ | refine gz_aload_nN (pc := 38) dX5_isUsable_38 rfl ?_
      refine gz_getr (pc := 39) dX5_isUsable_39 fl_X5_57 rfl rfl rfl (by first | exact gz_B1 | (omega)) ?_
      refine gz_bipush (pc := 42) dX5_isUsable_42 rfl ?_
      refine gz_iconst (pc := 44) dX5_isUsable_44 ?_
      refine gz_iload_n (pc := 45) dX5_isUsable_45 rfl ?_
      refine gz_imul (pc := 46) dX5_isUsable_46 ?_
      refine gz_iload_n (pc := 47) dX5_isUsable_47 rfl ?_
      refine gz_iadd (pc := 48) dX5_isUsable_48 ?_
      refine gz_imul (pc := 49) dX5_isUsable_49 ?_
      refine gz_iload (pc := 50) dX5_isUsable_50 rfl ?_
      refine gz_iadd (pc := 52) dX5_isUsable_52 ?_
      refine gz_iald (pc := 53) dX5_isUsable_53 rfl rfl (by first | exact gz_B1 | (omega)) (by omega) ?_
      refine gz_cV2i (pc := 54) dX5_isUsable_54 wm_X5_140 my_X5_isReadable rfl rfl rfl (by first | exact gz_B1 | (omega)) (ct_X5_isReadable l D α cA hT (by omega) (by omega)) (fun x54 I54 h54 => ?_)
      obtain ⟨rfl, ⟨rfl, hr⟩ | ⟨rfl, hr⟩⟩ := h54
      · refine gz_if_eq (pc := 57) (tgt := 64) dX5_isUsable_57 (by decide) (by omega) (fun h57 => ?_) (fun h57 => ?_)
        · refine gz_iconst (pc := 64) dX5_isUsable_64 ?_
          refine gz_istore_n (pc := 65) dX5_isUsable_65 rfl rfl rfl ?_
          refine gz_iinc (pc := 66) dX5_isUsable_66 rfl rfl rfl rfl ?_
          refine gz_goto (pc := 69) (tgt := 17) dX5_isUsable_69 (by decide) ?_
          first
            | exact absurd h57 (by decide)
            | exact absurd rfl h57
            | (have h9 := ih (j + 1) (by omega) (by omega) (by omega)
               first
                 | (rw [gz_b1 ((gz_usx_s h0).mpr ⟨gz_b_t (by omega), hr⟩)] at h9; exact h9)
                 | (rw [gz_b0 (fun z => hr ((gz_usx_s h0).mp z).2)] at h9; exact h9)
                 | (rw [gz_b0 (fun z => gz_b_f (by omega) ((gz_usx_s h0).mp z).1)] at h9; exact h9))
        · refine gz_iconst (pc := 60) dX5_isUsable_60 ?_
          refine gz_goto (pc := 61) (tgt := 65) dX5_isUsable_61 (by decide) ?_
          refine gz_istore_n (pc := 65) dX5_isUsable_65 rfl rfl rfl ?_
          refine gz_iinc (pc := 66) dX5_isUsable_66 rfl rfl rfl rfl ?_
          refine gz_goto (pc := 69) (tgt := 17) dX5_isUsable_69 (by decide) ?_
          first
            | exact absurd h57 (by decide)
            | exact absurd rfl h57
            | (have h9 := ih (j + 1) (by omega) (by omega) (by omega)
               first
                 | (rw [gz_b1 ((gz_usx_s h0).mpr ⟨gz_b_t (by omega), hr⟩)] at h9; exact h9)
                 | (rw [gz_b0 (fun z => hr ((gz_usx_s h0).mp z).2)] at h9; exact h9)
                 | (rw [gz_b0 (fun z => gz_b_f (by omega) ((gz_usx_s h0).mp z).1)] at h9; exact h9))
      · refine gz_if_eq (pc := 57) (tgt := 64) dX5_isUsable_57 (by decide) (by omega) (fun h57 => ?_) (fun h57 => ?_)
        · refine gz_iconst (pc := 64) dX5_isUsable_64 ?_
          refine gz_istore_n (pc := 65) dX5_isUsable_65 rfl rfl rfl ?_
          refine gz_iinc (pc := 66) dX5_isUsable_66 rfl rfl rfl rfl ?_
          refine gz_goto (pc := 69) (tgt := 17) dX5_isUsable_69 (by decide) ?_
          first
            | exact absurd h57 (by decide)
            | exact absurd rfl h57
            | (have h9 := ih (j + 1) (by omega) (by omega) (by omega)
               first
                 | (rw [gz_b1 ((gz_usx_s h0).mpr ⟨gz_b_t (by omega), hr⟩)] at h9; exact h9)
                 | (rw [gz_b0 (fun z => hr ((gz_usx_s h0).mp z).2)] at h9; exact h9)
                 | (rw [gz_b0 (fun z => gz_b_f (by omega) ((gz_usx_s h0).mp z).1)] at h9; exact h9))
        · refine gz_iconst (pc := 60) dX5_isUsable_60 ?_
          refine gz_goto (pc := 61) (tgt := 65) dX5_isUsable_61 (by decide) ?_
          refine gz_istore_n (pc := 65) dX5_isUsable_65 rfl rfl rfl ?_
          refine gz_iinc (pc := 66) dX5_isUsable_66 rfl rfl rfl rfl ?_
          refine gz_goto (pc := 69) (tgt := 17) dX5_isUsable_69 (by decide) ?_
          first
            | exact absurd h57 (by decide)
            | exact absurd rfl h57
            | (have h9 := ih (j + 1) (by omega) (by omega) (by omega)
               first
                 | (rw [gz_b1 ((gz_usx_s h0).mpr ⟨gz_b_t (by omega), hr⟩)] at h9; exact h9)
                 | (rw [gz_b0 (fun z => hr ((gz_usx_s h0).mp z).2)] at h9; exact h9)
                 | (rw [gz_b0 (fun z => gz_b_f (by omega) ((gz_usx_s h0).mp z).1)] at h9; exact h9))
set_option maxHeartbeats 4000000 in
set_option maxRecDepth 100000 in
theorem lp_X5_isUsable (l : Launch) (D : va_G) (α : gz_P → Nat) (cA : Nat → ClassId) {I : gz_M} (hT : gz_T I) {m : Int} (hm : 0 ≤ m ∧ m < 12) : ∀ t, t ≤ I (33, 0, 0) m → 0 ≤ t → ∀ o : Option Value, gz_V l D α cA RX5 cX5_isUsable (some .boolean) 5 3 (gz_Qi fun x I' => I = I' ∧ x = gz_b (gz_usM I m)) I [some (.ref (α (20, 0, 0))), some (gz_i (m)), some (gz_i (gz_b (gz_usx I m t 0))), some (gz_i (t)), o] [] 4 := by
  have e33 := gz_t33 hT 0 0 m
  refine gz_upto _ ?_
  intro t ht ih h0 o
  refine gz_iload_n (pc := 4) dX5_isUsable_4 rfl ?_
  first | refine gz_aload_n (pc := 5) dX5_isUsable_5 rfl ?_ | refine gz_aload_nN (pc := 5) dX5_isUsable_5 rfl ?_
  refine gz_getr (pc := 6) dX5_isUsable_6 fl_X5_51 rfl rfl rfl (by first | exact gz_B1 | (omega)) ?_
  refine gz_iload_n (pc := 9) dX5_isUsable_9 rfl ?_
  refine gz_iald (pc := 10) dX5_isUsable_10 rfl rfl (by first | exact gz_B1 | (omega)) (by omega) ?_
  refine gz_icmp_ge (pc := 11) (tgt := 78) dX5_isUsable_11 (by decide) (by omega) (by omega) (fun h11 => ?_) (fun h11 => ?_)
  · refine gz_iload_n (pc := 78) dX5_isUsable_78 rfl ?_
    refine gz_zret (pc := 79) dX5_isUsable_79 rfl (by exact gz_b_01 _) ?_
    refine ⟨rfl, gz_b_cong ?_⟩
    constructor
    · intro h u a1 a2 i a3 a4
      exact h u i (by omega)
    · intro h u i h1
      exact h u (by omega) (by omega) i (by omega) (by omega)
  · refine gz_iconst (pc := 14) dX5_isUsable_14 ?_
    refine gz_istore (pc := 15) dX5_isUsable_15 rfl rfl rfl ?_
    exact lp_X5_isUsable2 l D α cA hT hm t (by omega) (fun o9 => ih (t + 1) (by omega) (by omega) (by omega) o9) 0 (by have := gz_t34 hT 0 0 (4 * m + t); omega) (by omega)
set_option maxHeartbeats 4000000 in
set_option maxRecDepth 100000 in
theorem ct_X5_isUsable (l : Launch) (D : va_G) (α : gz_P → Nat) (cA : Nat → ClassId) {I : gz_M} (hT : gz_T I) {m : Int} (hm : 0 ≤ m ∧ m < 12) : gz_V l D α cA RX5 cX5_isUsable (some .boolean) 5 3 (gz_Qi fun x I' => I = I' ∧ x = gz_b (gz_usM I m)) I [some (.ref (α (20, 0, 0))), some (gz_i (m)), none, none, none] [] 0 := by
  refine gz_iconst (pc := 0) dX5_isUsable_0 ?_
  refine gz_istore_n (pc := 1) dX5_isUsable_1 rfl rfl rfl ?_
  refine gz_iconst (pc := 2) dX5_isUsable_2 ?_
  refine gz_istore_n (pc := 3) dX5_isUsable_3 rfl rfl rfl ?_
  have h9 := lp_X5_isUsable l D α cA hT hm 0 (by have := gz_t33 hT 0 0 m; omega) (by omega)
  have hz : gz_usx I m 0 0 := fun u i h1 => by omega
  rw [gz_b1 hz] at h9
  exact h9 _
set_option maxHeartbeats 4000000 in
set_option maxRecDepth 100000 in
theorem lp_X5_slotOf (l : Launch) (D : va_G) (α : gz_P → Nat) (cA : Nat → ClassId) {I : gz_M} (hT : gz_T I) {m : Int} (r_m : (-2147483648 ≤ m ∧ m ≤ 2147483647)) : ∀ i, i ≤ 12 → 0 ≤ i → ∀ x, (x = -1 ∧ (∀ s, 0 ≤ s → s < i → 0 ≤ m → ¬ I (30, 0, 0) s = m) ∨ (0 ≤ x ∧ x < i) ∧ 0 ≤ m ∧ I (30, 0, 0) x = m) → gz_V l D α cA RX5 cX5_slotOf (some .int) 4 0 (gz_Qi fun x I' => I = I' ∧ (x = -1 ∧ (∀ s, 0 ≤ s → s < 12 → 0 ≤ m → ¬ I (30, 0, 0) s = m) ∨ (0 ≤ x ∧ x < 12) ∧ 0 ≤ m ∧ I (30, 0, 0) x = m)) I [some (.ref (α (20, 0, 0))), some (gz_i (m)), some (gz_i (x)), some (gz_i (i))] [] 4 := by
  refine gz_upto _ ?_
  intro i hi ih h0 x hx
  have e1 := gz_t30 hT 0 0 i
  refine gz_iload_n (pc := 4) dX5_slotOf_4 rfl ?_
  refine gz_bipush (pc := 5) dX5_slotOf_5 rfl ?_
  refine gz_icmp_ge (pc := 7) (tgt := 36) dX5_slotOf_7 (by decide) (by omega) (by omega) (fun h7 => ?_) (fun h7 => ?_)
  · refine gz_iload_n (pc := 36) dX5_slotOf_36 rfl ?_
    refine gz_iret (pc := 37) dX5_slotOf_37 rfl ?_
    rw [show i = 12 by omega] at hx
    exact ⟨rfl, hx⟩
  · refine gz_iload_n (pc := 10) dX5_slotOf_10 rfl ?_
    refine gz_if_lt (pc := 11) (tgt := 28) dX5_slotOf_11 (by decide) (by omega) (fun h11 => ?_) (fun h11 => ?_)
    · refine gz_iload_n (pc := 28) dX5_slotOf_28 rfl ?_
      refine gz_istore_n (pc := 29) dX5_slotOf_29 rfl rfl rfl ?_
      refine gz_iinc (pc := 30) dX5_slotOf_30 rfl rfl rfl rfl ?_
      refine gz_goto (pc := 33) (tgt := 4) dX5_slotOf_33 (by decide) ?_
      refine ih (i + 1) (by omega) (by omega) (by omega) _ ?_
      first
        | exact Or.inr ⟨by omega, by omega, h21⟩
        | (rcases hx with ⟨q1, q2⟩ | q
           · refine Or.inl ⟨q1, fun s a1 a2 a3 => ?_⟩
             by_cases z : s = i
             · rw [z]; first | exact h21 | omega
             · exact q2 s a1 (by omega) a3
           · exact Or.inr ⟨by omega, q.2⟩)
    · first | refine gz_aload_n (pc := 14) dX5_slotOf_14 rfl ?_ | refine gz_aload_nN (pc := 14) dX5_slotOf_14 rfl ?_
      refine gz_getr (pc := 15) dX5_slotOf_15 fl_X5_42 rfl rfl rfl (by first | exact gz_B1 | (omega)) ?_
      refine gz_iload_n (pc := 18) dX5_slotOf_18 rfl ?_
      refine gz_iald (pc := 19) dX5_slotOf_19 rfl rfl (by first | exact gz_B1 | (omega)) (by omega) ?_
      refine gz_iload_n (pc := 20) dX5_slotOf_20 rfl ?_
      refine gz_icmp_ne (pc := 21) (tgt := 28) dX5_slotOf_21 (by decide) (by omega) (by omega) (fun h21 => ?_) (fun h21 => ?_)
      · refine gz_iload_n (pc := 28) dX5_slotOf_28 rfl ?_
        refine gz_istore_n (pc := 29) dX5_slotOf_29 rfl rfl rfl ?_
        refine gz_iinc (pc := 30) dX5_slotOf_30 rfl rfl rfl rfl ?_
        refine gz_goto (pc := 33) (tgt := 4) dX5_slotOf_33 (by decide) ?_
        refine ih (i + 1) (by omega) (by omega) (by omega) _ ?_
        first
          | exact Or.inr ⟨by omega, by omega, h21⟩
          | (rcases hx with ⟨q1, q2⟩ | q
             · refine Or.inl ⟨q1, fun s a1 a2 a3 => ?_⟩
               by_cases z : s = i
               · rw [z]; first | exact h21 | omega
               · exact q2 s a1 (by omega) a3
             · exact Or.inr ⟨by omega, q.2⟩)
      · refine gz_iload_n (pc := 24) dX5_slotOf_24 rfl ?_
        refine gz_goto (pc := 25) (tgt := 29) dX5_slotOf_25 (by decide) ?_
        refine gz_istore_n (pc := 29) dX5_slotOf_29 rfl rfl rfl ?_
        refine gz_iinc (pc := 30) dX5_slotOf_30 rfl rfl rfl rfl ?_
        refine gz_goto (pc := 33) (tgt := 4) dX5_slotOf_33 (by decide) ?_
        refine ih (i + 1) (by omega) (by omega) (by omega) _ ?_
        first
          | exact Or.inr ⟨by omega, by omega, h21⟩
          | (rcases hx with ⟨q1, q2⟩ | q
             · refine Or.inl ⟨q1, fun s a1 a2 a3 => ?_⟩
               by_cases z : s = i
               · rw [z]; first | exact h21 | omega
               · exact q2 s a1 (by omega) a3
             · exact Or.inr ⟨by omega, q.2⟩)
set_option maxHeartbeats 4000000 in
set_option maxRecDepth 100000 in
theorem ct_X5_slotOf (l : Launch) (D : va_G) (α : gz_P → Nat) (cA : Nat → ClassId) {I : gz_M} (hT : gz_T I) {m : Int} (r_m : (-2147483648 ≤ m ∧ m ≤ 2147483647)) : gz_V l D α cA RX5 cX5_slotOf (some .int) 4 0 (gz_Qi fun x I' => I = I' ∧ (x = -1 ∧ (∀ s, 0 ≤ s → s < 12 → 0 ≤ m → ¬ I (30, 0, 0) s = m) ∨ (0 ≤ x ∧ x < 12) ∧ 0 ≤ m ∧ I (30, 0, 0) x = m)) I [some (.ref (α (20, 0, 0))), some (gz_i (m)), none, none] [] 0 := by
  refine gz_iconst (pc := 0) dX5_slotOf_0 ?_
  refine gz_istore_n (pc := 1) dX5_slotOf_1 rfl rfl rfl ?_
  refine gz_iconst (pc := 2) dX5_slotOf_2 ?_
  refine gz_istore_n (pc := 3) dX5_slotOf_3 rfl rfl rfl ?_
  exact lp_X5_slotOf l D α cA hT r_m 0 (by omega) (by omega) (-1) (Or.inl ⟨rfl, fun s a1 a2 => by omega⟩)
set_option maxHeartbeats 4000000 in
set_option maxRecDepth 100000 in
theorem ct_X5_keptSlot (l : Launch) (D : va_G) (α : gz_P → Nat) (cA : Nat → ClassId) {I : gz_M} (hT : gz_T I) {m : Int} (r_m : (-2147483648 ≤ m ∧ m ≤ 2147483647)) (hdis : (∀ s s', 0 ≤ s → s < 12 → 0 ≤ s' → s' < 12 → I (30, 0, 0) s = I (30, 0, 0) s' → 0 ≤ I (30, 0, 0) s → s = s')) : gz_V l D α cA RX5 cX5_keptSlot (some .int) 3 1 (gz_Qi fun x I' => I = I' ∧ (x = -1 ∧ (∀ s, 0 ≤ s → s < 12 → 0 ≤ m → I (30, 0, 0) s = m → I (31, 0, 0) s = 0) ∨ (0 ≤ x ∧ x < 12) ∧ 0 ≤ m ∧ I (30, 0, 0) x = m ∧ I (31, 0, 0) x = 1)) I [some (.ref (α (20, 0, 0))), some (gz_i (m)), none] [] 0 := by
  first | refine gz_aload_n (pc := 0) dX5_keptSlot_0 rfl ?_ | refine gz_aload_nN (pc := 0) dX5_keptSlot_0 rfl ?_
  refine gz_iload_n (pc := 1) dX5_keptSlot_1 rfl ?_
  refine gz_cV1i (pc := 2) dX5_keptSlot_2 wm_X5_110 my_X5_slotOf rfl rfl rfl (by first | exact gz_B1 | (omega)) (ct_X5_slotOf l D α cA hT r_m) (fun x2 I2 h2 => ?_)
  obtain ⟨rfl, hx2⟩ := h2
  have hxr : -1 ≤ x2 ∧ x2 < 12 := by rcases hx2 with h | h <;> omega
  have e31 := gz_t31 hT 0 0 x2
  refine gz_istore_n (pc := 5) dX5_keptSlot_5 rfl rfl rfl ?_
  refine gz_iload_n (pc := 6) dX5_keptSlot_6 rfl ?_
  refine gz_iconst (pc := 7) dX5_keptSlot_7 ?_
  refine gz_icmp_eq (pc := 8) (tgt := 24) dX5_keptSlot_8 (by decide) (by omega) (by omega) (fun h8 => ?_) (fun h8 => ?_)
  · refine gz_iconst (pc := 24) dX5_keptSlot_24 ?_
    refine gz_iret (pc := 25) dX5_keptSlot_25 rfl ?_
    first
      | (rcases hx2 with q | q
         · exact ⟨rfl, Or.inl ⟨rfl, fun s a1 a2 a3 a4 => absurd a4 (q.2 s a1 a2 a3)⟩⟩
         · exact absurd q.1 (by omega))
      | (rcases hx2 with q | q
         · exact absurd q.1 h8
         · exact ⟨rfl, Or.inr ⟨q.1, q.2.1, q.2.2, by omega⟩⟩)
      | (rcases hx2 with q | q
         · exact absurd q.1 h8
         · exact ⟨rfl, Or.inl ⟨rfl, fun s a1 a2 a3 a4 => by rw [hdis s x2 a1 a2 q.1.1 q.1.2 (a4.trans q.2.2.symm) (by omega)]; exact h17⟩⟩)
  · first | refine gz_aload_n (pc := 11) dX5_keptSlot_11 rfl ?_ | refine gz_aload_nN (pc := 11) dX5_keptSlot_11 rfl ?_
    refine gz_getr (pc := 12) dX5_keptSlot_12 fl_X5_45 rfl rfl rfl (by first | exact gz_B1 | (omega)) ?_
    refine gz_iload_n (pc := 15) dX5_keptSlot_15 rfl ?_
    refine gz_zald (pc := 16) dX5_keptSlot_16 rfl rfl (by first | exact gz_B1 | (omega)) (by omega) ?_
    refine gz_if_eq (pc := 17) (tgt := 24) dX5_keptSlot_17 (by decide) (by omega) (fun h17 => ?_) (fun h17 => ?_)
    · refine gz_iconst (pc := 24) dX5_keptSlot_24 ?_
      refine gz_iret (pc := 25) dX5_keptSlot_25 rfl ?_
      first
        | (rcases hx2 with q | q
           · exact ⟨rfl, Or.inl ⟨rfl, fun s a1 a2 a3 a4 => absurd a4 (q.2 s a1 a2 a3)⟩⟩
           · exact absurd q.1 (by omega))
        | (rcases hx2 with q | q
           · exact absurd q.1 h8
           · exact ⟨rfl, Or.inr ⟨q.1, q.2.1, q.2.2, by omega⟩⟩)
        | (rcases hx2 with q | q
           · exact absurd q.1 h8
           · exact ⟨rfl, Or.inl ⟨rfl, fun s a1 a2 a3 a4 => by rw [hdis s x2 a1 a2 q.1.1 q.1.2 (a4.trans q.2.2.symm) (by omega)]; exact h17⟩⟩)
    · refine gz_iload_n (pc := 20) dX5_keptSlot_20 rfl ?_
      refine gz_goto (pc := 21) (tgt := 25) dX5_keptSlot_21 (by decide) ?_
      refine gz_iret (pc := 25) dX5_keptSlot_25 rfl ?_
      first
        | (rcases hx2 with q | q
           · exact ⟨rfl, Or.inl ⟨rfl, fun s a1 a2 a3 a4 => absurd a4 (q.2 s a1 a2 a3)⟩⟩
           · exact absurd q.1 (by omega))
        | (rcases hx2 with q | q
           · exact absurd q.1 h8
           · exact ⟨rfl, Or.inr ⟨q.1, q.2.1, q.2.2, by omega⟩⟩)
        | (rcases hx2 with q | q
           · exact absurd q.1 h8
           · exact ⟨rfl, Or.inl ⟨rfl, fun s a1 a2 a3 a4 => by rw [hdis s x2 a1 a2 q.1.1 q.1.2 (a4.trans q.2.2.symm) (by omega)]; exact h17⟩⟩)
set_option maxHeartbeats 4000000 in
set_option maxRecDepth 100000 in
theorem lp_X5_held (l : Launch) (D : va_G) (α : gz_P → Nat) (cA : Nat → ClassId) {I : gz_M} (hT : gz_T I) : ∀ i, i ≤ 12 → ∀ n : Int, 0 ≤ i → n = gz_sm (fun s => gz_b (¬ I (30, 0, 0) s = -1)) i.toNat → gz_V l D α cA RX5 cX5_held (some .int) 3 0 (gz_Qi fun x I' => I = I' ∧ x = gz_sm (fun s => gz_b (¬ I (30, 0, 0) s = -1)) 12) I [some (.ref (α (20, 0, 0))), some (gz_i (n)), some (gz_i (i))] [] 4 := by
  refine gz_upto _ ?_
  intro i hi ih n h0 hn
  have e1 := gz_t30 hT 0 0 i
  have e2 := gz_sm_in (f := (fun s => gz_b (¬ I (30, 0, 0) s = -1))) (lo := 0) (hi := 1) (fun s => gz_b_in _) i.toNat
  refine gz_iload_n (pc := 4) dX5_held_4 rfl ?_
  refine gz_bipush (pc := 5) dX5_held_5 rfl ?_
  refine gz_icmp_ge (pc := 7) (tgt := 34) dX5_held_7 (by decide) (by omega) (by omega) (fun h7 => ?_) (fun h7 => ?_)
  · refine gz_iload_n (pc := 34) dX5_held_34 rfl ?_
    refine gz_iret (pc := 35) dX5_held_35 rfl ?_
    exact ⟨rfl, by rw [hn, show i = 12 by omega]; rfl⟩
  · refine gz_iload_n (pc := 10) dX5_held_10 rfl ?_
    first | refine gz_aload_n (pc := 11) dX5_held_11 rfl ?_ | refine gz_aload_nN (pc := 11) dX5_held_11 rfl ?_
    refine gz_getr (pc := 12) dX5_held_12 fl_X5_42 rfl rfl rfl (by first | exact gz_B1 | (omega)) ?_
    refine gz_iload_n (pc := 15) dX5_held_15 rfl ?_
    refine gz_iald (pc := 16) dX5_held_16 rfl rfl (by first | exact gz_B1 | (omega)) (by omega) ?_
    refine gz_iconst (pc := 17) dX5_held_17 ?_
    refine gz_icmp_eq (pc := 18) (tgt := 25) dX5_held_18 (by decide) (by omega) (by omega) (fun h18 => ?_) (fun h18 => ?_)
    · refine gz_iconst (pc := 25) dX5_held_25 ?_
      refine gz_iadd (pc := 26) dX5_held_26 ?_
      refine gz_istore_n (pc := 27) dX5_held_27 rfl rfl rfl ?_
      refine gz_iinc (pc := 28) dX5_held_28 rfl rfl rfl rfl ?_
      refine gz_goto (pc := 31) (tgt := 4) dX5_held_31 (by decide) ?_
      refine ih (i + 1) (by omega) (by omega) _ (by omega) ?_
      rw [show (i + 1).toNat = i.toNat + 1 by omega, gz_sm_s, ← hn, Int.toNat_of_nonneg h0]
      first | rw [gz_b1 h18] | rw [gz_b0 (fun z => z h18)]
    · refine gz_iconst (pc := 21) dX5_held_21 ?_
      refine gz_goto (pc := 22) (tgt := 26) dX5_held_22 (by decide) ?_
      refine gz_iadd (pc := 26) dX5_held_26 ?_
      refine gz_istore_n (pc := 27) dX5_held_27 rfl rfl rfl ?_
      refine gz_iinc (pc := 28) dX5_held_28 rfl rfl rfl rfl ?_
      refine gz_goto (pc := 31) (tgt := 4) dX5_held_31 (by decide) ?_
      refine ih (i + 1) (by omega) (by omega) _ (by omega) ?_
      rw [show (i + 1).toNat = i.toNat + 1 by omega, gz_sm_s, ← hn, Int.toNat_of_nonneg h0]
      first | rw [gz_b1 h18] | rw [gz_b0 (fun z => z h18)]
set_option maxHeartbeats 4000000 in
set_option maxRecDepth 100000 in
theorem ct_X5_held (l : Launch) (D : va_G) (α : gz_P → Nat) (cA : Nat → ClassId) {I : gz_M} (hT : gz_T I) : gz_V l D α cA RX5 cX5_held (some .int) 3 0 (gz_Qi fun x I' => I = I' ∧ x = gz_sm (fun s => gz_b (¬ I (30, 0, 0) s = -1)) 12) I [some (.ref (α (20, 0, 0))), none, none] [] 0 := by
  refine gz_iconst (pc := 0) dX5_held_0 ?_
  refine gz_istore_n (pc := 1) dX5_held_1 rfl rfl rfl ?_
  refine gz_iconst (pc := 2) dX5_held_2 ?_
  refine gz_istore_n (pc := 3) dX5_held_3 rfl rfl rfl ?_
  exact lp_X5_held l D α cA hT 0 (by omega) 0 (by omega) rfl
set_option maxHeartbeats 4000000 in
set_option maxRecDepth 100000 in
theorem lp_X5_allBytes (l : Launch) (D : va_G) (α : gz_P → Nat) (cA : Nat → ClassId) {I : gz_M} (hT : gz_T I) : ∀ i, i ≤ 120 → ∀ n : Int, 0 ≤ i → n = gz_sm (fun p => I (24, 0, 0) p) i.toNat → gz_V l D α cA RX5 cX5_allBytes (some .int) 3 0 (gz_Qi fun x I' => I = I' ∧ x = gz_sm (fun p => I (24, 0, 0) p) 120) I [some (.ref (α (20, 0, 0))), some (gz_i (n)), some (gz_i (i))] [] 4 := by
  refine gz_upto _ ?_
  intro i hi ih n h0 hn
  refine gz_iload_n (pc := 4) dX5_allBytes_4 rfl ?_
  refine gz_bipush (pc := 5) dX5_allBytes_5 rfl ?_
  refine gz_icmp_ge (pc := 7) (tgt := 25) dX5_allBytes_7 (by decide) (by omega) (by omega) (fun h7 => ?_) (fun h7 => ?_)
  · refine gz_iload_n (pc := 25) dX5_allBytes_25 rfl ?_
    refine gz_iret (pc := 26) dX5_allBytes_26 rfl ?_
    exact ⟨rfl, by rw [hn, show i = 120 by omega]; rfl⟩
  · refine gz_iload_n (pc := 10) dX5_allBytes_10 rfl ?_
    first | refine gz_aload_n (pc := 11) dX5_allBytes_11 rfl ?_ | refine gz_aload_nN (pc := 11) dX5_allBytes_11 rfl ?_
    refine gz_getr (pc := 12) dX5_allBytes_12 fl_X5_23 rfl rfl rfl (by first | exact gz_B1 | (omega)) ?_
    refine gz_iload_n (pc := 15) dX5_allBytes_15 rfl ?_
    refine gz_iald (pc := 16) dX5_allBytes_16 rfl rfl (by first | exact gz_B1 | (omega)) (by omega) ?_
    refine gz_iadd (pc := 17) dX5_allBytes_17 ?_
    refine gz_istore_n (pc := 18) dX5_allBytes_18 rfl rfl rfl ?_
    refine gz_iinc (pc := 19) dX5_allBytes_19 rfl rfl rfl rfl ?_
    refine gz_goto (pc := 22) (tgt := 4) dX5_allBytes_22 (by decide) ?_
    refine ih (i + 1) (by omega) (by omega) _ (by omega) ?_
    rw [show (i + 1).toNat = i.toNat + 1 by omega, gz_sm_s, ← hn, Int.toNat_of_nonneg h0]
set_option maxHeartbeats 4000000 in
set_option maxRecDepth 100000 in
theorem ct_X5_allBytes (l : Launch) (D : va_G) (α : gz_P → Nat) (cA : Nat → ClassId) {I : gz_M} (hT : gz_T I) : gz_V l D α cA RX5 cX5_allBytes (some .int) 3 0 (gz_Qi fun x I' => I = I' ∧ x = gz_sm (fun p => I (24, 0, 0) p) 120) I [some (.ref (α (20, 0, 0))), none, none] [] 0 := by
  refine gz_iconst (pc := 0) dX5_allBytes_0 ?_
  refine gz_istore_n (pc := 1) dX5_allBytes_1 rfl rfl rfl ?_
  refine gz_iconst (pc := 2) dX5_allBytes_2 ?_
  refine gz_istore_n (pc := 3) dX5_allBytes_3 rfl rfl rfl ?_
  exact lp_X5_allBytes l D α cA hT 0 (by omega) 0 (by omega) rfl
set_option maxHeartbeats 4000000 in
set_option maxRecDepth 100000 in
theorem lp_X5_latest (l : Launch) (D : va_G) (α : gz_P → Nat) (cA : Nat → ClassId) {I : gz_M} (hT : gz_T I) {m : Int} (r_m : (-2147483648 ≤ m ∧ m ≤ 2147483647)) : ∀ i, i ≤ 12 → 0 ≤ i → ∀ x, (x = -1 ∧ (∀ s, 0 ≤ s → s < i → ¬ (¬ I (30, 0, 0) s = -1 ∧ I (31, 0, 0) s = 1 ∧ I (30, 0, 0) s < m)) ∨ (0 ≤ x ∧ x < i) ∧ (¬ I (30, 0, 0) x = -1 ∧ I (31, 0, 0) x = 1 ∧ I (30, 0, 0) x < m) ∧ ∀ s, 0 ≤ s → s < i → (¬ I (30, 0, 0) s = -1 ∧ I (31, 0, 0) s = 1 ∧ I (30, 0, 0) s < m) → I (30, 0, 0) s ≤ I (30, 0, 0) x) → gz_V l D α cA RX5 cX5_latest (some .int) 4 0 (gz_Qi fun x I' => I = I' ∧ (x = -1 ∧ (∀ s, 0 ≤ s → s < 12 → ¬ (¬ I (30, 0, 0) s = -1 ∧ I (31, 0, 0) s = 1 ∧ I (30, 0, 0) s < m)) ∨ (0 ≤ x ∧ x < 12) ∧ (¬ I (30, 0, 0) x = -1 ∧ I (31, 0, 0) x = 1 ∧ I (30, 0, 0) x < m) ∧ ∀ s, 0 ≤ s → s < 12 → (¬ I (30, 0, 0) s = -1 ∧ I (31, 0, 0) s = 1 ∧ I (30, 0, 0) s < m) → I (30, 0, 0) s ≤ I (30, 0, 0) x)) I [some (.ref (α (20, 0, 0))), some (gz_i (m)), some (gz_i (x)), some (gz_i (i))] [] 4 := by
  refine gz_upto _ ?_
  intro i hi ih h0 x hx
  have e1 := gz_t30 hT 0 0 i
  have e2 := gz_t31 hT 0 0 i
  have e3 := gz_t30 hT 0 0 x
  have hxr : -1 ≤ x ∧ x < i := by rcases hx with h | h; exact ⟨by omega, by omega⟩; exact ⟨by omega, h.1.2⟩
  refine gz_iload_n (pc := 4) dX5_latest_4 rfl ?_
  refine gz_bipush (pc := 5) dX5_latest_5 rfl ?_
  refine gz_icmp_ge (pc := 7) (tgt := 67) dX5_latest_7 (by decide) (by omega) (by omega) (fun h7 => ?_) (fun h7 => ?_)
  · refine gz_iload_n (pc := 67) dX5_latest_67 rfl ?_
    refine gz_iret (pc := 68) dX5_latest_68 rfl ?_
    rw [show i = 12 by omega] at hx
    exact ⟨rfl, hx⟩
  · first | refine gz_aload_n (pc := 10) dX5_latest_10 rfl ?_ | refine gz_aload_nN (pc := 10) dX5_latest_10 rfl ?_
    refine gz_getr (pc := 11) dX5_latest_11 fl_X5_42 rfl rfl rfl (by first | exact gz_B1 | (omega)) ?_
    refine gz_iload_n (pc := 14) dX5_latest_14 rfl ?_
    refine gz_iald (pc := 15) dX5_latest_15 rfl rfl (by first | exact gz_B1 | (omega)) (by omega) ?_
    refine gz_iconst (pc := 16) dX5_latest_16 ?_
    refine gz_icmp_eq (pc := 17) (tgt := 61) dX5_latest_17 (by decide) (by omega) (by omega) (fun h17 => ?_) (fun h17 => ?_)
    · refine gz_iinc (pc := 61) dX5_latest_61 rfl rfl rfl rfl ?_
      refine gz_goto (pc := 64) (tgt := 4) dX5_latest_64 (by decide) ?_
      refine ih (i + 1) (by omega) (by omega) (by omega) _ ?_
      first
        | (rcases hx with ⟨q1, q2⟩ | ⟨q1, q2, q3⟩
           · refine Or.inl ⟨q1, fun s a1 a2 => ?_⟩
             by_cases z : s = i
             · rw [z]; omega
             · exact q2 s a1 (by omega)
           · refine Or.inr ⟨by omega, q2, fun s a1 a2 a3 => ?_⟩
             by_cases z : s = i
             · rw [z] at a3 ⊢; omega
             · exact q3 s a1 (by omega) a3)
        | (rcases hx with ⟨q1, q2⟩ | ⟨q1, q2, q3⟩
           · refine Or.inr ⟨by omega, by omega, fun s a1 a2 a3 => ?_⟩
             by_cases z : s = i
             · rw [z]; exact Int.le_refl _
             · exact absurd a3 (q2 s a1 (by omega))
           · refine Or.inr ⟨by omega, by omega, fun s a1 a2 a3 => ?_⟩
             by_cases z : s = i
             · rw [z]; exact Int.le_refl _
             · have := q3 s a1 (by omega) a3; omega)
    · first | refine gz_aload_n (pc := 20) dX5_latest_20 rfl ?_ | refine gz_aload_nN (pc := 20) dX5_latest_20 rfl ?_
      refine gz_getr (pc := 21) dX5_latest_21 fl_X5_45 rfl rfl rfl (by first | exact gz_B1 | (omega)) ?_
      refine gz_iload_n (pc := 24) dX5_latest_24 rfl ?_
      refine gz_zald (pc := 25) dX5_latest_25 rfl rfl (by first | exact gz_B1 | (omega)) (by omega) ?_
      refine gz_if_eq (pc := 26) (tgt := 61) dX5_latest_26 (by decide) (by omega) (fun h26 => ?_) (fun h26 => ?_)
      · refine gz_iinc (pc := 61) dX5_latest_61 rfl rfl rfl rfl ?_
        refine gz_goto (pc := 64) (tgt := 4) dX5_latest_64 (by decide) ?_
        refine ih (i + 1) (by omega) (by omega) (by omega) _ ?_
        first
          | (rcases hx with ⟨q1, q2⟩ | ⟨q1, q2, q3⟩
             · refine Or.inl ⟨q1, fun s a1 a2 => ?_⟩
               by_cases z : s = i
               · rw [z]; omega
               · exact q2 s a1 (by omega)
             · refine Or.inr ⟨by omega, q2, fun s a1 a2 a3 => ?_⟩
               by_cases z : s = i
               · rw [z] at a3 ⊢; omega
               · exact q3 s a1 (by omega) a3)
          | (rcases hx with ⟨q1, q2⟩ | ⟨q1, q2, q3⟩
             · refine Or.inr ⟨by omega, by omega, fun s a1 a2 a3 => ?_⟩
               by_cases z : s = i
               · rw [z]; exact Int.le_refl _
               · exact absurd a3 (q2 s a1 (by omega))
             · refine Or.inr ⟨by omega, by omega, fun s a1 a2 a3 => ?_⟩
               by_cases z : s = i
               · rw [z]; exact Int.le_refl _
               · have := q3 s a1 (by omega) a3; omega)
      · first | refine gz_aload_n (pc := 29) dX5_latest_29 rfl ?_ | refine gz_aload_nN (pc := 29) dX5_latest_29 rfl ?_
        refine gz_getr (pc := 30) dX5_latest_30 fl_X5_42 rfl rfl rfl (by first | exact gz_B1 | (omega)) ?_
        refine gz_iload_n (pc := 33) dX5_latest_33 rfl ?_
        refine gz_iald (pc := 34) dX5_latest_34 rfl rfl (by first | exact gz_B1 | (omega)) (by omega) ?_
        refine gz_iload_n (pc := 35) dX5_latest_35 rfl ?_
        refine gz_icmp_ge (pc := 36) (tgt := 61) dX5_latest_36 (by decide) (by omega) (by omega) (fun h36 => ?_) (fun h36 => ?_)
        · refine gz_iinc (pc := 61) dX5_latest_61 rfl rfl rfl rfl ?_
          refine gz_goto (pc := 64) (tgt := 4) dX5_latest_64 (by decide) ?_
          refine ih (i + 1) (by omega) (by omega) (by omega) _ ?_
          first
            | (rcases hx with ⟨q1, q2⟩ | ⟨q1, q2, q3⟩
               · refine Or.inl ⟨q1, fun s a1 a2 => ?_⟩
                 by_cases z : s = i
                 · rw [z]; omega
                 · exact q2 s a1 (by omega)
               · refine Or.inr ⟨by omega, q2, fun s a1 a2 a3 => ?_⟩
                 by_cases z : s = i
                 · rw [z] at a3 ⊢; omega
                 · exact q3 s a1 (by omega) a3)
            | (rcases hx with ⟨q1, q2⟩ | ⟨q1, q2, q3⟩
               · refine Or.inr ⟨by omega, by omega, fun s a1 a2 a3 => ?_⟩
                 by_cases z : s = i
                 · rw [z]; exact Int.le_refl _
                 · exact absurd a3 (q2 s a1 (by omega))
               · refine Or.inr ⟨by omega, by omega, fun s a1 a2 a3 => ?_⟩
                 by_cases z : s = i
                 · rw [z]; exact Int.le_refl _
                 · have := q3 s a1 (by omega) a3; omega)
        · refine gz_iload_n (pc := 39) dX5_latest_39 rfl ?_
          refine gz_iconst (pc := 40) dX5_latest_40 ?_
          refine gz_icmp_eq (pc := 41) (tgt := 59) dX5_latest_41 (by decide) (by omega) (by omega) (fun h41 => ?_) (fun h41 => ?_)
          · refine gz_iload_n (pc := 59) dX5_latest_59 rfl ?_
            refine gz_istore_n (pc := 60) dX5_latest_60 rfl rfl rfl ?_
            refine gz_iinc (pc := 61) dX5_latest_61 rfl rfl rfl rfl ?_
            refine gz_goto (pc := 64) (tgt := 4) dX5_latest_64 (by decide) ?_
            refine ih (i + 1) (by omega) (by omega) (by omega) _ ?_
            first
              | (rcases hx with ⟨q1, q2⟩ | ⟨q1, q2, q3⟩
                 · refine Or.inl ⟨q1, fun s a1 a2 => ?_⟩
                   by_cases z : s = i
                   · rw [z]; omega
                   · exact q2 s a1 (by omega)
                 · refine Or.inr ⟨by omega, q2, fun s a1 a2 a3 => ?_⟩
                   by_cases z : s = i
                   · rw [z] at a3 ⊢; omega
                   · exact q3 s a1 (by omega) a3)
              | (rcases hx with ⟨q1, q2⟩ | ⟨q1, q2, q3⟩
                 · refine Or.inr ⟨by omega, by omega, fun s a1 a2 a3 => ?_⟩
                   by_cases z : s = i
                   · rw [z]; exact Int.le_refl _
                   · exact absurd a3 (q2 s a1 (by omega))
                 · refine Or.inr ⟨by omega, by omega, fun s a1 a2 a3 => ?_⟩
                   by_cases z : s = i
                   · rw [z]; exact Int.le_refl _
                   · have := q3 s a1 (by omega) a3; omega)
          · first | refine gz_aload_n (pc := 44) dX5_latest_44 rfl ?_ | refine gz_aload_nN (pc := 44) dX5_latest_44 rfl ?_
            refine gz_getr (pc := 45) dX5_latest_45 fl_X5_42 rfl rfl rfl (by first | exact gz_B1 | (omega)) ?_
            refine gz_iload_n (pc := 48) dX5_latest_48 rfl ?_
            refine gz_iald (pc := 49) dX5_latest_49 rfl rfl (by first | exact gz_B1 | (omega)) (by omega) ?_
            first | refine gz_aload_n (pc := 50) dX5_latest_50 rfl ?_ | refine gz_aload_nN (pc := 50) dX5_latest_50 rfl ?_
            refine gz_getr (pc := 51) dX5_latest_51 fl_X5_42 rfl rfl rfl (by first | exact gz_B1 | (omega)) ?_
            refine gz_iload_n (pc := 54) dX5_latest_54 rfl ?_
            refine gz_iald (pc := 55) dX5_latest_55 rfl rfl (by first | exact gz_B1 | (omega)) (by omega) ?_
            refine gz_icmp_le (pc := 56) (tgt := 61) dX5_latest_56 (by decide) (by omega) (by omega) (fun h56 => ?_) (fun h56 => ?_)
            · refine gz_iinc (pc := 61) dX5_latest_61 rfl rfl rfl rfl ?_
              refine gz_goto (pc := 64) (tgt := 4) dX5_latest_64 (by decide) ?_
              refine ih (i + 1) (by omega) (by omega) (by omega) _ ?_
              first
                | (rcases hx with ⟨q1, q2⟩ | ⟨q1, q2, q3⟩
                   · refine Or.inl ⟨q1, fun s a1 a2 => ?_⟩
                     by_cases z : s = i
                     · rw [z]; omega
                     · exact q2 s a1 (by omega)
                   · refine Or.inr ⟨by omega, q2, fun s a1 a2 a3 => ?_⟩
                     by_cases z : s = i
                     · rw [z] at a3 ⊢; omega
                     · exact q3 s a1 (by omega) a3)
                | (rcases hx with ⟨q1, q2⟩ | ⟨q1, q2, q3⟩
                   · refine Or.inr ⟨by omega, by omega, fun s a1 a2 a3 => ?_⟩
                     by_cases z : s = i
                     · rw [z]; exact Int.le_refl _
                     · exact absurd a3 (q2 s a1 (by omega))
                   · refine Or.inr ⟨by omega, by omega, fun s a1 a2 a3 => ?_⟩
                     by_cases z : s = i
                     · rw [z]; exact Int.le_refl _
                     · have := q3 s a1 (by omega) a3; omega)
            · refine gz_iload_n (pc := 59) dX5_latest_59 rfl ?_
              refine gz_istore_n (pc := 60) dX5_latest_60 rfl rfl rfl ?_
              refine gz_iinc (pc := 61) dX5_latest_61 rfl rfl rfl rfl ?_
              refine gz_goto (pc := 64) (tgt := 4) dX5_latest_64 (by decide) ?_
              refine ih (i + 1) (by omega) (by omega) (by omega) _ ?_
              first
                | (rcases hx with ⟨q1, q2⟩ | ⟨q1, q2, q3⟩
                   · refine Or.inl ⟨q1, fun s a1 a2 => ?_⟩
                     by_cases z : s = i
                     · rw [z]; omega
                     · exact q2 s a1 (by omega)
                   · refine Or.inr ⟨by omega, q2, fun s a1 a2 a3 => ?_⟩
                     by_cases z : s = i
                     · rw [z] at a3 ⊢; omega
                     · exact q3 s a1 (by omega) a3)
                | (rcases hx with ⟨q1, q2⟩ | ⟨q1, q2, q3⟩
                   · refine Or.inr ⟨by omega, by omega, fun s a1 a2 a3 => ?_⟩
                     by_cases z : s = i
                     · rw [z]; exact Int.le_refl _
                     · exact absurd a3 (q2 s a1 (by omega))
                   · refine Or.inr ⟨by omega, by omega, fun s a1 a2 a3 => ?_⟩
                     by_cases z : s = i
                     · rw [z]; exact Int.le_refl _
                     · have := q3 s a1 (by omega) a3; omega)
set_option maxHeartbeats 4000000 in
set_option maxRecDepth 100000 in
theorem ct_X5_latest (l : Launch) (D : va_G) (α : gz_P → Nat) (cA : Nat → ClassId) {I : gz_M} (hT : gz_T I) {m : Int} (r_m : (-2147483648 ≤ m ∧ m ≤ 2147483647)) : gz_V l D α cA RX5 cX5_latest (some .int) 4 0 (gz_Qi fun x I' => I = I' ∧ (x = -1 ∧ (∀ s, 0 ≤ s → s < 12 → ¬ (¬ I (30, 0, 0) s = -1 ∧ I (31, 0, 0) s = 1 ∧ I (30, 0, 0) s < m)) ∨ (0 ≤ x ∧ x < 12) ∧ (¬ I (30, 0, 0) x = -1 ∧ I (31, 0, 0) x = 1 ∧ I (30, 0, 0) x < m) ∧ ∀ s, 0 ≤ s → s < 12 → (¬ I (30, 0, 0) s = -1 ∧ I (31, 0, 0) s = 1 ∧ I (30, 0, 0) s < m) → I (30, 0, 0) s ≤ I (30, 0, 0) x)) I [some (.ref (α (20, 0, 0))), some (gz_i (m)), none, none] [] 0 := by
  refine gz_iconst (pc := 0) dX5_latest_0 ?_
  refine gz_istore_n (pc := 1) dX5_latest_1 rfl rfl rfl ?_
  refine gz_iconst (pc := 2) dX5_latest_2 ?_
  refine gz_istore_n (pc := 3) dX5_latest_3 rfl rfl rfl ?_
  exact lp_X5_latest l D α cA hT r_m 0 (by omega) (by omega) (-1) (Or.inl ⟨rfl, fun s a1 a2 => by omega⟩)
