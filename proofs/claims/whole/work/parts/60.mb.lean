def gz_nMk (J : gz_M) (p k : Int) : Prop := ∃ m, (0 ≤ m ∧ m < k) ∧ ¬ J (30, 0, 0) m = -1 ∧ J (31, 0, 0) m = 1 ∧ gz_hpM J m p
theorem gz_nMk_s {J : gz_M} {p k : Int} (hk : 0 ≤ k) : gz_nMk J p (k + 1) ↔ gz_nMk J p k ∨ (¬ J (30, 0, 0) k = -1 ∧ J (31, 0, 0) k = 1 ∧ gz_hpM J k p) := by
  unfold gz_nMk
  constructor
  · rintro ⟨m, h1, h2⟩
    by_cases z : m = k
    · rw [z] at h2
      exact Or.inr h2
    · exact Or.inl ⟨m, by omega, h2⟩
  · rintro (⟨m, h1, h2⟩ | h)
    · exact ⟨m, by omega, h2⟩
    · exact ⟨k, by omega, h⟩
/-- parts that go -/
def gz_gn (J : gz_M) (p : Int) : Prop := 0 < J (24, 0, 0) p ∧ ¬ gz_nMk J p 12
/-- parts below k are freed: J before -/
def gz_DF (J I : gz_M) (k : Int) : Prop := gz_T I ∧ (∀ p, 0 ≤ p → p < 120 → I (24, 0, 0) p = (1 - gz_b (p < k ∧ gz_gn J p)) * J (24, 0, 0) p) ∧ (∀ t p, 0 ≤ t → t < 4 → 0 ≤ p → p < 120 → I (28, 0, 0) (120 * t + p) = (1 - gz_b (p < k ∧ gz_gn J p)) * J (28, 0, 0) (120 * t + p)) ∧ ∀ q : gz_P, q ≠ (24, 0, 0) → q ≠ (28, 0, 0) → I q = J q
theorem gz_hpM_eq {I J : gz_M} {m p : Int} (h33 : I (33, 0, 0) = J (33, 0, 0)) (h34 : I (34, 0, 0) = J (34, 0, 0)) (h35 : I (35, 0, 0) = J (35, 0, 0)) : gz_hpM I m p ↔ gz_hpM J m p := by
  unfold gz_hpM
  rw [h33, h34, h35]
set_option maxHeartbeats 4000000 in
set_option maxRecDepth 100000 in
theorem lp_X5_drop39 (l : Launch) (D : va_G) (α : gz_P → Nat) (cA : Nat → ClassId) {J : gz_M} (hTJ : gz_T J) {P : Int → gz_M → Prop} (hP : ∀ K I' : gz_M, gz_DF J K 120 → gz_DX K I' → P (gz_sm (fun p => gz_b (gz_gn J p)) 120) I') {m0 : Option Value} {s0 : Int} : ∀ (I : gz_M) (f p : Int), gz_T I → (0 ≤ p ∧ p < 120) → (∀ q : gz_P, q ≠ (24, 0, 0) → q ≠ (28, 0, 0) → I q = J q) → (∀ o7 : Option Value, gz_V l D α cA RX5 cX5_drop (some .int) 8 2 (gz_Qi P) I [some (.ref (α (20, 0, 0))), m0, some (gz_i (s0)), some (gz_i (f)), some (gz_i (p)), some (gz_i (gz_b (gz_nMk J p 12))), some (gz_i (12)), o7] [] 96) → ∀ k, k ≤ 12 → 0 ≤ k → ∀ o7 : Option Value, gz_V l D α cA RX5 cX5_drop (some .int) 8 2 (gz_Qi P) I [some (.ref (α (20, 0, 0))), m0, some (gz_i (s0)), some (gz_i (f)), some (gz_i (p)), some (gz_i (gz_b (gz_nMk J p k))), some (gz_i (k)), o7] [] 39 := by
  intro I f p hT hp hI kk
  refine gz_upto _ ?_
  intro k hk ih h0 o7
  have hb := gz_b_01 (gz_nMk J p k)
  have r30 : I (30, 0, 0) k = J (30, 0, 0) k := by rw [hI _ (gz_ne rfl) (gz_ne rfl)]
  have r31 : I (31, 0, 0) k = J (31, 0, 0) k := by rw [hI _ (gz_ne rfl) (gz_ne rfl)]
  have e1 := gz_t30 hTJ 0 0 k
  have e3 := gz_t31 hTJ 0 0 k
  have hh : gz_hpM I k p ↔ gz_hpM J k p := gz_hpM_eq (hI _ (gz_ne rfl) (gz_ne rfl)) (hI _ (gz_ne rfl) (gz_ne rfl)) (hI _ (gz_ne rfl) (gz_ne rfl))
  refine gz_iload (pc := 39) dX5_drop_39 rfl ?_
  refine gz_bipush (pc := 41) dX5_drop_41 rfl ?_
  refine gz_icmp_ge (pc := 43) (tgt := 96) dX5_drop_43 (by decide) (by omega) (by omega) (fun h43 => ?_) (fun h43 => ?_)
  · rw [show k = 12 by omega]
    exact kk _
  · refine gz_iload (pc := 46) dX5_drop_46 rfl ?_
    refine gz_if_ne (pc := 48) (tgt := 83) dX5_drop_48 (by decide) (by omega) (fun h48 => ?_) (fun h48 => ?_)
    · refine gz_iconst (pc := 83) dX5_drop_83 ?_
      refine gz_goto (pc := 84) (tgt := 88) dX5_drop_84 (by decide) ?_
      refine gz_istore (pc := 88) dX5_drop_88 rfl rfl rfl ?_
      refine gz_iinc (pc := 90) dX5_drop_90 rfl rfl rfl rfl ?_
      refine gz_goto (pc := 93) (tgt := 39) dX5_drop_93 (by decide) ?_
      have h9 := ih (k + 1) (by omega) (by omega) (by omega) o7
      first
        | (rw [gz_b1 ((gz_nMk_s h0).mpr (Or.inl (gz_b_t (by omega))))] at h9; exact h9)
        | (rw [gz_b1 ((gz_nMk_s h0).mpr (Or.inr ⟨h59, by omega, hh.mp (gz_b_t (by omega))⟩))] at h9; exact h9)
        | (rw [gz_b0 (fun z => ((gz_nMk_s h0).mp z).elim (gz_b_f (by omega)) (fun z => gz_b_f h80 (hh.mpr z.2.2)))] at h9; exact h9)
        | (rw [gz_b0 (fun z => ((gz_nMk_s h0).mp z).elim (gz_b_f (by omega)) (fun z => by omega))] at h9; exact h9)
    · first | refine gz_aload_n (pc := 51) dX5_drop_51 rfl ?_ | refine gz_aload_nN (pc := 51) dX5_drop_51 rfl ?_
      refine gz_getr (pc := 52) dX5_drop_52 fl_X5_42 rfl rfl rfl (by first | exact gz_B1 | (omega)) ?_
      refine gz_iload (pc := 55) dX5_drop_55 rfl ?_
      refine gz_iald (pc := 57) dX5_drop_57 rfl rfl (by first | exact gz_B1 | (omega)) (by omega) ?_
      rw [r30]
      refine gz_iconst (pc := 58) dX5_drop_58 ?_
      refine gz_icmp_eq (pc := 59) (tgt := 87) dX5_drop_59 (by decide) (by omega) (by omega) (fun h59 => ?_) (fun h59 => ?_)
      · refine gz_iconst (pc := 87) dX5_drop_87 ?_
        refine gz_istore (pc := 88) dX5_drop_88 rfl rfl rfl ?_
        refine gz_iinc (pc := 90) dX5_drop_90 rfl rfl rfl rfl ?_
        refine gz_goto (pc := 93) (tgt := 39) dX5_drop_93 (by decide) ?_
        have h9 := ih (k + 1) (by omega) (by omega) (by omega) o7
        first
          | (rw [gz_b1 ((gz_nMk_s h0).mpr (Or.inl (gz_b_t (by omega))))] at h9; exact h9)
          | (rw [gz_b1 ((gz_nMk_s h0).mpr (Or.inr ⟨h59, by omega, hh.mp (gz_b_t (by omega))⟩))] at h9; exact h9)
          | (rw [gz_b0 (fun z => ((gz_nMk_s h0).mp z).elim (gz_b_f (by omega)) (fun z => gz_b_f h80 (hh.mpr z.2.2)))] at h9; exact h9)
          | (rw [gz_b0 (fun z => ((gz_nMk_s h0).mp z).elim (gz_b_f (by omega)) (fun z => by omega))] at h9; exact h9)
      · first | refine gz_aload_n (pc := 62) dX5_drop_62 rfl ?_ | refine gz_aload_nN (pc := 62) dX5_drop_62 rfl ?_
        refine gz_getr (pc := 63) dX5_drop_63 fl_X5_45 rfl rfl rfl (by first | exact gz_B1 | (omega)) ?_
        refine gz_iload (pc := 66) dX5_drop_66 rfl ?_
        refine gz_zald (pc := 68) dX5_drop_68 rfl rfl (by first | exact gz_B1 | (omega)) (by omega) ?_
        rw [r31]
        refine gz_if_eq (pc := 69) (tgt := 87) dX5_drop_69 (by decide) (by omega) (fun h69 => ?_) (fun h69 => ?_)
        · refine gz_iconst (pc := 87) dX5_drop_87 ?_
          refine gz_istore (pc := 88) dX5_drop_88 rfl rfl rfl ?_
          refine gz_iinc (pc := 90) dX5_drop_90 rfl rfl rfl rfl ?_
          refine gz_goto (pc := 93) (tgt := 39) dX5_drop_93 (by decide) ?_
          have h9 := ih (k + 1) (by omega) (by omega) (by omega) o7
          first
            | (rw [gz_b1 ((gz_nMk_s h0).mpr (Or.inl (gz_b_t (by omega))))] at h9; exact h9)
            | (rw [gz_b1 ((gz_nMk_s h0).mpr (Or.inr ⟨h59, by omega, hh.mp (gz_b_t (by omega))⟩))] at h9; exact h9)
            | (rw [gz_b0 (fun z => ((gz_nMk_s h0).mp z).elim (gz_b_f (by omega)) (fun z => gz_b_f h80 (hh.mpr z.2.2)))] at h9; exact h9)
            | (rw [gz_b0 (fun z => ((gz_nMk_s h0).mp z).elim (gz_b_f (by omega)) (fun z => by omega))] at h9; exact h9)
        · first | refine gz_aload_n (pc := 72) dX5_drop_72 rfl ?_ | refine gz_aload_nN (pc := 72) dX5_drop_72 rfl ?_
          refine gz_iload (pc := 73) dX5_drop_73 rfl ?_
          refine gz_iload (pc := 75) dX5_drop_75 rfl ?_
          refine gz_cV2i (pc := 77) dX5_drop_77 wm_X5_100 my_X5_hasPart rfl rfl rfl (by first | exact gz_B1 | (omega)) (ct_X5_hasPart l D α cA hT (by omega) (by omega)) (fun x77 I77 h77 => ?_)
          obtain ⟨rfl, rfl⟩ := h77
          have hb2 := gz_b_01 (gz_hpM I k p)
          refine gz_if_eq (pc := 80) (tgt := 87) dX5_drop_80 (by decide) (by omega) (fun h80 => ?_) (fun h80 => ?_)
          · refine gz_iconst (pc := 87) dX5_drop_87 ?_
            refine gz_istore (pc := 88) dX5_drop_88 rfl rfl rfl ?_
            refine gz_iinc (pc := 90) dX5_drop_90 rfl rfl rfl rfl ?_
            refine gz_goto (pc := 93) (tgt := 39) dX5_drop_93 (by decide) ?_
            have h9 := ih (k + 1) (by omega) (by omega) (by omega) o7
            first
              | (rw [gz_b1 ((gz_nMk_s h0).mpr (Or.inl (gz_b_t (by omega))))] at h9; exact h9)
              | (rw [gz_b1 ((gz_nMk_s h0).mpr (Or.inr ⟨h59, by omega, hh.mp (gz_b_t (by omega))⟩))] at h9; exact h9)
              | (rw [gz_b0 (fun z => ((gz_nMk_s h0).mp z).elim (gz_b_f (by omega)) (fun z => gz_b_f h80 (hh.mpr z.2.2)))] at h9; exact h9)
              | (rw [gz_b0 (fun z => ((gz_nMk_s h0).mp z).elim (gz_b_f (by omega)) (fun z => by omega))] at h9; exact h9)
          · refine gz_iconst (pc := 83) dX5_drop_83 ?_
            refine gz_goto (pc := 84) (tgt := 88) dX5_drop_84 (by decide) ?_
            refine gz_istore (pc := 88) dX5_drop_88 rfl rfl rfl ?_
            refine gz_iinc (pc := 90) dX5_drop_90 rfl rfl rfl rfl ?_
            refine gz_goto (pc := 93) (tgt := 39) dX5_drop_93 (by decide) ?_
            have h9 := ih (k + 1) (by omega) (by omega) (by omega) o7
            first
              | (rw [gz_b1 ((gz_nMk_s h0).mpr (Or.inl (gz_b_t (by omega))))] at h9; exact h9)
              | (rw [gz_b1 ((gz_nMk_s h0).mpr (Or.inr ⟨h59, by omega, hh.mp (gz_b_t (by omega))⟩))] at h9; exact h9)
              | (rw [gz_b0 (fun z => ((gz_nMk_s h0).mp z).elim (gz_b_f (by omega)) (fun z => gz_b_f h80 (hh.mpr z.2.2)))] at h9; exact h9)
              | (rw [gz_b0 (fun z => ((gz_nMk_s h0).mp z).elim (gz_b_f (by omega)) (fun z => by omega))] at h9; exact h9)
set_option maxHeartbeats 4000000 in
set_option maxRecDepth 100000 in
theorem lp_X5_drop125 (l : Launch) (D : va_G) (α : gz_P → Nat) (cA : Nat → ClassId) {J : gz_M} (hTJ : gz_T J) {P : Int → gz_M → Prop} (hP : ∀ K I' : gz_M, gz_DF J K 120 → gz_DX K I' → P (gz_sm (fun p => gz_b (gz_gn J p)) 120) I') {m0 : Option Value} {s0 : Int} : ∀ (I0 : gz_M) (f p b : Int), (0 ≤ p ∧ p < 120) → (∀ I : gz_M, gz_T I → (∀ t q, 0 ≤ t → t < 4 → 0 ≤ q → q < 120 → I (28, 0, 0) (120 * t + q) = if q = p then 0 else I0 (28, 0, 0) (120 * t + q)) → (∀ q : gz_P, q ≠ (28, 0, 0) → I q = I0 q) → ∀ o6 o7 : Option Value, gz_V l D α cA RX5 cX5_drop (some .int) 8 2 (gz_Qi P) I [some (.ref (α (20, 0, 0))), m0, some (gz_i (s0)), some (gz_i (f)), some (gz_i (p)), some (gz_i (b)), o6, o7] [] 151) → ∀ k, k ≤ 4 → ∀ I : gz_M, 0 ≤ k → gz_T I → (∀ t q, 0 ≤ t → t < 4 → 0 ≤ q → q < 120 → I (28, 0, 0) (120 * t + q) = if t < k ∧ q = p then 0 else I0 (28, 0, 0) (120 * t + q)) → (∀ q : gz_P, q ≠ (28, 0, 0) → I q = I0 q) → ∀ o7 : Option Value, gz_V l D α cA RX5 cX5_drop (some .int) 8 2 (gz_Qi P) I [some (.ref (α (20, 0, 0))), m0, some (gz_i (s0)), some (gz_i (f)), some (gz_i (p)), some (gz_i (b)), some (gz_i (k)), o7] [] 125 := by
  intro I0 f p b hp kk
  refine gz_upto _ ?_
  intro k hk ih I h0 hTI h28 hI o7
  refine gz_iload (pc := 125) dX5_drop_125 rfl ?_
  refine gz_iconst (pc := 127) dX5_drop_127 ?_
  refine gz_icmp_ge (pc := 128) (tgt := 151) dX5_drop_128 (by decide) (by omega) (by omega) (fun h128 => ?_) (fun h128 => ?_)
  · refine kk I hTI (fun t q b1 b2 b3 b4 => ?_) hI _ _
    rw [h28 t q b1 b2 b3 b4]
    by_cases z : q = p
    · rw [if_pos (by omega), if_pos z]
    · rw [if_neg (by omega), if_neg z]
  · first | refine gz_aload_n (pc := 131) dX5_drop_131 rfl ?_ | refine gz_aload_nN (pc := 131) dX5_drop_131 rfl ?_
    refine gz_getr (pc := 132) dX5_drop_132 fl_X5_36 rfl rfl rfl (by first | exact gz_B1 | (omega)) ?_
    refine gz_bipush (pc := 135) dX5_drop_135 rfl ?_
    refine gz_iload (pc := 137) dX5_drop_137 rfl ?_
    refine gz_imul (pc := 139) dX5_drop_139 ?_
    refine gz_iload (pc := 140) dX5_drop_140 rfl ?_
    refine gz_iadd (pc := 142) dX5_drop_142 ?_
    refine gz_iconst (pc := 143) dX5_drop_143 ?_
    refine gz_zast (pc := 144) dX5_drop_144 rfl rfl (by first | exact gz_B1 | (omega)) (by omega) (by omega) ?_
    refine gz_iinc (pc := 145) dX5_drop_145 rfl rfl rfl rfl ?_
    refine gz_goto (pc := 148) (tgt := 125) dX5_drop_148 (by decide) ?_
    refine ih (k + 1) (by omega) (by omega) _ (by omega) (gz_Tu28 hTI (by decide)) (fun t q b1 b2 b3 b4 => ?_) (fun q hq => by rw [gz_up_ne hq]; exact hI q hq) _
    rw [gz_up_eq, h28 t q b1 b2 b3 b4]
    by_cases z : t = k ∧ q = p
    · rw [if_pos (by omega), if_pos (by omega)]
    · rw [if_neg (by omega)]
      by_cases z2 : t < k ∧ q = p
      · rw [if_pos z2, if_pos (by omega)]
      · rw [if_neg z2, if_neg (by omega)]
set_option maxHeartbeats 4000000 in
set_option maxRecDepth 100000 in
theorem lp_X5_drop26 (l : Launch) (D : va_G) (α : gz_P → Nat) (cA : Nat → ClassId) {J : gz_M} (hTJ : gz_T J) {P : Int → gz_M → Prop} (hP : ∀ K I' : gz_M, gz_DF J K 120 → gz_DX K I' → P (gz_sm (fun p => gz_b (gz_gn J p)) 120) I') {m0 : Option Value} {s0 : Int} : ∀ k, k ≤ 120 → ∀ (I : gz_M) (f : Int), 0 ≤ k → gz_DF J I k → f = gz_sm (fun p => gz_b (gz_gn J p)) k.toNat → ∀ o5 o6 o7 : Option Value, gz_V l D α cA RX5 cX5_drop (some .int) 8 2 (gz_Qi P) I [some (.ref (α (20, 0, 0))), m0, some (gz_i (s0)), some (gz_i (f)), some (gz_i (k)), o5, o6, o7] [] 26 := by
  refine gz_upto _ ?_
  intro k hk ih I f h0 hD hf o5 o6 o7
  obtain ⟨hTI, h24, h28, hI⟩ := id hD
  have r24 : k < 120 → I (24, 0, 0) k = J (24, 0, 0) k := fun hlt => by rw [h24 k h0 hlt, gz_b0 (fun z => by have := z.1; omega)]; omega
  have e24 := gz_t24 hTJ 0 0 k
  refine gz_iload (pc := 26) dX5_drop_26 rfl ?_
  refine gz_bipush (pc := 28) dX5_drop_28 rfl ?_
  refine gz_icmp_ge (pc := 30) (tgt := 157) dX5_drop_30 (by decide) (by omega) (by omega) (fun h30 => ?_) (fun h30 => ?_)
  · refine gz_iconst (pc := 157) dX5_drop_157 ?_
    refine gz_istore (pc := 158) dX5_drop_158 rfl rfl rfl ?_
    have hk2 : k = 120 := by omega
    rw [hk2] at hD hf
    refine lp_X5_drop160 l D α cA (K := I) (fun I9 h9 => by rw [hf]; exact hP I I9 hD h9) (gz_hc I) (gz_hc_in I).1 I rfl ⟨hTI, fun q _ => rfl, fun m b1 b2 => Or.inl rfl⟩ _ _ _
  · refine gz_iconst (pc := 33) dX5_drop_33 ?_
    refine gz_istore (pc := 34) dX5_drop_34 rfl rfl rfl ?_
    refine gz_iconst (pc := 36) dX5_drop_36 ?_
    refine gz_istore (pc := 37) dX5_drop_37 rfl rfl rfl ?_
    have hcall := fun kk => lp_X5_drop39 l D α cA hTJ hP (m0 := m0) (s0 := s0) I f k hTI ⟨h0, by omega⟩ hI kk 0 (by omega) (by omega)
    have hb0 : gz_b (gz_nMk J k 0) = 0 := gz_b0 (fun z => by obtain ⟨m, z1, _⟩ := z; omega)
    rw [hb0] at hcall
    refine hcall ?_ _
    intro o7
    have hbb := gz_b_01 (gz_nMk J k 12)
    first | refine gz_aload_n (pc := 96) dX5_drop_96 rfl ?_ | refine gz_aload_nN (pc := 96) dX5_drop_96 rfl ?_
    refine gz_getr (pc := 97) dX5_drop_97 fl_X5_23 rfl rfl rfl (by first | exact gz_B1 | (omega)) ?_
    refine gz_iload (pc := 100) dX5_drop_100 rfl ?_
    refine gz_iald (pc := 102) dX5_drop_102 rfl rfl (by first | exact gz_B1 | (omega)) (by omega) ?_
    rw [r24 (by omega)]
    refine gz_if_le (pc := 103) (tgt := 151) dX5_drop_103 (by decide) (by omega) (fun h103 => ?_) (fun h103 => ?_)
    · refine gz_iinc (pc := 151) dX5_drop_151 rfl rfl rfl rfl ?_
      refine gz_goto (pc := 154) (tgt := 26) dX5_drop_154 (by decide) ?_
      have hng : ¬ gz_gn J k := fun z => by
        first
          | exact gz_b_f (by omega) z.2
          | exact z.2 (gz_b_t (by omega))
          | (have := z.1; omega)
      refine ih (k + 1) (by omega) (by omega) I _ (by omega) ⟨hTI, fun p b1 b2 => ?_, fun t p b1 b2 b3 b4 => ?_, hI⟩ ?_ _ _ _
      · rw [h24 p b1 b2, gz_b_cong (P := p < k ∧ gz_gn J p) (Q := p < k + 1 ∧ gz_gn J p) ⟨fun z => ⟨by omega, z.2⟩, fun z => ⟨by
          by_cases e : p = k
          · rw [e] at z; exact absurd z.2 hng
          · have := z.1; omega, z.2⟩⟩]
      · rw [h28 t p b1 b2 b3 b4, gz_b_cong (P := p < k ∧ gz_gn J p) (Q := p < k + 1 ∧ gz_gn J p) ⟨fun z => ⟨by omega, z.2⟩, fun z => ⟨by
          by_cases e : p = k
          · rw [e] at z; exact absurd z.2 hng
          · have := z.1; omega, z.2⟩⟩]
      · rw [show (k + 1).toNat = k.toNat + 1 by omega, gz_sm_s, ← hf, Int.toNat_of_nonneg h0]
        show f = f + gz_b (gz_gn J k)
        rw [gz_b0 hng]; omega
    · refine gz_iload (pc := 106) dX5_drop_106 rfl ?_
      refine gz_if_ne (pc := 108) (tgt := 151) dX5_drop_108 (by decide) (by omega) (fun h108 => ?_) (fun h108 => ?_)
      · refine gz_iinc (pc := 151) dX5_drop_151 rfl rfl rfl rfl ?_
        refine gz_goto (pc := 154) (tgt := 26) dX5_drop_154 (by decide) ?_
        have hng : ¬ gz_gn J k := fun z => by
          first
            | exact gz_b_f (by omega) z.2
            | exact z.2 (gz_b_t (by omega))
            | (have := z.1; omega)
        refine ih (k + 1) (by omega) (by omega) I _ (by omega) ⟨hTI, fun p b1 b2 => ?_, fun t p b1 b2 b3 b4 => ?_, hI⟩ ?_ _ _ _
        · rw [h24 p b1 b2, gz_b_cong (P := p < k ∧ gz_gn J p) (Q := p < k + 1 ∧ gz_gn J p) ⟨fun z => ⟨by omega, z.2⟩, fun z => ⟨by
            by_cases e : p = k
            · rw [e] at z; exact absurd z.2 hng
            · have := z.1; omega, z.2⟩⟩]
        · rw [h28 t p b1 b2 b3 b4, gz_b_cong (P := p < k ∧ gz_gn J p) (Q := p < k + 1 ∧ gz_gn J p) ⟨fun z => ⟨by omega, z.2⟩, fun z => ⟨by
            by_cases e : p = k
            · rw [e] at z; exact absurd z.2 hng
            · have := z.1; omega, z.2⟩⟩]
        · rw [show (k + 1).toNat = k.toNat + 1 by omega, gz_sm_s, ← hf, Int.toNat_of_nonneg h0]
          show f = f + gz_b (gz_gn J k)
          rw [gz_b0 hng]; omega
      · refine gz_iinc (pc := 111) dX5_drop_111 rfl rfl rfl rfl ?_
        first | refine gz_aload_n (pc := 114) dX5_drop_114 rfl ?_ | refine gz_aload_nN (pc := 114) dX5_drop_114 rfl ?_
        refine gz_getr (pc := 115) dX5_drop_115 fl_X5_23 rfl rfl rfl (by first | exact gz_B1 | (omega)) ?_
        refine gz_iload (pc := 118) dX5_drop_118 rfl ?_
        refine gz_iconst (pc := 120) dX5_drop_120 ?_
        refine gz_iast (pc := 121) dX5_drop_121 rfl rfl (by first | exact gz_B1 | (omega)) (by omega) ?_
        refine gz_iconst (pc := 122) dX5_drop_122 ?_
        refine gz_istore (pc := 123) dX5_drop_123 rfl rfl rfl ?_
        have hg : gz_gn J k := ⟨by omega, gz_b_f h108⟩
        refine lp_X5_drop125 l D α cA hTJ hP (gz_up I (24, 0, 0) k 0) (f + 1) k (gz_b (gz_nMk J k 12)) ⟨h0, by omega⟩ ?_ 0 (by omega) _ (by omega) (gz_Tu24 hTI (by decide)) (fun t q b1 b2 b3 b4 => by rw [if_neg (by omega)]) (fun q _ => rfl) _
        intro I9 g1 g2 g3 o6 o7
        refine gz_iinc (pc := 151) dX5_drop_151 rfl rfl rfl rfl ?_
        refine gz_goto (pc := 154) (tgt := 26) dX5_drop_154 (by decide) ?_
        refine ih (k + 1) (by omega) (by omega) I9 _ (by omega) ⟨g1, fun p b1 b2 => ?_, fun t p b1 b2 b3 b4 => ?_, fun q q1 q2 => by rw [g3 q q2, gz_up_ne q1]; exact hI q q1 q2⟩ ?_ _ _ _
        · rw [g3 _ (gz_ne rfl), gz_up_eq]
          by_cases e : p = k
          · rw [if_pos e, gz_b1 ⟨by omega, by rw [e]; exact hg⟩]; omega
          · rw [if_neg e, h24 p b1 b2, gz_b_cong (P := p < k ∧ gz_gn J p) (Q := p < k + 1 ∧ gz_gn J p) ⟨fun z => ⟨by omega, z.2⟩, fun z => ⟨by have := z.1; omega, z.2⟩⟩]
        · rw [g2 t p b1 b2 b3 b4, gz_up_r (by decide)]
          by_cases e : p = k
          · rw [if_pos e, gz_b1 ⟨by omega, by rw [e]; exact hg⟩]; omega
          · rw [if_neg e, h28 t p b1 b2 b3 b4, gz_b_cong (P := p < k ∧ gz_gn J p) (Q := p < k + 1 ∧ gz_gn J p) ⟨fun z => ⟨by omega, z.2⟩, fun z => ⟨by have := z.1; omega, z.2⟩⟩]
        · rw [show (k + 1).toNat = k.toNat + 1 by omega, gz_sm_s, ← hf, Int.toNat_of_nonneg h0]
          show f + 1 = f + gz_b (gz_gn J k)
          rw [gz_b1 hg]
set_option maxHeartbeats 4000000 in
set_option maxRecDepth 100000 in
theorem ct_X5_drop (l : Launch) (D : va_G) (α : gz_P → Nat) (cA : Nat → ClassId) {I : gz_M} (hT : gz_T I) {m : Int} (r_m : (-2147483648 ≤ m ∧ m ≤ 2147483647)) (hdis : (∀ s s', 0 ≤ s → s < 12 → 0 ≤ s' → s' < 12 → I (30, 0, 0) s = I (30, 0, 0) s' → 0 ≤ I (30, 0, 0) s → s = s')) : gz_V l D α cA RX5 cX5_drop (some .int) 8 2 (gz_Qi fun x I' => x = -2 ∧ I = I' ∧ (∀ s, 0 ≤ s → s < 12 → 0 ≤ m → I (30, 0, 0) s = m → I (31, 0, 0) s = 0) ∨ ∃ s, ((0 ≤ s ∧ s < 12) ∧ 0 ≤ m ∧ I (30, 0, 0) s = m ∧ I (31, 0, 0) s = 1) ∧ ∃ K, gz_DF (gz_up I (31, 0, 0) s 0) K 120 ∧ gz_DX K I' ∧ x = gz_sm (fun p => gz_b (gz_gn (gz_up I (31, 0, 0) s 0) p)) 120) I [some (.ref (α (20, 0, 0))), some (gz_i (m)), none, none, none, none, none, none] [] 0 := by
  first | refine gz_aload_n (pc := 0) dX5_drop_0 rfl ?_ | refine gz_aload_nN (pc := 0) dX5_drop_0 rfl ?_
  refine gz_iload_n (pc := 1) dX5_drop_1 rfl ?_
  refine gz_cV1i (pc := 2) dX5_drop_2 wm_X5_137 my_X5_keptSlot rfl rfl rfl (by first | exact gz_B1 | (omega)) (ct_X5_keptSlot l D α cA hT r_m hdis) (fun x2 I2 h2 => ?_)
  obtain ⟨rfl, hx2⟩ := h2
  have hxr : -1 ≤ x2 ∧ x2 < 12 := by rcases hx2 with h | h <;> omega
  refine gz_istore_n (pc := 5) dX5_drop_5 rfl rfl rfl ?_
  refine gz_iload_n (pc := 6) dX5_drop_6 rfl ?_
  refine gz_iconst (pc := 7) dX5_drop_7 ?_
  refine gz_icmp_ne (pc := 8) (tgt := 14) dX5_drop_8 (by decide) (by omega) (by omega) (fun h8 => ?_) (fun h8 => ?_)
  · first | refine gz_aload_n (pc := 14) dX5_drop_14 rfl ?_ | refine gz_aload_nN (pc := 14) dX5_drop_14 rfl ?_
    refine gz_getr (pc := 15) dX5_drop_15 fl_X5_45 rfl rfl rfl (by first | exact gz_B1 | (omega)) ?_
    refine gz_iload_n (pc := 18) dX5_drop_18 rfl ?_
    refine gz_iconst (pc := 19) dX5_drop_19 ?_
    refine gz_zast (pc := 20) dX5_drop_20 rfl rfl (by first | exact gz_B1 | (omega)) (by omega) (by omega) ?_
    refine gz_iconst (pc := 21) dX5_drop_21 ?_
    refine gz_istore_n (pc := 22) dX5_drop_22 rfl rfl rfl ?_
    refine gz_iconst (pc := 23) dX5_drop_23 ?_
    refine gz_istore (pc := 24) dX5_drop_24 rfl rfl rfl ?_
    rcases hx2 with ⟨q1, _⟩ | q
    · exact absurd q1 h8
    · have hTJ := gz_Tu31 (a := 0) (b := 0) (j := x2) (v := 0) hT (by decide)
      refine lp_X5_drop26 l D α cA hTJ (fun K I9 h1 h2 => Or.inr ⟨x2, q, K, h1, h2, rfl⟩) 0 (by omega) _ 0 (by omega) ⟨hTJ, fun p b1 b2 => ?_, fun t p b1 b2 b3 b4 => ?_, fun _ _ _ => rfl⟩ rfl _ _ _
      · rw [gz_b0 (fun z => by have := z.1; omega)]; omega
      · rw [gz_b0 (fun z => by have := z.1; omega)]; omega
  · refine gz_bipush (pc := 11) dX5_drop_11 rfl ?_
    refine gz_iret (pc := 13) dX5_drop_13 rfl ?_
    rcases hx2 with ⟨q1, q2⟩ | q
    · exact Or.inl ⟨rfl, rfl, q2⟩
    · exact absurd q.1 (by omega)
