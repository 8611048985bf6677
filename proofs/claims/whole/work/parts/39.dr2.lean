def gz_sf (f : Int → Int) (a n i : Int) : Int := if i = n - 1 then f a else if a ≤ i ∧ i < n - 1 then f (i + 1) else f i
set_option maxHeartbeats 4000000 in
set_option maxRecDepth 100000 in
theorem lp_X4_letGo (l : Launch) (D : va_G) (α : gz_P → Nat) (cA : Nat → ClassId) {I0 : gz_M} (hT : gz_T I0) {a : Int} (ha : 0 ≤ a ∧ a < I0 (0, 0, 0) 7) : ∀ i, i ≤ I0 (0, 0, 0) 7 - 1 → ∀ I : gz_M, a ≤ i → gz_T I → (∀ j, I (4, 0, 0) j = if a ≤ j ∧ j < i then I0 (4, 0, 0) (j + 1) else I0 (4, 0, 0) j) → (∀ q, q ≠ (4, 0, 0) → I q = I0 q) → gz_V l D α cA RX4 cX4_letGo none 4 0 (gz_Qv fun I' => gz_T I' ∧ I' (0, 0, 0) 7 = I0 (0, 0, 0) 7 - 1 ∧ (∀ i, i ≠ 7 → I' (0, 0, 0) i = I0 (0, 0, 0) i) ∧ (∀ i, I' (4, 0, 0) i = gz_sf (I0 (4, 0, 0)) a (I0 (0, 0, 0) 7) i) ∧ ∀ q, q ≠ (0, 0, 0) → q ≠ (4, 0, 0) → I' q = I0 q) I [some (.ref (α (0, 0, 0))), some (gz_i (a)), some (.ref (α (16, I0 (4, 0, 0) a, 0))), some (gz_i (i))] [] 9 := by
  have e0 := gz_th hT 0 0
  have ea := gz_t4 hT 0 0 a
  refine gz_upto _ ?_
  intro i hi ih I h0 hTI h4 hI
  have r7 : I (0, 0, 0) 7 = I0 (0, 0, 0) 7 := by rw [hI _ (gz_ne rfl)]
  have e4 := gz_t4 hTI 0 0 (i + 1)
  refine gz_iload_n (pc := 9) dX4_letGo_9 rfl ?_
  refine gz_iconst (pc := 10) dX4_letGo_10 ?_
  refine gz_iadd (pc := 11) dX4_letGo_11 ?_
  first | refine gz_aload_n (pc := 12) dX4_letGo_12 rfl ?_ | refine gz_aload_nN (pc := 12) dX4_letGo_12 rfl ?_
  refine gz_getI (pc := 13) 7 dX4_letGo_13 fl_X4_46 rfl rfl rfl rfl (by first | exact gz_B1 | (omega)) ?_
  rw [r7]
  refine gz_icmp_ge (pc := 16) (tgt := 39) dX4_letGo_16 (by decide) (by omega) (by omega) (fun h16 => ?_) (fun h16 => ?_)
  · first | refine gz_aload_n (pc := 39) dX4_letGo_39 rfl ?_ | refine gz_aload_nN (pc := 39) dX4_letGo_39 rfl ?_
    refine gz_dup (pc := 40) dX4_letGo_40 rfl ?_
    refine gz_getI (pc := 41) 7 dX4_letGo_41 fl_X4_46 rfl rfl rfl rfl (by first | exact gz_B1 | (omega)) ?_
    refine gz_iconst (pc := 44) dX4_letGo_44 ?_
    rw [r7]
    refine gz_isub (pc := 45) dX4_letGo_45 ?_
    refine gz_putI (pc := 46) 7 dX4_letGo_46 fw_X4_46 rfl rfl rfl rfl (by first | exact gz_B1 | (omega)) (Or.inl rfl) ?_
    first | refine gz_aload_n (pc := 49) dX4_letGo_49 rfl ?_ | refine gz_aload_nN (pc := 49) dX4_letGo_49 rfl ?_
    refine gz_getr (pc := 50) dX4_letGo_50 fl_X4_30 rfl rfl rfl (by first | exact gz_B1 | (omega)) ?_
    first | refine gz_aload_n (pc := 53) dX4_letGo_53 rfl ?_ | refine gz_aload_nN (pc := 53) dX4_letGo_53 rfl ?_
    refine gz_getI (pc := 54) 7 dX4_letGo_54 fl_X4_46 rfl rfl rfl rfl (by first | exact gz_B1 | (omega)) ?_
    rw [gz_up_s]
    first | refine gz_aload_n (pc := 57) dX4_letGo_57 rfl ?_ | refine gz_aload_nN (pc := 57) dX4_letGo_57 rfl ?_
    refine gz_ast4 (pc := 58) dX4_letGo_58 (by omega) (by omega) ?_
    refine gz_vret (pc := 59) dX4_letGo_59 rfl ?_
    refine ⟨gz_Tu4 (gz_Tu0_7 hTI (by omega)) (gz_t4 hT 0 0 a), by rw [gz_up_r (by decide), gz_up_s], fun j hj => by rw [gz_up_r (by decide), gz_up_eq, if_neg hj, hI _ (gz_ne rfl)], fun j => ?_, fun q q1 q2 => by rw [gz_up_ne q2, gz_up_ne q1]; exact hI q q2⟩
    unfold gz_sf
    rw [gz_up_eq]
    by_cases z : j = I0 (0, 0, 0) 7 - 1
    · rw [if_pos z, if_pos z]
    · rw [if_neg z, if_neg z, gz_up_r (by decide), h4]
      by_cases z2 : a ≤ j ∧ j < i
      · rw [if_pos z2, if_pos (by omega)]
      · rw [if_neg z2, if_neg (by omega)]
  · first | refine gz_aload_n (pc := 19) dX4_letGo_19 rfl ?_ | refine gz_aload_nN (pc := 19) dX4_letGo_19 rfl ?_
    refine gz_getr (pc := 20) dX4_letGo_20 fl_X4_30 rfl rfl rfl (by first | exact gz_B1 | (omega)) ?_
    refine gz_iload_n (pc := 23) dX4_letGo_23 rfl ?_
    first | refine gz_aload_n (pc := 24) dX4_letGo_24 rfl ?_ | refine gz_aload_nN (pc := 24) dX4_letGo_24 rfl ?_
    refine gz_getr (pc := 25) dX4_letGo_25 fl_X4_30 rfl rfl rfl (by first | exact gz_B1 | (omega)) ?_
    refine gz_iload_n (pc := 28) dX4_letGo_28 rfl ?_
    refine gz_iconst (pc := 29) dX4_letGo_29 ?_
    refine gz_iadd (pc := 30) dX4_letGo_30 ?_
    first | refine gz_ald1 (pc := 31) dX4_letGo_31 (by omega) ?_ | refine gz_ald2 (pc := 31) dX4_letGo_31 (by omega) ?_ | refine gz_ald4 (pc := 31) dX4_letGo_31 (by omega) ?_ | refine gz_ald17 (pc := 31) dX4_letGo_31 (by first | exact gz_B1 | (omega)) (by omega) ?_
    refine gz_ast4 (pc := 32) dX4_letGo_32 (by omega) (by omega) ?_
    refine gz_iinc (pc := 33) dX4_letGo_33 rfl rfl rfl rfl ?_
    refine gz_goto (pc := 36) (tgt := 9) dX4_letGo_36 (by decide) ?_
    refine ih (i + 1) (by omega) (by omega) _ (by omega) (gz_Tu4 hTI (gz_t4 hTI 0 0 _)) (fun j => ?_) (fun q hq => by rw [gz_up_ne hq]; exact hI q hq)
    rw [gz_up_eq]
    by_cases z : j = i
    · rw [if_pos z, if_pos (by omega), h4, if_neg (by omega), z]
    · rw [if_neg z, h4]
      by_cases z2 : a ≤ j ∧ j < i
      · rw [if_pos z2, if_pos (by omega)]
      · rw [if_neg z2, if_neg (by omega)]
set_option maxHeartbeats 4000000 in
set_option maxRecDepth 100000 in
theorem ct_X4_letGo (l : Launch) (D : va_G) (α : gz_P → Nat) (cA : Nat → ClassId) {I0 : gz_M} (hT : gz_T I0) {a : Int} (ha : 0 ≤ a ∧ a < I0 (0, 0, 0) 7) : gz_V l D α cA RX4 cX4_letGo none 4 0 (gz_Qv fun I' => gz_T I' ∧ I' (0, 0, 0) 7 = I0 (0, 0, 0) 7 - 1 ∧ (∀ i, i ≠ 7 → I' (0, 0, 0) i = I0 (0, 0, 0) i) ∧ (∀ i, I' (4, 0, 0) i = gz_sf (I0 (4, 0, 0)) a (I0 (0, 0, 0) 7) i) ∧ ∀ q, q ≠ (0, 0, 0) → q ≠ (4, 0, 0) → I' q = I0 q) I0 [some (.ref (α (0, 0, 0))), some (gz_i (a)), none, none] [] 0 := by
  have e0 := gz_th hT 0 0
  first | refine gz_aload_n (pc := 0) dX4_letGo_0 rfl ?_ | refine gz_aload_nN (pc := 0) dX4_letGo_0 rfl ?_
  refine gz_getr (pc := 1) dX4_letGo_1 fl_X4_30 rfl rfl rfl (by first | exact gz_B1 | (omega)) ?_
  refine gz_iload_n (pc := 4) dX4_letGo_4 rfl ?_
  first | refine gz_ald1 (pc := 5) dX4_letGo_5 (by omega) ?_ | refine gz_ald2 (pc := 5) dX4_letGo_5 (by omega) ?_ | refine gz_ald4 (pc := 5) dX4_letGo_5 (by omega) ?_ | refine gz_ald17 (pc := 5) dX4_letGo_5 (by first | exact gz_B1 | (omega)) (by omega) ?_
  first | refine gz_astore_n (pc := 6) dX4_letGo_6 rfl rfl rfl ?_ | refine gz_astore_nN (pc := 6) dX4_letGo_6 rfl rfl rfl ?_
  refine gz_iload_n (pc := 7) dX4_letGo_7 rfl ?_
  refine gz_istore_n (pc := 8) dX4_letGo_8 rfl rfl rfl ?_
  exact lp_X4_letGo l D α cA hT ha a (by omega) I0 (by omega) hT (fun j => by rw [if_neg (by omega)]) (fun q _ => rfl)
/-- which marks stay HELD: the kept ones, and bases of such as stay -/
def gz_LG (I0 I' : gz_M) : Prop := gz_T I' ∧ (0 ≤ I' (0, 0, 0) 7 ∧ I' (0, 0, 0) 7 ≤ I0 (0, 0, 0) 7) ∧ (∀ i, i ≠ 7 → I' (0, 0, 0) i = I0 (0, 0, 0) i) ∧ (∀ q, q ≠ (0, 0, 0) → q ≠ (4, 0, 0) → I' q = I0 q) ∧ (∀ i j, 0 ≤ i → i < 12 → 0 ≤ j → j < 12 → I' (4, 0, 0) i = I' (4, 0, 0) j → i = j) ∧ (∀ i j, 0 ≤ i → i < j → j < I' (0, 0, 0) 7 → I0 (16, I' (4, 0, 0) i, 0) 2 < I0 (16, I' (4, 0, 0) j, 0) 2) ∧ (∀ m, 0 ≤ m → m < I' (0, 0, 0) 7 → ∃ j, (0 ≤ j ∧ j < I0 (0, 0, 0) 7) ∧ I' (4, 0, 0) m = I0 (4, 0, 0) j) ∧ ∀ j, 0 ≤ j → j < I0 (0, 0, 0) 7 → ((∃ m, (0 ≤ m ∧ m < I' (0, 0, 0) 7) ∧ I' (4, 0, 0) m = I0 (4, 0, 0) j) ↔ (I0 (16, I0 (4, 0, 0) j, 0) 3 = 1 ∨ ∃ m, (0 ≤ m ∧ m < I' (0, 0, 0) 7) ∧ I0 (16, I' (4, 0, 0) m, 0) 4 = I0 (16, I0 (4, 0, 0) j, 0) 2))
theorem gz_sf_inj {I I' : gz_M} {a n : Int} (h4 : ∀ i, I' (4, 0, 0) i = gz_sf (I (4, 0, 0)) a n i) (hin : ∀ i j, 0 ≤ i → i < 12 → 0 ≤ j → j < 12 → I (4, 0, 0) i = I (4, 0, 0) j → i = j) (ha : 0 ≤ a ∧ a < n) (hn : n ≤ 12) : ∀ i j, 0 ≤ i → i < 12 → 0 ≤ j → j < 12 → I' (4, 0, 0) i = I' (4, 0, 0) j → i = j := by
  have key : ∀ i, 0 ≤ i → i < 12 → ∃ k, (0 ≤ k ∧ k < 12) ∧ I' (4, 0, 0) i = I (4, 0, 0) k ∧ (i = n - 1 ∧ k = a ∨ (a ≤ i ∧ i < n - 1) ∧ k = i + 1 ∨ (i < a ∨ n ≤ i) ∧ k = i) := by
    intro i h1 h2
    rw [h4 i]
    unfold gz_sf
    by_cases z : i = n - 1
    · exact ⟨a, by omega, by rw [if_pos z], Or.inl ⟨z, rfl⟩⟩
    · by_cases z2 : a ≤ i ∧ i < n - 1
      · exact ⟨i + 1, by omega, by rw [if_neg z, if_pos z2], Or.inr (Or.inl ⟨z2, rfl⟩)⟩
      · exact ⟨i, by omega, by rw [if_neg z, if_neg z2], Or.inr (Or.inr ⟨by omega, rfl⟩)⟩
  intro i j a1 a2 a3 a4 e
  obtain ⟨k, b1, b2, b3⟩ := key i a1 a2
  obtain ⟨k2, c1, c2, c3⟩ := key j a3 a4
  have := hin k k2 b1.1 b1.2 c1.1 c1.2 (b2.symm.trans (e.trans c2))
  omega
set_option maxHeartbeats 4000000 in
set_option maxRecDepth 100000 in
theorem lp_X4_letGoUnheld (l : Launch) (D : va_G) (α : gz_P → Nat) (cA : Nat → ClassId) {I0 : gz_M} (hT : gz_T I0) (hinj : (∀ i j, 0 ≤ i → i < 12 → 0 ≤ j → j < 12 → I0 (4, 0, 0) i = I0 (4, 0, 0) j → i = j)) (hsrt : (∀ i j, 0 ≤ i → i < j → j < I0 (0, 0, 0) 7 → I0 (16, I0 (4, 0, 0) i, 0) 2 < I0 (16, I0 (4, 0, 0) j, 0) 2)) (hbas : ∀ j, 0 ≤ j → j < I0 (0, 0, 0) 7 → I0 (16, I0 (4, 0, 0) (j), 0) 4 < I0 (16, I0 (4, 0, 0) (j), 0) 2) : ∀ i, -1 ≤ i → ∀ I : gz_M, gz_T I → (i < I (0, 0, 0) 7 ∧ I (0, 0, 0) 7 ≤ I0 (0, 0, 0) 7) → (∀ i, i ≠ 7 → I (0, 0, 0) i = I0 (0, 0, 0) i) → (∀ q, q ≠ (0, 0, 0) → q ≠ (4, 0, 0) → I q = I0 q) → (∀ i j, 0 ≤ i → i < 12 → 0 ≤ j → j < 12 → I (4, 0, 0) i = I (4, 0, 0) j → i = j) → (∀ i j, 0 ≤ i → i < j → j < I (0, 0, 0) 7 → I0 (16, I (4, 0, 0) i, 0) 2 < I0 (16, I (4, 0, 0) j, 0) 2) → (∀ j, 0 ≤ j → j ≤ i → I (4, 0, 0) j = I0 (4, 0, 0) j) → (∀ m, i < m → m < I (0, 0, 0) 7 → ∃ j, (i < j ∧ j < I0 (0, 0, 0) 7) ∧ I (4, 0, 0) m = I0 (4, 0, 0) j) → (∀ j, i < j → j < I0 (0, 0, 0) 7 → ((∃ m, (i < m ∧ m < I (0, 0, 0) 7) ∧ I (4, 0, 0) m = I0 (4, 0, 0) j) ↔ (I0 (16, I0 (4, 0, 0) (j), 0) 3 = 1 ∨ (∃ m, (i < m ∧ m < I (0, 0, 0) 7) ∧ I0 (16, I (4, 0, 0) m, 0) 4 = I0 (16, I0 (4, 0, 0) (j), 0) 2)))) → gz_V l D α cA RX4 cX4_letGoUnheld none 2 1 (gz_Qv fun I' => gz_LG I0 I') I [some (.ref (α (0, 0, 0))), some (gz_i (i))] [] 7 := by
  have e0 := gz_th hT 0 0
  refine gz_downto _ ?_
  intro i hi ih I hTI hc h0i hI hin hsr h4 hsub hN
  have e4 := gz_t4 hTI 0 0 i
  have r3 : 0 ≤ i → I (16, I (4, 0, 0) i, 0) 3 = I0 (16, I0 (4, 0, 0) i, 0) 3 := fun h => by rw [hI _ (gz_ne rfl) (gz_ne rfl), h4 i h (by omega)]
  have r2 : 0 ≤ i → I (16, I (4, 0, 0) i, 0) 2 = I0 (16, I0 (4, 0, 0) i, 0) 2 := fun h => by rw [hI _ (gz_ne rfl) (gz_ne rfl), h4 i h (by omega)]
  have e3 := gz_tm3 hT (I0 (4, 0, 0) i) 0
  refine gz_iload_n (pc := 7) dX4_letGoUnheld_7 rfl ?_
  refine gz_if_lt (pc := 8) (tgt := 50) dX4_letGoUnheld_8 (by decide) (by omega) (fun h8 => ?_) (fun h8 => ?_)
  · refine gz_vret (pc := 50) dX4_letGoUnheld_50 rfl ?_
    have hi1 : i = -1 := by omega
    subst hi1
    refine ⟨hTI, by omega, h0i, hI, hin, hsr, fun m a1 a2 => ?_, fun j a1 a2 => ?_⟩
    · obtain ⟨j, b1, b2⟩ := hsub m (by omega) a2
      exact ⟨j, by omega, b2⟩
    · have hj := hN j (by omega) a2
      constructor
      · rintro ⟨m, b1, b2⟩
        rcases hj.mp ⟨m, by omega, b2⟩ with h | ⟨m2, d1, d2⟩
        · exact Or.inl h
        · exact Or.inr ⟨m2, by omega, d2⟩
      · rintro (h | ⟨m, b1, b2⟩)
        · obtain ⟨m2, d1, d2⟩ := hj.mpr (Or.inl h)
          exact ⟨m2, by omega, d2⟩
        · obtain ⟨m2, d1, d2⟩ := hj.mpr (Or.inr ⟨m, by omega, b2⟩)
          exact ⟨m2, by omega, d2⟩
  · first | refine gz_aload_n (pc := 11) dX4_letGoUnheld_11 rfl ?_ | refine gz_aload_nN (pc := 11) dX4_letGoUnheld_11 rfl ?_
    refine gz_getr (pc := 12) dX4_letGoUnheld_12 fl_X4_30 rfl rfl rfl (by first | exact gz_B1 | (omega)) ?_
    refine gz_iload_n (pc := 15) dX4_letGoUnheld_15 rfl ?_
    first | refine gz_ald1 (pc := 16) dX4_letGoUnheld_16 (by omega) ?_ | refine gz_ald2 (pc := 16) dX4_letGoUnheld_16 (by omega) ?_ | refine gz_ald4 (pc := 16) dX4_letGoUnheld_16 (by omega) ?_ | refine gz_ald17 (pc := 16) dX4_letGoUnheld_16 (by first | exact gz_B1 | (omega)) (by omega) ?_
    refine gz_getI (pc := 17) 3 dX4_letGoUnheld_17 fl_X4_129 rfl rfl rfl rfl (by first | exact gz_B1 | (omega)) ?_
    rw [r3 (by omega)]
    refine gz_if_ne (pc := 20) (tgt := 44) dX4_letGoUnheld_20 (by decide) (by omega) (fun h20 => ?_) (fun h20 => ?_)
    · refine gz_iinc (pc := 44) dX4_letGoUnheld_44 rfl rfl rfl rfl ?_
      refine gz_goto (pc := 47) (tgt := 7) dX4_letGoUnheld_47 (by decide) ?_
      have hNi : I0 (16, I0 (4, 0, 0) (i), 0) 3 = 1 ∨ (∃ m, (i < m ∧ m < I (0, 0, 0) 7) ∧ I0 (16, I (4, 0, 0) m, 0) 4 = I0 (16, I0 (4, 0, 0) (i), 0) 2) := Or.inl (by omega)
      refine ih (i + -1) (by omega) (by omega) I hTI (by omega) h0i hI hin hsr (fun j a1 a2 => h4 j a1 (by omega)) (fun m a1 a2 => ?_) (fun j a1 a2 => ?_)
      · by_cases z : m = i
        · exact ⟨i, by omega, by rw [z]; exact h4 i (by omega) (by omega)⟩
        · obtain ⟨j, b1, b2⟩ := hsub m (by omega) a2
          exact ⟨j, by omega, b2⟩
      · by_cases z : j = i
        · subst z
          constructor
          · intro _
            rcases hNi with h | ⟨m, b1, b2⟩
            · exact Or.inl h
            · exact Or.inr ⟨m, by omega, b2⟩
          · intro _
            exact ⟨j, by omega, h4 j (by omega) (by omega)⟩
        · have hj := hN j (by omega) a2
          constructor
          · rintro ⟨m, b1, b2⟩
            have hm : m ≠ i := fun e => by
              rw [e, h4 i (by omega) (by omega)] at b2
              have := hinj i j (by omega) (by omega) (by omega) (by omega) b2
              omega
            rcases hj.mp ⟨m, by omega, b2⟩ with h | ⟨m2, c1, c2⟩
            · exact Or.inl h
            · exact Or.inr ⟨m2, by omega, c2⟩
          · intro h
            have h2 : I0 (16, I0 (4, 0, 0) (j), 0) 3 = 1 ∨ (∃ m, (i < m ∧ m < I (0, 0, 0) 7) ∧ I0 (16, I (4, 0, 0) m, 0) 4 = I0 (16, I0 (4, 0, 0) (j), 0) 2) := by
              rcases h with h | ⟨m, b1, b2⟩
              · exact Or.inl h
              · have hm : m ≠ i := fun e => by
                  rw [e, h4 i (by omega) (by omega)] at b2
                  have c1 := hbas i (by omega) (by omega)
                  have c2 := hsrt i j (by omega) (by omega) a2
                  omega
                exact Or.inr ⟨m, by omega, b2⟩
            obtain ⟨m, b1, b2⟩ := hj.mpr h2
            exact ⟨m, by omega, b2⟩
    · first | refine gz_aload_n (pc := 23) dX4_letGoUnheld_23 rfl ?_ | refine gz_aload_nN (pc := 23) dX4_letGoUnheld_23 rfl ?_
      first | refine gz_aload_n (pc := 24) dX4_letGoUnheld_24 rfl ?_ | refine gz_aload_nN (pc := 24) dX4_letGoUnheld_24 rfl ?_
      refine gz_getr (pc := 25) dX4_letGoUnheld_25 fl_X4_30 rfl rfl rfl (by first | exact gz_B1 | (omega)) ?_
      refine gz_iload_n (pc := 28) dX4_letGoUnheld_28 rfl ?_
      first | refine gz_ald1 (pc := 29) dX4_letGoUnheld_29 (by omega) ?_ | refine gz_ald2 (pc := 29) dX4_letGoUnheld_29 (by omega) ?_ | refine gz_ald4 (pc := 29) dX4_letGoUnheld_29 (by omega) ?_ | refine gz_ald17 (pc := 29) dX4_letGoUnheld_29 (by first | exact gz_B1 | (omega)) (by omega) ?_
      refine gz_getI (pc := 30) 2 dX4_letGoUnheld_30 fl_X4_122 rfl rfl rfl rfl (by first | exact gz_B1 | (omega)) ?_
      rw [r2 (by omega)]
      refine gz_cV1i (pc := 33) dX4_letGoUnheld_33 wm_X4_255 my_X4_isBase rfl rfl rfl (by first | exact gz_B1 | (omega)) (ct_X4_isBase l D α cA hTI (gz_tm2 hT _ 0)) (fun x33 I33 h33 => ?_)
      obtain ⟨rfl, hx33⟩ := h33
      rcases hx33 with ⟨rfl, hB⟩ | ⟨rfl, hB⟩
      · have hB2 : (∃ m, (i < m ∧ m < I (0, 0, 0) 7) ∧ I0 (16, I (4, 0, 0) m, 0) 4 = I0 (16, I0 (4, 0, 0) (i), 0) 2) := by
          obtain ⟨j, b1, b2⟩ := hB
          rw [hI _ (gz_ne rfl) (gz_ne rfl)] at b2
          by_cases z : i < j
          · exact ⟨j, by omega, b2⟩
          · exfalso
            rw [h4 j b1.1 (by omega)] at b2
            have d1 := hbas j b1.1 (by omega)
            by_cases z2 : j = i
            · rw [z2] at d1 b2; omega
            · have d2 := hsrt j i b1.1 (by omega) (by omega)
              omega
        refine gz_if_ne (pc := 36) (tgt := 44) dX4_letGoUnheld_36 (by decide) (by omega) (fun h36 => ?_) (fun h36 => ?_)
        · refine gz_iinc (pc := 44) dX4_letGoUnheld_44 rfl rfl rfl rfl ?_
          refine gz_goto (pc := 47) (tgt := 7) dX4_letGoUnheld_47 (by decide) ?_
          have hNi : I0 (16, I0 (4, 0, 0) (i), 0) 3 = 1 ∨ (∃ m, (i < m ∧ m < I (0, 0, 0) 7) ∧ I0 (16, I (4, 0, 0) m, 0) 4 = I0 (16, I0 (4, 0, 0) (i), 0) 2) := Or.inr hB2
          refine ih (i + -1) (by omega) (by omega) I hTI (by omega) h0i hI hin hsr (fun j a1 a2 => h4 j a1 (by omega)) (fun m a1 a2 => ?_) (fun j a1 a2 => ?_)
          · by_cases z : m = i
            · exact ⟨i, by omega, by rw [z]; exact h4 i (by omega) (by omega)⟩
            · obtain ⟨j, b1, b2⟩ := hsub m (by omega) a2
              exact ⟨j, by omega, b2⟩
          · by_cases z : j = i
            · subst z
              constructor
              · intro _
                rcases hNi with h | ⟨m, b1, b2⟩
                · exact Or.inl h
                · exact Or.inr ⟨m, by omega, b2⟩
              · intro _
                exact ⟨j, by omega, h4 j (by omega) (by omega)⟩
            · have hj := hN j (by omega) a2
              constructor
              · rintro ⟨m, b1, b2⟩
                have hm : m ≠ i := fun e => by
                  rw [e, h4 i (by omega) (by omega)] at b2
                  have := hinj i j (by omega) (by omega) (by omega) (by omega) b2
                  omega
                rcases hj.mp ⟨m, by omega, b2⟩ with h | ⟨m2, c1, c2⟩
                · exact Or.inl h
                · exact Or.inr ⟨m2, by omega, c2⟩
              · intro h
                have h2 : I0 (16, I0 (4, 0, 0) (j), 0) 3 = 1 ∨ (∃ m, (i < m ∧ m < I (0, 0, 0) 7) ∧ I0 (16, I (4, 0, 0) m, 0) 4 = I0 (16, I0 (4, 0, 0) (j), 0) 2) := by
                  rcases h with h | ⟨m, b1, b2⟩
                  · exact Or.inl h
                  · have hm : m ≠ i := fun e => by
                      rw [e, h4 i (by omega) (by omega)] at b2
                      have c1 := hbas i (by omega) (by omega)
                      have c2 := hsrt i j (by omega) (by omega) a2
                      omega
                    exact Or.inr ⟨m, by omega, b2⟩
                obtain ⟨m, b1, b2⟩ := hj.mpr h2
                exact ⟨m, by omega, b2⟩
        · exact absurd h36 (by decide)
      · have hnB : ¬ (∃ m, (i < m ∧ m < I (0, 0, 0) 7) ∧ I0 (16, I (4, 0, 0) m, 0) 4 = I0 (16, I0 (4, 0, 0) (i), 0) 2) := fun e => by
          obtain ⟨m, b1, b2⟩ := e
          exact hB ⟨m, by omega, by rw [hI _ (gz_ne rfl) (gz_ne rfl)]; exact b2⟩
        refine gz_if_ne (pc := 36) (tgt := 44) dX4_letGoUnheld_36 (by decide) (by omega) (fun h36 => ?_) (fun h36 => ?_)
        · refine gz_iinc (pc := 44) dX4_letGoUnheld_44 rfl rfl rfl rfl ?_
          refine gz_goto (pc := 47) (tgt := 7) dX4_letGoUnheld_47 (by decide) ?_
          have hNi : I0 (16, I0 (4, 0, 0) (i), 0) 3 = 1 ∨ (∃ m, (i < m ∧ m < I (0, 0, 0) 7) ∧ I0 (16, I (4, 0, 0) m, 0) 4 = I0 (16, I0 (4, 0, 0) (i), 0) 2) := Or.inl (by omega)
          refine ih (i + -1) (by omega) (by omega) I hTI (by omega) h0i hI hin hsr (fun j a1 a2 => h4 j a1 (by omega)) (fun m a1 a2 => ?_) (fun j a1 a2 => ?_)
          · by_cases z : m = i
            · exact ⟨i, by omega, by rw [z]; exact h4 i (by omega) (by omega)⟩
            · obtain ⟨j, b1, b2⟩ := hsub m (by omega) a2
              exact ⟨j, by omega, b2⟩
          · by_cases z : j = i
            · subst z
              constructor
              · intro _
                rcases hNi with h | ⟨m, b1, b2⟩
                · exact Or.inl h
                · exact Or.inr ⟨m, by omega, b2⟩
              · intro _
                exact ⟨j, by omega, h4 j (by omega) (by omega)⟩
            · have hj := hN j (by omega) a2
              constructor
              · rintro ⟨m, b1, b2⟩
                have hm : m ≠ i := fun e => by
                  rw [e, h4 i (by omega) (by omega)] at b2
                  have := hinj i j (by omega) (by omega) (by omega) (by omega) b2
                  omega
                rcases hj.mp ⟨m, by omega, b2⟩ with h | ⟨m2, c1, c2⟩
                · exact Or.inl h
                · exact Or.inr ⟨m2, by omega, c2⟩
              · intro h
                have h2 : I0 (16, I0 (4, 0, 0) (j), 0) 3 = 1 ∨ (∃ m, (i < m ∧ m < I (0, 0, 0) 7) ∧ I0 (16, I (4, 0, 0) m, 0) 4 = I0 (16, I0 (4, 0, 0) (j), 0) 2) := by
                  rcases h with h | ⟨m, b1, b2⟩
                  · exact Or.inl h
                  · have hm : m ≠ i := fun e => by
                      rw [e, h4 i (by omega) (by omega)] at b2
                      have c1 := hbas i (by omega) (by omega)
                      have c2 := hsrt i j (by omega) (by omega) a2
                      omega
                    exact Or.inr ⟨m, by omega, b2⟩
                obtain ⟨m, b1, b2⟩ := hj.mpr h2
                exact ⟨m, by omega, b2⟩
        · first | refine gz_aload_n (pc := 39) dX4_letGoUnheld_39 rfl ?_ | refine gz_aload_nN (pc := 39) dX4_letGoUnheld_39 rfl ?_
          refine gz_iload_n (pc := 40) dX4_letGoUnheld_40 rfl ?_
          refine gz_cV1v (pc := 41) dX4_letGoUnheld_41 wm_X4_258 my_X4_letGo rfl rfl rfl (by first | exact gz_B1 | (omega)) (ct_X4_letGo l D α cA hTI (by omega)) (fun I41 h41 => ?_)
          obtain ⟨c1, c2, c3, c4, c5⟩ := h41
          have s4 : ∀ m, i ≤ m → m < I (0, 0, 0) 7 - 1 → I41 (4, 0, 0) m = I (4, 0, 0) (m + 1) := fun m a1 a2 => by rw [c4]; unfold gz_sf; rw [if_neg (by omega), if_pos (by omega)]
          have s5 : ∀ m, m < i → I41 (4, 0, 0) m = I (4, 0, 0) m := fun m a1 => by rw [c4]; unfold gz_sf; rw [if_neg (by omega), if_neg (by omega)]
          have hnK : ¬ I0 (16, I0 (4, 0, 0) (i), 0) 3 = 1 := by omega
          · refine gz_iinc (pc := 44) dX4_letGoUnheld_44 rfl rfl rfl rfl ?_
            refine gz_goto (pc := 47) (tgt := 7) dX4_letGoUnheld_47 (by decide) ?_
            refine ih (i + -1) (by omega) (by omega) I41 c1 (by omega) (fun j hj => (c3 j hj).trans (h0i j hj)) (fun q q1 q2 => (c5 q q1 q2).trans (hI q q1 q2)) ?_ ?_ (fun j a1 a2 => ?_) (fun m a1 a2 => ?_) (fun j a1 a2 => ?_)
            · exact gz_sf_inj c4 hin (by omega) (by omega)
            · intro x y a1 a2 a3
              rw [c2] at a3
              by_cases zx : x < i
              · rw [s5 x zx]
                by_cases zy : y < i
                · rw [s5 y zy]; exact hsr x y a1 a2 (by omega)
                · rw [s4 y (by omega) (by omega)]; exact hsr x (y + 1) a1 (by omega) (by omega)
              · rw [s4 x (by omega) (by omega), s4 y (by omega) (by omega)]; exact hsr (x + 1) (y + 1) (by omega) (by omega) (by omega)
            · rw [s5 j (by omega)]; exact h4 j a1 (by omega)
            · rw [c2] at a2
              obtain ⟨j, b1, b2⟩ := hsub (m + 1) (by omega) (by omega)
              exact ⟨j, by omega, by rw [s4 m (by omega) (by omega)]; exact b2⟩
            · rw [c2]
              by_cases z : j = i
              · subst z
                constructor
                · rintro ⟨m, b1, b2⟩
                  rw [s4 m (by omega) (by omega)] at b2
                  obtain ⟨j2, d1, d2⟩ := hsub (m + 1) (by omega) (by omega)
                  have := hinj j2 j (by omega) (by omega) (by omega) (by omega) (d2.symm.trans b2)
                  omega
                · rintro (h | ⟨m, b1, b2⟩)
                  · exact absurd h hnK
                  · rw [s4 m (by omega) (by omega)] at b2
                    exact absurd ⟨m + 1, by omega, b2⟩ hnB
              · have hj := hN j (by omega) a2
                constructor
                · rintro ⟨m, b1, b2⟩
                  rw [s4 m (by omega) (by omega)] at b2
                  rcases hj.mp ⟨m + 1, by omega, b2⟩ with h | ⟨m2, d1, d2⟩
                  · exact Or.inl h
                  · exact Or.inr ⟨m2 - 1, by omega, by rw [s4 (m2 - 1) (by omega) (by omega), show m2 - 1 + 1 = m2 by omega]; exact d2⟩
                · intro h
                  have h2 : I0 (16, I0 (4, 0, 0) (j), 0) 3 = 1 ∨ (∃ m, (i < m ∧ m < I (0, 0, 0) 7) ∧ I0 (16, I (4, 0, 0) m, 0) 4 = I0 (16, I0 (4, 0, 0) (j), 0) 2) := by
                    rcases h with h | ⟨m, b1, b2⟩
                    · exact Or.inl h
                    · rw [s4 m (by omega) (by omega)] at b2
                      exact Or.inr ⟨m + 1, by omega, b2⟩
                  obtain ⟨m, b1, b2⟩ := hj.mpr h2
                  exact ⟨m - 1, by omega, by rw [s4 (m - 1) (by omega) (by omega), show m - 1 + 1 = m by omega]; exact b2⟩
set_option maxHeartbeats 4000000 in
set_option maxRecDepth 100000 in
theorem ct_X4_letGoUnheld (l : Launch) (D : va_G) (α : gz_P → Nat) (cA : Nat → ClassId) {I0 : gz_M} (hT : gz_T I0) (hinj : (∀ i j, 0 ≤ i → i < 12 → 0 ≤ j → j < 12 → I0 (4, 0, 0) i = I0 (4, 0, 0) j → i = j)) (hsrt : (∀ i j, 0 ≤ i → i < j → j < I0 (0, 0, 0) 7 → I0 (16, I0 (4, 0, 0) i, 0) 2 < I0 (16, I0 (4, 0, 0) j, 0) 2)) (hbas : ∀ j, 0 ≤ j → j < I0 (0, 0, 0) 7 → I0 (16, I0 (4, 0, 0) (j), 0) 4 < I0 (16, I0 (4, 0, 0) (j), 0) 2) : gz_V l D α cA RX4 cX4_letGoUnheld none 2 1 (gz_Qv fun I' => gz_LG I0 I') I0 [some (.ref (α (0, 0, 0))), none] [] 0 := by
  have e0 := gz_th hT 0 0
  first | refine gz_aload_n (pc := 0) dX4_letGoUnheld_0 rfl ?_ | refine gz_aload_nN (pc := 0) dX4_letGoUnheld_0 rfl ?_
  refine gz_getI (pc := 1) 7 dX4_letGoUnheld_1 fl_X4_46 rfl rfl rfl rfl (by first | exact gz_B1 | (omega)) ?_
  refine gz_iconst (pc := 4) dX4_letGoUnheld_4 ?_
  refine gz_isub (pc := 5) dX4_letGoUnheld_5 ?_
  refine gz_istore_n (pc := 6) dX4_letGoUnheld_6 rfl rfl rfl ?_
  exact lp_X4_letGoUnheld l D α cA hT hinj hsrt hbas (I0 (0, 0, 0) 7 - 1) (by omega) I0 hT (by omega) (fun i _ => rfl) (fun q _ _ => rfl) hinj hsrt (fun j _ _ => rfl) (fun m a1 a2 => by omega) (fun j a1 a2 => by omega)
