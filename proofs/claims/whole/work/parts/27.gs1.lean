set_option maxHeartbeats 4000000 in
set_option maxRecDepth 100000 in
theorem lp_X4_totalStateBytes (l : Launch) (D : va_G) (α : gz_P → Nat) (cA : Nat → ClassId) {I : gz_M} (hT : gz_T I) : ∀ t, t ≤ I (0, 0, 0) 6 → ∀ n : Int, 0 ≤ t → n = gz_sm (fun t => I (7, t, 0) 2) t.toNat → gz_V l D α cA RX4 cX4_totalStateBytes (some .int) 3 0 (gz_Qi fun x I' => I = I' ∧ x = gz_sm (fun t => I (7, t, 0) 2) (I (0, 0, 0) 6).toNat) I [some (.ref (α (0, 0, 0))), some (gz_i (n)), some (gz_i (t))] [] 4 := by
  refine gz_upto _ ?_
  intro t ht ih n h0 hn
  have e1 := gz_tk hT 0 0
  have e2 := gz_sm_in (f := (fun t => I (7, t, 0) 2)) (lo := 0) (hi := 300) (fun i => gz_t7 hT i 0 2) t.toNat
  have e3 := gz_t7 hT t 0 2
  refine gz_iload_n (pc := 4) dX4_totalStateBytes_4 rfl ?_
  first | refine gz_aload_n (pc := 5) dX4_totalStateBytes_5 rfl ?_ | refine gz_aload_nN (pc := 5) dX4_totalStateBytes_5 rfl ?_
  refine gz_getI (pc := 6) 6 dX4_totalStateBytes_6 fl_X4_42 rfl rfl rfl rfl (by first | exact gz_B1 | (omega)) ?_
  refine gz_icmp_ge (pc := 9) (tgt := 30) dX4_totalStateBytes_9 (by decide) (by omega) (by omega) (fun h9 => ?_) (fun h9 => ?_)
  · refine gz_iload_n (pc := 30) dX4_totalStateBytes_30 rfl ?_
    refine gz_iret (pc := 31) dX4_totalStateBytes_31 rfl ?_
    exact ⟨rfl, by rw [hn, show t = I (0, 0, 0) 6 by omega]⟩
  · refine gz_iload_n (pc := 12) dX4_totalStateBytes_12 rfl ?_
    first | refine gz_aload_n (pc := 13) dX4_totalStateBytes_13 rfl ?_ | refine gz_aload_nN (pc := 13) dX4_totalStateBytes_13 rfl ?_
    refine gz_getr (pc := 14) dX4_totalStateBytes_14 fl_X4_11 rfl rfl rfl (by first | exact gz_B1 | (omega)) ?_
    refine gz_iload_n (pc := 17) dX4_totalStateBytes_17 rfl ?_
    first | refine gz_ald1 (pc := 18) dX4_totalStateBytes_18 (by omega) ?_ | refine gz_ald2 (pc := 18) dX4_totalStateBytes_18 (by omega) ?_ | refine gz_ald4 (pc := 18) dX4_totalStateBytes_18 (by omega) ?_ | refine gz_ald17 (pc := 18) dX4_totalStateBytes_18 (by first | exact gz_B1 | (omega)) (by omega) ?_
    refine gz_getI (pc := 19) 2 dX4_totalStateBytes_19 fl_X4_59 rfl rfl rfl rfl (by first | exact gz_B1 | (omega)) ?_
    refine gz_iadd (pc := 22) dX4_totalStateBytes_22 ?_
    refine gz_istore_n (pc := 23) dX4_totalStateBytes_23 rfl rfl rfl ?_
    refine gz_iinc (pc := 24) dX4_totalStateBytes_24 rfl rfl rfl rfl ?_
    refine gz_goto (pc := 27) (tgt := 4) dX4_totalStateBytes_27 (by decide) ?_
    refine ih (t + 1) (by omega) (by omega) _ (by omega) ?_
    rw [show (t + 1).toNat = t.toNat + 1 by omega, gz_sm_s, ← hn, Int.toNat_of_nonneg h0]
set_option maxHeartbeats 4000000 in
set_option maxRecDepth 100000 in
theorem ct_X4_totalStateBytes (l : Launch) (D : va_G) (α : gz_P → Nat) (cA : Nat → ClassId) {I : gz_M} (hT : gz_T I) : gz_V l D α cA RX4 cX4_totalStateBytes (some .int) 3 0 (gz_Qi fun x I' => I = I' ∧ x = gz_sm (fun t => I (7, t, 0) 2) (I (0, 0, 0) 6).toNat) I [some (.ref (α (0, 0, 0))), none, none] [] 0 := by
  refine gz_iconst (pc := 0) dX4_totalStateBytes_0 ?_
  refine gz_istore_n (pc := 1) dX4_totalStateBytes_1 rfl rfl rfl ?_
  refine gz_iconst (pc := 2) dX4_totalStateBytes_2 ?_
  refine gz_istore_n (pc := 3) dX4_totalStateBytes_3 rfl rfl rfl ?_
  exact lp_X4_totalStateBytes l D α cA hT 0 (by have := gz_tk hT 0 0; omega) 0 (by omega) rfl
theorem gz_sm_mono {f : Int → Int} (h : ∀ i, 0 ≤ f i) {a : Nat} : ∀ {b : Nat}, a ≤ b → gz_sm f a ≤ gz_sm f b
  | 0, hb => by rw [show a = 0 by omega]; exact Int.le_refl _
  | b + 1, hb => by
    by_cases e : a = b + 1
    · rw [e]; exact Int.le_refl _
    · have := gz_sm_mono h (a := a) (b := b) (by omega)
      rw [gz_sm_s]
      have := h b
      omega
set_option maxHeartbeats 4000000 in
set_option maxRecDepth 100000 in
theorem lp_X4_joinStates (l : Launch) (D : va_G) (α : gz_P → Nat) (cA : Nat → ClassId) {I0 : gz_M} (hT : gz_T I0) : ∀ t, t ≤ I0 (0, 0, 0) 6 → ∀ (n : Int) (I : gz_M), 0 ≤ t → n = gz_sm (fun t => I0 (7, t, 0) 2) t.toNat → gz_T I → (∀ q, q ≠ (5, 0, 0) → I q = I0 q) → (∀ u, 0 ≤ u → u < t → ∀ i, 0 ≤ i → i < I0 (7, u, 0) 2 → I (5, 0, 0) (gz_sm (fun t => I0 (7, t, 0) 2) u.toNat + i) = I0 (8, u, 0) i) → gz_V l D α cA RX4 cX4_joinStates none 3 1 (gz_Qv fun I' => gz_T I' ∧ (∀ q, q ≠ (5, 0, 0) → I' q = I0 q) ∧ ∀ t, 0 ≤ t → t < I0 (0, 0, 0) 6 → ∀ i, 0 ≤ i → i < I0 (7, t, 0) 2 → I' (5, 0, 0) (gz_sm (fun t => I0 (7, t, 0) 2) t.toNat + i) = I0 (8, t, 0) i) I [some (.ref (α (0, 0, 0))), some (gz_i (n)), some (gz_i (t))] [] 4 := by
  refine gz_upto _ ?_
  intro t ht ih n I h0 hn hTI hI hj
  have e1 := gz_tk hT 0 0
  have e2 := gz_sm_in (f := (fun t => I0 (7, t, 0) 2)) (lo := 0) (hi := 300) (fun i => gz_t7 hT i 0 2) t.toNat
  have e3 := gz_t7 hT t 0 2
  have r6 : I (0, 0, 0) 6 = I0 (0, 0, 0) 6 := by rw [hI _ (gz_ne rfl)]
  have r7 : I (7, t, 0) 2 = I0 (7, t, 0) 2 := by rw [hI _ (gz_ne rfl)]
  refine gz_iload_n (pc := 4) dX4_joinStates_4 rfl ?_
  first | refine gz_aload_n (pc := 5) dX4_joinStates_5 rfl ?_ | refine gz_aload_nN (pc := 5) dX4_joinStates_5 rfl ?_
  refine gz_getI (pc := 6) 6 dX4_joinStates_6 fl_X4_42 rfl rfl rfl rfl (by first | exact gz_B1 | (omega)) ?_
  rw [r6]
  refine gz_icmp_ge (pc := 9) (tgt := 57) dX4_joinStates_9 (by decide) (by omega) (by omega) (fun h9 => ?_) (fun h9 => ?_)
  · refine gz_vret (pc := 57) dX4_joinStates_57 rfl ?_
    exact ⟨hTI, hI, fun u a1 a2 => hj u a1 (by omega)⟩
  · first | refine gz_aload_n (pc := 12) dX4_joinStates_12 rfl ?_ | refine gz_aload_nN (pc := 12) dX4_joinStates_12 rfl ?_
    refine gz_getr (pc := 13) dX4_joinStates_13 fl_X4_11 rfl rfl rfl (by first | exact gz_B1 | (omega)) ?_
    refine gz_iload_n (pc := 16) dX4_joinStates_16 rfl ?_
    first | refine gz_ald1 (pc := 17) dX4_joinStates_17 (by omega) ?_ | refine gz_ald2 (pc := 17) dX4_joinStates_17 (by omega) ?_ | refine gz_ald4 (pc := 17) dX4_joinStates_17 (by omega) ?_ | refine gz_ald17 (pc := 17) dX4_joinStates_17 (by first | exact gz_B1 | (omega)) (by omega) ?_
    refine gz_getr (pc := 18) dX4_joinStates_18 fl_X4_66 rfl rfl rfl (by first | exact gz_B1 | (omega)) ?_
    refine gz_iconst (pc := 21) dX4_joinStates_21 ?_
    first | refine gz_aload_n (pc := 22) dX4_joinStates_22 rfl ?_ | refine gz_aload_nN (pc := 22) dX4_joinStates_22 rfl ?_
    refine gz_getr (pc := 23) dX4_joinStates_23 fl_X4_34 rfl rfl rfl (by first | exact gz_B1 | (omega)) ?_
    refine gz_iload_n (pc := 26) dX4_joinStates_26 rfl ?_
    first | refine gz_aload_n (pc := 27) dX4_joinStates_27 rfl ?_ | refine gz_aload_nN (pc := 27) dX4_joinStates_27 rfl ?_
    refine gz_getr (pc := 28) dX4_joinStates_28 fl_X4_11 rfl rfl rfl (by first | exact gz_B1 | (omega)) ?_
    refine gz_iload_n (pc := 31) dX4_joinStates_31 rfl ?_
    first | refine gz_ald1 (pc := 32) dX4_joinStates_32 (by omega) ?_ | refine gz_ald2 (pc := 32) dX4_joinStates_32 (by omega) ?_ | refine gz_ald4 (pc := 32) dX4_joinStates_32 (by omega) ?_ | refine gz_ald17 (pc := 32) dX4_joinStates_32 (by first | exact gz_B1 | (omega)) (by omega) ?_
    refine gz_getI (pc := 33) 2 dX4_joinStates_33 fl_X4_59 rfl rfl rfl rfl (by first | exact gz_B1 | (omega)) ?_
    rw [r7]
    refine gz_copy (pc := 36) dX4_joinStates_36 wm_X4_225 rfl rfl rfl rfl (Nat.le_of_ble_eq_true rfl) (by first | exact gz_B1 | (omega)) (by first | exact gz_B1 | (omega)) (by omega) ?_
    refine gz_iload_n (pc := 39) dX4_joinStates_39 rfl ?_
    first | refine gz_aload_n (pc := 40) dX4_joinStates_40 rfl ?_ | refine gz_aload_nN (pc := 40) dX4_joinStates_40 rfl ?_
    refine gz_getr (pc := 41) dX4_joinStates_41 fl_X4_11 rfl rfl rfl (by first | exact gz_B1 | (omega)) ?_
    refine gz_iload_n (pc := 44) dX4_joinStates_44 rfl ?_
    first | refine gz_ald1 (pc := 45) dX4_joinStates_45 (by omega) ?_ | refine gz_ald2 (pc := 45) dX4_joinStates_45 (by omega) ?_ | refine gz_ald4 (pc := 45) dX4_joinStates_45 (by omega) ?_ | refine gz_ald17 (pc := 45) dX4_joinStates_45 (by first | exact gz_B1 | (omega)) (by omega) ?_
    refine gz_getI (pc := 46) 2 dX4_joinStates_46 fl_X4_59 rfl rfl rfl rfl (by first | exact gz_B1 | (omega)) ?_
    rw [gz_cp_r (by decide), r7]
    refine gz_iadd (pc := 49) dX4_joinStates_49 ?_
    refine gz_istore_n (pc := 50) dX4_joinStates_50 rfl rfl rfl ?_
    refine gz_iinc (pc := 51) dX4_joinStates_51 rfl rfl rfl rfl ?_
    refine gz_goto (pc := 54) (tgt := 4) dX4_joinStates_54 (by decide) ?_
    refine ih (t + 1) (by omega) (by omega) _ _ (by omega) ?_ (gz_T_cp hTI (fun _ => ⟨rfl, rfl⟩) (fun _ => ⟨rfl, rfl⟩)) (fun q hq => ?_) (fun u a1 a2 i a3 a4 => ?_)
    · rw [show (t + 1).toNat = t.toNat + 1 by omega, gz_sm_s, ← hn, Int.toNat_of_nonneg h0]
    · rw [← hI q hq]
      funext j
      unfold gz_cp
      rw [if_neg (fun z => hq z.1)]
    · rw [gz_cp_k]
      by_cases z : u = t
      · subst z
        rw [if_pos (by omega), ← hn, show 0 + (n + i - n) = i by omega, hI _ (gz_ne rfl)]
      · have z2 : gz_sm (fun t => I0 (7, t, 0) 2) (u.toNat + 1) ≤ gz_sm (fun t => I0 (7, t, 0) 2) t.toNat := gz_sm_mono (fun i => (gz_t7 hT i 0 2).1) (by omega)
        rw [gz_sm_s, Int.toNat_of_nonneg a1] at z2
        rw [if_neg (by omega)]
        exact hj u a1 (by omega) i a3 a4
set_option maxHeartbeats 4000000 in
set_option maxRecDepth 100000 in
theorem ct_X4_joinStates (l : Launch) (D : va_G) (α : gz_P → Nat) (cA : Nat → ClassId) {I0 : gz_M} (hT : gz_T I0) : gz_V l D α cA RX4 cX4_joinStates none 3 1 (gz_Qv fun I' => gz_T I' ∧ (∀ q, q ≠ (5, 0, 0) → I' q = I0 q) ∧ ∀ t, 0 ≤ t → t < I0 (0, 0, 0) 6 → ∀ i, 0 ≤ i → i < I0 (7, t, 0) 2 → I' (5, 0, 0) (gz_sm (fun t => I0 (7, t, 0) 2) t.toNat + i) = I0 (8, t, 0) i) I0 [some (.ref (α (0, 0, 0))), none, none] [] 0 := by
  refine gz_iconst (pc := 0) dX4_joinStates_0 ?_
  refine gz_istore_n (pc := 1) dX4_joinStates_1 rfl rfl rfl ?_
  refine gz_iconst (pc := 2) dX4_joinStates_2 ?_
  refine gz_istore_n (pc := 3) dX4_joinStates_3 rfl rfl rfl ?_
  exact lp_X4_joinStates l D α cA hT 0 (by have := gz_tk hT 0 0; omega) 0 I0 (by omega) rfl hT (fun q _ => rfl) (fun u a1 a2 => by omega)
set_option maxHeartbeats 4000000 in
set_option maxRecDepth 100000 in
theorem lp_X4_becomeTasks (l : Launch) (D : va_G) (α : gz_P → Nat) (cA : Nat → ClassId) {I0 : gz_M} (hT : gz_T I0) {n : Int} (hn : 1 ≤ n ∧ n ≤ 4) : ∀ t, t ≤ 4 → ∀ I : gz_M, n ≤ t → gz_T I → (∀ q, (∀ u, n ≤ u → u < I0 (0, 0, 0) 6 → q ≠ (11, u, 0)) → I q = I0 q) → (∀ u, n ≤ u → u < t → u < I0 (0, 0, 0) 6 → ∀ i, 0 ≤ i → i < 120 → I (11, u, 0) i = 0) → gz_V l D α cA RX4 cX4_becomeTasks none 3 1 (gz_Qv fun I' => gz_T I' ∧ I' (0, 0, 0) 6 = n ∧ (∀ i, i ≠ 6 → I' (0, 0, 0) i = I0 (0, 0, 0) i) ∧ (∀ q, q ≠ (0, 0, 0) → (∀ t, n ≤ t → t < I0 (0, 0, 0) 6 → q ≠ (11, t, 0)) → I' q = I0 q) ∧ ∀ t, n ≤ t → t < I0 (0, 0, 0) 6 → ∀ i, 0 ≤ i → i < 120 → I' (11, t, 0) i = 0) I [some (.ref (α (0, 0, 0))), some (gz_i (n)), some (gz_i (t))] [] 2 := by
  refine gz_upto _ ?_
  intro t ht ih I h0 hTI hI hj
  have e1 := gz_tk hT 0 0
  have r6 : I (0, 0, 0) 6 = I0 (0, 0, 0) 6 := by rw [hI _ (fun u _ _ => gz_ne rfl)]
  refine gz_iload_n (pc := 2) dX4_becomeTasks_2 rfl ?_
  first | refine gz_aload_n (pc := 3) dX4_becomeTasks_3 rfl ?_ | refine gz_aload_nN (pc := 3) dX4_becomeTasks_3 rfl ?_
  refine gz_getI (pc := 4) 6 dX4_becomeTasks_4 fl_X4_42 rfl rfl rfl rfl (by first | exact gz_B1 | (omega)) ?_
  rw [r6]
  refine gz_icmp_ge (pc := 7) (tgt := 25) dX4_becomeTasks_7 (by decide) (by omega) (by omega) (fun h7 => ?_) (fun h7 => ?_)
  · first | refine gz_aload_n (pc := 25) dX4_becomeTasks_25 rfl ?_ | refine gz_aload_nN (pc := 25) dX4_becomeTasks_25 rfl ?_
    refine gz_iload_n (pc := 26) dX4_becomeTasks_26 rfl ?_
    refine gz_putI (pc := 27) 6 dX4_becomeTasks_27 fw_X4_42 rfl rfl rfl rfl (by first | exact gz_B1 | (omega)) (Or.inl rfl) ?_
    refine gz_vret (pc := 30) dX4_becomeTasks_30 rfl ?_
    refine ⟨gz_Tu0_6 hTI hn, gz_up_s, fun i hi => ?_, fun q h1 h2 => ?_, fun u a1 a2 i a3 a4 => ?_⟩
    · rw [gz_up_eq, if_neg hi, hI _ (fun u _ _ => gz_ne rfl)]
    · rw [gz_up_ne h1]; exact hI q h2
    · rw [gz_up_r (by decide)]; exact hj u a1 (by omega) a2 i a3 a4
  · first | refine gz_aload_n (pc := 10) dX4_becomeTasks_10 rfl ?_ | refine gz_aload_nN (pc := 10) dX4_becomeTasks_10 rfl ?_
    refine gz_getr (pc := 11) dX4_becomeTasks_11 fl_X4_17 rfl rfl rfl (by first | exact gz_B1 | (omega)) ?_
    refine gz_iload_n (pc := 14) dX4_becomeTasks_14 rfl ?_
    first | refine gz_ald1 (pc := 15) dX4_becomeTasks_15 (by omega) ?_ | refine gz_ald2 (pc := 15) dX4_becomeTasks_15 (by omega) ?_ | refine gz_ald4 (pc := 15) dX4_becomeTasks_15 (by omega) ?_ | refine gz_ald17 (pc := 15) dX4_becomeTasks_15 (by first | exact gz_B1 | (omega)) (by omega) ?_
    refine gz_cV0v (pc := 16) dX4_becomeTasks_16 wm_X4_231 my_X1_clear rfl rfl rfl (by first | exact gz_B1 | (omega)) (ct_X1_clear l D α cA (by omega) hTI) (fun I16 h16 => ?_)
    obtain ⟨c1, c2, c3⟩ := h16
    refine gz_iinc (pc := 19) dX4_becomeTasks_19 rfl rfl rfl rfl ?_
    refine gz_goto (pc := 22) (tgt := 2) dX4_becomeTasks_22 (by decide) ?_
    refine ih (t + 1) (by omega) (by omega) _ (by omega) c1 (fun q hq => ?_) (fun u a1 a2 a3 i a4 a5 => ?_)
    · rw [c2 q (hq t h0 (by omega))]
      exact hI q hq
    · by_cases z : u = t
      · rw [z]; exact c3 i a4 a5
      · rw [c2 _ (fun e => z (by injection e with _ e; injection e))]
        exact hj u a1 (by omega) a3 i a4 a5
set_option maxHeartbeats 4000000 in
set_option maxRecDepth 100000 in
theorem ct_X4_becomeTasks (l : Launch) (D : va_G) (α : gz_P → Nat) (cA : Nat → ClassId) {I0 : gz_M} (hT : gz_T I0) {n : Int} (hn : 1 ≤ n ∧ n ≤ 4) : gz_V l D α cA RX4 cX4_becomeTasks none 3 1 (gz_Qv fun I' => gz_T I' ∧ I' (0, 0, 0) 6 = n ∧ (∀ i, i ≠ 6 → I' (0, 0, 0) i = I0 (0, 0, 0) i) ∧ (∀ q, q ≠ (0, 0, 0) → (∀ t, n ≤ t → t < I0 (0, 0, 0) 6 → q ≠ (11, t, 0)) → I' q = I0 q) ∧ ∀ t, n ≤ t → t < I0 (0, 0, 0) 6 → ∀ i, 0 ≤ i → i < 120 → I' (11, t, 0) i = 0) I0 [some (.ref (α (0, 0, 0))), some (gz_i (n)), none] [] 0 := by
  refine gz_iload_n (pc := 0) dX4_becomeTasks_0 rfl ?_
  refine gz_istore_n (pc := 1) dX4_becomeTasks_1 rfl rfl rfl ?_
  exact lp_X4_becomeTasks l D α cA hT hn n (by omega) I0 (by omega) hT (fun q _ => rfl) (fun u a1 a2 => by omega)
set_option maxHeartbeats 4000000 in
set_option maxRecDepth 100000 in
theorem ct_X4_shareStart (l : Launch) (D : va_G) (α : gz_P → Nat) (cA : Nat → ClassId) {I : gz_M} {a t n : Int} (ha : 0 ≤ a ∧ a ≤ 1200) (ht : 0 ≤ t ∧ t ≤ 4) (hn : 1 ≤ n ∧ n ≤ 4) : gz_V l D α cA RX4 cX4_shareStart (some .int) 3 0 (gz_Qi fun x I' => I = I' ∧ x = a * t / n) I [some (gz_i (a)), some (gz_i (t)), some (gz_i (n))] [] 0 := by
  have h1 : 0 ≤ a * t := Int.mul_nonneg ha.1 ht.1
  have h2 : a * t ≤ 1200 * 4 := Int.mul_le_mul ha.2 ht.2 ht.1 (by decide)
  refine gz_iload_n (pc := 0) dX4_shareStart_0 rfl ?_
  refine gz_iload_n (pc := 1) dX4_shareStart_1 rfl ?_
  refine gz_imul (pc := 2) dX4_shareStart_2 ?_
  refine gz_iload_n (pc := 3) dX4_shareStart_3 rfl ?_
  refine gz_idiv (pc := 4) dX4_shareStart_4 (by omega) (by omega) ?_
  refine gz_iret (pc := 5) dX4_shareStart_5 rfl ?_
  exact ⟨rfl, rfl⟩
set_option maxHeartbeats 4000000 in
set_option maxRecDepth 100000 in
theorem lp_X4_heldMark (l : Launch) (D : va_G) (α : gz_P → Nat) (cA : Nat → ClassId) {I : gz_M} (hT : gz_T I) {m : Int} (hm : (-2147483648 ≤ m ∧ m ≤ 2147483647)) : ∀ i, i ≤ I (0, 0, 0) 7 → 0 ≤ i → (∀ j, 0 ≤ j → j < i → ¬ I (16, I (4, 0, 0) (j), 0) 2 = m) → gz_V l D α cA RX4 cX4_heldMark (some (.object "GrownSnapshots$Mark")) 3 0 (gz_Qr fun v I' => I = I' ∧ (v = .null ∧ (∀ j, 0 ≤ j → j < I (0, 0, 0) 7 → ¬ I (16, I (4, 0, 0) (j), 0) 2 = m) ∨ ∃ i, ((0 ≤ i ∧ i < I (0, 0, 0) 7) ∧ I (16, I (4, 0, 0) (i), 0) 2 = m ∧ ∀ j, 0 ≤ j → j < i → ¬ I (16, I (4, 0, 0) (j), 0) 2 = m) ∧ v = .ref (α (16, I (4, 0, 0) (i), 0)))) I [some (.ref (α (0, 0, 0))), some (gz_i (m)), some (gz_i (i))] [] 2 := by
  refine gz_upto _ ?_
  intro i hi ih h0 hj
  have e1 := gz_th hT 0 0
  have e2 := gz_t4 hT 0 0 i
  have e3 := gz_tm2 hT (I (4, 0, 0) (i)) 0
  refine gz_iload_n (pc := 2) dX4_heldMark_2 rfl ?_
  first | refine gz_aload_n (pc := 3) dX4_heldMark_3 rfl ?_ | refine gz_aload_nN (pc := 3) dX4_heldMark_3 rfl ?_
  refine gz_getI (pc := 4) 7 dX4_heldMark_4 fl_X4_46 rfl rfl rfl rfl (by first | exact gz_B1 | (omega)) ?_
  refine gz_icmp_ge (pc := 7) (tgt := 36) dX4_heldMark_7 (by decide) (by omega) (by omega) (fun h7 => ?_) (fun h7 => ?_)
  · refine gz_null (pc := 36) dX4_heldMark_36 ?_
    first | refine gz_aret (pc := 37) dX4_heldMark_37 rfl ?_ | refine gz_aretN (pc := 37) dX4_heldMark_37 rfl ?_
    exact ⟨rfl, Or.inl ⟨rfl, fun j a1 a2 => hj j a1 (by omega)⟩⟩
  · first | refine gz_aload_n (pc := 10) dX4_heldMark_10 rfl ?_ | refine gz_aload_nN (pc := 10) dX4_heldMark_10 rfl ?_
    refine gz_getr (pc := 11) dX4_heldMark_11 fl_X4_30 rfl rfl rfl (by first | exact gz_B1 | (omega)) ?_
    refine gz_iload_n (pc := 14) dX4_heldMark_14 rfl ?_
    first | refine gz_ald1 (pc := 15) dX4_heldMark_15 (by omega) ?_ | refine gz_ald2 (pc := 15) dX4_heldMark_15 (by omega) ?_ | refine gz_ald4 (pc := 15) dX4_heldMark_15 (by omega) ?_ | refine gz_ald17 (pc := 15) dX4_heldMark_15 (by first | exact gz_B1 | (omega)) (by omega) ?_
    refine gz_getI (pc := 16) 2 dX4_heldMark_16 fl_X4_122 rfl rfl rfl rfl (by first | exact gz_B1 | (omega)) ?_
    refine gz_iload_n (pc := 19) dX4_heldMark_19 rfl ?_
    refine gz_icmp_ne (pc := 20) (tgt := 30) dX4_heldMark_20 (by decide) (by omega) (by omega) (fun h20 => ?_) (fun h20 => ?_)
    · refine gz_iinc (pc := 30) dX4_heldMark_30 rfl rfl rfl rfl ?_
      refine gz_goto (pc := 33) (tgt := 2) dX4_heldMark_33 (by decide) ?_
      refine ih (i + 1) (by omega) (by omega) (by omega) (fun j a1 a2 => ?_)
      by_cases z : j = i
      · rw [z]; exact h20
      · exact hj j a1 (by omega)
    · first | refine gz_aload_n (pc := 23) dX4_heldMark_23 rfl ?_ | refine gz_aload_nN (pc := 23) dX4_heldMark_23 rfl ?_
      refine gz_getr (pc := 24) dX4_heldMark_24 fl_X4_30 rfl rfl rfl (by first | exact gz_B1 | (omega)) ?_
      refine gz_iload_n (pc := 27) dX4_heldMark_27 rfl ?_
      first | refine gz_ald1 (pc := 28) dX4_heldMark_28 (by omega) ?_ | refine gz_ald2 (pc := 28) dX4_heldMark_28 (by omega) ?_ | refine gz_ald4 (pc := 28) dX4_heldMark_28 (by omega) ?_ | refine gz_ald17 (pc := 28) dX4_heldMark_28 (by first | exact gz_B1 | (omega)) (by omega) ?_
      first | refine gz_aret (pc := 29) dX4_heldMark_29 rfl ?_ | refine gz_aretN (pc := 29) dX4_heldMark_29 rfl ?_
      exact ⟨rfl, Or.inr ⟨i, ⟨by omega, h20, hj⟩, rfl⟩⟩
set_option maxHeartbeats 4000000 in
set_option maxRecDepth 100000 in
theorem ct_X4_heldMark (l : Launch) (D : va_G) (α : gz_P → Nat) (cA : Nat → ClassId) {I : gz_M} (hT : gz_T I) {m : Int} (hm : (-2147483648 ≤ m ∧ m ≤ 2147483647)) : gz_V l D α cA RX4 cX4_heldMark (some (.object "GrownSnapshots$Mark")) 3 0 (gz_Qr fun v I' => I = I' ∧ (v = .null ∧ (∀ j, 0 ≤ j → j < I (0, 0, 0) 7 → ¬ I (16, I (4, 0, 0) (j), 0) 2 = m) ∨ ∃ i, ((0 ≤ i ∧ i < I (0, 0, 0) 7) ∧ I (16, I (4, 0, 0) (i), 0) 2 = m ∧ ∀ j, 0 ≤ j → j < i → ¬ I (16, I (4, 0, 0) (j), 0) 2 = m) ∧ v = .ref (α (16, I (4, 0, 0) (i), 0)))) I [some (.ref (α (0, 0, 0))), some (gz_i (m)), none] [] 0 := by
  refine gz_iconst (pc := 0) dX4_heldMark_0 ?_
  refine gz_istore_n (pc := 1) dX4_heldMark_1 rfl rfl rfl ?_
  exact lp_X4_heldMark l D α cA hT hm 0 (by have := gz_th hT 0 0; omega) (by omega) (fun j a1 a2 => by omega)
theorem gz_ixu {P : Int → Prop} {i j : Int} (hi : 0 ≤ i) (hj : 0 ≤ j) (h1 : P i) (h2 : P j) (m1 : ∀ k, 0 ≤ k → k < i → ¬ P k) (m2 : ∀ k, 0 ≤ k → k < j → ¬ P k) : i = j := by
  rcases Int.lt_trichotomy i j with h | h | h
  · exact absurd h1 (m2 i hi h)
  · exact h
  · exact absurd h2 (m1 j hj h)
set_option maxHeartbeats 4000000 in
set_option maxRecDepth 100000 in
theorem ct_X4_keptMark (l : Launch) (D : va_G) (α : gz_P → Nat) (cA : Nat → ClassId) {I : gz_M} (hT : gz_T I) {m : Int} (hm : (-2147483648 ≤ m ∧ m ≤ 2147483647)) : gz_V l D α cA RX4 cX4_keptMark (some (.object "GrownSnapshots$Mark")) 3 1 (gz_Qr fun v I' => I = I' ∧ (v = .null ∧ (∀ i, ((0 ≤ i ∧ i < I (0, 0, 0) 7) ∧ I (16, I (4, 0, 0) (i), 0) 2 = m ∧ ∀ j, 0 ≤ j → j < i → ¬ I (16, I (4, 0, 0) (j), 0) 2 = m) → I (16, I (4, 0, 0) (i), 0) 3 = 0) ∨ ∃ i, ((0 ≤ i ∧ i < I (0, 0, 0) 7) ∧ I (16, I (4, 0, 0) (i), 0) 2 = m ∧ ∀ j, 0 ≤ j → j < i → ¬ I (16, I (4, 0, 0) (j), 0) 2 = m) ∧ I (16, I (4, 0, 0) (i), 0) 3 = 1 ∧ v = .ref (α (16, I (4, 0, 0) (i), 0)))) I [some (.ref (α (0, 0, 0))), some (gz_i (m)), none] [] 0 := by
  first | refine gz_aload_n (pc := 0) dX4_keptMark_0 rfl ?_ | refine gz_aload_nN (pc := 0) dX4_keptMark_0 rfl ?_
  refine gz_iload_n (pc := 1) dX4_keptMark_1 rfl ?_
  refine gz_cV1r (pc := 2) dX4_keptMark_2 wm_X4_152 my_X4_heldMark rfl rfl rfl (by first | exact gz_B1 | (omega)) (ct_X4_heldMark l D α cA hT hm) (fun x2 I2 h2 => ?_)
  obtain ⟨rfl, ⟨rfl, hn⟩ | ⟨i, hi, rfl⟩⟩ := h2
  · first | refine gz_astore_n (pc := 5) dX4_keptMark_5 rfl rfl rfl ?_ | refine gz_astore_nN (pc := 5) dX4_keptMark_5 rfl rfl rfl ?_
    first | refine gz_aload_n (pc := 6) dX4_keptMark_6 rfl ?_ | refine gz_aload_nN (pc := 6) dX4_keptMark_6 rfl ?_
    refine gz_ifnullN (pc := 7) (tgt := 21) dX4_keptMark_7 (by decide) ?_
    refine gz_null (pc := 21) dX4_keptMark_21 ?_
    first | refine gz_aret (pc := 22) dX4_keptMark_22 rfl ?_ | refine gz_aretN (pc := 22) dX4_keptMark_22 rfl ?_
    exact ⟨rfl, Or.inl ⟨rfl, fun i hi => absurd hi.2.1 (hn i hi.1.1 hi.1.2)⟩⟩
  · have e2 := gz_t4 hT 0 0 i
    have e3 := gz_tm3 hT (I (4, 0, 0) (i)) 0
    have uq : ∀ i2, ((0 ≤ i2 ∧ i2 < I (0, 0, 0) 7) ∧ I (16, I (4, 0, 0) (i2), 0) 2 = m ∧ ∀ j, 0 ≤ j → j < i2 → ¬ I (16, I (4, 0, 0) (j), 0) 2 = m) → i2 = i := fun i2 h => gz_ixu (P := fun j => I (16, I (4, 0, 0) (j), 0) 2 = m) h.1.1 hi.1.1 h.2.1 hi.2.1 h.2.2 hi.2.2
    first | refine gz_astore_n (pc := 5) dX4_keptMark_5 rfl rfl rfl ?_ | refine gz_astore_nN (pc := 5) dX4_keptMark_5 rfl rfl rfl ?_
    first | refine gz_aload_n (pc := 6) dX4_keptMark_6 rfl ?_ | refine gz_aload_nN (pc := 6) dX4_keptMark_6 rfl ?_
    refine gz_ifnull (pc := 7) dX4_keptMark_7 ?_
    first | refine gz_aload_n (pc := 10) dX4_keptMark_10 rfl ?_ | refine gz_aload_nN (pc := 10) dX4_keptMark_10 rfl ?_
    refine gz_getI (pc := 11) 3 dX4_keptMark_11 fl_X4_129 rfl rfl rfl rfl (by first | exact gz_B1 | (omega)) ?_
    refine gz_if_eq (pc := 14) (tgt := 21) dX4_keptMark_14 (by decide) (by omega) (fun h14 => ?_) (fun h14 => ?_)
    · refine gz_null (pc := 21) dX4_keptMark_21 ?_
      first | refine gz_aret (pc := 22) dX4_keptMark_22 rfl ?_ | refine gz_aretN (pc := 22) dX4_keptMark_22 rfl ?_
      first | exact ⟨rfl, Or.inr ⟨i, hi, by omega, rfl⟩⟩ | exact ⟨rfl, Or.inl ⟨rfl, fun i2 h => by rw [uq i2 h]; omega⟩⟩
    · first | refine gz_aload_n (pc := 17) dX4_keptMark_17 rfl ?_ | refine gz_aload_nN (pc := 17) dX4_keptMark_17 rfl ?_
      refine gz_goto (pc := 18) (tgt := 22) dX4_keptMark_18 (by decide) ?_
      first | refine gz_aret (pc := 22) dX4_keptMark_22 rfl ?_ | refine gz_aretN (pc := 22) dX4_keptMark_22 rfl ?_
      first | exact ⟨rfl, Or.inr ⟨i, hi, by omega, rfl⟩⟩ | exact ⟨rfl, Or.inl ⟨rfl, fun i2 h => by rw [uq i2 h]; omega⟩⟩
set_option maxHeartbeats 4000000 in
set_option maxRecDepth 100000 in
theorem lp_X4_latestKept (l : Launch) (D : va_G) (α : gz_P → Nat) (cA : Nat → ClassId) {I : gz_M} (hT : gz_T I) : ∀ i, -1 ≤ i → i < I (0, 0, 0) 7 → (∀ j, i < j → j < I (0, 0, 0) 7 → I (16, I (4, 0, 0) (j), 0) 3 = 0) → gz_V l D α cA RX4 cX4_latestKept (some (.object "GrownSnapshots$Mark")) 2 0 (gz_Qr fun v I' => I = I' ∧ (v = .null ∧ (∀ j, 0 ≤ j → j < I (0, 0, 0) 7 → I (16, I (4, 0, 0) (j), 0) 3 = 0) ∨ ∃ i, (0 ≤ i ∧ i < I (0, 0, 0) 7) ∧ I (16, I (4, 0, 0) (i), 0) 3 = 1 ∧ (∀ j, i < j → j < I (0, 0, 0) 7 → I (16, I (4, 0, 0) (j), 0) 3 = 0) ∧ v = .ref (α (16, I (4, 0, 0) (i), 0)))) I [some (.ref (α (0, 0, 0))), some (gz_i (i))] [] 7 := by
  refine gz_downto _ ?_
  intro i hi ih hi2 hj
  have e1 := gz_th hT 0 0
  have e2 := gz_t4 hT 0 0 i
  have e3 := gz_tm3 hT (I (4, 0, 0) (i)) 0
  refine gz_iload_n (pc := 7) dX4_latestKept_7 rfl ?_
  refine gz_if_lt (pc := 8) (tgt := 36) dX4_latestKept_8 (by decide) (by omega) (fun h8 => ?_) (fun h8 => ?_)
  · refine gz_null (pc := 36) dX4_latestKept_36 ?_
    first | refine gz_aret (pc := 37) dX4_latestKept_37 rfl ?_ | refine gz_aretN (pc := 37) dX4_latestKept_37 rfl ?_
    exact ⟨rfl, Or.inl ⟨rfl, fun j a1 a2 => hj j (by omega) a2⟩⟩
  · first | refine gz_aload_n (pc := 11) dX4_latestKept_11 rfl ?_ | refine gz_aload_nN (pc := 11) dX4_latestKept_11 rfl ?_
    refine gz_getr (pc := 12) dX4_latestKept_12 fl_X4_30 rfl rfl rfl (by first | exact gz_B1 | (omega)) ?_
    refine gz_iload_n (pc := 15) dX4_latestKept_15 rfl ?_
    first | refine gz_ald1 (pc := 16) dX4_latestKept_16 (by omega) ?_ | refine gz_ald2 (pc := 16) dX4_latestKept_16 (by omega) ?_ | refine gz_ald4 (pc := 16) dX4_latestKept_16 (by omega) ?_ | refine gz_ald17 (pc := 16) dX4_latestKept_16 (by first | exact gz_B1 | (omega)) (by omega) ?_
    refine gz_getI (pc := 17) 3 dX4_latestKept_17 fl_X4_129 rfl rfl rfl rfl (by first | exact gz_B1 | (omega)) ?_
    refine gz_if_eq (pc := 20) (tgt := 30) dX4_latestKept_20 (by decide) (by omega) (fun h20 => ?_) (fun h20 => ?_)
    · refine gz_iinc (pc := 30) dX4_latestKept_30 rfl rfl rfl rfl ?_
      refine gz_goto (pc := 33) (tgt := 7) dX4_latestKept_33 (by decide) ?_
      refine ih (i + -1) (by omega) (by omega) (by omega) (fun j a1 a2 => ?_)
      by_cases z : j = i
      · rw [z]; exact h20
      · exact hj j (by omega) a2
    · first | refine gz_aload_n (pc := 23) dX4_latestKept_23 rfl ?_ | refine gz_aload_nN (pc := 23) dX4_latestKept_23 rfl ?_
      refine gz_getr (pc := 24) dX4_latestKept_24 fl_X4_30 rfl rfl rfl (by first | exact gz_B1 | (omega)) ?_
      refine gz_iload_n (pc := 27) dX4_latestKept_27 rfl ?_
      first | refine gz_ald1 (pc := 28) dX4_latestKept_28 (by omega) ?_ | refine gz_ald2 (pc := 28) dX4_latestKept_28 (by omega) ?_ | refine gz_ald4 (pc := 28) dX4_latestKept_28 (by omega) ?_ | refine gz_ald17 (pc := 28) dX4_latestKept_28 (by first | exact gz_B1 | (omega)) (by omega) ?_
      first | refine gz_aret (pc := 29) dX4_latestKept_29 rfl ?_ | refine gz_aretN (pc := 29) dX4_latestKept_29 rfl ?_
      exact ⟨rfl, Or.inr ⟨i, by omega, by omega, hj, rfl⟩⟩
set_option maxHeartbeats 4000000 in
set_option maxRecDepth 100000 in
theorem ct_X4_latestKept (l : Launch) (D : va_G) (α : gz_P → Nat) (cA : Nat → ClassId) {I : gz_M} (hT : gz_T I) : gz_V l D α cA RX4 cX4_latestKept (some (.object "GrownSnapshots$Mark")) 2 0 (gz_Qr fun v I' => I = I' ∧ (v = .null ∧ (∀ j, 0 ≤ j → j < I (0, 0, 0) 7 → I (16, I (4, 0, 0) (j), 0) 3 = 0) ∨ ∃ i, (0 ≤ i ∧ i < I (0, 0, 0) 7) ∧ I (16, I (4, 0, 0) (i), 0) 3 = 1 ∧ (∀ j, i < j → j < I (0, 0, 0) 7 → I (16, I (4, 0, 0) (j), 0) 3 = 0) ∧ v = .ref (α (16, I (4, 0, 0) (i), 0)))) I [some (.ref (α (0, 0, 0))), none] [] 0 := by
  first | refine gz_aload_n (pc := 0) dX4_latestKept_0 rfl ?_ | refine gz_aload_nN (pc := 0) dX4_latestKept_0 rfl ?_
  refine gz_getI (pc := 1) 7 dX4_latestKept_1 fl_X4_46 rfl rfl rfl rfl (by first | exact gz_B1 | (omega)) ?_
  refine gz_iconst (pc := 4) dX4_latestKept_4 ?_
  refine gz_isub (pc := 5) dX4_latestKept_5 ?_
  refine gz_istore_n (pc := 6) dX4_latestKept_6 rfl rfl rfl ?_
  exact lp_X4_latestKept l D α cA hT (I (0, 0, 0) 7 - 1) (by have := gz_th hT 0 0; omega) (by omega) (fun j a1 a2 => by omega)
set_option maxHeartbeats 4000000 in
set_option maxRecDepth 100000 in
theorem lp_X4_keptCount (l : Launch) (D : va_G) (α : gz_P → Nat) (cA : Nat → ClassId) {I : gz_M} (hT : gz_T I) : ∀ i, i ≤ I (0, 0, 0) 7 → ∀ n : Int, 0 ≤ i → n = gz_sm (fun j => I (16, I (4, 0, 0) (j), 0) 3) i.toNat → gz_V l D α cA RX4 cX4_keptCount (some .int) 3 0 (gz_Qi fun x I' => I = I' ∧ x = gz_sm (fun j => I (16, I (4, 0, 0) (j), 0) 3) (I (0, 0, 0) 7).toNat) I [some (.ref (α (0, 0, 0))), some (gz_i (n)), some (gz_i (i))] [] 4 := by
  refine gz_upto _ ?_
  intro i hi ih n h0 hn
  have e1 := gz_th hT 0 0
  have e2 := gz_t4 hT 0 0 i
  have e3 := gz_tm3 hT (I (4, 0, 0) (i)) 0
  have e4 := gz_sm_in (f := (fun j => I (16, I (4, 0, 0) (j), 0) 3)) (lo := 0) (hi := 1) (fun j => gz_tm3 hT (I (4, 0, 0) (j)) 0) i.toNat
  refine gz_iload_n (pc := 4) dX4_keptCount_4 rfl ?_
  first | refine gz_aload_n (pc := 5) dX4_keptCount_5 rfl ?_ | refine gz_aload_nN (pc := 5) dX4_keptCount_5 rfl ?_
  refine gz_getI (pc := 6) 7 dX4_keptCount_6 fl_X4_46 rfl rfl rfl rfl (by first | exact gz_B1 | (omega)) ?_
  refine gz_icmp_ge (pc := 9) (tgt := 33) dX4_keptCount_9 (by decide) (by omega) (by omega) (fun h9 => ?_) (fun h9 => ?_)
  · refine gz_iload_n (pc := 33) dX4_keptCount_33 rfl ?_
    refine gz_iret (pc := 34) dX4_keptCount_34 rfl ?_
    exact ⟨rfl, by rw [hn, show i = I (0, 0, 0) 7 by omega]⟩
  · first | refine gz_aload_n (pc := 12) dX4_keptCount_12 rfl ?_ | refine gz_aload_nN (pc := 12) dX4_keptCount_12 rfl ?_
    refine gz_getr (pc := 13) dX4_keptCount_13 fl_X4_30 rfl rfl rfl (by first | exact gz_B1 | (omega)) ?_
    refine gz_iload_n (pc := 16) dX4_keptCount_16 rfl ?_
    first | refine gz_ald1 (pc := 17) dX4_keptCount_17 (by omega) ?_ | refine gz_ald2 (pc := 17) dX4_keptCount_17 (by omega) ?_ | refine gz_ald4 (pc := 17) dX4_keptCount_17 (by omega) ?_ | refine gz_ald17 (pc := 17) dX4_keptCount_17 (by first | exact gz_B1 | (omega)) (by omega) ?_
    refine gz_getI (pc := 18) 3 dX4_keptCount_18 fl_X4_129 rfl rfl rfl rfl (by first | exact gz_B1 | (omega)) ?_
    refine gz_if_eq (pc := 21) (tgt := 27) dX4_keptCount_21 (by decide) (by omega) (fun h21 => ?_) (fun h21 => ?_)
    · refine gz_iinc (pc := 27) dX4_keptCount_27 rfl rfl rfl rfl ?_
      refine gz_goto (pc := 30) (tgt := 4) dX4_keptCount_30 (by decide) ?_
      refine ih (i + 1) (by omega) (by omega) _ (by omega) ?_
      rw [show (i + 1).toNat = i.toNat + 1 by omega, gz_sm_s, ← hn, Int.toNat_of_nonneg h0]
      omega
    · refine gz_iinc (pc := 24) dX4_keptCount_24 rfl rfl rfl rfl ?_
      refine gz_iinc (pc := 27) dX4_keptCount_27 rfl rfl rfl rfl ?_
      refine gz_goto (pc := 30) (tgt := 4) dX4_keptCount_30 (by decide) ?_
      refine ih (i + 1) (by omega) (by omega) _ (by omega) ?_
      rw [show (i + 1).toNat = i.toNat + 1 by omega, gz_sm_s, ← hn, Int.toNat_of_nonneg h0]
      omega
set_option maxHeartbeats 4000000 in
set_option maxRecDepth 100000 in
theorem ct_X4_keptCount (l : Launch) (D : va_G) (α : gz_P → Nat) (cA : Nat → ClassId) {I : gz_M} (hT : gz_T I) : gz_V l D α cA RX4 cX4_keptCount (some .int) 3 0 (gz_Qi fun x I' => I = I' ∧ x = gz_sm (fun j => I (16, I (4, 0, 0) (j), 0) 3) (I (0, 0, 0) 7).toNat) I [some (.ref (α (0, 0, 0))), none, none] [] 0 := by
  refine gz_iconst (pc := 0) dX4_keptCount_0 ?_
  refine gz_istore_n (pc := 1) dX4_keptCount_1 rfl rfl rfl ?_
  refine gz_iconst (pc := 2) dX4_keptCount_2 ?_
  refine gz_istore_n (pc := 3) dX4_keptCount_3 rfl rfl rfl ?_
  exact lp_X4_keptCount l D α cA hT 0 (by have := gz_th hT 0 0; omega) 0 (by omega) rfl
