set_option maxHeartbeats 4000000 in
set_option maxRecDepth 100000 in
theorem ct_X4_drop (l : Launch) (D : va_G) (α : gz_P → Nat) (cA : Nat → ClassId) {I : gz_M} (hT : gz_T I) (hE : gz_E I) {m : Int} (r_m : (-2147483648 ≤ m ∧ m ≤ 2147483647)) (hinj : (∀ i j, 0 ≤ i → i < 12 → 0 ≤ j → j < 12 → I (4, 0, 0) i = I (4, 0, 0) j → i = j)) (hsrt : (∀ i j, 0 ≤ i → i < j → j < I (0, 0, 0) 7 → I (16, I (4, 0, 0) i, 0) 2 < I (16, I (4, 0, 0) j, 0) 2)) (hbas : ∀ j, 0 ≤ j → j < I (0, 0, 0) 7 → I (16, I (4, 0, 0) (j), 0) 4 < I (16, I (4, 0, 0) (j), 0) 2) : gz_V l D α cA RX4 cX4_drop (some .int) 3 3 (gz_Qi fun x I' => x = -2 ∧ (∀ i, ((0 ≤ i ∧ i < I (0, 0, 0) 7) ∧ I (16, I (4, 0, 0) (i), 0) 2 = m ∧ ∀ j, 0 ≤ j → j < i → ¬ I (16, I (4, 0, 0) (j), 0) 2 = m) → I (16, I (4, 0, 0) (i), 0) 3 = 0) ∧ I = I' ∨ ∃ i, ((0 ≤ i ∧ i < I (0, 0, 0) 7) ∧ I (16, I (4, 0, 0) (i), 0) 2 = m ∧ ∀ j, 0 ≤ j → j < i → ¬ I (16, I (4, 0, 0) (j), 0) 2 = m) ∧ I (16, I (4, 0, 0) (i), 0) 3 = 1 ∧ ∃ K, gz_LG (gz_up I (16, I (4, 0, 0) (i), 0) 3 0) K ∧ x = gz_sm (fun p => gz_b (0 < K (13, 0, 0) p ∧ ¬ (gz_kn K (K (0, 0, 0) 7) p))) 120 ∧ gz_T I' ∧ gz_E I' ∧ gz_aX I' = gz_flt (fun p => (gz_kn K (K (0, 0, 0) 7) p)) (gz_aX K) ∧ (∀ p, 0 ≤ p → p < 120 → I' (13, 0, 0) p = gz_b (0 < K (13, 0, 0) p ∧ ¬ (gz_kn K (K (0, 0, 0) 7) p)) * 0 + (1 - gz_b (0 < K (13, 0, 0) p ∧ ¬ (gz_kn K (K (0, 0, 0) 7) p))) * K (13, 0, 0) p) ∧ (∀ a, 0 ≤ a → a < 4 → ∀ p, 0 ≤ p → p < 120 → I' (11, a, 0) p = (1 - gz_b (0 < K (13, 0, 0) p ∧ ¬ (gz_kn K (K (0, 0, 0) 7) p))) * K (11, a, 0) p) ∧ (∀ q : gz_P, q.1 ≠ 3 → q.1 ≠ 11 → q.1 ≠ 13 → q.1 ≠ 6 → I' q = K q)) I [some (.ref (α (0, 0, 0))), some (gz_i (m)), none] [] 0 := by
  first | refine gz_aload_n (pc := 0) dX4_drop_0 rfl ?_ | refine gz_aload_nN (pc := 0) dX4_drop_0 rfl ?_
  refine gz_iload_n (pc := 1) dX4_drop_1 rfl ?_
  refine gz_cV1r (pc := 2) dX4_drop_2 wm_X4_125 my_X4_keptMark rfl rfl rfl (by first | exact gz_B1 | (omega)) (ct_X4_keptMark l D α cA hT r_m) (fun x2 I2 h2 => ?_)
  obtain ⟨rfl, ⟨rfl, hn⟩ | ⟨i, hi, hkp, rfl⟩⟩ := h2
  · first | refine gz_astore_n (pc := 5) dX4_drop_5 rfl rfl rfl ?_ | refine gz_astore_nN (pc := 5) dX4_drop_5 rfl rfl rfl ?_
    first | refine gz_aload_n (pc := 6) dX4_drop_6 rfl ?_ | refine gz_aload_nN (pc := 6) dX4_drop_6 rfl ?_
    refine gz_ifnonnullN (pc := 7) dX4_drop_7 ?_
    refine gz_bipush (pc := 10) dX4_drop_10 rfl ?_
    refine gz_iret (pc := 12) dX4_drop_12 rfl ?_
    exact Or.inl ⟨rfl, hn, rfl⟩
  · have e4 := gz_t4 hT 0 0 i
    first | refine gz_astore_n (pc := 5) dX4_drop_5 rfl rfl rfl ?_ | refine gz_astore_nN (pc := 5) dX4_drop_5 rfl rfl rfl ?_
    first | refine gz_aload_n (pc := 6) dX4_drop_6 rfl ?_ | refine gz_aload_nN (pc := 6) dX4_drop_6 rfl ?_
    refine gz_ifnonnull (pc := 7) (tgt := 13) dX4_drop_7 (by decide) ?_
    first | refine gz_aload_n (pc := 13) dX4_drop_13 rfl ?_ | refine gz_aload_nN (pc := 13) dX4_drop_13 rfl ?_
    refine gz_iconst (pc := 14) dX4_drop_14 ?_
    refine gz_putI (pc := 15) 3 dX4_drop_15 fw_X4_129 rfl rfl rfl rfl (by first | exact gz_B1 | (omega)) (Or.inr ⟨rfl, by exact Or.inl rfl⟩) ?_
    have n2 : ∀ k j, j ≠ 3 → (gz_up I (16, I (4, 0, 0) (i), 0) 3 0) (16, k, 0) j = I (16, k, 0) j := fun k j hj => by rw [gz_up_k, if_neg (fun e => hj e.2)]
    have n4 : (gz_up I (16, I (4, 0, 0) (i), 0) 3 0) (4, 0, 0) = I (4, 0, 0) := gz_up_ne (gz_ne rfl)
    have n0 : (gz_up I (16, I (4, 0, 0) (i), 0) 3 0) (0, 0, 0) = I (0, 0, 0) := gz_up_ne (gz_ne rfl)
    have hinj2 : ∀ x y, 0 ≤ x → x < 12 → 0 ≤ y → y < 12 → (gz_up I (16, I (4, 0, 0) (i), 0) 3 0) (4, 0, 0) x = (gz_up I (16, I (4, 0, 0) (i), 0) 3 0) (4, 0, 0) y → x = y := by rw [n4]; exact hinj
    have hsrt2 : ∀ x y, 0 ≤ x → x < y → y < (gz_up I (16, I (4, 0, 0) (i), 0) 3 0) (0, 0, 0) 7 → (gz_up I (16, I (4, 0, 0) (i), 0) 3 0) (16, (gz_up I (16, I (4, 0, 0) (i), 0) 3 0) (4, 0, 0) x, 0) 2 < (gz_up I (16, I (4, 0, 0) (i), 0) 3 0) (16, (gz_up I (16, I (4, 0, 0) (i), 0) 3 0) (4, 0, 0) y, 0) 2 := by rw [n4, n0]; intro x y a1 a2 a3; rw [n2 _ 2 (by decide), n2 _ 2 (by decide)]; exact hsrt x y a1 a2 a3
    have hbas2 : ∀ j, 0 ≤ j → j < (gz_up I (16, I (4, 0, 0) (i), 0) 3 0) (0, 0, 0) 7 → (gz_up I (16, I (4, 0, 0) (i), 0) 3 0) (16, (gz_up I (16, I (4, 0, 0) (i), 0) 3 0) (4, 0, 0) j, 0) 4 < (gz_up I (16, I (4, 0, 0) (i), 0) 3 0) (16, (gz_up I (16, I (4, 0, 0) (i), 0) 3 0) (4, 0, 0) j, 0) 2 := by rw [n4, n0]; intro j a1 a2; rw [n2 _ 2 (by decide), n2 _ 4 (by decide)]; exact hbas j a1 a2
    first | refine gz_aload_n (pc := 18) dX4_drop_18 rfl ?_ | refine gz_aload_nN (pc := 18) dX4_drop_18 rfl ?_
    refine gz_cV0v (pc := 19) dX4_drop_19 wm_X4_133 my_X4_letGoUnheld rfl rfl rfl (by first | exact gz_B1 | (omega)) (ct_X4_letGoUnheld l D α cA (gz_Tu16_3 hT (by decide)) hinj2 hsrt2 hbas2) (fun I19 h19 => ?_)
    have hE2 : gz_E I19 := by
      have n := h19.2.2.2.1
      have ha : gz_aX I19 = gz_aX I := by
        funext c p j
        unfold gz_aX
        rw [n _ (gz_ne rfl) (gz_ne rfl), n _ (gz_ne rfl) (gz_ne rfl), n _ (gz_ne rfl) (gz_ne rfl), n _ (gz_ne rfl) (gz_ne rfl), gz_up_ne (gz_ne rfl), gz_up_ne (gz_ne rfl), gz_up_ne (gz_ne rfl), gz_up_ne (gz_ne rfl)]
      unfold gz_E
      rw [ha, n _ (gz_ne rfl) (gz_ne rfl), gz_up_ne (gz_ne rfl)]
      exact hE
    first | refine gz_aload_n (pc := 22) dX4_drop_22 rfl ?_ | refine gz_aload_nN (pc := 22) dX4_drop_22 rfl ?_
    refine gz_cV0i (pc := 23) dX4_drop_23 wm_X4_136 my_X4_freeUnnamed rfl rfl rfl (by first | exact gz_B1 | (omega)) (ct_X4_freeUnnamed l D α cA h19.1 hE2) (fun x23 I23 h23 => ?_)
    refine gz_iret (pc := 26) dX4_drop_26 rfl ?_
    exact Or.inr ⟨i, hi, hkp, I19, h19, h23⟩
/-- READING: has, copies' bytes, the state's bytes -/
noncomputable def gz_r1 (z g B : Int → Int) (p : Int) (h b : Int → Int) : (Int → Int) × (Int → Int) :=
  @ite _ (h p = 1 ∧ gz_dg (fun i => b (32 * p + i)) (z p).toNat = g p) (Classical.propDecidable _) (h, b) (fun q => if q = p then 1 else h q, fun i => if 32 * p ≤ i ∧ i < 32 * p + z p then B i else b i)
noncomputable def gz_rs (L z g B h b s : Int → Int) : Nat → (Int → Int) × (Int → Int) × (Int → Int)
  | 0 => (h, b, s)
  | j + 1 => ((gz_r1 z g B (L j) (gz_rs L z g B h b s j).1 (gz_rs L z g B h b s j).2.1).1, (gz_r1 z g B (L j) (gz_rs L z g B h b s j).1 (gz_rs L z g B h b s j).2.1).2, fun i => if gz_sm (fun m => z (L m)) j ≤ i ∧ i < gz_sm (fun m => z (L m)) j + z (L j) then (gz_r1 z g B (L j) (gz_rs L z g B h b s j).1 (gz_rs L z g B h b s j).2.1).2 (32 * L j + (i - gz_sm (fun m => z (L m)) j)) else (gz_rs L z g B h b s j).2.2 i)
set_option maxHeartbeats 4000000 in
set_option maxRecDepth 100000 in
theorem ct_X4_readPart (l : Launch) (D : va_G) (α : gz_P → Nat) (cA : Nat → ClassId) {I : gz_M} (hT : gz_T I) {p t : Int} (hp : 0 ≤ p ∧ p < 120) (ht : 0 ≤ t ∧ t < 4) : gz_V l D α cA RX4 cX4_readPart none 3 2 (gz_Qv fun I' => gz_T I' ∧ (I' (11, t, 0), I' (12, t, 0)) = gz_r1 (I (13, 0, 0)) (I (14, 0, 0)) (I (12, 4, 0)) p (I (11, t, 0)) (I (12, t, 0)) ∧ ∀ q, q ≠ (11, t, 0) → q ≠ (12, t, 0) → I' q = I q) I [some (.ref (α (0, 0, 0))), some (gz_i (p)), some (gz_i (t))] [] 0 := by
  have e13 := gz_t13 hT 0 0 p
  first | refine gz_aload_n (pc := 0) dX4_readPart_0 rfl ?_ | refine gz_aload_nN (pc := 0) dX4_readPart_0 rfl ?_
  refine gz_getr (pc := 1) dX4_readPart_1 fl_X4_24 rfl rfl rfl (by first | exact gz_B1 | (omega)) ?_
  refine gz_iload_n (pc := 4) dX4_readPart_4 rfl ?_
  first | refine gz_aload_n (pc := 5) dX4_readPart_5 rfl ?_ | refine gz_aload_nN (pc := 5) dX4_readPart_5 rfl ?_
  refine gz_getr (pc := 6) dX4_readPart_6 fl_X4_17 rfl rfl rfl (by first | exact gz_B1 | (omega)) ?_
  refine gz_iload_n (pc := 9) dX4_readPart_9 rfl ?_
  first | refine gz_ald1 (pc := 10) dX4_readPart_10 (by omega) ?_ | refine gz_ald2 (pc := 10) dX4_readPart_10 (by omega) ?_ | refine gz_ald4 (pc := 10) dX4_readPart_10 (by omega) ?_ | refine gz_ald17 (pc := 10) dX4_readPart_10 (by first | exact gz_B1 | (omega)) (by omega) ?_
  refine gz_cV2i (pc := 11) dX4_readPart_11 wm_X4_191 my_X3_isSound rfl rfl rfl (by first | exact gz_B1 | (omega)) (ct_X3_isSound l D α cA hT hp (by omega)) (fun x11 I11 h11 => ?_)
  obtain ⟨rfl, ⟨rfl, hsn⟩ | ⟨rfl, hsn⟩⟩ := h11
  · refine gz_if_ne (pc := 14) (tgt := 50) dX4_readPart_14 (by decide) (by omega) (fun h14 => ?_) (fun h14 => ?_)
    · refine gz_vret (pc := 50) dX4_readPart_50 rfl ?_
      first
        | exact absurd rfl h14
        | exact ⟨hT, by unfold gz_r1; rw [if_pos hsn], fun q _ _ => rfl⟩
        | (refine ⟨gz_Tu11 (gz_T_cp hT (fun _ => ⟨rfl, rfl⟩) (fun _ => ⟨rfl, rfl⟩)) (by decide), ?_, fun q q1 q2 => by rw [gz_up_ne q1]; funext i; unfold gz_cp; rw [if_neg (fun e => q2 e.1)]⟩
           unfold gz_r1
           rw [if_neg hsn]
           refine Prod.ext (funext fun q => ?_) (funext fun i => ?_)
           · dsimp only
             rw [gz_up_eq, gz_cp_r (by decide)]
           · dsimp only
             rw [gz_up_r (by decide), gz_cp_k]
             simp only [and_self, true_and]
             rw [show 32 * p + (i - 32 * p) = i by omega])
    · exact absurd h14 (by decide)
  · refine gz_if_ne (pc := 14) (tgt := 50) dX4_readPart_14 (by decide) (by omega) (fun h14 => ?_) (fun h14 => ?_)
    · refine gz_vret (pc := 50) dX4_readPart_50 rfl ?_
      first
        | exact absurd rfl h14
        | exact ⟨hT, by unfold gz_r1; rw [if_pos hsn], fun q _ _ => rfl⟩
        | (refine ⟨gz_Tu11 (gz_T_cp hT (fun _ => ⟨rfl, rfl⟩) (fun _ => ⟨rfl, rfl⟩)) (by decide), ?_, fun q q1 q2 => by rw [gz_up_ne q1]; funext i; unfold gz_cp; rw [if_neg (fun e => q2 e.1)]⟩
           unfold gz_r1
           rw [if_neg hsn]
           refine Prod.ext (funext fun q => ?_) (funext fun i => ?_)
           · dsimp only
             rw [gz_up_eq, gz_cp_r (by decide)]
           · dsimp only
             rw [gz_up_r (by decide), gz_cp_k]
             simp only [and_self, true_and]
             rw [show 32 * p + (i - 32 * p) = i by omega])
    · first | refine gz_aload_n (pc := 17) dX4_readPart_17 rfl ?_ | refine gz_aload_nN (pc := 17) dX4_readPart_17 rfl ?_
      refine gz_getr (pc := 18) dX4_readPart_18 fl_X4_17 rfl rfl rfl (by first | exact gz_B1 | (omega)) ?_
      refine gz_iload_n (pc := 21) dX4_readPart_21 rfl ?_
      first | refine gz_ald1 (pc := 22) dX4_readPart_22 (by omega) ?_ | refine gz_ald2 (pc := 22) dX4_readPart_22 (by omega) ?_ | refine gz_ald4 (pc := 22) dX4_readPart_22 (by omega) ?_ | refine gz_ald17 (pc := 22) dX4_readPart_22 (by first | exact gz_B1 | (omega)) (by omega) ?_
      refine gz_iload_n (pc := 23) dX4_readPart_23 rfl ?_
      first | refine gz_aload_n (pc := 24) dX4_readPart_24 rfl ?_ | refine gz_aload_nN (pc := 24) dX4_readPart_24 rfl ?_
      refine gz_getr (pc := 25) dX4_readPart_25 fl_X4_24 rfl rfl rfl (by first | exact gz_B1 | (omega)) ?_
      refine gz_getr (pc := 28) dX4_readPart_28 fl_X4_187 rfl rfl rfl (by first | exact gz_B1 | (omega)) ?_
      refine gz_getr (pc := 31) dX4_readPart_31 fl_X4_206 rfl rfl rfl (by first | exact gz_B1 | (omega)) ?_
      refine gz_iload_n (pc := 34) dX4_readPart_34 rfl ?_
      refine gz_bipush (pc := 35) dX4_readPart_35 rfl ?_
      refine gz_imulc (pc := 37) dX4_readPart_37 ?_
      first | refine gz_aload_n (pc := 38) dX4_readPart_38 rfl ?_ | refine gz_aload_nN (pc := 38) dX4_readPart_38 rfl ?_
      refine gz_getr (pc := 39) dX4_readPart_39 fl_X4_24 rfl rfl rfl (by first | exact gz_B1 | (omega)) ?_
      refine gz_getr (pc := 42) dX4_readPart_42 fl_X4_180 rfl rfl rfl (by first | exact gz_B1 | (omega)) ?_
      refine gz_iload_n (pc := 45) dX4_readPart_45 rfl ?_
      refine gz_iald (pc := 46) dX4_readPart_46 rfl rfl (by first | exact gz_B1 | (omega)) (by omega) ?_
      refine gz_cV4v (pc := 47) dX4_readPart_47 wm_X4_251 my_X1_put rfl rfl rfl (by first | exact gz_B1 | (omega)) (ct_X1_put l D α cA (a := t) (r := 12) (b := 4) (c := 0) (by omega) rfl rfl (by omega) hp (by omega)) (fun I47 h47 => ?_)
      subst h47
      refine gz_vret (pc := 50) dX4_readPart_50 rfl ?_
      first
        | exact absurd rfl h14
        | exact ⟨hT, by unfold gz_r1; rw [if_pos hsn], fun q _ _ => rfl⟩
        | (refine ⟨gz_Tu11 (gz_T_cp hT (fun _ => ⟨rfl, rfl⟩) (fun _ => ⟨rfl, rfl⟩)) (by decide), ?_, fun q q1 q2 => by rw [gz_up_ne q1]; funext i; unfold gz_cp; rw [if_neg (fun e => q2 e.1)]⟩
           unfold gz_r1
           rw [if_neg hsn]
           refine Prod.ext (funext fun q => ?_) (funext fun i => ?_)
           · dsimp only
             rw [gz_up_eq, gz_cp_r (by decide)]
           · dsimp only
             rw [gz_up_r (by decide), gz_cp_k]
             simp only [and_self, true_and]
             rw [show 32 * p + (i - 32 * p) = i by omega])
set_option maxHeartbeats 4000000 in
set_option maxRecDepth 100000 in
theorem lp_X4_readState (l : Launch) (D : va_G) (α : gz_P → Nat) (cA : Nat → ClassId) {I0 : gz_M} (hT : gz_T I0) {k t : Int} (hk : 0 ≤ k ∧ k < 12) (ht : 0 ≤ t ∧ t < 4) (hsum : gz_sm (fun m => I0 (13, 0, 0) (I0 (18, k, t) m)) (I0 (19, k, 0) t).toNat ≤ 300) : ∀ j, j ≤ I0 (19, k, 0) t → ∀ I : gz_M, 0 ≤ j → gz_T I → (I (11, t, 0), I (12, t, 0), I (8, t, 0)) = gz_rs (I0 (18, k, t)) (I0 (13, 0, 0)) (I0 (14, 0, 0)) (I0 (12, 4, 0)) (I0 (11, t, 0)) (I0 (12, t, 0)) (I0 (8, t, 0)) j.toNat → I (7, t, 0) 2 = gz_sm (fun m => I0 (13, 0, 0) (I0 (18, k, t) m)) j.toNat → (∀ q, q ≠ (11, t, 0) → q ≠ (12, t, 0) → q ≠ (8, t, 0) → q ≠ (7, t, 0) → I q = I0 q) → ∀ o : Option Value, gz_V l D α cA RX4 cX4_readState none 6 3 (gz_Qv fun I' => gz_T I' ∧ (I' (11, t, 0), I' (12, t, 0), I' (8, t, 0)) = gz_rs (I0 (18, k, t)) (I0 (13, 0, 0)) (I0 (14, 0, 0)) (I0 (12, 4, 0)) (I0 (11, t, 0)) (I0 (12, t, 0)) (I0 (8, t, 0)) (I0 (19, k, 0) t).toNat ∧ I' (7, t, 0) 2 = gz_sm (fun m => I0 (13, 0, 0) (I0 (18, k, t) m)) (I0 (19, k, 0) t).toNat ∧ (∀ q, q ≠ (11, t, 0) → q ≠ (12, t, 0) → q ≠ (8, t, 0) → q ≠ (7, t, 0) → I' q = I0 q)) I [some (.ref (α (0, 0, 0))), some (.ref (α (16, k, 0))), some (gz_i (t)), some (.ref (α (7, t, 0))), some (gz_i (j)), o] [] 15 := by
  have e1 := gz_t19 hT k 0 t
  refine gz_upto _ ?_
  intro j hj ih I h0 hTI hR h7 hI o
  have e5 := gz_t18 hT k t j
  have e6 := gz_t13 hT 0 0 (I0 (18, k, t) j)
  have r19 : I (19, k, 0) t = I0 (19, k, 0) t := by rw [hI _ (gz_ne rfl) (gz_ne rfl) (gz_ne rfl) (gz_ne rfl)]
  have r18 : I (18, k, t) j = I0 (18, k, t) j := by rw [hI _ (gz_ne rfl) (gz_ne rfl) (gz_ne rfl) (gz_ne rfl)]
  have e8 : gz_sm (fun m => I0 (13, 0, 0) (I0 (18, k, t) m)) j.toNat ≥ 0 := by have := gz_sm_mono (f := fun m => I0 (13, 0, 0) (I0 (18, k, t) m)) (fun i => (gz_t13 hT 0 0 _).1) (a := 0) (b := j.toNat) (by omega); exact this
  have e9 : j < I0 (19, k, 0) t → gz_sm (fun m => I0 (13, 0, 0) (I0 (18, k, t) m)) j.toNat + I0 (13, 0, 0) (I0 (18, k, t) j) ≤ 300 := fun hlt => by
    have := gz_sm_mono (f := fun m => I0 (13, 0, 0) (I0 (18, k, t) m)) (fun i => (gz_t13 hT 0 0 _).1) (a := j.toNat + 1) (b := (I0 (19, k, 0) t).toNat) (by omega)
    rw [gz_sm_s, Int.toNat_of_nonneg h0] at this
    omega
  have e10 : gz_sm (fun m => I0 (13, 0, 0) (I0 (18, k, t) m)) j.toNat ≤ 300 := by
    have := gz_sm_mono (f := fun m => I0 (13, 0, 0) (I0 (18, k, t) m)) (fun i => (gz_t13 hT 0 0 _).1) (a := j.toNat) (b := (I0 (19, k, 0) t).toNat) (by omega)
    omega
  refine gz_iload (pc := 15) dX4_readState_15 rfl ?_
  first | refine gz_aload_n (pc := 17) dX4_readState_17 rfl ?_ | refine gz_aload_nN (pc := 17) dX4_readState_17 rfl ?_
  refine gz_getr (pc := 18) dX4_readState_18 fl_X4_167 rfl rfl rfl (by first | exact gz_B1 | (omega)) ?_
  refine gz_iload_n (pc := 21) dX4_readState_21 rfl ?_
  refine gz_iald (pc := 22) dX4_readState_22 rfl rfl (by first | exact gz_B1 | (omega)) (by omega) ?_
  rw [r19]
  refine gz_icmp_ge (pc := 23) (tgt := 78) dX4_readState_23 (by decide) (by omega) (by omega) (fun h23 => ?_) (fun h23 => ?_)
  · refine gz_vret (pc := 78) dX4_readState_78 rfl ?_
    have hjn : j = I0 (19, k, 0) t := by omega
    rw [hjn] at hR h7
    exact ⟨hTI, hR, h7, hI⟩
  · first | refine gz_aload_n (pc := 26) dX4_readState_26 rfl ?_ | refine gz_aload_nN (pc := 26) dX4_readState_26 rfl ?_
    refine gz_getr (pc := 27) dX4_readState_27 fl_X4_170 rfl rfl rfl (by first | exact gz_B1 | (omega)) ?_
    refine gz_iload_n (pc := 30) dX4_readState_30 rfl ?_
    first | refine gz_ald1 (pc := 31) dX4_readState_31 (by omega) ?_ | refine gz_ald2 (pc := 31) dX4_readState_31 (by omega) ?_ | refine gz_ald4 (pc := 31) dX4_readState_31 (by omega) ?_ | refine gz_ald17 (pc := 31) dX4_readState_31 (by first | exact gz_B1 | (omega)) (by omega) ?_
    refine gz_iload (pc := 32) dX4_readState_32 rfl ?_
    refine gz_iald (pc := 34) dX4_readState_34 rfl rfl (by first | exact gz_B1 | (omega)) (by omega) ?_
    rw [r18]
    refine gz_istore (pc := 35) dX4_readState_35 rfl rfl rfl ?_
    first | refine gz_aload_n (pc := 37) dX4_readState_37 rfl ?_ | refine gz_aload_nN (pc := 37) dX4_readState_37 rfl ?_
    refine gz_iload (pc := 38) dX4_readState_38 rfl ?_
    refine gz_iload_n (pc := 40) dX4_readState_40 rfl ?_
    refine gz_cV2v (pc := 41) dX4_readState_41 wm_X4_281 my_X4_readPart rfl rfl rfl (by first | exact gz_B1 | (omega)) (ct_X4_readPart l D α cA hTI (by omega) ht) (fun I41 h41 => ?_)
    obtain ⟨c1, c2, c3⟩ := h41
    have s13 : I41 (13, 0, 0) (I0 (18, k, t) j) = I0 (13, 0, 0) (I0 (18, k, t) j) := by rw [c3 _ (gz_ne rfl) (gz_ne rfl), hI _ (gz_ne rfl) (gz_ne rfl) (gz_ne rfl) (gz_ne rfl)]
    have s7 : I41 (7, t, 0) 2 = gz_sm (fun m => I0 (13, 0, 0) (I0 (18, k, t) m)) j.toNat := by rw [c3 _ (gz_ne rfl) (gz_ne rfl)]; exact h7
    first | refine gz_aload_n (pc := 44) dX4_readState_44 rfl ?_ | refine gz_aload_nN (pc := 44) dX4_readState_44 rfl ?_
    first | refine gz_aload_n (pc := 45) dX4_readState_45 rfl ?_ | refine gz_aload_nN (pc := 45) dX4_readState_45 rfl ?_
    refine gz_getr (pc := 46) dX4_readState_46 fl_X4_17 rfl rfl rfl (by first | exact gz_B1 | (omega)) ?_
    refine gz_iload_n (pc := 49) dX4_readState_49 rfl ?_
    first | refine gz_ald1 (pc := 50) dX4_readState_50 (by omega) ?_ | refine gz_ald2 (pc := 50) dX4_readState_50 (by omega) ?_ | refine gz_ald4 (pc := 50) dX4_readState_50 (by omega) ?_ | refine gz_ald17 (pc := 50) dX4_readState_50 (by first | exact gz_B1 | (omega)) (by omega) ?_
    refine gz_getr (pc := 51) dX4_readState_51 fl_X4_206 rfl rfl rfl (by first | exact gz_B1 | (omega)) ?_
    refine gz_iload (pc := 54) dX4_readState_54 rfl ?_
    refine gz_bipush (pc := 56) dX4_readState_56 rfl ?_
    refine gz_imulc (pc := 58) dX4_readState_58 ?_
    first | refine gz_aload_n (pc := 59) dX4_readState_59 rfl ?_ | refine gz_aload_nN (pc := 59) dX4_readState_59 rfl ?_
    refine gz_getr (pc := 60) dX4_readState_60 fl_X4_24 rfl rfl rfl (by first | exact gz_B1 | (omega)) ?_
    refine gz_getr (pc := 63) dX4_readState_63 fl_X4_180 rfl rfl rfl (by first | exact gz_B1 | (omega)) ?_
    refine gz_iload (pc := 66) dX4_readState_66 rfl ?_
    refine gz_iald (pc := 68) dX4_readState_68 rfl rfl (by first | exact gz_B1 | (omega)) (by omega) ?_
    rw [s13]
    refine gz_cV3v (pc := 69) dX4_readState_69 wm_X4_94 my_X2_append rfl rfl rfl (by first | exact gz_B1 | (omega)) (ct_X2_append l D α cA (r := 12) (b := t) (c := 0) ht (by rw [s7]; omega) rfl rfl (by omega) (by omega) (by rw [s7]; omega)) (fun I69 h69 => ?_)
    rw [s7] at h69
    subst h69
    refine gz_iinc (pc := 72) dX4_readState_72 rfl rfl rfl rfl ?_
    refine gz_goto (pc := 75) (tgt := 15) dX4_readState_75 (by decide) ?_
    have hcast : ((j.toNat : Nat) : Int) = j := Int.toNat_of_nonneg h0
    have r11 : I (11, t, 0) = (gz_rs (I0 (18, k, t)) (I0 (13, 0, 0)) (I0 (14, 0, 0)) (I0 (12, 4, 0)) (I0 (11, t, 0)) (I0 (12, t, 0)) (I0 (8, t, 0)) j.toNat).1 := by rw [← hR]
    have r12 : I (12, t, 0) = (gz_rs (I0 (18, k, t)) (I0 (13, 0, 0)) (I0 (14, 0, 0)) (I0 (12, 4, 0)) (I0 (11, t, 0)) (I0 (12, t, 0)) (I0 (8, t, 0)) j.toNat).2.1 := by rw [← hR]
    have r8 : I (8, t, 0) = (gz_rs (I0 (18, k, t)) (I0 (13, 0, 0)) (I0 (14, 0, 0)) (I0 (12, 4, 0)) (I0 (11, t, 0)) (I0 (12, t, 0)) (I0 (8, t, 0)) j.toNat).2.2 := by rw [← hR]
    have q13 : I (13, 0, 0) = I0 (13, 0, 0) := hI _ (gz_ne rfl) (gz_ne rfl) (gz_ne rfl) (gz_ne rfl)
    have q14 : I (14, 0, 0) = I0 (14, 0, 0) := hI _ (gz_ne rfl) (gz_ne rfl) (gz_ne rfl) (gz_ne rfl)
    have q12 : I (12, 4, 0) = I0 (12, 4, 0) := hI _ (gz_ne rfl) (fun e => by injection e with _ e; injection e with e; omega) (gz_ne rfl) (gz_ne rfl)
    rw [q13, q14, q12, r11, r12] at c2
    refine ih (j + 1) (by omega) (by omega) _ (by omega) (gz_Tu7 (gz_T_cp c1 (fun _ => ⟨rfl, rfl⟩) (fun _ => ⟨rfl, rfl⟩)) (by omega)) ?_ ?_ (fun q q1 q2 q3 q4 => ?_) _
    · rw [show (j + 1).toNat = j.toNat + 1 by omega]
      have d11 : I41 (11, t, 0) = (gz_r1 (I0 (13, 0, 0)) (I0 (14, 0, 0)) (I0 (12, 4, 0)) (I0 (18, k, t) j) (gz_rs (I0 (18, k, t)) (I0 (13, 0, 0)) (I0 (14, 0, 0)) (I0 (12, 4, 0)) (I0 (11, t, 0)) (I0 (12, t, 0)) (I0 (8, t, 0)) j.toNat).1 (gz_rs (I0 (18, k, t)) (I0 (13, 0, 0)) (I0 (14, 0, 0)) (I0 (12, 4, 0)) (I0 (11, t, 0)) (I0 (12, t, 0)) (I0 (8, t, 0)) j.toNat).2.1).1 := by rw [← c2]
      have d12 : I41 (12, t, 0) = (gz_r1 (I0 (13, 0, 0)) (I0 (14, 0, 0)) (I0 (12, 4, 0)) (I0 (18, k, t) j) (gz_rs (I0 (18, k, t)) (I0 (13, 0, 0)) (I0 (14, 0, 0)) (I0 (12, 4, 0)) (I0 (11, t, 0)) (I0 (12, t, 0)) (I0 (8, t, 0)) j.toNat).1 (gz_rs (I0 (18, k, t)) (I0 (13, 0, 0)) (I0 (14, 0, 0)) (I0 (12, 4, 0)) (I0 (11, t, 0)) (I0 (12, t, 0)) (I0 (8, t, 0)) j.toNat).2.1).2 := by rw [← c2]
      refine Prod.ext ?_ (Prod.ext ?_ ?_)
      · dsimp only
        rw [gz_up_ne (gz_ne rfl)]
        have hc : gz_cp I41 (12, t, 0) (8, t, 0) (32 * (I0 (18, k, t) j)) (gz_sm (fun m => I0 (13, 0, 0) (I0 (18, k, t) m)) j.toNat) (I0 (13, 0, 0) (I0 (18, k, t) j)) (11, t, 0) = I41 (11, t, 0) := by funext i; rw [gz_cp_r (by decide)]
        rw [hc, d11]
        show _ = (gz_r1 _ _ _ (I0 (18, k, t) ((j.toNat : Nat) : Int)) _ _).1
        rw [hcast]
      · dsimp only
        rw [gz_up_ne (gz_ne rfl)]
        have hc : gz_cp I41 (12, t, 0) (8, t, 0) (32 * (I0 (18, k, t) j)) (gz_sm (fun m => I0 (13, 0, 0) (I0 (18, k, t) m)) j.toNat) (I0 (13, 0, 0) (I0 (18, k, t) j)) (12, t, 0) = I41 (12, t, 0) := by funext i; rw [gz_cp_r (by decide)]
        rw [hc, d12]
        show _ = (gz_r1 _ _ _ (I0 (18, k, t) ((j.toNat : Nat) : Int)) _ _).2
        rw [hcast]
      · funext i
        dsimp only
        rw [gz_up_r (by decide), gz_cp_k, d12, c3 (8, t, 0) (gz_ne rfl) (gz_ne rfl), r8]
        show _ = if gz_sm (fun m => I0 (13, 0, 0) (I0 (18, k, t) m)) j.toNat ≤ i ∧ i < gz_sm (fun m => I0 (13, 0, 0) (I0 (18, k, t) m)) j.toNat + I0 (13, 0, 0) (I0 (18, k, t) ((j.toNat : Nat) : Int)) then (gz_r1 _ _ _ (I0 (18, k, t) ((j.toNat : Nat) : Int)) _ _).2 (32 * I0 (18, k, t) ((j.toNat : Nat) : Int) + (i - _)) else _
        rw [hcast]
        simp only [and_self, true_and]
    · rw [gz_up_s, show (j + 1).toNat = j.toNat + 1 by omega, gz_sm_s, hcast]
    · rw [gz_up_ne q4, ← hI q q1 q2 q3 q4, ← c3 q q1 q2]
      funext i
      unfold gz_cp
      rw [if_neg (fun e => q3 e.1)]
set_option maxHeartbeats 4000000 in
set_option maxRecDepth 100000 in
theorem ct_X4_readState (l : Launch) (D : va_G) (α : gz_P → Nat) (cA : Nat → ClassId) {I0 : gz_M} (hT : gz_T I0) {k t : Int} (hk : 0 ≤ k ∧ k < 12) (ht : 0 ≤ t ∧ t < 4) (hsum : gz_sm (fun m => I0 (13, 0, 0) (I0 (18, k, t) m)) (I0 (19, k, 0) t).toNat ≤ 300) : gz_V l D α cA RX4 cX4_readState none 6 3 (gz_Qv fun I' => gz_T I' ∧ (I' (11, t, 0), I' (12, t, 0), I' (8, t, 0)) = gz_rs (I0 (18, k, t)) (I0 (13, 0, 0)) (I0 (14, 0, 0)) (I0 (12, 4, 0)) (I0 (11, t, 0)) (I0 (12, t, 0)) (I0 (8, t, 0)) (I0 (19, k, 0) t).toNat ∧ I' (7, t, 0) 2 = gz_sm (fun m => I0 (13, 0, 0) (I0 (18, k, t) m)) (I0 (19, k, 0) t).toNat ∧ (∀ q, q ≠ (11, t, 0) → q ≠ (12, t, 0) → q ≠ (8, t, 0) → q ≠ (7, t, 0) → I' q = I0 q)) I0 [some (.ref (α (0, 0, 0))), some (.ref (α (16, k, 0))), some (gz_i (t)), none, none, none] [] 0 := by
  first | refine gz_aload_n (pc := 0) dX4_readState_0 rfl ?_ | refine gz_aload_nN (pc := 0) dX4_readState_0 rfl ?_
  refine gz_getr (pc := 1) dX4_readState_1 fl_X4_11 rfl rfl rfl (by first | exact gz_B1 | (omega)) ?_
  refine gz_iload_n (pc := 4) dX4_readState_4 rfl ?_
  first | refine gz_ald1 (pc := 5) dX4_readState_5 (by omega) ?_ | refine gz_ald2 (pc := 5) dX4_readState_5 (by omega) ?_ | refine gz_ald4 (pc := 5) dX4_readState_5 (by omega) ?_ | refine gz_ald17 (pc := 5) dX4_readState_5 (by first | exact gz_B1 | (omega)) (by omega) ?_
  first | refine gz_astore_n (pc := 6) dX4_readState_6 rfl rfl rfl ?_ | refine gz_astore_nN (pc := 6) dX4_readState_6 rfl rfl rfl ?_
  first | refine gz_aload_n (pc := 7) dX4_readState_7 rfl ?_ | refine gz_aload_nN (pc := 7) dX4_readState_7 rfl ?_
  refine gz_iconst (pc := 8) dX4_readState_8 ?_
  refine gz_putI (pc := 9) 2 dX4_readState_9 fw_X4_59 rfl rfl rfl rfl (by first | exact gz_B1 | (omega)) (Or.inl rfl) ?_
  refine gz_iconst (pc := 12) dX4_readState_12 ?_
  refine gz_istore (pc := 13) dX4_readState_13 rfl rfl rfl ?_
  refine lp_X4_readState l D α cA hT hk ht hsum 0 (by have := gz_t19 hT k 0 t; omega) (gz_up I0 (7, t, 0) 2 0) (by omega) (gz_Tu7 hT (by decide)) ?_ gz_up_s (fun q _ _ _ q4 => gz_up_ne q4) _
  rw [gz_up_ne (gz_ne rfl), gz_up_ne (gz_ne rfl), gz_up_ne (gz_ne rfl)]
  rfl
