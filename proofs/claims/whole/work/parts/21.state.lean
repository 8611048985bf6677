set_option maxHeartbeats 4000000 in
set_option maxRecDepth 100000 in
theorem ct_X2_endsChunk (l : Launch) (D : va_G) (α : gz_P → Nat) (cA : Nat → ClassId) {I : gz_M} {t : Int} (ht : 0 ≤ t ∧ t < 4) (hb : ∀ i, 0 ≤ i → i < 300 → 0 ≤ I (8, t, 0) i ∧ I (8, t, 0) i ≤ 255) {a b : Int} (ha : 0 ≤ a ∧ a < b ∧ b ≤ 300) : gz_V l D α cA RX2 cX2_endsChunk (some .boolean) 3 0 (gz_Qi fun x I' => I = I' ∧ (x = 1 ∧ (32 ≤ b - a ∨ (4 ≤ b - a ∧ (3 * I (8, t, 0) (b - 3) + 5 * I (8, t, 0) (b - 2) + 7 * I (8, t, 0) (b - 1)) % 11 = 0)) ∨ x = 0 ∧ ¬ (32 ≤ b - a ∨ (4 ≤ b - a ∧ (3 * I (8, t, 0) (b - 3) + 5 * I (8, t, 0) (b - 2) + 7 * I (8, t, 0) (b - 1)) % 11 = 0)))) I [some (.ref (α (7, t, 0))), some (gz_i (a)), some (gz_i (b))] [] 0 := by
  refine gz_iload_n (pc := 0) dX2_endsChunk_0 rfl ?_
  refine gz_iload_n (pc := 1) dX2_endsChunk_1 rfl ?_
  refine gz_isub (pc := 2) dX2_endsChunk_2 ?_
  refine gz_bipush (pc := 3) dX2_endsChunk_3 rfl ?_
  refine gz_icmp_lt (pc := 5) (tgt := 10) dX2_endsChunk_5 (by decide) (by omega) (by omega) (fun h5 => ?_) (fun h5 => ?_)
  · refine gz_iload_n (pc := 10) dX2_endsChunk_10 rfl ?_
    refine gz_iload_n (pc := 11) dX2_endsChunk_11 rfl ?_
    refine gz_isub (pc := 12) dX2_endsChunk_12 ?_
    refine gz_iconst (pc := 13) dX2_endsChunk_13 ?_
    refine gz_icmp_ge (pc := 14) (tgt := 19) dX2_endsChunk_14 (by decide) (by omega) (by omega) (fun h14 => ?_) (fun h14 => ?_)
    · have e3 := hb (b - 3) (by omega) (by omega)
      have e2 := hb (b - 2) (by omega) (by omega)
      have e1 := hb (b - 1) (by omega) (by omega)
      refine gz_iconst (pc := 19) dX2_endsChunk_19 ?_
      first | refine gz_aload_n (pc := 20) dX2_endsChunk_20 rfl ?_ | refine gz_aload_nN (pc := 20) dX2_endsChunk_20 rfl ?_
      refine gz_getr (pc := 21) dX2_endsChunk_21 fl_X2_9 rfl rfl rfl (by first | exact gz_B1 | (omega)) ?_
      refine gz_iload_n (pc := 24) dX2_endsChunk_24 rfl ?_
      refine gz_iconst (pc := 25) dX2_endsChunk_25 ?_
      refine gz_isub (pc := 26) dX2_endsChunk_26 ?_
      refine gz_iald (pc := 27) dX2_endsChunk_27 rfl rfl (by first | exact gz_B1 | (omega)) (by omega) ?_
      refine gz_imul (pc := 28) dX2_endsChunk_28 ?_
      refine gz_iconst (pc := 29) dX2_endsChunk_29 ?_
      first | refine gz_aload_n (pc := 30) dX2_endsChunk_30 rfl ?_ | refine gz_aload_nN (pc := 30) dX2_endsChunk_30 rfl ?_
      refine gz_getr (pc := 31) dX2_endsChunk_31 fl_X2_9 rfl rfl rfl (by first | exact gz_B1 | (omega)) ?_
      refine gz_iload_n (pc := 34) dX2_endsChunk_34 rfl ?_
      refine gz_iconst (pc := 35) dX2_endsChunk_35 ?_
      refine gz_isub (pc := 36) dX2_endsChunk_36 ?_
      refine gz_iald (pc := 37) dX2_endsChunk_37 rfl rfl (by first | exact gz_B1 | (omega)) (by omega) ?_
      refine gz_imul (pc := 38) dX2_endsChunk_38 ?_
      refine gz_iadd (pc := 39) dX2_endsChunk_39 ?_
      refine gz_bipush (pc := 40) dX2_endsChunk_40 rfl ?_
      first | refine gz_aload_n (pc := 42) dX2_endsChunk_42 rfl ?_ | refine gz_aload_nN (pc := 42) dX2_endsChunk_42 rfl ?_
      refine gz_getr (pc := 43) dX2_endsChunk_43 fl_X2_9 rfl rfl rfl (by first | exact gz_B1 | (omega)) ?_
      refine gz_iload_n (pc := 46) dX2_endsChunk_46 rfl ?_
      refine gz_iconst (pc := 47) dX2_endsChunk_47 ?_
      refine gz_isub (pc := 48) dX2_endsChunk_48 ?_
      refine gz_iald (pc := 49) dX2_endsChunk_49 rfl rfl (by first | exact gz_B1 | (omega)) (by omega) ?_
      refine gz_imul (pc := 50) dX2_endsChunk_50 ?_
      refine gz_iadd (pc := 51) dX2_endsChunk_51 ?_
      refine gz_bipush (pc := 52) dX2_endsChunk_52 rfl ?_
      refine gz_irem (pc := 54) dX2_endsChunk_54 (by omega) (by omega) ?_
      refine gz_if_ne (pc := 55) (tgt := 62) dX2_endsChunk_55 (by decide) (by omega) (fun h55 => ?_) (fun h55 => ?_)
      · refine gz_iconst (pc := 62) dX2_endsChunk_62 ?_
        refine gz_zret (pc := 63) dX2_endsChunk_63 rfl (by first | exact Or.inl rfl | exact Or.inr rfl | omega) ?_
        exact ⟨rfl, by omega⟩
      · refine gz_iconst (pc := 58) dX2_endsChunk_58 ?_
        refine gz_goto (pc := 59) (tgt := 63) dX2_endsChunk_59 (by decide) ?_
        refine gz_zret (pc := 63) dX2_endsChunk_63 rfl (by first | exact Or.inl rfl | exact Or.inr rfl | omega) ?_
        exact ⟨rfl, by omega⟩
    · refine gz_iconst (pc := 17) dX2_endsChunk_17 ?_
      refine gz_zret (pc := 18) dX2_endsChunk_18 rfl (by first | exact Or.inl rfl | exact Or.inr rfl | omega) ?_
      exact ⟨rfl, by omega⟩
  · refine gz_iconst (pc := 8) dX2_endsChunk_8 ?_
    refine gz_zret (pc := 9) dX2_endsChunk_9 rfl (by first | exact Or.inl rfl | exact Or.inr rfl | omega) ?_
    exact ⟨rfl, by omega⟩
set_option maxHeartbeats 4000000 in
set_option maxRecDepth 100000 in
theorem lp_X2_cut (l : Launch) (D : va_G) (α : gz_P → Nat) (cA : Nat → ClassId) {I0 : gz_M} {t : Int} (ht : 0 ≤ t ∧ t < 4) (hs : 0 ≤ I0 (7, t, 0) 2 ∧ I0 (7, t, 0) 2 ≤ 300) (hb : ∀ i, 0 ≤ i → i < 300 → 0 ≤ I0 (8, t, 0) i ∧ I0 (8, t, 0) i ≤ 255) : ∀ e, e ≤ (I0 (7, t, 0) 2) + 1 → ∀ (c : Nat) (a : Int) (I : gz_M), 1 ≤ e → gz_cs (I0 (8, t, 0)) (I0 (7, t, 0) 2) c = a → a < e → 0 ≤ a → (∀ k, 1 ≤ k → k < e - a → ¬ gz_stop (I0 (8, t, 0)) (I0 (7, t, 0) 2) a k) → (∀ j : Nat, j < c → I (9, t, 0) j = gz_cs (I0 (8, t, 0)) (I0 (7, t, 0) 2) (j + 1)) → (∀ q, q ≠ (9, t, 0) → I q = I0 q) → gz_T I → gz_V l D α cA RX2 cX2_cut (some .int) 4 1 (gz_Qi fun x I' => gz_T I' ∧ (∀ q, q ≠ (9, t, 0) → I' q = I0 q) ∧ ∃ c : Nat, x = c ∧ gz_cn (I0 (8, t, 0)) (I0 (7, t, 0) 2) c ∧ ∀ j : Nat, j < c → I' (9, t, 0) j = gz_cs (I0 (8, t, 0)) (I0 (7, t, 0) 2) (j + 1)) I [some (.ref (α (7, t, 0))), some (gz_i (c)), some (gz_i (a)), some (gz_i (e))] [] 6 := by
  refine gz_upto _ ?_
  intro e he ih c a I h1 hc hae ha hk hj9 hI hTI
  have e7 : I (7, t, 0) 2 = I0 (7, t, 0) 2 := by rw [hI _ (gz_ne rfl)]
  have e8 : I (8, t, 0) = I0 (8, t, 0) := hI _ (gz_ne rfl)
  have hc75 : a < I0 (7, t, 0) 2 → (c : Int) < 75 := fun h => by have := gz_cs_4 (f := I0 (8, t, 0)) (s := I0 (7, t, 0) 2) (n := c) (by omega); omega
  refine gz_iload_n (pc := 6) dX2_cut_6 rfl ?_
  first | refine gz_aload_n (pc := 7) dX2_cut_7 rfl ?_ | refine gz_aload_nN (pc := 7) dX2_cut_7 rfl ?_
  refine gz_getI (pc := 8) 2 dX2_cut_8 fl_X2_18 rfl rfl rfl rfl (by first | exact gz_B1 | (omega)) ?_
  refine gz_icmp_gt (pc := 11) (tgt := 49) dX2_cut_11 (by decide) (by omega) (by omega) (fun h11 => ?_) (fun h11 => ?_)
  · refine gz_iload_n (pc := 49) dX2_cut_49 rfl ?_
    refine gz_iret (pc := 50) dX2_cut_50 rfl ?_
    refine ⟨hTI, hI, c, rfl, ?_, hj9⟩
    unfold gz_cn
    rw [hc]
    apply Classical.byContradiction
    intro hne
    exact hk (I0 (7, t, 0) 2 - a) (by omega) (by omega) (Or.inr (Or.inr (by omega)))
  · refine gz_iload_n (pc := 14) dX2_cut_14 rfl ?_
    first | refine gz_aload_n (pc := 15) dX2_cut_15 rfl ?_ | refine gz_aload_nN (pc := 15) dX2_cut_15 rfl ?_
    refine gz_getI (pc := 16) 2 dX2_cut_16 fl_X2_18 rfl rfl rfl rfl (by first | exact gz_B1 | (omega)) ?_
    refine gz_icmp_eq (pc := 19) (tgt := 31) dX2_cut_19 (by decide) (by omega) (by omega) (fun h19 => ?_) (fun h19 => ?_)
    · first | refine gz_aload_n (pc := 31) dX2_cut_31 rfl ?_ | refine gz_aload_nN (pc := 31) dX2_cut_31 rfl ?_
      refine gz_getr (pc := 32) dX2_cut_32 fl_X2_15 rfl rfl rfl (by first | exact gz_B1 | (omega)) ?_
      refine gz_iload_n (pc := 35) dX2_cut_35 rfl ?_
      refine gz_iload_n (pc := 36) dX2_cut_36 rfl ?_
      refine gz_iast (pc := 37) dX2_cut_37 rfl rfl (by first | exact gz_B1 | (omega)) (by omega) ?_
      refine gz_iinc (pc := 38) dX2_cut_38 rfl rfl rfl rfl ?_
      refine gz_iload_n (pc := 41) dX2_cut_41 rfl ?_
      refine gz_istore_n (pc := 42) dX2_cut_42 rfl rfl rfl ?_
      refine gz_iinc (pc := 43) dX2_cut_43 rfl rfl rfl rfl ?_
      refine gz_goto (pc := 46) (tgt := 6) dX2_cut_46 (by decide) ?_
      have hst : gz_stop (I0 (8, t, 0)) (I0 (7, t, 0) 2) a (e - a) := by
        unfold gz_stop
        rw [show a + (e - a) = e by omega]
        omega
      have hck : gz_ck (I0 (8, t, 0)) (I0 (7, t, 0) 2) a = e - a := gz_ck_eq (by omega) hst hk
      have hcs : gz_cs (I0 (8, t, 0)) (I0 (7, t, 0) 2) (c + 1) = e := by
        show gz_cs _ _ c + gz_ck _ _ (gz_cs _ _ c) = e
        rw [hc, hck]
        omega
      exact ih (e + 1) (by omega) (by omega) (c + 1) e (gz_up I (9, t, 0) c e) (by omega) hcs (by omega) (by omega) (fun k h1 h2 => by omega) (fun j hj => by
        rw [gz_up_eq]
        by_cases hjc : j = c
        · subst hjc
          rw [if_pos rfl, hcs]
        · rw [if_neg (by omega)]
          exact hj9 j (by omega)) (fun q hq => by rw [gz_up_ne hq]; exact hI q hq) (gz_Tu9 hTI (by omega))
    · first | refine gz_aload_n (pc := 22) dX2_cut_22 rfl ?_ | refine gz_aload_nN (pc := 22) dX2_cut_22 rfl ?_
      refine gz_iload_n (pc := 23) dX2_cut_23 rfl ?_
      refine gz_iload_n (pc := 24) dX2_cut_24 rfl ?_
      refine gz_cV2i (pc := 25) dX2_cut_25 wm_X2_28 my_X2_endsChunk rfl rfl rfl (by first | exact gz_B1 | (omega)) (ct_X2_endsChunk l D α cA ht (by rw [e8]; exact hb) (by omega)) (fun x25 I25 h25 => ?_)
      obtain ⟨rfl, hx25⟩ := h25
      rw [e8] at hx25
      refine gz_if_eq (pc := 28) (tgt := 43) dX2_cut_28 (by decide) (by omega) (fun h28 => ?_) (fun h28 => ?_)
      · refine gz_iinc (pc := 43) dX2_cut_43 rfl rfl rfl rfl ?_
        refine gz_goto (pc := 46) (tgt := 6) dX2_cut_46 (by decide) ?_
        exact ih (e + 1) (by omega) (by omega) c a I (by omega) hc (by omega) ha (fun k h1 h2 => by
          by_cases hke : k = e - a
          · subst hke
            unfold gz_stop
            rw [show a + (e - a) = e by omega]
            omega
          · exact hk k h1 (by omega)) hj9 hI hTI
      · first | refine gz_aload_n (pc := 31) dX2_cut_31 rfl ?_ | refine gz_aload_nN (pc := 31) dX2_cut_31 rfl ?_
        refine gz_getr (pc := 32) dX2_cut_32 fl_X2_15 rfl rfl rfl (by first | exact gz_B1 | (omega)) ?_
        refine gz_iload_n (pc := 35) dX2_cut_35 rfl ?_
        refine gz_iload_n (pc := 36) dX2_cut_36 rfl ?_
        refine gz_iast (pc := 37) dX2_cut_37 rfl rfl (by first | exact gz_B1 | (omega)) (by omega) ?_
        refine gz_iinc (pc := 38) dX2_cut_38 rfl rfl rfl rfl ?_
        refine gz_iload_n (pc := 41) dX2_cut_41 rfl ?_
        refine gz_istore_n (pc := 42) dX2_cut_42 rfl rfl rfl ?_
        refine gz_iinc (pc := 43) dX2_cut_43 rfl rfl rfl rfl ?_
        refine gz_goto (pc := 46) (tgt := 6) dX2_cut_46 (by decide) ?_
        have hst : gz_stop (I0 (8, t, 0)) (I0 (7, t, 0) 2) a (e - a) := by
          unfold gz_stop
          rw [show a + (e - a) = e by omega]
          omega
        have hck : gz_ck (I0 (8, t, 0)) (I0 (7, t, 0) 2) a = e - a := gz_ck_eq (by omega) hst hk
        have hcs : gz_cs (I0 (8, t, 0)) (I0 (7, t, 0) 2) (c + 1) = e := by
          show gz_cs _ _ c + gz_ck _ _ (gz_cs _ _ c) = e
          rw [hc, hck]
          omega
        exact ih (e + 1) (by omega) (by omega) (c + 1) e (gz_up I (9, t, 0) c e) (by omega) hcs (by omega) (by omega) (fun k h1 h2 => by omega) (fun j hj => by
          rw [gz_up_eq]
          by_cases hjc : j = c
          · subst hjc
            rw [if_pos rfl, hcs]
          · rw [if_neg (by omega)]
            exact hj9 j (by omega)) (fun q hq => by rw [gz_up_ne hq]; exact hI q hq) (gz_Tu9 hTI (by omega))
set_option maxHeartbeats 4000000 in
set_option maxRecDepth 100000 in
theorem ct_X2_cut (l : Launch) (D : va_G) (α : gz_P → Nat) (cA : Nat → ClassId) {I : gz_M} {t : Int} (ht : 0 ≤ t ∧ t < 4) (hs : 0 ≤ I (7, t, 0) 2 ∧ I (7, t, 0) 2 ≤ 300) (hb : ∀ i, 0 ≤ i → i < 300 → 0 ≤ I (8, t, 0) i ∧ I (8, t, 0) i ≤ 255) (hT : gz_T I) : gz_V l D α cA RX2 cX2_cut (some .int) 4 1 (gz_Qi fun x I' => gz_T I' ∧ (∀ q, q ≠ (9, t, 0) → I' q = I q) ∧ ∃ c : Nat, x = c ∧ gz_cn (I (8, t, 0)) (I (7, t, 0) 2) c ∧ ∀ j : Nat, j < c → I' (9, t, 0) j = gz_cs (I (8, t, 0)) (I (7, t, 0) 2) (j + 1)) I [some (.ref (α (7, t, 0))), none, none, none] [] 0 := by
  refine gz_iconst (pc := 0) dX2_cut_0 ?_
  refine gz_istore_n (pc := 1) dX2_cut_1 rfl rfl rfl ?_
  refine gz_iconst (pc := 2) dX2_cut_2 ?_
  refine gz_istore_n (pc := 3) dX2_cut_3 rfl rfl rfl ?_
  refine gz_iconst (pc := 4) dX2_cut_4 ?_
  refine gz_istore_n (pc := 5) dX2_cut_5 rfl rfl rfl ?_
  exact lp_X2_cut l D α cA ht hs hb 1 (by omega) 0 0 I (by omega) rfl (by omega) (by omega) (fun k h1 h2 => by omega) (fun j hj => absurd hj (Nat.not_lt_zero j)) (fun q _ => rfl) hT
set_option maxHeartbeats 4000000 in
set_option maxRecDepth 100000 in
theorem ct_X2_chunkStart (l : Launch) (D : va_G) (α : gz_P → Nat) (cA : Nat → ClassId) {I : gz_M} {t i : Int} (ht : 0 ≤ t ∧ t < 4) (hi : 0 ≤ i ∧ i < 75) : gz_V l D α cA RX2 cX2_chunkStart (some .int) 2 0 (gz_Qi fun x I' => I = I' ∧ x = if i = 0 then 0 else I (9, t, 0) (i - 1)) I [some (.ref (α (7, t, 0))), some (gz_i (i))] [] 0 := by
  refine gz_iload_n (pc := 0) dX2_chunkStart_0 rfl ?_
  refine gz_if_ne (pc := 1) (tgt := 8) dX2_chunkStart_1 (by decide) (by omega) (fun h1 => ?_) (fun h1 => ?_)
  · first | refine gz_aload_n (pc := 8) dX2_chunkStart_8 rfl ?_ | refine gz_aload_nN (pc := 8) dX2_chunkStart_8 rfl ?_
    refine gz_getr (pc := 9) dX2_chunkStart_9 fl_X2_15 rfl rfl rfl (by first | exact gz_B1 | (omega)) ?_
    refine gz_iload_n (pc := 12) dX2_chunkStart_12 rfl ?_
    refine gz_iconst (pc := 13) dX2_chunkStart_13 ?_
    refine gz_isub (pc := 14) dX2_chunkStart_14 ?_
    refine gz_iald (pc := 15) dX2_chunkStart_15 rfl rfl (by first | exact gz_B1 | (omega)) (by omega) ?_
    refine gz_iret (pc := 16) dX2_chunkStart_16 rfl ?_
    exact ⟨rfl, by first | rw [if_pos h1] | rw [if_neg h1]⟩
  · refine gz_iconst (pc := 4) dX2_chunkStart_4 ?_
    refine gz_goto (pc := 5) (tgt := 16) dX2_chunkStart_5 (by decide) ?_
    refine gz_iret (pc := 16) dX2_chunkStart_16 rfl ?_
    exact ⟨rfl, by first | rw [if_pos h1] | rw [if_neg h1]⟩
set_option maxHeartbeats 4000000 in
set_option maxRecDepth 100000 in
theorem ct_X2_chunkSize (l : Launch) (D : va_G) (α : gz_P → Nat) (cA : Nat → ClassId) {I : gz_M} {t i : Int} (ht : 0 ≤ t ∧ t < 4) (hi : 0 ≤ i ∧ i < 75) : gz_V l D α cA RX2 cX2_chunkSize (some .int) 2 1 (gz_Qi fun x I' => I = I' ∧ x = I (9, t, 0) i - if i = 0 then 0 else I (9, t, 0) (i - 1)) I [some (.ref (α (7, t, 0))), some (gz_i (i))] [] 0 := by
  first | refine gz_aload_n (pc := 0) dX2_chunkSize_0 rfl ?_ | refine gz_aload_nN (pc := 0) dX2_chunkSize_0 rfl ?_
  refine gz_getr (pc := 1) dX2_chunkSize_1 fl_X2_15 rfl rfl rfl (by first | exact gz_B1 | (omega)) ?_
  refine gz_iload_n (pc := 4) dX2_chunkSize_4 rfl ?_
  refine gz_iald (pc := 5) dX2_chunkSize_5 rfl rfl (by first | exact gz_B1 | (omega)) (by omega) ?_
  first | refine gz_aload_n (pc := 6) dX2_chunkSize_6 rfl ?_ | refine gz_aload_nN (pc := 6) dX2_chunkSize_6 rfl ?_
  refine gz_iload_n (pc := 7) dX2_chunkSize_7 rfl ?_
  refine gz_cV1i (pc := 8) dX2_chunkSize_8 wm_X2_32 my_X2_chunkStart rfl rfl rfl (by first | exact gz_B1 | (omega)) (ct_X2_chunkStart l D α cA ht hi) (fun x8 I8 h8 => ?_)
  obtain ⟨rfl, rfl⟩ := h8
  refine gz_isub (pc := 11) dX2_chunkSize_11 ?_
  refine gz_iret (pc := 12) dX2_chunkSize_12 rfl ?_
  exact ⟨rfl, rfl⟩
