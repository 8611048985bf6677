/-- how far P holds, from 0 on, below m -/
noncomputable def gz_rf (P : Int → Prop) : Nat → Int → Int
  | 0, k => k
  | n + 1, k => @ite _ (P k) (Classical.propDecidable _) (gz_rf P n (k + 1)) k
noncomputable def gz_rn (P : Int → Prop) (m : Int) : Int := gz_rf P m.toNat 0
theorem gz_rf_eq {P : Int → Prop} {x : Int} : ∀ (n : Nat) (k : Int), k ≤ x → x ≤ k + n → (∀ j, k ≤ j → j < x → P j) → (x = k + n ∨ ¬ P x) → gz_rf P n k = x
  | 0, k, h1, h2, _, _ => by unfold gz_rf; omega
  | n + 1, k, h1, h2, h3, h4 => by
    unfold gz_rf
    by_cases e : k = x
    · subst e
      rw [if_neg]
      rcases h4 with h4 | h4
      · omega
      · exact h4
    · rw [if_pos (h3 k (by omega) (by omega))]
      exact gz_rf_eq n (k + 1) (by omega) (by omega) (fun j a b => h3 j (by omega) b) (h4.imp (fun h => by omega) id)
theorem gz_rn_eq {P : Int → Prop} {x m : Int} (h0 : 0 ≤ x) (h1 : x ≤ m) (h3 : ∀ j, 0 ≤ j → j < x → P j) (h4 : x = m ∨ ¬ P x) : gz_rn P m = x := gz_rf_eq m.toNat 0 h0 (by omega) h3 (h4.imp (fun h => by omega) id)
theorem gz_rf_in {P : Int → Prop} : ∀ (n : Nat) (k : Int), k ≤ gz_rf P n k ∧ gz_rf P n k ≤ k + n
  | 0, k => by unfold gz_rf; omega
  | n + 1, k => by
    unfold gz_rf
    have := gz_rf_in (P := P) n (k + 1)
    split <;> omega
theorem gz_rn_in {P : Int → Prop} {m : Int} (h : 0 ≤ m) : 0 ≤ gz_rn P m ∧ gz_rn P m ≤ m := by
  have := gz_rf_in (P := P) m.toNat 0
  unfold gz_rn
  omega
theorem gz_rf_cong {P Q : Int → Prop} : ∀ (n : Nat) (k : Int), (∀ j, k ≤ j → j < k + n → (P j ↔ Q j)) → gz_rf P n k = gz_rf Q n k
  | 0, k, _ => rfl
  | n + 1, k, h => by
    unfold gz_rf
    rw [gz_rf_cong n (k + 1) (fun j a b => h j (by omega) (by omega))]
    by_cases e : P k
    · rw [if_pos e, if_pos ((h k (by omega) (by omega)).mp e)]
    · rw [if_neg e, if_neg (fun q => e ((h k (by omega) (by omega)).mpr q))]
theorem gz_rn_cong {P Q : Int → Prop} {m : Int} (h : ∀ j, 0 ≤ j → j < m → (P j ↔ Q j)) : gz_rn P m = gz_rn Q m := gz_rf_cong _ _ (fun j a b => h j a (by omega))
/-- PARTS at the beginning and at the end that two lists have in common -/
noncomputable def gz_sh (f : Int → Int) (n : Int) (g : Int → Int) (m : Int) : Int :=
  gz_rn (fun j => f j = g j) (if m < n then m else n) + gz_rn (fun j => f (n - 1 - j) = g (m - 1 - j)) ((if m < n then m else n) - gz_rn (fun j => f j = g j) (if m < n then m else n))
theorem gz_sh_in {f : Int → Int} {n : Int} {g : Int → Int} {m : Int} (hn : 0 ≤ n) (hm : 0 ≤ m) : 0 ≤ gz_sh f n g m ∧ gz_sh f n g m ≤ n := by
  unfold gz_sh
  have h1 := gz_rn_in (P := fun j => f j = g j) (m := if m < n then m else n) (by split <;> omega)
  have h2 := gz_rn_in (P := fun j => f (n - 1 - j) = g (m - 1 - j)) (m := (if m < n then m else n) - gz_rn (fun j => f j = g j) (if m < n then m else n)) (by omega)
  split at h1 <;> split at h2 <;> (try split) <;> omega
theorem gz_up_up {I : gz_M} {p : gz_P} {i j u v w : Int} : gz_up (gz_up (gz_up I p i u) p j v) p i w = gz_up (gz_up I p j v) p i w := by
  funext q k
  unfold gz_up
  by_cases h : q = p ∧ k = i
  · simp only [if_pos h]
  · simp only [if_neg h]
set_option maxHeartbeats 4000000 in
set_option maxRecDepth 100000 in
theorem ct_X0_begin (l : Launch) (D : va_G) (α : gz_P → Nat) (cA : Nat → ClassId) {I : gz_M} {k n t : Int} (hk : 0 ≤ k ∧ k < 12) : gz_V l D α cA RX0 cX0_begin none 3 0 (gz_Qv fun I' => I' = gz_up (gz_up (gz_up (gz_up (gz_up I (16, k, 0) 2 n) (16, k, 0) 3 1) (16, k, 0) 4 (-1)) (16, k, 0) 5 t) (16, k, 0) 7 0) I [some (.ref (α (16, k, 0))), some (gz_i (n)), some (gz_i (t))] [] 0 := by
  first | refine gz_aload_n (pc := 0) dX0_begin_0 rfl ?_ | refine gz_aload_nN (pc := 0) dX0_begin_0 rfl ?_
  refine gz_iload_n (pc := 1) dX0_begin_1 rfl ?_
  refine gz_putI (pc := 2) 2 dX0_begin_2 fw_X0_20 rfl rfl rfl rfl (by first | exact gz_B1 | (omega)) (Or.inl rfl) ?_
  first | refine gz_aload_n (pc := 5) dX0_begin_5 rfl ?_ | refine gz_aload_nN (pc := 5) dX0_begin_5 rfl ?_
  refine gz_iconst (pc := 6) dX0_begin_6 ?_
  refine gz_putI (pc := 7) 3 dX0_begin_7 fw_X0_24 rfl rfl rfl rfl (by first | exact gz_B1 | (omega)) (Or.inr ⟨rfl, by exact Or.inr rfl⟩) ?_
  first | refine gz_aload_n (pc := 10) dX0_begin_10 rfl ?_ | refine gz_aload_nN (pc := 10) dX0_begin_10 rfl ?_
  refine gz_iconst (pc := 11) dX0_begin_11 ?_
  refine gz_putI (pc := 12) 4 dX0_begin_12 fw_X0_28 rfl rfl rfl rfl (by first | exact gz_B1 | (omega)) (Or.inl rfl) ?_
  first | refine gz_aload_n (pc := 15) dX0_begin_15 rfl ?_ | refine gz_aload_nN (pc := 15) dX0_begin_15 rfl ?_
  refine gz_iload_n (pc := 16) dX0_begin_16 rfl ?_
  refine gz_putI (pc := 17) 5 dX0_begin_17 fw_X0_31 rfl rfl rfl rfl (by first | exact gz_B1 | (omega)) (Or.inl rfl) ?_
  first | refine gz_aload_n (pc := 20) dX0_begin_20 rfl ?_ | refine gz_aload_nN (pc := 20) dX0_begin_20 rfl ?_
  refine gz_iconst (pc := 21) dX0_begin_21 ?_
  refine gz_putI (pc := 22) 7 dX0_begin_22 fw_X0_37 rfl rfl rfl rfl (by first | exact gz_B1 | (omega)) (Or.inl rfl) ?_
  refine gz_vret (pc := 25) dX0_begin_25 rfl ?_
  rfl
set_option maxHeartbeats 4000000 in
set_option maxRecDepth 100000 in
theorem lp_X0_partCount (l : Launch) (D : va_G) (α : gz_P → Nat) (cA : Nat → ClassId) {I : gz_M} (hT : gz_T I) {k : Int} (hk : 0 ≤ k ∧ k < 12) : ∀ t, t ≤ I (16, k, 0) 5 → ∀ n : Int, 0 ≤ t → n = gz_sm (fun t => I (19, k, 0) t) t.toNat → gz_V l D α cA RX0 cX0_partCount (some .int) 3 0 (gz_Qi fun x I' => I = I' ∧ x = gz_sm (fun t => I (19, k, 0) t) (I (16, k, 0) 5).toNat) I [some (.ref (α (16, k, 0))), some (gz_i (n)), some (gz_i (t))] [] 4 := by
  refine gz_upto _ ?_
  intro t ht ih n h0 hn
  have e1 := gz_tm5 hT k 0
  have e2 := gz_sm_in (f := fun t => I (19, k, 0) t) (lo := 0) (hi := 75) (fun i => gz_t19 hT k 0 i) t.toNat
  have e3 := gz_t19 hT k 0 t
  refine gz_iload_n (pc := 4) dX0_partCount_4 rfl ?_
  first | refine gz_aload_n (pc := 5) dX0_partCount_5 rfl ?_ | refine gz_aload_nN (pc := 5) dX0_partCount_5 rfl ?_
  refine gz_getI (pc := 6) 5 dX0_partCount_6 fl_X0_31 rfl rfl rfl rfl (by first | exact gz_B1 | (omega)) ?_
  refine gz_icmp_ge (pc := 9) (tgt := 27) dX0_partCount_9 (by decide) (by omega) (by omega) (fun h9 => ?_) (fun h9 => ?_)
  · refine gz_iload_n (pc := 27) dX0_partCount_27 rfl ?_
    refine gz_iret (pc := 28) dX0_partCount_28 rfl ?_
    exact ⟨rfl, by rw [hn, show t = I (16, k, 0) 5 by omega]⟩
  · refine gz_iload_n (pc := 12) dX0_partCount_12 rfl ?_
    first | refine gz_aload_n (pc := 13) dX0_partCount_13 rfl ?_ | refine gz_aload_nN (pc := 13) dX0_partCount_13 rfl ?_
    refine gz_getr (pc := 14) dX0_partCount_14 fl_X0_16 rfl rfl rfl (by first | exact gz_B1 | (omega)) ?_
    refine gz_iload_n (pc := 17) dX0_partCount_17 rfl ?_
    refine gz_iald (pc := 18) dX0_partCount_18 rfl rfl (by first | exact gz_B1 | (omega)) (by omega) ?_
    refine gz_iadd (pc := 19) dX0_partCount_19 ?_
    refine gz_istore_n (pc := 20) dX0_partCount_20 rfl rfl rfl ?_
    refine gz_iinc (pc := 21) dX0_partCount_21 rfl rfl rfl rfl ?_
    refine gz_goto (pc := 24) (tgt := 4) dX0_partCount_24 (by decide) ?_
    refine ih (t + 1) (by omega) (by omega) _ (by omega) ?_
    rw [show (t + 1).toNat = t.toNat + 1 by omega]
    unfold gz_sm
    rw [← hn, Int.toNat_of_nonneg h0]
set_option maxHeartbeats 4000000 in
set_option maxRecDepth 100000 in
theorem ct_X0_partCount (l : Launch) (D : va_G) (α : gz_P → Nat) (cA : Nat → ClassId) {I : gz_M} (hT : gz_T I) {k : Int} (hk : 0 ≤ k ∧ k < 12) : gz_V l D α cA RX0 cX0_partCount (some .int) 3 0 (gz_Qi fun x I' => I = I' ∧ x = gz_sm (fun t => I (19, k, 0) t) (I (16, k, 0) 5).toNat) I [some (.ref (α (16, k, 0))), none, none] [] 0 := by
  refine gz_iconst (pc := 0) dX0_partCount_0 ?_
  refine gz_istore_n (pc := 1) dX0_partCount_1 rfl rfl rfl ?_
  refine gz_iconst (pc := 2) dX0_partCount_2 ?_
  refine gz_istore_n (pc := 3) dX0_partCount_3 rfl rfl rfl ?_
  exact lp_X0_partCount l D α cA hT hk 0 (by have := gz_tm5 hT k 0; omega) 0 (by omega) rfl
set_option maxHeartbeats 4000000 in
set_option maxRecDepth 100000 in
theorem lp_X0_sharedParts2 (l : Launch) (D : va_G) (α : gz_P → Nat) (cA : Nat → ClassId) {I : gz_M} (hT : gz_T I) {k k' t : Int} (hk : 0 ≤ k ∧ k < 12) (hk' : 0 ≤ k' ∧ k' < 12) (ht : 0 ≤ t ∧ t < 4) : ∀ a, a = gz_rn (fun j => I (18, k, t) j = I (18, k', t) j) (if (I (19, k', 0) t) < (I (19, k, 0) t) then (I (19, k', 0) t) else (I (19, k, 0) t)) → ∀ e, e ≤ (if (I (19, k', 0) t) < (I (19, k, 0) t) then (I (19, k', 0) t) else (I (19, k, 0) t)) - a → 0 ≤ e → (∀ j, 0 ≤ j → j < e → (fun j => I (18, k, t) ((I (19, k, 0) t) - 1 - j) = I (18, k', t) ((I (19, k', 0) t) - 1 - j)) j) → gz_V l D α cA RX0 cX0_sharedParts (some .int) 6 1 (gz_Qi fun x I' => I = I' ∧ x = gz_sh (I (18, k, t)) (I (19, k, 0) t) (I (18, k', t)) (I (19, k', 0) t)) I [some (.ref (α (16, k, 0))), some (.ref (α (16, k', 0))), some (gz_i (t)), some (gz_i ((if (I (19, k', 0) t) < (I (19, k, 0) t) then (I (19, k', 0) t) else (I (19, k, 0) t)))), some (gz_i (a)), some (gz_i (e))] [] 55 := by
  have e1 := gz_t19 hT k 0 t
  have e2 := gz_t19 hT k' 0 t
  have e3 : 0 ≤ (if (I (19, k', 0) t) < (I (19, k, 0) t) then (I (19, k', 0) t) else (I (19, k, 0) t)) ∧ (if (I (19, k', 0) t) < (I (19, k, 0) t) then (I (19, k', 0) t) else (I (19, k, 0) t)) ≤ (I (19, k, 0) t) ∧ (if (I (19, k', 0) t) < (I (19, k, 0) t) then (I (19, k', 0) t) else (I (19, k, 0) t)) ≤ (I (19, k', 0) t) := by split <;> omega
  intro a ha
  have e4 := gz_rn_in (P := (fun j => I (18, k, t) j = I (18, k', t) j)) (m := (if (I (19, k', 0) t) < (I (19, k, 0) t) then (I (19, k', 0) t) else (I (19, k, 0) t))) e3.1
  rw [← ha] at e4
  refine gz_upto _ ?_
  intro e he ih h0 hj
  have e5 := gz_t18 hT k t ((I (19, k, 0) t) - 1 - e)
  have e6 := gz_t18 hT k' t ((I (19, k', 0) t) - 1 - e)
  refine gz_iload (pc := 55) dX0_sharedParts_55 rfl ?_
  refine gz_iload_n (pc := 57) dX0_sharedParts_57 rfl ?_
  refine gz_iload (pc := 58) dX0_sharedParts_58 rfl ?_
  refine gz_isub (pc := 60) dX0_sharedParts_60 ?_
  refine gz_icmp_ge (pc := 61) (tgt := 109) dX0_sharedParts_61 (by decide) (by omega) (by omega) (fun h61 => ?_) (fun h61 => ?_)
  · refine gz_iload (pc := 109) dX0_sharedParts_109 rfl ?_
    refine gz_iload (pc := 111) dX0_sharedParts_111 rfl ?_
    refine gz_iadd (pc := 113) dX0_sharedParts_113 ?_
    refine gz_iret (pc := 114) dX0_sharedParts_114 rfl ?_
    refine ⟨rfl, ?_⟩
    unfold gz_sh
    rw [← ha, gz_rn_eq (P := (fun j => I (18, k, t) ((I (19, k, 0) t) - 1 - j) = I (18, k', t) ((I (19, k', 0) t) - 1 - j))) (x := e) h0 he hj (by first | exact Or.inl (by omega) | exact Or.inr h100)]
  · first | refine gz_aload_n (pc := 64) dX0_sharedParts_64 rfl ?_ | refine gz_aload_nN (pc := 64) dX0_sharedParts_64 rfl ?_
    refine gz_getr (pc := 65) dX0_sharedParts_65 fl_X0_11 rfl rfl rfl (by first | exact gz_B1 | (omega)) ?_
    refine gz_iload_n (pc := 68) dX0_sharedParts_68 rfl ?_
    first | refine gz_ald1 (pc := 69) dX0_sharedParts_69 (by omega) ?_ | refine gz_ald2 (pc := 69) dX0_sharedParts_69 (by omega) ?_ | refine gz_ald4 (pc := 69) dX0_sharedParts_69 (by omega) ?_ | refine gz_ald17 (pc := 69) dX0_sharedParts_69 (by first | exact gz_B1 | (omega)) (by omega) ?_
    first | refine gz_aload_n (pc := 70) dX0_sharedParts_70 rfl ?_ | refine gz_aload_nN (pc := 70) dX0_sharedParts_70 rfl ?_
    refine gz_getr (pc := 71) dX0_sharedParts_71 fl_X0_16 rfl rfl rfl (by first | exact gz_B1 | (omega)) ?_
    refine gz_iload_n (pc := 74) dX0_sharedParts_74 rfl ?_
    refine gz_iald (pc := 75) dX0_sharedParts_75 rfl rfl (by first | exact gz_B1 | (omega)) (by omega) ?_
    refine gz_iconst (pc := 76) dX0_sharedParts_76 ?_
    refine gz_isub (pc := 77) dX0_sharedParts_77 ?_
    refine gz_iload (pc := 78) dX0_sharedParts_78 rfl ?_
    refine gz_isub (pc := 80) dX0_sharedParts_80 ?_
    refine gz_iald (pc := 81) dX0_sharedParts_81 rfl rfl (by first | exact gz_B1 | (omega)) (by omega) ?_
    first | refine gz_aload_n (pc := 82) dX0_sharedParts_82 rfl ?_ | refine gz_aload_nN (pc := 82) dX0_sharedParts_82 rfl ?_
    refine gz_getr (pc := 83) dX0_sharedParts_83 fl_X0_11 rfl rfl rfl (by first | exact gz_B1 | (omega)) ?_
    refine gz_iload_n (pc := 86) dX0_sharedParts_86 rfl ?_
    first | refine gz_ald1 (pc := 87) dX0_sharedParts_87 (by omega) ?_ | refine gz_ald2 (pc := 87) dX0_sharedParts_87 (by omega) ?_ | refine gz_ald4 (pc := 87) dX0_sharedParts_87 (by omega) ?_ | refine gz_ald17 (pc := 87) dX0_sharedParts_87 (by first | exact gz_B1 | (omega)) (by omega) ?_
    first | refine gz_aload_n (pc := 88) dX0_sharedParts_88 rfl ?_ | refine gz_aload_nN (pc := 88) dX0_sharedParts_88 rfl ?_
    refine gz_getr (pc := 89) dX0_sharedParts_89 fl_X0_16 rfl rfl rfl (by first | exact gz_B1 | (omega)) ?_
    refine gz_iload_n (pc := 92) dX0_sharedParts_92 rfl ?_
    refine gz_iald (pc := 93) dX0_sharedParts_93 rfl rfl (by first | exact gz_B1 | (omega)) (by omega) ?_
    refine gz_iconst (pc := 94) dX0_sharedParts_94 ?_
    refine gz_isub (pc := 95) dX0_sharedParts_95 ?_
    refine gz_iload (pc := 96) dX0_sharedParts_96 rfl ?_
    refine gz_isub (pc := 98) dX0_sharedParts_98 ?_
    refine gz_iald (pc := 99) dX0_sharedParts_99 rfl rfl (by first | exact gz_B1 | (omega)) (by omega) ?_
    refine gz_icmp_ne (pc := 100) (tgt := 109) dX0_sharedParts_100 (by decide) (by omega) (by omega) (fun h100 => ?_) (fun h100 => ?_)
    · refine gz_iload (pc := 109) dX0_sharedParts_109 rfl ?_
      refine gz_iload (pc := 111) dX0_sharedParts_111 rfl ?_
      refine gz_iadd (pc := 113) dX0_sharedParts_113 ?_
      refine gz_iret (pc := 114) dX0_sharedParts_114 rfl ?_
      refine ⟨rfl, ?_⟩
      unfold gz_sh
      rw [← ha, gz_rn_eq (P := (fun j => I (18, k, t) ((I (19, k, 0) t) - 1 - j) = I (18, k', t) ((I (19, k', 0) t) - 1 - j))) (x := e) h0 he hj (by first | exact Or.inl (by omega) | exact Or.inr h100)]
    · refine gz_iinc (pc := 103) dX0_sharedParts_103 rfl rfl rfl rfl ?_
      refine gz_goto (pc := 106) (tgt := 55) dX0_sharedParts_106 (by decide) ?_
      refine ih (e + 1) (by omega) (by omega) (by omega) (fun j a1 a2 => ?_)
      by_cases q : j = e
      · rw [q]; exact h100
      · exact hj j a1 (by omega)
set_option maxHeartbeats 4000000 in
set_option maxRecDepth 100000 in
theorem lp_X0_sharedParts1 (l : Launch) (D : va_G) (α : gz_P → Nat) (cA : Nat → ClassId) {I : gz_M} (hT : gz_T I) {k k' t : Int} (hk : 0 ≤ k ∧ k < 12) (hk' : 0 ≤ k' ∧ k' < 12) (ht : 0 ≤ t ∧ t < 4) : ∀ a, a ≤ (if (I (19, k', 0) t) < (I (19, k, 0) t) then (I (19, k', 0) t) else (I (19, k, 0) t)) → 0 ≤ a → (∀ j, 0 ≤ j → j < a → (fun j => I (18, k, t) j = I (18, k', t) j) j) → gz_V l D α cA RX0 cX0_sharedParts (some .int) 6 1 (gz_Qi fun x I' => I = I' ∧ x = gz_sh (I (18, k, t)) (I (19, k, 0) t) (I (18, k', t)) (I (19, k', 0) t)) I [some (.ref (α (16, k, 0))), some (.ref (α (16, k', 0))), some (gz_i (t)), some (gz_i ((if (I (19, k', 0) t) < (I (19, k, 0) t) then (I (19, k', 0) t) else (I (19, k, 0) t)))), some (gz_i (a)), none] [] 19 := by
  have e1 := gz_t19 hT k 0 t
  have e2 := gz_t19 hT k' 0 t
  have e3 : 0 ≤ (if (I (19, k', 0) t) < (I (19, k, 0) t) then (I (19, k', 0) t) else (I (19, k, 0) t)) ∧ (if (I (19, k', 0) t) < (I (19, k, 0) t) then (I (19, k', 0) t) else (I (19, k, 0) t)) ≤ (I (19, k, 0) t) ∧ (if (I (19, k', 0) t) < (I (19, k, 0) t) then (I (19, k', 0) t) else (I (19, k, 0) t)) ≤ (I (19, k', 0) t) := by split <;> omega
  refine gz_upto _ ?_
  intro a ha ih h0 hj
  have e5 := gz_t18 hT k t a
  have e6 := gz_t18 hT k' t a
  refine gz_iload (pc := 19) dX0_sharedParts_19 rfl ?_
  refine gz_iload_n (pc := 21) dX0_sharedParts_21 rfl ?_
  refine gz_icmp_ge (pc := 22) (tgt := 52) dX0_sharedParts_22 (by decide) (by omega) (by omega) (fun h22 => ?_) (fun h22 => ?_)
  · refine gz_iconst (pc := 52) dX0_sharedParts_52 ?_
    refine gz_istore (pc := 53) dX0_sharedParts_53 rfl rfl rfl ?_
    exact lp_X0_sharedParts2 l D α cA hT hk hk' ht a (gz_rn_eq (P := (fun j => I (18, k, t) j = I (18, k', t) j)) h0 ha hj (by first | exact Or.inl (by omega) | exact Or.inr h43)).symm 0 (by omega) (by omega) (fun j a1 a2 => by omega)
  · first | refine gz_aload_n (pc := 25) dX0_sharedParts_25 rfl ?_ | refine gz_aload_nN (pc := 25) dX0_sharedParts_25 rfl ?_
    refine gz_getr (pc := 26) dX0_sharedParts_26 fl_X0_11 rfl rfl rfl (by first | exact gz_B1 | (omega)) ?_
    refine gz_iload_n (pc := 29) dX0_sharedParts_29 rfl ?_
    first | refine gz_ald1 (pc := 30) dX0_sharedParts_30 (by omega) ?_ | refine gz_ald2 (pc := 30) dX0_sharedParts_30 (by omega) ?_ | refine gz_ald4 (pc := 30) dX0_sharedParts_30 (by omega) ?_ | refine gz_ald17 (pc := 30) dX0_sharedParts_30 (by first | exact gz_B1 | (omega)) (by omega) ?_
    refine gz_iload (pc := 31) dX0_sharedParts_31 rfl ?_
    refine gz_iald (pc := 33) dX0_sharedParts_33 rfl rfl (by first | exact gz_B1 | (omega)) (by omega) ?_
    first | refine gz_aload_n (pc := 34) dX0_sharedParts_34 rfl ?_ | refine gz_aload_nN (pc := 34) dX0_sharedParts_34 rfl ?_
    refine gz_getr (pc := 35) dX0_sharedParts_35 fl_X0_11 rfl rfl rfl (by first | exact gz_B1 | (omega)) ?_
    refine gz_iload_n (pc := 38) dX0_sharedParts_38 rfl ?_
    first | refine gz_ald1 (pc := 39) dX0_sharedParts_39 (by omega) ?_ | refine gz_ald2 (pc := 39) dX0_sharedParts_39 (by omega) ?_ | refine gz_ald4 (pc := 39) dX0_sharedParts_39 (by omega) ?_ | refine gz_ald17 (pc := 39) dX0_sharedParts_39 (by first | exact gz_B1 | (omega)) (by omega) ?_
    refine gz_iload (pc := 40) dX0_sharedParts_40 rfl ?_
    refine gz_iald (pc := 42) dX0_sharedParts_42 rfl rfl (by first | exact gz_B1 | (omega)) (by omega) ?_
    refine gz_icmp_ne (pc := 43) (tgt := 52) dX0_sharedParts_43 (by decide) (by omega) (by omega) (fun h43 => ?_) (fun h43 => ?_)
    · refine gz_iconst (pc := 52) dX0_sharedParts_52 ?_
      refine gz_istore (pc := 53) dX0_sharedParts_53 rfl rfl rfl ?_
      exact lp_X0_sharedParts2 l D α cA hT hk hk' ht a (gz_rn_eq (P := (fun j => I (18, k, t) j = I (18, k', t) j)) h0 ha hj (by first | exact Or.inl (by omega) | exact Or.inr h43)).symm 0 (by omega) (by omega) (fun j a1 a2 => by omega)
    · refine gz_iinc (pc := 46) dX0_sharedParts_46 rfl rfl rfl rfl ?_
      refine gz_goto (pc := 49) (tgt := 19) dX0_sharedParts_49 (by decide) ?_
      refine ih (a + 1) (by omega) (by omega) (by omega) (fun j a1 a2 => ?_)
      by_cases q : j = a
      · rw [q]; exact h43
      · exact hj j a1 (by omega)
set_option maxHeartbeats 4000000 in
set_option maxRecDepth 100000 in
theorem ct_X0_sharedParts (l : Launch) (D : va_G) (α : gz_P → Nat) (cA : Nat → ClassId) {I : gz_M} (hT : gz_T I) {k k' t : Int} (hk : 0 ≤ k ∧ k < 12) (hk' : 0 ≤ k' ∧ k' < 12) (ht : 0 ≤ t ∧ t < 4) : gz_V l D α cA RX0 cX0_sharedParts (some .int) 6 1 (gz_Qi fun x I' => I = I' ∧ x = gz_sh (I (18, k, t)) (I (19, k, 0) t) (I (18, k', t)) (I (19, k', 0) t)) I [some (.ref (α (16, k, 0))), some (.ref (α (16, k', 0))), some (gz_i (t)), none, none, none] [] 0 := by
  have e1 := gz_t19 hT k 0 t
  have e2 := gz_t19 hT k' 0 t
  have e3 : 0 ≤ (if (I (19, k', 0) t) < (I (19, k, 0) t) then (I (19, k', 0) t) else (I (19, k, 0) t)) ∧ (if (I (19, k', 0) t) < (I (19, k, 0) t) then (I (19, k', 0) t) else (I (19, k, 0) t)) ≤ (I (19, k, 0) t) ∧ (if (I (19, k', 0) t) < (I (19, k, 0) t) then (I (19, k', 0) t) else (I (19, k, 0) t)) ≤ (I (19, k', 0) t) := by split <;> omega
  first | refine gz_aload_n (pc := 0) dX0_sharedParts_0 rfl ?_ | refine gz_aload_nN (pc := 0) dX0_sharedParts_0 rfl ?_
  refine gz_getr (pc := 1) dX0_sharedParts_1 fl_X0_16 rfl rfl rfl (by first | exact gz_B1 | (omega)) ?_
  refine gz_iload_n (pc := 4) dX0_sharedParts_4 rfl ?_
  refine gz_iald (pc := 5) dX0_sharedParts_5 rfl rfl (by first | exact gz_B1 | (omega)) (by omega) ?_
  first | refine gz_aload_n (pc := 6) dX0_sharedParts_6 rfl ?_ | refine gz_aload_nN (pc := 6) dX0_sharedParts_6 rfl ?_
  refine gz_getr (pc := 7) dX0_sharedParts_7 fl_X0_16 rfl rfl rfl (by first | exact gz_B1 | (omega)) ?_
  refine gz_iload_n (pc := 10) dX0_sharedParts_10 rfl ?_
  refine gz_iald (pc := 11) dX0_sharedParts_11 rfl rfl (by first | exact gz_B1 | (omega)) (by omega) ?_
  refine gz_min (pc := 12) dX0_sharedParts_12 wm_X0_51 rfl (by omega) (by omega) ?_
  refine gz_istore_n (pc := 15) dX0_sharedParts_15 rfl rfl rfl ?_
  refine gz_iconst (pc := 16) dX0_sharedParts_16 ?_
  refine gz_istore (pc := 17) dX0_sharedParts_17 rfl rfl rfl ?_
  exact lp_X0_sharedParts1 l D α cA hT hk hk' ht 0 (by omega) (by omega) (fun j a1 a2 => by omega)
