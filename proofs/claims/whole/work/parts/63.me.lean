noncomputable abbrev gz_rsM (I0 : gz_M) (s u : Int) (n : Nat) : (Int → Int) × (Int → Int) × (Int → Int) := gz_rs (gz_lM I0 s u) (I0 (24, 0, 0)) (I0 (25, 0, 0)) (I0 (27, 0, 0)) (gz_hM I0 u) (gz_bM I0 u) (gz_fm I0 u) n
/-- n parts of task u's list are read -/
def gz_RU (I0 I : gz_M) (s u : Int) (n : Nat) : Prop := (∀ q, 0 ≤ q → q < 120 → gz_hM I u q = (gz_rsM I0 s u n).1 q) ∧ (∀ i, 0 ≤ i → i < 3840 → gz_bM I u i = (gz_rsM I0 s u n).2.1 i) ∧ (∀ i, 0 ≤ i → i < 300 → gz_fm I u i = (gz_rsM I0 s u n).2.2 i) ∧ I (21, 0, 0) u = gz_sm (fun m => I0 (24, 0, 0) (gz_lM I0 s u m)) n
def gz_UN (I0 I : gz_M) (n u : Int) : Prop := I (21, 0, 0) u = (if n ≤ u then 0 else I0 (21, 0, 0) u) ∧ (∀ q, 0 ≤ q → q < 120 → gz_hM I u q = if n ≤ u then 0 else gz_hM I0 u q) ∧ (∀ i, 0 ≤ i → i < 3840 → gz_bM I u i = gz_bM I0 u i) ∧ (∀ i, 0 ≤ i → i < 300 → gz_fm I u i = gz_fm I0 u i)
def gz_BF (I0 I : gz_M) (n : Int) : Prop := gz_T I ∧ I (20, 0, 0) 0 = n ∧ (∀ i, i ≠ 0 → I (20, 0, 0) i = I0 (20, 0, 0) i) ∧ ∀ q : gz_P, q ≠ (20, 0, 0) → q ≠ (21, 0, 0) → q ≠ (22, 0, 0) → q ≠ (28, 0, 0) → q ≠ (29, 0, 0) → I q = I0 q
def gz_LS (I0 : gz_M) (s u : Int) : Nat := (I0 (34, 0, 0) (4 * s + u)).toNat
def gz_BK (I0 I : gz_M) (s t : Int) : Prop := gz_BF I0 I (I0 (33, 0, 0) s) ∧ (∀ u, 0 ≤ u → u < t → gz_RU I0 I s u (gz_LS I0 s u)) ∧ ∀ u, t ≤ u → u < 4 → gz_UN I0 I (I0 (33, 0, 0) s) u
theorem gz_RU_s {I0 I I' : gz_M} {s t k : Int} (hT0 : gz_T I0) (h0 : 0 ≤ k) (hp : 0 ≤ gz_lM I0 s t k ∧ gz_lM I0 s t k < 120) (e24 : I (24, 0, 0) = I0 (24, 0, 0)) (e25 : I (25, 0, 0) = I0 (25, 0, 0)) (e27 : I (27, 0, 0) = I0 (27, 0, 0)) (hU : gz_RU I0 I s t k.toNat) (h : gz_RM I I' t (gz_lM I0 s t k)) (hs3 : gz_sm (fun m => I0 (24, 0, 0) (gz_lM I0 s t m)) k.toNat + I0 (24, 0, 0) (gz_lM I0 s t k) ≤ 300) : gz_RU I0 I' s t (k + 1).toNat := by
  obtain ⟨u1, u2, u3, u4⟩ := hU
  obtain ⟨-, r2, r3, -, -, r6, -, r8, -, -⟩ := h
  have hcast : ((k.toNat : Nat) : Int) = k := Int.toNat_of_nonneg h0
  have hz := gz_t24 hT0 0 0 (gz_lM I0 s t k)
  have hc := gz_r1_cong (z := I0 (24, 0, 0)) (g := I0 (25, 0, 0)) (B := I0 (27, 0, 0)) hp hz u1 u2
  have hr : gz_r1M I t (gz_lM I0 s t k) = gz_r1 (I0 (24, 0, 0)) (I0 (25, 0, 0)) (I0 (27, 0, 0)) (gz_lM I0 s t k) (gz_hM I t) (gz_bM I t) := by
    show gz_r1 _ _ _ _ _ _ = _
    rw [e24, e25, e27]
  rw [hr] at r2 r3 r6
  rw [e24] at r6 r8
  rw [show (k + 1).toNat = k.toNat + 1 by omega]
  have d1 : (gz_rsM I0 s t (k.toNat + 1)).1 = (gz_r1 (I0 (24, 0, 0)) (I0 (25, 0, 0)) (I0 (27, 0, 0)) (gz_lM I0 s t k) (gz_rsM I0 s t k.toNat).1 (gz_rsM I0 s t k.toNat).2.1).1 := by
    show (gz_r1 _ _ _ (gz_lM I0 s t ((k.toNat : Nat) : Int)) _ _).1 = _
    rw [hcast]
  have d2 : (gz_rsM I0 s t (k.toNat + 1)).2.1 = (gz_r1 (I0 (24, 0, 0)) (I0 (25, 0, 0)) (I0 (27, 0, 0)) (gz_lM I0 s t k) (gz_rsM I0 s t k.toNat).1 (gz_rsM I0 s t k.toNat).2.1).2 := by
    show (gz_r1 _ _ _ (gz_lM I0 s t ((k.toNat : Nat) : Int)) _ _).2 = _
    rw [hcast]
  refine ⟨fun q b1 b2 => ?_, fun i b1 b2 => ?_, fun i b1 b2 => ?_, ?_⟩
  · rw [r2 q b1 b2, d1]
    exact hc.1 q b1 b2
  · rw [r3 i b1 b2, d2]
    exact hc.2 i b1 b2
  · rw [r6 i b1 b2, u3 i b1 b2, u4]
    show _ = if gz_sm (fun m => I0 (24, 0, 0) (gz_lM I0 s t m)) k.toNat ≤ i ∧ i < gz_sm (fun m => I0 (24, 0, 0) (gz_lM I0 s t m)) k.toNat + I0 (24, 0, 0) (gz_lM I0 s t ((k.toNat : Nat) : Int)) then (gz_r1 _ _ _ (gz_lM I0 s t ((k.toNat : Nat) : Int)) _ _).2 (32 * gz_lM I0 s t ((k.toNat : Nat) : Int) + (i - gz_sm (fun m => I0 (24, 0, 0) (gz_lM I0 s t m)) k.toNat)) else (gz_rsM I0 s t k.toNat).2.2 i
    rw [hcast]
    by_cases z : gz_sm (fun m => I0 (24, 0, 0) (gz_lM I0 s t m)) k.toNat ≤ i ∧ i < gz_sm (fun m => I0 (24, 0, 0) (gz_lM I0 s t m)) k.toNat + I0 (24, 0, 0) (gz_lM I0 s t k)
    · rw [if_pos z, if_pos z]
      exact hc.2 _ (by omega) (by omega)
    · rw [if_neg z, if_neg z]
  · rw [r8, u4, gz_sm_s, hcast]
theorem gz_RU_k {I0 I I' : gz_M} {s t u : Int} {n : Nat} {p : Int} (hu : 0 ≤ u ∧ u ≠ t) (ht : 0 ≤ t) (hU : gz_RU I0 I s u n) (h : gz_RM I I' t p) : gz_RU I0 I' s u n := by
  obtain ⟨u1, u2, u3, u4⟩ := hU
  obtain ⟨-, -, -, r4, r5, -, r7, -, r9, -⟩ := h
  refine ⟨fun q b1 b2 => ?_, fun i b1 b2 => ?_, fun i b1 b2 => ?_, ?_⟩
  · show I' (28, 0, 0) _ = _
    rw [r4 _ (by omega)]
    exact u1 q b1 b2
  · show I' (29, 0, 0) _ = _
    rw [r5 _ (by omega)]
    exact u2 i b1 b2
  · show I' (22, 0, 0) _ = _
    rw [r7 _ (by omega)]
    exact u3 i b1 b2
  · rw [r9 u hu.2]
    exact u4
theorem gz_UN_k {I0 I I' : gz_M} {t u n p : Int} (hu : 0 ≤ u ∧ u ≠ t) (ht : 0 ≤ t) (hU : gz_UN I0 I n u) (h : gz_RM I I' t p) : gz_UN I0 I' n u := by
  obtain ⟨u4, u1, u2, u3⟩ := hU
  obtain ⟨-, -, -, r4, r5, -, r7, -, r9, -⟩ := h
  refine ⟨?_, fun q b1 b2 => ?_, fun i b1 b2 => ?_, fun i b1 b2 => ?_⟩
  · rw [r9 u hu.2]
    exact u4
  · show I' (28, 0, 0) _ = _
    rw [r4 _ (by omega)]
    exact u1 q b1 b2
  · show I' (29, 0, 0) _ = _
    rw [r5 _ (by omega)]
    exact u2 i b1 b2
  · show I' (22, 0, 0) _ = _
    rw [r7 _ (by omega)]
    exact u3 i b1 b2
set_option maxHeartbeats 4000000 in
set_option maxRecDepth 100000 in
theorem lp_X5_back3 (l : Launch) (D : va_G) (α : gz_P → Nat) (cA : Nat → ClassId) {I0 : gz_M} (hT0 : gz_T I0) {s : Int} (hs : 0 ≤ s ∧ s < 12) (h33 : 1 ≤ I0 (33, 0, 0) s) (hl : ∀ t, 0 ≤ t → t < I0 (33, 0, 0) s → ∀ j, 0 ≤ j → j < I0 (34, 0, 0) (4 * s + t) → 0 ≤ I0 (35, 0, 0) (80 * (4 * s + t) + j)) (hsum : ∀ t, 0 ≤ t → t < I0 (33, 0, 0) s → gz_sm (fun m => I0 (24, 0, 0) (gz_lM I0 s t m)) (gz_LS I0 s t) ≤ 300) {P : Int → gz_M → Prop} (hP : ∀ I' : gz_M, gz_BK I0 I' s (I0 (33, 0, 0) s) → P (I0 (30, 0, 0) s) I') {m0 : Option Value} : ∀ t, (0 ≤ t ∧ t < (I0 (33, 0, 0) s)) → (∀ I : gz_M, gz_BK I0 I s (t + 1) → ∀ o : Option Value, gz_V l D α cA RX5 cX5_back (some .int) 5 4 (gz_Qi P) I [some (.ref (α (20, 0, 0))), m0, some (gz_i (s)), some (gz_i (t + 1)), o] [] 71) → ∀ k, k ≤ I0 (34, 0, 0) (4 * s + t) → ∀ I : gz_M, 0 ≤ k → gz_BF I0 I (I0 (33, 0, 0) s) → gz_RU I0 I s t k.toNat → (∀ u, 0 ≤ u → u < t → gz_RU I0 I s u (gz_LS I0 s u)) → (∀ u, t < u → u < 4 → gz_UN I0 I (I0 (33, 0, 0) s) u) → gz_V l D α cA RX5 cX5_back (some .int) 5 4 (gz_Qi P) I [some (.ref (α (20, 0, 0))), m0, some (gz_i (s)), some (gz_i (t)), some (gz_i (k))] [] 89 := by
  intro t ht kk
  have e0 := gz_t33 hT0 0 0 s
  have e1 := gz_t34 hT0 0 0 (4 * s + t)
  refine gz_upto _ ?_
  intro k hk ih I h0 hB hU hj hk2
  have e5 := gz_t35 hT0 0 0 (80 * (4 * s + t) + k)
  have e6 := gz_t24 hT0 0 0 (I0 (35, 0, 0) (80 * (4 * s + t) + k))
  have r34 : I (34, 0, 0) (4 * s + t) = I0 (34, 0, 0) (4 * s + t) := by rw [hB.2.2.2 _ (gz_ne rfl) (gz_ne rfl) (gz_ne rfl) (gz_ne rfl) (gz_ne rfl)]
  have r35 : I (35, 0, 0) (80 * (4 * s + t) + k) = (I0 (35, 0, 0) (80 * (4 * s + t) + k)) := by rw [hB.2.2.2 _ (gz_ne rfl) (gz_ne rfl) (gz_ne rfl) (gz_ne rfl) (gz_ne rfl)]
  have r24 : I (24, 0, 0) = I0 (24, 0, 0) := hB.2.2.2 _ (gz_ne rfl) (gz_ne rfl) (gz_ne rfl) (gz_ne rfl) (gz_ne rfl)
  have r25 : I (25, 0, 0) = I0 (25, 0, 0) := hB.2.2.2 _ (gz_ne rfl) (gz_ne rfl) (gz_ne rfl) (gz_ne rfl) (gz_ne rfl)
  have r27 : I (27, 0, 0) = I0 (27, 0, 0) := hB.2.2.2 _ (gz_ne rfl) (gz_ne rfl) (gz_ne rfl) (gz_ne rfl) (gz_ne rfl)
  have e4 : k < I0 (34, 0, 0) (4 * s + t) → 0 ≤ (I0 (35, 0, 0) (80 * (4 * s + t) + k)) := fun hlt => hl t ht.1 ht.2 k h0 hlt
  have e7 := hsum t ht.1 ht.2
  have e9 : k < I0 (34, 0, 0) (4 * s + t) → gz_sm (fun m => I0 (24, 0, 0) (gz_lM I0 s t m)) k.toNat + I0 (24, 0, 0) (I0 (35, 0, 0) (80 * (4 * s + t) + k)) ≤ 300 := fun hlt => by
    have := gz_sm_mono (f := fun m => I0 (24, 0, 0) (gz_lM I0 s t m)) (fun i => (gz_t24 hT0 0 0 _).1) (a := k.toNat + 1) (b := gz_LS I0 s t) (by unfold gz_LS; omega)
    rw [gz_sm_s, Int.toNat_of_nonneg h0] at this
    have h9 : gz_lM I0 s t k = (I0 (35, 0, 0) (80 * (4 * s + t) + k)) := rfl
    rw [h9] at this
    omega
  refine gz_iload (pc := 89) dX5_back_89 rfl ?_
  first | refine gz_aload_n (pc := 91) dX5_back_91 rfl ?_ | refine gz_aload_nN (pc := 91) dX5_back_91 rfl ?_
  refine gz_getr (pc := 92) dX5_back_92 fl_X5_54 rfl rfl rfl (by first | exact gz_B1 | (omega)) ?_
  refine gz_iconst (pc := 95) dX5_back_95 ?_
  refine gz_iload_n (pc := 96) dX5_back_96 rfl ?_
  refine gz_imul (pc := 97) dX5_back_97 ?_
  refine gz_iload_n (pc := 98) dX5_back_98 rfl ?_
  refine gz_iadd (pc := 99) dX5_back_99 ?_
  refine gz_iald (pc := 100) dX5_back_100 rfl rfl (by first | exact gz_B1 | (omega)) (by omega) ?_
  rw [r34]
  refine gz_icmp_ge (pc := 101) (tgt := 131) dX5_back_101 (by decide) (by omega) (by omega) (fun h101 => ?_) (fun h101 => ?_)
  · refine gz_iinc (pc := 131) dX5_back_131 rfl rfl rfl rfl ?_
    refine gz_goto (pc := 134) (tgt := 71) dX5_back_134 (by decide) ?_
    refine kk I ⟨hB, fun u b1 b2 => ?_, fun u b1 b2 => hk2 u (by omega) b2⟩ _
    by_cases z : u = t
    · rw [z]; unfold gz_LS; rw [← show k = I0 (34, 0, 0) (4 * s + t) by omega]; exact hU
    · exact hj u b1 (by omega)
  · first | refine gz_aload_n (pc := 104) dX5_back_104 rfl ?_ | refine gz_aload_nN (pc := 104) dX5_back_104 rfl ?_
    refine gz_iload_n (pc := 105) dX5_back_105 rfl ?_
    first | refine gz_aload_n (pc := 106) dX5_back_106 rfl ?_ | refine gz_aload_nN (pc := 106) dX5_back_106 rfl ?_
    refine gz_getr (pc := 107) dX5_back_107 fl_X5_57 rfl rfl rfl (by first | exact gz_B1 | (omega)) ?_
    refine gz_bipush (pc := 110) dX5_back_110 rfl ?_
    refine gz_iconst (pc := 112) dX5_back_112 ?_
    refine gz_iload_n (pc := 113) dX5_back_113 rfl ?_
    refine gz_imul (pc := 114) dX5_back_114 ?_
    refine gz_iload_n (pc := 115) dX5_back_115 rfl ?_
    refine gz_iadd (pc := 116) dX5_back_116 ?_
    refine gz_imul (pc := 117) dX5_back_117 ?_
    refine gz_iload (pc := 118) dX5_back_118 rfl ?_
    refine gz_iadd (pc := 120) dX5_back_120 ?_
    refine gz_iald (pc := 121) dX5_back_121 rfl rfl (by first | exact gz_B1 | (omega)) (by omega) ?_
    rw [r35]
    refine gz_cV2v (pc := 122) dX5_back_122 wm_X5_146 my_X5_read rfl rfl rfl (by first | exact gz_B1 | (omega)) (ct_X5_read l D α cA hB.1 (by omega) (by omega) (by rw [hU.2.2.2, r24]; omega)) (fun I122 h122 => ?_)
    have hrm : gz_RM I I122 t (gz_lM I0 s t k) := h122
    refine gz_iinc (pc := 125) dX5_back_125 rfl rfl rfl rfl ?_
    refine gz_goto (pc := 128) (tgt := 89) dX5_back_128 (by decide) ?_
    refine ih (k + 1) (by omega) (by omega) I122 (by omega) ⟨hrm.1, ?_, fun i hi => ?_, fun q q1 q2 q3 q4 q5 => ?_⟩ (gz_RU_s hT0 h0 (by show 0 ≤ (I0 (35, 0, 0) (80 * (4 * s + t) + k)) ∧ (I0 (35, 0, 0) (80 * (4 * s + t) + k)) < 120; omega) r24 r25 r27 hU hrm (by show _ + I0 (24, 0, 0) (I0 (35, 0, 0) (80 * (4 * s + t) + k)) ≤ 300; omega)) (fun u b1 b2 => gz_RU_k ⟨b1, by omega⟩ ht.1 (hj u b1 b2) hrm) (fun u b1 b2 => gz_UN_k ⟨by omega, by omega⟩ ht.1 (hk2 u b1 b2) hrm)
    · rw [hrm.2.2.2.2.2.2.2.2.2 _ (gz_ne rfl) (gz_ne rfl) (gz_ne rfl) (gz_ne rfl)]; exact hB.2.1
    · rw [hrm.2.2.2.2.2.2.2.2.2 _ (gz_ne rfl) (gz_ne rfl) (gz_ne rfl) (gz_ne rfl)]; exact hB.2.2.1 i hi
    · rw [hrm.2.2.2.2.2.2.2.2.2 q q2 q3 q4 q5]; exact hB.2.2.2 q q1 q2 q3 q4 q5
set_option maxHeartbeats 4000000 in
set_option maxRecDepth 100000 in
theorem lp_X5_back2 (l : Launch) (D : va_G) (α : gz_P → Nat) (cA : Nat → ClassId) {I0 : gz_M} (hT0 : gz_T I0) {s : Int} (hs : 0 ≤ s ∧ s < 12) (h33 : 1 ≤ I0 (33, 0, 0) s) (hl : ∀ t, 0 ≤ t → t < I0 (33, 0, 0) s → ∀ j, 0 ≤ j → j < I0 (34, 0, 0) (4 * s + t) → 0 ≤ I0 (35, 0, 0) (80 * (4 * s + t) + j)) (hsum : ∀ t, 0 ≤ t → t < I0 (33, 0, 0) s → gz_sm (fun m => I0 (24, 0, 0) (gz_lM I0 s t m)) (gz_LS I0 s t) ≤ 300) {P : Int → gz_M → Prop} (hP : ∀ I' : gz_M, gz_BK I0 I' s (I0 (33, 0, 0) s) → P (I0 (30, 0, 0) s) I') {m0 : Option Value} : ∀ t, t ≤ (I0 (33, 0, 0) s) → ∀ I : gz_M, 0 ≤ t → gz_BK I0 I s t → ∀ o : Option Value, gz_V l D α cA RX5 cX5_back (some .int) 5 4 (gz_Qi P) I [some (.ref (α (20, 0, 0))), m0, some (gz_i (s)), some (gz_i (t)), o] [] 71 := by
  have e0 := gz_t33 hT0 0 0 s
  refine gz_upto _ ?_
  intro t ht ih I h0 hK o
  obtain ⟨hB, hj, hun0⟩ := id hK
  have r20 := hB.2.1
  refine gz_iload_n (pc := 71) dX5_back_71 rfl ?_
  first | refine gz_aload_n (pc := 72) dX5_back_72 rfl ?_ | refine gz_aload_nN (pc := 72) dX5_back_72 rfl ?_
  refine gz_getI (pc := 73) 0 dX5_back_73 fl_X5_7 rfl rfl rfl rfl (by first | exact gz_B1 | (omega)) ?_
  rw [r20]
  refine gz_icmp_ge (pc := 76) (tgt := 137) dX5_back_76 (by decide) (by omega) (by omega) (fun h76 => ?_) (fun h76 => ?_)
  · first | refine gz_aload_n (pc := 137) dX5_back_137 rfl ?_ | refine gz_aload_nN (pc := 137) dX5_back_137 rfl ?_
    refine gz_getr (pc := 138) dX5_back_138 fl_X5_42 rfl rfl rfl (by first | exact gz_B1 | (omega)) ?_
    refine gz_iload_n (pc := 141) dX5_back_141 rfl ?_
    refine gz_iald (pc := 142) dX5_back_142 rfl rfl (by first | exact gz_B1 | (omega)) (by omega) ?_
    refine gz_iret (pc := 143) dX5_back_143 rfl ?_
    have r30 : I (30, 0, 0) s = I0 (30, 0, 0) s := by rw [hB.2.2.2 _ (gz_ne rfl) (gz_ne rfl) (gz_ne rfl) (gz_ne rfl) (gz_ne rfl)]
    rw [r30]
    exact hP I (by rw [show t = I0 (33, 0, 0) s by omega] at hK; exact hK)
  · first | refine gz_aload_n (pc := 79) dX5_back_79 rfl ?_ | refine gz_aload_nN (pc := 79) dX5_back_79 rfl ?_
    refine gz_getr (pc := 80) dX5_back_80 fl_X5_13 rfl rfl rfl (by first | exact gz_B1 | (omega)) ?_
    refine gz_iload_n (pc := 83) dX5_back_83 rfl ?_
    refine gz_iconst (pc := 84) dX5_back_84 ?_
    refine gz_iast (pc := 85) dX5_back_85 rfl rfl (by first | exact gz_B1 | (omega)) (by omega) ?_
    refine gz_iconst (pc := 86) dX5_back_86 ?_
    refine gz_istore (pc := 87) dX5_back_87 rfl rfl rfl ?_
    have hun := hun0 t (Int.le_refl t) (by omega)
    refine lp_X5_back3 l D α cA hT0 hs h33 hl hsum hP t (by omega) (fun I9 g1 o => ih (t + 1) (by omega) (by omega) I9 (by omega) g1 o) 0 (by have := gz_t34 hT0 0 0 (4 * s + t); omega) _ (by omega) ⟨gz_Tu21 hB.1 (by decide), by rw [gz_up_r (by decide)]; exact hB.2.1, fun i hi => by rw [gz_up_r (by decide)]; exact hB.2.2.1 i hi, fun q q1 q2 q3 q4 q5 => by rw [gz_up_ne q2]; exact hB.2.2.2 q q1 q2 q3 q4 q5⟩ ⟨fun q b1 b2 => ?_, fun i b1 b2 => ?_, fun i b1 b2 => ?_, gz_up_s⟩ (fun u b1 b2 => ⟨fun q c1 c2 => ?_, fun i c1 c2 => ?_, fun i c1 c2 => ?_, ?_⟩) (fun u b1 b2 => ⟨?_, fun q c1 c2 => ?_, fun i c1 c2 => ?_, fun i c1 c2 => ?_⟩)
    · show gz_up _ _ _ _ (28, 0, 0) _ = _
      rw [gz_up_r (by decide)]
      have h9 := hun.2.1 q b1 b2
      rw [if_neg (by omega)] at h9
      exact h9
    · show gz_up _ _ _ _ (29, 0, 0) _ = _
      rw [gz_up_r (by decide)]
      exact hun.2.2.1 i b1 b2
    · show gz_up _ _ _ _ (22, 0, 0) _ = _
      rw [gz_up_r (by decide)]
      exact hun.2.2.2 i b1 b2
    · show gz_up _ _ _ _ (28, 0, 0) _ = _
      rw [gz_up_r (by decide)]
      exact (hj u b1 b2).1 q c1 c2
    · show gz_up _ _ _ _ (29, 0, 0) _ = _
      rw [gz_up_r (by decide)]
      exact (hj u b1 b2).2.1 i c1 c2
    · show gz_up _ _ _ _ (22, 0, 0) _ = _
      rw [gz_up_r (by decide)]
      exact (hj u b1 b2).2.2.1 i c1 c2
    · rw [gz_up_eq, if_neg (by omega)]; exact (hj u b1 b2).2.2.2
    · rw [gz_up_eq, if_neg (by omega)]; exact (hun0 u (by omega) b2).1
    · show gz_up _ _ _ _ (28, 0, 0) _ = _
      rw [gz_up_r (by decide)]
      exact (hun0 u (by omega) b2).2.1 q c1 c2
    · show gz_up _ _ _ _ (29, 0, 0) _ = _
      rw [gz_up_r (by decide)]
      exact (hun0 u (by omega) b2).2.2.1 i c1 c2
    · show gz_up _ _ _ _ (22, 0, 0) _ = _
      rw [gz_up_r (by decide)]
      exact (hun0 u (by omega) b2).2.2.2 i c1 c2
set_option maxHeartbeats 4000000 in
set_option maxRecDepth 100000 in
theorem lp_X5_back0 (l : Launch) (D : va_G) (α : gz_P → Nat) (cA : Nat → ClassId) {I : gz_M} (hT : gz_T I) {m : Int} (r_m : (-2147483648 ≤ m ∧ m ≤ 2147483647)) (hkt : ∀ s, 0 ≤ s → s < 12 → ¬ I (30, 0, 0) s = -1 → I (31, 0, 0) s = 1 → 1 ≤ I (33, 0, 0) s ∧ ∀ t, 0 ≤ t → t < I (33, 0, 0) s → gz_sm (fun m => I (24, 0, 0) (gz_lM I s t m)) (gz_LS I s t) ≤ 300) (hnn : ∀ s, 0 ≤ s → s < 12 → -1 ≤ I (30, 0, 0) s) (hdis : (∀ s s', 0 ≤ s → s < 12 → 0 ≤ s' → s' < 12 → I (30, 0, 0) s = I (30, 0, 0) s' → 0 ≤ I (30, 0, 0) s → s = s')) (hnx : 0 ≤ I (20, 0, 0) 10 ∧ I (20, 0, 0) 10 ≤ 100000) (hm : (0 ≤ m ∧ m < I (20, 0, 0) 10)) (hno : (∀ s, 0 ≤ s → s < 12 → (¬ I (30, 0, 0) s = -1 ∧ I (31, 0, 0) s = 1 ∧ I (30, 0, 0) s ≤ m) → ¬ gz_usM I s)) {o3 o4 : Option Value} : gz_V l D α cA RX5 cX5_back (some .int) 5 4 (gz_Qi fun x I' => (¬ (0 ≤ m ∧ m < I (20, 0, 0) 10) ∧ x = -2 ∧ I = I' ∨ (0 ≤ m ∧ m < I (20, 0, 0) 10) ∧ x = -1 ∧ (∀ s, 0 ≤ s → s < 12 → (¬ I (30, 0, 0) s = -1 ∧ I (31, 0, 0) s = 1 ∧ I (30, 0, 0) s ≤ m) → ¬ gz_usM I s) ∧ I = I' ∨ (0 ≤ m ∧ m < I (20, 0, 0) 10) ∧ ∃ s, (0 ≤ s ∧ s < 12) ∧ ((¬ I (30, 0, 0) s = -1 ∧ I (31, 0, 0) s = 1 ∧ I (30, 0, 0) s ≤ m) ∧ gz_usM I s) ∧ (∀ s', 0 ≤ s' → s' < 12 → (¬ I (30, 0, 0) s' = -1 ∧ I (31, 0, 0) s' = 1 ∧ I (30, 0, 0) s' ≤ m) → gz_usM I s' → I (30, 0, 0) s' ≤ I (30, 0, 0) s) ∧ x = I (30, 0, 0) s ∧ gz_BK I I' s (I (33, 0, 0) s))) I [some (.ref (α (20, 0, 0))), some (gz_i (m)), some (gz_i (-1)), o3, o4] [] 25 := by
  refine gz_iload_n (pc := 25) dX5_back_25 rfl ?_
  refine gz_iconst (pc := 26) dX5_back_26 ?_
  refine gz_icmp_eq (pc := 27) (tgt := 52) dX5_back_27 (by decide) (by omega) (by omega) (fun h27 => ?_) (fun h27 => ?_)
  · refine gz_iload_n (pc := 52) dX5_back_52 rfl ?_
    refine gz_iconst (pc := 53) dX5_back_53 ?_
    refine gz_icmp_ne (pc := 54) (tgt := 59) dX5_back_54 (by decide) (by omega) (by omega) (fun h54 => ?_) (fun h54 => ?_)
    · exact absurd rfl h54
    · refine gz_iconst (pc := 57) dX5_back_57 ?_
      refine gz_iret (pc := 58) dX5_back_58 rfl ?_
      exact Or.inr (Or.inl ⟨hm, rfl, hno, rfl⟩)
  · exact absurd rfl h27
set_option maxHeartbeats 4000000 in
set_option maxRecDepth 100000 in
theorem lp_X5_back1 (l : Launch) (D : va_G) (α : gz_P → Nat) (cA : Nat → ClassId) {I : gz_M} (hT : gz_T I) {m : Int} (r_m : (-2147483648 ≤ m ∧ m ≤ 2147483647)) (hkt : ∀ s, 0 ≤ s → s < 12 → ¬ I (30, 0, 0) s = -1 → I (31, 0, 0) s = 1 → 1 ≤ I (33, 0, 0) s ∧ ∀ t, 0 ≤ t → t < I (33, 0, 0) s → gz_sm (fun m => I (24, 0, 0) (gz_lM I s t m)) (gz_LS I s t) ≤ 300) (hnn : ∀ s, 0 ≤ s → s < 12 → -1 ≤ I (30, 0, 0) s) (hdis : (∀ s s', 0 ≤ s → s < 12 → 0 ≤ s' → s' < 12 → I (30, 0, 0) s = I (30, 0, 0) s' → 0 ≤ I (30, 0, 0) s → s = s')) (hnx : 0 ≤ I (20, 0, 0) 10 ∧ I (20, 0, 0) 10 ≤ 100000) : (0 ≤ m ∧ m < I (20, 0, 0) 10) → ∀ h, -1 ≤ h → ∀ x, (0 ≤ x ∧ x < 12) → I (30, 0, 0) x = h → ((¬ I (30, 0, 0) x = -1 ∧ I (31, 0, 0) x = 1 ∧ I (30, 0, 0) x ≤ m) ∧ ∀ s, 0 ≤ s → s < 12 → (¬ I (30, 0, 0) s = -1 ∧ I (31, 0, 0) s = 1 ∧ I (30, 0, 0) s ≤ m) → I (30, 0, 0) x < I (30, 0, 0) s → ¬ gz_usM I s) → ∀ o3 o4 : Option Value, gz_V l D α cA RX5 cX5_back (some .int) 5 4 (gz_Qi fun x I' => (¬ (0 ≤ m ∧ m < I (20, 0, 0) 10) ∧ x = -2 ∧ I = I' ∨ (0 ≤ m ∧ m < I (20, 0, 0) 10) ∧ x = -1 ∧ (∀ s, 0 ≤ s → s < 12 → (¬ I (30, 0, 0) s = -1 ∧ I (31, 0, 0) s = 1 ∧ I (30, 0, 0) s ≤ m) → ¬ gz_usM I s) ∧ I = I' ∨ (0 ≤ m ∧ m < I (20, 0, 0) 10) ∧ ∃ s, (0 ≤ s ∧ s < 12) ∧ ((¬ I (30, 0, 0) s = -1 ∧ I (31, 0, 0) s = 1 ∧ I (30, 0, 0) s ≤ m) ∧ gz_usM I s) ∧ (∀ s', 0 ≤ s' → s' < 12 → (¬ I (30, 0, 0) s' = -1 ∧ I (31, 0, 0) s' = 1 ∧ I (30, 0, 0) s' ≤ m) → gz_usM I s' → I (30, 0, 0) s' ≤ I (30, 0, 0) s) ∧ x = I (30, 0, 0) s ∧ gz_BK I I' s (I (33, 0, 0) s))) I [some (.ref (α (20, 0, 0))), some (gz_i (m)), some (gz_i (x)), o3, o4] [] 25 := by
  intro hm
  refine gz_downto _ ?_
  intro h hh ih x hxr hxh hx o3 o4
  refine gz_iload_n (pc := 25) dX5_back_25 rfl ?_
  refine gz_iconst (pc := 26) dX5_back_26 ?_
  refine gz_icmp_eq (pc := 27) (tgt := 52) dX5_back_27 (by decide) (by omega) (by omega) (fun h27 => ?_) (fun h27 => ?_)
  · refine gz_iload_n (pc := 52) dX5_back_52 rfl ?_
    refine gz_iconst (pc := 53) dX5_back_53 ?_
    refine gz_icmp_ne (pc := 54) (tgt := 59) dX5_back_54 (by decide) (by omega) (by omega) (fun h54 => ?_) (fun h54 => ?_)
    · first | refine gz_aload_n (pc := 59) dX5_back_59 rfl ?_ | refine gz_aload_nN (pc := 59) dX5_back_59 rfl ?_
      first | refine gz_aload_n (pc := 60) dX5_back_60 rfl ?_ | refine gz_aload_nN (pc := 60) dX5_back_60 rfl ?_
      refine gz_getr (pc := 61) dX5_back_61 fl_X5_51 rfl rfl rfl (by first | exact gz_B1 | (omega)) ?_
      refine gz_iload_n (pc := 64) dX5_back_64 rfl ?_
      refine gz_iald (pc := 65) dX5_back_65 rfl rfl (by first | exact gz_B1 | (omega)) (by omega) ?_
      refine gz_cV1v (pc := 66) dX5_back_66 wm_X5_86 my_X5_become rfl rfl rfl (by first | exact gz_B1 | (omega)) (ct_X5_become l D α cA hT (by have h9 := hkt x hxr.1 hxr.2 hx.1.1 hx.1.2.1; have := gz_t33 hT 0 0 x; omega)) (fun I66 h66 => ?_)
      refine gz_iconst (pc := 69) dX5_back_69 ?_
      refine gz_istore_n (pc := 70) dX5_back_70 rfl rfl rfl ?_
      have hus := gz_b_t (P := gz_usM I x) (by omega)
      obtain ⟨k1, k2⟩ := hkt x hxr.1 hxr.2 hx.1.1 hx.1.2.1
      have hB : gz_BK I I66 x 0 := by
        obtain ⟨c1, c2, c3, c4, c5, c6⟩ := h66
        refine ⟨⟨c1, c2, c3, fun q q1 q2 q3 q4 q5 => c6 q q1 q2 q4⟩, fun u b1 b2 => by omega, fun u b1 b2 => ⟨c4 u b1 b2, fun q d1 d2 => ?_, fun i d1 d2 => ?_, fun i d1 d2 => ?_⟩⟩
        · show I66 (28, 0, 0) (120 * u + q) = _
          rw [c5 _ (by omega) (by omega)]
          by_cases z : I (33, 0, 0) x ≤ u
          · rw [if_pos z, if_pos (by omega)]
          · rw [if_neg z, if_neg (by omega)]
        · show I66 (29, 0, 0) _ = _
          rw [c6 _ (gz_ne rfl) (gz_ne rfl) (gz_ne rfl)]
        · show I66 (22, 0, 0) _ = _
          rw [c6 _ (gz_ne rfl) (gz_ne rfl) (gz_ne rfl)]; rfl
      exact lp_X5_back2 l D α cA hT hxr k1 (fun t b1 b2 j b3 b4 => (hus t b1 b2 j b3 b4).1.1) k2 (fun I' h9 => Or.inr (Or.inr ⟨hm, x, hxr, ⟨hx.1, hus⟩, fun s' d1 d2 d3 d4 => Int.not_lt.mp (fun hlt => hx.2 s' d1 d2 d3 hlt d4), rfl, h9⟩)) 0 (by omega) I66 (by omega) hB _
    · refine gz_iconst (pc := 57) dX5_back_57 ?_
      refine gz_iret (pc := 58) dX5_back_58 rfl ?_
      first | omega | exact absurd h54 (by omega) | exact absurd h27 (by omega)
  · first | refine gz_aload_n (pc := 30) dX5_back_30 rfl ?_ | refine gz_aload_nN (pc := 30) dX5_back_30 rfl ?_
    refine gz_iload_n (pc := 31) dX5_back_31 rfl ?_
    refine gz_cV1i (pc := 32) dX5_back_32 wm_X5_143 my_X5_isUsable rfl rfl rfl (by first | exact gz_B1 | (omega)) (ct_X5_isUsable l D α cA hT hxr) (fun x32 I32 h32 => ?_)
    obtain ⟨rfl, rfl⟩ := h32
    have hbb := gz_b_01 (gz_usM I x)
    refine gz_if_ne (pc := 35) (tgt := 52) dX5_back_35 (by decide) (by omega) (fun h35 => ?_) (fun h35 => ?_)
    · refine gz_iload_n (pc := 52) dX5_back_52 rfl ?_
      refine gz_iconst (pc := 53) dX5_back_53 ?_
      refine gz_icmp_ne (pc := 54) (tgt := 59) dX5_back_54 (by decide) (by omega) (by omega) (fun h54 => ?_) (fun h54 => ?_)
      · first | refine gz_aload_n (pc := 59) dX5_back_59 rfl ?_ | refine gz_aload_nN (pc := 59) dX5_back_59 rfl ?_
        first | refine gz_aload_n (pc := 60) dX5_back_60 rfl ?_ | refine gz_aload_nN (pc := 60) dX5_back_60 rfl ?_
        refine gz_getr (pc := 61) dX5_back_61 fl_X5_51 rfl rfl rfl (by first | exact gz_B1 | (omega)) ?_
        refine gz_iload_n (pc := 64) dX5_back_64 rfl ?_
        refine gz_iald (pc := 65) dX5_back_65 rfl rfl (by first | exact gz_B1 | (omega)) (by omega) ?_
        refine gz_cV1v (pc := 66) dX5_back_66 wm_X5_86 my_X5_become rfl rfl rfl (by first | exact gz_B1 | (omega)) (ct_X5_become l D α cA hT (by have h9 := hkt x hxr.1 hxr.2 hx.1.1 hx.1.2.1; have := gz_t33 hT 0 0 x; omega)) (fun I66 h66 => ?_)
        refine gz_iconst (pc := 69) dX5_back_69 ?_
        refine gz_istore_n (pc := 70) dX5_back_70 rfl rfl rfl ?_
        have hus := gz_b_t (P := gz_usM I x) (by omega)
        obtain ⟨k1, k2⟩ := hkt x hxr.1 hxr.2 hx.1.1 hx.1.2.1
        have hB : gz_BK I I66 x 0 := by
          obtain ⟨c1, c2, c3, c4, c5, c6⟩ := h66
          refine ⟨⟨c1, c2, c3, fun q q1 q2 q3 q4 q5 => c6 q q1 q2 q4⟩, fun u b1 b2 => by omega, fun u b1 b2 => ⟨c4 u b1 b2, fun q d1 d2 => ?_, fun i d1 d2 => ?_, fun i d1 d2 => ?_⟩⟩
          · show I66 (28, 0, 0) (120 * u + q) = _
            rw [c5 _ (by omega) (by omega)]
            by_cases z : I (33, 0, 0) x ≤ u
            · rw [if_pos z, if_pos (by omega)]
            · rw [if_neg z, if_neg (by omega)]
          · show I66 (29, 0, 0) _ = _
            rw [c6 _ (gz_ne rfl) (gz_ne rfl) (gz_ne rfl)]
          · show I66 (22, 0, 0) _ = _
            rw [c6 _ (gz_ne rfl) (gz_ne rfl) (gz_ne rfl)]; rfl
        exact lp_X5_back2 l D α cA hT hxr k1 (fun t b1 b2 j b3 b4 => (hus t b1 b2 j b3 b4).1.1) k2 (fun I' h9 => Or.inr (Or.inr ⟨hm, x, hxr, ⟨hx.1, hus⟩, fun s' d1 d2 d3 d4 => Int.not_lt.mp (fun hlt => hx.2 s' d1 d2 d3 hlt d4), rfl, h9⟩)) 0 (by omega) I66 (by omega) hB _
      · refine gz_iconst (pc := 57) dX5_back_57 ?_
        refine gz_iret (pc := 58) dX5_back_58 rfl ?_
        first | omega | exact absurd h54 (by omega) | exact absurd h27 (by omega)
    · first | refine gz_aload_n (pc := 38) dX5_back_38 rfl ?_ | refine gz_aload_nN (pc := 38) dX5_back_38 rfl ?_
      first | refine gz_aload_n (pc := 39) dX5_back_39 rfl ?_ | refine gz_aload_nN (pc := 39) dX5_back_39 rfl ?_
      refine gz_getr (pc := 40) dX5_back_40 fl_X5_42 rfl rfl rfl (by first | exact gz_B1 | (omega)) ?_
      refine gz_iload_n (pc := 43) dX5_back_43 rfl ?_
      refine gz_iald (pc := 44) dX5_back_44 rfl rfl (by first | exact gz_B1 | (omega)) (by omega) ?_
      refine gz_cV1i (pc := 45) dX5_back_45 wm_X5_131 my_X5_latest rfl rfl rfl (by first | exact gz_B1 | (omega)) (ct_X5_latest l D α cA hT (gz_t30 hT 0 0 x)) (fun x45 I45 h45 => ?_)
      obtain ⟨rfl, hy⟩ := h45
      refine gz_istore_n (pc := 48) dX5_back_48 rfl rfl rfl ?_
      refine gz_goto (pc := 49) (tgt := 25) dX5_back_49 (by decide) ?_
      have hnu := gz_b_f h35
      have hgo : ∀ s, 0 ≤ s → s < 12 → (¬ I (30, 0, 0) s = -1 ∧ I (31, 0, 0) s = 1 ∧ I (30, 0, 0) s ≤ m) → I (30, 0, 0) x ≤ I (30, 0, 0) s → ¬ gz_usM I s := fun s d1 d2 d3 d4 => by
        by_cases e : I (30, 0, 0) s = I (30, 0, 0) x
        · rw [hdis s x d1 d2 hxr.1 hxr.2 e (by have := hnn s d1 d2; have := d3.1; omega)]; exact hnu
        · exact hx.2 s d1 d2 d3 (by omega)
      rcases hy with ⟨rfl, hy⟩ | ⟨hyr, hyc, hym⟩
      · exact lp_X5_back0 l D α cA hT r_m hkt hnn hdis hnx hm (fun s d1 d2 d3 => by
          by_cases e : I (30, 0, 0) s < I (30, 0, 0) x
          · exact absurd ⟨d3.1, d3.2.1, e⟩ (hy s d1 d2)
          · exact hgo s d1 d2 d3 (by omega))
      · refine ih (I (30, 0, 0) x45) (by omega) (hnn _ hyr.1 hyr.2) x45 hyr rfl ⟨⟨hyc.1, hyc.2.1, by have := hx.1.2.2; omega⟩, fun s d1 d2 d3 d4 => ?_⟩ _ _
        by_cases e : I (30, 0, 0) s < I (30, 0, 0) x
        · have := hym s d1 d2 ⟨d3.1, d3.2.1, e⟩; omega
        · exact hgo s d1 d2 d3 (by omega)
set_option maxHeartbeats 4000000 in
set_option maxRecDepth 100000 in
theorem ct_X5_back (l : Launch) (D : va_G) (α : gz_P → Nat) (cA : Nat → ClassId) {I : gz_M} (hT : gz_T I) {m : Int} (r_m : (-2147483648 ≤ m ∧ m ≤ 2147483647)) (hkt : ∀ s, 0 ≤ s → s < 12 → ¬ I (30, 0, 0) s = -1 → I (31, 0, 0) s = 1 → 1 ≤ I (33, 0, 0) s ∧ ∀ t, 0 ≤ t → t < I (33, 0, 0) s → gz_sm (fun m => I (24, 0, 0) (gz_lM I s t m)) (gz_LS I s t) ≤ 300) (hnn : ∀ s, 0 ≤ s → s < 12 → -1 ≤ I (30, 0, 0) s) (hdis : (∀ s s', 0 ≤ s → s < 12 → 0 ≤ s' → s' < 12 → I (30, 0, 0) s = I (30, 0, 0) s' → 0 ≤ I (30, 0, 0) s → s = s')) (hnx : 0 ≤ I (20, 0, 0) 10 ∧ I (20, 0, 0) 10 ≤ 100000) : gz_V l D α cA RX5 cX5_back (some .int) 5 4 (gz_Qi fun x I' => (¬ (0 ≤ m ∧ m < I (20, 0, 0) 10) ∧ x = -2 ∧ I = I' ∨ (0 ≤ m ∧ m < I (20, 0, 0) 10) ∧ x = -1 ∧ (∀ s, 0 ≤ s → s < 12 → (¬ I (30, 0, 0) s = -1 ∧ I (31, 0, 0) s = 1 ∧ I (30, 0, 0) s ≤ m) → ¬ gz_usM I s) ∧ I = I' ∨ (0 ≤ m ∧ m < I (20, 0, 0) 10) ∧ ∃ s, (0 ≤ s ∧ s < 12) ∧ ((¬ I (30, 0, 0) s = -1 ∧ I (31, 0, 0) s = 1 ∧ I (30, 0, 0) s ≤ m) ∧ gz_usM I s) ∧ (∀ s', 0 ≤ s' → s' < 12 → (¬ I (30, 0, 0) s' = -1 ∧ I (31, 0, 0) s' = 1 ∧ I (30, 0, 0) s' ≤ m) → gz_usM I s' → I (30, 0, 0) s' ≤ I (30, 0, 0) s) ∧ x = I (30, 0, 0) s ∧ gz_BK I I' s (I (33, 0, 0) s))) I [some (.ref (α (20, 0, 0))), some (gz_i (m)), none, none, none] [] 0 := by
  have en := gz_tM10 hT 0 0
  refine gz_iload_n (pc := 0) dX5_back_0 rfl ?_
  refine gz_iconst (pc := 1) dX5_back_1 ?_
  first | refine gz_aload_n (pc := 2) dX5_back_2 rfl ?_ | refine gz_aload_nN (pc := 2) dX5_back_2 rfl ?_
  refine gz_getI (pc := 3) 10 dX5_back_3 fl_X5_128 rfl rfl rfl rfl (by first | exact gz_B1 | (omega)) ?_
  refine gz_iconst (pc := 6) dX5_back_6 ?_
  refine gz_isub (pc := 7) dX5_back_7 ?_
  refine gz_cS3i (pc := 8) dX5_back_8 wm_X5_72 my_X5_in rfl rfl (ct_X5_in l D α cA r_m (by omega) (by omega)) (fun x8 I8 h8 => ?_)
  obtain ⟨rfl, hx8⟩ := h8
  have hxr8 : 0 ≤ x8 ∧ x8 ≤ 1 := by rcases hx8 with h | h <;> omega
  refine gz_if_ne (pc := 11) (tgt := 17) dX5_back_11 (by decide) (by omega) (fun h11 => ?_) (fun h11 => ?_)
  · first | refine gz_aload_n (pc := 17) dX5_back_17 rfl ?_ | refine gz_aload_nN (pc := 17) dX5_back_17 rfl ?_
    refine gz_iload_n (pc := 18) dX5_back_18 rfl ?_
    refine gz_iconst (pc := 19) dX5_back_19 ?_
    refine gz_iadd (pc := 20) dX5_back_20 ?_
    refine gz_cV1i (pc := 21) dX5_back_21 wm_X5_131 my_X5_latest rfl rfl rfl (by first | exact gz_B1 | (omega)) (ct_X5_latest l D α cA hT (by omega)) (fun x21 I21 h21 => ?_)
    obtain ⟨rfl, hy⟩ := h21
    refine gz_istore_n (pc := 24) dX5_back_24 rfl rfl rfl ?_
    have hm : (0 ≤ m ∧ m < I (20, 0, 0) 10) := by omega
    rcases hy with ⟨rfl, hy⟩ | ⟨hyr, hyc, hym⟩
    · exact lp_X5_back0 l D α cA hT r_m hkt hnn hdis hnx hm (fun s d1 d2 d3 => absurd ⟨d3.1, d3.2.1, by have := d3.2.2; omega⟩ (hy s d1 d2))
    · refine lp_X5_back1 l D α cA hT r_m hkt hnn hdis hnx hm (I (30, 0, 0) x21) (hnn _ hyr.1 hyr.2) x21 hyr rfl ⟨⟨hyc.1, hyc.2.1, by have := hyc.2.2; omega⟩, fun s d1 d2 d3 d4 => ?_⟩ _ _
      have := hym s d1 d2 ⟨d3.1, d3.2.1, by have := d3.2.2; omega⟩
      omega
  · refine gz_bipush (pc := 14) dX5_back_14 rfl ?_
    refine gz_iret (pc := 16) dX5_back_16 rfl ?_
    exact Or.inl ⟨by omega, rfl, rfl⟩
