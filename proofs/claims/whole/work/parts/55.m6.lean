abbrev gz_FM (I : gz_M) : Int → Int → Int := fun t => gz_fm I t
abbrev gz_ZM (I : gz_M) : Int → Int := fun t => I (21, 0, 0) t
/-- a marking of slot s changes nothing else -/
def gz_Mf (I0 I : gz_M) (s : Int) : Prop := (∀ q : gz_P, q ≠ (24, 0, 0) → q ≠ (25, 0, 0) → q ≠ (26, 0, 0) → q ≠ (27, 0, 0) → q ≠ (39, 0, 0) → q ≠ (34, 0, 0) → q ≠ (35, 0, 0) → I q = I0 q) ∧ (∀ j, ¬ (4 * s ≤ j ∧ j < 4 * s + 4) → I (34, 0, 0) j = I0 (34, 0, 0) j) ∧ (∀ j, ¬ (320 * s ≤ j ∧ j < 320 * s + 320) → I (35, 0, 0) j = I0 (35, 0, 0) j)
def gz_NI (I0 I : gz_M) : Prop := ∀ p, 0 ≤ p → p < 120 → (I (39, 0, 0) p = 1 ∧ I0 (24, 0, 0) p = 0 ∨ I (39, 0, 0) p = 0 ∧ I (24, 0, 0) p = I0 (24, 0, 0) p ∧ I (25, 0, 0) p = I0 (25, 0, 0) p ∧ I (26, 0, 0) p = I0 (26, 0, 0) p ∧ ∀ i, 0 ≤ i → i < 32 → I (27, 0, 0) (32 * p + i) = I0 (27, 0, 0) (32 * p + i))
def gz_Ml (I0 I : gz_M) (s u : Int) : Prop := I (34, 0, 0) (4 * s + u) = (gz_cc (gz_FM I0 u) (gz_ZM I0 u) : Nat) ∧ ∀ j : Nat, j < gz_cc (gz_FM I0 u) (gz_ZM I0 u) → I (35, 0, 0) (80 * (4 * s + u) + j) = gz_fp (gz_FM I0 u) (gz_ZM I0 u) (gz_ft (gz_FM I0) (gz_ZM I0) (gz_aM I0) u.toNat) j
theorem gz_NI_NW {I0 I I' : gz_M} {f : Int → Int} {n x : Int} (h : gz_NI I0 I) (hn : 0 < n ∧ n ≤ 32) (hx : 0 ≤ x ∧ x < 120) (hz : I (24, 0, 0) x = 0) (hw : gz_NW I I' f n x) : gz_NI I0 I' := by
  obtain ⟨h1, h2, h3, h4, h5, -⟩ := hw
  intro p a1 a2
  have h9 := h p a1 a2
  by_cases e : p = x
  · left
    rw [h4, if_pos e]
    refine ⟨rfl, ?_⟩
    rcases h9 with h9 | h9
    · exact h9.2
    · rw [← h9.2.1, e]; exact hz
  · rw [h1, h2, h3, h4, if_neg e, if_neg e, if_neg e, if_neg e]
    rcases h9 with h9 | h9
    · exact Or.inl h9
    · refine Or.inr ⟨h9.1, h9.2.1, h9.2.2.1, h9.2.2.2.1, fun i b1 b2 => ?_⟩
      rw [h5, if_neg (by omega)]
      exact h9.2.2.2.2 i b1 b2
theorem gz_aM_eq {I I0 : gz_M} (h24 : ∀ p, 0 ≤ p → p < 120 → I (24, 0, 0) p = I0 (24, 0, 0) p) (h : ∀ p, 0 ≤ p → p < 120 → 0 < I0 (24, 0, 0) p → I (25, 0, 0) p = I0 (25, 0, 0) p ∧ I (26, 0, 0) p = I0 (26, 0, 0) p ∧ ∀ i, 0 ≤ i → i < I0 (24, 0, 0) p → I (27, 0, 0) (32 * p + i) = I0 (27, 0, 0) (32 * p + i)) : gz_aM I = gz_aM I0 := by
  funext c p i
  unfold gz_aM
  by_cases hp : 0 ≤ p ∧ p < 120
  · have e1 := h24 p hp.1 hp.2
    match c with
    | 0 =>
      show (if 0 ≤ p ∧ p < 120 then I (24, 0, 0) p else 0) = if 0 ≤ p ∧ p < 120 then I0 (24, 0, 0) p else 0
      rw [e1]
    | 1 =>
      show (if (0 ≤ p ∧ p < 120) ∧ 0 < I (24, 0, 0) p then I (25, 0, 0) p else 0) = if (0 ≤ p ∧ p < 120) ∧ 0 < I0 (24, 0, 0) p then I0 (25, 0, 0) p else 0
      rw [e1]
      by_cases hz : (0 ≤ p ∧ p < 120) ∧ 0 < I0 (24, 0, 0) p
      · rw [if_pos hz, if_pos hz]
        exact (h p hp.1 hp.2 hz.2).1
      · rw [if_neg hz, if_neg hz]
    | 2 =>
      show (if (0 ≤ p ∧ p < 120) ∧ 0 < I (24, 0, 0) p then 1 - I (26, 0, 0) p else 0) = if (0 ≤ p ∧ p < 120) ∧ 0 < I0 (24, 0, 0) p then 1 - I0 (26, 0, 0) p else 0
      rw [e1]
      by_cases hz : (0 ≤ p ∧ p < 120) ∧ 0 < I0 (24, 0, 0) p
      · rw [if_pos hz, if_pos hz, (h p hp.1 hp.2 hz.2).2.1]
      · rw [if_neg hz, if_neg hz]
    | 3 =>
      show (if (0 ≤ p ∧ p < 120) ∧ 0 ≤ i ∧ i < I (24, 0, 0) p then I (27, 0, 0) (32 * p + i) else 0) = if (0 ≤ p ∧ p < 120) ∧ 0 ≤ i ∧ i < I0 (24, 0, 0) p then I0 (27, 0, 0) (32 * p + i) else 0
      rw [e1]
      by_cases hz : (0 ≤ p ∧ p < 120) ∧ 0 ≤ i ∧ i < I0 (24, 0, 0) p
      · rw [if_pos hz, if_pos hz]
        exact (h p hp.1 hp.2 (by omega)).2.2 i hz.2.1 hz.2.2
      · rw [if_neg hz, if_neg hz]
    | c + 4 => rfl
  · match c with
    | 0 =>
      show (if 0 ≤ p ∧ p < 120 then I (24, 0, 0) p else 0) = if 0 ≤ p ∧ p < 120 then I0 (24, 0, 0) p else 0
      rw [if_neg hp, if_neg hp]
    | 1 =>
      show (if (0 ≤ p ∧ p < 120) ∧ 0 < I (24, 0, 0) p then I (25, 0, 0) p else 0) = if (0 ≤ p ∧ p < 120) ∧ 0 < I0 (24, 0, 0) p then I0 (25, 0, 0) p else 0
      rw [if_neg (fun z => hp z.1), if_neg (fun z => hp z.1)]
    | 2 =>
      show (if (0 ≤ p ∧ p < 120) ∧ 0 < I (24, 0, 0) p then 1 - I (26, 0, 0) p else 0) = if (0 ≤ p ∧ p < 120) ∧ 0 < I0 (24, 0, 0) p then 1 - I0 (26, 0, 0) p else 0
      rw [if_neg (fun z => hp z.1), if_neg (fun z => hp z.1)]
    | 3 =>
      show (if (0 ≤ p ∧ p < 120) ∧ 0 ≤ i ∧ i < I (24, 0, 0) p then I (27, 0, 0) (32 * p + i) else 0) = if (0 ≤ p ∧ p < 120) ∧ 0 ≤ i ∧ i < I0 (24, 0, 0) p then I0 (27, 0, 0) (32 * p + i) else 0
      rw [if_neg (fun z => hp z.1), if_neg (fun z => hp z.1)]
    | c + 4 => rfl
/-- the copies of a marking -/
def gz_CPu (I2 I : gz_M) (s u : Int) (n : Nat) : Prop := (∀ p, 0 ≤ p → p < 120 → I (28, 0, 0) (120 * u + p) = gz_hw (gz_lM I2 s u) (fun p => I2 (28, 0, 0) (120 * u + p)) n p) ∧ (∀ i, 0 ≤ i → i < 3840 → I (29, 0, 0) (3840 * u + i) = gz_cw (gz_lM I2 s u) (I2 (24, 0, 0)) (gz_fm I2 u) (fun i => I2 (29, 0, 0) (3840 * u + i)) n i)
def gz_CI (I2 I : gz_M) (s t : Int) : Prop := gz_T I ∧ (∀ u, 0 ≤ u → u < t → gz_CPu I2 I s u (I2 (34, 0, 0) (4 * s + u)).toNat) ∧ (∀ j, 120 * t ≤ j → I (28, 0, 0) j = I2 (28, 0, 0) j) ∧ (∀ j, 3840 * t ≤ j → I (29, 0, 0) j = I2 (29, 0, 0) j) ∧ ∀ q : gz_P, q ≠ (28, 0, 0) → q ≠ (29, 0, 0) → I q = I2 q
set_option maxHeartbeats 4000000 in
set_option maxRecDepth 100000 in
theorem lp_X5_markC3 (l : Launch) (D : va_G) (α : gz_P → Nat) (cA : Nat → ClassId) {I2 : gz_M} (hT2 : gz_T I2) {s : Int} (hs : 0 ≤ s ∧ s < 12) (hl : ∀ t, 0 ≤ t → t < I2 (20, 0, 0) 0 → ∀ j, 0 ≤ j → j < I2 (34, 0, 0) (4 * s + t) → 0 ≤ I2 (35, 0, 0) (80 * (4 * s + t) + j)) (hsum : ∀ t, 0 ≤ t → t < I2 (20, 0, 0) 0 → gz_sm (fun m => I2 (24, 0, 0) (gz_lM I2 s t m)) (I2 (34, 0, 0) (4 * s + t)).toNat ≤ 300) {P : Int → gz_M → Prop} (hP : ∀ I' : gz_M, gz_CI I2 I' s (I2 (20, 0, 0) 0) → P (I2 (30, 0, 0) s) I') {w a1 a2 : Option Value} {v5 : Int} : ∀ (K : gz_M) (t at_ k p : Int), (0 ≤ t ∧ t < 4) → (0 ≤ p ∧ p < 120) → (0 ≤ at_ ∧ at_ + I2 (24, 0, 0) p ≤ 300) → (∀ q : gz_P, q ≠ (28, 0, 0) → q ≠ (29, 0, 0) → K q = I2 q) → (∀ I : gz_M, gz_T I → (∀ j, I (29, 0, 0) j = if 32 * (120 * t + p) ≤ j ∧ j < 32 * (120 * t + p) + I2 (24, 0, 0) p then I2 (22, 0, 0) (300 * t + at_ + (j - 32 * (120 * t + p))) else K (29, 0, 0) j) → (∀ q : gz_P, q ≠ (29, 0, 0) → I q = K q) → ∀ o9 o10 : Option Value, gz_V l D α cA RX5 cX5_mark (some .int) 11 6 (gz_Qi P) I [some (.ref (α (20, 0, 0))), w, some (gz_i (s)), a1, a2, some (gz_i (v5)), some (gz_i (t)), some (gz_i (at_ + I2 (24, 0, 0) p)), some (gz_i (k + 1)), o9, o10] [] 447) → ∀ i, i ≤ I2 (24, 0, 0) p → ∀ I : gz_M, 0 ≤ i → gz_T I → (∀ j, I (29, 0, 0) j = if 32 * (120 * t + p) ≤ j ∧ j < 32 * (120 * t + p) + i then I2 (22, 0, 0) (300 * t + at_ + (j - 32 * (120 * t + p))) else K (29, 0, 0) j) → (∀ q : gz_P, q ≠ (29, 0, 0) → I q = K q) → gz_V l D α cA RX5 cX5_mark (some .int) 11 6 (gz_Qi P) I [some (.ref (α (20, 0, 0))), w, some (gz_i (s)), a1, a2, some (gz_i (v5)), some (gz_i (t)), some (gz_i (at_)), some (gz_i (k)), some (gz_i (p)), some (gz_i (i))] [] 499 := by
  intro K t at_ k p ht hp hat hK kk
  have e0 := gz_t24 hT2 0 0 p
  refine gz_upto _ ?_
  intro i hi ih I h0 hTI h29 hI
  have e1 := gz_t22 hT2 0 0 (300 * t + at_ + i)
  have r24 : I (24, 0, 0) p = I2 (24, 0, 0) p := by rw [hI _ (gz_ne rfl), hK _ (gz_ne rfl) (gz_ne rfl)]
  have r22 : I (22, 0, 0) (300 * t + at_ + i) = I2 (22, 0, 0) (300 * t + at_ + i) := by rw [hI _ (gz_ne rfl), hK _ (gz_ne rfl) (gz_ne rfl)]
  refine gz_iload (pc := 499) dX5_mark_499 rfl ?_
  first | refine gz_aload_n (pc := 501) dX5_mark_501 rfl ?_ | refine gz_aload_nN (pc := 501) dX5_mark_501 rfl ?_
  refine gz_getr (pc := 502) dX5_mark_502 fl_X5_23 rfl rfl rfl (by first | exact gz_B1 | (omega)) ?_
  refine gz_iload (pc := 505) dX5_mark_505 rfl ?_
  refine gz_iald (pc := 507) dX5_mark_507 rfl rfl (by first | exact gz_B1 | (omega)) (by omega) ?_
  rw [r24]
  refine gz_icmp_ge (pc := 508) (tgt := 553) dX5_mark_508 (by decide) (by omega) (by omega) (fun h508 => ?_) (fun h508 => ?_)
  · refine gz_iload (pc := 553) dX5_mark_553 rfl ?_
    first | refine gz_aload_n (pc := 555) dX5_mark_555 rfl ?_ | refine gz_aload_nN (pc := 555) dX5_mark_555 rfl ?_
    refine gz_getr (pc := 556) dX5_mark_556 fl_X5_23 rfl rfl rfl (by first | exact gz_B1 | (omega)) ?_
    refine gz_iload (pc := 559) dX5_mark_559 rfl ?_
    refine gz_iald (pc := 561) dX5_mark_561 rfl rfl (by first | exact gz_B1 | (omega)) (by omega) ?_
    rw [r24]
    refine gz_iadd (pc := 562) dX5_mark_562 ?_
    refine gz_istore (pc := 563) dX5_mark_563 rfl rfl rfl ?_
    refine gz_iinc (pc := 565) dX5_mark_565 rfl rfl rfl rfl ?_
    refine gz_goto (pc := 568) (tgt := 447) dX5_mark_568 (by decide) ?_
    rw [show i = I2 (24, 0, 0) p by omega] at h29
    exact kk I hTI h29 hI _ _
  · first | refine gz_aload_n (pc := 511) dX5_mark_511 rfl ?_ | refine gz_aload_nN (pc := 511) dX5_mark_511 rfl ?_
    refine gz_getr (pc := 512) dX5_mark_512 fl_X5_39 rfl rfl rfl (by first | exact gz_B1 | (omega)) ?_
    refine gz_bipush (pc := 515) dX5_mark_515 rfl ?_
    refine gz_bipush (pc := 517) dX5_mark_517 rfl ?_
    refine gz_iload (pc := 519) dX5_mark_519 rfl ?_
    refine gz_imul (pc := 521) dX5_mark_521 ?_
    refine gz_iload (pc := 522) dX5_mark_522 rfl ?_
    refine gz_iadd (pc := 524) dX5_mark_524 ?_
    refine gz_imul (pc := 525) dX5_mark_525 ?_
    refine gz_iload (pc := 526) dX5_mark_526 rfl ?_
    refine gz_iadd (pc := 528) dX5_mark_528 ?_
    first | refine gz_aload_n (pc := 529) dX5_mark_529 rfl ?_ | refine gz_aload_nN (pc := 529) dX5_mark_529 rfl ?_
    refine gz_getr (pc := 530) dX5_mark_530 fl_X5_17 rfl rfl rfl (by first | exact gz_B1 | (omega)) ?_
    refine gz_sipush (pc := 533) dX5_mark_533 rfl ?_
    refine gz_iload (pc := 536) dX5_mark_536 rfl ?_
    refine gz_imul (pc := 538) dX5_mark_538 ?_
    refine gz_iload (pc := 539) dX5_mark_539 rfl ?_
    refine gz_iadd (pc := 541) dX5_mark_541 ?_
    refine gz_iload (pc := 542) dX5_mark_542 rfl ?_
    refine gz_iadd (pc := 544) dX5_mark_544 ?_
    refine gz_iald (pc := 545) dX5_mark_545 rfl rfl (by first | exact gz_B1 | (omega)) (by omega) ?_
    rw [r22]
    refine gz_iast (pc := 546) dX5_mark_546 rfl rfl (by first | exact gz_B1 | (omega)) (by omega) ?_
    refine gz_iinc (pc := 547) dX5_mark_547 rfl rfl rfl rfl ?_
    refine gz_goto (pc := 550) (tgt := 499) dX5_mark_550 (by decide) ?_
    refine ih (i + 1) (by omega) (by omega) _ (by omega) (gz_Tu29 hTI (by omega)) (fun j => ?_) (fun q hq => by rw [gz_up_ne hq]; exact hI q hq)
    rw [gz_up_eq, h29 j]
    by_cases z : j = 32 * (120 * t + p) + i
    · rw [if_pos z, if_pos (by omega), show j - 32 * (120 * t + p) = i by omega]
    · rw [if_neg z]
      by_cases z2 : 32 * (120 * t + p) ≤ j ∧ j < 32 * (120 * t + p) + i
      · rw [if_pos z2, if_pos (by omega)]
      · rw [if_neg z2, if_neg (by omega)]
set_option maxHeartbeats 4000000 in
set_option maxRecDepth 100000 in
theorem lp_X5_markC2 (l : Launch) (D : va_G) (α : gz_P → Nat) (cA : Nat → ClassId) {I2 : gz_M} (hT2 : gz_T I2) {s : Int} (hs : 0 ≤ s ∧ s < 12) (hl : ∀ t, 0 ≤ t → t < I2 (20, 0, 0) 0 → ∀ j, 0 ≤ j → j < I2 (34, 0, 0) (4 * s + t) → 0 ≤ I2 (35, 0, 0) (80 * (4 * s + t) + j)) (hsum : ∀ t, 0 ≤ t → t < I2 (20, 0, 0) 0 → gz_sm (fun m => I2 (24, 0, 0) (gz_lM I2 s t m)) (I2 (34, 0, 0) (4 * s + t)).toNat ≤ 300) {P : Int → gz_M → Prop} (hP : ∀ I' : gz_M, gz_CI I2 I' s (I2 (20, 0, 0) 0) → P (I2 (30, 0, 0) s) I') {w a1 a2 : Option Value} {v5 : Int} : ∀ t, (0 ≤ t ∧ t < I2 (20, 0, 0) 0) → (∀ I : gz_M, gz_CI I2 I s (t + 1) → ∀ o7 o8 o9 o10 : Option Value, gz_V l D α cA RX5 cX5_mark (some .int) 11 6 (gz_Qi P) I [some (.ref (α (20, 0, 0))), w, some (gz_i (s)), a1, a2, some (gz_i (v5)), some (gz_i (t + 1)), o7, o8, o9, o10] [] 432) → ∀ k, k ≤ I2 (34, 0, 0) (4 * s + t) → ∀ I : gz_M, 0 ≤ k → gz_T I → gz_CPu I2 I s t k.toNat → (∀ u, 0 ≤ u → u < t → gz_CPu I2 I s u (I2 (34, 0, 0) (4 * s + u)).toNat) → (∀ j, 120 * (t + 1) ≤ j → I (28, 0, 0) j = I2 (28, 0, 0) j) → (∀ j, 3840 * (t + 1) ≤ j → I (29, 0, 0) j = I2 (29, 0, 0) j) → (∀ q : gz_P, q ≠ (28, 0, 0) → q ≠ (29, 0, 0) → I q = I2 q) → ∀ o9 o10 : Option Value, gz_V l D α cA RX5 cX5_mark (some .int) 11 6 (gz_Qi P) I [some (.ref (α (20, 0, 0))), w, some (gz_i (s)), a1, a2, some (gz_i (v5)), some (gz_i (t)), some (gz_i (gz_sm (fun m => I2 (24, 0, 0) (gz_lM I2 s t m)) k.toNat)), some (gz_i (k)), o9, o10] [] 447 := by
  intro t ht kk
  have e0 := gz_tM0 hT2 0 0
  have e1 := gz_t34 hT2 0 0 (4 * s + t)
  refine gz_upto _ ?_
  intro k hk ih I h0 hTI hcp hj h28 h29 hI o9 o10
  have e5 := gz_t35 hT2 0 0 (80 * (4 * s + t) + k)
  have e6 := gz_t24 hT2 0 0 (I2 (35, 0, 0) (80 * (4 * s + t) + k))
  have r34 : I (34, 0, 0) (4 * s + t) = I2 (34, 0, 0) (4 * s + t) := by rw [hI _ (gz_ne rfl) (gz_ne rfl)]
  have r35 : I (35, 0, 0) (80 * (4 * s + t) + k) = (I2 (35, 0, 0) (80 * (4 * s + t) + k)) := by rw [hI _ (gz_ne rfl) (gz_ne rfl)]
  have e4 : k < I2 (34, 0, 0) (4 * s + t) → 0 ≤ (I2 (35, 0, 0) (80 * (4 * s + t) + k)) := fun hlt => hl t ht.1 ht.2 k h0 hlt
  have e7 := hsum t ht.1 ht.2
  have e8 : gz_sm (fun m => I2 (24, 0, 0) (gz_lM I2 s t m)) k.toNat ≥ 0 := by have := gz_sm_mono (f := fun m => I2 (24, 0, 0) (gz_lM I2 s t m)) (fun i => (gz_t24 hT2 0 0 _).1) (a := 0) (b := k.toNat) (by omega); exact this
  have e9 : k < I2 (34, 0, 0) (4 * s + t) → gz_sm (fun m => I2 (24, 0, 0) (gz_lM I2 s t m)) k.toNat + I2 (24, 0, 0) (I2 (35, 0, 0) (80 * (4 * s + t) + k)) ≤ 300 := fun hlt => by
    have := gz_sm_mono (f := fun m => I2 (24, 0, 0) (gz_lM I2 s t m)) (fun i => (gz_t24 hT2 0 0 _).1) (a := k.toNat + 1) (b := (I2 (34, 0, 0) (4 * s + t)).toNat) (by omega)
    rw [gz_sm_s, Int.toNat_of_nonneg h0] at this
    have h9 : gz_lM I2 s t k = (I2 (35, 0, 0) (80 * (4 * s + t) + k)) := rfl
    rw [h9] at this
    omega
  refine gz_iload (pc := 447) dX5_mark_447 rfl ?_
  first | refine gz_aload_n (pc := 449) dX5_mark_449 rfl ?_ | refine gz_aload_nN (pc := 449) dX5_mark_449 rfl ?_
  refine gz_getr (pc := 450) dX5_mark_450 fl_X5_54 rfl rfl rfl (by first | exact gz_B1 | (omega)) ?_
  refine gz_iconst (pc := 453) dX5_mark_453 ?_
  refine gz_iload_n (pc := 454) dX5_mark_454 rfl ?_
  refine gz_imul (pc := 455) dX5_mark_455 ?_
  refine gz_iload (pc := 456) dX5_mark_456 rfl ?_
  refine gz_iadd (pc := 458) dX5_mark_458 ?_
  refine gz_iald (pc := 459) dX5_mark_459 rfl rfl (by first | exact gz_B1 | (omega)) (by omega) ?_
  rw [r34]
  refine gz_icmp_ge (pc := 460) (tgt := 571) dX5_mark_460 (by decide) (by omega) (by omega) (fun h460 => ?_) (fun h460 => ?_)
  · refine gz_iinc (pc := 571) dX5_mark_571 rfl rfl rfl rfl ?_
    refine gz_goto (pc := 574) (tgt := 432) dX5_mark_574 (by decide) ?_
    rw [show k = I2 (34, 0, 0) (4 * s + t) by omega] at hcp
    refine kk I ⟨hTI, fun u b1 b2 => ?_, h28, h29, hI⟩ _ _ _ _
    by_cases z : u = t
    · rw [z]; exact hcp
    · exact hj u b1 (by omega)
  · first | refine gz_aload_n (pc := 463) dX5_mark_463 rfl ?_ | refine gz_aload_nN (pc := 463) dX5_mark_463 rfl ?_
    refine gz_getr (pc := 464) dX5_mark_464 fl_X5_57 rfl rfl rfl (by first | exact gz_B1 | (omega)) ?_
    refine gz_bipush (pc := 467) dX5_mark_467 rfl ?_
    refine gz_iconst (pc := 469) dX5_mark_469 ?_
    refine gz_iload_n (pc := 470) dX5_mark_470 rfl ?_
    refine gz_imul (pc := 471) dX5_mark_471 ?_
    refine gz_iload (pc := 472) dX5_mark_472 rfl ?_
    refine gz_iadd (pc := 474) dX5_mark_474 ?_
    refine gz_imul (pc := 475) dX5_mark_475 ?_
    refine gz_iload (pc := 476) dX5_mark_476 rfl ?_
    refine gz_iadd (pc := 478) dX5_mark_478 ?_
    refine gz_iald (pc := 479) dX5_mark_479 rfl rfl (by first | exact gz_B1 | (omega)) (by omega) ?_
    rw [r35]
    refine gz_istore (pc := 480) dX5_mark_480 rfl rfl rfl ?_
    first | refine gz_aload_n (pc := 482) dX5_mark_482 rfl ?_ | refine gz_aload_nN (pc := 482) dX5_mark_482 rfl ?_
    refine gz_getr (pc := 483) dX5_mark_483 fl_X5_36 rfl rfl rfl (by first | exact gz_B1 | (omega)) ?_
    refine gz_bipush (pc := 486) dX5_mark_486 rfl ?_
    refine gz_iload (pc := 488) dX5_mark_488 rfl ?_
    refine gz_imul (pc := 490) dX5_mark_490 ?_
    refine gz_iload (pc := 491) dX5_mark_491 rfl ?_
    refine gz_iadd (pc := 493) dX5_mark_493 ?_
    refine gz_iconst (pc := 494) dX5_mark_494 ?_
    refine gz_zast (pc := 495) dX5_mark_495 rfl rfl (by first | exact gz_B1 | (omega)) (by omega) (by omega) ?_
    refine gz_iconst (pc := 496) dX5_mark_496 ?_
    refine gz_istore (pc := 497) dX5_mark_497 rfl rfl rfl ?_
    have hcast : ((k.toNat : Nat) : Int) = k := Int.toNat_of_nonneg h0
    refine lp_X5_markC3 l D α cA hT2 hs hl hsum hP (gz_up I (28, 0, 0) (120 * t + (I2 (35, 0, 0) (80 * (4 * s + t) + k))) 1) t (gz_sm (fun m => I2 (24, 0, 0) (gz_lM I2 s t m)) k.toNat) k (I2 (35, 0, 0) (80 * (4 * s + t) + k)) (by omega) (by omega) (by omega) (fun q q1 q2 => by rw [gz_up_ne q1]; exact hI q q1 q2) ?_ 0 (by omega) _ (by omega) (gz_Tu28 hTI (by decide)) (fun j => by rw [if_neg (by omega)]) (fun q _ => rfl)
    intro I9 g1 g2 g3 o9 o10
    have hs2 : gz_sm (fun m => I2 (24, 0, 0) (gz_lM I2 s t m)) k.toNat + I2 (24, 0, 0) (I2 (35, 0, 0) (80 * (4 * s + t) + k)) = gz_sm (fun m => I2 (24, 0, 0) (gz_lM I2 s t m)) (k + 1).toNat := by rw [show (k + 1).toNat = k.toNat + 1 by omega, gz_sm_s, hcast]; rfl
    rw [hs2]
    refine ih (k + 1) (by omega) (by omega) I9 (by omega) g1 ⟨fun p b1 b2 => ?_, fun i b1 b2 => ?_⟩ (fun u b1 b2 => ⟨fun p c1 c2 => ?_, fun i c1 c2 => ?_⟩) (fun j hj => ?_) (fun j hj => ?_) (fun q q1 q2 => by rw [g3 q q2, gz_up_ne q1]; exact hI q q1 q2) _ _
    · rw [g3 _ (gz_ne rfl), gz_up_eq, show (k + 1).toNat = k.toNat + 1 by omega, hcp.1 p b1 b2]
      show _ = if p = gz_lM I2 s t ((k.toNat : Nat) : Int) then 1 else _
      rw [hcast]
      by_cases z : p = (I2 (35, 0, 0) (80 * (4 * s + t) + k))
      · rw [if_pos (by omega)]
        exact (if_pos z).symm
      · rw [if_neg (by omega)]
        exact (if_neg z).symm
    · rw [g2, gz_up_r (by decide), show (k + 1).toNat = k.toNat + 1 by omega, hcp.2 i b1 b2]
      show _ = if 32 * gz_lM I2 s t ((k.toNat : Nat) : Int) ≤ i ∧ i < 32 * gz_lM I2 s t ((k.toNat : Nat) : Int) + I2 (24, 0, 0) (gz_lM I2 s t ((k.toNat : Nat) : Int)) then gz_fm I2 t (gz_sm (fun m => I2 (24, 0, 0) (gz_lM I2 s t m)) k.toNat + (i - 32 * gz_lM I2 s t ((k.toNat : Nat) : Int))) else _
      rw [hcast]
      show _ = if 32 * (I2 (35, 0, 0) (80 * (4 * s + t) + k)) ≤ i ∧ i < 32 * (I2 (35, 0, 0) (80 * (4 * s + t) + k)) + I2 (24, 0, 0) (I2 (35, 0, 0) (80 * (4 * s + t) + k)) then I2 (22, 0, 0) (300 * t + (gz_sm (fun m => I2 (24, 0, 0) (gz_lM I2 s t m)) k.toNat + (i - 32 * (I2 (35, 0, 0) (80 * (4 * s + t) + k))))) else _
      by_cases z : 32 * (I2 (35, 0, 0) (80 * (4 * s + t) + k)) ≤ i ∧ i < 32 * (I2 (35, 0, 0) (80 * (4 * s + t) + k)) + I2 (24, 0, 0) (I2 (35, 0, 0) (80 * (4 * s + t) + k))
      · rw [if_pos z, if_pos (by omega), show 300 * t + (gz_sm (fun m => I2 (24, 0, 0) (gz_lM I2 s t m)) k.toNat) + (3840 * t + i - 32 * (120 * t + (I2 (35, 0, 0) (80 * (4 * s + t) + k)))) = 300 * t + (gz_sm (fun m => I2 (24, 0, 0) (gz_lM I2 s t m)) k.toNat + (i - 32 * (I2 (35, 0, 0) (80 * (4 * s + t) + k)))) by omega]
      · rw [if_neg z, if_neg (by omega)]
    · rw [g3 _ (gz_ne rfl), gz_up_eq, if_neg (by omega)]
      exact (hj u b1 b2).1 p c1 c2
    · rw [g2, gz_up_r (by decide), if_neg (by omega)]
      exact (hj u b1 b2).2 i c1 c2
    · rw [g3 _ (gz_ne rfl), gz_up_eq, if_neg (by omega)]
      exact h28 j hj
    · rw [g2, gz_up_r (by decide), if_neg (by omega)]
      exact h29 j hj
set_option maxHeartbeats 4000000 in
set_option maxRecDepth 100000 in
theorem lp_X5_markC (l : Launch) (D : va_G) (α : gz_P → Nat) (cA : Nat → ClassId) {I2 : gz_M} (hT2 : gz_T I2) {s : Int} (hs : 0 ≤ s ∧ s < 12) (hl : ∀ t, 0 ≤ t → t < I2 (20, 0, 0) 0 → ∀ j, 0 ≤ j → j < I2 (34, 0, 0) (4 * s + t) → 0 ≤ I2 (35, 0, 0) (80 * (4 * s + t) + j)) (hsum : ∀ t, 0 ≤ t → t < I2 (20, 0, 0) 0 → gz_sm (fun m => I2 (24, 0, 0) (gz_lM I2 s t m)) (I2 (34, 0, 0) (4 * s + t)).toNat ≤ 300) {P : Int → gz_M → Prop} (hP : ∀ I' : gz_M, gz_CI I2 I' s (I2 (20, 0, 0) 0) → P (I2 (30, 0, 0) s) I') {w a1 a2 : Option Value} {v5 : Int} : ∀ t, t ≤ I2 (20, 0, 0) 0 → ∀ I : gz_M, 0 ≤ t → gz_CI I2 I s t → ∀ o7 o8 o9 o10 : Option Value, gz_V l D α cA RX5 cX5_mark (some .int) 11 6 (gz_Qi P) I [some (.ref (α (20, 0, 0))), w, some (gz_i (s)), a1, a2, some (gz_i (v5)), some (gz_i (t)), o7, o8, o9, o10] [] 432 := by
  have e0 := gz_tM0 hT2 0 0
  refine gz_upto _ ?_
  intro t ht ih I h0 hC o7 o8 o9 o10
  obtain ⟨hTI, hj, h28, h29, hI⟩ := id hC
  have r20 : I (20, 0, 0) 0 = I2 (20, 0, 0) 0 := by rw [hI _ (gz_ne rfl) (gz_ne rfl)]
  refine gz_iload (pc := 432) dX5_mark_432 rfl ?_
  first | refine gz_aload_n (pc := 434) dX5_mark_434 rfl ?_ | refine gz_aload_nN (pc := 434) dX5_mark_434 rfl ?_
  refine gz_getI (pc := 435) 0 dX5_mark_435 fl_X5_7 rfl rfl rfl rfl (by first | exact gz_B1 | (omega)) ?_
  rw [r20]
  refine gz_icmp_ge (pc := 438) (tgt := 577) dX5_mark_438 (by decide) (by omega) (by omega) (fun h438 => ?_) (fun h438 => ?_)
  · first | refine gz_aload_n (pc := 577) dX5_mark_577 rfl ?_ | refine gz_aload_nN (pc := 577) dX5_mark_577 rfl ?_
    refine gz_getr (pc := 578) dX5_mark_578 fl_X5_42 rfl rfl rfl (by first | exact gz_B1 | (omega)) ?_
    refine gz_iload_n (pc := 581) dX5_mark_581 rfl ?_
    refine gz_iald (pc := 582) dX5_mark_582 rfl rfl (by first | exact gz_B1 | (omega)) (by omega) ?_
    refine gz_iret (pc := 583) dX5_mark_583 rfl ?_
    have r30 : I (30, 0, 0) s = I2 (30, 0, 0) s := by rw [hI _ (gz_ne rfl) (gz_ne rfl)]
    rw [r30]
    exact hP I (by rw [show t = I2 (20, 0, 0) 0 by omega] at hC; exact hC)
  · refine gz_iconst (pc := 441) dX5_mark_441 ?_
    refine gz_istore (pc := 442) dX5_mark_442 rfl rfl rfl ?_
    refine gz_iconst (pc := 444) dX5_mark_444 ?_
    refine gz_istore (pc := 445) dX5_mark_445 rfl rfl rfl ?_
    refine lp_X5_markC2 l D α cA hT2 hs hl hsum hP t (by omega) (fun I9 g1 o7 o8 o9 o10 => ih (t + 1) (by omega) (by omega) I9 (by omega) g1 _ _ _ _) 0 (by have := gz_t34 hT2 0 0 (4 * s + t); omega) I (by omega) hTI ⟨fun p b1 b2 => ?_, fun i b1 b2 => ?_⟩ hj (fun j hj => h28 j (by omega)) (fun j hj => h29 j (by omega)) hI _ _
    · rw [h28 _ (by omega)]; rfl
    · rw [h29 _ (by omega)]; rfl
