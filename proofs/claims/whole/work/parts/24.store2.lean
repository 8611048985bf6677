def gz_mkp (I : gz_M) (w : gz_P) (s n g x : Int) : gz_M := gz_up (gz_up (gz_up (gz_up (gz_up (gz_up (gz_up (gz_up (gz_cp I w (12, 4, 0) s (32 * x) n) (11, 4, 0) x 1) (13, 0, 0) x n) (14, 0, 0) x g) (3, 0, 0) 6 (I (3, 0, 0) 6 + 1)) (3, 0, 0) 7 (I (3, 0, 0) 7 + n)) (15, 0, 0) (I (3, 0, 0) 4) x) (3, 0, 0) 4 (I (3, 0, 0) 4 + 1)) (3, 0, 0) 5 (I (3, 0, 0) 5 + n)
theorem gz_mkp_13 {I : gz_M} {w : gz_P} {s n g x p : Int} : gz_mkp I w s n g x (13, 0, 0) p = if p = x then n else I (13, 0, 0) p := by
  unfold gz_mkp
  simp (decide := true) only [gz_up_r, gz_cp_r, gz_up_k, and_self, true_and]
theorem gz_mkp_14 {I : gz_M} {w : gz_P} {s n g x p : Int} : gz_mkp I w s n g x (14, 0, 0) p = if p = x then g else I (14, 0, 0) p := by
  unfold gz_mkp
  simp (decide := true) only [gz_up_r, gz_cp_r, gz_up_k, and_self, true_and]
theorem gz_mkp_11 {I : gz_M} {w : gz_P} {s n g x p a : Int} : gz_mkp I w s n g x (11, a, 0) p = if a = 4 ∧ p = x then 1 else I (11, a, 0) p := by
  unfold gz_mkp
  simp (decide := true) only [gz_up_r, gz_cp_r, gz_up_k, and_self, and_true]
theorem gz_mkp_12 {I : gz_M} {w : gz_P} {s n g x i a : Int} : gz_mkp I w s n g x (12, a, 0) i = if a = 4 ∧ 32 * x ≤ i ∧ i < 32 * x + n then I w (s + (i - 32 * x)) else I (12, a, 0) i := by
  unfold gz_mkp
  simp (decide := true) only [gz_up_r, gz_cp_k, and_true]
theorem gz_mkp_o {I : gz_M} {w : gz_P} {s n g x : Int} {q : gz_P} (h : q.1 ≠ 3 ∧ q.1 ≠ 11 ∧ q.1 ≠ 12 ∧ q.1 ≠ 13 ∧ q.1 ≠ 14 ∧ q.1 ≠ 15) : gz_mkp I w s n g x q = I q := by
  unfold gz_mkp
  rw [gz_up_ne (fun e => h.1 (by rw [e])), gz_up_ne (fun e => h.1 (by rw [e])), gz_up_ne (fun e => h.2.2.2.2.2 (by rw [e])), gz_up_ne (fun e => h.1 (by rw [e])), gz_up_ne (fun e => h.1 (by rw [e])), gz_up_ne (fun e => h.2.2.2.2.1 (by rw [e])), gz_up_ne (fun e => h.2.2.2.1 (by rw [e])), gz_up_ne (fun e => h.2.1 (by rw [e]))]
  funext i
  unfold gz_cp
  rw [if_neg (fun e => h.2.2.1 (by rw [e.1]))]
theorem gz_mkp_a {I : gz_M} (hT : gz_T I) {w : gz_P} {s n x : Int} (hn : 0 < n ∧ n ≤ 32) (hx : 0 ≤ x ∧ x < 120) : gz_aX (gz_mkp I w s n (gz_dg (fun i => I w (s + i)) n.toNat) x) = gz_add (gz_aX I) x (fun i => I w (s + i)) n := by
  funext c p i
  unfold gz_aX gz_add
  match c with
  | 0 =>
    show (if 0 ≤ p ∧ p < 120 then gz_mkp I w s n _ x (13, 0, 0) p else 0) = if p = x then n else if 0 ≤ p ∧ p < 120 then I (13, 0, 0) p else 0
    rw [gz_mkp_13]
    by_cases e : p = x
    · rw [if_pos e, if_pos e, if_pos (by omega)]
    · rw [if_neg e, if_neg e]
  | 1 =>
    show (if (0 ≤ p ∧ p < 120) ∧ 0 < gz_mkp I w s n _ x (13, 0, 0) p then gz_mkp I w s n _ x (14, 0, 0) p else 0) = if p = x then gz_dg (fun i => I w (s + i)) n.toNat else if (0 ≤ p ∧ p < 120) ∧ 0 < I (13, 0, 0) p then I (14, 0, 0) p else 0
    rw [gz_mkp_13, gz_mkp_14]
    by_cases e : p = x
    · rw [if_pos e, if_pos e, if_pos e, if_pos (by omega)]
    · rw [if_neg e, if_neg e, if_neg e]
  | 2 =>
    show (if (0 ≤ p ∧ p < 120) ∧ 0 < gz_mkp I w s n _ x (13, 0, 0) p then gz_mkp I w s n _ x (11, 4, 0) p else 0) = if p = x then 1 else if (0 ≤ p ∧ p < 120) ∧ 0 < I (13, 0, 0) p then I (11, 4, 0) p else 0
    rw [gz_mkp_13, gz_mkp_11]
    by_cases e : p = x
    · rw [if_pos e, if_pos e, if_pos (show (4 : Int) = 4 ∧ p = x from ⟨rfl, e⟩), if_pos (by omega)]
    · rw [if_neg e, if_neg e, if_neg (show ¬ ((4 : Int) = 4 ∧ p = x) from fun q => e q.2)]
  | 3 =>
    show (if (0 ≤ p ∧ p < 120) ∧ 0 ≤ i ∧ i < gz_mkp I w s n _ x (13, 0, 0) p then gz_mkp I w s n _ x (12, 4, 0) (32 * p + i) else 0) = if p = x then (if 0 ≤ i ∧ i < n then I w (s + i) else 0) else if (0 ≤ p ∧ p < 120) ∧ 0 ≤ i ∧ i < I (13, 0, 0) p then I (12, 4, 0) (32 * p + i) else 0
    rw [gz_mkp_13, gz_mkp_12]
    by_cases e : p = x
    · rw [if_pos e, if_pos e]
      by_cases hi : 0 ≤ i ∧ i < n
      · rw [if_pos hi, if_pos (by omega), if_pos (by omega), e, show s + (32 * x + i - 32 * x) = s + i by omega]
      · rw [if_neg hi, if_neg (fun q => hi q.2)]
    · rw [if_neg e, if_neg e]
      by_cases hi : (0 ≤ p ∧ p < 120) ∧ 0 ≤ i ∧ i < I (13, 0, 0) p
      · have := gz_t13 hT 0 0 p
        rw [if_pos hi, if_pos hi, if_neg (by omega)]
      · rw [if_neg hi, if_neg hi]
  | c + 4 =>
    show (0 : Int) = if p = x then 0 else 0
    rw [ite_self]
theorem gz_mt_X {I : gz_M} {f : Int → Int} {n q : Int} (hn : 0 < n) (hq : 0 ≤ q ∧ q < 120) : gz_mt (gz_aX I) f n q ↔ (I (13, 0, 0) q = n ∧ I (14, 0, 0) q = gz_dg f n.toNat ∧ I (11, 4, 0) q = 1 ∧ ∀ i, 0 ≤ i → i < n → I (12, 4, 0) (32 * q + i) = f i) := by
  unfold gz_mt gz_aX
  show ((if 0 ≤ q ∧ q < 120 then I (13, 0, 0) q else 0) = n ∧ (if (0 ≤ q ∧ q < 120) ∧ 0 < I (13, 0, 0) q then I (14, 0, 0) q else 0) = gz_dg f n.toNat ∧ (if (0 ≤ q ∧ q < 120) ∧ 0 < I (13, 0, 0) q then I (11, 4, 0) q else 0) = 1 ∧ ∀ i, 0 ≤ i → i < n → (if (0 ≤ q ∧ q < 120) ∧ 0 ≤ i ∧ i < I (13, 0, 0) q then I (12, 4, 0) (32 * q + i) else 0) = f i) ↔ _
  rw [if_pos hq]
  constructor
  · rintro ⟨h1, h2, h3, h4⟩
    rw [if_pos ⟨hq, by omega⟩] at h2 h3
    exact ⟨h1, h2, h3, fun i a b => by have := h4 i a b; rw [if_pos ⟨hq, a, by omega⟩] at this; exact this⟩
  · rintro ⟨h1, h2, h3, h4⟩
    rw [if_pos ⟨hq, by omega⟩, if_pos ⟨hq, by omega⟩]
    exact ⟨h1, h2, h3, fun i a b => by rw [if_pos ⟨hq, a, by omega⟩]; exact h4 i a b⟩
theorem gz_z_X {I : gz_M} {q : Int} (hq : 0 ≤ q ∧ q < 120) : gz_aX I 0 q 0 = 0 ↔ I (13, 0, 0) q = 0 := by
  show (if 0 ≤ q ∧ q < 120 then I (13, 0, 0) q else 0) = 0 ↔ _
  rw [if_pos hq]
theorem gz_cnt_lt {S : gz_S} {x : Int} (hx : 0 ≤ x ∧ x < 120) (h : S 0 x 0 = 0) : gz_cnt S < 120 := by
  unfold gz_cnt
  have h1 := gz_sm_up (f := fun p => if 0 < S 0 p 0 then 1 else 0) (g := fun p => if p = x then 1 else if 0 < S 0 p 0 then 1 else 0) (q := x) (fun i hi => if_neg hi) 120
  have h2 := gz_sm_in (f := fun p => if p = x then 1 else if 0 < S 0 p 0 then 1 else 0) (lo := 0) (hi := 1) (fun i => by split; omega; split <;> omega) 120
  rw [if_pos (by omega), if_pos rfl, if_neg (by rw [h]; omega)] at h1
  omega
theorem gz_tot_in {I : gz_M} (hT : gz_T I) : 0 ≤ gz_tot (gz_aX I) ∧ gz_tot (gz_aX I) ≤ 3840 := by
  have := gz_sm_in (f := fun p => gz_aX I 0 p 0) (lo := 0) (hi := 32) (fun p => by
    show 0 ≤ (if 0 ≤ p ∧ p < 120 then I (13, 0, 0) p else 0) ∧ (if 0 ≤ p ∧ p < 120 then I (13, 0, 0) p else 0) ≤ 32
    have := gz_t13 hT 0 0 p
    split <;> omega) 120
  unfold gz_tot
  omega
set_option maxHeartbeats 4000000 in
set_option maxRecDepth 100000 in
theorem ct_X3_makePart (l : Launch) (D : va_G) (α : gz_P → Nat) (cA : Nat → ClassId) {I : gz_M} (hT : gz_T I) {r sz na nb : Nat} {b c : Int} (hr : gz_shp r = (0, sz, na, nb)) (hr2 : (Nat.blt r 40 && Nat.blt 12 40 && Nat.ble sz 65536 && Nat.ble 3840 65536) = true) (hb : gz_B b c na nb) (h8 : ∀ i, 0 ≤ I (r, b, c) i ∧ I (r, b, c) i ≤ 255) {s n g : Int} (hs : 0 ≤ s ∧ 0 < n ∧ s + n ≤ sz ∧ n ≤ 32) (hg : 0 ≤ g ∧ g ≤ 60) (hE : I (3, 0, 0) 7 = gz_tot (gz_aX I)) (hF : 0 ≤ I (3, 0, 0) 4 ∧ I (3, 0, 0) 4 ≤ gz_cnt (gz_aX I)) : gz_V l D α cA RX3 cX3_makePart (some .int) 6 2 (gz_Qi fun x I' => (x = -1 ∧ I = I' ∧ ((∀ q, 0 ≤ q → q < 120 → ¬ I (13, 0, 0) q = 0) ∨ 2400 < I (3, 0, 0) 7 + n)) ∨ ((0 ≤ x ∧ x < 120) ∧ I (13, 0, 0) x = 0 ∧ (∀ q, 0 ≤ q → q < x → ¬ I (13, 0, 0) q = 0) ∧ I (3, 0, 0) 7 + n ≤ 2400 ∧ I' = gz_mkp I (r, b, c) s n g x)) I [some (.ref (α (3, 0, 0))), some (.ref (α (r, b, c))), some (gz_i (s)), some (gz_i (n)), some (gz_i (g)), none] [] 0 := by
  have e7 := gz_tot_in hT
  first | refine gz_aload_n (pc := 0) dX3_makePart_0 rfl ?_ | refine gz_aload_nN (pc := 0) dX3_makePart_0 rfl ?_
  refine gz_cV0i (pc := 1) dX3_makePart_1 wm_X3_75 my_X3_leastUnused rfl rfl rfl (by first | exact gz_B1 | (omega)) (ct_X3_leastUnused l D α cA hT) (fun x1 I1 h1 => ?_)
  obtain ⟨rfl, hx1⟩ := h1
  have hxr : -1 ≤ x1 ∧ x1 < 120 := by rcases hx1 with h | h <;> omega
  refine gz_istore (pc := 4) dX3_makePart_4 rfl rfl rfl ?_
  refine gz_iload (pc := 6) dX3_makePart_6 rfl ?_
  refine gz_iconst (pc := 8) dX3_makePart_8 ?_
  refine gz_icmp_eq (pc := 9) (tgt := 24) dX3_makePart_9 (by decide) (by omega) (by omega) (fun h9 => ?_) (fun h9 => ?_)
  · refine gz_iconst (pc := 24) dX3_makePart_24 ?_
    refine gz_iret (pc := 25) dX3_makePart_25 rfl ?_
    exact Or.inl ⟨rfl, rfl, by first | exact Or.inr (by omega) | (rcases hx1 with h | h; exact Or.inl h.2; exact absurd h9 (by omega))⟩
  · first | refine gz_aload_n (pc := 12) dX3_makePart_12 rfl ?_ | refine gz_aload_nN (pc := 12) dX3_makePart_12 rfl ?_
    refine gz_getI (pc := 13) 7 dX3_makePart_13 fl_X3_38 rfl rfl rfl rfl (by first | exact gz_B1 | (omega)) ?_
    refine gz_iload_n (pc := 16) dX3_makePart_16 rfl ?_
    refine gz_iadd (pc := 17) dX3_makePart_17 ?_
    refine gz_sipush (pc := 18) dX3_makePart_18 rfl ?_
    refine gz_icmp_le (pc := 21) (tgt := 26) dX3_makePart_21 (by decide) (by omega) (by omega) (fun h21 => ?_) (fun h21 => ?_)
    · have hx4 : (0 ≤ x1 ∧ x1 < 120) ∧ I (13, 0, 0) x1 = 0 ∧ ∀ q, 0 ≤ q → q < x1 → ¬ I (13, 0, 0) q = 0 := by
        rcases hx1 with h9 | h9
        · exact absurd h9.1 (fun e => absurd e (by omega))
        · exact h9
      have hx5 := hx4.1
      have hfc : I (3, 0, 0) 4 < 120 := by
        have := gz_cnt_lt (S := gz_aX I) hx4.1 ((gz_z_X hx4.1).mpr hx4.2.1)
        omega
      first | refine gz_aload_n (pc := 26) dX3_makePart_26 rfl ?_ | refine gz_aload_nN (pc := 26) dX3_makePart_26 rfl ?_
      refine gz_getr (pc := 27) dX3_makePart_27 fl_X3_12 rfl rfl rfl (by first | exact gz_B1 | (omega)) ?_
      refine gz_iload (pc := 30) dX3_makePart_30 rfl ?_
      first | refine gz_aload_n (pc := 32) dX3_makePart_32 rfl ?_ | refine gz_aload_nN (pc := 32) dX3_makePart_32 rfl ?_
      refine gz_iload_n (pc := 33) dX3_makePart_33 rfl ?_
      refine gz_iload_n (pc := 34) dX3_makePart_34 rfl ?_
      refine gz_cV4v (pc := 35) dX3_makePart_35 wm_X3_79 my_X1_put rfl rfl rfl (by first | exact gz_B1 | (omega)) (ct_X1_put l D α cA (a := 4) (by omega) hr hr2 hb hx5 (by omega)) (fun I35 h35 => ?_)
      subst h35
      first | refine gz_aload_n (pc := 38) dX3_makePart_38 rfl ?_ | refine gz_aload_nN (pc := 38) dX3_makePart_38 rfl ?_
      refine gz_getr (pc := 39) dX3_makePart_39 fl_X3_18 rfl rfl rfl (by first | exact gz_B1 | (omega)) ?_
      refine gz_iload (pc := 42) dX3_makePart_42 rfl ?_
      refine gz_iload_n (pc := 44) dX3_makePart_44 rfl ?_
      refine gz_iast (pc := 45) dX3_makePart_45 rfl rfl (by first | exact gz_B1 | (omega)) (by omega) ?_
      first | refine gz_aload_n (pc := 46) dX3_makePart_46 rfl ?_ | refine gz_aload_nN (pc := 46) dX3_makePart_46 rfl ?_
      refine gz_getr (pc := 47) dX3_makePart_47 fl_X3_22 rfl rfl rfl (by first | exact gz_B1 | (omega)) ?_
      refine gz_iload (pc := 50) dX3_makePart_50 rfl ?_
      refine gz_iload (pc := 52) dX3_makePart_52 rfl ?_
      refine gz_iast (pc := 54) dX3_makePart_54 rfl rfl (by first | exact gz_B1 | (omega)) (by omega) ?_
      first | refine gz_aload_n (pc := 55) dX3_makePart_55 rfl ?_ | refine gz_aload_nN (pc := 55) dX3_makePart_55 rfl ?_
      refine gz_dup (pc := 56) dX3_makePart_56 rfl ?_
      refine gz_getI (pc := 57) 6 dX3_makePart_57 fl_X3_35 rfl rfl rfl rfl (by first | exact gz_B1 | (omega)) ?_
      refine gz_iconst (pc := 60) dX3_makePart_60 ?_
      refine gz_iadd (pc := 61) dX3_makePart_61 ?_
      refine gz_putI (pc := 62) 6 dX3_makePart_62 fw_X3_35 rfl rfl rfl rfl (by first | exact gz_B1 | (omega)) (Or.inl rfl) ?_
      first | refine gz_aload_n (pc := 65) dX3_makePart_65 rfl ?_ | refine gz_aload_nN (pc := 65) dX3_makePart_65 rfl ?_
      refine gz_dup (pc := 66) dX3_makePart_66 rfl ?_
      refine gz_getI (pc := 67) 7 dX3_makePart_67 fl_X3_38 rfl rfl rfl rfl (by first | exact gz_B1 | (omega)) ?_
      refine gz_iload_n (pc := 70) dX3_makePart_70 rfl ?_
      refine gz_iadd (pc := 71) dX3_makePart_71 ?_
      refine gz_putI (pc := 72) 7 dX3_makePart_72 fw_X3_38 rfl rfl rfl rfl (by first | exact gz_B1 | (omega)) (Or.inl rfl) ?_
      first | refine gz_aload_n (pc := 75) dX3_makePart_75 rfl ?_ | refine gz_aload_nN (pc := 75) dX3_makePart_75 rfl ?_
      refine gz_getr (pc := 76) dX3_makePart_76 fl_X3_25 rfl rfl rfl (by first | exact gz_B1 | (omega)) ?_
      first | refine gz_aload_n (pc := 79) dX3_makePart_79 rfl ?_ | refine gz_aload_nN (pc := 79) dX3_makePart_79 rfl ?_
      refine gz_getI (pc := 80) 4 dX3_makePart_80 fl_X3_28 rfl rfl rfl rfl (by first | exact gz_B1 | (simp (decide := true) only [gz_up_r, gz_up_s, gz_cp_r, gz_up_k, gz_mkp, and_false, false_and, and_self, if_false, if_true, reduceIte, ite_false, true_and])) ?_
      refine gz_iload (pc := 83) dX3_makePart_83 rfl ?_
      refine gz_iast (pc := 85) dX3_makePart_85 rfl rfl (by first | exact gz_B1 | (simp (decide := true) only [gz_up_r, gz_up_s, gz_cp_r, gz_up_k, gz_mkp, and_false, false_and, and_self, if_false, if_true, reduceIte, ite_false, true_and]; omega)) (by simp (decide := true) only [gz_up_r, gz_up_s, gz_cp_r, gz_up_k, gz_mkp, and_false, false_and, and_self, if_false, if_true, reduceIte, ite_false, true_and]; omega) ?_
      first | refine gz_aload_n (pc := 86) dX3_makePart_86 rfl ?_ | refine gz_aload_nN (pc := 86) dX3_makePart_86 rfl ?_
      refine gz_dup (pc := 87) dX3_makePart_87 rfl ?_
      refine gz_getI (pc := 88) 4 dX3_makePart_88 fl_X3_28 rfl rfl rfl rfl (by first | exact gz_B1 | (omega)) ?_
      refine gz_iconst (pc := 91) dX3_makePart_91 ?_
      refine gz_iadd (pc := 92) dX3_makePart_92 ?_
      refine gz_putI (pc := 93) 4 dX3_makePart_93 fw_X3_28 rfl rfl rfl rfl (by first | exact gz_B1 | (omega)) (Or.inl rfl) ?_
      first | refine gz_aload_n (pc := 96) dX3_makePart_96 rfl ?_ | refine gz_aload_nN (pc := 96) dX3_makePart_96 rfl ?_
      refine gz_dup (pc := 97) dX3_makePart_97 rfl ?_
      refine gz_getI (pc := 98) 5 dX3_makePart_98 fl_X3_32 rfl rfl rfl rfl (by first | exact gz_B1 | (omega)) ?_
      refine gz_iload_n (pc := 101) dX3_makePart_101 rfl ?_
      refine gz_iadd (pc := 102) dX3_makePart_102 ?_
      refine gz_putI (pc := 103) 5 dX3_makePart_103 fw_X3_32 rfl rfl rfl rfl (by first | exact gz_B1 | (omega)) (Or.inl rfl) ?_
      refine gz_iload (pc := 106) dX3_makePart_106 rfl ?_
      refine gz_iret (pc := 108) dX3_makePart_108 rfl ?_
      refine Or.inr ⟨hx5, hx4.2.1, hx4.2.2, by omega, ?_⟩
      simp (decide := true) only [gz_up_r, gz_up_s, gz_cp_r, gz_up_k, gz_mkp, and_false, false_and, and_self, if_false, if_true, reduceIte, ite_false, true_and]
    · refine gz_iconst (pc := 24) dX3_makePart_24 ?_
      refine gz_iret (pc := 25) dX3_makePart_25 rfl ?_
      exact Or.inl ⟨rfl, rfl, by first | exact Or.inr (by omega) | (rcases hx1 with h | h; exact Or.inl h.2; exact absurd h9 (by omega))⟩
theorem gz_r4 {r sz : Nat} (h : (Nat.blt r 40 && Nat.ble sz 65536) = true) : (Nat.blt r 40 && Nat.blt 12 40 && Nat.ble sz 65536 && Nat.ble 3840 65536) = true := by
  rw [Bool.and_eq_true] at h
  rw [h.1, h.2]
  rfl
theorem gz_s1_hit {S : gz_S} {f : Int → Int} {n x : Int} (hx : 0 ≤ x ∧ x < 120) (h : gz_mt S f n x) (hm : ∀ q, 0 ≤ q → q < x → ¬ gz_mt S f n q) : gz_s1 S f n = (x, S) := by
  unfold gz_s1
  rw [gz_lst_eq hx h hm, if_neg (by omega)]
theorem gz_s1_new {S : gz_S} {f : Int → Int} {n x : Int} (hn : ∀ q, 0 ≤ q → q < 120 → ¬ gz_mt S f n q) (hx : 0 ≤ x ∧ x < 120) (h : S 0 x 0 = 0) (hm : ∀ q, 0 ≤ q → q < x → ¬ S 0 q 0 = 0) (ht : gz_tot S + n ≤ 2400) : gz_s1 S f n = (x, gz_add S x f n) := by
  unfold gz_s1
  rw [gz_lst_no hn, if_pos rfl, gz_lst_eq (P := fun p => S 0 p 0 = 0) hx h hm, if_neg (by omega)]
theorem gz_s1_no {S : gz_S} {f : Int → Int} {n : Int} (hn : ∀ q, 0 ≤ q → q < 120 → ¬ gz_mt S f n q) (h : (∀ q, 0 ≤ q → q < 120 → ¬ S 0 q 0 = 0) ∨ 2400 < gz_tot S + n) : gz_s1 S f n = (-1, S) := by
  unfold gz_s1
  rw [gz_lst_no hn, if_pos rfl, if_pos ?_]
  rcases h with h | h
  · exact Or.inl (gz_lst_no h)
  · exact Or.inr h
set_option maxHeartbeats 4000000 in
set_option maxRecDepth 100000 in
theorem ct_X3_partOf (l : Launch) (D : va_G) (α : gz_P → Nat) (cA : Nat → ClassId) {I : gz_M} (hT : gz_T I) {r sz na nb : Nat} {b c : Int} (hr : gz_shp r = (0, sz, na, nb)) (hr2 : (Nat.blt r 40 && Nat.ble sz 65536) = true) (hb : gz_B b c na nb) (h8 : ∀ i, 0 ≤ I (r, b, c) i ∧ I (r, b, c) i ≤ 255) {s n : Int} (hs : 0 ≤ s ∧ 0 < n ∧ s + n ≤ sz ∧ n ≤ 32) (hE : I (3, 0, 0) 7 = gz_tot (gz_aX I)) (hF : 0 ≤ I (3, 0, 0) 4 ∧ I (3, 0, 0) 4 ≤ gz_cnt (gz_aX I)) : gz_V l D α cA RX3 cX3_partOf (some .int) 6 3 (gz_Qi fun x I' => x = (gz_s1 (gz_aX I) (fun i => I (r, b, c) (s + i)) n).1 ∧ (I = I' ∧ (gz_s1 (gz_aX I) (fun i => I (r, b, c) (s + i)) n).2 = gz_aX I ∨ (0 ≤ x ∧ x < 120) ∧ I (13, 0, 0) x = 0 ∧ I (3, 0, 0) 7 + n ≤ 2400 ∧ I' = gz_mkp I (r, b, c) s n (gz_dg (fun i => I (r, b, c) (s + i)) n.toNat) x ∧ (gz_s1 (gz_aX I) (fun i => I (r, b, c) (s + i)) n).2 = gz_aX I')) I [some (.ref (α (3, 0, 0))), some (.ref (α (r, b, c))), some (gz_i (s)), some (gz_i (n)), none, none] [] 0 := by
  first | refine gz_aload_n (pc := 0) dX3_partOf_0 rfl ?_ | refine gz_aload_nN (pc := 0) dX3_partOf_0 rfl ?_
  refine gz_iload_n (pc := 1) dX3_partOf_1 rfl ?_
  refine gz_iload_n (pc := 2) dX3_partOf_2 rfl ?_
  refine gz_cN3i (pc := 3) dX3_partOf_3 rfl my_X4_digestOf rfl rfl (ct_X4_digestOf l D α cA hr hr2 hb h8 (by omega)) (fun x3 I3 h3 => ?_)
  obtain ⟨rfl, rfl⟩ := h3
  have hdg := gz_dg_in (fun i => I (r, b, c) (s + i)) n.toNat
  refine gz_istore (pc := 6) dX3_partOf_6 rfl rfl rfl ?_
  first | refine gz_aload_n (pc := 8) dX3_partOf_8 rfl ?_ | refine gz_aload_nN (pc := 8) dX3_partOf_8 rfl ?_
  first | refine gz_aload_n (pc := 9) dX3_partOf_9 rfl ?_ | refine gz_aload_nN (pc := 9) dX3_partOf_9 rfl ?_
  refine gz_iload_n (pc := 10) dX3_partOf_10 rfl ?_
  refine gz_iload_n (pc := 11) dX3_partOf_11 rfl ?_
  refine gz_iload (pc := 12) dX3_partOf_12 rfl ?_
  refine gz_cV4i (pc := 14) dX3_partOf_14 wm_X3_64 my_X3_findPart rfl rfl rfl (by first | exact gz_B1 | (omega)) (ct_X3_findPart l D α cA hT hr hr2 hb h8 (by omega) (by omega)) (fun x14 I14 h14 => ?_)
  obtain ⟨rfl, hx14⟩ := h14
  have hxr : -1 ≤ x14 ∧ x14 < 120 := by rcases hx14 with h | h <;> omega
  refine gz_istore (pc := 17) dX3_partOf_17 rfl rfl rfl ?_
  refine gz_iload (pc := 19) dX3_partOf_19 rfl ?_
  refine gz_iconst (pc := 21) dX3_partOf_21 ?_
  refine gz_icmp_ne (pc := 22) (tgt := 37) dX3_partOf_22 (by decide) (by omega) (by omega) (fun h22 => ?_) (fun h22 => ?_)
  · refine gz_iload (pc := 37) dX3_partOf_37 rfl ?_
    refine gz_iret (pc := 39) dX3_partOf_39 rfl ?_
    first
      | (rcases h31 with ⟨h9, rfl, h8⟩ | ⟨h4, h5, h6, h7, h9⟩
         · have e1 := gz_s1_no hno (h8.imp (fun h q a b => fun z => h q a b ((gz_z_X ⟨a, b⟩).mp z)) (fun h => by rw [← hE]; exact h))
           rw [e1]
           exact ⟨h9, Or.inl ⟨rfl, rfl⟩⟩
         · have e1 := gz_s1_new hno h4 ((gz_z_X h4).mpr h5) (fun q a b z => h6 q a b ((gz_z_X ⟨a, by omega⟩).mp z)) (by rw [← hE]; exact h7)
           rw [e1]
           refine ⟨rfl, Or.inr ⟨h4, h5, h7, h9, ?_⟩⟩
           rw [h9]
           exact (gz_mkp_a hT ⟨hs.2.1, hs.2.2.2⟩ h4).symm)
      | (rcases hx14 with h9 | h9
         · exact absurd h9.1 h22
         · have e1 := gz_s1_hit h9.1 ((gz_mt_X (f := (fun i => I (r, b, c) (s + i))) hs.2.1 h9.1).mpr h9.2.1) (fun q a b hm => h9.2.2 q a b ((gz_mt_X hs.2.1 ⟨a, by omega⟩).mp hm))
           rw [e1]
           exact ⟨rfl, Or.inl ⟨rfl, rfl⟩⟩)
  · first | refine gz_aload_n (pc := 25) dX3_partOf_25 rfl ?_ | refine gz_aload_nN (pc := 25) dX3_partOf_25 rfl ?_
    first | refine gz_aload_n (pc := 26) dX3_partOf_26 rfl ?_ | refine gz_aload_nN (pc := 26) dX3_partOf_26 rfl ?_
    refine gz_iload_n (pc := 27) dX3_partOf_27 rfl ?_
    refine gz_iload_n (pc := 28) dX3_partOf_28 rfl ?_
    refine gz_iload (pc := 29) dX3_partOf_29 rfl ?_
    refine gz_cV4i (pc := 31) dX3_partOf_31 wm_X3_68 my_X3_makePart rfl rfl rfl (by first | exact gz_B1 | (omega)) (ct_X3_makePart l D α cA hT hr (gz_r4 hr2) hb h8 hs (by omega) hE hF) (fun x31 I31 h31 => ?_)
    have hno : ∀ q, 0 ≤ q → q < 120 → ¬ gz_mt (gz_aX I) (fun i => I (r, b, c) (s + i)) n q := by
      intro q h1 h2 hm
      rcases hx14 with h9 | h9
      · exact h9.2 q h1 h2 ((gz_mt_X hs.2.1 ⟨h1, h2⟩).mp hm)
      · omega
    refine gz_goto (pc := 34) (tgt := 39) dX3_partOf_34 (by decide) ?_
    refine gz_iret (pc := 39) dX3_partOf_39 rfl ?_
    first
      | (rcases h31 with ⟨h9, rfl, h8⟩ | ⟨h4, h5, h6, h7, h9⟩
         · have e1 := gz_s1_no hno (h8.imp (fun h q a b => fun z => h q a b ((gz_z_X ⟨a, b⟩).mp z)) (fun h => by rw [← hE]; exact h))
           rw [e1]
           exact ⟨h9, Or.inl ⟨rfl, rfl⟩⟩
         · have e1 := gz_s1_new hno h4 ((gz_z_X h4).mpr h5) (fun q a b z => h6 q a b ((gz_z_X ⟨a, by omega⟩).mp z)) (by rw [← hE]; exact h7)
           rw [e1]
           refine ⟨rfl, Or.inr ⟨h4, h5, h7, h9, ?_⟩⟩
           rw [h9]
           exact (gz_mkp_a hT ⟨hs.2.1, hs.2.2.2⟩ h4).symm)
      | (rcases hx14 with h9 | h9
         · exact absurd h9.1 h22
         · have e1 := gz_s1_hit h9.1 ((gz_mt_X (f := (fun i => I (r, b, c) (s + i))) hs.2.1 h9.1).mpr h9.2.1) (fun q a b hm => h9.2.2 q a b ((gz_mt_X hs.2.1 ⟨a, by omega⟩).mp hm))
           rw [e1]
           exact ⟨rfl, Or.inl ⟨rfl, rfl⟩⟩)
theorem gz_tk1_13 {I : gz_M} {p q : Int} : gz_tk1 I p (13, 0, 0) q = if q = p then 0 else I (13, 0, 0) q := by
  unfold gz_tk1
  simp (decide := true) only [gz_up_r, gz_up_k, and_self, true_and]
theorem gz_tk1_11 {I : gz_M} {p q a : Int} : gz_tk1 I p (11, a, 0) q = if a = 4 ∧ q = p then 0 else I (11, a, 0) q := by
  unfold gz_tk1
  simp (decide := true) only [gz_up_r, gz_up_k, and_true]
theorem gz_tk1_3 {I : gz_M} {p i : Int} : gz_tk1 I p (3, 0, 0) i = if i = 7 then I (3, 0, 0) 7 - I (13, 0, 0) p else if i = 6 then I (3, 0, 0) 6 - 1 else I (3, 0, 0) i := by
  unfold gz_tk1
  simp (decide := true) only [gz_up_r, gz_up_k, and_self, true_and]
theorem gz_tk1_o {I : gz_M} {p : Int} {q : gz_P} (h : q ≠ (3, 0, 0) ∧ q ≠ (13, 0, 0) ∧ q ≠ (11, 4, 0)) : gz_tk1 I p q = I q := by
  unfold gz_tk1
  rw [gz_up_ne h.2.2, gz_up_ne h.2.1, gz_up_ne h.1, gz_up_ne h.1]
theorem gz_tk1_T {I : gz_M} (hT : gz_T I) {p : Int} (h6 : -100000 ≤ I (3, 0, 0) 6 ∧ I (3, 0, 0) 6 ≤ 100000) (h7 : -100000 ≤ I (3, 0, 0) 7 ∧ I (3, 0, 0) 7 ≤ 100000) : gz_T (gz_tk1 I p) := by
  have := gz_t13 hT 0 0 p
  exact gz_Tu11 (gz_Tu13 (gz_Tu3 (gz_Tu3 hT (by omega)) (by omega)) (by decide)) (by decide)
