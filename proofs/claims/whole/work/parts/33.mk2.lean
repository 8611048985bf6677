/-- MARKING of a state: the store behind c chunks, the part of chunk c -/
noncomputable def gz_fo (f : Int → Int) (s : Int) (S : gz_S) : Nat → gz_S
  | 0 => S
  | c + 1 => (gz_s1 (gz_fo f s S c) (fun i => f (gz_cs f s c + i)) (gz_ck f s (gz_cs f s c))).2
noncomputable def gz_fp (f : Int → Int) (s : Int) (S : gz_S) (c : Nat) : Int := (gz_s1 (gz_fo f s S c) (fun i => f (gz_cs f s c + i)) (gz_ck f s (gz_cs f s c))).1
/-- how many chunks -/
noncomputable def gz_cc (f : Int → Int) (s : Int) : Nat := (gz_rn (fun j => gz_cs f s j.toNat < s) 300).toNat
theorem gz_cc_eq {f : Int → Int} {s : Int} {c : Nat} (h : gz_cn f s c) (hs : s ≤ 300) : gz_cc f s = c := by
  unfold gz_cc
  have h75 := gz_cn_75 h hs
  have e : gz_rn (fun j => gz_cs f s j.toNat < s) 300 = c := gz_rn_eq (by omega) (by omega) (fun j a b => gz_cn_lt h (show j.toNat < c by omega)) (Or.inr (by
    show ¬ gz_cs f s ((c : Nat) : Int).toNat < s
    rw [Int.toNat_natCast]
    unfold gz_cn at h
    omega))
  rw [e]
  exact Int.toNat_natCast c
/-- ... of all states -/
noncomputable def gz_ft (F : Int → Int → Int) (Z : Int → Int) (S : gz_S) : Nat → gz_S
  | 0 => S
  | t + 1 => gz_fo (F t) (Z t) (gz_ft F Z S t) (gz_cc (F t) (Z t))
/-- a task whose chunks all find their place -/
def gz_fk (F : Int → Int → Int) (Z : Int → Int) (S : gz_S) (t : Nat) : Prop := ∀ c : Nat, c < gz_cc (F t) (Z t) → ¬ gz_fp (F t) (Z t) (gz_ft F Z S t) c = -1
theorem gz_s1_cong {S : gz_S} {f g : Int → Int} {n : Int} (h : ∀ i, 0 ≤ i → i < n → f i = g i) : gz_s1 S f n = gz_s1 S g n := by
  have hd : gz_dg f n.toNat = gz_dg g n.toNat := gz_dg_cong (fun i a b => h i a (by omega))
  have h1 : gz_mt S f n = gz_mt S g n := by
    funext p
    unfold gz_mt
    rw [hd]
    apply propext
    constructor
    · rintro ⟨a, b, c, d⟩
      exact ⟨a, b, c, fun i x y => (d i x y).trans (h i x y)⟩
    · rintro ⟨a, b, c, d⟩
      exact ⟨a, b, c, fun i x y => (d i x y).trans (h i x y).symm⟩
  have h2 : ∀ q, gz_add S q f n = gz_add S q g n := fun q => by
    funext c p i
    unfold gz_add
    rw [hd]
    by_cases hi : 0 ≤ i ∧ i < n
    · rw [h i hi.1 hi.2]
    · simp only [if_neg hi]
  unfold gz_s1
  rw [h1, h2]
theorem gz_fo_cong {f g : Int → Int} {s : Int} {S : gz_S} (h : ∀ i, 0 ≤ i → i < s → f i = g i) : ∀ {c : Nat}, (∀ j, j < c → gz_cs f s j < s) → gz_fo f s S c = gz_fo g s S c
  | 0, _ => rfl
  | c + 1, hc => by
    have h1 := gz_fo_cong (S := S) h (c := c) (fun j hj => hc j (by omega))
    have h2 := hc c (Nat.lt_succ_self c)
    have h3 := gz_cs_cong h (n := c) (fun j hj => hc j (by omega))
    have h4 := gz_ck_cong (gz_cs_0 f s c) h2 h
    have h5 := gz_ck_le (f := f) h2
    have h6 := gz_cs_0 f s c
    show (gz_s1 (gz_fo f s S c) _ _).2 = (gz_s1 (gz_fo g s S c) _ _).2
    rw [← h1, ← h3, ← h4, gz_s1_cong (fun i a b => h (gz_cs f s c + i) (by omega) (by omega))]
theorem gz_fp_cong {f g : Int → Int} {s : Int} {S : gz_S} (h : ∀ i, 0 ≤ i → i < s → f i = g i) {c : Nat} (hc : ∀ j, j ≤ c → gz_cs f s j < s) : gz_fp f s S c = gz_fp g s S c := by
  have h1 := gz_fo_cong (S := S) h (c := c) (fun j hj => hc j (by omega))
  have h2 := hc c (Nat.le_refl c)
  have h3 := gz_cs_cong h (n := c) (fun j hj => hc j (by omega))
  have h4 := gz_ck_cong (gz_cs_0 f s c) h2 h
  have h5 := gz_ck_le (f := f) h2
  have h6 := gz_cs_0 f s c
  unfold gz_fp
  rw [← h1, ← h3, ← h4, gz_s1_cong (fun i a b => h (gz_cs f s c + i) (by omega) (by omega))]
theorem gz_s1_in (S : gz_S) (f : Int → Int) (n : Int) : -1 ≤ (gz_s1 S f n).1 ∧ (gz_s1 S f n).1 < 120 := by
  have hl : ∀ P : Int → Prop, -1 ≤ gz_lst P ∧ gz_lst P < 120 := fun P => by
    by_cases h : ∃ k : Nat, k < 120 ∧ P k
    · obtain ⟨k, hk, hm⟩ := pk_least (fun k => k < 120 ∧ P k) h
      rw [gz_lst_eq (x := k) (by omega) hk.2 (fun q a b z => hm q.toNat (by omega) ⟨by omega, by rw [Int.toNat_of_nonneg a]; exact z⟩)]
      omega
    · rw [gz_lst_no (fun q a b z => h ⟨q.toNat, by omega, by rw [Int.toNat_of_nonneg a]; exact z⟩)]
      omega
  unfold gz_s1
  have h1 := hl (gz_mt S f n)
  have h2 := hl (fun p => S 0 p 0 = 0)
  split
  · split
    · show -1 ≤ (-1 : Int) ∧ (-1 : Int) < 120
      omega
    · exact h2
  · exact h1
theorem gz_nb {a b : Nat} (h : (a == b) = false) : a ≠ b := fun e => by
  subst e
  simp at h
theorem gz_mkp_x {I : gz_M} {w : gz_P} {s n g x : Int} {q : gz_P} (h3 : q ≠ (3, 0, 0)) (h11 : q ≠ (11, 4, 0)) (h12 : q ≠ (12, 4, 0)) (h13 : q ≠ (13, 0, 0)) (h14 : q ≠ (14, 0, 0)) (h15 : q ≠ (15, 0, 0)) : gz_mkp I w s n g x q = I q := by
  unfold gz_mkp
  rw [gz_up_ne h3, gz_up_ne h3, gz_up_ne h15, gz_up_ne h3, gz_up_ne h3, gz_up_ne h14, gz_up_ne h13, gz_up_ne h11]
  funext i
  unfold gz_cp
  rw [if_neg (fun e => h12 e.1)]
set_option maxHeartbeats 4000000 in
set_option maxRecDepth 100000 in
theorem lp_X4_storeState (l : Launch) (D : va_G) (α : gz_P → Nat) (cA : Nat → ClassId) {I0 I1 : gz_M} (hT0 : gz_T I0) {t k : Int} (ht : 0 ≤ t ∧ t < 4) (hk : 0 ≤ k ∧ k < 12) {c : Nat} (hm7 : -100000 ≤ I1 (16, k, 0) 7 ∧ I1 (16, k, 0) 7 ≤ 100000) : gz_cn (I1 (8, t, 0)) (I1 (7, t, 0) 2) c → c ≤ 75 → 0 ≤ (I1 (7, t, 0) 2) ∧ (I1 (7, t, 0) 2) ≤ 300 → ∀ i, i ≤ (c : Int) → ∀ I : gz_M, 0 ≤ i → (gz_T I ∧ gz_E I ∧ gz_FI I0 I ∧ (∀ q, q ≠ (9, t, 0) → q ≠ (3, 0, 0) → q ≠ (11, 4, 0) → q ≠ (12, 4, 0) → q ≠ (13, 0, 0) → q ≠ (14, 0, 0) → q ≠ (15, 0, 0) → q ≠ (18, k, t) → q ≠ (19, k, 0) → q ≠ (16, k, 0) → I q = I1 q) ∧ (∀ i, i ≠ t → I (19, k, 0) i = I1 (19, k, 0) i) ∧ (∀ i, i ≠ 7 → I (16, k, 0) i = I1 (16, k, 0) i)) → I (19, k, 0) t = I1 (19, k, 0) t → I (16, k, 0) 7 = I1 (16, k, 0) 7 → (∀ j : Nat, j < c → I (9, t, 0) j = gz_cs (I1 (8, t, 0)) (I1 (7, t, 0) 2) (j + 1)) → gz_aX I = gz_fo (I1 (8, t, 0)) (I1 (7, t, 0) 2) (gz_aX I1) i.toNat → (∀ j : Nat, (j : Int) < i → ¬ gz_fp (I1 (8, t, 0)) (I1 (7, t, 0) 2) (gz_aX I1) j = -1 ∧ I (18, k, t) j = gz_fp (I1 (8, t, 0)) (I1 (7, t, 0) 2) (gz_aX I1) j) → ∀ o : Option Value, gz_V l D α cA RX4 cX4_storeState (some .boolean) 7 4 (gz_Qi fun x I' => (gz_T I' ∧ gz_E I' ∧ gz_FI I0 I' ∧ (∀ q, q ≠ (9, t, 0) → q ≠ (3, 0, 0) → q ≠ (11, 4, 0) → q ≠ (12, 4, 0) → q ≠ (13, 0, 0) → q ≠ (14, 0, 0) → q ≠ (15, 0, 0) → q ≠ (18, k, t) → q ≠ (19, k, 0) → q ≠ (16, k, 0) → I' q = I1 q) ∧ (∀ i, i ≠ t → I' (19, k, 0) i = I1 (19, k, 0) i) ∧ (∀ i, i ≠ 7 → I' (16, k, 0) i = I1 (16, k, 0) i)) ∧ (x = 1 ∧ (∀ j : Nat, j < gz_cc (I1 (8, t, 0)) (I1 (7, t, 0) 2) → ¬ gz_fp (I1 (8, t, 0)) (I1 (7, t, 0) 2) (gz_aX I1) j = -1) ∧ gz_aX I' = gz_fo (I1 (8, t, 0)) (I1 (7, t, 0) 2) (gz_aX I1) (gz_cc (I1 (8, t, 0)) (I1 (7, t, 0) 2)) ∧ I' (19, k, 0) t = (gz_cc (I1 (8, t, 0)) (I1 (7, t, 0) 2) : Nat) ∧ (∀ j : Nat, j < gz_cc (I1 (8, t, 0)) (I1 (7, t, 0) 2) → I' (18, k, t) j = gz_fp (I1 (8, t, 0)) (I1 (7, t, 0) 2) (gz_aX I1) j) ∧ I' (16, k, 0) 7 = I1 (16, k, 0) 7 + (I1 (7, t, 0) 2) ∨ x = 0 ∧ ∃ j : Nat, j < gz_cc (I1 (8, t, 0)) (I1 (7, t, 0) 2) ∧ gz_fp (I1 (8, t, 0)) (I1 (7, t, 0) 2) (gz_aX I1) j = -1)) I [some (.ref (α (0, 0, 0))), some (.ref (α (16, k, 0))), some (gz_i (t)), some (.ref (α (7, t, 0))), some (gz_i (c)), some (gz_i (i)), o] [] 16 := by
  intro hcn hc75 hs
  have hcc := gz_cc_eq hcn hs.2
  refine gz_upto _ ?_
  intro i hi ih I h0 hC h19 h167 h9 hA hj o
  obtain ⟨hTI, hEI, hFI, hfr, hf19, hf16⟩ := hC
  have r8 : I (8, t, 0) = I1 (8, t, 0) := hfr _ (gz_ne rfl) (gz_ne rfl) (gz_ne rfl) (gz_ne rfl) (gz_ne rfl) (gz_ne rfl) (gz_ne rfl) (gz_ne rfl) (gz_ne rfl) (gz_ne rfl)
  have r7 : I (7, t, 0) = I1 (7, t, 0) := hfr _ (gz_ne rfl) (gz_ne rfl) (gz_ne rfl) (gz_ne rfl) (gz_ne rfl) (gz_ne rfl) (gz_ne rfl) (gz_ne rfl) (gz_ne rfl) (gz_ne rfl)
  have e5 := hFI.2.2.2.2.2.2
  have e6 := gz_tot_in hTI
  have e7 := gz_tot_in hT0
  have e4 := hFI.1
  refine gz_iload (pc := 16) dX4_storeState_16 rfl ?_
  refine gz_iload (pc := 18) dX4_storeState_18 rfl ?_
  refine gz_icmp_ge (pc := 20) (tgt := 73) dX4_storeState_20 (by decide) (by omega) (by omega) (fun h20 => ?_) (fun h20 => ?_)
  · first | refine gz_aload_n (pc := 73) dX4_storeState_73 rfl ?_ | refine gz_aload_nN (pc := 73) dX4_storeState_73 rfl ?_
    refine gz_getr (pc := 74) dX4_storeState_74 fl_X4_167 rfl rfl rfl (by first | exact gz_B1 | (omega)) ?_
    refine gz_iload_n (pc := 77) dX4_storeState_77 rfl ?_
    refine gz_iload (pc := 78) dX4_storeState_78 rfl ?_
    refine gz_iast (pc := 80) dX4_storeState_80 rfl rfl (by first | exact gz_B1 | (omega)) (by omega) ?_
    first | refine gz_aload_n (pc := 81) dX4_storeState_81 rfl ?_ | refine gz_aload_nN (pc := 81) dX4_storeState_81 rfl ?_
    refine gz_dup (pc := 82) dX4_storeState_82 rfl ?_
    refine gz_getI (pc := 83) 7 dX4_storeState_83 fl_X4_164 rfl rfl rfl rfl (by first | exact gz_B1 | (omega)) ?_
    first | refine gz_aload_n (pc := 86) dX4_storeState_86 rfl ?_ | refine gz_aload_nN (pc := 86) dX4_storeState_86 rfl ?_
    refine gz_getI (pc := 87) 2 dX4_storeState_87 fl_X4_59 rfl rfl rfl rfl (by first | exact gz_B1 | (omega)) ?_
    rw [gz_up_r (by decide), gz_up_r (by decide), h167, r7]
    refine gz_iadd (pc := 90) dX4_storeState_90 ?_
    refine gz_putI (pc := 91) 7 dX4_storeState_91 fw_X4_164 rfl rfl rfl rfl (by first | exact gz_B1 | (omega)) (Or.inl rfl) ?_
    refine gz_iconst (pc := 94) dX4_storeState_94 ?_
    refine gz_zret (pc := 95) dX4_storeState_95 rfl (by first | exact Or.inl rfl | exact Or.inr rfl | omega) ?_
    have n1 : ∀ q, q ≠ (19, k, 0) → q ≠ (16, k, 0) → gz_up (gz_up I (19, k, 0) t c) (16, k, 0) 7 (I1 (16, k, 0) 7 + (I1 (7, t, 0) 2)) q = I q := fun q a1 a2 => by rw [gz_up_ne a2, gz_up_ne a1]
    have hFs := gz_FI_same (I' := gz_up (gz_up I (19, k, 0) t c) (16, k, 0) 7 (I1 (16, k, 0) 7 + (I1 (7, t, 0) 2))) hFI (n1 _ (gz_ne rfl) (gz_ne rfl)) (n1 _ (gz_ne rfl) (gz_ne rfl)) (n1 _ (gz_ne rfl) (gz_ne rfl)) (n1 _ (gz_ne rfl) (gz_ne rfl)) (n1 _ (gz_ne rfl) (gz_ne rfl)) (n1 _ (gz_ne rfl) (gz_ne rfl))
    have hic : i = c := by omega
    refine ⟨⟨gz_Tu16_7 (gz_Tu19 hTI (by omega)) (by omega), ?_, hFs.1, fun q q1 q2 q3 q4 q5 q6 q7 q8 q9 q10 => by rw [n1 q q9 q10]; exact hfr q q1 q2 q3 q4 q5 q6 q7 q8 q9 q10, fun j hj => ?_, fun j hj => ?_⟩, Or.inl ⟨rfl, ?_, ?_, ?_, ?_, ?_⟩⟩
    · unfold gz_E
      rw [hFs.2, n1 _ (gz_ne rfl) (gz_ne rfl)]
      exact hEI
    · rw [gz_up_r (by decide), gz_up_eq, if_neg hj]
      exact hf19 j hj
    · rw [gz_up_eq, if_neg hj, gz_up_r (by decide)]
      exact hf16 j hj
    · rw [hcc]; exact fun j a => (hj j (by omega)).1
    · rw [hFs.2, hcc, hA, hic]; rfl
    · rw [hcc, gz_up_r (by decide), gz_up_s]
    · rw [hcc]; exact fun j a => by rw [n1 _ (gz_ne rfl) (gz_ne rfl)]; exact (hj j (by omega)).2
    · rw [gz_up_s]
  · have hi2 : i.toNat < c := by omega
    have k1 : (if i = 0 then 0 else I (9, t, 0) (i - 1)) = gz_cs (I1 (8, t, 0)) (I1 (7, t, 0) 2) i.toNat := by
      by_cases z : i = 0
      · rw [if_pos z, z]; rfl
      · rw [if_neg z, show i - 1 = ((i.toNat - 1 : Nat) : Int) by omega, h9 _ (by omega), show i.toNat - 1 + 1 = i.toNat by omega]
    have k2 : I (9, t, 0) i - gz_cs (I1 (8, t, 0)) (I1 (7, t, 0) 2) i.toNat = gz_ck (I1 (8, t, 0)) (I1 (7, t, 0) 2) (gz_cs (I1 (8, t, 0)) (I1 (7, t, 0) 2) i.toNat) := by
      have := h9 i.toNat hi2
      rw [Int.toNat_of_nonneg h0] at this
      rw [this]
      show gz_cs (I1 (8, t, 0)) (I1 (7, t, 0) 2) i.toNat + gz_ck (I1 (8, t, 0)) (I1 (7, t, 0) 2) (gz_cs (I1 (8, t, 0)) (I1 (7, t, 0) 2) i.toNat) - _ = _
      omega
    have k3 := gz_cn_lt hcn hi2
    have k4 := gz_cs_0 (I1 (8, t, 0)) (I1 (7, t, 0) 2) i.toNat
    have k5 := gz_ck_le (f := (I1 (8, t, 0))) k3
    have k6 := gz_ck_ok (I1 (8, t, 0)) (I1 (7, t, 0) 2) (gz_cs (I1 (8, t, 0)) (I1 (7, t, 0) 2) i.toNat)
    have k7 := k6.2.1
    have k8 := k6.2.2.1
    first | refine gz_aload_n (pc := 23) dX4_storeState_23 rfl ?_ | refine gz_aload_nN (pc := 23) dX4_storeState_23 rfl ?_
    refine gz_getr (pc := 24) dX4_storeState_24 fl_X4_24 rfl rfl rfl (by first | exact gz_B1 | (omega)) ?_
    first | refine gz_aload_n (pc := 27) dX4_storeState_27 rfl ?_ | refine gz_aload_nN (pc := 27) dX4_storeState_27 rfl ?_
    refine gz_getr (pc := 28) dX4_storeState_28 fl_X4_66 rfl rfl rfl (by first | exact gz_B1 | (omega)) ?_
    first | refine gz_aload_n (pc := 31) dX4_storeState_31 rfl ?_ | refine gz_aload_nN (pc := 31) dX4_storeState_31 rfl ?_
    refine gz_iload (pc := 32) dX4_storeState_32 rfl ?_
    refine gz_cV1i (pc := 34) dX4_storeState_34 wm_X4_244 my_X2_chunkStart rfl rfl rfl (by first | exact gz_B1 | (omega)) (ct_X2_chunkStart l D α cA ht (by omega)) (fun x34 I34 h34 => ?_)
    obtain ⟨rfl, rfl⟩ := h34
    first | refine gz_aload_n (pc := 37) dX4_storeState_37 rfl ?_ | refine gz_aload_nN (pc := 37) dX4_storeState_37 rfl ?_
    refine gz_iload (pc := 38) dX4_storeState_38 rfl ?_
    rw [k1]
    refine gz_cV1i (pc := 40) dX4_storeState_40 wm_X4_76 my_X2_chunkSize rfl rfl rfl (by first | exact gz_B1 | (omega)) (ct_X2_chunkSize l D α cA ht (by omega)) (fun x40 I40 h40 => ?_)
    obtain ⟨rfl, rfl⟩ := h40
    rw [k1, k2]
    refine gz_cV3i (pc := 43) dX4_storeState_43 wm_X4_247 my_X3_partOf rfl rfl rfl (by first | exact gz_B1 | (omega)) (ct_X3_partOf l D α cA hTI (r := 8) (b := t) (c := 0) rfl rfl (by omega) (fun j => gz_t8 hTI t 0 j) (by omega) hEI.2 ⟨e4.1, hFI.2.2.2.2.2.1⟩) (fun x43 I43 h43 => ?_)
    have hS1 : gz_s1 (gz_aX I) (fun j => I (8, t, 0) (gz_cs (I1 (8, t, 0)) (I1 (7, t, 0) 2) i.toNat + j)) (gz_ck (I1 (8, t, 0)) (I1 (7, t, 0) 2) (gz_cs (I1 (8, t, 0)) (I1 (7, t, 0) 2) i.toNat)) = gz_s1 (gz_fo (I1 (8, t, 0)) (I1 (7, t, 0) 2) (gz_aX I1) i.toNat) (fun j => (I1 (8, t, 0)) (gz_cs (I1 (8, t, 0)) (I1 (7, t, 0) 2) i.toNat + j)) (gz_ck (I1 (8, t, 0)) (I1 (7, t, 0) 2) (gz_cs (I1 (8, t, 0)) (I1 (7, t, 0) 2) i.toNat)) := by rw [hA, r8]
    obtain ⟨hx, hm⟩ := h43
    rw [hS1] at hx hm
    have hx2 : x43 = (gz_fp (I1 (8, t, 0)) (I1 (7, t, 0) 2) (gz_aX I1) i.toNat) := hx
    have hfo : gz_fo (I1 (8, t, 0)) (I1 (7, t, 0) 2) (gz_aX I1) (i.toNat + 1) = (gz_s1 (gz_fo (I1 (8, t, 0)) (I1 (7, t, 0) 2) (gz_aX I1) i.toNat) (fun j => (I1 (8, t, 0)) (gz_cs (I1 (8, t, 0)) (I1 (7, t, 0) 2) i.toNat + j)) (gz_ck (I1 (8, t, 0)) (I1 (7, t, 0) 2) (gz_cs (I1 (8, t, 0)) (I1 (7, t, 0) 2) i.toNat))).2 := rfl
    rw [← hfo] at hm
    have hxr := gz_s1_in (gz_fo (I1 (8, t, 0)) (I1 (7, t, 0) 2) (gz_aX I1) i.toNat) (fun j => (I1 (8, t, 0)) (gz_cs (I1 (8, t, 0)) (I1 (7, t, 0) 2) i.toNat + j)) (gz_ck (I1 (8, t, 0)) (I1 (7, t, 0) 2) (gz_cs (I1 (8, t, 0)) (I1 (7, t, 0) 2) i.toNat))
    rw [← hx] at hxr
    have hC2 : (gz_T I43 ∧ gz_E I43 ∧ gz_FI I0 I43 ∧ (∀ q, q ≠ (9, t, 0) → q ≠ (3, 0, 0) → q ≠ (11, 4, 0) → q ≠ (12, 4, 0) → q ≠ (13, 0, 0) → q ≠ (14, 0, 0) → q ≠ (15, 0, 0) → q ≠ (18, k, t) → q ≠ (19, k, 0) → q ≠ (16, k, 0) → I43 q = I1 q) ∧ (∀ i, i ≠ t → I43 (19, k, 0) i = I1 (19, k, 0) i) ∧ (∀ i, i ≠ 7 → I43 (16, k, 0) i = I1 (16, k, 0) i)) ∧ I43 (19, k, 0) t = I1 (19, k, 0) t ∧ I43 (16, k, 0) 7 = I1 (16, k, 0) 7 ∧ I43 (9, t, 0) = I (9, t, 0) ∧ I43 (18, k, t) = I (18, k, t) ∧ gz_aX I43 = gz_fo (I1 (8, t, 0)) (I1 (7, t, 0) 2) (gz_aX I1) (i.toNat + 1) := by
      rcases hm with ⟨e, hm⟩ | ⟨b1, b2, b3, b4, b5⟩
      · subst e
        exact ⟨⟨hTI, hEI, hFI, hfr, hf19, hf16⟩, h19, h167, rfl, rfl, hm.symm⟩
      · have hdg := gz_dg_in (fun j => I (8, t, 0) (gz_cs (I1 (8, t, 0)) (I1 (7, t, 0) 2) i.toNat + j)) (gz_ck (I1 (8, t, 0)) (I1 (7, t, 0) 2) (gz_cs (I1 (8, t, 0)) (I1 (7, t, 0) 2) i.toNat)).toNat
        have hT9 := gz_mkp_T hTI (r := 8) (b := t) (c := 0) (s := gz_cs (I1 (8, t, 0)) (I1 (7, t, 0) 2) i.toNat) (n := gz_ck (I1 (8, t, 0)) (I1 (7, t, 0) 2) (gz_cs (I1 (8, t, 0)) (I1 (7, t, 0) 2) i.toNat)) (x := x43) (fun _ => ⟨rfl, rfl⟩) hEI (by omega) (g := gz_dg (fun j => I (8, t, 0) (gz_cs (I1 (8, t, 0)) (I1 (7, t, 0) 2) i.toNat + j)) (gz_ck (I1 (8, t, 0)) (I1 (7, t, 0) 2) (gz_cs (I1 (8, t, 0)) (I1 (7, t, 0) 2) i.toNat)).toNat) (by omega) b1 (by omega) (by omega)
        have hE9 := gz_mkp_E hTI (w := (8, t, 0)) (s := gz_cs (I1 (8, t, 0)) (I1 (7, t, 0) 2) i.toNat) (n := gz_ck (I1 (8, t, 0)) (I1 (7, t, 0) 2) (gz_cs (I1 (8, t, 0)) (I1 (7, t, 0) 2) i.toNat)) (x := x43) hEI (by omega) b1 b2
        have hF9 := gz_FI_mkp hT0 hTI (w := (8, t, 0)) (s := gz_cs (I1 (8, t, 0)) (I1 (7, t, 0) 2) i.toNat) (n := gz_ck (I1 (8, t, 0)) (I1 (7, t, 0) 2) (gz_cs (I1 (8, t, 0)) (I1 (7, t, 0) 2) i.toNat)) (x := x43) hFI (by omega) b1 b2
        rw [← b4] at hT9 hE9 hF9
        have ho : ∀ q : gz_P, q.1 ≠ 3 ∧ q.1 ≠ 11 ∧ q.1 ≠ 12 ∧ q.1 ≠ 13 ∧ q.1 ≠ 14 ∧ q.1 ≠ 15 → I43 q = I q := fun q hq => by rw [b4]; exact gz_mkp_o hq
        have o18 : I43 (18, k, t) = I (18, k, t) := ho (18, k, t) ⟨gz_nb rfl, gz_nb rfl, gz_nb rfl, gz_nb rfl, gz_nb rfl, gz_nb rfl⟩
        have o19 : I43 (19, k, 0) = I (19, k, 0) := ho (19, k, 0) ⟨gz_nb rfl, gz_nb rfl, gz_nb rfl, gz_nb rfl, gz_nb rfl, gz_nb rfl⟩
        have o16 : I43 (16, k, 0) = I (16, k, 0) := ho (16, k, 0) ⟨gz_nb rfl, gz_nb rfl, gz_nb rfl, gz_nb rfl, gz_nb rfl, gz_nb rfl⟩
        have o9 : I43 (9, t, 0) = I (9, t, 0) := ho (9, t, 0) ⟨gz_nb rfl, gz_nb rfl, gz_nb rfl, gz_nb rfl, gz_nb rfl, gz_nb rfl⟩
        refine ⟨⟨hT9, hE9, hF9, fun q q1 q2 q3 q4 q5 q6 q7 q8 q9 q10 => ?_, fun j hj => by rw [o19]; exact hf19 j hj, fun j hj => by rw [o16]; exact hf16 j hj⟩, by rw [o19]; exact h19, by rw [o16]; exact h167, o9, o18, b5.symm⟩
        rw [b4, gz_mkp_x q2 q3 q4 q5 q6 q7]
        exact hfr q q1 q2 q3 q4 q5 q6 q7 q8 q9 q10
    obtain ⟨⟨d1, d2, d3, d4, d5, d6⟩, d7, d8, d9, d10, d11⟩ := hC2
    refine gz_istore (pc := 46) dX4_storeState_46 rfl rfl rfl ?_
    refine gz_iload (pc := 48) dX4_storeState_48 rfl ?_
    refine gz_iconst (pc := 50) dX4_storeState_50 ?_
    refine gz_icmp_ne (pc := 51) (tgt := 56) dX4_storeState_51 (by decide) (by omega) (by omega) (fun h51 => ?_) (fun h51 => ?_)
    · first | refine gz_aload_n (pc := 56) dX4_storeState_56 rfl ?_ | refine gz_aload_nN (pc := 56) dX4_storeState_56 rfl ?_
      refine gz_getr (pc := 57) dX4_storeState_57 fl_X4_170 rfl rfl rfl (by first | exact gz_B1 | (omega)) ?_
      refine gz_iload_n (pc := 60) dX4_storeState_60 rfl ?_
      first | refine gz_ald1 (pc := 61) dX4_storeState_61 (by omega) ?_ | refine gz_ald2 (pc := 61) dX4_storeState_61 (by omega) ?_ | refine gz_ald4 (pc := 61) dX4_storeState_61 (by omega) ?_ | refine gz_ald17 (pc := 61) dX4_storeState_61 (by first | exact gz_B1 | (omega)) (by omega) ?_
      refine gz_iload (pc := 62) dX4_storeState_62 rfl ?_
      refine gz_iload (pc := 64) dX4_storeState_64 rfl ?_
      refine gz_iast (pc := 66) dX4_storeState_66 rfl rfl (by first | exact gz_B1 | (omega)) (by omega) ?_
      refine gz_iinc (pc := 67) dX4_storeState_67 rfl rfl rfl rfl ?_
      refine gz_goto (pc := 70) (tgt := 16) dX4_storeState_70 (by decide) ?_
      have n18 : ∀ q, q ≠ (18, k, t) → gz_up I43 (18, k, t) i x43 q = I43 q := fun q hq => gz_up_ne hq
      have hFs := gz_FI_same (I' := gz_up I43 (18, k, t) i x43) d3 (n18 _ (gz_ne rfl)) (n18 _ (gz_ne rfl)) (n18 _ (gz_ne rfl)) (n18 _ (gz_ne rfl)) (n18 _ (gz_ne rfl)) (n18 _ (gz_ne rfl))
      refine ih (i + 1) (by omega) (by omega) _ (by omega) ⟨gz_Tu18 d1 (by omega), ?_, hFs.1, fun q q1 q2 q3 q4 q5 q6 q7 q8 q9 q10 => by rw [n18 q q8]; exact d4 q q1 q2 q3 q4 q5 q6 q7 q8 q9 q10, fun j hj => by rw [n18 _ (gz_ne rfl)]; exact d5 j hj, fun j hj => by rw [n18 _ (gz_ne rfl)]; exact d6 j hj⟩ (by rw [n18 _ (gz_ne rfl)]; exact d7) (by rw [n18 _ (gz_ne rfl)]; exact d8) (fun j hj => by rw [n18 _ (gz_ne rfl), d9]; exact h9 j hj) ?_ (fun j a => ?_) _
      · unfold gz_E
        rw [hFs.2, n18 _ (gz_ne rfl)]
        exact d2
      · rw [hFs.2, d11, show (i + 1).toNat = i.toNat + 1 by omega]
      · rw [gz_up_eq]
        by_cases z : (j : Int) = i
        · rw [if_pos z]
          have z2 : i.toNat = j := by omega
          rw [z2] at hx2
          exact ⟨by rw [← hx2]; omega, hx2⟩
        · rw [if_neg z, d10]
          exact hj j (by omega)
    · refine gz_iconst (pc := 54) dX4_storeState_54 ?_
      refine gz_zret (pc := 55) dX4_storeState_55 rfl (by first | exact Or.inl rfl | exact Or.inr rfl | omega) ?_
      refine ⟨⟨d1, d2, d3, d4, d5, d6⟩, Or.inr ⟨rfl, i.toNat, by rw [hcc]; omega, ?_⟩⟩
      rw [← hx2]
      exact h51
