theorem gz_cc_cong {f g : Int → Int} {s : Int} (h : ∀ i, 0 ≤ i → i < s → f i = g i) (hs : 0 ≤ s ∧ s ≤ 300) : gz_cc f s = gz_cc g s := by
  obtain ⟨c, hc⟩ := gz_cn_ex f hs
  rw [gz_cc_eq hc hs.2, gz_cc_eq (gz_cn2 h hc).1 hs.2]
theorem gz_cc_lt {f : Int → Int} {s : Int} (hs : 0 ≤ s ∧ s ≤ 300) : ∀ j : Nat, j < gz_cc f s → gz_cs f s j < s := by
  obtain ⟨c, hc⟩ := gz_cn_ex f hs
  rw [gz_cc_eq hc hs.2]
  exact fun j hj => gz_cn_lt hc hj
theorem gz_ft_cong {F G : Int → Int → Int} {Z W : Int → Int} {S : gz_S} {N : Nat} (h : ∀ t : Nat, t < N → Z t = W t ∧ (0 ≤ Z t ∧ Z t ≤ 300) ∧ ∀ i, 0 ≤ i → i < Z t → F t i = G t i) : ∀ t : Nat, t ≤ N → gz_ft F Z S t = gz_ft G W S t
  | 0, _ => rfl
  | t + 1, ht => by
    obtain ⟨h1, h2, h3⟩ := h t (by omega)
    show gz_fo (F t) (Z t) (gz_ft F Z S t) (gz_cc (F t) (Z t)) = gz_fo (G t) (W t) (gz_ft G W S t) (gz_cc (G t) (W t))
    rw [gz_ft_cong h t (by omega), ← h1, gz_cc_cong h3 h2]
    exact gz_fo_cong h3 (fun j hj => gz_cc_lt h2 j (by rw [gz_cc_cong h3 h2]; exact hj))
theorem gz_fpt_cong {F G : Int → Int → Int} {Z W : Int → Int} {S : gz_S} {N : Nat} (h : ∀ t : Nat, t < N → Z t = W t ∧ (0 ≤ Z t ∧ Z t ≤ 300) ∧ ∀ i, 0 ≤ i → i < Z t → F t i = G t i) {t j : Nat} (ht : t < N) (hj : j < gz_cc (F t) (Z t)) : gz_fp (F t) (Z t) (gz_ft F Z S t) j = gz_fp (G t) (W t) (gz_ft G W S t) j := by
  obtain ⟨h1, h2, h3⟩ := h t ht
  rw [gz_ft_cong h t (by omega), ← h1]
  exact gz_fp_cong h3 (fun i hi => gz_cc_lt h2 i (by omega))
theorem gz_fk_cong {F G : Int → Int → Int} {Z W : Int → Int} {S : gz_S} {N : Nat} (h : ∀ t : Nat, t < N → Z t = W t ∧ (0 ≤ Z t ∧ Z t ≤ 300) ∧ ∀ i, 0 ≤ i → i < Z t → F t i = G t i) {t : Nat} (ht : t < N) : gz_fk F Z S t ↔ gz_fk G W S t := by
  have hc : gz_cc (F t) (Z t) = gz_cc (G t) (W t) := by
    obtain ⟨h1, h2, h3⟩ := h t ht
    rw [← h1]; exact gz_cc_cong h3 h2
  unfold gz_fk
  constructor
  · intro a c b
    rw [← gz_fpt_cong h ht (by rw [hc]; exact b)]
    exact a c (by rw [hc]; exact b)
  · intro a c b
    rw [gz_fpt_cong h ht b]
    exact a c (by rw [← hc]; exact b)
theorem gz_sh_cong {f f' g g' : Int → Int} {n m : Int} (hn : 0 ≤ n) (hm : 0 ≤ m) (h1 : ∀ j, 0 ≤ j → j < n → f j = f' j) (h2 : ∀ j, 0 ≤ j → j < m → g j = g' j) : gz_sh f n g m = gz_sh f' n g' m := by
  have a : gz_rn (fun j => f j = g j) (if m < n then m else n) = gz_rn (fun j => f' j = g' j) (if m < n then m else n) := gz_rn_cong (fun j x y => by
    have y2 : j < m ∧ j < n := by split at y <;> omega
    rw [h1 j x y2.2, h2 j x y2.1])
  have b := gz_rn_in (P := fun j => f' j = g' j) (m := if m < n then m else n) (by split <;> omega)
  unfold gz_sh
  rw [a]
  congr 1
  exact gz_rn_cong (fun j x y => by
    have y2 : j < m ∧ j < n := by split at y <;> split at b <;> omega
    rw [h1 (n - 1 - j) (by omega) (by omega), h2 (m - 1 - j) (by omega) (by omega)])
theorem gz_hw_cong {L L' h h' : Int → Int} : ∀ {n : Nat}, (∀ j : Nat, j < n → L j = L' j) → (∀ p, 0 ≤ p → p < 120 → h p = h' p) → ∀ p, 0 ≤ p → p < 120 → gz_hw L h n p = gz_hw L' h' n p
  | 0, _, hh => hh
  | n + 1, hL, hh => fun p a b => by
    show (if p = L n then 1 else gz_hw L h n p) = if p = L' n then 1 else gz_hw L' h' n p
    rw [hL n (by omega), gz_hw_cong (n := n) (fun j hj => hL j (by omega)) hh p a b]
theorem gz_cw_cong {L L' z z' f f' b b' : Int → Int} : ∀ {n : Nat}, (∀ j : Nat, j < n → L j = L' j ∧ 0 ≤ z (L j) ∧ z (L j) = z' (L j)) → gz_sm (fun m => z (L m)) n ≤ 300 → (∀ i, 0 ≤ i → i < 300 → f i = f' i) → (∀ p, 0 ≤ p → p < 3840 → b p = b' p) → 0 ≤ gz_sm (fun m => z (L m)) n ∧ gz_sm (fun m => z (L m)) n = gz_sm (fun m => z' (L' m)) n ∧ ∀ p, 0 ≤ p → p < 3840 → gz_cw L z f b n p = gz_cw L' z' f' b' n p
  | 0, _, _, _, hb => ⟨by show (0 : Int) ≤ 0; omega, rfl, hb⟩
  | n + 1, hL, hs, hf, hb => by
    obtain ⟨l1, l2, l3⟩ := hL n (by omega)
    rw [gz_sm_s] at hs
    have hs' : gz_sm (fun m => z (L m)) n + z (L n) ≤ 300 := hs
    obtain ⟨i0, i1, i2⟩ := gz_cw_cong (n := n) (L := L) (L' := L') (z := z) (z' := z') (f := f) (f' := f') (b := b) (b' := b') (fun j hj => hL j (by omega)) (by omega) hf hb
    refine ⟨?_, ?_, fun p a c => ?_⟩
    · rw [gz_sm_s]
      show 0 ≤ gz_sm (fun m => z (L m)) n + z (L n)
      omega
    · rw [gz_sm_s, gz_sm_s, ← i1]
      show gz_sm (fun m => z (L m)) n + z (L n) = gz_sm (fun m => z (L m)) n + z' (L' n)
      rw [← l1, l3]
    · show (if 32 * L n ≤ p ∧ p < 32 * L n + z (L n) then f (gz_sm (fun m => z (L m)) n + (p - 32 * L n)) else gz_cw L z f b n p) = if 32 * L' n ≤ p ∧ p < 32 * L' n + z' (L' n) then f' (gz_sm (fun m => z' (L' m)) n + (p - 32 * L' n)) else gz_cw L' z' f' b' n p
      rw [← l1, ← l3, ← i1, i2 p a c]
      by_cases y : 32 * L n ≤ p ∧ p < 32 * L n + z (L n)
      · rw [if_pos y, if_pos y]
        exact hf _ (by omega) (by omega)
      · rw [if_neg y, if_neg y]
theorem gz_lst_at {P : Int → Prop} (h : ¬ gz_lst P = -1) : (0 ≤ gz_lst P ∧ gz_lst P < 120) ∧ P (gz_lst P) := by
  by_cases hq : ∃ k : Nat, k < 120 ∧ P k
  · obtain ⟨k, hk, hm⟩ := pk_least (fun k => k < 120 ∧ P k) hq
    rw [gz_lst_eq (x := k) (by omega) hk.2 (fun q a b z => hm q.toNat (by omega) ⟨by omega, by rw [Int.toNat_of_nonneg a]; exact z⟩)]
    exact ⟨by omega, hk.2⟩
  · exact absurd (gz_lst_no (fun q a b z => hq ⟨q.toNat, by omega, by rw [Int.toNat_of_nonneg a]; exact z⟩)) h
theorem gz_s1_tot {S : gz_S} {f : Int → Int} {n : Int} (h : gz_tot S ≤ 2400) : gz_tot (gz_s1 S f n).2 ≤ 2400 := by
  unfold gz_s1
  split
  · split
    · exact h
    · next h1 h2 =>
      have h3 : ¬ gz_lst (fun p => S 0 p 0 = 0) = -1 := fun e => h2 (Or.inl e)
      have h4 : gz_tot S + n ≤ 2400 := Int.not_lt.mp (fun e => h2 (Or.inr e))
      obtain ⟨a, b⟩ := gz_lst_at h3
      generalize gz_lst (fun p => S 0 p 0 = 0) = q at a b
      show gz_tot (gz_add S q f n) ≤ 2400
      have h5 := gz_sm_up (f := fun p => S 0 p 0) (g := fun p => gz_add S q f n 0 p 0) (q := q) (fun i hi => by
        show (if i = q then n else S 0 i 0) = S 0 i 0
        rw [if_neg hi]) 120
      rw [if_pos (by omega)] at h5
      have h6 : gz_add S q f n 0 q 0 = n := by
        show (if q = q then n else S 0 q 0) = n
        rw [if_pos rfl]
      have h7 : gz_tot (gz_add S q f n) = gz_sm (fun p => gz_add S q f n 0 p 0) 120 := rfl
      have h8 : gz_tot S = gz_sm (fun p => S 0 p 0) 120 := rfl
      have h9 : (fun p => gz_add S q f n 0 p 0) q - (fun p => S 0 p 0) q = n := by
        show gz_add S q f n 0 q 0 - S 0 q 0 = n
        have b' : S 0 q 0 = 0 := b
        omega
      omega
  · exact h
theorem gz_fo_tot {f : Int → Int} {s : Int} {S : gz_S} (h : gz_tot S ≤ 2400) : ∀ n : Nat, gz_tot (gz_fo f s S n) ≤ 2400
  | 0 => h
  | n + 1 => gz_s1_tot (gz_fo_tot h n)
theorem gz_ft_tot {F : Int → Int → Int} {Z : Int → Int} {S : gz_S} (h : gz_tot S ≤ 2400) : ∀ n : Nat, gz_tot (gz_ft F Z S n) ≤ 2400
  | 0 => h
  | n + 1 => gz_fo_tot (gz_ft_tot h n) _
theorem gz_fb_tot {J J1 : gz_M} (hNI : gz_NI J J1) : gz_sm (gz_fb J1) 120 = gz_tot (gz_aM J1) - gz_tot (gz_aM J) := by
  rw [← gz_tot_M, ← gz_tot_M, ← gz_sm_mi]
  exact gz_sm_cong (fun p a b => by
    show (if J1 (39, 0, 0) p = 0 then 0 else J1 (24, 0, 0) p) = J1 (24, 0, 0) p - J (24, 0, 0) p
    rcases hNI p a (by omega) with ⟨c, d⟩ | ⟨c, d, -⟩
    · rw [if_neg (by omega)]; omega
    · rw [if_pos c]; omega)
theorem gz_ne18 {r : Nat} {k k' t t' : Int} (h : k' ≠ k) : ((r, k', t') : gz_P) ≠ (r, k, t) := fun e => h (by injection e with _ e; injection e)
theorem gz_MM.cong2 {I J I1 J2 : gz_M} {k s : Int} (hT : gz_T I) (h : gz_MM I J k s) (e16 : I1 (16, k, 0) = I (16, k, 0)) (e19 : I1 (19, k, 0) = I (19, k, 0)) (e18 : ∀ t, I1 (18, k, t) = I (18, k, t)) (f : ∀ r : Nat, 31 ≤ r → r ≤ 38 → r ≠ 34 → r ≠ 35 → J2 (r, 0, 0) s = J (r, 0, 0) s) (f34 : ∀ t, 0 ≤ t → t < 4 → J2 (34, 0, 0) (4 * s + t) = J (34, 0, 0) (4 * s + t)) (f35 : ∀ t j, 0 ≤ t → t < 4 → 0 ≤ j → j < 80 → J2 (35, 0, 0) (80 * (4 * s + t) + j) = J (35, 0, 0) (80 * (4 * s + t) + j)) : gz_MM I1 J2 k s := by
  have h5 := gz_tm5 hT k 0
  obtain ⟨⟨a1, a2, a3, a4, a5, a6⟩, b⟩ := h
  unfold gz_MM
  rw [e16, e19, f 31 (by decide) (by decide) (by decide) (by decide), f 32 (by decide) (by decide) (by decide) (by decide), f 33 (by decide) (by decide) (by decide) (by decide), f 36 (by decide) (by decide) (by decide) (by decide), f 37 (by decide) (by decide) (by decide) (by decide), f 38 (by decide) (by decide) (by decide) (by decide)]
  refine ⟨⟨a1, a2, a3, a4, a5, a6⟩, fun t t1 t2 => ?_⟩
  obtain ⟨b1, b2⟩ := b t t1 t2
  have h19 := gz_t19 hT k 0 t
  rw [e18, f34 t t1 (by omega)]
  refine ⟨b1, fun j j1 j2 => ?_⟩
  rw [f35 t j t1 (by omega) j1 (by omega)]
  exact b2 j j1 j2
theorem gz_KP.cong2 {I I1 : gz_M} {k : Int} (hT : gz_T I) (h : gz_KP I k) (e16 : I1 (16, k, 0) = I (16, k, 0)) (e19 : I1 (19, k, 0) = I (19, k, 0)) (e18 : ∀ t, I1 (18, k, t) = I (18, k, t)) (e13 : ∀ p, 0 ≤ p → p < 120 → 0 < I (13, 0, 0) p → I1 (13, 0, 0) p = I (13, 0, 0) p) : gz_KP I1 k := by
  obtain ⟨a, b⟩ := h
  unfold gz_KP
  rw [e16, e19]
  refine ⟨a, fun t t1 t2 => ?_⟩
  obtain ⟨b1, b2⟩ := b t t1 t2
  have h19 := gz_t19 hT k 0 t
  have e : ∀ j, 0 ≤ j → j < I (19, k, 0) t → I1 (13, 0, 0) (I (18, k, t) j) = I (13, 0, 0) (I (18, k, t) j) := fun j j1 j2 => by
    have h18 := gz_t18 hT k t j
    exact e13 _ (by omega) (by omega) (b1 j j1 j2)
  rw [e18]
  refine ⟨fun j j1 j2 => by rw [e j j1 j2]; exact b1 j j1 j2, ?_⟩
  rw [gz_sm_cong (f := fun m => I1 (13, 0, 0) (I (18, k, t) m)) (g := fun m => I (13, 0, 0) (I (18, k, t) m)) (fun j j1 j2 => e j j1 (by omega))]
  exact b2
theorem gz_mk_fail {n : Int} {I J I1 J2 : gz_M} (hT : gz_T I) (h : gz_RR n I J) {k s : Int} (hk : k = I (4, 0, 0) (I (0, 0, 0) 7)) (hH : I (0, 0, 0) 7 < 12) (hs : 0 ≤ s ∧ s < 12) (hsn : J (30, 0, 0) s = -1) (xE : gz_E I1) (xA : gz_aX I1 = gz_aX I) (x13 : ∀ p, 0 ≤ p → p < 120 → I1 (13, 0, 0) p = I (13, 0, 0) p) (xF : ∀ q : gz_P, q.1 ≠ 9 → q.1 ≠ 3 → q.1 ≠ 13 → q.1 ≠ 14 → q.1 ≠ 15 → q ≠ (11, 4, 0) → q ≠ (12, 4, 0) → (∀ t, q ≠ (18, k, t)) → q ≠ (19, k, 0) → q ≠ (16, k, 0) → I1 q = I q) (mA : gz_aM J2 = gz_aM J) (mF : gz_Mf J J2 s) : gz_RR (n + 1) I1 J2 := by
  have hup := h.up
  have eH := gz_th hT 0 0
  have hk4 := gz_tk hT 0 0
  have hne : ∀ j, 0 ≤ j → j < I (0, 0, 0) 7 → I (4, 0, 0) j ≠ k := fun j a b e => by
    have := h.inj j (I (0, 0, 0) 7) a (by omega) eH.1 hH (e.trans hk)
    omega
  have F0 : ∀ q : gz_P, (q.1 = 0 ∨ q.1 = 4 ∨ q.1 = 7 ∨ q.1 = 8) → I1 q = I q := fun q hq => by
    have hc : ∀ r : Nat, r ≠ 0 → r ≠ 4 → r ≠ 7 → r ≠ 8 → q.1 ≠ r := fun r _ _ _ _ => by omega
    exact xF q (hc 9 (by decide) (by decide) (by decide) (by decide)) (hc 3 (by decide) (by decide) (by decide) (by decide)) (hc 13 (by decide) (by decide) (by decide) (by decide)) (hc 14 (by decide) (by decide) (by decide) (by decide)) (hc 15 (by decide) (by decide) (by decide) (by decide)) (fun e => hc 11 (by decide) (by decide) (by decide) (by decide) (by rw [e])) (fun e => hc 12 (by decide) (by decide) (by decide) (by decide) (by rw [e])) (fun t e => hc 18 (by decide) (by decide) (by decide) (by decide) (by rw [e])) (fun e => hc 19 (by decide) (by decide) (by decide) (by decide) (by rw [e])) (fun e => hc 16 (by decide) (by decide) (by decide) (by decide) (by rw [e]))
  have i0 := F0 (0, 0, 0) (Or.inl rfl)
  have i4 := F0 (4, 0, 0) (Or.inr (Or.inl rfl))
  have i16 : ∀ j, 0 ≤ j → j < I (0, 0, 0) 7 → I1 (16, I (4, 0, 0) j, 0) = I (16, I (4, 0, 0) j, 0) := fun j a b => xF _ (gz_nb rfl) (gz_nb rfl) (gz_nb rfl) (gz_nb rfl) (gz_nb rfl) (gz_ne rfl) (gz_ne rfl) (fun t => gz_ne rfl) (gz_ne rfl) (gz_ne18 (hne j a b))
  have i19 : ∀ j, 0 ≤ j → j < I (0, 0, 0) 7 → I1 (19, I (4, 0, 0) j, 0) = I (19, I (4, 0, 0) j, 0) := fun j a b => xF _ (gz_nb rfl) (gz_nb rfl) (gz_nb rfl) (gz_nb rfl) (gz_nb rfl) (gz_ne rfl) (gz_ne rfl) (fun t => gz_ne rfl) (gz_ne18 (hne j a b)) (gz_ne rfl)
  have i18 : ∀ j, 0 ≤ j → j < I (0, 0, 0) 7 → ∀ t, I1 (18, I (4, 0, 0) j, t) = I (18, I (4, 0, 0) j, t) := fun j a b t => xF _ (gz_nb rfl) (gz_nb rfl) (gz_nb rfl) (gz_nb rfl) (gz_nb rfl) (gz_ne rfl) (gz_ne rfl) (fun t => gz_ne18 (hne j a b)) (gz_ne rfl) (gz_ne rfl)
  have i11 : ∀ t, 0 ≤ t → t < 4 → I1 (11, t, 0) = I (11, t, 0) := fun t a b => xF _ (gz_nb rfl) (gz_nb rfl) (gz_nb rfl) (gz_nb rfl) (gz_nb rfl) (gz_ne18 (by omega)) (gz_ne rfl) (fun t => gz_ne rfl) (gz_ne rfl) (gz_ne rfl)
  have i12 : ∀ t, 0 ≤ t → t < 4 → I1 (12, t, 0) = I (12, t, 0) := fun t a b => xF _ (gz_nb rfl) (gz_nb rfl) (gz_nb rfl) (gz_nb rfl) (gz_nb rfl) (gz_ne rfl) (gz_ne18 (by omega)) (fun t => gz_ne rfl) (gz_ne rfl) (gz_ne rfl)
  obtain ⟨mq, m34, m35⟩ := mF
  have jq : ∀ r : Nat, (r == 24) = false → (r == 25) = false → (r == 26) = false → (r == 27) = false → (r == 39) = false → (r == 34) = false → (r == 35) = false → J2 (r, 0, 0) = J (r, 0, 0) := fun r a b c d e f g => mq _ (gz_ne a) (gz_ne b) (gz_ne c) (gz_ne d) (gz_ne e) (gz_ne f) (gz_ne g)
  have j20 := jq 20 rfl rfl rfl rfl rfl rfl rfl
  have j30 := jq 30 rfl rfl rfl rfl rfl rfl rfl
  refine ⟨⟨xE, by rw [xA, mA]; exact h.A, by rw [xA]; exact h.tot⟩, ?_, hup.2.2.1.cong (by omega) (by rw [i0]) (fun t => F0 _ (Or.inr (Or.inr (Or.inl rfl)))) (fun t => F0 _ (Or.inr (Or.inr (Or.inr rfl)))) i11 i12 (jq 21 rfl rfl rfl rfl rfl rfl rfl) (jq 22 rfl rfl rfl rfl rfl rfl rfl) (jq 28 rfl rfl rfl rfl rfl rfl rfl) (jq 29 rfl rfl rfl rfl rfl rfl rfl), ?_⟩
  · unfold gz_RB
    rw [i0, j20]
    exact hup.2.1
  · refine ⟨?_, ?_, ?_, ?_, ?_, ?_, ?_, ?_, ?_⟩
    · rw [i4]; exact h.inj
    · rw [i4, i0]; intro i j a b c; rw [i16 i a (by omega), i16 j (by omega) c]; exact h.srt i j a b c
    · rw [i4, i0]; intro j a b; rw [i16 j a b]; exact h.bas j a b
    · rw [i4, i0]; intro j a b; rw [i16 j a b]; exact h.num j a b
    · rw [i4, i0, j30]; intro j a b; rw [i16 j a b]; exact h.m1 j a b
    · rw [i4, i0, j30]; intro z a b
      rcases h.m2 z a b with e | ⟨i, i1, i2⟩
      · exact Or.inl e
      · exact Or.inr ⟨i, i1, by rw [i16 i i1.1 i1.2]; exact i2⟩
    · rw [i4, i0, j30]; intro i z a b c d e
      rw [i16 i a b] at e
      have hn := h.num i a b
      have hz : z ≠ s := fun ez => by rw [ez] at e; omega
      refine (h.m3 i z a b c d e).cong2 hT (i16 i a b) (i19 i a b) (i18 i a b) (fun r r1 r2 r3 r4 => ?_) (fun t t1 t2 => m34 _ (by omega)) (fun t j t1 t2 j1 j2 => m35 _ (by omega))
      have hr : ∀ r' : Nat, r ≠ r' → (r == r') = false := fun r' hh => by
        cases hc : (r == r') with
        | false => rfl
        | true => exact absurd (eq_of_beq hc) hh
      rw [jq r (hr _ (by omega)) (hr _ (by omega)) (hr _ (by omega)) (hr _ (by omega)) (hr _ (by omega)) (hr _ r3) (hr _ r4)]
    · rw [j30]; exact h.dis
    · rw [i4, i0]; intro i a b c
      rw [i16 i a b] at c
      exact (h.kp i a b c).cong2 hT (i16 i a b) (i19 i a b) (i18 i a b) (fun p p1 p2 _ => x13 p p1 p2)
