theorem gz_sm_zero {f : Int → Int} : ∀ {n : Nat}, (∀ i : Int, 0 ≤ i → i < n → f i = 0) → gz_sm f n = 0
  | 0, _ => rfl
  | n + 1, h => by
    rw [gz_sm_s, gz_sm_zero (n := n) (fun i a b => h i a (by omega)), h n (by omega) (by omega)]
    rfl
theorem gz_sm_tail {f : Int → Int} {a : Nat} : ∀ {b : Nat}, a ≤ b → (∀ i : Int, a ≤ i → i < b → f i = 0) → gz_sm f b = gz_sm f a
  | 0, hb, _ => by rw [show a = 0 by omega]
  | b + 1, hb, h => by
    by_cases e : a = b + 1
    · rw [e]
    · rw [gz_sm_s, gz_sm_tail (b := b) (by omega) (fun i x y => h i x (by omega)), h b (by omega) (by omega)]
      omega
theorem gz_sm_app {f : Int → Int} {a : Nat} : ∀ {b : Nat}, gz_sm f (a + b) = gz_sm f a + gz_sm (fun i => f (a + i)) b
  | 0 => by
    show gz_sm f a = gz_sm f a + 0
    omega
  | b + 1 => by
    show gz_sm f ((a + b) + 1) = _
    rw [gz_sm_s, gz_sm_s, gz_sm_app (b := b), Int.natCast_add]
    omega
theorem gz_sm_pl {f g : Int → Int} : ∀ {n : Nat}, gz_sm (fun i => f i + g i) n = gz_sm f n + gz_sm g n
  | 0 => rfl
  | n + 1 => by
    rw [gz_sm_s, gz_sm_s, gz_sm_s, gz_sm_pl (n := n)]
    omega
theorem gz_sm_mi {f g : Int → Int} : ∀ {n : Nat}, gz_sm (fun i => f i - g i) n = gz_sm f n - gz_sm g n
  | 0 => rfl
  | n + 1 => by
    rw [gz_sm_s, gz_sm_s, gz_sm_s, gz_sm_mi (n := n)]
    omega
theorem gz_sm_sw {f : Int → Int → Int} {b : Nat} : ∀ {a : Nat}, gz_sm (fun i => gz_sm (fun j => f i j) b) a = gz_sm (fun j => gz_sm (fun i => f i j) a) b
  | 0 => (gz_sm_zero (fun _ _ _ => rfl)).symm
  | a + 1 => by
    rw [gz_sm_s, gz_sm_sw (a := a), ← gz_sm_pl]
    exact gz_sm_cong (fun j _ _ => rfl)
/-- one place alone -/
theorem gz_sm_1 {f : Int → Int} {q v : Int} {n : Nat} (hq : 0 ≤ q ∧ q < n) (hv : f q = v) (h : ∀ i : Int, 0 ≤ i → i < n → i ≠ q → f i = 0) : gz_sm f n = v := by
  have h1 := gz_sm_up (f := fun i => if i = q then 0 else f i) (g := f) (q := q) (fun i hi => (if_neg hi).symm) n
  rw [h1, gz_sm_zero (fun i a b => by
    by_cases e : i = q
    · exact if_pos e
    · show (if i = q then 0 else f i) = 0
      rw [if_neg e]
      exact h i a b e), if_pos hq, if_pos rfl, hv]
  omega
section
variable {n : Int} {I J : gz_M}
theorem gz_RR.p24 (h : gz_RR n I J) {p : Int} (hp : 0 ≤ p ∧ p < 120) : J (24, 0, 0) p = I (13, 0, 0) p := by
  have h1 : gz_aX I 0 p 0 = gz_aM J 0 p 0 := by rw [h.A]
  have h2 : gz_aX I 0 p 0 = I (13, 0, 0) p := by
    show (if 0 ≤ p ∧ p < 120 then I (13, 0, 0) p else 0) = _
    rw [if_pos hp]
  rw [← h2, h1, gz_z_M hp]
theorem gz_RR.p25 (h : gz_RR n I J) {p : Int} (hp : 0 ≤ p ∧ p < 120) (hz : 0 < I (13, 0, 0) p) : J (25, 0, 0) p = I (14, 0, 0) p := by
  have h1 : gz_aX I 1 p 0 = gz_aM J 1 p 0 := by rw [h.A]
  have h3 := h.p24 hp
  have h2 : (if (0 ≤ p ∧ p < 120) ∧ 0 < I (13, 0, 0) p then I (14, 0, 0) p else 0) = (if (0 ≤ p ∧ p < 120) ∧ 0 < J (24, 0, 0) p then J (25, 0, 0) p else 0) := h1
  rw [if_pos ⟨hp, hz⟩, if_pos ⟨hp, by omega⟩] at h2
  exact h2.symm
theorem gz_RR.p26 (h : gz_RR n I J) {p : Int} (hp : 0 ≤ p ∧ p < 120) (hz : 0 < I (13, 0, 0) p) : 1 - J (26, 0, 0) p = I (11, 4, 0) p := by
  have h1 : gz_aX I 2 p 0 = gz_aM J 2 p 0 := by rw [h.A]
  have h3 := h.p24 hp
  have h2 : (if (0 ≤ p ∧ p < 120) ∧ 0 < I (13, 0, 0) p then I (11, 4, 0) p else 0) = (if (0 ≤ p ∧ p < 120) ∧ 0 < J (24, 0, 0) p then 1 - J (26, 0, 0) p else 0) := h1
  rw [if_pos ⟨hp, hz⟩, if_pos ⟨hp, by omega⟩] at h2
  exact h2.symm
theorem gz_RR.p27 (h : gz_RR n I J) {p i : Int} (hp : 0 ≤ p ∧ p < 120) (hz : 0 ≤ i ∧ i < I (13, 0, 0) p) : J (27, 0, 0) (32 * p + i) = I (12, 4, 0) (32 * p + i) := by
  have h1 : gz_aX I 3 p i = gz_aM J 3 p i := by rw [h.A]
  have h3 := h.p24 hp
  have h2 : (if (0 ≤ p ∧ p < 120) ∧ 0 ≤ i ∧ i < I (13, 0, 0) p then I (12, 4, 0) (32 * p + i) else 0) = (if (0 ≤ p ∧ p < 120) ∧ 0 ≤ i ∧ i < J (24, 0, 0) p then J (27, 0, 0) (32 * p + i) else 0) := h1
  rw [if_pos ⟨hp, hz⟩, if_pos ⟨hp, by omega⟩] at h2
  exact h2.symm
theorem gz_RR.snd4 (h : gz_RR n I J) {p : Int} (hp : 0 ≤ p ∧ p < 120) (hz : 0 < I (13, 0, 0) p) : gz_snd I 4 p ↔ gz_snM J p := by
  have h6 := h.p26 hp hz
  unfold gz_snd gz_snM
  rw [h.p24 hp, h.p25 hp hz, gz_dg_cong (f := fun i => J (27, 0, 0) (32 * p + i)) (g := fun i => I (12, 4, 0) (32 * p + i)) (fun i a b => h.p27 hp ⟨a, by omega⟩)]
  constructor
  · rintro ⟨a, b⟩
    exact ⟨by omega, b⟩
  · rintro ⟨a, b⟩
    exact ⟨by omega, b⟩
theorem gz_RR.snd (hT : gz_T I) (h : gz_RR n I J) {t p : Int} (ht : 0 ≤ t ∧ t < 4) (hp : 0 ≤ p ∧ p < 120) (hz : 0 < I (13, 0, 0) p) : gz_snd I t p ↔ gz_scM J t p := by
  have e := gz_t13 hT 0 0 p
  rw [gz_scM_eq]
  unfold gz_snd
  show _ ↔ J (28, 0, 0) (120 * t + p) = 1 ∧ gz_dg (fun i => J (29, 0, 0) (3840 * t + (32 * p + i))) _ = _
  rw [h.p24 hp, h.p25 hp hz, h.hs t p ht.1 ht.2 hp.1 hp.2, gz_dg_cong (f := fun i => J (29, 0, 0) (3840 * t + (32 * p + i))) (g := fun i => I (12, t, 0) (32 * p + i)) (fun i a b => h.cp t (32 * p + i) ht.1 ht.2 (by omega) (by omega))]
theorem gz_RR.rdb (hT : gz_T I) (h : gz_RR n I J) {t p : Int} (ht : 0 ≤ t ∧ t < 4) (hp : 0 ≤ p ∧ p < 120) (hz : 0 < I (13, 0, 0) p) : gz_rdb I t p ↔ gz_rdM J t p := by
  have h1 := h.p24 hp
  unfold gz_rdb gz_rdM
  rw [h.snd hT ht hp hz, h.snd4 hp hz]
  constructor
  · exact fun z => ⟨⟨hp.1, hp.2, by omega⟩, z⟩
  · exact fun z => z.2
theorem gz_RR.usb (hT : gz_T I) (h : gz_RR n I J) {i s : Int} (hi : 0 ≤ i ∧ i < I (0, 0, 0) 7) (hk : I (16, I (4, 0, 0) i, 0) 3 = 1) (hM : gz_MM I J (I (4, 0, 0) i) s) : gz_usb I (I (4, 0, 0) i) ↔ gz_usM J s := by
  obtain ⟨⟨-, -, m5, -⟩, m6⟩ := hM
  obtain ⟨k1, k2⟩ := h.kp i hi.1 hi.2 hk
  have e5 := gz_tm5 hT (I (4, 0, 0) i) 0
  unfold gz_usb gz_usM
  rw [← m5]
  constructor
  · rintro ⟨-, z⟩ t a b j c d
    obtain ⟨q1, q2⟩ := m6 t a b
    rw [← q1] at d
    rw [← q2 j c d]
    have e18 := gz_t18 hT (I (4, 0, 0) i) t j
    exact (h.rdb hT ⟨a, by omega⟩ (by omega) ((k2 t a b).1 j c d)).mp (z t a b j c d)
  · intro z
    refine ⟨hk, fun t a b j c d => ?_⟩
    obtain ⟨q1, q2⟩ := m6 t a b
    have e18 := gz_t18 hT (I (4, 0, 0) i) t j
    have z2 := z t a b j c (by rw [← q1]; exact d)
    rw [← q2 j c d] at z2
    exact (h.rdb hT ⟨a, by omega⟩ (by omega) ((k2 t a b).1 j c d)).mpr z2
/-- looking marks up -/
theorem gz_RR.ix (h : gz_RR n I J) {i m : Int} (hi : 0 ≤ i ∧ i < I (0, 0, 0) 7) (hm : I (16, I (4, 0, 0) i, 0) 2 = m) : (0 ≤ i ∧ i < I (0, 0, 0) 7) ∧ I (16, I (4, 0, 0) i, 0) 2 = m ∧ ∀ j, 0 ≤ j → j < i → ¬ I (16, I (4, 0, 0) j, 0) 2 = m :=
  ⟨hi, hm, fun j a b e => by have := h.srt j i a b hi.2; omega⟩
theorem gz_RR.uq (h : gz_RR n I J) {i j : Int} (hi : 0 ≤ i ∧ i < I (0, 0, 0) 7) (hj : 0 ≤ j ∧ j < I (0, 0, 0) 7) (e : I (16, I (4, 0, 0) i, 0) 2 = I (16, I (4, 0, 0) j, 0) 2) : i = j := by
  rcases Int.lt_trichotomy i j with z | z | z
  · have := h.srt i j hi.1 z hj.2; omega
  · exact z
  · have := h.srt j i hj.1 z hi.2; omega
theorem gz_RR.sx (h : gz_RR n I J) {s m : Int} (hs : 0 ≤ s ∧ s < 12) (hm : J (30, 0, 0) s = m) (h0 : 0 ≤ m) : ∃ i, (0 ≤ i ∧ i < I (0, 0, 0) 7) ∧ I (16, I (4, 0, 0) i, 0) 2 = m := by
  rcases h.m2 s hs.1 hs.2 with z | ⟨i, z1, z2⟩
  · omega
  · exact ⟨i, z1, by omega⟩
theorem gz_RR.nn (h : gz_RR n I J) : ∀ s, 0 ≤ s → s < 12 → -1 ≤ J (30, 0, 0) s := fun s a b => by
  rcases h.m2 s a b with z | ⟨i, z1, z2⟩
  · omega
  · have := h.num i z1.1 z1.2; omega
/-- counting marks -/
theorem gz_RR.ct (hT : gz_T I) (h : gz_RR n I J) {f g : Int → Int} (h0 : ∀ s, 0 ≤ s → s < 12 → J (30, 0, 0) s = -1 → g s = 0) (h1 : ∀ i s, 0 ≤ i → i < I (0, 0, 0) 7 → 0 ≤ s → s < 12 → J (30, 0, 0) s = I (16, I (4, 0, 0) i, 0) 2 → f i = g s) : gz_sm f (I (0, 0, 0) 7).toNat = gz_sm g 12 := by
  have eH := gz_th hT 0 0
  have a1 : gz_sm f (I (0, 0, 0) 7).toNat = gz_sm (fun i => gz_sm (fun s => if J (30, 0, 0) s = I (16, I (4, 0, 0) i, 0) 2 then f i else 0) 12) (I (0, 0, 0) 7).toNat := gz_sm_cong (fun i b1 b2 => by
    obtain ⟨s, hs, e⟩ := h.m1 i b1 (by omega)
    have hn := h.num i b1 (by omega)
    have h9 : gz_sm (fun s => if J (30, 0, 0) s = I (16, I (4, 0, 0) i, 0) 2 then f i else 0) 12 = f i := gz_sm_1 (f := fun s => if J (30, 0, 0) s = I (16, I (4, 0, 0) i, 0) 2 then f i else 0) (n := 12) (q := s) (v := f i) ⟨hs.1, by omega⟩ (if_pos e) (fun s' c1 c2 c3 => if_neg (fun e' => c3 (h.dis s' s c1 (by omega) hs.1 hs.2 (by omega) (by omega))))
    show f i = gz_sm (fun s => if J (30, 0, 0) s = I (16, I (4, 0, 0) i, 0) 2 then f i else 0) 12
    rw [h9])
  have a2 : gz_sm g 12 = gz_sm (fun s => gz_sm (fun i => if J (30, 0, 0) s = I (16, I (4, 0, 0) i, 0) 2 then f i else 0) (I (0, 0, 0) 7).toNat) 12 := gz_sm_cong (fun s b1 b2 => by
    rcases h.m2 s b1 (by omega) with z | ⟨i, z1, z2⟩
    · rw [h0 s b1 (by omega) z]
      have h9 : gz_sm (fun i => if J (30, 0, 0) s = I (16, I (4, 0, 0) i, 0) 2 then f i else 0) (I (0, 0, 0) 7).toNat = 0 := gz_sm_zero (fun i c1 c2 => if_neg (fun e => by have := h.num i c1 (by omega); omega))
      show (0 : Int) = gz_sm (fun i => if J (30, 0, 0) s = I (16, I (4, 0, 0) i, 0) 2 then f i else 0) (I (0, 0, 0) 7).toNat
      rw [h9]
    · rw [← h1 i s z1.1 z1.2 b1 (by omega) z2]
      have h9 : gz_sm (fun i => if J (30, 0, 0) s = I (16, I (4, 0, 0) i, 0) 2 then f i else 0) (I (0, 0, 0) 7).toNat = f i := gz_sm_1 (f := fun i => if J (30, 0, 0) s = I (16, I (4, 0, 0) i, 0) 2 then f i else 0) (n := (I (0, 0, 0) 7).toNat) (q := i) (v := f i) ⟨z1.1, by omega⟩ (if_pos z2) (fun j c1 c2 c3 => if_neg (fun e => c3 (h.uq ⟨c1, by omega⟩ z1 (by omega))))
      show f i = gz_sm (fun i => if J (30, 0, 0) s = I (16, I (4, 0, 0) i, 0) 2 then f i else 0) (I (0, 0, 0) 7).toNat
      rw [h9])
  rw [a1, a2, gz_sm_sw]
theorem gz_RR.nmd (hT : gz_T I) {k s p : Int} (hM : gz_MM I J k s) : gz_nmd I k p ↔ gz_hpM J s p := by
  obtain ⟨⟨-, -, m5, -⟩, m6⟩ := hM
  unfold gz_nmd gz_hpM
  rw [← m5]
  constructor
  · rintro ⟨t, j, a, b, c⟩
    obtain ⟨q1, q2⟩ := m6 t a.1 a.2
    exact ⟨t, j, a, by rw [← q1]; exact b, by rw [← q2 j b.1 b.2]; exact c⟩
  · rintro ⟨t, j, a, b, c⟩
    obtain ⟨q1, q2⟩ := m6 t a.1 a.2
    rw [← q1] at b
    exact ⟨t, j, a, b, by rw [q2 j b.1 b.2]; exact c⟩
end
