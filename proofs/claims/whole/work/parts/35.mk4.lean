/-- the copies of a list's parts, with a state's bytes -/
def gz_cw (L z f b : Int → Int) : Nat → Int → Int
  | 0 => b
  | j + 1 => fun i => if 32 * L j ≤ i ∧ i < 32 * L j + z (L j) then f (gz_sm (fun m => z (L m)) j + (i - 32 * L j)) else gz_cw L z f b j i
def gz_hw (L h : Int → Int) : Nat → Int → Int
  | 0 => h
  | j + 1 => fun p => if p = L j then 1 else gz_hw L h j p
theorem gz_s1_keep {S : gz_S} {f : Int → Int} {n p i : Int} {c : Nat} (h : 0 < S 0 p 0) : (gz_s1 S f n).2 c p i = S c p i := by
  unfold gz_s1
  split
  · split
    · rfl
    · next hq =>
      have hne : ¬ p = gz_lst (fun p => S 0 p 0 = 0) := by
        intro e
        have hl : ∀ P : Int → Prop, ¬ gz_lst P = -1 → P (gz_lst P) := fun P hp => by
          by_cases h : ∃ k : Nat, k < 120 ∧ P k
          · obtain ⟨k, hk, hm⟩ := pk_least (fun k => k < 120 ∧ P k) h
            rw [gz_lst_eq (x := k) (by omega) hk.2 (fun q a b z => hm q.toNat (by omega) ⟨by omega, by rw [Int.toNat_of_nonneg a]; exact z⟩)]
            exact hk.2
          · exact absurd (gz_lst_no (fun q a b z => h ⟨q.toNat, by omega, by rw [Int.toNat_of_nonneg a]; exact z⟩)) hp
        have := hl (fun p => S 0 p 0 = 0) (fun e2 => hq (Or.inl e2))
        rw [← e] at this
        have h9 : S 0 p 0 = 0 := this
        omega
      show gz_add S _ f n c p i = _
      unfold gz_add
      rw [if_neg hne]
  · rfl
theorem gz_s1_sz {S : gz_S} {f : Int → Int} {n : Int} (h : ¬ (gz_s1 S f n).1 = -1) : (gz_s1 S f n).2 0 (gz_s1 S f n).1 0 = n := by
  have hl : ∀ P : Int → Prop, ¬ gz_lst P = -1 → P (gz_lst P) := fun P hp => by
    by_cases h : ∃ k : Nat, k < 120 ∧ P k
    · obtain ⟨k, hk, hm⟩ := pk_least (fun k => k < 120 ∧ P k) h
      rw [gz_lst_eq (x := k) (by omega) hk.2 (fun q a b z => hm q.toNat (by omega) ⟨by omega, by rw [Int.toNat_of_nonneg a]; exact z⟩)]
      exact hk.2
    · exact absurd (gz_lst_no (fun q a b z => h ⟨q.toNat, by omega, by rw [Int.toNat_of_nonneg a]; exact z⟩)) hp
  revert h
  unfold gz_s1
  split
  · split
    · intro h
      exact absurd rfl h
    · intro h
      show gz_add S _ f n 0 _ 0 = n
      show (if _ = _ then n else _) = n
      rw [if_pos rfl]
  · next hq =>
    intro h
    exact (hl _ hq).1
theorem gz_fo_keep {f : Int → Int} {s : Int} {S : gz_S} {p i : Int} {c : Nat} (h : 0 < S 0 p 0) : ∀ n : Nat, gz_fo f s S n c p i = S c p i
  | 0 => rfl
  | n + 1 => by
    have h0 : gz_fo f s S n 0 p 0 = S 0 p 0 := gz_fo_keep h n
    show (gz_s1 (gz_fo f s S n) _ _).2 c p i = _
    rw [gz_s1_keep (by rw [h0]; exact h)]
    exact gz_fo_keep h n
theorem gz_fo_keep2 {f : Int → Int} {s : Int} {S : gz_S} {p i : Int} {c m : Nat} (h : 0 < gz_fo f s S m 0 p 0) : ∀ n : Nat, m ≤ n → gz_fo f s S n c p i = gz_fo f s S m c p i
  | 0, hn => by rw [show m = 0 by omega]
  | n + 1, hn => by
    by_cases e : m = n + 1
    · rw [e]
    · have h0 : gz_fo f s S n 0 p 0 = gz_fo f s S m 0 p 0 := gz_fo_keep2 h n (by omega)
      show (gz_s1 (gz_fo f s S n) _ _).2 c p i = _
      rw [gz_s1_keep (by rw [h0]; exact h)]
      exact gz_fo_keep2 h n (by omega)
theorem gz_fp_sz {f : Int → Int} {s : Int} {S : gz_S} {j n : Nat} (h : ¬ gz_fp f s S j = -1) (hn : j < n) : gz_fo f s S n 0 (gz_fp f s S j) 0 = gz_ck f s (gz_cs f s j) := by
  have h1 : gz_fo f s S (j + 1) 0 (gz_fp f s S j) 0 = gz_ck f s (gz_cs f s j) := gz_s1_sz h
  have h2 := (gz_ck_ok f s (gz_cs f s j)).2.1
  rw [gz_fo_keep2 (m := j + 1) (by rw [h1]; omega) n hn]
  exact h1
theorem gz_ft_keep {F : Int → Int → Int} {Z : Int → Int} {S : gz_S} {p i : Int} {c m : Nat} (h : 0 < gz_ft F Z S m 0 p 0) : ∀ n : Nat, m ≤ n → gz_ft F Z S n c p i = gz_ft F Z S m c p i
  | 0, hn => by rw [show m = 0 by omega]
  | n + 1, hn => by
    by_cases e : m = n + 1
    · rw [e]
    · have h0 : gz_ft F Z S n 0 p 0 = gz_ft F Z S m 0 p 0 := gz_ft_keep h n (by omega)
      show gz_fo _ _ (gz_ft F Z S n) _ c p i = _
      rw [gz_fo_keep (by rw [h0]; exact h)]
      exact gz_ft_keep h n (by omega)
theorem gz_ft_sz {F : Int → Int → Int} {Z : Int → Int} {S : gz_S} {t n j : Nat} (h : gz_fk F Z S t) (hj : j < gz_cc (F t) (Z t)) (hn : t < n) : gz_ft F Z S n 0 (gz_fp (F t) (Z t) (gz_ft F Z S t) j) 0 = gz_ck (F t) (Z t) (gz_cs (F t) (Z t) j) := by
  have h1 : gz_ft F Z S (t + 1) 0 (gz_fp (F t) (Z t) (gz_ft F Z S t) j) 0 = gz_ck (F t) (Z t) (gz_cs (F t) (Z t) j) := gz_fp_sz (h j hj) hj
  have h2 := (gz_ck_ok (F t) (Z t) (gz_cs (F t) (Z t) j)).2.1
  rw [gz_ft_keep (m := t + 1) (by rw [h1]; omega) n hn]
  exact h1
theorem gz_ft_old {F : Int → Int → Int} {Z : Int → Int} {S : gz_S} {p i : Int} {c : Nat} (h : 0 < S 0 p 0) (n : Nat) : gz_ft F Z S n c p i = S c p i := gz_ft_keep (m := 0) h n (Nat.zero_le n)
/-- the sizes of a list's parts sum up to where its chunks begin -/
theorem gz_cs_sm {f : Int → Int} {s : Int} {g : Int → Int} : ∀ {n : Nat}, (∀ j : Nat, j < n → g j = gz_ck f s (gz_cs f s j)) → gz_sm g n = gz_cs f s n
  | 0, _ => rfl
  | n + 1, h => by
    rw [gz_sm_s, gz_cs_sm (n := n) (fun j hj => h j (by omega)), h n (by omega)]
    rfl
set_option maxHeartbeats 4000000 in
set_option maxRecDepth 100000 in
theorem lp_X4_copyStates2 (l : Launch) (D : va_G) (α : gz_P → Nat) (cA : Nat → ClassId) {I0 : gz_M} (hT : gz_T I0) {k : Int} (hk : 0 ≤ k ∧ k < 12) (hsum : ∀ t, 0 ≤ t → t < I0 (16, k, 0) 5 → gz_sm (fun m => (I0 (13, 0, 0)) ((I0 (18, k, t)) m)) (I0 (19, k, 0) t).toNat ≤ 300) : ∀ t, (0 ≤ t ∧ t < I0 (16, k, 0) 5) → (∀ I : gz_M, gz_T I → I (11, t, 0) = gz_hw (I0 (18, k, t)) (I0 (11, t, 0)) (I0 (19, k, 0) t).toNat → I (12, t, 0) = gz_cw (I0 (18, k, t)) (I0 (13, 0, 0)) (I0 (8, t, 0)) (I0 (12, t, 0)) (I0 (19, k, 0) t).toNat → (∀ u, 0 ≤ u → u < t → (I (11, u, 0) = gz_hw (I0 (18, k, u)) (I0 (11, u, 0)) (I0 (19, k, 0) u).toNat ∧ I (12, u, 0) = gz_cw (I0 (18, k, u)) (I0 (13, 0, 0)) (I0 (8, u, 0)) (I0 (12, u, 0)) (I0 (19, k, 0) u).toNat)) → (∀ q, (∀ u, 0 ≤ u → u ≤ t → q ≠ (11, u, 0) ∧ q ≠ (12, u, 0)) → I q = I0 q) → ∀ o1 o2 o3 : Option Value, gz_V l D α cA RX4 cX4_copyStates none 6 2 (gz_Qv fun I' => gz_T I' ∧ (∀ u, 0 ≤ u → u < I0 (16, k, 0) 5 → (I' (11, u, 0) = gz_hw (I0 (18, k, u)) (I0 (11, u, 0)) (I0 (19, k, 0) u).toNat ∧ I' (12, u, 0) = gz_cw (I0 (18, k, u)) (I0 (13, 0, 0)) (I0 (8, u, 0)) (I0 (12, u, 0)) (I0 (19, k, 0) u).toNat)) ∧ ∀ q, (∀ u, 0 ≤ u → u < I0 (16, k, 0) 5 → q ≠ (11, u, 0) ∧ q ≠ (12, u, 0)) → I' q = I0 q) I [some (.ref (α (0, 0, 0))), some (.ref (α (16, k, 0))), some (gz_i (t + 1)), o1, o2, o3] [] 2) → ∀ j, j ≤ I0 (19, k, 0) t → ∀ I : gz_M, 0 ≤ j → gz_T I → I (11, t, 0) = gz_hw (I0 (18, k, t)) (I0 (11, t, 0)) j.toNat → I (12, t, 0) = gz_cw (I0 (18, k, t)) (I0 (13, 0, 0)) (I0 (8, t, 0)) (I0 (12, t, 0)) j.toNat → (∀ u, 0 ≤ u → u < t → (I (11, u, 0) = gz_hw (I0 (18, k, u)) (I0 (11, u, 0)) (I0 (19, k, 0) u).toNat ∧ I (12, u, 0) = gz_cw (I0 (18, k, u)) (I0 (13, 0, 0)) (I0 (8, u, 0)) (I0 (12, u, 0)) (I0 (19, k, 0) u).toNat)) → (∀ q, (∀ u, 0 ≤ u → u ≤ t → q ≠ (11, u, 0) ∧ q ≠ (12, u, 0)) → I q = I0 q) → ∀ o : Option Value, gz_V l D α cA RX4 cX4_copyStates none 6 2 (gz_Qv fun I' => gz_T I' ∧ (∀ u, 0 ≤ u → u < I0 (16, k, 0) 5 → (I' (11, u, 0) = gz_hw (I0 (18, k, u)) (I0 (11, u, 0)) (I0 (19, k, 0) u).toNat ∧ I' (12, u, 0) = gz_cw (I0 (18, k, u)) (I0 (13, 0, 0)) (I0 (8, u, 0)) (I0 (12, u, 0)) (I0 (19, k, 0) u).toNat)) ∧ ∀ q, (∀ u, 0 ≤ u → u < I0 (16, k, 0) 5 → q ≠ (11, u, 0) ∧ q ≠ (12, u, 0)) → I' q = I0 q) I [some (.ref (α (0, 0, 0))), some (.ref (α (16, k, 0))), some (gz_i (t)), some (gz_i (gz_sm (fun m => (I0 (13, 0, 0)) ((I0 (18, k, t)) m)) j.toNat)), some (gz_i (j)), o] [] 15 := by
  intro t ht kk
  have e0 := gz_tm5 hT k 0
  have e1 := gz_t19 hT k 0 t
  refine gz_upto _ ?_
  intro j hji ih I h0 hTI h11 h12 hj hI o
  have e5 := gz_t18 hT k t j
  have e6 := gz_t13 hT 0 0 (I0 (18, k, t) j)
  have r19 : I (19, k, 0) t = I0 (19, k, 0) t := by rw [hI _ (fun u _ _ => ⟨gz_ne rfl, gz_ne rfl⟩)]
  have r18 : I (18, k, t) j = I0 (18, k, t) j := by rw [hI _ (fun u _ _ => ⟨gz_ne rfl, gz_ne rfl⟩)]
  have r13 : ∀ p, I (13, 0, 0) p = I0 (13, 0, 0) p := fun p => by rw [hI _ (fun u _ _ => ⟨gz_ne rfl, gz_ne rfl⟩)]
  have r8 : I (8, t, 0) = I0 (8, t, 0) := hI _ (fun u _ _ => ⟨gz_ne rfl, gz_ne rfl⟩)
  have e7 := hsum t ht.1 ht.2
  have e8 : gz_sm (fun m => (I0 (13, 0, 0)) ((I0 (18, k, t)) m)) j.toNat ≥ 0 := by have := gz_sm_mono (f := fun m => (I0 (13, 0, 0)) ((I0 (18, k, t)) m)) (fun i => (gz_t13 hT 0 0 _).1) (a := 0) (b := j.toNat) (by omega); exact this
  have e9 : j < I0 (19, k, 0) t → gz_sm (fun m => (I0 (13, 0, 0)) ((I0 (18, k, t)) m)) j.toNat + I0 (13, 0, 0) (I0 (18, k, t) j) ≤ 300 := fun hlt => by
    have := gz_sm_mono (f := fun m => (I0 (13, 0, 0)) ((I0 (18, k, t)) m)) (fun i => (gz_t13 hT 0 0 _).1) (a := j.toNat + 1) (b := (I0 (19, k, 0) t).toNat) (by omega)
    rw [gz_sm_s, Int.toNat_of_nonneg h0] at this
    omega
  refine gz_iload (pc := 15) dX4_copyStates_15 rfl ?_
  first | refine gz_aload_n (pc := 17) dX4_copyStates_17 rfl ?_ | refine gz_aload_nN (pc := 17) dX4_copyStates_17 rfl ?_
  refine gz_getr (pc := 18) dX4_copyStates_18 fl_X4_167 rfl rfl rfl (by first | exact gz_B1 | (omega)) ?_
  refine gz_iload_n (pc := 21) dX4_copyStates_21 rfl ?_
  refine gz_iald (pc := 22) dX4_copyStates_22 rfl rfl (by first | exact gz_B1 | (omega)) (by omega) ?_
  rw [r19]
  refine gz_icmp_ge (pc := 23) (tgt := 87) dX4_copyStates_23 (by decide) (by omega) (by omega) (fun h23 => ?_) (fun h23 => ?_)
  · refine gz_iinc (pc := 87) dX4_copyStates_87 rfl rfl rfl rfl ?_
    refine gz_goto (pc := 90) (tgt := 2) dX4_copyStates_90 (by decide) ?_
    have hjn : j = I0 (19, k, 0) t := by omega
    rw [hjn] at h11 h12
    exact kk I hTI h11 h12 hj hI _ _ _
  · first | refine gz_aload_n (pc := 26) dX4_copyStates_26 rfl ?_ | refine gz_aload_nN (pc := 26) dX4_copyStates_26 rfl ?_
    refine gz_getr (pc := 27) dX4_copyStates_27 fl_X4_170 rfl rfl rfl (by first | exact gz_B1 | (omega)) ?_
    refine gz_iload_n (pc := 30) dX4_copyStates_30 rfl ?_
    first | refine gz_ald1 (pc := 31) dX4_copyStates_31 (by omega) ?_ | refine gz_ald2 (pc := 31) dX4_copyStates_31 (by omega) ?_ | refine gz_ald4 (pc := 31) dX4_copyStates_31 (by omega) ?_ | refine gz_ald17 (pc := 31) dX4_copyStates_31 (by first | exact gz_B1 | (omega)) (by omega) ?_
    refine gz_iload (pc := 32) dX4_copyStates_32 rfl ?_
    refine gz_iald (pc := 34) dX4_copyStates_34 rfl rfl (by first | exact gz_B1 | (omega)) (by omega) ?_
    rw [r18]
    refine gz_istore (pc := 35) dX4_copyStates_35 rfl rfl rfl ?_
    first | refine gz_aload_n (pc := 37) dX4_copyStates_37 rfl ?_ | refine gz_aload_nN (pc := 37) dX4_copyStates_37 rfl ?_
    refine gz_getr (pc := 38) dX4_copyStates_38 fl_X4_17 rfl rfl rfl (by first | exact gz_B1 | (omega)) ?_
    refine gz_iload_n (pc := 41) dX4_copyStates_41 rfl ?_
    first | refine gz_ald1 (pc := 42) dX4_copyStates_42 (by omega) ?_ | refine gz_ald2 (pc := 42) dX4_copyStates_42 (by omega) ?_ | refine gz_ald4 (pc := 42) dX4_copyStates_42 (by omega) ?_ | refine gz_ald17 (pc := 42) dX4_copyStates_42 (by first | exact gz_B1 | (omega)) (by omega) ?_
    refine gz_iload (pc := 43) dX4_copyStates_43 rfl ?_
    first | refine gz_aload_n (pc := 45) dX4_copyStates_45 rfl ?_ | refine gz_aload_nN (pc := 45) dX4_copyStates_45 rfl ?_
    refine gz_getr (pc := 46) dX4_copyStates_46 fl_X4_11 rfl rfl rfl (by first | exact gz_B1 | (omega)) ?_
    refine gz_iload_n (pc := 49) dX4_copyStates_49 rfl ?_
    first | refine gz_ald1 (pc := 50) dX4_copyStates_50 (by omega) ?_ | refine gz_ald2 (pc := 50) dX4_copyStates_50 (by omega) ?_ | refine gz_ald4 (pc := 50) dX4_copyStates_50 (by omega) ?_ | refine gz_ald17 (pc := 50) dX4_copyStates_50 (by first | exact gz_B1 | (omega)) (by omega) ?_
    refine gz_getr (pc := 51) dX4_copyStates_51 fl_X4_66 rfl rfl rfl (by first | exact gz_B1 | (omega)) ?_
    refine gz_iload_n (pc := 54) dX4_copyStates_54 rfl ?_
    first | refine gz_aload_n (pc := 55) dX4_copyStates_55 rfl ?_ | refine gz_aload_nN (pc := 55) dX4_copyStates_55 rfl ?_
    refine gz_getr (pc := 56) dX4_copyStates_56 fl_X4_24 rfl rfl rfl (by first | exact gz_B1 | (omega)) ?_
    refine gz_getr (pc := 59) dX4_copyStates_59 fl_X4_180 rfl rfl rfl (by first | exact gz_B1 | (omega)) ?_
    refine gz_iload (pc := 62) dX4_copyStates_62 rfl ?_
    refine gz_iald (pc := 64) dX4_copyStates_64 rfl rfl (by first | exact gz_B1 | (omega)) (by omega) ?_
    rw [r13]
    refine gz_cV4v (pc := 65) dX4_copyStates_65 wm_X4_251 my_X1_put rfl rfl rfl (by first | exact gz_B1 | (omega)) (ct_X1_put l D α cA (a := t) (r := 8) (b := t) (c := 0) (by omega) rfl rfl (by omega) (by omega) (by omega)) (fun I65 h65 => ?_)
    subst h65
    refine gz_iload_n (pc := 68) dX4_copyStates_68 rfl ?_
    first | refine gz_aload_n (pc := 69) dX4_copyStates_69 rfl ?_ | refine gz_aload_nN (pc := 69) dX4_copyStates_69 rfl ?_
    refine gz_getr (pc := 70) dX4_copyStates_70 fl_X4_24 rfl rfl rfl (by first | exact gz_B1 | (omega)) ?_
    refine gz_getr (pc := 73) dX4_copyStates_73 fl_X4_180 rfl rfl rfl (by first | exact gz_B1 | (omega)) ?_
    refine gz_iload (pc := 76) dX4_copyStates_76 rfl ?_
    refine gz_iald (pc := 78) dX4_copyStates_78 rfl rfl (by first | exact gz_B1 | (omega)) (by omega) ?_
    rw [gz_up_r (by decide), gz_cp_r (by decide), r13]
    refine gz_iadd (pc := 79) dX4_copyStates_79 ?_
    refine gz_istore_n (pc := 80) dX4_copyStates_80 rfl rfl rfl ?_
    refine gz_iinc (pc := 81) dX4_copyStates_81 rfl rfl rfl rfl ?_
    refine gz_goto (pc := 84) (tgt := 15) dX4_copyStates_84 (by decide) ?_
    have hcast : ((j.toNat : Nat) : Int) = j := Int.toNat_of_nonneg h0
    have hs2 : gz_sm (fun m => (I0 (13, 0, 0)) ((I0 (18, k, t)) m)) j.toNat + I0 (13, 0, 0) (I0 (18, k, t) j) = gz_sm (fun m => (I0 (13, 0, 0)) ((I0 (18, k, t)) m)) (j + 1).toNat := by rw [show (j + 1).toNat = j.toNat + 1 by omega, gz_sm_s, hcast]
    rw [hs2]
    refine ih (j + 1) (by omega) (by omega) _ (by omega) (gz_Tu11 (gz_T_cp hTI (fun _ => ⟨rfl, rfl⟩) (fun _ => ⟨rfl, rfl⟩)) (by decide)) ?_ ?_ (fun u a1 a2 => ?_) (fun q hq => ?_) _
    · rw [show (j + 1).toNat = j.toNat + 1 by omega]
      funext p
      show _ = if p = (I0 (18, k, t)) ((j.toNat : Nat) : Int) then 1 else gz_hw (I0 (18, k, t)) (I0 (11, t, 0)) j.toNat p
      rw [hcast, gz_up_eq, gz_cp_r (by decide), h11]
    · rw [show (j + 1).toNat = j.toNat + 1 by omega, gz_up_ne (gz_ne rfl)]
      funext i
      show _ = if 32 * (I0 (18, k, t)) ((j.toNat : Nat) : Int) ≤ i ∧ i < 32 * (I0 (18, k, t)) ((j.toNat : Nat) : Int) + (I0 (13, 0, 0)) ((I0 (18, k, t)) ((j.toNat : Nat) : Int)) then I0 (8, t, 0) (gz_sm (fun m => (I0 (13, 0, 0)) ((I0 (18, k, t)) m)) j.toNat + (i - 32 * (I0 (18, k, t)) ((j.toNat : Nat) : Int))) else gz_cw (I0 (18, k, t)) (I0 (13, 0, 0)) (I0 (8, t, 0)) (I0 (12, t, 0)) j.toNat i
      rw [hcast, gz_cp_k, h12, r8]
      simp only [and_self, true_and]
    · have hd := hj u a1 a2
      have hne : ∀ r : Nat, ((r, u, 0) : gz_P) ≠ (r, t, 0) := fun r e => by injection e with _ e; injection e with e; omega
      rw [gz_up_ne (hne 11), gz_up_ne (gz_ne rfl)]
      have c11 : gz_cp I (8, t, 0) (12, t, 0) (gz_sm (fun m => (I0 (13, 0, 0)) ((I0 (18, k, t)) m)) j.toNat) (32 * (I0 (18, k, t) j)) (I0 (13, 0, 0) (I0 (18, k, t) j)) (11, u, 0) = I (11, u, 0) := by funext i; rw [gz_cp_r (by decide)]
      have c12 : gz_cp I (8, t, 0) (12, t, 0) (gz_sm (fun m => (I0 (13, 0, 0)) ((I0 (18, k, t)) m)) j.toNat) (32 * (I0 (18, k, t) j)) (I0 (13, 0, 0) (I0 (18, k, t) j)) (12, u, 0) = I (12, u, 0) := by funext i; unfold gz_cp; rw [if_neg (fun e => hne 12 e.1)]
      rw [c11, c12]
      exact hd
    · rw [gz_up_ne (hq t (by omega) (by omega)).1, ← hI q hq]
      funext i
      unfold gz_cp
      rw [if_neg (fun e => (hq t (by omega) (by omega)).2 e.1)]
set_option maxHeartbeats 4000000 in
set_option maxRecDepth 100000 in
theorem lp_X4_copyStates (l : Launch) (D : va_G) (α : gz_P → Nat) (cA : Nat → ClassId) {I0 : gz_M} (hT : gz_T I0) {k : Int} (hk : 0 ≤ k ∧ k < 12) (hsum : ∀ t, 0 ≤ t → t < I0 (16, k, 0) 5 → gz_sm (fun m => (I0 (13, 0, 0)) ((I0 (18, k, t)) m)) (I0 (19, k, 0) t).toNat ≤ 300) : ∀ t, t ≤ I0 (16, k, 0) 5 → ∀ I : gz_M, 0 ≤ t → gz_T I → (∀ u, 0 ≤ u → u < t → (I (11, u, 0) = gz_hw (I0 (18, k, u)) (I0 (11, u, 0)) (I0 (19, k, 0) u).toNat ∧ I (12, u, 0) = gz_cw (I0 (18, k, u)) (I0 (13, 0, 0)) (I0 (8, u, 0)) (I0 (12, u, 0)) (I0 (19, k, 0) u).toNat)) → (∀ q, (∀ u, 0 ≤ u → u < t → q ≠ (11, u, 0) ∧ q ≠ (12, u, 0)) → I q = I0 q) → ∀ o1 o2 o3 : Option Value, gz_V l D α cA RX4 cX4_copyStates none 6 2 (gz_Qv fun I' => gz_T I' ∧ (∀ u, 0 ≤ u → u < I0 (16, k, 0) 5 → (I' (11, u, 0) = gz_hw (I0 (18, k, u)) (I0 (11, u, 0)) (I0 (19, k, 0) u).toNat ∧ I' (12, u, 0) = gz_cw (I0 (18, k, u)) (I0 (13, 0, 0)) (I0 (8, u, 0)) (I0 (12, u, 0)) (I0 (19, k, 0) u).toNat)) ∧ ∀ q, (∀ u, 0 ≤ u → u < I0 (16, k, 0) 5 → q ≠ (11, u, 0) ∧ q ≠ (12, u, 0)) → I' q = I0 q) I [some (.ref (α (0, 0, 0))), some (.ref (α (16, k, 0))), some (gz_i (t)), o1, o2, o3] [] 2 := by
  have e0 := gz_tm5 hT k 0
  refine gz_upto _ ?_
  intro t ht ih I h0 hTI hj hI o1 o2 o3
  have r5 : I (16, k, 0) 5 = I0 (16, k, 0) 5 := by rw [hI _ (fun u _ _ => ⟨gz_ne rfl, gz_ne rfl⟩)]
  refine gz_iload_n (pc := 2) dX4_copyStates_2 rfl ?_
  first | refine gz_aload_n (pc := 3) dX4_copyStates_3 rfl ?_ | refine gz_aload_nN (pc := 3) dX4_copyStates_3 rfl ?_
  refine gz_getI (pc := 4) 5 dX4_copyStates_4 fl_X4_142 rfl rfl rfl rfl (by first | exact gz_B1 | (omega)) ?_
  rw [r5]
  refine gz_icmp_ge (pc := 7) (tgt := 93) dX4_copyStates_7 (by decide) (by omega) (by omega) (fun h7 => ?_) (fun h7 => ?_)
  · refine gz_vret (pc := 93) dX4_copyStates_93 rfl ?_
    exact ⟨hTI, fun u a1 a2 => hj u a1 (by omega), fun q hq => hI q (fun u a1 a2 => hq u a1 (by omega))⟩
  · refine gz_iconst (pc := 10) dX4_copyStates_10 ?_
    refine gz_istore_n (pc := 11) dX4_copyStates_11 rfl rfl rfl ?_
    refine gz_iconst (pc := 12) dX4_copyStates_12 ?_
    refine gz_istore (pc := 13) dX4_copyStates_13 rfl rfl rfl ?_
    refine lp_X4_copyStates2 l D α cA hT hk hsum t (by omega) ?_ 0 (by have := gz_t19 hT k 0 t; omega) I (by omega) hTI ?_ ?_ hj (fun q hq => hI q (fun u a1 a2 => hq u a1 (by omega))) _
    · intro I9 g1 g2 g3 g4 g5 p1 p2 p3
      exact ih (t + 1) (by omega) (by omega) I9 (by omega) g1 (fun u a1 a2 => by
        by_cases z : u = t
        · rw [z]; exact ⟨g2, g3⟩
        · exact g4 u a1 (by omega)) (fun q hq => g5 q (fun u a1 a2 => hq u a1 (by omega))) _ _ _
    · rw [hI _ (fun u _ a2 => ⟨fun e => by injection e with _ e; injection e with e; omega, gz_ne rfl⟩)]; rfl
    · rw [hI _ (fun u _ a2 => ⟨gz_ne rfl, fun e => by injection e with _ e; injection e with e; omega⟩)]; rfl
set_option maxHeartbeats 4000000 in
set_option maxRecDepth 100000 in
theorem ct_X4_copyStates (l : Launch) (D : va_G) (α : gz_P → Nat) (cA : Nat → ClassId) {I0 : gz_M} (hT : gz_T I0) {k : Int} (hk : 0 ≤ k ∧ k < 12) (hsum : ∀ t, 0 ≤ t → t < I0 (16, k, 0) 5 → gz_sm (fun m => (I0 (13, 0, 0)) ((I0 (18, k, t)) m)) (I0 (19, k, 0) t).toNat ≤ 300) : gz_V l D α cA RX4 cX4_copyStates none 6 2 (gz_Qv fun I' => gz_T I' ∧ (∀ u, 0 ≤ u → u < I0 (16, k, 0) 5 → (I' (11, u, 0) = gz_hw (I0 (18, k, u)) (I0 (11, u, 0)) (I0 (19, k, 0) u).toNat ∧ I' (12, u, 0) = gz_cw (I0 (18, k, u)) (I0 (13, 0, 0)) (I0 (8, u, 0)) (I0 (12, u, 0)) (I0 (19, k, 0) u).toNat)) ∧ ∀ q, (∀ u, 0 ≤ u → u < I0 (16, k, 0) 5 → q ≠ (11, u, 0) ∧ q ≠ (12, u, 0)) → I' q = I0 q) I0 [some (.ref (α (0, 0, 0))), some (.ref (α (16, k, 0))), none, none, none, none] [] 0 := by
  refine gz_iconst (pc := 0) dX4_copyStates_0 ?_
  refine gz_istore_n (pc := 1) dX4_copyStates_1 rfl rfl rfl ?_
  exact lp_X4_copyStates l D α cA hT hk hsum 0 (by have := gz_tm5 hT k 0; omega) I0 (by omega) hT (fun u a1 a2 => by omega) (fun q _ => rfl) _ _ _
