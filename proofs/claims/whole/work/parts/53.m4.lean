theorem gz_mt_M {I : gz_M} (hT : gz_T I) {f : Int → Int} {n q : Int} (hn : 0 < n) (hq : 0 ≤ q ∧ q < 120) : gz_mt (gz_aM I) f n q ↔ (I (24, 0, 0) q = n ∧ gz_snM I q ∧ ∀ i, 0 ≤ i → i < n → I (27, 0, 0) (32 * q + i) = f i) := by
  have h26 := gz_t26 hT 0 0 q
  unfold gz_mt gz_aM gz_snM
  show ((if 0 ≤ q ∧ q < 120 then I (24, 0, 0) q else 0) = n ∧ (if (0 ≤ q ∧ q < 120) ∧ 0 < I (24, 0, 0) q then I (25, 0, 0) q else 0) = gz_dg f n.toNat ∧ (if (0 ≤ q ∧ q < 120) ∧ 0 < I (24, 0, 0) q then 1 - I (26, 0, 0) q else 0) = 1 ∧ ∀ i, 0 ≤ i → i < n → (if (0 ≤ q ∧ q < 120) ∧ 0 ≤ i ∧ i < I (24, 0, 0) q then I (27, 0, 0) (32 * q + i) else 0) = f i) ↔ _
  rw [if_pos hq]
  constructor
  · rintro ⟨h1, h2, h3, h4⟩
    rw [if_pos ⟨hq, by omega⟩] at h2 h3
    have h5 : ∀ i, 0 ≤ i → i < n → I (27, 0, 0) (32 * q + i) = f i := fun i a b => by have := h4 i a b; rw [if_pos ⟨hq, a, by omega⟩] at this; exact this
    refine ⟨h1, ⟨by omega, ?_⟩, h5⟩
    rw [h1, h2]
    exact gz_dg_cong (fun i a b => h5 i a (by omega))
  · rintro ⟨h1, ⟨h2, h3⟩, h4⟩
    rw [if_pos ⟨hq, by omega⟩, if_pos ⟨hq, by omega⟩]
    refine ⟨h1, ?_, by omega, fun i a b => by rw [if_pos ⟨hq, a, by omega⟩]; exact h4 i a b⟩
    rw [← h3, h1]
    exact gz_dg_cong (fun i a b => h4 i a (by omega))
theorem gz_z_M {I : gz_M} {q : Int} (hq : 0 ≤ q ∧ q < 120) : gz_aM I 0 q 0 = I (24, 0, 0) q := by
  show (if 0 ≤ q ∧ q < 120 then I (24, 0, 0) q else 0) = _
  rw [if_pos hq]
theorem gz_tot_M {I : gz_M} : gz_sm (fun p => I (24, 0, 0) p) 120 = gz_tot (gz_aM I) := by
  unfold gz_tot
  exact gz_sm_cong (fun p a b => (gz_z_M ⟨a, by omega⟩).symm)
/-- a part is new in the reference -/
def gz_NW (I I' : gz_M) (f : Int → Int) (n x : Int) : Prop := (∀ p, I' (24, 0, 0) p = if p = x then n else I (24, 0, 0) p) ∧ (∀ p, I' (25, 0, 0) p = if p = x then gz_dg f n.toNat else I (25, 0, 0) p) ∧ (∀ p, I' (26, 0, 0) p = if p = x then 0 else I (26, 0, 0) p) ∧ (∀ p, I' (39, 0, 0) p = if p = x then 1 else I (39, 0, 0) p) ∧ (∀ i, I' (27, 0, 0) i = if 32 * x ≤ i ∧ i < 32 * x + n then f (i - 32 * x) else I (27, 0, 0) i) ∧ ∀ q : gz_P, q ≠ (24, 0, 0) → q ≠ (25, 0, 0) → q ≠ (26, 0, 0) → q ≠ (27, 0, 0) → q ≠ (39, 0, 0) → I' q = I q
theorem gz_NW_a {I I' : gz_M} (hT : gz_T I) {f : Int → Int} {n x : Int} (hn : 0 < n ∧ n ≤ 32) (hx : 0 ≤ x ∧ x < 120) (h : gz_NW I I' f n x) : gz_aM I' = gz_add (gz_aM I) x f n := by
  obtain ⟨h1, h2, h3, -, h4, -⟩ := h
  funext c p i
  unfold gz_aM gz_add
  match c with
  | 0 =>
    show (if 0 ≤ p ∧ p < 120 then I' (24, 0, 0) p else 0) = if p = x then n else if 0 ≤ p ∧ p < 120 then I (24, 0, 0) p else 0
    rw [h1]
    by_cases e : p = x
    · rw [if_pos e, if_pos e, if_pos (by omega)]
    · rw [if_neg e, if_neg e]
  | 1 =>
    show (if (0 ≤ p ∧ p < 120) ∧ 0 < I' (24, 0, 0) p then I' (25, 0, 0) p else 0) = if p = x then gz_dg f n.toNat else if (0 ≤ p ∧ p < 120) ∧ 0 < I (24, 0, 0) p then I (25, 0, 0) p else 0
    rw [h1, h2]
    by_cases e : p = x
    · rw [if_pos e, if_pos e, if_pos e, if_pos (by omega)]
    · rw [if_neg e, if_neg e, if_neg e]
  | 2 =>
    show (if (0 ≤ p ∧ p < 120) ∧ 0 < I' (24, 0, 0) p then 1 - I' (26, 0, 0) p else 0) = if p = x then 1 else if (0 ≤ p ∧ p < 120) ∧ 0 < I (24, 0, 0) p then 1 - I (26, 0, 0) p else 0
    rw [h1, h3]
    by_cases e : p = x
    · rw [if_pos e, if_pos e, if_pos e, if_pos (by omega)]
      rfl
    · rw [if_neg e, if_neg e, if_neg e]
  | 3 =>
    show (if (0 ≤ p ∧ p < 120) ∧ 0 ≤ i ∧ i < I' (24, 0, 0) p then I' (27, 0, 0) (32 * p + i) else 0) = if p = x then (if 0 ≤ i ∧ i < n then f i else 0) else if (0 ≤ p ∧ p < 120) ∧ 0 ≤ i ∧ i < I (24, 0, 0) p then I (27, 0, 0) (32 * p + i) else 0
    rw [h1, h4]
    by_cases e : p = x
    · rw [if_pos e, if_pos e]
      by_cases hi : 0 ≤ i ∧ i < n
      · rw [if_pos hi, if_pos (by omega), if_pos (by omega), e, show 32 * x + i - 32 * x = i by omega]
      · rw [if_neg hi, if_neg (fun q => hi q.2)]
    · rw [if_neg e, if_neg e]
      by_cases hi : (0 ≤ p ∧ p < 120) ∧ 0 ≤ i ∧ i < I (24, 0, 0) p
      · have := gz_t24 hT 0 0 p
        rw [if_pos hi, if_pos hi, if_neg (by omega)]
      · rw [if_neg hi, if_neg hi]
  | c + 4 =>
    show (0 : Int) = if p = x then 0 else 0
    rw [ite_self]
set_option maxHeartbeats 4000000 in
set_option maxRecDepth 100000 in
theorem lp_X5_isChunk (l : Launch) (D : va_G) (α : gz_P → Nat) (cA : Nat → ClassId) {I : gz_M} (hT : gz_T I) {p t a n : Int} (hp : 0 ≤ p ∧ p < 120) (ht : 0 ≤ t ∧ t < 4) (ha : 0 ≤ a ∧ 0 < n ∧ n ≤ 32 ∧ a + n ≤ 300) : ∀ k, k ≤ n → 0 ≤ k → ∀ b : Int, (b = 1 ∧ I (24, 0, 0) p = n ∧ gz_snM I p ∧ (∀ i, 0 ≤ i → i < k → I (27, 0, 0) (32 * p + i) = I (22, 0, 0) (300 * t + a + i)) ∨ b = 0 ∧ ¬ (gz_mt (gz_aM I) (fun i => I (22, 0, 0) (300 * t + a + i)) n p)) → gz_V l D α cA RX5 cX5_isChunk (some .boolean) 7 1 (gz_Qi fun x I' => I = I' ∧ x = gz_b (gz_mt (gz_aM I) (fun i => I (22, 0, 0) (300 * t + a + i)) n p)) I [some (.ref (α (20, 0, 0))), some (gz_i (p)), some (gz_i (t)), some (gz_i (a)), some (gz_i (n)), some (gz_i (b)), some (gz_i (k))] [] 29 := by
  refine gz_upto _ ?_
  intro k hk ih h0 b hb
  have e1 := gz_t27 hT 0 0 (32 * p + k)
  have e2 := gz_t22 hT 0 0 (300 * t + a + k)
  have hbr : 0 ≤ b ∧ b ≤ 1 := by rcases hb with h | h <;> omega
  refine gz_iload (pc := 29) dX5_isChunk_29 rfl ?_
  refine gz_iload (pc := 31) dX5_isChunk_31 rfl ?_
  refine gz_icmp_ge (pc := 33) (tgt := 84) dX5_isChunk_33 (by decide) (by omega) (by omega) (fun h33 => ?_) (fun h33 => ?_)
  · refine gz_iload (pc := 84) dX5_isChunk_84 rfl ?_
    refine gz_zret (pc := 86) dX5_isChunk_86 rfl (by rcases hb with h | h; exact Or.inr h.1; exact Or.inl h.1) ?_
    refine ⟨rfl, ?_⟩
    rcases hb with ⟨b1, b2, b3, b4⟩ | ⟨b1, b2⟩
    · first
        | exact absurd b1 (by omega)
        | (rw [gz_b1 ((gz_mt_M hT ha.2.1 hp).mpr ⟨b2, b3, fun i a1 a2 => b4 i a1 (by omega)⟩)]; exact b1)
    · rw [gz_b0 b2]; exact b1
  · refine gz_iload (pc := 36) dX5_isChunk_36 rfl ?_
    refine gz_if_eq (pc := 38) (tgt := 84) dX5_isChunk_38 (by decide) (by omega) (fun h38 => ?_) (fun h38 => ?_)
    · refine gz_iload (pc := 84) dX5_isChunk_84 rfl ?_
      refine gz_zret (pc := 86) dX5_isChunk_86 rfl (by rcases hb with h | h; exact Or.inr h.1; exact Or.inl h.1) ?_
      refine ⟨rfl, ?_⟩
      rcases hb with ⟨b1, b2, b3, b4⟩ | ⟨b1, b2⟩
      · first
          | exact absurd b1 (by omega)
          | (rw [gz_b1 ((gz_mt_M hT ha.2.1 hp).mpr ⟨b2, b3, fun i a1 a2 => b4 i a1 (by omega)⟩)]; exact b1)
      · rw [gz_b0 b2]; exact b1
    · first | refine gz_aload_n (pc := 41) dX5_isChunk_41 rfl ?_ | refine gz_aload_nN (pc := 41) dX5_isChunk_41 rfl ?_
      refine gz_getr (pc := 42) dX5_isChunk_42 fl_X5_33 rfl rfl rfl (by first | exact gz_B1 | (omega)) ?_
      refine gz_bipush (pc := 45) dX5_isChunk_45 rfl ?_
      refine gz_iload_n (pc := 47) dX5_isChunk_47 rfl ?_
      refine gz_imul (pc := 48) dX5_isChunk_48 ?_
      refine gz_iload (pc := 49) dX5_isChunk_49 rfl ?_
      refine gz_iadd (pc := 51) dX5_isChunk_51 ?_
      refine gz_iald (pc := 52) dX5_isChunk_52 rfl rfl (by first | exact gz_B1 | (omega)) (by omega) ?_
      first | refine gz_aload_n (pc := 53) dX5_isChunk_53 rfl ?_ | refine gz_aload_nN (pc := 53) dX5_isChunk_53 rfl ?_
      refine gz_getr (pc := 54) dX5_isChunk_54 fl_X5_17 rfl rfl rfl (by first | exact gz_B1 | (omega)) ?_
      refine gz_sipush (pc := 57) dX5_isChunk_57 rfl ?_
      refine gz_iload_n (pc := 60) dX5_isChunk_60 rfl ?_
      refine gz_imul (pc := 61) dX5_isChunk_61 ?_
      refine gz_iload_n (pc := 62) dX5_isChunk_62 rfl ?_
      refine gz_iadd (pc := 63) dX5_isChunk_63 ?_
      refine gz_iload (pc := 64) dX5_isChunk_64 rfl ?_
      refine gz_iadd (pc := 66) dX5_isChunk_66 ?_
      refine gz_iald (pc := 67) dX5_isChunk_67 rfl rfl (by first | exact gz_B1 | (omega)) (by omega) ?_
      refine gz_icmp_ne (pc := 68) (tgt := 75) dX5_isChunk_68 (by decide) (by omega) (by omega) (fun h68 => ?_) (fun h68 => ?_)
      · refine gz_iconst (pc := 75) dX5_isChunk_75 ?_
        refine gz_istore (pc := 76) dX5_isChunk_76 rfl rfl rfl ?_
        refine gz_iinc (pc := 78) dX5_isChunk_78 rfl rfl rfl rfl ?_
        refine gz_goto (pc := 81) (tgt := 29) dX5_isChunk_81 (by decide) ?_
        refine ih (k + 1) (by omega) (by omega) (by omega) _ ?_
        rcases hb with ⟨b1, b2, b3, b4⟩ | ⟨b1, b2⟩
        · first
            | (refine Or.inl ⟨rfl, b2, b3, fun i a1 a2 => ?_⟩
               by_cases z : i = k
               · rw [z]; exact h68
               · exact b4 i a1 (by omega))
            | (refine Or.inr ⟨rfl, fun z => h68 ?_⟩
               exact ((gz_mt_M hT ha.2.1 hp).mp z).2.2 k h0 (by omega))
        · exact absurd b1 (by omega)
      · refine gz_iconst (pc := 71) dX5_isChunk_71 ?_
        refine gz_goto (pc := 72) (tgt := 76) dX5_isChunk_72 (by decide) ?_
        refine gz_istore (pc := 76) dX5_isChunk_76 rfl rfl rfl ?_
        refine gz_iinc (pc := 78) dX5_isChunk_78 rfl rfl rfl rfl ?_
        refine gz_goto (pc := 81) (tgt := 29) dX5_isChunk_81 (by decide) ?_
        refine ih (k + 1) (by omega) (by omega) (by omega) _ ?_
        rcases hb with ⟨b1, b2, b3, b4⟩ | ⟨b1, b2⟩
        · first
            | (refine Or.inl ⟨rfl, b2, b3, fun i a1 a2 => ?_⟩
               by_cases z : i = k
               · rw [z]; exact h68
               · exact b4 i a1 (by omega))
            | (refine Or.inr ⟨rfl, fun z => h68 ?_⟩
               exact ((gz_mt_M hT ha.2.1 hp).mp z).2.2 k h0 (by omega))
        · exact absurd b1 (by omega)
set_option maxHeartbeats 4000000 in
set_option maxRecDepth 100000 in
theorem ct_X5_isChunk (l : Launch) (D : va_G) (α : gz_P → Nat) (cA : Nat → ClassId) {I : gz_M} (hT : gz_T I) {p t a n : Int} (hp : 0 ≤ p ∧ p < 120) (ht : 0 ≤ t ∧ t < 4) (ha : 0 ≤ a ∧ 0 < n ∧ n ≤ 32 ∧ a + n ≤ 300) : gz_V l D α cA RX5 cX5_isChunk (some .boolean) 7 1 (gz_Qi fun x I' => I = I' ∧ x = gz_b (gz_mt (gz_aM I) (fun i => I (22, 0, 0) (300 * t + a + i)) n p)) I [some (.ref (α (20, 0, 0))), some (gz_i (p)), some (gz_i (t)), some (gz_i (a)), some (gz_i (n)), none, none] [] 0 := by
  have e1 := gz_t24 hT 0 0 p
  first | refine gz_aload_n (pc := 0) dX5_isChunk_0 rfl ?_ | refine gz_aload_nN (pc := 0) dX5_isChunk_0 rfl ?_
  refine gz_getr (pc := 1) dX5_isChunk_1 fl_X5_23 rfl rfl rfl (by first | exact gz_B1 | (omega)) ?_
  refine gz_iload_n (pc := 4) dX5_isChunk_4 rfl ?_
  refine gz_iald (pc := 5) dX5_isChunk_5 rfl rfl (by first | exact gz_B1 | (omega)) (by omega) ?_
  refine gz_iload (pc := 6) dX5_isChunk_6 rfl ?_
  refine gz_icmp_ne (pc := 8) (tgt := 23) dX5_isChunk_8 (by decide) (by omega) (by omega) (fun h8 => ?_) (fun h8 => ?_)
  · refine gz_iconst (pc := 23) dX5_isChunk_23 ?_
    refine gz_istore (pc := 24) dX5_isChunk_24 rfl rfl rfl ?_
    refine gz_iconst (pc := 26) dX5_isChunk_26 ?_
    refine gz_istore (pc := 27) dX5_isChunk_27 rfl rfl rfl ?_
    first
      | exact absurd rfl h16
      | exact absurd h16 (by decide)
      | exact lp_X5_isChunk l D α cA hT hp ht ha 0 (by omega) (by omega) 1 (Or.inl ⟨rfl, h8, hb, fun i a1 a2 => by omega⟩)
      | exact lp_X5_isChunk l D α cA hT hp ht ha 0 (by omega) (by omega) 0 (Or.inr ⟨rfl, fun z => hb ((gz_mt_M hT ha.2.1 hp).mp z).2.1⟩)
      | exact lp_X5_isChunk l D α cA hT hp ht ha 0 (by omega) (by omega) 0 (Or.inr ⟨rfl, fun z => h8 ((gz_mt_M hT ha.2.1 hp).mp z).1⟩)
  · first | refine gz_aload_n (pc := 11) dX5_isChunk_11 rfl ?_ | refine gz_aload_nN (pc := 11) dX5_isChunk_11 rfl ?_
    refine gz_iload_n (pc := 12) dX5_isChunk_12 rfl ?_
    refine gz_cV1i (pc := 13) dX5_isChunk_13 wm_X5_97 my_X5_isBroken rfl rfl rfl (by first | exact gz_B1 | (omega)) (ct_X5_isBroken l D α cA hT hp) (fun x13 I13 h13 => ?_)
    obtain ⟨rfl, ⟨rfl, hb⟩ | ⟨rfl, hb⟩⟩ := h13
    · refine gz_if_ne (pc := 16) (tgt := 23) dX5_isChunk_16 (by decide) (by omega) (fun h16 => ?_) (fun h16 => ?_)
      · refine gz_iconst (pc := 23) dX5_isChunk_23 ?_
        refine gz_istore (pc := 24) dX5_isChunk_24 rfl rfl rfl ?_
        refine gz_iconst (pc := 26) dX5_isChunk_26 ?_
        refine gz_istore (pc := 27) dX5_isChunk_27 rfl rfl rfl ?_
        first
          | exact absurd rfl h16
          | exact absurd h16 (by decide)
          | exact lp_X5_isChunk l D α cA hT hp ht ha 0 (by omega) (by omega) 1 (Or.inl ⟨rfl, h8, hb, fun i a1 a2 => by omega⟩)
          | exact lp_X5_isChunk l D α cA hT hp ht ha 0 (by omega) (by omega) 0 (Or.inr ⟨rfl, fun z => hb ((gz_mt_M hT ha.2.1 hp).mp z).2.1⟩)
          | exact lp_X5_isChunk l D α cA hT hp ht ha 0 (by omega) (by omega) 0 (Or.inr ⟨rfl, fun z => h8 ((gz_mt_M hT ha.2.1 hp).mp z).1⟩)
      · refine gz_iconst (pc := 19) dX5_isChunk_19 ?_
        refine gz_goto (pc := 20) (tgt := 24) dX5_isChunk_20 (by decide) ?_
        refine gz_istore (pc := 24) dX5_isChunk_24 rfl rfl rfl ?_
        refine gz_iconst (pc := 26) dX5_isChunk_26 ?_
        refine gz_istore (pc := 27) dX5_isChunk_27 rfl rfl rfl ?_
        first
          | exact absurd rfl h16
          | exact absurd h16 (by decide)
          | exact lp_X5_isChunk l D α cA hT hp ht ha 0 (by omega) (by omega) 1 (Or.inl ⟨rfl, h8, hb, fun i a1 a2 => by omega⟩)
          | exact lp_X5_isChunk l D α cA hT hp ht ha 0 (by omega) (by omega) 0 (Or.inr ⟨rfl, fun z => hb ((gz_mt_M hT ha.2.1 hp).mp z).2.1⟩)
          | exact lp_X5_isChunk l D α cA hT hp ht ha 0 (by omega) (by omega) 0 (Or.inr ⟨rfl, fun z => h8 ((gz_mt_M hT ha.2.1 hp).mp z).1⟩)
    · refine gz_if_ne (pc := 16) (tgt := 23) dX5_isChunk_16 (by decide) (by omega) (fun h16 => ?_) (fun h16 => ?_)
      · refine gz_iconst (pc := 23) dX5_isChunk_23 ?_
        refine gz_istore (pc := 24) dX5_isChunk_24 rfl rfl rfl ?_
        refine gz_iconst (pc := 26) dX5_isChunk_26 ?_
        refine gz_istore (pc := 27) dX5_isChunk_27 rfl rfl rfl ?_
        first
          | exact absurd rfl h16
          | exact absurd h16 (by decide)
          | exact lp_X5_isChunk l D α cA hT hp ht ha 0 (by omega) (by omega) 1 (Or.inl ⟨rfl, h8, hb, fun i a1 a2 => by omega⟩)
          | exact lp_X5_isChunk l D α cA hT hp ht ha 0 (by omega) (by omega) 0 (Or.inr ⟨rfl, fun z => hb ((gz_mt_M hT ha.2.1 hp).mp z).2.1⟩)
          | exact lp_X5_isChunk l D α cA hT hp ht ha 0 (by omega) (by omega) 0 (Or.inr ⟨rfl, fun z => h8 ((gz_mt_M hT ha.2.1 hp).mp z).1⟩)
      · refine gz_iconst (pc := 19) dX5_isChunk_19 ?_
        refine gz_goto (pc := 20) (tgt := 24) dX5_isChunk_20 (by decide) ?_
        refine gz_istore (pc := 24) dX5_isChunk_24 rfl rfl rfl ?_
        refine gz_iconst (pc := 26) dX5_isChunk_26 ?_
        refine gz_istore (pc := 27) dX5_isChunk_27 rfl rfl rfl ?_
        first
          | exact absurd rfl h16
          | exact absurd h16 (by decide)
          | exact lp_X5_isChunk l D α cA hT hp ht ha 0 (by omega) (by omega) 1 (Or.inl ⟨rfl, h8, hb, fun i a1 a2 => by omega⟩)
          | exact lp_X5_isChunk l D α cA hT hp ht ha 0 (by omega) (by omega) 0 (Or.inr ⟨rfl, fun z => hb ((gz_mt_M hT ha.2.1 hp).mp z).2.1⟩)
          | exact lp_X5_isChunk l D α cA hT hp ht ha 0 (by omega) (by omega) 0 (Or.inr ⟨rfl, fun z => h8 ((gz_mt_M hT ha.2.1 hp).mp z).1⟩)
set_option maxHeartbeats 4000000 in
set_option maxRecDepth 100000 in
theorem lp_X5_partFor3 (l : Launch) (D : va_G) (α : gz_P → Nat) (cA : Nat → ClassId) {I0 : gz_M} (hT0 : gz_T I0) {t a n p : Int} (hp : 0 ≤ p ∧ p < 120) (ht : 0 ≤ t ∧ t < 4) (ha : 0 ≤ a ∧ 0 < n ∧ n ≤ 32 ∧ a + n ≤ 300) (hno : (∀ q, 0 ≤ q → q < 120 → ¬ gz_mt (gz_aM I0) (fun i => I0 (22, 0, 0) (300 * t + a + i)) n q)) (hz : I0 (24, 0, 0) p = 0) (hlt : ∀ q, 0 ≤ q → q < p → ¬ I0 (24, 0, 0) q = 0) : ∀ k, k ≤ n → ∀ I : gz_M, ∀ h : Int, 0 ≤ k → gz_T I → h = gz_dg (fun i => I0 (22, 0, 0) (300 * t + a + i)) k.toNat → (∀ i, I (27, 0, 0) i = if 32 * p ≤ i ∧ i < 32 * p + k then (fun i => I0 (22, 0, 0) (300 * t + a + i)) (i - 32 * p) else I0 (27, 0, 0) i) → (∀ i, I (24, 0, 0) i = if i = p then n else I0 (24, 0, 0) i) → (∀ i, I (26, 0, 0) i = if i = p then 0 else I0 (26, 0, 0) i) → (∀ q : gz_P, q ≠ (24, 0, 0) → q ≠ (26, 0, 0) → q ≠ (27, 0, 0) → I q = I0 q) → gz_V l D α cA RX5 cX5_partFor (some .int) 7 2 (gz_Qi fun x I' => ((0 ≤ x ∧ x < 120) ∧ gz_mt (gz_aM I0) (fun i => I0 (22, 0, 0) (300 * t + a + i)) n x ∧ (∀ q, 0 ≤ q → q < x → ¬ gz_mt (gz_aM I0) (fun i => I0 (22, 0, 0) (300 * t + a + i)) n q) ∧ I0 = I' ∨ (∀ q, 0 ≤ q → q < 120 → ¬ gz_mt (gz_aM I0) (fun i => I0 (22, 0, 0) (300 * t + a + i)) n q) ∧ (0 ≤ x ∧ x < 120) ∧ I0 (24, 0, 0) x = 0 ∧ (∀ q, 0 ≤ q → q < x → ¬ I0 (24, 0, 0) q = 0) ∧ gz_T I' ∧ gz_NW I0 I' (fun i => I0 (22, 0, 0) (300 * t + a + i)) n x ∨ x = -1 ∧ (∀ q, 0 ≤ q → q < 120 → ¬ gz_mt (gz_aM I0) (fun i => I0 (22, 0, 0) (300 * t + a + i)) n q) ∧ (∀ q, 0 ≤ q → q < 120 → ¬ I0 (24, 0, 0) q = 0) ∧ I0 = I')) I [some (.ref (α (20, 0, 0))), some (gz_i (t)), some (gz_i (a)), some (gz_i (n)), some (gz_i (p)), some (gz_i (h)), some (gz_i (k))] [] 88 := by
  refine gz_upto _ ?_
  intro k hk ih I h h0 hTI hh h27 h24 h26 hI
  have hd := gz_dg_in (fun i => I0 (22, 0, 0) (300 * t + a + i)) k.toNat
  have e1 := gz_t22 hT0 0 0 (300 * t + a + k)
  have r22 : I (22, 0, 0) (300 * t + a + k) = I0 (22, 0, 0) (300 * t + a + k) := by rw [hI _ (gz_ne rfl) (gz_ne rfl) (gz_ne rfl)]
  refine gz_iload (pc := 88) dX5_partFor_88 rfl ?_
  refine gz_iload_n (pc := 90) dX5_partFor_90 rfl ?_
  refine gz_icmp_ge (pc := 91) (tgt := 152) dX5_partFor_91 (by decide) (by omega) (by omega) (fun h91 => ?_) (fun h91 => ?_)
  · first | refine gz_aload_n (pc := 152) dX5_partFor_152 rfl ?_ | refine gz_aload_nN (pc := 152) dX5_partFor_152 rfl ?_
    refine gz_getr (pc := 153) dX5_partFor_153 fl_X5_26 rfl rfl rfl (by first | exact gz_B1 | (omega)) ?_
    refine gz_iload (pc := 156) dX5_partFor_156 rfl ?_
    refine gz_iload (pc := 158) dX5_partFor_158 rfl ?_
    refine gz_iast (pc := 160) dX5_partFor_160 rfl rfl (by first | exact gz_B1 | (omega)) (by omega) ?_
    first | refine gz_aload_n (pc := 161) dX5_partFor_161 rfl ?_ | refine gz_aload_nN (pc := 161) dX5_partFor_161 rfl ?_
    refine gz_getr (pc := 162) dX5_partFor_162 fl_X5_69 rfl rfl rfl (by first | exact gz_B1 | (omega)) ?_
    refine gz_iload (pc := 165) dX5_partFor_165 rfl ?_
    refine gz_iconst (pc := 167) dX5_partFor_167 ?_
    refine gz_zast (pc := 168) dX5_partFor_168 rfl rfl (by first | exact gz_B1 | (omega)) (by omega) (by omega) ?_
    refine gz_iload (pc := 169) dX5_partFor_169 rfl ?_
    refine gz_iret (pc := 171) dX5_partFor_171 rfl ?_
    have hhr : 0 ≤ h ∧ h ≤ 60 := by omega
    rw [show k = n by omega] at hh h27
    refine Or.inr (Or.inl ⟨hno, hp, hz, hlt, gz_Tu39 (gz_Tu25 hTI (by omega)) (by decide), fun i => ?_, fun i => ?_, fun i => ?_, fun i => ?_, fun i => ?_, fun q q1 q2 q3 q4 q5 => ?_⟩)
    · rw [gz_up_r (by decide), gz_up_r (by decide)]; exact h24 i
    · rw [gz_up_r (by decide), gz_up_eq, hI _ (gz_ne rfl) (gz_ne rfl) (gz_ne rfl), hh]
    · rw [gz_up_r (by decide), gz_up_r (by decide)]; exact h26 i
    · rw [gz_up_eq, gz_up_r (by decide), hI _ (gz_ne rfl) (gz_ne rfl) (gz_ne rfl)]
    · rw [gz_up_r (by decide), gz_up_r (by decide)]; exact h27 i
    · rw [gz_up_ne q5, gz_up_ne q2]; exact hI q q1 q3 q4
  · first | refine gz_aload_n (pc := 94) dX5_partFor_94 rfl ?_ | refine gz_aload_nN (pc := 94) dX5_partFor_94 rfl ?_
    refine gz_getr (pc := 95) dX5_partFor_95 fl_X5_33 rfl rfl rfl (by first | exact gz_B1 | (omega)) ?_
    refine gz_bipush (pc := 98) dX5_partFor_98 rfl ?_
    refine gz_iload (pc := 100) dX5_partFor_100 rfl ?_
    refine gz_imul (pc := 102) dX5_partFor_102 ?_
    refine gz_iload (pc := 103) dX5_partFor_103 rfl ?_
    refine gz_iadd (pc := 105) dX5_partFor_105 ?_
    first | refine gz_aload_n (pc := 106) dX5_partFor_106 rfl ?_ | refine gz_aload_nN (pc := 106) dX5_partFor_106 rfl ?_
    refine gz_getr (pc := 107) dX5_partFor_107 fl_X5_17 rfl rfl rfl (by first | exact gz_B1 | (omega)) ?_
    refine gz_sipush (pc := 110) dX5_partFor_110 rfl ?_
    refine gz_iload_n (pc := 113) dX5_partFor_113 rfl ?_
    refine gz_imul (pc := 114) dX5_partFor_114 ?_
    refine gz_iload_n (pc := 115) dX5_partFor_115 rfl ?_
    refine gz_iadd (pc := 116) dX5_partFor_116 ?_
    refine gz_iload (pc := 117) dX5_partFor_117 rfl ?_
    refine gz_iadd (pc := 119) dX5_partFor_119 ?_
    refine gz_iald (pc := 120) dX5_partFor_120 rfl rfl (by first | exact gz_B1 | (omega)) (by omega) ?_
    rw [r22]
    refine gz_iast (pc := 121) dX5_partFor_121 rfl rfl (by first | exact gz_B1 | (omega)) (by omega) ?_
    refine gz_bipush (pc := 122) dX5_partFor_122 rfl ?_
    refine gz_iload (pc := 124) dX5_partFor_124 rfl ?_
    refine gz_imul (pc := 126) dX5_partFor_126 ?_
    first | refine gz_aload_n (pc := 127) dX5_partFor_127 rfl ?_ | refine gz_aload_nN (pc := 127) dX5_partFor_127 rfl ?_
    refine gz_getr (pc := 128) dX5_partFor_128 fl_X5_33 rfl rfl rfl (by first | exact gz_B1 | (omega)) ?_
    refine gz_bipush (pc := 131) dX5_partFor_131 rfl ?_
    refine gz_iload (pc := 133) dX5_partFor_133 rfl ?_
    refine gz_imul (pc := 135) dX5_partFor_135 ?_
    refine gz_iload (pc := 136) dX5_partFor_136 rfl ?_
    refine gz_iadd (pc := 138) dX5_partFor_138 ?_
    refine gz_iald (pc := 139) dX5_partFor_139 rfl rfl (by first | exact gz_B1 | (omega)) (by omega) ?_
    rw [gz_up_s]
    refine gz_iadd (pc := 140) dX5_partFor_140 ?_
    refine gz_bipush (pc := 141) dX5_partFor_141 rfl ?_
    refine gz_irem (pc := 143) dX5_partFor_143 (by omega) (by omega) ?_
    refine gz_istore (pc := 144) dX5_partFor_144 rfl rfl rfl ?_
    refine gz_iinc (pc := 146) dX5_partFor_146 rfl rfl rfl rfl ?_
    refine gz_goto (pc := 149) (tgt := 88) dX5_partFor_149 (by decide) ?_
    refine ih (k + 1) (by omega) (by omega) _ _ (by omega) (gz_Tu27 hTI (by omega)) ?_ (fun i => ?_) (fun i => by rw [gz_up_r (by decide)]; exact h24 i) (fun i => by rw [gz_up_r (by decide)]; exact h26 i) (fun q q1 q2 q3 => by rw [gz_up_ne q3]; exact hI q q1 q2 q3)
    · rw [show (k + 1).toNat = k.toNat + 1 by omega]
      unfold gz_dg
      rw [← hh, Int.toNat_of_nonneg h0]
    · rw [gz_up_eq, h27 i]
      by_cases z : i = 32 * p + k
      · rw [if_pos z, if_pos (by omega)]
        show _ = I0 (22, 0, 0) (300 * t + a + (i - 32 * p))
        rw [show i - 32 * p = k by omega]
      · rw [if_neg z]
        by_cases z2 : 32 * p ≤ i ∧ i < 32 * p + k
        · rw [if_pos z2, if_pos (by omega)]
        · rw [if_neg z2, if_neg (by omega)]
set_option maxHeartbeats 4000000 in
set_option maxRecDepth 100000 in
theorem lp_X5_partFor2 (l : Launch) (D : va_G) (α : gz_P → Nat) (cA : Nat → ClassId) {I : gz_M} (hT : gz_T I) {t a n : Int} (ht : 0 ≤ t ∧ t < 4) (ha : 0 ≤ a ∧ 0 < n ∧ n ≤ 32 ∧ a + n ≤ 300) (hno : (∀ q, 0 ≤ q → q < 120 → ¬ gz_mt (gz_aM I) (fun i => I (22, 0, 0) (300 * t + a + i)) n q)) : ∀ p, p ≤ 120 → 0 ≤ p → (∀ q, 0 ≤ q → q < p → ¬ I (24, 0, 0) q = 0) → gz_V l D α cA RX5 cX5_partFor (some .int) 7 2 (gz_Qi fun x I' => ((0 ≤ x ∧ x < 120) ∧ gz_mt (gz_aM I) (fun i => I (22, 0, 0) (300 * t + a + i)) n x ∧ (∀ q, 0 ≤ q → q < x → ¬ gz_mt (gz_aM I) (fun i => I (22, 0, 0) (300 * t + a + i)) n q) ∧ I = I' ∨ (∀ q, 0 ≤ q → q < 120 → ¬ gz_mt (gz_aM I) (fun i => I (22, 0, 0) (300 * t + a + i)) n q) ∧ (0 ≤ x ∧ x < 120) ∧ I (24, 0, 0) x = 0 ∧ (∀ q, 0 ≤ q → q < x → ¬ I (24, 0, 0) q = 0) ∧ gz_T I' ∧ gz_NW I I' (fun i => I (22, 0, 0) (300 * t + a + i)) n x ∨ x = -1 ∧ (∀ q, 0 ≤ q → q < 120 → ¬ gz_mt (gz_aM I) (fun i => I (22, 0, 0) (300 * t + a + i)) n q) ∧ (∀ q, 0 ≤ q → q < 120 → ¬ I (24, 0, 0) q = 0) ∧ I = I')) I [some (.ref (α (20, 0, 0))), some (gz_i (t)), some (gz_i (a)), some (gz_i (n)), some (gz_i (p)), none, none] [] 34 := by
  refine gz_upto _ ?_
  intro p hp ih h0 hq
  have e1 := gz_t24 hT 0 0 p
  refine gz_iload (pc := 34) dX5_partFor_34 rfl ?_
  refine gz_bipush (pc := 36) dX5_partFor_36 rfl ?_
  refine gz_icmp_ge (pc := 38) (tgt := 57) dX5_partFor_38 (by decide) (by omega) (by omega) (fun h38 => ?_) (fun h38 => ?_)
  · refine gz_iload (pc := 57) dX5_partFor_57 rfl ?_
    refine gz_bipush (pc := 59) dX5_partFor_59 rfl ?_
    refine gz_icmp_ne (pc := 61) (tgt := 66) dX5_partFor_61 (by decide) (by omega) (by omega) (fun h61 => ?_) (fun h61 => ?_)
    · first | refine gz_aload_n (pc := 66) dX5_partFor_66 rfl ?_ | refine gz_aload_nN (pc := 66) dX5_partFor_66 rfl ?_
      refine gz_getr (pc := 67) dX5_partFor_67 fl_X5_23 rfl rfl rfl (by first | exact gz_B1 | (omega)) ?_
      refine gz_iload (pc := 70) dX5_partFor_70 rfl ?_
      refine gz_iload_n (pc := 72) dX5_partFor_72 rfl ?_
      refine gz_iast (pc := 73) dX5_partFor_73 rfl rfl (by first | exact gz_B1 | (omega)) (by omega) ?_
      first | refine gz_aload_n (pc := 74) dX5_partFor_74 rfl ?_ | refine gz_aload_nN (pc := 74) dX5_partFor_74 rfl ?_
      refine gz_getr (pc := 75) dX5_partFor_75 fl_X5_29 rfl rfl rfl (by first | exact gz_B1 | (omega)) ?_
      refine gz_iload (pc := 78) dX5_partFor_78 rfl ?_
      refine gz_iconst (pc := 80) dX5_partFor_80 ?_
      refine gz_zast (pc := 81) dX5_partFor_81 rfl rfl (by first | exact gz_B1 | (omega)) (by omega) (by omega) ?_
      refine gz_iconst (pc := 82) dX5_partFor_82 ?_
      refine gz_istore (pc := 83) dX5_partFor_83 rfl rfl rfl ?_
      refine gz_iconst (pc := 85) dX5_partFor_85 ?_
      refine gz_istore (pc := 86) dX5_partFor_86 rfl rfl rfl ?_
      refine lp_X5_partFor3 l D α cA hT (by omega) ht ha hno (by omega) hq 0 (by omega) _ 1 (by omega) (gz_Tu26 (gz_Tu24 hT (by omega)) (by decide)) rfl (fun i => ?_) (fun i => ?_) (fun i => ?_) (fun q q1 q2 q3 => by rw [gz_up_ne q2, gz_up_ne q1])
      · rw [if_neg (by omega), gz_up_r (by decide), gz_up_r (by decide)]
      · rw [gz_up_r (by decide), gz_up_eq]
      · rw [gz_up_eq, gz_up_r (by decide)]
    · refine gz_iconst (pc := 64) dX5_partFor_64 ?_
      refine gz_iret (pc := 65) dX5_partFor_65 rfl ?_
      exact Or.inr (Or.inr ⟨rfl, hno, fun q a1 a2 => hq q a1 (by omega), rfl⟩)
  · first | refine gz_aload_n (pc := 41) dX5_partFor_41 rfl ?_ | refine gz_aload_nN (pc := 41) dX5_partFor_41 rfl ?_
    refine gz_getr (pc := 42) dX5_partFor_42 fl_X5_23 rfl rfl rfl (by first | exact gz_B1 | (omega)) ?_
    refine gz_iload (pc := 45) dX5_partFor_45 rfl ?_
    refine gz_iald (pc := 47) dX5_partFor_47 rfl rfl (by first | exact gz_B1 | (omega)) (by omega) ?_
    refine gz_if_le (pc := 48) (tgt := 57) dX5_partFor_48 (by decide) (by omega) (fun h48 => ?_) (fun h48 => ?_)
    · refine gz_iload (pc := 57) dX5_partFor_57 rfl ?_
      refine gz_bipush (pc := 59) dX5_partFor_59 rfl ?_
      refine gz_icmp_ne (pc := 61) (tgt := 66) dX5_partFor_61 (by decide) (by omega) (by omega) (fun h61 => ?_) (fun h61 => ?_)
      · first | refine gz_aload_n (pc := 66) dX5_partFor_66 rfl ?_ | refine gz_aload_nN (pc := 66) dX5_partFor_66 rfl ?_
        refine gz_getr (pc := 67) dX5_partFor_67 fl_X5_23 rfl rfl rfl (by first | exact gz_B1 | (omega)) ?_
        refine gz_iload (pc := 70) dX5_partFor_70 rfl ?_
        refine gz_iload_n (pc := 72) dX5_partFor_72 rfl ?_
        refine gz_iast (pc := 73) dX5_partFor_73 rfl rfl (by first | exact gz_B1 | (omega)) (by omega) ?_
        first | refine gz_aload_n (pc := 74) dX5_partFor_74 rfl ?_ | refine gz_aload_nN (pc := 74) dX5_partFor_74 rfl ?_
        refine gz_getr (pc := 75) dX5_partFor_75 fl_X5_29 rfl rfl rfl (by first | exact gz_B1 | (omega)) ?_
        refine gz_iload (pc := 78) dX5_partFor_78 rfl ?_
        refine gz_iconst (pc := 80) dX5_partFor_80 ?_
        refine gz_zast (pc := 81) dX5_partFor_81 rfl rfl (by first | exact gz_B1 | (omega)) (by omega) (by omega) ?_
        refine gz_iconst (pc := 82) dX5_partFor_82 ?_
        refine gz_istore (pc := 83) dX5_partFor_83 rfl rfl rfl ?_
        refine gz_iconst (pc := 85) dX5_partFor_85 ?_
        refine gz_istore (pc := 86) dX5_partFor_86 rfl rfl rfl ?_
        refine lp_X5_partFor3 l D α cA hT (by omega) ht ha hno (by omega) hq 0 (by omega) _ 1 (by omega) (gz_Tu26 (gz_Tu24 hT (by omega)) (by decide)) rfl (fun i => ?_) (fun i => ?_) (fun i => ?_) (fun q q1 q2 q3 => by rw [gz_up_ne q2, gz_up_ne q1])
        · rw [if_neg (by omega), gz_up_r (by decide), gz_up_r (by decide)]
        · rw [gz_up_r (by decide), gz_up_eq]
        · rw [gz_up_eq, gz_up_r (by decide)]
      · refine gz_iconst (pc := 64) dX5_partFor_64 ?_
        refine gz_iret (pc := 65) dX5_partFor_65 rfl ?_
        exact Or.inr (Or.inr ⟨rfl, hno, fun q a1 a2 => hq q a1 (by omega), rfl⟩)
    · refine gz_iinc (pc := 51) dX5_partFor_51 rfl rfl rfl rfl ?_
      refine gz_goto (pc := 54) (tgt := 34) dX5_partFor_54 (by decide) ?_
      exact ih (p + 1) (by omega) (by omega) (by omega) (fun q a1 a2 => by
        by_cases z : q = p
        · rw [z]; omega
        · exact hq q a1 (by omega))
set_option maxHeartbeats 4000000 in
set_option maxRecDepth 100000 in
theorem lp_X5_partFor1 (l : Launch) (D : va_G) (α : gz_P → Nat) (cA : Nat → ClassId) {I : gz_M} (hT : gz_T I) {t a n : Int} (ht : 0 ≤ t ∧ t < 4) (ha : 0 ≤ a ∧ 0 < n ∧ n ≤ 32 ∧ a + n ≤ 300) : ∀ p, p ≤ 120 → 0 ≤ p → (∀ q, 0 ≤ q → q < p → ¬ gz_mt (gz_aM I) (fun i => I (22, 0, 0) (300 * t + a + i)) n q) → gz_V l D α cA RX5 cX5_partFor (some .int) 7 2 (gz_Qi fun x I' => ((0 ≤ x ∧ x < 120) ∧ gz_mt (gz_aM I) (fun i => I (22, 0, 0) (300 * t + a + i)) n x ∧ (∀ q, 0 ≤ q → q < x → ¬ gz_mt (gz_aM I) (fun i => I (22, 0, 0) (300 * t + a + i)) n q) ∧ I = I' ∨ (∀ q, 0 ≤ q → q < 120 → ¬ gz_mt (gz_aM I) (fun i => I (22, 0, 0) (300 * t + a + i)) n q) ∧ (0 ≤ x ∧ x < 120) ∧ I (24, 0, 0) x = 0 ∧ (∀ q, 0 ≤ q → q < x → ¬ I (24, 0, 0) q = 0) ∧ gz_T I' ∧ gz_NW I I' (fun i => I (22, 0, 0) (300 * t + a + i)) n x ∨ x = -1 ∧ (∀ q, 0 ≤ q → q < 120 → ¬ gz_mt (gz_aM I) (fun i => I (22, 0, 0) (300 * t + a + i)) n q) ∧ (∀ q, 0 ≤ q → q < 120 → ¬ I (24, 0, 0) q = 0) ∧ I = I')) I [some (.ref (α (20, 0, 0))), some (gz_i (t)), some (gz_i (a)), some (gz_i (n)), some (gz_i (p)), none, none] [] 3 := by
  refine gz_upto _ ?_
  intro p hp ih h0 hq
  refine gz_iload (pc := 3) dX5_partFor_3 rfl ?_
  refine gz_bipush (pc := 5) dX5_partFor_5 rfl ?_
  refine gz_icmp_ge (pc := 7) (tgt := 31) dX5_partFor_7 (by decide) (by omega) (by omega) (fun h7 => ?_) (fun h7 => ?_)
  · refine gz_iconst (pc := 31) dX5_partFor_31 ?_
    refine gz_istore (pc := 32) dX5_partFor_32 rfl rfl rfl ?_
    exact lp_X5_partFor2 l D α cA hT ht ha (fun q a1 a2 => hq q a1 (by omega)) 0 (by omega) (by omega) (fun q a1 a2 => by omega)
  · first | refine gz_aload_n (pc := 10) dX5_partFor_10 rfl ?_ | refine gz_aload_nN (pc := 10) dX5_partFor_10 rfl ?_
    refine gz_iload (pc := 11) dX5_partFor_11 rfl ?_
    refine gz_iload_n (pc := 13) dX5_partFor_13 rfl ?_
    refine gz_iload_n (pc := 14) dX5_partFor_14 rfl ?_
    refine gz_iload_n (pc := 15) dX5_partFor_15 rfl ?_
    refine gz_cV4i (pc := 16) dX5_partFor_16 wm_X5_114 my_X5_isChunk rfl rfl rfl (by first | exact gz_B1 | (omega)) (ct_X5_isChunk l D α cA hT (by omega) ht ha) (fun x16 I16 h16 => ?_)
    obtain ⟨rfl, rfl⟩ := h16
    have hb := gz_b_01 (gz_mt (gz_aM I) (fun i => I (22, 0, 0) (300 * t + a + i)) n p)
    refine gz_if_eq (pc := 19) (tgt := 25) dX5_partFor_19 (by decide) (by omega) (fun h19 => ?_) (fun h19 => ?_)
    · refine gz_iinc (pc := 25) dX5_partFor_25 rfl rfl rfl rfl ?_
      refine gz_goto (pc := 28) (tgt := 3) dX5_partFor_28 (by decide) ?_
      exact ih (p + 1) (by omega) (by omega) (by omega) (fun q a1 a2 => by
        by_cases z : q = p
        · rw [z]; exact gz_b_f h19
        · exact hq q a1 (by omega))
    · refine gz_iload (pc := 22) dX5_partFor_22 rfl ?_
      refine gz_iret (pc := 24) dX5_partFor_24 rfl ?_
      exact Or.inl ⟨by omega, gz_b_t (by omega), hq, rfl⟩
set_option maxHeartbeats 4000000 in
set_option maxRecDepth 100000 in
theorem ct_X5_partFor (l : Launch) (D : va_G) (α : gz_P → Nat) (cA : Nat → ClassId) {I : gz_M} (hT : gz_T I) {t a n : Int} (ht : 0 ≤ t ∧ t < 4) (ha : 0 ≤ a ∧ 0 < n ∧ n ≤ 32 ∧ a + n ≤ 300) : gz_V l D α cA RX5 cX5_partFor (some .int) 7 2 (gz_Qi fun x I' => ((0 ≤ x ∧ x < 120) ∧ gz_mt (gz_aM I) (fun i => I (22, 0, 0) (300 * t + a + i)) n x ∧ (∀ q, 0 ≤ q → q < x → ¬ gz_mt (gz_aM I) (fun i => I (22, 0, 0) (300 * t + a + i)) n q) ∧ I = I' ∨ (∀ q, 0 ≤ q → q < 120 → ¬ gz_mt (gz_aM I) (fun i => I (22, 0, 0) (300 * t + a + i)) n q) ∧ (0 ≤ x ∧ x < 120) ∧ I (24, 0, 0) x = 0 ∧ (∀ q, 0 ≤ q → q < x → ¬ I (24, 0, 0) q = 0) ∧ gz_T I' ∧ gz_NW I I' (fun i => I (22, 0, 0) (300 * t + a + i)) n x ∨ x = -1 ∧ (∀ q, 0 ≤ q → q < 120 → ¬ gz_mt (gz_aM I) (fun i => I (22, 0, 0) (300 * t + a + i)) n q) ∧ (∀ q, 0 ≤ q → q < 120 → ¬ I (24, 0, 0) q = 0) ∧ I = I')) I [some (.ref (α (20, 0, 0))), some (gz_i (t)), some (gz_i (a)), some (gz_i (n)), none, none, none] [] 0 := by
  refine gz_iconst (pc := 0) dX5_partFor_0 ?_
  refine gz_istore (pc := 1) dX5_partFor_1 rfl rfl rfl ?_
  exact lp_X5_partFor1 l D α cA hT ht ha 0 (by omega) (by omega) (fun q a1 a2 => by omega)
