noncomputable def gz_hc (I : gz_M) : Int := gz_sm (fun s => gz_b (¬ I (30, 0, 0) s = -1)) 12
def gz_nd (I : gz_M) (m k : Int) : Prop := I (31, 0, 0) m = 1 ∨ ∃ j, (0 ≤ j ∧ j < k) ∧ ¬ I (30, 0, 0) j = -1 ∧ ¬ I (30, 0, 0) m = -1 ∧ I (32, 0, 0) j = I (30, 0, 0) m
theorem gz_nd_s {I : gz_M} {m k : Int} (hk : 0 ≤ k) : gz_nd I m (k + 1) ↔ gz_nd I m k ∨ (¬ I (30, 0, 0) k = -1 ∧ ¬ I (30, 0, 0) m = -1 ∧ I (32, 0, 0) k = I (30, 0, 0) m) := by
  unfold gz_nd
  constructor
  · rintro (h | ⟨j, h1, h2⟩)
    · exact Or.inl (Or.inl h)
    · by_cases z : j = k
      · rw [z] at h2
        exact Or.inr h2
      · exact Or.inl (Or.inr ⟨j, by omega, h2⟩)
  · rintro ((h | ⟨j, h1, h2⟩) | h)
    · exact Or.inl h
    · exact Or.inr ⟨j, by omega, h2⟩
    · exact Or.inr ⟨k, by omega, h⟩
/-- which slots may have been let go: K before, I now -/
def gz_DI (K I : gz_M) : Prop := gz_T I ∧ (∀ q : gz_P, q ≠ (30, 0, 0) → I q = K q) ∧ ∀ m, 0 ≤ m → m < 12 → (I (30, 0, 0) m = K (30, 0, 0) m ∨ I (30, 0, 0) m = -1 ∧ (¬ K (30, 0, 0) m = -1 → K (31, 0, 0) m = 0 ∧ ∀ j, 0 ≤ j → j < 12 → ¬ I (30, 0, 0) j = -1 → ¬ K (32, 0, 0) j = K (30, 0, 0) m))
def gz_DX (K I : gz_M) : Prop := gz_DI K I ∧ ∀ m, 0 ≤ m → m < 12 → ¬ I (30, 0, 0) m = -1 → gz_nd I m 12
theorem gz_hc_in (I : gz_M) : 0 ≤ gz_hc I ∧ gz_hc I ≤ 12 := by
  have := gz_sm_in (f := fun s => gz_b (¬ I (30, 0, 0) s = -1)) (lo := 0) (hi := 1) (fun s => gz_b_in _) 12
  unfold gz_hc
  omega
theorem gz_hc_up {I : gz_M} {m : Int} (hm : 0 ≤ m ∧ m < 12) (h : ¬ I (30, 0, 0) m = -1) : gz_hc (gz_up I (30, 0, 0) m (-1)) < gz_hc I := by
  unfold gz_hc
  rw [gz_sm_up (f := fun s => gz_b (¬ I (30, 0, 0) s = -1)) (g := fun s => gz_b (¬ gz_up I (30, 0, 0) m (-1) (30, 0, 0) s = -1)) (q := m) (fun i hi => by
    show gz_b _ = gz_b _
    rw [gz_up_eq, if_neg hi]) 12, if_pos (by omega), gz_b1 h, gz_up_s, gz_b0 (fun z => z rfl)]
  omega
theorem gz_DI_up {K I : gz_M} {m : Int} (hm : 0 ≤ m ∧ m < 12) (hI : gz_DI K I) (h : ¬ I (30, 0, 0) m = -1) (hn : ¬ gz_nd I m 12) : gz_DI K (gz_up I (30, 0, 0) m (-1)) := by
  obtain ⟨h1, h2, h3⟩ := hI
  refine ⟨gz_Tu30 h1 (by decide), fun q hq => by rw [gz_up_ne hq]; exact h2 q hq, fun v b1 b2 => ?_⟩
  have hk : I (30, 0, 0) m = K (30, 0, 0) m := by
    rcases h3 m hm.1 hm.2 with h4 | h4
    · exact h4
    · exact absurd h4.1 h
  rw [gz_up_eq]
  by_cases z : v = m
  · rw [if_pos z, z]
    refine Or.inr ⟨rfl, fun _ => ⟨?_, fun j c1 c2 c3 c4 => ?_⟩⟩
    · have := gz_t31 h1 0 0 m
      have h5 : ¬ I (31, 0, 0) m = 1 := fun e => hn (Or.inl e)
      rw [← h2 _ (gz_ne rfl)]
      omega
    · rw [gz_up_eq] at c3
      by_cases z2 : j = m
      · rw [if_pos z2] at c3
        exact c3 rfl
      · rw [if_neg z2] at c3
        exact hn (Or.inr ⟨j, ⟨c1, c2⟩, c3, h, by rw [h2 _ (gz_ne rfl), hk]; exact c4⟩)
  · rw [if_neg z]
    rcases h3 v b1 b2 with h4 | ⟨h4, h5⟩
    · exact Or.inl h4
    · refine Or.inr ⟨h4, fun h6 => ⟨(h5 h6).1, fun j c1 c2 c3 => (h5 h6).2 j c1 c2 (fun e => c3 ?_)⟩⟩
      rw [gz_up_eq]
      by_cases z2 : j = m
      · rw [if_pos z2]
      · rw [if_neg z2]; exact e
set_option maxHeartbeats 4000000 in
set_option maxRecDepth 100000 in
theorem lp_X5_drop190 (l : Launch) (D : va_G) (α : gz_P → Nat) (cA : Nat → ClassId) {K : gz_M} {P : Int → gz_M → Prop} {f : Int} (hP : ∀ I' : gz_M, gz_DX K I' → P f I') {m0 s0 : Option Value} : ∀ (I : gz_M) (m b : Int), gz_T I → (0 ≤ m ∧ m < 12) → (gz_V l D α cA RX5 cX5_drop (some .int) 8 2 (gz_Qi P) I [some (.ref (α (20, 0, 0))), m0, s0, some (gz_i (f)), some (gz_i (b)), some (gz_i (m)), some (gz_i (gz_b (gz_nd I m 12))), some (gz_i (12))] [] 254) → ∀ k, k ≤ 12 → 0 ≤ k → gz_V l D α cA RX5 cX5_drop (some .int) 8 2 (gz_Qi P) I [some (.ref (α (20, 0, 0))), m0, s0, some (gz_i (f)), some (gz_i (b)), some (gz_i (m)), some (gz_i (gz_b (gz_nd I m k))), some (gz_i (k))] [] 190 := by
  intro I m b hT hm kk
  refine gz_upto _ ?_
  intro k hk ih h0
  have hb := gz_b_01 (gz_nd I m k)
  have e1 := gz_t30 hT 0 0 k
  have e2 := gz_t30 hT 0 0 m
  have e3 := gz_t32 hT 0 0 k
  refine gz_iload (pc := 190) dX5_drop_190 rfl ?_
  refine gz_bipush (pc := 192) dX5_drop_192 rfl ?_
  refine gz_icmp_ge (pc := 194) (tgt := 254) dX5_drop_194 (by decide) (by omega) (by omega) (fun h194 => ?_) (fun h194 => ?_)
  · rw [show k = 12 by omega]
    exact kk
  · refine gz_iload (pc := 197) dX5_drop_197 rfl ?_
    refine gz_if_ne (pc := 199) (tgt := 241) dX5_drop_199 (by decide) (by omega) (fun h199 => ?_) (fun h199 => ?_)
    · refine gz_iconst (pc := 241) dX5_drop_241 ?_
      refine gz_goto (pc := 242) (tgt := 246) dX5_drop_242 (by decide) ?_
      refine gz_istore (pc := 246) dX5_drop_246 rfl rfl rfl ?_
      refine gz_iinc (pc := 248) dX5_drop_248 rfl rfl rfl rfl ?_
      refine gz_goto (pc := 251) (tgt := 190) dX5_drop_251 (by decide) ?_
      have h9 := ih (k + 1) (by omega) (by omega) (by omega)
      first
        | (rw [gz_b1 ((gz_nd_s h0).mpr (Or.inl (gz_b_t (by omega))))] at h9; exact h9)
        | (rw [gz_b1 ((gz_nd_s h0).mpr (Or.inr ⟨h210, h221, h238⟩))] at h9; exact h9)
        | (rw [gz_b0 (fun z => ((gz_nd_s h0).mp z).elim (gz_b_f (by omega)) (fun z => by omega))] at h9; exact h9)
    · first | refine gz_aload_n (pc := 202) dX5_drop_202 rfl ?_ | refine gz_aload_nN (pc := 202) dX5_drop_202 rfl ?_
      refine gz_getr (pc := 203) dX5_drop_203 fl_X5_42 rfl rfl rfl (by first | exact gz_B1 | (omega)) ?_
      refine gz_iload (pc := 206) dX5_drop_206 rfl ?_
      refine gz_iald (pc := 208) dX5_drop_208 rfl rfl (by first | exact gz_B1 | (omega)) (by omega) ?_
      refine gz_iconst (pc := 209) dX5_drop_209 ?_
      refine gz_icmp_eq (pc := 210) (tgt := 245) dX5_drop_210 (by decide) (by omega) (by omega) (fun h210 => ?_) (fun h210 => ?_)
      · refine gz_iconst (pc := 245) dX5_drop_245 ?_
        refine gz_istore (pc := 246) dX5_drop_246 rfl rfl rfl ?_
        refine gz_iinc (pc := 248) dX5_drop_248 rfl rfl rfl rfl ?_
        refine gz_goto (pc := 251) (tgt := 190) dX5_drop_251 (by decide) ?_
        have h9 := ih (k + 1) (by omega) (by omega) (by omega)
        first
          | (rw [gz_b1 ((gz_nd_s h0).mpr (Or.inl (gz_b_t (by omega))))] at h9; exact h9)
          | (rw [gz_b1 ((gz_nd_s h0).mpr (Or.inr ⟨h210, h221, h238⟩))] at h9; exact h9)
          | (rw [gz_b0 (fun z => ((gz_nd_s h0).mp z).elim (gz_b_f (by omega)) (fun z => by omega))] at h9; exact h9)
      · first | refine gz_aload_n (pc := 213) dX5_drop_213 rfl ?_ | refine gz_aload_nN (pc := 213) dX5_drop_213 rfl ?_
        refine gz_getr (pc := 214) dX5_drop_214 fl_X5_42 rfl rfl rfl (by first | exact gz_B1 | (omega)) ?_
        refine gz_iload (pc := 217) dX5_drop_217 rfl ?_
        refine gz_iald (pc := 219) dX5_drop_219 rfl rfl (by first | exact gz_B1 | (omega)) (by omega) ?_
        refine gz_iconst (pc := 220) dX5_drop_220 ?_
        refine gz_icmp_eq (pc := 221) (tgt := 245) dX5_drop_221 (by decide) (by omega) (by omega) (fun h221 => ?_) (fun h221 => ?_)
        · refine gz_iconst (pc := 245) dX5_drop_245 ?_
          refine gz_istore (pc := 246) dX5_drop_246 rfl rfl rfl ?_
          refine gz_iinc (pc := 248) dX5_drop_248 rfl rfl rfl rfl ?_
          refine gz_goto (pc := 251) (tgt := 190) dX5_drop_251 (by decide) ?_
          have h9 := ih (k + 1) (by omega) (by omega) (by omega)
          first
            | (rw [gz_b1 ((gz_nd_s h0).mpr (Or.inl (gz_b_t (by omega))))] at h9; exact h9)
            | (rw [gz_b1 ((gz_nd_s h0).mpr (Or.inr ⟨h210, h221, h238⟩))] at h9; exact h9)
            | (rw [gz_b0 (fun z => ((gz_nd_s h0).mp z).elim (gz_b_f (by omega)) (fun z => by omega))] at h9; exact h9)
        · first | refine gz_aload_n (pc := 224) dX5_drop_224 rfl ?_ | refine gz_aload_nN (pc := 224) dX5_drop_224 rfl ?_
          refine gz_getr (pc := 225) dX5_drop_225 fl_X5_48 rfl rfl rfl (by first | exact gz_B1 | (omega)) ?_
          refine gz_iload (pc := 228) dX5_drop_228 rfl ?_
          refine gz_iald (pc := 230) dX5_drop_230 rfl rfl (by first | exact gz_B1 | (omega)) (by omega) ?_
          first | refine gz_aload_n (pc := 231) dX5_drop_231 rfl ?_ | refine gz_aload_nN (pc := 231) dX5_drop_231 rfl ?_
          refine gz_getr (pc := 232) dX5_drop_232 fl_X5_42 rfl rfl rfl (by first | exact gz_B1 | (omega)) ?_
          refine gz_iload (pc := 235) dX5_drop_235 rfl ?_
          refine gz_iald (pc := 237) dX5_drop_237 rfl rfl (by first | exact gz_B1 | (omega)) (by omega) ?_
          refine gz_icmp_ne (pc := 238) (tgt := 245) dX5_drop_238 (by decide) (by omega) (by omega) (fun h238 => ?_) (fun h238 => ?_)
          · refine gz_iconst (pc := 245) dX5_drop_245 ?_
            refine gz_istore (pc := 246) dX5_drop_246 rfl rfl rfl ?_
            refine gz_iinc (pc := 248) dX5_drop_248 rfl rfl rfl rfl ?_
            refine gz_goto (pc := 251) (tgt := 190) dX5_drop_251 (by decide) ?_
            have h9 := ih (k + 1) (by omega) (by omega) (by omega)
            first
              | (rw [gz_b1 ((gz_nd_s h0).mpr (Or.inl (gz_b_t (by omega))))] at h9; exact h9)
              | (rw [gz_b1 ((gz_nd_s h0).mpr (Or.inr ⟨h210, h221, h238⟩))] at h9; exact h9)
              | (rw [gz_b0 (fun z => ((gz_nd_s h0).mp z).elim (gz_b_f (by omega)) (fun z => by omega))] at h9; exact h9)
          · refine gz_iconst (pc := 241) dX5_drop_241 ?_
            refine gz_goto (pc := 242) (tgt := 246) dX5_drop_242 (by decide) ?_
            refine gz_istore (pc := 246) dX5_drop_246 rfl rfl rfl ?_
            refine gz_iinc (pc := 248) dX5_drop_248 rfl rfl rfl rfl ?_
            refine gz_goto (pc := 251) (tgt := 190) dX5_drop_251 (by decide) ?_
            have h9 := ih (k + 1) (by omega) (by omega) (by omega)
            first
              | (rw [gz_b1 ((gz_nd_s h0).mpr (Or.inl (gz_b_t (by omega))))] at h9; exact h9)
              | (rw [gz_b1 ((gz_nd_s h0).mpr (Or.inr ⟨h210, h221, h238⟩))] at h9; exact h9)
              | (rw [gz_b0 (fun z => ((gz_nd_s h0).mp z).elim (gz_b_f (by omega)) (fun z => by omega))] at h9; exact h9)
set_option maxHeartbeats 4000000 in
set_option maxRecDepth 100000 in
theorem lp_X5_drop171 (l : Launch) (D : va_G) (α : gz_P → Nat) (cA : Nat → ClassId) {K : gz_M} {P : Int → gz_M → Prop} {f : Int} (hP : ∀ I' : gz_M, gz_DX K I' → P f I') {m0 s0 : Option Value} : ∀ I1 : gz_M, (∀ (I : gz_M) (b : Int), (b = 0 ∧ gz_DX K I ∨ b = 1 ∧ gz_DI K I ∧ gz_hc I < gz_hc I1) → ∀ o5 o6 o7 : Option Value, gz_V l D α cA RX5 cX5_drop (some .int) 8 2 (gz_Qi P) I [some (.ref (α (20, 0, 0))), m0, s0, some (gz_i (f)), some (gz_i (b)), o5, o6, o7] [] 160) → ∀ m, m ≤ 12 → ∀ (I : gz_M) (b : Int), 0 ≤ m → gz_DI K I → (b = 0 ∧ I = I1 ∧ (∀ v, 0 ≤ v → v < m → ¬ I (30, 0, 0) v = -1 → gz_nd I v 12) ∨ b = 1 ∧ gz_hc I < gz_hc I1) → ∀ o6 o7 : Option Value, gz_V l D α cA RX5 cX5_drop (some .int) 8 2 (gz_Qi P) I [some (.ref (α (20, 0, 0))), m0, s0, some (gz_i (f)), some (gz_i (b)), some (gz_i (m)), o6, o7] [] 171 := by
  intro I1 kk
  refine gz_upto _ ?_
  intro m hm ih I b h0 hI hb o6 o7
  have e31 := gz_t31 hI.1 0 0 m
  have e30 := gz_t30 hI.1 0 0 m
  refine gz_iload (pc := 171) dX5_drop_171 rfl ?_
  refine gz_bipush (pc := 173) dX5_drop_173 rfl ?_
  refine gz_icmp_ge (pc := 175) (tgt := 287) dX5_drop_175 (by decide) (by omega) (by omega) (fun h175 => ?_) (fun h175 => ?_)
  · refine gz_goto (pc := 287) (tgt := 160) dX5_drop_287 (by decide) ?_
    have hm12 : m = 12 := by omega
    refine kk I b ?_ _ _ _
    rcases hb with ⟨c1, c2, c3⟩ | ⟨c1, c2⟩
    · exact Or.inl ⟨c1, hI, fun v d1 d2 => c3 v d1 (by omega)⟩
    · exact Or.inr ⟨c1, hI, c2⟩
  · first | refine gz_aload_n (pc := 178) dX5_drop_178 rfl ?_ | refine gz_aload_nN (pc := 178) dX5_drop_178 rfl ?_
    refine gz_getr (pc := 179) dX5_drop_179 fl_X5_45 rfl rfl rfl (by first | exact gz_B1 | (omega)) ?_
    refine gz_iload (pc := 182) dX5_drop_182 rfl ?_
    refine gz_zald (pc := 184) dX5_drop_184 rfl rfl (by first | exact gz_B1 | (omega)) (by omega) ?_
    refine gz_istore (pc := 185) dX5_drop_185 rfl rfl rfl ?_
    refine gz_iconst (pc := 187) dX5_drop_187 ?_
    refine gz_istore (pc := 188) dX5_drop_188 rfl rfl rfl ?_
    have hcall := fun kk => lp_X5_drop190 l D α cA hP (m0 := m0) (s0 := s0) I m b hI.1 ⟨h0, by omega⟩ kk 0 (by omega) (by omega)
    have hb0 : gz_b (gz_nd I m 0) = I (31, 0, 0) m := by
      by_cases z : I (31, 0, 0) m = 1
      · rw [z]; exact gz_b1 (Or.inl z)
      · rw [gz_b0 (fun y => y.elim z (fun ⟨j, y1, _⟩ => by omega))]; omega
    rw [hb0] at hcall
    refine hcall ?_
    have hbb := gz_b_01 (gz_nd I m 12)
    first | refine gz_aload_n (pc := 254) dX5_drop_254 rfl ?_ | refine gz_aload_nN (pc := 254) dX5_drop_254 rfl ?_
    refine gz_getr (pc := 255) dX5_drop_255 fl_X5_42 rfl rfl rfl (by first | exact gz_B1 | (omega)) ?_
    refine gz_iload (pc := 258) dX5_drop_258 rfl ?_
    refine gz_iald (pc := 260) dX5_drop_260 rfl rfl (by first | exact gz_B1 | (omega)) (by omega) ?_
    refine gz_iconst (pc := 261) dX5_drop_261 ?_
    refine gz_icmp_eq (pc := 262) (tgt := 281) dX5_drop_262 (by decide) (by omega) (by omega) (fun h262 => ?_) (fun h262 => ?_)
    · refine gz_iinc (pc := 281) dX5_drop_281 rfl rfl rfl rfl ?_
      refine gz_goto (pc := 284) (tgt := 171) dX5_drop_284 (by decide) ?_
      first
        | (refine ih (m + 1) (by omega) (by omega) _ _ (by omega) (gz_DI_up ⟨h0, by omega⟩ hI h262 (gz_b_f h267)) (Or.inr ⟨rfl, ?_⟩) _ _
           have h9 := gz_hc_up (I := I) (m := m) ⟨h0, by omega⟩ h262
           rcases hb with ⟨c1, c2, c3⟩ | ⟨c1, c2⟩
           · rw [c2] at h9 ⊢; exact h9
           · omega)
        | (refine ih (m + 1) (by omega) (by omega) _ _ (by omega) hI ?_ _ _
           rcases hb with ⟨c1, c2, c3⟩ | ⟨c1, c2⟩
           · refine Or.inl ⟨c1, c2, fun v d1 d2 d3 => ?_⟩
             by_cases z : v = m
             · rw [z] at d3 ⊢
               first | exact absurd (by assumption) d3 | exact gz_b_t (by omega)
             · exact c3 v d1 (by omega) d3
           · exact Or.inr ⟨c1, c2⟩)
    · refine gz_iload (pc := 265) dX5_drop_265 rfl ?_
      refine gz_if_ne (pc := 267) (tgt := 281) dX5_drop_267 (by decide) (by omega) (fun h267 => ?_) (fun h267 => ?_)
      · refine gz_iinc (pc := 281) dX5_drop_281 rfl rfl rfl rfl ?_
        refine gz_goto (pc := 284) (tgt := 171) dX5_drop_284 (by decide) ?_
        first
          | (refine ih (m + 1) (by omega) (by omega) _ _ (by omega) (gz_DI_up ⟨h0, by omega⟩ hI h262 (gz_b_f h267)) (Or.inr ⟨rfl, ?_⟩) _ _
             have h9 := gz_hc_up (I := I) (m := m) ⟨h0, by omega⟩ h262
             rcases hb with ⟨c1, c2, c3⟩ | ⟨c1, c2⟩
             · rw [c2] at h9 ⊢; exact h9
             · omega)
          | (refine ih (m + 1) (by omega) (by omega) _ _ (by omega) hI ?_ _ _
             rcases hb with ⟨c1, c2, c3⟩ | ⟨c1, c2⟩
             · refine Or.inl ⟨c1, c2, fun v d1 d2 d3 => ?_⟩
               by_cases z : v = m
               · rw [z] at d3 ⊢
                 first | exact absurd (by assumption) d3 | exact gz_b_t (by omega)
               · exact c3 v d1 (by omega) d3
             · exact Or.inr ⟨c1, c2⟩)
      · first | refine gz_aload_n (pc := 270) dX5_drop_270 rfl ?_ | refine gz_aload_nN (pc := 270) dX5_drop_270 rfl ?_
        refine gz_getr (pc := 271) dX5_drop_271 fl_X5_42 rfl rfl rfl (by first | exact gz_B1 | (omega)) ?_
        refine gz_iload (pc := 274) dX5_drop_274 rfl ?_
        refine gz_iconst (pc := 276) dX5_drop_276 ?_
        refine gz_iast (pc := 277) dX5_drop_277 rfl rfl (by first | exact gz_B1 | (omega)) (by omega) ?_
        refine gz_iconst (pc := 278) dX5_drop_278 ?_
        refine gz_istore (pc := 279) dX5_drop_279 rfl rfl rfl ?_
        refine gz_iinc (pc := 281) dX5_drop_281 rfl rfl rfl rfl ?_
        refine gz_goto (pc := 284) (tgt := 171) dX5_drop_284 (by decide) ?_
        first
          | (refine ih (m + 1) (by omega) (by omega) _ _ (by omega) (gz_DI_up ⟨h0, by omega⟩ hI h262 (gz_b_f h267)) (Or.inr ⟨rfl, ?_⟩) _ _
             have h9 := gz_hc_up (I := I) (m := m) ⟨h0, by omega⟩ h262
             rcases hb with ⟨c1, c2, c3⟩ | ⟨c1, c2⟩
             · rw [c2] at h9 ⊢; exact h9
             · omega)
          | (refine ih (m + 1) (by omega) (by omega) _ _ (by omega) hI ?_ _ _
             rcases hb with ⟨c1, c2, c3⟩ | ⟨c1, c2⟩
             · refine Or.inl ⟨c1, c2, fun v d1 d2 d3 => ?_⟩
               by_cases z : v = m
               · rw [z] at d3 ⊢
                 first | exact absurd (by assumption) d3 | exact gz_b_t (by omega)
               · exact c3 v d1 (by omega) d3
             · exact Or.inr ⟨c1, c2⟩)
set_option maxHeartbeats 4000000 in
set_option maxRecDepth 100000 in
theorem lp_X5_drop160 (l : Launch) (D : va_G) (α : gz_P → Nat) (cA : Nat → ClassId) {K : gz_M} {P : Int → gz_M → Prop} {f : Int} (hP : ∀ I' : gz_M, gz_DX K I' → P f I') {m0 s0 : Option Value} : ∀ h, 0 ≤ h → ∀ I : gz_M, gz_hc I = h → gz_DI K I → ∀ o5 o6 o7 : Option Value, gz_V l D α cA RX5 cX5_drop (some .int) 8 2 (gz_Qi P) I [some (.ref (α (20, 0, 0))), m0, s0, some (gz_i (f)), some (gz_i (1)), o5, o6, o7] [] 160 := by
  refine gz_downto _ ?_
  intro h hh ih I hhc hI o5 o6 o7
  refine gz_iload (pc := 160) dX5_drop_160 rfl ?_
  refine gz_if_eq (pc := 162) (tgt := 290) dX5_drop_162 (by decide) (by omega) (fun h162 => ?_) (fun h162 => ?_)
  · first | exact absurd h162 (by decide)
  · refine gz_iconst (pc := 165) dX5_drop_165 ?_
    refine gz_istore (pc := 166) dX5_drop_166 rfl rfl rfl ?_
    refine gz_iconst (pc := 168) dX5_drop_168 ?_
    refine gz_istore (pc := 169) dX5_drop_169 rfl rfl rfl ?_
    refine lp_X5_drop171 l D α cA hP I ?_ 0 (by omega) I 0 (by omega) hI (Or.inl ⟨rfl, rfl, fun v d1 d2 => by omega⟩) _ _
    rintro I9 b (⟨rfl, hx⟩ | ⟨rfl, hx, hlt⟩) p5 p6 p7
    · skip
      refine gz_iload (pc := 160) dX5_drop_160 rfl ?_
      refine gz_if_eq (pc := 162) (tgt := 290) dX5_drop_162 (by decide) (by omega) (fun h162 => ?_) (fun h162 => ?_)
      · refine gz_iload_n (pc := 290) dX5_drop_290 rfl ?_
        refine gz_iret (pc := 291) dX5_drop_291 rfl ?_
        exact hP I9 hx
      · first | exact absurd h162 (by decide) | exact absurd rfl h162
    · exact ih (gz_hc I9) (by omega) (gz_hc_in I9).1 I9 rfl hx _ _ _
