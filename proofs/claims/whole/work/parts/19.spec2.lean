theorem gz_Tu3 {I : gz_M} {a b j v : Int} (h : gz_T I) (hv : -2147483648 ≤ v ∧ v ≤ 2147483647) : gz_T (gz_up I (3, a, b) j v) := gz_T_up h hv
theorem gz_Tu4 {I : gz_M} {a b j v : Int} (h : gz_T I) (hv : 0 ≤ v ∧ v ≤ 11) : gz_T (gz_up I (4, a, b) j v) := gz_T_up h hv
theorem gz_Tu5 {I : gz_M} {a b j v : Int} (h : gz_T I) (hv : 0 ≤ v ∧ v ≤ 255) : gz_T (gz_up I (5, a, b) j v) := gz_T_up h hv
theorem gz_Tu6 {I : gz_M} {a b j v : Int} (h : gz_T I) (hv : 0 ≤ v ∧ v ≤ 1) : gz_T (gz_up I (6, a, b) j v) := gz_T_up h hv
theorem gz_Tu7 {I : gz_M} {a b j v : Int} (h : gz_T I) (hv : 0 ≤ v ∧ v ≤ 300) : gz_T (gz_up I (7, a, b) j v) := gz_T_up h hv
theorem gz_Tu8 {I : gz_M} {a b j v : Int} (h : gz_T I) (hv : 0 ≤ v ∧ v ≤ 255) : gz_T (gz_up I (8, a, b) j v) := gz_T_up h hv
theorem gz_Tu9 {I : gz_M} {a b j v : Int} (h : gz_T I) (hv : 0 ≤ v ∧ v ≤ 300) : gz_T (gz_up I (9, a, b) j v) := gz_T_up h hv
theorem gz_Tu11 {I : gz_M} {a b j v : Int} (h : gz_T I) (hv : 0 ≤ v ∧ v ≤ 1) : gz_T (gz_up I (11, a, b) j v) := gz_T_up h hv
theorem gz_Tu12 {I : gz_M} {a b j v : Int} (h : gz_T I) (hv : 0 ≤ v ∧ v ≤ 255) : gz_T (gz_up I (12, a, b) j v) := gz_T_up h hv
theorem gz_Tu13 {I : gz_M} {a b j v : Int} (h : gz_T I) (hv : 0 ≤ v ∧ v ≤ 32) : gz_T (gz_up I (13, a, b) j v) := gz_T_up h hv
theorem gz_Tu14 {I : gz_M} {a b j v : Int} (h : gz_T I) (hv : 0 ≤ v ∧ v ≤ 60) : gz_T (gz_up I (14, a, b) j v) := gz_T_up h hv
theorem gz_Tu15 {I : gz_M} {a b j v : Int} (h : gz_T I) (hv : 0 ≤ v ∧ v ≤ 119) : gz_T (gz_up I (15, a, b) j v) := gz_T_up h hv
theorem gz_Tu18 {I : gz_M} {a b j v : Int} (h : gz_T I) (hv : 0 ≤ v ∧ v ≤ 119) : gz_T (gz_up I (18, a, b) j v) := gz_T_up h hv
theorem gz_Tu19 {I : gz_M} {a b j v : Int} (h : gz_T I) (hv : 0 ≤ v ∧ v ≤ 75) : gz_T (gz_up I (19, a, b) j v) := gz_T_up h hv
theorem gz_Tu21 {I : gz_M} {a b j v : Int} (h : gz_T I) (hv : 0 ≤ v ∧ v ≤ 300) : gz_T (gz_up I (21, a, b) j v) := gz_T_up h hv
theorem gz_Tu22 {I : gz_M} {a b j v : Int} (h : gz_T I) (hv : 0 ≤ v ∧ v ≤ 255) : gz_T (gz_up I (22, a, b) j v) := gz_T_up h hv
theorem gz_Tu23 {I : gz_M} {a b j v : Int} (h : gz_T I) (hv : 0 ≤ v ∧ v ≤ 255) : gz_T (gz_up I (23, a, b) j v) := gz_T_up h hv
theorem gz_Tu24 {I : gz_M} {a b j v : Int} (h : gz_T I) (hv : 0 ≤ v ∧ v ≤ 32) : gz_T (gz_up I (24, a, b) j v) := gz_T_up h hv
theorem gz_Tu25 {I : gz_M} {a b j v : Int} (h : gz_T I) (hv : 0 ≤ v ∧ v ≤ 60) : gz_T (gz_up I (25, a, b) j v) := gz_T_up h hv
theorem gz_Tu26 {I : gz_M} {a b j v : Int} (h : gz_T I) (hv : 0 ≤ v ∧ v ≤ 1) : gz_T (gz_up I (26, a, b) j v) := gz_T_up h hv
theorem gz_Tu27 {I : gz_M} {a b j v : Int} (h : gz_T I) (hv : 0 ≤ v ∧ v ≤ 255) : gz_T (gz_up I (27, a, b) j v) := gz_T_up h hv
theorem gz_Tu28 {I : gz_M} {a b j v : Int} (h : gz_T I) (hv : 0 ≤ v ∧ v ≤ 1) : gz_T (gz_up I (28, a, b) j v) := gz_T_up h hv
theorem gz_Tu29 {I : gz_M} {a b j v : Int} (h : gz_T I) (hv : 0 ≤ v ∧ v ≤ 255) : gz_T (gz_up I (29, a, b) j v) := gz_T_up h hv
theorem gz_Tu30 {I : gz_M} {a b j v : Int} (h : gz_T I) (hv : -2147483648 ≤ v ∧ v ≤ 2147483647) : gz_T (gz_up I (30, a, b) j v) := gz_T_up h hv
theorem gz_Tu31 {I : gz_M} {a b j v : Int} (h : gz_T I) (hv : 0 ≤ v ∧ v ≤ 1) : gz_T (gz_up I (31, a, b) j v) := gz_T_up h hv
theorem gz_Tu32 {I : gz_M} {a b j v : Int} (h : gz_T I) (hv : -2147483648 ≤ v ∧ v ≤ 2147483647) : gz_T (gz_up I (32, a, b) j v) := gz_T_up h hv
theorem gz_Tu33 {I : gz_M} {a b j v : Int} (h : gz_T I) (hv : 0 ≤ v ∧ v ≤ 4) : gz_T (gz_up I (33, a, b) j v) := gz_T_up h hv
theorem gz_Tu34 {I : gz_M} {a b j v : Int} (h : gz_T I) (hv : 0 ≤ v ∧ v ≤ 75) : gz_T (gz_up I (34, a, b) j v) := gz_T_up h hv
theorem gz_Tu35 {I : gz_M} {a b j v : Int} (h : gz_T I) (hv : -1 ≤ v ∧ v ≤ 119) : gz_T (gz_up I (35, a, b) j v) := gz_T_up h hv
theorem gz_Tu36 {I : gz_M} {a b j v : Int} (h : gz_T I) (hv : -2147483648 ≤ v ∧ v ≤ 2147483647) : gz_T (gz_up I (36, a, b) j v) := gz_T_up h hv
theorem gz_Tu37 {I : gz_M} {a b j v : Int} (h : gz_T I) (hv : -2147483648 ≤ v ∧ v ≤ 2147483647) : gz_T (gz_up I (37, a, b) j v) := gz_T_up h hv
theorem gz_Tu38 {I : gz_M} {a b j v : Int} (h : gz_T I) (hv : -2147483648 ≤ v ∧ v ≤ 2147483647) : gz_T (gz_up I (38, a, b) j v) := gz_T_up h hv
theorem gz_Tu39 {I : gz_M} {a b j v : Int} (h : gz_T I) (hv : 0 ≤ v ∧ v ≤ 1) : gz_T (gz_up I (39, a, b) j v) := gz_T_up h hv
theorem gz_Tu0_6 {I : gz_M} {a b v : Int} (h : gz_T I) (hv : 1 ≤ v ∧ v ≤ 4) : gz_T (gz_up I (0, a, b) 6 v) := gz_T_up h hv
theorem gz_Tu0_7 {I : gz_M} {a b v : Int} (h : gz_T I) (hv : 0 ≤ v ∧ v ≤ 12) : gz_T (gz_up I (0, a, b) 7 v) := gz_T_up h hv
theorem gz_Tu0_8 {I : gz_M} {a b v : Int} (h : gz_T I) (hv : -2147483648 ≤ v ∧ v ≤ 2147483647) : gz_T (gz_up I (0, a, b) 8 v) := gz_T_up h hv
theorem gz_Tu16_2 {I : gz_M} {a b v : Int} (h : gz_T I) (hv : -2147483648 ≤ v ∧ v ≤ 2147483647) : gz_T (gz_up I (16, a, b) 2 v) := gz_T_up h hv
theorem gz_Tu16_3 {I : gz_M} {a b v : Int} (h : gz_T I) (hv : 0 ≤ v ∧ v ≤ 1) : gz_T (gz_up I (16, a, b) 3 v) := gz_T_up h hv
theorem gz_Tu16_4 {I : gz_M} {a b v : Int} (h : gz_T I) (hv : -2147483648 ≤ v ∧ v ≤ 2147483647) : gz_T (gz_up I (16, a, b) 4 v) := gz_T_up h hv
theorem gz_Tu16_5 {I : gz_M} {a b v : Int} (h : gz_T I) (hv : 0 ≤ v ∧ v ≤ 4) : gz_T (gz_up I (16, a, b) 5 v) := gz_T_up h hv
theorem gz_Tu16_6 {I : gz_M} {a b v : Int} (h : gz_T I) (hv : -2147483648 ≤ v ∧ v ≤ 2147483647) : gz_T (gz_up I (16, a, b) 6 v) := gz_T_up h hv
theorem gz_Tu16_7 {I : gz_M} {a b v : Int} (h : gz_T I) (hv : -2147483648 ≤ v ∧ v ≤ 2147483647) : gz_T (gz_up I (16, a, b) 7 v) := gz_T_up h hv
theorem gz_Tu16_8 {I : gz_M} {a b v : Int} (h : gz_T I) (hv : -2147483648 ≤ v ∧ v ≤ 2147483647) : gz_T (gz_up I (16, a, b) 8 v) := gz_T_up h hv
theorem gz_Tu20_0 {I : gz_M} {a b v : Int} (h : gz_T I) (hv : 1 ≤ v ∧ v ≤ 4) : gz_T (gz_up I (20, a, b) 0 v) := gz_T_up h hv
theorem gz_Tu20_10 {I : gz_M} {a b v : Int} (h : gz_T I) (hv : -2147483648 ≤ v ∧ v ≤ 2147483647) : gz_T (gz_up I (20, a, b) 10 v) := gz_T_up h hv
/-- sums and least numbers -/
def gz_sm (f : Int → Int) : Nat → Int
  | 0 => 0
  | n + 1 => gz_sm f n + f n
theorem gz_sm_s {f : Int → Int} {n : Nat} : gz_sm f (n + 1) = gz_sm f n + f n := rfl
theorem gz_sm_cong {f g : Int → Int} : ∀ {n : Nat}, (∀ i : Int, 0 ≤ i → i < n → f i = g i) → gz_sm f n = gz_sm g n
  | 0, _ => rfl
  | n + 1, h => by
    unfold gz_sm
    rw [gz_sm_cong (n := n) (fun i h1 h2 => h i h1 (by omega)), h n (by omega) (by omega)]
theorem gz_sm_in {f : Int → Int} {lo hi : Int} (h : ∀ i, lo ≤ f i ∧ f i ≤ hi) : ∀ n : Nat, lo * n ≤ gz_sm f n ∧ gz_sm f n ≤ hi * n
  | 0 => by unfold gz_sm; omega
  | n + 1 => by
    unfold gz_sm
    have h1 := gz_sm_in h n
    have h2 := h n
    rw [Int.natCast_add, Int.mul_add, Int.mul_add]
    omega
theorem gz_sm_up {f g : Int → Int} {q : Int} (h : ∀ i, i ≠ q → g i = f i) : ∀ n : Nat, gz_sm g n = gz_sm f n + if 0 ≤ q ∧ q < n then g q - f q else 0
  | 0 => by
    unfold gz_sm
    rw [if_neg (by omega)]
    rfl
  | n + 1 => by
    unfold gz_sm
    rw [gz_sm_up h n]
    by_cases e : q = n
    · subst e
      rw [if_neg (by omega), if_pos (by omega)]
      omega
    · rw [h n (fun e2 => e e2.symm)]
      by_cases e3 : 0 ≤ q ∧ q < n
      · rw [if_pos e3, if_pos (by omega)]
        omega
      · rw [if_neg e3, if_neg (by omega)]
        omega
noncomputable def gz_b (P : Prop) : Int := @ite _ P (Classical.propDecidable P) 1 0
theorem gz_b1 {P : Prop} (h : P) : gz_b P = 1 := by unfold gz_b; rw [if_pos h]
theorem gz_b0 {P : Prop} (h : ¬ P) : gz_b P = 0 := by unfold gz_b; rw [if_neg h]
theorem gz_b_in (P : Prop) : 0 ≤ gz_b P ∧ gz_b P ≤ 1 := by
  by_cases h : P
  · rw [gz_b1 h]; omega
  · rw [gz_b0 h]; omega
theorem gz_b_cong {P Q : Prop} (h : P ↔ Q) : gz_b P = gz_b Q := by rw [propext h]
/-- copies and PARTS that are not BROKEN; marks that are USABLE; PARTS that a mark names -/
def gz_snd (I : gz_M) (a p : Int) : Prop := I (11, a, 0) p = 1 ∧ gz_dg (fun i => I (12, a, 0) (32 * p + i)) (I (13, 0, 0) p).toNat = I (14, 0, 0) p
def gz_rdb (I : gz_M) (t p : Int) : Prop := gz_snd I t p ∨ gz_snd I 4 p
def gz_usb (I : gz_M) (k : Int) : Prop := I (16, k, 0) 3 = 1 ∧ ∀ t, 0 ≤ t → t < I (16, k, 0) 5 → ∀ j, 0 ≤ j → j < I (19, k, 0) t → gz_rdb I t (I (18, k, t) j)
def gz_nmd (I : gz_M) (k p : Int) : Prop := ∃ t j, (0 ≤ t ∧ t < I (16, k, 0) 5) ∧ (0 ≤ j ∧ j < I (19, k, 0) t) ∧ I (18, k, t) j = p
noncomputable def gz_lf (P : Int → Prop) : Nat → Int → Int
  | 0, _ => -1
  | n + 1, p => @ite _ (P p) (Classical.propDecidable _) p (gz_lf P n (p + 1))
/-- the least number below 120 with P, or -1 -/
noncomputable def gz_lst (P : Int → Prop) : Int := gz_lf P 120 0
theorem gz_lf_eq {P : Int → Prop} {x : Int} (hx : P x) : ∀ (n : Nat) (p : Int), p ≤ x → x < p + n → (∀ q, p ≤ q → q < x → ¬ P q) → gz_lf P n p = x
  | 0, p, h1, h2, _ => by omega
  | n + 1, p, h1, h2, h3 => by
    unfold gz_lf
    by_cases e : p = x
    · subst e
      rw [if_pos hx]
    · rw [if_neg (h3 p (by omega) (by omega))]
      exact gz_lf_eq hx n (p + 1) (by omega) (by omega) (fun q h4 h5 => h3 q (by omega) h5)
theorem gz_lf_no {P : Int → Prop} : ∀ (n : Nat) (p : Int), (∀ q, p ≤ q → q < p + n → ¬ P q) → gz_lf P n p = -1
  | 0, p, _ => by unfold gz_lf; rfl
  | n + 1, p, h => by
    unfold gz_lf
    rw [if_neg (h p (by omega) (by omega))]
    exact gz_lf_no n (p + 1) (fun q h4 h5 => h q (by omega) (by omega))
theorem gz_lst_eq {P : Int → Prop} {x : Int} (h0 : 0 ≤ x ∧ x < 120) (hx : P x) (h : ∀ q, 0 ≤ q → q < x → ¬ P q) : gz_lst P = x := gz_lf_eq hx 120 0 h0.1 (by omega) h
theorem gz_lst_no {P : Int → Prop} (h : ∀ q, 0 ≤ q → q < 120 → ¬ P q) : gz_lst P = -1 := gz_lf_no 120 0 (fun q h1 h2 => h q h1 (by omega))
/-- THE STORE as it can be seen: sizes, digests, whether it has its bytes, bytes -/
abbrev gz_S : Type := Nat → Int → Int → Int
noncomputable def gz_aX (I : gz_M) : gz_S := fun c p i => match c with
  | 0 => if 0 ≤ p ∧ p < 120 then I (13, 0, 0) p else 0
  | 1 => if (0 ≤ p ∧ p < 120) ∧ 0 < I (13, 0, 0) p then I (14, 0, 0) p else 0
  | 2 => if (0 ≤ p ∧ p < 120) ∧ 0 < I (13, 0, 0) p then I (11, 4, 0) p else 0
  | 3 => if (0 ≤ p ∧ p < 120) ∧ 0 ≤ i ∧ i < I (13, 0, 0) p then I (12, 4, 0) (32 * p + i) else 0
  | _ => 0
noncomputable def gz_aM (I : gz_M) : gz_S := fun c p i => match c with
  | 0 => if 0 ≤ p ∧ p < 120 then I (24, 0, 0) p else 0
  | 1 => if (0 ≤ p ∧ p < 120) ∧ 0 < I (24, 0, 0) p then I (25, 0, 0) p else 0
  | 2 => if (0 ≤ p ∧ p < 120) ∧ 0 < I (24, 0, 0) p then 1 - I (26, 0, 0) p else 0
  | 3 => if (0 ≤ p ∧ p < 120) ∧ 0 ≤ i ∧ i < I (24, 0, 0) p then I (27, 0, 0) (32 * p + i) else 0
  | _ => 0
def gz_mt (S : gz_S) (f : Int → Int) (n p : Int) : Prop := S 0 p 0 = n ∧ S 1 p 0 = gz_dg f n.toNat ∧ S 2 p 0 = 1 ∧ ∀ i, 0 ≤ i → i < n → S 3 p i = f i
def gz_tot (S : gz_S) : Int := gz_sm (fun p => S 0 p 0) 120
def gz_cnt (S : gz_S) : Int := gz_sm (fun p => if 0 < S 0 p 0 then 1 else 0) 120
def gz_add (S : gz_S) (q : Int) (f : Int → Int) (n : Int) : gz_S := fun c p i => if p = q then (match c with
  | 0 => n
  | 1 => gz_dg f n.toNat
  | 2 => 1
  | 3 => if 0 ≤ i ∧ i < n then f i else 0
  | _ => 0) else S c p i
/-- the part for a chunk: which (-1: there is no room), and the store then -/
noncomputable def gz_s1 (S : gz_S) (f : Int → Int) (n : Int) : Int × gz_S :=
  if gz_lst (gz_mt S f n) = -1 then
    if gz_lst (fun p => S 0 p 0 = 0) = -1 ∨ 2400 < gz_tot S + n then (-1, S)
    else (gz_lst (fun p => S 0 p 0 = 0), gz_add S (gz_lst (fun p => S 0 p 0 = 0)) f n)
  else (gz_lst (gz_mt S f n), S)
