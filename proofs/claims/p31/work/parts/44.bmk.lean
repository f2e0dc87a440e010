/-! masks out of truths, their bits and how many they are -/
theorem b_1 : ∀ i, i < 32 → bt 1 i = decide (i = 0) := by decide +kernel
theorem b_one (n : Nat) (hn : n < 32) {i : Nat} (hi : i < 32) : bt ((1 : Int32) <<< (nI n &&& 31)) i = decide (i = n) := by
  rw [b_shl n hn 1 hi]
  by_cases h : n ≤ i
  · rw [b_1 (i - n) (by omega)]
    by_cases e : i = n
    · subst e; simp
    · simp [e, h]; omega
  · have e : ¬ i = n := by omega
    simp [h, e]
theorem mk_bt (P : Nat → Bool) : ∀ n, n ≤ 31 → ∀ i, i < 32 → bt (mk P n) i = (decide (i < n) && P i)
  | 0, _, i, _ => by simp [mk, b_0]
  | n + 1, h, i, hi => by
    have ih := mk_bt P n (by omega) i hi
    cases hp : P n with
    | true =>
      rw [mk_t hp, b_or, ih, b_one n (by omega) hi]
      by_cases e : i = n
      · subst e; simp [hp]
      · have : decide (i < n + 1) = decide (i < n) := by simp; omega
        simp [e, this]
    | false =>
      rw [mk_f hp, ih]
      by_cases e : i = n
      · subst e; simp [hp]
      · have : decide (i < n + 1) = decide (i < n) := by simp; omega
        rw [this]
theorem mk_cong {P Q : Nat → Bool} : ∀ {n : Nat}, (∀ i, i < n → P i = Q i) → mk P n = mk Q n
  | 0, _ => rfl
  | n + 1, h => by
    have ih := mk_cong (n := n) (fun i hi => h i (by omega))
    unfold mk
    rw [h n (by omega), ih]
theorem mk_and {P Q : Nat → Bool} {n : Nat} (hn : n ≤ 31) : mk P n &&& mk Q n = mk (fun i => P i && Q i) n := b_ext (fun i hi => by
  rw [b_and, mk_bt P n hn i hi, mk_bt Q n hn i hi, mk_bt _ n hn i hi]
  cases decide (i < n) <;> simp)
theorem mk_or {P Q : Nat → Bool} {n : Nat} (hn : n ≤ 31) : mk P n ||| mk Q n = mk (fun i => P i || Q i) n := b_ext (fun i hi => by
  rw [b_or, mk_bt P n hn i hi, mk_bt Q n hn i hi, mk_bt _ n hn i hi]
  cases decide (i < n) <;> simp)
theorem mk_sub {P Q : Nat → Bool} {n : Nat} (hn : n ≤ 31) : mk P n &&& (mk Q n ^^^ (-1)) = mk (fun i => P i && !Q i) n := b_ext (fun i hi => by
  rw [b_and, b_xor, b_m1 i hi, mk_bt P n hn i hi, mk_bt Q n hn i hi, mk_bt _ n hn i hi]
  cases decide (i < n) <;> cases P i <;> cases Q i <;> rfl)
theorem mk_0 {P : Nat → Bool} {n : Nat} (hn : n ≤ 31) : mk P n = 0 ↔ ∀ i, i < n → P i = false := by
  constructor
  · intro h i hi
    have := mk_bt P n hn i (by omega)
    rw [h, b_0] at this
    simpa [hi] using this.symm
  · intro h
    exact b_ext (fun i hi => by
      rw [mk_bt P n hn i hi, b_0]
      by_cases e : i < n
      · simp [h i e]
      · simp [e])
theorem mk_b1 (P : Nat → Bool) {n i : Nat} (hn : n ≤ 31) (hi : i < 31) : (mk P n >>> (nI i &&& 31)) &&& 1 = if (decide (i < n) && P i) = true then 1 else 0 := b_ext (fun j hj => by
  rw [b_and, b_sshr i (by omega) _ hj, b_1 j hj]
  by_cases e : j = 0
  · subst e
    rw [if_pos (by omega), Nat.add_zero, mk_bt P n hn i (by omega)]
    cases (decide (i < n) && P i) <;> simp [b_0, b_1 0 (by omega)]
  · have : decide (j = 0) = false := by simp [e]
    rw [this, Bool.and_false]
    split <;> simp [b_0, b_1 j hj, e])
theorem mk_tst (P : Nat → Bool) {n i : Nat} (hn : n ≤ 31) (hi : i < n) : ((mk P n >>> (nI i &&& 31)) &&& 1 = 0) ↔ P i = false := by
  rw [mk_b1 P hn (by omega)]
  cases h : P i <;> simp [hi]
theorem mk_set (P : Nat → Bool) {n i : Nat} (hn : n ≤ 31) (hi : i < n) : mk P n ||| ((1 : Int32) <<< (nI i &&& 31)) = mk (fun k => decide (k = i) || P k) n := b_ext (fun j hj => by
  rw [b_or, mk_bt P n hn j hj, b_one i (by omega) hj, mk_bt _ n hn j hj]
  by_cases e : j = i
  · subst e; simp [hi]
  · simp [e])
theorem cnI_ct (P : Nat → Bool) : ∀ n, cnI P n = nI (fb_ct P n)
  | 0 => rfl
  | n + 1 => by
    cases hp : P n with
    | true => rw [cnI_t hp, cnI_ct P n, fb_ct_succ, hp]; exact nI_inc _
    | false => rw [cnI_f hp, cnI_ct P n, fb_ct_succ, hp]; rfl
theorem one_ct (P : Nat → Bool) {n : Nat} (hn : n ≤ 20) : ∀ m, m ≤ 20 → oneN (mk P n) m = nI (fb_ct (fun i => decide (i < n) && P i) m)
  | 0, _ => rfl
  | m + 1, hm => by
    show oneN (mk P n) m + _ = _
    rw [one_ct P hn m (by omega), mk_b1 P (by omega) (by omega), fb_ct_succ]
    cases h : (decide (m < n) && P m) with
    | true => rw [if_pos rfl, if_pos rfl]; exact nI_inc _
    | false => rw [if_neg (by decide), if_neg (by decide)]; exact add0 _
theorem fb_ct_cut (P : Nat → Bool) (n : Nat) : ∀ m, n ≤ m → fb_ct (fun i => decide (i < n) && P i) m = fb_ct P n
  | 0, h => by rw [show n = 0 by omega]; rfl
  | m + 1, h => by
    by_cases e : n = m + 1
    · subst e; exact fb_ct_cong (fun k hk => by simp [hk])
    · rw [fb_ct_succ, fb_ct_cut P n m (by omega)]
      have : ¬ m < n := by omega
      simp [this]
theorem one_mk (P : Nat → Bool) {n : Nat} (hn : n ≤ 20) : oneN (mk P n) 20 = nI (fb_ct P n) := by
  rw [one_ct P hn 20 (Nat.le_refl _), fb_ct_cut P n 20 hn]
/-- the mask as a number -/
def mkN (P : Nat → Bool) : Nat → Nat
  | 0 => 0
  | n + 1 => 2 ^ n * (if P n = true then 1 else 0) + mkN P n
theorem mkN_lt (P : Nat → Bool) : ∀ n, mkN P n < 2 ^ n
  | 0 => Nat.zero_lt_one
  | n + 1 => by
    have := mkN_lt P n
    show 2 ^ n * _ + mkN P n < 2 ^ (n + 1)
    rw [Nat.pow_succ]
    split <;> omega
theorem sh_pw : ∀ n, n < 32 → (1 : Int32) <<< (nI n &&& 31) = nI (2 ^ n * 1) := by decide +kernel
theorem mk_N (P : Nat → Bool) : ∀ n, n ≤ 31 → mk P n = nI (mkN P n)
  | 0, _ => rfl
  | n + 1, h => by
    cases hp : P n with
    | true =>
      rw [mk_t hp, mk_N P n (by omega), sh_pw n (by omega), Int32.or_comm, fa_or_sum 1 (mkN_lt P n)]
      show _ = nI (2 ^ n * _ + mkN P n)
      rw [if_pos hp]
    | false =>
      rw [mk_f hp, mk_N P n (by omega)]
      show _ = nI (2 ^ n * _ + mkN P n)
      rw [if_neg (by rw [hp]; decide), Nat.mul_zero, Nat.zero_add]
theorem ush_N {x j : Nat} (hx : x < 2 ^ 32) (hj : j < 32) : iU (nI x) (nI j) = nI (x / 2 ^ j) := b_ext (fun i hi => by
  show bt ((nI x).toUInt32 >>> ((nI j).toUInt32 &&& Int32.toUInt32 31)).toInt32 i = _
  rw [b_ushr j hj]
  show (BitVec.ofNat 32 x).getLsbD (j + i) = (BitVec.ofNat 32 (x / 2 ^ j)).getLsbD i
  rw [BitVec.getLsbD_ofNat, BitVec.getLsbD_ofNat, Nat.testBit_div_two_pow]
  by_cases e : j + i < 32
  · simp [e, hi, Nat.add_comm]
  · have : x.testBit (j + i) = false := Nat.testBit_lt_two_pow (Nat.lt_of_lt_of_le hx (Nat.pow_le_pow_right (by decide) (by omega)))
    simp [e, this, Nat.add_comm])
theorem and_16 {a b c d : Nat} (ha : a < 16) (hc : c < 16) : (a + 16 * b) &&& (c + 16 * d) = (a &&& c) + 16 * (b &&& d) := by
  have h1 : ((a + 16 * b) &&& (c + 16 * d)) % 2 ^ 4 = a &&& c := by
    rw [Nat.and_mod_two_pow, show (a + 16 * b) % 2 ^ 4 = a by omega, show (c + 16 * d) % 2 ^ 4 = c by omega]
  have h2 : ((a + 16 * b) &&& (c + 16 * d)) / 2 ^ 4 = b &&& d := by
    rw [Nat.and_div_two_pow, show (a + 16 * b) / 2 ^ 4 = b by omega, show (c + 16 * d) / 2 ^ 4 = d by omega]
  omega
def pc4 (n : Nat) : Nat := n % 2 + n / 2 % 2 + n / 4 % 2 + n / 8 % 2
theorem nb_a : ∀ n, n < 16 → ∀ e, e < 2 → (n / 2 + 8 * e) &&& 5 = (n / 2) &&& 5 := by decide +kernel
theorem nb_b : ∀ n, n < 16 → (n / 2) &&& 5 ≤ n := by decide +kernel
theorem nb_c : ∀ n, n < 16 → ∀ e, e < 4 → ((n - ((n / 2) &&& 5)) &&& 3) + (((n - ((n / 2) &&& 5)) / 4 + 4 * e) &&& 3) = pc4 n := by decide +kernel
theorem pc4_le : ∀ n, n < 16 → pc4 n ≤ 4 := by decide +kernel
theorem nb_15 : ∀ n, n < 16 → n &&& 15 = n := by decide +kernel
def V6 (a b c d e f : Nat) : Nat := a + 16 * (b + 16 * (c + 16 * (d + 16 * (e + 16 * f))))
theorem V6_and {a b c d e f m0 m1 m2 m3 m4 m5 M : Nat} (ha : a < 16) (hb : b < 16) (hc : c < 16) (hd : d < 16) (he : e < 16) (hf : f < 16) (h0 : m0 < 16) (h1 : m1 < 16) (h2 : m2 < 16) (h3 : m3 < 16) (h4 : m4 < 16) (h5 : m5 < 16) : V6 a b c d e f &&& V6 m0 m1 m2 m3 m4 (m5 + 16 * M) = V6 (a &&& m0) (b &&& m1) (c &&& m2) (d &&& m3) (e &&& m4) (f &&& m5) := by
  have e5 : f &&& (m5 + 16 * M) = f &&& m5 := by
    have := and_16 (a := f) (b := 0) (c := m5) (d := M) hf h5
    rw [Nat.mul_zero, Nat.add_zero, Nat.zero_and, Nat.mul_zero, Nat.add_zero] at this
    exact this
  unfold V6
  rw [and_16 ha h0, and_16 hb h1, and_16 hc h2, and_16 hd h3, and_16 he h4, e5]
theorem and_lt {a m : Nat} (h : a < 16) : a &&& m < 16 := Nat.lt_of_le_of_lt Nat.and_le_left h
theorem pop_6 {a b c d e f : Nat} (ha : a < 16) (hb : b < 16) (hc : c < 16) (hd : d < 16) (he : e < 16) (hf : f < 16) : bitC (nI (V6 a b c d e f)) = nI (pc4 a + pc4 b + pc4 c + pc4 d + pc4 e + pc4 f) := by
  have hx : V6 a b c d e f < 16777216 := by unfold V6; omega
  -- x1
  have u1 : V6 a b c d e f / 2 ^ 1 = V6 (a / 2 + 8 * (b % 2)) (b / 2 + 8 * (c % 2)) (c / 2 + 8 * (d % 2)) (d / 2 + 8 * (e % 2)) (e / 2 + 8 * (f % 2)) (f / 2 + 8 * 0) := by unfold V6; omega
  have c1 : (1431655765 : Nat) = V6 5 5 5 5 5 (5 + 16 * 85) := by decide
  have a1 : V6 a b c d e f / 2 ^ 1 &&& 1431655765 = V6 (a / 2 &&& 5) (b / 2 &&& 5) (c / 2 &&& 5) (d / 2 &&& 5) (e / 2 &&& 5) (f / 2 &&& 5) := by
    rw [u1, c1, V6_and (by omega) (by omega) (by omega) (by omega) (by omega) (by omega) (by decide) (by decide) (by decide) (by decide) (by decide) (by decide), nb_a a ha _ (by omega), nb_a b hb _ (by omega), nb_a c hc _ (by omega), nb_a d hd _ (by omega), nb_a e he _ (by omega), nb_a f hf _ (by omega)]
  have p0 := nb_b a ha
  have p1 := nb_b b hb
  have p2 := nb_b c hc
  have p3 := nb_b d hd
  have p4 := nb_b e he
  have p5 := nb_b f hf
  have x1 : nI (V6 a b c d e f) - (iU (nI (V6 a b c d e f)) (nI 1) &&& nI 1431655765) = nI (V6 (a - (a / 2 &&& 5)) (b - (b / 2 &&& 5)) (c - (c / 2 &&& 5)) (d - (d / 2 &&& 5)) (e - (e / 2 &&& 5)) (f - (f / 2 &&& 5))) := by
    rw [ush_N (by omega) (by decide), fa_and, a1, pk_sub (by unfold V6; omega)]
    exact congrArg nI (by unfold V6; omega)
  have k0 := nb_c a ha
  have k1 := nb_c b hb
  have k2 := nb_c c hc
  have k3 := nb_c d hd
  have k4 := nb_c e he
  have k5 := nb_c f hf
  have q0 := pc4_le a ha
  have q1 := pc4_le b hb
  have q2 := pc4_le c hc
  have q3 := pc4_le d hd
  have q4 := pc4_le e he
  have q5 := pc4_le f hf
  have lA : a - (a / 2 &&& 5) < 16 := by omega
  have lB : b - (b / 2 &&& 5) < 16 := by omega
  have lC : c - (c / 2 &&& 5) < 16 := by omega
  have lD : d - (d / 2 &&& 5) < 16 := by omega
  have lE : e - (e / 2 &&& 5) < 16 := by omega
  have lF : f - (f / 2 &&& 5) < 16 := by omega
  generalize a - (a / 2 &&& 5) = A at x1 k0 lA
  generalize b - (b / 2 &&& 5) = B at x1 k1 lB
  generalize c - (c / 2 &&& 5) = C at x1 k2 lC
  generalize d - (d / 2 &&& 5) = D at x1 k3 lD
  generalize e - (e / 2 &&& 5) = E at x1 k4 lE
  generalize f - (f / 2 &&& 5) = F at x1 k5 lF
  have hX : V6 A B C D E F < 16777216 := by unfold V6; omega
  have u2 : V6 A B C D E F / 2 ^ 2 = V6 (A / 4 + 4 * (B % 4)) (B / 4 + 4 * (C % 4)) (C / 4 + 4 * (D % 4)) (D / 4 + 4 * (E % 4)) (E / 4 + 4 * (F % 4)) (F / 4 + 4 * 0) := by unfold V6; omega
  have c2 : (858993459 : Nat) = V6 3 3 3 3 3 (3 + 16 * 51) := by decide
  have a2 : (V6 A B C D E F &&& 858993459) + (V6 A B C D E F / 2 ^ 2 &&& 858993459) = V6 (pc4 a) (pc4 b) (pc4 c) (pc4 d) (pc4 e) (pc4 f) := by
    rw [u2, c2, V6_and lA lB lC lD lE lF (by decide) (by decide) (by decide) (by decide) (by decide) (by decide), V6_and (by omega) (by omega) (by omega) (by omega) (by omega) (by omega) (by decide) (by decide) (by decide) (by decide) (by decide) (by decide), ← k0 (B % 4) (by omega), ← k1 (C % 4) (by omega), ← k2 (D % 4) (by omega), ← k3 (E % 4) (by omega), ← k4 (F % 4) (by omega), ← k5 0 (by omega)]
    unfold V6
    omega
  have x2 : (nI (V6 A B C D E F) &&& nI 858993459) + (iU (nI (V6 A B C D E F)) (nI 2) &&& nI 858993459) = nI (V6 (pc4 a) (pc4 b) (pc4 c) (pc4 d) (pc4 e) (pc4 f)) := by
    rw [ush_N (by omega) (by decide), fa_and, fa_and, nI_add, a2]
  generalize pc4 a = A2 at x2 q0 ⊢
  generalize pc4 b = B2 at x2 q1 ⊢
  generalize pc4 c = C2 at x2 q2 ⊢
  generalize pc4 d = D2 at x2 q3 ⊢
  generalize pc4 e = E2 at x2 q4 ⊢
  generalize pc4 f = F2 at x2 q5 ⊢
  have u3 : V6 A2 B2 C2 D2 E2 F2 + V6 A2 B2 C2 D2 E2 F2 / 2 ^ 4 = V6 (A2 + B2) (B2 + C2) (C2 + D2) (D2 + E2) (E2 + F2) F2 := by unfold V6; omega
  have c3 : (252645135 : Nat) = V6 15 0 15 0 15 (0 + 16 * 15) := by decide
  have x3 : (nI (V6 A2 B2 C2 D2 E2 F2) + iU (nI (V6 A2 B2 C2 D2 E2 F2)) (nI 4)) &&& nI 252645135 = nI (A2 + B2 + 256 * (C2 + D2) + 65536 * (E2 + F2)) := by
    rw [ush_N (by unfold V6; omega) (by decide), nI_add, u3, fa_and, c3, V6_and (by omega) (by omega) (by omega) (by omega) (by omega) (by omega) (by decide) (by decide) (by decide) (by decide) (by decide) (by decide), nb_15 _ (by omega), nb_15 _ (by omega), nb_15 _ (by omega), Nat.and_zero, Nat.and_zero, Nat.and_zero]
    exact congrArg nI (by unfold V6; omega)
  have x4 : nI (A2 + B2 + 256 * (C2 + D2) + 65536 * (E2 + F2)) + iU (nI (A2 + B2 + 256 * (C2 + D2) + 65536 * (E2 + F2))) (nI 8) = nI (A2 + B2 + (C2 + D2) + 256 * (C2 + D2 + (E2 + F2)) + 65536 * (E2 + F2)) := by
    rw [ush_N (by omega) (by decide), nI_add]
    exact congrArg nI (by omega)
  have x5 : (nI (A2 + B2 + (C2 + D2) + 256 * (C2 + D2 + (E2 + F2)) + 65536 * (E2 + F2)) + iU (nI (A2 + B2 + (C2 + D2) + 256 * (C2 + D2 + (E2 + F2)) + 65536 * (E2 + F2))) (nI 16)) &&& nI 63 = nI (A2 + B2 + C2 + D2 + E2 + F2) := by
    have d1 : (A2 + B2 + (C2 + D2) + 256 * (C2 + D2 + (E2 + F2)) + 65536 * (E2 + F2)) / 2 ^ 16 = E2 + F2 := by omega
    rw [ush_N (by omega) (by decide), d1, nI_add, fa_and, show (63 : Nat) = 2 ^ 6 - 1 from rfl, Nat.and_two_pow_sub_one_eq_mod]
    have d2 : A2 + B2 + (C2 + D2) + 256 * (C2 + D2 + (E2 + F2)) + 65536 * (E2 + F2) + (E2 + F2) = (A2 + B2 + C2 + D2 + E2 + F2) + 64 * (4 * (C2 + D2 + (E2 + F2)) + 1024 * (E2 + F2)) := by omega
    rw [d2, show (2 : Nat) ^ 6 = 64 from rfl, Nat.add_mul_mod_self_left, Nat.mod_eq_of_lt (by omega)]
  show (let x1 := nI (V6 a b c d e f) - (iU (nI (V6 a b c d e f)) (nI 1) &&& nI 1431655765); let x2 := (x1 &&& nI 858993459) + (iU x1 (nI 2) &&& nI 858993459); let x3 := (x2 + iU x2 (nI 4)) &&& nI 252645135; let x4 := x3 + iU x3 (nI 8); let x5 := x4 + iU x4 (nI 16); x5 &&& nI 63) = _
  dsimp only
  rw [x1, x2, x3, x4, x5]
theorem mkN_24 (P : Nat → Bool) : mkN P 24 = V6 (mkN P 4) (mkN (fun k => P (4 + k)) 4) (mkN (fun k => P (8 + k)) 4) (mkN (fun k => P (12 + k)) 4) (mkN (fun k => P (16 + k)) 4) (mkN (fun k => P (20 + k)) 4) := by
  simp only [mkN, V6, Nat.reduceAdd, Nat.reducePow]
  omega
theorem pc4_mkN (P : Nat → Bool) : pc4 (mkN P 4) = fb_ct P 4 := by
  simp only [mkN, fb_ct]
  cases P 0 <;> cases P 1 <;> cases P 2 <;> cases P 3 <;> rfl
theorem bit_24 (P : Nat → Bool) : bitC (mk P 24) = nI (fb_ct P 24) := by
  rw [mk_N P 24 (by decide), mkN_24, pop_6 (mkN_lt P 4) (mkN_lt _ 4) (mkN_lt _ 4) (mkN_lt _ 4) (mkN_lt _ 4) (mkN_lt _ 4), pc4_mkN, pc4_mkN, pc4_mkN, pc4_mkN, pc4_mkN, pc4_mkN]
  refine congrArg nI ?_
  rw [show (24 : Nat) = 4 + (4 + (4 + (4 + (4 + 4)))) from rfl, fb_ct_split, fb_ct_split, fb_ct_split, fb_ct_split, fb_ct_split]
  have e1 : (fun k => P (4 + (4 + k))) = fun k => P (8 + k) := funext fun k => by rw [show 4 + (4 + k) = 8 + k by omega]
  have e2 : (fun k => P (4 + (4 + (4 + k)))) = fun k => P (12 + k) := funext fun k => by rw [show 4 + (4 + (4 + k)) = 12 + k by omega]
  have e3 : (fun k => P (4 + (4 + (4 + (4 + k))))) = fun k => P (16 + k) := funext fun k => by rw [show 4 + (4 + (4 + (4 + k))) = 16 + k by omega]
  have e4 : (fun k => P (4 + (4 + (4 + (4 + (4 + k)))))) = fun k => P (20 + k) := funext fun k => by rw [show 4 + (4 + (4 + (4 + (4 + k)))) = 20 + k by omega]
  rw [e1, e2, e3, e4]
  omega
theorem bit_mk (P : Nat → Bool) {n : Nat} (hn : n ≤ 24) : bitC (mk P n) = nI (fb_ct P n) := by
  have e : mk P n = mk (fun i => decide (i < n) && P i) 24 := b_ext (fun i hi => by
    rw [mk_bt P n (by omega) i hi, mk_bt _ 24 (by decide) i hi]
    by_cases h : i < n
    · have : i < 24 := by omega
      simp [h, this]
    · simp [h])
  rw [e, bit_24, fb_ct_cut P n 24 hn]
