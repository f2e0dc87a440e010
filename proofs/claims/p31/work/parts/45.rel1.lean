/-! what ties the class's workshop w to the reference's row z -/
theorem upd_s (z : Nat → Int32) (j : Nat) (v : Int32) : upd z j v j = v := if_pos rfl
theorem upd_o (z : Nat → Int32) {j i : Nat} (v : Int32) (h : i ≠ j) : upd z j v i = z i := if_neg h
def WRs (n np nt : Nat) (w : WS) (z : Nat → Int32) : Prop := (n ≤ 20 ∧ np ≤ 10 ∧ nt ≤ 999) ∧ (w.2 2 = nI n ∧ z 7 = nI n) ∧ (w.2 3 = nI np ∧ z 6 = nI np) ∧ (w.2 0 = nI nt ∧ z 0 = nI nt) ∧ w.2 4 = z 1 ∧ w.2 5 = z 8
def WRset (w : WS) (z : Nat → Int32) : Prop := ∀ i, i < 4 → w.1 0 i = z (2 + i) ∧ ∃ v : Nat, v ≤ 140 ∧ z (2 + i) = nI v
def WRgl (w : WS) (z : Nat → Int32) : Prop := ∀ i, i < 4 → w.1 10 i = z (11 + i) ∧ ∃ v : Nat, v ≤ 99 ∧ z (11 + i) = nI v
def WRfee (w : WS) (z : Nat → Int32) : Prop := (∀ i, i < 10 → w.1 11 i = z (15 + i)) ∧ z 10 = suI (fun i => z (15 + i)) 10
def WRthr (w : WS) (z : Nat → Int32) : Prop := w.2 1 = mk (fun k => decide (z (25 + k) = 1)) 10
def BK (np : Nat) (c b : Int32) : Prop := (b = -6 ∧ c = 0) ∨ ∃ q : Nat, q < np ∧ b = nI q ∧ c = nI (q + 1)
def WRbk (np nt : Nat) (w : WS) (z : Nat → Int32) : Prop := ∀ wh ah, wh < 5 → ah < 21 → BK np (w.1 1 (5 * ((nt + ah) % 21) + wh)) (z (215 + 21 * wh + ah))
def WRun (z : Nat → Int32) : Prop := ∀ ah wh wh2, ah < 21 → wh < 5 → wh2 < 5 → z (215 + 21 * wh + ah) = z (215 + 21 * wh2 + ah) → z (215 + 21 * wh + ah) ≠ -6 → wh = wh2
def SP (sp wh pl : Int32) (kd : Nat) : Prop := (wh = 0 ∧ ∃ q : Nat, q < 24 ∧ sp = nI q ∧ pl = nI q) ∨ (wh = 1 ∧ sp = 24 ∧ (kd = 0 ∨ kd = 2)) ∨ (wh = 2 ∧ sp = 25 ∧ (kd = 3 ∨ kd = 4))
def PT (K np nt : Nat) (w : WS) (z : Nat → Int32) (p : Nat) : Prop :=
  (w.1 2 p = z (35 + 9 * p) ∧ ∃ q : Nat, q < np ∧ z (35 + 9 * p) = nI q) ∧ (w.1 3 p = z (35 + 9 * p + 1) ∧ ∃ q : Nat, q ≤ 3 ∧ z (35 + 9 * p + 1) = nI q) ∧ w.1 4 p = z (35 + 9 * p + 2) ∧
  (w.1 7 p = z (35 + 9 * p + 6) ∧ ∃ q : Nat, q ≤ 2 * nt ∧ z (35 + 9 * p + 6) = nI q) ∧ (w.1 9 p = z (35 + 9 * p + 8) ∧ ∃ q : Nat, q ≤ K ∧ z (35 + 9 * p + 8) = nI q) ∧
  ∃ kd : Nat, kd ≤ 4 ∧ (w.1 5 p = nI kd ∧ z (35 + 9 * p + 3) = nI kd) ∧ SP (w.1 6 p) (z (35 + 9 * p + 4)) (z (35 + 9 * p + 5)) kd ∧ ((kd = 2 ∨ kd = 3) → w.1 8 p = z (35 + 9 * p + 7)) ∧ (¬ (kd = 2 ∨ kd = 3) → z (35 + 9 * p + 7) = -6)
def WRpt (K n np nt : Nat) (w : WS) (z : Nat → Int32) : Prop := ∀ p, p < n → PT K np nt w z p
def WRdi (n : Nat) (z : Nat → Int32) : Prop := ∀ p q, p < n → q < n → p ≠ q → z (35 + 9 * p + 4) = 0 → z (35 + 9 * q + 4) = 0 → z (35 + 9 * p + 5) ≠ z (35 + 9 * q + 5)
def WRbr (n : Nat) (z : Nat → Int32) : Prop := z 9 = nI (fb_ct (fun p => decide (z (35 + 9 * p + 3) = 4)) n)
def WRn (K n np nt : Nat) (w : WS) (z : Nat → Int32) : Prop := WRs n np nt w z ∧ WRset w z ∧ WRgl w z ∧ WRfee w z ∧ WRthr w z ∧ WRbk np nt w z ∧ WRun z ∧ WRpt K n np nt w z ∧ WRdi n z ∧ WRbr n z
def WR (K : Nat) (w : WS) (z : Nat → Int32) : Prop := ∃ n np nt, WRn K n np nt w z
/-! each part under another w and z that agree where it looks -/
theorem WRset_c {w w2 : WS} {z z2 : Nat → Int32} (h : WRset w z) (hw : ∀ i, i < 4 → w2.1 0 i = w.1 0 i) (hz : ∀ i, i < 4 → z2 (2 + i) = z (2 + i)) : WRset w2 z2 := fun i hi => by rw [hw i hi, hz i hi]; exact h i hi
theorem WRgl_c {w w2 : WS} {z z2 : Nat → Int32} (h : WRgl w z) (hw : ∀ i, i < 4 → w2.1 10 i = w.1 10 i) (hz : ∀ i, i < 4 → z2 (11 + i) = z (11 + i)) : WRgl w2 z2 := fun i hi => by rw [hw i hi, hz i hi]; exact h i hi
theorem suI_cong {f g : Nat → Int32} : ∀ {n : Nat}, (∀ k, k < n → f k = g k) → suI f n = suI g n
  | 0, _ => rfl
  | n + 1, h => by
    show suI f n + f n = suI g n + g n
    rw [suI_cong (fun k hk => h k (by omega)), h n (by omega)]
theorem WRfee_c {w w2 : WS} {z z2 : Nat → Int32} (h : WRfee w z) (hw : ∀ i, i < 10 → w2.1 11 i = w.1 11 i) (hz : ∀ i, i < 10 → z2 (15 + i) = z (15 + i)) (h10 : z2 10 = z 10) : WRfee w2 z2 := ⟨fun i hi => by rw [hw i hi, hz i hi]; exact h.1 i hi, by rw [h10, h.2]; exact suI_cong (fun k hk => (hz k hk).symm)⟩
theorem WRthr_c {w w2 : WS} {z z2 : Nat → Int32} (h : WRthr w z) (hw : w2.2 1 = w.2 1) (hz : ∀ i, i < 10 → z2 (25 + i) = z (25 + i)) : WRthr w2 z2 := by
  show w2.2 1 = _
  rw [hw, h]
  exact mk_cong (fun i hi => by rw [hz i hi])
theorem WRbk_c {np nt : Nat} {w w2 : WS} {z z2 : Nat → Int32} (h : WRbk np nt w z) (hw : ∀ i, i < 105 → w2.1 1 i = w.1 1 i) (hz : ∀ i, i < 105 → z2 (215 + i) = z (215 + i)) : WRbk np nt w2 z2 := fun wh ah h1 h2 => by
  rw [hw _ (by omega), show 215 + 21 * wh + ah = 215 + (21 * wh + ah) by omega, hz _ (by omega), show 215 + (21 * wh + ah) = 215 + 21 * wh + ah by omega]
  exact h wh ah h1 h2
theorem WRun_c {z z2 : Nat → Int32} (h : WRun z) (hz : ∀ i, i < 105 → z2 (215 + i) = z (215 + i)) : WRun z2 := fun ah wh wh2 h1 h2 h3 => by
  have e1 : z2 (215 + 21 * wh + ah) = z (215 + 21 * wh + ah) := by rw [show 215 + 21 * wh + ah = 215 + (21 * wh + ah) by omega]; exact hz _ (by omega)
  have e2 : z2 (215 + 21 * wh2 + ah) = z (215 + 21 * wh2 + ah) := by rw [show 215 + 21 * wh2 + ah = 215 + (21 * wh2 + ah) by omega]; exact hz _ (by omega)
  rw [e1, e2]
  exact h ah wh wh2 h1 h2 h3
theorem PT_c {K K2 np np2 nt nt2 : Nat} {w w2 : WS} {z z2 : Nat → Int32} {p : Nat} (h : PT K np nt w z p) (hK : K ≤ K2) (hp : np ≤ np2) (ht : nt ≤ nt2) (hw : ∀ r, 2 ≤ r → r ≤ 9 → w2.1 r p = w.1 r p) (hz : ∀ i, i < 9 → z2 (35 + 9 * p + i) = z (35 + 9 * p + i)) : PT K2 np2 nt2 w2 z2 p := by
  obtain ⟨⟨a1, q1, a2, a3⟩, ⟨b1, q2, b2, b3⟩, c1, ⟨d1, q3, d2, d3⟩, ⟨e1, q4, e2, e3⟩, kd, f1, ⟨f2, f3⟩, f4, f5, f6⟩ := h
  have z0 : z2 (35 + 9 * p) = z (35 + 9 * p) := hz 0 (by omega)
  unfold PT
  rw [z0, hz 1 (by omega), hz 2 (by omega), hz 3 (by omega), hz 4 (by omega), hz 5 (by omega), hz 6 (by omega), hz 7 (by omega), hz 8 (by omega), hw 2 (by omega) (by omega), hw 3 (by omega) (by omega), hw 4 (by omega) (by omega), hw 5 (by omega) (by omega), hw 6 (by omega) (by omega), hw 7 (by omega) (by omega), hw 8 (by omega) (by omega), hw 9 (by omega) (by omega)]
  exact ⟨⟨a1, q1, by omega, a3⟩, ⟨b1, q2, b2, b3⟩, c1, ⟨d1, q3, by omega, d3⟩, ⟨e1, q4, by omega, e3⟩, kd, f1, ⟨f2, f3⟩, f4, f5, f6⟩
theorem WRpt_c {K K2 n np np2 nt nt2 : Nat} {w w2 : WS} {z z2 : Nat → Int32} (h : WRpt K n np nt w z) (hn : n ≤ 20) (hK : K ≤ K2) (hp : np ≤ np2) (ht : nt ≤ nt2) (hw : ∀ r, 2 ≤ r → r ≤ 9 → ∀ p, p < 20 → w2.1 r p = w.1 r p) (hz : ∀ i, 35 ≤ i → i < 215 → z2 i = z i) : WRpt K2 n np2 nt2 w2 z2 := fun p hp2 => PT_c (h p hp2) hK hp ht (fun r h1 h2 => hw r h1 h2 p (by omega)) (fun i hi => hz _ (by omega) (by omega))
theorem WRdi_c {n : Nat} {z z2 : Nat → Int32} (h : WRdi n z) (hn : n ≤ 20) (hz : ∀ i, 35 ≤ i → i < 215 → z2 i = z i) : WRdi n z2 := fun p q hp hq hne => by
  rw [hz _ (by omega) (by omega), hz _ (by omega) (by omega), hz _ (by omega) (by omega), hz _ (by omega) (by omega)]
  exact h p q hp hq hne
theorem WRbr_c {n : Nat} {z z2 : Nat → Int32} (h : WRbr n z) (hn : n ≤ 20) (hz : ∀ i, 35 ≤ i → i < 215 → z2 i = z i) (h9 : z2 9 = z 9) : WRbr n z2 := by
  show z2 9 = _
  rw [h9, h]
  exact congrArg nI (fb_ct_cong (fun k hk => by rw [hz _ (by omega) (by omega)]))
theorem WR_K {K K2 : Nat} {w : WS} {z : Nat → Int32} (h : WR K w z) (hK : K ≤ K2) : WR K2 w z := by
  obtain ⟨n, np, nt, hs, h1, h2, h3, h4, h5, h6, h7, h8⟩ := h
  exact ⟨n, np, nt, hs, h1, h2, h3, h4, h5, h6, WRpt_c h7 hs.1.1 hK (Nat.le_refl _) (Nat.le_refl _) (fun _ _ _ _ _ => rfl) (fun _ _ _ => rfl), h8⟩
/-! numbers -/
theorem rAt_n {n : Nat} {g : Nat → Int32} {p : Nat} (hp : p < n) (hn : n ≤ 1000) : rAt n g (nI p) = g p := by
  rw [rAt_in (vp_in_nI hp (by omega)), nI_clamp (by omega)]
theorem rPut_n {n : Nat} {g : Nat → Int32} {p : Nat} {x : Int32} (hp : p < n) (hn : n ≤ 1000) : rPut n g (nI p) x = upd g p x := by
  rw [rPut_in (vp_in_nI hp (by omega)), nI_clamp (by omega)]
theorem cl_n {p : Nat} (hp : p < 2 ^ 31) : cl (nI p) = p := nI_clamp hp
theorem i6_n {p : Nat} (hp : p < 2 ^ 31) : nI p ≠ -6 := fun z => nI_pos hp (by rw [z]; decide)
theorem ltW_of {q x : Int32} {n : Nat} (hx : x = nI n) (hn : n < 2 ^ 31) : isW q 0 (x - 1) = true ↔ ∃ p, p < n ∧ q = nI p := by
  constructor
  · intro h
    obtain ⟨a, b⟩ := isW_pr hx hn h
    exact ⟨cl q, b, a⟩
  · rintro ⟨p, hp, rfl⟩
    exact isW_pt hx hn rfl hp
theorem hasP_of {w : WS} {q : Int32} {np : Nat} (hx : w.2 3 = nI np) (hn : np < 2 ^ 31) : vX5_hasPupil w q = true ↔ ∃ p, p < np ∧ q = nI p := by
  unfold vX5_hasPupil
  constructor
  · intro h
    split at h
    · cases h
    · rename_i h1
      split at h
      · cases h
      · rename_i h2
        obtain ⟨j, hj, rfl⟩ := nI_of h1
        exact ⟨j, Nat.lt_of_not_le (fun z => h2 (by rw [hx]; exact (nI_leI hn hj).mpr z)), rfl⟩
  · rintro ⟨p, hp, rfl⟩
    rw [if_neg (nI_pos (by omega)), if_neg (fun z => by rw [hx] at z; have := (nI_leI hn (by omega)).mp z; omega)]
theorem hasP_eq {w : WS} {q x : Int32} {np : Nat} (hw : w.2 3 = nI np) (hx : x = nI np) (hn : np < 2 ^ 31) : vX5_hasPupil w q = isW q 0 (x - 1) := by
  have h1 := hasP_of (q := q) hw hn
  have h2 := ltW_of (q := q) hx hn
  cases a : vX5_hasPupil w q <;> cases b : isW q 0 (x - 1)
  · rfl
  · exact absurd (h1.mpr (h2.mp b)) (by rw [a]; decide)
  · exact absurd (h2.mpr (h1.mp a)) (by rw [b]; decide)
  · rfl
theorem cHas_of {w : WS} {q : Int32} {n : Nat} (hx : w.2 2 = nI n) (hn : n < 2 ^ 31) : cHas w q = true ↔ ∃ p, p < n ∧ q = nI p := by
  simp only [cHas, Bool.and_eq_true, decide_eq_true_eq]
  constructor
  · rintro ⟨h1, h2⟩
    obtain ⟨j, hj, rfl⟩ := nI_of h1
    exact ⟨j, Nat.lt_of_not_le (fun z => h2 (by rw [hx]; exact (nI_leI hn hj).mpr z)), rfl⟩
  · rintro ⟨p, hp, rfl⟩
    exact ⟨nI_pos (by omega), fun z => by rw [hx] at z; have := (nI_leI hn (by omega)).mp z; omega⟩
theorem cHas_eq {w : WS} {q x : Int32} {n : Nat} (hw : w.2 2 = nI n) (hx : x = nI n) (hn : n < 2 ^ 31) : cHas w q = isW q 0 (x - 1) := by
  have h1 := cHas_of (q := q) hw hn
  have h2 := ltW_of (q := q) hx hn
  cases a : cHas w q <;> cases b : isW q 0 (x - 1)
  · rfl
  · exact absurd (h1.mpr (h2.mp b)) (by rw [a]; decide)
  · exact absurd (h2.mpr (h1.mp a)) (by rw [b]; decide)
  · rfl
/-! the calendar -/
theorem cell_n {w : WS} {nt wh ah : Nat} (h0 : w.2 0 = nI nt) (hnt : nt ≤ 999) (hah : ah < 21) : cCell w (nI wh) (nI ah) = nI (5 * ((nt + ah) % 21) + wh) := by
  unfold cCell
  rw [h0, nI_add, show (21 : Int32) = nI 21 from rfl, pk_rem (by omega) (by decide) (by decide), show (5 : Int32) = nI 5 from rfl, pk_mul, nI_add]
theorem booker_n {np nt : Nat} {w : WS} {z : Nat → Int32} (h0 : w.2 0 = nI nt) (hnt : nt ≤ 999) (hnp : np ≤ 10) (hb : WRbk np nt w z) {wh ah : Nat} (hwh : wh < 5) (hah : ah < 21) : cBooker w (nI wh) (nI ah) = z (215 + 21 * wh + ah) := by
  unfold cBooker
  rw [cell_n h0 hnt hah, rAt_n (by omega) (by omega)]
  rcases hb wh ah hwh hah with ⟨h1, h2⟩ | ⟨q, hq, h1, h2⟩
  · rw [h2, if_pos rfl, h1]
  · rw [h2, h1, if_neg (fun e => by have := (nI_eq (a := q + 1) (b := 0) (by omega) (by decide)).mp e; omega), show (1 : Int32) = nI 1 from rfl, pk_sub (by omega), Nat.add_sub_cancel]
theorem fnd5 (b0 b1 b2 b3 b4 : Bool) (h : (b0 && b1 || b0 && b2 || b0 && b3 || b0 && b4 || b1 && b2 || b1 && b3 || b1 && b4 || b2 && b3 || b2 && b4 || b3 && b4) = false) : (if b0 = true then (nI 0) else if b1 = true then nI 1 else if b2 = true then nI 2 else if b3 = true then nI 3 else if b4 = true then nI 4 else -6) = (if b4 = true then nI 4 else if b3 = true then nI 3 else if b2 = true then nI 2 else if b1 = true then nI 1 else if b0 = true then nI 0 else -6) := by
  revert b0 b1 b2 b3 b4
  decide
theorem wheel_n {np nt : Nat} {w : WS} {z : Nat → Int32} (h0 : w.2 0 = nI nt) (hnt : nt ≤ 999) (hnp : np ≤ 10) (hb : WRbk np nt w z) (hu : WRun z) {ah : Nat} (hah : ah < 21) {q : Int32} (hq : q ≠ -6) : cWheel w q (nI ah) = zWh z q ah 5 := by
  have e : ∀ j, j < 5 → cWheelP w q (nI ah) j = decide (z (215 + 21 * j + ah) = q) := fun j hj => by
    unfold cWheelP
    rw [booker_n h0 hnt hnp hb hj hah]
  have no : ∀ i j, i < 5 → j < 5 → i ≠ j → (decide (z (215 + 21 * i + ah) = q) && decide (z (215 + 21 * j + ah) = q)) = false := fun i j hi hj hne => by
    cases a : decide (z (215 + 21 * i + ah) = q) <;> cases b : decide (z (215 + 21 * j + ah) = q)
    · rfl
    · rfl
    · rfl
    · have a := of_decide_eq_true a
      have b := of_decide_eq_true b
      exact absurd (hu ah i j hah hi hj (a.trans b.symm) (by rw [a]; exact hq)) hne
  have key := fnd5 (decide (z (215 + 21 * 0 + ah) = q)) (decide (z (215 + 21 * 1 + ah) = q)) (decide (z (215 + 21 * 2 + ah) = q)) (decide (z (215 + 21 * 3 + ah) = q)) (decide (z (215 + 21 * 4 + ah) = q)) (by
    rw [no 0 1, no 0 2, no 0 3, no 0 4, no 1 2, no 1 3, no 1 4, no 2 3, no 2 4, no 3 4] <;> first | rfl | omega)
  unfold cWheel
  simp only [fnd, e 0 (by omega), e 1 (by omega), e 2 (by omega), e 3 (by omega), e 4 (by omega)]
  refine key.trans ?_
  simp only [zWh, decide_eq_true_eq]
theorem thrown_n {w : WS} {z : Nat → Int32} (h : WRthr w z) {q : Nat} (hq : q < 10) : cThrown w (nI q) = decide (z (25 + q) = 1) := by
  unfold cThrown
  rw [h]
  have := mk_tst (fun k => decide (z (25 + k) = 1)) (n := 10) (by decide) hq
  cases a : decide (z (25 + q) = 1)
  · rw [decide_eq_false (fun z => z (this.mpr a))]
  · exact decide_eq_true (fun z => by have := this.mp z; rw [a] at this; cases this)
