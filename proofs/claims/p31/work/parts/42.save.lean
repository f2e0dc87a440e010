def slA (A B : Nat → Nat) (i0 : Nat) : Nat → Nat := fun n => if 222 + 27 * i0 ≤ n ∧ n < 249 + 27 * i0 then B (n - (222 + 27 * i0)) else A n
theorem slA_lo {A B : Nat → Nat} {i0 n : Nat} (h : n < 222) : slA A B i0 n = A n := if_neg (by omega)
theorem slA_in {A B : Nat → Nat} {i0 i : Nat} (h : i < 27) : slA A B i0 (222 + 27 * i0 + i) = B i := by
  unfold slA
  rw [if_pos (by omega), show 222 + 27 * i0 + i - (222 + 27 * i0) = i by omega]
theorem slA_ot {A B : Nat → Nat} {i0 j i : Nat} (hj : j ≠ i0) (h : i < 27) : slA A B i0 (222 + 27 * j + i) = A (222 + 27 * j + i) := if_neg (by omega)
theorem isDS_a {k : gK} {L : List Nat} {f : Nat → va_E} {a b : Nat → Nat} {w : DS} (h : isDS k L f a w) (e : ∀ i, i < 2 → b i = a i) : isDS k L f b w := by
  obtain ⟨h1, h2, h3, h4⟩ := h
  refine ⟨fun i hi => by rw [e i hi]; exact h1 i hi, fun i j hi hj z => h2 i j hi hj (by rw [← e i hi, ← e j hj]; exact z), ?_, ?_⟩
  · rw [e 0 (by omega), h3]
    simp only [dO, e 1 (by omega)]
  · rw [e 1 (by omega)]; exact h4
theorem isDS_mv {k : gK} {L L2 : List Nat} {f f2 : Nat → va_E} {a : Nat → Nat} {w : DS} (h : isDS k L f a w) (hL : ∀ x ∈ L, x ∈ L2) (hf : ∀ i, i < 2 → f2 (a i) = f (a i)) : isDS k L2 f2 a w := by
  obtain ⟨h1, h2, h3, h4⟩ := h
  exact ⟨fun i hi => hL _ (h1 i hi), h2, (hf 0 (by omega)).trans h3, (hf 1 (by omega)).trans h4⟩
theorem pvl_case {q : PS} {n : Nat} (h : pvl q n) : n < 222 ∨ ∃ j i, j < 2 ∧ i < 27 ∧ n = 222 + 27 * j + i ∧ pSlot q j ≠ none := by
  rcases h with h | ⟨h1, h2, h3⟩ | ⟨h1, h2, h3⟩
  · exact Or.inl h
  · exact Or.inr ⟨0, n - 222, by omega, by omega, by omega, h3⟩
  · exact Or.inr ⟨1, n - 249, by omega, by omega, by omega, h3⟩
theorem isPN_new {k : gK} {L L2 : List Nat} {f f2 : Nat → va_E} {A B : Nat → Nat} {q : PS} {i0 : Nat} {w : WS} {gg : Nat → Option Nat} (h : isPN k L f A q) (hi0 : i0 < 2) (hs0 : pSlot q i0 = none) (hL : ∀ x ∈ L, x ∈ L2) (hB : isWS k L2 f2 B w) (hBL : ∀ i, i < 27 → B i ∉ L)
    (hg : ∀ i, i < 2 → gg i = (pSlot q i).map (fun _ => A (222 + 27 * i))) (h3 : f2 (A 3) = gWA k 2 (va_up gg i0 (some (B 0)))) (hsame : ∀ x ∈ L, x ≠ A 3 → f2 x = f x) : isPN k L2 f2 (slA A B i0) (pwSlot q (va_up (pSlot q) i0 (some w))) := by
  obtain ⟨h1, h2, c0, c1, c2, c3, hd, hn, hr, hs⟩ := h
  have lo : ∀ x, x < 222 → pvl q x := fun x hx => Or.inl hx
  have sa : ∀ x, pvl q x → x ≠ 3 → f2 (A x) = f (A x) := fun x hx hn => hsame _ (h1 x hx) (fun z => hn (h2 x 3 hx (lo 3 (by omega)) z))
  have old : ∀ {j}, j ≠ i0 → (va_up (pSlot q) i0 (some w)) j ≠ none → pSlot q j ≠ none := fun hj z => by rw [va_up_of _ hj] at z; exact z
  refine ⟨fun n hn2 => ?_, fun n m hn2 hm2 e => ?_, ?_, ?_, ?_, ?_, ?_, ?_, ?_, ?_⟩
  · rcases pvl_case hn2 with h | ⟨j, i, hj, hi, rfl, hz⟩
    · rw [slA_lo h]; exact hL _ (h1 n (lo n h))
    · by_cases c : j = i0
      · subst c; rw [slA_in hi]; exact hB.1 i hi
      · rw [slA_ot c hi]; exact hL _ (h1 _ (pvl_s hj hi (old c hz)))
  · have key : ∀ x, pvl (pwSlot q (va_up (pSlot q) i0 (some w))) x → (∃ i, i < 27 ∧ x = 222 + 27 * i0 + i ∧ slA A B i0 x = B i) ∨ (pvl q x ∧ slA A B i0 x = A x) := by
      intro x hx
      rcases pvl_case hx with h | ⟨j, i, hj, hi, rfl, hz⟩
      · exact Or.inr ⟨lo x h, slA_lo h⟩
      · by_cases c : j = i0
        · subst c; exact Or.inl ⟨i, hi, rfl, slA_in hi⟩
        · exact Or.inr ⟨pvl_s hj hi (old c hz), slA_ot c hi⟩
    rcases key n hn2 with ⟨i, a1, a2, a3⟩ | ⟨a1, a2⟩
    · rcases key m hm2 with ⟨j, b1, b2, b3⟩ | ⟨b1, b2⟩
      · have := hB.2.1 i j a1 b1 (by rw [← a3, ← b3]; exact e); omega
      · exact absurd (h1 m b1) (by rw [← b2, ← e, a3]; exact hBL i a1)
    · rcases key m hm2 with ⟨j, b1, b2, b3⟩ | ⟨b1, b2⟩
      · exact absurd (h1 n a1) (by rw [← a2, e, b3]; exact hBL j b1)
      · exact h2 n m a1 b1 (by rw [← a2, ← b2]; exact e)
  · rw [slA_lo (by omega), slA_lo (by omega), slA_lo (by omega), slA_lo (by omega), slA_lo (by omega), sa 0 (lo 0 (by omega)) (by omega)]; exact c0
  · rw [slA_lo (by omega), slA_lo (by omega), sa 1 (lo 1 (by omega)) (by omega)]; exact c1
  · obtain ⟨g, g1, g2⟩ := c2
    refine ⟨g, ?_, fun j hj => ?_⟩
    · rw [slA_lo (by omega), sa 2 (lo 2 (by omega)) (by omega)]; exact g1
    · rw [slA_lo (by omega)]; exact g2 j hj
  · refine ⟨_, by rw [slA_lo (by omega)]; exact h3, fun i hi => ?_⟩
    by_cases c : i = i0
    · subst c
      rw [va_up_at, show slA A B i (222 + 27 * i) = B 0 from slA_in (i := 0) (by omega)]
      show _ = ((va_up (pSlot q) i (some w)) i).map _
      rw [va_up_at]; rfl
    · rw [va_up_of _ c, hg i hi, show slA A B i0 (222 + 27 * i) = A (222 + 27 * i) from slA_ot (i := 0) c (by omega)]
      show _ = ((va_up (pSlot q) i0 (some w)) i).map _
      rw [va_up_of _ c]
  · exact isDS_a (a := wA A 4) (isDS_mv hd hL (fun i hi => sa (4 + i) (lo _ (by omega)) (by omega))) (fun i hi => slA_lo (by omega))
  · exact isWS_a (a := wA A 6) (isWS_mv hn hL (fun i hi => sa (6 + i) (lo _ (by omega)) (by omega))) (fun i hi => slA_lo (by omega))
  · exact fun r hr2 => isWS_a (a := wA A (33 + 27 * r)) (isWS_mv (hr r hr2) hL (fun i hi => sa (33 + 27 * r + i) (lo _ (by omega)) (by omega))) (fun i hi => slA_lo (by omega))
  · intro z hz w3 hw
    have hw : (va_up (pSlot q) i0 (some w)) z = some w3 := hw
    by_cases c : z = i0
    · subst c
      rw [va_up_at] at hw
      cases hw
      exact isWS_a (a := B) hB (fun i hi => slA_in hi)
    · rw [va_up_of _ c] at hw
      refine isWS_a (a := wA A (222 + 27 * z)) (isWS_mv (hs z hz w3 hw) hL (fun i hi => ?_)) (fun i hi => slA_ot c hi)
      exact sa (222 + 27 * z + i) (pvl_s hz hi (by rw [hw]; exact fun z => by cases z)) (by omega)
