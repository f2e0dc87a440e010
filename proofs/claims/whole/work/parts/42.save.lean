def slA (A B : Nat → Nat) (i0 : Nat) : Nat → Nat := fun n => if 222 + 27 * i0 ≤ n ∧ n < 249 + 27 * i0 then B (n - (222 + 27 * i0)) else A n
theorem slA_lo {A B : Nat → Nat} {i0 n : Nat} (h : n < 222) : slA A B i0 n = A n := if_neg (by omega)
theorem slA_in {A B : Nat → Nat} {i0 i : Nat} (h : i < 27) : slA A B i0 (222 + 27 * i0 + i) = B i := by
  unfold slA
  rw [if_pos (by omega), show 222 + 27 * i0 + i - (222 + 27 * i0) = i by omega]
theorem slA_ot {A B : Nat → Nat} {i0 j i : Nat} (hj : j ≠ i0) (h : i < 27) : slA A B i0 (222 + 27 * j + i) = A (222 + 27 * j + i) := if_neg (by omega)
theorem isDS_a {k : gK} {L : List Nat} {f : Nat → va_E} {a b : Nat → Nat} {w : DS} (h : isDS k L f a w) (e : ∀ i, i < 2 → b i = a i) : isDS k L f b w := by
  obtain ⟨h1, h2, h3, h4⟩ := h
  refine ⟨fun i hi => by rw [e i hi]; exact h1 i hi, fun i j hi hj z => h2 i j hi hj (by rw [← e i hi, ← e j hj]; exact z), ?_, ?_⟩
  · rw [e 0 (by omega), h3]
    simp only [dO, e 1 (by omega)]
  · rw [e 1 (by omega)]; exact h4
theorem isDS_mv {k : gK} {L L2 : List Nat} {f f2 : Nat → va_E} {a : Nat → Nat} {w : DS} (h : isDS k L f a w) (hL : ∀ x ∈ L, x ∈ L2) (hf : ∀ i, i < 2 → f2 (a i) = f (a i)) : isDS k L2 f2 a w := by
  obtain ⟨h1, h2, h3, h4⟩ := h
  exact ⟨fun i hi => hL _ (h1 i hi), h2, (hf 0 (by omega)).trans h3, (hf 1 (by omega)).trans h4⟩
theorem pvl_case {q : PS} {n : Nat} (h : pvl q n) : n < 222 ∨ ∃ j i, j < 2 ∧ i < 27 ∧ n = 222 + 27 * j + i ∧ pSlot q j ≠ none := by
  rcases h with h | ⟨h1, h2, h3⟩ | ⟨h1, h2, h3⟩
  · exact Or.inl h
  · exact Or.inr ⟨0, n - 222, by omega, by omega, by omega, h3⟩
  · exact Or.inr ⟨1, n - 249, by omega, by omega, by omega, h3⟩
theorem isPN_new {k : gK} {L L2 : List Nat} {f f2 : Nat → va_E} {A B : Nat → Nat} {q : PS} {i0 : Nat} {w : WS} {gg : Nat → Option Nat} (h : isPN k L f A q) (hi0 : i0 < 2) (hs0 : pSlot q i0 = none) (hL : ∀ x ∈ L, x ∈ L2) (hB : isWS k L2 f2 B w) (hBL : ∀ i, i < 27 → B i ∉ L)
    (hg : ∀ i, i < 2 → gg i = (pSlot q i).map (fun _ => A (222 + 27 * i))) (h3 : f2 (A 3) = gWA k 2 (va_up gg i0 (some (B 0)))) (hsame : ∀ x ∈ L, x ≠ A 3 → f2 x = f x) : isPN k L2 f2 (slA A B i0) (pwSlot q (va_up (pSlot q) i0 (some w))) := by
  obtain ⟨h1, h2, c0, c1, c2, c3, hd, hn, hr, hs⟩ := h
  have lo : ∀ x, x < 222 → pvl q x := fun x hx => Or.inl hx
  have sa : ∀ x, pvl q x → x ≠ 3 → f2 (A x) = f (A x) := fun x hx hn => hsame _ (h1 x hx) (fun z => hn (h2 x 3 hx (lo 3 (by omega)) z))
  have old : ∀ {j}, j ≠ i0 → (va_up (pSlot q) i0 (some w)) j ≠ none → pSlot q j ≠ none := fun hj z => by rw [va_up_of _ hj] at z; exact z
  refine ⟨fun n hn2 => ?_, fun n m hn2 hm2 e => ?_, ?_, ?_, ?_, ?_, ?_, ?_, ?_, ?_⟩
  · rcases pvl_case hn2 with h | ⟨j, i, hj, hi, rfl, hz⟩
    · rw [slA_lo h]; exact hL _ (h1 n (lo n h))
    · by_cases c : j = i0
      · subst c; rw [slA_in hi]; exact hB.1 i hi
      · rw [slA_ot c hi]; exact hL _ (h1 _ (pvl_s hj hi (old c hz)))
  · have key : ∀ x, pvl (pwSlot q (va_up (pSlot q) i0 (some w))) x → (∃ i, i < 27 ∧ x = 222 + 27 * i0 + i ∧ slA A B i0 x = B i) ∨ (pvl q x ∧ slA A B i0 x = A x) := by
      intro x hx
      rcases pvl_case hx with h | ⟨j, i, hj, hi, rfl, hz⟩
      · exact Or.inr ⟨lo x h, slA_lo h⟩
      · by_cases c : j = i0
        · subst c; exact Or.inl ⟨i, hi, rfl, slA_in hi⟩
        · exact Or.inr ⟨pvl_s hj hi (old c hz), slA_ot c hi⟩
    rcases key n hn2 with ⟨i, a1, a2, a3⟩ | ⟨a1, a2⟩
    · rcases key m hm2 with ⟨j, b1, b2, b3⟩ | ⟨b1, b2⟩
      · have := hB.2.1 i j a1 b1 (by rw [← a3, ← b3]; exact e); omega
      · exact absurd (h1 m b1) (by rw [← b2, ← e, a3]; exact hBL i a1)
    · rcases key m hm2 with ⟨j, b1, b2, b3⟩ | ⟨b1, b2⟩
      · exact absurd (h1 n a1) (by rw [← a2, e, b3]; exact hBL j b1)
      · exact h2 n m a1 b1 (by rw [← a2, ← b2]; exact e)
  · rw [slA_lo (by omega), slA_lo (by omega), slA_lo (by omega), slA_lo (by omega), slA_lo (by omega), sa 0 (lo 0 (by omega)) (by omega)]; exact c0
  · rw [slA_lo (by omega), slA_lo (by omega), sa 1 (lo 1 (by omega)) (by omega)]; exact c1
  · obtain ⟨g, g1, g2⟩ := c2
    refine ⟨g, ?_, fun j hj => ?_⟩
    · rw [slA_lo (by omega), sa 2 (lo 2 (by omega)) (by omega)]; exact g1
    · rw [slA_lo (by omega)]; exact g2 j hj
  · refine ⟨_, by rw [slA_lo (by omega)]; exact h3, fun i hi => ?_⟩
    by_cases c : i = i0
    · subst c
      rw [va_up_at, show slA A B i (222 + 27 * i) = B 0 from slA_in (i := 0) (by omega)]
      show _ = ((va_up (pSlot q) i (some w)) i).map _
      rw [va_up_at]; rfl
    · rw [va_up_of _ c, hg i hi, show slA A B i0 (222 + 27 * i) = A (222 + 27 * i) from slA_ot (i := 0) c (by omega)]
      show _ = ((va_up (pSlot q) i0 (some w)) i).map _
      rw [va_up_of _ c]
  · exact isDS_a (a := wA A 4) (isDS_mv hd hL (fun i hi => sa (4 + i) (lo _ (by omega)) (by omega))) (fun i hi => slA_lo (by omega))
  · exact isWS_a (a := wA A 6) (isWS_mv hn hL (fun i hi => sa (6 + i) (lo _ (by omega)) (by omega))) (fun i hi => slA_lo (by omega))
  · exact fun r hr2 => isWS_a (a := wA A (33 + 27 * r)) (isWS_mv (hr r hr2) hL (fun i hi => sa (33 + 27 * r + i) (lo _ (by omega)) (by omega))) (fun i hi => slA_lo (by omega))
  · intro z hz w3 hw
    have hw : (va_up (pSlot q) i0 (some w)) z = some w3 := hw
    by_cases c : z = i0
    · subst c
      rw [va_up_at] at hw
      cases hw
      exact isWS_a (a := B) hB (fun i hi => slA_in hi)
    · rw [va_up_of _ c] at hw
      refine isWS_a (a := wA A (222 + 27 * z)) (isWS_mv (hs z hz w3 hw) hL (fun i hi => ?_)) (fun i hi => slA_ot c hi)
      exact sa (222 + 27 * z + i) (pvl_s hz hi (by rw [hw]; exact fun z => by cases z)) (by omega)
def svV (q0 : PS) (sl : Int32) : Int32 := if sl < 0 then -2 else if sl < 2 then vX5_potsSoFar q0.1 else -2
def svW (q0 : PS) (sl : Int32) : PS := if sl < 0 then q0 else if sl < 2 then pwSlot q0 (va_up (pSlot q0) (cl sl) (some (wX5_copyFrom ((pSlot q0 (cl sl)).getD wIni) q0.1))) else q0
theorem kdN_X6_save : yX6_save.cls ≠ "java/lang/invoke/MethodHandle" ∧ yX6_save.cls ≠ "java/lang/invoke/VarHandle" ∧ (parseMethodDescriptor yX6_save.desc).map (fun d => d.parameters.length) = some 1 := by decide +kernel
theorem kdV_X6_save : yX6_save.cls = RX6 ∧ yX6_save.cls ≠ "java/lang/invoke/MethodHandle" ∧ yX6_save.cls ≠ "java/lang/invoke/VarHandle" ∧ (parseMethodDescriptor yX6_save.desc).map (fun d => d.parameters.length) = some 1 := ⟨rfl, kdN_X6_save⟩
theorem in_X6_save_6 : ∀ w ∈ u_ws RX6 TX6 4, w ∈ wsX6_save := by decide +kernel
theorem fl_X6_save_23 : Cond.fieldLink RX6 23 (TX6 2).1 (TX6 2).2.1 (TX6 2).2.2.1 ∈ wsX6_save := by decide +kernel
theorem fl_X6_save_12 : Cond.fieldLink RX6 12 (TX6 0).1 (TX6 0).2.1 (TX6 0).2.2.1 ∈ wsX6_save := by decide +kernel
theorem wd_X6_save_cl9 : Cond.classLink RX6 9 RX5 ∈ wsX6_save := by decide +kernel
theorem wd_X6_save_inRX5 : Cond.instantiable RX5 8 ∈ wsX6_save := by decide +kernel
theorem wd_X6_save_iiRX5 : Cond.initialized RX5 ∈ wsX6_save := by decide +kernel
theorem wd_X6_save_ml11 : Cond.methodLink RX6 11 yX5_init ∈ wsX6_save := by decide +kernel
theorem wd_X6_save_im_X5_init : Cond.instanceMethod yX5_init ∈ wsX6_save := by decide +kernel
theorem in_X6_save_5 : ∀ w ∈ u_ws RX5 TX5 8, w ∈ wsX6_save := by decide +kernel
abbrev rmX6_save : Room := { frames := 4, cells := 27, slots := 315, locals := 103 }
set_option maxHeartbeats 4000000 in
set_option maxRecDepth 100000 in
theorem k_X6_save (l : Launch) {k : gK} {L : List Nat} {f : Nat → va_E} (hL : L.Nodup) {A : Nat → Nat} {q0 : PS} (hP : isPN k L f A q0) (sl : Int32) : kA l k L f yX6_save wsX6_save rmX6_save [.ref (A 0), .int sl] 27 315 (fun v N f2 => v = some (.int (svV q0 sl)) ∧ ∃ A2, A2 0 = A 0 ∧ isPN k (L ++ N) f2 A2 (svW q0 sl)) := by
  refine kA_of (cc := cX6_save) (maxL := 3) (ret := (some .int)) hL (by decide) rfl (Nat.le_of_ble_eq_true rfl) ?_
  intro p e s m args below meth c C hr hin hAO hD
  have hA : ∀ q, s.heap.size ≤ q → q ∈ L ∨ s.heap.size ≤ q := fun _ h => Or.inr h
  refine gx_lv [(0, _), (1, _)] [0, 1] rfl ?_
  refine gx_iload_n (q := 1) C dX6_save_0 rfl ?_
  refine gx_if_lt (tgt := 13) C dX6_save_1 (by decide) (fun c_1 => ?_) (fun c_1 => ?_)
  · refine gx_bipush (v := (-2)) C dX6_save_13 (by decide) ?_
    refine gx_widen (k2 := 27) (n2 := 315) (Nat.zero_le _) (Nat.zero_le _) ?_
    exact gx_iretA C (N := []) hr (List.append_nil _).symm hD dX6_save_15 ⟨congrArg (fun z => some (Value.int z)) (show (-2 : Int32) = svV q0 sl from (if_pos c_1).symm), A, rfl, by rw [List.append_nil, show svW q0 sl = q0 from if_pos c_1]; exact hP⟩
  obtain ⟨j, hj, hsl⟩ := nI_of c_1
  obtain ⟨gg, hg1, hg2⟩ := hP.2.2.2.2.2.1
  refine gx_iload_n (q := 1) C dX6_save_4 rfl ?_
  refine gx_aload_n (q := 0) C dX6_save_5 rfl ?_
  refine gx_get C (i := 2) (isPN_in hP 0 (by decide)) (isPN_0 hP) rfl in_X6_save_6 (by decide) fl_X6_save_23 rfl dX6_save_6 ?_
  refine gx_alenW C (isPN_in hP 3 (by decide)) hg1 dX6_save_9 ?_
  refine gx_icmp_lt (tgt := 16) C dX6_save_10 (by decide) (fun c_10 => ?_) (fun c_10 => ?_)
  rotate_left
  · refine gx_bipush (v := (-2)) C dX6_save_13 (by decide) ?_
    refine gx_widen (k2 := 27) (n2 := 315) (Nat.zero_le _) (Nat.zero_le _) ?_
    exact gx_iretA C (N := []) hr (List.append_nil _).symm hD dX6_save_15 ⟨congrArg (fun z => some (Value.int z)) (show (-2 : Int32) = svV q0 sl from ((if_neg c_1).trans (if_neg c_10)).symm), A, rfl, by rw [List.append_nil, show svW q0 sl = q0 from (if_neg c_1).trans (if_neg c_10)]; exact hP⟩
  have hj2 : j < 2 := (nI_ltI hj (by decide)).mp (by rw [← hsl]; exact c_10)
  have hc2 : cl sl < 2 := by rw [hsl, cl, nI_clamp hj]; exact hj2
  have hvp : vp_in sl 2 := by rw [hsl]; exact vp_in_nI hj2 (by decide)
  refine gx_aload_n (q := 0) C dX6_save_16 rfl ?_
  refine gx_get C (i := 2) (isPN_in hP 0 (by decide)) (isPN_0 hP) rfl in_X6_save_6 (by decide) fl_X6_save_23 rfl dX6_save_17 ?_
  refine gx_iload_n (q := 1) C dX6_save_20 rfl ?_
  refine gx_aald C (isPN_in hP 3 (by decide)) hg1 hvp dX6_save_21 ?_
  have hv : svV q0 sl = vX5_potsSoFar q0.1 := (if_neg c_1).trans (if_pos c_10)
  have hw : svW q0 sl = pwSlot q0 (va_up (pSlot q0) (cl sl) (some (wX5_copyFrom ((pSlot q0 (cl sl)).getD wIni) q0.1))) := (if_neg c_1).trans (if_pos c_10)
  rcases hs : pSlot q0 (cl sl) with _ | w2
  · refine gx_topv .null (by rw [hg2 _ hc2, hs]; rfl) ?_
    refine gx_astore_nN C (i := 2) [(2, _), (0, _), (1, _)] dX6_save_22 rfl (by decide) rfl ?_
    refine gx_aload_nN (q := 0) C dX6_save_23 rfl ?_
    refine gx_ifnonnullN C dX6_save_24 ?_
    refine gx_new C hD hA (ci := 5) (fs := [.null, .null, .null, .null, .null, .int 0, .int 0, .int 0]) tyX5_ok rfl in_X6_save_5 wd_X6_save_cl9 wd_X6_save_inRX5 wd_X6_save_iiRX5 (fun j hj => by rcases (show j = 0 ∨ j = 1 ∨ j = 2 ∨ j = 3 ∨ j = 4 ∨ j = 5 ∨ j = 6 ∨ j = 7 by omega) with rfl | rfl | rfl | rfl | rfl | rfl | rfl | rfl <;> rfl) (Nat.le_of_ble_eq_true rfl) (Nat.le_of_ble_eq_true rfl) dX6_save_27 (fun q hDq => ?_)
    refine gx_gen (fun f2 hf2 => ?_)
    have nq : ∀ x ∈ L, x ≠ q := fun x hx => gD_ne hDq hx (List.mem_singleton.mpr rfl)
    refine gx_dup C rfl dX6_save_30 ?_
    refine gx_callI C hAO hDq hA (k_X5_init l hDq.1 (List.mem_append_right _ (List.mem_singleton.mpr rfl)) (by rw [hf2, va_up_at])) (cwI 0 C.2.2.2.2.1 gX6_save_X5_init rfl rfl rfl (C.2.2.2.2.1 _ wd_X6_save_iiRX5) (C.2.2.2.2.1 _ wd_X6_save_ml11) (C.2.2.2.2.1 _ wd_X6_save_im_X5_init) rfl kdN_X5_init ⟨Nat.le_of_ble_eq_true rfl, Nat.le_of_ble_eq_true rfl⟩) rfl rfl (Nat.le_of_ble_eq_true rfl) ⟨(Nat.le_of_ble_eq_true rfl), (Nat.le_of_ble_eq_true rfl)⟩ dX6_save_31 (fun v N f3 hp hD3 => ?_)
    obtain ⟨rfl, hN, hW, fr3⟩ := hp
    refine gx_nil ?_
    have m3 : ∀ x ∈ L, x ∈ (L ++ [q]) ++ N := fun x hx => List.mem_append_left _ (List.mem_append_left _ hx)
    have o3 : ∀ x ∈ L, f3 x = f x := fun x hx => (fr3 x (List.mem_append_left _ hx) (nq x hx)).trans (by rw [hf2, va_up_of _ (nq x hx)])
    refine gx_astore_n C (i := 2) [(2, _), (0, _), (1, _)] dX6_save_34 rfl (by decide) rfl ?_
    refine gx_aload_n (q := 1) C dX6_save_35 rfl ?_
    refine gx_get C (i := 2) (m3 _ (isPN_in hP 0 (by decide))) ((o3 _ (isPN_in hP 0 (by decide))).trans (isPN_0 hP)) rfl in_X6_save_6 (by decide) fl_X6_save_23 rfl dX6_save_36 ?_
    refine gx_iload_n (q := 2) C dX6_save_39 rfl ?_
    refine gx_aload_n (q := 0) C dX6_save_40 rfl ?_
    obtain ⟨vs, hvs⟩ := isWS_0h hW
    refine gx_aast C hD3 (m3 _ (isPN_in hP 3 (by decide))) ((o3 _ (isPN_in hP 3 (by decide))).trans hg1) (List.mem_append_left _ (List.mem_append_right _ (List.mem_singleton.mpr rfl))) hvs hvp dX6_save_41 ?_
    refine gx_gen (fun f4 hf4 => ?_)
    have hLc : (L ++ [q]) ++ N = L ++ (q :: N) := by simp
    have hD4 := hD3
    rw [hLc] at hD4
    have nB : ∀ i, i < 27 → wsB (q :: N) 0 i ∉ L := fun i hi hm => gD_ne hD4 hm (wsB_in (T := q :: N) (b := 0) (by rw [List.length_cons, hN]; decide) i hi) rfl
    have o4 : ∀ x, x ≠ A 3 → f4 x = f3 x := fun x hx => by rw [hf4, va_up_of _ hx]
    have nA3 : A 3 ∈ L := isPN_in hP 3 (by decide)
    have hW4 : isWS k ((L ++ [q]) ++ N) f4 (wsB (q :: N) 0) wIni := isWS_mv hW (fun _ h => h) (fun i hi => o4 _ (fun z => nB i hi (by rw [z]; exact nA3)))
    have hP4 := isPN_new hP hc2 hs m3 hW4 nB hg2 (by rw [hf4, va_up_at]; rfl) (fun x hx hn => (o4 x hn).trans (o3 x hx))
    have hs4 : pSlot (pwSlot q0 (va_up (pSlot q0) (cl sl) (some wIni))) (cl sl) = some wIni := va_up_at _ _ _
    refine gx_aload_n (q := 0) C dX6_save_42 rfl ?_
    refine gx_topv (.ref (slA A (wsB (q :: N) 0) (cl sl) (222 + 27 * cl sl))) (by rw [show slA A (wsB (q :: N) 0) (cl sl) (222 + 27 * cl sl) = q from slA_in (i := 0) (by omega)]) ?_
    refine gx_aload_n (q := 1) C dX6_save_43 rfl ?_
    refine gx_topv (.ref (slA A (wsB (q :: N) 0) (cl sl) 0)) (by rw [slA_lo (by omega)]) ?_
    refine gx_get C (i := 0) (isPN_in hP4 0 (by decide)) (isPN_0 hP4) rfl in_X6_save_6 (by decide) fl_X6_save_12 rfl dX6_save_44 ?_
    refine gx_callS1 (cl sl) hc2 hs4 C hD3 hP4 (k_X5_copyFrom l hD3.1 (isPN_slot hP4 (cl sl) hc2 hs4) (isPN_now hP4) (fun i j hi hj e => by have := (hP4).2.1 (6 + i) (222 + 27 * cl sl + j) (Or.inl (by omega)) (pvl_s hc2 hj (fun z => by have z2 := (hs4).symm.trans z; cases z2)) e; omega)) (isWS_in (isPN_slot hP4 (cl sl) hc2 hs4) 0 (by decide)) (isWS_0 (isPN_slot hP4 (cl sl) hc2 hs4)) rfl (cwV 1 C.2.2.2.2.1 gX6_save_X5_copyFrom rfl rfl rfl kdV_X5_copyFrom ⟨Nat.le_of_ble_eq_true rfl, Nat.le_of_ble_eq_true rfl⟩) rfl rfl (Nat.le_of_ble_eq_true rfl) ⟨(Nat.le_of_ble_eq_true rfl), (Nat.le_of_ble_eq_true rfl)⟩ dX6_save_47 (fun f8 hP8 => ?_)
    refine gx_aload_n (q := 1) C dX6_save_50 rfl ?_
    refine gx_topv (.ref (slA A (wsB (q :: N) 0) (cl sl) 0)) (by rw [slA_lo (by omega)]) ?_
    refine gx_get C (i := 0) (isPN_in hP8 0 (by decide)) (isPN_0 hP8) rfl in_X6_save_6 (by decide) fl_X6_save_12 rfl dX6_save_51 ?_
    refine gx_callR C (k_X5_potsSoFar l (isPN_now hP8)) (isPN_in hP8 6 (by decide)) (isPN_now0 hP8) rfl (cwV 0 C.2.2.2.2.1 gX6_save_X5_potsSoFar rfl rfl rfl kdV_X5_potsSoFar ⟨Nat.le_of_ble_eq_true rfl, Nat.le_of_ble_eq_true rfl⟩) rfl rfl (Nat.le_of_ble_eq_true rfl) ⟨(Nat.le_of_ble_eq_true rfl), (Nat.le_of_ble_eq_true rfl)⟩ dX6_save_54 ?_
    refine gx_widen (k2 := 27) (n2 := 315) (Nat.le_of_ble_eq_true rfl) (Nat.le_of_ble_eq_true rfl) ?_
    exact gx_iretA C (N := q :: N) hr hLc hD3 dX6_save_57 ⟨congrArg (fun z => some (Value.int z)) hv.symm, _, slA_lo (by omega), by rw [← hLc, hw, hs]; rw [show pwSlot q0 (va_up (pSlot q0) (cl sl) (some (wX5_copyFrom (Option.getD none wIni) q0.1))) = _ from congrArg (pwSlot q0) (va_up_2 (pSlot q0) (cl sl) (some wIni) _).symm]; exact hP8⟩
  · refine gx_topv (.ref (A (222 + 27 * cl sl))) (by rw [hg2 _ hc2, hs]; rfl) ?_
    refine gx_astore_n C (i := 2) [(2, _), (0, _), (1, _)] dX6_save_22 rfl (by decide) rfl ?_
    refine gx_aload_n (q := 0) C dX6_save_23 rfl ?_
    refine gx_ifnonnull (tgt := 42) C dX6_save_24 (by decide) ?_
    refine gx_aload_n (q := 0) C dX6_save_42 rfl ?_
    refine gx_aload_n (q := 1) C dX6_save_43 rfl ?_
    refine gx_get C (i := 0) (isPN_in hP 0 (by decide)) (isPN_0 hP) rfl in_X6_save_6 (by decide) fl_X6_save_12 rfl dX6_save_44 ?_
    refine gx_callS1 (cl sl) hc2 hs C hD hP (k_X5_copyFrom l hD.1 (isPN_slot hP (cl sl) hc2 hs) (isPN_now hP) (fun i j hi hj e => by have := (hP).2.1 (6 + i) (222 + 27 * cl sl + j) (Or.inl (by omega)) (pvl_s hc2 hj (fun z => by have z2 := (hs).symm.trans z; cases z2)) e; omega)) (isWS_in (isPN_slot hP (cl sl) hc2 hs) 0 (by decide)) (isWS_0 (isPN_slot hP (cl sl) hc2 hs)) rfl (cwV 1 C.2.2.2.2.1 gX6_save_X5_copyFrom rfl rfl rfl kdV_X5_copyFrom ⟨Nat.le_of_ble_eq_true rfl, Nat.le_of_ble_eq_true rfl⟩) rfl rfl (Nat.le_of_ble_eq_true rfl) ⟨(Nat.le_of_ble_eq_true rfl), (Nat.le_of_ble_eq_true rfl)⟩ dX6_save_47 (fun f8 hP8 => ?_)
    refine gx_aload_n (q := 1) C dX6_save_50 rfl ?_
    refine gx_get C (i := 0) (isPN_in hP8 0 (by decide)) (isPN_0 hP8) rfl in_X6_save_6 (by decide) fl_X6_save_12 rfl dX6_save_51 ?_
    refine gx_callR C (k_X5_potsSoFar l (isPN_now hP8)) (isPN_in hP8 6 (by decide)) (isPN_now0 hP8) rfl (cwV 0 C.2.2.2.2.1 gX6_save_X5_potsSoFar rfl rfl rfl kdV_X5_potsSoFar ⟨Nat.le_of_ble_eq_true rfl, Nat.le_of_ble_eq_true rfl⟩) rfl rfl (Nat.le_of_ble_eq_true rfl) ⟨(Nat.le_of_ble_eq_true rfl), (Nat.le_of_ble_eq_true rfl)⟩ dX6_save_54 ?_
    refine gx_widen (k2 := 27) (n2 := 315) (Nat.zero_le _) (Nat.zero_le _) ?_
    exact gx_iretA C (N := []) hr (List.append_nil _).symm hD dX6_save_57 ⟨congrArg (fun z => some (Value.int z)) hv.symm, A, rfl, by rw [List.append_nil, hw, hs]; exact hP8⟩
