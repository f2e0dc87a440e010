theorem kdN_X4_at : yX4_at.cls ≠ "java/lang/invoke/MethodHandle" ∧ yX4_at.cls ≠ "java/lang/invoke/VarHandle" ∧ (parseMethodDescriptor yX4_at.desc).map (fun d => d.parameters.length) = some 1 := by decide +kernel
theorem kdV_X4_at : yX4_at.cls = RX4 ∧ yX4_at.cls ≠ "java/lang/invoke/MethodHandle" ∧ yX4_at.cls ≠ "java/lang/invoke/VarHandle" ∧ (parseMethodDescriptor yX4_at.desc).map (fun d => d.parameters.length) = some 1 := ⟨rfl, kdN_X4_at⟩
theorem in_X4_at_4 : ∀ w ∈ u_ws RX4 TX4 1, w ∈ wsX4_at := by decide +kernel
theorem fl_X4_at_13 : Cond.fieldLink RX4 13 (TX4 0).1 (TX4 0).2.1 (TX4 0).2.2.1 ∈ wsX4_at := by decide +kernel
abbrev rmX4_at : Room := { frames := 0, cells := 0, slots := 0, locals := 0 }
set_option maxHeartbeats 4000000 in
set_option maxRecDepth 100000 in
theorem k_X4_at (l : Launch) {k : gK} {L : List Nat} {f : Nat → va_E} {h a0 n : Nat} {g : Nat → Int32} (hn : n < 2 ^ 31) (hh : h ∈ L) (ha : a0 ∈ L) (hf : f h = .inr (4, [.ref a0])) (hg : f a0 = gIA k n g) (i : Int32) : kR l k L f yX4_at wsX4_at rmX4_at [.ref h, .int i] (.int (rAt n g i)) := by
  refine kR_of (cc := cX4_at) (maxL := 2) (ret := (some .int)) (by decide) rfl (Nat.le_of_ble_eq_true rfl) ?_
  intro p e s m args below meth c C hr
  refine gx_lv [(0, _), (1, _)] [0, 1] rfl ?_
  refine gx_iload_n (q := 1) C dX4_at_0 rfl ?_
  refine gx_if_lt (tgt := 22) C dX4_at_1 (by decide) (fun c_1 => ?_) (fun c_1 => ?_)
  · skip
    refine gx_iconst (v := 0) C dX4_at_22 (by decide) ?_
    exact gx_iretR C rfl hr dX4_at_23 (congrArg Value.int (by exact (rAt_o1 c_1).symm))
  · skip
    refine gx_iload_n (q := 1) C dX4_at_4 rfl ?_
    refine gx_aload_n (q := 0) C dX4_at_5 rfl ?_
    refine gx_get C (i := 0) hh hf rfl in_X4_at_4 (by decide) fl_X4_at_13 rfl dX4_at_6 ?_
    refine gx_alenI C ha hg dX4_at_9 ?_
    refine gx_icmp_ge (tgt := 22) C dX4_at_10 (by decide) (fun c_10 => ?_) (fun c_10 => ?_)
    · skip
      refine gx_iconst (v := 0) C dX4_at_22 (by decide) ?_
      exact gx_iretR C rfl hr dX4_at_23 (congrArg Value.int (by exact (rAt_o2 hn c_1 c_10).symm))
    · skip
      refine gx_aload_n (q := 0) C dX4_at_13 rfl ?_
      refine gx_get C (i := 0) hh hf rfl in_X4_at_4 (by decide) fl_X4_at_13 rfl dX4_at_14 ?_
      refine gx_iload_n (q := 1) C dX4_at_17 rfl ?_
      refine gx_iald C ha hg (in_of hn c_1 c_10) dX4_at_18 ?_
      refine gx_goto (tgt := 23) C dX4_at_19 (by decide) ?_
      exact gx_iretR C rfl hr dX4_at_23 (congrArg Value.int (by exact (rAt_in (in_of hn c_1 c_10)).symm))
theorem kdN_X4_write : yX4_write.cls ≠ "java/lang/invoke/MethodHandle" ∧ yX4_write.cls ≠ "java/lang/invoke/VarHandle" ∧ (parseMethodDescriptor yX4_write.desc).map (fun d => d.parameters.length) = some 2 := by decide +kernel
theorem kdV_X4_write : yX4_write.cls = RX4 ∧ yX4_write.cls ≠ "java/lang/invoke/MethodHandle" ∧ yX4_write.cls ≠ "java/lang/invoke/VarHandle" ∧ (parseMethodDescriptor yX4_write.desc).map (fun d => d.parameters.length) = some 2 := ⟨rfl, kdN_X4_write⟩
theorem in_X4_write_4 : ∀ w ∈ u_ws RX4 TX4 1, w ∈ wsX4_write := by decide +kernel
theorem fl_X4_write_13 : Cond.fieldLink RX4 13 (TX4 0).1 (TX4 0).2.1 (TX4 0).2.2.1 ∈ wsX4_write := by decide +kernel
abbrev rmX4_write : Room := { frames := 0, cells := 0, slots := 0, locals := 0 }
set_option maxHeartbeats 4000000 in
set_option maxRecDepth 100000 in
theorem k_X4_write (l : Launch) {k : gK} {L : List Nat} {f : Nat → va_E} (hL : L.Nodup) {h a0 n : Nat} {g : Nat → Int32} (hn : n < 2 ^ 31) (hh : h ∈ L) (ha : a0 ∈ L) (hf : f h = .inr (4, [.ref a0])) (hg : f a0 = gIA k n g) (i : Int32) (x : Int32) : kM l k L f yX4_write wsX4_write rmX4_write [.ref h, .int i, .int x] (fun v f2 => v = none ∧ f2 = va_up f a0 (gIA k n (rPut n g i x))) := by
  refine kM_of (cc := cX4_write) (maxL := 3) (ret := none) (by decide) rfl (Nat.le_of_ble_eq_true rfl) ?_
  intro p e s m args below meth c C hr
  have hD : gD (fun q => q ∈ L) L := ⟨hL, fun _ h => h⟩
  refine gx_lv [(0, _), (1, _), (2, _)] [0, 1, 2] rfl ?_
  refine gx_iload_n (q := 1) C dX4_write_0 rfl ?_
  refine gx_if_lt (tgt := 20) C dX4_write_1 (by decide) (fun c_1 => ?_) (fun c_1 => ?_)
  · skip
    exact gx_vretM C hr dX4_write_20 ⟨rfl, (va_up_id (by rw [rPut_o1 c_1]; exact hg)).symm⟩
  · skip
    refine gx_iload_n (q := 1) C dX4_write_4 rfl ?_
    refine gx_aload_n (q := 0) C dX4_write_5 rfl ?_
    refine gx_get C (i := 0) hh hf rfl in_X4_write_4 (by decide) fl_X4_write_13 rfl dX4_write_6 ?_
    refine gx_alenI C ha hg dX4_write_9 ?_
    refine gx_icmp_ge (tgt := 20) C dX4_write_10 (by decide) (fun c_10 => ?_) (fun c_10 => ?_)
    · skip
      exact gx_vretM C hr dX4_write_20 ⟨rfl, (va_up_id (by rw [rPut_o2 hn c_1 c_10]; exact hg)).symm⟩
    · skip
      refine gx_aload_n (q := 0) C dX4_write_13 rfl ?_
      refine gx_get C (i := 0) hh hf rfl in_X4_write_4 (by decide) fl_X4_write_13 rfl dX4_write_14 ?_
      refine gx_iload_n (q := 1) C dX4_write_17 rfl ?_
      refine gx_iload_n (q := 2) C dX4_write_18 rfl ?_
      refine gx_iast C hD ha hg (in_of hn c_1 c_10) dX4_write_19 ?_
      exact gx_vretM C hr dX4_write_20 ⟨rfl, by rw [rPut_in (in_of hn c_1 c_10)]⟩
theorem kdN_X4_add : yX4_add.cls ≠ "java/lang/invoke/MethodHandle" ∧ yX4_add.cls ≠ "java/lang/invoke/VarHandle" ∧ (parseMethodDescriptor yX4_add.desc).map (fun d => d.parameters.length) = some 2 := by decide +kernel
theorem kdV_X4_add : yX4_add.cls = RX4 ∧ yX4_add.cls ≠ "java/lang/invoke/MethodHandle" ∧ yX4_add.cls ≠ "java/lang/invoke/VarHandle" ∧ (parseMethodDescriptor yX4_add.desc).map (fun d => d.parameters.length) = some 2 := ⟨rfl, kdN_X4_add⟩
abbrev rmX4_add : Room := { frames := 1, cells := 0, slots := 0, locals := 22 }
set_option maxHeartbeats 4000000 in
set_option maxRecDepth 100000 in
theorem k_X4_add (l : Launch) {k : gK} {L : List Nat} {f : Nat → va_E} (hL : L.Nodup) {h a0 n : Nat} {g : Nat → Int32} (hn : n < 2 ^ 31) (hh : h ∈ L) (ha : a0 ∈ L) (hf : f h = .inr (4, [.ref a0])) (hg : f a0 = gIA k n g) (i : Int32) (x : Int32) : kM l k L f yX4_add wsX4_add rmX4_add [.ref h, .int i, .int x] (fun v f2 => v = none ∧ f2 = va_up f a0 (gIA k n (rPut n g i (rAt n g i + x)))) := by
  refine kM_of (cc := cX4_add) (maxL := 3) (ret := none) (by decide) rfl (Nat.le_of_ble_eq_true rfl) ?_
  intro p e s m args below meth c C hr
  have hD : gD (fun q => q ∈ L) L := ⟨hL, fun _ h => h⟩
  refine gx_lv [(0, _), (1, _), (2, _)] [0, 1, 2] rfl ?_
  refine gx_aload_n (q := 0) C dX4_add_0 rfl ?_
  refine gx_iload_n (q := 1) C dX4_add_1 rfl ?_
  refine gx_aload_n (q := 0) C dX4_add_2 rfl ?_
  refine gx_iload_n (q := 1) C dX4_add_3 rfl ?_
  refine gx_callR C (k_X4_at l hn hh ha hf hg _) hh hf rfl (cwV 1 C.2.2.2.2.1 gX4_add_X4_at rfl rfl rfl kdV_X4_at ⟨Nat.le_of_ble_eq_true rfl, Nat.le_of_ble_eq_true rfl⟩) rfl rfl (Nat.le_of_ble_eq_true rfl) ⟨Nat.le_of_ble_eq_true rfl, Nat.le_of_ble_eq_true rfl⟩ dX4_add_4 ?_
  refine gx_iload_n (q := 2) C dX4_add_7 rfl ?_
  refine gx_iadd C dX4_add_8 ?_
  refine gx_callM C hD (k_X4_write l hL hn hh ha hf hg _ _) hh hf rfl (cwV 2 C.2.2.2.2.1 gX4_add_X4_write rfl rfl rfl kdV_X4_write ⟨Nat.le_of_ble_eq_true rfl, Nat.le_of_ble_eq_true rfl⟩) rfl rfl (Nat.le_of_ble_eq_true rfl) ⟨Nat.le_of_ble_eq_true rfl, Nat.le_of_ble_eq_true rfl⟩ dX4_add_9 (fun v2 f2 hp => ?_)
  obtain ⟨rfl, rfl⟩ := hp
  exact gx_vretM C hr dX4_add_12 ⟨rfl, rfl⟩
theorem kdN_X4_indexesOf : yX4_indexesOf.cls ≠ "java/lang/invoke/MethodHandle" ∧ yX4_indexesOf.cls ≠ "java/lang/invoke/VarHandle" ∧ (parseMethodDescriptor yX4_indexesOf.desc).map (fun d => d.parameters.length) = some 2 := by decide +kernel
theorem kdV_X4_indexesOf : yX4_indexesOf.cls = RX4 ∧ yX4_indexesOf.cls ≠ "java/lang/invoke/MethodHandle" ∧ yX4_indexesOf.cls ≠ "java/lang/invoke/VarHandle" ∧ (parseMethodDescriptor yX4_indexesOf.desc).map (fun d => d.parameters.length) = some 2 := ⟨rfl, kdN_X4_indexesOf⟩
theorem in_X4_indexesOf_4 : ∀ w ∈ u_ws RX4 TX4 1, w ∈ wsX4_indexesOf := by decide +kernel
theorem fl_X4_indexesOf_13 : Cond.fieldLink RX4 13 (TX4 0).1 (TX4 0).2.1 (TX4 0).2.2.1 ∈ wsX4_indexesOf := by decide +kernel
abbrev rmX4_indexesOf : Room := { frames := 0, cells := 0, slots := 0, locals := 0 }
set_option maxHeartbeats 4000000 in
set_option maxRecDepth 100000 in
theorem k_X4_indexesOf (l : Launch) {k : gK} {L : List Nat} {f : Nat → va_E} {h a0 n : Nat} {g : Nat → Int32} (hn : n < 2 ^ 31) (hh : h ∈ L) (ha : a0 ∈ L) (hf : f h = .inr (4, [.ref a0])) (hg : f a0 = gIA k n g) {bn : Nat} (hbn : bn < 2 ^ 31) (v : Int32) (b : Int32) (hb : b = nI bn) : kR l k L f yX4_indexesOf wsX4_indexesOf rmX4_indexesOf [.ref h, .int v, .int b] (.int (cIdx g v n bn)) := by
  refine kR_of (cc := cX4_indexesOf) (maxL := 5) (ret := (some .int)) (by decide) rfl (Nat.le_of_ble_eq_true rfl) ?_
  intro p e s m args below meth c C hr
  subst hb
  refine gx_lv [(0, _), (1, _), (2, _)] [0, 1, 2] rfl ?_
  refine gx_iconst (v := 0) C dX4_indexesOf_0 (by decide) ?_
  refine gx_istore_n C (i := 3) [(3, _), (0, _), (1, _), (2, _)] dX4_indexesOf_1 rfl (by decide) rfl ?_
  refine gx_iconst (v := 0) C dX4_indexesOf_2 (by decide) ?_
  refine gx_istore C [(4, _), (3, _), (0, _), (1, _), (2, _)] dX4_indexesOf_3 (by decide) rfl ?_
  refine gx_loop (σ := Nat) (fun i => f) (fun i => [(0, .ref h), (1, .int v), (2, .int (nI bn)), (3, .int (mk (fun j => decide (g j = v)) i)), (4, .int (nI i))]) (fun i => i ≤ min bn n) (fun i => min bn n - i) 0 [2, 3, 4, 1, 0] rfl rfl ?_ ?_
  · exact Nat.zero_le _
  intro i hI ih
  try dsimp only at hI ih ⊢
  refine gx_iload (q := 4) C dX4_indexesOf_5 rfl ?_
  refine gx_iload_n (q := 2) C dX4_indexesOf_7 rfl ?_
  refine gx_icmp_ge (tgt := 45) C dX4_indexesOf_8 (by decide) (fun c_8 => ?_) (fun c_8 => ?_)
  · skip
    have hb := (nI_leI hbn (by omega)).mp c_8
    refine gx_iload_n (q := 3) C dX4_indexesOf_45 rfl ?_
    exact gx_iretR C rfl hr dX4_indexesOf_46 (congrArg Value.int (by rw [show i = min bn n by omega]; rfl))
  · skip
    have hlt : i < bn := Nat.lt_of_not_le (fun z => c_8 ((nI_leI hbn (by omega)).mpr z))
    refine gx_iload (q := 4) C dX4_indexesOf_11 rfl ?_
    refine gx_aload_n (q := 0) C dX4_indexesOf_13 rfl ?_
    refine gx_get C (i := 0) hh hf rfl in_X4_indexesOf_4 (by decide) fl_X4_indexesOf_13 rfl dX4_indexesOf_14 ?_
    refine gx_alenI C ha hg dX4_indexesOf_17 ?_
    refine gx_icmp_ge (tgt := 45) C dX4_indexesOf_18 (by decide) (fun c_18 => ?_) (fun c_18 => ?_)
    · skip
      have hb2 := (nI_leI hn (by omega)).mp c_18
      refine gx_iload_n (q := 3) C dX4_indexesOf_45 rfl ?_
      exact gx_iretR C rfl hr dX4_indexesOf_46 (congrArg Value.int (by rw [show i = min bn n by omega]; rfl))
    · skip
      have hlt2 : i < n := Nat.lt_of_not_le (fun z => c_18 ((nI_leI hn (by omega)).mpr z))
      refine gx_aload_n (q := 0) C dX4_indexesOf_21 rfl ?_
      refine gx_get C (i := 0) hh hf rfl in_X4_indexesOf_4 (by decide) fl_X4_indexesOf_13 rfl dX4_indexesOf_22 ?_
      refine gx_iload (q := 4) C dX4_indexesOf_25 rfl ?_
      refine gx_iald C ha hg (vp_in_nI hlt2 hn) dX4_indexesOf_27 ?_
      refine gx_iload_n (q := 1) C dX4_indexesOf_28 rfl ?_
      refine gx_icmp_ne (tgt := 39) C dX4_indexesOf_29 (by decide) (fun c_29 => ?_) (fun c_29 => ?_)
      · skip
        refine gx_iinc C (q := 4) (v := nI (i + 1)) [(4, _), (0, _), (1, _), (2, _), (3, _)] dX4_indexesOf_39 rfl (nI_inc i) (by decide) rfl ?_
        refine gx_goto (tgt := 5) C dX4_indexesOf_42 (by decide) ?_
        rw [nI_clamp (by omega : i < 2 ^ 31)] at c_29
        exact gx_back [1, 2, 3, 4, 0] (ih (i + 1) (by omega) (by omega)) rfl (by rw [mk_f (P := fun j => decide (g j = v)) (by simp [c_29])]; rfl)
      · skip
        refine gx_iload_n (q := 3) C dX4_indexesOf_32 rfl ?_
        refine gx_iconst (v := 1) C dX4_indexesOf_33 (by decide) ?_
        refine gx_iload (q := 4) C dX4_indexesOf_34 rfl ?_
        refine gx_ishl C dX4_indexesOf_36 ?_
        refine gx_ior C dX4_indexesOf_37 ?_
        refine gx_istore_n C (i := 3) [(3, _), (0, _), (1, _), (2, _), (4, _)] dX4_indexesOf_38 rfl (by decide) rfl ?_
        refine gx_iinc C (q := 4) (v := nI (i + 1)) [(4, _), (3, _), (0, _), (1, _), (2, _)] dX4_indexesOf_39 rfl (nI_inc i) (by decide) rfl ?_
        refine gx_goto (tgt := 5) C dX4_indexesOf_42 (by decide) ?_
        rw [nI_clamp (by omega : i < 2 ^ 31)] at c_29
        exact gx_back [2, 3, 4, 1, 0] (ih (i + 1) (by omega) (by omega)) rfl (by rw [mk_t (P := fun j => decide (g j = v)) (by simp [c_29])]; rfl)
theorem kdN_X4_sum : yX4_sum.cls ≠ "java/lang/invoke/MethodHandle" ∧ yX4_sum.cls ≠ "java/lang/invoke/VarHandle" ∧ (parseMethodDescriptor yX4_sum.desc).map (fun d => d.parameters.length) = some 0 := by decide +kernel
theorem kdV_X4_sum : yX4_sum.cls = RX4 ∧ yX4_sum.cls ≠ "java/lang/invoke/MethodHandle" ∧ yX4_sum.cls ≠ "java/lang/invoke/VarHandle" ∧ (parseMethodDescriptor yX4_sum.desc).map (fun d => d.parameters.length) = some 0 := ⟨rfl, kdN_X4_sum⟩
theorem in_X4_sum_4 : ∀ w ∈ u_ws RX4 TX4 1, w ∈ wsX4_sum := by decide +kernel
theorem fl_X4_sum_13 : Cond.fieldLink RX4 13 (TX4 0).1 (TX4 0).2.1 (TX4 0).2.2.1 ∈ wsX4_sum := by decide +kernel
abbrev rmX4_sum : Room := { frames := 0, cells := 0, slots := 0, locals := 0 }
set_option maxHeartbeats 4000000 in
set_option maxRecDepth 100000 in
theorem k_X4_sum (l : Launch) {k : gK} {L : List Nat} {f : Nat → va_E} {h a0 n : Nat} {g : Nat → Int32} (hn : n < 2 ^ 31) (hh : h ∈ L) (ha : a0 ∈ L) (hf : f h = .inr (4, [.ref a0])) (hg : f a0 = gIA k n g)  : kR l k L f yX4_sum wsX4_sum rmX4_sum [.ref h] (.int (suI g n)) := by
  refine kR_of (cc := cX4_sum) (maxL := 6) (ret := (some .int)) (by decide) rfl (Nat.le_of_ble_eq_true rfl) ?_
  intro p e s m args below meth c C hr
  refine gx_lv [(0, _)] [0] rfl ?_
  refine gx_iconst (v := 0) C dX4_sum_0 (by decide) ?_
  refine gx_istore_n C (i := 1) [(1, _), (0, _)] dX4_sum_1 rfl (by decide) rfl ?_
  refine gx_aload_n (q := 1) C dX4_sum_2 rfl ?_
  refine gx_get C (i := 0) hh hf rfl in_X4_sum_4 (by decide) fl_X4_sum_13 rfl dX4_sum_3 ?_
  refine gx_astore_n C (i := 2) [(2, _), (1, _), (0, _)] dX4_sum_6 rfl (by decide) rfl ?_
  refine gx_aload_n (q := 0) C dX4_sum_7 rfl ?_
  refine gx_alenI C ha hg dX4_sum_8 ?_
  refine gx_istore_n C (i := 3) [(3, _), (2, _), (1, _), (0, _)] dX4_sum_9 rfl (by decide) rfl ?_
  refine gx_iconst (v := 0) C dX4_sum_10 (by decide) ?_
  refine gx_istore C [(4, _), (3, _), (2, _), (1, _), (0, _)] dX4_sum_11 (by decide) rfl ?_
  refine gx_loop (σ := Nat) (fun i => f) (fun i => [(0, .ref h), (1, .int (suI g i)), (2, .ref a0), (3, .int (nI n)), (4, .int (nI i))]) (fun i => i ≤ n) (fun i => n - i) 0 [4, 3, 2, 1, 0] rfl rfl ?_ ?_
  · exact Nat.zero_le _
  intro i hI ih
  try dsimp only at hI ih ⊢
  refine gx_iload (q := 4) C dX4_sum_13 rfl ?_
  refine gx_iload_n (q := 3) C dX4_sum_15 rfl ?_
  refine gx_icmp_ge (tgt := 36) C dX4_sum_16 (by decide) (fun c_16 => ?_) (fun c_16 => ?_)
  · skip
    have hb := (nI_leI hn (by omega)).mp c_16
    refine gx_iload_n (q := 1) C dX4_sum_36 rfl ?_
    exact gx_iretR C rfl hr dX4_sum_37 (congrArg Value.int (by rw [show i = n by omega]))
  · skip
    have hlt : i < n := Nat.lt_of_not_le (fun z => c_16 ((nI_leI hn (by omega)).mpr z))
    refine gx_aload_n (q := 2) C dX4_sum_19 rfl ?_
    refine gx_iload (q := 4) C dX4_sum_20 rfl ?_
    refine gx_iald C ha hg (vp_in_nI hlt hn) dX4_sum_22 ?_
    refine gx_istore C [(5, _), (0, _), (1, _), (2, _), (3, _), (4, _)] dX4_sum_23 (by decide) rfl ?_
    refine gx_iload_n (q := 2) C dX4_sum_25 rfl ?_
    refine gx_iload (q := 0) C dX4_sum_26 rfl ?_
    refine gx_iadd C dX4_sum_28 ?_
    refine gx_istore_n C (i := 1) [(1, _), (5, _), (0, _), (2, _), (3, _), (4, _)] dX4_sum_29 rfl (by decide) rfl ?_
    refine gx_iinc C (q := 5) (v := nI (i + 1)) [(4, _), (1, _), (5, _), (0, _), (2, _), (3, _)] dX4_sum_30 rfl (nI_inc i) (by decide) rfl ?_
    refine gx_goto (tgt := 13) C dX4_sum_33 (by decide) ?_
    exact gx_back [3, 1, 4, 5, 0] (ih (i + 1) (by omega) (by omega)) rfl (by rw [nI_clamp (by omega : i < 2 ^ 31)]; rfl)
theorem kdN_X4_copyFrom : yX4_copyFrom.cls ≠ "java/lang/invoke/MethodHandle" ∧ yX4_copyFrom.cls ≠ "java/lang/invoke/VarHandle" ∧ (parseMethodDescriptor yX4_copyFrom.desc).map (fun d => d.parameters.length) = some 1 := by decide +kernel
theorem kdV_X4_copyFrom : yX4_copyFrom.cls = RX4 ∧ yX4_copyFrom.cls ≠ "java/lang/invoke/MethodHandle" ∧ yX4_copyFrom.cls ≠ "java/lang/invoke/VarHandle" ∧ (parseMethodDescriptor yX4_copyFrom.desc).map (fun d => d.parameters.length) = some 1 := ⟨rfl, kdN_X4_copyFrom⟩
theorem in_X4_copyFrom_4 : ∀ w ∈ u_ws RX4 TX4 1, w ∈ wsX4_copyFrom := by decide +kernel
theorem fl_X4_copyFrom_13 : Cond.fieldLink RX4 13 (TX4 0).1 (TX4 0).2.1 (TX4 0).2.2.1 ∈ wsX4_copyFrom := by decide +kernel
theorem wd_X4_copyFrom_ml27 : Cond.methodLink RX4 27 Lib.Math.min.name ∈ wsX4_copyFrom := by decide +kernel
theorem wd_X4_copyFrom_ms_min : Cond.static Lib.Math.min.name ∈ wsX4_copyFrom := by decide +kernel
theorem wd_X4_copyFrom_mi : Cond.initialized "java/lang/Math" ∈ wsX4_copyFrom := by decide +kernel
theorem wd_X4_copyFrom_mc_min : Cond.code Lib.Math.min.name Lib.Math.min.code 2 (some .int) ∈ wsX4_copyFrom := by decide +kernel
theorem wd_X4_copyFrom_ac30 : Cond.methodLink RX4 30 arraycopyName ∈ wsX4_copyFrom := by decide +kernel
theorem wd_X4_copyFrom_acn : Cond.native arraycopyName ∈ wsX4_copyFrom := by decide +kernel
theorem wd_X4_copyFrom_acs : Cond.static arraycopyName ∈ wsX4_copyFrom := by decide +kernel
theorem wd_X4_copyFrom_aci : Cond.initialized "java/lang/System" ∈ wsX4_copyFrom := by decide +kernel
abbrev rmX4_copyFrom : Room := { frames := 1, cells := 0, slots := 0, locals := 40 }
set_option maxHeartbeats 4000000 in
set_option maxRecDepth 100000 in
theorem k_X4_copyFrom (l : Launch) {k : gK} {L : List Nat} {f : Nat → va_E} (hL : L.Nodup) {h a0 n : Nat} {g : Nat → Int32} (hn : n < 2 ^ 31) (hh : h ∈ L) (ha : a0 ∈ L) (hf : f h = .inr (4, [.ref a0])) (hg : f a0 = gIA k n g) {h2 a2 : Nat} {g2 : Nat → Int32} (hh2 : h2 ∈ L) (ha2 : a2 ∈ L) (hf2 : f h2 = .inr (4, [.ref a2])) (hg2 : f a2 = gIA k n g2)  : kM l k L f yX4_copyFrom wsX4_copyFrom rmX4_copyFrom [.ref h, .ref h2] (fun v f2 => v = none ∧ f2 = va_up f a0 (gIA k n (va_cpy g2 g 0 0 n))) := by
  refine kM_of (cc := cX4_copyFrom) (maxL := 2) (ret := none) (by decide) rfl (Nat.le_of_ble_eq_true rfl) ?_
  intro p e s m args below meth c C hr
  have hD : gD (fun q => q ∈ L) L := ⟨hL, fun _ h => h⟩
  refine gx_lv [(0, _), (1, _)] [0, 1] rfl ?_
  refine gx_aload_n (q := 1) C dX4_copyFrom_0 rfl ?_
  refine gx_ifnull C dX4_copyFrom_1 ?_
  refine gx_aload_n (q := 1) C dX4_copyFrom_4 rfl ?_
  refine gx_get C (i := 0) hh2 hf2 rfl in_X4_copyFrom_4 (by decide) fl_X4_copyFrom_13 rfl dX4_copyFrom_5 ?_
  refine gx_iconst (v := 0) C dX4_copyFrom_8 (by decide) ?_
  refine gx_aload_n (q := 0) C dX4_copyFrom_9 rfl ?_
  refine gx_get C (i := 0) hh hf rfl in_X4_copyFrom_4 (by decide) fl_X4_copyFrom_13 rfl dX4_copyFrom_10 ?_
  refine gx_iconst (v := 0) C dX4_copyFrom_13 (by decide) ?_
  refine gx_aload_n (q := 0) C dX4_copyFrom_14 rfl ?_
  refine gx_get C (i := 0) hh hf rfl in_X4_copyFrom_4 (by decide) fl_X4_copyFrom_13 rfl dX4_copyFrom_15 ?_
  refine gx_alenI C ha hg dX4_copyFrom_18 ?_
  refine gx_aload_n (q := 1) C dX4_copyFrom_19 rfl ?_
  refine gx_get C (i := 0) hh2 hf2 rfl in_X4_copyFrom_4 (by decide) fl_X4_copyFrom_13 rfl dX4_copyFrom_20 ?_
  refine gx_alenI C ha2 hg2 dX4_copyFrom_23 ?_
  refine gx_min C wd_X4_copyFrom_ml27 wd_X4_copyFrom_ms_min wd_X4_copyFrom_mi wd_X4_copyFrom_mc_min (Nat.le_of_ble_eq_true rfl) (Nat.le_of_ble_eq_true rfl) ⟨Nat.le_of_ble_eq_true rfl, Nat.le_of_ble_eq_true rfl⟩ dX4_copyFrom_24 ?_
  refine gx_top (nI n) (by simp) ?_
  refine gx_copy C hD wd_X4_copyFrom_ac30 wd_X4_copyFrom_acn wd_X4_copyFrom_acs wd_X4_copyFrom_aci ha2 hg2 ha hg (by decide) (by decide) (nI_pos hn) (by rw [nI_clamp hn]; exact Nat.le_of_eq (Nat.zero_add n)) (by rw [nI_clamp hn]; exact Nat.le_of_eq (Nat.zero_add n)) (Nat.le_of_ble_eq_true rfl) (Nat.le_of_ble_eq_true rfl) dX4_copyFrom_27 ?_
  exact gx_vretM C hr dX4_copyFrom_30 ⟨rfl, by rw [nI_clamp hn]; rfl⟩
theorem rlen_lt (r : Nat) : rlen r < 2 ^ 31 := by
  unfold rlen
  split
  · decide
  split
  · decide
  split
  · decide
  split <;> decide
theorem kM_mono {l : Launch} {k : gK} {L : List Nat} {f : Nat → va_E} {y : MethodName} {ws : List Cond} {rm : Room} {As : List Value} {P P2 : Option Value → (Nat → va_E) → Prop} (h : ∀ v f2, P v f2 → P2 v f2) (hM : kM l k L f y ws rm As P) : kM l k L f y ws rm As P2 := by
  intro p e ha hc hk s m args below hf hfit hX hP
  obtain ⟨n, o, h1, h2, h3, ⟨⟨v, f2, q1, q2, q3⟩, h5⟩⟩ := hM p e ha hc hk s m args below hf hfit hX hP
  exact ⟨n, o, h1, h2, h3, ⟨⟨v, f2, q1, h v f2 q2, q3⟩, h5⟩⟩
theorem kw_X4_at (l : Launch) {k : gK} {L : List Nat} {f : Nat → va_E} {a : Nat → Nat} {w : WS} (hW : isWS k L f a w) (r : Nat) (hr : r < 12) (n : Nat) (hn : rlen r = n) (i : Int32) : kR l k L f yX4_at wsX4_at rmX4_at [.ref (a (3 + 2 * r)), .int i] (.int (rAt n (w.1 r) i)) := by
  subst hn
  exact k_X4_at l (rlen_lt r) (isWS_in hW _ (by omega)) (isWS_in hW _ (by omega)) (isWS_row hW r hr) (isWS_arr hW r hr) i
theorem kw_X4_sum (l : Launch) {k : gK} {L : List Nat} {f : Nat → va_E} {a : Nat → Nat} {w : WS} (hW : isWS k L f a w) (r : Nat) (hr : r < 12) (n : Nat) (hn : rlen r = n) : kR l k L f yX4_sum wsX4_sum rmX4_sum [.ref (a (3 + 2 * r))] (.int (suI (w.1 r) n)) := by
  subst hn
  exact k_X4_sum l (rlen_lt r) (isWS_in hW _ (by omega)) (isWS_in hW _ (by omega)) (isWS_row hW r hr) (isWS_arr hW r hr)
theorem kw_X4_indexesOf (l : Launch) {k : gK} {L : List Nat} {f : Nat → va_E} {a : Nat → Nat} {w : WS} (hW : isWS k L f a w) (r : Nat) (hr : r < 12) (n : Nat) (hn : rlen r = n) {bn : Nat} (hbn : bn < 2 ^ 31) (v b : Int32) (hb : b = nI bn) : kR l k L f yX4_indexesOf wsX4_indexesOf rmX4_indexesOf [.ref (a (3 + 2 * r)), .int v, .int b] (.int (cIdx (w.1 r) v n bn)) := by
  subst hn
  exact k_X4_indexesOf l (rlen_lt r) (isWS_in hW _ (by omega)) (isWS_in hW _ (by omega)) (isWS_row hW r hr) (isWS_arr hW r hr) hbn v b hb
theorem wP_up {k : gK} {L : List Nat} {f : Nat → va_E} {a : Nat → Nat} {w : WS} (hW : isWS k L f a w) (r : Nat) (hr : r < 12) (g : Nat → Int32) : ∀ v f2, (v = none ∧ f2 = va_up f (a (4 + 2 * r)) (gIA k (rlen r) g)) → wP k L a f none (wRow w r g) v f2 := by
  intro v f2 h
  obtain ⟨rfl, rfl⟩ := h
  exact ⟨rfl, isWS_uparr hW r hr g, gFr_up (by omega)⟩
theorem kw_X4_write (l : Launch) {k : gK} {L : List Nat} {f : Nat → va_E} (hL : L.Nodup) {a : Nat → Nat} {w : WS} (hW : isWS k L f a w) (r : Nat) (hr : r < 12) (n : Nat) (hn : rlen r = n) (i x : Int32) : kM l k L f yX4_write wsX4_write rmX4_write [.ref (a (3 + 2 * r)), .int i, .int x] (wP k L a f none (wRow w r (rPut n (w.1 r) i x))) := by
  subst hn
  exact kM_mono (wP_up hW r hr _) (k_X4_write l hL (rlen_lt r) (isWS_in hW _ (by omega)) (isWS_in hW _ (by omega)) (isWS_row hW r hr) (isWS_arr hW r hr) i x)
theorem kw_X4_add (l : Launch) {k : gK} {L : List Nat} {f : Nat → va_E} (hL : L.Nodup) {a : Nat → Nat} {w : WS} (hW : isWS k L f a w) (r : Nat) (hr : r < 12) (n : Nat) (hn : rlen r = n) (i x : Int32) : kM l k L f yX4_add wsX4_add rmX4_add [.ref (a (3 + 2 * r)), .int i, .int x] (wP k L a f none (wRow w r (rPut n (w.1 r) i (rAt n (w.1 r) i + x)))) := by
  subst hn
  exact kM_mono (wP_up hW r hr _) (k_X4_add l hL (rlen_lt r) (isWS_in hW _ (by omega)) (isWS_in hW _ (by omega)) (isWS_row hW r hr) (isWS_arr hW r hr) i x)
theorem kw_X4_copyFrom (l : Launch) {k : gK} {L : List Nat} {f : Nat → va_E} (hL : L.Nodup) {a b : Nat → Nat} {w w2 : WS} (hW : isWS k L f a w) (hB : isWS k L f b w2) (r : Nat) (hr : r < 12) (n : Nat) (hn : rlen r = n) : kM l k L f yX4_copyFrom wsX4_copyFrom rmX4_copyFrom [.ref (a (3 + 2 * r)), .ref (b (3 + 2 * r))] (wP k L a f none (wRow w r (va_cpy (w2.1 r) (w.1 r) 0 0 n))) := by
  subst hn
  exact kM_mono (wP_up hW r hr _) (k_X4_copyFrom l hL (rlen_lt r) (isWS_in hW _ (by omega)) (isWS_in hW _ (by omega)) (isWS_row hW r hr) (isWS_arr hW r hr) (isWS_in hB _ (by omega)) (isWS_in hB _ (by omega)) (isWS_row hB r hr) (isWS_arr hB r hr))
