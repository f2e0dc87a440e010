theorem kdN_L_low : yL_low.cls ≠ "java/lang/invoke/MethodHandle" ∧ yL_low.cls ≠ "java/lang/invoke/VarHandle" ∧ (parseMethodDescriptor yL_low.desc).map (fun d => d.parameters.length) = some 2 := by decide +kernel
theorem kdV_L_low : yL_low.cls = RL ∧ yL_low.cls ≠ "java/lang/invoke/MethodHandle" ∧ yL_low.cls ≠ "java/lang/invoke/VarHandle" ∧ (parseMethodDescriptor yL_low.desc).map (fun d => d.parameters.length) = some 2 := ⟨rfl, kdN_L_low⟩
/-! the law's small methods -/
def lo (v : Int32) (n : Nat) : Nat := (v &&& 2147483647).toNatClampNeg % n
theorem lo_e (v : Int32) {n : Nat} (h0 : 0 < n) (hn : n < 2 ^ 31) : (v &&& 2147483647) - (v &&& 2147483647) / nI n * nI n = nI (lo v n) := by
  obtain ⟨j, hj, e⟩ := pk_andE v (m := 2147483647) 31 (by decide)
  rw [lo, e, nI_clamp hj, pk_rem hj h0 hn]
theorem lo_lt (v : Int32) {n : Nat} (h0 : 0 < n) : lo v n < n := Nat.mod_lt _ h0
theorem wd_L_low_k8 : Cond.constant RL 8 (2147483647) ∈ wsL_low := by decide +kernel
abbrev rmL_low : Room := { frames := 0, cells := 0, slots := 0, locals := 0 }
set_option maxHeartbeats 4000000 in
set_option maxRecDepth 100000 in
theorem k_L_low (l : Launch) {k : gK} {L : List Nat} {f : Nat → va_E} (v : Int32) (n : Nat) (h0 : 0 < n) (hn : n < 2 ^ 31) : kR l k L f yL_low wsL_low rmL_low [.int v, .int (nI n)] (.int (nI (lo v n))) := by
  refine kR_of (cc := cL_low) (maxL := 2) (ret := (some .int)) (by decide) rfl (Nat.le_of_ble_eq_true rfl) ?_
  intro p e s m args below meth c C hr
  refine gx_lv [(0, _), (1, _)] [0, 1] rfl ?_
  refine gx_iload_n (q := 0) C dL_low_0 rfl ?_
  refine gx_ldc C wd_L_low_k8 dL_low_1 ?_
  refine gx_iand C dL_low_3 ?_
  refine gx_iload_n (q := 1) C dL_low_4 rfl ?_
  refine gx_irem C (fun z => by have := (nI_eq (b := 0) hn (by decide)).mp z; omega) dL_low_5 ?_
  exact gx_iretR C rfl hr dL_low_6 (congrArg Value.int (by exact lo_e v h0 hn))
theorem kdN_L_part : yL_part.cls ≠ "java/lang/invoke/MethodHandle" ∧ yL_part.cls ≠ "java/lang/invoke/VarHandle" ∧ (parseMethodDescriptor yL_part.desc).map (fun d => d.parameters.length) = some 2 := by decide +kernel
theorem kdV_L_part : yL_part.cls = RL ∧ yL_part.cls ≠ "java/lang/invoke/MethodHandle" ∧ yL_part.cls ≠ "java/lang/invoke/VarHandle" ∧ (parseMethodDescriptor yL_part.desc).map (fun d => d.parameters.length) = some 2 := ⟨rfl, kdN_L_part⟩
def pt (x : Int64) (i : Nat) : Int32 := (lR x (6 * nI i) &&& 63).toInt32
def wt (x : Int64) (i : Nat) (v : Int32) : Int64 := (x &&& ((lS 63 (6 * nI i)) ^^^ (-1))) ||| lS v.toInt64 (6 * nI i)
theorem wd_L_part_k9 : Cond.constantLong RL 9 (63) ∈ wsL_part := by decide +kernel
abbrev rmL_part : Room := { frames := 0, cells := 0, slots := 0, locals := 0 }
set_option maxHeartbeats 4000000 in
set_option maxRecDepth 100000 in
theorem k_L_part (l : Launch) {k : gK} {L : List Nat} {f : Nat → va_E} (x : Int64) (i : Nat)  : kR l k L f yL_part wsL_part rmL_part [.long x, .int (nI i)] (.int (pt x i)) := by
  refine kR_of (cc := cL_part) (maxL := 3) (ret := (some .int)) (by decide) rfl (Nat.le_of_ble_eq_true rfl) ?_
  intro p e s m args below meth c C hr
  refine gx_lv [(0, _), (2, _)] [0, 1] rfl ?_
  refine gx_lload_n (q := 0) C dL_part_0 rfl ?_
  refine gx_bipush (v := 6) C dL_part_1 (by decide) ?_
  refine gx_iload_n (q := 1) C dL_part_3 rfl ?_
  refine gx_imul C dL_part_4 ?_
  refine gx_lshr C dL_part_5 ?_
  refine gx_ldc2 C wd_L_part_k9 dL_part_6 ?_
  refine gx_land C dL_part_9 ?_
  refine gx_l2i C dL_part_10 ?_
  exact gx_iretR C rfl hr dL_part_11 (congrArg Value.int (by rfl))
theorem kdN_L_with : yL_with.cls ≠ "java/lang/invoke/MethodHandle" ∧ yL_with.cls ≠ "java/lang/invoke/VarHandle" ∧ (parseMethodDescriptor yL_with.desc).map (fun d => d.parameters.length) = some 3 := by decide +kernel
theorem kdV_L_with : yL_with.cls = RL ∧ yL_with.cls ≠ "java/lang/invoke/MethodHandle" ∧ yL_with.cls ≠ "java/lang/invoke/VarHandle" ∧ (parseMethodDescriptor yL_with.desc).map (fun d => d.parameters.length) = some 3 := ⟨rfl, kdN_L_with⟩
theorem wd_L_with_k9 : Cond.constantLong RL 9 (63) ∈ wsL_with := by decide +kernel
theorem wd_L_with_k11 : Cond.constantLong RL 11 (-1) ∈ wsL_with := by decide +kernel
abbrev rmL_with : Room := { frames := 0, cells := 0, slots := 0, locals := 0 }
set_option maxHeartbeats 4000000 in
set_option maxRecDepth 100000 in
theorem k_L_with (l : Launch) {k : gK} {L : List Nat} {f : Nat → va_E} (x : Int64) (i : Nat) (v : Int32)  : kR l k L f yL_with wsL_with rmL_with [.long x, .int (nI i), .int v] (.long (wt x i v)) := by
  refine kR_of (cc := cL_with) (maxL := 4) (ret := (some .long)) (by decide) rfl (Nat.le_of_ble_eq_true rfl) ?_
  intro p e s m args below meth c C hr
  refine gx_lv [(0, _), (2, _), (3, _)] [0, 1, 2] rfl ?_
  refine gx_lload_n (q := 0) C dL_with_0 rfl ?_
  refine gx_ldc2 C wd_L_with_k9 dL_with_1 ?_
  refine gx_bipush (v := 6) C dL_with_4 (by decide) ?_
  refine gx_iload_n (q := 1) C dL_with_6 rfl ?_
  refine gx_imul C dL_with_7 ?_
  refine gx_lshl C dL_with_8 ?_
  refine gx_ldc2 C wd_L_with_k11 dL_with_9 ?_
  refine gx_lxor C dL_with_12 ?_
  refine gx_land C dL_with_13 ?_
  refine gx_iload_n (q := 2) C dL_with_14 rfl ?_
  refine gx_i2l C dL_with_15 ?_
  refine gx_bipush (v := 6) C dL_with_16 (by decide) ?_
  refine gx_iload_n (q := 1) C dL_with_18 rfl ?_
  refine gx_imul C dL_with_19 ?_
  refine gx_lshl C dL_with_20 ?_
  refine gx_lor C dL_with_21 ?_
  exact gx_lretR C rfl hr dL_with_22 (congrArg Value.long (by rfl))
theorem kdN_L_free : yL_free.cls ≠ "java/lang/invoke/MethodHandle" ∧ yL_free.cls ≠ "java/lang/invoke/VarHandle" ∧ (parseMethodDescriptor yL_free.desc).map (fun d => d.parameters.length) = some 2 := by decide +kernel
theorem kdV_L_free : yL_free.cls = RL ∧ yL_free.cls ≠ "java/lang/invoke/MethodHandle" ∧ yL_free.cls ≠ "java/lang/invoke/VarHandle" ∧ (parseMethodDescriptor yL_free.desc).map (fun d => d.parameters.length) = some 2 := ⟨rfl, kdN_L_free⟩
/-- the first of n numbers from i on with P; -1 without one -/
def fnM (P : Nat → Bool) : Nat → Nat → Int32
  | _, 0 => -1
  | i, n + 1 => if P i = true then nI i else fnM P (i + 1) n
/-- no one of the first pots lies at the place -/
def lTk (b : Nat → Int64) (pl : Int32) : Nat → Bool
  | 0 => true
  | i + 1 => lTk b pl i && decide (¬ pt (b i) 4 = pl)
def lFree (b : Nat → Int64) (n : Nat) : Int32 := fnM (fun j => lTk b (nI j) n) 0 24
abbrev rmL_free : Room := { frames := 1, cells := 0, slots := 0, locals := 22 }
set_option maxHeartbeats 4000000 in
set_option maxRecDepth 100000 in
theorem k_L_free (l : Launch) {k : gK} {L : List Nat} {f : Nat → va_E} {h_g : Nat} {g : Nat → Int32} (m_g : h_g ∈ L) (e_g : f h_g = gIA k 15 g) {h_b : Nat} {b : Nat → Int64} (m_b : h_b ∈ L) (e_b : f h_b = gLA k 20 b)  {n : Nat} (hn : g 7 = nI n) (hn2 : n ≤ 20) : kR l k L f yL_free wsL_free rmL_free [.ref h_g, .ref h_b] (.int (lFree b n)) := by
  refine kR_of (cc := cL_free) (maxL := 5) (ret := (some .int)) (by decide) rfl (Nat.le_of_ble_eq_true rfl) ?_
  intro p e s m args below meth c C hr
  refine gx_lv [(0, _), (1, _)] [0, 1] rfl ?_
  refine gx_iconst (v := 0) C dL_free_0 (by decide) ?_
  refine gx_istore_n C (i := 2) [(2, _), (0, _), (1, _)] dL_free_1 rfl (by decide) rfl ?_
  refine gx_loop (σ := Nat) (fun j => f) (fun j => [(0, .ref h_g), (1, .ref h_b), (2, .int (nI j))]) (fun j => j ≤ 24 ∧ fnM (fun j => lTk b (nI j) n) j (24 - j) = lFree b n) (fun j => 24 - j) 0 [1, 2, 0] rfl rfl ?_ ?_
  · exact ⟨by decide, rfl⟩
  intro j hJ ihj
  try dsimp only at hJ ihj ⊢
  refine gx_iload_n (q := 2) C dL_free_2 rfl ?_
  refine gx_bipush (v := 24) C dL_free_3 (by decide) ?_
  refine gx_icmp_ge (tgt := 62) C dL_free_5 (by decide) (fun c_5 => ?_) (fun c_5 => ?_)
  · skip
    have hb24 := (nI_leI (a := 24) (b := j) (by decide) (by omega)).mp c_5
    refine gx_iconst (v := (-1)) C dL_free_62 (by decide) ?_
    exact gx_iretR C rfl hr dL_free_63 (congrArg Value.int (by rw [← hJ.2, show 24 - j = 0 by omega]; rfl))
  · skip
    have hlt24 : j < 24 := Nat.lt_of_not_le (fun z => c_5 ((nI_leI (a := 24) (b := j) (by decide) (by omega)).mpr z))
    obtain ⟨m, hm⟩ : ∃ m, 24 - j = m + 1 := ⟨23 - j, by omega⟩
    refine gx_iconst (v := 1) C dL_free_8 (by decide) ?_
    refine gx_istore_n C (i := 3) [(3, _), (0, _), (1, _), (2, _)] dL_free_9 rfl (by decide) rfl ?_
    refine gx_iconst (v := 0) C dL_free_10 (by decide) ?_
    refine gx_istore C [(4, _), (3, _), (0, _), (1, _), (2, _)] dL_free_11 (by decide) rfl ?_
    refine gx_loop (σ := Nat) (fun i => f) (fun i => [(0, .ref h_g), (1, .ref h_b), (2, .int (nI j)), (3, .int (bI (lTk b (nI j) i))), (4, .int (nI i))]) (fun i => i ≤ n) (fun i => n - i) 0 [2, 3, 4, 1, 0] rfl rfl ?_ ?_
    · exact Nat.zero_le _
    intro i hI ih
    try dsimp only at hI ih ⊢
    refine gx_iload (q := 4) C dL_free_13 rfl ?_
    refine gx_aload_n (q := 0) C dL_free_15 rfl ?_
    refine gx_bipush (v := 7) C dL_free_16 (by decide) ?_
    refine gx_ialdN C m_g e_g (nLit 7) (by omega) (by decide) dL_free_18 ?_
    refine gx_top (nI n) hn ?_
    refine gx_icmp_ge (tgt := 50) C dL_free_19 (by decide) (fun c_19 => ?_) (fun c_19 => ?_)
    · skip
      have hb := (nI_leI (by omega) (by omega)).mp c_19
      refine gx_iload_n (q := 3) C dL_free_50 rfl ?_
      refine gx_if_eq (tgt := 56) C dL_free_51 (by decide) (fun c_51 => ?_) (fun c_51 => ?_)
      · skip
        have h_51 := bI0.mp c_51
        refine gx_iinc C (q := 2) (v := nI (j + 1)) [(2, _), (0, _), (1, _), (3, _), (4, _)] dL_free_56 rfl (nI_inc j) (by decide) rfl ?_
        refine gx_goto (tgt := 2) C dL_free_59 (by decide) ?_
        exact gx_back [1, 2, 0] (ihj (j + 1) ⟨by omega, by have h := hJ.2; rw [hm] at h; rw [show 24 - (j + 1) = m by omega, ← h]; exact (if_neg (show ¬ lTk b (nI j) n = true by rw [show n = i by omega, h_51]; decide)).symm⟩ (by omega)) rfl (by rfl)
      · skip
        have h_51 := bI1.mp c_51
        refine gx_iload_n (q := 2) C dL_free_54 rfl ?_
        exact gx_iretR C rfl hr dL_free_55 (congrArg Value.int (by have h := hJ.2; rw [hm] at h; exact (if_pos (by rw [show n = i by omega]; exact h_51)).symm.trans h))
    · skip
      have hlt : i < n := Nat.lt_of_not_le (fun z => c_19 ((nI_leI (by omega) (by omega)).mpr z))
      refine gx_iload_n (q := 3) C dL_free_22 rfl ?_
      refine gx_if_eq (tgt := 42) C dL_free_23 (by decide) (fun c_23 => ?_) (fun c_23 => ?_)
      · skip
        have h_23 := bI0.mp c_23
        refine gx_iconst (v := 0) C dL_free_42 (by decide) ?_
        refine gx_istore_n C (i := 3) [(3, _), (0, _), (1, _), (2, _), (4, _)] dL_free_43 rfl (by decide) rfl ?_
        refine gx_iinc C (q := 4) (v := nI (i + 1)) [(4, _), (3, _), (0, _), (1, _), (2, _)] dL_free_44 rfl (nI_inc i) (by decide) rfl ?_
        refine gx_goto (tgt := 13) C dL_free_47 (by decide) ?_
        have hst : lTk b (nI j) (i + 1) = false := by simp [lTk, h_23]
        exact gx_back [2, 3, 4, 1, 0] (ih (i + 1) (by omega) (by omega)) rfl (by rw [hst]; rfl)
      · skip
        have h_23 := bI1.mp c_23
        refine gx_aload_n (q := 1) C dL_free_26 rfl ?_
        refine gx_iload (q := 4) C dL_free_27 rfl ?_
        refine gx_laldN C m_b e_b rfl (by omega) (by decide) dL_free_29 ?_
        refine gx_iconst (v := 4) C dL_free_30 (by decide) ?_
        refine gx_callRS C (k_L_part l (b i) 4) (va_cwS 2 C.2.2.2.2.1 gL_free_L_part rfl rfl rfl kdN_L_part ⟨Nat.le_of_ble_eq_true rfl, Nat.le_of_ble_eq_true rfl⟩) rfl rfl (Nat.le_of_ble_eq_true rfl) ⟨Nat.le_of_ble_eq_true rfl, Nat.le_of_ble_eq_true rfl⟩ dL_free_31 ?_
        refine gx_iload_n (q := 2) C dL_free_34 rfl ?_
        refine gx_icmp_eq (tgt := 42) C dL_free_35 (by decide) (fun c_35 => ?_) (fun c_35 => ?_)
        · skip
          refine gx_iconst (v := 0) C dL_free_42 (by decide) ?_
          refine gx_istore_n C (i := 3) [(3, _), (0, _), (1, _), (2, _), (4, _)] dL_free_43 rfl (by decide) rfl ?_
          refine gx_iinc C (q := 4) (v := nI (i + 1)) [(4, _), (3, _), (0, _), (1, _), (2, _)] dL_free_44 rfl (nI_inc i) (by decide) rfl ?_
          refine gx_goto (tgt := 13) C dL_free_47 (by decide) ?_
          have hst : lTk b (nI j) (i + 1) = false := by simp [lTk, h_23, c_35]
          exact gx_back [2, 3, 4, 1, 0] (ih (i + 1) (by omega) (by omega)) rfl (by rw [hst]; rfl)
        · skip
          refine gx_iconst (v := 1) C dL_free_38 (by decide) ?_
          refine gx_goto (tgt := 43) C dL_free_39 (by decide) ?_
          refine gx_istore_n C (i := 3) [(3, _), (0, _), (1, _), (2, _), (4, _)] dL_free_43 rfl (by decide) rfl ?_
          refine gx_iinc C (q := 4) (v := nI (i + 1)) [(4, _), (3, _), (0, _), (1, _), (2, _)] dL_free_44 rfl (nI_inc i) (by decide) rfl ?_
          refine gx_goto (tgt := 13) C dL_free_47 (by decide) ?_
          have hst : lTk b (nI j) (i + 1) = true := by simp [lTk, h_23, c_35]
          exact gx_back [2, 3, 4, 1, 0] (ih (i + 1) (by omega) (by omega)) rfl (by rw [hst]; rfl)
theorem kdN_L_inKiln : yL_inKiln.cls ≠ "java/lang/invoke/MethodHandle" ∧ yL_inKiln.cls ≠ "java/lang/invoke/VarHandle" ∧ (parseMethodDescriptor yL_inKiln.desc).map (fun d => d.parameters.length) = some 2 := by decide +kernel
theorem kdV_L_inKiln : yL_inKiln.cls = RL ∧ yL_inKiln.cls ≠ "java/lang/invoke/MethodHandle" ∧ yL_inKiln.cls ≠ "java/lang/invoke/VarHandle" ∧ (parseMethodDescriptor yL_inKiln.desc).map (fun d => d.parameters.length) = some 2 := ⟨rfl, kdN_L_inKiln⟩
def lKs (b : Nat → Int64) : Nat → Int32
  | 0 => 0
  | i + 1 => lKs b i + (if pt (b i) 4 = 24 then pt (b i) 1 else 0)
abbrev rmL_inKiln : Room := { frames := 1, cells := 0, slots := 0, locals := 22 }
set_option maxHeartbeats 4000000 in
set_option maxRecDepth 100000 in
theorem k_L_inKiln (l : Launch) {k : gK} {L : List Nat} {f : Nat → va_E} {h_g : Nat} {g : Nat → Int32} (m_g : h_g ∈ L) (e_g : f h_g = gIA k 15 g) {h_b : Nat} {b : Nat → Int64} (m_b : h_b ∈ L) (e_b : f h_b = gLA k 20 b)  {n : Nat} (hn : g 7 = nI n) (hn2 : n ≤ 20) : kR l k L f yL_inKiln wsL_inKiln rmL_inKiln [.ref h_g, .ref h_b] (.int (lKs b n)) := by
  refine kR_of (cc := cL_inKiln) (maxL := 4) (ret := (some .int)) (by decide) rfl (Nat.le_of_ble_eq_true rfl) ?_
  intro p e s m args below meth c C hr
  refine gx_lv [(0, _), (1, _)] [0, 1] rfl ?_
  refine gx_iconst (v := 0) C dL_inKiln_0 (by decide) ?_
  refine gx_istore_n C (i := 2) [(2, _), (0, _), (1, _)] dL_inKiln_1 rfl (by decide) rfl ?_
  refine gx_iconst (v := 0) C dL_inKiln_2 (by decide) ?_
  refine gx_istore_n C (i := 3) [(3, _), (2, _), (0, _), (1, _)] dL_inKiln_3 rfl (by decide) rfl ?_
  refine gx_loop (σ := Nat) (fun i => f) (fun i => [(0, .ref h_g), (1, .ref h_b), (2, .int (lKs b i)), (3, .int (nI i))]) (fun i => i ≤ n) (fun i => n - i) 0 [2, 3, 1, 0] rfl rfl ?_ ?_
  · exact Nat.zero_le _
  intro i hI ih
  try dsimp only at hI ih ⊢
  refine gx_iload_n (q := 3) C dL_inKiln_4 rfl ?_
  refine gx_aload_n (q := 0) C dL_inKiln_5 rfl ?_
  refine gx_bipush (v := 7) C dL_inKiln_6 (by decide) ?_
  refine gx_ialdN C m_g e_g (nLit 7) (by omega) (by decide) dL_inKiln_8 ?_
  refine gx_top (nI n) hn ?_
  refine gx_icmp_ge (tgt := 44) C dL_inKiln_9 (by decide) (fun c_9 => ?_) (fun c_9 => ?_)
  · skip
    have hb := (nI_leI (by omega) (by omega)).mp c_9
    refine gx_iload_n (q := 2) C dL_inKiln_44 rfl ?_
    exact gx_iretR C rfl hr dL_inKiln_45 (congrArg Value.int (by rw [show i = n by omega]))
  · skip
    have hlt : i < n := Nat.lt_of_not_le (fun z => c_9 ((nI_leI (by omega) (by omega)).mpr z))
    refine gx_iload_n (q := 2) C dL_inKiln_12 rfl ?_
    refine gx_aload_n (q := 1) C dL_inKiln_13 rfl ?_
    refine gx_iload_n (q := 3) C dL_inKiln_14 rfl ?_
    refine gx_laldN C m_b e_b rfl (by omega) (by decide) dL_inKiln_15 ?_
    refine gx_iconst (v := 4) C dL_inKiln_16 (by decide) ?_
    refine gx_callRS C (k_L_part l (b i) 4) (va_cwS 2 C.2.2.2.2.1 gL_inKiln_L_part rfl rfl rfl kdN_L_part ⟨Nat.le_of_ble_eq_true rfl, Nat.le_of_ble_eq_true rfl⟩) rfl rfl (Nat.le_of_ble_eq_true rfl) ⟨Nat.le_of_ble_eq_true rfl, Nat.le_of_ble_eq_true rfl⟩ dL_inKiln_17 ?_
    refine gx_bipush (v := 24) C dL_inKiln_20 (by decide) ?_
    refine gx_icmp_ne (tgt := 35) C dL_inKiln_22 (by decide) (fun c_22 => ?_) (fun c_22 => ?_)
    · skip
      refine gx_iconst (v := 0) C dL_inKiln_35 (by decide) ?_
      refine gx_iadd C dL_inKiln_36 ?_
      refine gx_istore_n C (i := 2) [(2, _), (0, _), (1, _), (3, _)] dL_inKiln_37 rfl (by decide) rfl ?_
      refine gx_iinc C (q := 3) (v := nI (i + 1)) [(3, _), (2, _), (0, _), (1, _)] dL_inKiln_38 rfl (nI_inc i) (by decide) rfl ?_
      refine gx_goto (tgt := 4) C dL_inKiln_41 (by decide) ?_
      exact gx_back [2, 3, 1, 0] (ih (i + 1) (by omega) (by omega)) rfl (by rw [show lKs b (i + 1) = lKs b i + _ from rfl, if_neg c_22]; rfl)
    · skip
      refine gx_aload_n (q := 1) C dL_inKiln_25 rfl ?_
      refine gx_iload_n (q := 3) C dL_inKiln_26 rfl ?_
      refine gx_laldN C m_b e_b rfl (by omega) (by decide) dL_inKiln_27 ?_
      refine gx_iconst (v := 1) C dL_inKiln_28 (by decide) ?_
      refine gx_callRS C (k_L_part l (b i) 1) (va_cwS 2 C.2.2.2.2.1 gL_inKiln_L_part rfl rfl rfl kdN_L_part ⟨Nat.le_of_ble_eq_true rfl, Nat.le_of_ble_eq_true rfl⟩) rfl rfl (Nat.le_of_ble_eq_true rfl) ⟨Nat.le_of_ble_eq_true rfl, Nat.le_of_ble_eq_true rfl⟩ dL_inKiln_29 ?_
      refine gx_goto (tgt := 36) C dL_inKiln_32 (by decide) ?_
      refine gx_iadd C dL_inKiln_36 ?_
      refine gx_istore_n C (i := 2) [(2, _), (0, _), (1, _), (3, _)] dL_inKiln_37 rfl (by decide) rfl ?_
      refine gx_iinc C (q := 3) (v := nI (i + 1)) [(3, _), (2, _), (0, _), (1, _)] dL_inKiln_38 rfl (nI_inc i) (by decide) rfl ?_
      refine gx_goto (tgt := 4) C dL_inKiln_41 (by decide) ?_
      exact gx_back [2, 3, 1, 0] (ih (i + 1) (by omega) (by omega)) rfl (by rw [show lKs b (i + 1) = lKs b i + _ from rfl, if_pos c_22]; rfl)
theorem kdN_L_why : yL_why.cls ≠ "java/lang/invoke/MethodHandle" ∧ yL_why.cls ≠ "java/lang/invoke/VarHandle" ∧ (parseMethodDescriptor yL_why.desc).map (fun d => d.parameters.length) = some 3 := by decide +kernel
theorem kdV_L_why : yL_why.cls = RL ∧ yL_why.cls ≠ "java/lang/invoke/MethodHandle" ∧ yL_why.cls ≠ "java/lang/invoke/VarHandle" ∧ (parseMethodDescriptor yL_why.desc).map (fun d => d.parameters.length) = some 3 := ⟨rfl, kdN_L_why⟩
def lOth (b : Nat → Int64) (is : Int32) : Nat → Bool
  | 0 => false
  | i + 1 => lOth b is i || (decide (pt (b i) 4 = 24) && decide (¬ pt (b i) 3 = is))
def lWhy (g : Nat → Int32) (b : Nat → Int64) (n p : Nat) : Int32 :=
  if ¬ pt (b p) 4 ≤ 23 then 1
  else if pt (b p) 3 = 1 ∨ ¬ pt (b p) 3 ≤ 2 then 2
  else if pt (b p) 3 = 0 ∧ ¬ g 2 * pt (b p) 1 ≤ pt (b p) 5 then 3
  else if lOth b (pt (b p) 3) n = true then 4
  else if lKs b n + pt (b p) 1 ≤ g 3 then 0 else 5
abbrev rmL_why : Room := { frames := 2, cells := 0, slots := 0, locals := 45 }
set_option maxHeartbeats 4000000 in
set_option maxRecDepth 100000 in
theorem k_L_why (l : Launch) {k : gK} {L : List Nat} {f : Nat → va_E} {h_g : Nat} {g : Nat → Int32} (m_g : h_g ∈ L) (e_g : f h_g = gIA k 15 g) {h_b : Nat} {b : Nat → Int64} (m_b : h_b ∈ L) (e_b : f h_b = gLA k 20 b) (q : Nat) {n : Nat} (hn : g 7 = nI n) (hn2 : n ≤ 20) (hq : q < 20) : kR l k L f yL_why wsL_why rmL_why [.int (nI q), .ref h_g, .ref h_b] (.int (lWhy g b n q)) := by
  refine kR_of (cc := cL_why) (maxL := 6) (ret := (some .int)) (by decide) rfl (Nat.le_of_ble_eq_true rfl) ?_
  intro p e s m args below meth c C hr
  refine gx_lv [(0, _), (1, _), (2, _)] [0, 1, 2] rfl ?_
  refine gx_aload_n (q := 2) C dL_why_0 rfl ?_
  refine gx_iload_n (q := 0) C dL_why_1 rfl ?_
  refine gx_laldN C m_b e_b rfl (by omega) (by decide) dL_why_2 ?_
  refine gx_iconst (v := 3) C dL_why_3 (by decide) ?_
  refine gx_callRS C (k_L_part l (b q) 3) (va_cwS 2 C.2.2.2.2.1 gL_why_L_part rfl rfl rfl kdN_L_part ⟨Nat.le_of_ble_eq_true rfl, Nat.le_of_ble_eq_true rfl⟩) rfl rfl (Nat.le_of_ble_eq_true rfl) ⟨Nat.le_of_ble_eq_true rfl, Nat.le_of_ble_eq_true rfl⟩ dL_why_4 ?_
  refine gx_istore_n C (i := 3) [(3, _), (0, _), (1, _), (2, _)] dL_why_7 rfl (by decide) rfl ?_
  refine gx_iconst (v := 0) C dL_why_8 (by decide) ?_
  refine gx_istore C [(4, _), (3, _), (0, _), (1, _), (2, _)] dL_why_9 (by decide) rfl ?_
  refine gx_iconst (v := 0) C dL_why_11 (by decide) ?_
  refine gx_istore C [(5, _), (4, _), (3, _), (0, _), (1, _), (2, _)] dL_why_12 (by decide) rfl ?_
  refine gx_loop (σ := Nat) (fun i => f) (fun i => [(0, .int (nI q)), (1, .ref h_g), (2, .ref h_b), (3, .int (pt (b q) 3)), (4, .int (bI (lOth b (pt (b q) 3) i))), (5, .int (nI i))]) (fun i => i ≤ n) (fun i => n - i) 0 [3, 4, 5, 2, 1, 0] rfl rfl ?_ ?_
  · exact Nat.zero_le _
  intro i hI ih
  try dsimp only at hI ih ⊢
  refine gx_iload (q := 5) C dL_why_14 rfl ?_
  refine gx_aload_n (q := 1) C dL_why_16 rfl ?_
  refine gx_bipush (v := 7) C dL_why_17 (by decide) ?_
  refine gx_ialdN C m_g e_g (nLit 7) (by omega) (by decide) dL_why_19 ?_
  refine gx_top (nI n) hn ?_
  refine gx_icmp_ge (tgt := 66) C dL_why_20 (by decide) (fun c_20 => ?_) (fun c_20 => ?_)
  · skip
    have hb := (nI_leI (by omega) (by omega)).mp c_20
    have hin : i = n := by omega
    subst hin
    refine gx_aload_n (q := 2) C dL_why_66 rfl ?_
    refine gx_iload_n (q := 0) C dL_why_67 rfl ?_
    refine gx_laldN C m_b e_b rfl (by omega) (by decide) dL_why_68 ?_
    refine gx_iconst (v := 4) C dL_why_69 (by decide) ?_
    refine gx_callRS C (k_L_part l (b q) 4) (va_cwS 2 C.2.2.2.2.1 gL_why_L_part rfl rfl rfl kdN_L_part ⟨Nat.le_of_ble_eq_true rfl, Nat.le_of_ble_eq_true rfl⟩) rfl rfl (Nat.le_of_ble_eq_true rfl) ⟨Nat.le_of_ble_eq_true rfl, Nat.le_of_ble_eq_true rfl⟩ dL_why_70 ?_
    refine gx_bipush (v := 23) C dL_why_73 (by decide) ?_
    refine gx_icmp_le (tgt := 80) C dL_why_75 (by decide) (fun c_75 => ?_) (fun c_75 => ?_)
    · skip
      refine gx_iload_n (q := 3) C dL_why_80 rfl ?_
      refine gx_iconst (v := 1) C dL_why_81 (by decide) ?_
      refine gx_icmp_eq (tgt := 90) C dL_why_82 (by decide) (fun c_82 => ?_) (fun c_82 => ?_)
      · skip
        refine gx_iconst (v := 2) C dL_why_90 (by decide) ?_
        exact gx_iretR C rfl hr dL_why_91 (congrArg Value.int (by symm; refine (if_neg (fun z => z c_75)).trans ?_; exact if_pos (Or.inl c_82)))
      · skip
        refine gx_iload_n (q := 3) C dL_why_85 rfl ?_
        refine gx_iconst (v := 2) C dL_why_86 (by decide) ?_
        refine gx_icmp_le (tgt := 92) C dL_why_87 (by decide) (fun c_87 => ?_) (fun c_87 => ?_)
        · skip
          refine gx_iload_n (q := 3) C dL_why_92 rfl ?_
          refine gx_if_ne (tgt := 119) C dL_why_93 (by decide) (fun c_93 => ?_) (fun c_93 => ?_)
          · skip
            refine gx_iload (q := 4) C dL_why_119 rfl ?_
            refine gx_if_eq (tgt := 128) C dL_why_121 (by decide) (fun c_121 => ?_) (fun c_121 => ?_)
            · skip
              have h_121 := bI0.mp c_121
              refine gx_aload_n (q := 1) C dL_why_128 rfl ?_
              refine gx_aload_n (q := 2) C dL_why_129 rfl ?_
              refine gx_callRS C (k_L_inKiln l m_g e_g m_b e_b hn hn2) (va_cwS 2 C.2.2.2.2.1 gL_why_L_inKiln rfl rfl rfl kdN_L_inKiln ⟨Nat.le_of_ble_eq_true rfl, Nat.le_of_ble_eq_true rfl⟩) rfl rfl (Nat.le_of_ble_eq_true rfl) ⟨Nat.le_of_ble_eq_true rfl, Nat.le_of_ble_eq_true rfl⟩ dL_why_130 ?_
              refine gx_aload_n (q := 2) C dL_why_133 rfl ?_
              refine gx_iload_n (q := 0) C dL_why_134 rfl ?_
              refine gx_laldN C m_b e_b rfl (by omega) (by decide) dL_why_135 ?_
              refine gx_iconst (v := 1) C dL_why_136 (by decide) ?_
              refine gx_callRS C (k_L_part l (b q) 1) (va_cwS 2 C.2.2.2.2.1 gL_why_L_part rfl rfl rfl kdN_L_part ⟨Nat.le_of_ble_eq_true rfl, Nat.le_of_ble_eq_true rfl⟩) rfl rfl (Nat.le_of_ble_eq_true rfl) ⟨Nat.le_of_ble_eq_true rfl, Nat.le_of_ble_eq_true rfl⟩ dL_why_137 ?_
              refine gx_iadd C dL_why_140 ?_
              refine gx_aload_n (q := 1) C dL_why_141 rfl ?_
              refine gx_iconst (v := 3) C dL_why_142 (by decide) ?_
              refine gx_ialdN C m_g e_g (nLit 3) (by omega) (by decide) dL_why_143 ?_
              refine gx_icmp_le (tgt := 151) C dL_why_144 (by decide) (fun c_144 => ?_) (fun c_144 => ?_)
              · skip
                refine gx_iconst (v := 0) C dL_why_151 (by decide) ?_
                exact gx_iretR C rfl hr dL_why_152 (congrArg Value.int (by symm; refine (if_neg (fun z => z c_75)).trans ?_; refine (if_neg (fun z => z.elim c_82 (fun z => z c_87))).trans ?_; refine (if_neg (fun z => c_93 z.1)).trans ?_; refine (if_neg (bF h_121)).trans ?_; exact if_pos c_144))
              · skip
                refine gx_iconst (v := 5) C dL_why_147 (by decide) ?_
                refine gx_goto (tgt := 152) C dL_why_148 (by decide) ?_
                exact gx_iretR C rfl hr dL_why_152 (congrArg Value.int (by symm; refine (if_neg (fun z => z c_75)).trans ?_; refine (if_neg (fun z => z.elim c_82 (fun z => z c_87))).trans ?_; refine (if_neg (fun z => c_93 z.1)).trans ?_; refine (if_neg (bF h_121)).trans ?_; exact if_neg c_144))
            · skip
              have h_121 := bI1.mp c_121
              refine gx_iconst (v := 4) C dL_why_124 (by decide) ?_
              refine gx_goto (tgt := 152) C dL_why_125 (by decide) ?_
              exact gx_iretR C rfl hr dL_why_152 (congrArg Value.int (by symm; refine (if_neg (fun z => z c_75)).trans ?_; refine (if_neg (fun z => z.elim c_82 (fun z => z c_87))).trans ?_; refine (if_neg (fun z => c_93 z.1)).trans ?_; exact if_pos h_121))
          · skip
            refine gx_aload_n (q := 2) C dL_why_96 rfl ?_
            refine gx_iload_n (q := 0) C dL_why_97 rfl ?_
            refine gx_laldN C m_b e_b rfl (by omega) (by decide) dL_why_98 ?_
            refine gx_iconst (v := 5) C dL_why_99 (by decide) ?_
            refine gx_callRS C (k_L_part l (b q) 5) (va_cwS 2 C.2.2.2.2.1 gL_why_L_part rfl rfl rfl kdN_L_part ⟨Nat.le_of_ble_eq_true rfl, Nat.le_of_ble_eq_true rfl⟩) rfl rfl (Nat.le_of_ble_eq_true rfl) ⟨Nat.le_of_ble_eq_true rfl, Nat.le_of_ble_eq_true rfl⟩ dL_why_100 ?_
            refine gx_aload_n (q := 1) C dL_why_103 rfl ?_
            refine gx_iconst (v := 2) C dL_why_104 (by decide) ?_
            refine gx_ialdN C m_g e_g (nLit 2) (by omega) (by decide) dL_why_105 ?_
            refine gx_aload_n (q := 2) C dL_why_106 rfl ?_
            refine gx_iload_n (q := 0) C dL_why_107 rfl ?_
            refine gx_laldN C m_b e_b rfl (by omega) (by decide) dL_why_108 ?_
            refine gx_iconst (v := 1) C dL_why_109 (by decide) ?_
            refine gx_callRS C (k_L_part l (b q) 1) (va_cwS 2 C.2.2.2.2.1 gL_why_L_part rfl rfl rfl kdN_L_part ⟨Nat.le_of_ble_eq_true rfl, Nat.le_of_ble_eq_true rfl⟩) rfl rfl (Nat.le_of_ble_eq_true rfl) ⟨Nat.le_of_ble_eq_true rfl, Nat.le_of_ble_eq_true rfl⟩ dL_why_110 ?_
            refine gx_imul C dL_why_113 ?_
            refine gx_icmp_ge (tgt := 119) C dL_why_114 (by decide) (fun c_114 => ?_) (fun c_114 => ?_)
            · skip
              refine gx_iload (q := 4) C dL_why_119 rfl ?_
              refine gx_if_eq (tgt := 128) C dL_why_121 (by decide) (fun c_121 => ?_) (fun c_121 => ?_)
              · skip
                have h_121 := bI0.mp c_121
                refine gx_aload_n (q := 1) C dL_why_128 rfl ?_
                refine gx_aload_n (q := 2) C dL_why_129 rfl ?_
                refine gx_callRS C (k_L_inKiln l m_g e_g m_b e_b hn hn2) (va_cwS 2 C.2.2.2.2.1 gL_why_L_inKiln rfl rfl rfl kdN_L_inKiln ⟨Nat.le_of_ble_eq_true rfl, Nat.le_of_ble_eq_true rfl⟩) rfl rfl (Nat.le_of_ble_eq_true rfl) ⟨Nat.le_of_ble_eq_true rfl, Nat.le_of_ble_eq_true rfl⟩ dL_why_130 ?_
                refine gx_aload_n (q := 2) C dL_why_133 rfl ?_
                refine gx_iload_n (q := 0) C dL_why_134 rfl ?_
                refine gx_laldN C m_b e_b rfl (by omega) (by decide) dL_why_135 ?_
                refine gx_iconst (v := 1) C dL_why_136 (by decide) ?_
                refine gx_callRS C (k_L_part l (b q) 1) (va_cwS 2 C.2.2.2.2.1 gL_why_L_part rfl rfl rfl kdN_L_part ⟨Nat.le_of_ble_eq_true rfl, Nat.le_of_ble_eq_true rfl⟩) rfl rfl (Nat.le_of_ble_eq_true rfl) ⟨Nat.le_of_ble_eq_true rfl, Nat.le_of_ble_eq_true rfl⟩ dL_why_137 ?_
                refine gx_iadd C dL_why_140 ?_
                refine gx_aload_n (q := 1) C dL_why_141 rfl ?_
                refine gx_iconst (v := 3) C dL_why_142 (by decide) ?_
                refine gx_ialdN C m_g e_g (nLit 3) (by omega) (by decide) dL_why_143 ?_
                refine gx_icmp_le (tgt := 151) C dL_why_144 (by decide) (fun c_144 => ?_) (fun c_144 => ?_)
                · skip
                  refine gx_iconst (v := 0) C dL_why_151 (by decide) ?_
                  exact gx_iretR C rfl hr dL_why_152 (congrArg Value.int (by symm; refine (if_neg (fun z => z c_75)).trans ?_; refine (if_neg (fun z => z.elim c_82 (fun z => z c_87))).trans ?_; refine (if_neg (fun z => z.2 c_114)).trans ?_; refine (if_neg (bF h_121)).trans ?_; exact if_pos c_144))
                · skip
                  refine gx_iconst (v := 5) C dL_why_147 (by decide) ?_
                  refine gx_goto (tgt := 152) C dL_why_148 (by decide) ?_
                  exact gx_iretR C rfl hr dL_why_152 (congrArg Value.int (by symm; refine (if_neg (fun z => z c_75)).trans ?_; refine (if_neg (fun z => z.elim c_82 (fun z => z c_87))).trans ?_; refine (if_neg (fun z => z.2 c_114)).trans ?_; refine (if_neg (bF h_121)).trans ?_; exact if_neg c_144))
              · skip
                have h_121 := bI1.mp c_121
                refine gx_iconst (v := 4) C dL_why_124 (by decide) ?_
                refine gx_goto (tgt := 152) C dL_why_125 (by decide) ?_
                exact gx_iretR C rfl hr dL_why_152 (congrArg Value.int (by symm; refine (if_neg (fun z => z c_75)).trans ?_; refine (if_neg (fun z => z.elim c_82 (fun z => z c_87))).trans ?_; refine (if_neg (fun z => z.2 c_114)).trans ?_; exact if_pos h_121))
            · skip
              refine gx_iconst (v := 3) C dL_why_117 (by decide) ?_
              exact gx_iretR C rfl hr dL_why_118 (congrArg Value.int (by symm; refine (if_neg (fun z => z c_75)).trans ?_; refine (if_neg (fun z => z.elim c_82 (fun z => z c_87))).trans ?_; exact if_pos ⟨c_93, c_114⟩))
        · skip
          refine gx_iconst (v := 2) C dL_why_90 (by decide) ?_
          exact gx_iretR C rfl hr dL_why_91 (congrArg Value.int (by symm; refine (if_neg (fun z => z c_75)).trans ?_; exact if_pos (Or.inr c_87)))
    · skip
      refine gx_iconst (v := 1) C dL_why_78 (by decide) ?_
      exact gx_iretR C rfl hr dL_why_79 (congrArg Value.int (by symm; exact if_pos c_75))
  · skip
    have hlt : i < n := Nat.lt_of_not_le (fun z => c_20 ((nI_leI (by omega) (by omega)).mpr z))
    refine gx_iload (q := 4) C dL_why_23 rfl ?_
    refine gx_if_ne (tgt := 53) C dL_why_25 (by decide) (fun c_25 => ?_) (fun c_25 => ?_)
    · skip
      have h_25 := bI1.mp c_25
      refine gx_iconst (v := 1) C dL_why_53 (by decide) ?_
      refine gx_goto (tgt := 58) C dL_why_54 (by decide) ?_
      refine gx_istore C [(4, _), (0, _), (1, _), (2, _), (3, _), (5, _)] dL_why_58 (by decide) rfl ?_
      refine gx_iinc C (q := 5) (v := nI (i + 1)) [(5, _), (4, _), (0, _), (1, _), (2, _), (3, _)] dL_why_60 rfl (nI_inc i) (by decide) rfl ?_
      refine gx_goto (tgt := 14) C dL_why_63 (by decide) ?_
      have hst : lOth b (pt (b q) 3) (i + 1) = true := by simp [lOth, h_25]
      exact gx_back [2, 3, 4, 5, 1, 0] (ih (i + 1) (by omega) (by omega)) rfl (by rw [hst]; rfl)
    · skip
      have h_25 := bI0.mp c_25
      refine gx_aload_n (q := 2) C dL_why_28 rfl ?_
      refine gx_iload (q := 5) C dL_why_29 rfl ?_
      refine gx_laldN C m_b e_b rfl (by omega) (by decide) dL_why_31 ?_
      refine gx_iconst (v := 4) C dL_why_32 (by decide) ?_
      refine gx_callRS C (k_L_part l (b i) 4) (va_cwS 2 C.2.2.2.2.1 gL_why_L_part rfl rfl rfl kdN_L_part ⟨Nat.le_of_ble_eq_true rfl, Nat.le_of_ble_eq_true rfl⟩) rfl rfl (Nat.le_of_ble_eq_true rfl) ⟨Nat.le_of_ble_eq_true rfl, Nat.le_of_ble_eq_true rfl⟩ dL_why_33 ?_
      refine gx_bipush (v := 24) C dL_why_36 (by decide) ?_
      refine gx_icmp_ne (tgt := 57) C dL_why_38 (by decide) (fun c_38 => ?_) (fun c_38 => ?_)
      · skip
        refine gx_iconst (v := 0) C dL_why_57 (by decide) ?_
        refine gx_istore C [(4, _), (0, _), (1, _), (2, _), (3, _), (5, _)] dL_why_58 (by decide) rfl ?_
        refine gx_iinc C (q := 5) (v := nI (i + 1)) [(5, _), (4, _), (0, _), (1, _), (2, _), (3, _)] dL_why_60 rfl (nI_inc i) (by decide) rfl ?_
        refine gx_goto (tgt := 14) C dL_why_63 (by decide) ?_
        have hst : lOth b (pt (b q) 3) (i + 1) = false := by simp [lOth, h_25, c_38]
        exact gx_back [2, 3, 4, 5, 1, 0] (ih (i + 1) (by omega) (by omega)) rfl (by rw [hst]; rfl)
      · skip
        refine gx_aload_n (q := 2) C dL_why_41 rfl ?_
        refine gx_iload (q := 5) C dL_why_42 rfl ?_
        refine gx_laldN C m_b e_b rfl (by omega) (by decide) dL_why_44 ?_
        refine gx_iconst (v := 3) C dL_why_45 (by decide) ?_
        refine gx_callRS C (k_L_part l (b i) 3) (va_cwS 2 C.2.2.2.2.1 gL_why_L_part rfl rfl rfl kdN_L_part ⟨Nat.le_of_ble_eq_true rfl, Nat.le_of_ble_eq_true rfl⟩) rfl rfl (Nat.le_of_ble_eq_true rfl) ⟨Nat.le_of_ble_eq_true rfl, Nat.le_of_ble_eq_true rfl⟩ dL_why_46 ?_
        refine gx_iload_n (q := 3) C dL_why_49 rfl ?_
        refine gx_icmp_eq (tgt := 57) C dL_why_50 (by decide) (fun c_50 => ?_) (fun c_50 => ?_)
        · skip
          refine gx_iconst (v := 0) C dL_why_57 (by decide) ?_
          refine gx_istore C [(4, _), (0, _), (1, _), (2, _), (3, _), (5, _)] dL_why_58 (by decide) rfl ?_
          refine gx_iinc C (q := 5) (v := nI (i + 1)) [(5, _), (4, _), (0, _), (1, _), (2, _), (3, _)] dL_why_60 rfl (nI_inc i) (by decide) rfl ?_
          refine gx_goto (tgt := 14) C dL_why_63 (by decide) ?_
          have hst : lOth b (pt (b q) 3) (i + 1) = false := by simp [lOth, h_25, c_38, c_50]
          exact gx_back [2, 3, 4, 5, 1, 0] (ih (i + 1) (by omega) (by omega)) rfl (by rw [hst]; rfl)
        · skip
          refine gx_iconst (v := 1) C dL_why_53 (by decide) ?_
          refine gx_goto (tgt := 58) C dL_why_54 (by decide) ?_
          refine gx_istore C [(4, _), (0, _), (1, _), (2, _), (3, _), (5, _)] dL_why_58 (by decide) rfl ?_
          refine gx_iinc C (q := 5) (v := nI (i + 1)) [(5, _), (4, _), (0, _), (1, _), (2, _), (3, _)] dL_why_60 rfl (nI_inc i) (by decide) rfl ?_
          refine gx_goto (tgt := 14) C dL_why_63 (by decide) ?_
          have hst : lOth b (pt (b q) 3) (i + 1) = true := by simp [lOth, h_25, c_38, c_50]
          exact gx_back [2, 3, 4, 5, 1, 0] (ih (i + 1) (by omega) (by omega)) rfl (by rw [hst]; rfl)
theorem kdN_L_then : yL_then.cls ≠ "java/lang/invoke/MethodHandle" ∧ yL_then.cls ≠ "java/lang/invoke/VarHandle" ∧ (parseMethodDescriptor yL_then.desc).map (fun d => d.parameters.length) = some 3 := by decide +kernel
theorem kdV_L_then : yL_then.cls = RL ∧ yL_then.cls ≠ "java/lang/invoke/MethodHandle" ∧ yL_then.cls ≠ "java/lang/invoke/VarHandle" ∧ (parseMethodDescriptor yL_then.desc).map (fun d => d.parameters.length) = some 3 := ⟨rfl, kdN_L_then⟩
def lThen (g : Nat → Int32) (x : Int64) (heat : Int32) : Int32 :=
  if heat + pt x 2 ≤ g 4 then (if pt x 3 = 0 then (if heat ≤ 94 then 0 else 1) else if 0 ≤ heat - 95 - 5 * pt x 6 then (if 11 ≤ heat - 95 - 5 * pt x 6 then 1 else 3) else 2) else 4
abbrev rmL_then : Room := { frames := 1, cells := 0, slots := 0, locals := 22 }
set_option maxHeartbeats 4000000 in
set_option maxRecDepth 100000 in
theorem k_L_then (l : Launch) {k : gK} {L : List Nat} {f : Nat → va_E} {h_g : Nat} {g : Nat → Int32} (m_g : h_g ∈ L) (e_g : f h_g = gIA k 15 g) (x : Int64) (heat : Int32)  : kR l k L f yL_then wsL_then rmL_then [.long x, .int heat, .ref h_g] (.int (lThen g x heat)) := by
  refine kR_of (cc := cL_then) (maxL := 5) (ret := (some .int)) (by decide) rfl (Nat.le_of_ble_eq_true rfl) ?_
  intro p e s m args below meth c C hr
  refine gx_lv [(0, _), (2, _), (3, _)] [0, 1, 2] rfl ?_
  refine gx_iload_n (q := 1) C dL_then_0 rfl ?_
  refine gx_bipush (v := 95) C dL_then_1 (by decide) ?_
  refine gx_isub C dL_then_3 ?_
  refine gx_iconst (v := 5) C dL_then_4 (by decide) ?_
  refine gx_lload_n (q := 0) C dL_then_5 rfl ?_
  refine gx_bipush (v := 6) C dL_then_6 (by decide) ?_
  refine gx_callRS C (k_L_part l x 6) (va_cwS 2 C.2.2.2.2.1 gL_then_L_part rfl rfl rfl kdN_L_part ⟨Nat.le_of_ble_eq_true rfl, Nat.le_of_ble_eq_true rfl⟩) rfl rfl (Nat.le_of_ble_eq_true rfl) ⟨Nat.le_of_ble_eq_true rfl, Nat.le_of_ble_eq_true rfl⟩ dL_then_8 ?_
  refine gx_imul C dL_then_11 ?_
  refine gx_isub C dL_then_12 ?_
  refine gx_istore C [(4, _), (0, _), (2, _), (3, _)] dL_then_13 (by decide) rfl ?_
  refine gx_iload_n (q := 2) C dL_then_15 rfl ?_
  refine gx_lload_n (q := 1) C dL_then_16 rfl ?_
  refine gx_iconst (v := 2) C dL_then_17 (by decide) ?_
  refine gx_callRS C (k_L_part l x 2) (va_cwS 2 C.2.2.2.2.1 gL_then_L_part rfl rfl rfl kdN_L_part ⟨Nat.le_of_ble_eq_true rfl, Nat.le_of_ble_eq_true rfl⟩) rfl rfl (Nat.le_of_ble_eq_true rfl) ⟨Nat.le_of_ble_eq_true rfl, Nat.le_of_ble_eq_true rfl⟩ dL_then_18 ?_
  refine gx_iadd C dL_then_21 ?_
  refine gx_aload_n (q := 3) C dL_then_22 rfl ?_
  refine gx_iconst (v := 4) C dL_then_23 (by decide) ?_
  refine gx_ialdN C m_g e_g (nLit 4) (by omega) (by decide) dL_then_24 ?_
  refine gx_icmp_le (tgt := 30) C dL_then_25 (by decide) (fun c_25 => ?_) (fun c_25 => ?_)
  · skip
    refine gx_lload_n (q := 1) C dL_then_30 rfl ?_
    refine gx_iconst (v := 3) C dL_then_31 (by decide) ?_
    refine gx_callRS C (k_L_part l x 3) (va_cwS 2 C.2.2.2.2.1 gL_then_L_part rfl rfl rfl kdN_L_part ⟨Nat.le_of_ble_eq_true rfl, Nat.le_of_ble_eq_true rfl⟩) rfl rfl (Nat.le_of_ble_eq_true rfl) ⟨Nat.le_of_ble_eq_true rfl, Nat.le_of_ble_eq_true rfl⟩ dL_then_32 ?_
    refine gx_if_ne (tgt := 50) C dL_then_35 (by decide) (fun c_35 => ?_) (fun c_35 => ?_)
    · skip
      refine gx_iload (q := 0) C dL_then_50 rfl ?_
      refine gx_if_ge (tgt := 59) C dL_then_52 (by decide) (fun c_52 => ?_) (fun c_52 => ?_)
      · skip
        refine gx_iload (q := 0) C dL_then_59 rfl ?_
        refine gx_bipush (v := 11) C dL_then_61 (by decide) ?_
        refine gx_icmp_ge (tgt := 70) C dL_then_63 (by decide) (fun c_63 => ?_) (fun c_63 => ?_)
        · skip
          refine gx_iconst (v := 1) C dL_then_70 (by decide) ?_
          exact gx_iretR C rfl hr dL_then_71 (congrArg Value.int (by simp only [lThen]; simp only [if_pos c_25, if_neg c_35, if_pos c_52, if_pos c_63]))
        · skip
          refine gx_iconst (v := 3) C dL_then_66 (by decide) ?_
          refine gx_goto (tgt := 71) C dL_then_67 (by decide) ?_
          exact gx_iretR C rfl hr dL_then_71 (congrArg Value.int (by simp only [lThen]; simp only [if_pos c_25, if_neg c_35, if_pos c_52, if_neg c_63]))
      · skip
        refine gx_iconst (v := 2) C dL_then_55 (by decide) ?_
        refine gx_goto (tgt := 71) C dL_then_56 (by decide) ?_
        exact gx_iretR C rfl hr dL_then_71 (congrArg Value.int (by simp only [lThen]; simp only [if_pos c_25, if_neg c_35, if_neg c_52]))
    · skip
      refine gx_iload_n (q := 2) C dL_then_38 rfl ?_
      refine gx_bipush (v := 94) C dL_then_39 (by decide) ?_
      refine gx_icmp_le (tgt := 48) C dL_then_41 (by decide) (fun c_41 => ?_) (fun c_41 => ?_)
      · skip
        refine gx_iconst (v := 0) C dL_then_48 (by decide) ?_
        exact gx_iretR C rfl hr dL_then_49 (congrArg Value.int (by simp only [lThen]; simp only [if_pos c_25, if_pos c_35, if_pos c_41]))
      · skip
        refine gx_iconst (v := 1) C dL_then_44 (by decide) ?_
        refine gx_goto (tgt := 49) C dL_then_45 (by decide) ?_
        exact gx_iretR C rfl hr dL_then_49 (congrArg Value.int (by simp only [lThen]; simp only [if_pos c_25, if_pos c_35, if_neg c_41]))
  · skip
    refine gx_iconst (v := 4) C dL_then_28 (by decide) ?_
    exact gx_iretR C rfl hr dL_then_29 (congrArg Value.int (by simp only [lThen]; simp only [if_neg c_25]))
theorem kdN_L_wheel : yL_wheel.cls ≠ "java/lang/invoke/MethodHandle" ∧ yL_wheel.cls ≠ "java/lang/invoke/VarHandle" ∧ (parseMethodDescriptor yL_wheel.desc).map (fun d => d.parameters.length) = some 3 := by decide +kernel
theorem kdV_L_wheel : yL_wheel.cls = RL ∧ yL_wheel.cls ≠ "java/lang/invoke/MethodHandle" ∧ yL_wheel.cls ≠ "java/lang/invoke/VarHandle" ∧ (parseMethodDescriptor yL_wheel.desc).map (fun d => d.parameters.length) = some 3 := ⟨rfl, kdN_L_wheel⟩
def lWh (k0 : Nat → Int32) (q : Int32) (a : Nat) : Int32 := fnM (fun j => decide (k0 (6 * j + a) = q + 1)) 0 5
abbrev rmL_wheel : Room := { frames := 0, cells := 0, slots := 0, locals := 0 }
set_option maxHeartbeats 4000000 in
set_option maxRecDepth 100000 in
theorem k_L_wheel (l : Launch) {k : gK} {L : List Nat} {f : Nat → va_E} {h_k0 : Nat} {k0 : Nat → Int32} (m_k0 : h_k0 ∈ L) (e_k0 : f h_k0 = gIA k 31 k0) (q : Int32) (a : Nat) (ha : a < 6) : kR l k L f yL_wheel wsL_wheel rmL_wheel [.int q, .int (nI a), .ref h_k0] (.int (lWh k0 q a)) := by
  refine kR_of (cc := cL_wheel) (maxL := 4) (ret := (some .int)) (by decide) rfl (Nat.le_of_ble_eq_true rfl) ?_
  intro p e s m args below meth c C hr
  refine gx_lv [(0, _), (1, _), (2, _)] [0, 1, 2] rfl ?_
  refine gx_iconst (v := 0) C dL_wheel_0 (by decide) ?_
  refine gx_istore_n C (i := 3) [(3, _), (0, _), (1, _), (2, _)] dL_wheel_1 rfl (by decide) rfl ?_
  refine gx_loop (σ := Nat) (fun j => f) (fun j => [(0, .int q), (1, .int (nI a)), (2, .ref h_k0), (3, .int (nI j))]) (fun j => j ≤ 5 ∧ fnM (fun j => decide (k0 (6 * j + a) = q + 1)) j (5 - j) = lWh k0 q a) (fun j => 5 - j) 0 [1, 2, 3, 0] rfl rfl ?_ ?_
  · exact ⟨by decide, rfl⟩
  intro j hJ ih
  try dsimp only at hJ ih ⊢
  refine gx_iload_n (q := 3) C dL_wheel_2 rfl ?_
  refine gx_iconst (v := 5) C dL_wheel_3 (by decide) ?_
  refine gx_icmp_ge (tgt := 29) C dL_wheel_4 (by decide) (fun c_4 => ?_) (fun c_4 => ?_)
  · skip
    have hb5 := (nI_leI (a := 5) (b := j) (by decide) (by omega)).mp c_4
    refine gx_iconst (v := (-1)) C dL_wheel_29 (by decide) ?_
    exact gx_iretR C rfl hr dL_wheel_30 (congrArg Value.int (by rw [← hJ.2, show 5 - j = 0 by omega]; rfl))
  · skip
    have hlt5 : j < 5 := Nat.lt_of_not_le (fun z => c_4 ((nI_leI (a := 5) (b := j) (by decide) (by omega)).mpr z))
    obtain ⟨m, hm⟩ : ∃ m, 5 - j = m + 1 := ⟨4 - j, by omega⟩
    have h := hJ.2
    rw [hm] at h
    refine gx_aload_n (q := 2) C dL_wheel_7 rfl ?_
    refine gx_bipush (v := 6) C dL_wheel_8 (by decide) ?_
    refine gx_iload_n (q := 3) C dL_wheel_10 rfl ?_
    refine gx_imul C dL_wheel_11 ?_
    refine gx_iload_n (q := 1) C dL_wheel_12 rfl ?_
    refine gx_iadd C dL_wheel_13 ?_
    refine gx_ialdN C m_k0 e_k0 (nAdd (nMul (nLit 6) rfl) rfl) (by omega) (by decide) dL_wheel_14 ?_
    refine gx_iload_n (q := 0) C dL_wheel_15 rfl ?_
    refine gx_iconst (v := 1) C dL_wheel_16 (by decide) ?_
    refine gx_iadd C dL_wheel_17 ?_
    refine gx_icmp_ne (tgt := 23) C dL_wheel_18 (by decide) (fun c_18 => ?_) (fun c_18 => ?_)
    · skip
      refine gx_iinc C (q := 3) (v := nI (j + 1)) [(3, _), (0, _), (1, _), (2, _)] dL_wheel_23 rfl (nI_inc j) (by decide) rfl ?_
      refine gx_goto (tgt := 2) C dL_wheel_26 (by decide) ?_
      exact gx_back [1, 2, 3, 0] (ih (j + 1) ⟨by omega, by rw [show 5 - (j + 1) = m by omega, ← h]; exact (if_neg (by rw [decide_eq_true_eq]; exact c_18)).symm⟩ (by omega)) rfl (by rfl)
    · skip
      refine gx_iload_n (q := 3) C dL_wheel_21 rfl ?_
      exact gx_iretR C rfl hr dL_wheel_22 (congrArg Value.int (by rw [← h]; exact (if_pos (decide_eq_true c_18)).symm))
