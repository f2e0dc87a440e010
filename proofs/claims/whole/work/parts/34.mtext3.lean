theorem kdN_X7_carryOut : yX7_carryOut.cls ≠ "java/lang/invoke/MethodHandle" ∧ yX7_carryOut.cls ≠ "java/lang/invoke/VarHandle" ∧ (parseMethodDescriptor yX7_carryOut.desc).map (fun d => d.parameters.length) = some 0 := by decide +kernel
theorem kdV_X7_carryOut : yX7_carryOut.cls = RX7 ∧ yX7_carryOut.cls ≠ "java/lang/invoke/MethodHandle" ∧ yX7_carryOut.cls ≠ "java/lang/invoke/VarHandle" ∧ (parseMethodDescriptor yX7_carryOut.desc).map (fun d => d.parameters.length) = some 0 := ⟨rfl, kdN_X7_carryOut⟩
theorem no_112 (z : Nat → Int32) (a b c : Int32) : zNo z 112 a b c = vX7_noPupil (mz z) := by
  unfold zNo vX7_noOrder
  rw [if_neg (by decide : ¬ (112 : Int32) = 98), if_neg (by decide : ¬ (112 : Int32) = 99), if_neg (by decide : ¬ (112 : Int32) = 100), if_neg (by decide : ¬ (112 : Int32) = 101), if_neg (by decide : ¬ (112 : Int32) = 102), if_neg (by decide : ¬ (112 : Int32) = 103), if_neg (by decide : ¬ (112 : Int32) = 104), if_neg (by decide : ¬ (112 : Int32) = 105), if_neg (by decide : ¬ (112 : Int32) = 106), if_neg (by decide : ¬ (112 : Int32) = 107), if_neg (by decide : ¬ (112 : Int32) = 108), if_neg (by decide : ¬ (112 : Int32) = 109), if_neg (by decide : ¬ (112 : Int32) = 110), if_neg (by decide : ¬ (112 : Int32) = 111), if_pos rfl]
theorem do_112 (z : Nat → Int32) (a b c : Int32) : zDo z 112 a b c = (wX7_doPupil (mz z)).1 0 := by
  unfold zDo wX7_doOrder
  rw [if_neg (by decide : ¬ (112 : Int32) = 98), if_neg (by decide : ¬ (112 : Int32) = 99), if_neg (by decide : ¬ (112 : Int32) = 100), if_neg (by decide : ¬ (112 : Int32) = 101), if_neg (by decide : ¬ (112 : Int32) = 102), if_neg (by decide : ¬ (112 : Int32) = 103), if_neg (by decide : ¬ (112 : Int32) = 104), if_neg (by decide : ¬ (112 : Int32) = 105), if_neg (by decide : ¬ (112 : Int32) = 106), if_neg (by decide : ¬ (112 : Int32) = 107), if_neg (by decide : ¬ (112 : Int32) = 108), if_neg (by decide : ¬ (112 : Int32) = 109), if_neg (by decide : ¬ (112 : Int32) = 110), if_neg (by decide : ¬ (112 : Int32) = 111), if_pos rfl]
theorem no_a {z : Nat → Int32} {kd a a2 b c : Int32} (h : ¬ kd = 112 → a2 = a) : zNo z kd a2 b c = zNo z kd a b c := by
  by_cases e : kd = 112
  · subst e; exact (no_112 z a2 b c).trans (no_112 z a b c).symm
  · rw [h e]
theorem do_a {z : Nat → Int32} {kd a a2 b c : Int32} (h : ¬ kd = 112 → a2 = a) : zDo z kd a2 b c = zDo z kd a b c := by
  by_cases e : kd = 112
  · subst e; exact (do_112 z a2 b c).trans (do_112 z a b c).symm
  · rw [h e]
theorem do_C {Y : MS} {z : Nat → Int32} {p : Nat} {wr le x1 x2 x3 kd a a2 b c : Int32} (h : ¬ kd = 112 → a2 = a) : mC (mRow Y 0 (zDo z kd a b c)) p wr le x1 x2 x3 = wX7_doOrder (mC (mRow Y 0 z) p wr le x1 x2 x3) kd a2 b c := by
  rw [do_Z, ← do_a h]
  exact mS_ext (va_up_2 _ _ _ _).symm (fun _ => rfl)
/-- the orders from a place on: how many are carried out, and the row behind them -/
def zO (g : Nat → Int32) (n : Nat) : Nat → (Nat → Int32) → Nat → Nat × (Nat → Int32)
  | 0, z, _ => (0, z)
  | k + 1, z, p => if p < n then (if zNo z (sg g n p) (ordr g n p).2.2.1 (ordr g n p).2.2.2.1 (ordr g n p).2.2.2.2 = 0 then ((zO g n k (zDo z (sg g n p) (ordr g n p).2.2.1 (ordr g n p).2.2.2.1 (ordr g n p).2.2.2.2) ((ordr g n p).2.1 + 1)).1 + 1, (zO g n k (zDo z (sg g n p) (ordr g n p).2.2.1 (ordr g n p).2.2.2.1 (ordr g n p).2.2.2.2) ((ordr g n p).2.1 + 1)).2) else (0, z)) else (0, z)
def vMO (y : MS) (n : Nat) : Int32 := if flt (y.1 4) n 80 0 = -6 then nI (zO (y.1 4) n 80 (y.1 0) 0).1 else -3
def wMO (y : MS) (n : Nat) : MS := if flt (y.1 4) n 80 0 = -6 then mSc (mRow (mRec y) 0 (zO (y.1 4) n 80 (y.1 0) 0).2) 1 0 else y
theorem flt_r (g : Nat → Int32) (n : Nat) (hn : n ≤ 80) : ∀ k p, p ≤ n → flt g n k p = -6 ∨ ∃ j, j ≤ 87 ∧ flt g n k p = nI j
  | 0, p, h => Or.inr ⟨p, by omega, rfl⟩
  | k + 1, p, h => by
    have h5 := ordr_5 g n p
    unfold flt
    split
    · rename_i h1
      split
      · exact Or.inl rfl
      · split
        · rename_i h3
          have := sg_ne h3 (by decide)
          exact flt_r g n hn k _ (by omega)
        · exact Or.inr ⟨_, by omega, rfl⟩
    · exact Or.inr ⟨_, by omega, rfl⟩
theorem flt_6 {g : Nat → Int32} {n : Nat} (hn : n ≤ 80) : flt g n 80 0 < 0 ↔ flt g n 80 0 = -6 := by
  rcases flt_r g n hn 80 0 (by omega) with h | ⟨j, h1, h2⟩
  · rw [h]; exact ⟨fun _ => rfl, fun _ => by decide⟩
  · rw [h2]
    constructor
    · intro z; exact absurd z (nI_pos (by omega))
    · intro z
      have : nI j < 0 := by rw [z]; decide
      exact absurd this (nI_pos (by omega))
/-- a text without a fault: what stands at a place where an order begins -/
theorem flt_go {g : Nat → Int32} {n : Nat} (hn : n ≤ 80) {p : Nat} (hp : p ≤ n) (h : ∃ k, flt g n k p = -6) : (ordr g n p).1 = true ∧ ((ordr g n p).2.1 = n ∨ (sg g n (ordr g n p).2.1 = 59 ∧ ∃ k, flt g n k ((ordr g n p).2.1 + 1) = -6)) := by
  obtain ⟨k, hk⟩ := h
  have no : ∀ j, j ≤ 90 → nI j ≠ -6 := fun j hj z => nI_pos (n := j) (by omega) (by rw [z]; decide)
  have h5 := ordr_5 g n p
  cases k with
  | zero => exact absurd hk (no p (by omega))
  | succ k =>
    unfold flt at hk
    split at hk
    · rename_i h1
      refine ⟨h1, ?_⟩
      split at hk
      · rename_i h2; exact Or.inl h2
      · split at hk
        · rename_i h3; exact Or.inr ⟨h3, k, hk⟩
        · exact absurd hk (no _ (by omega))
    · exact absurd hk (no _ (by omega))
theorem zO_out {g : Nat → Int32} {n k p : Nat} {z : Nat → Int32} (h : n ≤ p) : zO g n k z p = (0, z) := by
  cases k with
  | zero => rfl
  | succ k => exact if_neg (by omega)
theorem mRec_s {y : MS} {s2 : Nat → Int32} (h : s2 0 = y.2 0) : (mRec (y.1, s2)).1 = (mRec y).1 ∧ (mRec (y.1, s2)).2 0 = (mRec y).2 0 := by
  have e1 : mRecK (y.1, s2) = mRecK y := by
    unfold mRecK mKn
    rw [show (y.1, s2).2 0 = y.2 0 from h]
  have e2 : mRecG (y.1, s2) = mRecG y := by
    unfold mRecG
    rw [show (y.1, s2).2 0 = y.2 0 from h]
  unfold mRec
  rw [e1, e2]
  exact ⟨rfl, rfl⟩
theorem coM1 {y : MS} {s2 : Nat → Int32} {z : Nat → Int32} {p : Nat} {wr a b c e : Int32} (h : s2 0 = y.2 0) : (mSc (mC (mRow (mRec (y.1, s2)) 0 z) p wr a b c e) 1 0).1 = (mSc (mRow (mRec y) 0 z) 1 0).1 := by
  show va_up (mRec (y.1, s2)).1 0 z = va_up (mRec y).1 0 z
  rw [(mRec_s h).1]
theorem coM2 {y : MS} {s2 : Nat → Int32} {z : Nat → Int32} {p : Nat} {wr a b c e : Int32} (h : s2 0 = y.2 0) : (mSc (mC (mRow (mRec (y.1, s2)) 0 z) p wr a b c e) 1 0).2 0 = (mSc (mRow (mRec y) 0 z) 1 0).2 0 := (mRec_s h).2
theorem in_X7_carryOut_7 : ∀ w ∈ u_ws RX7 TX7 13, w ∈ wsX7_carryOut := by decide +kernel
theorem fl_X7_carryOut_183 : Cond.fieldLink RX7 183 (TX7 7).1 (TX7 7).2.1 (TX7 7).2.2.1 ∈ wsX7_carryOut := by decide +kernel
theorem fl_X7_carryOut_175 : Cond.fieldLink RX7 175 (TX7 6).1 (TX7 6).2.1 (TX7 6).2.2.1 ∈ wsX7_carryOut := by decide +kernel
abbrev rmX7_carryOut : Room := { frames := 5, cells := 0, slots := 0, locals := 113 }
set_option maxHeartbeats 4000000 in
set_option maxRecDepth 100000 in
theorem k_X7_carryOut (l : Launch) {k : gK} {L : List Nat} {f : Nat → va_E} (hL : L.Nodup) {o : Nat → Nat} {y : MS} (hW : isMS k L f o y) {n : Nat} (hn : y.2 1 = nI n) (hn2 : n ≤ 80) (hK : mKK y)  {I : (Nat → Int32) → Prop} (hI : ∀ z, I z → mOK (mz z) ∧ mQK (mz z) ∧ (∀ i, i < mN (mz z) → hPu (mz z) i)) (hS : ∀ z kd a b c, I z → zNo z kd a b c = 0 → I (zDo z kd a b c)) (h0 : I (y.1 0)) : kM l k L f yX7_carryOut wsX7_carryOut rmX7_carryOut [.ref (o 0)] (fun v2 f2 => v2 = some (.int (vMO y n)) ∧ ∃ y2, mEq (wMO y n) y2 ∧ isMS k L f2 o y2 ∧ gFr o 6 f f2) := by
  refine kM_of (cc := cX7_carryOut) (maxL := 3) (ret := (some .int)) (by decide) rfl (Nat.le_of_ble_eq_true rfl) ?_
  intro p e s m args below meth c C hr
  have hD : gD (fun q => q ∈ L) L := ⟨hL, fun _ h => h⟩
  refine gx_lv [(0, _)] [0] rfl ?_
  refine gx_aload_n (q := 0) C dX7_carryOut_0 rfl ?_
  refine gx_callM C hD (k_X7_findFault l hL hW hn hn2) (isMS_in hW 0 (Nat.le_of_ble_eq_true rfl)) (isMS_0 hW) rfl (cwV 0 C.2.2.2.2.1 gX7_carryOut_X7_findFault rfl rfl rfl kdV_X7_findFault ⟨Nat.le_of_ble_eq_true rfl, Nat.le_of_ble_eq_true rfl⟩) rfl rfl (Nat.le_of_ble_eq_true rfl) ⟨Nat.le_of_ble_eq_true rfl, Nat.le_of_ble_eq_true rfl⟩ dX7_carryOut_1 (fun v_1 f_1 hp_1 => ?_)
  obtain ⟨rfl, ⟨e1, s2⟩, hE, hwr, hW_1, hF_1⟩ := hp_1
  have he1 : e1 = y.1 := hE.1
  subst he1
  refine gx_cons ?_
  refine gx_if_lt (tgt := 10) C dX7_carryOut_4 (by decide) (fun c_4 => ?_) (fun c_4 => ?_)
  · skip
    have hc4 := c_4
    refine gx_aload_n (q := 0) C dX7_carryOut_10 rfl ?_
    have hK2 : mKK (y.1, s2) := by have e : mKn (y.1, s2) = mKn y := congrArg cl hE.2.1; exact ⟨hE.2.1.trans (hK.1.trans (by rw [e])), by rw [e]; exact hK.2⟩
    refine gx_callM C hD (k_X7_record l hL hW_1 hK2) (isMS_in hW_1 0 (Nat.le_of_ble_eq_true rfl)) (isMS_0 hW_1) rfl (cwV 0 C.2.2.2.2.1 gX7_carryOut_X7_record rfl rfl rfl kdV_X7_record ⟨Nat.le_of_ble_eq_true rfl, Nat.le_of_ble_eq_true rfl⟩) rfl rfl (Nat.le_of_ble_eq_true rfl) ⟨Nat.le_of_ble_eq_true rfl, Nat.le_of_ble_eq_true rfl⟩ dX7_carryOut_11 (fun v_2 f_2 hp_2 => ?_)
    obtain ⟨rfl, hW_2, hG_2⟩ := hp_2
    have hF_2 := gFr_tr hF_1 hG_2
    refine gx_nil ?_
    refine gx_iconst (v := 0) C dX7_carryOut_14 (by decide) ?_
    refine gx_istore_n C (i := 1) [(1, _), (0, _)] dX7_carryOut_15 rfl (by decide) rfl ?_
    refine gx_aload_n (q := 1) C dX7_carryOut_16 rfl ?_
    refine gx_iconst (v := 0) C dX7_carryOut_17 (by decide) ?_
    refine gx_put C hD (i := 7) (ty := .int) tyX7_ok nmX7 (isMS_in hW_2 0 (Nat.le_of_ble_eq_true rfl)) (isMS_0 hW_2) rfl in_X7_carryOut_7 (by decide) fl_X7_carryOut_183 rfl (by decide +kernel) rfl rfl (Nat.le_of_ble_eq_true rfl) rfl dX7_carryOut_18 ?_
    refine gx_Ss2 hW_2 hF_2 (fun f_3 hW_3 hF_3 => ?_)
    have hC0 := isMS_same hW_3 (mC_z (mRec (y.1, s2)))
    refine gx_iconst (v := 1) C dX7_carryOut_21 (by decide) ?_
    refine gx_istore_n C (i := 2) [(2, _), (1, _), (0, _)] dX7_carryOut_22 rfl (by decide) rfl ?_
    have h6a := (flt_6 hn2).mp hc4
    have hcan : mC (mRow (mRec (y.1, s2)) 0 (y.1 0)) 0 0 ((mRec (y.1, s2)).2 4) ((mRec (y.1, s2)).2 5) ((mRec (y.1, s2)).2 6) ((mRec (y.1, s2)).2 7) = mC (mRec (y.1, s2)) 0 ((mRec (y.1, s2)).2 3) ((mRec (y.1, s2)).2 4) ((mRec (y.1, s2)).2 5) ((mRec (y.1, s2)).2 6) ((mRec (y.1, s2)).2 7) := by rw [show mRow (mRec (y.1, s2)) 0 (y.1 0) = mRec (y.1, s2) from mRow_i _ 0, show (mRec (y.1, s2)).2 3 = 0 from hwr h6a]
    refine gx_loop (σ := Nat × Nat × (Nat → Int32) × (Nat → va_E)) (fun z => z.2.2.2) (fun z => [(0, .ref (o 0)), (1, .int (nI z.1)), (2, .int 1)]) (fun z => 2 * z.1 ≤ z.2.1 ∧ z.2.1 ≤ n + 1 ∧ (z.2.1 ≤ n → ∃ kk, flt (y.1 4) n kk z.2.1 = -6) ∧ I z.2.2.1 ∧ (zO (y.1 4) n (80 - z.1) z.2.2.1 z.2.1).1 + z.1 = (zO (y.1 4) n 80 (y.1 0) 0).1 ∧ (zO (y.1 4) n (80 - z.1) z.2.2.1 z.2.1).2 = (zO (y.1 4) n 80 (y.1 0) 0).2 ∧ ∃ le a b c, isMS k L z.2.2.2 o (mC (mRow (mRec (y.1, s2)) 0 z.2.2.1) z.2.1 0 le a b c) ∧ gFr o 6 f z.2.2.2) (fun z => 80 - z.1) (0, 0, y.1 0, _) [2, 1, 0] rfl rfl ?_ ?_
    · exact ⟨Nat.zero_le _, Nat.zero_le _, fun _ => ⟨80, h6a⟩, h0, rfl, rfl, _, _, _, _, isMS_same hC0 hcan, hF_3⟩
    intro ⟨i, p1, z1, fi⟩ ⟨hI2, hp1, hgo, hw1, hz1, hz2, le1, a1, b1, c1, hWi, hFi⟩ ih
    try dsimp only at hI2 hp1 hgo hw1 hz1 hz2 hWi hFi ih ⊢
    have hnY : (mRow (mRec (y.1, s2)) 0 z1).2 1 = nI n := hE.2.2.trans hn
    have hI1 := hI _ hw1
    refine gx_iload_n (q := 2) C dX7_carryOut_23 rfl ?_
    refine gx_if_eq (tgt := 80) C dX7_carryOut_24 (by decide) (fun c_24 => ?_) (fun c_24 => ?_)
    exact absurd c_24 (by decide)
    refine gx_aload_n (q := 0) C dX7_carryOut_27 rfl ?_
    refine gx_get C (i := 7) (isMS_in hWi 0 (Nat.le_of_ble_eq_true rfl)) (isMS_0 hWi) rfl in_X7_carryOut_7 (by decide) fl_X7_carryOut_183 rfl dX7_carryOut_28 ?_
    refine gx_top (nI p1) rfl ?_
    refine gx_aload_n (q := 0) C dX7_carryOut_31 rfl ?_
    refine gx_get C (i := 6) (isMS_in hWi 0 (Nat.le_of_ble_eq_true rfl)) (isMS_0 hWi) rfl in_X7_carryOut_7 (by decide) fl_X7_carryOut_175 rfl dX7_carryOut_32 ?_
    refine gx_top (nI n) hnY ?_
    refine gx_icmp_ge (tgt := 80) C dX7_carryOut_35 (by decide) (fun c_35 => ?_) (fun c_35 => ?_)
    · skip
      have hb := (nI_leI (a := n) (b := p1) (by omega) (by omega)).mp c_35
      refine gx_aload_n (q := 0) C dX7_carryOut_80 rfl ?_
      refine gx_iconst (v := 0) C dX7_carryOut_81 (by decide) ?_
      refine gx_put C hD (i := 6) (ty := .int) tyX7_ok nmX7 (isMS_in hWi 0 (Nat.le_of_ble_eq_true rfl)) (isMS_0 hWi) rfl in_X7_carryOut_7 (by decide) fl_X7_carryOut_175 rfl (by decide +kernel) rfl rfl (Nat.le_of_ble_eq_true rfl) rfl dX7_carryOut_82 ?_
      refine gx_Ss1 hWi hFi (fun f_4 hW_4 hF_4 => ?_)
      refine gx_iload_n (q := 1) C dX7_carryOut_85 rfl ?_
      have h6 := (flt_6 hn2).mp hc4
      rw [zO_out (by omega)] at hz1 hz2
      have hz1 := (Nat.zero_add i).symm.trans hz1
      exact gx_iretM C hr dX7_carryOut_86 ⟨by rw [show vMO y n = _ from if_pos h6, ← hz1], _, by rw [show wMO y n = _ from if_pos h6, ← hz2]; exact ⟨coM1 hE.2.1, coM2 hE.2.1, rfl⟩, hW_4, hF_4⟩
    · skip
      have hpn : p1 < n := Nat.lt_of_not_le (fun z => c_35 ((nI_leI (a := n) (b := p1) (by omega) (by omega)).mpr z))
      have hgo := flt_go hn2 (Nat.le_of_lt hpn) (hgo (Nat.le_of_lt hpn))
      have hob := ordr_b _ _ _ hgo.1
      obtain ⟨r, hr3⟩ : ∃ r, 80 - i = r + 1 := ⟨79 - i, by omega⟩
      refine gx_aload_n (q := 0) C dX7_carryOut_38 rfl ?_
      refine gx_callM C hD (k_X7_readOrder l hL hWi hnY hn2 (by omega)) (isMS_in hWi 0 (Nat.le_of_ble_eq_true rfl)) (isMS_0 hWi) rfl (cwV 0 C.2.2.2.2.1 gX7_carryOut_X7_readOrder rfl rfl rfl kdV_X7_readOrder ⟨Nat.le_of_ble_eq_true rfl, Nat.le_of_ble_eq_true rfl⟩) rfl rfl (Nat.le_of_ble_eq_true rfl) ⟨Nat.le_of_ble_eq_true rfl, Nat.le_of_ble_eq_true rfl⟩ dX7_carryOut_39 (fun v_5 f_5 hp_5 => ?_)
      rcases hp_5 with ⟨a_5, hq_5, hone, rfl, hW_5, hG_5⟩ | ⟨le2, a2, b2, c2, hq_5, rfl, hW_5, hG_5⟩
      · skip
        have hF_5 := gFr_tr hFi hG_5
        refine gx_nil ?_
        have hone : ¬ sg (y.1 4) n p1 = 112 → a_5 = (ordr (y.1 4) n p1).2.2.1 := hone
        refine gx_aload_n (q := 0) C dX7_carryOut_42 rfl ?_
        refine gx_dup C rfl dX7_carryOut_43 ?_
        refine gx_get C (i := 7) (isMS_in hW_5 0 (Nat.le_of_ble_eq_true rfl)) (isMS_0 hW_5) rfl in_X7_carryOut_7 (by decide) fl_X7_carryOut_183 rfl dX7_carryOut_44 ?_
        refine gx_top (nI ((ordr (y.1 4) n p1).2.1)) rfl ?_
        refine gx_iconst (v := 1) C dX7_carryOut_47 (by decide) ?_
        refine gx_iadd C dX7_carryOut_48 ?_
        refine gx_put C hD (i := 7) (ty := .int) tyX7_ok nmX7 (isMS_in hW_5 0 (Nat.le_of_ble_eq_true rfl)) (isMS_0 hW_5) rfl in_X7_carryOut_7 (by decide) fl_X7_carryOut_183 rfl (by decide +kernel) rfl rfl (Nat.le_of_ble_eq_true rfl) rfl dX7_carryOut_49 ?_
        refine gx_Ss2 hW_5 hF_5 (fun f_6 hW_6 hF_6 => ?_)
        have hW_6 := isMS_same hW_6 (mC_2 (mRow (mRec (y.1, s2)) 0 z1) ((ordr (y.1 4) n p1).2.1) 0 (sg (y.1 4) n p1) a_5 ((ordr (y.1 4) n p1).2.2.2.1) ((ordr (y.1 4) n p1).2.2.2.2) _ (nAdd rfl (nLit 1)))
        refine gx_aload_n (q := 0) C dX7_carryOut_52 rfl ?_
        refine gx_callR C (k_X7_noOrder l hW_6 hI1.1 hI1.2.1 (kd := sg (y.1 4) n p1) (a0 := a_5) (b0 := (ordr (y.1 4) n p1).2.2.2.1) (c0 := (ordr (y.1 4) n p1).2.2.2.2) rfl rfl rfl rfl) (isMS_in hW_6 0 (Nat.le_of_ble_eq_true rfl)) (isMS_0 hW_6) rfl (cwV 0 C.2.2.2.2.1 gX7_carryOut_X7_noOrder rfl rfl rfl kdV_X7_noOrder ⟨Nat.le_of_ble_eq_true rfl, Nat.le_of_ble_eq_true rfl⟩) rfl rfl (Nat.le_of_ble_eq_true rfl) ⟨Nat.le_of_ble_eq_true rfl, Nat.le_of_ble_eq_true rfl⟩ dX7_carryOut_53 ?_
        refine gx_top (zNo z1 (sg (y.1 4) n p1) (ordr (y.1 4) n p1).2.2.1 (ordr (y.1 4) n p1).2.2.2.1 (ordr (y.1 4) n p1).2.2.2.2) (no_a hone) ?_
        refine gx_if_ne (tgt := 63) C dX7_carryOut_56 (by decide) (fun c_56 => ?_) (fun c_56 => ?_)
        · skip
          refine gx_iconst (v := 0) C dX7_carryOut_63 (by decide) ?_
          refine gx_istore_n C (i := 2) [(2, _), (0, _), (1, _)] dX7_carryOut_64 rfl (by decide) rfl ?_
          refine gx_iload_n (q := 0) C dX7_carryOut_65 rfl ?_
          refine gx_if_eq (tgt := 23) C dX7_carryOut_66 (by decide) (fun c_66 => ?_) (fun c_66 => ?_)
          refine gx_iload_n (q := 0) C dX7_carryOut_23 rfl ?_
          refine gx_if_eq (tgt := 80) C dX7_carryOut_24 (by decide) (fun c_24_1 => ?_) (fun c_24_1 => ?_)
          refine gx_aload_n (q := 1) C dX7_carryOut_80 rfl ?_
          refine gx_iconst (v := 0) C dX7_carryOut_81 (by decide) ?_
          refine gx_put C hD (i := 6) (ty := .int) tyX7_ok nmX7 (isMS_in hW_6 0 (Nat.le_of_ble_eq_true rfl)) (isMS_0 hW_6) rfl in_X7_carryOut_7 (by decide) fl_X7_carryOut_175 rfl (by decide +kernel) rfl rfl (Nat.le_of_ble_eq_true rfl) rfl dX7_carryOut_82 ?_
          refine gx_Ss1 hW_6 hF_6 (fun f_7 hW_7 hF_7 => ?_)
          refine gx_iload_n (q := 2) C dX7_carryOut_85 rfl ?_
          have h6 := (flt_6 hn2).mp hc4
          rw [hr3, show zO (y.1 4) n (r + 1) z1 p1 = (0, z1) from (if_pos hpn).trans (if_neg c_56)] at hz1 hz2
          have hz1 := (Nat.zero_add i).symm.trans hz1
          exact gx_iretM C hr dX7_carryOut_86 ⟨by rw [show vMO y n = _ from if_pos h6, ← hz1], _, by rw [show wMO y n = _ from if_pos h6, ← hz2]; exact ⟨coM1 hE.2.1, coM2 hE.2.1, rfl⟩, hW_7, hF_7⟩
          exact absurd (by decide) c_24_1
          exact absurd (by decide) c_66
        · skip
          refine gx_iconst (v := 1) C dX7_carryOut_59 (by decide) ?_
          refine gx_goto (tgt := 64) C dX7_carryOut_60 (by decide) ?_
          refine gx_istore_n C (i := 2) [(2, _), (0, _), (1, _)] dX7_carryOut_64 rfl (by decide) rfl ?_
          refine gx_iload_n (q := 0) C dX7_carryOut_65 rfl ?_
          refine gx_if_eq (tgt := 23) C dX7_carryOut_66 (by decide) (fun c_66 => ?_) (fun c_66 => ?_)
          exact absurd c_66 (by decide)
          refine gx_aload_n (q := 1) C dX7_carryOut_69 rfl ?_
          refine gx_callM C hD (k_X7_doOrder l hL hW_6 hI1.1 hI1.2.1 hI1.2.2 (kd := sg (y.1 4) n p1) (a0 := a_5) (b0 := (ordr (y.1 4) n p1).2.2.2.1) (c0 := (ordr (y.1 4) n p1).2.2.2.2) rfl rfl rfl rfl ((no_a hone).trans c_56)) (isMS_in hW_6 0 (Nat.le_of_ble_eq_true rfl)) (isMS_0 hW_6) rfl (cwV 0 C.2.2.2.2.1 gX7_carryOut_X7_doOrder rfl rfl rfl kdV_X7_doOrder ⟨Nat.le_of_ble_eq_true rfl, Nat.le_of_ble_eq_true rfl⟩) rfl rfl (Nat.le_of_ble_eq_true rfl) ⟨Nat.le_of_ble_eq_true rfl, Nat.le_of_ble_eq_true rfl⟩ dX7_carryOut_70 (fun v_8 f_8 hp_8 => ?_)
          obtain ⟨rfl, hW_8, hG_8⟩ := hp_8
          have hF_8 := gFr_tr hF_6 hG_8
          refine gx_cons ?_
          have hW_8 := isMS_same hW_8 (do_C hone)
          refine gx_pop C rfl dX7_carryOut_73 ?_
          refine gx_iinc C (q := 2) (v := nI (i + 1)) [(1, _), (2, _), (0, _)] dX7_carryOut_74 rfl (nI_inc i) (by decide) rfl ?_
          refine gx_goto (tgt := 23) C dX7_carryOut_77 (by decide) ?_
          have hst : zO (y.1 4) n (r + 1) z1 p1 = _ := (if_pos hpn).trans (if_pos c_56)
          rw [hr3, hst] at hz1 hz2
          exact gx_back [2, 0, 1] (ih (i + 1, (ordr (y.1 4) n p1).2.1 + 1, _, _) ⟨by show 2 * (i + 1) ≤ (ordr (y.1 4) n p1).2.1 + 1; omega, by show (ordr (y.1 4) n p1).2.1 + 1 ≤ n + 1; omega, fun h => hgo.2.elim (fun z => by have h : (ordr (y.1 4) n p1).2.1 + 1 ≤ n := h; omega) (fun z => z.2), hS _ _ _ _ _ hw1 c_56, by show (zO _ _ (80 - (i + 1)) _ _).1 + (i + 1) = _; rw [show 80 - (i + 1) = r by omega, ← hz1]; exact (by omega : ∀ x : Nat, x + (i + 1) = x + 1 + i) _, by show (zO _ _ (80 - (i + 1)) _ _).2 = _; rw [show 80 - (i + 1) = r by omega]; exact hz2, _, _, _, _, hW_8, hF_8⟩ (by show 80 - (i + 1) < 80 - i; omega)) rfl rfl
      · exact absurd (hgo.1.symm.trans hq_5) (by decide)
  · skip
    refine gx_bipush (v := (-3)) C dX7_carryOut_7 (by decide) ?_
    have h6 : ¬ flt (y.1 4) n 80 0 = -6 := fun z => c_4 ((flt_6 hn2).mpr z)
    exact gx_iretM C hr dX7_carryOut_9 ⟨by rw [show vMO y n = _ from if_neg h6], _, by rw [show wMO y n = y from if_neg h6]; exact hE, hW_1, hF_1⟩
