/-! the law's loop and its start -/
set_option maxHeartbeats 4000000 in
theorem law_loop {p : Program} {l : Launch} {e : Env} {s : State} {m : MethodId} {below : List Frame} {meth : Method} {c : Code} {b L : Nat} {xs : Nat → Int32} {k : gK} (hL : L ≤ 2048) (C0 : lw_At p s m meth c b L xs) (C : gC k p s m #[Value.ref b] meth c cL_law RL 4 wsL_law) (hAO : va_AO RX5 s) {h1 o0 : Nat} :
    ∀ (n t K cells slots : Nat), 4 * t ≤ L + 3 → L < 4 * (t + n) → K ≤ 1600 * t → cells ≤ 228 + 27 * t → slots ≤ 5598 + 315 * t → ∀ (H : Heap) (locs : List Loc) (ls : Array Slot), LI s k h1 o0 K H locs → lv_has ls 4 (lwl b h1 o0 (4 * t)) → W p l e room_1 s m #[Value.ref b] below meth c H locs cells slots (lw_Z below #[Value.ref b] s) (F0 m 18 ls []) := by
  obtain ⟨hx, hb, hr, hml, hown, hts, hX, hbl, hlocks, hgv⟩ := id C0
  have hbA : ¬ (fun q : Nat => s.heap.size ≤ q) b := Nat.not_le.mpr hbl
  have stop : ∀ (t K cells slots : Nat) (H : Heap) (locs : List Loc) (ls : Array Slot), cells ≤ 600000 → slots ≤ 7302249 → LI s k h1 o0 K H locs → W p l e room_1 s m #[Value.ref b] below meth c H locs cells slots (lw_Z below #[Value.ref b] s) (F0 m 900 ls []) := fun t K cells slots H locs ls g1 g2 hI => by
    obtain ⟨q, y, A, o, L1, f1, L2, f2, hR, hP, hM, -, -, n1, n2, a1, a2, dj, P1, P2, hS⟩ := hI
    refine lv_iconst (v := 1) hx hb dL_law_900 (by decide) ?_
    refine va_forget (fun q hq => hS.2.2 q hq) ?_
    refine W.widen g1 g2 ?_
    exact lw_ret hx hb hr hlocks dL_law_901
  intro n
  induction n with
  | zero =>
    intro t K cells slots g1 g2 g3 g4 g5 H locs ls hI hl
    have hS := hI
    obtain ⟨q, y, A, o, L1, f1, L2, f2, hR, hP, hM, -, -, n1, n2, a1, a2, dj, P1, P2, hS⟩ := hS
    refine lv_iload_n hx hb dL_law_18 rfl (lv_at hl 3 rfl) ?_
    refine lv_aload_n hx hb dL_law_19 rfl (lv_at hl 0 rfl) ?_
    refine va_slen hx hb hX hbl hbA hS dL_law_20 ?_
    refine lv_iconst (v := 4) hx hb dL_law_21 (by decide) ?_
    refine lv_isub hx hb dL_law_22 ?_
    refine lv_icmp_gt (tgt := 900) hx hb dL_law_23 (by decide) (fun _ => stop t K cells slots H locs ls (by omega) (by omega) hI) (fun h => ?_)
    refine absurd ?_ h
    rw [show Int32.ofNat L = nI L from rfl, show (4 : Int32) = nI 4 from rfl, fa_lt, pk_sub_toInt (by omega) (by omega), nI_toInt (by omega)]
    omega
  | succ n ih =>
    intro t K cells slots g1 g2 g3 g4 g5 H locs ls hI hl
    have hS := hI
    obtain ⟨q, y, A, o, L1, f1, L2, f2, hR, hP, hM, -, -, n1, n2, a1, a2, dj, P1, P2, hS⟩ := hS
    refine lv_iload_n hx hb dL_law_18 rfl (lv_at hl 3 rfl) ?_
    refine lv_aload_n hx hb dL_law_19 rfl (lv_at hl 0 rfl) ?_
    refine va_slen hx hb hX hbl hbA hS dL_law_20 ?_
    refine lv_iconst (v := 4) hx hb dL_law_21 (by decide) ?_
    refine lv_isub hx hb dL_law_22 ?_
    refine lv_icmp_gt (tgt := 900) hx hb dL_law_23 (by decide) (fun _ => stop t K cells slots H locs ls (by omega) (by omega) hI) (fun h => ?_)
    have hi : 4 * t + 4 ≤ L := by
      rw [show Int32.ofNat L = nI L from rfl, show (4 : Int32) = nI 4 from rfl, fa_lt, pk_sub_toInt (by omega) (by omega), nI_toInt (by omega)] at h
      omega
    refine lv_aload_n hx hb dL_law_26 rfl (lv_at hl 0 rfl) ?_
    refine lv_iload_n hx hb dL_law_27 rfl (lv_at hl 3 rfl) ?_
    refine va_sld hx hb hX hbl hbA hS (vp_in_nI (show 4 * t < L by omega) (by omega)) dL_law_28 ?_
    refine lv_bipush (v := 31) hx hb dL_law_29 (by decide) ?_
    refine lv_iand hx hb dL_law_31 ?_
    obtain ⟨v, hv1, hv⟩ := pk_andE (xs (nI (4 * t)).toNatClampNeg) (m := 31) 5 (by decide)
    rw [hv]
    have kk : ∀ H2 locs2, LI s k h1 o0 (K + 1600) H2 locs2 → W p l e room_1 s m #[Value.ref b] below meth c H2 locs2 (cells + 27) (slots + 315) (lw_Z below #[Value.ref b] s) (F0 m 894 ls []) := fun H2 locs2 hI2 => by
      refine lv_iinc (v := nI (4 * (t + 1))) (lv' := [(3, .int (nI (4 * (t + 1)))), (0, .ref b), (1, .ref h1), (2, .ref o0)]) hx hb dL_law_894 hl (k := 3) rfl (nI_add (4 * t) 4) (by decide) rfl (fun ls hl => ?_)
      refine lv_goto (tgt := 18) hx hb dL_law_897 (by decide) ?_
      exact ih (t + 1) (K + 1600) (cells + 27) (slots + 315) (by omega) (by omega) (by omega) (by omega) (by omega) H2 locs2 ls hI2 (lv_sub hl [1, 2, 3, 0] rfl)
    have hK : K < 2 ^ 31 := by omega
    rcases (show v = 0 ∨ v = 1 ∨ v = 2 ∨ v = 3 ∨ v = 4 ∨ v = 5 ∨ v = 6 ∨ v = 7 ∨ v = 8 ∨ v = 9 ∨ v = 10 ∨ v = 11 ∨ v = 12 ∨ v = 13 ∨ v = 14 ∨ v = 15 ∨ v = 16 ∨ v = 17 ∨ v = 18 ∨ v = 19 ∨ v = 20 ∨ v = 21 ∨ v = 22 ∨ v = 23 ∨ v = 24 ∨ v = 25 ∨ v = 26 ∨ v = 27 ∨ 28 ≤ v by omega) with rfl | rfl | rfl | rfl | rfl | rfl | rfl | rfl | rfl | rfl | rfl | rfl | rfl | rfl | rfl | rfl | rfl | rfl | rfl | rfl | rfl | rfl | rfl | rfl | rfl | rfl | rfl | rfl | hv28
    · refine lv_tableIn (tgt := 160) (off := 128) hx hb dL_law_32 (by decide) (by decide) (by decide) (by decide) ?_
      exact lc_set hL C0 C hAO hI hK hl hi (by omega) (by omega) kk
    · refine lv_tableIn (tgt := 193) (off := 161) hx hb dL_law_32 (by decide) (by decide) (by decide) (by decide) ?_
      exact lc_pupil hL C0 C hAO hI hK hl hi (by omega) (by omega) kk
    · refine lv_tableIn (tgt := 206) (off := 174) hx hb dL_law_32 (by decide) (by decide) (by decide) (by decide) ?_
      exact lc_book hL C0 C hAO hI hK hl hi (by omega) (by omega) kk
    · refine lv_tableIn (tgt := 249) (off := 217) hx hb dL_law_32 (by decide) (by decide) (by decide) (by decide) ?_
      exact lc_giveBack hL C0 C hAO hI hK hl hi (by omega) (by omega) kk
    · refine lv_tableIn (tgt := 282) (off := 250) hx hb dL_law_32 (by decide) (by decide) (by decide) (by decide) ?_
      exact lc_throwPot hL C0 C hAO hI hK hl hi (by omega) (by omega) kk
    · refine lv_tableIn (tgt := 315) (off := 283) hx hb dL_law_32 (by decide) (by decide) (by decide) (by decide) ?_
      exact lc_load hL C0 C hAO hI hK hl hi (by omega) (by omega) kk
    · refine lv_tableIn (tgt := 338) (off := 306) hx hb dL_law_32 (by decide) (by decide) (by decide) (by decide) ?_
      exact lc_unload hL C0 C hAO hI hK hl hi (by omega) (by omega) kk
    · refine lv_tableIn (tgt := 361) (off := 329) hx hb dL_law_32 (by decide) (by decide) (by decide) (by decide) ?_
      exact lc_fire hL C0 C hAO hI hK hl hi (by omega) (by omega) kk
    · refine lv_tableIn (tgt := 384) (off := 352) hx hb dL_law_32 (by decide) (by decide) (by decide) (by decide) ?_
      exact lc_glaze hL C0 C hAO hI hK hl hi (by omega) (by omega) kk
    · refine lv_tableIn (tgt := 417) (off := 385) hx hb dL_law_32 (by decide) (by decide) (by decide) (by decide) ?_
      exact lc_fill hL C0 C hAO hI hK hl hi (by omega) (by omega) kk
    · refine lv_tableIn (tgt := 450) (off := 418) hx hb dL_law_32 (by decide) (by decide) (by decide) (by decide) ?_
      exact lc_takeHome hL C0 C hAO hI hK hl hi (by omega) (by omega) kk
    · refine lv_tableIn (tgt := 473) (off := 441) hx hb dL_law_32 (by decide) (by decide) (by decide) (by decide) ?_
      exact lc_pass hL C0 C hAO hI hK hl hi (by omega) (by omega) kk
    · refine lv_tableIn (tgt := 496) (off := 464) hx hb dL_law_32 (by decide) (by decide) (by decide) (by decide) ?_
      exact lc_of hL C0 C hAO hI hK hl hi (by omega) (by omega) kk
    · refine lv_tableIn (tgt := 529) (off := 497) hx hb dL_law_32 (by decide) (by decide) (by decide) (by decide) ?_
      exact lc_ofPupil hL C0 C hAO hI hK hl hi (by omega) (by omega) kk
    · refine lv_tableIn (tgt := 562) (off := 530) hx hb dL_law_32 (by decide) (by decide) (by decide) (by decide) ?_
      exact lc_booked hL C0 C hAO hI hK hl hi (by omega) (by omega) kk
    · refine lv_tableIn (tgt := 595) (off := 563) hx hb dL_law_32 (by decide) (by decide) (by decide) (by decide) ?_
      exact lc_count hL C0 C hAO hI hK hl hi (by omega) (by omega) kk
    · refine lv_tableIn (tgt := 618) (off := 586) hx hb dL_law_32 (by decide) (by decide) (by decide) (by decide) ?_
      exact lc_why hL C0 C hAO hI hK hl hi (by omega) (by omega) kk
    · refine lv_tableIn (tgt := 641) (off := 609) hx hb dL_law_32 (by decide) (by decide) (by decide) (by decide) ?_
      exact lc_dryIn hL C0 C hAO hI hK hl hi (by omega) (by omega) kk
    · refine lv_tableIn (tgt := 664) (off := 632) hx hb dL_law_32 (by decide) (by decide) (by decide) (by decide) ?_
      exact lc_ifFired hL C0 C hAO hI hK hl hi (by omega) (by omega) kk
    · refine lv_tableIn (tgt := 697) (off := 665) hx hb dL_law_32 (by decide) (by decide) (by decide) (by decide) ?_
      exact lc_bestHeat hL C0 C hAO hI hK hl hi (by omega) (by omega) kk
    · refine lv_tableIn (tgt := 710) (off := 678) hx hb dL_law_32 (by decide) (by decide) (by decide) (by decide) ?_
      exact lc_firstFree hL C0 C hAO hI hK hl hi (by omega) (by omega) kk
    · refine lv_tableIn (tgt := 743) (off := 711) hx hb dL_law_32 (by decide) (by decide) (by decide) (by decide) ?_
      exact lc_put hL C0 C hAO hI hK hl hi (by omega) (by omega) kk
    · refine lv_tableIn (tgt := 796) (off := 764) hx hb dL_law_32 (by decide) (by decide) (by decide) (by decide) ?_
      exact lc_wipe hL C0 C hAO hI hK hl hi (by omega) (by omega) kk
    · refine lv_tableIn (tgt := 809) (off := 777) hx hb dL_law_32 (by decide) (by decide) (by decide) (by decide) ?_
      exact lc_fault hL C0 C hAO hI hK hl hi (by omega) (by omega) kk
    · refine lv_tableIn (tgt := 822) (off := 790) hx hb dL_law_32 (by decide) (by decide) (by decide) (by decide) ?_
      exact lc_carryOut hL C0 C hAO hI hK hl hi (by omega) (by omega) kk
    · refine lv_tableIn (tgt := 835) (off := 803) hx hb dL_law_32 (by decide) (by decide) (by decide) (by decide) ?_
      exact lc_undo hL C0 C hAO hI hK hl hi (by omega) (by omega) kk
    · refine lv_tableIn (tgt := 848) (off := 816) hx hb dL_law_32 (by decide) (by decide) (by decide) (by decide) ?_
      exact lc_save hL C0 C hAO hI hK hl hi (by omega) (by omega) kk
    · refine lv_tableIn (tgt := 871) (off := 839) hx hb dL_law_32 (by decide) (by decide) (by decide) (by decide) ?_
      exact lc_restore hL C0 C hAO hI hK hl hi (by omega) (by omega) kk
    · refine lv_tableOut (tgt := 894) hx hb dL_law_32 (Or.inr (by rw [nI_toInt (by omega)]; omega)) (by decide) ?_
      refine W.widen (k := cells + 27) (n := slots + 315) (by omega) (by omega) ?_
      obtain ⟨q, y, A, o, L1, f1, L2, f2, hR, r⟩ := hI
      exact kk _ _ ⟨q, y, A, o, L1, f1, L2, f2, Rel_K hR (by omega), r⟩
theorem G_tbl {ws : List Cond} (h : GoodIn wsL_law ws) : GoodIn lw_tbl ws := fun w hw => ⟨wsL_law_in w (h w hw).1, (h w hw).2⟩
set_option maxHeartbeats 4000000 in
set_option maxRecDepth 100000 in
theorem whole_start {p : Program} {e : Env} {s : State} {m : MethodId} {below : List Frame} {meth : Method} {c : Code} (l : Launch) (hflags : l.flags = flags0) {b L : Nat} {xs : Nat → Int32} (hL : L ≤ 2048) (C0 : lw_At p s m meth c b L xs) : W p l e room_1 s m #[Value.ref b] below meth c s.heap [] 0 0 (lw_Z below #[Value.ref b] s) (entryFrame m ([Value.ref b] : List Value).toArray 4) := by
  obtain ⟨k, C, hAO⟩ := lw_ctx C0
  obtain ⟨hx, hb, hr, hml, hown, hts, hX, hbl, hlocks, hgv⟩ := id C0
  have C1 : gC k p s m #[Value.ref b] meth c cL_law RL 4 lw_tbl := ⟨C.1, C.2.1, C.2.2.1, C.2.2.2.1, hts, C.2.2.2.2.2⟩
  have hA : ∀ q : Nat, s.heap.size ≤ q → (fun q : Nat => s.heap.size ≤ q) q := fun _ h => h
  have key : gW p l e room_1 s m #[Value.ref b] below meth c k 4 False (fun q : Nat => s.heap.size ≤ q) s.heap (lw_Z below #[Value.ref b] s) [] 0 0 (fun _ => .inr (0, [])) 0 [(0, .ref b)] [] := by
    refine gx_new C1 ⟨List.nodup_nil, fun _ h => absurd h List.not_mem_nil⟩ hA (ci := 6) (fs := [.null, .null, .null, .null]) tyX6_ok rfl inX6 wd_0 wd_1 wd_2 (fun j hj => by rcases (show j = 0 ∨ j = 1 ∨ j = 2 ∨ j = 3 by omega) with rfl | rfl | rfl | rfl <;> rfl) (Nat.le_of_ble_eq_true rfl) (Nat.le_of_ble_eq_true rfl) dL_law_0 (fun q6 hD1 => ?_)
    refine gx_gen (fun g1 hg1 => ?_)
    refine gx_dup C1 rfl dL_law_3 ?_
    refine gx_callI C1 hAO hD1 hA (k_X6_init l hD1.1 (List.mem_append_right _ (List.mem_singleton.mpr rfl)) (by rw [hg1, va_up_at])) (cwI 0 hts (G_tbl gL_law_X6_init) rfl rfl rfl (hts _ wd_2) (hts _ wd_7) (hts _ wd_8) rfl kdN_X6_init ⟨Nat.le_of_ble_eq_true rfl, Nat.le_of_ble_eq_true rfl⟩) rfl rfl (Nat.le_of_ble_eq_true rfl) ⟨(Nat.le_of_ble_eq_true rfl), (Nat.le_of_ble_eq_true rfl)⟩ dL_law_4 (fun v N1 f1 hp hD2 => ?_)
    obtain ⟨rfl, A, hA0, hPN, -⟩ := hp
    refine gx_nil ?_
    refine gx_astore_n C1 (i := 1) [(1, _), (0, _)] dL_law_7 rfl (by decide) rfl ?_
    refine gx_new C1 hD2 hA (ci := 7) (fs := [.null, .null, .int 0, .null, .null, .null, .int 0, .int 0, .int 0, .int 0, .int 0, .int 0, .int 0]) tyX7_ok rfl inX7 wd_3 wd_4 wd_5 (fun j hj => by rcases (show j = 0 ∨ j = 1 ∨ j = 2 ∨ j = 3 ∨ j = 4 ∨ j = 5 ∨ j = 6 ∨ j = 7 ∨ j = 8 ∨ j = 9 ∨ j = 10 ∨ j = 11 ∨ j = 12 by omega) with rfl | rfl | rfl | rfl | rfl | rfl | rfl | rfl | rfl | rfl | rfl | rfl | rfl <;> rfl) (Nat.le_of_ble_eq_true rfl) (Nat.le_of_ble_eq_true rfl) dL_law_8 (fun q7 hD3 => ?_)
    refine gx_gen (fun g2 hg2 => ?_)
    have n3 : ∀ x ∈ ([] ++ [q6]) ++ N1, x ≠ q7 := fun x hx => gD_ne hD3 hx (List.mem_singleton.mpr rfl)
    refine gx_dup C1 rfl dL_law_11 ?_
    refine gx_callI C1 hAO hD3 hA (k_X7_init l hD3.1 (List.mem_append_right _ (List.mem_singleton.mpr rfl)) (by rw [hg2, va_up_at])) (cwI 0 hts (G_tbl gL_law_X7_init) rfl rfl rfl (hts _ wd_5) (hts _ wd_89) (hts _ wd_90) rfl kdN_X7_init ⟨Nat.le_of_ble_eq_true rfl, Nat.le_of_ble_eq_true rfl⟩) rfl rfl (Nat.le_of_ble_eq_true rfl) ⟨(Nat.le_of_ble_eq_true rfl), (Nat.le_of_ble_eq_true rfl)⟩ dL_law_12 (fun v2 N2 f2 hp2 hD4 => ?_)
    obtain ⟨rfl, b1, b2, b3, b4, b5, rfl, hMS, fr⟩ := hp2
    refine gx_nil ?_
    refine gx_astore_n C1 (i := 2) [(2, _), (1, _), (0, _)] dL_law_15 rfl (by decide) rfl ?_
    refine gx_iconst (v := 0) C1 dL_law_16 (by decide) ?_
    refine gx_istore_n C1 (i := 3) [(3, _), (2, _), (1, _), (0, _)] dL_law_17 rfl (by decide) rfl ?_
    intro H locs ls hP hS _ hl
    have hl2 : lv_has ls 4 (lwl b q6 q7 (4 * 0)) := lv_sub hl [3, 2, 1, 0] rfl
    have hLe : (([] ++ [q6]) ++ N1 ++ [q7]) ++ [b1, b2, b3, b4, b5] = (([] ++ [q6]) ++ N1) ++ (q7 :: [b1, b2, b3, b4, b5]) := by simp
    have hN := hD4.1
    have hAll := hD4.2
    rw [hLe] at hN hAll hP
    obtain ⟨hn1, hn2, hn3⟩ := List.nodup_append.mp hN
    have P1 : va_P k.1 vwCl (va_pl (([] ++ [q6]) ++ N1) f1) H := pl_at.mpr (fun a ha => by
      have := pl_at.mp hP a (List.mem_append_left _ ha)
      rw [fr a (List.mem_append_left _ ha) (n3 a ha), hg2, va_up_of _ (n3 a ha)] at this
      exact this)
    have P2 : va_P k.1 vwCl (va_pl (q7 :: [b1, b2, b3, b4, b5]) f2) H := pl_at.mpr (fun a ha => pl_at.mp hP a (List.mem_append_right _ ha))
    have hM2 : isMS k (q7 :: [b1, b2, b3, b4, b5]) f2 (fun i => [q7, b1, b2, b3, b4, b5].getD i 0) mIni := ⟨fun i hi => by
      rcases (show i = 0 ∨ i = 1 ∨ i = 2 ∨ i = 3 ∨ i = 4 ∨ i = 5 by omega) with rfl | rfl | rfl | rfl | rfl | rfl <;> simp, hMS.2⟩
    exact law_loop hL C0 C hAO (L + 1) 0 0 _ _ (by omega) (by omega) (by omega) (Nat.le_of_ble_eq_true rfl) (Nat.le_of_ble_eq_true rfl) H locs ls ⟨psIni, mIni, A, _, _, f1, _, f2, Rel_ini, hPN, hM2, hA0, rfl, hn1, hn2, fun a ha => hAll a (List.mem_append_left _ ha), fun a ha => hAll a (List.mem_append_right _ ha), fun a ha hm => hn3 a ha a hm rfl, P1, P2, hS⟩ hl2
  rw [lg_entry_eq]
  have hl := lv_entry ([.ref b]) (n := 4) (Nat.le_of_ble_eq_true rfl)
  exact key s.heap [] _ (fun j q h => by simp [va_pl] at h) va_S.rf (fun z => z.elim) hl
