/-! the law's class -/
theorem u7m (f : Nat → Int32) (n : Nat) : nI n = upd f 7 (nI n + 1) 7 - 1 := by rw [upd_s, nI_1, nI_pred]
theorem kdN_L_class1 : yL_class1.cls ≠ "java/lang/invoke/MethodHandle" ∧ yL_class1.cls ≠ "java/lang/invoke/VarHandle" ∧ (parseMethodDescriptor yL_class1.desc).map (fun d => d.parameters.length) = some 7 := by decide +kernel
theorem kdV_L_class1 : yL_class1.cls = RL ∧ yL_class1.cls ≠ "java/lang/invoke/MethodHandle" ∧ yL_class1.cls ≠ "java/lang/invoke/VarHandle" ∧ (parseMethodDescriptor yL_class1.desc).map (fun d => d.parameters.length) = some 7 := ⟨rfl, kdN_L_class1⟩
theorem wd_L_class1_k47 : Cond.constant RL 47 (65537) ∈ wsL_class1 := by decide +kernel
abbrev rmL_class1 : Room := { frames := 6, cells := 0, slots := 0, locals := 148 }
set_option maxHeartbeats 4000000 in
set_option maxRecDepth 100000 in
theorem k_L_class1 (l : Launch) {k : gK} {f : Nat → va_E} {L1 L2 : List Nat} {AA : Nat → Nat} {q : PS} {B : Nat → Nat} {z : ZS} (hL : (L1 ++ L2).Nodup) (hI : isLW k L1 L2 f AA q B z) {J n np nt x0 : Nat} {zr : Nat → Int32} (h : IV J q zr z) (hz : LZn J n np nt x0 zr z) (hJ : J ≤ 100) (xv : Int32) (yv : Int32)  : kM l k (L1 ++ L2) f yL_class1 wsL_class1 rmL_class1 [.ref (AA 0), .int xv, .int yv, .ref (B 0), .ref (B 1), .ref (B 2), .ref (B 3)] (fun v f2 => v = some (.int 1) ∧ ∃ q2 z2 zr2, isLW k L1 L2 f2 AA q2 B z2 ∧ IV (J + 1) q2 zr2 z2) := by
  refine kM_of (cc := cL_class1) (maxL := 12) (ret := (some .boolean)) (by decide) rfl (Nat.le_of_ble_eq_true rfl) ?_
  intro p e s m args below meth c C hr
  have hD : gD (fun q => q ∈ L1 ++ L2) (L1 ++ L2) := ⟨hL, fun _ h => h⟩
  have hL1 : L1.Nodup := (List.nodup_append.mp hL).1
  have hn : z.1 7 = nI n := (hz.2.2.1 7 (by decide)).trans hz.2.1.1
  have hn2 : n ≤ 20 := hz.1.1
  have hnp : z.1 6 = nI np := (hz.2.2.1 6 (by decide)).trans hz.2.1.2.1
  have hnp2 : np ≤ 10 := hz.1.2.1
  obtain ⟨pk, hpk1, hpk2, epk⟩ : ∃ pk : Nat, 1 ≤ pk ∧ pk ≤ 10 ∧ (if ((yv >>> (8 &&& 31)) &&& 7) = 0 then 10 else 3 : Int32) = nI pk := by
    split
    · exact ⟨10, by decide, by decide, rfl⟩
    · exact ⟨3, by decide, by decide, rfl⟩
  have hu : lo yv pk < 10 := Nat.lt_of_lt_of_le (lo_lt yv hpk1) hpk2
  have hsz := lo_lt (yv >>> (6 &&& 31)) (n := 3) (by decide)
  have haa := lo_lt (yv >>> (3 &&& 31)) (n := 6) (by decide)
  have hww := lo_lt (yv >>> (6 &&& 31)) (n := 5) (by decide)
  obtain ⟨pl, hpl, epl, epz⟩ := lFree_n hz
  have ex1 : z.1 1 = nI x0 := (hz.2.2.1 1 (by decide)).trans hz.2.1.2.2.2.1
  have hx0 : x0 < 65537 := hz.1.2.2.2
  refine gx_lv [(0, _), (1, _), (2, _), (3, _), (4, _), (5, _), (6, _)] [0, 1, 2, 3, 4, 5, 6] rfl ?_
  refine gx_iload_n (q := 1) C dL_class1_0 rfl ?_
  refine gx_bipush (v := 8) C dL_class1_1 (by decide) ?_
  refine gx_callRS C (k_L_low l xv 8 (by first | decide | omega) (by first | decide | omega)) (va_cwS 2 C.2.2.2.2.1 gL_class1_L_low rfl rfl rfl kdN_L_low ⟨Nat.le_of_ble_eq_true rfl, Nat.le_of_ble_eq_true rfl⟩) rfl rfl (Nat.le_of_ble_eq_true rfl) ⟨Nat.le_of_ble_eq_true rfl, Nat.le_of_ble_eq_true rfl⟩ dL_class1_3 ?_
  refine gx_istore C [(7, _), (0, _), (1, _), (2, _), (3, _), (4, _), (5, _), (6, _)] dL_class1_6 (by decide) rfl ?_
  refine gx_iload_n (q := 3) C dL_class1_8 rfl ?_
  refine gx_join (pc2 := 25) ((if ((yv >>> (8 &&& 31)) &&& 7) = 0 then 10 else 3) : Int32) ?_ (fun jj_9 => ?_)
  · skip
    refine gx_top (nI pk) epk ?_
    refine gx_callRS C (k_L_low l yv pk (by first | decide | omega) (by first | decide | omega)) (va_cwS 2 C.2.2.2.2.1 gL_class1_L_low rfl rfl rfl kdN_L_low ⟨Nat.le_of_ble_eq_true rfl, Nat.le_of_ble_eq_true rfl⟩) rfl rfl (Nat.le_of_ble_eq_true rfl) ⟨Nat.le_of_ble_eq_true rfl, Nat.le_of_ble_eq_true rfl⟩ dL_class1_25 ?_
    refine gx_istore C [(8, _), (7, _), (0, _), (1, _), (2, _), (3, _), (4, _), (5, _), (6, _)] dL_class1_28 (by decide) rfl ?_
    refine gx_iload (q := 1) C dL_class1_30 rfl ?_
    refine gx_if_ne (tgt := 86) C dL_class1_32 (by decide) (fun c_32 => ?_) (fun c_32 => ?_)
    · skip
      refine gx_iload (q := 0) C dL_class1_86 rfl ?_
      refine gx_aload_n (q := 5) C dL_class1_88 rfl ?_
      refine gx_bipush (v := 6) C dL_class1_89 (by decide) ?_
      refine gx_ialdN C (lw_mg hI) (lw_eg hI) (nLit 6) (by omega) (by decide) dL_class1_91 ?_
      refine gx_icmp_lt (tgt := 137) C dL_class1_92 (by decide) (fun c_92 => ?_) (fun c_92 => ?_)
      · skip
        have hp : lo yv pk < np := by rw [hnp] at c_92; exact (nI_ltI (by omega) (by omega)).mp c_92
        refine gx_iload_n (q := 4) C dL_class1_137 rfl ?_
        refine gx_iconst (v := 3) C dL_class1_138 (by decide) ?_
        refine gx_ishr C dL_class1_139 ?_
        refine gx_bipush (v := 6) C dL_class1_140 (by decide) ?_
        refine gx_callRS C (k_L_low l (yv >>> (3 &&& 31)) 6 (by first | decide | omega) (by first | decide | omega)) (va_cwS 2 C.2.2.2.2.1 gL_class1_L_low rfl rfl rfl kdN_L_low ⟨Nat.le_of_ble_eq_true rfl, Nat.le_of_ble_eq_true rfl⟩) rfl rfl (Nat.le_of_ble_eq_true rfl) ⟨Nat.le_of_ble_eq_true rfl, Nat.le_of_ble_eq_true rfl⟩ dL_class1_142 ?_
        refine gx_istore C [(9, _), (8, _), (7, _), (0, _), (1, _), (2, _), (3, _), (4, _), (5, _), (6, _)] dL_class1_145 (by decide) rfl ?_
        refine gx_iload (q := 2) C dL_class1_147 rfl ?_
        refine gx_iconst (v := 4) C dL_class1_149 (by decide) ?_
        refine gx_icmp_ge (tgt := 277) C dL_class1_150 (by decide) (fun c_150 => ?_) (fun c_150 => ?_)
        · skip
          refine gx_iload (q := 2) C dL_class1_277 rfl ?_
          refine gx_iconst (v := 4) C dL_class1_279 (by decide) ?_
          refine gx_icmp_ne (tgt := 365) C dL_class1_280 (by decide) (fun c_280 => ?_) (fun c_280 => ?_)
          · skip
            refine gx_iconst (v := 1) C dL_class1_365 (by decide) ?_
            refine gx_iload_n (q := 5) C dL_class1_366 rfl ?_
            refine gx_bipush (v := 6) C dL_class1_367 (by decide) ?_
            refine gx_ishr C dL_class1_369 ?_
            refine gx_iconst (v := 3) C dL_class1_370 (by decide) ?_
            refine gx_callRS C (k_L_low l (yv >>> (6 &&& 31)) 3 (by first | decide | omega) (by first | decide | omega)) (va_cwS 2 C.2.2.2.2.1 gL_class1_L_low rfl rfl rfl kdN_L_low ⟨Nat.le_of_ble_eq_true rfl, Nat.le_of_ble_eq_true rfl⟩) rfl rfl (Nat.le_of_ble_eq_true rfl) ⟨Nat.le_of_ble_eq_true rfl, Nat.le_of_ble_eq_true rfl⟩ dL_class1_371 ?_
            refine gx_iadd C dL_class1_374 ?_
            refine gx_top (nI (1 + lo (yv >>> (6 &&& 31)) 3)) (nAdd (nLit 1) rfl) ?_
            refine gx_istore C [(10, _), (9, _), (8, _), (7, _), (0, _), (1, _), (2, _), (3, _), (4, _), (5, _), (6, _)] dL_class1_375 (by decide) rfl ?_
            refine gx_iload (q := 2) C dL_class1_377 rfl ?_
            refine gx_iconst (v := 0) C dL_class1_379 (by decide) ?_
            refine gx_aload (q := 9) C dL_class1_380 rfl ?_
            refine gx_callRS C (k_L_wheel l (lw_mk hI) (lw_ek hI) (nI (lo yv pk)) 0 (by omega)) (va_cwS 3 C.2.2.2.2.1 gL_class1_L_wheel rfl rfl rfl kdN_L_wheel ⟨Nat.le_of_ble_eq_true rfl, Nat.le_of_ble_eq_true rfl⟩) rfl rfl (Nat.le_of_ble_eq_true rfl) ⟨Nat.le_of_ble_eq_true rfl, Nat.le_of_ble_eq_true rfl⟩ dL_class1_382 ?_
            refine gx_if_lt (tgt := 399) C dL_class1_385 (by decide) (fun c_385 => ?_) (fun c_385 => ?_)
            · skip
              refine gx_aload_n (q := 4) C dL_class1_399 rfl ?_
              refine gx_iload (q := 2) C dL_class1_400 rfl ?_
              refine gx_iload (q := 0) C dL_class1_402 rfl ?_
              refine gx_callF C hD hI (k_X6_throwPot l hL1 hI.1 h.1 (IV_ok h) _ _) (cwV 2 C.2.2.2.2.1 gL_class1_X6_throwPot rfl rfl rfl kdV_X6_throwPot ⟨Nat.le_of_ble_eq_true rfl, Nat.le_of_ble_eq_true rfl⟩) rfl rfl (Nat.le_of_ble_eq_true rfl) ⟨Nat.le_of_ble_eq_true rfl, Nat.le_of_ble_eq_true rfl⟩ dL_class1_404 (fun f_1 hI_1 => ?_)
              obtain ⟨hv_404, hJ_404⟩ := L_throw_n1 h hz (sz := 1 + lo (yv >>> (6 &&& 31)) 3) hp (by omega) (by omega) (Or.inl c_385)
              refine gx_top (-5) hv_404 ?_
              refine gx_bipush (v := (-5)) C dL_class1_407 (by decide) ?_
              refine gx_icmp_ne (tgt := 428) C dL_class1_409 (by decide) (fun c_409 => ?_) (fun c_409 => ?_)
              exact absurd (by decide) c_409
              refine gx_aload_n (q := 4) C dL_class1_412 rfl ?_
              refine gx_iload (q := 2) C dL_class1_413 rfl ?_
              refine gx_iconst (v := 4) C dL_class1_415 (by decide) ?_
              refine gx_callF C hD hI_1 (k_X6_throwPot l hL1 hI_1.1 hJ_404.1 (IV_ok hJ_404) _ _) (cwV 2 C.2.2.2.2.1 gL_class1_X6_throwPot rfl rfl rfl kdV_X6_throwPot ⟨Nat.le_of_ble_eq_true rfl, Nat.le_of_ble_eq_true rfl⟩) rfl rfl (Nat.le_of_ble_eq_true rfl) ⟨Nat.le_of_ble_eq_true rfl, Nat.le_of_ble_eq_true rfl⟩ dL_class1_416 (fun f_2 hI_2 => ?_)
              obtain ⟨hv_416, hJ_416⟩ := L_throw_4 hJ_404 hz hp
              refine gx_top (-2) hv_416 ?_
              refine gx_bipush (v := (-2)) C dL_class1_419 (by decide) ?_
              refine gx_icmp_ne (tgt := 428) C dL_class1_421 (by decide) (fun c_421 => ?_) (fun c_421 => ?_)
              exact absurd (by decide) c_421
              refine gx_iconst (v := 1) C dL_class1_424 (by decide) ?_
              refine gx_goto (tgt := 429) C dL_class1_425 (by decide) ?_
              exact gx_zretL C hr dL_class1_429 rfl ⟨rfl, _, _, _, hI_2, IV_m hJ_416 (Nat.le_succ _)⟩
            · skip
              refine gx_aload (q := 10) C dL_class1_388 rfl ?_
              refine gx_iconst (v := 2) C dL_class1_390 (by decide) ?_
              refine gx_iload (q := 2) C dL_class1_391 rfl ?_
              refine gx_imul C dL_class1_393 ?_
              refine gx_ialdN C (lw_mt hI) (lw_et hI) (nMul (nLit 2) rfl) (by omega) (by decide) dL_class1_394 ?_
              refine gx_iconst (v := 1) C dL_class1_395 (by decide) ?_
              refine gx_icmp_ne (tgt := 430) C dL_class1_396 (by decide) (fun c_396 => ?_) (fun c_396 => ?_)
              · skip
                refine gx_aload_n (q := 7) C dL_class1_430 rfl ?_
                refine gx_bipush (v := 7) C dL_class1_431 (by decide) ?_
                refine gx_ialdN C (lw_mg hI) (lw_eg hI) (nLit 7) (by omega) (by decide) dL_class1_433 ?_
                refine gx_bipush (v := 20) C dL_class1_434 (by decide) ?_
                refine gx_icmp_ne (tgt := 458) C dL_class1_436 (by decide) (fun c_436 => ?_) (fun c_436 => ?_)
                · skip
                  have hn20 : n < 20 := by
                    rcases Nat.lt_or_ge n 20 with e | e
                    · exact e
                    · exact absurd (hn.trans (by rw [show n = 20 by omega]; rfl)) c_436
                  refine gx_aload_n (q := 7) C dL_class1_458 rfl ?_
                  refine gx_iconst (v := 1) C dL_class1_459 (by decide) ?_
                  refine gx_aload_n (q := 7) C dL_class1_460 rfl ?_
                  refine gx_iconst (v := 1) C dL_class1_461 (by decide) ?_
                  refine gx_ialdN C (lw_mg hI) (lw_eg hI) (nLit 1) (by omega) (by decide) dL_class1_462 ?_
                  refine gx_bipush (v := 75) C dL_class1_463 (by decide) ?_
                  refine gx_imul C dL_class1_465 ?_
                  refine gx_bipush (v := 74) C dL_class1_466 (by decide) ?_
                  refine gx_iadd C dL_class1_468 ?_
                  refine gx_ldc C wd_L_class1_k47 dL_class1_469 ?_
                  refine gx_irem C (by decide) dL_class1_471 ?_
                  refine gx_top (nI (drN x0)) (by rw [ex1]; exact dr_e hx0) ?_
                  refine gx_iastN C hD (lw_mg hI) (lw_eg hI) (nLit 1) (by omega) (by decide) dL_class1_472 ?_
                  refine gx_Lg hI (fun f_3 hI_3 => ?_)
                  refine gx_aload_n (q := 7) C dL_class1_473 rfl ?_
                  refine gx_aload (q := 8) C dL_class1_474 rfl ?_
                  refine gx_callRS C (k_L_free l (lw_mg hI_3) (lw_eg hI_3) (lw_mb hI_3) (lw_eb hI_3) (show upd z.1 1 (nI (drN x0)) 7 = nI n by rw [upd_o _ _ (by decide)]; exact hn) hn2) (va_cwS 2 C.2.2.2.2.1 gL_class1_L_free rfl rfl rfl kdN_L_free ⟨Nat.le_of_ble_eq_true rfl, Nat.le_of_ble_eq_true rfl⟩) rfl rfl (Nat.le_of_ble_eq_true rfl) ⟨Nat.le_of_ble_eq_true rfl, Nat.le_of_ble_eq_true rfl⟩ dL_class1_476 ?_
                  refine gx_top (nI pl) epl ?_
                  refine gx_istore C [(11, _), (10, _), (9, _), (8, _), (7, _), (0, _), (1, _), (2, _), (3, _), (4, _), (5, _), (6, _)] dL_class1_479 (by decide) rfl ?_
                  refine gx_aload (q := 9) C dL_class1_481 rfl ?_
                  refine gx_aload_n (q := 8) C dL_class1_483 rfl ?_
                  refine gx_bipush (v := 7) C dL_class1_484 (by decide) ?_
                  refine gx_ialdN C (lw_mg hI_3) (lw_eg hI_3) (nLit 7) (by omega) (by decide) dL_class1_486 ?_
                  refine gx_lconst (v := 0) C dL_class1_487 (by decide) ?_
                  refine gx_iconst (v := 0) C dL_class1_488 (by decide) ?_
                  refine gx_iload (q := 3) C dL_class1_489 rfl ?_
                  refine gx_callRS C (k_L_with l 0 0 (nI (lo yv pk))) (va_cwS 3 C.2.2.2.2.1 gL_class1_L_with rfl rfl rfl kdN_L_with ⟨Nat.le_of_ble_eq_true rfl, Nat.le_of_ble_eq_true rfl⟩) rfl rfl (Nat.le_of_ble_eq_true rfl) ⟨Nat.le_of_ble_eq_true rfl, Nat.le_of_ble_eq_true rfl⟩ dL_class1_491 ?_
                  refine gx_iconst (v := 1) C dL_class1_494 (by decide) ?_
                  refine gx_iload (q := 1) C dL_class1_495 rfl ?_
                  refine gx_callRS C (k_L_with l (wt 0 0 (nI (lo yv pk))) 1 (nI (1 + lo (yv >>> (6 &&& 31)) 3))) (va_cwS 3 C.2.2.2.2.1 gL_class1_L_with rfl rfl rfl kdN_L_with ⟨Nat.le_of_ble_eq_true rfl, Nat.le_of_ble_eq_true rfl⟩) rfl rfl (Nat.le_of_ble_eq_true rfl) ⟨Nat.le_of_ble_eq_true rfl, Nat.le_of_ble_eq_true rfl⟩ dL_class1_497 ?_
                  refine gx_iconst (v := 2) C dL_class1_500 (by decide) ?_
                  refine gx_aload_n (q := 8) C dL_class1_501 rfl ?_
                  refine gx_iconst (v := 1) C dL_class1_502 (by decide) ?_
                  refine gx_ialdN C (lw_mg hI_3) (lw_eg hI_3) (nLit 1) (by omega) (by decide) dL_class1_503 ?_
                  refine gx_top (nI (drN x0)) (show upd z.1 1 (nI (drN x0)) 1 = nI (drN x0) from upd_s _ _ _) ?_
                  refine gx_iconst (v := 3) C dL_class1_504 (by decide) ?_
                  refine gx_ishr C dL_class1_505 ?_
                  refine gx_bipush (v := 10) C dL_class1_506 (by decide) ?_
                  refine gx_irem C (by decide) dL_class1_508 ?_
                  refine gx_top (nI (flN (drN x0))) (fl_e (dr_lt x0)) ?_
                  refine gx_callRS C (k_L_with l (wt (wt 0 0 (nI (lo yv pk))) 1 (nI (1 + lo (yv >>> (6 &&& 31)) 3))) 2 (nI (flN (drN x0)))) (va_cwS 3 C.2.2.2.2.1 gL_class1_L_with rfl rfl rfl kdN_L_with ⟨Nat.le_of_ble_eq_true rfl, Nat.le_of_ble_eq_true rfl⟩) rfl rfl (Nat.le_of_ble_eq_true rfl) ⟨Nat.le_of_ble_eq_true rfl, Nat.le_of_ble_eq_true rfl⟩ dL_class1_509 ?_
                  refine gx_iconst (v := 4) C dL_class1_512 (by decide) ?_
                  refine gx_iload (q := 0) C dL_class1_513 rfl ?_
                  refine gx_callRS C (k_L_with l (wt (wt (wt 0 0 (nI (lo yv pk))) 1 (nI (1 + lo (yv >>> (6 &&& 31)) 3))) 2 (nI (flN (drN x0)))) 4 (nI pl)) (va_cwS 3 C.2.2.2.2.1 gL_class1_L_with rfl rfl rfl kdN_L_with ⟨Nat.le_of_ble_eq_true rfl, Nat.le_of_ble_eq_true rfl⟩) rfl rfl (Nat.le_of_ble_eq_true rfl) ⟨Nat.le_of_ble_eq_true rfl, Nat.le_of_ble_eq_true rfl⟩ dL_class1_515 ?_
                  refine gx_lastN C hD (lw_mb hI_3) (lw_eb hI_3) (show upd z.1 1 (nI (drN x0)) 7 = nI n by rw [upd_o _ _ (by decide)]; exact hn) (by omega) (by decide) dL_class1_518 ?_
                  refine gx_Lb hI_3 (fun f_4 hI_4 => ?_)
                  refine gx_aload (q := 11) C dL_class1_519 rfl ?_
                  refine gx_iconst (v := 2) C dL_class1_521 (by decide) ?_
                  refine gx_iload (q := 3) C dL_class1_522 rfl ?_
                  refine gx_imul C dL_class1_524 ?_
                  refine gx_iconst (v := 1) C dL_class1_525 (by decide) ?_
                  refine gx_iastN C hD (lw_mt hI_4) (lw_et hI_4) (nMul (nLit 2) rfl) (by omega) (by decide) dL_class1_526 ?_
                  refine gx_Lt hI_4 (fun f_5 hI_5 => ?_)
                  refine gx_aload_n (q := 8) C dL_class1_527 rfl ?_
                  refine gx_bipush (v := 7) C dL_class1_528 (by decide) ?_
                  refine gx_dup2 C dL_class1_530 rfl rfl ?_
                  refine gx_ialdN C (lw_mg hI_5) (lw_eg hI_5) (nLit 7) (by omega) (by decide) dL_class1_531 ?_
                  refine gx_top (nI n) (show upd z.1 1 (nI (drN x0)) 7 = nI n by rw [upd_o _ _ (by decide)]; exact hn) ?_
                  refine gx_iconst (v := 1) C dL_class1_532 (by decide) ?_
                  refine gx_iadd C dL_class1_533 ?_
                  refine gx_iastN C hD (lw_mg hI_5) (lw_eg hI_5) (nLit 7) (by omega) (by decide) dL_class1_534 ?_
                  refine gx_Lg hI_5 (fun f_6 hI_6 => ?_)
                  refine gx_aload_n (q := 5) C dL_class1_535 rfl ?_
                  refine gx_iload (q := 3) C dL_class1_536 rfl ?_
                  refine gx_iload (q := 1) C dL_class1_538 rfl ?_
                  refine gx_callF C hD hI_6 (k_X6_throwPot l hL1 hI_6.1 h.1 (IV_ok h) _ _) (cwV 2 C.2.2.2.2.1 gL_class1_X6_throwPot rfl rfl rfl kdV_X6_throwPot ⟨Nat.le_of_ble_eq_true rfl, Nat.le_of_ble_eq_true rfl⟩) rfl rfl (Nat.le_of_ble_eq_true rfl) ⟨Nat.le_of_ble_eq_true rfl, Nat.le_of_ble_eq_true rfl⟩ dL_class1_540 (fun f_7 hI_7 => ?_)
                  obtain ⟨hv_540, zr_540, hJ_540⟩ := L_throw h hz (sz := 1 + lo (yv >>> (6 &&& 31)) 3) hp (by omega) (by omega) hpl epz c_385 c_396 c_436
                  refine gx_aload_n (q := 8) C dL_class1_543 rfl ?_
                  refine gx_bipush (v := 7) C dL_class1_544 (by decide) ?_
                  refine gx_ialdN C (lw_mg hI_7) (lw_eg hI_7) (nLit 7) (by omega) (by decide) dL_class1_546 ?_
                  refine gx_iconst (v := 1) C dL_class1_547 (by decide) ?_
                  refine gx_isub C dL_class1_548 ?_
                  refine gx_icmp_ne (tgt := 556) C dL_class1_549 (by decide) (fun c_549 => ?_) (fun c_549 => ?_)
                  · skip
                    exact (c_549 (hv_540.trans (u7m z.1 n))).elim
                  · skip
                    refine gx_iconst (v := 1) C dL_class1_552 (by decide) ?_
                    refine gx_goto (tgt := 557) C dL_class1_553 (by decide) ?_
                    exact gx_zretL C hr dL_class1_557 rfl ⟨rfl, _, _, _, hI_7, hJ_540⟩
                · skip
                  refine gx_aload_n (q := 4) C dL_class1_439 rfl ?_
                  refine gx_iload (q := 2) C dL_class1_440 rfl ?_
                  refine gx_iload (q := 0) C dL_class1_442 rfl ?_
                  refine gx_callF C hD hI (k_X6_throwPot l hL1 hI.1 h.1 (IV_ok h) _ _) (cwV 2 C.2.2.2.2.1 gL_class1_X6_throwPot rfl rfl rfl kdV_X6_throwPot ⟨Nat.le_of_ble_eq_true rfl, Nat.le_of_ble_eq_true rfl⟩) rfl rfl (Nat.le_of_ble_eq_true rfl) ⟨Nat.le_of_ble_eq_true rfl, Nat.le_of_ble_eq_true rfl⟩ dL_class1_444 (fun f_8 hI_8 => ?_)
                  obtain ⟨hv_444, hJ_444⟩ := L_throw_20 h hz (sz := 1 + lo (yv >>> (6 &&& 31)) 3) hp (by omega) (by omega) c_385 c_396 c_436
                  refine gx_top (-4) hv_444 ?_
                  refine gx_bipush (v := (-4)) C dL_class1_447 (by decide) ?_
                  refine gx_icmp_ne (tgt := 456) C dL_class1_449 (by decide) (fun c_449 => ?_) (fun c_449 => ?_)
                  exact absurd (by decide) c_449
                  refine gx_iconst (v := 1) C dL_class1_452 (by decide) ?_
                  refine gx_goto (tgt := 457) C dL_class1_453 (by decide) ?_
                  exact gx_zretL C hr dL_class1_457 rfl ⟨rfl, _, _, _, hI_8, IV_m hJ_444 (Nat.le_succ _)⟩
              · skip
                refine gx_aload_n (q := 4) C dL_class1_399 rfl ?_
                refine gx_iload (q := 2) C dL_class1_400 rfl ?_
                refine gx_iload (q := 0) C dL_class1_402 rfl ?_
                refine gx_callF C hD hI (k_X6_throwPot l hL1 hI.1 h.1 (IV_ok h) _ _) (cwV 2 C.2.2.2.2.1 gL_class1_X6_throwPot rfl rfl rfl kdV_X6_throwPot ⟨Nat.le_of_ble_eq_true rfl, Nat.le_of_ble_eq_true rfl⟩) rfl rfl (Nat.le_of_ble_eq_true rfl) ⟨Nat.le_of_ble_eq_true rfl, Nat.le_of_ble_eq_true rfl⟩ dL_class1_404 (fun f_9 hI_9 => ?_)
                obtain ⟨hv_404, hJ_404⟩ := L_throw_n1 h hz (sz := 1 + lo (yv >>> (6 &&& 31)) 3) hp (by omega) (by omega) (Or.inr c_396)
                refine gx_top (-5) hv_404 ?_
                refine gx_bipush (v := (-5)) C dL_class1_407 (by decide) ?_
                refine gx_icmp_ne (tgt := 428) C dL_class1_409 (by decide) (fun c_409 => ?_) (fun c_409 => ?_)
                exact absurd (by decide) c_409
                refine gx_aload_n (q := 4) C dL_class1_412 rfl ?_
                refine gx_iload (q := 2) C dL_class1_413 rfl ?_
                refine gx_iconst (v := 4) C dL_class1_415 (by decide) ?_
                refine gx_callF C hD hI_9 (k_X6_throwPot l hL1 hI_9.1 hJ_404.1 (IV_ok hJ_404) _ _) (cwV 2 C.2.2.2.2.1 gL_class1_X6_throwPot rfl rfl rfl kdV_X6_throwPot ⟨Nat.le_of_ble_eq_true rfl, Nat.le_of_ble_eq_true rfl⟩) rfl rfl (Nat.le_of_ble_eq_true rfl) ⟨Nat.le_of_ble_eq_true rfl, Nat.le_of_ble_eq_true rfl⟩ dL_class1_416 (fun f_10 hI_10 => ?_)
                obtain ⟨hv_416, hJ_416⟩ := L_throw_4 hJ_404 hz hp
                refine gx_top (-2) hv_416 ?_
                refine gx_bipush (v := (-2)) C dL_class1_419 (by decide) ?_
                refine gx_icmp_ne (tgt := 428) C dL_class1_421 (by decide) (fun c_421 => ?_) (fun c_421 => ?_)
                exact absurd (by decide) c_421
                refine gx_iconst (v := 1) C dL_class1_424 (by decide) ?_
                refine gx_goto (tgt := 429) C dL_class1_425 (by decide) ?_
                exact gx_zretL C hr dL_class1_429 rfl ⟨rfl, _, _, _, hI_10, IV_m hJ_416 (Nat.le_succ _)⟩
          · skip
            refine gx_iload (q := 1) C dL_class1_283 rfl ?_
            refine gx_iload (q := 0) C dL_class1_285 rfl ?_
            refine gx_aload (q := 8) C dL_class1_287 rfl ?_
            refine gx_callRS C (k_L_wheel l (lw_mk hI) (lw_ek hI) (nI (lo yv pk)) (lo (yv >>> (3 &&& 31)) 6) (by omega)) (va_cwS 3 C.2.2.2.2.1 gL_class1_L_wheel rfl rfl rfl kdN_L_wheel ⟨Nat.le_of_ble_eq_true rfl, Nat.le_of_ble_eq_true rfl⟩) rfl rfl (Nat.le_of_ble_eq_true rfl) ⟨Nat.le_of_ble_eq_true rfl, Nat.le_of_ble_eq_true rfl⟩ dL_class1_289 ?_
            refine gx_istore C [(10, _), (9, _), (8, _), (7, _), (0, _), (1, _), (2, _), (3, _), (4, _), (5, _), (6, _)] dL_class1_292 (by decide) rfl ?_
            refine gx_iload (q := 0) C dL_class1_294 rfl ?_
            refine gx_if_lt (tgt := 315) C dL_class1_296 (by decide) (fun c_296 => ?_) (fun c_296 => ?_)
            · skip
              refine gx_aload_n (q := 4) C dL_class1_315 rfl ?_
              refine gx_iload (q := 2) C dL_class1_316 rfl ?_
              refine gx_iload (q := 1) C dL_class1_318 rfl ?_
              refine gx_callF C hD hI (k_X6_giveBack l hL1 hI.1 h.1 (IV_ok h) _ _) (cwV 2 C.2.2.2.2.1 gL_class1_X6_giveBack rfl rfl rfl kdV_X6_giveBack ⟨Nat.le_of_ble_eq_true rfl, Nat.le_of_ble_eq_true rfl⟩) rfl rfl (Nat.le_of_ble_eq_true rfl) ⟨Nat.le_of_ble_eq_true rfl, Nat.le_of_ble_eq_true rfl⟩ dL_class1_320 (fun f_11 hI_11 => ?_)
              obtain ⟨hv_320, hJ_320⟩ := L_give_n1 h hz hp (lo_lt _ (by decide)) c_296
              refine gx_top (-5) hv_320 ?_
              refine gx_bipush (v := (-5)) C dL_class1_323 (by decide) ?_
              refine gx_icmp_ne (tgt := 332) C dL_class1_325 (by decide) (fun c_325 => ?_) (fun c_325 => ?_)
              exact absurd (by decide) c_325
              refine gx_iconst (v := 1) C dL_class1_328 (by decide) ?_
              refine gx_goto (tgt := 333) C dL_class1_329 (by decide) ?_
              exact gx_zretL C hr dL_class1_333 rfl ⟨rfl, _, _, _, hI_11, IV_m hJ_320 (Nat.le_succ _)⟩
            · skip
              obtain ⟨gw, hgw, gw1, gw2, -⟩ := lWh_eq h hz hp (lo_lt _ (by decide)) c_296
              refine gx_iload (q := 1) C dL_class1_299 rfl ?_
              refine gx_if_ne (tgt := 334) C dL_class1_301 (by decide) (fun c_301 => ?_) (fun c_301 => ?_)
              · skip
                refine gx_aload (q := 9) C dL_class1_334 rfl ?_
                refine gx_bipush (v := 6) C dL_class1_336 (by decide) ?_
                refine gx_iload (q := 0) C dL_class1_338 rfl ?_
                refine gx_imul C dL_class1_340 ?_
                refine gx_iload (q := 1) C dL_class1_341 rfl ?_
                refine gx_iadd C dL_class1_343 ?_
                refine gx_iconst (v := 0) C dL_class1_344 (by decide) ?_
                refine gx_iastN C hD (lw_mk hI) (lw_ek hI) (by rw [gw1, show (6 : Int32) = nI 6 from rfl, pk_mul, nI_add]) (by omega) (by decide) dL_class1_345 ?_
                refine gx_Lk hI (fun f_12 hI_12 => ?_)
                refine gx_aload_n (q := 4) C dL_class1_346 rfl ?_
                refine gx_iload (q := 2) C dL_class1_347 rfl ?_
                refine gx_iload (q := 1) C dL_class1_349 rfl ?_
                refine gx_callF C hD hI_12 (k_X6_giveBack l hL1 hI_12.1 h.1 (IV_ok h) _ _) (cwV 2 C.2.2.2.2.1 gL_class1_X6_giveBack rfl rfl rfl kdV_X6_giveBack ⟨Nat.le_of_ble_eq_true rfl, Nat.le_of_ble_eq_true rfl⟩) rfl rfl (Nat.le_of_ble_eq_true rfl) ⟨Nat.le_of_ble_eq_true rfl, Nat.le_of_ble_eq_true rfl⟩ dL_class1_351 (fun f_13 hI_13 => ?_)
                obtain ⟨hv_351, zr_351, hJ_351⟩ := L_give h hz hp (lo_lt _ (by decide)) hgw gw1 gw2 (fun e => c_301 e.1)
                refine gx_iload (q := 0) C dL_class1_354 rfl ?_
                refine gx_icmp_ne (tgt := 363) C dL_class1_356 (by decide) (fun c_356 => ?_) (fun c_356 => ?_)
                · skip
                  exact absurd (hv_351.trans gw1.symm) c_356
                · skip
                  refine gx_iconst (v := 1) C dL_class1_359 (by decide) ?_
                  refine gx_goto (tgt := 364) C dL_class1_360 (by decide) ?_
                  exact gx_zretL C hr dL_class1_364 rfl ⟨rfl, _, _, _, hI_13, hJ_351⟩
              · skip
                refine gx_aload (q := 10) C dL_class1_304 rfl ?_
                refine gx_iconst (v := 2) C dL_class1_306 (by decide) ?_
                refine gx_iload (q := 2) C dL_class1_307 rfl ?_
                refine gx_imul C dL_class1_309 ?_
                refine gx_ialdN C (lw_mt hI) (lw_et hI) (nMul (nLit 2) rfl) (by omega) (by decide) dL_class1_310 ?_
                refine gx_iconst (v := 1) C dL_class1_311 (by decide) ?_
                refine gx_icmp_ne (tgt := 334) C dL_class1_312 (by decide) (fun c_312 => ?_) (fun c_312 => ?_)
                · skip
                  refine gx_aload (q := 9) C dL_class1_334 rfl ?_
                  refine gx_bipush (v := 6) C dL_class1_336 (by decide) ?_
                  refine gx_iload (q := 0) C dL_class1_338 rfl ?_
                  refine gx_imul C dL_class1_340 ?_
                  refine gx_iload (q := 1) C dL_class1_341 rfl ?_
                  refine gx_iadd C dL_class1_343 ?_
                  refine gx_iconst (v := 0) C dL_class1_344 (by decide) ?_
                  refine gx_iastN C hD (lw_mk hI) (lw_ek hI) (by rw [gw1, show (6 : Int32) = nI 6 from rfl, pk_mul, nI_add]) (by omega) (by decide) dL_class1_345 ?_
                  refine gx_Lk hI (fun f_14 hI_14 => ?_)
                  refine gx_aload_n (q := 4) C dL_class1_346 rfl ?_
                  refine gx_iload (q := 2) C dL_class1_347 rfl ?_
                  refine gx_iload (q := 1) C dL_class1_349 rfl ?_
                  refine gx_callF C hD hI_14 (k_X6_giveBack l hL1 hI_14.1 h.1 (IV_ok h) _ _) (cwV 2 C.2.2.2.2.1 gL_class1_X6_giveBack rfl rfl rfl kdV_X6_giveBack ⟨Nat.le_of_ble_eq_true rfl, Nat.le_of_ble_eq_true rfl⟩) rfl rfl (Nat.le_of_ble_eq_true rfl) ⟨Nat.le_of_ble_eq_true rfl, Nat.le_of_ble_eq_true rfl⟩ dL_class1_351 (fun f_15 hI_15 => ?_)
                  obtain ⟨hv_351, zr_351, hJ_351⟩ := L_give h hz hp (lo_lt _ (by decide)) hgw gw1 gw2 (fun e => c_312 e.2)
                  refine gx_iload (q := 0) C dL_class1_354 rfl ?_
                  refine gx_icmp_ne (tgt := 363) C dL_class1_356 (by decide) (fun c_356 => ?_) (fun c_356 => ?_)
                  · skip
                    exact absurd (hv_351.trans gw1.symm) c_356
                  · skip
                    refine gx_iconst (v := 1) C dL_class1_359 (by decide) ?_
                    refine gx_goto (tgt := 364) C dL_class1_360 (by decide) ?_
                    exact gx_zretL C hr dL_class1_364 rfl ⟨rfl, _, _, _, hI_15, hJ_351⟩
                · skip
                  refine gx_aload_n (q := 4) C dL_class1_315 rfl ?_
                  refine gx_iload (q := 2) C dL_class1_316 rfl ?_
                  refine gx_iload (q := 1) C dL_class1_318 rfl ?_
                  refine gx_callF C hD hI (k_X6_giveBack l hL1 hI.1 h.1 (IV_ok h) _ _) (cwV 2 C.2.2.2.2.1 gL_class1_X6_giveBack rfl rfl rfl kdV_X6_giveBack ⟨Nat.le_of_ble_eq_true rfl, Nat.le_of_ble_eq_true rfl⟩) rfl rfl (Nat.le_of_ble_eq_true rfl) ⟨Nat.le_of_ble_eq_true rfl, Nat.le_of_ble_eq_true rfl⟩ dL_class1_320 (fun f_16 hI_16 => ?_)
                  obtain ⟨hv_320, hJ_320⟩ := L_give_n2 h hz hp (lo_lt _ (by decide)) c_301 c_312
                  refine gx_top (-5) hv_320 ?_
                  refine gx_bipush (v := (-5)) C dL_class1_323 (by decide) ?_
                  refine gx_icmp_ne (tgt := 332) C dL_class1_325 (by decide) (fun c_325 => ?_) (fun c_325 => ?_)
                  exact absurd (by decide) c_325
                  refine gx_iconst (v := 1) C dL_class1_328 (by decide) ?_
                  refine gx_goto (tgt := 333) C dL_class1_329 (by decide) ?_
                  exact gx_zretL C hr dL_class1_333 rfl ⟨rfl, _, _, _, hI_16, IV_m hJ_320 (Nat.le_succ _)⟩
        · skip
          refine gx_iload_n (q := 5) C dL_class1_153 rfl ?_
          refine gx_bipush (v := 6) C dL_class1_154 (by decide) ?_
          refine gx_ishr C dL_class1_156 ?_
          refine gx_iconst (v := 5) C dL_class1_157 (by decide) ?_
          refine gx_callRS C (k_L_low l (yv >>> (6 &&& 31)) 5 (by first | decide | omega) (by first | decide | omega)) (va_cwS 2 C.2.2.2.2.1 gL_class1_L_low rfl rfl rfl kdN_L_low ⟨Nat.le_of_ble_eq_true rfl, Nat.le_of_ble_eq_true rfl⟩) rfl rfl (Nat.le_of_ble_eq_true rfl) ⟨Nat.le_of_ble_eq_true rfl, Nat.le_of_ble_eq_true rfl⟩ dL_class1_158 ?_
          refine gx_istore C [(10, _), (9, _), (8, _), (7, _), (0, _), (1, _), (2, _), (3, _), (4, _), (5, _), (6, _)] dL_class1_161 (by decide) rfl ?_
          refine gx_aload (q := 9) C dL_class1_163 rfl ?_
          refine gx_bipush (v := 6) C dL_class1_165 (by decide) ?_
          refine gx_iload (q := 0) C dL_class1_167 rfl ?_
          refine gx_imul C dL_class1_169 ?_
          refine gx_iload (q := 1) C dL_class1_170 rfl ?_
          refine gx_iadd C dL_class1_172 ?_
          refine gx_ialdN C (lw_mk hI) (lw_ek hI) (nAdd (nMul (nLit 6) rfl) rfl) (by omega) (by decide) dL_class1_173 ?_
          refine gx_if_gt (tgt := 189) C dL_class1_174 (by decide) (fun c_174 => ?_) (fun c_174 => ?_)
          · skip
            refine gx_aload_n (q := 4) C dL_class1_189 rfl ?_
            refine gx_iload (q := 2) C dL_class1_190 rfl ?_
            refine gx_iload (q := 0) C dL_class1_192 rfl ?_
            refine gx_iload (q := 1) C dL_class1_194 rfl ?_
            refine gx_callF C hD hI (k_X6_book l hL1 hI.1 h.1 (IV_ok h) _ _ _) (cwV 3 C.2.2.2.2.1 gL_class1_X6_book rfl rfl rfl kdV_X6_book ⟨Nat.le_of_ble_eq_true rfl, Nat.le_of_ble_eq_true rfl⟩) rfl rfl (Nat.le_of_ble_eq_true rfl) ⟨Nat.le_of_ble_eq_true rfl, Nat.le_of_ble_eq_true rfl⟩ dL_class1_196 (fun f_17 hI_17 => ?_)
            obtain ⟨hv_196, hJ_196⟩ := L_book_no h hz hp (lo_lt _ (by decide)) (lo_lt _ (by decide)) (Or.inl c_174)
            refine gx_top (-5) hv_196 ?_
            refine gx_bipush (v := (-5)) C dL_class1_199 (by decide) ?_
            refine gx_icmp_ne (tgt := 235) C dL_class1_201 (by decide) (fun c_201 => ?_) (fun c_201 => ?_)
            exact absurd (by decide) c_201
            refine gx_aload_n (q := 4) C dL_class1_204 rfl ?_
            refine gx_iload (q := 2) C dL_class1_205 rfl ?_
            refine gx_iconst (v := 5) C dL_class1_207 (by decide) ?_
            refine gx_iconst (v := 0) C dL_class1_208 (by decide) ?_
            refine gx_callF C hD hI_17 (k_X6_book l hL1 hI_17.1 hJ_196.1 (IV_ok hJ_196) _ _ _) (cwV 3 C.2.2.2.2.1 gL_class1_X6_book rfl rfl rfl kdV_X6_book ⟨Nat.le_of_ble_eq_true rfl, Nat.le_of_ble_eq_true rfl⟩) rfl rfl (Nat.le_of_ble_eq_true rfl) ⟨Nat.le_of_ble_eq_true rfl, Nat.le_of_ble_eq_true rfl⟩ dL_class1_209 (fun f_18 hI_18 => ?_)
            obtain ⟨hv_209, hJ_209⟩ := L_book_w5 hJ_196 hz hp
            refine gx_top (-1) hv_209 ?_
            refine gx_iconst (v := (-1)) C dL_class1_212 (by decide) ?_
            refine gx_icmp_ne (tgt := 235) C dL_class1_213 (by decide) (fun c_213 => ?_) (fun c_213 => ?_)
            exact absurd (by decide) c_213
            refine gx_aload_n (q := 4) C dL_class1_216 rfl ?_
            refine gx_iload (q := 2) C dL_class1_217 rfl ?_
            refine gx_iload (q := 0) C dL_class1_219 rfl ?_
            refine gx_bipush (v := 21) C dL_class1_221 (by decide) ?_
            refine gx_callF C hD hI_18 (k_X6_book l hL1 hI_18.1 hJ_209.1 (IV_ok hJ_209) _ _ _) (cwV 3 C.2.2.2.2.1 gL_class1_X6_book rfl rfl rfl kdV_X6_book ⟨Nat.le_of_ble_eq_true rfl, Nat.le_of_ble_eq_true rfl⟩) rfl rfl (Nat.le_of_ble_eq_true rfl) ⟨Nat.le_of_ble_eq_true rfl, Nat.le_of_ble_eq_true rfl⟩ dL_class1_223 (fun f_19 hI_19 => ?_)
            obtain ⟨hv_223, hJ_223⟩ := L_book_a21 hJ_209 hz hp (lo_lt _ (by decide))
            refine gx_top (-2) hv_223 ?_
            refine gx_bipush (v := (-2)) C dL_class1_226 (by decide) ?_
            refine gx_icmp_ne (tgt := 235) C dL_class1_228 (by decide) (fun c_228 => ?_) (fun c_228 => ?_)
            exact absurd (by decide) c_228
            refine gx_iconst (v := 1) C dL_class1_231 (by decide) ?_
            refine gx_goto (tgt := 236) C dL_class1_232 (by decide) ?_
            exact gx_zretL C hr dL_class1_236 rfl ⟨rfl, _, _, _, hI_19, IV_m hJ_223 (Nat.le_succ _)⟩
          · skip
            refine gx_iload (q := 2) C dL_class1_177 rfl ?_
            refine gx_iload (q := 1) C dL_class1_179 rfl ?_
            refine gx_aload (q := 9) C dL_class1_181 rfl ?_
            refine gx_callRS C (k_L_wheel l (lw_mk hI) (lw_ek hI) (nI (lo yv pk)) (lo (yv >>> (3 &&& 31)) 6) (by omega)) (va_cwS 3 C.2.2.2.2.1 gL_class1_L_wheel rfl rfl rfl kdN_L_wheel ⟨Nat.le_of_ble_eq_true rfl, Nat.le_of_ble_eq_true rfl⟩) rfl rfl (Nat.le_of_ble_eq_true rfl) ⟨Nat.le_of_ble_eq_true rfl, Nat.le_of_ble_eq_true rfl⟩ dL_class1_183 ?_
            refine gx_if_lt (tgt := 237) C dL_class1_186 (by decide) (fun c_186 => ?_) (fun c_186 => ?_)
            · skip
              refine gx_aload (q := 9) C dL_class1_237 rfl ?_
              refine gx_bipush (v := 6) C dL_class1_239 (by decide) ?_
              refine gx_iload (q := 0) C dL_class1_241 rfl ?_
              refine gx_imul C dL_class1_243 ?_
              refine gx_iload (q := 1) C dL_class1_244 rfl ?_
              refine gx_iadd C dL_class1_246 ?_
              refine gx_iload (q := 2) C dL_class1_247 rfl ?_
              refine gx_iconst (v := 1) C dL_class1_249 (by decide) ?_
              refine gx_iadd C dL_class1_250 ?_
              refine gx_iastN C hD (lw_mk hI) (lw_ek hI) (nAdd (nMul (nLit 6) rfl) rfl) (by omega) (by decide) dL_class1_251 ?_
              refine gx_Lk hI (fun f_20 hI_20 => ?_)
              refine gx_aload_n (q := 4) C dL_class1_252 rfl ?_
              refine gx_iload (q := 2) C dL_class1_253 rfl ?_
              refine gx_iload (q := 0) C dL_class1_255 rfl ?_
              refine gx_iload (q := 1) C dL_class1_257 rfl ?_
              refine gx_callF C hD hI_20 (k_X6_book l hL1 hI_20.1 h.1 (IV_ok h) _ _ _) (cwV 3 C.2.2.2.2.1 gL_class1_X6_book rfl rfl rfl kdV_X6_book ⟨Nat.le_of_ble_eq_true rfl, Nat.le_of_ble_eq_true rfl⟩) rfl rfl (Nat.le_of_ble_eq_true rfl) ⟨Nat.le_of_ble_eq_true rfl, Nat.le_of_ble_eq_true rfl⟩ dL_class1_259 (fun f_21 hI_21 => ?_)
              obtain ⟨hv_259, zr_259, hJ_259⟩ := L_book h hz hp (lo_lt _ (by decide)) (lo_lt _ (by decide)) c_174 c_186
              refine gx_aload_n (q := 7) C dL_class1_262 rfl ?_
              refine gx_iconst (v := 0) C dL_class1_263 (by decide) ?_
              refine gx_ialdN C (lw_mg hI_21) (lw_eg hI_21) (nLit 0) (by omega) (by decide) dL_class1_264 ?_
              refine gx_iload (q := 1) C dL_class1_265 rfl ?_
              refine gx_iadd C dL_class1_267 ?_
              refine gx_icmp_ne (tgt := 275) C dL_class1_268 (by decide) (fun c_268 => ?_) (fun c_268 => ?_)
              · skip
                exact absurd hv_259 c_268
              · skip
                refine gx_iconst (v := 1) C dL_class1_271 (by decide) ?_
                refine gx_goto (tgt := 276) C dL_class1_272 (by decide) ?_
                exact gx_zretL C hr dL_class1_276 rfl ⟨rfl, _, _, _, hI_21, hJ_259⟩
            · skip
              refine gx_aload_n (q := 4) C dL_class1_189 rfl ?_
              refine gx_iload (q := 2) C dL_class1_190 rfl ?_
              refine gx_iload (q := 0) C dL_class1_192 rfl ?_
              refine gx_iload (q := 1) C dL_class1_194 rfl ?_
              refine gx_callF C hD hI (k_X6_book l hL1 hI.1 h.1 (IV_ok h) _ _ _) (cwV 3 C.2.2.2.2.1 gL_class1_X6_book rfl rfl rfl kdV_X6_book ⟨Nat.le_of_ble_eq_true rfl, Nat.le_of_ble_eq_true rfl⟩) rfl rfl (Nat.le_of_ble_eq_true rfl) ⟨Nat.le_of_ble_eq_true rfl, Nat.le_of_ble_eq_true rfl⟩ dL_class1_196 (fun f_22 hI_22 => ?_)
              obtain ⟨hv_196, hJ_196⟩ := L_book_no h hz hp (lo_lt _ (by decide)) (lo_lt _ (by decide)) (Or.inr c_186)
              refine gx_top (-5) hv_196 ?_
              refine gx_bipush (v := (-5)) C dL_class1_199 (by decide) ?_
              refine gx_icmp_ne (tgt := 235) C dL_class1_201 (by decide) (fun c_201 => ?_) (fun c_201 => ?_)
              exact absurd (by decide) c_201
              refine gx_aload_n (q := 4) C dL_class1_204 rfl ?_
              refine gx_iload (q := 2) C dL_class1_205 rfl ?_
              refine gx_iconst (v := 5) C dL_class1_207 (by decide) ?_
              refine gx_iconst (v := 0) C dL_class1_208 (by decide) ?_
              refine gx_callF C hD hI_22 (k_X6_book l hL1 hI_22.1 hJ_196.1 (IV_ok hJ_196) _ _ _) (cwV 3 C.2.2.2.2.1 gL_class1_X6_book rfl rfl rfl kdV_X6_book ⟨Nat.le_of_ble_eq_true rfl, Nat.le_of_ble_eq_true rfl⟩) rfl rfl (Nat.le_of_ble_eq_true rfl) ⟨Nat.le_of_ble_eq_true rfl, Nat.le_of_ble_eq_true rfl⟩ dL_class1_209 (fun f_23 hI_23 => ?_)
              obtain ⟨hv_209, hJ_209⟩ := L_book_w5 hJ_196 hz hp
              refine gx_top (-1) hv_209 ?_
              refine gx_iconst (v := (-1)) C dL_class1_212 (by decide) ?_
              refine gx_icmp_ne (tgt := 235) C dL_class1_213 (by decide) (fun c_213 => ?_) (fun c_213 => ?_)
              exact absurd (by decide) c_213
              refine gx_aload_n (q := 4) C dL_class1_216 rfl ?_
              refine gx_iload (q := 2) C dL_class1_217 rfl ?_
              refine gx_iload (q := 0) C dL_class1_219 rfl ?_
              refine gx_bipush (v := 21) C dL_class1_221 (by decide) ?_
              refine gx_callF C hD hI_23 (k_X6_book l hL1 hI_23.1 hJ_209.1 (IV_ok hJ_209) _ _ _) (cwV 3 C.2.2.2.2.1 gL_class1_X6_book rfl rfl rfl kdV_X6_book ⟨Nat.le_of_ble_eq_true rfl, Nat.le_of_ble_eq_true rfl⟩) rfl rfl (Nat.le_of_ble_eq_true rfl) ⟨Nat.le_of_ble_eq_true rfl, Nat.le_of_ble_eq_true rfl⟩ dL_class1_223 (fun f_24 hI_24 => ?_)
              obtain ⟨hv_223, hJ_223⟩ := L_book_a21 hJ_209 hz hp (lo_lt _ (by decide))
              refine gx_top (-2) hv_223 ?_
              refine gx_bipush (v := (-2)) C dL_class1_226 (by decide) ?_
              refine gx_icmp_ne (tgt := 235) C dL_class1_228 (by decide) (fun c_228 => ?_) (fun c_228 => ?_)
              exact absurd (by decide) c_228
              refine gx_iconst (v := 1) C dL_class1_231 (by decide) ?_
              refine gx_goto (tgt := 236) C dL_class1_232 (by decide) ?_
              exact gx_zretL C hr dL_class1_236 rfl ⟨rfl, _, _, _, hI_24, IV_m hJ_223 (Nat.le_succ _)⟩
      · skip
        refine gx_aload_n (q := 2) C dL_class1_95 rfl ?_
        refine gx_iload (q := 0) C dL_class1_96 rfl ?_
        refine gx_iconst (v := 0) C dL_class1_98 (by decide) ?_
        refine gx_bipush (v := 21) C dL_class1_99 (by decide) ?_
        refine gx_callF C hD hI (k_X6_book l hL1 hI.1 h.1 (IV_ok h) _ _ _) (cwV 3 C.2.2.2.2.1 gL_class1_X6_book rfl rfl rfl kdV_X6_book ⟨Nat.le_of_ble_eq_true rfl, Nat.le_of_ble_eq_true rfl⟩) rfl rfl (Nat.le_of_ble_eq_true rfl) ⟨Nat.le_of_ble_eq_true rfl, Nat.le_of_ble_eq_true rfl⟩ dL_class1_101 (fun f_25 hI_25 => ?_)
        obtain ⟨hv_101, hJ_101⟩ := N_book h hz hu c_92
        refine gx_top (-1) hv_101 ?_
        refine gx_iconst (v := (-1)) C dL_class1_104 (by decide) ?_
        refine gx_icmp_ne (tgt := 135) C dL_class1_105 (by decide) (fun c_105 => ?_) (fun c_105 => ?_)
        exact absurd (by decide) c_105
        refine gx_aload_n (q := 2) C dL_class1_108 rfl ?_
        refine gx_iload (q := 0) C dL_class1_109 rfl ?_
        refine gx_iconst (v := 0) C dL_class1_111 (by decide) ?_
        refine gx_callF C hD hI_25 (k_X6_throwPot l hL1 hI_25.1 hJ_101.1 (IV_ok hJ_101) _ _) (cwV 2 C.2.2.2.2.1 gL_class1_X6_throwPot rfl rfl rfl kdV_X6_throwPot ⟨Nat.le_of_ble_eq_true rfl, Nat.le_of_ble_eq_true rfl⟩) rfl rfl (Nat.le_of_ble_eq_true rfl) ⟨Nat.le_of_ble_eq_true rfl, Nat.le_of_ble_eq_true rfl⟩ dL_class1_112 (fun f_26 hI_26 => ?_)
        obtain ⟨hv_112, hJ_112⟩ := N_throw hJ_101 hz hu c_92
        refine gx_top (-1) hv_112 ?_
        refine gx_iconst (v := (-1)) C dL_class1_115 (by decide) ?_
        refine gx_icmp_ne (tgt := 135) C dL_class1_116 (by decide) (fun c_116 => ?_) (fun c_116 => ?_)
        exact absurd (by decide) c_116
        refine gx_aload_n (q := 2) C dL_class1_119 rfl ?_
        refine gx_iload (q := 0) C dL_class1_120 rfl ?_
        refine gx_bipush (v := 21) C dL_class1_122 (by decide) ?_
        refine gx_callF C hD hI_26 (k_X6_giveBack l hL1 hI_26.1 hJ_112.1 (IV_ok hJ_112) _ _) (cwV 2 C.2.2.2.2.1 gL_class1_X6_giveBack rfl rfl rfl kdV_X6_giveBack ⟨Nat.le_of_ble_eq_true rfl, Nat.le_of_ble_eq_true rfl⟩) rfl rfl (Nat.le_of_ble_eq_true rfl) ⟨Nat.le_of_ble_eq_true rfl, Nat.le_of_ble_eq_true rfl⟩ dL_class1_124 (fun f_27 hI_27 => ?_)
        obtain ⟨hv_124, hJ_124⟩ := N_give hJ_112 hz hu c_92
        refine gx_top (-1) hv_124 ?_
        refine gx_iconst (v := (-1)) C dL_class1_127 (by decide) ?_
        refine gx_icmp_ne (tgt := 135) C dL_class1_128 (by decide) (fun c_128 => ?_) (fun c_128 => ?_)
        exact absurd (by decide) c_128
        refine gx_iconst (v := 1) C dL_class1_131 (by decide) ?_
        refine gx_goto (tgt := 136) C dL_class1_132 (by decide) ?_
        exact gx_zretL C hr dL_class1_136 rfl ⟨rfl, _, _, _, hI_27, IV_m hJ_124 (Nat.le_succ _)⟩
    · skip
      refine gx_aload_n (q := 5) C dL_class1_35 rfl ?_
      refine gx_bipush (v := 6) C dL_class1_36 (by decide) ?_
      refine gx_ialdN C (lw_mg hI) (lw_eg hI) (nLit 6) (by omega) (by decide) dL_class1_38 ?_
      refine gx_bipush (v := 10) C dL_class1_39 (by decide) ?_
      refine gx_icmp_ne (tgt := 59) C dL_class1_41 (by decide) (fun c_41 => ?_) (fun c_41 => ?_)
      · skip
        refine gx_aload_n (q := 5) C dL_class1_59 rfl ?_
        refine gx_bipush (v := 6) C dL_class1_60 (by decide) ?_
        refine gx_dup2 C dL_class1_62 rfl rfl ?_
        refine gx_ialdN C (lw_mg hI) (lw_eg hI) (nLit 6) (by omega) (by decide) dL_class1_63 ?_
        refine gx_iconst (v := 1) C dL_class1_64 (by decide) ?_
        refine gx_iadd C dL_class1_65 ?_
        refine gx_iastN C hD (lw_mg hI) (lw_eg hI) (nLit 6) (by omega) (by decide) dL_class1_66 ?_
        refine gx_Lg hI (fun f_28 hI_28 => ?_)
        refine gx_aload_n (q := 2) C dL_class1_67 rfl ?_
        refine gx_callF C hD hI_28 (k_X6_pupil l hL1 hI_28.1 h.1 (IV_ok h) ) (cwV 0 C.2.2.2.2.1 gL_class1_X6_pupil rfl rfl rfl kdV_X6_pupil ⟨Nat.le_of_ble_eq_true rfl, Nat.le_of_ble_eq_true rfl⟩) rfl rfl (Nat.le_of_ble_eq_true rfl) ⟨Nat.le_of_ble_eq_true rfl, Nat.le_of_ble_eq_true rfl⟩ dL_class1_68 (fun f_29 hI_29 => ?_)
        obtain ⟨hv_68, zr_68, hJ_68⟩ := L_pupil h c_41
        refine gx_aload_n (q := 5) C dL_class1_71 rfl ?_
        refine gx_bipush (v := 6) C dL_class1_72 (by decide) ?_
        refine gx_ialdN C (lw_mg hI_29) (lw_eg hI_29) (nLit 6) (by omega) (by decide) dL_class1_74 ?_
        refine gx_iconst (v := 1) C dL_class1_75 (by decide) ?_
        refine gx_isub C dL_class1_76 ?_
        refine gx_icmp_ne (tgt := 84) C dL_class1_77 (by decide) (fun c_77 => ?_) (fun c_77 => ?_)
        · skip
          exact absurd (hv_68.trans (show z.1 6 + 1 - 1 = upd z.1 6 (z.1 6 + 1) 6 - 1 by rw [upd_s])) c_77
        · skip
          refine gx_iconst (v := 1) C dL_class1_80 (by decide) ?_
          refine gx_goto (tgt := 85) C dL_class1_81 (by decide) ?_
          exact gx_zretL C hr dL_class1_85 rfl ⟨rfl, _, _, _, hI_29, hJ_68⟩
      · skip
        refine gx_aload_n (q := 2) C dL_class1_44 rfl ?_
        refine gx_callF C hD hI (k_X6_pupil l hL1 hI.1 h.1 (IV_ok h) ) (cwV 0 C.2.2.2.2.1 gL_class1_X6_pupil rfl rfl rfl kdV_X6_pupil ⟨Nat.le_of_ble_eq_true rfl, Nat.le_of_ble_eq_true rfl⟩) rfl rfl (Nat.le_of_ble_eq_true rfl) ⟨Nat.le_of_ble_eq_true rfl, Nat.le_of_ble_eq_true rfl⟩ dL_class1_45 (fun f_30 hI_30 => ?_)
        obtain ⟨hv_45, hJ_45⟩ := L_pupil_no h c_41
        refine gx_top (-4) hv_45 ?_
        refine gx_bipush (v := (-4)) C dL_class1_48 (by decide) ?_
        refine gx_icmp_ne (tgt := 57) C dL_class1_50 (by decide) (fun c_50 => ?_) (fun c_50 => ?_)
        exact absurd (by decide) c_50
        refine gx_iconst (v := 1) C dL_class1_53 (by decide) ?_
        refine gx_goto (tgt := 58) C dL_class1_54 (by decide) ?_
        exact gx_zretL C hr dL_class1_58 rfl ⟨rfl, _, _, _, hI_30, IV_m hJ_45 (Nat.le_succ _)⟩
  refine gx_iload_n (q := 3) C dL_class1_9 rfl ?_
  refine gx_bipush (v := 8) C dL_class1_10 (by decide) ?_
  refine gx_ishr C dL_class1_12 ?_
  refine gx_bipush (v := 7) C dL_class1_13 (by decide) ?_
  refine gx_iand C dL_class1_15 ?_
  refine gx_if_ne (tgt := 24) C dL_class1_16 (by decide) (fun c_16 => ?_) (fun c_16 => ?_)
  · skip
    refine gx_iconst (v := 3) C dL_class1_24 (by decide) ?_
    exact jj_9 _ ((if_neg c_16).trans (rfl)).symm
  · skip
    refine gx_bipush (v := 10) C dL_class1_19 (by decide) ?_
    refine gx_goto (tgt := 25) C dL_class1_21 (by decide) ?_
    exact jj_9 _ ((if_pos c_16).trans (rfl)).symm
