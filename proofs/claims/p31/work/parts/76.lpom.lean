/-! the law's pots -/
theorem kdN_L_pots : yL_pots.cls ≠ "java/lang/invoke/MethodHandle" ∧ yL_pots.cls ≠ "java/lang/invoke/VarHandle" ∧ (parseMethodDescriptor yL_pots.desc).map (fun d => d.parameters.length) = some 6 := by decide +kernel
theorem kdV_L_pots : yL_pots.cls = RL ∧ yL_pots.cls ≠ "java/lang/invoke/MethodHandle" ∧ yL_pots.cls ≠ "java/lang/invoke/VarHandle" ∧ (parseMethodDescriptor yL_pots.desc).map (fun d => d.parameters.length) = some 6 := ⟨rfl, kdN_L_pots⟩
abbrev rmL_pots : Room := { frames := 6, cells := 0, slots := 0, locals := 147 }
set_option maxHeartbeats 4000000 in
set_option maxRecDepth 100000 in
theorem k_L_pots (l : Launch) {k : gK} {f : Nat → va_E} {L1 L2 : List Nat} {AA : Nat → Nat} {q : PS} {B : Nat → Nat} {z : ZS} (hL : (L1 ++ L2).Nodup) (hI : isLW k L1 L2 f AA q B z) {J n np nt x0 : Nat} {zr : Nat → Int32} (h : IV J q zr z) (hz : LZn J n np nt x0 zr z) (hJ : J ≤ 100) (xv : Int32) (yv : Int32) (hJ6 : J ≤ 60) : kM l k (L1 ++ L2) f yL_pots wsL_pots rmL_pots [.ref (AA 0), .int xv, .int yv, .ref (B 0), .ref (B 1), .ref (B 3)] (fun v f2 => v = some (.int 1) ∧ ∃ q2 z2 zr2, isLW k L1 L2 f2 AA q2 B z2 ∧ IV (J + 1) q2 zr2 z2) := by
  refine kM_of (cc := cL_pots) (maxL := 14) (ret := (some .boolean)) (by decide) rfl (Nat.le_of_ble_eq_true rfl) ?_
  intro p e s m args below meth c C hr
  have hD : gD (fun q => q ∈ L1 ++ L2) (L1 ++ L2) := ⟨hL, fun _ h => h⟩
  have hL1 : L1.Nodup := (List.nodup_append.mp hL).1
  have hn : z.1 7 = nI n := (hz.2.2.1 7 (by decide)).trans hz.2.1.1
  have hn2 : n ≤ 20 := hz.1.1
  have hnp : z.1 6 = nI np := (hz.2.2.1 6 (by decide)).trans hz.2.1.2.1
  have hnp2 : np ≤ 10 := hz.1.2.1
  obtain ⟨hk, hk1, hk2, ehk⟩ : ∃ hk : Nat, 1 ≤ hk ∧ hk ≤ 61 ∧ (if ((yv >>> (4 &&& 31)) &&& 1) = 0 then 61 else 42 : Int32) = nI hk := by
    split
    · exact ⟨61, by decide, by decide, rfl⟩
    · exact ⟨42, by decide, by decide, rfl⟩
  have hht := lo_lt (yv >>> (5 &&& 31)) hk1
  have hgl := lo_lt (yv >>> (5 &&& 31)) (n := 4) (by decide)
  have hpa := lo_lt (yv >>> (7 &&& 31)) (n := 99) (by decide)
  obtain ⟨pl, hpl, epl, epz⟩ := lFree_n hz
  refine gx_lv [(0, _), (1, _), (2, _), (3, _), (4, _), (5, _)] [0, 1, 2, 3, 4, 5] rfl ?_
  refine gx_iload_n (q := 1) C dL_pots_0 rfl ?_
  refine gx_bipush (v := 12) C dL_pots_1 (by decide) ?_
  refine gx_callRS C (k_L_low l xv 12 (by first | decide | omega) (by first | decide | omega)) (va_cwS 2 C.2.2.2.2.1 gL_pots_L_low rfl rfl rfl kdN_L_low ⟨Nat.le_of_ble_eq_true rfl, Nat.le_of_ble_eq_true rfl⟩) rfl rfl (Nat.le_of_ble_eq_true rfl) ⟨Nat.le_of_ble_eq_true rfl, Nat.le_of_ble_eq_true rfl⟩ dL_pots_3 ?_
  refine gx_istore C [(6, _), (0, _), (1, _), (2, _), (3, _), (4, _), (5, _)] dL_pots_6 (by decide) rfl ?_
  refine gx_aload_n (q := 4) C dL_pots_8 rfl ?_
  refine gx_bipush (v := 7) C dL_pots_9 (by decide) ?_
  refine gx_ialdN C (lw_mg hI) (lw_eg hI) (nLit 7) (by omega) (by decide) dL_pots_11 ?_
  refine gx_if_ne (tgt := 80) C dL_pots_12 (by decide) (fun c_12 => ?_) (fun c_12 => ?_)
  · skip
    have hn0 : 0 < n := by
      rcases Nat.eq_zero_or_pos n with e | e
      · exact absurd (hn.trans (by rw [e]; rfl)) c_12
      · exact e
    have hq : lo yv n < n := lo_lt yv hn0
    obtain ⟨pu0, hpu0, epu, epz0⟩ := pu_n h hz hq
    refine gx_iload_n (q := 3) C dL_pots_80 rfl ?_
    refine gx_aload_n (q := 4) C dL_pots_81 rfl ?_
    refine gx_bipush (v := 7) C dL_pots_82 (by decide) ?_
    refine gx_ialdN C (lw_mg hI) (lw_eg hI) (nLit 7) (by omega) (by decide) dL_pots_84 ?_
    refine gx_top (nI n) hn ?_
    refine gx_callRS C (k_L_low l yv n (by first | decide | omega) (by first | decide | omega)) (va_cwS 2 C.2.2.2.2.1 gL_pots_L_low rfl rfl rfl kdN_L_low ⟨Nat.le_of_ble_eq_true rfl, Nat.le_of_ble_eq_true rfl⟩) rfl rfl (Nat.le_of_ble_eq_true rfl) ⟨Nat.le_of_ble_eq_true rfl, Nat.le_of_ble_eq_true rfl⟩ dL_pots_85 ?_
    refine gx_istore C [(7, _), (6, _), (0, _), (1, _), (2, _), (3, _), (4, _), (5, _)] dL_pots_88 (by decide) rfl ?_
    refine gx_iload (q := 1) C dL_pots_90 rfl ?_
    refine gx_iconst (v := 5) C dL_pots_92 (by decide) ?_
    refine gx_icmp_ge (tgt := 176) C dL_pots_93 (by decide) (fun c_93 => ?_) (fun c_93 => ?_)
    · skip
      refine gx_iload (q := 1) C dL_pots_176 rfl ?_
      refine gx_iconst (v := 5) C dL_pots_178 (by decide) ?_
      refine gx_icmp_ne (tgt := 257) C dL_pots_179 (by decide) (fun c_179 => ?_) (fun c_179 => ?_)
      · skip
        refine gx_iload (q := 1) C dL_pots_257 rfl ?_
        refine gx_bipush (v := 8) C dL_pots_259 (by decide) ?_
        refine gx_icmp_ge (tgt := 532) C dL_pots_261 (by decide) (fun c_261 => ?_) (fun c_261 => ?_)
        · skip
          refine gx_iload (q := 1) C dL_pots_532 rfl ?_
          refine gx_bipush (v := 10) C dL_pots_534 (by decide) ?_
          refine gx_icmp_ge (tgt := 688) C dL_pots_536 (by decide) (fun c_536 => ?_) (fun c_536 => ?_)
          · skip
            refine gx_iload (q := 1) C dL_pots_688 rfl ?_
            refine gx_bipush (v := 10) C dL_pots_690 (by decide) ?_
            refine gx_icmp_ne (tgt := 800) C dL_pots_692 (by decide) (fun c_692 => ?_) (fun c_692 => ?_)
            · skip
              refine gx_aload (q := 6) C dL_pots_800 rfl ?_
              refine gx_iload (q := 0) C dL_pots_802 rfl ?_
              refine gx_laldN C (lw_mb hI) (lw_eb hI) rfl (by omega) (by decide) dL_pots_804 ?_
              refine gx_iconst (v := 3) C dL_pots_805 (by decide) ?_
              refine gx_callRS C (k_L_part l (z.2.1 (lo yv n)) 3) (va_cwS 2 C.2.2.2.2.1 gL_pots_L_part rfl rfl rfl kdN_L_part ⟨Nat.le_of_ble_eq_true rfl, Nat.le_of_ble_eq_true rfl⟩) rfl rfl (Nat.le_of_ble_eq_true rfl) ⟨Nat.le_of_ble_eq_true rfl, Nat.le_of_ble_eq_true rfl⟩ dL_pots_806 ?_
              refine gx_iconst (v := 3) C dL_pots_809 (by decide) ?_
              refine gx_icmp_ne (tgt := 827) C dL_pots_810 (by decide) (fun c_810 => ?_) (fun c_810 => ?_)
              · skip
                refine gx_aload_n (q := 2) C dL_pots_827 rfl ?_
                refine gx_iload (q := 0) C dL_pots_828 rfl ?_
                refine gx_callF C hD hI (k_X6_takeHome l hL1 hI.1 h.1 (IV_ok h) _) (cwV 1 C.2.2.2.2.1 gL_pots_X6_takeHome rfl rfl rfl kdV_X6_takeHome ⟨Nat.le_of_ble_eq_true rfl, Nat.le_of_ble_eq_true rfl⟩) rfl rfl (Nat.le_of_ble_eq_true rfl) ⟨Nat.le_of_ble_eq_true rfl, Nat.le_of_ble_eq_true rfl⟩ dL_pots_830 (fun f_1 hI_1 => ?_)
                obtain ⟨hv_830, hJ_830⟩ := home_no h hz hq (Or.inl c_810)
                refine gx_top (-5) hv_830 ?_
                refine gx_bipush (v := (-5)) C dL_pots_833 (by decide) ?_
                refine gx_icmp_ne (tgt := 842) C dL_pots_835 (by decide) (fun c_835 => ?_) (fun c_835 => ?_)
                exact absurd (by decide) c_835
                refine gx_iconst (v := 1) C dL_pots_838 (by decide) ?_
                refine gx_goto (tgt := 843) C dL_pots_839 (by decide) ?_
                exact gx_zretL C hr dL_pots_843 rfl ⟨rfl, _, _, _, hI_1, IV_m hJ_830 (Nat.le_succ _)⟩
              · skip
                refine gx_aload (q := 6) C dL_pots_813 rfl ?_
                refine gx_iload (q := 0) C dL_pots_815 rfl ?_
                refine gx_laldN C (lw_mb hI) (lw_eb hI) rfl (by omega) (by decide) dL_pots_817 ?_
                refine gx_iconst (v := 4) C dL_pots_818 (by decide) ?_
                refine gx_callRS C (k_L_part l (z.2.1 (lo yv n)) 4) (va_cwS 2 C.2.2.2.2.1 gL_pots_L_part rfl rfl rfl kdN_L_part ⟨Nat.le_of_ble_eq_true rfl, Nat.le_of_ble_eq_true rfl⟩) rfl rfl (Nat.le_of_ble_eq_true rfl) ⟨Nat.le_of_ble_eq_true rfl, Nat.le_of_ble_eq_true rfl⟩ dL_pots_819 ?_
                refine gx_bipush (v := 23) C dL_pots_822 (by decide) ?_
                refine gx_icmp_le (tgt := 844) C dL_pots_824 (by decide) (fun c_824 => ?_) (fun c_824 => ?_)
                · skip
                  refine gx_aload_n (q := 5) C dL_pots_844 rfl ?_
                  refine gx_iconst (v := 5) C dL_pots_845 (by decide) ?_
                  refine gx_ialdN C (lw_mg hI) (lw_eg hI) (nLit 5) (by omega) (by decide) dL_pots_846 ?_
                  refine gx_aload (q := 6) C dL_pots_847 rfl ?_
                  refine gx_iload (q := 0) C dL_pots_849 rfl ?_
                  refine gx_laldN C (lw_mb hI) (lw_eb hI) rfl (by omega) (by decide) dL_pots_851 ?_
                  refine gx_iconst (v := 1) C dL_pots_852 (by decide) ?_
                  refine gx_callRS C (k_L_part l (z.2.1 (lo yv n)) 1) (va_cwS 2 C.2.2.2.2.1 gL_pots_L_part rfl rfl rfl kdN_L_part ⟨Nat.le_of_ble_eq_true rfl, Nat.le_of_ble_eq_true rfl⟩) rfl rfl (Nat.le_of_ble_eq_true rfl) ⟨Nat.le_of_ble_eq_true rfl, Nat.le_of_ble_eq_true rfl⟩ dL_pots_853 ?_
                  refine gx_imul C dL_pots_856 ?_
                  refine gx_istore C [(8, _), (7, _), (6, _), (0, _), (1, _), (2, _), (3, _), (4, _), (5, _)] dL_pots_857 (by decide) rfl ?_
                  refine gx_aload (q := 7) C dL_pots_859 rfl ?_
                  refine gx_iload (q := 1) C dL_pots_861 rfl ?_
                  refine gx_aload (q := 7) C dL_pots_863 rfl ?_
                  refine gx_iload (q := 1) C dL_pots_865 rfl ?_
                  refine gx_laldN C (lw_mb hI) (lw_eb hI) rfl (by omega) (by decide) dL_pots_867 ?_
                  refine gx_iconst (v := 4) C dL_pots_868 (by decide) ?_
                  refine gx_bipush (v := 25) C dL_pots_869 (by decide) ?_
                  refine gx_callRS C (k_L_with l (z.2.1 (lo yv n)) 4 25) (va_cwS 3 C.2.2.2.2.1 gL_pots_L_with rfl rfl rfl kdN_L_with ⟨Nat.le_of_ble_eq_true rfl, Nat.le_of_ble_eq_true rfl⟩) rfl rfl (Nat.le_of_ble_eq_true rfl) ⟨Nat.le_of_ble_eq_true rfl, Nat.le_of_ble_eq_true rfl⟩ dL_pots_871 ?_
                  refine gx_lastN C hD (lw_mb hI) (lw_eb hI) rfl (by omega) (by decide) dL_pots_874 ?_
                  refine gx_Lb hI (fun f_2 hI_2 => ?_)
                  refine gx_aload (q := 8) C dL_pots_875 rfl ?_
                  refine gx_iconst (v := 2) C dL_pots_877 (by decide) ?_
                  refine gx_aload (q := 7) C dL_pots_878 rfl ?_
                  refine gx_iload (q := 1) C dL_pots_880 rfl ?_
                  refine gx_laldN C (lw_mb hI_2) (lw_eb hI_2) rfl (by omega) (by decide) dL_pots_882 ?_
                  refine gx_topl (wt (z.2.1 (lo yv n)) 4 25) pk_uLs ?_
                  refine gx_iconst (v := 0) C dL_pots_883 (by decide) ?_
                  refine gx_callRS C (k_L_part l (wt (z.2.1 (lo yv n)) 4 25) 0) (va_cwS 2 C.2.2.2.2.1 gL_pots_L_part rfl rfl rfl kdN_L_part ⟨Nat.le_of_ble_eq_true rfl, Nat.le_of_ble_eq_true rfl⟩) rfl rfl (Nat.le_of_ble_eq_true rfl) ⟨Nat.le_of_ble_eq_true rfl, Nat.le_of_ble_eq_true rfl⟩ dL_pots_884 ?_
                  refine gx_top (nI pu0) (((pw4 _ (c := 25) (by decide)).2 0 (by decide) (by decide)).trans epu) ?_
                  refine gx_imul C dL_pots_887 ?_
                  refine gx_iconst (v := 1) C dL_pots_888 (by decide) ?_
                  refine gx_iadd C dL_pots_889 ?_
                  refine gx_dup2 C dL_pots_890 rfl rfl ?_
                  refine gx_ialdN C (lw_mt hI_2) (lw_et hI_2) (nAdd (nMul (nLit 2) rfl) (nLit 1)) (by omega) (by decide) dL_pots_891 ?_
                  refine gx_iload (q := 0) C dL_pots_892 rfl ?_
                  refine gx_iadd C dL_pots_894 ?_
                  refine gx_iastN C hD (lw_mt hI_2) (lw_et hI_2) (nAdd (nMul (nLit 2) rfl) (nLit 1)) (by omega) (by decide) dL_pots_895 ?_
                  refine gx_Lt hI_2 (fun f_3 hI_3 => ?_)
                  refine gx_aload_n (q := 6) C dL_pots_896 rfl ?_
                  refine gx_bipush (v := 10) C dL_pots_897 (by decide) ?_
                  refine gx_dup2 C dL_pots_899 rfl rfl ?_
                  refine gx_ialdN C (lw_mg hI_3) (lw_eg hI_3) (nLit 10) (by omega) (by decide) dL_pots_900 ?_
                  refine gx_iload (q := 0) C dL_pots_901 rfl ?_
                  refine gx_iadd C dL_pots_903 ?_
                  refine gx_iastN C hD (lw_mg hI_3) (lw_eg hI_3) (nLit 10) (by omega) (by decide) dL_pots_904 ?_
                  refine gx_Lg hI_3 (fun f_4 hI_4 => ?_)
                  refine gx_aload_n (q := 3) C dL_pots_905 rfl ?_
                  refine gx_iload (q := 1) C dL_pots_906 rfl ?_
                  refine gx_callF C hD hI_4 (k_X6_takeHome l hL1 hI_4.1 h.1 (IV_ok h) _) (cwV 1 C.2.2.2.2.1 gL_pots_X6_takeHome rfl rfl rfl kdV_X6_takeHome ⟨Nat.le_of_ble_eq_true rfl, Nat.le_of_ble_eq_true rfl⟩) rfl rfl (Nat.le_of_ble_eq_true rfl) ⟨Nat.le_of_ble_eq_true rfl, Nat.le_of_ble_eq_true rfl⟩ dL_pots_908 (fun f_5 hI_5 => ?_)
                  obtain ⟨hv_908, zr_908, hJ_908⟩ := home_do h hz hq hpu0 epz0 c_810 c_824
                  refine gx_iload (q := 0) C dL_pots_911 rfl ?_
                  refine gx_icmp_ne (tgt := 920) C dL_pots_913 (by decide) (fun c_913 => ?_) (fun c_913 => ?_)
                  · skip
                    exact absurd hv_908 c_913
                  · skip
                    refine gx_iconst (v := 1) C dL_pots_916 (by decide) ?_
                    refine gx_goto (tgt := 921) C dL_pots_917 (by decide) ?_
                    exact gx_zretL C hr dL_pots_921 rfl ⟨rfl, _, _, _, hI_5, hJ_908⟩
                · skip
                  refine gx_aload_n (q := 2) C dL_pots_827 rfl ?_
                  refine gx_iload (q := 0) C dL_pots_828 rfl ?_
                  refine gx_callF C hD hI (k_X6_takeHome l hL1 hI.1 h.1 (IV_ok h) _) (cwV 1 C.2.2.2.2.1 gL_pots_X6_takeHome rfl rfl rfl kdV_X6_takeHome ⟨Nat.le_of_ble_eq_true rfl, Nat.le_of_ble_eq_true rfl⟩) rfl rfl (Nat.le_of_ble_eq_true rfl) ⟨Nat.le_of_ble_eq_true rfl, Nat.le_of_ble_eq_true rfl⟩ dL_pots_830 (fun f_6 hI_6 => ?_)
                  obtain ⟨hv_830, hJ_830⟩ := home_no h hz hq (Or.inr c_824)
                  refine gx_top (-5) hv_830 ?_
                  refine gx_bipush (v := (-5)) C dL_pots_833 (by decide) ?_
                  refine gx_icmp_ne (tgt := 842) C dL_pots_835 (by decide) (fun c_835 => ?_) (fun c_835 => ?_)
                  exact absurd (by decide) c_835
                  refine gx_iconst (v := 1) C dL_pots_838 (by decide) ?_
                  refine gx_goto (tgt := 843) C dL_pots_839 (by decide) ?_
                  exact gx_zretL C hr dL_pots_843 rfl ⟨rfl, _, _, _, hI_6, IV_m hJ_830 (Nat.le_succ _)⟩
            · skip
              refine gx_iload_n (q := 4) C dL_pots_695 rfl ?_
              refine gx_iconst (v := 5) C dL_pots_696 (by decide) ?_
              refine gx_ishr C dL_pots_697 ?_
              refine gx_iconst (v := 4) C dL_pots_698 (by decide) ?_
              refine gx_callRS C (k_L_low l (yv >>> (5 &&& 31)) 4 (by first | decide | omega) (by first | decide | omega)) (va_cwS 2 C.2.2.2.2.1 gL_pots_L_low rfl rfl rfl kdN_L_low ⟨Nat.le_of_ble_eq_true rfl, Nat.le_of_ble_eq_true rfl⟩) rfl rfl (Nat.le_of_ble_eq_true rfl) ⟨Nat.le_of_ble_eq_true rfl, Nat.le_of_ble_eq_true rfl⟩ dL_pots_699 ?_
              refine gx_istore C [(8, _), (7, _), (6, _), (0, _), (1, _), (2, _), (3, _), (4, _), (5, _)] dL_pots_702 (by decide) rfl ?_
              refine gx_iconst (v := 1) C dL_pots_704 (by decide) ?_
              refine gx_iload_n (q := 5) C dL_pots_705 rfl ?_
              refine gx_bipush (v := 7) C dL_pots_706 (by decide) ?_
              refine gx_ishr C dL_pots_708 ?_
              refine gx_bipush (v := 99) C dL_pots_709 (by decide) ?_
              refine gx_callRS C (k_L_low l (yv >>> (7 &&& 31)) 99 (by first | decide | omega) (by first | decide | omega)) (va_cwS 2 C.2.2.2.2.1 gL_pots_L_low rfl rfl rfl kdN_L_low ⟨Nat.le_of_ble_eq_true rfl, Nat.le_of_ble_eq_true rfl⟩) rfl rfl (Nat.le_of_ble_eq_true rfl) ⟨Nat.le_of_ble_eq_true rfl, Nat.le_of_ble_eq_true rfl⟩ dL_pots_711 ?_
              refine gx_iadd C dL_pots_714 ?_
              refine gx_top (nI (1 + lo (yv >>> (7 &&& 31)) 99)) (nAdd (nLit 1) rfl) ?_
              refine gx_istore C [(9, _), (8, _), (7, _), (6, _), (0, _), (1, _), (2, _), (3, _), (4, _), (5, _)] dL_pots_715 (by decide) rfl ?_
              refine gx_aload_n (q := 7) C dL_pots_717 rfl ?_
              refine gx_bipush (v := 11) C dL_pots_718 (by decide) ?_
              refine gx_iload (q := 1) C dL_pots_720 rfl ?_
              refine gx_iadd C dL_pots_722 ?_
              refine gx_join (pc2 := 753) ((if ((z.1 (11 + (lo (yv >>> (5 &&& 31)) 4))) + (nI (1 + lo (yv >>> (7 &&& 31)) 99))) ≤ 99 then ((z.1 (11 + (lo (yv >>> (5 &&& 31)) 4))) + (nI (1 + lo (yv >>> (7 &&& 31)) 99))) else 99) : Int32) ?_ (fun jj_723 => ?_)
              · skip
                refine gx_iastN C hD (lw_mg hI) (lw_eg hI) (nAdd (nLit 11) rfl) (by omega) (by decide) dL_pots_753 ?_
                refine gx_Lg hI (fun f_7 hI_7 => ?_)
                refine gx_aload_n (q := 4) C dL_pots_754 rfl ?_
                refine gx_iload (q := 1) C dL_pots_755 rfl ?_
                refine gx_iload (q := 0) C dL_pots_757 rfl ?_
                refine gx_callF C hD hI_7 (k_X6_fill l hL1 hI_7.1 h.1 (IV_ok h) _ _) (cwV 2 C.2.2.2.2.1 gL_pots_X6_fill rfl rfl rfl kdV_X6_fill ⟨Nat.le_of_ble_eq_true rfl, Nat.le_of_ble_eq_true rfl⟩) rfl rfl (Nat.le_of_ble_eq_true rfl) ⟨Nat.le_of_ble_eq_true rfl, Nat.le_of_ble_eq_true rfl⟩ dL_pots_759 (fun f_8 hI_8 => ?_)
                obtain ⟨hv_759, zr_759, hJ_759⟩ := fill_do (pa := 1 + lo (yv >>> (7 &&& 31)) 99) h hz hgl (by omega) (by omega)
                refine gx_aload_n (q := 7) C dL_pots_762 rfl ?_
                refine gx_bipush (v := 11) C dL_pots_763 (by decide) ?_
                refine gx_iload (q := 1) C dL_pots_765 rfl ?_
                refine gx_iadd C dL_pots_767 ?_
                refine gx_ialdN C (lw_mg hI_8) (lw_eg hI_8) (nAdd (nLit 11) rfl) (by omega) (by decide) dL_pots_768 ?_
                refine gx_icmp_ne (tgt := 798) C dL_pots_769 (by decide) (fun c_769 => ?_) (fun c_769 => ?_)
                · skip
                  exact absurd (hv_759.trans (upd_s z.1 (11 + (lo (yv >>> (5 &&& 31)) 4)) (if z.1 (11 + (lo (yv >>> (5 &&& 31)) 4)) + nI (1 + lo (yv >>> (7 &&& 31)) 99) ≤ 99 then z.1 (11 + (lo (yv >>> (5 &&& 31)) 4)) + nI (1 + lo (yv >>> (7 &&& 31)) 99) else 99)).symm) c_769
                · skip
                  refine gx_aload_n (q := 4) C dL_pots_772 rfl ?_
                  refine gx_iconst (v := 4) C dL_pots_773 (by decide) ?_
                  refine gx_iconst (v := 0) C dL_pots_774 (by decide) ?_
                  refine gx_callF C hD hI_8 (k_X6_fill l hL1 hI_8.1 hJ_759.1 (IV_ok hJ_759) _ _) (cwV 2 C.2.2.2.2.1 gL_pots_X6_fill rfl rfl rfl kdV_X6_fill ⟨Nat.le_of_ble_eq_true rfl, Nat.le_of_ble_eq_true rfl⟩) rfl rfl (Nat.le_of_ble_eq_true rfl) ⟨Nat.le_of_ble_eq_true rfl, Nat.le_of_ble_eq_true rfl⟩ dL_pots_775 (fun f_9 hI_9 => ?_)
                  obtain ⟨hv_775, hJ_775⟩ := fill_4 hJ_759
                  refine gx_top (-1) hv_775 ?_
                  refine gx_iconst (v := (-1)) C dL_pots_778 (by decide) ?_
                  refine gx_icmp_ne (tgt := 798) C dL_pots_779 (by decide) (fun c_779 => ?_) (fun c_779 => ?_)
                  exact absurd (by decide) c_779
                  refine gx_aload_n (q := 4) C dL_pots_782 rfl ?_
                  refine gx_iconst (v := 0) C dL_pots_783 (by decide) ?_
                  refine gx_bipush (v := 100) C dL_pots_784 (by decide) ?_
                  refine gx_callF C hD hI_9 (k_X6_fill l hL1 hI_9.1 hJ_775.1 (IV_ok hJ_775) _ _) (cwV 2 C.2.2.2.2.1 gL_pots_X6_fill rfl rfl rfl kdV_X6_fill ⟨Nat.le_of_ble_eq_true rfl, Nat.le_of_ble_eq_true rfl⟩) rfl rfl (Nat.le_of_ble_eq_true rfl) ⟨Nat.le_of_ble_eq_true rfl, Nat.le_of_ble_eq_true rfl⟩ dL_pots_786 (fun f_10 hI_10 => ?_)
                  obtain ⟨hv_786, hJ_786⟩ := fill_100 hJ_775
                  refine gx_top (-2) hv_786 ?_
                  refine gx_bipush (v := (-2)) C dL_pots_789 (by decide) ?_
                  refine gx_icmp_ne (tgt := 798) C dL_pots_791 (by decide) (fun c_791 => ?_) (fun c_791 => ?_)
                  exact absurd (by decide) c_791
                  refine gx_iconst (v := 1) C dL_pots_794 (by decide) ?_
                  refine gx_goto (tgt := 799) C dL_pots_795 (by decide) ?_
                  exact gx_zretL C hr dL_pots_799 rfl ⟨rfl, _, _, _, hI_10, hJ_786⟩
              refine gx_aload_n (q := 7) C dL_pots_723 rfl ?_
              refine gx_bipush (v := 11) C dL_pots_724 (by decide) ?_
              refine gx_iload (q := 1) C dL_pots_726 rfl ?_
              refine gx_iadd C dL_pots_728 ?_
              refine gx_ialdN C (lw_mg hI) (lw_eg hI) (nAdd (nLit 11) rfl) (by omega) (by decide) dL_pots_729 ?_
              refine gx_iload (q := 0) C dL_pots_730 rfl ?_
              refine gx_iadd C dL_pots_732 ?_
              refine gx_bipush (v := 99) C dL_pots_733 (by decide) ?_
              refine gx_icmp_le (tgt := 743) C dL_pots_735 (by decide) (fun c_735 => ?_) (fun c_735 => ?_)
              · skip
                refine gx_aload_n (q := 7) C dL_pots_743 rfl ?_
                refine gx_bipush (v := 11) C dL_pots_744 (by decide) ?_
                refine gx_iload (q := 1) C dL_pots_746 rfl ?_
                refine gx_iadd C dL_pots_748 ?_
                refine gx_ialdN C (lw_mg hI) (lw_eg hI) (nAdd (nLit 11) rfl) (by omega) (by decide) dL_pots_749 ?_
                refine gx_iload (q := 0) C dL_pots_750 rfl ?_
                refine gx_iadd C dL_pots_752 ?_
                exact jj_723 _ ((if_pos c_735).trans (rfl)).symm
              · skip
                refine gx_bipush (v := 99) C dL_pots_738 (by decide) ?_
                refine gx_goto (tgt := 753) C dL_pots_740 (by decide) ?_
                exact jj_723 _ ((if_neg c_735).trans (rfl)).symm
          · skip
            refine gx_iload_n (q := 4) C dL_pots_539 rfl ?_
            refine gx_iconst (v := 5) C dL_pots_540 (by decide) ?_
            refine gx_ishr C dL_pots_541 ?_
            refine gx_iconst (v := 4) C dL_pots_542 (by decide) ?_
            refine gx_callRS C (k_L_low l (yv >>> (5 &&& 31)) 4 (by first | decide | omega) (by first | decide | omega)) (va_cwS 2 C.2.2.2.2.1 gL_pots_L_low rfl rfl rfl kdN_L_low ⟨Nat.le_of_ble_eq_true rfl, Nat.le_of_ble_eq_true rfl⟩) rfl rfl (Nat.le_of_ble_eq_true rfl) ⟨Nat.le_of_ble_eq_true rfl, Nat.le_of_ble_eq_true rfl⟩ dL_pots_543 ?_
            refine gx_istore C [(8, _), (7, _), (6, _), (0, _), (1, _), (2, _), (3, _), (4, _), (5, _)] dL_pots_546 (by decide) rfl ?_
            refine gx_aload (q := 7) C dL_pots_548 rfl ?_
            refine gx_iload (q := 1) C dL_pots_550 rfl ?_
            refine gx_laldN C (lw_mb hI) (lw_eb hI) rfl (by omega) (by decide) dL_pots_552 ?_
            refine gx_iconst (v := 1) C dL_pots_553 (by decide) ?_
            refine gx_callRS C (k_L_part l (z.2.1 (lo yv n)) 1) (va_cwS 2 C.2.2.2.2.1 gL_pots_L_part rfl rfl rfl kdN_L_part ⟨Nat.le_of_ble_eq_true rfl, Nat.le_of_ble_eq_true rfl⟩) rfl rfl (Nat.le_of_ble_eq_true rfl) ⟨Nat.le_of_ble_eq_true rfl, Nat.le_of_ble_eq_true rfl⟩ dL_pots_554 ?_
            refine gx_istore C [(9, _), (8, _), (7, _), (6, _), (0, _), (1, _), (2, _), (3, _), (4, _), (5, _)] dL_pots_557 (by decide) rfl ?_
            refine gx_aload (q := 8) C dL_pots_559 rfl ?_
            refine gx_iload (q := 2) C dL_pots_561 rfl ?_
            refine gx_laldN C (lw_mb hI) (lw_eb hI) rfl (by omega) (by decide) dL_pots_563 ?_
            refine gx_iconst (v := 3) C dL_pots_564 (by decide) ?_
            refine gx_callRS C (k_L_part l (z.2.1 (lo yv n)) 3) (va_cwS 2 C.2.2.2.2.1 gL_pots_L_part rfl rfl rfl kdN_L_part ⟨Nat.le_of_ble_eq_true rfl, Nat.le_of_ble_eq_true rfl⟩) rfl rfl (Nat.le_of_ble_eq_true rfl) ⟨Nat.le_of_ble_eq_true rfl, Nat.le_of_ble_eq_true rfl⟩ dL_pots_565 ?_
            refine gx_iconst (v := 1) C dL_pots_568 (by decide) ?_
            refine gx_icmp_ne (tgt := 598) C dL_pots_569 (by decide) (fun c_569 => ?_) (fun c_569 => ?_)
            · skip
              refine gx_aload_n (q := 4) C dL_pots_598 rfl ?_
              refine gx_iload (q := 2) C dL_pots_599 rfl ?_
              refine gx_iload (q := 1) C dL_pots_601 rfl ?_
              refine gx_callF C hD hI (k_X6_glaze l hL1 hI.1 h.1 (IV_ok h) _ _) (cwV 2 C.2.2.2.2.1 gL_pots_X6_glaze rfl rfl rfl kdV_X6_glaze ⟨Nat.le_of_ble_eq_true rfl, Nat.le_of_ble_eq_true rfl⟩) rfl rfl (Nat.le_of_ble_eq_true rfl) ⟨Nat.le_of_ble_eq_true rfl, Nat.le_of_ble_eq_true rfl⟩ dL_pots_603 (fun f_11 hI_11 => ?_)
              obtain ⟨hv_603, hJ_603⟩ := glaze_no h hz hq hgl (Or.inl c_569)
              refine gx_top (-5) hv_603 ?_
              refine gx_bipush (v := (-5)) C dL_pots_606 (by decide) ?_
              refine gx_icmp_ne (tgt := 626) C dL_pots_608 (by decide) (fun c_608 => ?_) (fun c_608 => ?_)
              exact absurd (by decide) c_608
              refine gx_aload_n (q := 4) C dL_pots_611 rfl ?_
              refine gx_iload (q := 2) C dL_pots_612 rfl ?_
              refine gx_iconst (v := (-1)) C dL_pots_614 (by decide) ?_
              refine gx_callF C hD hI_11 (k_X6_glaze l hL1 hI_11.1 hJ_603.1 (IV_ok hJ_603) _ _) (cwV 2 C.2.2.2.2.1 gL_pots_X6_glaze rfl rfl rfl kdV_X6_glaze ⟨Nat.le_of_ble_eq_true rfl, Nat.le_of_ble_eq_true rfl⟩) rfl rfl (Nat.le_of_ble_eq_true rfl) ⟨Nat.le_of_ble_eq_true rfl, Nat.le_of_ble_eq_true rfl⟩ dL_pots_615 (fun f_12 hI_12 => ?_)
              obtain ⟨hv_615, hJ_615⟩ := glaze_m1 hJ_603 hz hq
              refine gx_top (-1) hv_615 ?_
              refine gx_iconst (v := (-1)) C dL_pots_618 (by decide) ?_
              refine gx_icmp_ne (tgt := 626) C dL_pots_619 (by decide) (fun c_619 => ?_) (fun c_619 => ?_)
              exact absurd (by decide) c_619
              refine gx_iconst (v := 1) C dL_pots_622 (by decide) ?_
              refine gx_goto (tgt := 627) C dL_pots_623 (by decide) ?_
              exact gx_zretL C hr dL_pots_627 rfl ⟨rfl, _, _, _, hI_12, IV_m hJ_615 (Nat.le_succ _)⟩
            · skip
              refine gx_aload (q := 8) C dL_pots_572 rfl ?_
              refine gx_iload (q := 2) C dL_pots_574 rfl ?_
              refine gx_laldN C (lw_mb hI) (lw_eb hI) rfl (by omega) (by decide) dL_pots_576 ?_
              refine gx_iconst (v := 4) C dL_pots_577 (by decide) ?_
              refine gx_callRS C (k_L_part l (z.2.1 (lo yv n)) 4) (va_cwS 2 C.2.2.2.2.1 gL_pots_L_part rfl rfl rfl kdN_L_part ⟨Nat.le_of_ble_eq_true rfl, Nat.le_of_ble_eq_true rfl⟩) rfl rfl (Nat.le_of_ble_eq_true rfl) ⟨Nat.le_of_ble_eq_true rfl, Nat.le_of_ble_eq_true rfl⟩ dL_pots_578 ?_
              refine gx_bipush (v := 23) C dL_pots_581 (by decide) ?_
              refine gx_icmp_gt (tgt := 598) C dL_pots_583 (by decide) (fun c_583 => ?_) (fun c_583 => ?_)
              · skip
                refine gx_aload_n (q := 4) C dL_pots_598 rfl ?_
                refine gx_iload (q := 2) C dL_pots_599 rfl ?_
                refine gx_iload (q := 1) C dL_pots_601 rfl ?_
                refine gx_callF C hD hI (k_X6_glaze l hL1 hI.1 h.1 (IV_ok h) _ _) (cwV 2 C.2.2.2.2.1 gL_pots_X6_glaze rfl rfl rfl kdV_X6_glaze ⟨Nat.le_of_ble_eq_true rfl, Nat.le_of_ble_eq_true rfl⟩) rfl rfl (Nat.le_of_ble_eq_true rfl) ⟨Nat.le_of_ble_eq_true rfl, Nat.le_of_ble_eq_true rfl⟩ dL_pots_603 (fun f_13 hI_13 => ?_)
                obtain ⟨hv_603, hJ_603⟩ := glaze_no h hz hq hgl (Or.inr (Or.inl (Int32.not_le.mpr c_583)))
                refine gx_top (-5) hv_603 ?_
                refine gx_bipush (v := (-5)) C dL_pots_606 (by decide) ?_
                refine gx_icmp_ne (tgt := 626) C dL_pots_608 (by decide) (fun c_608 => ?_) (fun c_608 => ?_)
                exact absurd (by decide) c_608
                refine gx_aload_n (q := 4) C dL_pots_611 rfl ?_
                refine gx_iload (q := 2) C dL_pots_612 rfl ?_
                refine gx_iconst (v := (-1)) C dL_pots_614 (by decide) ?_
                refine gx_callF C hD hI_13 (k_X6_glaze l hL1 hI_13.1 hJ_603.1 (IV_ok hJ_603) _ _) (cwV 2 C.2.2.2.2.1 gL_pots_X6_glaze rfl rfl rfl kdV_X6_glaze ⟨Nat.le_of_ble_eq_true rfl, Nat.le_of_ble_eq_true rfl⟩) rfl rfl (Nat.le_of_ble_eq_true rfl) ⟨Nat.le_of_ble_eq_true rfl, Nat.le_of_ble_eq_true rfl⟩ dL_pots_615 (fun f_14 hI_14 => ?_)
                obtain ⟨hv_615, hJ_615⟩ := glaze_m1 hJ_603 hz hq
                refine gx_top (-1) hv_615 ?_
                refine gx_iconst (v := (-1)) C dL_pots_618 (by decide) ?_
                refine gx_icmp_ne (tgt := 626) C dL_pots_619 (by decide) (fun c_619 => ?_) (fun c_619 => ?_)
                exact absurd (by decide) c_619
                refine gx_iconst (v := 1) C dL_pots_622 (by decide) ?_
                refine gx_goto (tgt := 627) C dL_pots_623 (by decide) ?_
                exact gx_zretL C hr dL_pots_627 rfl ⟨rfl, _, _, _, hI_14, IV_m hJ_615 (Nat.le_succ _)⟩
              · skip
                refine gx_aload_n (q := 7) C dL_pots_586 rfl ?_
                refine gx_bipush (v := 11) C dL_pots_587 (by decide) ?_
                refine gx_iload (q := 1) C dL_pots_589 rfl ?_
                refine gx_iadd C dL_pots_591 ?_
                refine gx_ialdN C (lw_mg hI) (lw_eg hI) (nAdd (nLit 11) rfl) (by omega) (by decide) dL_pots_592 ?_
                refine gx_iload (q := 0) C dL_pots_593 rfl ?_
                refine gx_icmp_ge (tgt := 628) C dL_pots_595 (by decide) (fun c_595 => ?_) (fun c_595 => ?_)
                · skip
                  refine gx_aload_n (q := 7) C dL_pots_628 rfl ?_
                  refine gx_bipush (v := 11) C dL_pots_629 (by decide) ?_
                  refine gx_iload (q := 1) C dL_pots_631 rfl ?_
                  refine gx_iadd C dL_pots_633 ?_
                  refine gx_dup2 C dL_pots_634 rfl rfl ?_
                  refine gx_ialdN C (lw_mg hI) (lw_eg hI) (nAdd (nLit 11) rfl) (by omega) (by decide) dL_pots_635 ?_
                  refine gx_iload (q := 0) C dL_pots_636 rfl ?_
                  refine gx_isub C dL_pots_638 ?_
                  refine gx_iastN C hD (lw_mg hI) (lw_eg hI) (nAdd (nLit 11) rfl) (by omega) (by decide) dL_pots_639 ?_
                  refine gx_Lg hI (fun f_15 hI_15 => ?_)
                  refine gx_aload (q := 8) C dL_pots_640 rfl ?_
                  refine gx_iload (q := 2) C dL_pots_642 rfl ?_
                  refine gx_aload (q := 8) C dL_pots_644 rfl ?_
                  refine gx_iload (q := 2) C dL_pots_646 rfl ?_
                  refine gx_laldN C (lw_mb hI_15) (lw_eb hI_15) rfl (by omega) (by decide) dL_pots_648 ?_
                  refine gx_iconst (v := 3) C dL_pots_649 (by decide) ?_
                  refine gx_iconst (v := 2) C dL_pots_650 (by decide) ?_
                  refine gx_callRS C (k_L_with l ((ug z (11 + (lo (yv >>> (5 &&& 31)) 4)) ((z.1 (11 + (lo (yv >>> (5 &&& 31)) 4))) - (pt (z.2.1 (lo yv n)) 1))).2.1 (lo yv n)) 3 2) (va_cwS 3 C.2.2.2.2.1 gL_pots_L_with rfl rfl rfl kdN_L_with ⟨Nat.le_of_ble_eq_true rfl, Nat.le_of_ble_eq_true rfl⟩) rfl rfl (Nat.le_of_ble_eq_true rfl) ⟨Nat.le_of_ble_eq_true rfl, Nat.le_of_ble_eq_true rfl⟩ dL_pots_651 ?_
                  refine gx_bipush (v := 6) C dL_pots_654 (by decide) ?_
                  refine gx_iload (q := 1) C dL_pots_656 rfl ?_
                  refine gx_iconst (v := 1) C dL_pots_658 (by decide) ?_
                  refine gx_iadd C dL_pots_659 ?_
                  refine gx_top (nI ((lo (yv >>> (5 &&& 31)) 4) + 1)) (nI_1 _) ?_
                  refine gx_callRS C (k_L_with l (wt ((ug z (11 + (lo (yv >>> (5 &&& 31)) 4)) ((z.1 (11 + (lo (yv >>> (5 &&& 31)) 4))) - (pt (z.2.1 (lo yv n)) 1))).2.1 (lo yv n)) 3 2) 6 (nI ((lo (yv >>> (5 &&& 31)) 4) + 1))) (va_cwS 3 C.2.2.2.2.1 gL_pots_L_with rfl rfl rfl kdN_L_with ⟨Nat.le_of_ble_eq_true rfl, Nat.le_of_ble_eq_true rfl⟩) rfl rfl (Nat.le_of_ble_eq_true rfl) ⟨Nat.le_of_ble_eq_true rfl, Nat.le_of_ble_eq_true rfl⟩ dL_pots_660 ?_
                  refine gx_lastN C hD (lw_mb hI_15) (lw_eb hI_15) rfl (by omega) (by decide) dL_pots_663 ?_
                  refine gx_Lb hI_15 (fun f_16 hI_16 => ?_)
                  refine gx_aload_n (q := 4) C dL_pots_664 rfl ?_
                  refine gx_iload (q := 2) C dL_pots_665 rfl ?_
                  refine gx_iload (q := 1) C dL_pots_667 rfl ?_
                  refine gx_callF C hD hI_16 (k_X6_glaze l hL1 hI_16.1 h.1 (IV_ok h) _ _) (cwV 2 C.2.2.2.2.1 gL_pots_X6_glaze rfl rfl rfl kdV_X6_glaze ⟨Nat.le_of_ble_eq_true rfl, Nat.le_of_ble_eq_true rfl⟩) rfl rfl (Nat.le_of_ble_eq_true rfl) ⟨Nat.le_of_ble_eq_true rfl, Nat.le_of_ble_eq_true rfl⟩ dL_pots_669 (fun f_17 hI_17 => ?_)
                  obtain ⟨hv_669, zr_669, hJ_669⟩ := glaze_do h hz hq hgl c_569 (Int32.not_lt.mp c_583) c_595
                  refine gx_aload_n (q := 7) C dL_pots_672 rfl ?_
                  refine gx_bipush (v := 11) C dL_pots_673 (by decide) ?_
                  refine gx_iload (q := 1) C dL_pots_675 rfl ?_
                  refine gx_iadd C dL_pots_677 ?_
                  refine gx_ialdN C (lw_mg hI_17) (lw_eg hI_17) (nAdd (nLit 11) rfl) (by omega) (by decide) dL_pots_678 ?_
                  refine gx_icmp_ne (tgt := 686) C dL_pots_679 (by decide) (fun c_679 => ?_) (fun c_679 => ?_)
                  · skip
                    exact absurd (hv_669.trans (upd_s z.1 (11 + (lo (yv >>> (5 &&& 31)) 4)) (z.1 (11 + (lo (yv >>> (5 &&& 31)) 4)) - pt (z.2.1 (lo yv n)) 1)).symm) c_679
                  · skip
                    refine gx_iconst (v := 1) C dL_pots_682 (by decide) ?_
                    refine gx_goto (tgt := 687) C dL_pots_683 (by decide) ?_
                    exact gx_zretL C hr dL_pots_687 rfl ⟨rfl, _, _, _, hI_17, hJ_669⟩
                · skip
                  refine gx_aload_n (q := 4) C dL_pots_598 rfl ?_
                  refine gx_iload (q := 2) C dL_pots_599 rfl ?_
                  refine gx_iload (q := 1) C dL_pots_601 rfl ?_
                  refine gx_callF C hD hI (k_X6_glaze l hL1 hI.1 h.1 (IV_ok h) _ _) (cwV 2 C.2.2.2.2.1 gL_pots_X6_glaze rfl rfl rfl kdV_X6_glaze ⟨Nat.le_of_ble_eq_true rfl, Nat.le_of_ble_eq_true rfl⟩) rfl rfl (Nat.le_of_ble_eq_true rfl) ⟨Nat.le_of_ble_eq_true rfl, Nat.le_of_ble_eq_true rfl⟩ dL_pots_603 (fun f_18 hI_18 => ?_)
                  obtain ⟨hv_603, hJ_603⟩ := glaze_no h hz hq hgl (Or.inr (Or.inr c_595))
                  refine gx_top (-5) hv_603 ?_
                  refine gx_bipush (v := (-5)) C dL_pots_606 (by decide) ?_
                  refine gx_icmp_ne (tgt := 626) C dL_pots_608 (by decide) (fun c_608 => ?_) (fun c_608 => ?_)
                  exact absurd (by decide) c_608
                  refine gx_aload_n (q := 4) C dL_pots_611 rfl ?_
                  refine gx_iload (q := 2) C dL_pots_612 rfl ?_
                  refine gx_iconst (v := (-1)) C dL_pots_614 (by decide) ?_
                  refine gx_callF C hD hI_18 (k_X6_glaze l hL1 hI_18.1 hJ_603.1 (IV_ok hJ_603) _ _) (cwV 2 C.2.2.2.2.1 gL_pots_X6_glaze rfl rfl rfl kdV_X6_glaze ⟨Nat.le_of_ble_eq_true rfl, Nat.le_of_ble_eq_true rfl⟩) rfl rfl (Nat.le_of_ble_eq_true rfl) ⟨Nat.le_of_ble_eq_true rfl, Nat.le_of_ble_eq_true rfl⟩ dL_pots_615 (fun f_19 hI_19 => ?_)
                  obtain ⟨hv_615, hJ_615⟩ := glaze_m1 hJ_603 hz hq
                  refine gx_top (-1) hv_615 ?_
                  refine gx_iconst (v := (-1)) C dL_pots_618 (by decide) ?_
                  refine gx_icmp_ne (tgt := 626) C dL_pots_619 (by decide) (fun c_619 => ?_) (fun c_619 => ?_)
                  exact absurd (by decide) c_619
                  refine gx_iconst (v := 1) C dL_pots_622 (by decide) ?_
                  refine gx_goto (tgt := 627) C dL_pots_623 (by decide) ?_
                  exact gx_zretL C hr dL_pots_627 rfl ⟨rfl, _, _, _, hI_19, IV_m hJ_615 (Nat.le_succ _)⟩
        · skip
          refine gx_bipush (v := 80) C dL_pots_264 (by decide) ?_
          refine gx_iload_n (q := 4) C dL_pots_266 rfl ?_
          refine gx_iconst (v := 5) C dL_pots_267 (by decide) ?_
          refine gx_ishr C dL_pots_268 ?_
          refine gx_join (pc2 := 284) ((if ((yv >>> (4 &&& 31)) &&& 1) = 0 then 61 else 42) : Int32) ?_ (fun jj_269 => ?_)
          · skip
            refine gx_top (nI hk) ehk ?_
            refine gx_callRS C (k_L_low l (yv >>> (5 &&& 31)) hk (by first | decide | omega) (by first | decide | omega)) (va_cwS 2 C.2.2.2.2.1 gL_pots_L_low rfl rfl rfl kdN_L_low ⟨Nat.le_of_ble_eq_true rfl, Nat.le_of_ble_eq_true rfl⟩) rfl rfl (Nat.le_of_ble_eq_true rfl) ⟨Nat.le_of_ble_eq_true rfl, Nat.le_of_ble_eq_true rfl⟩ dL_pots_284 ?_
            refine gx_iadd C dL_pots_287 ?_
            refine gx_top (nI (80 + lo (yv >>> (5 &&& 31)) hk)) (nAdd (nLit 80) rfl) ?_
            refine gx_istore C [(8, _), (7, _), (6, _), (0, _), (1, _), (2, _), (3, _), (4, _), (5, _)] dL_pots_288 (by decide) rfl ?_
            refine gx_aload_n (q := 6) C dL_pots_290 rfl ?_
            refine gx_aload (q := 7) C dL_pots_291 rfl ?_
            refine gx_callRS C (k_L_inKiln l (lw_mg hI) (lw_eg hI) (lw_mb hI) (lw_eb hI) hn hn2) (va_cwS 2 C.2.2.2.2.1 gL_pots_L_inKiln rfl rfl rfl kdN_L_inKiln ⟨Nat.le_of_ble_eq_true rfl, Nat.le_of_ble_eq_true rfl⟩) rfl rfl (Nat.le_of_ble_eq_true rfl) ⟨Nat.le_of_ble_eq_true rfl, Nat.le_of_ble_eq_true rfl⟩ dL_pots_293 ?_
            refine gx_if_ne (tgt := 328) C dL_pots_296 (by decide) (fun c_296 => ?_) (fun c_296 => ?_)
            · skip
              refine gx_iconst (v := 0) C dL_pots_328 (by decide) ?_
              refine gx_istore C [(9, _), (8, _), (7, _), (6, _), (0, _), (1, _), (2, _), (3, _), (4, _), (5, _)] dL_pots_329 (by decide) rfl ?_
              refine gx_iconst (v := 0) C dL_pots_331 (by decide) ?_
              refine gx_istore C [(10, _), (9, _), (8, _), (7, _), (6, _), (0, _), (1, _), (2, _), (3, _), (4, _), (5, _)] dL_pots_332 (by decide) rfl ?_
              refine gx_loop (σ := Nat × (Nat → Int64) × (Nat → va_E)) (fun σ => σ.2.2) (fun σ => [(0, .ref (AA 0)), (3, .ref (B 0)), (4, .ref (B 1)), (5, .ref (B 3)), (8, .int (nI (80 + lo (yv >>> (5 &&& 31)) hk))), (9, .int (zFP (mz zr) (nI (80 + lo (yv >>> (5 &&& 31)) hk)) σ.1)), (10, .int (nI σ.1))]) (fun σ => σ.1 ≤ n ∧ isLW k L1 L2 σ.2.2 AA q B (z.1, σ.2.1, z.2.2) ∧ LFi J n np nt x0 zr z (nI (80 + lo (yv >>> (5 &&& 31)) hk)) σ.1 σ.2.1) (fun σ => n - σ.1) (0, z.2.1, _) [5, 8, 9, 10, 2, 1, 0] rfl rfl ?_ ?_
              · exact ⟨Nat.zero_le _, hI, LFi_0 hz _⟩
              intro ⟨i, bi, fi⟩ ⟨hin0, hI, hFi⟩ ihf
              try dsimp only at hin0 hI hFi ihf ⊢
              refine gx_iload (q := 6) C dL_pots_334 rfl ?_
              refine gx_aload_n (q := 1) C dL_pots_336 rfl ?_
              refine gx_bipush (v := 7) C dL_pots_337 (by decide) ?_
              refine gx_ialdN C (lw_mg hI) (lw_eg hI) (nLit 7) (by omega) (by decide) dL_pots_339 ?_
              refine gx_top (nI n) hn ?_
              refine gx_icmp_ge (tgt := 498) C dL_pots_340 (by decide) (fun c_340 => ?_) (fun c_340 => ?_)
              · skip
                have hb_i := (nI_leI (by omega) (by omega)).mp c_340
                have hin : n = i := by omega
                subst hin
                refine gx_aload_n (q := 1) C dL_pots_498 rfl ?_
                refine gx_bipush (v := 8) C dL_pots_499 (by decide) ?_
                refine gx_dup2 C dL_pots_501 rfl rfl ?_
                refine gx_ialdN C (lw_mg hI) (lw_eg hI) (nLit 8) (by omega) (by decide) dL_pots_502 ?_
                refine gx_iconst (v := 1) C dL_pots_503 (by decide) ?_
                refine gx_iadd C dL_pots_504 ?_
                refine gx_iastN C hD (lw_mg hI) (lw_eg hI) (nLit 8) (by omega) (by decide) dL_pots_505 ?_
                refine gx_Lg hI (fun f_20 hI_20 => ?_)
                refine gx_aload_n (q := 1) C dL_pots_506 rfl ?_
                refine gx_bipush (v := 9) C dL_pots_507 (by decide) ?_
                refine gx_dup2 C dL_pots_509 rfl rfl ?_
                refine gx_ialdN C (lw_mg hI_20) (lw_eg hI_20) (nLit 9) (by omega) (by decide) dL_pots_510 ?_
                refine gx_iload (q := 5) C dL_pots_511 rfl ?_
                refine gx_iadd C dL_pots_513 ?_
                refine gx_iastN C hD (lw_mg hI_20) (lw_eg hI_20) (nLit 9) (by omega) (by decide) dL_pots_514 ?_
                refine gx_Lg hI_20 (fun f_21 hI_21 => ?_)
                refine gx_aload_n (q := 0) C dL_pots_515 rfl ?_
                refine gx_iload (q := 4) C dL_pots_516 rfl ?_
                refine gx_callF C hD hI_21 (k_X6_fire l hL1 hI_21.1 h.1 (IV_ok h) _) (cwV 1 C.2.2.2.2.1 gL_pots_X6_fire rfl rfl rfl kdV_X6_fire ⟨Nat.le_of_ble_eq_true rfl, Nat.le_of_ble_eq_true rfl⟩) rfl rfl (Nat.le_of_ble_eq_true rfl) ⟨Nat.le_of_ble_eq_true rfl, Nat.le_of_ble_eq_true rfl⟩ dL_pots_518 (fun f_22 hI_22 => ?_)
                obtain ⟨hv_518, zr_518, hJ_518⟩ := fire_do (ht := 80 + lo (yv >>> (5 &&& 31)) hk) h hz (by omega) (by omega) c_296 hFi
                refine gx_iload (q := 5) C dL_pots_521 rfl ?_
                refine gx_icmp_ne (tgt := 530) C dL_pots_523 (by decide) (fun c_523 => ?_) (fun c_523 => ?_)
                · skip
                  exact absurd hv_518 c_523
                · skip
                  refine gx_iconst (v := 1) C dL_pots_526 (by decide) ?_
                  refine gx_goto (tgt := 531) C dL_pots_527 (by decide) ?_
                  exact gx_zretL C hr dL_pots_531 rfl ⟨rfl, _, _, _, hI_22, hJ_518⟩
              · skip
                have hlt_i : i < n := Nat.lt_of_not_le (fun z => c_340 ((nI_leI (by omega) (by omega)).mpr z))
                refine gx_aload (q := 2) C dL_pots_343 rfl ?_
                refine gx_iload (q := 6) C dL_pots_345 rfl ?_
                refine gx_laldN C (lw_mb hI) (lw_eb hI) rfl (by omega) (by decide) dL_pots_347 ?_
                refine gx_iconst (v := 4) C dL_pots_348 (by decide) ?_
                refine gx_callRS C (k_L_part l (bi i) 4) (va_cwS 2 C.2.2.2.2.1 gL_pots_L_part rfl rfl rfl kdN_L_part ⟨Nat.le_of_ble_eq_true rfl, Nat.le_of_ble_eq_true rfl⟩) rfl rfl (Nat.le_of_ble_eq_true rfl) ⟨Nat.le_of_ble_eq_true rfl, Nat.le_of_ble_eq_true rfl⟩ dL_pots_349 ?_
                refine gx_bipush (v := 24) C dL_pots_352 (by decide) ?_
                refine gx_icmp_eq (tgt := 360) C dL_pots_354 (by decide) (fun c_354 => ?_) (fun c_354 => ?_)
                · skip
                  refine gx_aload (q := 2) C dL_pots_360 rfl ?_
                  refine gx_iload (q := 6) C dL_pots_362 rfl ?_
                  refine gx_laldN C (lw_mb hI) (lw_eb hI) rfl (by omega) (by decide) dL_pots_364 ?_
                  refine gx_iload (q := 4) C dL_pots_365 rfl ?_
                  refine gx_aload_n (q := 1) C dL_pots_367 rfl ?_
                  refine gx_callRS C (k_L_then l (lw_mg hI) (lw_eg hI) (bi i) (nI (80 + lo (yv >>> (5 &&& 31)) hk))) (va_cwS 3 C.2.2.2.2.1 gL_pots_L_then rfl rfl rfl kdN_L_then ⟨Nat.le_of_ble_eq_true rfl, Nat.le_of_ble_eq_true rfl⟩) rfl rfl (Nat.le_of_ble_eq_true rfl) ⟨Nat.le_of_ble_eq_true rfl, Nat.le_of_ble_eq_true rfl⟩ dL_pots_368 ?_
                  refine gx_istore C [(11, _), (0, _), (3, _), (4, _), (5, _), (8, _), (9, _), (10, _)] dL_pots_371 (by decide) rfl ?_
                  refine gx_iload (q := 6) C dL_pots_373 rfl ?_
                  refine gx_join (pc2 := 386) ((if (lThen z.1 (bi i) (nI (80 + lo (yv >>> (5 &&& 31)) hk))) = 4 then 1 else 0) : Int32) ?_ (fun jj_375 => ?_)
                  · skip
                    refine gx_iadd C dL_pots_386 ?_
                    refine gx_istore C [(9, _), (11, _), (0, _), (3, _), (4, _), (5, _), (8, _), (10, _)] dL_pots_387 (by decide) rfl ?_
                    refine gx_join (pc2 := 415) ((if (lThen z.1 (bi i) (nI (80 + lo (yv >>> (5 &&& 31)) hk))) = 2 then (pt (bi i) 6) else (if (lThen z.1 (bi i) (nI (80 + lo (yv >>> (5 &&& 31)) hk))) = 3 then (pt (bi i) 6) else 0)) : Int32) ?_ (fun jj_389 => ?_)
                    · skip
                      refine gx_istore C [(12, _), (9, _), (11, _), (0, _), (3, _), (4, _), (5, _), (8, _), (10, _)] dL_pots_415 (by decide) rfl ?_
                      refine gx_aload (q := 5) C dL_pots_417 rfl ?_
                      refine gx_iload (q := 8) C dL_pots_419 rfl ?_
                      refine gx_aload (q := 5) C dL_pots_421 rfl ?_
                      refine gx_iload (q := 8) C dL_pots_423 rfl ?_
                      refine gx_laldN C (lw_mb hI) (lw_eb hI) rfl (by omega) (by decide) dL_pots_425 ?_
                      refine gx_iconst (v := 3) C dL_pots_426 (by decide) ?_
                      refine gx_iload (q := 2) C dL_pots_427 rfl ?_
                      refine gx_callRS C (k_L_with l (bi i) 3 (lThen z.1 (bi i) (nI (80 + lo (yv >>> (5 &&& 31)) hk)))) (va_cwS 3 C.2.2.2.2.1 gL_pots_L_with rfl rfl rfl kdN_L_with ⟨Nat.le_of_ble_eq_true rfl, Nat.le_of_ble_eq_true rfl⟩) rfl rfl (Nat.le_of_ble_eq_true rfl) ⟨Nat.le_of_ble_eq_true rfl, Nat.le_of_ble_eq_true rfl⟩ dL_pots_429 ?_
                      refine gx_bipush (v := 6) C dL_pots_432 (by decide) ?_
                      refine gx_iload (q := 0) C dL_pots_434 rfl ?_
                      refine gx_callRS C (k_L_with l (wt (bi i) 3 (lThen z.1 (bi i) (nI (80 + lo (yv >>> (5 &&& 31)) hk)))) 6 (if (lThen z.1 (bi i) (nI (80 + lo (yv >>> (5 &&& 31)) hk))) = 2 then (pt (bi i) 6) else (if (lThen z.1 (bi i) (nI (80 + lo (yv >>> (5 &&& 31)) hk))) = 3 then (pt (bi i) 6) else 0))) (va_cwS 3 C.2.2.2.2.1 gL_pots_L_with rfl rfl rfl kdN_L_with ⟨Nat.le_of_ble_eq_true rfl, Nat.le_of_ble_eq_true rfl⟩) rfl rfl (Nat.le_of_ble_eq_true rfl) ⟨Nat.le_of_ble_eq_true rfl, Nat.le_of_ble_eq_true rfl⟩ dL_pots_436 ?_
                      refine gx_bipush (v := 7) C dL_pots_439 (by decide) ?_
                      refine gx_aload (q := 5) C dL_pots_441 rfl ?_
                      refine gx_iload (q := 8) C dL_pots_443 rfl ?_
                      refine gx_laldN C (lw_mb hI) (lw_eb hI) rfl (by omega) (by decide) dL_pots_445 ?_
                      refine gx_bipush (v := 7) C dL_pots_446 (by decide) ?_
                      refine gx_callRS C (k_L_part l (bi i) 7) (va_cwS 2 C.2.2.2.2.1 gL_pots_L_part rfl rfl rfl kdN_L_part ⟨Nat.le_of_ble_eq_true rfl, Nat.le_of_ble_eq_true rfl⟩) rfl rfl (Nat.le_of_ble_eq_true rfl) ⟨Nat.le_of_ble_eq_true rfl, Nat.le_of_ble_eq_true rfl⟩ dL_pots_448 ?_
                      refine gx_iconst (v := 1) C dL_pots_451 (by decide) ?_
                      refine gx_iadd C dL_pots_452 ?_
                      refine gx_callRS C (k_L_with l (wt (wt (bi i) 3 (lThen z.1 (bi i) (nI (80 + lo (yv >>> (5 &&& 31)) hk)))) 6 (if (lThen z.1 (bi i) (nI (80 + lo (yv >>> (5 &&& 31)) hk))) = 2 then (pt (bi i) 6) else (if (lThen z.1 (bi i) (nI (80 + lo (yv >>> (5 &&& 31)) hk))) = 3 then (pt (bi i) 6) else 0))) 7 ((pt (bi i) 7) + 1)) (va_cwS 3 C.2.2.2.2.1 gL_pots_L_with rfl rfl rfl kdN_L_with ⟨Nat.le_of_ble_eq_true rfl, Nat.le_of_ble_eq_true rfl⟩) rfl rfl (Nat.le_of_ble_eq_true rfl) ⟨Nat.le_of_ble_eq_true rfl, Nat.le_of_ble_eq_true rfl⟩ dL_pots_453 ?_
                      refine gx_lastN C hD (lw_mb hI) (lw_eb hI) rfl (by omega) (by decide) dL_pots_456 ?_
                      refine gx_Lb hI (fun f_23 hI_23 => ?_)
                      refine gx_join (pc2 := 474) ((if (lThen z.1 (bi i) (nI (80 + lo (yv >>> (5 &&& 31)) hk))) = 4 then 25 else (lFree (ub (z.1, bi, z.2.2) i (wt (wt (wt (bi i) 3 (lThen z.1 (bi i) (nI (80 + lo (yv >>> (5 &&& 31)) hk)))) 6 (if (lThen z.1 (bi i) (nI (80 + lo (yv >>> (5 &&& 31)) hk))) = 2 then (pt (bi i) 6) else (if (lThen z.1 (bi i) (nI (80 + lo (yv >>> (5 &&& 31)) hk))) = 3 then (pt (bi i) 6) else 0))) 7 ((pt (bi i) 7) + 1))).2.1 n)) : Int32) ?_ (fun jj_457 => ?_)
                      · skip
                        refine gx_istore C [(13, _), (12, _), (9, _), (11, _), (0, _), (3, _), (4, _), (5, _), (8, _), (10, _)] dL_pots_474 (by decide) rfl ?_
                        refine gx_aload (q := 6) C dL_pots_476 rfl ?_
                        refine gx_iload (q := 9) C dL_pots_478 rfl ?_
                        refine gx_aload (q := 6) C dL_pots_480 rfl ?_
                        refine gx_iload (q := 9) C dL_pots_482 rfl ?_
                        refine gx_laldN C (lw_mb hI_23) (lw_eb hI_23) rfl (by omega) (by decide) dL_pots_484 ?_
                        refine gx_topl (wt (wt (wt (bi i) 3 (lThen z.1 (bi i) (nI (80 + lo (yv >>> (5 &&& 31)) hk)))) 6 (if (lThen z.1 (bi i) (nI (80 + lo (yv >>> (5 &&& 31)) hk))) = 2 then (pt (bi i) 6) else (if (lThen z.1 (bi i) (nI (80 + lo (yv >>> (5 &&& 31)) hk))) = 3 then (pt (bi i) 6) else 0))) 7 ((pt (bi i) 7) + 1)) pk_uLs ?_
                        refine gx_iconst (v := 4) C dL_pots_485 (by decide) ?_
                        refine gx_iload (q := 0) C dL_pots_486 rfl ?_
                        refine gx_callRS C (k_L_with l (wt (wt (wt (bi i) 3 (lThen z.1 (bi i) (nI (80 + lo (yv >>> (5 &&& 31)) hk)))) 6 (if (lThen z.1 (bi i) (nI (80 + lo (yv >>> (5 &&& 31)) hk))) = 2 then (pt (bi i) 6) else (if (lThen z.1 (bi i) (nI (80 + lo (yv >>> (5 &&& 31)) hk))) = 3 then (pt (bi i) 6) else 0))) 7 ((pt (bi i) 7) + 1)) 4 (if (lThen z.1 (bi i) (nI (80 + lo (yv >>> (5 &&& 31)) hk))) = 4 then 25 else (lFree (ub (z.1, bi, z.2.2) i (wt (wt (wt (bi i) 3 (lThen z.1 (bi i) (nI (80 + lo (yv >>> (5 &&& 31)) hk)))) 6 (if (lThen z.1 (bi i) (nI (80 + lo (yv >>> (5 &&& 31)) hk))) = 2 then (pt (bi i) 6) else (if (lThen z.1 (bi i) (nI (80 + lo (yv >>> (5 &&& 31)) hk))) = 3 then (pt (bi i) 6) else 0))) 7 ((pt (bi i) 7) + 1))).2.1 n))) (va_cwS 3 C.2.2.2.2.1 gL_pots_L_with rfl rfl rfl kdN_L_with ⟨Nat.le_of_ble_eq_true rfl, Nat.le_of_ble_eq_true rfl⟩) rfl rfl (Nat.le_of_ble_eq_true rfl) ⟨Nat.le_of_ble_eq_true rfl, Nat.le_of_ble_eq_true rfl⟩ dL_pots_488 ?_
                        refine gx_lastN C hD (lw_mb hI_23) (lw_eb hI_23) rfl (by omega) (by decide) dL_pots_491 ?_
                        refine gx_Lb hI_23 (fun f_24 hI_24 => ?_)
                        refine gx_iinc C (q := 9) (v := nI (i + 1)) [(10, _), (13, _), (12, _), (9, _), (11, _), (0, _), (3, _), (4, _), (5, _), (8, _)] dL_pots_492 rfl (nI_inc i) (by decide) rfl ?_
                        refine gx_goto (tgt := 334) C dL_pots_495 (by decide) ?_
                        have hstep := LFi_s h hz (by omega) hlt_i hFi
                        have hk24 : pt (bi i) 4 = 24 := c_354
                        have hfp : zFP (mz zr) (nI (80 + lo (yv >>> (5 &&& 31)) hk)) (i + 1) = zFP (mz zr) (nI (80 + lo (yv >>> (5 &&& 31)) hk)) i + (if lThen z.1 (bi i) (nI (80 + lo (yv >>> (5 &&& 31)) hk)) = 4 then 1 else 0) := hstep.2.trans (if_pos hk24)
                        have hb1 : lFi1 z.1 bi n i (nI (80 + lo (yv >>> (5 &&& 31)) hk)) = _ := if_pos hk24
                        exact gx_back [5, 6, 7, 8, 9, 3, 0] (ihf (i + 1, lFi1 z.1 bi n i (nI (80 + lo (yv >>> (5 &&& 31)) hk)), _) ⟨by show i + 1 ≤ n; omega, by rw [hb1]; exact hI_24, hstep.1⟩ (by show n - (i + 1) < n - i; omega)) rfl (by show _ = [(0, _), (3, _), (4, _), (5, _), (8, _), (9, Value.int (zFP (mz zr) (nI (80 + lo (yv >>> (5 &&& 31)) hk)) (i + 1))), (10, _)]; rw [hfp]; rfl)
                      refine gx_iload (q := 2) C dL_pots_457 rfl ?_
                      refine gx_iconst (v := 4) C dL_pots_459 (by decide) ?_
                      refine gx_icmp_ne (tgt := 468) C dL_pots_460 (by decide) (fun c_460 => ?_) (fun c_460 => ?_)
                      · skip
                        refine gx_aload_n (q := 4) C dL_pots_468 rfl ?_
                        refine gx_aload (q := 5) C dL_pots_469 rfl ?_
                        refine gx_callRS C (k_L_free l (lw_mg hI_23) (lw_eg hI_23) (lw_mb hI_23) (lw_eb hI_23) hn hn2) (va_cwS 2 C.2.2.2.2.1 gL_pots_L_free rfl rfl rfl kdN_L_free ⟨Nat.le_of_ble_eq_true rfl, Nat.le_of_ble_eq_true rfl⟩) rfl rfl (Nat.le_of_ble_eq_true rfl) ⟨Nat.le_of_ble_eq_true rfl, Nat.le_of_ble_eq_true rfl⟩ dL_pots_471 ?_
                        exact jj_457 _ ((if_neg c_460).trans (rfl)).symm
                      · skip
                        refine gx_bipush (v := 25) C dL_pots_463 (by decide) ?_
                        refine gx_goto (tgt := 474) C dL_pots_465 (by decide) ?_
                        exact jj_457 _ ((if_pos c_460).trans (rfl)).symm
                    refine gx_iload (q := 1) C dL_pots_389 rfl ?_
                    refine gx_iconst (v := 2) C dL_pots_391 (by decide) ?_
                    refine gx_icmp_eq (tgt := 401) C dL_pots_392 (by decide) (fun c_392 => ?_) (fun c_392 => ?_)
                    · skip
                      refine gx_aload (q := 4) C dL_pots_401 rfl ?_
                      refine gx_iload (q := 7) C dL_pots_403 rfl ?_
                      refine gx_laldN C (lw_mb hI) (lw_eb hI) rfl (by omega) (by decide) dL_pots_405 ?_
                      refine gx_bipush (v := 6) C dL_pots_406 (by decide) ?_
                      refine gx_callRS C (k_L_part l (bi i) 6) (va_cwS 2 C.2.2.2.2.1 gL_pots_L_part rfl rfl rfl kdN_L_part ⟨Nat.le_of_ble_eq_true rfl, Nat.le_of_ble_eq_true rfl⟩) rfl rfl (Nat.le_of_ble_eq_true rfl) ⟨Nat.le_of_ble_eq_true rfl, Nat.le_of_ble_eq_true rfl⟩ dL_pots_408 ?_
                      refine gx_goto (tgt := 415) C dL_pots_411 (by decide) ?_
                      exact jj_389 _ ((if_pos c_392).trans (rfl)).symm
                    · skip
                      refine gx_iload (q := 1) C dL_pots_395 rfl ?_
                      refine gx_iconst (v := 3) C dL_pots_397 (by decide) ?_
                      refine gx_icmp_ne (tgt := 414) C dL_pots_398 (by decide) (fun c_398 => ?_) (fun c_398 => ?_)
                      · skip
                        refine gx_iconst (v := 0) C dL_pots_414 (by decide) ?_
                        exact jj_389 _ ((if_neg c_392).trans ((if_neg c_398).trans (rfl))).symm
                      · skip
                        refine gx_aload (q := 4) C dL_pots_401 rfl ?_
                        refine gx_iload (q := 7) C dL_pots_403 rfl ?_
                        refine gx_laldN C (lw_mb hI) (lw_eb hI) rfl (by omega) (by decide) dL_pots_405 ?_
                        refine gx_bipush (v := 6) C dL_pots_406 (by decide) ?_
                        refine gx_callRS C (k_L_part l (bi i) 6) (va_cwS 2 C.2.2.2.2.1 gL_pots_L_part rfl rfl rfl kdN_L_part ⟨Nat.le_of_ble_eq_true rfl, Nat.le_of_ble_eq_true rfl⟩) rfl rfl (Nat.le_of_ble_eq_true rfl) ⟨Nat.le_of_ble_eq_true rfl, Nat.le_of_ble_eq_true rfl⟩ dL_pots_408 ?_
                        refine gx_goto (tgt := 415) C dL_pots_411 (by decide) ?_
                        exact jj_389 _ ((if_neg c_392).trans ((if_pos c_398).trans (rfl))).symm
                  refine gx_iload (q := 0) C dL_pots_375 rfl ?_
                  refine gx_iconst (v := 4) C dL_pots_377 (by decide) ?_
                  refine gx_icmp_ne (tgt := 385) C dL_pots_378 (by decide) (fun c_378 => ?_) (fun c_378 => ?_)
                  · skip
                    refine gx_iconst (v := 0) C dL_pots_385 (by decide) ?_
                    exact jj_375 _ ((if_neg c_378).trans (rfl)).symm
                  · skip
                    refine gx_iconst (v := 1) C dL_pots_381 (by decide) ?_
                    refine gx_goto (tgt := 386) C dL_pots_382 (by decide) ?_
                    exact jj_375 _ ((if_pos c_378).trans (rfl)).symm
                · skip
                  refine gx_goto (tgt := 492) C dL_pots_357 (by decide) ?_
                  refine gx_iinc C (q := 6) (v := nI (i + 1)) [(10, _), (0, _), (3, _), (4, _), (5, _), (8, _), (9, _)] dL_pots_492 rfl (nI_inc i) (by decide) rfl ?_
                  refine gx_goto (tgt := 334) C dL_pots_495 (by decide) ?_
                  have hstep := LFi_s h hz (by omega) hlt_i hFi
                  have hk24 : ¬ pt (bi i) 4 = 24 := c_354
                  have hfp : zFP (mz zr) (nI (80 + lo (yv >>> (5 &&& 31)) hk)) (i + 1) = zFP (mz zr) (nI (80 + lo (yv >>> (5 &&& 31)) hk)) i := hstep.2.trans (if_neg hk24)
                  have hb1 : lFi1 z.1 bi n i (nI (80 + lo (yv >>> (5 &&& 31)) hk)) = bi := if_neg hk24
                  exact gx_back [1, 2, 3, 4, 5, 6, 0] (ihf (i + 1, lFi1 z.1 bi n i (nI (80 + lo (yv >>> (5 &&& 31)) hk)), _) ⟨by show i + 1 ≤ n; omega, by rw [hb1]; exact hI, hstep.1⟩ (by show n - (i + 1) < n - i; omega)) rfl (by show _ = [(0, _), (3, _), (4, _), (5, _), (8, _), (9, Value.int (zFP (mz zr) (nI (80 + lo (yv >>> (5 &&& 31)) hk)) (i + 1))), (10, _)]; rw [hfp]; rfl)
            · skip
              refine gx_aload_n (q := 3) C dL_pots_299 rfl ?_
              refine gx_iload (q := 0) C dL_pots_300 rfl ?_
              refine gx_callF C hD hI (k_X6_fire l hL1 hI.1 h.1 (IV_ok h) _) (cwV 1 C.2.2.2.2.1 gL_pots_X6_fire rfl rfl rfl kdV_X6_fire ⟨Nat.le_of_ble_eq_true rfl, Nat.le_of_ble_eq_true rfl⟩) rfl rfl (Nat.le_of_ble_eq_true rfl) ⟨Nat.le_of_ble_eq_true rfl, Nat.le_of_ble_eq_true rfl⟩ dL_pots_302 (fun f_25 hI_25 => ?_)
              obtain ⟨hv_302, hJ_302⟩ := fire_0 (ht := 80 + lo (yv >>> (5 &&& 31)) hk) h hz (by omega) (by omega) c_296
              refine gx_top (-5) hv_302 ?_
              refine gx_bipush (v := (-5)) C dL_pots_305 (by decide) ?_
              refine gx_icmp_ne (tgt := 326) C dL_pots_307 (by decide) (fun c_307 => ?_) (fun c_307 => ?_)
              exact absurd (by decide) c_307
              refine gx_aload_n (q := 3) C dL_pots_310 rfl ?_
              refine gx_sipush (v := 141) C dL_pots_311 (by decide) ?_
              refine gx_callF C hD hI_25 (k_X6_fire l hL1 hI_25.1 hJ_302.1 (IV_ok hJ_302) _) (cwV 1 C.2.2.2.2.1 gL_pots_X6_fire rfl rfl rfl kdV_X6_fire ⟨Nat.le_of_ble_eq_true rfl, Nat.le_of_ble_eq_true rfl⟩) rfl rfl (Nat.le_of_ble_eq_true rfl) ⟨Nat.le_of_ble_eq_true rfl, Nat.le_of_ble_eq_true rfl⟩ dL_pots_314 (fun f_26 hI_26 => ?_)
              obtain ⟨hv_314, hJ_314⟩ := fire_out (ht := 141) hJ_302 (Or.inr (by decide)) (by decide)
              refine gx_top (-2) hv_314 ?_
              refine gx_bipush (v := (-2)) C dL_pots_317 (by decide) ?_
              refine gx_icmp_ne (tgt := 326) C dL_pots_319 (by decide) (fun c_319 => ?_) (fun c_319 => ?_)
              exact absurd (by decide) c_319
              refine gx_iconst (v := 1) C dL_pots_322 (by decide) ?_
              refine gx_goto (tgt := 327) C dL_pots_323 (by decide) ?_
              exact gx_zretL C hr dL_pots_327 rfl ⟨rfl, _, _, _, hI_26, IV_m hJ_314 (Nat.le_succ _)⟩
          refine gx_iload_n (q := 4) C dL_pots_269 rfl ?_
          refine gx_iconst (v := 4) C dL_pots_270 (by decide) ?_
          refine gx_ishr C dL_pots_271 ?_
          refine gx_iconst (v := 1) C dL_pots_272 (by decide) ?_
          refine gx_iand C dL_pots_273 ?_
          refine gx_if_ne (tgt := 282) C dL_pots_274 (by decide) (fun c_274 => ?_) (fun c_274 => ?_)
          · skip
            refine gx_bipush (v := 42) C dL_pots_282 (by decide) ?_
            exact jj_269 _ ((if_neg c_274).trans (rfl)).symm
          · skip
            refine gx_bipush (v := 61) C dL_pots_277 (by decide) ?_
            refine gx_goto (tgt := 284) C dL_pots_279 (by decide) ?_
            exact jj_269 _ ((if_pos c_274).trans (rfl)).symm
      · skip
        refine gx_aload (q := 6) C dL_pots_182 rfl ?_
        refine gx_iload (q := 0) C dL_pots_184 rfl ?_
        refine gx_laldN C (lw_mb hI) (lw_eb hI) rfl (by omega) (by decide) dL_pots_186 ?_
        refine gx_iconst (v := 4) C dL_pots_187 (by decide) ?_
        refine gx_callRS C (k_L_part l (z.2.1 (lo yv n)) 4) (va_cwS 2 C.2.2.2.2.1 gL_pots_L_part rfl rfl rfl kdN_L_part ⟨Nat.le_of_ble_eq_true rfl, Nat.le_of_ble_eq_true rfl⟩) rfl rfl (Nat.le_of_ble_eq_true rfl) ⟨Nat.le_of_ble_eq_true rfl, Nat.le_of_ble_eq_true rfl⟩ dL_pots_188 ?_
        refine gx_bipush (v := 24) C dL_pots_191 (by decide) ?_
        refine gx_icmp_eq (tgt := 213) C dL_pots_193 (by decide) (fun c_193 => ?_) (fun c_193 => ?_)
        · skip
          refine gx_aload_n (q := 5) C dL_pots_213 rfl ?_
          refine gx_aload (q := 6) C dL_pots_214 rfl ?_
          refine gx_callRS C (k_L_free l (lw_mg hI) (lw_eg hI) (lw_mb hI) (lw_eb hI) hn hn2) (va_cwS 2 C.2.2.2.2.1 gL_pots_L_free rfl rfl rfl kdN_L_free ⟨Nat.le_of_ble_eq_true rfl, Nat.le_of_ble_eq_true rfl⟩) rfl rfl (Nat.le_of_ble_eq_true rfl) ⟨Nat.le_of_ble_eq_true rfl, Nat.le_of_ble_eq_true rfl⟩ dL_pots_216 ?_
          refine gx_top (nI pl) epl ?_
          refine gx_istore C [(8, _), (7, _), (6, _), (0, _), (1, _), (2, _), (3, _), (4, _), (5, _)] dL_pots_219 (by decide) rfl ?_
          refine gx_aload (q := 7) C dL_pots_221 rfl ?_
          refine gx_iload (q := 1) C dL_pots_223 rfl ?_
          refine gx_aload (q := 7) C dL_pots_225 rfl ?_
          refine gx_iload (q := 1) C dL_pots_227 rfl ?_
          refine gx_laldN C (lw_mb hI) (lw_eb hI) rfl (by omega) (by decide) dL_pots_229 ?_
          refine gx_iconst (v := 4) C dL_pots_230 (by decide) ?_
          refine gx_iload (q := 0) C dL_pots_231 rfl ?_
          refine gx_callRS C (k_L_with l (z.2.1 (lo yv n)) 4 (nI pl)) (va_cwS 3 C.2.2.2.2.1 gL_pots_L_with rfl rfl rfl kdN_L_with ⟨Nat.le_of_ble_eq_true rfl, Nat.le_of_ble_eq_true rfl⟩) rfl rfl (Nat.le_of_ble_eq_true rfl) ⟨Nat.le_of_ble_eq_true rfl, Nat.le_of_ble_eq_true rfl⟩ dL_pots_233 ?_
          refine gx_lastN C hD (lw_mb hI) (lw_eb hI) rfl (by omega) (by decide) dL_pots_236 ?_
          refine gx_Lb hI (fun f_27 hI_27 => ?_)
          refine gx_aload_n (q := 3) C dL_pots_237 rfl ?_
          refine gx_iload (q := 1) C dL_pots_238 rfl ?_
          refine gx_callF C hD hI_27 (k_X6_unload l hL1 hI_27.1 h.1 (IV_ok h) _) (cwV 1 C.2.2.2.2.1 gL_pots_X6_unload rfl rfl rfl kdV_X6_unload ⟨Nat.le_of_ble_eq_true rfl, Nat.le_of_ble_eq_true rfl⟩) rfl rfl (Nat.le_of_ble_eq_true rfl) ⟨Nat.le_of_ble_eq_true rfl, Nat.le_of_ble_eq_true rfl⟩ dL_pots_240 (fun f_28 hI_28 => ?_)
          obtain ⟨hv_240, zr_240, hJ_240⟩ := unload_do h hz hq hpl epz c_193
          refine gx_iload (q := 0) C dL_pots_243 rfl ?_
          refine gx_bipush (v := 8) C dL_pots_245 (by decide) ?_
          refine gx_idiv C (by decide) dL_pots_247 ?_
          refine gx_icmp_ne (tgt := 255) C dL_pots_248 (by decide) (fun c_248 => ?_) (fun c_248 => ?_)
          · skip
            exact absurd hv_240 c_248
          · skip
            refine gx_iconst (v := 1) C dL_pots_251 (by decide) ?_
            refine gx_goto (tgt := 256) C dL_pots_252 (by decide) ?_
            exact gx_zretL C hr dL_pots_256 rfl ⟨rfl, _, _, _, hI_28, hJ_240⟩
        · skip
          refine gx_aload_n (q := 2) C dL_pots_196 rfl ?_
          refine gx_iload (q := 0) C dL_pots_197 rfl ?_
          refine gx_callF C hD hI (k_X6_unload l hL1 hI.1 h.1 (IV_ok h) _) (cwV 1 C.2.2.2.2.1 gL_pots_X6_unload rfl rfl rfl kdV_X6_unload ⟨Nat.le_of_ble_eq_true rfl, Nat.le_of_ble_eq_true rfl⟩) rfl rfl (Nat.le_of_ble_eq_true rfl) ⟨Nat.le_of_ble_eq_true rfl, Nat.le_of_ble_eq_true rfl⟩ dL_pots_199 (fun f_29 hI_29 => ?_)
          obtain ⟨hv_199, hJ_199⟩ := unload_no h hz hq c_193
          refine gx_top (-5) hv_199 ?_
          refine gx_bipush (v := (-5)) C dL_pots_202 (by decide) ?_
          refine gx_icmp_ne (tgt := 211) C dL_pots_204 (by decide) (fun c_204 => ?_) (fun c_204 => ?_)
          exact absurd (by decide) c_204
          refine gx_iconst (v := 1) C dL_pots_207 (by decide) ?_
          refine gx_goto (tgt := 212) C dL_pots_208 (by decide) ?_
          exact gx_zretL C hr dL_pots_212 rfl ⟨rfl, _, _, _, hI_29, IV_m hJ_199 (Nat.le_succ _)⟩
    · skip
      refine gx_iload (q := 0) C dL_pots_96 rfl ?_
      refine gx_aload_n (q := 5) C dL_pots_98 rfl ?_
      refine gx_aload (q := 6) C dL_pots_99 rfl ?_
      refine gx_callRS C (k_L_why l (lw_mg hI) (lw_eg hI) (lw_mb hI) (lw_eb hI) (lo yv n) hn hn2 (by omega)) (va_cwS 3 C.2.2.2.2.1 gL_pots_L_why rfl rfl rfl kdN_L_why ⟨Nat.le_of_ble_eq_true rfl, Nat.le_of_ble_eq_true rfl⟩) rfl rfl (Nat.le_of_ble_eq_true rfl) ⟨Nat.le_of_ble_eq_true rfl, Nat.le_of_ble_eq_true rfl⟩ dL_pots_101 ?_
      refine gx_istore C [(8, _), (7, _), (6, _), (0, _), (1, _), (2, _), (3, _), (4, _), (5, _)] dL_pots_104 (by decide) rfl ?_
      refine gx_iload (q := 0) C dL_pots_106 rfl ?_
      refine gx_if_le (tgt := 139) C dL_pots_108 (by decide) (fun c_108 => ?_) (fun c_108 => ?_)
      · skip
        refine gx_aload (q := 7) C dL_pots_139 rfl ?_
        refine gx_iload (q := 1) C dL_pots_141 rfl ?_
        refine gx_aload (q := 7) C dL_pots_143 rfl ?_
        refine gx_iload (q := 1) C dL_pots_145 rfl ?_
        refine gx_laldN C (lw_mb hI) (lw_eb hI) rfl (by omega) (by decide) dL_pots_147 ?_
        refine gx_iconst (v := 4) C dL_pots_148 (by decide) ?_
        refine gx_bipush (v := 24) C dL_pots_149 (by decide) ?_
        refine gx_callRS C (k_L_with l (z.2.1 (lo yv n)) 4 24) (va_cwS 3 C.2.2.2.2.1 gL_pots_L_with rfl rfl rfl kdN_L_with ⟨Nat.le_of_ble_eq_true rfl, Nat.le_of_ble_eq_true rfl⟩) rfl rfl (Nat.le_of_ble_eq_true rfl) ⟨Nat.le_of_ble_eq_true rfl, Nat.le_of_ble_eq_true rfl⟩ dL_pots_151 ?_
        refine gx_lastN C hD (lw_mb hI) (lw_eb hI) rfl (by omega) (by decide) dL_pots_154 ?_
        refine gx_Lb hI (fun f_30 hI_30 => ?_)
        refine gx_aload_n (q := 3) C dL_pots_155 rfl ?_
        refine gx_iload (q := 1) C dL_pots_156 rfl ?_
        refine gx_callF C hD hI_30 (k_X6_load l hL1 hI_30.1 h.1 (IV_ok h) _) (cwV 1 C.2.2.2.2.1 gL_pots_X6_load rfl rfl rfl kdV_X6_load ⟨Nat.le_of_ble_eq_true rfl, Nat.le_of_ble_eq_true rfl⟩) rfl rfl (Nat.le_of_ble_eq_true rfl) ⟨Nat.le_of_ble_eq_true rfl, Nat.le_of_ble_eq_true rfl⟩ dL_pots_158 (fun f_31 hI_31 => ?_)
        obtain ⟨hv_158, zr_158, hJ_158⟩ := load_do h hz hq c_108
        refine gx_aload_n (q := 6) C dL_pots_161 rfl ?_
        refine gx_aload (q := 7) C dL_pots_162 rfl ?_
        refine gx_callRS C (k_L_inKiln l (lw_mg hI_31) (lw_eg hI_31) (lw_mb hI_31) (lw_eb hI_31) hn hn2) (va_cwS 2 C.2.2.2.2.1 gL_pots_L_inKiln rfl rfl rfl kdN_L_inKiln ⟨Nat.le_of_ble_eq_true rfl, Nat.le_of_ble_eq_true rfl⟩) rfl rfl (Nat.le_of_ble_eq_true rfl) ⟨Nat.le_of_ble_eq_true rfl, Nat.le_of_ble_eq_true rfl⟩ dL_pots_164 ?_
        refine gx_icmp_ne (tgt := 174) C dL_pots_167 (by decide) (fun c_167 => ?_) (fun c_167 => ?_)
        · skip
          exact absurd hv_158 c_167
        · skip
          refine gx_iconst (v := 1) C dL_pots_170 (by decide) ?_
          refine gx_goto (tgt := 175) C dL_pots_171 (by decide) ?_
          exact gx_zretL C hr dL_pots_175 rfl ⟨rfl, _, _, _, hI_31, hJ_158⟩
      · skip
        refine gx_aload_n (q := 3) C dL_pots_111 rfl ?_
        refine gx_iload (q := 1) C dL_pots_112 rfl ?_
        refine gx_callF C hD hI (k_X6_load l hL1 hI.1 h.1 (IV_ok h) _) (cwV 1 C.2.2.2.2.1 gL_pots_X6_load rfl rfl rfl kdV_X6_load ⟨Nat.le_of_ble_eq_true rfl, Nat.le_of_ble_eq_true rfl⟩) rfl rfl (Nat.le_of_ble_eq_true rfl) ⟨Nat.le_of_ble_eq_true rfl, Nat.le_of_ble_eq_true rfl⟩ dL_pots_114 (fun f_32 hI_32 => ?_)
        obtain ⟨hv_114, hJ_114⟩ := load_no h hz hq c_108
        refine gx_top (-5) hv_114 ?_
        refine gx_bipush (v := (-5)) C dL_pots_117 (by decide) ?_
        refine gx_icmp_ne (tgt := 137) C dL_pots_119 (by decide) (fun c_119 => ?_) (fun c_119 => ?_)
        exact absurd (by decide) c_119
        refine gx_aload_n (q := 3) C dL_pots_122 rfl ?_
        refine gx_iload (q := 1) C dL_pots_123 rfl ?_
        refine gx_callQ C hI_32 (k_X6_why l (lw_pn hI_32) (IV_ok hJ_114) _) (cwV 1 C.2.2.2.2.1 gL_pots_X6_why rfl rfl rfl kdV_X6_why ⟨Nat.le_of_ble_eq_true rfl, Nat.le_of_ble_eq_true rfl⟩) rfl rfl (Nat.le_of_ble_eq_true rfl) ⟨Nat.le_of_ble_eq_true rfl, Nat.le_of_ble_eq_true rfl⟩ dL_pots_125 ?_
        refine gx_iload (q := 0) C dL_pots_128 rfl ?_
        refine gx_icmp_ne (tgt := 137) C dL_pots_130 (by decide) (fun c_130 => ?_) (fun c_130 => ?_)
        · skip
          exact absurd (A_why hJ_114 hz hq) c_130
        · skip
          refine gx_iconst (v := 1) C dL_pots_133 (by decide) ?_
          refine gx_goto (tgt := 138) C dL_pots_134 (by decide) ?_
          exact gx_zretL C hr dL_pots_138 rfl ⟨rfl, _, _, _, hI_32, IV_m hJ_114 (Nat.le_succ _)⟩
  · skip
    have hn0 : n = 0 := (nI_eq (b := 0) (by omega) (by decide)).mp (hn.symm.trans c_12)
    subst hn0
    refine gx_aload_n (q := 1) C dL_pots_15 rfl ?_
    refine gx_iconst (v := 0) C dL_pots_16 (by decide) ?_
    refine gx_callF C hD hI (k_X6_load l hL1 hI.1 h.1 (IV_ok h) _) (cwV 1 C.2.2.2.2.1 gL_pots_X6_load rfl rfl rfl kdV_X6_load ⟨Nat.le_of_ble_eq_true rfl, Nat.le_of_ble_eq_true rfl⟩) rfl rfl (Nat.le_of_ble_eq_true rfl) ⟨Nat.le_of_ble_eq_true rfl, Nat.le_of_ble_eq_true rfl⟩ dL_pots_17 (fun f_33 hI_33 => ?_)
    obtain ⟨hv_17, hJ_17⟩ := Z_load h hz 0
    refine gx_top (-1) hv_17 ?_
    refine gx_iconst (v := (-1)) C dL_pots_20 (by decide) ?_
    refine gx_icmp_ne (tgt := 78) C dL_pots_21 (by decide) (fun c_21 => ?_) (fun c_21 => ?_)
    exact absurd (by decide) c_21
    refine gx_aload_n (q := 1) C dL_pots_24 rfl ?_
    refine gx_iconst (v := (-1)) C dL_pots_25 (by decide) ?_
    refine gx_callF C hD hI_33 (k_X6_unload l hL1 hI_33.1 hJ_17.1 (IV_ok hJ_17) _) (cwV 1 C.2.2.2.2.1 gL_pots_X6_unload rfl rfl rfl kdV_X6_unload ⟨Nat.le_of_ble_eq_true rfl, Nat.le_of_ble_eq_true rfl⟩) rfl rfl (Nat.le_of_ble_eq_true rfl) ⟨Nat.le_of_ble_eq_true rfl, Nat.le_of_ble_eq_true rfl⟩ dL_pots_26 (fun f_34 hI_34 => ?_)
    obtain ⟨hv_26, hJ_26⟩ := Z_unload hJ_17 hz (-1)
    refine gx_top (-1) hv_26 ?_
    refine gx_iconst (v := (-1)) C dL_pots_29 (by decide) ?_
    refine gx_icmp_ne (tgt := 78) C dL_pots_30 (by decide) (fun c_30 => ?_) (fun c_30 => ?_)
    exact absurd (by decide) c_30
    refine gx_aload_n (q := 1) C dL_pots_33 rfl ?_
    refine gx_iconst (v := 0) C dL_pots_34 (by decide) ?_
    refine gx_iconst (v := 4) C dL_pots_35 (by decide) ?_
    refine gx_callF C hD hI_34 (k_X6_glaze l hL1 hI_34.1 hJ_26.1 (IV_ok hJ_26) _ _) (cwV 2 C.2.2.2.2.1 gL_pots_X6_glaze rfl rfl rfl kdV_X6_glaze ⟨Nat.le_of_ble_eq_true rfl, Nat.le_of_ble_eq_true rfl⟩) rfl rfl (Nat.le_of_ble_eq_true rfl) ⟨Nat.le_of_ble_eq_true rfl, Nat.le_of_ble_eq_true rfl⟩ dL_pots_36 (fun f_35 hI_35 => ?_)
    obtain ⟨hv_36, hJ_36⟩ := Z_glaze hJ_26 hz 0 4
    refine gx_top (-1) hv_36 ?_
    refine gx_iconst (v := (-1)) C dL_pots_39 (by decide) ?_
    refine gx_icmp_ne (tgt := 78) C dL_pots_40 (by decide) (fun c_40 => ?_) (fun c_40 => ?_)
    exact absurd (by decide) c_40
    refine gx_aload_n (q := 1) C dL_pots_43 rfl ?_
    refine gx_iconst (v := 0) C dL_pots_44 (by decide) ?_
    refine gx_callF C hD hI_35 (k_X6_takeHome l hL1 hI_35.1 hJ_36.1 (IV_ok hJ_36) _) (cwV 1 C.2.2.2.2.1 gL_pots_X6_takeHome rfl rfl rfl kdV_X6_takeHome ⟨Nat.le_of_ble_eq_true rfl, Nat.le_of_ble_eq_true rfl⟩) rfl rfl (Nat.le_of_ble_eq_true rfl) ⟨Nat.le_of_ble_eq_true rfl, Nat.le_of_ble_eq_true rfl⟩ dL_pots_45 (fun f_36 hI_36 => ?_)
    obtain ⟨hv_45, hJ_45⟩ := Z_home hJ_36 hz 0
    refine gx_top (-1) hv_45 ?_
    refine gx_iconst (v := (-1)) C dL_pots_48 (by decide) ?_
    refine gx_icmp_ne (tgt := 78) C dL_pots_49 (by decide) (fun c_49 => ?_) (fun c_49 => ?_)
    exact absurd (by decide) c_49
    refine gx_aload_n (q := 1) C dL_pots_52 rfl ?_
    refine gx_bipush (v := 100) C dL_pots_53 (by decide) ?_
    refine gx_callF C hD hI_36 (k_X6_fire l hL1 hI_36.1 hJ_45.1 (IV_ok hJ_45) _) (cwV 1 C.2.2.2.2.1 gL_pots_X6_fire rfl rfl rfl kdV_X6_fire ⟨Nat.le_of_ble_eq_true rfl, Nat.le_of_ble_eq_true rfl⟩) rfl rfl (Nat.le_of_ble_eq_true rfl) ⟨Nat.le_of_ble_eq_true rfl, Nat.le_of_ble_eq_true rfl⟩ dL_pots_55 (fun f_37 hI_37 => ?_)
    obtain ⟨hv_55, hJ_55⟩ := fire_0 (ht := 100) hJ_45 hz (by decide) (by decide) rfl
    refine gx_top (-5) hv_55 ?_
    refine gx_bipush (v := (-5)) C dL_pots_58 (by decide) ?_
    refine gx_icmp_ne (tgt := 78) C dL_pots_60 (by decide) (fun c_60 => ?_) (fun c_60 => ?_)
    exact absurd (by decide) c_60
    refine gx_aload_n (q := 1) C dL_pots_63 rfl ?_
    refine gx_bipush (v := 79) C dL_pots_64 (by decide) ?_
    refine gx_callF C hD hI_37 (k_X6_fire l hL1 hI_37.1 hJ_55.1 (IV_ok hJ_55) _) (cwV 1 C.2.2.2.2.1 gL_pots_X6_fire rfl rfl rfl kdV_X6_fire ⟨Nat.le_of_ble_eq_true rfl, Nat.le_of_ble_eq_true rfl⟩) rfl rfl (Nat.le_of_ble_eq_true rfl) ⟨Nat.le_of_ble_eq_true rfl, Nat.le_of_ble_eq_true rfl⟩ dL_pots_66 (fun f_38 hI_38 => ?_)
    obtain ⟨hv_66, hJ_66⟩ := fire_out (ht := 79) hJ_55 (Or.inl (by decide)) (by decide)
    refine gx_top (-2) hv_66 ?_
    refine gx_bipush (v := (-2)) C dL_pots_69 (by decide) ?_
    refine gx_icmp_ne (tgt := 78) C dL_pots_71 (by decide) (fun c_71 => ?_) (fun c_71 => ?_)
    exact absurd (by decide) c_71
    refine gx_iconst (v := 1) C dL_pots_74 (by decide) ?_
    refine gx_goto (tgt := 79) C dL_pots_75 (by decide) ?_
    exact gx_zretL C hr dL_pots_79 rfl ⟨rfl, _, _, _, hI_38, IV_m hJ_66 (Nat.le_succ _)⟩
