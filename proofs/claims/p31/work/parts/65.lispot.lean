theorem kdN_L_isPot : yL_isPot.cls ≠ "java/lang/invoke/MethodHandle" ∧ yL_isPot.cls ≠ "java/lang/invoke/VarHandle" ∧ (parseMethodDescriptor yL_isPot.desc).map (fun d => d.parameters.length) = some 4 := by decide +kernel
theorem kdV_L_isPot : yL_isPot.cls = RL ∧ yL_isPot.cls ≠ "java/lang/invoke/MethodHandle" ∧ yL_isPot.cls ≠ "java/lang/invoke/VarHandle" ∧ (parseMethodDescriptor yL_isPot.desc).map (fun d => d.parameters.length) = some 4 := ⟨rfl, kdN_L_isPot⟩
abbrev rmL_isPot : Room := { frames := 5, cells := 0, slots := 0, locals := 109 }
set_option maxHeartbeats 4000000 in
set_option maxRecDepth 100000 in
theorem k_L_isPot (l : Launch) {k : gK} {f : Nat → va_E} {L1 L2 : List Nat} {AA : Nat → Nat} {q : PS} {B : Nat → Nat} {z : ZS} (hI : isLW k L1 L2 f AA q B z) {J n np nt x0 : Nat} {zr : Nat → Int32} (h : IV J q zr z) (hz : LZn J n np nt x0 zr z) (hJ : J ≤ 100) (pq : Nat) (hq : pq < n) : kR l k (L1 ++ L2) f yL_isPot wsL_isPot rmL_isPot [.ref (AA 0), .int (nI pq), .ref (B 0), .ref (B 1)] (.int 1) := by
  refine kR_of (cc := cL_isPot) (maxL := 10) (ret := (some .boolean)) (by decide) rfl (Nat.le_of_ble_eq_true rfl) ?_
  intro p e s m args below meth c C hr
  have hn : z.1 7 = nI n := (hz.2.2.1 7 (by decide)).trans hz.2.1.1
  have hn2 : n ≤ 20 := hz.1.1
  have hnp : z.1 6 = nI np := (hz.2.2.1 6 (by decide)).trans hz.2.1.2.1
  have hnp2 : np ≤ 10 := hz.1.2.1
  refine gx_lv [(0, _), (1, _), (2, _), (3, _)] [0, 1, 2, 3] rfl ?_
  refine gx_bipush (v := (-6)) C dL_isPot_0 (by decide) ?_
  refine gx_istore C [(4, _), (0, _), (1, _), (2, _), (3, _)] dL_isPot_2 (by decide) rfl ?_
  refine gx_aload_n (q := 4) C dL_isPot_4 rfl ?_
  refine gx_iload_n (q := 2) C dL_isPot_5 rfl ?_
  refine gx_laldN C (lw_mb hI) (lw_eb hI) rfl (by omega) (by decide) dL_isPot_6 ?_
  refine gx_iconst (v := 4) C dL_isPot_7 (by decide) ?_
  refine gx_callRS C (k_L_part l (z.2.1 pq) 4) (va_cwS 2 C.2.2.2.2.1 gL_isPot_L_part rfl rfl rfl kdN_L_part ⟨Nat.le_of_ble_eq_true rfl, Nat.le_of_ble_eq_true rfl⟩) rfl rfl (Nat.le_of_ble_eq_true rfl) ⟨Nat.le_of_ble_eq_true rfl, Nat.le_of_ble_eq_true rfl⟩ dL_isPot_8 ?_
  refine gx_istore C [(5, _), (4, _), (0, _), (1, _), (2, _), (3, _)] dL_isPot_11 (by decide) rfl ?_
  refine gx_aload_n (q := 5) C dL_isPot_13 rfl ?_
  refine gx_iload_n (q := 3) C dL_isPot_14 rfl ?_
  refine gx_laldN C (lw_mb hI) (lw_eb hI) rfl (by omega) (by decide) dL_isPot_15 ?_
  refine gx_iconst (v := 3) C dL_isPot_16 (by decide) ?_
  refine gx_callRS C (k_L_part l (z.2.1 pq) 3) (va_cwS 2 C.2.2.2.2.1 gL_isPot_L_part rfl rfl rfl kdN_L_part ⟨Nat.le_of_ble_eq_true rfl, Nat.le_of_ble_eq_true rfl⟩) rfl rfl (Nat.le_of_ble_eq_true rfl) ⟨Nat.le_of_ble_eq_true rfl, Nat.le_of_ble_eq_true rfl⟩ dL_isPot_17 ?_
  refine gx_istore C [(6, _), (5, _), (4, _), (0, _), (1, _), (2, _), (3, _)] dL_isPot_20 (by decide) rfl ?_
  refine gx_aload_n (q := 6) C dL_isPot_22 rfl ?_
  refine gx_iload_n (q := 4) C dL_isPot_23 rfl ?_
  refine gx_laldN C (lw_mb hI) (lw_eb hI) rfl (by omega) (by decide) dL_isPot_24 ?_
  refine gx_iconst (v := 5) C dL_isPot_25 (by decide) ?_
  refine gx_callRS C (k_L_part l (z.2.1 pq) 5) (va_cwS 2 C.2.2.2.2.1 gL_isPot_L_part rfl rfl rfl kdN_L_part ⟨Nat.le_of_ble_eq_true rfl, Nat.le_of_ble_eq_true rfl⟩) rfl rfl (Nat.le_of_ble_eq_true rfl) ⟨Nat.le_of_ble_eq_true rfl, Nat.le_of_ble_eq_true rfl⟩ dL_isPot_26 ?_
  refine gx_istore C [(7, _), (6, _), (5, _), (4, _), (0, _), (1, _), (2, _), (3, _)] dL_isPot_29 (by decide) rfl ?_
  refine gx_aload_n (q := 6) C dL_isPot_31 rfl ?_
  refine gx_iconst (v := 2) C dL_isPot_32 (by decide) ?_
  refine gx_ialdN C (lw_mg hI) (lw_eg hI) (nLit 2) (by omega) (by decide) dL_isPot_33 ?_
  refine gx_aload_n (q := 7) C dL_isPot_34 rfl ?_
  refine gx_iload_n (q := 5) C dL_isPot_35 rfl ?_
  refine gx_laldN C (lw_mb hI) (lw_eb hI) rfl (by omega) (by decide) dL_isPot_36 ?_
  refine gx_iconst (v := 1) C dL_isPot_37 (by decide) ?_
  refine gx_callRS C (k_L_part l (z.2.1 pq) 1) (va_cwS 2 C.2.2.2.2.1 gL_isPot_L_part rfl rfl rfl kdN_L_part ⟨Nat.le_of_ble_eq_true rfl, Nat.le_of_ble_eq_true rfl⟩) rfl rfl (Nat.le_of_ble_eq_true rfl) ⟨Nat.le_of_ble_eq_true rfl, Nat.le_of_ble_eq_true rfl⟩ dL_isPot_38 ?_
  refine gx_imul C dL_isPot_41 ?_
  refine gx_iload (q := 0) C dL_isPot_42 rfl ?_
  refine gx_isub C dL_isPot_44 ?_
  refine gx_istore C [(8, _), (7, _), (6, _), (5, _), (4, _), (0, _), (1, _), (2, _), (3, _)] dL_isPot_45 (by decide) rfl ?_
  refine gx_join (pc2 := 99) ((if (pt (z.2.1 pq) 3) = 0 then (if (pt (z.2.1 pq) 4) = 24 then (-5) else (if 1 ≤ (((z.1 2) * (pt (z.2.1 pq) 1)) - (pt (z.2.1 pq) 5)) then (if 8 ≤ (pt (z.2.1 pq) 4) then (((z.1 2) * (pt (z.2.1 pq) 1)) - (pt (z.2.1 pq) 5)) else (((((z.1 2) * (pt (z.2.1 pq) 1)) - (pt (z.2.1 pq) 5)) / 2) + ((((z.1 2) * (pt (z.2.1 pq) 1)) - (pt (z.2.1 pq) 5)) - (((z.1 2) * (pt (z.2.1 pq) 1)) - (pt (z.2.1 pq) 5)) / 2 * 2))) else 0)) else 0) : Int32) ?_ (fun jj_47 => ?_)
  · skip
    refine gx_istore C [(9, _), (8, _), (7, _), (6, _), (5, _), (4, _), (0, _), (1, _), (2, _), (3, _)] dL_isPot_99 (by decide) rfl ?_
    refine gx_aload_n (q := 6) C dL_isPot_101 rfl ?_
    refine gx_iload_n (q := 7) C dL_isPot_102 rfl ?_
    refine gx_iconst (v := 0) C dL_isPot_103 (by decide) ?_
    refine gx_callQ C hI (k_X6_of l (lw_pn hI) (IV_ok h) _ _) (cwV 2 C.2.2.2.2.1 gL_isPot_X6_of rfl rfl rfl kdV_X6_of ⟨Nat.le_of_ble_eq_true rfl, Nat.le_of_ble_eq_true rfl⟩) rfl rfl (Nat.le_of_ble_eq_true rfl) ⟨Nat.le_of_ble_eq_true rfl, Nat.le_of_ble_eq_true rfl⟩ dL_isPot_104 ?_
    refine gx_aload_n (q := 9) C dL_isPot_107 rfl ?_
    refine gx_iload_n (q := 7) C dL_isPot_108 rfl ?_
    refine gx_laldN C (lw_mb hI) (lw_eb hI) rfl (by omega) (by decide) dL_isPot_109 ?_
    refine gx_iconst (v := 0) C dL_isPot_110 (by decide) ?_
    refine gx_callRS C (k_L_part l (z.2.1 pq) 0) (va_cwS 2 C.2.2.2.2.1 gL_isPot_L_part rfl rfl rfl kdN_L_part ⟨Nat.le_of_ble_eq_true rfl, Nat.le_of_ble_eq_true rfl⟩) rfl rfl (Nat.le_of_ble_eq_true rfl) ⟨Nat.le_of_ble_eq_true rfl, Nat.le_of_ble_eq_true rfl⟩ dL_isPot_111 ?_
    refine gx_icmp_ne (tgt := 325) C dL_isPot_114 (by decide) (fun c_114 => ?_) (fun c_114 => ?_)
    · skip
      exact absurd (A_of0 h hz hJ hq) c_114
    · skip
      refine gx_aload_n (q := 6) C dL_isPot_117 rfl ?_
      refine gx_iload_n (q := 7) C dL_isPot_118 rfl ?_
      refine gx_iconst (v := 1) C dL_isPot_119 (by decide) ?_
      refine gx_callQ C hI (k_X6_of l (lw_pn hI) (IV_ok h) _ _) (cwV 2 C.2.2.2.2.1 gL_isPot_X6_of rfl rfl rfl kdV_X6_of ⟨Nat.le_of_ble_eq_true rfl, Nat.le_of_ble_eq_true rfl⟩) rfl rfl (Nat.le_of_ble_eq_true rfl) ⟨Nat.le_of_ble_eq_true rfl, Nat.le_of_ble_eq_true rfl⟩ dL_isPot_120 ?_
      refine gx_aload_n (q := 9) C dL_isPot_123 rfl ?_
      refine gx_iload_n (q := 7) C dL_isPot_124 rfl ?_
      refine gx_laldN C (lw_mb hI) (lw_eb hI) rfl (by omega) (by decide) dL_isPot_125 ?_
      refine gx_iconst (v := 1) C dL_isPot_126 (by decide) ?_
      refine gx_callRS C (k_L_part l (z.2.1 pq) 1) (va_cwS 2 C.2.2.2.2.1 gL_isPot_L_part rfl rfl rfl kdN_L_part ⟨Nat.le_of_ble_eq_true rfl, Nat.le_of_ble_eq_true rfl⟩) rfl rfl (Nat.le_of_ble_eq_true rfl) ⟨Nat.le_of_ble_eq_true rfl, Nat.le_of_ble_eq_true rfl⟩ dL_isPot_127 ?_
      refine gx_icmp_ne (tgt := 325) C dL_isPot_130 (by decide) (fun c_130 => ?_) (fun c_130 => ?_)
      · skip
        exact absurd (A_of1 h hz hJ hq) c_130
      · skip
        refine gx_aload_n (q := 6) C dL_isPot_133 rfl ?_
        refine gx_iload_n (q := 7) C dL_isPot_134 rfl ?_
        refine gx_iconst (v := 2) C dL_isPot_135 (by decide) ?_
        refine gx_callQ C hI (k_X6_of l (lw_pn hI) (IV_ok h) _ _) (cwV 2 C.2.2.2.2.1 gL_isPot_X6_of rfl rfl rfl kdV_X6_of ⟨Nat.le_of_ble_eq_true rfl, Nat.le_of_ble_eq_true rfl⟩) rfl rfl (Nat.le_of_ble_eq_true rfl) ⟨Nat.le_of_ble_eq_true rfl, Nat.le_of_ble_eq_true rfl⟩ dL_isPot_136 ?_
        refine gx_iload (q := 3) C dL_isPot_139 rfl ?_
        refine gx_icmp_ne (tgt := 325) C dL_isPot_141 (by decide) (fun c_141 => ?_) (fun c_141 => ?_)
        · skip
          exact absurd (A_of2 h hz hJ hq) c_141
        · skip
          refine gx_aload_n (q := 6) C dL_isPot_144 rfl ?_
          refine gx_iload_n (q := 7) C dL_isPot_145 rfl ?_
          refine gx_iconst (v := 3) C dL_isPot_146 (by decide) ?_
          refine gx_callQ C hI (k_X6_of l (lw_pn hI) (IV_ok h) _ _) (cwV 2 C.2.2.2.2.1 gL_isPot_X6_of rfl rfl rfl kdV_X6_of ⟨Nat.le_of_ble_eq_true rfl, Nat.le_of_ble_eq_true rfl⟩) rfl rfl (Nat.le_of_ble_eq_true rfl) ⟨Nat.le_of_ble_eq_true rfl, Nat.le_of_ble_eq_true rfl⟩ dL_isPot_147 ?_
          refine gx_join (pc2 := 166) ((if 24 ≤ (pt (z.2.1 pq) 4) then ((pt (z.2.1 pq) 4) - 23) else 0) : Int32) ?_ (fun jj_150 => ?_)
          · skip
            refine gx_icmp_ne (tgt := 325) C dL_isPot_166 (by decide) (fun c_166 => ?_) (fun c_166 => ?_)
            · skip
              exact absurd (A_of3 h hz hJ hq) c_166
            · skip
              refine gx_aload_n (q := 6) C dL_isPot_169 rfl ?_
              refine gx_iload_n (q := 7) C dL_isPot_170 rfl ?_
              refine gx_iconst (v := 4) C dL_isPot_171 (by decide) ?_
              refine gx_callQ C hI (k_X6_of l (lw_pn hI) (IV_ok h) _ _) (cwV 2 C.2.2.2.2.1 gL_isPot_X6_of rfl rfl rfl kdV_X6_of ⟨Nat.le_of_ble_eq_true rfl, Nat.le_of_ble_eq_true rfl⟩) rfl rfl (Nat.le_of_ble_eq_true rfl) ⟨Nat.le_of_ble_eq_true rfl, Nat.le_of_ble_eq_true rfl⟩ dL_isPot_172 ?_
              refine gx_join (pc2 := 189) ((if 24 ≤ (pt (z.2.1 pq) 4) then (-6) else (pt (z.2.1 pq) 4)) : Int32) ?_ (fun jj_175 => ?_)
              · skip
                refine gx_icmp_ne (tgt := 325) C dL_isPot_189 (by decide) (fun c_189 => ?_) (fun c_189 => ?_)
                · skip
                  exact absurd (A_of4 h hz hJ hq) c_189
                · skip
                  refine gx_join0 (pc2 := 210) ?_ (fun jj_192 => ?_)
                  · skip
                    refine gx_aload_n (q := 6) C dL_isPot_210 rfl ?_
                    refine gx_iload_n (q := 7) C dL_isPot_211 rfl ?_
                    refine gx_bipush (v := 6) C dL_isPot_212 (by decide) ?_
                    refine gx_callQ C hI (k_X6_of l (lw_pn hI) (IV_ok h) _ _) (cwV 2 C.2.2.2.2.1 gL_isPot_X6_of rfl rfl rfl kdV_X6_of ⟨Nat.le_of_ble_eq_true rfl, Nat.le_of_ble_eq_true rfl⟩) rfl rfl (Nat.le_of_ble_eq_true rfl) ⟨Nat.le_of_ble_eq_true rfl, Nat.le_of_ble_eq_true rfl⟩ dL_isPot_214 ?_
                    refine gx_join (pc2 := 240) ((if (pt (z.2.1 pq) 7) ≤ 0 then (-6) else (pt (z.2.1 pq) 2)) : Int32) ?_ (fun jj_217 => ?_)
                    · skip
                      refine gx_icmp_ne (tgt := 325) C dL_isPot_240 (by decide) (fun c_240 => ?_) (fun c_240 => ?_)
                      · skip
                        exact absurd (A_of6 h hz hJ hq) c_240
                      · skip
                        refine gx_aload_n (q := 6) C dL_isPot_243 rfl ?_
                        refine gx_iload_n (q := 7) C dL_isPot_244 rfl ?_
                        refine gx_bipush (v := 7) C dL_isPot_245 (by decide) ?_
                        refine gx_callQ C hI (k_X6_of l (lw_pn hI) (IV_ok h) _ _) (cwV 2 C.2.2.2.2.1 gL_isPot_X6_of rfl rfl rfl kdV_X6_of ⟨Nat.le_of_ble_eq_true rfl, Nat.le_of_ble_eq_true rfl⟩) rfl rfl (Nat.le_of_ble_eq_true rfl) ⟨Nat.le_of_ble_eq_true rfl, Nat.le_of_ble_eq_true rfl⟩ dL_isPot_247 ?_
                        refine gx_join (pc2 := 276) ((if (pt (z.2.1 pq) 6) ≤ 0 then (-6) else ((pt (z.2.1 pq) 6) - 1)) : Int32) ?_ (fun jj_250 => ?_)
                        · skip
                          refine gx_icmp_ne (tgt := 325) C dL_isPot_276 (by decide) (fun c_276 => ?_) (fun c_276 => ?_)
                          · skip
                            exact absurd (A_of7 h hz hJ hq) c_276
                          · skip
                            refine gx_aload_n (q := 6) C dL_isPot_279 rfl ?_
                            refine gx_iload_n (q := 7) C dL_isPot_280 rfl ?_
                            refine gx_bipush (v := 8) C dL_isPot_281 (by decide) ?_
                            refine gx_callQ C hI (k_X6_of l (lw_pn hI) (IV_ok h) _ _) (cwV 2 C.2.2.2.2.1 gL_isPot_X6_of rfl rfl rfl kdV_X6_of ⟨Nat.le_of_ble_eq_true rfl, Nat.le_of_ble_eq_true rfl⟩) rfl rfl (Nat.le_of_ble_eq_true rfl) ⟨Nat.le_of_ble_eq_true rfl, Nat.le_of_ble_eq_true rfl⟩ dL_isPot_283 ?_
                            refine gx_aload_n (q := 9) C dL_isPot_286 rfl ?_
                            refine gx_iload_n (q := 7) C dL_isPot_287 rfl ?_
                            refine gx_laldN C (lw_mb hI) (lw_eb hI) rfl (by omega) (by decide) dL_isPot_288 ?_
                            refine gx_bipush (v := 7) C dL_isPot_289 (by decide) ?_
                            refine gx_callRS C (k_L_part l (z.2.1 pq) 7) (va_cwS 2 C.2.2.2.2.1 gL_isPot_L_part rfl rfl rfl kdN_L_part ⟨Nat.le_of_ble_eq_true rfl, Nat.le_of_ble_eq_true rfl⟩) rfl rfl (Nat.le_of_ble_eq_true rfl) ⟨Nat.le_of_ble_eq_true rfl, Nat.le_of_ble_eq_true rfl⟩ dL_isPot_291 ?_
                            refine gx_icmp_ne (tgt := 325) C dL_isPot_294 (by decide) (fun c_294 => ?_) (fun c_294 => ?_)
                            · skip
                              exact absurd (A_of8 h hz hJ hq) c_294
                            · skip
                              refine gx_aload_n (q := 6) C dL_isPot_297 rfl ?_
                              refine gx_iload_n (q := 7) C dL_isPot_298 rfl ?_
                              refine gx_callQ C hI (k_X6_why l (lw_pn hI) (IV_ok h) _) (cwV 1 C.2.2.2.2.1 gL_isPot_X6_why rfl rfl rfl kdV_X6_why ⟨Nat.le_of_ble_eq_true rfl, Nat.le_of_ble_eq_true rfl⟩) rfl rfl (Nat.le_of_ble_eq_true rfl) ⟨Nat.le_of_ble_eq_true rfl, Nat.le_of_ble_eq_true rfl⟩ dL_isPot_299 ?_
                              refine gx_iload_n (q := 7) C dL_isPot_302 rfl ?_
                              refine gx_aload_n (q := 8) C dL_isPot_303 rfl ?_
                              refine gx_aload_n (q := 9) C dL_isPot_304 rfl ?_
                              refine gx_callRS C (k_L_why l (lw_mg hI) (lw_eg hI) (lw_mb hI) (lw_eb hI) pq hn hn2 (by omega)) (va_cwS 3 C.2.2.2.2.1 gL_isPot_L_why rfl rfl rfl kdN_L_why ⟨Nat.le_of_ble_eq_true rfl, Nat.le_of_ble_eq_true rfl⟩) rfl rfl (Nat.le_of_ble_eq_true rfl) ⟨Nat.le_of_ble_eq_true rfl, Nat.le_of_ble_eq_true rfl⟩ dL_isPot_305 ?_
                              refine gx_icmp_ne (tgt := 325) C dL_isPot_308 (by decide) (fun c_308 => ?_) (fun c_308 => ?_)
                              · skip
                                exact absurd (A_why h hz hq) c_308
                              · skip
                                refine gx_aload_n (q := 6) C dL_isPot_311 rfl ?_
                                refine gx_iload_n (q := 7) C dL_isPot_312 rfl ?_
                                refine gx_callQ C hI (k_X6_dryIn l (lw_pn hI) (IV_ok h) _) (cwV 1 C.2.2.2.2.1 gL_isPot_X6_dryIn rfl rfl rfl kdV_X6_dryIn ⟨Nat.le_of_ble_eq_true rfl, Nat.le_of_ble_eq_true rfl⟩) rfl rfl (Nat.le_of_ble_eq_true rfl) ⟨Nat.le_of_ble_eq_true rfl, Nat.le_of_ble_eq_true rfl⟩ dL_isPot_313 ?_
                                refine gx_iload (q := 0) C dL_isPot_316 rfl ?_
                                refine gx_icmp_ne (tgt := 325) C dL_isPot_318 (by decide) (fun c_318 => ?_) (fun c_318 => ?_)
                                · skip
                                  exact absurd (A_dryIn h hz hq) c_318
                                · skip
                                  refine gx_iconst (v := 1) C dL_isPot_321 (by decide) ?_
                                  refine gx_goto (tgt := 326) C dL_isPot_322 (by decide) ?_
                                  exact gx_zretR C rfl hr (Or.inr rfl) dL_isPot_326 rfl
                        refine gx_aload_n (q := 9) C dL_isPot_250 rfl ?_
                        refine gx_iload_n (q := 7) C dL_isPot_251 rfl ?_
                        refine gx_laldN C (lw_mb hI) (lw_eb hI) rfl (by omega) (by decide) dL_isPot_252 ?_
                        refine gx_bipush (v := 6) C dL_isPot_253 (by decide) ?_
                        refine gx_callRS C (k_L_part l (z.2.1 pq) 6) (va_cwS 2 C.2.2.2.2.1 gL_isPot_L_part rfl rfl rfl kdN_L_part ⟨Nat.le_of_ble_eq_true rfl, Nat.le_of_ble_eq_true rfl⟩) rfl rfl (Nat.le_of_ble_eq_true rfl) ⟨Nat.le_of_ble_eq_true rfl, Nat.le_of_ble_eq_true rfl⟩ dL_isPot_255 ?_
                        refine gx_if_le (tgt := 274) C dL_isPot_258 (by decide) (fun c_258 => ?_) (fun c_258 => ?_)
                        · skip
                          refine gx_iload (q := 5) C dL_isPot_274 rfl ?_
                          exact jj_250 _ ((if_pos c_258).trans (rfl)).symm
                        · skip
                          refine gx_aload_n (q := 9) C dL_isPot_261 rfl ?_
                          refine gx_iload_n (q := 7) C dL_isPot_262 rfl ?_
                          refine gx_laldN C (lw_mb hI) (lw_eb hI) rfl (by omega) (by decide) dL_isPot_263 ?_
                          refine gx_bipush (v := 6) C dL_isPot_264 (by decide) ?_
                          refine gx_callRS C (k_L_part l (z.2.1 pq) 6) (va_cwS 2 C.2.2.2.2.1 gL_isPot_L_part rfl rfl rfl kdN_L_part ⟨Nat.le_of_ble_eq_true rfl, Nat.le_of_ble_eq_true rfl⟩) rfl rfl (Nat.le_of_ble_eq_true rfl) ⟨Nat.le_of_ble_eq_true rfl, Nat.le_of_ble_eq_true rfl⟩ dL_isPot_266 ?_
                          refine gx_iconst (v := 1) C dL_isPot_269 (by decide) ?_
                          refine gx_isub C dL_isPot_270 ?_
                          refine gx_goto (tgt := 276) C dL_isPot_271 (by decide) ?_
                          exact jj_250 _ ((if_neg c_258).trans (rfl)).symm
                    refine gx_aload_n (q := 9) C dL_isPot_217 rfl ?_
                    refine gx_iload_n (q := 7) C dL_isPot_218 rfl ?_
                    refine gx_laldN C (lw_mb hI) (lw_eb hI) rfl (by omega) (by decide) dL_isPot_219 ?_
                    refine gx_bipush (v := 7) C dL_isPot_220 (by decide) ?_
                    refine gx_callRS C (k_L_part l (z.2.1 pq) 7) (va_cwS 2 C.2.2.2.2.1 gL_isPot_L_part rfl rfl rfl kdN_L_part ⟨Nat.le_of_ble_eq_true rfl, Nat.le_of_ble_eq_true rfl⟩) rfl rfl (Nat.le_of_ble_eq_true rfl) ⟨Nat.le_of_ble_eq_true rfl, Nat.le_of_ble_eq_true rfl⟩ dL_isPot_222 ?_
                    refine gx_if_le (tgt := 238) C dL_isPot_225 (by decide) (fun c_225 => ?_) (fun c_225 => ?_)
                    · skip
                      refine gx_iload (q := 5) C dL_isPot_238 rfl ?_
                      exact jj_217 _ ((if_pos c_225).trans (rfl)).symm
                    · skip
                      refine gx_aload_n (q := 9) C dL_isPot_228 rfl ?_
                      refine gx_iload_n (q := 7) C dL_isPot_229 rfl ?_
                      refine gx_laldN C (lw_mb hI) (lw_eb hI) rfl (by omega) (by decide) dL_isPot_230 ?_
                      refine gx_iconst (v := 2) C dL_isPot_231 (by decide) ?_
                      refine gx_callRS C (k_L_part l (z.2.1 pq) 2) (va_cwS 2 C.2.2.2.2.1 gL_isPot_L_part rfl rfl rfl kdN_L_part ⟨Nat.le_of_ble_eq_true rfl, Nat.le_of_ble_eq_true rfl⟩) rfl rfl (Nat.le_of_ble_eq_true rfl) ⟨Nat.le_of_ble_eq_true rfl, Nat.le_of_ble_eq_true rfl⟩ dL_isPot_232 ?_
                      refine gx_goto (tgt := 240) C dL_isPot_235 (by decide) ?_
                      exact jj_217 _ ((if_neg c_225).trans (rfl)).symm
                  refine gx_iload (q := 2) C dL_isPot_192 rfl ?_
                  refine gx_bipush (v := 60) C dL_isPot_194 (by decide) ?_
                  refine gx_icmp_eq (tgt := 210) C dL_isPot_196 (by decide) (fun c_196 => ?_) (fun c_196 => ?_)
                  · skip
                    exact jj_192
                  · skip
                    refine gx_aload_n (q := 6) C dL_isPot_199 rfl ?_
                    refine gx_iload_n (q := 7) C dL_isPot_200 rfl ?_
                    refine gx_iconst (v := 5) C dL_isPot_201 (by decide) ?_
                    refine gx_callQ C hI (k_X6_of l (lw_pn hI) (IV_ok h) _ _) (cwV 2 C.2.2.2.2.1 gL_isPot_X6_of rfl rfl rfl kdV_X6_of ⟨Nat.le_of_ble_eq_true rfl, Nat.le_of_ble_eq_true rfl⟩) rfl rfl (Nat.le_of_ble_eq_true rfl) ⟨Nat.le_of_ble_eq_true rfl, Nat.le_of_ble_eq_true rfl⟩ dL_isPot_202 ?_
                    refine gx_iload (q := 2) C dL_isPot_205 rfl ?_
                    refine gx_icmp_ne (tgt := 325) C dL_isPot_207 (by decide) (fun c_207 => ?_) (fun c_207 => ?_)
                    · skip
                      exact absurd (A_of5 h hz hJ hq c_196) c_207
                    · skip
                      exact jj_192
              refine gx_iload (q := 4) C dL_isPot_175 rfl ?_
              refine gx_bipush (v := 24) C dL_isPot_177 (by decide) ?_
              refine gx_icmp_ge (tgt := 187) C dL_isPot_179 (by decide) (fun c_179 => ?_) (fun c_179 => ?_)
              · skip
                refine gx_iload (q := 5) C dL_isPot_187 rfl ?_
                exact jj_175 _ ((if_pos c_179).trans (rfl)).symm
              · skip
                refine gx_iload (q := 4) C dL_isPot_182 rfl ?_
                refine gx_goto (tgt := 189) C dL_isPot_184 (by decide) ?_
                exact jj_175 _ ((if_neg c_179).trans (rfl)).symm
          refine gx_iload (q := 4) C dL_isPot_150 rfl ?_
          refine gx_bipush (v := 24) C dL_isPot_152 (by decide) ?_
          refine gx_icmp_ge (tgt := 161) C dL_isPot_154 (by decide) (fun c_154 => ?_) (fun c_154 => ?_)
          · skip
            refine gx_iload (q := 4) C dL_isPot_161 rfl ?_
            refine gx_bipush (v := 23) C dL_isPot_163 (by decide) ?_
            refine gx_isub C dL_isPot_165 ?_
            exact jj_150 _ ((if_pos c_154).trans (rfl)).symm
          · skip
            refine gx_iconst (v := 0) C dL_isPot_157 (by decide) ?_
            refine gx_goto (tgt := 166) C dL_isPot_158 (by decide) ?_
            exact jj_150 _ ((if_neg c_154).trans (rfl)).symm
  refine gx_iload (q := 2) C dL_isPot_47 rfl ?_
  refine gx_if_eq (tgt := 56) C dL_isPot_49 (by decide) (fun c_49 => ?_) (fun c_49 => ?_)
  · skip
    refine gx_iload (q := 3) C dL_isPot_56 rfl ?_
    refine gx_bipush (v := 24) C dL_isPot_58 (by decide) ?_
    refine gx_icmp_ne (tgt := 68) C dL_isPot_60 (by decide) (fun c_60 => ?_) (fun c_60 => ?_)
    · skip
      refine gx_iload (q := 0) C dL_isPot_68 rfl ?_
      refine gx_iconst (v := 1) C dL_isPot_70 (by decide) ?_
      refine gx_icmp_ge (tgt := 78) C dL_isPot_71 (by decide) (fun c_71 => ?_) (fun c_71 => ?_)
      · skip
        refine gx_iload (q := 3) C dL_isPot_78 rfl ?_
        refine gx_bipush (v := 8) C dL_isPot_80 (by decide) ?_
        refine gx_icmp_ge (tgt := 97) C dL_isPot_82 (by decide) (fun c_82 => ?_) (fun c_82 => ?_)
        · skip
          refine gx_iload (q := 0) C dL_isPot_97 rfl ?_
          exact jj_47 _ ((if_pos c_49).trans ((if_neg c_60).trans ((if_pos c_71).trans ((if_pos c_82).trans (rfl))))).symm
        · skip
          refine gx_iload (q := 0) C dL_isPot_85 rfl ?_
          refine gx_iconst (v := 2) C dL_isPot_87 (by decide) ?_
          refine gx_idiv C (by decide) dL_isPot_88 ?_
          refine gx_iload (q := 0) C dL_isPot_89 rfl ?_
          refine gx_iconst (v := 2) C dL_isPot_91 (by decide) ?_
          refine gx_irem C (by decide) dL_isPot_92 ?_
          refine gx_iadd C dL_isPot_93 ?_
          refine gx_goto (tgt := 99) C dL_isPot_94 (by decide) ?_
          exact jj_47 _ ((if_pos c_49).trans ((if_neg c_60).trans ((if_pos c_71).trans ((if_neg c_82).trans (rfl))))).symm
      · skip
        refine gx_iconst (v := 0) C dL_isPot_74 (by decide) ?_
        refine gx_goto (tgt := 99) C dL_isPot_75 (by decide) ?_
        exact jj_47 _ ((if_pos c_49).trans ((if_neg c_60).trans ((if_neg c_71).trans (rfl)))).symm
    · skip
      refine gx_bipush (v := (-5)) C dL_isPot_63 (by decide) ?_
      refine gx_goto (tgt := 99) C dL_isPot_65 (by decide) ?_
      exact jj_47 _ ((if_pos c_49).trans ((if_pos c_60).trans (rfl))).symm
  · skip
    refine gx_iconst (v := 0) C dL_isPot_52 (by decide) ?_
    refine gx_goto (tgt := 99) C dL_isPot_53 (by decide) ?_
    exact jj_47 _ ((if_neg c_49).trans (rfl)).symm
