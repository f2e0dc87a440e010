theorem getD_l {X Y : List Nat} {i : Nat} (h : i < X.length) : (X ++ Y).getD i 0 = X.getD i 0 := by
  rw [List.getD, List.getD, List.getElem?_append_left h]
theorem getD_r {X Y : List Nat} {n i : Nat} (h : X.length = n) : (X ++ Y).getD (n + i) 0 = Y.getD i 0 := by
  rw [List.getD, List.getD, List.getElem?_append_right (by omega), show n + i - X.length = i by omega]
theorem wsB_l {X Y : List Nat} {b : Nat} (h : b + 27 ≤ X.length) (i : Nat) (hi : i < 27) : wsB (X ++ Y) b i = wsB X b i := getD_l (by have := wsPi_lt i hi; omega)
theorem wsB_r {X Y : List Nat} {b : Nat} (h : X.length = b) (i : Nat) : wsB (X ++ Y) b i = wsB Y 0 i := by
  unfold wsB
  rw [getD_r h, Nat.zero_add]
theorem isWS_0h {k : gK} {L N : List Nat} {f : Nat → va_E} {q : Nat} {w : WS} (h : isWS k L f (wsB (q :: N) 0) w) : ∃ vs, f q = .inr (5, vs) := ⟨_, isWS_0 h⟩
theorem kdN_X1_init : yX1_init.cls ≠ "java/lang/invoke/MethodHandle" ∧ yX1_init.cls ≠ "java/lang/invoke/VarHandle" ∧ (parseMethodDescriptor yX1_init.desc).map (fun d => d.parameters.length) = some 0 := by decide +kernel
theorem wd_X1_init_oi : Cond.methodLink RX1 3 objectInit ∈ wsX1_init := by decide +kernel
theorem wd_X1_init_oj : Cond.instanceMethod objectInit ∈ wsX1_init := by decide +kernel
theorem wd_X1_init_ok : Cond.code objectInit ⟨#[0xb1]⟩ 1 none ∈ wsX1_init := by decide +kernel
theorem wd_X1_init_cl11 : Cond.classLink RX1 11 RX5 ∈ wsX1_init := by decide +kernel
theorem in_X1_init_1 : ∀ w ∈ u_ws RX1 TX1 3, w ∈ wsX1_init := by decide +kernel
theorem fl_X1_init_13 : Cond.fieldLink RX1 13 (TX1 0).1 (TX1 0).2.1 (TX1 0).2.2.1 ∈ wsX1_init := by decide +kernel
theorem wd_X1_init_inRX5 : Cond.instantiable RX5 8 ∈ wsX1_init := by decide +kernel
theorem wd_X1_init_iiRX5 : Cond.initialized RX5 ∈ wsX1_init := by decide +kernel
theorem wd_X1_init_ml17 : Cond.methodLink RX1 17 yX5_init ∈ wsX1_init := by decide +kernel
theorem wd_X1_init_im_X5_init : Cond.instanceMethod yX5_init ∈ wsX1_init := by decide +kernel
theorem in_X1_init_5 : ∀ w ∈ u_ws RX5 TX5 8, w ∈ wsX1_init := by decide +kernel
abbrev rmX1_init : Room := { frames := 4, cells := 190, slots := 2212, locals := 86 }
set_option maxHeartbeats 4000000 in
set_option maxRecDepth 100000 in
theorem k_X1_init (l : Launch) {k : gK} {L : List Nat} {f : Nat → va_E} (hL : L.Nodup) {h : Nat} (hh : h ∈ L) (hf : f h = .inr (1, [.null, .int 0, .int 0])) : kA l k L f yX1_init wsX1_init rmX1_init [.ref h] 190 2212 (fun v N f2 => v = none ∧ ∃ st Ws, N = st :: Ws ∧ Ws.length = 189 ∧ f2 h = .inr (1, [.ref st, .int 0, .int 0]) ∧ (∃ g, f2 st = gWA k 7 g ∧ ∀ j, j < 7 → g j = some (wsB Ws (27 * j) 0)) ∧ (∀ j, j < 7 → isWS k (L ++ N) f2 (wsB Ws (27 * j)) wIni) ∧ ∀ x ∈ L, x ≠ h → f2 x = f x) := by
  refine kA_of (cc := cX1_init) (maxL := 2) (ret := none) hL (by decide) rfl (Nat.le_of_ble_eq_true rfl) ?_
  intro p e s m args below meth c C hr hin hAO hD
  have hA : ∀ q, s.heap.size ≤ q → q ∈ L ∨ s.heap.size ≤ q := fun _ h => Or.inr h
  have m_h := hh
  have e_h := hf
  have inc : ∀ x ∈ L, x ∈ L := fun _ h => h
  have fr : ∀ x ∈ L, x ≠ h → f x = f x := fun _ _ _ => rfl
  refine gx_lv [(0, _)] [0] rfl ?_
  refine gx_aload_n (q := 0) C dX1_init_0 rfl ?_
  refine gx_objInit C wd_X1_init_oi wd_X1_init_oj wd_X1_init_ok (Nat.le_of_ble_eq_true rfl) (Nat.le_of_ble_eq_true rfl) dX1_init_1 ?_
  refine gx_aload_n (q := 0) C dX1_init_4 rfl ?_
  refine gx_bipush (v := 7) C dX1_init_5 (by decide) ?_
  refine gx_newW C hAO hD hA (N := 7) wd_X1_init_cl11 (by decide) rfl (Nat.le_of_ble_eq_true rfl) (Nat.le_of_ble_eq_true rfl) (Nat.le_of_ble_eq_true rfl) dX1_init_7 (fun q7 hD_q7 => ?_)
  refine gx_gen (fun f_1 hf_1 => ?_)
  have n_h_q7 := gD_ne hD_q7 m_h (List.mem_singleton.mpr rfl)
  have nL_q7 : ∀ x ∈ L, x ≠ q7 := fun x hx => gD_ne hD_q7 (inc x hx) (List.mem_singleton.mpr rfl)
  have e_h := (show f_1 h = f h by rw [hf_1, va_up_of _ n_h_q7]).trans e_h
  have m_h := List.mem_append_left [q7] m_h
  have fr : ∀ x ∈ L, x ≠ h → f_1 x = f x := fun x hx hne => (show f_1 x = f x by rw [hf_1, va_up_of _ (nL_q7 x hx)]).trans (fr x hx hne)
  have inc : ∀ x ∈ L, x ∈ (L ++ [q7]) := fun x hx => List.mem_append_left _ (inc x hx)
  have m_q7 : q7 ∈ (L ++ [q7]) := List.mem_append_right _ (List.mem_singleton.mpr rfl)
  have e_q7 : f_1 q7 = gWA k 7 (fun _ => none) := by rw [hf_1, va_up_at]
  refine gx_putF C hD_q7 (i := 0) (ty := (.array (.object RX5))) tyX1_ok nmX1 m_h e_h rfl in_X1_init_1 (by decide) fl_X1_init_13 rfl hin rfl (by decide +kernel) rfl rfl (Nat.le_of_ble_eq_true rfl) rfl dX1_init_10 ?_
  refine gx_gen (fun f_2 hf_2 => ?_)
  have e_q7 := (show f_2 q7 = f_1 q7 by rw [hf_2, va_up_of _ (Ne.symm n_h_q7)]).trans e_q7
  have fr : ∀ x ∈ L, x ≠ h → f_2 x = f x := fun x hx hne => (show f_2 x = f_1 x by rw [hf_2, va_up_of _ hne]).trans (fr x hx hne)
  have e_h : f_2 h = .inr (1, [.ref q7, .int 0, .int 0]) := by rw [hf_2, va_up_at] <;> rfl
  refine gx_iconst (v := 0) C dX1_init_13 (by decide) ?_
  refine gx_istore_n C (i := 1) [(1, _), (0, _)] dX1_init_14 rfl (by decide) rfl ?_
  have loop : ∀ r i Ws f1, i + r = 7 → Ws.length = 27 * i → gD (fun q => q ∈ L ∨ s.heap.size ≤ q) ((L ++ [q7]) ++ Ws) → f1 h = .inr (1, [.ref q7, .int 0, .int 0]) → (∃ g, f1 q7 = gWA k 7 g ∧ ∀ j, j < i → g j = some (wsB Ws (27 * j) 0)) → (∀ j, j < i → isWS k ((L ++ [q7]) ++ Ws) f1 (wsB Ws (27 * j)) wIni) → (∀ x ∈ L, x ≠ h → f1 x = f x) → gW p l e (headSpec wsX1_init rmX1_init).room s m args below meth c k 2 False (fun q => q ∈ L ∨ s.heap.size ≤ q) s.heap (MQ below (gQA k L (fun v N f2 => v = none ∧ ∃ st Ws, N = st :: Ws ∧ Ws.length = 189 ∧ f2 h = .inr (1, [.ref st, .int 0, .int 0]) ∧ (∃ g, f2 st = gWA k 7 g ∧ ∀ j, j < 7 → g j = some (wsB Ws (27 * j) 0)) ∧ (∀ j, j < 7 → isWS k (L ++ N) f2 (wsB Ws (27 * j)) wIni) ∧ ∀ x ∈ L, x ≠ h → f2 x = f x) s.heap.size) args s 190 2212 (fun q => q ∈ L ∨ s.heap.size ≤ q)) ((L ++ [q7]) ++ Ws) (1 + 27 * i) (7 + 315 * i) f1 15 [(0, .ref h), (1, .int (nI i))] [] := by
    intro r
    induction r with
    | zero =>
      intro i Ws f1 hi hl hDw eh est hb fr1
      obtain ⟨gg, eg, eg2⟩ := est
      have mh : h ∈ (L ++ [q7]) ++ Ws := List.mem_append_left _ (List.mem_append_left _ hh)
      have ms : q7 ∈ (L ++ [q7]) ++ Ws := List.mem_append_left _ (List.mem_append_right _ (List.mem_singleton.mpr rfl))
      refine gx_iload_n (q := 1) C dX1_init_15 rfl ?_
      refine gx_aload_n (q := 0) C dX1_init_16 rfl ?_
      refine gx_get C (i := 0) mh eh rfl in_X1_init_1 (by decide) fl_X1_init_13 rfl dX1_init_17 ?_
      refine gx_alenW C ms eg dX1_init_20 ?_
      refine gx_icmp_ge (tgt := 43) C dX1_init_21 (by decide) (fun c_21 => ?_) (fun c_21 => ?_)
      · have hi7 : i = 7 := by omega
        subst hi7
        refine gx_vretA C hr (N := q7 :: Ws) (by simp) hDw dX1_init_43 ?_
        refine ⟨rfl, q7, Ws, rfl, hl, eh, ⟨gg, eg, eg2⟩, fun j hj => isWS_mv (hb j hj) (fun x hx => by simpa using hx) (fun _ _ => rfl), fr1⟩
      · exact absurd ((nI_leI (a := 7) (b := i) (by decide) (by omega)).mpr (by omega)) c_21
    | succ r ih =>
      intro i Ws f1 hi hl hDw eh est hb fr1
      obtain ⟨gg, eg, eg2⟩ := est
      have mh : h ∈ (L ++ [q7]) ++ Ws := List.mem_append_left _ (List.mem_append_left _ hh)
      have ms : q7 ∈ (L ++ [q7]) ++ Ws := List.mem_append_left _ (List.mem_append_right _ (List.mem_singleton.mpr rfl))
      refine gx_iload_n (q := 1) C dX1_init_15 rfl ?_
      refine gx_aload_n (q := 0) C dX1_init_16 rfl ?_
      refine gx_get C (i := 0) mh eh rfl in_X1_init_1 (by decide) fl_X1_init_13 rfl dX1_init_17 ?_
      refine gx_alenW C ms eg dX1_init_20 ?_
      refine gx_icmp_ge (tgt := 43) C dX1_init_21 (by decide) (fun c_21 => ?_) (fun c_21 => ?_)
      · exact absurd ((nI_leI (a := 7) (b := i) (by decide) (by omega)).mp c_21) (by omega)
      · skip
        refine gx_aload_n (q := 0) C dX1_init_24 rfl ?_
        refine gx_get C (i := 0) mh eh rfl in_X1_init_1 (by decide) fl_X1_init_13 rfl dX1_init_25 ?_
        refine gx_iload_n (q := 1) C dX1_init_28 rfl ?_
        refine gx_new C hDw hA (ci := 5) (fs := [.null, .null, .null, .null, .null, .int 0, .int 0, .int 0]) tyX5_ok rfl in_X1_init_5 wd_X1_init_cl11 wd_X1_init_inRX5 wd_X1_init_iiRX5 (fun j hj => by rcases (show j = 0 ∨ j = 1 ∨ j = 2 ∨ j = 3 ∨ j = 4 ∨ j = 5 ∨ j = 6 ∨ j = 7 by omega) with rfl | rfl | rfl | rfl | rfl | rfl | rfl | rfl <;> rfl) (show 1 + 27 * i + 1 ≤ 190 by omega) (show 7 + 315 * i + 8 ≤ 2212 by omega) dX1_init_29 (fun q hDq => ?_)
        refine gx_gen (fun f2 hf2 => ?_)
        have nq : ∀ x ∈ (L ++ [q7]) ++ Ws, x ≠ q := fun x hx => gD_ne hDq hx (List.mem_singleton.mpr rfl)
        have o2 : ∀ x ∈ (L ++ [q7]) ++ Ws, f2 x = f1 x := fun x hx => by rw [hf2, va_up_of _ (nq x hx)]
        have mq : q ∈ ((L ++ [q7]) ++ Ws) ++ [q] := List.mem_append_right _ (List.mem_singleton.mpr rfl)
        have eq : f2 q = .inr (5, [.null, .null, .null, .null, .null, .int 0, .int 0, .int 0]) := by rw [hf2, va_up_at]
        refine gx_dup C rfl dX1_init_32 ?_
        refine gx_callI C hAO hDq hA (k_X5_init l hDq.1 mq eq) (cwI 0 C.2.2.2.2.1 gX1_init_X5_init rfl rfl rfl (C.2.2.2.2.1 _ wd_X1_init_iiRX5) (C.2.2.2.2.1 _ wd_X1_init_ml17) (C.2.2.2.2.1 _ wd_X1_init_im_X5_init) rfl kdN_X5_init ⟨Nat.le_of_ble_eq_true rfl, Nat.le_of_ble_eq_true rfl⟩) rfl rfl (Nat.le_of_ble_eq_true rfl) ⟨show 1 + 27 * i + 1 + 26 ≤ 190 by omega, show 7 + 315 * i + 8 + 307 ≤ 2212 by omega⟩ dX1_init_33 (fun v N f3 hp hD3 => ?_)
        obtain ⟨rfl, hN, hW, fr3⟩ := hp
        refine gx_nil ?_
        have o3 : ∀ x ∈ (L ++ [q7]) ++ Ws, f3 x = f1 x := fun x hx => (fr3 x (List.mem_append_left _ hx) (nq x hx)).trans (o2 x hx)
        obtain ⟨vs, hvs⟩ := isWS_0h hW
        have hlt : i < 7 := by omega
        refine gx_aast C hD3 (List.mem_append_left _ (List.mem_append_left _ ms)) ((o3 q7 ms).trans eg) (List.mem_append_left _ mq) hvs (vp_in_nI hlt (by decide)) dX1_init_36 ?_
        refine gx_gen (fun f4 hf4 => ?_)
        rw [nI_clamp (show i < 2 ^ 31 by omega)] at hf4
        have o4 : ∀ x, x ≠ q7 → f4 x = f3 x := fun x hx => by rw [hf4, va_up_of _ hx]
        refine gx_iinc C (q := 1) (v := nI (i + 1)) [(1, _), (0, _)] dX1_init_37 rfl (nI_inc i) (by decide) rfl ?_
        refine gx_goto (tgt := 15) C dX1_init_40 (by decide) ?_
        have hLc : (((L ++ [q7]) ++ Ws) ++ [q]) ++ N = (L ++ [q7]) ++ (Ws ++ (q :: N)) := by simp
        have hD4 := hD3
        rw [hLc] at hD4
        have hW4 := hW
        rw [hLc] at hW4
        have wneq : ∀ x ∈ Ws ++ (q :: N), x ≠ q7 := fun x hx => Ne.symm (gD_ne hD4 (List.mem_append_right _ (List.mem_singleton.mpr rfl)) hx)
        have hne : q7 ≠ h := fun z => gD_ne hD_q7 hh (List.mem_singleton.mpr rfl) z.symm
        have nLq : ∀ x ∈ L, x ≠ q7 := fun x hx => gD_ne hD_q7 hx (List.mem_singleton.mpr rfl)
        refine gx_lv [(0, .ref h), (1, .int (nI (i + 1)))] [1, 0] rfl ?_
        have key := ih (i + 1) (Ws ++ (q :: N)) f4 (by omega) (by rw [List.length_append, List.length_cons, hl, hN]; omega) hD4 ((o4 h hne.symm).trans ((o3 h mh).trans eh)) ⟨va_up gg i (some q), by rw [hf4, va_up_at], fun j hj => ?_⟩ (fun j hj => ?_) (fun x hx hn => (o4 x (nLq x hx)).trans ((o3 x (List.mem_append_left _ (List.mem_append_left _ hx))).trans (fr1 x hx hn)))
        · rw [← hLc] at key
          exact gx_widen (Nat.le_of_eq (by omega)) (Nat.le_of_eq (by omega)) key
        · by_cases hji : j = i
          · subst hji
            rw [va_up_at, wsB_r hl]; rfl
          · rw [va_up_of _ hji, eg2 j (by omega), wsB_l (by omega) 0 (by omega)]
        · by_cases hji : j = i
          · subst hji
            refine isWS_a (a := wsB (q :: N) 0) (isWS_mv hW4 (fun _ h => h) (fun t ht => o4 _ (wneq _ (List.mem_append_right _ (wsB_in (by rw [List.length_cons, hN]; decide) t ht))))) (fun t _ => wsB_r hl t)
          · have hj2 : j < i := by omega
            refine isWS_a (a := wsB Ws (27 * j)) (isWS_mv (hb j hj2) (fun x hx => ?_) (fun t ht => ?_)) (fun t ht => wsB_l (by omega) t ht)
            · rcases List.mem_append.mp hx with z | z
              · exact List.mem_append_left _ z
              · exact List.mem_append_right _ (List.mem_append_left _ z)
            · have hm := wsB_in (T := Ws) (b := 27 * j) (by omega) t ht
              exact (o4 _ (wneq _ (List.mem_append_left _ hm))).trans (o3 _ (List.mem_append_right _ hm))
  have eloop := loop 7 0 [] f_2 (by omega) rfl (by rw [List.append_nil]; exact hD_q7) e_h ⟨_, e_q7, fun j hj => absurd hj (Nat.not_lt_zero _)⟩ (fun j hj => absurd hj (Nat.not_lt_zero _)) fr
  rw [List.append_nil] at eloop
  exact gx_lv [(0, .ref h), (1, .int (nI 0))] [1, 0] rfl eloop
